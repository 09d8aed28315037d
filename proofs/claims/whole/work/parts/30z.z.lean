/-! own words: numbers read one by one, as the class reads them -/
section XFGR
variable {s : Nat → Int32} {L n P k p : Nat} {t u : Nat → Int32}
theorem xfg_rd1 (h : xfg s L n P t k = (true, p, u)) (hd : xdg s L p) (hl : xlet s L (p + xrd s L p) = (if n - 1 ≤ k then nI 59 else nI 44)) : xfg s L n P t (k + 1) = (true, p + xrd s L p + 1, upd u k (nI (xrv s L p))) := by
  have hz : (if n - 1 ≤ k then nI 59 else nI 44) = nI 59 ∨ (if n - 1 ≤ k then nI 59 else nI 44) = nI 44 := by
    split
    · exact Or.inl rfl
    · exact Or.inr rfl
  have hc := Eq.mpr (xnd_rd hz) ⟨hd, hl⟩
  obtain ⟨e1, e2⟩ := xval_rd hd hc.1
  have h1 := xfg_1 (s := s) (len := L) (n := n) (p := P) (t := t) (k := k) (by rw [h]) (by rw [h]; exact hc)
  rw [h1, h]
  dsimp only
  rw [e2, e1]
theorem xfg_rd0 (h : xfg s L n P t k = (true, p, u)) (hk : k < n) (hn : ¬ (xdg s L p ∧ xlet s L (p + xrd s L p) = (if n - 1 ≤ k then nI 59 else nI 44))) : ∃ (q : Nat) (w : Nat → Int32), xfg s L n P t n = (false, q, w) := by
  have hz : (if n - 1 ≤ k then nI 59 else nI 44) = nI 59 ∨ (if n - 1 ≤ k then nI 59 else nI 44) = nI 44 := by
    split
    · exact Or.inl rfl
    · exact Or.inr rfl
  have hc := fun z => hn (Eq.mp (xnd_rd hz) z)
  have h1 := xfg_0 (s := s) (len := L) (n := n) (p := P) (t := t) (k := k) (by rw [h]) (by rw [h]; exact hc)
  exact ⟨_, _, xfg_end hk h1⟩
end XFGR
