/-! own words: letters told alone; who goes hungry first -/
section XLC
variable {s s' : Nat → Int32} {L : Nat}
theorem xlet_same (h : ∀ j, j < L → s j = s' j) (k : Nat) : xlet s L k = xlet s' L k := by
  unfold xlet
  split
  · exact h k (by assumption)
  · rfl
theorem xnd_same (he : ∀ k, xlet s L k = xlet s' L k) (p : Nat) : xnd s L p = xnd s' L p := by
  simp only [xnd, xdg, he]
theorem xval_same (he : ∀ k, xlet s L k = xlet s' L k) (p : Nat) : ∀ f, xval s L p f = xval s' L p f
  | 0 => rfl
  | f + 1 => by
    rw [xval, xval, xval_same he p f, he]
theorem xfg_same (he : ∀ k, xlet s L k = xlet s' L k) (n p : Nat) (t : Nat → Int32) : ∀ k, xfg s L n p t k = xfg s' L n p t k
  | 0 => rfl
  | k + 1 => by
    have ih := xfg_same he n p t k
    rw [xfg, xfg, ih]
    simp only [xnd_same he, he, xval_same he]
theorem xItem_same (he : ∀ k, xlet s L k = xlet s' L k) (S : Nat → Nat → Int32) (sp : Nat) (tt : Nat → Int32) : xItem s L S sp tt = xItem s' L S sp tt := by
  unfold xItem
  simp only [he, xfg_same he]
theorem xAll_same (he : ∀ k, xlet s L k = xlet s' L k) : ∀ (f : Nat) (S : Nat → Nat → Int32) (sp : Nat) (tt : Nat → Int32), xAll s L f S sp tt = xAll s' L f S sp tt
  | 0, _, _, _ => rfl
  | f + 1, S, sp, tt => by
    rw [xAll, xAll, xItem_same he]
    split
    · rfl
    · split
      · exact xAll_same he f _ _ _
      · rfl
end XLC
section XHUN
variable {kd : Nat → Int32} {G nH : Nat} {ei eo pa : Nat → Int32} {E : Nat} {z : Int32}
theorem xhun_same {K K' F F' : Nat → Int32} : ∀ n, n ≤ 8 → (∀ i, i < 8 → K (59 + i) = K' (59 + i)) → (∀ i, i < 8 → F (59 + i) = F' (59 + i)) → xhun K F n = xhun K' F' n
  | 0, _, _, _ => rfl
  | n + 1, hn, h, h2 => by
    rw [xhun, xhun, xhun_same n (by omega) h h2, h n (by omega), h2 n (by omega)]
theorem kEF_hun {t : Nat} {K : Nat → Int32} {c : Int32} : ∀ n, n ≤ 8 → okE ei eo pa n → (∀ i, n ≤ i → i < 8 → (kEF ei eo pa t z (K, -4, c) n).1 (59 + i) = K (59 + i)) ∧ (((kEF ei eo pa t z (K, -4, c) n).2.1 = (-4) ∧ ∀ i, i < 8 → (kEF ei eo pa t z (K, -4, c) n).1 (59 + i) = K (59 + i)) ∨ ∃ w, w < n ∧ (kEF ei eo pa t z (K, -4, c) n).2.1 = nI w ∧ (∀ i, i < w → (kEF ei eo pa t z (K, -4, c) n).1 (59 + i) = K (59 + i)) ∧ (kEF ei eo pa t z (K, -4, c) n).1 (59 + w) = K (59 + w) + nI 1)
  | 0, _, _ => ⟨fun _ _ _ => rfl, Or.inl ⟨rfl, fun _ _ => rfl⟩⟩
  | n + 1, hn, hE => by
    obtain ⟨i1, i2⟩ := kEF_hun (t := t) (K := K) (c := c) n (by omega) (fun i hi => hE i (by omega))
    obtain ⟨e1, e2, -⟩ := hE n (by omega)
    rw [kEF]
    split
    · unfold kEat
      split
      · have ht : ∀ i, i < 8 → upd (kAdd (kEF ei eo pa t z (K, -4, c) n).1 (tn (ei n)) (tn (eo n)) (-1)) (51 + n) (kAdd (kEF ei eo pa t z (K, -4, c) n).1 (tn (ei n)) (tn (eo n)) (-1) (51 + n) + nI 1) (59 + i) = (kEF ei eo pa t z (K, -4, c) n).1 (59 + i) := by
          intro i hi
          rw [upd_ne _ _ (by omega)]
          exact upd_ne _ _ (by omega)
        dsimp only
        refine ⟨fun i h1 h2 => (ht i h2).trans (i1 i (by omega) h2), ?_⟩
        rcases i2 with ⟨a, b⟩ | ⟨w, a, b, d, f⟩
        · exact Or.inl ⟨a, fun i hi => (ht i hi).trans (b i hi)⟩
        · exact Or.inr ⟨w, by omega, b, fun i hi => (ht i (by omega)).trans (d i hi), (ht w (by omega)).trans f⟩
      · dsimp only
        have hne : ∀ i, i ≠ n → upd (kEF ei eo pa t z (K, -4, c) n).1 (59 + n) ((kEF ei eo pa t z (K, -4, c) n).1 (59 + n) + nI 1) (59 + i) = (kEF ei eo pa t z (K, -4, c) n).1 (59 + i) := fun i hi => upd_ne _ _ (by omega)
        refine ⟨fun i h1 h2 => (hne i (by omega)).trans (i1 i (by omega) h2), Or.inr ?_⟩
        rcases i2 with ⟨a, b⟩ | ⟨w, a, b, d, f⟩
        · refine ⟨n, Nat.lt_succ_self n, by rw [a, if_pos (by decide)], fun i hi => (hne i (by omega)).trans (b i (by omega)), ?_⟩
          rw [upd_at, b n (by omega)]
        · refine ⟨w, by omega, by rw [b, if_neg (nI_pos (by omega))], fun i hi => (hne i (by omega)).trans (d i hi), (hne w (by omega)).trans f⟩
    · refine ⟨fun i h1 h2 => i1 i (by omega) h2, ?_⟩
      rcases i2 with h | ⟨w, a, b, d, f⟩
      · exact Or.inl h
      · exact Or.inr ⟨w, by omega, b, d, f⟩
theorem kCome_hi {K : Nat → Int32} (hK : okK K) {j : Nat} (hj : 51 ≤ j) : kCome K j = K j := by
  unfold kCome
  rw [upd_ne _ _ (by omega)]
  exact kCL_high K _ hK.2.2 hK.2.1.2 j hj
theorem kGo_hun {K : Nat → Int32} {b c : Int32} (hE : okE ei eo pa E) (hE8 : E ≤ 8) (hK : okK K) (h60 : tn (K 25) < 60) : ((kGo kd G nH ei eo pa E z (K, b, c)).2.1 = (-4) ∧ ∀ i, i < 8 → (kGo kd G nH ei eo pa E z (K, b, c)).1 (59 + i) = K (59 + i)) ∨ ∃ w, w < 8 ∧ (kGo kd G nH ei eo pa E z (K, b, c)).2.1 = nI w ∧ (∀ i, i < w → (kGo kd G nH ei eo pa E z (K, b, c)).1 (59 + i) = K (59 + i)) ∧ (kGo kd G nH ei eo pa E z (K, b, c)).1 (59 + w) = K (59 + w) + nI 1 := by
  have ho := (okK_min hK h60).1
  have hk : ∀ i, (if (tn (K 25) + 1) % 10 = 0 then kSp kd G (kCome (kMin K)) nH 0 else kCome (kMin K)) (59 + i) = K (59 + i) := by
    intro i
    have e1 : kCome (kMin K) (59 + i) = K (59 + i) := (kCome_hi ho (by omega)).trans (upd_ne _ _ (by omega))
    show (if _ then _ else _ : Nat → Int32) (59 + i) = _
    split
    · rw [kSp_ge _ _ _ _ _ (by omega)]
      exact e1
    · exact e1
  obtain ⟨-, h2⟩ := kEF_hun (ei := ei) (eo := eo) (pa := pa) (z := z) (t := tn (K 25) + 1) (K := if (tn (K 25) + 1) % 10 = 0 then kSp kd G (kCome (kMin K)) nH 0 else kCome (kMin K)) (c := c) E hE8 hE
  unfold kGo
  rcases h2 with ⟨a, d⟩ | ⟨w, a, d, f, g⟩
  · exact Or.inl ⟨a, fun i hi => (d i hi).trans (hk i)⟩
  · exact Or.inr ⟨w, by omega, d, fun i hi => (f i hi).trans (hk i), by rw [← hk w]; exact g⟩
/-- counts of hungry times are small -/
def okH (K : Nat → Int32) : Prop := ∀ i, i < 8 → 0 ≤ (K (59 + i)).toInt ∧ (K (59 + i)).toInt ≤ 1000
theorem okH_lt {K : Nat → Int32} (h : okH K) {i : Nat} (hi : i < 8) : K (59 + i) < K (59 + i) + nI 1 := by
  obtain ⟨h1, h2⟩ := h i hi
  have e1 : (nI 1).toInt = 1 := nI_toInt (by decide)
  rw [Int32.lt_iff_toInt_lt, Jvm.Kit.i32_add (by rw [e1]; omega) (by rw [e1]; omega), e1]
  omega
theorem xhun_go {K F : Nat → Int32} {b c : Int32} (hE : okE ei eo pa E) (hE8 : E ≤ 8) (hF : okK F) (h60 : tn (F 25) < 60) (hH : okH K) (he : ∀ i, i < 8 → F (59 + i) = K (59 + i)) : ((kGo kd G nH ei eo pa E z (F, b, c)).2.1 < 0 ∧ xhun (kGo kd G nH ei eo pa E z (F, b, c)).1 K 8 = (-1) ∧ ∀ i, i < 8 → (kGo kd G nH ei eo pa E z (F, b, c)).1 (59 + i) = K (59 + i)) ∨ (¬ (kGo kd G nH ei eo pa E z (F, b, c)).2.1 < 0 ∧ ¬ xhun (kGo kd G nH ei eo pa E z (F, b, c)).1 K 8 < 0 ∧ xhun (kGo kd G nH ei eo pa E z (F, b, c)).1 K 8 = (kGo kd G nH ei eo pa E z (F, b, c)).2.1) := by
  rcases kGo_hun (kd := kd) (G := G) (nH := nH) (z := z) (b := b) (c := c) hE hE8 hF h60 with ⟨a, d⟩ | ⟨w, a, d, f, g⟩
  · refine Or.inl ⟨by rw [a]; decide, xhun_0 (fun j hj => ?_), fun i hi => (d i hi).trans (he i hi)⟩
    rw [d j hj, he j hj]
    exact Int32.lt_irrefl
  · have e := xhun_1 (K := (kGo kd G nH ei eo pa E z (F, b, c)).1) (F := K) (n := 8) (i := w) ⟨a, by decide⟩ (fun j hj => by rw [f j hj, he j (by omega)]; exact Int32.lt_irrefl) (by rw [g, he w a]; exact okH_lt hH a)
    exact Or.inr ⟨by rw [d]; exact nI_pos (by omega), by rw [e]; exact nI_pos (by omega), by rw [e, d]⟩
theorem kFir_k {K : Nat → Int32} {w h : Int32} (hE : okE ei eo pa E) (hE8 : E ≤ 8) (hK : okK K) (hH : okH K) {m : Nat} (hm : tn (K 25) + m ≤ 60) : ∀ k, k ≤ m → (∀ j, 1 ≤ j → j ≤ k → xhun (kGoN kd G nH ei eo pa E (-4) (K, w, h) j).1 K 8 < 0) → (∀ i, i < 8 → (kGoN kd G nH ei eo pa E (-4) (K, w, h) k).1 (59 + i) = K (59 + i)) ∧ kFir kd G nH ei eo pa E m (K, w, h) = kFir kd G nH ei eo pa E (m - k) (kGoN kd G nH ei eo pa E (-4) (K, w, h) k)
  | 0, _, _ => ⟨fun _ _ => rfl, rfl⟩
  | k + 1, hk, hj => by
    obtain ⟨i1, i2⟩ := kFir_k (w := w) (h := h) hE hE8 hK hH hm k (by omega) (fun j h1 h2 => hj j h1 (by omega))
    obtain ⟨o1, o2⟩ := okK_goM (kd := kd) (G := G) (nH := nH) (z := -4) (w := w) (hu := h) hE hK k (by omega)
    have hs := hj (k + 1) (by omega) (Nat.le_refl _)
    rw [kGoN] at hs ⊢
    rcases xhun_go (kd := kd) (G := G) (nH := nH) (z := -4) (b := (kGoN kd G nH ei eo pa E (-4) (K, w, h) k).2.1) (c := (kGoN kd G nH ei eo pa E (-4) (K, w, h) k).2.2) hE hE8 o1 (by rw [o2, tn_nI (by omega)]; omega) hH i1 with ⟨a, d, f⟩ | ⟨a, d, f⟩
    · refine ⟨f, ?_⟩
      rw [i2]
      exact kFir_s (by omega) a
    · exact absurd hs d
theorem kFir_tie {K : Nat → Int32} {w h : Int32} (hE : okE ei eo pa E) (hE8 : E ≤ 8) (hK : okK K) (hH : okH K) {uk : Nat} (h1 : uk ≤ 60 - tn (K 25)) (h2 : ∀ j, 1 ≤ j → j < uk → xhun (kGoN kd G nH ei eo pa E (-4) (K, w, h) j).1 K 8 < 0) (h3 : xhun (kGoN kd G nH ei eo pa E (-4) (K, w, h) uk).1 K 8 < 0 → uk = 60 - tn (K 25)) : (xhun (kGoN kd G nH ei eo pa E (-4) (K, w, h) uk).1 K 8 < 0 ∧ kFir kd G nH ei eo pa E (60 - tn (K 25)) (K, w, h) = (-4, -4)) ∨ (¬ xhun (kGoN kd G nH ei eo pa E (-4) (K, w, h) uk).1 K 8 < 0 ∧ kFir kd G nH ei eo pa E (60 - tn (K 25)) (K, w, h) = ((kGoN kd G nH ei eo pa E (-4) (K, w, h) uk).1 25, xhun (kGoN kd G nH ei eo pa E (-4) (K, w, h) uk).1 K 8)) := by
  have h25 := hK.1.2
  by_cases hx : xhun (kGoN kd G nH ei eo pa E (-4) (K, w, h) uk).1 K 8 < 0
  · refine Or.inl ⟨hx, ?_⟩
    have hu := h3 hx
    obtain ⟨-, e⟩ := kFir_k (kd := kd) (G := G) (nH := nH) (w := w) (h := h) hE hE8 hK hH (m := 60 - tn (K 25)) (by omega) uk h1 (fun j a b => by
      by_cases hz : j = uk
      · rw [hz]
        exact hx
      · exact h2 j a (by omega))
    rw [e, show 60 - tn (K 25) - uk = 0 by omega]
    rfl
  · refine Or.inr ⟨hx, ?_⟩
    have hu0 : uk ≠ 0 := by
      intro z0
      subst z0
      refine hx ?_
      have e0 : xhun (kGoN kd G nH ei eo pa E (-4) (K, w, h) 0).1 K 8 = (-1) := xhun_0 (fun j _ => Int32.lt_irrefl)
      rw [e0]
      decide
    obtain ⟨k, rfl⟩ : ∃ k, uk = k + 1 := ⟨uk - 1, by omega⟩
    obtain ⟨i1, e⟩ := kFir_k (kd := kd) (G := G) (nH := nH) (w := w) (h := h) hE hE8 hK hH (m := 60 - tn (K 25)) (by omega) k (by omega) (fun j a b => h2 j a (by omega))
    obtain ⟨o1, o2⟩ := okK_goM (kd := kd) (G := G) (nH := nH) (z := -4) (w := w) (hu := h) hE hK k (by omega)
    rw [kGoN] at hx ⊢
    rcases xhun_go (kd := kd) (G := G) (nH := nH) (z := -4) (b := (kGoN kd G nH ei eo pa E (-4) (K, w, h) k).2.1) (c := (kGoN kd G nH ei eo pa E (-4) (K, w, h) k).2.2) hE hE8 o1 (by rw [o2, tn_nI (by omega)]; omega) hH i1 with ⟨a, d, f⟩ | ⟨a, d, f⟩
    · exact absurd (show xhun _ K 8 < 0 by rw [d]; decide) hx
    · rw [e, kFir_f (by omega) a]
      exact congrArg (fun v => (_, v)) f.symm
end XHUN
