/-! own words: a street that is told, item by item (the reference's draft: its rows at the place 1) -/
def xoff (k : Nat) : Nat := match k with
  | 2 => 1 | 5 => 1 | 8 => 1 | 12 => 1 | 15 => 1 | 3 => 5 | 4 => 5 | 6 => 5 | 13 => 5 | 14 => 5 | 7 => 25 | 9 => 8 | 10 => 8 | 11 => 8 | _ => 3
def xshf (S : Nat → Nat → Int32) : Nat → Nat → Int32 := fun k j => S k (xoff k + j)
abbrev xX (X : Nat → Nat → Int32) : Nat → Nat → Int32 := xT (X 0 0) (X 1 0) (X 2 0) (X 3 0) (X 4 0) (X 5) (X 6) (X 7) (X 8) (X 9) (X 10) (X 11) (X 12) (X 13) (X 14) (X 15)
theorem okT_x {X S : Nat → Nat → Int32} (h : okT X S) : okT (xX X) S := h
theorem xtold {f F : Nat → Int32} {n o : Nat} {v : Int32} (h : ∀ g, g < n → f g = F (o + g)) : ∀ g, g < n + 1 → upd f n v g = upd F (o + n) v (o + g) := by
  intro g hg
  by_cases hz : g = n
  · subst hz
    rw [upd_at, upd_at]
  · rw [upd_ne _ _ hz, upd_ne _ _ (by omega)]
    exact h g (by omega)
theorem xnI_tn {n : Nat} (h : n < 2 ^ 31) : nI n = nI (tn (nI n)) := by rw [tn_nI h]
theorem cN_up {f : Nat → Int32} {k n : Nat} (h : k + 1 ≤ n) (hn : n < 2 ^ 31) : cN (upd f 1 (nI (k + 1)) 1) n := by
  rw [upd_at]
  exact cN_nI h hn
theorem tn_up {f : Nat → Int32} {k : Nat} (h : k < 1000) : tn (upd f 1 (nI (k + 1)) 1) = k + 1 := by
  rw [upd_at, tn_nI (by omega)]
section TELL
variable {X S : Nat → Nat → Int32} {t : Nat → Int32}
theorem okT_good (h : okT X (xshf S)) (h5 : tn (S 2 1) < 5) {a b : Nat} (ha : tn (t 0) = a) (hb : tn (t 1) = b) : okT (xT (nI (tn (S 2 1) + 1)) (X 1 0) (X 2 0) (X 3 0) (X 4 0) (upd (X 5) (tn (S 2 1)) (nI a)) (upd (X 6) (tn (S 2 1)) (nI b)) (X 7) (X 8) (X 9) (X 10) (X 11) (X 12) (X 13) (X 14) (X 15)) (xshf (upS (upS (upS S 3 (upd (S 3) (5 * 1 + tn (S 2 1)) (nI (tn (t 0))))) 4 (upd (S 4) (5 * 1 + tn (S 2 1)) (nI (tn (t 1))))) 2 (upd (S 2) 1 (nI (tn (S 2 1) + 1))))) := by
  subst ha hb
  obtain ⟨⟨⟨e0, e1, e2, e3, e4⟩, b0, b1, b2, b3, b4⟩, p1, p2, p3, p4, pE, p5, p6⟩ := h
  have hn : tn (upd (S 2) 1 (nI (tn (S 2 1) + 1)) 1) = tn (S 2 1) + 1 := tn_up (by omega)
  refine ⟨⟨⟨(upd_at (S 2) 1 _).symm, e1, e2, e3, e4⟩, cN_up (f := S 2) (by omega) (by decide), b1, b2, b3, b4⟩, fun g hg => ?_, p2, p3, p4, pE, p5, p6⟩
  have hg2 : g < tn (S 2 1) + 1 := by rw [← hn]; exact hg
  exact ⟨xtold (fun j hj => (p1 j hj).1) g hg2, xtold (fun j hj => (p1 j hj).2) g hg2⟩
theorem okT_house (h : okT X (xshf S)) (h5 : tn (S 5 1) < 5) {a : Nat} (ha : tn (t 0) = a) (h60 : a ≤ 60) : okT (xT (X 0 0) (nI (tn (S 5 1) + 1)) (X 2 0) (X 3 0) (X 4 0) (X 5) (X 6) (upd (X 7) (tn (S 5 1)) (nI a)) (X 8) (X 9) (X 10) (X 11) (X 12) (X 13) (X 14) (X 15)) (xshf (upS (upS S 6 (upd (S 6) (5 + tn (S 5 1)) (nI (tn (t 0))))) 5 (upd (S 5) 1 (nI (tn (S 5 1) + 1))))) := by
  subst ha
  obtain ⟨⟨⟨e0, e1, e2, e3, e4⟩, b0, b1, b2, b3, b4⟩, p1, p2, p3, p4, pE, p5, p6⟩ := h
  have hn : tn (upd (S 5) 1 (nI (tn (S 5 1) + 1)) 1) = tn (S 5 1) + 1 := tn_up (by omega)
  refine ⟨⟨⟨e0, (upd_at (S 5) 1 _).symm, e2, e3, e4⟩, b0, cN_up (f := S 5) (by omega) (by decide), b2, b3, b4⟩, p1, fun g hg => ?_, p3, p4, pE, p5, p6⟩
  have hg2 : g < tn (S 5 1) + 1 := by rw [← hn]; exact hg
  refine ⟨xtold (fun j hj => (p2 j hj).1) g hg2, ?_⟩
  show cN (upd (S 6) (5 + tn (S 5 1)) (nI (tn (t 0))) (5 + g)) 60
  by_cases hz : g = tn (S 5 1)
  · rw [hz, upd_at]
    exact cN_nI h60 (by decide)
  · rw [upd_ne _ _ (by omega)]
    exact (p2 g (show g < tn (S 5 1) by omega)).2
theorem okT_stock (h : okT X (xshf S)) {a b c : Nat} (ha : tn (t 0) = a) (hb : tn (t 1) = b) (hc : tn (t 2) = c) (h5 : a < 5) (h6 : b < 5) : okT (xT (X 0 0) (X 1 0) (X 2 0) (X 3 0) (X 4 0) (X 5) (X 6) (X 7) (upd (X 8) (5 * a + b) (nI c)) (X 9) (X 10) (X 11) (X 12) (X 13) (X 14) (X 15)) (xshf (upS S 7 (upd (S 7) (25 + 5 * tn (t 0) + tn (t 1)) (nI (tn (t 2)))))) := by
  subst ha hb hc
  obtain ⟨⟨⟨e0, e1, e2, e3, e4⟩, b0, b1, b2, b3, b4⟩, p1, p2, p3, p4, pE, p5, p6⟩ := h
  refine ⟨⟨⟨e0, e1, e2, e3, e4⟩, b0, b1, b2, b3, b4⟩, p1, p2, fun j hj => ?_, p4, pE, p5, p6⟩
  show upd (X 8) _ _ j = upd (S 7) _ _ (25 + j)
  by_cases hz : j = 5 * tn (t 0) + tn (t 1)
  · subst hz
    rw [upd_at, show 25 + 5 * tn (t 0) + tn (t 1) = 25 + (5 * tn (t 0) + tn (t 1)) by omega, upd_at]
  · rw [upd_ne _ _ hz, upd_ne _ _ (by omega)]
    exact p3 j hj
theorem okT_eater (h : okT X (xshf S)) (h8 : tn (S 8 1) < 8) {a b c : Nat} (ha : tn (t 0) = a) (hb : tn (t 1) = b) (hc : tn (t 2) = c) (h5 : a < 5) (h6 : b < 5) (h7 : 1 ≤ c ∧ c ≤ 20) : okT (xT (X 0 0) (X 1 0) (nI (tn (S 8 1) + 1)) (X 3 0) (X 4 0) (X 5) (X 6) (X 7) (X 8) (upd (X 9) (tn (S 8 1)) (nI (5 * a + b))) (upd (X 10) (tn (S 8 1)) (nI c)) (X 11) (X 12) (X 13) (X 14) (X 15)) (xshf (upS (upS (upS (upS S 9 (upd (S 9) (8 * 1 + tn (S 8 1)) (nI (tn (t 0))))) 10 (upd (S 10) (8 * 1 + tn (S 8 1)) (nI (tn (t 1))))) 11 (upd (S 11) (8 * 1 + tn (S 8 1)) (nI (tn (t 2))))) 8 (upd (S 8) 1 (nI (tn (S 8 1) + 1))))) := by
  subst ha hb hc
  obtain ⟨⟨⟨e0, e1, e2, e3, e4⟩, b0, b1, b2, b3, b4⟩, p1, p2, p3, p4, pE, p5, p6⟩ := h
  have hn : tn (upd (S 8) 1 (nI (tn (S 8 1) + 1)) 1) = tn (S 8 1) + 1 := tn_up (by omega)
  refine ⟨⟨⟨e0, e1, (upd_at (S 8) 1 _).symm, e3, e4⟩, b0, b1, cN_up (f := S 8) (by omega) (by decide), b3, b4⟩, p1, p2, p3, fun g hg => ?_, fun g hg => ?_, p5, p6⟩
  · have hg2 : g < tn (S 8 1) + 1 := by rw [← hn]; exact hg
    refine ⟨?_, xtold (fun j hj => (p4 j hj).2) g hg2⟩
    show upd (X 9) (tn (S 8 1)) _ g = nI (5 * tn (upd (S 9) (8 + tn (S 8 1)) _ (8 + g)) + tn (upd (S 10) (8 + tn (S 8 1)) _ (8 + g)))
    by_cases hz : g = tn (S 8 1)
    · subst hz
      rw [upd_at, upd_at, upd_at, tn_nI (by omega), tn_nI (by omega)]
    · rw [upd_ne _ _ hz, upd_ne _ _ (by omega), upd_ne _ _ (by omega)]
      exact (p4 g (show g < tn (S 8 1) by omega)).1
  · have hg2 : g < tn (S 8 1) + 1 := by rw [← hn]; exact hg
    show (upd (S 9) (8 + tn (S 8 1)) (nI (tn (t 0))) (8 + g) = nI (tn (upd (S 9) (8 + tn (S 8 1)) (nI (tn (t 0))) (8 + g))) ∧ tn (upd (S 9) (8 + tn (S 8 1)) (nI (tn (t 0))) (8 + g)) < 5) ∧ (upd (S 10) (8 + tn (S 8 1)) (nI (tn (t 1))) (8 + g) = nI (tn (upd (S 10) (8 + tn (S 8 1)) (nI (tn (t 1))) (8 + g))) ∧ tn (upd (S 10) (8 + tn (S 8 1)) (nI (tn (t 1))) (8 + g)) < 5) ∧ (upd (S 11) (8 + tn (S 8 1)) (nI (tn (t 2))) (8 + g) = nI (tn (upd (S 11) (8 + tn (S 8 1)) (nI (tn (t 2))) (8 + g))) ∧ 0 < tn (upd (S 11) (8 + tn (S 8 1)) (nI (tn (t 2))) (8 + g)) ∧ tn (upd (S 11) (8 + tn (S 8 1)) (nI (tn (t 2))) (8 + g)) ≤ 20)
    by_cases hz : g = tn (S 8 1)
    · subst hz
      rw [upd_at, upd_at, upd_at, tn_nI (by omega), tn_nI (by omega), tn_nI (by omega)]
      exact ⟨⟨rfl, h5⟩, ⟨rfl, h6⟩, rfl, by omega, by omega⟩
    · rw [upd_ne _ _ (by omega), upd_ne _ _ (by omega), upd_ne _ _ (by omega)]
      exact pE g (show g < tn (S 8 1) by omega)
theorem okT_dem (h : okT X (xshf S)) (h5 : tn (S 12 1) < 5) {a b : Nat} (ha : tn (t 0) = a) (hb : tn (t 1) = b) : okT (xT (X 0 0) (X 1 0) (X 2 0) (nI (tn (S 12 1) + 1)) (X 4 0) (X 5) (X 6) (X 7) (X 8) (X 9) (X 10) (upd (X 11) (tn (S 12 1)) (nI a)) (upd (X 12) (tn (S 12 1)) (nI b)) (X 13) (X 14) (X 15)) (xshf (upS (upS (upS S 13 (upd (S 13) (5 + tn (S 12 1)) (nI (tn (t 0))))) 14 (upd (S 14) (5 + tn (S 12 1)) (nI (tn (t 1))))) 12 (upd (S 12) 1 (nI (tn (S 12 1) + 1))))) := by
  subst ha hb
  obtain ⟨⟨⟨e0, e1, e2, e3, e4⟩, b0, b1, b2, b3, b4⟩, p1, p2, p3, p4, pE, p5, p6⟩ := h
  have hn : tn (upd (S 12) 1 (nI (tn (S 12 1) + 1)) 1) = tn (S 12 1) + 1 := tn_up (by omega)
  refine ⟨⟨⟨e0, e1, e2, (upd_at (S 12) 1 _).symm, e4⟩, b0, b1, b2, cN_up (f := S 12) (by omega) (by decide), b4⟩, p1, p2, p3, p4, pE, fun g hg => ?_, p6⟩
  have hg2 : g < tn (S 12 1) + 1 := by rw [← hn]; exact hg
  exact ⟨xtold (fun j hj => (p5 j hj).1) g hg2, xtold (fun j hj => (p5 j hj).2) g hg2⟩
theorem okT_rec (h : okT X (xshf S)) (h3 : tn (S 15 1) < 3) {a b c : Nat} (ha : tn (t 0) = a) (hb : tn (t 1) = b) (hc : tn (t 2) = c) (h5 : a < 5) (h6 : b < 5) : okT (xT (X 0 0) (X 1 0) (X 2 0) (X 3 0) (nI (tn (S 15 1) + 1)) (X 5) (X 6) (X 7) (X 8) (X 9) (X 10) (X 11) (X 12) (upd (X 13) (tn (S 15 1)) (nI a)) (upd (X 14) (tn (S 15 1)) (nI b)) (upd (X 15) (tn (S 15 1)) (nI c))) (xshf (upS (upS (upS (upS S 16 (upd (S 16) (3 + tn (S 15 1)) (nI (tn (t 0))))) 17 (upd (S 17) (3 + tn (S 15 1)) (nI (tn (t 1))))) 18 (upd (S 18) (3 + tn (S 15 1)) (nI (tn (t 2))))) 15 (upd (S 15) 1 (nI (tn (S 15 1) + 1))))) := by
  subst ha hb hc
  obtain ⟨⟨⟨e0, e1, e2, e3, e4⟩, b0, b1, b2, b3, b4⟩, p1, p2, p3, p4, pE, p5, p6⟩ := h
  have hn : tn (upd (S 15) 1 (nI (tn (S 15 1) + 1)) 1) = tn (S 15 1) + 1 := tn_up (by omega)
  refine ⟨⟨⟨e0, e1, e2, e3, (upd_at (S 15) 1 _).symm⟩, b0, b1, b2, b3, cN_up (f := S 15) (by omega) (by decide)⟩, p1, p2, p3, p4, pE, p5, fun g hg => ?_⟩
  have hg2 : g < tn (S 15 1) + 1 := by rw [← hn]; exact hg
  refine ⟨⟨xtold (fun j hj => (p6 j hj).1.1) g hg2, xtold (fun j hj => (p6 j hj).1.2.1) g hg2, xtold (fun j hj => (p6 j hj).1.2.2) g hg2⟩, ?_⟩
  show cN (upd (S 16) (3 + tn (S 15 1)) (nI (tn (t 0))) (3 + g)) 4 ∧ cN (upd (S 17) (3 + tn (S 15 1)) (nI (tn (t 1))) (3 + g)) 4
  by_cases hz : g = tn (S 15 1)
  · rw [hz, upd_at, upd_at]
    exact ⟨cN_nI (by omega) (by decide), cN_nI (by omega) (by decide)⟩
  · rw [upd_ne _ _ (by omega), upd_ne _ _ (by omega)]
    exact (p6 g (show g < tn (S 15 1) by omega)).2
end TELL
abbrev xclr (X : Nat → Nat → Int32) : Nat → Nat → Int32 := xT (nI 0) (nI 0) (nI 0) (nI 0) (nI 0) (X 5) (X 6) (X 7) (xzero (X 8) 0 25) (X 9) (X 10) (X 11) (X 12) (X 13) (X 14) (X 15)
theorem okT_clr {X : Nat → Nat → Int32} {f2 f3 f4 f5 f6 f7 f8 f9 f10 f11 f12 f13 f14 f15 f16 f17 f18 : Nat → Int32} : okT (xclr X) (xshf (xS0 (upd f2 1 (nI 0)) f3 f4 (upd f5 1 (nI 0)) f6 (xzero f7 (25 * 1) 25) (upd f8 1 (nI 0)) f9 f10 f11 (upd f12 1 (nI 0)) f13 f14 (upd f15 1 (nI 0)) f16 f17 f18)) := by
  have key : ∀ (f : Nat → Int32) (n : Nat), cN (upd f 1 (nI 0) 1) n := fun f n => by
    rw [upd_at]
    exact ⟨(xnI_tn (by decide)), by rw [tn_nI (by decide)]; exact Nat.zero_le _⟩
  have k0 : ∀ (f : Nat → Int32) (g : Nat), g < tn (upd f 1 (nI 0) 1) → False := fun f g hg => by
    rw [upd_at, tn_nI (by decide)] at hg
    exact absurd hg (Nat.not_lt_zero g)
  refine ⟨⟨⟨(upd_at f2 1 _).symm, (upd_at f5 1 _).symm, (upd_at f8 1 _).symm, (upd_at f12 1 _).symm, (upd_at f15 1 _).symm⟩, key f2 5, key f5 5, key f8 8, key f12 5, key f15 3⟩, fun g hg => (k0 f2 g hg).elim, fun g hg => (k0 f5 g hg).elim, fun j hj => ?_, fun g hg => (k0 f8 g hg).elim, fun g hg => (k0 f8 g hg).elim, fun g hg => (k0 f12 g hg).elim, fun g hg => (k0 f15 g hg).elim⟩
  show xzero (X 8) 0 25 j = xzero f7 (25 * 1) 25 (25 + j)
  simp only [xzero]
  rw [if_pos (by omega), if_pos (by omega)]
/-- what an item says, by its letter -/
def xnbh (c : Int32) : Nat := if c = nI 104 then 1 else if c = nI 100 ∨ c = nI 103 then 2 else if c = nI 101 ∨ c = nI 107 ∨ c = nI 115 then 3 else 0
def xIt (c : Int32) (S : Nat → Nat → Int32) (t : Nat → Int32) : xR := if c = nI 100 then xDemR S (true, 0, t) else if c = nI 101 then xEaterR S (true, 0, t) else if c = nI 103 then xGoodR S (true, 0, t) else if c = nI 104 then xHouseR S (true, 0, t) else if c = nI 107 then xRecR S (true, 0, t) else if c = nI 115 then xStockR S (true, 0, t) else (false, S, 0, t)
