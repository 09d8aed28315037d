/-! own words: the items of a text; a street told is a function S: its rows by the numbers of the reference's fields, the draft at the place 1 -/
def upS (S : Nat → Nat → Int32) (k : Nat) (f : Nat → Int32) : Nat → Nat → Int32 := fun j => if j = k then f else S j
abbrev xF : Type := Bool × Nat × (Nat → Int32)
abbrev xR : Type := Bool × (Nat → Nat → Int32) × Nat × (Nat → Int32)
def xGoodR (S : Nat → Nat → Int32) (r : xF) : xR := if r.1 = true ∧ ¬ tn (S 2 1) = 5 ∧ (1 ≤ tn (r.2.2 0) ∧ tn (r.2.2 0) ≤ 9) ∧ tn (r.2.2 1) ≤ 3 then
  (true, upS (upS (upS S 3 (upd (S 3) (5 * 1 + tn (S 2 1)) (nI (tn (r.2.2 0))))) 4 (upd (S 4) (5 * 1 + tn (S 2 1)) (nI (tn (r.2.2 1))))) 2 (upd (S 2) 1 (nI (tn (S 2 1) + 1))), r.2.1, r.2.2) else (false, S, r.2.1, r.2.2)
def xHouseR (S : Nat → Nat → Int32) (r : xF) : xR := if r.1 = true ∧ ¬ tn (S 5 1) = 5 ∧ tn (r.2.2 0) ≤ 60 then
  (true, upS (upS S 6 (upd (S 6) (5 + tn (S 5 1)) (nI (tn (r.2.2 0))))) 5 (upd (S 5) 1 (nI (tn (S 5 1) + 1))), r.2.1, r.2.2) else (false, S, r.2.1, r.2.2)
def xStockR (S : Nat → Nat → Int32) (r : xF) : xR := if r.1 = true ∧ tn (r.2.2 0) < tn (S 5 1) ∧ tn (r.2.2 1) < tn (S 2 1) ∧ tn (r.2.2 2) ≤ 40 then
  (true, upS S 7 (upd (S 7) (25 + 5 * tn (r.2.2 0) + tn (r.2.2 1)) (nI (tn (r.2.2 2)))), r.2.1, r.2.2) else (false, S, r.2.1, r.2.2)
def xEaterR (S : Nat → Nat → Int32) (r : xF) : xR := if r.1 = true ∧ ¬ tn (S 8 1) = 8 ∧ tn (r.2.2 0) < tn (S 5 1) ∧ tn (r.2.2 1) < tn (S 2 1) ∧ 1 ≤ tn (r.2.2 2) ∧ tn (r.2.2 2) ≤ 20 then
  (true, upS (upS (upS (upS S 9 (upd (S 9) (8 * 1 + tn (S 8 1)) (nI (tn (r.2.2 0))))) 10 (upd (S 10) (8 * 1 + tn (S 8 1)) (nI (tn (r.2.2 1))))) 11 (upd (S 11) (8 * 1 + tn (S 8 1)) (nI (tn (r.2.2 2))))) 8 (upd (S 8) 1 (nI (tn (S 8 1) + 1))), r.2.1, r.2.2) else (false, S, r.2.1, r.2.2)
def xDemR (S : Nat → Nat → Int32) (r : xF) : xR := if r.1 = true ∧ ¬ tn (S 12 1) = 5 ∧ tn (r.2.2 0) ≤ 20 ∧ tn (r.2.2 1) ≤ 10 then
  (true, upS (upS (upS S 13 (upd (S 13) (5 + tn (S 12 1)) (nI (tn (r.2.2 0))))) 14 (upd (S 14) (5 + tn (S 12 1)) (nI (tn (r.2.2 1))))) 12 (upd (S 12) 1 (nI (tn (S 12 1) + 1))), r.2.1, r.2.2) else (false, S, r.2.1, r.2.2)
def xRecR (S : Nat → Nat → Int32) (r : xF) : xR := if r.1 = true ∧ ¬ tn (S 15 1) = 3 ∧ tn (r.2.2 0) < tn (S 2 1) ∧ tn (r.2.2 1) < tn (S 2 1) ∧ 1 ≤ tn (r.2.2 2) ∧ tn (r.2.2 2) ≤ 9 then
  (true, upS (upS (upS (upS S 16 (upd (S 16) (3 + tn (S 15 1)) (nI (tn (r.2.2 0))))) 17 (upd (S 17) (3 + tn (S 15 1)) (nI (tn (r.2.2 1))))) 18 (upd (S 18) (3 + tn (S 15 1)) (nI (tn (r.2.2 2))))) 15 (upd (S 15) 1 (nI (tn (S 15 1) + 1))), r.2.1, r.2.2) else (false, S, r.2.1, r.2.2)
/-- how many the draft has told -/
def okS (S : Nat → Nat → Int32) : Prop := (S 2 1 = nI (tn (S 2 1)) ∧ tn (S 2 1) ≤ 5) ∧ (S 5 1 = nI (tn (S 5 1)) ∧ tn (S 5 1) ≤ 5) ∧ (S 8 1 = nI (tn (S 8 1)) ∧ tn (S 8 1) ≤ 8) ∧ (S 12 1 = nI (tn (S 12 1)) ∧ tn (S 12 1) ≤ 5) ∧ (S 15 1 = nI (tn (S 15 1)) ∧ tn (S 15 1) ≤ 3)
theorem xnd_dg {s : Nat → Int32} {len p : Nat} : ∀ i, i < xnd s len p → xdg s len (p + i) := by
  unfold xnd
  intro i hi
  split at hi
  · omega
  · split at hi
    · have : i = 0 := by omega
      subst this
      rw [Nat.add_zero]
      exact Decidable.not_not.mp (by assumption)
    · split at hi
      · rcases (show i = 0 ∨ i = 1 by omega) with rfl | rfl
        · rw [Nat.add_zero]
          exact Decidable.not_not.mp (by assumption)
        · exact Decidable.not_not.mp (by assumption)
      · rcases (show i = 0 ∨ i = 1 ∨ i = 2 by omega) with rfl | rfl | rfl
        · rw [Nat.add_zero]
          exact Decidable.not_not.mp (by assumption)
        · exact Decidable.not_not.mp (by assumption)
        · exact Decidable.not_not.mp (by assumption)
/-- numbers that were read are below 100 -/
theorem xfg_told {s : Nat → Int32} {len n p : Nat} {t : Nat → Int32} : ∀ k, (xfg s len n p t k).1 = true → ∀ j, j < k → (xfg s len n p t k).2.2 j = nI (tn ((xfg s len n p t k).2.2 j)) ∧ tn ((xfg s len n p t k).2.2 j) ≤ 99
  | 0, _, j, hj => absurd hj (Nat.not_lt_zero j)
  | k + 1, h, j, hj => by
    by_cases h1 : (xfg s len n p t k).1 = true
    · by_cases h2 : (1 ≤ xnd s len (xfg s len n p t k).2.1 ∧ xnd s len (xfg s len n p t k).2.1 ≤ 2) ∧ xlet s len ((xfg s len n p t k).2.1 + xnd s len (xfg s len n p t k).2.1) = (if n - 1 ≤ k then nI 59 else nI 44)
      · have ih := xfg_told k h1
        rw [xfg_1 h1 h2]
        show upd _ _ _ j = nI (tn (upd _ _ _ j)) ∧ tn (upd _ _ _ j) ≤ 99
        have hv : xval s len (xfg s len n p t k).2.1 (xnd s len (xfg s len n p t k).2.1) ≤ 99 := by
          have := xval_le (s := s) (len := len) (p := (xfg s len n p t k).2.1) (f := xnd s len (xfg s len n p t k).2.1) xnd_dg (by omega)
          have h3 : 10 ^ xnd s len (xfg s len n p t k).2.1 ≤ 10 ^ 2 := Nat.pow_le_pow_right (by decide) h2.1.2
          omega
        by_cases hz : j = k
        · subst hz
          rw [upd_at, tn_nI (by omega)]
          exact ⟨rfl, hv⟩
        · rw [upd_ne _ _ hz]
          exact ih j (by omega)
      · rw [xfg_0 h1 h2] at h
        exact absurd h Bool.false_ne_true
    · rw [xfg, if_neg h1] at h
      exact absurd h h1
def xItem (s : Nat → Int32) (len : Nat) (S : Nat → Nat → Int32) (sp : Nat) (tt : Nat → Int32) : xR :=
  if xlet s len sp = nI 100 then xDemR S (xfg s len 2 (sp + 1) tt 2) else if xlet s len sp = nI 101 then xEaterR S (xfg s len 3 (sp + 1) tt 3) else if xlet s len sp = nI 103 then xGoodR S (xfg s len 2 (sp + 1) tt 2)
  else if xlet s len sp = nI 104 then xHouseR S (xfg s len 1 (sp + 1) tt 1) else if xlet s len sp = nI 107 then xRecR S (xfg s len 3 (sp + 1) tt 3) else if xlet s len sp = nI 115 then xStockR S (xfg s len 3 (sp + 1) tt 3) else (false, S, sp + 1, tt)
section XITEM
variable {s : Nat → Int32} {len : Nat} {S : Nat → Nat → Int32} {sp : Nat} {tt : Nat → Int32}
theorem xItem_100 (h0 : xlet s len sp = nI 100) : xItem s len S sp tt = xDemR S (xfg s len 2 (sp + 1) tt 2) := if_pos h0
theorem xItem_101 (h0 : ¬ xlet s len sp = nI 100) (h1 : xlet s len sp = nI 101) : xItem s len S sp tt = xEaterR S (xfg s len 3 (sp + 1) tt 3) := (if_neg h0).trans (if_pos h1)
theorem xItem_103 (h0 : ¬ xlet s len sp = nI 100) (h1 : ¬ xlet s len sp = nI 101) (h2 : xlet s len sp = nI 103) : xItem s len S sp tt = xGoodR S (xfg s len 2 (sp + 1) tt 2) := (if_neg h0).trans ((if_neg h1).trans (if_pos h2))
theorem xItem_104 (h0 : ¬ xlet s len sp = nI 100) (h1 : ¬ xlet s len sp = nI 101) (h2 : ¬ xlet s len sp = nI 103) (h3 : xlet s len sp = nI 104) : xItem s len S sp tt = xHouseR S (xfg s len 1 (sp + 1) tt 1) := (if_neg h0).trans ((if_neg h1).trans ((if_neg h2).trans (if_pos h3)))
theorem xItem_107 (h0 : ¬ xlet s len sp = nI 100) (h1 : ¬ xlet s len sp = nI 101) (h2 : ¬ xlet s len sp = nI 103) (h3 : ¬ xlet s len sp = nI 104) (h4 : xlet s len sp = nI 107) : xItem s len S sp tt = xRecR S (xfg s len 3 (sp + 1) tt 3) := (if_neg h0).trans ((if_neg h1).trans ((if_neg h2).trans ((if_neg h3).trans (if_pos h4))))
theorem xItem_115 (h0 : ¬ xlet s len sp = nI 100) (h1 : ¬ xlet s len sp = nI 101) (h2 : ¬ xlet s len sp = nI 103) (h3 : ¬ xlet s len sp = nI 104) (h4 : ¬ xlet s len sp = nI 107) (h5 : xlet s len sp = nI 115) : xItem s len S sp tt = xStockR S (xfg s len 3 (sp + 1) tt 3) := (if_neg h0).trans ((if_neg h1).trans ((if_neg h2).trans ((if_neg h3).trans ((if_neg h4).trans (if_pos h5)))))
theorem xItem_d (h0 : ¬ xlet s len sp = nI 100) (h1 : ¬ xlet s len sp = nI 101) (h2 : ¬ xlet s len sp = nI 103) (h3 : ¬ xlet s len sp = nI 104) (h4 : ¬ xlet s len sp = nI 107) (h5 : ¬ xlet s len sp = nI 115) : xItem s len S sp tt = (false, S, sp + 1, tt) := (if_neg h0).trans ((if_neg h1).trans ((if_neg h2).trans ((if_neg h3).trans ((if_neg h4).trans (if_neg h5)))))
end XITEM
