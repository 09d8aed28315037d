/-! own words: a street laid -/
def xly (f : Nat → Int32) (a : Int32) : Nat → Int32
  | 0 => a
  | d + 1 => if xly f a d < 0 then xly f a d else xly f a d + f (5 + d)
theorem xly_n {f : Nat → Int32} {a : Int32} {d : Nat} (h : xly f a d < 0) : ∀ m, xly f a (d + m) = xly f a d
  | 0 => rfl
  | m + 1 => by
    have ih := xly_n h m
    rw [← Nat.add_assoc, xly, if_pos (by rw [ih]; exact h), ih]
theorem xly_end {f : Nat → Int32} {a : Int32} {d D : Nat} (hd : d ≤ D) (h : D ≤ d ∨ xly f a d < 0) : xly f a d = xly f a D := by
  rcases h with h | h
  · rw [show d = D by omega]
  · have := xly_n h (D - d)
    rw [show d + (D - d) = D by omega] at this
    exact this.symm
theorem xly_neg {f : Nat → Int32} {a : Int32} (h : a < 0) : ∀ d, xly f a d = a
  | 0 => rfl
  | d + 1 => by
    have ih := xly_neg (f := f) h d
    rw [xly, if_pos (by rw [ih]; exact h), ih]
def xmv (f : Nat → Int32) (k n : Nat) : Nat → Int32 := fun j => if j < k then f (n + j) else f j
theorem xmv_0 (f : Nat → Int32) (n : Nat) : xmv f 0 n = f := rfl
theorem xmv_r (f : Nat → Int32) {k n : Nat} : xmv f k n (n + k) = f (n + k) := by
  simp only [xmv]
  rw [if_neg (by omega)]
theorem xmv_s (f : Nat → Int32) {k n : Nat} : upd (xmv f k n) k (f (n + k)) = xmv f (k + 1) n := by
  funext j
  simp only [upd, xmv]
  by_cases h : j = k
  · subst h
    rw [if_pos rfl, if_pos (Nat.lt_succ_self j)]
  · rw [if_neg h]
    by_cases h2 : j < k
    · rw [if_pos h2, if_pos (by omega)]
    · rw [if_neg h2, if_neg (by omega)]
theorem okS_all {s : Nat → Int32} {len : Nat} : ∀ (f : Nat) {S : Nat → Nat → Int32} {sp : Nat} {tt : Nat → Int32}, okS S → okS (xAll s len f S sp tt).2.1
  | 0, _, _, _, h => h
  | f + 1, S, sp, tt, h => by
    rw [xAll]
    split
    · exact h
    · split
      · exact okS_all f (okS_item h)
      · exact okS_item h
/-- whether what was read is laid -/
def xLok (R : Int32 × (Nat → Nat → Int32) × Nat × (Nat → Int32)) : Prop := R.1 = (-4) ∧ ¬ tn (R.2.1 2 1) = 0 ∧ ¬ tn (R.2.1 5 1) = 0 ∧ (tn (R.2.1 12 1) = 0 ∨ xly (R.2.1 14) (nI 0) (tn (R.2.1 12 1)) = nI 10)
