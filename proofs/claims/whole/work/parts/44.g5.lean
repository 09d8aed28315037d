/-! own words: tied, further -/
theorem xbT_bd {x : Nat} (hx : x ≤ 10) : ∀ t, 0 ≤ (xbT x t).toInt ∧ (xbT x t).toInt ≤ 10000000000
  | 0 => by
    unfold xbT
    decide
  | t + 1 => by
    obtain ⟨i1, i2⟩ := xbT_bd hx t
    have es : (nI 10 - nI x).toInt64.toInt = (10 : Int) - x := by
      rw [Jvm.Kit.i64_of_i32, pk_sub_toInt (by omega) (by omega)]
      rfl
    have e10 : (10 : Int64).toInt = 10 := by decide
    have ed : (xbT x t / 10).toInt = (xbT x t).toInt / 10 := by
      rw [Jvm.Kit.i64_div (by omega), e10, Int.tdiv_eq_ediv_of_nonneg i1]
    have m0 : 0 ≤ (xbT x t / 10).toInt * (nI 10 - nI x).toInt64.toInt := Int.mul_nonneg (by omega) (by omega)
    have m1 : (xbT x t / 10).toInt * (nI 10 - nI x).toInt64.toInt ≤ 1000000000 * 10 := Int.mul_le_mul (by omega) (by omega) (by omega) (by decide)
    rw [xbT, Jvm.Kit.i64_mul (by omega) (by omega)]
    omega
theorem xbG_bd {v a b x : Nat} (hv : v ≤ 99) (ha : a ≤ 99) (hx : x ≤ 10) (t : Nat) : -990000000000 ≤ (xbG v a b x t).toInt ∧ (xbG v a b x t).toInt ≤ 990000000000 := by
  obtain ⟨i1, i2⟩ := xbT_bd hx t
  have es : (nI v - nI (a - b * t)).toInt64.toInt = (v : Int) - ((a - b * t : Nat) : Int) := by
    rw [Jvm.Kit.i64_of_i32]
    exact pk_sub_toInt (by omega) (by omega)
  have hl : -99 ≤ (nI v - nI (a - b * t)).toInt64.toInt ∧ (nI v - nI (a - b * t)).toInt64.toInt ≤ 99 := by omega
  unfold xbG
  generalize (nI v - nI (a - b * t)).toInt64 = y at hl
  have u1 : (xbT x t).toInt * y.toInt ≤ (xbT x t).toInt * 99 := Int.mul_le_mul_of_nonneg_left hl.2 i1
  have u2 : (xbT x t).toInt * (-99) ≤ (xbT x t).toInt * y.toInt := Int.mul_le_mul_of_nonneg_left hl.1 i1
  rw [Jvm.Kit.i64_mul (by omega) (by omega)]
  omega
theorem xbR_bd {v a b x : Nat} (hv : v ≤ 99) (ha : a ≤ 99) (hx : x ≤ 10) : ∀ t, -990000000000 ≤ (xbR v a b x t).1.toInt ∧ (xbR v a b x t).1.toInt ≤ 990000000000
  | 0 => by
    unfold xbR
    decide
  | t + 1 => by
    have ih := xbR_bd (b := b) hv ha hx t
    rw [xbR]
    split
    · exact xbG_bd hv ha hx t
    · exact ih
theorem xbA_nn {v a b x : Nat} (hv : v ≤ 99) (ha : a ≤ 99) (hx : x ≤ 10) : 0 ≤ (xbA v a b x).toInt := by
  have h := xbR_bd (b := b) hv ha hx 11
  have e : ((1000 : Int64) * 10000000000).toInt = 10000000000000 := by decide
  unfold xbA
  rw [Jvm.Kit.i64_add (by omega) (by omega)]
  omega
