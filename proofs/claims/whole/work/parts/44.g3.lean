/-! own words: tied, further -/
/-- what loaves cost is not below 0 -/
theorem xbk_nn {lo ch : Nat → Int32} {la wa D : Nat} (hla : la ≤ 9) (hwa : wa ≤ 9) (hD : D ≤ 5) (h : ∀ d, d < D → cN (lo d) 20 ∧ cN (ch d) 10) {q : Nat} (hq : q ≤ 20) : 0 ≤ (xbk lo ch (nI la) (nI wa) D q).toInt := by
  refine (xsum_bd (B := 1800) (n := D) (by omega) (fun d hd => ?_)).1
  obtain ⟨h1, h2⟩ := h d hd
  have c1 := cN_int h2 (by decide)
  have c2 := h2.2
  obtain ⟨e, he, e1⟩ := cN_ex h1
  rw [e1]
  have es : (nI q - nI e).toInt = (q : Int) - e := pk_sub_toInt (by omega) (by omega)
  have el : (nI la).toInt = la := nI_toInt (by omega)
  have ew : (nI wa).toInt = wa := nI_toInt (by omega)
  have en := neg_toInt (n := nI wa) (by omega)
  have e0 : (0 : Int32).toInt = 0 := by decide
  have key : 0 ≤ (if 0 < nI q - nI e then nI la * (nI q - nI e) else (-nI wa) * (nI q - nI e)).toInt ∧ (if 0 < nI q - nI e then nI la * (nI q - nI e) else (-nI wa) * (nI q - nI e)).toInt ≤ 180 := by
    by_cases hp : 0 < nI q - nI e
    · rw [if_pos hp]
      rw [Int32.lt_iff_toInt_lt, es, e0] at hp
      have m0 : 0 ≤ (nI la).toInt * (nI q - nI e).toInt := Int.mul_nonneg (by omega) (by omega)
      have m1 : (nI la).toInt * (nI q - nI e).toInt ≤ 9 * 20 := Int.mul_le_mul (by omega) (by omega) (by omega) (by decide)
      rw [Jvm.Kit.i32_mul (by omega) (by omega)]
      omega
    · rw [if_neg hp]
      rw [Int32.lt_iff_toInt_lt, es, e0] at hp
      have m : (-nI wa).toInt * (nI q - nI e).toInt = (nI wa).toInt * (-(nI q - nI e).toInt) := by rw [en, Int.neg_mul, Int.mul_neg]
      have m0 : 0 ≤ (nI wa).toInt * (-(nI q - nI e).toInt) := Int.mul_nonneg (by omega) (by omega)
      have m1 : (nI wa).toInt * (-(nI q - nI e).toInt) ≤ 9 * 20 := Int.mul_le_mul (by omega) (by omega) (by omega) (by decide)
      rw [Jvm.Kit.i32_mul (by omega) (by omega)]
      omega
  generalize (if 0 < nI q - nI e then nI la * (nI q - nI e) else (-nI wa) * (nI q - nI e)) = y at key
  have m0 : 0 ≤ (ch d).toInt * y.toInt := Int.mul_nonneg (by omega) key.1
  have m1 : (ch d).toInt * y.toInt ≤ 10 * 180 := Int.mul_le_mul (by omega) key.2 key.1 (by decide)
  rw [Jvm.Kit.i32_mul (by omega) (by omega)]
  omega
