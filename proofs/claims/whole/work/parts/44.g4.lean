/-! own words: tied, further -/
theorem bake_tie {f : Nat → Int32} {what : Nat} (hF : 0 ≤ (f (xbest f 20)).toInt) : (if what = 0 then nI (xbest f 20) else if what = 1 then ((f (xbest f 20)).toInt64 / xgcd (f (xbest f 20)).toInt64 10).toInt32 else ((10 : Int64) / xgcd (f (xbest f 20)).toInt64 10).toInt32 : Int32) = xbake f what := by
  unfold xbake
  generalize f (xbest f 20) = y at hF
  have e10 : (10 : Int64).toInt.toNat = 10 := by decide
  have hd : Nat.gcd y.toInt64.toInt.toNat 10 ≤ 10 := Nat.gcd_le_right _ (by decide)
  have hp : 0 < Nat.gcd y.toInt64.toInt.toNat 10 := Nat.gcd_pos_of_pos_right _ (by decide)
  have e1 : (xgcd y.toInt64 10).toInt = (Nat.gcd y.toInt64.toInt.toNat 10 : Int) := by
    unfold xgcd
    rw [e10, Int64.toInt_ofInt, Jvm.Kit.bmod64 (by omega) (by omega)]
  generalize xgcd y.toInt64 10 = G at e1
  have e2 : G.toInt32.toInt = G.toInt := Jvm.Kit.i32_of_i64 (by omega) (by omega)
  have key : ∀ a : Int32, 0 ≤ a.toInt → (a.toInt64 / G).toInt32 = a / G.toInt32 := by
    intro a ha
    have hlt := a.toInt_lt
    apply Int32.toInt_inj.mp
    have ed : (a.toInt64 / G).toInt = a.toInt / G.toInt := by
      rw [Jvm.Kit.i64_div (by omega), Jvm.Kit.i64_of_i32, Int.tdiv_eq_ediv_of_nonneg ha]
    have l0 : 0 ≤ a.toInt / G.toInt := Int.ediv_nonneg ha (by omega)
    have l1 : a.toInt / G.toInt ≤ a.toInt := Int.ediv_le_self _ ha
    rw [Jvm.Kit.i32_of_i64 (by omega) (by omega), ed, Jvm.Kit.i32_div (by omega), e2, Int.tdiv_eq_ediv_of_nonneg ha]
  have k10 := key (nI 10) (by decide)
  rw [show (nI 10).toInt64 = (10 : Int64) by decide] at k10
  rw [key y hF, k10]
