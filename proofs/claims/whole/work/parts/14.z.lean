/-! own words: common divisors, the best of some -/
theorem xrem_toInt {x y : Int64} (hx : 0 ≤ x.toInt) (hy : 0 ≤ y.toInt) (h0 : ¬ y = 0) : (xrem x y).toInt = x.toInt % y.toInt := by
  have hy0 : y.toInt ≠ 0 := fun z => h0 (Int64.toInt_inj.mp (by rw [z]; decide))
  have hxl := x.toInt_lt
  have hd : (x / y).toInt = x.toInt / y.toInt := by
    rw [Jvm.Kit.i64_div (by omega), Int.tdiv_eq_ediv_of_nonneg hx]
  have hd0 : 0 ≤ x.toInt / y.toInt := Int.ediv_nonneg hx hy
  have hm : x.toInt / y.toInt * y.toInt ≤ x.toInt := Int.ediv_mul_le _ hy0
  have hm0 : 0 ≤ x.toInt / y.toInt * y.toInt := Int.mul_nonneg hd0 hy
  unfold xrem
  have e1 : (x / y * y).toInt = x.toInt / y.toInt * y.toInt := by
    rw [Jvm.Kit.i64_mul (by rw [hd]; omega) (by rw [hd]; omega), hd]
  rw [Jvm.Kit.i64_sub (by rw [e1]; omega) (by rw [e1]; omega), e1]
  have := Int.mul_ediv_add_emod x.toInt y.toInt
  rw [Int.mul_comm] at this
  omega
theorem xrem_nn {x y : Int64} (hx : 0 ≤ x.toInt) (hy : 0 ≤ y.toInt) (h0 : ¬ y = 0) : 0 ≤ (xrem x y).toInt := by
  rw [xrem_toInt hx hy h0]
  exact Int.emod_nonneg _ (fun z => h0 (Int64.toInt_inj.mp (by rw [z]; decide)))
theorem xrem_lt {x y : Int64} (hx : 0 ≤ x.toInt) (hy : 0 ≤ y.toInt) (h0 : ¬ y = 0) : (xrem x y).toInt.toNat < y.toInt.toNat := by
  have hy0 : y.toInt ≠ 0 := fun z => h0 (Int64.toInt_inj.mp (by rw [z]; decide))
  have h1 := Int.emod_lt_of_pos x.toInt (show 0 < y.toInt by omega)
  have h2 := xrem_nn hx hy h0
  rw [xrem_toInt hx hy h0] at h2 ⊢
  omega
theorem xrem_gcd {x y : Int64} (hx : 0 ≤ x.toInt) (hy : 0 ≤ y.toInt) (h0 : ¬ y = 0) : Nat.gcd y.toInt.toNat (xrem x y).toInt.toNat = Nat.gcd x.toInt.toNat y.toInt.toNat := by
  rw [xrem_toInt hx hy h0, Int.toNat_emod hx hy]
  exact (Nat.gcd_comm _ _).trans ((Nat.gcd_rec _ _).symm.trans (Nat.gcd_comm _ _))
/-- the greatest common divisor -/
def xgcd (a b : Int64) : Int64 := Int64.ofInt (Nat.gcd a.toInt.toNat b.toInt.toNat)
theorem xgcd_eq {x y a b : Int64} (hx : 0 ≤ x.toInt) (hy : y = 0) (h : Nat.gcd x.toInt.toNat y.toInt.toNat = Nat.gcd a.toInt.toNat b.toInt.toNat) : x = xgcd a b := by
  subst hy
  have e0 : (0 : Int64).toInt.toNat = 0 := by decide
  unfold xgcd
  rw [← h, e0, Nat.gcd_zero_right]
  apply Int64.toInt_inj.mp
  have := x.toInt_lt
  rw [Int64.toInt_ofInt, Jvm.Kit.bmod64 (by omega) (by omega)]
  omega
def xbest (f : Nat → Int32) : Nat → Nat
  | 0 => 0
  | n + 1 => if f (n + 1) < f (xbest f n) then n + 1 else xbest f n
theorem xbest_le (f : Nat → Int32) : ∀ n, xbest f n ≤ n
  | 0 => Nat.le_refl 0
  | n + 1 => by
    have := xbest_le f n
    rw [xbest]
    split <;> omega
def xbake (f : Nat → Int32) (what : Nat) : Int32 := if what = 0 then nI (xbest f 20) else if what = 1 then f (xbest f 20) / (xgcd (f (xbest f 20)).toInt64 10).toInt32 else nI 10 / (xgcd (f (xbest f 20)).toInt64 10).toInt32
theorem xgcd_ne {x : Int32} (h : 0 ≤ x.toInt) : ¬ (xgcd x.toInt64 10).toInt32 = 0 := by
  intro z
  have e := congrArg Int32.toInt z
  have e10 : (10 : Int64).toInt.toNat = 10 := by decide
  have e0 : (0 : Int32).toInt = 0 := by decide
  have hd : Nat.gcd x.toInt64.toInt.toNat 10 ≤ 10 := Nat.gcd_le_right _ (by decide)
  have hp : 0 < Nat.gcd x.toInt64.toInt.toNat 10 := Nat.gcd_pos_of_pos_right _ (by decide)
  have e1 : (xgcd x.toInt64 10).toInt = (Nat.gcd x.toInt64.toInt.toNat 10 : Int) := by
    unfold xgcd
    rw [e10, Int64.toInt_ofInt, Jvm.Kit.bmod64 (by omega) (by omega)]
  rw [Jvm.Kit.i32_of_i64 (by omega) (by omega), e1, e0] at e
  omega
theorem xbk_p {lo ch : Nat → Int32} {l w : Int32} {k q : Nat} (h : 0 < nI q - lo k) : xbk lo ch l w k q + ch k * (l * (nI q - lo k)) = xbk lo ch l w (k + 1) q := by
  unfold xbk
  rw [xsum]
  simp only [if_pos h]
theorem xbk_n {lo ch : Nat → Int32} {l w : Int32} {k q : Nat} (h : ¬ 0 < nI q - lo k) : xbk lo ch l w k q + ch k * ((-w) * (nI q - lo k)) = xbk lo ch l w (k + 1) q := by
  unfold xbk
  rw [xsum]
  simp only [if_neg h]
