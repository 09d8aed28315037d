/-! own words: soups -/
def xst (kd K : Nat → Int32) (nH G g : Nat) : Int32 := if g < G then xsum (fun h => xlf (kd g) (K (5 * h + g))) nH else nI 0
theorem xst_eq {kd K : Nat → Int32} {nH G g h : Nat} (h1 : g < G ∨ h = 0) (h2 : nH ≤ h ∨ ¬ g < G) (h3 : h ≤ nH) : xsum (fun y9 => xlf (kd g) (K (5 * y9 + g))) h = xst kd K nH G g := by
  unfold xst
  by_cases hg : g < G
  · rw [if_pos hg, show h = nH by omega]
  · rw [if_neg hg, show h = 0 by omega]
    rfl
theorem xuse_back (R : Nat → Int32) (i j : Nat) (n : Int32) : xuse (xuse R i j n) i j (-n) = R := by
  have e : ∀ x : Int32, x - n - -n = x := by
    intro x
    rw [Int32.sub_eq_add_neg, Int32.sub_eq_add_neg, Int32.neg_neg, Int32.add_assoc, Int32.add_comm (-n), ← Int32.sub_eq_add_neg n n, Int32.sub_self, Int32.add_zero]
  have e2 : ∀ x : Int32, x - n - n - -n - -n = x := by
    intro x
    rw [e (x - n), e x]
  funext k
  unfold xuse
  simp only [upd]
  by_cases hk : k = j
  · subst hk
    by_cases hki : k = i
    · subst hki
      simp only [if_true]
      exact e2 _
    · simp only [if_true, if_neg hki]
      exact e _
  · by_cases hki : k = i
    · subst hki
      simp only [if_true, if_neg hk]
      exact e _
    · simp only [if_neg hk, if_neg hki]
theorem xdn_toInt {x : Int32} {t : Nat} (h : t = 0 ∨ (t : Int) ≤ x.toInt + 1) : (x - nI t).toInt = x.toInt - t := by
  have a := x.toInt_lt
  have b := x.le_toInt
  rcases h with h | h
  · subst h
    rw [nI_0, Int32.sub_zero]
    omega
  · have ht : (nI t).toInt = t ∨ 2 ^ 31 ≤ t := by
      by_cases hz : t < 2 ^ 31
      · exact Or.inl (nI_toInt hz)
      · exact Or.inr (by omega)
    rcases ht with ht | ht
    · rw [Jvm.Kit.i32_sub (by rw [ht]; omega) (by rw [ht]; omega), ht]
    · have e : t = 2 ^ 31 := by omega
      have e2 : x.toInt = 2 ^ 31 - 1 := by omega
      subst e
      have e3 : x = Int32.ofInt (2 ^ 31 - 1) := Int32.toInt_inj.mp (by rw [e2]; decide)
      subst e3
      decide
theorem xdn_end {x : Int32} {t : Nat} (h : t = 0 ∨ (t : Int) ≤ x.toInt + 1) (hn : x - nI t < 0) : t = (x.toInt + 1).toNat := by
  rw [Int32.lt_iff_toInt_lt, xdn_toInt h] at hn
  have : (0 : Int32).toInt = 0 := by decide
  omega
theorem xdn_go {x : Int32} {t : Nat} (h : t = 0 ∨ (t : Int) ≤ x.toInt + 1) (hn : ¬ x - nI t < 0) : ((t + 1 : Nat) : Int) ≤ x.toInt + 1 := by
  rw [Int32.lt_iff_toInt_lt, xdn_toInt h] at hn
  have : (0 : Int32).toInt = 0 := by decide
  omega
theorem xdn_s (x : Int32) (t : Nat) : x - nI t + (-1) = x - nI (t + 1) := by
  rw [← nI_add, Int32.sub_eq_add_neg, Int32.sub_eq_add_neg, Int32.neg_add, Int32.add_assoc, Int32.sub_eq_add_neg (-nI t) (nI 1), show -nI 1 = (-1 : Int32) by decide]
/-- soups by the second recipe, from the most down, the first a times made -/
def xsIn (mn : Nat) (v : Nat → Int32) (Ra : Nat → Int32) (i1 j1 i2 j2 : Nat) (a nx : Int32) (st : Int32 × (Nat → Int32)) : Nat → Int32 × (Nat → Int32)
  | 0 => st
  | t + 1 => if (xsIn mn v Ra i1 j1 i2 j2 a nx st t).1 < ((if mn = 0 then nI 0 else a * v 0) + (if mn ≤ 1 then nI 0 else (nx - nI t) * v 1)) + (if mn ≤ 2 then nI 0 else (if mn ≤ 2 then nI 0 else xmo (if mn ≤ 1 then Ra else xuse Ra i1 j1 (nx - nI t)) i2 j2) * v 2)
      then (((if mn = 0 then nI 0 else a * v 0) + (if mn ≤ 1 then nI 0 else (nx - nI t) * v 1)) + (if mn ≤ 2 then nI 0 else (if mn ≤ 2 then nI 0 else xmo (if mn ≤ 1 then Ra else xuse Ra i1 j1 (nx - nI t)) i2 j2) * v 2),
        upd (upd (upd (xsIn mn v Ra i1 j1 i2 j2 a nx st t).2 0 a) 1 (nx - nI t)) 2 (if mn ≤ 2 then nI 0 else xmo (if mn ≤ 1 then Ra else xuse Ra i1 j1 (nx - nI t)) i2 j2))
      else xsIn mn v Ra i1 j1 i2 j2 a nx st t
abbrev xsRa (mn : Nat) (R : Nat → Int32) (i0 j0 : Nat) (a : Int32) : Nat → Int32 := if mn = 0 then R else xuse R i0 j0 a
abbrev xsNx (mn : Nat) (Ra : Nat → Int32) (i1 j1 : Nat) : Int32 := if mn ≤ 1 then nI 0 else xmo Ra i1 j1
def xsO (mn : Nat) (v R : Nat → Int32) (f g : Nat → Nat) (tp : Int32) (m0 : Nat → Int32) : Nat → Int32 × (Nat → Int32)
  | 0 => (-4, m0)
  | i + 1 => xsIn mn v (xsRa mn R (f 0) (g 0) (tp - nI i)) (f 1) (g 1) (f 2) (g 2) (tp - nI i) (xsNx mn (xsRa mn R (f 0) (g 0) (tp - nI i)) (f 1) (g 1)) (xsO mn v R f g tp m0 i) ((xsNx mn (xsRa mn R (f 0) (g 0) (tp - nI i)) (f 1) (g 1)).toInt + 1).toNat
