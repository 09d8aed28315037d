/-! own words: shops of the class -/
theorem xbk_s {lo ch : Nat → Int32} {l w : Int32} {k q : Nat} : xbk lo ch l w k q + ch k * (if nI q - lo k ≤ 0 then (-w) * (nI q - lo k) else l * (nI q - lo k)) = xbk lo ch l w (k + 1) q := by
  by_cases h : nI q - lo k ≤ 0
  · rw [if_pos h]
    exact xbk_n (Int32.not_lt.mpr h)
  · rw [if_neg h]
    exact xbk_p (Int32.not_le.mp h)
theorem xbest_1 {f : Nat → Int32} {k : Nat} (h : ¬ f (xbest f k) ≤ f (k + 1)) : xbest f (k + 1) = k + 1 := if_pos (Int32.not_le.mp h)
theorem xbest_0 {f : Nat → Int32} {k : Nat} (h : f (xbest f k) ≤ f (k + 1)) : xbest f (k + 1) = xbest f k := if_neg (Int32.not_lt.mpr h)
/-- divisors: what two numbers still make -/
theorem xdv_s {x y k : Nat} (hy : 0 < y) (h : y < x) (hp : x * y * 2 ^ k ≤ 2 ^ 130) : y * (x % y) * 2 ^ (k + 1) ≤ 2 ^ 130 := by
  have h1 : 2 * (x % y) ≤ x := by
    have a := Nat.mod_lt x hy
    have b := Nat.div_add_mod x y
    have c : y * 1 ≤ y * (x / y) := Nat.mul_le_mul_left y (Nat.div_pos (by omega) (by omega))
    omega
  have h2 : y * (x % y) * 2 ^ (k + 1) = y * (2 * (x % y)) * 2 ^ k := by
    rw [Nat.pow_succ, Nat.mul_assoc, Nat.mul_assoc, Nat.mul_comm (2 ^ k) 2, ← Nat.mul_assoc (x % y) 2, Nat.mul_comm (x % y) 2]
  rw [h2]
  refine Nat.le_trans (Nat.mul_le_mul_right _ (Nat.mul_le_mul_left y h1)) ?_
  rw [Nat.mul_comm y x]
  exact hp
def xdvI (k : Nat) (x y : Nat) : Prop := k = 0 ∨ (y < x ∧ x * y * 2 ^ k ≤ 2 ^ 130)
theorem xdv_n {x y k : Nat} (hx : x < 2 ^ 63) (hy : 0 < y) (hy2 : y < 2 ^ 63) (h : xdvI k x y) : xdvI (k + 1) y (x % y) := by
  refine Or.inr ⟨Nat.mod_lt _ hy, ?_⟩
  rcases h with rfl | h
  · have a : y * (x % y) ≤ 2 ^ 63 * 2 ^ 63 := Nat.mul_le_mul (by omega) (by have := Nat.mod_lt x hy; omega)
    calc y * (x % y) * 2 ^ 1 ≤ 2 ^ 63 * 2 ^ 63 * 2 ^ 1 := Nat.mul_le_mul_right _ a
      _ ≤ 2 ^ 130 := by decide
  · exact xdv_s hy h.1 h.2
theorem xdv_end {x y k : Nat} (hk : 1000 ≤ k) (h : xdvI k x y) : y = 0 := by
  rcases h with h | h
  · omega
  · by_cases hy : y = 0
    · exact hy
    · exfalso
      have a : 1 * 1 ≤ x * y := Nat.mul_le_mul (by omega) (by omega)
      have b : 2 ^ 1000 ≤ 2 ^ k := Nat.pow_le_pow_right (by decide) hk
      have c := Nat.mul_le_mul a b
      have d : ¬ 1 * 1 * 2 ^ 1000 ≤ 2 ^ 130 := by decide +kernel
      exact d (Nat.le_trans c h.2)
theorem xdv_z {y : Int64} (h : 0 ≤ y.toInt) (hz : y.toInt.toNat = 0) : y = 0 := Int64.toInt_inj.mp (by rw [show (0 : Int64).toInt = 0 by decide]; omega)
theorem xgcd_pos {a b : Int64} (hb : 0 < b.toInt) : 0 < (xgcd a b).toInt := by
  have h1 := b.toInt_lt
  have hd : Nat.gcd a.toInt.toNat b.toInt.toNat ≤ b.toInt.toNat := Nat.gcd_le_right _ (by omega)
  have hp : 0 < Nat.gcd a.toInt.toNat b.toInt.toNat := Nat.gcd_pos_of_pos_right _ (by omega)
  unfold xgcd
  rw [Int64.toInt_ofInt, Jvm.Kit.bmod64 (by omega) (by omega)]
  omega
theorem xgcd_nle {a b : Int64} (hb : 0 < b.toInt) : ¬ xgcd a b ≤ 0 := by
  have := xgcd_pos (a := a) hb
  rw [Int64.le_iff_toInt_le, show (0 : Int64).toInt = 0 by decide]
  omega
theorem xgcd_n0 {a b : Int64} (hb : 0 < b.toInt) : ¬ xgcd a b = 0 := fun z => xgcd_nle hb (by rw [z]; exact Int64.le_refl _)
/-! when to buy -/
theorem x_max0 {a c : Nat} (ha : a < 2 ^ 30) (hc : c < 2 ^ 30) : (if nI a - nI c < nI 0 then nI 0 else nI a - nI c) = nI (a - c) := by
  have e := pk_sub_toInt ha hc
  have e0 : (nI 0).toInt = 0 := nI_toInt (by decide)
  by_cases h : a < c
  · rw [if_pos (by rw [Int32.lt_iff_toInt_lt, e, e0]; omega), show a - c = 0 by omega]
  · rw [if_neg (by rw [Int32.lt_iff_toInt_lt, e, e0]; omega)]
    exact pk_sub (by omega)
def xbM (v a b x : Nat) (m0 : Int32) (t : Nat) : Int32 := if t = 0 then m0 else (xbR v a b x t).2
def xbN (v a b x : Nat) (g0 : Int64) (t : Nat) : Int64 := if t = 0 then g0 else (xbR v a b x t).1
theorem xbR_nn {v a b x : Nat} : ∀ t, t ≤ 11 → 1 ≤ t → ¬ (xbR v a b x t).2 < 0
  | 0, _, h => absurd h (by decide)
  | t + 1, ht, _ => by
    rw [xbR]
    split
    · exact nI_pos (by omega)
    · rename_i h
      exact fun z => h (Or.inl z)
section XBM
variable {v a b x t : Nat} {m0 : Int32} {g0 : Int64}
theorem xbS_1 (ht : t ≤ 10) (h : t = 0 ∨ ¬ (nI v - nI (a - b * t)).toInt64 * xbT x t ≤ xbN v a b x g0 t) : xbR v a b x (t + 1) = ((nI v - nI (a - b * t)).toInt64 * xbT x t, nI t) := by
  rw [Int64.mul_comm]
  rw [Int64.mul_comm] at h
  refine xbR_1 ?_
  rcases h with h | h
  · subst h
    exact Or.inl (by show (-4 : Int32) < 0; decide)
  · by_cases hz : t = 0
    · subst hz
      exact Or.inl (by show (-4 : Int32) < 0; decide)
    · refine Or.inr ?_
      unfold xbN at h
      rw [if_neg hz] at h
      exact xlt_of_nle h
theorem xbS_0 (ht : t ≤ 10) (h : ¬ t = 0) (h2 : (nI v - nI (a - b * t)).toInt64 * xbT x t ≤ xbN v a b x g0 t) : xbR v a b x (t + 1) = xbR v a b x t := by
  rw [Int64.mul_comm] at h2
  unfold xbN at h2
  rw [if_neg h] at h2
  exact xbR_0 (xbR_nn t (by omega) (by omega)) (xnlt_of_le h2)
theorem xbM_s : xbM v a b x m0 (t + 1) = (xbR v a b x (t + 1)).2 := if_neg (by omega)
theorem xbN_s : xbN v a b x g0 (t + 1) = (xbR v a b x (t + 1)).1 := if_neg (by omega)
theorem xbM_k (h : ¬ t = 0) : xbM v a b x m0 t = (xbR v a b x t).2 := if_neg h
theorem xbN_k (h : ¬ t = 0) : xbN v a b x g0 t = (xbR v a b x t).1 := if_neg h
end XBM
/-! soups -/
theorem xmoC_1 {s : Nat → Int32} {i j : Nat} (h : i = j) : s i / nI 2 = xmo s i j := (if_pos h).symm
theorem xmoC_2 {s : Nat → Int32} {i j : Nat} (h : ¬ i = j) : (if s j < s i then s j else s i) = xmo s i j := by
  unfold xmo
  rw [if_neg h]
  by_cases h1 : s j < s i
  · rw [if_pos h1, if_neg]
    rw [Int32.lt_iff_toInt_lt] at h1 ⊢
    omega
  · rw [if_neg h1]
    by_cases h2 : s i < s j
    · rw [if_pos h2]
    · rw [if_neg h2]
      apply Int32.toInt_inj.mp
      rw [Int32.lt_iff_toInt_lt] at h1 h2
      omega
theorem xuse_a {s : Nat → Int32} {i j : Nat} {n : Int32} : upd (upd s i (s i + -n)) j (upd s i (s i + -n) j + -n) = xuse s i j n := by
  unfold xuse
  rw [Int32.sub_eq_add_neg, Int32.sub_eq_add_neg]
theorem xuse_b {mn k : Nat} {R : Nat → Int32} {i j : Nat} {n : Int32} : (if mn ≤ k then (if mn ≤ k then R else xuse R i j n) else xuse (if mn ≤ k then R else xuse R i j n) i j (-n)) = R := by
  by_cases h : mn ≤ k
  · rw [if_pos h, if_pos h]
  · rw [if_neg h, if_neg h]
    exact xuse_back _ _ _ _
theorem xfill_in {s f : Nat → Int32} {g : Nat} (hg : g < 5) : upd (xfill (xzero s 0 5) f g) g (nI 0) = xfill (xzero s 0 5) f g := by
  funext j
  simp only [upd, xfill, xzero]
  by_cases h : j = g
  · subst h
    rw [if_pos rfl, if_neg (Nat.lt_irrefl _), if_pos (by omega)]
  · rw [if_neg h]
theorem xfill_st {s kd K : Nat → Int32} {nH G : Nat} (hG : G ≤ 5) : xfill (xzero s 0 5) (xst kd K nH G) G = xfill s (xst kd K nH G) 5 := by
  funext j
  simp only [xfill, xzero, xst]
  by_cases h : j < G
  · simp [h, show j < 5 by omega]
  · by_cases h2 : j < 5
    · simp [h, h2]
    · simp [h, h2]
def xtw (st : Int32 × (Nat → Int32)) (w a b c : Int32) : Int32 × (Nat → Int32) := if st.1 < w then (w, upd (upd (upd st.2 0 a) 1 b) 2 c) else st
theorem xtw_1 {st : Int32 × (Nat → Int32)} {w a b c : Int32} (h : ¬ w ≤ st.1) : xtw st w a b c = (w, upd (upd (upd st.2 0 a) 1 b) 2 c) := if_pos (Int32.not_le.mp h)
theorem xtw_0 {st : Int32 × (Nat → Int32)} {w a b c : Int32} (h : w ≤ st.1) : xtw st w a b c = st := if_neg (Int32.not_lt.mpr h)
/-- soups by the second recipe, by the first, as the class tries them -/
def xcC (mn : Nat) (Ra : Nat → Int32) (i1 j1 i2 j2 : Nat) (b : Int32) : Int32 := if mn ≤ 2 then nI 0 else xmo (if mn ≤ 1 then Ra else xuse Ra i1 j1 b) i2 j2
def xcIn (mn : Nat) (v Ra : Nat → Int32) (i1 j1 i2 j2 : Nat) (a nx : Int32) (st : Int32 × (Nat → Int32)) : Nat → Int32 × (Nat → Int32)
  | 0 => st
  | t + 1 => xtw (xcIn mn v Ra i1 j1 i2 j2 a nx st t) (a * v 0 + (nx - nI t) * v 1 + xcC mn Ra i1 j1 i2 j2 (nx - nI t) * v 2) a (nx - nI t) (xcC mn Ra i1 j1 i2 j2 (nx - nI t))
abbrev xcRa (mn : Nat) (R : Nat → Int32) (i0 j0 : Nat) (a : Int32) : Nat → Int32 := if mn ≤ 0 then R else xuse R i0 j0 a
abbrev xcW (mn : Nat) (v Ra : Nat → Int32) (i1 j1 i2 j2 : Nat) (a : Int32) : Int32 := a * v 0 + (if mn ≤ 1 then nI 0 else xmo Ra i1 j1) * v 1 + (if mn ≤ 2 then nI 0 else xmo Ra i2 j2) * v 2
def xcO (mn : Nat) (v R : Nat → Int32) (f g : Nat → Nat) (tp : Int32) (m0 : Nat → Int32) : Nat → Int32 × (Nat → Int32)
  | 0 => (-1, m0)
  | i + 1 => if (xcO mn v R f g tp m0 i).1 < xcW mn v (xcRa mn R (f 0) (g 0) (tp - nI i)) (f 1) (g 1) (f 2) (g 2) (tp - nI i)
      then xcIn mn v (xcRa mn R (f 0) (g 0) (tp - nI i)) (f 1) (g 1) (f 2) (g 2) (tp - nI i) (if mn ≤ 1 then nI 0 else xmo (xcRa mn R (f 0) (g 0) (tp - nI i)) (f 1) (g 1)) (xcO mn v R f g tp m0 i) ((if mn ≤ 1 then nI 0 else xmo (xcRa mn R (f 0) (g 0) (tp - nI i)) (f 1) (g 1)).toInt + 1).toNat
      else xcO mn v R f g tp m0 i
section XCO
variable {mn : Nat} {v R : Nat → Int32} {f g : Nat → Nat} {tp : Int32} {m0 : Nat → Int32} {i : Nat}
theorem xcO_1 (h : ¬ xcW mn v (xcRa mn R (f 0) (g 0) (tp - nI i)) (f 1) (g 1) (f 2) (g 2) (tp - nI i) ≤ (xcO mn v R f g tp m0 i).1) : xcO mn v R f g tp m0 (i + 1) = xcIn mn v (xcRa mn R (f 0) (g 0) (tp - nI i)) (f 1) (g 1) (f 2) (g 2) (tp - nI i) (if mn ≤ 1 then nI 0 else xmo (xcRa mn R (f 0) (g 0) (tp - nI i)) (f 1) (g 1)) (xcO mn v R f g tp m0 i) ((if mn ≤ 1 then nI 0 else xmo (xcRa mn R (f 0) (g 0) (tp - nI i)) (f 1) (g 1)).toInt + 1).toNat := if_pos (Int32.not_le.mp h)
theorem xcO_0 (h : xcW mn v (xcRa mn R (f 0) (g 0) (tp - nI i)) (f 1) (g 1) (f 2) (g 2) (tp - nI i) ≤ (xcO mn v R f g tp m0 i).1) : xcO mn v R f g tp m0 (i + 1) = xcO mn v R f g tp m0 i := if_neg (Int32.not_lt.mpr h)
end XCO
/-! sets: the lowest one -/
theorem xsv_first {F : Nat → Int32} {v s : Nat} (h : xsv F v s = (0, -4)) (hs : F s = nI v) : ∀ m, (xsv F v (s + 1 + m)).2 = nI s ∧ 1 ≤ (xsv F v (s + 1 + m)).1
  | 0 => by
    rw [Nat.add_zero, xsv, h]
    dsimp only
    rw [if_pos hs, if_pos ⟨hs, rfl⟩]
    exact ⟨rfl, by omega⟩
  | m + 1 => by
    obtain ⟨h1, h2⟩ := xsv_first h hs m
    rw [← Nat.add_assoc, xsv]
    dsimp only
    refine ⟨?_, ?_⟩
    · rw [if_neg (fun z => absurd z.2 (by omega)), h1]
    · split <;> omega
theorem xsv_0 {F : Nat → Int32} {v s : Nat} (h : xsv F v s = (0, -4)) (hs : ¬ F s = nI v) : xsv F v (s + 1) = (0, -4) := by
  rw [xsv, h]
  dsimp only
  rw [if_neg hs, if_neg (fun z => hs z.1)]
theorem xsv_at {F : Nat → Int32} {v s n : Nat} (h : xsv F v s = (0, -4)) (hs : F s = nI v) (hn : s < n) : (xsv F v n).2 = nI s := by
  have := (xsv_first h hs (n - (s + 1))).1
  rw [show s + 1 + (n - (s + 1)) = n by omega] at this
  exact this
/-- peas: the fewest to eat and win -/
def xwe (f : Nat → Int32) (v t : Nat) : Nat → Nat
  | 0 => 0
  | j + 1 => if xwe f v t j = 0 then (if j + 1 ≤ v ∧ ¬ j + 1 = t ∧ f ((v - (j + 1)) * 10 + (j + 1)) = 0 then j + 1 else 0) else xwe f v t j
theorem xwe_le (f : Nat → Int32) (v t : Nat) : ∀ j, xwe f v t j ≤ j
  | 0 => Nat.le_refl 0
  | j + 1 => by
    have := xwe_le f v t j
    rw [xwe]
    repeat' split
    all_goals omega
theorem xwe_1 {f : Nat → Int32} {v t j : Nat} (h0 : xwe f v t j = 0) (h1 : j + 1 ≤ v) (h2 : ¬ j + 1 = t) (h3 : f ((v - (j + 1)) * 10 + (j + 1)) = 0) : ∀ m, xwe f v t (j + 1 + m) = j + 1
  | 0 => by rw [Nat.add_zero, xwe, if_pos h0, if_pos ⟨h1, h2, h3⟩]
  | m + 1 => by
    have := xwe_1 h0 h1 h2 h3 m
    rw [← Nat.add_assoc, xwe, if_neg (by omega), this]
theorem xwe_at {f : Nat → Int32} {v t j n : Nat} (h0 : xwe f v t j = 0) (h1 : j + 1 ≤ v) (h2 : ¬ j + 1 = t) (h3 : f ((v - (j + 1)) * 10 + (j + 1)) = 0) (hn : j < n) : xwe f v t n = j + 1 := by
  have := xwe_1 h0 h1 h2 h3 (n - (j + 1))
  rw [show j + 1 + (n - (j + 1)) = n by omega] at this
  exact this
theorem xwe_0 {f : Nat → Int32} {v t j : Nat} (h0 : xwe f v t j = 0) (h : ¬ (j + 1 ≤ v ∧ ¬ j + 1 = t ∧ f ((v - (j + 1)) * 10 + (j + 1)) = 0)) : xwe f v t (j + 1) = 0 := by rw [xwe, if_pos h0, if_neg h]
theorem xwe_far {f : Nat → Int32} {v t j : Nat} (h0 : xwe f v t j = 0) (h : v < j + 1) : ∀ m, xwe f v t (j + m) = 0
  | 0 => h0
  | m + 1 => by
    have := xwe_far h0 h m
    rw [← Nat.add_assoc]
    exact xwe_0 this (fun z => absurd z.1 (by omega))
theorem xwe_end {f : Nat → Int32} {v t j n : Nat} (h0 : xwe f v t j = 0) (h : v < j + 1) (hn : j ≤ n) : xwe f v t n = 0 := by
  have := xwe_far h0 h (n - j)
  rw [show j + (n - j) = n by omega] at this
  exact this
def xcr (mm v : Nat) (f : Nat → Int32) : Nat → Nat → Int32
  | 0 => f
  | t + 1 => upd (xcr mm v f t) (v * 10 + (t + 1)) (zb (0 < xwe (xcr mm v f t) v (t + 1) mm))
def xct (mm : Nat) (f : Nat → Int32) : Nat → Nat → Int32
  | 0 => f
  | v + 1 => xcr mm v (xct mm f v) mm
