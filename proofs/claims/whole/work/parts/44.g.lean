/-! own words: evenings, gifts' answers, loaves, when to buy: tied -/
theorem xsum_one {f g : Nat → Int32} {a : Nat} {d : Int32} : ∀ {n : Nat}, a < n → (∀ i, i < n → i ≠ a → g i = f i) → g a = f a + d → xsum g n = xsum f n + d
  | 0, h, _, _ => by omega
  | n + 1, h, hi, hd => by
    rw [xsum, xsum]
    by_cases hz : a = n
    · subst hz
      rw [xsum_congr (n := a) (fun i h2 => hi i (by omega) (by omega)), hd, Int32.add_assoc]
    · rw [xsum_one (n := n) (by omega) (fun i h2 => hi i (by omega)) hd, hi n (by omega) (fun z => hz z.symm), Int32.add_assoc, Int32.add_comm d, ← Int32.add_assoc]
section EVEN
variable {kd : Nat → Int32} {G nH : Nat} {ei eo pa : Nat → Int32} {E : Nat} {z : Int32}
theorem kEF_cnt {t : Nat} {x : kT} : ∀ n, n ≤ 8 → okE ei eo pa n → xsum (fun i => (kEF ei eo pa t z x n).1 (59 + i)) 8 + x.2.2 = xsum (fun i => x.1 (59 + i)) 8 + (kEF ei eo pa t z x n).2.2
  | 0, _, _ => rfl
  | n + 1, hn, hE => by
    have ih := kEF_cnt (t := t) (x := x) n (by omega) (fun i hi => hE i (by omega))
    obtain ⟨e1, e2, -⟩ := hE n (by omega)
    rw [kEF]
    split
    · unfold kEat
      split
      · dsimp only
        rw [← ih]
        congr 1
        refine xsum_congr (fun i hi => ?_)
        rw [upd_ne _ _ (by omega), kAdd_ne (by omega)]
      · dsimp only
        have := xsum_one (f := fun i => (kEF ei eo pa t z x n).1 (59 + i)) (g := fun i => upd (kEF ei eo pa t z x n).1 (59 + n) ((kEF ei eo pa t z x n).1 (59 + n) + nI 1) (59 + i)) (a := n) (d := nI 1) (n := 8) (by omega) (fun i hi hne => upd_ne _ _ (by omega)) (upd_at _ _ _)
        rw [this, Int32.add_assoc, Int32.add_comm (nI 1), ← Int32.add_assoc, ih, Int32.add_assoc]
    · exact ih
theorem kGoN_cnt {x : kT} (hE : okE ei eo pa E) (hE8 : E ≤ 8) (hK : okK x.1) : ∀ n, tn (x.1 25) + n ≤ 60 → xsum (fun i => (kGoN kd G nH ei eo pa E z x n).1 (59 + i)) 8 + x.2.2 = xsum (fun i => x.1 (59 + i)) 8 + (kGoN kd G nH ei eo pa E z x n).2.2
  | 0, _ => rfl
  | n + 1, hn => by
    have ih := kGoN_cnt hE hE8 hK n (by omega)
    obtain ⟨o1, o2⟩ := okK_goN (kd := kd) (G := G) (nH := nH) (z := z) hE hK n (by omega)
    rw [kGoN]
    generalize kGoN kd G nH ei eo pa E z x n = y at ih o1 o2
    have a1 := (okK_min o1 (by rw [o2, tn_nI (by omega)]; omega)).1
    have hk : ∀ i, (if (tn (y.1 25) + 1) % 10 = 0 then kSp kd G (kCome (kMin y.1)) nH 0 else kCome (kMin y.1)) (59 + i) = y.1 (59 + i) := by
      intro i
      have e1 : kCome (kMin y.1) (59 + i) = y.1 (59 + i) := (kCome_hi a1 (by omega)).trans (upd_ne _ _ (by omega))
      show (if _ then _ else _ : Nat → Int32) (59 + i) = _
      split
      · rw [kSp_ge _ _ _ _ _ (by omega)]
        exact e1
      · exact e1
    have c := kEF_cnt (ei := ei) (eo := eo) (pa := pa) (z := z) (t := tn (y.1 25) + 1) (x := (if (tn (y.1 25) + 1) % 10 = 0 then kSp kd G (kCome (kMin y.1)) nH 0 else kCome (kMin y.1), -4, y.2.2)) E hE8 hE
    dsimp only at c
    rw [xsum_congr (fun i _ => hk i)] at c
    unfold kGo
    have cc : ∀ (a b p d e f : Int32), a + b = p + d → p + e = f + b → a + e = f + d := by
      intro a b p d e f h1 h2
      have q1 : (a + e) + (b + p) = (f + d) + (b + p) := by
        have r1 : (a + e) + (b + p) = (a + b) + (p + e) := by ac_rfl
        have r2 : (f + d) + (b + p) = (p + d) + (f + b) := by ac_rfl
        rw [r1, r2, h1, h2]
      exact Int32.add_right_cancel.mp q1
    exact cc _ _ _ _ _ _ c ih
theorem even_tie {N K : Nat → Int32} {w : Int32} (hE : okE ei eo pa E) (hE8 : E ≤ 8) (hA : kAgr N K) (hK : okK K) (n : Nat) (hn : tn (K 25) + n ≤ 60) : xsum (fun i => (kGoN kd G nH ei eo pa E z (N, -4, nI 0) n).1 (59 + i)) 8 - xsum (fun i => N (59 + i)) 8 = (kGoN kd G nH ei eo pa E z (K, w, nI 0) n).2.2 := by
  have hg := kGoN_agr (kd := kd) (G := G) (nH := nH) (z := z) (b := -4) (c := nI 0) (b' := w) (c' := nI 0) hE hE8 hA hK n hn
  have c := kGoN_cnt (kd := kd) (G := G) (nH := nH) (z := z) (x := (K, w, nI 0)) hE hE8 hK n hn
  dsimp only at c
  rw [nI_0, Int32.add_zero, ← nI_0] at c
  rw [xsum_congr (fun i hi => hg.hi (j := 59 + i) (by omega) (by omega)), xsum_congr (f := fun i => N (59 + i)) (fun i hi => hA.hi (j := 59 + i) (by omega) (by omega)), c, Int32.add_comm, Int32.add_sub_cancel]
end EVEN
theorem xarr_cases {K : Nat → Int32} {a b : Int32} {j : Nat} {n : Int32} (hK : okK K) (hx : cN (xap a b) 60) : (xarr K a b j n < 0 ∧ xarr K a b j n = xref K a b j n ∧ ¬ 0 ≤ xref K a b j n) ∨ (¬ xarr K a b j n < 0 ∧ xref K a b j n = nI 0 ∧ xarr K a b j n = K 25 + xap a b) := by
  have h0 := xarr_cN hK hx
  unfold xarr xref
  by_cases h1 : K j < n ∨ K 25 = nI 60
  · rw [if_pos h1, if_pos h1]
    exact Or.inl ⟨by decide, rfl, by decide⟩
  · rw [if_neg h1, if_neg h1]
    by_cases h2 : ¬ a = b ∧ K 26 = nI 6
    · rw [if_pos h2, if_pos h2]
      exact Or.inl ⟨by decide, rfl, by decide⟩
    · rw [if_neg h2, if_neg h2]
      exact Or.inr ⟨h0, rfl, rfl⟩
theorem xap_cN {a b : Int32} (ha : cN a 60) (hb : cN b 60) : cN (xap a b) 60 := by
  obtain ⟨i, hi, e1⟩ := cN_ex ha
  obtain ⟨j, hj, e2⟩ := cN_ex hb
  rw [e1, e2]
  unfold xap
  split
  · rename_i h
    rw [xI_lt (by omega) (by omega)] at h
    rw [pk_sub (by omega)]
    exact ⟨by rw [tn_nI (by omega)], by rw [tn_nI (by omega)]; omega⟩
  · rename_i h
    rw [xI_lt (by omega) (by omega)] at h
    rw [pk_sub (by omega)]
    exact ⟨by rw [tn_nI (by omega)], by rw [tn_nI (by omega)]; omega⟩
theorem cN_int {a : Int32} {n : Nat} (h : cN a n) (hn : n < 2 ^ 31) : a.toInt = tn a := by
  obtain ⟨w1, w2⟩ := h
  have := nI_toInt (n := tn a) (by omega)
  rw [← w1] at this
  exact this
/-- what loaves cost is not below 0 -/
theorem xbk_nn {lo ch : Nat → Int32} {la wa D : Nat} (hla : la ≤ 9) (hwa : wa ≤ 9) (hD : D ≤ 5) (h : ∀ d, d < D → cN (lo d) 20 ∧ cN (ch d) 10) {q : Nat} (hq : q ≤ 20) : 0 ≤ (xbk lo ch (nI la) (nI wa) D q).toInt := by
  refine (xsum_bd (B := 1800) (n := D) (by omega) (fun d hd => ?_)).1
  obtain ⟨h1, h2⟩ := h d hd
  have c1 := cN_int h2 (by decide)
  have c2 := h2.2
  obtain ⟨e, he, e1⟩ := cN_ex h1
  rw [e1]
  have es : (nI q - nI e).toInt = (q : Int) - e := pk_sub_toInt (by omega) (by omega)
  have el : (nI la).toInt = la := nI_toInt (by omega)
  have ew : (nI wa).toInt = wa := nI_toInt (by omega)
  have en := neg_toInt (n := nI wa) (by omega)
  have e0 : (0 : Int32).toInt = 0 := by decide
  have key : 0 ≤ (if 0 < nI q - nI e then nI la * (nI q - nI e) else (-nI wa) * (nI q - nI e)).toInt ∧ (if 0 < nI q - nI e then nI la * (nI q - nI e) else (-nI wa) * (nI q - nI e)).toInt ≤ 180 := by
    by_cases hp : 0 < nI q - nI e
    · rw [if_pos hp]
      rw [Int32.lt_iff_toInt_lt, es, e0] at hp
      have m0 : 0 ≤ (nI la).toInt * (nI q - nI e).toInt := Int.mul_nonneg (by omega) (by omega)
      have m1 : (nI la).toInt * (nI q - nI e).toInt ≤ 9 * 20 := Int.mul_le_mul (by omega) (by omega) (by omega) (by decide)
      rw [Jvm.Kit.i32_mul (by omega) (by omega)]
      omega
    · rw [if_neg hp]
      rw [Int32.lt_iff_toInt_lt, es, e0] at hp
      have m : (-nI wa).toInt * (nI q - nI e).toInt = (nI wa).toInt * (-(nI q - nI e).toInt) := by rw [en, Int.neg_mul, Int.mul_neg]
      have m0 : 0 ≤ (nI wa).toInt * (-(nI q - nI e).toInt) := Int.mul_nonneg (by omega) (by omega)
      have m1 : (nI wa).toInt * (-(nI q - nI e).toInt) ≤ 9 * 20 := Int.mul_le_mul (by omega) (by omega) (by omega) (by decide)
      rw [Jvm.Kit.i32_mul (by omega) (by omega)]
      omega
  generalize (if 0 < nI q - nI e then nI la * (nI q - nI e) else (-nI wa) * (nI q - nI e)) = y at key
  have m0 : 0 ≤ (ch d).toInt * y.toInt := Int.mul_nonneg (by omega) key.1
  have m1 : (ch d).toInt * y.toInt ≤ 10 * 180 := Int.mul_le_mul (by omega) key.2 key.1 (by decide)
  rw [Jvm.Kit.i32_mul (by omega) (by omega)]
  omega
theorem bake_tie {f : Nat → Int32} {what : Nat} (hF : 0 ≤ (f (xbest f 20)).toInt) : (if what = 0 then nI (xbest f 20) else if what = 1 then ((f (xbest f 20)).toInt64 / xgcd (f (xbest f 20)).toInt64 10).toInt32 else ((10 : Int64) / xgcd (f (xbest f 20)).toInt64 10).toInt32 : Int32) = xbake f what := by
  unfold xbake
  generalize f (xbest f 20) = y at hF
  have e10 : (10 : Int64).toInt.toNat = 10 := by decide
  have hd : Nat.gcd y.toInt64.toInt.toNat 10 ≤ 10 := Nat.gcd_le_right _ (by decide)
  have hp : 0 < Nat.gcd y.toInt64.toInt.toNat 10 := Nat.gcd_pos_of_pos_right _ (by decide)
  have e1 : (xgcd y.toInt64 10).toInt = (Nat.gcd y.toInt64.toInt.toNat 10 : Int) := by
    unfold xgcd
    rw [e10, Int64.toInt_ofInt, Jvm.Kit.bmod64 (by omega) (by omega)]
  generalize xgcd y.toInt64 10 = G at e1
  have e2 : G.toInt32.toInt = G.toInt := Jvm.Kit.i32_of_i64 (by omega) (by omega)
  have key : ∀ a : Int32, 0 ≤ a.toInt → (a.toInt64 / G).toInt32 = a / G.toInt32 := by
    intro a ha
    have hlt := a.toInt_lt
    apply Int32.toInt_inj.mp
    have ed : (a.toInt64 / G).toInt = a.toInt / G.toInt := by
      rw [Jvm.Kit.i64_div (by omega), Jvm.Kit.i64_of_i32, Int.tdiv_eq_ediv_of_nonneg ha]
    have l0 : 0 ≤ a.toInt / G.toInt := Int.ediv_nonneg ha (by omega)
    have l1 : a.toInt / G.toInt ≤ a.toInt := Int.ediv_le_self _ ha
    rw [Jvm.Kit.i32_of_i64 (by omega) (by omega), ed, Jvm.Kit.i32_div (by omega), e2, Int.tdiv_eq_ediv_of_nonneg ha]
  have k10 := key (nI 10) (by decide)
  rw [show (nI 10).toInt64 = (10 : Int64) by decide] at k10
  rw [key y hF, k10]
theorem xbT_bd {x : Nat} (hx : x ≤ 10) : ∀ t, 0 ≤ (xbT x t).toInt ∧ (xbT x t).toInt ≤ 10000000000
  | 0 => by
    unfold xbT
    decide
  | t + 1 => by
    obtain ⟨i1, i2⟩ := xbT_bd hx t
    have es : (nI 10 - nI x).toInt64.toInt = (10 : Int) - x := by
      rw [Jvm.Kit.i64_of_i32, pk_sub_toInt (by omega) (by omega)]
      rfl
    have e10 : (10 : Int64).toInt = 10 := by decide
    have ed : (xbT x t / 10).toInt = (xbT x t).toInt / 10 := by
      rw [Jvm.Kit.i64_div (by omega), e10, Int.tdiv_eq_ediv_of_nonneg i1]
    have m0 : 0 ≤ (xbT x t / 10).toInt * (nI 10 - nI x).toInt64.toInt := Int.mul_nonneg (by omega) (by omega)
    have m1 : (xbT x t / 10).toInt * (nI 10 - nI x).toInt64.toInt ≤ 1000000000 * 10 := Int.mul_le_mul (by omega) (by omega) (by omega) (by decide)
    rw [xbT, Jvm.Kit.i64_mul (by omega) (by omega)]
    omega
theorem xbG_bd {v a b x : Nat} (hv : v ≤ 99) (ha : a ≤ 99) (hx : x ≤ 10) (t : Nat) : -990000000000 ≤ (xbG v a b x t).toInt ∧ (xbG v a b x t).toInt ≤ 990000000000 := by
  obtain ⟨i1, i2⟩ := xbT_bd hx t
  have es : (nI v - nI (a - b * t)).toInt64.toInt = (v : Int) - ((a - b * t : Nat) : Int) := by
    rw [Jvm.Kit.i64_of_i32]
    exact pk_sub_toInt (by omega) (by omega)
  have hl : -99 ≤ (nI v - nI (a - b * t)).toInt64.toInt ∧ (nI v - nI (a - b * t)).toInt64.toInt ≤ 99 := by omega
  unfold xbG
  generalize (nI v - nI (a - b * t)).toInt64 = y at hl
  have u1 : (xbT x t).toInt * y.toInt ≤ (xbT x t).toInt * 99 := Int.mul_le_mul_of_nonneg_left hl.2 i1
  have u2 : (xbT x t).toInt * (-99) ≤ (xbT x t).toInt * y.toInt := Int.mul_le_mul_of_nonneg_left hl.1 i1
  rw [Jvm.Kit.i64_mul (by omega) (by omega)]
  omega
theorem xbR_bd {v a b x : Nat} (hv : v ≤ 99) (ha : a ≤ 99) (hx : x ≤ 10) : ∀ t, -990000000000 ≤ (xbR v a b x t).1.toInt ∧ (xbR v a b x t).1.toInt ≤ 990000000000
  | 0 => by
    unfold xbR
    decide
  | t + 1 => by
    have ih := xbR_bd (b := b) hv ha hx t
    rw [xbR]
    split
    · exact xbG_bd hv ha hx t
    · exact ih
theorem xbA_nn {v a b x : Nat} (hv : v ≤ 99) (ha : a ≤ 99) (hx : x ≤ 10) : 0 ≤ (xbA v a b x).toInt := by
  have h := xbR_bd (b := b) hv ha hx 11
  have e : ((1000 : Int64) * 10000000000).toInt = 10000000000000 := by decide
  unfold xbA
  rw [Jvm.Kit.i64_add (by omega) (by omega)]
  omega
