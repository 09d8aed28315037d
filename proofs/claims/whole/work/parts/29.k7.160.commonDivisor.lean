theorem dX6_commonDivisor_0 : decode cX6_commonDivisor 0 = .ok (.lload_n 0, 1) := by decide +kernel
theorem dX6_commonDivisor_1 : decode cX6_commonDivisor 1 = .ok (.lstore 4, 2) := by decide +kernel
theorem dX6_commonDivisor_3 : decode cX6_commonDivisor 3 = .ok (.lload_n 2, 1) := by decide +kernel
theorem dX6_commonDivisor_4 : decode cX6_commonDivisor 4 = .ok (.lstore 6, 2) := by decide +kernel
theorem dX6_commonDivisor_6 : decode cX6_commonDivisor 6 = .ok (.iconst 0, 1) := by decide +kernel
theorem dX6_commonDivisor_7 : decode cX6_commonDivisor 7 = .ok (.istore 8, 2) := by decide +kernel
theorem dX6_commonDivisor_9 : decode cX6_commonDivisor 9 = .ok (.iload 8, 2) := by decide +kernel
theorem dX6_commonDivisor_11 : decode cX6_commonDivisor 11 = .ok (.sipush 1000, 3) := by decide +kernel
theorem dX6_commonDivisor_14 : decode cX6_commonDivisor 14 = .ok (.if_icmp .ge 31, 3) := by decide +kernel
theorem dX6_commonDivisor_17 : decode cX6_commonDivisor 17 = .ok (.lload 6, 2) := by decide +kernel
theorem dX6_commonDivisor_19 : decode cX6_commonDivisor 19 = .ok (.lconst 0, 1) := by decide +kernel
theorem dX6_commonDivisor_20 : decode cX6_commonDivisor 20 = .ok (.lcmp, 1) := by decide +kernel
theorem dX6_commonDivisor_21 : decode cX6_commonDivisor 21 = .ok (.ifCond .eq 24, 3) := by decide +kernel
theorem dX6_commonDivisor_24 : decode cX6_commonDivisor 24 = .ok (.lload 4, 2) := by decide +kernel
theorem dX6_commonDivisor_26 : decode cX6_commonDivisor 26 = .ok (.lload 6, 2) := by decide +kernel
theorem dX6_commonDivisor_28 : decode cX6_commonDivisor 28 = .ok (.lrem, 1) := by decide +kernel
theorem dX6_commonDivisor_29 : decode cX6_commonDivisor 29 = .ok (.lstore 9, 2) := by decide +kernel
theorem dX6_commonDivisor_31 : decode cX6_commonDivisor 31 = .ok (.lload 6, 2) := by decide +kernel
theorem dX6_commonDivisor_33 : decode cX6_commonDivisor 33 = .ok (.lstore 4, 2) := by decide +kernel
theorem dX6_commonDivisor_35 : decode cX6_commonDivisor 35 = .ok (.lload 9, 2) := by decide +kernel
theorem dX6_commonDivisor_37 : decode cX6_commonDivisor 37 = .ok (.lstore 6, 2) := by decide +kernel
theorem dX6_commonDivisor_39 : decode cX6_commonDivisor 39 = .ok (.iinc 8 1, 3) := by decide +kernel
theorem dX6_commonDivisor_42 : decode cX6_commonDivisor 42 = .ok (.goto (-33), 3) := by decide +kernel
theorem dX6_commonDivisor_45 : decode cX6_commonDivisor 45 = .ok (.lload 4, 2) := by decide +kernel
theorem dX6_commonDivisor_47 : decode cX6_commonDivisor 47 = .ok (.lreturn, 1) := by decide +kernel
set_option maxHeartbeats 2000000 in
set_option maxRecDepth 100000 in
theorem c_X6_commonDivisor (l : Launch) (D : va_G) (q : Nat → ClassId) (a : Int64) (b : Int64) (ha9 : 0 ≤ a.toInt) (hb9 : 0 < b.toInt) : xC l yX6_commonDivisor wsX6_commonDivisor ({ frames := 0, cells := 0, slots := 0, locals := 0 }) D (TY q) [] [.long a, .long b] (xQl D (TY q) (fun (r : Int64) (_ : Unit) => r = xgcd a b) (fun _ => [])) 0 0 := by
  refine x_enter (cc := cX6_commonDivisor) (maxL := 11) (ret := (some .long)) (by decide) rfl (Nat.le_of_ble_eq_true rfl) ?_
  intro p e s m below meth c A ls H locs hfix hr hlocks hinit hM hl
  obtain ⟨hx, hb, hml, hown, hts⟩ := id hfix
  have hl : lv_has ls 11 [(0, .long a), (2, .long b)] := hl
  have hal := a.toInt_lt
  have hbl := b.toInt_lt
  refine lv_lload_n hx hb dX6_commonDivisor_0 rfl (lv_at hl 0 rfl) ?_
  refine lv_lstore (lv' := [(4, .long a), (0, .long a), (2, .long b)]) hx hb dX6_commonDivisor_1 hl (by decide) rfl (fun ls hl => ?_)
  refine lv_lload_n hx hb dX6_commonDivisor_3 rfl (lv_at hl 2 rfl) ?_
  refine lv_lstore (lv' := [(6, .long b), (4, .long a), (0, .long a), (2, .long b)]) hx hb dX6_commonDivisor_4 hl (by decide) rfl (fun ls hl => ?_)
  refine lv_iconst (v := nI 0) hx hb dX6_commonDivisor_6 (by decide) ?_
  refine lv_istore (lv' := [(8, .int (nI 0)), (6, .long b), (4, .long a), (0, .long a), (2, .long b)]) hx hb dX6_commonDivisor_7 hl (by decide) rfl (fun ls hl => ?_)
  refine x_loop (ι := Int64 × Int64 × Nat) (fun z8 => [(0, .long a), (2, .long b), (4, .long z8.1), (6, .long z8.2.1), (8, .int (nI z8.2.2))]) (fun z8 => []) (fun z8 => (0 ≤ z8.1.toInt ∧ z8.1.toInt < 2 ^ 63) ∧ (0 ≤ z8.2.1.toInt ∧ z8.2.1.toInt < 2 ^ 63) ∧ Nat.gcd z8.1.toInt.toNat z8.2.1.toInt.toNat = Nat.gcd a.toInt.toNat b.toInt.toNat ∧ xdvI z8.2.2 z8.1.toInt.toNat z8.2.1.toInt.toNat ∧ z8.2.2 ≤ 1000) (fun z8 => 1000 - z8.2.2) (a, b, 0) (⟨⟨ha9, hal⟩, ⟨Int.le_of_lt hb9, hbl⟩, rfl, Or.inl rfl, Nat.zero_le 1000⟩) hM (lv_sub hl [3, 4, 2, 1, 0] rfl) ?_
  intro ⟨x, y, k⟩ hI2 ih1 H locs hM ls hl
  have hM : xM D (TY q) [] A s.heap s H locs := hM
  have hl : lv_has ls 11 [(0, .long a), (2, .long b), (4, .long x), (6, .long y), (8, .int (nI k))] := hl
  have hI2 : (0 ≤ x.toInt ∧ x.toInt < 2 ^ 63) ∧ (0 ≤ y.toInt ∧ y.toInt < 2 ^ 63) ∧ Nat.gcd x.toInt.toNat y.toInt.toNat = Nat.gcd a.toInt.toNat b.toInt.toNat ∧ xdvI k x.toInt.toNat y.toInt.toNat ∧ k ≤ 1000 := hI2
  obtain ⟨hI2_0, hI2_1, hI2_2, hI2_3, hI2_4⟩ := id hI2
  have hx9 := hI2_0
  have hy9 := hI2_1
  have hg9 := hI2_2
  have hd9 := hI2_3
  try dsimp only
  refine lv_iload hx hb dX6_commonDivisor_9 (lv_at hl 4 rfl) ?_
  refine lv_sipush (v := nI 1000) hx hb dX6_commonDivisor_11 (by decide) ?_
  refine x_icmp_ge (x := k) (y := 1000) (tgt := 45) hx hb (by omega) (by omega) dX6_commonDivisor_14 (by decide) (fun c3 => ?_) (fun c3 => ?_)
  · refine lv_lload hx hb dX6_commonDivisor_45 (lv_at hl 2 rfl) ?_
    exact x_lret hx hb hr hlocks () hM (show x = xgcd a b from by (first | exact xgcd_eq hx9.1 (by assumption) hg9 | exact xgcd_eq hx9.1 (xdv_z hy9.1 (xdv_end (by omega) hd9)) hg9)) dX6_commonDivisor_47
  · refine lv_lload hx hb dX6_commonDivisor_17 (lv_at hl 3 rfl) ?_
    refine lv_lconst (v := 0) hx hb dX6_commonDivisor_19 (by decide) ?_
    refine x_lcmp_eq (tgt := 45) hx hb dX6_commonDivisor_20 dX6_commonDivisor_21 (by decide) (fun c4 => ?_) (fun c4 => ?_)
    · refine lv_lload hx hb dX6_commonDivisor_45 (lv_at hl 2 rfl) ?_
      exact x_lret hx hb hr hlocks () hM (show x = xgcd a b from by (first | exact xgcd_eq hx9.1 (by assumption) hg9 | exact xgcd_eq hx9.1 (xdv_z hy9.1 (xdv_end (by omega) hd9)) hg9)) dX6_commonDivisor_47
    · refine lv_lload hx hb dX6_commonDivisor_24 (lv_at hl 2 rfl) ?_
      refine lv_lload hx hb dX6_commonDivisor_26 (lv_at hl 3 rfl) ?_
      refine lv_lrem hx hb dX6_commonDivisor_28 (by assumption) ?_
      refine lv_lstore (lv' := [(9, .long (x - x / y * y)), (0, .long a), (2, .long b), (4, .long x), (6, .long y), (8, .int (nI k))]) hx hb dX6_commonDivisor_29 hl (by decide) rfl (fun ls hl => ?_)
      refine lv_lload hx hb dX6_commonDivisor_31 (lv_at hl 4 rfl) ?_
      refine lv_lstore (lv' := [(4, .long y), (9, .long (x - x / y * y)), (0, .long a), (2, .long b), (6, .long y), (8, .int (nI k))]) hx hb dX6_commonDivisor_33 hl (by decide) rfl (fun ls hl => ?_)
      refine lv_lload hx hb dX6_commonDivisor_35 (lv_at hl 1 rfl) ?_
      refine lv_lstore (lv' := [(6, .long (x - x / y * y)), (4, .long y), (9, .long (x - x / y * y)), (0, .long a), (2, .long b), (8, .int (nI k))]) hx hb dX6_commonDivisor_37 hl (by decide) rfl (fun ls hl => ?_)
      refine lv_iinc (v := nI (k + 1)) (lv' := [(8, .int (nI (k + 1))), (6, .long (x - x / y * y)), (4, .long y), (9, .long (x - x / y * y)), (0, .long a), (2, .long b)]) hx hb dX6_commonDivisor_39 hl (k := 5) rfl (x_inc _ 1) (by decide) rfl (fun ls hl => ?_)
      refine lv_goto (tgt := 9) hx hb dX6_commonDivisor_42 (by decide) ?_
      have hyn : ¬ y = 0 := by assumption
      have hr9 := xrem_toInt (x := x) (y := y) hx9.1 hy9.1 hyn
      have hy0 : 0 < y.toInt.toNat := by rcases Nat.eq_zero_or_pos y.toInt.toNat with z | z; exact absurd (xdv_z hy9.1 z) hyn; exact z
      have hrl := (xrem x y).toInt_lt
      have hrn := xrem_nn hx9.1 hy9.1 hyn
      have hrt : (xrem x y).toInt.toNat = x.toInt.toNat % y.toInt.toNat := by rw [hr9, Int.toNat_emod hx9.1 hy9.1]
      have hl : lv_has ls 11 [(0, .long a), (2, .long b), (4, .long y), (6, .long (x - x / y * y)), (8, .int (nI (k + 1)))] := lv_sub hl [4, 5, 2, 1, 0] rfl
      exact ih1 (y, xrem x y, k + 1) (show 1000 - (k + 1) < 1000 - k from by omega) (show (0 ≤ y.toInt ∧ y.toInt < 2 ^ 63) ∧ (0 ≤ (xrem x y).toInt ∧ (xrem x y).toInt < 2 ^ 63) ∧ Nat.gcd y.toInt.toNat (xrem x y).toInt.toNat = Nat.gcd a.toInt.toNat b.toInt.toNat ∧ xdvI (k + 1) y.toInt.toNat (xrem x y).toInt.toNat ∧ (k + 1) ≤ 1000 from ⟨hy9, ⟨hrn, by omega⟩, (xrem_gcd hx9.1 hy9.1 hyn).trans hg9, (by rw [hrt]; exact xdv_n (by omega) hy0 (by omega) hd9), by omega⟩) _ _ hM _ hl
