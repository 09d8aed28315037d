set_option maxRecDepth 20000 in
theorem ggX2_read_X7_clear : GoodIn wsX2_read wsX7_clear := goodIn_r _ [7, 8, 9, 10, 11, 12, 13, 14, 15, 16, 17, 103, 104, 105, 106, 107, 108, 109, 110, 111, 112, 113, 114, 115, 116, 117, 118] (by decide +kernel) (by decide +kernel)
set_option maxRecDepth 20000 in
theorem gX2_read_X7_clear : GoodIn wsX2_read (wsV RX2 23 RX7 yX7_clear wsX7_clear) := goodIn_app (goodIn_of _ (by decide +kernel)) ggX2_read_X7_clear
set_option maxRecDepth 20000 in
theorem ggX2_read_X2_readItem : GoodIn wsX2_read wsX2_readItem := goodIn_r _ [22, 1, 23, 24, 25, 26, 21, 27, 2, 28, 29, 30, 31, 32, 33, 34, 35, 36, 37, 38, 39, 40, 41, 16, 42, 43, 44, 45, 6, 46, 47, 48, 49, 50, 51, 52, 53, 8, 54, 55, 56, 57, 58, 59, 60, 61, 62, 63, 9, 64, 65, 66, 67, 68, 13, 69, 70, 71, 72, 73, 74, 75, 76, 77, 78, 79, 80, 81, 82, 83, 10, 84, 85, 86, 87, 88, 89, 11, 90, 91, 92, 93, 94, 95, 12, 96, 97, 98, 99, 100, 101, 102, 103, 104, 105, 106, 107, 108, 109, 110, 111, 112, 113, 114, 115, 116, 117, 118] (by decide +kernel) (by decide +kernel)
set_option maxRecDepth 20000 in
theorem gX2_read_X2_readItem : GoodIn wsX2_read (wsV RX2 31 RX2 yX2_readItem wsX2_readItem) := goodIn_app (goodIn_of _ (by decide +kernel)) ggX2_read_X2_readItem
theorem dX2_read_0 : decode cX2_read 0 = .ok (.aload_n 1, 1) := by decide +kernel
theorem dX2_read_1 : decode cX2_read 1 = .ok (.invokevirtual 23, 3) := by decide +kernel
theorem dX2_read_4 : decode cX2_read 4 = .ok (.aload_n 0, 1) := by decide +kernel
theorem dX2_read_5 : decode cX2_read 5 = .ok (.iconst 0, 1) := by decide +kernel
theorem dX2_read_6 : decode cX2_read 6 = .ok (.putfield 28, 3) := by decide +kernel
theorem dX2_read_9 : decode cX2_read 9 = .ok (.iconst 0, 1) := by decide +kernel
theorem dX2_read_10 : decode cX2_read 10 = .ok (.istore_n 2, 1) := by decide +kernel
theorem dX2_read_11 : decode cX2_read 11 = .ok (.iload_n 2, 1) := by decide +kernel
theorem dX2_read_12 : decode cX2_read 12 = .ok (.sipush 200, 3) := by decide +kernel
theorem dX2_read_15 : decode cX2_read 15 = .ok (.if_icmp .ge 35, 3) := by decide +kernel
theorem dX2_read_18 : decode cX2_read 18 = .ok (.aload_n 0, 1) := by decide +kernel
theorem dX2_read_19 : decode cX2_read 19 = .ok (.getfield 28, 3) := by decide +kernel
theorem dX2_read_22 : decode cX2_read 22 = .ok (.aload_n 0, 1) := by decide +kernel
theorem dX2_read_23 : decode cX2_read 23 = .ok (.getfield 19, 3) := by decide +kernel
theorem dX2_read_26 : decode cX2_read 26 = .ok (.if_icmp .ge 24, 3) := by decide +kernel
theorem dX2_read_29 : decode cX2_read 29 = .ok (.aload_n 0, 1) := by decide +kernel
theorem dX2_read_30 : decode cX2_read 30 = .ok (.getfield 28, 3) := by decide +kernel
theorem dX2_read_33 : decode cX2_read 33 = .ok (.istore_n 3, 1) := by decide +kernel
theorem dX2_read_34 : decode cX2_read 34 = .ok (.aload_n 0, 1) := by decide +kernel
theorem dX2_read_35 : decode cX2_read 35 = .ok (.aload_n 1, 1) := by decide +kernel
theorem dX2_read_36 : decode cX2_read 36 = .ok (.invokevirtual 31, 3) := by decide +kernel
theorem dX2_read_39 : decode cX2_read 39 = .ok (.ifCond .ne 5, 3) := by decide +kernel
theorem dX2_read_42 : decode cX2_read 42 = .ok (.iload_n 3, 1) := by decide +kernel
theorem dX2_read_43 : decode cX2_read 43 = .ok (.ireturn, 1) := by decide +kernel
theorem dX2_read_44 : decode cX2_read 44 = .ok (.iinc 2 1, 3) := by decide +kernel
theorem dX2_read_47 : decode cX2_read 47 = .ok (.goto (-36), 3) := by decide +kernel
theorem dX2_read_50 : decode cX2_read 50 = .ok (.bipush (-4), 2) := by decide +kernel
theorem dX2_read_52 : decode cX2_read 52 = .ok (.ireturn, 1) := by decide +kernel
theorem lkX2_read_19 : Cond.fieldLink RX2 19 "LeftAtFive$Letters" "length" "I" ∈ wsX2_read := by decide +kernel
theorem lkX2_read_28 : Cond.fieldLink RX2 28 "LeftAtFive$Letters" "place" "I" ∈ wsX2_read := by decide +kernel
theorem iwX2_read_X2 : ∀ w ∈ wsX20, w ∈ wsX2_read := by decide +kernel
set_option maxHeartbeats 2000000 in
set_option maxRecDepth 100000 in
theorem c_X2_read (l : Launch) (D : va_G) (q : Nat → ClassId) (ld : Nat → Nat) (ν0 : Nat → Int32) (ν1 : Nat → Int32) (ν2 : Int32) (ν3 : Int32) (ad : Nat → Nat) (X : Nat → Nat → Int32) (S0 : Nat → Nat → Int32) (tt0 : Nat → Int32) (hL : ν2 = nI (tn ν2) ∧ tn ν2 ≤ 200) (hC : ∀ j, j < tn ν2 → cN (ν0 j) 126) (hS0 : okT (xclr X) (xshf S0)) : xC l yX2_read wsX2_read ({ frames := 5, cells := 0, slots := 0, locals := 116 }) D (TY q) [w2 q ld ν0 ν1 ν2 ν3, wst q ad X] [.ref (ld 0), .ref (ad 0)] (xQi D (TY q) (fun (r : Int32) (u : (Nat → Int32) × Int32 × (Nat → Nat → Int32)) => r = (xAll ν0 (tn ν2) 201 S0 0 tt0).1 ∧ okT u.2.2 (xshf (xAll ν0 (tn ν2) 201 S0 0 tt0).2.1)) (fun (u : (Nat → Int32) × Int32 × (Nat → Nat → Int32)) => [w2 q ld ν0 u.1 ν2 u.2.1, wst q ad u.2.2])) 0 0 := by
  refine x_enter (cc := cX2_read) (maxL := 4) (ret := (some .int)) (by decide) rfl (Nat.le_of_ble_eq_true rfl) ?_
  intro p e s m below meth c A ls H locs hfix hr hlocks hinit hM hl
  obtain ⟨hx, hb, hml, hown, hts⟩ := id hfix
  have hl : lv_has ls 4 [(0, .ref (ld 0)), (1, .ref (ad 0))] := hl
  have hL2 := hL.2
  refine lv_aload_n hx hb dX2_read_0 rfl (lv_at hl 1 rfl) ?_
  refine x_callv (bc := [wst q ad X]) (br := [w2 q ld ν0 ν1 ν2 ν3]) hM [1] [0] rfl rfl rfl (by decide) (x_runV (As := []) (rest := []) hfix (c_X7_clear l D q ad X) (cwV 0 hts gX2_read_X7_clear rfl rfl rfl (by decide +kernel) ⟨Nat.le_of_ble_eq_true rfl, Nat.le_of_ble_eq_true rfl⟩) hM [1] rfl rfl 1 0 rfl rfl rfl rfl rfl hl.1 rfl (Nat.le_of_ble_eq_true rfl) dX2_read_1 ⟨Nat.le_of_ble_eq_true rfl, Nat.le_of_ble_eq_true rfl⟩) (fun u H locs hq hM => ?_)
  have hM : xM D (TY q) [w2 q ld ν0 ν1 ν2 ν3, wst q ad (xclr X)] A s.heap s H locs := hM
  refine lv_aload_n hx hb dX2_read_4 rfl (lv_at hl 0 rfl) ?_
  refine lv_iconst (v := nI 0) hx hb dX2_read_5 (by decide) ?_
  refine x_put hx hb hts iwX2_read_X2 tyX2 tyX2_ok nmX2 hown hM 0 0 rfl rfl rfl 3 (by decide) (hts _ lkX2_read_28) (fun _ h => h) rfl (ty := .int) (by decide +kernel) rfl rfl (Nat.le_of_ble_eq_true rfl) [w2 q ld ν0 ν1 ν2 (nI 0), wst q ad (xclr X)] rfl dX2_read_6 (fun H locs hM => ?_)
  refine lv_iconst (v := nI 0) hx hb dX2_read_9 (by decide) ?_
  refine lv_istore_n (lv' := [(2, .int (nI 0)), (0, .ref (ld 0)), (1, .ref (ad 0))]) hx hb dX2_read_10 rfl hl (by decide) rfl (fun ls hl => ?_)
  refine x_loop (ι := Nat × Nat × (Nat → Nat → Int32) × (Nat → Int32) × (Nat → Nat → Int32) × (Nat → Int32)) (fun z8 => [(0, .ref (ld 0)), (1, .ref (ad 0)), (2, .int (nI z8.1))]) (fun z8 => [w2 q ld ν0 z8.2.2.2.2.2 ν2 (nI z8.2.1), wst q ad z8.2.2.2.2.1]) (fun z8 => okT z8.2.2.2.2.1 (xshf z8.2.2.1) ∧ z8.2.1 ≤ 250 ∧ z8.1 ≤ z8.2.1 ∧ (xAll ν0 (tn ν2) 201 S0 0 tt0) = xAll ν0 (tn ν2) (201 - z8.1) z8.2.2.1 z8.2.1 z8.2.2.2.1) (fun z8 => 201 - z8.1) (0, 0, S0, tt0, (xclr X), ν1) (⟨hS0, Nat.zero_le _, Nat.le_refl _, rfl⟩) hM (lv_sub hl [1, 2, 0] rfl) ?_
  intro ⟨m9, sp, S, tt, Y, v⟩ hI2 ih1 H locs hM ls hl
  have hM : xM D (TY q) [w2 q ld ν0 v ν2 (nI sp), wst q ad Y] A s.heap s H locs := hM
  have hl : lv_has ls 4 [(0, .ref (ld 0)), (1, .ref (ad 0)), (2, .int (nI m9))] := hl
  have hI2 : okT Y (xshf S) ∧ sp ≤ 250 ∧ m9 ≤ sp ∧ (xAll ν0 (tn ν2) 201 S0 0 tt0) = xAll ν0 (tn ν2) (201 - m9) S sp tt := hI2
  obtain ⟨hI2_0, hI2_1, hI2_2, hI2_3⟩ := id hI2
  have hY := hI2_0
  have hs25 := hI2_1
  have hms := hI2_2
  have hfu := hI2_3
  try dsimp only
  refine lv_iload_n hx hb dX2_read_11 rfl (lv_at hl 2 rfl) ?_
  refine lv_sipush (v := nI 200) hx hb dX2_read_12 (by decide) ?_
  refine x_icmp_ge (x := m9) (y := 200) (tgt := 50) hx hb (by omega) (by omega) dX2_read_15 (by decide) (fun c3 => ?_) (fun c3 => ?_)
  · refine lv_bipush (v := (-4)) hx hb dX2_read_50 (by decide) ?_
    have e4 : ((nI sp) : Int32) = ((nI sp)) := by rfl
    have hM : xM D (TY q) [w2 q ld ν0 v ν2 (nI sp), wst q ad Y] A s.heap s H locs := Eq.mp (congrArg (fun z9 => xM D (TY q) [w2 q ld ν0 v ν2 z9, wst q ad Y] A s.heap s H locs) e4) hM
    exact x_iret hx hb hr hlocks (v, nI sp, Y) hM ⟨(show (-4) = (xAll ν0 (tn ν2) 201 S0 0 tt0).1 from by (first | (rw [hfu, xAll_e (by omega)]; done) | (rw [hfu, xAll_f (by omega) (by omega) (by assumption)]; done))), (show okT Y (xshf (xAll ν0 (tn ν2) 201 S0 0 tt0).2.1) from by (rw [hfu, xAll_e (by omega)]; exact hY))⟩ dX2_read_52
  · refine lv_aload_n hx hb dX2_read_18 rfl (lv_at hl 0 rfl) ?_
    refine x_get hx hb hts iwX2_read_X2 hown hM 0 0 rfl rfl rfl 3 (by decide) (hts _ lkX2_read_28) (fun _ h => h) rfl dX2_read_19 ?_
    refine lv_aload_n hx hb dX2_read_22 rfl (lv_at hl 0 rfl) ?_
    refine x_get hx hb hts iwX2_read_X2 hown hM 0 0 rfl rfl rfl 2 (by decide) (hts _ lkX2_read_19) (fun _ h => h) rfl dX2_read_23 ?_
    refine x_cast (y := nI (tn ν2)) hL.1 ?_
    refine x_icmp_ge (x := sp) (y := tn ν2) (tgt := 50) hx hb (by omega) (by omega) dX2_read_26 (by decide) (fun c5 => ?_) (fun c5 => ?_)
    · refine lv_bipush (v := (-4)) hx hb dX2_read_50 (by decide) ?_
      have e6 : ((nI sp) : Int32) = ((nI sp)) := by rfl
      have hM : xM D (TY q) [w2 q ld ν0 v ν2 (nI sp), wst q ad Y] A s.heap s H locs := Eq.mp (congrArg (fun z9 => xM D (TY q) [w2 q ld ν0 v ν2 z9, wst q ad Y] A s.heap s H locs) e6) hM
      exact x_iret hx hb hr hlocks (v, nI sp, Y) hM ⟨(show (-4) = (xAll ν0 (tn ν2) 201 S0 0 tt0).1 from by (first | (rw [hfu, xAll_e (by omega)]; done) | (rw [hfu, xAll_f (by omega) (by omega) (by assumption)]; done))), (show okT Y (xshf (xAll ν0 (tn ν2) 201 S0 0 tt0).2.1) from by (rw [hfu, xAll_e (by omega)]; exact hY))⟩ dX2_read_52
    · refine lv_aload_n hx hb dX2_read_29 rfl (lv_at hl 0 rfl) ?_
      refine x_get hx hb hts iwX2_read_X2 hown hM 0 0 rfl rfl rfl 3 (by decide) (hts _ lkX2_read_28) (fun _ h => h) rfl dX2_read_30 ?_
      refine lv_istore_n (lv' := [(3, .int (nI sp)), (0, .ref (ld 0)), (1, .ref (ad 0)), (2, .int (nI m9))]) hx hb dX2_read_33 rfl hl (by decide) rfl (fun ls hl => ?_)
      refine lv_aload_n hx hb dX2_read_34 rfl (lv_at hl 1 rfl) ?_
      refine lv_aload_n hx hb dX2_read_35 rfl (lv_at hl 2 rfl) ?_
      refine x_calli (bc := [w2 q ld ν0 v ν2 (nI sp), wst q ad Y]) (br := []) hM [0, 1] [] rfl rfl rfl (by decide) (x_runV (As := [.ref (ad 0)]) (rest := []) hfix (c_X2_readItem l D q ld ν0 v ν2 (nI sp) ad Y S sp tt hL hC (by omega) hY) (cwV 1 hts gX2_read_X2_readItem rfl rfl rfl (by decide +kernel) ⟨Nat.le_of_ble_eq_true rfl, Nat.le_of_ble_eq_true rfl⟩) hM [0, 1] rfl rfl 0 0 rfl rfl rfl rfl rfl hl.1 rfl (Nat.le_of_ble_eq_true rfl) dX2_read_36 ⟨Nat.le_of_ble_eq_true rfl, Nat.le_of_ble_eq_true rfl⟩) (fun r u H locs hq hM => ?_)
      obtain ⟨hq, hqx⟩ := hq
      subst hq
      obtain ⟨uN7, uP8, uX9⟩ := u
      have hM : xM D (TY q) [w2 q ld ν0 uN7 ν2 uP8, wst q ad uX9] A s.heap s H locs := hM
      have hx9 : okT uX9 (xshf (xItem ν0 (tn ν2) S sp tt).2.1) ∧ ((xItem ν0 (tn ν2) S sp tt).1 = true → uP8 = nI (xItem ν0 (tn ν2) S sp tt).2.2.1) := hqx
      refine x_ifz_ne (P := (xItem ν0 (tn ν2) S sp tt).1 = true) (tgt := 44) hx hb dX2_read_39 (by decide) (fun c11 => ?_) (fun c11 => ?_)
      · have e12 : ((uP8) : Int32) = (nI (xItem ν0 (tn ν2) S sp tt).2.2.1) := by exact hx9.2 (by assumption)
        have hM : xM D (TY q) [w2 q ld ν0 uN7 ν2 (nI (xItem ν0 (tn ν2) S sp tt).2.2.1), wst q ad uX9] A s.heap s H locs := Eq.mp (congrArg (fun z9 => xM D (TY q) [w2 q ld ν0 uN7 ν2 z9, wst q ad uX9] A s.heap s H locs) e12) hM
        have hsi := xItem_sp (s := ν0) (len := tn ν2) (S := S) (sp := sp) (tt := tt)
        refine lv_iinc (v := nI (m9 + 1)) (lv' := [(2, .int (nI (m9 + 1))), (3, .int (nI sp)), (0, .ref (ld 0)), (1, .ref (ad 0))]) hx hb dX2_read_44 hl (k := 3) rfl (x_inc _ 1) (by decide) rfl (fun ls hl => ?_)
        refine lv_goto (tgt := 11) hx hb dX2_read_47 (by decide) ?_
        have hl : lv_has ls 4 [(0, .ref (ld 0)), (1, .ref (ad 0)), (2, .int (nI (m9 + 1)))] := lv_sub hl [2, 3, 0] rfl
        exact ih1 (m9 + 1, (xItem ν0 (tn ν2) S sp tt).2.2.1, (xItem ν0 (tn ν2) S sp tt).2.1, (xItem ν0 (tn ν2) S sp tt).2.2.2, uX9, uN7) (show 201 - (m9 + 1) < 201 - m9 from by omega) (show okT uX9 (xshf (xItem ν0 (tn ν2) S sp tt).2.1) ∧ (xItem ν0 (tn ν2) S sp tt).2.2.1 ≤ 250 ∧ (m9 + 1) ≤ (xItem ν0 (tn ν2) S sp tt).2.2.1 ∧ (xAll ν0 (tn ν2) 201 S0 0 tt0) = xAll ν0 (tn ν2) (201 - (m9 + 1)) (xItem ν0 (tn ν2) S sp tt).2.1 (xItem ν0 (tn ν2) S sp tt).2.2.1 (xItem ν0 (tn ν2) S sp tt).2.2.2 from ⟨hx9.1, by omega, by omega, hfu.trans (xAll_s (by omega) (by omega) (by assumption))⟩) _ _ hM _ hl
      · refine lv_iload_n hx hb dX2_read_42 rfl (lv_at hl 0 rfl) ?_
        exact x_iret hx hb hr hlocks (uN7, uP8, uX9) hM ⟨(show nI sp = (xAll ν0 (tn ν2) 201 S0 0 tt0).1 from by (first | (rw [hfu, xAll_e (by omega)]; done) | (rw [hfu, xAll_f (by omega) (by omega) (by assumption)]; done))), (show okT uX9 (xshf (xAll ν0 (tn ν2) 201 S0 0 tt0).2.1) from by (rw [hfu, xAll_f (by omega) (by omega) (by assumption)]; exact hx9.1))⟩ dX2_read_43
