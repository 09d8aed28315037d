set_option maxRecDepth 20000 in
theorem ggX8_carried_X7_isGood : GoodIn wsX8_carried wsX7_isGood := goodIn_r _ [9, 10, 11, 12, 13, 161, 162, 163, 164, 165, 166, 167, 168, 169, 170, 171, 172, 173, 174, 175, 176] (by decide +kernel) (by decide +kernel)
set_option maxRecDepth 20000 in
theorem gX8_carried_X7_isGood : GoodIn wsX8_carried (wsV RX8 106 RX7 yX7_isGood wsX7_isGood) := goodIn_app (goodIn_of _ (by decide +kernel)) ggX8_carried_X7_isGood
set_option maxRecDepth 20000 in
theorem ggX8_carried_X8_within : GoodIn wsX8_carried wsX8_within := goodIn_r _ [13] (by decide +kernel) (by decide +kernel)
set_option maxRecDepth 20000 in
theorem gX8_carried_X8_within : GoodIn wsX8_carried (va_wsS RX8 91 yX8_within wsX8_within) := goodIn_app (goodIn_of _ (by decide +kernel)) ggX8_carried_X8_within
set_option maxRecDepth 20000 in
theorem ggX8_carried_X0_look : GoodIn wsX8_carried wsX0_look := goodIn_r _ [19, 20, 21, 22, 23, 24, 25, 26, 27, 28, 29, 30, 31, 32, 33, 34, 35, 36, 37, 38, 39, 40, 41, 42, 43, 44, 45, 46, 47, 48, 49, 50, 51, 52, 53, 54, 55, 56, 57, 58, 59, 60, 61, 62, 63, 64, 65, 66, 67, 68, 8, 69, 70, 71, 72, 73, 74, 75, 76, 77, 78, 79, 80, 81, 82, 83, 84, 85, 86, 87, 88, 89, 90, 91, 92, 93, 94, 95, 96, 97, 98, 99, 100, 101, 102, 103, 104, 105, 106, 107, 108, 109, 110, 111, 112, 113, 114, 115, 116, 177, 178, 179, 180, 181, 182, 183, 184, 185, 186, 187, 161, 162, 163, 164, 165, 166, 167, 168, 169, 170, 171, 172, 173, 174, 175, 176, 188, 189, 190] (by decide +kernel) (by decide +kernel)
set_option maxRecDepth 20000 in
theorem gX8_carried_X0_look : GoodIn wsX8_carried (wsV RX8 117 RX0 yX0_look wsX0_look) := goodIn_app (goodIn_of _ (by decide +kernel)) ggX8_carried_X0_look
set_option maxRecDepth 20000 in
theorem ggX8_carried_X0_mostCarried : GoodIn wsX8_carried wsX0_mostCarried := goodIn_r _ [120, 121, 122, 20, 123, 37, 38, 39, 124, 125, 126, 18, 127, 128, 129, 113, 114, 8, 115, 116, 91, 61, 34, 62, 130, 68, 69, 131, 132, 133, 24, 134, 30, 60, 135, 136, 137, 138, 139, 140, 141, 142, 143, 144, 145, 146, 147, 148, 149, 150, 93, 94, 95, 28, 67, 161, 162, 163, 164, 165, 166, 167, 168, 169, 170, 171, 172, 173, 174, 175, 176, 177, 178, 179, 180, 181, 182, 183, 184, 185, 186, 187] (by decide +kernel) (by decide +kernel)
set_option maxRecDepth 20000 in
theorem gX8_carried_X0_mostCarried : GoodIn wsX8_carried (wsV RX8 192 RX0 yX0_mostCarried wsX0_mostCarried) := goodIn_app (goodIn_of _ (by decide +kernel)) ggX8_carried_X0_mostCarried
theorem dX8_carried_0 : decode cX8_carried 0 = .ok (.aload_n 0, 1) := by decide +kernel
theorem dX8_carried_1 : decode cX8_carried 1 = .ok (.getfield 19, 3) := by decide +kernel
theorem dX8_carried_4 : decode cX8_carried 4 = .ok (.iload_n 1, 1) := by decide +kernel
theorem dX8_carried_5 : decode cX8_carried 5 = .ok (.invokevirtual 106, 3) := by decide +kernel
theorem dX8_carried_8 : decode cX8_carried 8 = .ok (.ifCond .eq 13, 3) := by decide +kernel
theorem dX8_carried_11 : decode cX8_carried 11 = .ok (.iload_n 2, 1) := by decide +kernel
theorem dX8_carried_12 : decode cX8_carried 12 = .ok (.iconst 0, 1) := by decide +kernel
theorem dX8_carried_13 : decode cX8_carried 13 = .ok (.bipush 60, 2) := by decide +kernel
theorem dX8_carried_15 : decode cX8_carried 15 = .ok (.invokestatic 91, 3) := by decide +kernel
theorem dX8_carried_18 : decode cX8_carried 18 = .ok (.ifCond .ne 5, 3) := by decide +kernel
theorem dX8_carried_21 : decode cX8_carried 21 = .ok (.iconst (-1), 1) := by decide +kernel
theorem dX8_carried_22 : decode cX8_carried 22 = .ok (.ireturn, 1) := by decide +kernel
theorem dX8_carried_23 : decode cX8_carried 23 = .ok (.aload_n 0, 1) := by decide +kernel
theorem dX8_carried_24 : decode cX8_carried 24 = .ok (.getfield 58, 3) := by decide +kernel
theorem dX8_carried_27 : decode cX8_carried 27 = .ok (.aload_n 0, 1) := by decide +kernel
theorem dX8_carried_28 : decode cX8_carried 28 = .ok (.getfield 19, 3) := by decide +kernel
theorem dX8_carried_31 : decode cX8_carried 31 = .ok (.aload_n 0, 1) := by decide +kernel
theorem dX8_carried_32 : decode cX8_carried 32 = .ok (.getfield 39, 3) := by decide +kernel
theorem dX8_carried_35 : decode cX8_carried 35 = .ok (.aload_n 0, 1) := by decide +kernel
theorem dX8_carried_36 : decode cX8_carried 36 = .ok (.getfield 29, 3) := by decide +kernel
theorem dX8_carried_39 : decode cX8_carried 39 = .ok (.invokevirtual 117, 3) := by decide +kernel
theorem dX8_carried_42 : decode cX8_carried 42 = .ok (.pop, 1) := by decide +kernel
theorem dX8_carried_43 : decode cX8_carried 43 = .ok (.aload_n 0, 1) := by decide +kernel
theorem dX8_carried_44 : decode cX8_carried 44 = .ok (.getfield 58, 3) := by decide +kernel
theorem dX8_carried_47 : decode cX8_carried 47 = .ok (.aload_n 0, 1) := by decide +kernel
theorem dX8_carried_48 : decode cX8_carried 48 = .ok (.getfield 19, 3) := by decide +kernel
theorem dX8_carried_51 : decode cX8_carried 51 = .ok (.aload_n 0, 1) := by decide +kernel
theorem dX8_carried_52 : decode cX8_carried 52 = .ok (.getfield 39, 3) := by decide +kernel
theorem dX8_carried_55 : decode cX8_carried 55 = .ok (.iload_n 1, 1) := by decide +kernel
theorem dX8_carried_56 : decode cX8_carried 56 = .ok (.iload_n 2, 1) := by decide +kernel
theorem dX8_carried_57 : decode cX8_carried 57 = .ok (.invokevirtual 192, 3) := by decide +kernel
theorem dX8_carried_60 : decode cX8_carried 60 = .ok (.ireturn, 1) := by decide +kernel
theorem lkX8_carried_19 : Cond.fieldLink RX8 19 "LeftAtFive" "street" "LLeftAtFive$Street;" ∈ wsX8_carried := by decide +kernel
theorem lkX8_carried_29 : Cond.fieldLink RX8 29 "LeftAtFive" "meals" "LLeftAtFive$Meals;" ∈ wsX8_carried := by decide +kernel
theorem lkX8_carried_39 : Cond.fieldLink RX8 39 "LeftAtFive" "now" "LLeftAtFive$Kitchens;" ∈ wsX8_carried := by decide +kernel
theorem lkX8_carried_58 : Cond.fieldLink RX8 58 "LeftAtFive" "ahead" "LLeftAtFive$Ahead;" ∈ wsX8_carried := by decide +kernel
theorem iwX8_carried_X8 : ∀ w ∈ wsX80, w ∈ wsX8_carried := by decide +kernel
set_option maxHeartbeats 2000000 in
set_option maxRecDepth 100000 in
theorem c_X8_carried (l : Launch) (D : va_G) (q : Nat → ClassId) (ad : Nat → Nat) (ω0 : Nat) (ω1 : Nat) (ω2 : Nat) (ω3 : Nat) (ω4 : Nat) (ω5 : Nat) (ω6 : Nat) (ω7 : Nat) (ω8 : Nat) (ω9 : Nat) (sd : Nat → Nat) (X : Nat → Nat → Int32) (nd : Nat → Nat) (N : Nat → Int32) (md : Nat → Nat) (μ0 : Nat → Int32) (μ1 : Nat → Int32) (μ2 : Int32) (hd : Nat → Nat) (τ0 : Int32) (τ1 : Int32) (τ2 : Int32) (τ3 : Int32) (τ4 : Nat) (fd : Nat → Nat) (F : Nat → Int32) (S : Nat → Nat → Int32) (g : Nat) (cc : Nat) (hT : okT X S) (hK : okK N) (hMl : okM μ0 μ1 (S 11) (tn (S 8 0)) (-4)) (hg0 : g < (tn (S 2 0))) (hcc9 : cc ≤ 60) : xC l yX8_carried wsX8_carried ({ frames := 6, cells := 0, slots := 0, locals := 140 }) D (TY q) [w8 q ad ω0 (sd 0) ω2 (md 0) ω4 (nd 0) ω6 ω7 (hd 0) ω9, wst q sd X, wk q nd N, w3 q md μ0 μ1 μ2, w0 q hd τ0 τ1 τ2 τ3 (fd 0), wk q fd F] [.ref (ad 0), .int (nI g), .int (nI cc)] (xQi D (TY q) (fun (r : Int32) (_ : (Nat → Int32)) => r = xcm (fun z => xcs (S 6) (fun y8 => (kGoN (S 4) (tn (S 2 0)) (tn (S 5 0)) (S 9) (S 10) (S 11) (tn (S 8 0)) (-4) (N, -4, nI 0) (60 - tn (N 25))).1 (5 * y8 + g)) (fun y8 => xwn (S 9) (S 10) (fun y7 => (kGoN (S 4) (tn (S 2 0)) (tn (S 5 0)) (S 9) (S 10) (S 11) (tn (S 8 0)) (-4) (N, -4, nI 0) (60 - tn (N 25))).1 (59 + y7) - N (59 + y7)) y8 g (tn (S 8 0))) cc (tn (S 5 0)) z (tn (S 5 0))) (2 ^ (tn (S 5 0)))) (fun (u : (Nat → Int32)) => [w8 q ad ω0 (sd 0) ω2 (md 0) ω4 (nd 0) ω6 ω7 (hd 0) ω9, wst q sd X, wk q nd N, w3 q md μ0 μ1 μ2, w0 q hd τ0 τ1 τ2 τ3 (fd 0), wk q fd u])) 0 0 := by
  refine x_enter (cc := cX8_carried) (maxL := 3) (ret := (some .int)) (by decide) rfl (Nat.le_of_ble_eq_true rfl) ?_
  intro p e s m below meth c A ls H locs hfix hr hlocks hinit hM hl
  obtain ⟨hx, hb, hml, hown, hts⟩ := id hfix
  have hl : lv_has ls 3 [(0, .ref (ad 0)), (1, .int (nI g)), (2, .int (nI cc))] := hl
  have hTb0 := okT_0b hT
  have hTb1 := okT_1b hT
  have hTb2 := okT_2b hT
  have hTb3 := okT_3b hT
  have hTb4 := okT_4b hT
  have hK25 := hK.1.2
  have hK26 := hK.2.1.2
  refine lv_aload_n hx hb dX8_carried_0 rfl (lv_at hl 0 rfl) ?_
  refine x_get hx hb hts iwX8_carried_X8 hown hM 0 0 rfl rfl rfl 1 (by decide) (hts _ lkX8_carried_19) (fun _ h => h) rfl dX8_carried_1 ?_
  refine lv_iload_n hx hb dX8_carried_4 rfl (lv_at hl 1 rfl) ?_
  refine x_calli (bc := [wst q sd X]) (br := [w8 q ad ω0 (sd 0) ω2 (md 0) ω4 (nd 0) ω6 ω7 (hd 0) ω9, wk q nd N, w3 q md μ0 μ1 μ2, w0 q hd τ0 τ1 τ2 τ3 (fd 0), wk q fd F]) hM [1] [0, 2, 3, 4, 5] rfl rfl rfl (by decide) (x_runV (As := [.int (nI g)]) (rest := []) hfix (c_X7_isGood l D q sd X S (nI g) ((g : Nat) : Int) hT (nI_toInt (n := g) (by omega))) (cwV 1 hts gX8_carried_X7_isGood rfl rfl rfl (by decide +kernel) ⟨Nat.le_of_ble_eq_true rfl, Nat.le_of_ble_eq_true rfl⟩) hM [1] rfl rfl 1 0 rfl rfl rfl rfl rfl hl.1 rfl (Nat.le_of_ble_eq_true rfl) dX8_carried_5 ⟨Nat.le_of_ble_eq_true rfl, Nat.le_of_ble_eq_true rfl⟩) (fun r u H locs hq hM => ?_)
  subst hq
  have hM : xM D (TY q) [w8 q ad ω0 (sd 0) ω2 (md 0) ω4 (nd 0) ω6 ω7 (hd 0) ω9, wk q nd N, w3 q md μ0 μ1 μ2, w0 q hd τ0 τ1 τ2 τ3 (fd 0), wk q fd F, wst q sd X] A s.heap s H locs := hM
  have hM : xM D (TY q) [w8 q ad ω0 (sd 0) ω2 (md 0) ω4 (nd 0) ω6 ω7 (hd 0) ω9, wst q sd X, wk q nd N, w3 q md μ0 μ1 μ2, w0 q hd τ0 τ1 τ2 τ3 (fd 0), wk q fd F] A s.heap s H locs := hM.sel [0, 5, 1, 2, 3, 4] rfl rfl
  refine x_ifz_eq (P := 0 ≤ ((g : Nat) : Int) ∧ ((g : Nat) : Int) < (tn (S 2 0))) (tgt := 21) hx hb dX8_carried_8 (by decide) (fun c1 => ?_) (fun c1 => ?_)
  · exfalso; omega
  · refine lv_iload_n hx hb dX8_carried_11 rfl (lv_at hl 2 rfl) ?_
    refine lv_iconst (v := nI 0) hx hb dX8_carried_12 (by decide) ?_
    refine lv_bipush (v := nI 60) hx hb dX8_carried_13 (by decide) ?_
    refine x_calli (bc := []) (br := [w8 q ad ω0 (sd 0) ω2 (md 0) ω4 (nd 0) ω6 ω7 (hd 0) ω9, wst q sd X, wk q nd N, w3 q md μ0 μ1 μ2, w0 q hd τ0 τ1 τ2 τ3 (fd 0), wk q fd F]) hM [] [0, 1, 2, 3, 4, 5] rfl rfl rfl (by decide) (x_runS (As := [.int (nI cc), .int (nI 0), .int (nI 60)]) (rest := []) hfix (c_X8_within l D q (nI cc) (nI 0) (nI 60) ((cc : Nat) : Int) (0 : Int) (60 : Int) (nI_toInt (n := cc) (by omega)) (nI_toInt (n := 0) (by decide)) (nI_toInt (n := 60) (by decide))) (va_cwS 3 hts gX8_carried_X8_within rfl rfl rfl (by decide +kernel) ⟨Nat.le_of_ble_eq_true rfl, Nat.le_of_ble_eq_true rfl⟩) hM [] rfl rfl rfl hl.1 rfl (Nat.le_of_ble_eq_true rfl) dX8_carried_15 ⟨Nat.le_of_ble_eq_true rfl, Nat.le_of_ble_eq_true rfl⟩) (fun r u H locs hq hM => ?_)
    subst hq
    have hM : xM D (TY q) [w8 q ad ω0 (sd 0) ω2 (md 0) ω4 (nd 0) ω6 ω7 (hd 0) ω9, wst q sd X, wk q nd N, w3 q md μ0 μ1 μ2, w0 q hd τ0 τ1 τ2 τ3 (fd 0), wk q fd F] A s.heap s H locs := hM
    refine x_ifz_ne (P := (0 : Int) ≤ ((cc : Nat) : Int) ∧ ((cc : Nat) : Int) ≤ (60 : Int)) (tgt := 23) hx hb dX8_carried_18 (by decide) (fun c2 => ?_) (fun c2 => ?_)
    · refine lv_aload_n hx hb dX8_carried_23 rfl (lv_at hl 0 rfl) ?_
      refine x_get hx hb hts iwX8_carried_X8 hown hM 0 0 rfl rfl rfl 8 (by decide) (hts _ lkX8_carried_58) (fun _ h => h) rfl dX8_carried_24 ?_
      refine lv_aload_n hx hb dX8_carried_27 rfl (lv_at hl 0 rfl) ?_
      refine x_get hx hb hts iwX8_carried_X8 hown hM 0 0 rfl rfl rfl 1 (by decide) (hts _ lkX8_carried_19) (fun _ h => h) rfl dX8_carried_28 ?_
      refine lv_aload_n hx hb dX8_carried_31 rfl (lv_at hl 0 rfl) ?_
      refine x_get hx hb hts iwX8_carried_X8 hown hM 0 0 rfl rfl rfl 5 (by decide) (hts _ lkX8_carried_39) (fun _ h => h) rfl dX8_carried_32 ?_
      refine lv_aload_n hx hb dX8_carried_35 rfl (lv_at hl 0 rfl) ?_
      refine x_get hx hb hts iwX8_carried_X8 hown hM 0 0 rfl rfl rfl 3 (by decide) (hts _ lkX8_carried_29) (fun _ h => h) rfl dX8_carried_36 ?_
      refine x_callr (bc := [w0 q hd τ0 τ1 τ2 τ3 (fd 0), wst q sd X, wk q nd N, w3 q md μ0 μ1 μ2, wk q fd F]) (br := [w8 q ad ω0 (sd 0) ω2 (md 0) ω4 (nd 0) ω6 ω7 (hd 0) ω9]) hM [4, 1, 2, 3, 5] [0] rfl rfl rfl (by decide) (x_runV (As := [.ref (sd 0), .ref (nd 0), .ref (md 0)]) (rest := []) hfix (c_X0_look l D q hd τ0 τ1 τ2 τ3 (fd 0) sd X nd N md μ0 μ1 μ2 fd F S (-4) hT hMl hK) (cwV 3 hts gX8_carried_X0_look rfl rfl rfl (by decide +kernel) ⟨Nat.le_of_ble_eq_true rfl, Nat.le_of_ble_eq_true rfl⟩) hM [4, 1, 2, 3, 5] rfl rfl 4 0 rfl rfl rfl rfl rfl hl.1 rfl (Nat.le_of_ble_eq_true rfl) dX8_carried_39 ⟨Nat.le_of_ble_eq_true rfl, Nat.le_of_ble_eq_true rfl⟩) (fun u H locs hq hM => ?_)
      have hM : xM D (TY q) [w8 q ad ω0 (sd 0) ω2 (md 0) ω4 (nd 0) ω6 ω7 (hd 0) ω9, w0 q hd τ0 τ1 τ2 τ3 (fd 0), wst q sd X, wk q nd N, w3 q md μ0 μ1 μ2, wk q fd (kGoN (S 4) (tn (S 2 0)) (tn (S 5 0)) (S 9) (S 10) (S 11) (tn (S 8 0)) (-4) (N, -4, nI 0) (60 - tn (N 25))).1] A s.heap s H locs := hM
      have hM : xM D (TY q) [w8 q ad ω0 (sd 0) ω2 (md 0) ω4 (nd 0) ω6 ω7 (hd 0) ω9, wst q sd X, wk q nd N, w3 q md μ0 μ1 μ2, w0 q hd τ0 τ1 τ2 τ3 (fd 0), wk q fd (kGoN (S 4) (tn (S 2 0)) (tn (S 5 0)) (S 9) (S 10) (S 11) (tn (S 8 0)) (-4) (N, -4, nI 0) (60 - tn (N 25))).1] A s.heap s H locs := hM.sel [0, 2, 3, 4, 1, 5] rfl rfl
      refine lv_pop hx hb dX8_carried_42 rfl ?_
      refine lv_aload_n hx hb dX8_carried_43 rfl (lv_at hl 0 rfl) ?_
      refine x_get hx hb hts iwX8_carried_X8 hown hM 0 0 rfl rfl rfl 8 (by decide) (hts _ lkX8_carried_58) (fun _ h => h) rfl dX8_carried_44 ?_
      refine lv_aload_n hx hb dX8_carried_47 rfl (lv_at hl 0 rfl) ?_
      refine x_get hx hb hts iwX8_carried_X8 hown hM 0 0 rfl rfl rfl 1 (by decide) (hts _ lkX8_carried_19) (fun _ h => h) rfl dX8_carried_48 ?_
      refine lv_aload_n hx hb dX8_carried_51 rfl (lv_at hl 0 rfl) ?_
      refine x_get hx hb hts iwX8_carried_X8 hown hM 0 0 rfl rfl rfl 5 (by decide) (hts _ lkX8_carried_39) (fun _ h => h) rfl dX8_carried_52 ?_
      refine lv_iload_n hx hb dX8_carried_55 rfl (lv_at hl 1 rfl) ?_
      refine lv_iload_n hx hb dX8_carried_56 rfl (lv_at hl 2 rfl) ?_
      refine x_calli (bc := [w0 q hd τ0 τ1 τ2 τ3 (fd 0), wst q sd X, wk q nd N, wk q fd (kGoN (S 4) (tn (S 2 0)) (tn (S 5 0)) (S 9) (S 10) (S 11) (tn (S 8 0)) (-4) (N, -4, nI 0) (60 - tn (N 25))).1]) (br := [w8 q ad ω0 (sd 0) ω2 (md 0) ω4 (nd 0) ω6 ω7 (hd 0) ω9, w3 q md μ0 μ1 μ2]) hM [4, 1, 2, 5] [0, 3] rfl rfl rfl (by decide) (x_runV (As := [.ref (sd 0), .ref (nd 0), .int (nI g), .int (nI cc)]) (rest := []) hfix (c_X0_mostCarried l D q hd τ0 τ1 τ2 τ3 (fd 0) sd X nd N fd (kGoN (S 4) (tn (S 2 0)) (tn (S 5 0)) (S 9) (S 10) (S 11) (tn (S 8 0)) (-4) (N, -4, nI 0) (60 - tn (N 25))).1 S g cc hT (by omega) (by omega)) (cwV 4 hts gX8_carried_X0_mostCarried rfl rfl rfl (by decide +kernel) ⟨Nat.le_of_ble_eq_true rfl, Nat.le_of_ble_eq_true rfl⟩) hM [4, 1, 2, 5] rfl rfl 4 0 rfl rfl rfl rfl rfl hl.1 rfl (Nat.le_of_ble_eq_true rfl) dX8_carried_57 ⟨Nat.le_of_ble_eq_true rfl, Nat.le_of_ble_eq_true rfl⟩) (fun r u H locs hq hM => ?_)
      subst hq
      have hM : xM D (TY q) [w8 q ad ω0 (sd 0) ω2 (md 0) ω4 (nd 0) ω6 ω7 (hd 0) ω9, w3 q md μ0 μ1 μ2, w0 q hd τ0 τ1 τ2 τ3 (fd 0), wst q sd X, wk q nd N, wk q fd (kGoN (S 4) (tn (S 2 0)) (tn (S 5 0)) (S 9) (S 10) (S 11) (tn (S 8 0)) (-4) (N, -4, nI 0) (60 - tn (N 25))).1] A s.heap s H locs := hM
      have hM : xM D (TY q) [w8 q ad ω0 (sd 0) ω2 (md 0) ω4 (nd 0) ω6 ω7 (hd 0) ω9, wst q sd X, wk q nd N, w3 q md μ0 μ1 μ2, w0 q hd τ0 τ1 τ2 τ3 (fd 0), wk q fd (kGoN (S 4) (tn (S 2 0)) (tn (S 5 0)) (S 9) (S 10) (S 11) (tn (S 8 0)) (-4) (N, -4, nI 0) (60 - tn (N 25))).1] A s.heap s H locs := hM.sel [0, 3, 4, 1, 2, 5] rfl rfl
      exact x_iret hx hb hr hlocks (kGoN (S 4) (tn (S 2 0)) (tn (S 5 0)) (S 9) (S 10) (S 11) (tn (S 8 0)) (-4) (N, -4, nI 0) (60 - tn (N 25))).1 hM (show xcm (fun z => xcs (S 6) (fun y8 => (kGoN (S 4) (tn (S 2 0)) (tn (S 5 0)) (S 9) (S 10) (S 11) (tn (S 8 0)) (-4) (N, -4, nI 0) (60 - tn (N 25))).1 (5 * y8 + g)) (fun y8 => xwn (S 9) (S 10) (fun y7 => (kGoN (S 4) (tn (S 2 0)) (tn (S 5 0)) (S 9) (S 10) (S 11) (tn (S 8 0)) (-4) (N, -4, nI 0) (60 - tn (N 25))).1 (59 + y7) - N (59 + y7)) y8 g (tn (S 8 0))) cc (tn (S 5 0)) z (tn (S 5 0))) (2 ^ (tn (S 5 0))) = xcm (fun z => xcs (S 6) (fun y8 => (kGoN (S 4) (tn (S 2 0)) (tn (S 5 0)) (S 9) (S 10) (S 11) (tn (S 8 0)) (-4) (N, -4, nI 0) (60 - tn (N 25))).1 (5 * y8 + g)) (fun y8 => xwn (S 9) (S 10) (fun y7 => (kGoN (S 4) (tn (S 2 0)) (tn (S 5 0)) (S 9) (S 10) (S 11) (tn (S 8 0)) (-4) (N, -4, nI 0) (60 - tn (N 25))).1 (59 + y7) - N (59 + y7)) y8 g (tn (S 8 0))) cc (tn (S 5 0)) z (tn (S 5 0))) (2 ^ (tn (S 5 0))) from rfl) dX8_carried_60
    · exfalso; omega
