set_option maxRecDepth 20000 in
theorem ggX8_gave_X8_within : GoodIn wsX8_gave wsX8_within := goodIn_r _ [8] (by decide +kernel) (by decide +kernel)
set_option maxRecDepth 20000 in
theorem gX8_gave_X8_within : GoodIn wsX8_gave (va_wsS RX8 91 yX8_within wsX8_within) := goodIn_app (goodIn_of _ (by decide +kernel)) ggX8_gave_X8_within
set_option maxRecDepth 20000 in
theorem ggX8_gave_X0_look : GoodIn wsX8_gave wsX0_look := goodIn_r _ [13, 14, 15, 16, 17, 18, 19, 20, 21, 22, 23, 24, 25, 26, 27, 28, 29, 30, 31, 32, 33, 34, 35, 36, 37, 38, 39, 40, 41, 42, 43, 44, 45, 46, 47, 48, 49, 50, 51, 52, 53, 54, 55, 56, 57, 58, 59, 60, 61, 62, 63, 64, 65, 66, 67, 68, 69, 70, 71, 72, 73, 74, 75, 76, 77, 78, 79, 80, 81, 82, 83, 84, 85, 86, 87, 88, 89, 90, 91, 92, 93, 94, 95, 96, 97, 98, 99, 100, 101, 102, 103, 104, 105, 106, 107, 108, 109, 110, 111, 150, 151, 152, 153, 154, 155, 156, 157, 158, 159, 160, 161, 162, 163, 164, 165, 166, 167, 168, 169, 170, 171, 172, 173, 174, 175, 176, 177, 178, 179] (by decide +kernel) (by decide +kernel)
set_option maxRecDepth 20000 in
theorem gX8_gave_X0_look : GoodIn wsX8_gave (wsV RX8 117 RX0 yX0_look wsX0_look) := goodIn_app (goodIn_of _ (by decide +kernel)) ggX8_gave_X0_look
set_option maxRecDepth 20000 in
theorem ggX8_gave_X6_setsWorth : GoodIn wsX8_gave wsX6_setsWorth := goodIn_r _ [115, 116, 117, 118, 114, 119, 120, 121, 122, 18, 123, 79, 124, 125, 126, 63, 127, 128, 86, 55, 28, 56, 129, 130, 131, 132, 87, 88, 89, 90, 22, 61, 62, 64, 54, 133, 134, 135, 136, 85, 161, 162, 163, 164, 165, 166, 167, 168, 169, 170, 171, 172, 173, 174, 175, 176, 155, 156, 157, 158, 159, 160] (by decide +kernel) (by decide +kernel)
set_option maxRecDepth 20000 in
theorem gX8_gave_X6_setsWorth : GoodIn wsX8_gave (va_wsS RX8 252 yX6_setsWorth wsX6_setsWorth) := goodIn_app (goodIn_of _ (by decide +kernel)) ggX8_gave_X6_setsWorth
set_option maxRecDepth 20000 in
theorem ggX8_gave_X6_lowestSetWorth : GoodIn wsX8_gave wsX6_lowestSetWorth := goodIn_r _ [139, 116, 117, 118, 114, 119, 120, 121, 122, 18, 123, 79, 124, 125, 126, 63, 127, 128, 86, 55, 28, 56, 129, 130, 131, 132, 87, 88, 89, 90, 22, 61, 62, 64, 54, 133, 134, 135, 136, 85, 161, 162, 163, 164, 165, 166, 167, 168, 169, 170, 171, 172, 173, 174, 175, 176, 155, 156, 157, 158, 159, 160] (by decide +kernel) (by decide +kernel)
set_option maxRecDepth 20000 in
theorem gX8_gave_X6_lowestSetWorth : GoodIn wsX8_gave (va_wsS RX8 256 yX6_lowestSetWorth wsX6_lowestSetWorth) := goodIn_app (goodIn_of _ (by decide +kernel)) ggX8_gave_X6_lowestSetWorth
theorem dX8_gave_0 : decode cX8_gave 0 = .ok (.iload_n 1, 1) := by decide +kernel
theorem dX8_gave_1 : decode cX8_gave 1 = .ok (.iconst 0, 1) := by decide +kernel
theorem dX8_gave_2 : decode cX8_gave 2 = .ok (.sipush 9999, 3) := by decide +kernel
theorem dX8_gave_5 : decode cX8_gave 5 = .ok (.invokestatic 91, 3) := by decide +kernel
theorem dX8_gave_8 : decode cX8_gave 8 = .ok (.ifCond .eq 12, 3) := by decide +kernel
theorem dX8_gave_11 : decode cX8_gave 11 = .ok (.iload_n 2, 1) := by decide +kernel
theorem dX8_gave_12 : decode cX8_gave 12 = .ok (.iconst 0, 1) := by decide +kernel
theorem dX8_gave_13 : decode cX8_gave 13 = .ok (.iconst 1, 1) := by decide +kernel
theorem dX8_gave_14 : decode cX8_gave 14 = .ok (.invokestatic 91, 3) := by decide +kernel
theorem dX8_gave_17 : decode cX8_gave 17 = .ok (.ifCond .ne 5, 3) := by decide +kernel
theorem dX8_gave_20 : decode cX8_gave 20 = .ok (.iconst (-1), 1) := by decide +kernel
theorem dX8_gave_21 : decode cX8_gave 21 = .ok (.ireturn, 1) := by decide +kernel
theorem dX8_gave_22 : decode cX8_gave 22 = .ok (.aload_n 0, 1) := by decide +kernel
theorem dX8_gave_23 : decode cX8_gave 23 = .ok (.getfield 58, 3) := by decide +kernel
theorem dX8_gave_26 : decode cX8_gave 26 = .ok (.aload_n 0, 1) := by decide +kernel
theorem dX8_gave_27 : decode cX8_gave 27 = .ok (.getfield 19, 3) := by decide +kernel
theorem dX8_gave_30 : decode cX8_gave 30 = .ok (.aload_n 0, 1) := by decide +kernel
theorem dX8_gave_31 : decode cX8_gave 31 = .ok (.getfield 39, 3) := by decide +kernel
theorem dX8_gave_34 : decode cX8_gave 34 = .ok (.aload_n 0, 1) := by decide +kernel
theorem dX8_gave_35 : decode cX8_gave 35 = .ok (.getfield 29, 3) := by decide +kernel
theorem dX8_gave_38 : decode cX8_gave 38 = .ok (.invokevirtual 117, 3) := by decide +kernel
theorem dX8_gave_41 : decode cX8_gave 41 = .ok (.astore_n 3, 1) := by decide +kernel
theorem dX8_gave_42 : decode cX8_gave 42 = .ok (.iload_n 2, 1) := by decide +kernel
theorem dX8_gave_43 : decode cX8_gave 43 = .ok (.ifCond .ne 15, 3) := by decide +kernel
theorem dX8_gave_46 : decode cX8_gave 46 = .ok (.aload_n 0, 1) := by decide +kernel
theorem dX8_gave_47 : decode cX8_gave 47 = .ok (.getfield 19, 3) := by decide +kernel
theorem dX8_gave_50 : decode cX8_gave 50 = .ok (.aload_n 3, 1) := by decide +kernel
theorem dX8_gave_51 : decode cX8_gave 51 = .ok (.iload_n 1, 1) := by decide +kernel
theorem dX8_gave_52 : decode cX8_gave 52 = .ok (.invokestatic 252, 3) := by decide +kernel
theorem dX8_gave_55 : decode cX8_gave 55 = .ok (.goto 12, 3) := by decide +kernel
theorem dX8_gave_58 : decode cX8_gave 58 = .ok (.aload_n 0, 1) := by decide +kernel
theorem dX8_gave_59 : decode cX8_gave 59 = .ok (.getfield 19, 3) := by decide +kernel
theorem dX8_gave_62 : decode cX8_gave 62 = .ok (.aload_n 3, 1) := by decide +kernel
theorem dX8_gave_63 : decode cX8_gave 63 = .ok (.iload_n 1, 1) := by decide +kernel
theorem dX8_gave_64 : decode cX8_gave 64 = .ok (.invokestatic 256, 3) := by decide +kernel
theorem dX8_gave_67 : decode cX8_gave 67 = .ok (.ireturn, 1) := by decide +kernel
theorem lkX8_gave_19 : Cond.fieldLink RX8 19 "LeftAtFive" "street" "LLeftAtFive$Street;" ∈ wsX8_gave := by decide +kernel
theorem lkX8_gave_29 : Cond.fieldLink RX8 29 "LeftAtFive" "meals" "LLeftAtFive$Meals;" ∈ wsX8_gave := by decide +kernel
theorem lkX8_gave_39 : Cond.fieldLink RX8 39 "LeftAtFive" "now" "LLeftAtFive$Kitchens;" ∈ wsX8_gave := by decide +kernel
theorem lkX8_gave_58 : Cond.fieldLink RX8 58 "LeftAtFive" "ahead" "LLeftAtFive$Ahead;" ∈ wsX8_gave := by decide +kernel
theorem iwX8_gave_X8 : ∀ w ∈ wsX80, w ∈ wsX8_gave := by decide +kernel
set_option maxHeartbeats 2000000 in
set_option maxRecDepth 100000 in
theorem c_X8_gave (l : Launch) (D : va_G) (q : Nat → ClassId) (ad : Nat → Nat) (ω0 : Nat) (ω1 : Nat) (ω2 : Nat) (ω3 : Nat) (ω4 : Nat) (ω5 : Nat) (ω6 : Nat) (ω7 : Nat) (ω8 : Nat) (ω9 : Nat) (sd : Nat → Nat) (X : Nat → Nat → Int32) (nd : Nat → Nat) (N : Nat → Int32) (md : Nat → Nat) (μ0 : Nat → Int32) (μ1 : Nat → Int32) (μ2 : Int32) (hd : Nat → Nat) (τ0 : Int32) (τ1 : Int32) (τ2 : Int32) (τ3 : Int32) (τ4 : Nat) (fd : Nat → Nat) (F : Nat → Int32) (S : Nat → Nat → Int32) (v : Nat) (what : Nat) (hT : okT X S) (hK : okK N) (hMl : okM μ0 μ1 (S 11) (tn (S 8 0)) (-4)) (hv9 : v ≤ 9999) (hwhat9 : what ≤ 1) : xC l yX8_gave wsX8_gave ({ frames := 6, cells := 0, slots := 0, locals := 140 }) D (TY q) [w8 q ad ω0 (sd 0) ω2 (md 0) ω4 (nd 0) ω6 ω7 (hd 0) ω9, wst q sd X, wk q nd N, w3 q md μ0 μ1 μ2, w0 q hd τ0 τ1 τ2 τ3 (fd 0), wk q fd F] [.ref (ad 0), .int (nI v), .int (nI what)] (xQi D (TY q) (fun (r : Int32) (_ : (Nat → Int32)) => r = if what = 0 then nI (xsv (fun z => xsw (fun y9 => kW (S 3) (S 4) (tn (S 2 0)) (kGoN (S 4) (tn (S 2 0)) (tn (S 5 0)) (S 9) (S 10) (S 11) (tn (S 8 0)) (-4) (N, -4, nI 0) (60 - tn (N 25))).1 y9) z (tn (S 5 0))) v (2 ^ (tn (S 5 0)))).1 else (xsv (fun z => xsw (fun y9 => kW (S 3) (S 4) (tn (S 2 0)) (kGoN (S 4) (tn (S 2 0)) (tn (S 5 0)) (S 9) (S 10) (S 11) (tn (S 8 0)) (-4) (N, -4, nI 0) (60 - tn (N 25))).1 y9) z (tn (S 5 0))) v (2 ^ (tn (S 5 0)))).2) (fun (u : (Nat → Int32)) => [w8 q ad ω0 (sd 0) ω2 (md 0) ω4 (nd 0) ω6 ω7 (hd 0) ω9, wst q sd X, wk q nd N, w3 q md μ0 μ1 μ2, w0 q hd τ0 τ1 τ2 τ3 (fd 0), wk q fd u])) 0 0 := by
  refine x_enter (cc := cX8_gave) (maxL := 4) (ret := (some .int)) (by decide) rfl (Nat.le_of_ble_eq_true rfl) ?_
  intro p e s m below meth c A ls H locs hfix hr hlocks hinit hM hl
  obtain ⟨hx, hb, hml, hown, hts⟩ := id hfix
  have hl : lv_has ls 4 [(0, .ref (ad 0)), (1, .int (nI v)), (2, .int (nI what))] := hl
  have hTb0 := okT_0b hT
  have hTb1 := okT_1b hT
  have hTb2 := okT_2b hT
  have hTb3 := okT_3b hT
  have hTb4 := okT_4b hT
  have hK25 := hK.1.2
  have hK26 := hK.2.1.2
  refine lv_iload_n hx hb dX8_gave_0 rfl (lv_at hl 1 rfl) ?_
  refine lv_iconst (v := nI 0) hx hb dX8_gave_1 (by decide) ?_
  refine lv_sipush (v := nI 9999) hx hb dX8_gave_2 (by decide) ?_
  refine x_calli (bc := []) (br := [w8 q ad ω0 (sd 0) ω2 (md 0) ω4 (nd 0) ω6 ω7 (hd 0) ω9, wst q sd X, wk q nd N, w3 q md μ0 μ1 μ2, w0 q hd τ0 τ1 τ2 τ3 (fd 0), wk q fd F]) hM [] [0, 1, 2, 3, 4, 5] rfl rfl rfl (by decide) (x_runS (As := [.int (nI v), .int (nI 0), .int (nI 9999)]) (rest := []) hfix (c_X8_within l D q (nI v) (nI 0) (nI 9999) ((v : Nat) : Int) (0 : Int) (9999 : Int) (nI_toInt (n := v) (by omega)) (nI_toInt (n := 0) (by decide)) (nI_toInt (n := 9999) (by decide))) (va_cwS 3 hts gX8_gave_X8_within rfl rfl rfl (by decide +kernel) ⟨Nat.le_of_ble_eq_true rfl, Nat.le_of_ble_eq_true rfl⟩) hM [] rfl rfl rfl hl.1 rfl (Nat.le_of_ble_eq_true rfl) dX8_gave_5 ⟨Nat.le_of_ble_eq_true rfl, Nat.le_of_ble_eq_true rfl⟩) (fun r u H locs hq hM => ?_)
  subst hq
  have hM : xM D (TY q) [w8 q ad ω0 (sd 0) ω2 (md 0) ω4 (nd 0) ω6 ω7 (hd 0) ω9, wst q sd X, wk q nd N, w3 q md μ0 μ1 μ2, w0 q hd τ0 τ1 τ2 τ3 (fd 0), wk q fd F] A s.heap s H locs := hM
  refine x_ifz_eq (P := (0 : Int) ≤ ((v : Nat) : Int) ∧ ((v : Nat) : Int) ≤ (9999 : Int)) (tgt := 20) hx hb dX8_gave_8 (by decide) (fun c1 => ?_) (fun c1 => ?_)
  · exfalso; omega
  · refine lv_iload_n hx hb dX8_gave_11 rfl (lv_at hl 2 rfl) ?_
    refine lv_iconst (v := nI 0) hx hb dX8_gave_12 (by decide) ?_
    refine lv_iconst (v := nI 1) hx hb dX8_gave_13 (by decide) ?_
    refine x_calli (bc := []) (br := [w8 q ad ω0 (sd 0) ω2 (md 0) ω4 (nd 0) ω6 ω7 (hd 0) ω9, wst q sd X, wk q nd N, w3 q md μ0 μ1 μ2, w0 q hd τ0 τ1 τ2 τ3 (fd 0), wk q fd F]) hM [] [0, 1, 2, 3, 4, 5] rfl rfl rfl (by decide) (x_runS (As := [.int (nI what), .int (nI 0), .int (nI 1)]) (rest := []) hfix (c_X8_within l D q (nI what) (nI 0) (nI 1) ((what : Nat) : Int) (0 : Int) (1 : Int) (nI_toInt (n := what) (by omega)) (nI_toInt (n := 0) (by decide)) (nI_toInt (n := 1) (by decide))) (va_cwS 3 hts gX8_gave_X8_within rfl rfl rfl (by decide +kernel) ⟨Nat.le_of_ble_eq_true rfl, Nat.le_of_ble_eq_true rfl⟩) hM [] rfl rfl rfl hl.1 rfl (Nat.le_of_ble_eq_true rfl) dX8_gave_14 ⟨Nat.le_of_ble_eq_true rfl, Nat.le_of_ble_eq_true rfl⟩) (fun r u H locs hq hM => ?_)
    subst hq
    have hM : xM D (TY q) [w8 q ad ω0 (sd 0) ω2 (md 0) ω4 (nd 0) ω6 ω7 (hd 0) ω9, wst q sd X, wk q nd N, w3 q md μ0 μ1 μ2, w0 q hd τ0 τ1 τ2 τ3 (fd 0), wk q fd F] A s.heap s H locs := hM
    refine x_ifz_ne (P := (0 : Int) ≤ ((what : Nat) : Int) ∧ ((what : Nat) : Int) ≤ (1 : Int)) (tgt := 22) hx hb dX8_gave_17 (by decide) (fun c2 => ?_) (fun c2 => ?_)
    · refine lv_aload_n hx hb dX8_gave_22 rfl (lv_at hl 0 rfl) ?_
      refine x_get hx hb hts iwX8_gave_X8 hown hM 0 0 rfl rfl rfl 8 (by decide) (hts _ lkX8_gave_58) (fun _ h => h) rfl dX8_gave_23 ?_
      refine lv_aload_n hx hb dX8_gave_26 rfl (lv_at hl 0 rfl) ?_
      refine x_get hx hb hts iwX8_gave_X8 hown hM 0 0 rfl rfl rfl 1 (by decide) (hts _ lkX8_gave_19) (fun _ h => h) rfl dX8_gave_27 ?_
      refine lv_aload_n hx hb dX8_gave_30 rfl (lv_at hl 0 rfl) ?_
      refine x_get hx hb hts iwX8_gave_X8 hown hM 0 0 rfl rfl rfl 5 (by decide) (hts _ lkX8_gave_39) (fun _ h => h) rfl dX8_gave_31 ?_
      refine lv_aload_n hx hb dX8_gave_34 rfl (lv_at hl 0 rfl) ?_
      refine x_get hx hb hts iwX8_gave_X8 hown hM 0 0 rfl rfl rfl 3 (by decide) (hts _ lkX8_gave_29) (fun _ h => h) rfl dX8_gave_35 ?_
      refine x_callr (bc := [w0 q hd τ0 τ1 τ2 τ3 (fd 0), wst q sd X, wk q nd N, w3 q md μ0 μ1 μ2, wk q fd F]) (br := [w8 q ad ω0 (sd 0) ω2 (md 0) ω4 (nd 0) ω6 ω7 (hd 0) ω9]) hM [4, 1, 2, 3, 5] [0] rfl rfl rfl (by decide) (x_runV (As := [.ref (sd 0), .ref (nd 0), .ref (md 0)]) (rest := []) hfix (c_X0_look l D q hd τ0 τ1 τ2 τ3 (fd 0) sd X nd N md μ0 μ1 μ2 fd F S (-4) hT hMl hK) (cwV 3 hts gX8_gave_X0_look rfl rfl rfl (by decide +kernel) ⟨Nat.le_of_ble_eq_true rfl, Nat.le_of_ble_eq_true rfl⟩) hM [4, 1, 2, 3, 5] rfl rfl 4 0 rfl rfl rfl rfl rfl hl.1 rfl (Nat.le_of_ble_eq_true rfl) dX8_gave_38 ⟨Nat.le_of_ble_eq_true rfl, Nat.le_of_ble_eq_true rfl⟩) (fun u H locs hq hM => ?_)
      have hM : xM D (TY q) [w8 q ad ω0 (sd 0) ω2 (md 0) ω4 (nd 0) ω6 ω7 (hd 0) ω9, w0 q hd τ0 τ1 τ2 τ3 (fd 0), wst q sd X, wk q nd N, w3 q md μ0 μ1 μ2, wk q fd (kGoN (S 4) (tn (S 2 0)) (tn (S 5 0)) (S 9) (S 10) (S 11) (tn (S 8 0)) (-4) (N, -4, nI 0) (60 - tn (N 25))).1] A s.heap s H locs := hM
      have hM : xM D (TY q) [w8 q ad ω0 (sd 0) ω2 (md 0) ω4 (nd 0) ω6 ω7 (hd 0) ω9, wst q sd X, wk q nd N, w3 q md μ0 μ1 μ2, w0 q hd τ0 τ1 τ2 τ3 (fd 0), wk q fd (kGoN (S 4) (tn (S 2 0)) (tn (S 5 0)) (S 9) (S 10) (S 11) (tn (S 8 0)) (-4) (N, -4, nI 0) (60 - tn (N 25))).1] A s.heap s H locs := hM.sel [0, 2, 3, 4, 1, 5] rfl rfl
      refine lv_astore_n (lv' := [(3, .ref (fd 0)), (0, .ref (ad 0)), (1, .int (nI v)), (2, .int (nI what))]) hx hb dX8_gave_41 rfl hl (by decide) rfl (fun ls hl => ?_)
      refine lv_iload_n hx hb dX8_gave_42 rfl (lv_at hl 3 rfl) ?_
      refine x_if_ne (x := what) (tgt := 58) hx hb (by omega) dX8_gave_43 (by decide) (fun c3 => ?_) (fun c3 => ?_)
      · refine lv_aload_n hx hb dX8_gave_58 rfl (lv_at hl 1 rfl) ?_
        refine x_get hx hb hts iwX8_gave_X8 hown hM 0 0 rfl rfl rfl 1 (by decide) (hts _ lkX8_gave_19) (fun _ h => h) rfl dX8_gave_59 ?_
        refine lv_aload_n hx hb dX8_gave_62 rfl (lv_at hl 0 rfl) ?_
        refine lv_iload_n hx hb dX8_gave_63 rfl (lv_at hl 2 rfl) ?_
        refine x_calli (bc := [wst q sd X, wk q fd (kGoN (S 4) (tn (S 2 0)) (tn (S 5 0)) (S 9) (S 10) (S 11) (tn (S 8 0)) (-4) (N, -4, nI 0) (60 - tn (N 25))).1]) (br := [w8 q ad ω0 (sd 0) ω2 (md 0) ω4 (nd 0) ω6 ω7 (hd 0) ω9, wk q nd N, w3 q md μ0 μ1 μ2, w0 q hd τ0 τ1 τ2 τ3 (fd 0)]) hM [1, 5] [0, 2, 3, 4] rfl rfl rfl (by decide) (x_runS (As := [.ref (sd 0), .ref (fd 0), .int (nI v)]) (rest := []) hfix (c_X6_lowestSetWorth l D q sd X fd (kGoN (S 4) (tn (S 2 0)) (tn (S 5 0)) (S 9) (S 10) (S 11) (tn (S 8 0)) (-4) (N, -4, nI 0) (60 - tn (N 25))).1 S v hT (by omega)) (va_cwS 3 hts gX8_gave_X6_lowestSetWorth rfl rfl rfl (by decide +kernel) ⟨Nat.le_of_ble_eq_true rfl, Nat.le_of_ble_eq_true rfl⟩) hM [1, 5] rfl rfl rfl hl.1 rfl (Nat.le_of_ble_eq_true rfl) dX8_gave_64 ⟨Nat.le_of_ble_eq_true rfl, Nat.le_of_ble_eq_true rfl⟩) (fun r u H locs hq hM => ?_)
        subst hq
        have hM : xM D (TY q) [w8 q ad ω0 (sd 0) ω2 (md 0) ω4 (nd 0) ω6 ω7 (hd 0) ω9, wk q nd N, w3 q md μ0 μ1 μ2, w0 q hd τ0 τ1 τ2 τ3 (fd 0), wst q sd X, wk q fd (kGoN (S 4) (tn (S 2 0)) (tn (S 5 0)) (S 9) (S 10) (S 11) (tn (S 8 0)) (-4) (N, -4, nI 0) (60 - tn (N 25))).1] A s.heap s H locs := hM
        have hM : xM D (TY q) [w8 q ad ω0 (sd 0) ω2 (md 0) ω4 (nd 0) ω6 ω7 (hd 0) ω9, wst q sd X, wk q nd N, w3 q md μ0 μ1 μ2, w0 q hd τ0 τ1 τ2 τ3 (fd 0), wk q fd (kGoN (S 4) (tn (S 2 0)) (tn (S 5 0)) (S 9) (S 10) (S 11) (tn (S 8 0)) (-4) (N, -4, nI 0) (60 - tn (N 25))).1] A s.heap s H locs := hM.sel [0, 4, 1, 2, 3, 5] rfl rfl
        exact x_iret hx hb hr hlocks (kGoN (S 4) (tn (S 2 0)) (tn (S 5 0)) (S 9) (S 10) (S 11) (tn (S 8 0)) (-4) (N, -4, nI 0) (60 - tn (N 25))).1 hM (show (xsv (fun z => xsw (fun y9 => kW (S 3) (S 4) (tn (S 2 0)) (kGoN (S 4) (tn (S 2 0)) (tn (S 5 0)) (S 9) (S 10) (S 11) (tn (S 8 0)) (-4) (N, -4, nI 0) (60 - tn (N 25))).1 y9) z (tn (S 5 0))) v (2 ^ (tn (S 5 0)))).2 = if what = 0 then nI (xsv (fun z => xsw (fun y9 => kW (S 3) (S 4) (tn (S 2 0)) (kGoN (S 4) (tn (S 2 0)) (tn (S 5 0)) (S 9) (S 10) (S 11) (tn (S 8 0)) (-4) (N, -4, nI 0) (60 - tn (N 25))).1 y9) z (tn (S 5 0))) v (2 ^ (tn (S 5 0)))).1 else (xsv (fun z => xsw (fun y9 => kW (S 3) (S 4) (tn (S 2 0)) (kGoN (S 4) (tn (S 2 0)) (tn (S 5 0)) (S 9) (S 10) (S 11) (tn (S 8 0)) (-4) (N, -4, nI 0) (60 - tn (N 25))).1 y9) z (tn (S 5 0))) v (2 ^ (tn (S 5 0)))).2 from by (first | exact (if_pos (by omega)).symm | exact (if_neg (by omega)).symm)) dX8_gave_67
      · refine lv_aload_n hx hb dX8_gave_46 rfl (lv_at hl 1 rfl) ?_
        refine x_get hx hb hts iwX8_gave_X8 hown hM 0 0 rfl rfl rfl 1 (by decide) (hts _ lkX8_gave_19) (fun _ h => h) rfl dX8_gave_47 ?_
        refine lv_aload_n hx hb dX8_gave_50 rfl (lv_at hl 0 rfl) ?_
        refine lv_iload_n hx hb dX8_gave_51 rfl (lv_at hl 2 rfl) ?_
        refine x_calli (bc := [wst q sd X, wk q fd (kGoN (S 4) (tn (S 2 0)) (tn (S 5 0)) (S 9) (S 10) (S 11) (tn (S 8 0)) (-4) (N, -4, nI 0) (60 - tn (N 25))).1]) (br := [w8 q ad ω0 (sd 0) ω2 (md 0) ω4 (nd 0) ω6 ω7 (hd 0) ω9, wk q nd N, w3 q md μ0 μ1 μ2, w0 q hd τ0 τ1 τ2 τ3 (fd 0)]) hM [1, 5] [0, 2, 3, 4] rfl rfl rfl (by decide) (x_runS (As := [.ref (sd 0), .ref (fd 0), .int (nI v)]) (rest := []) hfix (c_X6_setsWorth l D q sd X fd (kGoN (S 4) (tn (S 2 0)) (tn (S 5 0)) (S 9) (S 10) (S 11) (tn (S 8 0)) (-4) (N, -4, nI 0) (60 - tn (N 25))).1 S v hT (by omega)) (va_cwS 3 hts gX8_gave_X6_setsWorth rfl rfl rfl (by decide +kernel) ⟨Nat.le_of_ble_eq_true rfl, Nat.le_of_ble_eq_true rfl⟩) hM [1, 5] rfl rfl rfl hl.1 rfl (Nat.le_of_ble_eq_true rfl) dX8_gave_52 ⟨Nat.le_of_ble_eq_true rfl, Nat.le_of_ble_eq_true rfl⟩) (fun r u H locs hq hM => ?_)
        subst hq
        have hM : xM D (TY q) [w8 q ad ω0 (sd 0) ω2 (md 0) ω4 (nd 0) ω6 ω7 (hd 0) ω9, wk q nd N, w3 q md μ0 μ1 μ2, w0 q hd τ0 τ1 τ2 τ3 (fd 0), wst q sd X, wk q fd (kGoN (S 4) (tn (S 2 0)) (tn (S 5 0)) (S 9) (S 10) (S 11) (tn (S 8 0)) (-4) (N, -4, nI 0) (60 - tn (N 25))).1] A s.heap s H locs := hM
        have hM : xM D (TY q) [w8 q ad ω0 (sd 0) ω2 (md 0) ω4 (nd 0) ω6 ω7 (hd 0) ω9, wst q sd X, wk q nd N, w3 q md μ0 μ1 μ2, w0 q hd τ0 τ1 τ2 τ3 (fd 0), wk q fd (kGoN (S 4) (tn (S 2 0)) (tn (S 5 0)) (S 9) (S 10) (S 11) (tn (S 8 0)) (-4) (N, -4, nI 0) (60 - tn (N 25))).1] A s.heap s H locs := hM.sel [0, 4, 1, 2, 3, 5] rfl rfl
        refine lv_goto (tgt := 67) hx hb dX8_gave_55 (by decide) ?_
        exact x_iret hx hb hr hlocks (kGoN (S 4) (tn (S 2 0)) (tn (S 5 0)) (S 9) (S 10) (S 11) (tn (S 8 0)) (-4) (N, -4, nI 0) (60 - tn (N 25))).1 hM (show nI (xsv (fun z => xsw (fun y9 => kW (S 3) (S 4) (tn (S 2 0)) (kGoN (S 4) (tn (S 2 0)) (tn (S 5 0)) (S 9) (S 10) (S 11) (tn (S 8 0)) (-4) (N, -4, nI 0) (60 - tn (N 25))).1 y9) z (tn (S 5 0))) v (2 ^ (tn (S 5 0)))).1 = if what = 0 then nI (xsv (fun z => xsw (fun y9 => kW (S 3) (S 4) (tn (S 2 0)) (kGoN (S 4) (tn (S 2 0)) (tn (S 5 0)) (S 9) (S 10) (S 11) (tn (S 8 0)) (-4) (N, -4, nI 0) (60 - tn (N 25))).1 y9) z (tn (S 5 0))) v (2 ^ (tn (S 5 0)))).1 else (xsv (fun z => xsw (fun y9 => kW (S 3) (S 4) (tn (S 2 0)) (kGoN (S 4) (tn (S 2 0)) (tn (S 5 0)) (S 9) (S 10) (S 11) (tn (S 8 0)) (-4) (N, -4, nI 0) (60 - tn (N 25))).1 y9) z (tn (S 5 0))) v (2 ^ (tn (S 5 0)))).2 from by (first | exact (if_pos (by omega)).symm | exact (if_neg (by omega)).symm)) dX8_gave_67
    · exfalso; omega
