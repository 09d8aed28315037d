set_option maxRecDepth 20000 in
theorem ggX8_round_X8_within : GoodIn wsX8_round wsX8_within := goodIn_r _ [10] (by decide +kernel) (by decide +kernel)
set_option maxRecDepth 20000 in
theorem gX8_round_X8_within : GoodIn wsX8_round (va_wsS RX8 91 yX8_within wsX8_within) := goodIn_app (goodIn_of _ (by decide +kernel)) ggX8_round_X8_within
set_option maxRecDepth 20000 in
theorem ggX8_round_X0_look : GoodIn wsX8_round wsX0_look := goodIn_r _ [15, 16, 17, 18, 19, 20, 21, 22, 23, 24, 25, 26, 27, 28, 29, 30, 31, 32, 33, 34, 35, 36, 37, 38, 39, 40, 41, 42, 43, 44, 45, 46, 47, 48, 49, 50, 51, 52, 53, 54, 55, 56, 57, 58, 59, 60, 61, 62, 63, 64, 65, 66, 67, 68, 69, 70, 71, 72, 73, 74, 75, 76, 77, 78, 79, 80, 81, 82, 83, 84, 85, 86, 87, 88, 89, 90, 91, 92, 93, 94, 95, 96, 97, 98, 99, 100, 101, 102, 103, 104, 105, 106, 107, 108, 109, 110, 111, 112, 113, 158, 159, 160, 161, 162, 163, 164, 165, 166, 167, 168, 169, 170, 171, 172, 173, 174, 175, 176, 177, 178, 179, 180, 181, 182, 183, 184, 185, 186, 187] (by decide +kernel) (by decide +kernel)
set_option maxRecDepth 20000 in
theorem gX8_round_X0_look : GoodIn wsX8_round (wsV RX8 117 RX0 yX0_look wsX0_look) := goodIn_app (goodIn_of _ (by decide +kernel)) ggX8_round_X0_look
set_option maxRecDepth 20000 in
theorem ggX8_round_X0_seekRound : GoodIn wsX8_round wsX0_seekRound := goodIn_r _ [117, 118, 119, 120, 121, 122, 123, 65, 124, 125, 88, 57, 30, 58, 126, 127, 128, 14, 129, 130, 33, 34, 35, 16, 8, 9, 10, 131, 132, 133, 20, 134, 81, 135, 136, 137, 138, 139, 140, 141, 142, 143, 89, 90, 91, 92, 24, 63, 64, 66, 56, 144, 145, 146, 147, 87, 158, 159, 160, 161, 162, 169, 170, 171, 172, 173, 174, 175, 176, 177, 178, 179, 180, 181, 182, 183, 184, 163, 164, 165, 166, 167, 168] (by decide +kernel) (by decide +kernel)
set_option maxRecDepth 20000 in
theorem gX8_round_X0_seekRound : GoodIn wsX8_round (wsV RX8 196 RX0 yX0_seekRound wsX0_seekRound) := goodIn_app (goodIn_of _ (by decide +kernel)) ggX8_round_X0_seekRound
theorem dX8_round_0 : decode cX8_round 0 = .ok (.iload_n 1, 1) := by decide +kernel
theorem dX8_round_1 : decode cX8_round 1 = .ok (.iconst 0, 1) := by decide +kernel
theorem dX8_round_2 : decode cX8_round 2 = .ok (.bipush 60, 2) := by decide +kernel
theorem dX8_round_4 : decode cX8_round 4 = .ok (.invokestatic 91, 3) := by decide +kernel
theorem dX8_round_7 : decode cX8_round 7 = .ok (.ifCond .eq 22, 3) := by decide +kernel
theorem dX8_round_10 : decode cX8_round 10 = .ok (.iload_n 2, 1) := by decide +kernel
theorem dX8_round_11 : decode cX8_round 11 = .ok (.iconst 0, 1) := by decide +kernel
theorem dX8_round_12 : decode cX8_round 12 = .ok (.bipush 99, 2) := by decide +kernel
theorem dX8_round_14 : decode cX8_round 14 = .ok (.invokestatic 91, 3) := by decide +kernel
theorem dX8_round_17 : decode cX8_round 17 = .ok (.ifCond .eq 12, 3) := by decide +kernel
theorem dX8_round_20 : decode cX8_round 20 = .ok (.iload_n 3, 1) := by decide +kernel
theorem dX8_round_21 : decode cX8_round 21 = .ok (.iconst 0, 1) := by decide +kernel
theorem dX8_round_22 : decode cX8_round 22 = .ok (.iconst 1, 1) := by decide +kernel
theorem dX8_round_23 : decode cX8_round 23 = .ok (.invokestatic 91, 3) := by decide +kernel
theorem dX8_round_26 : decode cX8_round 26 = .ok (.ifCond .ne 5, 3) := by decide +kernel
theorem dX8_round_29 : decode cX8_round 29 = .ok (.iconst (-1), 1) := by decide +kernel
theorem dX8_round_30 : decode cX8_round 30 = .ok (.ireturn, 1) := by decide +kernel
theorem dX8_round_31 : decode cX8_round 31 = .ok (.aload_n 0, 1) := by decide +kernel
theorem dX8_round_32 : decode cX8_round 32 = .ok (.getfield 58, 3) := by decide +kernel
theorem dX8_round_35 : decode cX8_round 35 = .ok (.aload_n 0, 1) := by decide +kernel
theorem dX8_round_36 : decode cX8_round 36 = .ok (.getfield 19, 3) := by decide +kernel
theorem dX8_round_39 : decode cX8_round 39 = .ok (.aload_n 0, 1) := by decide +kernel
theorem dX8_round_40 : decode cX8_round 40 = .ok (.getfield 39, 3) := by decide +kernel
theorem dX8_round_43 : decode cX8_round 43 = .ok (.aload_n 0, 1) := by decide +kernel
theorem dX8_round_44 : decode cX8_round 44 = .ok (.getfield 29, 3) := by decide +kernel
theorem dX8_round_47 : decode cX8_round 47 = .ok (.invokevirtual 117, 3) := by decide +kernel
theorem dX8_round_50 : decode cX8_round 50 = .ok (.pop, 1) := by decide +kernel
theorem dX8_round_51 : decode cX8_round 51 = .ok (.aload_n 0, 1) := by decide +kernel
theorem dX8_round_52 : decode cX8_round 52 = .ok (.getfield 58, 3) := by decide +kernel
theorem dX8_round_55 : decode cX8_round 55 = .ok (.aload_n 0, 1) := by decide +kernel
theorem dX8_round_56 : decode cX8_round 56 = .ok (.getfield 19, 3) := by decide +kernel
theorem dX8_round_59 : decode cX8_round 59 = .ok (.iload_n 1, 1) := by decide +kernel
theorem dX8_round_60 : decode cX8_round 60 = .ok (.iload_n 2, 1) := by decide +kernel
theorem dX8_round_61 : decode cX8_round 61 = .ok (.invokevirtual 196, 3) := by decide +kernel
theorem dX8_round_64 : decode cX8_round 64 = .ok (.iload_n 3, 1) := by decide +kernel
theorem dX8_round_65 : decode cX8_round 65 = .ok (.ifCond .ne 13, 3) := by decide +kernel
theorem dX8_round_68 : decode cX8_round 68 = .ok (.aload_n 0, 1) := by decide +kernel
theorem dX8_round_69 : decode cX8_round 69 = .ok (.getfield 58, 3) := by decide +kernel
theorem dX8_round_72 : decode cX8_round 72 = .ok (.getfield 200, 3) := by decide +kernel
theorem dX8_round_75 : decode cX8_round 75 = .ok (.goto 10, 3) := by decide +kernel
theorem dX8_round_78 : decode cX8_round 78 = .ok (.aload_n 0, 1) := by decide +kernel
theorem dX8_round_79 : decode cX8_round 79 = .ok (.getfield 58, 3) := by decide +kernel
theorem dX8_round_82 : decode cX8_round 82 = .ok (.getfield 203, 3) := by decide +kernel
theorem dX8_round_85 : decode cX8_round 85 = .ok (.ireturn, 1) := by decide +kernel
theorem lkX8_round_19 : Cond.fieldLink RX8 19 "LeftAtFive" "street" "LLeftAtFive$Street;" ∈ wsX8_round := by decide +kernel
theorem lkX8_round_29 : Cond.fieldLink RX8 29 "LeftAtFive" "meals" "LLeftAtFive$Meals;" ∈ wsX8_round := by decide +kernel
theorem lkX8_round_39 : Cond.fieldLink RX8 39 "LeftAtFive" "now" "LLeftAtFive$Kitchens;" ∈ wsX8_round := by decide +kernel
theorem lkX8_round_58 : Cond.fieldLink RX8 58 "LeftAtFive" "ahead" "LLeftAtFive$Ahead;" ∈ wsX8_round := by decide +kernel
theorem lkX8_round_200 : Cond.fieldLink RX8 200 "LeftAtFive$Ahead" "roundWorth" "I" ∈ wsX8_round := by decide +kernel
theorem lkX8_round_203 : Cond.fieldLink RX8 203 "LeftAtFive$Ahead" "roundCells" "I" ∈ wsX8_round := by decide +kernel
theorem iwX8_round_X0 : ∀ w ∈ wsX00, w ∈ wsX8_round := by decide +kernel
theorem iwX8_round_X8 : ∀ w ∈ wsX80, w ∈ wsX8_round := by decide +kernel
set_option maxHeartbeats 2000000 in
set_option maxRecDepth 100000 in
theorem c_X8_round (l : Launch) (D : va_G) (q : Nat → ClassId) (ad : Nat → Nat) (ω0 : Nat) (ω1 : Nat) (ω2 : Nat) (ω3 : Nat) (ω4 : Nat) (ω5 : Nat) (ω6 : Nat) (ω7 : Nat) (ω8 : Nat) (ω9 : Nat) (sd : Nat → Nat) (X : Nat → Nat → Int32) (nd : Nat → Nat) (N : Nat → Int32) (md : Nat → Nat) (μ0 : Nat → Int32) (μ1 : Nat → Int32) (μ2 : Int32) (hd : Nat → Nat) (τ0 : Int32) (τ1 : Int32) (τ2 : Int32) (τ3 : Int32) (τ4 : Nat) (fd : Nat → Nat) (F : Nat → Int32) (S : Nat → Nat → Int32) (x : Nat) (mm : Nat) (what : Nat) (hT : okT X S) (hK : okK N) (hMl : okM μ0 μ1 (S 11) (tn (S 8 0)) (-4)) (hx9 : x ≤ 60) (hmm9 : mm ≤ 99) (hwhat9 : what ≤ 1) : xC l yX8_round wsX8_round ({ frames := 6, cells := 0, slots := 0, locals := 145 }) D (TY q) [w8 q ad ω0 (sd 0) ω2 (md 0) ω4 (nd 0) ω6 ω7 (hd 0) ω9, wst q sd X, wk q nd N, w3 q md μ0 μ1 μ2, w0 q hd τ0 τ1 τ2 τ3 (fd 0), wk q fd F] [.ref (ad 0), .int (nI x), .int (nI mm), .int (nI what)] (xQi D (TY q) (fun (r : Int32) (_ : (Nat → Int32)) => r = if what = 0 then (xrI (S 6) (fun y9 => kW (S 3) (S 4) (tn (S 2 0)) (kGoN (S 4) (tn (S 2 0)) (tn (S 5 0)) (S 9) (S 10) (S 11) (tn (S 8 0)) (-4) (N, -4, nI 0) (60 - tn (N 25))).1 y9) x mm (tn (S 5 0)) ((tn (S 5 0)) + 1)).1 else (xrI (S 6) (fun y9 => kW (S 3) (S 4) (tn (S 2 0)) (kGoN (S 4) (tn (S 2 0)) (tn (S 5 0)) (S 9) (S 10) (S 11) (tn (S 8 0)) (-4) (N, -4, nI 0) (60 - tn (N 25))).1 y9) x mm (tn (S 5 0)) ((tn (S 5 0)) + 1)).2) (fun (u : (Nat → Int32)) => [w8 q ad ω0 (sd 0) ω2 (md 0) ω4 (nd 0) ω6 ω7 (hd 0) ω9, wst q sd X, wk q nd N, w3 q md μ0 μ1 μ2, w0 q hd τ0 τ1 (xrI (S 6) (fun y9 => kW (S 3) (S 4) (tn (S 2 0)) (kGoN (S 4) (tn (S 2 0)) (tn (S 5 0)) (S 9) (S 10) (S 11) (tn (S 8 0)) (-4) (N, -4, nI 0) (60 - tn (N 25))).1 y9) x mm (tn (S 5 0)) ((tn (S 5 0)) + 1)).1 (xrI (S 6) (fun y9 => kW (S 3) (S 4) (tn (S 2 0)) (kGoN (S 4) (tn (S 2 0)) (tn (S 5 0)) (S 9) (S 10) (S 11) (tn (S 8 0)) (-4) (N, -4, nI 0) (60 - tn (N 25))).1 y9) x mm (tn (S 5 0)) ((tn (S 5 0)) + 1)).2 (fd 0), wk q fd u])) 0 0 := by
  refine x_enter (cc := cX8_round) (maxL := 4) (ret := (some .int)) (by decide) rfl (Nat.le_of_ble_eq_true rfl) ?_
  intro p e s m below meth c A ls H locs hfix hr hlocks hinit hM hl
  obtain ⟨hx, hb, hml, hown, hts⟩ := id hfix
  have hl : lv_has ls 4 [(0, .ref (ad 0)), (1, .int (nI x)), (2, .int (nI mm)), (3, .int (nI what))] := hl
  have hTb0 := okT_0b hT
  have hTb1 := okT_1b hT
  have hTb2 := okT_2b hT
  have hTb3 := okT_3b hT
  have hTb4 := okT_4b hT
  have hK25 := hK.1.2
  have hK26 := hK.2.1.2
  refine lv_iload_n hx hb dX8_round_0 rfl (lv_at hl 1 rfl) ?_
  refine lv_iconst (v := nI 0) hx hb dX8_round_1 (by decide) ?_
  refine lv_bipush (v := nI 60) hx hb dX8_round_2 (by decide) ?_
  refine x_calli (bc := []) (br := [w8 q ad ω0 (sd 0) ω2 (md 0) ω4 (nd 0) ω6 ω7 (hd 0) ω9, wst q sd X, wk q nd N, w3 q md μ0 μ1 μ2, w0 q hd τ0 τ1 τ2 τ3 (fd 0), wk q fd F]) hM [] [0, 1, 2, 3, 4, 5] rfl rfl rfl (by decide) (x_runS (As := [.int (nI x), .int (nI 0), .int (nI 60)]) (rest := []) hfix (c_X8_within l D q (nI x) (nI 0) (nI 60) ((x : Nat) : Int) (0 : Int) (60 : Int) (nI_toInt (n := x) (by omega)) (nI_toInt (n := 0) (by decide)) (nI_toInt (n := 60) (by decide))) (va_cwS 3 hts gX8_round_X8_within rfl rfl rfl (by decide +kernel) ⟨Nat.le_of_ble_eq_true rfl, Nat.le_of_ble_eq_true rfl⟩) hM [] rfl rfl rfl hl.1 rfl (Nat.le_of_ble_eq_true rfl) dX8_round_4 ⟨Nat.le_of_ble_eq_true rfl, Nat.le_of_ble_eq_true rfl⟩) (fun r u H locs hq hM => ?_)
  subst hq
  have hM : xM D (TY q) [w8 q ad ω0 (sd 0) ω2 (md 0) ω4 (nd 0) ω6 ω7 (hd 0) ω9, wst q sd X, wk q nd N, w3 q md μ0 μ1 μ2, w0 q hd τ0 τ1 τ2 τ3 (fd 0), wk q fd F] A s.heap s H locs := hM
  refine x_ifz_eq (P := (0 : Int) ≤ ((x : Nat) : Int) ∧ ((x : Nat) : Int) ≤ (60 : Int)) (tgt := 29) hx hb dX8_round_7 (by decide) (fun c1 => ?_) (fun c1 => ?_)
  · exfalso; omega
  · refine lv_iload_n hx hb dX8_round_10 rfl (lv_at hl 2 rfl) ?_
    refine lv_iconst (v := nI 0) hx hb dX8_round_11 (by decide) ?_
    refine lv_bipush (v := nI 99) hx hb dX8_round_12 (by decide) ?_
    refine x_calli (bc := []) (br := [w8 q ad ω0 (sd 0) ω2 (md 0) ω4 (nd 0) ω6 ω7 (hd 0) ω9, wst q sd X, wk q nd N, w3 q md μ0 μ1 μ2, w0 q hd τ0 τ1 τ2 τ3 (fd 0), wk q fd F]) hM [] [0, 1, 2, 3, 4, 5] rfl rfl rfl (by decide) (x_runS (As := [.int (nI mm), .int (nI 0), .int (nI 99)]) (rest := []) hfix (c_X8_within l D q (nI mm) (nI 0) (nI 99) ((mm : Nat) : Int) (0 : Int) (99 : Int) (nI_toInt (n := mm) (by omega)) (nI_toInt (n := 0) (by decide)) (nI_toInt (n := 99) (by decide))) (va_cwS 3 hts gX8_round_X8_within rfl rfl rfl (by decide +kernel) ⟨Nat.le_of_ble_eq_true rfl, Nat.le_of_ble_eq_true rfl⟩) hM [] rfl rfl rfl hl.1 rfl (Nat.le_of_ble_eq_true rfl) dX8_round_14 ⟨Nat.le_of_ble_eq_true rfl, Nat.le_of_ble_eq_true rfl⟩) (fun r u H locs hq hM => ?_)
    subst hq
    have hM : xM D (TY q) [w8 q ad ω0 (sd 0) ω2 (md 0) ω4 (nd 0) ω6 ω7 (hd 0) ω9, wst q sd X, wk q nd N, w3 q md μ0 μ1 μ2, w0 q hd τ0 τ1 τ2 τ3 (fd 0), wk q fd F] A s.heap s H locs := hM
    refine x_ifz_eq (P := (0 : Int) ≤ ((mm : Nat) : Int) ∧ ((mm : Nat) : Int) ≤ (99 : Int)) (tgt := 29) hx hb dX8_round_17 (by decide) (fun c2 => ?_) (fun c2 => ?_)
    · exfalso; omega
    · refine lv_iload_n hx hb dX8_round_20 rfl (lv_at hl 3 rfl) ?_
      refine lv_iconst (v := nI 0) hx hb dX8_round_21 (by decide) ?_
      refine lv_iconst (v := nI 1) hx hb dX8_round_22 (by decide) ?_
      refine x_calli (bc := []) (br := [w8 q ad ω0 (sd 0) ω2 (md 0) ω4 (nd 0) ω6 ω7 (hd 0) ω9, wst q sd X, wk q nd N, w3 q md μ0 μ1 μ2, w0 q hd τ0 τ1 τ2 τ3 (fd 0), wk q fd F]) hM [] [0, 1, 2, 3, 4, 5] rfl rfl rfl (by decide) (x_runS (As := [.int (nI what), .int (nI 0), .int (nI 1)]) (rest := []) hfix (c_X8_within l D q (nI what) (nI 0) (nI 1) ((what : Nat) : Int) (0 : Int) (1 : Int) (nI_toInt (n := what) (by omega)) (nI_toInt (n := 0) (by decide)) (nI_toInt (n := 1) (by decide))) (va_cwS 3 hts gX8_round_X8_within rfl rfl rfl (by decide +kernel) ⟨Nat.le_of_ble_eq_true rfl, Nat.le_of_ble_eq_true rfl⟩) hM [] rfl rfl rfl hl.1 rfl (Nat.le_of_ble_eq_true rfl) dX8_round_23 ⟨Nat.le_of_ble_eq_true rfl, Nat.le_of_ble_eq_true rfl⟩) (fun r u H locs hq hM => ?_)
      subst hq
      have hM : xM D (TY q) [w8 q ad ω0 (sd 0) ω2 (md 0) ω4 (nd 0) ω6 ω7 (hd 0) ω9, wst q sd X, wk q nd N, w3 q md μ0 μ1 μ2, w0 q hd τ0 τ1 τ2 τ3 (fd 0), wk q fd F] A s.heap s H locs := hM
      refine x_ifz_ne (P := (0 : Int) ≤ ((what : Nat) : Int) ∧ ((what : Nat) : Int) ≤ (1 : Int)) (tgt := 31) hx hb dX8_round_26 (by decide) (fun c3 => ?_) (fun c3 => ?_)
      · refine lv_aload_n hx hb dX8_round_31 rfl (lv_at hl 0 rfl) ?_
        refine x_get hx hb hts iwX8_round_X8 hown hM 0 0 rfl rfl rfl 8 (by decide) (hts _ lkX8_round_58) (fun _ h => h) rfl dX8_round_32 ?_
        refine lv_aload_n hx hb dX8_round_35 rfl (lv_at hl 0 rfl) ?_
        refine x_get hx hb hts iwX8_round_X8 hown hM 0 0 rfl rfl rfl 1 (by decide) (hts _ lkX8_round_19) (fun _ h => h) rfl dX8_round_36 ?_
        refine lv_aload_n hx hb dX8_round_39 rfl (lv_at hl 0 rfl) ?_
        refine x_get hx hb hts iwX8_round_X8 hown hM 0 0 rfl rfl rfl 5 (by decide) (hts _ lkX8_round_39) (fun _ h => h) rfl dX8_round_40 ?_
        refine lv_aload_n hx hb dX8_round_43 rfl (lv_at hl 0 rfl) ?_
        refine x_get hx hb hts iwX8_round_X8 hown hM 0 0 rfl rfl rfl 3 (by decide) (hts _ lkX8_round_29) (fun _ h => h) rfl dX8_round_44 ?_
        refine x_callr (bc := [w0 q hd τ0 τ1 τ2 τ3 (fd 0), wst q sd X, wk q nd N, w3 q md μ0 μ1 μ2, wk q fd F]) (br := [w8 q ad ω0 (sd 0) ω2 (md 0) ω4 (nd 0) ω6 ω7 (hd 0) ω9]) hM [4, 1, 2, 3, 5] [0] rfl rfl rfl (by decide) (x_runV (As := [.ref (sd 0), .ref (nd 0), .ref (md 0)]) (rest := []) hfix (c_X0_look l D q hd τ0 τ1 τ2 τ3 (fd 0) sd X nd N md μ0 μ1 μ2 fd F S (-4) hT hMl hK) (cwV 3 hts gX8_round_X0_look rfl rfl rfl (by decide +kernel) ⟨Nat.le_of_ble_eq_true rfl, Nat.le_of_ble_eq_true rfl⟩) hM [4, 1, 2, 3, 5] rfl rfl 4 0 rfl rfl rfl rfl rfl hl.1 rfl (Nat.le_of_ble_eq_true rfl) dX8_round_47 ⟨Nat.le_of_ble_eq_true rfl, Nat.le_of_ble_eq_true rfl⟩) (fun u H locs hq hM => ?_)
        have hM : xM D (TY q) [w8 q ad ω0 (sd 0) ω2 (md 0) ω4 (nd 0) ω6 ω7 (hd 0) ω9, w0 q hd τ0 τ1 τ2 τ3 (fd 0), wst q sd X, wk q nd N, w3 q md μ0 μ1 μ2, wk q fd (kGoN (S 4) (tn (S 2 0)) (tn (S 5 0)) (S 9) (S 10) (S 11) (tn (S 8 0)) (-4) (N, -4, nI 0) (60 - tn (N 25))).1] A s.heap s H locs := hM
        have hM : xM D (TY q) [w8 q ad ω0 (sd 0) ω2 (md 0) ω4 (nd 0) ω6 ω7 (hd 0) ω9, wst q sd X, wk q nd N, w3 q md μ0 μ1 μ2, w0 q hd τ0 τ1 τ2 τ3 (fd 0), wk q fd (kGoN (S 4) (tn (S 2 0)) (tn (S 5 0)) (S 9) (S 10) (S 11) (tn (S 8 0)) (-4) (N, -4, nI 0) (60 - tn (N 25))).1] A s.heap s H locs := hM.sel [0, 2, 3, 4, 1, 5] rfl rfl
        refine lv_pop hx hb dX8_round_50 rfl ?_
        refine lv_aload_n hx hb dX8_round_51 rfl (lv_at hl 0 rfl) ?_
        refine x_get hx hb hts iwX8_round_X8 hown hM 0 0 rfl rfl rfl 8 (by decide) (hts _ lkX8_round_58) (fun _ h => h) rfl dX8_round_52 ?_
        refine lv_aload_n hx hb dX8_round_55 rfl (lv_at hl 0 rfl) ?_
        refine x_get hx hb hts iwX8_round_X8 hown hM 0 0 rfl rfl rfl 1 (by decide) (hts _ lkX8_round_19) (fun _ h => h) rfl dX8_round_56 ?_
        refine lv_iload_n hx hb dX8_round_59 rfl (lv_at hl 1 rfl) ?_
        refine lv_iload_n hx hb dX8_round_60 rfl (lv_at hl 2 rfl) ?_
        refine x_callv (bc := [w0 q hd τ0 τ1 τ2 τ3 (fd 0), wst q sd X, wk q fd (kGoN (S 4) (tn (S 2 0)) (tn (S 5 0)) (S 9) (S 10) (S 11) (tn (S 8 0)) (-4) (N, -4, nI 0) (60 - tn (N 25))).1]) (br := [w8 q ad ω0 (sd 0) ω2 (md 0) ω4 (nd 0) ω6 ω7 (hd 0) ω9, wk q nd N, w3 q md μ0 μ1 μ2]) hM [4, 1, 5] [0, 2, 3] rfl rfl rfl (by decide) (x_runV (As := [.ref (sd 0), .int (nI x), .int (nI mm)]) (rest := []) hfix (c_X0_seekRound l D q hd τ0 τ1 τ2 τ3 (fd 0) sd X fd (kGoN (S 4) (tn (S 2 0)) (tn (S 5 0)) (S 9) (S 10) (S 11) (tn (S 8 0)) (-4) (N, -4, nI 0) (60 - tn (N 25))).1 S x mm hT (by omega) hmm9) (cwV 3 hts gX8_round_X0_seekRound rfl rfl rfl (by decide +kernel) ⟨Nat.le_of_ble_eq_true rfl, Nat.le_of_ble_eq_true rfl⟩) hM [4, 1, 5] rfl rfl 4 0 rfl rfl rfl rfl rfl hl.1 rfl (Nat.le_of_ble_eq_true rfl) dX8_round_61 ⟨Nat.le_of_ble_eq_true rfl, Nat.le_of_ble_eq_true rfl⟩) (fun u H locs hq hM => ?_)
        have hM : xM D (TY q) [w8 q ad ω0 (sd 0) ω2 (md 0) ω4 (nd 0) ω6 ω7 (hd 0) ω9, wk q nd N, w3 q md μ0 μ1 μ2, w0 q hd τ0 τ1 (xrI (S 6) (fun y9 => kW (S 3) (S 4) (tn (S 2 0)) (kGoN (S 4) (tn (S 2 0)) (tn (S 5 0)) (S 9) (S 10) (S 11) (tn (S 8 0)) (-4) (N, -4, nI 0) (60 - tn (N 25))).1 y9) x mm (tn (S 5 0)) ((tn (S 5 0)) + 1)).1 (xrI (S 6) (fun y9 => kW (S 3) (S 4) (tn (S 2 0)) (kGoN (S 4) (tn (S 2 0)) (tn (S 5 0)) (S 9) (S 10) (S 11) (tn (S 8 0)) (-4) (N, -4, nI 0) (60 - tn (N 25))).1 y9) x mm (tn (S 5 0)) ((tn (S 5 0)) + 1)).2 (fd 0), wst q sd X, wk q fd (kGoN (S 4) (tn (S 2 0)) (tn (S 5 0)) (S 9) (S 10) (S 11) (tn (S 8 0)) (-4) (N, -4, nI 0) (60 - tn (N 25))).1] A s.heap s H locs := hM
        have hM : xM D (TY q) [w8 q ad ω0 (sd 0) ω2 (md 0) ω4 (nd 0) ω6 ω7 (hd 0) ω9, wst q sd X, wk q nd N, w3 q md μ0 μ1 μ2, w0 q hd τ0 τ1 (xrI (S 6) (fun y9 => kW (S 3) (S 4) (tn (S 2 0)) (kGoN (S 4) (tn (S 2 0)) (tn (S 5 0)) (S 9) (S 10) (S 11) (tn (S 8 0)) (-4) (N, -4, nI 0) (60 - tn (N 25))).1 y9) x mm (tn (S 5 0)) ((tn (S 5 0)) + 1)).1 (xrI (S 6) (fun y9 => kW (S 3) (S 4) (tn (S 2 0)) (kGoN (S 4) (tn (S 2 0)) (tn (S 5 0)) (S 9) (S 10) (S 11) (tn (S 8 0)) (-4) (N, -4, nI 0) (60 - tn (N 25))).1 y9) x mm (tn (S 5 0)) ((tn (S 5 0)) + 1)).2 (fd 0), wk q fd (kGoN (S 4) (tn (S 2 0)) (tn (S 5 0)) (S 9) (S 10) (S 11) (tn (S 8 0)) (-4) (N, -4, nI 0) (60 - tn (N 25))).1] A s.heap s H locs := hM.sel [0, 4, 1, 2, 3, 5] rfl rfl
        refine lv_iload_n hx hb dX8_round_64 rfl (lv_at hl 3 rfl) ?_
        refine x_if_ne (x := what) (tgt := 78) hx hb (by omega) dX8_round_65 (by decide) (fun c4 => ?_) (fun c4 => ?_)
        · refine lv_aload_n hx hb dX8_round_78 rfl (lv_at hl 0 rfl) ?_
          refine x_get hx hb hts iwX8_round_X8 hown hM 0 0 rfl rfl rfl 8 (by decide) (hts _ lkX8_round_58) (fun _ h => h) rfl dX8_round_79 ?_
          refine x_get hx hb hts iwX8_round_X0 hown hM 4 0 rfl rfl rfl 3 (by decide) (hts _ lkX8_round_203) (fun _ h => h) rfl dX8_round_82 ?_
          exact x_iret hx hb hr hlocks (kGoN (S 4) (tn (S 2 0)) (tn (S 5 0)) (S 9) (S 10) (S 11) (tn (S 8 0)) (-4) (N, -4, nI 0) (60 - tn (N 25))).1 hM (show (xrI (S 6) (fun y9 => kW (S 3) (S 4) (tn (S 2 0)) (kGoN (S 4) (tn (S 2 0)) (tn (S 5 0)) (S 9) (S 10) (S 11) (tn (S 8 0)) (-4) (N, -4, nI 0) (60 - tn (N 25))).1 y9) x mm (tn (S 5 0)) ((tn (S 5 0)) + 1)).2 = if what = 0 then (xrI (S 6) (fun y9 => kW (S 3) (S 4) (tn (S 2 0)) (kGoN (S 4) (tn (S 2 0)) (tn (S 5 0)) (S 9) (S 10) (S 11) (tn (S 8 0)) (-4) (N, -4, nI 0) (60 - tn (N 25))).1 y9) x mm (tn (S 5 0)) ((tn (S 5 0)) + 1)).1 else (xrI (S 6) (fun y9 => kW (S 3) (S 4) (tn (S 2 0)) (kGoN (S 4) (tn (S 2 0)) (tn (S 5 0)) (S 9) (S 10) (S 11) (tn (S 8 0)) (-4) (N, -4, nI 0) (60 - tn (N 25))).1 y9) x mm (tn (S 5 0)) ((tn (S 5 0)) + 1)).2 from by (first | exact (if_pos (by omega)).symm | exact (if_neg (by omega)).symm)) dX8_round_85
        · refine lv_aload_n hx hb dX8_round_68 rfl (lv_at hl 0 rfl) ?_
          refine x_get hx hb hts iwX8_round_X8 hown hM 0 0 rfl rfl rfl 8 (by decide) (hts _ lkX8_round_58) (fun _ h => h) rfl dX8_round_69 ?_
          refine x_get hx hb hts iwX8_round_X0 hown hM 4 0 rfl rfl rfl 2 (by decide) (hts _ lkX8_round_200) (fun _ h => h) rfl dX8_round_72 ?_
          refine lv_goto (tgt := 85) hx hb dX8_round_75 (by decide) ?_
          exact x_iret hx hb hr hlocks (kGoN (S 4) (tn (S 2 0)) (tn (S 5 0)) (S 9) (S 10) (S 11) (tn (S 8 0)) (-4) (N, -4, nI 0) (60 - tn (N 25))).1 hM (show (xrI (S 6) (fun y9 => kW (S 3) (S 4) (tn (S 2 0)) (kGoN (S 4) (tn (S 2 0)) (tn (S 5 0)) (S 9) (S 10) (S 11) (tn (S 8 0)) (-4) (N, -4, nI 0) (60 - tn (N 25))).1 y9) x mm (tn (S 5 0)) ((tn (S 5 0)) + 1)).1 = if what = 0 then (xrI (S 6) (fun y9 => kW (S 3) (S 4) (tn (S 2 0)) (kGoN (S 4) (tn (S 2 0)) (tn (S 5 0)) (S 9) (S 10) (S 11) (tn (S 8 0)) (-4) (N, -4, nI 0) (60 - tn (N 25))).1 y9) x mm (tn (S 5 0)) ((tn (S 5 0)) + 1)).1 else (xrI (S 6) (fun y9 => kW (S 3) (S 4) (tn (S 2 0)) (kGoN (S 4) (tn (S 2 0)) (tn (S 5 0)) (S 9) (S 10) (S 11) (tn (S 8 0)) (-4) (N, -4, nI 0) (60 - tn (N 25))).1 y9) x mm (tn (S 5 0)) ((tn (S 5 0)) + 1)).2 from by (first | exact (if_pos (by omega)).symm | exact (if_neg (by omega)).symm)) dX8_round_85
      · exfalso; omega
