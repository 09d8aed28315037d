set_option maxRecDepth 20000 in
theorem ggX8_soup_X7_isRecipe : GoodIn wsX8_soup wsX7_isRecipe := goodIn_r _ [11, 12, 13, 14, 15, 202, 203, 204, 205, 206, 207, 208, 209, 210, 211, 212, 213, 214, 215, 216, 217] (by decide +kernel) (by decide +kernel)
set_option maxRecDepth 20000 in
theorem gX8_soup_X7_isRecipe : GoodIn wsX8_soup (wsV RX8 239 RX7 yX7_isRecipe wsX7_isRecipe) := goodIn_app (goodIn_of _ (by decide +kernel)) ggX8_soup_X7_isRecipe
set_option maxRecDepth 20000 in
theorem ggX8_soup_X0_look : GoodIn wsX8_soup wsX0_look := goodIn_r _ [20, 21, 22, 23, 24, 25, 26, 27, 28, 29, 30, 31, 32, 33, 34, 35, 36, 37, 38, 39, 40, 41, 42, 43, 44, 45, 46, 47, 48, 49, 50, 51, 52, 53, 54, 55, 56, 57, 58, 59, 60, 61, 62, 63, 64, 65, 66, 67, 68, 69, 10, 70, 71, 72, 73, 74, 75, 76, 77, 78, 79, 80, 81, 82, 83, 84, 85, 86, 87, 88, 89, 90, 91, 92, 93, 94, 95, 96, 97, 98, 99, 100, 101, 102, 103, 104, 105, 106, 107, 108, 109, 110, 111, 112, 113, 114, 115, 116, 117, 218, 219, 220, 221, 222, 223, 224, 225, 226, 227, 228, 202, 203, 204, 205, 206, 207, 208, 209, 210, 211, 212, 213, 214, 215, 216, 217, 229, 230, 231] (by decide +kernel) (by decide +kernel)
set_option maxRecDepth 20000 in
theorem gX8_soup_X0_look : GoodIn wsX8_soup (wsV RX8 117 RX0 yX0_look wsX0_look) := goodIn_app (goodIn_of _ (by decide +kernel)) ggX8_soup_X0_look
set_option maxRecDepth 20000 in
theorem ggX8_soup_X6_cook : GoodIn wsX8_soup wsX6_cook := goodIn_r _ [122, 123, 124, 125, 126, 121, 127, 128, 129, 130, 131, 132, 35, 133, 134, 135, 136, 25, 137, 93, 94, 95, 96, 29, 68, 69, 10, 70, 61, 62, 63, 138, 139, 140, 141, 91, 92, 142, 72, 73, 143, 144, 145, 146, 147, 38, 39, 40, 148, 8, 9, 11, 12, 13, 14, 15, 149, 150, 151, 152, 153, 154, 155, 156, 157, 158, 159, 160, 161, 162, 163, 164, 165, 166, 167, 168, 169, 170, 171, 172, 173, 174, 175, 176, 177, 178, 179, 180, 181, 79, 80, 196, 197, 198, 199, 200, 201, 202, 203, 204, 205, 206, 207, 208, 209, 210, 211, 212, 213, 214, 215, 216, 217, 223, 224, 225, 226, 227, 228] (by decide +kernel) (by decide +kernel)
set_option maxRecDepth 20000 in
theorem gX8_soup_X6_cook : GoodIn wsX8_soup (wsV RX8 242 RX6 yX6_cook wsX6_cook) := goodIn_app (goodIn_of _ (by decide +kernel)) ggX8_soup_X6_cook
set_option maxRecDepth 20000 in
theorem ggX8_soup_X6_timesMade : GoodIn wsX8_soup wsX6_timesMade := goodIn_r _ [185, 180, 154, 62, 35, 63, 196, 197, 198, 199, 200, 201] (by decide +kernel) (by decide +kernel)
set_option maxRecDepth 20000 in
theorem gX8_soup_X6_timesMade : GoodIn wsX8_soup (wsV RX8 249 RX6 yX6_timesMade wsX6_timesMade) := goodIn_app (goodIn_of _ (by decide +kernel)) ggX8_soup_X6_timesMade
theorem dX8_soup_0 : decode cX8_soup 0 = .ok (.iload_n 1, 1) := by decide +kernel
theorem dX8_soup_1 : decode cX8_soup 1 = .ok (.iconst (-1), 1) := by decide +kernel
theorem dX8_soup_2 : decode cX8_soup 2 = .ok (.if_icmp .eq 16, 3) := by decide +kernel
theorem dX8_soup_5 : decode cX8_soup 5 = .ok (.aload_n 0, 1) := by decide +kernel
theorem dX8_soup_6 : decode cX8_soup 6 = .ok (.getfield 19, 3) := by decide +kernel
theorem dX8_soup_9 : decode cX8_soup 9 = .ok (.iload_n 1, 1) := by decide +kernel
theorem dX8_soup_10 : decode cX8_soup 10 = .ok (.invokevirtual 239, 3) := by decide +kernel
theorem dX8_soup_13 : decode cX8_soup 13 = .ok (.ifCond .ne 5, 3) := by decide +kernel
theorem dX8_soup_16 : decode cX8_soup 16 = .ok (.iconst (-1), 1) := by decide +kernel
theorem dX8_soup_17 : decode cX8_soup 17 = .ok (.ireturn, 1) := by decide +kernel
theorem dX8_soup_18 : decode cX8_soup 18 = .ok (.aload_n 0, 1) := by decide +kernel
theorem dX8_soup_19 : decode cX8_soup 19 = .ok (.getfield 65, 3) := by decide +kernel
theorem dX8_soup_22 : decode cX8_soup 22 = .ok (.aload_n 0, 1) := by decide +kernel
theorem dX8_soup_23 : decode cX8_soup 23 = .ok (.getfield 19, 3) := by decide +kernel
theorem dX8_soup_26 : decode cX8_soup 26 = .ok (.aload_n 0, 1) := by decide +kernel
theorem dX8_soup_27 : decode cX8_soup 27 = .ok (.getfield 58, 3) := by decide +kernel
theorem dX8_soup_30 : decode cX8_soup 30 = .ok (.aload_n 0, 1) := by decide +kernel
theorem dX8_soup_31 : decode cX8_soup 31 = .ok (.getfield 19, 3) := by decide +kernel
theorem dX8_soup_34 : decode cX8_soup 34 = .ok (.aload_n 0, 1) := by decide +kernel
theorem dX8_soup_35 : decode cX8_soup 35 = .ok (.getfield 39, 3) := by decide +kernel
theorem dX8_soup_38 : decode cX8_soup 38 = .ok (.aload_n 0, 1) := by decide +kernel
theorem dX8_soup_39 : decode cX8_soup 39 = .ok (.getfield 29, 3) := by decide +kernel
theorem dX8_soup_42 : decode cX8_soup 42 = .ok (.invokevirtual 117, 3) := by decide +kernel
theorem dX8_soup_45 : decode cX8_soup 45 = .ok (.invokevirtual 242, 3) := by decide +kernel
theorem dX8_soup_48 : decode cX8_soup 48 = .ok (.iload_n 1, 1) := by decide +kernel
theorem dX8_soup_49 : decode cX8_soup 49 = .ok (.iconst (-1), 1) := by decide +kernel
theorem dX8_soup_50 : decode cX8_soup 50 = .ok (.if_icmp .ne 13, 3) := by decide +kernel
theorem dX8_soup_53 : decode cX8_soup 53 = .ok (.aload_n 0, 1) := by decide +kernel
theorem dX8_soup_54 : decode cX8_soup 54 = .ok (.getfield 65, 3) := by decide +kernel
theorem dX8_soup_57 : decode cX8_soup 57 = .ok (.getfield 246, 3) := by decide +kernel
theorem dX8_soup_60 : decode cX8_soup 60 = .ok (.goto 11, 3) := by decide +kernel
theorem dX8_soup_63 : decode cX8_soup 63 = .ok (.aload_n 0, 1) := by decide +kernel
theorem dX8_soup_64 : decode cX8_soup 64 = .ok (.getfield 65, 3) := by decide +kernel
theorem dX8_soup_67 : decode cX8_soup 67 = .ok (.iload_n 1, 1) := by decide +kernel
theorem dX8_soup_68 : decode cX8_soup 68 = .ok (.invokevirtual 249, 3) := by decide +kernel
theorem dX8_soup_71 : decode cX8_soup 71 = .ok (.ireturn, 1) := by decide +kernel
theorem lkX8_soup_19 : Cond.fieldLink RX8 19 "LeftAtFive" "street" "LLeftAtFive$Street;" ∈ wsX8_soup := by decide +kernel
theorem lkX8_soup_29 : Cond.fieldLink RX8 29 "LeftAtFive" "meals" "LLeftAtFive$Meals;" ∈ wsX8_soup := by decide +kernel
theorem lkX8_soup_39 : Cond.fieldLink RX8 39 "LeftAtFive" "now" "LLeftAtFive$Kitchens;" ∈ wsX8_soup := by decide +kernel
theorem lkX8_soup_58 : Cond.fieldLink RX8 58 "LeftAtFive" "ahead" "LLeftAtFive$Ahead;" ∈ wsX8_soup := by decide +kernel
theorem lkX8_soup_65 : Cond.fieldLink RX8 65 "LeftAtFive" "shops" "LLeftAtFive$Shops;" ∈ wsX8_soup := by decide +kernel
theorem lkX8_soup_246 : Cond.fieldLink RX8 246 "LeftAtFive$Shops" "bestSoups" "I" ∈ wsX8_soup := by decide +kernel
theorem iwX8_soup_X6 : ∀ w ∈ wsX60, w ∈ wsX8_soup := by decide +kernel
theorem iwX8_soup_X8 : ∀ w ∈ wsX80, w ∈ wsX8_soup := by decide +kernel
set_option maxHeartbeats 2000000 in
set_option maxRecDepth 100000 in
theorem c_X8_soupA (l : Launch) (D : va_G) (q : Nat → ClassId) (ad : Nat → Nat) (ω0 : Nat) (ω1 : Nat) (ω2 : Nat) (ω3 : Nat) (ω4 : Nat) (ω5 : Nat) (ω6 : Nat) (ω7 : Nat) (ω8 : Nat) (ω9 : Nat) (sd : Nat → Nat) (X : Nat → Nat → Int32) (nd : Nat → Nat) (N : Nat → Int32) (md : Nat → Nat) (μ0 : Nat → Int32) (μ1 : Nat → Int32) (μ2 : Int32) (hd : Nat → Nat) (τ0 : Int32) (τ1 : Int32) (τ2 : Int32) (τ3 : Int32) (τ4 : Nat) (fd : Nat → Nat) (F : Nat → Int32) (gd : Nat → Nat) (γ0 : Int32) (γ1 : Int64) (γ2 : Int32) (γ3 : Nat → Int32) (γ4 : Nat → Int32) (γ5 : Nat → Int32) (S : Nat → Nat → Int32) (hT : okT X S) (hK : okK N) (hMl : okM μ0 μ1 (S 11) (tn (S 8 0)) (-4)) : xC l yX8_soup wsX8_soup ({ frames := 6, cells := 0, slots := 0, locals := 140 }) D (TY q) [w8 q ad ω0 (sd 0) ω2 (md 0) ω4 (nd 0) ω6 ω7 (hd 0) (gd 0), wst q sd X, wk q nd N, w3 q md μ0 μ1 μ2, w0 q hd τ0 τ1 τ2 τ3 (fd 0), wk q fd F, w6 q gd γ0 γ1 γ2 γ3 γ4 γ5] [.ref (ad 0), .int (-1)] (xQi D (TY q) (fun (r : Int32) (_ : (Nat → Int32)) => r = (xcO (tn (S 15 0)) (X 15) (xfill γ3 (xst (S 4) (kGoN (S 4) (tn (S 2 0)) (tn (S 5 0)) (S 9) (S 10) (S 11) (tn (S 8 0)) (-4) (N, -4, nI 0) (60 - tn (N 25))).1 (tn (S 5 0)) (tn (S 2 0))) 5) (fun y9 => tn (S 16 y9)) (fun y9 => tn (S 17 y9)) (if (tn (S 15 0)) ≤ 0 then nI 0 else xmo (xfill γ3 (xst (S 4) (kGoN (S 4) (tn (S 2 0)) (tn (S 5 0)) (S 9) (S 10) (S 11) (tn (S 8 0)) (-4) (N, -4, nI 0) (60 - tn (N 25))).1 (tn (S 5 0)) (tn (S 2 0))) 5) (tn (S 16 0)) (tn (S 17 0))) γ4 ((if (tn (S 15 0)) ≤ 0 then nI 0 else xmo (xfill γ3 (xst (S 4) (kGoN (S 4) (tn (S 2 0)) (tn (S 5 0)) (S 9) (S 10) (S 11) (tn (S 8 0)) (-4) (N, -4, nI 0) (60 - tn (N 25))).1 (tn (S 5 0)) (tn (S 2 0))) 5) (tn (S 16 0)) (tn (S 17 0))).toInt + 1).toNat).1) (fun (u : (Nat → Int32)) => [w8 q ad ω0 (sd 0) ω2 (md 0) ω4 (nd 0) ω6 ω7 (hd 0) (gd 0), wst q sd X, wk q nd N, w3 q md μ0 μ1 μ2, w0 q hd τ0 τ1 τ2 τ3 (fd 0), wk q fd u, w6 q gd γ0 γ1 (xcO (tn (S 15 0)) (X 15) (xfill γ3 (xst (S 4) (kGoN (S 4) (tn (S 2 0)) (tn (S 5 0)) (S 9) (S 10) (S 11) (tn (S 8 0)) (-4) (N, -4, nI 0) (60 - tn (N 25))).1 (tn (S 5 0)) (tn (S 2 0))) 5) (fun y9 => tn (S 16 y9)) (fun y9 => tn (S 17 y9)) (if (tn (S 15 0)) ≤ 0 then nI 0 else xmo (xfill γ3 (xst (S 4) (kGoN (S 4) (tn (S 2 0)) (tn (S 5 0)) (S 9) (S 10) (S 11) (tn (S 8 0)) (-4) (N, -4, nI 0) (60 - tn (N 25))).1 (tn (S 5 0)) (tn (S 2 0))) 5) (tn (S 16 0)) (tn (S 17 0))) γ4 ((if (tn (S 15 0)) ≤ 0 then nI 0 else xmo (xfill γ3 (xst (S 4) (kGoN (S 4) (tn (S 2 0)) (tn (S 5 0)) (S 9) (S 10) (S 11) (tn (S 8 0)) (-4) (N, -4, nI 0) (60 - tn (N 25))).1 (tn (S 5 0)) (tn (S 2 0))) 5) (tn (S 16 0)) (tn (S 17 0))).toInt + 1).toNat).1 (xfill γ3 (xst (S 4) (kGoN (S 4) (tn (S 2 0)) (tn (S 5 0)) (S 9) (S 10) (S 11) (tn (S 8 0)) (-4) (N, -4, nI 0) (60 - tn (N 25))).1 (tn (S 5 0)) (tn (S 2 0))) 5) (xcO (tn (S 15 0)) (X 15) (xfill γ3 (xst (S 4) (kGoN (S 4) (tn (S 2 0)) (tn (S 5 0)) (S 9) (S 10) (S 11) (tn (S 8 0)) (-4) (N, -4, nI 0) (60 - tn (N 25))).1 (tn (S 5 0)) (tn (S 2 0))) 5) (fun y9 => tn (S 16 y9)) (fun y9 => tn (S 17 y9)) (if (tn (S 15 0)) ≤ 0 then nI 0 else xmo (xfill γ3 (xst (S 4) (kGoN (S 4) (tn (S 2 0)) (tn (S 5 0)) (S 9) (S 10) (S 11) (tn (S 8 0)) (-4) (N, -4, nI 0) (60 - tn (N 25))).1 (tn (S 5 0)) (tn (S 2 0))) 5) (tn (S 16 0)) (tn (S 17 0))) γ4 ((if (tn (S 15 0)) ≤ 0 then nI 0 else xmo (xfill γ3 (xst (S 4) (kGoN (S 4) (tn (S 2 0)) (tn (S 5 0)) (S 9) (S 10) (S 11) (tn (S 8 0)) (-4) (N, -4, nI 0) (60 - tn (N 25))).1 (tn (S 5 0)) (tn (S 2 0))) 5) (tn (S 16 0)) (tn (S 17 0))).toInt + 1).toNat).2 γ5])) 0 0 := by
  refine x_enter (cc := cX8_soup) (maxL := 2) (ret := (some .int)) (by decide) rfl (Nat.le_of_ble_eq_true rfl) ?_
  intro p e s m below meth c A ls H locs hfix hr hlocks hinit hM hl
  obtain ⟨hx, hb, hml, hown, hts⟩ := id hfix
  have hl : lv_has ls 2 [(0, .ref (ad 0)), (1, .int (-1))] := hl
  have hTb0 := okT_0b hT
  have hTb1 := okT_1b hT
  have hTb2 := okT_2b hT
  have hTb3 := okT_3b hT
  have hTb4 := okT_4b hT
  have hK25 := hK.1.2
  have hK26 := hK.2.1.2
  refine lv_iload_n hx hb dX8_soup_0 rfl (lv_at hl 1 rfl) ?_
  refine lv_iconst (v := (-1)) hx hb dX8_soup_1 (by decide) ?_
  refine lv_icmp_eq (tgt := 18) hx hb dX8_soup_2 (by decide) (fun c1 => ?_) (fun c1 => ?_)
  · refine lv_aload_n hx hb dX8_soup_18 rfl (lv_at hl 0 rfl) ?_
    refine x_get hx hb hts iwX8_soup_X8 hown hM 0 0 rfl rfl rfl 9 (by decide) (hts _ lkX8_soup_65) (fun _ h => h) rfl dX8_soup_19 ?_
    refine lv_aload_n hx hb dX8_soup_22 rfl (lv_at hl 0 rfl) ?_
    refine x_get hx hb hts iwX8_soup_X8 hown hM 0 0 rfl rfl rfl 1 (by decide) (hts _ lkX8_soup_19) (fun _ h => h) rfl dX8_soup_23 ?_
    refine lv_aload_n hx hb dX8_soup_26 rfl (lv_at hl 0 rfl) ?_
    refine x_get hx hb hts iwX8_soup_X8 hown hM 0 0 rfl rfl rfl 8 (by decide) (hts _ lkX8_soup_58) (fun _ h => h) rfl dX8_soup_27 ?_
    refine lv_aload_n hx hb dX8_soup_30 rfl (lv_at hl 0 rfl) ?_
    refine x_get hx hb hts iwX8_soup_X8 hown hM 0 0 rfl rfl rfl 1 (by decide) (hts _ lkX8_soup_19) (fun _ h => h) rfl dX8_soup_31 ?_
    refine lv_aload_n hx hb dX8_soup_34 rfl (lv_at hl 0 rfl) ?_
    refine x_get hx hb hts iwX8_soup_X8 hown hM 0 0 rfl rfl rfl 5 (by decide) (hts _ lkX8_soup_39) (fun _ h => h) rfl dX8_soup_35 ?_
    refine lv_aload_n hx hb dX8_soup_38 rfl (lv_at hl 0 rfl) ?_
    refine x_get hx hb hts iwX8_soup_X8 hown hM 0 0 rfl rfl rfl 3 (by decide) (hts _ lkX8_soup_29) (fun _ h => h) rfl dX8_soup_39 ?_
    refine x_callr (bc := [w0 q hd τ0 τ1 τ2 τ3 (fd 0), wst q sd X, wk q nd N, w3 q md μ0 μ1 μ2, wk q fd F]) (br := [w8 q ad ω0 (sd 0) ω2 (md 0) ω4 (nd 0) ω6 ω7 (hd 0) (gd 0), w6 q gd γ0 γ1 γ2 γ3 γ4 γ5]) hM [4, 1, 2, 3, 5] [0, 6] rfl rfl rfl (by decide) (x_runV (As := [.ref (sd 0), .ref (nd 0), .ref (md 0)]) (rest := [.ref (sd 0), .ref (gd 0)]) hfix (c_X0_look l D q hd τ0 τ1 τ2 τ3 (fd 0) sd X nd N md μ0 μ1 μ2 fd F S (-4) hT hMl hK) (cwV 3 hts gX8_soup_X0_look rfl rfl rfl (by decide +kernel) ⟨Nat.le_of_ble_eq_true rfl, Nat.le_of_ble_eq_true rfl⟩) hM [4, 1, 2, 3, 5] rfl rfl 4 0 rfl rfl rfl rfl rfl hl.1 rfl (Nat.le_of_ble_eq_true rfl) dX8_soup_42 ⟨Nat.le_of_ble_eq_true rfl, Nat.le_of_ble_eq_true rfl⟩) (fun u H locs hq hM => ?_)
    have hM : xM D (TY q) [w8 q ad ω0 (sd 0) ω2 (md 0) ω4 (nd 0) ω6 ω7 (hd 0) (gd 0), w6 q gd γ0 γ1 γ2 γ3 γ4 γ5, w0 q hd τ0 τ1 τ2 τ3 (fd 0), wst q sd X, wk q nd N, w3 q md μ0 μ1 μ2, wk q fd (kGoN (S 4) (tn (S 2 0)) (tn (S 5 0)) (S 9) (S 10) (S 11) (tn (S 8 0)) (-4) (N, -4, nI 0) (60 - tn (N 25))).1] A s.heap s H locs := hM
    have hM : xM D (TY q) [w8 q ad ω0 (sd 0) ω2 (md 0) ω4 (nd 0) ω6 ω7 (hd 0) (gd 0), wst q sd X, wk q nd N, w3 q md μ0 μ1 μ2, w0 q hd τ0 τ1 τ2 τ3 (fd 0), wk q fd (kGoN (S 4) (tn (S 2 0)) (tn (S 5 0)) (S 9) (S 10) (S 11) (tn (S 8 0)) (-4) (N, -4, nI 0) (60 - tn (N 25))).1, w6 q gd γ0 γ1 γ2 γ3 γ4 γ5] A s.heap s H locs := hM.sel [0, 3, 4, 5, 2, 6, 1] rfl rfl
    refine x_callv (bc := [w6 q gd γ0 γ1 γ2 γ3 γ4 γ5, wst q sd X, wk q fd (kGoN (S 4) (tn (S 2 0)) (tn (S 5 0)) (S 9) (S 10) (S 11) (tn (S 8 0)) (-4) (N, -4, nI 0) (60 - tn (N 25))).1]) (br := [w8 q ad ω0 (sd 0) ω2 (md 0) ω4 (nd 0) ω6 ω7 (hd 0) (gd 0), wk q nd N, w3 q md μ0 μ1 μ2, w0 q hd τ0 τ1 τ2 τ3 (fd 0)]) hM [6, 1, 5] [0, 2, 3, 4] rfl rfl rfl (by decide) (x_runV (As := [.ref (sd 0), .ref (fd 0)]) (rest := []) hfix (c_X6_cook l D q gd γ0 γ1 γ2 γ3 γ4 γ5 sd X fd (kGoN (S 4) (tn (S 2 0)) (tn (S 5 0)) (S 9) (S 10) (S 11) (tn (S 8 0)) (-4) (N, -4, nI 0) (60 - tn (N 25))).1 S hT) (cwV 2 hts gX8_soup_X6_cook rfl rfl rfl (by decide +kernel) ⟨Nat.le_of_ble_eq_true rfl, Nat.le_of_ble_eq_true rfl⟩) hM [6, 1, 5] rfl rfl 6 0 rfl rfl rfl rfl rfl hl.1 rfl (Nat.le_of_ble_eq_true rfl) dX8_soup_45 ⟨Nat.le_of_ble_eq_true rfl, Nat.le_of_ble_eq_true rfl⟩) (fun u H locs hq hM => ?_)
    have hM : xM D (TY q) [w8 q ad ω0 (sd 0) ω2 (md 0) ω4 (nd 0) ω6 ω7 (hd 0) (gd 0), wk q nd N, w3 q md μ0 μ1 μ2, w0 q hd τ0 τ1 τ2 τ3 (fd 0), w6 q gd γ0 γ1 (xcO (tn (S 15 0)) (X 15) (xfill γ3 (xst (S 4) (kGoN (S 4) (tn (S 2 0)) (tn (S 5 0)) (S 9) (S 10) (S 11) (tn (S 8 0)) (-4) (N, -4, nI 0) (60 - tn (N 25))).1 (tn (S 5 0)) (tn (S 2 0))) 5) (fun y9 => tn (S 16 y9)) (fun y9 => tn (S 17 y9)) (if (tn (S 15 0)) ≤ 0 then nI 0 else xmo (xfill γ3 (xst (S 4) (kGoN (S 4) (tn (S 2 0)) (tn (S 5 0)) (S 9) (S 10) (S 11) (tn (S 8 0)) (-4) (N, -4, nI 0) (60 - tn (N 25))).1 (tn (S 5 0)) (tn (S 2 0))) 5) (tn (S 16 0)) (tn (S 17 0))) γ4 ((if (tn (S 15 0)) ≤ 0 then nI 0 else xmo (xfill γ3 (xst (S 4) (kGoN (S 4) (tn (S 2 0)) (tn (S 5 0)) (S 9) (S 10) (S 11) (tn (S 8 0)) (-4) (N, -4, nI 0) (60 - tn (N 25))).1 (tn (S 5 0)) (tn (S 2 0))) 5) (tn (S 16 0)) (tn (S 17 0))).toInt + 1).toNat).1 (xfill γ3 (xst (S 4) (kGoN (S 4) (tn (S 2 0)) (tn (S 5 0)) (S 9) (S 10) (S 11) (tn (S 8 0)) (-4) (N, -4, nI 0) (60 - tn (N 25))).1 (tn (S 5 0)) (tn (S 2 0))) 5) (xcO (tn (S 15 0)) (X 15) (xfill γ3 (xst (S 4) (kGoN (S 4) (tn (S 2 0)) (tn (S 5 0)) (S 9) (S 10) (S 11) (tn (S 8 0)) (-4) (N, -4, nI 0) (60 - tn (N 25))).1 (tn (S 5 0)) (tn (S 2 0))) 5) (fun y9 => tn (S 16 y9)) (fun y9 => tn (S 17 y9)) (if (tn (S 15 0)) ≤ 0 then nI 0 else xmo (xfill γ3 (xst (S 4) (kGoN (S 4) (tn (S 2 0)) (tn (S 5 0)) (S 9) (S 10) (S 11) (tn (S 8 0)) (-4) (N, -4, nI 0) (60 - tn (N 25))).1 (tn (S 5 0)) (tn (S 2 0))) 5) (tn (S 16 0)) (tn (S 17 0))) γ4 ((if (tn (S 15 0)) ≤ 0 then nI 0 else xmo (xfill γ3 (xst (S 4) (kGoN (S 4) (tn (S 2 0)) (tn (S 5 0)) (S 9) (S 10) (S 11) (tn (S 8 0)) (-4) (N, -4, nI 0) (60 - tn (N 25))).1 (tn (S 5 0)) (tn (S 2 0))) 5) (tn (S 16 0)) (tn (S 17 0))).toInt + 1).toNat).2 γ5, wst q sd X, wk q fd (kGoN (S 4) (tn (S 2 0)) (tn (S 5 0)) (S 9) (S 10) (S 11) (tn (S 8 0)) (-4) (N, -4, nI 0) (60 - tn (N 25))).1] A s.heap s H locs := hM
    have hM : xM D (TY q) [w8 q ad ω0 (sd 0) ω2 (md 0) ω4 (nd 0) ω6 ω7 (hd 0) (gd 0), wst q sd X, wk q nd N, w3 q md μ0 μ1 μ2, w0 q hd τ0 τ1 τ2 τ3 (fd 0), wk q fd (kGoN (S 4) (tn (S 2 0)) (tn (S 5 0)) (S 9) (S 10) (S 11) (tn (S 8 0)) (-4) (N, -4, nI 0) (60 - tn (N 25))).1, w6 q gd γ0 γ1 (xcO (tn (S 15 0)) (X 15) (xfill γ3 (xst (S 4) (kGoN (S 4) (tn (S 2 0)) (tn (S 5 0)) (S 9) (S 10) (S 11) (tn (S 8 0)) (-4) (N, -4, nI 0) (60 - tn (N 25))).1 (tn (S 5 0)) (tn (S 2 0))) 5) (fun y9 => tn (S 16 y9)) (fun y9 => tn (S 17 y9)) (if (tn (S 15 0)) ≤ 0 then nI 0 else xmo (xfill γ3 (xst (S 4) (kGoN (S 4) (tn (S 2 0)) (tn (S 5 0)) (S 9) (S 10) (S 11) (tn (S 8 0)) (-4) (N, -4, nI 0) (60 - tn (N 25))).1 (tn (S 5 0)) (tn (S 2 0))) 5) (tn (S 16 0)) (tn (S 17 0))) γ4 ((if (tn (S 15 0)) ≤ 0 then nI 0 else xmo (xfill γ3 (xst (S 4) (kGoN (S 4) (tn (S 2 0)) (tn (S 5 0)) (S 9) (S 10) (S 11) (tn (S 8 0)) (-4) (N, -4, nI 0) (60 - tn (N 25))).1 (tn (S 5 0)) (tn (S 2 0))) 5) (tn (S 16 0)) (tn (S 17 0))).toInt + 1).toNat).1 (xfill γ3 (xst (S 4) (kGoN (S 4) (tn (S 2 0)) (tn (S 5 0)) (S 9) (S 10) (S 11) (tn (S 8 0)) (-4) (N, -4, nI 0) (60 - tn (N 25))).1 (tn (S 5 0)) (tn (S 2 0))) 5) (xcO (tn (S 15 0)) (X 15) (xfill γ3 (xst (S 4) (kGoN (S 4) (tn (S 2 0)) (tn (S 5 0)) (S 9) (S 10) (S 11) (tn (S 8 0)) (-4) (N, -4, nI 0) (60 - tn (N 25))).1 (tn (S 5 0)) (tn (S 2 0))) 5) (fun y9 => tn (S 16 y9)) (fun y9 => tn (S 17 y9)) (if (tn (S 15 0)) ≤ 0 then nI 0 else xmo (xfill γ3 (xst (S 4) (kGoN (S 4) (tn (S 2 0)) (tn (S 5 0)) (S 9) (S 10) (S 11) (tn (S 8 0)) (-4) (N, -4, nI 0) (60 - tn (N 25))).1 (tn (S 5 0)) (tn (S 2 0))) 5) (tn (S 16 0)) (tn (S 17 0))) γ4 ((if (tn (S 15 0)) ≤ 0 then nI 0 else xmo (xfill γ3 (xst (S 4) (kGoN (S 4) (tn (S 2 0)) (tn (S 5 0)) (S 9) (S 10) (S 11) (tn (S 8 0)) (-4) (N, -4, nI 0) (60 - tn (N 25))).1 (tn (S 5 0)) (tn (S 2 0))) 5) (tn (S 16 0)) (tn (S 17 0))).toInt + 1).toNat).2 γ5] A s.heap s H locs := hM.sel [0, 5, 1, 2, 3, 6, 4] rfl rfl
    refine lv_iload_n hx hb dX8_soup_48 rfl (lv_at hl 1 rfl) ?_
    refine lv_iconst (v := (-1)) hx hb dX8_soup_49 (by decide) ?_
    refine lv_icmp_ne (tgt := 63) hx hb dX8_soup_50 (by decide) (fun c2 => ?_) (fun c2 => ?_)
    · exfalso; exact absurd rfl (by assumption)
    · refine lv_aload_n hx hb dX8_soup_53 rfl (lv_at hl 0 rfl) ?_
      refine x_get hx hb hts iwX8_soup_X8 hown hM 0 0 rfl rfl rfl 9 (by decide) (hts _ lkX8_soup_65) (fun _ h => h) rfl dX8_soup_54 ?_
      refine x_get hx hb hts iwX8_soup_X6 hown hM 6 0 rfl rfl rfl 2 (by decide) (hts _ lkX8_soup_246) (fun _ h => h) rfl dX8_soup_57 ?_
      refine lv_goto (tgt := 71) hx hb dX8_soup_60 (by decide) ?_
      exact x_iret hx hb hr hlocks (kGoN (S 4) (tn (S 2 0)) (tn (S 5 0)) (S 9) (S 10) (S 11) (tn (S 8 0)) (-4) (N, -4, nI 0) (60 - tn (N 25))).1 hM (show (xcO (tn (S 15 0)) (X 15) (xfill γ3 (xst (S 4) (kGoN (S 4) (tn (S 2 0)) (tn (S 5 0)) (S 9) (S 10) (S 11) (tn (S 8 0)) (-4) (N, -4, nI 0) (60 - tn (N 25))).1 (tn (S 5 0)) (tn (S 2 0))) 5) (fun y9 => tn (S 16 y9)) (fun y9 => tn (S 17 y9)) (if (tn (S 15 0)) ≤ 0 then nI 0 else xmo (xfill γ3 (xst (S 4) (kGoN (S 4) (tn (S 2 0)) (tn (S 5 0)) (S 9) (S 10) (S 11) (tn (S 8 0)) (-4) (N, -4, nI 0) (60 - tn (N 25))).1 (tn (S 5 0)) (tn (S 2 0))) 5) (tn (S 16 0)) (tn (S 17 0))) γ4 ((if (tn (S 15 0)) ≤ 0 then nI 0 else xmo (xfill γ3 (xst (S 4) (kGoN (S 4) (tn (S 2 0)) (tn (S 5 0)) (S 9) (S 10) (S 11) (tn (S 8 0)) (-4) (N, -4, nI 0) (60 - tn (N 25))).1 (tn (S 5 0)) (tn (S 2 0))) 5) (tn (S 16 0)) (tn (S 17 0))).toInt + 1).toNat).1 = (xcO (tn (S 15 0)) (X 15) (xfill γ3 (xst (S 4) (kGoN (S 4) (tn (S 2 0)) (tn (S 5 0)) (S 9) (S 10) (S 11) (tn (S 8 0)) (-4) (N, -4, nI 0) (60 - tn (N 25))).1 (tn (S 5 0)) (tn (S 2 0))) 5) (fun y9 => tn (S 16 y9)) (fun y9 => tn (S 17 y9)) (if (tn (S 15 0)) ≤ 0 then nI 0 else xmo (xfill γ3 (xst (S 4) (kGoN (S 4) (tn (S 2 0)) (tn (S 5 0)) (S 9) (S 10) (S 11) (tn (S 8 0)) (-4) (N, -4, nI 0) (60 - tn (N 25))).1 (tn (S 5 0)) (tn (S 2 0))) 5) (tn (S 16 0)) (tn (S 17 0))) γ4 ((if (tn (S 15 0)) ≤ 0 then nI 0 else xmo (xfill γ3 (xst (S 4) (kGoN (S 4) (tn (S 2 0)) (tn (S 5 0)) (S 9) (S 10) (S 11) (tn (S 8 0)) (-4) (N, -4, nI 0) (60 - tn (N 25))).1 (tn (S 5 0)) (tn (S 2 0))) 5) (tn (S 16 0)) (tn (S 17 0))).toInt + 1).toNat).1 from rfl) dX8_soup_71
  · exfalso; exact absurd rfl (by assumption)
