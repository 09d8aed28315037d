set_option maxRecDepth 20000 in
theorem ggX0_look_X1_copy : GoodIn wsX0_look wsX1_copy := goodIn_r _ [6, 7, 8, 9, 10, 11, 12, 13, 14, 15, 16, 17, 18, 19, 20, 21, 22, 23, 24, 104, 105, 106, 107, 108, 109] (by decide +kernel) (by decide +kernel)
set_option maxRecDepth 20000 in
theorem gX0_look_X1_copy : GoodIn wsX0_look (wsV RX0 18 RX1 yX1_copy wsX1_copy) := goodIn_app (goodIn_of _ (by decide +kernel)) ggX0_look_X1_copy
set_option maxRecDepth 20000 in
theorem ggX0_look_X1_passUntil : GoodIn wsX0_look wsX1_passUntil := goodIn_r _ [28, 7, 29, 30, 31, 5, 32, 33, 34, 35, 36, 8, 37, 38, 39, 40, 12, 41, 42, 15, 43, 44, 45, 46, 47, 9, 48, 49, 50, 51, 52, 53, 54, 55, 56, 57, 58, 59, 60, 61, 62, 63, 64, 65, 66, 67, 68, 69, 70, 71, 72, 73, 74, 75, 76, 77, 78, 79, 80, 81, 82, 83, 84, 85, 86, 87, 88, 89, 90, 91, 92, 93, 10, 11, 94, 95, 96, 97, 98, 104, 105, 106, 107, 108, 109, 110, 111, 112, 113, 114, 115, 116, 117, 118, 119, 120, 121, 122, 123, 124, 125, 126, 127, 128] (by decide +kernel) (by decide +kernel)
set_option maxRecDepth 20000 in
theorem gX0_look_X1_passUntil : GoodIn wsX0_look (wsV RX0 22 RX1 yX1_passUntil wsX1_passUntil) := goodIn_app (goodIn_of _ (by decide +kernel)) ggX0_look_X1_passUntil
theorem dX0_look_0 : decode cX0_look 0 = .ok (.aload_n 0, 1) := by decide +kernel
theorem dX0_look_1 : decode cX0_look 1 = .ok (.getfield 12, 3) := by decide +kernel
theorem dX0_look_4 : decode cX0_look 4 = .ok (.aload_n 2, 1) := by decide +kernel
theorem dX0_look_5 : decode cX0_look 5 = .ok (.invokevirtual 18, 3) := by decide +kernel
theorem dX0_look_8 : decode cX0_look 8 = .ok (.aload_n 0, 1) := by decide +kernel
theorem dX0_look_9 : decode cX0_look 9 = .ok (.getfield 12, 3) := by decide +kernel
theorem dX0_look_12 : decode cX0_look 12 = .ok (.bipush 60, 2) := by decide +kernel
theorem dX0_look_14 : decode cX0_look 14 = .ok (.aload_n 1, 1) := by decide +kernel
theorem dX0_look_15 : decode cX0_look 15 = .ok (.aload_n 3, 1) := by decide +kernel
theorem dX0_look_16 : decode cX0_look 16 = .ok (.invokevirtual 22, 3) := by decide +kernel
theorem dX0_look_19 : decode cX0_look 19 = .ok (.aload_n 0, 1) := by decide +kernel
theorem dX0_look_20 : decode cX0_look 20 = .ok (.getfield 12, 3) := by decide +kernel
theorem dX0_look_23 : decode cX0_look 23 = .ok (.areturn, 1) := by decide +kernel
theorem lkX0_look_12 : Cond.fieldLink RX0 12 "LeftAtFive$Ahead" "five" "LLeftAtFive$Kitchens;" ∈ wsX0_look := by decide +kernel
theorem iwX0_look_X0 : ∀ w ∈ wsX00, w ∈ wsX0_look := by decide +kernel
set_option maxHeartbeats 2000000 in
set_option maxRecDepth 100000 in
theorem c_X0_look (l : Launch) (D : va_G) (q : Nat → ClassId) (ad : Nat → Nat) (τ0 : Int32) (τ1 : Int32) (τ2 : Int32) (τ3 : Int32) (τ4 : Nat) (sd : Nat → Nat) (X : Nat → Nat → Int32) (kd : Nat → Nat) (K : Nat → Int32) (md : Nat → Nat) (μ0 : Nat → Int32) (μ1 : Nat → Int32) (μ2 : Int32) (fd : Nat → Nat) (F : Nat → Int32) (S : Nat → Nat → Int32) (z : Int32) (hT : okT X S) (hMl : okM μ0 μ1 (S 11) (tn (S 8 0)) z) (hK : okK K) : xC l yX0_look wsX0_look ({ frames := 5, cells := 0, slots := 0, locals := 117 }) D (TY q) [w0 q ad τ0 τ1 τ2 τ3 (fd 0), wst q sd X, wk q kd K, w3 q md μ0 μ1 μ2, wk q fd F] [.ref (ad 0), .ref (sd 0), .ref (kd 0), .ref (md 0)] (xQr D (TY q) (fd 0) (fun (_ : Unit) => True) (fun _ => [w0 q ad τ0 τ1 τ2 τ3 (fd 0), wst q sd X, wk q kd K, w3 q md μ0 μ1 μ2, wk q fd (kGoN (S 4) (tn (S 2 0)) (tn (S 5 0)) (S 9) (S 10) (S 11) (tn (S 8 0)) z (K, -4, nI 0) (60 - tn (K 25))).1])) 0 0 := by
  refine x_enter (cc := cX0_look) (maxL := 4) (ret := (some (.object "LeftAtFive$Kitchens"))) (by decide) rfl (Nat.le_of_ble_eq_true rfl) ?_
  intro p e s m below meth c A ls H locs hfix hr hlocks hinit hM hl
  obtain ⟨hx, hb, hml, hown, hts⟩ := id hfix
  have hl : lv_has ls 4 [(0, .ref (ad 0)), (1, .ref (sd 0)), (2, .ref (kd 0)), (3, .ref (md 0))] := hl
  have hK25 := hK.1.2
  refine lv_aload_n hx hb dX0_look_0 rfl (lv_at hl 0 rfl) ?_
  refine x_get hx hb hts iwX0_look_X0 hown hM 0 0 rfl rfl rfl 4 (by decide) (hts _ lkX0_look_12) (fun _ h => h) rfl dX0_look_1 ?_
  refine lv_aload_n hx hb dX0_look_4 rfl (lv_at hl 2 rfl) ?_
  refine x_callv (bc := [wk q fd F, wk q kd K]) (br := [w0 q ad τ0 τ1 τ2 τ3 (fd 0), wst q sd X, w3 q md μ0 μ1 μ2]) hM [4, 2] [0, 1, 3] rfl rfl rfl (by decide) (x_runV (As := [.ref (kd 0)]) (rest := []) hfix (c_X1_copy l D q fd F kd K) (cwV 1 hts gX0_look_X1_copy rfl rfl rfl (by decide +kernel) ⟨Nat.le_of_ble_eq_true rfl, Nat.le_of_ble_eq_true rfl⟩) hM [4, 2] rfl rfl 4 0 rfl rfl rfl rfl rfl hl.1 rfl (Nat.le_of_ble_eq_true rfl) dX0_look_5 ⟨Nat.le_of_ble_eq_true rfl, Nat.le_of_ble_eq_true rfl⟩) (fun u H locs hq hM => ?_)
  have hM : xM D (TY q) [w0 q ad τ0 τ1 τ2 τ3 (fd 0), wst q sd X, w3 q md μ0 μ1 μ2, wk q fd K, wk q kd K] A s.heap s H locs := hM
  have hM : xM D (TY q) [w0 q ad τ0 τ1 τ2 τ3 (fd 0), wst q sd X, wk q kd K, w3 q md μ0 μ1 μ2, wk q fd K] A s.heap s H locs := hM.sel [0, 1, 4, 2, 3] rfl rfl
  refine lv_aload_n hx hb dX0_look_8 rfl (lv_at hl 0 rfl) ?_
  refine x_get hx hb hts iwX0_look_X0 hown hM 0 0 rfl rfl rfl 4 (by decide) (hts _ lkX0_look_12) (fun _ h => h) rfl dX0_look_9 ?_
  refine lv_bipush (v := nI 60) hx hb dX0_look_12 (by decide) ?_
  refine lv_aload_n hx hb dX0_look_14 rfl (lv_at hl 1 rfl) ?_
  refine lv_aload_n hx hb dX0_look_15 rfl (lv_at hl 3 rfl) ?_
  refine x_callv (bc := [wk q fd K, wst q sd X, w3 q md μ0 μ1 μ2]) (br := [w0 q ad τ0 τ1 τ2 τ3 (fd 0), wk q kd K]) hM [4, 1, 3] [0, 2] rfl rfl rfl (by decide) (x_runV (As := [.int (nI 60), .ref (sd 0), .ref (md 0)]) (rest := []) hfix (c_X1_passUntil l D q fd K sd X md μ0 μ1 μ2 S z 60 hT hMl hK (by omega)) (cwV 3 hts gX0_look_X1_passUntil rfl rfl rfl (by decide +kernel) ⟨Nat.le_of_ble_eq_true rfl, Nat.le_of_ble_eq_true rfl⟩) hM [4, 1, 3] rfl rfl 4 0 rfl rfl rfl rfl rfl hl.1 rfl (Nat.le_of_ble_eq_true rfl) dX0_look_16 ⟨Nat.le_of_ble_eq_true rfl, Nat.le_of_ble_eq_true rfl⟩) (fun u H locs hq hM => ?_)
  have hM : xM D (TY q) [w0 q ad τ0 τ1 τ2 τ3 (fd 0), wk q kd K, wk q fd (kGoN (S 4) (tn (S 2 0)) (tn (S 5 0)) (S 9) (S 10) (S 11) (tn (S 8 0)) z (K, -4, nI 0) (60 - tn (K 25))).1, wst q sd X, w3 q md μ0 μ1 μ2] A s.heap s H locs := hM
  have hM : xM D (TY q) [w0 q ad τ0 τ1 τ2 τ3 (fd 0), wst q sd X, wk q kd K, w3 q md μ0 μ1 μ2, wk q fd (kGoN (S 4) (tn (S 2 0)) (tn (S 5 0)) (S 9) (S 10) (S 11) (tn (S 8 0)) z (K, -4, nI 0) (60 - tn (K 25))).1] A s.heap s H locs := hM.sel [0, 3, 1, 4, 2] rfl rfl
  refine lv_aload_n hx hb dX0_look_19 rfl (lv_at hl 0 rfl) ?_
  refine x_get hx hb hts iwX0_look_X0 hown hM 0 0 rfl rfl rfl 4 (by decide) (hts _ lkX0_look_12) (fun _ h => h) rfl dX0_look_20 ?_
  exact x_aret hx hb hr hlocks () hM trivial dX0_look_23

theorem dX0_minute_0 : decode cX0_minute 0 = .ok (.aload_n 0, 1) := by decide +kernel
theorem dX0_minute_1 : decode cX0_minute 1 = .ok (.getfield 12, 3) := by decide +kernel
theorem dX0_minute_4 : decode cX0_minute 4 = .ok (.getfield 26, 3) := by decide +kernel
theorem dX0_minute_7 : decode cX0_minute 7 = .ok (.ireturn, 1) := by decide +kernel
theorem lkX0_minute_12 : Cond.fieldLink RX0 12 "LeftAtFive$Ahead" "five" "LLeftAtFive$Kitchens;" ∈ wsX0_minute := by decide +kernel
theorem lkX0_minute_26 : Cond.fieldLink RX0 26 "LeftAtFive$Kitchens" "minute" "I" ∈ wsX0_minute := by decide +kernel
theorem iwX0_minute_X0 : ∀ w ∈ wsX00, w ∈ wsX0_minute := by decide +kernel
theorem iwX0_minute_X1 : ∀ w ∈ wsX10, w ∈ wsX0_minute := by decide +kernel
set_option maxHeartbeats 2000000 in
set_option maxRecDepth 100000 in
theorem c_X0_minute (l : Launch) (D : va_G) (q : Nat → ClassId) (ad : Nat → Nat) (τ0 : Int32) (τ1 : Int32) (τ2 : Int32) (τ3 : Int32) (τ4 : Nat) (fd : Nat → Nat) (F : Nat → Int32) : xC l yX0_minute wsX0_minute ({ frames := 0, cells := 0, slots := 0, locals := 0 }) D (TY q) [w0 q ad τ0 τ1 τ2 τ3 (fd 0), wk q fd F] [.ref (ad 0)] (xQi D (TY q) (fun (r : Int32) (_ : Unit) => r = F 25) (fun _ => [w0 q ad τ0 τ1 τ2 τ3 (fd 0), wk q fd F])) 0 0 := by
  refine x_enter (cc := cX0_minute) (maxL := 1) (ret := (some .int)) (by decide) rfl (Nat.le_of_ble_eq_true rfl) ?_
  intro p e s m below meth c A ls H locs hfix hr hlocks hinit hM hl
  obtain ⟨hx, hb, hml, hown, hts⟩ := id hfix
  have hl : lv_has ls 1 [(0, .ref (ad 0))] := hl
  refine lv_aload_n hx hb dX0_minute_0 rfl (lv_at hl 0 rfl) ?_
  refine x_get hx hb hts iwX0_minute_X0 hown hM 0 0 rfl rfl rfl 4 (by decide) (hts _ lkX0_minute_12) (fun _ h => h) rfl dX0_minute_1 ?_
  refine x_get hx hb hts iwX0_minute_X1 hown hM 1 0 rfl rfl rfl 0 (by decide) (hts _ lkX0_minute_26) (fun _ h => h) rfl dX0_minute_4 ?_
  exact x_iret hx hb hr hlocks () hM (show F 25 = F 25 from rfl) dX0_minute_7

set_option maxRecDepth 20000 in
theorem ggX0_lookForHunger_X1_copy : GoodIn wsX0_lookForHunger wsX1_copy := goodIn_r _ [7, 8, 9, 10, 11, 12, 13, 14, 15, 16, 17, 18, 19, 20, 21, 22, 23, 24, 25, 109, 110, 111, 112, 113, 114] (by decide +kernel) (by decide +kernel)
set_option maxRecDepth 20000 in
theorem gX0_lookForHunger_X1_copy : GoodIn wsX0_lookForHunger (wsV RX0 18 RX1 yX1_copy wsX1_copy) := goodIn_app (goodIn_of _ (by decide +kernel)) ggX0_lookForHunger_X1_copy
set_option maxRecDepth 20000 in
theorem ggX0_lookForHunger_X1_passOne : GoodIn wsX0_lookForHunger wsX1_passOne := goodIn_r _ [29, 8, 30, 31, 32, 6, 33, 9, 34, 35, 36, 37, 13, 38, 39, 16, 40, 41, 42, 43, 44, 10, 45, 46, 47, 48, 49, 50, 51, 52, 53, 54, 55, 56, 57, 58, 59, 60, 61, 62, 63, 64, 65, 66, 67, 68, 69, 70, 71, 72, 73, 74, 75, 76, 77, 78, 79, 80, 81, 82, 83, 84, 85, 86, 87, 88, 89, 90, 11, 12, 91, 92, 93, 94, 95, 109, 110, 111, 112, 113, 114, 115, 116, 117, 118, 119, 120, 121, 122, 123, 124, 125, 126, 127, 128, 129, 130, 131, 132, 133] (by decide +kernel) (by decide +kernel)
set_option maxRecDepth 20000 in
theorem gX0_lookForHunger_X1_passOne : GoodIn wsX0_lookForHunger (wsV RX0 30 RX1 yX1_passOne wsX1_passOne) := goodIn_app (goodIn_of _ (by decide +kernel)) ggX0_lookForHunger_X1_passOne
set_option maxRecDepth 20000 in
theorem ggX0_lookForHunger_X1_hungrierThan : GoodIn wsX0_lookForHunger wsX1_hungrierThan := goodIn_r _ [99, 100, 101, 102, 6, 103, 12, 38, 39, 16, 40, 109, 110, 111, 112, 113, 114] (by decide +kernel) (by decide +kernel)
set_option maxRecDepth 20000 in
theorem gX0_lookForHunger_X1_hungrierThan : GoodIn wsX0_lookForHunger (wsV RX0 34 RX1 yX1_hungrierThan wsX1_hungrierThan) := goodIn_app (goodIn_of _ (by decide +kernel)) ggX0_lookForHunger_X1_hungrierThan
theorem dX0_lookForHunger_0 : decode cX0_lookForHunger 0 = .ok (.aload_n 0, 1) := by decide +kernel
theorem dX0_lookForHunger_1 : decode cX0_lookForHunger 1 = .ok (.getfield 12, 3) := by decide +kernel
theorem dX0_lookForHunger_4 : decode cX0_lookForHunger 4 = .ok (.aload_n 2, 1) := by decide +kernel
theorem dX0_lookForHunger_5 : decode cX0_lookForHunger 5 = .ok (.invokevirtual 18, 3) := by decide +kernel
theorem dX0_lookForHunger_8 : decode cX0_lookForHunger 8 = .ok (.bipush 60, 2) := by decide +kernel
theorem dX0_lookForHunger_10 : decode cX0_lookForHunger 10 = .ok (.aload_n 2, 1) := by decide +kernel
theorem dX0_lookForHunger_11 : decode cX0_lookForHunger 11 = .ok (.getfield 26, 3) := by decide +kernel
theorem dX0_lookForHunger_14 : decode cX0_lookForHunger 14 = .ok (.isub, 1) := by decide +kernel
theorem dX0_lookForHunger_15 : decode cX0_lookForHunger 15 = .ok (.istore 4, 2) := by decide +kernel
theorem dX0_lookForHunger_17 : decode cX0_lookForHunger 17 = .ok (.iconst 0, 1) := by decide +kernel
theorem dX0_lookForHunger_18 : decode cX0_lookForHunger 18 = .ok (.istore 5, 2) := by decide +kernel
theorem dX0_lookForHunger_20 : decode cX0_lookForHunger 20 = .ok (.iload 5, 2) := by decide +kernel
theorem dX0_lookForHunger_22 : decode cX0_lookForHunger 22 = .ok (.iload 4, 2) := by decide +kernel
theorem dX0_lookForHunger_24 : decode cX0_lookForHunger 24 = .ok (.if_icmp .ge 36, 3) := by decide +kernel
theorem dX0_lookForHunger_27 : decode cX0_lookForHunger 27 = .ok (.aload_n 0, 1) := by decide +kernel
theorem dX0_lookForHunger_28 : decode cX0_lookForHunger 28 = .ok (.getfield 12, 3) := by decide +kernel
theorem dX0_lookForHunger_31 : decode cX0_lookForHunger 31 = .ok (.aload_n 1, 1) := by decide +kernel
theorem dX0_lookForHunger_32 : decode cX0_lookForHunger 32 = .ok (.aload_n 3, 1) := by decide +kernel
theorem dX0_lookForHunger_33 : decode cX0_lookForHunger 33 = .ok (.invokevirtual 30, 3) := by decide +kernel
theorem dX0_lookForHunger_36 : decode cX0_lookForHunger 36 = .ok (.aload_n 0, 1) := by decide +kernel
theorem dX0_lookForHunger_37 : decode cX0_lookForHunger 37 = .ok (.getfield 12, 3) := by decide +kernel
theorem dX0_lookForHunger_40 : decode cX0_lookForHunger 40 = .ok (.aload_n 2, 1) := by decide +kernel
theorem dX0_lookForHunger_41 : decode cX0_lookForHunger 41 = .ok (.invokevirtual 34, 3) := by decide +kernel
theorem dX0_lookForHunger_44 : decode cX0_lookForHunger 44 = .ok (.istore 6, 2) := by decide +kernel
theorem dX0_lookForHunger_46 : decode cX0_lookForHunger 46 = .ok (.iload 6, 2) := by decide +kernel
theorem dX0_lookForHunger_48 : decode cX0_lookForHunger 48 = .ok (.ifCond .lt 6, 3) := by decide +kernel
theorem dX0_lookForHunger_51 : decode cX0_lookForHunger 51 = .ok (.iload 6, 2) := by decide +kernel
theorem dX0_lookForHunger_53 : decode cX0_lookForHunger 53 = .ok (.ireturn, 1) := by decide +kernel
theorem dX0_lookForHunger_54 : decode cX0_lookForHunger 54 = .ok (.iinc 5 1, 3) := by decide +kernel
theorem dX0_lookForHunger_57 : decode cX0_lookForHunger 57 = .ok (.goto (-37), 3) := by decide +kernel
theorem dX0_lookForHunger_60 : decode cX0_lookForHunger 60 = .ok (.iconst (-1), 1) := by decide +kernel
theorem dX0_lookForHunger_61 : decode cX0_lookForHunger 61 = .ok (.ireturn, 1) := by decide +kernel
theorem lkX0_lookForHunger_12 : Cond.fieldLink RX0 12 "LeftAtFive$Ahead" "five" "LLeftAtFive$Kitchens;" ∈ wsX0_lookForHunger := by decide +kernel
theorem lkX0_lookForHunger_26 : Cond.fieldLink RX0 26 "LeftAtFive$Kitchens" "minute" "I" ∈ wsX0_lookForHunger := by decide +kernel
theorem iwX0_lookForHunger_X0 : ∀ w ∈ wsX00, w ∈ wsX0_lookForHunger := by decide +kernel
theorem iwX0_lookForHunger_X1 : ∀ w ∈ wsX10, w ∈ wsX0_lookForHunger := by decide +kernel
set_option maxHeartbeats 2000000 in
set_option maxRecDepth 100000 in
theorem c_X0_lookForHunger (l : Launch) (D : va_G) (q : Nat → ClassId) (ad : Nat → Nat) (τ0 : Int32) (τ1 : Int32) (τ2 : Int32) (τ3 : Int32) (τ4 : Nat) (sd : Nat → Nat) (X : Nat → Nat → Int32) (kd : Nat → Nat) (K : Nat → Int32) (md : Nat → Nat) (μ0 : Nat → Int32) (μ1 : Nat → Int32) (μ2 : Int32) (fd : Nat → Nat) (F : Nat → Int32) (S : Nat → Nat → Int32) (z : Int32) (hT : okT X S) (hMl : okM μ0 μ1 (S 11) (tn (S 8 0)) z) (hK : okK K) : xC l yX0_lookForHunger wsX0_lookForHunger ({ frames := 4, cells := 0, slots := 0, locals := 92 }) D (TY q) [w0 q ad τ0 τ1 τ2 τ3 (fd 0), wst q sd X, wk q kd K, w3 q md μ0 μ1 μ2, wk q fd F] [.ref (ad 0), .ref (sd 0), .ref (kd 0), .ref (md 0)] (xQi D (TY q) (fun (r : Int32) (u : Nat) => r = xhun (kGoN (S 4) (tn (S 2 0)) (tn (S 5 0)) (S 9) (S 10) (S 11) (tn (S 8 0)) z (K, -4, nI 0) u).1 K 8 ∧ u ≤ (60 - tn (K 25)) ∧ (∀ j, 1 ≤ j → j < u → xhun (kGoN (S 4) (tn (S 2 0)) (tn (S 5 0)) (S 9) (S 10) (S 11) (tn (S 8 0)) z (K, -4, nI 0) j).1 K 8 < 0) ∧ (xhun (kGoN (S 4) (tn (S 2 0)) (tn (S 5 0)) (S 9) (S 10) (S 11) (tn (S 8 0)) z (K, -4, nI 0) u).1 K 8 < 0 → u = (60 - tn (K 25)))) (fun (u : Nat) => [w0 q ad τ0 τ1 τ2 τ3 (fd 0), wst q sd X, wk q kd K, w3 q md μ0 μ1 μ2, wk q fd (kGoN (S 4) (tn (S 2 0)) (tn (S 5 0)) (S 9) (S 10) (S 11) (tn (S 8 0)) z (K, -4, nI 0) u).1])) 0 0 := by
  refine x_enter (cc := cX0_lookForHunger) (maxL := 7) (ret := (some .int)) (by decide) rfl (Nat.le_of_ble_eq_true rfl) ?_
  intro p e s m below meth c A ls H locs hfix hr hlocks hinit hM hl
  obtain ⟨hx, hb, hml, hown, hts⟩ := id hfix
  have hl : lv_has ls 7 [(0, .ref (ad 0)), (1, .ref (sd 0)), (2, .ref (kd 0)), (3, .ref (md 0))] := hl
  have hK25 := hK.1.2
  refine lv_aload_n hx hb dX0_lookForHunger_0 rfl (lv_at hl 0 rfl) ?_
  refine x_get hx hb hts iwX0_lookForHunger_X0 hown hM 0 0 rfl rfl rfl 4 (by decide) (hts _ lkX0_lookForHunger_12) (fun _ h => h) rfl dX0_lookForHunger_1 ?_
  refine lv_aload_n hx hb dX0_lookForHunger_4 rfl (lv_at hl 2 rfl) ?_
  refine x_callv (bc := [wk q fd F, wk q kd K]) (br := [w0 q ad τ0 τ1 τ2 τ3 (fd 0), wst q sd X, w3 q md μ0 μ1 μ2]) hM [4, 2] [0, 1, 3] rfl rfl rfl (by decide) (x_runV (As := [.ref (kd 0)]) (rest := []) hfix (c_X1_copy l D q fd F kd K) (cwV 1 hts gX0_lookForHunger_X1_copy rfl rfl rfl (by decide +kernel) ⟨Nat.le_of_ble_eq_true rfl, Nat.le_of_ble_eq_true rfl⟩) hM [4, 2] rfl rfl 4 0 rfl rfl rfl rfl rfl hl.1 rfl (Nat.le_of_ble_eq_true rfl) dX0_lookForHunger_5 ⟨Nat.le_of_ble_eq_true rfl, Nat.le_of_ble_eq_true rfl⟩) (fun u H locs hq hM => ?_)
  have hM : xM D (TY q) [w0 q ad τ0 τ1 τ2 τ3 (fd 0), wst q sd X, w3 q md μ0 μ1 μ2, wk q fd K, wk q kd K] A s.heap s H locs := hM
  have hM : xM D (TY q) [w0 q ad τ0 τ1 τ2 τ3 (fd 0), wst q sd X, wk q kd K, w3 q md μ0 μ1 μ2, wk q fd K] A s.heap s H locs := hM.sel [0, 1, 4, 2, 3] rfl rfl
  refine lv_bipush (v := nI 60) hx hb dX0_lookForHunger_8 (by decide) ?_
  refine lv_aload_n hx hb dX0_lookForHunger_10 rfl (lv_at hl 2 rfl) ?_
  refine x_get hx hb hts iwX0_lookForHunger_X1 hown hM 2 0 rfl rfl rfl 0 (by decide) (hts _ lkX0_lookForHunger_26) (fun _ h => h) rfl dX0_lookForHunger_11 ?_
  refine x_cast (y := nI (tn (K 25))) hK.1.1 ?_
  refine x_isub (x := 60) (y := tn (K 25)) hx hb (by omega) dX0_lookForHunger_14 ?_
  refine lv_istore (lv' := [(4, .int (nI (60 - (tn (K 25))))), (0, .ref (ad 0)), (1, .ref (sd 0)), (2, .ref (kd 0)), (3, .ref (md 0))]) hx hb dX0_lookForHunger_15 hl (by decide) rfl (fun ls hl => ?_)
  refine lv_iconst (v := nI 0) hx hb dX0_lookForHunger_17 (by decide) ?_
  refine lv_istore (lv' := [(5, .int (nI 0)), (4, .int (nI (60 - (tn (K 25))))), (0, .ref (ad 0)), (1, .ref (sd 0)), (2, .ref (kd 0)), (3, .ref (md 0))]) hx hb dX0_lookForHunger_18 hl (by decide) rfl (fun ls hl => ?_)
  have e2 : wk q fd K = wk q fd (kGoN (S 4) (tn (S 2 0)) (tn (S 5 0)) (S 9) (S 10) (S 11) (tn (S 8 0)) z (K, -4, nI 0) 0).1 := congrArg (wk q fd) (show (K : Nat → Int32) = (kGoN (S 4) (tn (S 2 0)) (tn (S 5 0)) (S 9) (S 10) (S 11) (tn (S 8 0)) z (K, -4, nI 0) 0).1 from by rfl)
  have hM : xM D (TY q) [w0 q ad τ0 τ1 τ2 τ3 (fd 0), wst q sd X, wk q kd K, w3 q md μ0 μ1 μ2, wk q fd (kGoN (S 4) (tn (S 2 0)) (tn (S 5 0)) (S 9) (S 10) (S 11) (tn (S 8 0)) z (K, -4, nI 0) 0).1] A s.heap s H locs := Eq.mp (congrArg (fun z9 => xM D (TY q) [w0 q ad τ0 τ1 τ2 τ3 (fd 0), wst q sd X, wk q kd K, w3 q md μ0 μ1 μ2, z9] A s.heap s H locs) e2) hM
  refine x_loop (ι := Nat) (fun k => [(0, .ref (ad 0)), (1, .ref (sd 0)), (2, .ref (kd 0)), (3, .ref (md 0)), (4, .int (nI (60 - (tn (K 25))))), (5, .int (nI k))]) (fun k => [w0 q ad τ0 τ1 τ2 τ3 (fd 0), wst q sd X, wk q kd K, w3 q md μ0 μ1 μ2, wk q fd (kGoN (S 4) (tn (S 2 0)) (tn (S 5 0)) (S 9) (S 10) (S 11) (tn (S 8 0)) z (K, -4, nI 0) k).1]) (fun k => k ≤ (60 - tn (K 25)) ∧ (∀ j, 1 ≤ j → j ≤ k → xhun (kGoN (S 4) (tn (S 2 0)) (tn (S 5 0)) (S 9) (S 10) (S 11) (tn (S 8 0)) z (K, -4, nI 0) j).1 K 8 < 0)) (fun k => (60 - tn (K 25)) - k) 0 (⟨Nat.zero_le _, fun j h1 h2 => absurd h2 (by omega)⟩) hM (lv_sub hl [2, 3, 4, 5, 1, 0] rfl) ?_
  intro k hI4 ih3 H locs hM ls hl
  have hM : xM D (TY q) [w0 q ad τ0 τ1 τ2 τ3 (fd 0), wst q sd X, wk q kd K, w3 q md μ0 μ1 μ2, wk q fd (kGoN (S 4) (tn (S 2 0)) (tn (S 5 0)) (S 9) (S 10) (S 11) (tn (S 8 0)) z (K, -4, nI 0) k).1] A s.heap s H locs := hM
  have hl : lv_has ls 7 [(0, .ref (ad 0)), (1, .ref (sd 0)), (2, .ref (kd 0)), (3, .ref (md 0)), (4, .int (nI (60 - (tn (K 25))))), (5, .int (nI k))] := hl
  have hI4 : k ≤ (60 - tn (K 25)) ∧ (∀ j, 1 ≤ j → j ≤ k → xhun (kGoN (S 4) (tn (S 2 0)) (tn (S 5 0)) (S 9) (S 10) (S 11) (tn (S 8 0)) z (K, -4, nI 0) j).1 K 8 < 0) := hI4
  obtain ⟨hI4_0, hI4_1⟩ := id hI4
  have hk9 := hI4_0
  have hj9 := hI4_1
  try dsimp only
  refine lv_iload hx hb dX0_lookForHunger_20 (lv_at hl 5 rfl) ?_
  refine lv_iload hx hb dX0_lookForHunger_22 (lv_at hl 4 rfl) ?_
  refine x_icmp_ge (x := k) (y := 60 - (tn (K 25))) (tgt := 60) hx hb (by omega) (by omega) dX0_lookForHunger_24 (by decide) (fun c5 => ?_) (fun c5 => ?_)
  · refine lv_iconst (v := (-1)) hx hb dX0_lookForHunger_60 (by decide) ?_
    exact x_iret hx hb hr hlocks k hM ⟨(show (-1) = xhun (kGoN (S 4) (tn (S 2 0)) (tn (S 5 0)) (S 9) (S 10) (S 11) (tn (S 8 0)) z (K, -4, nI 0) k).1 K 8 from by (exact (xlh_end (f := fun j => (kGoN (S 4) (tn (S 2 0)) (tn (S 5 0)) (S 9) (S 10) (S 11) (tn (S 8 0)) z (K, -4, nI 0) j).1) rfl hj9).symm)), (show k ≤ (60 - tn (K 25)) ∧ (∀ j, 1 ≤ j → j < k → xhun (kGoN (S 4) (tn (S 2 0)) (tn (S 5 0)) (S 9) (S 10) (S 11) (tn (S 8 0)) z (K, -4, nI 0) j).1 K 8 < 0) ∧ (xhun (kGoN (S 4) (tn (S 2 0)) (tn (S 5 0)) (S 9) (S 10) (S 11) (tn (S 8 0)) z (K, -4, nI 0) k).1 K 8 < 0 → k = (60 - tn (K 25))) from by (exact ⟨by omega, fun j h1 h2 => hj9 j h1 (by omega), fun _ => by omega⟩))⟩ dX0_lookForHunger_61
  · refine lv_aload_n hx hb dX0_lookForHunger_27 rfl (lv_at hl 0 rfl) ?_
    refine x_get hx hb hts iwX0_lookForHunger_X0 hown hM 0 0 rfl rfl rfl 4 (by decide) (hts _ lkX0_lookForHunger_12) (fun _ h => h) rfl dX0_lookForHunger_28 ?_
    refine lv_aload_n hx hb dX0_lookForHunger_31 rfl (lv_at hl 1 rfl) ?_
    refine lv_aload_n hx hb dX0_lookForHunger_32 rfl (lv_at hl 3 rfl) ?_
    refine x_callv (bc := [wk q fd (kGoN (S 4) (tn (S 2 0)) (tn (S 5 0)) (S 9) (S 10) (S 11) (tn (S 8 0)) z (K, -4, nI 0) k).1, wst q sd X, w3 q md μ0 μ1 μ2]) (br := [w0 q ad τ0 τ1 τ2 τ3 (fd 0), wk q kd K]) hM [4, 1, 3] [0, 2] rfl rfl rfl (by decide) (x_runV (As := [.ref (sd 0), .ref (md 0)]) (rest := []) hfix (c_X1_passOne l D q fd (kGoN (S 4) (tn (S 2 0)) (tn (S 5 0)) (S 9) (S 10) (S 11) (tn (S 8 0)) z (K, -4, nI 0) k).1 sd X md μ0 μ1 μ2 S z hT hMl (okK_goM (kd := S 4) (G := (tn (S 2 0))) (nH := (tn (S 5 0))) (z := z) (w := -4) (hu := nI 0) (okT_E hT) hK k (by omega)).1 (by rw [(okK_goM (kd := S 4) (G := (tn (S 2 0))) (nH := (tn (S 5 0))) (z := z) (w := -4) (hu := nI 0) (okT_E hT) hK k (by omega)).2, tn_nI (by omega)]; omega)) (cwV 2 hts gX0_lookForHunger_X1_passOne rfl rfl rfl (by decide +kernel) ⟨Nat.le_of_ble_eq_true rfl, Nat.le_of_ble_eq_true rfl⟩) hM [4, 1, 3] rfl rfl 4 0 rfl rfl rfl rfl rfl hl.1 rfl (Nat.le_of_ble_eq_true rfl) dX0_lookForHunger_33 ⟨Nat.le_of_ble_eq_true rfl, Nat.le_of_ble_eq_true rfl⟩) (fun u H locs hq hM => ?_)
    have hM : xM D (TY q) [w0 q ad τ0 τ1 τ2 τ3 (fd 0), wk q kd K, wk q fd (kGo (S 4) (tn (S 2 0)) (tn (S 5 0)) (S 9) (S 10) (S 11) (tn (S 8 0)) z ((kGoN (S 4) (tn (S 2 0)) (tn (S 5 0)) (S 9) (S 10) (S 11) (tn (S 8 0)) z (K, -4, nI 0) k).1, -4, nI 0)).1, wst q sd X, w3 q md μ0 μ1 μ2] A s.heap s H locs := hM
    have hM : xM D (TY q) [w0 q ad τ0 τ1 τ2 τ3 (fd 0), wst q sd X, wk q kd K, w3 q md μ0 μ1 μ2, wk q fd (kGo (S 4) (tn (S 2 0)) (tn (S 5 0)) (S 9) (S 10) (S 11) (tn (S 8 0)) z ((kGoN (S 4) (tn (S 2 0)) (tn (S 5 0)) (S 9) (S 10) (S 11) (tn (S 8 0)) z (K, -4, nI 0) k).1, -4, nI 0)).1] A s.heap s H locs := hM.sel [0, 3, 1, 4, 2] rfl rfl
    have e6 : wk q fd (kGo (S 4) (tn (S 2 0)) (tn (S 5 0)) (S 9) (S 10) (S 11) (tn (S 8 0)) z ((kGoN (S 4) (tn (S 2 0)) (tn (S 5 0)) (S 9) (S 10) (S 11) (tn (S 8 0)) z (K, -4, nI 0) k).1, -4, nI 0)).1 = wk q fd (kGoN (S 4) (tn (S 2 0)) (tn (S 5 0)) (S 9) (S 10) (S 11) (tn (S 8 0)) z (K, -4, nI 0) (k + 1)).1 := congrArg (wk q fd) (show ((kGo (S 4) (tn (S 2 0)) (tn (S 5 0)) (S 9) (S 10) (S 11) (tn (S 8 0)) z ((kGoN (S 4) (tn (S 2 0)) (tn (S 5 0)) (S 9) (S 10) (S 11) (tn (S 8 0)) z (K, -4, nI 0) k).1, -4, nI 0)).1 : Nat → Int32) = (kGoN (S 4) (tn (S 2 0)) (tn (S 5 0)) (S 9) (S 10) (S 11) (tn (S 8 0)) z (K, -4, nI 0) (k + 1)).1 from by exact kGo_x1 _)
    have hM : xM D (TY q) [w0 q ad τ0 τ1 τ2 τ3 (fd 0), wst q sd X, wk q kd K, w3 q md μ0 μ1 μ2, wk q fd (kGoN (S 4) (tn (S 2 0)) (tn (S 5 0)) (S 9) (S 10) (S 11) (tn (S 8 0)) z (K, -4, nI 0) (k + 1)).1] A s.heap s H locs := Eq.mp (congrArg (fun z9 => xM D (TY q) [w0 q ad τ0 τ1 τ2 τ3 (fd 0), wst q sd X, wk q kd K, w3 q md μ0 μ1 μ2, z9] A s.heap s H locs) e6) hM
    refine lv_aload_n hx hb dX0_lookForHunger_36 rfl (lv_at hl 0 rfl) ?_
    refine x_get hx hb hts iwX0_lookForHunger_X0 hown hM 0 0 rfl rfl rfl 4 (by decide) (hts _ lkX0_lookForHunger_12) (fun _ h => h) rfl dX0_lookForHunger_37 ?_
    refine lv_aload_n hx hb dX0_lookForHunger_40 rfl (lv_at hl 2 rfl) ?_
    refine x_calli (bc := [wk q fd (kGoN (S 4) (tn (S 2 0)) (tn (S 5 0)) (S 9) (S 10) (S 11) (tn (S 8 0)) z (K, -4, nI 0) (k + 1)).1, wk q kd K]) (br := [w0 q ad τ0 τ1 τ2 τ3 (fd 0), wst q sd X, w3 q md μ0 μ1 μ2]) hM [4, 2] [0, 1, 3] rfl rfl rfl (by decide) (x_runV (As := [.ref (kd 0)]) (rest := []) hfix (c_X1_hungrierThan l D q fd (kGoN (S 4) (tn (S 2 0)) (tn (S 5 0)) (S 9) (S 10) (S 11) (tn (S 8 0)) z (K, -4, nI 0) (k + 1)).1 kd K) (cwV 1 hts gX0_lookForHunger_X1_hungrierThan rfl rfl rfl (by decide +kernel) ⟨Nat.le_of_ble_eq_true rfl, Nat.le_of_ble_eq_true rfl⟩) hM [4, 2] rfl rfl 4 0 rfl rfl rfl rfl rfl hl.1 rfl (Nat.le_of_ble_eq_true rfl) dX0_lookForHunger_41 ⟨Nat.le_of_ble_eq_true rfl, Nat.le_of_ble_eq_true rfl⟩) (fun r u H locs hq hM => ?_)
    have hq := hq.symm
    subst hq
    have hM : xM D (TY q) [w0 q ad τ0 τ1 τ2 τ3 (fd 0), wst q sd X, w3 q md μ0 μ1 μ2, wk q fd (kGoN (S 4) (tn (S 2 0)) (tn (S 5 0)) (S 9) (S 10) (S 11) (tn (S 8 0)) z (K, -4, nI 0) (k + 1)).1, wk q kd K] A s.heap s H locs := hM
    have hM : xM D (TY q) [w0 q ad τ0 τ1 τ2 τ3 (fd 0), wst q sd X, wk q kd K, w3 q md μ0 μ1 μ2, wk q fd (kGoN (S 4) (tn (S 2 0)) (tn (S 5 0)) (S 9) (S 10) (S 11) (tn (S 8 0)) z (K, -4, nI 0) (k + 1)).1] A s.heap s H locs := hM.sel [0, 1, 4, 2, 3] rfl rfl
    refine lv_istore (lv' := [(6, .int (xhun (kGoN (S 4) (tn (S 2 0)) (tn (S 5 0)) (S 9) (S 10) (S 11) (tn (S 8 0)) z (K, -4, nI 0) (k + 1)).1 K 8)), (0, .ref (ad 0)), (1, .ref (sd 0)), (2, .ref (kd 0)), (3, .ref (md 0)), (4, .int (nI (60 - (tn (K 25))))), (5, .int (nI k))]) hx hb dX0_lookForHunger_44 hl (by decide) rfl (fun ls hl => ?_)
    refine lv_iload hx hb dX0_lookForHunger_46 (lv_at hl 0 rfl) ?_
    refine lv_if_lt (tgt := 54) hx hb dX0_lookForHunger_48 (by decide) (fun c7 => ?_) (fun c7 => ?_)
    · refine lv_iinc (v := nI (k + 1)) (lv' := [(5, .int (nI (k + 1))), (6, .int (xhun (kGoN (S 4) (tn (S 2 0)) (tn (S 5 0)) (S 9) (S 10) (S 11) (tn (S 8 0)) z (K, -4, nI 0) (k + 1)).1 K 8)), (0, .ref (ad 0)), (1, .ref (sd 0)), (2, .ref (kd 0)), (3, .ref (md 0)), (4, .int (nI (60 - (tn (K 25)))))]) hx hb dX0_lookForHunger_54 hl (k := 6) rfl (x_inc _ 1) (by decide) rfl (fun ls hl => ?_)
      refine lv_goto (tgt := 20) hx hb dX0_lookForHunger_57 (by decide) ?_
      have hl : lv_has ls 7 [(0, .ref (ad 0)), (1, .ref (sd 0)), (2, .ref (kd 0)), (3, .ref (md 0)), (4, .int (nI (60 - (tn (K 25))))), (5, .int (nI (k + 1)))] := lv_sub hl [2, 3, 4, 5, 6, 0] rfl
      exact ih3 (k + 1) (show (60 - tn (K 25)) - (k + 1) < (60 - tn (K 25)) - k from by omega) (show (k + 1) ≤ (60 - tn (K 25)) ∧ (∀ j, 1 ≤ j → j ≤ (k + 1) → xhun (kGoN (S 4) (tn (S 2 0)) (tn (S 5 0)) (S 9) (S 10) (S 11) (tn (S 8 0)) z (K, -4, nI 0) j).1 K 8 < 0) from ⟨by omega, fun j h1 h2 => (by by_cases hz : j = k + 1; (subst hz; assumption); exact hj9 j h1 (by omega))⟩) _ _ hM _ hl
    · refine lv_iload hx hb dX0_lookForHunger_51 (lv_at hl 0 rfl) ?_
      exact x_iret hx hb hr hlocks (k + 1) hM ⟨(show xhun (kGoN (S 4) (tn (S 2 0)) (tn (S 5 0)) (S 9) (S 10) (S 11) (tn (S 8 0)) z (K, -4, nI 0) (k + 1)).1 K 8 = xhun (kGoN (S 4) (tn (S 2 0)) (tn (S 5 0)) (S 9) (S 10) (S 11) (tn (S 8 0)) z (K, -4, nI 0) (k + 1)).1 K 8 from rfl), (show (k + 1) ≤ (60 - tn (K 25)) ∧ (∀ j, 1 ≤ j → j < (k + 1) → xhun (kGoN (S 4) (tn (S 2 0)) (tn (S 5 0)) (S 9) (S 10) (S 11) (tn (S 8 0)) z (K, -4, nI 0) j).1 K 8 < 0) ∧ (xhun (kGoN (S 4) (tn (S 2 0)) (tn (S 5 0)) (S 9) (S 10) (S 11) (tn (S 8 0)) z (K, -4, nI 0) (k + 1)).1 K 8 < 0 → (k + 1) = (60 - tn (K 25))) from by (exact ⟨by omega, fun j h1 h2 => hj9 j h1 (by omega), fun z => absurd z (by assumption)⟩))⟩ dX0_lookForHunger_53

set_option maxRecDepth 20000 in
theorem ggX0_tryGifts_X1_arrivalOf : GoodIn wsX0_tryGifts wsX1_arrivalOf := goodIn_r _ [8, 9, 10, 11, 12, 13, 7, 14, 15, 16, 17, 18, 19, 20, 21, 22, 23, 24, 25, 26, 27, 28, 29, 30, 31, 32, 33, 34, 35, 36, 37, 38, 39, 40, 41, 151, 152, 153, 154, 155, 156, 157, 158, 159, 160, 161, 162, 163, 164, 165, 166, 167, 168, 169, 170, 171, 172] (by decide +kernel) (by decide +kernel)
set_option maxRecDepth 20000 in
theorem gX0_tryGifts_X1_arrivalOf : GoodIn wsX0_tryGifts (wsV RX0 64 RX1 yX1_arrivalOf wsX1_arrivalOf) := goodIn_app (goodIn_of _ (by decide +kernel)) ggX0_tryGifts_X1_arrivalOf
set_option maxRecDepth 20000 in
theorem ggX0_tryGifts_X1_copy : GoodIn wsX0_tryGifts wsX1_copy := goodIn_r _ [45, 10, 9, 19, 46, 47, 48, 49, 50, 26, 51, 52, 53, 34, 54, 55, 56, 57, 58, 151, 152, 153, 154, 155, 156] (by decide +kernel) (by decide +kernel)
set_option maxRecDepth 20000 in
theorem gX0_tryGifts_X1_copy : GoodIn wsX0_tryGifts (wsV RX0 18 RX1 yX1_copy wsX1_copy) := goodIn_app (goodIn_of _ (by decide +kernel)) ggX0_tryGifts_X1_copy
set_option maxRecDepth 20000 in
theorem ggX0_tryGifts_X1_send : GoodIn wsX0_tryGifts wsX1_send := goodIn_r _ [62, 48, 9, 10, 28, 29, 30, 22, 31, 32, 33, 34, 35, 36, 37, 38, 39, 40, 41, 25, 26, 27, 63, 64, 65, 7, 66, 19, 20, 21, 23, 67, 68, 69, 70, 71, 72, 151, 152, 153, 154, 155, 156, 157, 158, 159, 160, 161, 162, 163, 164, 165, 166, 167, 168, 169, 170, 171, 172] (by decide +kernel) (by decide +kernel)
set_option maxRecDepth 20000 in
theorem gX0_tryGifts_X1_send : GoodIn wsX0_tryGifts (wsV RX0 68 RX1 yX1_send wsX1_send) := goodIn_app (goodIn_of _ (by decide +kernel)) ggX0_tryGifts_X1_send
set_option maxRecDepth 20000 in
theorem ggX0_tryGifts_X1_passUntil : GoodIn wsX0_tryGifts wsX1_passUntil := goodIn_r _ [76, 10, 77, 78, 79, 7, 80, 81, 82, 83, 84, 9, 85, 86, 87, 88, 48, 24, 25, 26, 27, 63, 64, 65, 66, 19, 20, 21, 22, 23, 67, 68, 69, 89, 90, 91, 92, 70, 71, 72, 93, 94, 95, 96, 97, 98, 99, 100, 101, 102, 103, 41, 15, 16, 17, 18, 104, 105, 106, 107, 108, 109, 110, 111, 112, 113, 114, 115, 116, 117, 118, 119, 46, 47, 120, 121, 122, 123, 124, 151, 152, 153, 154, 155, 156, 157, 158, 159, 160, 161, 162, 163, 164, 165, 166, 167, 168, 169, 170, 171, 172, 173, 174, 175] (by decide +kernel) (by decide +kernel)
set_option maxRecDepth 20000 in
theorem gX0_tryGifts_X1_passUntil : GoodIn wsX0_tryGifts (wsV RX0 22 RX1 yX1_passUntil wsX1_passUntil) := goodIn_app (goodIn_of _ (by decide +kernel)) ggX0_tryGifts_X1_passUntil
set_option maxRecDepth 20000 in
theorem ggX0_tryGifts_X1_worthOfAll : GoodIn wsX0_tryGifts wsX1_worthOfAll := goodIn_r _ [128, 98, 129, 130, 131, 7, 132, 97, 133, 134, 135, 22, 136, 137, 41, 25, 26, 27, 138, 139, 140, 141, 15, 16, 17, 18, 19, 20, 21, 23, 24, 142, 143, 144, 145, 103, 157, 158, 159, 160, 161, 162, 163, 164, 165, 166, 167, 168, 169, 170, 171, 172, 151, 152, 153, 154, 155, 156] (by decide +kernel) (by decide +kernel)
set_option maxRecDepth 20000 in
theorem gX0_tryGifts_X1_worthOfAll : GoodIn wsX0_tryGifts (wsV RX0 42 RX1 yX1_worthOfAll wsX1_worthOfAll) := goodIn_app (goodIn_of _ (by decide +kernel)) ggX0_tryGifts_X1_worthOfAll
theorem dX0_tryGifts_0 : decode cX0_tryGifts 0 = .ok (.iconst 1, 1) := by decide +kernel
theorem dX0_tryGifts_1 : decode cX0_tryGifts 1 = .ok (.istore 7, 2) := by decide +kernel
theorem dX0_tryGifts_3 : decode cX0_tryGifts 3 = .ok (.iload 7, 2) := by decide +kernel
theorem dX0_tryGifts_5 : decode cX0_tryGifts 5 = .ok (.bipush 9, 2) := by decide +kernel
theorem dX0_tryGifts_7 : decode cX0_tryGifts 7 = .ok (.if_icmp .gt 110, 3) := by decide +kernel
theorem dX0_tryGifts_10 : decode cX0_tryGifts 10 = .ok (.aload_n 2, 1) := by decide +kernel
theorem dX0_tryGifts_11 : decode cX0_tryGifts 11 = .ok (.aload_n 1, 1) := by decide +kernel
theorem dX0_tryGifts_12 : decode cX0_tryGifts 12 = .ok (.iload 4, 2) := by decide +kernel
theorem dX0_tryGifts_14 : decode cX0_tryGifts 14 = .ok (.iload 5, 2) := by decide +kernel
theorem dX0_tryGifts_16 : decode cX0_tryGifts 16 = .ok (.iload 6, 2) := by decide +kernel
theorem dX0_tryGifts_18 : decode cX0_tryGifts 18 = .ok (.iload 7, 2) := by decide +kernel
theorem dX0_tryGifts_20 : decode cX0_tryGifts 20 = .ok (.invokevirtual 64, 3) := by decide +kernel
theorem dX0_tryGifts_23 : decode cX0_tryGifts 23 = .ok (.ifCond .lt 94, 3) := by decide +kernel
theorem dX0_tryGifts_26 : decode cX0_tryGifts 26 = .ok (.aload_n 0, 1) := by decide +kernel
theorem dX0_tryGifts_27 : decode cX0_tryGifts 27 = .ok (.getfield 12, 3) := by decide +kernel
theorem dX0_tryGifts_30 : decode cX0_tryGifts 30 = .ok (.aload_n 2, 1) := by decide +kernel
theorem dX0_tryGifts_31 : decode cX0_tryGifts 31 = .ok (.invokevirtual 18, 3) := by decide +kernel
theorem dX0_tryGifts_34 : decode cX0_tryGifts 34 = .ok (.aload_n 0, 1) := by decide +kernel
theorem dX0_tryGifts_35 : decode cX0_tryGifts 35 = .ok (.getfield 12, 3) := by decide +kernel
theorem dX0_tryGifts_38 : decode cX0_tryGifts 38 = .ok (.aload_n 1, 1) := by decide +kernel
theorem dX0_tryGifts_39 : decode cX0_tryGifts 39 = .ok (.iload 4, 2) := by decide +kernel
theorem dX0_tryGifts_41 : decode cX0_tryGifts 41 = .ok (.iload 5, 2) := by decide +kernel
theorem dX0_tryGifts_43 : decode cX0_tryGifts 43 = .ok (.iload 6, 2) := by decide +kernel
theorem dX0_tryGifts_45 : decode cX0_tryGifts 45 = .ok (.iload 7, 2) := by decide +kernel
theorem dX0_tryGifts_47 : decode cX0_tryGifts 47 = .ok (.invokevirtual 68, 3) := by decide +kernel
theorem dX0_tryGifts_50 : decode cX0_tryGifts 50 = .ok (.aload_n 0, 1) := by decide +kernel
theorem dX0_tryGifts_51 : decode cX0_tryGifts 51 = .ok (.getfield 12, 3) := by decide +kernel
theorem dX0_tryGifts_54 : decode cX0_tryGifts 54 = .ok (.bipush 60, 2) := by decide +kernel
theorem dX0_tryGifts_56 : decode cX0_tryGifts 56 = .ok (.aload_n 1, 1) := by decide +kernel
theorem dX0_tryGifts_57 : decode cX0_tryGifts 57 = .ok (.aload_n 3, 1) := by decide +kernel
theorem dX0_tryGifts_58 : decode cX0_tryGifts 58 = .ok (.invokevirtual 22, 3) := by decide +kernel
theorem dX0_tryGifts_61 : decode cX0_tryGifts 61 = .ok (.aload_n 0, 1) := by decide +kernel
theorem dX0_tryGifts_62 : decode cX0_tryGifts 62 = .ok (.getfield 12, 3) := by decide +kernel
theorem dX0_tryGifts_65 : decode cX0_tryGifts 65 = .ok (.aload_n 1, 1) := by decide +kernel
theorem dX0_tryGifts_66 : decode cX0_tryGifts 66 = .ok (.invokevirtual 42, 3) := by decide +kernel
theorem dX0_tryGifts_69 : decode cX0_tryGifts 69 = .ok (.istore 8, 2) := by decide +kernel
theorem dX0_tryGifts_71 : decode cX0_tryGifts 71 = .ok (.iload 8, 2) := by decide +kernel
theorem dX0_tryGifts_73 : decode cX0_tryGifts 73 = .ok (.aload_n 0, 1) := by decide +kernel
theorem dX0_tryGifts_74 : decode cX0_tryGifts 74 = .ok (.getfield 46, 3) := by decide +kernel
theorem dX0_tryGifts_77 : decode cX0_tryGifts 77 = .ok (.if_icmp .ge 34, 3) := by decide +kernel
theorem dX0_tryGifts_80 : decode cX0_tryGifts 80 = .ok (.aload_n 0, 1) := by decide +kernel
theorem dX0_tryGifts_81 : decode cX0_tryGifts 81 = .ok (.iload 8, 2) := by decide +kernel
theorem dX0_tryGifts_83 : decode cX0_tryGifts 83 = .ok (.putfield 46, 3) := by decide +kernel
theorem dX0_tryGifts_86 : decode cX0_tryGifts 86 = .ok (.aload_n 0, 1) := by decide +kernel
theorem dX0_tryGifts_87 : decode cX0_tryGifts 87 = .ok (.sipush 1000, 3) := by decide +kernel
theorem dX0_tryGifts_90 : decode cX0_tryGifts 90 = .ok (.iload 4, 2) := by decide +kernel
theorem dX0_tryGifts_92 : decode cX0_tryGifts 92 = .ok (.imul, 1) := by decide +kernel
theorem dX0_tryGifts_93 : decode cX0_tryGifts 93 = .ok (.bipush 100, 2) := by decide +kernel
theorem dX0_tryGifts_95 : decode cX0_tryGifts 95 = .ok (.iload 5, 2) := by decide +kernel
theorem dX0_tryGifts_97 : decode cX0_tryGifts 97 = .ok (.imul, 1) := by decide +kernel
theorem dX0_tryGifts_98 : decode cX0_tryGifts 98 = .ok (.iadd, 1) := by decide +kernel
theorem dX0_tryGifts_99 : decode cX0_tryGifts 99 = .ok (.bipush 10, 2) := by decide +kernel
theorem dX0_tryGifts_101 : decode cX0_tryGifts 101 = .ok (.iload 6, 2) := by decide +kernel
theorem dX0_tryGifts_103 : decode cX0_tryGifts 103 = .ok (.imul, 1) := by decide +kernel
theorem dX0_tryGifts_104 : decode cX0_tryGifts 104 = .ok (.iadd, 1) := by decide +kernel
theorem dX0_tryGifts_105 : decode cX0_tryGifts 105 = .ok (.iload 7, 2) := by decide +kernel
theorem dX0_tryGifts_107 : decode cX0_tryGifts 107 = .ok (.iadd, 1) := by decide +kernel
theorem dX0_tryGifts_108 : decode cX0_tryGifts 108 = .ok (.putfield 49, 3) := by decide +kernel
theorem dX0_tryGifts_111 : decode cX0_tryGifts 111 = .ok (.iinc 7 1, 3) := by decide +kernel
theorem dX0_tryGifts_114 : decode cX0_tryGifts 114 = .ok (.goto (-111), 3) := by decide +kernel
theorem dX0_tryGifts_117 : decode cX0_tryGifts 117 = .ok (.return_, 1) := by decide +kernel
theorem lkX0_tryGifts_12 : Cond.fieldLink RX0 12 "LeftAtFive$Ahead" "five" "LLeftAtFive$Kitchens;" ∈ wsX0_tryGifts := by decide +kernel
theorem lkX0_tryGifts_46 : Cond.fieldLink RX0 46 "LeftAtFive$Ahead" "leastWorth" "I" ∈ wsX0_tryGifts := by decide +kernel
theorem lkX0_tryGifts_49 : Cond.fieldLink RX0 49 "LeftAtFive$Ahead" "bestGift" "I" ∈ wsX0_tryGifts := by decide +kernel
theorem iwX0_tryGifts_X0 : ∀ w ∈ wsX00, w ∈ wsX0_tryGifts := by decide +kernel
set_option maxHeartbeats 2000000 in
set_option maxRecDepth 100000 in
theorem c_X0_tryGifts (l : Launch) (D : va_G) (q : Nat → ClassId) (ad : Nat → Nat) (τ0 : Int32) (τ1 : Int32) (τ2 : Int32) (τ3 : Int32) (τ4 : Nat) (sd : Nat → Nat) (X : Nat → Nat → Int32) (kd : Nat → Nat) (K : Nat → Int32) (md : Nat → Nat) (μ0 : Nat → Int32) (μ1 : Nat → Int32) (μ2 : Int32) (fd : Nat → Nat) (F : Nat → Int32) (S : Nat → Nat → Int32) (f : Nat) (t : Nat) (g : Nat) (wz : Int32) (hT : okT X S) (hMl : okM μ0 μ1 (S 11) (tn (S 8 0)) (-4)) (hK : okK K) (hf0 : f < (tn (S 5 0))) (ht0 : t < (tn (S 5 0))) (hft : ¬ f = t) (hg0 : g < (tn (S 2 0))) (hb0 : τ0 = (xgB (S 3) (S 4) (tn (S 2 0)) (tn (S 5 0)) (S 9) (S 10) (S 11) (tn (S 8 0)) (S 6) K wz (1000 * f + 100 * t + 10 * g)).1) (hb1 : τ1 = (xgB (S 3) (S 4) (tn (S 2 0)) (tn (S 5 0)) (S 9) (S 10) (S 11) (tn (S 8 0)) (S 6) K wz (1000 * f + 100 * t + 10 * g)).2) : xC l yX0_tryGifts wsX0_tryGifts ({ frames := 5, cells := 0, slots := 0, locals := 117 }) D (TY q) [w0 q ad τ0 τ1 τ2 τ3 (fd 0), wst q sd X, wk q kd K, w3 q md μ0 μ1 μ2, wk q fd F] [.ref (ad 0), .ref (sd 0), .ref (kd 0), .ref (md 0), .int (nI f), .int (nI t), .int (nI g)] (xQv D (TY q) (fun (_ : (Nat → Int32)) => True) (fun (u : (Nat → Int32)) => [w0 q ad (xgB (S 3) (S 4) (tn (S 2 0)) (tn (S 5 0)) (S 9) (S 10) (S 11) (tn (S 8 0)) (S 6) K wz (1000 * f + 100 * t + 10 * g + 10)).1 (xgB (S 3) (S 4) (tn (S 2 0)) (tn (S 5 0)) (S 9) (S 10) (S 11) (tn (S 8 0)) (S 6) K wz (1000 * f + 100 * t + 10 * g + 10)).2 τ2 τ3 (fd 0), wst q sd X, wk q kd K, w3 q md μ0 μ1 μ2, wk q fd u])) 0 0 := by
  refine x_enter (cc := cX0_tryGifts) (maxL := 9) (ret := none) (by decide) rfl (Nat.le_of_ble_eq_true rfl) ?_
  intro p e s m below meth c A ls H locs hfix hr hlocks hinit hM hl
  obtain ⟨hx, hb, hml, hown, hts⟩ := id hfix
  have hl : lv_has ls 9 [(0, .ref (ad 0)), (1, .ref (sd 0)), (2, .ref (kd 0)), (3, .ref (md 0)), (4, .int (nI f)), (5, .int (nI t)), (6, .int (nI g))] := hl
  have hK25 := hK.1.2
  have hTb0 := okT_0b hT
  have hTb1 := okT_1b hT
  have hxa := xap_nat (okT_cb hT hf0) (okT_cb hT ht0)
  have hk1 := xgB_skip (wo := S 3) (kd := S 4) (G := (tn (S 2 0))) (nH := (tn (S 5 0))) (ei := S 9) (eo := S 10) (pa := S 11) (E := (tn (S 8 0))) (sp := S 6) (K := K) (w0 := wz) (a := 1000 * f + 100 * t + 10 * g) (b := (1000 * f + 100 * t + 10 * g + 1)) (by omega) (fun j h1 h2 z => z.2.2.2.2.1 (by omega))
  refine lv_iconst (v := nI 1) hx hb dX0_tryGifts_0 (by decide) ?_
  refine lv_istore (lv' := [(7, .int (nI 1)), (0, .ref (ad 0)), (1, .ref (sd 0)), (2, .ref (kd 0)), (3, .ref (md 0)), (4, .int (nI f)), (5, .int (nI t)), (6, .int (nI g))]) hx hb dX0_tryGifts_1 hl (by decide) rfl (fun ls hl => ?_)
  have e2 : ((τ0) : Int32) = ((xgB (S 3) (S 4) (tn (S 2 0)) (tn (S 5 0)) (S 9) (S 10) (S 11) (tn (S 8 0)) (S 6) K wz (1000 * f + 100 * t + 10 * g + 1)).1) := by (exact hb0.trans (congrArg Prod.fst hk1).symm)
  have hM : xM D (TY q) [w0 q ad (xgB (S 3) (S 4) (tn (S 2 0)) (tn (S 5 0)) (S 9) (S 10) (S 11) (tn (S 8 0)) (S 6) K wz (1000 * f + 100 * t + 10 * g + 1)).1 τ1 τ2 τ3 (fd 0), wst q sd X, wk q kd K, w3 q md μ0 μ1 μ2, wk q fd F] A s.heap s H locs := Eq.mp (congrArg (fun z9 => xM D (TY q) [w0 q ad z9 τ1 τ2 τ3 (fd 0), wst q sd X, wk q kd K, w3 q md μ0 μ1 μ2, wk q fd F] A s.heap s H locs) e2) hM
  have e3 : ((τ1) : Int32) = ((xgB (S 3) (S 4) (tn (S 2 0)) (tn (S 5 0)) (S 9) (S 10) (S 11) (tn (S 8 0)) (S 6) K wz (1000 * f + 100 * t + 10 * g + 1)).2) := by (exact hb1.trans (congrArg Prod.snd hk1).symm)
  have hM : xM D (TY q) [w0 q ad (xgB (S 3) (S 4) (tn (S 2 0)) (tn (S 5 0)) (S 9) (S 10) (S 11) (tn (S 8 0)) (S 6) K wz (1000 * f + 100 * t + 10 * g + 1)).1 (xgB (S 3) (S 4) (tn (S 2 0)) (tn (S 5 0)) (S 9) (S 10) (S 11) (tn (S 8 0)) (S 6) K wz (1000 * f + 100 * t + 10 * g + 1)).2 τ2 τ3 (fd 0), wst q sd X, wk q kd K, w3 q md μ0 μ1 μ2, wk q fd F] A s.heap s H locs := Eq.mp (congrArg (fun z9 => xM D (TY q) [w0 q ad (xgB (S 3) (S 4) (tn (S 2 0)) (tn (S 5 0)) (S 9) (S 10) (S 11) (tn (S 8 0)) (S 6) K wz (1000 * f + 100 * t + 10 * g + 1)).1 z9 τ2 τ3 (fd 0), wst q sd X, wk q kd K, w3 q md μ0 μ1 μ2, wk q fd F] A s.heap s H locs) e3) hM
  refine x_loop (ι := Nat × (Nat → Int32)) (fun z8 => [(0, .ref (ad 0)), (1, .ref (sd 0)), (2, .ref (kd 0)), (3, .ref (md 0)), (4, .int (nI f)), (5, .int (nI t)), (6, .int (nI g)), (7, .int (nI z8.1))]) (fun z8 => [w0 q ad (xgB (S 3) (S 4) (tn (S 2 0)) (tn (S 5 0)) (S 9) (S 10) (S 11) (tn (S 8 0)) (S 6) K wz (1000 * f + 100 * t + 10 * g + z8.1)).1 (xgB (S 3) (S 4) (tn (S 2 0)) (tn (S 5 0)) (S 9) (S 10) (S 11) (tn (S 8 0)) (S 6) K wz (1000 * f + 100 * t + 10 * g + z8.1)).2 τ2 τ3 (fd 0), wst q sd X, wk q kd K, w3 q md μ0 μ1 μ2, wk q fd z8.2]) (fun z8 => 1 ≤ z8.1 ∧ z8.1 ≤ 10) (fun z8 => 10 - z8.1) (1, F) (by omega) hM (lv_sub hl [1, 2, 3, 4, 5, 6, 7, 0] rfl) ?_
  intro ⟨n, v⟩ hI5 ih4 H locs hM ls hl
  have hM : xM D (TY q) [w0 q ad (xgB (S 3) (S 4) (tn (S 2 0)) (tn (S 5 0)) (S 9) (S 10) (S 11) (tn (S 8 0)) (S 6) K wz (1000 * f + 100 * t + 10 * g + n)).1 (xgB (S 3) (S 4) (tn (S 2 0)) (tn (S 5 0)) (S 9) (S 10) (S 11) (tn (S 8 0)) (S 6) K wz (1000 * f + 100 * t + 10 * g + n)).2 τ2 τ3 (fd 0), wst q sd X, wk q kd K, w3 q md μ0 μ1 μ2, wk q fd v] A s.heap s H locs := hM
  have hl : lv_has ls 9 [(0, .ref (ad 0)), (1, .ref (sd 0)), (2, .ref (kd 0)), (3, .ref (md 0)), (4, .int (nI f)), (5, .int (nI t)), (6, .int (nI g)), (7, .int (nI n))] := hl
  have hI5 : 1 ≤ n ∧ n ≤ 10 := hI5
  obtain ⟨hI5_0, hI5_1⟩ := id hI5
  try dsimp only
  refine lv_iload hx hb dX0_tryGifts_3 (lv_at hl 7 rfl) ?_
  refine lv_bipush (v := nI 9) hx hb dX0_tryGifts_5 (by decide) ?_
  refine x_icmp_gt (x := n) (y := 9) (tgt := 117) hx hb (by omega) (by omega) dX0_tryGifts_7 (by decide) (fun c6 => ?_) (fun c6 => ?_)
  · have e7 : (((xgB (S 3) (S 4) (tn (S 2 0)) (tn (S 5 0)) (S 9) (S 10) (S 11) (tn (S 8 0)) (S 6) K wz (1000 * f + 100 * t + 10 * g + n)).1) : Int32) = ((xgB (S 3) (S 4) (tn (S 2 0)) (tn (S 5 0)) (S 9) (S 10) (S 11) (tn (S 8 0)) (S 6) K wz (1000 * f + 100 * t + 10 * g + 10)).1) := by (first | exact congrArg Prod.fst (xarr_gt hK hxa (by omega) (by omega) (by omega) (by assumption)) | (rw [show n = 10 by omega]))
    have hM : xM D (TY q) [w0 q ad (xgB (S 3) (S 4) (tn (S 2 0)) (tn (S 5 0)) (S 9) (S 10) (S 11) (tn (S 8 0)) (S 6) K wz (1000 * f + 100 * t + 10 * g + 10)).1 (xgB (S 3) (S 4) (tn (S 2 0)) (tn (S 5 0)) (S 9) (S 10) (S 11) (tn (S 8 0)) (S 6) K wz (1000 * f + 100 * t + 10 * g + n)).2 τ2 τ3 (fd 0), wst q sd X, wk q kd K, w3 q md μ0 μ1 μ2, wk q fd v] A s.heap s H locs := Eq.mp (congrArg (fun z9 => xM D (TY q) [w0 q ad z9 (xgB (S 3) (S 4) (tn (S 2 0)) (tn (S 5 0)) (S 9) (S 10) (S 11) (tn (S 8 0)) (S 6) K wz (1000 * f + 100 * t + 10 * g + n)).2 τ2 τ3 (fd 0), wst q sd X, wk q kd K, w3 q md μ0 μ1 μ2, wk q fd v] A s.heap s H locs) e7) hM
    have e8 : (((xgB (S 3) (S 4) (tn (S 2 0)) (tn (S 5 0)) (S 9) (S 10) (S 11) (tn (S 8 0)) (S 6) K wz (1000 * f + 100 * t + 10 * g + n)).2) : Int32) = ((xgB (S 3) (S 4) (tn (S 2 0)) (tn (S 5 0)) (S 9) (S 10) (S 11) (tn (S 8 0)) (S 6) K wz (1000 * f + 100 * t + 10 * g + 10)).2) := by (first | exact congrArg Prod.snd (xarr_gt hK hxa (by omega) (by omega) (by omega) (by assumption)) | (rw [show n = 10 by omega]))
    have hM : xM D (TY q) [w0 q ad (xgB (S 3) (S 4) (tn (S 2 0)) (tn (S 5 0)) (S 9) (S 10) (S 11) (tn (S 8 0)) (S 6) K wz (1000 * f + 100 * t + 10 * g + 10)).1 (xgB (S 3) (S 4) (tn (S 2 0)) (tn (S 5 0)) (S 9) (S 10) (S 11) (tn (S 8 0)) (S 6) K wz (1000 * f + 100 * t + 10 * g + 10)).2 τ2 τ3 (fd 0), wst q sd X, wk q kd K, w3 q md μ0 μ1 μ2, wk q fd v] A s.heap s H locs := Eq.mp (congrArg (fun z9 => xM D (TY q) [w0 q ad (xgB (S 3) (S 4) (tn (S 2 0)) (tn (S 5 0)) (S 9) (S 10) (S 11) (tn (S 8 0)) (S 6) K wz (1000 * f + 100 * t + 10 * g + 10)).1 z9 τ2 τ3 (fd 0), wst q sd X, wk q kd K, w3 q md μ0 μ1 μ2, wk q fd v] A s.heap s H locs) e8) hM
    exact x_vret hx hb hr hlocks v hM trivial dX0_tryGifts_117
  · refine lv_aload_n hx hb dX0_tryGifts_10 rfl (lv_at hl 2 rfl) ?_
    refine lv_aload_n hx hb dX0_tryGifts_11 rfl (lv_at hl 1 rfl) ?_
    refine lv_iload hx hb dX0_tryGifts_12 (lv_at hl 4 rfl) ?_
    refine lv_iload hx hb dX0_tryGifts_14 (lv_at hl 5 rfl) ?_
    refine lv_iload hx hb dX0_tryGifts_16 (lv_at hl 6 rfl) ?_
    refine lv_iload hx hb dX0_tryGifts_18 (lv_at hl 7 rfl) ?_
    refine x_calli (bc := [wk q kd K, wst q sd X]) (br := [w0 q ad (xgB (S 3) (S 4) (tn (S 2 0)) (tn (S 5 0)) (S 9) (S 10) (S 11) (tn (S 8 0)) (S 6) K wz (1000 * f + 100 * t + 10 * g + n)).1 (xgB (S 3) (S 4) (tn (S 2 0)) (tn (S 5 0)) (S 9) (S 10) (S 11) (tn (S 8 0)) (S 6) K wz (1000 * f + 100 * t + 10 * g + n)).2 τ2 τ3 (fd 0), w3 q md μ0 μ1 μ2, wk q fd v]) hM [2, 1] [0, 3, 4] rfl rfl rfl (by decide) (x_runV (As := [.ref (sd 0), .int (nI f), .int (nI t), .int (nI g), .int (nI n)]) (rest := []) hfix (c_X1_arrivalOf l D q kd K sd X S f t g (nI n) hT (by omega) (by omega) (by omega) hK) (cwV 5 hts gX0_tryGifts_X1_arrivalOf rfl rfl rfl (by decide +kernel) ⟨Nat.le_of_ble_eq_true rfl, Nat.le_of_ble_eq_true rfl⟩) hM [2, 1] rfl rfl 2 0 rfl rfl rfl rfl rfl hl.1 rfl (Nat.le_of_ble_eq_true rfl) dX0_tryGifts_20 ⟨Nat.le_of_ble_eq_true rfl, Nat.le_of_ble_eq_true rfl⟩) (fun r u H locs hq hM => ?_)
    subst hq
    have hM : xM D (TY q) [w0 q ad (xgB (S 3) (S 4) (tn (S 2 0)) (tn (S 5 0)) (S 9) (S 10) (S 11) (tn (S 8 0)) (S 6) K wz (1000 * f + 100 * t + 10 * g + n)).1 (xgB (S 3) (S 4) (tn (S 2 0)) (tn (S 5 0)) (S 9) (S 10) (S 11) (tn (S 8 0)) (S 6) K wz (1000 * f + 100 * t + 10 * g + n)).2 τ2 τ3 (fd 0), w3 q md μ0 μ1 μ2, wk q fd v, wk q kd K, wst q sd X] A s.heap s H locs := hM
    have hM : xM D (TY q) [w0 q ad (xgB (S 3) (S 4) (tn (S 2 0)) (tn (S 5 0)) (S 9) (S 10) (S 11) (tn (S 8 0)) (S 6) K wz (1000 * f + 100 * t + 10 * g + n)).1 (xgB (S 3) (S 4) (tn (S 2 0)) (tn (S 5 0)) (S 9) (S 10) (S 11) (tn (S 8 0)) (S 6) K wz (1000 * f + 100 * t + 10 * g + n)).2 τ2 τ3 (fd 0), wst q sd X, wk q kd K, w3 q md μ0 μ1 μ2, wk q fd v] A s.heap s H locs := hM.sel [0, 4, 3, 1, 2] rfl rfl
    refine lv_if_lt (tgt := 117) hx hb dX0_tryGifts_23 (by decide) (fun c9 => ?_) (fun c9 => ?_)
    · have e10 : (((xgB (S 3) (S 4) (tn (S 2 0)) (tn (S 5 0)) (S 9) (S 10) (S 11) (tn (S 8 0)) (S 6) K wz (1000 * f + 100 * t + 10 * g + n)).1) : Int32) = ((xgB (S 3) (S 4) (tn (S 2 0)) (tn (S 5 0)) (S 9) (S 10) (S 11) (tn (S 8 0)) (S 6) K wz (1000 * f + 100 * t + 10 * g + 10)).1) := by (first | exact congrArg Prod.fst (xarr_gt hK hxa (by omega) (by omega) (by omega) (by assumption)) | (rw [show n = 10 by omega]))
      have hM : xM D (TY q) [w0 q ad (xgB (S 3) (S 4) (tn (S 2 0)) (tn (S 5 0)) (S 9) (S 10) (S 11) (tn (S 8 0)) (S 6) K wz (1000 * f + 100 * t + 10 * g + 10)).1 (xgB (S 3) (S 4) (tn (S 2 0)) (tn (S 5 0)) (S 9) (S 10) (S 11) (tn (S 8 0)) (S 6) K wz (1000 * f + 100 * t + 10 * g + n)).2 τ2 τ3 (fd 0), wst q sd X, wk q kd K, w3 q md μ0 μ1 μ2, wk q fd v] A s.heap s H locs := Eq.mp (congrArg (fun z9 => xM D (TY q) [w0 q ad z9 (xgB (S 3) (S 4) (tn (S 2 0)) (tn (S 5 0)) (S 9) (S 10) (S 11) (tn (S 8 0)) (S 6) K wz (1000 * f + 100 * t + 10 * g + n)).2 τ2 τ3 (fd 0), wst q sd X, wk q kd K, w3 q md μ0 μ1 μ2, wk q fd v] A s.heap s H locs) e10) hM
      have e11 : (((xgB (S 3) (S 4) (tn (S 2 0)) (tn (S 5 0)) (S 9) (S 10) (S 11) (tn (S 8 0)) (S 6) K wz (1000 * f + 100 * t + 10 * g + n)).2) : Int32) = ((xgB (S 3) (S 4) (tn (S 2 0)) (tn (S 5 0)) (S 9) (S 10) (S 11) (tn (S 8 0)) (S 6) K wz (1000 * f + 100 * t + 10 * g + 10)).2) := by (first | exact congrArg Prod.snd (xarr_gt hK hxa (by omega) (by omega) (by omega) (by assumption)) | (rw [show n = 10 by omega]))
      have hM : xM D (TY q) [w0 q ad (xgB (S 3) (S 4) (tn (S 2 0)) (tn (S 5 0)) (S 9) (S 10) (S 11) (tn (S 8 0)) (S 6) K wz (1000 * f + 100 * t + 10 * g + 10)).1 (xgB (S 3) (S 4) (tn (S 2 0)) (tn (S 5 0)) (S 9) (S 10) (S 11) (tn (S 8 0)) (S 6) K wz (1000 * f + 100 * t + 10 * g + 10)).2 τ2 τ3 (fd 0), wst q sd X, wk q kd K, w3 q md μ0 μ1 μ2, wk q fd v] A s.heap s H locs := Eq.mp (congrArg (fun z9 => xM D (TY q) [w0 q ad (xgB (S 3) (S 4) (tn (S 2 0)) (tn (S 5 0)) (S 9) (S 10) (S 11) (tn (S 8 0)) (S 6) K wz (1000 * f + 100 * t + 10 * g + 10)).1 z9 τ2 τ3 (fd 0), wst q sd X, wk q kd K, w3 q md μ0 μ1 μ2, wk q fd v] A s.heap s H locs) e11) hM
      exact x_vret hx hb hr hlocks v hM trivial dX0_tryGifts_117
    · have hre := xarr_ok (by assumption)
      have hw6 := xref_w hK (by rw [hre]; decide)
      have hok : xgOk (S 6) (tn (S 2 0)) (tn (S 5 0)) K (1000 * f + 100 * t + 10 * g + n) := xgOk_at (by omega) (by omega) (by omega) hf0 ht0 hft hg0 (by omega) (hre.trans rfl)
      have hgv := okK_give (d := xap (S 6 f) (S 6 t)) (n := nI n) (fr := f) (to := t) (g := g) hK (by omega) (by omega) (by omega) hw6
      refine lv_aload_n hx hb dX0_tryGifts_26 rfl (lv_at hl 0 rfl) ?_
      refine x_get hx hb hts iwX0_tryGifts_X0 hown hM 0 0 rfl rfl rfl 4 (by decide) (hts _ lkX0_tryGifts_12) (fun _ h => h) rfl dX0_tryGifts_27 ?_
      refine lv_aload_n hx hb dX0_tryGifts_30 rfl (lv_at hl 2 rfl) ?_
      refine x_callv (bc := [wk q fd v, wk q kd K]) (br := [w0 q ad (xgB (S 3) (S 4) (tn (S 2 0)) (tn (S 5 0)) (S 9) (S 10) (S 11) (tn (S 8 0)) (S 6) K wz (1000 * f + 100 * t + 10 * g + n)).1 (xgB (S 3) (S 4) (tn (S 2 0)) (tn (S 5 0)) (S 9) (S 10) (S 11) (tn (S 8 0)) (S 6) K wz (1000 * f + 100 * t + 10 * g + n)).2 τ2 τ3 (fd 0), wst q sd X, w3 q md μ0 μ1 μ2]) hM [4, 2] [0, 1, 3] rfl rfl rfl (by decide) (x_runV (As := [.ref (kd 0)]) (rest := []) hfix (c_X1_copy l D q fd v kd K) (cwV 1 hts gX0_tryGifts_X1_copy rfl rfl rfl (by decide +kernel) ⟨Nat.le_of_ble_eq_true rfl, Nat.le_of_ble_eq_true rfl⟩) hM [4, 2] rfl rfl 4 0 rfl rfl rfl rfl rfl hl.1 rfl (Nat.le_of_ble_eq_true rfl) dX0_tryGifts_31 ⟨Nat.le_of_ble_eq_true rfl, Nat.le_of_ble_eq_true rfl⟩) (fun u H locs hq hM => ?_)
      have hM : xM D (TY q) [w0 q ad (xgB (S 3) (S 4) (tn (S 2 0)) (tn (S 5 0)) (S 9) (S 10) (S 11) (tn (S 8 0)) (S 6) K wz (1000 * f + 100 * t + 10 * g + n)).1 (xgB (S 3) (S 4) (tn (S 2 0)) (tn (S 5 0)) (S 9) (S 10) (S 11) (tn (S 8 0)) (S 6) K wz (1000 * f + 100 * t + 10 * g + n)).2 τ2 τ3 (fd 0), wst q sd X, w3 q md μ0 μ1 μ2, wk q fd K, wk q kd K] A s.heap s H locs := hM
      have hM : xM D (TY q) [w0 q ad (xgB (S 3) (S 4) (tn (S 2 0)) (tn (S 5 0)) (S 9) (S 10) (S 11) (tn (S 8 0)) (S 6) K wz (1000 * f + 100 * t + 10 * g + n)).1 (xgB (S 3) (S 4) (tn (S 2 0)) (tn (S 5 0)) (S 9) (S 10) (S 11) (tn (S 8 0)) (S 6) K wz (1000 * f + 100 * t + 10 * g + n)).2 τ2 τ3 (fd 0), wst q sd X, wk q kd K, w3 q md μ0 μ1 μ2, wk q fd K] A s.heap s H locs := hM.sel [0, 1, 4, 2, 3] rfl rfl
      refine lv_aload_n hx hb dX0_tryGifts_34 rfl (lv_at hl 0 rfl) ?_
      refine x_get hx hb hts iwX0_tryGifts_X0 hown hM 0 0 rfl rfl rfl 4 (by decide) (hts _ lkX0_tryGifts_12) (fun _ h => h) rfl dX0_tryGifts_35 ?_
      refine lv_aload_n hx hb dX0_tryGifts_38 rfl (lv_at hl 1 rfl) ?_
      refine lv_iload hx hb dX0_tryGifts_39 (lv_at hl 4 rfl) ?_
      refine lv_iload hx hb dX0_tryGifts_41 (lv_at hl 5 rfl) ?_
      refine lv_iload hx hb dX0_tryGifts_43 (lv_at hl 6 rfl) ?_
      refine lv_iload hx hb dX0_tryGifts_45 (lv_at hl 7 rfl) ?_
      refine x_callv (bc := [wk q fd K, wst q sd X]) (br := [w0 q ad (xgB (S 3) (S 4) (tn (S 2 0)) (tn (S 5 0)) (S 9) (S 10) (S 11) (tn (S 8 0)) (S 6) K wz (1000 * f + 100 * t + 10 * g + n)).1 (xgB (S 3) (S 4) (tn (S 2 0)) (tn (S 5 0)) (S 9) (S 10) (S 11) (tn (S 8 0)) (S 6) K wz (1000 * f + 100 * t + 10 * g + n)).2 τ2 τ3 (fd 0), wk q kd K, w3 q md μ0 μ1 μ2]) hM [4, 1] [0, 2, 3] rfl rfl rfl (by decide) (x_runV (As := [.ref (sd 0), .int (nI f), .int (nI t), .int (nI g), .int (nI n)]) (rest := []) hfix (c_X1_send l D q fd K sd X S f t g (nI n) hT (by omega) (by omega) (by omega) hK hw6) (cwV 5 hts gX0_tryGifts_X1_send rfl rfl rfl (by decide +kernel) ⟨Nat.le_of_ble_eq_true rfl, Nat.le_of_ble_eq_true rfl⟩) hM [4, 1] rfl rfl 4 0 rfl rfl rfl rfl rfl hl.1 rfl (Nat.le_of_ble_eq_true rfl) dX0_tryGifts_47 ⟨Nat.le_of_ble_eq_true rfl, Nat.le_of_ble_eq_true rfl⟩) (fun u H locs hq hM => ?_)
      have hM : xM D (TY q) [w0 q ad (xgB (S 3) (S 4) (tn (S 2 0)) (tn (S 5 0)) (S 9) (S 10) (S 11) (tn (S 8 0)) (S 6) K wz (1000 * f + 100 * t + 10 * g + n)).1 (xgB (S 3) (S 4) (tn (S 2 0)) (tn (S 5 0)) (S 9) (S 10) (S 11) (tn (S 8 0)) (S 6) K wz (1000 * f + 100 * t + 10 * g + n)).2 τ2 τ3 (fd 0), wk q kd K, w3 q md μ0 μ1 μ2, wk q fd (kGive K (xap (S 6 f) (S 6 t)) f t g (nI n)), wst q sd X] A s.heap s H locs := hM
      have hM : xM D (TY q) [w0 q ad (xgB (S 3) (S 4) (tn (S 2 0)) (tn (S 5 0)) (S 9) (S 10) (S 11) (tn (S 8 0)) (S 6) K wz (1000 * f + 100 * t + 10 * g + n)).1 (xgB (S 3) (S 4) (tn (S 2 0)) (tn (S 5 0)) (S 9) (S 10) (S 11) (tn (S 8 0)) (S 6) K wz (1000 * f + 100 * t + 10 * g + n)).2 τ2 τ3 (fd 0), wst q sd X, wk q kd K, w3 q md μ0 μ1 μ2, wk q fd (kGive K (xap (S 6 f) (S 6 t)) f t g (nI n))] A s.heap s H locs := hM.sel [0, 4, 1, 2, 3] rfl rfl
      refine lv_aload_n hx hb dX0_tryGifts_50 rfl (lv_at hl 0 rfl) ?_
      refine x_get hx hb hts iwX0_tryGifts_X0 hown hM 0 0 rfl rfl rfl 4 (by decide) (hts _ lkX0_tryGifts_12) (fun _ h => h) rfl dX0_tryGifts_51 ?_
      refine lv_bipush (v := nI 60) hx hb dX0_tryGifts_54 (by decide) ?_
      refine lv_aload_n hx hb dX0_tryGifts_56 rfl (lv_at hl 1 rfl) ?_
      refine lv_aload_n hx hb dX0_tryGifts_57 rfl (lv_at hl 3 rfl) ?_
      refine x_callv (bc := [wk q fd (kGive K (xap (S 6 f) (S 6 t)) f t g (nI n)), wst q sd X, w3 q md μ0 μ1 μ2]) (br := [w0 q ad (xgB (S 3) (S 4) (tn (S 2 0)) (tn (S 5 0)) (S 9) (S 10) (S 11) (tn (S 8 0)) (S 6) K wz (1000 * f + 100 * t + 10 * g + n)).1 (xgB (S 3) (S 4) (tn (S 2 0)) (tn (S 5 0)) (S 9) (S 10) (S 11) (tn (S 8 0)) (S 6) K wz (1000 * f + 100 * t + 10 * g + n)).2 τ2 τ3 (fd 0), wk q kd K]) hM [4, 1, 3] [0, 2] rfl rfl rfl (by decide) (x_runV (As := [.int (nI 60), .ref (sd 0), .ref (md 0)]) (rest := []) hfix (c_X1_passUntil l D q fd (kGive K (xap (S 6 f) (S 6 t)) f t g (nI n)) sd X md μ0 μ1 μ2 S (-4) 60 hT hMl hgv.1 (by rw [hgv.2]; omega)) (cwV 3 hts gX0_tryGifts_X1_passUntil rfl rfl rfl (by decide +kernel) ⟨Nat.le_of_ble_eq_true rfl, Nat.le_of_ble_eq_true rfl⟩) hM [4, 1, 3] rfl rfl 4 0 rfl rfl rfl rfl rfl hl.1 rfl (Nat.le_of_ble_eq_true rfl) dX0_tryGifts_58 ⟨Nat.le_of_ble_eq_true rfl, Nat.le_of_ble_eq_true rfl⟩) (fun u H locs hq hM => ?_)
      have hM : xM D (TY q) [w0 q ad (xgB (S 3) (S 4) (tn (S 2 0)) (tn (S 5 0)) (S 9) (S 10) (S 11) (tn (S 8 0)) (S 6) K wz (1000 * f + 100 * t + 10 * g + n)).1 (xgB (S 3) (S 4) (tn (S 2 0)) (tn (S 5 0)) (S 9) (S 10) (S 11) (tn (S 8 0)) (S 6) K wz (1000 * f + 100 * t + 10 * g + n)).2 τ2 τ3 (fd 0), wk q kd K, wk q fd (kGoN (S 4) (tn (S 2 0)) (tn (S 5 0)) (S 9) (S 10) (S 11) (tn (S 8 0)) (-4) ((kGive K (xap (S 6 f) (S 6 t)) f t g (nI n)), -4, nI 0) (60 - tn ((kGive K (xap (S 6 f) (S 6 t)) f t g (nI n)) 25))).1, wst q sd X, w3 q md μ0 μ1 μ2] A s.heap s H locs := hM
      have hM : xM D (TY q) [w0 q ad (xgB (S 3) (S 4) (tn (S 2 0)) (tn (S 5 0)) (S 9) (S 10) (S 11) (tn (S 8 0)) (S 6) K wz (1000 * f + 100 * t + 10 * g + n)).1 (xgB (S 3) (S 4) (tn (S 2 0)) (tn (S 5 0)) (S 9) (S 10) (S 11) (tn (S 8 0)) (S 6) K wz (1000 * f + 100 * t + 10 * g + n)).2 τ2 τ3 (fd 0), wst q sd X, wk q kd K, w3 q md μ0 μ1 μ2, wk q fd (kGoN (S 4) (tn (S 2 0)) (tn (S 5 0)) (S 9) (S 10) (S 11) (tn (S 8 0)) (-4) ((kGive K (xap (S 6 f) (S 6 t)) f t g (nI n)), -4, nI 0) (60 - tn ((kGive K (xap (S 6 f) (S 6 t)) f t g (nI n)) 25))).1] A s.heap s H locs := hM.sel [0, 3, 1, 4, 2] rfl rfl
      refine lv_aload_n hx hb dX0_tryGifts_61 rfl (lv_at hl 0 rfl) ?_
      refine x_get hx hb hts iwX0_tryGifts_X0 hown hM 0 0 rfl rfl rfl 4 (by decide) (hts _ lkX0_tryGifts_12) (fun _ h => h) rfl dX0_tryGifts_62 ?_
      refine lv_aload_n hx hb dX0_tryGifts_65 rfl (lv_at hl 1 rfl) ?_
      refine x_calli (bc := [wk q fd (kGoN (S 4) (tn (S 2 0)) (tn (S 5 0)) (S 9) (S 10) (S 11) (tn (S 8 0)) (-4) ((kGive K (xap (S 6 f) (S 6 t)) f t g (nI n)), -4, nI 0) (60 - tn ((kGive K (xap (S 6 f) (S 6 t)) f t g (nI n)) 25))).1, wst q sd X]) (br := [w0 q ad (xgB (S 3) (S 4) (tn (S 2 0)) (tn (S 5 0)) (S 9) (S 10) (S 11) (tn (S 8 0)) (S 6) K wz (1000 * f + 100 * t + 10 * g + n)).1 (xgB (S 3) (S 4) (tn (S 2 0)) (tn (S 5 0)) (S 9) (S 10) (S 11) (tn (S 8 0)) (S 6) K wz (1000 * f + 100 * t + 10 * g + n)).2 τ2 τ3 (fd 0), wk q kd K, w3 q md μ0 μ1 μ2]) hM [4, 1] [0, 2, 3] rfl rfl rfl (by decide) (x_runV (As := [.ref (sd 0)]) (rest := []) hfix (c_X1_worthOfAll l D q fd (kGoN (S 4) (tn (S 2 0)) (tn (S 5 0)) (S 9) (S 10) (S 11) (tn (S 8 0)) (-4) ((kGive K (xap (S 6 f) (S 6 t)) f t g (nI n)), -4, nI 0) (60 - tn ((kGive K (xap (S 6 f) (S 6 t)) f t g (nI n)) 25))).1 sd X S hT) (cwV 1 hts gX0_tryGifts_X1_worthOfAll rfl rfl rfl (by decide +kernel) ⟨Nat.le_of_ble_eq_true rfl, Nat.le_of_ble_eq_true rfl⟩) hM [4, 1] rfl rfl 4 0 rfl rfl rfl rfl rfl hl.1 rfl (Nat.le_of_ble_eq_true rfl) dX0_tryGifts_66 ⟨Nat.le_of_ble_eq_true rfl, Nat.le_of_ble_eq_true rfl⟩) (fun r u H locs hq hM => ?_)
      subst hq
      have hM : xM D (TY q) [w0 q ad (xgB (S 3) (S 4) (tn (S 2 0)) (tn (S 5 0)) (S 9) (S 10) (S 11) (tn (S 8 0)) (S 6) K wz (1000 * f + 100 * t + 10 * g + n)).1 (xgB (S 3) (S 4) (tn (S 2 0)) (tn (S 5 0)) (S 9) (S 10) (S 11) (tn (S 8 0)) (S 6) K wz (1000 * f + 100 * t + 10 * g + n)).2 τ2 τ3 (fd 0), wk q kd K, w3 q md μ0 μ1 μ2, wk q fd (kGoN (S 4) (tn (S 2 0)) (tn (S 5 0)) (S 9) (S 10) (S 11) (tn (S 8 0)) (-4) ((kGive K (xap (S 6 f) (S 6 t)) f t g (nI n)), -4, nI 0) (60 - tn ((kGive K (xap (S 6 f) (S 6 t)) f t g (nI n)) 25))).1, wst q sd X] A s.heap s H locs := hM
      have hM : xM D (TY q) [w0 q ad (xgB (S 3) (S 4) (tn (S 2 0)) (tn (S 5 0)) (S 9) (S 10) (S 11) (tn (S 8 0)) (S 6) K wz (1000 * f + 100 * t + 10 * g + n)).1 (xgB (S 3) (S 4) (tn (S 2 0)) (tn (S 5 0)) (S 9) (S 10) (S 11) (tn (S 8 0)) (S 6) K wz (1000 * f + 100 * t + 10 * g + n)).2 τ2 τ3 (fd 0), wst q sd X, wk q kd K, w3 q md μ0 μ1 μ2, wk q fd (kGoN (S 4) (tn (S 2 0)) (tn (S 5 0)) (S 9) (S 10) (S 11) (tn (S 8 0)) (-4) ((kGive K (xap (S 6 f) (S 6 t)) f t g (nI n)), -4, nI 0) (60 - tn ((kGive K (xap (S 6 f) (S 6 t)) f t g (nI n)) 25))).1] A s.heap s H locs := hM.sel [0, 4, 1, 2, 3] rfl rfl
      refine lv_istore (lv' := [(8, .int (kWA (S 3) (S 4) (tn (S 2 0)) (tn (S 5 0)) (kGoN (S 4) (tn (S 2 0)) (tn (S 5 0)) (S 9) (S 10) (S 11) (tn (S 8 0)) (-4) ((kGive K (xap (S 6 f) (S 6 t)) f t g (nI n)), -4, nI 0) (60 - tn ((kGive K (xap (S 6 f) (S 6 t)) f t g (nI n)) 25))).1)), (0, .ref (ad 0)), (1, .ref (sd 0)), (2, .ref (kd 0)), (3, .ref (md 0)), (4, .int (nI f)), (5, .int (nI t)), (6, .int (nI g)), (7, .int (nI n))]) hx hb dX0_tryGifts_69 hl (by decide) rfl (fun ls hl => ?_)
      refine lv_iload hx hb dX0_tryGifts_71 (lv_at hl 0 rfl) ?_
      refine lv_aload_n hx hb dX0_tryGifts_73 rfl (lv_at hl 1 rfl) ?_
      refine x_get hx hb hts iwX0_tryGifts_X0 hown hM 0 0 rfl rfl rfl 1 (by decide) (hts _ lkX0_tryGifts_46) (fun _ h => h) rfl dX0_tryGifts_74 ?_
      refine lv_icmp_ge (tgt := 111) hx hb dX0_tryGifts_77 (by decide) (fun c12 => ?_) (fun c12 => ?_)
      · refine lv_iinc (v := nI (n + 1)) (lv' := [(7, .int (nI (n + 1))), (8, .int (kWA (S 3) (S 4) (tn (S 2 0)) (tn (S 5 0)) (kGoN (S 4) (tn (S 2 0)) (tn (S 5 0)) (S 9) (S 10) (S 11) (tn (S 8 0)) (-4) ((kGive K (xap (S 6 f) (S 6 t)) f t g (nI n)), -4, nI 0) (60 - tn ((kGive K (xap (S 6 f) (S 6 t)) f t g (nI n)) 25))).1)), (0, .ref (ad 0)), (1, .ref (sd 0)), (2, .ref (kd 0)), (3, .ref (md 0)), (4, .int (nI f)), (5, .int (nI t)), (6, .int (nI g))]) hx hb dX0_tryGifts_111 hl (k := 8) rfl (x_inc _ 1) (by decide) rfl (fun ls hl => ?_)
        refine lv_goto (tgt := 3) hx hb dX0_tryGifts_114 (by decide) ?_
        have e13 : (((xgB (S 3) (S 4) (tn (S 2 0)) (tn (S 5 0)) (S 9) (S 10) (S 11) (tn (S 8 0)) (S 6) K wz (1000 * f + 100 * t + 10 * g + n)).1) : Int32) = ((xgB (S 3) (S 4) (tn (S 2 0)) (tn (S 5 0)) (S 9) (S 10) (S 11) (tn (S 8 0)) (S 6) K wz (1000 * f + 100 * t + 10 * g + (n + 1))).1) := by (first | exact (congrArg Prod.fst (xgB_up (by omega) (by omega) (by omega) hok rfl (by assumption))).symm | exact (congrArg Prod.fst (xgB_no (by omega) (by omega) (by omega) rfl (by assumption))).symm)
        have hM : xM D (TY q) [w0 q ad (xgB (S 3) (S 4) (tn (S 2 0)) (tn (S 5 0)) (S 9) (S 10) (S 11) (tn (S 8 0)) (S 6) K wz (1000 * f + 100 * t + 10 * g + (n + 1))).1 (xgB (S 3) (S 4) (tn (S 2 0)) (tn (S 5 0)) (S 9) (S 10) (S 11) (tn (S 8 0)) (S 6) K wz (1000 * f + 100 * t + 10 * g + n)).2 τ2 τ3 (fd 0), wst q sd X, wk q kd K, w3 q md μ0 μ1 μ2, wk q fd (kGoN (S 4) (tn (S 2 0)) (tn (S 5 0)) (S 9) (S 10) (S 11) (tn (S 8 0)) (-4) ((kGive K (xap (S 6 f) (S 6 t)) f t g (nI n)), -4, nI 0) (60 - tn ((kGive K (xap (S 6 f) (S 6 t)) f t g (nI n)) 25))).1] A s.heap s H locs := Eq.mp (congrArg (fun z9 => xM D (TY q) [w0 q ad z9 (xgB (S 3) (S 4) (tn (S 2 0)) (tn (S 5 0)) (S 9) (S 10) (S 11) (tn (S 8 0)) (S 6) K wz (1000 * f + 100 * t + 10 * g + n)).2 τ2 τ3 (fd 0), wst q sd X, wk q kd K, w3 q md μ0 μ1 μ2, wk q fd (kGoN (S 4) (tn (S 2 0)) (tn (S 5 0)) (S 9) (S 10) (S 11) (tn (S 8 0)) (-4) ((kGive K (xap (S 6 f) (S 6 t)) f t g (nI n)), -4, nI 0) (60 - tn ((kGive K (xap (S 6 f) (S 6 t)) f t g (nI n)) 25))).1] A s.heap s H locs) e13) hM
        have e14 : (((xgB (S 3) (S 4) (tn (S 2 0)) (tn (S 5 0)) (S 9) (S 10) (S 11) (tn (S 8 0)) (S 6) K wz (1000 * f + 100 * t + 10 * g + n)).2) : Int32) = ((xgB (S 3) (S 4) (tn (S 2 0)) (tn (S 5 0)) (S 9) (S 10) (S 11) (tn (S 8 0)) (S 6) K wz (1000 * f + 100 * t + 10 * g + (n + 1))).2) := by (first | exact (congrArg Prod.snd (xgB_up (by omega) (by omega) (by omega) hok rfl (by assumption))).symm | exact (congrArg Prod.snd (xgB_no (by omega) (by omega) (by omega) rfl (by assumption))).symm)
        have hM : xM D (TY q) [w0 q ad (xgB (S 3) (S 4) (tn (S 2 0)) (tn (S 5 0)) (S 9) (S 10) (S 11) (tn (S 8 0)) (S 6) K wz (1000 * f + 100 * t + 10 * g + (n + 1))).1 (xgB (S 3) (S 4) (tn (S 2 0)) (tn (S 5 0)) (S 9) (S 10) (S 11) (tn (S 8 0)) (S 6) K wz (1000 * f + 100 * t + 10 * g + (n + 1))).2 τ2 τ3 (fd 0), wst q sd X, wk q kd K, w3 q md μ0 μ1 μ2, wk q fd (kGoN (S 4) (tn (S 2 0)) (tn (S 5 0)) (S 9) (S 10) (S 11) (tn (S 8 0)) (-4) ((kGive K (xap (S 6 f) (S 6 t)) f t g (nI n)), -4, nI 0) (60 - tn ((kGive K (xap (S 6 f) (S 6 t)) f t g (nI n)) 25))).1] A s.heap s H locs := Eq.mp (congrArg (fun z9 => xM D (TY q) [w0 q ad (xgB (S 3) (S 4) (tn (S 2 0)) (tn (S 5 0)) (S 9) (S 10) (S 11) (tn (S 8 0)) (S 6) K wz (1000 * f + 100 * t + 10 * g + (n + 1))).1 z9 τ2 τ3 (fd 0), wst q sd X, wk q kd K, w3 q md μ0 μ1 μ2, wk q fd (kGoN (S 4) (tn (S 2 0)) (tn (S 5 0)) (S 9) (S 10) (S 11) (tn (S 8 0)) (-4) ((kGive K (xap (S 6 f) (S 6 t)) f t g (nI n)), -4, nI 0) (60 - tn ((kGive K (xap (S 6 f) (S 6 t)) f t g (nI n)) 25))).1] A s.heap s H locs) e14) hM
        have hl : lv_has ls 9 [(0, .ref (ad 0)), (1, .ref (sd 0)), (2, .ref (kd 0)), (3, .ref (md 0)), (4, .int (nI f)), (5, .int (nI t)), (6, .int (nI g)), (7, .int (nI (n + 1)))] := lv_sub hl [2, 3, 4, 5, 6, 7, 8, 0] rfl
        exact ih4 (n + 1, (kGoN (S 4) (tn (S 2 0)) (tn (S 5 0)) (S 9) (S 10) (S 11) (tn (S 8 0)) (-4) ((kGive K (xap (S 6 f) (S 6 t)) f t g (nI n)), -4, nI 0) (60 - tn ((kGive K (xap (S 6 f) (S 6 t)) f t g (nI n)) 25))).1) (show 10 - (n + 1) < 10 - n from by omega) (show 1 ≤ (n + 1) ∧ (n + 1) ≤ 10 from by omega) _ _ hM _ hl
      · refine lv_aload_n hx hb dX0_tryGifts_80 rfl (lv_at hl 1 rfl) ?_
        refine lv_iload hx hb dX0_tryGifts_81 (lv_at hl 0 rfl) ?_
        refine x_put hx hb hts iwX0_tryGifts_X0 tyX0 tyX0_ok nmX0 hown hM 0 0 rfl rfl rfl 1 (by decide) (hts _ lkX0_tryGifts_46) (fun _ h => h) rfl (ty := .int) (by decide +kernel) rfl rfl (Nat.le_of_ble_eq_true rfl) [w0 q ad (xgB (S 3) (S 4) (tn (S 2 0)) (tn (S 5 0)) (S 9) (S 10) (S 11) (tn (S 8 0)) (S 6) K wz (1000 * f + 100 * t + 10 * g + n)).1 (kWA (S 3) (S 4) (tn (S 2 0)) (tn (S 5 0)) (kGoN (S 4) (tn (S 2 0)) (tn (S 5 0)) (S 9) (S 10) (S 11) (tn (S 8 0)) (-4) ((kGive K (xap (S 6 f) (S 6 t)) f t g (nI n)), -4, nI 0) (60 - tn ((kGive K (xap (S 6 f) (S 6 t)) f t g (nI n)) 25))).1) τ2 τ3 (fd 0), wst q sd X, wk q kd K, w3 q md μ0 μ1 μ2, wk q fd (kGoN (S 4) (tn (S 2 0)) (tn (S 5 0)) (S 9) (S 10) (S 11) (tn (S 8 0)) (-4) ((kGive K (xap (S 6 f) (S 6 t)) f t g (nI n)), -4, nI 0) (60 - tn ((kGive K (xap (S 6 f) (S 6 t)) f t g (nI n)) 25))).1] rfl dX0_tryGifts_83 (fun H locs hM => ?_)
        refine lv_aload_n hx hb dX0_tryGifts_86 rfl (lv_at hl 1 rfl) ?_
        refine lv_sipush (v := nI 1000) hx hb dX0_tryGifts_87 (by decide) ?_
        refine lv_iload hx hb dX0_tryGifts_90 (lv_at hl 5 rfl) ?_
        refine x_imul (x := 1000) (y := f) hx hb dX0_tryGifts_92 ?_
        refine lv_bipush (v := nI 100) hx hb dX0_tryGifts_93 (by decide) ?_
        refine lv_iload hx hb dX0_tryGifts_95 (lv_at hl 6 rfl) ?_
        refine x_imul (x := 100) (y := t) hx hb dX0_tryGifts_97 ?_
        refine x_iadd (x := 1000 * f) (y := 100 * t) hx hb dX0_tryGifts_98 ?_
        refine lv_bipush (v := nI 10) hx hb dX0_tryGifts_99 (by decide) ?_
        refine lv_iload hx hb dX0_tryGifts_101 (lv_at hl 7 rfl) ?_
        refine x_imul (x := 10) (y := g) hx hb dX0_tryGifts_103 ?_
        refine x_iadd (x := 1000 * f + (100 * t)) (y := 10 * g) hx hb dX0_tryGifts_104 ?_
        refine lv_iload hx hb dX0_tryGifts_105 (lv_at hl 8 rfl) ?_
        refine x_iadd (x := 1000 * f + (100 * t) + (10 * g)) (y := n) hx hb dX0_tryGifts_107 ?_
        refine x_put hx hb hts iwX0_tryGifts_X0 tyX0 tyX0_ok nmX0 hown hM 0 0 rfl rfl rfl 0 (by decide) (hts _ lkX0_tryGifts_49) (fun _ h => h) rfl (ty := .int) (by decide +kernel) rfl rfl (Nat.le_of_ble_eq_true rfl) [w0 q ad (nI (1000 * f + (100 * t) + (10 * g) + n)) (kWA (S 3) (S 4) (tn (S 2 0)) (tn (S 5 0)) (kGoN (S 4) (tn (S 2 0)) (tn (S 5 0)) (S 9) (S 10) (S 11) (tn (S 8 0)) (-4) ((kGive K (xap (S 6 f) (S 6 t)) f t g (nI n)), -4, nI 0) (60 - tn ((kGive K (xap (S 6 f) (S 6 t)) f t g (nI n)) 25))).1) τ2 τ3 (fd 0), wst q sd X, wk q kd K, w3 q md μ0 μ1 μ2, wk q fd (kGoN (S 4) (tn (S 2 0)) (tn (S 5 0)) (S 9) (S 10) (S 11) (tn (S 8 0)) (-4) ((kGive K (xap (S 6 f) (S 6 t)) f t g (nI n)), -4, nI 0) (60 - tn ((kGive K (xap (S 6 f) (S 6 t)) f t g (nI n)) 25))).1] rfl dX0_tryGifts_108 (fun H locs hM => ?_)
        refine lv_iinc (v := nI (n + 1)) (lv' := [(7, .int (nI (n + 1))), (8, .int (kWA (S 3) (S 4) (tn (S 2 0)) (tn (S 5 0)) (kGoN (S 4) (tn (S 2 0)) (tn (S 5 0)) (S 9) (S 10) (S 11) (tn (S 8 0)) (-4) ((kGive K (xap (S 6 f) (S 6 t)) f t g (nI n)), -4, nI 0) (60 - tn ((kGive K (xap (S 6 f) (S 6 t)) f t g (nI n)) 25))).1)), (0, .ref (ad 0)), (1, .ref (sd 0)), (2, .ref (kd 0)), (3, .ref (md 0)), (4, .int (nI f)), (5, .int (nI t)), (6, .int (nI g))]) hx hb dX0_tryGifts_111 hl (k := 8) rfl (x_inc _ 1) (by decide) rfl (fun ls hl => ?_)
        refine lv_goto (tgt := 3) hx hb dX0_tryGifts_114 (by decide) ?_
        have e15 : ((nI (1000 * f + (100 * t) + (10 * g) + n)) : Int32) = ((xgB (S 3) (S 4) (tn (S 2 0)) (tn (S 5 0)) (S 9) (S 10) (S 11) (tn (S 8 0)) (S 6) K wz (1000 * f + 100 * t + 10 * g + (n + 1))).1) := by (first | exact (congrArg Prod.fst (xgB_up (by omega) (by omega) (by omega) hok rfl (by assumption))).symm | exact (congrArg Prod.fst (xgB_no (by omega) (by omega) (by omega) rfl (by assumption))).symm)
        have hM : xM D (TY q) [w0 q ad (xgB (S 3) (S 4) (tn (S 2 0)) (tn (S 5 0)) (S 9) (S 10) (S 11) (tn (S 8 0)) (S 6) K wz (1000 * f + 100 * t + 10 * g + (n + 1))).1 (kWA (S 3) (S 4) (tn (S 2 0)) (tn (S 5 0)) (kGoN (S 4) (tn (S 2 0)) (tn (S 5 0)) (S 9) (S 10) (S 11) (tn (S 8 0)) (-4) ((kGive K (xap (S 6 f) (S 6 t)) f t g (nI n)), -4, nI 0) (60 - tn ((kGive K (xap (S 6 f) (S 6 t)) f t g (nI n)) 25))).1) τ2 τ3 (fd 0), wst q sd X, wk q kd K, w3 q md μ0 μ1 μ2, wk q fd (kGoN (S 4) (tn (S 2 0)) (tn (S 5 0)) (S 9) (S 10) (S 11) (tn (S 8 0)) (-4) ((kGive K (xap (S 6 f) (S 6 t)) f t g (nI n)), -4, nI 0) (60 - tn ((kGive K (xap (S 6 f) (S 6 t)) f t g (nI n)) 25))).1] A s.heap s H locs := Eq.mp (congrArg (fun z9 => xM D (TY q) [w0 q ad z9 (kWA (S 3) (S 4) (tn (S 2 0)) (tn (S 5 0)) (kGoN (S 4) (tn (S 2 0)) (tn (S 5 0)) (S 9) (S 10) (S 11) (tn (S 8 0)) (-4) ((kGive K (xap (S 6 f) (S 6 t)) f t g (nI n)), -4, nI 0) (60 - tn ((kGive K (xap (S 6 f) (S 6 t)) f t g (nI n)) 25))).1) τ2 τ3 (fd 0), wst q sd X, wk q kd K, w3 q md μ0 μ1 μ2, wk q fd (kGoN (S 4) (tn (S 2 0)) (tn (S 5 0)) (S 9) (S 10) (S 11) (tn (S 8 0)) (-4) ((kGive K (xap (S 6 f) (S 6 t)) f t g (nI n)), -4, nI 0) (60 - tn ((kGive K (xap (S 6 f) (S 6 t)) f t g (nI n)) 25))).1] A s.heap s H locs) e15) hM
        have e16 : ((kWA (S 3) (S 4) (tn (S 2 0)) (tn (S 5 0)) (kGoN (S 4) (tn (S 2 0)) (tn (S 5 0)) (S 9) (S 10) (S 11) (tn (S 8 0)) (-4) ((kGive K (xap (S 6 f) (S 6 t)) f t g (nI n)), -4, nI 0) (60 - tn ((kGive K (xap (S 6 f) (S 6 t)) f t g (nI n)) 25))).1) : Int32) = ((xgB (S 3) (S 4) (tn (S 2 0)) (tn (S 5 0)) (S 9) (S 10) (S 11) (tn (S 8 0)) (S 6) K wz (1000 * f + 100 * t + 10 * g + (n + 1))).2) := by (first | exact (congrArg Prod.snd (xgB_up (by omega) (by omega) (by omega) hok rfl (by assumption))).symm | exact (congrArg Prod.snd (xgB_no (by omega) (by omega) (by omega) rfl (by assumption))).symm)
        have hM : xM D (TY q) [w0 q ad (xgB (S 3) (S 4) (tn (S 2 0)) (tn (S 5 0)) (S 9) (S 10) (S 11) (tn (S 8 0)) (S 6) K wz (1000 * f + 100 * t + 10 * g + (n + 1))).1 (xgB (S 3) (S 4) (tn (S 2 0)) (tn (S 5 0)) (S 9) (S 10) (S 11) (tn (S 8 0)) (S 6) K wz (1000 * f + 100 * t + 10 * g + (n + 1))).2 τ2 τ3 (fd 0), wst q sd X, wk q kd K, w3 q md μ0 μ1 μ2, wk q fd (kGoN (S 4) (tn (S 2 0)) (tn (S 5 0)) (S 9) (S 10) (S 11) (tn (S 8 0)) (-4) ((kGive K (xap (S 6 f) (S 6 t)) f t g (nI n)), -4, nI 0) (60 - tn ((kGive K (xap (S 6 f) (S 6 t)) f t g (nI n)) 25))).1] A s.heap s H locs := Eq.mp (congrArg (fun z9 => xM D (TY q) [w0 q ad (xgB (S 3) (S 4) (tn (S 2 0)) (tn (S 5 0)) (S 9) (S 10) (S 11) (tn (S 8 0)) (S 6) K wz (1000 * f + 100 * t + 10 * g + (n + 1))).1 z9 τ2 τ3 (fd 0), wst q sd X, wk q kd K, w3 q md μ0 μ1 μ2, wk q fd (kGoN (S 4) (tn (S 2 0)) (tn (S 5 0)) (S 9) (S 10) (S 11) (tn (S 8 0)) (-4) ((kGive K (xap (S 6 f) (S 6 t)) f t g (nI n)), -4, nI 0) (60 - tn ((kGive K (xap (S 6 f) (S 6 t)) f t g (nI n)) 25))).1] A s.heap s H locs) e16) hM
        have hl : lv_has ls 9 [(0, .ref (ad 0)), (1, .ref (sd 0)), (2, .ref (kd 0)), (3, .ref (md 0)), (4, .int (nI f)), (5, .int (nI t)), (6, .int (nI g)), (7, .int (nI (n + 1)))] := lv_sub hl [2, 3, 4, 5, 6, 7, 8, 0] rfl
        exact ih4 (n + 1, (kGoN (S 4) (tn (S 2 0)) (tn (S 5 0)) (S 9) (S 10) (S 11) (tn (S 8 0)) (-4) ((kGive K (xap (S 6 f) (S 6 t)) f t g (nI n)), -4, nI 0) (60 - tn ((kGive K (xap (S 6 f) (S 6 t)) f t g (nI n)) 25))).1) (show 10 - (n + 1) < 10 - n from by omega) (show 1 ≤ (n + 1) ∧ (n + 1) ≤ 10 from by omega) _ _ hM _ hl

set_option maxRecDepth 20000 in
theorem ggX0_seekGift_X0_look : GoodIn wsX0_seekGift wsX0_look := goodIn_r _ [9, 10, 11, 12, 13, 14, 15, 16, 17, 18, 19, 20, 21, 22, 23, 24, 25, 26, 27, 28, 29, 30, 31, 32, 33, 34, 35, 36, 37, 38, 39, 40, 41, 42, 43, 44, 45, 46, 47, 48, 49, 50, 51, 52, 53, 54, 55, 56, 57, 58, 59, 60, 61, 62, 63, 64, 65, 66, 67, 68, 69, 70, 71, 72, 73, 74, 75, 76, 77, 78, 79, 80, 81, 82, 83, 84, 85, 86, 87, 88, 89, 90, 91, 92, 93, 94, 95, 96, 97, 98, 99, 100, 101, 102, 103, 104, 105, 106, 107, 157, 158, 159, 160, 161, 178, 179, 180, 181, 182, 183, 162, 163, 164, 165, 166, 167, 168, 169, 170, 171, 172, 173, 174, 175, 176, 177, 184, 185, 186] (by decide +kernel) (by decide +kernel)
set_option maxRecDepth 20000 in
theorem gX0_seekGift_X0_look : GoodIn wsX0_seekGift (wsV RX0 38 RX0 yX0_look wsX0_look) := goodIn_app (goodIn_of _ (by decide +kernel)) ggX0_seekGift_X0_look
set_option maxRecDepth 20000 in
theorem ggX0_seekGift_X1_worthOfAll : GoodIn wsX0_seekGift wsX1_worthOfAll := goodIn_r _ [111, 76, 112, 113, 114, 14, 115, 75, 116, 117, 118, 59, 119, 120, 82, 51, 24, 52, 121, 122, 123, 124, 83, 84, 85, 86, 18, 57, 58, 60, 50, 125, 126, 127, 128, 81, 162, 163, 164, 165, 166, 167, 168, 169, 170, 171, 172, 173, 174, 175, 176, 177, 178, 179, 180, 181, 182, 183] (by decide +kernel) (by decide +kernel)
set_option maxRecDepth 20000 in
theorem gX0_seekGift_X1_worthOfAll : GoodIn wsX0_seekGift (wsV RX0 42 RX1 yX1_worthOfAll wsX1_worthOfAll) := goodIn_app (goodIn_of _ (by decide +kernel)) ggX0_seekGift_X1_worthOfAll
set_option maxRecDepth 20000 in
theorem ggX0_seekGift_X0_tryGifts : GoodIn wsX0_seekGift wsX0_tryGifts := goodIn_r _ [132, 10, 1, 2, 133, 134, 135, 14, 136, 17, 16, 137, 138, 139, 140, 83, 84, 85, 86, 18, 57, 58, 59, 60, 50, 51, 24, 52, 141, 142, 143, 144, 145, 146, 28, 147, 148, 149, 150, 151, 152, 82, 11, 12, 13, 15, 19, 20, 21, 22, 23, 25, 26, 27, 29, 30, 31, 32, 33, 153, 154, 155, 156, 53, 54, 55, 56, 61, 62, 63, 68, 69, 70, 34, 35, 36, 37, 38, 39, 40, 41, 42, 43, 44, 45, 46, 47, 48, 49, 64, 65, 66, 67, 71, 72, 73, 74, 75, 76, 77, 78, 79, 80, 81, 87, 88, 89, 90, 91, 92, 93, 94, 95, 96, 97, 98, 99, 100, 101, 102, 103, 104, 105, 106, 107, 108, 109, 110, 111, 112, 113, 114, 115, 116, 117, 118, 119, 120, 121, 122, 123, 124, 125, 126, 127, 128, 157, 158, 159, 160, 161, 178, 179, 180, 181, 182, 183, 162, 163, 164, 165, 166, 167, 168, 169, 170, 171, 172, 173, 174, 175, 176, 177, 184, 185, 186] (by decide +kernel) (by decide +kernel)
set_option maxRecDepth 20000 in
theorem gX0_seekGift_X0_tryGifts : GoodIn wsX0_seekGift (wsV RX0 60 RX0 yX0_tryGifts wsX0_tryGifts) := goodIn_app (goodIn_of _ (by decide +kernel)) ggX0_seekGift_X0_tryGifts
theorem dX0_seekGift_0 : decode cX0_seekGift 0 = .ok (.aload_n 0, 1) := by decide +kernel
theorem dX0_seekGift_1 : decode cX0_seekGift 1 = .ok (.aload_n 0, 1) := by decide +kernel
theorem dX0_seekGift_2 : decode cX0_seekGift 2 = .ok (.aload_n 1, 1) := by decide +kernel
theorem dX0_seekGift_3 : decode cX0_seekGift 3 = .ok (.aload_n 2, 1) := by decide +kernel
theorem dX0_seekGift_4 : decode cX0_seekGift 4 = .ok (.aload_n 3, 1) := by decide +kernel
theorem dX0_seekGift_5 : decode cX0_seekGift 5 = .ok (.invokevirtual 38, 3) := by decide +kernel
theorem dX0_seekGift_8 : decode cX0_seekGift 8 = .ok (.aload_n 1, 1) := by decide +kernel
theorem dX0_seekGift_9 : decode cX0_seekGift 9 = .ok (.invokevirtual 42, 3) := by decide +kernel
theorem dX0_seekGift_12 : decode cX0_seekGift 12 = .ok (.putfield 46, 3) := by decide +kernel
theorem dX0_seekGift_15 : decode cX0_seekGift 15 = .ok (.aload_n 0, 1) := by decide +kernel
theorem dX0_seekGift_16 : decode cX0_seekGift 16 = .ok (.bipush (-4), 2) := by decide +kernel
theorem dX0_seekGift_18 : decode cX0_seekGift 18 = .ok (.putfield 49, 3) := by decide +kernel
theorem dX0_seekGift_21 : decode cX0_seekGift 21 = .ok (.iconst 0, 1) := by decide +kernel
theorem dX0_seekGift_22 : decode cX0_seekGift 22 = .ok (.istore 4, 2) := by decide +kernel
theorem dX0_seekGift_24 : decode cX0_seekGift 24 = .ok (.iload 4, 2) := by decide +kernel
theorem dX0_seekGift_26 : decode cX0_seekGift 26 = .ok (.aload_n 1, 1) := by decide +kernel
theorem dX0_seekGift_27 : decode cX0_seekGift 27 = .ok (.getfield 52, 3) := by decide +kernel
theorem dX0_seekGift_30 : decode cX0_seekGift 30 = .ok (.if_icmp .ge 65, 3) := by decide +kernel
theorem dX0_seekGift_33 : decode cX0_seekGift 33 = .ok (.iconst 0, 1) := by decide +kernel
theorem dX0_seekGift_34 : decode cX0_seekGift 34 = .ok (.istore 5, 2) := by decide +kernel
theorem dX0_seekGift_36 : decode cX0_seekGift 36 = .ok (.iload 5, 2) := by decide +kernel
theorem dX0_seekGift_38 : decode cX0_seekGift 38 = .ok (.aload_n 1, 1) := by decide +kernel
theorem dX0_seekGift_39 : decode cX0_seekGift 39 = .ok (.getfield 52, 3) := by decide +kernel
theorem dX0_seekGift_42 : decode cX0_seekGift 42 = .ok (.if_icmp .ge 47, 3) := by decide +kernel
theorem dX0_seekGift_45 : decode cX0_seekGift 45 = .ok (.iconst 0, 1) := by decide +kernel
theorem dX0_seekGift_46 : decode cX0_seekGift 46 = .ok (.istore 6, 2) := by decide +kernel
theorem dX0_seekGift_48 : decode cX0_seekGift 48 = .ok (.iload 4, 2) := by decide +kernel
theorem dX0_seekGift_50 : decode cX0_seekGift 50 = .ok (.iload 5, 2) := by decide +kernel
theorem dX0_seekGift_52 : decode cX0_seekGift 52 = .ok (.if_icmp .eq 31, 3) := by decide +kernel
theorem dX0_seekGift_55 : decode cX0_seekGift 55 = .ok (.iload 6, 2) := by decide +kernel
theorem dX0_seekGift_57 : decode cX0_seekGift 57 = .ok (.aload_n 1, 1) := by decide +kernel
theorem dX0_seekGift_58 : decode cX0_seekGift 58 = .ok (.getfield 57, 3) := by decide +kernel
theorem dX0_seekGift_61 : decode cX0_seekGift 61 = .ok (.if_icmp .ge 22, 3) := by decide +kernel
theorem dX0_seekGift_64 : decode cX0_seekGift 64 = .ok (.aload_n 0, 1) := by decide +kernel
theorem dX0_seekGift_65 : decode cX0_seekGift 65 = .ok (.aload_n 1, 1) := by decide +kernel
theorem dX0_seekGift_66 : decode cX0_seekGift 66 = .ok (.aload_n 2, 1) := by decide +kernel
theorem dX0_seekGift_67 : decode cX0_seekGift 67 = .ok (.aload_n 3, 1) := by decide +kernel
theorem dX0_seekGift_68 : decode cX0_seekGift 68 = .ok (.iload 4, 2) := by decide +kernel
theorem dX0_seekGift_70 : decode cX0_seekGift 70 = .ok (.iload 5, 2) := by decide +kernel
theorem dX0_seekGift_72 : decode cX0_seekGift 72 = .ok (.iload 6, 2) := by decide +kernel
theorem dX0_seekGift_74 : decode cX0_seekGift 74 = .ok (.invokevirtual 60, 3) := by decide +kernel
theorem dX0_seekGift_77 : decode cX0_seekGift 77 = .ok (.iinc 6 1, 3) := by decide +kernel
theorem dX0_seekGift_80 : decode cX0_seekGift 80 = .ok (.goto (-32), 3) := by decide +kernel
theorem dX0_seekGift_83 : decode cX0_seekGift 83 = .ok (.iinc 5 1, 3) := by decide +kernel
theorem dX0_seekGift_86 : decode cX0_seekGift 86 = .ok (.goto (-50), 3) := by decide +kernel
theorem dX0_seekGift_89 : decode cX0_seekGift 89 = .ok (.iinc 4 1, 3) := by decide +kernel
theorem dX0_seekGift_92 : decode cX0_seekGift 92 = .ok (.goto (-68), 3) := by decide +kernel
theorem dX0_seekGift_95 : decode cX0_seekGift 95 = .ok (.return_, 1) := by decide +kernel
theorem lkX0_seekGift_46 : Cond.fieldLink RX0 46 "LeftAtFive$Ahead" "leastWorth" "I" ∈ wsX0_seekGift := by decide +kernel
theorem lkX0_seekGift_49 : Cond.fieldLink RX0 49 "LeftAtFive$Ahead" "bestGift" "I" ∈ wsX0_seekGift := by decide +kernel
theorem lkX0_seekGift_52 : Cond.fieldLink RX0 52 "LeftAtFive$Street" "houses" "I" ∈ wsX0_seekGift := by decide +kernel
theorem lkX0_seekGift_57 : Cond.fieldLink RX0 57 "LeftAtFive$Street" "goods" "I" ∈ wsX0_seekGift := by decide +kernel
theorem iwX0_seekGift_X0 : ∀ w ∈ wsX00, w ∈ wsX0_seekGift := by decide +kernel
theorem iwX0_seekGift_X7 : ∀ w ∈ wsX70, w ∈ wsX0_seekGift := by decide +kernel
set_option maxHeartbeats 2000000 in
set_option maxRecDepth 100000 in
theorem c_X0_seekGift (l : Launch) (D : va_G) (q : Nat → ClassId) (ad : Nat → Nat) (τ0 : Int32) (τ1 : Int32) (τ2 : Int32) (τ3 : Int32) (τ4 : Nat) (sd : Nat → Nat) (X : Nat → Nat → Int32) (kd : Nat → Nat) (K : Nat → Int32) (md : Nat → Nat) (μ0 : Nat → Int32) (μ1 : Nat → Int32) (μ2 : Int32) (fd : Nat → Nat) (F : Nat → Int32) (S : Nat → Nat → Int32) (hT : okT X S) (hMl : okM μ0 μ1 (S 11) (tn (S 8 0)) (-4)) (hK : okK K) : xC l yX0_seekGift wsX0_seekGift ({ frames := 6, cells := 0, slots := 0, locals := 145 }) D (TY q) [w0 q ad τ0 τ1 τ2 τ3 (fd 0), wst q sd X, wk q kd K, w3 q md μ0 μ1 μ2, wk q fd F] [.ref (ad 0), .ref (sd 0), .ref (kd 0), .ref (md 0)] (xQv D (TY q) (fun (_ : (Nat → Int32)) => True) (fun (u : (Nat → Int32)) => [w0 q ad (xgB (S 3) (S 4) (tn (S 2 0)) (tn (S 5 0)) (S 9) (S 10) (S 11) (tn (S 8 0)) (S 6) K (kWA (S 3) (S 4) (tn (S 2 0)) (tn (S 5 0)) (kGoN (S 4) (tn (S 2 0)) (tn (S 5 0)) (S 9) (S 10) (S 11) (tn (S 8 0)) (-4) (K, -4, nI 0) (60 - tn (K 25))).1) 5000).1 (xgB (S 3) (S 4) (tn (S 2 0)) (tn (S 5 0)) (S 9) (S 10) (S 11) (tn (S 8 0)) (S 6) K (kWA (S 3) (S 4) (tn (S 2 0)) (tn (S 5 0)) (kGoN (S 4) (tn (S 2 0)) (tn (S 5 0)) (S 9) (S 10) (S 11) (tn (S 8 0)) (-4) (K, -4, nI 0) (60 - tn (K 25))).1) 5000).2 τ2 τ3 (fd 0), wst q sd X, wk q kd K, w3 q md μ0 μ1 μ2, wk q fd u])) 0 0 := by
  refine x_enter (cc := cX0_seekGift) (maxL := 7) (ret := none) (by decide) rfl (Nat.le_of_ble_eq_true rfl) ?_
  intro p e s m below meth c A ls H locs hfix hr hlocks hinit hM hl
  obtain ⟨hx, hb, hml, hown, hts⟩ := id hfix
  have hl : lv_has ls 7 [(0, .ref (ad 0)), (1, .ref (sd 0)), (2, .ref (kd 0)), (3, .ref (md 0))] := hl
  have hK25 := hK.1.2
  have hTb0 := okT_0b hT
  have hTb1 := okT_1b hT
  refine lv_aload_n hx hb dX0_seekGift_0 rfl (lv_at hl 0 rfl) ?_
  refine lv_aload_n hx hb dX0_seekGift_1 rfl (lv_at hl 0 rfl) ?_
  refine lv_aload_n hx hb dX0_seekGift_2 rfl (lv_at hl 1 rfl) ?_
  refine lv_aload_n hx hb dX0_seekGift_3 rfl (lv_at hl 2 rfl) ?_
  refine lv_aload_n hx hb dX0_seekGift_4 rfl (lv_at hl 3 rfl) ?_
  refine x_callr (bc := [w0 q ad τ0 τ1 τ2 τ3 (fd 0), wst q sd X, wk q kd K, w3 q md μ0 μ1 μ2, wk q fd F]) (br := []) hM [0, 1, 2, 3, 4] [] rfl rfl rfl (by decide) (x_runV (As := [.ref (sd 0), .ref (kd 0), .ref (md 0)]) (rest := [.ref (ad 0)]) hfix (c_X0_look l D q ad τ0 τ1 τ2 τ3 (fd 0) sd X kd K md μ0 μ1 μ2 fd F S (-4) hT hMl hK) (cwV 3 hts gX0_seekGift_X0_look rfl rfl rfl (by decide +kernel) ⟨Nat.le_of_ble_eq_true rfl, Nat.le_of_ble_eq_true rfl⟩) hM [0, 1, 2, 3, 4] rfl rfl 0 0 rfl rfl rfl rfl rfl hl.1 rfl (Nat.le_of_ble_eq_true rfl) dX0_seekGift_5 ⟨Nat.le_of_ble_eq_true rfl, Nat.le_of_ble_eq_true rfl⟩) (fun u H locs hq hM => ?_)
  have hM : xM D (TY q) [w0 q ad τ0 τ1 τ2 τ3 (fd 0), wst q sd X, wk q kd K, w3 q md μ0 μ1 μ2, wk q fd (kGoN (S 4) (tn (S 2 0)) (tn (S 5 0)) (S 9) (S 10) (S 11) (tn (S 8 0)) (-4) (K, -4, nI 0) (60 - tn (K 25))).1] A s.heap s H locs := hM
  refine lv_aload_n hx hb dX0_seekGift_8 rfl (lv_at hl 1 rfl) ?_
  refine x_calli (bc := [wk q fd (kGoN (S 4) (tn (S 2 0)) (tn (S 5 0)) (S 9) (S 10) (S 11) (tn (S 8 0)) (-4) (K, -4, nI 0) (60 - tn (K 25))).1, wst q sd X]) (br := [w0 q ad τ0 τ1 τ2 τ3 (fd 0), wk q kd K, w3 q md μ0 μ1 μ2]) hM [4, 1] [0, 2, 3] rfl rfl rfl (by decide) (x_runV (As := [.ref (sd 0)]) (rest := [.ref (ad 0)]) hfix (c_X1_worthOfAll l D q fd (kGoN (S 4) (tn (S 2 0)) (tn (S 5 0)) (S 9) (S 10) (S 11) (tn (S 8 0)) (-4) (K, -4, nI 0) (60 - tn (K 25))).1 sd X S hT) (cwV 1 hts gX0_seekGift_X1_worthOfAll rfl rfl rfl (by decide +kernel) ⟨Nat.le_of_ble_eq_true rfl, Nat.le_of_ble_eq_true rfl⟩) hM [4, 1] rfl rfl 4 0 rfl rfl rfl rfl rfl hl.1 rfl (Nat.le_of_ble_eq_true rfl) dX0_seekGift_9 ⟨Nat.le_of_ble_eq_true rfl, Nat.le_of_ble_eq_true rfl⟩) (fun r u H locs hq hM => ?_)
  subst hq
  have hM : xM D (TY q) [w0 q ad τ0 τ1 τ2 τ3 (fd 0), wk q kd K, w3 q md μ0 μ1 μ2, wk q fd (kGoN (S 4) (tn (S 2 0)) (tn (S 5 0)) (S 9) (S 10) (S 11) (tn (S 8 0)) (-4) (K, -4, nI 0) (60 - tn (K 25))).1, wst q sd X] A s.heap s H locs := hM
  have hM : xM D (TY q) [w0 q ad τ0 τ1 τ2 τ3 (fd 0), wst q sd X, wk q kd K, w3 q md μ0 μ1 μ2, wk q fd (kGoN (S 4) (tn (S 2 0)) (tn (S 5 0)) (S 9) (S 10) (S 11) (tn (S 8 0)) (-4) (K, -4, nI 0) (60 - tn (K 25))).1] A s.heap s H locs := hM.sel [0, 4, 1, 2, 3] rfl rfl
  refine x_put hx hb hts iwX0_seekGift_X0 tyX0 tyX0_ok nmX0 hown hM 0 0 rfl rfl rfl 1 (by decide) (hts _ lkX0_seekGift_46) (fun _ h => h) rfl (ty := .int) (by decide +kernel) rfl rfl (Nat.le_of_ble_eq_true rfl) [w0 q ad τ0 (kWA (S 3) (S 4) (tn (S 2 0)) (tn (S 5 0)) (kGoN (S 4) (tn (S 2 0)) (tn (S 5 0)) (S 9) (S 10) (S 11) (tn (S 8 0)) (-4) (K, -4, nI 0) (60 - tn (K 25))).1) τ2 τ3 (fd 0), wst q sd X, wk q kd K, w3 q md μ0 μ1 μ2, wk q fd (kGoN (S 4) (tn (S 2 0)) (tn (S 5 0)) (S 9) (S 10) (S 11) (tn (S 8 0)) (-4) (K, -4, nI 0) (60 - tn (K 25))).1] rfl dX0_seekGift_12 (fun H locs hM => ?_)
  obtain ⟨wz, hwz⟩ : ∃ y, y = (kWA (S 3) (S 4) (tn (S 2 0)) (tn (S 5 0)) (kGoN (S 4) (tn (S 2 0)) (tn (S 5 0)) (S 9) (S 10) (S 11) (tn (S 8 0)) (-4) (K, -4, nI 0) (60 - tn (K 25))).1) := ⟨_, rfl⟩
  have e1 : ((kWA (S 3) (S 4) (tn (S 2 0)) (tn (S 5 0)) (kGoN (S 4) (tn (S 2 0)) (tn (S 5 0)) (S 9) (S 10) (S 11) (tn (S 8 0)) (-4) (K, -4, nI 0) (60 - tn (K 25))).1) : Int32) = (wz) := by exact hwz.symm
  have hM : xM D (TY q) [w0 q ad τ0 wz τ2 τ3 (fd 0), wst q sd X, wk q kd K, w3 q md μ0 μ1 μ2, wk q fd (kGoN (S 4) (tn (S 2 0)) (tn (S 5 0)) (S 9) (S 10) (S 11) (tn (S 8 0)) (-4) (K, -4, nI 0) (60 - tn (K 25))).1] A s.heap s H locs := Eq.mp (congrArg (fun z9 => xM D (TY q) [w0 q ad τ0 z9 τ2 τ3 (fd 0), wst q sd X, wk q kd K, w3 q md μ0 μ1 μ2, wk q fd (kGoN (S 4) (tn (S 2 0)) (tn (S 5 0)) (S 9) (S 10) (S 11) (tn (S 8 0)) (-4) (K, -4, nI 0) (60 - tn (K 25))).1] A s.heap s H locs) e1) hM
  refine lv_aload_n hx hb dX0_seekGift_15 rfl (lv_at hl 0 rfl) ?_
  refine lv_bipush (v := (-4)) hx hb dX0_seekGift_16 (by decide) ?_
  refine x_put hx hb hts iwX0_seekGift_X0 tyX0 tyX0_ok nmX0 hown hM 0 0 rfl rfl rfl 0 (by decide) (hts _ lkX0_seekGift_49) (fun _ h => h) rfl (ty := .int) (by decide +kernel) rfl rfl (Nat.le_of_ble_eq_true rfl) [w0 q ad (-4) wz τ2 τ3 (fd 0), wst q sd X, wk q kd K, w3 q md μ0 μ1 μ2, wk q fd (kGoN (S 4) (tn (S 2 0)) (tn (S 5 0)) (S 9) (S 10) (S 11) (tn (S 8 0)) (-4) (K, -4, nI 0) (60 - tn (K 25))).1] rfl dX0_seekGift_18 (fun H locs hM => ?_)
  refine lv_iconst (v := nI 0) hx hb dX0_seekGift_21 (by decide) ?_
  refine lv_istore (lv' := [(4, .int (nI 0)), (0, .ref (ad 0)), (1, .ref (sd 0)), (2, .ref (kd 0)), (3, .ref (md 0))]) hx hb dX0_seekGift_22 hl (by decide) rfl (fun ls hl => ?_)
  have e3 : (((-4)) : Int32) = ((xgB (S 3) (S 4) (tn (S 2 0)) (tn (S 5 0)) (S 9) (S 10) (S 11) (tn (S 8 0)) (S 6) K wz (1000 * 0)).1) := by rfl
  have hM : xM D (TY q) [w0 q ad (xgB (S 3) (S 4) (tn (S 2 0)) (tn (S 5 0)) (S 9) (S 10) (S 11) (tn (S 8 0)) (S 6) K wz (1000 * 0)).1 wz τ2 τ3 (fd 0), wst q sd X, wk q kd K, w3 q md μ0 μ1 μ2, wk q fd (kGoN (S 4) (tn (S 2 0)) (tn (S 5 0)) (S 9) (S 10) (S 11) (tn (S 8 0)) (-4) (K, -4, nI 0) (60 - tn (K 25))).1] A s.heap s H locs := Eq.mp (congrArg (fun z9 => xM D (TY q) [w0 q ad z9 wz τ2 τ3 (fd 0), wst q sd X, wk q kd K, w3 q md μ0 μ1 μ2, wk q fd (kGoN (S 4) (tn (S 2 0)) (tn (S 5 0)) (S 9) (S 10) (S 11) (tn (S 8 0)) (-4) (K, -4, nI 0) (60 - tn (K 25))).1] A s.heap s H locs) e3) hM
  have e4 : ((wz) : Int32) = ((xgB (S 3) (S 4) (tn (S 2 0)) (tn (S 5 0)) (S 9) (S 10) (S 11) (tn (S 8 0)) (S 6) K wz (1000 * 0)).2) := by rfl
  have hM : xM D (TY q) [w0 q ad (xgB (S 3) (S 4) (tn (S 2 0)) (tn (S 5 0)) (S 9) (S 10) (S 11) (tn (S 8 0)) (S 6) K wz (1000 * 0)).1 (xgB (S 3) (S 4) (tn (S 2 0)) (tn (S 5 0)) (S 9) (S 10) (S 11) (tn (S 8 0)) (S 6) K wz (1000 * 0)).2 τ2 τ3 (fd 0), wst q sd X, wk q kd K, w3 q md μ0 μ1 μ2, wk q fd (kGoN (S 4) (tn (S 2 0)) (tn (S 5 0)) (S 9) (S 10) (S 11) (tn (S 8 0)) (-4) (K, -4, nI 0) (60 - tn (K 25))).1] A s.heap s H locs := Eq.mp (congrArg (fun z9 => xM D (TY q) [w0 q ad (xgB (S 3) (S 4) (tn (S 2 0)) (tn (S 5 0)) (S 9) (S 10) (S 11) (tn (S 8 0)) (S 6) K wz (1000 * 0)).1 z9 τ2 τ3 (fd 0), wst q sd X, wk q kd K, w3 q md μ0 μ1 μ2, wk q fd (kGoN (S 4) (tn (S 2 0)) (tn (S 5 0)) (S 9) (S 10) (S 11) (tn (S 8 0)) (-4) (K, -4, nI 0) (60 - tn (K 25))).1] A s.heap s H locs) e4) hM
  refine x_loop (ι := Nat × (Nat → Int32)) (fun z8 => [(0, .ref (ad 0)), (1, .ref (sd 0)), (2, .ref (kd 0)), (3, .ref (md 0)), (4, .int (nI z8.1))]) (fun z8 => [w0 q ad (xgB (S 3) (S 4) (tn (S 2 0)) (tn (S 5 0)) (S 9) (S 10) (S 11) (tn (S 8 0)) (S 6) K wz (1000 * z8.1)).1 (xgB (S 3) (S 4) (tn (S 2 0)) (tn (S 5 0)) (S 9) (S 10) (S 11) (tn (S 8 0)) (S 6) K wz (1000 * z8.1)).2 τ2 τ3 (fd 0), wst q sd X, wk q kd K, w3 q md μ0 μ1 μ2, wk q fd z8.2]) (fun z8 => z8.1 ≤ (tn (S 5 0))) (fun z8 => (tn (S 5 0)) - z8.1) (0, (kGoN (S 4) (tn (S 2 0)) (tn (S 5 0)) (S 9) (S 10) (S 11) (tn (S 8 0)) (-4) (K, -4, nI 0) (60 - tn (K 25))).1) (by omega) hM (lv_sub hl [1, 2, 3, 4, 0] rfl) ?_
  intro ⟨f, v1⟩ hI6 ih5 H locs hM ls hl
  have hM : xM D (TY q) [w0 q ad (xgB (S 3) (S 4) (tn (S 2 0)) (tn (S 5 0)) (S 9) (S 10) (S 11) (tn (S 8 0)) (S 6) K wz (1000 * f)).1 (xgB (S 3) (S 4) (tn (S 2 0)) (tn (S 5 0)) (S 9) (S 10) (S 11) (tn (S 8 0)) (S 6) K wz (1000 * f)).2 τ2 τ3 (fd 0), wst q sd X, wk q kd K, w3 q md μ0 μ1 μ2, wk q fd v1] A s.heap s H locs := hM
  have hl : lv_has ls 7 [(0, .ref (ad 0)), (1, .ref (sd 0)), (2, .ref (kd 0)), (3, .ref (md 0)), (4, .int (nI f))] := hl
  have hI6 : f ≤ (tn (S 5 0)) := hI6
  try dsimp only
  refine lv_iload hx hb dX0_seekGift_24 (lv_at hl 4 rfl) ?_
  refine lv_aload_n hx hb dX0_seekGift_26 rfl (lv_at hl 1 rfl) ?_
  refine x_get hx hb hts iwX0_seekGift_X7 hown hM 1 0 rfl rfl rfl 1 (by decide) (hts _ lkX0_seekGift_52) (fun _ h => h) rfl dX0_seekGift_27 ?_
  refine x_cast (y := nI (tn (S 5 0))) (okT_1 hT) ?_
  refine x_icmp_ge (x := f) (y := tn (S 5 0)) (tgt := 95) hx hb (by omega) (by omega) dX0_seekGift_30 (by decide) (fun c7 => ?_) (fun c7 => ?_)
  · have e8 : (((xgB (S 3) (S 4) (tn (S 2 0)) (tn (S 5 0)) (S 9) (S 10) (S 11) (tn (S 8 0)) (S 6) K wz (1000 * f)).1) : Int32) = ((xgB (S 3) (S 4) (tn (S 2 0)) (tn (S 5 0)) (S 9) (S 10) (S 11) (tn (S 8 0)) (S 6) K (kWA (S 3) (S 4) (tn (S 2 0)) (tn (S 5 0)) (kGoN (S 4) (tn (S 2 0)) (tn (S 5 0)) (S 9) (S 10) (S 11) (tn (S 8 0)) (-4) (K, -4, nI 0) (60 - tn (K 25))).1) 5000).1) := by (rw [← hwz]; exact (congrArg Prod.fst (xgB_skip (by omega) (fun j h1 h2 z => absurd z.1 (by omega)))).symm)
    have hM : xM D (TY q) [w0 q ad (xgB (S 3) (S 4) (tn (S 2 0)) (tn (S 5 0)) (S 9) (S 10) (S 11) (tn (S 8 0)) (S 6) K (kWA (S 3) (S 4) (tn (S 2 0)) (tn (S 5 0)) (kGoN (S 4) (tn (S 2 0)) (tn (S 5 0)) (S 9) (S 10) (S 11) (tn (S 8 0)) (-4) (K, -4, nI 0) (60 - tn (K 25))).1) 5000).1 (xgB (S 3) (S 4) (tn (S 2 0)) (tn (S 5 0)) (S 9) (S 10) (S 11) (tn (S 8 0)) (S 6) K wz (1000 * f)).2 τ2 τ3 (fd 0), wst q sd X, wk q kd K, w3 q md μ0 μ1 μ2, wk q fd v1] A s.heap s H locs := Eq.mp (congrArg (fun z9 => xM D (TY q) [w0 q ad z9 (xgB (S 3) (S 4) (tn (S 2 0)) (tn (S 5 0)) (S 9) (S 10) (S 11) (tn (S 8 0)) (S 6) K wz (1000 * f)).2 τ2 τ3 (fd 0), wst q sd X, wk q kd K, w3 q md μ0 μ1 μ2, wk q fd v1] A s.heap s H locs) e8) hM
    have e9 : (((xgB (S 3) (S 4) (tn (S 2 0)) (tn (S 5 0)) (S 9) (S 10) (S 11) (tn (S 8 0)) (S 6) K wz (1000 * f)).2) : Int32) = ((xgB (S 3) (S 4) (tn (S 2 0)) (tn (S 5 0)) (S 9) (S 10) (S 11) (tn (S 8 0)) (S 6) K (kWA (S 3) (S 4) (tn (S 2 0)) (tn (S 5 0)) (kGoN (S 4) (tn (S 2 0)) (tn (S 5 0)) (S 9) (S 10) (S 11) (tn (S 8 0)) (-4) (K, -4, nI 0) (60 - tn (K 25))).1) 5000).2) := by (rw [← hwz]; exact (congrArg Prod.snd (xgB_skip (by omega) (fun j h1 h2 z => absurd z.1 (by omega)))).symm)
    have hM : xM D (TY q) [w0 q ad (xgB (S 3) (S 4) (tn (S 2 0)) (tn (S 5 0)) (S 9) (S 10) (S 11) (tn (S 8 0)) (S 6) K (kWA (S 3) (S 4) (tn (S 2 0)) (tn (S 5 0)) (kGoN (S 4) (tn (S 2 0)) (tn (S 5 0)) (S 9) (S 10) (S 11) (tn (S 8 0)) (-4) (K, -4, nI 0) (60 - tn (K 25))).1) 5000).1 (xgB (S 3) (S 4) (tn (S 2 0)) (tn (S 5 0)) (S 9) (S 10) (S 11) (tn (S 8 0)) (S 6) K (kWA (S 3) (S 4) (tn (S 2 0)) (tn (S 5 0)) (kGoN (S 4) (tn (S 2 0)) (tn (S 5 0)) (S 9) (S 10) (S 11) (tn (S 8 0)) (-4) (K, -4, nI 0) (60 - tn (K 25))).1) 5000).2 τ2 τ3 (fd 0), wst q sd X, wk q kd K, w3 q md μ0 μ1 μ2, wk q fd v1] A s.heap s H locs := Eq.mp (congrArg (fun z9 => xM D (TY q) [w0 q ad (xgB (S 3) (S 4) (tn (S 2 0)) (tn (S 5 0)) (S 9) (S 10) (S 11) (tn (S 8 0)) (S 6) K (kWA (S 3) (S 4) (tn (S 2 0)) (tn (S 5 0)) (kGoN (S 4) (tn (S 2 0)) (tn (S 5 0)) (S 9) (S 10) (S 11) (tn (S 8 0)) (-4) (K, -4, nI 0) (60 - tn (K 25))).1) 5000).1 z9 τ2 τ3 (fd 0), wst q sd X, wk q kd K, w3 q md μ0 μ1 μ2, wk q fd v1] A s.heap s H locs) e9) hM
    exact x_vret hx hb hr hlocks v1 hM trivial dX0_seekGift_95
  · refine lv_iconst (v := nI 0) hx hb dX0_seekGift_33 (by decide) ?_
    refine lv_istore (lv' := [(5, .int (nI 0)), (0, .ref (ad 0)), (1, .ref (sd 0)), (2, .ref (kd 0)), (3, .ref (md 0)), (4, .int (nI f))]) hx hb dX0_seekGift_34 hl (by decide) rfl (fun ls hl => ?_)
    have e11 : (((xgB (S 3) (S 4) (tn (S 2 0)) (tn (S 5 0)) (S 9) (S 10) (S 11) (tn (S 8 0)) (S 6) K wz (1000 * f)).1) : Int32) = ((xgB (S 3) (S 4) (tn (S 2 0)) (tn (S 5 0)) (S 9) (S 10) (S 11) (tn (S 8 0)) (S 6) K wz (1000 * f + 100 * 0)).1) := by rfl
    have hM : xM D (TY q) [w0 q ad (xgB (S 3) (S 4) (tn (S 2 0)) (tn (S 5 0)) (S 9) (S 10) (S 11) (tn (S 8 0)) (S 6) K wz (1000 * f + 100 * 0)).1 (xgB (S 3) (S 4) (tn (S 2 0)) (tn (S 5 0)) (S 9) (S 10) (S 11) (tn (S 8 0)) (S 6) K wz (1000 * f)).2 τ2 τ3 (fd 0), wst q sd X, wk q kd K, w3 q md μ0 μ1 μ2, wk q fd v1] A s.heap s H locs := Eq.mp (congrArg (fun z9 => xM D (TY q) [w0 q ad z9 (xgB (S 3) (S 4) (tn (S 2 0)) (tn (S 5 0)) (S 9) (S 10) (S 11) (tn (S 8 0)) (S 6) K wz (1000 * f)).2 τ2 τ3 (fd 0), wst q sd X, wk q kd K, w3 q md μ0 μ1 μ2, wk q fd v1] A s.heap s H locs) e11) hM
    have e12 : (((xgB (S 3) (S 4) (tn (S 2 0)) (tn (S 5 0)) (S 9) (S 10) (S 11) (tn (S 8 0)) (S 6) K wz (1000 * f)).2) : Int32) = ((xgB (S 3) (S 4) (tn (S 2 0)) (tn (S 5 0)) (S 9) (S 10) (S 11) (tn (S 8 0)) (S 6) K wz (1000 * f + 100 * 0)).2) := by rfl
    have hM : xM D (TY q) [w0 q ad (xgB (S 3) (S 4) (tn (S 2 0)) (tn (S 5 0)) (S 9) (S 10) (S 11) (tn (S 8 0)) (S 6) K wz (1000 * f + 100 * 0)).1 (xgB (S 3) (S 4) (tn (S 2 0)) (tn (S 5 0)) (S 9) (S 10) (S 11) (tn (S 8 0)) (S 6) K wz (1000 * f + 100 * 0)).2 τ2 τ3 (fd 0), wst q sd X, wk q kd K, w3 q md μ0 μ1 μ2, wk q fd v1] A s.heap s H locs := Eq.mp (congrArg (fun z9 => xM D (TY q) [w0 q ad (xgB (S 3) (S 4) (tn (S 2 0)) (tn (S 5 0)) (S 9) (S 10) (S 11) (tn (S 8 0)) (S 6) K wz (1000 * f + 100 * 0)).1 z9 τ2 τ3 (fd 0), wst q sd X, wk q kd K, w3 q md μ0 μ1 μ2, wk q fd v1] A s.heap s H locs) e12) hM
    refine x_loop (ι := Nat × (Nat → Int32)) (fun z8 => [(0, .ref (ad 0)), (1, .ref (sd 0)), (2, .ref (kd 0)), (3, .ref (md 0)), (4, .int (nI f)), (5, .int (nI z8.1))]) (fun z8 => [w0 q ad (xgB (S 3) (S 4) (tn (S 2 0)) (tn (S 5 0)) (S 9) (S 10) (S 11) (tn (S 8 0)) (S 6) K wz (1000 * f + 100 * z8.1)).1 (xgB (S 3) (S 4) (tn (S 2 0)) (tn (S 5 0)) (S 9) (S 10) (S 11) (tn (S 8 0)) (S 6) K wz (1000 * f + 100 * z8.1)).2 τ2 τ3 (fd 0), wst q sd X, wk q kd K, w3 q md μ0 μ1 μ2, wk q fd z8.2]) (fun z8 => z8.1 ≤ (tn (S 5 0))) (fun z8 => (tn (S 5 0)) - z8.1) (0, v1) (by omega) hM (lv_sub hl [1, 2, 3, 4, 5, 0] rfl) ?_
    intro ⟨t, v2⟩ hI14 ih13 H locs hM ls hl
    have hM : xM D (TY q) [w0 q ad (xgB (S 3) (S 4) (tn (S 2 0)) (tn (S 5 0)) (S 9) (S 10) (S 11) (tn (S 8 0)) (S 6) K wz (1000 * f + 100 * t)).1 (xgB (S 3) (S 4) (tn (S 2 0)) (tn (S 5 0)) (S 9) (S 10) (S 11) (tn (S 8 0)) (S 6) K wz (1000 * f + 100 * t)).2 τ2 τ3 (fd 0), wst q sd X, wk q kd K, w3 q md μ0 μ1 μ2, wk q fd v2] A s.heap s H locs := hM
    have hl : lv_has ls 7 [(0, .ref (ad 0)), (1, .ref (sd 0)), (2, .ref (kd 0)), (3, .ref (md 0)), (4, .int (nI f)), (5, .int (nI t))] := hl
    have hI14 : t ≤ (tn (S 5 0)) := hI14
    try dsimp only
    refine lv_iload hx hb dX0_seekGift_36 (lv_at hl 5 rfl) ?_
    refine lv_aload_n hx hb dX0_seekGift_38 rfl (lv_at hl 1 rfl) ?_
    refine x_get hx hb hts iwX0_seekGift_X7 hown hM 1 0 rfl rfl rfl 1 (by decide) (hts _ lkX0_seekGift_52) (fun _ h => h) rfl dX0_seekGift_39 ?_
    refine x_cast (y := nI (tn (S 5 0))) (okT_1 hT) ?_
    refine x_icmp_ge (x := t) (y := tn (S 5 0)) (tgt := 89) hx hb (by omega) (by omega) dX0_seekGift_42 (by decide) (fun c15 => ?_) (fun c15 => ?_)
    · refine lv_iinc (v := nI (f + 1)) (lv' := [(4, .int (nI (f + 1))), (0, .ref (ad 0)), (1, .ref (sd 0)), (2, .ref (kd 0)), (3, .ref (md 0)), (5, .int (nI t))]) hx hb dX0_seekGift_89 hl (k := 4) rfl (x_inc _ 1) (by decide) rfl (fun ls hl => ?_)
      refine lv_goto (tgt := 24) hx hb dX0_seekGift_92 (by decide) ?_
      have e16 : (((xgB (S 3) (S 4) (tn (S 2 0)) (tn (S 5 0)) (S 9) (S 10) (S 11) (tn (S 8 0)) (S 6) K wz (1000 * f + 100 * t)).1) : Int32) = ((xgB (S 3) (S 4) (tn (S 2 0)) (tn (S 5 0)) (S 9) (S 10) (S 11) (tn (S 8 0)) (S 6) K wz (1000 * (f + 1))).1) := by (exact (congrArg Prod.fst (xgB_skip (by omega) (fun j h1 h2 z => absurd z.2.1 (by omega)))).symm)
      have hM : xM D (TY q) [w0 q ad (xgB (S 3) (S 4) (tn (S 2 0)) (tn (S 5 0)) (S 9) (S 10) (S 11) (tn (S 8 0)) (S 6) K wz (1000 * (f + 1))).1 (xgB (S 3) (S 4) (tn (S 2 0)) (tn (S 5 0)) (S 9) (S 10) (S 11) (tn (S 8 0)) (S 6) K wz (1000 * f + 100 * t)).2 τ2 τ3 (fd 0), wst q sd X, wk q kd K, w3 q md μ0 μ1 μ2, wk q fd v2] A s.heap s H locs := Eq.mp (congrArg (fun z9 => xM D (TY q) [w0 q ad z9 (xgB (S 3) (S 4) (tn (S 2 0)) (tn (S 5 0)) (S 9) (S 10) (S 11) (tn (S 8 0)) (S 6) K wz (1000 * f + 100 * t)).2 τ2 τ3 (fd 0), wst q sd X, wk q kd K, w3 q md μ0 μ1 μ2, wk q fd v2] A s.heap s H locs) e16) hM
      have e17 : (((xgB (S 3) (S 4) (tn (S 2 0)) (tn (S 5 0)) (S 9) (S 10) (S 11) (tn (S 8 0)) (S 6) K wz (1000 * f + 100 * t)).2) : Int32) = ((xgB (S 3) (S 4) (tn (S 2 0)) (tn (S 5 0)) (S 9) (S 10) (S 11) (tn (S 8 0)) (S 6) K wz (1000 * (f + 1))).2) := by (exact (congrArg Prod.snd (xgB_skip (by omega) (fun j h1 h2 z => absurd z.2.1 (by omega)))).symm)
      have hM : xM D (TY q) [w0 q ad (xgB (S 3) (S 4) (tn (S 2 0)) (tn (S 5 0)) (S 9) (S 10) (S 11) (tn (S 8 0)) (S 6) K wz (1000 * (f + 1))).1 (xgB (S 3) (S 4) (tn (S 2 0)) (tn (S 5 0)) (S 9) (S 10) (S 11) (tn (S 8 0)) (S 6) K wz (1000 * (f + 1))).2 τ2 τ3 (fd 0), wst q sd X, wk q kd K, w3 q md μ0 μ1 μ2, wk q fd v2] A s.heap s H locs := Eq.mp (congrArg (fun z9 => xM D (TY q) [w0 q ad (xgB (S 3) (S 4) (tn (S 2 0)) (tn (S 5 0)) (S 9) (S 10) (S 11) (tn (S 8 0)) (S 6) K wz (1000 * (f + 1))).1 z9 τ2 τ3 (fd 0), wst q sd X, wk q kd K, w3 q md μ0 μ1 μ2, wk q fd v2] A s.heap s H locs) e17) hM
      have hl : lv_has ls 7 [(0, .ref (ad 0)), (1, .ref (sd 0)), (2, .ref (kd 0)), (3, .ref (md 0)), (4, .int (nI (f + 1)))] := lv_sub hl [1, 2, 3, 4, 0] rfl
      exact ih5 (f + 1, v2) (show (tn (S 5 0)) - (f + 1) < (tn (S 5 0)) - f from by omega) (show (f + 1) ≤ (tn (S 5 0)) from by omega) _ _ hM _ hl
    · refine lv_iconst (v := nI 0) hx hb dX0_seekGift_45 (by decide) ?_
      refine lv_istore (lv' := [(6, .int (nI 0)), (0, .ref (ad 0)), (1, .ref (sd 0)), (2, .ref (kd 0)), (3, .ref (md 0)), (4, .int (nI f)), (5, .int (nI t))]) hx hb dX0_seekGift_46 hl (by decide) rfl (fun ls hl => ?_)
      have e19 : (((xgB (S 3) (S 4) (tn (S 2 0)) (tn (S 5 0)) (S 9) (S 10) (S 11) (tn (S 8 0)) (S 6) K wz (1000 * f + 100 * t)).1) : Int32) = ((xgB (S 3) (S 4) (tn (S 2 0)) (tn (S 5 0)) (S 9) (S 10) (S 11) (tn (S 8 0)) (S 6) K wz (1000 * f + 100 * t + 10 * 0)).1) := by rfl
      have hM : xM D (TY q) [w0 q ad (xgB (S 3) (S 4) (tn (S 2 0)) (tn (S 5 0)) (S 9) (S 10) (S 11) (tn (S 8 0)) (S 6) K wz (1000 * f + 100 * t + 10 * 0)).1 (xgB (S 3) (S 4) (tn (S 2 0)) (tn (S 5 0)) (S 9) (S 10) (S 11) (tn (S 8 0)) (S 6) K wz (1000 * f + 100 * t)).2 τ2 τ3 (fd 0), wst q sd X, wk q kd K, w3 q md μ0 μ1 μ2, wk q fd v2] A s.heap s H locs := Eq.mp (congrArg (fun z9 => xM D (TY q) [w0 q ad z9 (xgB (S 3) (S 4) (tn (S 2 0)) (tn (S 5 0)) (S 9) (S 10) (S 11) (tn (S 8 0)) (S 6) K wz (1000 * f + 100 * t)).2 τ2 τ3 (fd 0), wst q sd X, wk q kd K, w3 q md μ0 μ1 μ2, wk q fd v2] A s.heap s H locs) e19) hM
      have e20 : (((xgB (S 3) (S 4) (tn (S 2 0)) (tn (S 5 0)) (S 9) (S 10) (S 11) (tn (S 8 0)) (S 6) K wz (1000 * f + 100 * t)).2) : Int32) = ((xgB (S 3) (S 4) (tn (S 2 0)) (tn (S 5 0)) (S 9) (S 10) (S 11) (tn (S 8 0)) (S 6) K wz (1000 * f + 100 * t + 10 * 0)).2) := by rfl
      have hM : xM D (TY q) [w0 q ad (xgB (S 3) (S 4) (tn (S 2 0)) (tn (S 5 0)) (S 9) (S 10) (S 11) (tn (S 8 0)) (S 6) K wz (1000 * f + 100 * t + 10 * 0)).1 (xgB (S 3) (S 4) (tn (S 2 0)) (tn (S 5 0)) (S 9) (S 10) (S 11) (tn (S 8 0)) (S 6) K wz (1000 * f + 100 * t + 10 * 0)).2 τ2 τ3 (fd 0), wst q sd X, wk q kd K, w3 q md μ0 μ1 μ2, wk q fd v2] A s.heap s H locs := Eq.mp (congrArg (fun z9 => xM D (TY q) [w0 q ad (xgB (S 3) (S 4) (tn (S 2 0)) (tn (S 5 0)) (S 9) (S 10) (S 11) (tn (S 8 0)) (S 6) K wz (1000 * f + 100 * t + 10 * 0)).1 z9 τ2 τ3 (fd 0), wst q sd X, wk q kd K, w3 q md μ0 μ1 μ2, wk q fd v2] A s.heap s H locs) e20) hM
      refine x_loop (ι := Nat × (Nat → Int32)) (fun z8 => [(0, .ref (ad 0)), (1, .ref (sd 0)), (2, .ref (kd 0)), (3, .ref (md 0)), (4, .int (nI f)), (5, .int (nI t)), (6, .int (nI z8.1))]) (fun z8 => [w0 q ad (xgB (S 3) (S 4) (tn (S 2 0)) (tn (S 5 0)) (S 9) (S 10) (S 11) (tn (S 8 0)) (S 6) K wz (1000 * f + 100 * t + 10 * z8.1)).1 (xgB (S 3) (S 4) (tn (S 2 0)) (tn (S 5 0)) (S 9) (S 10) (S 11) (tn (S 8 0)) (S 6) K wz (1000 * f + 100 * t + 10 * z8.1)).2 τ2 τ3 (fd 0), wst q sd X, wk q kd K, w3 q md μ0 μ1 μ2, wk q fd z8.2]) (fun z8 => z8.1 ≤ (tn (S 2 0))) (fun z8 => (tn (S 2 0)) - z8.1) (0, v2) (by omega) hM (lv_sub hl [1, 2, 3, 4, 5, 6, 0] rfl) ?_
      intro ⟨g, v3⟩ hI22 ih21 H locs hM ls hl
      have hM : xM D (TY q) [w0 q ad (xgB (S 3) (S 4) (tn (S 2 0)) (tn (S 5 0)) (S 9) (S 10) (S 11) (tn (S 8 0)) (S 6) K wz (1000 * f + 100 * t + 10 * g)).1 (xgB (S 3) (S 4) (tn (S 2 0)) (tn (S 5 0)) (S 9) (S 10) (S 11) (tn (S 8 0)) (S 6) K wz (1000 * f + 100 * t + 10 * g)).2 τ2 τ3 (fd 0), wst q sd X, wk q kd K, w3 q md μ0 μ1 μ2, wk q fd v3] A s.heap s H locs := hM
      have hl : lv_has ls 7 [(0, .ref (ad 0)), (1, .ref (sd 0)), (2, .ref (kd 0)), (3, .ref (md 0)), (4, .int (nI f)), (5, .int (nI t)), (6, .int (nI g))] := hl
      have hI22 : g ≤ (tn (S 2 0)) := hI22
      try dsimp only
      refine lv_iload hx hb dX0_seekGift_48 (lv_at hl 4 rfl) ?_
      refine lv_iload hx hb dX0_seekGift_50 (lv_at hl 5 rfl) ?_
      refine x_icmp_eq (x := f) (y := t) (tgt := 83) hx hb (by omega) (by omega) dX0_seekGift_52 (by decide) (fun c23 => ?_) (fun c23 => ?_)
      · refine lv_iinc (v := nI (t + 1)) (lv' := [(5, .int (nI (t + 1))), (0, .ref (ad 0)), (1, .ref (sd 0)), (2, .ref (kd 0)), (3, .ref (md 0)), (4, .int (nI f)), (6, .int (nI g))]) hx hb dX0_seekGift_83 hl (k := 5) rfl (x_inc _ 1) (by decide) rfl (fun ls hl => ?_)
        refine lv_goto (tgt := 36) hx hb dX0_seekGift_86 (by decide) ?_
        have e24 : (((xgB (S 3) (S 4) (tn (S 2 0)) (tn (S 5 0)) (S 9) (S 10) (S 11) (tn (S 8 0)) (S 6) K wz (1000 * f + 100 * t + 10 * g)).1) : Int32) = ((xgB (S 3) (S 4) (tn (S 2 0)) (tn (S 5 0)) (S 9) (S 10) (S 11) (tn (S 8 0)) (S 6) K wz (1000 * f + 100 * (t + 1))).1) := by (first | (exact (congrArg Prod.fst (xgB_skip (by omega) (fun j h1 h2 z => absurd z.2.2.2.1 (by omega)))).symm) | (exact (congrArg Prod.fst (xgB_skip (by omega) (fun j h1 h2 z => z.2.2.1 (xg_same (t := t) (by omega) (by omega) (by omega))))).symm))
        have hM : xM D (TY q) [w0 q ad (xgB (S 3) (S 4) (tn (S 2 0)) (tn (S 5 0)) (S 9) (S 10) (S 11) (tn (S 8 0)) (S 6) K wz (1000 * f + 100 * (t + 1))).1 (xgB (S 3) (S 4) (tn (S 2 0)) (tn (S 5 0)) (S 9) (S 10) (S 11) (tn (S 8 0)) (S 6) K wz (1000 * f + 100 * t + 10 * g)).2 τ2 τ3 (fd 0), wst q sd X, wk q kd K, w3 q md μ0 μ1 μ2, wk q fd v3] A s.heap s H locs := Eq.mp (congrArg (fun z9 => xM D (TY q) [w0 q ad z9 (xgB (S 3) (S 4) (tn (S 2 0)) (tn (S 5 0)) (S 9) (S 10) (S 11) (tn (S 8 0)) (S 6) K wz (1000 * f + 100 * t + 10 * g)).2 τ2 τ3 (fd 0), wst q sd X, wk q kd K, w3 q md μ0 μ1 μ2, wk q fd v3] A s.heap s H locs) e24) hM
        have e25 : (((xgB (S 3) (S 4) (tn (S 2 0)) (tn (S 5 0)) (S 9) (S 10) (S 11) (tn (S 8 0)) (S 6) K wz (1000 * f + 100 * t + 10 * g)).2) : Int32) = ((xgB (S 3) (S 4) (tn (S 2 0)) (tn (S 5 0)) (S 9) (S 10) (S 11) (tn (S 8 0)) (S 6) K wz (1000 * f + 100 * (t + 1))).2) := by (first | (exact (congrArg Prod.snd (xgB_skip (by omega) (fun j h1 h2 z => absurd z.2.2.2.1 (by omega)))).symm) | (exact (congrArg Prod.snd (xgB_skip (by omega) (fun j h1 h2 z => z.2.2.1 (xg_same (t := t) (by omega) (by omega) (by omega))))).symm))
        have hM : xM D (TY q) [w0 q ad (xgB (S 3) (S 4) (tn (S 2 0)) (tn (S 5 0)) (S 9) (S 10) (S 11) (tn (S 8 0)) (S 6) K wz (1000 * f + 100 * (t + 1))).1 (xgB (S 3) (S 4) (tn (S 2 0)) (tn (S 5 0)) (S 9) (S 10) (S 11) (tn (S 8 0)) (S 6) K wz (1000 * f + 100 * (t + 1))).2 τ2 τ3 (fd 0), wst q sd X, wk q kd K, w3 q md μ0 μ1 μ2, wk q fd v3] A s.heap s H locs := Eq.mp (congrArg (fun z9 => xM D (TY q) [w0 q ad (xgB (S 3) (S 4) (tn (S 2 0)) (tn (S 5 0)) (S 9) (S 10) (S 11) (tn (S 8 0)) (S 6) K wz (1000 * f + 100 * (t + 1))).1 z9 τ2 τ3 (fd 0), wst q sd X, wk q kd K, w3 q md μ0 μ1 μ2, wk q fd v3] A s.heap s H locs) e25) hM
        have hl : lv_has ls 7 [(0, .ref (ad 0)), (1, .ref (sd 0)), (2, .ref (kd 0)), (3, .ref (md 0)), (4, .int (nI f)), (5, .int (nI (t + 1)))] := lv_sub hl [1, 2, 3, 4, 5, 0] rfl
        exact ih13 (t + 1, v3) (show (tn (S 5 0)) - (t + 1) < (tn (S 5 0)) - t from by omega) (show (t + 1) ≤ (tn (S 5 0)) from by omega) _ _ hM _ hl
      · refine lv_iload hx hb dX0_seekGift_55 (lv_at hl 6 rfl) ?_
        refine lv_aload_n hx hb dX0_seekGift_57 rfl (lv_at hl 1 rfl) ?_
        refine x_get hx hb hts iwX0_seekGift_X7 hown hM 1 0 rfl rfl rfl 0 (by decide) (hts _ lkX0_seekGift_57) (fun _ h => h) rfl dX0_seekGift_58 ?_
        refine x_cast (y := nI (tn (S 2 0))) (okT_0 hT) ?_
        refine x_icmp_ge (x := g) (y := tn (S 2 0)) (tgt := 83) hx hb (by omega) (by omega) dX0_seekGift_61 (by decide) (fun c26 => ?_) (fun c26 => ?_)
        · refine lv_iinc (v := nI (t + 1)) (lv' := [(5, .int (nI (t + 1))), (0, .ref (ad 0)), (1, .ref (sd 0)), (2, .ref (kd 0)), (3, .ref (md 0)), (4, .int (nI f)), (6, .int (nI g))]) hx hb dX0_seekGift_83 hl (k := 5) rfl (x_inc _ 1) (by decide) rfl (fun ls hl => ?_)
          refine lv_goto (tgt := 36) hx hb dX0_seekGift_86 (by decide) ?_
          have e27 : (((xgB (S 3) (S 4) (tn (S 2 0)) (tn (S 5 0)) (S 9) (S 10) (S 11) (tn (S 8 0)) (S 6) K wz (1000 * f + 100 * t + 10 * g)).1) : Int32) = ((xgB (S 3) (S 4) (tn (S 2 0)) (tn (S 5 0)) (S 9) (S 10) (S 11) (tn (S 8 0)) (S 6) K wz (1000 * f + 100 * (t + 1))).1) := by (first | (exact (congrArg Prod.fst (xgB_skip (by omega) (fun j h1 h2 z => absurd z.2.2.2.1 (by omega)))).symm) | (exact (congrArg Prod.fst (xgB_skip (by omega) (fun j h1 h2 z => z.2.2.1 (xg_same (t := t) (by omega) (by omega) (by omega))))).symm))
          have hM : xM D (TY q) [w0 q ad (xgB (S 3) (S 4) (tn (S 2 0)) (tn (S 5 0)) (S 9) (S 10) (S 11) (tn (S 8 0)) (S 6) K wz (1000 * f + 100 * (t + 1))).1 (xgB (S 3) (S 4) (tn (S 2 0)) (tn (S 5 0)) (S 9) (S 10) (S 11) (tn (S 8 0)) (S 6) K wz (1000 * f + 100 * t + 10 * g)).2 τ2 τ3 (fd 0), wst q sd X, wk q kd K, w3 q md μ0 μ1 μ2, wk q fd v3] A s.heap s H locs := Eq.mp (congrArg (fun z9 => xM D (TY q) [w0 q ad z9 (xgB (S 3) (S 4) (tn (S 2 0)) (tn (S 5 0)) (S 9) (S 10) (S 11) (tn (S 8 0)) (S 6) K wz (1000 * f + 100 * t + 10 * g)).2 τ2 τ3 (fd 0), wst q sd X, wk q kd K, w3 q md μ0 μ1 μ2, wk q fd v3] A s.heap s H locs) e27) hM
          have e28 : (((xgB (S 3) (S 4) (tn (S 2 0)) (tn (S 5 0)) (S 9) (S 10) (S 11) (tn (S 8 0)) (S 6) K wz (1000 * f + 100 * t + 10 * g)).2) : Int32) = ((xgB (S 3) (S 4) (tn (S 2 0)) (tn (S 5 0)) (S 9) (S 10) (S 11) (tn (S 8 0)) (S 6) K wz (1000 * f + 100 * (t + 1))).2) := by (first | (exact (congrArg Prod.snd (xgB_skip (by omega) (fun j h1 h2 z => absurd z.2.2.2.1 (by omega)))).symm) | (exact (congrArg Prod.snd (xgB_skip (by omega) (fun j h1 h2 z => z.2.2.1 (xg_same (t := t) (by omega) (by omega) (by omega))))).symm))
          have hM : xM D (TY q) [w0 q ad (xgB (S 3) (S 4) (tn (S 2 0)) (tn (S 5 0)) (S 9) (S 10) (S 11) (tn (S 8 0)) (S 6) K wz (1000 * f + 100 * (t + 1))).1 (xgB (S 3) (S 4) (tn (S 2 0)) (tn (S 5 0)) (S 9) (S 10) (S 11) (tn (S 8 0)) (S 6) K wz (1000 * f + 100 * (t + 1))).2 τ2 τ3 (fd 0), wst q sd X, wk q kd K, w3 q md μ0 μ1 μ2, wk q fd v3] A s.heap s H locs := Eq.mp (congrArg (fun z9 => xM D (TY q) [w0 q ad (xgB (S 3) (S 4) (tn (S 2 0)) (tn (S 5 0)) (S 9) (S 10) (S 11) (tn (S 8 0)) (S 6) K wz (1000 * f + 100 * (t + 1))).1 z9 τ2 τ3 (fd 0), wst q sd X, wk q kd K, w3 q md μ0 μ1 μ2, wk q fd v3] A s.heap s H locs) e28) hM
          have hl : lv_has ls 7 [(0, .ref (ad 0)), (1, .ref (sd 0)), (2, .ref (kd 0)), (3, .ref (md 0)), (4, .int (nI f)), (5, .int (nI (t + 1)))] := lv_sub hl [1, 2, 3, 4, 5, 0] rfl
          exact ih13 (t + 1, v3) (show (tn (S 5 0)) - (t + 1) < (tn (S 5 0)) - t from by omega) (show (t + 1) ≤ (tn (S 5 0)) from by omega) _ _ hM _ hl
        · refine lv_aload_n hx hb dX0_seekGift_64 rfl (lv_at hl 0 rfl) ?_
          refine lv_aload_n hx hb dX0_seekGift_65 rfl (lv_at hl 1 rfl) ?_
          refine lv_aload_n hx hb dX0_seekGift_66 rfl (lv_at hl 2 rfl) ?_
          refine lv_aload_n hx hb dX0_seekGift_67 rfl (lv_at hl 3 rfl) ?_
          refine lv_iload hx hb dX0_seekGift_68 (lv_at hl 4 rfl) ?_
          refine lv_iload hx hb dX0_seekGift_70 (lv_at hl 5 rfl) ?_
          refine lv_iload hx hb dX0_seekGift_72 (lv_at hl 6 rfl) ?_
          refine x_callv (bc := [w0 q ad (xgB (S 3) (S 4) (tn (S 2 0)) (tn (S 5 0)) (S 9) (S 10) (S 11) (tn (S 8 0)) (S 6) K wz (1000 * f + 100 * t + 10 * g)).1 (xgB (S 3) (S 4) (tn (S 2 0)) (tn (S 5 0)) (S 9) (S 10) (S 11) (tn (S 8 0)) (S 6) K wz (1000 * f + 100 * t + 10 * g)).2 τ2 τ3 (fd 0), wst q sd X, wk q kd K, w3 q md μ0 μ1 μ2, wk q fd v3]) (br := []) hM [0, 1, 2, 3, 4] [] rfl rfl rfl (by decide) (x_runV (As := [.ref (sd 0), .ref (kd 0), .ref (md 0), .int (nI f), .int (nI t), .int (nI g)]) (rest := []) hfix (c_X0_tryGifts l D q ad (xgB (S 3) (S 4) (tn (S 2 0)) (tn (S 5 0)) (S 9) (S 10) (S 11) (tn (S 8 0)) (S 6) K wz (1000 * f + 100 * t + 10 * g)).1 (xgB (S 3) (S 4) (tn (S 2 0)) (tn (S 5 0)) (S 9) (S 10) (S 11) (tn (S 8 0)) (S 6) K wz (1000 * f + 100 * t + 10 * g)).2 τ2 τ3 (fd 0) sd X kd K md μ0 μ1 μ2 fd v3 S f t g wz hT hMl hK (by omega) (by omega) (by omega) (by omega) rfl rfl) (cwV 6 hts gX0_seekGift_X0_tryGifts rfl rfl rfl (by decide +kernel) ⟨Nat.le_of_ble_eq_true rfl, Nat.le_of_ble_eq_true rfl⟩) hM [0, 1, 2, 3, 4] rfl rfl 0 0 rfl rfl rfl rfl rfl hl.1 rfl (Nat.le_of_ble_eq_true rfl) dX0_seekGift_74 ⟨Nat.le_of_ble_eq_true rfl, Nat.le_of_ble_eq_true rfl⟩) (fun u H locs hq hM => ?_)
          obtain ⟨uF29, hex⟩ : ∃ z, z = u := ⟨_, rfl⟩; subst hex
          have hM : xM D (TY q) [w0 q ad (xgB (S 3) (S 4) (tn (S 2 0)) (tn (S 5 0)) (S 9) (S 10) (S 11) (tn (S 8 0)) (S 6) K wz (1000 * f + 100 * t + 10 * g + 10)).1 (xgB (S 3) (S 4) (tn (S 2 0)) (tn (S 5 0)) (S 9) (S 10) (S 11) (tn (S 8 0)) (S 6) K wz (1000 * f + 100 * t + 10 * g + 10)).2 τ2 τ3 (fd 0), wst q sd X, wk q kd K, w3 q md μ0 μ1 μ2, wk q fd uF29] A s.heap s H locs := hM
          refine lv_iinc (v := nI (g + 1)) (lv' := [(6, .int (nI (g + 1))), (0, .ref (ad 0)), (1, .ref (sd 0)), (2, .ref (kd 0)), (3, .ref (md 0)), (4, .int (nI f)), (5, .int (nI t))]) hx hb dX0_seekGift_77 hl (k := 6) rfl (x_inc _ 1) (by decide) rfl (fun ls hl => ?_)
          refine lv_goto (tgt := 48) hx hb dX0_seekGift_80 (by decide) ?_
          have e30 : (((xgB (S 3) (S 4) (tn (S 2 0)) (tn (S 5 0)) (S 9) (S 10) (S 11) (tn (S 8 0)) (S 6) K wz (1000 * f + 100 * t + 10 * g + 10)).1) : Int32) = ((xgB (S 3) (S 4) (tn (S 2 0)) (tn (S 5 0)) (S 9) (S 10) (S 11) (tn (S 8 0)) (S 6) K wz (1000 * f + 100 * t + 10 * (g + 1))).1) := by (exact congrArg (fun z => (xgB (S 3) (S 4) (tn (S 2 0)) (tn (S 5 0)) (S 9) (S 10) (S 11) (tn (S 8 0)) (S 6) K wz z).1) (show (1000 * f + 100 * t + 10 * g + 10) = 1000 * f + 100 * t + 10 * (g + 1) by omega))
          have hM : xM D (TY q) [w0 q ad (xgB (S 3) (S 4) (tn (S 2 0)) (tn (S 5 0)) (S 9) (S 10) (S 11) (tn (S 8 0)) (S 6) K wz (1000 * f + 100 * t + 10 * (g + 1))).1 (xgB (S 3) (S 4) (tn (S 2 0)) (tn (S 5 0)) (S 9) (S 10) (S 11) (tn (S 8 0)) (S 6) K wz (1000 * f + 100 * t + 10 * g + 10)).2 τ2 τ3 (fd 0), wst q sd X, wk q kd K, w3 q md μ0 μ1 μ2, wk q fd uF29] A s.heap s H locs := Eq.mp (congrArg (fun z9 => xM D (TY q) [w0 q ad z9 (xgB (S 3) (S 4) (tn (S 2 0)) (tn (S 5 0)) (S 9) (S 10) (S 11) (tn (S 8 0)) (S 6) K wz (1000 * f + 100 * t + 10 * g + 10)).2 τ2 τ3 (fd 0), wst q sd X, wk q kd K, w3 q md μ0 μ1 μ2, wk q fd uF29] A s.heap s H locs) e30) hM
          have e31 : (((xgB (S 3) (S 4) (tn (S 2 0)) (tn (S 5 0)) (S 9) (S 10) (S 11) (tn (S 8 0)) (S 6) K wz (1000 * f + 100 * t + 10 * g + 10)).2) : Int32) = ((xgB (S 3) (S 4) (tn (S 2 0)) (tn (S 5 0)) (S 9) (S 10) (S 11) (tn (S 8 0)) (S 6) K wz (1000 * f + 100 * t + 10 * (g + 1))).2) := by (exact congrArg (fun z => (xgB (S 3) (S 4) (tn (S 2 0)) (tn (S 5 0)) (S 9) (S 10) (S 11) (tn (S 8 0)) (S 6) K wz z).2) (show (1000 * f + 100 * t + 10 * g + 10) = 1000 * f + 100 * t + 10 * (g + 1) by omega))
          have hM : xM D (TY q) [w0 q ad (xgB (S 3) (S 4) (tn (S 2 0)) (tn (S 5 0)) (S 9) (S 10) (S 11) (tn (S 8 0)) (S 6) K wz (1000 * f + 100 * t + 10 * (g + 1))).1 (xgB (S 3) (S 4) (tn (S 2 0)) (tn (S 5 0)) (S 9) (S 10) (S 11) (tn (S 8 0)) (S 6) K wz (1000 * f + 100 * t + 10 * (g + 1))).2 τ2 τ3 (fd 0), wst q sd X, wk q kd K, w3 q md μ0 μ1 μ2, wk q fd uF29] A s.heap s H locs := Eq.mp (congrArg (fun z9 => xM D (TY q) [w0 q ad (xgB (S 3) (S 4) (tn (S 2 0)) (tn (S 5 0)) (S 9) (S 10) (S 11) (tn (S 8 0)) (S 6) K wz (1000 * f + 100 * t + 10 * (g + 1))).1 z9 τ2 τ3 (fd 0), wst q sd X, wk q kd K, w3 q md μ0 μ1 μ2, wk q fd uF29] A s.heap s H locs) e31) hM
          have hl : lv_has ls 7 [(0, .ref (ad 0)), (1, .ref (sd 0)), (2, .ref (kd 0)), (3, .ref (md 0)), (4, .int (nI f)), (5, .int (nI t)), (6, .int (nI (g + 1)))] := lv_sub hl [1, 2, 3, 4, 5, 6, 0] rfl
          exact ih21 (g + 1, uF29) (show (tn (S 2 0)) - (g + 1) < (tn (S 2 0)) - g from by omega) (show (g + 1) ≤ (tn (S 2 0)) from by omega) _ _ hM _ hl

set_option maxRecDepth 20000 in
theorem ggX0_wantedIn_X7_spotOf : GoodIn wsX0_wantedIn wsX7_spotOf := goodIn_r _ [7, 8, 9, 10, 11, 12, 23, 24, 25, 26, 27, 28, 29, 30, 31, 32, 33, 34, 35, 36, 37, 38] (by decide +kernel) (by decide +kernel)
set_option maxRecDepth 20000 in
theorem gX0_wantedIn_X7_spotOf : GoodIn wsX0_wantedIn (wsV RX0 95 RX7 yX7_spotOf wsX7_spotOf) := goodIn_app (goodIn_of _ (by decide +kernel)) ggX0_wantedIn_X7_spotOf
set_option maxRecDepth 20000 in
theorem ggX0_wantedIn_X7_spot : GoodIn wsX0_wantedIn wsX7_spot := goodIn_r _ [15] (by decide +kernel) (by decide +kernel)
set_option maxRecDepth 20000 in
theorem gX0_wantedIn_X7_spot : GoodIn wsX0_wantedIn (va_wsS RX0 99 yX7_spot wsX7_spot) := goodIn_app (goodIn_of _ (by decide +kernel)) ggX0_wantedIn_X7_spot
set_option maxRecDepth 20000 in
theorem ggX0_wantedIn_X1_hungerOf : GoodIn wsX0_wantedIn wsX1_hungerOf := goodIn_r _ [20, 21, 22, 10, 11, 12, 44, 45, 46, 47, 48, 49] (by decide +kernel) (by decide +kernel)
set_option maxRecDepth 20000 in
theorem gX0_wantedIn_X1_hungerOf : GoodIn wsX0_wantedIn (wsV RX0 102 RX1 yX1_hungerOf wsX1_hungerOf) := goodIn_app (goodIn_of _ (by decide +kernel)) ggX0_wantedIn_X1_hungerOf
theorem dX0_wantedIn_0 : decode cX0_wantedIn 0 = .ok (.iconst 0, 1) := by decide +kernel
theorem dX0_wantedIn_1 : decode cX0_wantedIn 1 = .ok (.istore 5, 2) := by decide +kernel
theorem dX0_wantedIn_3 : decode cX0_wantedIn 3 = .ok (.iconst 0, 1) := by decide +kernel
theorem dX0_wantedIn_4 : decode cX0_wantedIn 4 = .ok (.istore 6, 2) := by decide +kernel
theorem dX0_wantedIn_6 : decode cX0_wantedIn 6 = .ok (.iload 6, 2) := by decide +kernel
theorem dX0_wantedIn_8 : decode cX0_wantedIn 8 = .ok (.aload_n 1, 1) := by decide +kernel
theorem dX0_wantedIn_9 : decode cX0_wantedIn 9 = .ok (.getfield 92, 3) := by decide +kernel
theorem dX0_wantedIn_12 : decode cX0_wantedIn 12 = .ok (.if_icmp .ge 45, 3) := by decide +kernel
theorem dX0_wantedIn_15 : decode cX0_wantedIn 15 = .ok (.aload_n 1, 1) := by decide +kernel
theorem dX0_wantedIn_16 : decode cX0_wantedIn 16 = .ok (.iload 6, 2) := by decide +kernel
theorem dX0_wantedIn_18 : decode cX0_wantedIn 18 = .ok (.invokevirtual 95, 3) := by decide +kernel
theorem dX0_wantedIn_21 : decode cX0_wantedIn 21 = .ok (.iload_n 3, 1) := by decide +kernel
theorem dX0_wantedIn_22 : decode cX0_wantedIn 22 = .ok (.iload 4, 2) := by decide +kernel
theorem dX0_wantedIn_24 : decode cX0_wantedIn 24 = .ok (.invokestatic 99, 3) := by decide +kernel
theorem dX0_wantedIn_27 : decode cX0_wantedIn 27 = .ok (.if_icmp .ne 24, 3) := by decide +kernel
theorem dX0_wantedIn_30 : decode cX0_wantedIn 30 = .ok (.iload 5, 2) := by decide +kernel
theorem dX0_wantedIn_32 : decode cX0_wantedIn 32 = .ok (.aload_n 0, 1) := by decide +kernel
theorem dX0_wantedIn_33 : decode cX0_wantedIn 33 = .ok (.getfield 12, 3) := by decide +kernel
theorem dX0_wantedIn_36 : decode cX0_wantedIn 36 = .ok (.iload 6, 2) := by decide +kernel
theorem dX0_wantedIn_38 : decode cX0_wantedIn 38 = .ok (.invokevirtual 102, 3) := by decide +kernel
theorem dX0_wantedIn_41 : decode cX0_wantedIn 41 = .ok (.aload_n 2, 1) := by decide +kernel
theorem dX0_wantedIn_42 : decode cX0_wantedIn 42 = .ok (.iload 6, 2) := by decide +kernel
theorem dX0_wantedIn_44 : decode cX0_wantedIn 44 = .ok (.invokevirtual 102, 3) := by decide +kernel
theorem dX0_wantedIn_47 : decode cX0_wantedIn 47 = .ok (.isub, 1) := by decide +kernel
theorem dX0_wantedIn_48 : decode cX0_wantedIn 48 = .ok (.iadd, 1) := by decide +kernel
theorem dX0_wantedIn_49 : decode cX0_wantedIn 49 = .ok (.istore 5, 2) := by decide +kernel
theorem dX0_wantedIn_51 : decode cX0_wantedIn 51 = .ok (.iinc 6 1, 3) := by decide +kernel
theorem dX0_wantedIn_54 : decode cX0_wantedIn 54 = .ok (.goto (-48), 3) := by decide +kernel
theorem dX0_wantedIn_57 : decode cX0_wantedIn 57 = .ok (.iload 5, 2) := by decide +kernel
theorem dX0_wantedIn_59 : decode cX0_wantedIn 59 = .ok (.ireturn, 1) := by decide +kernel
theorem lkX0_wantedIn_12 : Cond.fieldLink RX0 12 "LeftAtFive$Ahead" "five" "LLeftAtFive$Kitchens;" ∈ wsX0_wantedIn := by decide +kernel
theorem lkX0_wantedIn_92 : Cond.fieldLink RX0 92 "LeftAtFive$Street" "eaters" "I" ∈ wsX0_wantedIn := by decide +kernel
theorem iwX0_wantedIn_X0 : ∀ w ∈ wsX00, w ∈ wsX0_wantedIn := by decide +kernel
theorem iwX0_wantedIn_X7 : ∀ w ∈ wsX70, w ∈ wsX0_wantedIn := by decide +kernel
set_option maxHeartbeats 2000000 in
set_option maxRecDepth 100000 in
theorem c_X0_wantedIn (l : Launch) (D : va_G) (q : Nat → ClassId) (ad : Nat → Nat) (τ0 : Int32) (τ1 : Int32) (τ2 : Int32) (τ3 : Int32) (τ4 : Nat) (sd : Nat → Nat) (X : Nat → Nat → Int32) (kd : Nat → Nat) (K : Nat → Int32) (fd : Nat → Nat) (F : Nat → Int32) (S : Nat → Nat → Int32) (h : Nat) (g : Nat) (hT : okT X S) (hh0 : h < 5) (hg0 : g < 5) : xC l yX0_wantedIn wsX0_wantedIn ({ frames := 2, cells := 0, slots := 0, locals := 42 }) D (TY q) [w0 q ad τ0 τ1 τ2 τ3 (fd 0), wst q sd X, wk q kd K, wk q fd F] [.ref (ad 0), .ref (sd 0), .ref (kd 0), .int (nI h), .int (nI g)] (xQi D (TY q) (fun (r : Int32) (_ : Unit) => r = xwn (S 9) (S 10) (fun y7 => F (59 + y7) - K (59 + y7)) h g (tn (S 8 0))) (fun _ => [w0 q ad τ0 τ1 τ2 τ3 (fd 0), wst q sd X, wk q kd K, wk q fd F])) 0 0 := by
  refine x_enter (cc := cX0_wantedIn) (maxL := 7) (ret := (some .int)) (by decide) rfl (Nat.le_of_ble_eq_true rfl) ?_
  intro p e s m below meth c A ls H locs hfix hr hlocks hinit hM hl
  obtain ⟨hx, hb, hml, hown, hts⟩ := id hfix
  have hl : lv_has ls 7 [(0, .ref (ad 0)), (1, .ref (sd 0)), (2, .ref (kd 0)), (3, .int (nI h)), (4, .int (nI g))] := hl
  have hTb := okT_2b hT
  refine lv_iconst (v := nI 0) hx hb dX0_wantedIn_0 (by decide) ?_
  refine lv_istore (lv' := [(5, .int (nI 0)), (0, .ref (ad 0)), (1, .ref (sd 0)), (2, .ref (kd 0)), (3, .int (nI h)), (4, .int (nI g))]) hx hb dX0_wantedIn_1 hl (by decide) rfl (fun ls hl => ?_)
  refine lv_iconst (v := nI 0) hx hb dX0_wantedIn_3 (by decide) ?_
  refine lv_istore (lv' := [(6, .int (nI 0)), (5, .int (nI 0)), (0, .ref (ad 0)), (1, .ref (sd 0)), (2, .ref (kd 0)), (3, .int (nI h)), (4, .int (nI g))]) hx hb dX0_wantedIn_4 hl (by decide) rfl (fun ls hl => ?_)
  refine x_loop (ι := Nat) (fun i => [(0, .ref (ad 0)), (1, .ref (sd 0)), (2, .ref (kd 0)), (3, .int (nI h)), (4, .int (nI g)), (5, .int (xwn (S 9) (S 10) (fun y7 => F (59 + y7) - K (59 + y7)) h g i)), (6, .int (nI i))]) (fun i => [w0 q ad τ0 τ1 τ2 τ3 (fd 0), wst q sd X, wk q kd K, wk q fd F]) (fun i => i ≤ (tn (S 8 0))) (fun i => (tn (S 8 0)) - i) 0 (by omega) hM (lv_sub hl [2, 3, 4, 5, 6, 1, 0] rfl) ?_
  intro i hI2 ih1 H locs hM ls hl
  have hM : xM D (TY q) [w0 q ad τ0 τ1 τ2 τ3 (fd 0), wst q sd X, wk q kd K, wk q fd F] A s.heap s H locs := hM
  have hl : lv_has ls 7 [(0, .ref (ad 0)), (1, .ref (sd 0)), (2, .ref (kd 0)), (3, .int (nI h)), (4, .int (nI g)), (5, .int (xwn (S 9) (S 10) (fun y7 => F (59 + y7) - K (59 + y7)) h g i)), (6, .int (nI i))] := hl
  have hI2 : i ≤ (tn (S 8 0)) := hI2
  try dsimp only
  refine lv_iload hx hb dX0_wantedIn_6 (lv_at hl 6 rfl) ?_
  refine lv_aload_n hx hb dX0_wantedIn_8 rfl (lv_at hl 1 rfl) ?_
  refine x_get hx hb hts iwX0_wantedIn_X7 hown hM 1 0 rfl rfl rfl 2 (by decide) (hts _ lkX0_wantedIn_92) (fun _ h => h) rfl dX0_wantedIn_9 ?_
  refine x_cast (y := nI (tn (S 8 0))) (okT_2 hT) ?_
  refine x_icmp_ge (x := i) (y := tn (S 8 0)) (tgt := 57) hx hb (by omega) (by omega) dX0_wantedIn_12 (by decide) (fun c3 => ?_) (fun c3 => ?_)
  · refine lv_iload hx hb dX0_wantedIn_57 (lv_at hl 5 rfl) ?_
    exact x_iret hx hb hr hlocks () hM (show xwn (S 9) (S 10) (fun y7 => F (59 + y7) - K (59 + y7)) h g i = xwn (S 9) (S 10) (fun y7 => F (59 + y7) - K (59 + y7)) h g (tn (S 8 0)) from by (rw [show i = (tn (S 8 0)) by omega])) dX0_wantedIn_59
  · refine lv_aload_n hx hb dX0_wantedIn_15 rfl (lv_at hl 1 rfl) ?_
    refine lv_iload hx hb dX0_wantedIn_16 (lv_at hl 6 rfl) ?_
    have hEi := okT_E hT i (by omega)
    have hei1 := hEi.1.2
    have hei2 := hEi.2.1.2
    refine x_calli (bc := [wst q sd X]) (br := [w0 q ad τ0 τ1 τ2 τ3 (fd 0), wk q kd K, wk q fd F]) hM [1] [0, 2, 3] rfl rfl rfl (by decide) (x_runV (As := [.int (nI i)]) (rest := []) hfix (c_X7_spotOf l D q sd X S i hT (by omega)) (cwV 1 hts gX0_wantedIn_X7_spotOf rfl rfl rfl (by decide +kernel) ⟨Nat.le_of_ble_eq_true rfl, Nat.le_of_ble_eq_true rfl⟩) hM [1] rfl rfl 1 0 rfl rfl rfl rfl rfl hl.1 rfl (Nat.le_of_ble_eq_true rfl) dX0_wantedIn_18 ⟨Nat.le_of_ble_eq_true rfl, Nat.le_of_ble_eq_true rfl⟩) (fun r u H locs hq hM => ?_)
    subst hq
    have hM : xM D (TY q) [w0 q ad τ0 τ1 τ2 τ3 (fd 0), wk q kd K, wk q fd F, wst q sd X] A s.heap s H locs := hM
    have hM : xM D (TY q) [w0 q ad τ0 τ1 τ2 τ3 (fd 0), wst q sd X, wk q kd K, wk q fd F] A s.heap s H locs := hM.sel [0, 3, 1, 2] rfl rfl
    refine lv_iload_n hx hb dX0_wantedIn_21 rfl (lv_at hl 3 rfl) ?_
    refine lv_iload hx hb dX0_wantedIn_22 (lv_at hl 4 rfl) ?_
    refine x_calli (bc := []) (br := [w0 q ad τ0 τ1 τ2 τ3 (fd 0), wst q sd X, wk q kd K, wk q fd F]) hM [] [0, 1, 2, 3] rfl rfl rfl (by decide) (x_runS (As := [.int (nI h), .int (nI g)]) (rest := [.int (nI (5 * tn (S 9 i) + tn (S 10 i)))]) hfix (c_X7_spot l D q h g) (va_cwS 2 hts gX0_wantedIn_X7_spot rfl rfl rfl (by decide +kernel) ⟨Nat.le_of_ble_eq_true rfl, Nat.le_of_ble_eq_true rfl⟩) hM [] rfl rfl rfl hl.1 rfl (Nat.le_of_ble_eq_true rfl) dX0_wantedIn_24 ⟨Nat.le_of_ble_eq_true rfl, Nat.le_of_ble_eq_true rfl⟩) (fun r u H locs hq hM => ?_)
    subst hq
    have hM : xM D (TY q) [w0 q ad τ0 τ1 τ2 τ3 (fd 0), wst q sd X, wk q kd K, wk q fd F] A s.heap s H locs := hM
    refine x_icmp_ne (x := 5 * tn (S 9 i) + tn (S 10 i)) (y := 5 * h + g) (tgt := 51) hx hb (by omega) (by omega) dX0_wantedIn_27 (by decide) (fun c4 => ?_) (fun c4 => ?_)
    · refine lv_iinc (v := nI (i + 1)) (lv' := [(6, .int (nI (i + 1))), (0, .ref (ad 0)), (1, .ref (sd 0)), (2, .ref (kd 0)), (3, .int (nI h)), (4, .int (nI g)), (5, .int (xwn (S 9) (S 10) (fun y7 => F (59 + y7) - K (59 + y7)) h g i))]) hx hb dX0_wantedIn_51 hl (k := 6) rfl (x_inc _ 1) (by decide) rfl (fun ls hl => ?_)
      refine lv_goto (tgt := 6) hx hb dX0_wantedIn_54 (by decide) ?_
      have hl : lv_has ls 7 [(0, .ref (ad 0)), (1, .ref (sd 0)), (2, .ref (kd 0)), (3, .int (nI h)), (4, .int (nI g)), (5, .int (xwn (S 9) (S 10) (fun y7 => F (59 + y7) - K (59 + y7)) h g i)), (6, .int (nI (i + 1)))] := lv_sub hl [1, 2, 3, 4, 5, 6, 0] rfl
      have e5 : xwn (S 9) (S 10) (fun y7 => F (59 + y7) - K (59 + y7)) h g i = xwn (S 9) (S 10) (fun y7 => F (59 + y7) - K (59 + y7)) h g (i + 1) := by (first | exact xadd_p (by assumption) | exact xadd_z (by assumption))
      have hl : lv_has ls 7 [(0, .ref (ad 0)), (1, .ref (sd 0)), (2, .ref (kd 0)), (3, .int (nI h)), (4, .int (nI g)), (5, .int (xwn (S 9) (S 10) (fun y7 => F (59 + y7) - K (59 + y7)) h g (i + 1))), (6, .int (nI (i + 1)))] := x_lvset hl 5 rfl (congrArg Value.int e5) rfl
      exact ih1 (i + 1) (show (tn (S 8 0)) - (i + 1) < (tn (S 8 0)) - i from by omega) (show (i + 1) ≤ (tn (S 8 0)) from by omega) _ _ hM _ hl
    · refine lv_iload hx hb dX0_wantedIn_30 (lv_at hl 5 rfl) ?_
      refine lv_aload_n hx hb dX0_wantedIn_32 rfl (lv_at hl 0 rfl) ?_
      refine x_get hx hb hts iwX0_wantedIn_X0 hown hM 0 0 rfl rfl rfl 4 (by decide) (hts _ lkX0_wantedIn_12) (fun _ h => h) rfl dX0_wantedIn_33 ?_
      refine lv_iload hx hb dX0_wantedIn_36 (lv_at hl 6 rfl) ?_
      refine x_calli (bc := [wk q fd F]) (br := [w0 q ad τ0 τ1 τ2 τ3 (fd 0), wst q sd X, wk q kd K]) hM [3] [0, 1, 2] rfl rfl rfl (by decide) (x_runV (As := [.int (nI i)]) (rest := [.int (xwn (S 9) (S 10) (fun y7 => F (59 + y7) - K (59 + y7)) h g i)]) hfix (c_X1_hungerOf l D q fd F i (by omega)) (cwV 1 hts gX0_wantedIn_X1_hungerOf rfl rfl rfl (by decide +kernel) ⟨Nat.le_of_ble_eq_true rfl, Nat.le_of_ble_eq_true rfl⟩) hM [3] rfl rfl 3 0 rfl rfl rfl rfl rfl hl.1 rfl (Nat.le_of_ble_eq_true rfl) dX0_wantedIn_38 ⟨Nat.le_of_ble_eq_true rfl, Nat.le_of_ble_eq_true rfl⟩) (fun r u H locs hq hM => ?_)
      subst hq
      have hM : xM D (TY q) [w0 q ad τ0 τ1 τ2 τ3 (fd 0), wst q sd X, wk q kd K, wk q fd F] A s.heap s H locs := hM
      refine lv_aload_n hx hb dX0_wantedIn_41 rfl (lv_at hl 2 rfl) ?_
      refine lv_iload hx hb dX0_wantedIn_42 (lv_at hl 6 rfl) ?_
      refine x_calli (bc := [wk q kd K]) (br := [w0 q ad τ0 τ1 τ2 τ3 (fd 0), wst q sd X, wk q fd F]) hM [2] [0, 1, 3] rfl rfl rfl (by decide) (x_runV (As := [.int (nI i)]) (rest := [.int (F (59 + i)), .int (xwn (S 9) (S 10) (fun y7 => F (59 + y7) - K (59 + y7)) h g i)]) hfix (c_X1_hungerOf l D q kd K i (by omega)) (cwV 1 hts gX0_wantedIn_X1_hungerOf rfl rfl rfl (by decide +kernel) ⟨Nat.le_of_ble_eq_true rfl, Nat.le_of_ble_eq_true rfl⟩) hM [2] rfl rfl 2 0 rfl rfl rfl rfl rfl hl.1 rfl (Nat.le_of_ble_eq_true rfl) dX0_wantedIn_44 ⟨Nat.le_of_ble_eq_true rfl, Nat.le_of_ble_eq_true rfl⟩) (fun r u H locs hq hM => ?_)
      subst hq
      have hM : xM D (TY q) [w0 q ad τ0 τ1 τ2 τ3 (fd 0), wst q sd X, wk q fd F, wk q kd K] A s.heap s H locs := hM
      have hM : xM D (TY q) [w0 q ad τ0 τ1 τ2 τ3 (fd 0), wst q sd X, wk q kd K, wk q fd F] A s.heap s H locs := hM.sel [0, 1, 3, 2] rfl rfl
      refine lv_isub hx hb dX0_wantedIn_47 ?_
      refine lv_iadd hx hb dX0_wantedIn_48 ?_
      refine lv_istore (lv' := [(5, .int ((xwn (S 9) (S 10) (fun y7 => F (59 + y7) - K (59 + y7)) h g i) + ((F (59 + i)) - (K (59 + i))))), (0, .ref (ad 0)), (1, .ref (sd 0)), (2, .ref (kd 0)), (3, .int (nI h)), (4, .int (nI g)), (6, .int (nI i))]) hx hb dX0_wantedIn_49 hl (by decide) rfl (fun ls hl => ?_)
      refine lv_iinc (v := nI (i + 1)) (lv' := [(6, .int (nI (i + 1))), (5, .int ((xwn (S 9) (S 10) (fun y7 => F (59 + y7) - K (59 + y7)) h g i) + ((F (59 + i)) - (K (59 + i))))), (0, .ref (ad 0)), (1, .ref (sd 0)), (2, .ref (kd 0)), (3, .int (nI h)), (4, .int (nI g))]) hx hb dX0_wantedIn_51 hl (k := 6) rfl (x_inc _ 1) (by decide) rfl (fun ls hl => ?_)
      refine lv_goto (tgt := 6) hx hb dX0_wantedIn_54 (by decide) ?_
      have hl : lv_has ls 7 [(0, .ref (ad 0)), (1, .ref (sd 0)), (2, .ref (kd 0)), (3, .int (nI h)), (4, .int (nI g)), (5, .int ((xwn (S 9) (S 10) (fun y7 => F (59 + y7) - K (59 + y7)) h g i) + ((F (59 + i)) - (K (59 + i))))), (6, .int (nI (i + 1)))] := lv_sub hl [2, 3, 4, 5, 6, 1, 0] rfl
      have e6 : (xwn (S 9) (S 10) (fun y7 => F (59 + y7) - K (59 + y7)) h g i) + ((F (59 + i)) - (K (59 + i))) = xwn (S 9) (S 10) (fun y7 => F (59 + y7) - K (59 + y7)) h g (i + 1) := by (first | exact xadd_p (by assumption) | exact xadd_z (by assumption))
      have hl : lv_has ls 7 [(0, .ref (ad 0)), (1, .ref (sd 0)), (2, .ref (kd 0)), (3, .int (nI h)), (4, .int (nI g)), (5, .int (xwn (S 9) (S 10) (fun y7 => F (59 + y7) - K (59 + y7)) h g (i + 1))), (6, .int (nI (i + 1)))] := x_lvset hl 5 rfl (congrArg Value.int e6) rfl
      exact ih1 (i + 1) (show (tn (S 8 0)) - (i + 1) < (tn (S 8 0)) - i from by omega) (show (i + 1) ≤ (tn (S 8 0)) from by omega) _ _ hM _ hl

set_option maxRecDepth 20000 in
theorem ggX0_isNear_X7_cellsBetween : GoodIn wsX0_isNear wsX7_cellsBetween := goodIn_r _ [6, 7, 8, 9, 10, 11, 12, 13, 5, 14, 15, 16, 17, 18, 19, 20, 21, 22, 23, 24, 25, 26, 27, 28, 29, 30, 31, 32, 33, 34, 35] (by decide +kernel) (by decide +kernel)
set_option maxRecDepth 20000 in
theorem gX0_isNear_X7_cellsBetween : GoodIn wsX0_isNear (wsV RX0 105 RX7 yX7_cellsBetween wsX7_cellsBetween) := goodIn_app (goodIn_of _ (by decide +kernel)) ggX0_isNear_X7_cellsBetween
theorem dX0_isNear_0 : decode cX0_isNear 0 = .ok (.iconst 0, 1) := by decide +kernel
theorem dX0_isNear_1 : decode cX0_isNear 1 = .ok (.istore 4, 2) := by decide +kernel
theorem dX0_isNear_3 : decode cX0_isNear 3 = .ok (.iload 4, 2) := by decide +kernel
theorem dX0_isNear_5 : decode cX0_isNear 5 = .ok (.aload_n 0, 1) := by decide +kernel
theorem dX0_isNear_6 : decode cX0_isNear 6 = .ok (.getfield 52, 3) := by decide +kernel
theorem dX0_isNear_9 : decode cX0_isNear 9 = .ok (.if_icmp .ge 32, 3) := by decide +kernel
theorem dX0_isNear_12 : decode cX0_isNear 12 = .ok (.iload_n 2, 1) := by decide +kernel
theorem dX0_isNear_13 : decode cX0_isNear 13 = .ok (.iload 4, 2) := by decide +kernel
theorem dX0_isNear_15 : decode cX0_isNear 15 = .ok (.ishr, 1) := by decide +kernel
theorem dX0_isNear_16 : decode cX0_isNear 16 = .ok (.iconst 1, 1) := by decide +kernel
theorem dX0_isNear_17 : decode cX0_isNear 17 = .ok (.iand, 1) := by decide +kernel
theorem dX0_isNear_18 : decode cX0_isNear 18 = .ok (.iconst 1, 1) := by decide +kernel
theorem dX0_isNear_19 : decode cX0_isNear 19 = .ok (.if_icmp .ne 16, 3) := by decide +kernel
theorem dX0_isNear_22 : decode cX0_isNear 22 = .ok (.aload_n 0, 1) := by decide +kernel
theorem dX0_isNear_23 : decode cX0_isNear 23 = .ok (.iload_n 1, 1) := by decide +kernel
theorem dX0_isNear_24 : decode cX0_isNear 24 = .ok (.iload 4, 2) := by decide +kernel
theorem dX0_isNear_26 : decode cX0_isNear 26 = .ok (.invokevirtual 105, 3) := by decide +kernel
theorem dX0_isNear_29 : decode cX0_isNear 29 = .ok (.iload_n 3, 1) := by decide +kernel
theorem dX0_isNear_30 : decode cX0_isNear 30 = .ok (.if_icmp .gt 5, 3) := by decide +kernel
theorem dX0_isNear_33 : decode cX0_isNear 33 = .ok (.iconst 1, 1) := by decide +kernel
theorem dX0_isNear_34 : decode cX0_isNear 34 = .ok (.ireturn, 1) := by decide +kernel
theorem dX0_isNear_35 : decode cX0_isNear 35 = .ok (.iinc 4 1, 3) := by decide +kernel
theorem dX0_isNear_38 : decode cX0_isNear 38 = .ok (.goto (-35), 3) := by decide +kernel
theorem dX0_isNear_41 : decode cX0_isNear 41 = .ok (.iconst 0, 1) := by decide +kernel
theorem dX0_isNear_42 : decode cX0_isNear 42 = .ok (.ireturn, 1) := by decide +kernel
theorem lkX0_isNear_52 : Cond.fieldLink RX0 52 "LeftAtFive$Street" "houses" "I" ∈ wsX0_isNear := by decide +kernel
theorem iwX0_isNear_X7 : ∀ w ∈ wsX70, w ∈ wsX0_isNear := by decide +kernel
set_option maxHeartbeats 2000000 in
set_option maxRecDepth 100000 in
theorem c_X0_isNear (l : Launch) (D : va_G) (q : Nat → ClassId) (sd : Nat → Nat) (X : Nat → Nat → Int32) (S : Nat → Nat → Int32) (h : Nat) (set : Nat) (cc : Nat) (hT : okT X S) (hh0 : h < (tn (S 5 0))) (hs9 : set < 32) (hcc : cc ≤ 60) : xC l yX0_isNear wsX0_isNear ({ frames := 3, cells := 0, slots := 0, locals := 64 }) D (TY q) [wst q sd X] [.ref (sd 0), .int (nI h), .int (nI set), .int (nI cc)] (xQi D (TY q) (fun (r : Int32) (_ : Unit) => r = zb (xnr (S 6) cc set h (tn (S 5 0)) = true)) (fun _ => [wst q sd X])) 0 0 := by
  refine x_enter (cc := cX0_isNear) (maxL := 5) (ret := (some .boolean)) (by decide) rfl (Nat.le_of_ble_eq_true rfl) ?_
  intro p e s m below meth c A ls H locs hfix hr hlocks hinit hM hl
  obtain ⟨hx, hb, hml, hown, hts⟩ := id hfix
  have hl : lv_has ls 5 [(0, .ref (sd 0)), (1, .int (nI h)), (2, .int (nI set)), (3, .int (nI cc))] := hl
  have hTb1 := okT_1b hT
  refine lv_iconst (v := nI 0) hx hb dX0_isNear_0 (by decide) ?_
  refine lv_istore (lv' := [(4, .int (nI 0)), (0, .ref (sd 0)), (1, .int (nI h)), (2, .int (nI set)), (3, .int (nI cc))]) hx hb dX0_isNear_1 hl (by decide) rfl (fun ls hl => ?_)
  refine x_loop (ι := Nat) (fun k => [(0, .ref (sd 0)), (1, .int (nI h)), (2, .int (nI set)), (3, .int (nI cc)), (4, .int (nI k))]) (fun k => [wst q sd X]) (fun k => k ≤ (tn (S 5 0)) ∧ ¬ xnr (S 6) cc set h k = true) (fun k => (tn (S 5 0)) - k) 0 (⟨Nat.zero_le _, Bool.false_ne_true⟩) hM (lv_sub hl [1, 2, 3, 4, 0] rfl) ?_
  intro k hI2 ih1 H locs hM ls hl
  have hM : xM D (TY q) [wst q sd X] A s.heap s H locs := hM
  have hl : lv_has ls 5 [(0, .ref (sd 0)), (1, .int (nI h)), (2, .int (nI set)), (3, .int (nI cc)), (4, .int (nI k))] := hl
  have hI2 : k ≤ (tn (S 5 0)) ∧ ¬ xnr (S 6) cc set h k = true := hI2
  obtain ⟨hI2_0, hI2_1⟩ := id hI2
  have hk9 := hI2_0
  have hn9 := hI2_1
  try dsimp only
  refine lv_iload hx hb dX0_isNear_3 (lv_at hl 4 rfl) ?_
  refine lv_aload_n hx hb dX0_isNear_5 rfl (lv_at hl 0 rfl) ?_
  refine x_get hx hb hts iwX0_isNear_X7 hown hM 0 0 rfl rfl rfl 1 (by decide) (hts _ lkX0_isNear_52) (fun _ h => h) rfl dX0_isNear_6 ?_
  refine x_cast (y := nI (tn (S 5 0))) (okT_1 hT) ?_
  refine x_icmp_ge (x := k) (y := tn (S 5 0)) (tgt := 41) hx hb (by omega) (by omega) dX0_isNear_9 (by decide) (fun c3 => ?_) (fun c3 => ?_)
  · refine lv_iconst (v := nI 0) hx hb dX0_isNear_41 (by decide) ?_
    exact x_zret hx hb hr hlocks () hM rfl (show nI 0 = zb (xnr (S 6) cc set h (tn (S 5 0)) = true) from by (first | exact zb_t' (xnr_end (k := k) (by omega) (by assumption) (by assumption)) | exact zb_f' (by rw [show (tn (S 5 0)) = k by omega]; exact hn9))) dX0_isNear_42
  · refine lv_iload_n hx hb dX0_isNear_12 rfl (lv_at hl 2 rfl) ?_
    refine lv_iload hx hb dX0_isNear_13 (lv_at hl 4 rfl) ?_
    refine lv_ishr hx hb dX0_isNear_15 ?_
    refine x_cast (y := nI (set / 2 ^ k)) (x_shr (by omega) (by omega)) ?_
    refine lv_iconst (v := nI 1) hx hb dX0_isNear_16 (by decide) ?_
    refine lv_iand hx hb dX0_isNear_17 ?_
    refine x_cast (y := nI (set / 2 ^ k % 2)) (x_and1 (Nat.lt_of_le_of_lt (Nat.div_le_self _ _) (by omega))) ?_
    refine lv_iconst (v := nI 1) hx hb dX0_isNear_18 (by decide) ?_
    refine x_icmp_ne (x := set / 2 ^ k % 2) (y := 1) (tgt := 35) hx hb (by omega) (by omega) dX0_isNear_19 (by decide) (fun c4 => ?_) (fun c4 => ?_)
    · refine lv_iinc (v := nI (k + 1)) (lv' := [(4, .int (nI (k + 1))), (0, .ref (sd 0)), (1, .int (nI h)), (2, .int (nI set)), (3, .int (nI cc))]) hx hb dX0_isNear_35 hl (k := 4) rfl (x_inc _ 1) (by decide) rfl (fun ls hl => ?_)
      refine lv_goto (tgt := 3) hx hb dX0_isNear_38 (by decide) ?_
      have hl : lv_has ls 5 [(0, .ref (sd 0)), (1, .int (nI h)), (2, .int (nI set)), (3, .int (nI cc)), (4, .int (nI (k + 1)))] := lv_sub hl [1, 2, 3, 4, 0] rfl
      exact ih1 (k + 1) (show (tn (S 5 0)) - (k + 1) < (tn (S 5 0)) - k from by omega) (show (k + 1) ≤ (tn (S 5 0)) ∧ ¬ xnr (S 6) cc set h (k + 1) = true from ⟨by omega, (by first | exact xnr_3 hn9 (by assumption) | exact xnr_4 hn9 (by assumption))⟩) _ _ hM _ hl
    · refine lv_aload_n hx hb dX0_isNear_22 rfl (lv_at hl 0 rfl) ?_
      refine lv_iload_n hx hb dX0_isNear_23 rfl (lv_at hl 1 rfl) ?_
      refine lv_iload hx hb dX0_isNear_24 (lv_at hl 4 rfl) ?_
      refine x_calli (bc := [wst q sd X]) (br := []) hM [0] [] rfl rfl rfl (by decide) (x_runV (As := [.int (nI h), .int (nI k)]) (rest := []) hfix (c_X7_cellsBetween l D q sd X S h k hT (by omega) (by omega)) (cwV 2 hts gX0_isNear_X7_cellsBetween rfl rfl rfl (by decide +kernel) ⟨Nat.le_of_ble_eq_true rfl, Nat.le_of_ble_eq_true rfl⟩) hM [0] rfl rfl 0 0 rfl rfl rfl rfl rfl hl.1 rfl (Nat.le_of_ble_eq_true rfl) dX0_isNear_26 ⟨Nat.le_of_ble_eq_true rfl, Nat.le_of_ble_eq_true rfl⟩) (fun r u H locs hq hM => ?_)
      subst hq
      have hM : xM D (TY q) [wst q sd X] A s.heap s H locs := hM
      refine lv_iload_n hx hb dX0_isNear_29 rfl (lv_at hl 3 rfl) ?_
      refine lv_icmp_gt (tgt := 35) hx hb dX0_isNear_30 (by decide) (fun c5 => ?_) (fun c5 => ?_)
      · refine lv_iinc (v := nI (k + 1)) (lv' := [(4, .int (nI (k + 1))), (0, .ref (sd 0)), (1, .int (nI h)), (2, .int (nI set)), (3, .int (nI cc))]) hx hb dX0_isNear_35 hl (k := 4) rfl (x_inc _ 1) (by decide) rfl (fun ls hl => ?_)
        refine lv_goto (tgt := 3) hx hb dX0_isNear_38 (by decide) ?_
        have hl : lv_has ls 5 [(0, .ref (sd 0)), (1, .int (nI h)), (2, .int (nI set)), (3, .int (nI cc)), (4, .int (nI (k + 1)))] := lv_sub hl [1, 2, 3, 4, 0] rfl
        exact ih1 (k + 1) (show (tn (S 5 0)) - (k + 1) < (tn (S 5 0)) - k from by omega) (show (k + 1) ≤ (tn (S 5 0)) ∧ ¬ xnr (S 6) cc set h (k + 1) = true from ⟨by omega, (by first | exact xnr_3 hn9 (by assumption) | exact xnr_4 hn9 (by assumption))⟩) _ _ hM _ hl
      · refine lv_iconst (v := nI 1) hx hb dX0_isNear_33 (by decide) ?_
        exact x_zret hx hb hr hlocks () hM rfl (show nI 1 = zb (xnr (S 6) cc set h (tn (S 5 0)) = true) from by (first | exact zb_t' (xnr_end (k := k) (by omega) (by assumption) (by assumption)) | exact zb_f' (by rw [show (tn (S 5 0)) = k by omega]; exact hn9))) dX0_isNear_34

set_option maxRecDepth 20000 in
theorem ggX0_mostCarried_X0_wantedIn : GoodIn wsX0_mostCarried wsX0_wantedIn := goodIn_r _ [12, 13, 3, 14, 15, 16, 17, 18, 19, 20, 21, 22, 23, 24, 25, 26, 27, 28, 29, 30, 31, 32, 33, 55, 56, 57, 58, 59, 60, 61, 62, 63, 64, 65, 66, 67, 68, 69, 70, 71, 72, 73, 74, 75, 76, 77, 78, 79, 80, 81] (by decide +kernel) (by decide +kernel)
set_option maxRecDepth 20000 in
theorem gX0_mostCarried_X0_wantedIn : GoodIn wsX0_mostCarried (wsV RX0 75 RX0 yX0_wantedIn wsX0_wantedIn) := goodIn_app (goodIn_of _ (by decide +kernel)) ggX0_mostCarried_X0_wantedIn
set_option maxRecDepth 20000 in
theorem ggX0_mostCarried_X0_isNear : GoodIn wsX0_mostCarried wsX0_isNear := goodIn_r _ [36, 2, 37, 38, 39, 17, 40, 41, 42, 6, 43, 44, 45, 46, 47, 48, 20, 21, 22, 23, 55, 56, 57, 58, 59, 60, 61, 62, 63, 64, 65, 66, 67, 68, 69, 70] (by decide +kernel) (by decide +kernel)
set_option maxRecDepth 20000 in
theorem gX0_mostCarried_X0_isNear : GoodIn wsX0_mostCarried (va_wsS RX0 79 yX0_isNear wsX0_isNear) := goodIn_app (goodIn_of _ (by decide +kernel)) ggX0_mostCarried_X0_isNear
set_option maxRecDepth 20000 in
theorem ggX0_mostCarried_X1_piecesOf : GoodIn wsX0_mostCarried wsX1_piecesOf := goodIn_r _ [52, 53, 54, 25, 17, 26, 33, 21, 22, 23, 76, 77, 78, 79, 80, 81] (by decide +kernel) (by decide +kernel)
set_option maxRecDepth 20000 in
theorem gX0_mostCarried_X1_piecesOf : GoodIn wsX0_mostCarried (wsV RX0 83 RX1 yX1_piecesOf wsX1_piecesOf) := goodIn_app (goodIn_of _ (by decide +kernel)) ggX0_mostCarried_X1_piecesOf
theorem dX0_mostCarried_0 : decode cX0_mostCarried 0 = .ok (.ldc 74, 2) := by decide +kernel
theorem dX0_mostCarried_2 : decode cX0_mostCarried 2 = .ok (.istore 5, 2) := by decide +kernel
theorem dX0_mostCarried_4 : decode cX0_mostCarried 4 = .ok (.iconst 0, 1) := by decide +kernel
theorem dX0_mostCarried_5 : decode cX0_mostCarried 5 = .ok (.istore 6, 2) := by decide +kernel
theorem dX0_mostCarried_7 : decode cX0_mostCarried 7 = .ok (.iload 6, 2) := by decide +kernel
theorem dX0_mostCarried_9 : decode cX0_mostCarried 9 = .ok (.iconst 1, 1) := by decide +kernel
theorem dX0_mostCarried_10 : decode cX0_mostCarried 10 = .ok (.aload_n 1, 1) := by decide +kernel
theorem dX0_mostCarried_11 : decode cX0_mostCarried 11 = .ok (.getfield 52, 3) := by decide +kernel
theorem dX0_mostCarried_14 : decode cX0_mostCarried 14 = .ok (.ishl, 1) := by decide +kernel
theorem dX0_mostCarried_15 : decode cX0_mostCarried 15 = .ok (.if_icmp .ge 91, 3) := by decide +kernel
theorem dX0_mostCarried_18 : decode cX0_mostCarried 18 = .ok (.iconst 0, 1) := by decide +kernel
theorem dX0_mostCarried_19 : decode cX0_mostCarried 19 = .ok (.istore 7, 2) := by decide +kernel
theorem dX0_mostCarried_21 : decode cX0_mostCarried 21 = .ok (.iconst 0, 1) := by decide +kernel
theorem dX0_mostCarried_22 : decode cX0_mostCarried 22 = .ok (.istore 8, 2) := by decide +kernel
theorem dX0_mostCarried_24 : decode cX0_mostCarried 24 = .ok (.iload 8, 2) := by decide +kernel
theorem dX0_mostCarried_26 : decode cX0_mostCarried 26 = .ok (.aload_n 1, 1) := by decide +kernel
theorem dX0_mostCarried_27 : decode cX0_mostCarried 27 = .ok (.getfield 52, 3) := by decide +kernel
theorem dX0_mostCarried_30 : decode cX0_mostCarried 30 = .ok (.if_icmp .ge 61, 3) := by decide +kernel
theorem dX0_mostCarried_33 : decode cX0_mostCarried 33 = .ok (.iload 6, 2) := by decide +kernel
theorem dX0_mostCarried_35 : decode cX0_mostCarried 35 = .ok (.iload 8, 2) := by decide +kernel
theorem dX0_mostCarried_37 : decode cX0_mostCarried 37 = .ok (.ishr, 1) := by decide +kernel
theorem dX0_mostCarried_38 : decode cX0_mostCarried 38 = .ok (.iconst 1, 1) := by decide +kernel
theorem dX0_mostCarried_39 : decode cX0_mostCarried 39 = .ok (.iand, 1) := by decide +kernel
theorem dX0_mostCarried_40 : decode cX0_mostCarried 40 = .ok (.ifCond .ne 17, 3) := by decide +kernel
theorem dX0_mostCarried_43 : decode cX0_mostCarried 43 = .ok (.iload 7, 2) := by decide +kernel
theorem dX0_mostCarried_45 : decode cX0_mostCarried 45 = .ok (.aload_n 0, 1) := by decide +kernel
theorem dX0_mostCarried_46 : decode cX0_mostCarried 46 = .ok (.aload_n 1, 1) := by decide +kernel
theorem dX0_mostCarried_47 : decode cX0_mostCarried 47 = .ok (.aload_n 2, 1) := by decide +kernel
theorem dX0_mostCarried_48 : decode cX0_mostCarried 48 = .ok (.iload 8, 2) := by decide +kernel
theorem dX0_mostCarried_50 : decode cX0_mostCarried 50 = .ok (.iload_n 3, 1) := by decide +kernel
theorem dX0_mostCarried_51 : decode cX0_mostCarried 51 = .ok (.invokevirtual 75, 3) := by decide +kernel
theorem dX0_mostCarried_54 : decode cX0_mostCarried 54 = .ok (.iadd, 1) := by decide +kernel
theorem dX0_mostCarried_55 : decode cX0_mostCarried 55 = .ok (.istore 7, 2) := by decide +kernel
theorem dX0_mostCarried_57 : decode cX0_mostCarried 57 = .ok (.aload_n 1, 1) := by decide +kernel
theorem dX0_mostCarried_58 : decode cX0_mostCarried 58 = .ok (.iload 8, 2) := by decide +kernel
theorem dX0_mostCarried_60 : decode cX0_mostCarried 60 = .ok (.iload 6, 2) := by decide +kernel
theorem dX0_mostCarried_62 : decode cX0_mostCarried 62 = .ok (.iload 4, 2) := by decide +kernel
theorem dX0_mostCarried_64 : decode cX0_mostCarried 64 = .ok (.invokestatic 79, 3) := by decide +kernel
theorem dX0_mostCarried_67 : decode cX0_mostCarried 67 = .ok (.ifCond .eq 18, 3) := by decide +kernel
theorem dX0_mostCarried_70 : decode cX0_mostCarried 70 = .ok (.iload 7, 2) := by decide +kernel
theorem dX0_mostCarried_72 : decode cX0_mostCarried 72 = .ok (.aload_n 0, 1) := by decide +kernel
theorem dX0_mostCarried_73 : decode cX0_mostCarried 73 = .ok (.getfield 12, 3) := by decide +kernel
theorem dX0_mostCarried_76 : decode cX0_mostCarried 76 = .ok (.iload 8, 2) := by decide +kernel
theorem dX0_mostCarried_78 : decode cX0_mostCarried 78 = .ok (.iload_n 3, 1) := by decide +kernel
theorem dX0_mostCarried_79 : decode cX0_mostCarried 79 = .ok (.invokevirtual 83, 3) := by decide +kernel
theorem dX0_mostCarried_82 : decode cX0_mostCarried 82 = .ok (.iadd, 1) := by decide +kernel
theorem dX0_mostCarried_83 : decode cX0_mostCarried 83 = .ok (.istore 7, 2) := by decide +kernel
theorem dX0_mostCarried_85 : decode cX0_mostCarried 85 = .ok (.iinc 8 1, 3) := by decide +kernel
theorem dX0_mostCarried_88 : decode cX0_mostCarried 88 = .ok (.goto (-64), 3) := by decide +kernel
theorem dX0_mostCarried_91 : decode cX0_mostCarried 91 = .ok (.iload 5, 2) := by decide +kernel
theorem dX0_mostCarried_93 : decode cX0_mostCarried 93 = .ok (.iload 7, 2) := by decide +kernel
theorem dX0_mostCarried_95 : decode cX0_mostCarried 95 = .ok (.invokestatic 87, 3) := by decide +kernel
theorem dX0_mostCarried_98 : decode cX0_mostCarried 98 = .ok (.istore 5, 2) := by decide +kernel
theorem dX0_mostCarried_100 : decode cX0_mostCarried 100 = .ok (.iinc 6 1, 3) := by decide +kernel
theorem dX0_mostCarried_103 : decode cX0_mostCarried 103 = .ok (.goto (-96), 3) := by decide +kernel
theorem dX0_mostCarried_106 : decode cX0_mostCarried 106 = .ok (.iload 5, 2) := by decide +kernel
theorem dX0_mostCarried_108 : decode cX0_mostCarried 108 = .ok (.ireturn, 1) := by decide +kernel
theorem lkX0_mostCarried_12 : Cond.fieldLink RX0 12 "LeftAtFive$Ahead" "five" "LLeftAtFive$Kitchens;" ∈ wsX0_mostCarried := by decide +kernel
theorem lkX0_mostCarried_52 : Cond.fieldLink RX0 52 "LeftAtFive$Street" "houses" "I" ∈ wsX0_mostCarried := by decide +kernel
theorem iwX0_mostCarried_X0 : ∀ w ∈ wsX00, w ∈ wsX0_mostCarried := by decide +kernel
theorem iwX0_mostCarried_X7 : ∀ w ∈ wsX70, w ∈ wsX0_mostCarried := by decide +kernel
set_option maxHeartbeats 2000000 in
set_option maxRecDepth 100000 in
theorem c_X0_mostCarried (l : Launch) (D : va_G) (q : Nat → ClassId) (ad : Nat → Nat) (τ0 : Int32) (τ1 : Int32) (τ2 : Int32) (τ3 : Int32) (τ4 : Nat) (sd : Nat → Nat) (X : Nat → Nat → Int32) (kd : Nat → Nat) (K : Nat → Int32) (fd : Nat → Nat) (F : Nat → Int32) (S : Nat → Nat → Int32) (g : Nat) (cc : Nat) (hT : okT X S) (hg0 : g < (tn (S 2 0))) (hcc : cc ≤ 60) : xC l yX0_mostCarried wsX0_mostCarried ({ frames := 4, cells := 0, slots := 0, locals := 88 }) D (TY q) [w0 q ad τ0 τ1 τ2 τ3 (fd 0), wst q sd X, wk q kd K, wk q fd F] [.ref (ad 0), .ref (sd 0), .ref (kd 0), .int (nI g), .int (nI cc)] (xQi D (TY q) (fun (r : Int32) (_ : Unit) => r = xcm (fun z => xcs (S 6) (fun y8 => F (5 * y8 + g)) (fun y8 => xwn (S 9) (S 10) (fun y7 => F (59 + y7) - K (59 + y7)) y8 g (tn (S 8 0))) cc (tn (S 5 0)) z (tn (S 5 0))) (2 ^ (tn (S 5 0)))) (fun _ => [w0 q ad τ0 τ1 τ2 τ3 (fd 0), wst q sd X, wk q kd K, wk q fd F])) 0 0 := by
  refine x_enter (cc := cX0_mostCarried) (maxL := 9) (ret := (some .int)) (by decide) rfl (Nat.le_of_ble_eq_true rfl) ?_
  intro p e s m below meth c A ls H locs hfix hr hlocks hinit hM hl
  obtain ⟨hx, hb, hml, hown, hts⟩ := id hfix
  have hl : lv_has ls 9 [(0, .ref (ad 0)), (1, .ref (sd 0)), (2, .ref (kd 0)), (3, .int (nI g)), (4, .int (nI cc))] := hl
  have hTb1 := okT_1b hT
  have hTb0 := okT_0b hT
  have h32 := x_pow5 hTb1
  refine lv_ldc (v := nI 2147483647) hx hb hown (hts (.constant RX0 74 (2147483647)) (by decide +kernel)) dX0_mostCarried_0 ?_
  refine lv_istore (lv' := [(5, .int (nI 2147483647)), (0, .ref (ad 0)), (1, .ref (sd 0)), (2, .ref (kd 0)), (3, .int (nI g)), (4, .int (nI cc))]) hx hb dX0_mostCarried_2 hl (by decide) rfl (fun ls hl => ?_)
  refine lv_iconst (v := nI 0) hx hb dX0_mostCarried_4 (by decide) ?_
  refine lv_istore (lv' := [(6, .int (nI 0)), (5, .int (nI 2147483647)), (0, .ref (ad 0)), (1, .ref (sd 0)), (2, .ref (kd 0)), (3, .int (nI g)), (4, .int (nI cc))]) hx hb dX0_mostCarried_5 hl (by decide) rfl (fun ls hl => ?_)
  refine x_loop (ι := Nat) (fun set => [(0, .ref (ad 0)), (1, .ref (sd 0)), (2, .ref (kd 0)), (3, .int (nI g)), (4, .int (nI cc)), (5, .int (xcm (fun z => xcs (S 6) (fun y8 => F (5 * y8 + g)) (fun y8 => xwn (S 9) (S 10) (fun y7 => F (59 + y7) - K (59 + y7)) y8 g (tn (S 8 0))) cc (tn (S 5 0)) z (tn (S 5 0))) set)), (6, .int (nI set))]) (fun set => [w0 q ad τ0 τ1 τ2 τ3 (fd 0), wst q sd X, wk q kd K, wk q fd F]) (fun set => set ≤ 2 ^ (tn (S 5 0))) (fun set => 2 ^ (tn (S 5 0)) - set) 0 (Nat.zero_le _) hM (lv_sub hl [2, 3, 4, 5, 6, 1, 0] rfl) ?_
  intro set hI2 ih1 H locs hM ls hl
  have hM : xM D (TY q) [w0 q ad τ0 τ1 τ2 τ3 (fd 0), wst q sd X, wk q kd K, wk q fd F] A s.heap s H locs := hM
  have hl : lv_has ls 9 [(0, .ref (ad 0)), (1, .ref (sd 0)), (2, .ref (kd 0)), (3, .int (nI g)), (4, .int (nI cc)), (5, .int (xcm (fun z => xcs (S 6) (fun y8 => F (5 * y8 + g)) (fun y8 => xwn (S 9) (S 10) (fun y7 => F (59 + y7) - K (59 + y7)) y8 g (tn (S 8 0))) cc (tn (S 5 0)) z (tn (S 5 0))) set)), (6, .int (nI set))] := hl
  have hI2 : set ≤ 2 ^ (tn (S 5 0)) := hI2
  try dsimp only
  refine lv_iload hx hb dX0_mostCarried_7 (lv_at hl 6 rfl) ?_
  refine lv_iconst (v := nI 1) hx hb dX0_mostCarried_9 (by decide) ?_
  refine lv_aload_n hx hb dX0_mostCarried_10 rfl (lv_at hl 1 rfl) ?_
  refine x_get hx hb hts iwX0_mostCarried_X7 hown hM 1 0 rfl rfl rfl 1 (by decide) (hts _ lkX0_mostCarried_52) (fun _ h => h) rfl dX0_mostCarried_11 ?_
  refine x_cast (y := nI (tn (S 5 0))) (okT_1 hT) ?_
  refine lv_ishl hx hb dX0_mostCarried_14 ?_
  refine x_cast (y := nI (2 ^ (tn (S 5 0)))) (x_shl1 hTb1) ?_
  refine x_icmp_ge (x := set) (y := 2 ^ (tn (S 5 0))) (tgt := 106) hx hb (by omega) (by omega) dX0_mostCarried_15 (by decide) (fun c3 => ?_) (fun c3 => ?_)
  · refine lv_iload hx hb dX0_mostCarried_106 (lv_at hl 5 rfl) ?_
    exact x_iret hx hb hr hlocks () hM (show xcm (fun z => xcs (S 6) (fun y8 => F (5 * y8 + g)) (fun y8 => xwn (S 9) (S 10) (fun y7 => F (59 + y7) - K (59 + y7)) y8 g (tn (S 8 0))) cc (tn (S 5 0)) z (tn (S 5 0))) set = xcm (fun z => xcs (S 6) (fun y8 => F (5 * y8 + g)) (fun y8 => xwn (S 9) (S 10) (fun y7 => F (59 + y7) - K (59 + y7)) y8 g (tn (S 8 0))) cc (tn (S 5 0)) z (tn (S 5 0))) (2 ^ (tn (S 5 0))) from by (rw [show set = 2 ^ (tn (S 5 0)) by omega])) dX0_mostCarried_108
  · refine lv_iconst (v := nI 0) hx hb dX0_mostCarried_18 (by decide) ?_
    refine lv_istore (lv' := [(7, .int (nI 0)), (0, .ref (ad 0)), (1, .ref (sd 0)), (2, .ref (kd 0)), (3, .int (nI g)), (4, .int (nI cc)), (5, .int (xcm (fun z => xcs (S 6) (fun y8 => F (5 * y8 + g)) (fun y8 => xwn (S 9) (S 10) (fun y7 => F (59 + y7) - K (59 + y7)) y8 g (tn (S 8 0))) cc (tn (S 5 0)) z (tn (S 5 0))) set)), (6, .int (nI set))]) hx hb dX0_mostCarried_19 hl (by decide) rfl (fun ls hl => ?_)
    refine lv_iconst (v := nI 0) hx hb dX0_mostCarried_21 (by decide) ?_
    refine lv_istore (lv' := [(8, .int (nI 0)), (7, .int (nI 0)), (0, .ref (ad 0)), (1, .ref (sd 0)), (2, .ref (kd 0)), (3, .int (nI g)), (4, .int (nI cc)), (5, .int (xcm (fun z => xcs (S 6) (fun y8 => F (5 * y8 + g)) (fun y8 => xwn (S 9) (S 10) (fun y7 => F (59 + y7) - K (59 + y7)) y8 g (tn (S 8 0))) cc (tn (S 5 0)) z (tn (S 5 0))) set)), (6, .int (nI set))]) hx hb dX0_mostCarried_22 hl (by decide) rfl (fun ls hl => ?_)
    refine x_loop (ι := Nat) (fun h => [(0, .ref (ad 0)), (1, .ref (sd 0)), (2, .ref (kd 0)), (3, .int (nI g)), (4, .int (nI cc)), (5, .int (xcm (fun z => xcs (S 6) (fun y8 => F (5 * y8 + g)) (fun y8 => xwn (S 9) (S 10) (fun y7 => F (59 + y7) - K (59 + y7)) y8 g (tn (S 8 0))) cc (tn (S 5 0)) z (tn (S 5 0))) set)), (6, .int (nI set)), (7, .int (xcs (S 6) (fun y8 => F (5 * y8 + g)) (fun y8 => xwn (S 9) (S 10) (fun y7 => F (59 + y7) - K (59 + y7)) y8 g (tn (S 8 0))) cc (tn (S 5 0)) set h)), (8, .int (nI h))]) (fun h => [w0 q ad τ0 τ1 τ2 τ3 (fd 0), wst q sd X, wk q kd K, wk q fd F]) (fun h => h ≤ (tn (S 5 0))) (fun h => (tn (S 5 0)) - h) 0 (by omega) hM (lv_sub hl [2, 3, 4, 5, 6, 7, 8, 1, 0] rfl) ?_
    intro h hI5 ih4 H locs hM ls hl
    have hM : xM D (TY q) [w0 q ad τ0 τ1 τ2 τ3 (fd 0), wst q sd X, wk q kd K, wk q fd F] A s.heap s H locs := hM
    have hl : lv_has ls 9 [(0, .ref (ad 0)), (1, .ref (sd 0)), (2, .ref (kd 0)), (3, .int (nI g)), (4, .int (nI cc)), (5, .int (xcm (fun z => xcs (S 6) (fun y8 => F (5 * y8 + g)) (fun y8 => xwn (S 9) (S 10) (fun y7 => F (59 + y7) - K (59 + y7)) y8 g (tn (S 8 0))) cc (tn (S 5 0)) z (tn (S 5 0))) set)), (6, .int (nI set)), (7, .int (xcs (S 6) (fun y8 => F (5 * y8 + g)) (fun y8 => xwn (S 9) (S 10) (fun y7 => F (59 + y7) - K (59 + y7)) y8 g (tn (S 8 0))) cc (tn (S 5 0)) set h)), (8, .int (nI h))] := hl
    have hI5 : h ≤ (tn (S 5 0)) := hI5
    try dsimp only
    refine lv_iload hx hb dX0_mostCarried_24 (lv_at hl 8 rfl) ?_
    refine lv_aload_n hx hb dX0_mostCarried_26 rfl (lv_at hl 1 rfl) ?_
    refine x_get hx hb hts iwX0_mostCarried_X7 hown hM 1 0 rfl rfl rfl 1 (by decide) (hts _ lkX0_mostCarried_52) (fun _ h => h) rfl dX0_mostCarried_27 ?_
    refine x_cast (y := nI (tn (S 5 0))) (okT_1 hT) ?_
    refine x_icmp_ge (x := h) (y := tn (S 5 0)) (tgt := 91) hx hb (by omega) (by omega) dX0_mostCarried_30 (by decide) (fun c6 => ?_) (fun c6 => ?_)
    · refine lv_iload hx hb dX0_mostCarried_91 (lv_at hl 5 rfl) ?_
      refine lv_iload hx hb dX0_mostCarried_93 (lv_at hl 7 rfl) ?_
      refine x_mmin (own := RX0) (index := 87) hx hb (by rw [hml]; exact hl.1.symm) hts hown (by simp only [List.forall_mem_cons]; exact ⟨by decide +kernel, by decide +kernel, by decide +kernel, by decide +kernel, fun _ h => absurd h List.not_mem_nil⟩) (Nat.le_of_ble_eq_true rfl) (Nat.le_of_ble_eq_true rfl) (Nat.zero_le _) (Nat.zero_le _) dX0_mostCarried_95 ?_
      refine lv_istore (lv' := [(5, .int (if (xcs (S 6) (fun y8 => F (5 * y8 + g)) (fun y8 => xwn (S 9) (S 10) (fun y7 => F (59 + y7) - K (59 + y7)) y8 g (tn (S 8 0))) cc (tn (S 5 0)) set h) < (xcm (fun z => xcs (S 6) (fun y8 => F (5 * y8 + g)) (fun y8 => xwn (S 9) (S 10) (fun y7 => F (59 + y7) - K (59 + y7)) y8 g (tn (S 8 0))) cc (tn (S 5 0)) z (tn (S 5 0))) set) then (xcs (S 6) (fun y8 => F (5 * y8 + g)) (fun y8 => xwn (S 9) (S 10) (fun y7 => F (59 + y7) - K (59 + y7)) y8 g (tn (S 8 0))) cc (tn (S 5 0)) set h) else (xcm (fun z => xcs (S 6) (fun y8 => F (5 * y8 + g)) (fun y8 => xwn (S 9) (S 10) (fun y7 => F (59 + y7) - K (59 + y7)) y8 g (tn (S 8 0))) cc (tn (S 5 0)) z (tn (S 5 0))) set))), (0, .ref (ad 0)), (1, .ref (sd 0)), (2, .ref (kd 0)), (3, .int (nI g)), (4, .int (nI cc)), (6, .int (nI set)), (7, .int (xcs (S 6) (fun y8 => F (5 * y8 + g)) (fun y8 => xwn (S 9) (S 10) (fun y7 => F (59 + y7) - K (59 + y7)) y8 g (tn (S 8 0))) cc (tn (S 5 0)) set h)), (8, .int (nI h))]) hx hb dX0_mostCarried_98 hl (by decide) rfl (fun ls hl => ?_)
      refine lv_iinc (v := nI (set + 1)) (lv' := [(6, .int (nI (set + 1))), (5, .int (if (xcs (S 6) (fun y8 => F (5 * y8 + g)) (fun y8 => xwn (S 9) (S 10) (fun y7 => F (59 + y7) - K (59 + y7)) y8 g (tn (S 8 0))) cc (tn (S 5 0)) set h) < (xcm (fun z => xcs (S 6) (fun y8 => F (5 * y8 + g)) (fun y8 => xwn (S 9) (S 10) (fun y7 => F (59 + y7) - K (59 + y7)) y8 g (tn (S 8 0))) cc (tn (S 5 0)) z (tn (S 5 0))) set) then (xcs (S 6) (fun y8 => F (5 * y8 + g)) (fun y8 => xwn (S 9) (S 10) (fun y7 => F (59 + y7) - K (59 + y7)) y8 g (tn (S 8 0))) cc (tn (S 5 0)) set h) else (xcm (fun z => xcs (S 6) (fun y8 => F (5 * y8 + g)) (fun y8 => xwn (S 9) (S 10) (fun y7 => F (59 + y7) - K (59 + y7)) y8 g (tn (S 8 0))) cc (tn (S 5 0)) z (tn (S 5 0))) set))), (0, .ref (ad 0)), (1, .ref (sd 0)), (2, .ref (kd 0)), (3, .int (nI g)), (4, .int (nI cc)), (7, .int (xcs (S 6) (fun y8 => F (5 * y8 + g)) (fun y8 => xwn (S 9) (S 10) (fun y7 => F (59 + y7) - K (59 + y7)) y8 g (tn (S 8 0))) cc (tn (S 5 0)) set h)), (8, .int (nI h))]) hx hb dX0_mostCarried_100 hl (k := 6) rfl (x_inc _ 1) (by decide) rfl (fun ls hl => ?_)
      refine lv_goto (tgt := 7) hx hb dX0_mostCarried_103 (by decide) ?_
      have hl : lv_has ls 9 [(0, .ref (ad 0)), (1, .ref (sd 0)), (2, .ref (kd 0)), (3, .int (nI g)), (4, .int (nI cc)), (5, .int (if (xcs (S 6) (fun y8 => F (5 * y8 + g)) (fun y8 => xwn (S 9) (S 10) (fun y7 => F (59 + y7) - K (59 + y7)) y8 g (tn (S 8 0))) cc (tn (S 5 0)) set h) < (xcm (fun z => xcs (S 6) (fun y8 => F (5 * y8 + g)) (fun y8 => xwn (S 9) (S 10) (fun y7 => F (59 + y7) - K (59 + y7)) y8 g (tn (S 8 0))) cc (tn (S 5 0)) z (tn (S 5 0))) set) then (xcs (S 6) (fun y8 => F (5 * y8 + g)) (fun y8 => xwn (S 9) (S 10) (fun y7 => F (59 + y7) - K (59 + y7)) y8 g (tn (S 8 0))) cc (tn (S 5 0)) set h) else (xcm (fun z => xcs (S 6) (fun y8 => F (5 * y8 + g)) (fun y8 => xwn (S 9) (S 10) (fun y7 => F (59 + y7) - K (59 + y7)) y8 g (tn (S 8 0))) cc (tn (S 5 0)) z (tn (S 5 0))) set))), (6, .int (nI (set + 1)))] := lv_sub hl [2, 3, 4, 5, 6, 1, 0] rfl
      have e7 : (if (xcs (S 6) (fun y8 => F (5 * y8 + g)) (fun y8 => xwn (S 9) (S 10) (fun y7 => F (59 + y7) - K (59 + y7)) y8 g (tn (S 8 0))) cc (tn (S 5 0)) set h) < (xcm (fun z => xcs (S 6) (fun y8 => F (5 * y8 + g)) (fun y8 => xwn (S 9) (S 10) (fun y7 => F (59 + y7) - K (59 + y7)) y8 g (tn (S 8 0))) cc (tn (S 5 0)) z (tn (S 5 0))) set) then (xcs (S 6) (fun y8 => F (5 * y8 + g)) (fun y8 => xwn (S 9) (S 10) (fun y7 => F (59 + y7) - K (59 + y7)) y8 g (tn (S 8 0))) cc (tn (S 5 0)) set h) else (xcm (fun z => xcs (S 6) (fun y8 => F (5 * y8 + g)) (fun y8 => xwn (S 9) (S 10) (fun y7 => F (59 + y7) - K (59 + y7)) y8 g (tn (S 8 0))) cc (tn (S 5 0)) z (tn (S 5 0))) set)) = xcm (fun z => xcs (S 6) (fun y8 => F (5 * y8 + g)) (fun y8 => xwn (S 9) (S 10) (fun y7 => F (59 + y7) - K (59 + y7)) y8 g (tn (S 8 0))) cc (tn (S 5 0)) z (tn (S 5 0))) (set + 1) := by (have hk9 : h = (tn (S 5 0)) := (by omega); subst hk9; rfl)
      have hl : lv_has ls 9 [(0, .ref (ad 0)), (1, .ref (sd 0)), (2, .ref (kd 0)), (3, .int (nI g)), (4, .int (nI cc)), (5, .int (xcm (fun z => xcs (S 6) (fun y8 => F (5 * y8 + g)) (fun y8 => xwn (S 9) (S 10) (fun y7 => F (59 + y7) - K (59 + y7)) y8 g (tn (S 8 0))) cc (tn (S 5 0)) z (tn (S 5 0))) (set + 1))), (6, .int (nI (set + 1)))] := x_lvset hl 5 rfl (congrArg Value.int e7) rfl
      exact ih1 (set + 1) (show 2 ^ (tn (S 5 0)) - (set + 1) < 2 ^ (tn (S 5 0)) - set from by omega) (show (set + 1) ≤ 2 ^ (tn (S 5 0)) from by omega) _ _ hM _ hl
    · refine lv_iload hx hb dX0_mostCarried_33 (lv_at hl 6 rfl) ?_
      refine lv_iload hx hb dX0_mostCarried_35 (lv_at hl 8 rfl) ?_
      refine lv_ishr hx hb dX0_mostCarried_37 ?_
      refine x_cast (y := nI (set / 2 ^ h)) (x_shr (by omega) (by omega)) ?_
      refine lv_iconst (v := nI 1) hx hb dX0_mostCarried_38 (by decide) ?_
      refine lv_iand hx hb dX0_mostCarried_39 ?_
      refine x_cast (y := nI (set / 2 ^ h % 2)) (x_and1 (Nat.lt_of_le_of_lt (Nat.div_le_self _ _) (by omega))) ?_
      refine x_join (ι := Int32) (pcJ := 57) (fun j8 => [(0, .ref (ad 0)), (1, .ref (sd 0)), (2, .ref (kd 0)), (3, .int (nI g)), (4, .int (nI cc)), (5, .int (xcm (fun z => xcs (S 6) (fun y8 => F (5 * y8 + g)) (fun y8 => xwn (S 9) (S 10) (fun y7 => F (59 + y7) - K (59 + y7)) y8 g (tn (S 8 0))) cc (tn (S 5 0)) z (tn (S 5 0))) set)), (6, .int (nI set)), (7, .int j8), (8, .int (nI h))]) (fun j8 => [w0 q ad τ0 τ1 τ2 τ3 (fd 0), wst q sd X, wk q kd K, wk q fd F]) (fun j8 => []) (fun j8 => j8 = (if ¬ (set / 2 ^ h % 2) = 0 then (xcs (S 6) (fun y8 => F (5 * y8 + g)) (fun y8 => xwn (S 9) (S 10) (fun y7 => F (59 + y7) - K (59 + y7)) y8 g (tn (S 8 0))) cc (tn (S 5 0)) set h) else ((xcs (S 6) (fun y8 => F (5 * y8 + g)) (fun y8 => xwn (S 9) (S 10) (fun y7 => F (59 + y7) - K (59 + y7)) y8 g (tn (S 8 0))) cc (tn (S 5 0)) set h) + (xwn (S 9) (S 10) (fun y7 => F (59 + y7) - K (59 + y7)) h g (tn (S 8 0)))))) hM hl ?_ ?_
      · intro j8 hj9 H locs hM ls hl
        have hM : xM D (TY q) [w0 q ad τ0 τ1 τ2 τ3 (fd 0), wst q sd X, wk q kd K, wk q fd F] A s.heap s H locs := hM
        have hl : lv_has ls 9 [(0, .ref (ad 0)), (1, .ref (sd 0)), (2, .ref (kd 0)), (3, .int (nI g)), (4, .int (nI cc)), (5, .int (xcm (fun z => xcs (S 6) (fun y8 => F (5 * y8 + g)) (fun y8 => xwn (S 9) (S 10) (fun y7 => F (59 + y7) - K (59 + y7)) y8 g (tn (S 8 0))) cc (tn (S 5 0)) z (tn (S 5 0))) set)), (6, .int (nI set)), (7, .int j8), (8, .int (nI h))] := hl
        try dsimp only
        have hj8 : j8 = (if ¬ (set / 2 ^ h % 2) = 0 then (xcs (S 6) (fun y8 => F (5 * y8 + g)) (fun y8 => xwn (S 9) (S 10) (fun y7 => F (59 + y7) - K (59 + y7)) y8 g (tn (S 8 0))) cc (tn (S 5 0)) set h) else ((xcs (S 6) (fun y8 => F (5 * y8 + g)) (fun y8 => xwn (S 9) (S 10) (fun y7 => F (59 + y7) - K (59 + y7)) y8 g (tn (S 8 0))) cc (tn (S 5 0)) set h) + (xwn (S 9) (S 10) (fun y7 => F (59 + y7) - K (59 + y7)) h g (tn (S 8 0))))) := hj9
        have e10 : j8 = xcs (S 6) (fun y8 => F (5 * y8 + g)) (fun y8 => xwn (S 9) (S 10) (fun y7 => F (59 + y7) - K (59 + y7)) y8 g (tn (S 8 0))) cc (tn (S 5 0)) set h + (if ¬ (set / 2 ^ h % 2 = 1) then xwn (S 9) (S 10) (fun y7 => F (59 + y7) - K (59 + y7)) h g (tn (S 8 0)) else nI 0) := by rw [hj8]; exact xcs_j (Nat.mod_lt _ (by decide))
        have hl : lv_has ls 9 [(0, .ref (ad 0)), (1, .ref (sd 0)), (2, .ref (kd 0)), (3, .int (nI g)), (4, .int (nI cc)), (5, .int (xcm (fun z => xcs (S 6) (fun y8 => F (5 * y8 + g)) (fun y8 => xwn (S 9) (S 10) (fun y7 => F (59 + y7) - K (59 + y7)) y8 g (tn (S 8 0))) cc (tn (S 5 0)) z (tn (S 5 0))) set)), (6, .int (nI set)), (7, .int (xcs (S 6) (fun y8 => F (5 * y8 + g)) (fun y8 => xwn (S 9) (S 10) (fun y7 => F (59 + y7) - K (59 + y7)) y8 g (tn (S 8 0))) cc (tn (S 5 0)) set h + (if ¬ (set / 2 ^ h % 2 = 1) then xwn (S 9) (S 10) (fun y7 => F (59 + y7) - K (59 + y7)) h g (tn (S 8 0)) else nI 0))), (8, .int (nI h))] := x_lvset hl 7 rfl (congrArg Value.int e10) rfl
        refine lv_aload_n hx hb dX0_mostCarried_57 rfl (lv_at hl 1 rfl) ?_
        refine lv_iload hx hb dX0_mostCarried_58 (lv_at hl 8 rfl) ?_
        refine lv_iload hx hb dX0_mostCarried_60 (lv_at hl 6 rfl) ?_
        refine lv_iload hx hb dX0_mostCarried_62 (lv_at hl 4 rfl) ?_
        refine x_calli (bc := [wst q sd X]) (br := [w0 q ad τ0 τ1 τ2 τ3 (fd 0), wk q kd K, wk q fd F]) hM [1] [0, 2, 3] rfl rfl rfl (by decide) (x_runS (As := [.ref (sd 0), .int (nI h), .int (nI set), .int (nI cc)]) (rest := []) hfix (c_X0_isNear l D q sd X S h set cc hT (by omega) (by omega) (by omega)) (va_cwS 4 hts gX0_mostCarried_X0_isNear rfl rfl rfl (by decide +kernel) ⟨Nat.le_of_ble_eq_true rfl, Nat.le_of_ble_eq_true rfl⟩) hM [1] rfl rfl rfl hl.1 rfl (Nat.le_of_ble_eq_true rfl) dX0_mostCarried_64 ⟨Nat.le_of_ble_eq_true rfl, Nat.le_of_ble_eq_true rfl⟩) (fun r u H locs hq hM => ?_)
        subst hq
        have hM : xM D (TY q) [w0 q ad τ0 τ1 τ2 τ3 (fd 0), wk q kd K, wk q fd F, wst q sd X] A s.heap s H locs := hM
        have hM : xM D (TY q) [w0 q ad τ0 τ1 τ2 τ3 (fd 0), wst q sd X, wk q kd K, wk q fd F] A s.heap s H locs := hM.sel [0, 3, 1, 2] rfl rfl
        refine x_ifz_eq (P := xnr (S 6) cc set h (tn (S 5 0)) = true) (tgt := 85) hx hb dX0_mostCarried_67 (by decide) (fun c11 => ?_) (fun c11 => ?_)
        · refine lv_iinc (v := nI (h + 1)) (lv' := [(8, .int (nI (h + 1))), (0, .ref (ad 0)), (1, .ref (sd 0)), (2, .ref (kd 0)), (3, .int (nI g)), (4, .int (nI cc)), (5, .int (xcm (fun z => xcs (S 6) (fun y8 => F (5 * y8 + g)) (fun y8 => xwn (S 9) (S 10) (fun y7 => F (59 + y7) - K (59 + y7)) y8 g (tn (S 8 0))) cc (tn (S 5 0)) z (tn (S 5 0))) set)), (6, .int (nI set)), (7, .int (xcs (S 6) (fun y8 => F (5 * y8 + g)) (fun y8 => xwn (S 9) (S 10) (fun y7 => F (59 + y7) - K (59 + y7)) y8 g (tn (S 8 0))) cc (tn (S 5 0)) set h + (if ¬ (set / 2 ^ h % 2 = 1) then xwn (S 9) (S 10) (fun y7 => F (59 + y7) - K (59 + y7)) h g (tn (S 8 0)) else nI 0)))]) hx hb dX0_mostCarried_85 hl (k := 8) rfl (x_inc _ 1) (by decide) rfl (fun ls hl => ?_)
          refine lv_goto (tgt := 24) hx hb dX0_mostCarried_88 (by decide) ?_
          have hl : lv_has ls 9 [(0, .ref (ad 0)), (1, .ref (sd 0)), (2, .ref (kd 0)), (3, .int (nI g)), (4, .int (nI cc)), (5, .int (xcm (fun z => xcs (S 6) (fun y8 => F (5 * y8 + g)) (fun y8 => xwn (S 9) (S 10) (fun y7 => F (59 + y7) - K (59 + y7)) y8 g (tn (S 8 0))) cc (tn (S 5 0)) z (tn (S 5 0))) set)), (6, .int (nI set)), (7, .int (xcs (S 6) (fun y8 => F (5 * y8 + g)) (fun y8 => xwn (S 9) (S 10) (fun y7 => F (59 + y7) - K (59 + y7)) y8 g (tn (S 8 0))) cc (tn (S 5 0)) set h + (if ¬ (set / 2 ^ h % 2 = 1) then xwn (S 9) (S 10) (fun y7 => F (59 + y7) - K (59 + y7)) h g (tn (S 8 0)) else nI 0))), (8, .int (nI (h + 1)))] := lv_sub hl [1, 2, 3, 4, 5, 6, 7, 8, 0] rfl
          have e12 : xcs (S 6) (fun y8 => F (5 * y8 + g)) (fun y8 => xwn (S 9) (S 10) (fun y7 => F (59 + y7) - K (59 + y7)) y8 g (tn (S 8 0))) cc (tn (S 5 0)) set h + (if ¬ (set / 2 ^ h % 2 = 1) then xwn (S 9) (S 10) (fun y7 => F (59 + y7) - K (59 + y7)) h g (tn (S 8 0)) else nI 0) = xcs (S 6) (fun y8 => F (5 * y8 + g)) (fun y8 => xwn (S 9) (S 10) (fun y7 => F (59 + y7) - K (59 + y7)) y8 g (tn (S 8 0))) cc (tn (S 5 0)) set (h + 1) := by (first | exact xcs_1 rfl (by assumption) | exact xcs_z rfl (by assumption))
          have hl : lv_has ls 9 [(0, .ref (ad 0)), (1, .ref (sd 0)), (2, .ref (kd 0)), (3, .int (nI g)), (4, .int (nI cc)), (5, .int (xcm (fun z => xcs (S 6) (fun y8 => F (5 * y8 + g)) (fun y8 => xwn (S 9) (S 10) (fun y7 => F (59 + y7) - K (59 + y7)) y8 g (tn (S 8 0))) cc (tn (S 5 0)) z (tn (S 5 0))) set)), (6, .int (nI set)), (7, .int (xcs (S 6) (fun y8 => F (5 * y8 + g)) (fun y8 => xwn (S 9) (S 10) (fun y7 => F (59 + y7) - K (59 + y7)) y8 g (tn (S 8 0))) cc (tn (S 5 0)) set (h + 1))), (8, .int (nI (h + 1)))] := x_lvset hl 7 rfl (congrArg Value.int e12) rfl
          exact ih4 (h + 1) (show (tn (S 5 0)) - (h + 1) < (tn (S 5 0)) - h from by omega) (show (h + 1) ≤ (tn (S 5 0)) from by omega) _ _ hM _ hl
        · refine lv_iload hx hb dX0_mostCarried_70 (lv_at hl 7 rfl) ?_
          refine lv_aload_n hx hb dX0_mostCarried_72 rfl (lv_at hl 0 rfl) ?_
          refine x_get hx hb hts iwX0_mostCarried_X0 hown hM 0 0 rfl rfl rfl 4 (by decide) (hts _ lkX0_mostCarried_12) (fun _ h => h) rfl dX0_mostCarried_73 ?_
          refine lv_iload hx hb dX0_mostCarried_76 (lv_at hl 8 rfl) ?_
          refine lv_iload_n hx hb dX0_mostCarried_78 rfl (lv_at hl 3 rfl) ?_
          refine x_calli (bc := [wk q fd F]) (br := [w0 q ad τ0 τ1 τ2 τ3 (fd 0), wst q sd X, wk q kd K]) hM [3] [0, 1, 2] rfl rfl rfl (by decide) (x_runV (As := [.int (nI h), .int (nI g)]) (rest := [.int (xcs (S 6) (fun y8 => F (5 * y8 + g)) (fun y8 => xwn (S 9) (S 10) (fun y7 => F (59 + y7) - K (59 + y7)) y8 g (tn (S 8 0))) cc (tn (S 5 0)) set h + (if ¬ (set / 2 ^ h % 2 = 1) then xwn (S 9) (S 10) (fun y7 => F (59 + y7) - K (59 + y7)) h g (tn (S 8 0)) else nI 0))]) hfix (c_X1_piecesOf l D q fd F h g (by omega) (by omega)) (cwV 2 hts gX0_mostCarried_X1_piecesOf rfl rfl rfl (by decide +kernel) ⟨Nat.le_of_ble_eq_true rfl, Nat.le_of_ble_eq_true rfl⟩) hM [3] rfl rfl 3 0 rfl rfl rfl rfl rfl hl.1 rfl (Nat.le_of_ble_eq_true rfl) dX0_mostCarried_79 ⟨Nat.le_of_ble_eq_true rfl, Nat.le_of_ble_eq_true rfl⟩) (fun r u H locs hq hM => ?_)
          subst hq
          have hM : xM D (TY q) [w0 q ad τ0 τ1 τ2 τ3 (fd 0), wst q sd X, wk q kd K, wk q fd F] A s.heap s H locs := hM
          refine lv_iadd hx hb dX0_mostCarried_82 ?_
          refine lv_istore (lv' := [(7, .int ((xcs (S 6) (fun y8 => F (5 * y8 + g)) (fun y8 => xwn (S 9) (S 10) (fun y7 => F (59 + y7) - K (59 + y7)) y8 g (tn (S 8 0))) cc (tn (S 5 0)) set h + (if ¬ (set / 2 ^ h % 2 = 1) then xwn (S 9) (S 10) (fun y7 => F (59 + y7) - K (59 + y7)) h g (tn (S 8 0)) else nI 0)) + (F (5 * h + g)))), (0, .ref (ad 0)), (1, .ref (sd 0)), (2, .ref (kd 0)), (3, .int (nI g)), (4, .int (nI cc)), (5, .int (xcm (fun z => xcs (S 6) (fun y8 => F (5 * y8 + g)) (fun y8 => xwn (S 9) (S 10) (fun y7 => F (59 + y7) - K (59 + y7)) y8 g (tn (S 8 0))) cc (tn (S 5 0)) z (tn (S 5 0))) set)), (6, .int (nI set)), (8, .int (nI h))]) hx hb dX0_mostCarried_83 hl (by decide) rfl (fun ls hl => ?_)
          refine lv_iinc (v := nI (h + 1)) (lv' := [(8, .int (nI (h + 1))), (7, .int ((xcs (S 6) (fun y8 => F (5 * y8 + g)) (fun y8 => xwn (S 9) (S 10) (fun y7 => F (59 + y7) - K (59 + y7)) y8 g (tn (S 8 0))) cc (tn (S 5 0)) set h + (if ¬ (set / 2 ^ h % 2 = 1) then xwn (S 9) (S 10) (fun y7 => F (59 + y7) - K (59 + y7)) h g (tn (S 8 0)) else nI 0)) + (F (5 * h + g)))), (0, .ref (ad 0)), (1, .ref (sd 0)), (2, .ref (kd 0)), (3, .int (nI g)), (4, .int (nI cc)), (5, .int (xcm (fun z => xcs (S 6) (fun y8 => F (5 * y8 + g)) (fun y8 => xwn (S 9) (S 10) (fun y7 => F (59 + y7) - K (59 + y7)) y8 g (tn (S 8 0))) cc (tn (S 5 0)) z (tn (S 5 0))) set)), (6, .int (nI set))]) hx hb dX0_mostCarried_85 hl (k := 8) rfl (x_inc _ 1) (by decide) rfl (fun ls hl => ?_)
          refine lv_goto (tgt := 24) hx hb dX0_mostCarried_88 (by decide) ?_
          have hl : lv_has ls 9 [(0, .ref (ad 0)), (1, .ref (sd 0)), (2, .ref (kd 0)), (3, .int (nI g)), (4, .int (nI cc)), (5, .int (xcm (fun z => xcs (S 6) (fun y8 => F (5 * y8 + g)) (fun y8 => xwn (S 9) (S 10) (fun y7 => F (59 + y7) - K (59 + y7)) y8 g (tn (S 8 0))) cc (tn (S 5 0)) z (tn (S 5 0))) set)), (6, .int (nI set)), (7, .int ((xcs (S 6) (fun y8 => F (5 * y8 + g)) (fun y8 => xwn (S 9) (S 10) (fun y7 => F (59 + y7) - K (59 + y7)) y8 g (tn (S 8 0))) cc (tn (S 5 0)) set h + (if ¬ (set / 2 ^ h % 2 = 1) then xwn (S 9) (S 10) (fun y7 => F (59 + y7) - K (59 + y7)) h g (tn (S 8 0)) else nI 0)) + (F (5 * h + g)))), (8, .int (nI (h + 1)))] := lv_sub hl [2, 3, 4, 5, 6, 7, 8, 1, 0] rfl
          have e13 : (xcs (S 6) (fun y8 => F (5 * y8 + g)) (fun y8 => xwn (S 9) (S 10) (fun y7 => F (59 + y7) - K (59 + y7)) y8 g (tn (S 8 0))) cc (tn (S 5 0)) set h + (if ¬ (set / 2 ^ h % 2 = 1) then xwn (S 9) (S 10) (fun y7 => F (59 + y7) - K (59 + y7)) h g (tn (S 8 0)) else nI 0)) + (F (5 * h + g)) = xcs (S 6) (fun y8 => F (5 * y8 + g)) (fun y8 => xwn (S 9) (S 10) (fun y7 => F (59 + y7) - K (59 + y7)) y8 g (tn (S 8 0))) cc (tn (S 5 0)) set (h + 1) := by (first | exact xcs_1 rfl (by assumption) | exact xcs_z rfl (by assumption))
          have hl : lv_has ls 9 [(0, .ref (ad 0)), (1, .ref (sd 0)), (2, .ref (kd 0)), (3, .int (nI g)), (4, .int (nI cc)), (5, .int (xcm (fun z => xcs (S 6) (fun y8 => F (5 * y8 + g)) (fun y8 => xwn (S 9) (S 10) (fun y7 => F (59 + y7) - K (59 + y7)) y8 g (tn (S 8 0))) cc (tn (S 5 0)) z (tn (S 5 0))) set)), (6, .int (nI set)), (7, .int (xcs (S 6) (fun y8 => F (5 * y8 + g)) (fun y8 => xwn (S 9) (S 10) (fun y7 => F (59 + y7) - K (59 + y7)) y8 g (tn (S 8 0))) cc (tn (S 5 0)) set (h + 1))), (8, .int (nI (h + 1)))] := x_lvset hl 7 rfl (congrArg Value.int e13) rfl
          exact ih4 (h + 1) (show (tn (S 5 0)) - (h + 1) < (tn (S 5 0)) - h from by omega) (show (h + 1) ≤ (tn (S 5 0)) from by omega) _ _ hM _ hl
      · intro hJ14 H locs hM ls hl
        refine x_if_ne (x := set / 2 ^ h % 2) (tgt := 57) hx hb (by omega) dX0_mostCarried_40 (by decide) (fun c15 => ?_) (fun c15 => ?_)
        · exact hJ14 (xcs (S 6) (fun y8 => F (5 * y8 + g)) (fun y8 => xwn (S 9) (S 10) (fun y7 => F (59 + y7) - K (59 + y7)) y8 g (tn (S 8 0))) cc (tn (S 5 0)) set h) (show (xcs (S 6) (fun y8 => F (5 * y8 + g)) (fun y8 => xwn (S 9) (S 10) (fun y7 => F (59 + y7) - K (59 + y7)) y8 g (tn (S 8 0))) cc (tn (S 5 0)) set h) = (if ¬ (set / 2 ^ h % 2) = 0 then (xcs (S 6) (fun y8 => F (5 * y8 + g)) (fun y8 => xwn (S 9) (S 10) (fun y7 => F (59 + y7) - K (59 + y7)) y8 g (tn (S 8 0))) cc (tn (S 5 0)) set h) else ((xcs (S 6) (fun y8 => F (5 * y8 + g)) (fun y8 => xwn (S 9) (S 10) (fun y7 => F (59 + y7) - K (59 + y7)) y8 g (tn (S 8 0))) cc (tn (S 5 0)) set h) + (xwn (S 9) (S 10) (fun y7 => F (59 + y7) - K (59 + y7)) h g (tn (S 8 0))))) from by (first | exact (if_pos (by assumption)).symm | exact (if_neg (by assumption)).symm | exact (if_neg (not_not_intro (by assumption))).symm)) _ _ hM _ (lv_sub hl [0, 1, 2, 3, 4, 5, 6, 7, 8] rfl)
        · refine lv_iload hx hb dX0_mostCarried_43 (lv_at hl 7 rfl) ?_
          refine lv_aload_n hx hb dX0_mostCarried_45 rfl (lv_at hl 0 rfl) ?_
          refine lv_aload_n hx hb dX0_mostCarried_46 rfl (lv_at hl 1 rfl) ?_
          refine lv_aload_n hx hb dX0_mostCarried_47 rfl (lv_at hl 2 rfl) ?_
          refine lv_iload hx hb dX0_mostCarried_48 (lv_at hl 8 rfl) ?_
          refine lv_iload_n hx hb dX0_mostCarried_50 rfl (lv_at hl 3 rfl) ?_
          refine x_calli (bc := [w0 q ad τ0 τ1 τ2 τ3 (fd 0), wst q sd X, wk q kd K, wk q fd F]) (br := []) hM [0, 1, 2, 3] [] rfl rfl rfl (by decide) (x_runV (As := [.ref (sd 0), .ref (kd 0), .int (nI h), .int (nI g)]) (rest := [.int (xcs (S 6) (fun y8 => F (5 * y8 + g)) (fun y8 => xwn (S 9) (S 10) (fun y7 => F (59 + y7) - K (59 + y7)) y8 g (tn (S 8 0))) cc (tn (S 5 0)) set h)]) hfix (c_X0_wantedIn l D q ad τ0 τ1 τ2 τ3 (fd 0) sd X kd K fd F S h g hT (by omega) (by omega)) (cwV 4 hts gX0_mostCarried_X0_wantedIn rfl rfl rfl (by decide +kernel) ⟨Nat.le_of_ble_eq_true rfl, Nat.le_of_ble_eq_true rfl⟩) hM [0, 1, 2, 3] rfl rfl 0 0 rfl rfl rfl rfl rfl hl.1 rfl (Nat.le_of_ble_eq_true rfl) dX0_mostCarried_51 ⟨Nat.le_of_ble_eq_true rfl, Nat.le_of_ble_eq_true rfl⟩) (fun r u H locs hq hM => ?_)
          subst hq
          have hM : xM D (TY q) [w0 q ad τ0 τ1 τ2 τ3 (fd 0), wst q sd X, wk q kd K, wk q fd F] A s.heap s H locs := hM
          refine lv_iadd hx hb dX0_mostCarried_54 ?_
          refine lv_istore (lv' := [(7, .int ((xcs (S 6) (fun y8 => F (5 * y8 + g)) (fun y8 => xwn (S 9) (S 10) (fun y7 => F (59 + y7) - K (59 + y7)) y8 g (tn (S 8 0))) cc (tn (S 5 0)) set h) + (xwn (S 9) (S 10) (fun y7 => F (59 + y7) - K (59 + y7)) h g (tn (S 8 0))))), (0, .ref (ad 0)), (1, .ref (sd 0)), (2, .ref (kd 0)), (3, .int (nI g)), (4, .int (nI cc)), (5, .int (xcm (fun z => xcs (S 6) (fun y8 => F (5 * y8 + g)) (fun y8 => xwn (S 9) (S 10) (fun y7 => F (59 + y7) - K (59 + y7)) y8 g (tn (S 8 0))) cc (tn (S 5 0)) z (tn (S 5 0))) set)), (6, .int (nI set)), (8, .int (nI h))]) hx hb dX0_mostCarried_55 hl (by decide) rfl (fun ls hl => ?_)
          exact hJ14 ((xcs (S 6) (fun y8 => F (5 * y8 + g)) (fun y8 => xwn (S 9) (S 10) (fun y7 => F (59 + y7) - K (59 + y7)) y8 g (tn (S 8 0))) cc (tn (S 5 0)) set h) + (xwn (S 9) (S 10) (fun y7 => F (59 + y7) - K (59 + y7)) h g (tn (S 8 0)))) (show ((xcs (S 6) (fun y8 => F (5 * y8 + g)) (fun y8 => xwn (S 9) (S 10) (fun y7 => F (59 + y7) - K (59 + y7)) y8 g (tn (S 8 0))) cc (tn (S 5 0)) set h) + (xwn (S 9) (S 10) (fun y7 => F (59 + y7) - K (59 + y7)) h g (tn (S 8 0)))) = (if ¬ (set / 2 ^ h % 2) = 0 then (xcs (S 6) (fun y8 => F (5 * y8 + g)) (fun y8 => xwn (S 9) (S 10) (fun y7 => F (59 + y7) - K (59 + y7)) y8 g (tn (S 8 0))) cc (tn (S 5 0)) set h) else ((xcs (S 6) (fun y8 => F (5 * y8 + g)) (fun y8 => xwn (S 9) (S 10) (fun y7 => F (59 + y7) - K (59 + y7)) y8 g (tn (S 8 0))) cc (tn (S 5 0)) set h) + (xwn (S 9) (S 10) (fun y7 => F (59 + y7) - K (59 + y7)) h g (tn (S 8 0))))) from by (first | exact (if_pos (by assumption)).symm | exact (if_neg (by assumption)).symm | exact (if_neg (not_not_intro (by assumption))).symm)) _ _ hM _ (lv_sub hl [1, 2, 3, 4, 5, 6, 7, 0, 8] rfl)

set_option maxRecDepth 20000 in
theorem ggX0_tryRound_X7_cellOf : GoodIn wsX0_tryRound wsX7_cellOf := goodIn_r _ [13, 14, 15, 16, 17, 18, 51, 52, 53, 54, 55, 56, 57, 58, 59, 60, 61, 62, 63, 64, 65, 66] (by decide +kernel) (by decide +kernel)
set_option maxRecDepth 20000 in
theorem gX0_tryRound_X7_cellOf : GoodIn wsX0_tryRound (wsV RX0 114 RX7 yX7_cellOf wsX7_cellOf) := goodIn_app (goodIn_of _ (by decide +kernel)) ggX0_tryRound_X7_cellOf
set_option maxRecDepth 20000 in
theorem ggX0_tryRound_X8_within : GoodIn wsX0_tryRound wsX8_within := goodIn_r _ [21] (by decide +kernel) (by decide +kernel)
set_option maxRecDepth 20000 in
theorem gX0_tryRound_X8_within_n120 : GoodIn wsX0_tryRound (wsX8_within) := ggX0_tryRound_X8_within
set_option maxRecDepth 20000 in
theorem ggX0_tryRound_X1_worthOf : GoodIn wsX0_tryRound wsX1_worthOf := goodIn_r _ [26, 27, 28, 29, 30, 12, 31, 32, 15, 16, 17, 18, 33, 34, 35, 25, 36, 37, 38, 39, 40, 41, 42, 43, 44, 45, 46, 47, 48, 49, 50, 51, 52, 53, 54, 55, 56, 57, 58, 59, 60, 61, 62, 63, 64, 65, 66, 72, 73, 74, 75, 76, 77] (by decide +kernel) (by decide +kernel)
set_option maxRecDepth 20000 in
theorem gX0_tryRound_X1_worthOf : GoodIn wsX0_tryRound (wsV RX0 124 RX1 yX1_worthOf wsX1_worthOf) := goodIn_app (goodIn_of _ (by decide +kernel)) ggX0_tryRound_X1_worthOf
theorem dX0_tryRound_0 : decode cX0_tryRound 0 = .ok (.iload 5, 2) := by decide +kernel
theorem dX0_tryRound_2 : decode cX0_tryRound 2 = .ok (.iload 4, 2) := by decide +kernel
theorem dX0_tryRound_4 : decode cX0_tryRound 4 = .ok (.isub, 1) := by decide +kernel
theorem dX0_tryRound_5 : decode cX0_tryRound 5 = .ok (.iload_n 2, 1) := by decide +kernel
theorem dX0_tryRound_6 : decode cX0_tryRound 6 = .ok (.iload 4, 2) := by decide +kernel
theorem dX0_tryRound_8 : decode cX0_tryRound 8 = .ok (.isub, 1) := by decide +kernel
theorem dX0_tryRound_9 : decode cX0_tryRound 9 = .ok (.iload 5, 2) := by decide +kernel
theorem dX0_tryRound_11 : decode cX0_tryRound 11 = .ok (.iload_n 2, 1) := by decide +kernel
theorem dX0_tryRound_12 : decode cX0_tryRound 12 = .ok (.isub, 1) := by decide +kernel
theorem dX0_tryRound_13 : decode cX0_tryRound 13 = .ok (.invokestatic 87, 3) := by decide +kernel
theorem dX0_tryRound_16 : decode cX0_tryRound 16 = .ok (.iadd, 1) := by decide +kernel
theorem dX0_tryRound_17 : decode cX0_tryRound 17 = .ok (.istore 6, 2) := by decide +kernel
theorem dX0_tryRound_19 : decode cX0_tryRound 19 = .ok (.iload 6, 2) := by decide +kernel
theorem dX0_tryRound_21 : decode cX0_tryRound 21 = .ok (.iload_n 3, 1) := by decide +kernel
theorem dX0_tryRound_22 : decode cX0_tryRound 22 = .ok (.if_icmp .le 4, 3) := by decide +kernel
theorem dX0_tryRound_25 : decode cX0_tryRound 25 = .ok (.return_, 1) := by decide +kernel
theorem dX0_tryRound_26 : decode cX0_tryRound 26 = .ok (.iconst 0, 1) := by decide +kernel
theorem dX0_tryRound_27 : decode cX0_tryRound 27 = .ok (.istore 7, 2) := by decide +kernel
theorem dX0_tryRound_29 : decode cX0_tryRound 29 = .ok (.iconst 0, 1) := by decide +kernel
theorem dX0_tryRound_30 : decode cX0_tryRound 30 = .ok (.istore 8, 2) := by decide +kernel
theorem dX0_tryRound_32 : decode cX0_tryRound 32 = .ok (.iload 8, 2) := by decide +kernel
theorem dX0_tryRound_34 : decode cX0_tryRound 34 = .ok (.aload_n 1, 1) := by decide +kernel
theorem dX0_tryRound_35 : decode cX0_tryRound 35 = .ok (.getfield 52, 3) := by decide +kernel
theorem dX0_tryRound_38 : decode cX0_tryRound 38 = .ok (.if_icmp .ge 40, 3) := by decide +kernel
theorem dX0_tryRound_41 : decode cX0_tryRound 41 = .ok (.aload_n 1, 1) := by decide +kernel
theorem dX0_tryRound_42 : decode cX0_tryRound 42 = .ok (.iload 8, 2) := by decide +kernel
theorem dX0_tryRound_44 : decode cX0_tryRound 44 = .ok (.invokevirtual 114, 3) := by decide +kernel
theorem dX0_tryRound_47 : decode cX0_tryRound 47 = .ok (.iload 4, 2) := by decide +kernel
theorem dX0_tryRound_49 : decode cX0_tryRound 49 = .ok (.iload 5, 2) := by decide +kernel
theorem dX0_tryRound_51 : decode cX0_tryRound 51 = .ok (.invokestatic 120, 3) := by decide +kernel
theorem dX0_tryRound_54 : decode cX0_tryRound 54 = .ok (.ifCond .eq 18, 3) := by decide +kernel
theorem dX0_tryRound_57 : decode cX0_tryRound 57 = .ok (.iload 7, 2) := by decide +kernel
theorem dX0_tryRound_59 : decode cX0_tryRound 59 = .ok (.aload_n 0, 1) := by decide +kernel
theorem dX0_tryRound_60 : decode cX0_tryRound 60 = .ok (.getfield 12, 3) := by decide +kernel
theorem dX0_tryRound_63 : decode cX0_tryRound 63 = .ok (.aload_n 1, 1) := by decide +kernel
theorem dX0_tryRound_64 : decode cX0_tryRound 64 = .ok (.iload 8, 2) := by decide +kernel
theorem dX0_tryRound_66 : decode cX0_tryRound 66 = .ok (.invokevirtual 124, 3) := by decide +kernel
theorem dX0_tryRound_69 : decode cX0_tryRound 69 = .ok (.iadd, 1) := by decide +kernel
theorem dX0_tryRound_70 : decode cX0_tryRound 70 = .ok (.istore 7, 2) := by decide +kernel
theorem dX0_tryRound_72 : decode cX0_tryRound 72 = .ok (.iinc 8 1, 3) := by decide +kernel
theorem dX0_tryRound_75 : decode cX0_tryRound 75 = .ok (.goto (-43), 3) := by decide +kernel
theorem dX0_tryRound_78 : decode cX0_tryRound 78 = .ok (.iload 7, 2) := by decide +kernel
theorem dX0_tryRound_80 : decode cX0_tryRound 80 = .ok (.aload_n 0, 1) := by decide +kernel
theorem dX0_tryRound_81 : decode cX0_tryRound 81 = .ok (.getfield 108, 3) := by decide +kernel
theorem dX0_tryRound_84 : decode cX0_tryRound 84 = .ok (.if_icmp .gt 21, 3) := by decide +kernel
theorem dX0_tryRound_87 : decode cX0_tryRound 87 = .ok (.iload 7, 2) := by decide +kernel
theorem dX0_tryRound_89 : decode cX0_tryRound 89 = .ok (.aload_n 0, 1) := by decide +kernel
theorem dX0_tryRound_90 : decode cX0_tryRound 90 = .ok (.getfield 108, 3) := by decide +kernel
theorem dX0_tryRound_93 : decode cX0_tryRound 93 = .ok (.if_icmp .ne 24, 3) := by decide +kernel
theorem dX0_tryRound_96 : decode cX0_tryRound 96 = .ok (.iload 6, 2) := by decide +kernel
theorem dX0_tryRound_98 : decode cX0_tryRound 98 = .ok (.aload_n 0, 1) := by decide +kernel
theorem dX0_tryRound_99 : decode cX0_tryRound 99 = .ok (.getfield 111, 3) := by decide +kernel
theorem dX0_tryRound_102 : decode cX0_tryRound 102 = .ok (.if_icmp .ge 15, 3) := by decide +kernel
theorem dX0_tryRound_105 : decode cX0_tryRound 105 = .ok (.aload_n 0, 1) := by decide +kernel
theorem dX0_tryRound_106 : decode cX0_tryRound 106 = .ok (.iload 7, 2) := by decide +kernel
theorem dX0_tryRound_108 : decode cX0_tryRound 108 = .ok (.putfield 108, 3) := by decide +kernel
theorem dX0_tryRound_111 : decode cX0_tryRound 111 = .ok (.aload_n 0, 1) := by decide +kernel
theorem dX0_tryRound_112 : decode cX0_tryRound 112 = .ok (.iload 6, 2) := by decide +kernel
theorem dX0_tryRound_114 : decode cX0_tryRound 114 = .ok (.putfield 111, 3) := by decide +kernel
theorem dX0_tryRound_117 : decode cX0_tryRound 117 = .ok (.return_, 1) := by decide +kernel
theorem lkX0_tryRound_12 : Cond.fieldLink RX0 12 "LeftAtFive$Ahead" "five" "LLeftAtFive$Kitchens;" ∈ wsX0_tryRound := by decide +kernel
theorem lkX0_tryRound_52 : Cond.fieldLink RX0 52 "LeftAtFive$Street" "houses" "I" ∈ wsX0_tryRound := by decide +kernel
theorem lkX0_tryRound_108 : Cond.fieldLink RX0 108 "LeftAtFive$Ahead" "roundWorth" "I" ∈ wsX0_tryRound := by decide +kernel
theorem lkX0_tryRound_111 : Cond.fieldLink RX0 111 "LeftAtFive$Ahead" "roundCells" "I" ∈ wsX0_tryRound := by decide +kernel
theorem iniX0_tryRound_X8 : Cond.initialized RX8 ∈ wsX0_tryRound := by decide +kernel
theorem staX0_tryRound_X8_within : Cond.static yX8_within ∈ wsX0_tryRound := by decide +kernel
theorem iwX0_tryRound_X0 : ∀ w ∈ wsX00, w ∈ wsX0_tryRound := by decide +kernel
theorem iwX0_tryRound_X7 : ∀ w ∈ wsX70, w ∈ wsX0_tryRound := by decide +kernel
set_option maxHeartbeats 2000000 in
set_option maxRecDepth 100000 in
theorem c_X0_tryRound (l : Launch) (D : va_G) (q : Nat → ClassId) (ad : Nat → Nat) (τ0 : Int32) (τ1 : Int32) (τ2 : Int32) (τ3 : Int32) (τ4 : Nat) (sd : Nat → Nat) (X : Nat → Nat → Int32) (fd : Nat → Nat) (F : Nat → Int32) (S : Nat → Nat → Int32) (x : Nat) (mm : Nat) (lo : Nat) (hi : Nat) (hT : okT X S) (hlx : lo ≤ x ∧ x ≤ hi ∧ hi ≤ 60) (hm9 : mm ≤ 99) : xC l yX0_tryRound wsX0_tryRound ({ frames := 4, cells := 0, slots := 0, locals := 90 }) D (TY q) [w0 q ad τ0 τ1 τ2 τ3 (fd 0), wst q sd X, wk q fd F] [.ref (ad 0), .ref (sd 0), .int (nI x), .int (nI mm), .int (nI lo), .int (nI hi)] (xQv D (TY q) (fun (_ : Unit) => True) (fun _ => [w0 q ad τ0 τ1 (xrT (τ2, τ3) mm (xrs (S 6) (fun y9 => kW (S 3) (S 4) (tn (S 2 0)) F y9) x (tn (S 5 0)) (x - lo) (hi - x)) (xgo (x - lo) (hi - x))).1 (xrT (τ2, τ3) mm (xrs (S 6) (fun y9 => kW (S 3) (S 4) (tn (S 2 0)) F y9) x (tn (S 5 0)) (x - lo) (hi - x)) (xgo (x - lo) (hi - x))).2 (fd 0), wst q sd X, wk q fd F])) 0 0 := by
  refine x_enter (cc := cX0_tryRound) (maxL := 9) (ret := none) (by decide) rfl (Nat.le_of_ble_eq_true rfl) ?_
  intro p e s m below meth c A ls H locs hfix hr hlocks hinit hM hl
  obtain ⟨hx, hb, hml, hown, hts⟩ := id hfix
  have hl : lv_has ls 9 [(0, .ref (ad 0)), (1, .ref (sd 0)), (2, .int (nI x)), (3, .int (nI mm)), (4, .int (nI lo)), (5, .int (nI hi))] := hl
  have hTb1 := okT_1b hT
  have hTb0 := okT_0b hT
  refine lv_iload hx hb dX0_tryRound_0 (lv_at hl 5 rfl) ?_
  refine lv_iload hx hb dX0_tryRound_2 (lv_at hl 4 rfl) ?_
  refine x_isub (x := hi) (y := lo) hx hb (by omega) dX0_tryRound_4 ?_
  refine lv_iload_n hx hb dX0_tryRound_5 rfl (lv_at hl 2 rfl) ?_
  refine lv_iload hx hb dX0_tryRound_6 (lv_at hl 4 rfl) ?_
  refine x_isub (x := x) (y := lo) hx hb (by omega) dX0_tryRound_8 ?_
  refine lv_iload hx hb dX0_tryRound_9 (lv_at hl 5 rfl) ?_
  refine lv_iload_n hx hb dX0_tryRound_11 rfl (lv_at hl 2 rfl) ?_
  refine x_isub (x := hi) (y := x) hx hb (by omega) dX0_tryRound_12 ?_
  refine x_mmin (own := RX0) (index := 87) hx hb (by rw [hml]; exact hl.1.symm) hts hown (by simp only [List.forall_mem_cons]; exact ⟨by decide +kernel, by decide +kernel, by decide +kernel, by decide +kernel, fun _ h => absurd h List.not_mem_nil⟩) (Nat.le_of_ble_eq_true rfl) (Nat.le_of_ble_eq_true rfl) (Nat.zero_le _) (Nat.zero_le _) dX0_tryRound_13 ?_
  refine x_cast (y := nI (if (hi - x) < (x - lo) then (hi - x) else (x - lo))) (nI_min (by omega) (by omega)) ?_
  refine x_iadd (x := hi - lo) (y := (if (hi - x) < (x - lo) then (hi - x) else (x - lo))) hx hb dX0_tryRound_16 ?_
  refine lv_istore (lv' := [(6, .int (nI (hi - lo + (if (hi - x) < (x - lo) then (hi - x) else (x - lo))))), (0, .ref (ad 0)), (1, .ref (sd 0)), (2, .int (nI x)), (3, .int (nI mm)), (4, .int (nI lo)), (5, .int (nI hi))]) hx hb dX0_tryRound_17 hl (by decide) rfl (fun ls hl => ?_)
  have hgo9 : xgo (x - lo) (hi - x) ≤ 300 := by unfold xgo; split <;> omega
  have e1 : nI (hi - lo + (if (hi - x) < (x - lo) then (hi - x) else (x - lo))) = nI (xgo (x - lo) (hi - x)) := by exact congrArg nI (xgo_eq (by omega) (by omega))
  have hl : lv_has ls 9 [(6, .int (nI (xgo (x - lo) (hi - x)))), (0, .ref (ad 0)), (1, .ref (sd 0)), (2, .int (nI x)), (3, .int (nI mm)), (4, .int (nI lo)), (5, .int (nI hi))] := x_lvset hl 0 rfl (congrArg Value.int e1) rfl
  refine lv_iload hx hb dX0_tryRound_19 (lv_at hl 0 rfl) ?_
  refine lv_iload_n hx hb dX0_tryRound_21 rfl (lv_at hl 4 rfl) ?_
  refine x_icmp_le (x := xgo (x - lo) (hi - x)) (y := mm) (tgt := 26) hx hb (by omega) (by omega) dX0_tryRound_22 (by decide) (fun c2 => ?_) (fun c2 => ?_)
  · refine lv_iconst (v := nI 0) hx hb dX0_tryRound_26 (by decide) ?_
    refine lv_istore (lv' := [(7, .int (nI 0)), (6, .int (nI (xgo (x - lo) (hi - x)))), (0, .ref (ad 0)), (1, .ref (sd 0)), (2, .int (nI x)), (3, .int (nI mm)), (4, .int (nI lo)), (5, .int (nI hi))]) hx hb dX0_tryRound_27 hl (by decide) rfl (fun ls hl => ?_)
    refine lv_iconst (v := nI 0) hx hb dX0_tryRound_29 (by decide) ?_
    refine lv_istore (lv' := [(8, .int (nI 0)), (7, .int (nI 0)), (6, .int (nI (xgo (x - lo) (hi - x)))), (0, .ref (ad 0)), (1, .ref (sd 0)), (2, .int (nI x)), (3, .int (nI mm)), (4, .int (nI lo)), (5, .int (nI hi))]) hx hb dX0_tryRound_30 hl (by decide) rfl (fun ls hl => ?_)
    refine x_loop (ι := Nat) (fun k => [(0, .ref (ad 0)), (1, .ref (sd 0)), (2, .int (nI x)), (3, .int (nI mm)), (4, .int (nI lo)), (5, .int (nI hi)), (6, .int (nI (xgo (x - lo) (hi - x)))), (7, .int (xrs (S 6) (fun y9 => kW (S 3) (S 4) (tn (S 2 0)) F y9) x k (x - lo) (hi - x))), (8, .int (nI k))]) (fun k => [w0 q ad τ0 τ1 τ2 τ3 (fd 0), wst q sd X, wk q fd F]) (fun k => k ≤ (tn (S 5 0))) (fun k => (tn (S 5 0)) - k) 0 (by omega) hM (lv_sub hl [3, 4, 5, 6, 7, 8, 2, 1, 0] rfl) ?_
    intro k hI4 ih3 H locs hM ls hl
    have hM : xM D (TY q) [w0 q ad τ0 τ1 τ2 τ3 (fd 0), wst q sd X, wk q fd F] A s.heap s H locs := hM
    have hl : lv_has ls 9 [(0, .ref (ad 0)), (1, .ref (sd 0)), (2, .int (nI x)), (3, .int (nI mm)), (4, .int (nI lo)), (5, .int (nI hi)), (6, .int (nI (xgo (x - lo) (hi - x)))), (7, .int (xrs (S 6) (fun y9 => kW (S 3) (S 4) (tn (S 2 0)) F y9) x k (x - lo) (hi - x))), (8, .int (nI k))] := hl
    have hI4 : k ≤ (tn (S 5 0)) := hI4
    try dsimp only
    refine lv_iload hx hb dX0_tryRound_32 (lv_at hl 8 rfl) ?_
    refine lv_aload_n hx hb dX0_tryRound_34 rfl (lv_at hl 1 rfl) ?_
    refine x_get hx hb hts iwX0_tryRound_X7 hown hM 1 0 rfl rfl rfl 1 (by decide) (hts _ lkX0_tryRound_52) (fun _ h => h) rfl dX0_tryRound_35 ?_
    refine x_cast (y := nI (tn (S 5 0))) (okT_1 hT) ?_
    refine x_icmp_ge (x := k) (y := tn (S 5 0)) (tgt := 78) hx hb (by omega) (by omega) dX0_tryRound_38 (by decide) (fun c5 => ?_) (fun c5 => ?_)
    · have e6 : xrs (S 6) (fun y9 => kW (S 3) (S 4) (tn (S 2 0)) F y9) x k (x - lo) (hi - x) = xrs (S 6) (fun y9 => kW (S 3) (S 4) (tn (S 2 0)) F y9) x (tn (S 5 0)) (x - lo) (hi - x) := by rw [show k = (tn (S 5 0)) by omega]
      have hl : lv_has ls 9 [(0, .ref (ad 0)), (1, .ref (sd 0)), (2, .int (nI x)), (3, .int (nI mm)), (4, .int (nI lo)), (5, .int (nI hi)), (6, .int (nI (xgo (x - lo) (hi - x)))), (7, .int (xrs (S 6) (fun y9 => kW (S 3) (S 4) (tn (S 2 0)) F y9) x (tn (S 5 0)) (x - lo) (hi - x))), (8, .int (nI k))] := x_lvset hl 7 rfl (congrArg Value.int e6) rfl
      refine lv_iload hx hb dX0_tryRound_78 (lv_at hl 7 rfl) ?_
      refine lv_aload_n hx hb dX0_tryRound_80 rfl (lv_at hl 0 rfl) ?_
      refine x_get hx hb hts iwX0_tryRound_X0 hown hM 0 0 rfl rfl rfl 2 (by decide) (hts _ lkX0_tryRound_108) (fun _ h => h) rfl dX0_tryRound_81 ?_
      refine lv_icmp_gt (tgt := 105) hx hb dX0_tryRound_84 (by decide) (fun c7 => ?_) (fun c7 => ?_)
      · refine lv_aload_n hx hb dX0_tryRound_105 rfl (lv_at hl 0 rfl) ?_
        refine lv_iload hx hb dX0_tryRound_106 (lv_at hl 7 rfl) ?_
        refine x_put hx hb hts iwX0_tryRound_X0 tyX0 tyX0_ok nmX0 hown hM 0 0 rfl rfl rfl 2 (by decide) (hts _ lkX0_tryRound_108) (fun _ h => h) rfl (ty := .int) (by decide +kernel) rfl rfl (Nat.le_of_ble_eq_true rfl) [w0 q ad τ0 τ1 (xrs (S 6) (fun y9 => kW (S 3) (S 4) (tn (S 2 0)) F y9) x (tn (S 5 0)) (x - lo) (hi - x)) τ3 (fd 0), wst q sd X, wk q fd F] rfl dX0_tryRound_108 (fun H locs hM => ?_)
        refine lv_aload_n hx hb dX0_tryRound_111 rfl (lv_at hl 0 rfl) ?_
        refine lv_iload hx hb dX0_tryRound_112 (lv_at hl 6 rfl) ?_
        refine x_put hx hb hts iwX0_tryRound_X0 tyX0 tyX0_ok nmX0 hown hM 0 0 rfl rfl rfl 3 (by decide) (hts _ lkX0_tryRound_111) (fun _ h => h) rfl (ty := .int) (by decide +kernel) rfl rfl (Nat.le_of_ble_eq_true rfl) [w0 q ad τ0 τ1 (xrs (S 6) (fun y9 => kW (S 3) (S 4) (tn (S 2 0)) F y9) x (tn (S 5 0)) (x - lo) (hi - x)) (nI (xgo (x - lo) (hi - x))) (fd 0), wst q sd X, wk q fd F] rfl dX0_tryRound_114 (fun H locs hM => ?_)
        have e8 : ((xrs (S 6) (fun y9 => kW (S 3) (S 4) (tn (S 2 0)) F y9) x (tn (S 5 0)) (x - lo) (hi - x)) : Int32) = ((xrT (τ2, τ3) mm (xrs (S 6) (fun y9 => kW (S 3) (S 4) (tn (S 2 0)) F y9) x (tn (S 5 0)) (x - lo) (hi - x)) (xgo (x - lo) (hi - x))).1) := by (first | exact (congrArg Prod.fst (xrT_0 (st := (τ2, τ3)) (by omega))).symm | exact (congrArg Prod.fst (xrT_1 (st := (τ2, τ3)) (by omega) (by assumption))).symm | exact (congrArg Prod.fst (xrT_2 (st := (τ2, τ3)) (by omega) (by assumption) (by assumption))).symm | exact (congrArg Prod.fst (xrT_3 (st := (τ2, τ3)) (by assumption) (by assumption))).symm | exact (congrArg Prod.fst (xrT_4 (st := (τ2, τ3)) (by assumption) (by assumption))).symm)
        have hM : xM D (TY q) [w0 q ad τ0 τ1 (xrT (τ2, τ3) mm (xrs (S 6) (fun y9 => kW (S 3) (S 4) (tn (S 2 0)) F y9) x (tn (S 5 0)) (x - lo) (hi - x)) (xgo (x - lo) (hi - x))).1 (nI (xgo (x - lo) (hi - x))) (fd 0), wst q sd X, wk q fd F] A s.heap s H locs := Eq.mp (congrArg (fun z9 => xM D (TY q) [w0 q ad τ0 τ1 z9 (nI (xgo (x - lo) (hi - x))) (fd 0), wst q sd X, wk q fd F] A s.heap s H locs) e8) hM
        have e9 : ((nI (xgo (x - lo) (hi - x))) : Int32) = ((xrT (τ2, τ3) mm (xrs (S 6) (fun y9 => kW (S 3) (S 4) (tn (S 2 0)) F y9) x (tn (S 5 0)) (x - lo) (hi - x)) (xgo (x - lo) (hi - x))).2) := by (first | exact (congrArg Prod.snd (xrT_0 (st := (τ2, τ3)) (by omega))).symm | exact (congrArg Prod.snd (xrT_1 (st := (τ2, τ3)) (by omega) (by assumption))).symm | exact (congrArg Prod.snd (xrT_2 (st := (τ2, τ3)) (by omega) (by assumption) (by assumption))).symm | exact (congrArg Prod.snd (xrT_3 (st := (τ2, τ3)) (by assumption) (by assumption))).symm | exact (congrArg Prod.snd (xrT_4 (st := (τ2, τ3)) (by assumption) (by assumption))).symm)
        have hM : xM D (TY q) [w0 q ad τ0 τ1 (xrT (τ2, τ3) mm (xrs (S 6) (fun y9 => kW (S 3) (S 4) (tn (S 2 0)) F y9) x (tn (S 5 0)) (x - lo) (hi - x)) (xgo (x - lo) (hi - x))).1 (xrT (τ2, τ3) mm (xrs (S 6) (fun y9 => kW (S 3) (S 4) (tn (S 2 0)) F y9) x (tn (S 5 0)) (x - lo) (hi - x)) (xgo (x - lo) (hi - x))).2 (fd 0), wst q sd X, wk q fd F] A s.heap s H locs := Eq.mp (congrArg (fun z9 => xM D (TY q) [w0 q ad τ0 τ1 (xrT (τ2, τ3) mm (xrs (S 6) (fun y9 => kW (S 3) (S 4) (tn (S 2 0)) F y9) x (tn (S 5 0)) (x - lo) (hi - x)) (xgo (x - lo) (hi - x))).1 z9 (fd 0), wst q sd X, wk q fd F] A s.heap s H locs) e9) hM
        exact x_vret hx hb hr hlocks () hM trivial dX0_tryRound_117
      · refine lv_iload hx hb dX0_tryRound_87 (lv_at hl 7 rfl) ?_
        refine lv_aload_n hx hb dX0_tryRound_89 rfl (lv_at hl 0 rfl) ?_
        refine x_get hx hb hts iwX0_tryRound_X0 hown hM 0 0 rfl rfl rfl 2 (by decide) (hts _ lkX0_tryRound_108) (fun _ h => h) rfl dX0_tryRound_90 ?_
        refine lv_icmp_ne (tgt := 117) hx hb dX0_tryRound_93 (by decide) (fun c10 => ?_) (fun c10 => ?_)
        · have e11 : ((τ2) : Int32) = ((xrT (τ2, τ3) mm (xrs (S 6) (fun y9 => kW (S 3) (S 4) (tn (S 2 0)) F y9) x (tn (S 5 0)) (x - lo) (hi - x)) (xgo (x - lo) (hi - x))).1) := by (first | exact (congrArg Prod.fst (xrT_0 (st := (τ2, τ3)) (by omega))).symm | exact (congrArg Prod.fst (xrT_1 (st := (τ2, τ3)) (by omega) (by assumption))).symm | exact (congrArg Prod.fst (xrT_2 (st := (τ2, τ3)) (by omega) (by assumption) (by assumption))).symm | exact (congrArg Prod.fst (xrT_3 (st := (τ2, τ3)) (by assumption) (by assumption))).symm | exact (congrArg Prod.fst (xrT_4 (st := (τ2, τ3)) (by assumption) (by assumption))).symm)
          have hM : xM D (TY q) [w0 q ad τ0 τ1 (xrT (τ2, τ3) mm (xrs (S 6) (fun y9 => kW (S 3) (S 4) (tn (S 2 0)) F y9) x (tn (S 5 0)) (x - lo) (hi - x)) (xgo (x - lo) (hi - x))).1 τ3 (fd 0), wst q sd X, wk q fd F] A s.heap s H locs := Eq.mp (congrArg (fun z9 => xM D (TY q) [w0 q ad τ0 τ1 z9 τ3 (fd 0), wst q sd X, wk q fd F] A s.heap s H locs) e11) hM
          have e12 : ((τ3) : Int32) = ((xrT (τ2, τ3) mm (xrs (S 6) (fun y9 => kW (S 3) (S 4) (tn (S 2 0)) F y9) x (tn (S 5 0)) (x - lo) (hi - x)) (xgo (x - lo) (hi - x))).2) := by (first | exact (congrArg Prod.snd (xrT_0 (st := (τ2, τ3)) (by omega))).symm | exact (congrArg Prod.snd (xrT_1 (st := (τ2, τ3)) (by omega) (by assumption))).symm | exact (congrArg Prod.snd (xrT_2 (st := (τ2, τ3)) (by omega) (by assumption) (by assumption))).symm | exact (congrArg Prod.snd (xrT_3 (st := (τ2, τ3)) (by assumption) (by assumption))).symm | exact (congrArg Prod.snd (xrT_4 (st := (τ2, τ3)) (by assumption) (by assumption))).symm)
          have hM : xM D (TY q) [w0 q ad τ0 τ1 (xrT (τ2, τ3) mm (xrs (S 6) (fun y9 => kW (S 3) (S 4) (tn (S 2 0)) F y9) x (tn (S 5 0)) (x - lo) (hi - x)) (xgo (x - lo) (hi - x))).1 (xrT (τ2, τ3) mm (xrs (S 6) (fun y9 => kW (S 3) (S 4) (tn (S 2 0)) F y9) x (tn (S 5 0)) (x - lo) (hi - x)) (xgo (x - lo) (hi - x))).2 (fd 0), wst q sd X, wk q fd F] A s.heap s H locs := Eq.mp (congrArg (fun z9 => xM D (TY q) [w0 q ad τ0 τ1 (xrT (τ2, τ3) mm (xrs (S 6) (fun y9 => kW (S 3) (S 4) (tn (S 2 0)) F y9) x (tn (S 5 0)) (x - lo) (hi - x)) (xgo (x - lo) (hi - x))).1 z9 (fd 0), wst q sd X, wk q fd F] A s.heap s H locs) e12) hM
          exact x_vret hx hb hr hlocks () hM trivial dX0_tryRound_117
        · refine lv_iload hx hb dX0_tryRound_96 (lv_at hl 6 rfl) ?_
          refine lv_aload_n hx hb dX0_tryRound_98 rfl (lv_at hl 0 rfl) ?_
          refine x_get hx hb hts iwX0_tryRound_X0 hown hM 0 0 rfl rfl rfl 3 (by decide) (hts _ lkX0_tryRound_111) (fun _ h => h) rfl dX0_tryRound_99 ?_
          refine lv_icmp_ge (tgt := 117) hx hb dX0_tryRound_102 (by decide) (fun c13 => ?_) (fun c13 => ?_)
          · have e14 : ((τ2) : Int32) = ((xrT (τ2, τ3) mm (xrs (S 6) (fun y9 => kW (S 3) (S 4) (tn (S 2 0)) F y9) x (tn (S 5 0)) (x - lo) (hi - x)) (xgo (x - lo) (hi - x))).1) := by (first | exact (congrArg Prod.fst (xrT_0 (st := (τ2, τ3)) (by omega))).symm | exact (congrArg Prod.fst (xrT_1 (st := (τ2, τ3)) (by omega) (by assumption))).symm | exact (congrArg Prod.fst (xrT_2 (st := (τ2, τ3)) (by omega) (by assumption) (by assumption))).symm | exact (congrArg Prod.fst (xrT_3 (st := (τ2, τ3)) (by assumption) (by assumption))).symm | exact (congrArg Prod.fst (xrT_4 (st := (τ2, τ3)) (by assumption) (by assumption))).symm)
            have hM : xM D (TY q) [w0 q ad τ0 τ1 (xrT (τ2, τ3) mm (xrs (S 6) (fun y9 => kW (S 3) (S 4) (tn (S 2 0)) F y9) x (tn (S 5 0)) (x - lo) (hi - x)) (xgo (x - lo) (hi - x))).1 τ3 (fd 0), wst q sd X, wk q fd F] A s.heap s H locs := Eq.mp (congrArg (fun z9 => xM D (TY q) [w0 q ad τ0 τ1 z9 τ3 (fd 0), wst q sd X, wk q fd F] A s.heap s H locs) e14) hM
            have e15 : ((τ3) : Int32) = ((xrT (τ2, τ3) mm (xrs (S 6) (fun y9 => kW (S 3) (S 4) (tn (S 2 0)) F y9) x (tn (S 5 0)) (x - lo) (hi - x)) (xgo (x - lo) (hi - x))).2) := by (first | exact (congrArg Prod.snd (xrT_0 (st := (τ2, τ3)) (by omega))).symm | exact (congrArg Prod.snd (xrT_1 (st := (τ2, τ3)) (by omega) (by assumption))).symm | exact (congrArg Prod.snd (xrT_2 (st := (τ2, τ3)) (by omega) (by assumption) (by assumption))).symm | exact (congrArg Prod.snd (xrT_3 (st := (τ2, τ3)) (by assumption) (by assumption))).symm | exact (congrArg Prod.snd (xrT_4 (st := (τ2, τ3)) (by assumption) (by assumption))).symm)
            have hM : xM D (TY q) [w0 q ad τ0 τ1 (xrT (τ2, τ3) mm (xrs (S 6) (fun y9 => kW (S 3) (S 4) (tn (S 2 0)) F y9) x (tn (S 5 0)) (x - lo) (hi - x)) (xgo (x - lo) (hi - x))).1 (xrT (τ2, τ3) mm (xrs (S 6) (fun y9 => kW (S 3) (S 4) (tn (S 2 0)) F y9) x (tn (S 5 0)) (x - lo) (hi - x)) (xgo (x - lo) (hi - x))).2 (fd 0), wst q sd X, wk q fd F] A s.heap s H locs := Eq.mp (congrArg (fun z9 => xM D (TY q) [w0 q ad τ0 τ1 (xrT (τ2, τ3) mm (xrs (S 6) (fun y9 => kW (S 3) (S 4) (tn (S 2 0)) F y9) x (tn (S 5 0)) (x - lo) (hi - x)) (xgo (x - lo) (hi - x))).1 z9 (fd 0), wst q sd X, wk q fd F] A s.heap s H locs) e15) hM
            exact x_vret hx hb hr hlocks () hM trivial dX0_tryRound_117
          · refine lv_aload_n hx hb dX0_tryRound_105 rfl (lv_at hl 0 rfl) ?_
            refine lv_iload hx hb dX0_tryRound_106 (lv_at hl 7 rfl) ?_
            refine x_put hx hb hts iwX0_tryRound_X0 tyX0 tyX0_ok nmX0 hown hM 0 0 rfl rfl rfl 2 (by decide) (hts _ lkX0_tryRound_108) (fun _ h => h) rfl (ty := .int) (by decide +kernel) rfl rfl (Nat.le_of_ble_eq_true rfl) [w0 q ad τ0 τ1 (xrs (S 6) (fun y9 => kW (S 3) (S 4) (tn (S 2 0)) F y9) x (tn (S 5 0)) (x - lo) (hi - x)) τ3 (fd 0), wst q sd X, wk q fd F] rfl dX0_tryRound_108 (fun H locs hM => ?_)
            refine lv_aload_n hx hb dX0_tryRound_111 rfl (lv_at hl 0 rfl) ?_
            refine lv_iload hx hb dX0_tryRound_112 (lv_at hl 6 rfl) ?_
            refine x_put hx hb hts iwX0_tryRound_X0 tyX0 tyX0_ok nmX0 hown hM 0 0 rfl rfl rfl 3 (by decide) (hts _ lkX0_tryRound_111) (fun _ h => h) rfl (ty := .int) (by decide +kernel) rfl rfl (Nat.le_of_ble_eq_true rfl) [w0 q ad τ0 τ1 (xrs (S 6) (fun y9 => kW (S 3) (S 4) (tn (S 2 0)) F y9) x (tn (S 5 0)) (x - lo) (hi - x)) (nI (xgo (x - lo) (hi - x))) (fd 0), wst q sd X, wk q fd F] rfl dX0_tryRound_114 (fun H locs hM => ?_)
            have e16 : ((xrs (S 6) (fun y9 => kW (S 3) (S 4) (tn (S 2 0)) F y9) x (tn (S 5 0)) (x - lo) (hi - x)) : Int32) = ((xrT (τ2, τ3) mm (xrs (S 6) (fun y9 => kW (S 3) (S 4) (tn (S 2 0)) F y9) x (tn (S 5 0)) (x - lo) (hi - x)) (xgo (x - lo) (hi - x))).1) := by (first | exact (congrArg Prod.fst (xrT_0 (st := (τ2, τ3)) (by omega))).symm | exact (congrArg Prod.fst (xrT_1 (st := (τ2, τ3)) (by omega) (by assumption))).symm | exact (congrArg Prod.fst (xrT_2 (st := (τ2, τ3)) (by omega) (by assumption) (by assumption))).symm | exact (congrArg Prod.fst (xrT_3 (st := (τ2, τ3)) (by assumption) (by assumption))).symm | exact (congrArg Prod.fst (xrT_4 (st := (τ2, τ3)) (by assumption) (by assumption))).symm)
            have hM : xM D (TY q) [w0 q ad τ0 τ1 (xrT (τ2, τ3) mm (xrs (S 6) (fun y9 => kW (S 3) (S 4) (tn (S 2 0)) F y9) x (tn (S 5 0)) (x - lo) (hi - x)) (xgo (x - lo) (hi - x))).1 (nI (xgo (x - lo) (hi - x))) (fd 0), wst q sd X, wk q fd F] A s.heap s H locs := Eq.mp (congrArg (fun z9 => xM D (TY q) [w0 q ad τ0 τ1 z9 (nI (xgo (x - lo) (hi - x))) (fd 0), wst q sd X, wk q fd F] A s.heap s H locs) e16) hM
            have e17 : ((nI (xgo (x - lo) (hi - x))) : Int32) = ((xrT (τ2, τ3) mm (xrs (S 6) (fun y9 => kW (S 3) (S 4) (tn (S 2 0)) F y9) x (tn (S 5 0)) (x - lo) (hi - x)) (xgo (x - lo) (hi - x))).2) := by (first | exact (congrArg Prod.snd (xrT_0 (st := (τ2, τ3)) (by omega))).symm | exact (congrArg Prod.snd (xrT_1 (st := (τ2, τ3)) (by omega) (by assumption))).symm | exact (congrArg Prod.snd (xrT_2 (st := (τ2, τ3)) (by omega) (by assumption) (by assumption))).symm | exact (congrArg Prod.snd (xrT_3 (st := (τ2, τ3)) (by assumption) (by assumption))).symm | exact (congrArg Prod.snd (xrT_4 (st := (τ2, τ3)) (by assumption) (by assumption))).symm)
            have hM : xM D (TY q) [w0 q ad τ0 τ1 (xrT (τ2, τ3) mm (xrs (S 6) (fun y9 => kW (S 3) (S 4) (tn (S 2 0)) F y9) x (tn (S 5 0)) (x - lo) (hi - x)) (xgo (x - lo) (hi - x))).1 (xrT (τ2, τ3) mm (xrs (S 6) (fun y9 => kW (S 3) (S 4) (tn (S 2 0)) F y9) x (tn (S 5 0)) (x - lo) (hi - x)) (xgo (x - lo) (hi - x))).2 (fd 0), wst q sd X, wk q fd F] A s.heap s H locs := Eq.mp (congrArg (fun z9 => xM D (TY q) [w0 q ad τ0 τ1 (xrT (τ2, τ3) mm (xrs (S 6) (fun y9 => kW (S 3) (S 4) (tn (S 2 0)) F y9) x (tn (S 5 0)) (x - lo) (hi - x)) (xgo (x - lo) (hi - x))).1 z9 (fd 0), wst q sd X, wk q fd F] A s.heap s H locs) e17) hM
            exact x_vret hx hb hr hlocks () hM trivial dX0_tryRound_117
    · refine lv_aload_n hx hb dX0_tryRound_41 rfl (lv_at hl 1 rfl) ?_
      refine lv_iload hx hb dX0_tryRound_42 (lv_at hl 8 rfl) ?_
      refine x_calli (bc := [wst q sd X]) (br := [w0 q ad τ0 τ1 τ2 τ3 (fd 0), wk q fd F]) hM [1] [0, 2] rfl rfl rfl (by decide) (x_runV (As := [.int (nI k)]) (rest := []) hfix (c_X7_cellOf l D q sd X S k hT (by omega)) (cwV 1 hts gX0_tryRound_X7_cellOf rfl rfl rfl (by decide +kernel) ⟨Nat.le_of_ble_eq_true rfl, Nat.le_of_ble_eq_true rfl⟩) hM [1] rfl rfl 1 0 rfl rfl rfl rfl rfl hl.1 rfl (Nat.le_of_ble_eq_true rfl) dX0_tryRound_44 ⟨Nat.le_of_ble_eq_true rfl, Nat.le_of_ble_eq_true rfl⟩) (fun r u H locs hq hM => ?_)
      subst hq
      have hM : xM D (TY q) [w0 q ad τ0 τ1 τ2 τ3 (fd 0), wk q fd F, wst q sd X] A s.heap s H locs := hM
      have hM : xM D (TY q) [w0 q ad τ0 τ1 τ2 τ3 (fd 0), wst q sd X, wk q fd F] A s.heap s H locs := hM.sel [0, 2, 1] rfl rfl
      refine lv_iload hx hb dX0_tryRound_47 (lv_at hl 4 rfl) ?_
      refine lv_iload hx hb dX0_tryRound_49 (lv_at hl 5 rfl) ?_
      refine x_calli (bc := []) (br := [w0 q ad τ0 τ1 τ2 τ3 (fd 0), wst q sd X, wk q fd F]) hM [] [0, 1, 2] rfl rfl rfl (by decide) (x_runSN (As := [.int (S 6 k), .int (nI lo), .int (nI hi)]) (rest := []) hfix (c_X8_within l D q (S 6 k) (nI lo) (nI hi) ((S 6 k).toInt) ((lo : Nat) : Int) ((hi : Nat) : Int) rfl (nI_toInt (n := lo) (by omega)) (nI_toInt (n := hi) (by omega))) ⟨va_cnB (host := "LeftAtFive") 3 hts gX0_tryRound_X8_within_n120 rfl rfl rfl (hM.2.2.2.2.2 (RX0, 120, yX8_within) (by decide +kernel)) (hts _ iniX0_tryRound_X8) (by decide +kernel) ⟨Nat.le_of_ble_eq_true rfl, Nat.le_of_ble_eq_true rfl⟩, hts _ staX0_tryRound_X8_within, trivial⟩ hM [] rfl rfl rfl hl.1 rfl (Nat.le_of_ble_eq_true rfl) dX0_tryRound_51 ⟨Nat.le_of_ble_eq_true rfl, Nat.le_of_ble_eq_true rfl⟩) (fun r u H locs hq hM => ?_)
      subst hq
      have hM : xM D (TY q) [w0 q ad τ0 τ1 τ2 τ3 (fd 0), wst q sd X, wk q fd F] A s.heap s H locs := hM
      refine x_ifz_eq (P := ((lo : Nat) : Int) ≤ ((S 6 k).toInt) ∧ ((S 6 k).toInt) ≤ ((hi : Nat) : Int)) (tgt := 72) hx hb dX0_tryRound_54 (by decide) (fun c18 => ?_) (fun c18 => ?_)
      · refine lv_iinc (v := nI (k + 1)) (lv' := [(8, .int (nI (k + 1))), (0, .ref (ad 0)), (1, .ref (sd 0)), (2, .int (nI x)), (3, .int (nI mm)), (4, .int (nI lo)), (5, .int (nI hi)), (6, .int (nI (xgo (x - lo) (hi - x)))), (7, .int (xrs (S 6) (fun y9 => kW (S 3) (S 4) (tn (S 2 0)) F y9) x k (x - lo) (hi - x)))]) hx hb dX0_tryRound_72 hl (k := 8) rfl (x_inc _ 1) (by decide) rfl (fun ls hl => ?_)
        refine lv_goto (tgt := 32) hx hb dX0_tryRound_75 (by decide) ?_
        have hl : lv_has ls 9 [(0, .ref (ad 0)), (1, .ref (sd 0)), (2, .int (nI x)), (3, .int (nI mm)), (4, .int (nI lo)), (5, .int (nI hi)), (6, .int (nI (xgo (x - lo) (hi - x)))), (7, .int (xrs (S 6) (fun y9 => kW (S 3) (S 4) (tn (S 2 0)) F y9) x k (x - lo) (hi - x))), (8, .int (nI (k + 1)))] := lv_sub hl [1, 2, 3, 4, 5, 6, 7, 8, 0] rfl
        have e19 : xrs (S 6) (fun y9 => kW (S 3) (S 4) (tn (S 2 0)) F y9) x k (x - lo) (hi - x) = xrs (S 6) (fun y9 => kW (S 3) (S 4) (tn (S 2 0)) F y9) x (k + 1) (x - lo) (hi - x) := by (first | exact xrs_p (by omega) | exact xrs_z (by omega))
        have hl : lv_has ls 9 [(0, .ref (ad 0)), (1, .ref (sd 0)), (2, .int (nI x)), (3, .int (nI mm)), (4, .int (nI lo)), (5, .int (nI hi)), (6, .int (nI (xgo (x - lo) (hi - x)))), (7, .int (xrs (S 6) (fun y9 => kW (S 3) (S 4) (tn (S 2 0)) F y9) x (k + 1) (x - lo) (hi - x))), (8, .int (nI (k + 1)))] := x_lvset hl 7 rfl (congrArg Value.int e19) rfl
        exact ih3 (k + 1) (show (tn (S 5 0)) - (k + 1) < (tn (S 5 0)) - k from by omega) (show (k + 1) ≤ (tn (S 5 0)) from by omega) _ _ hM _ hl
      · refine lv_iload hx hb dX0_tryRound_57 (lv_at hl 7 rfl) ?_
        refine lv_aload_n hx hb dX0_tryRound_59 rfl (lv_at hl 0 rfl) ?_
        refine x_get hx hb hts iwX0_tryRound_X0 hown hM 0 0 rfl rfl rfl 4 (by decide) (hts _ lkX0_tryRound_12) (fun _ h => h) rfl dX0_tryRound_60 ?_
        refine lv_aload_n hx hb dX0_tryRound_63 rfl (lv_at hl 1 rfl) ?_
        refine lv_iload hx hb dX0_tryRound_64 (lv_at hl 8 rfl) ?_
        refine x_calli (bc := [wk q fd F, wst q sd X]) (br := [w0 q ad τ0 τ1 τ2 τ3 (fd 0)]) hM [2, 1] [0] rfl rfl rfl (by decide) (x_runV (As := [.ref (sd 0), .int (nI k)]) (rest := [.int (xrs (S 6) (fun y9 => kW (S 3) (S 4) (tn (S 2 0)) F y9) x k (x - lo) (hi - x))]) hfix (c_X1_worthOf l D q fd F sd X S k hT (by omega)) (cwV 2 hts gX0_tryRound_X1_worthOf rfl rfl rfl (by decide +kernel) ⟨Nat.le_of_ble_eq_true rfl, Nat.le_of_ble_eq_true rfl⟩) hM [2, 1] rfl rfl 2 0 rfl rfl rfl rfl rfl hl.1 rfl (Nat.le_of_ble_eq_true rfl) dX0_tryRound_66 ⟨Nat.le_of_ble_eq_true rfl, Nat.le_of_ble_eq_true rfl⟩) (fun r u H locs hq hM => ?_)
        subst hq
        have hM : xM D (TY q) [w0 q ad τ0 τ1 τ2 τ3 (fd 0), wk q fd F, wst q sd X] A s.heap s H locs := hM
        have hM : xM D (TY q) [w0 q ad τ0 τ1 τ2 τ3 (fd 0), wst q sd X, wk q fd F] A s.heap s H locs := hM.sel [0, 2, 1] rfl rfl
        refine lv_iadd hx hb dX0_tryRound_69 ?_
        refine lv_istore (lv' := [(7, .int ((xrs (S 6) (fun y9 => kW (S 3) (S 4) (tn (S 2 0)) F y9) x k (x - lo) (hi - x)) + (kW (S 3) (S 4) (tn (S 2 0)) F k))), (0, .ref (ad 0)), (1, .ref (sd 0)), (2, .int (nI x)), (3, .int (nI mm)), (4, .int (nI lo)), (5, .int (nI hi)), (6, .int (nI (xgo (x - lo) (hi - x)))), (8, .int (nI k))]) hx hb dX0_tryRound_70 hl (by decide) rfl (fun ls hl => ?_)
        refine lv_iinc (v := nI (k + 1)) (lv' := [(8, .int (nI (k + 1))), (7, .int ((xrs (S 6) (fun y9 => kW (S 3) (S 4) (tn (S 2 0)) F y9) x k (x - lo) (hi - x)) + (kW (S 3) (S 4) (tn (S 2 0)) F k))), (0, .ref (ad 0)), (1, .ref (sd 0)), (2, .int (nI x)), (3, .int (nI mm)), (4, .int (nI lo)), (5, .int (nI hi)), (6, .int (nI (xgo (x - lo) (hi - x))))]) hx hb dX0_tryRound_72 hl (k := 8) rfl (x_inc _ 1) (by decide) rfl (fun ls hl => ?_)
        refine lv_goto (tgt := 32) hx hb dX0_tryRound_75 (by decide) ?_
        have hl : lv_has ls 9 [(0, .ref (ad 0)), (1, .ref (sd 0)), (2, .int (nI x)), (3, .int (nI mm)), (4, .int (nI lo)), (5, .int (nI hi)), (6, .int (nI (xgo (x - lo) (hi - x)))), (7, .int ((xrs (S 6) (fun y9 => kW (S 3) (S 4) (tn (S 2 0)) F y9) x k (x - lo) (hi - x)) + (kW (S 3) (S 4) (tn (S 2 0)) F k))), (8, .int (nI (k + 1)))] := lv_sub hl [2, 3, 4, 5, 6, 7, 8, 1, 0] rfl
        have e20 : (xrs (S 6) (fun y9 => kW (S 3) (S 4) (tn (S 2 0)) F y9) x k (x - lo) (hi - x)) + (kW (S 3) (S 4) (tn (S 2 0)) F k) = xrs (S 6) (fun y9 => kW (S 3) (S 4) (tn (S 2 0)) F y9) x (k + 1) (x - lo) (hi - x) := by (first | exact xrs_p (by omega) | exact xrs_z (by omega))
        have hl : lv_has ls 9 [(0, .ref (ad 0)), (1, .ref (sd 0)), (2, .int (nI x)), (3, .int (nI mm)), (4, .int (nI lo)), (5, .int (nI hi)), (6, .int (nI (xgo (x - lo) (hi - x)))), (7, .int (xrs (S 6) (fun y9 => kW (S 3) (S 4) (tn (S 2 0)) F y9) x (k + 1) (x - lo) (hi - x))), (8, .int (nI (k + 1)))] := x_lvset hl 7 rfl (congrArg Value.int e20) rfl
        exact ih3 (k + 1) (show (tn (S 5 0)) - (k + 1) < (tn (S 5 0)) - k from by omega) (show (k + 1) ≤ (tn (S 5 0)) from by omega) _ _ hM _ hl
  · have e21 : ((τ2) : Int32) = ((xrT (τ2, τ3) mm (xrs (S 6) (fun y9 => kW (S 3) (S 4) (tn (S 2 0)) F y9) x (tn (S 5 0)) (x - lo) (hi - x)) (xgo (x - lo) (hi - x))).1) := by (first | exact (congrArg Prod.fst (xrT_0 (st := (τ2, τ3)) (by omega))).symm | exact (congrArg Prod.fst (xrT_1 (st := (τ2, τ3)) (by omega) (by assumption))).symm | exact (congrArg Prod.fst (xrT_2 (st := (τ2, τ3)) (by omega) (by assumption) (by assumption))).symm | exact (congrArg Prod.fst (xrT_3 (st := (τ2, τ3)) (by assumption) (by assumption))).symm | exact (congrArg Prod.fst (xrT_4 (st := (τ2, τ3)) (by assumption) (by assumption))).symm)
    have hM : xM D (TY q) [w0 q ad τ0 τ1 (xrT (τ2, τ3) mm (xrs (S 6) (fun y9 => kW (S 3) (S 4) (tn (S 2 0)) F y9) x (tn (S 5 0)) (x - lo) (hi - x)) (xgo (x - lo) (hi - x))).1 τ3 (fd 0), wst q sd X, wk q fd F] A s.heap s H locs := Eq.mp (congrArg (fun z9 => xM D (TY q) [w0 q ad τ0 τ1 z9 τ3 (fd 0), wst q sd X, wk q fd F] A s.heap s H locs) e21) hM
    have e22 : ((τ3) : Int32) = ((xrT (τ2, τ3) mm (xrs (S 6) (fun y9 => kW (S 3) (S 4) (tn (S 2 0)) F y9) x (tn (S 5 0)) (x - lo) (hi - x)) (xgo (x - lo) (hi - x))).2) := by (first | exact (congrArg Prod.snd (xrT_0 (st := (τ2, τ3)) (by omega))).symm | exact (congrArg Prod.snd (xrT_1 (st := (τ2, τ3)) (by omega) (by assumption))).symm | exact (congrArg Prod.snd (xrT_2 (st := (τ2, τ3)) (by omega) (by assumption) (by assumption))).symm | exact (congrArg Prod.snd (xrT_3 (st := (τ2, τ3)) (by assumption) (by assumption))).symm | exact (congrArg Prod.snd (xrT_4 (st := (τ2, τ3)) (by assumption) (by assumption))).symm)
    have hM : xM D (TY q) [w0 q ad τ0 τ1 (xrT (τ2, τ3) mm (xrs (S 6) (fun y9 => kW (S 3) (S 4) (tn (S 2 0)) F y9) x (tn (S 5 0)) (x - lo) (hi - x)) (xgo (x - lo) (hi - x))).1 (xrT (τ2, τ3) mm (xrs (S 6) (fun y9 => kW (S 3) (S 4) (tn (S 2 0)) F y9) x (tn (S 5 0)) (x - lo) (hi - x)) (xgo (x - lo) (hi - x))).2 (fd 0), wst q sd X, wk q fd F] A s.heap s H locs := Eq.mp (congrArg (fun z9 => xM D (TY q) [w0 q ad τ0 τ1 (xrT (τ2, τ3) mm (xrs (S 6) (fun y9 => kW (S 3) (S 4) (tn (S 2 0)) F y9) x (tn (S 5 0)) (x - lo) (hi - x)) (xgo (x - lo) (hi - x))).1 z9 (fd 0), wst q sd X, wk q fd F] A s.heap s H locs) e22) hM
    exact x_vret hx hb hr hlocks () hM trivial dX0_tryRound_25

set_option maxRecDepth 20000 in
theorem ggX0_seekRound_X7_cellOf : GoodIn wsX0_seekRound wsX7_cellOf := goodIn_r _ [8, 9, 10, 11, 12, 13, 61, 62, 63, 64, 65, 66, 67, 68, 69, 70, 71, 72, 73, 74, 75, 76] (by decide +kernel) (by decide +kernel)
set_option maxRecDepth 20000 in
theorem gX0_seekRound_X7_cellOf : GoodIn wsX0_seekRound (wsV RX0 114 RX7 yX7_cellOf wsX7_cellOf) := goodIn_app (goodIn_of _ (by decide +kernel)) ggX0_seekRound_X7_cellOf
set_option maxRecDepth 20000 in
theorem ggX0_seekRound_X0_tryRound : GoodIn wsX0_seekRound wsX0_tryRound := goodIn_r _ [18, 19, 20, 21, 22, 3, 23, 1, 2, 4, 5, 6, 7, 8, 9, 10, 11, 12, 13, 24, 25, 26, 27, 28, 29, 30, 31, 32, 33, 34, 35, 36, 37, 38, 39, 40, 41, 42, 43, 44, 45, 46, 47, 48, 49, 50, 51, 52, 53, 54, 55, 61, 62, 63, 64, 65, 66, 67, 68, 69, 70, 71, 72, 73, 74, 75, 76, 56, 57, 58, 59, 60, 77, 78, 79, 80, 81, 82] (by decide +kernel) (by decide +kernel)
set_option maxRecDepth 20000 in
theorem gX0_seekRound_X0_tryRound : GoodIn wsX0_seekRound (wsV RX0 117 RX0 yX0_tryRound wsX0_tryRound) := goodIn_app (goodIn_of _ (by decide +kernel)) ggX0_seekRound_X0_tryRound
theorem dX0_seekRound_0 : decode cX0_seekRound 0 = .ok (.aload_n 0, 1) := by decide +kernel
theorem dX0_seekRound_1 : decode cX0_seekRound 1 = .ok (.iconst 0, 1) := by decide +kernel
theorem dX0_seekRound_2 : decode cX0_seekRound 2 = .ok (.putfield 108, 3) := by decide +kernel
theorem dX0_seekRound_5 : decode cX0_seekRound 5 = .ok (.aload_n 0, 1) := by decide +kernel
theorem dX0_seekRound_6 : decode cX0_seekRound 6 = .ok (.iconst 0, 1) := by decide +kernel
theorem dX0_seekRound_7 : decode cX0_seekRound 7 = .ok (.putfield 111, 3) := by decide +kernel
theorem dX0_seekRound_10 : decode cX0_seekRound 10 = .ok (.iconst (-1), 1) := by decide +kernel
theorem dX0_seekRound_11 : decode cX0_seekRound 11 = .ok (.istore 4, 2) := by decide +kernel
theorem dX0_seekRound_13 : decode cX0_seekRound 13 = .ok (.iload 4, 2) := by decide +kernel
theorem dX0_seekRound_15 : decode cX0_seekRound 15 = .ok (.aload_n 1, 1) := by decide +kernel
theorem dX0_seekRound_16 : decode cX0_seekRound 16 = .ok (.getfield 52, 3) := by decide +kernel
theorem dX0_seekRound_19 : decode cX0_seekRound 19 = .ok (.if_icmp .ge 84, 3) := by decide +kernel
theorem dX0_seekRound_22 : decode cX0_seekRound 22 = .ok (.iload 4, 2) := by decide +kernel
theorem dX0_seekRound_24 : decode cX0_seekRound 24 = .ok (.ifCond .ge 7, 3) := by decide +kernel
theorem dX0_seekRound_27 : decode cX0_seekRound 27 = .ok (.iload_n 2, 1) := by decide +kernel
theorem dX0_seekRound_28 : decode cX0_seekRound 28 = .ok (.goto 9, 3) := by decide +kernel
theorem dX0_seekRound_31 : decode cX0_seekRound 31 = .ok (.aload_n 1, 1) := by decide +kernel
theorem dX0_seekRound_32 : decode cX0_seekRound 32 = .ok (.iload 4, 2) := by decide +kernel
theorem dX0_seekRound_34 : decode cX0_seekRound 34 = .ok (.invokevirtual 114, 3) := by decide +kernel
theorem dX0_seekRound_37 : decode cX0_seekRound 37 = .ok (.istore 5, 2) := by decide +kernel
theorem dX0_seekRound_39 : decode cX0_seekRound 39 = .ok (.iconst (-1), 1) := by decide +kernel
theorem dX0_seekRound_40 : decode cX0_seekRound 40 = .ok (.istore 6, 2) := by decide +kernel
theorem dX0_seekRound_42 : decode cX0_seekRound 42 = .ok (.iload 6, 2) := by decide +kernel
theorem dX0_seekRound_44 : decode cX0_seekRound 44 = .ok (.aload_n 1, 1) := by decide +kernel
theorem dX0_seekRound_45 : decode cX0_seekRound 45 = .ok (.getfield 52, 3) := by decide +kernel
theorem dX0_seekRound_48 : decode cX0_seekRound 48 = .ok (.if_icmp .ge 49, 3) := by decide +kernel
theorem dX0_seekRound_51 : decode cX0_seekRound 51 = .ok (.iload 6, 2) := by decide +kernel
theorem dX0_seekRound_53 : decode cX0_seekRound 53 = .ok (.ifCond .ge 7, 3) := by decide +kernel
theorem dX0_seekRound_56 : decode cX0_seekRound 56 = .ok (.iload_n 2, 1) := by decide +kernel
theorem dX0_seekRound_57 : decode cX0_seekRound 57 = .ok (.goto 9, 3) := by decide +kernel
theorem dX0_seekRound_60 : decode cX0_seekRound 60 = .ok (.aload_n 1, 1) := by decide +kernel
theorem dX0_seekRound_61 : decode cX0_seekRound 61 = .ok (.iload 6, 2) := by decide +kernel
theorem dX0_seekRound_63 : decode cX0_seekRound 63 = .ok (.invokevirtual 114, 3) := by decide +kernel
theorem dX0_seekRound_66 : decode cX0_seekRound 66 = .ok (.istore 7, 2) := by decide +kernel
theorem dX0_seekRound_68 : decode cX0_seekRound 68 = .ok (.iload 5, 2) := by decide +kernel
theorem dX0_seekRound_70 : decode cX0_seekRound 70 = .ok (.iload_n 2, 1) := by decide +kernel
theorem dX0_seekRound_71 : decode cX0_seekRound 71 = .ok (.if_icmp .gt 20, 3) := by decide +kernel
theorem dX0_seekRound_74 : decode cX0_seekRound 74 = .ok (.iload_n 2, 1) := by decide +kernel
theorem dX0_seekRound_75 : decode cX0_seekRound 75 = .ok (.iload 7, 2) := by decide +kernel
theorem dX0_seekRound_77 : decode cX0_seekRound 77 = .ok (.if_icmp .gt 14, 3) := by decide +kernel
theorem dX0_seekRound_80 : decode cX0_seekRound 80 = .ok (.aload_n 0, 1) := by decide +kernel
theorem dX0_seekRound_81 : decode cX0_seekRound 81 = .ok (.aload_n 1, 1) := by decide +kernel
theorem dX0_seekRound_82 : decode cX0_seekRound 82 = .ok (.iload_n 2, 1) := by decide +kernel
theorem dX0_seekRound_83 : decode cX0_seekRound 83 = .ok (.iload_n 3, 1) := by decide +kernel
theorem dX0_seekRound_84 : decode cX0_seekRound 84 = .ok (.iload 5, 2) := by decide +kernel
theorem dX0_seekRound_86 : decode cX0_seekRound 86 = .ok (.iload 7, 2) := by decide +kernel
theorem dX0_seekRound_88 : decode cX0_seekRound 88 = .ok (.invokevirtual 117, 3) := by decide +kernel
theorem dX0_seekRound_91 : decode cX0_seekRound 91 = .ok (.iinc 6 1, 3) := by decide +kernel
theorem dX0_seekRound_94 : decode cX0_seekRound 94 = .ok (.goto (-52), 3) := by decide +kernel
theorem dX0_seekRound_97 : decode cX0_seekRound 97 = .ok (.iinc 4 1, 3) := by decide +kernel
theorem dX0_seekRound_100 : decode cX0_seekRound 100 = .ok (.goto (-87), 3) := by decide +kernel
theorem dX0_seekRound_103 : decode cX0_seekRound 103 = .ok (.return_, 1) := by decide +kernel
theorem lkX0_seekRound_52 : Cond.fieldLink RX0 52 "LeftAtFive$Street" "houses" "I" ∈ wsX0_seekRound := by decide +kernel
theorem lkX0_seekRound_108 : Cond.fieldLink RX0 108 "LeftAtFive$Ahead" "roundWorth" "I" ∈ wsX0_seekRound := by decide +kernel
theorem lkX0_seekRound_111 : Cond.fieldLink RX0 111 "LeftAtFive$Ahead" "roundCells" "I" ∈ wsX0_seekRound := by decide +kernel
theorem iwX0_seekRound_X0 : ∀ w ∈ wsX00, w ∈ wsX0_seekRound := by decide +kernel
theorem iwX0_seekRound_X7 : ∀ w ∈ wsX70, w ∈ wsX0_seekRound := by decide +kernel
set_option maxHeartbeats 2000000 in
set_option maxRecDepth 100000 in
theorem c_X0_seekRound (l : Launch) (D : va_G) (q : Nat → ClassId) (ad : Nat → Nat) (τ0 : Int32) (τ1 : Int32) (τ2 : Int32) (τ3 : Int32) (τ4 : Nat) (sd : Nat → Nat) (X : Nat → Nat → Int32) (fd : Nat → Nat) (F : Nat → Int32) (S : Nat → Nat → Int32) (x : Nat) (mm : Nat) (hT : okT X S) (hx9 : x ≤ 60) (hm9 : mm ≤ 99) : xC l yX0_seekRound wsX0_seekRound ({ frames := 5, cells := 0, slots := 0, locals := 118 }) D (TY q) [w0 q ad τ0 τ1 τ2 τ3 (fd 0), wst q sd X, wk q fd F] [.ref (ad 0), .ref (sd 0), .int (nI x), .int (nI mm)] (xQv D (TY q) (fun (_ : Unit) => True) (fun _ => [w0 q ad τ0 τ1 (xrI (S 6) (fun y9 => kW (S 3) (S 4) (tn (S 2 0)) F y9) x mm (tn (S 5 0)) ((tn (S 5 0)) + 1)).1 (xrI (S 6) (fun y9 => kW (S 3) (S 4) (tn (S 2 0)) F y9) x mm (tn (S 5 0)) ((tn (S 5 0)) + 1)).2 (fd 0), wst q sd X, wk q fd F])) 0 0 := by
  refine x_enter (cc := cX0_seekRound) (maxL := 8) (ret := none) (by decide) rfl (Nat.le_of_ble_eq_true rfl) ?_
  intro p e s m below meth c A ls H locs hfix hr hlocks hinit hM hl
  obtain ⟨hx, hb, hml, hown, hts⟩ := id hfix
  have hl : lv_has ls 8 [(0, .ref (ad 0)), (1, .ref (sd 0)), (2, .int (nI x)), (3, .int (nI mm))] := hl
  have hTb1 := okT_1b hT
  refine lv_aload_n hx hb dX0_seekRound_0 rfl (lv_at hl 0 rfl) ?_
  refine lv_iconst (v := nI 0) hx hb dX0_seekRound_1 (by decide) ?_
  refine x_put hx hb hts iwX0_seekRound_X0 tyX0 tyX0_ok nmX0 hown hM 0 0 rfl rfl rfl 2 (by decide) (hts _ lkX0_seekRound_108) (fun _ h => h) rfl (ty := .int) (by decide +kernel) rfl rfl (Nat.le_of_ble_eq_true rfl) [w0 q ad τ0 τ1 (nI 0) τ3 (fd 0), wst q sd X, wk q fd F] rfl dX0_seekRound_2 (fun H locs hM => ?_)
  refine lv_aload_n hx hb dX0_seekRound_5 rfl (lv_at hl 0 rfl) ?_
  refine lv_iconst (v := nI 0) hx hb dX0_seekRound_6 (by decide) ?_
  refine x_put hx hb hts iwX0_seekRound_X0 tyX0 tyX0_ok nmX0 hown hM 0 0 rfl rfl rfl 3 (by decide) (hts _ lkX0_seekRound_111) (fun _ h => h) rfl (ty := .int) (by decide +kernel) rfl rfl (Nat.le_of_ble_eq_true rfl) [w0 q ad τ0 τ1 (nI 0) (nI 0) (fd 0), wst q sd X, wk q fd F] rfl dX0_seekRound_7 (fun H locs hM => ?_)
  refine lv_iconst (v := (-1)) hx hb dX0_seekRound_10 (by decide) ?_
  refine x_cast (y := xm1 0) (by decide) ?_
  refine lv_istore (lv' := [(4, .int (xm1 0)), (0, .ref (ad 0)), (1, .ref (sd 0)), (2, .int (nI x)), (3, .int (nI mm))]) hx hb dX0_seekRound_11 hl (by decide) rfl (fun ls hl => ?_)
  have e2 : ((nI 0) : Int32) = ((xrI (S 6) (fun y9 => kW (S 3) (S 4) (tn (S 2 0)) F y9) x mm (tn (S 5 0)) 0).1) := by rfl
  have hM : xM D (TY q) [w0 q ad τ0 τ1 (xrI (S 6) (fun y9 => kW (S 3) (S 4) (tn (S 2 0)) F y9) x mm (tn (S 5 0)) 0).1 (nI 0) (fd 0), wst q sd X, wk q fd F] A s.heap s H locs := Eq.mp (congrArg (fun z9 => xM D (TY q) [w0 q ad τ0 τ1 z9 (nI 0) (fd 0), wst q sd X, wk q fd F] A s.heap s H locs) e2) hM
  have e3 : ((nI 0) : Int32) = ((xrI (S 6) (fun y9 => kW (S 3) (S 4) (tn (S 2 0)) F y9) x mm (tn (S 5 0)) 0).2) := by rfl
  have hM : xM D (TY q) [w0 q ad τ0 τ1 (xrI (S 6) (fun y9 => kW (S 3) (S 4) (tn (S 2 0)) F y9) x mm (tn (S 5 0)) 0).1 (xrI (S 6) (fun y9 => kW (S 3) (S 4) (tn (S 2 0)) F y9) x mm (tn (S 5 0)) 0).2 (fd 0), wst q sd X, wk q fd F] A s.heap s H locs := Eq.mp (congrArg (fun z9 => xM D (TY q) [w0 q ad τ0 τ1 (xrI (S 6) (fun y9 => kW (S 3) (S 4) (tn (S 2 0)) F y9) x mm (tn (S 5 0)) 0).1 z9 (fd 0), wst q sd X, wk q fd F] A s.heap s H locs) e3) hM
  refine x_loop (ι := Nat) (fun i => [(0, .ref (ad 0)), (1, .ref (sd 0)), (2, .int (nI x)), (3, .int (nI mm)), (4, .int (xm1 i))]) (fun i => [w0 q ad τ0 τ1 (xrI (S 6) (fun y9 => kW (S 3) (S 4) (tn (S 2 0)) F y9) x mm (tn (S 5 0)) i).1 (xrI (S 6) (fun y9 => kW (S 3) (S 4) (tn (S 2 0)) F y9) x mm (tn (S 5 0)) i).2 (fd 0), wst q sd X, wk q fd F]) (fun i => i ≤ (tn (S 5 0)) + 1) (fun i => (tn (S 5 0)) + 1 - i) 0 (by omega) hM (lv_sub hl [1, 2, 3, 4, 0] rfl) ?_
  intro i hI5 ih4 H locs hM ls hl
  have hM : xM D (TY q) [w0 q ad τ0 τ1 (xrI (S 6) (fun y9 => kW (S 3) (S 4) (tn (S 2 0)) F y9) x mm (tn (S 5 0)) i).1 (xrI (S 6) (fun y9 => kW (S 3) (S 4) (tn (S 2 0)) F y9) x mm (tn (S 5 0)) i).2 (fd 0), wst q sd X, wk q fd F] A s.heap s H locs := hM
  have hl : lv_has ls 8 [(0, .ref (ad 0)), (1, .ref (sd 0)), (2, .int (nI x)), (3, .int (nI mm)), (4, .int (xm1 i))] := hl
  have hI5 : i ≤ (tn (S 5 0)) + 1 := hI5
  try dsimp only
  refine lv_iload hx hb dX0_seekRound_13 (lv_at hl 4 rfl) ?_
  refine lv_aload_n hx hb dX0_seekRound_15 rfl (lv_at hl 1 rfl) ?_
  refine x_get hx hb hts iwX0_seekRound_X7 hown hM 1 0 rfl rfl rfl 1 (by decide) (hts _ lkX0_seekRound_52) (fun _ h => h) rfl dX0_seekRound_16 ?_
  refine x_cast (y := nI (tn (S 5 0))) (okT_1 hT) ?_
  refine lv_icmp_ge (tgt := 103) hx hb dX0_seekRound_19 (by decide) (fun c6 => ?_) (fun c6 => ?_)
  · have hie : i = (tn (S 5 0)) + 1 := Nat.le_antisymm (by omega) (Eq.mp (xm1_ge (by omega) (by omega)) (by assumption))
    have e7 : (((xrI (S 6) (fun y9 => kW (S 3) (S 4) (tn (S 2 0)) F y9) x mm (tn (S 5 0)) i).1) : Int32) = ((xrI (S 6) (fun y9 => kW (S 3) (S 4) (tn (S 2 0)) F y9) x mm (tn (S 5 0)) ((tn (S 5 0)) + 1)).1) := by (rw [show i = (tn (S 5 0)) + 1 from hie])
    have hM : xM D (TY q) [w0 q ad τ0 τ1 (xrI (S 6) (fun y9 => kW (S 3) (S 4) (tn (S 2 0)) F y9) x mm (tn (S 5 0)) ((tn (S 5 0)) + 1)).1 (xrI (S 6) (fun y9 => kW (S 3) (S 4) (tn (S 2 0)) F y9) x mm (tn (S 5 0)) i).2 (fd 0), wst q sd X, wk q fd F] A s.heap s H locs := Eq.mp (congrArg (fun z9 => xM D (TY q) [w0 q ad τ0 τ1 z9 (xrI (S 6) (fun y9 => kW (S 3) (S 4) (tn (S 2 0)) F y9) x mm (tn (S 5 0)) i).2 (fd 0), wst q sd X, wk q fd F] A s.heap s H locs) e7) hM
    have e8 : (((xrI (S 6) (fun y9 => kW (S 3) (S 4) (tn (S 2 0)) F y9) x mm (tn (S 5 0)) i).2) : Int32) = ((xrI (S 6) (fun y9 => kW (S 3) (S 4) (tn (S 2 0)) F y9) x mm (tn (S 5 0)) ((tn (S 5 0)) + 1)).2) := by (rw [show i = (tn (S 5 0)) + 1 from hie])
    have hM : xM D (TY q) [w0 q ad τ0 τ1 (xrI (S 6) (fun y9 => kW (S 3) (S 4) (tn (S 2 0)) F y9) x mm (tn (S 5 0)) ((tn (S 5 0)) + 1)).1 (xrI (S 6) (fun y9 => kW (S 3) (S 4) (tn (S 2 0)) F y9) x mm (tn (S 5 0)) ((tn (S 5 0)) + 1)).2 (fd 0), wst q sd X, wk q fd F] A s.heap s H locs := Eq.mp (congrArg (fun z9 => xM D (TY q) [w0 q ad τ0 τ1 (xrI (S 6) (fun y9 => kW (S 3) (S 4) (tn (S 2 0)) F y9) x mm (tn (S 5 0)) ((tn (S 5 0)) + 1)).1 z9 (fd 0), wst q sd X, wk q fd F] A s.heap s H locs) e8) hM
    exact x_vret hx hb hr hlocks () hM trivial dX0_seekRound_103
  · have hin : ¬ ((tn (S 5 0)) + 1 ≤ i) := fun z => absurd (Eq.mpr (xm1_ge (by omega) (by omega)) z) (by assumption)
    refine lv_iload hx hb dX0_seekRound_22 (lv_at hl 4 rfl) ?_
    refine x_join (ι := Nat) (pcJ := 37) (fun j9 => [(0, .ref (ad 0)), (1, .ref (sd 0)), (2, .int (nI x)), (3, .int (nI mm)), (4, .int (xm1 i))]) (fun j9 => [w0 q ad τ0 τ1 (xrI (S 6) (fun y9 => kW (S 3) (S 4) (tn (S 2 0)) F y9) x mm (tn (S 5 0)) i).1 (xrI (S 6) (fun y9 => kW (S 3) (S 4) (tn (S 2 0)) F y9) x mm (tn (S 5 0)) i).2 (fd 0), wst q sd X, wk q fd F]) (fun j9 => [.int (nI j9)]) (fun j9 => j9 = (if 0 ≤ (xm1 i) then (tn (S 6 (i - 1))) else x)) hM hl ?_ ?_
    · intro j9 hj10 H locs hM ls hl
      have hM : xM D (TY q) [w0 q ad τ0 τ1 (xrI (S 6) (fun y9 => kW (S 3) (S 4) (tn (S 2 0)) F y9) x mm (tn (S 5 0)) i).1 (xrI (S 6) (fun y9 => kW (S 3) (S 4) (tn (S 2 0)) F y9) x mm (tn (S 5 0)) i).2 (fd 0), wst q sd X, wk q fd F] A s.heap s H locs := hM
      have hl : lv_has ls 8 [(0, .ref (ad 0)), (1, .ref (sd 0)), (2, .int (nI x)), (3, .int (nI mm)), (4, .int (xm1 i))] := hl
      try dsimp only
      have hj9 : j9 = (if 0 ≤ (xm1 i) then (tn (S 6 (i - 1))) else x) := hj10
      refine lv_istore (lv' := [(5, .int (nI j9)), (0, .ref (ad 0)), (1, .ref (sd 0)), (2, .int (nI x)), (3, .int (nI mm)), (4, .int (xm1 i))]) hx hb dX0_seekRound_37 hl (by decide) rfl (fun ls hl => ?_)
      have hei := xrE_le (k := i) hT hx9 (by omega)
      have e11 : nI j9 = nI (xrE (S 6) x i) := by rw [hj9, xrE_j (by omega)]
      have hl : lv_has ls 8 [(5, .int (nI (xrE (S 6) x i))), (0, .ref (ad 0)), (1, .ref (sd 0)), (2, .int (nI x)), (3, .int (nI mm)), (4, .int (xm1 i))] := x_lvset hl 0 rfl (congrArg Value.int e11) rfl
      refine lv_iconst (v := (-1)) hx hb dX0_seekRound_39 (by decide) ?_
      refine x_cast (y := xm1 0) (by decide) ?_
      refine lv_istore (lv' := [(6, .int (xm1 0)), (5, .int (nI (xrE (S 6) x i))), (0, .ref (ad 0)), (1, .ref (sd 0)), (2, .int (nI x)), (3, .int (nI mm)), (4, .int (xm1 i))]) hx hb dX0_seekRound_40 hl (by decide) rfl (fun ls hl => ?_)
      have e13 : (((xrI (S 6) (fun y9 => kW (S 3) (S 4) (tn (S 2 0)) F y9) x mm (tn (S 5 0)) i).1) : Int32) = ((xrJ (S 6) (fun y9 => kW (S 3) (S 4) (tn (S 2 0)) F y9) x mm (tn (S 5 0)) (xrE (S 6) x i) (xrI (S 6) (fun y9 => kW (S 3) (S 4) (tn (S 2 0)) F y9) x mm (tn (S 5 0)) i) 0).1) := by rfl
      have hM : xM D (TY q) [w0 q ad τ0 τ1 (xrJ (S 6) (fun y9 => kW (S 3) (S 4) (tn (S 2 0)) F y9) x mm (tn (S 5 0)) (xrE (S 6) x i) (xrI (S 6) (fun y9 => kW (S 3) (S 4) (tn (S 2 0)) F y9) x mm (tn (S 5 0)) i) 0).1 (xrI (S 6) (fun y9 => kW (S 3) (S 4) (tn (S 2 0)) F y9) x mm (tn (S 5 0)) i).2 (fd 0), wst q sd X, wk q fd F] A s.heap s H locs := Eq.mp (congrArg (fun z9 => xM D (TY q) [w0 q ad τ0 τ1 z9 (xrI (S 6) (fun y9 => kW (S 3) (S 4) (tn (S 2 0)) F y9) x mm (tn (S 5 0)) i).2 (fd 0), wst q sd X, wk q fd F] A s.heap s H locs) e13) hM
      have e14 : (((xrI (S 6) (fun y9 => kW (S 3) (S 4) (tn (S 2 0)) F y9) x mm (tn (S 5 0)) i).2) : Int32) = ((xrJ (S 6) (fun y9 => kW (S 3) (S 4) (tn (S 2 0)) F y9) x mm (tn (S 5 0)) (xrE (S 6) x i) (xrI (S 6) (fun y9 => kW (S 3) (S 4) (tn (S 2 0)) F y9) x mm (tn (S 5 0)) i) 0).2) := by rfl
      have hM : xM D (TY q) [w0 q ad τ0 τ1 (xrJ (S 6) (fun y9 => kW (S 3) (S 4) (tn (S 2 0)) F y9) x mm (tn (S 5 0)) (xrE (S 6) x i) (xrI (S 6) (fun y9 => kW (S 3) (S 4) (tn (S 2 0)) F y9) x mm (tn (S 5 0)) i) 0).1 (xrJ (S 6) (fun y9 => kW (S 3) (S 4) (tn (S 2 0)) F y9) x mm (tn (S 5 0)) (xrE (S 6) x i) (xrI (S 6) (fun y9 => kW (S 3) (S 4) (tn (S 2 0)) F y9) x mm (tn (S 5 0)) i) 0).2 (fd 0), wst q sd X, wk q fd F] A s.heap s H locs := Eq.mp (congrArg (fun z9 => xM D (TY q) [w0 q ad τ0 τ1 (xrJ (S 6) (fun y9 => kW (S 3) (S 4) (tn (S 2 0)) F y9) x mm (tn (S 5 0)) (xrE (S 6) x i) (xrI (S 6) (fun y9 => kW (S 3) (S 4) (tn (S 2 0)) F y9) x mm (tn (S 5 0)) i) 0).1 z9 (fd 0), wst q sd X, wk q fd F] A s.heap s H locs) e14) hM
      refine x_loop (ι := Nat) (fun j => [(0, .ref (ad 0)), (1, .ref (sd 0)), (2, .int (nI x)), (3, .int (nI mm)), (4, .int (xm1 i)), (5, .int (nI (xrE (S 6) x i))), (6, .int (xm1 j))]) (fun j => [w0 q ad τ0 τ1 (xrJ (S 6) (fun y9 => kW (S 3) (S 4) (tn (S 2 0)) F y9) x mm (tn (S 5 0)) (xrE (S 6) x i) (xrI (S 6) (fun y9 => kW (S 3) (S 4) (tn (S 2 0)) F y9) x mm (tn (S 5 0)) i) j).1 (xrJ (S 6) (fun y9 => kW (S 3) (S 4) (tn (S 2 0)) F y9) x mm (tn (S 5 0)) (xrE (S 6) x i) (xrI (S 6) (fun y9 => kW (S 3) (S 4) (tn (S 2 0)) F y9) x mm (tn (S 5 0)) i) j).2 (fd 0), wst q sd X, wk q fd F]) (fun j => j ≤ (tn (S 5 0)) + 1) (fun j => (tn (S 5 0)) + 1 - j) 0 (by omega) hM (lv_sub hl [2, 3, 4, 5, 6, 1, 0] rfl) ?_
      intro j hI16 ih15 H locs hM ls hl
      have hM : xM D (TY q) [w0 q ad τ0 τ1 (xrJ (S 6) (fun y9 => kW (S 3) (S 4) (tn (S 2 0)) F y9) x mm (tn (S 5 0)) (xrE (S 6) x i) (xrI (S 6) (fun y9 => kW (S 3) (S 4) (tn (S 2 0)) F y9) x mm (tn (S 5 0)) i) j).1 (xrJ (S 6) (fun y9 => kW (S 3) (S 4) (tn (S 2 0)) F y9) x mm (tn (S 5 0)) (xrE (S 6) x i) (xrI (S 6) (fun y9 => kW (S 3) (S 4) (tn (S 2 0)) F y9) x mm (tn (S 5 0)) i) j).2 (fd 0), wst q sd X, wk q fd F] A s.heap s H locs := hM
      have hl : lv_has ls 8 [(0, .ref (ad 0)), (1, .ref (sd 0)), (2, .int (nI x)), (3, .int (nI mm)), (4, .int (xm1 i)), (5, .int (nI (xrE (S 6) x i))), (6, .int (xm1 j))] := hl
      have hI16 : j ≤ (tn (S 5 0)) + 1 := hI16
      try dsimp only
      refine lv_iload hx hb dX0_seekRound_42 (lv_at hl 6 rfl) ?_
      refine lv_aload_n hx hb dX0_seekRound_44 rfl (lv_at hl 1 rfl) ?_
      refine x_get hx hb hts iwX0_seekRound_X7 hown hM 1 0 rfl rfl rfl 1 (by decide) (hts _ lkX0_seekRound_52) (fun _ h => h) rfl dX0_seekRound_45 ?_
      refine x_cast (y := nI (tn (S 5 0))) (okT_1 hT) ?_
      refine lv_icmp_ge (tgt := 97) hx hb dX0_seekRound_48 (by decide) (fun c17 => ?_) (fun c17 => ?_)
      · have hje : j = (tn (S 5 0)) + 1 := Nat.le_antisymm (by omega) (Eq.mp (xm1_ge (by omega) (by omega)) (by assumption))
        refine lv_iinc (v := xm1 i + 1) (lv' := [(4, .int (xm1 i + 1)), (0, .ref (ad 0)), (1, .ref (sd 0)), (2, .int (nI x)), (3, .int (nI mm)), (5, .int (nI (xrE (S 6) x i))), (6, .int (xm1 j))]) hx hb dX0_seekRound_97 hl (k := 4) rfl rfl (by decide) rfl (fun ls hl => ?_)
        refine lv_goto (tgt := 13) hx hb dX0_seekRound_100 (by decide) ?_
        have e18 : (((xrJ (S 6) (fun y9 => kW (S 3) (S 4) (tn (S 2 0)) F y9) x mm (tn (S 5 0)) (xrE (S 6) x i) (xrI (S 6) (fun y9 => kW (S 3) (S 4) (tn (S 2 0)) F y9) x mm (tn (S 5 0)) i) j).1) : Int32) = ((xrI (S 6) (fun y9 => kW (S 3) (S 4) (tn (S 2 0)) F y9) x mm (tn (S 5 0)) (i + 1)).1) := by (rw [show j = (tn (S 5 0)) + 1 from hje]; rfl)
        have hM : xM D (TY q) [w0 q ad τ0 τ1 (xrI (S 6) (fun y9 => kW (S 3) (S 4) (tn (S 2 0)) F y9) x mm (tn (S 5 0)) (i + 1)).1 (xrJ (S 6) (fun y9 => kW (S 3) (S 4) (tn (S 2 0)) F y9) x mm (tn (S 5 0)) (xrE (S 6) x i) (xrI (S 6) (fun y9 => kW (S 3) (S 4) (tn (S 2 0)) F y9) x mm (tn (S 5 0)) i) j).2 (fd 0), wst q sd X, wk q fd F] A s.heap s H locs := Eq.mp (congrArg (fun z9 => xM D (TY q) [w0 q ad τ0 τ1 z9 (xrJ (S 6) (fun y9 => kW (S 3) (S 4) (tn (S 2 0)) F y9) x mm (tn (S 5 0)) (xrE (S 6) x i) (xrI (S 6) (fun y9 => kW (S 3) (S 4) (tn (S 2 0)) F y9) x mm (tn (S 5 0)) i) j).2 (fd 0), wst q sd X, wk q fd F] A s.heap s H locs) e18) hM
        have e19 : (((xrJ (S 6) (fun y9 => kW (S 3) (S 4) (tn (S 2 0)) F y9) x mm (tn (S 5 0)) (xrE (S 6) x i) (xrI (S 6) (fun y9 => kW (S 3) (S 4) (tn (S 2 0)) F y9) x mm (tn (S 5 0)) i) j).2) : Int32) = ((xrI (S 6) (fun y9 => kW (S 3) (S 4) (tn (S 2 0)) F y9) x mm (tn (S 5 0)) (i + 1)).2) := by (rw [show j = (tn (S 5 0)) + 1 from hje]; rfl)
        have hM : xM D (TY q) [w0 q ad τ0 τ1 (xrI (S 6) (fun y9 => kW (S 3) (S 4) (tn (S 2 0)) F y9) x mm (tn (S 5 0)) (i + 1)).1 (xrI (S 6) (fun y9 => kW (S 3) (S 4) (tn (S 2 0)) F y9) x mm (tn (S 5 0)) (i + 1)).2 (fd 0), wst q sd X, wk q fd F] A s.heap s H locs := Eq.mp (congrArg (fun z9 => xM D (TY q) [w0 q ad τ0 τ1 (xrI (S 6) (fun y9 => kW (S 3) (S 4) (tn (S 2 0)) F y9) x mm (tn (S 5 0)) (i + 1)).1 z9 (fd 0), wst q sd X, wk q fd F] A s.heap s H locs) e19) hM
        have hl : lv_has ls 8 [(0, .ref (ad 0)), (1, .ref (sd 0)), (2, .int (nI x)), (3, .int (nI mm)), (4, .int (xm1 i + 1))] := lv_sub hl [1, 2, 3, 4, 0] rfl
        have e20 : xm1 i + 1 = xm1 (i + 1) := by exact xm1_s i
        have hl : lv_has ls 8 [(0, .ref (ad 0)), (1, .ref (sd 0)), (2, .int (nI x)), (3, .int (nI mm)), (4, .int (xm1 (i + 1)))] := x_lvset hl 4 rfl (congrArg Value.int e20) rfl
        exact ih4 (i + 1) (show (tn (S 5 0)) + 1 - (i + 1) < (tn (S 5 0)) + 1 - i from by omega) (show (i + 1) ≤ (tn (S 5 0)) + 1 from by omega) _ _ hM _ hl
      · have hjn : ¬ ((tn (S 5 0)) + 1 ≤ j) := fun z => absurd (Eq.mpr (xm1_ge (by omega) (by omega)) z) (by assumption)
        refine lv_iload hx hb dX0_seekRound_51 (lv_at hl 6 rfl) ?_
        refine x_join (ι := Nat) (pcJ := 66) (fun j21 => [(0, .ref (ad 0)), (1, .ref (sd 0)), (2, .int (nI x)), (3, .int (nI mm)), (4, .int (xm1 i)), (5, .int (nI (xrE (S 6) x i))), (6, .int (xm1 j))]) (fun j21 => [w0 q ad τ0 τ1 (xrJ (S 6) (fun y9 => kW (S 3) (S 4) (tn (S 2 0)) F y9) x mm (tn (S 5 0)) (xrE (S 6) x i) (xrI (S 6) (fun y9 => kW (S 3) (S 4) (tn (S 2 0)) F y9) x mm (tn (S 5 0)) i) j).1 (xrJ (S 6) (fun y9 => kW (S 3) (S 4) (tn (S 2 0)) F y9) x mm (tn (S 5 0)) (xrE (S 6) x i) (xrI (S 6) (fun y9 => kW (S 3) (S 4) (tn (S 2 0)) F y9) x mm (tn (S 5 0)) i) j).2 (fd 0), wst q sd X, wk q fd F]) (fun j21 => [.int (nI j21)]) (fun j21 => j21 = (if 0 ≤ (xm1 j) then (tn (S 6 (j - 1))) else x)) hM hl ?_ ?_
        · intro j21 hj22 H locs hM ls hl
          have hM : xM D (TY q) [w0 q ad τ0 τ1 (xrJ (S 6) (fun y9 => kW (S 3) (S 4) (tn (S 2 0)) F y9) x mm (tn (S 5 0)) (xrE (S 6) x i) (xrI (S 6) (fun y9 => kW (S 3) (S 4) (tn (S 2 0)) F y9) x mm (tn (S 5 0)) i) j).1 (xrJ (S 6) (fun y9 => kW (S 3) (S 4) (tn (S 2 0)) F y9) x mm (tn (S 5 0)) (xrE (S 6) x i) (xrI (S 6) (fun y9 => kW (S 3) (S 4) (tn (S 2 0)) F y9) x mm (tn (S 5 0)) i) j).2 (fd 0), wst q sd X, wk q fd F] A s.heap s H locs := hM
          have hl : lv_has ls 8 [(0, .ref (ad 0)), (1, .ref (sd 0)), (2, .int (nI x)), (3, .int (nI mm)), (4, .int (xm1 i)), (5, .int (nI (xrE (S 6) x i))), (6, .int (xm1 j))] := hl
          try dsimp only
          have hj21 : j21 = (if 0 ≤ (xm1 j) then (tn (S 6 (j - 1))) else x) := hj22
          refine lv_istore (lv' := [(7, .int (nI j21)), (0, .ref (ad 0)), (1, .ref (sd 0)), (2, .int (nI x)), (3, .int (nI mm)), (4, .int (xm1 i)), (5, .int (nI (xrE (S 6) x i))), (6, .int (xm1 j))]) hx hb dX0_seekRound_66 hl (by decide) rfl (fun ls hl => ?_)
          have hej := xrE_le (k := j) hT hx9 (by omega)
          have e23 : nI j21 = nI (xrE (S 6) x j) := by rw [hj21, xrE_j (by omega)]
          have hl : lv_has ls 8 [(7, .int (nI (xrE (S 6) x j))), (0, .ref (ad 0)), (1, .ref (sd 0)), (2, .int (nI x)), (3, .int (nI mm)), (4, .int (xm1 i)), (5, .int (nI (xrE (S 6) x i))), (6, .int (xm1 j))] := x_lvset hl 0 rfl (congrArg Value.int e23) rfl
          refine lv_iload hx hb dX0_seekRound_68 (lv_at hl 6 rfl) ?_
          refine lv_iload_n hx hb dX0_seekRound_70 rfl (lv_at hl 3 rfl) ?_
          refine x_icmp_gt (x := xrE (S 6) x i) (y := x) (tgt := 91) hx hb (by omega) (by omega) dX0_seekRound_71 (by decide) (fun c24 => ?_) (fun c24 => ?_)
          · refine lv_iinc (v := xm1 j + 1) (lv' := [(6, .int (xm1 j + 1)), (7, .int (nI (xrE (S 6) x j))), (0, .ref (ad 0)), (1, .ref (sd 0)), (2, .int (nI x)), (3, .int (nI mm)), (4, .int (xm1 i)), (5, .int (nI (xrE (S 6) x i)))]) hx hb dX0_seekRound_91 hl (k := 7) rfl rfl (by decide) rfl (fun ls hl => ?_)
            refine lv_goto (tgt := 42) hx hb dX0_seekRound_94 (by decide) ?_
            have e25 : (((xrJ (S 6) (fun y9 => kW (S 3) (S 4) (tn (S 2 0)) F y9) x mm (tn (S 5 0)) (xrE (S 6) x i) (xrI (S 6) (fun y9 => kW (S 3) (S 4) (tn (S 2 0)) F y9) x mm (tn (S 5 0)) i) j).1) : Int32) = ((xrJ (S 6) (fun y9 => kW (S 3) (S 4) (tn (S 2 0)) F y9) x mm (tn (S 5 0)) (xrE (S 6) x i) (xrI (S 6) (fun y9 => kW (S 3) (S 4) (tn (S 2 0)) F y9) x mm (tn (S 5 0)) i) (j + 1)).1) := by (first | exact (congrArg Prod.fst (xrJ_1 ⟨by omega, by omega⟩)).symm | exact (congrArg Prod.fst (xrJ_0 (by omega))).symm)
            have hM : xM D (TY q) [w0 q ad τ0 τ1 (xrJ (S 6) (fun y9 => kW (S 3) (S 4) (tn (S 2 0)) F y9) x mm (tn (S 5 0)) (xrE (S 6) x i) (xrI (S 6) (fun y9 => kW (S 3) (S 4) (tn (S 2 0)) F y9) x mm (tn (S 5 0)) i) (j + 1)).1 (xrJ (S 6) (fun y9 => kW (S 3) (S 4) (tn (S 2 0)) F y9) x mm (tn (S 5 0)) (xrE (S 6) x i) (xrI (S 6) (fun y9 => kW (S 3) (S 4) (tn (S 2 0)) F y9) x mm (tn (S 5 0)) i) j).2 (fd 0), wst q sd X, wk q fd F] A s.heap s H locs := Eq.mp (congrArg (fun z9 => xM D (TY q) [w0 q ad τ0 τ1 z9 (xrJ (S 6) (fun y9 => kW (S 3) (S 4) (tn (S 2 0)) F y9) x mm (tn (S 5 0)) (xrE (S 6) x i) (xrI (S 6) (fun y9 => kW (S 3) (S 4) (tn (S 2 0)) F y9) x mm (tn (S 5 0)) i) j).2 (fd 0), wst q sd X, wk q fd F] A s.heap s H locs) e25) hM
            have e26 : (((xrJ (S 6) (fun y9 => kW (S 3) (S 4) (tn (S 2 0)) F y9) x mm (tn (S 5 0)) (xrE (S 6) x i) (xrI (S 6) (fun y9 => kW (S 3) (S 4) (tn (S 2 0)) F y9) x mm (tn (S 5 0)) i) j).2) : Int32) = ((xrJ (S 6) (fun y9 => kW (S 3) (S 4) (tn (S 2 0)) F y9) x mm (tn (S 5 0)) (xrE (S 6) x i) (xrI (S 6) (fun y9 => kW (S 3) (S 4) (tn (S 2 0)) F y9) x mm (tn (S 5 0)) i) (j + 1)).2) := by (first | exact (congrArg Prod.snd (xrJ_1 ⟨by omega, by omega⟩)).symm | exact (congrArg Prod.snd (xrJ_0 (by omega))).symm)
            have hM : xM D (TY q) [w0 q ad τ0 τ1 (xrJ (S 6) (fun y9 => kW (S 3) (S 4) (tn (S 2 0)) F y9) x mm (tn (S 5 0)) (xrE (S 6) x i) (xrI (S 6) (fun y9 => kW (S 3) (S 4) (tn (S 2 0)) F y9) x mm (tn (S 5 0)) i) (j + 1)).1 (xrJ (S 6) (fun y9 => kW (S 3) (S 4) (tn (S 2 0)) F y9) x mm (tn (S 5 0)) (xrE (S 6) x i) (xrI (S 6) (fun y9 => kW (S 3) (S 4) (tn (S 2 0)) F y9) x mm (tn (S 5 0)) i) (j + 1)).2 (fd 0), wst q sd X, wk q fd F] A s.heap s H locs := Eq.mp (congrArg (fun z9 => xM D (TY q) [w0 q ad τ0 τ1 (xrJ (S 6) (fun y9 => kW (S 3) (S 4) (tn (S 2 0)) F y9) x mm (tn (S 5 0)) (xrE (S 6) x i) (xrI (S 6) (fun y9 => kW (S 3) (S 4) (tn (S 2 0)) F y9) x mm (tn (S 5 0)) i) (j + 1)).1 z9 (fd 0), wst q sd X, wk q fd F] A s.heap s H locs) e26) hM
            have hl : lv_has ls 8 [(0, .ref (ad 0)), (1, .ref (sd 0)), (2, .int (nI x)), (3, .int (nI mm)), (4, .int (xm1 i)), (5, .int (nI (xrE (S 6) x i))), (6, .int (xm1 j + 1))] := lv_sub hl [2, 3, 4, 5, 6, 7, 0] rfl
            have e27 : xm1 j + 1 = xm1 (j + 1) := by exact xm1_s j
            have hl : lv_has ls 8 [(0, .ref (ad 0)), (1, .ref (sd 0)), (2, .int (nI x)), (3, .int (nI mm)), (4, .int (xm1 i)), (5, .int (nI (xrE (S 6) x i))), (6, .int (xm1 (j + 1)))] := x_lvset hl 6 rfl (congrArg Value.int e27) rfl
            exact ih15 (j + 1) (show (tn (S 5 0)) + 1 - (j + 1) < (tn (S 5 0)) + 1 - j from by omega) (show (j + 1) ≤ (tn (S 5 0)) + 1 from by omega) _ _ hM _ hl
          · refine lv_iload_n hx hb dX0_seekRound_74 rfl (lv_at hl 3 rfl) ?_
            refine lv_iload hx hb dX0_seekRound_75 (lv_at hl 0 rfl) ?_
            refine x_icmp_gt (x := x) (y := xrE (S 6) x j) (tgt := 91) hx hb (by omega) (by omega) dX0_seekRound_77 (by decide) (fun c28 => ?_) (fun c28 => ?_)
            · refine lv_iinc (v := xm1 j + 1) (lv' := [(6, .int (xm1 j + 1)), (7, .int (nI (xrE (S 6) x j))), (0, .ref (ad 0)), (1, .ref (sd 0)), (2, .int (nI x)), (3, .int (nI mm)), (4, .int (xm1 i)), (5, .int (nI (xrE (S 6) x i)))]) hx hb dX0_seekRound_91 hl (k := 7) rfl rfl (by decide) rfl (fun ls hl => ?_)
              refine lv_goto (tgt := 42) hx hb dX0_seekRound_94 (by decide) ?_
              have e29 : (((xrJ (S 6) (fun y9 => kW (S 3) (S 4) (tn (S 2 0)) F y9) x mm (tn (S 5 0)) (xrE (S 6) x i) (xrI (S 6) (fun y9 => kW (S 3) (S 4) (tn (S 2 0)) F y9) x mm (tn (S 5 0)) i) j).1) : Int32) = ((xrJ (S 6) (fun y9 => kW (S 3) (S 4) (tn (S 2 0)) F y9) x mm (tn (S 5 0)) (xrE (S 6) x i) (xrI (S 6) (fun y9 => kW (S 3) (S 4) (tn (S 2 0)) F y9) x mm (tn (S 5 0)) i) (j + 1)).1) := by (first | exact (congrArg Prod.fst (xrJ_1 ⟨by omega, by omega⟩)).symm | exact (congrArg Prod.fst (xrJ_0 (by omega))).symm)
              have hM : xM D (TY q) [w0 q ad τ0 τ1 (xrJ (S 6) (fun y9 => kW (S 3) (S 4) (tn (S 2 0)) F y9) x mm (tn (S 5 0)) (xrE (S 6) x i) (xrI (S 6) (fun y9 => kW (S 3) (S 4) (tn (S 2 0)) F y9) x mm (tn (S 5 0)) i) (j + 1)).1 (xrJ (S 6) (fun y9 => kW (S 3) (S 4) (tn (S 2 0)) F y9) x mm (tn (S 5 0)) (xrE (S 6) x i) (xrI (S 6) (fun y9 => kW (S 3) (S 4) (tn (S 2 0)) F y9) x mm (tn (S 5 0)) i) j).2 (fd 0), wst q sd X, wk q fd F] A s.heap s H locs := Eq.mp (congrArg (fun z9 => xM D (TY q) [w0 q ad τ0 τ1 z9 (xrJ (S 6) (fun y9 => kW (S 3) (S 4) (tn (S 2 0)) F y9) x mm (tn (S 5 0)) (xrE (S 6) x i) (xrI (S 6) (fun y9 => kW (S 3) (S 4) (tn (S 2 0)) F y9) x mm (tn (S 5 0)) i) j).2 (fd 0), wst q sd X, wk q fd F] A s.heap s H locs) e29) hM
              have e30 : (((xrJ (S 6) (fun y9 => kW (S 3) (S 4) (tn (S 2 0)) F y9) x mm (tn (S 5 0)) (xrE (S 6) x i) (xrI (S 6) (fun y9 => kW (S 3) (S 4) (tn (S 2 0)) F y9) x mm (tn (S 5 0)) i) j).2) : Int32) = ((xrJ (S 6) (fun y9 => kW (S 3) (S 4) (tn (S 2 0)) F y9) x mm (tn (S 5 0)) (xrE (S 6) x i) (xrI (S 6) (fun y9 => kW (S 3) (S 4) (tn (S 2 0)) F y9) x mm (tn (S 5 0)) i) (j + 1)).2) := by (first | exact (congrArg Prod.snd (xrJ_1 ⟨by omega, by omega⟩)).symm | exact (congrArg Prod.snd (xrJ_0 (by omega))).symm)
              have hM : xM D (TY q) [w0 q ad τ0 τ1 (xrJ (S 6) (fun y9 => kW (S 3) (S 4) (tn (S 2 0)) F y9) x mm (tn (S 5 0)) (xrE (S 6) x i) (xrI (S 6) (fun y9 => kW (S 3) (S 4) (tn (S 2 0)) F y9) x mm (tn (S 5 0)) i) (j + 1)).1 (xrJ (S 6) (fun y9 => kW (S 3) (S 4) (tn (S 2 0)) F y9) x mm (tn (S 5 0)) (xrE (S 6) x i) (xrI (S 6) (fun y9 => kW (S 3) (S 4) (tn (S 2 0)) F y9) x mm (tn (S 5 0)) i) (j + 1)).2 (fd 0), wst q sd X, wk q fd F] A s.heap s H locs := Eq.mp (congrArg (fun z9 => xM D (TY q) [w0 q ad τ0 τ1 (xrJ (S 6) (fun y9 => kW (S 3) (S 4) (tn (S 2 0)) F y9) x mm (tn (S 5 0)) (xrE (S 6) x i) (xrI (S 6) (fun y9 => kW (S 3) (S 4) (tn (S 2 0)) F y9) x mm (tn (S 5 0)) i) (j + 1)).1 z9 (fd 0), wst q sd X, wk q fd F] A s.heap s H locs) e30) hM
              have hl : lv_has ls 8 [(0, .ref (ad 0)), (1, .ref (sd 0)), (2, .int (nI x)), (3, .int (nI mm)), (4, .int (xm1 i)), (5, .int (nI (xrE (S 6) x i))), (6, .int (xm1 j + 1))] := lv_sub hl [2, 3, 4, 5, 6, 7, 0] rfl
              have e31 : xm1 j + 1 = xm1 (j + 1) := by exact xm1_s j
              have hl : lv_has ls 8 [(0, .ref (ad 0)), (1, .ref (sd 0)), (2, .int (nI x)), (3, .int (nI mm)), (4, .int (xm1 i)), (5, .int (nI (xrE (S 6) x i))), (6, .int (xm1 (j + 1)))] := x_lvset hl 6 rfl (congrArg Value.int e31) rfl
              exact ih15 (j + 1) (show (tn (S 5 0)) + 1 - (j + 1) < (tn (S 5 0)) + 1 - j from by omega) (show (j + 1) ≤ (tn (S 5 0)) + 1 from by omega) _ _ hM _ hl
            · refine lv_aload_n hx hb dX0_seekRound_80 rfl (lv_at hl 1 rfl) ?_
              refine lv_aload_n hx hb dX0_seekRound_81 rfl (lv_at hl 2 rfl) ?_
              refine lv_iload_n hx hb dX0_seekRound_82 rfl (lv_at hl 3 rfl) ?_
              refine lv_iload_n hx hb dX0_seekRound_83 rfl (lv_at hl 4 rfl) ?_
              refine lv_iload hx hb dX0_seekRound_84 (lv_at hl 6 rfl) ?_
              refine lv_iload hx hb dX0_seekRound_86 (lv_at hl 0 rfl) ?_
              refine x_callv (bc := [w0 q ad τ0 τ1 (xrJ (S 6) (fun y9 => kW (S 3) (S 4) (tn (S 2 0)) F y9) x mm (tn (S 5 0)) (xrE (S 6) x i) (xrI (S 6) (fun y9 => kW (S 3) (S 4) (tn (S 2 0)) F y9) x mm (tn (S 5 0)) i) j).1 (xrJ (S 6) (fun y9 => kW (S 3) (S 4) (tn (S 2 0)) F y9) x mm (tn (S 5 0)) (xrE (S 6) x i) (xrI (S 6) (fun y9 => kW (S 3) (S 4) (tn (S 2 0)) F y9) x mm (tn (S 5 0)) i) j).2 (fd 0), wst q sd X, wk q fd F]) (br := []) hM [0, 1, 2] [] rfl rfl rfl (by decide) (x_runV (As := [.ref (sd 0), .int (nI x), .int (nI mm), .int (nI (xrE (S 6) x i)), .int (nI (xrE (S 6) x j))]) (rest := []) hfix (c_X0_tryRound l D q ad τ0 τ1 (xrJ (S 6) (fun y9 => kW (S 3) (S 4) (tn (S 2 0)) F y9) x mm (tn (S 5 0)) (xrE (S 6) x i) (xrI (S 6) (fun y9 => kW (S 3) (S 4) (tn (S 2 0)) F y9) x mm (tn (S 5 0)) i) j).1 (xrJ (S 6) (fun y9 => kW (S 3) (S 4) (tn (S 2 0)) F y9) x mm (tn (S 5 0)) (xrE (S 6) x i) (xrI (S 6) (fun y9 => kW (S 3) (S 4) (tn (S 2 0)) F y9) x mm (tn (S 5 0)) i) j).2 (fd 0) sd X fd F S x mm (xrE (S 6) x i) (xrE (S 6) x j) hT (by omega) (by omega)) (cwV 5 hts gX0_seekRound_X0_tryRound rfl rfl rfl (by decide +kernel) ⟨Nat.le_of_ble_eq_true rfl, Nat.le_of_ble_eq_true rfl⟩) hM [0, 1, 2] rfl rfl 0 0 rfl rfl rfl rfl rfl hl.1 rfl (Nat.le_of_ble_eq_true rfl) dX0_seekRound_88 ⟨Nat.le_of_ble_eq_true rfl, Nat.le_of_ble_eq_true rfl⟩) (fun u H locs hq hM => ?_)
              have hM : xM D (TY q) [w0 q ad τ0 τ1 (xrT ((xrJ (S 6) (fun y9 => kW (S 3) (S 4) (tn (S 2 0)) F y9) x mm (tn (S 5 0)) (xrE (S 6) x i) (xrI (S 6) (fun y9 => kW (S 3) (S 4) (tn (S 2 0)) F y9) x mm (tn (S 5 0)) i) j).1, (xrJ (S 6) (fun y9 => kW (S 3) (S 4) (tn (S 2 0)) F y9) x mm (tn (S 5 0)) (xrE (S 6) x i) (xrI (S 6) (fun y9 => kW (S 3) (S 4) (tn (S 2 0)) F y9) x mm (tn (S 5 0)) i) j).2) mm (xrs (S 6) (fun y9 => kW (S 3) (S 4) (tn (S 2 0)) F y9) x (tn (S 5 0)) (x - (xrE (S 6) x i)) ((xrE (S 6) x j) - x)) (xgo (x - (xrE (S 6) x i)) ((xrE (S 6) x j) - x))).1 (xrT ((xrJ (S 6) (fun y9 => kW (S 3) (S 4) (tn (S 2 0)) F y9) x mm (tn (S 5 0)) (xrE (S 6) x i) (xrI (S 6) (fun y9 => kW (S 3) (S 4) (tn (S 2 0)) F y9) x mm (tn (S 5 0)) i) j).1, (xrJ (S 6) (fun y9 => kW (S 3) (S 4) (tn (S 2 0)) F y9) x mm (tn (S 5 0)) (xrE (S 6) x i) (xrI (S 6) (fun y9 => kW (S 3) (S 4) (tn (S 2 0)) F y9) x mm (tn (S 5 0)) i) j).2) mm (xrs (S 6) (fun y9 => kW (S 3) (S 4) (tn (S 2 0)) F y9) x (tn (S 5 0)) (x - (xrE (S 6) x i)) ((xrE (S 6) x j) - x)) (xgo (x - (xrE (S 6) x i)) ((xrE (S 6) x j) - x))).2 (fd 0), wst q sd X, wk q fd F] A s.heap s H locs := hM
              refine lv_iinc (v := xm1 j + 1) (lv' := [(6, .int (xm1 j + 1)), (7, .int (nI (xrE (S 6) x j))), (0, .ref (ad 0)), (1, .ref (sd 0)), (2, .int (nI x)), (3, .int (nI mm)), (4, .int (xm1 i)), (5, .int (nI (xrE (S 6) x i)))]) hx hb dX0_seekRound_91 hl (k := 7) rfl rfl (by decide) rfl (fun ls hl => ?_)
              refine lv_goto (tgt := 42) hx hb dX0_seekRound_94 (by decide) ?_
              have e32 : (((xrT ((xrJ (S 6) (fun y9 => kW (S 3) (S 4) (tn (S 2 0)) F y9) x mm (tn (S 5 0)) (xrE (S 6) x i) (xrI (S 6) (fun y9 => kW (S 3) (S 4) (tn (S 2 0)) F y9) x mm (tn (S 5 0)) i) j).1, (xrJ (S 6) (fun y9 => kW (S 3) (S 4) (tn (S 2 0)) F y9) x mm (tn (S 5 0)) (xrE (S 6) x i) (xrI (S 6) (fun y9 => kW (S 3) (S 4) (tn (S 2 0)) F y9) x mm (tn (S 5 0)) i) j).2) mm (xrs (S 6) (fun y9 => kW (S 3) (S 4) (tn (S 2 0)) F y9) x (tn (S 5 0)) (x - (xrE (S 6) x i)) ((xrE (S 6) x j) - x)) (xgo (x - (xrE (S 6) x i)) ((xrE (S 6) x j) - x))).1) : Int32) = ((xrJ (S 6) (fun y9 => kW (S 3) (S 4) (tn (S 2 0)) F y9) x mm (tn (S 5 0)) (xrE (S 6) x i) (xrI (S 6) (fun y9 => kW (S 3) (S 4) (tn (S 2 0)) F y9) x mm (tn (S 5 0)) i) (j + 1)).1) := by (first | exact (congrArg Prod.fst (xrJ_1 ⟨by omega, by omega⟩)).symm | exact (congrArg Prod.fst (xrJ_0 (by omega))).symm)
              have hM : xM D (TY q) [w0 q ad τ0 τ1 (xrJ (S 6) (fun y9 => kW (S 3) (S 4) (tn (S 2 0)) F y9) x mm (tn (S 5 0)) (xrE (S 6) x i) (xrI (S 6) (fun y9 => kW (S 3) (S 4) (tn (S 2 0)) F y9) x mm (tn (S 5 0)) i) (j + 1)).1 (xrT ((xrJ (S 6) (fun y9 => kW (S 3) (S 4) (tn (S 2 0)) F y9) x mm (tn (S 5 0)) (xrE (S 6) x i) (xrI (S 6) (fun y9 => kW (S 3) (S 4) (tn (S 2 0)) F y9) x mm (tn (S 5 0)) i) j).1, (xrJ (S 6) (fun y9 => kW (S 3) (S 4) (tn (S 2 0)) F y9) x mm (tn (S 5 0)) (xrE (S 6) x i) (xrI (S 6) (fun y9 => kW (S 3) (S 4) (tn (S 2 0)) F y9) x mm (tn (S 5 0)) i) j).2) mm (xrs (S 6) (fun y9 => kW (S 3) (S 4) (tn (S 2 0)) F y9) x (tn (S 5 0)) (x - (xrE (S 6) x i)) ((xrE (S 6) x j) - x)) (xgo (x - (xrE (S 6) x i)) ((xrE (S 6) x j) - x))).2 (fd 0), wst q sd X, wk q fd F] A s.heap s H locs := Eq.mp (congrArg (fun z9 => xM D (TY q) [w0 q ad τ0 τ1 z9 (xrT ((xrJ (S 6) (fun y9 => kW (S 3) (S 4) (tn (S 2 0)) F y9) x mm (tn (S 5 0)) (xrE (S 6) x i) (xrI (S 6) (fun y9 => kW (S 3) (S 4) (tn (S 2 0)) F y9) x mm (tn (S 5 0)) i) j).1, (xrJ (S 6) (fun y9 => kW (S 3) (S 4) (tn (S 2 0)) F y9) x mm (tn (S 5 0)) (xrE (S 6) x i) (xrI (S 6) (fun y9 => kW (S 3) (S 4) (tn (S 2 0)) F y9) x mm (tn (S 5 0)) i) j).2) mm (xrs (S 6) (fun y9 => kW (S 3) (S 4) (tn (S 2 0)) F y9) x (tn (S 5 0)) (x - (xrE (S 6) x i)) ((xrE (S 6) x j) - x)) (xgo (x - (xrE (S 6) x i)) ((xrE (S 6) x j) - x))).2 (fd 0), wst q sd X, wk q fd F] A s.heap s H locs) e32) hM
              have e33 : (((xrT ((xrJ (S 6) (fun y9 => kW (S 3) (S 4) (tn (S 2 0)) F y9) x mm (tn (S 5 0)) (xrE (S 6) x i) (xrI (S 6) (fun y9 => kW (S 3) (S 4) (tn (S 2 0)) F y9) x mm (tn (S 5 0)) i) j).1, (xrJ (S 6) (fun y9 => kW (S 3) (S 4) (tn (S 2 0)) F y9) x mm (tn (S 5 0)) (xrE (S 6) x i) (xrI (S 6) (fun y9 => kW (S 3) (S 4) (tn (S 2 0)) F y9) x mm (tn (S 5 0)) i) j).2) mm (xrs (S 6) (fun y9 => kW (S 3) (S 4) (tn (S 2 0)) F y9) x (tn (S 5 0)) (x - (xrE (S 6) x i)) ((xrE (S 6) x j) - x)) (xgo (x - (xrE (S 6) x i)) ((xrE (S 6) x j) - x))).2) : Int32) = ((xrJ (S 6) (fun y9 => kW (S 3) (S 4) (tn (S 2 0)) F y9) x mm (tn (S 5 0)) (xrE (S 6) x i) (xrI (S 6) (fun y9 => kW (S 3) (S 4) (tn (S 2 0)) F y9) x mm (tn (S 5 0)) i) (j + 1)).2) := by (first | exact (congrArg Prod.snd (xrJ_1 ⟨by omega, by omega⟩)).symm | exact (congrArg Prod.snd (xrJ_0 (by omega))).symm)
              have hM : xM D (TY q) [w0 q ad τ0 τ1 (xrJ (S 6) (fun y9 => kW (S 3) (S 4) (tn (S 2 0)) F y9) x mm (tn (S 5 0)) (xrE (S 6) x i) (xrI (S 6) (fun y9 => kW (S 3) (S 4) (tn (S 2 0)) F y9) x mm (tn (S 5 0)) i) (j + 1)).1 (xrJ (S 6) (fun y9 => kW (S 3) (S 4) (tn (S 2 0)) F y9) x mm (tn (S 5 0)) (xrE (S 6) x i) (xrI (S 6) (fun y9 => kW (S 3) (S 4) (tn (S 2 0)) F y9) x mm (tn (S 5 0)) i) (j + 1)).2 (fd 0), wst q sd X, wk q fd F] A s.heap s H locs := Eq.mp (congrArg (fun z9 => xM D (TY q) [w0 q ad τ0 τ1 (xrJ (S 6) (fun y9 => kW (S 3) (S 4) (tn (S 2 0)) F y9) x mm (tn (S 5 0)) (xrE (S 6) x i) (xrI (S 6) (fun y9 => kW (S 3) (S 4) (tn (S 2 0)) F y9) x mm (tn (S 5 0)) i) (j + 1)).1 z9 (fd 0), wst q sd X, wk q fd F] A s.heap s H locs) e33) hM
              have hl : lv_has ls 8 [(0, .ref (ad 0)), (1, .ref (sd 0)), (2, .int (nI x)), (3, .int (nI mm)), (4, .int (xm1 i)), (5, .int (nI (xrE (S 6) x i))), (6, .int (xm1 j + 1))] := lv_sub hl [2, 3, 4, 5, 6, 7, 0] rfl
              have e34 : xm1 j + 1 = xm1 (j + 1) := by exact xm1_s j
              have hl : lv_has ls 8 [(0, .ref (ad 0)), (1, .ref (sd 0)), (2, .int (nI x)), (3, .int (nI mm)), (4, .int (xm1 i)), (5, .int (nI (xrE (S 6) x i))), (6, .int (xm1 (j + 1)))] := x_lvset hl 6 rfl (congrArg Value.int e34) rfl
              exact ih15 (j + 1) (show (tn (S 5 0)) + 1 - (j + 1) < (tn (S 5 0)) + 1 - j from by omega) (show (j + 1) ≤ (tn (S 5 0)) + 1 from by omega) _ _ hM _ hl
        · intro hJ35 H locs hM ls hl
          refine lv_if_ge (tgt := 60) hx hb dX0_seekRound_53 (by decide) (fun c36 => ?_) (fun c36 => ?_)
          · have hj1 : 1 ≤ j := Eq.mp (xm1_nn (by omega)) (by assumption)
            refine lv_aload_n hx hb dX0_seekRound_60 rfl (lv_at hl 1 rfl) ?_
            refine lv_iload hx hb dX0_seekRound_61 (lv_at hl 6 rfl) ?_
            refine x_cast (y := nI (j - 1)) (xm1_nat (by omega)) ?_
            refine x_calli (bc := [wst q sd X]) (br := [w0 q ad τ0 τ1 (xrJ (S 6) (fun y9 => kW (S 3) (S 4) (tn (S 2 0)) F y9) x mm (tn (S 5 0)) (xrE (S 6) x i) (xrI (S 6) (fun y9 => kW (S 3) (S 4) (tn (S 2 0)) F y9) x mm (tn (S 5 0)) i) j).1 (xrJ (S 6) (fun y9 => kW (S 3) (S 4) (tn (S 2 0)) F y9) x mm (tn (S 5 0)) (xrE (S 6) x i) (xrI (S 6) (fun y9 => kW (S 3) (S 4) (tn (S 2 0)) F y9) x mm (tn (S 5 0)) i) j).2 (fd 0), wk q fd F]) hM [1] [0, 2] rfl rfl rfl (by decide) (x_runV (As := [.int (nI (j - 1))]) (rest := []) hfix (c_X7_cellOf l D q sd X S (j - 1) hT (by omega)) (cwV 1 hts gX0_seekRound_X7_cellOf rfl rfl rfl (by decide +kernel) ⟨Nat.le_of_ble_eq_true rfl, Nat.le_of_ble_eq_true rfl⟩) hM [1] rfl rfl 1 0 rfl rfl rfl rfl rfl hl.1 rfl (Nat.le_of_ble_eq_true rfl) dX0_seekRound_63 ⟨Nat.le_of_ble_eq_true rfl, Nat.le_of_ble_eq_true rfl⟩) (fun r u H locs hq hM => ?_)
            subst hq
            have hM : xM D (TY q) [w0 q ad τ0 τ1 (xrJ (S 6) (fun y9 => kW (S 3) (S 4) (tn (S 2 0)) F y9) x mm (tn (S 5 0)) (xrE (S 6) x i) (xrI (S 6) (fun y9 => kW (S 3) (S 4) (tn (S 2 0)) F y9) x mm (tn (S 5 0)) i) j).1 (xrJ (S 6) (fun y9 => kW (S 3) (S 4) (tn (S 2 0)) F y9) x mm (tn (S 5 0)) (xrE (S 6) x i) (xrI (S 6) (fun y9 => kW (S 3) (S 4) (tn (S 2 0)) F y9) x mm (tn (S 5 0)) i) j).2 (fd 0), wk q fd F, wst q sd X] A s.heap s H locs := hM
            have hM : xM D (TY q) [w0 q ad τ0 τ1 (xrJ (S 6) (fun y9 => kW (S 3) (S 4) (tn (S 2 0)) F y9) x mm (tn (S 5 0)) (xrE (S 6) x i) (xrI (S 6) (fun y9 => kW (S 3) (S 4) (tn (S 2 0)) F y9) x mm (tn (S 5 0)) i) j).1 (xrJ (S 6) (fun y9 => kW (S 3) (S 4) (tn (S 2 0)) F y9) x mm (tn (S 5 0)) (xrE (S 6) x i) (xrI (S 6) (fun y9 => kW (S 3) (S 4) (tn (S 2 0)) F y9) x mm (tn (S 5 0)) i) j).2 (fd 0), wst q sd X, wk q fd F] A s.heap s H locs := hM.sel [0, 2, 1] rfl rfl
            refine x_cast (y := nI (tn (S 6 (j - 1)))) (okT_cb hT (by omega)).1 ?_
            exact hJ35 (tn (S 6 (j - 1))) (show (tn (S 6 (j - 1))) = (if 0 ≤ (xm1 j) then (tn (S 6 (j - 1))) else x) from by (repeat' split) <;> first | rfl | contradiction | omega | simp_all) _ _ hM _ (lv_sub hl [0, 1, 2, 3, 4, 5, 6] rfl)
          · refine lv_iload_n hx hb dX0_seekRound_56 rfl (lv_at hl 2 rfl) ?_
            refine lv_goto (tgt := 66) hx hb dX0_seekRound_57 (by decide) ?_
            exact hJ35 x (show x = (if 0 ≤ (xm1 j) then (tn (S 6 (j - 1))) else x) from by (repeat' split) <;> first | rfl | contradiction | omega | simp_all) _ _ hM _ (lv_sub hl [0, 1, 2, 3, 4, 5, 6] rfl)
    · intro hJ37 H locs hM ls hl
      refine lv_if_ge (tgt := 31) hx hb dX0_seekRound_24 (by decide) (fun c38 => ?_) (fun c38 => ?_)
      · have hi1 : 1 ≤ i := Eq.mp (xm1_nn (by omega)) (by assumption)
        refine lv_aload_n hx hb dX0_seekRound_31 rfl (lv_at hl 1 rfl) ?_
        refine lv_iload hx hb dX0_seekRound_32 (lv_at hl 4 rfl) ?_
        refine x_cast (y := nI (i - 1)) (xm1_nat (by omega)) ?_
        refine x_calli (bc := [wst q sd X]) (br := [w0 q ad τ0 τ1 (xrI (S 6) (fun y9 => kW (S 3) (S 4) (tn (S 2 0)) F y9) x mm (tn (S 5 0)) i).1 (xrI (S 6) (fun y9 => kW (S 3) (S 4) (tn (S 2 0)) F y9) x mm (tn (S 5 0)) i).2 (fd 0), wk q fd F]) hM [1] [0, 2] rfl rfl rfl (by decide) (x_runV (As := [.int (nI (i - 1))]) (rest := []) hfix (c_X7_cellOf l D q sd X S (i - 1) hT (by omega)) (cwV 1 hts gX0_seekRound_X7_cellOf rfl rfl rfl (by decide +kernel) ⟨Nat.le_of_ble_eq_true rfl, Nat.le_of_ble_eq_true rfl⟩) hM [1] rfl rfl 1 0 rfl rfl rfl rfl rfl hl.1 rfl (Nat.le_of_ble_eq_true rfl) dX0_seekRound_34 ⟨Nat.le_of_ble_eq_true rfl, Nat.le_of_ble_eq_true rfl⟩) (fun r u H locs hq hM => ?_)
        subst hq
        have hM : xM D (TY q) [w0 q ad τ0 τ1 (xrI (S 6) (fun y9 => kW (S 3) (S 4) (tn (S 2 0)) F y9) x mm (tn (S 5 0)) i).1 (xrI (S 6) (fun y9 => kW (S 3) (S 4) (tn (S 2 0)) F y9) x mm (tn (S 5 0)) i).2 (fd 0), wk q fd F, wst q sd X] A s.heap s H locs := hM
        have hM : xM D (TY q) [w0 q ad τ0 τ1 (xrI (S 6) (fun y9 => kW (S 3) (S 4) (tn (S 2 0)) F y9) x mm (tn (S 5 0)) i).1 (xrI (S 6) (fun y9 => kW (S 3) (S 4) (tn (S 2 0)) F y9) x mm (tn (S 5 0)) i).2 (fd 0), wst q sd X, wk q fd F] A s.heap s H locs := hM.sel [0, 2, 1] rfl rfl
        refine x_cast (y := nI (tn (S 6 (i - 1)))) (okT_cb hT (by omega)).1 ?_
        exact hJ37 (tn (S 6 (i - 1))) (show (tn (S 6 (i - 1))) = (if 0 ≤ (xm1 i) then (tn (S 6 (i - 1))) else x) from by (repeat' split) <;> first | rfl | contradiction | omega | simp_all) _ _ hM _ (lv_sub hl [0, 1, 2, 3, 4] rfl)
      · refine lv_iload_n hx hb dX0_seekRound_27 rfl (lv_at hl 2 rfl) ?_
        refine lv_goto (tgt := 37) hx hb dX0_seekRound_28 (by decide) ?_
        exact hJ37 x (show x = (if 0 ≤ (xm1 i) then (tn (S 6 (i - 1))) else x) from by (repeat' split) <;> first | rfl | contradiction | omega | simp_all) _ _ hM _ (lv_sub hl [0, 1, 2, 3, 4] rfl)
