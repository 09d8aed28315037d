set_option maxRecDepth 20000 in
theorem ggX8_taken_X7_isHouse : GoodIn wsX8_taken wsX7_isHouse := goodIn_r _ [9, 10, 11, 12, 13, 148, 149, 150, 151, 152, 153, 154, 155, 156, 157, 158, 159, 160, 161, 162, 163] (by decide +kernel) (by decide +kernel)
set_option maxRecDepth 20000 in
theorem gX8_taken_X7_isHouse : GoodIn wsX8_taken (wsV RX8 102 RX7 yX7_isHouse wsX7_isHouse) := goodIn_app (goodIn_of _ (by decide +kernel)) ggX8_taken_X7_isHouse
set_option maxRecDepth 20000 in
theorem ggX8_taken_X0_look : GoodIn wsX8_taken wsX0_look := goodIn_r _ [18, 19, 20, 21, 22, 23, 24, 25, 26, 27, 28, 29, 30, 31, 32, 33, 34, 35, 36, 37, 38, 39, 40, 41, 42, 43, 44, 45, 46, 47, 48, 49, 50, 51, 52, 53, 54, 55, 56, 57, 58, 59, 60, 61, 62, 63, 64, 65, 66, 67, 8, 68, 69, 70, 71, 72, 73, 74, 75, 76, 77, 78, 79, 80, 81, 82, 83, 84, 85, 86, 87, 88, 89, 90, 91, 92, 93, 94, 95, 96, 97, 98, 99, 100, 101, 102, 103, 104, 105, 106, 107, 108, 109, 110, 111, 112, 113, 114, 115, 164, 165, 166, 167, 168, 169, 170, 171, 172, 173, 174, 148, 149, 150, 151, 152, 153, 154, 155, 156, 157, 158, 159, 160, 161, 162, 163, 175, 176, 177] (by decide +kernel) (by decide +kernel)
set_option maxRecDepth 20000 in
theorem gX8_taken_X0_look : GoodIn wsX8_taken (wsV RX8 117 RX0 yX0_look wsX0_look) := goodIn_app (goodIn_of _ (by decide +kernel)) ggX8_taken_X0_look
set_option maxRecDepth 20000 in
theorem ggX8_taken_X1_worthOfAll : GoodIn wsX8_taken wsX1_worthOfAll := goodIn_r _ [119, 84, 120, 121, 122, 23, 123, 83, 124, 125, 126, 8, 127, 128, 90, 60, 33, 61, 129, 130, 131, 132, 91, 92, 93, 94, 27, 66, 67, 68, 59, 133, 134, 135, 136, 89, 148, 149, 150, 151, 152, 153, 154, 155, 156, 157, 158, 159, 160, 161, 162, 163, 169, 170, 171, 172, 173, 174] (by decide +kernel) (by decide +kernel)
set_option maxRecDepth 20000 in
theorem gX8_taken_X1_worthOfAll : GoodIn wsX8_taken (wsV RX8 169 RX1 yX1_worthOfAll wsX1_worthOfAll) := goodIn_app (goodIn_of _ (by decide +kernel)) ggX8_taken_X1_worthOfAll
set_option maxRecDepth 20000 in
theorem ggX8_taken_X1_worthOf : GoodIn wsX8_taken wsX1_worthOf := goodIn_r _ [123, 83, 124, 125, 126, 8, 127, 128, 90, 60, 33, 61, 129, 130, 131, 23, 132, 91, 92, 93, 94, 27, 66, 67, 68, 59, 133, 134, 135, 136, 89, 148, 149, 150, 151, 152, 153, 154, 155, 156, 157, 158, 159, 160, 161, 162, 163, 169, 170, 171, 172, 173, 174] (by decide +kernel) (by decide +kernel)
set_option maxRecDepth 20000 in
theorem gX8_taken_X1_worthOf : GoodIn wsX8_taken (wsV RX8 172 RX1 yX1_worthOf wsX1_worthOf) := goodIn_app (goodIn_of _ (by decide +kernel)) ggX8_taken_X1_worthOf
theorem dX8_taken_0 : decode cX8_taken 0 = .ok (.iload_n 1, 1) := by decide +kernel
theorem dX8_taken_1 : decode cX8_taken 1 = .ok (.iconst (-1), 1) := by decide +kernel
theorem dX8_taken_2 : decode cX8_taken 2 = .ok (.if_icmp .eq 16, 3) := by decide +kernel
theorem dX8_taken_5 : decode cX8_taken 5 = .ok (.aload_n 0, 1) := by decide +kernel
theorem dX8_taken_6 : decode cX8_taken 6 = .ok (.getfield 19, 3) := by decide +kernel
theorem dX8_taken_9 : decode cX8_taken 9 = .ok (.iload_n 1, 1) := by decide +kernel
theorem dX8_taken_10 : decode cX8_taken 10 = .ok (.invokevirtual 102, 3) := by decide +kernel
theorem dX8_taken_13 : decode cX8_taken 13 = .ok (.ifCond .ne 5, 3) := by decide +kernel
theorem dX8_taken_16 : decode cX8_taken 16 = .ok (.iconst (-1), 1) := by decide +kernel
theorem dX8_taken_17 : decode cX8_taken 17 = .ok (.ireturn, 1) := by decide +kernel
theorem dX8_taken_18 : decode cX8_taken 18 = .ok (.aload_n 0, 1) := by decide +kernel
theorem dX8_taken_19 : decode cX8_taken 19 = .ok (.getfield 58, 3) := by decide +kernel
theorem dX8_taken_22 : decode cX8_taken 22 = .ok (.aload_n 0, 1) := by decide +kernel
theorem dX8_taken_23 : decode cX8_taken 23 = .ok (.getfield 19, 3) := by decide +kernel
theorem dX8_taken_26 : decode cX8_taken 26 = .ok (.aload_n 0, 1) := by decide +kernel
theorem dX8_taken_27 : decode cX8_taken 27 = .ok (.getfield 39, 3) := by decide +kernel
theorem dX8_taken_30 : decode cX8_taken 30 = .ok (.aload_n 0, 1) := by decide +kernel
theorem dX8_taken_31 : decode cX8_taken 31 = .ok (.getfield 29, 3) := by decide +kernel
theorem dX8_taken_34 : decode cX8_taken 34 = .ok (.invokevirtual 117, 3) := by decide +kernel
theorem dX8_taken_37 : decode cX8_taken 37 = .ok (.astore_n 2, 1) := by decide +kernel
theorem dX8_taken_38 : decode cX8_taken 38 = .ok (.iload_n 1, 1) := by decide +kernel
theorem dX8_taken_39 : decode cX8_taken 39 = .ok (.iconst (-1), 1) := by decide +kernel
theorem dX8_taken_40 : decode cX8_taken 40 = .ok (.if_icmp .ne 14, 3) := by decide +kernel
theorem dX8_taken_43 : decode cX8_taken 43 = .ok (.aload_n 2, 1) := by decide +kernel
theorem dX8_taken_44 : decode cX8_taken 44 = .ok (.aload_n 0, 1) := by decide +kernel
theorem dX8_taken_45 : decode cX8_taken 45 = .ok (.getfield 19, 3) := by decide +kernel
theorem dX8_taken_48 : decode cX8_taken 48 = .ok (.invokevirtual 169, 3) := by decide +kernel
theorem dX8_taken_51 : decode cX8_taken 51 = .ok (.goto 12, 3) := by decide +kernel
theorem dX8_taken_54 : decode cX8_taken 54 = .ok (.aload_n 2, 1) := by decide +kernel
theorem dX8_taken_55 : decode cX8_taken 55 = .ok (.aload_n 0, 1) := by decide +kernel
theorem dX8_taken_56 : decode cX8_taken 56 = .ok (.getfield 19, 3) := by decide +kernel
theorem dX8_taken_59 : decode cX8_taken 59 = .ok (.iload_n 1, 1) := by decide +kernel
theorem dX8_taken_60 : decode cX8_taken 60 = .ok (.invokevirtual 172, 3) := by decide +kernel
theorem dX8_taken_63 : decode cX8_taken 63 = .ok (.ireturn, 1) := by decide +kernel
theorem lkX8_taken_19 : Cond.fieldLink RX8 19 "LeftAtFive" "street" "LLeftAtFive$Street;" ∈ wsX8_taken := by decide +kernel
theorem lkX8_taken_29 : Cond.fieldLink RX8 29 "LeftAtFive" "meals" "LLeftAtFive$Meals;" ∈ wsX8_taken := by decide +kernel
theorem lkX8_taken_39 : Cond.fieldLink RX8 39 "LeftAtFive" "now" "LLeftAtFive$Kitchens;" ∈ wsX8_taken := by decide +kernel
theorem lkX8_taken_58 : Cond.fieldLink RX8 58 "LeftAtFive" "ahead" "LLeftAtFive$Ahead;" ∈ wsX8_taken := by decide +kernel
theorem iwX8_taken_X8 : ∀ w ∈ wsX80, w ∈ wsX8_taken := by decide +kernel
set_option maxHeartbeats 2000000 in
set_option maxRecDepth 100000 in
theorem c_X8_takenA (l : Launch) (D : va_G) (q : Nat → ClassId) (ad : Nat → Nat) (ω0 : Nat) (ω1 : Nat) (ω2 : Nat) (ω3 : Nat) (ω4 : Nat) (ω5 : Nat) (ω6 : Nat) (ω7 : Nat) (ω8 : Nat) (ω9 : Nat) (sd : Nat → Nat) (X : Nat → Nat → Int32) (nd : Nat → Nat) (N : Nat → Int32) (md : Nat → Nat) (μ0 : Nat → Int32) (μ1 : Nat → Int32) (μ2 : Int32) (hd : Nat → Nat) (τ0 : Int32) (τ1 : Int32) (τ2 : Int32) (τ3 : Int32) (τ4 : Nat) (fd : Nat → Nat) (F : Nat → Int32) (S : Nat → Nat → Int32) (hT : okT X S) (hK : okK N) (hMl : okM μ0 μ1 (S 11) (tn (S 8 0)) (-4)) : xC l yX8_taken wsX8_taken ({ frames := 6, cells := 0, slots := 0, locals := 140 }) D (TY q) [w8 q ad ω0 (sd 0) ω2 (md 0) ω4 (nd 0) ω6 ω7 (hd 0) ω9, wst q sd X, wk q nd N, w3 q md μ0 μ1 μ2, w0 q hd τ0 τ1 τ2 τ3 (fd 0), wk q fd F] [.ref (ad 0), .int (-1)] (xQi D (TY q) (fun (r : Int32) (_ : (Nat → Int32)) => r = kWA (S 3) (S 4) (tn (S 2 0)) (tn (S 5 0)) (kGoN (S 4) (tn (S 2 0)) (tn (S 5 0)) (S 9) (S 10) (S 11) (tn (S 8 0)) (-4) (N, -4, nI 0) (60 - tn (N 25))).1) (fun (u : (Nat → Int32)) => [w8 q ad ω0 (sd 0) ω2 (md 0) ω4 (nd 0) ω6 ω7 (hd 0) ω9, wst q sd X, wk q nd N, w3 q md μ0 μ1 μ2, w0 q hd τ0 τ1 τ2 τ3 (fd 0), wk q fd u])) 0 0 := by
  refine x_enter (cc := cX8_taken) (maxL := 3) (ret := (some .int)) (by decide) rfl (Nat.le_of_ble_eq_true rfl) ?_
  intro p e s m below meth c A ls H locs hfix hr hlocks hinit hM hl
  obtain ⟨hx, hb, hml, hown, hts⟩ := id hfix
  have hl : lv_has ls 3 [(0, .ref (ad 0)), (1, .int (-1))] := hl
  have hTb0 := okT_0b hT
  have hTb1 := okT_1b hT
  have hTb2 := okT_2b hT
  have hTb3 := okT_3b hT
  have hTb4 := okT_4b hT
  have hK25 := hK.1.2
  have hK26 := hK.2.1.2
  refine lv_iload_n hx hb dX8_taken_0 rfl (lv_at hl 1 rfl) ?_
  refine lv_iconst (v := (-1)) hx hb dX8_taken_1 (by decide) ?_
  refine lv_icmp_eq (tgt := 18) hx hb dX8_taken_2 (by decide) (fun c1 => ?_) (fun c1 => ?_)
  · refine lv_aload_n hx hb dX8_taken_18 rfl (lv_at hl 0 rfl) ?_
    refine x_get hx hb hts iwX8_taken_X8 hown hM 0 0 rfl rfl rfl 8 (by decide) (hts _ lkX8_taken_58) (fun _ h => h) rfl dX8_taken_19 ?_
    refine lv_aload_n hx hb dX8_taken_22 rfl (lv_at hl 0 rfl) ?_
    refine x_get hx hb hts iwX8_taken_X8 hown hM 0 0 rfl rfl rfl 1 (by decide) (hts _ lkX8_taken_19) (fun _ h => h) rfl dX8_taken_23 ?_
    refine lv_aload_n hx hb dX8_taken_26 rfl (lv_at hl 0 rfl) ?_
    refine x_get hx hb hts iwX8_taken_X8 hown hM 0 0 rfl rfl rfl 5 (by decide) (hts _ lkX8_taken_39) (fun _ h => h) rfl dX8_taken_27 ?_
    refine lv_aload_n hx hb dX8_taken_30 rfl (lv_at hl 0 rfl) ?_
    refine x_get hx hb hts iwX8_taken_X8 hown hM 0 0 rfl rfl rfl 3 (by decide) (hts _ lkX8_taken_29) (fun _ h => h) rfl dX8_taken_31 ?_
    refine x_callr (bc := [w0 q hd τ0 τ1 τ2 τ3 (fd 0), wst q sd X, wk q nd N, w3 q md μ0 μ1 μ2, wk q fd F]) (br := [w8 q ad ω0 (sd 0) ω2 (md 0) ω4 (nd 0) ω6 ω7 (hd 0) ω9]) hM [4, 1, 2, 3, 5] [0] rfl rfl rfl (by decide) (x_runV (As := [.ref (sd 0), .ref (nd 0), .ref (md 0)]) (rest := []) hfix (c_X0_look l D q hd τ0 τ1 τ2 τ3 (fd 0) sd X nd N md μ0 μ1 μ2 fd F S (-4) hT hMl hK) (cwV 3 hts gX8_taken_X0_look rfl rfl rfl (by decide +kernel) ⟨Nat.le_of_ble_eq_true rfl, Nat.le_of_ble_eq_true rfl⟩) hM [4, 1, 2, 3, 5] rfl rfl 4 0 rfl rfl rfl rfl rfl hl.1 rfl (Nat.le_of_ble_eq_true rfl) dX8_taken_34 ⟨Nat.le_of_ble_eq_true rfl, Nat.le_of_ble_eq_true rfl⟩) (fun u H locs hq hM => ?_)
    have hM : xM D (TY q) [w8 q ad ω0 (sd 0) ω2 (md 0) ω4 (nd 0) ω6 ω7 (hd 0) ω9, w0 q hd τ0 τ1 τ2 τ3 (fd 0), wst q sd X, wk q nd N, w3 q md μ0 μ1 μ2, wk q fd (kGoN (S 4) (tn (S 2 0)) (tn (S 5 0)) (S 9) (S 10) (S 11) (tn (S 8 0)) (-4) (N, -4, nI 0) (60 - tn (N 25))).1] A s.heap s H locs := hM
    have hM : xM D (TY q) [w8 q ad ω0 (sd 0) ω2 (md 0) ω4 (nd 0) ω6 ω7 (hd 0) ω9, wst q sd X, wk q nd N, w3 q md μ0 μ1 μ2, w0 q hd τ0 τ1 τ2 τ3 (fd 0), wk q fd (kGoN (S 4) (tn (S 2 0)) (tn (S 5 0)) (S 9) (S 10) (S 11) (tn (S 8 0)) (-4) (N, -4, nI 0) (60 - tn (N 25))).1] A s.heap s H locs := hM.sel [0, 2, 3, 4, 1, 5] rfl rfl
    refine lv_astore_n (lv' := [(2, .ref (fd 0)), (0, .ref (ad 0)), (1, .int (-1))]) hx hb dX8_taken_37 rfl hl (by decide) rfl (fun ls hl => ?_)
    refine lv_iload_n hx hb dX8_taken_38 rfl (lv_at hl 2 rfl) ?_
    refine lv_iconst (v := (-1)) hx hb dX8_taken_39 (by decide) ?_
    refine lv_icmp_ne (tgt := 54) hx hb dX8_taken_40 (by decide) (fun c2 => ?_) (fun c2 => ?_)
    · exfalso; exact absurd rfl (by assumption)
    · refine lv_aload_n hx hb dX8_taken_43 rfl (lv_at hl 0 rfl) ?_
      refine lv_aload_n hx hb dX8_taken_44 rfl (lv_at hl 1 rfl) ?_
      refine x_get hx hb hts iwX8_taken_X8 hown hM 0 0 rfl rfl rfl 1 (by decide) (hts _ lkX8_taken_19) (fun _ h => h) rfl dX8_taken_45 ?_
      refine x_calli (bc := [wk q fd (kGoN (S 4) (tn (S 2 0)) (tn (S 5 0)) (S 9) (S 10) (S 11) (tn (S 8 0)) (-4) (N, -4, nI 0) (60 - tn (N 25))).1, wst q sd X]) (br := [w8 q ad ω0 (sd 0) ω2 (md 0) ω4 (nd 0) ω6 ω7 (hd 0) ω9, wk q nd N, w3 q md μ0 μ1 μ2, w0 q hd τ0 τ1 τ2 τ3 (fd 0)]) hM [5, 1] [0, 2, 3, 4] rfl rfl rfl (by decide) (x_runV (As := [.ref (sd 0)]) (rest := []) hfix (c_X1_worthOfAll l D q fd (kGoN (S 4) (tn (S 2 0)) (tn (S 5 0)) (S 9) (S 10) (S 11) (tn (S 8 0)) (-4) (N, -4, nI 0) (60 - tn (N 25))).1 sd X S hT) (cwV 1 hts gX8_taken_X1_worthOfAll rfl rfl rfl (by decide +kernel) ⟨Nat.le_of_ble_eq_true rfl, Nat.le_of_ble_eq_true rfl⟩) hM [5, 1] rfl rfl 5 0 rfl rfl rfl rfl rfl hl.1 rfl (Nat.le_of_ble_eq_true rfl) dX8_taken_48 ⟨Nat.le_of_ble_eq_true rfl, Nat.le_of_ble_eq_true rfl⟩) (fun r u H locs hq hM => ?_)
      subst hq
      have hM : xM D (TY q) [w8 q ad ω0 (sd 0) ω2 (md 0) ω4 (nd 0) ω6 ω7 (hd 0) ω9, wk q nd N, w3 q md μ0 μ1 μ2, w0 q hd τ0 τ1 τ2 τ3 (fd 0), wk q fd (kGoN (S 4) (tn (S 2 0)) (tn (S 5 0)) (S 9) (S 10) (S 11) (tn (S 8 0)) (-4) (N, -4, nI 0) (60 - tn (N 25))).1, wst q sd X] A s.heap s H locs := hM
      have hM : xM D (TY q) [w8 q ad ω0 (sd 0) ω2 (md 0) ω4 (nd 0) ω6 ω7 (hd 0) ω9, wst q sd X, wk q nd N, w3 q md μ0 μ1 μ2, w0 q hd τ0 τ1 τ2 τ3 (fd 0), wk q fd (kGoN (S 4) (tn (S 2 0)) (tn (S 5 0)) (S 9) (S 10) (S 11) (tn (S 8 0)) (-4) (N, -4, nI 0) (60 - tn (N 25))).1] A s.heap s H locs := hM.sel [0, 5, 1, 2, 3, 4] rfl rfl
      refine lv_goto (tgt := 63) hx hb dX8_taken_51 (by decide) ?_
      exact x_iret hx hb hr hlocks (kGoN (S 4) (tn (S 2 0)) (tn (S 5 0)) (S 9) (S 10) (S 11) (tn (S 8 0)) (-4) (N, -4, nI 0) (60 - tn (N 25))).1 hM (show kWA (S 3) (S 4) (tn (S 2 0)) (tn (S 5 0)) (kGoN (S 4) (tn (S 2 0)) (tn (S 5 0)) (S 9) (S 10) (S 11) (tn (S 8 0)) (-4) (N, -4, nI 0) (60 - tn (N 25))).1 = kWA (S 3) (S 4) (tn (S 2 0)) (tn (S 5 0)) (kGoN (S 4) (tn (S 2 0)) (tn (S 5 0)) (S 9) (S 10) (S 11) (tn (S 8 0)) (-4) (N, -4, nI 0) (60 - tn (N 25))).1 from rfl) dX8_taken_63
  · exfalso; exact absurd rfl (by assumption)
