set_option maxRecDepth 20000 in
theorem ggX8_eater_X7_isEater : GoodIn wsX8_eater wsX7_isEater := goodIn_r _ [9, 10, 11, 12, 13, 135, 136, 137, 138, 139, 140, 141, 142, 143, 144, 145, 146, 147, 148, 149, 150] (by decide +kernel) (by decide +kernel)
set_option maxRecDepth 20000 in
theorem gX8_eater_X7_isEater : GoodIn wsX8_eater (wsV RX8 121 RX7 yX7_isEater wsX7_isEater) := goodIn_app (goodIn_of _ (by decide +kernel)) ggX8_eater_X7_isEater
set_option maxRecDepth 20000 in
theorem ggX8_eater_X8_within : GoodIn wsX8_eater wsX8_within := goodIn_r _ [13] (by decide +kernel) (by decide +kernel)
set_option maxRecDepth 20000 in
theorem gX8_eater_X8_within : GoodIn wsX8_eater (va_wsS RX8 91 yX8_within wsX8_within) := goodIn_app (goodIn_of _ (by decide +kernel)) ggX8_eater_X8_within
set_option maxRecDepth 20000 in
theorem ggX8_eater_X1_eatenBy : GoodIn wsX8_eater wsX1_eatenBy := goodIn_r _ [19, 20, 21, 22, 23, 24, 151, 152, 153, 154, 155, 156] (by decide +kernel) (by decide +kernel)
set_option maxRecDepth 20000 in
theorem gX8_eater_X1_eatenBy : GoodIn wsX8_eater (wsV RX8 124 RX1 yX1_eatenBy wsX1_eatenBy) := goodIn_app (goodIn_of _ (by decide +kernel)) ggX8_eater_X1_eatenBy
set_option maxRecDepth 20000 in
theorem ggX8_eater_X1_hungerOf : GoodIn wsX8_eater wsX1_hungerOf := goodIn_r _ [28, 29, 21, 22, 23, 24, 151, 152, 153, 154, 155, 156] (by decide +kernel) (by decide +kernel)
set_option maxRecDepth 20000 in
theorem gX8_eater_X1_hungerOf : GoodIn wsX8_eater (wsV RX8 128 RX1 yX1_hungerOf wsX1_hungerOf) := goodIn_app (goodIn_of _ (by decide +kernel)) ggX8_eater_X1_hungerOf
set_option maxRecDepth 20000 in
theorem ggX8_eater_X0_look : GoodIn wsX8_eater wsX0_look := goodIn_r _ [34, 35, 36, 37, 38, 18, 39, 40, 41, 42, 20, 29, 43, 44, 45, 23, 46, 47, 48, 49, 50, 51, 52, 53, 54, 55, 56, 57, 58, 59, 60, 61, 62, 63, 64, 65, 66, 67, 68, 69, 70, 21, 22, 24, 71, 72, 73, 74, 75, 76, 8, 77, 78, 79, 80, 81, 82, 83, 84, 85, 86, 87, 88, 89, 90, 91, 92, 93, 94, 95, 96, 97, 98, 99, 100, 101, 102, 103, 104, 105, 106, 107, 108, 109, 110, 111, 112, 113, 114, 115, 116, 117, 118, 119, 120, 121, 122, 123, 124, 157, 158, 159, 160, 161, 151, 152, 153, 154, 155, 156, 135, 136, 137, 138, 139, 140, 141, 142, 143, 144, 145, 146, 147, 148, 149, 150, 162, 163, 164] (by decide +kernel) (by decide +kernel)
set_option maxRecDepth 20000 in
theorem gX8_eater_X0_look : GoodIn wsX8_eater (wsV RX8 117 RX0 yX0_look wsX0_look) := goodIn_app (goodIn_of _ (by decide +kernel)) ggX8_eater_X0_look
theorem dX8_eater_0 : decode cX8_eater 0 = .ok (.aload_n 0, 1) := by decide +kernel
theorem dX8_eater_1 : decode cX8_eater 1 = .ok (.getfield 19, 3) := by decide +kernel
theorem dX8_eater_4 : decode cX8_eater 4 = .ok (.iload_n 1, 1) := by decide +kernel
theorem dX8_eater_5 : decode cX8_eater 5 = .ok (.invokevirtual 121, 3) := by decide +kernel
theorem dX8_eater_8 : decode cX8_eater 8 = .ok (.ifCond .eq 12, 3) := by decide +kernel
theorem dX8_eater_11 : decode cX8_eater 11 = .ok (.iload_n 2, 1) := by decide +kernel
theorem dX8_eater_12 : decode cX8_eater 12 = .ok (.iconst 0, 1) := by decide +kernel
theorem dX8_eater_13 : decode cX8_eater 13 = .ok (.iconst 2, 1) := by decide +kernel
theorem dX8_eater_14 : decode cX8_eater 14 = .ok (.invokestatic 91, 3) := by decide +kernel
theorem dX8_eater_17 : decode cX8_eater 17 = .ok (.ifCond .ne 5, 3) := by decide +kernel
theorem dX8_eater_20 : decode cX8_eater 20 = .ok (.iconst (-1), 1) := by decide +kernel
theorem dX8_eater_21 : decode cX8_eater 21 = .ok (.ireturn, 1) := by decide +kernel
theorem dX8_eater_22 : decode cX8_eater 22 = .ok (.iload_n 2, 1) := by decide +kernel
theorem dX8_eater_23 : decode cX8_eater 23 = .ok (.ifCond .ne 12, 3) := by decide +kernel
theorem dX8_eater_26 : decode cX8_eater 26 = .ok (.aload_n 0, 1) := by decide +kernel
theorem dX8_eater_27 : decode cX8_eater 27 = .ok (.getfield 39, 3) := by decide +kernel
theorem dX8_eater_30 : decode cX8_eater 30 = .ok (.iload_n 1, 1) := by decide +kernel
theorem dX8_eater_31 : decode cX8_eater 31 = .ok (.invokevirtual 124, 3) := by decide +kernel
theorem dX8_eater_34 : decode cX8_eater 34 = .ok (.ireturn, 1) := by decide +kernel
theorem dX8_eater_35 : decode cX8_eater 35 = .ok (.iload_n 2, 1) := by decide +kernel
theorem dX8_eater_36 : decode cX8_eater 36 = .ok (.iconst 1, 1) := by decide +kernel
theorem dX8_eater_37 : decode cX8_eater 37 = .ok (.if_icmp .ne 12, 3) := by decide +kernel
theorem dX8_eater_40 : decode cX8_eater 40 = .ok (.aload_n 0, 1) := by decide +kernel
theorem dX8_eater_41 : decode cX8_eater 41 = .ok (.getfield 39, 3) := by decide +kernel
theorem dX8_eater_44 : decode cX8_eater 44 = .ok (.iload_n 1, 1) := by decide +kernel
theorem dX8_eater_45 : decode cX8_eater 45 = .ok (.invokevirtual 128, 3) := by decide +kernel
theorem dX8_eater_48 : decode cX8_eater 48 = .ok (.ireturn, 1) := by decide +kernel
theorem dX8_eater_49 : decode cX8_eater 49 = .ok (.aload_n 0, 1) := by decide +kernel
theorem dX8_eater_50 : decode cX8_eater 50 = .ok (.getfield 58, 3) := by decide +kernel
theorem dX8_eater_53 : decode cX8_eater 53 = .ok (.aload_n 0, 1) := by decide +kernel
theorem dX8_eater_54 : decode cX8_eater 54 = .ok (.getfield 19, 3) := by decide +kernel
theorem dX8_eater_57 : decode cX8_eater 57 = .ok (.aload_n 0, 1) := by decide +kernel
theorem dX8_eater_58 : decode cX8_eater 58 = .ok (.getfield 39, 3) := by decide +kernel
theorem dX8_eater_61 : decode cX8_eater 61 = .ok (.aload_n 0, 1) := by decide +kernel
theorem dX8_eater_62 : decode cX8_eater 62 = .ok (.getfield 29, 3) := by decide +kernel
theorem dX8_eater_65 : decode cX8_eater 65 = .ok (.invokevirtual 117, 3) := by decide +kernel
theorem dX8_eater_68 : decode cX8_eater 68 = .ok (.iload_n 1, 1) := by decide +kernel
theorem dX8_eater_69 : decode cX8_eater 69 = .ok (.invokevirtual 128, 3) := by decide +kernel
theorem dX8_eater_72 : decode cX8_eater 72 = .ok (.ireturn, 1) := by decide +kernel
theorem lkX8_eater_19 : Cond.fieldLink RX8 19 "LeftAtFive" "street" "LLeftAtFive$Street;" ∈ wsX8_eater := by decide +kernel
theorem lkX8_eater_29 : Cond.fieldLink RX8 29 "LeftAtFive" "meals" "LLeftAtFive$Meals;" ∈ wsX8_eater := by decide +kernel
theorem lkX8_eater_39 : Cond.fieldLink RX8 39 "LeftAtFive" "now" "LLeftAtFive$Kitchens;" ∈ wsX8_eater := by decide +kernel
theorem lkX8_eater_58 : Cond.fieldLink RX8 58 "LeftAtFive" "ahead" "LLeftAtFive$Ahead;" ∈ wsX8_eater := by decide +kernel
theorem iwX8_eater_X8 : ∀ w ∈ wsX80, w ∈ wsX8_eater := by decide +kernel
set_option maxHeartbeats 2000000 in
set_option maxRecDepth 100000 in
theorem c_X8_eater (l : Launch) (D : va_G) (q : Nat → ClassId) (ad : Nat → Nat) (ω0 : Nat) (ω1 : Nat) (ω2 : Nat) (ω3 : Nat) (ω4 : Nat) (ω5 : Nat) (ω6 : Nat) (ω7 : Nat) (ω8 : Nat) (ω9 : Nat) (sd : Nat → Nat) (X : Nat → Nat → Int32) (nd : Nat → Nat) (N : Nat → Int32) (md : Nat → Nat) (μ0 : Nat → Int32) (μ1 : Nat → Int32) (μ2 : Int32) (hd : Nat → Nat) (τ0 : Int32) (τ1 : Int32) (τ2 : Int32) (τ3 : Int32) (τ4 : Nat) (fd : Nat → Nat) (F : Nat → Int32) (S : Nat → Nat → Int32) (i : Nat) (what : Nat) (hT : okT X S) (hK : okK N) (hMl : okM μ0 μ1 (S 11) (tn (S 8 0)) (-4)) (hi0 : i < (tn (S 8 0))) (hwhat9 : what ≤ 2) : xC l yX8_eater wsX8_eater ({ frames := 6, cells := 0, slots := 0, locals := 140 }) D (TY q) [w8 q ad ω0 (sd 0) ω2 (md 0) ω4 (nd 0) ω6 ω7 (hd 0) ω9, wst q sd X, wk q nd N, w3 q md μ0 μ1 μ2, w0 q hd τ0 τ1 τ2 τ3 (fd 0), wk q fd F] [.ref (ad 0), .int (nI i), .int (nI what)] (xQi D (TY q) (fun (r : Int32) (_ : (Nat → Int32)) => r = if what = 0 then N (51 + i) else if what = 1 then N (59 + i) else (kGoN (S 4) (tn (S 2 0)) (tn (S 5 0)) (S 9) (S 10) (S 11) (tn (S 8 0)) (-4) (N, -4, nI 0) (60 - tn (N 25))).1 (59 + i)) (fun (u : (Nat → Int32)) => [w8 q ad ω0 (sd 0) ω2 (md 0) ω4 (nd 0) ω6 ω7 (hd 0) ω9, wst q sd X, wk q nd N, w3 q md μ0 μ1 μ2, w0 q hd τ0 τ1 τ2 τ3 (fd 0), wk q fd u])) 0 0 := by
  refine x_enter (cc := cX8_eater) (maxL := 3) (ret := (some .int)) (by decide) rfl (Nat.le_of_ble_eq_true rfl) ?_
  intro p e s m below meth c A ls H locs hfix hr hlocks hinit hM hl
  obtain ⟨hx, hb, hml, hown, hts⟩ := id hfix
  have hl : lv_has ls 3 [(0, .ref (ad 0)), (1, .int (nI i)), (2, .int (nI what))] := hl
  have hTb0 := okT_0b hT
  have hTb1 := okT_1b hT
  have hTb2 := okT_2b hT
  have hTb3 := okT_3b hT
  have hTb4 := okT_4b hT
  have hK25 := hK.1.2
  have hK26 := hK.2.1.2
  refine lv_aload_n hx hb dX8_eater_0 rfl (lv_at hl 0 rfl) ?_
  refine x_get hx hb hts iwX8_eater_X8 hown hM 0 0 rfl rfl rfl 1 (by decide) (hts _ lkX8_eater_19) (fun _ h => h) rfl dX8_eater_1 ?_
  refine lv_iload_n hx hb dX8_eater_4 rfl (lv_at hl 1 rfl) ?_
  refine x_calli (bc := [wst q sd X]) (br := [w8 q ad ω0 (sd 0) ω2 (md 0) ω4 (nd 0) ω6 ω7 (hd 0) ω9, wk q nd N, w3 q md μ0 μ1 μ2, w0 q hd τ0 τ1 τ2 τ3 (fd 0), wk q fd F]) hM [1] [0, 2, 3, 4, 5] rfl rfl rfl (by decide) (x_runV (As := [.int (nI i)]) (rest := []) hfix (c_X7_isEater l D q sd X S (nI i) ((i : Nat) : Int) hT (nI_toInt (n := i) (by omega))) (cwV 1 hts gX8_eater_X7_isEater rfl rfl rfl (by decide +kernel) ⟨Nat.le_of_ble_eq_true rfl, Nat.le_of_ble_eq_true rfl⟩) hM [1] rfl rfl 1 0 rfl rfl rfl rfl rfl hl.1 rfl (Nat.le_of_ble_eq_true rfl) dX8_eater_5 ⟨Nat.le_of_ble_eq_true rfl, Nat.le_of_ble_eq_true rfl⟩) (fun r u H locs hq hM => ?_)
  subst hq
  have hM : xM D (TY q) [w8 q ad ω0 (sd 0) ω2 (md 0) ω4 (nd 0) ω6 ω7 (hd 0) ω9, wk q nd N, w3 q md μ0 μ1 μ2, w0 q hd τ0 τ1 τ2 τ3 (fd 0), wk q fd F, wst q sd X] A s.heap s H locs := hM
  have hM : xM D (TY q) [w8 q ad ω0 (sd 0) ω2 (md 0) ω4 (nd 0) ω6 ω7 (hd 0) ω9, wst q sd X, wk q nd N, w3 q md μ0 μ1 μ2, w0 q hd τ0 τ1 τ2 τ3 (fd 0), wk q fd F] A s.heap s H locs := hM.sel [0, 5, 1, 2, 3, 4] rfl rfl
  refine x_ifz_eq (P := 0 ≤ ((i : Nat) : Int) ∧ ((i : Nat) : Int) < (tn (S 8 0))) (tgt := 20) hx hb dX8_eater_8 (by decide) (fun c1 => ?_) (fun c1 => ?_)
  · exfalso; omega
  · refine lv_iload_n hx hb dX8_eater_11 rfl (lv_at hl 2 rfl) ?_
    refine lv_iconst (v := nI 0) hx hb dX8_eater_12 (by decide) ?_
    refine lv_iconst (v := nI 2) hx hb dX8_eater_13 (by decide) ?_
    refine x_calli (bc := []) (br := [w8 q ad ω0 (sd 0) ω2 (md 0) ω4 (nd 0) ω6 ω7 (hd 0) ω9, wst q sd X, wk q nd N, w3 q md μ0 μ1 μ2, w0 q hd τ0 τ1 τ2 τ3 (fd 0), wk q fd F]) hM [] [0, 1, 2, 3, 4, 5] rfl rfl rfl (by decide) (x_runS (As := [.int (nI what), .int (nI 0), .int (nI 2)]) (rest := []) hfix (c_X8_within l D q (nI what) (nI 0) (nI 2) ((what : Nat) : Int) (0 : Int) (2 : Int) (nI_toInt (n := what) (by omega)) (nI_toInt (n := 0) (by decide)) (nI_toInt (n := 2) (by decide))) (va_cwS 3 hts gX8_eater_X8_within rfl rfl rfl (by decide +kernel) ⟨Nat.le_of_ble_eq_true rfl, Nat.le_of_ble_eq_true rfl⟩) hM [] rfl rfl rfl hl.1 rfl (Nat.le_of_ble_eq_true rfl) dX8_eater_14 ⟨Nat.le_of_ble_eq_true rfl, Nat.le_of_ble_eq_true rfl⟩) (fun r u H locs hq hM => ?_)
    subst hq
    have hM : xM D (TY q) [w8 q ad ω0 (sd 0) ω2 (md 0) ω4 (nd 0) ω6 ω7 (hd 0) ω9, wst q sd X, wk q nd N, w3 q md μ0 μ1 μ2, w0 q hd τ0 τ1 τ2 τ3 (fd 0), wk q fd F] A s.heap s H locs := hM
    refine x_ifz_ne (P := (0 : Int) ≤ ((what : Nat) : Int) ∧ ((what : Nat) : Int) ≤ (2 : Int)) (tgt := 22) hx hb dX8_eater_17 (by decide) (fun c2 => ?_) (fun c2 => ?_)
    · refine lv_iload_n hx hb dX8_eater_22 rfl (lv_at hl 2 rfl) ?_
      refine x_if_ne (x := what) (tgt := 35) hx hb (by omega) dX8_eater_23 (by decide) (fun c3 => ?_) (fun c3 => ?_)
      · refine lv_iload_n hx hb dX8_eater_35 rfl (lv_at hl 2 rfl) ?_
        refine lv_iconst (v := nI 1) hx hb dX8_eater_36 (by decide) ?_
        refine x_icmp_ne (x := what) (y := 1) (tgt := 49) hx hb (by omega) (by omega) dX8_eater_37 (by decide) (fun c4 => ?_) (fun c4 => ?_)
        · refine lv_aload_n hx hb dX8_eater_49 rfl (lv_at hl 0 rfl) ?_
          refine x_get hx hb hts iwX8_eater_X8 hown hM 0 0 rfl rfl rfl 8 (by decide) (hts _ lkX8_eater_58) (fun _ h => h) rfl dX8_eater_50 ?_
          refine lv_aload_n hx hb dX8_eater_53 rfl (lv_at hl 0 rfl) ?_
          refine x_get hx hb hts iwX8_eater_X8 hown hM 0 0 rfl rfl rfl 1 (by decide) (hts _ lkX8_eater_19) (fun _ h => h) rfl dX8_eater_54 ?_
          refine lv_aload_n hx hb dX8_eater_57 rfl (lv_at hl 0 rfl) ?_
          refine x_get hx hb hts iwX8_eater_X8 hown hM 0 0 rfl rfl rfl 5 (by decide) (hts _ lkX8_eater_39) (fun _ h => h) rfl dX8_eater_58 ?_
          refine lv_aload_n hx hb dX8_eater_61 rfl (lv_at hl 0 rfl) ?_
          refine x_get hx hb hts iwX8_eater_X8 hown hM 0 0 rfl rfl rfl 3 (by decide) (hts _ lkX8_eater_29) (fun _ h => h) rfl dX8_eater_62 ?_
          refine x_callr (bc := [w0 q hd τ0 τ1 τ2 τ3 (fd 0), wst q sd X, wk q nd N, w3 q md μ0 μ1 μ2, wk q fd F]) (br := [w8 q ad ω0 (sd 0) ω2 (md 0) ω4 (nd 0) ω6 ω7 (hd 0) ω9]) hM [4, 1, 2, 3, 5] [0] rfl rfl rfl (by decide) (x_runV (As := [.ref (sd 0), .ref (nd 0), .ref (md 0)]) (rest := []) hfix (c_X0_look l D q hd τ0 τ1 τ2 τ3 (fd 0) sd X nd N md μ0 μ1 μ2 fd F S (-4) hT hMl hK) (cwV 3 hts gX8_eater_X0_look rfl rfl rfl (by decide +kernel) ⟨Nat.le_of_ble_eq_true rfl, Nat.le_of_ble_eq_true rfl⟩) hM [4, 1, 2, 3, 5] rfl rfl 4 0 rfl rfl rfl rfl rfl hl.1 rfl (Nat.le_of_ble_eq_true rfl) dX8_eater_65 ⟨Nat.le_of_ble_eq_true rfl, Nat.le_of_ble_eq_true rfl⟩) (fun u H locs hq hM => ?_)
          have hM : xM D (TY q) [w8 q ad ω0 (sd 0) ω2 (md 0) ω4 (nd 0) ω6 ω7 (hd 0) ω9, w0 q hd τ0 τ1 τ2 τ3 (fd 0), wst q sd X, wk q nd N, w3 q md μ0 μ1 μ2, wk q fd (kGoN (S 4) (tn (S 2 0)) (tn (S 5 0)) (S 9) (S 10) (S 11) (tn (S 8 0)) (-4) (N, -4, nI 0) (60 - tn (N 25))).1] A s.heap s H locs := hM
          have hM : xM D (TY q) [w8 q ad ω0 (sd 0) ω2 (md 0) ω4 (nd 0) ω6 ω7 (hd 0) ω9, wst q sd X, wk q nd N, w3 q md μ0 μ1 μ2, w0 q hd τ0 τ1 τ2 τ3 (fd 0), wk q fd (kGoN (S 4) (tn (S 2 0)) (tn (S 5 0)) (S 9) (S 10) (S 11) (tn (S 8 0)) (-4) (N, -4, nI 0) (60 - tn (N 25))).1] A s.heap s H locs := hM.sel [0, 2, 3, 4, 1, 5] rfl rfl
          refine lv_iload_n hx hb dX8_eater_68 rfl (lv_at hl 1 rfl) ?_
          refine x_calli (bc := [wk q fd (kGoN (S 4) (tn (S 2 0)) (tn (S 5 0)) (S 9) (S 10) (S 11) (tn (S 8 0)) (-4) (N, -4, nI 0) (60 - tn (N 25))).1]) (br := [w8 q ad ω0 (sd 0) ω2 (md 0) ω4 (nd 0) ω6 ω7 (hd 0) ω9, wst q sd X, wk q nd N, w3 q md μ0 μ1 μ2, w0 q hd τ0 τ1 τ2 τ3 (fd 0)]) hM [5] [0, 1, 2, 3, 4] rfl rfl rfl (by decide) (x_runV (As := [.int (nI i)]) (rest := []) hfix (c_X1_hungerOf l D q fd (kGoN (S 4) (tn (S 2 0)) (tn (S 5 0)) (S 9) (S 10) (S 11) (tn (S 8 0)) (-4) (N, -4, nI 0) (60 - tn (N 25))).1 i (by omega)) (cwV 1 hts gX8_eater_X1_hungerOf rfl rfl rfl (by decide +kernel) ⟨Nat.le_of_ble_eq_true rfl, Nat.le_of_ble_eq_true rfl⟩) hM [5] rfl rfl 5 0 rfl rfl rfl rfl rfl hl.1 rfl (Nat.le_of_ble_eq_true rfl) dX8_eater_69 ⟨Nat.le_of_ble_eq_true rfl, Nat.le_of_ble_eq_true rfl⟩) (fun r u H locs hq hM => ?_)
          subst hq
          have hM : xM D (TY q) [w8 q ad ω0 (sd 0) ω2 (md 0) ω4 (nd 0) ω6 ω7 (hd 0) ω9, wst q sd X, wk q nd N, w3 q md μ0 μ1 μ2, w0 q hd τ0 τ1 τ2 τ3 (fd 0), wk q fd (kGoN (S 4) (tn (S 2 0)) (tn (S 5 0)) (S 9) (S 10) (S 11) (tn (S 8 0)) (-4) (N, -4, nI 0) (60 - tn (N 25))).1] A s.heap s H locs := hM
          exact x_iret hx hb hr hlocks (kGoN (S 4) (tn (S 2 0)) (tn (S 5 0)) (S 9) (S 10) (S 11) (tn (S 8 0)) (-4) (N, -4, nI 0) (60 - tn (N 25))).1 hM (show (kGoN (S 4) (tn (S 2 0)) (tn (S 5 0)) (S 9) (S 10) (S 11) (tn (S 8 0)) (-4) (N, -4, nI 0) (60 - tn (N 25))).1 (59 + i) = if what = 0 then N (51 + i) else if what = 1 then N (59 + i) else (kGoN (S 4) (tn (S 2 0)) (tn (S 5 0)) (S 9) (S 10) (S 11) (tn (S 8 0)) (-4) (N, -4, nI 0) (60 - tn (N 25))).1 (59 + i) from by (first | exact (if_pos (by omega)).symm | exact ((if_neg (by omega)).trans (if_pos (by omega))).symm | exact ((if_neg (by omega)).trans (if_neg (by omega))).symm)) dX8_eater_72
        · refine lv_aload_n hx hb dX8_eater_40 rfl (lv_at hl 0 rfl) ?_
          refine x_get hx hb hts iwX8_eater_X8 hown hM 0 0 rfl rfl rfl 5 (by decide) (hts _ lkX8_eater_39) (fun _ h => h) rfl dX8_eater_41 ?_
          refine lv_iload_n hx hb dX8_eater_44 rfl (lv_at hl 1 rfl) ?_
          refine x_calli (bc := [wk q nd N]) (br := [w8 q ad ω0 (sd 0) ω2 (md 0) ω4 (nd 0) ω6 ω7 (hd 0) ω9, wst q sd X, w3 q md μ0 μ1 μ2, w0 q hd τ0 τ1 τ2 τ3 (fd 0), wk q fd F]) hM [2] [0, 1, 3, 4, 5] rfl rfl rfl (by decide) (x_runV (As := [.int (nI i)]) (rest := []) hfix (c_X1_hungerOf l D q nd N i (by omega)) (cwV 1 hts gX8_eater_X1_hungerOf rfl rfl rfl (by decide +kernel) ⟨Nat.le_of_ble_eq_true rfl, Nat.le_of_ble_eq_true rfl⟩) hM [2] rfl rfl 2 0 rfl rfl rfl rfl rfl hl.1 rfl (Nat.le_of_ble_eq_true rfl) dX8_eater_45 ⟨Nat.le_of_ble_eq_true rfl, Nat.le_of_ble_eq_true rfl⟩) (fun r u H locs hq hM => ?_)
          subst hq
          have hM : xM D (TY q) [w8 q ad ω0 (sd 0) ω2 (md 0) ω4 (nd 0) ω6 ω7 (hd 0) ω9, wst q sd X, w3 q md μ0 μ1 μ2, w0 q hd τ0 τ1 τ2 τ3 (fd 0), wk q fd F, wk q nd N] A s.heap s H locs := hM
          have hM : xM D (TY q) [w8 q ad ω0 (sd 0) ω2 (md 0) ω4 (nd 0) ω6 ω7 (hd 0) ω9, wst q sd X, wk q nd N, w3 q md μ0 μ1 μ2, w0 q hd τ0 τ1 τ2 τ3 (fd 0), wk q fd F] A s.heap s H locs := hM.sel [0, 1, 5, 2, 3, 4] rfl rfl
          exact x_iret hx hb hr hlocks F hM (show N (59 + i) = if what = 0 then N (51 + i) else if what = 1 then N (59 + i) else (kGoN (S 4) (tn (S 2 0)) (tn (S 5 0)) (S 9) (S 10) (S 11) (tn (S 8 0)) (-4) (N, -4, nI 0) (60 - tn (N 25))).1 (59 + i) from by (first | exact (if_pos (by omega)).symm | exact ((if_neg (by omega)).trans (if_pos (by omega))).symm | exact ((if_neg (by omega)).trans (if_neg (by omega))).symm)) dX8_eater_48
      · refine lv_aload_n hx hb dX8_eater_26 rfl (lv_at hl 0 rfl) ?_
        refine x_get hx hb hts iwX8_eater_X8 hown hM 0 0 rfl rfl rfl 5 (by decide) (hts _ lkX8_eater_39) (fun _ h => h) rfl dX8_eater_27 ?_
        refine lv_iload_n hx hb dX8_eater_30 rfl (lv_at hl 1 rfl) ?_
        refine x_calli (bc := [wk q nd N]) (br := [w8 q ad ω0 (sd 0) ω2 (md 0) ω4 (nd 0) ω6 ω7 (hd 0) ω9, wst q sd X, w3 q md μ0 μ1 μ2, w0 q hd τ0 τ1 τ2 τ3 (fd 0), wk q fd F]) hM [2] [0, 1, 3, 4, 5] rfl rfl rfl (by decide) (x_runV (As := [.int (nI i)]) (rest := []) hfix (c_X1_eatenBy l D q nd N i (by omega)) (cwV 1 hts gX8_eater_X1_eatenBy rfl rfl rfl (by decide +kernel) ⟨Nat.le_of_ble_eq_true rfl, Nat.le_of_ble_eq_true rfl⟩) hM [2] rfl rfl 2 0 rfl rfl rfl rfl rfl hl.1 rfl (Nat.le_of_ble_eq_true rfl) dX8_eater_31 ⟨Nat.le_of_ble_eq_true rfl, Nat.le_of_ble_eq_true rfl⟩) (fun r u H locs hq hM => ?_)
        subst hq
        have hM : xM D (TY q) [w8 q ad ω0 (sd 0) ω2 (md 0) ω4 (nd 0) ω6 ω7 (hd 0) ω9, wst q sd X, w3 q md μ0 μ1 μ2, w0 q hd τ0 τ1 τ2 τ3 (fd 0), wk q fd F, wk q nd N] A s.heap s H locs := hM
        have hM : xM D (TY q) [w8 q ad ω0 (sd 0) ω2 (md 0) ω4 (nd 0) ω6 ω7 (hd 0) ω9, wst q sd X, wk q nd N, w3 q md μ0 μ1 μ2, w0 q hd τ0 τ1 τ2 τ3 (fd 0), wk q fd F] A s.heap s H locs := hM.sel [0, 1, 5, 2, 3, 4] rfl rfl
        exact x_iret hx hb hr hlocks F hM (show N (51 + i) = if what = 0 then N (51 + i) else if what = 1 then N (59 + i) else (kGoN (S 4) (tn (S 2 0)) (tn (S 5 0)) (S 9) (S 10) (S 11) (tn (S 8 0)) (-4) (N, -4, nI 0) (60 - tn (N 25))).1 (59 + i) from by (first | exact (if_pos (by omega)).symm | exact ((if_neg (by omega)).trans (if_pos (by omega))).symm | exact ((if_neg (by omega)).trans (if_neg (by omega))).symm)) dX8_eater_34
    · exfalso; omega
