set_option maxRecDepth 20000 in
theorem ggX8_house_X7_isHouse : GoodIn wsX8_house wsX7_isHouse := goodIn_r _ [9, 10, 11, 12, 13, 141, 142, 143, 144, 145, 146, 147, 148, 149, 150, 151, 152, 153, 154, 155, 156] (by decide +kernel) (by decide +kernel)
set_option maxRecDepth 20000 in
theorem gX8_house_X7_isHouse : GoodIn wsX8_house (wsV RX8 102 RX7 yX7_isHouse wsX7_isHouse) := goodIn_app (goodIn_of _ (by decide +kernel)) ggX8_house_X7_isHouse
set_option maxRecDepth 20000 in
theorem ggX8_house_X7_isGood : GoodIn wsX8_house wsX7_isGood := goodIn_r _ [17, 18, 11, 12, 13, 141, 142, 143, 144, 145, 146, 147, 148, 149, 150, 151, 152, 153, 154, 155, 156] (by decide +kernel) (by decide +kernel)
set_option maxRecDepth 20000 in
theorem gX8_house_X7_isGood : GoodIn wsX8_house (wsV RX8 106 RX7 yX7_isGood wsX7_isGood) := goodIn_app (goodIn_of _ (by decide +kernel)) ggX8_house_X7_isGood
set_option maxRecDepth 20000 in
theorem ggX8_house_X8_within : GoodIn wsX8_house wsX8_within := goodIn_r _ [13] (by decide +kernel) (by decide +kernel)
set_option maxRecDepth 20000 in
theorem gX8_house_X8_within : GoodIn wsX8_house (va_wsS RX8 91 yX8_within wsX8_within) := goodIn_app (goodIn_of _ (by decide +kernel)) ggX8_house_X8_within
set_option maxRecDepth 20000 in
theorem ggX8_house_X1_piecesOf : GoodIn wsX8_house wsX1_piecesOf := goodIn_r _ [24, 25, 26, 27, 8, 28, 29, 30, 31, 32, 157, 158, 159, 160, 161, 162] (by decide +kernel) (by decide +kernel)
set_option maxRecDepth 20000 in
theorem gX8_house_X1_piecesOf : GoodIn wsX8_house (wsV RX8 109 RX1 yX1_piecesOf wsX1_piecesOf) := goodIn_app (goodIn_of _ (by decide +kernel)) ggX8_house_X1_piecesOf
set_option maxRecDepth 20000 in
theorem ggX8_house_X1_leftOf : GoodIn wsX8_house wsX1_leftOf := goodIn_r _ [36, 37, 21, 22, 23, 24, 25, 26, 27, 8, 28, 29, 30, 31, 32, 38, 39, 40, 41, 42, 43, 157, 158, 159, 160, 161, 162, 141, 142, 143, 144, 145, 146, 147, 148, 149, 150, 151, 152, 153, 154, 155, 156] (by decide +kernel) (by decide +kernel)
set_option maxRecDepth 20000 in
theorem gX8_house_X1_leftOf : GoodIn wsX8_house (wsV RX8 113 RX1 yX1_leftOf wsX1_leftOf) := goodIn_app (goodIn_of _ (by decide +kernel)) ggX8_house_X1_leftOf
set_option maxRecDepth 20000 in
theorem ggX8_house_X0_look : GoodIn wsX8_house wsX0_look := goodIn_r _ [48, 49, 50, 51, 52, 23, 53, 54, 55, 25, 56, 57, 58, 59, 60, 31, 61, 62, 63, 64, 65, 66, 67, 68, 69, 70, 71, 72, 73, 74, 75, 76, 77, 78, 79, 80, 81, 82, 83, 84, 85, 29, 30, 32, 86, 87, 88, 89, 26, 27, 8, 28, 90, 91, 92, 93, 94, 95, 96, 97, 98, 99, 100, 101, 102, 103, 104, 105, 106, 107, 108, 109, 42, 43, 37, 21, 22, 24, 110, 111, 112, 113, 114, 115, 116, 117, 118, 119, 120, 121, 122, 123, 124, 125, 126, 127, 128, 129, 130, 163, 164, 165, 166, 167, 157, 158, 159, 160, 161, 162, 141, 142, 143, 144, 145, 146, 147, 148, 149, 150, 151, 152, 153, 154, 155, 156, 168, 169, 170] (by decide +kernel) (by decide +kernel)
set_option maxRecDepth 20000 in
theorem gX8_house_X0_look : GoodIn wsX8_house (wsV RX8 117 RX0 yX0_look wsX0_look) := goodIn_app (goodIn_of _ (by decide +kernel)) ggX8_house_X0_look
theorem dX8_house_0 : decode cX8_house 0 = .ok (.aload_n 0, 1) := by decide +kernel
theorem dX8_house_1 : decode cX8_house 1 = .ok (.getfield 19, 3) := by decide +kernel
theorem dX8_house_4 : decode cX8_house 4 = .ok (.iload_n 1, 1) := by decide +kernel
theorem dX8_house_5 : decode cX8_house 5 = .ok (.invokevirtual 102, 3) := by decide +kernel
theorem dX8_house_8 : decode cX8_house 8 = .ok (.ifCond .eq 23, 3) := by decide +kernel
theorem dX8_house_11 : decode cX8_house 11 = .ok (.aload_n 0, 1) := by decide +kernel
theorem dX8_house_12 : decode cX8_house 12 = .ok (.getfield 19, 3) := by decide +kernel
theorem dX8_house_15 : decode cX8_house 15 = .ok (.iload_n 2, 1) := by decide +kernel
theorem dX8_house_16 : decode cX8_house 16 = .ok (.invokevirtual 106, 3) := by decide +kernel
theorem dX8_house_19 : decode cX8_house 19 = .ok (.ifCond .eq 12, 3) := by decide +kernel
theorem dX8_house_22 : decode cX8_house 22 = .ok (.iload_n 3, 1) := by decide +kernel
theorem dX8_house_23 : decode cX8_house 23 = .ok (.iconst 0, 1) := by decide +kernel
theorem dX8_house_24 : decode cX8_house 24 = .ok (.iconst 2, 1) := by decide +kernel
theorem dX8_house_25 : decode cX8_house 25 = .ok (.invokestatic 91, 3) := by decide +kernel
theorem dX8_house_28 : decode cX8_house 28 = .ok (.ifCond .ne 5, 3) := by decide +kernel
theorem dX8_house_31 : decode cX8_house 31 = .ok (.iconst (-1), 1) := by decide +kernel
theorem dX8_house_32 : decode cX8_house 32 = .ok (.ireturn, 1) := by decide +kernel
theorem dX8_house_33 : decode cX8_house 33 = .ok (.iload_n 3, 1) := by decide +kernel
theorem dX8_house_34 : decode cX8_house 34 = .ok (.ifCond .ne 13, 3) := by decide +kernel
theorem dX8_house_37 : decode cX8_house 37 = .ok (.aload_n 0, 1) := by decide +kernel
theorem dX8_house_38 : decode cX8_house 38 = .ok (.getfield 39, 3) := by decide +kernel
theorem dX8_house_41 : decode cX8_house 41 = .ok (.iload_n 1, 1) := by decide +kernel
theorem dX8_house_42 : decode cX8_house 42 = .ok (.iload_n 2, 1) := by decide +kernel
theorem dX8_house_43 : decode cX8_house 43 = .ok (.invokevirtual 109, 3) := by decide +kernel
theorem dX8_house_46 : decode cX8_house 46 = .ok (.ireturn, 1) := by decide +kernel
theorem dX8_house_47 : decode cX8_house 47 = .ok (.iload_n 3, 1) := by decide +kernel
theorem dX8_house_48 : decode cX8_house 48 = .ok (.iconst 1, 1) := by decide +kernel
theorem dX8_house_49 : decode cX8_house 49 = .ok (.if_icmp .ne 17, 3) := by decide +kernel
theorem dX8_house_52 : decode cX8_house 52 = .ok (.aload_n 0, 1) := by decide +kernel
theorem dX8_house_53 : decode cX8_house 53 = .ok (.getfield 39, 3) := by decide +kernel
theorem dX8_house_56 : decode cX8_house 56 = .ok (.aload_n 0, 1) := by decide +kernel
theorem dX8_house_57 : decode cX8_house 57 = .ok (.getfield 19, 3) := by decide +kernel
theorem dX8_house_60 : decode cX8_house 60 = .ok (.iload_n 1, 1) := by decide +kernel
theorem dX8_house_61 : decode cX8_house 61 = .ok (.iload_n 2, 1) := by decide +kernel
theorem dX8_house_62 : decode cX8_house 62 = .ok (.invokevirtual 113, 3) := by decide +kernel
theorem dX8_house_65 : decode cX8_house 65 = .ok (.ireturn, 1) := by decide +kernel
theorem dX8_house_66 : decode cX8_house 66 = .ok (.aload_n 0, 1) := by decide +kernel
theorem dX8_house_67 : decode cX8_house 67 = .ok (.getfield 58, 3) := by decide +kernel
theorem dX8_house_70 : decode cX8_house 70 = .ok (.aload_n 0, 1) := by decide +kernel
theorem dX8_house_71 : decode cX8_house 71 = .ok (.getfield 19, 3) := by decide +kernel
theorem dX8_house_74 : decode cX8_house 74 = .ok (.aload_n 0, 1) := by decide +kernel
theorem dX8_house_75 : decode cX8_house 75 = .ok (.getfield 39, 3) := by decide +kernel
theorem dX8_house_78 : decode cX8_house 78 = .ok (.aload_n 0, 1) := by decide +kernel
theorem dX8_house_79 : decode cX8_house 79 = .ok (.getfield 29, 3) := by decide +kernel
theorem dX8_house_82 : decode cX8_house 82 = .ok (.invokevirtual 117, 3) := by decide +kernel
theorem dX8_house_85 : decode cX8_house 85 = .ok (.aload_n 0, 1) := by decide +kernel
theorem dX8_house_86 : decode cX8_house 86 = .ok (.getfield 19, 3) := by decide +kernel
theorem dX8_house_89 : decode cX8_house 89 = .ok (.iload_n 1, 1) := by decide +kernel
theorem dX8_house_90 : decode cX8_house 90 = .ok (.iload_n 2, 1) := by decide +kernel
theorem dX8_house_91 : decode cX8_house 91 = .ok (.invokevirtual 113, 3) := by decide +kernel
theorem dX8_house_94 : decode cX8_house 94 = .ok (.ireturn, 1) := by decide +kernel
theorem lkX8_house_19 : Cond.fieldLink RX8 19 "LeftAtFive" "street" "LLeftAtFive$Street;" ∈ wsX8_house := by decide +kernel
theorem lkX8_house_29 : Cond.fieldLink RX8 29 "LeftAtFive" "meals" "LLeftAtFive$Meals;" ∈ wsX8_house := by decide +kernel
theorem lkX8_house_39 : Cond.fieldLink RX8 39 "LeftAtFive" "now" "LLeftAtFive$Kitchens;" ∈ wsX8_house := by decide +kernel
theorem lkX8_house_58 : Cond.fieldLink RX8 58 "LeftAtFive" "ahead" "LLeftAtFive$Ahead;" ∈ wsX8_house := by decide +kernel
theorem iwX8_house_X8 : ∀ w ∈ wsX80, w ∈ wsX8_house := by decide +kernel
set_option maxHeartbeats 2000000 in
set_option maxRecDepth 100000 in
theorem c_X8_house (l : Launch) (D : va_G) (q : Nat → ClassId) (ad : Nat → Nat) (ω0 : Nat) (ω1 : Nat) (ω2 : Nat) (ω3 : Nat) (ω4 : Nat) (ω5 : Nat) (ω6 : Nat) (ω7 : Nat) (ω8 : Nat) (ω9 : Nat) (sd : Nat → Nat) (X : Nat → Nat → Int32) (nd : Nat → Nat) (N : Nat → Int32) (md : Nat → Nat) (μ0 : Nat → Int32) (μ1 : Nat → Int32) (μ2 : Int32) (hd : Nat → Nat) (τ0 : Int32) (τ1 : Int32) (τ2 : Int32) (τ3 : Int32) (τ4 : Nat) (fd : Nat → Nat) (F : Nat → Int32) (S : Nat → Nat → Int32) (h : Nat) (g : Nat) (what : Nat) (hT : okT X S) (hK : okK N) (hMl : okM μ0 μ1 (S 11) (tn (S 8 0)) (-4)) (hh0 : h < (tn (S 5 0))) (hg0 : g < (tn (S 2 0))) (hwhat9 : what ≤ 2) : xC l yX8_house wsX8_house ({ frames := 6, cells := 0, slots := 0, locals := 140 }) D (TY q) [w8 q ad ω0 (sd 0) ω2 (md 0) ω4 (nd 0) ω6 ω7 (hd 0) ω9, wst q sd X, wk q nd N, w3 q md μ0 μ1 μ2, w0 q hd τ0 τ1 τ2 τ3 (fd 0), wk q fd F] [.ref (ad 0), .int (nI h), .int (nI g), .int (nI what)] (xQi D (TY q) (fun (r : Int32) (_ : (Nat → Int32)) => r = if what = 0 then N (5 * h + g) else if what = 1 then xlf (S 4 g) (N (5 * h + g)) else xlf (S 4 g) ((kGoN (S 4) (tn (S 2 0)) (tn (S 5 0)) (S 9) (S 10) (S 11) (tn (S 8 0)) (-4) (N, -4, nI 0) (60 - tn (N 25))).1 (5 * h + g))) (fun (u : (Nat → Int32)) => [w8 q ad ω0 (sd 0) ω2 (md 0) ω4 (nd 0) ω6 ω7 (hd 0) ω9, wst q sd X, wk q nd N, w3 q md μ0 μ1 μ2, w0 q hd τ0 τ1 τ2 τ3 (fd 0), wk q fd u])) 0 0 := by
  refine x_enter (cc := cX8_house) (maxL := 4) (ret := (some .int)) (by decide) rfl (Nat.le_of_ble_eq_true rfl) ?_
  intro p e s m below meth c A ls H locs hfix hr hlocks hinit hM hl
  obtain ⟨hx, hb, hml, hown, hts⟩ := id hfix
  have hl : lv_has ls 4 [(0, .ref (ad 0)), (1, .int (nI h)), (2, .int (nI g)), (3, .int (nI what))] := hl
  have hTb0 := okT_0b hT
  have hTb1 := okT_1b hT
  have hTb2 := okT_2b hT
  have hTb3 := okT_3b hT
  have hTb4 := okT_4b hT
  have hK25 := hK.1.2
  have hK26 := hK.2.1.2
  refine lv_aload_n hx hb dX8_house_0 rfl (lv_at hl 0 rfl) ?_
  refine x_get hx hb hts iwX8_house_X8 hown hM 0 0 rfl rfl rfl 1 (by decide) (hts _ lkX8_house_19) (fun _ h => h) rfl dX8_house_1 ?_
  refine lv_iload_n hx hb dX8_house_4 rfl (lv_at hl 1 rfl) ?_
  refine x_calli (bc := [wst q sd X]) (br := [w8 q ad ω0 (sd 0) ω2 (md 0) ω4 (nd 0) ω6 ω7 (hd 0) ω9, wk q nd N, w3 q md μ0 μ1 μ2, w0 q hd τ0 τ1 τ2 τ3 (fd 0), wk q fd F]) hM [1] [0, 2, 3, 4, 5] rfl rfl rfl (by decide) (x_runV (As := [.int (nI h)]) (rest := []) hfix (c_X7_isHouse l D q sd X S (nI h) ((h : Nat) : Int) hT (nI_toInt (n := h) (by omega))) (cwV 1 hts gX8_house_X7_isHouse rfl rfl rfl (by decide +kernel) ⟨Nat.le_of_ble_eq_true rfl, Nat.le_of_ble_eq_true rfl⟩) hM [1] rfl rfl 1 0 rfl rfl rfl rfl rfl hl.1 rfl (Nat.le_of_ble_eq_true rfl) dX8_house_5 ⟨Nat.le_of_ble_eq_true rfl, Nat.le_of_ble_eq_true rfl⟩) (fun r u H locs hq hM => ?_)
  subst hq
  have hM : xM D (TY q) [w8 q ad ω0 (sd 0) ω2 (md 0) ω4 (nd 0) ω6 ω7 (hd 0) ω9, wk q nd N, w3 q md μ0 μ1 μ2, w0 q hd τ0 τ1 τ2 τ3 (fd 0), wk q fd F, wst q sd X] A s.heap s H locs := hM
  have hM : xM D (TY q) [w8 q ad ω0 (sd 0) ω2 (md 0) ω4 (nd 0) ω6 ω7 (hd 0) ω9, wst q sd X, wk q nd N, w3 q md μ0 μ1 μ2, w0 q hd τ0 τ1 τ2 τ3 (fd 0), wk q fd F] A s.heap s H locs := hM.sel [0, 5, 1, 2, 3, 4] rfl rfl
  refine x_ifz_eq (P := 0 ≤ ((h : Nat) : Int) ∧ ((h : Nat) : Int) < (tn (S 5 0))) (tgt := 31) hx hb dX8_house_8 (by decide) (fun c1 => ?_) (fun c1 => ?_)
  · exfalso; omega
  · refine lv_aload_n hx hb dX8_house_11 rfl (lv_at hl 0 rfl) ?_
    refine x_get hx hb hts iwX8_house_X8 hown hM 0 0 rfl rfl rfl 1 (by decide) (hts _ lkX8_house_19) (fun _ h => h) rfl dX8_house_12 ?_
    refine lv_iload_n hx hb dX8_house_15 rfl (lv_at hl 2 rfl) ?_
    refine x_calli (bc := [wst q sd X]) (br := [w8 q ad ω0 (sd 0) ω2 (md 0) ω4 (nd 0) ω6 ω7 (hd 0) ω9, wk q nd N, w3 q md μ0 μ1 μ2, w0 q hd τ0 τ1 τ2 τ3 (fd 0), wk q fd F]) hM [1] [0, 2, 3, 4, 5] rfl rfl rfl (by decide) (x_runV (As := [.int (nI g)]) (rest := []) hfix (c_X7_isGood l D q sd X S (nI g) ((g : Nat) : Int) hT (nI_toInt (n := g) (by omega))) (cwV 1 hts gX8_house_X7_isGood rfl rfl rfl (by decide +kernel) ⟨Nat.le_of_ble_eq_true rfl, Nat.le_of_ble_eq_true rfl⟩) hM [1] rfl rfl 1 0 rfl rfl rfl rfl rfl hl.1 rfl (Nat.le_of_ble_eq_true rfl) dX8_house_16 ⟨Nat.le_of_ble_eq_true rfl, Nat.le_of_ble_eq_true rfl⟩) (fun r u H locs hq hM => ?_)
    subst hq
    have hM : xM D (TY q) [w8 q ad ω0 (sd 0) ω2 (md 0) ω4 (nd 0) ω6 ω7 (hd 0) ω9, wk q nd N, w3 q md μ0 μ1 μ2, w0 q hd τ0 τ1 τ2 τ3 (fd 0), wk q fd F, wst q sd X] A s.heap s H locs := hM
    have hM : xM D (TY q) [w8 q ad ω0 (sd 0) ω2 (md 0) ω4 (nd 0) ω6 ω7 (hd 0) ω9, wst q sd X, wk q nd N, w3 q md μ0 μ1 μ2, w0 q hd τ0 τ1 τ2 τ3 (fd 0), wk q fd F] A s.heap s H locs := hM.sel [0, 5, 1, 2, 3, 4] rfl rfl
    refine x_ifz_eq (P := 0 ≤ ((g : Nat) : Int) ∧ ((g : Nat) : Int) < (tn (S 2 0))) (tgt := 31) hx hb dX8_house_19 (by decide) (fun c2 => ?_) (fun c2 => ?_)
    · exfalso; omega
    · refine lv_iload_n hx hb dX8_house_22 rfl (lv_at hl 3 rfl) ?_
      refine lv_iconst (v := nI 0) hx hb dX8_house_23 (by decide) ?_
      refine lv_iconst (v := nI 2) hx hb dX8_house_24 (by decide) ?_
      refine x_calli (bc := []) (br := [w8 q ad ω0 (sd 0) ω2 (md 0) ω4 (nd 0) ω6 ω7 (hd 0) ω9, wst q sd X, wk q nd N, w3 q md μ0 μ1 μ2, w0 q hd τ0 τ1 τ2 τ3 (fd 0), wk q fd F]) hM [] [0, 1, 2, 3, 4, 5] rfl rfl rfl (by decide) (x_runS (As := [.int (nI what), .int (nI 0), .int (nI 2)]) (rest := []) hfix (c_X8_within l D q (nI what) (nI 0) (nI 2) ((what : Nat) : Int) (0 : Int) (2 : Int) (nI_toInt (n := what) (by omega)) (nI_toInt (n := 0) (by decide)) (nI_toInt (n := 2) (by decide))) (va_cwS 3 hts gX8_house_X8_within rfl rfl rfl (by decide +kernel) ⟨Nat.le_of_ble_eq_true rfl, Nat.le_of_ble_eq_true rfl⟩) hM [] rfl rfl rfl hl.1 rfl (Nat.le_of_ble_eq_true rfl) dX8_house_25 ⟨Nat.le_of_ble_eq_true rfl, Nat.le_of_ble_eq_true rfl⟩) (fun r u H locs hq hM => ?_)
      subst hq
      have hM : xM D (TY q) [w8 q ad ω0 (sd 0) ω2 (md 0) ω4 (nd 0) ω6 ω7 (hd 0) ω9, wst q sd X, wk q nd N, w3 q md μ0 μ1 μ2, w0 q hd τ0 τ1 τ2 τ3 (fd 0), wk q fd F] A s.heap s H locs := hM
      refine x_ifz_ne (P := (0 : Int) ≤ ((what : Nat) : Int) ∧ ((what : Nat) : Int) ≤ (2 : Int)) (tgt := 33) hx hb dX8_house_28 (by decide) (fun c3 => ?_) (fun c3 => ?_)
      · refine lv_iload_n hx hb dX8_house_33 rfl (lv_at hl 3 rfl) ?_
        refine x_if_ne (x := what) (tgt := 47) hx hb (by omega) dX8_house_34 (by decide) (fun c4 => ?_) (fun c4 => ?_)
        · refine lv_iload_n hx hb dX8_house_47 rfl (lv_at hl 3 rfl) ?_
          refine lv_iconst (v := nI 1) hx hb dX8_house_48 (by decide) ?_
          refine x_icmp_ne (x := what) (y := 1) (tgt := 66) hx hb (by omega) (by omega) dX8_house_49 (by decide) (fun c5 => ?_) (fun c5 => ?_)
          · refine lv_aload_n hx hb dX8_house_66 rfl (lv_at hl 0 rfl) ?_
            refine x_get hx hb hts iwX8_house_X8 hown hM 0 0 rfl rfl rfl 8 (by decide) (hts _ lkX8_house_58) (fun _ h => h) rfl dX8_house_67 ?_
            refine lv_aload_n hx hb dX8_house_70 rfl (lv_at hl 0 rfl) ?_
            refine x_get hx hb hts iwX8_house_X8 hown hM 0 0 rfl rfl rfl 1 (by decide) (hts _ lkX8_house_19) (fun _ h => h) rfl dX8_house_71 ?_
            refine lv_aload_n hx hb dX8_house_74 rfl (lv_at hl 0 rfl) ?_
            refine x_get hx hb hts iwX8_house_X8 hown hM 0 0 rfl rfl rfl 5 (by decide) (hts _ lkX8_house_39) (fun _ h => h) rfl dX8_house_75 ?_
            refine lv_aload_n hx hb dX8_house_78 rfl (lv_at hl 0 rfl) ?_
            refine x_get hx hb hts iwX8_house_X8 hown hM 0 0 rfl rfl rfl 3 (by decide) (hts _ lkX8_house_29) (fun _ h => h) rfl dX8_house_79 ?_
            refine x_callr (bc := [w0 q hd τ0 τ1 τ2 τ3 (fd 0), wst q sd X, wk q nd N, w3 q md μ0 μ1 μ2, wk q fd F]) (br := [w8 q ad ω0 (sd 0) ω2 (md 0) ω4 (nd 0) ω6 ω7 (hd 0) ω9]) hM [4, 1, 2, 3, 5] [0] rfl rfl rfl (by decide) (x_runV (As := [.ref (sd 0), .ref (nd 0), .ref (md 0)]) (rest := []) hfix (c_X0_look l D q hd τ0 τ1 τ2 τ3 (fd 0) sd X nd N md μ0 μ1 μ2 fd F S (-4) hT hMl hK) (cwV 3 hts gX8_house_X0_look rfl rfl rfl (by decide +kernel) ⟨Nat.le_of_ble_eq_true rfl, Nat.le_of_ble_eq_true rfl⟩) hM [4, 1, 2, 3, 5] rfl rfl 4 0 rfl rfl rfl rfl rfl hl.1 rfl (Nat.le_of_ble_eq_true rfl) dX8_house_82 ⟨Nat.le_of_ble_eq_true rfl, Nat.le_of_ble_eq_true rfl⟩) (fun u H locs hq hM => ?_)
            have hM : xM D (TY q) [w8 q ad ω0 (sd 0) ω2 (md 0) ω4 (nd 0) ω6 ω7 (hd 0) ω9, w0 q hd τ0 τ1 τ2 τ3 (fd 0), wst q sd X, wk q nd N, w3 q md μ0 μ1 μ2, wk q fd (kGoN (S 4) (tn (S 2 0)) (tn (S 5 0)) (S 9) (S 10) (S 11) (tn (S 8 0)) (-4) (N, -4, nI 0) (60 - tn (N 25))).1] A s.heap s H locs := hM
            have hM : xM D (TY q) [w8 q ad ω0 (sd 0) ω2 (md 0) ω4 (nd 0) ω6 ω7 (hd 0) ω9, wst q sd X, wk q nd N, w3 q md μ0 μ1 μ2, w0 q hd τ0 τ1 τ2 τ3 (fd 0), wk q fd (kGoN (S 4) (tn (S 2 0)) (tn (S 5 0)) (S 9) (S 10) (S 11) (tn (S 8 0)) (-4) (N, -4, nI 0) (60 - tn (N 25))).1] A s.heap s H locs := hM.sel [0, 2, 3, 4, 1, 5] rfl rfl
            refine lv_aload_n hx hb dX8_house_85 rfl (lv_at hl 0 rfl) ?_
            refine x_get hx hb hts iwX8_house_X8 hown hM 0 0 rfl rfl rfl 1 (by decide) (hts _ lkX8_house_19) (fun _ h => h) rfl dX8_house_86 ?_
            refine lv_iload_n hx hb dX8_house_89 rfl (lv_at hl 1 rfl) ?_
            refine lv_iload_n hx hb dX8_house_90 rfl (lv_at hl 2 rfl) ?_
            refine x_calli (bc := [wk q fd (kGoN (S 4) (tn (S 2 0)) (tn (S 5 0)) (S 9) (S 10) (S 11) (tn (S 8 0)) (-4) (N, -4, nI 0) (60 - tn (N 25))).1, wst q sd X]) (br := [w8 q ad ω0 (sd 0) ω2 (md 0) ω4 (nd 0) ω6 ω7 (hd 0) ω9, wk q nd N, w3 q md μ0 μ1 μ2, w0 q hd τ0 τ1 τ2 τ3 (fd 0)]) hM [5, 1] [0, 2, 3, 4] rfl rfl rfl (by decide) (x_runV (As := [.ref (sd 0), .int (nI h), .int (nI g)]) (rest := []) hfix (c_X1_leftOf l D q fd (kGoN (S 4) (tn (S 2 0)) (tn (S 5 0)) (S 9) (S 10) (S 11) (tn (S 8 0)) (-4) (N, -4, nI 0) (60 - tn (N 25))).1 sd X S h g hT (by omega) (by omega)) (cwV 3 hts gX8_house_X1_leftOf rfl rfl rfl (by decide +kernel) ⟨Nat.le_of_ble_eq_true rfl, Nat.le_of_ble_eq_true rfl⟩) hM [5, 1] rfl rfl 5 0 rfl rfl rfl rfl rfl hl.1 rfl (Nat.le_of_ble_eq_true rfl) dX8_house_91 ⟨Nat.le_of_ble_eq_true rfl, Nat.le_of_ble_eq_true rfl⟩) (fun r u H locs hq hM => ?_)
            subst hq
            have hM : xM D (TY q) [w8 q ad ω0 (sd 0) ω2 (md 0) ω4 (nd 0) ω6 ω7 (hd 0) ω9, wk q nd N, w3 q md μ0 μ1 μ2, w0 q hd τ0 τ1 τ2 τ3 (fd 0), wk q fd (kGoN (S 4) (tn (S 2 0)) (tn (S 5 0)) (S 9) (S 10) (S 11) (tn (S 8 0)) (-4) (N, -4, nI 0) (60 - tn (N 25))).1, wst q sd X] A s.heap s H locs := hM
            have hM : xM D (TY q) [w8 q ad ω0 (sd 0) ω2 (md 0) ω4 (nd 0) ω6 ω7 (hd 0) ω9, wst q sd X, wk q nd N, w3 q md μ0 μ1 μ2, w0 q hd τ0 τ1 τ2 τ3 (fd 0), wk q fd (kGoN (S 4) (tn (S 2 0)) (tn (S 5 0)) (S 9) (S 10) (S 11) (tn (S 8 0)) (-4) (N, -4, nI 0) (60 - tn (N 25))).1] A s.heap s H locs := hM.sel [0, 5, 1, 2, 3, 4] rfl rfl
            exact x_iret hx hb hr hlocks (kGoN (S 4) (tn (S 2 0)) (tn (S 5 0)) (S 9) (S 10) (S 11) (tn (S 8 0)) (-4) (N, -4, nI 0) (60 - tn (N 25))).1 hM (show xlf (S 4 g) ((kGoN (S 4) (tn (S 2 0)) (tn (S 5 0)) (S 9) (S 10) (S 11) (tn (S 8 0)) (-4) (N, -4, nI 0) (60 - tn (N 25))).1 (5 * h + g)) = if what = 0 then N (5 * h + g) else if what = 1 then xlf (S 4 g) (N (5 * h + g)) else xlf (S 4 g) ((kGoN (S 4) (tn (S 2 0)) (tn (S 5 0)) (S 9) (S 10) (S 11) (tn (S 8 0)) (-4) (N, -4, nI 0) (60 - tn (N 25))).1 (5 * h + g)) from by (first | exact (if_pos (by omega)).symm | exact ((if_neg (by omega)).trans (if_pos (by omega))).symm | exact ((if_neg (by omega)).trans (if_neg (by omega))).symm)) dX8_house_94
          · refine lv_aload_n hx hb dX8_house_52 rfl (lv_at hl 0 rfl) ?_
            refine x_get hx hb hts iwX8_house_X8 hown hM 0 0 rfl rfl rfl 5 (by decide) (hts _ lkX8_house_39) (fun _ h => h) rfl dX8_house_53 ?_
            refine lv_aload_n hx hb dX8_house_56 rfl (lv_at hl 0 rfl) ?_
            refine x_get hx hb hts iwX8_house_X8 hown hM 0 0 rfl rfl rfl 1 (by decide) (hts _ lkX8_house_19) (fun _ h => h) rfl dX8_house_57 ?_
            refine lv_iload_n hx hb dX8_house_60 rfl (lv_at hl 1 rfl) ?_
            refine lv_iload_n hx hb dX8_house_61 rfl (lv_at hl 2 rfl) ?_
            refine x_calli (bc := [wk q nd N, wst q sd X]) (br := [w8 q ad ω0 (sd 0) ω2 (md 0) ω4 (nd 0) ω6 ω7 (hd 0) ω9, w3 q md μ0 μ1 μ2, w0 q hd τ0 τ1 τ2 τ3 (fd 0), wk q fd F]) hM [2, 1] [0, 3, 4, 5] rfl rfl rfl (by decide) (x_runV (As := [.ref (sd 0), .int (nI h), .int (nI g)]) (rest := []) hfix (c_X1_leftOf l D q nd N sd X S h g hT (by omega) (by omega)) (cwV 3 hts gX8_house_X1_leftOf rfl rfl rfl (by decide +kernel) ⟨Nat.le_of_ble_eq_true rfl, Nat.le_of_ble_eq_true rfl⟩) hM [2, 1] rfl rfl 2 0 rfl rfl rfl rfl rfl hl.1 rfl (Nat.le_of_ble_eq_true rfl) dX8_house_62 ⟨Nat.le_of_ble_eq_true rfl, Nat.le_of_ble_eq_true rfl⟩) (fun r u H locs hq hM => ?_)
            subst hq
            have hM : xM D (TY q) [w8 q ad ω0 (sd 0) ω2 (md 0) ω4 (nd 0) ω6 ω7 (hd 0) ω9, w3 q md μ0 μ1 μ2, w0 q hd τ0 τ1 τ2 τ3 (fd 0), wk q fd F, wk q nd N, wst q sd X] A s.heap s H locs := hM
            have hM : xM D (TY q) [w8 q ad ω0 (sd 0) ω2 (md 0) ω4 (nd 0) ω6 ω7 (hd 0) ω9, wst q sd X, wk q nd N, w3 q md μ0 μ1 μ2, w0 q hd τ0 τ1 τ2 τ3 (fd 0), wk q fd F] A s.heap s H locs := hM.sel [0, 5, 4, 1, 2, 3] rfl rfl
            exact x_iret hx hb hr hlocks F hM (show xlf (S 4 g) (N (5 * h + g)) = if what = 0 then N (5 * h + g) else if what = 1 then xlf (S 4 g) (N (5 * h + g)) else xlf (S 4 g) ((kGoN (S 4) (tn (S 2 0)) (tn (S 5 0)) (S 9) (S 10) (S 11) (tn (S 8 0)) (-4) (N, -4, nI 0) (60 - tn (N 25))).1 (5 * h + g)) from by (first | exact (if_pos (by omega)).symm | exact ((if_neg (by omega)).trans (if_pos (by omega))).symm | exact ((if_neg (by omega)).trans (if_neg (by omega))).symm)) dX8_house_65
        · refine lv_aload_n hx hb dX8_house_37 rfl (lv_at hl 0 rfl) ?_
          refine x_get hx hb hts iwX8_house_X8 hown hM 0 0 rfl rfl rfl 5 (by decide) (hts _ lkX8_house_39) (fun _ h => h) rfl dX8_house_38 ?_
          refine lv_iload_n hx hb dX8_house_41 rfl (lv_at hl 1 rfl) ?_
          refine lv_iload_n hx hb dX8_house_42 rfl (lv_at hl 2 rfl) ?_
          refine x_calli (bc := [wk q nd N]) (br := [w8 q ad ω0 (sd 0) ω2 (md 0) ω4 (nd 0) ω6 ω7 (hd 0) ω9, wst q sd X, w3 q md μ0 μ1 μ2, w0 q hd τ0 τ1 τ2 τ3 (fd 0), wk q fd F]) hM [2] [0, 1, 3, 4, 5] rfl rfl rfl (by decide) (x_runV (As := [.int (nI h), .int (nI g)]) (rest := []) hfix (c_X1_piecesOf l D q nd N h g (by omega) (by omega)) (cwV 2 hts gX8_house_X1_piecesOf rfl rfl rfl (by decide +kernel) ⟨Nat.le_of_ble_eq_true rfl, Nat.le_of_ble_eq_true rfl⟩) hM [2] rfl rfl 2 0 rfl rfl rfl rfl rfl hl.1 rfl (Nat.le_of_ble_eq_true rfl) dX8_house_43 ⟨Nat.le_of_ble_eq_true rfl, Nat.le_of_ble_eq_true rfl⟩) (fun r u H locs hq hM => ?_)
          subst hq
          have hM : xM D (TY q) [w8 q ad ω0 (sd 0) ω2 (md 0) ω4 (nd 0) ω6 ω7 (hd 0) ω9, wst q sd X, w3 q md μ0 μ1 μ2, w0 q hd τ0 τ1 τ2 τ3 (fd 0), wk q fd F, wk q nd N] A s.heap s H locs := hM
          have hM : xM D (TY q) [w8 q ad ω0 (sd 0) ω2 (md 0) ω4 (nd 0) ω6 ω7 (hd 0) ω9, wst q sd X, wk q nd N, w3 q md μ0 μ1 μ2, w0 q hd τ0 τ1 τ2 τ3 (fd 0), wk q fd F] A s.heap s H locs := hM.sel [0, 1, 5, 2, 3, 4] rfl rfl
          exact x_iret hx hb hr hlocks F hM (show N (5 * h + g) = if what = 0 then N (5 * h + g) else if what = 1 then xlf (S 4 g) (N (5 * h + g)) else xlf (S 4 g) ((kGoN (S 4) (tn (S 2 0)) (tn (S 5 0)) (S 9) (S 10) (S 11) (tn (S 8 0)) (-4) (N, -4, nI 0) (60 - tn (N 25))).1 (5 * h + g)) from by (first | exact (if_pos (by omega)).symm | exact ((if_neg (by omega)).trans (if_pos (by omega))).symm | exact ((if_neg (by omega)).trans (if_neg (by omega))).symm)) dX8_house_46
      · exfalso; omega
