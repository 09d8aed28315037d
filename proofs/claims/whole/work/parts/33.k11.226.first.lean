set_option maxRecDepth 20000 in
theorem ggX8_first_X8_within : GoodIn wsX8_first wsX8_within := goodIn_r _ [8] (by decide +kernel) (by decide +kernel)
set_option maxRecDepth 20000 in
theorem gX8_first_X8_within : GoodIn wsX8_first (va_wsS RX8 91 yX8_within wsX8_within) := goodIn_app (goodIn_of _ (by decide +kernel)) ggX8_first_X8_within
set_option maxRecDepth 20000 in
theorem ggX8_first_X0_lookForHunger : GoodIn wsX8_first wsX0_lookForHunger := goodIn_r _ [13, 14, 15, 16, 17, 18, 19, 20, 21, 22, 23, 24, 25, 26, 27, 28, 29, 30, 31, 32, 33, 34, 35, 36, 37, 38, 39, 40, 41, 42, 43, 44, 45, 46, 47, 48, 49, 50, 51, 52, 53, 54, 55, 56, 57, 58, 59, 60, 61, 62, 63, 64, 65, 66, 67, 68, 69, 70, 71, 72, 73, 74, 75, 76, 77, 78, 79, 80, 81, 82, 83, 84, 85, 86, 87, 88, 89, 90, 91, 92, 93, 94, 95, 96, 97, 98, 99, 100, 101, 102, 103, 104, 105, 106, 107, 108, 109, 110, 111, 112, 113, 114, 115, 116, 131, 132, 133, 134, 135, 136, 137, 138, 139, 140, 141, 142, 143, 144, 145, 146, 147, 148, 149, 150, 151, 152, 153, 154, 155, 156, 157, 158, 159, 160] (by decide +kernel) (by decide +kernel)
set_option maxRecDepth 20000 in
theorem gX8_first_X0_lookForHunger : GoodIn wsX8_first (wsV RX8 176 RX0 yX0_lookForHunger wsX0_lookForHunger) := goodIn_app (goodIn_of _ (by decide +kernel)) ggX8_first_X0_lookForHunger
set_option maxRecDepth 20000 in
theorem ggX8_first_X0_minute : GoodIn wsX8_first wsX0_minute := goodIn_r _ [120, 14, 15, 131, 132, 133, 134, 135, 136, 137, 138, 139, 140, 141] (by decide +kernel) (by decide +kernel)
set_option maxRecDepth 20000 in
theorem gX8_first_X0_minute : GoodIn wsX8_first (wsV RX8 180 RX0 yX0_minute wsX0_minute) := goodIn_app (goodIn_of _ (by decide +kernel)) ggX8_first_X0_minute
theorem dX8_first_0 : decode cX8_first 0 = .ok (.iload_n 1, 1) := by decide +kernel
theorem dX8_first_1 : decode cX8_first 1 = .ok (.iconst 0, 1) := by decide +kernel
theorem dX8_first_2 : decode cX8_first 2 = .ok (.iconst 1, 1) := by decide +kernel
theorem dX8_first_3 : decode cX8_first 3 = .ok (.invokestatic 91, 3) := by decide +kernel
theorem dX8_first_6 : decode cX8_first 6 = .ok (.ifCond .ne 5, 3) := by decide +kernel
theorem dX8_first_9 : decode cX8_first 9 = .ok (.iconst (-1), 1) := by decide +kernel
theorem dX8_first_10 : decode cX8_first 10 = .ok (.ireturn, 1) := by decide +kernel
theorem dX8_first_11 : decode cX8_first 11 = .ok (.aload_n 0, 1) := by decide +kernel
theorem dX8_first_12 : decode cX8_first 12 = .ok (.getfield 58, 3) := by decide +kernel
theorem dX8_first_15 : decode cX8_first 15 = .ok (.aload_n 0, 1) := by decide +kernel
theorem dX8_first_16 : decode cX8_first 16 = .ok (.getfield 19, 3) := by decide +kernel
theorem dX8_first_19 : decode cX8_first 19 = .ok (.aload_n 0, 1) := by decide +kernel
theorem dX8_first_20 : decode cX8_first 20 = .ok (.getfield 39, 3) := by decide +kernel
theorem dX8_first_23 : decode cX8_first 23 = .ok (.aload_n 0, 1) := by decide +kernel
theorem dX8_first_24 : decode cX8_first 24 = .ok (.getfield 29, 3) := by decide +kernel
theorem dX8_first_27 : decode cX8_first 27 = .ok (.invokevirtual 176, 3) := by decide +kernel
theorem dX8_first_30 : decode cX8_first 30 = .ok (.istore_n 2, 1) := by decide +kernel
theorem dX8_first_31 : decode cX8_first 31 = .ok (.iload_n 2, 1) := by decide +kernel
theorem dX8_first_32 : decode cX8_first 32 = .ok (.ifCond .ge 6, 3) := by decide +kernel
theorem dX8_first_35 : decode cX8_first 35 = .ok (.bipush (-4), 2) := by decide +kernel
theorem dX8_first_37 : decode cX8_first 37 = .ok (.ireturn, 1) := by decide +kernel
theorem dX8_first_38 : decode cX8_first 38 = .ok (.iload_n 1, 1) := by decide +kernel
theorem dX8_first_39 : decode cX8_first 39 = .ok (.ifCond .ne 13, 3) := by decide +kernel
theorem dX8_first_42 : decode cX8_first 42 = .ok (.aload_n 0, 1) := by decide +kernel
theorem dX8_first_43 : decode cX8_first 43 = .ok (.getfield 58, 3) := by decide +kernel
theorem dX8_first_46 : decode cX8_first 46 = .ok (.invokevirtual 180, 3) := by decide +kernel
theorem dX8_first_49 : decode cX8_first 49 = .ok (.goto 4, 3) := by decide +kernel
theorem dX8_first_52 : decode cX8_first 52 = .ok (.iload_n 2, 1) := by decide +kernel
theorem dX8_first_53 : decode cX8_first 53 = .ok (.ireturn, 1) := by decide +kernel
theorem lkX8_first_19 : Cond.fieldLink RX8 19 "LeftAtFive" "street" "LLeftAtFive$Street;" ∈ wsX8_first := by decide +kernel
theorem lkX8_first_29 : Cond.fieldLink RX8 29 "LeftAtFive" "meals" "LLeftAtFive$Meals;" ∈ wsX8_first := by decide +kernel
theorem lkX8_first_39 : Cond.fieldLink RX8 39 "LeftAtFive" "now" "LLeftAtFive$Kitchens;" ∈ wsX8_first := by decide +kernel
theorem lkX8_first_58 : Cond.fieldLink RX8 58 "LeftAtFive" "ahead" "LLeftAtFive$Ahead;" ∈ wsX8_first := by decide +kernel
theorem iwX8_first_X8 : ∀ w ∈ wsX80, w ∈ wsX8_first := by decide +kernel
set_option maxHeartbeats 2000000 in
set_option maxRecDepth 100000 in
theorem c_X8_first (l : Launch) (D : va_G) (q : Nat → ClassId) (ad : Nat → Nat) (ω0 : Nat) (ω1 : Nat) (ω2 : Nat) (ω3 : Nat) (ω4 : Nat) (ω5 : Nat) (ω6 : Nat) (ω7 : Nat) (ω8 : Nat) (ω9 : Nat) (sd : Nat → Nat) (X : Nat → Nat → Int32) (nd : Nat → Nat) (N : Nat → Int32) (md : Nat → Nat) (μ0 : Nat → Int32) (μ1 : Nat → Int32) (μ2 : Int32) (hd : Nat → Nat) (τ0 : Int32) (τ1 : Int32) (τ2 : Int32) (τ3 : Int32) (τ4 : Nat) (fd : Nat → Nat) (F : Nat → Int32) (S : Nat → Nat → Int32) (what : Nat) (hT : okT X S) (hK : okK N) (hMl : okM μ0 μ1 (S 11) (tn (S 8 0)) (-4)) (hwhat9 : what ≤ 1) : xC l yX8_first wsX8_first ({ frames := 5, cells := 0, slots := 0, locals := 118 }) D (TY q) [w8 q ad ω0 (sd 0) ω2 (md 0) ω4 (nd 0) ω6 ω7 (hd 0) ω9, wst q sd X, wk q nd N, w3 q md μ0 μ1 μ2, w0 q hd τ0 τ1 τ2 τ3 (fd 0), wk q fd F] [.ref (ad 0), .int (nI what)] (xQi D (TY q) (fun (r : Int32) (u : Nat) => r = (if xhun (kGoN (S 4) (tn (S 2 0)) (tn (S 5 0)) (S 9) (S 10) (S 11) (tn (S 8 0)) (-4) (N, -4, nI 0) u).1 N 8 < 0 then (-4) else if what = 0 then (kGoN (S 4) (tn (S 2 0)) (tn (S 5 0)) (S 9) (S 10) (S 11) (tn (S 8 0)) (-4) (N, -4, nI 0) u).1 25 else xhun (kGoN (S 4) (tn (S 2 0)) (tn (S 5 0)) (S 9) (S 10) (S 11) (tn (S 8 0)) (-4) (N, -4, nI 0) u).1 N 8) ∧ u ≤ 60 - tn (N 25) ∧ (∀ j, 1 ≤ j → j < u → xhun (kGoN (S 4) (tn (S 2 0)) (tn (S 5 0)) (S 9) (S 10) (S 11) (tn (S 8 0)) (-4) (N, -4, nI 0) j).1 N 8 < 0) ∧ (xhun (kGoN (S 4) (tn (S 2 0)) (tn (S 5 0)) (S 9) (S 10) (S 11) (tn (S 8 0)) (-4) (N, -4, nI 0) u).1 N 8 < 0 → u = 60 - tn (N 25))) (fun (u : Nat) => [w8 q ad ω0 (sd 0) ω2 (md 0) ω4 (nd 0) ω6 ω7 (hd 0) ω9, wst q sd X, wk q nd N, w3 q md μ0 μ1 μ2, w0 q hd τ0 τ1 τ2 τ3 (fd 0), wk q fd (kGoN (S 4) (tn (S 2 0)) (tn (S 5 0)) (S 9) (S 10) (S 11) (tn (S 8 0)) (-4) (N, -4, nI 0) u).1])) 0 0 := by
  refine x_enter (cc := cX8_first) (maxL := 3) (ret := (some .int)) (by decide) rfl (Nat.le_of_ble_eq_true rfl) ?_
  intro p e s m below meth c A ls H locs hfix hr hlocks hinit hM hl
  obtain ⟨hx, hb, hml, hown, hts⟩ := id hfix
  have hl : lv_has ls 3 [(0, .ref (ad 0)), (1, .int (nI what))] := hl
  have hTb0 := okT_0b hT
  have hTb1 := okT_1b hT
  have hTb2 := okT_2b hT
  have hTb3 := okT_3b hT
  have hTb4 := okT_4b hT
  have hK25 := hK.1.2
  have hK26 := hK.2.1.2
  refine lv_iload_n hx hb dX8_first_0 rfl (lv_at hl 1 rfl) ?_
  refine lv_iconst (v := nI 0) hx hb dX8_first_1 (by decide) ?_
  refine lv_iconst (v := nI 1) hx hb dX8_first_2 (by decide) ?_
  refine x_calli (bc := []) (br := [w8 q ad ω0 (sd 0) ω2 (md 0) ω4 (nd 0) ω6 ω7 (hd 0) ω9, wst q sd X, wk q nd N, w3 q md μ0 μ1 μ2, w0 q hd τ0 τ1 τ2 τ3 (fd 0), wk q fd F]) hM [] [0, 1, 2, 3, 4, 5] rfl rfl rfl (by decide) (x_runS (As := [.int (nI what), .int (nI 0), .int (nI 1)]) (rest := []) hfix (c_X8_within l D q (nI what) (nI 0) (nI 1) ((what : Nat) : Int) (0 : Int) (1 : Int) (nI_toInt (n := what) (by omega)) (nI_toInt (n := 0) (by decide)) (nI_toInt (n := 1) (by decide))) (va_cwS 3 hts gX8_first_X8_within rfl rfl rfl (by decide +kernel) ⟨Nat.le_of_ble_eq_true rfl, Nat.le_of_ble_eq_true rfl⟩) hM [] rfl rfl rfl hl.1 rfl (Nat.le_of_ble_eq_true rfl) dX8_first_3 ⟨Nat.le_of_ble_eq_true rfl, Nat.le_of_ble_eq_true rfl⟩) (fun r u H locs hq hM => ?_)
  subst hq
  have hM : xM D (TY q) [w8 q ad ω0 (sd 0) ω2 (md 0) ω4 (nd 0) ω6 ω7 (hd 0) ω9, wst q sd X, wk q nd N, w3 q md μ0 μ1 μ2, w0 q hd τ0 τ1 τ2 τ3 (fd 0), wk q fd F] A s.heap s H locs := hM
  refine x_ifz_ne (P := (0 : Int) ≤ ((what : Nat) : Int) ∧ ((what : Nat) : Int) ≤ (1 : Int)) (tgt := 11) hx hb dX8_first_6 (by decide) (fun c1 => ?_) (fun c1 => ?_)
  · refine lv_aload_n hx hb dX8_first_11 rfl (lv_at hl 0 rfl) ?_
    refine x_get hx hb hts iwX8_first_X8 hown hM 0 0 rfl rfl rfl 8 (by decide) (hts _ lkX8_first_58) (fun _ h => h) rfl dX8_first_12 ?_
    refine lv_aload_n hx hb dX8_first_15 rfl (lv_at hl 0 rfl) ?_
    refine x_get hx hb hts iwX8_first_X8 hown hM 0 0 rfl rfl rfl 1 (by decide) (hts _ lkX8_first_19) (fun _ h => h) rfl dX8_first_16 ?_
    refine lv_aload_n hx hb dX8_first_19 rfl (lv_at hl 0 rfl) ?_
    refine x_get hx hb hts iwX8_first_X8 hown hM 0 0 rfl rfl rfl 5 (by decide) (hts _ lkX8_first_39) (fun _ h => h) rfl dX8_first_20 ?_
    refine lv_aload_n hx hb dX8_first_23 rfl (lv_at hl 0 rfl) ?_
    refine x_get hx hb hts iwX8_first_X8 hown hM 0 0 rfl rfl rfl 3 (by decide) (hts _ lkX8_first_29) (fun _ h => h) rfl dX8_first_24 ?_
    refine x_calli (bc := [w0 q hd τ0 τ1 τ2 τ3 (fd 0), wst q sd X, wk q nd N, w3 q md μ0 μ1 μ2, wk q fd F]) (br := [w8 q ad ω0 (sd 0) ω2 (md 0) ω4 (nd 0) ω6 ω7 (hd 0) ω9]) hM [4, 1, 2, 3, 5] [0] rfl rfl rfl (by decide) (x_runV (As := [.ref (sd 0), .ref (nd 0), .ref (md 0)]) (rest := []) hfix (c_X0_lookForHunger l D q hd τ0 τ1 τ2 τ3 (fd 0) sd X nd N md μ0 μ1 μ2 fd F S (-4) hT hMl hK) (cwV 3 hts gX8_first_X0_lookForHunger rfl rfl rfl (by decide +kernel) ⟨Nat.le_of_ble_eq_true rfl, Nat.le_of_ble_eq_true rfl⟩) hM [4, 1, 2, 3, 5] rfl rfl 4 0 rfl rfl rfl rfl rfl hl.1 rfl (Nat.le_of_ble_eq_true rfl) dX8_first_27 ⟨Nat.le_of_ble_eq_true rfl, Nat.le_of_ble_eq_true rfl⟩) (fun r u H locs hq hM => ?_)
    obtain ⟨hq, hqx⟩ := hq
    have hq := hq.symm
    subst hq
    obtain ⟨uk2, hex⟩ : ∃ z, z = u := ⟨_, rfl⟩; subst hex
    have hM : xM D (TY q) [w8 q ad ω0 (sd 0) ω2 (md 0) ω4 (nd 0) ω6 ω7 (hd 0) ω9, w0 q hd τ0 τ1 τ2 τ3 (fd 0), wst q sd X, wk q nd N, w3 q md μ0 μ1 μ2, wk q fd (kGoN (S 4) (tn (S 2 0)) (tn (S 5 0)) (S 9) (S 10) (S 11) (tn (S 8 0)) (-4) (N, -4, nI 0) uk2).1] A s.heap s H locs := hM
    have hM : xM D (TY q) [w8 q ad ω0 (sd 0) ω2 (md 0) ω4 (nd 0) ω6 ω7 (hd 0) ω9, wst q sd X, wk q nd N, w3 q md μ0 μ1 μ2, w0 q hd τ0 τ1 τ2 τ3 (fd 0), wk q fd (kGoN (S 4) (tn (S 2 0)) (tn (S 5 0)) (S 9) (S 10) (S 11) (tn (S 8 0)) (-4) (N, -4, nI 0) uk2).1] A s.heap s H locs := hM.sel [0, 2, 3, 4, 1, 5] rfl rfl
    have hx9 : uk2 ≤ (60 - tn (N 25)) ∧ (∀ j, 1 ≤ j → j < uk2 → xhun (kGoN (S 4) (tn (S 2 0)) (tn (S 5 0)) (S 9) (S 10) (S 11) (tn (S 8 0)) (-4) (N, -4, nI 0) j).1 N 8 < 0) ∧ (xhun (kGoN (S 4) (tn (S 2 0)) (tn (S 5 0)) (S 9) (S 10) (S 11) (tn (S 8 0)) (-4) (N, -4, nI 0) uk2).1 N 8 < 0 → uk2 = (60 - tn (N 25))) := hqx
    obtain ⟨wx, hwx⟩ : ∃ y, y = xhun (kGoN (S 4) (tn (S 2 0)) (tn (S 5 0)) (S 9) (S 10) (S 11) (tn (S 8 0)) (-4) (N, -4, nI 0) uk2).1 N 8 := ⟨_, rfl⟩
    refine x_cast (y := wx) (hwx.symm) ?_
    refine lv_istore_n (lv' := [(2, .int wx), (0, .ref (ad 0)), (1, .int (nI what))]) hx hb dX8_first_30 rfl hl (by decide) rfl (fun ls hl => ?_)
    refine lv_iload_n hx hb dX8_first_31 rfl (lv_at hl 0 rfl) ?_
    refine lv_if_ge (tgt := 38) hx hb dX8_first_32 (by decide) (fun c4 => ?_) (fun c4 => ?_)
    · have hw9 : ¬ wx < 0 := Int32.not_lt.mpr (by assumption)
      refine lv_iload_n hx hb dX8_first_38 rfl (lv_at hl 2 rfl) ?_
      refine x_if_ne (x := what) (tgt := 52) hx hb (by omega) dX8_first_39 (by decide) (fun c5 => ?_) (fun c5 => ?_)
      · refine lv_iload_n hx hb dX8_first_52 rfl (lv_at hl 0 rfl) ?_
        exact x_iret hx hb hr hlocks uk2 hM ⟨(show wx = if xhun (kGoN (S 4) (tn (S 2 0)) (tn (S 5 0)) (S 9) (S 10) (S 11) (tn (S 8 0)) (-4) (N, -4, nI 0) uk2).1 N 8 < 0 then (-4) else if what = 0 then (kGoN (S 4) (tn (S 2 0)) (tn (S 5 0)) (S 9) (S 10) (S 11) (tn (S 8 0)) (-4) (N, -4, nI 0) uk2).1 25 else xhun (kGoN (S 4) (tn (S 2 0)) (tn (S 5 0)) (S 9) (S 10) (S 11) (tn (S 8 0)) (-4) (N, -4, nI 0) uk2).1 N 8 from by (rw [← hwx, if_neg hw9]; first | rw [if_pos (c := what = 0) (by omega)] | rw [if_neg (c := what = 0) (by omega)])), (show uk2 ≤ 60 - tn (N 25) ∧ (∀ j, 1 ≤ j → j < uk2 → xhun (kGoN (S 4) (tn (S 2 0)) (tn (S 5 0)) (S 9) (S 10) (S 11) (tn (S 8 0)) (-4) (N, -4, nI 0) j).1 N 8 < 0) ∧ (xhun (kGoN (S 4) (tn (S 2 0)) (tn (S 5 0)) (S 9) (S 10) (S 11) (tn (S 8 0)) (-4) (N, -4, nI 0) uk2).1 N 8 < 0 → uk2 = 60 - tn (N 25)) from by exact hx9)⟩ dX8_first_53
      · refine lv_aload_n hx hb dX8_first_42 rfl (lv_at hl 1 rfl) ?_
        refine x_get hx hb hts iwX8_first_X8 hown hM 0 0 rfl rfl rfl 8 (by decide) (hts _ lkX8_first_58) (fun _ h => h) rfl dX8_first_43 ?_
        refine x_calli (bc := [w0 q hd τ0 τ1 τ2 τ3 (fd 0), wk q fd (kGoN (S 4) (tn (S 2 0)) (tn (S 5 0)) (S 9) (S 10) (S 11) (tn (S 8 0)) (-4) (N, -4, nI 0) uk2).1]) (br := [w8 q ad ω0 (sd 0) ω2 (md 0) ω4 (nd 0) ω6 ω7 (hd 0) ω9, wst q sd X, wk q nd N, w3 q md μ0 μ1 μ2]) hM [4, 5] [0, 1, 2, 3] rfl rfl rfl (by decide) (x_runV (As := []) (rest := []) hfix (c_X0_minute l D q hd τ0 τ1 τ2 τ3 (fd 0) fd (kGoN (S 4) (tn (S 2 0)) (tn (S 5 0)) (S 9) (S 10) (S 11) (tn (S 8 0)) (-4) (N, -4, nI 0) uk2).1) (cwV 0 hts gX8_first_X0_minute rfl rfl rfl (by decide +kernel) ⟨Nat.le_of_ble_eq_true rfl, Nat.le_of_ble_eq_true rfl⟩) hM [4, 5] rfl rfl 4 0 rfl rfl rfl rfl rfl hl.1 rfl (Nat.le_of_ble_eq_true rfl) dX8_first_46 ⟨Nat.le_of_ble_eq_true rfl, Nat.le_of_ble_eq_true rfl⟩) (fun r u H locs hq hM => ?_)
        subst hq
        have hM : xM D (TY q) [w8 q ad ω0 (sd 0) ω2 (md 0) ω4 (nd 0) ω6 ω7 (hd 0) ω9, wst q sd X, wk q nd N, w3 q md μ0 μ1 μ2, w0 q hd τ0 τ1 τ2 τ3 (fd 0), wk q fd (kGoN (S 4) (tn (S 2 0)) (tn (S 5 0)) (S 9) (S 10) (S 11) (tn (S 8 0)) (-4) (N, -4, nI 0) uk2).1] A s.heap s H locs := hM
        refine lv_goto (tgt := 53) hx hb dX8_first_49 (by decide) ?_
        exact x_iret hx hb hr hlocks uk2 hM ⟨(show (kGoN (S 4) (tn (S 2 0)) (tn (S 5 0)) (S 9) (S 10) (S 11) (tn (S 8 0)) (-4) (N, -4, nI 0) uk2).1 25 = if xhun (kGoN (S 4) (tn (S 2 0)) (tn (S 5 0)) (S 9) (S 10) (S 11) (tn (S 8 0)) (-4) (N, -4, nI 0) uk2).1 N 8 < 0 then (-4) else if what = 0 then (kGoN (S 4) (tn (S 2 0)) (tn (S 5 0)) (S 9) (S 10) (S 11) (tn (S 8 0)) (-4) (N, -4, nI 0) uk2).1 25 else xhun (kGoN (S 4) (tn (S 2 0)) (tn (S 5 0)) (S 9) (S 10) (S 11) (tn (S 8 0)) (-4) (N, -4, nI 0) uk2).1 N 8 from by (rw [← hwx, if_neg hw9]; first | rw [if_pos (c := what = 0) (by omega)] | rw [if_neg (c := what = 0) (by omega)])), (show uk2 ≤ 60 - tn (N 25) ∧ (∀ j, 1 ≤ j → j < uk2 → xhun (kGoN (S 4) (tn (S 2 0)) (tn (S 5 0)) (S 9) (S 10) (S 11) (tn (S 8 0)) (-4) (N, -4, nI 0) j).1 N 8 < 0) ∧ (xhun (kGoN (S 4) (tn (S 2 0)) (tn (S 5 0)) (S 9) (S 10) (S 11) (tn (S 8 0)) (-4) (N, -4, nI 0) uk2).1 N 8 < 0 → uk2 = 60 - tn (N 25)) from by exact hx9)⟩ dX8_first_53
    · have hw9 : wx < 0 := Int32.not_le.mp (by assumption)
      refine lv_bipush (v := (-4)) hx hb dX8_first_35 (by decide) ?_
      exact x_iret hx hb hr hlocks uk2 hM ⟨(show (-4) = if xhun (kGoN (S 4) (tn (S 2 0)) (tn (S 5 0)) (S 9) (S 10) (S 11) (tn (S 8 0)) (-4) (N, -4, nI 0) uk2).1 N 8 < 0 then (-4) else if what = 0 then (kGoN (S 4) (tn (S 2 0)) (tn (S 5 0)) (S 9) (S 10) (S 11) (tn (S 8 0)) (-4) (N, -4, nI 0) uk2).1 25 else xhun (kGoN (S 4) (tn (S 2 0)) (tn (S 5 0)) (S 9) (S 10) (S 11) (tn (S 8 0)) (-4) (N, -4, nI 0) uk2).1 N 8 from by (rw [← hwx]; exact (if_pos hw9).symm)), (show uk2 ≤ 60 - tn (N 25) ∧ (∀ j, 1 ≤ j → j < uk2 → xhun (kGoN (S 4) (tn (S 2 0)) (tn (S 5 0)) (S 9) (S 10) (S 11) (tn (S 8 0)) (-4) (N, -4, nI 0) j).1 N 8 < 0) ∧ (xhun (kGoN (S 4) (tn (S 2 0)) (tn (S 5 0)) (S 9) (S 10) (S 11) (tn (S 8 0)) (-4) (N, -4, nI 0) uk2).1 N 8 < 0 → uk2 = 60 - tn (N 25)) from by exact hx9)⟩ dX8_first_37
  · exfalso; omega
