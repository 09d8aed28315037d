set_option maxRecDepth 20000 in
theorem ggX8_way_X8_within : GoodIn wsX8_way wsX8_within := goodIn_r _ [6] (by decide +kernel) (by decide +kernel)
set_option maxRecDepth 20000 in
theorem gX8_way_X8_within : GoodIn wsX8_way (va_wsS RX8 91 yX8_within wsX8_within) := goodIn_app (goodIn_of _ (by decide +kernel)) ggX8_way_X8_within
set_option maxRecDepth 20000 in
theorem ggX8_way_X1_tellWay : GoodIn wsX8_way wsX1_tellWay := goodIn_r _ [11, 12, 13, 14, 15, 16, 27, 28, 29, 30, 31, 32] (by decide +kernel) (by decide +kernel)
set_option maxRecDepth 20000 in
theorem gX8_way_X1_tellWay : GoodIn wsX8_way (wsV RX8 135 RX1 yX1_tellWay wsX1_tellWay) := goodIn_app (goodIn_of _ (by decide +kernel)) ggX8_way_X1_tellWay
theorem dX8_way_0 : decode cX8_way 0 = .ok (.iload_n 1, 1) := by decide +kernel
theorem dX8_way_1 : decode cX8_way 1 = .ok (.iconst 0, 1) := by decide +kernel
theorem dX8_way_2 : decode cX8_way 2 = .ok (.aload_n 0, 1) := by decide +kernel
theorem dX8_way_3 : decode cX8_way 3 = .ok (.getfield 39, 3) := by decide +kernel
theorem dX8_way_6 : decode cX8_way 6 = .ok (.getfield 131, 3) := by decide +kernel
theorem dX8_way_9 : decode cX8_way 9 = .ok (.iconst 1, 1) := by decide +kernel
theorem dX8_way_10 : decode cX8_way 10 = .ok (.isub, 1) := by decide +kernel
theorem dX8_way_11 : decode cX8_way 11 = .ok (.invokestatic 91, 3) := by decide +kernel
theorem dX8_way_14 : decode cX8_way 14 = .ok (.ifCond .eq 12, 3) := by decide +kernel
theorem dX8_way_17 : decode cX8_way 17 = .ok (.iload_n 2, 1) := by decide +kernel
theorem dX8_way_18 : decode cX8_way 18 = .ok (.iconst 0, 1) := by decide +kernel
theorem dX8_way_19 : decode cX8_way 19 = .ok (.iconst 3, 1) := by decide +kernel
theorem dX8_way_20 : decode cX8_way 20 = .ok (.invokestatic 91, 3) := by decide +kernel
theorem dX8_way_23 : decode cX8_way 23 = .ok (.ifCond .ne 5, 3) := by decide +kernel
theorem dX8_way_26 : decode cX8_way 26 = .ok (.iconst (-1), 1) := by decide +kernel
theorem dX8_way_27 : decode cX8_way 27 = .ok (.ireturn, 1) := by decide +kernel
theorem dX8_way_28 : decode cX8_way 28 = .ok (.aload_n 0, 1) := by decide +kernel
theorem dX8_way_29 : decode cX8_way 29 = .ok (.getfield 39, 3) := by decide +kernel
theorem dX8_way_32 : decode cX8_way 32 = .ok (.iload_n 1, 1) := by decide +kernel
theorem dX8_way_33 : decode cX8_way 33 = .ok (.iload_n 2, 1) := by decide +kernel
theorem dX8_way_34 : decode cX8_way 34 = .ok (.invokevirtual 135, 3) := by decide +kernel
theorem dX8_way_37 : decode cX8_way 37 = .ok (.ireturn, 1) := by decide +kernel
theorem lkX8_way_39 : Cond.fieldLink RX8 39 "LeftAtFive" "now" "LLeftAtFive$Kitchens;" ∈ wsX8_way := by decide +kernel
theorem lkX8_way_131 : Cond.fieldLink RX8 131 "LeftAtFive$Kitchens" "ways" "I" ∈ wsX8_way := by decide +kernel
theorem iwX8_way_X1 : ∀ w ∈ wsX10, w ∈ wsX8_way := by decide +kernel
theorem iwX8_way_X8 : ∀ w ∈ wsX80, w ∈ wsX8_way := by decide +kernel
set_option maxHeartbeats 2000000 in
set_option maxRecDepth 100000 in
theorem c_X8_way (l : Launch) (D : va_G) (q : Nat → ClassId) (ad : Nat → Nat) (ω0 : Nat) (ω1 : Nat) (ω2 : Nat) (ω3 : Nat) (ω4 : Nat) (ω5 : Nat) (ω6 : Nat) (ω7 : Nat) (ω8 : Nat) (ω9 : Nat) (nd : Nat → Nat) (N : Nat → Int32) (k : Nat) (what : Nat) (hK : okK N) (hk0 : k < tn (N 26)) (hwhat9 : what ≤ 3) : xC l yX8_way wsX8_way ({ frames := 2, cells := 0, slots := 0, locals := 43 }) D (TY q) [w8 q ad ω0 ω1 ω2 ω3 ω4 (nd 0) ω6 ω7 ω8 ω9, wk q nd N] [.ref (ad 0), .int (nI k), .int (nI what)] (xQi D (TY q) (fun (r : Int32) (_ : Unit) => r = N (26 + 1 + 4 * k + what)) (fun _ => [w8 q ad ω0 ω1 ω2 ω3 ω4 (nd 0) ω6 ω7 ω8 ω9, wk q nd N])) 0 0 := by
  refine x_enter (cc := cX8_way) (maxL := 3) (ret := (some .int)) (by decide) rfl (Nat.le_of_ble_eq_true rfl) ?_
  intro p e s m below meth c A ls H locs hfix hr hlocks hinit hM hl
  obtain ⟨hx, hb, hml, hown, hts⟩ := id hfix
  have hl : lv_has ls 3 [(0, .ref (ad 0)), (1, .int (nI k)), (2, .int (nI what))] := hl
  have hK25 := hK.1.2
  have hK26 := hK.2.1.2
  refine lv_iload_n hx hb dX8_way_0 rfl (lv_at hl 1 rfl) ?_
  refine lv_iconst (v := nI 0) hx hb dX8_way_1 (by decide) ?_
  refine lv_aload_n hx hb dX8_way_2 rfl (lv_at hl 0 rfl) ?_
  refine x_get hx hb hts iwX8_way_X8 hown hM 0 0 rfl rfl rfl 5 (by decide) (hts _ lkX8_way_39) (fun _ h => h) rfl dX8_way_3 ?_
  refine x_get hx hb hts iwX8_way_X1 hown hM 1 0 rfl rfl rfl 1 (by decide) (hts _ lkX8_way_131) (fun _ h => h) rfl dX8_way_6 ?_
  refine x_cast (y := nI (tn (N 26))) hK.2.1.1 ?_
  refine lv_iconst (v := nI 1) hx hb dX8_way_9 (by decide) ?_
  refine lv_isub hx hb dX8_way_10 ?_
  refine x_calli (bc := []) (br := [w8 q ad ω0 ω1 ω2 ω3 ω4 (nd 0) ω6 ω7 ω8 ω9, wk q nd N]) hM [] [0, 1] rfl rfl rfl (by decide) (x_runS (As := [.int (nI k), .int (nI 0), .int ((nI (tn (N 26))) - (nI 1))]) (rest := []) hfix (c_X8_within l D q (nI k) (nI 0) ((nI (tn (N 26))) - (nI 1)) ((k : Nat) : Int) (0 : Int) (((tn (N 26) : Nat) : Int) - ((1 : Nat) : Int)) (nI_toInt (n := k) (by omega)) (nI_toInt (n := 0) (by decide)) (pk_sub_toInt (a := tn (N 26)) (b := 1) (by omega) (by omega))) (va_cwS 3 hts gX8_way_X8_within rfl rfl rfl (by decide +kernel) ⟨Nat.le_of_ble_eq_true rfl, Nat.le_of_ble_eq_true rfl⟩) hM [] rfl rfl rfl hl.1 rfl (Nat.le_of_ble_eq_true rfl) dX8_way_11 ⟨Nat.le_of_ble_eq_true rfl, Nat.le_of_ble_eq_true rfl⟩) (fun r u H locs hq hM => ?_)
  subst hq
  have hM : xM D (TY q) [w8 q ad ω0 ω1 ω2 ω3 ω4 (nd 0) ω6 ω7 ω8 ω9, wk q nd N] A s.heap s H locs := hM
  refine x_ifz_eq (P := (0 : Int) ≤ ((k : Nat) : Int) ∧ ((k : Nat) : Int) ≤ (((tn (N 26) : Nat) : Int) - ((1 : Nat) : Int))) (tgt := 26) hx hb dX8_way_14 (by decide) (fun c1 => ?_) (fun c1 => ?_)
  · exfalso; omega
  · refine lv_iload_n hx hb dX8_way_17 rfl (lv_at hl 2 rfl) ?_
    refine lv_iconst (v := nI 0) hx hb dX8_way_18 (by decide) ?_
    refine lv_iconst (v := nI 3) hx hb dX8_way_19 (by decide) ?_
    refine x_calli (bc := []) (br := [w8 q ad ω0 ω1 ω2 ω3 ω4 (nd 0) ω6 ω7 ω8 ω9, wk q nd N]) hM [] [0, 1] rfl rfl rfl (by decide) (x_runS (As := [.int (nI what), .int (nI 0), .int (nI 3)]) (rest := []) hfix (c_X8_within l D q (nI what) (nI 0) (nI 3) ((what : Nat) : Int) (0 : Int) (3 : Int) (nI_toInt (n := what) (by omega)) (nI_toInt (n := 0) (by decide)) (nI_toInt (n := 3) (by decide))) (va_cwS 3 hts gX8_way_X8_within rfl rfl rfl (by decide +kernel) ⟨Nat.le_of_ble_eq_true rfl, Nat.le_of_ble_eq_true rfl⟩) hM [] rfl rfl rfl hl.1 rfl (Nat.le_of_ble_eq_true rfl) dX8_way_20 ⟨Nat.le_of_ble_eq_true rfl, Nat.le_of_ble_eq_true rfl⟩) (fun r u H locs hq hM => ?_)
    subst hq
    have hM : xM D (TY q) [w8 q ad ω0 ω1 ω2 ω3 ω4 (nd 0) ω6 ω7 ω8 ω9, wk q nd N] A s.heap s H locs := hM
    refine x_ifz_ne (P := (0 : Int) ≤ ((what : Nat) : Int) ∧ ((what : Nat) : Int) ≤ (3 : Int)) (tgt := 28) hx hb dX8_way_23 (by decide) (fun c2 => ?_) (fun c2 => ?_)
    · refine lv_aload_n hx hb dX8_way_28 rfl (lv_at hl 0 rfl) ?_
      refine x_get hx hb hts iwX8_way_X8 hown hM 0 0 rfl rfl rfl 5 (by decide) (hts _ lkX8_way_39) (fun _ h => h) rfl dX8_way_29 ?_
      refine lv_iload_n hx hb dX8_way_32 rfl (lv_at hl 1 rfl) ?_
      refine lv_iload_n hx hb dX8_way_33 rfl (lv_at hl 2 rfl) ?_
      refine x_calli (bc := [wk q nd N]) (br := [w8 q ad ω0 ω1 ω2 ω3 ω4 (nd 0) ω6 ω7 ω8 ω9]) hM [1] [0] rfl rfl rfl (by decide) (x_runV (As := [.int (nI k), .int (nI what)]) (rest := []) hfix (c_X1_tellWay l D q nd N k what (by omega) (by omega)) (cwV 2 hts gX8_way_X1_tellWay rfl rfl rfl (by decide +kernel) ⟨Nat.le_of_ble_eq_true rfl, Nat.le_of_ble_eq_true rfl⟩) hM [1] rfl rfl 1 0 rfl rfl rfl rfl rfl hl.1 rfl (Nat.le_of_ble_eq_true rfl) dX8_way_34 ⟨Nat.le_of_ble_eq_true rfl, Nat.le_of_ble_eq_true rfl⟩) (fun r u H locs hq hM => ?_)
      subst hq
      have hM : xM D (TY q) [w8 q ad ω0 ω1 ω2 ω3 ω4 (nd 0) ω6 ω7 ω8 ω9, wk q nd N] A s.heap s H locs := hM
      exact x_iret hx hb hr hlocks () hM (show N (26 + 1 + 4 * k + what) = N (26 + 1 + 4 * k + what) from rfl) dX8_way_37
    · exfalso; omega
