set_option maxHeartbeats 2000000 in
set_option maxRecDepth 100000 in
theorem c_X8_bakeN (l : Launch) (D : va_G) (q : Nat → ClassId) (ad : Nat → Nat) (ω0 : Nat) (ω1 : Nat) (ω2 : Nat) (ω3 : Nat) (ω4 : Nat) (ω5 : Nat) (ω6 : Nat) (ω7 : Nat) (ω8 : Nat) (ω9 : Nat) (sd : Nat → Nat) (X : Nat → Nat → Int32) (S : Nat → Nat → Int32) (la : Nat) (wa : Nat) (what : Nat) (hT : okT X S) (hla9 : la ≤ 9) (hwa9 : wa ≤ 9) (hwhat9 : what ≤ 2) (hD9 : (tn (S 12 0)) = 0) : xC l yX8_bake wsX8_bake ({ frames := 4, cells := 0, slots := 0, locals := 92 }) D (TY q) [w8 q ad ω0 (sd 0) ω2 ω3 ω4 ω5 ω6 ω7 ω8 ω9, wst q sd X] [.ref (ad 0), .int (nI la), .int (nI wa), .int (nI what)] (xQi D (TY q) (fun (r : Int32) (_ : Unit) => r = (-4)) (fun _ => [w8 q ad ω0 (sd 0) ω2 ω3 ω4 ω5 ω6 ω7 ω8 ω9, wst q sd X])) 0 0 := by
  refine x_enter (cc := cX8_bake) (maxL := 5) (ret := (some .int)) (by decide) rfl (Nat.le_of_ble_eq_true rfl) ?_
  intro p e s m below meth c A ls H locs hfix hr hlocks hinit hM hl
  obtain ⟨hx, hb, hml, hown, hts⟩ := id hfix
  have hl : lv_has ls 5 [(0, .ref (ad 0)), (1, .int (nI la)), (2, .int (nI wa)), (3, .int (nI what))] := hl
  have hTb0 := okT_0b hT
  have hTb1 := okT_1b hT
  have hTb2 := okT_2b hT
  have hTb3 := okT_3b hT
  have hTb4 := okT_4b hT
  refine lv_iload_n hx hb dX8_bake_0 rfl (lv_at hl 1 rfl) ?_
  refine lv_iconst (v := nI 0) hx hb dX8_bake_1 (by decide) ?_
  refine lv_bipush (v := nI 9) hx hb dX8_bake_2 (by decide) ?_
  refine x_calli (bc := []) (br := [w8 q ad ω0 (sd 0) ω2 ω3 ω4 ω5 ω6 ω7 ω8 ω9, wst q sd X]) hM [] [0, 1] rfl rfl rfl (by decide) (x_runS (As := [.int (nI la), .int (nI 0), .int (nI 9)]) (rest := []) hfix (c_X8_within l D q (nI la) (nI 0) (nI 9) ((la : Nat) : Int) (0 : Int) (9 : Int) (nI_toInt (n := la) (by omega)) (nI_toInt (n := 0) (by decide)) (nI_toInt (n := 9) (by decide))) (va_cwS 3 hts gX8_bake_X8_within rfl rfl rfl (by decide +kernel) ⟨Nat.le_of_ble_eq_true rfl, Nat.le_of_ble_eq_true rfl⟩) hM [] rfl rfl rfl hl.1 rfl (Nat.le_of_ble_eq_true rfl) dX8_bake_4 ⟨Nat.le_of_ble_eq_true rfl, Nat.le_of_ble_eq_true rfl⟩) (fun r u H locs hq hM => ?_)
  subst hq
  have hM : xM D (TY q) [w8 q ad ω0 (sd 0) ω2 ω3 ω4 ω5 ω6 ω7 ω8 ω9, wst q sd X] A s.heap s H locs := hM
  refine x_ifz_eq (P := (0 : Int) ≤ ((la : Nat) : Int) ∧ ((la : Nat) : Int) ≤ (9 : Int)) (tgt := 29) hx hb dX8_bake_7 (by decide) (fun c1 => ?_) (fun c1 => ?_)
  · exfalso; omega
  · refine lv_iload_n hx hb dX8_bake_10 rfl (lv_at hl 2 rfl) ?_
    refine lv_iconst (v := nI 0) hx hb dX8_bake_11 (by decide) ?_
    refine lv_bipush (v := nI 9) hx hb dX8_bake_12 (by decide) ?_
    refine x_calli (bc := []) (br := [w8 q ad ω0 (sd 0) ω2 ω3 ω4 ω5 ω6 ω7 ω8 ω9, wst q sd X]) hM [] [0, 1] rfl rfl rfl (by decide) (x_runS (As := [.int (nI wa), .int (nI 0), .int (nI 9)]) (rest := []) hfix (c_X8_within l D q (nI wa) (nI 0) (nI 9) ((wa : Nat) : Int) (0 : Int) (9 : Int) (nI_toInt (n := wa) (by omega)) (nI_toInt (n := 0) (by decide)) (nI_toInt (n := 9) (by decide))) (va_cwS 3 hts gX8_bake_X8_within rfl rfl rfl (by decide +kernel) ⟨Nat.le_of_ble_eq_true rfl, Nat.le_of_ble_eq_true rfl⟩) hM [] rfl rfl rfl hl.1 rfl (Nat.le_of_ble_eq_true rfl) dX8_bake_14 ⟨Nat.le_of_ble_eq_true rfl, Nat.le_of_ble_eq_true rfl⟩) (fun r u H locs hq hM => ?_)
    subst hq
    have hM : xM D (TY q) [w8 q ad ω0 (sd 0) ω2 ω3 ω4 ω5 ω6 ω7 ω8 ω9, wst q sd X] A s.heap s H locs := hM
    refine x_ifz_eq (P := (0 : Int) ≤ ((wa : Nat) : Int) ∧ ((wa : Nat) : Int) ≤ (9 : Int)) (tgt := 29) hx hb dX8_bake_17 (by decide) (fun c2 => ?_) (fun c2 => ?_)
    · exfalso; omega
    · refine lv_iload_n hx hb dX8_bake_20 rfl (lv_at hl 3 rfl) ?_
      refine lv_iconst (v := nI 0) hx hb dX8_bake_21 (by decide) ?_
      refine lv_iconst (v := nI 2) hx hb dX8_bake_22 (by decide) ?_
      refine x_calli (bc := []) (br := [w8 q ad ω0 (sd 0) ω2 ω3 ω4 ω5 ω6 ω7 ω8 ω9, wst q sd X]) hM [] [0, 1] rfl rfl rfl (by decide) (x_runS (As := [.int (nI what), .int (nI 0), .int (nI 2)]) (rest := []) hfix (c_X8_within l D q (nI what) (nI 0) (nI 2) ((what : Nat) : Int) (0 : Int) (2 : Int) (nI_toInt (n := what) (by omega)) (nI_toInt (n := 0) (by decide)) (nI_toInt (n := 2) (by decide))) (va_cwS 3 hts gX8_bake_X8_within rfl rfl rfl (by decide +kernel) ⟨Nat.le_of_ble_eq_true rfl, Nat.le_of_ble_eq_true rfl⟩) hM [] rfl rfl rfl hl.1 rfl (Nat.le_of_ble_eq_true rfl) dX8_bake_23 ⟨Nat.le_of_ble_eq_true rfl, Nat.le_of_ble_eq_true rfl⟩) (fun r u H locs hq hM => ?_)
      subst hq
      have hM : xM D (TY q) [w8 q ad ω0 (sd 0) ω2 ω3 ω4 ω5 ω6 ω7 ω8 ω9, wst q sd X] A s.heap s H locs := hM
      refine x_ifz_ne (P := (0 : Int) ≤ ((what : Nat) : Int) ∧ ((what : Nat) : Int) ≤ (2 : Int)) (tgt := 31) hx hb dX8_bake_26 (by decide) (fun c3 => ?_) (fun c3 => ?_)
      · refine lv_aload_n hx hb dX8_bake_31 rfl (lv_at hl 0 rfl) ?_
        refine x_get hx hb hts iwX8_bake_X8 hown hM 0 0 rfl rfl rfl 1 (by decide) (hts _ lkX8_bake_19) (fun _ h => h) rfl dX8_bake_32 ?_
        refine x_get hx hb hts iwX8_bake_X7 hown hM 1 0 rfl rfl rfl 3 (by decide) (hts _ lkX8_bake_206) (fun _ h => h) rfl dX8_bake_35 ?_
        refine x_cast (y := nI (tn (S 12 0))) (okT_3 hT) ?_
        refine x_if_ne (x := tn (S 12 0)) (tgt := 44) hx hb (by omega) dX8_bake_38 (by decide) (fun c4 => ?_) (fun c4 => ?_)
        · exfalso; omega
        · refine lv_bipush (v := (-4)) hx hb dX8_bake_41 (by decide) ?_
          exact x_iret hx hb hr hlocks () hM (show (-4) = (-4) from rfl) dX8_bake_43
      · exfalso; omega
