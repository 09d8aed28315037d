set_option maxHeartbeats 2000000 in
set_option maxRecDepth 100000 in
theorem c_X8_roundB (l : Launch) (D : va_G) (q : Nat → ClassId) (ad : Nat → Nat) (ω0 : Nat) (ω1 : Nat) (ω2 : Nat) (ω3 : Nat) (ω4 : Nat) (ω5 : Nat) (ω6 : Nat) (ω7 : Nat) (ω8 : Nat) (ω9 : Nat) (x : Int32) (xz : Int) (mm : Int32) (mmz : Int) (what : Int32) (whatz : Int) (h_xz : x.toInt = xz) (h_mmz : mm.toInt = mmz) (h_whatz : what.toInt = whatz) (hbad : ¬ (0 ≤ xz ∧ xz ≤ 60) ∨ ¬ (0 ≤ mmz ∧ mmz ≤ 99) ∨ ¬ (0 ≤ whatz ∧ whatz ≤ 1)) : xC l yX8_round wsX8_round ({ frames := 6, cells := 0, slots := 0, locals := 145 }) D (TY q) [w8 q ad ω0 ω1 ω2 ω3 ω4 ω5 ω6 ω7 ω8 ω9] [.ref (ad 0), .int x, .int mm, .int what] (xQi D (TY q) (fun (r : Int32) (_ : Unit) => r = (-1)) (fun _ => [w8 q ad ω0 ω1 ω2 ω3 ω4 ω5 ω6 ω7 ω8 ω9])) 0 0 := by
  refine x_enter (cc := cX8_round) (maxL := 4) (ret := (some .int)) (by decide) rfl (Nat.le_of_ble_eq_true rfl) ?_
  intro p e s m below meth c A ls H locs hfix hr hlocks hinit hM hl
  obtain ⟨hx, hb, hml, hown, hts⟩ := id hfix
  have hl : lv_has ls 4 [(0, .ref (ad 0)), (1, .int x), (2, .int mm), (3, .int what)] := hl
  refine lv_iload_n hx hb dX8_round_0 rfl (lv_at hl 1 rfl) ?_
  refine lv_iconst (v := nI 0) hx hb dX8_round_1 (by decide) ?_
  refine lv_bipush (v := nI 60) hx hb dX8_round_2 (by decide) ?_
  refine x_calli (bc := []) (br := [w8 q ad ω0 ω1 ω2 ω3 ω4 ω5 ω6 ω7 ω8 ω9]) hM [] [0] rfl rfl rfl (by decide) (x_runS (As := [.int x, .int (nI 0), .int (nI 60)]) (rest := []) hfix (c_X8_within l D q x (nI 0) (nI 60) xz (0 : Int) (60 : Int) h_xz (nI_toInt (n := 0) (by decide)) (nI_toInt (n := 60) (by decide))) (va_cwS 3 hts gX8_round_X8_within rfl rfl rfl (by decide +kernel) ⟨Nat.le_of_ble_eq_true rfl, Nat.le_of_ble_eq_true rfl⟩) hM [] rfl rfl rfl hl.1 rfl (Nat.le_of_ble_eq_true rfl) dX8_round_4 ⟨Nat.le_of_ble_eq_true rfl, Nat.le_of_ble_eq_true rfl⟩) (fun r u H locs hq hM => ?_)
  subst hq
  have hM : xM D (TY q) [w8 q ad ω0 ω1 ω2 ω3 ω4 ω5 ω6 ω7 ω8 ω9] A s.heap s H locs := hM
  refine x_ifz_eq (P := (0 : Int) ≤ xz ∧ xz ≤ (60 : Int)) (tgt := 29) hx hb dX8_round_7 (by decide) (fun c1 => ?_) (fun c1 => ?_)
  · refine lv_iconst (v := (-1)) hx hb dX8_round_29 (by decide) ?_
    exact x_iret hx hb hr hlocks () hM (show (-1) = (-1) from rfl) dX8_round_30
  · refine lv_iload_n hx hb dX8_round_10 rfl (lv_at hl 2 rfl) ?_
    refine lv_iconst (v := nI 0) hx hb dX8_round_11 (by decide) ?_
    refine lv_bipush (v := nI 99) hx hb dX8_round_12 (by decide) ?_
    refine x_calli (bc := []) (br := [w8 q ad ω0 ω1 ω2 ω3 ω4 ω5 ω6 ω7 ω8 ω9]) hM [] [0] rfl rfl rfl (by decide) (x_runS (As := [.int mm, .int (nI 0), .int (nI 99)]) (rest := []) hfix (c_X8_within l D q mm (nI 0) (nI 99) mmz (0 : Int) (99 : Int) h_mmz (nI_toInt (n := 0) (by decide)) (nI_toInt (n := 99) (by decide))) (va_cwS 3 hts gX8_round_X8_within rfl rfl rfl (by decide +kernel) ⟨Nat.le_of_ble_eq_true rfl, Nat.le_of_ble_eq_true rfl⟩) hM [] rfl rfl rfl hl.1 rfl (Nat.le_of_ble_eq_true rfl) dX8_round_14 ⟨Nat.le_of_ble_eq_true rfl, Nat.le_of_ble_eq_true rfl⟩) (fun r u H locs hq hM => ?_)
    subst hq
    have hM : xM D (TY q) [w8 q ad ω0 ω1 ω2 ω3 ω4 ω5 ω6 ω7 ω8 ω9] A s.heap s H locs := hM
    refine x_ifz_eq (P := (0 : Int) ≤ mmz ∧ mmz ≤ (99 : Int)) (tgt := 29) hx hb dX8_round_17 (by decide) (fun c2 => ?_) (fun c2 => ?_)
    · refine lv_iconst (v := (-1)) hx hb dX8_round_29 (by decide) ?_
      exact x_iret hx hb hr hlocks () hM (show (-1) = (-1) from rfl) dX8_round_30
    · refine lv_iload_n hx hb dX8_round_20 rfl (lv_at hl 3 rfl) ?_
      refine lv_iconst (v := nI 0) hx hb dX8_round_21 (by decide) ?_
      refine lv_iconst (v := nI 1) hx hb dX8_round_22 (by decide) ?_
      refine x_calli (bc := []) (br := [w8 q ad ω0 ω1 ω2 ω3 ω4 ω5 ω6 ω7 ω8 ω9]) hM [] [0] rfl rfl rfl (by decide) (x_runS (As := [.int what, .int (nI 0), .int (nI 1)]) (rest := []) hfix (c_X8_within l D q what (nI 0) (nI 1) whatz (0 : Int) (1 : Int) h_whatz (nI_toInt (n := 0) (by decide)) (nI_toInt (n := 1) (by decide))) (va_cwS 3 hts gX8_round_X8_within rfl rfl rfl (by decide +kernel) ⟨Nat.le_of_ble_eq_true rfl, Nat.le_of_ble_eq_true rfl⟩) hM [] rfl rfl rfl hl.1 rfl (Nat.le_of_ble_eq_true rfl) dX8_round_23 ⟨Nat.le_of_ble_eq_true rfl, Nat.le_of_ble_eq_true rfl⟩) (fun r u H locs hq hM => ?_)
      subst hq
      have hM : xM D (TY q) [w8 q ad ω0 ω1 ω2 ω3 ω4 ω5 ω6 ω7 ω8 ω9] A s.heap s H locs := hM
      refine x_ifz_ne (P := (0 : Int) ≤ whatz ∧ whatz ≤ (1 : Int)) (tgt := 31) hx hb dX8_round_26 (by decide) (fun c3 => ?_) (fun c3 => ?_)
      · exfalso; omega
      · refine lv_iconst (v := (-1)) hx hb dX8_round_29 (by decide) ?_
        exact x_iret hx hb hr hlocks () hM (show (-1) = (-1) from rfl) dX8_round_30
