set_option maxHeartbeats 2000000 in
set_option maxRecDepth 100000 in
theorem c_X8_eveningB (l : Launch) (D : va_G) (q : Nat → ClassId) (ad : Nat → Nat) (ω0 : Nat) (ω1 : Nat) (ω2 : Nat) (ω3 : Nat) (ω4 : Nat) (ω5 : Nat) (ω6 : Nat) (ω7 : Nat) (ω8 : Nat) (ω9 : Nat) (z9 : Int32) (z9z : Int) (what : Int32) (whatz : Int) (h_z9z : z9.toInt = z9z) (h_whatz : what.toInt = whatz) (hbad : ¬ (0 ≤ z9z ∧ z9z ≤ 9999) ∨ ¬ (0 ≤ whatz ∧ whatz ≤ 1)) : xC l yX8_evening wsX8_evening ({ frames := 6, cells := 0, slots := 0, locals := 140 }) D (TY q) [w8 q ad ω0 ω1 ω2 ω3 ω4 ω5 ω6 ω7 ω8 ω9] [.ref (ad 0), .int z9, .int what] (xQi D (TY q) (fun (r : Int32) (_ : Unit) => r = (-1)) (fun _ => [w8 q ad ω0 ω1 ω2 ω3 ω4 ω5 ω6 ω7 ω8 ω9])) 0 0 := by
  refine x_enter (cc := cX8_evening) (maxL := 4) (ret := (some .int)) (by decide) rfl (Nat.le_of_ble_eq_true rfl) ?_
  intro p e s m below meth c A ls H locs hfix hr hlocks hinit hM hl
  obtain ⟨hx, hb, hml, hown, hts⟩ := id hfix
  have hl : lv_has ls 4 [(0, .ref (ad 0)), (1, .int z9), (2, .int what)] := hl
  refine lv_iload_n hx hb dX8_evening_0 rfl (lv_at hl 1 rfl) ?_
  refine lv_iconst (v := nI 0) hx hb dX8_evening_1 (by decide) ?_
  refine lv_sipush (v := nI 9999) hx hb dX8_evening_2 (by decide) ?_
  refine x_calli (bc := []) (br := [w8 q ad ω0 ω1 ω2 ω3 ω4 ω5 ω6 ω7 ω8 ω9]) hM [] [0] rfl rfl rfl (by decide) (x_runS (As := [.int z9, .int (nI 0), .int (nI 9999)]) (rest := []) hfix (c_X8_within l D q z9 (nI 0) (nI 9999) z9z (0 : Int) (9999 : Int) h_z9z (nI_toInt (n := 0) (by decide)) (nI_toInt (n := 9999) (by decide))) (va_cwS 3 hts gX8_evening_X8_within rfl rfl rfl (by decide +kernel) ⟨Nat.le_of_ble_eq_true rfl, Nat.le_of_ble_eq_true rfl⟩) hM [] rfl rfl rfl hl.1 rfl (Nat.le_of_ble_eq_true rfl) dX8_evening_5 ⟨Nat.le_of_ble_eq_true rfl, Nat.le_of_ble_eq_true rfl⟩) (fun r u H locs hq hM => ?_)
  subst hq
  have hM : xM D (TY q) [w8 q ad ω0 ω1 ω2 ω3 ω4 ω5 ω6 ω7 ω8 ω9] A s.heap s H locs := hM
  refine x_ifz_eq (P := (0 : Int) ≤ z9z ∧ z9z ≤ (9999 : Int)) (tgt := 20) hx hb dX8_evening_8 (by decide) (fun c1 => ?_) (fun c1 => ?_)
  · refine lv_iconst (v := (-1)) hx hb dX8_evening_20 (by decide) ?_
    exact x_iret hx hb hr hlocks () hM (show (-1) = (-1) from rfl) dX8_evening_21
  · refine lv_iload_n hx hb dX8_evening_11 rfl (lv_at hl 2 rfl) ?_
    refine lv_iconst (v := nI 0) hx hb dX8_evening_12 (by decide) ?_
    refine lv_iconst (v := nI 1) hx hb dX8_evening_13 (by decide) ?_
    refine x_calli (bc := []) (br := [w8 q ad ω0 ω1 ω2 ω3 ω4 ω5 ω6 ω7 ω8 ω9]) hM [] [0] rfl rfl rfl (by decide) (x_runS (As := [.int what, .int (nI 0), .int (nI 1)]) (rest := []) hfix (c_X8_within l D q what (nI 0) (nI 1) whatz (0 : Int) (1 : Int) h_whatz (nI_toInt (n := 0) (by decide)) (nI_toInt (n := 1) (by decide))) (va_cwS 3 hts gX8_evening_X8_within rfl rfl rfl (by decide +kernel) ⟨Nat.le_of_ble_eq_true rfl, Nat.le_of_ble_eq_true rfl⟩) hM [] rfl rfl rfl hl.1 rfl (Nat.le_of_ble_eq_true rfl) dX8_evening_14 ⟨Nat.le_of_ble_eq_true rfl, Nat.le_of_ble_eq_true rfl⟩) (fun r u H locs hq hM => ?_)
    subst hq
    have hM : xM D (TY q) [w8 q ad ω0 ω1 ω2 ω3 ω4 ω5 ω6 ω7 ω8 ω9] A s.heap s H locs := hM
    refine x_ifz_ne (P := (0 : Int) ≤ whatz ∧ whatz ≤ (1 : Int)) (tgt := 22) hx hb dX8_evening_17 (by decide) (fun c2 => ?_) (fun c2 => ?_)
    · exfalso; omega
    · refine lv_iconst (v := (-1)) hx hb dX8_evening_20 (by decide) ?_
      exact x_iret hx hb hr hlocks () hM (show (-1) = (-1) from rfl) dX8_evening_21
