set_option maxHeartbeats 2000000 in
set_option maxRecDepth 100000 in
theorem c_X8_bakeB (l : Launch) (D : va_G) (q : Nat → ClassId) (ad : Nat → Nat) (ω0 : Nat) (ω1 : Nat) (ω2 : Nat) (ω3 : Nat) (ω4 : Nat) (ω5 : Nat) (ω6 : Nat) (ω7 : Nat) (ω8 : Nat) (ω9 : Nat) (la : Int32) (laz : Int) (wa : Int32) (waz : Int) (what : Int32) (whatz : Int) (h_laz : la.toInt = laz) (h_waz : wa.toInt = waz) (h_whatz : what.toInt = whatz) (hbad : ¬ (0 ≤ laz ∧ laz ≤ 9) ∨ ¬ (0 ≤ waz ∧ waz ≤ 9) ∨ ¬ (0 ≤ whatz ∧ whatz ≤ 2)) : xC l yX8_bake wsX8_bake ({ frames := 4, cells := 0, slots := 0, locals := 92 }) D (TY q) [w8 q ad ω0 ω1 ω2 ω3 ω4 ω5 ω6 ω7 ω8 ω9] [.ref (ad 0), .int la, .int wa, .int what] (xQi D (TY q) (fun (r : Int32) (_ : Unit) => r = (-1)) (fun _ => [w8 q ad ω0 ω1 ω2 ω3 ω4 ω5 ω6 ω7 ω8 ω9])) 0 0 := by
  refine x_enter (cc := cX8_bake) (maxL := 5) (ret := (some .int)) (by decide) rfl (Nat.le_of_ble_eq_true rfl) ?_
  intro p e s m below meth c A ls H locs hfix hr hlocks hinit hM hl
  obtain ⟨hx, hb, hml, hown, hts⟩ := id hfix
  have hl : lv_has ls 5 [(0, .ref (ad 0)), (1, .int la), (2, .int wa), (3, .int what)] := hl
  refine lv_iload_n hx hb dX8_bake_0 rfl (lv_at hl 1 rfl) ?_
  refine lv_iconst (v := nI 0) hx hb dX8_bake_1 (by decide) ?_
  refine lv_bipush (v := nI 9) hx hb dX8_bake_2 (by decide) ?_
  refine x_calli (bc := []) (br := [w8 q ad ω0 ω1 ω2 ω3 ω4 ω5 ω6 ω7 ω8 ω9]) hM [] [0] rfl rfl rfl (by decide) (x_runS (As := [.int la, .int (nI 0), .int (nI 9)]) (rest := []) hfix (c_X8_within l D q la (nI 0) (nI 9) laz (0 : Int) (9 : Int) h_laz (nI_toInt (n := 0) (by decide)) (nI_toInt (n := 9) (by decide))) (va_cwS 3 hts gX8_bake_X8_within rfl rfl rfl (by decide +kernel) ⟨Nat.le_of_ble_eq_true rfl, Nat.le_of_ble_eq_true rfl⟩) hM [] rfl rfl rfl hl.1 rfl (Nat.le_of_ble_eq_true rfl) dX8_bake_4 ⟨Nat.le_of_ble_eq_true rfl, Nat.le_of_ble_eq_true rfl⟩) (fun r u H locs hq hM => ?_)
  subst hq
  have hM : xM D (TY q) [w8 q ad ω0 ω1 ω2 ω3 ω4 ω5 ω6 ω7 ω8 ω9] A s.heap s H locs := hM
  refine x_ifz_eq (P := (0 : Int) ≤ laz ∧ laz ≤ (9 : Int)) (tgt := 29) hx hb dX8_bake_7 (by decide) (fun c1 => ?_) (fun c1 => ?_)
  · refine lv_iconst (v := (-1)) hx hb dX8_bake_29 (by decide) ?_
    exact x_iret hx hb hr hlocks () hM (show (-1) = (-1) from rfl) dX8_bake_30
  · refine lv_iload_n hx hb dX8_bake_10 rfl (lv_at hl 2 rfl) ?_
    refine lv_iconst (v := nI 0) hx hb dX8_bake_11 (by decide) ?_
    refine lv_bipush (v := nI 9) hx hb dX8_bake_12 (by decide) ?_
    refine x_calli (bc := []) (br := [w8 q ad ω0 ω1 ω2 ω3 ω4 ω5 ω6 ω7 ω8 ω9]) hM [] [0] rfl rfl rfl (by decide) (x_runS (As := [.int wa, .int (nI 0), .int (nI 9)]) (rest := []) hfix (c_X8_within l D q wa (nI 0) (nI 9) waz (0 : Int) (9 : Int) h_waz (nI_toInt (n := 0) (by decide)) (nI_toInt (n := 9) (by decide))) (va_cwS 3 hts gX8_bake_X8_within rfl rfl rfl (by decide +kernel) ⟨Nat.le_of_ble_eq_true rfl, Nat.le_of_ble_eq_true rfl⟩) hM [] rfl rfl rfl hl.1 rfl (Nat.le_of_ble_eq_true rfl) dX8_bake_14 ⟨Nat.le_of_ble_eq_true rfl, Nat.le_of_ble_eq_true rfl⟩) (fun r u H locs hq hM => ?_)
    subst hq
    have hM : xM D (TY q) [w8 q ad ω0 ω1 ω2 ω3 ω4 ω5 ω6 ω7 ω8 ω9] A s.heap s H locs := hM
    refine x_ifz_eq (P := (0 : Int) ≤ waz ∧ waz ≤ (9 : Int)) (tgt := 29) hx hb dX8_bake_17 (by decide) (fun c2 => ?_) (fun c2 => ?_)
    · refine lv_iconst (v := (-1)) hx hb dX8_bake_29 (by decide) ?_
      exact x_iret hx hb hr hlocks () hM (show (-1) = (-1) from rfl) dX8_bake_30
    · refine lv_iload_n hx hb dX8_bake_20 rfl (lv_at hl 3 rfl) ?_
      refine lv_iconst (v := nI 0) hx hb dX8_bake_21 (by decide) ?_
      refine lv_iconst (v := nI 2) hx hb dX8_bake_22 (by decide) ?_
      refine x_calli (bc := []) (br := [w8 q ad ω0 ω1 ω2 ω3 ω4 ω5 ω6 ω7 ω8 ω9]) hM [] [0] rfl rfl rfl (by decide) (x_runS (As := [.int what, .int (nI 0), .int (nI 2)]) (rest := []) hfix (c_X8_within l D q what (nI 0) (nI 2) whatz (0 : Int) (2 : Int) h_whatz (nI_toInt (n := 0) (by decide)) (nI_toInt (n := 2) (by decide))) (va_cwS 3 hts gX8_bake_X8_within rfl rfl rfl (by decide +kernel) ⟨Nat.le_of_ble_eq_true rfl, Nat.le_of_ble_eq_true rfl⟩) hM [] rfl rfl rfl hl.1 rfl (Nat.le_of_ble_eq_true rfl) dX8_bake_23 ⟨Nat.le_of_ble_eq_true rfl, Nat.le_of_ble_eq_true rfl⟩) (fun r u H locs hq hM => ?_)
      subst hq
      have hM : xM D (TY q) [w8 q ad ω0 ω1 ω2 ω3 ω4 ω5 ω6 ω7 ω8 ω9] A s.heap s H locs := hM
      refine x_ifz_ne (P := (0 : Int) ≤ whatz ∧ whatz ≤ (2 : Int)) (tgt := 31) hx hb dX8_bake_26 (by decide) (fun c3 => ?_) (fun c3 => ?_)
      · exfalso; omega
      · refine lv_iconst (v := (-1)) hx hb dX8_bake_29 (by decide) ?_
        exact x_iret hx hb hr hlocks () hM (show (-1) = (-1) from rfl) dX8_bake_30
