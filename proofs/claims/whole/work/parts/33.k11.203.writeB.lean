set_option maxHeartbeats 2000000 in
set_option maxRecDepth 100000 in
theorem c_X8_writeB (l : Launch) (D : va_G) (q : Nat → ClassId) (ad : Nat → Nat) (ω0 : Nat) (ω1 : Nat) (ω2 : Nat) (ω3 : Nat) (ω4 : Nat) (ω5 : Nat) (ω6 : Nat) (ω7 : Nat) (ω8 : Nat) (ω9 : Nat) (x : Int32) (xz : Int) (h_xz : x.toInt = xz) (hbad : ¬ (32 ≤ xz ∧ xz ≤ 126)) : xC l yX8_write wsX8_write ({ frames := 1, cells := 0, slots := 0, locals := 22 }) D (TY q) [w8 q ad ω0 ω1 ω2 ω3 ω4 ω5 ω6 ω7 ω8 ω9] [.ref (ad 0), .int x] (xQi D (TY q) (fun (r : Int32) (_ : Unit) => r = (-1)) (fun _ => [w8 q ad ω0 ω1 ω2 ω3 ω4 ω5 ω6 ω7 ω8 ω9])) 0 0 := by
  refine x_enter (cc := cX8_write) (maxL := 2) (ret := (some .int)) (by decide) rfl (Nat.le_of_ble_eq_true rfl) ?_
  intro p e s m below meth c A ls H locs hfix hr hlocks hinit hM hl
  obtain ⟨hx, hb, hml, hown, hts⟩ := id hfix
  have hl : lv_has ls 2 [(0, .ref (ad 0)), (1, .int x)] := hl
  refine lv_iload_n hx hb dX8_write_0 rfl (lv_at hl 1 rfl) ?_
  refine lv_bipush (v := nI 32) hx hb dX8_write_1 (by decide) ?_
  refine lv_bipush (v := nI 126) hx hb dX8_write_3 (by decide) ?_
  refine x_calli (bc := []) (br := [w8 q ad ω0 ω1 ω2 ω3 ω4 ω5 ω6 ω7 ω8 ω9]) hM [] [0] rfl rfl rfl (by decide) (x_runS (As := [.int x, .int (nI 32), .int (nI 126)]) (rest := []) hfix (c_X8_within l D q x (nI 32) (nI 126) xz (32 : Int) (126 : Int) h_xz (nI_toInt (n := 32) (by decide)) (nI_toInt (n := 126) (by decide))) (va_cwS 3 hts gX8_write_X8_within rfl rfl rfl (by decide +kernel) ⟨Nat.le_of_ble_eq_true rfl, Nat.le_of_ble_eq_true rfl⟩) hM [] rfl rfl rfl hl.1 rfl (Nat.le_of_ble_eq_true rfl) dX8_write_5 ⟨Nat.le_of_ble_eq_true rfl, Nat.le_of_ble_eq_true rfl⟩) (fun r u H locs hq hM => ?_)
  subst hq
  have hM : xM D (TY q) [w8 q ad ω0 ω1 ω2 ω3 ω4 ω5 ω6 ω7 ω8 ω9] A s.heap s H locs := hM
  refine x_ifz_ne (P := (32 : Int) ≤ xz ∧ xz ≤ (126 : Int)) (tgt := 13) hx hb dX8_write_8 (by decide) (fun c1 => ?_) (fun c1 => ?_)
  · exfalso; omega
  · refine lv_iconst (v := (-1)) hx hb dX8_write_11 (by decide) ?_
    exact x_iret hx hb hr hlocks () hM (show (-1) = (-1) from rfl) dX8_write_12
