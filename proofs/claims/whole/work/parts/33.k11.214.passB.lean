set_option maxHeartbeats 2000000 in
set_option maxRecDepth 100000 in
theorem c_X8_passB (l : Launch) (D : va_G) (q : Nat → ClassId) (ad : Nat → Nat) (ω0 : Nat) (ω1 : Nat) (ω2 : Nat) (ω3 : Nat) (ω4 : Nat) (ω5 : Nat) (ω6 : Nat) (ω7 : Nat) (ω8 : Nat) (ω9 : Nat) (n : Int32) (nz : Int) (h_nz : n.toInt = nz) (hbad : ¬ (1 ≤ nz ∧ nz ≤ 60)) : xC l yX8_pass wsX8_pass ({ frames := 5, cells := 0, slots := 0, locals := 117 }) D (TY q) [w8 q ad ω0 ω1 ω2 ω3 ω4 ω5 ω6 ω7 ω8 ω9] [.ref (ad 0), .int n] (xQi D (TY q) (fun (r : Int32) (_ : Unit) => r = (-1)) (fun _ => [w8 q ad ω0 ω1 ω2 ω3 ω4 ω5 ω6 ω7 ω8 ω9])) 0 0 := by
  refine x_enter (cc := cX8_pass) (maxL := 2) (ret := (some .int)) (by decide) rfl (Nat.le_of_ble_eq_true rfl) ?_
  intro p e s m below meth c A ls H locs hfix hr hlocks hinit hM hl
  obtain ⟨hx, hb, hml, hown, hts⟩ := id hfix
  have hl : lv_has ls 2 [(0, .ref (ad 0)), (1, .int n)] := hl
  refine lv_iload_n hx hb dX8_pass_0 rfl (lv_at hl 1 rfl) ?_
  refine lv_iconst (v := nI 1) hx hb dX8_pass_1 (by decide) ?_
  refine lv_bipush (v := nI 60) hx hb dX8_pass_2 (by decide) ?_
  refine x_calli (bc := []) (br := [w8 q ad ω0 ω1 ω2 ω3 ω4 ω5 ω6 ω7 ω8 ω9]) hM [] [0] rfl rfl rfl (by decide) (x_runS (As := [.int n, .int (nI 1), .int (nI 60)]) (rest := []) hfix (c_X8_within l D q n (nI 1) (nI 60) nz (1 : Int) (60 : Int) h_nz (nI_toInt (n := 1) (by decide)) (nI_toInt (n := 60) (by decide))) (va_cwS 3 hts gX8_pass_X8_within rfl rfl rfl (by decide +kernel) ⟨Nat.le_of_ble_eq_true rfl, Nat.le_of_ble_eq_true rfl⟩) hM [] rfl rfl rfl hl.1 rfl (Nat.le_of_ble_eq_true rfl) dX8_pass_4 ⟨Nat.le_of_ble_eq_true rfl, Nat.le_of_ble_eq_true rfl⟩) (fun r u H locs hq hM => ?_)
  subst hq
  have hM : xM D (TY q) [w8 q ad ω0 ω1 ω2 ω3 ω4 ω5 ω6 ω7 ω8 ω9] A s.heap s H locs := hM
  refine x_ifz_ne (P := (1 : Int) ≤ nz ∧ nz ≤ (60 : Int)) (tgt := 12) hx hb dX8_pass_7 (by decide) (fun c1 => ?_) (fun c1 => ?_)
  · exfalso; omega
  · refine lv_iconst (v := (-1)) hx hb dX8_pass_10 (by decide) ?_
    exact x_iret hx hb hr hlocks () hM (show (-1) = (-1) from rfl) dX8_pass_11
