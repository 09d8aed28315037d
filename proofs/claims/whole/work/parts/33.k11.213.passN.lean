set_option maxHeartbeats 2000000 in
set_option maxRecDepth 100000 in
theorem c_X8_passN (l : Launch) (D : va_G) (q : Nat → ClassId) (ad : Nat → Nat) (ω0 : Nat) (ω1 : Nat) (ω2 : Nat) (ω3 : Nat) (ω4 : Nat) (ω5 : Nat) (ω6 : Nat) (ω7 : Nat) (ω8 : Nat) (ω9 : Nat) (nd : Nat → Nat) (N : Nat → Int32) (n : Nat) (hK : okK N) (hn9 : 1 ≤ n ∧ n ≤ 60) (hn6 : 60 < tn (N 25) + n) : xC l yX8_pass wsX8_pass ({ frames := 5, cells := 0, slots := 0, locals := 117 }) D (TY q) [w8 q ad ω0 ω1 ω2 ω3 ω4 (nd 0) ω6 ω7 ω8 ω9, wk q nd N] [.ref (ad 0), .int (nI n)] (xQi D (TY q) (fun (r : Int32) (_ : Unit) => r = (-2)) (fun _ => [w8 q ad ω0 ω1 ω2 ω3 ω4 (nd 0) ω6 ω7 ω8 ω9, wk q nd N])) 0 0 := by
  refine x_enter (cc := cX8_pass) (maxL := 2) (ret := (some .int)) (by decide) rfl (Nat.le_of_ble_eq_true rfl) ?_
  intro p e s m below meth c A ls H locs hfix hr hlocks hinit hM hl
  obtain ⟨hx, hb, hml, hown, hts⟩ := id hfix
  have hl : lv_has ls 2 [(0, .ref (ad 0)), (1, .int (nI n))] := hl
  have hK25 := hK.1.2
  have hK26 := hK.2.1.2
  refine lv_iload_n hx hb dX8_pass_0 rfl (lv_at hl 1 rfl) ?_
  refine lv_iconst (v := nI 1) hx hb dX8_pass_1 (by decide) ?_
  refine lv_bipush (v := nI 60) hx hb dX8_pass_2 (by decide) ?_
  refine x_calli (bc := []) (br := [w8 q ad ω0 ω1 ω2 ω3 ω4 (nd 0) ω6 ω7 ω8 ω9, wk q nd N]) hM [] [0, 1] rfl rfl rfl (by decide) (x_runS (As := [.int (nI n), .int (nI 1), .int (nI 60)]) (rest := []) hfix (c_X8_within l D q (nI n) (nI 1) (nI 60) ((n : Nat) : Int) (1 : Int) (60 : Int) (nI_toInt (n := n) (by omega)) (nI_toInt (n := 1) (by decide)) (nI_toInt (n := 60) (by decide))) (va_cwS 3 hts gX8_pass_X8_within rfl rfl rfl (by decide +kernel) ⟨Nat.le_of_ble_eq_true rfl, Nat.le_of_ble_eq_true rfl⟩) hM [] rfl rfl rfl hl.1 rfl (Nat.le_of_ble_eq_true rfl) dX8_pass_4 ⟨Nat.le_of_ble_eq_true rfl, Nat.le_of_ble_eq_true rfl⟩) (fun r u H locs hq hM => ?_)
  subst hq
  have hM : xM D (TY q) [w8 q ad ω0 ω1 ω2 ω3 ω4 (nd 0) ω6 ω7 ω8 ω9, wk q nd N] A s.heap s H locs := hM
  refine x_ifz_ne (P := (1 : Int) ≤ ((n : Nat) : Int) ∧ ((n : Nat) : Int) ≤ (60 : Int)) (tgt := 12) hx hb dX8_pass_7 (by decide) (fun c1 => ?_) (fun c1 => ?_)
  · refine lv_aload_n hx hb dX8_pass_12 rfl (lv_at hl 0 rfl) ?_
    refine x_get hx hb hts iwX8_pass_X8 hown hM 0 0 rfl rfl rfl 5 (by decide) (hts _ lkX8_pass_39) (fun _ h => h) rfl dX8_pass_13 ?_
    refine x_get hx hb hts iwX8_pass_X1 hown hM 1 0 rfl rfl rfl 0 (by decide) (hts _ lkX8_pass_138) (fun _ h => h) rfl dX8_pass_16 ?_
    refine x_cast (y := nI (tn (N 25))) hK.1.1 ?_
    refine lv_iload_n hx hb dX8_pass_19 rfl (lv_at hl 1 rfl) ?_
    refine x_iadd (x := tn (N 25)) (y := n) hx hb dX8_pass_20 ?_
    refine lv_bipush (v := nI 60) hx hb dX8_pass_21 (by decide) ?_
    refine x_icmp_le (x := tn (N 25) + n) (y := 60) (tgt := 29) hx hb (by omega) (by omega) dX8_pass_23 (by decide) (fun c2 => ?_) (fun c2 => ?_)
    · exfalso; omega
    · refine lv_bipush (v := (-2)) hx hb dX8_pass_26 (by decide) ?_
      exact x_iret hx hb hr hlocks () hM (show (-2) = (-2) from rfl) dX8_pass_28
  · exfalso; omega
