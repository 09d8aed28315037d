set_option maxHeartbeats 2000000 in
set_option maxRecDepth 100000 in
theorem c_X8_peaB (l : Launch) (D : va_G) (q : Nat → ClassId) (ad : Nat → Nat) (ω0 : Nat) (ω1 : Nat) (ω2 : Nat) (ω3 : Nat) (ω4 : Nat) (ω5 : Nat) (ω6 : Nat) (ω7 : Nat) (ω8 : Nat) (ω9 : Nat) (n : Int32) (nz : Int) (mm : Int32) (mmz : Int) (h_nz : n.toInt = nz) (h_mmz : mm.toInt = mmz) (hbad : ¬ (1 ≤ nz ∧ nz ≤ 99) ∨ ¬ (1 ≤ mmz ∧ mmz ≤ 9)) : xC l yX8_pea wsX8_pea ({ frames := 2, cells := 0, slots := 0, locals := 50 }) D (TY q) [w8 q ad ω0 ω1 ω2 ω3 ω4 ω5 ω6 ω7 ω8 ω9] [.ref (ad 0), .int n, .int mm] (xQi D (TY q) (fun (r : Int32) (_ : Unit) => r = (-1)) (fun _ => [w8 q ad ω0 ω1 ω2 ω3 ω4 ω5 ω6 ω7 ω8 ω9])) 0 0 := by
  refine x_enter (cc := cX8_pea) (maxL := 3) (ret := (some .int)) (by decide) rfl (Nat.le_of_ble_eq_true rfl) ?_
  intro p e s m below meth c A ls H locs hfix hr hlocks hinit hM hl
  obtain ⟨hx, hb, hml, hown, hts⟩ := id hfix
  have hl : lv_has ls 3 [(0, .ref (ad 0)), (1, .int n), (2, .int mm)] := hl
  refine lv_iload_n hx hb dX8_pea_0 rfl (lv_at hl 1 rfl) ?_
  refine lv_iconst (v := nI 1) hx hb dX8_pea_1 (by decide) ?_
  refine lv_bipush (v := nI 99) hx hb dX8_pea_2 (by decide) ?_
  refine x_calli (bc := []) (br := [w8 q ad ω0 ω1 ω2 ω3 ω4 ω5 ω6 ω7 ω8 ω9]) hM [] [0] rfl rfl rfl (by decide) (x_runS (As := [.int n, .int (nI 1), .int (nI 99)]) (rest := []) hfix (c_X8_within l D q n (nI 1) (nI 99) nz (1 : Int) (99 : Int) h_nz (nI_toInt (n := 1) (by decide)) (nI_toInt (n := 99) (by decide))) (va_cwS 3 hts gX8_pea_X8_within rfl rfl rfl (by decide +kernel) ⟨Nat.le_of_ble_eq_true rfl, Nat.le_of_ble_eq_true rfl⟩) hM [] rfl rfl rfl hl.1 rfl (Nat.le_of_ble_eq_true rfl) dX8_pea_4 ⟨Nat.le_of_ble_eq_true rfl, Nat.le_of_ble_eq_true rfl⟩) (fun r u H locs hq hM => ?_)
  subst hq
  have hM : xM D (TY q) [w8 q ad ω0 ω1 ω2 ω3 ω4 ω5 ω6 ω7 ω8 ω9] A s.heap s H locs := hM
  refine x_ifz_eq (P := (1 : Int) ≤ nz ∧ nz ≤ (99 : Int)) (tgt := 20) hx hb dX8_pea_7 (by decide) (fun c1 => ?_) (fun c1 => ?_)
  · refine lv_iconst (v := (-1)) hx hb dX8_pea_20 (by decide) ?_
    exact x_iret hx hb hr hlocks () hM (show (-1) = (-1) from rfl) dX8_pea_21
  · refine lv_iload_n hx hb dX8_pea_10 rfl (lv_at hl 2 rfl) ?_
    refine lv_iconst (v := nI 1) hx hb dX8_pea_11 (by decide) ?_
    refine lv_bipush (v := nI 9) hx hb dX8_pea_12 (by decide) ?_
    refine x_calli (bc := []) (br := [w8 q ad ω0 ω1 ω2 ω3 ω4 ω5 ω6 ω7 ω8 ω9]) hM [] [0] rfl rfl rfl (by decide) (x_runS (As := [.int mm, .int (nI 1), .int (nI 9)]) (rest := []) hfix (c_X8_within l D q mm (nI 1) (nI 9) mmz (1 : Int) (9 : Int) h_mmz (nI_toInt (n := 1) (by decide)) (nI_toInt (n := 9) (by decide))) (va_cwS 3 hts gX8_pea_X8_within rfl rfl rfl (by decide +kernel) ⟨Nat.le_of_ble_eq_true rfl, Nat.le_of_ble_eq_true rfl⟩) hM [] rfl rfl rfl hl.1 rfl (Nat.le_of_ble_eq_true rfl) dX8_pea_14 ⟨Nat.le_of_ble_eq_true rfl, Nat.le_of_ble_eq_true rfl⟩) (fun r u H locs hq hM => ?_)
    subst hq
    have hM : xM D (TY q) [w8 q ad ω0 ω1 ω2 ω3 ω4 ω5 ω6 ω7 ω8 ω9] A s.heap s H locs := hM
    refine x_ifz_ne (P := (1 : Int) ≤ mmz ∧ mmz ≤ (9 : Int)) (tgt := 22) hx hb dX8_pea_17 (by decide) (fun c2 => ?_) (fun c2 => ?_)
    · exfalso; omega
    · refine lv_iconst (v := (-1)) hx hb dX8_pea_20 (by decide) ?_
      exact x_iret hx hb hr hlocks () hM (show (-1) = (-1) from rfl) dX8_pea_21
