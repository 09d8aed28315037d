set_option maxHeartbeats 2000000 in
set_option maxRecDepth 100000 in
theorem c_X8_carriedB (l : Launch) (D : va_G) (q : Nat → ClassId) (ad : Nat → Nat) (ω0 : Nat) (ω1 : Nat) (ω2 : Nat) (ω3 : Nat) (ω4 : Nat) (ω5 : Nat) (ω6 : Nat) (ω7 : Nat) (ω8 : Nat) (ω9 : Nat) (sd : Nat → Nat) (X : Nat → Nat → Int32) (S : Nat → Nat → Int32) (g : Int32) (gz : Int) (cc : Int32) (ccz : Int) (hT : okT X S) (h_gz : g.toInt = gz) (h_ccz : cc.toInt = ccz) (hbad : ¬ (0 ≤ gz ∧ gz < (tn (S 2 0))) ∨ ¬ (0 ≤ ccz ∧ ccz ≤ 60)) : xC l yX8_carried wsX8_carried ({ frames := 6, cells := 0, slots := 0, locals := 140 }) D (TY q) [w8 q ad ω0 (sd 0) ω2 ω3 ω4 ω5 ω6 ω7 ω8 ω9, wst q sd X] [.ref (ad 0), .int g, .int cc] (xQi D (TY q) (fun (r : Int32) (_ : Unit) => r = (-1)) (fun _ => [w8 q ad ω0 (sd 0) ω2 ω3 ω4 ω5 ω6 ω7 ω8 ω9, wst q sd X])) 0 0 := by
  refine x_enter (cc := cX8_carried) (maxL := 3) (ret := (some .int)) (by decide) rfl (Nat.le_of_ble_eq_true rfl) ?_
  intro p e s m below meth c A ls H locs hfix hr hlocks hinit hM hl
  obtain ⟨hx, hb, hml, hown, hts⟩ := id hfix
  have hl : lv_has ls 3 [(0, .ref (ad 0)), (1, .int g), (2, .int cc)] := hl
  have hTb0 := okT_0b hT
  have hTb1 := okT_1b hT
  have hTb2 := okT_2b hT
  have hTb3 := okT_3b hT
  have hTb4 := okT_4b hT
  refine lv_aload_n hx hb dX8_carried_0 rfl (lv_at hl 0 rfl) ?_
  refine x_get hx hb hts iwX8_carried_X8 hown hM 0 0 rfl rfl rfl 1 (by decide) (hts _ lkX8_carried_19) (fun _ h => h) rfl dX8_carried_1 ?_
  refine lv_iload_n hx hb dX8_carried_4 rfl (lv_at hl 1 rfl) ?_
  refine x_calli (bc := [wst q sd X]) (br := [w8 q ad ω0 (sd 0) ω2 ω3 ω4 ω5 ω6 ω7 ω8 ω9]) hM [1] [0] rfl rfl rfl (by decide) (x_runV (As := [.int g]) (rest := []) hfix (c_X7_isGood l D q sd X S g gz hT h_gz) (cwV 1 hts gX8_carried_X7_isGood rfl rfl rfl (by decide +kernel) ⟨Nat.le_of_ble_eq_true rfl, Nat.le_of_ble_eq_true rfl⟩) hM [1] rfl rfl 1 0 rfl rfl rfl rfl rfl hl.1 rfl (Nat.le_of_ble_eq_true rfl) dX8_carried_5 ⟨Nat.le_of_ble_eq_true rfl, Nat.le_of_ble_eq_true rfl⟩) (fun r u H locs hq hM => ?_)
  subst hq
  have hM : xM D (TY q) [w8 q ad ω0 (sd 0) ω2 ω3 ω4 ω5 ω6 ω7 ω8 ω9, wst q sd X] A s.heap s H locs := hM
  refine x_ifz_eq (P := 0 ≤ gz ∧ gz < (tn (S 2 0))) (tgt := 21) hx hb dX8_carried_8 (by decide) (fun c1 => ?_) (fun c1 => ?_)
  · refine lv_iconst (v := (-1)) hx hb dX8_carried_21 (by decide) ?_
    exact x_iret hx hb hr hlocks () hM (show (-1) = (-1) from rfl) dX8_carried_22
  · refine lv_iload_n hx hb dX8_carried_11 rfl (lv_at hl 2 rfl) ?_
    refine lv_iconst (v := nI 0) hx hb dX8_carried_12 (by decide) ?_
    refine lv_bipush (v := nI 60) hx hb dX8_carried_13 (by decide) ?_
    refine x_calli (bc := []) (br := [w8 q ad ω0 (sd 0) ω2 ω3 ω4 ω5 ω6 ω7 ω8 ω9, wst q sd X]) hM [] [0, 1] rfl rfl rfl (by decide) (x_runS (As := [.int cc, .int (nI 0), .int (nI 60)]) (rest := []) hfix (c_X8_within l D q cc (nI 0) (nI 60) ccz (0 : Int) (60 : Int) h_ccz (nI_toInt (n := 0) (by decide)) (nI_toInt (n := 60) (by decide))) (va_cwS 3 hts gX8_carried_X8_within rfl rfl rfl (by decide +kernel) ⟨Nat.le_of_ble_eq_true rfl, Nat.le_of_ble_eq_true rfl⟩) hM [] rfl rfl rfl hl.1 rfl (Nat.le_of_ble_eq_true rfl) dX8_carried_15 ⟨Nat.le_of_ble_eq_true rfl, Nat.le_of_ble_eq_true rfl⟩) (fun r u H locs hq hM => ?_)
    subst hq
    have hM : xM D (TY q) [w8 q ad ω0 (sd 0) ω2 ω3 ω4 ω5 ω6 ω7 ω8 ω9, wst q sd X] A s.heap s H locs := hM
    refine x_ifz_ne (P := (0 : Int) ≤ ccz ∧ ccz ≤ (60 : Int)) (tgt := 23) hx hb dX8_carried_18 (by decide) (fun c2 => ?_) (fun c2 => ?_)
    · exfalso; omega
    · refine lv_iconst (v := (-1)) hx hb dX8_carried_21 (by decide) ?_
      exact x_iret hx hb hr hlocks () hM (show (-1) = (-1) from rfl) dX8_carried_22
