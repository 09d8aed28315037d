set_option maxHeartbeats 2000000 in
set_option maxRecDepth 100000 in
theorem c_X8_tossB (l : Launch) (D : va_G) (q : Nat → ClassId) (ad : Nat → Nat) (ω0 : Nat) (ω1 : Nat) (ω2 : Nat) (ω3 : Nat) (ω4 : Nat) (ω5 : Nat) (ω6 : Nat) (ω7 : Nat) (ω8 : Nat) (ω9 : Nat) (sd : Nat → Nat) (X : Nat → Nat → Int32) (S : Nat → Nat → Int32) (h : Int32) (hz : Int) (g : Int32) (gz : Int) (n : Int32) (nz : Int) (hT : okT X S) (h_hz : h.toInt = hz) (h_gz : g.toInt = gz) (h_nz : n.toInt = nz) (hbad : ¬ (0 ≤ hz ∧ hz < (tn (S 5 0))) ∨ ¬ (0 ≤ gz ∧ gz < (tn (S 2 0))) ∨ ¬ (1 ≤ nz ∧ nz ≤ 40)) : xC l yX8_toss wsX8_toss ({ frames := 4, cells := 0, slots := 0, locals := 103 }) D (TY q) [w8 q ad ω0 (sd 0) ω2 ω3 ω4 ω5 ω6 ω7 ω8 ω9, wst q sd X] [.ref (ad 0), .int h, .int g, .int n] (xQi D (TY q) (fun (r : Int32) (_ : Unit) => r = (-1)) (fun _ => [w8 q ad ω0 (sd 0) ω2 ω3 ω4 ω5 ω6 ω7 ω8 ω9, wst q sd X])) 0 0 := by
  refine x_enter (cc := cX8_toss) (maxL := 4) (ret := (some .int)) (by decide) rfl (Nat.le_of_ble_eq_true rfl) ?_
  intro p e s m below meth c A ls H locs hfix hr hlocks hinit hM hl
  obtain ⟨hx, hb, hml, hown, hts⟩ := id hfix
  have hl : lv_has ls 4 [(0, .ref (ad 0)), (1, .int h), (2, .int g), (3, .int n)] := hl
  have hTb0 := okT_0b hT
  have hTb1 := okT_1b hT
  have hTb2 := okT_2b hT
  have hTb3 := okT_3b hT
  have hTb4 := okT_4b hT
  refine lv_aload_n hx hb dX8_toss_0 rfl (lv_at hl 0 rfl) ?_
  refine x_get hx hb hts iwX8_toss_X8 hown hM 0 0 rfl rfl rfl 1 (by decide) (hts _ lkX8_toss_19) (fun _ h => h) rfl dX8_toss_1 ?_
  refine lv_iload_n hx hb dX8_toss_4 rfl (lv_at hl 1 rfl) ?_
  refine x_calli (bc := [wst q sd X]) (br := [w8 q ad ω0 (sd 0) ω2 ω3 ω4 ω5 ω6 ω7 ω8 ω9]) hM [1] [0] rfl rfl rfl (by decide) (x_runV (As := [.int h]) (rest := []) hfix (c_X7_isHouse l D q sd X S h hz hT h_hz) (cwV 1 hts gX8_toss_X7_isHouse rfl rfl rfl (by decide +kernel) ⟨Nat.le_of_ble_eq_true rfl, Nat.le_of_ble_eq_true rfl⟩) hM [1] rfl rfl 1 0 rfl rfl rfl rfl rfl hl.1 rfl (Nat.le_of_ble_eq_true rfl) dX8_toss_5 ⟨Nat.le_of_ble_eq_true rfl, Nat.le_of_ble_eq_true rfl⟩) (fun r u H locs hq hM => ?_)
  subst hq
  have hM : xM D (TY q) [w8 q ad ω0 (sd 0) ω2 ω3 ω4 ω5 ω6 ω7 ω8 ω9, wst q sd X] A s.heap s H locs := hM
  refine x_ifz_eq (P := 0 ≤ hz ∧ hz < (tn (S 5 0))) (tgt := 32) hx hb dX8_toss_8 (by decide) (fun c1 => ?_) (fun c1 => ?_)
  · refine lv_iconst (v := (-1)) hx hb dX8_toss_32 (by decide) ?_
    exact x_iret hx hb hr hlocks () hM (show (-1) = (-1) from rfl) dX8_toss_33
  · refine lv_aload_n hx hb dX8_toss_11 rfl (lv_at hl 0 rfl) ?_
    refine x_get hx hb hts iwX8_toss_X8 hown hM 0 0 rfl rfl rfl 1 (by decide) (hts _ lkX8_toss_19) (fun _ h => h) rfl dX8_toss_12 ?_
    refine lv_iload_n hx hb dX8_toss_15 rfl (lv_at hl 2 rfl) ?_
    refine x_calli (bc := [wst q sd X]) (br := [w8 q ad ω0 (sd 0) ω2 ω3 ω4 ω5 ω6 ω7 ω8 ω9]) hM [1] [0] rfl rfl rfl (by decide) (x_runV (As := [.int g]) (rest := []) hfix (c_X7_isGood l D q sd X S g gz hT h_gz) (cwV 1 hts gX8_toss_X7_isGood rfl rfl rfl (by decide +kernel) ⟨Nat.le_of_ble_eq_true rfl, Nat.le_of_ble_eq_true rfl⟩) hM [1] rfl rfl 1 0 rfl rfl rfl rfl rfl hl.1 rfl (Nat.le_of_ble_eq_true rfl) dX8_toss_16 ⟨Nat.le_of_ble_eq_true rfl, Nat.le_of_ble_eq_true rfl⟩) (fun r u H locs hq hM => ?_)
    subst hq
    have hM : xM D (TY q) [w8 q ad ω0 (sd 0) ω2 ω3 ω4 ω5 ω6 ω7 ω8 ω9, wst q sd X] A s.heap s H locs := hM
    refine x_ifz_eq (P := 0 ≤ gz ∧ gz < (tn (S 2 0))) (tgt := 32) hx hb dX8_toss_19 (by decide) (fun c2 => ?_) (fun c2 => ?_)
    · refine lv_iconst (v := (-1)) hx hb dX8_toss_32 (by decide) ?_
      exact x_iret hx hb hr hlocks () hM (show (-1) = (-1) from rfl) dX8_toss_33
    · refine lv_iload_n hx hb dX8_toss_22 rfl (lv_at hl 3 rfl) ?_
      refine lv_iconst (v := nI 1) hx hb dX8_toss_23 (by decide) ?_
      refine lv_bipush (v := nI 40) hx hb dX8_toss_24 (by decide) ?_
      refine x_calli (bc := []) (br := [w8 q ad ω0 (sd 0) ω2 ω3 ω4 ω5 ω6 ω7 ω8 ω9, wst q sd X]) hM [] [0, 1] rfl rfl rfl (by decide) (x_runS (As := [.int n, .int (nI 1), .int (nI 40)]) (rest := []) hfix (c_X8_within l D q n (nI 1) (nI 40) nz (1 : Int) (40 : Int) h_nz (nI_toInt (n := 1) (by decide)) (nI_toInt (n := 40) (by decide))) (va_cwS 3 hts gX8_toss_X8_within rfl rfl rfl (by decide +kernel) ⟨Nat.le_of_ble_eq_true rfl, Nat.le_of_ble_eq_true rfl⟩) hM [] rfl rfl rfl hl.1 rfl (Nat.le_of_ble_eq_true rfl) dX8_toss_26 ⟨Nat.le_of_ble_eq_true rfl, Nat.le_of_ble_eq_true rfl⟩) (fun r u H locs hq hM => ?_)
      subst hq
      have hM : xM D (TY q) [w8 q ad ω0 (sd 0) ω2 ω3 ω4 ω5 ω6 ω7 ω8 ω9, wst q sd X] A s.heap s H locs := hM
      refine x_ifz_ne (P := (1 : Int) ≤ nz ∧ nz ≤ (40 : Int)) (tgt := 34) hx hb dX8_toss_29 (by decide) (fun c3 => ?_) (fun c3 => ?_)
      · exfalso; omega
      · refine lv_iconst (v := (-1)) hx hb dX8_toss_32 (by decide) ?_
        exact x_iret hx hb hr hlocks () hM (show (-1) = (-1) from rfl) dX8_toss_33
