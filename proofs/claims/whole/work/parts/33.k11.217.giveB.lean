set_option maxHeartbeats 2000000 in
set_option maxRecDepth 100000 in
theorem c_X8_giveB (l : Launch) (D : va_G) (q : Nat → ClassId) (ad : Nat → Nat) (ω0 : Nat) (ω1 : Nat) (ω2 : Nat) (ω3 : Nat) (ω4 : Nat) (ω5 : Nat) (ω6 : Nat) (ω7 : Nat) (ω8 : Nat) (ω9 : Nat) (sd : Nat → Nat) (X : Nat → Nat → Int32) (S : Nat → Nat → Int32) (f : Int32) (fz : Int) (t : Int32) (tz : Int) (g : Int32) (gz : Int) (n : Int32) (nz : Int) (hT : okT X S) (h_fz : f.toInt = fz) (h_tz : t.toInt = tz) (h_gz : g.toInt = gz) (h_nz : n.toInt = nz) (hbad : ¬ (0 ≤ fz ∧ fz < (tn (S 5 0))) ∨ ¬ (0 ≤ tz ∧ tz < (tn (S 5 0))) ∨ f = t ∨ ¬ (0 ≤ gz ∧ gz < (tn (S 2 0))) ∨ ¬ (1 ≤ nz ∧ nz ≤ 40)) : xC l yX8_give wsX8_give ({ frames := 4, cells := 0, slots := 0, locals := 103 }) D (TY q) [w8 q ad ω0 (sd 0) ω2 ω3 ω4 ω5 ω6 ω7 ω8 ω9, wst q sd X] [.ref (ad 0), .int f, .int t, .int g, .int n] (xQi D (TY q) (fun (r : Int32) (_ : Unit) => r = (-1)) (fun _ => [w8 q ad ω0 (sd 0) ω2 ω3 ω4 ω5 ω6 ω7 ω8 ω9, wst q sd X])) 0 0 := by
  refine x_enter (cc := cX8_give) (maxL := 6) (ret := (some .int)) (by decide) rfl (Nat.le_of_ble_eq_true rfl) ?_
  intro p e s m below meth c A ls H locs hfix hr hlocks hinit hM hl
  obtain ⟨hx, hb, hml, hown, hts⟩ := id hfix
  have hl : lv_has ls 6 [(0, .ref (ad 0)), (1, .int f), (2, .int t), (3, .int g), (4, .int n)] := hl
  have hTb0 := okT_0b hT
  have hTb1 := okT_1b hT
  have hTb2 := okT_2b hT
  have hTb3 := okT_3b hT
  have hTb4 := okT_4b hT
  refine lv_aload_n hx hb dX8_give_0 rfl (lv_at hl 0 rfl) ?_
  refine x_get hx hb hts iwX8_give_X8 hown hM 0 0 rfl rfl rfl 1 (by decide) (hts _ lkX8_give_19) (fun _ h => h) rfl dX8_give_1 ?_
  refine lv_iload_n hx hb dX8_give_4 rfl (lv_at hl 1 rfl) ?_
  refine x_calli (bc := [wst q sd X]) (br := [w8 q ad ω0 (sd 0) ω2 ω3 ω4 ω5 ω6 ω7 ω8 ω9]) hM [1] [0] rfl rfl rfl (by decide) (x_runV (As := [.int f]) (rest := []) hfix (c_X7_isHouse l D q sd X S f fz hT h_fz) (cwV 1 hts gX8_give_X7_isHouse rfl rfl rfl (by decide +kernel) ⟨Nat.le_of_ble_eq_true rfl, Nat.le_of_ble_eq_true rfl⟩) hM [1] rfl rfl 1 0 rfl rfl rfl rfl rfl hl.1 rfl (Nat.le_of_ble_eq_true rfl) dX8_give_5 ⟨Nat.le_of_ble_eq_true rfl, Nat.le_of_ble_eq_true rfl⟩) (fun r u H locs hq hM => ?_)
  subst hq
  have hM : xM D (TY q) [w8 q ad ω0 (sd 0) ω2 ω3 ω4 ω5 ω6 ω7 ω8 ω9, wst q sd X] A s.heap s H locs := hM
  refine x_ifz_eq (P := 0 ≤ fz ∧ fz < (tn (S 5 0))) (tgt := 27) hx hb dX8_give_8 (by decide) (fun c1 => ?_) (fun c1 => ?_)
  · refine lv_iconst (v := (-1)) hx hb dX8_give_27 (by decide) ?_
    exact x_iret hx hb hr hlocks () hM (show (-1) = (-1) from rfl) dX8_give_28
  · refine lv_aload_n hx hb dX8_give_11 rfl (lv_at hl 0 rfl) ?_
    refine x_get hx hb hts iwX8_give_X8 hown hM 0 0 rfl rfl rfl 1 (by decide) (hts _ lkX8_give_19) (fun _ h => h) rfl dX8_give_12 ?_
    refine lv_iload_n hx hb dX8_give_15 rfl (lv_at hl 2 rfl) ?_
    refine x_calli (bc := [wst q sd X]) (br := [w8 q ad ω0 (sd 0) ω2 ω3 ω4 ω5 ω6 ω7 ω8 ω9]) hM [1] [0] rfl rfl rfl (by decide) (x_runV (As := [.int t]) (rest := []) hfix (c_X7_isHouse l D q sd X S t tz hT h_tz) (cwV 1 hts gX8_give_X7_isHouse rfl rfl rfl (by decide +kernel) ⟨Nat.le_of_ble_eq_true rfl, Nat.le_of_ble_eq_true rfl⟩) hM [1] rfl rfl 1 0 rfl rfl rfl rfl rfl hl.1 rfl (Nat.le_of_ble_eq_true rfl) dX8_give_16 ⟨Nat.le_of_ble_eq_true rfl, Nat.le_of_ble_eq_true rfl⟩) (fun r u H locs hq hM => ?_)
    subst hq
    have hM : xM D (TY q) [w8 q ad ω0 (sd 0) ω2 ω3 ω4 ω5 ω6 ω7 ω8 ω9, wst q sd X] A s.heap s H locs := hM
    refine x_ifz_eq (P := 0 ≤ tz ∧ tz < (tn (S 5 0))) (tgt := 27) hx hb dX8_give_19 (by decide) (fun c2 => ?_) (fun c2 => ?_)
    · refine lv_iconst (v := (-1)) hx hb dX8_give_27 (by decide) ?_
      exact x_iret hx hb hr hlocks () hM (show (-1) = (-1) from rfl) dX8_give_28
    · refine lv_iload_n hx hb dX8_give_22 rfl (lv_at hl 1 rfl) ?_
      refine lv_iload_n hx hb dX8_give_23 rfl (lv_at hl 2 rfl) ?_
      refine lv_icmp_ne (tgt := 29) hx hb dX8_give_24 (by decide) (fun c3 => ?_) (fun c3 => ?_)
      · have hne9 : ¬ f = t := by assumption
        refine lv_aload_n hx hb dX8_give_29 rfl (lv_at hl 0 rfl) ?_
        refine x_get hx hb hts iwX8_give_X8 hown hM 0 0 rfl rfl rfl 1 (by decide) (hts _ lkX8_give_19) (fun _ h => h) rfl dX8_give_30 ?_
        refine lv_iload_n hx hb dX8_give_33 rfl (lv_at hl 3 rfl) ?_
        refine x_calli (bc := [wst q sd X]) (br := [w8 q ad ω0 (sd 0) ω2 ω3 ω4 ω5 ω6 ω7 ω8 ω9]) hM [1] [0] rfl rfl rfl (by decide) (x_runV (As := [.int g]) (rest := []) hfix (c_X7_isGood l D q sd X S g gz hT h_gz) (cwV 1 hts gX8_give_X7_isGood rfl rfl rfl (by decide +kernel) ⟨Nat.le_of_ble_eq_true rfl, Nat.le_of_ble_eq_true rfl⟩) hM [1] rfl rfl 1 0 rfl rfl rfl rfl rfl hl.1 rfl (Nat.le_of_ble_eq_true rfl) dX8_give_34 ⟨Nat.le_of_ble_eq_true rfl, Nat.le_of_ble_eq_true rfl⟩) (fun r u H locs hq hM => ?_)
        subst hq
        have hM : xM D (TY q) [w8 q ad ω0 (sd 0) ω2 ω3 ω4 ω5 ω6 ω7 ω8 ω9, wst q sd X] A s.heap s H locs := hM
        refine x_ifz_eq (P := 0 ≤ gz ∧ gz < (tn (S 2 0))) (tgt := 51) hx hb dX8_give_37 (by decide) (fun c4 => ?_) (fun c4 => ?_)
        · refine lv_iconst (v := (-1)) hx hb dX8_give_51 (by decide) ?_
          exact x_iret hx hb hr hlocks () hM (show (-1) = (-1) from rfl) dX8_give_52
        · refine lv_iload hx hb dX8_give_40 (lv_at hl 4 rfl) ?_
          refine lv_iconst (v := nI 1) hx hb dX8_give_42 (by decide) ?_
          refine lv_bipush (v := nI 40) hx hb dX8_give_43 (by decide) ?_
          refine x_calli (bc := []) (br := [w8 q ad ω0 (sd 0) ω2 ω3 ω4 ω5 ω6 ω7 ω8 ω9, wst q sd X]) hM [] [0, 1] rfl rfl rfl (by decide) (x_runS (As := [.int n, .int (nI 1), .int (nI 40)]) (rest := []) hfix (c_X8_within l D q n (nI 1) (nI 40) nz (1 : Int) (40 : Int) h_nz (nI_toInt (n := 1) (by decide)) (nI_toInt (n := 40) (by decide))) (va_cwS 3 hts gX8_give_X8_within rfl rfl rfl (by decide +kernel) ⟨Nat.le_of_ble_eq_true rfl, Nat.le_of_ble_eq_true rfl⟩) hM [] rfl rfl rfl hl.1 rfl (Nat.le_of_ble_eq_true rfl) dX8_give_45 ⟨Nat.le_of_ble_eq_true rfl, Nat.le_of_ble_eq_true rfl⟩) (fun r u H locs hq hM => ?_)
          subst hq
          have hM : xM D (TY q) [w8 q ad ω0 (sd 0) ω2 ω3 ω4 ω5 ω6 ω7 ω8 ω9, wst q sd X] A s.heap s H locs := hM
          refine x_ifz_ne (P := (1 : Int) ≤ nz ∧ nz ≤ (40 : Int)) (tgt := 53) hx hb dX8_give_48 (by decide) (fun c5 => ?_) (fun c5 => ?_)
          · exfalso; rcases hbad with h | h | h | h | h <;> first | exact h (by assumption) | exact hne9 h | omega
          · refine lv_iconst (v := (-1)) hx hb dX8_give_51 (by decide) ?_
            exact x_iret hx hb hr hlocks () hM (show (-1) = (-1) from rfl) dX8_give_52
      · refine lv_iconst (v := (-1)) hx hb dX8_give_27 (by decide) ?_
        exact x_iret hx hb hr hlocks () hM (show (-1) = (-1) from rfl) dX8_give_28
