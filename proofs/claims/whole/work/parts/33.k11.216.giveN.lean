set_option maxHeartbeats 2000000 in
set_option maxRecDepth 100000 in
theorem c_X8_giveN (l : Launch) (D : va_G) (q : Nat → ClassId) (ad : Nat → Nat) (ω0 : Nat) (ω1 : Nat) (ω2 : Nat) (ω3 : Nat) (ω4 : Nat) (ω5 : Nat) (ω6 : Nat) (ω7 : Nat) (ω8 : Nat) (ω9 : Nat) (sd : Nat → Nat) (X : Nat → Nat → Int32) (nd : Nat → Nat) (N : Nat → Int32) (S : Nat → Nat → Int32) (f : Nat) (t : Nat) (g : Nat) (n : Nat) (hT : okT X S) (hK : okK N) (hf0 : f < (tn (S 5 0))) (ht0 : t < (tn (S 5 0))) (hft : ¬ f = t) (hg0 : g < (tn (S 2 0))) (hn9 : 1 ≤ n ∧ n ≤ 40) (hre : xarr N (S 6 f) (S 6 t) (5 * f + g) (nI n) < 0) : xC l yX8_give wsX8_give ({ frames := 4, cells := 0, slots := 0, locals := 103 }) D (TY q) [w8 q ad ω0 (sd 0) ω2 ω3 ω4 (nd 0) ω6 ω7 ω8 ω9, wst q sd X, wk q nd N] [.ref (ad 0), .int (nI f), .int (nI t), .int (nI g), .int (nI n)] (xQi D (TY q) (fun (r : Int32) (_ : Unit) => r = xarr N (S 6 f) (S 6 t) (5 * f + g) (nI n)) (fun _ => [w8 q ad ω0 (sd 0) ω2 ω3 ω4 (nd 0) ω6 ω7 ω8 ω9, wst q sd X, wk q nd N])) 0 0 := by
  refine x_enter (cc := cX8_give) (maxL := 6) (ret := (some .int)) (by decide) rfl (Nat.le_of_ble_eq_true rfl) ?_
  intro p e s m below meth c A ls H locs hfix hr hlocks hinit hM hl
  obtain ⟨hx, hb, hml, hown, hts⟩ := id hfix
  have hl : lv_has ls 6 [(0, .ref (ad 0)), (1, .int (nI f)), (2, .int (nI t)), (3, .int (nI g)), (4, .int (nI n))] := hl
  have hTb0 := okT_0b hT
  have hTb1 := okT_1b hT
  have hTb2 := okT_2b hT
  have hTb3 := okT_3b hT
  have hTb4 := okT_4b hT
  have hK25 := hK.1.2
  have hK26 := hK.2.1.2
  refine lv_aload_n hx hb dX8_give_0 rfl (lv_at hl 0 rfl) ?_
  refine x_get hx hb hts iwX8_give_X8 hown hM 0 0 rfl rfl rfl 1 (by decide) (hts _ lkX8_give_19) (fun _ h => h) rfl dX8_give_1 ?_
  refine lv_iload_n hx hb dX8_give_4 rfl (lv_at hl 1 rfl) ?_
  refine x_calli (bc := [wst q sd X]) (br := [w8 q ad ω0 (sd 0) ω2 ω3 ω4 (nd 0) ω6 ω7 ω8 ω9, wk q nd N]) hM [1] [0, 2] rfl rfl rfl (by decide) (x_runV (As := [.int (nI f)]) (rest := []) hfix (c_X7_isHouse l D q sd X S (nI f) ((f : Nat) : Int) hT (nI_toInt (n := f) (by omega))) (cwV 1 hts gX8_give_X7_isHouse rfl rfl rfl (by decide +kernel) ⟨Nat.le_of_ble_eq_true rfl, Nat.le_of_ble_eq_true rfl⟩) hM [1] rfl rfl 1 0 rfl rfl rfl rfl rfl hl.1 rfl (Nat.le_of_ble_eq_true rfl) dX8_give_5 ⟨Nat.le_of_ble_eq_true rfl, Nat.le_of_ble_eq_true rfl⟩) (fun r u H locs hq hM => ?_)
  subst hq
  have hM : xM D (TY q) [w8 q ad ω0 (sd 0) ω2 ω3 ω4 (nd 0) ω6 ω7 ω8 ω9, wk q nd N, wst q sd X] A s.heap s H locs := hM
  have hM : xM D (TY q) [w8 q ad ω0 (sd 0) ω2 ω3 ω4 (nd 0) ω6 ω7 ω8 ω9, wst q sd X, wk q nd N] A s.heap s H locs := hM.sel [0, 2, 1] rfl rfl
  refine x_ifz_eq (P := 0 ≤ ((f : Nat) : Int) ∧ ((f : Nat) : Int) < (tn (S 5 0))) (tgt := 27) hx hb dX8_give_8 (by decide) (fun c1 => ?_) (fun c1 => ?_)
  · exfalso; omega
  · refine lv_aload_n hx hb dX8_give_11 rfl (lv_at hl 0 rfl) ?_
    refine x_get hx hb hts iwX8_give_X8 hown hM 0 0 rfl rfl rfl 1 (by decide) (hts _ lkX8_give_19) (fun _ h => h) rfl dX8_give_12 ?_
    refine lv_iload_n hx hb dX8_give_15 rfl (lv_at hl 2 rfl) ?_
    refine x_calli (bc := [wst q sd X]) (br := [w8 q ad ω0 (sd 0) ω2 ω3 ω4 (nd 0) ω6 ω7 ω8 ω9, wk q nd N]) hM [1] [0, 2] rfl rfl rfl (by decide) (x_runV (As := [.int (nI t)]) (rest := []) hfix (c_X7_isHouse l D q sd X S (nI t) ((t : Nat) : Int) hT (nI_toInt (n := t) (by omega))) (cwV 1 hts gX8_give_X7_isHouse rfl rfl rfl (by decide +kernel) ⟨Nat.le_of_ble_eq_true rfl, Nat.le_of_ble_eq_true rfl⟩) hM [1] rfl rfl 1 0 rfl rfl rfl rfl rfl hl.1 rfl (Nat.le_of_ble_eq_true rfl) dX8_give_16 ⟨Nat.le_of_ble_eq_true rfl, Nat.le_of_ble_eq_true rfl⟩) (fun r u H locs hq hM => ?_)
    subst hq
    have hM : xM D (TY q) [w8 q ad ω0 (sd 0) ω2 ω3 ω4 (nd 0) ω6 ω7 ω8 ω9, wk q nd N, wst q sd X] A s.heap s H locs := hM
    have hM : xM D (TY q) [w8 q ad ω0 (sd 0) ω2 ω3 ω4 (nd 0) ω6 ω7 ω8 ω9, wst q sd X, wk q nd N] A s.heap s H locs := hM.sel [0, 2, 1] rfl rfl
    refine x_ifz_eq (P := 0 ≤ ((t : Nat) : Int) ∧ ((t : Nat) : Int) < (tn (S 5 0))) (tgt := 27) hx hb dX8_give_19 (by decide) (fun c2 => ?_) (fun c2 => ?_)
    · exfalso; omega
    · refine lv_iload_n hx hb dX8_give_22 rfl (lv_at hl 1 rfl) ?_
      refine lv_iload_n hx hb dX8_give_23 rfl (lv_at hl 2 rfl) ?_
      refine x_icmp_ne (x := f) (y := t) (tgt := 29) hx hb (by omega) (by omega) dX8_give_24 (by decide) (fun c3 => ?_) (fun c3 => ?_)
      · refine lv_aload_n hx hb dX8_give_29 rfl (lv_at hl 0 rfl) ?_
        refine x_get hx hb hts iwX8_give_X8 hown hM 0 0 rfl rfl rfl 1 (by decide) (hts _ lkX8_give_19) (fun _ h => h) rfl dX8_give_30 ?_
        refine lv_iload_n hx hb dX8_give_33 rfl (lv_at hl 3 rfl) ?_
        refine x_calli (bc := [wst q sd X]) (br := [w8 q ad ω0 (sd 0) ω2 ω3 ω4 (nd 0) ω6 ω7 ω8 ω9, wk q nd N]) hM [1] [0, 2] rfl rfl rfl (by decide) (x_runV (As := [.int (nI g)]) (rest := []) hfix (c_X7_isGood l D q sd X S (nI g) ((g : Nat) : Int) hT (nI_toInt (n := g) (by omega))) (cwV 1 hts gX8_give_X7_isGood rfl rfl rfl (by decide +kernel) ⟨Nat.le_of_ble_eq_true rfl, Nat.le_of_ble_eq_true rfl⟩) hM [1] rfl rfl 1 0 rfl rfl rfl rfl rfl hl.1 rfl (Nat.le_of_ble_eq_true rfl) dX8_give_34 ⟨Nat.le_of_ble_eq_true rfl, Nat.le_of_ble_eq_true rfl⟩) (fun r u H locs hq hM => ?_)
        subst hq
        have hM : xM D (TY q) [w8 q ad ω0 (sd 0) ω2 ω3 ω4 (nd 0) ω6 ω7 ω8 ω9, wk q nd N, wst q sd X] A s.heap s H locs := hM
        have hM : xM D (TY q) [w8 q ad ω0 (sd 0) ω2 ω3 ω4 (nd 0) ω6 ω7 ω8 ω9, wst q sd X, wk q nd N] A s.heap s H locs := hM.sel [0, 2, 1] rfl rfl
        refine x_ifz_eq (P := 0 ≤ ((g : Nat) : Int) ∧ ((g : Nat) : Int) < (tn (S 2 0))) (tgt := 51) hx hb dX8_give_37 (by decide) (fun c4 => ?_) (fun c4 => ?_)
        · exfalso; omega
        · refine lv_iload hx hb dX8_give_40 (lv_at hl 4 rfl) ?_
          refine lv_iconst (v := nI 1) hx hb dX8_give_42 (by decide) ?_
          refine lv_bipush (v := nI 40) hx hb dX8_give_43 (by decide) ?_
          refine x_calli (bc := []) (br := [w8 q ad ω0 (sd 0) ω2 ω3 ω4 (nd 0) ω6 ω7 ω8 ω9, wst q sd X, wk q nd N]) hM [] [0, 1, 2] rfl rfl rfl (by decide) (x_runS (As := [.int (nI n), .int (nI 1), .int (nI 40)]) (rest := []) hfix (c_X8_within l D q (nI n) (nI 1) (nI 40) ((n : Nat) : Int) (1 : Int) (40 : Int) (nI_toInt (n := n) (by omega)) (nI_toInt (n := 1) (by decide)) (nI_toInt (n := 40) (by decide))) (va_cwS 3 hts gX8_give_X8_within rfl rfl rfl (by decide +kernel) ⟨Nat.le_of_ble_eq_true rfl, Nat.le_of_ble_eq_true rfl⟩) hM [] rfl rfl rfl hl.1 rfl (Nat.le_of_ble_eq_true rfl) dX8_give_45 ⟨Nat.le_of_ble_eq_true rfl, Nat.le_of_ble_eq_true rfl⟩) (fun r u H locs hq hM => ?_)
          subst hq
          have hM : xM D (TY q) [w8 q ad ω0 (sd 0) ω2 ω3 ω4 (nd 0) ω6 ω7 ω8 ω9, wst q sd X, wk q nd N] A s.heap s H locs := hM
          refine x_ifz_ne (P := (1 : Int) ≤ ((n : Nat) : Int) ∧ ((n : Nat) : Int) ≤ (40 : Int)) (tgt := 53) hx hb dX8_give_48 (by decide) (fun c5 => ?_) (fun c5 => ?_)
          · refine lv_aload_n hx hb dX8_give_53 rfl (lv_at hl 0 rfl) ?_
            refine x_get hx hb hts iwX8_give_X8 hown hM 0 0 rfl rfl rfl 5 (by decide) (hts _ lkX8_give_39) (fun _ h => h) rfl dX8_give_54 ?_
            refine lv_aload_n hx hb dX8_give_57 rfl (lv_at hl 0 rfl) ?_
            refine x_get hx hb hts iwX8_give_X8 hown hM 0 0 rfl rfl rfl 1 (by decide) (hts _ lkX8_give_19) (fun _ h => h) rfl dX8_give_58 ?_
            refine lv_iload_n hx hb dX8_give_61 rfl (lv_at hl 1 rfl) ?_
            refine lv_iload_n hx hb dX8_give_62 rfl (lv_at hl 2 rfl) ?_
            refine lv_iload_n hx hb dX8_give_63 rfl (lv_at hl 3 rfl) ?_
            refine lv_iload hx hb dX8_give_64 (lv_at hl 4 rfl) ?_
            refine x_calli (bc := [wk q nd N, wst q sd X]) (br := [w8 q ad ω0 (sd 0) ω2 ω3 ω4 (nd 0) ω6 ω7 ω8 ω9]) hM [2, 1] [0] rfl rfl rfl (by decide) (x_runV (As := [.ref (sd 0), .int (nI f), .int (nI t), .int (nI g), .int (nI n)]) (rest := []) hfix (c_X1_arrivalOf l D q nd N sd X S f t g (nI n) hT (by omega) (by omega) (by omega) hK) (cwV 5 hts gX8_give_X1_arrivalOf rfl rfl rfl (by decide +kernel) ⟨Nat.le_of_ble_eq_true rfl, Nat.le_of_ble_eq_true rfl⟩) hM [2, 1] rfl rfl 2 0 rfl rfl rfl rfl rfl hl.1 rfl (Nat.le_of_ble_eq_true rfl) dX8_give_66 ⟨Nat.le_of_ble_eq_true rfl, Nat.le_of_ble_eq_true rfl⟩) (fun r u H locs hq hM => ?_)
            subst hq
            have hM : xM D (TY q) [w8 q ad ω0 (sd 0) ω2 ω3 ω4 (nd 0) ω6 ω7 ω8 ω9, wk q nd N, wst q sd X] A s.heap s H locs := hM
            have hM : xM D (TY q) [w8 q ad ω0 (sd 0) ω2 ω3 ω4 (nd 0) ω6 ω7 ω8 ω9, wst q sd X, wk q nd N] A s.heap s H locs := hM.sel [0, 2, 1] rfl rfl
            refine lv_istore (lv' := [(5, .int (xarr N (S 6 f) (S 6 t) (5 * f + g) (nI n))), (0, .ref (ad 0)), (1, .int (nI f)), (2, .int (nI t)), (3, .int (nI g)), (4, .int (nI n))]) hx hb dX8_give_69 hl (by decide) rfl (fun ls hl => ?_)
            refine lv_iload hx hb dX8_give_71 (lv_at hl 0 rfl) ?_
            refine lv_if_lt (tgt := 103) hx hb dX8_give_73 (by decide) (fun c6 => ?_) (fun c6 => ?_)
            · refine lv_iload hx hb dX8_give_103 (lv_at hl 0 rfl) ?_
              exact x_iret hx hb hr hlocks () hM (show xarr N (S 6 f) (S 6 t) (5 * f + g) (nI n) = xarr N (S 6 f) (S 6 t) (5 * f + g) (nI n) from rfl) dX8_give_105
            · exfalso; exact absurd hre (by assumption)
          · exfalso; omega
      · exfalso; omega
