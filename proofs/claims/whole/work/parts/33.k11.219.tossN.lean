set_option maxHeartbeats 2000000 in
set_option maxRecDepth 100000 in
theorem c_X8_tossN (l : Launch) (D : va_G) (q : Nat → ClassId) (ad : Nat → Nat) (ω0 : Nat) (ω1 : Nat) (ω2 : Nat) (ω3 : Nat) (ω4 : Nat) (ω5 : Nat) (ω6 : Nat) (ω7 : Nat) (ω8 : Nat) (ω9 : Nat) (sd : Nat → Nat) (X : Nat → Nat → Int32) (nd : Nat → Nat) (N : Nat → Int32) (S : Nat → Nat → Int32) (h : Nat) (g : Nat) (n : Nat) (hT : okT X S) (hK : okK N) (hh0 : h < (tn (S 5 0))) (hg0 : g < (tn (S 2 0))) (hn9 : 1 ≤ n ∧ n ≤ 40) (hsp : ¬ (tn (N 25) < 60 ∧ nI n ≤ N (5 * h + g))) : xC l yX8_toss wsX8_toss ({ frames := 4, cells := 0, slots := 0, locals := 103 }) D (TY q) [w8 q ad ω0 (sd 0) ω2 ω3 ω4 (nd 0) ω6 ω7 ω8 ω9, wst q sd X, wk q nd N] [.ref (ad 0), .int (nI h), .int (nI g), .int (nI n)] (xQi D (TY q) (fun (r : Int32) (_ : Unit) => r = (-2)) (fun _ => [w8 q ad ω0 (sd 0) ω2 ω3 ω4 (nd 0) ω6 ω7 ω8 ω9, wst q sd X, wk q nd N])) 0 0 := by
  refine x_enter (cc := cX8_toss) (maxL := 4) (ret := (some .int)) (by decide) rfl (Nat.le_of_ble_eq_true rfl) ?_
  intro p e s m below meth c A ls H locs hfix hr hlocks hinit hM hl
  obtain ⟨hx, hb, hml, hown, hts⟩ := id hfix
  have hl : lv_has ls 4 [(0, .ref (ad 0)), (1, .int (nI h)), (2, .int (nI g)), (3, .int (nI n))] := hl
  have hTb0 := okT_0b hT
  have hTb1 := okT_1b hT
  have hTb2 := okT_2b hT
  have hTb3 := okT_3b hT
  have hTb4 := okT_4b hT
  have hK25 := hK.1.2
  have hK26 := hK.2.1.2
  refine lv_aload_n hx hb dX8_toss_0 rfl (lv_at hl 0 rfl) ?_
  refine x_get hx hb hts iwX8_toss_X8 hown hM 0 0 rfl rfl rfl 1 (by decide) (hts _ lkX8_toss_19) (fun _ h => h) rfl dX8_toss_1 ?_
  refine lv_iload_n hx hb dX8_toss_4 rfl (lv_at hl 1 rfl) ?_
  refine x_calli (bc := [wst q sd X]) (br := [w8 q ad ω0 (sd 0) ω2 ω3 ω4 (nd 0) ω6 ω7 ω8 ω9, wk q nd N]) hM [1] [0, 2] rfl rfl rfl (by decide) (x_runV (As := [.int (nI h)]) (rest := []) hfix (c_X7_isHouse l D q sd X S (nI h) ((h : Nat) : Int) hT (nI_toInt (n := h) (by omega))) (cwV 1 hts gX8_toss_X7_isHouse rfl rfl rfl (by decide +kernel) ⟨Nat.le_of_ble_eq_true rfl, Nat.le_of_ble_eq_true rfl⟩) hM [1] rfl rfl 1 0 rfl rfl rfl rfl rfl hl.1 rfl (Nat.le_of_ble_eq_true rfl) dX8_toss_5 ⟨Nat.le_of_ble_eq_true rfl, Nat.le_of_ble_eq_true rfl⟩) (fun r u H locs hq hM => ?_)
  subst hq
  have hM : xM D (TY q) [w8 q ad ω0 (sd 0) ω2 ω3 ω4 (nd 0) ω6 ω7 ω8 ω9, wk q nd N, wst q sd X] A s.heap s H locs := hM
  have hM : xM D (TY q) [w8 q ad ω0 (sd 0) ω2 ω3 ω4 (nd 0) ω6 ω7 ω8 ω9, wst q sd X, wk q nd N] A s.heap s H locs := hM.sel [0, 2, 1] rfl rfl
  refine x_ifz_eq (P := 0 ≤ ((h : Nat) : Int) ∧ ((h : Nat) : Int) < (tn (S 5 0))) (tgt := 32) hx hb dX8_toss_8 (by decide) (fun c1 => ?_) (fun c1 => ?_)
  · exfalso; omega
  · refine lv_aload_n hx hb dX8_toss_11 rfl (lv_at hl 0 rfl) ?_
    refine x_get hx hb hts iwX8_toss_X8 hown hM 0 0 rfl rfl rfl 1 (by decide) (hts _ lkX8_toss_19) (fun _ h => h) rfl dX8_toss_12 ?_
    refine lv_iload_n hx hb dX8_toss_15 rfl (lv_at hl 2 rfl) ?_
    refine x_calli (bc := [wst q sd X]) (br := [w8 q ad ω0 (sd 0) ω2 ω3 ω4 (nd 0) ω6 ω7 ω8 ω9, wk q nd N]) hM [1] [0, 2] rfl rfl rfl (by decide) (x_runV (As := [.int (nI g)]) (rest := []) hfix (c_X7_isGood l D q sd X S (nI g) ((g : Nat) : Int) hT (nI_toInt (n := g) (by omega))) (cwV 1 hts gX8_toss_X7_isGood rfl rfl rfl (by decide +kernel) ⟨Nat.le_of_ble_eq_true rfl, Nat.le_of_ble_eq_true rfl⟩) hM [1] rfl rfl 1 0 rfl rfl rfl rfl rfl hl.1 rfl (Nat.le_of_ble_eq_true rfl) dX8_toss_16 ⟨Nat.le_of_ble_eq_true rfl, Nat.le_of_ble_eq_true rfl⟩) (fun r u H locs hq hM => ?_)
    subst hq
    have hM : xM D (TY q) [w8 q ad ω0 (sd 0) ω2 ω3 ω4 (nd 0) ω6 ω7 ω8 ω9, wk q nd N, wst q sd X] A s.heap s H locs := hM
    have hM : xM D (TY q) [w8 q ad ω0 (sd 0) ω2 ω3 ω4 (nd 0) ω6 ω7 ω8 ω9, wst q sd X, wk q nd N] A s.heap s H locs := hM.sel [0, 2, 1] rfl rfl
    refine x_ifz_eq (P := 0 ≤ ((g : Nat) : Int) ∧ ((g : Nat) : Int) < (tn (S 2 0))) (tgt := 32) hx hb dX8_toss_19 (by decide) (fun c2 => ?_) (fun c2 => ?_)
    · exfalso; omega
    · refine lv_iload_n hx hb dX8_toss_22 rfl (lv_at hl 3 rfl) ?_
      refine lv_iconst (v := nI 1) hx hb dX8_toss_23 (by decide) ?_
      refine lv_bipush (v := nI 40) hx hb dX8_toss_24 (by decide) ?_
      refine x_calli (bc := []) (br := [w8 q ad ω0 (sd 0) ω2 ω3 ω4 (nd 0) ω6 ω7 ω8 ω9, wst q sd X, wk q nd N]) hM [] [0, 1, 2] rfl rfl rfl (by decide) (x_runS (As := [.int (nI n), .int (nI 1), .int (nI 40)]) (rest := []) hfix (c_X8_within l D q (nI n) (nI 1) (nI 40) ((n : Nat) : Int) (1 : Int) (40 : Int) (nI_toInt (n := n) (by omega)) (nI_toInt (n := 1) (by decide)) (nI_toInt (n := 40) (by decide))) (va_cwS 3 hts gX8_toss_X8_within rfl rfl rfl (by decide +kernel) ⟨Nat.le_of_ble_eq_true rfl, Nat.le_of_ble_eq_true rfl⟩) hM [] rfl rfl rfl hl.1 rfl (Nat.le_of_ble_eq_true rfl) dX8_toss_26 ⟨Nat.le_of_ble_eq_true rfl, Nat.le_of_ble_eq_true rfl⟩) (fun r u H locs hq hM => ?_)
      subst hq
      have hM : xM D (TY q) [w8 q ad ω0 (sd 0) ω2 ω3 ω4 (nd 0) ω6 ω7 ω8 ω9, wst q sd X, wk q nd N] A s.heap s H locs := hM
      refine x_ifz_ne (P := (1 : Int) ≤ ((n : Nat) : Int) ∧ ((n : Nat) : Int) ≤ (40 : Int)) (tgt := 34) hx hb dX8_toss_29 (by decide) (fun c3 => ?_) (fun c3 => ?_)
      · refine lv_aload_n hx hb dX8_toss_34 rfl (lv_at hl 0 rfl) ?_
        refine x_get hx hb hts iwX8_toss_X8 hown hM 0 0 rfl rfl rfl 5 (by decide) (hts _ lkX8_toss_39) (fun _ h => h) rfl dX8_toss_35 ?_
        refine lv_iload_n hx hb dX8_toss_38 rfl (lv_at hl 1 rfl) ?_
        refine lv_iload_n hx hb dX8_toss_39 rfl (lv_at hl 2 rfl) ?_
        refine lv_iload_n hx hb dX8_toss_40 rfl (lv_at hl 3 rfl) ?_
        refine x_calli (bc := [wk q nd N]) (br := [w8 q ad ω0 (sd 0) ω2 ω3 ω4 (nd 0) ω6 ω7 ω8 ω9, wst q sd X]) hM [2] [0, 1] rfl rfl rfl (by decide) (x_runV (As := [.int (nI h), .int (nI g), .int (nI n)]) (rest := []) hfix (c_X1_canSpare l D q nd N h g (nI n) (by omega) (by omega) hK) (cwV 3 hts gX8_toss_X1_canSpare rfl rfl rfl (by decide +kernel) ⟨Nat.le_of_ble_eq_true rfl, Nat.le_of_ble_eq_true rfl⟩) hM [2] rfl rfl 2 0 rfl rfl rfl rfl rfl hl.1 rfl (Nat.le_of_ble_eq_true rfl) dX8_toss_41 ⟨Nat.le_of_ble_eq_true rfl, Nat.le_of_ble_eq_true rfl⟩) (fun r u H locs hq hM => ?_)
        subst hq
        have hM : xM D (TY q) [w8 q ad ω0 (sd 0) ω2 ω3 ω4 (nd 0) ω6 ω7 ω8 ω9, wst q sd X, wk q nd N] A s.heap s H locs := hM
        refine x_ifz_ne (P := tn (N 25) < 60 ∧ (nI n) ≤ N (5 * h + g)) (tgt := 50) hx hb dX8_toss_44 (by decide) (fun c4 => ?_) (fun c4 => ?_)
        · exfalso; exact absurd (by assumption) hsp
        · refine lv_bipush (v := (-2)) hx hb dX8_toss_47 (by decide) ?_
          exact x_iret hx hb hr hlocks () hM (show (-2) = (-2) from rfl) dX8_toss_49
      · exfalso; omega
