set_option maxHeartbeats 2000000 in
set_option maxRecDepth 100000 in
theorem c_X8_taken (l : Launch) (D : va_G) (q : Nat → ClassId) (ad : Nat → Nat) (ω0 : Nat) (ω1 : Nat) (ω2 : Nat) (ω3 : Nat) (ω4 : Nat) (ω5 : Nat) (ω6 : Nat) (ω7 : Nat) (ω8 : Nat) (ω9 : Nat) (sd : Nat → Nat) (X : Nat → Nat → Int32) (nd : Nat → Nat) (N : Nat → Int32) (md : Nat → Nat) (μ0 : Nat → Int32) (μ1 : Nat → Int32) (μ2 : Int32) (hd : Nat → Nat) (τ0 : Int32) (τ1 : Int32) (τ2 : Int32) (τ3 : Int32) (τ4 : Nat) (fd : Nat → Nat) (F : Nat → Int32) (S : Nat → Nat → Int32) (h : Nat) (hT : okT X S) (hK : okK N) (hMl : okM μ0 μ1 (S 11) (tn (S 8 0)) (-4)) (hh0 : h < (tn (S 5 0))) : xC l yX8_taken wsX8_taken ({ frames := 6, cells := 0, slots := 0, locals := 140 }) D (TY q) [w8 q ad ω0 (sd 0) ω2 (md 0) ω4 (nd 0) ω6 ω7 (hd 0) ω9, wst q sd X, wk q nd N, w3 q md μ0 μ1 μ2, w0 q hd τ0 τ1 τ2 τ3 (fd 0), wk q fd F] [.ref (ad 0), .int (nI h)] (xQi D (TY q) (fun (r : Int32) (_ : (Nat → Int32)) => r = kW (S 3) (S 4) (tn (S 2 0)) (kGoN (S 4) (tn (S 2 0)) (tn (S 5 0)) (S 9) (S 10) (S 11) (tn (S 8 0)) (-4) (N, -4, nI 0) (60 - tn (N 25))).1 h) (fun (u : (Nat → Int32)) => [w8 q ad ω0 (sd 0) ω2 (md 0) ω4 (nd 0) ω6 ω7 (hd 0) ω9, wst q sd X, wk q nd N, w3 q md μ0 μ1 μ2, w0 q hd τ0 τ1 τ2 τ3 (fd 0), wk q fd u])) 0 0 := by
  refine x_enter (cc := cX8_taken) (maxL := 3) (ret := (some .int)) (by decide) rfl (Nat.le_of_ble_eq_true rfl) ?_
  intro p e s m below meth c A ls H locs hfix hr hlocks hinit hM hl
  obtain ⟨hx, hb, hml, hown, hts⟩ := id hfix
  have hl : lv_has ls 3 [(0, .ref (ad 0)), (1, .int (nI h))] := hl
  have hTb0 := okT_0b hT
  have hTb1 := okT_1b hT
  have hTb2 := okT_2b hT
  have hTb3 := okT_3b hT
  have hTb4 := okT_4b hT
  have hK25 := hK.1.2
  have hK26 := hK.2.1.2
  refine lv_iload_n hx hb dX8_taken_0 rfl (lv_at hl 1 rfl) ?_
  refine lv_iconst (v := (-1)) hx hb dX8_taken_1 (by decide) ?_
  refine lv_icmp_eq (tgt := 18) hx hb dX8_taken_2 (by decide) (fun c1 => ?_) (fun c1 => ?_)
  · refine lv_aload_n hx hb dX8_taken_18 rfl (lv_at hl 0 rfl) ?_
    refine x_get hx hb hts iwX8_taken_X8 hown hM 0 0 rfl rfl rfl 8 (by decide) (hts _ lkX8_taken_58) (fun _ h => h) rfl dX8_taken_19 ?_
    refine lv_aload_n hx hb dX8_taken_22 rfl (lv_at hl 0 rfl) ?_
    refine x_get hx hb hts iwX8_taken_X8 hown hM 0 0 rfl rfl rfl 1 (by decide) (hts _ lkX8_taken_19) (fun _ h => h) rfl dX8_taken_23 ?_
    refine lv_aload_n hx hb dX8_taken_26 rfl (lv_at hl 0 rfl) ?_
    refine x_get hx hb hts iwX8_taken_X8 hown hM 0 0 rfl rfl rfl 5 (by decide) (hts _ lkX8_taken_39) (fun _ h => h) rfl dX8_taken_27 ?_
    refine lv_aload_n hx hb dX8_taken_30 rfl (lv_at hl 0 rfl) ?_
    refine x_get hx hb hts iwX8_taken_X8 hown hM 0 0 rfl rfl rfl 3 (by decide) (hts _ lkX8_taken_29) (fun _ h => h) rfl dX8_taken_31 ?_
    refine x_callr (bc := [w0 q hd τ0 τ1 τ2 τ3 (fd 0), wst q sd X, wk q nd N, w3 q md μ0 μ1 μ2, wk q fd F]) (br := [w8 q ad ω0 (sd 0) ω2 (md 0) ω4 (nd 0) ω6 ω7 (hd 0) ω9]) hM [4, 1, 2, 3, 5] [0] rfl rfl rfl (by decide) (x_runV (As := [.ref (sd 0), .ref (nd 0), .ref (md 0)]) (rest := []) hfix (c_X0_look l D q hd τ0 τ1 τ2 τ3 (fd 0) sd X nd N md μ0 μ1 μ2 fd F S (-4) hT hMl hK) (cwV 3 hts gX8_taken_X0_look rfl rfl rfl (by decide +kernel) ⟨Nat.le_of_ble_eq_true rfl, Nat.le_of_ble_eq_true rfl⟩) hM [4, 1, 2, 3, 5] rfl rfl 4 0 rfl rfl rfl rfl rfl hl.1 rfl (Nat.le_of_ble_eq_true rfl) dX8_taken_34 ⟨Nat.le_of_ble_eq_true rfl, Nat.le_of_ble_eq_true rfl⟩) (fun u H locs hq hM => ?_)
    have hM : xM D (TY q) [w8 q ad ω0 (sd 0) ω2 (md 0) ω4 (nd 0) ω6 ω7 (hd 0) ω9, w0 q hd τ0 τ1 τ2 τ3 (fd 0), wst q sd X, wk q nd N, w3 q md μ0 μ1 μ2, wk q fd (kGoN (S 4) (tn (S 2 0)) (tn (S 5 0)) (S 9) (S 10) (S 11) (tn (S 8 0)) (-4) (N, -4, nI 0) (60 - tn (N 25))).1] A s.heap s H locs := hM
    have hM : xM D (TY q) [w8 q ad ω0 (sd 0) ω2 (md 0) ω4 (nd 0) ω6 ω7 (hd 0) ω9, wst q sd X, wk q nd N, w3 q md μ0 μ1 μ2, w0 q hd τ0 τ1 τ2 τ3 (fd 0), wk q fd (kGoN (S 4) (tn (S 2 0)) (tn (S 5 0)) (S 9) (S 10) (S 11) (tn (S 8 0)) (-4) (N, -4, nI 0) (60 - tn (N 25))).1] A s.heap s H locs := hM.sel [0, 2, 3, 4, 1, 5] rfl rfl
    refine lv_astore_n (lv' := [(2, .ref (fd 0)), (0, .ref (ad 0)), (1, .int (nI h))]) hx hb dX8_taken_37 rfl hl (by decide) rfl (fun ls hl => ?_)
    refine lv_iload_n hx hb dX8_taken_38 rfl (lv_at hl 2 rfl) ?_
    refine lv_iconst (v := (-1)) hx hb dX8_taken_39 (by decide) ?_
    refine lv_icmp_ne (tgt := 54) hx hb dX8_taken_40 (by decide) (fun c2 => ?_) (fun c2 => ?_)
    · refine lv_aload_n hx hb dX8_taken_54 rfl (lv_at hl 0 rfl) ?_
      refine lv_aload_n hx hb dX8_taken_55 rfl (lv_at hl 1 rfl) ?_
      refine x_get hx hb hts iwX8_taken_X8 hown hM 0 0 rfl rfl rfl 1 (by decide) (hts _ lkX8_taken_19) (fun _ h => h) rfl dX8_taken_56 ?_
      refine lv_iload_n hx hb dX8_taken_59 rfl (lv_at hl 2 rfl) ?_
      refine x_calli (bc := [wk q fd (kGoN (S 4) (tn (S 2 0)) (tn (S 5 0)) (S 9) (S 10) (S 11) (tn (S 8 0)) (-4) (N, -4, nI 0) (60 - tn (N 25))).1, wst q sd X]) (br := [w8 q ad ω0 (sd 0) ω2 (md 0) ω4 (nd 0) ω6 ω7 (hd 0) ω9, wk q nd N, w3 q md μ0 μ1 μ2, w0 q hd τ0 τ1 τ2 τ3 (fd 0)]) hM [5, 1] [0, 2, 3, 4] rfl rfl rfl (by decide) (x_runV (As := [.ref (sd 0), .int (nI h)]) (rest := []) hfix (c_X1_worthOf l D q fd (kGoN (S 4) (tn (S 2 0)) (tn (S 5 0)) (S 9) (S 10) (S 11) (tn (S 8 0)) (-4) (N, -4, nI 0) (60 - tn (N 25))).1 sd X S h hT (by omega)) (cwV 2 hts gX8_taken_X1_worthOf rfl rfl rfl (by decide +kernel) ⟨Nat.le_of_ble_eq_true rfl, Nat.le_of_ble_eq_true rfl⟩) hM [5, 1] rfl rfl 5 0 rfl rfl rfl rfl rfl hl.1 rfl (Nat.le_of_ble_eq_true rfl) dX8_taken_60 ⟨Nat.le_of_ble_eq_true rfl, Nat.le_of_ble_eq_true rfl⟩) (fun r u H locs hq hM => ?_)
      subst hq
      have hM : xM D (TY q) [w8 q ad ω0 (sd 0) ω2 (md 0) ω4 (nd 0) ω6 ω7 (hd 0) ω9, wk q nd N, w3 q md μ0 μ1 μ2, w0 q hd τ0 τ1 τ2 τ3 (fd 0), wk q fd (kGoN (S 4) (tn (S 2 0)) (tn (S 5 0)) (S 9) (S 10) (S 11) (tn (S 8 0)) (-4) (N, -4, nI 0) (60 - tn (N 25))).1, wst q sd X] A s.heap s H locs := hM
      have hM : xM D (TY q) [w8 q ad ω0 (sd 0) ω2 (md 0) ω4 (nd 0) ω6 ω7 (hd 0) ω9, wst q sd X, wk q nd N, w3 q md μ0 μ1 μ2, w0 q hd τ0 τ1 τ2 τ3 (fd 0), wk q fd (kGoN (S 4) (tn (S 2 0)) (tn (S 5 0)) (S 9) (S 10) (S 11) (tn (S 8 0)) (-4) (N, -4, nI 0) (60 - tn (N 25))).1] A s.heap s H locs := hM.sel [0, 5, 1, 2, 3, 4] rfl rfl
      exact x_iret hx hb hr hlocks (kGoN (S 4) (tn (S 2 0)) (tn (S 5 0)) (S 9) (S 10) (S 11) (tn (S 8 0)) (-4) (N, -4, nI 0) (60 - tn (N 25))).1 hM (show kW (S 3) (S 4) (tn (S 2 0)) (kGoN (S 4) (tn (S 2 0)) (tn (S 5 0)) (S 9) (S 10) (S 11) (tn (S 8 0)) (-4) (N, -4, nI 0) (60 - tn (N 25))).1 h = kW (S 3) (S 4) (tn (S 2 0)) (kGoN (S 4) (tn (S 2 0)) (tn (S 5 0)) (S 9) (S 10) (S 11) (tn (S 8 0)) (-4) (N, -4, nI 0) (60 - tn (N 25))).1 h from rfl) dX8_taken_63
    · exfalso; exact absurd (by assumption) (nI_ne (by omega))
  · refine lv_aload_n hx hb dX8_taken_5 rfl (lv_at hl 0 rfl) ?_
    refine x_get hx hb hts iwX8_taken_X8 hown hM 0 0 rfl rfl rfl 1 (by decide) (hts _ lkX8_taken_19) (fun _ h => h) rfl dX8_taken_6 ?_
    refine lv_iload_n hx hb dX8_taken_9 rfl (lv_at hl 1 rfl) ?_
    refine x_calli (bc := [wst q sd X]) (br := [w8 q ad ω0 (sd 0) ω2 (md 0) ω4 (nd 0) ω6 ω7 (hd 0) ω9, wk q nd N, w3 q md μ0 μ1 μ2, w0 q hd τ0 τ1 τ2 τ3 (fd 0), wk q fd F]) hM [1] [0, 2, 3, 4, 5] rfl rfl rfl (by decide) (x_runV (As := [.int (nI h)]) (rest := []) hfix (c_X7_isHouse l D q sd X S (nI h) ((h : Nat) : Int) hT (nI_toInt (n := h) (by omega))) (cwV 1 hts gX8_taken_X7_isHouse rfl rfl rfl (by decide +kernel) ⟨Nat.le_of_ble_eq_true rfl, Nat.le_of_ble_eq_true rfl⟩) hM [1] rfl rfl 1 0 rfl rfl rfl rfl rfl hl.1 rfl (Nat.le_of_ble_eq_true rfl) dX8_taken_10 ⟨Nat.le_of_ble_eq_true rfl, Nat.le_of_ble_eq_true rfl⟩) (fun r u H locs hq hM => ?_)
    subst hq
    have hM : xM D (TY q) [w8 q ad ω0 (sd 0) ω2 (md 0) ω4 (nd 0) ω6 ω7 (hd 0) ω9, wk q nd N, w3 q md μ0 μ1 μ2, w0 q hd τ0 τ1 τ2 τ3 (fd 0), wk q fd F, wst q sd X] A s.heap s H locs := hM
    have hM : xM D (TY q) [w8 q ad ω0 (sd 0) ω2 (md 0) ω4 (nd 0) ω6 ω7 (hd 0) ω9, wst q sd X, wk q nd N, w3 q md μ0 μ1 μ2, w0 q hd τ0 τ1 τ2 τ3 (fd 0), wk q fd F] A s.heap s H locs := hM.sel [0, 5, 1, 2, 3, 4] rfl rfl
    refine x_ifz_ne (P := 0 ≤ ((h : Nat) : Int) ∧ ((h : Nat) : Int) < (tn (S 5 0))) (tgt := 18) hx hb dX8_taken_13 (by decide) (fun c3 => ?_) (fun c3 => ?_)
    · refine lv_aload_n hx hb dX8_taken_18 rfl (lv_at hl 0 rfl) ?_
      refine x_get hx hb hts iwX8_taken_X8 hown hM 0 0 rfl rfl rfl 8 (by decide) (hts _ lkX8_taken_58) (fun _ h => h) rfl dX8_taken_19 ?_
      refine lv_aload_n hx hb dX8_taken_22 rfl (lv_at hl 0 rfl) ?_
      refine x_get hx hb hts iwX8_taken_X8 hown hM 0 0 rfl rfl rfl 1 (by decide) (hts _ lkX8_taken_19) (fun _ h => h) rfl dX8_taken_23 ?_
      refine lv_aload_n hx hb dX8_taken_26 rfl (lv_at hl 0 rfl) ?_
      refine x_get hx hb hts iwX8_taken_X8 hown hM 0 0 rfl rfl rfl 5 (by decide) (hts _ lkX8_taken_39) (fun _ h => h) rfl dX8_taken_27 ?_
      refine lv_aload_n hx hb dX8_taken_30 rfl (lv_at hl 0 rfl) ?_
      refine x_get hx hb hts iwX8_taken_X8 hown hM 0 0 rfl rfl rfl 3 (by decide) (hts _ lkX8_taken_29) (fun _ h => h) rfl dX8_taken_31 ?_
      refine x_callr (bc := [w0 q hd τ0 τ1 τ2 τ3 (fd 0), wst q sd X, wk q nd N, w3 q md μ0 μ1 μ2, wk q fd F]) (br := [w8 q ad ω0 (sd 0) ω2 (md 0) ω4 (nd 0) ω6 ω7 (hd 0) ω9]) hM [4, 1, 2, 3, 5] [0] rfl rfl rfl (by decide) (x_runV (As := [.ref (sd 0), .ref (nd 0), .ref (md 0)]) (rest := []) hfix (c_X0_look l D q hd τ0 τ1 τ2 τ3 (fd 0) sd X nd N md μ0 μ1 μ2 fd F S (-4) hT hMl hK) (cwV 3 hts gX8_taken_X0_look rfl rfl rfl (by decide +kernel) ⟨Nat.le_of_ble_eq_true rfl, Nat.le_of_ble_eq_true rfl⟩) hM [4, 1, 2, 3, 5] rfl rfl 4 0 rfl rfl rfl rfl rfl hl.1 rfl (Nat.le_of_ble_eq_true rfl) dX8_taken_34 ⟨Nat.le_of_ble_eq_true rfl, Nat.le_of_ble_eq_true rfl⟩) (fun u H locs hq hM => ?_)
      have hM : xM D (TY q) [w8 q ad ω0 (sd 0) ω2 (md 0) ω4 (nd 0) ω6 ω7 (hd 0) ω9, w0 q hd τ0 τ1 τ2 τ3 (fd 0), wst q sd X, wk q nd N, w3 q md μ0 μ1 μ2, wk q fd (kGoN (S 4) (tn (S 2 0)) (tn (S 5 0)) (S 9) (S 10) (S 11) (tn (S 8 0)) (-4) (N, -4, nI 0) (60 - tn (N 25))).1] A s.heap s H locs := hM
      have hM : xM D (TY q) [w8 q ad ω0 (sd 0) ω2 (md 0) ω4 (nd 0) ω6 ω7 (hd 0) ω9, wst q sd X, wk q nd N, w3 q md μ0 μ1 μ2, w0 q hd τ0 τ1 τ2 τ3 (fd 0), wk q fd (kGoN (S 4) (tn (S 2 0)) (tn (S 5 0)) (S 9) (S 10) (S 11) (tn (S 8 0)) (-4) (N, -4, nI 0) (60 - tn (N 25))).1] A s.heap s H locs := hM.sel [0, 2, 3, 4, 1, 5] rfl rfl
      refine lv_astore_n (lv' := [(2, .ref (fd 0)), (0, .ref (ad 0)), (1, .int (nI h))]) hx hb dX8_taken_37 rfl hl (by decide) rfl (fun ls hl => ?_)
      refine lv_iload_n hx hb dX8_taken_38 rfl (lv_at hl 2 rfl) ?_
      refine lv_iconst (v := (-1)) hx hb dX8_taken_39 (by decide) ?_
      refine lv_icmp_ne (tgt := 54) hx hb dX8_taken_40 (by decide) (fun c4 => ?_) (fun c4 => ?_)
      · refine lv_aload_n hx hb dX8_taken_54 rfl (lv_at hl 0 rfl) ?_
        refine lv_aload_n hx hb dX8_taken_55 rfl (lv_at hl 1 rfl) ?_
        refine x_get hx hb hts iwX8_taken_X8 hown hM 0 0 rfl rfl rfl 1 (by decide) (hts _ lkX8_taken_19) (fun _ h => h) rfl dX8_taken_56 ?_
        refine lv_iload_n hx hb dX8_taken_59 rfl (lv_at hl 2 rfl) ?_
        refine x_calli (bc := [wk q fd (kGoN (S 4) (tn (S 2 0)) (tn (S 5 0)) (S 9) (S 10) (S 11) (tn (S 8 0)) (-4) (N, -4, nI 0) (60 - tn (N 25))).1, wst q sd X]) (br := [w8 q ad ω0 (sd 0) ω2 (md 0) ω4 (nd 0) ω6 ω7 (hd 0) ω9, wk q nd N, w3 q md μ0 μ1 μ2, w0 q hd τ0 τ1 τ2 τ3 (fd 0)]) hM [5, 1] [0, 2, 3, 4] rfl rfl rfl (by decide) (x_runV (As := [.ref (sd 0), .int (nI h)]) (rest := []) hfix (c_X1_worthOf l D q fd (kGoN (S 4) (tn (S 2 0)) (tn (S 5 0)) (S 9) (S 10) (S 11) (tn (S 8 0)) (-4) (N, -4, nI 0) (60 - tn (N 25))).1 sd X S h hT (by omega)) (cwV 2 hts gX8_taken_X1_worthOf rfl rfl rfl (by decide +kernel) ⟨Nat.le_of_ble_eq_true rfl, Nat.le_of_ble_eq_true rfl⟩) hM [5, 1] rfl rfl 5 0 rfl rfl rfl rfl rfl hl.1 rfl (Nat.le_of_ble_eq_true rfl) dX8_taken_60 ⟨Nat.le_of_ble_eq_true rfl, Nat.le_of_ble_eq_true rfl⟩) (fun r u H locs hq hM => ?_)
        subst hq
        have hM : xM D (TY q) [w8 q ad ω0 (sd 0) ω2 (md 0) ω4 (nd 0) ω6 ω7 (hd 0) ω9, wk q nd N, w3 q md μ0 μ1 μ2, w0 q hd τ0 τ1 τ2 τ3 (fd 0), wk q fd (kGoN (S 4) (tn (S 2 0)) (tn (S 5 0)) (S 9) (S 10) (S 11) (tn (S 8 0)) (-4) (N, -4, nI 0) (60 - tn (N 25))).1, wst q sd X] A s.heap s H locs := hM
        have hM : xM D (TY q) [w8 q ad ω0 (sd 0) ω2 (md 0) ω4 (nd 0) ω6 ω7 (hd 0) ω9, wst q sd X, wk q nd N, w3 q md μ0 μ1 μ2, w0 q hd τ0 τ1 τ2 τ3 (fd 0), wk q fd (kGoN (S 4) (tn (S 2 0)) (tn (S 5 0)) (S 9) (S 10) (S 11) (tn (S 8 0)) (-4) (N, -4, nI 0) (60 - tn (N 25))).1] A s.heap s H locs := hM.sel [0, 5, 1, 2, 3, 4] rfl rfl
        exact x_iret hx hb hr hlocks (kGoN (S 4) (tn (S 2 0)) (tn (S 5 0)) (S 9) (S 10) (S 11) (tn (S 8 0)) (-4) (N, -4, nI 0) (60 - tn (N 25))).1 hM (show kW (S 3) (S 4) (tn (S 2 0)) (kGoN (S 4) (tn (S 2 0)) (tn (S 5 0)) (S 9) (S 10) (S 11) (tn (S 8 0)) (-4) (N, -4, nI 0) (60 - tn (N 25))).1 h = kW (S 3) (S 4) (tn (S 2 0)) (kGoN (S 4) (tn (S 2 0)) (tn (S 5 0)) (S 9) (S 10) (S 11) (tn (S 8 0)) (-4) (N, -4, nI 0) (60 - tn (N 25))).1 h from rfl) dX8_taken_63
      · exfalso; exact absurd (by assumption) (nI_ne (by omega))
    · exfalso; omega
