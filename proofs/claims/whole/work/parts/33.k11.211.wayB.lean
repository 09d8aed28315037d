set_option maxHeartbeats 2000000 in
set_option maxRecDepth 100000 in
theorem c_X8_wayB (l : Launch) (D : va_G) (q : Nat → ClassId) (ad : Nat → Nat) (ω0 : Nat) (ω1 : Nat) (ω2 : Nat) (ω3 : Nat) (ω4 : Nat) (ω5 : Nat) (ω6 : Nat) (ω7 : Nat) (ω8 : Nat) (ω9 : Nat) (nd : Nat → Nat) (N : Nat → Int32) (k : Int32) (kz : Int) (what : Int32) (whatz : Int) (hK : okK N) (h_kz : k.toInt = kz) (h_whatz : what.toInt = whatz) (hbad : ¬ (0 ≤ kz ∧ kz < tn (N 26)) ∨ ¬ (0 ≤ whatz ∧ whatz ≤ 3)) : xC l yX8_way wsX8_way ({ frames := 2, cells := 0, slots := 0, locals := 43 }) D (TY q) [w8 q ad ω0 ω1 ω2 ω3 ω4 (nd 0) ω6 ω7 ω8 ω9, wk q nd N] [.ref (ad 0), .int k, .int what] (xQi D (TY q) (fun (r : Int32) (_ : Unit) => r = (-1)) (fun _ => [w8 q ad ω0 ω1 ω2 ω3 ω4 (nd 0) ω6 ω7 ω8 ω9, wk q nd N])) 0 0 := by
  refine x_enter (cc := cX8_way) (maxL := 3) (ret := (some .int)) (by decide) rfl (Nat.le_of_ble_eq_true rfl) ?_
  intro p e s m below meth c A ls H locs hfix hr hlocks hinit hM hl
  obtain ⟨hx, hb, hml, hown, hts⟩ := id hfix
  have hl : lv_has ls 3 [(0, .ref (ad 0)), (1, .int k), (2, .int what)] := hl
  have hK25 := hK.1.2
  have hK26 := hK.2.1.2
  refine lv_iload_n hx hb dX8_way_0 rfl (lv_at hl 1 rfl) ?_
  refine lv_iconst (v := nI 0) hx hb dX8_way_1 (by decide) ?_
  refine lv_aload_n hx hb dX8_way_2 rfl (lv_at hl 0 rfl) ?_
  refine x_get hx hb hts iwX8_way_X8 hown hM 0 0 rfl rfl rfl 5 (by decide) (hts _ lkX8_way_39) (fun _ h => h) rfl dX8_way_3 ?_
  refine x_get hx hb hts iwX8_way_X1 hown hM 1 0 rfl rfl rfl 1 (by decide) (hts _ lkX8_way_131) (fun _ h => h) rfl dX8_way_6 ?_
  refine x_cast (y := nI (tn (N 26))) hK.2.1.1 ?_
  refine lv_iconst (v := nI 1) hx hb dX8_way_9 (by decide) ?_
  refine lv_isub hx hb dX8_way_10 ?_
  refine x_calli (bc := []) (br := [w8 q ad ω0 ω1 ω2 ω3 ω4 (nd 0) ω6 ω7 ω8 ω9, wk q nd N]) hM [] [0, 1] rfl rfl rfl (by decide) (x_runS (As := [.int k, .int (nI 0), .int ((nI (tn (N 26))) - (nI 1))]) (rest := []) hfix (c_X8_within l D q k (nI 0) ((nI (tn (N 26))) - (nI 1)) kz (0 : Int) (((tn (N 26) : Nat) : Int) - ((1 : Nat) : Int)) h_kz (nI_toInt (n := 0) (by decide)) (pk_sub_toInt (a := tn (N 26)) (b := 1) (by omega) (by omega))) (va_cwS 3 hts gX8_way_X8_within rfl rfl rfl (by decide +kernel) ⟨Nat.le_of_ble_eq_true rfl, Nat.le_of_ble_eq_true rfl⟩) hM [] rfl rfl rfl hl.1 rfl (Nat.le_of_ble_eq_true rfl) dX8_way_11 ⟨Nat.le_of_ble_eq_true rfl, Nat.le_of_ble_eq_true rfl⟩) (fun r u H locs hq hM => ?_)
  subst hq
  have hM : xM D (TY q) [w8 q ad ω0 ω1 ω2 ω3 ω4 (nd 0) ω6 ω7 ω8 ω9, wk q nd N] A s.heap s H locs := hM
  refine x_ifz_eq (P := (0 : Int) ≤ kz ∧ kz ≤ (((tn (N 26) : Nat) : Int) - ((1 : Nat) : Int))) (tgt := 26) hx hb dX8_way_14 (by decide) (fun c1 => ?_) (fun c1 => ?_)
  · refine lv_iconst (v := (-1)) hx hb dX8_way_26 (by decide) ?_
    exact x_iret hx hb hr hlocks () hM (show (-1) = (-1) from rfl) dX8_way_27
  · refine lv_iload_n hx hb dX8_way_17 rfl (lv_at hl 2 rfl) ?_
    refine lv_iconst (v := nI 0) hx hb dX8_way_18 (by decide) ?_
    refine lv_iconst (v := nI 3) hx hb dX8_way_19 (by decide) ?_
    refine x_calli (bc := []) (br := [w8 q ad ω0 ω1 ω2 ω3 ω4 (nd 0) ω6 ω7 ω8 ω9, wk q nd N]) hM [] [0, 1] rfl rfl rfl (by decide) (x_runS (As := [.int what, .int (nI 0), .int (nI 3)]) (rest := []) hfix (c_X8_within l D q what (nI 0) (nI 3) whatz (0 : Int) (3 : Int) h_whatz (nI_toInt (n := 0) (by decide)) (nI_toInt (n := 3) (by decide))) (va_cwS 3 hts gX8_way_X8_within rfl rfl rfl (by decide +kernel) ⟨Nat.le_of_ble_eq_true rfl, Nat.le_of_ble_eq_true rfl⟩) hM [] rfl rfl rfl hl.1 rfl (Nat.le_of_ble_eq_true rfl) dX8_way_20 ⟨Nat.le_of_ble_eq_true rfl, Nat.le_of_ble_eq_true rfl⟩) (fun r u H locs hq hM => ?_)
    subst hq
    have hM : xM D (TY q) [w8 q ad ω0 ω1 ω2 ω3 ω4 (nd 0) ω6 ω7 ω8 ω9, wk q nd N] A s.heap s H locs := hM
    refine x_ifz_ne (P := (0 : Int) ≤ whatz ∧ whatz ≤ (3 : Int)) (tgt := 28) hx hb dX8_way_23 (by decide) (fun c2 => ?_) (fun c2 => ?_)
    · exfalso; omega
    · refine lv_iconst (v := (-1)) hx hb dX8_way_26 (by decide) ?_
      exact x_iret hx hb hr hlocks () hM (show (-1) = (-1) from rfl) dX8_way_27
