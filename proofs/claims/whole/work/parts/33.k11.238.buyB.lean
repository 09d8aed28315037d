set_option maxHeartbeats 2000000 in
set_option maxRecDepth 100000 in
theorem c_X8_buyB (l : Launch) (D : va_G) (q : Nat → ClassId) (ad : Nat → Nat) (ω0 : Nat) (ω1 : Nat) (ω2 : Nat) (ω3 : Nat) (ω4 : Nat) (ω5 : Nat) (ω6 : Nat) (ω7 : Nat) (ω8 : Nat) (ω9 : Nat) (v : Int32) (vz : Int) (a : Int32) (az : Int) (b : Int32) (bz : Int) (x : Int32) (xz : Int) (what : Int32) (whatz : Int) (h_vz : v.toInt = vz) (h_az : a.toInt = az) (h_bz : b.toInt = bz) (h_xz : x.toInt = xz) (h_whatz : what.toInt = whatz) (hbad : ¬ (0 ≤ vz ∧ vz ≤ 99) ∨ ¬ (0 ≤ az ∧ az ≤ 99) ∨ ¬ (0 ≤ bz ∧ bz ≤ 9) ∨ ¬ (0 ≤ xz ∧ xz ≤ 10) ∨ ¬ (0 ≤ whatz ∧ whatz ≤ 2)) : xC l yX8_buy wsX8_buy ({ frames := 2, cells := 0, slots := 0, locals := 69 }) D (TY q) [w8 q ad ω0 ω1 ω2 ω3 ω4 ω5 ω6 ω7 ω8 ω9] [.ref (ad 0), .int v, .int a, .int b, .int x, .int what] (xQl D (TY q) (fun (r : Int64) (_ : Unit) => r = (-1)) (fun _ => [w8 q ad ω0 ω1 ω2 ω3 ω4 ω5 ω6 ω7 ω8 ω9])) 0 0 := by
  refine x_enter (cc := cX8_buy) (maxL := 6) (ret := (some .long)) (by decide) rfl (Nat.le_of_ble_eq_true rfl) ?_
  intro p e s m below meth c A ls H locs hfix hr hlocks hinit hM hl
  obtain ⟨hx, hb, hml, hown, hts⟩ := id hfix
  have hl : lv_has ls 6 [(0, .ref (ad 0)), (1, .int v), (2, .int a), (3, .int b), (4, .int x), (5, .int what)] := hl
  refine lv_iload_n hx hb dX8_buy_0 rfl (lv_at hl 1 rfl) ?_
  refine lv_iconst (v := nI 0) hx hb dX8_buy_1 (by decide) ?_
  refine lv_bipush (v := nI 99) hx hb dX8_buy_2 (by decide) ?_
  refine x_calli (bc := []) (br := [w8 q ad ω0 ω1 ω2 ω3 ω4 ω5 ω6 ω7 ω8 ω9]) hM [] [0] rfl rfl rfl (by decide) (x_runS (As := [.int v, .int (nI 0), .int (nI 99)]) (rest := []) hfix (c_X8_within l D q v (nI 0) (nI 99) vz (0 : Int) (99 : Int) h_vz (nI_toInt (n := 0) (by decide)) (nI_toInt (n := 99) (by decide))) (va_cwS 3 hts gX8_buy_X8_within rfl rfl rfl (by decide +kernel) ⟨Nat.le_of_ble_eq_true rfl, Nat.le_of_ble_eq_true rfl⟩) hM [] rfl rfl rfl hl.1 rfl (Nat.le_of_ble_eq_true rfl) dX8_buy_4 ⟨Nat.le_of_ble_eq_true rfl, Nat.le_of_ble_eq_true rfl⟩) (fun r u H locs hq hM => ?_)
  subst hq
  have hM : xM D (TY q) [w8 q ad ω0 ω1 ω2 ω3 ω4 ω5 ω6 ω7 ω8 ω9] A s.heap s H locs := hM
  refine x_ifz_eq (P := (0 : Int) ≤ vz ∧ vz ≤ (99 : Int)) (tgt := 30) hx hb dX8_buy_7 (by decide) (fun c1 => ?_) (fun c1 => ?_)
  · refine lv_ldc2 (v := -1) hx hb hown (hts (.constantLong RX8 222 (-1)) (by decide +kernel)) dX8_buy_30 ?_
    exact x_lret hx hb hr hlocks () hM (show (-1 : Int64) = (-1) from by rfl) dX8_buy_33
  · refine lv_iload_n hx hb dX8_buy_10 rfl (lv_at hl 2 rfl) ?_
    refine lv_iconst (v := nI 0) hx hb dX8_buy_11 (by decide) ?_
    refine lv_bipush (v := nI 99) hx hb dX8_buy_12 (by decide) ?_
    refine x_calli (bc := []) (br := [w8 q ad ω0 ω1 ω2 ω3 ω4 ω5 ω6 ω7 ω8 ω9]) hM [] [0] rfl rfl rfl (by decide) (x_runS (As := [.int a, .int (nI 0), .int (nI 99)]) (rest := []) hfix (c_X8_within l D q a (nI 0) (nI 99) az (0 : Int) (99 : Int) h_az (nI_toInt (n := 0) (by decide)) (nI_toInt (n := 99) (by decide))) (va_cwS 3 hts gX8_buy_X8_within rfl rfl rfl (by decide +kernel) ⟨Nat.le_of_ble_eq_true rfl, Nat.le_of_ble_eq_true rfl⟩) hM [] rfl rfl rfl hl.1 rfl (Nat.le_of_ble_eq_true rfl) dX8_buy_14 ⟨Nat.le_of_ble_eq_true rfl, Nat.le_of_ble_eq_true rfl⟩) (fun r u H locs hq hM => ?_)
    subst hq
    have hM : xM D (TY q) [w8 q ad ω0 ω1 ω2 ω3 ω4 ω5 ω6 ω7 ω8 ω9] A s.heap s H locs := hM
    refine x_ifz_eq (P := (0 : Int) ≤ az ∧ az ≤ (99 : Int)) (tgt := 30) hx hb dX8_buy_17 (by decide) (fun c2 => ?_) (fun c2 => ?_)
    · refine lv_ldc2 (v := -1) hx hb hown (hts (.constantLong RX8 222 (-1)) (by decide +kernel)) dX8_buy_30 ?_
      exact x_lret hx hb hr hlocks () hM (show (-1 : Int64) = (-1) from by rfl) dX8_buy_33
    · refine lv_iload_n hx hb dX8_buy_20 rfl (lv_at hl 3 rfl) ?_
      refine lv_iconst (v := nI 0) hx hb dX8_buy_21 (by decide) ?_
      refine lv_bipush (v := nI 9) hx hb dX8_buy_22 (by decide) ?_
      refine x_calli (bc := []) (br := [w8 q ad ω0 ω1 ω2 ω3 ω4 ω5 ω6 ω7 ω8 ω9]) hM [] [0] rfl rfl rfl (by decide) (x_runS (As := [.int b, .int (nI 0), .int (nI 9)]) (rest := []) hfix (c_X8_within l D q b (nI 0) (nI 9) bz (0 : Int) (9 : Int) h_bz (nI_toInt (n := 0) (by decide)) (nI_toInt (n := 9) (by decide))) (va_cwS 3 hts gX8_buy_X8_within rfl rfl rfl (by decide +kernel) ⟨Nat.le_of_ble_eq_true rfl, Nat.le_of_ble_eq_true rfl⟩) hM [] rfl rfl rfl hl.1 rfl (Nat.le_of_ble_eq_true rfl) dX8_buy_24 ⟨Nat.le_of_ble_eq_true rfl, Nat.le_of_ble_eq_true rfl⟩) (fun r u H locs hq hM => ?_)
      subst hq
      have hM : xM D (TY q) [w8 q ad ω0 ω1 ω2 ω3 ω4 ω5 ω6 ω7 ω8 ω9] A s.heap s H locs := hM
      refine x_ifz_ne (P := (0 : Int) ≤ bz ∧ bz ≤ (9 : Int)) (tgt := 34) hx hb dX8_buy_27 (by decide) (fun c3 => ?_) (fun c3 => ?_)
      · refine lv_iload hx hb dX8_buy_34 (lv_at hl 4 rfl) ?_
        refine lv_iconst (v := nI 0) hx hb dX8_buy_36 (by decide) ?_
        refine lv_bipush (v := nI 10) hx hb dX8_buy_37 (by decide) ?_
        refine x_calli (bc := []) (br := [w8 q ad ω0 ω1 ω2 ω3 ω4 ω5 ω6 ω7 ω8 ω9]) hM [] [0] rfl rfl rfl (by decide) (x_runS (As := [.int x, .int (nI 0), .int (nI 10)]) (rest := []) hfix (c_X8_within l D q x (nI 0) (nI 10) xz (0 : Int) (10 : Int) h_xz (nI_toInt (n := 0) (by decide)) (nI_toInt (n := 10) (by decide))) (va_cwS 3 hts gX8_buy_X8_within rfl rfl rfl (by decide +kernel) ⟨Nat.le_of_ble_eq_true rfl, Nat.le_of_ble_eq_true rfl⟩) hM [] rfl rfl rfl hl.1 rfl (Nat.le_of_ble_eq_true rfl) dX8_buy_39 ⟨Nat.le_of_ble_eq_true rfl, Nat.le_of_ble_eq_true rfl⟩) (fun r u H locs hq hM => ?_)
        subst hq
        have hM : xM D (TY q) [w8 q ad ω0 ω1 ω2 ω3 ω4 ω5 ω6 ω7 ω8 ω9] A s.heap s H locs := hM
        refine x_ifz_eq (P := (0 : Int) ≤ xz ∧ xz ≤ (10 : Int)) (tgt := 55) hx hb dX8_buy_42 (by decide) (fun c4 => ?_) (fun c4 => ?_)
        · refine lv_ldc2 (v := -1) hx hb hown (hts (.constantLong RX8 222 (-1)) (by decide +kernel)) dX8_buy_55 ?_
          exact x_lret hx hb hr hlocks () hM (show (-1 : Int64) = (-1) from by rfl) dX8_buy_58
        · refine lv_iload hx hb dX8_buy_45 (lv_at hl 5 rfl) ?_
          refine lv_iconst (v := nI 0) hx hb dX8_buy_47 (by decide) ?_
          refine lv_iconst (v := nI 2) hx hb dX8_buy_48 (by decide) ?_
          refine x_calli (bc := []) (br := [w8 q ad ω0 ω1 ω2 ω3 ω4 ω5 ω6 ω7 ω8 ω9]) hM [] [0] rfl rfl rfl (by decide) (x_runS (As := [.int what, .int (nI 0), .int (nI 2)]) (rest := []) hfix (c_X8_within l D q what (nI 0) (nI 2) whatz (0 : Int) (2 : Int) h_whatz (nI_toInt (n := 0) (by decide)) (nI_toInt (n := 2) (by decide))) (va_cwS 3 hts gX8_buy_X8_within rfl rfl rfl (by decide +kernel) ⟨Nat.le_of_ble_eq_true rfl, Nat.le_of_ble_eq_true rfl⟩) hM [] rfl rfl rfl hl.1 rfl (Nat.le_of_ble_eq_true rfl) dX8_buy_49 ⟨Nat.le_of_ble_eq_true rfl, Nat.le_of_ble_eq_true rfl⟩) (fun r u H locs hq hM => ?_)
          subst hq
          have hM : xM D (TY q) [w8 q ad ω0 ω1 ω2 ω3 ω4 ω5 ω6 ω7 ω8 ω9] A s.heap s H locs := hM
          refine x_ifz_ne (P := (0 : Int) ≤ whatz ∧ whatz ≤ (2 : Int)) (tgt := 59) hx hb dX8_buy_52 (by decide) (fun c5 => ?_) (fun c5 => ?_)
          · exfalso; omega
          · refine lv_ldc2 (v := -1) hx hb hown (hts (.constantLong RX8 222 (-1)) (by decide +kernel)) dX8_buy_55 ?_
            exact x_lret hx hb hr hlocks () hM (show (-1 : Int64) = (-1) from by rfl) dX8_buy_58
      · refine lv_ldc2 (v := -1) hx hb hown (hts (.constantLong RX8 222 (-1)) (by decide +kernel)) dX8_buy_30 ?_
        exact x_lret hx hb hr hlocks () hM (show (-1 : Int64) = (-1) from by rfl) dX8_buy_33
