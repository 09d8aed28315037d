set_option maxHeartbeats 1000000 in
set_option maxRecDepth 100000 in
theorem c_X9_buyB (l : Launch) (D : va_G) (q : Nat → ClassId) (ad : Nat → Nat) (σ0 : Int32) (σ1 : Nat → Int32) (σ2 : Nat → Int32) (σ3 : Nat → Int32) (σ4 : Nat → Int32) (σ5 : Nat → Int32) (σ6 : Nat → Int32) (σ7 : Nat → Int32) (σ8 : Nat → Int32) (σ9 : Nat → Int32) (σ10 : Nat → Int32) (σ11 : Nat → Int32) (σ12 : Nat → Int32) (σ13 : Nat → Int32) (σ14 : Nat → Int32) (σ15 : Nat → Int32) (σ16 : Nat → Int32) (σ17 : Nat → Int32) (σ18 : Nat → Int32) (σ19 : Nat → Int32) (σ20 : Int32) (σ21 : Int32) (σ22 : Int32) (σ23 : Nat → Int32) (σ24 : Int32) (σ25 : Int32) (σ26 : Nat → Int32) (σ27 : Nat → Int32) (σ28 : Nat → Int32) (σ29 : Nat → Int32) (σ30 : Nat → Int32) (v : Int32) (vz : Int) (a : Int32) (az : Int) (b : Int32) (bz : Int) (x : Int32) (xz : Int) (what : Int32) (whatz : Int) (h_vz : v.toInt = vz) (h_az : a.toInt = az) (h_bz : b.toInt = bz) (h_xz : x.toInt = xz) (h_whatz : what.toInt = whatz) (hbad : ¬ (0 ≤ vz ∧ vz ≤ 99) ∨ ¬ (0 ≤ az ∧ az ≤ 99) ∨ ¬ (0 ≤ bz ∧ bz ≤ 9) ∨ ¬ (0 ≤ xz ∧ xz ≤ 10) ∨ ¬ (0 ≤ whatz ∧ whatz ≤ 2)) : xC l yX9_buy wsX9_buy ({ frames := 1, cells := 0, slots := 0, locals := 29 }) D (TY q) [w9 q ad σ0 σ1 σ2 σ3 σ4 σ5 σ6 σ7 σ8 σ9 σ10 σ11 σ12 σ13 σ14 σ15 σ16 σ17 σ18 σ19 σ20 σ21 σ22 σ23 σ24 σ25 σ26 σ27 σ28 σ29 σ30] [.ref (ad 0), .int v, .int a, .int b, .int x, .int what] (xQl D (TY q) (fun (r : Int64) (_ : Unit) => r = (-1)) (fun _ => [w9 q ad σ0 σ1 σ2 σ3 σ4 σ5 σ6 σ7 σ8 σ9 σ10 σ11 σ12 σ13 σ14 σ15 σ16 σ17 σ18 σ19 σ20 σ21 σ22 σ23 σ24 σ25 σ26 σ27 σ28 σ29 σ30])) 0 0 := by
  refine x_enter (cc := cX9_buy) (maxL := 17) (ret := (some .long)) (by decide) rfl (Nat.le_of_ble_eq_true rfl) ?_
  intro p e s m below meth c A ls H locs hfix hr hlocks hinit hM hl
  obtain ⟨hx, hb, hml, hown, hts⟩ := id hfix
  have hl : lv_has ls 17 [(0, .ref (ad 0)), (1, .int v), (2, .int a), (3, .int b), (4, .int x), (5, .int what)] := hl
  refine lv_iload_n hx hb dX9_buy_0 rfl (lv_at hl 1 rfl) ?_
  refine x_i2l hx hb dX9_buy_1 ?_
  refine lv_lconst (v := 0) hx hb dX9_buy_2 (by decide) ?_
  refine lv_ldc2 (v := 99) hx hb hown (hts (.constantLong RX9 262 (99)) (by decide +kernel)) dX9_buy_3 ?_
  refine x_calli (bc := []) (br := [w9 q ad σ0 σ1 σ2 σ3 σ4 σ5 σ6 σ7 σ8 σ9 σ10 σ11 σ12 σ13 σ14 σ15 σ16 σ17 σ18 σ19 σ20 σ21 σ22 σ23 σ24 σ25 σ26 σ27 σ28 σ29 σ30]) hM [] [0] rfl rfl rfl (by decide) (x_runS (As := [.long v.toInt64, .long (0 : Int64), .long (99 : Int64)]) (rest := []) hfix (c_X9_in l D q v.toInt64 (0 : Int64) (99 : Int64) vz (0 : Int) (99 : Int) ((Jvm.Kit.i64_of_i32 _).trans h_vz) (by decide) (by decide)) (va_cwS 3 hts gX9_buy_X9_in rfl rfl rfl (by decide +kernel) ⟨Nat.le_of_ble_eq_true rfl, Nat.le_of_ble_eq_true rfl⟩) hM [] rfl rfl rfl hl.1 rfl (Nat.le_of_ble_eq_true rfl) dX9_buy_6 ⟨Nat.le_of_ble_eq_true rfl, Nat.le_of_ble_eq_true rfl⟩) (fun r u H locs hq hM => ?_)
  subst hq
  have hM : xM D (TY q) [w9 q ad σ0 σ1 σ2 σ3 σ4 σ5 σ6 σ7 σ8 σ9 σ10 σ11 σ12 σ13 σ14 σ15 σ16 σ17 σ18 σ19 σ20 σ21 σ22 σ23 σ24 σ25 σ26 σ27 σ28 σ29 σ30] A s.heap s H locs := hM
  refine x_ifz_eq (P := (0 : Int) ≤ vz ∧ vz ≤ (99 : Int)) (tgt := 62) hx hb dX9_buy_9 (by decide) (fun c1 => ?_) (fun c1 => ?_)
  · refine lv_ldc2 (v := -1) hx hb hown (hts (.constantLong RX9 273 (-1)) (by decide +kernel)) dX9_buy_62 ?_
    exact x_lret hx hb hr hlocks () hM (show (-1 : Int64) = (-1) from by rfl) dX9_buy_65
  · refine lv_iload_n hx hb dX9_buy_12 rfl (lv_at hl 2 rfl) ?_
    refine x_i2l hx hb dX9_buy_13 ?_
    refine lv_lconst (v := 0) hx hb dX9_buy_14 (by decide) ?_
    refine lv_ldc2 (v := 99) hx hb hown (hts (.constantLong RX9 262 (99)) (by decide +kernel)) dX9_buy_15 ?_
    refine x_calli (bc := []) (br := [w9 q ad σ0 σ1 σ2 σ3 σ4 σ5 σ6 σ7 σ8 σ9 σ10 σ11 σ12 σ13 σ14 σ15 σ16 σ17 σ18 σ19 σ20 σ21 σ22 σ23 σ24 σ25 σ26 σ27 σ28 σ29 σ30]) hM [] [0] rfl rfl rfl (by decide) (x_runS (As := [.long a.toInt64, .long (0 : Int64), .long (99 : Int64)]) (rest := []) hfix (c_X9_in l D q a.toInt64 (0 : Int64) (99 : Int64) az (0 : Int) (99 : Int) ((Jvm.Kit.i64_of_i32 _).trans h_az) (by decide) (by decide)) (va_cwS 3 hts gX9_buy_X9_in rfl rfl rfl (by decide +kernel) ⟨Nat.le_of_ble_eq_true rfl, Nat.le_of_ble_eq_true rfl⟩) hM [] rfl rfl rfl hl.1 rfl (Nat.le_of_ble_eq_true rfl) dX9_buy_18 ⟨Nat.le_of_ble_eq_true rfl, Nat.le_of_ble_eq_true rfl⟩) (fun r u H locs hq hM => ?_)
    subst hq
    have hM : xM D (TY q) [w9 q ad σ0 σ1 σ2 σ3 σ4 σ5 σ6 σ7 σ8 σ9 σ10 σ11 σ12 σ13 σ14 σ15 σ16 σ17 σ18 σ19 σ20 σ21 σ22 σ23 σ24 σ25 σ26 σ27 σ28 σ29 σ30] A s.heap s H locs := hM
    refine x_ifz_eq (P := (0 : Int) ≤ az ∧ az ≤ (99 : Int)) (tgt := 62) hx hb dX9_buy_21 (by decide) (fun c2 => ?_) (fun c2 => ?_)
    · refine lv_ldc2 (v := -1) hx hb hown (hts (.constantLong RX9 273 (-1)) (by decide +kernel)) dX9_buy_62 ?_
      exact x_lret hx hb hr hlocks () hM (show (-1 : Int64) = (-1) from by rfl) dX9_buy_65
    · refine lv_iload_n hx hb dX9_buy_24 rfl (lv_at hl 3 rfl) ?_
      refine x_i2l hx hb dX9_buy_25 ?_
      refine lv_lconst (v := 0) hx hb dX9_buy_26 (by decide) ?_
      refine lv_ldc2 (v := 9) hx hb hown (hts (.constantLong RX9 129 (9)) (by decide +kernel)) dX9_buy_27 ?_
      refine x_calli (bc := []) (br := [w9 q ad σ0 σ1 σ2 σ3 σ4 σ5 σ6 σ7 σ8 σ9 σ10 σ11 σ12 σ13 σ14 σ15 σ16 σ17 σ18 σ19 σ20 σ21 σ22 σ23 σ24 σ25 σ26 σ27 σ28 σ29 σ30]) hM [] [0] rfl rfl rfl (by decide) (x_runS (As := [.long b.toInt64, .long (0 : Int64), .long (9 : Int64)]) (rest := []) hfix (c_X9_in l D q b.toInt64 (0 : Int64) (9 : Int64) bz (0 : Int) (9 : Int) ((Jvm.Kit.i64_of_i32 _).trans h_bz) (by decide) (by decide)) (va_cwS 3 hts gX9_buy_X9_in rfl rfl rfl (by decide +kernel) ⟨Nat.le_of_ble_eq_true rfl, Nat.le_of_ble_eq_true rfl⟩) hM [] rfl rfl rfl hl.1 rfl (Nat.le_of_ble_eq_true rfl) dX9_buy_30 ⟨Nat.le_of_ble_eq_true rfl, Nat.le_of_ble_eq_true rfl⟩) (fun r u H locs hq hM => ?_)
      subst hq
      have hM : xM D (TY q) [w9 q ad σ0 σ1 σ2 σ3 σ4 σ5 σ6 σ7 σ8 σ9 σ10 σ11 σ12 σ13 σ14 σ15 σ16 σ17 σ18 σ19 σ20 σ21 σ22 σ23 σ24 σ25 σ26 σ27 σ28 σ29 σ30] A s.heap s H locs := hM
      refine x_ifz_eq (P := (0 : Int) ≤ bz ∧ bz ≤ (9 : Int)) (tgt := 62) hx hb dX9_buy_33 (by decide) (fun c3 => ?_) (fun c3 => ?_)
      · refine lv_ldc2 (v := -1) hx hb hown (hts (.constantLong RX9 273 (-1)) (by decide +kernel)) dX9_buy_62 ?_
        exact x_lret hx hb hr hlocks () hM (show (-1 : Int64) = (-1) from by rfl) dX9_buy_65
      · refine lv_iload hx hb dX9_buy_36 (lv_at hl 4 rfl) ?_
        refine x_i2l hx hb dX9_buy_38 ?_
        refine lv_lconst (v := 0) hx hb dX9_buy_39 (by decide) ?_
        refine lv_ldc2 (v := 10) hx hb hown (hts (.constantLong RX9 267 (10)) (by decide +kernel)) dX9_buy_40 ?_
        refine x_calli (bc := []) (br := [w9 q ad σ0 σ1 σ2 σ3 σ4 σ5 σ6 σ7 σ8 σ9 σ10 σ11 σ12 σ13 σ14 σ15 σ16 σ17 σ18 σ19 σ20 σ21 σ22 σ23 σ24 σ25 σ26 σ27 σ28 σ29 σ30]) hM [] [0] rfl rfl rfl (by decide) (x_runS (As := [.long x.toInt64, .long (0 : Int64), .long (10 : Int64)]) (rest := []) hfix (c_X9_in l D q x.toInt64 (0 : Int64) (10 : Int64) xz (0 : Int) (10 : Int) ((Jvm.Kit.i64_of_i32 _).trans h_xz) (by decide) (by decide)) (va_cwS 3 hts gX9_buy_X9_in rfl rfl rfl (by decide +kernel) ⟨Nat.le_of_ble_eq_true rfl, Nat.le_of_ble_eq_true rfl⟩) hM [] rfl rfl rfl hl.1 rfl (Nat.le_of_ble_eq_true rfl) dX9_buy_43 ⟨Nat.le_of_ble_eq_true rfl, Nat.le_of_ble_eq_true rfl⟩) (fun r u H locs hq hM => ?_)
        subst hq
        have hM : xM D (TY q) [w9 q ad σ0 σ1 σ2 σ3 σ4 σ5 σ6 σ7 σ8 σ9 σ10 σ11 σ12 σ13 σ14 σ15 σ16 σ17 σ18 σ19 σ20 σ21 σ22 σ23 σ24 σ25 σ26 σ27 σ28 σ29 σ30] A s.heap s H locs := hM
        refine x_ifz_eq (P := (0 : Int) ≤ xz ∧ xz ≤ (10 : Int)) (tgt := 62) hx hb dX9_buy_46 (by decide) (fun c4 => ?_) (fun c4 => ?_)
        · refine lv_ldc2 (v := -1) hx hb hown (hts (.constantLong RX9 273 (-1)) (by decide +kernel)) dX9_buy_62 ?_
          exact x_lret hx hb hr hlocks () hM (show (-1 : Int64) = (-1) from by rfl) dX9_buy_65
        · refine lv_iload hx hb dX9_buy_49 (lv_at hl 5 rfl) ?_
          refine x_i2l hx hb dX9_buy_51 ?_
          refine lv_lconst (v := 0) hx hb dX9_buy_52 (by decide) ?_
          refine lv_ldc2 (v := 2) hx hb hown (hts (.constantLong RX9 123 (2)) (by decide +kernel)) dX9_buy_53 ?_
          refine x_calli (bc := []) (br := [w9 q ad σ0 σ1 σ2 σ3 σ4 σ5 σ6 σ7 σ8 σ9 σ10 σ11 σ12 σ13 σ14 σ15 σ16 σ17 σ18 σ19 σ20 σ21 σ22 σ23 σ24 σ25 σ26 σ27 σ28 σ29 σ30]) hM [] [0] rfl rfl rfl (by decide) (x_runS (As := [.long what.toInt64, .long (0 : Int64), .long (2 : Int64)]) (rest := []) hfix (c_X9_in l D q what.toInt64 (0 : Int64) (2 : Int64) whatz (0 : Int) (2 : Int) ((Jvm.Kit.i64_of_i32 _).trans h_whatz) (by decide) (by decide)) (va_cwS 3 hts gX9_buy_X9_in rfl rfl rfl (by decide +kernel) ⟨Nat.le_of_ble_eq_true rfl, Nat.le_of_ble_eq_true rfl⟩) hM [] rfl rfl rfl hl.1 rfl (Nat.le_of_ble_eq_true rfl) dX9_buy_56 ⟨Nat.le_of_ble_eq_true rfl, Nat.le_of_ble_eq_true rfl⟩) (fun r u H locs hq hM => ?_)
          subst hq
          have hM : xM D (TY q) [w9 q ad σ0 σ1 σ2 σ3 σ4 σ5 σ6 σ7 σ8 σ9 σ10 σ11 σ12 σ13 σ14 σ15 σ16 σ17 σ18 σ19 σ20 σ21 σ22 σ23 σ24 σ25 σ26 σ27 σ28 σ29 σ30] A s.heap s H locs := hM
          refine x_ifz_ne (P := (0 : Int) ≤ whatz ∧ whatz ≤ (2 : Int)) (tgt := 66) hx hb dX9_buy_59 (by decide) (fun c5 => ?_) (fun c5 => ?_)
          · exfalso; omega
          · refine lv_ldc2 (v := -1) hx hb hown (hts (.constantLong RX9 273 (-1)) (by decide +kernel)) dX9_buy_62 ?_
            exact x_lret hx hb hr hlocks () hM (show (-1 : Int64) = (-1) from by rfl) dX9_buy_65
