set_option maxHeartbeats 1000000 in
set_option maxRecDepth 100000 in
theorem c_X9_peaB (l : Launch) (D : va_G) (q : Nat → ClassId) (ad : Nat → Nat) (σ0 : Int32) (σ1 : Nat → Int32) (σ2 : Nat → Int32) (σ3 : Nat → Int32) (σ4 : Nat → Int32) (σ5 : Nat → Int32) (σ6 : Nat → Int32) (σ7 : Nat → Int32) (σ8 : Nat → Int32) (σ9 : Nat → Int32) (σ10 : Nat → Int32) (σ11 : Nat → Int32) (σ12 : Nat → Int32) (σ13 : Nat → Int32) (σ14 : Nat → Int32) (σ15 : Nat → Int32) (σ16 : Nat → Int32) (σ17 : Nat → Int32) (σ18 : Nat → Int32) (σ19 : Nat → Int32) (σ20 : Int32) (σ21 : Int32) (σ22 : Int32) (σ23 : Nat → Int32) (σ24 : Int32) (σ25 : Int32) (σ26 : Nat → Int32) (σ27 : Nat → Int32) (σ28 : Nat → Int32) (σ29 : Nat → Int32) (σ30 : Nat → Int32) (n : Int32) (nz : Int) (mm : Int32) (mmz : Int) (h_nz : n.toInt = nz) (h_mmz : mm.toInt = mmz) (hbad : ¬ (1 ≤ nz ∧ nz ≤ 99) ∨ ¬ (1 ≤ mmz ∧ mmz ≤ 9)) : xC l yX9_pea wsX9_pea ({ frames := 1, cells := 0, slots := 0, locals := 25 }) D (TY q) [w9 q ad σ0 σ1 σ2 σ3 σ4 σ5 σ6 σ7 σ8 σ9 σ10 σ11 σ12 σ13 σ14 σ15 σ16 σ17 σ18 σ19 σ20 σ21 σ22 σ23 σ24 σ25 σ26 σ27 σ28 σ29 σ30] [.ref (ad 0), .int n, .int mm] (xQi D (TY q) (fun (r : Int32) (_ : Unit) => r = (-1)) (fun _ => [w9 q ad σ0 σ1 σ2 σ3 σ4 σ5 σ6 σ7 σ8 σ9 σ10 σ11 σ12 σ13 σ14 σ15 σ16 σ17 σ18 σ19 σ20 σ21 σ22 σ23 σ24 σ25 σ26 σ27 σ28 σ29 σ30])) 0 0 := by
  refine x_enter (cc := cX9_pea) (maxL := 7) (ret := (some .int)) (by decide) rfl (Nat.le_of_ble_eq_true rfl) ?_
  intro p e s m below meth c A ls H locs hfix hr hlocks hinit hM hl
  obtain ⟨hx, hb, hml, hown, hts⟩ := id hfix
  have hl : lv_has ls 7 [(0, .ref (ad 0)), (1, .int n), (2, .int mm)] := hl
  refine lv_iload_n hx hb dX9_pea_0 rfl (lv_at hl 1 rfl) ?_
  refine x_i2l hx hb dX9_pea_1 ?_
  refine lv_lconst (v := 1) hx hb dX9_pea_2 (by decide) ?_
  refine lv_ldc2 (v := 99) hx hb hown (hts (.constantLong RX9 262 (99)) (by decide +kernel)) dX9_pea_3 ?_
  refine x_calli (bc := []) (br := [w9 q ad σ0 σ1 σ2 σ3 σ4 σ5 σ6 σ7 σ8 σ9 σ10 σ11 σ12 σ13 σ14 σ15 σ16 σ17 σ18 σ19 σ20 σ21 σ22 σ23 σ24 σ25 σ26 σ27 σ28 σ29 σ30]) hM [] [0] rfl rfl rfl (by decide) (x_runS (As := [.long n.toInt64, .long (1 : Int64), .long (99 : Int64)]) (rest := []) hfix (c_X9_in l D q n.toInt64 (1 : Int64) (99 : Int64) nz (1 : Int) (99 : Int) ((Jvm.Kit.i64_of_i32 _).trans h_nz) (by decide) (by decide)) (va_cwS 3 hts gX9_pea_X9_in rfl rfl rfl (by decide +kernel) ⟨Nat.le_of_ble_eq_true rfl, Nat.le_of_ble_eq_true rfl⟩) hM [] rfl rfl rfl hl.1 rfl (Nat.le_of_ble_eq_true rfl) dX9_pea_6 ⟨Nat.le_of_ble_eq_true rfl, Nat.le_of_ble_eq_true rfl⟩) (fun r u H locs hq hM => ?_)
  subst hq
  have hM : xM D (TY q) [w9 q ad σ0 σ1 σ2 σ3 σ4 σ5 σ6 σ7 σ8 σ9 σ10 σ11 σ12 σ13 σ14 σ15 σ16 σ17 σ18 σ19 σ20 σ21 σ22 σ23 σ24 σ25 σ26 σ27 σ28 σ29 σ30] A s.heap s H locs := hM
  refine x_ifz_eq (P := (1 : Int) ≤ nz ∧ nz ≤ (99 : Int)) (tgt := 24) hx hb dX9_pea_9 (by decide) (fun c1 => ?_) (fun c1 => ?_)
  · refine lv_iconst (v := (-1)) hx hb dX9_pea_24 (by decide) ?_
    exact x_iret hx hb hr hlocks () hM (show (-1) = (-1) from rfl) dX9_pea_25
  · refine lv_iload_n hx hb dX9_pea_12 rfl (lv_at hl 2 rfl) ?_
    refine x_i2l hx hb dX9_pea_13 ?_
    refine lv_lconst (v := 1) hx hb dX9_pea_14 (by decide) ?_
    refine lv_ldc2 (v := 9) hx hb hown (hts (.constantLong RX9 129 (9)) (by decide +kernel)) dX9_pea_15 ?_
    refine x_calli (bc := []) (br := [w9 q ad σ0 σ1 σ2 σ3 σ4 σ5 σ6 σ7 σ8 σ9 σ10 σ11 σ12 σ13 σ14 σ15 σ16 σ17 σ18 σ19 σ20 σ21 σ22 σ23 σ24 σ25 σ26 σ27 σ28 σ29 σ30]) hM [] [0] rfl rfl rfl (by decide) (x_runS (As := [.long mm.toInt64, .long (1 : Int64), .long (9 : Int64)]) (rest := []) hfix (c_X9_in l D q mm.toInt64 (1 : Int64) (9 : Int64) mmz (1 : Int) (9 : Int) ((Jvm.Kit.i64_of_i32 _).trans h_mmz) (by decide) (by decide)) (va_cwS 3 hts gX9_pea_X9_in rfl rfl rfl (by decide +kernel) ⟨Nat.le_of_ble_eq_true rfl, Nat.le_of_ble_eq_true rfl⟩) hM [] rfl rfl rfl hl.1 rfl (Nat.le_of_ble_eq_true rfl) dX9_pea_18 ⟨Nat.le_of_ble_eq_true rfl, Nat.le_of_ble_eq_true rfl⟩) (fun r u H locs hq hM => ?_)
    subst hq
    have hM : xM D (TY q) [w9 q ad σ0 σ1 σ2 σ3 σ4 σ5 σ6 σ7 σ8 σ9 σ10 σ11 σ12 σ13 σ14 σ15 σ16 σ17 σ18 σ19 σ20 σ21 σ22 σ23 σ24 σ25 σ26 σ27 σ28 σ29 σ30] A s.heap s H locs := hM
    refine x_ifz_ne (P := (1 : Int) ≤ mmz ∧ mmz ≤ (9 : Int)) (tgt := 26) hx hb dX9_pea_21 (by decide) (fun c2 => ?_) (fun c2 => ?_)
    · exfalso; omega
    · refine lv_iconst (v := (-1)) hx hb dX9_pea_24 (by decide) ?_
      exact x_iret hx hb hr hlocks () hM (show (-1) = (-1) from rfl) dX9_pea_25
