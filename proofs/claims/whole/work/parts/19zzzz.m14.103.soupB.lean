set_option maxHeartbeats 2000000 in
set_option maxRecDepth 100000 in
theorem c_X9_soupB (l : Launch) (D : va_G) (q : Nat → ClassId) (ad : Nat → Nat) (σ0 : Int32) (σ1 : Nat → Int32) (σ2 : Nat → Int32) (σ3 : Nat → Int32) (σ4 : Nat → Int32) (σ5 : Nat → Int32) (σ6 : Nat → Int32) (σ7 : Nat → Int32) (σ8 : Nat → Int32) (σ9 : Nat → Int32) (σ10 : Nat → Int32) (σ11 : Nat → Int32) (σ12 : Nat → Int32) (σ13 : Nat → Int32) (σ14 : Nat → Int32) (σ15 : Nat → Int32) (σ16 : Nat → Int32) (σ17 : Nat → Int32) (σ18 : Nat → Int32) (σ19 : Nat → Int32) (σ20 : Int32) (σ21 : Int32) (σ22 : Int32) (σ23 : Nat → Int32) (σ24 : Int32) (σ25 : Int32) (σ26 : Nat → Int32) (σ27 : Nat → Int32) (σ28 : Nat → Int32) (σ29 : Nat → Int32) (σ30 : Nat → Int32) (kk : Int32) (kkz : Int) (h_kkz : kk.toInt = kkz) (hc15 : σ15 0 = nI (tn (σ15 0)) ∧ tn (σ15 0) ≤ 3) (hbad : ¬ (-1 ≤ kkz ∧ kkz < tn (σ15 0))) : xC l yX9_soup wsX9_soup ({ frames := 5, cells := 0, slots := 0, locals := 116 }) D (TY q) [w9 q ad σ0 σ1 σ2 σ3 σ4 σ5 σ6 σ7 σ8 σ9 σ10 σ11 σ12 σ13 σ14 σ15 σ16 σ17 σ18 σ19 σ20 σ21 σ22 σ23 σ24 σ25 σ26 σ27 σ28 σ29 σ30] [.ref (ad 0), .int kk] (xQi D (TY q) (fun (r : Int32) (_ : Unit) => r = (-1)) (fun _ => [w9 q ad σ0 σ1 σ2 σ3 σ4 σ5 σ6 σ7 σ8 σ9 σ10 σ11 σ12 σ13 σ14 σ15 σ16 σ17 σ18 σ19 σ20 σ21 σ22 σ23 σ24 σ25 σ26 σ27 σ28 σ29 σ30])) 0 0 := by
  refine x_enter (cc := cX9_soup) (maxL := 10) (ret := (some .int)) (by decide) rfl (Nat.le_of_ble_eq_true rfl) ?_
  intro p e s m below meth c A ls H locs hfix hr hlocks hinit hM hl
  obtain ⟨hx, hb, hml, hown, hts⟩ := id hfix
  have hl : lv_has ls 10 [(0, .ref (ad 0)), (1, .int kk)] := hl
  refine lv_iload_n hx hb dX9_soup_0 rfl (lv_at hl 1 rfl) ?_
  refine x_i2l hx hb dX9_soup_1 ?_
  refine lv_ldc2 (v := -1) hx hb hown (hts (.constantLong RX9 273 (-1)) (by decide +kernel)) dX9_soup_2 ?_
  refine lv_aload_n hx hb dX9_soup_5 rfl (lv_at hl 0 rfl) ?_
  refine x_get hx hb hts iwX9_soup_X9 hown hM 0 0 rfl rfl rfl 15 (by decide) (hts _ lkX9_soup_52) (fun _ h => h) rfl dX9_soup_6 ?_
  refine lv_iconst (v := nI 0) hx hb dX9_soup_9 (by decide) ?_
  refine x_iald hx hb hM 0 15 0 (f := σ15) rfl rfl rfl (t := 0) (by omega) (by decide) dX9_soup_10 ?_
  refine x_cast (y := nI (tn (σ15 0))) hc15.1 ?_
  refine lv_iconst (v := nI 1) hx hb dX9_soup_11 (by decide) ?_
  refine lv_isub hx hb dX9_soup_12 ?_
  refine x_i2l hx hb dX9_soup_13 ?_
  refine x_calli (bc := []) (br := [w9 q ad σ0 σ1 σ2 σ3 σ4 σ5 σ6 σ7 σ8 σ9 σ10 σ11 σ12 σ13 σ14 σ15 σ16 σ17 σ18 σ19 σ20 σ21 σ22 σ23 σ24 σ25 σ26 σ27 σ28 σ29 σ30]) hM [] [0] rfl rfl rfl (by decide) (x_runS (As := [.long kk.toInt64, .long (-1 : Int64), .long (((nI (tn (σ15 0))) - (nI 1)).toInt64)]) (rest := []) hfix (c_X9_in l D q kk.toInt64 (-1 : Int64) (((nI (tn (σ15 0))) - (nI 1)).toInt64) kkz (-1 : Int) (((tn (σ15 0) : Nat) : Int) - ((1 : Nat) : Int)) ((Jvm.Kit.i64_of_i32 _).trans h_kkz) (by decide) ((Jvm.Kit.i64_of_i32 _).trans (pk_sub_toInt (a := tn (σ15 0)) (b := 1) (by omega) (by omega)))) (va_cwS 3 hts gX9_soup_X9_in rfl rfl rfl (by decide +kernel) ⟨Nat.le_of_ble_eq_true rfl, Nat.le_of_ble_eq_true rfl⟩) hM [] rfl rfl rfl hl.1 rfl (Nat.le_of_ble_eq_true rfl) dX9_soup_14 ⟨Nat.le_of_ble_eq_true rfl, Nat.le_of_ble_eq_true rfl⟩) (fun r u H locs hq hM => ?_)
  subst hq
  have hM : xM D (TY q) [w9 q ad σ0 σ1 σ2 σ3 σ4 σ5 σ6 σ7 σ8 σ9 σ10 σ11 σ12 σ13 σ14 σ15 σ16 σ17 σ18 σ19 σ20 σ21 σ22 σ23 σ24 σ25 σ26 σ27 σ28 σ29 σ30] A s.heap s H locs := hM
  refine x_ifz_ne (P := (-1 : Int) ≤ kkz ∧ kkz ≤ (((tn (σ15 0) : Nat) : Int) - ((1 : Nat) : Int))) (tgt := 22) hx hb dX9_soup_17 (by decide) (fun c1 => ?_) (fun c1 => ?_)
  · exfalso; omega
  · refine lv_iconst (v := (-1)) hx hb dX9_soup_20 (by decide) ?_
    exact x_iret hx hb hr hlocks () hM (show (-1) = (-1) from rfl) dX9_soup_21
