theorem dX9_addEater_0 : decode cX9_addEater 0 = .ok (.bipush 8, 2) := by decide +kernel
theorem dX9_addEater_2 : decode cX9_addEater 2 = .ok (.iload_n 1, 1) := by decide +kernel
theorem dX9_addEater_3 : decode cX9_addEater 3 = .ok (.imul, 1) := by decide +kernel
theorem dX9_addEater_4 : decode cX9_addEater 4 = .ok (.aload_n 0, 1) := by decide +kernel
theorem dX9_addEater_5 : decode cX9_addEater 5 = .ok (.getfield 31, 3) := by decide +kernel
theorem dX9_addEater_8 : decode cX9_addEater 8 = .ok (.iload_n 1, 1) := by decide +kernel
theorem dX9_addEater_9 : decode cX9_addEater 9 = .ok (.iaload, 1) := by decide +kernel
theorem dX9_addEater_10 : decode cX9_addEater 10 = .ok (.iadd, 1) := by decide +kernel
theorem dX9_addEater_11 : decode cX9_addEater 11 = .ok (.istore 5, 2) := by decide +kernel
theorem dX9_addEater_13 : decode cX9_addEater 13 = .ok (.aload_n 0, 1) := by decide +kernel
theorem dX9_addEater_14 : decode cX9_addEater 14 = .ok (.getfield 34, 3) := by decide +kernel
theorem dX9_addEater_17 : decode cX9_addEater 17 = .ok (.iload 5, 2) := by decide +kernel
theorem dX9_addEater_19 : decode cX9_addEater 19 = .ok (.iload_n 2, 1) := by decide +kernel
theorem dX9_addEater_20 : decode cX9_addEater 20 = .ok (.iastore, 1) := by decide +kernel
theorem dX9_addEater_21 : decode cX9_addEater 21 = .ok (.aload_n 0, 1) := by decide +kernel
theorem dX9_addEater_22 : decode cX9_addEater 22 = .ok (.getfield 37, 3) := by decide +kernel
theorem dX9_addEater_25 : decode cX9_addEater 25 = .ok (.iload 5, 2) := by decide +kernel
theorem dX9_addEater_27 : decode cX9_addEater 27 = .ok (.iload_n 3, 1) := by decide +kernel
theorem dX9_addEater_28 : decode cX9_addEater 28 = .ok (.iastore, 1) := by decide +kernel
theorem dX9_addEater_29 : decode cX9_addEater 29 = .ok (.aload_n 0, 1) := by decide +kernel
theorem dX9_addEater_30 : decode cX9_addEater 30 = .ok (.getfield 40, 3) := by decide +kernel
theorem dX9_addEater_33 : decode cX9_addEater 33 = .ok (.iload 5, 2) := by decide +kernel
theorem dX9_addEater_35 : decode cX9_addEater 35 = .ok (.iload 4, 2) := by decide +kernel
theorem dX9_addEater_37 : decode cX9_addEater 37 = .ok (.iastore, 1) := by decide +kernel
theorem dX9_addEater_38 : decode cX9_addEater 38 = .ok (.aload_n 0, 1) := by decide +kernel
theorem dX9_addEater_39 : decode cX9_addEater 39 = .ok (.getfield 31, 3) := by decide +kernel
theorem dX9_addEater_42 : decode cX9_addEater 42 = .ok (.iload_n 1, 1) := by decide +kernel
theorem dX9_addEater_43 : decode cX9_addEater 43 = .ok (.dup2, 1) := by decide +kernel
theorem dX9_addEater_44 : decode cX9_addEater 44 = .ok (.iaload, 1) := by decide +kernel
theorem dX9_addEater_45 : decode cX9_addEater 45 = .ok (.iconst 1, 1) := by decide +kernel
theorem dX9_addEater_46 : decode cX9_addEater 46 = .ok (.iadd, 1) := by decide +kernel
theorem dX9_addEater_47 : decode cX9_addEater 47 = .ok (.iastore, 1) := by decide +kernel
theorem dX9_addEater_48 : decode cX9_addEater 48 = .ok (.return_, 1) := by decide +kernel
theorem lkX9_addEater_31 : Cond.fieldLink RX9 31 "LeftAtFiveModel" "eaters" "[I" ∈ wsX9_addEater := by decide +kernel
theorem lkX9_addEater_34 : Cond.fieldLink RX9 34 "LeftAtFiveModel" "eatIn" "[I" ∈ wsX9_addEater := by decide +kernel
theorem lkX9_addEater_37 : Cond.fieldLink RX9 37 "LeftAtFiveModel" "eatOf" "[I" ∈ wsX9_addEater := by decide +kernel
theorem lkX9_addEater_40 : Cond.fieldLink RX9 40 "LeftAtFiveModel" "paces" "[I" ∈ wsX9_addEater := by decide +kernel
theorem iwX9_addEater_X9 : ∀ w ∈ wsX90, w ∈ wsX9_addEater := by decide +kernel
set_option maxHeartbeats 1000000 in
set_option maxRecDepth 100000 in
theorem c_X9_addEater (l : Launch) (D : va_G) (q : Nat → ClassId) (ad : Nat → Nat) (σ0 : Int32) (σ1 : Nat → Int32) (σ2 : Nat → Int32) (σ3 : Nat → Int32) (σ4 : Nat → Int32) (σ5 : Nat → Int32) (σ6 : Nat → Int32) (σ7 : Nat → Int32) (σ8 : Nat → Int32) (σ9 : Nat → Int32) (σ10 : Nat → Int32) (σ11 : Nat → Int32) (σ12 : Nat → Int32) (σ13 : Nat → Int32) (σ14 : Nat → Int32) (σ15 : Nat → Int32) (σ16 : Nat → Int32) (σ17 : Nat → Int32) (σ18 : Nat → Int32) (σ19 : Nat → Int32) (σ20 : Int32) (σ21 : Int32) (σ22 : Int32) (σ23 : Nat → Int32) (σ24 : Int32) (σ25 : Int32) (σ26 : Nat → Int32) (σ27 : Nat → Int32) (σ28 : Nat → Int32) (σ29 : Nat → Int32) (σ30 : Nat → Int32) (b : Nat) (h : Int32) (g : Int32) (rr : Int32) (hb1 : b ≤ 1) (heb : σ8 b = nI (tn (σ8 b)) ∧ tn (σ8 b) < 8) : xC l yX9_addEater wsX9_addEater ({ frames := 0, cells := 0, slots := 0, locals := 0 }) D (TY q) [w9 q ad σ0 σ1 σ2 σ3 σ4 σ5 σ6 σ7 σ8 σ9 σ10 σ11 σ12 σ13 σ14 σ15 σ16 σ17 σ18 σ19 σ20 σ21 σ22 σ23 σ24 σ25 σ26 σ27 σ28 σ29 σ30] [.ref (ad 0), .int (nI b), .int h, .int g, .int rr] (xQv D (TY q) (fun (_ : Unit) => True) (fun _ => [w9 q ad σ0 σ1 σ2 σ3 σ4 σ5 σ6 σ7 (upd σ8 b (nI (tn (σ8 b) + 1))) (upd σ9 (8 * b + tn (σ8 b)) h) (upd σ10 (8 * b + tn (σ8 b)) g) (upd σ11 (8 * b + tn (σ8 b)) rr) σ12 σ13 σ14 σ15 σ16 σ17 σ18 σ19 σ20 σ21 σ22 σ23 σ24 σ25 σ26 σ27 σ28 σ29 σ30])) 0 0 := by
  refine x_enter (cc := cX9_addEater) (maxL := 6) (ret := none) (by decide) rfl (Nat.le_of_ble_eq_true rfl) ?_
  intro p e s m below meth c A ls H locs hfix hr hlocks hinit hM hl
  obtain ⟨hx, hb, hml, hown, hts⟩ := id hfix
  have hl : lv_has ls 6 [(0, .ref (ad 0)), (1, .int (nI b)), (2, .int h), (3, .int g), (4, .int rr)] := hl
  have heb2 := heb.2
  refine lv_bipush (v := nI 8) hx hb dX9_addEater_0 (by decide) ?_
  refine lv_iload_n hx hb dX9_addEater_2 rfl (lv_at hl 1 rfl) ?_
  refine x_imul (x := 8) (y := b) hx hb dX9_addEater_3 ?_
  refine lv_aload_n hx hb dX9_addEater_4 rfl (lv_at hl 0 rfl) ?_
  refine x_get hx hb hts iwX9_addEater_X9 hown hM 0 0 rfl rfl rfl 8 (by decide) (hts _ lkX9_addEater_31) (fun _ h => h) rfl dX9_addEater_5 ?_
  refine lv_iload_n hx hb dX9_addEater_8 rfl (lv_at hl 1 rfl) ?_
  refine x_iald hx hb hM 0 8 0 (f := σ8) rfl rfl rfl (t := b) (by omega) (by decide) dX9_addEater_9 ?_
  refine x_cast (y := nI (tn (σ8 b))) heb.1 ?_
  refine x_iadd (x := 8 * b) (y := tn (σ8 b)) hx hb dX9_addEater_10 ?_
  refine lv_istore (lv' := [(5, .int (nI (8 * b + (tn (σ8 b))))), (0, .ref (ad 0)), (1, .int (nI b)), (2, .int h), (3, .int g), (4, .int rr)]) hx hb dX9_addEater_11 hl (by decide) rfl (fun ls hl => ?_)
  refine lv_aload_n hx hb dX9_addEater_13 rfl (lv_at hl 1 rfl) ?_
  refine x_get hx hb hts iwX9_addEater_X9 hown hM 0 0 rfl rfl rfl 9 (by decide) (hts _ lkX9_addEater_34) (fun _ h => h) rfl dX9_addEater_14 ?_
  refine lv_iload hx hb dX9_addEater_17 (lv_at hl 0 rfl) ?_
  refine lv_iload_n hx hb dX9_addEater_19 rfl (lv_at hl 3 rfl) ?_
  refine x_iast hx hb hM 0 9 0 (f := σ9) rfl rfl rfl (t := 8 * b + (tn (σ8 b))) (x := h) (by omega) (by decide) [w9 q ad σ0 σ1 σ2 σ3 σ4 σ5 σ6 σ7 σ8 (upd σ9 (8 * b + (tn (σ8 b))) h) σ10 σ11 σ12 σ13 σ14 σ15 σ16 σ17 σ18 σ19 σ20 σ21 σ22 σ23 σ24 σ25 σ26 σ27 σ28 σ29 σ30] rfl dX9_addEater_20 (fun H locs hM => ?_)
  refine lv_aload_n hx hb dX9_addEater_21 rfl (lv_at hl 1 rfl) ?_
  refine x_get hx hb hts iwX9_addEater_X9 hown hM 0 0 rfl rfl rfl 10 (by decide) (hts _ lkX9_addEater_37) (fun _ h => h) rfl dX9_addEater_22 ?_
  refine lv_iload hx hb dX9_addEater_25 (lv_at hl 0 rfl) ?_
  refine lv_iload_n hx hb dX9_addEater_27 rfl (lv_at hl 4 rfl) ?_
  refine x_iast hx hb hM 0 10 0 (f := σ10) rfl rfl rfl (t := 8 * b + (tn (σ8 b))) (x := g) (by omega) (by decide) [w9 q ad σ0 σ1 σ2 σ3 σ4 σ5 σ6 σ7 σ8 (upd σ9 (8 * b + (tn (σ8 b))) h) (upd σ10 (8 * b + (tn (σ8 b))) g) σ11 σ12 σ13 σ14 σ15 σ16 σ17 σ18 σ19 σ20 σ21 σ22 σ23 σ24 σ25 σ26 σ27 σ28 σ29 σ30] rfl dX9_addEater_28 (fun H locs hM => ?_)
  refine lv_aload_n hx hb dX9_addEater_29 rfl (lv_at hl 1 rfl) ?_
  refine x_get hx hb hts iwX9_addEater_X9 hown hM 0 0 rfl rfl rfl 11 (by decide) (hts _ lkX9_addEater_40) (fun _ h => h) rfl dX9_addEater_30 ?_
  refine lv_iload hx hb dX9_addEater_33 (lv_at hl 0 rfl) ?_
  refine lv_iload hx hb dX9_addEater_35 (lv_at hl 5 rfl) ?_
  refine x_iast hx hb hM 0 11 0 (f := σ11) rfl rfl rfl (t := 8 * b + (tn (σ8 b))) (x := rr) (by omega) (by decide) [w9 q ad σ0 σ1 σ2 σ3 σ4 σ5 σ6 σ7 σ8 (upd σ9 (8 * b + (tn (σ8 b))) h) (upd σ10 (8 * b + (tn (σ8 b))) g) (upd σ11 (8 * b + (tn (σ8 b))) rr) σ12 σ13 σ14 σ15 σ16 σ17 σ18 σ19 σ20 σ21 σ22 σ23 σ24 σ25 σ26 σ27 σ28 σ29 σ30] rfl dX9_addEater_37 (fun H locs hM => ?_)
  refine lv_aload_n hx hb dX9_addEater_38 rfl (lv_at hl 1 rfl) ?_
  refine x_get hx hb hts iwX9_addEater_X9 hown hM 0 0 rfl rfl rfl 8 (by decide) (hts _ lkX9_addEater_31) (fun _ h => h) rfl dX9_addEater_39 ?_
  refine lv_iload_n hx hb dX9_addEater_42 rfl (lv_at hl 2 rfl) ?_
  refine lv_dup2_11 hx hb dX9_addEater_43 rfl rfl ?_
  refine x_iald hx hb hM 0 8 0 (f := σ8) rfl rfl rfl (t := b) (by omega) (by decide) dX9_addEater_44 ?_
  refine x_cast (y := nI (tn (σ8 b))) heb.1 ?_
  refine lv_iconst (v := nI 1) hx hb dX9_addEater_45 (by decide) ?_
  refine x_iadd (x := tn (σ8 b)) (y := 1) hx hb dX9_addEater_46 ?_
  refine x_iast hx hb hM 0 8 0 (f := σ8) rfl rfl rfl (t := b) (x := nI (tn (σ8 b) + 1)) (by omega) (by decide) [w9 q ad σ0 σ1 σ2 σ3 σ4 σ5 σ6 σ7 (upd σ8 b (nI (tn (σ8 b) + 1))) (upd σ9 (8 * b + (tn (σ8 b))) h) (upd σ10 (8 * b + (tn (σ8 b))) g) (upd σ11 (8 * b + (tn (σ8 b))) rr) σ12 σ13 σ14 σ15 σ16 σ17 σ18 σ19 σ20 σ21 σ22 σ23 σ24 σ25 σ26 σ27 σ28 σ29 σ30] rfl dX9_addEater_47 (fun H locs hM => ?_)
  have e1 : ((upd σ9 (8 * b + (tn (σ8 b))) h) : Nat → Int32) = (upd σ9 (8 * b + tn (σ8 b)) h) := by rfl
  have hM : xM D (TY q) [w9 q ad σ0 σ1 σ2 σ3 σ4 σ5 σ6 σ7 (upd σ8 b (nI (tn (σ8 b) + 1))) (upd σ9 (8 * b + tn (σ8 b)) h) (upd σ10 (8 * b + (tn (σ8 b))) g) (upd σ11 (8 * b + (tn (σ8 b))) rr) σ12 σ13 σ14 σ15 σ16 σ17 σ18 σ19 σ20 σ21 σ22 σ23 σ24 σ25 σ26 σ27 σ28 σ29 σ30] A s.heap s H locs := Eq.mp (congrArg (fun z9 => xM D (TY q) [w9 q ad σ0 σ1 σ2 σ3 σ4 σ5 σ6 σ7 (upd σ8 b (nI (tn (σ8 b) + 1))) z9 (upd σ10 (8 * b + (tn (σ8 b))) g) (upd σ11 (8 * b + (tn (σ8 b))) rr) σ12 σ13 σ14 σ15 σ16 σ17 σ18 σ19 σ20 σ21 σ22 σ23 σ24 σ25 σ26 σ27 σ28 σ29 σ30] A s.heap s H locs) e1) hM
  have e2 : ((upd σ10 (8 * b + (tn (σ8 b))) g) : Nat → Int32) = (upd σ10 (8 * b + tn (σ8 b)) g) := by rfl
  have hM : xM D (TY q) [w9 q ad σ0 σ1 σ2 σ3 σ4 σ5 σ6 σ7 (upd σ8 b (nI (tn (σ8 b) + 1))) (upd σ9 (8 * b + tn (σ8 b)) h) (upd σ10 (8 * b + tn (σ8 b)) g) (upd σ11 (8 * b + (tn (σ8 b))) rr) σ12 σ13 σ14 σ15 σ16 σ17 σ18 σ19 σ20 σ21 σ22 σ23 σ24 σ25 σ26 σ27 σ28 σ29 σ30] A s.heap s H locs := Eq.mp (congrArg (fun z9 => xM D (TY q) [w9 q ad σ0 σ1 σ2 σ3 σ4 σ5 σ6 σ7 (upd σ8 b (nI (tn (σ8 b) + 1))) (upd σ9 (8 * b + tn (σ8 b)) h) z9 (upd σ11 (8 * b + (tn (σ8 b))) rr) σ12 σ13 σ14 σ15 σ16 σ17 σ18 σ19 σ20 σ21 σ22 σ23 σ24 σ25 σ26 σ27 σ28 σ29 σ30] A s.heap s H locs) e2) hM
  have e3 : ((upd σ11 (8 * b + (tn (σ8 b))) rr) : Nat → Int32) = (upd σ11 (8 * b + tn (σ8 b)) rr) := by rfl
  have hM : xM D (TY q) [w9 q ad σ0 σ1 σ2 σ3 σ4 σ5 σ6 σ7 (upd σ8 b (nI (tn (σ8 b) + 1))) (upd σ9 (8 * b + tn (σ8 b)) h) (upd σ10 (8 * b + tn (σ8 b)) g) (upd σ11 (8 * b + tn (σ8 b)) rr) σ12 σ13 σ14 σ15 σ16 σ17 σ18 σ19 σ20 σ21 σ22 σ23 σ24 σ25 σ26 σ27 σ28 σ29 σ30] A s.heap s H locs := Eq.mp (congrArg (fun z9 => xM D (TY q) [w9 q ad σ0 σ1 σ2 σ3 σ4 σ5 σ6 σ7 (upd σ8 b (nI (tn (σ8 b) + 1))) (upd σ9 (8 * b + tn (σ8 b)) h) (upd σ10 (8 * b + tn (σ8 b)) g) z9 σ12 σ13 σ14 σ15 σ16 σ17 σ18 σ19 σ20 σ21 σ22 σ23 σ24 σ25 σ26 σ27 σ28 σ29 σ30] A s.heap s H locs) e3) hM
  exact x_vret hx hb hr hlocks () hM trivial dX9_addEater_48
