theorem dX9_addGood_0 : decode cX9_addGood 0 = .ok (.aload_n 0, 1) := by decide +kernel
theorem dX9_addGood_1 : decode cX9_addGood 1 = .ok (.getfield 16, 3) := by decide +kernel
theorem dX9_addGood_4 : decode cX9_addGood 4 = .ok (.iconst 5, 1) := by decide +kernel
theorem dX9_addGood_5 : decode cX9_addGood 5 = .ok (.iload_n 1, 1) := by decide +kernel
theorem dX9_addGood_6 : decode cX9_addGood 6 = .ok (.imul, 1) := by decide +kernel
theorem dX9_addGood_7 : decode cX9_addGood 7 = .ok (.aload_n 0, 1) := by decide +kernel
theorem dX9_addGood_8 : decode cX9_addGood 8 = .ok (.getfield 13, 3) := by decide +kernel
theorem dX9_addGood_11 : decode cX9_addGood 11 = .ok (.iload_n 1, 1) := by decide +kernel
theorem dX9_addGood_12 : decode cX9_addGood 12 = .ok (.iaload, 1) := by decide +kernel
theorem dX9_addGood_13 : decode cX9_addGood 13 = .ok (.iadd, 1) := by decide +kernel
theorem dX9_addGood_14 : decode cX9_addGood 14 = .ok (.iload_n 2, 1) := by decide +kernel
theorem dX9_addGood_15 : decode cX9_addGood 15 = .ok (.iastore, 1) := by decide +kernel
theorem dX9_addGood_16 : decode cX9_addGood 16 = .ok (.aload_n 0, 1) := by decide +kernel
theorem dX9_addGood_17 : decode cX9_addGood 17 = .ok (.getfield 19, 3) := by decide +kernel
theorem dX9_addGood_20 : decode cX9_addGood 20 = .ok (.iconst 5, 1) := by decide +kernel
theorem dX9_addGood_21 : decode cX9_addGood 21 = .ok (.iload_n 1, 1) := by decide +kernel
theorem dX9_addGood_22 : decode cX9_addGood 22 = .ok (.imul, 1) := by decide +kernel
theorem dX9_addGood_23 : decode cX9_addGood 23 = .ok (.aload_n 0, 1) := by decide +kernel
theorem dX9_addGood_24 : decode cX9_addGood 24 = .ok (.getfield 13, 3) := by decide +kernel
theorem dX9_addGood_27 : decode cX9_addGood 27 = .ok (.iload_n 1, 1) := by decide +kernel
theorem dX9_addGood_28 : decode cX9_addGood 28 = .ok (.iaload, 1) := by decide +kernel
theorem dX9_addGood_29 : decode cX9_addGood 29 = .ok (.iadd, 1) := by decide +kernel
theorem dX9_addGood_30 : decode cX9_addGood 30 = .ok (.iload_n 3, 1) := by decide +kernel
theorem dX9_addGood_31 : decode cX9_addGood 31 = .ok (.iastore, 1) := by decide +kernel
theorem dX9_addGood_32 : decode cX9_addGood 32 = .ok (.aload_n 0, 1) := by decide +kernel
theorem dX9_addGood_33 : decode cX9_addGood 33 = .ok (.getfield 13, 3) := by decide +kernel
theorem dX9_addGood_36 : decode cX9_addGood 36 = .ok (.iload_n 1, 1) := by decide +kernel
theorem dX9_addGood_37 : decode cX9_addGood 37 = .ok (.dup2, 1) := by decide +kernel
theorem dX9_addGood_38 : decode cX9_addGood 38 = .ok (.iaload, 1) := by decide +kernel
theorem dX9_addGood_39 : decode cX9_addGood 39 = .ok (.iconst 1, 1) := by decide +kernel
theorem dX9_addGood_40 : decode cX9_addGood 40 = .ok (.iadd, 1) := by decide +kernel
theorem dX9_addGood_41 : decode cX9_addGood 41 = .ok (.iastore, 1) := by decide +kernel
theorem dX9_addGood_42 : decode cX9_addGood 42 = .ok (.return_, 1) := by decide +kernel
theorem lkX9_addGood_13 : Cond.fieldLink RX9 13 "LeftAtFiveModel" "goods" "[I" ∈ wsX9_addGood := by decide +kernel
theorem lkX9_addGood_16 : Cond.fieldLink RX9 16 "LeftAtFiveModel" "worths" "[I" ∈ wsX9_addGood := by decide +kernel
theorem lkX9_addGood_19 : Cond.fieldLink RX9 19 "LeftAtFiveModel" "kinds" "[I" ∈ wsX9_addGood := by decide +kernel
theorem iwX9_addGood_X9 : ∀ w ∈ wsX90, w ∈ wsX9_addGood := by decide +kernel
set_option maxHeartbeats 1000000 in
set_option maxRecDepth 100000 in
theorem c_X9_addGood (l : Launch) (D : va_G) (q : Nat → ClassId) (ad : Nat → Nat) (σ0 : Int32) (σ1 : Nat → Int32) (σ2 : Nat → Int32) (σ3 : Nat → Int32) (σ4 : Nat → Int32) (σ5 : Nat → Int32) (σ6 : Nat → Int32) (σ7 : Nat → Int32) (σ8 : Nat → Int32) (σ9 : Nat → Int32) (σ10 : Nat → Int32) (σ11 : Nat → Int32) (σ12 : Nat → Int32) (σ13 : Nat → Int32) (σ14 : Nat → Int32) (σ15 : Nat → Int32) (σ16 : Nat → Int32) (σ17 : Nat → Int32) (σ18 : Nat → Int32) (σ19 : Nat → Int32) (σ20 : Int32) (σ21 : Int32) (σ22 : Int32) (σ23 : Nat → Int32) (σ24 : Int32) (σ25 : Int32) (σ26 : Nat → Int32) (σ27 : Nat → Int32) (σ28 : Nat → Int32) (σ29 : Nat → Int32) (σ30 : Nat → Int32) (b : Nat) (w : Int32) (k : Int32) (hb1 : b ≤ 1) (hgb : σ2 b = nI (tn (σ2 b)) ∧ tn (σ2 b) < 5) : xC l yX9_addGood wsX9_addGood ({ frames := 0, cells := 0, slots := 0, locals := 0 }) D (TY q) [w9 q ad σ0 σ1 σ2 σ3 σ4 σ5 σ6 σ7 σ8 σ9 σ10 σ11 σ12 σ13 σ14 σ15 σ16 σ17 σ18 σ19 σ20 σ21 σ22 σ23 σ24 σ25 σ26 σ27 σ28 σ29 σ30] [.ref (ad 0), .int (nI b), .int w, .int k] (xQv D (TY q) (fun (_ : Unit) => True) (fun _ => [w9 q ad σ0 σ1 (upd σ2 b (nI (tn (σ2 b) + 1))) (upd σ3 (5 * b + tn (σ2 b)) w) (upd σ4 (5 * b + tn (σ2 b)) k) σ5 σ6 σ7 σ8 σ9 σ10 σ11 σ12 σ13 σ14 σ15 σ16 σ17 σ18 σ19 σ20 σ21 σ22 σ23 σ24 σ25 σ26 σ27 σ28 σ29 σ30])) 0 0 := by
  refine x_enter (cc := cX9_addGood) (maxL := 4) (ret := none) (by decide) rfl (Nat.le_of_ble_eq_true rfl) ?_
  intro p e s m below meth c A ls H locs hfix hr hlocks hinit hM hl
  obtain ⟨hx, hb, hml, hown, hts⟩ := id hfix
  have hl : lv_has ls 4 [(0, .ref (ad 0)), (1, .int (nI b)), (2, .int w), (3, .int k)] := hl
  have hgb2 := hgb.2
  refine lv_aload_n hx hb dX9_addGood_0 rfl (lv_at hl 0 rfl) ?_
  refine x_get hx hb hts iwX9_addGood_X9 hown hM 0 0 rfl rfl rfl 3 (by decide) (hts _ lkX9_addGood_16) (fun _ h => h) rfl dX9_addGood_1 ?_
  refine lv_iconst (v := nI 5) hx hb dX9_addGood_4 (by decide) ?_
  refine lv_iload_n hx hb dX9_addGood_5 rfl (lv_at hl 1 rfl) ?_
  refine x_imul (x := 5) (y := b) hx hb dX9_addGood_6 ?_
  refine lv_aload_n hx hb dX9_addGood_7 rfl (lv_at hl 0 rfl) ?_
  refine x_get hx hb hts iwX9_addGood_X9 hown hM 0 0 rfl rfl rfl 2 (by decide) (hts _ lkX9_addGood_13) (fun _ h => h) rfl dX9_addGood_8 ?_
  refine lv_iload_n hx hb dX9_addGood_11 rfl (lv_at hl 1 rfl) ?_
  refine x_iald hx hb hM 0 2 0 (f := σ2) rfl rfl rfl (t := b) (by omega) (by decide) dX9_addGood_12 ?_
  refine x_cast (y := nI (tn (σ2 b))) hgb.1 ?_
  refine x_iadd (x := 5 * b) (y := tn (σ2 b)) hx hb dX9_addGood_13 ?_
  refine lv_iload_n hx hb dX9_addGood_14 rfl (lv_at hl 2 rfl) ?_
  refine x_iast hx hb hM 0 3 0 (f := σ3) rfl rfl rfl (t := 5 * b + (tn (σ2 b))) (x := w) (by omega) (by decide) [w9 q ad σ0 σ1 σ2 (upd σ3 (5 * b + (tn (σ2 b))) w) σ4 σ5 σ6 σ7 σ8 σ9 σ10 σ11 σ12 σ13 σ14 σ15 σ16 σ17 σ18 σ19 σ20 σ21 σ22 σ23 σ24 σ25 σ26 σ27 σ28 σ29 σ30] rfl dX9_addGood_15 (fun H locs hM => ?_)
  refine lv_aload_n hx hb dX9_addGood_16 rfl (lv_at hl 0 rfl) ?_
  refine x_get hx hb hts iwX9_addGood_X9 hown hM 0 0 rfl rfl rfl 4 (by decide) (hts _ lkX9_addGood_19) (fun _ h => h) rfl dX9_addGood_17 ?_
  refine lv_iconst (v := nI 5) hx hb dX9_addGood_20 (by decide) ?_
  refine lv_iload_n hx hb dX9_addGood_21 rfl (lv_at hl 1 rfl) ?_
  refine x_imul (x := 5) (y := b) hx hb dX9_addGood_22 ?_
  refine lv_aload_n hx hb dX9_addGood_23 rfl (lv_at hl 0 rfl) ?_
  refine x_get hx hb hts iwX9_addGood_X9 hown hM 0 0 rfl rfl rfl 2 (by decide) (hts _ lkX9_addGood_13) (fun _ h => h) rfl dX9_addGood_24 ?_
  refine lv_iload_n hx hb dX9_addGood_27 rfl (lv_at hl 1 rfl) ?_
  refine x_iald hx hb hM 0 2 0 (f := σ2) rfl rfl rfl (t := b) (by omega) (by decide) dX9_addGood_28 ?_
  refine x_cast (y := nI (tn (σ2 b))) hgb.1 ?_
  refine x_iadd (x := 5 * b) (y := tn (σ2 b)) hx hb dX9_addGood_29 ?_
  refine lv_iload_n hx hb dX9_addGood_30 rfl (lv_at hl 3 rfl) ?_
  refine x_iast hx hb hM 0 4 0 (f := σ4) rfl rfl rfl (t := 5 * b + (tn (σ2 b))) (x := k) (by omega) (by decide) [w9 q ad σ0 σ1 σ2 (upd σ3 (5 * b + (tn (σ2 b))) w) (upd σ4 (5 * b + (tn (σ2 b))) k) σ5 σ6 σ7 σ8 σ9 σ10 σ11 σ12 σ13 σ14 σ15 σ16 σ17 σ18 σ19 σ20 σ21 σ22 σ23 σ24 σ25 σ26 σ27 σ28 σ29 σ30] rfl dX9_addGood_31 (fun H locs hM => ?_)
  refine lv_aload_n hx hb dX9_addGood_32 rfl (lv_at hl 0 rfl) ?_
  refine x_get hx hb hts iwX9_addGood_X9 hown hM 0 0 rfl rfl rfl 2 (by decide) (hts _ lkX9_addGood_13) (fun _ h => h) rfl dX9_addGood_33 ?_
  refine lv_iload_n hx hb dX9_addGood_36 rfl (lv_at hl 1 rfl) ?_
  refine lv_dup2_11 hx hb dX9_addGood_37 rfl rfl ?_
  refine x_iald hx hb hM 0 2 0 (f := σ2) rfl rfl rfl (t := b) (by omega) (by decide) dX9_addGood_38 ?_
  refine x_cast (y := nI (tn (σ2 b))) hgb.1 ?_
  refine lv_iconst (v := nI 1) hx hb dX9_addGood_39 (by decide) ?_
  refine x_iadd (x := tn (σ2 b)) (y := 1) hx hb dX9_addGood_40 ?_
  refine x_iast hx hb hM 0 2 0 (f := σ2) rfl rfl rfl (t := b) (x := nI (tn (σ2 b) + 1)) (by omega) (by decide) [w9 q ad σ0 σ1 (upd σ2 b (nI (tn (σ2 b) + 1))) (upd σ3 (5 * b + (tn (σ2 b))) w) (upd σ4 (5 * b + (tn (σ2 b))) k) σ5 σ6 σ7 σ8 σ9 σ10 σ11 σ12 σ13 σ14 σ15 σ16 σ17 σ18 σ19 σ20 σ21 σ22 σ23 σ24 σ25 σ26 σ27 σ28 σ29 σ30] rfl dX9_addGood_41 (fun H locs hM => ?_)
  have e1 : ((upd σ3 (5 * b + (tn (σ2 b))) w) : Nat → Int32) = (upd σ3 (5 * b + tn (σ2 b)) w) := by rfl
  have hM : xM D (TY q) [w9 q ad σ0 σ1 (upd σ2 b (nI (tn (σ2 b) + 1))) (upd σ3 (5 * b + tn (σ2 b)) w) (upd σ4 (5 * b + (tn (σ2 b))) k) σ5 σ6 σ7 σ8 σ9 σ10 σ11 σ12 σ13 σ14 σ15 σ16 σ17 σ18 σ19 σ20 σ21 σ22 σ23 σ24 σ25 σ26 σ27 σ28 σ29 σ30] A s.heap s H locs := Eq.mp (congrArg (fun z9 => xM D (TY q) [w9 q ad σ0 σ1 (upd σ2 b (nI (tn (σ2 b) + 1))) z9 (upd σ4 (5 * b + (tn (σ2 b))) k) σ5 σ6 σ7 σ8 σ9 σ10 σ11 σ12 σ13 σ14 σ15 σ16 σ17 σ18 σ19 σ20 σ21 σ22 σ23 σ24 σ25 σ26 σ27 σ28 σ29 σ30] A s.heap s H locs) e1) hM
  have e2 : ((upd σ4 (5 * b + (tn (σ2 b))) k) : Nat → Int32) = (upd σ4 (5 * b + tn (σ2 b)) k) := by rfl
  have hM : xM D (TY q) [w9 q ad σ0 σ1 (upd σ2 b (nI (tn (σ2 b) + 1))) (upd σ3 (5 * b + tn (σ2 b)) w) (upd σ4 (5 * b + tn (σ2 b)) k) σ5 σ6 σ7 σ8 σ9 σ10 σ11 σ12 σ13 σ14 σ15 σ16 σ17 σ18 σ19 σ20 σ21 σ22 σ23 σ24 σ25 σ26 σ27 σ28 σ29 σ30] A s.heap s H locs := Eq.mp (congrArg (fun z9 => xM D (TY q) [w9 q ad σ0 σ1 (upd σ2 b (nI (tn (σ2 b) + 1))) (upd σ3 (5 * b + tn (σ2 b)) w) z9 σ5 σ6 σ7 σ8 σ9 σ10 σ11 σ12 σ13 σ14 σ15 σ16 σ17 σ18 σ19 σ20 σ21 σ22 σ23 σ24 σ25 σ26 σ27 σ28 σ29 σ30] A s.heap s H locs) e2) hM
  exact x_vret hx hb hr hlocks () hM trivial dX9_addGood_42
