theorem dX9_begin_0 : decode cX9_begin 0 = .ok (.iconst 0, 1) := by decide +kernel
theorem dX9_begin_1 : decode cX9_begin 1 = .ok (.istore_n 1, 1) := by decide +kernel
theorem dX9_begin_2 : decode cX9_begin 2 = .ok (.iload_n 1, 1) := by decide +kernel
theorem dX9_begin_3 : decode cX9_begin 3 = .ok (.bipush 67, 2) := by decide +kernel
theorem dX9_begin_5 : decode cX9_begin 5 = .ok (.if_icmp .ge 31, 3) := by decide +kernel
theorem dX9_begin_8 : decode cX9_begin 8 = .ok (.aload_n 0, 1) := by decide +kernel
theorem dX9_begin_9 : decode cX9_begin 9 = .ok (.getfield 64, 3) := by decide +kernel
theorem dX9_begin_12 : decode cX9_begin 12 = .ok (.iload_n 1, 1) := by decide +kernel
theorem dX9_begin_13 : decode cX9_begin 13 = .ok (.iload_n 1, 1) := by decide +kernel
theorem dX9_begin_14 : decode cX9_begin 14 = .ok (.bipush 25, 2) := by decide +kernel
theorem dX9_begin_16 : decode cX9_begin 16 = .ok (.if_icmp .ge 12, 3) := by decide +kernel
theorem dX9_begin_19 : decode cX9_begin 19 = .ok (.aload_n 0, 1) := by decide +kernel
theorem dX9_begin_20 : decode cX9_begin 20 = .ok (.getfield 28, 3) := by decide +kernel
theorem dX9_begin_23 : decode cX9_begin 23 = .ok (.iload_n 1, 1) := by decide +kernel
theorem dX9_begin_24 : decode cX9_begin 24 = .ok (.iaload, 1) := by decide +kernel
theorem dX9_begin_25 : decode cX9_begin 25 = .ok (.goto 4, 3) := by decide +kernel
theorem dX9_begin_28 : decode cX9_begin 28 = .ok (.iconst 0, 1) := by decide +kernel
theorem dX9_begin_29 : decode cX9_begin 29 = .ok (.iastore, 1) := by decide +kernel
theorem dX9_begin_30 : decode cX9_begin 30 = .ok (.iinc 1 1, 3) := by decide +kernel
theorem dX9_begin_33 : decode cX9_begin 33 = .ok (.goto (-31), 3) := by decide +kernel
theorem dX9_begin_36 : decode cX9_begin 36 = .ok (.aload_n 0, 1) := by decide +kernel
theorem dX9_begin_37 : decode cX9_begin 37 = .ok (.iconst 0, 1) := by decide +kernel
theorem dX9_begin_38 : decode cX9_begin 38 = .ok (.putfield 153, 3) := by decide +kernel
theorem dX9_begin_41 : decode cX9_begin 41 = .ok (.aload_n 0, 1) := by decide +kernel
theorem dX9_begin_42 : decode cX9_begin 42 = .ok (.iconst 0, 1) := by decide +kernel
theorem dX9_begin_43 : decode cX9_begin 43 = .ok (.putfield 156, 3) := by decide +kernel
theorem dX9_begin_46 : decode cX9_begin 46 = .ok (.return_, 1) := by decide +kernel
theorem lkX9_begin_28 : Cond.fieldLink RX9 28 "LeftAtFiveModel" "stock" "[I" ∈ wsX9_begin := by decide +kernel
theorem lkX9_begin_64 : Cond.fieldLink RX9 64 "LeftAtFiveModel" "s" "[I" ∈ wsX9_begin := by decide +kernel
theorem lkX9_begin_153 : Cond.fieldLink RX9 153 "LeftAtFiveModel" "undoMany" "I" ∈ wsX9_begin := by decide +kernel
theorem lkX9_begin_156 : Cond.fieldLink RX9 156 "LeftAtFiveModel" "keptMany" "I" ∈ wsX9_begin := by decide +kernel
theorem iwX9_begin_X9 : ∀ w ∈ wsX90, w ∈ wsX9_begin := by decide +kernel
set_option maxHeartbeats 1000000 in
set_option maxRecDepth 100000 in
theorem c_X9_begin (l : Launch) (D : va_G) (q : Nat → ClassId) (ad : Nat → Nat) (σ0 : Int32) (σ1 : Nat → Int32) (σ2 : Nat → Int32) (σ3 : Nat → Int32) (σ4 : Nat → Int32) (σ5 : Nat → Int32) (σ6 : Nat → Int32) (σ7 : Nat → Int32) (σ8 : Nat → Int32) (σ9 : Nat → Int32) (σ10 : Nat → Int32) (σ11 : Nat → Int32) (σ12 : Nat → Int32) (σ13 : Nat → Int32) (σ14 : Nat → Int32) (σ15 : Nat → Int32) (σ16 : Nat → Int32) (σ17 : Nat → Int32) (σ18 : Nat → Int32) (σ19 : Nat → Int32) (σ20 : Int32) (σ21 : Int32) (σ22 : Int32) (σ23 : Nat → Int32) (σ24 : Int32) (σ25 : Int32) (σ26 : Nat → Int32) (σ27 : Nat → Int32) (σ28 : Nat → Int32) (σ29 : Nat → Int32) (σ30 : Nat → Int32) : xC l yX9_begin wsX9_begin ({ frames := 0, cells := 0, slots := 0, locals := 0 }) D (TY q) [w9 q ad σ0 σ1 σ2 σ3 σ4 σ5 σ6 σ7 σ8 σ9 σ10 σ11 σ12 σ13 σ14 σ15 σ16 σ17 σ18 σ19 σ20 σ21 σ22 σ23 σ24 σ25 σ26 σ27 σ28 σ29 σ30] [.ref (ad 0)] (xQv D (TY q) (fun (_ : Unit) => True) (fun _ => [w9 q ad σ0 σ1 σ2 σ3 σ4 σ5 σ6 σ7 σ8 σ9 σ10 σ11 σ12 σ13 σ14 σ15 σ16 σ17 σ18 (xbeg σ19 σ7 67) (nI 0) (nI 0) σ22 σ23 σ24 σ25 σ26 σ27 σ28 σ29 σ30])) 0 0 := by
  refine x_enter (cc := cX9_begin) (maxL := 2) (ret := none) (by decide) rfl (Nat.le_of_ble_eq_true rfl) ?_
  intro p e s m below meth c A ls H locs hfix hr hlocks hinit hM hl
  obtain ⟨hx, hb, hml, hown, hts⟩ := id hfix
  have hl : lv_has ls 2 [(0, .ref (ad 0))] := hl
  refine lv_iconst (v := nI 0) hx hb dX9_begin_0 (by decide) ?_
  refine lv_istore_n (lv' := [(1, .int (nI 0)), (0, .ref (ad 0))]) hx hb dX9_begin_1 rfl hl (by decide) rfl (fun ls hl => ?_)
  have e2 : ((σ19) : Nat → Int32) = (xbeg σ19 σ7 0) := by exact (xbeg_0 _ _).symm
  have hM : xM D (TY q) [w9 q ad σ0 σ1 σ2 σ3 σ4 σ5 σ6 σ7 σ8 σ9 σ10 σ11 σ12 σ13 σ14 σ15 σ16 σ17 σ18 (xbeg σ19 σ7 0) σ20 σ21 σ22 σ23 σ24 σ25 σ26 σ27 σ28 σ29 σ30] A s.heap s H locs := Eq.mp (congrArg (fun z9 => xM D (TY q) [w9 q ad σ0 σ1 σ2 σ3 σ4 σ5 σ6 σ7 σ8 σ9 σ10 σ11 σ12 σ13 σ14 σ15 σ16 σ17 σ18 z9 σ20 σ21 σ22 σ23 σ24 σ25 σ26 σ27 σ28 σ29 σ30] A s.heap s H locs) e2) hM
  refine x_loop (ι := Nat) (fun k => [(0, .ref (ad 0)), (1, .int (nI k))]) (fun k => [w9 q ad σ0 σ1 σ2 σ3 σ4 σ5 σ6 σ7 σ8 σ9 σ10 σ11 σ12 σ13 σ14 σ15 σ16 σ17 σ18 (xbeg σ19 σ7 k) σ20 σ21 σ22 σ23 σ24 σ25 σ26 σ27 σ28 σ29 σ30]) (fun k => k ≤ 67) (fun k => 67 - k) 0 (by omega) hM (lv_sub hl [1, 0] rfl) ?_
  intro k hI4 ih3 H locs hM ls hl
  have hM : xM D (TY q) [w9 q ad σ0 σ1 σ2 σ3 σ4 σ5 σ6 σ7 σ8 σ9 σ10 σ11 σ12 σ13 σ14 σ15 σ16 σ17 σ18 (xbeg σ19 σ7 k) σ20 σ21 σ22 σ23 σ24 σ25 σ26 σ27 σ28 σ29 σ30] A s.heap s H locs := hM
  have hl : lv_has ls 2 [(0, .ref (ad 0)), (1, .int (nI k))] := hl
  have hI4 : k ≤ 67 := hI4
  try dsimp only
  refine lv_iload_n hx hb dX9_begin_2 rfl (lv_at hl 1 rfl) ?_
  refine lv_bipush (v := nI 67) hx hb dX9_begin_3 (by decide) ?_
  refine x_icmp_ge (x := k) (y := 67) (tgt := 36) hx hb (by omega) (by omega) dX9_begin_5 (by decide) (fun c5 => ?_) (fun c5 => ?_)
  · refine lv_aload_n hx hb dX9_begin_36 rfl (lv_at hl 0 rfl) ?_
    refine lv_iconst (v := nI 0) hx hb dX9_begin_37 (by decide) ?_
    refine x_put hx hb hts iwX9_begin_X9 tyX9 tyX9_ok nmX9 hown hM 0 0 rfl rfl rfl 20 (by decide) (hts _ lkX9_begin_153) (fun _ h => h) rfl (ty := .int) (by decide +kernel) rfl rfl (Nat.le_of_ble_eq_true rfl) [w9 q ad σ0 σ1 σ2 σ3 σ4 σ5 σ6 σ7 σ8 σ9 σ10 σ11 σ12 σ13 σ14 σ15 σ16 σ17 σ18 (xbeg σ19 σ7 k) (nI 0) σ21 σ22 σ23 σ24 σ25 σ26 σ27 σ28 σ29 σ30] rfl dX9_begin_38 (fun H locs hM => ?_)
    refine lv_aload_n hx hb dX9_begin_41 rfl (lv_at hl 0 rfl) ?_
    refine lv_iconst (v := nI 0) hx hb dX9_begin_42 (by decide) ?_
    refine x_put hx hb hts iwX9_begin_X9 tyX9 tyX9_ok nmX9 hown hM 0 0 rfl rfl rfl 21 (by decide) (hts _ lkX9_begin_156) (fun _ h => h) rfl (ty := .int) (by decide +kernel) rfl rfl (Nat.le_of_ble_eq_true rfl) [w9 q ad σ0 σ1 σ2 σ3 σ4 σ5 σ6 σ7 σ8 σ9 σ10 σ11 σ12 σ13 σ14 σ15 σ16 σ17 σ18 (xbeg σ19 σ7 k) (nI 0) (nI 0) σ22 σ23 σ24 σ25 σ26 σ27 σ28 σ29 σ30] rfl dX9_begin_43 (fun H locs hM => ?_)
    have e6 : ((xbeg σ19 σ7 k) : Nat → Int32) = (xbeg σ19 σ7 67) := by (rw [show k = 67 by omega])
    have hM : xM D (TY q) [w9 q ad σ0 σ1 σ2 σ3 σ4 σ5 σ6 σ7 σ8 σ9 σ10 σ11 σ12 σ13 σ14 σ15 σ16 σ17 σ18 (xbeg σ19 σ7 67) (nI 0) (nI 0) σ22 σ23 σ24 σ25 σ26 σ27 σ28 σ29 σ30] A s.heap s H locs := Eq.mp (congrArg (fun z9 => xM D (TY q) [w9 q ad σ0 σ1 σ2 σ3 σ4 σ5 σ6 σ7 σ8 σ9 σ10 σ11 σ12 σ13 σ14 σ15 σ16 σ17 σ18 z9 (nI 0) (nI 0) σ22 σ23 σ24 σ25 σ26 σ27 σ28 σ29 σ30] A s.heap s H locs) e6) hM
    exact x_vret hx hb hr hlocks () hM trivial dX9_begin_46
  · refine lv_aload_n hx hb dX9_begin_8 rfl (lv_at hl 0 rfl) ?_
    refine x_get hx hb hts iwX9_begin_X9 hown hM 0 0 rfl rfl rfl 19 (by decide) (hts _ lkX9_begin_64) (fun _ h => h) rfl dX9_begin_9 ?_
    refine lv_iload_n hx hb dX9_begin_12 rfl (lv_at hl 1 rfl) ?_
    refine lv_iload_n hx hb dX9_begin_13 rfl (lv_at hl 1 rfl) ?_
    refine lv_bipush (v := nI 25) hx hb dX9_begin_14 (by decide) ?_
    refine x_icmp_ge (x := k) (y := 25) (tgt := 28) hx hb (by omega) (by omega) dX9_begin_16 (by decide) (fun c7 => ?_) (fun c7 => ?_)
    · refine lv_iconst (v := nI 0) hx hb dX9_begin_28 (by decide) ?_
      refine x_iast hx hb hM 0 19 0 (f := xbeg σ19 σ7 k) rfl rfl rfl (t := k) (x := nI 0) (by omega) (by decide) [w9 q ad σ0 σ1 σ2 σ3 σ4 σ5 σ6 σ7 σ8 σ9 σ10 σ11 σ12 σ13 σ14 σ15 σ16 σ17 σ18 (upd (xbeg σ19 σ7 k) k (nI 0)) σ20 σ21 σ22 σ23 σ24 σ25 σ26 σ27 σ28 σ29 σ30] rfl dX9_begin_29 (fun H locs hM => ?_)
      refine lv_iinc (v := nI (k + 1)) (lv' := [(1, .int (nI (k + 1))), (0, .ref (ad 0))]) hx hb dX9_begin_30 hl (k := 1) rfl (x_inc _ 1) (by decide) rfl (fun ls hl => ?_)
      refine lv_goto (tgt := 2) hx hb dX9_begin_33 (by decide) ?_
      have e8 : ((upd (xbeg σ19 σ7 k) k (nI 0)) : Nat → Int32) = (xbeg σ19 σ7 (k + 1)) := by (first | exact xbeg_s _ _ _ (if_pos (by assumption)).symm | exact xbeg_s _ _ _ (if_neg (by assumption)).symm)
      have hM : xM D (TY q) [w9 q ad σ0 σ1 σ2 σ3 σ4 σ5 σ6 σ7 σ8 σ9 σ10 σ11 σ12 σ13 σ14 σ15 σ16 σ17 σ18 (xbeg σ19 σ7 (k + 1)) σ20 σ21 σ22 σ23 σ24 σ25 σ26 σ27 σ28 σ29 σ30] A s.heap s H locs := Eq.mp (congrArg (fun z9 => xM D (TY q) [w9 q ad σ0 σ1 σ2 σ3 σ4 σ5 σ6 σ7 σ8 σ9 σ10 σ11 σ12 σ13 σ14 σ15 σ16 σ17 σ18 z9 σ20 σ21 σ22 σ23 σ24 σ25 σ26 σ27 σ28 σ29 σ30] A s.heap s H locs) e8) hM
      have hl : lv_has ls 2 [(0, .ref (ad 0)), (1, .int (nI (k + 1)))] := lv_sub hl [1, 0] rfl
      exact ih3 (k + 1) (show 67 - (k + 1) < 67 - k from by omega) (show (k + 1) ≤ 67 from by omega) _ _ hM _ hl
    · refine lv_aload_n hx hb dX9_begin_19 rfl (lv_at hl 0 rfl) ?_
      refine x_get hx hb hts iwX9_begin_X9 hown hM 0 0 rfl rfl rfl 7 (by decide) (hts _ lkX9_begin_28) (fun _ h => h) rfl dX9_begin_20 ?_
      refine lv_iload_n hx hb dX9_begin_23 rfl (lv_at hl 1 rfl) ?_
      refine x_iald hx hb hM 0 7 0 (f := σ7) rfl rfl rfl (t := k) (by omega) (by decide) dX9_begin_24 ?_
      refine lv_goto (tgt := 29) hx hb dX9_begin_25 (by decide) ?_
      refine x_iast hx hb hM 0 19 0 (f := xbeg σ19 σ7 k) rfl rfl rfl (t := k) (x := σ7 k) (by omega) (by decide) [w9 q ad σ0 σ1 σ2 σ3 σ4 σ5 σ6 σ7 σ8 σ9 σ10 σ11 σ12 σ13 σ14 σ15 σ16 σ17 σ18 (upd (xbeg σ19 σ7 k) k (σ7 k)) σ20 σ21 σ22 σ23 σ24 σ25 σ26 σ27 σ28 σ29 σ30] rfl dX9_begin_29 (fun H locs hM => ?_)
      refine lv_iinc (v := nI (k + 1)) (lv' := [(1, .int (nI (k + 1))), (0, .ref (ad 0))]) hx hb dX9_begin_30 hl (k := 1) rfl (x_inc _ 1) (by decide) rfl (fun ls hl => ?_)
      refine lv_goto (tgt := 2) hx hb dX9_begin_33 (by decide) ?_
      have e9 : ((upd (xbeg σ19 σ7 k) k (σ7 k)) : Nat → Int32) = (xbeg σ19 σ7 (k + 1)) := by (first | exact xbeg_s _ _ _ (if_pos (by assumption)).symm | exact xbeg_s _ _ _ (if_neg (by assumption)).symm)
      have hM : xM D (TY q) [w9 q ad σ0 σ1 σ2 σ3 σ4 σ5 σ6 σ7 σ8 σ9 σ10 σ11 σ12 σ13 σ14 σ15 σ16 σ17 σ18 (xbeg σ19 σ7 (k + 1)) σ20 σ21 σ22 σ23 σ24 σ25 σ26 σ27 σ28 σ29 σ30] A s.heap s H locs := Eq.mp (congrArg (fun z9 => xM D (TY q) [w9 q ad σ0 σ1 σ2 σ3 σ4 σ5 σ6 σ7 σ8 σ9 σ10 σ11 σ12 σ13 σ14 σ15 σ16 σ17 σ18 z9 σ20 σ21 σ22 σ23 σ24 σ25 σ26 σ27 σ28 σ29 σ30] A s.heap s H locs) e9) hM
      have hl : lv_has ls 2 [(0, .ref (ad 0)), (1, .int (nI (k + 1)))] := lv_sub hl [1, 0] rfl
      exact ih3 (k + 1) (show 67 - (k + 1) < 67 - k from by omega) (show (k + 1) ≤ 67 from by omega) _ _ hM _ hl
