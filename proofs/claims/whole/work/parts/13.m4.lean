set_option maxRecDepth 20000 in
theorem ggX9_note_X9_copy : GoodIn wsX9_note wsX9_copy := goodIn_r _ [6, 7, 8, 9, 10, 11, 12, 13, 14, 15, 16, 17, 18, 19, 20, 21, 22, 23, 24, 25, 26, 27, 28, 29, 30, 31, 32, 33, 34, 35, 36, 37, 38] (by decide +kernel) (by decide +kernel)
set_option maxRecDepth 20000 in
theorem gX9_note_X9_copy : GoodIn wsX9_note (wsV RX9 216 RX9 yX9_copy wsX9_copy) := goodIn_app (goodIn_of _ (by decide +kernel)) ggX9_note_X9_copy
theorem dX9_note_0 : decode cX9_note 0 = .ok (.aload_n 0, 1) := by decide +kernel
theorem dX9_note_1 : decode cX9_note 1 = .ok (.getfield 153, 3) := by decide +kernel
theorem dX9_note_4 : decode cX9_note 4 = .ok (.bipush 8, 2) := by decide +kernel
theorem dX9_note_6 : decode cX9_note 6 = .ok (.if_icmp .ne 35, 3) := by decide +kernel
theorem dX9_note_9 : decode cX9_note 9 = .ok (.iconst 1, 1) := by decide +kernel
theorem dX9_note_10 : decode cX9_note 10 = .ok (.istore_n 1, 1) := by decide +kernel
theorem dX9_note_11 : decode cX9_note 11 = .ok (.iload_n 1, 1) := by decide +kernel
theorem dX9_note_12 : decode cX9_note 12 = .ok (.bipush 8, 2) := by decide +kernel
theorem dX9_note_14 : decode cX9_note 14 = .ok (.if_icmp .ge 17, 3) := by decide +kernel
theorem dX9_note_17 : decode cX9_note 17 = .ok (.aload_n 0, 1) := by decide +kernel
theorem dX9_note_18 : decode cX9_note 18 = .ok (.iload_n 1, 1) := by decide +kernel
theorem dX9_note_19 : decode cX9_note 19 = .ok (.iconst 1, 1) := by decide +kernel
theorem dX9_note_20 : decode cX9_note 20 = .ok (.iadd, 1) := by decide +kernel
theorem dX9_note_21 : decode cX9_note 21 = .ok (.iload_n 1, 1) := by decide +kernel
theorem dX9_note_22 : decode cX9_note 22 = .ok (.invokevirtual 216, 3) := by decide +kernel
theorem dX9_note_25 : decode cX9_note 25 = .ok (.iinc 1 1, 3) := by decide +kernel
theorem dX9_note_28 : decode cX9_note 28 = .ok (.goto (-17), 3) := by decide +kernel
theorem dX9_note_31 : decode cX9_note 31 = .ok (.aload_n 0, 1) := by decide +kernel
theorem dX9_note_32 : decode cX9_note 32 = .ok (.dup, 1) := by decide +kernel
theorem dX9_note_33 : decode cX9_note 33 = .ok (.getfield 153, 3) := by decide +kernel
theorem dX9_note_36 : decode cX9_note 36 = .ok (.iconst 1, 1) := by decide +kernel
theorem dX9_note_37 : decode cX9_note 37 = .ok (.isub, 1) := by decide +kernel
theorem dX9_note_38 : decode cX9_note 38 = .ok (.putfield 153, 3) := by decide +kernel
theorem dX9_note_41 : decode cX9_note 41 = .ok (.aload_n 0, 1) := by decide +kernel
theorem dX9_note_42 : decode cX9_note 42 = .ok (.dup, 1) := by decide +kernel
theorem dX9_note_43 : decode cX9_note 43 = .ok (.getfield 153, 3) := by decide +kernel
theorem dX9_note_46 : decode cX9_note 46 = .ok (.iconst 1, 1) := by decide +kernel
theorem dX9_note_47 : decode cX9_note 47 = .ok (.iadd, 1) := by decide +kernel
theorem dX9_note_48 : decode cX9_note 48 = .ok (.putfield 153, 3) := by decide +kernel
theorem dX9_note_51 : decode cX9_note 51 = .ok (.aload_n 0, 1) := by decide +kernel
theorem dX9_note_52 : decode cX9_note 52 = .ok (.iconst 0, 1) := by decide +kernel
theorem dX9_note_53 : decode cX9_note 53 = .ok (.aload_n 0, 1) := by decide +kernel
theorem dX9_note_54 : decode cX9_note 54 = .ok (.getfield 153, 3) := by decide +kernel
theorem dX9_note_57 : decode cX9_note 57 = .ok (.invokevirtual 216, 3) := by decide +kernel
theorem dX9_note_60 : decode cX9_note 60 = .ok (.return_, 1) := by decide +kernel
theorem lkX9_note_153 : Cond.fieldLink RX9 153 "LeftAtFiveModel" "undoMany" "I" ∈ wsX9_note := by decide +kernel
theorem iwX9_note_X9 : ∀ w ∈ wsX90, w ∈ wsX9_note := by decide +kernel
set_option maxHeartbeats 4000000 in
set_option maxRecDepth 100000 in
theorem c_X9_note (l : Launch) (D : va_G) (q : Nat → ClassId) (ad : Nat → Nat) (σ0 : Int32) (σ1 : Nat → Int32) (σ2 : Nat → Int32) (σ3 : Nat → Int32) (σ4 : Nat → Int32) (σ5 : Nat → Int32) (σ6 : Nat → Int32) (σ7 : Nat → Int32) (σ8 : Nat → Int32) (σ9 : Nat → Int32) (σ10 : Nat → Int32) (σ11 : Nat → Int32) (σ12 : Nat → Int32) (σ13 : Nat → Int32) (σ14 : Nat → Int32) (σ15 : Nat → Int32) (σ16 : Nat → Int32) (σ17 : Nat → Int32) (σ18 : Nat → Int32) (σ19 : Nat → Int32) (σ20 : Int32) (σ21 : Int32) (σ22 : Int32) (σ23 : Nat → Int32) (σ24 : Int32) (σ25 : Int32) (σ26 : Nat → Int32) (σ27 : Nat → Int32) (σ28 : Nat → Int32) (σ29 : Nat → Int32) (σ30 : Nat → Int32) (hU : σ20 = nI (tn σ20) ∧ tn σ20 ≤ 8) : xC l yX9_note wsX9_note ({ frames := 1, cells := 0, slots := 0, locals := 23 }) D (TY q) [w9 q ad σ0 σ1 σ2 σ3 σ4 σ5 σ6 σ7 σ8 σ9 σ10 σ11 σ12 σ13 σ14 σ15 σ16 σ17 σ18 σ19 σ20 σ21 σ22 σ23 σ24 σ25 σ26 σ27 σ28 σ29 σ30] [.ref (ad 0)] (xQv D (TY q) (fun (_ : Unit) => True) (fun _ => [w9 q ad σ0 σ1 σ2 σ3 σ4 σ5 σ6 σ7 σ8 σ9 σ10 σ11 σ12 σ13 σ14 σ15 σ16 σ17 σ18 (xnote σ19 (tn σ20)) (nI (xnU (tn σ20))) σ21 σ22 σ23 σ24 σ25 σ26 σ27 σ28 σ29 σ30])) 0 0 := by
  refine x_enter (cc := cX9_note) (maxL := 2) (ret := none) (by decide) rfl (Nat.le_of_ble_eq_true rfl) ?_
  intro p e s m below meth c A ls H locs hfix hr hlocks hinit hM hl
  obtain ⟨hx, hb, hml, hown, hts⟩ := id hfix
  have hl : lv_has ls 2 [(0, .ref (ad 0))] := hl
  have hU2 := hU.2
  refine lv_aload_n hx hb dX9_note_0 rfl (lv_at hl 0 rfl) ?_
  refine x_get hx hb hts iwX9_note_X9 hown hM 0 0 rfl rfl rfl 20 (by decide) (hts _ lkX9_note_153) (fun _ h => h) rfl dX9_note_1 ?_
  refine x_cast (y := nI (tn σ20)) hU.1 ?_
  refine lv_bipush (v := nI 8) hx hb dX9_note_4 (by decide) ?_
  refine x_icmp_ne (x := tn σ20) (y := 8) (tgt := 41) hx hb (by omega) (by omega) dX9_note_6 (by decide) (fun c1 => ?_) (fun c1 => ?_)
  · refine lv_aload_n hx hb dX9_note_41 rfl (lv_at hl 0 rfl) ?_
    refine lv_dup hx hb dX9_note_42 rfl ?_
    refine x_get hx hb hts iwX9_note_X9 hown hM 0 0 rfl rfl rfl 20 (by decide) (hts _ lkX9_note_153) (fun _ h => h) rfl dX9_note_43 ?_
    refine x_cast (y := nI (tn σ20)) hU.1 ?_
    refine lv_iconst (v := nI 1) hx hb dX9_note_46 (by decide) ?_
    refine x_iadd (x := tn σ20) (y := 1) hx hb dX9_note_47 ?_
    refine x_put hx hb hts iwX9_note_X9 tyX9 tyX9_ok nmX9 hown hM 0 0 rfl rfl rfl 20 (by decide) (hts _ lkX9_note_153) (fun _ h => h) rfl (ty := .int) (by decide +kernel) rfl rfl (Nat.le_of_ble_eq_true rfl) [w9 q ad σ0 σ1 σ2 σ3 σ4 σ5 σ6 σ7 σ8 σ9 σ10 σ11 σ12 σ13 σ14 σ15 σ16 σ17 σ18 σ19 (nI (tn σ20 + 1)) σ21 σ22 σ23 σ24 σ25 σ26 σ27 σ28 σ29 σ30] rfl dX9_note_48 (fun H locs hM => ?_)
    refine lv_aload_n hx hb dX9_note_51 rfl (lv_at hl 0 rfl) ?_
    refine lv_iconst (v := nI 0) hx hb dX9_note_52 (by decide) ?_
    refine lv_aload_n hx hb dX9_note_53 rfl (lv_at hl 0 rfl) ?_
    refine x_get hx hb hts iwX9_note_X9 hown hM 0 0 rfl rfl rfl 20 (by decide) (hts _ lkX9_note_153) (fun _ h => h) rfl dX9_note_54 ?_
    refine x_callv (bc := [w9 q ad σ0 σ1 σ2 σ3 σ4 σ5 σ6 σ7 σ8 σ9 σ10 σ11 σ12 σ13 σ14 σ15 σ16 σ17 σ18 σ19 (nI (tn σ20 + 1)) σ21 σ22 σ23 σ24 σ25 σ26 σ27 σ28 σ29 σ30]) (br := []) hM [0] [] rfl rfl rfl (by decide) (x_runV (As := [.int (nI 0), .int (nI (tn σ20 + 1))]) (rest := []) hfix (c_X9_copy l D q ad σ0 σ1 σ2 σ3 σ4 σ5 σ6 σ7 σ8 σ9 σ10 σ11 σ12 σ13 σ14 σ15 σ16 σ17 σ18 σ19 (nI (tn σ20 + 1)) σ21 σ22 σ23 σ24 σ25 σ26 σ27 σ28 σ29 σ30 0 (tn σ20 + 1) (by omega) (by omega) (by omega)) (cwV 2 hts gX9_note_X9_copy rfl rfl rfl (by decide +kernel) ⟨Nat.le_of_ble_eq_true rfl, Nat.le_of_ble_eq_true rfl⟩) hM [0] rfl rfl 0 0 rfl rfl rfl rfl rfl hl.1 rfl (Nat.le_of_ble_eq_true rfl) dX9_note_57 ⟨Nat.le_of_ble_eq_true rfl, Nat.le_of_ble_eq_true rfl⟩) (fun u H locs hq hM => ?_)
    have hM : xM D (TY q) [w9 q ad σ0 σ1 σ2 σ3 σ4 σ5 σ6 σ7 σ8 σ9 σ10 σ11 σ12 σ13 σ14 σ15 σ16 σ17 σ18 (xspl σ19 (tn σ20 + 1) (xreg σ19 0)) (nI (tn σ20 + 1)) σ21 σ22 σ23 σ24 σ25 σ26 σ27 σ28 σ29 σ30] A s.heap s H locs := hM
    have e2 : ((xspl σ19 (tn σ20 + 1) (xreg σ19 0)) : Nat → Int32) = (xnote σ19 (tn σ20)) := by (first | (rw [hk8, xnote, if_pos (c := tn σ20 = 8) (by omega), xnU, if_pos (c := tn σ20 = 8) (by omega)]; rw [show tn σ20 - 1 + 1 = 8 by omega]) | (rw [xnote, if_neg (c := tn σ20 = 8) (by omega), xnU, if_neg (c := tn σ20 = 8) (by omega)]))
    have hM : xM D (TY q) [w9 q ad σ0 σ1 σ2 σ3 σ4 σ5 σ6 σ7 σ8 σ9 σ10 σ11 σ12 σ13 σ14 σ15 σ16 σ17 σ18 (xnote σ19 (tn σ20)) (nI (tn σ20 + 1)) σ21 σ22 σ23 σ24 σ25 σ26 σ27 σ28 σ29 σ30] A s.heap s H locs := Eq.mp (congrArg (fun z9 => xM D (TY q) [w9 q ad σ0 σ1 σ2 σ3 σ4 σ5 σ6 σ7 σ8 σ9 σ10 σ11 σ12 σ13 σ14 σ15 σ16 σ17 σ18 z9 (nI (tn σ20 + 1)) σ21 σ22 σ23 σ24 σ25 σ26 σ27 σ28 σ29 σ30] A s.heap s H locs) e2) hM
    have e3 : ((nI (tn σ20 + 1)) : Int32) = (nI (xnU (tn σ20))) := by (first | (rw [xnU, if_pos (c := tn σ20 = 8) (by omega), show tn σ20 - 1 + 1 = 8 by omega]) | (rw [xnU, if_neg (c := tn σ20 = 8) (by omega)]))
    have hM : xM D (TY q) [w9 q ad σ0 σ1 σ2 σ3 σ4 σ5 σ6 σ7 σ8 σ9 σ10 σ11 σ12 σ13 σ14 σ15 σ16 σ17 σ18 (xnote σ19 (tn σ20)) (nI (xnU (tn σ20))) σ21 σ22 σ23 σ24 σ25 σ26 σ27 σ28 σ29 σ30] A s.heap s H locs := Eq.mp (congrArg (fun z9 => xM D (TY q) [w9 q ad σ0 σ1 σ2 σ3 σ4 σ5 σ6 σ7 σ8 σ9 σ10 σ11 σ12 σ13 σ14 σ15 σ16 σ17 σ18 (xnote σ19 (tn σ20)) z9 σ21 σ22 σ23 σ24 σ25 σ26 σ27 σ28 σ29 σ30] A s.heap s H locs) e3) hM
    exact x_vret hx hb hr hlocks () hM trivial dX9_note_60
  · refine lv_iconst (v := nI 1) hx hb dX9_note_9 (by decide) ?_
    refine lv_istore_n (lv' := [(1, .int (nI 1)), (0, .ref (ad 0))]) hx hb dX9_note_10 rfl hl (by decide) rfl (fun ls hl => ?_)
    have e5 : ((σ19) : Nat → Int32) = (xsh σ19 1) := by exact (xsh_1 _).symm
    have hM : xM D (TY q) [w9 q ad σ0 σ1 σ2 σ3 σ4 σ5 σ6 σ7 σ8 σ9 σ10 σ11 σ12 σ13 σ14 σ15 σ16 σ17 σ18 (xsh σ19 1) σ20 σ21 σ22 σ23 σ24 σ25 σ26 σ27 σ28 σ29 σ30] A s.heap s H locs := Eq.mp (congrArg (fun z9 => xM D (TY q) [w9 q ad σ0 σ1 σ2 σ3 σ4 σ5 σ6 σ7 σ8 σ9 σ10 σ11 σ12 σ13 σ14 σ15 σ16 σ17 σ18 z9 σ20 σ21 σ22 σ23 σ24 σ25 σ26 σ27 σ28 σ29 σ30] A s.heap s H locs) e5) hM
    refine x_loop (ι := Nat) (fun k => [(0, .ref (ad 0)), (1, .int (nI k))]) (fun k => [w9 q ad σ0 σ1 σ2 σ3 σ4 σ5 σ6 σ7 σ8 σ9 σ10 σ11 σ12 σ13 σ14 σ15 σ16 σ17 σ18 (xsh σ19 k) σ20 σ21 σ22 σ23 σ24 σ25 σ26 σ27 σ28 σ29 σ30]) (fun k => 1 ≤ k ∧ k ≤ 8) (fun k => 8 - k) 1 (by omega) hM (lv_sub hl [1, 0] rfl) ?_
    intro k hI7 ih6 H locs hM ls hl
    have hM : xM D (TY q) [w9 q ad σ0 σ1 σ2 σ3 σ4 σ5 σ6 σ7 σ8 σ9 σ10 σ11 σ12 σ13 σ14 σ15 σ16 σ17 σ18 (xsh σ19 k) σ20 σ21 σ22 σ23 σ24 σ25 σ26 σ27 σ28 σ29 σ30] A s.heap s H locs := hM
    have hl : lv_has ls 2 [(0, .ref (ad 0)), (1, .int (nI k))] := hl
    have hI7 : 1 ≤ k ∧ k ≤ 8 := hI7
    obtain ⟨hI7_0, hI7_1⟩ := id hI7
    try dsimp only
    refine lv_iload_n hx hb dX9_note_11 rfl (lv_at hl 1 rfl) ?_
    refine lv_bipush (v := nI 8) hx hb dX9_note_12 (by decide) ?_
    refine x_icmp_ge (x := k) (y := 8) (tgt := 31) hx hb (by omega) (by omega) dX9_note_14 (by decide) (fun c8 => ?_) (fun c8 => ?_)
    · have hk8 : k = 8 := by omega
      refine lv_aload_n hx hb dX9_note_31 rfl (lv_at hl 0 rfl) ?_
      refine lv_dup hx hb dX9_note_32 rfl ?_
      refine x_get hx hb hts iwX9_note_X9 hown hM 0 0 rfl rfl rfl 20 (by decide) (hts _ lkX9_note_153) (fun _ h => h) rfl dX9_note_33 ?_
      refine x_cast (y := nI (tn σ20)) hU.1 ?_
      refine lv_iconst (v := nI 1) hx hb dX9_note_36 (by decide) ?_
      refine x_isub (x := tn σ20) (y := 1) hx hb (by omega) dX9_note_37 ?_
      refine x_put hx hb hts iwX9_note_X9 tyX9 tyX9_ok nmX9 hown hM 0 0 rfl rfl rfl 20 (by decide) (hts _ lkX9_note_153) (fun _ h => h) rfl (ty := .int) (by decide +kernel) rfl rfl (Nat.le_of_ble_eq_true rfl) [w9 q ad σ0 σ1 σ2 σ3 σ4 σ5 σ6 σ7 σ8 σ9 σ10 σ11 σ12 σ13 σ14 σ15 σ16 σ17 σ18 (xsh σ19 k) (nI ((tn σ20) - 1)) σ21 σ22 σ23 σ24 σ25 σ26 σ27 σ28 σ29 σ30] rfl dX9_note_38 (fun H locs hM => ?_)
      refine lv_aload_n hx hb dX9_note_41 rfl (lv_at hl 0 rfl) ?_
      refine lv_dup hx hb dX9_note_42 rfl ?_
      refine x_get hx hb hts iwX9_note_X9 hown hM 0 0 rfl rfl rfl 20 (by decide) (hts _ lkX9_note_153) (fun _ h => h) rfl dX9_note_43 ?_
      refine lv_iconst (v := nI 1) hx hb dX9_note_46 (by decide) ?_
      refine x_iadd (x := (tn σ20) - 1) (y := 1) hx hb dX9_note_47 ?_
      refine x_put hx hb hts iwX9_note_X9 tyX9 tyX9_ok nmX9 hown hM 0 0 rfl rfl rfl 20 (by decide) (hts _ lkX9_note_153) (fun _ h => h) rfl (ty := .int) (by decide +kernel) rfl rfl (Nat.le_of_ble_eq_true rfl) [w9 q ad σ0 σ1 σ2 σ3 σ4 σ5 σ6 σ7 σ8 σ9 σ10 σ11 σ12 σ13 σ14 σ15 σ16 σ17 σ18 (xsh σ19 k) (nI ((tn σ20) - 1 + 1)) σ21 σ22 σ23 σ24 σ25 σ26 σ27 σ28 σ29 σ30] rfl dX9_note_48 (fun H locs hM => ?_)
      refine lv_aload_n hx hb dX9_note_51 rfl (lv_at hl 0 rfl) ?_
      refine lv_iconst (v := nI 0) hx hb dX9_note_52 (by decide) ?_
      refine lv_aload_n hx hb dX9_note_53 rfl (lv_at hl 0 rfl) ?_
      refine x_get hx hb hts iwX9_note_X9 hown hM 0 0 rfl rfl rfl 20 (by decide) (hts _ lkX9_note_153) (fun _ h => h) rfl dX9_note_54 ?_
      refine x_callv (bc := [w9 q ad σ0 σ1 σ2 σ3 σ4 σ5 σ6 σ7 σ8 σ9 σ10 σ11 σ12 σ13 σ14 σ15 σ16 σ17 σ18 (xsh σ19 k) (nI ((tn σ20) - 1 + 1)) σ21 σ22 σ23 σ24 σ25 σ26 σ27 σ28 σ29 σ30]) (br := []) hM [0] [] rfl rfl rfl (by decide) (x_runV (As := [.int (nI 0), .int (nI ((tn σ20) - 1 + 1))]) (rest := []) hfix (c_X9_copy l D q ad σ0 σ1 σ2 σ3 σ4 σ5 σ6 σ7 σ8 σ9 σ10 σ11 σ12 σ13 σ14 σ15 σ16 σ17 σ18 (xsh σ19 k) (nI ((tn σ20) - 1 + 1)) σ21 σ22 σ23 σ24 σ25 σ26 σ27 σ28 σ29 σ30 0 ((tn σ20) - 1 + 1) (by omega) (by omega) (by omega)) (cwV 2 hts gX9_note_X9_copy rfl rfl rfl (by decide +kernel) ⟨Nat.le_of_ble_eq_true rfl, Nat.le_of_ble_eq_true rfl⟩) hM [0] rfl rfl 0 0 rfl rfl rfl rfl rfl hl.1 rfl (Nat.le_of_ble_eq_true rfl) dX9_note_57 ⟨Nat.le_of_ble_eq_true rfl, Nat.le_of_ble_eq_true rfl⟩) (fun u H locs hq hM => ?_)
      have hM : xM D (TY q) [w9 q ad σ0 σ1 σ2 σ3 σ4 σ5 σ6 σ7 σ8 σ9 σ10 σ11 σ12 σ13 σ14 σ15 σ16 σ17 σ18 (xspl (xsh σ19 k) ((tn σ20) - 1 + 1) (xreg (xsh σ19 k) 0)) (nI ((tn σ20) - 1 + 1)) σ21 σ22 σ23 σ24 σ25 σ26 σ27 σ28 σ29 σ30] A s.heap s H locs := hM
      have e9 : ((xspl (xsh σ19 k) ((tn σ20) - 1 + 1) (xreg (xsh σ19 k) 0)) : Nat → Int32) = (xnote σ19 (tn σ20)) := by (first | (rw [hk8, xnote, if_pos (c := tn σ20 = 8) (by omega), xnU, if_pos (c := tn σ20 = 8) (by omega)]; rw [show tn σ20 - 1 + 1 = 8 by omega]) | (rw [xnote, if_neg (c := tn σ20 = 8) (by omega), xnU, if_neg (c := tn σ20 = 8) (by omega)]))
      have hM : xM D (TY q) [w9 q ad σ0 σ1 σ2 σ3 σ4 σ5 σ6 σ7 σ8 σ9 σ10 σ11 σ12 σ13 σ14 σ15 σ16 σ17 σ18 (xnote σ19 (tn σ20)) (nI ((tn σ20) - 1 + 1)) σ21 σ22 σ23 σ24 σ25 σ26 σ27 σ28 σ29 σ30] A s.heap s H locs := Eq.mp (congrArg (fun z9 => xM D (TY q) [w9 q ad σ0 σ1 σ2 σ3 σ4 σ5 σ6 σ7 σ8 σ9 σ10 σ11 σ12 σ13 σ14 σ15 σ16 σ17 σ18 z9 (nI ((tn σ20) - 1 + 1)) σ21 σ22 σ23 σ24 σ25 σ26 σ27 σ28 σ29 σ30] A s.heap s H locs) e9) hM
      have e10 : ((nI ((tn σ20) - 1 + 1)) : Int32) = (nI (xnU (tn σ20))) := by (first | (rw [xnU, if_pos (c := tn σ20 = 8) (by omega), show tn σ20 - 1 + 1 = 8 by omega]) | (rw [xnU, if_neg (c := tn σ20 = 8) (by omega)]))
      have hM : xM D (TY q) [w9 q ad σ0 σ1 σ2 σ3 σ4 σ5 σ6 σ7 σ8 σ9 σ10 σ11 σ12 σ13 σ14 σ15 σ16 σ17 σ18 (xnote σ19 (tn σ20)) (nI (xnU (tn σ20))) σ21 σ22 σ23 σ24 σ25 σ26 σ27 σ28 σ29 σ30] A s.heap s H locs := Eq.mp (congrArg (fun z9 => xM D (TY q) [w9 q ad σ0 σ1 σ2 σ3 σ4 σ5 σ6 σ7 σ8 σ9 σ10 σ11 σ12 σ13 σ14 σ15 σ16 σ17 σ18 (xnote σ19 (tn σ20)) z9 σ21 σ22 σ23 σ24 σ25 σ26 σ27 σ28 σ29 σ30] A s.heap s H locs) e10) hM
      exact x_vret hx hb hr hlocks () hM trivial dX9_note_60
    · refine lv_aload_n hx hb dX9_note_17 rfl (lv_at hl 0 rfl) ?_
      refine lv_iload_n hx hb dX9_note_18 rfl (lv_at hl 1 rfl) ?_
      refine lv_iconst (v := nI 1) hx hb dX9_note_19 (by decide) ?_
      refine x_iadd (x := k) (y := 1) hx hb dX9_note_20 ?_
      refine lv_iload_n hx hb dX9_note_21 rfl (lv_at hl 1 rfl) ?_
      refine x_callv (bc := [w9 q ad σ0 σ1 σ2 σ3 σ4 σ5 σ6 σ7 σ8 σ9 σ10 σ11 σ12 σ13 σ14 σ15 σ16 σ17 σ18 (xsh σ19 k) σ20 σ21 σ22 σ23 σ24 σ25 σ26 σ27 σ28 σ29 σ30]) (br := []) hM [0] [] rfl rfl rfl (by decide) (x_runV (As := [.int (nI (k + 1)), .int (nI k)]) (rest := []) hfix (c_X9_copy l D q ad σ0 σ1 σ2 σ3 σ4 σ5 σ6 σ7 σ8 σ9 σ10 σ11 σ12 σ13 σ14 σ15 σ16 σ17 σ18 (xsh σ19 k) σ20 σ21 σ22 σ23 σ24 σ25 σ26 σ27 σ28 σ29 σ30 (k + 1) k (by omega) (by omega) (by omega)) (cwV 2 hts gX9_note_X9_copy rfl rfl rfl (by decide +kernel) ⟨Nat.le_of_ble_eq_true rfl, Nat.le_of_ble_eq_true rfl⟩) hM [0] rfl rfl 0 0 rfl rfl rfl rfl rfl hl.1 rfl (Nat.le_of_ble_eq_true rfl) dX9_note_22 ⟨Nat.le_of_ble_eq_true rfl, Nat.le_of_ble_eq_true rfl⟩) (fun u H locs hq hM => ?_)
      have hM : xM D (TY q) [w9 q ad σ0 σ1 σ2 σ3 σ4 σ5 σ6 σ7 σ8 σ9 σ10 σ11 σ12 σ13 σ14 σ15 σ16 σ17 σ18 (xspl (xsh σ19 k) k (xreg (xsh σ19 k) (k + 1))) σ20 σ21 σ22 σ23 σ24 σ25 σ26 σ27 σ28 σ29 σ30] A s.heap s H locs := hM
      refine lv_iinc (v := nI (k + 1)) (lv' := [(1, .int (nI (k + 1))), (0, .ref (ad 0))]) hx hb dX9_note_25 hl (k := 1) rfl (x_inc _ 1) (by decide) rfl (fun ls hl => ?_)
      refine lv_goto (tgt := 11) hx hb dX9_note_28 (by decide) ?_
      have e11 : ((xspl (xsh σ19 k) k (xreg (xsh σ19 k) (k + 1))) : Nat → Int32) = (xsh σ19 (k + 1)) := by exact xsh_s _ (by omega)
      have hM : xM D (TY q) [w9 q ad σ0 σ1 σ2 σ3 σ4 σ5 σ6 σ7 σ8 σ9 σ10 σ11 σ12 σ13 σ14 σ15 σ16 σ17 σ18 (xsh σ19 (k + 1)) σ20 σ21 σ22 σ23 σ24 σ25 σ26 σ27 σ28 σ29 σ30] A s.heap s H locs := Eq.mp (congrArg (fun z9 => xM D (TY q) [w9 q ad σ0 σ1 σ2 σ3 σ4 σ5 σ6 σ7 σ8 σ9 σ10 σ11 σ12 σ13 σ14 σ15 σ16 σ17 σ18 z9 σ20 σ21 σ22 σ23 σ24 σ25 σ26 σ27 σ28 σ29 σ30] A s.heap s H locs) e11) hM
      have hl : lv_has ls 2 [(0, .ref (ad 0)), (1, .int (nI (k + 1)))] := lv_sub hl [1, 0] rfl
      exact ih6 (k + 1) (show 8 - (k + 1) < 8 - k from by omega) (show 1 ≤ (k + 1) ∧ (k + 1) ≤ 8 from by omega) _ _ hM _ hl

set_option maxRecDepth 20000 in
theorem ggX9_refuses_X9_pieces : GoodIn wsX9_refuses wsX9_pieces := goodIn_r _ [6, 7, 16, 17, 18, 19, 20, 21, 22, 23, 24, 25, 26, 27, 28, 29, 30, 31, 32, 33, 34, 35, 36, 37, 38, 39, 40, 41, 42, 43, 44, 45, 46] (by decide +kernel) (by decide +kernel)
set_option maxRecDepth 20000 in
theorem gX9_refuses_X9_pieces : GoodIn wsX9_refuses (wsV RX9 172 RX9 yX9_pieces wsX9_pieces) := goodIn_app (goodIn_of _ (by decide +kernel)) ggX9_refuses_X9_pieces
set_option maxRecDepth 20000 in
theorem ggX9_refuses_X9_minuteOf : GoodIn wsX9_refuses wsX9_minuteOf := goodIn_r _ [11, 7, 16, 17, 18, 19, 20, 21, 22, 23, 24, 25, 26, 27, 28, 29, 30, 31, 32, 33, 34, 35, 36, 37, 38, 39, 40, 41, 42, 43, 44, 45, 46] (by decide +kernel) (by decide +kernel)
set_option maxRecDepth 20000 in
theorem gX9_refuses_X9_minuteOf : GoodIn wsX9_refuses (wsV RX9 166 RX9 yX9_minuteOf wsX9_minuteOf) := goodIn_app (goodIn_of _ (by decide +kernel)) ggX9_refuses_X9_minuteOf
set_option maxRecDepth 20000 in
theorem ggX9_refuses_X9_giftsOf : GoodIn wsX9_refuses wsX9_giftsOf := goodIn_r _ [15, 7, 16, 17, 18, 19, 20, 21, 22, 23, 24, 25, 26, 27, 28, 29, 30, 31, 32, 33, 34, 35, 36, 37, 38, 39, 40, 41, 42, 43, 44, 45, 46] (by decide +kernel) (by decide +kernel)
set_option maxRecDepth 20000 in
theorem gX9_refuses_X9_giftsOf : GoodIn wsX9_refuses (wsV RX9 159 RX9 yX9_giftsOf wsX9_giftsOf) := goodIn_app (goodIn_of _ (by decide +kernel)) ggX9_refuses_X9_giftsOf
theorem dX9_refuses_0 : decode cX9_refuses 0 = .ok (.aload_n 0, 1) := by decide +kernel
theorem dX9_refuses_1 : decode cX9_refuses 1 = .ok (.iconst 0, 1) := by decide +kernel
theorem dX9_refuses_2 : decode cX9_refuses 2 = .ok (.iload_n 1, 1) := by decide +kernel
theorem dX9_refuses_3 : decode cX9_refuses 3 = .ok (.iload_n 3, 1) := by decide +kernel
theorem dX9_refuses_4 : decode cX9_refuses 4 = .ok (.invokevirtual 172, 3) := by decide +kernel
theorem dX9_refuses_7 : decode cX9_refuses 7 = .ok (.iload 4, 2) := by decide +kernel
theorem dX9_refuses_9 : decode cX9_refuses 9 = .ok (.if_icmp .lt 13, 3) := by decide +kernel
theorem dX9_refuses_12 : decode cX9_refuses 12 = .ok (.aload_n 0, 1) := by decide +kernel
theorem dX9_refuses_13 : decode cX9_refuses 13 = .ok (.iconst 0, 1) := by decide +kernel
theorem dX9_refuses_14 : decode cX9_refuses 14 = .ok (.invokevirtual 166, 3) := by decide +kernel
theorem dX9_refuses_17 : decode cX9_refuses 17 = .ok (.bipush 60, 2) := by decide +kernel
theorem dX9_refuses_19 : decode cX9_refuses 19 = .ok (.if_icmp .ne 6, 3) := by decide +kernel
theorem dX9_refuses_22 : decode cX9_refuses 22 = .ok (.bipush (-2), 2) := by decide +kernel
theorem dX9_refuses_24 : decode cX9_refuses 24 = .ok (.ireturn, 1) := by decide +kernel
theorem dX9_refuses_25 : decode cX9_refuses 25 = .ok (.aload_n 0, 1) := by decide +kernel
theorem dX9_refuses_26 : decode cX9_refuses 26 = .ok (.getfield 25, 3) := by decide +kernel
theorem dX9_refuses_29 : decode cX9_refuses 29 = .ok (.iload_n 1, 1) := by decide +kernel
theorem dX9_refuses_30 : decode cX9_refuses 30 = .ok (.iaload, 1) := by decide +kernel
theorem dX9_refuses_31 : decode cX9_refuses 31 = .ok (.aload_n 0, 1) := by decide +kernel
theorem dX9_refuses_32 : decode cX9_refuses 32 = .ok (.getfield 25, 3) := by decide +kernel
theorem dX9_refuses_35 : decode cX9_refuses 35 = .ok (.iload_n 2, 1) := by decide +kernel
theorem dX9_refuses_36 : decode cX9_refuses 36 = .ok (.iaload, 1) := by decide +kernel
theorem dX9_refuses_37 : decode cX9_refuses 37 = .ok (.if_icmp .eq 18, 3) := by decide +kernel
theorem dX9_refuses_40 : decode cX9_refuses 40 = .ok (.aload_n 0, 1) := by decide +kernel
theorem dX9_refuses_41 : decode cX9_refuses 41 = .ok (.iconst 0, 1) := by decide +kernel
theorem dX9_refuses_42 : decode cX9_refuses 42 = .ok (.invokevirtual 159, 3) := by decide +kernel
theorem dX9_refuses_45 : decode cX9_refuses 45 = .ok (.bipush 6, 2) := by decide +kernel
theorem dX9_refuses_47 : decode cX9_refuses 47 = .ok (.if_icmp .ne 8, 3) := by decide +kernel
theorem dX9_refuses_50 : decode cX9_refuses 50 = .ok (.bipush (-3), 2) := by decide +kernel
theorem dX9_refuses_52 : decode cX9_refuses 52 = .ok (.goto 4, 3) := by decide +kernel
theorem dX9_refuses_55 : decode cX9_refuses 55 = .ok (.iconst 0, 1) := by decide +kernel
theorem dX9_refuses_56 : decode cX9_refuses 56 = .ok (.ireturn, 1) := by decide +kernel
theorem lkX9_refuses_25 : Cond.fieldLink RX9 25 "LeftAtFiveModel" "spots" "[I" ∈ wsX9_refuses := by decide +kernel
theorem iwX9_refuses_X9 : ∀ w ∈ wsX90, w ∈ wsX9_refuses := by decide +kernel
set_option maxHeartbeats 4000000 in
set_option maxRecDepth 100000 in
theorem c_X9_refuses (l : Launch) (D : va_G) (q : Nat → ClassId) (ad : Nat → Nat) (σ0 : Int32) (σ1 : Nat → Int32) (σ2 : Nat → Int32) (σ3 : Nat → Int32) (σ4 : Nat → Int32) (σ5 : Nat → Int32) (σ6 : Nat → Int32) (σ7 : Nat → Int32) (σ8 : Nat → Int32) (σ9 : Nat → Int32) (σ10 : Nat → Int32) (σ11 : Nat → Int32) (σ12 : Nat → Int32) (σ13 : Nat → Int32) (σ14 : Nat → Int32) (σ15 : Nat → Int32) (σ16 : Nat → Int32) (σ17 : Nat → Int32) (σ18 : Nat → Int32) (σ19 : Nat → Int32) (σ20 : Int32) (σ21 : Int32) (σ22 : Int32) (σ23 : Nat → Int32) (σ24 : Int32) (σ25 : Int32) (σ26 : Nat → Int32) (σ27 : Nat → Int32) (σ28 : Nat → Int32) (σ29 : Nat → Int32) (σ30 : Nat → Int32) (fr : Nat) (to : Nat) (g : Nat) (n : Int32) (hfr : fr < 5) (hto : to < 5) (hg0 : g < 5) (hK0 : okK (xreg σ19 0)) : xC l yX9_refuses wsX9_refuses ({ frames := 1, cells := 0, slots := 0, locals := 23 }) D (TY q) [w9 q ad σ0 σ1 σ2 σ3 σ4 σ5 σ6 σ7 σ8 σ9 σ10 σ11 σ12 σ13 σ14 σ15 σ16 σ17 σ18 σ19 σ20 σ21 σ22 σ23 σ24 σ25 σ26 σ27 σ28 σ29 σ30] [.ref (ad 0), .int (nI fr), .int (nI to), .int (nI g), .int n] (xQi D (TY q) (fun (r : Int32) (_ : Unit) => r = xref (xreg σ19 0) (σ6 fr) (σ6 to) (5 * fr + g) n) (fun _ => [w9 q ad σ0 σ1 σ2 σ3 σ4 σ5 σ6 σ7 σ8 σ9 σ10 σ11 σ12 σ13 σ14 σ15 σ16 σ17 σ18 σ19 σ20 σ21 σ22 σ23 σ24 σ25 σ26 σ27 σ28 σ29 σ30])) 0 0 := by
  refine x_enter (cc := cX9_refuses) (maxL := 5) (ret := (some .int)) (by decide) rfl (Nat.le_of_ble_eq_true rfl) ?_
  intro p e s m below meth c A ls H locs hfix hr hlocks hinit hM hl
  obtain ⟨hx, hb, hml, hown, hts⟩ := id hfix
  have hl : lv_has ls 5 [(0, .ref (ad 0)), (1, .int (nI fr)), (2, .int (nI to)), (3, .int (nI g)), (4, .int n)] := hl
  have hT0 := hK0.1.2
  have hW0 := hK0.2.1.2
  have ex : σ19 (67 * 0 + 5 * fr + g) = xreg σ19 0 (5 * fr + g) := xreg_eq (by omega)
  refine lv_aload_n hx hb dX9_refuses_0 rfl (lv_at hl 0 rfl) ?_
  refine lv_iconst (v := nI 0) hx hb dX9_refuses_1 (by decide) ?_
  refine lv_iload_n hx hb dX9_refuses_2 rfl (lv_at hl 1 rfl) ?_
  refine lv_iload_n hx hb dX9_refuses_3 rfl (lv_at hl 3 rfl) ?_
  refine x_calli (bc := [w9 q ad σ0 σ1 σ2 σ3 σ4 σ5 σ6 σ7 σ8 σ9 σ10 σ11 σ12 σ13 σ14 σ15 σ16 σ17 σ18 σ19 σ20 σ21 σ22 σ23 σ24 σ25 σ26 σ27 σ28 σ29 σ30]) (br := []) hM [0] [] rfl rfl rfl (by decide) (x_runV (As := [.int (nI 0), .int (nI fr), .int (nI g)]) (rest := []) hfix (c_X9_pieces l D q ad σ0 σ1 σ2 σ3 σ4 σ5 σ6 σ7 σ8 σ9 σ10 σ11 σ12 σ13 σ14 σ15 σ16 σ17 σ18 σ19 σ20 σ21 σ22 σ23 σ24 σ25 σ26 σ27 σ28 σ29 σ30 0 fr g (by omega) (by omega) (by omega)) (cwV 3 hts gX9_refuses_X9_pieces rfl rfl rfl (by decide +kernel) ⟨Nat.le_of_ble_eq_true rfl, Nat.le_of_ble_eq_true rfl⟩) hM [0] rfl rfl 0 0 rfl rfl rfl rfl rfl hl.1 rfl (Nat.le_of_ble_eq_true rfl) dX9_refuses_4 ⟨Nat.le_of_ble_eq_true rfl, Nat.le_of_ble_eq_true rfl⟩) (fun r u H locs hq hM => ?_)
  subst hq
  have hM : xM D (TY q) [w9 q ad σ0 σ1 σ2 σ3 σ4 σ5 σ6 σ7 σ8 σ9 σ10 σ11 σ12 σ13 σ14 σ15 σ16 σ17 σ18 σ19 σ20 σ21 σ22 σ23 σ24 σ25 σ26 σ27 σ28 σ29 σ30] A s.heap s H locs := hM
  refine x_cast (y := xreg σ19 0 (5 * fr + g)) ex ?_
  refine lv_iload hx hb dX9_refuses_7 (lv_at hl 4 rfl) ?_
  refine lv_icmp_lt (tgt := 22) hx hb dX9_refuses_9 (by decide) (fun c1 => ?_) (fun c1 => ?_)
  · refine lv_bipush (v := (-2)) hx hb dX9_refuses_22 (by decide) ?_
    exact x_iret hx hb hr hlocks () hM (show (-2) = xref (xreg σ19 0) (σ6 fr) (σ6 to) (5 * fr + g) n from by (first | exact (xref_a (by assumption)).symm | exact (xref_b hK0 (by assumption)).symm | exact (xref_c hK0 (by assumption) (by assumption) (by assumption) (by assumption)).symm | exact (xref_d hK0 (by assumption) (by assumption) (by assumption)).symm | exact (xref_e hK0 (by assumption) (by assumption) (by assumption)).symm)) dX9_refuses_24
  · refine lv_aload_n hx hb dX9_refuses_12 rfl (lv_at hl 0 rfl) ?_
    refine lv_iconst (v := nI 0) hx hb dX9_refuses_13 (by decide) ?_
    refine x_calli (bc := [w9 q ad σ0 σ1 σ2 σ3 σ4 σ5 σ6 σ7 σ8 σ9 σ10 σ11 σ12 σ13 σ14 σ15 σ16 σ17 σ18 σ19 σ20 σ21 σ22 σ23 σ24 σ25 σ26 σ27 σ28 σ29 σ30]) (br := []) hM [0] [] rfl rfl rfl (by decide) (x_runV (As := [.int (nI 0)]) (rest := []) hfix (c_X9_minuteOf l D q ad σ0 σ1 σ2 σ3 σ4 σ5 σ6 σ7 σ8 σ9 σ10 σ11 σ12 σ13 σ14 σ15 σ16 σ17 σ18 σ19 σ20 σ21 σ22 σ23 σ24 σ25 σ26 σ27 σ28 σ29 σ30 0 (by omega)) (cwV 1 hts gX9_refuses_X9_minuteOf rfl rfl rfl (by decide +kernel) ⟨Nat.le_of_ble_eq_true rfl, Nat.le_of_ble_eq_true rfl⟩) hM [0] rfl rfl 0 0 rfl rfl rfl rfl rfl hl.1 rfl (Nat.le_of_ble_eq_true rfl) dX9_refuses_14 ⟨Nat.le_of_ble_eq_true rfl, Nat.le_of_ble_eq_true rfl⟩) (fun r u H locs hq hM => ?_)
    subst hq
    have hM : xM D (TY q) [w9 q ad σ0 σ1 σ2 σ3 σ4 σ5 σ6 σ7 σ8 σ9 σ10 σ11 σ12 σ13 σ14 σ15 σ16 σ17 σ18 σ19 σ20 σ21 σ22 σ23 σ24 σ25 σ26 σ27 σ28 σ29 σ30] A s.heap s H locs := hM
    refine x_cast (y := nI (tn (xreg σ19 0 25))) hK0.1.1 ?_
    refine lv_bipush (v := nI 60) hx hb dX9_refuses_17 (by decide) ?_
    refine x_icmp_ne (x := tn (xreg σ19 0 25)) (y := 60) (tgt := 25) hx hb (by omega) (by omega) dX9_refuses_19 (by decide) (fun c2 => ?_) (fun c2 => ?_)
    · refine lv_aload_n hx hb dX9_refuses_25 rfl (lv_at hl 0 rfl) ?_
      refine x_get hx hb hts iwX9_refuses_X9 hown hM 0 0 rfl rfl rfl 6 (by decide) (hts _ lkX9_refuses_25) (fun _ h => h) rfl dX9_refuses_26 ?_
      refine lv_iload_n hx hb dX9_refuses_29 rfl (lv_at hl 1 rfl) ?_
      refine x_iald hx hb hM 0 6 0 (f := σ6) rfl rfl rfl (t := fr) (by omega) (by decide) dX9_refuses_30 ?_
      refine lv_aload_n hx hb dX9_refuses_31 rfl (lv_at hl 0 rfl) ?_
      refine x_get hx hb hts iwX9_refuses_X9 hown hM 0 0 rfl rfl rfl 6 (by decide) (hts _ lkX9_refuses_25) (fun _ h => h) rfl dX9_refuses_32 ?_
      refine lv_iload_n hx hb dX9_refuses_35 rfl (lv_at hl 2 rfl) ?_
      refine x_iald hx hb hM 0 6 0 (f := σ6) rfl rfl rfl (t := to) (by omega) (by decide) dX9_refuses_36 ?_
      refine lv_icmp_eq (tgt := 55) hx hb dX9_refuses_37 (by decide) (fun c3 => ?_) (fun c3 => ?_)
      · refine lv_iconst (v := nI 0) hx hb dX9_refuses_55 (by decide) ?_
        exact x_iret hx hb hr hlocks () hM (show nI 0 = xref (xreg σ19 0) (σ6 fr) (σ6 to) (5 * fr + g) n from by (first | exact (xref_a (by assumption)).symm | exact (xref_b hK0 (by assumption)).symm | exact (xref_c hK0 (by assumption) (by assumption) (by assumption) (by assumption)).symm | exact (xref_d hK0 (by assumption) (by assumption) (by assumption)).symm | exact (xref_e hK0 (by assumption) (by assumption) (by assumption)).symm)) dX9_refuses_56
      · refine lv_aload_n hx hb dX9_refuses_40 rfl (lv_at hl 0 rfl) ?_
        refine lv_iconst (v := nI 0) hx hb dX9_refuses_41 (by decide) ?_
        refine x_calli (bc := [w9 q ad σ0 σ1 σ2 σ3 σ4 σ5 σ6 σ7 σ8 σ9 σ10 σ11 σ12 σ13 σ14 σ15 σ16 σ17 σ18 σ19 σ20 σ21 σ22 σ23 σ24 σ25 σ26 σ27 σ28 σ29 σ30]) (br := []) hM [0] [] rfl rfl rfl (by decide) (x_runV (As := [.int (nI 0)]) (rest := []) hfix (c_X9_giftsOf l D q ad σ0 σ1 σ2 σ3 σ4 σ5 σ6 σ7 σ8 σ9 σ10 σ11 σ12 σ13 σ14 σ15 σ16 σ17 σ18 σ19 σ20 σ21 σ22 σ23 σ24 σ25 σ26 σ27 σ28 σ29 σ30 0 (by omega)) (cwV 1 hts gX9_refuses_X9_giftsOf rfl rfl rfl (by decide +kernel) ⟨Nat.le_of_ble_eq_true rfl, Nat.le_of_ble_eq_true rfl⟩) hM [0] rfl rfl 0 0 rfl rfl rfl rfl rfl hl.1 rfl (Nat.le_of_ble_eq_true rfl) dX9_refuses_42 ⟨Nat.le_of_ble_eq_true rfl, Nat.le_of_ble_eq_true rfl⟩) (fun r u H locs hq hM => ?_)
        subst hq
        have hM : xM D (TY q) [w9 q ad σ0 σ1 σ2 σ3 σ4 σ5 σ6 σ7 σ8 σ9 σ10 σ11 σ12 σ13 σ14 σ15 σ16 σ17 σ18 σ19 σ20 σ21 σ22 σ23 σ24 σ25 σ26 σ27 σ28 σ29 σ30] A s.heap s H locs := hM
        refine x_cast (y := nI (tn (xreg σ19 0 26))) hK0.2.1.1 ?_
        refine lv_bipush (v := nI 6) hx hb dX9_refuses_45 (by decide) ?_
        refine x_icmp_ne (x := tn (xreg σ19 0 26)) (y := 6) (tgt := 55) hx hb (by omega) (by omega) dX9_refuses_47 (by decide) (fun c4 => ?_) (fun c4 => ?_)
        · refine lv_iconst (v := nI 0) hx hb dX9_refuses_55 (by decide) ?_
          exact x_iret hx hb hr hlocks () hM (show nI 0 = xref (xreg σ19 0) (σ6 fr) (σ6 to) (5 * fr + g) n from by (first | exact (xref_a (by assumption)).symm | exact (xref_b hK0 (by assumption)).symm | exact (xref_c hK0 (by assumption) (by assumption) (by assumption) (by assumption)).symm | exact (xref_d hK0 (by assumption) (by assumption) (by assumption)).symm | exact (xref_e hK0 (by assumption) (by assumption) (by assumption)).symm)) dX9_refuses_56
        · refine lv_bipush (v := (-3)) hx hb dX9_refuses_50 (by decide) ?_
          refine lv_goto (tgt := 56) hx hb dX9_refuses_52 (by decide) ?_
          exact x_iret hx hb hr hlocks () hM (show (-3) = xref (xreg σ19 0) (σ6 fr) (σ6 to) (5 * fr + g) n from by (first | exact (xref_a (by assumption)).symm | exact (xref_b hK0 (by assumption)).symm | exact (xref_c hK0 (by assumption) (by assumption) (by assumption) (by assumption)).symm | exact (xref_d hK0 (by assumption) (by assumption) (by assumption)).symm | exact (xref_e hK0 (by assumption) (by assumption) (by assumption)).symm)) dX9_refuses_56
    · refine lv_bipush (v := (-2)) hx hb dX9_refuses_22 (by decide) ?_
      exact x_iret hx hb hr hlocks () hM (show (-2) = xref (xreg σ19 0) (σ6 fr) (σ6 to) (5 * fr + g) n from by (first | exact (xref_a (by assumption)).symm | exact (xref_b hK0 (by assumption)).symm | exact (xref_c hK0 (by assumption) (by assumption) (by assumption) (by assumption)).symm | exact (xref_d hK0 (by assumption) (by assumption) (by assumption)).symm | exact (xref_e hK0 (by assumption) (by assumption) (by assumption)).symm)) dX9_refuses_24

set_option maxRecDepth 20000 in
theorem ggX9_giveIn_X9_apart : GoodIn wsX9_giveIn wsX9_apart := goodIn_r _ [7] (by decide +kernel) (by decide +kernel)
set_option maxRecDepth 20000 in
theorem gX9_giveIn_X9_apart : GoodIn wsX9_giveIn (wsV RX9 238 RX9 yX9_apart wsX9_apart) := goodIn_app (goodIn_of _ (by decide +kernel)) ggX9_giveIn_X9_apart
set_option maxRecDepth 20000 in
theorem ggX9_giveIn_X9_addPieces : GoodIn wsX9_giveIn wsX9_addPieces := goodIn_r _ [11, 2, 24, 25, 26, 27, 28, 29, 30, 31, 32, 33, 34, 35, 36, 37, 38, 39, 40, 41, 42, 43, 44, 45, 46, 47, 48, 49, 50, 51, 52, 53, 54] (by decide +kernel) (by decide +kernel)
set_option maxRecDepth 20000 in
theorem gX9_giveIn_X9_addPieces : GoodIn wsX9_giveIn (wsV RX9 169 RX9 yX9_addPieces wsX9_addPieces) := goodIn_app (goodIn_of _ (by decide +kernel)) ggX9_giveIn_X9_addPieces
set_option maxRecDepth 20000 in
theorem ggX9_giveIn_X9_minuteOf : GoodIn wsX9_giveIn wsX9_minuteOf := goodIn_r _ [15, 2, 24, 25, 26, 27, 28, 29, 30, 31, 32, 33, 34, 35, 36, 37, 38, 39, 40, 41, 42, 43, 44, 45, 46, 47, 48, 49, 50, 51, 52, 53, 54] (by decide +kernel) (by decide +kernel)
set_option maxRecDepth 20000 in
theorem gX9_giveIn_X9_minuteOf : GoodIn wsX9_giveIn (wsV RX9 166 RX9 yX9_minuteOf wsX9_minuteOf) := goodIn_app (goodIn_of _ (by decide +kernel)) ggX9_giveIn_X9_minuteOf
set_option maxRecDepth 20000 in
theorem ggX9_giveIn_X9_giftsOf : GoodIn wsX9_giveIn wsX9_giftsOf := goodIn_r _ [19, 2, 24, 25, 26, 27, 28, 29, 30, 31, 32, 33, 34, 35, 36, 37, 38, 39, 40, 41, 42, 43, 44, 45, 46, 47, 48, 49, 50, 51, 52, 53, 54] (by decide +kernel) (by decide +kernel)
set_option maxRecDepth 20000 in
theorem gX9_giveIn_X9_giftsOf : GoodIn wsX9_giveIn (wsV RX9 159 RX9 yX9_giftsOf wsX9_giftsOf) := goodIn_app (goodIn_of _ (by decide +kernel)) ggX9_giveIn_X9_giftsOf
set_option maxRecDepth 20000 in
theorem ggX9_giveIn_X9_giftAt : GoodIn wsX9_giveIn wsX9_giftAt := goodIn_r _ [23] (by decide +kernel) (by decide +kernel)
set_option maxRecDepth 20000 in
theorem gX9_giveIn_X9_giftAt : GoodIn wsX9_giveIn (wsV RX9 162 RX9 yX9_giftAt wsX9_giftAt) := goodIn_app (goodIn_of _ (by decide +kernel)) ggX9_giveIn_X9_giftAt
theorem dX9_giveIn_0 : decode cX9_giveIn 0 = .ok (.aload_n 0, 1) := by decide +kernel
theorem dX9_giveIn_1 : decode cX9_giveIn 1 = .ok (.aload_n 0, 1) := by decide +kernel
theorem dX9_giveIn_2 : decode cX9_giveIn 2 = .ok (.getfield 25, 3) := by decide +kernel
theorem dX9_giveIn_5 : decode cX9_giveIn 5 = .ok (.iload_n 2, 1) := by decide +kernel
theorem dX9_giveIn_6 : decode cX9_giveIn 6 = .ok (.iaload, 1) := by decide +kernel
theorem dX9_giveIn_7 : decode cX9_giveIn 7 = .ok (.aload_n 0, 1) := by decide +kernel
theorem dX9_giveIn_8 : decode cX9_giveIn 8 = .ok (.getfield 25, 3) := by decide +kernel
theorem dX9_giveIn_11 : decode cX9_giveIn 11 = .ok (.iload_n 3, 1) := by decide +kernel
theorem dX9_giveIn_12 : decode cX9_giveIn 12 = .ok (.iaload, 1) := by decide +kernel
theorem dX9_giveIn_13 : decode cX9_giveIn 13 = .ok (.invokevirtual 238, 3) := by decide +kernel
theorem dX9_giveIn_16 : decode cX9_giveIn 16 = .ok (.istore 6, 2) := by decide +kernel
theorem dX9_giveIn_18 : decode cX9_giveIn 18 = .ok (.aload_n 0, 1) := by decide +kernel
theorem dX9_giveIn_19 : decode cX9_giveIn 19 = .ok (.iload_n 1, 1) := by decide +kernel
theorem dX9_giveIn_20 : decode cX9_giveIn 20 = .ok (.iload_n 2, 1) := by decide +kernel
theorem dX9_giveIn_21 : decode cX9_giveIn 21 = .ok (.iload 4, 2) := by decide +kernel
theorem dX9_giveIn_23 : decode cX9_giveIn 23 = .ok (.iload 5, 2) := by decide +kernel
theorem dX9_giveIn_25 : decode cX9_giveIn 25 = .ok (.ineg, 1) := by decide +kernel
theorem dX9_giveIn_26 : decode cX9_giveIn 26 = .ok (.invokevirtual 169, 3) := by decide +kernel
theorem dX9_giveIn_29 : decode cX9_giveIn 29 = .ok (.iload 6, 2) := by decide +kernel
theorem dX9_giveIn_31 : decode cX9_giveIn 31 = .ok (.ifCond .ne 19, 3) := by decide +kernel
theorem dX9_giveIn_34 : decode cX9_giveIn 34 = .ok (.aload_n 0, 1) := by decide +kernel
theorem dX9_giveIn_35 : decode cX9_giveIn 35 = .ok (.iload_n 1, 1) := by decide +kernel
theorem dX9_giveIn_36 : decode cX9_giveIn 36 = .ok (.iload_n 3, 1) := by decide +kernel
theorem dX9_giveIn_37 : decode cX9_giveIn 37 = .ok (.iload 4, 2) := by decide +kernel
theorem dX9_giveIn_39 : decode cX9_giveIn 39 = .ok (.iload 5, 2) := by decide +kernel
theorem dX9_giveIn_41 : decode cX9_giveIn 41 = .ok (.invokevirtual 169, 3) := by decide +kernel
theorem dX9_giveIn_44 : decode cX9_giveIn 44 = .ok (.aload_n 0, 1) := by decide +kernel
theorem dX9_giveIn_45 : decode cX9_giveIn 45 = .ok (.iload_n 1, 1) := by decide +kernel
theorem dX9_giveIn_46 : decode cX9_giveIn 46 = .ok (.invokevirtual 166, 3) := by decide +kernel
theorem dX9_giveIn_49 : decode cX9_giveIn 49 = .ok (.ireturn, 1) := by decide +kernel
theorem dX9_giveIn_50 : decode cX9_giveIn 50 = .ok (.aload_n 0, 1) := by decide +kernel
theorem dX9_giveIn_51 : decode cX9_giveIn 51 = .ok (.iload_n 1, 1) := by decide +kernel
theorem dX9_giveIn_52 : decode cX9_giveIn 52 = .ok (.aload_n 0, 1) := by decide +kernel
theorem dX9_giveIn_53 : decode cX9_giveIn 53 = .ok (.iload_n 1, 1) := by decide +kernel
theorem dX9_giveIn_54 : decode cX9_giveIn 54 = .ok (.invokevirtual 159, 3) := by decide +kernel
theorem dX9_giveIn_57 : decode cX9_giveIn 57 = .ok (.invokevirtual 162, 3) := by decide +kernel
theorem dX9_giveIn_60 : decode cX9_giveIn 60 = .ok (.istore 7, 2) := by decide +kernel
theorem dX9_giveIn_62 : decode cX9_giveIn 62 = .ok (.aload_n 0, 1) := by decide +kernel
theorem dX9_giveIn_63 : decode cX9_giveIn 63 = .ok (.getfield 64, 3) := by decide +kernel
theorem dX9_giveIn_66 : decode cX9_giveIn 66 = .ok (.iload 7, 2) := by decide +kernel
theorem dX9_giveIn_68 : decode cX9_giveIn 68 = .ok (.iload_n 3, 1) := by decide +kernel
theorem dX9_giveIn_69 : decode cX9_giveIn 69 = .ok (.iastore, 1) := by decide +kernel
theorem dX9_giveIn_70 : decode cX9_giveIn 70 = .ok (.aload_n 0, 1) := by decide +kernel
theorem dX9_giveIn_71 : decode cX9_giveIn 71 = .ok (.getfield 64, 3) := by decide +kernel
theorem dX9_giveIn_74 : decode cX9_giveIn 74 = .ok (.iload 7, 2) := by decide +kernel
theorem dX9_giveIn_76 : decode cX9_giveIn 76 = .ok (.iconst 1, 1) := by decide +kernel
theorem dX9_giveIn_77 : decode cX9_giveIn 77 = .ok (.iadd, 1) := by decide +kernel
theorem dX9_giveIn_78 : decode cX9_giveIn 78 = .ok (.iload 4, 2) := by decide +kernel
theorem dX9_giveIn_80 : decode cX9_giveIn 80 = .ok (.iastore, 1) := by decide +kernel
theorem dX9_giveIn_81 : decode cX9_giveIn 81 = .ok (.aload_n 0, 1) := by decide +kernel
theorem dX9_giveIn_82 : decode cX9_giveIn 82 = .ok (.getfield 64, 3) := by decide +kernel
theorem dX9_giveIn_85 : decode cX9_giveIn 85 = .ok (.iload 7, 2) := by decide +kernel
theorem dX9_giveIn_87 : decode cX9_giveIn 87 = .ok (.iconst 2, 1) := by decide +kernel
theorem dX9_giveIn_88 : decode cX9_giveIn 88 = .ok (.iadd, 1) := by decide +kernel
theorem dX9_giveIn_89 : decode cX9_giveIn 89 = .ok (.iload 5, 2) := by decide +kernel
theorem dX9_giveIn_91 : decode cX9_giveIn 91 = .ok (.iastore, 1) := by decide +kernel
theorem dX9_giveIn_92 : decode cX9_giveIn 92 = .ok (.aload_n 0, 1) := by decide +kernel
theorem dX9_giveIn_93 : decode cX9_giveIn 93 = .ok (.getfield 64, 3) := by decide +kernel
theorem dX9_giveIn_96 : decode cX9_giveIn 96 = .ok (.iload 7, 2) := by decide +kernel
theorem dX9_giveIn_98 : decode cX9_giveIn 98 = .ok (.iconst 3, 1) := by decide +kernel
theorem dX9_giveIn_99 : decode cX9_giveIn 99 = .ok (.iadd, 1) := by decide +kernel
theorem dX9_giveIn_100 : decode cX9_giveIn 100 = .ok (.aload_n 0, 1) := by decide +kernel
theorem dX9_giveIn_101 : decode cX9_giveIn 101 = .ok (.iload_n 1, 1) := by decide +kernel
theorem dX9_giveIn_102 : decode cX9_giveIn 102 = .ok (.invokevirtual 166, 3) := by decide +kernel
theorem dX9_giveIn_105 : decode cX9_giveIn 105 = .ok (.iload 6, 2) := by decide +kernel
theorem dX9_giveIn_107 : decode cX9_giveIn 107 = .ok (.iadd, 1) := by decide +kernel
theorem dX9_giveIn_108 : decode cX9_giveIn 108 = .ok (.iastore, 1) := by decide +kernel
theorem dX9_giveIn_109 : decode cX9_giveIn 109 = .ok (.aload_n 0, 1) := by decide +kernel
theorem dX9_giveIn_110 : decode cX9_giveIn 110 = .ok (.getfield 64, 3) := by decide +kernel
theorem dX9_giveIn_113 : decode cX9_giveIn 113 = .ok (.bipush 67, 2) := by decide +kernel
theorem dX9_giveIn_115 : decode cX9_giveIn 115 = .ok (.iload_n 1, 1) := by decide +kernel
theorem dX9_giveIn_116 : decode cX9_giveIn 116 = .ok (.imul, 1) := by decide +kernel
theorem dX9_giveIn_117 : decode cX9_giveIn 117 = .ok (.bipush 26, 2) := by decide +kernel
theorem dX9_giveIn_119 : decode cX9_giveIn 119 = .ok (.iadd, 1) := by decide +kernel
theorem dX9_giveIn_120 : decode cX9_giveIn 120 = .ok (.dup2, 1) := by decide +kernel
theorem dX9_giveIn_121 : decode cX9_giveIn 121 = .ok (.iaload, 1) := by decide +kernel
theorem dX9_giveIn_122 : decode cX9_giveIn 122 = .ok (.iconst 1, 1) := by decide +kernel
theorem dX9_giveIn_123 : decode cX9_giveIn 123 = .ok (.iadd, 1) := by decide +kernel
theorem dX9_giveIn_124 : decode cX9_giveIn 124 = .ok (.iastore, 1) := by decide +kernel
theorem dX9_giveIn_125 : decode cX9_giveIn 125 = .ok (.aload_n 0, 1) := by decide +kernel
theorem dX9_giveIn_126 : decode cX9_giveIn 126 = .ok (.getfield 64, 3) := by decide +kernel
theorem dX9_giveIn_129 : decode cX9_giveIn 129 = .ok (.iload 7, 2) := by decide +kernel
theorem dX9_giveIn_131 : decode cX9_giveIn 131 = .ok (.iconst 3, 1) := by decide +kernel
theorem dX9_giveIn_132 : decode cX9_giveIn 132 = .ok (.iadd, 1) := by decide +kernel
theorem dX9_giveIn_133 : decode cX9_giveIn 133 = .ok (.iaload, 1) := by decide +kernel
theorem dX9_giveIn_134 : decode cX9_giveIn 134 = .ok (.ireturn, 1) := by decide +kernel
theorem lkX9_giveIn_25 : Cond.fieldLink RX9 25 "LeftAtFiveModel" "spots" "[I" ∈ wsX9_giveIn := by decide +kernel
theorem lkX9_giveIn_64 : Cond.fieldLink RX9 64 "LeftAtFiveModel" "s" "[I" ∈ wsX9_giveIn := by decide +kernel
theorem iwX9_giveIn_X9 : ∀ w ∈ wsX90, w ∈ wsX9_giveIn := by decide +kernel
set_option maxHeartbeats 4000000 in
set_option maxRecDepth 100000 in
theorem c_X9_giveInK (l : Launch) (D : va_G) (q : Nat → ClassId) (ad : Nat → Nat) (σ0 : Int32) (σ1 : Nat → Int32) (σ2 : Nat → Int32) (σ3 : Nat → Int32) (σ4 : Nat → Int32) (σ5 : Nat → Int32) (σ6 : Nat → Int32) (σ7 : Nat → Int32) (σ8 : Nat → Int32) (σ9 : Nat → Int32) (σ10 : Nat → Int32) (σ11 : Nat → Int32) (σ12 : Nat → Int32) (σ13 : Nat → Int32) (σ14 : Nat → Int32) (σ15 : Nat → Int32) (σ16 : Nat → Int32) (σ17 : Nat → Int32) (σ18 : Nat → Int32) (σ19 : Nat → Int32) (σ20 : Int32) (σ21 : Int32) (σ22 : Int32) (σ23 : Nat → Int32) (σ24 : Int32) (σ25 : Int32) (σ26 : Nat → Int32) (σ27 : Nat → Int32) (σ28 : Nat → Int32) (σ29 : Nat → Int32) (σ30 : Nat → Int32) (sm : Nat → Int32) (b : Nat) (K : Nat → Int32) (fr : Nat) (to : Nat) (g : Nat) (n : Int32) (hb0 : b < 13) (hfr : fr < 5) (hto : to < 5) (hg0 : g < 5) (hK : okK K) (hw6 : xap (σ6 fr) (σ6 to) = 0 ∨ tn (K 26) ≤ 5) : xC l yX9_giveIn wsX9_giveIn ({ frames := 1, cells := 0, slots := 0, locals := 24 }) D (TY q) [w9 q ad σ0 σ1 σ2 σ3 σ4 σ5 σ6 σ7 σ8 σ9 σ10 σ11 σ12 σ13 σ14 σ15 σ16 σ17 σ18 (xspl sm b K) σ20 σ21 σ22 σ23 σ24 σ25 σ26 σ27 σ28 σ29 σ30] [.ref (ad 0), .int (nI b), .int (nI fr), .int (nI to), .int (nI g), .int n] (xQi D (TY q) (fun (r : Int32) (_ : Unit) => r = K 25 + xap (σ6 fr) (σ6 to)) (fun _ => [w9 q ad σ0 σ1 σ2 σ3 σ4 σ5 σ6 σ7 σ8 σ9 σ10 σ11 σ12 σ13 σ14 σ15 σ16 σ17 σ18 (xspl sm b (kGive K (xap (σ6 fr) (σ6 to)) fr to g n)) σ20 σ21 σ22 σ23 σ24 σ25 σ26 σ27 σ28 σ29 σ30])) 0 0 := by
  refine x_enter (cc := cX9_giveIn) (maxL := 8) (ret := (some .int)) (by decide) rfl (Nat.le_of_ble_eq_true rfl) ?_
  intro p e s m below meth c A ls H locs hfix hr hlocks hinit hM hl
  obtain ⟨hx, hb, hml, hown, hts⟩ := id hfix
  have hl : lv_has ls 8 [(0, .ref (ad 0)), (1, .int (nI b)), (2, .int (nI fr)), (3, .int (nI to)), (4, .int (nI g)), (5, .int n)] := hl
  have hT0 := hK.1.2
  have hW0 := hK.2.1.2
  have f26 : kAdd K fr g (-n) 26 = K 26 := upd_ne _ _ (by omega)
  have f25 : kAdd K fr g (-n) 25 = K 25 := upd_ne _ _ (by omega)
  have g25 : kAdd (kAdd K fr g (-n)) to g n 25 = K 25 := (upd_ne _ _ (by omega)).trans f25
  refine lv_aload_n hx hb dX9_giveIn_0 rfl (lv_at hl 0 rfl) ?_
  refine lv_aload_n hx hb dX9_giveIn_1 rfl (lv_at hl 0 rfl) ?_
  refine x_get hx hb hts iwX9_giveIn_X9 hown hM 0 0 rfl rfl rfl 6 (by decide) (hts _ lkX9_giveIn_25) (fun _ h => h) rfl dX9_giveIn_2 ?_
  refine lv_iload_n hx hb dX9_giveIn_5 rfl (lv_at hl 2 rfl) ?_
  refine x_iald hx hb hM 0 6 0 (f := σ6) rfl rfl rfl (t := fr) (by omega) (by decide) dX9_giveIn_6 ?_
  refine lv_aload_n hx hb dX9_giveIn_7 rfl (lv_at hl 0 rfl) ?_
  refine x_get hx hb hts iwX9_giveIn_X9 hown hM 0 0 rfl rfl rfl 6 (by decide) (hts _ lkX9_giveIn_25) (fun _ h => h) rfl dX9_giveIn_8 ?_
  refine lv_iload_n hx hb dX9_giveIn_11 rfl (lv_at hl 3 rfl) ?_
  refine x_iald hx hb hM 0 6 0 (f := σ6) rfl rfl rfl (t := to) (by omega) (by decide) dX9_giveIn_12 ?_
  refine x_calli (bc := [w9 q ad σ0 σ1 σ2 σ3 σ4 σ5 σ6 σ7 σ8 σ9 σ10 σ11 σ12 σ13 σ14 σ15 σ16 σ17 σ18 (xspl sm b K) σ20 σ21 σ22 σ23 σ24 σ25 σ26 σ27 σ28 σ29 σ30]) (br := []) hM [0] [] rfl rfl rfl (by decide) (x_runV (As := [.int (σ6 fr), .int (σ6 to)]) (rest := []) hfix (c_X9_apart l D q ad σ0 σ1 σ2 σ3 σ4 σ5 σ6 σ7 σ8 σ9 σ10 σ11 σ12 σ13 σ14 σ15 σ16 σ17 σ18 (xspl sm b K) σ20 σ21 σ22 σ23 σ24 σ25 σ26 σ27 σ28 σ29 σ30 (σ6 fr) (σ6 to)) (cwV 2 hts gX9_giveIn_X9_apart rfl rfl rfl (by decide +kernel) ⟨Nat.le_of_ble_eq_true rfl, Nat.le_of_ble_eq_true rfl⟩) hM [0] rfl rfl 0 0 rfl rfl rfl rfl rfl hl.1 rfl (Nat.le_of_ble_eq_true rfl) dX9_giveIn_13 ⟨Nat.le_of_ble_eq_true rfl, Nat.le_of_ble_eq_true rfl⟩) (fun r u H locs hq hM => ?_)
  subst hq
  have hM : xM D (TY q) [w9 q ad σ0 σ1 σ2 σ3 σ4 σ5 σ6 σ7 σ8 σ9 σ10 σ11 σ12 σ13 σ14 σ15 σ16 σ17 σ18 (xspl sm b K) σ20 σ21 σ22 σ23 σ24 σ25 σ26 σ27 σ28 σ29 σ30] A s.heap s H locs := hM
  refine lv_istore (lv' := [(6, .int (xap (σ6 fr) (σ6 to))), (0, .ref (ad 0)), (1, .int (nI b)), (2, .int (nI fr)), (3, .int (nI to)), (4, .int (nI g)), (5, .int n)]) hx hb dX9_giveIn_16 hl (by decide) rfl (fun ls hl => ?_)
  refine lv_aload_n hx hb dX9_giveIn_18 rfl (lv_at hl 1 rfl) ?_
  refine lv_iload_n hx hb dX9_giveIn_19 rfl (lv_at hl 2 rfl) ?_
  refine lv_iload_n hx hb dX9_giveIn_20 rfl (lv_at hl 3 rfl) ?_
  refine lv_iload hx hb dX9_giveIn_21 (lv_at hl 5 rfl) ?_
  refine lv_iload hx hb dX9_giveIn_23 (lv_at hl 6 rfl) ?_
  refine lv_ineg hx hb dX9_giveIn_25 ?_
  refine x_callv (bc := [w9 q ad σ0 σ1 σ2 σ3 σ4 σ5 σ6 σ7 σ8 σ9 σ10 σ11 σ12 σ13 σ14 σ15 σ16 σ17 σ18 (xspl sm b K) σ20 σ21 σ22 σ23 σ24 σ25 σ26 σ27 σ28 σ29 σ30]) (br := []) hM [0] [] rfl rfl rfl (by decide) (x_runV (As := [.int (nI b), .int (nI fr), .int (nI g), .int (-n)]) (rest := []) hfix (c_X9_addPiecesK l D q ad σ0 σ1 σ2 σ3 σ4 σ5 σ6 σ7 σ8 σ9 σ10 σ11 σ12 σ13 σ14 σ15 σ16 σ17 σ18 (xspl sm b K) σ20 σ21 σ22 σ23 σ24 σ25 σ26 σ27 σ28 σ29 σ30 sm b K fr g (-n) (by omega) (by omega) (by omega)) (cwV 4 hts gX9_giveIn_X9_addPieces rfl rfl rfl (by decide +kernel) ⟨Nat.le_of_ble_eq_true rfl, Nat.le_of_ble_eq_true rfl⟩) hM [0] rfl rfl 0 0 rfl rfl rfl rfl rfl hl.1 rfl (Nat.le_of_ble_eq_true rfl) dX9_giveIn_26 ⟨Nat.le_of_ble_eq_true rfl, Nat.le_of_ble_eq_true rfl⟩) (fun u H locs hq hM => ?_)
  have hM : xM D (TY q) [w9 q ad σ0 σ1 σ2 σ3 σ4 σ5 σ6 σ7 σ8 σ9 σ10 σ11 σ12 σ13 σ14 σ15 σ16 σ17 σ18 (xspl sm b (kAdd K fr g (-n))) σ20 σ21 σ22 σ23 σ24 σ25 σ26 σ27 σ28 σ29 σ30] A s.heap s H locs := hM
  refine lv_iload hx hb dX9_giveIn_29 (lv_at hl 0 rfl) ?_
  refine lv_if_ne (tgt := 50) hx hb dX9_giveIn_31 (by decide) (fun c1 => ?_) (fun c1 => ?_)
  · have hd1 : ¬ xap (σ6 fr) (σ6 to) = 0 := by assumption
    have hw5 : tn (K 26) ≤ 5 := hw6.resolve_left hd1
    refine lv_aload_n hx hb dX9_giveIn_50 rfl (lv_at hl 1 rfl) ?_
    refine lv_iload_n hx hb dX9_giveIn_51 rfl (lv_at hl 2 rfl) ?_
    refine lv_aload_n hx hb dX9_giveIn_52 rfl (lv_at hl 1 rfl) ?_
    refine lv_iload_n hx hb dX9_giveIn_53 rfl (lv_at hl 2 rfl) ?_
    refine x_calli (bc := [w9 q ad σ0 σ1 σ2 σ3 σ4 σ5 σ6 σ7 σ8 σ9 σ10 σ11 σ12 σ13 σ14 σ15 σ16 σ17 σ18 (xspl sm b (kAdd K fr g (-n))) σ20 σ21 σ22 σ23 σ24 σ25 σ26 σ27 σ28 σ29 σ30]) (br := []) hM [0] [] rfl rfl rfl (by decide) (x_runV (As := [.int (nI b)]) (rest := [.int (nI b), .ref (ad 0)]) hfix (c_X9_giftsOfK l D q ad σ0 σ1 σ2 σ3 σ4 σ5 σ6 σ7 σ8 σ9 σ10 σ11 σ12 σ13 σ14 σ15 σ16 σ17 σ18 (xspl sm b (kAdd K fr g (-n))) σ20 σ21 σ22 σ23 σ24 σ25 σ26 σ27 σ28 σ29 σ30 sm b (kAdd K fr g (-n)) (by omega)) (cwV 1 hts gX9_giveIn_X9_giftsOf rfl rfl rfl (by decide +kernel) ⟨Nat.le_of_ble_eq_true rfl, Nat.le_of_ble_eq_true rfl⟩) hM [0] rfl rfl 0 0 rfl rfl rfl rfl rfl hl.1 rfl (Nat.le_of_ble_eq_true rfl) dX9_giveIn_54 ⟨Nat.le_of_ble_eq_true rfl, Nat.le_of_ble_eq_true rfl⟩) (fun r u H locs hq hM => ?_)
    subst hq
    have hM : xM D (TY q) [w9 q ad σ0 σ1 σ2 σ3 σ4 σ5 σ6 σ7 σ8 σ9 σ10 σ11 σ12 σ13 σ14 σ15 σ16 σ17 σ18 (xspl sm b (kAdd K fr g (-n))) σ20 σ21 σ22 σ23 σ24 σ25 σ26 σ27 σ28 σ29 σ30] A s.heap s H locs := hM
    refine x_cast (y := nI (tn (K 26))) (f26.trans hK.2.1.1) ?_
    refine x_calli (bc := [w9 q ad σ0 σ1 σ2 σ3 σ4 σ5 σ6 σ7 σ8 σ9 σ10 σ11 σ12 σ13 σ14 σ15 σ16 σ17 σ18 (xspl sm b (kAdd K fr g (-n))) σ20 σ21 σ22 σ23 σ24 σ25 σ26 σ27 σ28 σ29 σ30]) (br := []) hM [0] [] rfl rfl rfl (by decide) (x_runV (As := [.int (nI b), .int (nI (tn (K 26)))]) (rest := []) hfix (c_X9_giftAt l D q ad σ0 σ1 σ2 σ3 σ4 σ5 σ6 σ7 σ8 σ9 σ10 σ11 σ12 σ13 σ14 σ15 σ16 σ17 σ18 (xspl sm b (kAdd K fr g (-n))) σ20 σ21 σ22 σ23 σ24 σ25 σ26 σ27 σ28 σ29 σ30 b (tn (K 26))) (cwV 2 hts gX9_giveIn_X9_giftAt rfl rfl rfl (by decide +kernel) ⟨Nat.le_of_ble_eq_true rfl, Nat.le_of_ble_eq_true rfl⟩) hM [0] rfl rfl 0 0 rfl rfl rfl rfl rfl hl.1 rfl (Nat.le_of_ble_eq_true rfl) dX9_giveIn_57 ⟨Nat.le_of_ble_eq_true rfl, Nat.le_of_ble_eq_true rfl⟩) (fun r u H locs hq hM => ?_)
    subst hq
    have hM : xM D (TY q) [w9 q ad σ0 σ1 σ2 σ3 σ4 σ5 σ6 σ7 σ8 σ9 σ10 σ11 σ12 σ13 σ14 σ15 σ16 σ17 σ18 (xspl sm b (kAdd K fr g (-n))) σ20 σ21 σ22 σ23 σ24 σ25 σ26 σ27 σ28 σ29 σ30] A s.heap s H locs := hM
    refine lv_istore (lv' := [(7, .int (nI (67 * b + 26 + 1 + 4 * (tn (K 26))))), (6, .int (xap (σ6 fr) (σ6 to))), (0, .ref (ad 0)), (1, .int (nI b)), (2, .int (nI fr)), (3, .int (nI to)), (4, .int (nI g)), (5, .int n)]) hx hb dX9_giveIn_60 hl (by decide) rfl (fun ls hl => ?_)
    refine lv_aload_n hx hb dX9_giveIn_62 rfl (lv_at hl 2 rfl) ?_
    refine x_get hx hb hts iwX9_giveIn_X9 hown hM 0 0 rfl rfl rfl 19 (by decide) (hts _ lkX9_giveIn_64) (fun _ h => h) rfl dX9_giveIn_63 ?_
    refine lv_iload hx hb dX9_giveIn_66 (lv_at hl 0 rfl) ?_
    refine lv_iload_n hx hb dX9_giveIn_68 rfl (lv_at hl 5 rfl) ?_
    refine x_iast hx hb hM 0 19 0 (f := xspl sm b (kAdd K fr g (-n))) rfl rfl rfl (t := 67 * b + 26 + 1 + 4 * (tn (K 26))) (x := nI to) (by omega) (by decide) [w9 q ad σ0 σ1 σ2 σ3 σ4 σ5 σ6 σ7 σ8 σ9 σ10 σ11 σ12 σ13 σ14 σ15 σ16 σ17 σ18 (xspl sm b (upd (kAdd K fr g (-n)) (26 + 1 + 4 * (tn (K 26))) (nI to))) σ20 σ21 σ22 σ23 σ24 σ25 σ26 σ27 σ28 σ29 σ30] (by rw [xspl_upd (s := sm) (b := b) (K := (kAdd K fr g (-n))) (t := 67 * b + 26 + 1 + 4 * (tn (K 26))) (j := 26 + 1 + 4 * (tn (K 26))) (v := nI to) (by omega) (by omega)]; rfl) dX9_giveIn_69 (fun H locs hM => ?_)
    refine lv_aload_n hx hb dX9_giveIn_70 rfl (lv_at hl 2 rfl) ?_
    refine x_get hx hb hts iwX9_giveIn_X9 hown hM 0 0 rfl rfl rfl 19 (by decide) (hts _ lkX9_giveIn_64) (fun _ h => h) rfl dX9_giveIn_71 ?_
    refine lv_iload hx hb dX9_giveIn_74 (lv_at hl 0 rfl) ?_
    refine lv_iconst (v := nI 1) hx hb dX9_giveIn_76 (by decide) ?_
    refine x_iadd (x := 67 * b + 26 + 1 + 4 * (tn (K 26))) (y := 1) hx hb dX9_giveIn_77 ?_
    refine lv_iload hx hb dX9_giveIn_78 (lv_at hl 6 rfl) ?_
    refine x_iast hx hb hM 0 19 0 (f := xspl sm b (upd (kAdd K fr g (-n)) (26 + 1 + 4 * (tn (K 26))) (nI to))) rfl rfl rfl (t := 67 * b + 26 + 1 + 4 * (tn (K 26)) + 1) (x := nI g) (by omega) (by decide) [w9 q ad σ0 σ1 σ2 σ3 σ4 σ5 σ6 σ7 σ8 σ9 σ10 σ11 σ12 σ13 σ14 σ15 σ16 σ17 σ18 (xspl sm b (upd (upd (kAdd K fr g (-n)) (26 + 1 + 4 * (tn (K 26))) (nI to)) (26 + 1 + 4 * (tn (K 26)) + 1) (nI g))) σ20 σ21 σ22 σ23 σ24 σ25 σ26 σ27 σ28 σ29 σ30] (by rw [xspl_upd (s := sm) (b := b) (K := (upd (kAdd K fr g (-n)) (26 + 1 + 4 * (tn (K 26))) (nI to))) (t := 67 * b + 26 + 1 + 4 * (tn (K 26)) + 1) (j := 26 + 1 + 4 * (tn (K 26)) + 1) (v := nI g) (by omega) (by omega)]; rfl) dX9_giveIn_80 (fun H locs hM => ?_)
    refine lv_aload_n hx hb dX9_giveIn_81 rfl (lv_at hl 2 rfl) ?_
    refine x_get hx hb hts iwX9_giveIn_X9 hown hM 0 0 rfl rfl rfl 19 (by decide) (hts _ lkX9_giveIn_64) (fun _ h => h) rfl dX9_giveIn_82 ?_
    refine lv_iload hx hb dX9_giveIn_85 (lv_at hl 0 rfl) ?_
    refine lv_iconst (v := nI 2) hx hb dX9_giveIn_87 (by decide) ?_
    refine x_iadd (x := 67 * b + 26 + 1 + 4 * (tn (K 26))) (y := 2) hx hb dX9_giveIn_88 ?_
    refine lv_iload hx hb dX9_giveIn_89 (lv_at hl 7 rfl) ?_
    refine x_iast hx hb hM 0 19 0 (f := xspl sm b (upd (upd (kAdd K fr g (-n)) (26 + 1 + 4 * (tn (K 26))) (nI to)) (26 + 1 + 4 * (tn (K 26)) + 1) (nI g))) rfl rfl rfl (t := 67 * b + 26 + 1 + 4 * (tn (K 26)) + 2) (x := n) (by omega) (by decide) [w9 q ad σ0 σ1 σ2 σ3 σ4 σ5 σ6 σ7 σ8 σ9 σ10 σ11 σ12 σ13 σ14 σ15 σ16 σ17 σ18 (xspl sm b (upd (upd (upd (kAdd K fr g (-n)) (26 + 1 + 4 * (tn (K 26))) (nI to)) (26 + 1 + 4 * (tn (K 26)) + 1) (nI g)) (26 + 1 + 4 * (tn (K 26)) + 2) n)) σ20 σ21 σ22 σ23 σ24 σ25 σ26 σ27 σ28 σ29 σ30] (by rw [xspl_upd (s := sm) (b := b) (K := (upd (upd (kAdd K fr g (-n)) (26 + 1 + 4 * (tn (K 26))) (nI to)) (26 + 1 + 4 * (tn (K 26)) + 1) (nI g))) (t := 67 * b + 26 + 1 + 4 * (tn (K 26)) + 2) (j := 26 + 1 + 4 * (tn (K 26)) + 2) (v := n) (by omega) (by omega)]; rfl) dX9_giveIn_91 (fun H locs hM => ?_)
    refine lv_aload_n hx hb dX9_giveIn_92 rfl (lv_at hl 2 rfl) ?_
    refine x_get hx hb hts iwX9_giveIn_X9 hown hM 0 0 rfl rfl rfl 19 (by decide) (hts _ lkX9_giveIn_64) (fun _ h => h) rfl dX9_giveIn_93 ?_
    refine lv_iload hx hb dX9_giveIn_96 (lv_at hl 0 rfl) ?_
    refine lv_iconst (v := nI 3) hx hb dX9_giveIn_98 (by decide) ?_
    refine x_iadd (x := 67 * b + 26 + 1 + 4 * (tn (K 26))) (y := 3) hx hb dX9_giveIn_99 ?_
    refine lv_aload_n hx hb dX9_giveIn_100 rfl (lv_at hl 2 rfl) ?_
    refine lv_iload_n hx hb dX9_giveIn_101 rfl (lv_at hl 3 rfl) ?_
    refine x_calli (bc := [w9 q ad σ0 σ1 σ2 σ3 σ4 σ5 σ6 σ7 σ8 σ9 σ10 σ11 σ12 σ13 σ14 σ15 σ16 σ17 σ18 (xspl sm b (upd (upd (upd (kAdd K fr g (-n)) (26 + 1 + 4 * (tn (K 26))) (nI to)) (26 + 1 + 4 * (tn (K 26)) + 1) (nI g)) (26 + 1 + 4 * (tn (K 26)) + 2) n)) σ20 σ21 σ22 σ23 σ24 σ25 σ26 σ27 σ28 σ29 σ30]) (br := []) hM [0] [] rfl rfl rfl (by decide) (x_runV (As := [.int (nI b)]) (rest := [.int (nI (67 * b + 26 + 1 + 4 * (tn (K 26)) + 3)), .ref (ad 20)]) hfix (c_X9_minuteOfK l D q ad σ0 σ1 σ2 σ3 σ4 σ5 σ6 σ7 σ8 σ9 σ10 σ11 σ12 σ13 σ14 σ15 σ16 σ17 σ18 (xspl sm b (upd (upd (upd (kAdd K fr g (-n)) (26 + 1 + 4 * (tn (K 26))) (nI to)) (26 + 1 + 4 * (tn (K 26)) + 1) (nI g)) (26 + 1 + 4 * (tn (K 26)) + 2) n)) σ20 σ21 σ22 σ23 σ24 σ25 σ26 σ27 σ28 σ29 σ30 sm b (upd (upd (upd (kAdd K fr g (-n)) (26 + 1 + 4 * (tn (K 26))) (nI to)) (26 + 1 + 4 * (tn (K 26)) + 1) (nI g)) (26 + 1 + 4 * (tn (K 26)) + 2) n) (by omega)) (cwV 1 hts gX9_giveIn_X9_minuteOf rfl rfl rfl (by decide +kernel) ⟨Nat.le_of_ble_eq_true rfl, Nat.le_of_ble_eq_true rfl⟩) hM [0] rfl rfl 0 0 rfl rfl rfl rfl rfl hl.1 rfl (Nat.le_of_ble_eq_true rfl) dX9_giveIn_102 ⟨Nat.le_of_ble_eq_true rfl, Nat.le_of_ble_eq_true rfl⟩) (fun r u H locs hq hM => ?_)
    subst hq
    have hM : xM D (TY q) [w9 q ad σ0 σ1 σ2 σ3 σ4 σ5 σ6 σ7 σ8 σ9 σ10 σ11 σ12 σ13 σ14 σ15 σ16 σ17 σ18 (xspl sm b (upd (upd (upd (kAdd K fr g (-n)) (26 + 1 + 4 * (tn (K 26))) (nI to)) (26 + 1 + 4 * (tn (K 26)) + 1) (nI g)) (26 + 1 + 4 * (tn (K 26)) + 2) n)) σ20 σ21 σ22 σ23 σ24 σ25 σ26 σ27 σ28 σ29 σ30] A s.heap s H locs := hM
    refine x_cast (y := K 25) ((upd_ne _ _ (by omega)).trans ((upd_ne _ _ (by omega)).trans ((upd_ne _ _ (by omega)).trans f25))) ?_
    refine lv_iload hx hb dX9_giveIn_105 (lv_at hl 1 rfl) ?_
    refine lv_iadd hx hb dX9_giveIn_107 ?_
    refine x_iast hx hb hM 0 19 0 (f := xspl sm b (upd (upd (upd (kAdd K fr g (-n)) (26 + 1 + 4 * (tn (K 26))) (nI to)) (26 + 1 + 4 * (tn (K 26)) + 1) (nI g)) (26 + 1 + 4 * (tn (K 26)) + 2) n)) rfl rfl rfl (t := 67 * b + 26 + 1 + 4 * (tn (K 26)) + 3) (x := (K 25) + (xap (σ6 fr) (σ6 to))) (by omega) (by decide) [w9 q ad σ0 σ1 σ2 σ3 σ4 σ5 σ6 σ7 σ8 σ9 σ10 σ11 σ12 σ13 σ14 σ15 σ16 σ17 σ18 (xspl sm b (upd (upd (upd (upd (kAdd K fr g (-n)) (26 + 1 + 4 * (tn (K 26))) (nI to)) (26 + 1 + 4 * (tn (K 26)) + 1) (nI g)) (26 + 1 + 4 * (tn (K 26)) + 2) n) (26 + 1 + 4 * (tn (K 26)) + 3) ((K 25) + (xap (σ6 fr) (σ6 to))))) σ20 σ21 σ22 σ23 σ24 σ25 σ26 σ27 σ28 σ29 σ30] (by rw [xspl_upd (s := sm) (b := b) (K := (upd (upd (upd (kAdd K fr g (-n)) (26 + 1 + 4 * (tn (K 26))) (nI to)) (26 + 1 + 4 * (tn (K 26)) + 1) (nI g)) (26 + 1 + 4 * (tn (K 26)) + 2) n)) (t := 67 * b + 26 + 1 + 4 * (tn (K 26)) + 3) (j := 26 + 1 + 4 * (tn (K 26)) + 3) (v := (K 25) + (xap (σ6 fr) (σ6 to))) (by omega) (by omega)]; rfl) dX9_giveIn_108 (fun H locs hM => ?_)
    refine lv_aload_n hx hb dX9_giveIn_109 rfl (lv_at hl 2 rfl) ?_
    refine x_get hx hb hts iwX9_giveIn_X9 hown hM 0 0 rfl rfl rfl 19 (by decide) (hts _ lkX9_giveIn_64) (fun _ h => h) rfl dX9_giveIn_110 ?_
    refine lv_bipush (v := nI 67) hx hb dX9_giveIn_113 (by decide) ?_
    refine lv_iload_n hx hb dX9_giveIn_115 rfl (lv_at hl 3 rfl) ?_
    refine x_imul (x := 67) (y := b) hx hb dX9_giveIn_116 ?_
    refine lv_bipush (v := nI 26) hx hb dX9_giveIn_117 (by decide) ?_
    refine x_iadd (x := 67 * b) (y := 26) hx hb dX9_giveIn_119 ?_
    refine lv_dup2_11 hx hb dX9_giveIn_120 rfl rfl ?_
    refine x_iald hx hb hM 0 19 0 (f := xspl sm b (upd (upd (upd (upd (kAdd K fr g (-n)) (26 + 1 + 4 * (tn (K 26))) (nI to)) (26 + 1 + 4 * (tn (K 26)) + 1) (nI g)) (26 + 1 + 4 * (tn (K 26)) + 2) n) (26 + 1 + 4 * (tn (K 26)) + 3) ((K 25) + (xap (σ6 fr) (σ6 to))))) rfl rfl rfl (t := 67 * b + 26) (by omega) (by decide) dX9_giveIn_121 ?_
    refine x_cast (y := (upd (upd (upd (upd (kAdd K fr g (-n)) (26 + 1 + 4 * (tn (K 26))) (nI to)) (26 + 1 + 4 * (tn (K 26)) + 1) (nI g)) (26 + 1 + 4 * (tn (K 26)) + 2) n) (26 + 1 + 4 * (tn (K 26)) + 3) ((K 25) + (xap (σ6 fr) (σ6 to)))) 26) (xspl_at (j := 26) (by omega) (by omega)) ?_
    refine x_cast (y := K 26) ((upd_ne _ _ (by omega)).trans ((upd_ne _ _ (by omega)).trans ((upd_ne _ _ (by omega)).trans ((upd_ne _ _ (by omega)).trans f26)))) ?_
    refine lv_iconst (v := nI 1) hx hb dX9_giveIn_122 (by decide) ?_
    refine lv_iadd hx hb dX9_giveIn_123 ?_
    refine x_iast hx hb hM 0 19 0 (f := xspl sm b (upd (upd (upd (upd (kAdd K fr g (-n)) (26 + 1 + 4 * (tn (K 26))) (nI to)) (26 + 1 + 4 * (tn (K 26)) + 1) (nI g)) (26 + 1 + 4 * (tn (K 26)) + 2) n) (26 + 1 + 4 * (tn (K 26)) + 3) ((K 25) + (xap (σ6 fr) (σ6 to))))) rfl rfl rfl (t := 67 * b + 26) (x := (K 26) + (nI 1)) (by omega) (by decide) [w9 q ad σ0 σ1 σ2 σ3 σ4 σ5 σ6 σ7 σ8 σ9 σ10 σ11 σ12 σ13 σ14 σ15 σ16 σ17 σ18 (xspl sm b (upd (upd (upd (upd (upd (kAdd K fr g (-n)) (26 + 1 + 4 * (tn (K 26))) (nI to)) (26 + 1 + 4 * (tn (K 26)) + 1) (nI g)) (26 + 1 + 4 * (tn (K 26)) + 2) n) (26 + 1 + 4 * (tn (K 26)) + 3) ((K 25) + (xap (σ6 fr) (σ6 to)))) 26 ((K 26) + (nI 1)))) σ20 σ21 σ22 σ23 σ24 σ25 σ26 σ27 σ28 σ29 σ30] (by rw [xspl_upd (s := sm) (b := b) (K := (upd (upd (upd (upd (kAdd K fr g (-n)) (26 + 1 + 4 * (tn (K 26))) (nI to)) (26 + 1 + 4 * (tn (K 26)) + 1) (nI g)) (26 + 1 + 4 * (tn (K 26)) + 2) n) (26 + 1 + 4 * (tn (K 26)) + 3) ((K 25) + (xap (σ6 fr) (σ6 to))))) (t := 67 * b + 26) (j := 26) (v := (K 26) + (nI 1)) (by omega) (by omega)]; rfl) dX9_giveIn_124 (fun H locs hM => ?_)
    refine lv_aload_n hx hb dX9_giveIn_125 rfl (lv_at hl 2 rfl) ?_
    refine x_get hx hb hts iwX9_giveIn_X9 hown hM 0 0 rfl rfl rfl 19 (by decide) (hts _ lkX9_giveIn_64) (fun _ h => h) rfl dX9_giveIn_126 ?_
    refine lv_iload hx hb dX9_giveIn_129 (lv_at hl 0 rfl) ?_
    refine lv_iconst (v := nI 3) hx hb dX9_giveIn_131 (by decide) ?_
    refine x_iadd (x := 67 * b + 26 + 1 + 4 * (tn (K 26))) (y := 3) hx hb dX9_giveIn_132 ?_
    refine x_iald hx hb hM 0 19 0 (f := xspl sm b (upd (upd (upd (upd (upd (kAdd K fr g (-n)) (26 + 1 + 4 * (tn (K 26))) (nI to)) (26 + 1 + 4 * (tn (K 26)) + 1) (nI g)) (26 + 1 + 4 * (tn (K 26)) + 2) n) (26 + 1 + 4 * (tn (K 26)) + 3) ((K 25) + (xap (σ6 fr) (σ6 to)))) 26 ((K 26) + (nI 1)))) rfl rfl rfl (t := 67 * b + 26 + 1 + 4 * (tn (K 26)) + 3) (by omega) (by decide) dX9_giveIn_133 ?_
    refine x_cast (y := (upd (upd (upd (upd (upd (kAdd K fr g (-n)) (26 + 1 + 4 * (tn (K 26))) (nI to)) (26 + 1 + 4 * (tn (K 26)) + 1) (nI g)) (26 + 1 + 4 * (tn (K 26)) + 2) n) (26 + 1 + 4 * (tn (K 26)) + 3) ((K 25) + (xap (σ6 fr) (σ6 to)))) 26 ((K 26) + (nI 1))) (26 + 1 + 4 * (tn (K 26)) + 3)) (xspl_at (j := 26 + 1 + 4 * (tn (K 26)) + 3) (by omega) (by omega)) ?_
    have e2 : ((xspl sm b (upd (upd (upd (upd (upd (kAdd K fr g (-n)) (26 + 1 + 4 * (tn (K 26))) (nI to)) (26 + 1 + 4 * (tn (K 26)) + 1) (nI g)) (26 + 1 + 4 * (tn (K 26)) + 2) n) (26 + 1 + 4 * (tn (K 26)) + 3) ((K 25) + (xap (σ6 fr) (σ6 to)))) 26 ((K 26) + (nI 1)))) : Nat → Int32) = (xspl sm b (kGive K (xap (σ6 fr) (σ6 to)) fr to g n)) := by (first | rw [kGive, if_pos hd0] | rw [kGive, if_neg hd1])
    have hM : xM D (TY q) [w9 q ad σ0 σ1 σ2 σ3 σ4 σ5 σ6 σ7 σ8 σ9 σ10 σ11 σ12 σ13 σ14 σ15 σ16 σ17 σ18 (xspl sm b (kGive K (xap (σ6 fr) (σ6 to)) fr to g n)) σ20 σ21 σ22 σ23 σ24 σ25 σ26 σ27 σ28 σ29 σ30] A s.heap s H locs := Eq.mp (congrArg (fun z9 => xM D (TY q) [w9 q ad σ0 σ1 σ2 σ3 σ4 σ5 σ6 σ7 σ8 σ9 σ10 σ11 σ12 σ13 σ14 σ15 σ16 σ17 σ18 z9 σ20 σ21 σ22 σ23 σ24 σ25 σ26 σ27 σ28 σ29 σ30] A s.heap s H locs) e2) hM
    exact x_iret hx hb hr hlocks () hM (show (upd (upd (upd (upd (upd (kAdd K fr g (-n)) (26 + 1 + 4 * (tn (K 26))) (nI to)) (26 + 1 + 4 * (tn (K 26)) + 1) (nI g)) (26 + 1 + 4 * (tn (K 26)) + 2) n) (26 + 1 + 4 * (tn (K 26)) + 3) ((K 25) + (xap (σ6 fr) (σ6 to)))) 26 ((K 26) + (nI 1))) (26 + 1 + 4 * (tn (K 26)) + 3) = K 25 + xap (σ6 fr) (σ6 to) from by exact (upd_ne _ _ (by omega)).trans (upd_at _ _ _)) dX9_giveIn_134
  · have hd0 : xap (σ6 fr) (σ6 to) = 0 := by assumption
    refine lv_aload_n hx hb dX9_giveIn_34 rfl (lv_at hl 1 rfl) ?_
    refine lv_iload_n hx hb dX9_giveIn_35 rfl (lv_at hl 2 rfl) ?_
    refine lv_iload_n hx hb dX9_giveIn_36 rfl (lv_at hl 4 rfl) ?_
    refine lv_iload hx hb dX9_giveIn_37 (lv_at hl 5 rfl) ?_
    refine lv_iload hx hb dX9_giveIn_39 (lv_at hl 6 rfl) ?_
    refine x_callv (bc := [w9 q ad σ0 σ1 σ2 σ3 σ4 σ5 σ6 σ7 σ8 σ9 σ10 σ11 σ12 σ13 σ14 σ15 σ16 σ17 σ18 (xspl sm b (kAdd K fr g (-n))) σ20 σ21 σ22 σ23 σ24 σ25 σ26 σ27 σ28 σ29 σ30]) (br := []) hM [0] [] rfl rfl rfl (by decide) (x_runV (As := [.int (nI b), .int (nI to), .int (nI g), .int n]) (rest := []) hfix (c_X9_addPiecesK l D q ad σ0 σ1 σ2 σ3 σ4 σ5 σ6 σ7 σ8 σ9 σ10 σ11 σ12 σ13 σ14 σ15 σ16 σ17 σ18 (xspl sm b (kAdd K fr g (-n))) σ20 σ21 σ22 σ23 σ24 σ25 σ26 σ27 σ28 σ29 σ30 sm b (kAdd K fr g (-n)) to g n (by omega) (by omega) (by omega)) (cwV 4 hts gX9_giveIn_X9_addPieces rfl rfl rfl (by decide +kernel) ⟨Nat.le_of_ble_eq_true rfl, Nat.le_of_ble_eq_true rfl⟩) hM [0] rfl rfl 0 0 rfl rfl rfl rfl rfl hl.1 rfl (Nat.le_of_ble_eq_true rfl) dX9_giveIn_41 ⟨Nat.le_of_ble_eq_true rfl, Nat.le_of_ble_eq_true rfl⟩) (fun u H locs hq hM => ?_)
    have hM : xM D (TY q) [w9 q ad σ0 σ1 σ2 σ3 σ4 σ5 σ6 σ7 σ8 σ9 σ10 σ11 σ12 σ13 σ14 σ15 σ16 σ17 σ18 (xspl sm b (kAdd (kAdd K fr g (-n)) to g n)) σ20 σ21 σ22 σ23 σ24 σ25 σ26 σ27 σ28 σ29 σ30] A s.heap s H locs := hM
    refine lv_aload_n hx hb dX9_giveIn_44 rfl (lv_at hl 1 rfl) ?_
    refine lv_iload_n hx hb dX9_giveIn_45 rfl (lv_at hl 2 rfl) ?_
    refine x_calli (bc := [w9 q ad σ0 σ1 σ2 σ3 σ4 σ5 σ6 σ7 σ8 σ9 σ10 σ11 σ12 σ13 σ14 σ15 σ16 σ17 σ18 (xspl sm b (kAdd (kAdd K fr g (-n)) to g n)) σ20 σ21 σ22 σ23 σ24 σ25 σ26 σ27 σ28 σ29 σ30]) (br := []) hM [0] [] rfl rfl rfl (by decide) (x_runV (As := [.int (nI b)]) (rest := []) hfix (c_X9_minuteOfK l D q ad σ0 σ1 σ2 σ3 σ4 σ5 σ6 σ7 σ8 σ9 σ10 σ11 σ12 σ13 σ14 σ15 σ16 σ17 σ18 (xspl sm b (kAdd (kAdd K fr g (-n)) to g n)) σ20 σ21 σ22 σ23 σ24 σ25 σ26 σ27 σ28 σ29 σ30 sm b (kAdd (kAdd K fr g (-n)) to g n) (by omega)) (cwV 1 hts gX9_giveIn_X9_minuteOf rfl rfl rfl (by decide +kernel) ⟨Nat.le_of_ble_eq_true rfl, Nat.le_of_ble_eq_true rfl⟩) hM [0] rfl rfl 0 0 rfl rfl rfl rfl rfl hl.1 rfl (Nat.le_of_ble_eq_true rfl) dX9_giveIn_46 ⟨Nat.le_of_ble_eq_true rfl, Nat.le_of_ble_eq_true rfl⟩) (fun r u H locs hq hM => ?_)
    subst hq
    have hM : xM D (TY q) [w9 q ad σ0 σ1 σ2 σ3 σ4 σ5 σ6 σ7 σ8 σ9 σ10 σ11 σ12 σ13 σ14 σ15 σ16 σ17 σ18 (xspl sm b (kAdd (kAdd K fr g (-n)) to g n)) σ20 σ21 σ22 σ23 σ24 σ25 σ26 σ27 σ28 σ29 σ30] A s.heap s H locs := hM
    refine x_cast (y := K 25) g25 ?_
    have e3 : ((xspl sm b (kAdd (kAdd K fr g (-n)) to g n)) : Nat → Int32) = (xspl sm b (kGive K (xap (σ6 fr) (σ6 to)) fr to g n)) := by (first | rw [kGive, if_pos hd0] | rw [kGive, if_neg hd1])
    have hM : xM D (TY q) [w9 q ad σ0 σ1 σ2 σ3 σ4 σ5 σ6 σ7 σ8 σ9 σ10 σ11 σ12 σ13 σ14 σ15 σ16 σ17 σ18 (xspl sm b (kGive K (xap (σ6 fr) (σ6 to)) fr to g n)) σ20 σ21 σ22 σ23 σ24 σ25 σ26 σ27 σ28 σ29 σ30] A s.heap s H locs := Eq.mp (congrArg (fun z9 => xM D (TY q) [w9 q ad σ0 σ1 σ2 σ3 σ4 σ5 σ6 σ7 σ8 σ9 σ10 σ11 σ12 σ13 σ14 σ15 σ16 σ17 σ18 z9 σ20 σ21 σ22 σ23 σ24 σ25 σ26 σ27 σ28 σ29 σ30] A s.heap s H locs) e3) hM
    exact x_iret hx hb hr hlocks () hM (show K 25 = K 25 + xap (σ6 fr) (σ6 to) from by rw [hd0, Int32.add_zero]) dX9_giveIn_49

set_option maxRecDepth 20000 in
theorem ggX9_house_X9_isHouse : GoodIn wsX9_house wsX9_isHouse := goodIn_r _ [6, 7, 8, 9, 5, 10, 88, 89, 90, 91, 92, 93, 94, 95, 96, 97, 98, 99, 100, 101, 102, 103, 104, 105, 106, 107, 108, 109, 110, 111, 112, 113, 114, 115, 116, 117, 118] (by decide +kernel) (by decide +kernel)
set_option maxRecDepth 20000 in
theorem gX9_house_X9_isHouse : GoodIn wsX9_house (wsV RX9 222 RX9 yX9_isHouse wsX9_isHouse) := goodIn_app (goodIn_of _ (by decide +kernel)) ggX9_house_X9_isHouse
set_option maxRecDepth 20000 in
theorem ggX9_house_X9_isGood : GoodIn wsX9_house wsX9_isGood := goodIn_r _ [14, 15, 8, 9, 5, 10, 88, 89, 90, 91, 92, 93, 94, 95, 96, 97, 98, 99, 100, 101, 102, 103, 104, 105, 106, 107, 108, 109, 110, 111, 112, 113, 114, 115, 116, 117, 118] (by decide +kernel) (by decide +kernel)
set_option maxRecDepth 20000 in
theorem gX9_house_X9_isGood : GoodIn wsX9_house (wsV RX9 225 RX9 yX9_isGood wsX9_isGood) := goodIn_app (goodIn_of _ (by decide +kernel)) ggX9_house_X9_isGood
set_option maxRecDepth 20000 in
theorem ggX9_house_X9_in : GoodIn wsX9_house wsX9_in := goodIn_r _ [10] (by decide +kernel) (by decide +kernel)
set_option maxRecDepth 20000 in
theorem gX9_house_X9_in : GoodIn wsX9_house (va_wsS RX9 104 yX9_in wsX9_in) := goodIn_app (goodIn_of _ (by decide +kernel)) ggX9_house_X9_in
set_option maxRecDepth 20000 in
theorem ggX9_house_X9_tryToFive : GoodIn wsX9_house wsX9_tryToFive := goodIn_r _ [19, 20, 21, 22, 5, 23, 24, 25, 26, 27, 28, 29, 30, 31, 32, 33, 34, 35, 36, 37, 38, 39, 40, 41, 42, 43, 44, 45, 46, 47, 48, 49, 50, 51, 52, 53, 54, 55, 56, 57, 58, 59, 7, 15, 60, 61, 62, 63, 64, 65, 66, 67, 68, 69, 70, 71, 72, 73, 74, 75, 76, 77, 78, 79, 88, 89, 90, 91, 92, 93, 94, 95, 96, 97, 98, 99, 100, 101, 102, 103, 104, 105, 106, 107, 108, 109, 110, 111, 112, 113, 114, 115, 116, 117, 118] (by decide +kernel) (by decide +kernel)
set_option maxRecDepth 20000 in
theorem gX9_house_X9_tryToFive : GoodIn wsX9_house (wsV RX9 228 RX9 yX9_tryToFive wsX9_tryToFive) := goodIn_app (goodIn_of _ (by decide +kernel)) ggX9_house_X9_tryToFive
set_option maxRecDepth 20000 in
theorem ggX9_house_X9_pieces : GoodIn wsX9_house wsX9_pieces := goodIn_r _ [64, 24, 88, 89, 90, 91, 92, 93, 94, 95, 96, 97, 98, 99, 100, 101, 102, 103, 104, 105, 106, 107, 108, 109, 110, 111, 112, 113, 114, 115, 116, 117, 118] (by decide +kernel) (by decide +kernel)
set_option maxRecDepth 20000 in
theorem gX9_house_X9_pieces : GoodIn wsX9_house (wsV RX9 172 RX9 yX9_pieces wsX9_pieces) := goodIn_app (goodIn_of _ (by decide +kernel)) ggX9_house_X9_pieces
set_option maxRecDepth 20000 in
theorem ggX9_house_X9_leftIn : GoodIn wsX9_house wsX9_leftIn := goodIn_r _ [83, 61, 62, 63, 5, 64, 24, 84, 85, 86, 87, 60, 88, 89, 90, 91, 92, 93, 94, 95, 96, 97, 98, 99, 100, 101, 102, 103, 104, 105, 106, 107, 108, 109, 110, 111, 112, 113, 114, 115, 116, 117, 118] (by decide +kernel) (by decide +kernel)
set_option maxRecDepth 20000 in
theorem gX9_house_X9_leftIn : GoodIn wsX9_house (wsV RX9 210 RX9 yX9_leftIn wsX9_leftIn) := goodIn_app (goodIn_of _ (by decide +kernel)) ggX9_house_X9_leftIn
theorem dX9_house_0 : decode cX9_house 0 = .ok (.aload_n 0, 1) := by decide +kernel
theorem dX9_house_1 : decode cX9_house 1 = .ok (.iload_n 1, 1) := by decide +kernel
theorem dX9_house_2 : decode cX9_house 2 = .ok (.invokevirtual 222, 3) := by decide +kernel
theorem dX9_house_5 : decode cX9_house 5 = .ok (.ifCond .eq 23, 3) := by decide +kernel
theorem dX9_house_8 : decode cX9_house 8 = .ok (.aload_n 0, 1) := by decide +kernel
theorem dX9_house_9 : decode cX9_house 9 = .ok (.iload_n 2, 1) := by decide +kernel
theorem dX9_house_10 : decode cX9_house 10 = .ok (.invokevirtual 225, 3) := by decide +kernel
theorem dX9_house_13 : decode cX9_house 13 = .ok (.ifCond .eq 15, 3) := by decide +kernel
theorem dX9_house_16 : decode cX9_house 16 = .ok (.iload_n 3, 1) := by decide +kernel
theorem dX9_house_17 : decode cX9_house 17 = .ok (.i2l, 1) := by decide +kernel
theorem dX9_house_18 : decode cX9_house 18 = .ok (.lconst 0, 1) := by decide +kernel
theorem dX9_house_19 : decode cX9_house 19 = .ok (.ldc2_w 123, 3) := by decide +kernel
theorem dX9_house_22 : decode cX9_house 22 = .ok (.invokestatic 104, 3) := by decide +kernel
theorem dX9_house_25 : decode cX9_house 25 = .ok (.ifCond .ne 5, 3) := by decide +kernel
theorem dX9_house_28 : decode cX9_house 28 = .ok (.iconst (-1), 1) := by decide +kernel
theorem dX9_house_29 : decode cX9_house 29 = .ok (.ireturn, 1) := by decide +kernel
theorem dX9_house_30 : decode cX9_house 30 = .ok (.aload_n 0, 1) := by decide +kernel
theorem dX9_house_31 : decode cX9_house 31 = .ok (.invokevirtual 228, 3) := by decide +kernel
theorem dX9_house_34 : decode cX9_house 34 = .ok (.iload_n 3, 1) := by decide +kernel
theorem dX9_house_35 : decode cX9_house 35 = .ok (.ifCond .ne 13, 3) := by decide +kernel
theorem dX9_house_38 : decode cX9_house 38 = .ok (.aload_n 0, 1) := by decide +kernel
theorem dX9_house_39 : decode cX9_house 39 = .ok (.iconst 0, 1) := by decide +kernel
theorem dX9_house_40 : decode cX9_house 40 = .ok (.iload_n 1, 1) := by decide +kernel
theorem dX9_house_41 : decode cX9_house 41 = .ok (.iload_n 2, 1) := by decide +kernel
theorem dX9_house_42 : decode cX9_house 42 = .ok (.invokevirtual 172, 3) := by decide +kernel
theorem dX9_house_45 : decode cX9_house 45 = .ok (.goto 20, 3) := by decide +kernel
theorem dX9_house_48 : decode cX9_house 48 = .ok (.aload_n 0, 1) := by decide +kernel
theorem dX9_house_49 : decode cX9_house 49 = .ok (.iload_n 3, 1) := by decide +kernel
theorem dX9_house_50 : decode cX9_house 50 = .ok (.iconst 1, 1) := by decide +kernel
theorem dX9_house_51 : decode cX9_house 51 = .ok (.if_icmp .ne 7, 3) := by decide +kernel
theorem dX9_house_54 : decode cX9_house 54 = .ok (.iconst 0, 1) := by decide +kernel
theorem dX9_house_55 : decode cX9_house 55 = .ok (.goto 5, 3) := by decide +kernel
theorem dX9_house_58 : decode cX9_house 58 = .ok (.bipush 11, 2) := by decide +kernel
theorem dX9_house_60 : decode cX9_house 60 = .ok (.iload_n 1, 1) := by decide +kernel
theorem dX9_house_61 : decode cX9_house 61 = .ok (.iload_n 2, 1) := by decide +kernel
theorem dX9_house_62 : decode cX9_house 62 = .ok (.invokevirtual 210, 3) := by decide +kernel
theorem dX9_house_65 : decode cX9_house 65 = .ok (.ireturn, 1) := by decide +kernel
set_option maxHeartbeats 4000000 in
set_option maxRecDepth 100000 in
theorem c_X9_house (l : Launch) (D : va_G) (q : Nat → ClassId) (ad : Nat → Nat) (σ0 : Int32) (σ1 : Nat → Int32) (σ2 : Nat → Int32) (σ3 : Nat → Int32) (σ4 : Nat → Int32) (σ5 : Nat → Int32) (σ6 : Nat → Int32) (σ7 : Nat → Int32) (σ8 : Nat → Int32) (σ9 : Nat → Int32) (σ10 : Nat → Int32) (σ11 : Nat → Int32) (σ12 : Nat → Int32) (σ13 : Nat → Int32) (σ14 : Nat → Int32) (σ15 : Nat → Int32) (σ16 : Nat → Int32) (σ17 : Nat → Int32) (σ18 : Nat → Int32) (σ19 : Nat → Int32) (σ20 : Int32) (σ21 : Int32) (σ22 : Int32) (σ23 : Nat → Int32) (σ24 : Int32) (σ25 : Int32) (σ26 : Nat → Int32) (σ27 : Nat → Int32) (σ28 : Nat → Int32) (σ29 : Nat → Int32) (σ30 : Nat → Int32) (h : Nat) (g : Nat) (what : Nat) (hh0 : h < tn (σ5 0)) (hg0 : g < tn (σ2 0)) (hwh : what ≤ 2) (hc2 : σ2 0 = nI (tn (σ2 0)) ∧ tn (σ2 0) ≤ 5) (hc5 : σ5 0 = nI (tn (σ5 0)) ∧ tn (σ5 0) ≤ 5) (hc8 : σ8 0 = nI (tn (σ8 0)) ∧ tn (σ8 0) ≤ 8) (hE : okE σ9 σ10 σ11 (tn (σ8 0))) (hK0 : okK (xreg σ19 0)) : xC l yX9_house wsX9_house ({ frames := 5, cells := 0, slots := 0, locals := 116 }) D (TY q) [w9 q ad σ0 σ1 σ2 σ3 σ4 σ5 σ6 σ7 σ8 σ9 σ10 σ11 σ12 σ13 σ14 σ15 σ16 σ17 σ18 σ19 σ20 σ21 σ22 σ23 σ24 σ25 σ26 σ27 σ28 σ29 σ30] [.ref (ad 0), .int (nI h), .int (nI g), .int (nI what)] (xQi D (TY q) (fun (r : Int32) (_ : (Nat → Int32) × Int32 × Int32) => r = if what = 0 then xreg σ19 0 (5 * h + g) else if what = 1 then xlf (σ4 g) (xreg σ19 0 (5 * h + g)) else xlf (σ4 g) ((kGoN σ4 (tn (σ2 0)) (tn (σ5 0)) σ9 σ10 σ11 (tn (σ8 0)) (-4) (xreg σ19 0, σ24, nI 0) (60 - tn (xreg σ19 0 25))).1 (5 * h + g))) (fun (u : (Nat → Int32) × Int32 × Int32) => [w9 q ad σ0 σ1 σ2 σ3 σ4 σ5 σ6 σ7 σ8 σ9 σ10 σ11 σ12 σ13 σ14 σ15 σ16 σ17 σ18 (xspl σ19 11 u.1) σ20 σ21 σ22 σ23 u.2.1 u.2.2 σ26 σ27 σ28 σ29 σ30])) 0 0 := by
  refine x_enter (cc := cX9_house) (maxL := 4) (ret := (some .int)) (by decide) rfl (Nat.le_of_ble_eq_true rfl) ?_
  intro p e s m below meth c A ls H locs hfix hr hlocks hinit hM hl
  obtain ⟨hx, hb, hml, hown, hts⟩ := id hfix
  have hl : lv_has ls 4 [(0, .ref (ad 0)), (1, .int (nI h)), (2, .int (nI g)), (3, .int (nI what))] := hl
  have hc2b := hc2.2
  have hc5b := hc5.2
  have hc8b := hc8.2
  have hT0 := hK0.1.2
  have hW0 := hK0.2.1.2
  refine lv_aload_n hx hb dX9_house_0 rfl (lv_at hl 0 rfl) ?_
  refine lv_iload_n hx hb dX9_house_1 rfl (lv_at hl 1 rfl) ?_
  refine x_calli (bc := [w9 q ad σ0 σ1 σ2 σ3 σ4 σ5 σ6 σ7 σ8 σ9 σ10 σ11 σ12 σ13 σ14 σ15 σ16 σ17 σ18 σ19 σ20 σ21 σ22 σ23 σ24 σ25 σ26 σ27 σ28 σ29 σ30]) (br := []) hM [0] [] rfl rfl rfl (by decide) (x_runV (As := [.int (nI h)]) (rest := []) hfix (c_X9_isHouse l D q ad σ0 σ1 σ2 σ3 σ4 σ5 σ6 σ7 σ8 σ9 σ10 σ11 σ12 σ13 σ14 σ15 σ16 σ17 σ18 σ19 σ20 σ21 σ22 σ23 σ24 σ25 σ26 σ27 σ28 σ29 σ30 (nI h) ((h : Nat) : Int) (nI_toInt (n := h) (by omega)) hc5) (cwV 1 hts gX9_house_X9_isHouse rfl rfl rfl (by decide +kernel) ⟨Nat.le_of_ble_eq_true rfl, Nat.le_of_ble_eq_true rfl⟩) hM [0] rfl rfl 0 0 rfl rfl rfl rfl rfl hl.1 rfl (Nat.le_of_ble_eq_true rfl) dX9_house_2 ⟨Nat.le_of_ble_eq_true rfl, Nat.le_of_ble_eq_true rfl⟩) (fun r u H locs hq hM => ?_)
  subst hq
  have hM : xM D (TY q) [w9 q ad σ0 σ1 σ2 σ3 σ4 σ5 σ6 σ7 σ8 σ9 σ10 σ11 σ12 σ13 σ14 σ15 σ16 σ17 σ18 σ19 σ20 σ21 σ22 σ23 σ24 σ25 σ26 σ27 σ28 σ29 σ30] A s.heap s H locs := hM
  refine x_ifz_eq (P := 0 ≤ ((h : Nat) : Int) ∧ ((h : Nat) : Int) < tn (σ5 0)) (tgt := 28) hx hb dX9_house_5 (by decide) (fun c1 => ?_) (fun c1 => ?_)
  · exfalso; omega
  · refine lv_aload_n hx hb dX9_house_8 rfl (lv_at hl 0 rfl) ?_
    refine lv_iload_n hx hb dX9_house_9 rfl (lv_at hl 2 rfl) ?_
    refine x_calli (bc := [w9 q ad σ0 σ1 σ2 σ3 σ4 σ5 σ6 σ7 σ8 σ9 σ10 σ11 σ12 σ13 σ14 σ15 σ16 σ17 σ18 σ19 σ20 σ21 σ22 σ23 σ24 σ25 σ26 σ27 σ28 σ29 σ30]) (br := []) hM [0] [] rfl rfl rfl (by decide) (x_runV (As := [.int (nI g)]) (rest := []) hfix (c_X9_isGood l D q ad σ0 σ1 σ2 σ3 σ4 σ5 σ6 σ7 σ8 σ9 σ10 σ11 σ12 σ13 σ14 σ15 σ16 σ17 σ18 σ19 σ20 σ21 σ22 σ23 σ24 σ25 σ26 σ27 σ28 σ29 σ30 (nI g) ((g : Nat) : Int) (nI_toInt (n := g) (by omega)) hc2) (cwV 1 hts gX9_house_X9_isGood rfl rfl rfl (by decide +kernel) ⟨Nat.le_of_ble_eq_true rfl, Nat.le_of_ble_eq_true rfl⟩) hM [0] rfl rfl 0 0 rfl rfl rfl rfl rfl hl.1 rfl (Nat.le_of_ble_eq_true rfl) dX9_house_10 ⟨Nat.le_of_ble_eq_true rfl, Nat.le_of_ble_eq_true rfl⟩) (fun r u H locs hq hM => ?_)
    subst hq
    have hM : xM D (TY q) [w9 q ad σ0 σ1 σ2 σ3 σ4 σ5 σ6 σ7 σ8 σ9 σ10 σ11 σ12 σ13 σ14 σ15 σ16 σ17 σ18 σ19 σ20 σ21 σ22 σ23 σ24 σ25 σ26 σ27 σ28 σ29 σ30] A s.heap s H locs := hM
    refine x_ifz_eq (P := 0 ≤ ((g : Nat) : Int) ∧ ((g : Nat) : Int) < tn (σ2 0)) (tgt := 28) hx hb dX9_house_13 (by decide) (fun c2 => ?_) (fun c2 => ?_)
    · exfalso; omega
    · refine lv_iload_n hx hb dX9_house_16 rfl (lv_at hl 3 rfl) ?_
      refine x_i2l hx hb dX9_house_17 ?_
      refine lv_lconst (v := 0) hx hb dX9_house_18 (by decide) ?_
      refine lv_ldc2 (v := 2) hx hb hown (hts (.constantLong RX9 123 (2)) (by decide +kernel)) dX9_house_19 ?_
      refine x_calli (bc := []) (br := [w9 q ad σ0 σ1 σ2 σ3 σ4 σ5 σ6 σ7 σ8 σ9 σ10 σ11 σ12 σ13 σ14 σ15 σ16 σ17 σ18 σ19 σ20 σ21 σ22 σ23 σ24 σ25 σ26 σ27 σ28 σ29 σ30]) hM [] [0] rfl rfl rfl (by decide) (x_runS (As := [.long ((nI what).toInt64), .long (0 : Int64), .long (2 : Int64)]) (rest := []) hfix (c_X9_in l D q ((nI what).toInt64) (0 : Int64) (2 : Int64) ((what : Nat) : Int) (0 : Int) (2 : Int) ((Jvm.Kit.i64_of_i32 _).trans (nI_toInt (n := what) (by omega))) (by decide) (by decide)) (va_cwS 3 hts gX9_house_X9_in rfl rfl rfl (by decide +kernel) ⟨Nat.le_of_ble_eq_true rfl, Nat.le_of_ble_eq_true rfl⟩) hM [] rfl rfl rfl hl.1 rfl (Nat.le_of_ble_eq_true rfl) dX9_house_22 ⟨Nat.le_of_ble_eq_true rfl, Nat.le_of_ble_eq_true rfl⟩) (fun r u H locs hq hM => ?_)
      subst hq
      have hM : xM D (TY q) [w9 q ad σ0 σ1 σ2 σ3 σ4 σ5 σ6 σ7 σ8 σ9 σ10 σ11 σ12 σ13 σ14 σ15 σ16 σ17 σ18 σ19 σ20 σ21 σ22 σ23 σ24 σ25 σ26 σ27 σ28 σ29 σ30] A s.heap s H locs := hM
      refine x_ifz_ne (P := (0 : Int) ≤ ((what : Nat) : Int) ∧ ((what : Nat) : Int) ≤ (2 : Int)) (tgt := 30) hx hb dX9_house_25 (by decide) (fun c3 => ?_) (fun c3 => ?_)
      · refine lv_aload_n hx hb dX9_house_30 rfl (lv_at hl 0 rfl) ?_
        refine x_callv (bc := [w9 q ad σ0 σ1 σ2 σ3 σ4 σ5 σ6 σ7 σ8 σ9 σ10 σ11 σ12 σ13 σ14 σ15 σ16 σ17 σ18 σ19 σ20 σ21 σ22 σ23 σ24 σ25 σ26 σ27 σ28 σ29 σ30]) (br := []) hM [0] [] rfl rfl rfl (by decide) (x_runV (As := []) (rest := []) hfix (c_X9_tryToFive l D q ad σ0 σ1 σ2 σ3 σ4 σ5 σ6 σ7 σ8 σ9 σ10 σ11 σ12 σ13 σ14 σ15 σ16 σ17 σ18 σ19 σ20 σ21 σ22 σ23 σ24 σ25 σ26 σ27 σ28 σ29 σ30 hc2 hc5 hc8 hE hK0) (cwV 0 hts gX9_house_X9_tryToFive rfl rfl rfl (by decide +kernel) ⟨Nat.le_of_ble_eq_true rfl, Nat.le_of_ble_eq_true rfl⟩) hM [0] rfl rfl 0 0 rfl rfl rfl rfl rfl hl.1 rfl (Nat.le_of_ble_eq_true rfl) dX9_house_31 ⟨Nat.le_of_ble_eq_true rfl, Nat.le_of_ble_eq_true rfl⟩) (fun u H locs hq hM => ?_)
        have hM : xM D (TY q) [w9 q ad σ0 σ1 σ2 σ3 σ4 σ5 σ6 σ7 σ8 σ9 σ10 σ11 σ12 σ13 σ14 σ15 σ16 σ17 σ18 (xspl σ19 11 (kGoN σ4 (tn (σ2 0)) (tn (σ5 0)) σ9 σ10 σ11 (tn (σ8 0)) (-4) (xreg σ19 0, σ24, nI 0) (60 - tn (xreg σ19 0 25))).1) σ20 σ21 σ22 σ23 (kGoN σ4 (tn (σ2 0)) (tn (σ5 0)) σ9 σ10 σ11 (tn (σ8 0)) (-4) (xreg σ19 0, σ24, nI 0) (60 - tn (xreg σ19 0 25))).2.1 (kGoN σ4 (tn (σ2 0)) (tn (σ5 0)) σ9 σ10 σ11 (tn (σ8 0)) (-4) (xreg σ19 0, σ24, nI 0) (60 - tn (xreg σ19 0 25))).2.2 σ26 σ27 σ28 σ29 σ30] A s.heap s H locs := hM
        refine lv_iload_n hx hb dX9_house_34 rfl (lv_at hl 3 rfl) ?_
        refine x_if_ne (x := what) (tgt := 48) hx hb (by omega) dX9_house_35 (by decide) (fun c4 => ?_) (fun c4 => ?_)
        · refine lv_aload_n hx hb dX9_house_48 rfl (lv_at hl 0 rfl) ?_
          refine lv_iload_n hx hb dX9_house_49 rfl (lv_at hl 3 rfl) ?_
          refine lv_iconst (v := nI 1) hx hb dX9_house_50 (by decide) ?_
          refine x_icmp_ne (x := what) (y := 1) (tgt := 58) hx hb (by omega) (by omega) dX9_house_51 (by decide) (fun c5 => ?_) (fun c5 => ?_)
          · refine lv_bipush (v := nI 11) hx hb dX9_house_58 (by decide) ?_
            refine lv_iload_n hx hb dX9_house_60 rfl (lv_at hl 1 rfl) ?_
            refine lv_iload_n hx hb dX9_house_61 rfl (lv_at hl 2 rfl) ?_
            refine x_calli (bc := [w9 q ad σ0 σ1 σ2 σ3 σ4 σ5 σ6 σ7 σ8 σ9 σ10 σ11 σ12 σ13 σ14 σ15 σ16 σ17 σ18 (xspl σ19 11 (kGoN σ4 (tn (σ2 0)) (tn (σ5 0)) σ9 σ10 σ11 (tn (σ8 0)) (-4) (xreg σ19 0, σ24, nI 0) (60 - tn (xreg σ19 0 25))).1) σ20 σ21 σ22 σ23 (kGoN σ4 (tn (σ2 0)) (tn (σ5 0)) σ9 σ10 σ11 (tn (σ8 0)) (-4) (xreg σ19 0, σ24, nI 0) (60 - tn (xreg σ19 0 25))).2.1 (kGoN σ4 (tn (σ2 0)) (tn (σ5 0)) σ9 σ10 σ11 (tn (σ8 0)) (-4) (xreg σ19 0, σ24, nI 0) (60 - tn (xreg σ19 0 25))).2.2 σ26 σ27 σ28 σ29 σ30]) (br := []) hM [0] [] rfl rfl rfl (by decide) (x_runV (As := [.int (nI 11), .int (nI h), .int (nI g)]) (rest := []) hfix (c_X9_leftIn l D q ad σ0 σ1 σ2 σ3 σ4 σ5 σ6 σ7 σ8 σ9 σ10 σ11 σ12 σ13 σ14 σ15 σ16 σ17 σ18 (xspl σ19 11 (kGoN σ4 (tn (σ2 0)) (tn (σ5 0)) σ9 σ10 σ11 (tn (σ8 0)) (-4) (xreg σ19 0, σ24, nI 0) (60 - tn (xreg σ19 0 25))).1) σ20 σ21 σ22 σ23 (kGoN σ4 (tn (σ2 0)) (tn (σ5 0)) σ9 σ10 σ11 (tn (σ8 0)) (-4) (xreg σ19 0, σ24, nI 0) (60 - tn (xreg σ19 0 25))).2.1 (kGoN σ4 (tn (σ2 0)) (tn (σ5 0)) σ9 σ10 σ11 (tn (σ8 0)) (-4) (xreg σ19 0, σ24, nI 0) (60 - tn (xreg σ19 0 25))).2.2 σ26 σ27 σ28 σ29 σ30 11 h g (by omega) (by omega) (by omega)) (cwV 3 hts gX9_house_X9_leftIn rfl rfl rfl (by decide +kernel) ⟨Nat.le_of_ble_eq_true rfl, Nat.le_of_ble_eq_true rfl⟩) hM [0] rfl rfl 0 0 rfl rfl rfl rfl rfl hl.1 rfl (Nat.le_of_ble_eq_true rfl) dX9_house_62 ⟨Nat.le_of_ble_eq_true rfl, Nat.le_of_ble_eq_true rfl⟩) (fun r u H locs hq hM => ?_)
            subst hq
            have hM : xM D (TY q) [w9 q ad σ0 σ1 σ2 σ3 σ4 σ5 σ6 σ7 σ8 σ9 σ10 σ11 σ12 σ13 σ14 σ15 σ16 σ17 σ18 (xspl σ19 11 (kGoN σ4 (tn (σ2 0)) (tn (σ5 0)) σ9 σ10 σ11 (tn (σ8 0)) (-4) (xreg σ19 0, σ24, nI 0) (60 - tn (xreg σ19 0 25))).1) σ20 σ21 σ22 σ23 (kGoN σ4 (tn (σ2 0)) (tn (σ5 0)) σ9 σ10 σ11 (tn (σ8 0)) (-4) (xreg σ19 0, σ24, nI 0) (60 - tn (xreg σ19 0 25))).2.1 (kGoN σ4 (tn (σ2 0)) (tn (σ5 0)) σ9 σ10 σ11 (tn (σ8 0)) (-4) (xreg σ19 0, σ24, nI 0) (60 - tn (xreg σ19 0 25))).2.2 σ26 σ27 σ28 σ29 σ30] A s.heap s H locs := hM
            exact x_iret hx hb hr hlocks ((kGoN σ4 (tn (σ2 0)) (tn (σ5 0)) σ9 σ10 σ11 (tn (σ8 0)) (-4) (xreg σ19 0, σ24, nI 0) (60 - tn (xreg σ19 0 25))).1, (kGoN σ4 (tn (σ2 0)) (tn (σ5 0)) σ9 σ10 σ11 (tn (σ8 0)) (-4) (xreg σ19 0, σ24, nI 0) (60 - tn (xreg σ19 0 25))).2.1, (kGoN σ4 (tn (σ2 0)) (tn (σ5 0)) σ9 σ10 σ11 (tn (σ8 0)) (-4) (xreg σ19 0, σ24, nI 0) (60 - tn (xreg σ19 0 25))).2.2) hM (show xlf (σ4 g) ((xspl σ19 11 (kGoN σ4 (tn (σ2 0)) (tn (σ5 0)) σ9 σ10 σ11 (tn (σ8 0)) (-4) (xreg σ19 0, σ24, nI 0) (60 - tn (xreg σ19 0 25))).1) (67 * 11 + 5 * h + g)) = if what = 0 then xreg σ19 0 (5 * h + g) else if what = 1 then xlf (σ4 g) (xreg σ19 0 (5 * h + g)) else xlf (σ4 g) ((kGoN σ4 (tn (σ2 0)) (tn (σ5 0)) σ9 σ10 σ11 (tn (σ8 0)) (-4) (xreg σ19 0, σ24, nI 0) (60 - tn (xreg σ19 0 25))).1 (5 * h + g)) from by (first | (rw [if_pos (c := what = 0) (by omega)]; exact xreg_eq (by omega)) | (rw [if_neg (c := what = 0) (by omega), if_pos (c := what = 1) (by omega)]; exact congrArg (xlf _) ((xspl_out (by omega)).trans (xreg_eq (by omega)))) | (rw [if_neg (c := what = 0) (by omega), if_neg (c := what = 1) (by omega)]; exact congrArg (xlf _) (xspl_at (by omega) (by omega))))) dX9_house_65
          · refine lv_iconst (v := nI 0) hx hb dX9_house_54 (by decide) ?_
            refine lv_goto (tgt := 60) hx hb dX9_house_55 (by decide) ?_
            refine lv_iload_n hx hb dX9_house_60 rfl (lv_at hl 1 rfl) ?_
            refine lv_iload_n hx hb dX9_house_61 rfl (lv_at hl 2 rfl) ?_
            refine x_calli (bc := [w9 q ad σ0 σ1 σ2 σ3 σ4 σ5 σ6 σ7 σ8 σ9 σ10 σ11 σ12 σ13 σ14 σ15 σ16 σ17 σ18 (xspl σ19 11 (kGoN σ4 (tn (σ2 0)) (tn (σ5 0)) σ9 σ10 σ11 (tn (σ8 0)) (-4) (xreg σ19 0, σ24, nI 0) (60 - tn (xreg σ19 0 25))).1) σ20 σ21 σ22 σ23 (kGoN σ4 (tn (σ2 0)) (tn (σ5 0)) σ9 σ10 σ11 (tn (σ8 0)) (-4) (xreg σ19 0, σ24, nI 0) (60 - tn (xreg σ19 0 25))).2.1 (kGoN σ4 (tn (σ2 0)) (tn (σ5 0)) σ9 σ10 σ11 (tn (σ8 0)) (-4) (xreg σ19 0, σ24, nI 0) (60 - tn (xreg σ19 0 25))).2.2 σ26 σ27 σ28 σ29 σ30]) (br := []) hM [0] [] rfl rfl rfl (by decide) (x_runV (As := [.int (nI 0), .int (nI h), .int (nI g)]) (rest := []) hfix (c_X9_leftIn l D q ad σ0 σ1 σ2 σ3 σ4 σ5 σ6 σ7 σ8 σ9 σ10 σ11 σ12 σ13 σ14 σ15 σ16 σ17 σ18 (xspl σ19 11 (kGoN σ4 (tn (σ2 0)) (tn (σ5 0)) σ9 σ10 σ11 (tn (σ8 0)) (-4) (xreg σ19 0, σ24, nI 0) (60 - tn (xreg σ19 0 25))).1) σ20 σ21 σ22 σ23 (kGoN σ4 (tn (σ2 0)) (tn (σ5 0)) σ9 σ10 σ11 (tn (σ8 0)) (-4) (xreg σ19 0, σ24, nI 0) (60 - tn (xreg σ19 0 25))).2.1 (kGoN σ4 (tn (σ2 0)) (tn (σ5 0)) σ9 σ10 σ11 (tn (σ8 0)) (-4) (xreg σ19 0, σ24, nI 0) (60 - tn (xreg σ19 0 25))).2.2 σ26 σ27 σ28 σ29 σ30 0 h g (by omega) (by omega) (by omega)) (cwV 3 hts gX9_house_X9_leftIn rfl rfl rfl (by decide +kernel) ⟨Nat.le_of_ble_eq_true rfl, Nat.le_of_ble_eq_true rfl⟩) hM [0] rfl rfl 0 0 rfl rfl rfl rfl rfl hl.1 rfl (Nat.le_of_ble_eq_true rfl) dX9_house_62 ⟨Nat.le_of_ble_eq_true rfl, Nat.le_of_ble_eq_true rfl⟩) (fun r u H locs hq hM => ?_)
            subst hq
            have hM : xM D (TY q) [w9 q ad σ0 σ1 σ2 σ3 σ4 σ5 σ6 σ7 σ8 σ9 σ10 σ11 σ12 σ13 σ14 σ15 σ16 σ17 σ18 (xspl σ19 11 (kGoN σ4 (tn (σ2 0)) (tn (σ5 0)) σ9 σ10 σ11 (tn (σ8 0)) (-4) (xreg σ19 0, σ24, nI 0) (60 - tn (xreg σ19 0 25))).1) σ20 σ21 σ22 σ23 (kGoN σ4 (tn (σ2 0)) (tn (σ5 0)) σ9 σ10 σ11 (tn (σ8 0)) (-4) (xreg σ19 0, σ24, nI 0) (60 - tn (xreg σ19 0 25))).2.1 (kGoN σ4 (tn (σ2 0)) (tn (σ5 0)) σ9 σ10 σ11 (tn (σ8 0)) (-4) (xreg σ19 0, σ24, nI 0) (60 - tn (xreg σ19 0 25))).2.2 σ26 σ27 σ28 σ29 σ30] A s.heap s H locs := hM
            exact x_iret hx hb hr hlocks ((kGoN σ4 (tn (σ2 0)) (tn (σ5 0)) σ9 σ10 σ11 (tn (σ8 0)) (-4) (xreg σ19 0, σ24, nI 0) (60 - tn (xreg σ19 0 25))).1, (kGoN σ4 (tn (σ2 0)) (tn (σ5 0)) σ9 σ10 σ11 (tn (σ8 0)) (-4) (xreg σ19 0, σ24, nI 0) (60 - tn (xreg σ19 0 25))).2.1, (kGoN σ4 (tn (σ2 0)) (tn (σ5 0)) σ9 σ10 σ11 (tn (σ8 0)) (-4) (xreg σ19 0, σ24, nI 0) (60 - tn (xreg σ19 0 25))).2.2) hM (show xlf (σ4 g) ((xspl σ19 11 (kGoN σ4 (tn (σ2 0)) (tn (σ5 0)) σ9 σ10 σ11 (tn (σ8 0)) (-4) (xreg σ19 0, σ24, nI 0) (60 - tn (xreg σ19 0 25))).1) (67 * 0 + 5 * h + g)) = if what = 0 then xreg σ19 0 (5 * h + g) else if what = 1 then xlf (σ4 g) (xreg σ19 0 (5 * h + g)) else xlf (σ4 g) ((kGoN σ4 (tn (σ2 0)) (tn (σ5 0)) σ9 σ10 σ11 (tn (σ8 0)) (-4) (xreg σ19 0, σ24, nI 0) (60 - tn (xreg σ19 0 25))).1 (5 * h + g)) from by (first | (rw [if_pos (c := what = 0) (by omega)]; exact xreg_eq (by omega)) | (rw [if_neg (c := what = 0) (by omega), if_pos (c := what = 1) (by omega)]; exact congrArg (xlf _) ((xspl_out (by omega)).trans (xreg_eq (by omega)))) | (rw [if_neg (c := what = 0) (by omega), if_neg (c := what = 1) (by omega)]; exact congrArg (xlf _) (xspl_at (by omega) (by omega))))) dX9_house_65
        · refine lv_aload_n hx hb dX9_house_38 rfl (lv_at hl 0 rfl) ?_
          refine lv_iconst (v := nI 0) hx hb dX9_house_39 (by decide) ?_
          refine lv_iload_n hx hb dX9_house_40 rfl (lv_at hl 1 rfl) ?_
          refine lv_iload_n hx hb dX9_house_41 rfl (lv_at hl 2 rfl) ?_
          refine x_calli (bc := [w9 q ad σ0 σ1 σ2 σ3 σ4 σ5 σ6 σ7 σ8 σ9 σ10 σ11 σ12 σ13 σ14 σ15 σ16 σ17 σ18 (xspl σ19 11 (kGoN σ4 (tn (σ2 0)) (tn (σ5 0)) σ9 σ10 σ11 (tn (σ8 0)) (-4) (xreg σ19 0, σ24, nI 0) (60 - tn (xreg σ19 0 25))).1) σ20 σ21 σ22 σ23 (kGoN σ4 (tn (σ2 0)) (tn (σ5 0)) σ9 σ10 σ11 (tn (σ8 0)) (-4) (xreg σ19 0, σ24, nI 0) (60 - tn (xreg σ19 0 25))).2.1 (kGoN σ4 (tn (σ2 0)) (tn (σ5 0)) σ9 σ10 σ11 (tn (σ8 0)) (-4) (xreg σ19 0, σ24, nI 0) (60 - tn (xreg σ19 0 25))).2.2 σ26 σ27 σ28 σ29 σ30]) (br := []) hM [0] [] rfl rfl rfl (by decide) (x_runV (As := [.int (nI 0), .int (nI h), .int (nI g)]) (rest := []) hfix (c_X9_pieces l D q ad σ0 σ1 σ2 σ3 σ4 σ5 σ6 σ7 σ8 σ9 σ10 σ11 σ12 σ13 σ14 σ15 σ16 σ17 σ18 (xspl σ19 11 (kGoN σ4 (tn (σ2 0)) (tn (σ5 0)) σ9 σ10 σ11 (tn (σ8 0)) (-4) (xreg σ19 0, σ24, nI 0) (60 - tn (xreg σ19 0 25))).1) σ20 σ21 σ22 σ23 (kGoN σ4 (tn (σ2 0)) (tn (σ5 0)) σ9 σ10 σ11 (tn (σ8 0)) (-4) (xreg σ19 0, σ24, nI 0) (60 - tn (xreg σ19 0 25))).2.1 (kGoN σ4 (tn (σ2 0)) (tn (σ5 0)) σ9 σ10 σ11 (tn (σ8 0)) (-4) (xreg σ19 0, σ24, nI 0) (60 - tn (xreg σ19 0 25))).2.2 σ26 σ27 σ28 σ29 σ30 0 h g (by omega) (by omega) (by omega)) (cwV 3 hts gX9_house_X9_pieces rfl rfl rfl (by decide +kernel) ⟨Nat.le_of_ble_eq_true rfl, Nat.le_of_ble_eq_true rfl⟩) hM [0] rfl rfl 0 0 rfl rfl rfl rfl rfl hl.1 rfl (Nat.le_of_ble_eq_true rfl) dX9_house_42 ⟨Nat.le_of_ble_eq_true rfl, Nat.le_of_ble_eq_true rfl⟩) (fun r u H locs hq hM => ?_)
          subst hq
          have hM : xM D (TY q) [w9 q ad σ0 σ1 σ2 σ3 σ4 σ5 σ6 σ7 σ8 σ9 σ10 σ11 σ12 σ13 σ14 σ15 σ16 σ17 σ18 (xspl σ19 11 (kGoN σ4 (tn (σ2 0)) (tn (σ5 0)) σ9 σ10 σ11 (tn (σ8 0)) (-4) (xreg σ19 0, σ24, nI 0) (60 - tn (xreg σ19 0 25))).1) σ20 σ21 σ22 σ23 (kGoN σ4 (tn (σ2 0)) (tn (σ5 0)) σ9 σ10 σ11 (tn (σ8 0)) (-4) (xreg σ19 0, σ24, nI 0) (60 - tn (xreg σ19 0 25))).2.1 (kGoN σ4 (tn (σ2 0)) (tn (σ5 0)) σ9 σ10 σ11 (tn (σ8 0)) (-4) (xreg σ19 0, σ24, nI 0) (60 - tn (xreg σ19 0 25))).2.2 σ26 σ27 σ28 σ29 σ30] A s.heap s H locs := hM
          refine x_cast (y := σ19 (67 * 0 + 5 * h + g)) (xspl_out (by omega)) ?_
          refine lv_goto (tgt := 65) hx hb dX9_house_45 (by decide) ?_
          exact x_iret hx hb hr hlocks ((kGoN σ4 (tn (σ2 0)) (tn (σ5 0)) σ9 σ10 σ11 (tn (σ8 0)) (-4) (xreg σ19 0, σ24, nI 0) (60 - tn (xreg σ19 0 25))).1, (kGoN σ4 (tn (σ2 0)) (tn (σ5 0)) σ9 σ10 σ11 (tn (σ8 0)) (-4) (xreg σ19 0, σ24, nI 0) (60 - tn (xreg σ19 0 25))).2.1, (kGoN σ4 (tn (σ2 0)) (tn (σ5 0)) σ9 σ10 σ11 (tn (σ8 0)) (-4) (xreg σ19 0, σ24, nI 0) (60 - tn (xreg σ19 0 25))).2.2) hM (show σ19 (67 * 0 + 5 * h + g) = if what = 0 then xreg σ19 0 (5 * h + g) else if what = 1 then xlf (σ4 g) (xreg σ19 0 (5 * h + g)) else xlf (σ4 g) ((kGoN σ4 (tn (σ2 0)) (tn (σ5 0)) σ9 σ10 σ11 (tn (σ8 0)) (-4) (xreg σ19 0, σ24, nI 0) (60 - tn (xreg σ19 0 25))).1 (5 * h + g)) from by (first | (rw [if_pos (c := what = 0) (by omega)]; exact xreg_eq (by omega)) | (rw [if_neg (c := what = 0) (by omega), if_pos (c := what = 1) (by omega)]; exact congrArg (xlf _) ((xspl_out (by omega)).trans (xreg_eq (by omega)))) | (rw [if_neg (c := what = 0) (by omega), if_neg (c := what = 1) (by omega)]; exact congrArg (xlf _) (xspl_at (by omega) (by omega))))) dX9_house_65
      · exfalso; omega

set_option maxHeartbeats 4000000 in
set_option maxRecDepth 100000 in
theorem c_X9_houseB (l : Launch) (D : va_G) (q : Nat → ClassId) (ad : Nat → Nat) (σ0 : Int32) (σ1 : Nat → Int32) (σ2 : Nat → Int32) (σ3 : Nat → Int32) (σ4 : Nat → Int32) (σ5 : Nat → Int32) (σ6 : Nat → Int32) (σ7 : Nat → Int32) (σ8 : Nat → Int32) (σ9 : Nat → Int32) (σ10 : Nat → Int32) (σ11 : Nat → Int32) (σ12 : Nat → Int32) (σ13 : Nat → Int32) (σ14 : Nat → Int32) (σ15 : Nat → Int32) (σ16 : Nat → Int32) (σ17 : Nat → Int32) (σ18 : Nat → Int32) (σ19 : Nat → Int32) (σ20 : Int32) (σ21 : Int32) (σ22 : Int32) (σ23 : Nat → Int32) (σ24 : Int32) (σ25 : Int32) (σ26 : Nat → Int32) (σ27 : Nat → Int32) (σ28 : Nat → Int32) (σ29 : Nat → Int32) (σ30 : Nat → Int32) (h : Int32) (hz : Int) (g : Int32) (gz : Int) (what : Int32) (whatz : Int) (h_hz : h.toInt = hz) (h_gz : g.toInt = gz) (h_whatz : what.toInt = whatz) (hc2 : σ2 0 = nI (tn (σ2 0)) ∧ tn (σ2 0) ≤ 5) (hc5 : σ5 0 = nI (tn (σ5 0)) ∧ tn (σ5 0) ≤ 5) (hbad : ¬ (0 ≤ hz ∧ hz < tn (σ5 0)) ∨ ¬ (0 ≤ gz ∧ gz < tn (σ2 0)) ∨ ¬ (0 ≤ whatz ∧ whatz ≤ 2)) : xC l yX9_house wsX9_house ({ frames := 5, cells := 0, slots := 0, locals := 116 }) D (TY q) [w9 q ad σ0 σ1 σ2 σ3 σ4 σ5 σ6 σ7 σ8 σ9 σ10 σ11 σ12 σ13 σ14 σ15 σ16 σ17 σ18 σ19 σ20 σ21 σ22 σ23 σ24 σ25 σ26 σ27 σ28 σ29 σ30] [.ref (ad 0), .int h, .int g, .int what] (xQi D (TY q) (fun (r : Int32) (_ : Unit) => r = (-1)) (fun _ => [w9 q ad σ0 σ1 σ2 σ3 σ4 σ5 σ6 σ7 σ8 σ9 σ10 σ11 σ12 σ13 σ14 σ15 σ16 σ17 σ18 σ19 σ20 σ21 σ22 σ23 σ24 σ25 σ26 σ27 σ28 σ29 σ30])) 0 0 := by
  refine x_enter (cc := cX9_house) (maxL := 4) (ret := (some .int)) (by decide) rfl (Nat.le_of_ble_eq_true rfl) ?_
  intro p e s m below meth c A ls H locs hfix hr hlocks hinit hM hl
  obtain ⟨hx, hb, hml, hown, hts⟩ := id hfix
  have hl : lv_has ls 4 [(0, .ref (ad 0)), (1, .int h), (2, .int g), (3, .int what)] := hl
  refine lv_aload_n hx hb dX9_house_0 rfl (lv_at hl 0 rfl) ?_
  refine lv_iload_n hx hb dX9_house_1 rfl (lv_at hl 1 rfl) ?_
  refine x_calli (bc := [w9 q ad σ0 σ1 σ2 σ3 σ4 σ5 σ6 σ7 σ8 σ9 σ10 σ11 σ12 σ13 σ14 σ15 σ16 σ17 σ18 σ19 σ20 σ21 σ22 σ23 σ24 σ25 σ26 σ27 σ28 σ29 σ30]) (br := []) hM [0] [] rfl rfl rfl (by decide) (x_runV (As := [.int h]) (rest := []) hfix (c_X9_isHouse l D q ad σ0 σ1 σ2 σ3 σ4 σ5 σ6 σ7 σ8 σ9 σ10 σ11 σ12 σ13 σ14 σ15 σ16 σ17 σ18 σ19 σ20 σ21 σ22 σ23 σ24 σ25 σ26 σ27 σ28 σ29 σ30 h hz h_hz hc5) (cwV 1 hts gX9_house_X9_isHouse rfl rfl rfl (by decide +kernel) ⟨Nat.le_of_ble_eq_true rfl, Nat.le_of_ble_eq_true rfl⟩) hM [0] rfl rfl 0 0 rfl rfl rfl rfl rfl hl.1 rfl (Nat.le_of_ble_eq_true rfl) dX9_house_2 ⟨Nat.le_of_ble_eq_true rfl, Nat.le_of_ble_eq_true rfl⟩) (fun r u H locs hq hM => ?_)
  subst hq
  have hM : xM D (TY q) [w9 q ad σ0 σ1 σ2 σ3 σ4 σ5 σ6 σ7 σ8 σ9 σ10 σ11 σ12 σ13 σ14 σ15 σ16 σ17 σ18 σ19 σ20 σ21 σ22 σ23 σ24 σ25 σ26 σ27 σ28 σ29 σ30] A s.heap s H locs := hM
  refine x_ifz_eq (P := 0 ≤ hz ∧ hz < tn (σ5 0)) (tgt := 28) hx hb dX9_house_5 (by decide) (fun c1 => ?_) (fun c1 => ?_)
  · refine lv_iconst (v := (-1)) hx hb dX9_house_28 (by decide) ?_
    exact x_iret hx hb hr hlocks () hM (show (-1) = (-1) from rfl) dX9_house_29
  · refine lv_aload_n hx hb dX9_house_8 rfl (lv_at hl 0 rfl) ?_
    refine lv_iload_n hx hb dX9_house_9 rfl (lv_at hl 2 rfl) ?_
    refine x_calli (bc := [w9 q ad σ0 σ1 σ2 σ3 σ4 σ5 σ6 σ7 σ8 σ9 σ10 σ11 σ12 σ13 σ14 σ15 σ16 σ17 σ18 σ19 σ20 σ21 σ22 σ23 σ24 σ25 σ26 σ27 σ28 σ29 σ30]) (br := []) hM [0] [] rfl rfl rfl (by decide) (x_runV (As := [.int g]) (rest := []) hfix (c_X9_isGood l D q ad σ0 σ1 σ2 σ3 σ4 σ5 σ6 σ7 σ8 σ9 σ10 σ11 σ12 σ13 σ14 σ15 σ16 σ17 σ18 σ19 σ20 σ21 σ22 σ23 σ24 σ25 σ26 σ27 σ28 σ29 σ30 g gz h_gz hc2) (cwV 1 hts gX9_house_X9_isGood rfl rfl rfl (by decide +kernel) ⟨Nat.le_of_ble_eq_true rfl, Nat.le_of_ble_eq_true rfl⟩) hM [0] rfl rfl 0 0 rfl rfl rfl rfl rfl hl.1 rfl (Nat.le_of_ble_eq_true rfl) dX9_house_10 ⟨Nat.le_of_ble_eq_true rfl, Nat.le_of_ble_eq_true rfl⟩) (fun r u H locs hq hM => ?_)
    subst hq
    have hM : xM D (TY q) [w9 q ad σ0 σ1 σ2 σ3 σ4 σ5 σ6 σ7 σ8 σ9 σ10 σ11 σ12 σ13 σ14 σ15 σ16 σ17 σ18 σ19 σ20 σ21 σ22 σ23 σ24 σ25 σ26 σ27 σ28 σ29 σ30] A s.heap s H locs := hM
    refine x_ifz_eq (P := 0 ≤ gz ∧ gz < tn (σ2 0)) (tgt := 28) hx hb dX9_house_13 (by decide) (fun c2 => ?_) (fun c2 => ?_)
    · refine lv_iconst (v := (-1)) hx hb dX9_house_28 (by decide) ?_
      exact x_iret hx hb hr hlocks () hM (show (-1) = (-1) from rfl) dX9_house_29
    · refine lv_iload_n hx hb dX9_house_16 rfl (lv_at hl 3 rfl) ?_
      refine x_i2l hx hb dX9_house_17 ?_
      refine lv_lconst (v := 0) hx hb dX9_house_18 (by decide) ?_
      refine lv_ldc2 (v := 2) hx hb hown (hts (.constantLong RX9 123 (2)) (by decide +kernel)) dX9_house_19 ?_
      refine x_calli (bc := []) (br := [w9 q ad σ0 σ1 σ2 σ3 σ4 σ5 σ6 σ7 σ8 σ9 σ10 σ11 σ12 σ13 σ14 σ15 σ16 σ17 σ18 σ19 σ20 σ21 σ22 σ23 σ24 σ25 σ26 σ27 σ28 σ29 σ30]) hM [] [0] rfl rfl rfl (by decide) (x_runS (As := [.long what.toInt64, .long (0 : Int64), .long (2 : Int64)]) (rest := []) hfix (c_X9_in l D q what.toInt64 (0 : Int64) (2 : Int64) whatz (0 : Int) (2 : Int) ((Jvm.Kit.i64_of_i32 _).trans h_whatz) (by decide) (by decide)) (va_cwS 3 hts gX9_house_X9_in rfl rfl rfl (by decide +kernel) ⟨Nat.le_of_ble_eq_true rfl, Nat.le_of_ble_eq_true rfl⟩) hM [] rfl rfl rfl hl.1 rfl (Nat.le_of_ble_eq_true rfl) dX9_house_22 ⟨Nat.le_of_ble_eq_true rfl, Nat.le_of_ble_eq_true rfl⟩) (fun r u H locs hq hM => ?_)
      subst hq
      have hM : xM D (TY q) [w9 q ad σ0 σ1 σ2 σ3 σ4 σ5 σ6 σ7 σ8 σ9 σ10 σ11 σ12 σ13 σ14 σ15 σ16 σ17 σ18 σ19 σ20 σ21 σ22 σ23 σ24 σ25 σ26 σ27 σ28 σ29 σ30] A s.heap s H locs := hM
      refine x_ifz_ne (P := (0 : Int) ≤ whatz ∧ whatz ≤ (2 : Int)) (tgt := 30) hx hb dX9_house_25 (by decide) (fun c3 => ?_) (fun c3 => ?_)
      · exfalso; omega
      · refine lv_iconst (v := (-1)) hx hb dX9_house_28 (by decide) ?_
        exact x_iret hx hb hr hlocks () hM (show (-1) = (-1) from rfl) dX9_house_29

set_option maxRecDepth 20000 in
theorem ggX9_eater_X9_in : GoodIn wsX9_eater wsX9_in := goodIn_r _ [7] (by decide +kernel) (by decide +kernel)
set_option maxRecDepth 20000 in
theorem gX9_eater_X9_in : GoodIn wsX9_eater (va_wsS RX9 104 yX9_in wsX9_in) := goodIn_app (goodIn_of _ (by decide +kernel)) ggX9_eater_X9_in
set_option maxRecDepth 20000 in
theorem ggX9_eater_X9_tryToFive : GoodIn wsX9_eater wsX9_tryToFive := goodIn_r _ [11, 12, 13, 14, 6, 15, 3, 16, 17, 18, 19, 20, 21, 22, 23, 24, 25, 26, 27, 28, 29, 1, 30, 31, 32, 33, 34, 35, 36, 37, 38, 39, 40, 41, 42, 43, 44, 45, 46, 47, 48, 49, 50, 51, 52, 53, 54, 55, 56, 57, 58, 59, 60, 61, 62, 63, 64, 65, 66, 67, 68, 69, 70, 71, 72, 73, 74, 75, 76, 77, 78, 79, 80, 81, 82, 83, 84, 85, 86, 87, 88, 89, 90, 91, 92, 93, 94, 95, 96, 97, 98, 99, 100, 101, 102] (by decide +kernel) (by decide +kernel)
set_option maxRecDepth 20000 in
theorem gX9_eater_X9_tryToFive : GoodIn wsX9_eater (wsV RX9 228 RX9 yX9_tryToFive wsX9_tryToFive) := goodIn_app (goodIn_of _ (by decide +kernel)) ggX9_eater_X9_tryToFive
theorem dX9_eater_0 : decode cX9_eater 0 = .ok (.iload_n 1, 1) := by decide +kernel
theorem dX9_eater_1 : decode cX9_eater 1 = .ok (.i2l, 1) := by decide +kernel
theorem dX9_eater_2 : decode cX9_eater 2 = .ok (.lconst 0, 1) := by decide +kernel
theorem dX9_eater_3 : decode cX9_eater 3 = .ok (.aload_n 0, 1) := by decide +kernel
theorem dX9_eater_4 : decode cX9_eater 4 = .ok (.getfield 31, 3) := by decide +kernel
theorem dX9_eater_7 : decode cX9_eater 7 = .ok (.iconst 0, 1) := by decide +kernel
theorem dX9_eater_8 : decode cX9_eater 8 = .ok (.iaload, 1) := by decide +kernel
theorem dX9_eater_9 : decode cX9_eater 9 = .ok (.iconst 1, 1) := by decide +kernel
theorem dX9_eater_10 : decode cX9_eater 10 = .ok (.isub, 1) := by decide +kernel
theorem dX9_eater_11 : decode cX9_eater 11 = .ok (.i2l, 1) := by decide +kernel
theorem dX9_eater_12 : decode cX9_eater 12 = .ok (.invokestatic 104, 3) := by decide +kernel
theorem dX9_eater_15 : decode cX9_eater 15 = .ok (.ifCond .eq 15, 3) := by decide +kernel
theorem dX9_eater_18 : decode cX9_eater 18 = .ok (.iload_n 2, 1) := by decide +kernel
theorem dX9_eater_19 : decode cX9_eater 19 = .ok (.i2l, 1) := by decide +kernel
theorem dX9_eater_20 : decode cX9_eater 20 = .ok (.lconst 0, 1) := by decide +kernel
theorem dX9_eater_21 : decode cX9_eater 21 = .ok (.ldc2_w 123, 3) := by decide +kernel
theorem dX9_eater_24 : decode cX9_eater 24 = .ok (.invokestatic 104, 3) := by decide +kernel
theorem dX9_eater_27 : decode cX9_eater 27 = .ok (.ifCond .ne 5, 3) := by decide +kernel
theorem dX9_eater_30 : decode cX9_eater 30 = .ok (.iconst (-1), 1) := by decide +kernel
theorem dX9_eater_31 : decode cX9_eater 31 = .ok (.ireturn, 1) := by decide +kernel
theorem dX9_eater_32 : decode cX9_eater 32 = .ok (.aload_n 0, 1) := by decide +kernel
theorem dX9_eater_33 : decode cX9_eater 33 = .ok (.invokevirtual 228, 3) := by decide +kernel
theorem dX9_eater_36 : decode cX9_eater 36 = .ok (.iload_n 2, 1) := by decide +kernel
theorem dX9_eater_37 : decode cX9_eater 37 = .ok (.ifCond .ne 15, 3) := by decide +kernel
theorem dX9_eater_40 : decode cX9_eater 40 = .ok (.aload_n 0, 1) := by decide +kernel
theorem dX9_eater_41 : decode cX9_eater 41 = .ok (.getfield 64, 3) := by decide +kernel
theorem dX9_eater_44 : decode cX9_eater 44 = .ok (.bipush 51, 2) := by decide +kernel
theorem dX9_eater_46 : decode cX9_eater 46 = .ok (.iload_n 1, 1) := by decide +kernel
theorem dX9_eater_47 : decode cX9_eater 47 = .ok (.iadd, 1) := by decide +kernel
theorem dX9_eater_48 : decode cX9_eater 48 = .ok (.iaload, 1) := by decide +kernel
theorem dX9_eater_49 : decode cX9_eater 49 = .ok (.goto 25, 3) := by decide +kernel
theorem dX9_eater_52 : decode cX9_eater 52 = .ok (.aload_n 0, 1) := by decide +kernel
theorem dX9_eater_53 : decode cX9_eater 53 = .ok (.getfield 64, 3) := by decide +kernel
theorem dX9_eater_56 : decode cX9_eater 56 = .ok (.iload_n 2, 1) := by decide +kernel
theorem dX9_eater_57 : decode cX9_eater 57 = .ok (.iconst 1, 1) := by decide +kernel
theorem dX9_eater_58 : decode cX9_eater 58 = .ok (.if_icmp .ne 7, 3) := by decide +kernel
theorem dX9_eater_61 : decode cX9_eater 61 = .ok (.iconst 0, 1) := by decide +kernel
theorem dX9_eater_62 : decode cX9_eater 62 = .ok (.goto 6, 3) := by decide +kernel
theorem dX9_eater_65 : decode cX9_eater 65 = .ok (.sipush 737, 3) := by decide +kernel
theorem dX9_eater_68 : decode cX9_eater 68 = .ok (.bipush 59, 2) := by decide +kernel
theorem dX9_eater_70 : decode cX9_eater 70 = .ok (.iadd, 1) := by decide +kernel
theorem dX9_eater_71 : decode cX9_eater 71 = .ok (.iload_n 1, 1) := by decide +kernel
theorem dX9_eater_72 : decode cX9_eater 72 = .ok (.iadd, 1) := by decide +kernel
theorem dX9_eater_73 : decode cX9_eater 73 = .ok (.iaload, 1) := by decide +kernel
theorem dX9_eater_74 : decode cX9_eater 74 = .ok (.ireturn, 1) := by decide +kernel
theorem lkX9_eater_31 : Cond.fieldLink RX9 31 "LeftAtFiveModel" "eaters" "[I" ∈ wsX9_eater := by decide +kernel
theorem lkX9_eater_64 : Cond.fieldLink RX9 64 "LeftAtFiveModel" "s" "[I" ∈ wsX9_eater := by decide +kernel
theorem iwX9_eater_X9 : ∀ w ∈ wsX90, w ∈ wsX9_eater := by decide +kernel
set_option maxHeartbeats 4000000 in
set_option maxRecDepth 100000 in
theorem c_X9_eater (l : Launch) (D : va_G) (q : Nat → ClassId) (ad : Nat → Nat) (σ0 : Int32) (σ1 : Nat → Int32) (σ2 : Nat → Int32) (σ3 : Nat → Int32) (σ4 : Nat → Int32) (σ5 : Nat → Int32) (σ6 : Nat → Int32) (σ7 : Nat → Int32) (σ8 : Nat → Int32) (σ9 : Nat → Int32) (σ10 : Nat → Int32) (σ11 : Nat → Int32) (σ12 : Nat → Int32) (σ13 : Nat → Int32) (σ14 : Nat → Int32) (σ15 : Nat → Int32) (σ16 : Nat → Int32) (σ17 : Nat → Int32) (σ18 : Nat → Int32) (σ19 : Nat → Int32) (σ20 : Int32) (σ21 : Int32) (σ22 : Int32) (σ23 : Nat → Int32) (σ24 : Int32) (σ25 : Int32) (σ26 : Nat → Int32) (σ27 : Nat → Int32) (σ28 : Nat → Int32) (σ29 : Nat → Int32) (σ30 : Nat → Int32) (i : Nat) (what : Nat) (hi0 : i < tn (σ8 0)) (hwh : what ≤ 2) (hc2 : σ2 0 = nI (tn (σ2 0)) ∧ tn (σ2 0) ≤ 5) (hc5 : σ5 0 = nI (tn (σ5 0)) ∧ tn (σ5 0) ≤ 5) (hc8 : σ8 0 = nI (tn (σ8 0)) ∧ tn (σ8 0) ≤ 8) (hE : okE σ9 σ10 σ11 (tn (σ8 0))) (hK0 : okK (xreg σ19 0)) : xC l yX9_eater wsX9_eater ({ frames := 5, cells := 0, slots := 0, locals := 116 }) D (TY q) [w9 q ad σ0 σ1 σ2 σ3 σ4 σ5 σ6 σ7 σ8 σ9 σ10 σ11 σ12 σ13 σ14 σ15 σ16 σ17 σ18 σ19 σ20 σ21 σ22 σ23 σ24 σ25 σ26 σ27 σ28 σ29 σ30] [.ref (ad 0), .int (nI i), .int (nI what)] (xQi D (TY q) (fun (r : Int32) (_ : (Nat → Int32) × Int32 × Int32) => r = if what = 0 then xreg σ19 0 (51 + i) else if what = 1 then xreg σ19 0 (59 + i) else (kGoN σ4 (tn (σ2 0)) (tn (σ5 0)) σ9 σ10 σ11 (tn (σ8 0)) (-4) (xreg σ19 0, σ24, nI 0) (60 - tn (xreg σ19 0 25))).1 (59 + i)) (fun (u : (Nat → Int32) × Int32 × Int32) => [w9 q ad σ0 σ1 σ2 σ3 σ4 σ5 σ6 σ7 σ8 σ9 σ10 σ11 σ12 σ13 σ14 σ15 σ16 σ17 σ18 (xspl σ19 11 u.1) σ20 σ21 σ22 σ23 u.2.1 u.2.2 σ26 σ27 σ28 σ29 σ30])) 0 0 := by
  refine x_enter (cc := cX9_eater) (maxL := 3) (ret := (some .int)) (by decide) rfl (Nat.le_of_ble_eq_true rfl) ?_
  intro p e s m below meth c A ls H locs hfix hr hlocks hinit hM hl
  obtain ⟨hx, hb, hml, hown, hts⟩ := id hfix
  have hl : lv_has ls 3 [(0, .ref (ad 0)), (1, .int (nI i)), (2, .int (nI what))] := hl
  have hc2b := hc2.2
  have hc5b := hc5.2
  have hc8b := hc8.2
  have hT0 := hK0.1.2
  have hW0 := hK0.2.1.2
  refine lv_iload_n hx hb dX9_eater_0 rfl (lv_at hl 1 rfl) ?_
  refine x_i2l hx hb dX9_eater_1 ?_
  refine lv_lconst (v := 0) hx hb dX9_eater_2 (by decide) ?_
  refine lv_aload_n hx hb dX9_eater_3 rfl (lv_at hl 0 rfl) ?_
  refine x_get hx hb hts iwX9_eater_X9 hown hM 0 0 rfl rfl rfl 8 (by decide) (hts _ lkX9_eater_31) (fun _ h => h) rfl dX9_eater_4 ?_
  refine lv_iconst (v := nI 0) hx hb dX9_eater_7 (by decide) ?_
  refine x_iald hx hb hM 0 8 0 (f := σ8) rfl rfl rfl (t := 0) (by omega) (by decide) dX9_eater_8 ?_
  refine x_cast (y := nI (tn (σ8 0))) hc8.1 ?_
  refine lv_iconst (v := nI 1) hx hb dX9_eater_9 (by decide) ?_
  refine lv_isub hx hb dX9_eater_10 ?_
  refine x_i2l hx hb dX9_eater_11 ?_
  refine x_calli (bc := []) (br := [w9 q ad σ0 σ1 σ2 σ3 σ4 σ5 σ6 σ7 σ8 σ9 σ10 σ11 σ12 σ13 σ14 σ15 σ16 σ17 σ18 σ19 σ20 σ21 σ22 σ23 σ24 σ25 σ26 σ27 σ28 σ29 σ30]) hM [] [0] rfl rfl rfl (by decide) (x_runS (As := [.long ((nI i).toInt64), .long (0 : Int64), .long (((nI (tn (σ8 0))) - (nI 1)).toInt64)]) (rest := []) hfix (c_X9_in l D q ((nI i).toInt64) (0 : Int64) (((nI (tn (σ8 0))) - (nI 1)).toInt64) ((i : Nat) : Int) (0 : Int) (((tn (σ8 0) : Nat) : Int) - ((1 : Nat) : Int)) ((Jvm.Kit.i64_of_i32 _).trans (nI_toInt (n := i) (by omega))) (by decide) ((Jvm.Kit.i64_of_i32 _).trans (pk_sub_toInt (a := tn (σ8 0)) (b := 1) (by omega) (by omega)))) (va_cwS 3 hts gX9_eater_X9_in rfl rfl rfl (by decide +kernel) ⟨Nat.le_of_ble_eq_true rfl, Nat.le_of_ble_eq_true rfl⟩) hM [] rfl rfl rfl hl.1 rfl (Nat.le_of_ble_eq_true rfl) dX9_eater_12 ⟨Nat.le_of_ble_eq_true rfl, Nat.le_of_ble_eq_true rfl⟩) (fun r u H locs hq hM => ?_)
  subst hq
  have hM : xM D (TY q) [w9 q ad σ0 σ1 σ2 σ3 σ4 σ5 σ6 σ7 σ8 σ9 σ10 σ11 σ12 σ13 σ14 σ15 σ16 σ17 σ18 σ19 σ20 σ21 σ22 σ23 σ24 σ25 σ26 σ27 σ28 σ29 σ30] A s.heap s H locs := hM
  refine x_ifz_eq (P := (0 : Int) ≤ ((i : Nat) : Int) ∧ ((i : Nat) : Int) ≤ (((tn (σ8 0) : Nat) : Int) - ((1 : Nat) : Int))) (tgt := 30) hx hb dX9_eater_15 (by decide) (fun c1 => ?_) (fun c1 => ?_)
  · exfalso; omega
  · refine lv_iload_n hx hb dX9_eater_18 rfl (lv_at hl 2 rfl) ?_
    refine x_i2l hx hb dX9_eater_19 ?_
    refine lv_lconst (v := 0) hx hb dX9_eater_20 (by decide) ?_
    refine lv_ldc2 (v := 2) hx hb hown (hts (.constantLong RX9 123 (2)) (by decide +kernel)) dX9_eater_21 ?_
    refine x_calli (bc := []) (br := [w9 q ad σ0 σ1 σ2 σ3 σ4 σ5 σ6 σ7 σ8 σ9 σ10 σ11 σ12 σ13 σ14 σ15 σ16 σ17 σ18 σ19 σ20 σ21 σ22 σ23 σ24 σ25 σ26 σ27 σ28 σ29 σ30]) hM [] [0] rfl rfl rfl (by decide) (x_runS (As := [.long ((nI what).toInt64), .long (0 : Int64), .long (2 : Int64)]) (rest := []) hfix (c_X9_in l D q ((nI what).toInt64) (0 : Int64) (2 : Int64) ((what : Nat) : Int) (0 : Int) (2 : Int) ((Jvm.Kit.i64_of_i32 _).trans (nI_toInt (n := what) (by omega))) (by decide) (by decide)) (va_cwS 3 hts gX9_eater_X9_in rfl rfl rfl (by decide +kernel) ⟨Nat.le_of_ble_eq_true rfl, Nat.le_of_ble_eq_true rfl⟩) hM [] rfl rfl rfl hl.1 rfl (Nat.le_of_ble_eq_true rfl) dX9_eater_24 ⟨Nat.le_of_ble_eq_true rfl, Nat.le_of_ble_eq_true rfl⟩) (fun r u H locs hq hM => ?_)
    subst hq
    have hM : xM D (TY q) [w9 q ad σ0 σ1 σ2 σ3 σ4 σ5 σ6 σ7 σ8 σ9 σ10 σ11 σ12 σ13 σ14 σ15 σ16 σ17 σ18 σ19 σ20 σ21 σ22 σ23 σ24 σ25 σ26 σ27 σ28 σ29 σ30] A s.heap s H locs := hM
    refine x_ifz_ne (P := (0 : Int) ≤ ((what : Nat) : Int) ∧ ((what : Nat) : Int) ≤ (2 : Int)) (tgt := 32) hx hb dX9_eater_27 (by decide) (fun c2 => ?_) (fun c2 => ?_)
    · refine lv_aload_n hx hb dX9_eater_32 rfl (lv_at hl 0 rfl) ?_
      refine x_callv (bc := [w9 q ad σ0 σ1 σ2 σ3 σ4 σ5 σ6 σ7 σ8 σ9 σ10 σ11 σ12 σ13 σ14 σ15 σ16 σ17 σ18 σ19 σ20 σ21 σ22 σ23 σ24 σ25 σ26 σ27 σ28 σ29 σ30]) (br := []) hM [0] [] rfl rfl rfl (by decide) (x_runV (As := []) (rest := []) hfix (c_X9_tryToFive l D q ad σ0 σ1 σ2 σ3 σ4 σ5 σ6 σ7 σ8 σ9 σ10 σ11 σ12 σ13 σ14 σ15 σ16 σ17 σ18 σ19 σ20 σ21 σ22 σ23 σ24 σ25 σ26 σ27 σ28 σ29 σ30 hc2 hc5 hc8 hE hK0) (cwV 0 hts gX9_eater_X9_tryToFive rfl rfl rfl (by decide +kernel) ⟨Nat.le_of_ble_eq_true rfl, Nat.le_of_ble_eq_true rfl⟩) hM [0] rfl rfl 0 0 rfl rfl rfl rfl rfl hl.1 rfl (Nat.le_of_ble_eq_true rfl) dX9_eater_33 ⟨Nat.le_of_ble_eq_true rfl, Nat.le_of_ble_eq_true rfl⟩) (fun u H locs hq hM => ?_)
      have hM : xM D (TY q) [w9 q ad σ0 σ1 σ2 σ3 σ4 σ5 σ6 σ7 σ8 σ9 σ10 σ11 σ12 σ13 σ14 σ15 σ16 σ17 σ18 (xspl σ19 11 (kGoN σ4 (tn (σ2 0)) (tn (σ5 0)) σ9 σ10 σ11 (tn (σ8 0)) (-4) (xreg σ19 0, σ24, nI 0) (60 - tn (xreg σ19 0 25))).1) σ20 σ21 σ22 σ23 (kGoN σ4 (tn (σ2 0)) (tn (σ5 0)) σ9 σ10 σ11 (tn (σ8 0)) (-4) (xreg σ19 0, σ24, nI 0) (60 - tn (xreg σ19 0 25))).2.1 (kGoN σ4 (tn (σ2 0)) (tn (σ5 0)) σ9 σ10 σ11 (tn (σ8 0)) (-4) (xreg σ19 0, σ24, nI 0) (60 - tn (xreg σ19 0 25))).2.2 σ26 σ27 σ28 σ29 σ30] A s.heap s H locs := hM
      refine lv_iload_n hx hb dX9_eater_36 rfl (lv_at hl 2 rfl) ?_
      refine x_if_ne (x := what) (tgt := 52) hx hb (by omega) dX9_eater_37 (by decide) (fun c3 => ?_) (fun c3 => ?_)
      · refine lv_aload_n hx hb dX9_eater_52 rfl (lv_at hl 0 rfl) ?_
        refine x_get hx hb hts iwX9_eater_X9 hown hM 0 0 rfl rfl rfl 19 (by decide) (hts _ lkX9_eater_64) (fun _ h => h) rfl dX9_eater_53 ?_
        refine lv_iload_n hx hb dX9_eater_56 rfl (lv_at hl 2 rfl) ?_
        refine lv_iconst (v := nI 1) hx hb dX9_eater_57 (by decide) ?_
        refine x_icmp_ne (x := what) (y := 1) (tgt := 65) hx hb (by omega) (by omega) dX9_eater_58 (by decide) (fun c4 => ?_) (fun c4 => ?_)
        · refine lv_sipush (v := nI 737) hx hb dX9_eater_65 (by decide) ?_
          refine lv_bipush (v := nI 59) hx hb dX9_eater_68 (by decide) ?_
          refine x_iadd (x := 737) (y := 59) hx hb dX9_eater_70 ?_
          refine lv_iload_n hx hb dX9_eater_71 rfl (lv_at hl 1 rfl) ?_
          refine x_iadd (x := 737 + 59) (y := i) hx hb dX9_eater_72 ?_
          refine x_iald hx hb hM 0 19 0 (f := xspl σ19 11 (kGoN σ4 (tn (σ2 0)) (tn (σ5 0)) σ9 σ10 σ11 (tn (σ8 0)) (-4) (xreg σ19 0, σ24, nI 0) (60 - tn (xreg σ19 0 25))).1) rfl rfl rfl (t := 737 + 59 + i) (by omega) (by decide) dX9_eater_73 ?_
          refine x_cast (y := (kGoN σ4 (tn (σ2 0)) (tn (σ5 0)) σ9 σ10 σ11 (tn (σ8 0)) (-4) (xreg σ19 0, σ24, nI 0) (60 - tn (xreg σ19 0 25))).1 (59 + i)) (xspl_at (j := 59 + i) (by omega) (by omega)) ?_
          exact x_iret hx hb hr hlocks ((kGoN σ4 (tn (σ2 0)) (tn (σ5 0)) σ9 σ10 σ11 (tn (σ8 0)) (-4) (xreg σ19 0, σ24, nI 0) (60 - tn (xreg σ19 0 25))).1, (kGoN σ4 (tn (σ2 0)) (tn (σ5 0)) σ9 σ10 σ11 (tn (σ8 0)) (-4) (xreg σ19 0, σ24, nI 0) (60 - tn (xreg σ19 0 25))).2.1, (kGoN σ4 (tn (σ2 0)) (tn (σ5 0)) σ9 σ10 σ11 (tn (σ8 0)) (-4) (xreg σ19 0, σ24, nI 0) (60 - tn (xreg σ19 0 25))).2.2) hM (show (kGoN σ4 (tn (σ2 0)) (tn (σ5 0)) σ9 σ10 σ11 (tn (σ8 0)) (-4) (xreg σ19 0, σ24, nI 0) (60 - tn (xreg σ19 0 25))).1 (59 + i) = if what = 0 then xreg σ19 0 (51 + i) else if what = 1 then xreg σ19 0 (59 + i) else (kGoN σ4 (tn (σ2 0)) (tn (σ5 0)) σ9 σ10 σ11 (tn (σ8 0)) (-4) (xreg σ19 0, σ24, nI 0) (60 - tn (xreg σ19 0 25))).1 (59 + i) from by (first | (rw [if_pos (c := what = 0) (by omega)]; exact xreg_eq (by omega)) | (rw [if_neg (c := what = 0) (by omega), if_pos (c := what = 1) (by omega)]; exact xreg_eq (by omega)) | (rw [if_neg (c := what = 0) (by omega), if_neg (c := what = 1) (by omega)]))) dX9_eater_74
        · refine lv_iconst (v := nI 0) hx hb dX9_eater_61 (by decide) ?_
          refine lv_goto (tgt := 68) hx hb dX9_eater_62 (by decide) ?_
          refine lv_bipush (v := nI 59) hx hb dX9_eater_68 (by decide) ?_
          refine x_iadd (x := 0) (y := 59) hx hb dX9_eater_70 ?_
          refine lv_iload_n hx hb dX9_eater_71 rfl (lv_at hl 1 rfl) ?_
          refine x_iadd (x := 0 + 59) (y := i) hx hb dX9_eater_72 ?_
          refine x_iald hx hb hM 0 19 0 (f := xspl σ19 11 (kGoN σ4 (tn (σ2 0)) (tn (σ5 0)) σ9 σ10 σ11 (tn (σ8 0)) (-4) (xreg σ19 0, σ24, nI 0) (60 - tn (xreg σ19 0 25))).1) rfl rfl rfl (t := 0 + 59 + i) (by omega) (by decide) dX9_eater_73 ?_
          refine x_cast (y := σ19 (0 + 59 + i)) (xspl_out (by omega)) ?_
          exact x_iret hx hb hr hlocks ((kGoN σ4 (tn (σ2 0)) (tn (σ5 0)) σ9 σ10 σ11 (tn (σ8 0)) (-4) (xreg σ19 0, σ24, nI 0) (60 - tn (xreg σ19 0 25))).1, (kGoN σ4 (tn (σ2 0)) (tn (σ5 0)) σ9 σ10 σ11 (tn (σ8 0)) (-4) (xreg σ19 0, σ24, nI 0) (60 - tn (xreg σ19 0 25))).2.1, (kGoN σ4 (tn (σ2 0)) (tn (σ5 0)) σ9 σ10 σ11 (tn (σ8 0)) (-4) (xreg σ19 0, σ24, nI 0) (60 - tn (xreg σ19 0 25))).2.2) hM (show σ19 (0 + 59 + i) = if what = 0 then xreg σ19 0 (51 + i) else if what = 1 then xreg σ19 0 (59 + i) else (kGoN σ4 (tn (σ2 0)) (tn (σ5 0)) σ9 σ10 σ11 (tn (σ8 0)) (-4) (xreg σ19 0, σ24, nI 0) (60 - tn (xreg σ19 0 25))).1 (59 + i) from by (first | (rw [if_pos (c := what = 0) (by omega)]; exact xreg_eq (by omega)) | (rw [if_neg (c := what = 0) (by omega), if_pos (c := what = 1) (by omega)]; exact xreg_eq (by omega)) | (rw [if_neg (c := what = 0) (by omega), if_neg (c := what = 1) (by omega)]))) dX9_eater_74
      · refine lv_aload_n hx hb dX9_eater_40 rfl (lv_at hl 0 rfl) ?_
        refine x_get hx hb hts iwX9_eater_X9 hown hM 0 0 rfl rfl rfl 19 (by decide) (hts _ lkX9_eater_64) (fun _ h => h) rfl dX9_eater_41 ?_
        refine lv_bipush (v := nI 51) hx hb dX9_eater_44 (by decide) ?_
        refine lv_iload_n hx hb dX9_eater_46 rfl (lv_at hl 1 rfl) ?_
        refine x_iadd (x := 51) (y := i) hx hb dX9_eater_47 ?_
        refine x_iald hx hb hM 0 19 0 (f := xspl σ19 11 (kGoN σ4 (tn (σ2 0)) (tn (σ5 0)) σ9 σ10 σ11 (tn (σ8 0)) (-4) (xreg σ19 0, σ24, nI 0) (60 - tn (xreg σ19 0 25))).1) rfl rfl rfl (t := 51 + i) (by omega) (by decide) dX9_eater_48 ?_
        refine x_cast (y := σ19 (51 + i)) (xspl_out (by omega)) ?_
        refine lv_goto (tgt := 74) hx hb dX9_eater_49 (by decide) ?_
        exact x_iret hx hb hr hlocks ((kGoN σ4 (tn (σ2 0)) (tn (σ5 0)) σ9 σ10 σ11 (tn (σ8 0)) (-4) (xreg σ19 0, σ24, nI 0) (60 - tn (xreg σ19 0 25))).1, (kGoN σ4 (tn (σ2 0)) (tn (σ5 0)) σ9 σ10 σ11 (tn (σ8 0)) (-4) (xreg σ19 0, σ24, nI 0) (60 - tn (xreg σ19 0 25))).2.1, (kGoN σ4 (tn (σ2 0)) (tn (σ5 0)) σ9 σ10 σ11 (tn (σ8 0)) (-4) (xreg σ19 0, σ24, nI 0) (60 - tn (xreg σ19 0 25))).2.2) hM (show σ19 (51 + i) = if what = 0 then xreg σ19 0 (51 + i) else if what = 1 then xreg σ19 0 (59 + i) else (kGoN σ4 (tn (σ2 0)) (tn (σ5 0)) σ9 σ10 σ11 (tn (σ8 0)) (-4) (xreg σ19 0, σ24, nI 0) (60 - tn (xreg σ19 0 25))).1 (59 + i) from by (first | (rw [if_pos (c := what = 0) (by omega)]; exact xreg_eq (by omega)) | (rw [if_neg (c := what = 0) (by omega), if_pos (c := what = 1) (by omega)]; exact xreg_eq (by omega)) | (rw [if_neg (c := what = 0) (by omega), if_neg (c := what = 1) (by omega)]))) dX9_eater_74
    · exfalso; omega

set_option maxHeartbeats 4000000 in
set_option maxRecDepth 100000 in
theorem c_X9_eaterB (l : Launch) (D : va_G) (q : Nat → ClassId) (ad : Nat → Nat) (σ0 : Int32) (σ1 : Nat → Int32) (σ2 : Nat → Int32) (σ3 : Nat → Int32) (σ4 : Nat → Int32) (σ5 : Nat → Int32) (σ6 : Nat → Int32) (σ7 : Nat → Int32) (σ8 : Nat → Int32) (σ9 : Nat → Int32) (σ10 : Nat → Int32) (σ11 : Nat → Int32) (σ12 : Nat → Int32) (σ13 : Nat → Int32) (σ14 : Nat → Int32) (σ15 : Nat → Int32) (σ16 : Nat → Int32) (σ17 : Nat → Int32) (σ18 : Nat → Int32) (σ19 : Nat → Int32) (σ20 : Int32) (σ21 : Int32) (σ22 : Int32) (σ23 : Nat → Int32) (σ24 : Int32) (σ25 : Int32) (σ26 : Nat → Int32) (σ27 : Nat → Int32) (σ28 : Nat → Int32) (σ29 : Nat → Int32) (σ30 : Nat → Int32) (i : Int32) (iz : Int) (what : Int32) (whatz : Int) (h_iz : i.toInt = iz) (h_whatz : what.toInt = whatz) (hc8 : σ8 0 = nI (tn (σ8 0)) ∧ tn (σ8 0) ≤ 8) (hbad : ¬ (0 ≤ iz ∧ iz < tn (σ8 0)) ∨ ¬ (0 ≤ whatz ∧ whatz ≤ 2)) : xC l yX9_eater wsX9_eater ({ frames := 5, cells := 0, slots := 0, locals := 116 }) D (TY q) [w9 q ad σ0 σ1 σ2 σ3 σ4 σ5 σ6 σ7 σ8 σ9 σ10 σ11 σ12 σ13 σ14 σ15 σ16 σ17 σ18 σ19 σ20 σ21 σ22 σ23 σ24 σ25 σ26 σ27 σ28 σ29 σ30] [.ref (ad 0), .int i, .int what] (xQi D (TY q) (fun (r : Int32) (_ : Unit) => r = (-1)) (fun _ => [w9 q ad σ0 σ1 σ2 σ3 σ4 σ5 σ6 σ7 σ8 σ9 σ10 σ11 σ12 σ13 σ14 σ15 σ16 σ17 σ18 σ19 σ20 σ21 σ22 σ23 σ24 σ25 σ26 σ27 σ28 σ29 σ30])) 0 0 := by
  refine x_enter (cc := cX9_eater) (maxL := 3) (ret := (some .int)) (by decide) rfl (Nat.le_of_ble_eq_true rfl) ?_
  intro p e s m below meth c A ls H locs hfix hr hlocks hinit hM hl
  obtain ⟨hx, hb, hml, hown, hts⟩ := id hfix
  have hl : lv_has ls 3 [(0, .ref (ad 0)), (1, .int i), (2, .int what)] := hl
  refine lv_iload_n hx hb dX9_eater_0 rfl (lv_at hl 1 rfl) ?_
  refine x_i2l hx hb dX9_eater_1 ?_
  refine lv_lconst (v := 0) hx hb dX9_eater_2 (by decide) ?_
  refine lv_aload_n hx hb dX9_eater_3 rfl (lv_at hl 0 rfl) ?_
  refine x_get hx hb hts iwX9_eater_X9 hown hM 0 0 rfl rfl rfl 8 (by decide) (hts _ lkX9_eater_31) (fun _ h => h) rfl dX9_eater_4 ?_
  refine lv_iconst (v := nI 0) hx hb dX9_eater_7 (by decide) ?_
  refine x_iald hx hb hM 0 8 0 (f := σ8) rfl rfl rfl (t := 0) (by omega) (by decide) dX9_eater_8 ?_
  refine x_cast (y := nI (tn (σ8 0))) hc8.1 ?_
  refine lv_iconst (v := nI 1) hx hb dX9_eater_9 (by decide) ?_
  refine lv_isub hx hb dX9_eater_10 ?_
  refine x_i2l hx hb dX9_eater_11 ?_
  refine x_calli (bc := []) (br := [w9 q ad σ0 σ1 σ2 σ3 σ4 σ5 σ6 σ7 σ8 σ9 σ10 σ11 σ12 σ13 σ14 σ15 σ16 σ17 σ18 σ19 σ20 σ21 σ22 σ23 σ24 σ25 σ26 σ27 σ28 σ29 σ30]) hM [] [0] rfl rfl rfl (by decide) (x_runS (As := [.long i.toInt64, .long (0 : Int64), .long (((nI (tn (σ8 0))) - (nI 1)).toInt64)]) (rest := []) hfix (c_X9_in l D q i.toInt64 (0 : Int64) (((nI (tn (σ8 0))) - (nI 1)).toInt64) iz (0 : Int) (((tn (σ8 0) : Nat) : Int) - ((1 : Nat) : Int)) ((Jvm.Kit.i64_of_i32 _).trans h_iz) (by decide) ((Jvm.Kit.i64_of_i32 _).trans (pk_sub_toInt (a := tn (σ8 0)) (b := 1) (by omega) (by omega)))) (va_cwS 3 hts gX9_eater_X9_in rfl rfl rfl (by decide +kernel) ⟨Nat.le_of_ble_eq_true rfl, Nat.le_of_ble_eq_true rfl⟩) hM [] rfl rfl rfl hl.1 rfl (Nat.le_of_ble_eq_true rfl) dX9_eater_12 ⟨Nat.le_of_ble_eq_true rfl, Nat.le_of_ble_eq_true rfl⟩) (fun r u H locs hq hM => ?_)
  subst hq
  have hM : xM D (TY q) [w9 q ad σ0 σ1 σ2 σ3 σ4 σ5 σ6 σ7 σ8 σ9 σ10 σ11 σ12 σ13 σ14 σ15 σ16 σ17 σ18 σ19 σ20 σ21 σ22 σ23 σ24 σ25 σ26 σ27 σ28 σ29 σ30] A s.heap s H locs := hM
  refine x_ifz_eq (P := (0 : Int) ≤ iz ∧ iz ≤ (((tn (σ8 0) : Nat) : Int) - ((1 : Nat) : Int))) (tgt := 30) hx hb dX9_eater_15 (by decide) (fun c1 => ?_) (fun c1 => ?_)
  · refine lv_iconst (v := (-1)) hx hb dX9_eater_30 (by decide) ?_
    exact x_iret hx hb hr hlocks () hM (show (-1) = (-1) from rfl) dX9_eater_31
  · refine lv_iload_n hx hb dX9_eater_18 rfl (lv_at hl 2 rfl) ?_
    refine x_i2l hx hb dX9_eater_19 ?_
    refine lv_lconst (v := 0) hx hb dX9_eater_20 (by decide) ?_
    refine lv_ldc2 (v := 2) hx hb hown (hts (.constantLong RX9 123 (2)) (by decide +kernel)) dX9_eater_21 ?_
    refine x_calli (bc := []) (br := [w9 q ad σ0 σ1 σ2 σ3 σ4 σ5 σ6 σ7 σ8 σ9 σ10 σ11 σ12 σ13 σ14 σ15 σ16 σ17 σ18 σ19 σ20 σ21 σ22 σ23 σ24 σ25 σ26 σ27 σ28 σ29 σ30]) hM [] [0] rfl rfl rfl (by decide) (x_runS (As := [.long what.toInt64, .long (0 : Int64), .long (2 : Int64)]) (rest := []) hfix (c_X9_in l D q what.toInt64 (0 : Int64) (2 : Int64) whatz (0 : Int) (2 : Int) ((Jvm.Kit.i64_of_i32 _).trans h_whatz) (by decide) (by decide)) (va_cwS 3 hts gX9_eater_X9_in rfl rfl rfl (by decide +kernel) ⟨Nat.le_of_ble_eq_true rfl, Nat.le_of_ble_eq_true rfl⟩) hM [] rfl rfl rfl hl.1 rfl (Nat.le_of_ble_eq_true rfl) dX9_eater_24 ⟨Nat.le_of_ble_eq_true rfl, Nat.le_of_ble_eq_true rfl⟩) (fun r u H locs hq hM => ?_)
    subst hq
    have hM : xM D (TY q) [w9 q ad σ0 σ1 σ2 σ3 σ4 σ5 σ6 σ7 σ8 σ9 σ10 σ11 σ12 σ13 σ14 σ15 σ16 σ17 σ18 σ19 σ20 σ21 σ22 σ23 σ24 σ25 σ26 σ27 σ28 σ29 σ30] A s.heap s H locs := hM
    refine x_ifz_ne (P := (0 : Int) ≤ whatz ∧ whatz ≤ (2 : Int)) (tgt := 32) hx hb dX9_eater_27 (by decide) (fun c2 => ?_) (fun c2 => ?_)
    · exfalso; omega
    · refine lv_iconst (v := (-1)) hx hb dX9_eater_30 (by decide) ?_
      exact x_iret hx hb hr hlocks () hM (show (-1) = (-1) from rfl) dX9_eater_31

set_option maxRecDepth 20000 in
theorem ggX9_way_X9_giftsOf : GoodIn wsX9_way wsX9_giftsOf := goodIn_r _ [7, 2, 15, 16, 17, 18, 19, 20, 21, 22, 23, 24, 25, 26, 27, 28, 29, 30, 31, 32, 33, 34, 35, 36, 37, 38, 39, 40, 41, 42, 43, 44, 45] (by decide +kernel) (by decide +kernel)
set_option maxRecDepth 20000 in
theorem gX9_way_X9_giftsOf : GoodIn wsX9_way (wsV RX9 159 RX9 yX9_giftsOf wsX9_giftsOf) := goodIn_app (goodIn_of _ (by decide +kernel)) ggX9_way_X9_giftsOf
set_option maxRecDepth 20000 in
theorem ggX9_way_X9_in : GoodIn wsX9_way wsX9_in := goodIn_r _ [10] (by decide +kernel) (by decide +kernel)
set_option maxRecDepth 20000 in
theorem gX9_way_X9_in : GoodIn wsX9_way (va_wsS RX9 104 yX9_in wsX9_in) := goodIn_app (goodIn_of _ (by decide +kernel)) ggX9_way_X9_in
set_option maxRecDepth 20000 in
theorem ggX9_way_X9_giftAt : GoodIn wsX9_way wsX9_giftAt := goodIn_r _ [14] (by decide +kernel) (by decide +kernel)
set_option maxRecDepth 20000 in
theorem gX9_way_X9_giftAt : GoodIn wsX9_way (wsV RX9 162 RX9 yX9_giftAt wsX9_giftAt) := goodIn_app (goodIn_of _ (by decide +kernel)) ggX9_way_X9_giftAt
theorem dX9_way_0 : decode cX9_way 0 = .ok (.iload_n 1, 1) := by decide +kernel
theorem dX9_way_1 : decode cX9_way 1 = .ok (.i2l, 1) := by decide +kernel
theorem dX9_way_2 : decode cX9_way 2 = .ok (.lconst 0, 1) := by decide +kernel
theorem dX9_way_3 : decode cX9_way 3 = .ok (.aload_n 0, 1) := by decide +kernel
theorem dX9_way_4 : decode cX9_way 4 = .ok (.iconst 0, 1) := by decide +kernel
theorem dX9_way_5 : decode cX9_way 5 = .ok (.invokevirtual 159, 3) := by decide +kernel
theorem dX9_way_8 : decode cX9_way 8 = .ok (.iconst 1, 1) := by decide +kernel
theorem dX9_way_9 : decode cX9_way 9 = .ok (.isub, 1) := by decide +kernel
theorem dX9_way_10 : decode cX9_way 10 = .ok (.i2l, 1) := by decide +kernel
theorem dX9_way_11 : decode cX9_way 11 = .ok (.invokestatic 104, 3) := by decide +kernel
theorem dX9_way_14 : decode cX9_way 14 = .ok (.ifCond .eq 31, 3) := by decide +kernel
theorem dX9_way_17 : decode cX9_way 17 = .ok (.iload_n 2, 1) := by decide +kernel
theorem dX9_way_18 : decode cX9_way 18 = .ok (.i2l, 1) := by decide +kernel
theorem dX9_way_19 : decode cX9_way 19 = .ok (.lconst 0, 1) := by decide +kernel
theorem dX9_way_20 : decode cX9_way 20 = .ok (.ldc2_w 231, 3) := by decide +kernel
theorem dX9_way_23 : decode cX9_way 23 = .ok (.invokestatic 104, 3) := by decide +kernel
theorem dX9_way_26 : decode cX9_way 26 = .ok (.ifCond .eq 19, 3) := by decide +kernel
theorem dX9_way_29 : decode cX9_way 29 = .ok (.aload_n 0, 1) := by decide +kernel
theorem dX9_way_30 : decode cX9_way 30 = .ok (.getfield 64, 3) := by decide +kernel
theorem dX9_way_33 : decode cX9_way 33 = .ok (.aload_n 0, 1) := by decide +kernel
theorem dX9_way_34 : decode cX9_way 34 = .ok (.iconst 0, 1) := by decide +kernel
theorem dX9_way_35 : decode cX9_way 35 = .ok (.iload_n 1, 1) := by decide +kernel
theorem dX9_way_36 : decode cX9_way 36 = .ok (.invokevirtual 162, 3) := by decide +kernel
theorem dX9_way_39 : decode cX9_way 39 = .ok (.iload_n 2, 1) := by decide +kernel
theorem dX9_way_40 : decode cX9_way 40 = .ok (.iadd, 1) := by decide +kernel
theorem dX9_way_41 : decode cX9_way 41 = .ok (.iaload, 1) := by decide +kernel
theorem dX9_way_42 : decode cX9_way 42 = .ok (.goto 4, 3) := by decide +kernel
theorem dX9_way_45 : decode cX9_way 45 = .ok (.iconst (-1), 1) := by decide +kernel
theorem dX9_way_46 : decode cX9_way 46 = .ok (.ireturn, 1) := by decide +kernel
theorem lkX9_way_64 : Cond.fieldLink RX9 64 "LeftAtFiveModel" "s" "[I" ∈ wsX9_way := by decide +kernel
theorem iwX9_way_X9 : ∀ w ∈ wsX90, w ∈ wsX9_way := by decide +kernel
set_option maxHeartbeats 4000000 in
set_option maxRecDepth 100000 in
theorem c_X9_way (l : Launch) (D : va_G) (q : Nat → ClassId) (ad : Nat → Nat) (σ0 : Int32) (σ1 : Nat → Int32) (σ2 : Nat → Int32) (σ3 : Nat → Int32) (σ4 : Nat → Int32) (σ5 : Nat → Int32) (σ6 : Nat → Int32) (σ7 : Nat → Int32) (σ8 : Nat → Int32) (σ9 : Nat → Int32) (σ10 : Nat → Int32) (σ11 : Nat → Int32) (σ12 : Nat → Int32) (σ13 : Nat → Int32) (σ14 : Nat → Int32) (σ15 : Nat → Int32) (σ16 : Nat → Int32) (σ17 : Nat → Int32) (σ18 : Nat → Int32) (σ19 : Nat → Int32) (σ20 : Int32) (σ21 : Int32) (σ22 : Int32) (σ23 : Nat → Int32) (σ24 : Int32) (σ25 : Int32) (σ26 : Nat → Int32) (σ27 : Nat → Int32) (σ28 : Nat → Int32) (σ29 : Nat → Int32) (σ30 : Nat → Int32) (k : Nat) (what : Nat) (hk0 : k < tn (xreg σ19 0 26)) (hwh : what ≤ 3) (hK0 : okK (xreg σ19 0)) : xC l yX9_way wsX9_way ({ frames := 1, cells := 0, slots := 0, locals := 25 }) D (TY q) [w9 q ad σ0 σ1 σ2 σ3 σ4 σ5 σ6 σ7 σ8 σ9 σ10 σ11 σ12 σ13 σ14 σ15 σ16 σ17 σ18 σ19 σ20 σ21 σ22 σ23 σ24 σ25 σ26 σ27 σ28 σ29 σ30] [.ref (ad 0), .int (nI k), .int (nI what)] (xQi D (TY q) (fun (r : Int32) (_ : Unit) => r = xreg σ19 0 (26 + 1 + 4 * k + what)) (fun _ => [w9 q ad σ0 σ1 σ2 σ3 σ4 σ5 σ6 σ7 σ8 σ9 σ10 σ11 σ12 σ13 σ14 σ15 σ16 σ17 σ18 σ19 σ20 σ21 σ22 σ23 σ24 σ25 σ26 σ27 σ28 σ29 σ30])) 0 0 := by
  refine x_enter (cc := cX9_way) (maxL := 3) (ret := (some .int)) (by decide) rfl (Nat.le_of_ble_eq_true rfl) ?_
  intro p e s m below meth c A ls H locs hfix hr hlocks hinit hM hl
  obtain ⟨hx, hb, hml, hown, hts⟩ := id hfix
  have hl : lv_has ls 3 [(0, .ref (ad 0)), (1, .int (nI k)), (2, .int (nI what))] := hl
  have hW0 := hK0.2.1.2
  refine lv_iload_n hx hb dX9_way_0 rfl (lv_at hl 1 rfl) ?_
  refine x_i2l hx hb dX9_way_1 ?_
  refine lv_lconst (v := 0) hx hb dX9_way_2 (by decide) ?_
  refine lv_aload_n hx hb dX9_way_3 rfl (lv_at hl 0 rfl) ?_
  refine lv_iconst (v := nI 0) hx hb dX9_way_4 (by decide) ?_
  refine x_calli (bc := [w9 q ad σ0 σ1 σ2 σ3 σ4 σ5 σ6 σ7 σ8 σ9 σ10 σ11 σ12 σ13 σ14 σ15 σ16 σ17 σ18 σ19 σ20 σ21 σ22 σ23 σ24 σ25 σ26 σ27 σ28 σ29 σ30]) (br := []) hM [0] [] rfl rfl rfl (by decide) (x_runV (As := [.int (nI 0)]) (rest := [.long (0 : Int64), .long ((nI k).toInt64)]) hfix (c_X9_giftsOf l D q ad σ0 σ1 σ2 σ3 σ4 σ5 σ6 σ7 σ8 σ9 σ10 σ11 σ12 σ13 σ14 σ15 σ16 σ17 σ18 σ19 σ20 σ21 σ22 σ23 σ24 σ25 σ26 σ27 σ28 σ29 σ30 0 (by omega)) (cwV 1 hts gX9_way_X9_giftsOf rfl rfl rfl (by decide +kernel) ⟨Nat.le_of_ble_eq_true rfl, Nat.le_of_ble_eq_true rfl⟩) hM [0] rfl rfl 0 0 rfl rfl rfl rfl rfl hl.1 rfl (Nat.le_of_ble_eq_true rfl) dX9_way_5 ⟨Nat.le_of_ble_eq_true rfl, Nat.le_of_ble_eq_true rfl⟩) (fun r u H locs hq hM => ?_)
  subst hq
  have hM : xM D (TY q) [w9 q ad σ0 σ1 σ2 σ3 σ4 σ5 σ6 σ7 σ8 σ9 σ10 σ11 σ12 σ13 σ14 σ15 σ16 σ17 σ18 σ19 σ20 σ21 σ22 σ23 σ24 σ25 σ26 σ27 σ28 σ29 σ30] A s.heap s H locs := hM
  refine x_cast (y := nI (tn (xreg σ19 0 26))) hK0.2.1.1 ?_
  refine lv_iconst (v := nI 1) hx hb dX9_way_8 (by decide) ?_
  refine lv_isub hx hb dX9_way_9 ?_
  refine x_i2l hx hb dX9_way_10 ?_
  refine x_calli (bc := []) (br := [w9 q ad σ0 σ1 σ2 σ3 σ4 σ5 σ6 σ7 σ8 σ9 σ10 σ11 σ12 σ13 σ14 σ15 σ16 σ17 σ18 σ19 σ20 σ21 σ22 σ23 σ24 σ25 σ26 σ27 σ28 σ29 σ30]) hM [] [0] rfl rfl rfl (by decide) (x_runS (As := [.long ((nI k).toInt64), .long (0 : Int64), .long (((nI (tn (xreg σ19 0 26))) - (nI 1)).toInt64)]) (rest := []) hfix (c_X9_in l D q ((nI k).toInt64) (0 : Int64) (((nI (tn (xreg σ19 0 26))) - (nI 1)).toInt64) ((k : Nat) : Int) (0 : Int) (((tn (xreg σ19 0 26) : Nat) : Int) - ((1 : Nat) : Int)) ((Jvm.Kit.i64_of_i32 _).trans (nI_toInt (n := k) (by omega))) (by decide) ((Jvm.Kit.i64_of_i32 _).trans (pk_sub_toInt (a := tn (xreg σ19 0 26)) (b := 1) (by omega) (by omega)))) (va_cwS 3 hts gX9_way_X9_in rfl rfl rfl (by decide +kernel) ⟨Nat.le_of_ble_eq_true rfl, Nat.le_of_ble_eq_true rfl⟩) hM [] rfl rfl rfl hl.1 rfl (Nat.le_of_ble_eq_true rfl) dX9_way_11 ⟨Nat.le_of_ble_eq_true rfl, Nat.le_of_ble_eq_true rfl⟩) (fun r u H locs hq hM => ?_)
  subst hq
  have hM : xM D (TY q) [w9 q ad σ0 σ1 σ2 σ3 σ4 σ5 σ6 σ7 σ8 σ9 σ10 σ11 σ12 σ13 σ14 σ15 σ16 σ17 σ18 σ19 σ20 σ21 σ22 σ23 σ24 σ25 σ26 σ27 σ28 σ29 σ30] A s.heap s H locs := hM
  refine x_ifz_eq (P := (0 : Int) ≤ ((k : Nat) : Int) ∧ ((k : Nat) : Int) ≤ (((tn (xreg σ19 0 26) : Nat) : Int) - ((1 : Nat) : Int))) (tgt := 45) hx hb dX9_way_14 (by decide) (fun c1 => ?_) (fun c1 => ?_)
  · exfalso; omega
  · refine lv_iload_n hx hb dX9_way_17 rfl (lv_at hl 2 rfl) ?_
    refine x_i2l hx hb dX9_way_18 ?_
    refine lv_lconst (v := 0) hx hb dX9_way_19 (by decide) ?_
    refine lv_ldc2 (v := 3) hx hb hown (hts (.constantLong RX9 231 (3)) (by decide +kernel)) dX9_way_20 ?_
    refine x_calli (bc := []) (br := [w9 q ad σ0 σ1 σ2 σ3 σ4 σ5 σ6 σ7 σ8 σ9 σ10 σ11 σ12 σ13 σ14 σ15 σ16 σ17 σ18 σ19 σ20 σ21 σ22 σ23 σ24 σ25 σ26 σ27 σ28 σ29 σ30]) hM [] [0] rfl rfl rfl (by decide) (x_runS (As := [.long ((nI what).toInt64), .long (0 : Int64), .long (3 : Int64)]) (rest := []) hfix (c_X9_in l D q ((nI what).toInt64) (0 : Int64) (3 : Int64) ((what : Nat) : Int) (0 : Int) (3 : Int) ((Jvm.Kit.i64_of_i32 _).trans (nI_toInt (n := what) (by omega))) (by decide) (by decide)) (va_cwS 3 hts gX9_way_X9_in rfl rfl rfl (by decide +kernel) ⟨Nat.le_of_ble_eq_true rfl, Nat.le_of_ble_eq_true rfl⟩) hM [] rfl rfl rfl hl.1 rfl (Nat.le_of_ble_eq_true rfl) dX9_way_23 ⟨Nat.le_of_ble_eq_true rfl, Nat.le_of_ble_eq_true rfl⟩) (fun r u H locs hq hM => ?_)
    subst hq
    have hM : xM D (TY q) [w9 q ad σ0 σ1 σ2 σ3 σ4 σ5 σ6 σ7 σ8 σ9 σ10 σ11 σ12 σ13 σ14 σ15 σ16 σ17 σ18 σ19 σ20 σ21 σ22 σ23 σ24 σ25 σ26 σ27 σ28 σ29 σ30] A s.heap s H locs := hM
    refine x_ifz_eq (P := (0 : Int) ≤ ((what : Nat) : Int) ∧ ((what : Nat) : Int) ≤ (3 : Int)) (tgt := 45) hx hb dX9_way_26 (by decide) (fun c2 => ?_) (fun c2 => ?_)
    · exfalso; omega
    · refine lv_aload_n hx hb dX9_way_29 rfl (lv_at hl 0 rfl) ?_
      refine x_get hx hb hts iwX9_way_X9 hown hM 0 0 rfl rfl rfl 19 (by decide) (hts _ lkX9_way_64) (fun _ h => h) rfl dX9_way_30 ?_
      refine lv_aload_n hx hb dX9_way_33 rfl (lv_at hl 0 rfl) ?_
      refine lv_iconst (v := nI 0) hx hb dX9_way_34 (by decide) ?_
      refine lv_iload_n hx hb dX9_way_35 rfl (lv_at hl 1 rfl) ?_
      refine x_calli (bc := [w9 q ad σ0 σ1 σ2 σ3 σ4 σ5 σ6 σ7 σ8 σ9 σ10 σ11 σ12 σ13 σ14 σ15 σ16 σ17 σ18 σ19 σ20 σ21 σ22 σ23 σ24 σ25 σ26 σ27 σ28 σ29 σ30]) (br := []) hM [0] [] rfl rfl rfl (by decide) (x_runV (As := [.int (nI 0), .int (nI k)]) (rest := [.ref (ad 20)]) hfix (c_X9_giftAt l D q ad σ0 σ1 σ2 σ3 σ4 σ5 σ6 σ7 σ8 σ9 σ10 σ11 σ12 σ13 σ14 σ15 σ16 σ17 σ18 σ19 σ20 σ21 σ22 σ23 σ24 σ25 σ26 σ27 σ28 σ29 σ30 0 k) (cwV 2 hts gX9_way_X9_giftAt rfl rfl rfl (by decide +kernel) ⟨Nat.le_of_ble_eq_true rfl, Nat.le_of_ble_eq_true rfl⟩) hM [0] rfl rfl 0 0 rfl rfl rfl rfl rfl hl.1 rfl (Nat.le_of_ble_eq_true rfl) dX9_way_36 ⟨Nat.le_of_ble_eq_true rfl, Nat.le_of_ble_eq_true rfl⟩) (fun r u H locs hq hM => ?_)
      subst hq
      have hM : xM D (TY q) [w9 q ad σ0 σ1 σ2 σ3 σ4 σ5 σ6 σ7 σ8 σ9 σ10 σ11 σ12 σ13 σ14 σ15 σ16 σ17 σ18 σ19 σ20 σ21 σ22 σ23 σ24 σ25 σ26 σ27 σ28 σ29 σ30] A s.heap s H locs := hM
      refine lv_iload_n hx hb dX9_way_39 rfl (lv_at hl 2 rfl) ?_
      refine x_iadd (x := 67 * 0 + 26 + 1 + 4 * k) (y := what) hx hb dX9_way_40 ?_
      refine x_iald hx hb hM 0 19 0 (f := σ19) rfl rfl rfl (t := 67 * 0 + 26 + 1 + 4 * k + what) (by omega) (by decide) dX9_way_41 ?_
      refine lv_goto (tgt := 46) hx hb dX9_way_42 (by decide) ?_
      exact x_iret hx hb hr hlocks () hM (show σ19 (67 * 0 + 26 + 1 + 4 * k + what) = xreg σ19 0 (26 + 1 + 4 * k + what) from by exact xreg_eq (by omega)) dX9_way_46

set_option maxHeartbeats 4000000 in
set_option maxRecDepth 100000 in
theorem c_X9_wayB (l : Launch) (D : va_G) (q : Nat → ClassId) (ad : Nat → Nat) (σ0 : Int32) (σ1 : Nat → Int32) (σ2 : Nat → Int32) (σ3 : Nat → Int32) (σ4 : Nat → Int32) (σ5 : Nat → Int32) (σ6 : Nat → Int32) (σ7 : Nat → Int32) (σ8 : Nat → Int32) (σ9 : Nat → Int32) (σ10 : Nat → Int32) (σ11 : Nat → Int32) (σ12 : Nat → Int32) (σ13 : Nat → Int32) (σ14 : Nat → Int32) (σ15 : Nat → Int32) (σ16 : Nat → Int32) (σ17 : Nat → Int32) (σ18 : Nat → Int32) (σ19 : Nat → Int32) (σ20 : Int32) (σ21 : Int32) (σ22 : Int32) (σ23 : Nat → Int32) (σ24 : Int32) (σ25 : Int32) (σ26 : Nat → Int32) (σ27 : Nat → Int32) (σ28 : Nat → Int32) (σ29 : Nat → Int32) (σ30 : Nat → Int32) (k : Int32) (kz : Int) (what : Int32) (whatz : Int) (h_kz : k.toInt = kz) (h_whatz : what.toInt = whatz) (hK0 : okK (xreg σ19 0)) (hbad : ¬ (0 ≤ kz ∧ kz < tn (xreg σ19 0 26)) ∨ ¬ (0 ≤ whatz ∧ whatz ≤ 3)) : xC l yX9_way wsX9_way ({ frames := 1, cells := 0, slots := 0, locals := 25 }) D (TY q) [w9 q ad σ0 σ1 σ2 σ3 σ4 σ5 σ6 σ7 σ8 σ9 σ10 σ11 σ12 σ13 σ14 σ15 σ16 σ17 σ18 σ19 σ20 σ21 σ22 σ23 σ24 σ25 σ26 σ27 σ28 σ29 σ30] [.ref (ad 0), .int k, .int what] (xQi D (TY q) (fun (r : Int32) (_ : Unit) => r = (-1)) (fun _ => [w9 q ad σ0 σ1 σ2 σ3 σ4 σ5 σ6 σ7 σ8 σ9 σ10 σ11 σ12 σ13 σ14 σ15 σ16 σ17 σ18 σ19 σ20 σ21 σ22 σ23 σ24 σ25 σ26 σ27 σ28 σ29 σ30])) 0 0 := by
  refine x_enter (cc := cX9_way) (maxL := 3) (ret := (some .int)) (by decide) rfl (Nat.le_of_ble_eq_true rfl) ?_
  intro p e s m below meth c A ls H locs hfix hr hlocks hinit hM hl
  obtain ⟨hx, hb, hml, hown, hts⟩ := id hfix
  have hl : lv_has ls 3 [(0, .ref (ad 0)), (1, .int k), (2, .int what)] := hl
  have hW0 := hK0.2.1.2
  refine lv_iload_n hx hb dX9_way_0 rfl (lv_at hl 1 rfl) ?_
  refine x_i2l hx hb dX9_way_1 ?_
  refine lv_lconst (v := 0) hx hb dX9_way_2 (by decide) ?_
  refine lv_aload_n hx hb dX9_way_3 rfl (lv_at hl 0 rfl) ?_
  refine lv_iconst (v := nI 0) hx hb dX9_way_4 (by decide) ?_
  refine x_calli (bc := [w9 q ad σ0 σ1 σ2 σ3 σ4 σ5 σ6 σ7 σ8 σ9 σ10 σ11 σ12 σ13 σ14 σ15 σ16 σ17 σ18 σ19 σ20 σ21 σ22 σ23 σ24 σ25 σ26 σ27 σ28 σ29 σ30]) (br := []) hM [0] [] rfl rfl rfl (by decide) (x_runV (As := [.int (nI 0)]) (rest := [.long (0 : Int64), .long k.toInt64]) hfix (c_X9_giftsOf l D q ad σ0 σ1 σ2 σ3 σ4 σ5 σ6 σ7 σ8 σ9 σ10 σ11 σ12 σ13 σ14 σ15 σ16 σ17 σ18 σ19 σ20 σ21 σ22 σ23 σ24 σ25 σ26 σ27 σ28 σ29 σ30 0 (by omega)) (cwV 1 hts gX9_way_X9_giftsOf rfl rfl rfl (by decide +kernel) ⟨Nat.le_of_ble_eq_true rfl, Nat.le_of_ble_eq_true rfl⟩) hM [0] rfl rfl 0 0 rfl rfl rfl rfl rfl hl.1 rfl (Nat.le_of_ble_eq_true rfl) dX9_way_5 ⟨Nat.le_of_ble_eq_true rfl, Nat.le_of_ble_eq_true rfl⟩) (fun r u H locs hq hM => ?_)
  subst hq
  have hM : xM D (TY q) [w9 q ad σ0 σ1 σ2 σ3 σ4 σ5 σ6 σ7 σ8 σ9 σ10 σ11 σ12 σ13 σ14 σ15 σ16 σ17 σ18 σ19 σ20 σ21 σ22 σ23 σ24 σ25 σ26 σ27 σ28 σ29 σ30] A s.heap s H locs := hM
  refine x_cast (y := nI (tn (xreg σ19 0 26))) hK0.2.1.1 ?_
  refine lv_iconst (v := nI 1) hx hb dX9_way_8 (by decide) ?_
  refine lv_isub hx hb dX9_way_9 ?_
  refine x_i2l hx hb dX9_way_10 ?_
  refine x_calli (bc := []) (br := [w9 q ad σ0 σ1 σ2 σ3 σ4 σ5 σ6 σ7 σ8 σ9 σ10 σ11 σ12 σ13 σ14 σ15 σ16 σ17 σ18 σ19 σ20 σ21 σ22 σ23 σ24 σ25 σ26 σ27 σ28 σ29 σ30]) hM [] [0] rfl rfl rfl (by decide) (x_runS (As := [.long k.toInt64, .long (0 : Int64), .long (((nI (tn (xreg σ19 0 26))) - (nI 1)).toInt64)]) (rest := []) hfix (c_X9_in l D q k.toInt64 (0 : Int64) (((nI (tn (xreg σ19 0 26))) - (nI 1)).toInt64) kz (0 : Int) (((tn (xreg σ19 0 26) : Nat) : Int) - ((1 : Nat) : Int)) ((Jvm.Kit.i64_of_i32 _).trans h_kz) (by decide) ((Jvm.Kit.i64_of_i32 _).trans (pk_sub_toInt (a := tn (xreg σ19 0 26)) (b := 1) (by omega) (by omega)))) (va_cwS 3 hts gX9_way_X9_in rfl rfl rfl (by decide +kernel) ⟨Nat.le_of_ble_eq_true rfl, Nat.le_of_ble_eq_true rfl⟩) hM [] rfl rfl rfl hl.1 rfl (Nat.le_of_ble_eq_true rfl) dX9_way_11 ⟨Nat.le_of_ble_eq_true rfl, Nat.le_of_ble_eq_true rfl⟩) (fun r u H locs hq hM => ?_)
  subst hq
  have hM : xM D (TY q) [w9 q ad σ0 σ1 σ2 σ3 σ4 σ5 σ6 σ7 σ8 σ9 σ10 σ11 σ12 σ13 σ14 σ15 σ16 σ17 σ18 σ19 σ20 σ21 σ22 σ23 σ24 σ25 σ26 σ27 σ28 σ29 σ30] A s.heap s H locs := hM
  refine x_ifz_eq (P := (0 : Int) ≤ kz ∧ kz ≤ (((tn (xreg σ19 0 26) : Nat) : Int) - ((1 : Nat) : Int))) (tgt := 45) hx hb dX9_way_14 (by decide) (fun c1 => ?_) (fun c1 => ?_)
  · refine lv_iconst (v := (-1)) hx hb dX9_way_45 (by decide) ?_
    exact x_iret hx hb hr hlocks () hM (show (-1) = (-1) from rfl) dX9_way_46
  · refine lv_iload_n hx hb dX9_way_17 rfl (lv_at hl 2 rfl) ?_
    refine x_i2l hx hb dX9_way_18 ?_
    refine lv_lconst (v := 0) hx hb dX9_way_19 (by decide) ?_
    refine lv_ldc2 (v := 3) hx hb hown (hts (.constantLong RX9 231 (3)) (by decide +kernel)) dX9_way_20 ?_
    refine x_calli (bc := []) (br := [w9 q ad σ0 σ1 σ2 σ3 σ4 σ5 σ6 σ7 σ8 σ9 σ10 σ11 σ12 σ13 σ14 σ15 σ16 σ17 σ18 σ19 σ20 σ21 σ22 σ23 σ24 σ25 σ26 σ27 σ28 σ29 σ30]) hM [] [0] rfl rfl rfl (by decide) (x_runS (As := [.long what.toInt64, .long (0 : Int64), .long (3 : Int64)]) (rest := []) hfix (c_X9_in l D q what.toInt64 (0 : Int64) (3 : Int64) whatz (0 : Int) (3 : Int) ((Jvm.Kit.i64_of_i32 _).trans h_whatz) (by decide) (by decide)) (va_cwS 3 hts gX9_way_X9_in rfl rfl rfl (by decide +kernel) ⟨Nat.le_of_ble_eq_true rfl, Nat.le_of_ble_eq_true rfl⟩) hM [] rfl rfl rfl hl.1 rfl (Nat.le_of_ble_eq_true rfl) dX9_way_23 ⟨Nat.le_of_ble_eq_true rfl, Nat.le_of_ble_eq_true rfl⟩) (fun r u H locs hq hM => ?_)
    subst hq
    have hM : xM D (TY q) [w9 q ad σ0 σ1 σ2 σ3 σ4 σ5 σ6 σ7 σ8 σ9 σ10 σ11 σ12 σ13 σ14 σ15 σ16 σ17 σ18 σ19 σ20 σ21 σ22 σ23 σ24 σ25 σ26 σ27 σ28 σ29 σ30] A s.heap s H locs := hM
    refine x_ifz_eq (P := (0 : Int) ≤ whatz ∧ whatz ≤ (3 : Int)) (tgt := 45) hx hb dX9_way_26 (by decide) (fun c2 => ?_) (fun c2 => ?_)
    · refine lv_iconst (v := (-1)) hx hb dX9_way_45 (by decide) ?_
      exact x_iret hx hb hr hlocks () hM (show (-1) = (-1) from rfl) dX9_way_46
    · exfalso; omega

set_option maxRecDepth 20000 in
theorem ggX9_pass_X9_in : GoodIn wsX9_pass wsX9_in := goodIn_r _ [5] (by decide +kernel) (by decide +kernel)
set_option maxRecDepth 20000 in
theorem gX9_pass_X9_in : GoodIn wsX9_pass (va_wsS RX9 104 yX9_in wsX9_in) := goodIn_app (goodIn_of _ (by decide +kernel)) ggX9_pass_X9_in
set_option maxRecDepth 20000 in
theorem ggX9_pass_X9_minuteOf : GoodIn wsX9_pass wsX9_minuteOf := goodIn_r _ [9, 10, 69, 70, 71, 72, 73, 74, 75, 76, 77, 78, 79, 80, 81, 82, 83, 84, 85, 86, 87, 88, 89, 90, 91, 92, 93, 94, 95, 96, 97, 98, 99] (by decide +kernel) (by decide +kernel)
set_option maxRecDepth 20000 in
theorem gX9_pass_X9_minuteOf : GoodIn wsX9_pass (wsV RX9 166 RX9 yX9_minuteOf wsX9_minuteOf) := goodIn_app (goodIn_of _ (by decide +kernel)) ggX9_pass_X9_minuteOf
set_option maxRecDepth 20000 in
theorem ggX9_pass_X9_note : GoodIn wsX9_pass wsX9_note := goodIn_r _ [14, 15, 16, 17, 18, 4, 19, 10, 69, 70, 71, 72, 73, 74, 75, 76, 77, 78, 79, 80, 81, 82, 83, 84, 85, 86, 87, 88, 89, 90, 91, 92, 93, 94, 95, 96, 97, 98, 99] (by decide +kernel) (by decide +kernel)
set_option maxRecDepth 20000 in
theorem gX9_pass_X9_note : GoodIn wsX9_pass (wsV RX9 235 RX9 yX9_note wsX9_note) := goodIn_app (goodIn_of _ (by decide +kernel)) ggX9_pass_X9_note
set_option maxRecDepth 20000 in
theorem ggX9_pass_X9_go : GoodIn wsX9_pass wsX9_go := goodIn_r _ [23, 10, 24, 25, 6, 7, 8, 4, 9, 26, 27, 28, 29, 30, 31, 32, 33, 34, 35, 36, 37, 38, 39, 40, 41, 42, 43, 44, 45, 46, 47, 48, 49, 50, 51, 52, 53, 54, 55, 56, 57, 58, 59, 60, 61, 62, 63, 64, 65, 66, 67, 68, 69, 70, 71, 72, 73, 74, 75, 76, 77, 78, 79, 80, 81, 82, 83, 84, 85, 86, 87, 88, 89, 90, 91, 92, 93, 94, 95, 96, 97, 98, 99] (by decide +kernel) (by decide +kernel)
set_option maxRecDepth 20000 in
theorem gX9_pass_X9_go : GoodIn wsX9_pass (wsV RX9 204 RX9 yX9_go wsX9_go) := goodIn_app (goodIn_of _ (by decide +kernel)) ggX9_pass_X9_go
theorem dX9_pass_0 : decode cX9_pass 0 = .ok (.iload_n 1, 1) := by decide +kernel
theorem dX9_pass_1 : decode cX9_pass 1 = .ok (.i2l, 1) := by decide +kernel
theorem dX9_pass_2 : decode cX9_pass 2 = .ok (.lconst 1, 1) := by decide +kernel
theorem dX9_pass_3 : decode cX9_pass 3 = .ok (.ldc2_w 233, 3) := by decide +kernel
theorem dX9_pass_6 : decode cX9_pass 6 = .ok (.invokestatic 104, 3) := by decide +kernel
theorem dX9_pass_9 : decode cX9_pass 9 = .ok (.ifCond .ne 5, 3) := by decide +kernel
theorem dX9_pass_12 : decode cX9_pass 12 = .ok (.iconst (-1), 1) := by decide +kernel
theorem dX9_pass_13 : decode cX9_pass 13 = .ok (.ireturn, 1) := by decide +kernel
theorem dX9_pass_14 : decode cX9_pass 14 = .ok (.aload_n 0, 1) := by decide +kernel
theorem dX9_pass_15 : decode cX9_pass 15 = .ok (.iconst 0, 1) := by decide +kernel
theorem dX9_pass_16 : decode cX9_pass 16 = .ok (.invokevirtual 166, 3) := by decide +kernel
theorem dX9_pass_19 : decode cX9_pass 19 = .ok (.iload_n 1, 1) := by decide +kernel
theorem dX9_pass_20 : decode cX9_pass 20 = .ok (.iadd, 1) := by decide +kernel
theorem dX9_pass_21 : decode cX9_pass 21 = .ok (.bipush 60, 2) := by decide +kernel
theorem dX9_pass_23 : decode cX9_pass 23 = .ok (.if_icmp .le 6, 3) := by decide +kernel
theorem dX9_pass_26 : decode cX9_pass 26 = .ok (.bipush (-2), 2) := by decide +kernel
theorem dX9_pass_28 : decode cX9_pass 28 = .ok (.ireturn, 1) := by decide +kernel
theorem dX9_pass_29 : decode cX9_pass 29 = .ok (.aload_n 0, 1) := by decide +kernel
theorem dX9_pass_30 : decode cX9_pass 30 = .ok (.invokevirtual 235, 3) := by decide +kernel
theorem dX9_pass_33 : decode cX9_pass 33 = .ok (.iconst 0, 1) := by decide +kernel
theorem dX9_pass_34 : decode cX9_pass 34 = .ok (.istore_n 2, 1) := by decide +kernel
theorem dX9_pass_35 : decode cX9_pass 35 = .ok (.iload_n 2, 1) := by decide +kernel
theorem dX9_pass_36 : decode cX9_pass 36 = .ok (.iload_n 1, 1) := by decide +kernel
theorem dX9_pass_37 : decode cX9_pass 37 = .ok (.if_icmp .ge 16, 3) := by decide +kernel
theorem dX9_pass_40 : decode cX9_pass 40 = .ok (.aload_n 0, 1) := by decide +kernel
theorem dX9_pass_41 : decode cX9_pass 41 = .ok (.iconst 0, 1) := by decide +kernel
theorem dX9_pass_42 : decode cX9_pass 42 = .ok (.bipush (-4), 2) := by decide +kernel
theorem dX9_pass_44 : decode cX9_pass 44 = .ok (.invokevirtual 204, 3) := by decide +kernel
theorem dX9_pass_47 : decode cX9_pass 47 = .ok (.iinc 2 1, 3) := by decide +kernel
theorem dX9_pass_50 : decode cX9_pass 50 = .ok (.goto (-15), 3) := by decide +kernel
theorem dX9_pass_53 : decode cX9_pass 53 = .ok (.aload_n 0, 1) := by decide +kernel
theorem dX9_pass_54 : decode cX9_pass 54 = .ok (.iconst 0, 1) := by decide +kernel
theorem dX9_pass_55 : decode cX9_pass 55 = .ok (.invokevirtual 166, 3) := by decide +kernel
theorem dX9_pass_58 : decode cX9_pass 58 = .ok (.ireturn, 1) := by decide +kernel
set_option maxHeartbeats 4000000 in
set_option maxRecDepth 100000 in
theorem c_X9_pass (l : Launch) (D : va_G) (q : Nat → ClassId) (ad : Nat → Nat) (σ0 : Int32) (σ1 : Nat → Int32) (σ2 : Nat → Int32) (σ3 : Nat → Int32) (σ4 : Nat → Int32) (σ5 : Nat → Int32) (σ6 : Nat → Int32) (σ7 : Nat → Int32) (σ8 : Nat → Int32) (σ9 : Nat → Int32) (σ10 : Nat → Int32) (σ11 : Nat → Int32) (σ12 : Nat → Int32) (σ13 : Nat → Int32) (σ14 : Nat → Int32) (σ15 : Nat → Int32) (σ16 : Nat → Int32) (σ17 : Nat → Int32) (σ18 : Nat → Int32) (σ19 : Nat → Int32) (σ20 : Int32) (σ21 : Int32) (σ22 : Int32) (σ23 : Nat → Int32) (σ24 : Int32) (σ25 : Int32) (σ26 : Nat → Int32) (σ27 : Nat → Int32) (σ28 : Nat → Int32) (σ29 : Nat → Int32) (σ30 : Nat → Int32) (n : Nat) (hn1 : 1 ≤ n ∧ n ≤ 60) (hnT : tn (xreg σ19 0 25) + n ≤ 60) (hU : σ20 = nI (tn σ20) ∧ tn σ20 ≤ 8) (hc2 : σ2 0 = nI (tn (σ2 0)) ∧ tn (σ2 0) ≤ 5) (hc5 : σ5 0 = nI (tn (σ5 0)) ∧ tn (σ5 0) ≤ 5) (hc8 : σ8 0 = nI (tn (σ8 0)) ∧ tn (σ8 0) ≤ 8) (hE : okE σ9 σ10 σ11 (tn (σ8 0))) (hK0 : okK (xreg σ19 0)) : xC l yX9_pass wsX9_pass ({ frames := 3, cells := 0, slots := 0, locals := 74 }) D (TY q) [w9 q ad σ0 σ1 σ2 σ3 σ4 σ5 σ6 σ7 σ8 σ9 σ10 σ11 σ12 σ13 σ14 σ15 σ16 σ17 σ18 σ19 σ20 σ21 σ22 σ23 σ24 σ25 σ26 σ27 σ28 σ29 σ30] [.ref (ad 0), .int (nI n)] (xQi D (TY q) (fun (r : Int32) (_ : Unit) => r = nI (tn (xreg σ19 0 25) + n)) (fun _ => [w9 q ad σ0 σ1 σ2 σ3 σ4 σ5 σ6 σ7 σ8 σ9 σ10 σ11 σ12 σ13 σ14 σ15 σ16 σ17 σ18 (xspl (xnote σ19 (tn σ20)) 0 (kGoN σ4 (tn (σ2 0)) (tn (σ5 0)) σ9 σ10 σ11 (tn (σ8 0)) (-4) (xreg σ19 0, σ24, σ25) n).1) (nI (xnU (tn σ20))) σ21 σ22 σ23 (kGoN σ4 (tn (σ2 0)) (tn (σ5 0)) σ9 σ10 σ11 (tn (σ8 0)) (-4) (xreg σ19 0, σ24, σ25) n).2.1 (kGoN σ4 (tn (σ2 0)) (tn (σ5 0)) σ9 σ10 σ11 (tn (σ8 0)) (-4) (xreg σ19 0, σ24, σ25) n).2.2 σ26 σ27 σ28 σ29 σ30])) 0 0 := by
  refine x_enter (cc := cX9_pass) (maxL := 3) (ret := (some .int)) (by decide) rfl (Nat.le_of_ble_eq_true rfl) ?_
  intro p e s m below meth c A ls H locs hfix hr hlocks hinit hM hl
  obtain ⟨hx, hb, hml, hown, hts⟩ := id hfix
  have hl : lv_has ls 3 [(0, .ref (ad 0)), (1, .int (nI n))] := hl
  have hc2b := hc2.2
  have hc5b := hc5.2
  have hc8b := hc8.2
  have hT0 := hK0.1.2
  have hW0 := hK0.2.1.2
  have hU2 := hU.2
  refine lv_iload_n hx hb dX9_pass_0 rfl (lv_at hl 1 rfl) ?_
  refine x_i2l hx hb dX9_pass_1 ?_
  refine lv_lconst (v := 1) hx hb dX9_pass_2 (by decide) ?_
  refine lv_ldc2 (v := 60) hx hb hown (hts (.constantLong RX9 233 (60)) (by decide +kernel)) dX9_pass_3 ?_
  refine x_calli (bc := []) (br := [w9 q ad σ0 σ1 σ2 σ3 σ4 σ5 σ6 σ7 σ8 σ9 σ10 σ11 σ12 σ13 σ14 σ15 σ16 σ17 σ18 σ19 σ20 σ21 σ22 σ23 σ24 σ25 σ26 σ27 σ28 σ29 σ30]) hM [] [0] rfl rfl rfl (by decide) (x_runS (As := [.long ((nI n).toInt64), .long (1 : Int64), .long (60 : Int64)]) (rest := []) hfix (c_X9_in l D q ((nI n).toInt64) (1 : Int64) (60 : Int64) ((n : Nat) : Int) (1 : Int) (60 : Int) ((Jvm.Kit.i64_of_i32 _).trans (nI_toInt (n := n) (by omega))) (by decide) (by decide)) (va_cwS 3 hts gX9_pass_X9_in rfl rfl rfl (by decide +kernel) ⟨Nat.le_of_ble_eq_true rfl, Nat.le_of_ble_eq_true rfl⟩) hM [] rfl rfl rfl hl.1 rfl (Nat.le_of_ble_eq_true rfl) dX9_pass_6 ⟨Nat.le_of_ble_eq_true rfl, Nat.le_of_ble_eq_true rfl⟩) (fun r u H locs hq hM => ?_)
  subst hq
  have hM : xM D (TY q) [w9 q ad σ0 σ1 σ2 σ3 σ4 σ5 σ6 σ7 σ8 σ9 σ10 σ11 σ12 σ13 σ14 σ15 σ16 σ17 σ18 σ19 σ20 σ21 σ22 σ23 σ24 σ25 σ26 σ27 σ28 σ29 σ30] A s.heap s H locs := hM
  refine x_ifz_ne (P := (1 : Int) ≤ ((n : Nat) : Int) ∧ ((n : Nat) : Int) ≤ (60 : Int)) (tgt := 14) hx hb dX9_pass_9 (by decide) (fun c1 => ?_) (fun c1 => ?_)
  · refine lv_aload_n hx hb dX9_pass_14 rfl (lv_at hl 0 rfl) ?_
    refine lv_iconst (v := nI 0) hx hb dX9_pass_15 (by decide) ?_
    refine x_calli (bc := [w9 q ad σ0 σ1 σ2 σ3 σ4 σ5 σ6 σ7 σ8 σ9 σ10 σ11 σ12 σ13 σ14 σ15 σ16 σ17 σ18 σ19 σ20 σ21 σ22 σ23 σ24 σ25 σ26 σ27 σ28 σ29 σ30]) (br := []) hM [0] [] rfl rfl rfl (by decide) (x_runV (As := [.int (nI 0)]) (rest := []) hfix (c_X9_minuteOf l D q ad σ0 σ1 σ2 σ3 σ4 σ5 σ6 σ7 σ8 σ9 σ10 σ11 σ12 σ13 σ14 σ15 σ16 σ17 σ18 σ19 σ20 σ21 σ22 σ23 σ24 σ25 σ26 σ27 σ28 σ29 σ30 0 (by omega)) (cwV 1 hts gX9_pass_X9_minuteOf rfl rfl rfl (by decide +kernel) ⟨Nat.le_of_ble_eq_true rfl, Nat.le_of_ble_eq_true rfl⟩) hM [0] rfl rfl 0 0 rfl rfl rfl rfl rfl hl.1 rfl (Nat.le_of_ble_eq_true rfl) dX9_pass_16 ⟨Nat.le_of_ble_eq_true rfl, Nat.le_of_ble_eq_true rfl⟩) (fun r u H locs hq hM => ?_)
    subst hq
    have hM : xM D (TY q) [w9 q ad σ0 σ1 σ2 σ3 σ4 σ5 σ6 σ7 σ8 σ9 σ10 σ11 σ12 σ13 σ14 σ15 σ16 σ17 σ18 σ19 σ20 σ21 σ22 σ23 σ24 σ25 σ26 σ27 σ28 σ29 σ30] A s.heap s H locs := hM
    refine x_cast (y := nI (tn (xreg σ19 0 25))) hK0.1.1 ?_
    refine lv_iload_n hx hb dX9_pass_19 rfl (lv_at hl 1 rfl) ?_
    refine x_iadd (x := tn (xreg σ19 0 25)) (y := n) hx hb dX9_pass_20 ?_
    refine lv_bipush (v := nI 60) hx hb dX9_pass_21 (by decide) ?_
    refine x_icmp_le (x := tn (xreg σ19 0 25) + n) (y := 60) (tgt := 29) hx hb (by omega) (by omega) dX9_pass_23 (by decide) (fun c2 => ?_) (fun c2 => ?_)
    · refine lv_aload_n hx hb dX9_pass_29 rfl (lv_at hl 0 rfl) ?_
      refine x_callv (bc := [w9 q ad σ0 σ1 σ2 σ3 σ4 σ5 σ6 σ7 σ8 σ9 σ10 σ11 σ12 σ13 σ14 σ15 σ16 σ17 σ18 σ19 σ20 σ21 σ22 σ23 σ24 σ25 σ26 σ27 σ28 σ29 σ30]) (br := []) hM [0] [] rfl rfl rfl (by decide) (x_runV (As := []) (rest := []) hfix (c_X9_note l D q ad σ0 σ1 σ2 σ3 σ4 σ5 σ6 σ7 σ8 σ9 σ10 σ11 σ12 σ13 σ14 σ15 σ16 σ17 σ18 σ19 σ20 σ21 σ22 σ23 σ24 σ25 σ26 σ27 σ28 σ29 σ30 hU) (cwV 0 hts gX9_pass_X9_note rfl rfl rfl (by decide +kernel) ⟨Nat.le_of_ble_eq_true rfl, Nat.le_of_ble_eq_true rfl⟩) hM [0] rfl rfl 0 0 rfl rfl rfl rfl rfl hl.1 rfl (Nat.le_of_ble_eq_true rfl) dX9_pass_30 ⟨Nat.le_of_ble_eq_true rfl, Nat.le_of_ble_eq_true rfl⟩) (fun u H locs hq hM => ?_)
      have hM : xM D (TY q) [w9 q ad σ0 σ1 σ2 σ3 σ4 σ5 σ6 σ7 σ8 σ9 σ10 σ11 σ12 σ13 σ14 σ15 σ16 σ17 σ18 (xnote σ19 (tn σ20)) (nI (xnU (tn σ20))) σ21 σ22 σ23 σ24 σ25 σ26 σ27 σ28 σ29 σ30] A s.heap s H locs := hM
      refine lv_iconst (v := nI 0) hx hb dX9_pass_33 (by decide) ?_
      refine lv_istore_n (lv' := [(2, .int (nI 0)), (0, .ref (ad 0)), (1, .int (nI n))]) hx hb dX9_pass_34 rfl hl (by decide) rfl (fun ls hl => ?_)
      have e4 : ((xnote σ19 (tn σ20)) : Nat → Int32) = (xspl (xnote σ19 (tn σ20)) 0 (kGoN σ4 (tn (σ2 0)) (tn (σ5 0)) σ9 σ10 σ11 (tn (σ8 0)) (-4) (xreg σ19 0, σ24, σ25) 0).1) := by exact (xspl_same (fun j hj => xnote_lo _ _ hj)).symm
      have hM : xM D (TY q) [w9 q ad σ0 σ1 σ2 σ3 σ4 σ5 σ6 σ7 σ8 σ9 σ10 σ11 σ12 σ13 σ14 σ15 σ16 σ17 σ18 (xspl (xnote σ19 (tn σ20)) 0 (kGoN σ4 (tn (σ2 0)) (tn (σ5 0)) σ9 σ10 σ11 (tn (σ8 0)) (-4) (xreg σ19 0, σ24, σ25) 0).1) (nI (xnU (tn σ20))) σ21 σ22 σ23 σ24 σ25 σ26 σ27 σ28 σ29 σ30] A s.heap s H locs := Eq.mp (congrArg (fun z9 => xM D (TY q) [w9 q ad σ0 σ1 σ2 σ3 σ4 σ5 σ6 σ7 σ8 σ9 σ10 σ11 σ12 σ13 σ14 σ15 σ16 σ17 σ18 z9 (nI (xnU (tn σ20))) σ21 σ22 σ23 σ24 σ25 σ26 σ27 σ28 σ29 σ30] A s.heap s H locs) e4) hM
      have e5 : ((σ24) : Int32) = ((kGoN σ4 (tn (σ2 0)) (tn (σ5 0)) σ9 σ10 σ11 (tn (σ8 0)) (-4) (xreg σ19 0, σ24, σ25) 0).2.1) := by rfl
      have hM : xM D (TY q) [w9 q ad σ0 σ1 σ2 σ3 σ4 σ5 σ6 σ7 σ8 σ9 σ10 σ11 σ12 σ13 σ14 σ15 σ16 σ17 σ18 (xspl (xnote σ19 (tn σ20)) 0 (kGoN σ4 (tn (σ2 0)) (tn (σ5 0)) σ9 σ10 σ11 (tn (σ8 0)) (-4) (xreg σ19 0, σ24, σ25) 0).1) (nI (xnU (tn σ20))) σ21 σ22 σ23 (kGoN σ4 (tn (σ2 0)) (tn (σ5 0)) σ9 σ10 σ11 (tn (σ8 0)) (-4) (xreg σ19 0, σ24, σ25) 0).2.1 σ25 σ26 σ27 σ28 σ29 σ30] A s.heap s H locs := Eq.mp (congrArg (fun z9 => xM D (TY q) [w9 q ad σ0 σ1 σ2 σ3 σ4 σ5 σ6 σ7 σ8 σ9 σ10 σ11 σ12 σ13 σ14 σ15 σ16 σ17 σ18 (xspl (xnote σ19 (tn σ20)) 0 (kGoN σ4 (tn (σ2 0)) (tn (σ5 0)) σ9 σ10 σ11 (tn (σ8 0)) (-4) (xreg σ19 0, σ24, σ25) 0).1) (nI (xnU (tn σ20))) σ21 σ22 σ23 z9 σ25 σ26 σ27 σ28 σ29 σ30] A s.heap s H locs) e5) hM
      have e6 : ((σ25) : Int32) = ((kGoN σ4 (tn (σ2 0)) (tn (σ5 0)) σ9 σ10 σ11 (tn (σ8 0)) (-4) (xreg σ19 0, σ24, σ25) 0).2.2) := by rfl
      have hM : xM D (TY q) [w9 q ad σ0 σ1 σ2 σ3 σ4 σ5 σ6 σ7 σ8 σ9 σ10 σ11 σ12 σ13 σ14 σ15 σ16 σ17 σ18 (xspl (xnote σ19 (tn σ20)) 0 (kGoN σ4 (tn (σ2 0)) (tn (σ5 0)) σ9 σ10 σ11 (tn (σ8 0)) (-4) (xreg σ19 0, σ24, σ25) 0).1) (nI (xnU (tn σ20))) σ21 σ22 σ23 (kGoN σ4 (tn (σ2 0)) (tn (σ5 0)) σ9 σ10 σ11 (tn (σ8 0)) (-4) (xreg σ19 0, σ24, σ25) 0).2.1 (kGoN σ4 (tn (σ2 0)) (tn (σ5 0)) σ9 σ10 σ11 (tn (σ8 0)) (-4) (xreg σ19 0, σ24, σ25) 0).2.2 σ26 σ27 σ28 σ29 σ30] A s.heap s H locs := Eq.mp (congrArg (fun z9 => xM D (TY q) [w9 q ad σ0 σ1 σ2 σ3 σ4 σ5 σ6 σ7 σ8 σ9 σ10 σ11 σ12 σ13 σ14 σ15 σ16 σ17 σ18 (xspl (xnote σ19 (tn σ20)) 0 (kGoN σ4 (tn (σ2 0)) (tn (σ5 0)) σ9 σ10 σ11 (tn (σ8 0)) (-4) (xreg σ19 0, σ24, σ25) 0).1) (nI (xnU (tn σ20))) σ21 σ22 σ23 (kGoN σ4 (tn (σ2 0)) (tn (σ5 0)) σ9 σ10 σ11 (tn (σ8 0)) (-4) (xreg σ19 0, σ24, σ25) 0).2.1 z9 σ26 σ27 σ28 σ29 σ30] A s.heap s H locs) e6) hM
      refine x_loop (ι := Nat) (fun k => [(0, .ref (ad 0)), (1, .int (nI n)), (2, .int (nI k))]) (fun k => [w9 q ad σ0 σ1 σ2 σ3 σ4 σ5 σ6 σ7 σ8 σ9 σ10 σ11 σ12 σ13 σ14 σ15 σ16 σ17 σ18 (xspl (xnote σ19 (tn σ20)) 0 (kGoN σ4 (tn (σ2 0)) (tn (σ5 0)) σ9 σ10 σ11 (tn (σ8 0)) (-4) (xreg σ19 0, σ24, σ25) k).1) (nI (xnU (tn σ20))) σ21 σ22 σ23 (kGoN σ4 (tn (σ2 0)) (tn (σ5 0)) σ9 σ10 σ11 (tn (σ8 0)) (-4) (xreg σ19 0, σ24, σ25) k).2.1 (kGoN σ4 (tn (σ2 0)) (tn (σ5 0)) σ9 σ10 σ11 (tn (σ8 0)) (-4) (xreg σ19 0, σ24, σ25) k).2.2 σ26 σ27 σ28 σ29 σ30]) (fun k => k ≤ n) (fun k => n - k) 0 (by omega) hM (lv_sub hl [1, 2, 0] rfl) ?_
      intro k hI8 ih7 H locs hM ls hl
      have hM : xM D (TY q) [w9 q ad σ0 σ1 σ2 σ3 σ4 σ5 σ6 σ7 σ8 σ9 σ10 σ11 σ12 σ13 σ14 σ15 σ16 σ17 σ18 (xspl (xnote σ19 (tn σ20)) 0 (kGoN σ4 (tn (σ2 0)) (tn (σ5 0)) σ9 σ10 σ11 (tn (σ8 0)) (-4) (xreg σ19 0, σ24, σ25) k).1) (nI (xnU (tn σ20))) σ21 σ22 σ23 (kGoN σ4 (tn (σ2 0)) (tn (σ5 0)) σ9 σ10 σ11 (tn (σ8 0)) (-4) (xreg σ19 0, σ24, σ25) k).2.1 (kGoN σ4 (tn (σ2 0)) (tn (σ5 0)) σ9 σ10 σ11 (tn (σ8 0)) (-4) (xreg σ19 0, σ24, σ25) k).2.2 σ26 σ27 σ28 σ29 σ30] A s.heap s H locs := hM
      have hl : lv_has ls 3 [(0, .ref (ad 0)), (1, .int (nI n)), (2, .int (nI k))] := hl
      have hI8 : k ≤ n := hI8
      try dsimp only
      refine lv_iload_n hx hb dX9_pass_35 rfl (lv_at hl 2 rfl) ?_
      refine lv_iload_n hx hb dX9_pass_36 rfl (lv_at hl 1 rfl) ?_
      refine x_icmp_ge (x := k) (y := n) (tgt := 53) hx hb (by omega) (by omega) dX9_pass_37 (by decide) (fun c9 => ?_) (fun c9 => ?_)
      · refine lv_aload_n hx hb dX9_pass_53 rfl (lv_at hl 0 rfl) ?_
        refine lv_iconst (v := nI 0) hx hb dX9_pass_54 (by decide) ?_
        refine x_calli (bc := [w9 q ad σ0 σ1 σ2 σ3 σ4 σ5 σ6 σ7 σ8 σ9 σ10 σ11 σ12 σ13 σ14 σ15 σ16 σ17 σ18 (xspl (xnote σ19 (tn σ20)) 0 (kGoN σ4 (tn (σ2 0)) (tn (σ5 0)) σ9 σ10 σ11 (tn (σ8 0)) (-4) (xreg σ19 0, σ24, σ25) k).1) (nI (xnU (tn σ20))) σ21 σ22 σ23 (kGoN σ4 (tn (σ2 0)) (tn (σ5 0)) σ9 σ10 σ11 (tn (σ8 0)) (-4) (xreg σ19 0, σ24, σ25) k).2.1 (kGoN σ4 (tn (σ2 0)) (tn (σ5 0)) σ9 σ10 σ11 (tn (σ8 0)) (-4) (xreg σ19 0, σ24, σ25) k).2.2 σ26 σ27 σ28 σ29 σ30]) (br := []) hM [0] [] rfl rfl rfl (by decide) (x_runV (As := [.int (nI 0)]) (rest := []) hfix (c_X9_minuteOfK l D q ad σ0 σ1 σ2 σ3 σ4 σ5 σ6 σ7 σ8 σ9 σ10 σ11 σ12 σ13 σ14 σ15 σ16 σ17 σ18 (xspl (xnote σ19 (tn σ20)) 0 (kGoN σ4 (tn (σ2 0)) (tn (σ5 0)) σ9 σ10 σ11 (tn (σ8 0)) (-4) (xreg σ19 0, σ24, σ25) k).1) (nI (xnU (tn σ20))) σ21 σ22 σ23 (kGoN σ4 (tn (σ2 0)) (tn (σ5 0)) σ9 σ10 σ11 (tn (σ8 0)) (-4) (xreg σ19 0, σ24, σ25) k).2.1 (kGoN σ4 (tn (σ2 0)) (tn (σ5 0)) σ9 σ10 σ11 (tn (σ8 0)) (-4) (xreg σ19 0, σ24, σ25) k).2.2 σ26 σ27 σ28 σ29 σ30 (xnote σ19 (tn σ20)) 0 (kGoN σ4 (tn (σ2 0)) (tn (σ5 0)) σ9 σ10 σ11 (tn (σ8 0)) (-4) (xreg σ19 0, σ24, σ25) k).1 (by omega)) (cwV 1 hts gX9_pass_X9_minuteOf rfl rfl rfl (by decide +kernel) ⟨Nat.le_of_ble_eq_true rfl, Nat.le_of_ble_eq_true rfl⟩) hM [0] rfl rfl 0 0 rfl rfl rfl rfl rfl hl.1 rfl (Nat.le_of_ble_eq_true rfl) dX9_pass_55 ⟨Nat.le_of_ble_eq_true rfl, Nat.le_of_ble_eq_true rfl⟩) (fun r u H locs hq hM => ?_)
        subst hq
        have hM : xM D (TY q) [w9 q ad σ0 σ1 σ2 σ3 σ4 σ5 σ6 σ7 σ8 σ9 σ10 σ11 σ12 σ13 σ14 σ15 σ16 σ17 σ18 (xspl (xnote σ19 (tn σ20)) 0 (kGoN σ4 (tn (σ2 0)) (tn (σ5 0)) σ9 σ10 σ11 (tn (σ8 0)) (-4) (xreg σ19 0, σ24, σ25) k).1) (nI (xnU (tn σ20))) σ21 σ22 σ23 (kGoN σ4 (tn (σ2 0)) (tn (σ5 0)) σ9 σ10 σ11 (tn (σ8 0)) (-4) (xreg σ19 0, σ24, σ25) k).2.1 (kGoN σ4 (tn (σ2 0)) (tn (σ5 0)) σ9 σ10 σ11 (tn (σ8 0)) (-4) (xreg σ19 0, σ24, σ25) k).2.2 σ26 σ27 σ28 σ29 σ30] A s.heap s H locs := hM
        refine x_cast (y := nI (tn (xreg σ19 0 25) + k)) (okK_goM hE hK0 k (by omega)).2 ?_
        have e10 : ((xspl (xnote σ19 (tn σ20)) 0 (kGoN σ4 (tn (σ2 0)) (tn (σ5 0)) σ9 σ10 σ11 (tn (σ8 0)) (-4) (xreg σ19 0, σ24, σ25) k).1) : Nat → Int32) = (xspl (xnote σ19 (tn σ20)) 0 (kGoN σ4 (tn (σ2 0)) (tn (σ5 0)) σ9 σ10 σ11 (tn (σ8 0)) (-4) (xreg σ19 0, σ24, σ25) n).1) := by (rw [show k = n by omega])
        have hM : xM D (TY q) [w9 q ad σ0 σ1 σ2 σ3 σ4 σ5 σ6 σ7 σ8 σ9 σ10 σ11 σ12 σ13 σ14 σ15 σ16 σ17 σ18 (xspl (xnote σ19 (tn σ20)) 0 (kGoN σ4 (tn (σ2 0)) (tn (σ5 0)) σ9 σ10 σ11 (tn (σ8 0)) (-4) (xreg σ19 0, σ24, σ25) n).1) (nI (xnU (tn σ20))) σ21 σ22 σ23 (kGoN σ4 (tn (σ2 0)) (tn (σ5 0)) σ9 σ10 σ11 (tn (σ8 0)) (-4) (xreg σ19 0, σ24, σ25) k).2.1 (kGoN σ4 (tn (σ2 0)) (tn (σ5 0)) σ9 σ10 σ11 (tn (σ8 0)) (-4) (xreg σ19 0, σ24, σ25) k).2.2 σ26 σ27 σ28 σ29 σ30] A s.heap s H locs := Eq.mp (congrArg (fun z9 => xM D (TY q) [w9 q ad σ0 σ1 σ2 σ3 σ4 σ5 σ6 σ7 σ8 σ9 σ10 σ11 σ12 σ13 σ14 σ15 σ16 σ17 σ18 z9 (nI (xnU (tn σ20))) σ21 σ22 σ23 (kGoN σ4 (tn (σ2 0)) (tn (σ5 0)) σ9 σ10 σ11 (tn (σ8 0)) (-4) (xreg σ19 0, σ24, σ25) k).2.1 (kGoN σ4 (tn (σ2 0)) (tn (σ5 0)) σ9 σ10 σ11 (tn (σ8 0)) (-4) (xreg σ19 0, σ24, σ25) k).2.2 σ26 σ27 σ28 σ29 σ30] A s.heap s H locs) e10) hM
        have e11 : (((kGoN σ4 (tn (σ2 0)) (tn (σ5 0)) σ9 σ10 σ11 (tn (σ8 0)) (-4) (xreg σ19 0, σ24, σ25) k).2.1) : Int32) = ((kGoN σ4 (tn (σ2 0)) (tn (σ5 0)) σ9 σ10 σ11 (tn (σ8 0)) (-4) (xreg σ19 0, σ24, σ25) n).2.1) := by (rw [show k = n by omega])
        have hM : xM D (TY q) [w9 q ad σ0 σ1 σ2 σ3 σ4 σ5 σ6 σ7 σ8 σ9 σ10 σ11 σ12 σ13 σ14 σ15 σ16 σ17 σ18 (xspl (xnote σ19 (tn σ20)) 0 (kGoN σ4 (tn (σ2 0)) (tn (σ5 0)) σ9 σ10 σ11 (tn (σ8 0)) (-4) (xreg σ19 0, σ24, σ25) n).1) (nI (xnU (tn σ20))) σ21 σ22 σ23 (kGoN σ4 (tn (σ2 0)) (tn (σ5 0)) σ9 σ10 σ11 (tn (σ8 0)) (-4) (xreg σ19 0, σ24, σ25) n).2.1 (kGoN σ4 (tn (σ2 0)) (tn (σ5 0)) σ9 σ10 σ11 (tn (σ8 0)) (-4) (xreg σ19 0, σ24, σ25) k).2.2 σ26 σ27 σ28 σ29 σ30] A s.heap s H locs := Eq.mp (congrArg (fun z9 => xM D (TY q) [w9 q ad σ0 σ1 σ2 σ3 σ4 σ5 σ6 σ7 σ8 σ9 σ10 σ11 σ12 σ13 σ14 σ15 σ16 σ17 σ18 (xspl (xnote σ19 (tn σ20)) 0 (kGoN σ4 (tn (σ2 0)) (tn (σ5 0)) σ9 σ10 σ11 (tn (σ8 0)) (-4) (xreg σ19 0, σ24, σ25) n).1) (nI (xnU (tn σ20))) σ21 σ22 σ23 z9 (kGoN σ4 (tn (σ2 0)) (tn (σ5 0)) σ9 σ10 σ11 (tn (σ8 0)) (-4) (xreg σ19 0, σ24, σ25) k).2.2 σ26 σ27 σ28 σ29 σ30] A s.heap s H locs) e11) hM
        have e12 : (((kGoN σ4 (tn (σ2 0)) (tn (σ5 0)) σ9 σ10 σ11 (tn (σ8 0)) (-4) (xreg σ19 0, σ24, σ25) k).2.2) : Int32) = ((kGoN σ4 (tn (σ2 0)) (tn (σ5 0)) σ9 σ10 σ11 (tn (σ8 0)) (-4) (xreg σ19 0, σ24, σ25) n).2.2) := by (rw [show k = n by omega])
        have hM : xM D (TY q) [w9 q ad σ0 σ1 σ2 σ3 σ4 σ5 σ6 σ7 σ8 σ9 σ10 σ11 σ12 σ13 σ14 σ15 σ16 σ17 σ18 (xspl (xnote σ19 (tn σ20)) 0 (kGoN σ4 (tn (σ2 0)) (tn (σ5 0)) σ9 σ10 σ11 (tn (σ8 0)) (-4) (xreg σ19 0, σ24, σ25) n).1) (nI (xnU (tn σ20))) σ21 σ22 σ23 (kGoN σ4 (tn (σ2 0)) (tn (σ5 0)) σ9 σ10 σ11 (tn (σ8 0)) (-4) (xreg σ19 0, σ24, σ25) n).2.1 (kGoN σ4 (tn (σ2 0)) (tn (σ5 0)) σ9 σ10 σ11 (tn (σ8 0)) (-4) (xreg σ19 0, σ24, σ25) n).2.2 σ26 σ27 σ28 σ29 σ30] A s.heap s H locs := Eq.mp (congrArg (fun z9 => xM D (TY q) [w9 q ad σ0 σ1 σ2 σ3 σ4 σ5 σ6 σ7 σ8 σ9 σ10 σ11 σ12 σ13 σ14 σ15 σ16 σ17 σ18 (xspl (xnote σ19 (tn σ20)) 0 (kGoN σ4 (tn (σ2 0)) (tn (σ5 0)) σ9 σ10 σ11 (tn (σ8 0)) (-4) (xreg σ19 0, σ24, σ25) n).1) (nI (xnU (tn σ20))) σ21 σ22 σ23 (kGoN σ4 (tn (σ2 0)) (tn (σ5 0)) σ9 σ10 σ11 (tn (σ8 0)) (-4) (xreg σ19 0, σ24, σ25) n).2.1 z9 σ26 σ27 σ28 σ29 σ30] A s.heap s H locs) e12) hM
        exact x_iret hx hb hr hlocks () hM (show nI (tn (xreg σ19 0 25) + k) = nI (tn (xreg σ19 0 25) + n) from by (rw [show k = n by omega])) dX9_pass_58
      · refine lv_aload_n hx hb dX9_pass_40 rfl (lv_at hl 0 rfl) ?_
        refine lv_iconst (v := nI 0) hx hb dX9_pass_41 (by decide) ?_
        refine lv_bipush (v := (-4)) hx hb dX9_pass_42 (by decide) ?_
        refine x_callv (bc := [w9 q ad σ0 σ1 σ2 σ3 σ4 σ5 σ6 σ7 σ8 σ9 σ10 σ11 σ12 σ13 σ14 σ15 σ16 σ17 σ18 (xspl (xnote σ19 (tn σ20)) 0 (kGoN σ4 (tn (σ2 0)) (tn (σ5 0)) σ9 σ10 σ11 (tn (σ8 0)) (-4) (xreg σ19 0, σ24, σ25) k).1) (nI (xnU (tn σ20))) σ21 σ22 σ23 (kGoN σ4 (tn (σ2 0)) (tn (σ5 0)) σ9 σ10 σ11 (tn (σ8 0)) (-4) (xreg σ19 0, σ24, σ25) k).2.1 (kGoN σ4 (tn (σ2 0)) (tn (σ5 0)) σ9 σ10 σ11 (tn (σ8 0)) (-4) (xreg σ19 0, σ24, σ25) k).2.2 σ26 σ27 σ28 σ29 σ30]) (br := []) hM [0] [] rfl rfl rfl (by decide) (x_runV (As := [.int (nI 0), .int (-4)]) (rest := []) hfix (c_X9_goK l D q ad σ0 σ1 σ2 σ3 σ4 σ5 σ6 σ7 σ8 σ9 σ10 σ11 σ12 σ13 σ14 σ15 σ16 σ17 σ18 (xspl (xnote σ19 (tn σ20)) 0 (kGoN σ4 (tn (σ2 0)) (tn (σ5 0)) σ9 σ10 σ11 (tn (σ8 0)) (-4) (xreg σ19 0, σ24, σ25) k).1) (nI (xnU (tn σ20))) σ21 σ22 σ23 (kGoN σ4 (tn (σ2 0)) (tn (σ5 0)) σ9 σ10 σ11 (tn (σ8 0)) (-4) (xreg σ19 0, σ24, σ25) k).2.1 (kGoN σ4 (tn (σ2 0)) (tn (σ5 0)) σ9 σ10 σ11 (tn (σ8 0)) (-4) (xreg σ19 0, σ24, σ25) k).2.2 σ26 σ27 σ28 σ29 σ30 (xnote σ19 (tn σ20)) 0 (kGoN σ4 (tn (σ2 0)) (tn (σ5 0)) σ9 σ10 σ11 (tn (σ8 0)) (-4) (xreg σ19 0, σ24, σ25) k).1 (-4) (by omega) hc2 hc5 hc8 hE (okK_goM hE hK0 k (by omega)).1 (by rw [(okK_goM (kd := σ4) (G := tn (σ2 0)) (nH := tn (σ5 0)) (z := (-4)) (w := σ24) (hu := σ25) hE hK0 k (by omega)).2, tn_nI (by omega)]; omega)) (cwV 2 hts gX9_pass_X9_go rfl rfl rfl (by decide +kernel) ⟨Nat.le_of_ble_eq_true rfl, Nat.le_of_ble_eq_true rfl⟩) hM [0] rfl rfl 0 0 rfl rfl rfl rfl rfl hl.1 rfl (Nat.le_of_ble_eq_true rfl) dX9_pass_44 ⟨Nat.le_of_ble_eq_true rfl, Nat.le_of_ble_eq_true rfl⟩) (fun u H locs hq hM => ?_)
        have hM : xM D (TY q) [w9 q ad σ0 σ1 σ2 σ3 σ4 σ5 σ6 σ7 σ8 σ9 σ10 σ11 σ12 σ13 σ14 σ15 σ16 σ17 σ18 (xspl (xnote σ19 (tn σ20)) 0 (kGo σ4 (tn (σ2 0)) (tn (σ5 0)) σ9 σ10 σ11 (tn (σ8 0)) (-4) ((kGoN σ4 (tn (σ2 0)) (tn (σ5 0)) σ9 σ10 σ11 (tn (σ8 0)) (-4) (xreg σ19 0, σ24, σ25) k).1, (kGoN σ4 (tn (σ2 0)) (tn (σ5 0)) σ9 σ10 σ11 (tn (σ8 0)) (-4) (xreg σ19 0, σ24, σ25) k).2.1, (kGoN σ4 (tn (σ2 0)) (tn (σ5 0)) σ9 σ10 σ11 (tn (σ8 0)) (-4) (xreg σ19 0, σ24, σ25) k).2.2)).1) (nI (xnU (tn σ20))) σ21 σ22 σ23 (kGo σ4 (tn (σ2 0)) (tn (σ5 0)) σ9 σ10 σ11 (tn (σ8 0)) (-4) ((kGoN σ4 (tn (σ2 0)) (tn (σ5 0)) σ9 σ10 σ11 (tn (σ8 0)) (-4) (xreg σ19 0, σ24, σ25) k).1, (kGoN σ4 (tn (σ2 0)) (tn (σ5 0)) σ9 σ10 σ11 (tn (σ8 0)) (-4) (xreg σ19 0, σ24, σ25) k).2.1, (kGoN σ4 (tn (σ2 0)) (tn (σ5 0)) σ9 σ10 σ11 (tn (σ8 0)) (-4) (xreg σ19 0, σ24, σ25) k).2.2)).2.1 (kGo σ4 (tn (σ2 0)) (tn (σ5 0)) σ9 σ10 σ11 (tn (σ8 0)) (-4) ((kGoN σ4 (tn (σ2 0)) (tn (σ5 0)) σ9 σ10 σ11 (tn (σ8 0)) (-4) (xreg σ19 0, σ24, σ25) k).1, (kGoN σ4 (tn (σ2 0)) (tn (σ5 0)) σ9 σ10 σ11 (tn (σ8 0)) (-4) (xreg σ19 0, σ24, σ25) k).2.1, (kGoN σ4 (tn (σ2 0)) (tn (σ5 0)) σ9 σ10 σ11 (tn (σ8 0)) (-4) (xreg σ19 0, σ24, σ25) k).2.2)).2.2 σ26 σ27 σ28 σ29 σ30] A s.heap s H locs := hM
        refine lv_iinc (v := nI (k + 1)) (lv' := [(2, .int (nI (k + 1))), (0, .ref (ad 0)), (1, .int (nI n))]) hx hb dX9_pass_47 hl (k := 2) rfl (x_inc _ 1) (by decide) rfl (fun ls hl => ?_)
        refine lv_goto (tgt := 35) hx hb dX9_pass_50 (by decide) ?_
        have e13 : ((xspl (xnote σ19 (tn σ20)) 0 (kGo σ4 (tn (σ2 0)) (tn (σ5 0)) σ9 σ10 σ11 (tn (σ8 0)) (-4) ((kGoN σ4 (tn (σ2 0)) (tn (σ5 0)) σ9 σ10 σ11 (tn (σ8 0)) (-4) (xreg σ19 0, σ24, σ25) k).1, (kGoN σ4 (tn (σ2 0)) (tn (σ5 0)) σ9 σ10 σ11 (tn (σ8 0)) (-4) (xreg σ19 0, σ24, σ25) k).2.1, (kGoN σ4 (tn (σ2 0)) (tn (σ5 0)) σ9 σ10 σ11 (tn (σ8 0)) (-4) (xreg σ19 0, σ24, σ25) k).2.2)).1) : Nat → Int32) = (xspl (xnote σ19 (tn σ20)) 0 (kGoN σ4 (tn (σ2 0)) (tn (σ5 0)) σ9 σ10 σ11 (tn (σ8 0)) (-4) (xreg σ19 0, σ24, σ25) (k + 1)).1) := by rfl
        have hM : xM D (TY q) [w9 q ad σ0 σ1 σ2 σ3 σ4 σ5 σ6 σ7 σ8 σ9 σ10 σ11 σ12 σ13 σ14 σ15 σ16 σ17 σ18 (xspl (xnote σ19 (tn σ20)) 0 (kGoN σ4 (tn (σ2 0)) (tn (σ5 0)) σ9 σ10 σ11 (tn (σ8 0)) (-4) (xreg σ19 0, σ24, σ25) (k + 1)).1) (nI (xnU (tn σ20))) σ21 σ22 σ23 (kGo σ4 (tn (σ2 0)) (tn (σ5 0)) σ9 σ10 σ11 (tn (σ8 0)) (-4) ((kGoN σ4 (tn (σ2 0)) (tn (σ5 0)) σ9 σ10 σ11 (tn (σ8 0)) (-4) (xreg σ19 0, σ24, σ25) k).1, (kGoN σ4 (tn (σ2 0)) (tn (σ5 0)) σ9 σ10 σ11 (tn (σ8 0)) (-4) (xreg σ19 0, σ24, σ25) k).2.1, (kGoN σ4 (tn (σ2 0)) (tn (σ5 0)) σ9 σ10 σ11 (tn (σ8 0)) (-4) (xreg σ19 0, σ24, σ25) k).2.2)).2.1 (kGo σ4 (tn (σ2 0)) (tn (σ5 0)) σ9 σ10 σ11 (tn (σ8 0)) (-4) ((kGoN σ4 (tn (σ2 0)) (tn (σ5 0)) σ9 σ10 σ11 (tn (σ8 0)) (-4) (xreg σ19 0, σ24, σ25) k).1, (kGoN σ4 (tn (σ2 0)) (tn (σ5 0)) σ9 σ10 σ11 (tn (σ8 0)) (-4) (xreg σ19 0, σ24, σ25) k).2.1, (kGoN σ4 (tn (σ2 0)) (tn (σ5 0)) σ9 σ10 σ11 (tn (σ8 0)) (-4) (xreg σ19 0, σ24, σ25) k).2.2)).2.2 σ26 σ27 σ28 σ29 σ30] A s.heap s H locs := Eq.mp (congrArg (fun z9 => xM D (TY q) [w9 q ad σ0 σ1 σ2 σ3 σ4 σ5 σ6 σ7 σ8 σ9 σ10 σ11 σ12 σ13 σ14 σ15 σ16 σ17 σ18 z9 (nI (xnU (tn σ20))) σ21 σ22 σ23 (kGo σ4 (tn (σ2 0)) (tn (σ5 0)) σ9 σ10 σ11 (tn (σ8 0)) (-4) ((kGoN σ4 (tn (σ2 0)) (tn (σ5 0)) σ9 σ10 σ11 (tn (σ8 0)) (-4) (xreg σ19 0, σ24, σ25) k).1, (kGoN σ4 (tn (σ2 0)) (tn (σ5 0)) σ9 σ10 σ11 (tn (σ8 0)) (-4) (xreg σ19 0, σ24, σ25) k).2.1, (kGoN σ4 (tn (σ2 0)) (tn (σ5 0)) σ9 σ10 σ11 (tn (σ8 0)) (-4) (xreg σ19 0, σ24, σ25) k).2.2)).2.1 (kGo σ4 (tn (σ2 0)) (tn (σ5 0)) σ9 σ10 σ11 (tn (σ8 0)) (-4) ((kGoN σ4 (tn (σ2 0)) (tn (σ5 0)) σ9 σ10 σ11 (tn (σ8 0)) (-4) (xreg σ19 0, σ24, σ25) k).1, (kGoN σ4 (tn (σ2 0)) (tn (σ5 0)) σ9 σ10 σ11 (tn (σ8 0)) (-4) (xreg σ19 0, σ24, σ25) k).2.1, (kGoN σ4 (tn (σ2 0)) (tn (σ5 0)) σ9 σ10 σ11 (tn (σ8 0)) (-4) (xreg σ19 0, σ24, σ25) k).2.2)).2.2 σ26 σ27 σ28 σ29 σ30] A s.heap s H locs) e13) hM
        have e14 : (((kGo σ4 (tn (σ2 0)) (tn (σ5 0)) σ9 σ10 σ11 (tn (σ8 0)) (-4) ((kGoN σ4 (tn (σ2 0)) (tn (σ5 0)) σ9 σ10 σ11 (tn (σ8 0)) (-4) (xreg σ19 0, σ24, σ25) k).1, (kGoN σ4 (tn (σ2 0)) (tn (σ5 0)) σ9 σ10 σ11 (tn (σ8 0)) (-4) (xreg σ19 0, σ24, σ25) k).2.1, (kGoN σ4 (tn (σ2 0)) (tn (σ5 0)) σ9 σ10 σ11 (tn (σ8 0)) (-4) (xreg σ19 0, σ24, σ25) k).2.2)).2.1) : Int32) = ((kGoN σ4 (tn (σ2 0)) (tn (σ5 0)) σ9 σ10 σ11 (tn (σ8 0)) (-4) (xreg σ19 0, σ24, σ25) (k + 1)).2.1) := by rfl
        have hM : xM D (TY q) [w9 q ad σ0 σ1 σ2 σ3 σ4 σ5 σ6 σ7 σ8 σ9 σ10 σ11 σ12 σ13 σ14 σ15 σ16 σ17 σ18 (xspl (xnote σ19 (tn σ20)) 0 (kGoN σ4 (tn (σ2 0)) (tn (σ5 0)) σ9 σ10 σ11 (tn (σ8 0)) (-4) (xreg σ19 0, σ24, σ25) (k + 1)).1) (nI (xnU (tn σ20))) σ21 σ22 σ23 (kGoN σ4 (tn (σ2 0)) (tn (σ5 0)) σ9 σ10 σ11 (tn (σ8 0)) (-4) (xreg σ19 0, σ24, σ25) (k + 1)).2.1 (kGo σ4 (tn (σ2 0)) (tn (σ5 0)) σ9 σ10 σ11 (tn (σ8 0)) (-4) ((kGoN σ4 (tn (σ2 0)) (tn (σ5 0)) σ9 σ10 σ11 (tn (σ8 0)) (-4) (xreg σ19 0, σ24, σ25) k).1, (kGoN σ4 (tn (σ2 0)) (tn (σ5 0)) σ9 σ10 σ11 (tn (σ8 0)) (-4) (xreg σ19 0, σ24, σ25) k).2.1, (kGoN σ4 (tn (σ2 0)) (tn (σ5 0)) σ9 σ10 σ11 (tn (σ8 0)) (-4) (xreg σ19 0, σ24, σ25) k).2.2)).2.2 σ26 σ27 σ28 σ29 σ30] A s.heap s H locs := Eq.mp (congrArg (fun z9 => xM D (TY q) [w9 q ad σ0 σ1 σ2 σ3 σ4 σ5 σ6 σ7 σ8 σ9 σ10 σ11 σ12 σ13 σ14 σ15 σ16 σ17 σ18 (xspl (xnote σ19 (tn σ20)) 0 (kGoN σ4 (tn (σ2 0)) (tn (σ5 0)) σ9 σ10 σ11 (tn (σ8 0)) (-4) (xreg σ19 0, σ24, σ25) (k + 1)).1) (nI (xnU (tn σ20))) σ21 σ22 σ23 z9 (kGo σ4 (tn (σ2 0)) (tn (σ5 0)) σ9 σ10 σ11 (tn (σ8 0)) (-4) ((kGoN σ4 (tn (σ2 0)) (tn (σ5 0)) σ9 σ10 σ11 (tn (σ8 0)) (-4) (xreg σ19 0, σ24, σ25) k).1, (kGoN σ4 (tn (σ2 0)) (tn (σ5 0)) σ9 σ10 σ11 (tn (σ8 0)) (-4) (xreg σ19 0, σ24, σ25) k).2.1, (kGoN σ4 (tn (σ2 0)) (tn (σ5 0)) σ9 σ10 σ11 (tn (σ8 0)) (-4) (xreg σ19 0, σ24, σ25) k).2.2)).2.2 σ26 σ27 σ28 σ29 σ30] A s.heap s H locs) e14) hM
        have e15 : (((kGo σ4 (tn (σ2 0)) (tn (σ5 0)) σ9 σ10 σ11 (tn (σ8 0)) (-4) ((kGoN σ4 (tn (σ2 0)) (tn (σ5 0)) σ9 σ10 σ11 (tn (σ8 0)) (-4) (xreg σ19 0, σ24, σ25) k).1, (kGoN σ4 (tn (σ2 0)) (tn (σ5 0)) σ9 σ10 σ11 (tn (σ8 0)) (-4) (xreg σ19 0, σ24, σ25) k).2.1, (kGoN σ4 (tn (σ2 0)) (tn (σ5 0)) σ9 σ10 σ11 (tn (σ8 0)) (-4) (xreg σ19 0, σ24, σ25) k).2.2)).2.2) : Int32) = ((kGoN σ4 (tn (σ2 0)) (tn (σ5 0)) σ9 σ10 σ11 (tn (σ8 0)) (-4) (xreg σ19 0, σ24, σ25) (k + 1)).2.2) := by rfl
        have hM : xM D (TY q) [w9 q ad σ0 σ1 σ2 σ3 σ4 σ5 σ6 σ7 σ8 σ9 σ10 σ11 σ12 σ13 σ14 σ15 σ16 σ17 σ18 (xspl (xnote σ19 (tn σ20)) 0 (kGoN σ4 (tn (σ2 0)) (tn (σ5 0)) σ9 σ10 σ11 (tn (σ8 0)) (-4) (xreg σ19 0, σ24, σ25) (k + 1)).1) (nI (xnU (tn σ20))) σ21 σ22 σ23 (kGoN σ4 (tn (σ2 0)) (tn (σ5 0)) σ9 σ10 σ11 (tn (σ8 0)) (-4) (xreg σ19 0, σ24, σ25) (k + 1)).2.1 (kGoN σ4 (tn (σ2 0)) (tn (σ5 0)) σ9 σ10 σ11 (tn (σ8 0)) (-4) (xreg σ19 0, σ24, σ25) (k + 1)).2.2 σ26 σ27 σ28 σ29 σ30] A s.heap s H locs := Eq.mp (congrArg (fun z9 => xM D (TY q) [w9 q ad σ0 σ1 σ2 σ3 σ4 σ5 σ6 σ7 σ8 σ9 σ10 σ11 σ12 σ13 σ14 σ15 σ16 σ17 σ18 (xspl (xnote σ19 (tn σ20)) 0 (kGoN σ4 (tn (σ2 0)) (tn (σ5 0)) σ9 σ10 σ11 (tn (σ8 0)) (-4) (xreg σ19 0, σ24, σ25) (k + 1)).1) (nI (xnU (tn σ20))) σ21 σ22 σ23 (kGoN σ4 (tn (σ2 0)) (tn (σ5 0)) σ9 σ10 σ11 (tn (σ8 0)) (-4) (xreg σ19 0, σ24, σ25) (k + 1)).2.1 z9 σ26 σ27 σ28 σ29 σ30] A s.heap s H locs) e15) hM
        have hl : lv_has ls 3 [(0, .ref (ad 0)), (1, .int (nI n)), (2, .int (nI (k + 1)))] := lv_sub hl [1, 2, 0] rfl
        exact ih7 (k + 1) (show n - (k + 1) < n - k from by omega) (show (k + 1) ≤ n from by omega) _ _ hM _ hl
    · exfalso; omega
  · exfalso; omega

set_option maxHeartbeats 4000000 in
set_option maxRecDepth 100000 in
theorem c_X9_passB (l : Launch) (D : va_G) (q : Nat → ClassId) (ad : Nat → Nat) (σ0 : Int32) (σ1 : Nat → Int32) (σ2 : Nat → Int32) (σ3 : Nat → Int32) (σ4 : Nat → Int32) (σ5 : Nat → Int32) (σ6 : Nat → Int32) (σ7 : Nat → Int32) (σ8 : Nat → Int32) (σ9 : Nat → Int32) (σ10 : Nat → Int32) (σ11 : Nat → Int32) (σ12 : Nat → Int32) (σ13 : Nat → Int32) (σ14 : Nat → Int32) (σ15 : Nat → Int32) (σ16 : Nat → Int32) (σ17 : Nat → Int32) (σ18 : Nat → Int32) (σ19 : Nat → Int32) (σ20 : Int32) (σ21 : Int32) (σ22 : Int32) (σ23 : Nat → Int32) (σ24 : Int32) (σ25 : Int32) (σ26 : Nat → Int32) (σ27 : Nat → Int32) (σ28 : Nat → Int32) (σ29 : Nat → Int32) (σ30 : Nat → Int32) (n : Int32) (nz : Int) (h_nz : n.toInt = nz) (hbad : ¬ (1 ≤ nz ∧ nz ≤ 60)) : xC l yX9_pass wsX9_pass ({ frames := 3, cells := 0, slots := 0, locals := 74 }) D (TY q) [w9 q ad σ0 σ1 σ2 σ3 σ4 σ5 σ6 σ7 σ8 σ9 σ10 σ11 σ12 σ13 σ14 σ15 σ16 σ17 σ18 σ19 σ20 σ21 σ22 σ23 σ24 σ25 σ26 σ27 σ28 σ29 σ30] [.ref (ad 0), .int n] (xQi D (TY q) (fun (r : Int32) (_ : Unit) => r = (-1)) (fun _ => [w9 q ad σ0 σ1 σ2 σ3 σ4 σ5 σ6 σ7 σ8 σ9 σ10 σ11 σ12 σ13 σ14 σ15 σ16 σ17 σ18 σ19 σ20 σ21 σ22 σ23 σ24 σ25 σ26 σ27 σ28 σ29 σ30])) 0 0 := by
  refine x_enter (cc := cX9_pass) (maxL := 3) (ret := (some .int)) (by decide) rfl (Nat.le_of_ble_eq_true rfl) ?_
  intro p e s m below meth c A ls H locs hfix hr hlocks hinit hM hl
  obtain ⟨hx, hb, hml, hown, hts⟩ := id hfix
  have hl : lv_has ls 3 [(0, .ref (ad 0)), (1, .int n)] := hl
  refine lv_iload_n hx hb dX9_pass_0 rfl (lv_at hl 1 rfl) ?_
  refine x_i2l hx hb dX9_pass_1 ?_
  refine lv_lconst (v := 1) hx hb dX9_pass_2 (by decide) ?_
  refine lv_ldc2 (v := 60) hx hb hown (hts (.constantLong RX9 233 (60)) (by decide +kernel)) dX9_pass_3 ?_
  refine x_calli (bc := []) (br := [w9 q ad σ0 σ1 σ2 σ3 σ4 σ5 σ6 σ7 σ8 σ9 σ10 σ11 σ12 σ13 σ14 σ15 σ16 σ17 σ18 σ19 σ20 σ21 σ22 σ23 σ24 σ25 σ26 σ27 σ28 σ29 σ30]) hM [] [0] rfl rfl rfl (by decide) (x_runS (As := [.long n.toInt64, .long (1 : Int64), .long (60 : Int64)]) (rest := []) hfix (c_X9_in l D q n.toInt64 (1 : Int64) (60 : Int64) nz (1 : Int) (60 : Int) ((Jvm.Kit.i64_of_i32 _).trans h_nz) (by decide) (by decide)) (va_cwS 3 hts gX9_pass_X9_in rfl rfl rfl (by decide +kernel) ⟨Nat.le_of_ble_eq_true rfl, Nat.le_of_ble_eq_true rfl⟩) hM [] rfl rfl rfl hl.1 rfl (Nat.le_of_ble_eq_true rfl) dX9_pass_6 ⟨Nat.le_of_ble_eq_true rfl, Nat.le_of_ble_eq_true rfl⟩) (fun r u H locs hq hM => ?_)
  subst hq
  have hM : xM D (TY q) [w9 q ad σ0 σ1 σ2 σ3 σ4 σ5 σ6 σ7 σ8 σ9 σ10 σ11 σ12 σ13 σ14 σ15 σ16 σ17 σ18 σ19 σ20 σ21 σ22 σ23 σ24 σ25 σ26 σ27 σ28 σ29 σ30] A s.heap s H locs := hM
  refine x_ifz_ne (P := (1 : Int) ≤ nz ∧ nz ≤ (60 : Int)) (tgt := 14) hx hb dX9_pass_9 (by decide) (fun c1 => ?_) (fun c1 => ?_)
  · exfalso; omega
  · refine lv_iconst (v := (-1)) hx hb dX9_pass_12 (by decide) ?_
    exact x_iret hx hb hr hlocks () hM (show (-1) = (-1) from rfl) dX9_pass_13

set_option maxHeartbeats 4000000 in
set_option maxRecDepth 100000 in
theorem c_X9_passN (l : Launch) (D : va_G) (q : Nat → ClassId) (ad : Nat → Nat) (σ0 : Int32) (σ1 : Nat → Int32) (σ2 : Nat → Int32) (σ3 : Nat → Int32) (σ4 : Nat → Int32) (σ5 : Nat → Int32) (σ6 : Nat → Int32) (σ7 : Nat → Int32) (σ8 : Nat → Int32) (σ9 : Nat → Int32) (σ10 : Nat → Int32) (σ11 : Nat → Int32) (σ12 : Nat → Int32) (σ13 : Nat → Int32) (σ14 : Nat → Int32) (σ15 : Nat → Int32) (σ16 : Nat → Int32) (σ17 : Nat → Int32) (σ18 : Nat → Int32) (σ19 : Nat → Int32) (σ20 : Int32) (σ21 : Int32) (σ22 : Int32) (σ23 : Nat → Int32) (σ24 : Int32) (σ25 : Int32) (σ26 : Nat → Int32) (σ27 : Nat → Int32) (σ28 : Nat → Int32) (σ29 : Nat → Int32) (σ30 : Nat → Int32) (n : Nat) (hn1 : 1 ≤ n ∧ n ≤ 60) (hnT : 60 < tn (xreg σ19 0 25) + n) (hK0 : okK (xreg σ19 0)) : xC l yX9_pass wsX9_pass ({ frames := 3, cells := 0, slots := 0, locals := 74 }) D (TY q) [w9 q ad σ0 σ1 σ2 σ3 σ4 σ5 σ6 σ7 σ8 σ9 σ10 σ11 σ12 σ13 σ14 σ15 σ16 σ17 σ18 σ19 σ20 σ21 σ22 σ23 σ24 σ25 σ26 σ27 σ28 σ29 σ30] [.ref (ad 0), .int (nI n)] (xQi D (TY q) (fun (r : Int32) (_ : Unit) => r = (-2)) (fun _ => [w9 q ad σ0 σ1 σ2 σ3 σ4 σ5 σ6 σ7 σ8 σ9 σ10 σ11 σ12 σ13 σ14 σ15 σ16 σ17 σ18 σ19 σ20 σ21 σ22 σ23 σ24 σ25 σ26 σ27 σ28 σ29 σ30])) 0 0 := by
  refine x_enter (cc := cX9_pass) (maxL := 3) (ret := (some .int)) (by decide) rfl (Nat.le_of_ble_eq_true rfl) ?_
  intro p e s m below meth c A ls H locs hfix hr hlocks hinit hM hl
  obtain ⟨hx, hb, hml, hown, hts⟩ := id hfix
  have hl : lv_has ls 3 [(0, .ref (ad 0)), (1, .int (nI n))] := hl
  have hT0 := hK0.1.2
  refine lv_iload_n hx hb dX9_pass_0 rfl (lv_at hl 1 rfl) ?_
  refine x_i2l hx hb dX9_pass_1 ?_
  refine lv_lconst (v := 1) hx hb dX9_pass_2 (by decide) ?_
  refine lv_ldc2 (v := 60) hx hb hown (hts (.constantLong RX9 233 (60)) (by decide +kernel)) dX9_pass_3 ?_
  refine x_calli (bc := []) (br := [w9 q ad σ0 σ1 σ2 σ3 σ4 σ5 σ6 σ7 σ8 σ9 σ10 σ11 σ12 σ13 σ14 σ15 σ16 σ17 σ18 σ19 σ20 σ21 σ22 σ23 σ24 σ25 σ26 σ27 σ28 σ29 σ30]) hM [] [0] rfl rfl rfl (by decide) (x_runS (As := [.long ((nI n).toInt64), .long (1 : Int64), .long (60 : Int64)]) (rest := []) hfix (c_X9_in l D q ((nI n).toInt64) (1 : Int64) (60 : Int64) ((n : Nat) : Int) (1 : Int) (60 : Int) ((Jvm.Kit.i64_of_i32 _).trans (nI_toInt (n := n) (by omega))) (by decide) (by decide)) (va_cwS 3 hts gX9_pass_X9_in rfl rfl rfl (by decide +kernel) ⟨Nat.le_of_ble_eq_true rfl, Nat.le_of_ble_eq_true rfl⟩) hM [] rfl rfl rfl hl.1 rfl (Nat.le_of_ble_eq_true rfl) dX9_pass_6 ⟨Nat.le_of_ble_eq_true rfl, Nat.le_of_ble_eq_true rfl⟩) (fun r u H locs hq hM => ?_)
  subst hq
  have hM : xM D (TY q) [w9 q ad σ0 σ1 σ2 σ3 σ4 σ5 σ6 σ7 σ8 σ9 σ10 σ11 σ12 σ13 σ14 σ15 σ16 σ17 σ18 σ19 σ20 σ21 σ22 σ23 σ24 σ25 σ26 σ27 σ28 σ29 σ30] A s.heap s H locs := hM
  refine x_ifz_ne (P := (1 : Int) ≤ ((n : Nat) : Int) ∧ ((n : Nat) : Int) ≤ (60 : Int)) (tgt := 14) hx hb dX9_pass_9 (by decide) (fun c1 => ?_) (fun c1 => ?_)
  · refine lv_aload_n hx hb dX9_pass_14 rfl (lv_at hl 0 rfl) ?_
    refine lv_iconst (v := nI 0) hx hb dX9_pass_15 (by decide) ?_
    refine x_calli (bc := [w9 q ad σ0 σ1 σ2 σ3 σ4 σ5 σ6 σ7 σ8 σ9 σ10 σ11 σ12 σ13 σ14 σ15 σ16 σ17 σ18 σ19 σ20 σ21 σ22 σ23 σ24 σ25 σ26 σ27 σ28 σ29 σ30]) (br := []) hM [0] [] rfl rfl rfl (by decide) (x_runV (As := [.int (nI 0)]) (rest := []) hfix (c_X9_minuteOf l D q ad σ0 σ1 σ2 σ3 σ4 σ5 σ6 σ7 σ8 σ9 σ10 σ11 σ12 σ13 σ14 σ15 σ16 σ17 σ18 σ19 σ20 σ21 σ22 σ23 σ24 σ25 σ26 σ27 σ28 σ29 σ30 0 (by omega)) (cwV 1 hts gX9_pass_X9_minuteOf rfl rfl rfl (by decide +kernel) ⟨Nat.le_of_ble_eq_true rfl, Nat.le_of_ble_eq_true rfl⟩) hM [0] rfl rfl 0 0 rfl rfl rfl rfl rfl hl.1 rfl (Nat.le_of_ble_eq_true rfl) dX9_pass_16 ⟨Nat.le_of_ble_eq_true rfl, Nat.le_of_ble_eq_true rfl⟩) (fun r u H locs hq hM => ?_)
    subst hq
    have hM : xM D (TY q) [w9 q ad σ0 σ1 σ2 σ3 σ4 σ5 σ6 σ7 σ8 σ9 σ10 σ11 σ12 σ13 σ14 σ15 σ16 σ17 σ18 σ19 σ20 σ21 σ22 σ23 σ24 σ25 σ26 σ27 σ28 σ29 σ30] A s.heap s H locs := hM
    refine x_cast (y := nI (tn (xreg σ19 0 25))) hK0.1.1 ?_
    refine lv_iload_n hx hb dX9_pass_19 rfl (lv_at hl 1 rfl) ?_
    refine x_iadd (x := tn (xreg σ19 0 25)) (y := n) hx hb dX9_pass_20 ?_
    refine lv_bipush (v := nI 60) hx hb dX9_pass_21 (by decide) ?_
    refine x_icmp_le (x := tn (xreg σ19 0 25) + n) (y := 60) (tgt := 29) hx hb (by omega) (by omega) dX9_pass_23 (by decide) (fun c2 => ?_) (fun c2 => ?_)
    · exfalso; omega
    · refine lv_bipush (v := (-2)) hx hb dX9_pass_26 (by decide) ?_
      exact x_iret hx hb hr hlocks () hM (show (-2) = (-2) from rfl) dX9_pass_28
  · exfalso; omega

set_option maxRecDepth 20000 in
theorem ggX9_give_X9_isHouse : GoodIn wsX9_give wsX9_isHouse := goodIn_r _ [6, 7, 8, 9, 5, 10, 59, 60, 61, 62, 63, 64, 65, 66, 67, 68, 69, 70, 71, 72, 73, 74, 75, 76, 77, 78, 79, 80, 81, 82, 83, 84, 85, 86, 87, 88, 89] (by decide +kernel) (by decide +kernel)
set_option maxRecDepth 20000 in
theorem gX9_give_X9_isHouse : GoodIn wsX9_give (wsV RX9 222 RX9 yX9_isHouse wsX9_isHouse) := goodIn_app (goodIn_of _ (by decide +kernel)) ggX9_give_X9_isHouse
set_option maxRecDepth 20000 in
theorem ggX9_give_X9_isGood : GoodIn wsX9_give wsX9_isGood := goodIn_r _ [14, 15, 8, 9, 5, 10, 59, 60, 61, 62, 63, 64, 65, 66, 67, 68, 69, 70, 71, 72, 73, 74, 75, 76, 77, 78, 79, 80, 81, 82, 83, 84, 85, 86, 87, 88, 89] (by decide +kernel) (by decide +kernel)
set_option maxRecDepth 20000 in
theorem gX9_give_X9_isGood : GoodIn wsX9_give (wsV RX9 225 RX9 yX9_isGood wsX9_isGood) := goodIn_app (goodIn_of _ (by decide +kernel)) ggX9_give_X9_isGood
set_option maxRecDepth 20000 in
theorem ggX9_give_X9_in : GoodIn wsX9_give wsX9_in := goodIn_r _ [10] (by decide +kernel) (by decide +kernel)
set_option maxRecDepth 20000 in
theorem gX9_give_X9_in : GoodIn wsX9_give (va_wsS RX9 104 yX9_in wsX9_in) := goodIn_app (goodIn_of _ (by decide +kernel)) ggX9_give_X9_in
set_option maxRecDepth 20000 in
theorem ggX9_give_X9_refuses : GoodIn wsX9_give wsX9_refuses := goodIn_r _ [19, 20, 21, 22, 23, 5, 24, 25, 26, 27, 28, 29, 30, 31, 32, 33, 59, 60, 61, 62, 63, 64, 65, 66, 67, 68, 69, 70, 71, 72, 73, 74, 75, 76, 77, 78, 79, 80, 81, 82, 83, 84, 85, 86, 87, 88, 89] (by decide +kernel) (by decide +kernel)
set_option maxRecDepth 20000 in
theorem gX9_give_X9_refuses : GoodIn wsX9_give (wsV RX9 243 RX9 yX9_refuses wsX9_refuses) := goodIn_app (goodIn_of _ (by decide +kernel)) ggX9_give_X9_refuses
set_option maxRecDepth 20000 in
theorem ggX9_give_X9_note : GoodIn wsX9_give wsX9_note := goodIn_r _ [37, 38, 39, 40, 41, 5, 42, 25, 59, 60, 61, 62, 63, 64, 65, 66, 67, 68, 69, 70, 71, 72, 73, 74, 75, 76, 77, 78, 79, 80, 81, 82, 83, 84, 85, 86, 87, 88, 89] (by decide +kernel) (by decide +kernel)
set_option maxRecDepth 20000 in
theorem gX9_give_X9_note : GoodIn wsX9_give (wsV RX9 235 RX9 yX9_note wsX9_note) := goodIn_app (goodIn_of _ (by decide +kernel)) ggX9_give_X9_note
set_option maxRecDepth 20000 in
theorem ggX9_give_X9_giveIn : GoodIn wsX9_give wsX9_giveIn := goodIn_r _ [46, 20, 25, 47, 48, 49, 5, 50, 51, 52, 53, 54, 26, 27, 28, 29, 30, 31, 32, 33, 55, 56, 57, 58, 59, 60, 61, 62, 63, 64, 65, 66, 67, 68, 69, 70, 71, 72, 73, 74, 75, 76, 77, 78, 79, 80, 81, 82, 83, 84, 85, 86, 87, 88, 89] (by decide +kernel) (by decide +kernel)
set_option maxRecDepth 20000 in
theorem gX9_give_X9_giveIn : GoodIn wsX9_give (wsV RX9 247 RX9 yX9_giveIn wsX9_giveIn) := goodIn_app (goodIn_of _ (by decide +kernel)) ggX9_give_X9_giveIn
theorem dX9_give_0 : decode cX9_give 0 = .ok (.aload_n 0, 1) := by decide +kernel
theorem dX9_give_1 : decode cX9_give 1 = .ok (.iload_n 1, 1) := by decide +kernel
theorem dX9_give_2 : decode cX9_give 2 = .ok (.invokevirtual 222, 3) := by decide +kernel
theorem dX9_give_5 : decode cX9_give 5 = .ok (.ifCond .eq 37, 3) := by decide +kernel
theorem dX9_give_8 : decode cX9_give 8 = .ok (.aload_n 0, 1) := by decide +kernel
theorem dX9_give_9 : decode cX9_give 9 = .ok (.iload_n 2, 1) := by decide +kernel
theorem dX9_give_10 : decode cX9_give 10 = .ok (.invokevirtual 222, 3) := by decide +kernel
theorem dX9_give_13 : decode cX9_give 13 = .ok (.ifCond .eq 29, 3) := by decide +kernel
theorem dX9_give_16 : decode cX9_give 16 = .ok (.iload_n 1, 1) := by decide +kernel
theorem dX9_give_17 : decode cX9_give 17 = .ok (.iload_n 2, 1) := by decide +kernel
theorem dX9_give_18 : decode cX9_give 18 = .ok (.if_icmp .eq 24, 3) := by decide +kernel
theorem dX9_give_21 : decode cX9_give 21 = .ok (.aload_n 0, 1) := by decide +kernel
theorem dX9_give_22 : decode cX9_give 22 = .ok (.iload_n 3, 1) := by decide +kernel
theorem dX9_give_23 : decode cX9_give 23 = .ok (.invokevirtual 225, 3) := by decide +kernel
theorem dX9_give_26 : decode cX9_give 26 = .ok (.ifCond .eq 16, 3) := by decide +kernel
theorem dX9_give_29 : decode cX9_give 29 = .ok (.iload 4, 2) := by decide +kernel
theorem dX9_give_31 : decode cX9_give 31 = .ok (.i2l, 1) := by decide +kernel
theorem dX9_give_32 : decode cX9_give 32 = .ok (.lconst 1, 1) := by decide +kernel
theorem dX9_give_33 : decode cX9_give 33 = .ok (.ldc2_w 241, 3) := by decide +kernel
theorem dX9_give_36 : decode cX9_give 36 = .ok (.invokestatic 104, 3) := by decide +kernel
theorem dX9_give_39 : decode cX9_give 39 = .ok (.ifCond .ne 5, 3) := by decide +kernel
theorem dX9_give_42 : decode cX9_give 42 = .ok (.iconst (-1), 1) := by decide +kernel
theorem dX9_give_43 : decode cX9_give 43 = .ok (.ireturn, 1) := by decide +kernel
theorem dX9_give_44 : decode cX9_give 44 = .ok (.aload_n 0, 1) := by decide +kernel
theorem dX9_give_45 : decode cX9_give 45 = .ok (.iload_n 1, 1) := by decide +kernel
theorem dX9_give_46 : decode cX9_give 46 = .ok (.iload_n 2, 1) := by decide +kernel
theorem dX9_give_47 : decode cX9_give 47 = .ok (.iload_n 3, 1) := by decide +kernel
theorem dX9_give_48 : decode cX9_give 48 = .ok (.iload 4, 2) := by decide +kernel
theorem dX9_give_50 : decode cX9_give 50 = .ok (.invokevirtual 243, 3) := by decide +kernel
theorem dX9_give_53 : decode cX9_give 53 = .ok (.istore 5, 2) := by decide +kernel
theorem dX9_give_55 : decode cX9_give 55 = .ok (.iload 5, 2) := by decide +kernel
theorem dX9_give_57 : decode cX9_give 57 = .ok (.ifCond .ge 6, 3) := by decide +kernel
theorem dX9_give_60 : decode cX9_give 60 = .ok (.iload 5, 2) := by decide +kernel
theorem dX9_give_62 : decode cX9_give 62 = .ok (.ireturn, 1) := by decide +kernel
theorem dX9_give_63 : decode cX9_give 63 = .ok (.aload_n 0, 1) := by decide +kernel
theorem dX9_give_64 : decode cX9_give 64 = .ok (.invokevirtual 235, 3) := by decide +kernel
theorem dX9_give_67 : decode cX9_give 67 = .ok (.aload_n 0, 1) := by decide +kernel
theorem dX9_give_68 : decode cX9_give 68 = .ok (.iconst 0, 1) := by decide +kernel
theorem dX9_give_69 : decode cX9_give 69 = .ok (.iload_n 1, 1) := by decide +kernel
theorem dX9_give_70 : decode cX9_give 70 = .ok (.iload_n 2, 1) := by decide +kernel
theorem dX9_give_71 : decode cX9_give 71 = .ok (.iload_n 3, 1) := by decide +kernel
theorem dX9_give_72 : decode cX9_give 72 = .ok (.iload 4, 2) := by decide +kernel
theorem dX9_give_74 : decode cX9_give 74 = .ok (.invokevirtual 247, 3) := by decide +kernel
theorem dX9_give_77 : decode cX9_give 77 = .ok (.ireturn, 1) := by decide +kernel
set_option maxHeartbeats 4000000 in
set_option maxRecDepth 100000 in
theorem c_X9_give (l : Launch) (D : va_G) (q : Nat → ClassId) (ad : Nat → Nat) (σ0 : Int32) (σ1 : Nat → Int32) (σ2 : Nat → Int32) (σ3 : Nat → Int32) (σ4 : Nat → Int32) (σ5 : Nat → Int32) (σ6 : Nat → Int32) (σ7 : Nat → Int32) (σ8 : Nat → Int32) (σ9 : Nat → Int32) (σ10 : Nat → Int32) (σ11 : Nat → Int32) (σ12 : Nat → Int32) (σ13 : Nat → Int32) (σ14 : Nat → Int32) (σ15 : Nat → Int32) (σ16 : Nat → Int32) (σ17 : Nat → Int32) (σ18 : Nat → Int32) (σ19 : Nat → Int32) (σ20 : Int32) (σ21 : Int32) (σ22 : Int32) (σ23 : Nat → Int32) (σ24 : Int32) (σ25 : Int32) (σ26 : Nat → Int32) (σ27 : Nat → Int32) (σ28 : Nat → Int32) (σ29 : Nat → Int32) (σ30 : Nat → Int32) (fr : Nat) (to : Nat) (g : Nat) (n : Nat) (hfr0 : fr < tn (σ5 0)) (hto0 : to < tn (σ5 0)) (hne : fr ≠ to) (hg0 : g < tn (σ2 0)) (hn1 : 1 ≤ n ∧ n ≤ 40) (hc2 : σ2 0 = nI (tn (σ2 0)) ∧ tn (σ2 0) ≤ 5) (hc5 : σ5 0 = nI (tn (σ5 0)) ∧ tn (σ5 0) ≤ 5) (hK0 : okK (xreg σ19 0)) (hU : σ20 = nI (tn σ20) ∧ tn σ20 ≤ 8) (hre : 0 ≤ xref (xreg σ19 0) (σ6 fr) (σ6 to) (5 * fr + g) (nI n)) : xC l yX9_give wsX9_give ({ frames := 2, cells := 0, slots := 0, locals := 51 }) D (TY q) [w9 q ad σ0 σ1 σ2 σ3 σ4 σ5 σ6 σ7 σ8 σ9 σ10 σ11 σ12 σ13 σ14 σ15 σ16 σ17 σ18 σ19 σ20 σ21 σ22 σ23 σ24 σ25 σ26 σ27 σ28 σ29 σ30] [.ref (ad 0), .int (nI fr), .int (nI to), .int (nI g), .int (nI n)] (xQi D (TY q) (fun (r : Int32) (_ : Unit) => r = xreg σ19 0 25 + xap (σ6 fr) (σ6 to)) (fun _ => [w9 q ad σ0 σ1 σ2 σ3 σ4 σ5 σ6 σ7 σ8 σ9 σ10 σ11 σ12 σ13 σ14 σ15 σ16 σ17 σ18 (xspl (xnote σ19 (tn σ20)) 0 (kGive (xreg σ19 0) (xap (σ6 fr) (σ6 to)) fr to g (nI n))) (nI (xnU (tn σ20))) σ21 σ22 σ23 σ24 σ25 σ26 σ27 σ28 σ29 σ30])) 0 0 := by
  refine x_enter (cc := cX9_give) (maxL := 6) (ret := (some .int)) (by decide) rfl (Nat.le_of_ble_eq_true rfl) ?_
  intro p e s m below meth c A ls H locs hfix hr hlocks hinit hM hl
  obtain ⟨hx, hb, hml, hown, hts⟩ := id hfix
  have hl : lv_has ls 6 [(0, .ref (ad 0)), (1, .int (nI fr)), (2, .int (nI to)), (3, .int (nI g)), (4, .int (nI n))] := hl
  have hc2b := hc2.2
  have hc5b := hc5.2
  have hU2 := hU.2
  have hw6 := xref_w hK0 hre
  refine lv_aload_n hx hb dX9_give_0 rfl (lv_at hl 0 rfl) ?_
  refine lv_iload_n hx hb dX9_give_1 rfl (lv_at hl 1 rfl) ?_
  refine x_calli (bc := [w9 q ad σ0 σ1 σ2 σ3 σ4 σ5 σ6 σ7 σ8 σ9 σ10 σ11 σ12 σ13 σ14 σ15 σ16 σ17 σ18 σ19 σ20 σ21 σ22 σ23 σ24 σ25 σ26 σ27 σ28 σ29 σ30]) (br := []) hM [0] [] rfl rfl rfl (by decide) (x_runV (As := [.int (nI fr)]) (rest := []) hfix (c_X9_isHouse l D q ad σ0 σ1 σ2 σ3 σ4 σ5 σ6 σ7 σ8 σ9 σ10 σ11 σ12 σ13 σ14 σ15 σ16 σ17 σ18 σ19 σ20 σ21 σ22 σ23 σ24 σ25 σ26 σ27 σ28 σ29 σ30 (nI fr) ((fr : Nat) : Int) (nI_toInt (n := fr) (by omega)) hc5) (cwV 1 hts gX9_give_X9_isHouse rfl rfl rfl (by decide +kernel) ⟨Nat.le_of_ble_eq_true rfl, Nat.le_of_ble_eq_true rfl⟩) hM [0] rfl rfl 0 0 rfl rfl rfl rfl rfl hl.1 rfl (Nat.le_of_ble_eq_true rfl) dX9_give_2 ⟨Nat.le_of_ble_eq_true rfl, Nat.le_of_ble_eq_true rfl⟩) (fun r u H locs hq hM => ?_)
  subst hq
  have hM : xM D (TY q) [w9 q ad σ0 σ1 σ2 σ3 σ4 σ5 σ6 σ7 σ8 σ9 σ10 σ11 σ12 σ13 σ14 σ15 σ16 σ17 σ18 σ19 σ20 σ21 σ22 σ23 σ24 σ25 σ26 σ27 σ28 σ29 σ30] A s.heap s H locs := hM
  refine x_ifz_eq (P := 0 ≤ ((fr : Nat) : Int) ∧ ((fr : Nat) : Int) < tn (σ5 0)) (tgt := 42) hx hb dX9_give_5 (by decide) (fun c1 => ?_) (fun c1 => ?_)
  · exfalso; omega
  · refine lv_aload_n hx hb dX9_give_8 rfl (lv_at hl 0 rfl) ?_
    refine lv_iload_n hx hb dX9_give_9 rfl (lv_at hl 2 rfl) ?_
    refine x_calli (bc := [w9 q ad σ0 σ1 σ2 σ3 σ4 σ5 σ6 σ7 σ8 σ9 σ10 σ11 σ12 σ13 σ14 σ15 σ16 σ17 σ18 σ19 σ20 σ21 σ22 σ23 σ24 σ25 σ26 σ27 σ28 σ29 σ30]) (br := []) hM [0] [] rfl rfl rfl (by decide) (x_runV (As := [.int (nI to)]) (rest := []) hfix (c_X9_isHouse l D q ad σ0 σ1 σ2 σ3 σ4 σ5 σ6 σ7 σ8 σ9 σ10 σ11 σ12 σ13 σ14 σ15 σ16 σ17 σ18 σ19 σ20 σ21 σ22 σ23 σ24 σ25 σ26 σ27 σ28 σ29 σ30 (nI to) ((to : Nat) : Int) (nI_toInt (n := to) (by omega)) hc5) (cwV 1 hts gX9_give_X9_isHouse rfl rfl rfl (by decide +kernel) ⟨Nat.le_of_ble_eq_true rfl, Nat.le_of_ble_eq_true rfl⟩) hM [0] rfl rfl 0 0 rfl rfl rfl rfl rfl hl.1 rfl (Nat.le_of_ble_eq_true rfl) dX9_give_10 ⟨Nat.le_of_ble_eq_true rfl, Nat.le_of_ble_eq_true rfl⟩) (fun r u H locs hq hM => ?_)
    subst hq
    have hM : xM D (TY q) [w9 q ad σ0 σ1 σ2 σ3 σ4 σ5 σ6 σ7 σ8 σ9 σ10 σ11 σ12 σ13 σ14 σ15 σ16 σ17 σ18 σ19 σ20 σ21 σ22 σ23 σ24 σ25 σ26 σ27 σ28 σ29 σ30] A s.heap s H locs := hM
    refine x_ifz_eq (P := 0 ≤ ((to : Nat) : Int) ∧ ((to : Nat) : Int) < tn (σ5 0)) (tgt := 42) hx hb dX9_give_13 (by decide) (fun c2 => ?_) (fun c2 => ?_)
    · exfalso; omega
    · refine lv_iload_n hx hb dX9_give_16 rfl (lv_at hl 1 rfl) ?_
      refine lv_iload_n hx hb dX9_give_17 rfl (lv_at hl 2 rfl) ?_
      refine x_icmp_eq (x := fr) (y := to) (tgt := 42) hx hb (by omega) (by omega) dX9_give_18 (by decide) (fun c3 => ?_) (fun c3 => ?_)
      · exfalso; omega
      · refine lv_aload_n hx hb dX9_give_21 rfl (lv_at hl 0 rfl) ?_
        refine lv_iload_n hx hb dX9_give_22 rfl (lv_at hl 3 rfl) ?_
        refine x_calli (bc := [w9 q ad σ0 σ1 σ2 σ3 σ4 σ5 σ6 σ7 σ8 σ9 σ10 σ11 σ12 σ13 σ14 σ15 σ16 σ17 σ18 σ19 σ20 σ21 σ22 σ23 σ24 σ25 σ26 σ27 σ28 σ29 σ30]) (br := []) hM [0] [] rfl rfl rfl (by decide) (x_runV (As := [.int (nI g)]) (rest := []) hfix (c_X9_isGood l D q ad σ0 σ1 σ2 σ3 σ4 σ5 σ6 σ7 σ8 σ9 σ10 σ11 σ12 σ13 σ14 σ15 σ16 σ17 σ18 σ19 σ20 σ21 σ22 σ23 σ24 σ25 σ26 σ27 σ28 σ29 σ30 (nI g) ((g : Nat) : Int) (nI_toInt (n := g) (by omega)) hc2) (cwV 1 hts gX9_give_X9_isGood rfl rfl rfl (by decide +kernel) ⟨Nat.le_of_ble_eq_true rfl, Nat.le_of_ble_eq_true rfl⟩) hM [0] rfl rfl 0 0 rfl rfl rfl rfl rfl hl.1 rfl (Nat.le_of_ble_eq_true rfl) dX9_give_23 ⟨Nat.le_of_ble_eq_true rfl, Nat.le_of_ble_eq_true rfl⟩) (fun r u H locs hq hM => ?_)
        subst hq
        have hM : xM D (TY q) [w9 q ad σ0 σ1 σ2 σ3 σ4 σ5 σ6 σ7 σ8 σ9 σ10 σ11 σ12 σ13 σ14 σ15 σ16 σ17 σ18 σ19 σ20 σ21 σ22 σ23 σ24 σ25 σ26 σ27 σ28 σ29 σ30] A s.heap s H locs := hM
        refine x_ifz_eq (P := 0 ≤ ((g : Nat) : Int) ∧ ((g : Nat) : Int) < tn (σ2 0)) (tgt := 42) hx hb dX9_give_26 (by decide) (fun c4 => ?_) (fun c4 => ?_)
        · exfalso; omega
        · refine lv_iload hx hb dX9_give_29 (lv_at hl 4 rfl) ?_
          refine x_i2l hx hb dX9_give_31 ?_
          refine lv_lconst (v := 1) hx hb dX9_give_32 (by decide) ?_
          refine lv_ldc2 (v := 40) hx hb hown (hts (.constantLong RX9 241 (40)) (by decide +kernel)) dX9_give_33 ?_
          refine x_calli (bc := []) (br := [w9 q ad σ0 σ1 σ2 σ3 σ4 σ5 σ6 σ7 σ8 σ9 σ10 σ11 σ12 σ13 σ14 σ15 σ16 σ17 σ18 σ19 σ20 σ21 σ22 σ23 σ24 σ25 σ26 σ27 σ28 σ29 σ30]) hM [] [0] rfl rfl rfl (by decide) (x_runS (As := [.long ((nI n).toInt64), .long (1 : Int64), .long (40 : Int64)]) (rest := []) hfix (c_X9_in l D q ((nI n).toInt64) (1 : Int64) (40 : Int64) ((n : Nat) : Int) (1 : Int) (40 : Int) ((Jvm.Kit.i64_of_i32 _).trans (nI_toInt (n := n) (by omega))) (by decide) (by decide)) (va_cwS 3 hts gX9_give_X9_in rfl rfl rfl (by decide +kernel) ⟨Nat.le_of_ble_eq_true rfl, Nat.le_of_ble_eq_true rfl⟩) hM [] rfl rfl rfl hl.1 rfl (Nat.le_of_ble_eq_true rfl) dX9_give_36 ⟨Nat.le_of_ble_eq_true rfl, Nat.le_of_ble_eq_true rfl⟩) (fun r u H locs hq hM => ?_)
          subst hq
          have hM : xM D (TY q) [w9 q ad σ0 σ1 σ2 σ3 σ4 σ5 σ6 σ7 σ8 σ9 σ10 σ11 σ12 σ13 σ14 σ15 σ16 σ17 σ18 σ19 σ20 σ21 σ22 σ23 σ24 σ25 σ26 σ27 σ28 σ29 σ30] A s.heap s H locs := hM
          refine x_ifz_ne (P := (1 : Int) ≤ ((n : Nat) : Int) ∧ ((n : Nat) : Int) ≤ (40 : Int)) (tgt := 44) hx hb dX9_give_39 (by decide) (fun c5 => ?_) (fun c5 => ?_)
          · refine lv_aload_n hx hb dX9_give_44 rfl (lv_at hl 0 rfl) ?_
            refine lv_iload_n hx hb dX9_give_45 rfl (lv_at hl 1 rfl) ?_
            refine lv_iload_n hx hb dX9_give_46 rfl (lv_at hl 2 rfl) ?_
            refine lv_iload_n hx hb dX9_give_47 rfl (lv_at hl 3 rfl) ?_
            refine lv_iload hx hb dX9_give_48 (lv_at hl 4 rfl) ?_
            refine x_calli (bc := [w9 q ad σ0 σ1 σ2 σ3 σ4 σ5 σ6 σ7 σ8 σ9 σ10 σ11 σ12 σ13 σ14 σ15 σ16 σ17 σ18 σ19 σ20 σ21 σ22 σ23 σ24 σ25 σ26 σ27 σ28 σ29 σ30]) (br := []) hM [0] [] rfl rfl rfl (by decide) (x_runV (As := [.int (nI fr), .int (nI to), .int (nI g), .int (nI n)]) (rest := []) hfix (c_X9_refuses l D q ad σ0 σ1 σ2 σ3 σ4 σ5 σ6 σ7 σ8 σ9 σ10 σ11 σ12 σ13 σ14 σ15 σ16 σ17 σ18 σ19 σ20 σ21 σ22 σ23 σ24 σ25 σ26 σ27 σ28 σ29 σ30 fr to g (nI n) (by omega) (by omega) (by omega) hK0) (cwV 4 hts gX9_give_X9_refuses rfl rfl rfl (by decide +kernel) ⟨Nat.le_of_ble_eq_true rfl, Nat.le_of_ble_eq_true rfl⟩) hM [0] rfl rfl 0 0 rfl rfl rfl rfl rfl hl.1 rfl (Nat.le_of_ble_eq_true rfl) dX9_give_50 ⟨Nat.le_of_ble_eq_true rfl, Nat.le_of_ble_eq_true rfl⟩) (fun r u H locs hq hM => ?_)
            subst hq
            have hM : xM D (TY q) [w9 q ad σ0 σ1 σ2 σ3 σ4 σ5 σ6 σ7 σ8 σ9 σ10 σ11 σ12 σ13 σ14 σ15 σ16 σ17 σ18 σ19 σ20 σ21 σ22 σ23 σ24 σ25 σ26 σ27 σ28 σ29 σ30] A s.heap s H locs := hM
            refine lv_istore (lv' := [(5, .int (xref (xreg σ19 0) (σ6 fr) (σ6 to) (5 * fr + g) (nI n))), (0, .ref (ad 0)), (1, .int (nI fr)), (2, .int (nI to)), (3, .int (nI g)), (4, .int (nI n))]) hx hb dX9_give_53 hl (by decide) rfl (fun ls hl => ?_)
            refine lv_iload hx hb dX9_give_55 (lv_at hl 0 rfl) ?_
            refine lv_if_ge (tgt := 63) hx hb dX9_give_57 (by decide) (fun c6 => ?_) (fun c6 => ?_)
            · refine lv_aload_n hx hb dX9_give_63 rfl (lv_at hl 1 rfl) ?_
              refine x_callv (bc := [w9 q ad σ0 σ1 σ2 σ3 σ4 σ5 σ6 σ7 σ8 σ9 σ10 σ11 σ12 σ13 σ14 σ15 σ16 σ17 σ18 σ19 σ20 σ21 σ22 σ23 σ24 σ25 σ26 σ27 σ28 σ29 σ30]) (br := []) hM [0] [] rfl rfl rfl (by decide) (x_runV (As := []) (rest := []) hfix (c_X9_note l D q ad σ0 σ1 σ2 σ3 σ4 σ5 σ6 σ7 σ8 σ9 σ10 σ11 σ12 σ13 σ14 σ15 σ16 σ17 σ18 σ19 σ20 σ21 σ22 σ23 σ24 σ25 σ26 σ27 σ28 σ29 σ30 hU) (cwV 0 hts gX9_give_X9_note rfl rfl rfl (by decide +kernel) ⟨Nat.le_of_ble_eq_true rfl, Nat.le_of_ble_eq_true rfl⟩) hM [0] rfl rfl 0 0 rfl rfl rfl rfl rfl hl.1 rfl (Nat.le_of_ble_eq_true rfl) dX9_give_64 ⟨Nat.le_of_ble_eq_true rfl, Nat.le_of_ble_eq_true rfl⟩) (fun u H locs hq hM => ?_)
              have hM : xM D (TY q) [w9 q ad σ0 σ1 σ2 σ3 σ4 σ5 σ6 σ7 σ8 σ9 σ10 σ11 σ12 σ13 σ14 σ15 σ16 σ17 σ18 (xnote σ19 (tn σ20)) (nI (xnU (tn σ20))) σ21 σ22 σ23 σ24 σ25 σ26 σ27 σ28 σ29 σ30] A s.heap s H locs := hM
              have e7 : ((xnote σ19 (tn σ20)) : Nat → Int32) = (xspl (xnote σ19 (tn σ20)) 0 (xreg σ19 0)) := by exact (xspl_same (fun j hj => xnote_lo _ _ hj)).symm
              have hM : xM D (TY q) [w9 q ad σ0 σ1 σ2 σ3 σ4 σ5 σ6 σ7 σ8 σ9 σ10 σ11 σ12 σ13 σ14 σ15 σ16 σ17 σ18 (xspl (xnote σ19 (tn σ20)) 0 (xreg σ19 0)) (nI (xnU (tn σ20))) σ21 σ22 σ23 σ24 σ25 σ26 σ27 σ28 σ29 σ30] A s.heap s H locs := Eq.mp (congrArg (fun z9 => xM D (TY q) [w9 q ad σ0 σ1 σ2 σ3 σ4 σ5 σ6 σ7 σ8 σ9 σ10 σ11 σ12 σ13 σ14 σ15 σ16 σ17 σ18 z9 (nI (xnU (tn σ20))) σ21 σ22 σ23 σ24 σ25 σ26 σ27 σ28 σ29 σ30] A s.heap s H locs) e7) hM
              refine lv_aload_n hx hb dX9_give_67 rfl (lv_at hl 1 rfl) ?_
              refine lv_iconst (v := nI 0) hx hb dX9_give_68 (by decide) ?_
              refine lv_iload_n hx hb dX9_give_69 rfl (lv_at hl 2 rfl) ?_
              refine lv_iload_n hx hb dX9_give_70 rfl (lv_at hl 3 rfl) ?_
              refine lv_iload_n hx hb dX9_give_71 rfl (lv_at hl 4 rfl) ?_
              refine lv_iload hx hb dX9_give_72 (lv_at hl 5 rfl) ?_
              refine x_calli (bc := [w9 q ad σ0 σ1 σ2 σ3 σ4 σ5 σ6 σ7 σ8 σ9 σ10 σ11 σ12 σ13 σ14 σ15 σ16 σ17 σ18 (xspl (xnote σ19 (tn σ20)) 0 (xreg σ19 0)) (nI (xnU (tn σ20))) σ21 σ22 σ23 σ24 σ25 σ26 σ27 σ28 σ29 σ30]) (br := []) hM [0] [] rfl rfl rfl (by decide) (x_runV (As := [.int (nI 0), .int (nI fr), .int (nI to), .int (nI g), .int (nI n)]) (rest := []) hfix (c_X9_giveInK l D q ad σ0 σ1 σ2 σ3 σ4 σ5 σ6 σ7 σ8 σ9 σ10 σ11 σ12 σ13 σ14 σ15 σ16 σ17 σ18 (xspl (xnote σ19 (tn σ20)) 0 (xreg σ19 0)) (nI (xnU (tn σ20))) σ21 σ22 σ23 σ24 σ25 σ26 σ27 σ28 σ29 σ30 (xnote σ19 (tn σ20)) 0 (xreg σ19 0) fr to g (nI n) (by omega) (by omega) (by omega) (by omega) hK0 hw6) (cwV 5 hts gX9_give_X9_giveIn rfl rfl rfl (by decide +kernel) ⟨Nat.le_of_ble_eq_true rfl, Nat.le_of_ble_eq_true rfl⟩) hM [0] rfl rfl 0 0 rfl rfl rfl rfl rfl hl.1 rfl (Nat.le_of_ble_eq_true rfl) dX9_give_74 ⟨Nat.le_of_ble_eq_true rfl, Nat.le_of_ble_eq_true rfl⟩) (fun r u H locs hq hM => ?_)
              subst hq
              have hM : xM D (TY q) [w9 q ad σ0 σ1 σ2 σ3 σ4 σ5 σ6 σ7 σ8 σ9 σ10 σ11 σ12 σ13 σ14 σ15 σ16 σ17 σ18 (xspl (xnote σ19 (tn σ20)) 0 (kGive (xreg σ19 0) (xap (σ6 fr) (σ6 to)) fr to g (nI n))) (nI (xnU (tn σ20))) σ21 σ22 σ23 σ24 σ25 σ26 σ27 σ28 σ29 σ30] A s.heap s H locs := hM
              exact x_iret hx hb hr hlocks () hM (show (xreg σ19 0) 25 + xap (σ6 fr) (σ6 to) = xreg σ19 0 25 + xap (σ6 fr) (σ6 to) from by rfl) dX9_give_77
            · exfalso; exact absurd hre (by assumption)
          · exfalso; omega

set_option maxHeartbeats 4000000 in
set_option maxRecDepth 100000 in
theorem c_X9_giveB (l : Launch) (D : va_G) (q : Nat → ClassId) (ad : Nat → Nat) (σ0 : Int32) (σ1 : Nat → Int32) (σ2 : Nat → Int32) (σ3 : Nat → Int32) (σ4 : Nat → Int32) (σ5 : Nat → Int32) (σ6 : Nat → Int32) (σ7 : Nat → Int32) (σ8 : Nat → Int32) (σ9 : Nat → Int32) (σ10 : Nat → Int32) (σ11 : Nat → Int32) (σ12 : Nat → Int32) (σ13 : Nat → Int32) (σ14 : Nat → Int32) (σ15 : Nat → Int32) (σ16 : Nat → Int32) (σ17 : Nat → Int32) (σ18 : Nat → Int32) (σ19 : Nat → Int32) (σ20 : Int32) (σ21 : Int32) (σ22 : Int32) (σ23 : Nat → Int32) (σ24 : Int32) (σ25 : Int32) (σ26 : Nat → Int32) (σ27 : Nat → Int32) (σ28 : Nat → Int32) (σ29 : Nat → Int32) (σ30 : Nat → Int32) (fr : Int32) (frz : Int) (to : Int32) (toz : Int) (g : Int32) (gz : Int) (n : Int32) (nz : Int) (h_frz : fr.toInt = frz) (h_toz : to.toInt = toz) (h_gz : g.toInt = gz) (h_nz : n.toInt = nz) (hc2 : σ2 0 = nI (tn (σ2 0)) ∧ tn (σ2 0) ≤ 5) (hc5 : σ5 0 = nI (tn (σ5 0)) ∧ tn (σ5 0) ≤ 5) (hbad : ¬ (0 ≤ frz ∧ frz < tn (σ5 0)) ∨ ¬ (0 ≤ toz ∧ toz < tn (σ5 0)) ∨ fr = to ∨ ¬ (0 ≤ gz ∧ gz < tn (σ2 0)) ∨ ¬ (1 ≤ nz ∧ nz ≤ 40)) : xC l yX9_give wsX9_give ({ frames := 2, cells := 0, slots := 0, locals := 51 }) D (TY q) [w9 q ad σ0 σ1 σ2 σ3 σ4 σ5 σ6 σ7 σ8 σ9 σ10 σ11 σ12 σ13 σ14 σ15 σ16 σ17 σ18 σ19 σ20 σ21 σ22 σ23 σ24 σ25 σ26 σ27 σ28 σ29 σ30] [.ref (ad 0), .int fr, .int to, .int g, .int n] (xQi D (TY q) (fun (r : Int32) (_ : Unit) => r = (-1)) (fun _ => [w9 q ad σ0 σ1 σ2 σ3 σ4 σ5 σ6 σ7 σ8 σ9 σ10 σ11 σ12 σ13 σ14 σ15 σ16 σ17 σ18 σ19 σ20 σ21 σ22 σ23 σ24 σ25 σ26 σ27 σ28 σ29 σ30])) 0 0 := by
  refine x_enter (cc := cX9_give) (maxL := 6) (ret := (some .int)) (by decide) rfl (Nat.le_of_ble_eq_true rfl) ?_
  intro p e s m below meth c A ls H locs hfix hr hlocks hinit hM hl
  obtain ⟨hx, hb, hml, hown, hts⟩ := id hfix
  have hl : lv_has ls 6 [(0, .ref (ad 0)), (1, .int fr), (2, .int to), (3, .int g), (4, .int n)] := hl
  refine lv_aload_n hx hb dX9_give_0 rfl (lv_at hl 0 rfl) ?_
  refine lv_iload_n hx hb dX9_give_1 rfl (lv_at hl 1 rfl) ?_
  refine x_calli (bc := [w9 q ad σ0 σ1 σ2 σ3 σ4 σ5 σ6 σ7 σ8 σ9 σ10 σ11 σ12 σ13 σ14 σ15 σ16 σ17 σ18 σ19 σ20 σ21 σ22 σ23 σ24 σ25 σ26 σ27 σ28 σ29 σ30]) (br := []) hM [0] [] rfl rfl rfl (by decide) (x_runV (As := [.int fr]) (rest := []) hfix (c_X9_isHouse l D q ad σ0 σ1 σ2 σ3 σ4 σ5 σ6 σ7 σ8 σ9 σ10 σ11 σ12 σ13 σ14 σ15 σ16 σ17 σ18 σ19 σ20 σ21 σ22 σ23 σ24 σ25 σ26 σ27 σ28 σ29 σ30 fr frz h_frz hc5) (cwV 1 hts gX9_give_X9_isHouse rfl rfl rfl (by decide +kernel) ⟨Nat.le_of_ble_eq_true rfl, Nat.le_of_ble_eq_true rfl⟩) hM [0] rfl rfl 0 0 rfl rfl rfl rfl rfl hl.1 rfl (Nat.le_of_ble_eq_true rfl) dX9_give_2 ⟨Nat.le_of_ble_eq_true rfl, Nat.le_of_ble_eq_true rfl⟩) (fun r u H locs hq hM => ?_)
  subst hq
  have hM : xM D (TY q) [w9 q ad σ0 σ1 σ2 σ3 σ4 σ5 σ6 σ7 σ8 σ9 σ10 σ11 σ12 σ13 σ14 σ15 σ16 σ17 σ18 σ19 σ20 σ21 σ22 σ23 σ24 σ25 σ26 σ27 σ28 σ29 σ30] A s.heap s H locs := hM
  refine x_ifz_eq (P := 0 ≤ frz ∧ frz < tn (σ5 0)) (tgt := 42) hx hb dX9_give_5 (by decide) (fun c1 => ?_) (fun c1 => ?_)
  · refine lv_iconst (v := (-1)) hx hb dX9_give_42 (by decide) ?_
    exact x_iret hx hb hr hlocks () hM (show (-1) = (-1) from rfl) dX9_give_43
  · refine lv_aload_n hx hb dX9_give_8 rfl (lv_at hl 0 rfl) ?_
    refine lv_iload_n hx hb dX9_give_9 rfl (lv_at hl 2 rfl) ?_
    refine x_calli (bc := [w9 q ad σ0 σ1 σ2 σ3 σ4 σ5 σ6 σ7 σ8 σ9 σ10 σ11 σ12 σ13 σ14 σ15 σ16 σ17 σ18 σ19 σ20 σ21 σ22 σ23 σ24 σ25 σ26 σ27 σ28 σ29 σ30]) (br := []) hM [0] [] rfl rfl rfl (by decide) (x_runV (As := [.int to]) (rest := []) hfix (c_X9_isHouse l D q ad σ0 σ1 σ2 σ3 σ4 σ5 σ6 σ7 σ8 σ9 σ10 σ11 σ12 σ13 σ14 σ15 σ16 σ17 σ18 σ19 σ20 σ21 σ22 σ23 σ24 σ25 σ26 σ27 σ28 σ29 σ30 to toz h_toz hc5) (cwV 1 hts gX9_give_X9_isHouse rfl rfl rfl (by decide +kernel) ⟨Nat.le_of_ble_eq_true rfl, Nat.le_of_ble_eq_true rfl⟩) hM [0] rfl rfl 0 0 rfl rfl rfl rfl rfl hl.1 rfl (Nat.le_of_ble_eq_true rfl) dX9_give_10 ⟨Nat.le_of_ble_eq_true rfl, Nat.le_of_ble_eq_true rfl⟩) (fun r u H locs hq hM => ?_)
    subst hq
    have hM : xM D (TY q) [w9 q ad σ0 σ1 σ2 σ3 σ4 σ5 σ6 σ7 σ8 σ9 σ10 σ11 σ12 σ13 σ14 σ15 σ16 σ17 σ18 σ19 σ20 σ21 σ22 σ23 σ24 σ25 σ26 σ27 σ28 σ29 σ30] A s.heap s H locs := hM
    refine x_ifz_eq (P := 0 ≤ toz ∧ toz < tn (σ5 0)) (tgt := 42) hx hb dX9_give_13 (by decide) (fun c2 => ?_) (fun c2 => ?_)
    · refine lv_iconst (v := (-1)) hx hb dX9_give_42 (by decide) ?_
      exact x_iret hx hb hr hlocks () hM (show (-1) = (-1) from rfl) dX9_give_43
    · refine lv_iload_n hx hb dX9_give_16 rfl (lv_at hl 1 rfl) ?_
      refine lv_iload_n hx hb dX9_give_17 rfl (lv_at hl 2 rfl) ?_
      refine lv_icmp_eq (tgt := 42) hx hb dX9_give_18 (by decide) (fun c3 => ?_) (fun c3 => ?_)
      · refine lv_iconst (v := (-1)) hx hb dX9_give_42 (by decide) ?_
        exact x_iret hx hb hr hlocks () hM (show (-1) = (-1) from rfl) dX9_give_43
      · have hne9 : ¬ fr = to := by assumption
        refine lv_aload_n hx hb dX9_give_21 rfl (lv_at hl 0 rfl) ?_
        refine lv_iload_n hx hb dX9_give_22 rfl (lv_at hl 3 rfl) ?_
        refine x_calli (bc := [w9 q ad σ0 σ1 σ2 σ3 σ4 σ5 σ6 σ7 σ8 σ9 σ10 σ11 σ12 σ13 σ14 σ15 σ16 σ17 σ18 σ19 σ20 σ21 σ22 σ23 σ24 σ25 σ26 σ27 σ28 σ29 σ30]) (br := []) hM [0] [] rfl rfl rfl (by decide) (x_runV (As := [.int g]) (rest := []) hfix (c_X9_isGood l D q ad σ0 σ1 σ2 σ3 σ4 σ5 σ6 σ7 σ8 σ9 σ10 σ11 σ12 σ13 σ14 σ15 σ16 σ17 σ18 σ19 σ20 σ21 σ22 σ23 σ24 σ25 σ26 σ27 σ28 σ29 σ30 g gz h_gz hc2) (cwV 1 hts gX9_give_X9_isGood rfl rfl rfl (by decide +kernel) ⟨Nat.le_of_ble_eq_true rfl, Nat.le_of_ble_eq_true rfl⟩) hM [0] rfl rfl 0 0 rfl rfl rfl rfl rfl hl.1 rfl (Nat.le_of_ble_eq_true rfl) dX9_give_23 ⟨Nat.le_of_ble_eq_true rfl, Nat.le_of_ble_eq_true rfl⟩) (fun r u H locs hq hM => ?_)
        subst hq
        have hM : xM D (TY q) [w9 q ad σ0 σ1 σ2 σ3 σ4 σ5 σ6 σ7 σ8 σ9 σ10 σ11 σ12 σ13 σ14 σ15 σ16 σ17 σ18 σ19 σ20 σ21 σ22 σ23 σ24 σ25 σ26 σ27 σ28 σ29 σ30] A s.heap s H locs := hM
        refine x_ifz_eq (P := 0 ≤ gz ∧ gz < tn (σ2 0)) (tgt := 42) hx hb dX9_give_26 (by decide) (fun c4 => ?_) (fun c4 => ?_)
        · refine lv_iconst (v := (-1)) hx hb dX9_give_42 (by decide) ?_
          exact x_iret hx hb hr hlocks () hM (show (-1) = (-1) from rfl) dX9_give_43
        · refine lv_iload hx hb dX9_give_29 (lv_at hl 4 rfl) ?_
          refine x_i2l hx hb dX9_give_31 ?_
          refine lv_lconst (v := 1) hx hb dX9_give_32 (by decide) ?_
          refine lv_ldc2 (v := 40) hx hb hown (hts (.constantLong RX9 241 (40)) (by decide +kernel)) dX9_give_33 ?_
          refine x_calli (bc := []) (br := [w9 q ad σ0 σ1 σ2 σ3 σ4 σ5 σ6 σ7 σ8 σ9 σ10 σ11 σ12 σ13 σ14 σ15 σ16 σ17 σ18 σ19 σ20 σ21 σ22 σ23 σ24 σ25 σ26 σ27 σ28 σ29 σ30]) hM [] [0] rfl rfl rfl (by decide) (x_runS (As := [.long n.toInt64, .long (1 : Int64), .long (40 : Int64)]) (rest := []) hfix (c_X9_in l D q n.toInt64 (1 : Int64) (40 : Int64) nz (1 : Int) (40 : Int) ((Jvm.Kit.i64_of_i32 _).trans h_nz) (by decide) (by decide)) (va_cwS 3 hts gX9_give_X9_in rfl rfl rfl (by decide +kernel) ⟨Nat.le_of_ble_eq_true rfl, Nat.le_of_ble_eq_true rfl⟩) hM [] rfl rfl rfl hl.1 rfl (Nat.le_of_ble_eq_true rfl) dX9_give_36 ⟨Nat.le_of_ble_eq_true rfl, Nat.le_of_ble_eq_true rfl⟩) (fun r u H locs hq hM => ?_)
          subst hq
          have hM : xM D (TY q) [w9 q ad σ0 σ1 σ2 σ3 σ4 σ5 σ6 σ7 σ8 σ9 σ10 σ11 σ12 σ13 σ14 σ15 σ16 σ17 σ18 σ19 σ20 σ21 σ22 σ23 σ24 σ25 σ26 σ27 σ28 σ29 σ30] A s.heap s H locs := hM
          refine x_ifz_ne (P := (1 : Int) ≤ nz ∧ nz ≤ (40 : Int)) (tgt := 44) hx hb dX9_give_39 (by decide) (fun c5 => ?_) (fun c5 => ?_)
          · exfalso; rcases hbad with h | h | h | h | h <;> first | exact h (by assumption) | exact hne9 h | omega
          · refine lv_iconst (v := (-1)) hx hb dX9_give_42 (by decide) ?_
            exact x_iret hx hb hr hlocks () hM (show (-1) = (-1) from rfl) dX9_give_43

set_option maxHeartbeats 4000000 in
set_option maxRecDepth 100000 in
theorem c_X9_giveN (l : Launch) (D : va_G) (q : Nat → ClassId) (ad : Nat → Nat) (σ0 : Int32) (σ1 : Nat → Int32) (σ2 : Nat → Int32) (σ3 : Nat → Int32) (σ4 : Nat → Int32) (σ5 : Nat → Int32) (σ6 : Nat → Int32) (σ7 : Nat → Int32) (σ8 : Nat → Int32) (σ9 : Nat → Int32) (σ10 : Nat → Int32) (σ11 : Nat → Int32) (σ12 : Nat → Int32) (σ13 : Nat → Int32) (σ14 : Nat → Int32) (σ15 : Nat → Int32) (σ16 : Nat → Int32) (σ17 : Nat → Int32) (σ18 : Nat → Int32) (σ19 : Nat → Int32) (σ20 : Int32) (σ21 : Int32) (σ22 : Int32) (σ23 : Nat → Int32) (σ24 : Int32) (σ25 : Int32) (σ26 : Nat → Int32) (σ27 : Nat → Int32) (σ28 : Nat → Int32) (σ29 : Nat → Int32) (σ30 : Nat → Int32) (fr : Nat) (to : Nat) (g : Nat) (n : Nat) (hfr0 : fr < tn (σ5 0)) (hto0 : to < tn (σ5 0)) (hne : fr ≠ to) (hg0 : g < tn (σ2 0)) (hn1 : 1 ≤ n ∧ n ≤ 40) (hc2 : σ2 0 = nI (tn (σ2 0)) ∧ tn (σ2 0) ≤ 5) (hc5 : σ5 0 = nI (tn (σ5 0)) ∧ tn (σ5 0) ≤ 5) (hK0 : okK (xreg σ19 0)) (hre : ¬ 0 ≤ xref (xreg σ19 0) (σ6 fr) (σ6 to) (5 * fr + g) (nI n)) : xC l yX9_give wsX9_give ({ frames := 2, cells := 0, slots := 0, locals := 51 }) D (TY q) [w9 q ad σ0 σ1 σ2 σ3 σ4 σ5 σ6 σ7 σ8 σ9 σ10 σ11 σ12 σ13 σ14 σ15 σ16 σ17 σ18 σ19 σ20 σ21 σ22 σ23 σ24 σ25 σ26 σ27 σ28 σ29 σ30] [.ref (ad 0), .int (nI fr), .int (nI to), .int (nI g), .int (nI n)] (xQi D (TY q) (fun (r : Int32) (_ : Unit) => r = xref (xreg σ19 0) (σ6 fr) (σ6 to) (5 * fr + g) (nI n)) (fun _ => [w9 q ad σ0 σ1 σ2 σ3 σ4 σ5 σ6 σ7 σ8 σ9 σ10 σ11 σ12 σ13 σ14 σ15 σ16 σ17 σ18 σ19 σ20 σ21 σ22 σ23 σ24 σ25 σ26 σ27 σ28 σ29 σ30])) 0 0 := by
  refine x_enter (cc := cX9_give) (maxL := 6) (ret := (some .int)) (by decide) rfl (Nat.le_of_ble_eq_true rfl) ?_
  intro p e s m below meth c A ls H locs hfix hr hlocks hinit hM hl
  obtain ⟨hx, hb, hml, hown, hts⟩ := id hfix
  have hl : lv_has ls 6 [(0, .ref (ad 0)), (1, .int (nI fr)), (2, .int (nI to)), (3, .int (nI g)), (4, .int (nI n))] := hl
  have hc2b := hc2.2
  have hc5b := hc5.2
  refine lv_aload_n hx hb dX9_give_0 rfl (lv_at hl 0 rfl) ?_
  refine lv_iload_n hx hb dX9_give_1 rfl (lv_at hl 1 rfl) ?_
  refine x_calli (bc := [w9 q ad σ0 σ1 σ2 σ3 σ4 σ5 σ6 σ7 σ8 σ9 σ10 σ11 σ12 σ13 σ14 σ15 σ16 σ17 σ18 σ19 σ20 σ21 σ22 σ23 σ24 σ25 σ26 σ27 σ28 σ29 σ30]) (br := []) hM [0] [] rfl rfl rfl (by decide) (x_runV (As := [.int (nI fr)]) (rest := []) hfix (c_X9_isHouse l D q ad σ0 σ1 σ2 σ3 σ4 σ5 σ6 σ7 σ8 σ9 σ10 σ11 σ12 σ13 σ14 σ15 σ16 σ17 σ18 σ19 σ20 σ21 σ22 σ23 σ24 σ25 σ26 σ27 σ28 σ29 σ30 (nI fr) ((fr : Nat) : Int) (nI_toInt (n := fr) (by omega)) hc5) (cwV 1 hts gX9_give_X9_isHouse rfl rfl rfl (by decide +kernel) ⟨Nat.le_of_ble_eq_true rfl, Nat.le_of_ble_eq_true rfl⟩) hM [0] rfl rfl 0 0 rfl rfl rfl rfl rfl hl.1 rfl (Nat.le_of_ble_eq_true rfl) dX9_give_2 ⟨Nat.le_of_ble_eq_true rfl, Nat.le_of_ble_eq_true rfl⟩) (fun r u H locs hq hM => ?_)
  subst hq
  have hM : xM D (TY q) [w9 q ad σ0 σ1 σ2 σ3 σ4 σ5 σ6 σ7 σ8 σ9 σ10 σ11 σ12 σ13 σ14 σ15 σ16 σ17 σ18 σ19 σ20 σ21 σ22 σ23 σ24 σ25 σ26 σ27 σ28 σ29 σ30] A s.heap s H locs := hM
  refine x_ifz_eq (P := 0 ≤ ((fr : Nat) : Int) ∧ ((fr : Nat) : Int) < tn (σ5 0)) (tgt := 42) hx hb dX9_give_5 (by decide) (fun c1 => ?_) (fun c1 => ?_)
  · exfalso; omega
  · refine lv_aload_n hx hb dX9_give_8 rfl (lv_at hl 0 rfl) ?_
    refine lv_iload_n hx hb dX9_give_9 rfl (lv_at hl 2 rfl) ?_
    refine x_calli (bc := [w9 q ad σ0 σ1 σ2 σ3 σ4 σ5 σ6 σ7 σ8 σ9 σ10 σ11 σ12 σ13 σ14 σ15 σ16 σ17 σ18 σ19 σ20 σ21 σ22 σ23 σ24 σ25 σ26 σ27 σ28 σ29 σ30]) (br := []) hM [0] [] rfl rfl rfl (by decide) (x_runV (As := [.int (nI to)]) (rest := []) hfix (c_X9_isHouse l D q ad σ0 σ1 σ2 σ3 σ4 σ5 σ6 σ7 σ8 σ9 σ10 σ11 σ12 σ13 σ14 σ15 σ16 σ17 σ18 σ19 σ20 σ21 σ22 σ23 σ24 σ25 σ26 σ27 σ28 σ29 σ30 (nI to) ((to : Nat) : Int) (nI_toInt (n := to) (by omega)) hc5) (cwV 1 hts gX9_give_X9_isHouse rfl rfl rfl (by decide +kernel) ⟨Nat.le_of_ble_eq_true rfl, Nat.le_of_ble_eq_true rfl⟩) hM [0] rfl rfl 0 0 rfl rfl rfl rfl rfl hl.1 rfl (Nat.le_of_ble_eq_true rfl) dX9_give_10 ⟨Nat.le_of_ble_eq_true rfl, Nat.le_of_ble_eq_true rfl⟩) (fun r u H locs hq hM => ?_)
    subst hq
    have hM : xM D (TY q) [w9 q ad σ0 σ1 σ2 σ3 σ4 σ5 σ6 σ7 σ8 σ9 σ10 σ11 σ12 σ13 σ14 σ15 σ16 σ17 σ18 σ19 σ20 σ21 σ22 σ23 σ24 σ25 σ26 σ27 σ28 σ29 σ30] A s.heap s H locs := hM
    refine x_ifz_eq (P := 0 ≤ ((to : Nat) : Int) ∧ ((to : Nat) : Int) < tn (σ5 0)) (tgt := 42) hx hb dX9_give_13 (by decide) (fun c2 => ?_) (fun c2 => ?_)
    · exfalso; omega
    · refine lv_iload_n hx hb dX9_give_16 rfl (lv_at hl 1 rfl) ?_
      refine lv_iload_n hx hb dX9_give_17 rfl (lv_at hl 2 rfl) ?_
      refine x_icmp_eq (x := fr) (y := to) (tgt := 42) hx hb (by omega) (by omega) dX9_give_18 (by decide) (fun c3 => ?_) (fun c3 => ?_)
      · exfalso; omega
      · refine lv_aload_n hx hb dX9_give_21 rfl (lv_at hl 0 rfl) ?_
        refine lv_iload_n hx hb dX9_give_22 rfl (lv_at hl 3 rfl) ?_
        refine x_calli (bc := [w9 q ad σ0 σ1 σ2 σ3 σ4 σ5 σ6 σ7 σ8 σ9 σ10 σ11 σ12 σ13 σ14 σ15 σ16 σ17 σ18 σ19 σ20 σ21 σ22 σ23 σ24 σ25 σ26 σ27 σ28 σ29 σ30]) (br := []) hM [0] [] rfl rfl rfl (by decide) (x_runV (As := [.int (nI g)]) (rest := []) hfix (c_X9_isGood l D q ad σ0 σ1 σ2 σ3 σ4 σ5 σ6 σ7 σ8 σ9 σ10 σ11 σ12 σ13 σ14 σ15 σ16 σ17 σ18 σ19 σ20 σ21 σ22 σ23 σ24 σ25 σ26 σ27 σ28 σ29 σ30 (nI g) ((g : Nat) : Int) (nI_toInt (n := g) (by omega)) hc2) (cwV 1 hts gX9_give_X9_isGood rfl rfl rfl (by decide +kernel) ⟨Nat.le_of_ble_eq_true rfl, Nat.le_of_ble_eq_true rfl⟩) hM [0] rfl rfl 0 0 rfl rfl rfl rfl rfl hl.1 rfl (Nat.le_of_ble_eq_true rfl) dX9_give_23 ⟨Nat.le_of_ble_eq_true rfl, Nat.le_of_ble_eq_true rfl⟩) (fun r u H locs hq hM => ?_)
        subst hq
        have hM : xM D (TY q) [w9 q ad σ0 σ1 σ2 σ3 σ4 σ5 σ6 σ7 σ8 σ9 σ10 σ11 σ12 σ13 σ14 σ15 σ16 σ17 σ18 σ19 σ20 σ21 σ22 σ23 σ24 σ25 σ26 σ27 σ28 σ29 σ30] A s.heap s H locs := hM
        refine x_ifz_eq (P := 0 ≤ ((g : Nat) : Int) ∧ ((g : Nat) : Int) < tn (σ2 0)) (tgt := 42) hx hb dX9_give_26 (by decide) (fun c4 => ?_) (fun c4 => ?_)
        · exfalso; omega
        · refine lv_iload hx hb dX9_give_29 (lv_at hl 4 rfl) ?_
          refine x_i2l hx hb dX9_give_31 ?_
          refine lv_lconst (v := 1) hx hb dX9_give_32 (by decide) ?_
          refine lv_ldc2 (v := 40) hx hb hown (hts (.constantLong RX9 241 (40)) (by decide +kernel)) dX9_give_33 ?_
          refine x_calli (bc := []) (br := [w9 q ad σ0 σ1 σ2 σ3 σ4 σ5 σ6 σ7 σ8 σ9 σ10 σ11 σ12 σ13 σ14 σ15 σ16 σ17 σ18 σ19 σ20 σ21 σ22 σ23 σ24 σ25 σ26 σ27 σ28 σ29 σ30]) hM [] [0] rfl rfl rfl (by decide) (x_runS (As := [.long ((nI n).toInt64), .long (1 : Int64), .long (40 : Int64)]) (rest := []) hfix (c_X9_in l D q ((nI n).toInt64) (1 : Int64) (40 : Int64) ((n : Nat) : Int) (1 : Int) (40 : Int) ((Jvm.Kit.i64_of_i32 _).trans (nI_toInt (n := n) (by omega))) (by decide) (by decide)) (va_cwS 3 hts gX9_give_X9_in rfl rfl rfl (by decide +kernel) ⟨Nat.le_of_ble_eq_true rfl, Nat.le_of_ble_eq_true rfl⟩) hM [] rfl rfl rfl hl.1 rfl (Nat.le_of_ble_eq_true rfl) dX9_give_36 ⟨Nat.le_of_ble_eq_true rfl, Nat.le_of_ble_eq_true rfl⟩) (fun r u H locs hq hM => ?_)
          subst hq
          have hM : xM D (TY q) [w9 q ad σ0 σ1 σ2 σ3 σ4 σ5 σ6 σ7 σ8 σ9 σ10 σ11 σ12 σ13 σ14 σ15 σ16 σ17 σ18 σ19 σ20 σ21 σ22 σ23 σ24 σ25 σ26 σ27 σ28 σ29 σ30] A s.heap s H locs := hM
          refine x_ifz_ne (P := (1 : Int) ≤ ((n : Nat) : Int) ∧ ((n : Nat) : Int) ≤ (40 : Int)) (tgt := 44) hx hb dX9_give_39 (by decide) (fun c5 => ?_) (fun c5 => ?_)
          · refine lv_aload_n hx hb dX9_give_44 rfl (lv_at hl 0 rfl) ?_
            refine lv_iload_n hx hb dX9_give_45 rfl (lv_at hl 1 rfl) ?_
            refine lv_iload_n hx hb dX9_give_46 rfl (lv_at hl 2 rfl) ?_
            refine lv_iload_n hx hb dX9_give_47 rfl (lv_at hl 3 rfl) ?_
            refine lv_iload hx hb dX9_give_48 (lv_at hl 4 rfl) ?_
            refine x_calli (bc := [w9 q ad σ0 σ1 σ2 σ3 σ4 σ5 σ6 σ7 σ8 σ9 σ10 σ11 σ12 σ13 σ14 σ15 σ16 σ17 σ18 σ19 σ20 σ21 σ22 σ23 σ24 σ25 σ26 σ27 σ28 σ29 σ30]) (br := []) hM [0] [] rfl rfl rfl (by decide) (x_runV (As := [.int (nI fr), .int (nI to), .int (nI g), .int (nI n)]) (rest := []) hfix (c_X9_refuses l D q ad σ0 σ1 σ2 σ3 σ4 σ5 σ6 σ7 σ8 σ9 σ10 σ11 σ12 σ13 σ14 σ15 σ16 σ17 σ18 σ19 σ20 σ21 σ22 σ23 σ24 σ25 σ26 σ27 σ28 σ29 σ30 fr to g (nI n) (by omega) (by omega) (by omega) hK0) (cwV 4 hts gX9_give_X9_refuses rfl rfl rfl (by decide +kernel) ⟨Nat.le_of_ble_eq_true rfl, Nat.le_of_ble_eq_true rfl⟩) hM [0] rfl rfl 0 0 rfl rfl rfl rfl rfl hl.1 rfl (Nat.le_of_ble_eq_true rfl) dX9_give_50 ⟨Nat.le_of_ble_eq_true rfl, Nat.le_of_ble_eq_true rfl⟩) (fun r u H locs hq hM => ?_)
            subst hq
            have hM : xM D (TY q) [w9 q ad σ0 σ1 σ2 σ3 σ4 σ5 σ6 σ7 σ8 σ9 σ10 σ11 σ12 σ13 σ14 σ15 σ16 σ17 σ18 σ19 σ20 σ21 σ22 σ23 σ24 σ25 σ26 σ27 σ28 σ29 σ30] A s.heap s H locs := hM
            refine lv_istore (lv' := [(5, .int (xref (xreg σ19 0) (σ6 fr) (σ6 to) (5 * fr + g) (nI n))), (0, .ref (ad 0)), (1, .int (nI fr)), (2, .int (nI to)), (3, .int (nI g)), (4, .int (nI n))]) hx hb dX9_give_53 hl (by decide) rfl (fun ls hl => ?_)
            refine lv_iload hx hb dX9_give_55 (lv_at hl 0 rfl) ?_
            refine lv_if_ge (tgt := 63) hx hb dX9_give_57 (by decide) (fun c6 => ?_) (fun c6 => ?_)
            · exfalso; exact absurd (by assumption) hre
            · refine lv_iload hx hb dX9_give_60 (lv_at hl 0 rfl) ?_
              exact x_iret hx hb hr hlocks () hM (show xref (xreg σ19 0) (σ6 fr) (σ6 to) (5 * fr + g) (nI n) = xref (xreg σ19 0) (σ6 fr) (σ6 to) (5 * fr + g) (nI n) from rfl) dX9_give_62
          · exfalso; omega

set_option maxRecDepth 20000 in
theorem ggX9_toss_X9_isHouse : GoodIn wsX9_toss wsX9_isHouse := goodIn_r _ [6, 7, 8, 9, 5, 10, 38, 39, 40, 41, 42, 43, 44, 45, 46, 47, 48, 49, 50, 51, 52, 53, 54, 55, 56, 57, 58, 59, 60, 61, 62, 63, 64, 65, 66, 67, 68] (by decide +kernel) (by decide +kernel)
set_option maxRecDepth 20000 in
theorem gX9_toss_X9_isHouse : GoodIn wsX9_toss (wsV RX9 222 RX9 yX9_isHouse wsX9_isHouse) := goodIn_app (goodIn_of _ (by decide +kernel)) ggX9_toss_X9_isHouse
set_option maxRecDepth 20000 in
theorem ggX9_toss_X9_isGood : GoodIn wsX9_toss wsX9_isGood := goodIn_r _ [14, 15, 8, 9, 5, 10, 38, 39, 40, 41, 42, 43, 44, 45, 46, 47, 48, 49, 50, 51, 52, 53, 54, 55, 56, 57, 58, 59, 60, 61, 62, 63, 64, 65, 66, 67, 68] (by decide +kernel) (by decide +kernel)
set_option maxRecDepth 20000 in
theorem gX9_toss_X9_isGood : GoodIn wsX9_toss (wsV RX9 225 RX9 yX9_isGood wsX9_isGood) := goodIn_app (goodIn_of _ (by decide +kernel)) ggX9_toss_X9_isGood
set_option maxRecDepth 20000 in
theorem ggX9_toss_X9_in : GoodIn wsX9_toss wsX9_in := goodIn_r _ [10] (by decide +kernel) (by decide +kernel)
set_option maxRecDepth 20000 in
theorem gX9_toss_X9_in : GoodIn wsX9_toss (va_wsS RX9 104 yX9_in wsX9_in) := goodIn_app (goodIn_of _ (by decide +kernel)) ggX9_toss_X9_in
set_option maxRecDepth 20000 in
theorem ggX9_toss_X9_pieces : GoodIn wsX9_toss wsX9_pieces := goodIn_r _ [19, 20, 38, 39, 40, 41, 42, 43, 44, 45, 46, 47, 48, 49, 50, 51, 52, 53, 54, 55, 56, 57, 58, 59, 60, 61, 62, 63, 64, 65, 66, 67, 68] (by decide +kernel) (by decide +kernel)
set_option maxRecDepth 20000 in
theorem gX9_toss_X9_pieces : GoodIn wsX9_toss (wsV RX9 172 RX9 yX9_pieces wsX9_pieces) := goodIn_app (goodIn_of _ (by decide +kernel)) ggX9_toss_X9_pieces
set_option maxRecDepth 20000 in
theorem ggX9_toss_X9_minuteOf : GoodIn wsX9_toss wsX9_minuteOf := goodIn_r _ [24, 20, 38, 39, 40, 41, 42, 43, 44, 45, 46, 47, 48, 49, 50, 51, 52, 53, 54, 55, 56, 57, 58, 59, 60, 61, 62, 63, 64, 65, 66, 67, 68] (by decide +kernel) (by decide +kernel)
set_option maxRecDepth 20000 in
theorem gX9_toss_X9_minuteOf : GoodIn wsX9_toss (wsV RX9 166 RX9 yX9_minuteOf wsX9_minuteOf) := goodIn_app (goodIn_of _ (by decide +kernel)) ggX9_toss_X9_minuteOf
set_option maxRecDepth 20000 in
theorem ggX9_toss_X9_note : GoodIn wsX9_toss wsX9_note := goodIn_r _ [28, 29, 30, 31, 32, 5, 33, 20, 38, 39, 40, 41, 42, 43, 44, 45, 46, 47, 48, 49, 50, 51, 52, 53, 54, 55, 56, 57, 58, 59, 60, 61, 62, 63, 64, 65, 66, 67, 68] (by decide +kernel) (by decide +kernel)
set_option maxRecDepth 20000 in
theorem gX9_toss_X9_note : GoodIn wsX9_toss (wsV RX9 235 RX9 yX9_note wsX9_note) := goodIn_app (goodIn_of _ (by decide +kernel)) ggX9_toss_X9_note
set_option maxRecDepth 20000 in
theorem ggX9_toss_X9_addPieces : GoodIn wsX9_toss wsX9_addPieces := goodIn_r _ [37, 20, 38, 39, 40, 41, 42, 43, 44, 45, 46, 47, 48, 49, 50, 51, 52, 53, 54, 55, 56, 57, 58, 59, 60, 61, 62, 63, 64, 65, 66, 67, 68] (by decide +kernel) (by decide +kernel)
set_option maxRecDepth 20000 in
theorem gX9_toss_X9_addPieces : GoodIn wsX9_toss (wsV RX9 169 RX9 yX9_addPieces wsX9_addPieces) := goodIn_app (goodIn_of _ (by decide +kernel)) ggX9_toss_X9_addPieces
theorem dX9_toss_0 : decode cX9_toss 0 = .ok (.aload_n 0, 1) := by decide +kernel
theorem dX9_toss_1 : decode cX9_toss 1 = .ok (.iload_n 1, 1) := by decide +kernel
theorem dX9_toss_2 : decode cX9_toss 2 = .ok (.invokevirtual 222, 3) := by decide +kernel
theorem dX9_toss_5 : decode cX9_toss 5 = .ok (.ifCond .eq 23, 3) := by decide +kernel
theorem dX9_toss_8 : decode cX9_toss 8 = .ok (.aload_n 0, 1) := by decide +kernel
theorem dX9_toss_9 : decode cX9_toss 9 = .ok (.iload_n 2, 1) := by decide +kernel
theorem dX9_toss_10 : decode cX9_toss 10 = .ok (.invokevirtual 225, 3) := by decide +kernel
theorem dX9_toss_13 : decode cX9_toss 13 = .ok (.ifCond .eq 15, 3) := by decide +kernel
theorem dX9_toss_16 : decode cX9_toss 16 = .ok (.iload_n 3, 1) := by decide +kernel
theorem dX9_toss_17 : decode cX9_toss 17 = .ok (.i2l, 1) := by decide +kernel
theorem dX9_toss_18 : decode cX9_toss 18 = .ok (.lconst 1, 1) := by decide +kernel
theorem dX9_toss_19 : decode cX9_toss 19 = .ok (.ldc2_w 241, 3) := by decide +kernel
theorem dX9_toss_22 : decode cX9_toss 22 = .ok (.invokestatic 104, 3) := by decide +kernel
theorem dX9_toss_25 : decode cX9_toss 25 = .ok (.ifCond .ne 5, 3) := by decide +kernel
theorem dX9_toss_28 : decode cX9_toss 28 = .ok (.iconst (-1), 1) := by decide +kernel
theorem dX9_toss_29 : decode cX9_toss 29 = .ok (.ireturn, 1) := by decide +kernel
theorem dX9_toss_30 : decode cX9_toss 30 = .ok (.aload_n 0, 1) := by decide +kernel
theorem dX9_toss_31 : decode cX9_toss 31 = .ok (.iconst 0, 1) := by decide +kernel
theorem dX9_toss_32 : decode cX9_toss 32 = .ok (.iload_n 1, 1) := by decide +kernel
theorem dX9_toss_33 : decode cX9_toss 33 = .ok (.iload_n 2, 1) := by decide +kernel
theorem dX9_toss_34 : decode cX9_toss 34 = .ok (.invokevirtual 172, 3) := by decide +kernel
theorem dX9_toss_37 : decode cX9_toss 37 = .ok (.iload_n 3, 1) := by decide +kernel
theorem dX9_toss_38 : decode cX9_toss 38 = .ok (.if_icmp .lt 13, 3) := by decide +kernel
theorem dX9_toss_41 : decode cX9_toss 41 = .ok (.aload_n 0, 1) := by decide +kernel
theorem dX9_toss_42 : decode cX9_toss 42 = .ok (.iconst 0, 1) := by decide +kernel
theorem dX9_toss_43 : decode cX9_toss 43 = .ok (.invokevirtual 166, 3) := by decide +kernel
theorem dX9_toss_46 : decode cX9_toss 46 = .ok (.bipush 60, 2) := by decide +kernel
theorem dX9_toss_48 : decode cX9_toss 48 = .ok (.if_icmp .ne 6, 3) := by decide +kernel
theorem dX9_toss_51 : decode cX9_toss 51 = .ok (.bipush (-2), 2) := by decide +kernel
theorem dX9_toss_53 : decode cX9_toss 53 = .ok (.ireturn, 1) := by decide +kernel
theorem dX9_toss_54 : decode cX9_toss 54 = .ok (.aload_n 0, 1) := by decide +kernel
theorem dX9_toss_55 : decode cX9_toss 55 = .ok (.invokevirtual 235, 3) := by decide +kernel
theorem dX9_toss_58 : decode cX9_toss 58 = .ok (.aload_n 0, 1) := by decide +kernel
theorem dX9_toss_59 : decode cX9_toss 59 = .ok (.iconst 0, 1) := by decide +kernel
theorem dX9_toss_60 : decode cX9_toss 60 = .ok (.iload_n 1, 1) := by decide +kernel
theorem dX9_toss_61 : decode cX9_toss 61 = .ok (.iload_n 2, 1) := by decide +kernel
theorem dX9_toss_62 : decode cX9_toss 62 = .ok (.iload_n 3, 1) := by decide +kernel
theorem dX9_toss_63 : decode cX9_toss 63 = .ok (.ineg, 1) := by decide +kernel
theorem dX9_toss_64 : decode cX9_toss 64 = .ok (.invokevirtual 169, 3) := by decide +kernel
theorem dX9_toss_67 : decode cX9_toss 67 = .ok (.aload_n 0, 1) := by decide +kernel
theorem dX9_toss_68 : decode cX9_toss 68 = .ok (.iconst 0, 1) := by decide +kernel
theorem dX9_toss_69 : decode cX9_toss 69 = .ok (.iload_n 1, 1) := by decide +kernel
theorem dX9_toss_70 : decode cX9_toss 70 = .ok (.iload_n 2, 1) := by decide +kernel
theorem dX9_toss_71 : decode cX9_toss 71 = .ok (.invokevirtual 172, 3) := by decide +kernel
theorem dX9_toss_74 : decode cX9_toss 74 = .ok (.ireturn, 1) := by decide +kernel
set_option maxHeartbeats 4000000 in
set_option maxRecDepth 100000 in
theorem c_X9_toss (l : Launch) (D : va_G) (q : Nat → ClassId) (ad : Nat → Nat) (σ0 : Int32) (σ1 : Nat → Int32) (σ2 : Nat → Int32) (σ3 : Nat → Int32) (σ4 : Nat → Int32) (σ5 : Nat → Int32) (σ6 : Nat → Int32) (σ7 : Nat → Int32) (σ8 : Nat → Int32) (σ9 : Nat → Int32) (σ10 : Nat → Int32) (σ11 : Nat → Int32) (σ12 : Nat → Int32) (σ13 : Nat → Int32) (σ14 : Nat → Int32) (σ15 : Nat → Int32) (σ16 : Nat → Int32) (σ17 : Nat → Int32) (σ18 : Nat → Int32) (σ19 : Nat → Int32) (σ20 : Int32) (σ21 : Int32) (σ22 : Int32) (σ23 : Nat → Int32) (σ24 : Int32) (σ25 : Int32) (σ26 : Nat → Int32) (σ27 : Nat → Int32) (σ28 : Nat → Int32) (σ29 : Nat → Int32) (σ30 : Nat → Int32) (h : Nat) (g : Nat) (n : Nat) (hh0 : h < tn (σ5 0)) (hg0 : g < tn (σ2 0)) (hn1 : 1 ≤ n ∧ n ≤ 40) (hc2 : σ2 0 = nI (tn (σ2 0)) ∧ tn (σ2 0) ≤ 5) (hc5 : σ5 0 = nI (tn (σ5 0)) ∧ tn (σ5 0) ≤ 5) (hK0 : okK (xreg σ19 0)) (hU : σ20 = nI (tn σ20) ∧ tn σ20 ≤ 8) (hen : ¬ xreg σ19 0 (5 * h + g) < nI n) (hnT : tn (xreg σ19 0 25) ≠ 60) : xC l yX9_toss wsX9_toss ({ frames := 2, cells := 0, slots := 0, locals := 46 }) D (TY q) [w9 q ad σ0 σ1 σ2 σ3 σ4 σ5 σ6 σ7 σ8 σ9 σ10 σ11 σ12 σ13 σ14 σ15 σ16 σ17 σ18 σ19 σ20 σ21 σ22 σ23 σ24 σ25 σ26 σ27 σ28 σ29 σ30] [.ref (ad 0), .int (nI h), .int (nI g), .int (nI n)] (xQi D (TY q) (fun (r : Int32) (_ : Unit) => r = xreg σ19 0 (5 * h + g) + (-(nI n))) (fun _ => [w9 q ad σ0 σ1 σ2 σ3 σ4 σ5 σ6 σ7 σ8 σ9 σ10 σ11 σ12 σ13 σ14 σ15 σ16 σ17 σ18 (xspl (xnote σ19 (tn σ20)) 0 (kAdd (xreg σ19 0) h g (-(nI n)))) (nI (xnU (tn σ20))) σ21 σ22 σ23 σ24 σ25 σ26 σ27 σ28 σ29 σ30])) 0 0 := by
  refine x_enter (cc := cX9_toss) (maxL := 4) (ret := (some .int)) (by decide) rfl (Nat.le_of_ble_eq_true rfl) ?_
  intro p e s m below meth c A ls H locs hfix hr hlocks hinit hM hl
  obtain ⟨hx, hb, hml, hown, hts⟩ := id hfix
  have hl : lv_has ls 4 [(0, .ref (ad 0)), (1, .int (nI h)), (2, .int (nI g)), (3, .int (nI n))] := hl
  have hc2b := hc2.2
  have hc5b := hc5.2
  have hU2 := hU.2
  have hT0 := hK0.1.2
  have ex : σ19 (67 * 0 + 5 * h + g) = xreg σ19 0 (5 * h + g) := xreg_eq (by omega)
  refine lv_aload_n hx hb dX9_toss_0 rfl (lv_at hl 0 rfl) ?_
  refine lv_iload_n hx hb dX9_toss_1 rfl (lv_at hl 1 rfl) ?_
  refine x_calli (bc := [w9 q ad σ0 σ1 σ2 σ3 σ4 σ5 σ6 σ7 σ8 σ9 σ10 σ11 σ12 σ13 σ14 σ15 σ16 σ17 σ18 σ19 σ20 σ21 σ22 σ23 σ24 σ25 σ26 σ27 σ28 σ29 σ30]) (br := []) hM [0] [] rfl rfl rfl (by decide) (x_runV (As := [.int (nI h)]) (rest := []) hfix (c_X9_isHouse l D q ad σ0 σ1 σ2 σ3 σ4 σ5 σ6 σ7 σ8 σ9 σ10 σ11 σ12 σ13 σ14 σ15 σ16 σ17 σ18 σ19 σ20 σ21 σ22 σ23 σ24 σ25 σ26 σ27 σ28 σ29 σ30 (nI h) ((h : Nat) : Int) (nI_toInt (n := h) (by omega)) hc5) (cwV 1 hts gX9_toss_X9_isHouse rfl rfl rfl (by decide +kernel) ⟨Nat.le_of_ble_eq_true rfl, Nat.le_of_ble_eq_true rfl⟩) hM [0] rfl rfl 0 0 rfl rfl rfl rfl rfl hl.1 rfl (Nat.le_of_ble_eq_true rfl) dX9_toss_2 ⟨Nat.le_of_ble_eq_true rfl, Nat.le_of_ble_eq_true rfl⟩) (fun r u H locs hq hM => ?_)
  subst hq
  have hM : xM D (TY q) [w9 q ad σ0 σ1 σ2 σ3 σ4 σ5 σ6 σ7 σ8 σ9 σ10 σ11 σ12 σ13 σ14 σ15 σ16 σ17 σ18 σ19 σ20 σ21 σ22 σ23 σ24 σ25 σ26 σ27 σ28 σ29 σ30] A s.heap s H locs := hM
  refine x_ifz_eq (P := 0 ≤ ((h : Nat) : Int) ∧ ((h : Nat) : Int) < tn (σ5 0)) (tgt := 28) hx hb dX9_toss_5 (by decide) (fun c1 => ?_) (fun c1 => ?_)
  · exfalso; omega
  · refine lv_aload_n hx hb dX9_toss_8 rfl (lv_at hl 0 rfl) ?_
    refine lv_iload_n hx hb dX9_toss_9 rfl (lv_at hl 2 rfl) ?_
    refine x_calli (bc := [w9 q ad σ0 σ1 σ2 σ3 σ4 σ5 σ6 σ7 σ8 σ9 σ10 σ11 σ12 σ13 σ14 σ15 σ16 σ17 σ18 σ19 σ20 σ21 σ22 σ23 σ24 σ25 σ26 σ27 σ28 σ29 σ30]) (br := []) hM [0] [] rfl rfl rfl (by decide) (x_runV (As := [.int (nI g)]) (rest := []) hfix (c_X9_isGood l D q ad σ0 σ1 σ2 σ3 σ4 σ5 σ6 σ7 σ8 σ9 σ10 σ11 σ12 σ13 σ14 σ15 σ16 σ17 σ18 σ19 σ20 σ21 σ22 σ23 σ24 σ25 σ26 σ27 σ28 σ29 σ30 (nI g) ((g : Nat) : Int) (nI_toInt (n := g) (by omega)) hc2) (cwV 1 hts gX9_toss_X9_isGood rfl rfl rfl (by decide +kernel) ⟨Nat.le_of_ble_eq_true rfl, Nat.le_of_ble_eq_true rfl⟩) hM [0] rfl rfl 0 0 rfl rfl rfl rfl rfl hl.1 rfl (Nat.le_of_ble_eq_true rfl) dX9_toss_10 ⟨Nat.le_of_ble_eq_true rfl, Nat.le_of_ble_eq_true rfl⟩) (fun r u H locs hq hM => ?_)
    subst hq
    have hM : xM D (TY q) [w9 q ad σ0 σ1 σ2 σ3 σ4 σ5 σ6 σ7 σ8 σ9 σ10 σ11 σ12 σ13 σ14 σ15 σ16 σ17 σ18 σ19 σ20 σ21 σ22 σ23 σ24 σ25 σ26 σ27 σ28 σ29 σ30] A s.heap s H locs := hM
    refine x_ifz_eq (P := 0 ≤ ((g : Nat) : Int) ∧ ((g : Nat) : Int) < tn (σ2 0)) (tgt := 28) hx hb dX9_toss_13 (by decide) (fun c2 => ?_) (fun c2 => ?_)
    · exfalso; omega
    · refine lv_iload_n hx hb dX9_toss_16 rfl (lv_at hl 3 rfl) ?_
      refine x_i2l hx hb dX9_toss_17 ?_
      refine lv_lconst (v := 1) hx hb dX9_toss_18 (by decide) ?_
      refine lv_ldc2 (v := 40) hx hb hown (hts (.constantLong RX9 241 (40)) (by decide +kernel)) dX9_toss_19 ?_
      refine x_calli (bc := []) (br := [w9 q ad σ0 σ1 σ2 σ3 σ4 σ5 σ6 σ7 σ8 σ9 σ10 σ11 σ12 σ13 σ14 σ15 σ16 σ17 σ18 σ19 σ20 σ21 σ22 σ23 σ24 σ25 σ26 σ27 σ28 σ29 σ30]) hM [] [0] rfl rfl rfl (by decide) (x_runS (As := [.long ((nI n).toInt64), .long (1 : Int64), .long (40 : Int64)]) (rest := []) hfix (c_X9_in l D q ((nI n).toInt64) (1 : Int64) (40 : Int64) ((n : Nat) : Int) (1 : Int) (40 : Int) ((Jvm.Kit.i64_of_i32 _).trans (nI_toInt (n := n) (by omega))) (by decide) (by decide)) (va_cwS 3 hts gX9_toss_X9_in rfl rfl rfl (by decide +kernel) ⟨Nat.le_of_ble_eq_true rfl, Nat.le_of_ble_eq_true rfl⟩) hM [] rfl rfl rfl hl.1 rfl (Nat.le_of_ble_eq_true rfl) dX9_toss_22 ⟨Nat.le_of_ble_eq_true rfl, Nat.le_of_ble_eq_true rfl⟩) (fun r u H locs hq hM => ?_)
      subst hq
      have hM : xM D (TY q) [w9 q ad σ0 σ1 σ2 σ3 σ4 σ5 σ6 σ7 σ8 σ9 σ10 σ11 σ12 σ13 σ14 σ15 σ16 σ17 σ18 σ19 σ20 σ21 σ22 σ23 σ24 σ25 σ26 σ27 σ28 σ29 σ30] A s.heap s H locs := hM
      refine x_ifz_ne (P := (1 : Int) ≤ ((n : Nat) : Int) ∧ ((n : Nat) : Int) ≤ (40 : Int)) (tgt := 30) hx hb dX9_toss_25 (by decide) (fun c3 => ?_) (fun c3 => ?_)
      · refine lv_aload_n hx hb dX9_toss_30 rfl (lv_at hl 0 rfl) ?_
        refine lv_iconst (v := nI 0) hx hb dX9_toss_31 (by decide) ?_
        refine lv_iload_n hx hb dX9_toss_32 rfl (lv_at hl 1 rfl) ?_
        refine lv_iload_n hx hb dX9_toss_33 rfl (lv_at hl 2 rfl) ?_
        refine x_calli (bc := [w9 q ad σ0 σ1 σ2 σ3 σ4 σ5 σ6 σ7 σ8 σ9 σ10 σ11 σ12 σ13 σ14 σ15 σ16 σ17 σ18 σ19 σ20 σ21 σ22 σ23 σ24 σ25 σ26 σ27 σ28 σ29 σ30]) (br := []) hM [0] [] rfl rfl rfl (by decide) (x_runV (As := [.int (nI 0), .int (nI h), .int (nI g)]) (rest := []) hfix (c_X9_pieces l D q ad σ0 σ1 σ2 σ3 σ4 σ5 σ6 σ7 σ8 σ9 σ10 σ11 σ12 σ13 σ14 σ15 σ16 σ17 σ18 σ19 σ20 σ21 σ22 σ23 σ24 σ25 σ26 σ27 σ28 σ29 σ30 0 h g (by omega) (by omega) (by omega)) (cwV 3 hts gX9_toss_X9_pieces rfl rfl rfl (by decide +kernel) ⟨Nat.le_of_ble_eq_true rfl, Nat.le_of_ble_eq_true rfl⟩) hM [0] rfl rfl 0 0 rfl rfl rfl rfl rfl hl.1 rfl (Nat.le_of_ble_eq_true rfl) dX9_toss_34 ⟨Nat.le_of_ble_eq_true rfl, Nat.le_of_ble_eq_true rfl⟩) (fun r u H locs hq hM => ?_)
        subst hq
        have hM : xM D (TY q) [w9 q ad σ0 σ1 σ2 σ3 σ4 σ5 σ6 σ7 σ8 σ9 σ10 σ11 σ12 σ13 σ14 σ15 σ16 σ17 σ18 σ19 σ20 σ21 σ22 σ23 σ24 σ25 σ26 σ27 σ28 σ29 σ30] A s.heap s H locs := hM
        refine x_cast (y := xreg σ19 0 (5 * h + g)) ex ?_
        refine lv_iload_n hx hb dX9_toss_37 rfl (lv_at hl 3 rfl) ?_
        refine lv_icmp_lt (tgt := 51) hx hb dX9_toss_38 (by decide) (fun c4 => ?_) (fun c4 => ?_)
        · exfalso; first | exact absurd (by assumption) hen | omega
        · refine lv_aload_n hx hb dX9_toss_41 rfl (lv_at hl 0 rfl) ?_
          refine lv_iconst (v := nI 0) hx hb dX9_toss_42 (by decide) ?_
          refine x_calli (bc := [w9 q ad σ0 σ1 σ2 σ3 σ4 σ5 σ6 σ7 σ8 σ9 σ10 σ11 σ12 σ13 σ14 σ15 σ16 σ17 σ18 σ19 σ20 σ21 σ22 σ23 σ24 σ25 σ26 σ27 σ28 σ29 σ30]) (br := []) hM [0] [] rfl rfl rfl (by decide) (x_runV (As := [.int (nI 0)]) (rest := []) hfix (c_X9_minuteOf l D q ad σ0 σ1 σ2 σ3 σ4 σ5 σ6 σ7 σ8 σ9 σ10 σ11 σ12 σ13 σ14 σ15 σ16 σ17 σ18 σ19 σ20 σ21 σ22 σ23 σ24 σ25 σ26 σ27 σ28 σ29 σ30 0 (by omega)) (cwV 1 hts gX9_toss_X9_minuteOf rfl rfl rfl (by decide +kernel) ⟨Nat.le_of_ble_eq_true rfl, Nat.le_of_ble_eq_true rfl⟩) hM [0] rfl rfl 0 0 rfl rfl rfl rfl rfl hl.1 rfl (Nat.le_of_ble_eq_true rfl) dX9_toss_43 ⟨Nat.le_of_ble_eq_true rfl, Nat.le_of_ble_eq_true rfl⟩) (fun r u H locs hq hM => ?_)
          subst hq
          have hM : xM D (TY q) [w9 q ad σ0 σ1 σ2 σ3 σ4 σ5 σ6 σ7 σ8 σ9 σ10 σ11 σ12 σ13 σ14 σ15 σ16 σ17 σ18 σ19 σ20 σ21 σ22 σ23 σ24 σ25 σ26 σ27 σ28 σ29 σ30] A s.heap s H locs := hM
          refine x_cast (y := nI (tn (xreg σ19 0 25))) hK0.1.1 ?_
          refine lv_bipush (v := nI 60) hx hb dX9_toss_46 (by decide) ?_
          refine x_icmp_ne (x := tn (xreg σ19 0 25)) (y := 60) (tgt := 54) hx hb (by omega) (by omega) dX9_toss_48 (by decide) (fun c5 => ?_) (fun c5 => ?_)
          · refine lv_aload_n hx hb dX9_toss_54 rfl (lv_at hl 0 rfl) ?_
            refine x_callv (bc := [w9 q ad σ0 σ1 σ2 σ3 σ4 σ5 σ6 σ7 σ8 σ9 σ10 σ11 σ12 σ13 σ14 σ15 σ16 σ17 σ18 σ19 σ20 σ21 σ22 σ23 σ24 σ25 σ26 σ27 σ28 σ29 σ30]) (br := []) hM [0] [] rfl rfl rfl (by decide) (x_runV (As := []) (rest := []) hfix (c_X9_note l D q ad σ0 σ1 σ2 σ3 σ4 σ5 σ6 σ7 σ8 σ9 σ10 σ11 σ12 σ13 σ14 σ15 σ16 σ17 σ18 σ19 σ20 σ21 σ22 σ23 σ24 σ25 σ26 σ27 σ28 σ29 σ30 hU) (cwV 0 hts gX9_toss_X9_note rfl rfl rfl (by decide +kernel) ⟨Nat.le_of_ble_eq_true rfl, Nat.le_of_ble_eq_true rfl⟩) hM [0] rfl rfl 0 0 rfl rfl rfl rfl rfl hl.1 rfl (Nat.le_of_ble_eq_true rfl) dX9_toss_55 ⟨Nat.le_of_ble_eq_true rfl, Nat.le_of_ble_eq_true rfl⟩) (fun u H locs hq hM => ?_)
            have hM : xM D (TY q) [w9 q ad σ0 σ1 σ2 σ3 σ4 σ5 σ6 σ7 σ8 σ9 σ10 σ11 σ12 σ13 σ14 σ15 σ16 σ17 σ18 (xnote σ19 (tn σ20)) (nI (xnU (tn σ20))) σ21 σ22 σ23 σ24 σ25 σ26 σ27 σ28 σ29 σ30] A s.heap s H locs := hM
            have e6 : ((xnote σ19 (tn σ20)) : Nat → Int32) = (xspl (xnote σ19 (tn σ20)) 0 (xreg σ19 0)) := by exact (xspl_same (fun j hj => xnote_lo _ _ hj)).symm
            have hM : xM D (TY q) [w9 q ad σ0 σ1 σ2 σ3 σ4 σ5 σ6 σ7 σ8 σ9 σ10 σ11 σ12 σ13 σ14 σ15 σ16 σ17 σ18 (xspl (xnote σ19 (tn σ20)) 0 (xreg σ19 0)) (nI (xnU (tn σ20))) σ21 σ22 σ23 σ24 σ25 σ26 σ27 σ28 σ29 σ30] A s.heap s H locs := Eq.mp (congrArg (fun z9 => xM D (TY q) [w9 q ad σ0 σ1 σ2 σ3 σ4 σ5 σ6 σ7 σ8 σ9 σ10 σ11 σ12 σ13 σ14 σ15 σ16 σ17 σ18 z9 (nI (xnU (tn σ20))) σ21 σ22 σ23 σ24 σ25 σ26 σ27 σ28 σ29 σ30] A s.heap s H locs) e6) hM
            refine lv_aload_n hx hb dX9_toss_58 rfl (lv_at hl 0 rfl) ?_
            refine lv_iconst (v := nI 0) hx hb dX9_toss_59 (by decide) ?_
            refine lv_iload_n hx hb dX9_toss_60 rfl (lv_at hl 1 rfl) ?_
            refine lv_iload_n hx hb dX9_toss_61 rfl (lv_at hl 2 rfl) ?_
            refine lv_iload_n hx hb dX9_toss_62 rfl (lv_at hl 3 rfl) ?_
            refine lv_ineg hx hb dX9_toss_63 ?_
            refine x_callv (bc := [w9 q ad σ0 σ1 σ2 σ3 σ4 σ5 σ6 σ7 σ8 σ9 σ10 σ11 σ12 σ13 σ14 σ15 σ16 σ17 σ18 (xspl (xnote σ19 (tn σ20)) 0 (xreg σ19 0)) (nI (xnU (tn σ20))) σ21 σ22 σ23 σ24 σ25 σ26 σ27 σ28 σ29 σ30]) (br := []) hM [0] [] rfl rfl rfl (by decide) (x_runV (As := [.int (nI 0), .int (nI h), .int (nI g), .int (-(nI n))]) (rest := []) hfix (c_X9_addPiecesK l D q ad σ0 σ1 σ2 σ3 σ4 σ5 σ6 σ7 σ8 σ9 σ10 σ11 σ12 σ13 σ14 σ15 σ16 σ17 σ18 (xspl (xnote σ19 (tn σ20)) 0 (xreg σ19 0)) (nI (xnU (tn σ20))) σ21 σ22 σ23 σ24 σ25 σ26 σ27 σ28 σ29 σ30 (xnote σ19 (tn σ20)) 0 (xreg σ19 0) h g (-(nI n)) (by omega) (by omega) (by omega)) (cwV 4 hts gX9_toss_X9_addPieces rfl rfl rfl (by decide +kernel) ⟨Nat.le_of_ble_eq_true rfl, Nat.le_of_ble_eq_true rfl⟩) hM [0] rfl rfl 0 0 rfl rfl rfl rfl rfl hl.1 rfl (Nat.le_of_ble_eq_true rfl) dX9_toss_64 ⟨Nat.le_of_ble_eq_true rfl, Nat.le_of_ble_eq_true rfl⟩) (fun u H locs hq hM => ?_)
            have hM : xM D (TY q) [w9 q ad σ0 σ1 σ2 σ3 σ4 σ5 σ6 σ7 σ8 σ9 σ10 σ11 σ12 σ13 σ14 σ15 σ16 σ17 σ18 (xspl (xnote σ19 (tn σ20)) 0 (kAdd (xreg σ19 0) h g (-(nI n)))) (nI (xnU (tn σ20))) σ21 σ22 σ23 σ24 σ25 σ26 σ27 σ28 σ29 σ30] A s.heap s H locs := hM
            refine lv_aload_n hx hb dX9_toss_67 rfl (lv_at hl 0 rfl) ?_
            refine lv_iconst (v := nI 0) hx hb dX9_toss_68 (by decide) ?_
            refine lv_iload_n hx hb dX9_toss_69 rfl (lv_at hl 1 rfl) ?_
            refine lv_iload_n hx hb dX9_toss_70 rfl (lv_at hl 2 rfl) ?_
            refine x_calli (bc := [w9 q ad σ0 σ1 σ2 σ3 σ4 σ5 σ6 σ7 σ8 σ9 σ10 σ11 σ12 σ13 σ14 σ15 σ16 σ17 σ18 (xspl (xnote σ19 (tn σ20)) 0 (kAdd (xreg σ19 0) h g (-(nI n)))) (nI (xnU (tn σ20))) σ21 σ22 σ23 σ24 σ25 σ26 σ27 σ28 σ29 σ30]) (br := []) hM [0] [] rfl rfl rfl (by decide) (x_runV (As := [.int (nI 0), .int (nI h), .int (nI g)]) (rest := []) hfix (c_X9_piecesK l D q ad σ0 σ1 σ2 σ3 σ4 σ5 σ6 σ7 σ8 σ9 σ10 σ11 σ12 σ13 σ14 σ15 σ16 σ17 σ18 (xspl (xnote σ19 (tn σ20)) 0 (kAdd (xreg σ19 0) h g (-(nI n)))) (nI (xnU (tn σ20))) σ21 σ22 σ23 σ24 σ25 σ26 σ27 σ28 σ29 σ30 (xnote σ19 (tn σ20)) 0 (kAdd (xreg σ19 0) h g (-(nI n))) h g (by omega) (by omega) (by omega)) (cwV 3 hts gX9_toss_X9_pieces rfl rfl rfl (by decide +kernel) ⟨Nat.le_of_ble_eq_true rfl, Nat.le_of_ble_eq_true rfl⟩) hM [0] rfl rfl 0 0 rfl rfl rfl rfl rfl hl.1 rfl (Nat.le_of_ble_eq_true rfl) dX9_toss_71 ⟨Nat.le_of_ble_eq_true rfl, Nat.le_of_ble_eq_true rfl⟩) (fun r u H locs hq hM => ?_)
            subst hq
            have hM : xM D (TY q) [w9 q ad σ0 σ1 σ2 σ3 σ4 σ5 σ6 σ7 σ8 σ9 σ10 σ11 σ12 σ13 σ14 σ15 σ16 σ17 σ18 (xspl (xnote σ19 (tn σ20)) 0 (kAdd (xreg σ19 0) h g (-(nI n)))) (nI (xnU (tn σ20))) σ21 σ22 σ23 σ24 σ25 σ26 σ27 σ28 σ29 σ30] A s.heap s H locs := hM
            exact x_iret hx hb hr hlocks () hM (show (kAdd (xreg σ19 0) h g (-(nI n))) (5 * h + g) = xreg σ19 0 (5 * h + g) + (-(nI n)) from by exact upd_at _ _ _) dX9_toss_74
          · exfalso; first | exact absurd (by assumption) hen | omega
      · exfalso; omega

set_option maxHeartbeats 4000000 in
set_option maxRecDepth 100000 in
theorem c_X9_tossB (l : Launch) (D : va_G) (q : Nat → ClassId) (ad : Nat → Nat) (σ0 : Int32) (σ1 : Nat → Int32) (σ2 : Nat → Int32) (σ3 : Nat → Int32) (σ4 : Nat → Int32) (σ5 : Nat → Int32) (σ6 : Nat → Int32) (σ7 : Nat → Int32) (σ8 : Nat → Int32) (σ9 : Nat → Int32) (σ10 : Nat → Int32) (σ11 : Nat → Int32) (σ12 : Nat → Int32) (σ13 : Nat → Int32) (σ14 : Nat → Int32) (σ15 : Nat → Int32) (σ16 : Nat → Int32) (σ17 : Nat → Int32) (σ18 : Nat → Int32) (σ19 : Nat → Int32) (σ20 : Int32) (σ21 : Int32) (σ22 : Int32) (σ23 : Nat → Int32) (σ24 : Int32) (σ25 : Int32) (σ26 : Nat → Int32) (σ27 : Nat → Int32) (σ28 : Nat → Int32) (σ29 : Nat → Int32) (σ30 : Nat → Int32) (h : Int32) (hz : Int) (g : Int32) (gz : Int) (n : Int32) (nz : Int) (h_hz : h.toInt = hz) (h_gz : g.toInt = gz) (h_nz : n.toInt = nz) (hc2 : σ2 0 = nI (tn (σ2 0)) ∧ tn (σ2 0) ≤ 5) (hc5 : σ5 0 = nI (tn (σ5 0)) ∧ tn (σ5 0) ≤ 5) (hbad : ¬ (0 ≤ hz ∧ hz < tn (σ5 0)) ∨ ¬ (0 ≤ gz ∧ gz < tn (σ2 0)) ∨ ¬ (1 ≤ nz ∧ nz ≤ 40)) : xC l yX9_toss wsX9_toss ({ frames := 2, cells := 0, slots := 0, locals := 46 }) D (TY q) [w9 q ad σ0 σ1 σ2 σ3 σ4 σ5 σ6 σ7 σ8 σ9 σ10 σ11 σ12 σ13 σ14 σ15 σ16 σ17 σ18 σ19 σ20 σ21 σ22 σ23 σ24 σ25 σ26 σ27 σ28 σ29 σ30] [.ref (ad 0), .int h, .int g, .int n] (xQi D (TY q) (fun (r : Int32) (_ : Unit) => r = (-1)) (fun _ => [w9 q ad σ0 σ1 σ2 σ3 σ4 σ5 σ6 σ7 σ8 σ9 σ10 σ11 σ12 σ13 σ14 σ15 σ16 σ17 σ18 σ19 σ20 σ21 σ22 σ23 σ24 σ25 σ26 σ27 σ28 σ29 σ30])) 0 0 := by
  refine x_enter (cc := cX9_toss) (maxL := 4) (ret := (some .int)) (by decide) rfl (Nat.le_of_ble_eq_true rfl) ?_
  intro p e s m below meth c A ls H locs hfix hr hlocks hinit hM hl
  obtain ⟨hx, hb, hml, hown, hts⟩ := id hfix
  have hl : lv_has ls 4 [(0, .ref (ad 0)), (1, .int h), (2, .int g), (3, .int n)] := hl
  refine lv_aload_n hx hb dX9_toss_0 rfl (lv_at hl 0 rfl) ?_
  refine lv_iload_n hx hb dX9_toss_1 rfl (lv_at hl 1 rfl) ?_
  refine x_calli (bc := [w9 q ad σ0 σ1 σ2 σ3 σ4 σ5 σ6 σ7 σ8 σ9 σ10 σ11 σ12 σ13 σ14 σ15 σ16 σ17 σ18 σ19 σ20 σ21 σ22 σ23 σ24 σ25 σ26 σ27 σ28 σ29 σ30]) (br := []) hM [0] [] rfl rfl rfl (by decide) (x_runV (As := [.int h]) (rest := []) hfix (c_X9_isHouse l D q ad σ0 σ1 σ2 σ3 σ4 σ5 σ6 σ7 σ8 σ9 σ10 σ11 σ12 σ13 σ14 σ15 σ16 σ17 σ18 σ19 σ20 σ21 σ22 σ23 σ24 σ25 σ26 σ27 σ28 σ29 σ30 h hz h_hz hc5) (cwV 1 hts gX9_toss_X9_isHouse rfl rfl rfl (by decide +kernel) ⟨Nat.le_of_ble_eq_true rfl, Nat.le_of_ble_eq_true rfl⟩) hM [0] rfl rfl 0 0 rfl rfl rfl rfl rfl hl.1 rfl (Nat.le_of_ble_eq_true rfl) dX9_toss_2 ⟨Nat.le_of_ble_eq_true rfl, Nat.le_of_ble_eq_true rfl⟩) (fun r u H locs hq hM => ?_)
  subst hq
  have hM : xM D (TY q) [w9 q ad σ0 σ1 σ2 σ3 σ4 σ5 σ6 σ7 σ8 σ9 σ10 σ11 σ12 σ13 σ14 σ15 σ16 σ17 σ18 σ19 σ20 σ21 σ22 σ23 σ24 σ25 σ26 σ27 σ28 σ29 σ30] A s.heap s H locs := hM
  refine x_ifz_eq (P := 0 ≤ hz ∧ hz < tn (σ5 0)) (tgt := 28) hx hb dX9_toss_5 (by decide) (fun c1 => ?_) (fun c1 => ?_)
  · refine lv_iconst (v := (-1)) hx hb dX9_toss_28 (by decide) ?_
    exact x_iret hx hb hr hlocks () hM (show (-1) = (-1) from rfl) dX9_toss_29
  · refine lv_aload_n hx hb dX9_toss_8 rfl (lv_at hl 0 rfl) ?_
    refine lv_iload_n hx hb dX9_toss_9 rfl (lv_at hl 2 rfl) ?_
    refine x_calli (bc := [w9 q ad σ0 σ1 σ2 σ3 σ4 σ5 σ6 σ7 σ8 σ9 σ10 σ11 σ12 σ13 σ14 σ15 σ16 σ17 σ18 σ19 σ20 σ21 σ22 σ23 σ24 σ25 σ26 σ27 σ28 σ29 σ30]) (br := []) hM [0] [] rfl rfl rfl (by decide) (x_runV (As := [.int g]) (rest := []) hfix (c_X9_isGood l D q ad σ0 σ1 σ2 σ3 σ4 σ5 σ6 σ7 σ8 σ9 σ10 σ11 σ12 σ13 σ14 σ15 σ16 σ17 σ18 σ19 σ20 σ21 σ22 σ23 σ24 σ25 σ26 σ27 σ28 σ29 σ30 g gz h_gz hc2) (cwV 1 hts gX9_toss_X9_isGood rfl rfl rfl (by decide +kernel) ⟨Nat.le_of_ble_eq_true rfl, Nat.le_of_ble_eq_true rfl⟩) hM [0] rfl rfl 0 0 rfl rfl rfl rfl rfl hl.1 rfl (Nat.le_of_ble_eq_true rfl) dX9_toss_10 ⟨Nat.le_of_ble_eq_true rfl, Nat.le_of_ble_eq_true rfl⟩) (fun r u H locs hq hM => ?_)
    subst hq
    have hM : xM D (TY q) [w9 q ad σ0 σ1 σ2 σ3 σ4 σ5 σ6 σ7 σ8 σ9 σ10 σ11 σ12 σ13 σ14 σ15 σ16 σ17 σ18 σ19 σ20 σ21 σ22 σ23 σ24 σ25 σ26 σ27 σ28 σ29 σ30] A s.heap s H locs := hM
    refine x_ifz_eq (P := 0 ≤ gz ∧ gz < tn (σ2 0)) (tgt := 28) hx hb dX9_toss_13 (by decide) (fun c2 => ?_) (fun c2 => ?_)
    · refine lv_iconst (v := (-1)) hx hb dX9_toss_28 (by decide) ?_
      exact x_iret hx hb hr hlocks () hM (show (-1) = (-1) from rfl) dX9_toss_29
    · refine lv_iload_n hx hb dX9_toss_16 rfl (lv_at hl 3 rfl) ?_
      refine x_i2l hx hb dX9_toss_17 ?_
      refine lv_lconst (v := 1) hx hb dX9_toss_18 (by decide) ?_
      refine lv_ldc2 (v := 40) hx hb hown (hts (.constantLong RX9 241 (40)) (by decide +kernel)) dX9_toss_19 ?_
      refine x_calli (bc := []) (br := [w9 q ad σ0 σ1 σ2 σ3 σ4 σ5 σ6 σ7 σ8 σ9 σ10 σ11 σ12 σ13 σ14 σ15 σ16 σ17 σ18 σ19 σ20 σ21 σ22 σ23 σ24 σ25 σ26 σ27 σ28 σ29 σ30]) hM [] [0] rfl rfl rfl (by decide) (x_runS (As := [.long n.toInt64, .long (1 : Int64), .long (40 : Int64)]) (rest := []) hfix (c_X9_in l D q n.toInt64 (1 : Int64) (40 : Int64) nz (1 : Int) (40 : Int) ((Jvm.Kit.i64_of_i32 _).trans h_nz) (by decide) (by decide)) (va_cwS 3 hts gX9_toss_X9_in rfl rfl rfl (by decide +kernel) ⟨Nat.le_of_ble_eq_true rfl, Nat.le_of_ble_eq_true rfl⟩) hM [] rfl rfl rfl hl.1 rfl (Nat.le_of_ble_eq_true rfl) dX9_toss_22 ⟨Nat.le_of_ble_eq_true rfl, Nat.le_of_ble_eq_true rfl⟩) (fun r u H locs hq hM => ?_)
      subst hq
      have hM : xM D (TY q) [w9 q ad σ0 σ1 σ2 σ3 σ4 σ5 σ6 σ7 σ8 σ9 σ10 σ11 σ12 σ13 σ14 σ15 σ16 σ17 σ18 σ19 σ20 σ21 σ22 σ23 σ24 σ25 σ26 σ27 σ28 σ29 σ30] A s.heap s H locs := hM
      refine x_ifz_ne (P := (1 : Int) ≤ nz ∧ nz ≤ (40 : Int)) (tgt := 30) hx hb dX9_toss_25 (by decide) (fun c3 => ?_) (fun c3 => ?_)
      · exfalso; omega
      · refine lv_iconst (v := (-1)) hx hb dX9_toss_28 (by decide) ?_
        exact x_iret hx hb hr hlocks () hM (show (-1) = (-1) from rfl) dX9_toss_29

set_option maxHeartbeats 4000000 in
set_option maxRecDepth 100000 in
theorem c_X9_tossN (l : Launch) (D : va_G) (q : Nat → ClassId) (ad : Nat → Nat) (σ0 : Int32) (σ1 : Nat → Int32) (σ2 : Nat → Int32) (σ3 : Nat → Int32) (σ4 : Nat → Int32) (σ5 : Nat → Int32) (σ6 : Nat → Int32) (σ7 : Nat → Int32) (σ8 : Nat → Int32) (σ9 : Nat → Int32) (σ10 : Nat → Int32) (σ11 : Nat → Int32) (σ12 : Nat → Int32) (σ13 : Nat → Int32) (σ14 : Nat → Int32) (σ15 : Nat → Int32) (σ16 : Nat → Int32) (σ17 : Nat → Int32) (σ18 : Nat → Int32) (σ19 : Nat → Int32) (σ20 : Int32) (σ21 : Int32) (σ22 : Int32) (σ23 : Nat → Int32) (σ24 : Int32) (σ25 : Int32) (σ26 : Nat → Int32) (σ27 : Nat → Int32) (σ28 : Nat → Int32) (σ29 : Nat → Int32) (σ30 : Nat → Int32) (h : Nat) (g : Nat) (n : Nat) (hh0 : h < tn (σ5 0)) (hg0 : g < tn (σ2 0)) (hn1 : 1 ≤ n ∧ n ≤ 40) (hc2 : σ2 0 = nI (tn (σ2 0)) ∧ tn (σ2 0) ≤ 5) (hc5 : σ5 0 = nI (tn (σ5 0)) ∧ tn (σ5 0) ≤ 5) (hK0 : okK (xreg σ19 0)) (hen : xreg σ19 0 (5 * h + g) < nI n ∨ tn (xreg σ19 0 25) = 60) : xC l yX9_toss wsX9_toss ({ frames := 2, cells := 0, slots := 0, locals := 46 }) D (TY q) [w9 q ad σ0 σ1 σ2 σ3 σ4 σ5 σ6 σ7 σ8 σ9 σ10 σ11 σ12 σ13 σ14 σ15 σ16 σ17 σ18 σ19 σ20 σ21 σ22 σ23 σ24 σ25 σ26 σ27 σ28 σ29 σ30] [.ref (ad 0), .int (nI h), .int (nI g), .int (nI n)] (xQi D (TY q) (fun (r : Int32) (_ : Unit) => r = (-2)) (fun _ => [w9 q ad σ0 σ1 σ2 σ3 σ4 σ5 σ6 σ7 σ8 σ9 σ10 σ11 σ12 σ13 σ14 σ15 σ16 σ17 σ18 σ19 σ20 σ21 σ22 σ23 σ24 σ25 σ26 σ27 σ28 σ29 σ30])) 0 0 := by
  refine x_enter (cc := cX9_toss) (maxL := 4) (ret := (some .int)) (by decide) rfl (Nat.le_of_ble_eq_true rfl) ?_
  intro p e s m below meth c A ls H locs hfix hr hlocks hinit hM hl
  obtain ⟨hx, hb, hml, hown, hts⟩ := id hfix
  have hl : lv_has ls 4 [(0, .ref (ad 0)), (1, .int (nI h)), (2, .int (nI g)), (3, .int (nI n))] := hl
  have hc2b := hc2.2
  have hc5b := hc5.2
  have hT0 := hK0.1.2
  have ex : σ19 (67 * 0 + 5 * h + g) = xreg σ19 0 (5 * h + g) := xreg_eq (by omega)
  refine lv_aload_n hx hb dX9_toss_0 rfl (lv_at hl 0 rfl) ?_
  refine lv_iload_n hx hb dX9_toss_1 rfl (lv_at hl 1 rfl) ?_
  refine x_calli (bc := [w9 q ad σ0 σ1 σ2 σ3 σ4 σ5 σ6 σ7 σ8 σ9 σ10 σ11 σ12 σ13 σ14 σ15 σ16 σ17 σ18 σ19 σ20 σ21 σ22 σ23 σ24 σ25 σ26 σ27 σ28 σ29 σ30]) (br := []) hM [0] [] rfl rfl rfl (by decide) (x_runV (As := [.int (nI h)]) (rest := []) hfix (c_X9_isHouse l D q ad σ0 σ1 σ2 σ3 σ4 σ5 σ6 σ7 σ8 σ9 σ10 σ11 σ12 σ13 σ14 σ15 σ16 σ17 σ18 σ19 σ20 σ21 σ22 σ23 σ24 σ25 σ26 σ27 σ28 σ29 σ30 (nI h) ((h : Nat) : Int) (nI_toInt (n := h) (by omega)) hc5) (cwV 1 hts gX9_toss_X9_isHouse rfl rfl rfl (by decide +kernel) ⟨Nat.le_of_ble_eq_true rfl, Nat.le_of_ble_eq_true rfl⟩) hM [0] rfl rfl 0 0 rfl rfl rfl rfl rfl hl.1 rfl (Nat.le_of_ble_eq_true rfl) dX9_toss_2 ⟨Nat.le_of_ble_eq_true rfl, Nat.le_of_ble_eq_true rfl⟩) (fun r u H locs hq hM => ?_)
  subst hq
  have hM : xM D (TY q) [w9 q ad σ0 σ1 σ2 σ3 σ4 σ5 σ6 σ7 σ8 σ9 σ10 σ11 σ12 σ13 σ14 σ15 σ16 σ17 σ18 σ19 σ20 σ21 σ22 σ23 σ24 σ25 σ26 σ27 σ28 σ29 σ30] A s.heap s H locs := hM
  refine x_ifz_eq (P := 0 ≤ ((h : Nat) : Int) ∧ ((h : Nat) : Int) < tn (σ5 0)) (tgt := 28) hx hb dX9_toss_5 (by decide) (fun c1 => ?_) (fun c1 => ?_)
  · exfalso; omega
  · refine lv_aload_n hx hb dX9_toss_8 rfl (lv_at hl 0 rfl) ?_
    refine lv_iload_n hx hb dX9_toss_9 rfl (lv_at hl 2 rfl) ?_
    refine x_calli (bc := [w9 q ad σ0 σ1 σ2 σ3 σ4 σ5 σ6 σ7 σ8 σ9 σ10 σ11 σ12 σ13 σ14 σ15 σ16 σ17 σ18 σ19 σ20 σ21 σ22 σ23 σ24 σ25 σ26 σ27 σ28 σ29 σ30]) (br := []) hM [0] [] rfl rfl rfl (by decide) (x_runV (As := [.int (nI g)]) (rest := []) hfix (c_X9_isGood l D q ad σ0 σ1 σ2 σ3 σ4 σ5 σ6 σ7 σ8 σ9 σ10 σ11 σ12 σ13 σ14 σ15 σ16 σ17 σ18 σ19 σ20 σ21 σ22 σ23 σ24 σ25 σ26 σ27 σ28 σ29 σ30 (nI g) ((g : Nat) : Int) (nI_toInt (n := g) (by omega)) hc2) (cwV 1 hts gX9_toss_X9_isGood rfl rfl rfl (by decide +kernel) ⟨Nat.le_of_ble_eq_true rfl, Nat.le_of_ble_eq_true rfl⟩) hM [0] rfl rfl 0 0 rfl rfl rfl rfl rfl hl.1 rfl (Nat.le_of_ble_eq_true rfl) dX9_toss_10 ⟨Nat.le_of_ble_eq_true rfl, Nat.le_of_ble_eq_true rfl⟩) (fun r u H locs hq hM => ?_)
    subst hq
    have hM : xM D (TY q) [w9 q ad σ0 σ1 σ2 σ3 σ4 σ5 σ6 σ7 σ8 σ9 σ10 σ11 σ12 σ13 σ14 σ15 σ16 σ17 σ18 σ19 σ20 σ21 σ22 σ23 σ24 σ25 σ26 σ27 σ28 σ29 σ30] A s.heap s H locs := hM
    refine x_ifz_eq (P := 0 ≤ ((g : Nat) : Int) ∧ ((g : Nat) : Int) < tn (σ2 0)) (tgt := 28) hx hb dX9_toss_13 (by decide) (fun c2 => ?_) (fun c2 => ?_)
    · exfalso; omega
    · refine lv_iload_n hx hb dX9_toss_16 rfl (lv_at hl 3 rfl) ?_
      refine x_i2l hx hb dX9_toss_17 ?_
      refine lv_lconst (v := 1) hx hb dX9_toss_18 (by decide) ?_
      refine lv_ldc2 (v := 40) hx hb hown (hts (.constantLong RX9 241 (40)) (by decide +kernel)) dX9_toss_19 ?_
      refine x_calli (bc := []) (br := [w9 q ad σ0 σ1 σ2 σ3 σ4 σ5 σ6 σ7 σ8 σ9 σ10 σ11 σ12 σ13 σ14 σ15 σ16 σ17 σ18 σ19 σ20 σ21 σ22 σ23 σ24 σ25 σ26 σ27 σ28 σ29 σ30]) hM [] [0] rfl rfl rfl (by decide) (x_runS (As := [.long ((nI n).toInt64), .long (1 : Int64), .long (40 : Int64)]) (rest := []) hfix (c_X9_in l D q ((nI n).toInt64) (1 : Int64) (40 : Int64) ((n : Nat) : Int) (1 : Int) (40 : Int) ((Jvm.Kit.i64_of_i32 _).trans (nI_toInt (n := n) (by omega))) (by decide) (by decide)) (va_cwS 3 hts gX9_toss_X9_in rfl rfl rfl (by decide +kernel) ⟨Nat.le_of_ble_eq_true rfl, Nat.le_of_ble_eq_true rfl⟩) hM [] rfl rfl rfl hl.1 rfl (Nat.le_of_ble_eq_true rfl) dX9_toss_22 ⟨Nat.le_of_ble_eq_true rfl, Nat.le_of_ble_eq_true rfl⟩) (fun r u H locs hq hM => ?_)
      subst hq
      have hM : xM D (TY q) [w9 q ad σ0 σ1 σ2 σ3 σ4 σ5 σ6 σ7 σ8 σ9 σ10 σ11 σ12 σ13 σ14 σ15 σ16 σ17 σ18 σ19 σ20 σ21 σ22 σ23 σ24 σ25 σ26 σ27 σ28 σ29 σ30] A s.heap s H locs := hM
      refine x_ifz_ne (P := (1 : Int) ≤ ((n : Nat) : Int) ∧ ((n : Nat) : Int) ≤ (40 : Int)) (tgt := 30) hx hb dX9_toss_25 (by decide) (fun c3 => ?_) (fun c3 => ?_)
      · refine lv_aload_n hx hb dX9_toss_30 rfl (lv_at hl 0 rfl) ?_
        refine lv_iconst (v := nI 0) hx hb dX9_toss_31 (by decide) ?_
        refine lv_iload_n hx hb dX9_toss_32 rfl (lv_at hl 1 rfl) ?_
        refine lv_iload_n hx hb dX9_toss_33 rfl (lv_at hl 2 rfl) ?_
        refine x_calli (bc := [w9 q ad σ0 σ1 σ2 σ3 σ4 σ5 σ6 σ7 σ8 σ9 σ10 σ11 σ12 σ13 σ14 σ15 σ16 σ17 σ18 σ19 σ20 σ21 σ22 σ23 σ24 σ25 σ26 σ27 σ28 σ29 σ30]) (br := []) hM [0] [] rfl rfl rfl (by decide) (x_runV (As := [.int (nI 0), .int (nI h), .int (nI g)]) (rest := []) hfix (c_X9_pieces l D q ad σ0 σ1 σ2 σ3 σ4 σ5 σ6 σ7 σ8 σ9 σ10 σ11 σ12 σ13 σ14 σ15 σ16 σ17 σ18 σ19 σ20 σ21 σ22 σ23 σ24 σ25 σ26 σ27 σ28 σ29 σ30 0 h g (by omega) (by omega) (by omega)) (cwV 3 hts gX9_toss_X9_pieces rfl rfl rfl (by decide +kernel) ⟨Nat.le_of_ble_eq_true rfl, Nat.le_of_ble_eq_true rfl⟩) hM [0] rfl rfl 0 0 rfl rfl rfl rfl rfl hl.1 rfl (Nat.le_of_ble_eq_true rfl) dX9_toss_34 ⟨Nat.le_of_ble_eq_true rfl, Nat.le_of_ble_eq_true rfl⟩) (fun r u H locs hq hM => ?_)
        subst hq
        have hM : xM D (TY q) [w9 q ad σ0 σ1 σ2 σ3 σ4 σ5 σ6 σ7 σ8 σ9 σ10 σ11 σ12 σ13 σ14 σ15 σ16 σ17 σ18 σ19 σ20 σ21 σ22 σ23 σ24 σ25 σ26 σ27 σ28 σ29 σ30] A s.heap s H locs := hM
        refine x_cast (y := xreg σ19 0 (5 * h + g)) ex ?_
        refine lv_iload_n hx hb dX9_toss_37 rfl (lv_at hl 3 rfl) ?_
        refine lv_icmp_lt (tgt := 51) hx hb dX9_toss_38 (by decide) (fun c4 => ?_) (fun c4 => ?_)
        · refine lv_bipush (v := (-2)) hx hb dX9_toss_51 (by decide) ?_
          exact x_iret hx hb hr hlocks () hM (show (-2) = (-2) from rfl) dX9_toss_53
        · refine lv_aload_n hx hb dX9_toss_41 rfl (lv_at hl 0 rfl) ?_
          refine lv_iconst (v := nI 0) hx hb dX9_toss_42 (by decide) ?_
          refine x_calli (bc := [w9 q ad σ0 σ1 σ2 σ3 σ4 σ5 σ6 σ7 σ8 σ9 σ10 σ11 σ12 σ13 σ14 σ15 σ16 σ17 σ18 σ19 σ20 σ21 σ22 σ23 σ24 σ25 σ26 σ27 σ28 σ29 σ30]) (br := []) hM [0] [] rfl rfl rfl (by decide) (x_runV (As := [.int (nI 0)]) (rest := []) hfix (c_X9_minuteOf l D q ad σ0 σ1 σ2 σ3 σ4 σ5 σ6 σ7 σ8 σ9 σ10 σ11 σ12 σ13 σ14 σ15 σ16 σ17 σ18 σ19 σ20 σ21 σ22 σ23 σ24 σ25 σ26 σ27 σ28 σ29 σ30 0 (by omega)) (cwV 1 hts gX9_toss_X9_minuteOf rfl rfl rfl (by decide +kernel) ⟨Nat.le_of_ble_eq_true rfl, Nat.le_of_ble_eq_true rfl⟩) hM [0] rfl rfl 0 0 rfl rfl rfl rfl rfl hl.1 rfl (Nat.le_of_ble_eq_true rfl) dX9_toss_43 ⟨Nat.le_of_ble_eq_true rfl, Nat.le_of_ble_eq_true rfl⟩) (fun r u H locs hq hM => ?_)
          subst hq
          have hM : xM D (TY q) [w9 q ad σ0 σ1 σ2 σ3 σ4 σ5 σ6 σ7 σ8 σ9 σ10 σ11 σ12 σ13 σ14 σ15 σ16 σ17 σ18 σ19 σ20 σ21 σ22 σ23 σ24 σ25 σ26 σ27 σ28 σ29 σ30] A s.heap s H locs := hM
          refine x_cast (y := nI (tn (xreg σ19 0 25))) hK0.1.1 ?_
          refine lv_bipush (v := nI 60) hx hb dX9_toss_46 (by decide) ?_
          refine x_icmp_ne (x := tn (xreg σ19 0 25)) (y := 60) (tgt := 54) hx hb (by omega) (by omega) dX9_toss_48 (by decide) (fun c5 => ?_) (fun c5 => ?_)
          · exfalso; rcases hen with h9 | h9 <;> first | exact absurd h9 (by assumption) | omega
          · refine lv_bipush (v := (-2)) hx hb dX9_toss_51 (by decide) ?_
            exact x_iret hx hb hr hlocks () hM (show (-2) = (-2) from rfl) dX9_toss_53
      · exfalso; omega

set_option maxRecDepth 20000 in
theorem ggX9_undo_X9_copy : GoodIn wsX9_undo wsX9_copy := goodIn_r _ [6, 7, 8, 9, 10, 11, 12, 13, 14, 15, 16, 17, 18, 19, 20, 21, 22, 23, 24, 25, 26, 27, 28, 29, 30, 31, 32, 33, 34, 35, 36, 37, 38] (by decide +kernel) (by decide +kernel)
set_option maxRecDepth 20000 in
theorem gX9_undo_X9_copy : GoodIn wsX9_undo (wsV RX9 216 RX9 yX9_copy wsX9_copy) := goodIn_app (goodIn_of _ (by decide +kernel)) ggX9_undo_X9_copy
theorem dX9_undo_0 : decode cX9_undo 0 = .ok (.aload_n 0, 1) := by decide +kernel
theorem dX9_undo_1 : decode cX9_undo 1 = .ok (.getfield 153, 3) := by decide +kernel
theorem dX9_undo_4 : decode cX9_undo 4 = .ok (.ifCond .ne 6, 3) := by decide +kernel
theorem dX9_undo_7 : decode cX9_undo 7 = .ok (.bipush (-2), 2) := by decide +kernel
theorem dX9_undo_9 : decode cX9_undo 9 = .ok (.ireturn, 1) := by decide +kernel
theorem dX9_undo_10 : decode cX9_undo 10 = .ok (.aload_n 0, 1) := by decide +kernel
theorem dX9_undo_11 : decode cX9_undo 11 = .ok (.aload_n 0, 1) := by decide +kernel
theorem dX9_undo_12 : decode cX9_undo 12 = .ok (.getfield 153, 3) := by decide +kernel
theorem dX9_undo_15 : decode cX9_undo 15 = .ok (.iconst 0, 1) := by decide +kernel
theorem dX9_undo_16 : decode cX9_undo 16 = .ok (.invokevirtual 216, 3) := by decide +kernel
theorem dX9_undo_19 : decode cX9_undo 19 = .ok (.aload_n 0, 1) := by decide +kernel
theorem dX9_undo_20 : decode cX9_undo 20 = .ok (.dup, 1) := by decide +kernel
theorem dX9_undo_21 : decode cX9_undo 21 = .ok (.getfield 153, 3) := by decide +kernel
theorem dX9_undo_24 : decode cX9_undo 24 = .ok (.iconst 1, 1) := by decide +kernel
theorem dX9_undo_25 : decode cX9_undo 25 = .ok (.isub, 1) := by decide +kernel
theorem dX9_undo_26 : decode cX9_undo 26 = .ok (.putfield 153, 3) := by decide +kernel
theorem dX9_undo_29 : decode cX9_undo 29 = .ok (.aload_n 0, 1) := by decide +kernel
theorem dX9_undo_30 : decode cX9_undo 30 = .ok (.getfield 153, 3) := by decide +kernel
theorem dX9_undo_33 : decode cX9_undo 33 = .ok (.ireturn, 1) := by decide +kernel
theorem lkX9_undo_153 : Cond.fieldLink RX9 153 "LeftAtFiveModel" "undoMany" "I" ∈ wsX9_undo := by decide +kernel
theorem iwX9_undo_X9 : ∀ w ∈ wsX90, w ∈ wsX9_undo := by decide +kernel
set_option maxHeartbeats 4000000 in
set_option maxRecDepth 100000 in
theorem c_X9_undo (l : Launch) (D : va_G) (q : Nat → ClassId) (ad : Nat → Nat) (σ0 : Int32) (σ1 : Nat → Int32) (σ2 : Nat → Int32) (σ3 : Nat → Int32) (σ4 : Nat → Int32) (σ5 : Nat → Int32) (σ6 : Nat → Int32) (σ7 : Nat → Int32) (σ8 : Nat → Int32) (σ9 : Nat → Int32) (σ10 : Nat → Int32) (σ11 : Nat → Int32) (σ12 : Nat → Int32) (σ13 : Nat → Int32) (σ14 : Nat → Int32) (σ15 : Nat → Int32) (σ16 : Nat → Int32) (σ17 : Nat → Int32) (σ18 : Nat → Int32) (σ19 : Nat → Int32) (σ20 : Int32) (σ21 : Int32) (σ22 : Int32) (σ23 : Nat → Int32) (σ24 : Int32) (σ25 : Int32) (σ26 : Nat → Int32) (σ27 : Nat → Int32) (σ28 : Nat → Int32) (σ29 : Nat → Int32) (σ30 : Nat → Int32) (hU : σ20 = nI (tn σ20) ∧ tn σ20 ≤ 8) (hU1 : ¬ tn σ20 = 0) : xC l yX9_undo wsX9_undo ({ frames := 1, cells := 0, slots := 0, locals := 23 }) D (TY q) [w9 q ad σ0 σ1 σ2 σ3 σ4 σ5 σ6 σ7 σ8 σ9 σ10 σ11 σ12 σ13 σ14 σ15 σ16 σ17 σ18 σ19 σ20 σ21 σ22 σ23 σ24 σ25 σ26 σ27 σ28 σ29 σ30] [.ref (ad 0)] (xQi D (TY q) (fun (r : Int32) (_ : Unit) => r = nI (tn σ20 - 1)) (fun _ => [w9 q ad σ0 σ1 σ2 σ3 σ4 σ5 σ6 σ7 σ8 σ9 σ10 σ11 σ12 σ13 σ14 σ15 σ16 σ17 σ18 (xspl σ19 0 (xreg σ19 (tn σ20))) (nI (tn σ20 - 1)) σ21 σ22 σ23 σ24 σ25 σ26 σ27 σ28 σ29 σ30])) 0 0 := by
  refine x_enter (cc := cX9_undo) (maxL := 1) (ret := (some .int)) (by decide) rfl (Nat.le_of_ble_eq_true rfl) ?_
  intro p e s m below meth c A ls H locs hfix hr hlocks hinit hM hl
  obtain ⟨hx, hb, hml, hown, hts⟩ := id hfix
  have hl : lv_has ls 1 [(0, .ref (ad 0))] := hl
  have hU2 := hU.2
  refine lv_aload_n hx hb dX9_undo_0 rfl (lv_at hl 0 rfl) ?_
  refine x_get hx hb hts iwX9_undo_X9 hown hM 0 0 rfl rfl rfl 20 (by decide) (hts _ lkX9_undo_153) (fun _ h => h) rfl dX9_undo_1 ?_
  refine x_cast (y := nI (tn σ20)) hU.1 ?_
  refine x_if_ne (x := tn σ20) (tgt := 10) hx hb (by omega) dX9_undo_4 (by decide) (fun c1 => ?_) (fun c1 => ?_)
  · refine lv_aload_n hx hb dX9_undo_10 rfl (lv_at hl 0 rfl) ?_
    refine lv_aload_n hx hb dX9_undo_11 rfl (lv_at hl 0 rfl) ?_
    refine x_get hx hb hts iwX9_undo_X9 hown hM 0 0 rfl rfl rfl 20 (by decide) (hts _ lkX9_undo_153) (fun _ h => h) rfl dX9_undo_12 ?_
    refine x_cast (y := nI (tn σ20)) hU.1 ?_
    refine lv_iconst (v := nI 0) hx hb dX9_undo_15 (by decide) ?_
    refine x_callv (bc := [w9 q ad σ0 σ1 σ2 σ3 σ4 σ5 σ6 σ7 σ8 σ9 σ10 σ11 σ12 σ13 σ14 σ15 σ16 σ17 σ18 σ19 σ20 σ21 σ22 σ23 σ24 σ25 σ26 σ27 σ28 σ29 σ30]) (br := []) hM [0] [] rfl rfl rfl (by decide) (x_runV (As := [.int (nI (tn σ20)), .int (nI 0)]) (rest := []) hfix (c_X9_copy l D q ad σ0 σ1 σ2 σ3 σ4 σ5 σ6 σ7 σ8 σ9 σ10 σ11 σ12 σ13 σ14 σ15 σ16 σ17 σ18 σ19 σ20 σ21 σ22 σ23 σ24 σ25 σ26 σ27 σ28 σ29 σ30 (tn σ20) 0 (by omega) (by omega) (by omega)) (cwV 2 hts gX9_undo_X9_copy rfl rfl rfl (by decide +kernel) ⟨Nat.le_of_ble_eq_true rfl, Nat.le_of_ble_eq_true rfl⟩) hM [0] rfl rfl 0 0 rfl rfl rfl rfl rfl hl.1 rfl (Nat.le_of_ble_eq_true rfl) dX9_undo_16 ⟨Nat.le_of_ble_eq_true rfl, Nat.le_of_ble_eq_true rfl⟩) (fun u H locs hq hM => ?_)
    have hM : xM D (TY q) [w9 q ad σ0 σ1 σ2 σ3 σ4 σ5 σ6 σ7 σ8 σ9 σ10 σ11 σ12 σ13 σ14 σ15 σ16 σ17 σ18 (xspl σ19 0 (xreg σ19 (tn σ20))) σ20 σ21 σ22 σ23 σ24 σ25 σ26 σ27 σ28 σ29 σ30] A s.heap s H locs := hM
    refine lv_aload_n hx hb dX9_undo_19 rfl (lv_at hl 0 rfl) ?_
    refine lv_dup hx hb dX9_undo_20 rfl ?_
    refine x_get hx hb hts iwX9_undo_X9 hown hM 0 0 rfl rfl rfl 20 (by decide) (hts _ lkX9_undo_153) (fun _ h => h) rfl dX9_undo_21 ?_
    refine x_cast (y := nI (tn σ20)) hU.1 ?_
    refine lv_iconst (v := nI 1) hx hb dX9_undo_24 (by decide) ?_
    refine x_isub (x := tn σ20) (y := 1) hx hb (by omega) dX9_undo_25 ?_
    refine x_put hx hb hts iwX9_undo_X9 tyX9 tyX9_ok nmX9 hown hM 0 0 rfl rfl rfl 20 (by decide) (hts _ lkX9_undo_153) (fun _ h => h) rfl (ty := .int) (by decide +kernel) rfl rfl (Nat.le_of_ble_eq_true rfl) [w9 q ad σ0 σ1 σ2 σ3 σ4 σ5 σ6 σ7 σ8 σ9 σ10 σ11 σ12 σ13 σ14 σ15 σ16 σ17 σ18 (xspl σ19 0 (xreg σ19 (tn σ20))) (nI ((tn σ20) - 1)) σ21 σ22 σ23 σ24 σ25 σ26 σ27 σ28 σ29 σ30] rfl dX9_undo_26 (fun H locs hM => ?_)
    refine lv_aload_n hx hb dX9_undo_29 rfl (lv_at hl 0 rfl) ?_
    refine x_get hx hb hts iwX9_undo_X9 hown hM 0 0 rfl rfl rfl 20 (by decide) (hts _ lkX9_undo_153) (fun _ h => h) rfl dX9_undo_30 ?_
    have e2 : ((nI ((tn σ20) - 1)) : Int32) = (nI (tn σ20 - 1)) := by rfl
    have hM : xM D (TY q) [w9 q ad σ0 σ1 σ2 σ3 σ4 σ5 σ6 σ7 σ8 σ9 σ10 σ11 σ12 σ13 σ14 σ15 σ16 σ17 σ18 (xspl σ19 0 (xreg σ19 (tn σ20))) (nI (tn σ20 - 1)) σ21 σ22 σ23 σ24 σ25 σ26 σ27 σ28 σ29 σ30] A s.heap s H locs := Eq.mp (congrArg (fun z9 => xM D (TY q) [w9 q ad σ0 σ1 σ2 σ3 σ4 σ5 σ6 σ7 σ8 σ9 σ10 σ11 σ12 σ13 σ14 σ15 σ16 σ17 σ18 (xspl σ19 0 (xreg σ19 (tn σ20))) z9 σ21 σ22 σ23 σ24 σ25 σ26 σ27 σ28 σ29 σ30] A s.heap s H locs) e2) hM
    exact x_iret hx hb hr hlocks () hM (show nI ((tn σ20) - 1) = nI (tn σ20 - 1) from by rfl) dX9_undo_33
  · exfalso; omega

set_option maxHeartbeats 4000000 in
set_option maxRecDepth 100000 in
theorem c_X9_undoN (l : Launch) (D : va_G) (q : Nat → ClassId) (ad : Nat → Nat) (σ0 : Int32) (σ1 : Nat → Int32) (σ2 : Nat → Int32) (σ3 : Nat → Int32) (σ4 : Nat → Int32) (σ5 : Nat → Int32) (σ6 : Nat → Int32) (σ7 : Nat → Int32) (σ8 : Nat → Int32) (σ9 : Nat → Int32) (σ10 : Nat → Int32) (σ11 : Nat → Int32) (σ12 : Nat → Int32) (σ13 : Nat → Int32) (σ14 : Nat → Int32) (σ15 : Nat → Int32) (σ16 : Nat → Int32) (σ17 : Nat → Int32) (σ18 : Nat → Int32) (σ19 : Nat → Int32) (σ20 : Int32) (σ21 : Int32) (σ22 : Int32) (σ23 : Nat → Int32) (σ24 : Int32) (σ25 : Int32) (σ26 : Nat → Int32) (σ27 : Nat → Int32) (σ28 : Nat → Int32) (σ29 : Nat → Int32) (σ30 : Nat → Int32) (hU : σ20 = nI (tn σ20) ∧ tn σ20 ≤ 8) (hU1 : tn σ20 = 0) : xC l yX9_undo wsX9_undo ({ frames := 1, cells := 0, slots := 0, locals := 23 }) D (TY q) [w9 q ad σ0 σ1 σ2 σ3 σ4 σ5 σ6 σ7 σ8 σ9 σ10 σ11 σ12 σ13 σ14 σ15 σ16 σ17 σ18 σ19 σ20 σ21 σ22 σ23 σ24 σ25 σ26 σ27 σ28 σ29 σ30] [.ref (ad 0)] (xQi D (TY q) (fun (r : Int32) (_ : Unit) => r = (-2)) (fun _ => [w9 q ad σ0 σ1 σ2 σ3 σ4 σ5 σ6 σ7 σ8 σ9 σ10 σ11 σ12 σ13 σ14 σ15 σ16 σ17 σ18 σ19 σ20 σ21 σ22 σ23 σ24 σ25 σ26 σ27 σ28 σ29 σ30])) 0 0 := by
  refine x_enter (cc := cX9_undo) (maxL := 1) (ret := (some .int)) (by decide) rfl (Nat.le_of_ble_eq_true rfl) ?_
  intro p e s m below meth c A ls H locs hfix hr hlocks hinit hM hl
  obtain ⟨hx, hb, hml, hown, hts⟩ := id hfix
  have hl : lv_has ls 1 [(0, .ref (ad 0))] := hl
  have hU2 := hU.2
  refine lv_aload_n hx hb dX9_undo_0 rfl (lv_at hl 0 rfl) ?_
  refine x_get hx hb hts iwX9_undo_X9 hown hM 0 0 rfl rfl rfl 20 (by decide) (hts _ lkX9_undo_153) (fun _ h => h) rfl dX9_undo_1 ?_
  refine x_cast (y := nI (tn σ20)) hU.1 ?_
  refine x_if_ne (x := tn σ20) (tgt := 10) hx hb (by omega) dX9_undo_4 (by decide) (fun c1 => ?_) (fun c1 => ?_)
  · exfalso; omega
  · refine lv_bipush (v := (-2)) hx hb dX9_undo_7 (by decide) ?_
    exact x_iret hx hb hr hlocks () hM (show (-2) = (-2) from rfl) dX9_undo_9

set_option maxRecDepth 20000 in
theorem ggX9_keep_X9_copy : GoodIn wsX9_keep wsX9_copy := goodIn_r _ [6, 7, 8, 9, 10, 11, 12, 13, 14, 15, 16, 17, 18, 19, 20, 21, 22, 23, 24, 25, 26, 27, 28, 29, 30, 31, 32, 33, 34, 35, 36, 37, 38] (by decide +kernel) (by decide +kernel)
set_option maxRecDepth 20000 in
theorem gX9_keep_X9_copy : GoodIn wsX9_keep (wsV RX9 216 RX9 yX9_copy wsX9_copy) := goodIn_app (goodIn_of _ (by decide +kernel)) ggX9_keep_X9_copy
theorem dX9_keep_0 : decode cX9_keep 0 = .ok (.aload_n 0, 1) := by decide +kernel
theorem dX9_keep_1 : decode cX9_keep 1 = .ok (.getfield 156, 3) := by decide +kernel
theorem dX9_keep_4 : decode cX9_keep 4 = .ok (.iconst 2, 1) := by decide +kernel
theorem dX9_keep_5 : decode cX9_keep 5 = .ok (.if_icmp .ne 6, 3) := by decide +kernel
theorem dX9_keep_8 : decode cX9_keep 8 = .ok (.bipush (-3), 2) := by decide +kernel
theorem dX9_keep_10 : decode cX9_keep 10 = .ok (.ireturn, 1) := by decide +kernel
theorem dX9_keep_11 : decode cX9_keep 11 = .ok (.aload_n 0, 1) := by decide +kernel
theorem dX9_keep_12 : decode cX9_keep 12 = .ok (.iconst 0, 1) := by decide +kernel
theorem dX9_keep_13 : decode cX9_keep 13 = .ok (.bipush 9, 2) := by decide +kernel
theorem dX9_keep_15 : decode cX9_keep 15 = .ok (.aload_n 0, 1) := by decide +kernel
theorem dX9_keep_16 : decode cX9_keep 16 = .ok (.getfield 156, 3) := by decide +kernel
theorem dX9_keep_19 : decode cX9_keep 19 = .ok (.iadd, 1) := by decide +kernel
theorem dX9_keep_20 : decode cX9_keep 20 = .ok (.invokevirtual 216, 3) := by decide +kernel
theorem dX9_keep_23 : decode cX9_keep 23 = .ok (.aload_n 0, 1) := by decide +kernel
theorem dX9_keep_24 : decode cX9_keep 24 = .ok (.dup, 1) := by decide +kernel
theorem dX9_keep_25 : decode cX9_keep 25 = .ok (.getfield 156, 3) := by decide +kernel
theorem dX9_keep_28 : decode cX9_keep 28 = .ok (.iconst 1, 1) := by decide +kernel
theorem dX9_keep_29 : decode cX9_keep 29 = .ok (.iadd, 1) := by decide +kernel
theorem dX9_keep_30 : decode cX9_keep 30 = .ok (.putfield 156, 3) := by decide +kernel
theorem dX9_keep_33 : decode cX9_keep 33 = .ok (.aload_n 0, 1) := by decide +kernel
theorem dX9_keep_34 : decode cX9_keep 34 = .ok (.getfield 156, 3) := by decide +kernel
theorem dX9_keep_37 : decode cX9_keep 37 = .ok (.ireturn, 1) := by decide +kernel
theorem lkX9_keep_156 : Cond.fieldLink RX9 156 "LeftAtFiveModel" "keptMany" "I" ∈ wsX9_keep := by decide +kernel
theorem iwX9_keep_X9 : ∀ w ∈ wsX90, w ∈ wsX9_keep := by decide +kernel
set_option maxHeartbeats 4000000 in
set_option maxRecDepth 100000 in
theorem c_X9_keep (l : Launch) (D : va_G) (q : Nat → ClassId) (ad : Nat → Nat) (σ0 : Int32) (σ1 : Nat → Int32) (σ2 : Nat → Int32) (σ3 : Nat → Int32) (σ4 : Nat → Int32) (σ5 : Nat → Int32) (σ6 : Nat → Int32) (σ7 : Nat → Int32) (σ8 : Nat → Int32) (σ9 : Nat → Int32) (σ10 : Nat → Int32) (σ11 : Nat → Int32) (σ12 : Nat → Int32) (σ13 : Nat → Int32) (σ14 : Nat → Int32) (σ15 : Nat → Int32) (σ16 : Nat → Int32) (σ17 : Nat → Int32) (σ18 : Nat → Int32) (σ19 : Nat → Int32) (σ20 : Int32) (σ21 : Int32) (σ22 : Int32) (σ23 : Nat → Int32) (σ24 : Int32) (σ25 : Int32) (σ26 : Nat → Int32) (σ27 : Nat → Int32) (σ28 : Nat → Int32) (σ29 : Nat → Int32) (σ30 : Nat → Int32) (hV : σ21 = nI (tn σ21) ∧ tn σ21 ≤ 2) (hV1 : ¬ tn σ21 = 2) : xC l yX9_keep wsX9_keep ({ frames := 1, cells := 0, slots := 0, locals := 23 }) D (TY q) [w9 q ad σ0 σ1 σ2 σ3 σ4 σ5 σ6 σ7 σ8 σ9 σ10 σ11 σ12 σ13 σ14 σ15 σ16 σ17 σ18 σ19 σ20 σ21 σ22 σ23 σ24 σ25 σ26 σ27 σ28 σ29 σ30] [.ref (ad 0)] (xQi D (TY q) (fun (r : Int32) (_ : Unit) => r = nI (tn σ21 + 1)) (fun _ => [w9 q ad σ0 σ1 σ2 σ3 σ4 σ5 σ6 σ7 σ8 σ9 σ10 σ11 σ12 σ13 σ14 σ15 σ16 σ17 σ18 (xspl σ19 (9 + tn σ21) (xreg σ19 0)) σ20 (nI (tn σ21 + 1)) σ22 σ23 σ24 σ25 σ26 σ27 σ28 σ29 σ30])) 0 0 := by
  refine x_enter (cc := cX9_keep) (maxL := 1) (ret := (some .int)) (by decide) rfl (Nat.le_of_ble_eq_true rfl) ?_
  intro p e s m below meth c A ls H locs hfix hr hlocks hinit hM hl
  obtain ⟨hx, hb, hml, hown, hts⟩ := id hfix
  have hl : lv_has ls 1 [(0, .ref (ad 0))] := hl
  have hV2 := hV.2
  refine lv_aload_n hx hb dX9_keep_0 rfl (lv_at hl 0 rfl) ?_
  refine x_get hx hb hts iwX9_keep_X9 hown hM 0 0 rfl rfl rfl 21 (by decide) (hts _ lkX9_keep_156) (fun _ h => h) rfl dX9_keep_1 ?_
  refine x_cast (y := nI (tn σ21)) hV.1 ?_
  refine lv_iconst (v := nI 2) hx hb dX9_keep_4 (by decide) ?_
  refine x_icmp_ne (x := tn σ21) (y := 2) (tgt := 11) hx hb (by omega) (by omega) dX9_keep_5 (by decide) (fun c1 => ?_) (fun c1 => ?_)
  · refine lv_aload_n hx hb dX9_keep_11 rfl (lv_at hl 0 rfl) ?_
    refine lv_iconst (v := nI 0) hx hb dX9_keep_12 (by decide) ?_
    refine lv_bipush (v := nI 9) hx hb dX9_keep_13 (by decide) ?_
    refine lv_aload_n hx hb dX9_keep_15 rfl (lv_at hl 0 rfl) ?_
    refine x_get hx hb hts iwX9_keep_X9 hown hM 0 0 rfl rfl rfl 21 (by decide) (hts _ lkX9_keep_156) (fun _ h => h) rfl dX9_keep_16 ?_
    refine x_cast (y := nI (tn σ21)) hV.1 ?_
    refine x_iadd (x := 9) (y := tn σ21) hx hb dX9_keep_19 ?_
    refine x_callv (bc := [w9 q ad σ0 σ1 σ2 σ3 σ4 σ5 σ6 σ7 σ8 σ9 σ10 σ11 σ12 σ13 σ14 σ15 σ16 σ17 σ18 σ19 σ20 σ21 σ22 σ23 σ24 σ25 σ26 σ27 σ28 σ29 σ30]) (br := []) hM [0] [] rfl rfl rfl (by decide) (x_runV (As := [.int (nI 0), .int (nI (9 + (tn σ21)))]) (rest := []) hfix (c_X9_copy l D q ad σ0 σ1 σ2 σ3 σ4 σ5 σ6 σ7 σ8 σ9 σ10 σ11 σ12 σ13 σ14 σ15 σ16 σ17 σ18 σ19 σ20 σ21 σ22 σ23 σ24 σ25 σ26 σ27 σ28 σ29 σ30 0 (9 + (tn σ21)) (by omega) (by omega) (by omega)) (cwV 2 hts gX9_keep_X9_copy rfl rfl rfl (by decide +kernel) ⟨Nat.le_of_ble_eq_true rfl, Nat.le_of_ble_eq_true rfl⟩) hM [0] rfl rfl 0 0 rfl rfl rfl rfl rfl hl.1 rfl (Nat.le_of_ble_eq_true rfl) dX9_keep_20 ⟨Nat.le_of_ble_eq_true rfl, Nat.le_of_ble_eq_true rfl⟩) (fun u H locs hq hM => ?_)
    have hM : xM D (TY q) [w9 q ad σ0 σ1 σ2 σ3 σ4 σ5 σ6 σ7 σ8 σ9 σ10 σ11 σ12 σ13 σ14 σ15 σ16 σ17 σ18 (xspl σ19 (9 + (tn σ21)) (xreg σ19 0)) σ20 σ21 σ22 σ23 σ24 σ25 σ26 σ27 σ28 σ29 σ30] A s.heap s H locs := hM
    refine lv_aload_n hx hb dX9_keep_23 rfl (lv_at hl 0 rfl) ?_
    refine lv_dup hx hb dX9_keep_24 rfl ?_
    refine x_get hx hb hts iwX9_keep_X9 hown hM 0 0 rfl rfl rfl 21 (by decide) (hts _ lkX9_keep_156) (fun _ h => h) rfl dX9_keep_25 ?_
    refine x_cast (y := nI (tn σ21)) hV.1 ?_
    refine lv_iconst (v := nI 1) hx hb dX9_keep_28 (by decide) ?_
    refine x_iadd (x := tn σ21) (y := 1) hx hb dX9_keep_29 ?_
    refine x_put hx hb hts iwX9_keep_X9 tyX9 tyX9_ok nmX9 hown hM 0 0 rfl rfl rfl 21 (by decide) (hts _ lkX9_keep_156) (fun _ h => h) rfl (ty := .int) (by decide +kernel) rfl rfl (Nat.le_of_ble_eq_true rfl) [w9 q ad σ0 σ1 σ2 σ3 σ4 σ5 σ6 σ7 σ8 σ9 σ10 σ11 σ12 σ13 σ14 σ15 σ16 σ17 σ18 (xspl σ19 (9 + (tn σ21)) (xreg σ19 0)) σ20 (nI (tn σ21 + 1)) σ22 σ23 σ24 σ25 σ26 σ27 σ28 σ29 σ30] rfl dX9_keep_30 (fun H locs hM => ?_)
    refine lv_aload_n hx hb dX9_keep_33 rfl (lv_at hl 0 rfl) ?_
    refine x_get hx hb hts iwX9_keep_X9 hown hM 0 0 rfl rfl rfl 21 (by decide) (hts _ lkX9_keep_156) (fun _ h => h) rfl dX9_keep_34 ?_
    have e2 : ((xspl σ19 (9 + (tn σ21)) (xreg σ19 0)) : Nat → Int32) = (xspl σ19 (9 + tn σ21) (xreg σ19 0)) := by rfl
    have hM : xM D (TY q) [w9 q ad σ0 σ1 σ2 σ3 σ4 σ5 σ6 σ7 σ8 σ9 σ10 σ11 σ12 σ13 σ14 σ15 σ16 σ17 σ18 (xspl σ19 (9 + tn σ21) (xreg σ19 0)) σ20 (nI (tn σ21 + 1)) σ22 σ23 σ24 σ25 σ26 σ27 σ28 σ29 σ30] A s.heap s H locs := Eq.mp (congrArg (fun z9 => xM D (TY q) [w9 q ad σ0 σ1 σ2 σ3 σ4 σ5 σ6 σ7 σ8 σ9 σ10 σ11 σ12 σ13 σ14 σ15 σ16 σ17 σ18 z9 σ20 (nI (tn σ21 + 1)) σ22 σ23 σ24 σ25 σ26 σ27 σ28 σ29 σ30] A s.heap s H locs) e2) hM
    exact x_iret hx hb hr hlocks () hM (show nI (tn σ21 + 1) = nI (tn σ21 + 1) from rfl) dX9_keep_37
  · exfalso; omega

set_option maxHeartbeats 4000000 in
set_option maxRecDepth 100000 in
theorem c_X9_keepN (l : Launch) (D : va_G) (q : Nat → ClassId) (ad : Nat → Nat) (σ0 : Int32) (σ1 : Nat → Int32) (σ2 : Nat → Int32) (σ3 : Nat → Int32) (σ4 : Nat → Int32) (σ5 : Nat → Int32) (σ6 : Nat → Int32) (σ7 : Nat → Int32) (σ8 : Nat → Int32) (σ9 : Nat → Int32) (σ10 : Nat → Int32) (σ11 : Nat → Int32) (σ12 : Nat → Int32) (σ13 : Nat → Int32) (σ14 : Nat → Int32) (σ15 : Nat → Int32) (σ16 : Nat → Int32) (σ17 : Nat → Int32) (σ18 : Nat → Int32) (σ19 : Nat → Int32) (σ20 : Int32) (σ21 : Int32) (σ22 : Int32) (σ23 : Nat → Int32) (σ24 : Int32) (σ25 : Int32) (σ26 : Nat → Int32) (σ27 : Nat → Int32) (σ28 : Nat → Int32) (σ29 : Nat → Int32) (σ30 : Nat → Int32) (hV : σ21 = nI (tn σ21) ∧ tn σ21 ≤ 2) (hV1 : tn σ21 = 2) : xC l yX9_keep wsX9_keep ({ frames := 1, cells := 0, slots := 0, locals := 23 }) D (TY q) [w9 q ad σ0 σ1 σ2 σ3 σ4 σ5 σ6 σ7 σ8 σ9 σ10 σ11 σ12 σ13 σ14 σ15 σ16 σ17 σ18 σ19 σ20 σ21 σ22 σ23 σ24 σ25 σ26 σ27 σ28 σ29 σ30] [.ref (ad 0)] (xQi D (TY q) (fun (r : Int32) (_ : Unit) => r = (-3)) (fun _ => [w9 q ad σ0 σ1 σ2 σ3 σ4 σ5 σ6 σ7 σ8 σ9 σ10 σ11 σ12 σ13 σ14 σ15 σ16 σ17 σ18 σ19 σ20 σ21 σ22 σ23 σ24 σ25 σ26 σ27 σ28 σ29 σ30])) 0 0 := by
  refine x_enter (cc := cX9_keep) (maxL := 1) (ret := (some .int)) (by decide) rfl (Nat.le_of_ble_eq_true rfl) ?_
  intro p e s m below meth c A ls H locs hfix hr hlocks hinit hM hl
  obtain ⟨hx, hb, hml, hown, hts⟩ := id hfix
  have hl : lv_has ls 1 [(0, .ref (ad 0))] := hl
  have hV2 := hV.2
  refine lv_aload_n hx hb dX9_keep_0 rfl (lv_at hl 0 rfl) ?_
  refine x_get hx hb hts iwX9_keep_X9 hown hM 0 0 rfl rfl rfl 21 (by decide) (hts _ lkX9_keep_156) (fun _ h => h) rfl dX9_keep_1 ?_
  refine x_cast (y := nI (tn σ21)) hV.1 ?_
  refine lv_iconst (v := nI 2) hx hb dX9_keep_4 (by decide) ?_
  refine x_icmp_ne (x := tn σ21) (y := 2) (tgt := 11) hx hb (by omega) (by omega) dX9_keep_5 (by decide) (fun c1 => ?_) (fun c1 => ?_)
  · exfalso; omega
  · refine lv_bipush (v := (-3)) hx hb dX9_keep_8 (by decide) ?_
    exact x_iret hx hb hr hlocks () hM (show (-3) = (-3) from rfl) dX9_keep_10

set_option maxRecDepth 20000 in
theorem ggX9_back_X9_copy : GoodIn wsX9_back wsX9_copy := goodIn_r _ [7, 8, 9, 10, 11, 12, 13, 14, 15, 16, 17, 18, 19, 20, 21, 22, 23, 24, 25, 26, 27, 28, 29, 30, 31, 32, 33, 34, 35, 36, 37, 38, 39] (by decide +kernel) (by decide +kernel)
set_option maxRecDepth 20000 in
theorem gX9_back_X9_copy : GoodIn wsX9_back (wsV RX9 216 RX9 yX9_copy wsX9_copy) := goodIn_app (goodIn_of _ (by decide +kernel)) ggX9_back_X9_copy
theorem dX9_back_0 : decode cX9_back 0 = .ok (.aload_n 0, 1) := by decide +kernel
theorem dX9_back_1 : decode cX9_back 1 = .ok (.getfield 156, 3) := by decide +kernel
theorem dX9_back_4 : decode cX9_back 4 = .ok (.ifCond .ne 6, 3) := by decide +kernel
theorem dX9_back_7 : decode cX9_back 7 = .ok (.bipush (-2), 2) := by decide +kernel
theorem dX9_back_9 : decode cX9_back 9 = .ok (.ireturn, 1) := by decide +kernel
theorem dX9_back_10 : decode cX9_back 10 = .ok (.aload_n 0, 1) := by decide +kernel
theorem dX9_back_11 : decode cX9_back 11 = .ok (.dup, 1) := by decide +kernel
theorem dX9_back_12 : decode cX9_back 12 = .ok (.getfield 156, 3) := by decide +kernel
theorem dX9_back_15 : decode cX9_back 15 = .ok (.iconst 1, 1) := by decide +kernel
theorem dX9_back_16 : decode cX9_back 16 = .ok (.isub, 1) := by decide +kernel
theorem dX9_back_17 : decode cX9_back 17 = .ok (.putfield 156, 3) := by decide +kernel
theorem dX9_back_20 : decode cX9_back 20 = .ok (.aload_n 0, 1) := by decide +kernel
theorem dX9_back_21 : decode cX9_back 21 = .ok (.bipush 9, 2) := by decide +kernel
theorem dX9_back_23 : decode cX9_back 23 = .ok (.aload_n 0, 1) := by decide +kernel
theorem dX9_back_24 : decode cX9_back 24 = .ok (.getfield 156, 3) := by decide +kernel
theorem dX9_back_27 : decode cX9_back 27 = .ok (.iadd, 1) := by decide +kernel
theorem dX9_back_28 : decode cX9_back 28 = .ok (.iconst 0, 1) := by decide +kernel
theorem dX9_back_29 : decode cX9_back 29 = .ok (.invokevirtual 216, 3) := by decide +kernel
theorem dX9_back_32 : decode cX9_back 32 = .ok (.aload_n 0, 1) := by decide +kernel
theorem dX9_back_33 : decode cX9_back 33 = .ok (.iconst 0, 1) := by decide +kernel
theorem dX9_back_34 : decode cX9_back 34 = .ok (.putfield 153, 3) := by decide +kernel
theorem dX9_back_37 : decode cX9_back 37 = .ok (.aload_n 0, 1) := by decide +kernel
theorem dX9_back_38 : decode cX9_back 38 = .ok (.getfield 156, 3) := by decide +kernel
theorem dX9_back_41 : decode cX9_back 41 = .ok (.ireturn, 1) := by decide +kernel
theorem lkX9_back_153 : Cond.fieldLink RX9 153 "LeftAtFiveModel" "undoMany" "I" ∈ wsX9_back := by decide +kernel
theorem lkX9_back_156 : Cond.fieldLink RX9 156 "LeftAtFiveModel" "keptMany" "I" ∈ wsX9_back := by decide +kernel
theorem iwX9_back_X9 : ∀ w ∈ wsX90, w ∈ wsX9_back := by decide +kernel
set_option maxHeartbeats 4000000 in
set_option maxRecDepth 100000 in
theorem c_X9_back (l : Launch) (D : va_G) (q : Nat → ClassId) (ad : Nat → Nat) (σ0 : Int32) (σ1 : Nat → Int32) (σ2 : Nat → Int32) (σ3 : Nat → Int32) (σ4 : Nat → Int32) (σ5 : Nat → Int32) (σ6 : Nat → Int32) (σ7 : Nat → Int32) (σ8 : Nat → Int32) (σ9 : Nat → Int32) (σ10 : Nat → Int32) (σ11 : Nat → Int32) (σ12 : Nat → Int32) (σ13 : Nat → Int32) (σ14 : Nat → Int32) (σ15 : Nat → Int32) (σ16 : Nat → Int32) (σ17 : Nat → Int32) (σ18 : Nat → Int32) (σ19 : Nat → Int32) (σ20 : Int32) (σ21 : Int32) (σ22 : Int32) (σ23 : Nat → Int32) (σ24 : Int32) (σ25 : Int32) (σ26 : Nat → Int32) (σ27 : Nat → Int32) (σ28 : Nat → Int32) (σ29 : Nat → Int32) (σ30 : Nat → Int32) (hV : σ21 = nI (tn σ21) ∧ tn σ21 ≤ 2) (hV1 : ¬ tn σ21 = 0) : xC l yX9_back wsX9_back ({ frames := 1, cells := 0, slots := 0, locals := 23 }) D (TY q) [w9 q ad σ0 σ1 σ2 σ3 σ4 σ5 σ6 σ7 σ8 σ9 σ10 σ11 σ12 σ13 σ14 σ15 σ16 σ17 σ18 σ19 σ20 σ21 σ22 σ23 σ24 σ25 σ26 σ27 σ28 σ29 σ30] [.ref (ad 0)] (xQi D (TY q) (fun (r : Int32) (_ : Unit) => r = nI (tn σ21 - 1)) (fun _ => [w9 q ad σ0 σ1 σ2 σ3 σ4 σ5 σ6 σ7 σ8 σ9 σ10 σ11 σ12 σ13 σ14 σ15 σ16 σ17 σ18 (xspl σ19 0 (xreg σ19 (9 + (tn σ21 - 1)))) (nI 0) (nI (tn σ21 - 1)) σ22 σ23 σ24 σ25 σ26 σ27 σ28 σ29 σ30])) 0 0 := by
  refine x_enter (cc := cX9_back) (maxL := 1) (ret := (some .int)) (by decide) rfl (Nat.le_of_ble_eq_true rfl) ?_
  intro p e s m below meth c A ls H locs hfix hr hlocks hinit hM hl
  obtain ⟨hx, hb, hml, hown, hts⟩ := id hfix
  have hl : lv_has ls 1 [(0, .ref (ad 0))] := hl
  have hV2 := hV.2
  refine lv_aload_n hx hb dX9_back_0 rfl (lv_at hl 0 rfl) ?_
  refine x_get hx hb hts iwX9_back_X9 hown hM 0 0 rfl rfl rfl 21 (by decide) (hts _ lkX9_back_156) (fun _ h => h) rfl dX9_back_1 ?_
  refine x_cast (y := nI (tn σ21)) hV.1 ?_
  refine x_if_ne (x := tn σ21) (tgt := 10) hx hb (by omega) dX9_back_4 (by decide) (fun c1 => ?_) (fun c1 => ?_)
  · refine lv_aload_n hx hb dX9_back_10 rfl (lv_at hl 0 rfl) ?_
    refine lv_dup hx hb dX9_back_11 rfl ?_
    refine x_get hx hb hts iwX9_back_X9 hown hM 0 0 rfl rfl rfl 21 (by decide) (hts _ lkX9_back_156) (fun _ h => h) rfl dX9_back_12 ?_
    refine x_cast (y := nI (tn σ21)) hV.1 ?_
    refine lv_iconst (v := nI 1) hx hb dX9_back_15 (by decide) ?_
    refine x_isub (x := tn σ21) (y := 1) hx hb (by omega) dX9_back_16 ?_
    refine x_put hx hb hts iwX9_back_X9 tyX9 tyX9_ok nmX9 hown hM 0 0 rfl rfl rfl 21 (by decide) (hts _ lkX9_back_156) (fun _ h => h) rfl (ty := .int) (by decide +kernel) rfl rfl (Nat.le_of_ble_eq_true rfl) [w9 q ad σ0 σ1 σ2 σ3 σ4 σ5 σ6 σ7 σ8 σ9 σ10 σ11 σ12 σ13 σ14 σ15 σ16 σ17 σ18 σ19 σ20 (nI ((tn σ21) - 1)) σ22 σ23 σ24 σ25 σ26 σ27 σ28 σ29 σ30] rfl dX9_back_17 (fun H locs hM => ?_)
    refine lv_aload_n hx hb dX9_back_20 rfl (lv_at hl 0 rfl) ?_
    refine lv_bipush (v := nI 9) hx hb dX9_back_21 (by decide) ?_
    refine lv_aload_n hx hb dX9_back_23 rfl (lv_at hl 0 rfl) ?_
    refine x_get hx hb hts iwX9_back_X9 hown hM 0 0 rfl rfl rfl 21 (by decide) (hts _ lkX9_back_156) (fun _ h => h) rfl dX9_back_24 ?_
    refine x_iadd (x := 9) (y := (tn σ21) - 1) hx hb dX9_back_27 ?_
    refine lv_iconst (v := nI 0) hx hb dX9_back_28 (by decide) ?_
    refine x_callv (bc := [w9 q ad σ0 σ1 σ2 σ3 σ4 σ5 σ6 σ7 σ8 σ9 σ10 σ11 σ12 σ13 σ14 σ15 σ16 σ17 σ18 σ19 σ20 (nI ((tn σ21) - 1)) σ22 σ23 σ24 σ25 σ26 σ27 σ28 σ29 σ30]) (br := []) hM [0] [] rfl rfl rfl (by decide) (x_runV (As := [.int (nI (9 + ((tn σ21) - 1))), .int (nI 0)]) (rest := []) hfix (c_X9_copy l D q ad σ0 σ1 σ2 σ3 σ4 σ5 σ6 σ7 σ8 σ9 σ10 σ11 σ12 σ13 σ14 σ15 σ16 σ17 σ18 σ19 σ20 (nI ((tn σ21) - 1)) σ22 σ23 σ24 σ25 σ26 σ27 σ28 σ29 σ30 (9 + ((tn σ21) - 1)) 0 (by omega) (by omega) (by omega)) (cwV 2 hts gX9_back_X9_copy rfl rfl rfl (by decide +kernel) ⟨Nat.le_of_ble_eq_true rfl, Nat.le_of_ble_eq_true rfl⟩) hM [0] rfl rfl 0 0 rfl rfl rfl rfl rfl hl.1 rfl (Nat.le_of_ble_eq_true rfl) dX9_back_29 ⟨Nat.le_of_ble_eq_true rfl, Nat.le_of_ble_eq_true rfl⟩) (fun u H locs hq hM => ?_)
    have hM : xM D (TY q) [w9 q ad σ0 σ1 σ2 σ3 σ4 σ5 σ6 σ7 σ8 σ9 σ10 σ11 σ12 σ13 σ14 σ15 σ16 σ17 σ18 (xspl σ19 0 (xreg σ19 (9 + ((tn σ21) - 1)))) σ20 (nI ((tn σ21) - 1)) σ22 σ23 σ24 σ25 σ26 σ27 σ28 σ29 σ30] A s.heap s H locs := hM
    refine lv_aload_n hx hb dX9_back_32 rfl (lv_at hl 0 rfl) ?_
    refine lv_iconst (v := nI 0) hx hb dX9_back_33 (by decide) ?_
    refine x_put hx hb hts iwX9_back_X9 tyX9 tyX9_ok nmX9 hown hM 0 0 rfl rfl rfl 20 (by decide) (hts _ lkX9_back_153) (fun _ h => h) rfl (ty := .int) (by decide +kernel) rfl rfl (Nat.le_of_ble_eq_true rfl) [w9 q ad σ0 σ1 σ2 σ3 σ4 σ5 σ6 σ7 σ8 σ9 σ10 σ11 σ12 σ13 σ14 σ15 σ16 σ17 σ18 (xspl σ19 0 (xreg σ19 (9 + ((tn σ21) - 1)))) (nI 0) (nI ((tn σ21) - 1)) σ22 σ23 σ24 σ25 σ26 σ27 σ28 σ29 σ30] rfl dX9_back_34 (fun H locs hM => ?_)
    refine lv_aload_n hx hb dX9_back_37 rfl (lv_at hl 0 rfl) ?_
    refine x_get hx hb hts iwX9_back_X9 hown hM 0 0 rfl rfl rfl 21 (by decide) (hts _ lkX9_back_156) (fun _ h => h) rfl dX9_back_38 ?_
    have e2 : ((xspl σ19 0 (xreg σ19 (9 + ((tn σ21) - 1)))) : Nat → Int32) = (xspl σ19 0 (xreg σ19 (9 + (tn σ21 - 1)))) := by rfl
    have hM : xM D (TY q) [w9 q ad σ0 σ1 σ2 σ3 σ4 σ5 σ6 σ7 σ8 σ9 σ10 σ11 σ12 σ13 σ14 σ15 σ16 σ17 σ18 (xspl σ19 0 (xreg σ19 (9 + (tn σ21 - 1)))) (nI 0) (nI ((tn σ21) - 1)) σ22 σ23 σ24 σ25 σ26 σ27 σ28 σ29 σ30] A s.heap s H locs := Eq.mp (congrArg (fun z9 => xM D (TY q) [w9 q ad σ0 σ1 σ2 σ3 σ4 σ5 σ6 σ7 σ8 σ9 σ10 σ11 σ12 σ13 σ14 σ15 σ16 σ17 σ18 z9 (nI 0) (nI ((tn σ21) - 1)) σ22 σ23 σ24 σ25 σ26 σ27 σ28 σ29 σ30] A s.heap s H locs) e2) hM
    have e3 : ((nI ((tn σ21) - 1)) : Int32) = (nI (tn σ21 - 1)) := by rfl
    have hM : xM D (TY q) [w9 q ad σ0 σ1 σ2 σ3 σ4 σ5 σ6 σ7 σ8 σ9 σ10 σ11 σ12 σ13 σ14 σ15 σ16 σ17 σ18 (xspl σ19 0 (xreg σ19 (9 + (tn σ21 - 1)))) (nI 0) (nI (tn σ21 - 1)) σ22 σ23 σ24 σ25 σ26 σ27 σ28 σ29 σ30] A s.heap s H locs := Eq.mp (congrArg (fun z9 => xM D (TY q) [w9 q ad σ0 σ1 σ2 σ3 σ4 σ5 σ6 σ7 σ8 σ9 σ10 σ11 σ12 σ13 σ14 σ15 σ16 σ17 σ18 (xspl σ19 0 (xreg σ19 (9 + (tn σ21 - 1)))) (nI 0) z9 σ22 σ23 σ24 σ25 σ26 σ27 σ28 σ29 σ30] A s.heap s H locs) e3) hM
    exact x_iret hx hb hr hlocks () hM (show nI ((tn σ21) - 1) = nI (tn σ21 - 1) from by rfl) dX9_back_41
  · exfalso; omega

set_option maxHeartbeats 4000000 in
set_option maxRecDepth 100000 in
theorem c_X9_backN (l : Launch) (D : va_G) (q : Nat → ClassId) (ad : Nat → Nat) (σ0 : Int32) (σ1 : Nat → Int32) (σ2 : Nat → Int32) (σ3 : Nat → Int32) (σ4 : Nat → Int32) (σ5 : Nat → Int32) (σ6 : Nat → Int32) (σ7 : Nat → Int32) (σ8 : Nat → Int32) (σ9 : Nat → Int32) (σ10 : Nat → Int32) (σ11 : Nat → Int32) (σ12 : Nat → Int32) (σ13 : Nat → Int32) (σ14 : Nat → Int32) (σ15 : Nat → Int32) (σ16 : Nat → Int32) (σ17 : Nat → Int32) (σ18 : Nat → Int32) (σ19 : Nat → Int32) (σ20 : Int32) (σ21 : Int32) (σ22 : Int32) (σ23 : Nat → Int32) (σ24 : Int32) (σ25 : Int32) (σ26 : Nat → Int32) (σ27 : Nat → Int32) (σ28 : Nat → Int32) (σ29 : Nat → Int32) (σ30 : Nat → Int32) (hV : σ21 = nI (tn σ21) ∧ tn σ21 ≤ 2) (hV1 : tn σ21 = 0) : xC l yX9_back wsX9_back ({ frames := 1, cells := 0, slots := 0, locals := 23 }) D (TY q) [w9 q ad σ0 σ1 σ2 σ3 σ4 σ5 σ6 σ7 σ8 σ9 σ10 σ11 σ12 σ13 σ14 σ15 σ16 σ17 σ18 σ19 σ20 σ21 σ22 σ23 σ24 σ25 σ26 σ27 σ28 σ29 σ30] [.ref (ad 0)] (xQi D (TY q) (fun (r : Int32) (_ : Unit) => r = (-2)) (fun _ => [w9 q ad σ0 σ1 σ2 σ3 σ4 σ5 σ6 σ7 σ8 σ9 σ10 σ11 σ12 σ13 σ14 σ15 σ16 σ17 σ18 σ19 σ20 σ21 σ22 σ23 σ24 σ25 σ26 σ27 σ28 σ29 σ30])) 0 0 := by
  refine x_enter (cc := cX9_back) (maxL := 1) (ret := (some .int)) (by decide) rfl (Nat.le_of_ble_eq_true rfl) ?_
  intro p e s m below meth c A ls H locs hfix hr hlocks hinit hM hl
  obtain ⟨hx, hb, hml, hown, hts⟩ := id hfix
  have hl : lv_has ls 1 [(0, .ref (ad 0))] := hl
  have hV2 := hV.2
  refine lv_aload_n hx hb dX9_back_0 rfl (lv_at hl 0 rfl) ?_
  refine x_get hx hb hts iwX9_back_X9 hown hM 0 0 rfl rfl rfl 21 (by decide) (hts _ lkX9_back_156) (fun _ h => h) rfl dX9_back_1 ?_
  refine x_cast (y := nI (tn σ21)) hV.1 ?_
  refine x_if_ne (x := tn σ21) (tgt := 10) hx hb (by omega) dX9_back_4 (by decide) (fun c1 => ?_) (fun c1 => ?_)
  · exfalso; omega
  · refine lv_bipush (v := (-2)) hx hb dX9_back_7 (by decide) ?_
    exact x_iret hx hb hr hlocks () hM (show (-2) = (-2) from rfl) dX9_back_9
