theorem dX9_noStreet_0 : decode cX9_noStreet 0 = .ok (.aload_n 0, 1) := by decide +kernel
theorem dX9_noStreet_1 : decode cX9_noStreet 1 = .ok (.getfield 13, 3) := by decide +kernel
theorem dX9_noStreet_4 : decode cX9_noStreet 4 = .ok (.iload_n 1, 1) := by decide +kernel
theorem dX9_noStreet_5 : decode cX9_noStreet 5 = .ok (.iconst 0, 1) := by decide +kernel
theorem dX9_noStreet_6 : decode cX9_noStreet 6 = .ok (.iastore, 1) := by decide +kernel
theorem dX9_noStreet_7 : decode cX9_noStreet 7 = .ok (.aload_n 0, 1) := by decide +kernel
theorem dX9_noStreet_8 : decode cX9_noStreet 8 = .ok (.getfield 22, 3) := by decide +kernel
theorem dX9_noStreet_11 : decode cX9_noStreet 11 = .ok (.iload_n 1, 1) := by decide +kernel
theorem dX9_noStreet_12 : decode cX9_noStreet 12 = .ok (.iconst 0, 1) := by decide +kernel
theorem dX9_noStreet_13 : decode cX9_noStreet 13 = .ok (.iastore, 1) := by decide +kernel
theorem dX9_noStreet_14 : decode cX9_noStreet 14 = .ok (.aload_n 0, 1) := by decide +kernel
theorem dX9_noStreet_15 : decode cX9_noStreet 15 = .ok (.getfield 31, 3) := by decide +kernel
theorem dX9_noStreet_18 : decode cX9_noStreet 18 = .ok (.iload_n 1, 1) := by decide +kernel
theorem dX9_noStreet_19 : decode cX9_noStreet 19 = .ok (.iconst 0, 1) := by decide +kernel
theorem dX9_noStreet_20 : decode cX9_noStreet 20 = .ok (.iastore, 1) := by decide +kernel
theorem dX9_noStreet_21 : decode cX9_noStreet 21 = .ok (.aload_n 0, 1) := by decide +kernel
theorem dX9_noStreet_22 : decode cX9_noStreet 22 = .ok (.getfield 43, 3) := by decide +kernel
theorem dX9_noStreet_25 : decode cX9_noStreet 25 = .ok (.iload_n 1, 1) := by decide +kernel
theorem dX9_noStreet_26 : decode cX9_noStreet 26 = .ok (.iconst 0, 1) := by decide +kernel
theorem dX9_noStreet_27 : decode cX9_noStreet 27 = .ok (.iastore, 1) := by decide +kernel
theorem dX9_noStreet_28 : decode cX9_noStreet 28 = .ok (.aload_n 0, 1) := by decide +kernel
theorem dX9_noStreet_29 : decode cX9_noStreet 29 = .ok (.getfield 52, 3) := by decide +kernel
theorem dX9_noStreet_32 : decode cX9_noStreet 32 = .ok (.iload_n 1, 1) := by decide +kernel
theorem dX9_noStreet_33 : decode cX9_noStreet 33 = .ok (.iconst 0, 1) := by decide +kernel
theorem dX9_noStreet_34 : decode cX9_noStreet 34 = .ok (.iastore, 1) := by decide +kernel
theorem dX9_noStreet_35 : decode cX9_noStreet 35 = .ok (.iconst 0, 1) := by decide +kernel
theorem dX9_noStreet_36 : decode cX9_noStreet 36 = .ok (.istore_n 2, 1) := by decide +kernel
theorem dX9_noStreet_37 : decode cX9_noStreet 37 = .ok (.iload_n 2, 1) := by decide +kernel
theorem dX9_noStreet_38 : decode cX9_noStreet 38 = .ok (.bipush 25, 2) := by decide +kernel
theorem dX9_noStreet_40 : decode cX9_noStreet 40 = .ok (.if_icmp .ge 21, 3) := by decide +kernel
theorem dX9_noStreet_43 : decode cX9_noStreet 43 = .ok (.aload_n 0, 1) := by decide +kernel
theorem dX9_noStreet_44 : decode cX9_noStreet 44 = .ok (.getfield 28, 3) := by decide +kernel
theorem dX9_noStreet_47 : decode cX9_noStreet 47 = .ok (.bipush 25, 2) := by decide +kernel
theorem dX9_noStreet_49 : decode cX9_noStreet 49 = .ok (.iload_n 1, 1) := by decide +kernel
theorem dX9_noStreet_50 : decode cX9_noStreet 50 = .ok (.imul, 1) := by decide +kernel
theorem dX9_noStreet_51 : decode cX9_noStreet 51 = .ok (.iload_n 2, 1) := by decide +kernel
theorem dX9_noStreet_52 : decode cX9_noStreet 52 = .ok (.iadd, 1) := by decide +kernel
theorem dX9_noStreet_53 : decode cX9_noStreet 53 = .ok (.iconst 0, 1) := by decide +kernel
theorem dX9_noStreet_54 : decode cX9_noStreet 54 = .ok (.iastore, 1) := by decide +kernel
theorem dX9_noStreet_55 : decode cX9_noStreet 55 = .ok (.iinc 2 1, 3) := by decide +kernel
theorem dX9_noStreet_58 : decode cX9_noStreet 58 = .ok (.goto (-21), 3) := by decide +kernel
theorem dX9_noStreet_61 : decode cX9_noStreet 61 = .ok (.return_, 1) := by decide +kernel
theorem lkX9_noStreet_13 : Cond.fieldLink RX9 13 "LeftAtFiveModel" "goods" "[I" ∈ wsX9_noStreet := by decide +kernel
theorem lkX9_noStreet_22 : Cond.fieldLink RX9 22 "LeftAtFiveModel" "houses" "[I" ∈ wsX9_noStreet := by decide +kernel
theorem lkX9_noStreet_28 : Cond.fieldLink RX9 28 "LeftAtFiveModel" "stock" "[I" ∈ wsX9_noStreet := by decide +kernel
theorem lkX9_noStreet_31 : Cond.fieldLink RX9 31 "LeftAtFiveModel" "eaters" "[I" ∈ wsX9_noStreet := by decide +kernel
theorem lkX9_noStreet_43 : Cond.fieldLink RX9 43 "LeftAtFiveModel" "demands" "[I" ∈ wsX9_noStreet := by decide +kernel
theorem lkX9_noStreet_52 : Cond.fieldLink RX9 52 "LeftAtFiveModel" "recipes" "[I" ∈ wsX9_noStreet := by decide +kernel
theorem iwX9_noStreet_X9 : ∀ w ∈ wsX90, w ∈ wsX9_noStreet := by decide +kernel
set_option maxHeartbeats 1000000 in
set_option maxRecDepth 100000 in
theorem c_X9_noStreet (l : Launch) (D : va_G) (q : Nat → ClassId) (ad : Nat → Nat) (σ0 : Int32) (σ1 : Nat → Int32) (σ2 : Nat → Int32) (σ3 : Nat → Int32) (σ4 : Nat → Int32) (σ5 : Nat → Int32) (σ6 : Nat → Int32) (σ7 : Nat → Int32) (σ8 : Nat → Int32) (σ9 : Nat → Int32) (σ10 : Nat → Int32) (σ11 : Nat → Int32) (σ12 : Nat → Int32) (σ13 : Nat → Int32) (σ14 : Nat → Int32) (σ15 : Nat → Int32) (σ16 : Nat → Int32) (σ17 : Nat → Int32) (σ18 : Nat → Int32) (σ19 : Nat → Int32) (σ20 : Int32) (σ21 : Int32) (σ22 : Int32) (σ23 : Nat → Int32) (σ24 : Int32) (σ25 : Int32) (σ26 : Nat → Int32) (σ27 : Nat → Int32) (σ28 : Nat → Int32) (σ29 : Nat → Int32) (σ30 : Nat → Int32) (b : Nat) (hb1 : b ≤ 1) : xC l yX9_noStreet wsX9_noStreet ({ frames := 0, cells := 0, slots := 0, locals := 0 }) D (TY q) [w9 q ad σ0 σ1 σ2 σ3 σ4 σ5 σ6 σ7 σ8 σ9 σ10 σ11 σ12 σ13 σ14 σ15 σ16 σ17 σ18 σ19 σ20 σ21 σ22 σ23 σ24 σ25 σ26 σ27 σ28 σ29 σ30] [.ref (ad 0), .int (nI b)] (xQv D (TY q) (fun (_ : Unit) => True) (fun _ => [w9 q ad σ0 σ1 (upd σ2 b (nI 0)) σ3 σ4 (upd σ5 b (nI 0)) σ6 (xzero σ7 (25 * b) 25) (upd σ8 b (nI 0)) σ9 σ10 σ11 (upd σ12 b (nI 0)) σ13 σ14 (upd σ15 b (nI 0)) σ16 σ17 σ18 σ19 σ20 σ21 σ22 σ23 σ24 σ25 σ26 σ27 σ28 σ29 σ30])) 0 0 := by
  refine x_enter (cc := cX9_noStreet) (maxL := 3) (ret := none) (by decide) rfl (Nat.le_of_ble_eq_true rfl) ?_
  intro p e s m below meth c A ls H locs hfix hr hlocks hinit hM hl
  obtain ⟨hx, hb, hml, hown, hts⟩ := id hfix
  have hl : lv_has ls 3 [(0, .ref (ad 0)), (1, .int (nI b))] := hl
  refine lv_aload_n hx hb dX9_noStreet_0 rfl (lv_at hl 0 rfl) ?_
  refine x_get hx hb hts iwX9_noStreet_X9 hown hM 0 0 rfl rfl rfl 2 (by decide) (hts _ lkX9_noStreet_13) (fun _ h => h) rfl dX9_noStreet_1 ?_
  refine lv_iload_n hx hb dX9_noStreet_4 rfl (lv_at hl 1 rfl) ?_
  refine lv_iconst (v := nI 0) hx hb dX9_noStreet_5 (by decide) ?_
  refine x_iast hx hb hM 0 2 0 (f := σ2) rfl rfl rfl (t := b) (x := nI 0) (by omega) (by decide) [w9 q ad σ0 σ1 (upd σ2 b (nI 0)) σ3 σ4 σ5 σ6 σ7 σ8 σ9 σ10 σ11 σ12 σ13 σ14 σ15 σ16 σ17 σ18 σ19 σ20 σ21 σ22 σ23 σ24 σ25 σ26 σ27 σ28 σ29 σ30] rfl dX9_noStreet_6 (fun H locs hM => ?_)
  refine lv_aload_n hx hb dX9_noStreet_7 rfl (lv_at hl 0 rfl) ?_
  refine x_get hx hb hts iwX9_noStreet_X9 hown hM 0 0 rfl rfl rfl 5 (by decide) (hts _ lkX9_noStreet_22) (fun _ h => h) rfl dX9_noStreet_8 ?_
  refine lv_iload_n hx hb dX9_noStreet_11 rfl (lv_at hl 1 rfl) ?_
  refine lv_iconst (v := nI 0) hx hb dX9_noStreet_12 (by decide) ?_
  refine x_iast hx hb hM 0 5 0 (f := σ5) rfl rfl rfl (t := b) (x := nI 0) (by omega) (by decide) [w9 q ad σ0 σ1 (upd σ2 b (nI 0)) σ3 σ4 (upd σ5 b (nI 0)) σ6 σ7 σ8 σ9 σ10 σ11 σ12 σ13 σ14 σ15 σ16 σ17 σ18 σ19 σ20 σ21 σ22 σ23 σ24 σ25 σ26 σ27 σ28 σ29 σ30] rfl dX9_noStreet_13 (fun H locs hM => ?_)
  refine lv_aload_n hx hb dX9_noStreet_14 rfl (lv_at hl 0 rfl) ?_
  refine x_get hx hb hts iwX9_noStreet_X9 hown hM 0 0 rfl rfl rfl 8 (by decide) (hts _ lkX9_noStreet_31) (fun _ h => h) rfl dX9_noStreet_15 ?_
  refine lv_iload_n hx hb dX9_noStreet_18 rfl (lv_at hl 1 rfl) ?_
  refine lv_iconst (v := nI 0) hx hb dX9_noStreet_19 (by decide) ?_
  refine x_iast hx hb hM 0 8 0 (f := σ8) rfl rfl rfl (t := b) (x := nI 0) (by omega) (by decide) [w9 q ad σ0 σ1 (upd σ2 b (nI 0)) σ3 σ4 (upd σ5 b (nI 0)) σ6 σ7 (upd σ8 b (nI 0)) σ9 σ10 σ11 σ12 σ13 σ14 σ15 σ16 σ17 σ18 σ19 σ20 σ21 σ22 σ23 σ24 σ25 σ26 σ27 σ28 σ29 σ30] rfl dX9_noStreet_20 (fun H locs hM => ?_)
  refine lv_aload_n hx hb dX9_noStreet_21 rfl (lv_at hl 0 rfl) ?_
  refine x_get hx hb hts iwX9_noStreet_X9 hown hM 0 0 rfl rfl rfl 12 (by decide) (hts _ lkX9_noStreet_43) (fun _ h => h) rfl dX9_noStreet_22 ?_
  refine lv_iload_n hx hb dX9_noStreet_25 rfl (lv_at hl 1 rfl) ?_
  refine lv_iconst (v := nI 0) hx hb dX9_noStreet_26 (by decide) ?_
  refine x_iast hx hb hM 0 12 0 (f := σ12) rfl rfl rfl (t := b) (x := nI 0) (by omega) (by decide) [w9 q ad σ0 σ1 (upd σ2 b (nI 0)) σ3 σ4 (upd σ5 b (nI 0)) σ6 σ7 (upd σ8 b (nI 0)) σ9 σ10 σ11 (upd σ12 b (nI 0)) σ13 σ14 σ15 σ16 σ17 σ18 σ19 σ20 σ21 σ22 σ23 σ24 σ25 σ26 σ27 σ28 σ29 σ30] rfl dX9_noStreet_27 (fun H locs hM => ?_)
  refine lv_aload_n hx hb dX9_noStreet_28 rfl (lv_at hl 0 rfl) ?_
  refine x_get hx hb hts iwX9_noStreet_X9 hown hM 0 0 rfl rfl rfl 15 (by decide) (hts _ lkX9_noStreet_52) (fun _ h => h) rfl dX9_noStreet_29 ?_
  refine lv_iload_n hx hb dX9_noStreet_32 rfl (lv_at hl 1 rfl) ?_
  refine lv_iconst (v := nI 0) hx hb dX9_noStreet_33 (by decide) ?_
  refine x_iast hx hb hM 0 15 0 (f := σ15) rfl rfl rfl (t := b) (x := nI 0) (by omega) (by decide) [w9 q ad σ0 σ1 (upd σ2 b (nI 0)) σ3 σ4 (upd σ5 b (nI 0)) σ6 σ7 (upd σ8 b (nI 0)) σ9 σ10 σ11 (upd σ12 b (nI 0)) σ13 σ14 (upd σ15 b (nI 0)) σ16 σ17 σ18 σ19 σ20 σ21 σ22 σ23 σ24 σ25 σ26 σ27 σ28 σ29 σ30] rfl dX9_noStreet_34 (fun H locs hM => ?_)
  refine lv_iconst (v := nI 0) hx hb dX9_noStreet_35 (by decide) ?_
  refine lv_istore_n (lv' := [(2, .int (nI 0)), (0, .ref (ad 0)), (1, .int (nI b))]) hx hb dX9_noStreet_36 rfl hl (by decide) rfl (fun ls hl => ?_)
  have e2 : ((σ7) : Nat → Int32) = (xzero σ7 (25 * b) 0) := by exact (xzero_0 _ _).symm
  have hM : xM D (TY q) [w9 q ad σ0 σ1 (upd σ2 b (nI 0)) σ3 σ4 (upd σ5 b (nI 0)) σ6 (xzero σ7 (25 * b) 0) (upd σ8 b (nI 0)) σ9 σ10 σ11 (upd σ12 b (nI 0)) σ13 σ14 (upd σ15 b (nI 0)) σ16 σ17 σ18 σ19 σ20 σ21 σ22 σ23 σ24 σ25 σ26 σ27 σ28 σ29 σ30] A s.heap s H locs := Eq.mp (congrArg (fun z9 => xM D (TY q) [w9 q ad σ0 σ1 (upd σ2 b (nI 0)) σ3 σ4 (upd σ5 b (nI 0)) σ6 z9 (upd σ8 b (nI 0)) σ9 σ10 σ11 (upd σ12 b (nI 0)) σ13 σ14 (upd σ15 b (nI 0)) σ16 σ17 σ18 σ19 σ20 σ21 σ22 σ23 σ24 σ25 σ26 σ27 σ28 σ29 σ30] A s.heap s H locs) e2) hM
  refine x_loop (ι := Nat) (fun k => [(0, .ref (ad 0)), (1, .int (nI b)), (2, .int (nI k))]) (fun k => [w9 q ad σ0 σ1 (upd σ2 b (nI 0)) σ3 σ4 (upd σ5 b (nI 0)) σ6 (xzero σ7 (25 * b) k) (upd σ8 b (nI 0)) σ9 σ10 σ11 (upd σ12 b (nI 0)) σ13 σ14 (upd σ15 b (nI 0)) σ16 σ17 σ18 σ19 σ20 σ21 σ22 σ23 σ24 σ25 σ26 σ27 σ28 σ29 σ30]) (fun k => k ≤ 25) (fun k => 25 - k) 0 (by omega) hM (lv_sub hl [1, 2, 0] rfl) ?_
  intro k hI4 ih3 H locs hM ls hl
  have hM : xM D (TY q) [w9 q ad σ0 σ1 (upd σ2 b (nI 0)) σ3 σ4 (upd σ5 b (nI 0)) σ6 (xzero σ7 (25 * b) k) (upd σ8 b (nI 0)) σ9 σ10 σ11 (upd σ12 b (nI 0)) σ13 σ14 (upd σ15 b (nI 0)) σ16 σ17 σ18 σ19 σ20 σ21 σ22 σ23 σ24 σ25 σ26 σ27 σ28 σ29 σ30] A s.heap s H locs := hM
  have hl : lv_has ls 3 [(0, .ref (ad 0)), (1, .int (nI b)), (2, .int (nI k))] := hl
  have hI4 : k ≤ 25 := hI4
  try dsimp only
  refine lv_iload_n hx hb dX9_noStreet_37 rfl (lv_at hl 2 rfl) ?_
  refine lv_bipush (v := nI 25) hx hb dX9_noStreet_38 (by decide) ?_
  refine x_icmp_ge (x := k) (y := 25) (tgt := 61) hx hb (by omega) (by omega) dX9_noStreet_40 (by decide) (fun c5 => ?_) (fun c5 => ?_)
  · have e6 : ((xzero σ7 (25 * b) k) : Nat → Int32) = (xzero σ7 (25 * b) 25) := by (rw [show k = 25 by omega])
    have hM : xM D (TY q) [w9 q ad σ0 σ1 (upd σ2 b (nI 0)) σ3 σ4 (upd σ5 b (nI 0)) σ6 (xzero σ7 (25 * b) 25) (upd σ8 b (nI 0)) σ9 σ10 σ11 (upd σ12 b (nI 0)) σ13 σ14 (upd σ15 b (nI 0)) σ16 σ17 σ18 σ19 σ20 σ21 σ22 σ23 σ24 σ25 σ26 σ27 σ28 σ29 σ30] A s.heap s H locs := Eq.mp (congrArg (fun z9 => xM D (TY q) [w9 q ad σ0 σ1 (upd σ2 b (nI 0)) σ3 σ4 (upd σ5 b (nI 0)) σ6 z9 (upd σ8 b (nI 0)) σ9 σ10 σ11 (upd σ12 b (nI 0)) σ13 σ14 (upd σ15 b (nI 0)) σ16 σ17 σ18 σ19 σ20 σ21 σ22 σ23 σ24 σ25 σ26 σ27 σ28 σ29 σ30] A s.heap s H locs) e6) hM
    exact x_vret hx hb hr hlocks () hM trivial dX9_noStreet_61
  · refine lv_aload_n hx hb dX9_noStreet_43 rfl (lv_at hl 0 rfl) ?_
    refine x_get hx hb hts iwX9_noStreet_X9 hown hM 0 0 rfl rfl rfl 7 (by decide) (hts _ lkX9_noStreet_28) (fun _ h => h) rfl dX9_noStreet_44 ?_
    refine lv_bipush (v := nI 25) hx hb dX9_noStreet_47 (by decide) ?_
    refine lv_iload_n hx hb dX9_noStreet_49 rfl (lv_at hl 1 rfl) ?_
    refine x_imul (x := 25) (y := b) hx hb dX9_noStreet_50 ?_
    refine lv_iload_n hx hb dX9_noStreet_51 rfl (lv_at hl 2 rfl) ?_
    refine x_iadd (x := 25 * b) (y := k) hx hb dX9_noStreet_52 ?_
    refine lv_iconst (v := nI 0) hx hb dX9_noStreet_53 (by decide) ?_
    refine x_iast hx hb hM 0 7 0 (f := xzero σ7 (25 * b) k) rfl rfl rfl (t := 25 * b + k) (x := nI 0) (by omega) (by decide) [w9 q ad σ0 σ1 (upd σ2 b (nI 0)) σ3 σ4 (upd σ5 b (nI 0)) σ6 (upd (xzero σ7 (25 * b) k) (25 * b + k) (nI 0)) (upd σ8 b (nI 0)) σ9 σ10 σ11 (upd σ12 b (nI 0)) σ13 σ14 (upd σ15 b (nI 0)) σ16 σ17 σ18 σ19 σ20 σ21 σ22 σ23 σ24 σ25 σ26 σ27 σ28 σ29 σ30] rfl dX9_noStreet_54 (fun H locs hM => ?_)
    refine lv_iinc (v := nI (k + 1)) (lv' := [(2, .int (nI (k + 1))), (0, .ref (ad 0)), (1, .int (nI b))]) hx hb dX9_noStreet_55 hl (k := 2) rfl (x_inc _ 1) (by decide) rfl (fun ls hl => ?_)
    refine lv_goto (tgt := 37) hx hb dX9_noStreet_58 (by decide) ?_
    have e7 : ((upd (xzero σ7 (25 * b) k) (25 * b + k) (nI 0)) : Nat → Int32) = (xzero σ7 (25 * b) (k + 1)) := by exact xzero_s _ _ _
    have hM : xM D (TY q) [w9 q ad σ0 σ1 (upd σ2 b (nI 0)) σ3 σ4 (upd σ5 b (nI 0)) σ6 (xzero σ7 (25 * b) (k + 1)) (upd σ8 b (nI 0)) σ9 σ10 σ11 (upd σ12 b (nI 0)) σ13 σ14 (upd σ15 b (nI 0)) σ16 σ17 σ18 σ19 σ20 σ21 σ22 σ23 σ24 σ25 σ26 σ27 σ28 σ29 σ30] A s.heap s H locs := Eq.mp (congrArg (fun z9 => xM D (TY q) [w9 q ad σ0 σ1 (upd σ2 b (nI 0)) σ3 σ4 (upd σ5 b (nI 0)) σ6 z9 (upd σ8 b (nI 0)) σ9 σ10 σ11 (upd σ12 b (nI 0)) σ13 σ14 (upd σ15 b (nI 0)) σ16 σ17 σ18 σ19 σ20 σ21 σ22 σ23 σ24 σ25 σ26 σ27 σ28 σ29 σ30] A s.heap s H locs) e7) hM
    have hl : lv_has ls 3 [(0, .ref (ad 0)), (1, .int (nI b)), (2, .int (nI (k + 1)))] := lv_sub hl [1, 2, 0] rfl
    exact ih3 (k + 1) (show 25 - (k + 1) < 25 - k from by omega) (show (k + 1) ≤ 25 from by omega) _ _ hM _ hl
