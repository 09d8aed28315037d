set_option maxRecDepth 20000 in
theorem ggX9_spoil_X9_pieces : GoodIn wsX9_spoil wsX9_pieces := goodIn_r _ [8, 9, 14, 15, 16, 17, 18, 19, 20, 21, 22, 23, 24, 25, 26, 27, 28, 29, 30, 31, 32, 33, 34, 35, 36, 37, 38, 39, 40, 41, 42, 43, 44] (by decide +kernel) (by decide +kernel)
set_option maxRecDepth 20000 in
theorem gX9_spoil_X9_pieces : GoodIn wsX9_spoil (wsV RX9 172 RX9 yX9_pieces wsX9_pieces) := goodIn_app (goodIn_of _ (by decide +kernel)) ggX9_spoil_X9_pieces
set_option maxRecDepth 20000 in
theorem ggX9_spoil_X9_addPieces : GoodIn wsX9_spoil wsX9_addPieces := goodIn_r _ [13, 9, 14, 15, 16, 17, 18, 19, 20, 21, 22, 23, 24, 25, 26, 27, 28, 29, 30, 31, 32, 33, 34, 35, 36, 37, 38, 39, 40, 41, 42, 43, 44] (by decide +kernel) (by decide +kernel)
set_option maxRecDepth 20000 in
theorem gX9_spoil_X9_addPieces : GoodIn wsX9_spoil (wsV RX9 169 RX9 yX9_addPieces wsX9_addPieces) := goodIn_app (goodIn_of _ (by decide +kernel)) ggX9_spoil_X9_addPieces
theorem dX9_spoil_0 : decode cX9_spoil 0 = .ok (.iconst 0, 1) := by decide +kernel
theorem dX9_spoil_1 : decode cX9_spoil 1 = .ok (.istore_n 2, 1) := by decide +kernel
theorem dX9_spoil_2 : decode cX9_spoil 2 = .ok (.iload_n 2, 1) := by decide +kernel
theorem dX9_spoil_3 : decode cX9_spoil 3 = .ok (.aload_n 0, 1) := by decide +kernel
theorem dX9_spoil_4 : decode cX9_spoil 4 = .ok (.getfield 22, 3) := by decide +kernel
theorem dX9_spoil_7 : decode cX9_spoil 7 = .ok (.iconst 0, 1) := by decide +kernel
theorem dX9_spoil_8 : decode cX9_spoil 8 = .ok (.iaload, 1) := by decide +kernel
theorem dX9_spoil_9 : decode cX9_spoil 9 = .ok (.if_icmp .ge 59, 3) := by decide +kernel
theorem dX9_spoil_12 : decode cX9_spoil 12 = .ok (.iconst 0, 1) := by decide +kernel
theorem dX9_spoil_13 : decode cX9_spoil 13 = .ok (.istore_n 3, 1) := by decide +kernel
theorem dX9_spoil_14 : decode cX9_spoil 14 = .ok (.iload_n 3, 1) := by decide +kernel
theorem dX9_spoil_15 : decode cX9_spoil 15 = .ok (.aload_n 0, 1) := by decide +kernel
theorem dX9_spoil_16 : decode cX9_spoil 16 = .ok (.getfield 13, 3) := by decide +kernel
theorem dX9_spoil_19 : decode cX9_spoil 19 = .ok (.iconst 0, 1) := by decide +kernel
theorem dX9_spoil_20 : decode cX9_spoil 20 = .ok (.iaload, 1) := by decide +kernel
theorem dX9_spoil_21 : decode cX9_spoil 21 = .ok (.if_icmp .ge 41, 3) := by decide +kernel
theorem dX9_spoil_24 : decode cX9_spoil 24 = .ok (.aload_n 0, 1) := by decide +kernel
theorem dX9_spoil_25 : decode cX9_spoil 25 = .ok (.iload_n 1, 1) := by decide +kernel
theorem dX9_spoil_26 : decode cX9_spoil 26 = .ok (.iload_n 2, 1) := by decide +kernel
theorem dX9_spoil_27 : decode cX9_spoil 27 = .ok (.iload_n 3, 1) := by decide +kernel
theorem dX9_spoil_28 : decode cX9_spoil 28 = .ok (.aload_n 0, 1) := by decide +kernel
theorem dX9_spoil_29 : decode cX9_spoil 29 = .ok (.getfield 19, 3) := by decide +kernel
theorem dX9_spoil_32 : decode cX9_spoil 32 = .ok (.iload_n 3, 1) := by decide +kernel
theorem dX9_spoil_33 : decode cX9_spoil 33 = .ok (.iaload, 1) := by decide +kernel
theorem dX9_spoil_34 : decode cX9_spoil 34 = .ok (.iconst 3, 1) := by decide +kernel
theorem dX9_spoil_35 : decode cX9_spoil 35 = .ok (.if_icmp .ne 17, 3) := by decide +kernel
theorem dX9_spoil_38 : decode cX9_spoil 38 = .ok (.aload_n 0, 1) := by decide +kernel
theorem dX9_spoil_39 : decode cX9_spoil 39 = .ok (.iload_n 1, 1) := by decide +kernel
theorem dX9_spoil_40 : decode cX9_spoil 40 = .ok (.iload_n 2, 1) := by decide +kernel
theorem dX9_spoil_41 : decode cX9_spoil 41 = .ok (.iload_n 3, 1) := by decide +kernel
theorem dX9_spoil_42 : decode cX9_spoil 42 = .ok (.invokevirtual 172, 3) := by decide +kernel
theorem dX9_spoil_45 : decode cX9_spoil 45 = .ok (.ifCond .le 7, 3) := by decide +kernel
theorem dX9_spoil_48 : decode cX9_spoil 48 = .ok (.iconst (-1), 1) := by decide +kernel
theorem dX9_spoil_49 : decode cX9_spoil 49 = .ok (.goto 4, 3) := by decide +kernel
theorem dX9_spoil_52 : decode cX9_spoil 52 = .ok (.iconst 0, 1) := by decide +kernel
theorem dX9_spoil_53 : decode cX9_spoil 53 = .ok (.invokevirtual 169, 3) := by decide +kernel
theorem dX9_spoil_56 : decode cX9_spoil 56 = .ok (.iinc 3 1, 3) := by decide +kernel
theorem dX9_spoil_59 : decode cX9_spoil 59 = .ok (.goto (-45), 3) := by decide +kernel
theorem dX9_spoil_62 : decode cX9_spoil 62 = .ok (.iinc 2 1, 3) := by decide +kernel
theorem dX9_spoil_65 : decode cX9_spoil 65 = .ok (.goto (-63), 3) := by decide +kernel
theorem dX9_spoil_68 : decode cX9_spoil 68 = .ok (.return_, 1) := by decide +kernel
theorem lkX9_spoil_13 : Cond.fieldLink RX9 13 "LeftAtFiveModel" "goods" "[I" ∈ wsX9_spoil := by decide +kernel
theorem lkX9_spoil_19 : Cond.fieldLink RX9 19 "LeftAtFiveModel" "kinds" "[I" ∈ wsX9_spoil := by decide +kernel
theorem lkX9_spoil_22 : Cond.fieldLink RX9 22 "LeftAtFiveModel" "houses" "[I" ∈ wsX9_spoil := by decide +kernel
theorem iwX9_spoil_X9 : ∀ w ∈ wsX90, w ∈ wsX9_spoil := by decide +kernel
set_option maxHeartbeats 4000000 in
set_option maxRecDepth 100000 in
theorem c_X9_spoilK (l : Launch) (D : va_G) (q : Nat → ClassId) (ad : Nat → Nat) (σ0 : Int32) (σ1 : Nat → Int32) (σ2 : Nat → Int32) (σ3 : Nat → Int32) (σ4 : Nat → Int32) (σ5 : Nat → Int32) (σ6 : Nat → Int32) (σ7 : Nat → Int32) (σ8 : Nat → Int32) (σ9 : Nat → Int32) (σ10 : Nat → Int32) (σ11 : Nat → Int32) (σ12 : Nat → Int32) (σ13 : Nat → Int32) (σ14 : Nat → Int32) (σ15 : Nat → Int32) (σ16 : Nat → Int32) (σ17 : Nat → Int32) (σ18 : Nat → Int32) (σ19 : Nat → Int32) (σ20 : Int32) (σ21 : Int32) (σ22 : Int32) (σ23 : Nat → Int32) (σ24 : Int32) (σ25 : Int32) (σ26 : Nat → Int32) (σ27 : Nat → Int32) (σ28 : Nat → Int32) (σ29 : Nat → Int32) (σ30 : Nat → Int32) (sm : Nat → Int32) (b : Nat) (K : Nat → Int32) (hb0 : b < 13) (hc2 : σ2 0 = nI (tn (σ2 0)) ∧ tn (σ2 0) ≤ 5) (hc5 : σ5 0 = nI (tn (σ5 0)) ∧ tn (σ5 0) ≤ 5) : xC l yX9_spoil wsX9_spoil ({ frames := 1, cells := 0, slots := 0, locals := 24 }) D (TY q) [w9 q ad σ0 σ1 σ2 σ3 σ4 σ5 σ6 σ7 σ8 σ9 σ10 σ11 σ12 σ13 σ14 σ15 σ16 σ17 σ18 (xspl sm b K) σ20 σ21 σ22 σ23 σ24 σ25 σ26 σ27 σ28 σ29 σ30] [.ref (ad 0), .int (nI b)] (xQv D (TY q) (fun (_ : Unit) => True) (fun _ => [w9 q ad σ0 σ1 σ2 σ3 σ4 σ5 σ6 σ7 σ8 σ9 σ10 σ11 σ12 σ13 σ14 σ15 σ16 σ17 σ18 (xspl sm b (kSp σ4 (tn (σ2 0)) K (tn (σ5 0)) 0)) σ20 σ21 σ22 σ23 σ24 σ25 σ26 σ27 σ28 σ29 σ30])) 0 0 := by
  refine x_enter (cc := cX9_spoil) (maxL := 4) (ret := none) (by decide) rfl (Nat.le_of_ble_eq_true rfl) ?_
  intro p e s m below meth c A ls H locs hfix hr hlocks hinit hM hl
  obtain ⟨hx, hb, hml, hown, hts⟩ := id hfix
  have hl : lv_has ls 4 [(0, .ref (ad 0)), (1, .int (nI b))] := hl
  have hc2b := hc2.2
  have hc5b := hc5.2
  refine lv_iconst (v := nI 0) hx hb dX9_spoil_0 (by decide) ?_
  refine lv_istore_n (lv' := [(2, .int (nI 0)), (0, .ref (ad 0)), (1, .int (nI b))]) hx hb dX9_spoil_1 rfl hl (by decide) rfl (fun ls hl => ?_)
  have hM1 : xM D (TY q) [w9 q ad σ0 σ1 σ2 σ3 σ4 σ5 σ6 σ7 σ8 σ9 σ10 σ11 σ12 σ13 σ14 σ15 σ16 σ17 σ18 (xspl sm b (kSp σ4 (tn (σ2 0)) K 0 0)) σ20 σ21 σ22 σ23 σ24 σ25 σ26 σ27 σ28 σ29 σ30] A s.heap s H locs := by rw [kSp_0]; exact hM
  refine x_loop (ι := Nat) (fun h => [(0, .ref (ad 0)), (1, .int (nI b)), (2, .int (nI h))]) (fun h => [w9 q ad σ0 σ1 σ2 σ3 σ4 σ5 σ6 σ7 σ8 σ9 σ10 σ11 σ12 σ13 σ14 σ15 σ16 σ17 σ18 (xspl sm b (kSp σ4 (tn (σ2 0)) K h 0)) σ20 σ21 σ22 σ23 σ24 σ25 σ26 σ27 σ28 σ29 σ30]) (fun h => h ≤ tn (σ5 0)) (fun h => tn (σ5 0) - h) 0 (by omega) hM1 (lv_sub hl [1, 2, 0] rfl) ?_
  intro h hI3 ih2 H locs hM ls hl
  have hM : xM D (TY q) [w9 q ad σ0 σ1 σ2 σ3 σ4 σ5 σ6 σ7 σ8 σ9 σ10 σ11 σ12 σ13 σ14 σ15 σ16 σ17 σ18 (xspl sm b (kSp σ4 (tn (σ2 0)) K h 0)) σ20 σ21 σ22 σ23 σ24 σ25 σ26 σ27 σ28 σ29 σ30] A s.heap s H locs := hM
  have hl : lv_has ls 4 [(0, .ref (ad 0)), (1, .int (nI b)), (2, .int (nI h))] := hl
  have hI3 : h ≤ tn (σ5 0) := hI3
  try dsimp only
  refine lv_iload_n hx hb dX9_spoil_2 rfl (lv_at hl 2 rfl) ?_
  refine lv_aload_n hx hb dX9_spoil_3 rfl (lv_at hl 0 rfl) ?_
  refine x_get hx hb hts iwX9_spoil_X9 hown hM 0 0 rfl rfl rfl 5 (by decide) (hts _ lkX9_spoil_22) (fun _ h => h) rfl dX9_spoil_4 ?_
  refine lv_iconst (v := nI 0) hx hb dX9_spoil_7 (by decide) ?_
  refine x_iald hx hb hM 0 5 0 (f := σ5) rfl rfl rfl (t := 0) (by omega) (by decide) dX9_spoil_8 ?_
  refine x_cast (y := nI (tn (σ5 0))) hc5.1 ?_
  refine x_icmp_ge (x := h) (y := tn (σ5 0)) (tgt := 68) hx hb (by omega) (by omega) dX9_spoil_9 (by decide) (fun c4 => ?_) (fun c4 => ?_)
  · have e5 : ((xspl sm b (kSp σ4 (tn (σ2 0)) K h 0)) : Nat → Int32) = (xspl sm b (kSp σ4 (tn (σ2 0)) K (tn (σ5 0)) 0)) := by (rw [show h = tn (σ5 0) by omega])
    have hM : xM D (TY q) [w9 q ad σ0 σ1 σ2 σ3 σ4 σ5 σ6 σ7 σ8 σ9 σ10 σ11 σ12 σ13 σ14 σ15 σ16 σ17 σ18 (xspl sm b (kSp σ4 (tn (σ2 0)) K (tn (σ5 0)) 0)) σ20 σ21 σ22 σ23 σ24 σ25 σ26 σ27 σ28 σ29 σ30] A s.heap s H locs := Eq.mp (congrArg (fun z9 => xM D (TY q) [w9 q ad σ0 σ1 σ2 σ3 σ4 σ5 σ6 σ7 σ8 σ9 σ10 σ11 σ12 σ13 σ14 σ15 σ16 σ17 σ18 z9 σ20 σ21 σ22 σ23 σ24 σ25 σ26 σ27 σ28 σ29 σ30] A s.heap s H locs) e5) hM
    exact x_vret hx hb hr hlocks () hM trivial dX9_spoil_68
  · refine lv_iconst (v := nI 0) hx hb dX9_spoil_12 (by decide) ?_
    refine lv_istore_n (lv' := [(3, .int (nI 0)), (0, .ref (ad 0)), (1, .int (nI b)), (2, .int (nI h))]) hx hb dX9_spoil_13 rfl hl (by decide) rfl (fun ls hl => ?_)
    refine x_loop (ι := Nat) (fun g => [(0, .ref (ad 0)), (1, .int (nI b)), (2, .int (nI h)), (3, .int (nI g))]) (fun g => [w9 q ad σ0 σ1 σ2 σ3 σ4 σ5 σ6 σ7 σ8 σ9 σ10 σ11 σ12 σ13 σ14 σ15 σ16 σ17 σ18 (xspl sm b (kSp σ4 (tn (σ2 0)) K h g)) σ20 σ21 σ22 σ23 σ24 σ25 σ26 σ27 σ28 σ29 σ30]) (fun g => g ≤ tn (σ2 0)) (fun g => tn (σ2 0) - g) 0 (by omega) hM (lv_sub hl [1, 2, 3, 0] rfl) ?_
    intro g hI7 ih6 H locs hM ls hl
    have hM : xM D (TY q) [w9 q ad σ0 σ1 σ2 σ3 σ4 σ5 σ6 σ7 σ8 σ9 σ10 σ11 σ12 σ13 σ14 σ15 σ16 σ17 σ18 (xspl sm b (kSp σ4 (tn (σ2 0)) K h g)) σ20 σ21 σ22 σ23 σ24 σ25 σ26 σ27 σ28 σ29 σ30] A s.heap s H locs := hM
    have hl : lv_has ls 4 [(0, .ref (ad 0)), (1, .int (nI b)), (2, .int (nI h)), (3, .int (nI g))] := hl
    have hI7 : g ≤ tn (σ2 0) := hI7
    try dsimp only
    refine lv_iload_n hx hb dX9_spoil_14 rfl (lv_at hl 3 rfl) ?_
    refine lv_aload_n hx hb dX9_spoil_15 rfl (lv_at hl 0 rfl) ?_
    refine x_get hx hb hts iwX9_spoil_X9 hown hM 0 0 rfl rfl rfl 2 (by decide) (hts _ lkX9_spoil_13) (fun _ h => h) rfl dX9_spoil_16 ?_
    refine lv_iconst (v := nI 0) hx hb dX9_spoil_19 (by decide) ?_
    refine x_iald hx hb hM 0 2 0 (f := σ2) rfl rfl rfl (t := 0) (by omega) (by decide) dX9_spoil_20 ?_
    refine x_cast (y := nI (tn (σ2 0))) hc2.1 ?_
    refine x_icmp_ge (x := g) (y := tn (σ2 0)) (tgt := 62) hx hb (by omega) (by omega) dX9_spoil_21 (by decide) (fun c8 => ?_) (fun c8 => ?_)
    · refine lv_iinc (v := nI (h + 1)) (lv' := [(2, .int (nI (h + 1))), (0, .ref (ad 0)), (1, .int (nI b)), (3, .int (nI g))]) hx hb dX9_spoil_62 hl (k := 2) rfl (x_inc _ 1) (by decide) rfl (fun ls hl => ?_)
      refine lv_goto (tgt := 2) hx hb dX9_spoil_65 (by decide) ?_
      have e9 : ((xspl sm b (kSp σ4 (tn (σ2 0)) K h g)) : Nat → Int32) = (xspl sm b (kSp σ4 (tn (σ2 0)) K (h + 1) 0)) := by (rw [show g = tn (σ2 0) by omega, kSp_row])
      have hM : xM D (TY q) [w9 q ad σ0 σ1 σ2 σ3 σ4 σ5 σ6 σ7 σ8 σ9 σ10 σ11 σ12 σ13 σ14 σ15 σ16 σ17 σ18 (xspl sm b (kSp σ4 (tn (σ2 0)) K (h + 1) 0)) σ20 σ21 σ22 σ23 σ24 σ25 σ26 σ27 σ28 σ29 σ30] A s.heap s H locs := Eq.mp (congrArg (fun z9 => xM D (TY q) [w9 q ad σ0 σ1 σ2 σ3 σ4 σ5 σ6 σ7 σ8 σ9 σ10 σ11 σ12 σ13 σ14 σ15 σ16 σ17 σ18 z9 σ20 σ21 σ22 σ23 σ24 σ25 σ26 σ27 σ28 σ29 σ30] A s.heap s H locs) e9) hM
      have hl : lv_has ls 4 [(0, .ref (ad 0)), (1, .int (nI b)), (2, .int (nI (h + 1)))] := lv_sub hl [1, 2, 0] rfl
      exact ih2 (h + 1) (show tn (σ5 0) - (h + 1) < tn (σ5 0) - h from by omega) (show (h + 1) ≤ tn (σ5 0) from by omega) _ _ hM _ hl
    · refine lv_aload_n hx hb dX9_spoil_24 rfl (lv_at hl 0 rfl) ?_
      refine lv_iload_n hx hb dX9_spoil_25 rfl (lv_at hl 1 rfl) ?_
      refine lv_iload_n hx hb dX9_spoil_26 rfl (lv_at hl 2 rfl) ?_
      refine lv_iload_n hx hb dX9_spoil_27 rfl (lv_at hl 3 rfl) ?_
      refine lv_aload_n hx hb dX9_spoil_28 rfl (lv_at hl 0 rfl) ?_
      refine x_get hx hb hts iwX9_spoil_X9 hown hM 0 0 rfl rfl rfl 4 (by decide) (hts _ lkX9_spoil_19) (fun _ h => h) rfl dX9_spoil_29 ?_
      refine lv_iload_n hx hb dX9_spoil_32 rfl (lv_at hl 3 rfl) ?_
      refine x_iald hx hb hM 0 4 0 (f := σ4) rfl rfl rfl (t := g) (by omega) (by decide) dX9_spoil_33 ?_
      refine lv_iconst (v := nI 3) hx hb dX9_spoil_34 (by decide) ?_
      refine lv_icmp_ne (tgt := 52) hx hb dX9_spoil_35 (by decide) (fun c10 => ?_) (fun c10 => ?_)
      · have hs := kSp_s0 σ4 (tn (σ2 0)) K h (g := g) (by omega) (by omega) (by first | exact (fun z => absurd z.1 (by assumption)) | exact (fun z => absurd z.2 (Int32.not_lt.mpr (by assumption))))
        refine lv_iconst (v := nI 0) hx hb dX9_spoil_52 (by decide) ?_
        refine x_callv (bc := [w9 q ad σ0 σ1 σ2 σ3 σ4 σ5 σ6 σ7 σ8 σ9 σ10 σ11 σ12 σ13 σ14 σ15 σ16 σ17 σ18 (xspl sm b (kSp σ4 (tn (σ2 0)) K h g)) σ20 σ21 σ22 σ23 σ24 σ25 σ26 σ27 σ28 σ29 σ30]) (br := []) hM [0] [] rfl rfl rfl (by decide) (x_runV (As := [.int (nI b), .int (nI h), .int (nI g), .int (nI 0)]) (rest := []) hfix (c_X9_addPiecesK l D q ad σ0 σ1 σ2 σ3 σ4 σ5 σ6 σ7 σ8 σ9 σ10 σ11 σ12 σ13 σ14 σ15 σ16 σ17 σ18 (xspl sm b (kSp σ4 (tn (σ2 0)) K h g)) σ20 σ21 σ22 σ23 σ24 σ25 σ26 σ27 σ28 σ29 σ30 sm b (kSp σ4 (tn (σ2 0)) K h g) h g (nI 0) (by omega) (by omega) (by omega)) (cwV 4 hts gX9_spoil_X9_addPieces rfl rfl rfl (by decide +kernel) ⟨Nat.le_of_ble_eq_true rfl, Nat.le_of_ble_eq_true rfl⟩) hM [0] rfl rfl 0 0 rfl rfl rfl rfl rfl hl.1 rfl (Nat.le_of_ble_eq_true rfl) dX9_spoil_53 ⟨Nat.le_of_ble_eq_true rfl, Nat.le_of_ble_eq_true rfl⟩) (fun u H locs hq hM => ?_)
        have hM : xM D (TY q) [w9 q ad σ0 σ1 σ2 σ3 σ4 σ5 σ6 σ7 σ8 σ9 σ10 σ11 σ12 σ13 σ14 σ15 σ16 σ17 σ18 (xspl sm b (kAdd (kSp σ4 (tn (σ2 0)) K h g) h g (nI 0))) σ20 σ21 σ22 σ23 σ24 σ25 σ26 σ27 σ28 σ29 σ30] A s.heap s H locs := hM
        refine lv_iinc (v := nI (g + 1)) (lv' := [(3, .int (nI (g + 1))), (0, .ref (ad 0)), (1, .int (nI b)), (2, .int (nI h))]) hx hb dX9_spoil_56 hl (k := 3) rfl (x_inc _ 1) (by decide) rfl (fun ls hl => ?_)
        refine lv_goto (tgt := 14) hx hb dX9_spoil_59 (by decide) ?_
        have e11 : ((xspl sm b (kAdd (kSp σ4 (tn (σ2 0)) K h g) h g (nI 0))) : Nat → Int32) = (xspl sm b (kSp σ4 (tn (σ2 0)) K h (g + 1))) := by (rw [hs])
        have hM : xM D (TY q) [w9 q ad σ0 σ1 σ2 σ3 σ4 σ5 σ6 σ7 σ8 σ9 σ10 σ11 σ12 σ13 σ14 σ15 σ16 σ17 σ18 (xspl sm b (kSp σ4 (tn (σ2 0)) K h (g + 1))) σ20 σ21 σ22 σ23 σ24 σ25 σ26 σ27 σ28 σ29 σ30] A s.heap s H locs := Eq.mp (congrArg (fun z9 => xM D (TY q) [w9 q ad σ0 σ1 σ2 σ3 σ4 σ5 σ6 σ7 σ8 σ9 σ10 σ11 σ12 σ13 σ14 σ15 σ16 σ17 σ18 z9 σ20 σ21 σ22 σ23 σ24 σ25 σ26 σ27 σ28 σ29 σ30] A s.heap s H locs) e11) hM
        have hl : lv_has ls 4 [(0, .ref (ad 0)), (1, .int (nI b)), (2, .int (nI h)), (3, .int (nI (g + 1)))] := lv_sub hl [1, 2, 3, 0] rfl
        exact ih6 (g + 1) (show tn (σ2 0) - (g + 1) < tn (σ2 0) - g from by omega) (show (g + 1) ≤ tn (σ2 0) from by omega) _ _ hM _ hl
      · refine lv_aload_n hx hb dX9_spoil_38 rfl (lv_at hl 0 rfl) ?_
        refine lv_iload_n hx hb dX9_spoil_39 rfl (lv_at hl 1 rfl) ?_
        refine lv_iload_n hx hb dX9_spoil_40 rfl (lv_at hl 2 rfl) ?_
        refine lv_iload_n hx hb dX9_spoil_41 rfl (lv_at hl 3 rfl) ?_
        refine x_calli (bc := [w9 q ad σ0 σ1 σ2 σ3 σ4 σ5 σ6 σ7 σ8 σ9 σ10 σ11 σ12 σ13 σ14 σ15 σ16 σ17 σ18 (xspl sm b (kSp σ4 (tn (σ2 0)) K h g)) σ20 σ21 σ22 σ23 σ24 σ25 σ26 σ27 σ28 σ29 σ30]) (br := []) hM [0] [] rfl rfl rfl (by decide) (x_runV (As := [.int (nI b), .int (nI h), .int (nI g)]) (rest := [.int (nI g), .int (nI h), .int (nI b), .ref (ad 0)]) hfix (c_X9_piecesK l D q ad σ0 σ1 σ2 σ3 σ4 σ5 σ6 σ7 σ8 σ9 σ10 σ11 σ12 σ13 σ14 σ15 σ16 σ17 σ18 (xspl sm b (kSp σ4 (tn (σ2 0)) K h g)) σ20 σ21 σ22 σ23 σ24 σ25 σ26 σ27 σ28 σ29 σ30 sm b (kSp σ4 (tn (σ2 0)) K h g) h g (by omega) (by omega) (by omega)) (cwV 3 hts gX9_spoil_X9_pieces rfl rfl rfl (by decide +kernel) ⟨Nat.le_of_ble_eq_true rfl, Nat.le_of_ble_eq_true rfl⟩) hM [0] rfl rfl 0 0 rfl rfl rfl rfl rfl hl.1 rfl (Nat.le_of_ble_eq_true rfl) dX9_spoil_42 ⟨Nat.le_of_ble_eq_true rfl, Nat.le_of_ble_eq_true rfl⟩) (fun r u H locs hq hM => ?_)
        subst hq
        have hM : xM D (TY q) [w9 q ad σ0 σ1 σ2 σ3 σ4 σ5 σ6 σ7 σ8 σ9 σ10 σ11 σ12 σ13 σ14 σ15 σ16 σ17 σ18 (xspl sm b (kSp σ4 (tn (σ2 0)) K h g)) σ20 σ21 σ22 σ23 σ24 σ25 σ26 σ27 σ28 σ29 σ30] A s.heap s H locs := hM
        refine x_cast (y := K (5 * h + g)) (kSp_at _ _ _ _ (by omega)) ?_
        refine lv_if_le (tgt := 52) hx hb dX9_spoil_45 (by decide) (fun c12 => ?_) (fun c12 => ?_)
        · have hs := kSp_s0 σ4 (tn (σ2 0)) K h (g := g) (by omega) (by omega) (by first | exact (fun z => absurd z.1 (by assumption)) | exact (fun z => absurd z.2 (Int32.not_lt.mpr (by assumption))))
          refine lv_iconst (v := nI 0) hx hb dX9_spoil_52 (by decide) ?_
          refine x_callv (bc := [w9 q ad σ0 σ1 σ2 σ3 σ4 σ5 σ6 σ7 σ8 σ9 σ10 σ11 σ12 σ13 σ14 σ15 σ16 σ17 σ18 (xspl sm b (kSp σ4 (tn (σ2 0)) K h g)) σ20 σ21 σ22 σ23 σ24 σ25 σ26 σ27 σ28 σ29 σ30]) (br := []) hM [0] [] rfl rfl rfl (by decide) (x_runV (As := [.int (nI b), .int (nI h), .int (nI g), .int (nI 0)]) (rest := []) hfix (c_X9_addPiecesK l D q ad σ0 σ1 σ2 σ3 σ4 σ5 σ6 σ7 σ8 σ9 σ10 σ11 σ12 σ13 σ14 σ15 σ16 σ17 σ18 (xspl sm b (kSp σ4 (tn (σ2 0)) K h g)) σ20 σ21 σ22 σ23 σ24 σ25 σ26 σ27 σ28 σ29 σ30 sm b (kSp σ4 (tn (σ2 0)) K h g) h g (nI 0) (by omega) (by omega) (by omega)) (cwV 4 hts gX9_spoil_X9_addPieces rfl rfl rfl (by decide +kernel) ⟨Nat.le_of_ble_eq_true rfl, Nat.le_of_ble_eq_true rfl⟩) hM [0] rfl rfl 0 0 rfl rfl rfl rfl rfl hl.1 rfl (Nat.le_of_ble_eq_true rfl) dX9_spoil_53 ⟨Nat.le_of_ble_eq_true rfl, Nat.le_of_ble_eq_true rfl⟩) (fun u H locs hq hM => ?_)
          have hM : xM D (TY q) [w9 q ad σ0 σ1 σ2 σ3 σ4 σ5 σ6 σ7 σ8 σ9 σ10 σ11 σ12 σ13 σ14 σ15 σ16 σ17 σ18 (xspl sm b (kAdd (kSp σ4 (tn (σ2 0)) K h g) h g (nI 0))) σ20 σ21 σ22 σ23 σ24 σ25 σ26 σ27 σ28 σ29 σ30] A s.heap s H locs := hM
          refine lv_iinc (v := nI (g + 1)) (lv' := [(3, .int (nI (g + 1))), (0, .ref (ad 0)), (1, .int (nI b)), (2, .int (nI h))]) hx hb dX9_spoil_56 hl (k := 3) rfl (x_inc _ 1) (by decide) rfl (fun ls hl => ?_)
          refine lv_goto (tgt := 14) hx hb dX9_spoil_59 (by decide) ?_
          have e13 : ((xspl sm b (kAdd (kSp σ4 (tn (σ2 0)) K h g) h g (nI 0))) : Nat → Int32) = (xspl sm b (kSp σ4 (tn (σ2 0)) K h (g + 1))) := by (rw [hs])
          have hM : xM D (TY q) [w9 q ad σ0 σ1 σ2 σ3 σ4 σ5 σ6 σ7 σ8 σ9 σ10 σ11 σ12 σ13 σ14 σ15 σ16 σ17 σ18 (xspl sm b (kSp σ4 (tn (σ2 0)) K h (g + 1))) σ20 σ21 σ22 σ23 σ24 σ25 σ26 σ27 σ28 σ29 σ30] A s.heap s H locs := Eq.mp (congrArg (fun z9 => xM D (TY q) [w9 q ad σ0 σ1 σ2 σ3 σ4 σ5 σ6 σ7 σ8 σ9 σ10 σ11 σ12 σ13 σ14 σ15 σ16 σ17 σ18 z9 σ20 σ21 σ22 σ23 σ24 σ25 σ26 σ27 σ28 σ29 σ30] A s.heap s H locs) e13) hM
          have hl : lv_has ls 4 [(0, .ref (ad 0)), (1, .int (nI b)), (2, .int (nI h)), (3, .int (nI (g + 1)))] := lv_sub hl [1, 2, 3, 0] rfl
          exact ih6 (g + 1) (show tn (σ2 0) - (g + 1) < tn (σ2 0) - g from by omega) (show (g + 1) ≤ tn (σ2 0) from by omega) _ _ hM _ hl
        · have hs := kSp_s1 σ4 (tn (σ2 0)) K h (g := g) (by omega) (by omega) (by assumption) (Int32.not_le.mp (by assumption))
          refine lv_iconst (v := (-1)) hx hb dX9_spoil_48 (by decide) ?_
          refine lv_goto (tgt := 53) hx hb dX9_spoil_49 (by decide) ?_
          refine x_callv (bc := [w9 q ad σ0 σ1 σ2 σ3 σ4 σ5 σ6 σ7 σ8 σ9 σ10 σ11 σ12 σ13 σ14 σ15 σ16 σ17 σ18 (xspl sm b (kSp σ4 (tn (σ2 0)) K h g)) σ20 σ21 σ22 σ23 σ24 σ25 σ26 σ27 σ28 σ29 σ30]) (br := []) hM [0] [] rfl rfl rfl (by decide) (x_runV (As := [.int (nI b), .int (nI h), .int (nI g), .int (-1)]) (rest := []) hfix (c_X9_addPiecesK l D q ad σ0 σ1 σ2 σ3 σ4 σ5 σ6 σ7 σ8 σ9 σ10 σ11 σ12 σ13 σ14 σ15 σ16 σ17 σ18 (xspl sm b (kSp σ4 (tn (σ2 0)) K h g)) σ20 σ21 σ22 σ23 σ24 σ25 σ26 σ27 σ28 σ29 σ30 sm b (kSp σ4 (tn (σ2 0)) K h g) h g (-1) (by omega) (by omega) (by omega)) (cwV 4 hts gX9_spoil_X9_addPieces rfl rfl rfl (by decide +kernel) ⟨Nat.le_of_ble_eq_true rfl, Nat.le_of_ble_eq_true rfl⟩) hM [0] rfl rfl 0 0 rfl rfl rfl rfl rfl hl.1 rfl (Nat.le_of_ble_eq_true rfl) dX9_spoil_53 ⟨Nat.le_of_ble_eq_true rfl, Nat.le_of_ble_eq_true rfl⟩) (fun u H locs hq hM => ?_)
          have hM : xM D (TY q) [w9 q ad σ0 σ1 σ2 σ3 σ4 σ5 σ6 σ7 σ8 σ9 σ10 σ11 σ12 σ13 σ14 σ15 σ16 σ17 σ18 (xspl sm b (kAdd (kSp σ4 (tn (σ2 0)) K h g) h g (-1))) σ20 σ21 σ22 σ23 σ24 σ25 σ26 σ27 σ28 σ29 σ30] A s.heap s H locs := hM
          refine lv_iinc (v := nI (g + 1)) (lv' := [(3, .int (nI (g + 1))), (0, .ref (ad 0)), (1, .int (nI b)), (2, .int (nI h))]) hx hb dX9_spoil_56 hl (k := 3) rfl (x_inc _ 1) (by decide) rfl (fun ls hl => ?_)
          refine lv_goto (tgt := 14) hx hb dX9_spoil_59 (by decide) ?_
          have e14 : ((xspl sm b (kAdd (kSp σ4 (tn (σ2 0)) K h g) h g (-1))) : Nat → Int32) = (xspl sm b (kSp σ4 (tn (σ2 0)) K h (g + 1))) := by (rw [hs])
          have hM : xM D (TY q) [w9 q ad σ0 σ1 σ2 σ3 σ4 σ5 σ6 σ7 σ8 σ9 σ10 σ11 σ12 σ13 σ14 σ15 σ16 σ17 σ18 (xspl sm b (kSp σ4 (tn (σ2 0)) K h (g + 1))) σ20 σ21 σ22 σ23 σ24 σ25 σ26 σ27 σ28 σ29 σ30] A s.heap s H locs := Eq.mp (congrArg (fun z9 => xM D (TY q) [w9 q ad σ0 σ1 σ2 σ3 σ4 σ5 σ6 σ7 σ8 σ9 σ10 σ11 σ12 σ13 σ14 σ15 σ16 σ17 σ18 z9 σ20 σ21 σ22 σ23 σ24 σ25 σ26 σ27 σ28 σ29 σ30] A s.heap s H locs) e14) hM
          have hl : lv_has ls 4 [(0, .ref (ad 0)), (1, .int (nI b)), (2, .int (nI h)), (3, .int (nI (g + 1)))] := lv_sub hl [1, 2, 3, 0] rfl
          exact ih6 (g + 1) (show tn (σ2 0) - (g + 1) < tn (σ2 0) - g from by omega) (show (g + 1) ≤ tn (σ2 0) from by omega) _ _ hM _ hl
