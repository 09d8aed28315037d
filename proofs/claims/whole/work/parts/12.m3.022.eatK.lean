set_option maxRecDepth 20000 in
theorem ggX9_eat_X9_pieces : GoodIn wsX9_eat wsX9_pieces := goodIn_r _ [10, 3, 15, 16, 17, 18, 19, 20, 21, 22, 23, 24, 25, 26, 27, 28, 29, 30, 31, 32, 33, 34, 35, 36, 37, 38, 39, 40, 41, 42, 43, 44, 45] (by decide +kernel) (by decide +kernel)
set_option maxRecDepth 20000 in
theorem gX9_eat_X9_pieces : GoodIn wsX9_eat (wsV RX9 172 RX9 yX9_pieces wsX9_pieces) := goodIn_app (goodIn_of _ (by decide +kernel)) ggX9_eat_X9_pieces
set_option maxRecDepth 20000 in
theorem ggX9_eat_X9_addPieces : GoodIn wsX9_eat wsX9_addPieces := goodIn_r _ [14, 3, 15, 16, 17, 18, 19, 20, 21, 22, 23, 24, 25, 26, 27, 28, 29, 30, 31, 32, 33, 34, 35, 36, 37, 38, 39, 40, 41, 42, 43, 44, 45] (by decide +kernel) (by decide +kernel)
set_option maxRecDepth 20000 in
theorem gX9_eat_X9_addPieces : GoodIn wsX9_eat (wsV RX9 169 RX9 yX9_addPieces wsX9_addPieces) := goodIn_app (goodIn_of _ (by decide +kernel)) ggX9_eat_X9_addPieces
theorem dX9_eat_0 : decode cX9_eat 0 = .ok (.aload_n 0, 1) := by decide +kernel
theorem dX9_eat_1 : decode cX9_eat 1 = .ok (.iload_n 1, 1) := by decide +kernel
theorem dX9_eat_2 : decode cX9_eat 2 = .ok (.aload_n 0, 1) := by decide +kernel
theorem dX9_eat_3 : decode cX9_eat 3 = .ok (.getfield 34, 3) := by decide +kernel
theorem dX9_eat_6 : decode cX9_eat 6 = .ok (.iload_n 2, 1) := by decide +kernel
theorem dX9_eat_7 : decode cX9_eat 7 = .ok (.iaload, 1) := by decide +kernel
theorem dX9_eat_8 : decode cX9_eat 8 = .ok (.aload_n 0, 1) := by decide +kernel
theorem dX9_eat_9 : decode cX9_eat 9 = .ok (.getfield 37, 3) := by decide +kernel
theorem dX9_eat_12 : decode cX9_eat 12 = .ok (.iload_n 2, 1) := by decide +kernel
theorem dX9_eat_13 : decode cX9_eat 13 = .ok (.iaload, 1) := by decide +kernel
theorem dX9_eat_14 : decode cX9_eat 14 = .ok (.invokevirtual 172, 3) := by decide +kernel
theorem dX9_eat_17 : decode cX9_eat 17 = .ok (.ifCond .le 40, 3) := by decide +kernel
theorem dX9_eat_20 : decode cX9_eat 20 = .ok (.aload_n 0, 1) := by decide +kernel
theorem dX9_eat_21 : decode cX9_eat 21 = .ok (.iload_n 1, 1) := by decide +kernel
theorem dX9_eat_22 : decode cX9_eat 22 = .ok (.aload_n 0, 1) := by decide +kernel
theorem dX9_eat_23 : decode cX9_eat 23 = .ok (.getfield 34, 3) := by decide +kernel
theorem dX9_eat_26 : decode cX9_eat 26 = .ok (.iload_n 2, 1) := by decide +kernel
theorem dX9_eat_27 : decode cX9_eat 27 = .ok (.iaload, 1) := by decide +kernel
theorem dX9_eat_28 : decode cX9_eat 28 = .ok (.aload_n 0, 1) := by decide +kernel
theorem dX9_eat_29 : decode cX9_eat 29 = .ok (.getfield 37, 3) := by decide +kernel
theorem dX9_eat_32 : decode cX9_eat 32 = .ok (.iload_n 2, 1) := by decide +kernel
theorem dX9_eat_33 : decode cX9_eat 33 = .ok (.iaload, 1) := by decide +kernel
theorem dX9_eat_34 : decode cX9_eat 34 = .ok (.iconst (-1), 1) := by decide +kernel
theorem dX9_eat_35 : decode cX9_eat 35 = .ok (.invokevirtual 169, 3) := by decide +kernel
theorem dX9_eat_38 : decode cX9_eat 38 = .ok (.aload_n 0, 1) := by decide +kernel
theorem dX9_eat_39 : decode cX9_eat 39 = .ok (.getfield 64, 3) := by decide +kernel
theorem dX9_eat_42 : decode cX9_eat 42 = .ok (.bipush 67, 2) := by decide +kernel
theorem dX9_eat_44 : decode cX9_eat 44 = .ok (.iload_n 1, 1) := by decide +kernel
theorem dX9_eat_45 : decode cX9_eat 45 = .ok (.imul, 1) := by decide +kernel
theorem dX9_eat_46 : decode cX9_eat 46 = .ok (.bipush 51, 2) := by decide +kernel
theorem dX9_eat_48 : decode cX9_eat 48 = .ok (.iadd, 1) := by decide +kernel
theorem dX9_eat_49 : decode cX9_eat 49 = .ok (.iload_n 2, 1) := by decide +kernel
theorem dX9_eat_50 : decode cX9_eat 50 = .ok (.iadd, 1) := by decide +kernel
theorem dX9_eat_51 : decode cX9_eat 51 = .ok (.dup2, 1) := by decide +kernel
theorem dX9_eat_52 : decode cX9_eat 52 = .ok (.iaload, 1) := by decide +kernel
theorem dX9_eat_53 : decode cX9_eat 53 = .ok (.iconst 1, 1) := by decide +kernel
theorem dX9_eat_54 : decode cX9_eat 54 = .ok (.iadd, 1) := by decide +kernel
theorem dX9_eat_55 : decode cX9_eat 55 = .ok (.iastore, 1) := by decide +kernel
theorem dX9_eat_56 : decode cX9_eat 56 = .ok (.return_, 1) := by decide +kernel
theorem dX9_eat_57 : decode cX9_eat 57 = .ok (.aload_n 0, 1) := by decide +kernel
theorem dX9_eat_58 : decode cX9_eat 58 = .ok (.getfield 64, 3) := by decide +kernel
theorem dX9_eat_61 : decode cX9_eat 61 = .ok (.bipush 67, 2) := by decide +kernel
theorem dX9_eat_63 : decode cX9_eat 63 = .ok (.iload_n 1, 1) := by decide +kernel
theorem dX9_eat_64 : decode cX9_eat 64 = .ok (.imul, 1) := by decide +kernel
theorem dX9_eat_65 : decode cX9_eat 65 = .ok (.bipush 59, 2) := by decide +kernel
theorem dX9_eat_67 : decode cX9_eat 67 = .ok (.iadd, 1) := by decide +kernel
theorem dX9_eat_68 : decode cX9_eat 68 = .ok (.iload_n 2, 1) := by decide +kernel
theorem dX9_eat_69 : decode cX9_eat 69 = .ok (.iadd, 1) := by decide +kernel
theorem dX9_eat_70 : decode cX9_eat 70 = .ok (.dup2, 1) := by decide +kernel
theorem dX9_eat_71 : decode cX9_eat 71 = .ok (.iaload, 1) := by decide +kernel
theorem dX9_eat_72 : decode cX9_eat 72 = .ok (.iconst 1, 1) := by decide +kernel
theorem dX9_eat_73 : decode cX9_eat 73 = .ok (.iadd, 1) := by decide +kernel
theorem dX9_eat_74 : decode cX9_eat 74 = .ok (.iastore, 1) := by decide +kernel
theorem dX9_eat_75 : decode cX9_eat 75 = .ok (.aload_n 0, 1) := by decide +kernel
theorem dX9_eat_76 : decode cX9_eat 76 = .ok (.aload_n 0, 1) := by decide +kernel
theorem dX9_eat_77 : decode cX9_eat 77 = .ok (.getfield 184, 3) := by decide +kernel
theorem dX9_eat_80 : decode cX9_eat 80 = .ok (.ifCond .ge 7, 3) := by decide +kernel
theorem dX9_eat_83 : decode cX9_eat 83 = .ok (.iload_n 2, 1) := by decide +kernel
theorem dX9_eat_84 : decode cX9_eat 84 = .ok (.goto 7, 3) := by decide +kernel
theorem dX9_eat_87 : decode cX9_eat 87 = .ok (.aload_n 0, 1) := by decide +kernel
theorem dX9_eat_88 : decode cX9_eat 88 = .ok (.getfield 184, 3) := by decide +kernel
theorem dX9_eat_91 : decode cX9_eat 91 = .ok (.putfield 184, 3) := by decide +kernel
theorem dX9_eat_94 : decode cX9_eat 94 = .ok (.aload_n 0, 1) := by decide +kernel
theorem dX9_eat_95 : decode cX9_eat 95 = .ok (.dup, 1) := by decide +kernel
theorem dX9_eat_96 : decode cX9_eat 96 = .ok (.getfield 187, 3) := by decide +kernel
theorem dX9_eat_99 : decode cX9_eat 99 = .ok (.iconst 1, 1) := by decide +kernel
theorem dX9_eat_100 : decode cX9_eat 100 = .ok (.iadd, 1) := by decide +kernel
theorem dX9_eat_101 : decode cX9_eat 101 = .ok (.putfield 187, 3) := by decide +kernel
theorem dX9_eat_104 : decode cX9_eat 104 = .ok (.return_, 1) := by decide +kernel
theorem lkX9_eat_34 : Cond.fieldLink RX9 34 "LeftAtFiveModel" "eatIn" "[I" ∈ wsX9_eat := by decide +kernel
theorem lkX9_eat_37 : Cond.fieldLink RX9 37 "LeftAtFiveModel" "eatOf" "[I" ∈ wsX9_eat := by decide +kernel
theorem lkX9_eat_64 : Cond.fieldLink RX9 64 "LeftAtFiveModel" "s" "[I" ∈ wsX9_eat := by decide +kernel
theorem lkX9_eat_184 : Cond.fieldLink RX9 184 "LeftAtFiveModel" "whoHungry" "I" ∈ wsX9_eat := by decide +kernel
theorem lkX9_eat_187 : Cond.fieldLink RX9 187 "LeftAtFiveModel" "hungers" "I" ∈ wsX9_eat := by decide +kernel
theorem iwX9_eat_X9 : ∀ w ∈ wsX90, w ∈ wsX9_eat := by decide +kernel
set_option maxHeartbeats 4000000 in
set_option maxRecDepth 100000 in
theorem c_X9_eatK (l : Launch) (D : va_G) (q : Nat → ClassId) (ad : Nat → Nat) (σ0 : Int32) (σ1 : Nat → Int32) (σ2 : Nat → Int32) (σ3 : Nat → Int32) (σ4 : Nat → Int32) (σ5 : Nat → Int32) (σ6 : Nat → Int32) (σ7 : Nat → Int32) (σ8 : Nat → Int32) (σ9 : Nat → Int32) (σ10 : Nat → Int32) (σ11 : Nat → Int32) (σ12 : Nat → Int32) (σ13 : Nat → Int32) (σ14 : Nat → Int32) (σ15 : Nat → Int32) (σ16 : Nat → Int32) (σ17 : Nat → Int32) (σ18 : Nat → Int32) (σ19 : Nat → Int32) (σ20 : Int32) (σ21 : Int32) (σ22 : Int32) (σ23 : Nat → Int32) (σ24 : Int32) (σ25 : Int32) (σ26 : Nat → Int32) (σ27 : Nat → Int32) (σ28 : Nat → Int32) (σ29 : Nat → Int32) (σ30 : Nat → Int32) (sm : Nat → Int32) (b : Nat) (K : Nat → Int32) (i : Nat) (hb0 : b < 13) (hi0 : i < 8) (hei : (σ9 i = nI (tn (σ9 i)) ∧ tn (σ9 i) < 5) ∧ (σ10 i = nI (tn (σ10 i)) ∧ tn (σ10 i) < 5)) : xC l yX9_eat wsX9_eat ({ frames := 1, cells := 0, slots := 0, locals := 24 }) D (TY q) [w9 q ad σ0 σ1 σ2 σ3 σ4 σ5 σ6 σ7 σ8 σ9 σ10 σ11 σ12 σ13 σ14 σ15 σ16 σ17 σ18 (xspl sm b K) σ20 σ21 σ22 σ23 σ24 σ25 σ26 σ27 σ28 σ29 σ30] [.ref (ad 0), .int (nI b), .int (nI i)] (xQv D (TY q) (fun (_ : Unit) => True) (fun _ => [w9 q ad σ0 σ1 σ2 σ3 σ4 σ5 σ6 σ7 σ8 σ9 σ10 σ11 σ12 σ13 σ14 σ15 σ16 σ17 σ18 (xspl sm b (kEat σ9 σ10 i (K, σ24, σ25)).1) σ20 σ21 σ22 σ23 (kEat σ9 σ10 i (K, σ24, σ25)).2.1 (kEat σ9 σ10 i (K, σ24, σ25)).2.2 σ26 σ27 σ28 σ29 σ30])) 0 0 := by
  refine x_enter (cc := cX9_eat) (maxL := 3) (ret := none) (by decide) rfl (Nat.le_of_ble_eq_true rfl) ?_
  intro p e s m below meth c A ls H locs hfix hr hlocks hinit hM hl
  obtain ⟨hx, hb, hml, hown, hts⟩ := id hfix
  have hl : lv_has ls 3 [(0, .ref (ad 0)), (1, .int (nI b)), (2, .int (nI i))] := hl
  have hei1 := hei.1.2
  have hei2 := hei.2.2
  refine lv_aload_n hx hb dX9_eat_0 rfl (lv_at hl 0 rfl) ?_
  refine lv_iload_n hx hb dX9_eat_1 rfl (lv_at hl 1 rfl) ?_
  refine lv_aload_n hx hb dX9_eat_2 rfl (lv_at hl 0 rfl) ?_
  refine x_get hx hb hts iwX9_eat_X9 hown hM 0 0 rfl rfl rfl 9 (by decide) (hts _ lkX9_eat_34) (fun _ h => h) rfl dX9_eat_3 ?_
  refine lv_iload_n hx hb dX9_eat_6 rfl (lv_at hl 2 rfl) ?_
  refine x_iald hx hb hM 0 9 0 (f := σ9) rfl rfl rfl (t := i) (by omega) (by decide) dX9_eat_7 ?_
  refine x_cast (y := nI (tn (σ9 i))) hei.1.1 ?_
  refine lv_aload_n hx hb dX9_eat_8 rfl (lv_at hl 0 rfl) ?_
  refine x_get hx hb hts iwX9_eat_X9 hown hM 0 0 rfl rfl rfl 10 (by decide) (hts _ lkX9_eat_37) (fun _ h => h) rfl dX9_eat_9 ?_
  refine lv_iload_n hx hb dX9_eat_12 rfl (lv_at hl 2 rfl) ?_
  refine x_iald hx hb hM 0 10 0 (f := σ10) rfl rfl rfl (t := i) (by omega) (by decide) dX9_eat_13 ?_
  refine x_cast (y := nI (tn (σ10 i))) hei.2.1 ?_
  refine x_calli (bc := [w9 q ad σ0 σ1 σ2 σ3 σ4 σ5 σ6 σ7 σ8 σ9 σ10 σ11 σ12 σ13 σ14 σ15 σ16 σ17 σ18 (xspl sm b K) σ20 σ21 σ22 σ23 σ24 σ25 σ26 σ27 σ28 σ29 σ30]) (br := []) hM [0] [] rfl rfl rfl (by decide) (x_runV (As := [.int (nI b), .int (nI (tn (σ9 i))), .int (nI (tn (σ10 i)))]) (rest := []) hfix (c_X9_piecesK l D q ad σ0 σ1 σ2 σ3 σ4 σ5 σ6 σ7 σ8 σ9 σ10 σ11 σ12 σ13 σ14 σ15 σ16 σ17 σ18 (xspl sm b K) σ20 σ21 σ22 σ23 σ24 σ25 σ26 σ27 σ28 σ29 σ30 sm b K (tn (σ9 i)) (tn (σ10 i)) (by omega) (by omega) (by omega)) (cwV 3 hts gX9_eat_X9_pieces rfl rfl rfl (by decide +kernel) ⟨Nat.le_of_ble_eq_true rfl, Nat.le_of_ble_eq_true rfl⟩) hM [0] rfl rfl 0 0 rfl rfl rfl rfl rfl hl.1 rfl (Nat.le_of_ble_eq_true rfl) dX9_eat_14 ⟨Nat.le_of_ble_eq_true rfl, Nat.le_of_ble_eq_true rfl⟩) (fun r u H locs hq hM => ?_)
  subst hq
  have hM : xM D (TY q) [w9 q ad σ0 σ1 σ2 σ3 σ4 σ5 σ6 σ7 σ8 σ9 σ10 σ11 σ12 σ13 σ14 σ15 σ16 σ17 σ18 (xspl sm b K) σ20 σ21 σ22 σ23 σ24 σ25 σ26 σ27 σ28 σ29 σ30] A s.heap s H locs := hM
  refine lv_if_le (tgt := 57) hx hb dX9_eat_17 (by decide) (fun c1 => ?_) (fun c1 => ?_)
  · have hneg : ¬ 0 < K (5 * tn (σ9 i) + tn (σ10 i)) := Int32.not_lt.mpr (by assumption)
    refine lv_aload_n hx hb dX9_eat_57 rfl (lv_at hl 0 rfl) ?_
    refine x_get hx hb hts iwX9_eat_X9 hown hM 0 0 rfl rfl rfl 19 (by decide) (hts _ lkX9_eat_64) (fun _ h => h) rfl dX9_eat_58 ?_
    refine lv_bipush (v := nI 67) hx hb dX9_eat_61 (by decide) ?_
    refine lv_iload_n hx hb dX9_eat_63 rfl (lv_at hl 1 rfl) ?_
    refine x_imul (x := 67) (y := b) hx hb dX9_eat_64 ?_
    refine lv_bipush (v := nI 59) hx hb dX9_eat_65 (by decide) ?_
    refine x_iadd (x := 67 * b) (y := 59) hx hb dX9_eat_67 ?_
    refine lv_iload_n hx hb dX9_eat_68 rfl (lv_at hl 2 rfl) ?_
    refine x_iadd (x := 67 * b + 59) (y := i) hx hb dX9_eat_69 ?_
    refine lv_dup2_11 hx hb dX9_eat_70 rfl rfl ?_
    refine x_iald hx hb hM 0 19 0 (f := xspl sm b K) rfl rfl rfl (t := 67 * b + 59 + i) (by omega) (by decide) dX9_eat_71 ?_
    refine x_cast (y := K (59 + i)) (xspl_at (j := 59 + i) (by omega) (by omega)) ?_
    refine lv_iconst (v := nI 1) hx hb dX9_eat_72 (by decide) ?_
    refine lv_iadd hx hb dX9_eat_73 ?_
    refine x_iast hx hb hM 0 19 0 (f := xspl sm b K) rfl rfl rfl (t := 67 * b + 59 + i) (x := (K (59 + i)) + (nI 1)) (by omega) (by decide) [w9 q ad σ0 σ1 σ2 σ3 σ4 σ5 σ6 σ7 σ8 σ9 σ10 σ11 σ12 σ13 σ14 σ15 σ16 σ17 σ18 (xspl sm b (upd K (59 + i) ((K (59 + i)) + (nI 1)))) σ20 σ21 σ22 σ23 σ24 σ25 σ26 σ27 σ28 σ29 σ30] (by rw [xspl_upd (s := sm) (b := b) (K := K) (t := 67 * b + 59 + i) (j := 59 + i) (v := (K (59 + i)) + (nI 1)) (by omega) (by omega)]; rfl) dX9_eat_74 (fun H locs hM => ?_)
    refine lv_aload_n hx hb dX9_eat_75 rfl (lv_at hl 0 rfl) ?_
    refine lv_aload_n hx hb dX9_eat_76 rfl (lv_at hl 0 rfl) ?_
    refine x_get hx hb hts iwX9_eat_X9 hown hM 0 0 rfl rfl rfl 24 (by decide) (hts _ lkX9_eat_184) (fun _ h => h) rfl dX9_eat_77 ?_
    refine lv_if_ge (tgt := 87) hx hb dX9_eat_80 (by decide) (fun c2 => ?_) (fun c2 => ?_)
    · have hw2 : ¬ σ24 < 0 := Int32.not_lt.mpr (by assumption)
      refine lv_aload_n hx hb dX9_eat_87 rfl (lv_at hl 0 rfl) ?_
      refine x_get hx hb hts iwX9_eat_X9 hown hM 0 0 rfl rfl rfl 24 (by decide) (hts _ lkX9_eat_184) (fun _ h => h) rfl dX9_eat_88 ?_
      refine x_put hx hb hts iwX9_eat_X9 tyX9 tyX9_ok nmX9 hown hM 0 0 rfl rfl rfl 24 (by decide) (hts _ lkX9_eat_184) (fun _ h => h) rfl (ty := .int) (by decide +kernel) rfl rfl (Nat.le_of_ble_eq_true rfl) [w9 q ad σ0 σ1 σ2 σ3 σ4 σ5 σ6 σ7 σ8 σ9 σ10 σ11 σ12 σ13 σ14 σ15 σ16 σ17 σ18 (xspl sm b (upd K (59 + i) ((K (59 + i)) + (nI 1)))) σ20 σ21 σ22 σ23 σ24 σ25 σ26 σ27 σ28 σ29 σ30] rfl dX9_eat_91 (fun H locs hM => ?_)
      refine lv_aload_n hx hb dX9_eat_94 rfl (lv_at hl 0 rfl) ?_
      refine lv_dup hx hb dX9_eat_95 rfl ?_
      refine x_get hx hb hts iwX9_eat_X9 hown hM 0 0 rfl rfl rfl 25 (by decide) (hts _ lkX9_eat_187) (fun _ h => h) rfl dX9_eat_96 ?_
      refine lv_iconst (v := nI 1) hx hb dX9_eat_99 (by decide) ?_
      refine lv_iadd hx hb dX9_eat_100 ?_
      refine x_put hx hb hts iwX9_eat_X9 tyX9 tyX9_ok nmX9 hown hM 0 0 rfl rfl rfl 25 (by decide) (hts _ lkX9_eat_187) (fun _ h => h) rfl (ty := .int) (by decide +kernel) rfl rfl (Nat.le_of_ble_eq_true rfl) [w9 q ad σ0 σ1 σ2 σ3 σ4 σ5 σ6 σ7 σ8 σ9 σ10 σ11 σ12 σ13 σ14 σ15 σ16 σ17 σ18 (xspl sm b (upd K (59 + i) ((K (59 + i)) + (nI 1)))) σ20 σ21 σ22 σ23 σ24 (σ25 + (nI 1)) σ26 σ27 σ28 σ29 σ30] rfl dX9_eat_101 (fun H locs hM => ?_)
      have e3 : ((xspl sm b (upd K (59 + i) ((K (59 + i)) + (nI 1)))) : Nat → Int32) = (xspl sm b (kEat σ9 σ10 i (K, σ24, σ25)).1) := by (first | rw [kEat, if_pos hpos] | rw [kEat, if_neg hneg])
      have hM : xM D (TY q) [w9 q ad σ0 σ1 σ2 σ3 σ4 σ5 σ6 σ7 σ8 σ9 σ10 σ11 σ12 σ13 σ14 σ15 σ16 σ17 σ18 (xspl sm b (kEat σ9 σ10 i (K, σ24, σ25)).1) σ20 σ21 σ22 σ23 σ24 (σ25 + (nI 1)) σ26 σ27 σ28 σ29 σ30] A s.heap s H locs := Eq.mp (congrArg (fun z9 => xM D (TY q) [w9 q ad σ0 σ1 σ2 σ3 σ4 σ5 σ6 σ7 σ8 σ9 σ10 σ11 σ12 σ13 σ14 σ15 σ16 σ17 σ18 z9 σ20 σ21 σ22 σ23 σ24 (σ25 + (nI 1)) σ26 σ27 σ28 σ29 σ30] A s.heap s H locs) e3) hM
      have e4 : ((σ24) : Int32) = ((kEat σ9 σ10 i (K, σ24, σ25)).2.1) := by (first | rw [kEat, if_pos hpos] | (rw [kEat, if_neg hneg]; first | rw [if_pos hw1] | rw [if_neg hw2]))
      have hM : xM D (TY q) [w9 q ad σ0 σ1 σ2 σ3 σ4 σ5 σ6 σ7 σ8 σ9 σ10 σ11 σ12 σ13 σ14 σ15 σ16 σ17 σ18 (xspl sm b (kEat σ9 σ10 i (K, σ24, σ25)).1) σ20 σ21 σ22 σ23 (kEat σ9 σ10 i (K, σ24, σ25)).2.1 (σ25 + (nI 1)) σ26 σ27 σ28 σ29 σ30] A s.heap s H locs := Eq.mp (congrArg (fun z9 => xM D (TY q) [w9 q ad σ0 σ1 σ2 σ3 σ4 σ5 σ6 σ7 σ8 σ9 σ10 σ11 σ12 σ13 σ14 σ15 σ16 σ17 σ18 (xspl sm b (kEat σ9 σ10 i (K, σ24, σ25)).1) σ20 σ21 σ22 σ23 z9 (σ25 + (nI 1)) σ26 σ27 σ28 σ29 σ30] A s.heap s H locs) e4) hM
      have e5 : ((σ25 + (nI 1)) : Int32) = ((kEat σ9 σ10 i (K, σ24, σ25)).2.2) := by (first | rw [kEat, if_pos hpos] | rw [kEat, if_neg hneg])
      have hM : xM D (TY q) [w9 q ad σ0 σ1 σ2 σ3 σ4 σ5 σ6 σ7 σ8 σ9 σ10 σ11 σ12 σ13 σ14 σ15 σ16 σ17 σ18 (xspl sm b (kEat σ9 σ10 i (K, σ24, σ25)).1) σ20 σ21 σ22 σ23 (kEat σ9 σ10 i (K, σ24, σ25)).2.1 (kEat σ9 σ10 i (K, σ24, σ25)).2.2 σ26 σ27 σ28 σ29 σ30] A s.heap s H locs := Eq.mp (congrArg (fun z9 => xM D (TY q) [w9 q ad σ0 σ1 σ2 σ3 σ4 σ5 σ6 σ7 σ8 σ9 σ10 σ11 σ12 σ13 σ14 σ15 σ16 σ17 σ18 (xspl sm b (kEat σ9 σ10 i (K, σ24, σ25)).1) σ20 σ21 σ22 σ23 (kEat σ9 σ10 i (K, σ24, σ25)).2.1 z9 σ26 σ27 σ28 σ29 σ30] A s.heap s H locs) e5) hM
      exact x_vret hx hb hr hlocks () hM trivial dX9_eat_104
    · have hw1 : σ24 < 0 := Int32.not_le.mp (by assumption)
      refine lv_iload_n hx hb dX9_eat_83 rfl (lv_at hl 2 rfl) ?_
      refine lv_goto (tgt := 91) hx hb dX9_eat_84 (by decide) ?_
      refine x_put hx hb hts iwX9_eat_X9 tyX9 tyX9_ok nmX9 hown hM 0 0 rfl rfl rfl 24 (by decide) (hts _ lkX9_eat_184) (fun _ h => h) rfl (ty := .int) (by decide +kernel) rfl rfl (Nat.le_of_ble_eq_true rfl) [w9 q ad σ0 σ1 σ2 σ3 σ4 σ5 σ6 σ7 σ8 σ9 σ10 σ11 σ12 σ13 σ14 σ15 σ16 σ17 σ18 (xspl sm b (upd K (59 + i) ((K (59 + i)) + (nI 1)))) σ20 σ21 σ22 σ23 (nI i) σ25 σ26 σ27 σ28 σ29 σ30] rfl dX9_eat_91 (fun H locs hM => ?_)
      refine lv_aload_n hx hb dX9_eat_94 rfl (lv_at hl 0 rfl) ?_
      refine lv_dup hx hb dX9_eat_95 rfl ?_
      refine x_get hx hb hts iwX9_eat_X9 hown hM 0 0 rfl rfl rfl 25 (by decide) (hts _ lkX9_eat_187) (fun _ h => h) rfl dX9_eat_96 ?_
      refine lv_iconst (v := nI 1) hx hb dX9_eat_99 (by decide) ?_
      refine lv_iadd hx hb dX9_eat_100 ?_
      refine x_put hx hb hts iwX9_eat_X9 tyX9 tyX9_ok nmX9 hown hM 0 0 rfl rfl rfl 25 (by decide) (hts _ lkX9_eat_187) (fun _ h => h) rfl (ty := .int) (by decide +kernel) rfl rfl (Nat.le_of_ble_eq_true rfl) [w9 q ad σ0 σ1 σ2 σ3 σ4 σ5 σ6 σ7 σ8 σ9 σ10 σ11 σ12 σ13 σ14 σ15 σ16 σ17 σ18 (xspl sm b (upd K (59 + i) ((K (59 + i)) + (nI 1)))) σ20 σ21 σ22 σ23 (nI i) (σ25 + (nI 1)) σ26 σ27 σ28 σ29 σ30] rfl dX9_eat_101 (fun H locs hM => ?_)
      have e6 : ((xspl sm b (upd K (59 + i) ((K (59 + i)) + (nI 1)))) : Nat → Int32) = (xspl sm b (kEat σ9 σ10 i (K, σ24, σ25)).1) := by (first | rw [kEat, if_pos hpos] | rw [kEat, if_neg hneg])
      have hM : xM D (TY q) [w9 q ad σ0 σ1 σ2 σ3 σ4 σ5 σ6 σ7 σ8 σ9 σ10 σ11 σ12 σ13 σ14 σ15 σ16 σ17 σ18 (xspl sm b (kEat σ9 σ10 i (K, σ24, σ25)).1) σ20 σ21 σ22 σ23 (nI i) (σ25 + (nI 1)) σ26 σ27 σ28 σ29 σ30] A s.heap s H locs := Eq.mp (congrArg (fun z9 => xM D (TY q) [w9 q ad σ0 σ1 σ2 σ3 σ4 σ5 σ6 σ7 σ8 σ9 σ10 σ11 σ12 σ13 σ14 σ15 σ16 σ17 σ18 z9 σ20 σ21 σ22 σ23 (nI i) (σ25 + (nI 1)) σ26 σ27 σ28 σ29 σ30] A s.heap s H locs) e6) hM
      have e7 : ((nI i) : Int32) = ((kEat σ9 σ10 i (K, σ24, σ25)).2.1) := by (first | rw [kEat, if_pos hpos] | (rw [kEat, if_neg hneg]; first | rw [if_pos hw1] | rw [if_neg hw2]))
      have hM : xM D (TY q) [w9 q ad σ0 σ1 σ2 σ3 σ4 σ5 σ6 σ7 σ8 σ9 σ10 σ11 σ12 σ13 σ14 σ15 σ16 σ17 σ18 (xspl sm b (kEat σ9 σ10 i (K, σ24, σ25)).1) σ20 σ21 σ22 σ23 (kEat σ9 σ10 i (K, σ24, σ25)).2.1 (σ25 + (nI 1)) σ26 σ27 σ28 σ29 σ30] A s.heap s H locs := Eq.mp (congrArg (fun z9 => xM D (TY q) [w9 q ad σ0 σ1 σ2 σ3 σ4 σ5 σ6 σ7 σ8 σ9 σ10 σ11 σ12 σ13 σ14 σ15 σ16 σ17 σ18 (xspl sm b (kEat σ9 σ10 i (K, σ24, σ25)).1) σ20 σ21 σ22 σ23 z9 (σ25 + (nI 1)) σ26 σ27 σ28 σ29 σ30] A s.heap s H locs) e7) hM
      have e8 : ((σ25 + (nI 1)) : Int32) = ((kEat σ9 σ10 i (K, σ24, σ25)).2.2) := by (first | rw [kEat, if_pos hpos] | rw [kEat, if_neg hneg])
      have hM : xM D (TY q) [w9 q ad σ0 σ1 σ2 σ3 σ4 σ5 σ6 σ7 σ8 σ9 σ10 σ11 σ12 σ13 σ14 σ15 σ16 σ17 σ18 (xspl sm b (kEat σ9 σ10 i (K, σ24, σ25)).1) σ20 σ21 σ22 σ23 (kEat σ9 σ10 i (K, σ24, σ25)).2.1 (kEat σ9 σ10 i (K, σ24, σ25)).2.2 σ26 σ27 σ28 σ29 σ30] A s.heap s H locs := Eq.mp (congrArg (fun z9 => xM D (TY q) [w9 q ad σ0 σ1 σ2 σ3 σ4 σ5 σ6 σ7 σ8 σ9 σ10 σ11 σ12 σ13 σ14 σ15 σ16 σ17 σ18 (xspl sm b (kEat σ9 σ10 i (K, σ24, σ25)).1) σ20 σ21 σ22 σ23 (kEat σ9 σ10 i (K, σ24, σ25)).2.1 z9 σ26 σ27 σ28 σ29 σ30] A s.heap s H locs) e8) hM
      exact x_vret hx hb hr hlocks () hM trivial dX9_eat_104
  · have hpos : 0 < K (5 * tn (σ9 i) + tn (σ10 i)) := Int32.not_le.mp (by assumption)
    refine lv_aload_n hx hb dX9_eat_20 rfl (lv_at hl 0 rfl) ?_
    refine lv_iload_n hx hb dX9_eat_21 rfl (lv_at hl 1 rfl) ?_
    refine lv_aload_n hx hb dX9_eat_22 rfl (lv_at hl 0 rfl) ?_
    refine x_get hx hb hts iwX9_eat_X9 hown hM 0 0 rfl rfl rfl 9 (by decide) (hts _ lkX9_eat_34) (fun _ h => h) rfl dX9_eat_23 ?_
    refine lv_iload_n hx hb dX9_eat_26 rfl (lv_at hl 2 rfl) ?_
    refine x_iald hx hb hM 0 9 0 (f := σ9) rfl rfl rfl (t := i) (by omega) (by decide) dX9_eat_27 ?_
    refine x_cast (y := nI (tn (σ9 i))) hei.1.1 ?_
    refine lv_aload_n hx hb dX9_eat_28 rfl (lv_at hl 0 rfl) ?_
    refine x_get hx hb hts iwX9_eat_X9 hown hM 0 0 rfl rfl rfl 10 (by decide) (hts _ lkX9_eat_37) (fun _ h => h) rfl dX9_eat_29 ?_
    refine lv_iload_n hx hb dX9_eat_32 rfl (lv_at hl 2 rfl) ?_
    refine x_iald hx hb hM 0 10 0 (f := σ10) rfl rfl rfl (t := i) (by omega) (by decide) dX9_eat_33 ?_
    refine x_cast (y := nI (tn (σ10 i))) hei.2.1 ?_
    refine lv_iconst (v := (-1)) hx hb dX9_eat_34 (by decide) ?_
    refine x_callv (bc := [w9 q ad σ0 σ1 σ2 σ3 σ4 σ5 σ6 σ7 σ8 σ9 σ10 σ11 σ12 σ13 σ14 σ15 σ16 σ17 σ18 (xspl sm b K) σ20 σ21 σ22 σ23 σ24 σ25 σ26 σ27 σ28 σ29 σ30]) (br := []) hM [0] [] rfl rfl rfl (by decide) (x_runV (As := [.int (nI b), .int (nI (tn (σ9 i))), .int (nI (tn (σ10 i))), .int (-1)]) (rest := []) hfix (c_X9_addPiecesK l D q ad σ0 σ1 σ2 σ3 σ4 σ5 σ6 σ7 σ8 σ9 σ10 σ11 σ12 σ13 σ14 σ15 σ16 σ17 σ18 (xspl sm b K) σ20 σ21 σ22 σ23 σ24 σ25 σ26 σ27 σ28 σ29 σ30 sm b K (tn (σ9 i)) (tn (σ10 i)) (-1) (by omega) (by omega) (by omega)) (cwV 4 hts gX9_eat_X9_addPieces rfl rfl rfl (by decide +kernel) ⟨Nat.le_of_ble_eq_true rfl, Nat.le_of_ble_eq_true rfl⟩) hM [0] rfl rfl 0 0 rfl rfl rfl rfl rfl hl.1 rfl (Nat.le_of_ble_eq_true rfl) dX9_eat_35 ⟨Nat.le_of_ble_eq_true rfl, Nat.le_of_ble_eq_true rfl⟩) (fun u H locs hq hM => ?_)
    have hM : xM D (TY q) [w9 q ad σ0 σ1 σ2 σ3 σ4 σ5 σ6 σ7 σ8 σ9 σ10 σ11 σ12 σ13 σ14 σ15 σ16 σ17 σ18 (xspl sm b (kAdd K (tn (σ9 i)) (tn (σ10 i)) (-1))) σ20 σ21 σ22 σ23 σ24 σ25 σ26 σ27 σ28 σ29 σ30] A s.heap s H locs := hM
    refine lv_aload_n hx hb dX9_eat_38 rfl (lv_at hl 0 rfl) ?_
    refine x_get hx hb hts iwX9_eat_X9 hown hM 0 0 rfl rfl rfl 19 (by decide) (hts _ lkX9_eat_64) (fun _ h => h) rfl dX9_eat_39 ?_
    refine lv_bipush (v := nI 67) hx hb dX9_eat_42 (by decide) ?_
    refine lv_iload_n hx hb dX9_eat_44 rfl (lv_at hl 1 rfl) ?_
    refine x_imul (x := 67) (y := b) hx hb dX9_eat_45 ?_
    refine lv_bipush (v := nI 51) hx hb dX9_eat_46 (by decide) ?_
    refine x_iadd (x := 67 * b) (y := 51) hx hb dX9_eat_48 ?_
    refine lv_iload_n hx hb dX9_eat_49 rfl (lv_at hl 2 rfl) ?_
    refine x_iadd (x := 67 * b + 51) (y := i) hx hb dX9_eat_50 ?_
    refine lv_dup2_11 hx hb dX9_eat_51 rfl rfl ?_
    refine x_iald hx hb hM 0 19 0 (f := xspl sm b (kAdd K (tn (σ9 i)) (tn (σ10 i)) (-1))) rfl rfl rfl (t := 67 * b + 51 + i) (by omega) (by decide) dX9_eat_52 ?_
    refine x_cast (y := (kAdd K (tn (σ9 i)) (tn (σ10 i)) (-1)) (51 + i)) (xspl_at (j := 51 + i) (by omega) (by omega)) ?_
    refine lv_iconst (v := nI 1) hx hb dX9_eat_53 (by decide) ?_
    refine lv_iadd hx hb dX9_eat_54 ?_
    refine x_iast hx hb hM 0 19 0 (f := xspl sm b (kAdd K (tn (σ9 i)) (tn (σ10 i)) (-1))) rfl rfl rfl (t := 67 * b + 51 + i) (x := ((kAdd K (tn (σ9 i)) (tn (σ10 i)) (-1)) (51 + i)) + (nI 1)) (by omega) (by decide) [w9 q ad σ0 σ1 σ2 σ3 σ4 σ5 σ6 σ7 σ8 σ9 σ10 σ11 σ12 σ13 σ14 σ15 σ16 σ17 σ18 (xspl sm b (upd (kAdd K (tn (σ9 i)) (tn (σ10 i)) (-1)) (51 + i) (((kAdd K (tn (σ9 i)) (tn (σ10 i)) (-1)) (51 + i)) + (nI 1)))) σ20 σ21 σ22 σ23 σ24 σ25 σ26 σ27 σ28 σ29 σ30] (by rw [xspl_upd (s := sm) (b := b) (K := (kAdd K (tn (σ9 i)) (tn (σ10 i)) (-1))) (t := 67 * b + 51 + i) (j := 51 + i) (v := ((kAdd K (tn (σ9 i)) (tn (σ10 i)) (-1)) (51 + i)) + (nI 1)) (by omega) (by omega)]; rfl) dX9_eat_55 (fun H locs hM => ?_)
    have e9 : ((xspl sm b (upd (kAdd K (tn (σ9 i)) (tn (σ10 i)) (-1)) (51 + i) (((kAdd K (tn (σ9 i)) (tn (σ10 i)) (-1)) (51 + i)) + (nI 1)))) : Nat → Int32) = (xspl sm b (kEat σ9 σ10 i (K, σ24, σ25)).1) := by (first | rw [kEat, if_pos hpos] | rw [kEat, if_neg hneg])
    have hM : xM D (TY q) [w9 q ad σ0 σ1 σ2 σ3 σ4 σ5 σ6 σ7 σ8 σ9 σ10 σ11 σ12 σ13 σ14 σ15 σ16 σ17 σ18 (xspl sm b (kEat σ9 σ10 i (K, σ24, σ25)).1) σ20 σ21 σ22 σ23 σ24 σ25 σ26 σ27 σ28 σ29 σ30] A s.heap s H locs := Eq.mp (congrArg (fun z9 => xM D (TY q) [w9 q ad σ0 σ1 σ2 σ3 σ4 σ5 σ6 σ7 σ8 σ9 σ10 σ11 σ12 σ13 σ14 σ15 σ16 σ17 σ18 z9 σ20 σ21 σ22 σ23 σ24 σ25 σ26 σ27 σ28 σ29 σ30] A s.heap s H locs) e9) hM
    have e10 : ((σ24) : Int32) = ((kEat σ9 σ10 i (K, σ24, σ25)).2.1) := by (first | rw [kEat, if_pos hpos] | (rw [kEat, if_neg hneg]; first | rw [if_pos hw1] | rw [if_neg hw2]))
    have hM : xM D (TY q) [w9 q ad σ0 σ1 σ2 σ3 σ4 σ5 σ6 σ7 σ8 σ9 σ10 σ11 σ12 σ13 σ14 σ15 σ16 σ17 σ18 (xspl sm b (kEat σ9 σ10 i (K, σ24, σ25)).1) σ20 σ21 σ22 σ23 (kEat σ9 σ10 i (K, σ24, σ25)).2.1 σ25 σ26 σ27 σ28 σ29 σ30] A s.heap s H locs := Eq.mp (congrArg (fun z9 => xM D (TY q) [w9 q ad σ0 σ1 σ2 σ3 σ4 σ5 σ6 σ7 σ8 σ9 σ10 σ11 σ12 σ13 σ14 σ15 σ16 σ17 σ18 (xspl sm b (kEat σ9 σ10 i (K, σ24, σ25)).1) σ20 σ21 σ22 σ23 z9 σ25 σ26 σ27 σ28 σ29 σ30] A s.heap s H locs) e10) hM
    have e11 : ((σ25) : Int32) = ((kEat σ9 σ10 i (K, σ24, σ25)).2.2) := by (first | rw [kEat, if_pos hpos] | rw [kEat, if_neg hneg])
    have hM : xM D (TY q) [w9 q ad σ0 σ1 σ2 σ3 σ4 σ5 σ6 σ7 σ8 σ9 σ10 σ11 σ12 σ13 σ14 σ15 σ16 σ17 σ18 (xspl sm b (kEat σ9 σ10 i (K, σ24, σ25)).1) σ20 σ21 σ22 σ23 (kEat σ9 σ10 i (K, σ24, σ25)).2.1 (kEat σ9 σ10 i (K, σ24, σ25)).2.2 σ26 σ27 σ28 σ29 σ30] A s.heap s H locs := Eq.mp (congrArg (fun z9 => xM D (TY q) [w9 q ad σ0 σ1 σ2 σ3 σ4 σ5 σ6 σ7 σ8 σ9 σ10 σ11 σ12 σ13 σ14 σ15 σ16 σ17 σ18 (xspl sm b (kEat σ9 σ10 i (K, σ24, σ25)).1) σ20 σ21 σ22 σ23 (kEat σ9 σ10 i (K, σ24, σ25)).2.1 z9 σ26 σ27 σ28 σ29 σ30] A s.heap s H locs) e11) hM
    exact x_vret hx hb hr hlocks () hM trivial dX9_eat_56
