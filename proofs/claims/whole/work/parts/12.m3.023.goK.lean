set_option maxRecDepth 20000 in
theorem ggX9_go_X9_minuteOf : GoodIn wsX9_go wsX9_minuteOf := goodIn_r _ [8, 1, 52, 53, 54, 55, 56, 57, 58, 59, 60, 61, 62, 63, 64, 65, 66, 67, 68, 69, 70, 71, 72, 73, 74, 75, 76, 77, 78, 79, 80, 81, 82] (by decide +kernel) (by decide +kernel)
set_option maxRecDepth 20000 in
theorem gX9_go_X9_minuteOf : GoodIn wsX9_go (wsV RX9 166 RX9 yX9_minuteOf wsX9_minuteOf) := goodIn_app (goodIn_of _ (by decide +kernel)) ggX9_go_X9_minuteOf
set_option maxRecDepth 20000 in
theorem ggX9_go_X9_comeIn : GoodIn wsX9_go wsX9_comeIn := goodIn_r _ [12, 1, 13, 14, 15, 7, 16, 17, 18, 19, 20, 4, 5, 6, 8, 21, 22, 23, 24, 52, 53, 54, 55, 56, 57, 58, 59, 60, 61, 62, 63, 64, 65, 66, 67, 68, 69, 70, 71, 72, 73, 74, 75, 76, 77, 78, 79, 80, 81, 82] (by decide +kernel) (by decide +kernel)
set_option maxRecDepth 20000 in
theorem gX9_go_X9_comeIn : GoodIn wsX9_go (wsV RX9 190 RX9 yX9_comeIn wsX9_comeIn) := goodIn_app (goodIn_of _ (by decide +kernel)) ggX9_go_X9_comeIn
set_option maxRecDepth 20000 in
theorem ggX9_go_X9_spoil : GoodIn wsX9_go wsX9_spoil := goodIn_r _ [28, 29, 30, 31, 32, 33, 34, 7, 35, 1, 21, 22, 23, 24, 52, 53, 54, 55, 56, 57, 58, 59, 60, 61, 62, 63, 64, 65, 66, 67, 68, 69, 70, 71, 72, 73, 74, 75, 76, 77, 78, 79, 80, 81, 82] (by decide +kernel) (by decide +kernel)
set_option maxRecDepth 20000 in
theorem gX9_go_X9_spoil : GoodIn wsX9_go (wsV RX9 193 RX9 yX9_spoil wsX9_spoil) := goodIn_app (goodIn_of _ (by decide +kernel)) ggX9_go_X9_spoil
set_option maxRecDepth 20000 in
theorem ggX9_go_X9_eatsNow : GoodIn wsX9_go wsX9_eatsNow := goodIn_r _ [39, 40, 41, 42, 43, 44, 52, 53, 54, 55, 56, 57, 58, 59, 60, 61, 62, 63, 64, 65, 66, 67, 68, 69, 70, 71, 72, 73, 74, 75, 76, 77, 78, 79, 80, 81, 82] (by decide +kernel) (by decide +kernel)
set_option maxRecDepth 20000 in
theorem gX9_go_X9_eatsNow : GoodIn wsX9_go (wsV RX9 196 RX9 yX9_eatsNow wsX9_eatsNow) := goodIn_app (goodIn_of _ (by decide +kernel)) ggX9_go_X9_eatsNow
set_option maxRecDepth 20000 in
theorem ggX9_go_X9_eat : GoodIn wsX9_go wsX9_eat := goodIn_r _ [48, 49, 50, 1, 2, 51, 32, 33, 34, 7, 35, 21, 22, 23, 24, 52, 53, 54, 55, 56, 57, 58, 59, 60, 61, 62, 63, 64, 65, 66, 67, 68, 69, 70, 71, 72, 73, 74, 75, 76, 77, 78, 79, 80, 81, 82] (by decide +kernel) (by decide +kernel)
set_option maxRecDepth 20000 in
theorem gX9_go_X9_eat : GoodIn wsX9_go (wsV RX9 200 RX9 yX9_eat wsX9_eat) := goodIn_app (goodIn_of _ (by decide +kernel)) ggX9_go_X9_eat
theorem dX9_go_0 : decode cX9_go 0 = .ok (.aload_n 0, 1) := by decide +kernel
theorem dX9_go_1 : decode cX9_go 1 = .ok (.getfield 64, 3) := by decide +kernel
theorem dX9_go_4 : decode cX9_go 4 = .ok (.bipush 67, 2) := by decide +kernel
theorem dX9_go_6 : decode cX9_go 6 = .ok (.iload_n 1, 1) := by decide +kernel
theorem dX9_go_7 : decode cX9_go 7 = .ok (.imul, 1) := by decide +kernel
theorem dX9_go_8 : decode cX9_go 8 = .ok (.bipush 25, 2) := by decide +kernel
theorem dX9_go_10 : decode cX9_go 10 = .ok (.iadd, 1) := by decide +kernel
theorem dX9_go_11 : decode cX9_go 11 = .ok (.dup2, 1) := by decide +kernel
theorem dX9_go_12 : decode cX9_go 12 = .ok (.iaload, 1) := by decide +kernel
theorem dX9_go_13 : decode cX9_go 13 = .ok (.iconst 1, 1) := by decide +kernel
theorem dX9_go_14 : decode cX9_go 14 = .ok (.iadd, 1) := by decide +kernel
theorem dX9_go_15 : decode cX9_go 15 = .ok (.iastore, 1) := by decide +kernel
theorem dX9_go_16 : decode cX9_go 16 = .ok (.aload_n 0, 1) := by decide +kernel
theorem dX9_go_17 : decode cX9_go 17 = .ok (.iload_n 1, 1) := by decide +kernel
theorem dX9_go_18 : decode cX9_go 18 = .ok (.invokevirtual 166, 3) := by decide +kernel
theorem dX9_go_21 : decode cX9_go 21 = .ok (.istore_n 3, 1) := by decide +kernel
theorem dX9_go_22 : decode cX9_go 22 = .ok (.aload_n 0, 1) := by decide +kernel
theorem dX9_go_23 : decode cX9_go 23 = .ok (.bipush (-4), 2) := by decide +kernel
theorem dX9_go_25 : decode cX9_go 25 = .ok (.putfield 184, 3) := by decide +kernel
theorem dX9_go_28 : decode cX9_go 28 = .ok (.aload_n 0, 1) := by decide +kernel
theorem dX9_go_29 : decode cX9_go 29 = .ok (.iload_n 1, 1) := by decide +kernel
theorem dX9_go_30 : decode cX9_go 30 = .ok (.invokevirtual 190, 3) := by decide +kernel
theorem dX9_go_33 : decode cX9_go 33 = .ok (.iload_n 3, 1) := by decide +kernel
theorem dX9_go_34 : decode cX9_go 34 = .ok (.bipush 10, 2) := by decide +kernel
theorem dX9_go_36 : decode cX9_go 36 = .ok (.irem, 1) := by decide +kernel
theorem dX9_go_37 : decode cX9_go 37 = .ok (.ifCond .ne 8, 3) := by decide +kernel
theorem dX9_go_40 : decode cX9_go 40 = .ok (.aload_n 0, 1) := by decide +kernel
theorem dX9_go_41 : decode cX9_go 41 = .ok (.iload_n 1, 1) := by decide +kernel
theorem dX9_go_42 : decode cX9_go 42 = .ok (.invokevirtual 193, 3) := by decide +kernel
theorem dX9_go_45 : decode cX9_go 45 = .ok (.iconst 0, 1) := by decide +kernel
theorem dX9_go_46 : decode cX9_go 46 = .ok (.istore 4, 2) := by decide +kernel
theorem dX9_go_48 : decode cX9_go 48 = .ok (.iload 4, 2) := by decide +kernel
theorem dX9_go_50 : decode cX9_go 50 = .ok (.aload_n 0, 1) := by decide +kernel
theorem dX9_go_51 : decode cX9_go 51 = .ok (.getfield 31, 3) := by decide +kernel
theorem dX9_go_54 : decode cX9_go 54 = .ok (.iconst 0, 1) := by decide +kernel
theorem dX9_go_55 : decode cX9_go 55 = .ok (.iaload, 1) := by decide +kernel
theorem dX9_go_56 : decode cX9_go 56 = .ok (.if_icmp .ge 27, 3) := by decide +kernel
theorem dX9_go_59 : decode cX9_go 59 = .ok (.aload_n 0, 1) := by decide +kernel
theorem dX9_go_60 : decode cX9_go 60 = .ok (.iload 4, 2) := by decide +kernel
theorem dX9_go_62 : decode cX9_go 62 = .ok (.iload_n 3, 1) := by decide +kernel
theorem dX9_go_63 : decode cX9_go 63 = .ok (.iload_n 2, 1) := by decide +kernel
theorem dX9_go_64 : decode cX9_go 64 = .ok (.invokevirtual 196, 3) := by decide +kernel
theorem dX9_go_67 : decode cX9_go 67 = .ok (.ifCond .eq 10, 3) := by decide +kernel
theorem dX9_go_70 : decode cX9_go 70 = .ok (.aload_n 0, 1) := by decide +kernel
theorem dX9_go_71 : decode cX9_go 71 = .ok (.iload_n 1, 1) := by decide +kernel
theorem dX9_go_72 : decode cX9_go 72 = .ok (.iload 4, 2) := by decide +kernel
theorem dX9_go_74 : decode cX9_go 74 = .ok (.invokevirtual 200, 3) := by decide +kernel
theorem dX9_go_77 : decode cX9_go 77 = .ok (.iinc 4 1, 3) := by decide +kernel
theorem dX9_go_80 : decode cX9_go 80 = .ok (.goto (-32), 3) := by decide +kernel
theorem dX9_go_83 : decode cX9_go 83 = .ok (.return_, 1) := by decide +kernel
theorem lkX9_go_31 : Cond.fieldLink RX9 31 "LeftAtFiveModel" "eaters" "[I" ∈ wsX9_go := by decide +kernel
theorem lkX9_go_64 : Cond.fieldLink RX9 64 "LeftAtFiveModel" "s" "[I" ∈ wsX9_go := by decide +kernel
theorem lkX9_go_184 : Cond.fieldLink RX9 184 "LeftAtFiveModel" "whoHungry" "I" ∈ wsX9_go := by decide +kernel
theorem iwX9_go_X9 : ∀ w ∈ wsX90, w ∈ wsX9_go := by decide +kernel
set_option maxHeartbeats 4000000 in
set_option maxRecDepth 100000 in
theorem c_X9_goK (l : Launch) (D : va_G) (q : Nat → ClassId) (ad : Nat → Nat) (σ0 : Int32) (σ1 : Nat → Int32) (σ2 : Nat → Int32) (σ3 : Nat → Int32) (σ4 : Nat → Int32) (σ5 : Nat → Int32) (σ6 : Nat → Int32) (σ7 : Nat → Int32) (σ8 : Nat → Int32) (σ9 : Nat → Int32) (σ10 : Nat → Int32) (σ11 : Nat → Int32) (σ12 : Nat → Int32) (σ13 : Nat → Int32) (σ14 : Nat → Int32) (σ15 : Nat → Int32) (σ16 : Nat → Int32) (σ17 : Nat → Int32) (σ18 : Nat → Int32) (σ19 : Nat → Int32) (σ20 : Int32) (σ21 : Int32) (σ22 : Int32) (σ23 : Nat → Int32) (σ24 : Int32) (σ25 : Int32) (σ26 : Nat → Int32) (σ27 : Nat → Int32) (σ28 : Nat → Int32) (σ29 : Nat → Int32) (σ30 : Nat → Int32) (sm : Nat → Int32) (b : Nat) (K : Nat → Int32) (z : Int32) (hb0 : b < 13) (hc2 : σ2 0 = nI (tn (σ2 0)) ∧ tn (σ2 0) ≤ 5) (hc5 : σ5 0 = nI (tn (σ5 0)) ∧ tn (σ5 0) ≤ 5) (hc8 : σ8 0 = nI (tn (σ8 0)) ∧ tn (σ8 0) ≤ 8) (hE : okE σ9 σ10 σ11 (tn (σ8 0))) (hK : okK K) (h60 : tn (K 25) < 60) : xC l yX9_go wsX9_go ({ frames := 2, cells := 0, slots := 0, locals := 50 }) D (TY q) [w9 q ad σ0 σ1 σ2 σ3 σ4 σ5 σ6 σ7 σ8 σ9 σ10 σ11 σ12 σ13 σ14 σ15 σ16 σ17 σ18 (xspl sm b K) σ20 σ21 σ22 σ23 σ24 σ25 σ26 σ27 σ28 σ29 σ30] [.ref (ad 0), .int (nI b), .int z] (xQv D (TY q) (fun (_ : Unit) => True) (fun _ => [w9 q ad σ0 σ1 σ2 σ3 σ4 σ5 σ6 σ7 σ8 σ9 σ10 σ11 σ12 σ13 σ14 σ15 σ16 σ17 σ18 (xspl sm b (kGo σ4 (tn (σ2 0)) (tn (σ5 0)) σ9 σ10 σ11 (tn (σ8 0)) z (K, σ24, σ25)).1) σ20 σ21 σ22 σ23 (kGo σ4 (tn (σ2 0)) (tn (σ5 0)) σ9 σ10 σ11 (tn (σ8 0)) z (K, σ24, σ25)).2.1 (kGo σ4 (tn (σ2 0)) (tn (σ5 0)) σ9 σ10 σ11 (tn (σ8 0)) z (K, σ24, σ25)).2.2 σ26 σ27 σ28 σ29 σ30])) 0 0 := by
  refine x_enter (cc := cX9_go) (maxL := 5) (ret := none) (by decide) rfl (Nat.le_of_ble_eq_true rfl) ?_
  intro p e s m below meth c A ls H locs hfix hr hlocks hinit hM hl
  obtain ⟨hx, hb, hml, hown, hts⟩ := id hfix
  have hl : lv_has ls 5 [(0, .ref (ad 0)), (1, .int (nI b)), (2, .int z)] := hl
  have hT : (upd K 25 (K 25 + nI 1)) 25 = nI (tn (K 25) + 1) := (okK_min hK h60).2
  have hc8b := hc8.2
  refine lv_aload_n hx hb dX9_go_0 rfl (lv_at hl 0 rfl) ?_
  refine x_get hx hb hts iwX9_go_X9 hown hM 0 0 rfl rfl rfl 19 (by decide) (hts _ lkX9_go_64) (fun _ h => h) rfl dX9_go_1 ?_
  refine lv_bipush (v := nI 67) hx hb dX9_go_4 (by decide) ?_
  refine lv_iload_n hx hb dX9_go_6 rfl (lv_at hl 1 rfl) ?_
  refine x_imul (x := 67) (y := b) hx hb dX9_go_7 ?_
  refine lv_bipush (v := nI 25) hx hb dX9_go_8 (by decide) ?_
  refine x_iadd (x := 67 * b) (y := 25) hx hb dX9_go_10 ?_
  refine lv_dup2_11 hx hb dX9_go_11 rfl rfl ?_
  refine x_iald hx hb hM 0 19 0 (f := xspl sm b K) rfl rfl rfl (t := 67 * b + 25) (by omega) (by decide) dX9_go_12 ?_
  refine x_cast (y := K 25) (xspl_at (j := 25) (by omega) (by omega)) ?_
  refine lv_iconst (v := nI 1) hx hb dX9_go_13 (by decide) ?_
  refine lv_iadd hx hb dX9_go_14 ?_
  refine x_iast hx hb hM 0 19 0 (f := xspl sm b K) rfl rfl rfl (t := 67 * b + 25) (x := (K 25) + (nI 1)) (by omega) (by decide) [w9 q ad σ0 σ1 σ2 σ3 σ4 σ5 σ6 σ7 σ8 σ9 σ10 σ11 σ12 σ13 σ14 σ15 σ16 σ17 σ18 (xspl sm b (upd K 25 ((K 25) + (nI 1)))) σ20 σ21 σ22 σ23 σ24 σ25 σ26 σ27 σ28 σ29 σ30] (by rw [xspl_upd (s := sm) (b := b) (K := K) (t := 67 * b + 25) (j := 25) (v := (K 25) + (nI 1)) (by omega) (by omega)]; rfl) dX9_go_15 (fun H locs hM => ?_)
  refine lv_aload_n hx hb dX9_go_16 rfl (lv_at hl 0 rfl) ?_
  refine lv_iload_n hx hb dX9_go_17 rfl (lv_at hl 1 rfl) ?_
  refine x_calli (bc := [w9 q ad σ0 σ1 σ2 σ3 σ4 σ5 σ6 σ7 σ8 σ9 σ10 σ11 σ12 σ13 σ14 σ15 σ16 σ17 σ18 (xspl sm b (upd K 25 ((K 25) + (nI 1)))) σ20 σ21 σ22 σ23 σ24 σ25 σ26 σ27 σ28 σ29 σ30]) (br := []) hM [0] [] rfl rfl rfl (by decide) (x_runV (As := [.int (nI b)]) (rest := []) hfix (c_X9_minuteOfK l D q ad σ0 σ1 σ2 σ3 σ4 σ5 σ6 σ7 σ8 σ9 σ10 σ11 σ12 σ13 σ14 σ15 σ16 σ17 σ18 (xspl sm b (upd K 25 ((K 25) + (nI 1)))) σ20 σ21 σ22 σ23 σ24 σ25 σ26 σ27 σ28 σ29 σ30 sm b (upd K 25 ((K 25) + (nI 1))) (by omega)) (cwV 1 hts gX9_go_X9_minuteOf rfl rfl rfl (by decide +kernel) ⟨Nat.le_of_ble_eq_true rfl, Nat.le_of_ble_eq_true rfl⟩) hM [0] rfl rfl 0 0 rfl rfl rfl rfl rfl hl.1 rfl (Nat.le_of_ble_eq_true rfl) dX9_go_18 ⟨Nat.le_of_ble_eq_true rfl, Nat.le_of_ble_eq_true rfl⟩) (fun r u H locs hq hM => ?_)
  subst hq
  have hM : xM D (TY q) [w9 q ad σ0 σ1 σ2 σ3 σ4 σ5 σ6 σ7 σ8 σ9 σ10 σ11 σ12 σ13 σ14 σ15 σ16 σ17 σ18 (xspl sm b (upd K 25 ((K 25) + (nI 1)))) σ20 σ21 σ22 σ23 σ24 σ25 σ26 σ27 σ28 σ29 σ30] A s.heap s H locs := hM
  refine x_cast (y := nI (tn (K 25) + 1)) hT ?_
  refine lv_istore_n (lv' := [(3, .int (nI (tn (K 25) + 1))), (0, .ref (ad 0)), (1, .int (nI b)), (2, .int z)]) hx hb dX9_go_21 rfl hl (by decide) rfl (fun ls hl => ?_)
  refine lv_aload_n hx hb dX9_go_22 rfl (lv_at hl 1 rfl) ?_
  refine lv_bipush (v := (-4)) hx hb dX9_go_23 (by decide) ?_
  refine x_put hx hb hts iwX9_go_X9 tyX9 tyX9_ok nmX9 hown hM 0 0 rfl rfl rfl 24 (by decide) (hts _ lkX9_go_184) (fun _ h => h) rfl (ty := .int) (by decide +kernel) rfl rfl (Nat.le_of_ble_eq_true rfl) [w9 q ad σ0 σ1 σ2 σ3 σ4 σ5 σ6 σ7 σ8 σ9 σ10 σ11 σ12 σ13 σ14 σ15 σ16 σ17 σ18 (xspl sm b (upd K 25 ((K 25) + (nI 1)))) σ20 σ21 σ22 σ23 (-4) σ25 σ26 σ27 σ28 σ29 σ30] rfl dX9_go_25 (fun H locs hM => ?_)
  refine lv_aload_n hx hb dX9_go_28 rfl (lv_at hl 1 rfl) ?_
  refine lv_iload_n hx hb dX9_go_29 rfl (lv_at hl 2 rfl) ?_
  refine x_callv (bc := [w9 q ad σ0 σ1 σ2 σ3 σ4 σ5 σ6 σ7 σ8 σ9 σ10 σ11 σ12 σ13 σ14 σ15 σ16 σ17 σ18 (xspl sm b (upd K 25 ((K 25) + (nI 1)))) σ20 σ21 σ22 σ23 (-4) σ25 σ26 σ27 σ28 σ29 σ30]) (br := []) hM [0] [] rfl rfl rfl (by decide) (x_runV (As := [.int (nI b)]) (rest := []) hfix (c_X9_comeInK l D q ad σ0 σ1 σ2 σ3 σ4 σ5 σ6 σ7 σ8 σ9 σ10 σ11 σ12 σ13 σ14 σ15 σ16 σ17 σ18 (xspl sm b (upd K 25 ((K 25) + (nI 1)))) σ20 σ21 σ22 σ23 (-4) σ25 σ26 σ27 σ28 σ29 σ30 sm b (upd K 25 ((K 25) + (nI 1))) (by omega) (okK_min hK h60).1) (cwV 1 hts gX9_go_X9_comeIn rfl rfl rfl (by decide +kernel) ⟨Nat.le_of_ble_eq_true rfl, Nat.le_of_ble_eq_true rfl⟩) hM [0] rfl rfl 0 0 rfl rfl rfl rfl rfl hl.1 rfl (Nat.le_of_ble_eq_true rfl) dX9_go_30 ⟨Nat.le_of_ble_eq_true rfl, Nat.le_of_ble_eq_true rfl⟩) (fun u H locs hq hM => ?_)
  have hM : xM D (TY q) [w9 q ad σ0 σ1 σ2 σ3 σ4 σ5 σ6 σ7 σ8 σ9 σ10 σ11 σ12 σ13 σ14 σ15 σ16 σ17 σ18 (xspl sm b (kCome (upd K 25 ((K 25) + (nI 1))))) σ20 σ21 σ22 σ23 (-4) σ25 σ26 σ27 σ28 σ29 σ30] A s.heap s H locs := hM
  refine lv_iload_n hx hb dX9_go_33 rfl (lv_at hl 0 rfl) ?_
  refine lv_bipush (v := nI 10) hx hb dX9_go_34 (by decide) ?_
  refine x_irem (x := tn (K 25) + 1) (y := 10) hx hb (by omega) (by omega) (by omega) dX9_go_36 ?_
  refine x_join (ι := (Nat → Int32)) (pcJ := 45) (fun j1 => [(3, .int (nI (tn (K 25) + 1))), (0, .ref (ad 0)), (1, .int (nI b)), (2, .int z)]) (fun j1 => [w9 q ad σ0 σ1 σ2 σ3 σ4 σ5 σ6 σ7 σ8 σ9 σ10 σ11 σ12 σ13 σ14 σ15 σ16 σ17 σ18 (xspl sm b j1) σ20 σ21 σ22 σ23 (-4) σ25 σ26 σ27 σ28 σ29 σ30]) (fun j1 => []) (fun j1 => j1 = (if ¬ ((tn (K 25) + 1) % 10) = 0 then (kCome (upd K 25 ((K 25) + (nI 1)))) else (kSp σ4 (tn (σ2 0)) (kCome (upd K 25 ((K 25) + (nI 1)))) (tn (σ5 0)) 0))) hM hl ?_ ?_
  · intro j1 hj2 H locs hM ls hl
    have hM : xM D (TY q) [w9 q ad σ0 σ1 σ2 σ3 σ4 σ5 σ6 σ7 σ8 σ9 σ10 σ11 σ12 σ13 σ14 σ15 σ16 σ17 σ18 (xspl sm b j1) σ20 σ21 σ22 σ23 (-4) σ25 σ26 σ27 σ28 σ29 σ30] A s.heap s H locs := hM
    have hl : lv_has ls 5 [(3, .int (nI (tn (K 25) + 1))), (0, .ref (ad 0)), (1, .int (nI b)), (2, .int z)] := hl
    try dsimp only
    have hj1 : j1 = (if ¬ ((tn (K 25) + 1) % 10) = 0 then (kCome (upd K 25 ((K 25) + (nI 1)))) else (kSp σ4 (tn (σ2 0)) (kCome (upd K 25 ((K 25) + (nI 1)))) (tn (σ5 0)) 0)) := hj2
    refine lv_iconst (v := nI 0) hx hb dX9_go_45 (by decide) ?_
    refine lv_istore (lv' := [(4, .int (nI 0)), (3, .int (nI (tn (K 25) + 1))), (0, .ref (ad 0)), (1, .int (nI b)), (2, .int z)]) hx hb dX9_go_46 hl (by decide) rfl (fun ls hl => ?_)
    have hM3 : xM D (TY q) [w9 q ad σ0 σ1 σ2 σ3 σ4 σ5 σ6 σ7 σ8 σ9 σ10 σ11 σ12 σ13 σ14 σ15 σ16 σ17 σ18 (xspl sm b (kEF σ9 σ10 σ11 (tn (K 25) + 1) z (j1, -4, σ25) 0).1) σ20 σ21 σ22 σ23 (kEF σ9 σ10 σ11 (tn (K 25) + 1) z (j1, -4, σ25) 0).2.1 (kEF σ9 σ10 σ11 (tn (K 25) + 1) z (j1, -4, σ25) 0).2.2 σ26 σ27 σ28 σ29 σ30] A s.heap s H locs := by exact hM
    refine x_loop (ι := Nat) (fun k => [(0, .ref (ad 0)), (1, .int (nI b)), (2, .int z), (3, .int (nI (tn (K 25) + 1))), (4, .int (nI k))]) (fun k => [w9 q ad σ0 σ1 σ2 σ3 σ4 σ5 σ6 σ7 σ8 σ9 σ10 σ11 σ12 σ13 σ14 σ15 σ16 σ17 σ18 (xspl sm b (kEF σ9 σ10 σ11 (tn (K 25) + 1) z (j1, -4, σ25) k).1) σ20 σ21 σ22 σ23 (kEF σ9 σ10 σ11 (tn (K 25) + 1) z (j1, -4, σ25) k).2.1 (kEF σ9 σ10 σ11 (tn (K 25) + 1) z (j1, -4, σ25) k).2.2 σ26 σ27 σ28 σ29 σ30]) (fun k => k ≤ tn (σ8 0)) (fun k => tn (σ8 0) - k) 0 (by omega) hM3 (lv_sub hl [2, 3, 4, 1, 0] rfl) ?_
    intro k hI5 ih4 H locs hM ls hl
    have hM : xM D (TY q) [w9 q ad σ0 σ1 σ2 σ3 σ4 σ5 σ6 σ7 σ8 σ9 σ10 σ11 σ12 σ13 σ14 σ15 σ16 σ17 σ18 (xspl sm b (kEF σ9 σ10 σ11 (tn (K 25) + 1) z (j1, -4, σ25) k).1) σ20 σ21 σ22 σ23 (kEF σ9 σ10 σ11 (tn (K 25) + 1) z (j1, -4, σ25) k).2.1 (kEF σ9 σ10 σ11 (tn (K 25) + 1) z (j1, -4, σ25) k).2.2 σ26 σ27 σ28 σ29 σ30] A s.heap s H locs := hM
    have hl : lv_has ls 5 [(0, .ref (ad 0)), (1, .int (nI b)), (2, .int z), (3, .int (nI (tn (K 25) + 1))), (4, .int (nI k))] := hl
    have hI5 : k ≤ tn (σ8 0) := hI5
    try dsimp only
    refine lv_iload hx hb dX9_go_48 (lv_at hl 4 rfl) ?_
    refine lv_aload_n hx hb dX9_go_50 rfl (lv_at hl 0 rfl) ?_
    refine x_get hx hb hts iwX9_go_X9 hown hM 0 0 rfl rfl rfl 8 (by decide) (hts _ lkX9_go_31) (fun _ h => h) rfl dX9_go_51 ?_
    refine lv_iconst (v := nI 0) hx hb dX9_go_54 (by decide) ?_
    refine x_iald hx hb hM 0 8 0 (f := σ8) rfl rfl rfl (t := 0) (by omega) (by decide) dX9_go_55 ?_
    refine x_cast (y := nI (tn (σ8 0))) hc8.1 ?_
    refine x_icmp_ge (x := k) (y := tn (σ8 0)) (tgt := 83) hx hb (by omega) (by omega) dX9_go_56 (by decide) (fun c6 => ?_) (fun c6 => ?_)
    · have e7 : ((xspl sm b (kEF σ9 σ10 σ11 (tn (K 25) + 1) z (j1, -4, σ25) k).1) : Nat → Int32) = (xspl sm b (kGo σ4 (tn (σ2 0)) (tn (σ5 0)) σ9 σ10 σ11 (tn (σ8 0)) z (K, σ24, σ25)).1) := by (unfold kGo; rw [show k = tn (σ8 0) by omega, hj1]; by_cases h10 : (tn (K 25) + 1) % 10 = 0 <;> simp only [h10, if_true, if_false, not_true, not_false_iff, ite_true, ite_false] <;> rfl)
      have hM : xM D (TY q) [w9 q ad σ0 σ1 σ2 σ3 σ4 σ5 σ6 σ7 σ8 σ9 σ10 σ11 σ12 σ13 σ14 σ15 σ16 σ17 σ18 (xspl sm b (kGo σ4 (tn (σ2 0)) (tn (σ5 0)) σ9 σ10 σ11 (tn (σ8 0)) z (K, σ24, σ25)).1) σ20 σ21 σ22 σ23 (kEF σ9 σ10 σ11 (tn (K 25) + 1) z (j1, -4, σ25) k).2.1 (kEF σ9 σ10 σ11 (tn (K 25) + 1) z (j1, -4, σ25) k).2.2 σ26 σ27 σ28 σ29 σ30] A s.heap s H locs := Eq.mp (congrArg (fun z9 => xM D (TY q) [w9 q ad σ0 σ1 σ2 σ3 σ4 σ5 σ6 σ7 σ8 σ9 σ10 σ11 σ12 σ13 σ14 σ15 σ16 σ17 σ18 z9 σ20 σ21 σ22 σ23 (kEF σ9 σ10 σ11 (tn (K 25) + 1) z (j1, -4, σ25) k).2.1 (kEF σ9 σ10 σ11 (tn (K 25) + 1) z (j1, -4, σ25) k).2.2 σ26 σ27 σ28 σ29 σ30] A s.heap s H locs) e7) hM
      have e8 : (((kEF σ9 σ10 σ11 (tn (K 25) + 1) z (j1, -4, σ25) k).2.1) : Int32) = ((kGo σ4 (tn (σ2 0)) (tn (σ5 0)) σ9 σ10 σ11 (tn (σ8 0)) z (K, σ24, σ25)).2.1) := by (unfold kGo; rw [show k = tn (σ8 0) by omega, hj1]; by_cases h10 : (tn (K 25) + 1) % 10 = 0 <;> simp only [h10, if_true, if_false, not_true, not_false_iff, ite_true, ite_false] <;> rfl)
      have hM : xM D (TY q) [w9 q ad σ0 σ1 σ2 σ3 σ4 σ5 σ6 σ7 σ8 σ9 σ10 σ11 σ12 σ13 σ14 σ15 σ16 σ17 σ18 (xspl sm b (kGo σ4 (tn (σ2 0)) (tn (σ5 0)) σ9 σ10 σ11 (tn (σ8 0)) z (K, σ24, σ25)).1) σ20 σ21 σ22 σ23 (kGo σ4 (tn (σ2 0)) (tn (σ5 0)) σ9 σ10 σ11 (tn (σ8 0)) z (K, σ24, σ25)).2.1 (kEF σ9 σ10 σ11 (tn (K 25) + 1) z (j1, -4, σ25) k).2.2 σ26 σ27 σ28 σ29 σ30] A s.heap s H locs := Eq.mp (congrArg (fun z9 => xM D (TY q) [w9 q ad σ0 σ1 σ2 σ3 σ4 σ5 σ6 σ7 σ8 σ9 σ10 σ11 σ12 σ13 σ14 σ15 σ16 σ17 σ18 (xspl sm b (kGo σ4 (tn (σ2 0)) (tn (σ5 0)) σ9 σ10 σ11 (tn (σ8 0)) z (K, σ24, σ25)).1) σ20 σ21 σ22 σ23 z9 (kEF σ9 σ10 σ11 (tn (K 25) + 1) z (j1, -4, σ25) k).2.2 σ26 σ27 σ28 σ29 σ30] A s.heap s H locs) e8) hM
      have e9 : (((kEF σ9 σ10 σ11 (tn (K 25) + 1) z (j1, -4, σ25) k).2.2) : Int32) = ((kGo σ4 (tn (σ2 0)) (tn (σ5 0)) σ9 σ10 σ11 (tn (σ8 0)) z (K, σ24, σ25)).2.2) := by (unfold kGo; rw [show k = tn (σ8 0) by omega, hj1]; by_cases h10 : (tn (K 25) + 1) % 10 = 0 <;> simp only [h10, if_true, if_false, not_true, not_false_iff, ite_true, ite_false] <;> rfl)
      have hM : xM D (TY q) [w9 q ad σ0 σ1 σ2 σ3 σ4 σ5 σ6 σ7 σ8 σ9 σ10 σ11 σ12 σ13 σ14 σ15 σ16 σ17 σ18 (xspl sm b (kGo σ4 (tn (σ2 0)) (tn (σ5 0)) σ9 σ10 σ11 (tn (σ8 0)) z (K, σ24, σ25)).1) σ20 σ21 σ22 σ23 (kGo σ4 (tn (σ2 0)) (tn (σ5 0)) σ9 σ10 σ11 (tn (σ8 0)) z (K, σ24, σ25)).2.1 (kGo σ4 (tn (σ2 0)) (tn (σ5 0)) σ9 σ10 σ11 (tn (σ8 0)) z (K, σ24, σ25)).2.2 σ26 σ27 σ28 σ29 σ30] A s.heap s H locs := Eq.mp (congrArg (fun z9 => xM D (TY q) [w9 q ad σ0 σ1 σ2 σ3 σ4 σ5 σ6 σ7 σ8 σ9 σ10 σ11 σ12 σ13 σ14 σ15 σ16 σ17 σ18 (xspl sm b (kGo σ4 (tn (σ2 0)) (tn (σ5 0)) σ9 σ10 σ11 (tn (σ8 0)) z (K, σ24, σ25)).1) σ20 σ21 σ22 σ23 (kGo σ4 (tn (σ2 0)) (tn (σ5 0)) σ9 σ10 σ11 (tn (σ8 0)) z (K, σ24, σ25)).2.1 z9 σ26 σ27 σ28 σ29 σ30] A s.heap s H locs) e9) hM
      exact x_vret hx hb hr hlocks () hM trivial dX9_go_83
    · refine lv_aload_n hx hb dX9_go_59 rfl (lv_at hl 0 rfl) ?_
      refine lv_iload hx hb dX9_go_60 (lv_at hl 4 rfl) ?_
      refine lv_iload_n hx hb dX9_go_62 rfl (lv_at hl 3 rfl) ?_
      refine lv_iload_n hx hb dX9_go_63 rfl (lv_at hl 2 rfl) ?_
      refine x_calli (bc := [w9 q ad σ0 σ1 σ2 σ3 σ4 σ5 σ6 σ7 σ8 σ9 σ10 σ11 σ12 σ13 σ14 σ15 σ16 σ17 σ18 (xspl sm b (kEF σ9 σ10 σ11 (tn (K 25) + 1) z (j1, -4, σ25) k).1) σ20 σ21 σ22 σ23 (kEF σ9 σ10 σ11 (tn (K 25) + 1) z (j1, -4, σ25) k).2.1 (kEF σ9 σ10 σ11 (tn (K 25) + 1) z (j1, -4, σ25) k).2.2 σ26 σ27 σ28 σ29 σ30]) (br := []) hM [0] [] rfl rfl rfl (by decide) (x_runV (As := [.int (nI k), .int (nI (tn (K 25) + 1)), .int z]) (rest := []) hfix (c_X9_eatsNow l D q ad σ0 σ1 σ2 σ3 σ4 σ5 σ6 σ7 σ8 σ9 σ10 σ11 σ12 σ13 σ14 σ15 σ16 σ17 σ18 (xspl sm b (kEF σ9 σ10 σ11 (tn (K 25) + 1) z (j1, -4, σ25) k).1) σ20 σ21 σ22 σ23 (kEF σ9 σ10 σ11 (tn (K 25) + 1) z (j1, -4, σ25) k).2.1 (kEF σ9 σ10 σ11 (tn (K 25) + 1) z (j1, -4, σ25) k).2.2 σ26 σ27 σ28 σ29 σ30 k (tn (K 25) + 1) z (by omega) (by omega) (hE k (by omega)).2.2) (cwV 3 hts gX9_go_X9_eatsNow rfl rfl rfl (by decide +kernel) ⟨Nat.le_of_ble_eq_true rfl, Nat.le_of_ble_eq_true rfl⟩) hM [0] rfl rfl 0 0 rfl rfl rfl rfl rfl hl.1 rfl (Nat.le_of_ble_eq_true rfl) dX9_go_64 ⟨Nat.le_of_ble_eq_true rfl, Nat.le_of_ble_eq_true rfl⟩) (fun r u H locs hq hM => ?_)
      subst hq
      have hM : xM D (TY q) [w9 q ad σ0 σ1 σ2 σ3 σ4 σ5 σ6 σ7 σ8 σ9 σ10 σ11 σ12 σ13 σ14 σ15 σ16 σ17 σ18 (xspl sm b (kEF σ9 σ10 σ11 (tn (K 25) + 1) z (j1, -4, σ25) k).1) σ20 σ21 σ22 σ23 (kEF σ9 σ10 σ11 (tn (K 25) + 1) z (j1, -4, σ25) k).2.1 (kEF σ9 σ10 σ11 (tn (K 25) + 1) z (j1, -4, σ25) k).2.2 σ26 σ27 σ28 σ29 σ30] A s.heap s H locs := hM
      refine x_ifz_eq (P := xeats (σ11 k) k (tn (K 25) + 1) z) (tgt := 77) hx hb dX9_go_67 (by decide) (fun c10 => ?_) (fun c10 => ?_)
      · refine lv_iinc (v := nI (k + 1)) (lv' := [(4, .int (nI (k + 1))), (0, .ref (ad 0)), (1, .int (nI b)), (2, .int z), (3, .int (nI (tn (K 25) + 1)))]) hx hb dX9_go_77 hl (k := 4) rfl (x_inc _ 1) (by decide) rfl (fun ls hl => ?_)
        refine lv_goto (tgt := 48) hx hb dX9_go_80 (by decide) ?_
        have e11 : ((xspl sm b (kEF σ9 σ10 σ11 (tn (K 25) + 1) z (j1, -4, σ25) k).1) : Nat → Int32) = (xspl sm b (kEF σ9 σ10 σ11 (tn (K 25) + 1) z (j1, -4, σ25) (k + 1)).1) := by (rw [kEF]; split <;> first | rfl | contradiction)
        have hM : xM D (TY q) [w9 q ad σ0 σ1 σ2 σ3 σ4 σ5 σ6 σ7 σ8 σ9 σ10 σ11 σ12 σ13 σ14 σ15 σ16 σ17 σ18 (xspl sm b (kEF σ9 σ10 σ11 (tn (K 25) + 1) z (j1, -4, σ25) (k + 1)).1) σ20 σ21 σ22 σ23 (kEF σ9 σ10 σ11 (tn (K 25) + 1) z (j1, -4, σ25) k).2.1 (kEF σ9 σ10 σ11 (tn (K 25) + 1) z (j1, -4, σ25) k).2.2 σ26 σ27 σ28 σ29 σ30] A s.heap s H locs := Eq.mp (congrArg (fun z9 => xM D (TY q) [w9 q ad σ0 σ1 σ2 σ3 σ4 σ5 σ6 σ7 σ8 σ9 σ10 σ11 σ12 σ13 σ14 σ15 σ16 σ17 σ18 z9 σ20 σ21 σ22 σ23 (kEF σ9 σ10 σ11 (tn (K 25) + 1) z (j1, -4, σ25) k).2.1 (kEF σ9 σ10 σ11 (tn (K 25) + 1) z (j1, -4, σ25) k).2.2 σ26 σ27 σ28 σ29 σ30] A s.heap s H locs) e11) hM
        have e12 : (((kEF σ9 σ10 σ11 (tn (K 25) + 1) z (j1, -4, σ25) k).2.1) : Int32) = ((kEF σ9 σ10 σ11 (tn (K 25) + 1) z (j1, -4, σ25) (k + 1)).2.1) := by (rw [kEF]; split <;> first | rfl | contradiction)
        have hM : xM D (TY q) [w9 q ad σ0 σ1 σ2 σ3 σ4 σ5 σ6 σ7 σ8 σ9 σ10 σ11 σ12 σ13 σ14 σ15 σ16 σ17 σ18 (xspl sm b (kEF σ9 σ10 σ11 (tn (K 25) + 1) z (j1, -4, σ25) (k + 1)).1) σ20 σ21 σ22 σ23 (kEF σ9 σ10 σ11 (tn (K 25) + 1) z (j1, -4, σ25) (k + 1)).2.1 (kEF σ9 σ10 σ11 (tn (K 25) + 1) z (j1, -4, σ25) k).2.2 σ26 σ27 σ28 σ29 σ30] A s.heap s H locs := Eq.mp (congrArg (fun z9 => xM D (TY q) [w9 q ad σ0 σ1 σ2 σ3 σ4 σ5 σ6 σ7 σ8 σ9 σ10 σ11 σ12 σ13 σ14 σ15 σ16 σ17 σ18 (xspl sm b (kEF σ9 σ10 σ11 (tn (K 25) + 1) z (j1, -4, σ25) (k + 1)).1) σ20 σ21 σ22 σ23 z9 (kEF σ9 σ10 σ11 (tn (K 25) + 1) z (j1, -4, σ25) k).2.2 σ26 σ27 σ28 σ29 σ30] A s.heap s H locs) e12) hM
        have e13 : (((kEF σ9 σ10 σ11 (tn (K 25) + 1) z (j1, -4, σ25) k).2.2) : Int32) = ((kEF σ9 σ10 σ11 (tn (K 25) + 1) z (j1, -4, σ25) (k + 1)).2.2) := by (rw [kEF]; split <;> first | rfl | contradiction)
        have hM : xM D (TY q) [w9 q ad σ0 σ1 σ2 σ3 σ4 σ5 σ6 σ7 σ8 σ9 σ10 σ11 σ12 σ13 σ14 σ15 σ16 σ17 σ18 (xspl sm b (kEF σ9 σ10 σ11 (tn (K 25) + 1) z (j1, -4, σ25) (k + 1)).1) σ20 σ21 σ22 σ23 (kEF σ9 σ10 σ11 (tn (K 25) + 1) z (j1, -4, σ25) (k + 1)).2.1 (kEF σ9 σ10 σ11 (tn (K 25) + 1) z (j1, -4, σ25) (k + 1)).2.2 σ26 σ27 σ28 σ29 σ30] A s.heap s H locs := Eq.mp (congrArg (fun z9 => xM D (TY q) [w9 q ad σ0 σ1 σ2 σ3 σ4 σ5 σ6 σ7 σ8 σ9 σ10 σ11 σ12 σ13 σ14 σ15 σ16 σ17 σ18 (xspl sm b (kEF σ9 σ10 σ11 (tn (K 25) + 1) z (j1, -4, σ25) (k + 1)).1) σ20 σ21 σ22 σ23 (kEF σ9 σ10 σ11 (tn (K 25) + 1) z (j1, -4, σ25) (k + 1)).2.1 z9 σ26 σ27 σ28 σ29 σ30] A s.heap s H locs) e13) hM
        have hl : lv_has ls 5 [(0, .ref (ad 0)), (1, .int (nI b)), (2, .int z), (3, .int (nI (tn (K 25) + 1))), (4, .int (nI (k + 1)))] := lv_sub hl [1, 2, 3, 4, 0] rfl
        exact ih4 (k + 1) (show tn (σ8 0) - (k + 1) < tn (σ8 0) - k from by omega) (show (k + 1) ≤ tn (σ8 0) from by omega) _ _ hM _ hl
      · refine lv_aload_n hx hb dX9_go_70 rfl (lv_at hl 0 rfl) ?_
        refine lv_iload_n hx hb dX9_go_71 rfl (lv_at hl 1 rfl) ?_
        refine lv_iload hx hb dX9_go_72 (lv_at hl 4 rfl) ?_
        refine x_callv (bc := [w9 q ad σ0 σ1 σ2 σ3 σ4 σ5 σ6 σ7 σ8 σ9 σ10 σ11 σ12 σ13 σ14 σ15 σ16 σ17 σ18 (xspl sm b (kEF σ9 σ10 σ11 (tn (K 25) + 1) z (j1, -4, σ25) k).1) σ20 σ21 σ22 σ23 (kEF σ9 σ10 σ11 (tn (K 25) + 1) z (j1, -4, σ25) k).2.1 (kEF σ9 σ10 σ11 (tn (K 25) + 1) z (j1, -4, σ25) k).2.2 σ26 σ27 σ28 σ29 σ30]) (br := []) hM [0] [] rfl rfl rfl (by decide) (x_runV (As := [.int (nI b), .int (nI k)]) (rest := []) hfix (c_X9_eatK l D q ad σ0 σ1 σ2 σ3 σ4 σ5 σ6 σ7 σ8 σ9 σ10 σ11 σ12 σ13 σ14 σ15 σ16 σ17 σ18 (xspl sm b (kEF σ9 σ10 σ11 (tn (K 25) + 1) z (j1, -4, σ25) k).1) σ20 σ21 σ22 σ23 (kEF σ9 σ10 σ11 (tn (K 25) + 1) z (j1, -4, σ25) k).2.1 (kEF σ9 σ10 σ11 (tn (K 25) + 1) z (j1, -4, σ25) k).2.2 σ26 σ27 σ28 σ29 σ30 sm b (kEF σ9 σ10 σ11 (tn (K 25) + 1) z (j1, -4, σ25) k).1 k (by omega) (by omega) (⟨(hE k (by omega)).1, (hE k (by omega)).2.1⟩)) (cwV 2 hts gX9_go_X9_eat rfl rfl rfl (by decide +kernel) ⟨Nat.le_of_ble_eq_true rfl, Nat.le_of_ble_eq_true rfl⟩) hM [0] rfl rfl 0 0 rfl rfl rfl rfl rfl hl.1 rfl (Nat.le_of_ble_eq_true rfl) dX9_go_74 ⟨Nat.le_of_ble_eq_true rfl, Nat.le_of_ble_eq_true rfl⟩) (fun u H locs hq hM => ?_)
        have hM : xM D (TY q) [w9 q ad σ0 σ1 σ2 σ3 σ4 σ5 σ6 σ7 σ8 σ9 σ10 σ11 σ12 σ13 σ14 σ15 σ16 σ17 σ18 (xspl sm b (kEat σ9 σ10 k ((kEF σ9 σ10 σ11 (tn (K 25) + 1) z (j1, -4, σ25) k).1, (kEF σ9 σ10 σ11 (tn (K 25) + 1) z (j1, -4, σ25) k).2.1, (kEF σ9 σ10 σ11 (tn (K 25) + 1) z (j1, -4, σ25) k).2.2)).1) σ20 σ21 σ22 σ23 (kEat σ9 σ10 k ((kEF σ9 σ10 σ11 (tn (K 25) + 1) z (j1, -4, σ25) k).1, (kEF σ9 σ10 σ11 (tn (K 25) + 1) z (j1, -4, σ25) k).2.1, (kEF σ9 σ10 σ11 (tn (K 25) + 1) z (j1, -4, σ25) k).2.2)).2.1 (kEat σ9 σ10 k ((kEF σ9 σ10 σ11 (tn (K 25) + 1) z (j1, -4, σ25) k).1, (kEF σ9 σ10 σ11 (tn (K 25) + 1) z (j1, -4, σ25) k).2.1, (kEF σ9 σ10 σ11 (tn (K 25) + 1) z (j1, -4, σ25) k).2.2)).2.2 σ26 σ27 σ28 σ29 σ30] A s.heap s H locs := hM
        refine lv_iinc (v := nI (k + 1)) (lv' := [(4, .int (nI (k + 1))), (0, .ref (ad 0)), (1, .int (nI b)), (2, .int z), (3, .int (nI (tn (K 25) + 1)))]) hx hb dX9_go_77 hl (k := 4) rfl (x_inc _ 1) (by decide) rfl (fun ls hl => ?_)
        refine lv_goto (tgt := 48) hx hb dX9_go_80 (by decide) ?_
        have e14 : ((xspl sm b (kEat σ9 σ10 k ((kEF σ9 σ10 σ11 (tn (K 25) + 1) z (j1, -4, σ25) k).1, (kEF σ9 σ10 σ11 (tn (K 25) + 1) z (j1, -4, σ25) k).2.1, (kEF σ9 σ10 σ11 (tn (K 25) + 1) z (j1, -4, σ25) k).2.2)).1) : Nat → Int32) = (xspl sm b (kEF σ9 σ10 σ11 (tn (K 25) + 1) z (j1, -4, σ25) (k + 1)).1) := by (rw [kEF]; split <;> first | rfl | contradiction)
        have hM : xM D (TY q) [w9 q ad σ0 σ1 σ2 σ3 σ4 σ5 σ6 σ7 σ8 σ9 σ10 σ11 σ12 σ13 σ14 σ15 σ16 σ17 σ18 (xspl sm b (kEF σ9 σ10 σ11 (tn (K 25) + 1) z (j1, -4, σ25) (k + 1)).1) σ20 σ21 σ22 σ23 (kEat σ9 σ10 k ((kEF σ9 σ10 σ11 (tn (K 25) + 1) z (j1, -4, σ25) k).1, (kEF σ9 σ10 σ11 (tn (K 25) + 1) z (j1, -4, σ25) k).2.1, (kEF σ9 σ10 σ11 (tn (K 25) + 1) z (j1, -4, σ25) k).2.2)).2.1 (kEat σ9 σ10 k ((kEF σ9 σ10 σ11 (tn (K 25) + 1) z (j1, -4, σ25) k).1, (kEF σ9 σ10 σ11 (tn (K 25) + 1) z (j1, -4, σ25) k).2.1, (kEF σ9 σ10 σ11 (tn (K 25) + 1) z (j1, -4, σ25) k).2.2)).2.2 σ26 σ27 σ28 σ29 σ30] A s.heap s H locs := Eq.mp (congrArg (fun z9 => xM D (TY q) [w9 q ad σ0 σ1 σ2 σ3 σ4 σ5 σ6 σ7 σ8 σ9 σ10 σ11 σ12 σ13 σ14 σ15 σ16 σ17 σ18 z9 σ20 σ21 σ22 σ23 (kEat σ9 σ10 k ((kEF σ9 σ10 σ11 (tn (K 25) + 1) z (j1, -4, σ25) k).1, (kEF σ9 σ10 σ11 (tn (K 25) + 1) z (j1, -4, σ25) k).2.1, (kEF σ9 σ10 σ11 (tn (K 25) + 1) z (j1, -4, σ25) k).2.2)).2.1 (kEat σ9 σ10 k ((kEF σ9 σ10 σ11 (tn (K 25) + 1) z (j1, -4, σ25) k).1, (kEF σ9 σ10 σ11 (tn (K 25) + 1) z (j1, -4, σ25) k).2.1, (kEF σ9 σ10 σ11 (tn (K 25) + 1) z (j1, -4, σ25) k).2.2)).2.2 σ26 σ27 σ28 σ29 σ30] A s.heap s H locs) e14) hM
        have e15 : (((kEat σ9 σ10 k ((kEF σ9 σ10 σ11 (tn (K 25) + 1) z (j1, -4, σ25) k).1, (kEF σ9 σ10 σ11 (tn (K 25) + 1) z (j1, -4, σ25) k).2.1, (kEF σ9 σ10 σ11 (tn (K 25) + 1) z (j1, -4, σ25) k).2.2)).2.1) : Int32) = ((kEF σ9 σ10 σ11 (tn (K 25) + 1) z (j1, -4, σ25) (k + 1)).2.1) := by (rw [kEF]; split <;> first | rfl | contradiction)
        have hM : xM D (TY q) [w9 q ad σ0 σ1 σ2 σ3 σ4 σ5 σ6 σ7 σ8 σ9 σ10 σ11 σ12 σ13 σ14 σ15 σ16 σ17 σ18 (xspl sm b (kEF σ9 σ10 σ11 (tn (K 25) + 1) z (j1, -4, σ25) (k + 1)).1) σ20 σ21 σ22 σ23 (kEF σ9 σ10 σ11 (tn (K 25) + 1) z (j1, -4, σ25) (k + 1)).2.1 (kEat σ9 σ10 k ((kEF σ9 σ10 σ11 (tn (K 25) + 1) z (j1, -4, σ25) k).1, (kEF σ9 σ10 σ11 (tn (K 25) + 1) z (j1, -4, σ25) k).2.1, (kEF σ9 σ10 σ11 (tn (K 25) + 1) z (j1, -4, σ25) k).2.2)).2.2 σ26 σ27 σ28 σ29 σ30] A s.heap s H locs := Eq.mp (congrArg (fun z9 => xM D (TY q) [w9 q ad σ0 σ1 σ2 σ3 σ4 σ5 σ6 σ7 σ8 σ9 σ10 σ11 σ12 σ13 σ14 σ15 σ16 σ17 σ18 (xspl sm b (kEF σ9 σ10 σ11 (tn (K 25) + 1) z (j1, -4, σ25) (k + 1)).1) σ20 σ21 σ22 σ23 z9 (kEat σ9 σ10 k ((kEF σ9 σ10 σ11 (tn (K 25) + 1) z (j1, -4, σ25) k).1, (kEF σ9 σ10 σ11 (tn (K 25) + 1) z (j1, -4, σ25) k).2.1, (kEF σ9 σ10 σ11 (tn (K 25) + 1) z (j1, -4, σ25) k).2.2)).2.2 σ26 σ27 σ28 σ29 σ30] A s.heap s H locs) e15) hM
        have e16 : (((kEat σ9 σ10 k ((kEF σ9 σ10 σ11 (tn (K 25) + 1) z (j1, -4, σ25) k).1, (kEF σ9 σ10 σ11 (tn (K 25) + 1) z (j1, -4, σ25) k).2.1, (kEF σ9 σ10 σ11 (tn (K 25) + 1) z (j1, -4, σ25) k).2.2)).2.2) : Int32) = ((kEF σ9 σ10 σ11 (tn (K 25) + 1) z (j1, -4, σ25) (k + 1)).2.2) := by (rw [kEF]; split <;> first | rfl | contradiction)
        have hM : xM D (TY q) [w9 q ad σ0 σ1 σ2 σ3 σ4 σ5 σ6 σ7 σ8 σ9 σ10 σ11 σ12 σ13 σ14 σ15 σ16 σ17 σ18 (xspl sm b (kEF σ9 σ10 σ11 (tn (K 25) + 1) z (j1, -4, σ25) (k + 1)).1) σ20 σ21 σ22 σ23 (kEF σ9 σ10 σ11 (tn (K 25) + 1) z (j1, -4, σ25) (k + 1)).2.1 (kEF σ9 σ10 σ11 (tn (K 25) + 1) z (j1, -4, σ25) (k + 1)).2.2 σ26 σ27 σ28 σ29 σ30] A s.heap s H locs := Eq.mp (congrArg (fun z9 => xM D (TY q) [w9 q ad σ0 σ1 σ2 σ3 σ4 σ5 σ6 σ7 σ8 σ9 σ10 σ11 σ12 σ13 σ14 σ15 σ16 σ17 σ18 (xspl sm b (kEF σ9 σ10 σ11 (tn (K 25) + 1) z (j1, -4, σ25) (k + 1)).1) σ20 σ21 σ22 σ23 (kEF σ9 σ10 σ11 (tn (K 25) + 1) z (j1, -4, σ25) (k + 1)).2.1 z9 σ26 σ27 σ28 σ29 σ30] A s.heap s H locs) e16) hM
        have hl : lv_has ls 5 [(0, .ref (ad 0)), (1, .int (nI b)), (2, .int z), (3, .int (nI (tn (K 25) + 1))), (4, .int (nI (k + 1)))] := lv_sub hl [1, 2, 3, 4, 0] rfl
        exact ih4 (k + 1) (show tn (σ8 0) - (k + 1) < tn (σ8 0) - k from by omega) (show (k + 1) ≤ tn (σ8 0) from by omega) _ _ hM _ hl
  · intro hJ17 H locs hM ls hl
    refine x_if_ne (x := (tn (K 25) + 1) % 10) (tgt := 45) hx hb (by omega) dX9_go_37 (by decide) (fun c18 => ?_) (fun c18 => ?_)
    · exact hJ17 (kCome (upd K 25 ((K 25) + (nI 1)))) (show (kCome (upd K 25 ((K 25) + (nI 1)))) = (if ¬ ((tn (K 25) + 1) % 10) = 0 then (kCome (upd K 25 ((K 25) + (nI 1)))) else (kSp σ4 (tn (σ2 0)) (kCome (upd K 25 ((K 25) + (nI 1)))) (tn (σ5 0)) 0)) from by (repeat' split) <;> first | rfl | contradiction | omega | simp_all) _ _ hM _ (lv_sub hl [0, 1, 2, 3] rfl)
    · refine lv_aload_n hx hb dX9_go_40 rfl (lv_at hl 1 rfl) ?_
      refine lv_iload_n hx hb dX9_go_41 rfl (lv_at hl 2 rfl) ?_
      refine x_callv (bc := [w9 q ad σ0 σ1 σ2 σ3 σ4 σ5 σ6 σ7 σ8 σ9 σ10 σ11 σ12 σ13 σ14 σ15 σ16 σ17 σ18 (xspl sm b (kCome (upd K 25 ((K 25) + (nI 1))))) σ20 σ21 σ22 σ23 (-4) σ25 σ26 σ27 σ28 σ29 σ30]) (br := []) hM [0] [] rfl rfl rfl (by decide) (x_runV (As := [.int (nI b)]) (rest := []) hfix (c_X9_spoilK l D q ad σ0 σ1 σ2 σ3 σ4 σ5 σ6 σ7 σ8 σ9 σ10 σ11 σ12 σ13 σ14 σ15 σ16 σ17 σ18 (xspl sm b (kCome (upd K 25 ((K 25) + (nI 1))))) σ20 σ21 σ22 σ23 (-4) σ25 σ26 σ27 σ28 σ29 σ30 sm b (kCome (upd K 25 ((K 25) + (nI 1)))) (by omega) hc2 hc5) (cwV 1 hts gX9_go_X9_spoil rfl rfl rfl (by decide +kernel) ⟨Nat.le_of_ble_eq_true rfl, Nat.le_of_ble_eq_true rfl⟩) hM [0] rfl rfl 0 0 rfl rfl rfl rfl rfl hl.1 rfl (Nat.le_of_ble_eq_true rfl) dX9_go_42 ⟨Nat.le_of_ble_eq_true rfl, Nat.le_of_ble_eq_true rfl⟩) (fun u H locs hq hM => ?_)
      have hM : xM D (TY q) [w9 q ad σ0 σ1 σ2 σ3 σ4 σ5 σ6 σ7 σ8 σ9 σ10 σ11 σ12 σ13 σ14 σ15 σ16 σ17 σ18 (xspl sm b (kSp σ4 (tn (σ2 0)) (kCome (upd K 25 ((K 25) + (nI 1)))) (tn (σ5 0)) 0)) σ20 σ21 σ22 σ23 (-4) σ25 σ26 σ27 σ28 σ29 σ30] A s.heap s H locs := hM
      exact hJ17 (kSp σ4 (tn (σ2 0)) (kCome (upd K 25 ((K 25) + (nI 1)))) (tn (σ5 0)) 0) (show (kSp σ4 (tn (σ2 0)) (kCome (upd K 25 ((K 25) + (nI 1)))) (tn (σ5 0)) 0) = (if ¬ ((tn (K 25) + 1) % 10) = 0 then (kCome (upd K 25 ((K 25) + (nI 1)))) else (kSp σ4 (tn (σ2 0)) (kCome (upd K 25 ((K 25) + (nI 1)))) (tn (σ5 0)) 0)) from by (repeat' split) <;> first | rfl | contradiction | omega | simp_all) _ _ hM _ (lv_sub hl [0, 1, 2, 3] rfl)
