set_option maxHeartbeats 4000000 in
set_option maxRecDepth 100000 in
theorem c_X9_piecesK (l : Launch) (D : va_G) (q : Nat → ClassId) (ad : Nat → Nat) (σ0 : Int32) (σ1 : Nat → Int32) (σ2 : Nat → Int32) (σ3 : Nat → Int32) (σ4 : Nat → Int32) (σ5 : Nat → Int32) (σ6 : Nat → Int32) (σ7 : Nat → Int32) (σ8 : Nat → Int32) (σ9 : Nat → Int32) (σ10 : Nat → Int32) (σ11 : Nat → Int32) (σ12 : Nat → Int32) (σ13 : Nat → Int32) (σ14 : Nat → Int32) (σ15 : Nat → Int32) (σ16 : Nat → Int32) (σ17 : Nat → Int32) (σ18 : Nat → Int32) (σ19 : Nat → Int32) (σ20 : Int32) (σ21 : Int32) (σ22 : Int32) (σ23 : Nat → Int32) (σ24 : Int32) (σ25 : Int32) (σ26 : Nat → Int32) (σ27 : Nat → Int32) (σ28 : Nat → Int32) (σ29 : Nat → Int32) (σ30 : Nat → Int32) (sm : Nat → Int32) (b : Nat) (K : Nat → Int32) (h : Nat) (g : Nat) (hb0 : b < 13) (hh0 : h < 5) (hg0 : g < 5) : xC l yX9_pieces wsX9_pieces ({ frames := 0, cells := 0, slots := 0, locals := 0 }) D (TY q) [w9 q ad σ0 σ1 σ2 σ3 σ4 σ5 σ6 σ7 σ8 σ9 σ10 σ11 σ12 σ13 σ14 σ15 σ16 σ17 σ18 (xspl sm b K) σ20 σ21 σ22 σ23 σ24 σ25 σ26 σ27 σ28 σ29 σ30] [.ref (ad 0), .int (nI b), .int (nI h), .int (nI g)] (xQi D (TY q) (fun (r : Int32) (_ : Unit) => r = K (5 * h + g)) (fun _ => [w9 q ad σ0 σ1 σ2 σ3 σ4 σ5 σ6 σ7 σ8 σ9 σ10 σ11 σ12 σ13 σ14 σ15 σ16 σ17 σ18 (xspl sm b K) σ20 σ21 σ22 σ23 σ24 σ25 σ26 σ27 σ28 σ29 σ30])) 0 0 := by
  refine x_enter (cc := cX9_pieces) (maxL := 4) (ret := (some .int)) (by decide) rfl (Nat.le_of_ble_eq_true rfl) ?_
  intro p e s m below meth c A ls H locs hfix hr hlocks hinit hM hl
  obtain ⟨hx, hb, hml, hown, hts⟩ := id hfix
  have hl : lv_has ls 4 [(0, .ref (ad 0)), (1, .int (nI b)), (2, .int (nI h)), (3, .int (nI g))] := hl
  refine lv_aload_n hx hb dX9_pieces_0 rfl (lv_at hl 0 rfl) ?_
  refine x_get hx hb hts iwX9_pieces_X9 hown hM 0 0 rfl rfl rfl 19 (by decide) (hts _ lkX9_pieces_64) (fun _ h => h) rfl dX9_pieces_1 ?_
  refine lv_bipush (v := nI 67) hx hb dX9_pieces_4 (by decide) ?_
  refine lv_iload_n hx hb dX9_pieces_6 rfl (lv_at hl 1 rfl) ?_
  refine x_imul (x := 67) (y := b) hx hb dX9_pieces_7 ?_
  refine lv_iconst (v := nI 5) hx hb dX9_pieces_8 (by decide) ?_
  refine lv_iload_n hx hb dX9_pieces_9 rfl (lv_at hl 2 rfl) ?_
  refine x_imul (x := 5) (y := h) hx hb dX9_pieces_10 ?_
  refine x_iadd (x := 67 * b) (y := 5 * h) hx hb dX9_pieces_11 ?_
  refine lv_iload_n hx hb dX9_pieces_12 rfl (lv_at hl 3 rfl) ?_
  refine x_iadd (x := 67 * b + (5 * h)) (y := g) hx hb dX9_pieces_13 ?_
  refine x_iald hx hb hM 0 19 0 (f := xspl sm b K) rfl rfl rfl (t := 67 * b + (5 * h) + g) (by omega) (by decide) dX9_pieces_14 ?_
  refine x_cast (y := K ((5 * h) + g)) (xspl_at (j := (5 * h) + g) (by omega) (by omega)) ?_
  exact x_iret hx hb hr hlocks () hM (show K ((5 * h) + g) = K (5 * h + g) from by rfl) dX9_pieces_15

set_option maxHeartbeats 4000000 in
set_option maxRecDepth 100000 in
theorem c_X9_addPiecesK (l : Launch) (D : va_G) (q : Nat → ClassId) (ad : Nat → Nat) (σ0 : Int32) (σ1 : Nat → Int32) (σ2 : Nat → Int32) (σ3 : Nat → Int32) (σ4 : Nat → Int32) (σ5 : Nat → Int32) (σ6 : Nat → Int32) (σ7 : Nat → Int32) (σ8 : Nat → Int32) (σ9 : Nat → Int32) (σ10 : Nat → Int32) (σ11 : Nat → Int32) (σ12 : Nat → Int32) (σ13 : Nat → Int32) (σ14 : Nat → Int32) (σ15 : Nat → Int32) (σ16 : Nat → Int32) (σ17 : Nat → Int32) (σ18 : Nat → Int32) (σ19 : Nat → Int32) (σ20 : Int32) (σ21 : Int32) (σ22 : Int32) (σ23 : Nat → Int32) (σ24 : Int32) (σ25 : Int32) (σ26 : Nat → Int32) (σ27 : Nat → Int32) (σ28 : Nat → Int32) (σ29 : Nat → Int32) (σ30 : Nat → Int32) (sm : Nat → Int32) (b : Nat) (K : Nat → Int32) (h : Nat) (g : Nat) (n : Int32) (hb0 : b < 13) (hh0 : h < 5) (hg0 : g < 5) : xC l yX9_addPieces wsX9_addPieces ({ frames := 0, cells := 0, slots := 0, locals := 0 }) D (TY q) [w9 q ad σ0 σ1 σ2 σ3 σ4 σ5 σ6 σ7 σ8 σ9 σ10 σ11 σ12 σ13 σ14 σ15 σ16 σ17 σ18 (xspl sm b K) σ20 σ21 σ22 σ23 σ24 σ25 σ26 σ27 σ28 σ29 σ30] [.ref (ad 0), .int (nI b), .int (nI h), .int (nI g), .int n] (xQv D (TY q) (fun (_ : Unit) => True) (fun _ => [w9 q ad σ0 σ1 σ2 σ3 σ4 σ5 σ6 σ7 σ8 σ9 σ10 σ11 σ12 σ13 σ14 σ15 σ16 σ17 σ18 (xspl sm b (kAdd K h g n)) σ20 σ21 σ22 σ23 σ24 σ25 σ26 σ27 σ28 σ29 σ30])) 0 0 := by
  refine x_enter (cc := cX9_addPieces) (maxL := 5) (ret := none) (by decide) rfl (Nat.le_of_ble_eq_true rfl) ?_
  intro p e s m below meth c A ls H locs hfix hr hlocks hinit hM hl
  obtain ⟨hx, hb, hml, hown, hts⟩ := id hfix
  have hl : lv_has ls 5 [(0, .ref (ad 0)), (1, .int (nI b)), (2, .int (nI h)), (3, .int (nI g)), (4, .int n)] := hl
  refine lv_aload_n hx hb dX9_addPieces_0 rfl (lv_at hl 0 rfl) ?_
  refine x_get hx hb hts iwX9_addPieces_X9 hown hM 0 0 rfl rfl rfl 19 (by decide) (hts _ lkX9_addPieces_64) (fun _ h => h) rfl dX9_addPieces_1 ?_
  refine lv_bipush (v := nI 67) hx hb dX9_addPieces_4 (by decide) ?_
  refine lv_iload_n hx hb dX9_addPieces_6 rfl (lv_at hl 1 rfl) ?_
  refine x_imul (x := 67) (y := b) hx hb dX9_addPieces_7 ?_
  refine lv_iconst (v := nI 5) hx hb dX9_addPieces_8 (by decide) ?_
  refine lv_iload_n hx hb dX9_addPieces_9 rfl (lv_at hl 2 rfl) ?_
  refine x_imul (x := 5) (y := h) hx hb dX9_addPieces_10 ?_
  refine x_iadd (x := 67 * b) (y := 5 * h) hx hb dX9_addPieces_11 ?_
  refine lv_iload_n hx hb dX9_addPieces_12 rfl (lv_at hl 3 rfl) ?_
  refine x_iadd (x := 67 * b + (5 * h)) (y := g) hx hb dX9_addPieces_13 ?_
  refine lv_dup2_11 hx hb dX9_addPieces_14 rfl rfl ?_
  refine x_iald hx hb hM 0 19 0 (f := xspl sm b K) rfl rfl rfl (t := 67 * b + (5 * h) + g) (by omega) (by decide) dX9_addPieces_15 ?_
  refine x_cast (y := K ((5 * h) + g)) (xspl_at (j := (5 * h) + g) (by omega) (by omega)) ?_
  refine lv_iload hx hb dX9_addPieces_16 (lv_at hl 4 rfl) ?_
  refine lv_iadd hx hb dX9_addPieces_18 ?_
  refine x_iast hx hb hM 0 19 0 (f := xspl sm b K) rfl rfl rfl (t := 67 * b + (5 * h) + g) (x := (K ((5 * h) + g)) + n) (by omega) (by decide) [w9 q ad σ0 σ1 σ2 σ3 σ4 σ5 σ6 σ7 σ8 σ9 σ10 σ11 σ12 σ13 σ14 σ15 σ16 σ17 σ18 (xspl sm b (upd K ((5 * h) + g) ((K ((5 * h) + g)) + n))) σ20 σ21 σ22 σ23 σ24 σ25 σ26 σ27 σ28 σ29 σ30] (by rw [xspl_upd (s := sm) (b := b) (K := K) (t := 67 * b + (5 * h) + g) (j := (5 * h) + g) (v := (K ((5 * h) + g)) + n) (by omega) (by omega)]; rfl) dX9_addPieces_19 (fun H locs hM => ?_)
  have e1 : ((xspl sm b (upd K ((5 * h) + g) ((K ((5 * h) + g)) + n))) : Nat → Int32) = (xspl sm b (kAdd K h g n)) := by rfl
  have hM : xM D (TY q) [w9 q ad σ0 σ1 σ2 σ3 σ4 σ5 σ6 σ7 σ8 σ9 σ10 σ11 σ12 σ13 σ14 σ15 σ16 σ17 σ18 (xspl sm b (kAdd K h g n)) σ20 σ21 σ22 σ23 σ24 σ25 σ26 σ27 σ28 σ29 σ30] A s.heap s H locs := Eq.mp (congrArg (fun z9 => xM D (TY q) [w9 q ad σ0 σ1 σ2 σ3 σ4 σ5 σ6 σ7 σ8 σ9 σ10 σ11 σ12 σ13 σ14 σ15 σ16 σ17 σ18 z9 σ20 σ21 σ22 σ23 σ24 σ25 σ26 σ27 σ28 σ29 σ30] A s.heap s H locs) e1) hM
  exact x_vret hx hb hr hlocks () hM trivial dX9_addPieces_20

set_option maxHeartbeats 4000000 in
set_option maxRecDepth 100000 in
theorem c_X9_minuteOfK (l : Launch) (D : va_G) (q : Nat → ClassId) (ad : Nat → Nat) (σ0 : Int32) (σ1 : Nat → Int32) (σ2 : Nat → Int32) (σ3 : Nat → Int32) (σ4 : Nat → Int32) (σ5 : Nat → Int32) (σ6 : Nat → Int32) (σ7 : Nat → Int32) (σ8 : Nat → Int32) (σ9 : Nat → Int32) (σ10 : Nat → Int32) (σ11 : Nat → Int32) (σ12 : Nat → Int32) (σ13 : Nat → Int32) (σ14 : Nat → Int32) (σ15 : Nat → Int32) (σ16 : Nat → Int32) (σ17 : Nat → Int32) (σ18 : Nat → Int32) (σ19 : Nat → Int32) (σ20 : Int32) (σ21 : Int32) (σ22 : Int32) (σ23 : Nat → Int32) (σ24 : Int32) (σ25 : Int32) (σ26 : Nat → Int32) (σ27 : Nat → Int32) (σ28 : Nat → Int32) (σ29 : Nat → Int32) (σ30 : Nat → Int32) (sm : Nat → Int32) (b : Nat) (K : Nat → Int32) (hb0 : b < 13) : xC l yX9_minuteOf wsX9_minuteOf ({ frames := 0, cells := 0, slots := 0, locals := 0 }) D (TY q) [w9 q ad σ0 σ1 σ2 σ3 σ4 σ5 σ6 σ7 σ8 σ9 σ10 σ11 σ12 σ13 σ14 σ15 σ16 σ17 σ18 (xspl sm b K) σ20 σ21 σ22 σ23 σ24 σ25 σ26 σ27 σ28 σ29 σ30] [.ref (ad 0), .int (nI b)] (xQi D (TY q) (fun (r : Int32) (_ : Unit) => r = K 25) (fun _ => [w9 q ad σ0 σ1 σ2 σ3 σ4 σ5 σ6 σ7 σ8 σ9 σ10 σ11 σ12 σ13 σ14 σ15 σ16 σ17 σ18 (xspl sm b K) σ20 σ21 σ22 σ23 σ24 σ25 σ26 σ27 σ28 σ29 σ30])) 0 0 := by
  refine x_enter (cc := cX9_minuteOf) (maxL := 2) (ret := (some .int)) (by decide) rfl (Nat.le_of_ble_eq_true rfl) ?_
  intro p e s m below meth c A ls H locs hfix hr hlocks hinit hM hl
  obtain ⟨hx, hb, hml, hown, hts⟩ := id hfix
  have hl : lv_has ls 2 [(0, .ref (ad 0)), (1, .int (nI b))] := hl
  refine lv_aload_n hx hb dX9_minuteOf_0 rfl (lv_at hl 0 rfl) ?_
  refine x_get hx hb hts iwX9_minuteOf_X9 hown hM 0 0 rfl rfl rfl 19 (by decide) (hts _ lkX9_minuteOf_64) (fun _ h => h) rfl dX9_minuteOf_1 ?_
  refine lv_bipush (v := nI 67) hx hb dX9_minuteOf_4 (by decide) ?_
  refine lv_iload_n hx hb dX9_minuteOf_6 rfl (lv_at hl 1 rfl) ?_
  refine x_imul (x := 67) (y := b) hx hb dX9_minuteOf_7 ?_
  refine lv_bipush (v := nI 25) hx hb dX9_minuteOf_8 (by decide) ?_
  refine x_iadd (x := 67 * b) (y := 25) hx hb dX9_minuteOf_10 ?_
  refine x_iald hx hb hM 0 19 0 (f := xspl sm b K) rfl rfl rfl (t := 67 * b + 25) (by omega) (by decide) dX9_minuteOf_11 ?_
  refine x_cast (y := K 25) (xspl_at (j := 25) (by omega) (by omega)) ?_
  exact x_iret hx hb hr hlocks () hM (show K 25 = K 25 from rfl) dX9_minuteOf_12

set_option maxHeartbeats 4000000 in
set_option maxRecDepth 100000 in
theorem c_X9_giftsOfK (l : Launch) (D : va_G) (q : Nat → ClassId) (ad : Nat → Nat) (σ0 : Int32) (σ1 : Nat → Int32) (σ2 : Nat → Int32) (σ3 : Nat → Int32) (σ4 : Nat → Int32) (σ5 : Nat → Int32) (σ6 : Nat → Int32) (σ7 : Nat → Int32) (σ8 : Nat → Int32) (σ9 : Nat → Int32) (σ10 : Nat → Int32) (σ11 : Nat → Int32) (σ12 : Nat → Int32) (σ13 : Nat → Int32) (σ14 : Nat → Int32) (σ15 : Nat → Int32) (σ16 : Nat → Int32) (σ17 : Nat → Int32) (σ18 : Nat → Int32) (σ19 : Nat → Int32) (σ20 : Int32) (σ21 : Int32) (σ22 : Int32) (σ23 : Nat → Int32) (σ24 : Int32) (σ25 : Int32) (σ26 : Nat → Int32) (σ27 : Nat → Int32) (σ28 : Nat → Int32) (σ29 : Nat → Int32) (σ30 : Nat → Int32) (sm : Nat → Int32) (b : Nat) (K : Nat → Int32) (hb0 : b < 13) : xC l yX9_giftsOf wsX9_giftsOf ({ frames := 0, cells := 0, slots := 0, locals := 0 }) D (TY q) [w9 q ad σ0 σ1 σ2 σ3 σ4 σ5 σ6 σ7 σ8 σ9 σ10 σ11 σ12 σ13 σ14 σ15 σ16 σ17 σ18 (xspl sm b K) σ20 σ21 σ22 σ23 σ24 σ25 σ26 σ27 σ28 σ29 σ30] [.ref (ad 0), .int (nI b)] (xQi D (TY q) (fun (r : Int32) (_ : Unit) => r = K 26) (fun _ => [w9 q ad σ0 σ1 σ2 σ3 σ4 σ5 σ6 σ7 σ8 σ9 σ10 σ11 σ12 σ13 σ14 σ15 σ16 σ17 σ18 (xspl sm b K) σ20 σ21 σ22 σ23 σ24 σ25 σ26 σ27 σ28 σ29 σ30])) 0 0 := by
  refine x_enter (cc := cX9_giftsOf) (maxL := 2) (ret := (some .int)) (by decide) rfl (Nat.le_of_ble_eq_true rfl) ?_
  intro p e s m below meth c A ls H locs hfix hr hlocks hinit hM hl
  obtain ⟨hx, hb, hml, hown, hts⟩ := id hfix
  have hl : lv_has ls 2 [(0, .ref (ad 0)), (1, .int (nI b))] := hl
  refine lv_aload_n hx hb dX9_giftsOf_0 rfl (lv_at hl 0 rfl) ?_
  refine x_get hx hb hts iwX9_giftsOf_X9 hown hM 0 0 rfl rfl rfl 19 (by decide) (hts _ lkX9_giftsOf_64) (fun _ h => h) rfl dX9_giftsOf_1 ?_
  refine lv_bipush (v := nI 67) hx hb dX9_giftsOf_4 (by decide) ?_
  refine lv_iload_n hx hb dX9_giftsOf_6 rfl (lv_at hl 1 rfl) ?_
  refine x_imul (x := 67) (y := b) hx hb dX9_giftsOf_7 ?_
  refine lv_bipush (v := nI 26) hx hb dX9_giftsOf_8 (by decide) ?_
  refine x_iadd (x := 67 * b) (y := 26) hx hb dX9_giftsOf_10 ?_
  refine x_iald hx hb hM 0 19 0 (f := xspl sm b K) rfl rfl rfl (t := 67 * b + 26) (by omega) (by decide) dX9_giftsOf_11 ?_
  refine x_cast (y := K 26) (xspl_at (j := 26) (by omega) (by omega)) ?_
  exact x_iret hx hb hr hlocks () hM (show K 26 = K 26 from rfl) dX9_giftsOf_12

theorem dX9_copy_0 : decode cX9_copy 0 = .ok (.iconst 0, 1) := by decide +kernel
theorem dX9_copy_1 : decode cX9_copy 1 = .ok (.istore_n 3, 1) := by decide +kernel
theorem dX9_copy_2 : decode cX9_copy 2 = .ok (.iload_n 3, 1) := by decide +kernel
theorem dX9_copy_3 : decode cX9_copy 3 = .ok (.bipush 67, 2) := by decide +kernel
theorem dX9_copy_5 : decode cX9_copy 5 = .ok (.if_icmp .ge 31, 3) := by decide +kernel
theorem dX9_copy_8 : decode cX9_copy 8 = .ok (.aload_n 0, 1) := by decide +kernel
theorem dX9_copy_9 : decode cX9_copy 9 = .ok (.getfield 64, 3) := by decide +kernel
theorem dX9_copy_12 : decode cX9_copy 12 = .ok (.bipush 67, 2) := by decide +kernel
theorem dX9_copy_14 : decode cX9_copy 14 = .ok (.iload_n 2, 1) := by decide +kernel
theorem dX9_copy_15 : decode cX9_copy 15 = .ok (.imul, 1) := by decide +kernel
theorem dX9_copy_16 : decode cX9_copy 16 = .ok (.iload_n 3, 1) := by decide +kernel
theorem dX9_copy_17 : decode cX9_copy 17 = .ok (.iadd, 1) := by decide +kernel
theorem dX9_copy_18 : decode cX9_copy 18 = .ok (.aload_n 0, 1) := by decide +kernel
theorem dX9_copy_19 : decode cX9_copy 19 = .ok (.getfield 64, 3) := by decide +kernel
theorem dX9_copy_22 : decode cX9_copy 22 = .ok (.bipush 67, 2) := by decide +kernel
theorem dX9_copy_24 : decode cX9_copy 24 = .ok (.iload_n 1, 1) := by decide +kernel
theorem dX9_copy_25 : decode cX9_copy 25 = .ok (.imul, 1) := by decide +kernel
theorem dX9_copy_26 : decode cX9_copy 26 = .ok (.iload_n 3, 1) := by decide +kernel
theorem dX9_copy_27 : decode cX9_copy 27 = .ok (.iadd, 1) := by decide +kernel
theorem dX9_copy_28 : decode cX9_copy 28 = .ok (.iaload, 1) := by decide +kernel
theorem dX9_copy_29 : decode cX9_copy 29 = .ok (.iastore, 1) := by decide +kernel
theorem dX9_copy_30 : decode cX9_copy 30 = .ok (.iinc 3 1, 3) := by decide +kernel
theorem dX9_copy_33 : decode cX9_copy 33 = .ok (.goto (-31), 3) := by decide +kernel
theorem dX9_copy_36 : decode cX9_copy 36 = .ok (.return_, 1) := by decide +kernel
theorem lkX9_copy_64 : Cond.fieldLink RX9 64 "LeftAtFiveModel" "s" "[I" ∈ wsX9_copy := by decide +kernel
theorem iwX9_copy_X9 : ∀ w ∈ wsX90, w ∈ wsX9_copy := by decide +kernel
set_option maxHeartbeats 4000000 in
set_option maxRecDepth 100000 in
theorem c_X9_copy (l : Launch) (D : va_G) (q : Nat → ClassId) (ad : Nat → Nat) (σ0 : Int32) (σ1 : Nat → Int32) (σ2 : Nat → Int32) (σ3 : Nat → Int32) (σ4 : Nat → Int32) (σ5 : Nat → Int32) (σ6 : Nat → Int32) (σ7 : Nat → Int32) (σ8 : Nat → Int32) (σ9 : Nat → Int32) (σ10 : Nat → Int32) (σ11 : Nat → Int32) (σ12 : Nat → Int32) (σ13 : Nat → Int32) (σ14 : Nat → Int32) (σ15 : Nat → Int32) (σ16 : Nat → Int32) (σ17 : Nat → Int32) (σ18 : Nat → Int32) (σ19 : Nat → Int32) (σ20 : Int32) (σ21 : Int32) (σ22 : Int32) (σ23 : Nat → Int32) (σ24 : Int32) (σ25 : Int32) (σ26 : Nat → Int32) (σ27 : Nat → Int32) (σ28 : Nat → Int32) (σ29 : Nat → Int32) (σ30 : Nat → Int32) (a : Nat) (b : Nat) (ha0 : a < 13) (hb0 : b < 13) (hab : a ≠ b) : xC l yX9_copy wsX9_copy ({ frames := 0, cells := 0, slots := 0, locals := 0 }) D (TY q) [w9 q ad σ0 σ1 σ2 σ3 σ4 σ5 σ6 σ7 σ8 σ9 σ10 σ11 σ12 σ13 σ14 σ15 σ16 σ17 σ18 σ19 σ20 σ21 σ22 σ23 σ24 σ25 σ26 σ27 σ28 σ29 σ30] [.ref (ad 0), .int (nI a), .int (nI b)] (xQv D (TY q) (fun (_ : Unit) => True) (fun _ => [w9 q ad σ0 σ1 σ2 σ3 σ4 σ5 σ6 σ7 σ8 σ9 σ10 σ11 σ12 σ13 σ14 σ15 σ16 σ17 σ18 (xspl σ19 b (xreg σ19 a)) σ20 σ21 σ22 σ23 σ24 σ25 σ26 σ27 σ28 σ29 σ30])) 0 0 := by
  refine x_enter (cc := cX9_copy) (maxL := 4) (ret := none) (by decide) rfl (Nat.le_of_ble_eq_true rfl) ?_
  intro p e s m below meth c A ls H locs hfix hr hlocks hinit hM hl
  obtain ⟨hx, hb, hml, hown, hts⟩ := id hfix
  have hl : lv_has ls 4 [(0, .ref (ad 0)), (1, .int (nI a)), (2, .int (nI b))] := hl
  refine lv_iconst (v := nI 0) hx hb dX9_copy_0 (by decide) ?_
  refine lv_istore_n (lv' := [(3, .int (nI 0)), (0, .ref (ad 0)), (1, .int (nI a)), (2, .int (nI b))]) hx hb dX9_copy_1 rfl hl (by decide) rfl (fun ls hl => ?_)
  have hM1 : xM D (TY q) [w9 q ad σ0 σ1 σ2 σ3 σ4 σ5 σ6 σ7 σ8 σ9 σ10 σ11 σ12 σ13 σ14 σ15 σ16 σ17 σ18 (xcp σ19 a b 0) σ20 σ21 σ22 σ23 σ24 σ25 σ26 σ27 σ28 σ29 σ30] A s.heap s H locs := by rw [xcp_0]; exact hM
  refine x_loop (ι := Nat) (fun k => [(0, .ref (ad 0)), (1, .int (nI a)), (2, .int (nI b)), (3, .int (nI k))]) (fun k => [w9 q ad σ0 σ1 σ2 σ3 σ4 σ5 σ6 σ7 σ8 σ9 σ10 σ11 σ12 σ13 σ14 σ15 σ16 σ17 σ18 (xcp σ19 a b k) σ20 σ21 σ22 σ23 σ24 σ25 σ26 σ27 σ28 σ29 σ30]) (fun k => k ≤ 67) (fun k => 67 - k) 0 (by omega) hM1 (lv_sub hl [1, 2, 3, 0] rfl) ?_
  intro k hI3 ih2 H locs hM ls hl
  have hM : xM D (TY q) [w9 q ad σ0 σ1 σ2 σ3 σ4 σ5 σ6 σ7 σ8 σ9 σ10 σ11 σ12 σ13 σ14 σ15 σ16 σ17 σ18 (xcp σ19 a b k) σ20 σ21 σ22 σ23 σ24 σ25 σ26 σ27 σ28 σ29 σ30] A s.heap s H locs := hM
  have hl : lv_has ls 4 [(0, .ref (ad 0)), (1, .int (nI a)), (2, .int (nI b)), (3, .int (nI k))] := hl
  have hI3 : k ≤ 67 := hI3
  try dsimp only
  refine lv_iload_n hx hb dX9_copy_2 rfl (lv_at hl 3 rfl) ?_
  refine lv_bipush (v := nI 67) hx hb dX9_copy_3 (by decide) ?_
  refine x_icmp_ge (x := k) (y := 67) (tgt := 36) hx hb (by omega) (by omega) dX9_copy_5 (by decide) (fun c4 => ?_) (fun c4 => ?_)
  · have e5 : ((xcp σ19 a b k) : Nat → Int32) = (xspl σ19 b (xreg σ19 a)) := by rw [show k = 67 by omega]; exact xcp_67 _ _ _
    have hM : xM D (TY q) [w9 q ad σ0 σ1 σ2 σ3 σ4 σ5 σ6 σ7 σ8 σ9 σ10 σ11 σ12 σ13 σ14 σ15 σ16 σ17 σ18 (xspl σ19 b (xreg σ19 a)) σ20 σ21 σ22 σ23 σ24 σ25 σ26 σ27 σ28 σ29 σ30] A s.heap s H locs := Eq.mp (congrArg (fun z9 => xM D (TY q) [w9 q ad σ0 σ1 σ2 σ3 σ4 σ5 σ6 σ7 σ8 σ9 σ10 σ11 σ12 σ13 σ14 σ15 σ16 σ17 σ18 z9 σ20 σ21 σ22 σ23 σ24 σ25 σ26 σ27 σ28 σ29 σ30] A s.heap s H locs) e5) hM
    exact x_vret hx hb hr hlocks () hM trivial dX9_copy_36
  · refine lv_aload_n hx hb dX9_copy_8 rfl (lv_at hl 0 rfl) ?_
    refine x_get hx hb hts iwX9_copy_X9 hown hM 0 0 rfl rfl rfl 19 (by decide) (hts _ lkX9_copy_64) (fun _ h => h) rfl dX9_copy_9 ?_
    refine lv_bipush (v := nI 67) hx hb dX9_copy_12 (by decide) ?_
    refine lv_iload_n hx hb dX9_copy_14 rfl (lv_at hl 2 rfl) ?_
    refine x_imul (x := 67) (y := b) hx hb dX9_copy_15 ?_
    refine lv_iload_n hx hb dX9_copy_16 rfl (lv_at hl 3 rfl) ?_
    refine x_iadd (x := 67 * b) (y := k) hx hb dX9_copy_17 ?_
    refine lv_aload_n hx hb dX9_copy_18 rfl (lv_at hl 0 rfl) ?_
    refine x_get hx hb hts iwX9_copy_X9 hown hM 0 0 rfl rfl rfl 19 (by decide) (hts _ lkX9_copy_64) (fun _ h => h) rfl dX9_copy_19 ?_
    refine lv_bipush (v := nI 67) hx hb dX9_copy_22 (by decide) ?_
    refine lv_iload_n hx hb dX9_copy_24 rfl (lv_at hl 1 rfl) ?_
    refine x_imul (x := 67) (y := a) hx hb dX9_copy_25 ?_
    refine lv_iload_n hx hb dX9_copy_26 rfl (lv_at hl 3 rfl) ?_
    refine x_iadd (x := 67 * a) (y := k) hx hb dX9_copy_27 ?_
    refine x_iald hx hb hM 0 19 0 (f := xcp σ19 a b k) rfl rfl rfl (t := 67 * a + k) (by omega) (by decide) dX9_copy_28 ?_
    refine x_iast hx hb hM 0 19 0 (f := xcp σ19 a b k) rfl rfl rfl (t := 67 * b + k) (x := (xcp σ19 a b k) (67 * a + k)) (by omega) (by decide) [w9 q ad σ0 σ1 σ2 σ3 σ4 σ5 σ6 σ7 σ8 σ9 σ10 σ11 σ12 σ13 σ14 σ15 σ16 σ17 σ18 (upd (xcp σ19 a b k) (67 * b + k) ((xcp σ19 a b k) (67 * a + k))) σ20 σ21 σ22 σ23 σ24 σ25 σ26 σ27 σ28 σ29 σ30] rfl dX9_copy_29 (fun H locs hM => ?_)
    refine lv_iinc (v := nI (k + 1)) (lv' := [(3, .int (nI (k + 1))), (0, .ref (ad 0)), (1, .int (nI a)), (2, .int (nI b))]) hx hb dX9_copy_30 hl (k := 3) rfl (x_inc _ 1) (by decide) rfl (fun ls hl => ?_)
    refine lv_goto (tgt := 2) hx hb dX9_copy_33 (by decide) ?_
    have e6 : ((upd (xcp σ19 a b k) (67 * b + k) ((xcp σ19 a b k) (67 * a + k))) : Nat → Int32) = (xcp σ19 a b (k + 1)) := by exact xcp_s _ hab (by omega)
    have hM : xM D (TY q) [w9 q ad σ0 σ1 σ2 σ3 σ4 σ5 σ6 σ7 σ8 σ9 σ10 σ11 σ12 σ13 σ14 σ15 σ16 σ17 σ18 (xcp σ19 a b (k + 1)) σ20 σ21 σ22 σ23 σ24 σ25 σ26 σ27 σ28 σ29 σ30] A s.heap s H locs := Eq.mp (congrArg (fun z9 => xM D (TY q) [w9 q ad σ0 σ1 σ2 σ3 σ4 σ5 σ6 σ7 σ8 σ9 σ10 σ11 σ12 σ13 σ14 σ15 σ16 σ17 σ18 z9 σ20 σ21 σ22 σ23 σ24 σ25 σ26 σ27 σ28 σ29 σ30] A s.heap s H locs) e6) hM
    have hl : lv_has ls 4 [(0, .ref (ad 0)), (1, .int (nI a)), (2, .int (nI b)), (3, .int (nI (k + 1)))] := lv_sub hl [1, 2, 3, 0] rfl
    exact ih2 (k + 1) (show 67 - (k + 1) < 67 - k from by omega) (show (k + 1) ≤ 67 from by omega) _ _ hM _ hl

set_option maxRecDepth 20000 in
theorem ggX9_comeIn_X9_giftsOf : GoodIn wsX9_comeIn wsX9_giftsOf := goodIn_r _ [6, 1, 19, 20, 21, 22, 23, 24, 25, 26, 27, 28, 29, 30, 31, 32, 33, 34, 35, 36, 37, 38, 39, 40, 41, 42, 43, 44, 45, 46, 47, 48, 49] (by decide +kernel) (by decide +kernel)
set_option maxRecDepth 20000 in
theorem gX9_comeIn_X9_giftsOf : GoodIn wsX9_comeIn (wsV RX9 159 RX9 yX9_giftsOf wsX9_giftsOf) := goodIn_app (goodIn_of _ (by decide +kernel)) ggX9_comeIn_X9_giftsOf
set_option maxRecDepth 20000 in
theorem ggX9_comeIn_X9_giftAt : GoodIn wsX9_comeIn wsX9_giftAt := goodIn_r _ [10] (by decide +kernel) (by decide +kernel)
set_option maxRecDepth 20000 in
theorem gX9_comeIn_X9_giftAt : GoodIn wsX9_comeIn (wsV RX9 162 RX9 yX9_giftAt wsX9_giftAt) := goodIn_app (goodIn_of _ (by decide +kernel)) ggX9_comeIn_X9_giftAt
set_option maxRecDepth 20000 in
theorem ggX9_comeIn_X9_minuteOf : GoodIn wsX9_comeIn wsX9_minuteOf := goodIn_r _ [14, 1, 19, 20, 21, 22, 23, 24, 25, 26, 27, 28, 29, 30, 31, 32, 33, 34, 35, 36, 37, 38, 39, 40, 41, 42, 43, 44, 45, 46, 47, 48, 49] (by decide +kernel) (by decide +kernel)
set_option maxRecDepth 20000 in
theorem gX9_comeIn_X9_minuteOf : GoodIn wsX9_comeIn (wsV RX9 166 RX9 yX9_minuteOf wsX9_minuteOf) := goodIn_app (goodIn_of _ (by decide +kernel)) ggX9_comeIn_X9_minuteOf
set_option maxRecDepth 20000 in
theorem ggX9_comeIn_X9_addPieces : GoodIn wsX9_comeIn wsX9_addPieces := goodIn_r _ [18, 1, 19, 20, 21, 22, 23, 24, 25, 26, 27, 28, 29, 30, 31, 32, 33, 34, 35, 36, 37, 38, 39, 40, 41, 42, 43, 44, 45, 46, 47, 48, 49] (by decide +kernel) (by decide +kernel)
set_option maxRecDepth 20000 in
theorem gX9_comeIn_X9_addPieces : GoodIn wsX9_comeIn (wsV RX9 169 RX9 yX9_addPieces wsX9_addPieces) := goodIn_app (goodIn_of _ (by decide +kernel)) ggX9_comeIn_X9_addPieces
theorem dX9_comeIn_0 : decode cX9_comeIn 0 = .ok (.iconst 0, 1) := by decide +kernel
theorem dX9_comeIn_1 : decode cX9_comeIn 1 = .ok (.istore_n 2, 1) := by decide +kernel
theorem dX9_comeIn_2 : decode cX9_comeIn 2 = .ok (.aload_n 0, 1) := by decide +kernel
theorem dX9_comeIn_3 : decode cX9_comeIn 3 = .ok (.iload_n 1, 1) := by decide +kernel
theorem dX9_comeIn_4 : decode cX9_comeIn 4 = .ok (.invokevirtual 159, 3) := by decide +kernel
theorem dX9_comeIn_7 : decode cX9_comeIn 7 = .ok (.istore_n 3, 1) := by decide +kernel
theorem dX9_comeIn_8 : decode cX9_comeIn 8 = .ok (.iconst 0, 1) := by decide +kernel
theorem dX9_comeIn_9 : decode cX9_comeIn 9 = .ok (.istore 4, 2) := by decide +kernel
theorem dX9_comeIn_11 : decode cX9_comeIn 11 = .ok (.iload 4, 2) := by decide +kernel
theorem dX9_comeIn_13 : decode cX9_comeIn 13 = .ok (.iload_n 3, 1) := by decide +kernel
theorem dX9_comeIn_14 : decode cX9_comeIn 14 = .ok (.if_icmp .ge 110, 3) := by decide +kernel
theorem dX9_comeIn_17 : decode cX9_comeIn 17 = .ok (.aload_n 0, 1) := by decide +kernel
theorem dX9_comeIn_18 : decode cX9_comeIn 18 = .ok (.iload_n 1, 1) := by decide +kernel
theorem dX9_comeIn_19 : decode cX9_comeIn 19 = .ok (.iload 4, 2) := by decide +kernel
theorem dX9_comeIn_21 : decode cX9_comeIn 21 = .ok (.invokevirtual 162, 3) := by decide +kernel
theorem dX9_comeIn_24 : decode cX9_comeIn 24 = .ok (.istore 5, 2) := by decide +kernel
theorem dX9_comeIn_26 : decode cX9_comeIn 26 = .ok (.aload_n 0, 1) := by decide +kernel
theorem dX9_comeIn_27 : decode cX9_comeIn 27 = .ok (.getfield 64, 3) := by decide +kernel
theorem dX9_comeIn_30 : decode cX9_comeIn 30 = .ok (.iload 5, 2) := by decide +kernel
theorem dX9_comeIn_32 : decode cX9_comeIn 32 = .ok (.iconst 3, 1) := by decide +kernel
theorem dX9_comeIn_33 : decode cX9_comeIn 33 = .ok (.iadd, 1) := by decide +kernel
theorem dX9_comeIn_34 : decode cX9_comeIn 34 = .ok (.iaload, 1) := by decide +kernel
theorem dX9_comeIn_35 : decode cX9_comeIn 35 = .ok (.aload_n 0, 1) := by decide +kernel
theorem dX9_comeIn_36 : decode cX9_comeIn 36 = .ok (.iload_n 1, 1) := by decide +kernel
theorem dX9_comeIn_37 : decode cX9_comeIn 37 = .ok (.invokevirtual 166, 3) := by decide +kernel
theorem dX9_comeIn_40 : decode cX9_comeIn 40 = .ok (.if_icmp .ne 36, 3) := by decide +kernel
theorem dX9_comeIn_43 : decode cX9_comeIn 43 = .ok (.aload_n 0, 1) := by decide +kernel
theorem dX9_comeIn_44 : decode cX9_comeIn 44 = .ok (.iload_n 1, 1) := by decide +kernel
theorem dX9_comeIn_45 : decode cX9_comeIn 45 = .ok (.aload_n 0, 1) := by decide +kernel
theorem dX9_comeIn_46 : decode cX9_comeIn 46 = .ok (.getfield 64, 3) := by decide +kernel
theorem dX9_comeIn_49 : decode cX9_comeIn 49 = .ok (.iload 5, 2) := by decide +kernel
theorem dX9_comeIn_51 : decode cX9_comeIn 51 = .ok (.iaload, 1) := by decide +kernel
theorem dX9_comeIn_52 : decode cX9_comeIn 52 = .ok (.aload_n 0, 1) := by decide +kernel
theorem dX9_comeIn_53 : decode cX9_comeIn 53 = .ok (.getfield 64, 3) := by decide +kernel
theorem dX9_comeIn_56 : decode cX9_comeIn 56 = .ok (.iload 5, 2) := by decide +kernel
theorem dX9_comeIn_58 : decode cX9_comeIn 58 = .ok (.iconst 1, 1) := by decide +kernel
theorem dX9_comeIn_59 : decode cX9_comeIn 59 = .ok (.iadd, 1) := by decide +kernel
theorem dX9_comeIn_60 : decode cX9_comeIn 60 = .ok (.iaload, 1) := by decide +kernel
theorem dX9_comeIn_61 : decode cX9_comeIn 61 = .ok (.aload_n 0, 1) := by decide +kernel
theorem dX9_comeIn_62 : decode cX9_comeIn 62 = .ok (.getfield 64, 3) := by decide +kernel
theorem dX9_comeIn_65 : decode cX9_comeIn 65 = .ok (.iload 5, 2) := by decide +kernel
theorem dX9_comeIn_67 : decode cX9_comeIn 67 = .ok (.iconst 2, 1) := by decide +kernel
theorem dX9_comeIn_68 : decode cX9_comeIn 68 = .ok (.iadd, 1) := by decide +kernel
theorem dX9_comeIn_69 : decode cX9_comeIn 69 = .ok (.iaload, 1) := by decide +kernel
theorem dX9_comeIn_70 : decode cX9_comeIn 70 = .ok (.invokevirtual 169, 3) := by decide +kernel
theorem dX9_comeIn_73 : decode cX9_comeIn 73 = .ok (.goto 45, 3) := by decide +kernel
theorem dX9_comeIn_76 : decode cX9_comeIn 76 = .ok (.iconst 0, 1) := by decide +kernel
theorem dX9_comeIn_77 : decode cX9_comeIn 77 = .ok (.istore 6, 2) := by decide +kernel
theorem dX9_comeIn_79 : decode cX9_comeIn 79 = .ok (.iload 6, 2) := by decide +kernel
theorem dX9_comeIn_81 : decode cX9_comeIn 81 = .ok (.iconst 4, 1) := by decide +kernel
theorem dX9_comeIn_82 : decode cX9_comeIn 82 = .ok (.if_icmp .ge 33, 3) := by decide +kernel
theorem dX9_comeIn_85 : decode cX9_comeIn 85 = .ok (.aload_n 0, 1) := by decide +kernel
theorem dX9_comeIn_86 : decode cX9_comeIn 86 = .ok (.getfield 64, 3) := by decide +kernel
theorem dX9_comeIn_89 : decode cX9_comeIn 89 = .ok (.aload_n 0, 1) := by decide +kernel
theorem dX9_comeIn_90 : decode cX9_comeIn 90 = .ok (.iload_n 1, 1) := by decide +kernel
theorem dX9_comeIn_91 : decode cX9_comeIn 91 = .ok (.iload_n 2, 1) := by decide +kernel
theorem dX9_comeIn_92 : decode cX9_comeIn 92 = .ok (.invokevirtual 162, 3) := by decide +kernel
theorem dX9_comeIn_95 : decode cX9_comeIn 95 = .ok (.iload 6, 2) := by decide +kernel
theorem dX9_comeIn_97 : decode cX9_comeIn 97 = .ok (.iadd, 1) := by decide +kernel
theorem dX9_comeIn_98 : decode cX9_comeIn 98 = .ok (.aload_n 0, 1) := by decide +kernel
theorem dX9_comeIn_99 : decode cX9_comeIn 99 = .ok (.getfield 64, 3) := by decide +kernel
theorem dX9_comeIn_102 : decode cX9_comeIn 102 = .ok (.iload 5, 2) := by decide +kernel
theorem dX9_comeIn_104 : decode cX9_comeIn 104 = .ok (.iload 6, 2) := by decide +kernel
theorem dX9_comeIn_106 : decode cX9_comeIn 106 = .ok (.iadd, 1) := by decide +kernel
theorem dX9_comeIn_107 : decode cX9_comeIn 107 = .ok (.iaload, 1) := by decide +kernel
theorem dX9_comeIn_108 : decode cX9_comeIn 108 = .ok (.iastore, 1) := by decide +kernel
theorem dX9_comeIn_109 : decode cX9_comeIn 109 = .ok (.iinc 6 1, 3) := by decide +kernel
theorem dX9_comeIn_112 : decode cX9_comeIn 112 = .ok (.goto (-33), 3) := by decide +kernel
theorem dX9_comeIn_115 : decode cX9_comeIn 115 = .ok (.iinc 2 1, 3) := by decide +kernel
theorem dX9_comeIn_118 : decode cX9_comeIn 118 = .ok (.iinc 4 1, 3) := by decide +kernel
theorem dX9_comeIn_121 : decode cX9_comeIn 121 = .ok (.goto (-110), 3) := by decide +kernel
theorem dX9_comeIn_124 : decode cX9_comeIn 124 = .ok (.aload_n 0, 1) := by decide +kernel
theorem dX9_comeIn_125 : decode cX9_comeIn 125 = .ok (.getfield 64, 3) := by decide +kernel
theorem dX9_comeIn_128 : decode cX9_comeIn 128 = .ok (.bipush 67, 2) := by decide +kernel
theorem dX9_comeIn_130 : decode cX9_comeIn 130 = .ok (.iload_n 1, 1) := by decide +kernel
theorem dX9_comeIn_131 : decode cX9_comeIn 131 = .ok (.imul, 1) := by decide +kernel
theorem dX9_comeIn_132 : decode cX9_comeIn 132 = .ok (.bipush 26, 2) := by decide +kernel
theorem dX9_comeIn_134 : decode cX9_comeIn 134 = .ok (.iadd, 1) := by decide +kernel
theorem dX9_comeIn_135 : decode cX9_comeIn 135 = .ok (.iload_n 2, 1) := by decide +kernel
theorem dX9_comeIn_136 : decode cX9_comeIn 136 = .ok (.iastore, 1) := by decide +kernel
theorem dX9_comeIn_137 : decode cX9_comeIn 137 = .ok (.return_, 1) := by decide +kernel
theorem lkX9_comeIn_64 : Cond.fieldLink RX9 64 "LeftAtFiveModel" "s" "[I" ∈ wsX9_comeIn := by decide +kernel
theorem iwX9_comeIn_X9 : ∀ w ∈ wsX90, w ∈ wsX9_comeIn := by decide +kernel
set_option maxHeartbeats 4000000 in
set_option maxRecDepth 100000 in
theorem c_X9_comeInK (l : Launch) (D : va_G) (q : Nat → ClassId) (ad : Nat → Nat) (σ0 : Int32) (σ1 : Nat → Int32) (σ2 : Nat → Int32) (σ3 : Nat → Int32) (σ4 : Nat → Int32) (σ5 : Nat → Int32) (σ6 : Nat → Int32) (σ7 : Nat → Int32) (σ8 : Nat → Int32) (σ9 : Nat → Int32) (σ10 : Nat → Int32) (σ11 : Nat → Int32) (σ12 : Nat → Int32) (σ13 : Nat → Int32) (σ14 : Nat → Int32) (σ15 : Nat → Int32) (σ16 : Nat → Int32) (σ17 : Nat → Int32) (σ18 : Nat → Int32) (σ19 : Nat → Int32) (σ20 : Int32) (σ21 : Int32) (σ22 : Int32) (σ23 : Nat → Int32) (σ24 : Int32) (σ25 : Int32) (σ26 : Nat → Int32) (σ27 : Nat → Int32) (σ28 : Nat → Int32) (σ29 : Nat → Int32) (σ30 : Nat → Int32) (sm : Nat → Int32) (b : Nat) (K : Nat → Int32) (hb0 : b < 13) (hK : okK K) : xC l yX9_comeIn wsX9_comeIn ({ frames := 1, cells := 0, slots := 0, locals := 24 }) D (TY q) [w9 q ad σ0 σ1 σ2 σ3 σ4 σ5 σ6 σ7 σ8 σ9 σ10 σ11 σ12 σ13 σ14 σ15 σ16 σ17 σ18 (xspl sm b K) σ20 σ21 σ22 σ23 σ24 σ25 σ26 σ27 σ28 σ29 σ30] [.ref (ad 0), .int (nI b)] (xQv D (TY q) (fun (_ : Unit) => True) (fun _ => [w9 q ad σ0 σ1 σ2 σ3 σ4 σ5 σ6 σ7 σ8 σ9 σ10 σ11 σ12 σ13 σ14 σ15 σ16 σ17 σ18 (xspl sm b (kCome K)) σ20 σ21 σ22 σ23 σ24 σ25 σ26 σ27 σ28 σ29 σ30])) 0 0 := by
  refine x_enter (cc := cX9_comeIn) (maxL := 7) (ret := none) (by decide) rfl (Nat.le_of_ble_eq_true rfl) ?_
  intro p e s m below meth c A ls H locs hfix hr hlocks hinit hM hl
  obtain ⟨hx, hb, hml, hown, hts⟩ := id hfix
  have hl : lv_has ls 7 [(0, .ref (ad 0)), (1, .int (nI b))] := hl
  have hK2 := hK.2.1.2
  refine lv_iconst (v := nI 0) hx hb dX9_comeIn_0 (by decide) ?_
  refine lv_istore_n (lv' := [(2, .int (nI 0)), (0, .ref (ad 0)), (1, .int (nI b))]) hx hb dX9_comeIn_1 rfl hl (by decide) rfl (fun ls hl => ?_)
  refine lv_aload_n hx hb dX9_comeIn_2 rfl (lv_at hl 1 rfl) ?_
  refine lv_iload_n hx hb dX9_comeIn_3 rfl (lv_at hl 2 rfl) ?_
  refine x_calli (bc := [w9 q ad σ0 σ1 σ2 σ3 σ4 σ5 σ6 σ7 σ8 σ9 σ10 σ11 σ12 σ13 σ14 σ15 σ16 σ17 σ18 (xspl sm b K) σ20 σ21 σ22 σ23 σ24 σ25 σ26 σ27 σ28 σ29 σ30]) (br := []) hM [0] [] rfl rfl rfl (by decide) (x_runV (As := [.int (nI b)]) (rest := []) hfix (c_X9_giftsOfK l D q ad σ0 σ1 σ2 σ3 σ4 σ5 σ6 σ7 σ8 σ9 σ10 σ11 σ12 σ13 σ14 σ15 σ16 σ17 σ18 (xspl sm b K) σ20 σ21 σ22 σ23 σ24 σ25 σ26 σ27 σ28 σ29 σ30 sm b K (by omega)) (cwV 1 hts gX9_comeIn_X9_giftsOf rfl rfl rfl (by decide +kernel) ⟨Nat.le_of_ble_eq_true rfl, Nat.le_of_ble_eq_true rfl⟩) hM [0] rfl rfl 0 0 rfl rfl rfl rfl rfl hl.1 rfl (Nat.le_of_ble_eq_true rfl) dX9_comeIn_4 ⟨Nat.le_of_ble_eq_true rfl, Nat.le_of_ble_eq_true rfl⟩) (fun r u H locs hq hM => ?_)
  subst hq
  have hM : xM D (TY q) [w9 q ad σ0 σ1 σ2 σ3 σ4 σ5 σ6 σ7 σ8 σ9 σ10 σ11 σ12 σ13 σ14 σ15 σ16 σ17 σ18 (xspl sm b K) σ20 σ21 σ22 σ23 σ24 σ25 σ26 σ27 σ28 σ29 σ30] A s.heap s H locs := hM
  refine x_cast (y := nI (tn (K 26))) hK.2.1.1 ?_
  refine lv_istore_n (lv' := [(3, .int (nI (tn (K 26)))), (2, .int (nI 0)), (0, .ref (ad 0)), (1, .int (nI b))]) hx hb dX9_comeIn_7 rfl hl (by decide) rfl (fun ls hl => ?_)
  refine lv_iconst (v := nI 0) hx hb dX9_comeIn_8 (by decide) ?_
  refine lv_istore (lv' := [(4, .int (nI 0)), (3, .int (nI (tn (K 26)))), (2, .int (nI 0)), (0, .ref (ad 0)), (1, .int (nI b))]) hx hb dX9_comeIn_9 hl (by decide) rfl (fun ls hl => ?_)
  have hM1 : xM D (TY q) [w9 q ad σ0 σ1 σ2 σ3 σ4 σ5 σ6 σ7 σ8 σ9 σ10 σ11 σ12 σ13 σ14 σ15 σ16 σ17 σ18 (xspl sm b (kCL K 0).2) σ20 σ21 σ22 σ23 σ24 σ25 σ26 σ27 σ28 σ29 σ30] A s.heap s H locs := by exact hM
  refine x_loop (ι := Nat) (fun k => [(0, .ref (ad 0)), (1, .int (nI b)), (2, .int (nI (kCL K k).1)), (3, .int (nI (tn (K 26)))), (4, .int (nI k))]) (fun k => [w9 q ad σ0 σ1 σ2 σ3 σ4 σ5 σ6 σ7 σ8 σ9 σ10 σ11 σ12 σ13 σ14 σ15 σ16 σ17 σ18 (xspl sm b (kCL K k).2) σ20 σ21 σ22 σ23 σ24 σ25 σ26 σ27 σ28 σ29 σ30]) (fun k => k ≤ tn (K 26)) (fun k => tn (K 26) - k) 0 (by omega) hM1 (lv_sub hl [3, 4, 2, 1, 0] rfl) ?_
  intro k hI3 ih2 H locs hM ls hl
  have hM : xM D (TY q) [w9 q ad σ0 σ1 σ2 σ3 σ4 σ5 σ6 σ7 σ8 σ9 σ10 σ11 σ12 σ13 σ14 σ15 σ16 σ17 σ18 (xspl sm b (kCL K k).2) σ20 σ21 σ22 σ23 σ24 σ25 σ26 σ27 σ28 σ29 σ30] A s.heap s H locs := hM
  have hl : lv_has ls 7 [(0, .ref (ad 0)), (1, .int (nI b)), (2, .int (nI (kCL K k).1)), (3, .int (nI (tn (K 26)))), (4, .int (nI k))] := hl
  have hI3 : k ≤ tn (K 26) := hI3
  have hle := kCL_le K k
  try dsimp only
  refine lv_iload hx hb dX9_comeIn_11 (lv_at hl 4 rfl) ?_
  refine lv_iload_n hx hb dX9_comeIn_13 rfl (lv_at hl 3 rfl) ?_
  refine x_icmp_ge (x := k) (y := tn (K 26)) (tgt := 124) hx hb (by omega) (by omega) dX9_comeIn_14 (by decide) (fun c4 => ?_) (fun c4 => ?_)
  · refine lv_aload_n hx hb dX9_comeIn_124 rfl (lv_at hl 0 rfl) ?_
    refine x_get hx hb hts iwX9_comeIn_X9 hown hM 0 0 rfl rfl rfl 19 (by decide) (hts _ lkX9_comeIn_64) (fun _ h => h) rfl dX9_comeIn_125 ?_
    refine lv_bipush (v := nI 67) hx hb dX9_comeIn_128 (by decide) ?_
    refine lv_iload_n hx hb dX9_comeIn_130 rfl (lv_at hl 1 rfl) ?_
    refine x_imul (x := 67) (y := b) hx hb dX9_comeIn_131 ?_
    refine lv_bipush (v := nI 26) hx hb dX9_comeIn_132 (by decide) ?_
    refine x_iadd (x := 67 * b) (y := 26) hx hb dX9_comeIn_134 ?_
    refine lv_iload_n hx hb dX9_comeIn_135 rfl (lv_at hl 2 rfl) ?_
    refine x_iast hx hb hM 0 19 0 (f := xspl sm b (kCL K k).2) rfl rfl rfl (t := 67 * b + 26) (x := nI (kCL K k).1) (by omega) (by decide) [w9 q ad σ0 σ1 σ2 σ3 σ4 σ5 σ6 σ7 σ8 σ9 σ10 σ11 σ12 σ13 σ14 σ15 σ16 σ17 σ18 (xspl sm b (upd (kCL K k).2 26 (nI (kCL K k).1))) σ20 σ21 σ22 σ23 σ24 σ25 σ26 σ27 σ28 σ29 σ30] (by rw [xspl_upd (s := sm) (b := b) (K := (kCL K k).2) (t := 67 * b + 26) (j := 26) (v := nI (kCL K k).1) (by omega) (by omega)]; rfl) dX9_comeIn_136 (fun H locs hM => ?_)
    have e5 : ((xspl sm b (upd (kCL K k).2 26 (nI (kCL K k).1))) : Nat → Int32) = (xspl sm b (kCome K)) := by (rw [show k = tn (K 26) by omega]; rfl)
    have hM : xM D (TY q) [w9 q ad σ0 σ1 σ2 σ3 σ4 σ5 σ6 σ7 σ8 σ9 σ10 σ11 σ12 σ13 σ14 σ15 σ16 σ17 σ18 (xspl sm b (kCome K)) σ20 σ21 σ22 σ23 σ24 σ25 σ26 σ27 σ28 σ29 σ30] A s.heap s H locs := Eq.mp (congrArg (fun z9 => xM D (TY q) [w9 q ad σ0 σ1 σ2 σ3 σ4 σ5 σ6 σ7 σ8 σ9 σ10 σ11 σ12 σ13 σ14 σ15 σ16 σ17 σ18 z9 σ20 σ21 σ22 σ23 σ24 σ25 σ26 σ27 σ28 σ29 σ30] A s.heap s H locs) e5) hM
    exact x_vret hx hb hr hlocks () hM trivial dX9_comeIn_137
  · refine lv_aload_n hx hb dX9_comeIn_17 rfl (lv_at hl 0 rfl) ?_
    refine lv_iload_n hx hb dX9_comeIn_18 rfl (lv_at hl 1 rfl) ?_
    refine lv_iload hx hb dX9_comeIn_19 (lv_at hl 4 rfl) ?_
    refine x_calli (bc := [w9 q ad σ0 σ1 σ2 σ3 σ4 σ5 σ6 σ7 σ8 σ9 σ10 σ11 σ12 σ13 σ14 σ15 σ16 σ17 σ18 (xspl sm b (kCL K k).2) σ20 σ21 σ22 σ23 σ24 σ25 σ26 σ27 σ28 σ29 σ30]) (br := []) hM [0] [] rfl rfl rfl (by decide) (x_runV (As := [.int (nI b), .int (nI k)]) (rest := []) hfix (c_X9_giftAt l D q ad σ0 σ1 σ2 σ3 σ4 σ5 σ6 σ7 σ8 σ9 σ10 σ11 σ12 σ13 σ14 σ15 σ16 σ17 σ18 (xspl sm b (kCL K k).2) σ20 σ21 σ22 σ23 σ24 σ25 σ26 σ27 σ28 σ29 σ30 b k) (cwV 2 hts gX9_comeIn_X9_giftAt rfl rfl rfl (by decide +kernel) ⟨Nat.le_of_ble_eq_true rfl, Nat.le_of_ble_eq_true rfl⟩) hM [0] rfl rfl 0 0 rfl rfl rfl rfl rfl hl.1 rfl (Nat.le_of_ble_eq_true rfl) dX9_comeIn_21 ⟨Nat.le_of_ble_eq_true rfl, Nat.le_of_ble_eq_true rfl⟩) (fun r u H locs hq hM => ?_)
    subst hq
    have hM : xM D (TY q) [w9 q ad σ0 σ1 σ2 σ3 σ4 σ5 σ6 σ7 σ8 σ9 σ10 σ11 σ12 σ13 σ14 σ15 σ16 σ17 σ18 (xspl sm b (kCL K k).2) σ20 σ21 σ22 σ23 σ24 σ25 σ26 σ27 σ28 σ29 σ30] A s.heap s H locs := hM
    refine lv_istore (lv' := [(5, .int (nI (67 * b + 26 + 1 + 4 * k))), (0, .ref (ad 0)), (1, .int (nI b)), (2, .int (nI (kCL K k).1)), (3, .int (nI (tn (K 26)))), (4, .int (nI k))]) hx hb dX9_comeIn_24 hl (by decide) rfl (fun ls hl => ?_)
    refine lv_aload_n hx hb dX9_comeIn_26 rfl (lv_at hl 1 rfl) ?_
    refine x_get hx hb hts iwX9_comeIn_X9 hown hM 0 0 rfl rfl rfl 19 (by decide) (hts _ lkX9_comeIn_64) (fun _ h => h) rfl dX9_comeIn_27 ?_
    refine lv_iload hx hb dX9_comeIn_30 (lv_at hl 0 rfl) ?_
    refine lv_iconst (v := nI 3) hx hb dX9_comeIn_32 (by decide) ?_
    refine x_iadd (x := 67 * b + 26 + 1 + 4 * k) (y := 3) hx hb dX9_comeIn_33 ?_
    refine x_iald hx hb hM 0 19 0 (f := xspl sm b (kCL K k).2) rfl rfl rfl (t := 67 * b + 26 + 1 + 4 * k + 3) (by omega) (by decide) dX9_comeIn_34 ?_
    refine x_cast (y := (kCL K k).2 (26 + 1 + 4 * k + 3)) (xspl_at (j := 26 + 1 + 4 * k + 3) (by omega) (by omega)) ?_
    refine x_cast (y := K (26 + 1 + 4 * k + 3)) (kCL_keep K k (fun i hi => hK.2.2 i (by omega)) _ (by omega)) ?_
    refine lv_aload_n hx hb dX9_comeIn_35 rfl (lv_at hl 1 rfl) ?_
    refine lv_iload_n hx hb dX9_comeIn_36 rfl (lv_at hl 2 rfl) ?_
    refine x_calli (bc := [w9 q ad σ0 σ1 σ2 σ3 σ4 σ5 σ6 σ7 σ8 σ9 σ10 σ11 σ12 σ13 σ14 σ15 σ16 σ17 σ18 (xspl sm b (kCL K k).2) σ20 σ21 σ22 σ23 σ24 σ25 σ26 σ27 σ28 σ29 σ30]) (br := []) hM [0] [] rfl rfl rfl (by decide) (x_runV (As := [.int (nI b)]) (rest := [.int (K (26 + 1 + 4 * k + 3))]) hfix (c_X9_minuteOfK l D q ad σ0 σ1 σ2 σ3 σ4 σ5 σ6 σ7 σ8 σ9 σ10 σ11 σ12 σ13 σ14 σ15 σ16 σ17 σ18 (xspl sm b (kCL K k).2) σ20 σ21 σ22 σ23 σ24 σ25 σ26 σ27 σ28 σ29 σ30 sm b (kCL K k).2 (by omega)) (cwV 1 hts gX9_comeIn_X9_minuteOf rfl rfl rfl (by decide +kernel) ⟨Nat.le_of_ble_eq_true rfl, Nat.le_of_ble_eq_true rfl⟩) hM [0] rfl rfl 0 0 rfl rfl rfl rfl rfl hl.1 rfl (Nat.le_of_ble_eq_true rfl) dX9_comeIn_37 ⟨Nat.le_of_ble_eq_true rfl, Nat.le_of_ble_eq_true rfl⟩) (fun r u H locs hq hM => ?_)
    subst hq
    have hM : xM D (TY q) [w9 q ad σ0 σ1 σ2 σ3 σ4 σ5 σ6 σ7 σ8 σ9 σ10 σ11 σ12 σ13 σ14 σ15 σ16 σ17 σ18 (xspl sm b (kCL K k).2) σ20 σ21 σ22 σ23 σ24 σ25 σ26 σ27 σ28 σ29 σ30] A s.heap s H locs := hM
    refine x_cast (y := K 25) (kCL_keep K k (fun i hi => hK.2.2 i (by omega)) _ (by omega)) ?_
    refine lv_icmp_ne (tgt := 76) hx hb dX9_comeIn_40 (by decide) (fun c6 => ?_) (fun c6 => ?_)
    · refine lv_iconst (v := nI 0) hx hb dX9_comeIn_76 (by decide) ?_
      refine lv_istore (lv' := [(6, .int (nI 0)), (5, .int (nI (67 * b + 26 + 1 + 4 * k))), (0, .ref (ad 0)), (1, .int (nI b)), (2, .int (nI (kCL K k).1)), (3, .int (nI (tn (K 26)))), (4, .int (nI k))]) hx hb dX9_comeIn_77 hl (by decide) rfl (fun ls hl => ?_)
      have hM7 : xM D (TY q) [w9 q ad σ0 σ1 σ2 σ3 σ4 σ5 σ6 σ7 σ8 σ9 σ10 σ11 σ12 σ13 σ14 σ15 σ16 σ17 σ18 (xspl sm b (kMv (kCL K k).2 k (kCL K k).1 0)) σ20 σ21 σ22 σ23 σ24 σ25 σ26 σ27 σ28 σ29 σ30] A s.heap s H locs := by rw [kMv_0]; exact hM
      refine x_loop (ι := Nat) (fun i => [(0, .ref (ad 0)), (1, .int (nI b)), (2, .int (nI (kCL K k).1)), (3, .int (nI (tn (K 26)))), (4, .int (nI k)), (5, .int (nI (67 * b + 26 + 1 + 4 * k))), (6, .int (nI i))]) (fun i => [w9 q ad σ0 σ1 σ2 σ3 σ4 σ5 σ6 σ7 σ8 σ9 σ10 σ11 σ12 σ13 σ14 σ15 σ16 σ17 σ18 (xspl sm b (kMv (kCL K k).2 k (kCL K k).1 i)) σ20 σ21 σ22 σ23 σ24 σ25 σ26 σ27 σ28 σ29 σ30]) (fun i => i ≤ 4) (fun i => 4 - i) 0 (by omega) hM7 (lv_sub hl [2, 3, 4, 5, 6, 1, 0] rfl) ?_
      intro i hI9 ih8 H locs hM ls hl
      have hM : xM D (TY q) [w9 q ad σ0 σ1 σ2 σ3 σ4 σ5 σ6 σ7 σ8 σ9 σ10 σ11 σ12 σ13 σ14 σ15 σ16 σ17 σ18 (xspl sm b (kMv (kCL K k).2 k (kCL K k).1 i)) σ20 σ21 σ22 σ23 σ24 σ25 σ26 σ27 σ28 σ29 σ30] A s.heap s H locs := hM
      have hl : lv_has ls 7 [(0, .ref (ad 0)), (1, .int (nI b)), (2, .int (nI (kCL K k).1)), (3, .int (nI (tn (K 26)))), (4, .int (nI k)), (5, .int (nI (67 * b + 26 + 1 + 4 * k))), (6, .int (nI i))] := hl
      have hI9 : i ≤ 4 := hI9
      try dsimp only
      refine lv_iload hx hb dX9_comeIn_79 (lv_at hl 6 rfl) ?_
      refine lv_iconst (v := nI 4) hx hb dX9_comeIn_81 (by decide) ?_
      refine x_icmp_ge (x := i) (y := 4) (tgt := 115) hx hb (by omega) (by omega) dX9_comeIn_82 (by decide) (fun c10 => ?_) (fun c10 => ?_)
      · refine lv_iinc (v := nI ((kCL K k).1 + 1)) (lv' := [(2, .int (nI ((kCL K k).1 + 1))), (0, .ref (ad 0)), (1, .int (nI b)), (3, .int (nI (tn (K 26)))), (4, .int (nI k)), (5, .int (nI (67 * b + 26 + 1 + 4 * k))), (6, .int (nI i))]) hx hb dX9_comeIn_115 hl (k := 2) rfl (x_inc _ 1) (by decide) rfl (fun ls hl => ?_)
        refine lv_iinc (v := nI (k + 1)) (lv' := [(4, .int (nI (k + 1))), (2, .int (nI ((kCL K k).1 + 1))), (0, .ref (ad 0)), (1, .int (nI b)), (3, .int (nI (tn (K 26)))), (5, .int (nI (67 * b + 26 + 1 + 4 * k))), (6, .int (nI i))]) hx hb dX9_comeIn_118 hl (k := 4) rfl (x_inc _ 1) (by decide) rfl (fun ls hl => ?_)
        refine lv_goto (tgt := 11) hx hb dX9_comeIn_121 (by decide) ?_
        have e11 : ((xspl sm b (kMv (kCL K k).2 k (kCL K k).1 i)) : Nat → Int32) = (xspl sm b (kCL K (k + 1)).2) := by (first | (simp only [kCL]; split <;> first | rfl | contradiction) | (rw [show i = 4 by omega]; simp only [kCL]; split <;> first | rfl | contradiction))
        have hM : xM D (TY q) [w9 q ad σ0 σ1 σ2 σ3 σ4 σ5 σ6 σ7 σ8 σ9 σ10 σ11 σ12 σ13 σ14 σ15 σ16 σ17 σ18 (xspl sm b (kCL K (k + 1)).2) σ20 σ21 σ22 σ23 σ24 σ25 σ26 σ27 σ28 σ29 σ30] A s.heap s H locs := Eq.mp (congrArg (fun z9 => xM D (TY q) [w9 q ad σ0 σ1 σ2 σ3 σ4 σ5 σ6 σ7 σ8 σ9 σ10 σ11 σ12 σ13 σ14 σ15 σ16 σ17 σ18 z9 σ20 σ21 σ22 σ23 σ24 σ25 σ26 σ27 σ28 σ29 σ30] A s.heap s H locs) e11) hM
        have hl : lv_has ls 7 [(0, .ref (ad 0)), (1, .int (nI b)), (2, .int (nI ((kCL K k).1 + 1))), (3, .int (nI (tn (K 26)))), (4, .int (nI (k + 1)))] := lv_sub hl [2, 3, 1, 4, 0] rfl
        have e12 : nI ((kCL K k).1 + 1) = nI (kCL K (k + 1)).1 := by (simp only [kCL]; split <;> first | rfl | contradiction)
        have hl : lv_has ls 7 [(0, .ref (ad 0)), (1, .int (nI b)), (2, .int (nI (kCL K (k + 1)).1)), (3, .int (nI (tn (K 26)))), (4, .int (nI (k + 1)))] := x_lvset hl 2 rfl (congrArg Value.int e12) rfl
        exact ih2 (k + 1) (show tn (K 26) - (k + 1) < tn (K 26) - k from by omega) (show (k + 1) ≤ tn (K 26) from by omega) _ _ hM _ hl
      · refine lv_aload_n hx hb dX9_comeIn_85 rfl (lv_at hl 0 rfl) ?_
        refine x_get hx hb hts iwX9_comeIn_X9 hown hM 0 0 rfl rfl rfl 19 (by decide) (hts _ lkX9_comeIn_64) (fun _ h => h) rfl dX9_comeIn_86 ?_
        refine lv_aload_n hx hb dX9_comeIn_89 rfl (lv_at hl 0 rfl) ?_
        refine lv_iload_n hx hb dX9_comeIn_90 rfl (lv_at hl 1 rfl) ?_
        refine lv_iload_n hx hb dX9_comeIn_91 rfl (lv_at hl 2 rfl) ?_
        refine x_calli (bc := [w9 q ad σ0 σ1 σ2 σ3 σ4 σ5 σ6 σ7 σ8 σ9 σ10 σ11 σ12 σ13 σ14 σ15 σ16 σ17 σ18 (xspl sm b (kMv (kCL K k).2 k (kCL K k).1 i)) σ20 σ21 σ22 σ23 σ24 σ25 σ26 σ27 σ28 σ29 σ30]) (br := []) hM [0] [] rfl rfl rfl (by decide) (x_runV (As := [.int (nI b), .int (nI (kCL K k).1)]) (rest := [.ref (ad 20)]) hfix (c_X9_giftAt l D q ad σ0 σ1 σ2 σ3 σ4 σ5 σ6 σ7 σ8 σ9 σ10 σ11 σ12 σ13 σ14 σ15 σ16 σ17 σ18 (xspl sm b (kMv (kCL K k).2 k (kCL K k).1 i)) σ20 σ21 σ22 σ23 σ24 σ25 σ26 σ27 σ28 σ29 σ30 b (kCL K k).1) (cwV 2 hts gX9_comeIn_X9_giftAt rfl rfl rfl (by decide +kernel) ⟨Nat.le_of_ble_eq_true rfl, Nat.le_of_ble_eq_true rfl⟩) hM [0] rfl rfl 0 0 rfl rfl rfl rfl rfl hl.1 rfl (Nat.le_of_ble_eq_true rfl) dX9_comeIn_92 ⟨Nat.le_of_ble_eq_true rfl, Nat.le_of_ble_eq_true rfl⟩) (fun r u H locs hq hM => ?_)
        subst hq
        have hM : xM D (TY q) [w9 q ad σ0 σ1 σ2 σ3 σ4 σ5 σ6 σ7 σ8 σ9 σ10 σ11 σ12 σ13 σ14 σ15 σ16 σ17 σ18 (xspl sm b (kMv (kCL K k).2 k (kCL K k).1 i)) σ20 σ21 σ22 σ23 σ24 σ25 σ26 σ27 σ28 σ29 σ30] A s.heap s H locs := hM
        refine lv_iload hx hb dX9_comeIn_95 (lv_at hl 6 rfl) ?_
        refine x_iadd (x := 67 * b + 26 + 1 + 4 * (kCL K k).1) (y := i) hx hb dX9_comeIn_97 ?_
        refine lv_aload_n hx hb dX9_comeIn_98 rfl (lv_at hl 0 rfl) ?_
        refine x_get hx hb hts iwX9_comeIn_X9 hown hM 0 0 rfl rfl rfl 19 (by decide) (hts _ lkX9_comeIn_64) (fun _ h => h) rfl dX9_comeIn_99 ?_
        refine lv_iload hx hb dX9_comeIn_102 (lv_at hl 5 rfl) ?_
        refine lv_iload hx hb dX9_comeIn_104 (lv_at hl 6 rfl) ?_
        refine x_iadd (x := 67 * b + 26 + 1 + 4 * k) (y := i) hx hb dX9_comeIn_106 ?_
        refine x_iald hx hb hM 0 19 0 (f := xspl sm b (kMv (kCL K k).2 k (kCL K k).1 i)) rfl rfl rfl (t := 67 * b + 26 + 1 + 4 * k + i) (by omega) (by decide) dX9_comeIn_107 ?_
        refine x_cast (y := (kMv (kCL K k).2 k (kCL K k).1 i) (26 + 1 + 4 * k + i)) (xspl_at (j := 26 + 1 + 4 * k + i) (by omega) (by omega)) ?_
        refine x_cast (y := (kCL K k).2 (26 + 1 + 4 * k + i)) (kMv_read _ (by omega) (by omega)) ?_
        refine x_cast (y := K (26 + 1 + 4 * k + i)) (kCL_keep K k (fun i hi => hK.2.2 i (by omega)) _ (by omega)) ?_
        refine x_iast hx hb hM 0 19 0 (f := xspl sm b (kMv (kCL K k).2 k (kCL K k).1 i)) rfl rfl rfl (t := 67 * b + 26 + 1 + 4 * (kCL K k).1 + i) (x := K (26 + 1 + 4 * k + i)) (by omega) (by decide) [w9 q ad σ0 σ1 σ2 σ3 σ4 σ5 σ6 σ7 σ8 σ9 σ10 σ11 σ12 σ13 σ14 σ15 σ16 σ17 σ18 (xspl sm b (upd (kMv (kCL K k).2 k (kCL K k).1 i) (26 + 1 + 4 * (kCL K k).1 + i) (K (26 + 1 + 4 * k + i)))) σ20 σ21 σ22 σ23 σ24 σ25 σ26 σ27 σ28 σ29 σ30] (by rw [xspl_upd (s := sm) (b := b) (K := (kMv (kCL K k).2 k (kCL K k).1 i)) (t := 67 * b + 26 + 1 + 4 * (kCL K k).1 + i) (j := 26 + 1 + 4 * (kCL K k).1 + i) (v := K (26 + 1 + 4 * k + i)) (by omega) (by omega)]; rfl) dX9_comeIn_108 (fun H locs hM => ?_)
        refine lv_iinc (v := nI (i + 1)) (lv' := [(6, .int (nI (i + 1))), (0, .ref (ad 0)), (1, .int (nI b)), (2, .int (nI (kCL K k).1)), (3, .int (nI (tn (K 26)))), (4, .int (nI k)), (5, .int (nI (67 * b + 26 + 1 + 4 * k)))]) hx hb dX9_comeIn_109 hl (k := 6) rfl (x_inc _ 1) (by decide) rfl (fun ls hl => ?_)
        refine lv_goto (tgt := 79) hx hb dX9_comeIn_112 (by decide) ?_
        have e13 : ((xspl sm b (upd (kMv (kCL K k).2 k (kCL K k).1 i) (26 + 1 + 4 * (kCL K k).1 + i) (K (26 + 1 + 4 * k + i)))) : Nat → Int32) = (xspl sm b (kMv (kCL K k).2 k (kCL K k).1 (i + 1))) := by (congr 1; rw [← kCL_keep K k (fun i hi => hK.2.2 i (by omega)) (26 + 1 + 4 * k + i) (by omega)]; exact kMv_s _ (by omega) (by omega))
        have hM : xM D (TY q) [w9 q ad σ0 σ1 σ2 σ3 σ4 σ5 σ6 σ7 σ8 σ9 σ10 σ11 σ12 σ13 σ14 σ15 σ16 σ17 σ18 (xspl sm b (kMv (kCL K k).2 k (kCL K k).1 (i + 1))) σ20 σ21 σ22 σ23 σ24 σ25 σ26 σ27 σ28 σ29 σ30] A s.heap s H locs := Eq.mp (congrArg (fun z9 => xM D (TY q) [w9 q ad σ0 σ1 σ2 σ3 σ4 σ5 σ6 σ7 σ8 σ9 σ10 σ11 σ12 σ13 σ14 σ15 σ16 σ17 σ18 z9 σ20 σ21 σ22 σ23 σ24 σ25 σ26 σ27 σ28 σ29 σ30] A s.heap s H locs) e13) hM
        have hl : lv_has ls 7 [(0, .ref (ad 0)), (1, .int (nI b)), (2, .int (nI (kCL K k).1)), (3, .int (nI (tn (K 26)))), (4, .int (nI k)), (5, .int (nI (67 * b + 26 + 1 + 4 * k))), (6, .int (nI (i + 1)))] := lv_sub hl [1, 2, 3, 4, 5, 6, 0] rfl
        exact ih8 (i + 1) (show 4 - (i + 1) < 4 - i from by omega) (show (i + 1) ≤ 4 from by omega) _ _ hM _ hl
    · obtain ⟨⟨hg0, hg1⟩, hg2, hg3⟩ := hK.2.2 k (by omega)
      refine lv_aload_n hx hb dX9_comeIn_43 rfl (lv_at hl 1 rfl) ?_
      refine lv_iload_n hx hb dX9_comeIn_44 rfl (lv_at hl 2 rfl) ?_
      refine lv_aload_n hx hb dX9_comeIn_45 rfl (lv_at hl 1 rfl) ?_
      refine x_get hx hb hts iwX9_comeIn_X9 hown hM 0 0 rfl rfl rfl 19 (by decide) (hts _ lkX9_comeIn_64) (fun _ h => h) rfl dX9_comeIn_46 ?_
      refine lv_iload hx hb dX9_comeIn_49 (lv_at hl 0 rfl) ?_
      refine x_iald hx hb hM 0 19 0 (f := xspl sm b (kCL K k).2) rfl rfl rfl (t := 67 * b + 26 + 1 + 4 * k) (by omega) (by decide) dX9_comeIn_51 ?_
      refine x_cast (y := (kCL K k).2 (26 + 1 + 4 * k)) (xspl_at (j := 26 + 1 + 4 * k) (by omega) (by omega)) ?_
      refine x_cast (y := K (26 + 1 + 4 * k)) (kCL_keep K k (fun i hi => hK.2.2 i (by omega)) _ (by omega)) ?_
      refine x_cast (y := nI (tn (K (26 + 1 + 4 * k)))) (hK.2.2 k (by omega)).1.1 ?_
      refine lv_aload_n hx hb dX9_comeIn_52 rfl (lv_at hl 1 rfl) ?_
      refine x_get hx hb hts iwX9_comeIn_X9 hown hM 0 0 rfl rfl rfl 19 (by decide) (hts _ lkX9_comeIn_64) (fun _ h => h) rfl dX9_comeIn_53 ?_
      refine lv_iload hx hb dX9_comeIn_56 (lv_at hl 0 rfl) ?_
      refine lv_iconst (v := nI 1) hx hb dX9_comeIn_58 (by decide) ?_
      refine x_iadd (x := 67 * b + 26 + 1 + 4 * k) (y := 1) hx hb dX9_comeIn_59 ?_
      refine x_iald hx hb hM 0 19 0 (f := xspl sm b (kCL K k).2) rfl rfl rfl (t := 67 * b + 26 + 1 + 4 * k + 1) (by omega) (by decide) dX9_comeIn_60 ?_
      refine x_cast (y := (kCL K k).2 (26 + 1 + 4 * k + 1)) (xspl_at (j := 26 + 1 + 4 * k + 1) (by omega) (by omega)) ?_
      refine x_cast (y := K (26 + 1 + 4 * k + 1)) (kCL_keep K k (fun i hi => hK.2.2 i (by omega)) _ (by omega)) ?_
      refine x_cast (y := nI (tn (K (26 + 1 + 4 * k + 1)))) (hK.2.2 k (by omega)).2.1 ?_
      refine lv_aload_n hx hb dX9_comeIn_61 rfl (lv_at hl 1 rfl) ?_
      refine x_get hx hb hts iwX9_comeIn_X9 hown hM 0 0 rfl rfl rfl 19 (by decide) (hts _ lkX9_comeIn_64) (fun _ h => h) rfl dX9_comeIn_62 ?_
      refine lv_iload hx hb dX9_comeIn_65 (lv_at hl 0 rfl) ?_
      refine lv_iconst (v := nI 2) hx hb dX9_comeIn_67 (by decide) ?_
      refine x_iadd (x := 67 * b + 26 + 1 + 4 * k) (y := 2) hx hb dX9_comeIn_68 ?_
      refine x_iald hx hb hM 0 19 0 (f := xspl sm b (kCL K k).2) rfl rfl rfl (t := 67 * b + 26 + 1 + 4 * k + 2) (by omega) (by decide) dX9_comeIn_69 ?_
      refine x_cast (y := (kCL K k).2 (26 + 1 + 4 * k + 2)) (xspl_at (j := 26 + 1 + 4 * k + 2) (by omega) (by omega)) ?_
      refine x_cast (y := K (26 + 1 + 4 * k + 2)) (kCL_keep K k (fun i hi => hK.2.2 i (by omega)) _ (by omega)) ?_
      refine x_callv (bc := [w9 q ad σ0 σ1 σ2 σ3 σ4 σ5 σ6 σ7 σ8 σ9 σ10 σ11 σ12 σ13 σ14 σ15 σ16 σ17 σ18 (xspl sm b (kCL K k).2) σ20 σ21 σ22 σ23 σ24 σ25 σ26 σ27 σ28 σ29 σ30]) (br := []) hM [0] [] rfl rfl rfl (by decide) (x_runV (As := [.int (nI b), .int (nI (tn (K (26 + 1 + 4 * k)))), .int (nI (tn (K (26 + 1 + 4 * k + 1)))), .int (K (26 + 1 + 4 * k + 2))]) (rest := []) hfix (c_X9_addPiecesK l D q ad σ0 σ1 σ2 σ3 σ4 σ5 σ6 σ7 σ8 σ9 σ10 σ11 σ12 σ13 σ14 σ15 σ16 σ17 σ18 (xspl sm b (kCL K k).2) σ20 σ21 σ22 σ23 σ24 σ25 σ26 σ27 σ28 σ29 σ30 sm b (kCL K k).2 (tn (K (26 + 1 + 4 * k))) (tn (K (26 + 1 + 4 * k + 1))) (K (26 + 1 + 4 * k + 2)) (by omega) (by omega) (by omega)) (cwV 4 hts gX9_comeIn_X9_addPieces rfl rfl rfl (by decide +kernel) ⟨Nat.le_of_ble_eq_true rfl, Nat.le_of_ble_eq_true rfl⟩) hM [0] rfl rfl 0 0 rfl rfl rfl rfl rfl hl.1 rfl (Nat.le_of_ble_eq_true rfl) dX9_comeIn_70 ⟨Nat.le_of_ble_eq_true rfl, Nat.le_of_ble_eq_true rfl⟩) (fun u H locs hq hM => ?_)
      have hM : xM D (TY q) [w9 q ad σ0 σ1 σ2 σ3 σ4 σ5 σ6 σ7 σ8 σ9 σ10 σ11 σ12 σ13 σ14 σ15 σ16 σ17 σ18 (xspl sm b (kAdd (kCL K k).2 (tn (K (26 + 1 + 4 * k))) (tn (K (26 + 1 + 4 * k + 1))) (K (26 + 1 + 4 * k + 2)))) σ20 σ21 σ22 σ23 σ24 σ25 σ26 σ27 σ28 σ29 σ30] A s.heap s H locs := hM
      refine lv_goto (tgt := 118) hx hb dX9_comeIn_73 (by decide) ?_
      refine lv_iinc (v := nI (k + 1)) (lv' := [(4, .int (nI (k + 1))), (5, .int (nI (67 * b + 26 + 1 + 4 * k))), (0, .ref (ad 0)), (1, .int (nI b)), (2, .int (nI (kCL K k).1)), (3, .int (nI (tn (K 26))))]) hx hb dX9_comeIn_118 hl (k := 5) rfl (x_inc _ 1) (by decide) rfl (fun ls hl => ?_)
      refine lv_goto (tgt := 11) hx hb dX9_comeIn_121 (by decide) ?_
      have e14 : ((xspl sm b (kAdd (kCL K k).2 (tn (K (26 + 1 + 4 * k))) (tn (K (26 + 1 + 4 * k + 1))) (K (26 + 1 + 4 * k + 2)))) : Nat → Int32) = (xspl sm b (kCL K (k + 1)).2) := by (first | (simp only [kCL]; split <;> first | rfl | contradiction) | (rw [show i = 4 by omega]; simp only [kCL]; split <;> first | rfl | contradiction))
      have hM : xM D (TY q) [w9 q ad σ0 σ1 σ2 σ3 σ4 σ5 σ6 σ7 σ8 σ9 σ10 σ11 σ12 σ13 σ14 σ15 σ16 σ17 σ18 (xspl sm b (kCL K (k + 1)).2) σ20 σ21 σ22 σ23 σ24 σ25 σ26 σ27 σ28 σ29 σ30] A s.heap s H locs := Eq.mp (congrArg (fun z9 => xM D (TY q) [w9 q ad σ0 σ1 σ2 σ3 σ4 σ5 σ6 σ7 σ8 σ9 σ10 σ11 σ12 σ13 σ14 σ15 σ16 σ17 σ18 z9 σ20 σ21 σ22 σ23 σ24 σ25 σ26 σ27 σ28 σ29 σ30] A s.heap s H locs) e14) hM
      have hl : lv_has ls 7 [(0, .ref (ad 0)), (1, .int (nI b)), (2, .int (nI (kCL K k).1)), (3, .int (nI (tn (K 26)))), (4, .int (nI (k + 1)))] := lv_sub hl [2, 3, 4, 5, 0] rfl
      have e15 : nI (kCL K k).1 = nI (kCL K (k + 1)).1 := by (simp only [kCL]; split <;> first | rfl | contradiction)
      have hl : lv_has ls 7 [(0, .ref (ad 0)), (1, .int (nI b)), (2, .int (nI (kCL K (k + 1)).1)), (3, .int (nI (tn (K 26)))), (4, .int (nI (k + 1)))] := x_lvset hl 2 rfl (congrArg Value.int e15) rfl
      exact ih2 (k + 1) (show tn (K 26) - (k + 1) < tn (K 26) - k from by omega) (show (k + 1) ≤ tn (K 26) from by omega) _ _ hM _ hl
