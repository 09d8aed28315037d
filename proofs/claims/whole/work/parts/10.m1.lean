theorem dX9_in_0 : decode cX9_in 0 = .ok (.lload_n 0, 1) := by decide +kernel
theorem dX9_in_1 : decode cX9_in 1 = .ok (.lload_n 2, 1) := by decide +kernel
theorem dX9_in_2 : decode cX9_in 2 = .ok (.lcmp, 1) := by decide +kernel
theorem dX9_in_3 : decode cX9_in 3 = .ok (.ifCond .lt 14, 3) := by decide +kernel
theorem dX9_in_6 : decode cX9_in 6 = .ok (.lload_n 0, 1) := by decide +kernel
theorem dX9_in_7 : decode cX9_in 7 = .ok (.lload 4, 2) := by decide +kernel
theorem dX9_in_9 : decode cX9_in 9 = .ok (.lcmp, 1) := by decide +kernel
theorem dX9_in_10 : decode cX9_in 10 = .ok (.ifCond .gt 7, 3) := by decide +kernel
theorem dX9_in_13 : decode cX9_in 13 = .ok (.iconst 1, 1) := by decide +kernel
theorem dX9_in_14 : decode cX9_in 14 = .ok (.goto 4, 3) := by decide +kernel
theorem dX9_in_17 : decode cX9_in 17 = .ok (.iconst 0, 1) := by decide +kernel
theorem dX9_in_18 : decode cX9_in 18 = .ok (.ireturn, 1) := by decide +kernel
set_option maxHeartbeats 4000000 in
set_option maxRecDepth 100000 in
theorem c_X9_in (l : Launch) (D : va_G) (q : Nat → ClassId) (v : Int64) (lo : Int64) (hi : Int64) (x : Int) (a : Int) (b : Int) (h_x : v.toInt = x) (h_a : lo.toInt = a) (h_b : hi.toInt = b) : xC l yX9_in wsX9_in ({ frames := 0, cells := 0, slots := 0, locals := 0 }) D (TY q) [] [.long v, .long lo, .long hi] (xQi D (TY q) (fun (r : Int32) (_ : Unit) => r = zb (a ≤ x ∧ x ≤ b)) (fun _ => [])) 0 0 := by
  refine x_enter (cc := cX9_in) (maxL := 6) (ret := (some .boolean)) (by decide) rfl (Nat.le_of_ble_eq_true rfl) ?_
  intro p e s m below meth c A ls H locs hfix hr hlocks hinit hM hl
  obtain ⟨hx, hb, hml, hown, hts⟩ := id hfix
  have hl : lv_has ls 6 [(0, .long v), (2, .long lo), (4, .long hi)] := hl
  refine lv_lload_n hx hb dX9_in_0 rfl (lv_at hl 0 rfl) ?_
  refine lv_lload_n hx hb dX9_in_1 rfl (lv_at hl 1 rfl) ?_
  refine x_lcmpZ_lt (tgt := 17) hx hb h_x h_a dX9_in_2 dX9_in_3 (by decide) (fun c1 => ?_) (fun c1 => ?_)
  · refine lv_iconst (v := nI 0) hx hb dX9_in_17 (by decide) ?_
    exact x_zret hx hb hr hlocks () hM rfl (show nI 0 = zb (a ≤ x ∧ x ≤ b) from by first | exact zb_t' (by omega) | exact zb_f' (by omega)) dX9_in_18
  · refine lv_lload_n hx hb dX9_in_6 rfl (lv_at hl 0 rfl) ?_
    refine lv_lload hx hb dX9_in_7 (lv_at hl 2 rfl) ?_
    refine x_lcmpZ_gt (tgt := 17) hx hb h_x h_b dX9_in_9 dX9_in_10 (by decide) (fun c2 => ?_) (fun c2 => ?_)
    · refine lv_iconst (v := nI 0) hx hb dX9_in_17 (by decide) ?_
      exact x_zret hx hb hr hlocks () hM rfl (show nI 0 = zb (a ≤ x ∧ x ≤ b) from by first | exact zb_t' (by omega) | exact zb_f' (by omega)) dX9_in_18
    · refine lv_iconst (v := nI 1) hx hb dX9_in_13 (by decide) ?_
      refine lv_goto (tgt := 18) hx hb dX9_in_14 (by decide) ?_
      exact x_zret hx hb hr hlocks () hM rfl (show nI 1 = zb (a ≤ x ∧ x ≤ b) from by first | exact zb_t' (by omega) | exact zb_f' (by omega)) dX9_in_18

theorem dX9_has_0 : decode cX9_has 0 = .ok (.iload_n 0, 1) := by decide +kernel
theorem dX9_has_1 : decode cX9_has 1 = .ok (.iload_n 1, 1) := by decide +kernel
theorem dX9_has_2 : decode cX9_has 2 = .ok (.ishr, 1) := by decide +kernel
theorem dX9_has_3 : decode cX9_has 3 = .ok (.iconst 1, 1) := by decide +kernel
theorem dX9_has_4 : decode cX9_has 4 = .ok (.iand, 1) := by decide +kernel
theorem dX9_has_5 : decode cX9_has 5 = .ok (.iconst 1, 1) := by decide +kernel
theorem dX9_has_6 : decode cX9_has 6 = .ok (.if_icmp .ne 7, 3) := by decide +kernel
theorem dX9_has_9 : decode cX9_has 9 = .ok (.iconst 1, 1) := by decide +kernel
theorem dX9_has_10 : decode cX9_has 10 = .ok (.goto 4, 3) := by decide +kernel
theorem dX9_has_13 : decode cX9_has 13 = .ok (.iconst 0, 1) := by decide +kernel
theorem dX9_has_14 : decode cX9_has 14 = .ok (.ireturn, 1) := by decide +kernel
set_option maxHeartbeats 4000000 in
set_option maxRecDepth 100000 in
theorem c_X9_has (l : Launch) (D : va_G) (q : Nat → ClassId) (set : Nat) (i : Nat) (hs : set < 32) (hi : i < 5) : xC l yX9_has wsX9_has ({ frames := 0, cells := 0, slots := 0, locals := 0 }) D (TY q) [] [.int (nI set), .int (nI i)] (xQi D (TY q) (fun (r : Int32) (_ : Unit) => r = zb (set / 2 ^ i % 2 = 1)) (fun _ => [])) 0 0 := by
  refine x_enter (cc := cX9_has) (maxL := 2) (ret := (some .boolean)) (by decide) rfl (Nat.le_of_ble_eq_true rfl) ?_
  intro p e s m below meth c A ls H locs hfix hr hlocks hinit hM hl
  obtain ⟨hx, hb, hml, hown, hts⟩ := id hfix
  have hl : lv_has ls 2 [(0, .int (nI set)), (1, .int (nI i))] := hl
  refine lv_iload_n hx hb dX9_has_0 rfl (lv_at hl 0 rfl) ?_
  refine lv_iload_n hx hb dX9_has_1 rfl (lv_at hl 1 rfl) ?_
  refine lv_ishr hx hb dX9_has_2 ?_
  refine x_cast (y := nI (set / 2 ^ i)) (x_shr hs hi) ?_
  refine lv_iconst (v := nI 1) hx hb dX9_has_3 (by decide) ?_
  refine lv_iand hx hb dX9_has_4 ?_
  refine x_cast (y := nI (set / 2 ^ i % 2)) (x_and1 (Nat.lt_of_le_of_lt (Nat.div_le_self _ _) hs)) ?_
  refine lv_iconst (v := nI 1) hx hb dX9_has_5 (by decide) ?_
  refine x_icmp_ne (x := set / 2 ^ i % 2) (y := 1) (tgt := 13) hx hb (by omega) (by omega) dX9_has_6 (by decide) (fun c1 => ?_) (fun c1 => ?_)
  · refine lv_iconst (v := nI 0) hx hb dX9_has_13 (by decide) ?_
    exact x_zret hx hb hr hlocks () hM rfl (show nI 0 = zb (set / 2 ^ i % 2 = 1) from by first | exact zb_t' (by omega) | exact zb_f' (by omega)) dX9_has_14
  · refine lv_iconst (v := nI 1) hx hb dX9_has_9 (by decide) ?_
    refine lv_goto (tgt := 14) hx hb dX9_has_10 (by decide) ?_
    exact x_zret hx hb hr hlocks () hM rfl (show nI 1 = zb (set / 2 ^ i % 2 = 1) from by first | exact zb_t' (by omega) | exact zb_f' (by omega)) dX9_has_14

theorem dX9_pieces_0 : decode cX9_pieces 0 = .ok (.aload_n 0, 1) := by decide +kernel
theorem dX9_pieces_1 : decode cX9_pieces 1 = .ok (.getfield 64, 3) := by decide +kernel
theorem dX9_pieces_4 : decode cX9_pieces 4 = .ok (.bipush 67, 2) := by decide +kernel
theorem dX9_pieces_6 : decode cX9_pieces 6 = .ok (.iload_n 1, 1) := by decide +kernel
theorem dX9_pieces_7 : decode cX9_pieces 7 = .ok (.imul, 1) := by decide +kernel
theorem dX9_pieces_8 : decode cX9_pieces 8 = .ok (.iconst 5, 1) := by decide +kernel
theorem dX9_pieces_9 : decode cX9_pieces 9 = .ok (.iload_n 2, 1) := by decide +kernel
theorem dX9_pieces_10 : decode cX9_pieces 10 = .ok (.imul, 1) := by decide +kernel
theorem dX9_pieces_11 : decode cX9_pieces 11 = .ok (.iadd, 1) := by decide +kernel
theorem dX9_pieces_12 : decode cX9_pieces 12 = .ok (.iload_n 3, 1) := by decide +kernel
theorem dX9_pieces_13 : decode cX9_pieces 13 = .ok (.iadd, 1) := by decide +kernel
theorem dX9_pieces_14 : decode cX9_pieces 14 = .ok (.iaload, 1) := by decide +kernel
theorem dX9_pieces_15 : decode cX9_pieces 15 = .ok (.ireturn, 1) := by decide +kernel
theorem lkX9_pieces_64 : Cond.fieldLink RX9 64 "LeftAtFiveModel" "s" "[I" ∈ wsX9_pieces := by decide +kernel
theorem iwX9_pieces_X9 : ∀ w ∈ wsX90, w ∈ wsX9_pieces := by decide +kernel
set_option maxHeartbeats 4000000 in
set_option maxRecDepth 100000 in
theorem c_X9_pieces (l : Launch) (D : va_G) (q : Nat → ClassId) (ad : Nat → Nat) (σ0 : Int32) (σ1 : Nat → Int32) (σ2 : Nat → Int32) (σ3 : Nat → Int32) (σ4 : Nat → Int32) (σ5 : Nat → Int32) (σ6 : Nat → Int32) (σ7 : Nat → Int32) (σ8 : Nat → Int32) (σ9 : Nat → Int32) (σ10 : Nat → Int32) (σ11 : Nat → Int32) (σ12 : Nat → Int32) (σ13 : Nat → Int32) (σ14 : Nat → Int32) (σ15 : Nat → Int32) (σ16 : Nat → Int32) (σ17 : Nat → Int32) (σ18 : Nat → Int32) (σ19 : Nat → Int32) (σ20 : Int32) (σ21 : Int32) (σ22 : Int32) (σ23 : Nat → Int32) (σ24 : Int32) (σ25 : Int32) (σ26 : Nat → Int32) (σ27 : Nat → Int32) (σ28 : Nat → Int32) (σ29 : Nat → Int32) (σ30 : Nat → Int32) (b : Nat) (h : Nat) (g : Nat) (hb0 : b < 13) (hh0 : h < 5) (hg0 : g < 5) : xC l yX9_pieces wsX9_pieces ({ frames := 0, cells := 0, slots := 0, locals := 0 }) D (TY q) [w9 q ad σ0 σ1 σ2 σ3 σ4 σ5 σ6 σ7 σ8 σ9 σ10 σ11 σ12 σ13 σ14 σ15 σ16 σ17 σ18 σ19 σ20 σ21 σ22 σ23 σ24 σ25 σ26 σ27 σ28 σ29 σ30] [.ref (ad 0), .int (nI b), .int (nI h), .int (nI g)] (xQi D (TY q) (fun (r : Int32) (_ : Unit) => r = σ19 (67 * b + 5 * h + g)) (fun _ => [w9 q ad σ0 σ1 σ2 σ3 σ4 σ5 σ6 σ7 σ8 σ9 σ10 σ11 σ12 σ13 σ14 σ15 σ16 σ17 σ18 σ19 σ20 σ21 σ22 σ23 σ24 σ25 σ26 σ27 σ28 σ29 σ30])) 0 0 := by
  refine x_enter (cc := cX9_pieces) (maxL := 4) (ret := (some .int)) (by decide) rfl (Nat.le_of_ble_eq_true rfl) ?_
  intro p e s m below meth c A ls H locs hfix hr hlocks hinit hM hl
  obtain ⟨hx, hb, hml, hown, hts⟩ := id hfix
  have hl : lv_has ls 4 [(0, .ref (ad 0)), (1, .int (nI b)), (2, .int (nI h)), (3, .int (nI g))] := hl
  refine lv_aload_n hx hb dX9_pieces_0 rfl (lv_at hl 0 rfl) ?_
  refine x_get hx hb hts iwX9_pieces_X9 hown hM 0 0 rfl rfl rfl 19 (by decide) (hts _ lkX9_pieces_64) (fun _ h => h) rfl dX9_pieces_1 ?_
  refine lv_bipush (v := nI 67) hx hb dX9_pieces_4 (by decide) ?_
  refine lv_iload_n hx hb dX9_pieces_6 rfl (lv_at hl 1 rfl) ?_
  refine x_imul (x := 67) (y := b) hx hb dX9_pieces_7 ?_
  refine lv_iconst (v := nI 5) hx hb dX9_pieces_8 (by decide) ?_
  refine lv_iload_n hx hb dX9_pieces_9 rfl (lv_at hl 2 rfl) ?_
  refine x_imul (x := 5) (y := h) hx hb dX9_pieces_10 ?_
  refine x_iadd (x := 67 * b) (y := 5 * h) hx hb dX9_pieces_11 ?_
  refine lv_iload_n hx hb dX9_pieces_12 rfl (lv_at hl 3 rfl) ?_
  refine x_iadd (x := 67 * b + (5 * h)) (y := g) hx hb dX9_pieces_13 ?_
  refine x_iald hx hb hM 0 19 0 (f := σ19) rfl rfl rfl (t := 67 * b + (5 * h) + g) (by omega) (by decide) dX9_pieces_14 ?_
  exact x_iret hx hb hr hlocks () hM (show σ19 (67 * b + (5 * h) + g) = σ19 (67 * b + 5 * h + g) from by rfl) dX9_pieces_15

theorem dX9_addPieces_0 : decode cX9_addPieces 0 = .ok (.aload_n 0, 1) := by decide +kernel
theorem dX9_addPieces_1 : decode cX9_addPieces 1 = .ok (.getfield 64, 3) := by decide +kernel
theorem dX9_addPieces_4 : decode cX9_addPieces 4 = .ok (.bipush 67, 2) := by decide +kernel
theorem dX9_addPieces_6 : decode cX9_addPieces 6 = .ok (.iload_n 1, 1) := by decide +kernel
theorem dX9_addPieces_7 : decode cX9_addPieces 7 = .ok (.imul, 1) := by decide +kernel
theorem dX9_addPieces_8 : decode cX9_addPieces 8 = .ok (.iconst 5, 1) := by decide +kernel
theorem dX9_addPieces_9 : decode cX9_addPieces 9 = .ok (.iload_n 2, 1) := by decide +kernel
theorem dX9_addPieces_10 : decode cX9_addPieces 10 = .ok (.imul, 1) := by decide +kernel
theorem dX9_addPieces_11 : decode cX9_addPieces 11 = .ok (.iadd, 1) := by decide +kernel
theorem dX9_addPieces_12 : decode cX9_addPieces 12 = .ok (.iload_n 3, 1) := by decide +kernel
theorem dX9_addPieces_13 : decode cX9_addPieces 13 = .ok (.iadd, 1) := by decide +kernel
theorem dX9_addPieces_14 : decode cX9_addPieces 14 = .ok (.dup2, 1) := by decide +kernel
theorem dX9_addPieces_15 : decode cX9_addPieces 15 = .ok (.iaload, 1) := by decide +kernel
theorem dX9_addPieces_16 : decode cX9_addPieces 16 = .ok (.iload 4, 2) := by decide +kernel
theorem dX9_addPieces_18 : decode cX9_addPieces 18 = .ok (.iadd, 1) := by decide +kernel
theorem dX9_addPieces_19 : decode cX9_addPieces 19 = .ok (.iastore, 1) := by decide +kernel
theorem dX9_addPieces_20 : decode cX9_addPieces 20 = .ok (.return_, 1) := by decide +kernel
theorem lkX9_addPieces_64 : Cond.fieldLink RX9 64 "LeftAtFiveModel" "s" "[I" ∈ wsX9_addPieces := by decide +kernel
theorem iwX9_addPieces_X9 : ∀ w ∈ wsX90, w ∈ wsX9_addPieces := by decide +kernel
set_option maxHeartbeats 4000000 in
set_option maxRecDepth 100000 in
theorem c_X9_addPieces (l : Launch) (D : va_G) (q : Nat → ClassId) (ad : Nat → Nat) (σ0 : Int32) (σ1 : Nat → Int32) (σ2 : Nat → Int32) (σ3 : Nat → Int32) (σ4 : Nat → Int32) (σ5 : Nat → Int32) (σ6 : Nat → Int32) (σ7 : Nat → Int32) (σ8 : Nat → Int32) (σ9 : Nat → Int32) (σ10 : Nat → Int32) (σ11 : Nat → Int32) (σ12 : Nat → Int32) (σ13 : Nat → Int32) (σ14 : Nat → Int32) (σ15 : Nat → Int32) (σ16 : Nat → Int32) (σ17 : Nat → Int32) (σ18 : Nat → Int32) (σ19 : Nat → Int32) (σ20 : Int32) (σ21 : Int32) (σ22 : Int32) (σ23 : Nat → Int32) (σ24 : Int32) (σ25 : Int32) (σ26 : Nat → Int32) (σ27 : Nat → Int32) (σ28 : Nat → Int32) (σ29 : Nat → Int32) (σ30 : Nat → Int32) (b : Nat) (h : Nat) (g : Nat) (n : Int32) (hb0 : b < 13) (hh0 : h < 5) (hg0 : g < 5) : xC l yX9_addPieces wsX9_addPieces ({ frames := 0, cells := 0, slots := 0, locals := 0 }) D (TY q) [w9 q ad σ0 σ1 σ2 σ3 σ4 σ5 σ6 σ7 σ8 σ9 σ10 σ11 σ12 σ13 σ14 σ15 σ16 σ17 σ18 σ19 σ20 σ21 σ22 σ23 σ24 σ25 σ26 σ27 σ28 σ29 σ30] [.ref (ad 0), .int (nI b), .int (nI h), .int (nI g), .int n] (xQv D (TY q) (fun (_ : Unit) => True) (fun _ => [w9 q ad σ0 σ1 σ2 σ3 σ4 σ5 σ6 σ7 σ8 σ9 σ10 σ11 σ12 σ13 σ14 σ15 σ16 σ17 σ18 (upd σ19 (67 * b + 5 * h + g) (σ19 (67 * b + 5 * h + g) + n)) σ20 σ21 σ22 σ23 σ24 σ25 σ26 σ27 σ28 σ29 σ30])) 0 0 := by
  refine x_enter (cc := cX9_addPieces) (maxL := 5) (ret := none) (by decide) rfl (Nat.le_of_ble_eq_true rfl) ?_
  intro p e s m below meth c A ls H locs hfix hr hlocks hinit hM hl
  obtain ⟨hx, hb, hml, hown, hts⟩ := id hfix
  have hl : lv_has ls 5 [(0, .ref (ad 0)), (1, .int (nI b)), (2, .int (nI h)), (3, .int (nI g)), (4, .int n)] := hl
  refine lv_aload_n hx hb dX9_addPieces_0 rfl (lv_at hl 0 rfl) ?_
  refine x_get hx hb hts iwX9_addPieces_X9 hown hM 0 0 rfl rfl rfl 19 (by decide) (hts _ lkX9_addPieces_64) (fun _ h => h) rfl dX9_addPieces_1 ?_
  refine lv_bipush (v := nI 67) hx hb dX9_addPieces_4 (by decide) ?_
  refine lv_iload_n hx hb dX9_addPieces_6 rfl (lv_at hl 1 rfl) ?_
  refine x_imul (x := 67) (y := b) hx hb dX9_addPieces_7 ?_
  refine lv_iconst (v := nI 5) hx hb dX9_addPieces_8 (by decide) ?_
  refine lv_iload_n hx hb dX9_addPieces_9 rfl (lv_at hl 2 rfl) ?_
  refine x_imul (x := 5) (y := h) hx hb dX9_addPieces_10 ?_
  refine x_iadd (x := 67 * b) (y := 5 * h) hx hb dX9_addPieces_11 ?_
  refine lv_iload_n hx hb dX9_addPieces_12 rfl (lv_at hl 3 rfl) ?_
  refine x_iadd (x := 67 * b + (5 * h)) (y := g) hx hb dX9_addPieces_13 ?_
  refine lv_dup2_11 hx hb dX9_addPieces_14 rfl rfl ?_
  refine x_iald hx hb hM 0 19 0 (f := σ19) rfl rfl rfl (t := 67 * b + (5 * h) + g) (by omega) (by decide) dX9_addPieces_15 ?_
  refine lv_iload hx hb dX9_addPieces_16 (lv_at hl 4 rfl) ?_
  refine lv_iadd hx hb dX9_addPieces_18 ?_
  refine x_iast hx hb hM 0 19 0 (f := σ19) rfl rfl rfl (t := 67 * b + (5 * h) + g) (x := (σ19 (67 * b + (5 * h) + g)) + n) (by omega) (by decide) [w9 q ad σ0 σ1 σ2 σ3 σ4 σ5 σ6 σ7 σ8 σ9 σ10 σ11 σ12 σ13 σ14 σ15 σ16 σ17 σ18 (upd σ19 (67 * b + (5 * h) + g) ((σ19 (67 * b + (5 * h) + g)) + n)) σ20 σ21 σ22 σ23 σ24 σ25 σ26 σ27 σ28 σ29 σ30] rfl dX9_addPieces_19 (fun H locs hM => ?_)
  have e1 : ((upd σ19 (67 * b + (5 * h) + g) ((σ19 (67 * b + (5 * h) + g)) + n)) : Nat → Int32) = (upd σ19 (67 * b + 5 * h + g) (σ19 (67 * b + 5 * h + g) + n)) := by rfl
  have hM : xM D (TY q) [w9 q ad σ0 σ1 σ2 σ3 σ4 σ5 σ6 σ7 σ8 σ9 σ10 σ11 σ12 σ13 σ14 σ15 σ16 σ17 σ18 (upd σ19 (67 * b + 5 * h + g) (σ19 (67 * b + 5 * h + g) + n)) σ20 σ21 σ22 σ23 σ24 σ25 σ26 σ27 σ28 σ29 σ30] A s.heap s H locs := Eq.mp (congrArg (fun z9 => xM D (TY q) [w9 q ad σ0 σ1 σ2 σ3 σ4 σ5 σ6 σ7 σ8 σ9 σ10 σ11 σ12 σ13 σ14 σ15 σ16 σ17 σ18 z9 σ20 σ21 σ22 σ23 σ24 σ25 σ26 σ27 σ28 σ29 σ30] A s.heap s H locs) e1) hM
  exact x_vret hx hb hr hlocks () hM trivial dX9_addPieces_20

theorem dX9_minuteOf_0 : decode cX9_minuteOf 0 = .ok (.aload_n 0, 1) := by decide +kernel
theorem dX9_minuteOf_1 : decode cX9_minuteOf 1 = .ok (.getfield 64, 3) := by decide +kernel
theorem dX9_minuteOf_4 : decode cX9_minuteOf 4 = .ok (.bipush 67, 2) := by decide +kernel
theorem dX9_minuteOf_6 : decode cX9_minuteOf 6 = .ok (.iload_n 1, 1) := by decide +kernel
theorem dX9_minuteOf_7 : decode cX9_minuteOf 7 = .ok (.imul, 1) := by decide +kernel
theorem dX9_minuteOf_8 : decode cX9_minuteOf 8 = .ok (.bipush 25, 2) := by decide +kernel
theorem dX9_minuteOf_10 : decode cX9_minuteOf 10 = .ok (.iadd, 1) := by decide +kernel
theorem dX9_minuteOf_11 : decode cX9_minuteOf 11 = .ok (.iaload, 1) := by decide +kernel
theorem dX9_minuteOf_12 : decode cX9_minuteOf 12 = .ok (.ireturn, 1) := by decide +kernel
theorem lkX9_minuteOf_64 : Cond.fieldLink RX9 64 "LeftAtFiveModel" "s" "[I" ∈ wsX9_minuteOf := by decide +kernel
theorem iwX9_minuteOf_X9 : ∀ w ∈ wsX90, w ∈ wsX9_minuteOf := by decide +kernel
set_option maxHeartbeats 4000000 in
set_option maxRecDepth 100000 in
theorem c_X9_minuteOf (l : Launch) (D : va_G) (q : Nat → ClassId) (ad : Nat → Nat) (σ0 : Int32) (σ1 : Nat → Int32) (σ2 : Nat → Int32) (σ3 : Nat → Int32) (σ4 : Nat → Int32) (σ5 : Nat → Int32) (σ6 : Nat → Int32) (σ7 : Nat → Int32) (σ8 : Nat → Int32) (σ9 : Nat → Int32) (σ10 : Nat → Int32) (σ11 : Nat → Int32) (σ12 : Nat → Int32) (σ13 : Nat → Int32) (σ14 : Nat → Int32) (σ15 : Nat → Int32) (σ16 : Nat → Int32) (σ17 : Nat → Int32) (σ18 : Nat → Int32) (σ19 : Nat → Int32) (σ20 : Int32) (σ21 : Int32) (σ22 : Int32) (σ23 : Nat → Int32) (σ24 : Int32) (σ25 : Int32) (σ26 : Nat → Int32) (σ27 : Nat → Int32) (σ28 : Nat → Int32) (σ29 : Nat → Int32) (σ30 : Nat → Int32) (b : Nat) (hb0 : b < 13) : xC l yX9_minuteOf wsX9_minuteOf ({ frames := 0, cells := 0, slots := 0, locals := 0 }) D (TY q) [w9 q ad σ0 σ1 σ2 σ3 σ4 σ5 σ6 σ7 σ8 σ9 σ10 σ11 σ12 σ13 σ14 σ15 σ16 σ17 σ18 σ19 σ20 σ21 σ22 σ23 σ24 σ25 σ26 σ27 σ28 σ29 σ30] [.ref (ad 0), .int (nI b)] (xQi D (TY q) (fun (r : Int32) (_ : Unit) => r = σ19 (67 * b + 25)) (fun _ => [w9 q ad σ0 σ1 σ2 σ3 σ4 σ5 σ6 σ7 σ8 σ9 σ10 σ11 σ12 σ13 σ14 σ15 σ16 σ17 σ18 σ19 σ20 σ21 σ22 σ23 σ24 σ25 σ26 σ27 σ28 σ29 σ30])) 0 0 := by
  refine x_enter (cc := cX9_minuteOf) (maxL := 2) (ret := (some .int)) (by decide) rfl (Nat.le_of_ble_eq_true rfl) ?_
  intro p e s m below meth c A ls H locs hfix hr hlocks hinit hM hl
  obtain ⟨hx, hb, hml, hown, hts⟩ := id hfix
  have hl : lv_has ls 2 [(0, .ref (ad 0)), (1, .int (nI b))] := hl
  refine lv_aload_n hx hb dX9_minuteOf_0 rfl (lv_at hl 0 rfl) ?_
  refine x_get hx hb hts iwX9_minuteOf_X9 hown hM 0 0 rfl rfl rfl 19 (by decide) (hts _ lkX9_minuteOf_64) (fun _ h => h) rfl dX9_minuteOf_1 ?_
  refine lv_bipush (v := nI 67) hx hb dX9_minuteOf_4 (by decide) ?_
  refine lv_iload_n hx hb dX9_minuteOf_6 rfl (lv_at hl 1 rfl) ?_
  refine x_imul (x := 67) (y := b) hx hb dX9_minuteOf_7 ?_
  refine lv_bipush (v := nI 25) hx hb dX9_minuteOf_8 (by decide) ?_
  refine x_iadd (x := 67 * b) (y := 25) hx hb dX9_minuteOf_10 ?_
  refine x_iald hx hb hM 0 19 0 (f := σ19) rfl rfl rfl (t := 67 * b + 25) (by omega) (by decide) dX9_minuteOf_11 ?_
  exact x_iret hx hb hr hlocks () hM (show σ19 (67 * b + 25) = σ19 (67 * b + 25) from rfl) dX9_minuteOf_12

theorem dX9_giftsOf_0 : decode cX9_giftsOf 0 = .ok (.aload_n 0, 1) := by decide +kernel
theorem dX9_giftsOf_1 : decode cX9_giftsOf 1 = .ok (.getfield 64, 3) := by decide +kernel
theorem dX9_giftsOf_4 : decode cX9_giftsOf 4 = .ok (.bipush 67, 2) := by decide +kernel
theorem dX9_giftsOf_6 : decode cX9_giftsOf 6 = .ok (.iload_n 1, 1) := by decide +kernel
theorem dX9_giftsOf_7 : decode cX9_giftsOf 7 = .ok (.imul, 1) := by decide +kernel
theorem dX9_giftsOf_8 : decode cX9_giftsOf 8 = .ok (.bipush 26, 2) := by decide +kernel
theorem dX9_giftsOf_10 : decode cX9_giftsOf 10 = .ok (.iadd, 1) := by decide +kernel
theorem dX9_giftsOf_11 : decode cX9_giftsOf 11 = .ok (.iaload, 1) := by decide +kernel
theorem dX9_giftsOf_12 : decode cX9_giftsOf 12 = .ok (.ireturn, 1) := by decide +kernel
theorem lkX9_giftsOf_64 : Cond.fieldLink RX9 64 "LeftAtFiveModel" "s" "[I" ∈ wsX9_giftsOf := by decide +kernel
theorem iwX9_giftsOf_X9 : ∀ w ∈ wsX90, w ∈ wsX9_giftsOf := by decide +kernel
set_option maxHeartbeats 4000000 in
set_option maxRecDepth 100000 in
theorem c_X9_giftsOf (l : Launch) (D : va_G) (q : Nat → ClassId) (ad : Nat → Nat) (σ0 : Int32) (σ1 : Nat → Int32) (σ2 : Nat → Int32) (σ3 : Nat → Int32) (σ4 : Nat → Int32) (σ5 : Nat → Int32) (σ6 : Nat → Int32) (σ7 : Nat → Int32) (σ8 : Nat → Int32) (σ9 : Nat → Int32) (σ10 : Nat → Int32) (σ11 : Nat → Int32) (σ12 : Nat → Int32) (σ13 : Nat → Int32) (σ14 : Nat → Int32) (σ15 : Nat → Int32) (σ16 : Nat → Int32) (σ17 : Nat → Int32) (σ18 : Nat → Int32) (σ19 : Nat → Int32) (σ20 : Int32) (σ21 : Int32) (σ22 : Int32) (σ23 : Nat → Int32) (σ24 : Int32) (σ25 : Int32) (σ26 : Nat → Int32) (σ27 : Nat → Int32) (σ28 : Nat → Int32) (σ29 : Nat → Int32) (σ30 : Nat → Int32) (b : Nat) (hb0 : b < 13) : xC l yX9_giftsOf wsX9_giftsOf ({ frames := 0, cells := 0, slots := 0, locals := 0 }) D (TY q) [w9 q ad σ0 σ1 σ2 σ3 σ4 σ5 σ6 σ7 σ8 σ9 σ10 σ11 σ12 σ13 σ14 σ15 σ16 σ17 σ18 σ19 σ20 σ21 σ22 σ23 σ24 σ25 σ26 σ27 σ28 σ29 σ30] [.ref (ad 0), .int (nI b)] (xQi D (TY q) (fun (r : Int32) (_ : Unit) => r = σ19 (67 * b + 26)) (fun _ => [w9 q ad σ0 σ1 σ2 σ3 σ4 σ5 σ6 σ7 σ8 σ9 σ10 σ11 σ12 σ13 σ14 σ15 σ16 σ17 σ18 σ19 σ20 σ21 σ22 σ23 σ24 σ25 σ26 σ27 σ28 σ29 σ30])) 0 0 := by
  refine x_enter (cc := cX9_giftsOf) (maxL := 2) (ret := (some .int)) (by decide) rfl (Nat.le_of_ble_eq_true rfl) ?_
  intro p e s m below meth c A ls H locs hfix hr hlocks hinit hM hl
  obtain ⟨hx, hb, hml, hown, hts⟩ := id hfix
  have hl : lv_has ls 2 [(0, .ref (ad 0)), (1, .int (nI b))] := hl
  refine lv_aload_n hx hb dX9_giftsOf_0 rfl (lv_at hl 0 rfl) ?_
  refine x_get hx hb hts iwX9_giftsOf_X9 hown hM 0 0 rfl rfl rfl 19 (by decide) (hts _ lkX9_giftsOf_64) (fun _ h => h) rfl dX9_giftsOf_1 ?_
  refine lv_bipush (v := nI 67) hx hb dX9_giftsOf_4 (by decide) ?_
  refine lv_iload_n hx hb dX9_giftsOf_6 rfl (lv_at hl 1 rfl) ?_
  refine x_imul (x := 67) (y := b) hx hb dX9_giftsOf_7 ?_
  refine lv_bipush (v := nI 26) hx hb dX9_giftsOf_8 (by decide) ?_
  refine x_iadd (x := 67 * b) (y := 26) hx hb dX9_giftsOf_10 ?_
  refine x_iald hx hb hM 0 19 0 (f := σ19) rfl rfl rfl (t := 67 * b + 26) (by omega) (by decide) dX9_giftsOf_11 ?_
  exact x_iret hx hb hr hlocks () hM (show σ19 (67 * b + 26) = σ19 (67 * b + 26) from rfl) dX9_giftsOf_12

theorem dX9_giftAt_0 : decode cX9_giftAt 0 = .ok (.bipush 67, 2) := by decide +kernel
theorem dX9_giftAt_2 : decode cX9_giftAt 2 = .ok (.iload_n 1, 1) := by decide +kernel
theorem dX9_giftAt_3 : decode cX9_giftAt 3 = .ok (.imul, 1) := by decide +kernel
theorem dX9_giftAt_4 : decode cX9_giftAt 4 = .ok (.bipush 26, 2) := by decide +kernel
theorem dX9_giftAt_6 : decode cX9_giftAt 6 = .ok (.iadd, 1) := by decide +kernel
theorem dX9_giftAt_7 : decode cX9_giftAt 7 = .ok (.iconst 1, 1) := by decide +kernel
theorem dX9_giftAt_8 : decode cX9_giftAt 8 = .ok (.iadd, 1) := by decide +kernel
theorem dX9_giftAt_9 : decode cX9_giftAt 9 = .ok (.iconst 4, 1) := by decide +kernel
theorem dX9_giftAt_10 : decode cX9_giftAt 10 = .ok (.iload_n 2, 1) := by decide +kernel
theorem dX9_giftAt_11 : decode cX9_giftAt 11 = .ok (.imul, 1) := by decide +kernel
theorem dX9_giftAt_12 : decode cX9_giftAt 12 = .ok (.iadd, 1) := by decide +kernel
theorem dX9_giftAt_13 : decode cX9_giftAt 13 = .ok (.ireturn, 1) := by decide +kernel
set_option maxHeartbeats 4000000 in
set_option maxRecDepth 100000 in
theorem c_X9_giftAt (l : Launch) (D : va_G) (q : Nat → ClassId) (ad : Nat → Nat) (σ0 : Int32) (σ1 : Nat → Int32) (σ2 : Nat → Int32) (σ3 : Nat → Int32) (σ4 : Nat → Int32) (σ5 : Nat → Int32) (σ6 : Nat → Int32) (σ7 : Nat → Int32) (σ8 : Nat → Int32) (σ9 : Nat → Int32) (σ10 : Nat → Int32) (σ11 : Nat → Int32) (σ12 : Nat → Int32) (σ13 : Nat → Int32) (σ14 : Nat → Int32) (σ15 : Nat → Int32) (σ16 : Nat → Int32) (σ17 : Nat → Int32) (σ18 : Nat → Int32) (σ19 : Nat → Int32) (σ20 : Int32) (σ21 : Int32) (σ22 : Int32) (σ23 : Nat → Int32) (σ24 : Int32) (σ25 : Int32) (σ26 : Nat → Int32) (σ27 : Nat → Int32) (σ28 : Nat → Int32) (σ29 : Nat → Int32) (σ30 : Nat → Int32) (b : Nat) (k : Nat) : xC l yX9_giftAt wsX9_giftAt ({ frames := 0, cells := 0, slots := 0, locals := 0 }) D (TY q) [w9 q ad σ0 σ1 σ2 σ3 σ4 σ5 σ6 σ7 σ8 σ9 σ10 σ11 σ12 σ13 σ14 σ15 σ16 σ17 σ18 σ19 σ20 σ21 σ22 σ23 σ24 σ25 σ26 σ27 σ28 σ29 σ30] [.ref (ad 0), .int (nI b), .int (nI k)] (xQi D (TY q) (fun (r : Int32) (_ : Unit) => r = nI (67 * b + 26 + 1 + 4 * k)) (fun _ => [w9 q ad σ0 σ1 σ2 σ3 σ4 σ5 σ6 σ7 σ8 σ9 σ10 σ11 σ12 σ13 σ14 σ15 σ16 σ17 σ18 σ19 σ20 σ21 σ22 σ23 σ24 σ25 σ26 σ27 σ28 σ29 σ30])) 0 0 := by
  refine x_enter (cc := cX9_giftAt) (maxL := 3) (ret := (some .int)) (by decide) rfl (Nat.le_of_ble_eq_true rfl) ?_
  intro p e s m below meth c A ls H locs hfix hr hlocks hinit hM hl
  obtain ⟨hx, hb, hml, hown, hts⟩ := id hfix
  have hl : lv_has ls 3 [(0, .ref (ad 0)), (1, .int (nI b)), (2, .int (nI k))] := hl
  refine lv_bipush (v := nI 67) hx hb dX9_giftAt_0 (by decide) ?_
  refine lv_iload_n hx hb dX9_giftAt_2 rfl (lv_at hl 1 rfl) ?_
  refine x_imul (x := 67) (y := b) hx hb dX9_giftAt_3 ?_
  refine lv_bipush (v := nI 26) hx hb dX9_giftAt_4 (by decide) ?_
  refine x_iadd (x := 67 * b) (y := 26) hx hb dX9_giftAt_6 ?_
  refine lv_iconst (v := nI 1) hx hb dX9_giftAt_7 (by decide) ?_
  refine x_iadd (x := 67 * b + 26) (y := 1) hx hb dX9_giftAt_8 ?_
  refine lv_iconst (v := nI 4) hx hb dX9_giftAt_9 (by decide) ?_
  refine lv_iload_n hx hb dX9_giftAt_10 rfl (lv_at hl 2 rfl) ?_
  refine x_imul (x := 4) (y := k) hx hb dX9_giftAt_11 ?_
  refine x_iadd (x := 67 * b + 26 + 1) (y := 4 * k) hx hb dX9_giftAt_12 ?_
  exact x_iret hx hb hr hlocks () hM (show nI (67 * b + 26 + 1 + (4 * k)) = nI (67 * b + 26 + 1 + 4 * k) from by rfl) dX9_giftAt_13

theorem dX9_apart_0 : decode cX9_apart 0 = .ok (.iload_n 1, 1) := by decide +kernel
theorem dX9_apart_1 : decode cX9_apart 1 = .ok (.iload_n 2, 1) := by decide +kernel
theorem dX9_apart_2 : decode cX9_apart 2 = .ok (.if_icmp .ge 9, 3) := by decide +kernel
theorem dX9_apart_5 : decode cX9_apart 5 = .ok (.iload_n 2, 1) := by decide +kernel
theorem dX9_apart_6 : decode cX9_apart 6 = .ok (.iload_n 1, 1) := by decide +kernel
theorem dX9_apart_7 : decode cX9_apart 7 = .ok (.isub, 1) := by decide +kernel
theorem dX9_apart_8 : decode cX9_apart 8 = .ok (.goto 6, 3) := by decide +kernel
theorem dX9_apart_11 : decode cX9_apart 11 = .ok (.iload_n 1, 1) := by decide +kernel
theorem dX9_apart_12 : decode cX9_apart 12 = .ok (.iload_n 2, 1) := by decide +kernel
theorem dX9_apart_13 : decode cX9_apart 13 = .ok (.isub, 1) := by decide +kernel
theorem dX9_apart_14 : decode cX9_apart 14 = .ok (.ireturn, 1) := by decide +kernel
set_option maxHeartbeats 4000000 in
set_option maxRecDepth 100000 in
theorem c_X9_apart (l : Launch) (D : va_G) (q : Nat → ClassId) (ad : Nat → Nat) (σ0 : Int32) (σ1 : Nat → Int32) (σ2 : Nat → Int32) (σ3 : Nat → Int32) (σ4 : Nat → Int32) (σ5 : Nat → Int32) (σ6 : Nat → Int32) (σ7 : Nat → Int32) (σ8 : Nat → Int32) (σ9 : Nat → Int32) (σ10 : Nat → Int32) (σ11 : Nat → Int32) (σ12 : Nat → Int32) (σ13 : Nat → Int32) (σ14 : Nat → Int32) (σ15 : Nat → Int32) (σ16 : Nat → Int32) (σ17 : Nat → Int32) (σ18 : Nat → Int32) (σ19 : Nat → Int32) (σ20 : Int32) (σ21 : Int32) (σ22 : Int32) (σ23 : Nat → Int32) (σ24 : Int32) (σ25 : Int32) (σ26 : Nat → Int32) (σ27 : Nat → Int32) (σ28 : Nat → Int32) (σ29 : Nat → Int32) (σ30 : Nat → Int32) (x : Int32) (y : Int32) : xC l yX9_apart wsX9_apart ({ frames := 0, cells := 0, slots := 0, locals := 0 }) D (TY q) [w9 q ad σ0 σ1 σ2 σ3 σ4 σ5 σ6 σ7 σ8 σ9 σ10 σ11 σ12 σ13 σ14 σ15 σ16 σ17 σ18 σ19 σ20 σ21 σ22 σ23 σ24 σ25 σ26 σ27 σ28 σ29 σ30] [.ref (ad 0), .int x, .int y] (xQi D (TY q) (fun (r : Int32) (_ : Unit) => r = xap x y) (fun _ => [w9 q ad σ0 σ1 σ2 σ3 σ4 σ5 σ6 σ7 σ8 σ9 σ10 σ11 σ12 σ13 σ14 σ15 σ16 σ17 σ18 σ19 σ20 σ21 σ22 σ23 σ24 σ25 σ26 σ27 σ28 σ29 σ30])) 0 0 := by
  refine x_enter (cc := cX9_apart) (maxL := 3) (ret := (some .int)) (by decide) rfl (Nat.le_of_ble_eq_true rfl) ?_
  intro p e s m below meth c A ls H locs hfix hr hlocks hinit hM hl
  obtain ⟨hx, hb, hml, hown, hts⟩ := id hfix
  have hl : lv_has ls 3 [(0, .ref (ad 0)), (1, .int x), (2, .int y)] := hl
  refine lv_iload_n hx hb dX9_apart_0 rfl (lv_at hl 1 rfl) ?_
  refine lv_iload_n hx hb dX9_apart_1 rfl (lv_at hl 2 rfl) ?_
  refine lv_icmp_ge (tgt := 11) hx hb dX9_apart_2 (by decide) (fun c1 => ?_) (fun c1 => ?_)
  · refine lv_iload_n hx hb dX9_apart_11 rfl (lv_at hl 1 rfl) ?_
    refine lv_iload_n hx hb dX9_apart_12 rfl (lv_at hl 2 rfl) ?_
    refine lv_isub hx hb dX9_apart_13 ?_
    exact x_iret hx hb hr hlocks () hM (show x - y = xap x y from by (unfold xap; (repeat' split) <;> first | rfl | contradiction | (exfalso; simp only [Int32.lt_iff_toInt_lt, Int32.le_iff_toInt_le] at *; omega) | simp_all)) dX9_apart_14
  · refine lv_iload_n hx hb dX9_apart_5 rfl (lv_at hl 2 rfl) ?_
    refine lv_iload_n hx hb dX9_apart_6 rfl (lv_at hl 1 rfl) ?_
    refine lv_isub hx hb dX9_apart_7 ?_
    refine lv_goto (tgt := 14) hx hb dX9_apart_8 (by decide) ?_
    exact x_iret hx hb hr hlocks () hM (show y - x = xap x y from by (unfold xap; (repeat' split) <;> first | rfl | contradiction | (exfalso; simp only [Int32.lt_iff_toInt_lt, Int32.le_iff_toInt_le] at *; omega) | simp_all)) dX9_apart_14

theorem dX9_leftOf_0 : decode cX9_leftOf 0 = .ok (.aload_n 0, 1) := by decide +kernel
theorem dX9_leftOf_1 : decode cX9_leftOf 1 = .ok (.getfield 19, 3) := by decide +kernel
theorem dX9_leftOf_4 : decode cX9_leftOf 4 = .ok (.iload_n 1, 1) := by decide +kernel
theorem dX9_leftOf_5 : decode cX9_leftOf 5 = .ok (.iaload, 1) := by decide +kernel
theorem dX9_leftOf_6 : decode cX9_leftOf 6 = .ok (.iconst 1, 1) := by decide +kernel
theorem dX9_leftOf_7 : decode cX9_leftOf 7 = .ok (.if_icmp .ne 9, 3) := by decide +kernel
theorem dX9_leftOf_10 : decode cX9_leftOf 10 = .ok (.iload_n 2, 1) := by decide +kernel
theorem dX9_leftOf_11 : decode cX9_leftOf 11 = .ok (.iconst 2, 1) := by decide +kernel
theorem dX9_leftOf_12 : decode cX9_leftOf 12 = .ok (.idiv, 1) := by decide +kernel
theorem dX9_leftOf_13 : decode cX9_leftOf 13 = .ok (.goto 18, 3) := by decide +kernel
theorem dX9_leftOf_16 : decode cX9_leftOf 16 = .ok (.aload_n 0, 1) := by decide +kernel
theorem dX9_leftOf_17 : decode cX9_leftOf 17 = .ok (.getfield 19, 3) := by decide +kernel
theorem dX9_leftOf_20 : decode cX9_leftOf 20 = .ok (.iload_n 1, 1) := by decide +kernel
theorem dX9_leftOf_21 : decode cX9_leftOf 21 = .ok (.iaload, 1) := by decide +kernel
theorem dX9_leftOf_22 : decode cX9_leftOf 22 = .ok (.iconst 2, 1) := by decide +kernel
theorem dX9_leftOf_23 : decode cX9_leftOf 23 = .ok (.if_icmp .ne 7, 3) := by decide +kernel
theorem dX9_leftOf_26 : decode cX9_leftOf 26 = .ok (.iconst 0, 1) := by decide +kernel
theorem dX9_leftOf_27 : decode cX9_leftOf 27 = .ok (.goto 4, 3) := by decide +kernel
theorem dX9_leftOf_30 : decode cX9_leftOf 30 = .ok (.iload_n 2, 1) := by decide +kernel
theorem dX9_leftOf_31 : decode cX9_leftOf 31 = .ok (.ireturn, 1) := by decide +kernel
theorem lkX9_leftOf_19 : Cond.fieldLink RX9 19 "LeftAtFiveModel" "kinds" "[I" ∈ wsX9_leftOf := by decide +kernel
theorem iwX9_leftOf_X9 : ∀ w ∈ wsX90, w ∈ wsX9_leftOf := by decide +kernel
set_option maxHeartbeats 4000000 in
set_option maxRecDepth 100000 in
theorem c_X9_leftOf (l : Launch) (D : va_G) (q : Nat → ClassId) (ad : Nat → Nat) (σ0 : Int32) (σ1 : Nat → Int32) (σ2 : Nat → Int32) (σ3 : Nat → Int32) (σ4 : Nat → Int32) (σ5 : Nat → Int32) (σ6 : Nat → Int32) (σ7 : Nat → Int32) (σ8 : Nat → Int32) (σ9 : Nat → Int32) (σ10 : Nat → Int32) (σ11 : Nat → Int32) (σ12 : Nat → Int32) (σ13 : Nat → Int32) (σ14 : Nat → Int32) (σ15 : Nat → Int32) (σ16 : Nat → Int32) (σ17 : Nat → Int32) (σ18 : Nat → Int32) (σ19 : Nat → Int32) (σ20 : Int32) (σ21 : Int32) (σ22 : Int32) (σ23 : Nat → Int32) (σ24 : Int32) (σ25 : Int32) (σ26 : Nat → Int32) (σ27 : Nat → Int32) (σ28 : Nat → Int32) (σ29 : Nat → Int32) (σ30 : Nat → Int32) (g : Nat) (n : Int32) (hg0 : g < 10) : xC l yX9_leftOf wsX9_leftOf ({ frames := 0, cells := 0, slots := 0, locals := 0 }) D (TY q) [w9 q ad σ0 σ1 σ2 σ3 σ4 σ5 σ6 σ7 σ8 σ9 σ10 σ11 σ12 σ13 σ14 σ15 σ16 σ17 σ18 σ19 σ20 σ21 σ22 σ23 σ24 σ25 σ26 σ27 σ28 σ29 σ30] [.ref (ad 0), .int (nI g), .int n] (xQi D (TY q) (fun (r : Int32) (_ : Unit) => r = xlf (σ4 g) n) (fun _ => [w9 q ad σ0 σ1 σ2 σ3 σ4 σ5 σ6 σ7 σ8 σ9 σ10 σ11 σ12 σ13 σ14 σ15 σ16 σ17 σ18 σ19 σ20 σ21 σ22 σ23 σ24 σ25 σ26 σ27 σ28 σ29 σ30])) 0 0 := by
  refine x_enter (cc := cX9_leftOf) (maxL := 3) (ret := (some .int)) (by decide) rfl (Nat.le_of_ble_eq_true rfl) ?_
  intro p e s m below meth c A ls H locs hfix hr hlocks hinit hM hl
  obtain ⟨hx, hb, hml, hown, hts⟩ := id hfix
  have hl : lv_has ls 3 [(0, .ref (ad 0)), (1, .int (nI g)), (2, .int n)] := hl
  refine lv_aload_n hx hb dX9_leftOf_0 rfl (lv_at hl 0 rfl) ?_
  refine x_get hx hb hts iwX9_leftOf_X9 hown hM 0 0 rfl rfl rfl 4 (by decide) (hts _ lkX9_leftOf_19) (fun _ h => h) rfl dX9_leftOf_1 ?_
  refine lv_iload_n hx hb dX9_leftOf_4 rfl (lv_at hl 1 rfl) ?_
  refine x_iald hx hb hM 0 4 0 (f := σ4) rfl rfl rfl (t := g) (by omega) (by decide) dX9_leftOf_5 ?_
  refine lv_iconst (v := nI 1) hx hb dX9_leftOf_6 (by decide) ?_
  refine lv_icmp_ne (tgt := 16) hx hb dX9_leftOf_7 (by decide) (fun c1 => ?_) (fun c1 => ?_)
  · refine lv_aload_n hx hb dX9_leftOf_16 rfl (lv_at hl 0 rfl) ?_
    refine x_get hx hb hts iwX9_leftOf_X9 hown hM 0 0 rfl rfl rfl 4 (by decide) (hts _ lkX9_leftOf_19) (fun _ h => h) rfl dX9_leftOf_17 ?_
    refine lv_iload_n hx hb dX9_leftOf_20 rfl (lv_at hl 1 rfl) ?_
    refine x_iald hx hb hM 0 4 0 (f := σ4) rfl rfl rfl (t := g) (by omega) (by decide) dX9_leftOf_21 ?_
    refine lv_iconst (v := nI 2) hx hb dX9_leftOf_22 (by decide) ?_
    refine lv_icmp_ne (tgt := 30) hx hb dX9_leftOf_23 (by decide) (fun c2 => ?_) (fun c2 => ?_)
    · refine lv_iload_n hx hb dX9_leftOf_30 rfl (lv_at hl 2 rfl) ?_
      exact x_iret hx hb hr hlocks () hM (show n = xlf (σ4 g) n from by (unfold xlf; (repeat' split) <;> first | rfl | contradiction | (exfalso; simp only [Int32.lt_iff_toInt_lt, Int32.le_iff_toInt_le] at *; omega) | simp_all)) dX9_leftOf_31
    · refine lv_iconst (v := nI 0) hx hb dX9_leftOf_26 (by decide) ?_
      refine lv_goto (tgt := 31) hx hb dX9_leftOf_27 (by decide) ?_
      exact x_iret hx hb hr hlocks () hM (show nI 0 = xlf (σ4 g) n from by (unfold xlf; (repeat' split) <;> first | rfl | contradiction | (exfalso; simp only [Int32.lt_iff_toInt_lt, Int32.le_iff_toInt_le] at *; omega) | simp_all)) dX9_leftOf_31
  · refine lv_iload_n hx hb dX9_leftOf_10 rfl (lv_at hl 2 rfl) ?_
    refine lv_iconst (v := nI 2) hx hb dX9_leftOf_11 (by decide) ?_
    refine lv_idiv hx hb dX9_leftOf_12 (by decide) ?_
    refine lv_goto (tgt := 31) hx hb dX9_leftOf_13 (by decide) ?_
    exact x_iret hx hb hr hlocks () hM (show n / (nI 2) = xlf (σ4 g) n from by (unfold xlf; (repeat' split) <;> first | rfl | contradiction | (exfalso; simp only [Int32.lt_iff_toInt_lt, Int32.le_iff_toInt_le] at *; omega) | simp_all)) dX9_leftOf_31

set_option maxRecDepth 20000 in
theorem ggX9_leftIn_X9_pieces : GoodIn wsX9_leftIn wsX9_pieces := goodIn_r _ [5, 6, 12, 13, 14, 15, 16, 17, 18, 19, 20, 21, 22, 23, 24, 25, 26, 27, 28, 29, 30, 31, 32, 33, 34, 35, 36, 37, 38, 39, 40, 41, 42] (by decide +kernel) (by decide +kernel)
set_option maxRecDepth 20000 in
theorem gX9_leftIn_X9_pieces : GoodIn wsX9_leftIn (wsV RX9 172 RX9 yX9_pieces wsX9_pieces) := goodIn_app (goodIn_of _ (by decide +kernel)) ggX9_leftIn_X9_pieces
set_option maxRecDepth 20000 in
theorem ggX9_leftIn_X9_leftOf : GoodIn wsX9_leftIn wsX9_leftOf := goodIn_r _ [10, 11, 12, 13, 14, 15, 16, 17, 18, 19, 20, 21, 22, 23, 24, 25, 26, 27, 28, 29, 30, 31, 32, 33, 34, 35, 36, 37, 38, 39, 40, 41, 42] (by decide +kernel) (by decide +kernel)
set_option maxRecDepth 20000 in
theorem gX9_leftIn_X9_leftOf : GoodIn wsX9_leftIn (wsV RX9 207 RX9 yX9_leftOf wsX9_leftOf) := goodIn_app (goodIn_of _ (by decide +kernel)) ggX9_leftIn_X9_leftOf
theorem dX9_leftIn_0 : decode cX9_leftIn 0 = .ok (.aload_n 0, 1) := by decide +kernel
theorem dX9_leftIn_1 : decode cX9_leftIn 1 = .ok (.iload_n 3, 1) := by decide +kernel
theorem dX9_leftIn_2 : decode cX9_leftIn 2 = .ok (.aload_n 0, 1) := by decide +kernel
theorem dX9_leftIn_3 : decode cX9_leftIn 3 = .ok (.iload_n 1, 1) := by decide +kernel
theorem dX9_leftIn_4 : decode cX9_leftIn 4 = .ok (.iload_n 2, 1) := by decide +kernel
theorem dX9_leftIn_5 : decode cX9_leftIn 5 = .ok (.iload_n 3, 1) := by decide +kernel
theorem dX9_leftIn_6 : decode cX9_leftIn 6 = .ok (.invokevirtual 172, 3) := by decide +kernel
theorem dX9_leftIn_9 : decode cX9_leftIn 9 = .ok (.invokevirtual 207, 3) := by decide +kernel
theorem dX9_leftIn_12 : decode cX9_leftIn 12 = .ok (.ireturn, 1) := by decide +kernel
set_option maxHeartbeats 4000000 in
set_option maxRecDepth 100000 in
theorem c_X9_leftIn (l : Launch) (D : va_G) (q : Nat → ClassId) (ad : Nat → Nat) (σ0 : Int32) (σ1 : Nat → Int32) (σ2 : Nat → Int32) (σ3 : Nat → Int32) (σ4 : Nat → Int32) (σ5 : Nat → Int32) (σ6 : Nat → Int32) (σ7 : Nat → Int32) (σ8 : Nat → Int32) (σ9 : Nat → Int32) (σ10 : Nat → Int32) (σ11 : Nat → Int32) (σ12 : Nat → Int32) (σ13 : Nat → Int32) (σ14 : Nat → Int32) (σ15 : Nat → Int32) (σ16 : Nat → Int32) (σ17 : Nat → Int32) (σ18 : Nat → Int32) (σ19 : Nat → Int32) (σ20 : Int32) (σ21 : Int32) (σ22 : Int32) (σ23 : Nat → Int32) (σ24 : Int32) (σ25 : Int32) (σ26 : Nat → Int32) (σ27 : Nat → Int32) (σ28 : Nat → Int32) (σ29 : Nat → Int32) (σ30 : Nat → Int32) (b : Nat) (h : Nat) (g : Nat) (hb0 : b < 13) (hh0 : h < 5) (hg0 : g < 5) : xC l yX9_leftIn wsX9_leftIn ({ frames := 1, cells := 0, slots := 0, locals := 23 }) D (TY q) [w9 q ad σ0 σ1 σ2 σ3 σ4 σ5 σ6 σ7 σ8 σ9 σ10 σ11 σ12 σ13 σ14 σ15 σ16 σ17 σ18 σ19 σ20 σ21 σ22 σ23 σ24 σ25 σ26 σ27 σ28 σ29 σ30] [.ref (ad 0), .int (nI b), .int (nI h), .int (nI g)] (xQi D (TY q) (fun (r : Int32) (_ : Unit) => r = xlf (σ4 g) (σ19 (67 * b + 5 * h + g))) (fun _ => [w9 q ad σ0 σ1 σ2 σ3 σ4 σ5 σ6 σ7 σ8 σ9 σ10 σ11 σ12 σ13 σ14 σ15 σ16 σ17 σ18 σ19 σ20 σ21 σ22 σ23 σ24 σ25 σ26 σ27 σ28 σ29 σ30])) 0 0 := by
  refine x_enter (cc := cX9_leftIn) (maxL := 4) (ret := (some .int)) (by decide) rfl (Nat.le_of_ble_eq_true rfl) ?_
  intro p e s m below meth c A ls H locs hfix hr hlocks hinit hM hl
  obtain ⟨hx, hb, hml, hown, hts⟩ := id hfix
  have hl : lv_has ls 4 [(0, .ref (ad 0)), (1, .int (nI b)), (2, .int (nI h)), (3, .int (nI g))] := hl
  refine lv_aload_n hx hb dX9_leftIn_0 rfl (lv_at hl 0 rfl) ?_
  refine lv_iload_n hx hb dX9_leftIn_1 rfl (lv_at hl 3 rfl) ?_
  refine lv_aload_n hx hb dX9_leftIn_2 rfl (lv_at hl 0 rfl) ?_
  refine lv_iload_n hx hb dX9_leftIn_3 rfl (lv_at hl 1 rfl) ?_
  refine lv_iload_n hx hb dX9_leftIn_4 rfl (lv_at hl 2 rfl) ?_
  refine lv_iload_n hx hb dX9_leftIn_5 rfl (lv_at hl 3 rfl) ?_
  refine x_calli (bc := [w9 q ad σ0 σ1 σ2 σ3 σ4 σ5 σ6 σ7 σ8 σ9 σ10 σ11 σ12 σ13 σ14 σ15 σ16 σ17 σ18 σ19 σ20 σ21 σ22 σ23 σ24 σ25 σ26 σ27 σ28 σ29 σ30]) (br := []) hM [0] [] rfl rfl rfl (by decide) (x_runV (As := [.int (nI b), .int (nI h), .int (nI g)]) (rest := [.int (nI g), .ref (ad 0)]) hfix (c_X9_pieces l D q ad σ0 σ1 σ2 σ3 σ4 σ5 σ6 σ7 σ8 σ9 σ10 σ11 σ12 σ13 σ14 σ15 σ16 σ17 σ18 σ19 σ20 σ21 σ22 σ23 σ24 σ25 σ26 σ27 σ28 σ29 σ30 b h g (by omega) (by omega) (by omega)) (cwV 3 hts gX9_leftIn_X9_pieces rfl rfl rfl (by decide +kernel) ⟨Nat.le_of_ble_eq_true rfl, Nat.le_of_ble_eq_true rfl⟩) hM [0] rfl rfl 0 0 rfl rfl rfl rfl rfl hl.1 rfl (Nat.le_of_ble_eq_true rfl) dX9_leftIn_6 ⟨Nat.le_of_ble_eq_true rfl, Nat.le_of_ble_eq_true rfl⟩) (fun r u H locs hq hM => ?_)
  subst hq
  have hM : xM D (TY q) [w9 q ad σ0 σ1 σ2 σ3 σ4 σ5 σ6 σ7 σ8 σ9 σ10 σ11 σ12 σ13 σ14 σ15 σ16 σ17 σ18 σ19 σ20 σ21 σ22 σ23 σ24 σ25 σ26 σ27 σ28 σ29 σ30] A s.heap s H locs := hM
  refine x_calli (bc := [w9 q ad σ0 σ1 σ2 σ3 σ4 σ5 σ6 σ7 σ8 σ9 σ10 σ11 σ12 σ13 σ14 σ15 σ16 σ17 σ18 σ19 σ20 σ21 σ22 σ23 σ24 σ25 σ26 σ27 σ28 σ29 σ30]) (br := []) hM [0] [] rfl rfl rfl (by decide) (x_runV (As := [.int (nI g), .int (σ19 (67 * b + 5 * h + g))]) (rest := []) hfix (c_X9_leftOf l D q ad σ0 σ1 σ2 σ3 σ4 σ5 σ6 σ7 σ8 σ9 σ10 σ11 σ12 σ13 σ14 σ15 σ16 σ17 σ18 σ19 σ20 σ21 σ22 σ23 σ24 σ25 σ26 σ27 σ28 σ29 σ30 g (σ19 (67 * b + 5 * h + g)) (by omega)) (cwV 2 hts gX9_leftIn_X9_leftOf rfl rfl rfl (by decide +kernel) ⟨Nat.le_of_ble_eq_true rfl, Nat.le_of_ble_eq_true rfl⟩) hM [0] rfl rfl 0 0 rfl rfl rfl rfl rfl hl.1 rfl (Nat.le_of_ble_eq_true rfl) dX9_leftIn_9 ⟨Nat.le_of_ble_eq_true rfl, Nat.le_of_ble_eq_true rfl⟩) (fun r u H locs hq hM => ?_)
  subst hq
  have hM : xM D (TY q) [w9 q ad σ0 σ1 σ2 σ3 σ4 σ5 σ6 σ7 σ8 σ9 σ10 σ11 σ12 σ13 σ14 σ15 σ16 σ17 σ18 σ19 σ20 σ21 σ22 σ23 σ24 σ25 σ26 σ27 σ28 σ29 σ30] A s.heap s H locs := hM
  exact x_iret hx hb hr hlocks () hM (show xlf (σ4 g) (σ19 (67 * b + 5 * h + g)) = xlf (σ4 g) (σ19 (67 * b + 5 * h + g)) from rfl) dX9_leftIn_12

set_option maxRecDepth 20000 in
theorem ggX9_worthIn_X9_leftIn : GoodIn wsX9_worthIn wsX9_leftIn := goodIn_r _ [7, 8, 9, 10, 6, 11, 12, 13, 14, 15, 16, 17, 18, 19, 20, 21, 22, 23, 24, 25, 26, 27, 28, 29, 30, 31, 32, 33, 34, 35, 36, 37, 38, 39, 40, 41, 42, 43, 44, 45, 46, 47, 48] (by decide +kernel) (by decide +kernel)
set_option maxRecDepth 20000 in
theorem gX9_worthIn_X9_leftIn : GoodIn wsX9_worthIn (wsV RX9 210 RX9 yX9_leftIn wsX9_leftIn) := goodIn_app (goodIn_of _ (by decide +kernel)) ggX9_worthIn_X9_leftIn
theorem dX9_worthIn_0 : decode cX9_worthIn 0 = .ok (.iconst 0, 1) := by decide +kernel
theorem dX9_worthIn_1 : decode cX9_worthIn 1 = .ok (.istore_n 3, 1) := by decide +kernel
theorem dX9_worthIn_2 : decode cX9_worthIn 2 = .ok (.iconst 0, 1) := by decide +kernel
theorem dX9_worthIn_3 : decode cX9_worthIn 3 = .ok (.istore 4, 2) := by decide +kernel
theorem dX9_worthIn_5 : decode cX9_worthIn 5 = .ok (.iload 4, 2) := by decide +kernel
theorem dX9_worthIn_7 : decode cX9_worthIn 7 = .ok (.aload_n 0, 1) := by decide +kernel
theorem dX9_worthIn_8 : decode cX9_worthIn 8 = .ok (.getfield 13, 3) := by decide +kernel
theorem dX9_worthIn_11 : decode cX9_worthIn 11 = .ok (.iconst 0, 1) := by decide +kernel
theorem dX9_worthIn_12 : decode cX9_worthIn 12 = .ok (.iaload, 1) := by decide +kernel
theorem dX9_worthIn_13 : decode cX9_worthIn 13 = .ok (.if_icmp .ge 28, 3) := by decide +kernel
theorem dX9_worthIn_16 : decode cX9_worthIn 16 = .ok (.iload_n 3, 1) := by decide +kernel
theorem dX9_worthIn_17 : decode cX9_worthIn 17 = .ok (.aload_n 0, 1) := by decide +kernel
theorem dX9_worthIn_18 : decode cX9_worthIn 18 = .ok (.getfield 16, 3) := by decide +kernel
theorem dX9_worthIn_21 : decode cX9_worthIn 21 = .ok (.iload 4, 2) := by decide +kernel
theorem dX9_worthIn_23 : decode cX9_worthIn 23 = .ok (.iaload, 1) := by decide +kernel
theorem dX9_worthIn_24 : decode cX9_worthIn 24 = .ok (.aload_n 0, 1) := by decide +kernel
theorem dX9_worthIn_25 : decode cX9_worthIn 25 = .ok (.iload_n 1, 1) := by decide +kernel
theorem dX9_worthIn_26 : decode cX9_worthIn 26 = .ok (.iload_n 2, 1) := by decide +kernel
theorem dX9_worthIn_27 : decode cX9_worthIn 27 = .ok (.iload 4, 2) := by decide +kernel
theorem dX9_worthIn_29 : decode cX9_worthIn 29 = .ok (.invokevirtual 210, 3) := by decide +kernel
theorem dX9_worthIn_32 : decode cX9_worthIn 32 = .ok (.imul, 1) := by decide +kernel
theorem dX9_worthIn_33 : decode cX9_worthIn 33 = .ok (.iadd, 1) := by decide +kernel
theorem dX9_worthIn_34 : decode cX9_worthIn 34 = .ok (.istore_n 3, 1) := by decide +kernel
theorem dX9_worthIn_35 : decode cX9_worthIn 35 = .ok (.iinc 4 1, 3) := by decide +kernel
theorem dX9_worthIn_38 : decode cX9_worthIn 38 = .ok (.goto (-33), 3) := by decide +kernel
theorem dX9_worthIn_41 : decode cX9_worthIn 41 = .ok (.iload_n 3, 1) := by decide +kernel
theorem dX9_worthIn_42 : decode cX9_worthIn 42 = .ok (.ireturn, 1) := by decide +kernel
theorem lkX9_worthIn_13 : Cond.fieldLink RX9 13 "LeftAtFiveModel" "goods" "[I" ∈ wsX9_worthIn := by decide +kernel
theorem lkX9_worthIn_16 : Cond.fieldLink RX9 16 "LeftAtFiveModel" "worths" "[I" ∈ wsX9_worthIn := by decide +kernel
theorem iwX9_worthIn_X9 : ∀ w ∈ wsX90, w ∈ wsX9_worthIn := by decide +kernel
set_option maxHeartbeats 4000000 in
set_option maxRecDepth 100000 in
theorem c_X9_worthIn (l : Launch) (D : va_G) (q : Nat → ClassId) (ad : Nat → Nat) (σ0 : Int32) (σ1 : Nat → Int32) (σ2 : Nat → Int32) (σ3 : Nat → Int32) (σ4 : Nat → Int32) (σ5 : Nat → Int32) (σ6 : Nat → Int32) (σ7 : Nat → Int32) (σ8 : Nat → Int32) (σ9 : Nat → Int32) (σ10 : Nat → Int32) (σ11 : Nat → Int32) (σ12 : Nat → Int32) (σ13 : Nat → Int32) (σ14 : Nat → Int32) (σ15 : Nat → Int32) (σ16 : Nat → Int32) (σ17 : Nat → Int32) (σ18 : Nat → Int32) (σ19 : Nat → Int32) (σ20 : Int32) (σ21 : Int32) (σ22 : Int32) (σ23 : Nat → Int32) (σ24 : Int32) (σ25 : Int32) (σ26 : Nat → Int32) (σ27 : Nat → Int32) (σ28 : Nat → Int32) (σ29 : Nat → Int32) (σ30 : Nat → Int32) (b : Nat) (h : Nat) (hb0 : b < 13) (hh0 : h < 5) (hc2 : σ2 0 = nI (tn (σ2 0)) ∧ tn (σ2 0) ≤ 5) : xC l yX9_worthIn wsX9_worthIn ({ frames := 2, cells := 0, slots := 0, locals := 46 }) D (TY q) [w9 q ad σ0 σ1 σ2 σ3 σ4 σ5 σ6 σ7 σ8 σ9 σ10 σ11 σ12 σ13 σ14 σ15 σ16 σ17 σ18 σ19 σ20 σ21 σ22 σ23 σ24 σ25 σ26 σ27 σ28 σ29 σ30] [.ref (ad 0), .int (nI b), .int (nI h)] (xQi D (TY q) (fun (r : Int32) (_ : Unit) => r = xsum (fun g => σ3 g * xlf (σ4 g) (σ19 (67 * b + 5 * h + g))) (tn (σ2 0))) (fun _ => [w9 q ad σ0 σ1 σ2 σ3 σ4 σ5 σ6 σ7 σ8 σ9 σ10 σ11 σ12 σ13 σ14 σ15 σ16 σ17 σ18 σ19 σ20 σ21 σ22 σ23 σ24 σ25 σ26 σ27 σ28 σ29 σ30])) 0 0 := by
  refine x_enter (cc := cX9_worthIn) (maxL := 5) (ret := (some .int)) (by decide) rfl (Nat.le_of_ble_eq_true rfl) ?_
  intro p e s m below meth c A ls H locs hfix hr hlocks hinit hM hl
  obtain ⟨hx, hb, hml, hown, hts⟩ := id hfix
  have hl : lv_has ls 5 [(0, .ref (ad 0)), (1, .int (nI b)), (2, .int (nI h))] := hl
  refine lv_iconst (v := nI 0) hx hb dX9_worthIn_0 (by decide) ?_
  refine lv_istore_n (lv' := [(3, .int (nI 0)), (0, .ref (ad 0)), (1, .int (nI b)), (2, .int (nI h))]) hx hb dX9_worthIn_1 rfl hl (by decide) rfl (fun ls hl => ?_)
  refine lv_iconst (v := nI 0) hx hb dX9_worthIn_2 (by decide) ?_
  refine lv_istore (lv' := [(4, .int (nI 0)), (3, .int (nI 0)), (0, .ref (ad 0)), (1, .int (nI b)), (2, .int (nI h))]) hx hb dX9_worthIn_3 hl (by decide) rfl (fun ls hl => ?_)
  refine x_loop (ι := Nat) (fun k => [(0, .ref (ad 0)), (1, .int (nI b)), (2, .int (nI h)), (3, .int (xsum (fun g => σ3 g * xlf (σ4 g) (σ19 (67 * b + 5 * h + g))) k)), (4, .int (nI k))]) (fun k => [w9 q ad σ0 σ1 σ2 σ3 σ4 σ5 σ6 σ7 σ8 σ9 σ10 σ11 σ12 σ13 σ14 σ15 σ16 σ17 σ18 σ19 σ20 σ21 σ22 σ23 σ24 σ25 σ26 σ27 σ28 σ29 σ30]) (fun k => k ≤ tn (σ2 0)) (fun k => tn (σ2 0) - k) 0 (by omega) hM (lv_sub hl [2, 3, 4, 1, 0] rfl) ?_
  intro k hI2 ih1 H locs hM ls hl
  have hM : xM D (TY q) [w9 q ad σ0 σ1 σ2 σ3 σ4 σ5 σ6 σ7 σ8 σ9 σ10 σ11 σ12 σ13 σ14 σ15 σ16 σ17 σ18 σ19 σ20 σ21 σ22 σ23 σ24 σ25 σ26 σ27 σ28 σ29 σ30] A s.heap s H locs := hM
  have hl : lv_has ls 5 [(0, .ref (ad 0)), (1, .int (nI b)), (2, .int (nI h)), (3, .int (xsum (fun g => σ3 g * xlf (σ4 g) (σ19 (67 * b + 5 * h + g))) k)), (4, .int (nI k))] := hl
  have hI2 : k ≤ tn (σ2 0) := hI2
  try dsimp only
  refine lv_iload hx hb dX9_worthIn_5 (lv_at hl 4 rfl) ?_
  refine lv_aload_n hx hb dX9_worthIn_7 rfl (lv_at hl 0 rfl) ?_
  refine x_get hx hb hts iwX9_worthIn_X9 hown hM 0 0 rfl rfl rfl 2 (by decide) (hts _ lkX9_worthIn_13) (fun _ h => h) rfl dX9_worthIn_8 ?_
  refine lv_iconst (v := nI 0) hx hb dX9_worthIn_11 (by decide) ?_
  refine x_iald hx hb hM 0 2 0 (f := σ2) rfl rfl rfl (t := 0) (by omega) (by decide) dX9_worthIn_12 ?_
  refine x_cast (y := nI (tn (σ2 0))) hc2.1 ?_
  refine x_icmp_ge (x := k) (y := tn (σ2 0)) (tgt := 41) hx hb (by omega) (by omega) dX9_worthIn_13 (by decide) (fun c3 => ?_) (fun c3 => ?_)
  · refine lv_iload_n hx hb dX9_worthIn_41 rfl (lv_at hl 3 rfl) ?_
    exact x_iret hx hb hr hlocks () hM (show xsum (fun g => σ3 g * xlf (σ4 g) (σ19 (67 * b + 5 * h + g))) k = xsum (fun g => σ3 g * xlf (σ4 g) (σ19 (67 * b + 5 * h + g))) (tn (σ2 0)) from by (have hk9 : k = tn (σ2 0) := (by omega); rw [hk9])) dX9_worthIn_42
  · refine lv_iload_n hx hb dX9_worthIn_16 rfl (lv_at hl 3 rfl) ?_
    refine lv_aload_n hx hb dX9_worthIn_17 rfl (lv_at hl 0 rfl) ?_
    refine x_get hx hb hts iwX9_worthIn_X9 hown hM 0 0 rfl rfl rfl 3 (by decide) (hts _ lkX9_worthIn_16) (fun _ h => h) rfl dX9_worthIn_18 ?_
    refine lv_iload hx hb dX9_worthIn_21 (lv_at hl 4 rfl) ?_
    refine x_iald hx hb hM 0 3 0 (f := σ3) rfl rfl rfl (t := k) (by omega) (by decide) dX9_worthIn_23 ?_
    refine lv_aload_n hx hb dX9_worthIn_24 rfl (lv_at hl 0 rfl) ?_
    refine lv_iload_n hx hb dX9_worthIn_25 rfl (lv_at hl 1 rfl) ?_
    refine lv_iload_n hx hb dX9_worthIn_26 rfl (lv_at hl 2 rfl) ?_
    refine lv_iload hx hb dX9_worthIn_27 (lv_at hl 4 rfl) ?_
    refine x_calli (bc := [w9 q ad σ0 σ1 σ2 σ3 σ4 σ5 σ6 σ7 σ8 σ9 σ10 σ11 σ12 σ13 σ14 σ15 σ16 σ17 σ18 σ19 σ20 σ21 σ22 σ23 σ24 σ25 σ26 σ27 σ28 σ29 σ30]) (br := []) hM [0] [] rfl rfl rfl (by decide) (x_runV (As := [.int (nI b), .int (nI h), .int (nI k)]) (rest := [.int (σ3 k), .int (xsum (fun g => σ3 g * xlf (σ4 g) (σ19 (67 * b + 5 * h + g))) k)]) hfix (c_X9_leftIn l D q ad σ0 σ1 σ2 σ3 σ4 σ5 σ6 σ7 σ8 σ9 σ10 σ11 σ12 σ13 σ14 σ15 σ16 σ17 σ18 σ19 σ20 σ21 σ22 σ23 σ24 σ25 σ26 σ27 σ28 σ29 σ30 b h k (by omega) (by omega) (by omega)) (cwV 3 hts gX9_worthIn_X9_leftIn rfl rfl rfl (by decide +kernel) ⟨Nat.le_of_ble_eq_true rfl, Nat.le_of_ble_eq_true rfl⟩) hM [0] rfl rfl 0 0 rfl rfl rfl rfl rfl hl.1 rfl (Nat.le_of_ble_eq_true rfl) dX9_worthIn_29 ⟨Nat.le_of_ble_eq_true rfl, Nat.le_of_ble_eq_true rfl⟩) (fun r u H locs hq hM => ?_)
    subst hq
    have hM : xM D (TY q) [w9 q ad σ0 σ1 σ2 σ3 σ4 σ5 σ6 σ7 σ8 σ9 σ10 σ11 σ12 σ13 σ14 σ15 σ16 σ17 σ18 σ19 σ20 σ21 σ22 σ23 σ24 σ25 σ26 σ27 σ28 σ29 σ30] A s.heap s H locs := hM
    refine lv_imul hx hb dX9_worthIn_32 ?_
    refine lv_iadd hx hb dX9_worthIn_33 ?_
    refine lv_istore_n (lv' := [(3, .int ((xsum (fun g => σ3 g * xlf (σ4 g) (σ19 (67 * b + 5 * h + g))) k) + ((σ3 k) * (xlf (σ4 k) (σ19 (67 * b + 5 * h + k)))))), (0, .ref (ad 0)), (1, .int (nI b)), (2, .int (nI h)), (4, .int (nI k))]) hx hb dX9_worthIn_34 rfl hl (by decide) rfl (fun ls hl => ?_)
    refine lv_iinc (v := nI (k + 1)) (lv' := [(4, .int (nI (k + 1))), (3, .int ((xsum (fun g => σ3 g * xlf (σ4 g) (σ19 (67 * b + 5 * h + g))) k) + ((σ3 k) * (xlf (σ4 k) (σ19 (67 * b + 5 * h + k)))))), (0, .ref (ad 0)), (1, .int (nI b)), (2, .int (nI h))]) hx hb dX9_worthIn_35 hl (k := 4) rfl (x_inc _ 1) (by decide) rfl (fun ls hl => ?_)
    refine lv_goto (tgt := 5) hx hb dX9_worthIn_38 (by decide) ?_
    have hl : lv_has ls 5 [(0, .ref (ad 0)), (1, .int (nI b)), (2, .int (nI h)), (3, .int ((xsum (fun g => σ3 g * xlf (σ4 g) (σ19 (67 * b + 5 * h + g))) k) + ((σ3 k) * (xlf (σ4 k) (σ19 (67 * b + 5 * h + k)))))), (4, .int (nI (k + 1)))] := lv_sub hl [2, 3, 4, 1, 0] rfl
    exact ih1 (k + 1) (show tn (σ2 0) - (k + 1) < tn (σ2 0) - k from by omega) (show (k + 1) ≤ tn (σ2 0) from by omega) _ _ hM _ hl

set_option maxRecDepth 20000 in
theorem ggX9_worthOfAll_X9_worthIn : GoodIn wsX9_worthOfAll wsX9_worthIn := goodIn_r _ [6, 7, 8, 9, 10, 11, 5, 12, 13, 14, 15, 16, 17, 18, 19, 20, 21, 22, 23, 24, 25, 26, 27, 28, 29, 30, 31, 32, 33, 34, 35, 36, 37, 38, 39, 40, 41, 42, 43, 44, 45, 46, 47, 48, 49, 50, 51, 52, 53] (by decide +kernel) (by decide +kernel)
set_option maxRecDepth 20000 in
theorem gX9_worthOfAll_X9_worthIn : GoodIn wsX9_worthOfAll (wsV RX9 213 RX9 yX9_worthIn wsX9_worthIn) := goodIn_app (goodIn_of _ (by decide +kernel)) ggX9_worthOfAll_X9_worthIn
theorem dX9_worthOfAll_0 : decode cX9_worthOfAll 0 = .ok (.iconst 0, 1) := by decide +kernel
theorem dX9_worthOfAll_1 : decode cX9_worthOfAll 1 = .ok (.istore_n 2, 1) := by decide +kernel
theorem dX9_worthOfAll_2 : decode cX9_worthOfAll 2 = .ok (.iconst 0, 1) := by decide +kernel
theorem dX9_worthOfAll_3 : decode cX9_worthOfAll 3 = .ok (.istore_n 3, 1) := by decide +kernel
theorem dX9_worthOfAll_4 : decode cX9_worthOfAll 4 = .ok (.iload_n 3, 1) := by decide +kernel
theorem dX9_worthOfAll_5 : decode cX9_worthOfAll 5 = .ok (.aload_n 0, 1) := by decide +kernel
theorem dX9_worthOfAll_6 : decode cX9_worthOfAll 6 = .ok (.getfield 22, 3) := by decide +kernel
theorem dX9_worthOfAll_9 : decode cX9_worthOfAll 9 = .ok (.iconst 0, 1) := by decide +kernel
theorem dX9_worthOfAll_10 : decode cX9_worthOfAll 10 = .ok (.iaload, 1) := by decide +kernel
theorem dX9_worthOfAll_11 : decode cX9_worthOfAll 11 = .ok (.if_icmp .ge 18, 3) := by decide +kernel
theorem dX9_worthOfAll_14 : decode cX9_worthOfAll 14 = .ok (.iload_n 2, 1) := by decide +kernel
theorem dX9_worthOfAll_15 : decode cX9_worthOfAll 15 = .ok (.aload_n 0, 1) := by decide +kernel
theorem dX9_worthOfAll_16 : decode cX9_worthOfAll 16 = .ok (.iload_n 1, 1) := by decide +kernel
theorem dX9_worthOfAll_17 : decode cX9_worthOfAll 17 = .ok (.iload_n 3, 1) := by decide +kernel
theorem dX9_worthOfAll_18 : decode cX9_worthOfAll 18 = .ok (.invokevirtual 213, 3) := by decide +kernel
theorem dX9_worthOfAll_21 : decode cX9_worthOfAll 21 = .ok (.iadd, 1) := by decide +kernel
theorem dX9_worthOfAll_22 : decode cX9_worthOfAll 22 = .ok (.istore_n 2, 1) := by decide +kernel
theorem dX9_worthOfAll_23 : decode cX9_worthOfAll 23 = .ok (.iinc 3 1, 3) := by decide +kernel
theorem dX9_worthOfAll_26 : decode cX9_worthOfAll 26 = .ok (.goto (-22), 3) := by decide +kernel
theorem dX9_worthOfAll_29 : decode cX9_worthOfAll 29 = .ok (.iload_n 2, 1) := by decide +kernel
theorem dX9_worthOfAll_30 : decode cX9_worthOfAll 30 = .ok (.ireturn, 1) := by decide +kernel
theorem lkX9_worthOfAll_22 : Cond.fieldLink RX9 22 "LeftAtFiveModel" "houses" "[I" ∈ wsX9_worthOfAll := by decide +kernel
theorem iwX9_worthOfAll_X9 : ∀ w ∈ wsX90, w ∈ wsX9_worthOfAll := by decide +kernel
set_option maxHeartbeats 4000000 in
set_option maxRecDepth 100000 in
theorem c_X9_worthOfAll (l : Launch) (D : va_G) (q : Nat → ClassId) (ad : Nat → Nat) (σ0 : Int32) (σ1 : Nat → Int32) (σ2 : Nat → Int32) (σ3 : Nat → Int32) (σ4 : Nat → Int32) (σ5 : Nat → Int32) (σ6 : Nat → Int32) (σ7 : Nat → Int32) (σ8 : Nat → Int32) (σ9 : Nat → Int32) (σ10 : Nat → Int32) (σ11 : Nat → Int32) (σ12 : Nat → Int32) (σ13 : Nat → Int32) (σ14 : Nat → Int32) (σ15 : Nat → Int32) (σ16 : Nat → Int32) (σ17 : Nat → Int32) (σ18 : Nat → Int32) (σ19 : Nat → Int32) (σ20 : Int32) (σ21 : Int32) (σ22 : Int32) (σ23 : Nat → Int32) (σ24 : Int32) (σ25 : Int32) (σ26 : Nat → Int32) (σ27 : Nat → Int32) (σ28 : Nat → Int32) (σ29 : Nat → Int32) (σ30 : Nat → Int32) (b : Nat) (hb0 : b < 13) (hc2 : σ2 0 = nI (tn (σ2 0)) ∧ tn (σ2 0) ≤ 5) (hc5 : σ5 0 = nI (tn (σ5 0)) ∧ tn (σ5 0) ≤ 5) : xC l yX9_worthOfAll wsX9_worthOfAll ({ frames := 3, cells := 0, slots := 0, locals := 70 }) D (TY q) [w9 q ad σ0 σ1 σ2 σ3 σ4 σ5 σ6 σ7 σ8 σ9 σ10 σ11 σ12 σ13 σ14 σ15 σ16 σ17 σ18 σ19 σ20 σ21 σ22 σ23 σ24 σ25 σ26 σ27 σ28 σ29 σ30] [.ref (ad 0), .int (nI b)] (xQi D (TY q) (fun (r : Int32) (_ : Unit) => r = xsum (fun h => xsum (fun g => σ3 g * xlf (σ4 g) (σ19 (67 * b + 5 * h + g))) (tn (σ2 0))) (tn (σ5 0))) (fun _ => [w9 q ad σ0 σ1 σ2 σ3 σ4 σ5 σ6 σ7 σ8 σ9 σ10 σ11 σ12 σ13 σ14 σ15 σ16 σ17 σ18 σ19 σ20 σ21 σ22 σ23 σ24 σ25 σ26 σ27 σ28 σ29 σ30])) 0 0 := by
  refine x_enter (cc := cX9_worthOfAll) (maxL := 4) (ret := (some .int)) (by decide) rfl (Nat.le_of_ble_eq_true rfl) ?_
  intro p e s m below meth c A ls H locs hfix hr hlocks hinit hM hl
  obtain ⟨hx, hb, hml, hown, hts⟩ := id hfix
  have hl : lv_has ls 4 [(0, .ref (ad 0)), (1, .int (nI b))] := hl
  refine lv_iconst (v := nI 0) hx hb dX9_worthOfAll_0 (by decide) ?_
  refine lv_istore_n (lv' := [(2, .int (nI 0)), (0, .ref (ad 0)), (1, .int (nI b))]) hx hb dX9_worthOfAll_1 rfl hl (by decide) rfl (fun ls hl => ?_)
  refine lv_iconst (v := nI 0) hx hb dX9_worthOfAll_2 (by decide) ?_
  refine lv_istore_n (lv' := [(3, .int (nI 0)), (2, .int (nI 0)), (0, .ref (ad 0)), (1, .int (nI b))]) hx hb dX9_worthOfAll_3 rfl hl (by decide) rfl (fun ls hl => ?_)
  refine x_loop (ι := Nat) (fun k => [(0, .ref (ad 0)), (1, .int (nI b)), (2, .int (xsum (fun h => xsum (fun g => σ3 g * xlf (σ4 g) (σ19 (67 * b + 5 * h + g))) (tn (σ2 0))) k)), (3, .int (nI k))]) (fun k => [w9 q ad σ0 σ1 σ2 σ3 σ4 σ5 σ6 σ7 σ8 σ9 σ10 σ11 σ12 σ13 σ14 σ15 σ16 σ17 σ18 σ19 σ20 σ21 σ22 σ23 σ24 σ25 σ26 σ27 σ28 σ29 σ30]) (fun k => k ≤ tn (σ5 0)) (fun k => tn (σ5 0) - k) 0 (by omega) hM (lv_sub hl [2, 3, 1, 0] rfl) ?_
  intro k hI2 ih1 H locs hM ls hl
  have hM : xM D (TY q) [w9 q ad σ0 σ1 σ2 σ3 σ4 σ5 σ6 σ7 σ8 σ9 σ10 σ11 σ12 σ13 σ14 σ15 σ16 σ17 σ18 σ19 σ20 σ21 σ22 σ23 σ24 σ25 σ26 σ27 σ28 σ29 σ30] A s.heap s H locs := hM
  have hl : lv_has ls 4 [(0, .ref (ad 0)), (1, .int (nI b)), (2, .int (xsum (fun h => xsum (fun g => σ3 g * xlf (σ4 g) (σ19 (67 * b + 5 * h + g))) (tn (σ2 0))) k)), (3, .int (nI k))] := hl
  have hI2 : k ≤ tn (σ5 0) := hI2
  try dsimp only
  refine lv_iload_n hx hb dX9_worthOfAll_4 rfl (lv_at hl 3 rfl) ?_
  refine lv_aload_n hx hb dX9_worthOfAll_5 rfl (lv_at hl 0 rfl) ?_
  refine x_get hx hb hts iwX9_worthOfAll_X9 hown hM 0 0 rfl rfl rfl 5 (by decide) (hts _ lkX9_worthOfAll_22) (fun _ h => h) rfl dX9_worthOfAll_6 ?_
  refine lv_iconst (v := nI 0) hx hb dX9_worthOfAll_9 (by decide) ?_
  refine x_iald hx hb hM 0 5 0 (f := σ5) rfl rfl rfl (t := 0) (by omega) (by decide) dX9_worthOfAll_10 ?_
  refine x_cast (y := nI (tn (σ5 0))) hc5.1 ?_
  refine x_icmp_ge (x := k) (y := tn (σ5 0)) (tgt := 29) hx hb (by omega) (by omega) dX9_worthOfAll_11 (by decide) (fun c3 => ?_) (fun c3 => ?_)
  · refine lv_iload_n hx hb dX9_worthOfAll_29 rfl (lv_at hl 2 rfl) ?_
    exact x_iret hx hb hr hlocks () hM (show xsum (fun h => xsum (fun g => σ3 g * xlf (σ4 g) (σ19 (67 * b + 5 * h + g))) (tn (σ2 0))) k = xsum (fun h => xsum (fun g => σ3 g * xlf (σ4 g) (σ19 (67 * b + 5 * h + g))) (tn (σ2 0))) (tn (σ5 0)) from by (have hk9 : k = tn (σ5 0) := (by omega); rw [hk9])) dX9_worthOfAll_30
  · refine lv_iload_n hx hb dX9_worthOfAll_14 rfl (lv_at hl 2 rfl) ?_
    refine lv_aload_n hx hb dX9_worthOfAll_15 rfl (lv_at hl 0 rfl) ?_
    refine lv_iload_n hx hb dX9_worthOfAll_16 rfl (lv_at hl 1 rfl) ?_
    refine lv_iload_n hx hb dX9_worthOfAll_17 rfl (lv_at hl 3 rfl) ?_
    refine x_calli (bc := [w9 q ad σ0 σ1 σ2 σ3 σ4 σ5 σ6 σ7 σ8 σ9 σ10 σ11 σ12 σ13 σ14 σ15 σ16 σ17 σ18 σ19 σ20 σ21 σ22 σ23 σ24 σ25 σ26 σ27 σ28 σ29 σ30]) (br := []) hM [0] [] rfl rfl rfl (by decide) (x_runV (As := [.int (nI b), .int (nI k)]) (rest := [.int (xsum (fun h => xsum (fun g => σ3 g * xlf (σ4 g) (σ19 (67 * b + 5 * h + g))) (tn (σ2 0))) k)]) hfix (c_X9_worthIn l D q ad σ0 σ1 σ2 σ3 σ4 σ5 σ6 σ7 σ8 σ9 σ10 σ11 σ12 σ13 σ14 σ15 σ16 σ17 σ18 σ19 σ20 σ21 σ22 σ23 σ24 σ25 σ26 σ27 σ28 σ29 σ30 b k (by omega) (by omega) hc2) (cwV 2 hts gX9_worthOfAll_X9_worthIn rfl rfl rfl (by decide +kernel) ⟨Nat.le_of_ble_eq_true rfl, Nat.le_of_ble_eq_true rfl⟩) hM [0] rfl rfl 0 0 rfl rfl rfl rfl rfl hl.1 rfl (Nat.le_of_ble_eq_true rfl) dX9_worthOfAll_18 ⟨Nat.le_of_ble_eq_true rfl, Nat.le_of_ble_eq_true rfl⟩) (fun r u H locs hq hM => ?_)
    subst hq
    have hM : xM D (TY q) [w9 q ad σ0 σ1 σ2 σ3 σ4 σ5 σ6 σ7 σ8 σ9 σ10 σ11 σ12 σ13 σ14 σ15 σ16 σ17 σ18 σ19 σ20 σ21 σ22 σ23 σ24 σ25 σ26 σ27 σ28 σ29 σ30] A s.heap s H locs := hM
    refine lv_iadd hx hb dX9_worthOfAll_21 ?_
    refine lv_istore_n (lv' := [(2, .int ((xsum (fun h => xsum (fun g => σ3 g * xlf (σ4 g) (σ19 (67 * b + 5 * h + g))) (tn (σ2 0))) k) + (xsum (fun g => σ3 g * xlf (σ4 g) (σ19 (67 * b + 5 * k + g))) (tn (σ2 0))))), (0, .ref (ad 0)), (1, .int (nI b)), (3, .int (nI k))]) hx hb dX9_worthOfAll_22 rfl hl (by decide) rfl (fun ls hl => ?_)
    refine lv_iinc (v := nI (k + 1)) (lv' := [(3, .int (nI (k + 1))), (2, .int ((xsum (fun h => xsum (fun g => σ3 g * xlf (σ4 g) (σ19 (67 * b + 5 * h + g))) (tn (σ2 0))) k) + (xsum (fun g => σ3 g * xlf (σ4 g) (σ19 (67 * b + 5 * k + g))) (tn (σ2 0))))), (0, .ref (ad 0)), (1, .int (nI b))]) hx hb dX9_worthOfAll_23 hl (k := 3) rfl (x_inc _ 1) (by decide) rfl (fun ls hl => ?_)
    refine lv_goto (tgt := 4) hx hb dX9_worthOfAll_26 (by decide) ?_
    have hl : lv_has ls 4 [(0, .ref (ad 0)), (1, .int (nI b)), (2, .int ((xsum (fun h => xsum (fun g => σ3 g * xlf (σ4 g) (σ19 (67 * b + 5 * h + g))) (tn (σ2 0))) k) + (xsum (fun g => σ3 g * xlf (σ4 g) (σ19 (67 * b + 5 * k + g))) (tn (σ2 0))))), (3, .int (nI (k + 1)))] := lv_sub hl [2, 3, 1, 0] rfl
    exact ih1 (k + 1) (show tn (σ5 0) - (k + 1) < tn (σ5 0) - k from by omega) (show (k + 1) ≤ tn (σ5 0) from by omega) _ _ hM _ hl

set_option maxRecDepth 20000 in
theorem ggX9_isGood_X9_in : GoodIn wsX9_isGood wsX9_in := goodIn_r _ [5] (by decide +kernel) (by decide +kernel)
set_option maxRecDepth 20000 in
theorem gX9_isGood_X9_in : GoodIn wsX9_isGood (va_wsS RX9 104 yX9_in wsX9_in) := goodIn_app (goodIn_of _ (by decide +kernel)) ggX9_isGood_X9_in
theorem dX9_isGood_0 : decode cX9_isGood 0 = .ok (.iload_n 1, 1) := by decide +kernel
theorem dX9_isGood_1 : decode cX9_isGood 1 = .ok (.i2l, 1) := by decide +kernel
theorem dX9_isGood_2 : decode cX9_isGood 2 = .ok (.lconst 0, 1) := by decide +kernel
theorem dX9_isGood_3 : decode cX9_isGood 3 = .ok (.aload_n 0, 1) := by decide +kernel
theorem dX9_isGood_4 : decode cX9_isGood 4 = .ok (.getfield 13, 3) := by decide +kernel
theorem dX9_isGood_7 : decode cX9_isGood 7 = .ok (.iconst 0, 1) := by decide +kernel
theorem dX9_isGood_8 : decode cX9_isGood 8 = .ok (.iaload, 1) := by decide +kernel
theorem dX9_isGood_9 : decode cX9_isGood 9 = .ok (.iconst 1, 1) := by decide +kernel
theorem dX9_isGood_10 : decode cX9_isGood 10 = .ok (.isub, 1) := by decide +kernel
theorem dX9_isGood_11 : decode cX9_isGood 11 = .ok (.i2l, 1) := by decide +kernel
theorem dX9_isGood_12 : decode cX9_isGood 12 = .ok (.invokestatic 104, 3) := by decide +kernel
theorem dX9_isGood_15 : decode cX9_isGood 15 = .ok (.ireturn, 1) := by decide +kernel
theorem lkX9_isGood_13 : Cond.fieldLink RX9 13 "LeftAtFiveModel" "goods" "[I" ∈ wsX9_isGood := by decide +kernel
theorem iwX9_isGood_X9 : ∀ w ∈ wsX90, w ∈ wsX9_isGood := by decide +kernel
set_option maxHeartbeats 4000000 in
set_option maxRecDepth 100000 in
theorem c_X9_isGood (l : Launch) (D : va_G) (q : Nat → ClassId) (ad : Nat → Nat) (σ0 : Int32) (σ1 : Nat → Int32) (σ2 : Nat → Int32) (σ3 : Nat → Int32) (σ4 : Nat → Int32) (σ5 : Nat → Int32) (σ6 : Nat → Int32) (σ7 : Nat → Int32) (σ8 : Nat → Int32) (σ9 : Nat → Int32) (σ10 : Nat → Int32) (σ11 : Nat → Int32) (σ12 : Nat → Int32) (σ13 : Nat → Int32) (σ14 : Nat → Int32) (σ15 : Nat → Int32) (σ16 : Nat → Int32) (σ17 : Nat → Int32) (σ18 : Nat → Int32) (σ19 : Nat → Int32) (σ20 : Int32) (σ21 : Int32) (σ22 : Int32) (σ23 : Nat → Int32) (σ24 : Int32) (σ25 : Int32) (σ26 : Nat → Int32) (σ27 : Nat → Int32) (σ28 : Nat → Int32) (σ29 : Nat → Int32) (σ30 : Nat → Int32) (g : Int32) (gz : Int) (h_gz : g.toInt = gz) (hc2 : σ2 0 = nI (tn (σ2 0)) ∧ tn (σ2 0) ≤ 5) : xC l yX9_isGood wsX9_isGood ({ frames := 1, cells := 0, slots := 0, locals := 25 }) D (TY q) [w9 q ad σ0 σ1 σ2 σ3 σ4 σ5 σ6 σ7 σ8 σ9 σ10 σ11 σ12 σ13 σ14 σ15 σ16 σ17 σ18 σ19 σ20 σ21 σ22 σ23 σ24 σ25 σ26 σ27 σ28 σ29 σ30] [.ref (ad 0), .int g] (xQi D (TY q) (fun (r : Int32) (_ : Unit) => r = zb (0 ≤ gz ∧ gz < tn (σ2 0))) (fun _ => [w9 q ad σ0 σ1 σ2 σ3 σ4 σ5 σ6 σ7 σ8 σ9 σ10 σ11 σ12 σ13 σ14 σ15 σ16 σ17 σ18 σ19 σ20 σ21 σ22 σ23 σ24 σ25 σ26 σ27 σ28 σ29 σ30])) 0 0 := by
  refine x_enter (cc := cX9_isGood) (maxL := 2) (ret := (some .boolean)) (by decide) rfl (Nat.le_of_ble_eq_true rfl) ?_
  intro p e s m below meth c A ls H locs hfix hr hlocks hinit hM hl
  obtain ⟨hx, hb, hml, hown, hts⟩ := id hfix
  have hl : lv_has ls 2 [(0, .ref (ad 0)), (1, .int g)] := hl
  refine lv_iload_n hx hb dX9_isGood_0 rfl (lv_at hl 1 rfl) ?_
  refine x_i2l hx hb dX9_isGood_1 ?_
  refine lv_lconst (v := 0) hx hb dX9_isGood_2 (by decide) ?_
  refine lv_aload_n hx hb dX9_isGood_3 rfl (lv_at hl 0 rfl) ?_
  refine x_get hx hb hts iwX9_isGood_X9 hown hM 0 0 rfl rfl rfl 2 (by decide) (hts _ lkX9_isGood_13) (fun _ h => h) rfl dX9_isGood_4 ?_
  refine lv_iconst (v := nI 0) hx hb dX9_isGood_7 (by decide) ?_
  refine x_iald hx hb hM 0 2 0 (f := σ2) rfl rfl rfl (t := 0) (by omega) (by decide) dX9_isGood_8 ?_
  refine x_cast (y := nI (tn (σ2 0))) hc2.1 ?_
  refine lv_iconst (v := nI 1) hx hb dX9_isGood_9 (by decide) ?_
  refine lv_isub hx hb dX9_isGood_10 ?_
  refine x_i2l hx hb dX9_isGood_11 ?_
  refine x_calli (bc := []) (br := [w9 q ad σ0 σ1 σ2 σ3 σ4 σ5 σ6 σ7 σ8 σ9 σ10 σ11 σ12 σ13 σ14 σ15 σ16 σ17 σ18 σ19 σ20 σ21 σ22 σ23 σ24 σ25 σ26 σ27 σ28 σ29 σ30]) hM [] [0] rfl rfl rfl (by decide) (x_runS (As := [.long g.toInt64, .long (0 : Int64), .long (((nI (tn (σ2 0))) - (nI 1)).toInt64)]) (rest := []) hfix (c_X9_in l D q g.toInt64 (0 : Int64) (((nI (tn (σ2 0))) - (nI 1)).toInt64) gz (0 : Int) (((tn (σ2 0) : Nat) : Int) - ((1 : Nat) : Int)) ((Jvm.Kit.i64_of_i32 _).trans h_gz) (by decide) ((Jvm.Kit.i64_of_i32 _).trans (pk_sub_toInt (a := tn (σ2 0)) (b := 1) (by omega) (by omega)))) (va_cwS 3 hts gX9_isGood_X9_in rfl rfl rfl (by decide +kernel) ⟨Nat.le_of_ble_eq_true rfl, Nat.le_of_ble_eq_true rfl⟩) hM [] rfl rfl rfl hl.1 rfl (Nat.le_of_ble_eq_true rfl) dX9_isGood_12 ⟨Nat.le_of_ble_eq_true rfl, Nat.le_of_ble_eq_true rfl⟩) (fun r u H locs hq hM => ?_)
  subst hq
  have hM : xM D (TY q) [w9 q ad σ0 σ1 σ2 σ3 σ4 σ5 σ6 σ7 σ8 σ9 σ10 σ11 σ12 σ13 σ14 σ15 σ16 σ17 σ18 σ19 σ20 σ21 σ22 σ23 σ24 σ25 σ26 σ27 σ28 σ29 σ30] A s.heap s H locs := hM
  exact x_zret hx hb hr hlocks () hM zb_bool (show zb ((0 : Int) ≤ gz ∧ gz ≤ (((tn (σ2 0) : Nat) : Int) - ((1 : Nat) : Int))) = zb (0 ≤ gz ∧ gz < tn (σ2 0)) from by (congr 1; apply propext; omega)) dX9_isGood_15

set_option maxRecDepth 20000 in
theorem ggX9_isHouse_X9_in : GoodIn wsX9_isHouse wsX9_in := goodIn_r _ [5] (by decide +kernel) (by decide +kernel)
set_option maxRecDepth 20000 in
theorem gX9_isHouse_X9_in : GoodIn wsX9_isHouse (va_wsS RX9 104 yX9_in wsX9_in) := goodIn_app (goodIn_of _ (by decide +kernel)) ggX9_isHouse_X9_in
theorem dX9_isHouse_0 : decode cX9_isHouse 0 = .ok (.iload_n 1, 1) := by decide +kernel
theorem dX9_isHouse_1 : decode cX9_isHouse 1 = .ok (.i2l, 1) := by decide +kernel
theorem dX9_isHouse_2 : decode cX9_isHouse 2 = .ok (.lconst 0, 1) := by decide +kernel
theorem dX9_isHouse_3 : decode cX9_isHouse 3 = .ok (.aload_n 0, 1) := by decide +kernel
theorem dX9_isHouse_4 : decode cX9_isHouse 4 = .ok (.getfield 22, 3) := by decide +kernel
theorem dX9_isHouse_7 : decode cX9_isHouse 7 = .ok (.iconst 0, 1) := by decide +kernel
theorem dX9_isHouse_8 : decode cX9_isHouse 8 = .ok (.iaload, 1) := by decide +kernel
theorem dX9_isHouse_9 : decode cX9_isHouse 9 = .ok (.iconst 1, 1) := by decide +kernel
theorem dX9_isHouse_10 : decode cX9_isHouse 10 = .ok (.isub, 1) := by decide +kernel
theorem dX9_isHouse_11 : decode cX9_isHouse 11 = .ok (.i2l, 1) := by decide +kernel
theorem dX9_isHouse_12 : decode cX9_isHouse 12 = .ok (.invokestatic 104, 3) := by decide +kernel
theorem dX9_isHouse_15 : decode cX9_isHouse 15 = .ok (.ireturn, 1) := by decide +kernel
theorem lkX9_isHouse_22 : Cond.fieldLink RX9 22 "LeftAtFiveModel" "houses" "[I" ∈ wsX9_isHouse := by decide +kernel
theorem iwX9_isHouse_X9 : ∀ w ∈ wsX90, w ∈ wsX9_isHouse := by decide +kernel
set_option maxHeartbeats 4000000 in
set_option maxRecDepth 100000 in
theorem c_X9_isHouse (l : Launch) (D : va_G) (q : Nat → ClassId) (ad : Nat → Nat) (σ0 : Int32) (σ1 : Nat → Int32) (σ2 : Nat → Int32) (σ3 : Nat → Int32) (σ4 : Nat → Int32) (σ5 : Nat → Int32) (σ6 : Nat → Int32) (σ7 : Nat → Int32) (σ8 : Nat → Int32) (σ9 : Nat → Int32) (σ10 : Nat → Int32) (σ11 : Nat → Int32) (σ12 : Nat → Int32) (σ13 : Nat → Int32) (σ14 : Nat → Int32) (σ15 : Nat → Int32) (σ16 : Nat → Int32) (σ17 : Nat → Int32) (σ18 : Nat → Int32) (σ19 : Nat → Int32) (σ20 : Int32) (σ21 : Int32) (σ22 : Int32) (σ23 : Nat → Int32) (σ24 : Int32) (σ25 : Int32) (σ26 : Nat → Int32) (σ27 : Nat → Int32) (σ28 : Nat → Int32) (σ29 : Nat → Int32) (σ30 : Nat → Int32) (h : Int32) (hz : Int) (h_hz : h.toInt = hz) (hc5 : σ5 0 = nI (tn (σ5 0)) ∧ tn (σ5 0) ≤ 5) : xC l yX9_isHouse wsX9_isHouse ({ frames := 1, cells := 0, slots := 0, locals := 25 }) D (TY q) [w9 q ad σ0 σ1 σ2 σ3 σ4 σ5 σ6 σ7 σ8 σ9 σ10 σ11 σ12 σ13 σ14 σ15 σ16 σ17 σ18 σ19 σ20 σ21 σ22 σ23 σ24 σ25 σ26 σ27 σ28 σ29 σ30] [.ref (ad 0), .int h] (xQi D (TY q) (fun (r : Int32) (_ : Unit) => r = zb (0 ≤ hz ∧ hz < tn (σ5 0))) (fun _ => [w9 q ad σ0 σ1 σ2 σ3 σ4 σ5 σ6 σ7 σ8 σ9 σ10 σ11 σ12 σ13 σ14 σ15 σ16 σ17 σ18 σ19 σ20 σ21 σ22 σ23 σ24 σ25 σ26 σ27 σ28 σ29 σ30])) 0 0 := by
  refine x_enter (cc := cX9_isHouse) (maxL := 2) (ret := (some .boolean)) (by decide) rfl (Nat.le_of_ble_eq_true rfl) ?_
  intro p e s m below meth c A ls H locs hfix hr hlocks hinit hM hl
  obtain ⟨hx, hb, hml, hown, hts⟩ := id hfix
  have hl : lv_has ls 2 [(0, .ref (ad 0)), (1, .int h)] := hl
  refine lv_iload_n hx hb dX9_isHouse_0 rfl (lv_at hl 1 rfl) ?_
  refine x_i2l hx hb dX9_isHouse_1 ?_
  refine lv_lconst (v := 0) hx hb dX9_isHouse_2 (by decide) ?_
  refine lv_aload_n hx hb dX9_isHouse_3 rfl (lv_at hl 0 rfl) ?_
  refine x_get hx hb hts iwX9_isHouse_X9 hown hM 0 0 rfl rfl rfl 5 (by decide) (hts _ lkX9_isHouse_22) (fun _ h => h) rfl dX9_isHouse_4 ?_
  refine lv_iconst (v := nI 0) hx hb dX9_isHouse_7 (by decide) ?_
  refine x_iald hx hb hM 0 5 0 (f := σ5) rfl rfl rfl (t := 0) (by omega) (by decide) dX9_isHouse_8 ?_
  refine x_cast (y := nI (tn (σ5 0))) hc5.1 ?_
  refine lv_iconst (v := nI 1) hx hb dX9_isHouse_9 (by decide) ?_
  refine lv_isub hx hb dX9_isHouse_10 ?_
  refine x_i2l hx hb dX9_isHouse_11 ?_
  refine x_calli (bc := []) (br := [w9 q ad σ0 σ1 σ2 σ3 σ4 σ5 σ6 σ7 σ8 σ9 σ10 σ11 σ12 σ13 σ14 σ15 σ16 σ17 σ18 σ19 σ20 σ21 σ22 σ23 σ24 σ25 σ26 σ27 σ28 σ29 σ30]) hM [] [0] rfl rfl rfl (by decide) (x_runS (As := [.long h.toInt64, .long (0 : Int64), .long (((nI (tn (σ5 0))) - (nI 1)).toInt64)]) (rest := []) hfix (c_X9_in l D q h.toInt64 (0 : Int64) (((nI (tn (σ5 0))) - (nI 1)).toInt64) hz (0 : Int) (((tn (σ5 0) : Nat) : Int) - ((1 : Nat) : Int)) ((Jvm.Kit.i64_of_i32 _).trans h_hz) (by decide) ((Jvm.Kit.i64_of_i32 _).trans (pk_sub_toInt (a := tn (σ5 0)) (b := 1) (by omega) (by omega)))) (va_cwS 3 hts gX9_isHouse_X9_in rfl rfl rfl (by decide +kernel) ⟨Nat.le_of_ble_eq_true rfl, Nat.le_of_ble_eq_true rfl⟩) hM [] rfl rfl rfl hl.1 rfl (Nat.le_of_ble_eq_true rfl) dX9_isHouse_12 ⟨Nat.le_of_ble_eq_true rfl, Nat.le_of_ble_eq_true rfl⟩) (fun r u H locs hq hM => ?_)
  subst hq
  have hM : xM D (TY q) [w9 q ad σ0 σ1 σ2 σ3 σ4 σ5 σ6 σ7 σ8 σ9 σ10 σ11 σ12 σ13 σ14 σ15 σ16 σ17 σ18 σ19 σ20 σ21 σ22 σ23 σ24 σ25 σ26 σ27 σ28 σ29 σ30] A s.heap s H locs := hM
  exact x_zret hx hb hr hlocks () hM zb_bool (show zb ((0 : Int) ≤ hz ∧ hz ≤ (((tn (σ5 0) : Nat) : Int) - ((1 : Nat) : Int))) = zb (0 ≤ hz ∧ hz < tn (σ5 0)) from by (congr 1; apply propext; omega)) dX9_isHouse_15
