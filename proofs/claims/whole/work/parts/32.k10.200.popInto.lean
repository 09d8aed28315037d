set_option maxRecDepth 20000 in
theorem ggX4_popInto_X1_copy : GoodIn wsX4_popInto wsX1_copy := goodIn_r _ [7, 8, 9, 10, 11, 12, 13, 14, 15, 16, 17, 18, 19, 20, 21, 22, 23, 24, 25, 28, 29, 30, 31, 32, 33] (by decide +kernel) (by decide +kernel)
set_option maxRecDepth 20000 in
theorem gX4_popInto_X1_copy : GoodIn wsX4_popInto (wsV RX4 23 RX1 yX1_copy wsX1_copy) := goodIn_app (goodIn_of _ (by decide +kernel)) ggX4_popInto_X1_copy
theorem dX4_popInto_0 : decode cX4_popInto 0 = .ok (.aload_n 0, 1) := by decide +kernel
theorem dX4_popInto_1 : decode cX4_popInto 1 = .ok (.getfield 16, 3) := by decide +kernel
theorem dX4_popInto_4 : decode cX4_popInto 4 = .ok (.iconst 1, 1) := by decide +kernel
theorem dX4_popInto_5 : decode cX4_popInto 5 = .ok (.if_icmp .lt 15, 3) := by decide +kernel
theorem dX4_popInto_8 : decode cX4_popInto 8 = .ok (.aload_n 0, 1) := by decide +kernel
theorem dX4_popInto_9 : decode cX4_popInto 9 = .ok (.getfield 16, 3) := by decide +kernel
theorem dX4_popInto_12 : decode cX4_popInto 12 = .ok (.aload_n 0, 1) := by decide +kernel
theorem dX4_popInto_13 : decode cX4_popInto 13 = .ok (.getfield 9, 3) := by decide +kernel
theorem dX4_popInto_16 : decode cX4_popInto 16 = .ok (.arraylength, 1) := by decide +kernel
theorem dX4_popInto_17 : decode cX4_popInto 17 = .ok (.if_icmp .le 5, 3) := by decide +kernel
theorem dX4_popInto_20 : decode cX4_popInto 20 = .ok (.iconst 0, 1) := by decide +kernel
theorem dX4_popInto_21 : decode cX4_popInto 21 = .ok (.ireturn, 1) := by decide +kernel
theorem dX4_popInto_22 : decode cX4_popInto 22 = .ok (.aload_n 0, 1) := by decide +kernel
theorem dX4_popInto_23 : decode cX4_popInto 23 = .ok (.dup, 1) := by decide +kernel
theorem dX4_popInto_24 : decode cX4_popInto 24 = .ok (.getfield 16, 3) := by decide +kernel
theorem dX4_popInto_27 : decode cX4_popInto 27 = .ok (.iconst 1, 1) := by decide +kernel
theorem dX4_popInto_28 : decode cX4_popInto 28 = .ok (.isub, 1) := by decide +kernel
theorem dX4_popInto_29 : decode cX4_popInto 29 = .ok (.putfield 16, 3) := by decide +kernel
theorem dX4_popInto_32 : decode cX4_popInto 32 = .ok (.aload_n 1, 1) := by decide +kernel
theorem dX4_popInto_33 : decode cX4_popInto 33 = .ok (.aload_n 0, 1) := by decide +kernel
theorem dX4_popInto_34 : decode cX4_popInto 34 = .ok (.getfield 9, 3) := by decide +kernel
theorem dX4_popInto_37 : decode cX4_popInto 37 = .ok (.aload_n 0, 1) := by decide +kernel
theorem dX4_popInto_38 : decode cX4_popInto 38 = .ok (.getfield 16, 3) := by decide +kernel
theorem dX4_popInto_41 : decode cX4_popInto 41 = .ok (.aaload, 1) := by decide +kernel
theorem dX4_popInto_42 : decode cX4_popInto 42 = .ok (.invokevirtual 23, 3) := by decide +kernel
theorem dX4_popInto_45 : decode cX4_popInto 45 = .ok (.iconst 1, 1) := by decide +kernel
theorem dX4_popInto_46 : decode cX4_popInto 46 = .ok (.ireturn, 1) := by decide +kernel
theorem lkX4_popInto_9 : Cond.fieldLink RX4 9 "LeftAtFive$Pile" "copies" "[LLeftAtFive$Kitchens;" ∈ wsX4_popInto := by decide +kernel
theorem lkX4_popInto_16 : Cond.fieldLink RX4 16 "LeftAtFive$Pile" "height" "I" ∈ wsX4_popInto := by decide +kernel
theorem iwX4_popInto_X4 : ∀ w ∈ wsX40, w ∈ wsX4_popInto := by decide +kernel
set_option maxHeartbeats 2000000 in
set_option maxRecDepth 100000 in
theorem c_X4_popInto (l : Launch) (D : va_G) (q : Nat → ClassId) (pd : Nat → Nat) (ka : Nat → Nat → Nat) (nd : Nat → Nat) (N : Nat → Int32) (K : Nat → Nat → Int32) (n : Nat) (hn : Nat) (hn8 : 1 ≤ n ∧ n ≤ 8) (hnn : hn ≤ n) : xC l yX4_popInto wsX4_popInto ({ frames := 3, cells := 0, slots := 0, locals := 82 }) D (TY q) [wp q pd ka n (nI hn), wk q nd N, wpl q ka K n] [.ref (pd 0), .ref (nd 0)] (xQi D (TY q) (fun (r : Int32) (_ : Unit) => r = zb (1 ≤ hn)) (fun _ => [wp q pd ka n (nI (hn - 1)), wk q nd (if 1 ≤ hn then K (hn - 1) else N), wpl q ka K n])) 0 0 := by
  refine x_enter (cc := cX4_popInto) (maxL := 2) (ret := (some .boolean)) (by decide) rfl (Nat.le_of_ble_eq_true rfl) ?_
  intro p e s m below meth c A ls H locs hfix hr hlocks hinit hM hl
  obtain ⟨hx, hb, hml, hown, hts⟩ := id hfix
  have hl : lv_has ls 2 [(0, .ref (pd 0)), (1, .ref (nd 0))] := hl
  refine lv_aload_n hx hb dX4_popInto_0 rfl (lv_at hl 0 rfl) ?_
  refine x_get hx hb hts iwX4_popInto_X4 hown hM 0 0 rfl rfl rfl 1 (by decide) (hts _ lkX4_popInto_16) (fun _ h => h) rfl dX4_popInto_1 ?_
  refine lv_iconst (v := nI 1) hx hb dX4_popInto_4 (by decide) ?_
  refine x_icmp_lt (x := hn) (y := 1) (tgt := 20) hx hb (by omega) (by omega) dX4_popInto_5 (by decide) (fun c1 => ?_) (fun c1 => ?_)
  · have h09 : ¬ 1 ≤ hn := by omega
    refine lv_iconst (v := nI 0) hx hb dX4_popInto_20 (by decide) ?_
    have e2 : ((nI hn) : Int32) = (nI (hn - 1)) := by (first | rfl | (congr 1; omega))
    have hM : xM D (TY q) [wp q pd ka n (nI (hn - 1)), wk q nd N, wpl q ka K n] A s.heap s H locs := Eq.mp (congrArg (fun z9 => xM D (TY q) [wp q pd ka n z9, wk q nd N, wpl q ka K n] A s.heap s H locs) e2) hM
    have e3 : wk q nd N = wk q nd (if 1 ≤ hn then K (hn - 1) else N) := congrArg (wk q nd) (show (N : Nat → Int32) = (if 1 ≤ hn then K (hn - 1) else N) from by (first | exact (if_pos (by omega)).symm | exact (if_neg (by omega)).symm))
    have hM : xM D (TY q) [wp q pd ka n (nI (hn - 1)), wk q nd (if 1 ≤ hn then K (hn - 1) else N), wpl q ka K n] A s.heap s H locs := Eq.mp (congrArg (fun z9 => xM D (TY q) [wp q pd ka n (nI (hn - 1)), z9, wpl q ka K n] A s.heap s H locs) e3) hM
    exact x_zret hx hb hr hlocks () hM rfl (show nI 0 = zb (1 ≤ hn) from by (first | exact zb_t' (by omega) | exact zb_f' (by omega))) dX4_popInto_21
  · refine lv_aload_n hx hb dX4_popInto_8 rfl (lv_at hl 0 rfl) ?_
    refine x_get hx hb hts iwX4_popInto_X4 hown hM 0 0 rfl rfl rfl 1 (by decide) (hts _ lkX4_popInto_16) (fun _ h => h) rfl dX4_popInto_9 ?_
    refine lv_aload_n hx hb dX4_popInto_12 rfl (lv_at hl 0 rfl) ?_
    refine x_get hx hb hts iwX4_popInto_X4 hown hM 0 0 rfl rfl rfl 0 (by decide) (hts _ lkX4_popInto_9) (fun _ h => h) rfl dX4_popInto_13 ?_
    refine x_alen hx hb hM 0 1 3 rfl rfl rfl dX4_popInto_16 ?_
    refine x_icmp_le (x := hn) (y := n) (tgt := 22) hx hb (by omega) (by omega) dX4_popInto_17 (by decide) (fun c4 => ?_) (fun c4 => ?_)
    · refine lv_aload_n hx hb dX4_popInto_22 rfl (lv_at hl 0 rfl) ?_
      refine lv_dup hx hb dX4_popInto_23 rfl ?_
      refine x_get hx hb hts iwX4_popInto_X4 hown hM 0 0 rfl rfl rfl 1 (by decide) (hts _ lkX4_popInto_16) (fun _ h => h) rfl dX4_popInto_24 ?_
      refine lv_iconst (v := nI 1) hx hb dX4_popInto_27 (by decide) ?_
      refine x_isub (x := hn) (y := 1) hx hb (by omega) dX4_popInto_28 ?_
      refine x_put hx hb hts iwX4_popInto_X4 tyX4 tyX4_ok nmX4 hown hM 0 0 rfl rfl rfl 1 (by decide) (hts _ lkX4_popInto_16) (fun _ h => h) rfl (ty := .int) (by decide +kernel) rfl rfl (Nat.le_of_ble_eq_true rfl) [wp q pd ka n (nI (hn - 1)), wk q nd N, wpl q ka K n] rfl dX4_popInto_29 (fun H locs hM => ?_)
      refine lv_aload_n hx hb dX4_popInto_32 rfl (lv_at hl 1 rfl) ?_
      refine lv_aload_n hx hb dX4_popInto_33 rfl (lv_at hl 0 rfl) ?_
      refine x_get hx hb hts iwX4_popInto_X4 hown hM 0 0 rfl rfl rfl 0 (by decide) (hts _ lkX4_popInto_9) (fun _ h => h) rfl dX4_popInto_34 ?_
      refine lv_aload_n hx hb dX4_popInto_37 rfl (lv_at hl 0 rfl) ?_
      refine x_get hx hb hts iwX4_popInto_X4 hown hM 0 0 rfl rfl rfl 1 (by decide) (hts _ lkX4_popInto_16) (fun _ h => h) rfl dX4_popInto_38 ?_
      refine x_aald hx hb hM 0 1 3 rfl rfl rfl (t := hn - 1) (v := (ka (hn - 1)) 0) (by omega) (by omega) rfl dX4_popInto_41 ?_
      have hM := hM.re (x_fl1 (X := [wp q pd ka n (nI (hn - 1)), wk q nd N]) (Y := []) (wpl_cut (q := q) (ka := ka) (K := K) (h := (hn - 1)) (n := n) (by omega)))
      have hM : xM D (TY q) [wp q pd ka n (nI (hn - 1)), wk q nd N, wpl q ka K (hn - 1), wk q (ka (hn - 1)) (K (hn - 1)), wplR q ka K (hn - 1) n] A s.heap s H locs := hM
      refine x_callv (bc := [wk q nd N, wk q (ka (hn - 1)) (K (hn - 1))]) (br := [wp q pd ka n (nI (hn - 1)), wpl q ka K (hn - 1), wplR q ka K (hn - 1) n]) hM [1, 3] [0, 2, 4] rfl rfl rfl (by decide) (x_runV (As := [.ref ((ka (hn - 1)) 0)]) (rest := []) hfix (c_X1_copy l D q nd N (ka (hn - 1)) (K (hn - 1))) (cwV 1 hts gX4_popInto_X1_copy rfl rfl rfl (by decide +kernel) ⟨Nat.le_of_ble_eq_true rfl, Nat.le_of_ble_eq_true rfl⟩) hM [1, 3] rfl rfl 1 0 rfl rfl rfl rfl rfl hl.1 rfl (Nat.le_of_ble_eq_true rfl) dX4_popInto_42 ⟨Nat.le_of_ble_eq_true rfl, Nat.le_of_ble_eq_true rfl⟩) (fun u H locs hq hM => ?_)
      have hM : xM D (TY q) [wp q pd ka n (nI (hn - 1)), wpl q ka K (hn - 1), wplR q ka K (hn - 1) n, wk q nd (K (hn - 1)), wk q (ka (hn - 1)) (K (hn - 1))] A s.heap s H locs := hM
      have hM : xM D (TY q) [wp q pd ka n (nI (hn - 1)), wk q nd (K (hn - 1)), wpl q ka K (hn - 1), wk q (ka (hn - 1)) (K (hn - 1)), wplR q ka K (hn - 1) n] A s.heap s H locs := hM.sel [0, 3, 1, 4, 2] rfl rfl
      have hM := hM.re (x_fl1 (X := [wp q pd ka n (nI (hn - 1)), wk q nd (K (hn - 1))]) (Y := []) (wpl_cut (q := q) (ka := ka) (K := K) (h := (hn - 1)) (n := n) (by omega))).symm
      have hM : xM D (TY q) [wp q pd ka n (nI (hn - 1)), wk q nd (K (hn - 1)), wpl q ka K n] A s.heap s H locs := hM
      refine lv_iconst (v := nI 1) hx hb dX4_popInto_45 (by decide) ?_
      have e5 : wk q nd (K (hn - 1)) = wk q nd (if 1 ≤ hn then K (hn - 1) else N) := congrArg (wk q nd) (show ((K (hn - 1)) : Nat → Int32) = (if 1 ≤ hn then K (hn - 1) else N) from by (first | exact (if_pos (by omega)).symm | exact (if_neg (by omega)).symm))
      have hM : xM D (TY q) [wp q pd ka n (nI (hn - 1)), wk q nd (if 1 ≤ hn then K (hn - 1) else N), wpl q ka K n] A s.heap s H locs := Eq.mp (congrArg (fun z9 => xM D (TY q) [wp q pd ka n (nI (hn - 1)), z9, wpl q ka K n] A s.heap s H locs) e5) hM
      exact x_zret hx hb hr hlocks () hM rfl (show nI 1 = zb (1 ≤ hn) from by (first | exact zb_t' (by omega) | exact zb_f' (by omega))) dX4_popInto_46
    · have h09 : ¬ 1 ≤ hn := by omega
      refine lv_iconst (v := nI 0) hx hb dX4_popInto_20 (by decide) ?_
      have e6 : ((nI hn) : Int32) = (nI (hn - 1)) := by (first | rfl | (congr 1; omega))
      have hM : xM D (TY q) [wp q pd ka n (nI (hn - 1)), wk q nd N, wpl q ka K n] A s.heap s H locs := Eq.mp (congrArg (fun z9 => xM D (TY q) [wp q pd ka n z9, wk q nd N, wpl q ka K n] A s.heap s H locs) e6) hM
      have e7 : wk q nd N = wk q nd (if 1 ≤ hn then K (hn - 1) else N) := congrArg (wk q nd) (show (N : Nat → Int32) = (if 1 ≤ hn then K (hn - 1) else N) from by (first | exact (if_pos (by omega)).symm | exact (if_neg (by omega)).symm))
      have hM : xM D (TY q) [wp q pd ka n (nI (hn - 1)), wk q nd (if 1 ≤ hn then K (hn - 1) else N), wpl q ka K n] A s.heap s H locs := Eq.mp (congrArg (fun z9 => xM D (TY q) [wp q pd ka n (nI (hn - 1)), z9, wpl q ka K n] A s.heap s H locs) e7) hM
      exact x_zret hx hb hr hlocks () hM rfl (show nI 0 = zb (1 ≤ hn) from by (first | exact zb_t' (by omega) | exact zb_f' (by omega))) dX4_popInto_21
