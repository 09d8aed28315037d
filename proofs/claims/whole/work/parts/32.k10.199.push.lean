set_option maxRecDepth 20000 in
theorem ggX4_push_X4_dropLowest : GoodIn wsX4_push wsX4_dropLowest := goodIn_r _ [7, 2, 1, 31, 32] (by decide +kernel) (by decide +kernel)
set_option maxRecDepth 20000 in
theorem gX4_push_X4_dropLowest : GoodIn wsX4_push (wsV RX4 20 RX4 yX4_dropLowest wsX4_dropLowest) := goodIn_app (goodIn_of _ (by decide +kernel)) ggX4_push_X4_dropLowest
set_option maxRecDepth 20000 in
theorem ggX4_push_X1_copy : GoodIn wsX4_push wsX1_copy := goodIn_r _ [12, 13, 14, 15, 16, 17, 18, 19, 20, 21, 22, 23, 24, 25, 26, 27, 28, 29, 30, 33, 34, 35, 36, 37, 38] (by decide +kernel) (by decide +kernel)
set_option maxRecDepth 20000 in
theorem gX4_push_X1_copy : GoodIn wsX4_push (wsV RX4 23 RX1 yX1_copy wsX1_copy) := goodIn_app (goodIn_of _ (by decide +kernel)) ggX4_push_X1_copy
theorem dX4_push_0 : decode cX4_push 0 = .ok (.aload_n 0, 1) := by decide +kernel
theorem dX4_push_1 : decode cX4_push 1 = .ok (.getfield 16, 3) := by decide +kernel
theorem dX4_push_4 : decode cX4_push 4 = .ok (.aload_n 0, 1) := by decide +kernel
theorem dX4_push_5 : decode cX4_push 5 = .ok (.getfield 9, 3) := by decide +kernel
theorem dX4_push_8 : decode cX4_push 8 = .ok (.arraylength, 1) := by decide +kernel
theorem dX4_push_9 : decode cX4_push 9 = .ok (.if_icmp .lt 7, 3) := by decide +kernel
theorem dX4_push_12 : decode cX4_push 12 = .ok (.aload_n 0, 1) := by decide +kernel
theorem dX4_push_13 : decode cX4_push 13 = .ok (.invokevirtual 20, 3) := by decide +kernel
theorem dX4_push_16 : decode cX4_push 16 = .ok (.aload_n 0, 1) := by decide +kernel
theorem dX4_push_17 : decode cX4_push 17 = .ok (.getfield 16, 3) := by decide +kernel
theorem dX4_push_20 : decode cX4_push 20 = .ok (.ifCond .lt 38, 3) := by decide +kernel
theorem dX4_push_23 : decode cX4_push 23 = .ok (.aload_n 0, 1) := by decide +kernel
theorem dX4_push_24 : decode cX4_push 24 = .ok (.getfield 16, 3) := by decide +kernel
theorem dX4_push_27 : decode cX4_push 27 = .ok (.aload_n 0, 1) := by decide +kernel
theorem dX4_push_28 : decode cX4_push 28 = .ok (.getfield 9, 3) := by decide +kernel
theorem dX4_push_31 : decode cX4_push 31 = .ok (.arraylength, 1) := by decide +kernel
theorem dX4_push_32 : decode cX4_push 32 = .ok (.if_icmp .ge 26, 3) := by decide +kernel
theorem dX4_push_35 : decode cX4_push 35 = .ok (.aload_n 0, 1) := by decide +kernel
theorem dX4_push_36 : decode cX4_push 36 = .ok (.getfield 9, 3) := by decide +kernel
theorem dX4_push_39 : decode cX4_push 39 = .ok (.aload_n 0, 1) := by decide +kernel
theorem dX4_push_40 : decode cX4_push 40 = .ok (.getfield 16, 3) := by decide +kernel
theorem dX4_push_43 : decode cX4_push 43 = .ok (.aaload, 1) := by decide +kernel
theorem dX4_push_44 : decode cX4_push 44 = .ok (.aload_n 1, 1) := by decide +kernel
theorem dX4_push_45 : decode cX4_push 45 = .ok (.invokevirtual 23, 3) := by decide +kernel
theorem dX4_push_48 : decode cX4_push 48 = .ok (.aload_n 0, 1) := by decide +kernel
theorem dX4_push_49 : decode cX4_push 49 = .ok (.dup, 1) := by decide +kernel
theorem dX4_push_50 : decode cX4_push 50 = .ok (.getfield 16, 3) := by decide +kernel
theorem dX4_push_53 : decode cX4_push 53 = .ok (.iconst 1, 1) := by decide +kernel
theorem dX4_push_54 : decode cX4_push 54 = .ok (.iadd, 1) := by decide +kernel
theorem dX4_push_55 : decode cX4_push 55 = .ok (.putfield 16, 3) := by decide +kernel
theorem dX4_push_58 : decode cX4_push 58 = .ok (.return_, 1) := by decide +kernel
theorem lkX4_push_9 : Cond.fieldLink RX4 9 "LeftAtFive$Pile" "copies" "[LLeftAtFive$Kitchens;" ∈ wsX4_push := by decide +kernel
theorem lkX4_push_16 : Cond.fieldLink RX4 16 "LeftAtFive$Pile" "height" "I" ∈ wsX4_push := by decide +kernel
theorem iwX4_push_X4 : ∀ w ∈ wsX40, w ∈ wsX4_push := by decide +kernel
set_option maxHeartbeats 2000000 in
set_option maxRecDepth 100000 in
theorem c_X4_push (l : Launch) (D : va_G) (q : Nat → ClassId) (pd : Nat → Nat) (ka : Nat → Nat → Nat) (nd : Nat → Nat) (N : Nat → Int32) (K : Nat → Nat → Int32) (n : Nat) (hn : Nat) (hn8 : 1 ≤ n ∧ n ≤ 8) (hnn : hn ≤ n) : xC l yX4_push wsX4_push ({ frames := 3, cells := 0, slots := 0, locals := 82 }) D (TY q) [wp q pd ka n (nI hn), wk q nd N, wpl q ka K n] [.ref (pd 0), .ref (nd 0)] (xQv D (TY q) (fun (_ : Unit) => True) (fun _ => [wp q pd (xpA n hn ka) n (nI (xpH n hn)), wk q nd N, wpl q (xpA n hn ka) (xpK n hn K N) n])) 0 0 := by
  refine x_enter (cc := cX4_push) (maxL := 2) (ret := none) (by decide) rfl (Nat.le_of_ble_eq_true rfl) ?_
  intro p e s m below meth c A ls H locs hfix hr hlocks hinit hM hl
  obtain ⟨hx, hb, hml, hown, hts⟩ := id hfix
  have hl : lv_has ls 2 [(0, .ref (pd 0)), (1, .ref (nd 0))] := hl
  refine lv_aload_n hx hb dX4_push_0 rfl (lv_at hl 0 rfl) ?_
  refine x_get hx hb hts iwX4_push_X4 hown hM 0 0 rfl rfl rfl 1 (by decide) (hts _ lkX4_push_16) (fun _ h => h) rfl dX4_push_1 ?_
  refine lv_aload_n hx hb dX4_push_4 rfl (lv_at hl 0 rfl) ?_
  refine x_get hx hb hts iwX4_push_X4 hown hM 0 0 rfl rfl rfl 0 (by decide) (hts _ lkX4_push_9) (fun _ h => h) rfl dX4_push_5 ?_
  refine x_alen hx hb hM 0 1 3 rfl rfl rfl dX4_push_8 ?_
  refine x_icmp_lt (x := hn) (y := n) (tgt := 16) hx hb (by omega) (by omega) dX4_push_9 (by decide) (fun c1 => ?_) (fun c1 => ?_)
  · have hM : xM D (TY q) [wp q pd ka n (nI hn), wk q nd N, wpl q ka K n] A s.heap s H locs := hM
    refine lv_aload_n hx hb dX4_push_16 rfl (lv_at hl 0 rfl) ?_
    refine x_get hx hb hts iwX4_push_X4 hown hM 0 0 rfl rfl rfl 1 (by decide) (hts _ lkX4_push_16) (fun _ h => h) rfl dX4_push_17 ?_
    refine x_if_lt (x := hn) (tgt := 58) hx hb (by omega) dX4_push_20 (by decide) ?_
    refine lv_aload_n hx hb dX4_push_23 rfl (lv_at hl 0 rfl) ?_
    refine x_get hx hb hts iwX4_push_X4 hown hM 0 0 rfl rfl rfl 1 (by decide) (hts _ lkX4_push_16) (fun _ h => h) rfl dX4_push_24 ?_
    refine lv_aload_n hx hb dX4_push_27 rfl (lv_at hl 0 rfl) ?_
    refine x_get hx hb hts iwX4_push_X4 hown hM 0 0 rfl rfl rfl 0 (by decide) (hts _ lkX4_push_9) (fun _ h => h) rfl dX4_push_28 ?_
    refine x_alen hx hb hM 0 1 3 rfl rfl rfl dX4_push_31 ?_
    refine x_icmp_ge (x := hn) (y := n) (tgt := 58) hx hb (by omega) (by omega) dX4_push_32 (by decide) (fun c2 => ?_) (fun c2 => ?_)
    · exfalso; omega
    · refine lv_aload_n hx hb dX4_push_35 rfl (lv_at hl 0 rfl) ?_
      refine x_get hx hb hts iwX4_push_X4 hown hM 0 0 rfl rfl rfl 0 (by decide) (hts _ lkX4_push_9) (fun _ h => h) rfl dX4_push_36 ?_
      refine lv_aload_n hx hb dX4_push_39 rfl (lv_at hl 0 rfl) ?_
      refine x_get hx hb hts iwX4_push_X4 hown hM 0 0 rfl rfl rfl 1 (by decide) (hts _ lkX4_push_16) (fun _ h => h) rfl dX4_push_40 ?_
      refine x_aald hx hb hM 0 1 3 rfl rfl rfl (t := hn) (v := (ka hn) 0) (by omega) (by omega) rfl dX4_push_43 ?_
      have hM := hM.re (x_fl1 (X := [wp q pd ka n (nI hn), wk q nd N]) (Y := []) (wpl_cut (q := q) (ka := ka) (K := K) (h := hn) (n := n) (by omega)))
      have hM : xM D (TY q) [wp q pd ka n (nI hn), wk q nd N, wpl q ka K hn, wk q (ka hn) (K hn), wplR q ka K hn n] A s.heap s H locs := hM
      refine lv_aload_n hx hb dX4_push_44 rfl (lv_at hl 1 rfl) ?_
      refine x_callv (bc := [wk q (ka hn) (K hn), wk q nd N]) (br := [wp q pd ka n (nI hn), wpl q ka K hn, wplR q ka K hn n]) hM [3, 1] [0, 2, 4] rfl rfl rfl (by decide) (x_runV (As := [.ref (nd 0)]) (rest := []) hfix (c_X1_copy l D q (ka hn) (K hn) nd N) (cwV 1 hts gX4_push_X1_copy rfl rfl rfl (by decide +kernel) ⟨Nat.le_of_ble_eq_true rfl, Nat.le_of_ble_eq_true rfl⟩) hM [3, 1] rfl rfl 3 0 rfl rfl rfl rfl rfl hl.1 rfl (Nat.le_of_ble_eq_true rfl) dX4_push_45 ⟨Nat.le_of_ble_eq_true rfl, Nat.le_of_ble_eq_true rfl⟩) (fun u H locs hq hM => ?_)
      have hM : xM D (TY q) [wp q pd ka n (nI hn), wpl q ka K hn, wplR q ka K hn n, wk q (ka hn) N, wk q nd N] A s.heap s H locs := hM
      have hM : xM D (TY q) [wp q pd ka n (nI hn), wk q nd N, wpl q ka K hn, wk q (ka hn) N, wplR q ka K hn n] A s.heap s H locs := hM.sel [0, 4, 1, 3, 2] rfl rfl
      have hM := hM.re (x_fl1 (X := [wp q pd ka n (nI hn), wk q nd N]) (Y := []) (wpl_upd (q := q) (ka := ka) (K := K) (N := N) (h := hn) (n := n) (by omega))).symm
      have hM : xM D (TY q) [wp q pd ka n (nI hn), wk q nd N, wpl q ka (updR K hn N) n] A s.heap s H locs := hM
      refine lv_aload_n hx hb dX4_push_48 rfl (lv_at hl 0 rfl) ?_
      refine lv_dup hx hb dX4_push_49 rfl ?_
      refine x_get hx hb hts iwX4_push_X4 hown hM 0 0 rfl rfl rfl 1 (by decide) (hts _ lkX4_push_16) (fun _ h => h) rfl dX4_push_50 ?_
      refine lv_iconst (v := nI 1) hx hb dX4_push_53 (by decide) ?_
      refine x_iadd (x := hn) (y := 1) hx hb dX4_push_54 ?_
      refine x_put hx hb hts iwX4_push_X4 tyX4 tyX4_ok nmX4 hown hM 0 0 rfl rfl rfl 1 (by decide) (hts _ lkX4_push_16) (fun _ h => h) rfl (ty := .int) (by decide +kernel) rfl rfl (Nat.le_of_ble_eq_true rfl) [wp q pd ka n (nI (hn + 1)), wk q nd N, wpl q ka (updR K hn N) n] rfl dX4_push_55 (fun H locs hM => ?_)
      have e3 : ((ka) : Nat → Nat → Nat) = ((xpA n hn ka)) := by (first | exact (if_pos (by omega)).symm | exact (if_neg (by omega)).symm)
      have hM : xM D (TY q) [wp q pd (xpA n hn ka) n (nI (hn + 1)), wk q nd N, wpl q ka (updR K hn N) n] A s.heap s H locs := Eq.mp (congrArg (fun z9 => xM D (TY q) [wp q pd z9 n (nI (hn + 1)), wk q nd N, wpl q ka (updR K hn N) n] A s.heap s H locs) e3) hM
      have e4 : ((nI (hn + 1)) : Int32) = (nI (xpH n hn)) := by (congr 1; unfold xpH; first | rw [if_pos (by omega)] | (rw [if_neg (by omega)]; omega))
      have hM : xM D (TY q) [wp q pd (xpA n hn ka) n (nI (xpH n hn)), wk q nd N, wpl q ka (updR K hn N) n] A s.heap s H locs := Eq.mp (congrArg (fun z9 => xM D (TY q) [wp q pd (xpA n hn ka) n z9, wk q nd N, wpl q ka (updR K hn N) n] A s.heap s H locs) e4) hM
      have e5 : ((ka) : Nat → Nat → Nat) = ((xpA n hn ka)) := by (first | exact (if_pos (by omega)).symm | exact (if_neg (by omega)).symm)
      have hM : xM D (TY q) [wp q pd (xpA n hn ka) n (nI (xpH n hn)), wk q nd N, wpl q (xpA n hn ka) (updR K hn N) n] A s.heap s H locs := Eq.mp (congrArg (fun z9 => xM D (TY q) [wp q pd (xpA n hn ka) n (nI (xpH n hn)), wk q nd N, wpl q z9 (updR K hn N) n] A s.heap s H locs) e5) hM
      have e6 : (((updR K hn N)) : Nat → Nat → Int32) = ((xpK n hn K N)) := by (first | exact (if_pos (by omega)).symm | exact (if_neg (by omega)).symm)
      have hM : xM D (TY q) [wp q pd (xpA n hn ka) n (nI (xpH n hn)), wk q nd N, wpl q (xpA n hn ka) (xpK n hn K N) n] A s.heap s H locs := Eq.mp (congrArg (fun z9 => xM D (TY q) [wp q pd (xpA n hn ka) n (nI (xpH n hn)), wk q nd N, wpl q (xpA n hn ka) z9 n] A s.heap s H locs) e6) hM
      exact x_vret hx hb hr hlocks () hM trivial dX4_push_58
  · refine lv_aload_n hx hb dX4_push_12 rfl (lv_at hl 0 rfl) ?_
    refine x_callv (bc := [wp q pd ka n (nI hn), wpl q ka K n]) (br := [wk q nd N]) hM [0, 2] [1] rfl rfl rfl (by decide) (x_runV (As := []) (rest := []) hfix (c_X4_dropLowest l D q pd ka K n hn (by omega)) (cwV 0 hts gX4_push_X4_dropLowest rfl rfl rfl (by decide +kernel) ⟨Nat.le_of_ble_eq_true rfl, Nat.le_of_ble_eq_true rfl⟩) hM [0, 2] rfl rfl 0 0 rfl rfl rfl rfl rfl hl.1 rfl (Nat.le_of_ble_eq_true rfl) dX4_push_13 ⟨Nat.le_of_ble_eq_true rfl, Nat.le_of_ble_eq_true rfl⟩) (fun u H locs hq hM => ?_)
    have hM : xM D (TY q) [wk q nd N, wp q pd (rotA n ka) n (nI (n - 1)), wpl q ka K n] A s.heap s H locs := hM
    have hM : xM D (TY q) [wp q pd (rotA n ka) n (nI (n - 1)), wk q nd N, wpl q ka K n] A s.heap s H locs := hM.sel [1, 0, 2] rfl rfl
    have hM := hM.re (x_fl1 (X := [wp q pd (rotA n ka) n (nI (n - 1)), wk q nd N]) (Y := []) (wpl_cut (q := q) (ka := ka) (K := K) (h := 0) (n := n) (by omega)))
    have hM : xM D (TY q) ([wp q pd (rotA n ka) n (nI (n - 1)), wk q nd N] ++ [wpl q ka K 0, wk q (ka 0) (K 0), wplR q ka K 0 n]) A s.heap s H locs := hM
    have hM : xM D (TY q) ([wp q pd (rotA n ka) n (nI (n - 1)), wk q nd N] ++ [[], wplR q ka K 0 n, wk q (ka 0) (K 0)]) A s.heap s H locs := hM.sel [0, 1, 2, 4, 3] rfl rfl
    have hM := hM.re (x_fl1 (X := [wp q pd (rotA n ka) n (nI (n - 1)), wk q nd N]) (Y := []) (P := []) (wpl_rot (q := q) (ka := ka) (K := K) (n := n) (by omega))).symm
    have hM : xM D (TY q) [wp q pd (rotA n ka) n (nI (n - 1)), wk q nd N, wpl q (rotA n ka) (rotK n K) n] A s.heap s H locs := hM
    refine lv_aload_n hx hb dX4_push_16 rfl (lv_at hl 0 rfl) ?_
    refine x_get hx hb hts iwX4_push_X4 hown hM 0 0 rfl rfl rfl 1 (by decide) (hts _ lkX4_push_16) (fun _ h => h) rfl dX4_push_17 ?_
    refine x_if_lt (x := n - 1) (tgt := 58) hx hb (by omega) dX4_push_20 (by decide) ?_
    refine lv_aload_n hx hb dX4_push_23 rfl (lv_at hl 0 rfl) ?_
    refine x_get hx hb hts iwX4_push_X4 hown hM 0 0 rfl rfl rfl 1 (by decide) (hts _ lkX4_push_16) (fun _ h => h) rfl dX4_push_24 ?_
    refine lv_aload_n hx hb dX4_push_27 rfl (lv_at hl 0 rfl) ?_
    refine x_get hx hb hts iwX4_push_X4 hown hM 0 0 rfl rfl rfl 0 (by decide) (hts _ lkX4_push_9) (fun _ h => h) rfl dX4_push_28 ?_
    refine x_alen hx hb hM 0 1 3 rfl rfl rfl dX4_push_31 ?_
    refine x_icmp_ge (x := n - 1) (y := n) (tgt := 58) hx hb (by omega) (by omega) dX4_push_32 (by decide) (fun c7 => ?_) (fun c7 => ?_)
    · exfalso; omega
    · refine lv_aload_n hx hb dX4_push_35 rfl (lv_at hl 0 rfl) ?_
      refine x_get hx hb hts iwX4_push_X4 hown hM 0 0 rfl rfl rfl 0 (by decide) (hts _ lkX4_push_9) (fun _ h => h) rfl dX4_push_36 ?_
      refine lv_aload_n hx hb dX4_push_39 rfl (lv_at hl 0 rfl) ?_
      refine x_get hx hb hts iwX4_push_X4 hown hM 0 0 rfl rfl rfl 1 (by decide) (hts _ lkX4_push_16) (fun _ h => h) rfl dX4_push_40 ?_
      refine x_aald hx hb hM 0 1 3 rfl rfl rfl (t := n - 1) (v := ((rotA n ka) (n - 1)) 0) (by omega) (by omega) rfl dX4_push_43 ?_
      have hM := hM.re (x_fl1 (X := [wp q pd (rotA n ka) n (nI (n - 1)), wk q nd N]) (Y := []) (wpl_cut (q := q) (ka := (rotA n ka)) (K := (rotK n K)) (h := (n - 1)) (n := n) (by omega)))
      have hM : xM D (TY q) [wp q pd (rotA n ka) n (nI (n - 1)), wk q nd N, wpl q (rotA n ka) (rotK n K) (n - 1), wk q ((rotA n ka) (n - 1)) ((rotK n K) (n - 1)), wplR q (rotA n ka) (rotK n K) (n - 1) n] A s.heap s H locs := hM
      refine lv_aload_n hx hb dX4_push_44 rfl (lv_at hl 1 rfl) ?_
      refine x_callv (bc := [wk q ((rotA n ka) (n - 1)) ((rotK n K) (n - 1)), wk q nd N]) (br := [wp q pd (rotA n ka) n (nI (n - 1)), wpl q (rotA n ka) (rotK n K) (n - 1), wplR q (rotA n ka) (rotK n K) (n - 1) n]) hM [3, 1] [0, 2, 4] rfl rfl rfl (by decide) (x_runV (As := [.ref (nd 0)]) (rest := []) hfix (c_X1_copy l D q ((rotA n ka) (n - 1)) ((rotK n K) (n - 1)) nd N) (cwV 1 hts gX4_push_X1_copy rfl rfl rfl (by decide +kernel) ⟨Nat.le_of_ble_eq_true rfl, Nat.le_of_ble_eq_true rfl⟩) hM [3, 1] rfl rfl 3 0 rfl rfl rfl rfl rfl hl.1 rfl (Nat.le_of_ble_eq_true rfl) dX4_push_45 ⟨Nat.le_of_ble_eq_true rfl, Nat.le_of_ble_eq_true rfl⟩) (fun u H locs hq hM => ?_)
      have hM : xM D (TY q) [wp q pd (rotA n ka) n (nI (n - 1)), wpl q (rotA n ka) (rotK n K) (n - 1), wplR q (rotA n ka) (rotK n K) (n - 1) n, wk q ((rotA n ka) (n - 1)) N, wk q nd N] A s.heap s H locs := hM
      have hM : xM D (TY q) [wp q pd (rotA n ka) n (nI (n - 1)), wk q nd N, wpl q (rotA n ka) (rotK n K) (n - 1), wk q ((rotA n ka) (n - 1)) N, wplR q (rotA n ka) (rotK n K) (n - 1) n] A s.heap s H locs := hM.sel [0, 4, 1, 3, 2] rfl rfl
      have hM := hM.re (x_fl1 (X := [wp q pd (rotA n ka) n (nI (n - 1)), wk q nd N]) (Y := []) (wpl_upd (q := q) (ka := (rotA n ka)) (K := (rotK n K)) (N := N) (h := (n - 1)) (n := n) (by omega))).symm
      have hM : xM D (TY q) [wp q pd (rotA n ka) n (nI (n - 1)), wk q nd N, wpl q (rotA n ka) (updR (rotK n K) (n - 1) N) n] A s.heap s H locs := hM
      refine lv_aload_n hx hb dX4_push_48 rfl (lv_at hl 0 rfl) ?_
      refine lv_dup hx hb dX4_push_49 rfl ?_
      refine x_get hx hb hts iwX4_push_X4 hown hM 0 0 rfl rfl rfl 1 (by decide) (hts _ lkX4_push_16) (fun _ h => h) rfl dX4_push_50 ?_
      refine lv_iconst (v := nI 1) hx hb dX4_push_53 (by decide) ?_
      refine x_iadd (x := n - 1) (y := 1) hx hb dX4_push_54 ?_
      refine x_put hx hb hts iwX4_push_X4 tyX4 tyX4_ok nmX4 hown hM 0 0 rfl rfl rfl 1 (by decide) (hts _ lkX4_push_16) (fun _ h => h) rfl (ty := .int) (by decide +kernel) rfl rfl (Nat.le_of_ble_eq_true rfl) [wp q pd (rotA n ka) n (nI (n - 1 + 1)), wk q nd N, wpl q (rotA n ka) (updR (rotK n K) (n - 1) N) n] rfl dX4_push_55 (fun H locs hM => ?_)
      have e8 : ((rotA n ka) : Nat → Nat → Nat) = ((xpA n hn ka)) := by (first | exact (if_pos (by omega)).symm | exact (if_neg (by omega)).symm)
      have hM : xM D (TY q) [wp q pd (xpA n hn ka) n (nI (n - 1 + 1)), wk q nd N, wpl q (rotA n ka) (updR (rotK n K) (n - 1) N) n] A s.heap s H locs := Eq.mp (congrArg (fun z9 => xM D (TY q) [wp q pd z9 n (nI (n - 1 + 1)), wk q nd N, wpl q (rotA n ka) (updR (rotK n K) (n - 1) N) n] A s.heap s H locs) e8) hM
      have e9 : ((nI (n - 1 + 1)) : Int32) = (nI (xpH n hn)) := by (congr 1; unfold xpH; first | rw [if_pos (by omega)] | (rw [if_neg (by omega)]; omega))
      have hM : xM D (TY q) [wp q pd (xpA n hn ka) n (nI (xpH n hn)), wk q nd N, wpl q (rotA n ka) (updR (rotK n K) (n - 1) N) n] A s.heap s H locs := Eq.mp (congrArg (fun z9 => xM D (TY q) [wp q pd (xpA n hn ka) n z9, wk q nd N, wpl q (rotA n ka) (updR (rotK n K) (n - 1) N) n] A s.heap s H locs) e9) hM
      have e10 : (((rotA n ka)) : Nat → Nat → Nat) = ((xpA n hn ka)) := by (first | exact (if_pos (by omega)).symm | exact (if_neg (by omega)).symm)
      have hM : xM D (TY q) [wp q pd (xpA n hn ka) n (nI (xpH n hn)), wk q nd N, wpl q (xpA n hn ka) (updR (rotK n K) (n - 1) N) n] A s.heap s H locs := Eq.mp (congrArg (fun z9 => xM D (TY q) [wp q pd (xpA n hn ka) n (nI (xpH n hn)), wk q nd N, wpl q z9 (updR (rotK n K) (n - 1) N) n] A s.heap s H locs) e10) hM
      have e11 : (((updR (rotK n K) (n - 1) N)) : Nat → Nat → Int32) = ((xpK n hn K N)) := by (first | exact (if_pos (by omega)).symm | exact (if_neg (by omega)).symm)
      have hM : xM D (TY q) [wp q pd (xpA n hn ka) n (nI (xpH n hn)), wk q nd N, wpl q (xpA n hn ka) (xpK n hn K N) n] A s.heap s H locs := Eq.mp (congrArg (fun z9 => xM D (TY q) [wp q pd (xpA n hn ka) n (nI (xpH n hn)), wk q nd N, wpl q (xpA n hn ka) z9 n] A s.heap s H locs) e11) hM
      exact x_vret hx hb hr hlocks () hM trivial dX4_push_58
