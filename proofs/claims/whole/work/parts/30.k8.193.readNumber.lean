set_option maxRecDepth 20000 in
theorem ggX2_readNumber_X2_figureHere : GoodIn wsX2_readNumber wsX2_figureHere := goodIn_r _ [6, 7, 8, 9, 5, 10, 1, 11, 12, 13, 14, 15, 16] (by decide +kernel) (by decide +kernel)
set_option maxRecDepth 20000 in
theorem gX2_readNumber_X2_figureHere : GoodIn wsX2_readNumber (wsV RX2 57 RX2 yX2_figureHere wsX2_figureHere) := goodIn_app (goodIn_of _ (by decide +kernel)) ggX2_readNumber_X2_figureHere
set_option maxRecDepth 20000 in
theorem ggX2_readNumber_X2_letterHere : GoodIn wsX2_readNumber wsX2_letterHere := goodIn_r _ [10, 1, 11, 12, 13, 14, 15, 16] (by decide +kernel) (by decide +kernel)
set_option maxRecDepth 20000 in
theorem gX2_readNumber_X2_letterHere : GoodIn wsX2_readNumber (wsV RX2 35 RX2 yX2_letterHere wsX2_letterHere) := goodIn_app (goodIn_of _ (by decide +kernel)) ggX2_readNumber_X2_letterHere
theorem dX2_readNumber_0 : decode cX2_readNumber 0 = .ok (.aload_n 0, 1) := by decide +kernel
theorem dX2_readNumber_1 : decode cX2_readNumber 1 = .ok (.invokevirtual 57, 3) := by decide +kernel
theorem dX2_readNumber_4 : decode cX2_readNumber 4 = .ok (.ifCond .ne 5, 3) := by decide +kernel
theorem dX2_readNumber_7 : decode cX2_readNumber 7 = .ok (.iconst (-1), 1) := by decide +kernel
theorem dX2_readNumber_8 : decode cX2_readNumber 8 = .ok (.ireturn, 1) := by decide +kernel
theorem dX2_readNumber_9 : decode cX2_readNumber 9 = .ok (.aload_n 0, 1) := by decide +kernel
theorem dX2_readNumber_10 : decode cX2_readNumber 10 = .ok (.invokevirtual 35, 3) := by decide +kernel
theorem dX2_readNumber_13 : decode cX2_readNumber 13 = .ok (.bipush 48, 2) := by decide +kernel
theorem dX2_readNumber_15 : decode cX2_readNumber 15 = .ok (.isub, 1) := by decide +kernel
theorem dX2_readNumber_16 : decode cX2_readNumber 16 = .ok (.istore_n 1, 1) := by decide +kernel
theorem dX2_readNumber_17 : decode cX2_readNumber 17 = .ok (.aload_n 0, 1) := by decide +kernel
theorem dX2_readNumber_18 : decode cX2_readNumber 18 = .ok (.dup, 1) := by decide +kernel
theorem dX2_readNumber_19 : decode cX2_readNumber 19 = .ok (.getfield 28, 3) := by decide +kernel
theorem dX2_readNumber_22 : decode cX2_readNumber 22 = .ok (.iconst 1, 1) := by decide +kernel
theorem dX2_readNumber_23 : decode cX2_readNumber 23 = .ok (.iadd, 1) := by decide +kernel
theorem dX2_readNumber_24 : decode cX2_readNumber 24 = .ok (.putfield 28, 3) := by decide +kernel
theorem dX2_readNumber_27 : decode cX2_readNumber 27 = .ok (.aload_n 0, 1) := by decide +kernel
theorem dX2_readNumber_28 : decode cX2_readNumber 28 = .ok (.invokevirtual 57, 3) := by decide +kernel
theorem dX2_readNumber_31 : decode cX2_readNumber 31 = .ok (.ifCond .eq 26, 3) := by decide +kernel
theorem dX2_readNumber_34 : decode cX2_readNumber 34 = .ok (.bipush 10, 2) := by decide +kernel
theorem dX2_readNumber_36 : decode cX2_readNumber 36 = .ok (.iload_n 1, 1) := by decide +kernel
theorem dX2_readNumber_37 : decode cX2_readNumber 37 = .ok (.imul, 1) := by decide +kernel
theorem dX2_readNumber_38 : decode cX2_readNumber 38 = .ok (.aload_n 0, 1) := by decide +kernel
theorem dX2_readNumber_39 : decode cX2_readNumber 39 = .ok (.invokevirtual 35, 3) := by decide +kernel
theorem dX2_readNumber_42 : decode cX2_readNumber 42 = .ok (.iadd, 1) := by decide +kernel
theorem dX2_readNumber_43 : decode cX2_readNumber 43 = .ok (.bipush 48, 2) := by decide +kernel
theorem dX2_readNumber_45 : decode cX2_readNumber 45 = .ok (.isub, 1) := by decide +kernel
theorem dX2_readNumber_46 : decode cX2_readNumber 46 = .ok (.istore_n 1, 1) := by decide +kernel
theorem dX2_readNumber_47 : decode cX2_readNumber 47 = .ok (.aload_n 0, 1) := by decide +kernel
theorem dX2_readNumber_48 : decode cX2_readNumber 48 = .ok (.dup, 1) := by decide +kernel
theorem dX2_readNumber_49 : decode cX2_readNumber 49 = .ok (.getfield 28, 3) := by decide +kernel
theorem dX2_readNumber_52 : decode cX2_readNumber 52 = .ok (.iconst 1, 1) := by decide +kernel
theorem dX2_readNumber_53 : decode cX2_readNumber 53 = .ok (.iadd, 1) := by decide +kernel
theorem dX2_readNumber_54 : decode cX2_readNumber 54 = .ok (.putfield 28, 3) := by decide +kernel
theorem dX2_readNumber_57 : decode cX2_readNumber 57 = .ok (.iload_n 1, 1) := by decide +kernel
theorem dX2_readNumber_58 : decode cX2_readNumber 58 = .ok (.ireturn, 1) := by decide +kernel
theorem lkX2_readNumber_28 : Cond.fieldLink RX2 28 "LeftAtFive$Letters" "place" "I" ∈ wsX2_readNumber := by decide +kernel
theorem iwX2_readNumber_X2 : ∀ w ∈ wsX20, w ∈ wsX2_readNumber := by decide +kernel
set_option maxHeartbeats 2000000 in
set_option maxRecDepth 100000 in
theorem c_X2_readNumber (l : Launch) (D : va_G) (q : Nat → ClassId) (ld : Nat → Nat) (ν0 : Nat → Int32) (ν1 : Nat → Int32) (ν2 : Int32) (ν3 : Int32) (sp : Nat) (hL : ν2 = nI (tn ν2) ∧ tn ν2 ≤ 200) (hC : ∀ j, j < tn ν2 → cN (ν0 j) 126) (hsp2 : sp ≤ 600) : xC l yX2_readNumber wsX2_readNumber ({ frames := 2, cells := 0, slots := 0, locals := 41 }) D (TY q) [w2 q ld ν0 ν1 ν2 (nI sp)] [.ref (ld 0)] (xQi D (TY q) (fun (r : Int32) (_ : Unit) => r = if xdg ν0 (tn ν2) sp then nI (xrv ν0 (tn ν2) sp) else (-1)) (fun _ => [w2 q ld ν0 ν1 ν2 (nI (sp + xrd ν0 (tn ν2) sp))])) 0 0 := by
  refine x_enter (cc := cX2_readNumber) (maxL := 2) (ret := (some .int)) (by decide) rfl (Nat.le_of_ble_eq_true rfl) ?_
  intro p e s m below meth c A ls H locs hfix hr hlocks hinit hM hl
  obtain ⟨hx, hb, hml, hown, hts⟩ := id hfix
  have hl : lv_has ls 2 [(0, .ref (ld 0))] := hl
  have hL2 := hL.2
  have hA2 := xlet_cN hC
  have hd9 := xdg_tn (hA2 sp)
  have hl9 := (hA2 sp).2
  have he9 := xdg_tn (hA2 (sp + 1))
  have hm9 := (hA2 (sp + 1)).2
  refine lv_aload_n hx hb dX2_readNumber_0 rfl (lv_at hl 0 rfl) ?_
  refine x_calli (bc := [w2 q ld ν0 ν1 ν2 (nI sp)]) (br := []) hM [0] [] rfl rfl rfl (by decide) (x_runV (As := []) (rest := []) hfix (c_X2_figureHere l D q ld ν0 ν1 ν2 (nI sp) sp hL hC (by omega)) (cwV 0 hts gX2_readNumber_X2_figureHere rfl rfl rfl (by decide +kernel) ⟨Nat.le_of_ble_eq_true rfl, Nat.le_of_ble_eq_true rfl⟩) hM [0] rfl rfl 0 0 rfl rfl rfl rfl rfl hl.1 rfl (Nat.le_of_ble_eq_true rfl) dX2_readNumber_1 ⟨Nat.le_of_ble_eq_true rfl, Nat.le_of_ble_eq_true rfl⟩) (fun r u H locs hq hM => ?_)
  subst hq
  have hM : xM D (TY q) [w2 q ld ν0 ν1 ν2 (nI sp)] A s.heap s H locs := hM
  refine x_ifz_ne (P := xdg ν0 (tn ν2) sp) (tgt := 9) hx hb dX2_readNumber_4 (by decide) (fun c1 => ?_) (fun c1 => ?_)
  · have hf9 : xdg ν0 (tn ν2) sp := by assumption
    have hg9 := Eq.mp hd9 hf9
    refine lv_aload_n hx hb dX2_readNumber_9 rfl (lv_at hl 0 rfl) ?_
    refine x_calli (bc := [w2 q ld ν0 ν1 ν2 (nI sp)]) (br := []) hM [0] [] rfl rfl rfl (by decide) (x_runV (As := []) (rest := []) hfix (c_X2_letterHere l D q ld ν0 ν1 ν2 (nI sp) sp hL hC (by omega)) (cwV 0 hts gX2_readNumber_X2_letterHere rfl rfl rfl (by decide +kernel) ⟨Nat.le_of_ble_eq_true rfl, Nat.le_of_ble_eq_true rfl⟩) hM [0] rfl rfl 0 0 rfl rfl rfl rfl rfl hl.1 rfl (Nat.le_of_ble_eq_true rfl) dX2_readNumber_10 ⟨Nat.le_of_ble_eq_true rfl, Nat.le_of_ble_eq_true rfl⟩) (fun r u H locs hq hM => ?_)
    subst hq
    have hM : xM D (TY q) [w2 q ld ν0 ν1 ν2 (nI sp)] A s.heap s H locs := hM
    refine x_cast (y := nI (tn (xlet ν0 (tn ν2) sp))) (hA2 _).1 ?_
    refine lv_bipush (v := nI 48) hx hb dX2_readNumber_13 (by decide) ?_
    refine x_isub (x := tn (xlet ν0 (tn ν2) sp)) (y := 48) hx hb (by omega) dX2_readNumber_15 ?_
    refine lv_istore_n (lv' := [(1, .int (nI ((tn (xlet ν0 (tn ν2) sp)) - 48))), (0, .ref (ld 0))]) hx hb dX2_readNumber_16 rfl hl (by decide) rfl (fun ls hl => ?_)
    refine lv_aload_n hx hb dX2_readNumber_17 rfl (lv_at hl 1 rfl) ?_
    refine lv_dup hx hb dX2_readNumber_18 rfl ?_
    refine x_get hx hb hts iwX2_readNumber_X2 hown hM 0 0 rfl rfl rfl 3 (by decide) (hts _ lkX2_readNumber_28) (fun _ h => h) rfl dX2_readNumber_19 ?_
    refine lv_iconst (v := nI 1) hx hb dX2_readNumber_22 (by decide) ?_
    refine x_iadd (x := sp) (y := 1) hx hb dX2_readNumber_23 ?_
    refine x_put hx hb hts iwX2_readNumber_X2 tyX2 tyX2_ok nmX2 hown hM 0 0 rfl rfl rfl 3 (by decide) (hts _ lkX2_readNumber_28) (fun _ h => h) rfl (ty := .int) (by decide +kernel) rfl rfl (Nat.le_of_ble_eq_true rfl) [w2 q ld ν0 ν1 ν2 (nI (sp + 1))] rfl dX2_readNumber_24 (fun H locs hM => ?_)
    refine lv_aload_n hx hb dX2_readNumber_27 rfl (lv_at hl 1 rfl) ?_
    refine x_calli (bc := [w2 q ld ν0 ν1 ν2 (nI (sp + 1))]) (br := []) hM [0] [] rfl rfl rfl (by decide) (x_runV (As := []) (rest := []) hfix (c_X2_figureHere l D q ld ν0 ν1 ν2 (nI (sp + 1)) (sp + 1) hL hC (by omega)) (cwV 0 hts gX2_readNumber_X2_figureHere rfl rfl rfl (by decide +kernel) ⟨Nat.le_of_ble_eq_true rfl, Nat.le_of_ble_eq_true rfl⟩) hM [0] rfl rfl 0 0 rfl rfl rfl rfl rfl hl.1 rfl (Nat.le_of_ble_eq_true rfl) dX2_readNumber_28 ⟨Nat.le_of_ble_eq_true rfl, Nat.le_of_ble_eq_true rfl⟩) (fun r u H locs hq hM => ?_)
    subst hq
    have hM : xM D (TY q) [w2 q ld ν0 ν1 ν2 (nI (sp + 1))] A s.heap s H locs := hM
    refine x_ifz_eq (P := xdg ν0 (tn ν2) (sp + 1)) (tgt := 57) hx hb dX2_readNumber_31 (by decide) (fun c2 => ?_) (fun c2 => ?_)
    · have hr9 := xrd_1 hf9 (by assumption)
      refine lv_iload_n hx hb dX2_readNumber_57 rfl (lv_at hl 0 rfl) ?_
      have e3 : ((nI (sp + 1)) : Int32) = (nI (sp + xrd ν0 (tn ν2) sp)) := by (first | rw [hr9.1] | (rw [xrd_0 (by assumption)]; rfl))
      have hM : xM D (TY q) [w2 q ld ν0 ν1 ν2 (nI (sp + xrd ν0 (tn ν2) sp))] A s.heap s H locs := Eq.mp (congrArg (fun z9 => xM D (TY q) [w2 q ld ν0 ν1 ν2 z9] A s.heap s H locs) e3) hM
      exact x_iret hx hb hr hlocks () hM (show nI ((tn (xlet ν0 (tn ν2) sp)) - 48) = if xdg ν0 (tn ν2) sp then nI (xrv ν0 (tn ν2) sp) else (-1) from by (first | exact (if_neg (by assumption)).symm | (rw [if_pos hf9, hr9.2]))) dX2_readNumber_58
    · have hr9 := xrd_2 hf9 (by assumption)
      have hh9 := Eq.mp he9 (by assumption)
      refine lv_bipush (v := nI 10) hx hb dX2_readNumber_34 (by decide) ?_
      refine lv_iload_n hx hb dX2_readNumber_36 rfl (lv_at hl 0 rfl) ?_
      refine x_imul (x := 10) (y := (tn (xlet ν0 (tn ν2) sp)) - 48) hx hb dX2_readNumber_37 ?_
      refine lv_aload_n hx hb dX2_readNumber_38 rfl (lv_at hl 1 rfl) ?_
      refine x_calli (bc := [w2 q ld ν0 ν1 ν2 (nI (sp + 1))]) (br := []) hM [0] [] rfl rfl rfl (by decide) (x_runV (As := []) (rest := [.int (nI (10 * ((tn (xlet ν0 (tn ν2) sp)) - 48)))]) hfix (c_X2_letterHere l D q ld ν0 ν1 ν2 (nI (sp + 1)) (sp + 1) hL hC (by omega)) (cwV 0 hts gX2_readNumber_X2_letterHere rfl rfl rfl (by decide +kernel) ⟨Nat.le_of_ble_eq_true rfl, Nat.le_of_ble_eq_true rfl⟩) hM [0] rfl rfl 0 0 rfl rfl rfl rfl rfl hl.1 rfl (Nat.le_of_ble_eq_true rfl) dX2_readNumber_39 ⟨Nat.le_of_ble_eq_true rfl, Nat.le_of_ble_eq_true rfl⟩) (fun r u H locs hq hM => ?_)
      subst hq
      have hM : xM D (TY q) [w2 q ld ν0 ν1 ν2 (nI (sp + 1))] A s.heap s H locs := hM
      refine x_cast (y := nI (tn (xlet ν0 (tn ν2) (sp + 1)))) (hA2 _).1 ?_
      refine x_iadd (x := 10 * ((tn (xlet ν0 (tn ν2) sp)) - 48)) (y := tn (xlet ν0 (tn ν2) (sp + 1))) hx hb dX2_readNumber_42 ?_
      refine lv_bipush (v := nI 48) hx hb dX2_readNumber_43 (by decide) ?_
      refine x_isub (x := 10 * ((tn (xlet ν0 (tn ν2) sp)) - 48) + (tn (xlet ν0 (tn ν2) (sp + 1)))) (y := 48) hx hb (by omega) dX2_readNumber_45 ?_
      refine lv_istore_n (lv' := [(1, .int (nI ((10 * ((tn (xlet ν0 (tn ν2) sp)) - 48) + (tn (xlet ν0 (tn ν2) (sp + 1)))) - 48))), (0, .ref (ld 0))]) hx hb dX2_readNumber_46 rfl hl (by decide) rfl (fun ls hl => ?_)
      refine lv_aload_n hx hb dX2_readNumber_47 rfl (lv_at hl 1 rfl) ?_
      refine lv_dup hx hb dX2_readNumber_48 rfl ?_
      refine x_get hx hb hts iwX2_readNumber_X2 hown hM 0 0 rfl rfl rfl 3 (by decide) (hts _ lkX2_readNumber_28) (fun _ h => h) rfl dX2_readNumber_49 ?_
      refine lv_iconst (v := nI 1) hx hb dX2_readNumber_52 (by decide) ?_
      refine x_iadd (x := sp + 1) (y := 1) hx hb dX2_readNumber_53 ?_
      refine x_put hx hb hts iwX2_readNumber_X2 tyX2 tyX2_ok nmX2 hown hM 0 0 rfl rfl rfl 3 (by decide) (hts _ lkX2_readNumber_28) (fun _ h => h) rfl (ty := .int) (by decide +kernel) rfl rfl (Nat.le_of_ble_eq_true rfl) [w2 q ld ν0 ν1 ν2 (nI (sp + 1 + 1))] rfl dX2_readNumber_54 (fun H locs hM => ?_)
      refine lv_iload_n hx hb dX2_readNumber_57 rfl (lv_at hl 0 rfl) ?_
      have e4 : ((nI (sp + 1 + 1)) : Int32) = (nI (sp + xrd ν0 (tn ν2) sp)) := by (first | rw [hr9.1] | (rw [xrd_0 (by assumption)]; rfl))
      have hM : xM D (TY q) [w2 q ld ν0 ν1 ν2 (nI (sp + xrd ν0 (tn ν2) sp))] A s.heap s H locs := Eq.mp (congrArg (fun z9 => xM D (TY q) [w2 q ld ν0 ν1 ν2 z9] A s.heap s H locs) e4) hM
      exact x_iret hx hb hr hlocks () hM (show nI ((10 * ((tn (xlet ν0 (tn ν2) sp)) - 48) + (tn (xlet ν0 (tn ν2) (sp + 1)))) - 48) = if xdg ν0 (tn ν2) sp then nI (xrv ν0 (tn ν2) sp) else (-1) from by (first | exact (if_neg (by assumption)).symm | (rw [if_pos hf9, hr9.2]))) dX2_readNumber_58
  · refine lv_iconst (v := (-1)) hx hb dX2_readNumber_7 (by decide) ?_
    have e5 : ((nI sp) : Int32) = (nI (sp + xrd ν0 (tn ν2) sp)) := by (first | rw [hr9.1] | (rw [xrd_0 (by assumption)]; rfl))
    have hM : xM D (TY q) [w2 q ld ν0 ν1 ν2 (nI (sp + xrd ν0 (tn ν2) sp))] A s.heap s H locs := Eq.mp (congrArg (fun z9 => xM D (TY q) [w2 q ld ν0 ν1 ν2 z9] A s.heap s H locs) e5) hM
    exact x_iret hx hb hr hlocks () hM (show (-1) = if xdg ν0 (tn ν2) sp then nI (xrv ν0 (tn ν2) sp) else (-1) from by (first | exact (if_neg (by assumption)).symm | (rw [if_pos hf9, hr9.2]))) dX2_readNumber_8
