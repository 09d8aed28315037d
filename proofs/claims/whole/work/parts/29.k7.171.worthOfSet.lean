set_option maxRecDepth 20000 in
theorem ggX6_worthOfSet_X1_worthOf : GoodIn wsX6_worthOfSet wsX1_worthOf := goodIn_r _ [6, 7, 8, 9, 10, 11, 12, 13, 14, 15, 16, 17, 18, 19, 20, 5, 21, 22, 23, 24, 25, 26, 27, 28, 29, 30, 31, 32, 33, 34, 35, 36, 37, 38, 39, 40, 41, 42, 43, 44, 45, 46, 47, 48, 49, 50, 51, 52, 53, 54, 55, 56, 57] (by decide +kernel) (by decide +kernel)
set_option maxRecDepth 20000 in
theorem gX6_worthOfSet_X1_worthOf : GoodIn wsX6_worthOfSet (wsV RX6 135 RX1 yX1_worthOf wsX1_worthOf) := goodIn_app (goodIn_of _ (by decide +kernel)) ggX6_worthOfSet_X1_worthOf
theorem dX6_worthOfSet_0 : decode cX6_worthOfSet 0 = .ok (.iconst 0, 1) := by decide +kernel
theorem dX6_worthOfSet_1 : decode cX6_worthOfSet 1 = .ok (.istore_n 3, 1) := by decide +kernel
theorem dX6_worthOfSet_2 : decode cX6_worthOfSet 2 = .ok (.iconst 0, 1) := by decide +kernel
theorem dX6_worthOfSet_3 : decode cX6_worthOfSet 3 = .ok (.istore 4, 2) := by decide +kernel
theorem dX6_worthOfSet_5 : decode cX6_worthOfSet 5 = .ok (.iload 4, 2) := by decide +kernel
theorem dX6_worthOfSet_7 : decode cX6_worthOfSet 7 = .ok (.aload_n 0, 1) := by decide +kernel
theorem dX6_worthOfSet_8 : decode cX6_worthOfSet 8 = .ok (.getfield 99, 3) := by decide +kernel
theorem dX6_worthOfSet_11 : decode cX6_worthOfSet 11 = .ok (.if_icmp .ge 29, 3) := by decide +kernel
theorem dX6_worthOfSet_14 : decode cX6_worthOfSet 14 = .ok (.iload_n 2, 1) := by decide +kernel
theorem dX6_worthOfSet_15 : decode cX6_worthOfSet 15 = .ok (.iload 4, 2) := by decide +kernel
theorem dX6_worthOfSet_17 : decode cX6_worthOfSet 17 = .ok (.ishr, 1) := by decide +kernel
theorem dX6_worthOfSet_18 : decode cX6_worthOfSet 18 = .ok (.iconst 1, 1) := by decide +kernel
theorem dX6_worthOfSet_19 : decode cX6_worthOfSet 19 = .ok (.iand, 1) := by decide +kernel
theorem dX6_worthOfSet_20 : decode cX6_worthOfSet 20 = .ok (.iconst 1, 1) := by decide +kernel
theorem dX6_worthOfSet_21 : decode cX6_worthOfSet 21 = .ok (.if_icmp .ne 13, 3) := by decide +kernel
theorem dX6_worthOfSet_24 : decode cX6_worthOfSet 24 = .ok (.iload_n 3, 1) := by decide +kernel
theorem dX6_worthOfSet_25 : decode cX6_worthOfSet 25 = .ok (.aload_n 1, 1) := by decide +kernel
theorem dX6_worthOfSet_26 : decode cX6_worthOfSet 26 = .ok (.aload_n 0, 1) := by decide +kernel
theorem dX6_worthOfSet_27 : decode cX6_worthOfSet 27 = .ok (.iload 4, 2) := by decide +kernel
theorem dX6_worthOfSet_29 : decode cX6_worthOfSet 29 = .ok (.invokevirtual 135, 3) := by decide +kernel
theorem dX6_worthOfSet_32 : decode cX6_worthOfSet 32 = .ok (.iadd, 1) := by decide +kernel
theorem dX6_worthOfSet_33 : decode cX6_worthOfSet 33 = .ok (.istore_n 3, 1) := by decide +kernel
theorem dX6_worthOfSet_34 : decode cX6_worthOfSet 34 = .ok (.iinc 4 1, 3) := by decide +kernel
theorem dX6_worthOfSet_37 : decode cX6_worthOfSet 37 = .ok (.goto (-32), 3) := by decide +kernel
theorem dX6_worthOfSet_40 : decode cX6_worthOfSet 40 = .ok (.iload_n 3, 1) := by decide +kernel
theorem dX6_worthOfSet_41 : decode cX6_worthOfSet 41 = .ok (.ireturn, 1) := by decide +kernel
theorem lkX6_worthOfSet_99 : Cond.fieldLink RX6 99 "LeftAtFive$Street" "houses" "I" ∈ wsX6_worthOfSet := by decide +kernel
theorem iwX6_worthOfSet_X7 : ∀ w ∈ wsX70, w ∈ wsX6_worthOfSet := by decide +kernel
set_option maxHeartbeats 2000000 in
set_option maxRecDepth 100000 in
theorem c_X6_worthOfSet (l : Launch) (D : va_G) (q : Nat → ClassId) (sd : Nat → Nat) (X : Nat → Nat → Int32) (kd : Nat → Nat) (K : Nat → Int32) (S : Nat → Nat → Int32) (set : Nat) (hT : okT X S) (hs9 : set < 32) : xC l yX6_worthOfSet wsX6_worthOfSet ({ frames := 4, cells := 0, slots := 0, locals := 90 }) D (TY q) [wst q sd X, wk q kd K] [.ref (sd 0), .ref (kd 0), .int (nI set)] (xQi D (TY q) (fun (r : Int32) (_ : Unit) => r = xsw (fun y9 => kW (S 3) (S 4) (tn (S 2 0)) K y9) set (tn (S 5 0))) (fun _ => [wst q sd X, wk q kd K])) 0 0 := by
  refine x_enter (cc := cX6_worthOfSet) (maxL := 5) (ret := (some .int)) (by decide) rfl (Nat.le_of_ble_eq_true rfl) ?_
  intro p e s m below meth c A ls H locs hfix hr hlocks hinit hM hl
  obtain ⟨hx, hb, hml, hown, hts⟩ := id hfix
  have hl : lv_has ls 5 [(0, .ref (sd 0)), (1, .ref (kd 0)), (2, .int (nI set))] := hl
  have hTb1 := okT_1b hT
  have hTb0 := okT_0b hT
  refine lv_iconst (v := nI 0) hx hb dX6_worthOfSet_0 (by decide) ?_
  refine lv_istore_n (lv' := [(3, .int (nI 0)), (0, .ref (sd 0)), (1, .ref (kd 0)), (2, .int (nI set))]) hx hb dX6_worthOfSet_1 rfl hl (by decide) rfl (fun ls hl => ?_)
  refine lv_iconst (v := nI 0) hx hb dX6_worthOfSet_2 (by decide) ?_
  refine lv_istore (lv' := [(4, .int (nI 0)), (3, .int (nI 0)), (0, .ref (sd 0)), (1, .ref (kd 0)), (2, .int (nI set))]) hx hb dX6_worthOfSet_3 hl (by decide) rfl (fun ls hl => ?_)
  refine x_loop (ι := Nat) (fun h => [(0, .ref (sd 0)), (1, .ref (kd 0)), (2, .int (nI set)), (3, .int (xsw (fun y9 => kW (S 3) (S 4) (tn (S 2 0)) K y9) set h)), (4, .int (nI h))]) (fun h => [wst q sd X, wk q kd K]) (fun h => h ≤ (tn (S 5 0))) (fun h => (tn (S 5 0)) - h) 0 (by omega) hM (lv_sub hl [2, 3, 4, 1, 0] rfl) ?_
  intro h hI2 ih1 H locs hM ls hl
  have hM : xM D (TY q) [wst q sd X, wk q kd K] A s.heap s H locs := hM
  have hl : lv_has ls 5 [(0, .ref (sd 0)), (1, .ref (kd 0)), (2, .int (nI set)), (3, .int (xsw (fun y9 => kW (S 3) (S 4) (tn (S 2 0)) K y9) set h)), (4, .int (nI h))] := hl
  have hI2 : h ≤ (tn (S 5 0)) := hI2
  try dsimp only
  refine lv_iload hx hb dX6_worthOfSet_5 (lv_at hl 4 rfl) ?_
  refine lv_aload_n hx hb dX6_worthOfSet_7 rfl (lv_at hl 0 rfl) ?_
  refine x_get hx hb hts iwX6_worthOfSet_X7 hown hM 0 0 rfl rfl rfl 1 (by decide) (hts _ lkX6_worthOfSet_99) (fun _ h => h) rfl dX6_worthOfSet_8 ?_
  refine x_cast (y := nI (tn (S 5 0))) (okT_1 hT) ?_
  refine x_icmp_ge (x := h) (y := tn (S 5 0)) (tgt := 40) hx hb (by omega) (by omega) dX6_worthOfSet_11 (by decide) (fun c3 => ?_) (fun c3 => ?_)
  · refine lv_iload_n hx hb dX6_worthOfSet_40 rfl (lv_at hl 3 rfl) ?_
    exact x_iret hx hb hr hlocks () hM (show xsw (fun y9 => kW (S 3) (S 4) (tn (S 2 0)) K y9) set h = xsw (fun y9 => kW (S 3) (S 4) (tn (S 2 0)) K y9) set (tn (S 5 0)) from by (rw [show h = (tn (S 5 0)) by omega])) dX6_worthOfSet_41
  · refine lv_iload_n hx hb dX6_worthOfSet_14 rfl (lv_at hl 2 rfl) ?_
    refine lv_iload hx hb dX6_worthOfSet_15 (lv_at hl 4 rfl) ?_
    refine lv_ishr hx hb dX6_worthOfSet_17 ?_
    refine x_cast (y := nI (set / 2 ^ h)) (x_shr (by omega) (by omega)) ?_
    refine lv_iconst (v := nI 1) hx hb dX6_worthOfSet_18 (by decide) ?_
    refine lv_iand hx hb dX6_worthOfSet_19 ?_
    refine x_cast (y := nI (set / 2 ^ h % 2)) (x_and1 (Nat.lt_of_le_of_lt (Nat.div_le_self _ _) (by omega))) ?_
    refine lv_iconst (v := nI 1) hx hb dX6_worthOfSet_20 (by decide) ?_
    refine x_icmp_ne (x := set / 2 ^ h % 2) (y := 1) (tgt := 34) hx hb (by omega) (by omega) dX6_worthOfSet_21 (by decide) (fun c4 => ?_) (fun c4 => ?_)
    · refine lv_iinc (v := nI (h + 1)) (lv' := [(4, .int (nI (h + 1))), (0, .ref (sd 0)), (1, .ref (kd 0)), (2, .int (nI set)), (3, .int (xsw (fun y9 => kW (S 3) (S 4) (tn (S 2 0)) K y9) set h))]) hx hb dX6_worthOfSet_34 hl (k := 4) rfl (x_inc _ 1) (by decide) rfl (fun ls hl => ?_)
      refine lv_goto (tgt := 5) hx hb dX6_worthOfSet_37 (by decide) ?_
      have hl : lv_has ls 5 [(0, .ref (sd 0)), (1, .ref (kd 0)), (2, .int (nI set)), (3, .int (xsw (fun y9 => kW (S 3) (S 4) (tn (S 2 0)) K y9) set h)), (4, .int (nI (h + 1)))] := lv_sub hl [1, 2, 3, 4, 0] rfl
      have e5 : xsw (fun y9 => kW (S 3) (S 4) (tn (S 2 0)) K y9) set h = xsw (fun y9 => kW (S 3) (S 4) (tn (S 2 0)) K y9) set (h + 1) := by (first | exact xadd_p (by assumption) | exact xadd_z (by assumption))
      have hl : lv_has ls 5 [(0, .ref (sd 0)), (1, .ref (kd 0)), (2, .int (nI set)), (3, .int (xsw (fun y9 => kW (S 3) (S 4) (tn (S 2 0)) K y9) set (h + 1))), (4, .int (nI (h + 1)))] := x_lvset hl 3 rfl (congrArg Value.int e5) rfl
      exact ih1 (h + 1) (show (tn (S 5 0)) - (h + 1) < (tn (S 5 0)) - h from by omega) (show (h + 1) ≤ (tn (S 5 0)) from by omega) _ _ hM _ hl
    · refine lv_iload_n hx hb dX6_worthOfSet_24 rfl (lv_at hl 3 rfl) ?_
      refine lv_aload_n hx hb dX6_worthOfSet_25 rfl (lv_at hl 1 rfl) ?_
      refine lv_aload_n hx hb dX6_worthOfSet_26 rfl (lv_at hl 0 rfl) ?_
      refine lv_iload hx hb dX6_worthOfSet_27 (lv_at hl 4 rfl) ?_
      refine x_calli (bc := [wk q kd K, wst q sd X]) (br := []) hM [1, 0] [] rfl rfl rfl (by decide) (x_runV (As := [.ref (sd 0), .int (nI h)]) (rest := [.int (xsw (fun y9 => kW (S 3) (S 4) (tn (S 2 0)) K y9) set h)]) hfix (c_X1_worthOf l D q kd K sd X S h hT (by omega)) (cwV 2 hts gX6_worthOfSet_X1_worthOf rfl rfl rfl (by decide +kernel) ⟨Nat.le_of_ble_eq_true rfl, Nat.le_of_ble_eq_true rfl⟩) hM [1, 0] rfl rfl 1 0 rfl rfl rfl rfl rfl hl.1 rfl (Nat.le_of_ble_eq_true rfl) dX6_worthOfSet_29 ⟨Nat.le_of_ble_eq_true rfl, Nat.le_of_ble_eq_true rfl⟩) (fun r u H locs hq hM => ?_)
      subst hq
      have hM : xM D (TY q) [wk q kd K, wst q sd X] A s.heap s H locs := hM
      have hM : xM D (TY q) [wst q sd X, wk q kd K] A s.heap s H locs := hM.sel [1, 0] rfl rfl
      refine lv_iadd hx hb dX6_worthOfSet_32 ?_
      refine lv_istore_n (lv' := [(3, .int ((xsw (fun y9 => kW (S 3) (S 4) (tn (S 2 0)) K y9) set h) + (kW (S 3) (S 4) (tn (S 2 0)) K h))), (0, .ref (sd 0)), (1, .ref (kd 0)), (2, .int (nI set)), (4, .int (nI h))]) hx hb dX6_worthOfSet_33 rfl hl (by decide) rfl (fun ls hl => ?_)
      refine lv_iinc (v := nI (h + 1)) (lv' := [(4, .int (nI (h + 1))), (3, .int ((xsw (fun y9 => kW (S 3) (S 4) (tn (S 2 0)) K y9) set h) + (kW (S 3) (S 4) (tn (S 2 0)) K h))), (0, .ref (sd 0)), (1, .ref (kd 0)), (2, .int (nI set))]) hx hb dX6_worthOfSet_34 hl (k := 4) rfl (x_inc _ 1) (by decide) rfl (fun ls hl => ?_)
      refine lv_goto (tgt := 5) hx hb dX6_worthOfSet_37 (by decide) ?_
      have hl : lv_has ls 5 [(0, .ref (sd 0)), (1, .ref (kd 0)), (2, .int (nI set)), (3, .int ((xsw (fun y9 => kW (S 3) (S 4) (tn (S 2 0)) K y9) set h) + (kW (S 3) (S 4) (tn (S 2 0)) K h))), (4, .int (nI (h + 1)))] := lv_sub hl [2, 3, 4, 1, 0] rfl
      have e6 : (xsw (fun y9 => kW (S 3) (S 4) (tn (S 2 0)) K y9) set h) + (kW (S 3) (S 4) (tn (S 2 0)) K h) = xsw (fun y9 => kW (S 3) (S 4) (tn (S 2 0)) K y9) set (h + 1) := by (first | exact xadd_p (by assumption) | exact xadd_z (by assumption))
      have hl : lv_has ls 5 [(0, .ref (sd 0)), (1, .ref (kd 0)), (2, .int (nI set)), (3, .int (xsw (fun y9 => kW (S 3) (S 4) (tn (S 2 0)) K y9) set (h + 1))), (4, .int (nI (h + 1)))] := x_lvset hl 3 rfl (congrArg Value.int e6) rfl
      exact ih1 (h + 1) (show (tn (S 5 0)) - (h + 1) < (tn (S 5 0)) - h from by omega) (show (h + 1) ≤ (tn (S 5 0)) from by omega) _ _ hM _ hl
