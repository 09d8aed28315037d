set_option maxRecDepth 20000 in
theorem ggX6_setsWorth_X6_worthOfSet : GoodIn wsX6_setsWorth wsX6_worthOfSet := goodIn_r _ [5, 1, 6, 7, 8, 9, 10, 11, 12, 13, 14, 15, 16, 17, 18, 19, 20, 21, 22, 23, 24, 25, 26, 27, 28, 29, 30, 31, 32, 33, 34, 35, 36, 37, 38, 39, 40, 41, 42, 43, 44, 45, 46, 47, 48, 49, 50, 51, 52, 53, 54, 55, 56, 57, 58, 59, 60, 61] (by decide +kernel) (by decide +kernel)
set_option maxRecDepth 20000 in
theorem gX6_setsWorth_X6_worthOfSet : GoodIn wsX6_setsWorth (va_wsS RX6 131 yX6_worthOfSet wsX6_worthOfSet) := goodIn_app (goodIn_of _ (by decide +kernel)) ggX6_setsWorth_X6_worthOfSet
theorem dX6_setsWorth_0 : decode cX6_setsWorth 0 = .ok (.iconst 0, 1) := by decide +kernel
theorem dX6_setsWorth_1 : decode cX6_setsWorth 1 = .ok (.istore_n 3, 1) := by decide +kernel
theorem dX6_setsWorth_2 : decode cX6_setsWorth 2 = .ok (.iconst 0, 1) := by decide +kernel
theorem dX6_setsWorth_3 : decode cX6_setsWorth 3 = .ok (.istore 4, 2) := by decide +kernel
theorem dX6_setsWorth_5 : decode cX6_setsWorth 5 = .ok (.iload 4, 2) := by decide +kernel
theorem dX6_setsWorth_7 : decode cX6_setsWorth 7 = .ok (.iconst 1, 1) := by decide +kernel
theorem dX6_setsWorth_8 : decode cX6_setsWorth 8 = .ok (.aload_n 0, 1) := by decide +kernel
theorem dX6_setsWorth_9 : decode cX6_setsWorth 9 = .ok (.getfield 99, 3) := by decide +kernel
theorem dX6_setsWorth_12 : decode cX6_setsWorth 12 = .ok (.ishl, 1) := by decide +kernel
theorem dX6_setsWorth_13 : decode cX6_setsWorth 13 = .ok (.if_icmp .ge 23, 3) := by decide +kernel
theorem dX6_setsWorth_16 : decode cX6_setsWorth 16 = .ok (.aload_n 0, 1) := by decide +kernel
theorem dX6_setsWorth_17 : decode cX6_setsWorth 17 = .ok (.aload_n 1, 1) := by decide +kernel
theorem dX6_setsWorth_18 : decode cX6_setsWorth 18 = .ok (.iload 4, 2) := by decide +kernel
theorem dX6_setsWorth_20 : decode cX6_setsWorth 20 = .ok (.invokestatic 131, 3) := by decide +kernel
theorem dX6_setsWorth_23 : decode cX6_setsWorth 23 = .ok (.iload_n 2, 1) := by decide +kernel
theorem dX6_setsWorth_24 : decode cX6_setsWorth 24 = .ok (.if_icmp .ne 6, 3) := by decide +kernel
theorem dX6_setsWorth_27 : decode cX6_setsWorth 27 = .ok (.iinc 3 1, 3) := by decide +kernel
theorem dX6_setsWorth_30 : decode cX6_setsWorth 30 = .ok (.iinc 4 1, 3) := by decide +kernel
theorem dX6_setsWorth_33 : decode cX6_setsWorth 33 = .ok (.goto (-28), 3) := by decide +kernel
theorem dX6_setsWorth_36 : decode cX6_setsWorth 36 = .ok (.iload_n 3, 1) := by decide +kernel
theorem dX6_setsWorth_37 : decode cX6_setsWorth 37 = .ok (.ireturn, 1) := by decide +kernel
theorem lkX6_setsWorth_99 : Cond.fieldLink RX6 99 "LeftAtFive$Street" "houses" "I" ∈ wsX6_setsWorth := by decide +kernel
theorem iwX6_setsWorth_X7 : ∀ w ∈ wsX70, w ∈ wsX6_setsWorth := by decide +kernel
set_option maxHeartbeats 2000000 in
set_option maxRecDepth 100000 in
theorem c_X6_setsWorth (l : Launch) (D : va_G) (q : Nat → ClassId) (sd : Nat → Nat) (X : Nat → Nat → Int32) (kd : Nat → Nat) (K : Nat → Int32) (S : Nat → Nat → Int32) (v : Nat) (hT : okT X S) (hv9 : v ≤ 9999) : xC l yX6_setsWorth wsX6_setsWorth ({ frames := 5, cells := 0, slots := 0, locals := 114 }) D (TY q) [wst q sd X, wk q kd K] [.ref (sd 0), .ref (kd 0), .int (nI v)] (xQi D (TY q) (fun (r : Int32) (_ : Unit) => r = nI (xsv (fun z => xsw (fun y9 => kW (S 3) (S 4) (tn (S 2 0)) K y9) z (tn (S 5 0))) v (2 ^ (tn (S 5 0)))).1) (fun _ => [wst q sd X, wk q kd K])) 0 0 := by
  refine x_enter (cc := cX6_setsWorth) (maxL := 5) (ret := (some .int)) (by decide) rfl (Nat.le_of_ble_eq_true rfl) ?_
  intro p e s m below meth c A ls H locs hfix hr hlocks hinit hM hl
  obtain ⟨hx, hb, hml, hown, hts⟩ := id hfix
  have hl : lv_has ls 5 [(0, .ref (sd 0)), (1, .ref (kd 0)), (2, .int (nI v))] := hl
  have hTb1 := okT_1b hT
  have h32 := x_pow5 hTb1
  refine lv_iconst (v := nI 0) hx hb dX6_setsWorth_0 (by decide) ?_
  refine lv_istore_n (lv' := [(3, .int (nI 0)), (0, .ref (sd 0)), (1, .ref (kd 0)), (2, .int (nI v))]) hx hb dX6_setsWorth_1 rfl hl (by decide) rfl (fun ls hl => ?_)
  refine lv_iconst (v := nI 0) hx hb dX6_setsWorth_2 (by decide) ?_
  refine lv_istore (lv' := [(4, .int (nI 0)), (3, .int (nI 0)), (0, .ref (sd 0)), (1, .ref (kd 0)), (2, .int (nI v))]) hx hb dX6_setsWorth_3 hl (by decide) rfl (fun ls hl => ?_)
  refine x_loop (ι := Nat) (fun set => [(0, .ref (sd 0)), (1, .ref (kd 0)), (2, .int (nI v)), (3, .int (nI (xsv (fun z => xsw (fun y9 => kW (S 3) (S 4) (tn (S 2 0)) K y9) z (tn (S 5 0))) v set).1)), (4, .int (nI set))]) (fun set => [wst q sd X, wk q kd K]) (fun set => set ≤ 2 ^ (tn (S 5 0))) (fun set => 2 ^ (tn (S 5 0)) - set) 0 (Nat.zero_le _) hM (lv_sub hl [2, 3, 4, 1, 0] rfl) ?_
  intro set hI2 ih1 H locs hM ls hl
  have hM : xM D (TY q) [wst q sd X, wk q kd K] A s.heap s H locs := hM
  have hl : lv_has ls 5 [(0, .ref (sd 0)), (1, .ref (kd 0)), (2, .int (nI v)), (3, .int (nI (xsv (fun z => xsw (fun y9 => kW (S 3) (S 4) (tn (S 2 0)) K y9) z (tn (S 5 0))) v set).1)), (4, .int (nI set))] := hl
  have hI2 : set ≤ 2 ^ (tn (S 5 0)) := hI2
  have hsl := xsv_le (fun z => xsw (fun y9 => kW (S 3) (S 4) (tn (S 2 0)) K y9) z (tn (S 5 0))) v set
  try dsimp only
  refine lv_iload hx hb dX6_setsWorth_5 (lv_at hl 4 rfl) ?_
  refine lv_iconst (v := nI 1) hx hb dX6_setsWorth_7 (by decide) ?_
  refine lv_aload_n hx hb dX6_setsWorth_8 rfl (lv_at hl 0 rfl) ?_
  refine x_get hx hb hts iwX6_setsWorth_X7 hown hM 0 0 rfl rfl rfl 1 (by decide) (hts _ lkX6_setsWorth_99) (fun _ h => h) rfl dX6_setsWorth_9 ?_
  refine x_cast (y := nI (tn (S 5 0))) (okT_1 hT) ?_
  refine lv_ishl hx hb dX6_setsWorth_12 ?_
  refine x_cast (y := nI (2 ^ (tn (S 5 0)))) (x_shl1 hTb1) ?_
  refine x_icmp_ge (x := set) (y := 2 ^ (tn (S 5 0))) (tgt := 36) hx hb (by omega) (by omega) dX6_setsWorth_13 (by decide) (fun c3 => ?_) (fun c3 => ?_)
  · refine lv_iload_n hx hb dX6_setsWorth_36 rfl (lv_at hl 3 rfl) ?_
    exact x_iret hx hb hr hlocks () hM (show nI (xsv (fun z => xsw (fun y9 => kW (S 3) (S 4) (tn (S 2 0)) K y9) z (tn (S 5 0))) v set).1 = nI (xsv (fun z => xsw (fun y9 => kW (S 3) (S 4) (tn (S 2 0)) K y9) z (tn (S 5 0))) v (2 ^ (tn (S 5 0)))).1 from by (rw [show set = 2 ^ (tn (S 5 0)) by omega])) dX6_setsWorth_37
  · refine lv_aload_n hx hb dX6_setsWorth_16 rfl (lv_at hl 0 rfl) ?_
    refine lv_aload_n hx hb dX6_setsWorth_17 rfl (lv_at hl 1 rfl) ?_
    refine lv_iload hx hb dX6_setsWorth_18 (lv_at hl 4 rfl) ?_
    refine x_calli (bc := [wst q sd X, wk q kd K]) (br := []) hM [0, 1] [] rfl rfl rfl (by decide) (x_runS (As := [.ref (sd 0), .ref (kd 0), .int (nI set)]) (rest := []) hfix (c_X6_worthOfSet l D q sd X kd K S set hT (by omega)) (va_cwS 3 hts gX6_setsWorth_X6_worthOfSet rfl rfl rfl (by decide +kernel) ⟨Nat.le_of_ble_eq_true rfl, Nat.le_of_ble_eq_true rfl⟩) hM [0, 1] rfl rfl rfl hl.1 rfl (Nat.le_of_ble_eq_true rfl) dX6_setsWorth_20 ⟨Nat.le_of_ble_eq_true rfl, Nat.le_of_ble_eq_true rfl⟩) (fun r u H locs hq hM => ?_)
    subst hq
    have hM : xM D (TY q) [wst q sd X, wk q kd K] A s.heap s H locs := hM
    refine lv_iload_n hx hb dX6_setsWorth_23 rfl (lv_at hl 2 rfl) ?_
    refine lv_icmp_ne (tgt := 30) hx hb dX6_setsWorth_24 (by decide) (fun c4 => ?_) (fun c4 => ?_)
    · refine lv_iinc (v := nI (set + 1)) (lv' := [(4, .int (nI (set + 1))), (0, .ref (sd 0)), (1, .ref (kd 0)), (2, .int (nI v)), (3, .int (nI (xsv (fun z => xsw (fun y9 => kW (S 3) (S 4) (tn (S 2 0)) K y9) z (tn (S 5 0))) v set).1))]) hx hb dX6_setsWorth_30 hl (k := 4) rfl (x_inc _ 1) (by decide) rfl (fun ls hl => ?_)
      refine lv_goto (tgt := 5) hx hb dX6_setsWorth_33 (by decide) ?_
      have hl : lv_has ls 5 [(0, .ref (sd 0)), (1, .ref (kd 0)), (2, .int (nI v)), (3, .int (nI (xsv (fun z => xsw (fun y9 => kW (S 3) (S 4) (tn (S 2 0)) K y9) z (tn (S 5 0))) v set).1)), (4, .int (nI (set + 1)))] := lv_sub hl [1, 2, 3, 4, 0] rfl
      have e5 : nI (xsv (fun z => xsw (fun y9 => kW (S 3) (S 4) (tn (S 2 0)) K y9) z (tn (S 5 0))) v set).1 = nI (xsv (fun z => xsw (fun y9 => kW (S 3) (S 4) (tn (S 2 0)) K y9) z (tn (S 5 0))) v (set + 1)).1 := by (first | exact (congrArg nI (if_pos (by assumption))).symm | exact (congrArg nI (if_neg (by assumption))).symm)
      have hl : lv_has ls 5 [(0, .ref (sd 0)), (1, .ref (kd 0)), (2, .int (nI v)), (3, .int (nI (xsv (fun z => xsw (fun y9 => kW (S 3) (S 4) (tn (S 2 0)) K y9) z (tn (S 5 0))) v (set + 1)).1)), (4, .int (nI (set + 1)))] := x_lvset hl 3 rfl (congrArg Value.int e5) rfl
      exact ih1 (set + 1) (show 2 ^ (tn (S 5 0)) - (set + 1) < 2 ^ (tn (S 5 0)) - set from by omega) (show (set + 1) ≤ 2 ^ (tn (S 5 0)) from by omega) _ _ hM _ hl
    · refine lv_iinc (v := nI ((xsv (fun z => xsw (fun y9 => kW (S 3) (S 4) (tn (S 2 0)) K y9) z (tn (S 5 0))) v set).1 + 1)) (lv' := [(3, .int (nI ((xsv (fun z => xsw (fun y9 => kW (S 3) (S 4) (tn (S 2 0)) K y9) z (tn (S 5 0))) v set).1 + 1))), (0, .ref (sd 0)), (1, .ref (kd 0)), (2, .int (nI v)), (4, .int (nI set))]) hx hb dX6_setsWorth_27 hl (k := 3) rfl (x_inc _ 1) (by decide) rfl (fun ls hl => ?_)
      refine lv_iinc (v := nI (set + 1)) (lv' := [(4, .int (nI (set + 1))), (3, .int (nI ((xsv (fun z => xsw (fun y9 => kW (S 3) (S 4) (tn (S 2 0)) K y9) z (tn (S 5 0))) v set).1 + 1))), (0, .ref (sd 0)), (1, .ref (kd 0)), (2, .int (nI v))]) hx hb dX6_setsWorth_30 hl (k := 4) rfl (x_inc _ 1) (by decide) rfl (fun ls hl => ?_)
      refine lv_goto (tgt := 5) hx hb dX6_setsWorth_33 (by decide) ?_
      have hl : lv_has ls 5 [(0, .ref (sd 0)), (1, .ref (kd 0)), (2, .int (nI v)), (3, .int (nI ((xsv (fun z => xsw (fun y9 => kW (S 3) (S 4) (tn (S 2 0)) K y9) z (tn (S 5 0))) v set).1 + 1))), (4, .int (nI (set + 1)))] := lv_sub hl [2, 3, 4, 1, 0] rfl
      have e6 : nI ((xsv (fun z => xsw (fun y9 => kW (S 3) (S 4) (tn (S 2 0)) K y9) z (tn (S 5 0))) v set).1 + 1) = nI (xsv (fun z => xsw (fun y9 => kW (S 3) (S 4) (tn (S 2 0)) K y9) z (tn (S 5 0))) v (set + 1)).1 := by (first | exact (congrArg nI (if_pos (by assumption))).symm | exact (congrArg nI (if_neg (by assumption))).symm)
      have hl : lv_has ls 5 [(0, .ref (sd 0)), (1, .ref (kd 0)), (2, .int (nI v)), (3, .int (nI (xsv (fun z => xsw (fun y9 => kW (S 3) (S 4) (tn (S 2 0)) K y9) z (tn (S 5 0))) v (set + 1)).1)), (4, .int (nI (set + 1)))] := x_lvset hl 3 rfl (congrArg Value.int e6) rfl
      exact ih1 (set + 1) (show 2 ^ (tn (S 5 0)) - (set + 1) < 2 ^ (tn (S 5 0)) - set from by omega) (show (set + 1) ≤ 2 ^ (tn (S 5 0)) from by omega) _ _ hM _ hl
