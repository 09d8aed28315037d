set_option maxRecDepth 20000 in
theorem ggX6_bestLoaves_X6_tenfoldCost : GoodIn wsX6_bestLoaves wsX6_tenfoldCost := goodIn_r _ [4, 5, 6, 7, 8, 9, 10, 11, 12, 13, 14, 15, 16, 17, 18, 19, 20, 21, 22, 23, 24, 25, 26, 27, 28, 29, 30, 31, 32, 33, 34, 35, 36] (by decide +kernel) (by decide +kernel)
set_option maxRecDepth 20000 in
theorem gX6_bestLoaves_X6_tenfoldCost : GoodIn wsX6_bestLoaves (va_wsS RX6 22 yX6_tenfoldCost wsX6_tenfoldCost) := goodIn_app (goodIn_of _ (by decide +kernel)) ggX6_bestLoaves_X6_tenfoldCost
theorem dX6_bestLoaves_0 : decode cX6_bestLoaves 0 = .ok (.iconst 0, 1) := by decide +kernel
theorem dX6_bestLoaves_1 : decode cX6_bestLoaves 1 = .ok (.istore_n 3, 1) := by decide +kernel
theorem dX6_bestLoaves_2 : decode cX6_bestLoaves 2 = .ok (.iconst 1, 1) := by decide +kernel
theorem dX6_bestLoaves_3 : decode cX6_bestLoaves 3 = .ok (.istore 4, 2) := by decide +kernel
theorem dX6_bestLoaves_5 : decode cX6_bestLoaves 5 = .ok (.iload 4, 2) := by decide +kernel
theorem dX6_bestLoaves_7 : decode cX6_bestLoaves 7 = .ok (.bipush 20, 2) := by decide +kernel
theorem dX6_bestLoaves_9 : decode cX6_bestLoaves 9 = .ok (.if_icmp .gt 30, 3) := by decide +kernel
theorem dX6_bestLoaves_12 : decode cX6_bestLoaves 12 = .ok (.aload_n 0, 1) := by decide +kernel
theorem dX6_bestLoaves_13 : decode cX6_bestLoaves 13 = .ok (.iload 4, 2) := by decide +kernel
theorem dX6_bestLoaves_15 : decode cX6_bestLoaves 15 = .ok (.iload_n 1, 1) := by decide +kernel
theorem dX6_bestLoaves_16 : decode cX6_bestLoaves 16 = .ok (.iload_n 2, 1) := by decide +kernel
theorem dX6_bestLoaves_17 : decode cX6_bestLoaves 17 = .ok (.invokestatic 22, 3) := by decide +kernel
theorem dX6_bestLoaves_20 : decode cX6_bestLoaves 20 = .ok (.aload_n 0, 1) := by decide +kernel
theorem dX6_bestLoaves_21 : decode cX6_bestLoaves 21 = .ok (.iload_n 3, 1) := by decide +kernel
theorem dX6_bestLoaves_22 : decode cX6_bestLoaves 22 = .ok (.iload_n 1, 1) := by decide +kernel
theorem dX6_bestLoaves_23 : decode cX6_bestLoaves 23 = .ok (.iload_n 2, 1) := by decide +kernel
theorem dX6_bestLoaves_24 : decode cX6_bestLoaves 24 = .ok (.invokestatic 22, 3) := by decide +kernel
theorem dX6_bestLoaves_27 : decode cX6_bestLoaves 27 = .ok (.if_icmp .ge 6, 3) := by decide +kernel
theorem dX6_bestLoaves_30 : decode cX6_bestLoaves 30 = .ok (.iload 4, 2) := by decide +kernel
theorem dX6_bestLoaves_32 : decode cX6_bestLoaves 32 = .ok (.istore_n 3, 1) := by decide +kernel
theorem dX6_bestLoaves_33 : decode cX6_bestLoaves 33 = .ok (.iinc 4 1, 3) := by decide +kernel
theorem dX6_bestLoaves_36 : decode cX6_bestLoaves 36 = .ok (.goto (-31), 3) := by decide +kernel
theorem dX6_bestLoaves_39 : decode cX6_bestLoaves 39 = .ok (.iload_n 3, 1) := by decide +kernel
theorem dX6_bestLoaves_40 : decode cX6_bestLoaves 40 = .ok (.ireturn, 1) := by decide +kernel
set_option maxHeartbeats 2000000 in
set_option maxRecDepth 100000 in
theorem c_X6_bestLoaves (l : Launch) (D : va_G) (q : Nat → ClassId) (sd : Nat → Nat) (X : Nat → Nat → Int32) (S : Nat → Nat → Int32) (l1 : Int32) (w1 : Int32) (hT : okT X S) : xC l yX6_bestLoaves wsX6_bestLoaves ({ frames := 3, cells := 0, slots := 0, locals := 68 }) D (TY q) [wst q sd X] [.ref (sd 0), .int l1, .int w1] (xQi D (TY q) (fun (r : Int32) (_ : Unit) => r = nI (xbest (fun q1 => xbk (S 13) (S 14) l1 w1 (tn (S 12 0)) q1) 20)) (fun _ => [wst q sd X])) 0 0 := by
  refine x_enter (cc := cX6_bestLoaves) (maxL := 5) (ret := (some .int)) (by decide) rfl (Nat.le_of_ble_eq_true rfl) ?_
  intro p e s m below meth c A ls H locs hfix hr hlocks hinit hM hl
  obtain ⟨hx, hb, hml, hown, hts⟩ := id hfix
  have hl : lv_has ls 5 [(0, .ref (sd 0)), (1, .int l1), (2, .int w1)] := hl
  refine lv_iconst (v := nI 0) hx hb dX6_bestLoaves_0 (by decide) ?_
  refine lv_istore_n (lv' := [(3, .int (nI 0)), (0, .ref (sd 0)), (1, .int l1), (2, .int w1)]) hx hb dX6_bestLoaves_1 rfl hl (by decide) rfl (fun ls hl => ?_)
  refine lv_iconst (v := nI 1) hx hb dX6_bestLoaves_2 (by decide) ?_
  refine lv_istore (lv' := [(4, .int (nI 1)), (3, .int (nI 0)), (0, .ref (sd 0)), (1, .int l1), (2, .int w1)]) hx hb dX6_bestLoaves_3 hl (by decide) rfl (fun ls hl => ?_)
  refine x_loop (ι := Nat) (fun k => [(0, .ref (sd 0)), (1, .int l1), (2, .int w1), (3, .int (nI (xbest (fun q1 => xbk (S 13) (S 14) l1 w1 (tn (S 12 0)) q1) k))), (4, .int (nI (k + 1)))]) (fun k => [wst q sd X]) (fun k => k ≤ 20) (fun k => 20 - k) 0 (by omega) hM (lv_sub hl [2, 3, 4, 1, 0] rfl) ?_
  intro k hI2 ih1 H locs hM ls hl
  have hM : xM D (TY q) [wst q sd X] A s.heap s H locs := hM
  have hl : lv_has ls 5 [(0, .ref (sd 0)), (1, .int l1), (2, .int w1), (3, .int (nI (xbest (fun q1 => xbk (S 13) (S 14) l1 w1 (tn (S 12 0)) q1) k))), (4, .int (nI (k + 1)))] := hl
  have hI2 : k ≤ 20 := hI2
  have hbl := xbest_le (fun q1 => xbk (S 13) (S 14) l1 w1 (tn (S 12 0)) q1) k
  try dsimp only
  refine lv_iload hx hb dX6_bestLoaves_5 (lv_at hl 4 rfl) ?_
  refine lv_bipush (v := nI 20) hx hb dX6_bestLoaves_7 (by decide) ?_
  refine x_icmp_gt (x := k + 1) (y := 20) (tgt := 39) hx hb (by omega) (by omega) dX6_bestLoaves_9 (by decide) (fun c3 => ?_) (fun c3 => ?_)
  · refine lv_iload_n hx hb dX6_bestLoaves_39 rfl (lv_at hl 3 rfl) ?_
    exact x_iret hx hb hr hlocks () hM (show nI (xbest (fun q1 => xbk (S 13) (S 14) l1 w1 (tn (S 12 0)) q1) k) = nI (xbest (fun q1 => xbk (S 13) (S 14) l1 w1 (tn (S 12 0)) q1) 20) from by (rw [show k = 20 by omega])) dX6_bestLoaves_40
  · refine lv_aload_n hx hb dX6_bestLoaves_12 rfl (lv_at hl 0 rfl) ?_
    refine lv_iload hx hb dX6_bestLoaves_13 (lv_at hl 4 rfl) ?_
    refine lv_iload_n hx hb dX6_bestLoaves_15 rfl (lv_at hl 1 rfl) ?_
    refine lv_iload_n hx hb dX6_bestLoaves_16 rfl (lv_at hl 2 rfl) ?_
    refine x_calli (bc := [wst q sd X]) (br := []) hM [0] [] rfl rfl rfl (by decide) (x_runS (As := [.ref (sd 0), .int (nI (k + 1)), .int l1, .int w1]) (rest := []) hfix (c_X6_tenfoldCost l D q sd X S (k + 1) l1 w1 hT) (va_cwS 4 hts gX6_bestLoaves_X6_tenfoldCost rfl rfl rfl (by decide +kernel) ⟨Nat.le_of_ble_eq_true rfl, Nat.le_of_ble_eq_true rfl⟩) hM [0] rfl rfl rfl hl.1 rfl (Nat.le_of_ble_eq_true rfl) dX6_bestLoaves_17 ⟨Nat.le_of_ble_eq_true rfl, Nat.le_of_ble_eq_true rfl⟩) (fun r u H locs hq hM => ?_)
    subst hq
    have hM : xM D (TY q) [wst q sd X] A s.heap s H locs := hM
    refine lv_aload_n hx hb dX6_bestLoaves_20 rfl (lv_at hl 0 rfl) ?_
    refine lv_iload_n hx hb dX6_bestLoaves_21 rfl (lv_at hl 3 rfl) ?_
    refine lv_iload_n hx hb dX6_bestLoaves_22 rfl (lv_at hl 1 rfl) ?_
    refine lv_iload_n hx hb dX6_bestLoaves_23 rfl (lv_at hl 2 rfl) ?_
    refine x_calli (bc := [wst q sd X]) (br := []) hM [0] [] rfl rfl rfl (by decide) (x_runS (As := [.ref (sd 0), .int (nI (xbest (fun q1 => xbk (S 13) (S 14) l1 w1 (tn (S 12 0)) q1) k)), .int l1, .int w1]) (rest := [.int (xbk (S 13) (S 14) l1 w1 (tn (S 12 0)) (k + 1))]) hfix (c_X6_tenfoldCost l D q sd X S (xbest (fun q1 => xbk (S 13) (S 14) l1 w1 (tn (S 12 0)) q1) k) l1 w1 hT) (va_cwS 4 hts gX6_bestLoaves_X6_tenfoldCost rfl rfl rfl (by decide +kernel) ⟨Nat.le_of_ble_eq_true rfl, Nat.le_of_ble_eq_true rfl⟩) hM [0] rfl rfl rfl hl.1 rfl (Nat.le_of_ble_eq_true rfl) dX6_bestLoaves_24 ⟨Nat.le_of_ble_eq_true rfl, Nat.le_of_ble_eq_true rfl⟩) (fun r u H locs hq hM => ?_)
    subst hq
    have hM : xM D (TY q) [wst q sd X] A s.heap s H locs := hM
    refine lv_icmp_ge (tgt := 33) hx hb dX6_bestLoaves_27 (by decide) (fun c4 => ?_) (fun c4 => ?_)
    · refine lv_iinc (v := nI (k + 1 + 1)) (lv' := [(4, .int (nI (k + 1 + 1))), (0, .ref (sd 0)), (1, .int l1), (2, .int w1), (3, .int (nI (xbest (fun q1 => xbk (S 13) (S 14) l1 w1 (tn (S 12 0)) q1) k)))]) hx hb dX6_bestLoaves_33 hl (k := 4) rfl (x_inc _ 1) (by decide) rfl (fun ls hl => ?_)
      refine lv_goto (tgt := 5) hx hb dX6_bestLoaves_36 (by decide) ?_
      have hl : lv_has ls 5 [(0, .ref (sd 0)), (1, .int l1), (2, .int w1), (3, .int (nI (xbest (fun q1 => xbk (S 13) (S 14) l1 w1 (tn (S 12 0)) q1) k))), (4, .int (nI (k + 1 + 1)))] := lv_sub hl [1, 2, 3, 4, 0] rfl
      have e5 : nI (xbest (fun q1 => xbk (S 13) (S 14) l1 w1 (tn (S 12 0)) q1) k) = nI (xbest (fun q1 => xbk (S 13) (S 14) l1 w1 (tn (S 12 0)) q1) (k + 1)) := by (first | exact congrArg nI (xbest_1 (f := (fun q1 => xbk (S 13) (S 14) l1 w1 (tn (S 12 0)) q1)) (by assumption)).symm | exact congrArg nI (xbest_0 (f := (fun q1 => xbk (S 13) (S 14) l1 w1 (tn (S 12 0)) q1)) (by assumption)).symm)
      have hl : lv_has ls 5 [(0, .ref (sd 0)), (1, .int l1), (2, .int w1), (3, .int (nI (xbest (fun q1 => xbk (S 13) (S 14) l1 w1 (tn (S 12 0)) q1) (k + 1)))), (4, .int (nI (k + 1 + 1)))] := x_lvset hl 3 rfl (congrArg Value.int e5) rfl
      exact ih1 (k + 1) (show 20 - (k + 1) < 20 - k from by omega) (show (k + 1) ≤ 20 from by omega) _ _ hM _ hl
    · refine lv_iload hx hb dX6_bestLoaves_30 (lv_at hl 4 rfl) ?_
      refine lv_istore_n (lv' := [(3, .int (nI (k + 1))), (0, .ref (sd 0)), (1, .int l1), (2, .int w1), (4, .int (nI (k + 1)))]) hx hb dX6_bestLoaves_32 rfl hl (by decide) rfl (fun ls hl => ?_)
      refine lv_iinc (v := nI (k + 1 + 1)) (lv' := [(4, .int (nI (k + 1 + 1))), (3, .int (nI (k + 1))), (0, .ref (sd 0)), (1, .int l1), (2, .int w1)]) hx hb dX6_bestLoaves_33 hl (k := 4) rfl (x_inc _ 1) (by decide) rfl (fun ls hl => ?_)
      refine lv_goto (tgt := 5) hx hb dX6_bestLoaves_36 (by decide) ?_
      have hl : lv_has ls 5 [(0, .ref (sd 0)), (1, .int l1), (2, .int w1), (3, .int (nI (k + 1))), (4, .int (nI (k + 1 + 1)))] := lv_sub hl [2, 3, 4, 1, 0] rfl
      have e6 : nI (k + 1) = nI (xbest (fun q1 => xbk (S 13) (S 14) l1 w1 (tn (S 12 0)) q1) (k + 1)) := by (first | exact congrArg nI (xbest_1 (f := (fun q1 => xbk (S 13) (S 14) l1 w1 (tn (S 12 0)) q1)) (by assumption)).symm | exact congrArg nI (xbest_0 (f := (fun q1 => xbk (S 13) (S 14) l1 w1 (tn (S 12 0)) q1)) (by assumption)).symm)
      have hl : lv_has ls 5 [(0, .ref (sd 0)), (1, .int l1), (2, .int w1), (3, .int (nI (xbest (fun q1 => xbk (S 13) (S 14) l1 w1 (tn (S 12 0)) q1) (k + 1)))), (4, .int (nI (k + 1 + 1)))] := x_lvset hl 3 rfl (congrArg Value.int e6) rfl
      exact ih1 (k + 1) (show 20 - (k + 1) < 20 - k from by omega) (show (k + 1) ≤ 20 from by omega) _ _ hM _ hl
