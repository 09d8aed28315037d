set_option maxRecDepth 20000 in
theorem ggX6_tenfoldCost_X7_loavesOf : GoodIn wsX6_tenfoldCost wsX7_loavesOf := goodIn_r _ [6, 7, 8, 9, 10, 11, 17, 18, 19, 20, 21, 22, 23, 24, 25, 26, 27, 28, 29, 30, 31, 32] (by decide +kernel) (by decide +kernel)
set_option maxRecDepth 20000 in
theorem gX6_tenfoldCost_X7_loavesOf : GoodIn wsX6_tenfoldCost (wsV RX6 32 RX7 yX7_loavesOf wsX7_loavesOf) := goodIn_app (goodIn_of _ (by decide +kernel)) ggX6_tenfoldCost_X7_loavesOf
set_option maxRecDepth 20000 in
theorem ggX6_tenfoldCost_X7_chanceOf : GoodIn wsX6_tenfoldCost wsX7_chanceOf := goodIn_r _ [15, 16, 8, 9, 10, 11, 17, 18, 19, 20, 21, 22, 23, 24, 25, 26, 27, 28, 29, 30, 31, 32] (by decide +kernel) (by decide +kernel)
set_option maxRecDepth 20000 in
theorem gX6_tenfoldCost_X7_chanceOf : GoodIn wsX6_tenfoldCost (wsV RX6 36 RX7 yX7_chanceOf wsX7_chanceOf) := goodIn_app (goodIn_of _ (by decide +kernel)) ggX6_tenfoldCost_X7_chanceOf
theorem dX6_tenfoldCost_0 : decode cX6_tenfoldCost 0 = .ok (.iconst 0, 1) := by decide +kernel
theorem dX6_tenfoldCost_1 : decode cX6_tenfoldCost 1 = .ok (.istore 4, 2) := by decide +kernel
theorem dX6_tenfoldCost_3 : decode cX6_tenfoldCost 3 = .ok (.iconst 0, 1) := by decide +kernel
theorem dX6_tenfoldCost_4 : decode cX6_tenfoldCost 4 = .ok (.istore 5, 2) := by decide +kernel
theorem dX6_tenfoldCost_6 : decode cX6_tenfoldCost 6 = .ok (.iload 5, 2) := by decide +kernel
theorem dX6_tenfoldCost_8 : decode cX6_tenfoldCost 8 = .ok (.aload_n 0, 1) := by decide +kernel
theorem dX6_tenfoldCost_9 : decode cX6_tenfoldCost 9 = .ok (.getfield 26, 3) := by decide +kernel
theorem dX6_tenfoldCost_12 : decode cX6_tenfoldCost 12 = .ok (.if_icmp .ge 48, 3) := by decide +kernel
theorem dX6_tenfoldCost_15 : decode cX6_tenfoldCost 15 = .ok (.iload_n 1, 1) := by decide +kernel
theorem dX6_tenfoldCost_16 : decode cX6_tenfoldCost 16 = .ok (.aload_n 0, 1) := by decide +kernel
theorem dX6_tenfoldCost_17 : decode cX6_tenfoldCost 17 = .ok (.iload 5, 2) := by decide +kernel
theorem dX6_tenfoldCost_19 : decode cX6_tenfoldCost 19 = .ok (.invokevirtual 32, 3) := by decide +kernel
theorem dX6_tenfoldCost_22 : decode cX6_tenfoldCost 22 = .ok (.isub, 1) := by decide +kernel
theorem dX6_tenfoldCost_23 : decode cX6_tenfoldCost 23 = .ok (.istore 6, 2) := by decide +kernel
theorem dX6_tenfoldCost_25 : decode cX6_tenfoldCost 25 = .ok (.iload 4, 2) := by decide +kernel
theorem dX6_tenfoldCost_27 : decode cX6_tenfoldCost 27 = .ok (.aload_n 0, 1) := by decide +kernel
theorem dX6_tenfoldCost_28 : decode cX6_tenfoldCost 28 = .ok (.iload 5, 2) := by decide +kernel
theorem dX6_tenfoldCost_30 : decode cX6_tenfoldCost 30 = .ok (.invokevirtual 36, 3) := by decide +kernel
theorem dX6_tenfoldCost_33 : decode cX6_tenfoldCost 33 = .ok (.iload 6, 2) := by decide +kernel
theorem dX6_tenfoldCost_35 : decode cX6_tenfoldCost 35 = .ok (.ifCond .le 10, 3) := by decide +kernel
theorem dX6_tenfoldCost_38 : decode cX6_tenfoldCost 38 = .ok (.iload_n 2, 1) := by decide +kernel
theorem dX6_tenfoldCost_39 : decode cX6_tenfoldCost 39 = .ok (.iload 6, 2) := by decide +kernel
theorem dX6_tenfoldCost_41 : decode cX6_tenfoldCost 41 = .ok (.imul, 1) := by decide +kernel
theorem dX6_tenfoldCost_42 : decode cX6_tenfoldCost 42 = .ok (.goto 8, 3) := by decide +kernel
theorem dX6_tenfoldCost_45 : decode cX6_tenfoldCost 45 = .ok (.iload_n 3, 1) := by decide +kernel
theorem dX6_tenfoldCost_46 : decode cX6_tenfoldCost 46 = .ok (.ineg, 1) := by decide +kernel
theorem dX6_tenfoldCost_47 : decode cX6_tenfoldCost 47 = .ok (.iload 6, 2) := by decide +kernel
theorem dX6_tenfoldCost_49 : decode cX6_tenfoldCost 49 = .ok (.imul, 1) := by decide +kernel
theorem dX6_tenfoldCost_50 : decode cX6_tenfoldCost 50 = .ok (.imul, 1) := by decide +kernel
theorem dX6_tenfoldCost_51 : decode cX6_tenfoldCost 51 = .ok (.iadd, 1) := by decide +kernel
theorem dX6_tenfoldCost_52 : decode cX6_tenfoldCost 52 = .ok (.istore 4, 2) := by decide +kernel
theorem dX6_tenfoldCost_54 : decode cX6_tenfoldCost 54 = .ok (.iinc 5 1, 3) := by decide +kernel
theorem dX6_tenfoldCost_57 : decode cX6_tenfoldCost 57 = .ok (.goto (-51), 3) := by decide +kernel
theorem dX6_tenfoldCost_60 : decode cX6_tenfoldCost 60 = .ok (.iload 4, 2) := by decide +kernel
theorem dX6_tenfoldCost_62 : decode cX6_tenfoldCost 62 = .ok (.ireturn, 1) := by decide +kernel
theorem lkX6_tenfoldCost_26 : Cond.fieldLink RX6 26 "LeftAtFive$Street" "demands" "I" ∈ wsX6_tenfoldCost := by decide +kernel
theorem iwX6_tenfoldCost_X7 : ∀ w ∈ wsX70, w ∈ wsX6_tenfoldCost := by decide +kernel
set_option maxHeartbeats 2000000 in
set_option maxRecDepth 100000 in
theorem c_X6_tenfoldCost (l : Launch) (D : va_G) (q : Nat → ClassId) (sd : Nat → Nat) (X : Nat → Nat → Int32) (S : Nat → Nat → Int32) (q1 : Nat) (l1 : Int32) (w1 : Int32) (hT : okT X S) : xC l yX6_tenfoldCost wsX6_tenfoldCost ({ frames := 2, cells := 0, slots := 0, locals := 42 }) D (TY q) [wst q sd X] [.ref (sd 0), .int (nI q1), .int l1, .int w1] (xQi D (TY q) (fun (r : Int32) (_ : Unit) => r = xbk (S 13) (S 14) l1 w1 (tn (S 12 0)) q1) (fun _ => [wst q sd X])) 0 0 := by
  refine x_enter (cc := cX6_tenfoldCost) (maxL := 7) (ret := (some .int)) (by decide) rfl (Nat.le_of_ble_eq_true rfl) ?_
  intro p e s m below meth c A ls H locs hfix hr hlocks hinit hM hl
  obtain ⟨hx, hb, hml, hown, hts⟩ := id hfix
  have hl : lv_has ls 7 [(0, .ref (sd 0)), (1, .int (nI q1)), (2, .int l1), (3, .int w1)] := hl
  have hTb := okT_3b hT
  refine lv_iconst (v := nI 0) hx hb dX6_tenfoldCost_0 (by decide) ?_
  refine lv_istore (lv' := [(4, .int (nI 0)), (0, .ref (sd 0)), (1, .int (nI q1)), (2, .int l1), (3, .int w1)]) hx hb dX6_tenfoldCost_1 hl (by decide) rfl (fun ls hl => ?_)
  refine lv_iconst (v := nI 0) hx hb dX6_tenfoldCost_3 (by decide) ?_
  refine lv_istore (lv' := [(5, .int (nI 0)), (4, .int (nI 0)), (0, .ref (sd 0)), (1, .int (nI q1)), (2, .int l1), (3, .int w1)]) hx hb dX6_tenfoldCost_4 hl (by decide) rfl (fun ls hl => ?_)
  refine x_loop (ι := Nat) (fun i => [(0, .ref (sd 0)), (1, .int (nI q1)), (2, .int l1), (3, .int w1), (4, .int (xbk (S 13) (S 14) l1 w1 i q1)), (5, .int (nI i))]) (fun i => [wst q sd X]) (fun i => i ≤ (tn (S 12 0))) (fun i => (tn (S 12 0)) - i) 0 (by omega) hM (lv_sub hl [2, 3, 4, 5, 1, 0] rfl) ?_
  intro i hI2 ih1 H locs hM ls hl
  have hM : xM D (TY q) [wst q sd X] A s.heap s H locs := hM
  have hl : lv_has ls 7 [(0, .ref (sd 0)), (1, .int (nI q1)), (2, .int l1), (3, .int w1), (4, .int (xbk (S 13) (S 14) l1 w1 i q1)), (5, .int (nI i))] := hl
  have hI2 : i ≤ (tn (S 12 0)) := hI2
  try dsimp only
  refine lv_iload hx hb dX6_tenfoldCost_6 (lv_at hl 5 rfl) ?_
  refine lv_aload_n hx hb dX6_tenfoldCost_8 rfl (lv_at hl 0 rfl) ?_
  refine x_get hx hb hts iwX6_tenfoldCost_X7 hown hM 0 0 rfl rfl rfl 3 (by decide) (hts _ lkX6_tenfoldCost_26) (fun _ h => h) rfl dX6_tenfoldCost_9 ?_
  refine x_cast (y := nI (tn (S 12 0))) (okT_3 hT) ?_
  refine x_icmp_ge (x := i) (y := tn (S 12 0)) (tgt := 60) hx hb (by omega) (by omega) dX6_tenfoldCost_12 (by decide) (fun c3 => ?_) (fun c3 => ?_)
  · refine lv_iload hx hb dX6_tenfoldCost_60 (lv_at hl 4 rfl) ?_
    exact x_iret hx hb hr hlocks () hM (show xbk (S 13) (S 14) l1 w1 i q1 = xbk (S 13) (S 14) l1 w1 (tn (S 12 0)) q1 from by (rw [show i = (tn (S 12 0)) by omega])) dX6_tenfoldCost_62
  · refine lv_iload_n hx hb dX6_tenfoldCost_15 rfl (lv_at hl 1 rfl) ?_
    refine lv_aload_n hx hb dX6_tenfoldCost_16 rfl (lv_at hl 0 rfl) ?_
    refine lv_iload hx hb dX6_tenfoldCost_17 (lv_at hl 5 rfl) ?_
    refine x_calli (bc := [wst q sd X]) (br := []) hM [0] [] rfl rfl rfl (by decide) (x_runV (As := [.int (nI i)]) (rest := [.int (nI q1)]) hfix (c_X7_loavesOf l D q sd X S i hT (by omega)) (cwV 1 hts gX6_tenfoldCost_X7_loavesOf rfl rfl rfl (by decide +kernel) ⟨Nat.le_of_ble_eq_true rfl, Nat.le_of_ble_eq_true rfl⟩) hM [0] rfl rfl 0 0 rfl rfl rfl rfl rfl hl.1 rfl (Nat.le_of_ble_eq_true rfl) dX6_tenfoldCost_19 ⟨Nat.le_of_ble_eq_true rfl, Nat.le_of_ble_eq_true rfl⟩) (fun r u H locs hq hM => ?_)
    subst hq
    have hM : xM D (TY q) [wst q sd X] A s.heap s H locs := hM
    refine lv_isub hx hb dX6_tenfoldCost_22 ?_
    refine lv_istore (lv' := [(6, .int ((nI q1) - (S 13 i))), (0, .ref (sd 0)), (1, .int (nI q1)), (2, .int l1), (3, .int w1), (4, .int (xbk (S 13) (S 14) l1 w1 i q1)), (5, .int (nI i))]) hx hb dX6_tenfoldCost_23 hl (by decide) rfl (fun ls hl => ?_)
    refine lv_iload hx hb dX6_tenfoldCost_25 (lv_at hl 5 rfl) ?_
    refine lv_aload_n hx hb dX6_tenfoldCost_27 rfl (lv_at hl 1 rfl) ?_
    refine lv_iload hx hb dX6_tenfoldCost_28 (lv_at hl 6 rfl) ?_
    refine x_calli (bc := [wst q sd X]) (br := []) hM [0] [] rfl rfl rfl (by decide) (x_runV (As := [.int (nI i)]) (rest := [.int (xbk (S 13) (S 14) l1 w1 i q1)]) hfix (c_X7_chanceOf l D q sd X S i hT (by omega)) (cwV 1 hts gX6_tenfoldCost_X7_chanceOf rfl rfl rfl (by decide +kernel) ⟨Nat.le_of_ble_eq_true rfl, Nat.le_of_ble_eq_true rfl⟩) hM [0] rfl rfl 0 0 rfl rfl rfl rfl rfl hl.1 rfl (Nat.le_of_ble_eq_true rfl) dX6_tenfoldCost_30 ⟨Nat.le_of_ble_eq_true rfl, Nat.le_of_ble_eq_true rfl⟩) (fun r u H locs hq hM => ?_)
    subst hq
    have hM : xM D (TY q) [wst q sd X] A s.heap s H locs := hM
    refine lv_iload hx hb dX6_tenfoldCost_33 (lv_at hl 0 rfl) ?_
    refine lv_if_le (tgt := 45) hx hb dX6_tenfoldCost_35 (by decide) (fun c4 => ?_) (fun c4 => ?_)
    · refine lv_iload_n hx hb dX6_tenfoldCost_45 rfl (lv_at hl 4 rfl) ?_
      refine lv_ineg hx hb dX6_tenfoldCost_46 ?_
      refine lv_iload hx hb dX6_tenfoldCost_47 (lv_at hl 0 rfl) ?_
      refine lv_imul hx hb dX6_tenfoldCost_49 ?_
      refine lv_imul hx hb dX6_tenfoldCost_50 ?_
      refine lv_iadd hx hb dX6_tenfoldCost_51 ?_
      refine lv_istore (lv' := [(4, .int ((xbk (S 13) (S 14) l1 w1 i q1) + ((S 14 i) * ((-w1) * ((nI q1) - (S 13 i)))))), (6, .int ((nI q1) - (S 13 i))), (0, .ref (sd 0)), (1, .int (nI q1)), (2, .int l1), (3, .int w1), (5, .int (nI i))]) hx hb dX6_tenfoldCost_52 hl (by decide) rfl (fun ls hl => ?_)
      refine lv_iinc (v := nI (i + 1)) (lv' := [(5, .int (nI (i + 1))), (4, .int ((xbk (S 13) (S 14) l1 w1 i q1) + ((S 14 i) * ((-w1) * ((nI q1) - (S 13 i)))))), (6, .int ((nI q1) - (S 13 i))), (0, .ref (sd 0)), (1, .int (nI q1)), (2, .int l1), (3, .int w1)]) hx hb dX6_tenfoldCost_54 hl (k := 6) rfl (x_inc _ 1) (by decide) rfl (fun ls hl => ?_)
      refine lv_goto (tgt := 6) hx hb dX6_tenfoldCost_57 (by decide) ?_
      have hl : lv_has ls 7 [(0, .ref (sd 0)), (1, .int (nI q1)), (2, .int l1), (3, .int w1), (4, .int ((xbk (S 13) (S 14) l1 w1 i q1) + ((S 14 i) * ((-w1) * ((nI q1) - (S 13 i)))))), (5, .int (nI (i + 1)))] := lv_sub hl [3, 4, 5, 6, 1, 0] rfl
      have e5 : (xbk (S 13) (S 14) l1 w1 i q1) + ((S 14 i) * ((-w1) * ((nI q1) - (S 13 i)))) = xbk (S 13) (S 14) l1 w1 (i + 1) q1 := by (first | exact xbk_p (Int32.not_le.mp (by assumption)) | exact xbk_n (Int32.not_lt.mpr (by assumption)))
      have hl : lv_has ls 7 [(0, .ref (sd 0)), (1, .int (nI q1)), (2, .int l1), (3, .int w1), (4, .int (xbk (S 13) (S 14) l1 w1 (i + 1) q1)), (5, .int (nI (i + 1)))] := x_lvset hl 4 rfl (congrArg Value.int e5) rfl
      exact ih1 (i + 1) (show (tn (S 12 0)) - (i + 1) < (tn (S 12 0)) - i from by omega) (show (i + 1) ≤ (tn (S 12 0)) from by omega) _ _ hM _ hl
    · refine lv_iload_n hx hb dX6_tenfoldCost_38 rfl (lv_at hl 3 rfl) ?_
      refine lv_iload hx hb dX6_tenfoldCost_39 (lv_at hl 0 rfl) ?_
      refine lv_imul hx hb dX6_tenfoldCost_41 ?_
      refine lv_goto (tgt := 50) hx hb dX6_tenfoldCost_42 (by decide) ?_
      refine lv_imul hx hb dX6_tenfoldCost_50 ?_
      refine lv_iadd hx hb dX6_tenfoldCost_51 ?_
      refine lv_istore (lv' := [(4, .int ((xbk (S 13) (S 14) l1 w1 i q1) + ((S 14 i) * (l1 * ((nI q1) - (S 13 i)))))), (6, .int ((nI q1) - (S 13 i))), (0, .ref (sd 0)), (1, .int (nI q1)), (2, .int l1), (3, .int w1), (5, .int (nI i))]) hx hb dX6_tenfoldCost_52 hl (by decide) rfl (fun ls hl => ?_)
      refine lv_iinc (v := nI (i + 1)) (lv' := [(5, .int (nI (i + 1))), (4, .int ((xbk (S 13) (S 14) l1 w1 i q1) + ((S 14 i) * (l1 * ((nI q1) - (S 13 i)))))), (6, .int ((nI q1) - (S 13 i))), (0, .ref (sd 0)), (1, .int (nI q1)), (2, .int l1), (3, .int w1)]) hx hb dX6_tenfoldCost_54 hl (k := 6) rfl (x_inc _ 1) (by decide) rfl (fun ls hl => ?_)
      refine lv_goto (tgt := 6) hx hb dX6_tenfoldCost_57 (by decide) ?_
      have hl : lv_has ls 7 [(0, .ref (sd 0)), (1, .int (nI q1)), (2, .int l1), (3, .int w1), (4, .int ((xbk (S 13) (S 14) l1 w1 i q1) + ((S 14 i) * (l1 * ((nI q1) - (S 13 i)))))), (5, .int (nI (i + 1)))] := lv_sub hl [3, 4, 5, 6, 1, 0] rfl
      have e6 : (xbk (S 13) (S 14) l1 w1 i q1) + ((S 14 i) * (l1 * ((nI q1) - (S 13 i)))) = xbk (S 13) (S 14) l1 w1 (i + 1) q1 := by (first | exact xbk_p (Int32.not_le.mp (by assumption)) | exact xbk_n (Int32.not_lt.mpr (by assumption)))
      have hl : lv_has ls 7 [(0, .ref (sd 0)), (1, .int (nI q1)), (2, .int l1), (3, .int w1), (4, .int (xbk (S 13) (S 14) l1 w1 (i + 1) q1)), (5, .int (nI (i + 1)))] := x_lvset hl 4 rfl (congrArg Value.int e6) rfl
      exact ih1 (i + 1) (show (tn (S 12 0)) - (i + 1) < (tn (S 12 0)) - i from by omega) (show (i + 1) ≤ (tn (S 12 0)) from by omega) _ _ hM _ hl
