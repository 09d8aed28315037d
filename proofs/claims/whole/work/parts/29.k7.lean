set_option maxRecDepth 20000 in
theorem ggX6_tenfoldCost_X7_loavesOf : GoodIn wsX6_tenfoldCost wsX7_loavesOf := goodIn_r _ [6, 7, 8, 9, 10, 11, 17, 18, 19, 20, 21, 22, 23, 24, 25, 26, 27, 28, 29, 30, 31, 32] (by decide +kernel) (by decide +kernel)
set_option maxRecDepth 20000 in
theorem gX6_tenfoldCost_X7_loavesOf : GoodIn wsX6_tenfoldCost (wsV RX6 32 RX7 yX7_loavesOf wsX7_loavesOf) := goodIn_app (goodIn_of _ (by decide +kernel)) ggX6_tenfoldCost_X7_loavesOf
set_option maxRecDepth 20000 in
theorem ggX6_tenfoldCost_X7_chanceOf : GoodIn wsX6_tenfoldCost wsX7_chanceOf := goodIn_r _ [15, 16, 8, 9, 10, 11, 17, 18, 19, 20, 21, 22, 23, 24, 25, 26, 27, 28, 29, 30, 31, 32] (by decide +kernel) (by decide +kernel)
set_option maxRecDepth 20000 in
theorem gX6_tenfoldCost_X7_chanceOf : GoodIn wsX6_tenfoldCost (wsV RX6 36 RX7 yX7_chanceOf wsX7_chanceOf) := goodIn_app (goodIn_of _ (by decide +kernel)) ggX6_tenfoldCost_X7_chanceOf
theorem dX6_tenfoldCost_0 : decode cX6_tenfoldCost 0 = .ok (.iconst 0, 1) := by decide +kernel
theorem dX6_tenfoldCost_1 : decode cX6_tenfoldCost 1 = .ok (.istore 4, 2) := by decide +kernel
theorem dX6_tenfoldCost_3 : decode cX6_tenfoldCost 3 = .ok (.iconst 0, 1) := by decide +kernel
theorem dX6_tenfoldCost_4 : decode cX6_tenfoldCost 4 = .ok (.istore 5, 2) := by decide +kernel
theorem dX6_tenfoldCost_6 : decode cX6_tenfoldCost 6 = .ok (.iload 5, 2) := by decide +kernel
theorem dX6_tenfoldCost_8 : decode cX6_tenfoldCost 8 = .ok (.aload_n 0, 1) := by decide +kernel
theorem dX6_tenfoldCost_9 : decode cX6_tenfoldCost 9 = .ok (.getfield 26, 3) := by decide +kernel
theorem dX6_tenfoldCost_12 : decode cX6_tenfoldCost 12 = .ok (.if_icmp .ge 48, 3) := by decide +kernel
theorem dX6_tenfoldCost_15 : decode cX6_tenfoldCost 15 = .ok (.iload_n 1, 1) := by decide +kernel
theorem dX6_tenfoldCost_16 : decode cX6_tenfoldCost 16 = .ok (.aload_n 0, 1) := by decide +kernel
theorem dX6_tenfoldCost_17 : decode cX6_tenfoldCost 17 = .ok (.iload 5, 2) := by decide +kernel
theorem dX6_tenfoldCost_19 : decode cX6_tenfoldCost 19 = .ok (.invokevirtual 32, 3) := by decide +kernel
theorem dX6_tenfoldCost_22 : decode cX6_tenfoldCost 22 = .ok (.isub, 1) := by decide +kernel
theorem dX6_tenfoldCost_23 : decode cX6_tenfoldCost 23 = .ok (.istore 6, 2) := by decide +kernel
theorem dX6_tenfoldCost_25 : decode cX6_tenfoldCost 25 = .ok (.iload 4, 2) := by decide +kernel
theorem dX6_tenfoldCost_27 : decode cX6_tenfoldCost 27 = .ok (.aload_n 0, 1) := by decide +kernel
theorem dX6_tenfoldCost_28 : decode cX6_tenfoldCost 28 = .ok (.iload 5, 2) := by decide +kernel
theorem dX6_tenfoldCost_30 : decode cX6_tenfoldCost 30 = .ok (.invokevirtual 36, 3) := by decide +kernel
theorem dX6_tenfoldCost_33 : decode cX6_tenfoldCost 33 = .ok (.iload 6, 2) := by decide +kernel
theorem dX6_tenfoldCost_35 : decode cX6_tenfoldCost 35 = .ok (.ifCond .le 10, 3) := by decide +kernel
theorem dX6_tenfoldCost_38 : decode cX6_tenfoldCost 38 = .ok (.iload_n 2, 1) := by decide +kernel
theorem dX6_tenfoldCost_39 : decode cX6_tenfoldCost 39 = .ok (.iload 6, 2) := by decide +kernel
theorem dX6_tenfoldCost_41 : decode cX6_tenfoldCost 41 = .ok (.imul, 1) := by decide +kernel
theorem dX6_tenfoldCost_42 : decode cX6_tenfoldCost 42 = .ok (.goto 8, 3) := by decide +kernel
theorem dX6_tenfoldCost_45 : decode cX6_tenfoldCost 45 = .ok (.iload_n 3, 1) := by decide +kernel
theorem dX6_tenfoldCost_46 : decode cX6_tenfoldCost 46 = .ok (.ineg, 1) := by decide +kernel
theorem dX6_tenfoldCost_47 : decode cX6_tenfoldCost 47 = .ok (.iload 6, 2) := by decide +kernel
theorem dX6_tenfoldCost_49 : decode cX6_tenfoldCost 49 = .ok (.imul, 1) := by decide +kernel
theorem dX6_tenfoldCost_50 : decode cX6_tenfoldCost 50 = .ok (.imul, 1) := by decide +kernel
theorem dX6_tenfoldCost_51 : decode cX6_tenfoldCost 51 = .ok (.iadd, 1) := by decide +kernel
theorem dX6_tenfoldCost_52 : decode cX6_tenfoldCost 52 = .ok (.istore 4, 2) := by decide +kernel
theorem dX6_tenfoldCost_54 : decode cX6_tenfoldCost 54 = .ok (.iinc 5 1, 3) := by decide +kernel
theorem dX6_tenfoldCost_57 : decode cX6_tenfoldCost 57 = .ok (.goto (-51), 3) := by decide +kernel
theorem dX6_tenfoldCost_60 : decode cX6_tenfoldCost 60 = .ok (.iload 4, 2) := by decide +kernel
theorem dX6_tenfoldCost_62 : decode cX6_tenfoldCost 62 = .ok (.ireturn, 1) := by decide +kernel
theorem lkX6_tenfoldCost_26 : Cond.fieldLink RX6 26 "LeftAtFive$Street" "demands" "I" ∈ wsX6_tenfoldCost := by decide +kernel
theorem iwX6_tenfoldCost_X7 : ∀ w ∈ wsX70, w ∈ wsX6_tenfoldCost := by decide +kernel
set_option maxHeartbeats 2000000 in
set_option maxRecDepth 100000 in
theorem c_X6_tenfoldCost (l : Launch) (D : va_G) (q : Nat → ClassId) (sd : Nat → Nat) (X : Nat → Nat → Int32) (S : Nat → Nat → Int32) (q1 : Nat) (l1 : Int32) (w1 : Int32) (hT : okT X S) : xC l yX6_tenfoldCost wsX6_tenfoldCost ({ frames := 2, cells := 0, slots := 0, locals := 42 }) D (TY q) [wst q sd X] [.ref (sd 0), .int (nI q1), .int l1, .int w1] (xQi D (TY q) (fun (r : Int32) (_ : Unit) => r = xbk (S 13) (S 14) l1 w1 (tn (S 12 0)) q1) (fun _ => [wst q sd X])) 0 0 := by
  refine x_enter (cc := cX6_tenfoldCost) (maxL := 7) (ret := (some .int)) (by decide) rfl (Nat.le_of_ble_eq_true rfl) ?_
  intro p e s m below meth c A ls H locs hfix hr hlocks hinit hM hl
  obtain ⟨hx, hb, hml, hown, hts⟩ := id hfix
  have hl : lv_has ls 7 [(0, .ref (sd 0)), (1, .int (nI q1)), (2, .int l1), (3, .int w1)] := hl
  have hTb := okT_3b hT
  refine lv_iconst (v := nI 0) hx hb dX6_tenfoldCost_0 (by decide) ?_
  refine lv_istore (lv' := [(4, .int (nI 0)), (0, .ref (sd 0)), (1, .int (nI q1)), (2, .int l1), (3, .int w1)]) hx hb dX6_tenfoldCost_1 hl (by decide) rfl (fun ls hl => ?_)
  refine lv_iconst (v := nI 0) hx hb dX6_tenfoldCost_3 (by decide) ?_
  refine lv_istore (lv' := [(5, .int (nI 0)), (4, .int (nI 0)), (0, .ref (sd 0)), (1, .int (nI q1)), (2, .int l1), (3, .int w1)]) hx hb dX6_tenfoldCost_4 hl (by decide) rfl (fun ls hl => ?_)
  refine x_loop (ι := Nat) (fun i => [(0, .ref (sd 0)), (1, .int (nI q1)), (2, .int l1), (3, .int w1), (4, .int (xbk (S 13) (S 14) l1 w1 i q1)), (5, .int (nI i))]) (fun i => [wst q sd X]) (fun i => i ≤ (tn (S 12 0))) (fun i => (tn (S 12 0)) - i) 0 (by omega) hM (lv_sub hl [2, 3, 4, 5, 1, 0] rfl) ?_
  intro i hI2 ih1 H locs hM ls hl
  have hM : xM D (TY q) [wst q sd X] A s.heap s H locs := hM
  have hl : lv_has ls 7 [(0, .ref (sd 0)), (1, .int (nI q1)), (2, .int l1), (3, .int w1), (4, .int (xbk (S 13) (S 14) l1 w1 i q1)), (5, .int (nI i))] := hl
  have hI2 : i ≤ (tn (S 12 0)) := hI2
  try dsimp only
  refine lv_iload hx hb dX6_tenfoldCost_6 (lv_at hl 5 rfl) ?_
  refine lv_aload_n hx hb dX6_tenfoldCost_8 rfl (lv_at hl 0 rfl) ?_
  refine x_get hx hb hts iwX6_tenfoldCost_X7 hown hM 0 0 rfl rfl rfl 3 (by decide) (hts _ lkX6_tenfoldCost_26) (fun _ h => h) rfl dX6_tenfoldCost_9 ?_
  refine x_cast (y := nI (tn (S 12 0))) (okT_3 hT) ?_
  refine x_icmp_ge (x := i) (y := tn (S 12 0)) (tgt := 60) hx hb (by omega) (by omega) dX6_tenfoldCost_12 (by decide) (fun c3 => ?_) (fun c3 => ?_)
  · refine lv_iload hx hb dX6_tenfoldCost_60 (lv_at hl 4 rfl) ?_
    exact x_iret hx hb hr hlocks () hM (show xbk (S 13) (S 14) l1 w1 i q1 = xbk (S 13) (S 14) l1 w1 (tn (S 12 0)) q1 from by (rw [show i = (tn (S 12 0)) by omega])) dX6_tenfoldCost_62
  · refine lv_iload_n hx hb dX6_tenfoldCost_15 rfl (lv_at hl 1 rfl) ?_
    refine lv_aload_n hx hb dX6_tenfoldCost_16 rfl (lv_at hl 0 rfl) ?_
    refine lv_iload hx hb dX6_tenfoldCost_17 (lv_at hl 5 rfl) ?_
    refine x_calli (bc := [wst q sd X]) (br := []) hM [0] [] rfl rfl rfl (by decide) (x_runV (As := [.int (nI i)]) (rest := [.int (nI q1)]) hfix (c_X7_loavesOf l D q sd X S i hT (by omega)) (cwV 1 hts gX6_tenfoldCost_X7_loavesOf rfl rfl rfl (by decide +kernel) ⟨Nat.le_of_ble_eq_true rfl, Nat.le_of_ble_eq_true rfl⟩) hM [0] rfl rfl 0 0 rfl rfl rfl rfl rfl hl.1 rfl (Nat.le_of_ble_eq_true rfl) dX6_tenfoldCost_19 ⟨Nat.le_of_ble_eq_true rfl, Nat.le_of_ble_eq_true rfl⟩) (fun r u H locs hq hM => ?_)
    subst hq
    have hM : xM D (TY q) [wst q sd X] A s.heap s H locs := hM
    refine lv_isub hx hb dX6_tenfoldCost_22 ?_
    refine lv_istore (lv' := [(6, .int ((nI q1) - (S 13 i))), (0, .ref (sd 0)), (1, .int (nI q1)), (2, .int l1), (3, .int w1), (4, .int (xbk (S 13) (S 14) l1 w1 i q1)), (5, .int (nI i))]) hx hb dX6_tenfoldCost_23 hl (by decide) rfl (fun ls hl => ?_)
    refine lv_iload hx hb dX6_tenfoldCost_25 (lv_at hl 5 rfl) ?_
    refine lv_aload_n hx hb dX6_tenfoldCost_27 rfl (lv_at hl 1 rfl) ?_
    refine lv_iload hx hb dX6_tenfoldCost_28 (lv_at hl 6 rfl) ?_
    refine x_calli (bc := [wst q sd X]) (br := []) hM [0] [] rfl rfl rfl (by decide) (x_runV (As := [.int (nI i)]) (rest := [.int (xbk (S 13) (S 14) l1 w1 i q1)]) hfix (c_X7_chanceOf l D q sd X S i hT (by omega)) (cwV 1 hts gX6_tenfoldCost_X7_chanceOf rfl rfl rfl (by decide +kernel) ⟨Nat.le_of_ble_eq_true rfl, Nat.le_of_ble_eq_true rfl⟩) hM [0] rfl rfl 0 0 rfl rfl rfl rfl rfl hl.1 rfl (Nat.le_of_ble_eq_true rfl) dX6_tenfoldCost_30 ⟨Nat.le_of_ble_eq_true rfl, Nat.le_of_ble_eq_true rfl⟩) (fun r u H locs hq hM => ?_)
    subst hq
    have hM : xM D (TY q) [wst q sd X] A s.heap s H locs := hM
    refine lv_iload hx hb dX6_tenfoldCost_33 (lv_at hl 0 rfl) ?_
    refine lv_if_le (tgt := 45) hx hb dX6_tenfoldCost_35 (by decide) (fun c4 => ?_) (fun c4 => ?_)
    · refine lv_iload_n hx hb dX6_tenfoldCost_45 rfl (lv_at hl 4 rfl) ?_
      refine lv_ineg hx hb dX6_tenfoldCost_46 ?_
      refine lv_iload hx hb dX6_tenfoldCost_47 (lv_at hl 0 rfl) ?_
      refine lv_imul hx hb dX6_tenfoldCost_49 ?_
      refine lv_imul hx hb dX6_tenfoldCost_50 ?_
      refine lv_iadd hx hb dX6_tenfoldCost_51 ?_
      refine lv_istore (lv' := [(4, .int ((xbk (S 13) (S 14) l1 w1 i q1) + ((S 14 i) * ((-w1) * ((nI q1) - (S 13 i)))))), (6, .int ((nI q1) - (S 13 i))), (0, .ref (sd 0)), (1, .int (nI q1)), (2, .int l1), (3, .int w1), (5, .int (nI i))]) hx hb dX6_tenfoldCost_52 hl (by decide) rfl (fun ls hl => ?_)
      refine lv_iinc (v := nI (i + 1)) (lv' := [(5, .int (nI (i + 1))), (4, .int ((xbk (S 13) (S 14) l1 w1 i q1) + ((S 14 i) * ((-w1) * ((nI q1) - (S 13 i)))))), (6, .int ((nI q1) - (S 13 i))), (0, .ref (sd 0)), (1, .int (nI q1)), (2, .int l1), (3, .int w1)]) hx hb dX6_tenfoldCost_54 hl (k := 6) rfl (x_inc _ 1) (by decide) rfl (fun ls hl => ?_)
      refine lv_goto (tgt := 6) hx hb dX6_tenfoldCost_57 (by decide) ?_
      have hl : lv_has ls 7 [(0, .ref (sd 0)), (1, .int (nI q1)), (2, .int l1), (3, .int w1), (4, .int ((xbk (S 13) (S 14) l1 w1 i q1) + ((S 14 i) * ((-w1) * ((nI q1) - (S 13 i)))))), (5, .int (nI (i + 1)))] := lv_sub hl [3, 4, 5, 6, 1, 0] rfl
      have e5 : (xbk (S 13) (S 14) l1 w1 i q1) + ((S 14 i) * ((-w1) * ((nI q1) - (S 13 i)))) = xbk (S 13) (S 14) l1 w1 (i + 1) q1 := by (rw [@J1]; exact xbk_s)
      have hl : lv_has ls 7 [(0, .ref (sd 0)), (1, .int (nI q1)), (2, .int l1), (3, .int w1), (4, .int (xbk (S 13) (S 14) l1 w1 (i + 1) q1)), (5, .int (nI (i + 1)))] := x_lvset hl 4 rfl (congrArg Value.int e5) rfl
      exact ih1 (i + 1) (show (tn (S 12 0)) - (i + 1) < (tn (S 12 0)) - i from by omega) (show (i + 1) ≤ (tn (S 12 0)) from by omega) _ _ hM _ hl
    · refine lv_iload_n hx hb dX6_tenfoldCost_38 rfl (lv_at hl 3 rfl) ?_
      refine lv_iload hx hb dX6_tenfoldCost_39 (lv_at hl 0 rfl) ?_
      refine lv_imul hx hb dX6_tenfoldCost_41 ?_
      refine lv_goto (tgt := 50) hx hb dX6_tenfoldCost_42 (by decide) ?_
      refine lv_imul hx hb dX6_tenfoldCost_50 ?_
      refine lv_iadd hx hb dX6_tenfoldCost_51 ?_
      refine lv_istore (lv' := [(4, .int ((xbk (S 13) (S 14) l1 w1 i q1) + ((S 14 i) * (l1 * ((nI q1) - (S 13 i)))))), (6, .int ((nI q1) - (S 13 i))), (0, .ref (sd 0)), (1, .int (nI q1)), (2, .int l1), (3, .int w1), (5, .int (nI i))]) hx hb dX6_tenfoldCost_52 hl (by decide) rfl (fun ls hl => ?_)
      refine lv_iinc (v := nI (i + 1)) (lv' := [(5, .int (nI (i + 1))), (4, .int ((xbk (S 13) (S 14) l1 w1 i q1) + ((S 14 i) * (l1 * ((nI q1) - (S 13 i)))))), (6, .int ((nI q1) - (S 13 i))), (0, .ref (sd 0)), (1, .int (nI q1)), (2, .int l1), (3, .int w1)]) hx hb dX6_tenfoldCost_54 hl (k := 6) rfl (x_inc _ 1) (by decide) rfl (fun ls hl => ?_)
      refine lv_goto (tgt := 6) hx hb dX6_tenfoldCost_57 (by decide) ?_
      have hl : lv_has ls 7 [(0, .ref (sd 0)), (1, .int (nI q1)), (2, .int l1), (3, .int w1), (4, .int ((xbk (S 13) (S 14) l1 w1 i q1) + ((S 14 i) * (l1 * ((nI q1) - (S 13 i)))))), (5, .int (nI (i + 1)))] := lv_sub hl [3, 4, 5, 6, 1, 0] rfl
      have e6 : (xbk (S 13) (S 14) l1 w1 i q1) + ((S 14 i) * (l1 * ((nI q1) - (S 13 i)))) = xbk (S 13) (S 14) l1 w1 (i + 1) q1 := by (rw [@J1]; exact xbk_s)
      have hl : lv_has ls 7 [(0, .ref (sd 0)), (1, .int (nI q1)), (2, .int l1), (3, .int w1), (4, .int (xbk (S 13) (S 14) l1 w1 (i + 1) q1)), (5, .int (nI (i + 1)))] := x_lvset hl 4 rfl (congrArg Value.int e6) rfl
      exact ih1 (i + 1) (show (tn (S 12 0)) - (i + 1) < (tn (S 12 0)) - i from by omega) (show (i + 1) ≤ (tn (S 12 0)) from by omega) _ _ hM _ hl

set_option maxRecDepth 20000 in
theorem ggX6_bestLoaves_X6_tenfoldCost : GoodIn wsX6_bestLoaves wsX6_tenfoldCost := goodIn_r _ [4, 5, 6, 7, 8, 9, 10, 11, 12, 13, 14, 15, 16, 17, 18, 19, 20, 21, 22, 23, 24, 25, 26, 27, 28, 29, 30, 31, 32, 33, 34, 35, 36] (by decide +kernel) (by decide +kernel)
set_option maxRecDepth 20000 in
theorem gX6_bestLoaves_X6_tenfoldCost : GoodIn wsX6_bestLoaves (va_wsS RX6 22 yX6_tenfoldCost wsX6_tenfoldCost) := goodIn_app (goodIn_of _ (by decide +kernel)) ggX6_bestLoaves_X6_tenfoldCost
theorem dX6_bestLoaves_0 : decode cX6_bestLoaves 0 = .ok (.iconst 0, 1) := by decide +kernel
theorem dX6_bestLoaves_1 : decode cX6_bestLoaves 1 = .ok (.istore_n 3, 1) := by decide +kernel
theorem dX6_bestLoaves_2 : decode cX6_bestLoaves 2 = .ok (.iconst 1, 1) := by decide +kernel
theorem dX6_bestLoaves_3 : decode cX6_bestLoaves 3 = .ok (.istore 4, 2) := by decide +kernel
theorem dX6_bestLoaves_5 : decode cX6_bestLoaves 5 = .ok (.iload 4, 2) := by decide +kernel
theorem dX6_bestLoaves_7 : decode cX6_bestLoaves 7 = .ok (.bipush 20, 2) := by decide +kernel
theorem dX6_bestLoaves_9 : decode cX6_bestLoaves 9 = .ok (.if_icmp .gt 30, 3) := by decide +kernel
theorem dX6_bestLoaves_12 : decode cX6_bestLoaves 12 = .ok (.aload_n 0, 1) := by decide +kernel
theorem dX6_bestLoaves_13 : decode cX6_bestLoaves 13 = .ok (.iload 4, 2) := by decide +kernel
theorem dX6_bestLoaves_15 : decode cX6_bestLoaves 15 = .ok (.iload_n 1, 1) := by decide +kernel
theorem dX6_bestLoaves_16 : decode cX6_bestLoaves 16 = .ok (.iload_n 2, 1) := by decide +kernel
theorem dX6_bestLoaves_17 : decode cX6_bestLoaves 17 = .ok (.invokestatic 22, 3) := by decide +kernel
theorem dX6_bestLoaves_20 : decode cX6_bestLoaves 20 = .ok (.aload_n 0, 1) := by decide +kernel
theorem dX6_bestLoaves_21 : decode cX6_bestLoaves 21 = .ok (.iload_n 3, 1) := by decide +kernel
theorem dX6_bestLoaves_22 : decode cX6_bestLoaves 22 = .ok (.iload_n 1, 1) := by decide +kernel
theorem dX6_bestLoaves_23 : decode cX6_bestLoaves 23 = .ok (.iload_n 2, 1) := by decide +kernel
theorem dX6_bestLoaves_24 : decode cX6_bestLoaves 24 = .ok (.invokestatic 22, 3) := by decide +kernel
theorem dX6_bestLoaves_27 : decode cX6_bestLoaves 27 = .ok (.if_icmp .ge 6, 3) := by decide +kernel
theorem dX6_bestLoaves_30 : decode cX6_bestLoaves 30 = .ok (.iload 4, 2) := by decide +kernel
theorem dX6_bestLoaves_32 : decode cX6_bestLoaves 32 = .ok (.istore_n 3, 1) := by decide +kernel
theorem dX6_bestLoaves_33 : decode cX6_bestLoaves 33 = .ok (.iinc 4 1, 3) := by decide +kernel
theorem dX6_bestLoaves_36 : decode cX6_bestLoaves 36 = .ok (.goto (-31), 3) := by decide +kernel
theorem dX6_bestLoaves_39 : decode cX6_bestLoaves 39 = .ok (.iload_n 3, 1) := by decide +kernel
theorem dX6_bestLoaves_40 : decode cX6_bestLoaves 40 = .ok (.ireturn, 1) := by decide +kernel
set_option maxHeartbeats 2000000 in
set_option maxRecDepth 100000 in
theorem c_X6_bestLoaves (l : Launch) (D : va_G) (q : Nat → ClassId) (sd : Nat → Nat) (X : Nat → Nat → Int32) (S : Nat → Nat → Int32) (l1 : Int32) (w1 : Int32) (hT : okT X S) : xC l yX6_bestLoaves wsX6_bestLoaves ({ frames := 3, cells := 0, slots := 0, locals := 68 }) D (TY q) [wst q sd X] [.ref (sd 0), .int l1, .int w1] (xQi D (TY q) (fun (r : Int32) (_ : Unit) => r = nI (xbest (fun q1 => xbk (S 13) (S 14) l1 w1 (tn (S 12 0)) q1) 20)) (fun _ => [wst q sd X])) 0 0 := by
  refine x_enter (cc := cX6_bestLoaves) (maxL := 5) (ret := (some .int)) (by decide) rfl (Nat.le_of_ble_eq_true rfl) ?_
  intro p e s m below meth c A ls H locs hfix hr hlocks hinit hM hl
  obtain ⟨hx, hb, hml, hown, hts⟩ := id hfix
  have hl : lv_has ls 5 [(0, .ref (sd 0)), (1, .int l1), (2, .int w1)] := hl
  refine lv_iconst (v := nI 0) hx hb dX6_bestLoaves_0 (by decide) ?_
  refine lv_istore_n (lv' := [(3, .int (nI 0)), (0, .ref (sd 0)), (1, .int l1), (2, .int w1)]) hx hb dX6_bestLoaves_1 rfl hl (by decide) rfl (fun ls hl => ?_)
  refine lv_iconst (v := nI 1) hx hb dX6_bestLoaves_2 (by decide) ?_
  refine lv_istore (lv' := [(4, .int (nI 1)), (3, .int (nI 0)), (0, .ref (sd 0)), (1, .int l1), (2, .int w1)]) hx hb dX6_bestLoaves_3 hl (by decide) rfl (fun ls hl => ?_)
  refine x_loop (ι := Nat) (fun k => [(0, .ref (sd 0)), (1, .int l1), (2, .int w1), (3, .int (nI (xbest (fun q1 => xbk (S 13) (S 14) l1 w1 (tn (S 12 0)) q1) k))), (4, .int (nI (k + 1)))]) (fun k => [wst q sd X]) (fun k => k ≤ 20) (fun k => 20 - k) 0 (by omega) hM (lv_sub hl [2, 3, 4, 1, 0] rfl) ?_
  intro k hI2 ih1 H locs hM ls hl
  have hM : xM D (TY q) [wst q sd X] A s.heap s H locs := hM
  have hl : lv_has ls 5 [(0, .ref (sd 0)), (1, .int l1), (2, .int w1), (3, .int (nI (xbest (fun q1 => xbk (S 13) (S 14) l1 w1 (tn (S 12 0)) q1) k))), (4, .int (nI (k + 1)))] := hl
  have hI2 : k ≤ 20 := hI2
  have hbl := xbest_le (fun q1 => xbk (S 13) (S 14) l1 w1 (tn (S 12 0)) q1) k
  try dsimp only
  refine lv_iload hx hb dX6_bestLoaves_5 (lv_at hl 4 rfl) ?_
  refine lv_bipush (v := nI 20) hx hb dX6_bestLoaves_7 (by decide) ?_
  refine x_icmp_gt (x := k + 1) (y := 20) (tgt := 39) hx hb (by omega) (by omega) dX6_bestLoaves_9 (by decide) (fun c3 => ?_) (fun c3 => ?_)
  · refine lv_iload_n hx hb dX6_bestLoaves_39 rfl (lv_at hl 3 rfl) ?_
    exact x_iret hx hb hr hlocks () hM (show nI (xbest (fun q1 => xbk (S 13) (S 14) l1 w1 (tn (S 12 0)) q1) k) = nI (xbest (fun q1 => xbk (S 13) (S 14) l1 w1 (tn (S 12 0)) q1) 20) from by (rw [show k = 20 by omega])) dX6_bestLoaves_40
  · refine lv_aload_n hx hb dX6_bestLoaves_12 rfl (lv_at hl 0 rfl) ?_
    refine lv_iload hx hb dX6_bestLoaves_13 (lv_at hl 4 rfl) ?_
    refine lv_iload_n hx hb dX6_bestLoaves_15 rfl (lv_at hl 1 rfl) ?_
    refine lv_iload_n hx hb dX6_bestLoaves_16 rfl (lv_at hl 2 rfl) ?_
    refine x_calli (bc := [wst q sd X]) (br := []) hM [0] [] rfl rfl rfl (by decide) (x_runS (As := [.ref (sd 0), .int (nI (k + 1)), .int l1, .int w1]) (rest := []) hfix (c_X6_tenfoldCost l D q sd X S (k + 1) l1 w1 hT) (va_cwS 4 hts gX6_bestLoaves_X6_tenfoldCost rfl rfl rfl (by decide +kernel) ⟨Nat.le_of_ble_eq_true rfl, Nat.le_of_ble_eq_true rfl⟩) hM [0] rfl rfl rfl hl.1 rfl (Nat.le_of_ble_eq_true rfl) dX6_bestLoaves_17 ⟨Nat.le_of_ble_eq_true rfl, Nat.le_of_ble_eq_true rfl⟩) (fun r u H locs hq hM => ?_)
    subst hq
    have hM : xM D (TY q) [wst q sd X] A s.heap s H locs := hM
    refine lv_aload_n hx hb dX6_bestLoaves_20 rfl (lv_at hl 0 rfl) ?_
    refine lv_iload_n hx hb dX6_bestLoaves_21 rfl (lv_at hl 3 rfl) ?_
    refine lv_iload_n hx hb dX6_bestLoaves_22 rfl (lv_at hl 1 rfl) ?_
    refine lv_iload_n hx hb dX6_bestLoaves_23 rfl (lv_at hl 2 rfl) ?_
    refine x_calli (bc := [wst q sd X]) (br := []) hM [0] [] rfl rfl rfl (by decide) (x_runS (As := [.ref (sd 0), .int (nI (xbest (fun q1 => xbk (S 13) (S 14) l1 w1 (tn (S 12 0)) q1) k)), .int l1, .int w1]) (rest := [.int (xbk (S 13) (S 14) l1 w1 (tn (S 12 0)) (k + 1))]) hfix (c_X6_tenfoldCost l D q sd X S (xbest (fun q1 => xbk (S 13) (S 14) l1 w1 (tn (S 12 0)) q1) k) l1 w1 hT) (va_cwS 4 hts gX6_bestLoaves_X6_tenfoldCost rfl rfl rfl (by decide +kernel) ⟨Nat.le_of_ble_eq_true rfl, Nat.le_of_ble_eq_true rfl⟩) hM [0] rfl rfl rfl hl.1 rfl (Nat.le_of_ble_eq_true rfl) dX6_bestLoaves_24 ⟨Nat.le_of_ble_eq_true rfl, Nat.le_of_ble_eq_true rfl⟩) (fun r u H locs hq hM => ?_)
    subst hq
    have hM : xM D (TY q) [wst q sd X] A s.heap s H locs := hM
    refine lv_icmp_ge (tgt := 33) hx hb dX6_bestLoaves_27 (by decide) (fun c4 => ?_) (fun c4 => ?_)
    · refine lv_iinc (v := nI (k + 1 + 1)) (lv' := [(4, .int (nI (k + 1 + 1))), (0, .ref (sd 0)), (1, .int l1), (2, .int w1), (3, .int (nI (xbest (fun q1 => xbk (S 13) (S 14) l1 w1 (tn (S 12 0)) q1) k)))]) hx hb dX6_bestLoaves_33 hl (k := 4) rfl (x_inc _ 1) (by decide) rfl (fun ls hl => ?_)
      refine lv_goto (tgt := 5) hx hb dX6_bestLoaves_36 (by decide) ?_
      have hl : lv_has ls 5 [(0, .ref (sd 0)), (1, .int l1), (2, .int w1), (3, .int (nI (xbest (fun q1 => xbk (S 13) (S 14) l1 w1 (tn (S 12 0)) q1) k))), (4, .int (nI (k + 1 + 1)))] := lv_sub hl [1, 2, 3, 4, 0] rfl
      have e5 : nI (xbest (fun q1 => xbk (S 13) (S 14) l1 w1 (tn (S 12 0)) q1) k) = nI (xbest (fun q1 => xbk (S 13) (S 14) l1 w1 (tn (S 12 0)) q1) (k + 1)) := by (first | exact congrArg nI (xbest_1 (f := (fun q1 => xbk (S 13) (S 14) l1 w1 (tn (S 12 0)) q1)) (by assumption)).symm | exact congrArg nI (xbest_0 (f := (fun q1 => xbk (S 13) (S 14) l1 w1 (tn (S 12 0)) q1)) (by assumption)).symm)
      have hl : lv_has ls 5 [(0, .ref (sd 0)), (1, .int l1), (2, .int w1), (3, .int (nI (xbest (fun q1 => xbk (S 13) (S 14) l1 w1 (tn (S 12 0)) q1) (k + 1)))), (4, .int (nI (k + 1 + 1)))] := x_lvset hl 3 rfl (congrArg Value.int e5) rfl
      exact ih1 (k + 1) (show 20 - (k + 1) < 20 - k from by omega) (show (k + 1) ≤ 20 from by omega) _ _ hM _ hl
    · refine lv_iload hx hb dX6_bestLoaves_30 (lv_at hl 4 rfl) ?_
      refine lv_istore_n (lv' := [(3, .int (nI (k + 1))), (0, .ref (sd 0)), (1, .int l1), (2, .int w1), (4, .int (nI (k + 1)))]) hx hb dX6_bestLoaves_32 rfl hl (by decide) rfl (fun ls hl => ?_)
      refine lv_iinc (v := nI (k + 1 + 1)) (lv' := [(4, .int (nI (k + 1 + 1))), (3, .int (nI (k + 1))), (0, .ref (sd 0)), (1, .int l1), (2, .int w1)]) hx hb dX6_bestLoaves_33 hl (k := 4) rfl (x_inc _ 1) (by decide) rfl (fun ls hl => ?_)
      refine lv_goto (tgt := 5) hx hb dX6_bestLoaves_36 (by decide) ?_
      have hl : lv_has ls 5 [(0, .ref (sd 0)), (1, .int l1), (2, .int w1), (3, .int (nI (k + 1))), (4, .int (nI (k + 1 + 1)))] := lv_sub hl [2, 3, 4, 1, 0] rfl
      have e6 : nI (k + 1) = nI (xbest (fun q1 => xbk (S 13) (S 14) l1 w1 (tn (S 12 0)) q1) (k + 1)) := by (first | exact congrArg nI (xbest_1 (f := (fun q1 => xbk (S 13) (S 14) l1 w1 (tn (S 12 0)) q1)) (by assumption)).symm | exact congrArg nI (xbest_0 (f := (fun q1 => xbk (S 13) (S 14) l1 w1 (tn (S 12 0)) q1)) (by assumption)).symm)
      have hl : lv_has ls 5 [(0, .ref (sd 0)), (1, .int l1), (2, .int w1), (3, .int (nI (xbest (fun q1 => xbk (S 13) (S 14) l1 w1 (tn (S 12 0)) q1) (k + 1)))), (4, .int (nI (k + 1 + 1)))] := x_lvset hl 3 rfl (congrArg Value.int e6) rfl
      exact ih1 (k + 1) (show 20 - (k + 1) < 20 - k from by omega) (show (k + 1) ≤ 20 from by omega) _ _ hM _ hl

theorem dX6_commonDivisor_0 : decode cX6_commonDivisor 0 = .ok (.lload_n 0, 1) := by decide +kernel
theorem dX6_commonDivisor_1 : decode cX6_commonDivisor 1 = .ok (.lstore 4, 2) := by decide +kernel
theorem dX6_commonDivisor_3 : decode cX6_commonDivisor 3 = .ok (.lload_n 2, 1) := by decide +kernel
theorem dX6_commonDivisor_4 : decode cX6_commonDivisor 4 = .ok (.lstore 6, 2) := by decide +kernel
theorem dX6_commonDivisor_6 : decode cX6_commonDivisor 6 = .ok (.iconst 0, 1) := by decide +kernel
theorem dX6_commonDivisor_7 : decode cX6_commonDivisor 7 = .ok (.istore 8, 2) := by decide +kernel
theorem dX6_commonDivisor_9 : decode cX6_commonDivisor 9 = .ok (.iload 8, 2) := by decide +kernel
theorem dX6_commonDivisor_11 : decode cX6_commonDivisor 11 = .ok (.sipush 1000, 3) := by decide +kernel
theorem dX6_commonDivisor_14 : decode cX6_commonDivisor 14 = .ok (.if_icmp .ge 31, 3) := by decide +kernel
theorem dX6_commonDivisor_17 : decode cX6_commonDivisor 17 = .ok (.lload 6, 2) := by decide +kernel
theorem dX6_commonDivisor_19 : decode cX6_commonDivisor 19 = .ok (.lconst 0, 1) := by decide +kernel
theorem dX6_commonDivisor_20 : decode cX6_commonDivisor 20 = .ok (.lcmp, 1) := by decide +kernel
theorem dX6_commonDivisor_21 : decode cX6_commonDivisor 21 = .ok (.ifCond .eq 24, 3) := by decide +kernel
theorem dX6_commonDivisor_24 : decode cX6_commonDivisor 24 = .ok (.lload 4, 2) := by decide +kernel
theorem dX6_commonDivisor_26 : decode cX6_commonDivisor 26 = .ok (.lload 6, 2) := by decide +kernel
theorem dX6_commonDivisor_28 : decode cX6_commonDivisor 28 = .ok (.lrem, 1) := by decide +kernel
theorem dX6_commonDivisor_29 : decode cX6_commonDivisor 29 = .ok (.lstore 9, 2) := by decide +kernel
theorem dX6_commonDivisor_31 : decode cX6_commonDivisor 31 = .ok (.lload 6, 2) := by decide +kernel
theorem dX6_commonDivisor_33 : decode cX6_commonDivisor 33 = .ok (.lstore 4, 2) := by decide +kernel
theorem dX6_commonDivisor_35 : decode cX6_commonDivisor 35 = .ok (.lload 9, 2) := by decide +kernel
theorem dX6_commonDivisor_37 : decode cX6_commonDivisor 37 = .ok (.lstore 6, 2) := by decide +kernel
theorem dX6_commonDivisor_39 : decode cX6_commonDivisor 39 = .ok (.iinc 8 1, 3) := by decide +kernel
theorem dX6_commonDivisor_42 : decode cX6_commonDivisor 42 = .ok (.goto (-33), 3) := by decide +kernel
theorem dX6_commonDivisor_45 : decode cX6_commonDivisor 45 = .ok (.lload 4, 2) := by decide +kernel
theorem dX6_commonDivisor_47 : decode cX6_commonDivisor 47 = .ok (.lreturn, 1) := by decide +kernel
set_option maxHeartbeats 2000000 in
set_option maxRecDepth 100000 in
theorem c_X6_commonDivisor (l : Launch) (D : va_G) (q : Nat → ClassId) (a : Int64) (b : Int64) (ha9 : 0 ≤ a.toInt) (hb9 : 0 < b.toInt) : xC l yX6_commonDivisor wsX6_commonDivisor ({ frames := 0, cells := 0, slots := 0, locals := 0 }) D (TY q) [] [.long a, .long b] (xQl D (TY q) (fun (r : Int64) (_ : Unit) => r = xgcd a b) (fun _ => [])) 0 0 := by
  refine x_enter (cc := cX6_commonDivisor) (maxL := 11) (ret := (some .long)) (by decide) rfl (Nat.le_of_ble_eq_true rfl) ?_
  intro p e s m below meth c A ls H locs hfix hr hlocks hinit hM hl
  obtain ⟨hx, hb, hml, hown, hts⟩ := id hfix
  have hl : lv_has ls 11 [(0, .long a), (2, .long b)] := hl
  have hal := a.toInt_lt
  have hbl := b.toInt_lt
  refine lv_lload_n hx hb dX6_commonDivisor_0 rfl (lv_at hl 0 rfl) ?_
  refine lv_lstore (lv' := [(4, .long a), (0, .long a), (2, .long b)]) hx hb dX6_commonDivisor_1 hl (by decide) rfl (fun ls hl => ?_)
  refine lv_lload_n hx hb dX6_commonDivisor_3 rfl (lv_at hl 2 rfl) ?_
  refine lv_lstore (lv' := [(6, .long b), (4, .long a), (0, .long a), (2, .long b)]) hx hb dX6_commonDivisor_4 hl (by decide) rfl (fun ls hl => ?_)
  refine lv_iconst (v := nI 0) hx hb dX6_commonDivisor_6 (by decide) ?_
  refine lv_istore (lv' := [(8, .int (nI 0)), (6, .long b), (4, .long a), (0, .long a), (2, .long b)]) hx hb dX6_commonDivisor_7 hl (by decide) rfl (fun ls hl => ?_)
  refine x_loop (ι := Int64 × Int64 × Nat) (fun z8 => [(0, .long a), (2, .long b), (4, .long z8.1), (6, .long z8.2.1), (8, .int (nI z8.2.2))]) (fun z8 => []) (fun z8 => (0 ≤ z8.1.toInt ∧ z8.1.toInt < 2 ^ 63) ∧ (0 ≤ z8.2.1.toInt ∧ z8.2.1.toInt < 2 ^ 63) ∧ Nat.gcd z8.1.toInt.toNat z8.2.1.toInt.toNat = Nat.gcd a.toInt.toNat b.toInt.toNat ∧ xdvI z8.2.2 z8.1.toInt.toNat z8.2.1.toInt.toNat ∧ z8.2.2 ≤ 1000) (fun z8 => 1000 - z8.2.2) (a, b, 0) (⟨⟨ha9, by omega⟩, ⟨by omega, by omega⟩, rfl, Or.inl rfl, by omega⟩) hM (lv_sub hl [3, 4, 2, 1, 0] rfl) ?_
  intro ⟨x, y, k⟩ hI2 ih1 H locs hM ls hl
  have hM : xM D (TY q) [] A s.heap s H locs := hM
  have hl : lv_has ls 11 [(0, .long a), (2, .long b), (4, .long x), (6, .long y), (8, .int (nI k))] := hl
  have hI2 : (0 ≤ x.toInt ∧ x.toInt < 2 ^ 63) ∧ (0 ≤ y.toInt ∧ y.toInt < 2 ^ 63) ∧ Nat.gcd x.toInt.toNat y.toInt.toNat = Nat.gcd a.toInt.toNat b.toInt.toNat ∧ xdvI k x.toInt.toNat y.toInt.toNat ∧ k ≤ 1000 := hI2
  obtain ⟨hI2_0, hI2_1, hI2_2, hI2_3, hI2_4⟩ := id hI2
  have hx9 := hI2_0
  have hy9 := hI2_1
  have hg9 := hI2_2
  have hd9 := hI2_3
  try dsimp only
  refine lv_iload hx hb dX6_commonDivisor_9 (lv_at hl 4 rfl) ?_
  refine lv_sipush (v := nI 1000) hx hb dX6_commonDivisor_11 (by decide) ?_
  refine x_icmp_ge (x := k) (y := 1000) (tgt := 45) hx hb (by omega) (by omega) dX6_commonDivisor_14 (by decide) (fun c3 => ?_) (fun c3 => ?_)
  · refine lv_lload hx hb dX6_commonDivisor_45 (lv_at hl 2 rfl) ?_
    exact x_lret hx hb hr hlocks () hM (show x = xgcd a b from by (first | exact xgcd_eq hx9.1 (by assumption) hg9 | exact xgcd_eq hx9.1 (xdv_z hy9.1 (xdv_end (by omega) hd9)) hg9)) dX6_commonDivisor_47
  · refine lv_lload hx hb dX6_commonDivisor_17 (lv_at hl 3 rfl) ?_
    refine lv_lconst (v := 0) hx hb dX6_commonDivisor_19 (by decide) ?_
    refine x_lcmp_eq (tgt := 45) hx hb dX6_commonDivisor_20 dX6_commonDivisor_21 (by decide) (fun c4 => ?_) (fun c4 => ?_)
    · refine lv_lload hx hb dX6_commonDivisor_45 (lv_at hl 2 rfl) ?_
      exact x_lret hx hb hr hlocks () hM (show x = xgcd a b from by (first | exact xgcd_eq hx9.1 (by assumption) hg9 | exact xgcd_eq hx9.1 (xdv_z hy9.1 (xdv_end (by omega) hd9)) hg9)) dX6_commonDivisor_47
    · refine lv_lload hx hb dX6_commonDivisor_24 (lv_at hl 2 rfl) ?_
      refine lv_lload hx hb dX6_commonDivisor_26 (lv_at hl 3 rfl) ?_
      refine lv_lrem hx hb dX6_commonDivisor_28 (by assumption) ?_
      refine lv_lstore (lv' := [(9, .long (x - x / y * y)), (0, .long a), (2, .long b), (4, .long x), (6, .long y), (8, .int (nI k))]) hx hb dX6_commonDivisor_29 hl (by decide) rfl (fun ls hl => ?_)
      refine lv_lload hx hb dX6_commonDivisor_31 (lv_at hl 4 rfl) ?_
      refine lv_lstore (lv' := [(4, .long y), (9, .long (x - x / y * y)), (0, .long a), (2, .long b), (6, .long y), (8, .int (nI k))]) hx hb dX6_commonDivisor_33 hl (by decide) rfl (fun ls hl => ?_)
      refine lv_lload hx hb dX6_commonDivisor_35 (lv_at hl 1 rfl) ?_
      refine lv_lstore (lv' := [(6, .long (x - x / y * y)), (4, .long y), (9, .long (x - x / y * y)), (0, .long a), (2, .long b), (8, .int (nI k))]) hx hb dX6_commonDivisor_37 hl (by decide) rfl (fun ls hl => ?_)
      refine lv_iinc (v := nI (k + 1)) (lv' := [(8, .int (nI (k + 1))), (6, .long (x - x / y * y)), (4, .long y), (9, .long (x - x / y * y)), (0, .long a), (2, .long b)]) hx hb dX6_commonDivisor_39 hl (k := 5) rfl (x_inc _ 1) (by decide) rfl (fun ls hl => ?_)
      refine lv_goto (tgt := 9) hx hb dX6_commonDivisor_42 (by decide) ?_
      have hyn : ¬ y = 0 := by assumption
      have hr9 := xrem_toInt (x := x) (y := y) hx9.1 hy9.1 hyn
      have hy0 : 0 < y.toInt.toNat := by rcases Nat.eq_zero_or_pos y.toInt.toNat with z | z; exact absurd (xdv_z hy9.1 z) hyn; exact z
      have hrl := (xrem x y).toInt_lt
      have hrn := xrem_nn hx9.1 hy9.1 hyn
      have hrt : (xrem x y).toInt.toNat = x.toInt.toNat % y.toInt.toNat := by rw [hr9, Int.toNat_emod hx9.1 hy9.1]
      have hl : lv_has ls 11 [(0, .long a), (2, .long b), (4, .long y), (6, .long (x - x / y * y)), (8, .int (nI (k + 1)))] := lv_sub hl [4, 5, 2, 1, 0] rfl
      exact ih1 (y, xrem x y, k + 1) (show 1000 - (k + 1) < 1000 - k from by omega) (show (0 ≤ y.toInt ∧ y.toInt < 2 ^ 63) ∧ (0 ≤ (xrem x y).toInt ∧ (xrem x y).toInt < 2 ^ 63) ∧ Nat.gcd y.toInt.toNat (xrem x y).toInt.toNat = Nat.gcd a.toInt.toNat b.toInt.toNat ∧ xdvI (k + 1) y.toInt.toNat (xrem x y).toInt.toNat ∧ (k + 1) ≤ 1000 from ⟨hy9, ⟨hrn, by omega⟩, (xrem_gcd hx9.1 hy9.1 hyn).trans hg9, (by rw [hrt]; exact xdv_n (by omega) hy0 (by omega) hd9), by omega⟩) _ _ hM _ hl

set_option maxRecDepth 20000 in
theorem ggX6_partOf_X6_commonDivisor : GoodIn wsX6_partOf wsX6_commonDivisor := goodIn_r _ [4] (by decide +kernel) (by decide +kernel)
set_option maxRecDepth 20000 in
theorem gX6_partOf_X6_commonDivisor : GoodIn wsX6_partOf (va_wsS RX6 39 yX6_commonDivisor wsX6_commonDivisor) := goodIn_app (goodIn_of _ (by decide +kernel)) ggX6_partOf_X6_commonDivisor
theorem dX6_partOf_0 : decode cX6_partOf 0 = .ok (.lload_n 0, 1) := by decide +kernel
theorem dX6_partOf_1 : decode cX6_partOf 1 = .ok (.lload_n 2, 1) := by decide +kernel
theorem dX6_partOf_2 : decode cX6_partOf 2 = .ok (.invokestatic 39, 3) := by decide +kernel
theorem dX6_partOf_5 : decode cX6_partOf 5 = .ok (.lstore 5, 2) := by decide +kernel
theorem dX6_partOf_7 : decode cX6_partOf 7 = .ok (.iload 4, 2) := by decide +kernel
theorem dX6_partOf_9 : decode cX6_partOf 9 = .ok (.ifCond .eq 7, 3) := by decide +kernel
theorem dX6_partOf_12 : decode cX6_partOf 12 = .ok (.lload_n 0, 1) := by decide +kernel
theorem dX6_partOf_13 : decode cX6_partOf 13 = .ok (.goto 4, 3) := by decide +kernel
theorem dX6_partOf_16 : decode cX6_partOf 16 = .ok (.lload_n 2, 1) := by decide +kernel
theorem dX6_partOf_17 : decode cX6_partOf 17 = .ok (.lstore 7, 2) := by decide +kernel
theorem dX6_partOf_19 : decode cX6_partOf 19 = .ok (.lload 5, 2) := by decide +kernel
theorem dX6_partOf_21 : decode cX6_partOf 21 = .ok (.lconst 0, 1) := by decide +kernel
theorem dX6_partOf_22 : decode cX6_partOf 22 = .ok (.lcmp, 1) := by decide +kernel
theorem dX6_partOf_23 : decode cX6_partOf 23 = .ok (.ifCond .le 11, 3) := by decide +kernel
theorem dX6_partOf_26 : decode cX6_partOf 26 = .ok (.lload 7, 2) := by decide +kernel
theorem dX6_partOf_28 : decode cX6_partOf 28 = .ok (.lload 5, 2) := by decide +kernel
theorem dX6_partOf_30 : decode cX6_partOf 30 = .ok (.ldiv, 1) := by decide +kernel
theorem dX6_partOf_31 : decode cX6_partOf 31 = .ok (.goto 5, 3) := by decide +kernel
theorem dX6_partOf_34 : decode cX6_partOf 34 = .ok (.lload 7, 2) := by decide +kernel
theorem dX6_partOf_36 : decode cX6_partOf 36 = .ok (.lreturn, 1) := by decide +kernel
set_option maxHeartbeats 2000000 in
set_option maxRecDepth 100000 in
theorem c_X6_partOf (l : Launch) (D : va_G) (q : Nat → ClassId) (a : Int64) (b : Int64) (up : Int32) (ha9 : 0 ≤ a.toInt) (hb9 : 0 < b.toInt) : xC l yX6_partOf wsX6_partOf ({ frames := 1, cells := 0, slots := 0, locals := 30 }) D (TY q) [] [.long a, .long b, .int up] (xQl D (TY q) (fun (r : Int64) (_ : Unit) => r = (if up = 0 then b else a) / xgcd a b) (fun _ => [])) 0 0 := by
  refine x_enter (cc := cX6_partOf) (maxL := 9) (ret := (some .long)) (by decide) rfl (Nat.le_of_ble_eq_true rfl) ?_
  intro p e s m below meth c A ls H locs hfix hr hlocks hinit hM hl
  obtain ⟨hx, hb, hml, hown, hts⟩ := id hfix
  have hl : lv_has ls 9 [(0, .long a), (2, .long b), (4, .int up)] := hl
  refine lv_lload_n hx hb dX6_partOf_0 rfl (lv_at hl 0 rfl) ?_
  refine lv_lload_n hx hb dX6_partOf_1 rfl (lv_at hl 1 rfl) ?_
  refine x_calll (bc := []) (br := []) hM [] [] rfl rfl rfl (by decide) (x_runS (As := [.long a, .long b]) (rest := []) hfix (c_X6_commonDivisor l D q a b ha9 hb9) (va_cwS 2 hts gX6_partOf_X6_commonDivisor rfl rfl rfl (by decide +kernel) ⟨Nat.le_of_ble_eq_true rfl, Nat.le_of_ble_eq_true rfl⟩) hM [] rfl rfl rfl hl.1 rfl (Nat.le_of_ble_eq_true rfl) dX6_partOf_2 ⟨Nat.le_of_ble_eq_true rfl, Nat.le_of_ble_eq_true rfl⟩) (fun r u H locs hq hM => ?_)
  subst hq
  have hM : xM D (TY q) [] A s.heap s H locs := hM
  refine lv_lstore (lv' := [(5, .long (xgcd a b)), (0, .long a), (2, .long b), (4, .int up)]) hx hb dX6_partOf_5 hl (by decide) rfl (fun ls hl => ?_)
  refine lv_iload hx hb dX6_partOf_7 (lv_at hl 3 rfl) ?_
  refine lv_if_eq (tgt := 16) hx hb dX6_partOf_9 (by decide) (fun c1 => ?_) (fun c1 => ?_)
  · refine lv_lload_n hx hb dX6_partOf_16 rfl (lv_at hl 2 rfl) ?_
    refine lv_lstore (lv' := [(7, .long b), (5, .long (xgcd a b)), (0, .long a), (2, .long b), (4, .int up)]) hx hb dX6_partOf_17 hl (by decide) rfl (fun ls hl => ?_)
    refine lv_lload hx hb dX6_partOf_19 (lv_at hl 1 rfl) ?_
    refine lv_lconst (v := 0) hx hb dX6_partOf_21 (by decide) ?_
    refine x_lcmp_le (tgt := 34) hx hb dX6_partOf_22 dX6_partOf_23 (by decide) (fun c2 => ?_) (fun c2 => ?_)
    · exfalso; exact absurd (by assumption) (xgcd_nle hb9)
    · refine lv_lload hx hb dX6_partOf_26 (lv_at hl 0 rfl) ?_
      refine lv_lload hx hb dX6_partOf_28 (lv_at hl 1 rfl) ?_
      refine lv_ldiv hx hb dX6_partOf_30 (xgcd_n0 hb9) ?_
      refine lv_goto (tgt := 36) hx hb dX6_partOf_31 (by decide) ?_
      exact x_lret hx hb hr hlocks () hM (show b / (xgcd a b) = (if up = 0 then b else a) / xgcd a b from by (first | rw [if_pos (by assumption)] | rw [if_neg (by assumption)])) dX6_partOf_36
  · refine lv_lload_n hx hb dX6_partOf_12 rfl (lv_at hl 1 rfl) ?_
    refine lv_goto (tgt := 17) hx hb dX6_partOf_13 (by decide) ?_
    refine lv_lstore (lv' := [(7, .long a), (5, .long (xgcd a b)), (0, .long a), (2, .long b), (4, .int up)]) hx hb dX6_partOf_17 hl (by decide) rfl (fun ls hl => ?_)
    refine lv_lload hx hb dX6_partOf_19 (lv_at hl 1 rfl) ?_
    refine lv_lconst (v := 0) hx hb dX6_partOf_21 (by decide) ?_
    refine x_lcmp_le (tgt := 34) hx hb dX6_partOf_22 dX6_partOf_23 (by decide) (fun c3 => ?_) (fun c3 => ?_)
    · exfalso; exact absurd (by assumption) (xgcd_nle hb9)
    · refine lv_lload hx hb dX6_partOf_26 (lv_at hl 0 rfl) ?_
      refine lv_lload hx hb dX6_partOf_28 (lv_at hl 1 rfl) ?_
      refine lv_ldiv hx hb dX6_partOf_30 (xgcd_n0 hb9) ?_
      refine lv_goto (tgt := 36) hx hb dX6_partOf_31 (by decide) ?_
      exact x_lret hx hb hr hlocks () hM (show a / (xgcd a b) = (if up = 0 then b else a) / xgcd a b from by (first | rw [if_pos (by assumption)] | rw [if_neg (by assumption)])) dX6_partOf_36

theorem dX6_seekMinute_0 : decode cX6_seekMinute 0 = .ok (.ldc2_w 43, 3) := by decide +kernel
theorem dX6_seekMinute_3 : decode cX6_seekMinute 3 = .ok (.lstore 5, 2) := by decide +kernel
theorem dX6_seekMinute_5 : decode cX6_seekMinute 5 = .ok (.iconst 0, 1) := by decide +kernel
theorem dX6_seekMinute_6 : decode cX6_seekMinute 6 = .ok (.istore 7, 2) := by decide +kernel
theorem dX6_seekMinute_8 : decode cX6_seekMinute 8 = .ok (.iload 7, 2) := by decide +kernel
theorem dX6_seekMinute_10 : decode cX6_seekMinute 10 = .ok (.bipush 10, 2) := by decide +kernel
theorem dX6_seekMinute_12 : decode cX6_seekMinute 12 = .ok (.if_icmp .gt 69, 3) := by decide +kernel
theorem dX6_seekMinute_15 : decode cX6_seekMinute 15 = .ok (.iload_n 1, 1) := by decide +kernel
theorem dX6_seekMinute_16 : decode cX6_seekMinute 16 = .ok (.iload_n 2, 1) := by decide +kernel
theorem dX6_seekMinute_17 : decode cX6_seekMinute 17 = .ok (.iload_n 3, 1) := by decide +kernel
theorem dX6_seekMinute_18 : decode cX6_seekMinute 18 = .ok (.iload 7, 2) := by decide +kernel
theorem dX6_seekMinute_20 : decode cX6_seekMinute 20 = .ok (.imul, 1) := by decide +kernel
theorem dX6_seekMinute_21 : decode cX6_seekMinute 21 = .ok (.isub, 1) := by decide +kernel
theorem dX6_seekMinute_22 : decode cX6_seekMinute 22 = .ok (.iconst 0, 1) := by decide +kernel
theorem dX6_seekMinute_23 : decode cX6_seekMinute 23 = .ok (.invokestatic 45, 3) := by decide +kernel
theorem dX6_seekMinute_26 : decode cX6_seekMinute 26 = .ok (.isub, 1) := by decide +kernel
theorem dX6_seekMinute_27 : decode cX6_seekMinute 27 = .ok (.i2l, 1) := by decide +kernel
theorem dX6_seekMinute_28 : decode cX6_seekMinute 28 = .ok (.lload 5, 2) := by decide +kernel
theorem dX6_seekMinute_30 : decode cX6_seekMinute 30 = .ok (.lmul, 1) := by decide +kernel
theorem dX6_seekMinute_31 : decode cX6_seekMinute 31 = .ok (.lstore 8, 2) := by decide +kernel
theorem dX6_seekMinute_33 : decode cX6_seekMinute 33 = .ok (.iload 7, 2) := by decide +kernel
theorem dX6_seekMinute_35 : decode cX6_seekMinute 35 = .ok (.ifCond .eq 13, 3) := by decide +kernel
theorem dX6_seekMinute_38 : decode cX6_seekMinute 38 = .ok (.lload 8, 2) := by decide +kernel
theorem dX6_seekMinute_40 : decode cX6_seekMinute 40 = .ok (.aload_n 0, 1) := by decide +kernel
theorem dX6_seekMinute_41 : decode cX6_seekMinute 41 = .ok (.getfield 51, 3) := by decide +kernel
theorem dX6_seekMinute_44 : decode cX6_seekMinute 44 = .ok (.lcmp, 1) := by decide +kernel
theorem dX6_seekMinute_45 : decode cX6_seekMinute 45 = .ok (.ifCond .le 15, 3) := by decide +kernel
theorem dX6_seekMinute_48 : decode cX6_seekMinute 48 = .ok (.aload_n 0, 1) := by decide +kernel
theorem dX6_seekMinute_49 : decode cX6_seekMinute 49 = .ok (.iload 7, 2) := by decide +kernel
theorem dX6_seekMinute_51 : decode cX6_seekMinute 51 = .ok (.putfield 55, 3) := by decide +kernel
theorem dX6_seekMinute_54 : decode cX6_seekMinute 54 = .ok (.aload_n 0, 1) := by decide +kernel
theorem dX6_seekMinute_55 : decode cX6_seekMinute 55 = .ok (.lload 8, 2) := by decide +kernel
theorem dX6_seekMinute_57 : decode cX6_seekMinute 57 = .ok (.putfield 51, 3) := by decide +kernel
theorem dX6_seekMinute_60 : decode cX6_seekMinute 60 = .ok (.lload 5, 2) := by decide +kernel
theorem dX6_seekMinute_62 : decode cX6_seekMinute 62 = .ok (.ldc2_w 58, 3) := by decide +kernel
theorem dX6_seekMinute_65 : decode cX6_seekMinute 65 = .ok (.ldiv, 1) := by decide +kernel
theorem dX6_seekMinute_66 : decode cX6_seekMinute 66 = .ok (.bipush 10, 2) := by decide +kernel
theorem dX6_seekMinute_68 : decode cX6_seekMinute 68 = .ok (.iload 4, 2) := by decide +kernel
theorem dX6_seekMinute_70 : decode cX6_seekMinute 70 = .ok (.isub, 1) := by decide +kernel
theorem dX6_seekMinute_71 : decode cX6_seekMinute 71 = .ok (.i2l, 1) := by decide +kernel
theorem dX6_seekMinute_72 : decode cX6_seekMinute 72 = .ok (.lmul, 1) := by decide +kernel
theorem dX6_seekMinute_73 : decode cX6_seekMinute 73 = .ok (.lstore 5, 2) := by decide +kernel
theorem dX6_seekMinute_75 : decode cX6_seekMinute 75 = .ok (.iinc 7 1, 3) := by decide +kernel
theorem dX6_seekMinute_78 : decode cX6_seekMinute 78 = .ok (.goto (-70), 3) := by decide +kernel
theorem dX6_seekMinute_81 : decode cX6_seekMinute 81 = .ok (.return_, 1) := by decide +kernel
theorem lkX6_seekMinute_51 : Cond.fieldLink RX6 51 "LeftAtFive$Shops" "bestGain" "J" ∈ wsX6_seekMinute := by decide +kernel
theorem lkX6_seekMinute_55 : Cond.fieldLink RX6 55 "LeftAtFive$Shops" "bestMinute" "I" ∈ wsX6_seekMinute := by decide +kernel
theorem iwX6_seekMinute_X6 : ∀ w ∈ wsX60, w ∈ wsX6_seekMinute := by decide +kernel
set_option maxHeartbeats 2000000 in
set_option maxRecDepth 100000 in
theorem c_X6_seekMinute (l : Launch) (D : va_G) (q : Nat → ClassId) (ad : Nat → Nat) (τ0 : Int32) (τ1 : Int64) (τ2 : Int32) (τ3 : Nat → Int32) (τ4 : Nat → Int32) (τ5 : Nat → Int32) (v : Nat) (a : Nat) (b : Nat) (x : Nat) (hv9 : v ≤ 99) (hc9 : a ≤ 99) (hd9 : b ≤ 9) (hx9 : x ≤ 10) : xC l yX6_seekMinute wsX6_seekMinute ({ frames := 1, cells := 0, slots := 0, locals := 40 }) D (TY q) [w6 q ad τ0 τ1 τ2 τ3 τ4 τ5] [.ref (ad 0), .int (nI v), .int (nI a), .int (nI b), .int (nI x)] (xQv D (TY q) (fun (_ : Unit) => True) (fun _ => [w6 q ad (xbR v a b x 11).2 (xbR v a b x 11).1 τ2 τ3 τ4 τ5])) 0 0 := by
  refine x_enter (cc := cX6_seekMinute) (maxL := 10) (ret := none) (by decide) rfl (Nat.le_of_ble_eq_true rfl) ?_
  intro p e s m below meth c A ls H locs hfix hr hlocks hinit hM hl
  obtain ⟨hx, hb, hml, hown, hts⟩ := id hfix
  have hl : lv_has ls 10 [(0, .ref (ad 0)), (1, .int (nI v)), (2, .int (nI a)), (3, .int (nI b)), (4, .int (nI x))] := hl
  have hbt : ∀ t, t ≤ 10 → b * t ≤ 90 := fun t ht => Nat.le_trans (Nat.mul_le_mul hd9 ht) (by decide)
  refine lv_ldc2 (v := 10000000000) hx hb hown (hts (.constantLong RX6 43 (10000000000)) (by decide +kernel)) dX6_seekMinute_0 ?_
  refine lv_lstore (lv' := [(5, .long (10000000000 : Int64)), (0, .ref (ad 0)), (1, .int (nI v)), (2, .int (nI a)), (3, .int (nI b)), (4, .int (nI x))]) hx hb dX6_seekMinute_3 hl (by decide) rfl (fun ls hl => ?_)
  refine lv_iconst (v := nI 0) hx hb dX6_seekMinute_5 (by decide) ?_
  refine lv_istore (lv' := [(7, .int (nI 0)), (5, .long (10000000000 : Int64)), (0, .ref (ad 0)), (1, .int (nI v)), (2, .int (nI a)), (3, .int (nI b)), (4, .int (nI x))]) hx hb dX6_seekMinute_6 hl (by decide) rfl (fun ls hl => ?_)
  have e2 : ((τ0) : Int32) = (xbM v a b x τ0 0) := by rfl
  have hM : xM D (TY q) [w6 q ad (xbM v a b x τ0 0) τ1 τ2 τ3 τ4 τ5] A s.heap s H locs := Eq.mp (congrArg (fun z9 => xM D (TY q) [w6 q ad z9 τ1 τ2 τ3 τ4 τ5] A s.heap s H locs) e2) hM
  have e3 : ((τ1) : Int64) = (xbN v a b x τ1 0) := by rfl
  have hM : xM D (TY q) [w6 q ad (xbM v a b x τ0 0) (xbN v a b x τ1 0) τ2 τ3 τ4 τ5] A s.heap s H locs := Eq.mp (congrArg (fun z9 => xM D (TY q) [w6 q ad (xbM v a b x τ0 0) z9 τ2 τ3 τ4 τ5] A s.heap s H locs) e3) hM
  refine x_loop (ι := Nat) (fun t => [(0, .ref (ad 0)), (1, .int (nI v)), (2, .int (nI a)), (3, .int (nI b)), (4, .int (nI x)), (5, .long (xbT x t)), (7, .int (nI t))]) (fun t => [w6 q ad (xbM v a b x τ0 t) (xbN v a b x τ1 t) τ2 τ3 τ4 τ5]) (fun t => t ≤ 11) (fun t => 11 - t) 0 (by omega) hM (lv_sub hl [2, 3, 4, 5, 6, 1, 0] rfl) ?_
  intro t hI5 ih4 H locs hM ls hl
  have hM : xM D (TY q) [w6 q ad (xbM v a b x τ0 t) (xbN v a b x τ1 t) τ2 τ3 τ4 τ5] A s.heap s H locs := hM
  have hl : lv_has ls 10 [(0, .ref (ad 0)), (1, .int (nI v)), (2, .int (nI a)), (3, .int (nI b)), (4, .int (nI x)), (5, .long (xbT x t)), (7, .int (nI t))] := hl
  have hI5 : t ≤ 11 := hI5
  try dsimp only
  refine lv_iload hx hb dX6_seekMinute_8 (lv_at hl 6 rfl) ?_
  refine lv_bipush (v := nI 10) hx hb dX6_seekMinute_10 (by decide) ?_
  refine x_icmp_gt (x := t) (y := 10) (tgt := 81) hx hb (by omega) (by omega) dX6_seekMinute_12 (by decide) (fun c6 => ?_) (fun c6 => ?_)
  · have e7 : ((xbM v a b x τ0 t) : Int32) = ((xbR v a b x 11).2) := by (rw [show t = 11 by omega]; exact xbM_k (by decide))
    have hM : xM D (TY q) [w6 q ad (xbR v a b x 11).2 (xbN v a b x τ1 t) τ2 τ3 τ4 τ5] A s.heap s H locs := Eq.mp (congrArg (fun z9 => xM D (TY q) [w6 q ad z9 (xbN v a b x τ1 t) τ2 τ3 τ4 τ5] A s.heap s H locs) e7) hM
    have e8 : ((xbN v a b x τ1 t) : Int64) = ((xbR v a b x 11).1) := by (rw [show t = 11 by omega]; exact xbN_k (by decide))
    have hM : xM D (TY q) [w6 q ad (xbR v a b x 11).2 (xbR v a b x 11).1 τ2 τ3 τ4 τ5] A s.heap s H locs := Eq.mp (congrArg (fun z9 => xM D (TY q) [w6 q ad (xbR v a b x 11).2 z9 τ2 τ3 τ4 τ5] A s.heap s H locs) e8) hM
    exact x_vret hx hb hr hlocks () hM trivial dX6_seekMinute_81
  · have hbt9 := hbt t (by omega)
    refine lv_iload_n hx hb dX6_seekMinute_15 rfl (lv_at hl 1 rfl) ?_
    refine lv_iload_n hx hb dX6_seekMinute_16 rfl (lv_at hl 2 rfl) ?_
    refine lv_iload_n hx hb dX6_seekMinute_17 rfl (lv_at hl 3 rfl) ?_
    refine lv_iload hx hb dX6_seekMinute_18 (lv_at hl 6 rfl) ?_
    refine x_imul (x := b) (y := t) hx hb dX6_seekMinute_20 ?_
    refine lv_isub hx hb dX6_seekMinute_21 ?_
    refine lv_iconst (v := nI 0) hx hb dX6_seekMinute_22 (by decide) ?_
    refine x_mmax (own := RX6) (index := 45) hx hb (by rw [hml]; exact hl.1.symm) hts hown (by simp only [List.forall_mem_cons]; exact ⟨by decide +kernel, by decide +kernel, by decide +kernel, by decide +kernel, fun _ h => absurd h List.not_mem_nil⟩) (Nat.le_of_ble_eq_true rfl) (Nat.le_of_ble_eq_true rfl) (Nat.zero_le _) (Nat.zero_le _) dX6_seekMinute_23 ?_
    refine lv_isub hx hb dX6_seekMinute_26 ?_
    refine x_i2l hx hb dX6_seekMinute_27 ?_
    refine lv_lload hx hb dX6_seekMinute_28 (lv_at hl 5 rfl) ?_
    refine lv_lmul hx hb dX6_seekMinute_30 ?_
    refine lv_lstore (lv' := [(8, .long ((((nI v) - (if ((nI a) - (nI (b * t))) < (nI 0) then (nI 0) else ((nI a) - (nI (b * t))))).toInt64) * (xbT x t))), (0, .ref (ad 0)), (1, .int (nI v)), (2, .int (nI a)), (3, .int (nI b)), (4, .int (nI x)), (5, .long (xbT x t)), (7, .int (nI t))]) hx hb dX6_seekMinute_31 hl (by decide) rfl (fun ls hl => ?_)
    refine lv_iload hx hb dX6_seekMinute_33 (lv_at hl 7 rfl) ?_
    refine x_join (ι := Int32 × Int64) (pcJ := 60) (fun z8 => [(8, .long ((((nI v) - (if ((nI a) - (nI (b * t))) < (nI 0) then (nI 0) else ((nI a) - (nI (b * t))))).toInt64) * (xbT x t))), (0, .ref (ad 0)), (1, .int (nI v)), (2, .int (nI a)), (3, .int (nI b)), (4, .int (nI x)), (5, .long (xbT x t)), (7, .int (nI t))]) (fun z8 => [w6 q ad z8.1 z8.2 τ2 τ3 τ4 τ5]) (fun z8 => []) (fun z8 => z8.1 = (if t = 0 then (nI t) else (if ((((nI v) - (if ((nI a) - (nI (b * t))) < (nI 0) then (nI 0) else ((nI a) - (nI (b * t))))).toInt64) * (xbT x t)) ≤ (xbN v a b x τ1 t) then (xbM v a b x τ0 t) else (nI t))) ∧ z8.2 = (if t = 0 then ((((nI v) - (if ((nI a) - (nI (b * t))) < (nI 0) then (nI 0) else ((nI a) - (nI (b * t))))).toInt64) * (xbT x t)) else (if ((((nI v) - (if ((nI a) - (nI (b * t))) < (nI 0) then (nI 0) else ((nI a) - (nI (b * t))))).toInt64) * (xbT x t)) ≤ (xbN v a b x τ1 t) then (xbN v a b x τ1 t) else ((((nI v) - (if ((nI a) - (nI (b * t))) < (nI 0) then (nI 0) else ((nI a) - (nI (b * t))))).toInt64) * (xbT x t))))) hM hl ?_ ?_
    · intro ⟨j9, j10⟩ hj11 H locs hM ls hl
      have hM : xM D (TY q) [w6 q ad j9 j10 τ2 τ3 τ4 τ5] A s.heap s H locs := hM
      have hl : lv_has ls 10 [(8, .long ((((nI v) - (if ((nI a) - (nI (b * t))) < (nI 0) then (nI 0) else ((nI a) - (nI (b * t))))).toInt64) * (xbT x t))), (0, .ref (ad 0)), (1, .int (nI v)), (2, .int (nI a)), (3, .int (nI b)), (4, .int (nI x)), (5, .long (xbT x t)), (7, .int (nI t))] := hl
      try dsimp only
      obtain ⟨hj9, hj10⟩ := hj11
      refine lv_lload hx hb dX6_seekMinute_60 (lv_at hl 6 rfl) ?_
      refine lv_ldc2 (v := 10) hx hb hown (hts (.constantLong RX6 58 (10)) (by decide +kernel)) dX6_seekMinute_62 ?_
      refine lv_ldiv hx hb dX6_seekMinute_65 (by decide) ?_
      refine lv_bipush (v := nI 10) hx hb dX6_seekMinute_66 (by decide) ?_
      refine lv_iload hx hb dX6_seekMinute_68 (lv_at hl 5 rfl) ?_
      refine lv_isub hx hb dX6_seekMinute_70 ?_
      refine x_i2l hx hb dX6_seekMinute_71 ?_
      refine lv_lmul hx hb dX6_seekMinute_72 ?_
      refine lv_lstore (lv' := [(5, .long (((xbT x t) / (10 : Int64)) * (((nI 10) - (nI x)).toInt64))), (8, .long ((((nI v) - (if ((nI a) - (nI (b * t))) < (nI 0) then (nI 0) else ((nI a) - (nI (b * t))))).toInt64) * (xbT x t))), (0, .ref (ad 0)), (1, .int (nI v)), (2, .int (nI a)), (3, .int (nI b)), (4, .int (nI x)), (7, .int (nI t))]) hx hb dX6_seekMinute_73 hl (by decide) rfl (fun ls hl => ?_)
      refine lv_iinc (v := nI (t + 1)) (lv' := [(7, .int (nI (t + 1))), (5, .long (((xbT x t) / (10 : Int64)) * (((nI 10) - (nI x)).toInt64))), (8, .long ((((nI v) - (if ((nI a) - (nI (b * t))) < (nI 0) then (nI 0) else ((nI a) - (nI (b * t))))).toInt64) * (xbT x t))), (0, .ref (ad 0)), (1, .int (nI v)), (2, .int (nI a)), (3, .int (nI b)), (4, .int (nI x))]) hx hb dX6_seekMinute_75 hl (k := 7) rfl (x_inc _ 1) (by decide) rfl (fun ls hl => ?_)
      refine lv_goto (tgt := 8) hx hb dX6_seekMinute_78 (by decide) ?_
      have e12 : ((j9) : Int32) = (xbM v a b x τ0 (t + 1)) := by (first | exact (xbM_s.trans (congrArg Prod.snd (xbS_1 (g0 := τ1) (by omega) (by first | exact Or.inl (by assumption) | exact Or.inr (by assumption))))).symm | exact (xbM_k (by assumption)).trans (xbM_s.trans (congrArg Prod.snd (xbS_0 (g0 := τ1) (by omega) (by assumption) (by assumption)))).symm)
      have hM : xM D (TY q) [w6 q ad (xbM v a b x τ0 (t + 1)) j10 τ2 τ3 τ4 τ5] A s.heap s H locs := Eq.mp (congrArg (fun z9 => xM D (TY q) [w6 q ad z9 j10 τ2 τ3 τ4 τ5] A s.heap s H locs) e12) hM
      have e13 : ((j10) : Int64) = (xbN v a b x τ1 (t + 1)) := by (first | exact (xbN_s.trans (congrArg Prod.fst (xbS_1 (g0 := τ1) (by omega) (by first | exact Or.inl (by assumption) | exact Or.inr (by assumption))))).symm | exact (xbN_k (by assumption)).trans (xbN_s.trans (congrArg Prod.fst (xbS_0 (g0 := τ1) (by omega) (by assumption) (by assumption)))).symm)
      have hM : xM D (TY q) [w6 q ad (xbM v a b x τ0 (t + 1)) (xbN v a b x τ1 (t + 1)) τ2 τ3 τ4 τ5] A s.heap s H locs := Eq.mp (congrArg (fun z9 => xM D (TY q) [w6 q ad (xbM v a b x τ0 (t + 1)) z9 τ2 τ3 τ4 τ5] A s.heap s H locs) e13) hM
      have hl : lv_has ls 10 [(0, .ref (ad 0)), (1, .int (nI v)), (2, .int (nI a)), (3, .int (nI b)), (4, .int (nI x)), (5, .long (((xbT x t) / (10 : Int64)) * (((nI 10) - (nI x)).toInt64))), (7, .int (nI (t + 1)))] := lv_sub hl [3, 4, 5, 6, 7, 1, 0] rfl
      exact ih4 (t + 1) (show 11 - (t + 1) < 11 - t from by omega) (show (t + 1) ≤ 11 from by omega) _ _ hM _ hl
    · intro hJ14 H locs hM ls hl
      refine x_if_eq (x := t) (tgt := 48) hx hb (by omega) dX6_seekMinute_35 (by decide) (fun c15 => ?_) (fun c15 => ?_)
      · refine lv_aload_n hx hb dX6_seekMinute_48 rfl (lv_at hl 1 rfl) ?_
        refine lv_iload hx hb dX6_seekMinute_49 (lv_at hl 7 rfl) ?_
        refine x_put hx hb hts iwX6_seekMinute_X6 tyX6 tyX6_ok nmX6 hown hM 0 0 rfl rfl rfl 0 (by decide) (hts _ lkX6_seekMinute_55) (fun _ h => h) rfl (ty := .int) (by decide +kernel) rfl rfl (Nat.le_of_ble_eq_true rfl) [w6 q ad (nI t) (xbN v a b x τ1 t) τ2 τ3 τ4 τ5] rfl dX6_seekMinute_51 (fun H locs hM => ?_)
        refine lv_aload_n hx hb dX6_seekMinute_54 rfl (lv_at hl 1 rfl) ?_
        refine lv_lload hx hb dX6_seekMinute_55 (lv_at hl 0 rfl) ?_
        refine x_put hx hb hts iwX6_seekMinute_X6 tyX6 tyX6_ok nmX6 hown hM 0 0 rfl rfl rfl 1 (by decide) (hts _ lkX6_seekMinute_51) (fun _ h => h) rfl (ty := .long) (by decide +kernel) rfl rfl (Nat.le_of_ble_eq_true rfl) [w6 q ad (nI t) ((((nI v) - (if ((nI a) - (nI (b * t))) < (nI 0) then (nI 0) else ((nI a) - (nI (b * t))))).toInt64) * (xbT x t)) τ2 τ3 τ4 τ5] rfl dX6_seekMinute_57 (fun H locs hM => ?_)
        exact hJ14 (nI t, (((nI v) - (if ((nI a) - (nI (b * t))) < (nI 0) then (nI 0) else ((nI a) - (nI (b * t))))).toInt64) * (xbT x t)) ⟨(show (nI t) = (if t = 0 then (nI t) else (if ((((nI v) - (if ((nI a) - (nI (b * t))) < (nI 0) then (nI 0) else ((nI a) - (nI (b * t))))).toInt64) * (xbT x t)) ≤ (xbN v a b x τ1 t) then (xbM v a b x τ0 t) else (nI t))) from by (repeat' split) <;> first | rfl | contradiction | omega | simp_all), (show ((((nI v) - (if ((nI a) - (nI (b * t))) < (nI 0) then (nI 0) else ((nI a) - (nI (b * t))))).toInt64) * (xbT x t)) = (if t = 0 then ((((nI v) - (if ((nI a) - (nI (b * t))) < (nI 0) then (nI 0) else ((nI a) - (nI (b * t))))).toInt64) * (xbT x t)) else (if ((((nI v) - (if ((nI a) - (nI (b * t))) < (nI 0) then (nI 0) else ((nI a) - (nI (b * t))))).toInt64) * (xbT x t)) ≤ (xbN v a b x τ1 t) then (xbN v a b x τ1 t) else ((((nI v) - (if ((nI a) - (nI (b * t))) < (nI 0) then (nI 0) else ((nI a) - (nI (b * t))))).toInt64) * (xbT x t)))) from by (repeat' split) <;> first | rfl | contradiction | omega | simp_all)⟩ _ _ hM _ (lv_sub hl [0, 1, 2, 3, 4, 5, 6, 7] rfl)
      · refine lv_lload hx hb dX6_seekMinute_38 (lv_at hl 0 rfl) ?_
        refine lv_aload_n hx hb dX6_seekMinute_40 rfl (lv_at hl 1 rfl) ?_
        refine x_get hx hb hts iwX6_seekMinute_X6 hown hM 0 0 rfl rfl rfl 1 (by decide) (hts _ lkX6_seekMinute_51) (fun _ h => h) rfl dX6_seekMinute_41 ?_
        refine x_lcmp_le (tgt := 60) hx hb dX6_seekMinute_44 dX6_seekMinute_45 (by decide) (fun c16 => ?_) (fun c16 => ?_)
        · exact hJ14 (xbM v a b x τ0 t, xbN v a b x τ1 t) ⟨(show (xbM v a b x τ0 t) = (if t = 0 then (nI t) else (if ((((nI v) - (if ((nI a) - (nI (b * t))) < (nI 0) then (nI 0) else ((nI a) - (nI (b * t))))).toInt64) * (xbT x t)) ≤ (xbN v a b x τ1 t) then (xbM v a b x τ0 t) else (nI t))) from by (repeat' split) <;> first | rfl | contradiction | omega | simp_all), (show (xbN v a b x τ1 t) = (if t = 0 then ((((nI v) - (if ((nI a) - (nI (b * t))) < (nI 0) then (nI 0) else ((nI a) - (nI (b * t))))).toInt64) * (xbT x t)) else (if ((((nI v) - (if ((nI a) - (nI (b * t))) < (nI 0) then (nI 0) else ((nI a) - (nI (b * t))))).toInt64) * (xbT x t)) ≤ (xbN v a b x τ1 t) then (xbN v a b x τ1 t) else ((((nI v) - (if ((nI a) - (nI (b * t))) < (nI 0) then (nI 0) else ((nI a) - (nI (b * t))))).toInt64) * (xbT x t)))) from by (repeat' split) <;> first | rfl | contradiction | omega | simp_all)⟩ _ _ hM _ (lv_sub hl [0, 1, 2, 3, 4, 5, 6, 7] rfl)
        · refine lv_aload_n hx hb dX6_seekMinute_48 rfl (lv_at hl 1 rfl) ?_
          refine lv_iload hx hb dX6_seekMinute_49 (lv_at hl 7 rfl) ?_
          refine x_put hx hb hts iwX6_seekMinute_X6 tyX6 tyX6_ok nmX6 hown hM 0 0 rfl rfl rfl 0 (by decide) (hts _ lkX6_seekMinute_55) (fun _ h => h) rfl (ty := .int) (by decide +kernel) rfl rfl (Nat.le_of_ble_eq_true rfl) [w6 q ad (nI t) (xbN v a b x τ1 t) τ2 τ3 τ4 τ5] rfl dX6_seekMinute_51 (fun H locs hM => ?_)
          refine lv_aload_n hx hb dX6_seekMinute_54 rfl (lv_at hl 1 rfl) ?_
          refine lv_lload hx hb dX6_seekMinute_55 (lv_at hl 0 rfl) ?_
          refine x_put hx hb hts iwX6_seekMinute_X6 tyX6 tyX6_ok nmX6 hown hM 0 0 rfl rfl rfl 1 (by decide) (hts _ lkX6_seekMinute_51) (fun _ h => h) rfl (ty := .long) (by decide +kernel) rfl rfl (Nat.le_of_ble_eq_true rfl) [w6 q ad (nI t) ((((nI v) - (if ((nI a) - (nI (b * t))) < (nI 0) then (nI 0) else ((nI a) - (nI (b * t))))).toInt64) * (xbT x t)) τ2 τ3 τ4 τ5] rfl dX6_seekMinute_57 (fun H locs hM => ?_)
          exact hJ14 (nI t, (((nI v) - (if ((nI a) - (nI (b * t))) < (nI 0) then (nI 0) else ((nI a) - (nI (b * t))))).toInt64) * (xbT x t)) ⟨(show (nI t) = (if t = 0 then (nI t) else (if ((((nI v) - (if ((nI a) - (nI (b * t))) < (nI 0) then (nI 0) else ((nI a) - (nI (b * t))))).toInt64) * (xbT x t)) ≤ (xbN v a b x τ1 t) then (xbM v a b x τ0 t) else (nI t))) from by (repeat' split) <;> first | rfl | contradiction | omega | simp_all), (show ((((nI v) - (if ((nI a) - (nI (b * t))) < (nI 0) then (nI 0) else ((nI a) - (nI (b * t))))).toInt64) * (xbT x t)) = (if t = 0 then ((((nI v) - (if ((nI a) - (nI (b * t))) < (nI 0) then (nI 0) else ((nI a) - (nI (b * t))))).toInt64) * (xbT x t)) else (if ((((nI v) - (if ((nI a) - (nI (b * t))) < (nI 0) then (nI 0) else ((nI a) - (nI (b * t))))).toInt64) * (xbT x t)) ≤ (xbN v a b x τ1 t) then (xbN v a b x τ1 t) else ((((nI v) - (if ((nI a) - (nI (b * t))) < (nI 0) then (nI 0) else ((nI a) - (nI (b * t))))).toInt64) * (xbT x t)))) from by (repeat' split) <;> first | rfl | contradiction | omega | simp_all)⟩ _ _ hM _ (lv_sub hl [0, 1, 2, 3, 4, 5, 6, 7] rfl)

set_option maxRecDepth 20000 in
theorem ggX6_timesMade_X5_at : GoodIn wsX6_timesMade wsX5_at := goodIn_r _ [5] (by decide +kernel) (by decide +kernel)
set_option maxRecDepth 20000 in
theorem gX6_timesMade_X5_at : GoodIn wsX6_timesMade (va_wsS RX6 86 yX5_at wsX5_at) := goodIn_app (goodIn_of _ (by decide +kernel)) ggX6_timesMade_X5_at
theorem dX6_timesMade_0 : decode cX6_timesMade 0 = .ok (.aload_n 0, 1) := by decide +kernel
theorem dX6_timesMade_1 : decode cX6_timesMade 1 = .ok (.getfield 15, 3) := by decide +kernel
theorem dX6_timesMade_4 : decode cX6_timesMade 4 = .ok (.iload_n 1, 1) := by decide +kernel
theorem dX6_timesMade_5 : decode cX6_timesMade 5 = .ok (.invokestatic 86, 3) := by decide +kernel
theorem dX6_timesMade_8 : decode cX6_timesMade 8 = .ok (.ireturn, 1) := by decide +kernel
theorem lkX6_timesMade_15 : Cond.fieldLink RX6 15 "LeftAtFive$Shops" "made" "[I" ∈ wsX6_timesMade := by decide +kernel
theorem iwX6_timesMade_X6 : ∀ w ∈ wsX60, w ∈ wsX6_timesMade := by decide +kernel
set_option maxHeartbeats 2000000 in
set_option maxRecDepth 100000 in
theorem c_X6_timesMade (l : Launch) (D : va_G) (q : Nat → ClassId) (ad : Nat → Nat) (τ0 : Int32) (τ1 : Int64) (τ2 : Int32) (τ3 : Nat → Int32) (τ4 : Nat → Int32) (τ5 : Nat → Int32) (k : Nat) (hk3 : k < 3) : xC l yX6_timesMade wsX6_timesMade ({ frames := 1, cells := 0, slots := 0, locals := 21 }) D (TY q) [w6 q ad τ0 τ1 τ2 τ3 τ4 τ5] [.ref (ad 0), .int (nI k)] (xQi D (TY q) (fun (r : Int32) (_ : Unit) => r = τ4 k) (fun _ => [w6 q ad τ0 τ1 τ2 τ3 τ4 τ5])) 0 0 := by
  refine x_enter (cc := cX6_timesMade) (maxL := 2) (ret := (some .int)) (by decide) rfl (Nat.le_of_ble_eq_true rfl) ?_
  intro p e s m below meth c A ls H locs hfix hr hlocks hinit hM hl
  obtain ⟨hx, hb, hml, hown, hts⟩ := id hfix
  have hl : lv_has ls 2 [(0, .ref (ad 0)), (1, .int (nI k))] := hl
  refine lv_aload_n hx hb dX6_timesMade_0 rfl (lv_at hl 0 rfl) ?_
  refine x_get hx hb hts iwX6_timesMade_X6 hown hM 0 0 rfl rfl rfl 4 (by decide) (hts _ lkX6_timesMade_15) (fun _ h => h) rfl dX6_timesMade_1 ?_
  refine lv_iload_n hx hb dX6_timesMade_4 rfl (lv_at hl 1 rfl) ?_
  refine x_calli (bc := [w6 q ad τ0 τ1 τ2 τ3 τ4 τ5]) (br := []) hM [0] [] rfl rfl rfl (by decide) (x_runS (As := [.ref (ad 5), .int (nI k)]) (rest := []) hfix (c_X5_at l D q (w6 q ad τ0 τ1 τ2 τ3 τ4 τ5) 2 (ad 5) 3 τ4 k rfl (by decide) (by omega)) (va_cwS 2 hts gX6_timesMade_X5_at rfl rfl rfl (by decide +kernel) ⟨Nat.le_of_ble_eq_true rfl, Nat.le_of_ble_eq_true rfl⟩) hM [0] rfl rfl rfl hl.1 rfl (Nat.le_of_ble_eq_true rfl) dX6_timesMade_5 ⟨Nat.le_of_ble_eq_true rfl, Nat.le_of_ble_eq_true rfl⟩) (fun r u H locs hq hM => ?_)
  subst hq
  have hM : xM D (TY q) [w6 q ad τ0 τ1 τ2 τ3 τ4 τ5] A s.heap s H locs := hM
  exact x_iret hx hb hr hlocks () hM (show τ4 k = τ4 k from rfl) dX6_timesMade_8

set_option maxRecDepth 20000 in
theorem ggX6_gather_X5_clear : GoodIn wsX6_gather wsX5_clear := goodIn_r _ [7] (by decide +kernel) (by decide +kernel)
set_option maxRecDepth 20000 in
theorem gX6_gather_X5_clear : GoodIn wsX6_gather (va_wsS RX6 92 yX5_clear wsX5_clear) := goodIn_app (goodIn_of _ (by decide +kernel)) ggX6_gather_X5_clear
set_option maxRecDepth 20000 in
theorem ggX6_gather_X1_leftOf : GoodIn wsX6_gather wsX1_leftOf := goodIn_r _ [12, 13, 14, 15, 11, 16, 17, 18, 19, 20, 21, 22, 23, 6, 24, 25, 26, 27, 28, 29, 30, 56, 57, 58, 59, 60, 61, 40, 41, 42, 43, 44, 45, 46, 47, 48, 49, 50, 51, 52, 53, 54, 55] (by decide +kernel) (by decide +kernel)
set_option maxRecDepth 20000 in
theorem gX6_gather_X1_leftOf : GoodIn wsX6_gather (wsV RX6 102 RX1 yX1_leftOf wsX1_leftOf) := goodIn_app (goodIn_of _ (by decide +kernel)) ggX6_gather_X1_leftOf
set_option maxRecDepth 20000 in
theorem ggX6_gather_X5_add : GoodIn wsX6_gather wsX5_add := goodIn_r _ [33] (by decide +kernel) (by decide +kernel)
set_option maxRecDepth 20000 in
theorem gX6_gather_X5_add : GoodIn wsX6_gather (va_wsS RX6 108 yX5_add wsX5_add) := goodIn_app (goodIn_of _ (by decide +kernel)) ggX6_gather_X5_add
theorem dX6_gather_0 : decode cX6_gather 0 = .ok (.aload_n 0, 1) := by decide +kernel
theorem dX6_gather_1 : decode cX6_gather 1 = .ok (.getfield 9, 3) := by decide +kernel
theorem dX6_gather_4 : decode cX6_gather 4 = .ok (.invokestatic 92, 3) := by decide +kernel
theorem dX6_gather_7 : decode cX6_gather 7 = .ok (.iconst 0, 1) := by decide +kernel
theorem dX6_gather_8 : decode cX6_gather 8 = .ok (.istore_n 3, 1) := by decide +kernel
theorem dX6_gather_9 : decode cX6_gather 9 = .ok (.iload_n 3, 1) := by decide +kernel
theorem dX6_gather_10 : decode cX6_gather 10 = .ok (.aload_n 1, 1) := by decide +kernel
theorem dX6_gather_11 : decode cX6_gather 11 = .ok (.getfield 96, 3) := by decide +kernel
theorem dX6_gather_14 : decode cX6_gather 14 = .ok (.if_icmp .ge 43, 3) := by decide +kernel
theorem dX6_gather_17 : decode cX6_gather 17 = .ok (.iconst 0, 1) := by decide +kernel
theorem dX6_gather_18 : decode cX6_gather 18 = .ok (.istore 4, 2) := by decide +kernel
theorem dX6_gather_20 : decode cX6_gather 20 = .ok (.iload 4, 2) := by decide +kernel
theorem dX6_gather_22 : decode cX6_gather 22 = .ok (.aload_n 1, 1) := by decide +kernel
theorem dX6_gather_23 : decode cX6_gather 23 = .ok (.getfield 99, 3) := by decide +kernel
theorem dX6_gather_26 : decode cX6_gather 26 = .ok (.if_icmp .ge 25, 3) := by decide +kernel
theorem dX6_gather_29 : decode cX6_gather 29 = .ok (.aload_n 0, 1) := by decide +kernel
theorem dX6_gather_30 : decode cX6_gather 30 = .ok (.getfield 9, 3) := by decide +kernel
theorem dX6_gather_33 : decode cX6_gather 33 = .ok (.iload_n 3, 1) := by decide +kernel
theorem dX6_gather_34 : decode cX6_gather 34 = .ok (.aload_n 2, 1) := by decide +kernel
theorem dX6_gather_35 : decode cX6_gather 35 = .ok (.aload_n 1, 1) := by decide +kernel
theorem dX6_gather_36 : decode cX6_gather 36 = .ok (.iload 4, 2) := by decide +kernel
theorem dX6_gather_38 : decode cX6_gather 38 = .ok (.iload_n 3, 1) := by decide +kernel
theorem dX6_gather_39 : decode cX6_gather 39 = .ok (.invokevirtual 102, 3) := by decide +kernel
theorem dX6_gather_42 : decode cX6_gather 42 = .ok (.invokestatic 108, 3) := by decide +kernel
theorem dX6_gather_45 : decode cX6_gather 45 = .ok (.iinc 4 1, 3) := by decide +kernel
theorem dX6_gather_48 : decode cX6_gather 48 = .ok (.goto (-28), 3) := by decide +kernel
theorem dX6_gather_51 : decode cX6_gather 51 = .ok (.iinc 3 1, 3) := by decide +kernel
theorem dX6_gather_54 : decode cX6_gather 54 = .ok (.goto (-45), 3) := by decide +kernel
theorem dX6_gather_57 : decode cX6_gather 57 = .ok (.return_, 1) := by decide +kernel
theorem lkX6_gather_9 : Cond.fieldLink RX6 9 "LeftAtFive$Shops" "stock" "[I" ∈ wsX6_gather := by decide +kernel
theorem lkX6_gather_96 : Cond.fieldLink RX6 96 "LeftAtFive$Street" "goods" "I" ∈ wsX6_gather := by decide +kernel
theorem lkX6_gather_99 : Cond.fieldLink RX6 99 "LeftAtFive$Street" "houses" "I" ∈ wsX6_gather := by decide +kernel
theorem iwX6_gather_X6 : ∀ w ∈ wsX60, w ∈ wsX6_gather := by decide +kernel
theorem iwX6_gather_X7 : ∀ w ∈ wsX70, w ∈ wsX6_gather := by decide +kernel
set_option maxHeartbeats 2000000 in
set_option maxRecDepth 100000 in
theorem c_X6_gather (l : Launch) (D : va_G) (q : Nat → ClassId) (ad : Nat → Nat) (τ0 : Int32) (τ1 : Int64) (τ2 : Int32) (τ3 : Nat → Int32) (τ4 : Nat → Int32) (τ5 : Nat → Int32) (sd : Nat → Nat) (X : Nat → Nat → Int32) (kd : Nat → Nat) (K : Nat → Int32) (S : Nat → Nat → Int32) (hT : okT X S) : xC l yX6_gather wsX6_gather ({ frames := 3, cells := 0, slots := 0, locals := 66 }) D (TY q) [w6 q ad τ0 τ1 τ2 τ3 τ4 τ5, wst q sd X, wk q kd K] [.ref (ad 0), .ref (sd 0), .ref (kd 0)] (xQv D (TY q) (fun (_ : Unit) => True) (fun _ => [w6 q ad τ0 τ1 τ2 (xfill τ3 (xst (S 4) K (tn (S 5 0)) (tn (S 2 0))) 5) τ4 τ5, wst q sd X, wk q kd K])) 0 0 := by
  refine x_enter (cc := cX6_gather) (maxL := 5) (ret := none) (by decide) rfl (Nat.le_of_ble_eq_true rfl) ?_
  intro p e s m below meth c A ls H locs hfix hr hlocks hinit hM hl
  obtain ⟨hx, hb, hml, hown, hts⟩ := id hfix
  have hl : lv_has ls 5 [(0, .ref (ad 0)), (1, .ref (sd 0)), (2, .ref (kd 0))] := hl
  have hTb0 := okT_0b hT
  have hTb1 := okT_1b hT
  refine lv_aload_n hx hb dX6_gather_0 rfl (lv_at hl 0 rfl) ?_
  refine x_get hx hb hts iwX6_gather_X6 hown hM 0 0 rfl rfl rfl 3 (by decide) (hts _ lkX6_gather_9) (fun _ h => h) rfl dX6_gather_1 ?_
  refine x_callv (bc := [w6 q ad τ0 τ1 τ2 τ3 τ4 τ5]) (br := [wst q sd X, wk q kd K]) hM [0] [1, 2] rfl rfl rfl (by decide) (x_runS (As := [.ref (ad 4)]) (rest := []) hfix (c_X5_clear l D q (w6 q ad τ0 τ1 τ2 τ3 τ4 τ5) 1 (ad 4) 5 τ3 rfl (by decide)) (va_cwS 1 hts gX6_gather_X5_clear rfl rfl rfl (by decide +kernel) ⟨Nat.le_of_ble_eq_true rfl, Nat.le_of_ble_eq_true rfl⟩) hM [0] rfl rfl rfl hl.1 rfl (Nat.le_of_ble_eq_true rfl) dX6_gather_4 ⟨Nat.le_of_ble_eq_true rfl, Nat.le_of_ble_eq_true rfl⟩) (fun u H locs hq hM => ?_)
  have hM : xM D (TY q) [wst q sd X, wk q kd K, w6 q ad τ0 τ1 τ2 (xzero τ3 0 5) τ4 τ5] A s.heap s H locs := hM
  have hM : xM D (TY q) [w6 q ad τ0 τ1 τ2 (xzero τ3 0 5) τ4 τ5, wst q sd X, wk q kd K] A s.heap s H locs := hM.sel [2, 0, 1] rfl rfl
  refine lv_iconst (v := nI 0) hx hb dX6_gather_7 (by decide) ?_
  refine lv_istore_n (lv' := [(3, .int (nI 0)), (0, .ref (ad 0)), (1, .ref (sd 0)), (2, .ref (kd 0))]) hx hb dX6_gather_8 rfl hl (by decide) rfl (fun ls hl => ?_)
  have e2 : ((xzero τ3 0 5) : Nat → Int32) = (xfill (xzero τ3 0 5) (xst (S 4) K (tn (S 5 0)) (tn (S 2 0))) 0) := by exact (xfill_0 _ _).symm
  have hM : xM D (TY q) [w6 q ad τ0 τ1 τ2 (xfill (xzero τ3 0 5) (xst (S 4) K (tn (S 5 0)) (tn (S 2 0))) 0) τ4 τ5, wst q sd X, wk q kd K] A s.heap s H locs := Eq.mp (congrArg (fun z9 => xM D (TY q) [w6 q ad τ0 τ1 τ2 z9 τ4 τ5, wst q sd X, wk q kd K] A s.heap s H locs) e2) hM
  refine x_loop (ι := Nat) (fun g => [(0, .ref (ad 0)), (1, .ref (sd 0)), (2, .ref (kd 0)), (3, .int (nI g))]) (fun g => [w6 q ad τ0 τ1 τ2 (xfill (xzero τ3 0 5) (xst (S 4) K (tn (S 5 0)) (tn (S 2 0))) g) τ4 τ5, wst q sd X, wk q kd K]) (fun g => g ≤ (tn (S 2 0))) (fun g => (tn (S 2 0)) - g) 0 (by omega) hM (lv_sub hl [1, 2, 3, 0] rfl) ?_
  intro g hI4 ih3 H locs hM ls hl
  have hM : xM D (TY q) [w6 q ad τ0 τ1 τ2 (xfill (xzero τ3 0 5) (xst (S 4) K (tn (S 5 0)) (tn (S 2 0))) g) τ4 τ5, wst q sd X, wk q kd K] A s.heap s H locs := hM
  have hl : lv_has ls 5 [(0, .ref (ad 0)), (1, .ref (sd 0)), (2, .ref (kd 0)), (3, .int (nI g))] := hl
  have hI4 : g ≤ (tn (S 2 0)) := hI4
  try dsimp only
  refine lv_iload_n hx hb dX6_gather_9 rfl (lv_at hl 3 rfl) ?_
  refine lv_aload_n hx hb dX6_gather_10 rfl (lv_at hl 1 rfl) ?_
  refine x_get hx hb hts iwX6_gather_X7 hown hM 1 0 rfl rfl rfl 0 (by decide) (hts _ lkX6_gather_96) (fun _ h => h) rfl dX6_gather_11 ?_
  refine x_cast (y := nI (tn (S 2 0))) (okT_0 hT) ?_
  refine x_icmp_ge (x := g) (y := tn (S 2 0)) (tgt := 57) hx hb (by omega) (by omega) dX6_gather_14 (by decide) (fun c5 => ?_) (fun c5 => ?_)
  · have e6 : ((xfill (xzero τ3 0 5) (xst (S 4) K (tn (S 5 0)) (tn (S 2 0))) g) : Nat → Int32) = (xfill τ3 (xst (S 4) K (tn (S 5 0)) (tn (S 2 0))) 5) := by (rw [show g = (tn (S 2 0)) by omega]; exact xfill_st hTb0)
    have hM : xM D (TY q) [w6 q ad τ0 τ1 τ2 (xfill τ3 (xst (S 4) K (tn (S 5 0)) (tn (S 2 0))) 5) τ4 τ5, wst q sd X, wk q kd K] A s.heap s H locs := Eq.mp (congrArg (fun z9 => xM D (TY q) [w6 q ad τ0 τ1 τ2 z9 τ4 τ5, wst q sd X, wk q kd K] A s.heap s H locs) e6) hM
    exact x_vret hx hb hr hlocks () hM trivial dX6_gather_57
  · refine lv_iconst (v := nI 0) hx hb dX6_gather_17 (by decide) ?_
    refine lv_istore (lv' := [(4, .int (nI 0)), (0, .ref (ad 0)), (1, .ref (sd 0)), (2, .ref (kd 0)), (3, .int (nI g))]) hx hb dX6_gather_18 hl (by decide) rfl (fun ls hl => ?_)
    have e8 : ((xfill (xzero τ3 0 5) (xst (S 4) K (tn (S 5 0)) (tn (S 2 0))) g) : Nat → Int32) = (upd (xfill (xzero τ3 0 5) (xst (S 4) K (tn (S 5 0)) (tn (S 2 0))) g) g (xsum (fun y9 => xlf (S 4 g) (K (5 * y9 + g))) 0)) := by exact (xfill_in (by omega)).symm
    have hM : xM D (TY q) [w6 q ad τ0 τ1 τ2 (upd (xfill (xzero τ3 0 5) (xst (S 4) K (tn (S 5 0)) (tn (S 2 0))) g) g (xsum (fun y9 => xlf (S 4 g) (K (5 * y9 + g))) 0)) τ4 τ5, wst q sd X, wk q kd K] A s.heap s H locs := Eq.mp (congrArg (fun z9 => xM D (TY q) [w6 q ad τ0 τ1 τ2 z9 τ4 τ5, wst q sd X, wk q kd K] A s.heap s H locs) e8) hM
    refine x_loop (ι := Nat) (fun h => [(0, .ref (ad 0)), (1, .ref (sd 0)), (2, .ref (kd 0)), (3, .int (nI g)), (4, .int (nI h))]) (fun h => [w6 q ad τ0 τ1 τ2 (upd (xfill (xzero τ3 0 5) (xst (S 4) K (tn (S 5 0)) (tn (S 2 0))) g) g (xsum (fun y9 => xlf (S 4 g) (K (5 * y9 + g))) h)) τ4 τ5, wst q sd X, wk q kd K]) (fun h => h ≤ (tn (S 5 0))) (fun h => (tn (S 5 0)) - h) 0 (by omega) hM (lv_sub hl [1, 2, 3, 4, 0] rfl) ?_
    intro h hI10 ih9 H locs hM ls hl
    have hM : xM D (TY q) [w6 q ad τ0 τ1 τ2 (upd (xfill (xzero τ3 0 5) (xst (S 4) K (tn (S 5 0)) (tn (S 2 0))) g) g (xsum (fun y9 => xlf (S 4 g) (K (5 * y9 + g))) h)) τ4 τ5, wst q sd X, wk q kd K] A s.heap s H locs := hM
    have hl : lv_has ls 5 [(0, .ref (ad 0)), (1, .ref (sd 0)), (2, .ref (kd 0)), (3, .int (nI g)), (4, .int (nI h))] := hl
    have hI10 : h ≤ (tn (S 5 0)) := hI10
    try dsimp only
    refine lv_iload hx hb dX6_gather_20 (lv_at hl 4 rfl) ?_
    refine lv_aload_n hx hb dX6_gather_22 rfl (lv_at hl 1 rfl) ?_
    refine x_get hx hb hts iwX6_gather_X7 hown hM 1 0 rfl rfl rfl 1 (by decide) (hts _ lkX6_gather_99) (fun _ h => h) rfl dX6_gather_23 ?_
    refine x_cast (y := nI (tn (S 5 0))) (okT_1 hT) ?_
    refine x_icmp_ge (x := h) (y := tn (S 5 0)) (tgt := 51) hx hb (by omega) (by omega) dX6_gather_26 (by decide) (fun c11 => ?_) (fun c11 => ?_)
    · refine lv_iinc (v := nI (g + 1)) (lv' := [(3, .int (nI (g + 1))), (0, .ref (ad 0)), (1, .ref (sd 0)), (2, .ref (kd 0)), (4, .int (nI h))]) hx hb dX6_gather_51 hl (k := 3) rfl (x_inc _ 1) (by decide) rfl (fun ls hl => ?_)
      refine lv_goto (tgt := 9) hx hb dX6_gather_54 (by decide) ?_
      have e12 : ((upd (xfill (xzero τ3 0 5) (xst (S 4) K (tn (S 5 0)) (tn (S 2 0))) g) g (xsum (fun y9 => xlf (S 4 g) (K (5 * y9 + g))) h)) : Nat → Int32) = (xfill (xzero τ3 0 5) (xst (S 4) K (tn (S 5 0)) (tn (S 2 0))) (g + 1)) := by (rw [xst_eq (kd := S 4) (K := K) (nH := (tn (S 5 0))) (G := (tn (S 2 0))) (Or.inl (by omega)) (Or.inl (by omega)) (by omega)]; exact xfill_s _ _ _)
      have hM : xM D (TY q) [w6 q ad τ0 τ1 τ2 (xfill (xzero τ3 0 5) (xst (S 4) K (tn (S 5 0)) (tn (S 2 0))) (g + 1)) τ4 τ5, wst q sd X, wk q kd K] A s.heap s H locs := Eq.mp (congrArg (fun z9 => xM D (TY q) [w6 q ad τ0 τ1 τ2 z9 τ4 τ5, wst q sd X, wk q kd K] A s.heap s H locs) e12) hM
      have hl : lv_has ls 5 [(0, .ref (ad 0)), (1, .ref (sd 0)), (2, .ref (kd 0)), (3, .int (nI (g + 1)))] := lv_sub hl [1, 2, 3, 0] rfl
      exact ih3 (g + 1) (show (tn (S 2 0)) - (g + 1) < (tn (S 2 0)) - g from by omega) (show (g + 1) ≤ (tn (S 2 0)) from by omega) _ _ hM _ hl
    · refine lv_aload_n hx hb dX6_gather_29 rfl (lv_at hl 0 rfl) ?_
      refine x_get hx hb hts iwX6_gather_X6 hown hM 0 0 rfl rfl rfl 3 (by decide) (hts _ lkX6_gather_9) (fun _ h => h) rfl dX6_gather_30 ?_
      refine lv_iload_n hx hb dX6_gather_33 rfl (lv_at hl 3 rfl) ?_
      refine lv_aload_n hx hb dX6_gather_34 rfl (lv_at hl 2 rfl) ?_
      refine lv_aload_n hx hb dX6_gather_35 rfl (lv_at hl 1 rfl) ?_
      refine lv_iload hx hb dX6_gather_36 (lv_at hl 4 rfl) ?_
      refine lv_iload_n hx hb dX6_gather_38 rfl (lv_at hl 3 rfl) ?_
      refine x_calli (bc := [wk q kd K, wst q sd X]) (br := [w6 q ad τ0 τ1 τ2 (upd (xfill (xzero τ3 0 5) (xst (S 4) K (tn (S 5 0)) (tn (S 2 0))) g) g (xsum (fun y9 => xlf (S 4 g) (K (5 * y9 + g))) h)) τ4 τ5]) hM [2, 1] [0] rfl rfl rfl (by decide) (x_runV (As := [.ref (sd 0), .int (nI h), .int (nI g)]) (rest := [.int (nI g), .ref (ad 4)]) hfix (c_X1_leftOf l D q kd K sd X S h g hT (by omega) (by omega)) (cwV 3 hts gX6_gather_X1_leftOf rfl rfl rfl (by decide +kernel) ⟨Nat.le_of_ble_eq_true rfl, Nat.le_of_ble_eq_true rfl⟩) hM [2, 1] rfl rfl 2 0 rfl rfl rfl rfl rfl hl.1 rfl (Nat.le_of_ble_eq_true rfl) dX6_gather_39 ⟨Nat.le_of_ble_eq_true rfl, Nat.le_of_ble_eq_true rfl⟩) (fun r u H locs hq hM => ?_)
      subst hq
      have hM : xM D (TY q) [w6 q ad τ0 τ1 τ2 (upd (xfill (xzero τ3 0 5) (xst (S 4) K (tn (S 5 0)) (tn (S 2 0))) g) g (xsum (fun y9 => xlf (S 4 g) (K (5 * y9 + g))) h)) τ4 τ5, wk q kd K, wst q sd X] A s.heap s H locs := hM
      have hM : xM D (TY q) [w6 q ad τ0 τ1 τ2 (upd (xfill (xzero τ3 0 5) (xst (S 4) K (tn (S 5 0)) (tn (S 2 0))) g) g (xsum (fun y9 => xlf (S 4 g) (K (5 * y9 + g))) h)) τ4 τ5, wst q sd X, wk q kd K] A s.heap s H locs := hM.sel [0, 2, 1] rfl rfl
      refine x_callv (bc := [w6 q ad τ0 τ1 τ2 (upd (xfill (xzero τ3 0 5) (xst (S 4) K (tn (S 5 0)) (tn (S 2 0))) g) g (xsum (fun y9 => xlf (S 4 g) (K (5 * y9 + g))) h)) τ4 τ5]) (br := [wst q sd X, wk q kd K]) hM [0] [1, 2] rfl rfl rfl (by decide) (x_runS (As := [.ref (ad 4), .int (nI g), .int (xlf (S 4 g) (K (5 * h + g)))]) (rest := []) hfix (c_X5_add l D q (w6 q ad τ0 τ1 τ2 (upd (xfill (xzero τ3 0 5) (xst (S 4) K (tn (S 5 0)) (tn (S 2 0))) g) g (xsum (fun y9 => xlf (S 4 g) (K (5 * y9 + g))) h)) τ4 τ5) 1 (ad 4) 5 (upd (xfill (xzero τ3 0 5) (xst (S 4) K (tn (S 5 0)) (tn (S 2 0))) g) g (xsum (fun y9 => xlf (S 4 g) (K (5 * y9 + g))) h)) g (xlf (S 4 g) (K (5 * h + g))) rfl (by decide) (by omega)) (va_cwS 3 hts gX6_gather_X5_add rfl rfl rfl (by decide +kernel) ⟨Nat.le_of_ble_eq_true rfl, Nat.le_of_ble_eq_true rfl⟩) hM [0] rfl rfl rfl hl.1 rfl (Nat.le_of_ble_eq_true rfl) dX6_gather_42 ⟨Nat.le_of_ble_eq_true rfl, Nat.le_of_ble_eq_true rfl⟩) (fun u H locs hq hM => ?_)
      have hM : xM D (TY q) [wst q sd X, wk q kd K, w6 q ad τ0 τ1 τ2 (upd (upd (xfill (xzero τ3 0 5) (xst (S 4) K (tn (S 5 0)) (tn (S 2 0))) g) g (xsum (fun y9 => xlf (S 4 g) (K (5 * y9 + g))) h)) g ((upd (xfill (xzero τ3 0 5) (xst (S 4) K (tn (S 5 0)) (tn (S 2 0))) g) g (xsum (fun y9 => xlf (S 4 g) (K (5 * y9 + g))) h)) g + (xlf (S 4 g) (K (5 * h + g))))) τ4 τ5] A s.heap s H locs := hM
      have hM : xM D (TY q) [w6 q ad τ0 τ1 τ2 (upd (upd (xfill (xzero τ3 0 5) (xst (S 4) K (tn (S 5 0)) (tn (S 2 0))) g) g (xsum (fun y9 => xlf (S 4 g) (K (5 * y9 + g))) h)) g ((upd (xfill (xzero τ3 0 5) (xst (S 4) K (tn (S 5 0)) (tn (S 2 0))) g) g (xsum (fun y9 => xlf (S 4 g) (K (5 * y9 + g))) h)) g + (xlf (S 4 g) (K (5 * h + g))))) τ4 τ5, wst q sd X, wk q kd K] A s.heap s H locs := hM.sel [2, 0, 1] rfl rfl
      refine lv_iinc (v := nI (h + 1)) (lv' := [(4, .int (nI (h + 1))), (0, .ref (ad 0)), (1, .ref (sd 0)), (2, .ref (kd 0)), (3, .int (nI g))]) hx hb dX6_gather_45 hl (k := 4) rfl (x_inc _ 1) (by decide) rfl (fun ls hl => ?_)
      refine lv_goto (tgt := 20) hx hb dX6_gather_48 (by decide) ?_
      have e13 : ((upd (upd (xfill (xzero τ3 0 5) (xst (S 4) K (tn (S 5 0)) (tn (S 2 0))) g) g (xsum (fun y9 => xlf (S 4 g) (K (5 * y9 + g))) h)) g ((upd (xfill (xzero τ3 0 5) (xst (S 4) K (tn (S 5 0)) (tn (S 2 0))) g) g (xsum (fun y9 => xlf (S 4 g) (K (5 * y9 + g))) h)) g + (xlf (S 4 g) (K (5 * h + g))))) : Nat → Int32) = (upd (xfill (xzero τ3 0 5) (xst (S 4) K (tn (S 5 0)) (tn (S 2 0))) g) g (xsum (fun y9 => xlf (S 4 g) (K (5 * y9 + g))) (h + 1))) := by (rw [upd_upd, upd_at]; rfl)
      have hM : xM D (TY q) [w6 q ad τ0 τ1 τ2 (upd (xfill (xzero τ3 0 5) (xst (S 4) K (tn (S 5 0)) (tn (S 2 0))) g) g (xsum (fun y9 => xlf (S 4 g) (K (5 * y9 + g))) (h + 1))) τ4 τ5, wst q sd X, wk q kd K] A s.heap s H locs := Eq.mp (congrArg (fun z9 => xM D (TY q) [w6 q ad τ0 τ1 τ2 z9 τ4 τ5, wst q sd X, wk q kd K] A s.heap s H locs) e13) hM
      have hl : lv_has ls 5 [(0, .ref (ad 0)), (1, .ref (sd 0)), (2, .ref (kd 0)), (3, .int (nI g)), (4, .int (nI (h + 1)))] := lv_sub hl [1, 2, 3, 4, 0] rfl
      exact ih9 (h + 1) (show (tn (S 5 0)) - (h + 1) < (tn (S 5 0)) - h from by omega) (show (h + 1) ≤ (tn (S 5 0)) from by omega) _ _ hM _ hl

set_option maxRecDepth 20000 in
theorem ggX6_mostOf_X7_isRecipe : GoodIn wsX6_mostOf wsX7_isRecipe := goodIn_r _ [10, 11, 12, 13, 14, 36, 37, 38, 39, 40, 41, 42, 43, 44, 45, 46, 47, 48, 49, 50, 51] (by decide +kernel) (by decide +kernel)
set_option maxRecDepth 20000 in
theorem gX6_mostOf_X7_isRecipe : GoodIn wsX6_mostOf (wsV RX6 112 RX7 yX7_isRecipe wsX7_isRecipe) := goodIn_app (goodIn_of _ (by decide +kernel)) ggX6_mostOf_X7_isRecipe
set_option maxRecDepth 20000 in
theorem ggX6_mostOf_X7_oneOf : GoodIn wsX6_mostOf wsX7_oneOf := goodIn_r _ [18, 19, 20, 21, 22, 23, 36, 37, 38, 39, 40, 41, 42, 43, 44, 45, 46, 47, 48, 49, 50, 51] (by decide +kernel) (by decide +kernel)
set_option maxRecDepth 20000 in
theorem gX6_mostOf_X7_oneOf : GoodIn wsX6_mostOf (wsV RX6 116 RX7 yX7_oneOf wsX7_oneOf) := goodIn_app (goodIn_of _ (by decide +kernel)) ggX6_mostOf_X7_oneOf
set_option maxRecDepth 20000 in
theorem ggX6_mostOf_X5_at : GoodIn wsX6_mostOf wsX5_at := goodIn_r _ [23] (by decide +kernel) (by decide +kernel)
set_option maxRecDepth 20000 in
theorem gX6_mostOf_X5_at : GoodIn wsX6_mostOf (va_wsS RX6 86 yX5_at wsX5_at) := goodIn_app (goodIn_of _ (by decide +kernel)) ggX6_mostOf_X5_at
set_option maxRecDepth 20000 in
theorem ggX6_mostOf_X7_otherOf : GoodIn wsX6_mostOf wsX7_otherOf := goodIn_r _ [28, 29, 20, 21, 22, 23, 36, 37, 38, 39, 40, 41, 42, 43, 44, 45, 46, 47, 48, 49, 50, 51] (by decide +kernel) (by decide +kernel)
set_option maxRecDepth 20000 in
theorem gX6_mostOf_X7_otherOf : GoodIn wsX6_mostOf (wsV RX6 119 RX7 yX7_otherOf wsX7_otherOf) := goodIn_app (goodIn_of _ (by decide +kernel)) ggX6_mostOf_X7_otherOf
theorem dX6_mostOf_0 : decode cX6_mostOf 0 = .ok (.aload_n 1, 1) := by decide +kernel
theorem dX6_mostOf_1 : decode cX6_mostOf 1 = .ok (.iload_n 2, 1) := by decide +kernel
theorem dX6_mostOf_2 : decode cX6_mostOf 2 = .ok (.invokevirtual 112, 3) := by decide +kernel
theorem dX6_mostOf_5 : decode cX6_mostOf 5 = .ok (.ifCond .ne 5, 3) := by decide +kernel
theorem dX6_mostOf_8 : decode cX6_mostOf 8 = .ok (.iconst 0, 1) := by decide +kernel
theorem dX6_mostOf_9 : decode cX6_mostOf 9 = .ok (.ireturn, 1) := by decide +kernel
theorem dX6_mostOf_10 : decode cX6_mostOf 10 = .ok (.aload_n 0, 1) := by decide +kernel
theorem dX6_mostOf_11 : decode cX6_mostOf 11 = .ok (.getfield 9, 3) := by decide +kernel
theorem dX6_mostOf_14 : decode cX6_mostOf 14 = .ok (.aload_n 1, 1) := by decide +kernel
theorem dX6_mostOf_15 : decode cX6_mostOf 15 = .ok (.iload_n 2, 1) := by decide +kernel
theorem dX6_mostOf_16 : decode cX6_mostOf 16 = .ok (.invokevirtual 116, 3) := by decide +kernel
theorem dX6_mostOf_19 : decode cX6_mostOf 19 = .ok (.invokestatic 86, 3) := by decide +kernel
theorem dX6_mostOf_22 : decode cX6_mostOf 22 = .ok (.istore_n 3, 1) := by decide +kernel
theorem dX6_mostOf_23 : decode cX6_mostOf 23 = .ok (.aload_n 0, 1) := by decide +kernel
theorem dX6_mostOf_24 : decode cX6_mostOf 24 = .ok (.getfield 9, 3) := by decide +kernel
theorem dX6_mostOf_27 : decode cX6_mostOf 27 = .ok (.aload_n 1, 1) := by decide +kernel
theorem dX6_mostOf_28 : decode cX6_mostOf 28 = .ok (.iload_n 2, 1) := by decide +kernel
theorem dX6_mostOf_29 : decode cX6_mostOf 29 = .ok (.invokevirtual 119, 3) := by decide +kernel
theorem dX6_mostOf_32 : decode cX6_mostOf 32 = .ok (.invokestatic 86, 3) := by decide +kernel
theorem dX6_mostOf_35 : decode cX6_mostOf 35 = .ok (.istore 4, 2) := by decide +kernel
theorem dX6_mostOf_37 : decode cX6_mostOf 37 = .ok (.aload_n 1, 1) := by decide +kernel
theorem dX6_mostOf_38 : decode cX6_mostOf 38 = .ok (.iload_n 2, 1) := by decide +kernel
theorem dX6_mostOf_39 : decode cX6_mostOf 39 = .ok (.invokevirtual 116, 3) := by decide +kernel
theorem dX6_mostOf_42 : decode cX6_mostOf 42 = .ok (.aload_n 1, 1) := by decide +kernel
theorem dX6_mostOf_43 : decode cX6_mostOf 43 = .ok (.iload_n 2, 1) := by decide +kernel
theorem dX6_mostOf_44 : decode cX6_mostOf 44 = .ok (.invokevirtual 119, 3) := by decide +kernel
theorem dX6_mostOf_47 : decode cX6_mostOf 47 = .ok (.if_icmp .ne 9, 3) := by decide +kernel
theorem dX6_mostOf_50 : decode cX6_mostOf 50 = .ok (.iload_n 3, 1) := by decide +kernel
theorem dX6_mostOf_51 : decode cX6_mostOf 51 = .ok (.iconst 2, 1) := by decide +kernel
theorem dX6_mostOf_52 : decode cX6_mostOf 52 = .ok (.idiv, 1) := by decide +kernel
theorem dX6_mostOf_53 : decode cX6_mostOf 53 = .ok (.goto 9, 3) := by decide +kernel
theorem dX6_mostOf_56 : decode cX6_mostOf 56 = .ok (.iload_n 3, 1) := by decide +kernel
theorem dX6_mostOf_57 : decode cX6_mostOf 57 = .ok (.iload 4, 2) := by decide +kernel
theorem dX6_mostOf_59 : decode cX6_mostOf 59 = .ok (.invokestatic 122, 3) := by decide +kernel
theorem dX6_mostOf_62 : decode cX6_mostOf 62 = .ok (.ireturn, 1) := by decide +kernel
theorem lkX6_mostOf_9 : Cond.fieldLink RX6 9 "LeftAtFive$Shops" "stock" "[I" ∈ wsX6_mostOf := by decide +kernel
theorem iwX6_mostOf_X6 : ∀ w ∈ wsX60, w ∈ wsX6_mostOf := by decide +kernel
set_option maxHeartbeats 2000000 in
set_option maxRecDepth 100000 in
theorem c_X6_mostOf (l : Launch) (D : va_G) (q : Nat → ClassId) (ad : Nat → Nat) (τ0 : Int32) (τ1 : Int64) (τ2 : Int32) (τ3 : Nat → Int32) (τ4 : Nat → Int32) (τ5 : Nat → Int32) (sd : Nat → Nat) (X : Nat → Nat → Int32) (S : Nat → Nat → Int32) (k : Nat) (hT : okT X S) (hk3 : k < 3) : xC l yX6_mostOf wsX6_mostOf ({ frames := 2, cells := 0, slots := 0, locals := 43 }) D (TY q) [w6 q ad τ0 τ1 τ2 τ3 τ4 τ5, wst q sd X] [.ref (ad 0), .ref (sd 0), .int (nI k)] (xQi D (TY q) (fun (r : Int32) (_ : Unit) => r = if (tn (S 15 0)) ≤ k then nI 0 else xmo τ3 (tn (S 16 k)) (tn (S 17 k))) (fun _ => [w6 q ad τ0 τ1 τ2 τ3 τ4 τ5, wst q sd X])) 0 0 := by
  refine x_enter (cc := cX6_mostOf) (maxL := 5) (ret := (some .int)) (by decide) rfl (Nat.le_of_ble_eq_true rfl) ?_
  intro p e s m below meth c A ls H locs hfix hr hlocks hinit hM hl
  obtain ⟨hx, hb, hml, hown, hts⟩ := id hfix
  have hl : lv_has ls 5 [(0, .ref (ad 0)), (1, .ref (sd 0)), (2, .int (nI k))] := hl
  refine lv_aload_n hx hb dX6_mostOf_0 rfl (lv_at hl 1 rfl) ?_
  refine lv_iload_n hx hb dX6_mostOf_1 rfl (lv_at hl 2 rfl) ?_
  refine x_calli (bc := [wst q sd X]) (br := [w6 q ad τ0 τ1 τ2 τ3 τ4 τ5]) hM [1] [0] rfl rfl rfl (by decide) (x_runV (As := [.int (nI k)]) (rest := []) hfix (c_X7_isRecipe l D q sd X S (nI k) ((k : Nat) : Int) hT (nI_toInt (n := k) (by omega))) (cwV 1 hts gX6_mostOf_X7_isRecipe rfl rfl rfl (by decide +kernel) ⟨Nat.le_of_ble_eq_true rfl, Nat.le_of_ble_eq_true rfl⟩) hM [1] rfl rfl 1 0 rfl rfl rfl rfl rfl hl.1 rfl (Nat.le_of_ble_eq_true rfl) dX6_mostOf_2 ⟨Nat.le_of_ble_eq_true rfl, Nat.le_of_ble_eq_true rfl⟩) (fun r u H locs hq hM => ?_)
  subst hq
  have hM : xM D (TY q) [w6 q ad τ0 τ1 τ2 τ3 τ4 τ5, wst q sd X] A s.heap s H locs := hM
  refine x_ifz_ne (P := 0 ≤ ((k : Nat) : Int) ∧ ((k : Nat) : Int) < (tn (S 15 0))) (tgt := 10) hx hb dX6_mostOf_5 (by decide) (fun c1 => ?_) (fun c1 => ?_)
  · refine lv_aload_n hx hb dX6_mostOf_10 rfl (lv_at hl 0 rfl) ?_
    refine x_get hx hb hts iwX6_mostOf_X6 hown hM 0 0 rfl rfl rfl 3 (by decide) (hts _ lkX6_mostOf_9) (fun _ h => h) rfl dX6_mostOf_11 ?_
    refine lv_aload_n hx hb dX6_mostOf_14 rfl (lv_at hl 1 rfl) ?_
    refine lv_iload_n hx hb dX6_mostOf_15 rfl (lv_at hl 2 rfl) ?_
    refine x_calli (bc := [wst q sd X]) (br := [w6 q ad τ0 τ1 τ2 τ3 τ4 τ5]) hM [1] [0] rfl rfl rfl (by decide) (x_runV (As := [.int (nI k)]) (rest := [.ref (ad 4)]) hfix (c_X7_oneOf l D q sd X S k hT (by omega)) (cwV 1 hts gX6_mostOf_X7_oneOf rfl rfl rfl (by decide +kernel) ⟨Nat.le_of_ble_eq_true rfl, Nat.le_of_ble_eq_true rfl⟩) hM [1] rfl rfl 1 0 rfl rfl rfl rfl rfl hl.1 rfl (Nat.le_of_ble_eq_true rfl) dX6_mostOf_16 ⟨Nat.le_of_ble_eq_true rfl, Nat.le_of_ble_eq_true rfl⟩) (fun r u H locs hq hM => ?_)
    subst hq
    have hM : xM D (TY q) [w6 q ad τ0 τ1 τ2 τ3 τ4 τ5, wst q sd X] A s.heap s H locs := hM
    refine x_calli (bc := [w6 q ad τ0 τ1 τ2 τ3 τ4 τ5]) (br := [wst q sd X]) hM [0] [1] rfl rfl rfl (by decide) (x_runS (As := [.ref (ad 4), .int (nI (tn (S 16 k)))]) (rest := []) hfix (c_X5_at l D q (w6 q ad τ0 τ1 τ2 τ3 τ4 τ5) 1 (ad 4) 5 τ3 (tn (S 16 k)) rfl (by decide) (Nat.lt_succ_of_le (okT_on5 hT (by omega)).2)) (va_cwS 2 hts gX6_mostOf_X5_at rfl rfl rfl (by decide +kernel) ⟨Nat.le_of_ble_eq_true rfl, Nat.le_of_ble_eq_true rfl⟩) hM [0] rfl rfl rfl hl.1 rfl (Nat.le_of_ble_eq_true rfl) dX6_mostOf_19 ⟨Nat.le_of_ble_eq_true rfl, Nat.le_of_ble_eq_true rfl⟩) (fun r u H locs hq hM => ?_)
    subst hq
    have hM : xM D (TY q) [wst q sd X, w6 q ad τ0 τ1 τ2 τ3 τ4 τ5] A s.heap s H locs := hM
    have hM : xM D (TY q) [w6 q ad τ0 τ1 τ2 τ3 τ4 τ5, wst q sd X] A s.heap s H locs := hM.sel [1, 0] rfl rfl
    refine lv_istore_n (lv' := [(3, .int (τ3 (tn (S 16 k)))), (0, .ref (ad 0)), (1, .ref (sd 0)), (2, .int (nI k))]) hx hb dX6_mostOf_22 rfl hl (by decide) rfl (fun ls hl => ?_)
    refine lv_aload_n hx hb dX6_mostOf_23 rfl (lv_at hl 1 rfl) ?_
    refine x_get hx hb hts iwX6_mostOf_X6 hown hM 0 0 rfl rfl rfl 3 (by decide) (hts _ lkX6_mostOf_9) (fun _ h => h) rfl dX6_mostOf_24 ?_
    refine lv_aload_n hx hb dX6_mostOf_27 rfl (lv_at hl 2 rfl) ?_
    refine lv_iload_n hx hb dX6_mostOf_28 rfl (lv_at hl 3 rfl) ?_
    refine x_calli (bc := [wst q sd X]) (br := [w6 q ad τ0 τ1 τ2 τ3 τ4 τ5]) hM [1] [0] rfl rfl rfl (by decide) (x_runV (As := [.int (nI k)]) (rest := [.ref (ad 4)]) hfix (c_X7_otherOf l D q sd X S k hT (by omega)) (cwV 1 hts gX6_mostOf_X7_otherOf rfl rfl rfl (by decide +kernel) ⟨Nat.le_of_ble_eq_true rfl, Nat.le_of_ble_eq_true rfl⟩) hM [1] rfl rfl 1 0 rfl rfl rfl rfl rfl hl.1 rfl (Nat.le_of_ble_eq_true rfl) dX6_mostOf_29 ⟨Nat.le_of_ble_eq_true rfl, Nat.le_of_ble_eq_true rfl⟩) (fun r u H locs hq hM => ?_)
    subst hq
    have hM : xM D (TY q) [w6 q ad τ0 τ1 τ2 τ3 τ4 τ5, wst q sd X] A s.heap s H locs := hM
    refine x_calli (bc := [w6 q ad τ0 τ1 τ2 τ3 τ4 τ5]) (br := [wst q sd X]) hM [0] [1] rfl rfl rfl (by decide) (x_runS (As := [.ref (ad 4), .int (nI (tn (S 17 k)))]) (rest := []) hfix (c_X5_at l D q (w6 q ad τ0 τ1 τ2 τ3 τ4 τ5) 1 (ad 4) 5 τ3 (tn (S 17 k)) rfl (by decide) (Nat.lt_succ_of_le (okT_ot5 hT (by omega)).2)) (va_cwS 2 hts gX6_mostOf_X5_at rfl rfl rfl (by decide +kernel) ⟨Nat.le_of_ble_eq_true rfl, Nat.le_of_ble_eq_true rfl⟩) hM [0] rfl rfl rfl hl.1 rfl (Nat.le_of_ble_eq_true rfl) dX6_mostOf_32 ⟨Nat.le_of_ble_eq_true rfl, Nat.le_of_ble_eq_true rfl⟩) (fun r u H locs hq hM => ?_)
    subst hq
    have hM : xM D (TY q) [wst q sd X, w6 q ad τ0 τ1 τ2 τ3 τ4 τ5] A s.heap s H locs := hM
    have hM : xM D (TY q) [w6 q ad τ0 τ1 τ2 τ3 τ4 τ5, wst q sd X] A s.heap s H locs := hM.sel [1, 0] rfl rfl
    refine lv_istore (lv' := [(4, .int (τ3 (tn (S 17 k)))), (3, .int (τ3 (tn (S 16 k)))), (0, .ref (ad 0)), (1, .ref (sd 0)), (2, .int (nI k))]) hx hb dX6_mostOf_35 hl (by decide) rfl (fun ls hl => ?_)
    refine lv_aload_n hx hb dX6_mostOf_37 rfl (lv_at hl 3 rfl) ?_
    refine lv_iload_n hx hb dX6_mostOf_38 rfl (lv_at hl 4 rfl) ?_
    refine x_calli (bc := [wst q sd X]) (br := [w6 q ad τ0 τ1 τ2 τ3 τ4 τ5]) hM [1] [0] rfl rfl rfl (by decide) (x_runV (As := [.int (nI k)]) (rest := []) hfix (c_X7_oneOf l D q sd X S k hT (by omega)) (cwV 1 hts gX6_mostOf_X7_oneOf rfl rfl rfl (by decide +kernel) ⟨Nat.le_of_ble_eq_true rfl, Nat.le_of_ble_eq_true rfl⟩) hM [1] rfl rfl 1 0 rfl rfl rfl rfl rfl hl.1 rfl (Nat.le_of_ble_eq_true rfl) dX6_mostOf_39 ⟨Nat.le_of_ble_eq_true rfl, Nat.le_of_ble_eq_true rfl⟩) (fun r u H locs hq hM => ?_)
    subst hq
    have hM : xM D (TY q) [w6 q ad τ0 τ1 τ2 τ3 τ4 τ5, wst q sd X] A s.heap s H locs := hM
    refine lv_aload_n hx hb dX6_mostOf_42 rfl (lv_at hl 3 rfl) ?_
    refine lv_iload_n hx hb dX6_mostOf_43 rfl (lv_at hl 4 rfl) ?_
    refine x_calli (bc := [wst q sd X]) (br := [w6 q ad τ0 τ1 τ2 τ3 τ4 τ5]) hM [1] [0] rfl rfl rfl (by decide) (x_runV (As := [.int (nI k)]) (rest := [.int (nI (tn (S 16 k)))]) hfix (c_X7_otherOf l D q sd X S k hT (by omega)) (cwV 1 hts gX6_mostOf_X7_otherOf rfl rfl rfl (by decide +kernel) ⟨Nat.le_of_ble_eq_true rfl, Nat.le_of_ble_eq_true rfl⟩) hM [1] rfl rfl 1 0 rfl rfl rfl rfl rfl hl.1 rfl (Nat.le_of_ble_eq_true rfl) dX6_mostOf_44 ⟨Nat.le_of_ble_eq_true rfl, Nat.le_of_ble_eq_true rfl⟩) (fun r u H locs hq hM => ?_)
    subst hq
    have hM : xM D (TY q) [w6 q ad τ0 τ1 τ2 τ3 τ4 τ5, wst q sd X] A s.heap s H locs := hM
    refine x_icmp_ne (x := tn (S 16 k)) (y := tn (S 17 k)) (tgt := 56) hx hb (by omega) (by omega) dX6_mostOf_47 (by decide) (fun c2 => ?_) (fun c2 => ?_)
    · refine lv_iload_n hx hb dX6_mostOf_56 rfl (lv_at hl 1 rfl) ?_
      refine lv_iload hx hb dX6_mostOf_57 (lv_at hl 0 rfl) ?_
      refine x_mmin (own := RX6) (index := 122) hx hb (by rw [hml]; exact hl.1.symm) hts hown (by simp only [List.forall_mem_cons]; exact ⟨by decide +kernel, by decide +kernel, by decide +kernel, by decide +kernel, fun _ h => absurd h List.not_mem_nil⟩) (Nat.le_of_ble_eq_true rfl) (Nat.le_of_ble_eq_true rfl) (Nat.zero_le _) (Nat.zero_le _) dX6_mostOf_59 ?_
      exact x_iret hx hb hr hlocks () hM (show (if (τ3 (tn (S 17 k))) < (τ3 (tn (S 16 k))) then (τ3 (tn (S 17 k))) else (τ3 (tn (S 16 k)))) = if (tn (S 15 0)) ≤ k then nI 0 else xmo τ3 (tn (S 16 k)) (tn (S 17 k)) from by (first | exact (if_pos (by omega)).symm | (rw [if_neg (c := (tn (S 15 0)) ≤ k) (by omega)]; first | exact xmoC_1 (by assumption) | exact xmoC_2 (by assumption)))) dX6_mostOf_62
    · refine lv_iload_n hx hb dX6_mostOf_50 rfl (lv_at hl 1 rfl) ?_
      refine lv_iconst (v := nI 2) hx hb dX6_mostOf_51 (by decide) ?_
      refine lv_idiv hx hb dX6_mostOf_52 (by decide) ?_
      refine lv_goto (tgt := 62) hx hb dX6_mostOf_53 (by decide) ?_
      exact x_iret hx hb hr hlocks () hM (show (τ3 (tn (S 16 k))) / (nI 2) = if (tn (S 15 0)) ≤ k then nI 0 else xmo τ3 (tn (S 16 k)) (tn (S 17 k)) from by (first | exact (if_pos (by omega)).symm | (rw [if_neg (c := (tn (S 15 0)) ≤ k) (by omega)]; first | exact xmoC_1 (by assumption) | exact xmoC_2 (by assumption)))) dX6_mostOf_62
  · refine lv_iconst (v := nI 0) hx hb dX6_mostOf_8 (by decide) ?_
    exact x_iret hx hb hr hlocks () hM (show nI 0 = if (tn (S 15 0)) ≤ k then nI 0 else xmo τ3 (tn (S 16 k)) (tn (S 17 k)) from by (first | exact (if_pos (by omega)).symm | (rw [if_neg (c := (tn (S 15 0)) ≤ k) (by omega)]; first | exact xmoC_1 (by assumption) | exact xmoC_2 (by assumption)))) dX6_mostOf_9

set_option maxRecDepth 20000 in
theorem ggX6_use_X7_isRecipe : GoodIn wsX6_use wsX7_isRecipe := goodIn_r _ [6, 7, 8, 9, 10, 34, 35, 36, 37, 38, 39, 40, 41, 42, 43, 44, 45, 46, 47, 48, 49] (by decide +kernel) (by decide +kernel)
set_option maxRecDepth 20000 in
theorem gX6_use_X7_isRecipe : GoodIn wsX6_use (wsV RX6 112 RX7 yX7_isRecipe wsX7_isRecipe) := goodIn_app (goodIn_of _ (by decide +kernel)) ggX6_use_X7_isRecipe
set_option maxRecDepth 20000 in
theorem ggX6_use_X7_oneOf : GoodIn wsX6_use wsX7_oneOf := goodIn_r _ [14, 15, 16, 17, 18, 19, 34, 35, 36, 37, 38, 39, 40, 41, 42, 43, 44, 45, 46, 47, 48, 49] (by decide +kernel) (by decide +kernel)
set_option maxRecDepth 20000 in
theorem gX6_use_X7_oneOf : GoodIn wsX6_use (wsV RX6 116 RX7 yX7_oneOf wsX7_oneOf) := goodIn_app (goodIn_of _ (by decide +kernel)) ggX6_use_X7_oneOf
set_option maxRecDepth 20000 in
theorem ggX6_use_X5_add : GoodIn wsX6_use wsX5_add := goodIn_r _ [22] (by decide +kernel) (by decide +kernel)
set_option maxRecDepth 20000 in
theorem gX6_use_X5_add : GoodIn wsX6_use (va_wsS RX6 108 yX5_add wsX5_add) := goodIn_app (goodIn_of _ (by decide +kernel)) ggX6_use_X5_add
set_option maxRecDepth 20000 in
theorem ggX6_use_X7_otherOf : GoodIn wsX6_use wsX7_otherOf := goodIn_r _ [26, 27, 16, 17, 18, 19, 34, 35, 36, 37, 38, 39, 40, 41, 42, 43, 44, 45, 46, 47, 48, 49] (by decide +kernel) (by decide +kernel)
set_option maxRecDepth 20000 in
theorem gX6_use_X7_otherOf : GoodIn wsX6_use (wsV RX6 119 RX7 yX7_otherOf wsX7_otherOf) := goodIn_app (goodIn_of _ (by decide +kernel)) ggX6_use_X7_otherOf
theorem dX6_use_0 : decode cX6_use 0 = .ok (.aload_n 1, 1) := by decide +kernel
theorem dX6_use_1 : decode cX6_use 1 = .ok (.iload_n 2, 1) := by decide +kernel
theorem dX6_use_2 : decode cX6_use 2 = .ok (.invokevirtual 112, 3) := by decide +kernel
theorem dX6_use_5 : decode cX6_use 5 = .ok (.ifCond .eq 31, 3) := by decide +kernel
theorem dX6_use_8 : decode cX6_use 8 = .ok (.aload_n 0, 1) := by decide +kernel
theorem dX6_use_9 : decode cX6_use 9 = .ok (.getfield 9, 3) := by decide +kernel
theorem dX6_use_12 : decode cX6_use 12 = .ok (.aload_n 1, 1) := by decide +kernel
theorem dX6_use_13 : decode cX6_use 13 = .ok (.iload_n 2, 1) := by decide +kernel
theorem dX6_use_14 : decode cX6_use 14 = .ok (.invokevirtual 116, 3) := by decide +kernel
theorem dX6_use_17 : decode cX6_use 17 = .ok (.iload_n 3, 1) := by decide +kernel
theorem dX6_use_18 : decode cX6_use 18 = .ok (.ineg, 1) := by decide +kernel
theorem dX6_use_19 : decode cX6_use 19 = .ok (.invokestatic 108, 3) := by decide +kernel
theorem dX6_use_22 : decode cX6_use 22 = .ok (.aload_n 0, 1) := by decide +kernel
theorem dX6_use_23 : decode cX6_use 23 = .ok (.getfield 9, 3) := by decide +kernel
theorem dX6_use_26 : decode cX6_use 26 = .ok (.aload_n 1, 1) := by decide +kernel
theorem dX6_use_27 : decode cX6_use 27 = .ok (.iload_n 2, 1) := by decide +kernel
theorem dX6_use_28 : decode cX6_use 28 = .ok (.invokevirtual 119, 3) := by decide +kernel
theorem dX6_use_31 : decode cX6_use 31 = .ok (.iload_n 3, 1) := by decide +kernel
theorem dX6_use_32 : decode cX6_use 32 = .ok (.ineg, 1) := by decide +kernel
theorem dX6_use_33 : decode cX6_use 33 = .ok (.invokestatic 108, 3) := by decide +kernel
theorem dX6_use_36 : decode cX6_use 36 = .ok (.return_, 1) := by decide +kernel
theorem lkX6_use_9 : Cond.fieldLink RX6 9 "LeftAtFive$Shops" "stock" "[I" ∈ wsX6_use := by decide +kernel
theorem iwX6_use_X6 : ∀ w ∈ wsX60, w ∈ wsX6_use := by decide +kernel
set_option maxHeartbeats 2000000 in
set_option maxRecDepth 100000 in
theorem c_X6_use (l : Launch) (D : va_G) (q : Nat → ClassId) (ad : Nat → Nat) (τ0 : Int32) (τ1 : Int64) (τ2 : Int32) (τ3 : Nat → Int32) (τ4 : Nat → Int32) (τ5 : Nat → Int32) (sd : Nat → Nat) (X : Nat → Nat → Int32) (S : Nat → Nat → Int32) (k : Nat) (n : Int32) (hT : okT X S) (hk3 : k < 3) : xC l yX6_use wsX6_use ({ frames := 2, cells := 0, slots := 0, locals := 43 }) D (TY q) [w6 q ad τ0 τ1 τ2 τ3 τ4 τ5, wst q sd X] [.ref (ad 0), .ref (sd 0), .int (nI k), .int n] (xQv D (TY q) (fun (_ : Unit) => True) (fun _ => [w6 q ad τ0 τ1 τ2 (if (tn (S 15 0)) ≤ k then τ3 else xuse τ3 (tn (S 16 k)) (tn (S 17 k)) n) τ4 τ5, wst q sd X])) 0 0 := by
  refine x_enter (cc := cX6_use) (maxL := 4) (ret := none) (by decide) rfl (Nat.le_of_ble_eq_true rfl) ?_
  intro p e s m below meth c A ls H locs hfix hr hlocks hinit hM hl
  obtain ⟨hx, hb, hml, hown, hts⟩ := id hfix
  have hl : lv_has ls 4 [(0, .ref (ad 0)), (1, .ref (sd 0)), (2, .int (nI k)), (3, .int n)] := hl
  refine lv_aload_n hx hb dX6_use_0 rfl (lv_at hl 1 rfl) ?_
  refine lv_iload_n hx hb dX6_use_1 rfl (lv_at hl 2 rfl) ?_
  refine x_calli (bc := [wst q sd X]) (br := [w6 q ad τ0 τ1 τ2 τ3 τ4 τ5]) hM [1] [0] rfl rfl rfl (by decide) (x_runV (As := [.int (nI k)]) (rest := []) hfix (c_X7_isRecipe l D q sd X S (nI k) ((k : Nat) : Int) hT (nI_toInt (n := k) (by omega))) (cwV 1 hts gX6_use_X7_isRecipe rfl rfl rfl (by decide +kernel) ⟨Nat.le_of_ble_eq_true rfl, Nat.le_of_ble_eq_true rfl⟩) hM [1] rfl rfl 1 0 rfl rfl rfl rfl rfl hl.1 rfl (Nat.le_of_ble_eq_true rfl) dX6_use_2 ⟨Nat.le_of_ble_eq_true rfl, Nat.le_of_ble_eq_true rfl⟩) (fun r u H locs hq hM => ?_)
  subst hq
  have hM : xM D (TY q) [w6 q ad τ0 τ1 τ2 τ3 τ4 τ5, wst q sd X] A s.heap s H locs := hM
  refine x_ifz_eq (P := 0 ≤ ((k : Nat) : Int) ∧ ((k : Nat) : Int) < (tn (S 15 0))) (tgt := 36) hx hb dX6_use_5 (by decide) (fun c1 => ?_) (fun c1 => ?_)
  · have e2 : ((τ3) : Nat → Int32) = ((if (tn (S 15 0)) ≤ k then τ3 else xuse τ3 (tn (S 16 k)) (tn (S 17 k)) n)) := by (first | exact (if_pos (by omega)).symm | (rw [if_neg (c := (tn (S 15 0)) ≤ k) (by omega)]; exact xuse_a))
    have hM : xM D (TY q) [w6 q ad τ0 τ1 τ2 (if (tn (S 15 0)) ≤ k then τ3 else xuse τ3 (tn (S 16 k)) (tn (S 17 k)) n) τ4 τ5, wst q sd X] A s.heap s H locs := Eq.mp (congrArg (fun z9 => xM D (TY q) [w6 q ad τ0 τ1 τ2 z9 τ4 τ5, wst q sd X] A s.heap s H locs) e2) hM
    exact x_vret hx hb hr hlocks () hM trivial dX6_use_36
  · refine lv_aload_n hx hb dX6_use_8 rfl (lv_at hl 0 rfl) ?_
    refine x_get hx hb hts iwX6_use_X6 hown hM 0 0 rfl rfl rfl 3 (by decide) (hts _ lkX6_use_9) (fun _ h => h) rfl dX6_use_9 ?_
    refine lv_aload_n hx hb dX6_use_12 rfl (lv_at hl 1 rfl) ?_
    refine lv_iload_n hx hb dX6_use_13 rfl (lv_at hl 2 rfl) ?_
    refine x_calli (bc := [wst q sd X]) (br := [w6 q ad τ0 τ1 τ2 τ3 τ4 τ5]) hM [1] [0] rfl rfl rfl (by decide) (x_runV (As := [.int (nI k)]) (rest := [.ref (ad 4)]) hfix (c_X7_oneOf l D q sd X S k hT (by omega)) (cwV 1 hts gX6_use_X7_oneOf rfl rfl rfl (by decide +kernel) ⟨Nat.le_of_ble_eq_true rfl, Nat.le_of_ble_eq_true rfl⟩) hM [1] rfl rfl 1 0 rfl rfl rfl rfl rfl hl.1 rfl (Nat.le_of_ble_eq_true rfl) dX6_use_14 ⟨Nat.le_of_ble_eq_true rfl, Nat.le_of_ble_eq_true rfl⟩) (fun r u H locs hq hM => ?_)
    subst hq
    have hM : xM D (TY q) [w6 q ad τ0 τ1 τ2 τ3 τ4 τ5, wst q sd X] A s.heap s H locs := hM
    refine lv_iload_n hx hb dX6_use_17 rfl (lv_at hl 3 rfl) ?_
    refine lv_ineg hx hb dX6_use_18 ?_
    refine x_callv (bc := [w6 q ad τ0 τ1 τ2 τ3 τ4 τ5]) (br := [wst q sd X]) hM [0] [1] rfl rfl rfl (by decide) (x_runS (As := [.ref (ad 4), .int (nI (tn (S 16 k))), .int (-n)]) (rest := []) hfix (c_X5_add l D q (w6 q ad τ0 τ1 τ2 τ3 τ4 τ5) 1 (ad 4) 5 τ3 (tn (S 16 k)) (-n) rfl (by decide) (Nat.lt_succ_of_le (okT_on5 hT (by omega)).2)) (va_cwS 3 hts gX6_use_X5_add rfl rfl rfl (by decide +kernel) ⟨Nat.le_of_ble_eq_true rfl, Nat.le_of_ble_eq_true rfl⟩) hM [0] rfl rfl rfl hl.1 rfl (Nat.le_of_ble_eq_true rfl) dX6_use_19 ⟨Nat.le_of_ble_eq_true rfl, Nat.le_of_ble_eq_true rfl⟩) (fun u H locs hq hM => ?_)
    have hM : xM D (TY q) [wst q sd X, w6 q ad τ0 τ1 τ2 (upd τ3 (tn (S 16 k)) (τ3 (tn (S 16 k)) + (-n))) τ4 τ5] A s.heap s H locs := hM
    have hM : xM D (TY q) [w6 q ad τ0 τ1 τ2 (upd τ3 (tn (S 16 k)) (τ3 (tn (S 16 k)) + (-n))) τ4 τ5, wst q sd X] A s.heap s H locs := hM.sel [1, 0] rfl rfl
    refine lv_aload_n hx hb dX6_use_22 rfl (lv_at hl 0 rfl) ?_
    refine x_get hx hb hts iwX6_use_X6 hown hM 0 0 rfl rfl rfl 3 (by decide) (hts _ lkX6_use_9) (fun _ h => h) rfl dX6_use_23 ?_
    refine lv_aload_n hx hb dX6_use_26 rfl (lv_at hl 1 rfl) ?_
    refine lv_iload_n hx hb dX6_use_27 rfl (lv_at hl 2 rfl) ?_
    refine x_calli (bc := [wst q sd X]) (br := [w6 q ad τ0 τ1 τ2 (upd τ3 (tn (S 16 k)) (τ3 (tn (S 16 k)) + (-n))) τ4 τ5]) hM [1] [0] rfl rfl rfl (by decide) (x_runV (As := [.int (nI k)]) (rest := [.ref (ad 4)]) hfix (c_X7_otherOf l D q sd X S k hT (by omega)) (cwV 1 hts gX6_use_X7_otherOf rfl rfl rfl (by decide +kernel) ⟨Nat.le_of_ble_eq_true rfl, Nat.le_of_ble_eq_true rfl⟩) hM [1] rfl rfl 1 0 rfl rfl rfl rfl rfl hl.1 rfl (Nat.le_of_ble_eq_true rfl) dX6_use_28 ⟨Nat.le_of_ble_eq_true rfl, Nat.le_of_ble_eq_true rfl⟩) (fun r u H locs hq hM => ?_)
    subst hq
    have hM : xM D (TY q) [w6 q ad τ0 τ1 τ2 (upd τ3 (tn (S 16 k)) (τ3 (tn (S 16 k)) + (-n))) τ4 τ5, wst q sd X] A s.heap s H locs := hM
    refine lv_iload_n hx hb dX6_use_31 rfl (lv_at hl 3 rfl) ?_
    refine lv_ineg hx hb dX6_use_32 ?_
    refine x_callv (bc := [w6 q ad τ0 τ1 τ2 (upd τ3 (tn (S 16 k)) (τ3 (tn (S 16 k)) + (-n))) τ4 τ5]) (br := [wst q sd X]) hM [0] [1] rfl rfl rfl (by decide) (x_runS (As := [.ref (ad 4), .int (nI (tn (S 17 k))), .int (-n)]) (rest := []) hfix (c_X5_add l D q (w6 q ad τ0 τ1 τ2 (upd τ3 (tn (S 16 k)) (τ3 (tn (S 16 k)) + (-n))) τ4 τ5) 1 (ad 4) 5 (upd τ3 (tn (S 16 k)) (τ3 (tn (S 16 k)) + (-n))) (tn (S 17 k)) (-n) rfl (by decide) (Nat.lt_succ_of_le (okT_ot5 hT (by omega)).2)) (va_cwS 3 hts gX6_use_X5_add rfl rfl rfl (by decide +kernel) ⟨Nat.le_of_ble_eq_true rfl, Nat.le_of_ble_eq_true rfl⟩) hM [0] rfl rfl rfl hl.1 rfl (Nat.le_of_ble_eq_true rfl) dX6_use_33 ⟨Nat.le_of_ble_eq_true rfl, Nat.le_of_ble_eq_true rfl⟩) (fun u H locs hq hM => ?_)
    have hM : xM D (TY q) [wst q sd X, w6 q ad τ0 τ1 τ2 (upd (upd τ3 (tn (S 16 k)) (τ3 (tn (S 16 k)) + (-n))) (tn (S 17 k)) ((upd τ3 (tn (S 16 k)) (τ3 (tn (S 16 k)) + (-n))) (tn (S 17 k)) + (-n))) τ4 τ5] A s.heap s H locs := hM
    have hM : xM D (TY q) [w6 q ad τ0 τ1 τ2 (upd (upd τ3 (tn (S 16 k)) (τ3 (tn (S 16 k)) + (-n))) (tn (S 17 k)) ((upd τ3 (tn (S 16 k)) (τ3 (tn (S 16 k)) + (-n))) (tn (S 17 k)) + (-n))) τ4 τ5, wst q sd X] A s.heap s H locs := hM.sel [1, 0] rfl rfl
    have e3 : ((upd (upd τ3 (tn (S 16 k)) (τ3 (tn (S 16 k)) + (-n))) (tn (S 17 k)) ((upd τ3 (tn (S 16 k)) (τ3 (tn (S 16 k)) + (-n))) (tn (S 17 k)) + (-n))) : Nat → Int32) = ((if (tn (S 15 0)) ≤ k then τ3 else xuse τ3 (tn (S 16 k)) (tn (S 17 k)) n)) := by (first | exact (if_pos (by omega)).symm | (rw [if_neg (c := (tn (S 15 0)) ≤ k) (by omega)]; exact xuse_a))
    have hM : xM D (TY q) [w6 q ad τ0 τ1 τ2 (if (tn (S 15 0)) ≤ k then τ3 else xuse τ3 (tn (S 16 k)) (tn (S 17 k)) n) τ4 τ5, wst q sd X] A s.heap s H locs := Eq.mp (congrArg (fun z9 => xM D (TY q) [w6 q ad τ0 τ1 τ2 z9 τ4 τ5, wst q sd X] A s.heap s H locs) e3) hM
    exact x_vret hx hb hr hlocks () hM trivial dX6_use_36

set_option maxRecDepth 20000 in
theorem ggX6_worthOf_X7_priceOf : GoodIn wsX6_worthOf wsX7_priceOf := goodIn_r _ [5, 6, 7, 8, 9, 10, 11, 12, 13, 14, 15, 16, 17, 18, 19, 20, 21, 22, 23, 24, 25, 26] (by decide +kernel) (by decide +kernel)
set_option maxRecDepth 20000 in
theorem gX6_worthOf_X7_priceOf : GoodIn wsX6_worthOf (wsV RX6 128 RX7 yX7_priceOf wsX7_priceOf) := goodIn_app (goodIn_of _ (by decide +kernel)) ggX6_worthOf_X7_priceOf
theorem dX6_worthOf_0 : decode cX6_worthOf 0 = .ok (.iload_n 1, 1) := by decide +kernel
theorem dX6_worthOf_1 : decode cX6_worthOf 1 = .ok (.aload_n 0, 1) := by decide +kernel
theorem dX6_worthOf_2 : decode cX6_worthOf 2 = .ok (.iconst 0, 1) := by decide +kernel
theorem dX6_worthOf_3 : decode cX6_worthOf 3 = .ok (.invokevirtual 128, 3) := by decide +kernel
theorem dX6_worthOf_6 : decode cX6_worthOf 6 = .ok (.imul, 1) := by decide +kernel
theorem dX6_worthOf_7 : decode cX6_worthOf 7 = .ok (.iload_n 2, 1) := by decide +kernel
theorem dX6_worthOf_8 : decode cX6_worthOf 8 = .ok (.aload_n 0, 1) := by decide +kernel
theorem dX6_worthOf_9 : decode cX6_worthOf 9 = .ok (.iconst 1, 1) := by decide +kernel
theorem dX6_worthOf_10 : decode cX6_worthOf 10 = .ok (.invokevirtual 128, 3) := by decide +kernel
theorem dX6_worthOf_13 : decode cX6_worthOf 13 = .ok (.imul, 1) := by decide +kernel
theorem dX6_worthOf_14 : decode cX6_worthOf 14 = .ok (.iadd, 1) := by decide +kernel
theorem dX6_worthOf_15 : decode cX6_worthOf 15 = .ok (.iload_n 3, 1) := by decide +kernel
theorem dX6_worthOf_16 : decode cX6_worthOf 16 = .ok (.aload_n 0, 1) := by decide +kernel
theorem dX6_worthOf_17 : decode cX6_worthOf 17 = .ok (.iconst 2, 1) := by decide +kernel
theorem dX6_worthOf_18 : decode cX6_worthOf 18 = .ok (.invokevirtual 128, 3) := by decide +kernel
theorem dX6_worthOf_21 : decode cX6_worthOf 21 = .ok (.imul, 1) := by decide +kernel
theorem dX6_worthOf_22 : decode cX6_worthOf 22 = .ok (.iadd, 1) := by decide +kernel
theorem dX6_worthOf_23 : decode cX6_worthOf 23 = .ok (.ireturn, 1) := by decide +kernel
set_option maxHeartbeats 2000000 in
set_option maxRecDepth 100000 in
theorem c_X6_worthOf (l : Launch) (D : va_G) (q : Nat → ClassId) (sd : Nat → Nat) (X : Nat → Nat → Int32) (a : Int32) (b : Int32) (c : Int32) : xC l yX6_worthOf wsX6_worthOf ({ frames := 2, cells := 0, slots := 0, locals := 42 }) D (TY q) [wst q sd X] [.ref (sd 0), .int a, .int b, .int c] (xQi D (TY q) (fun (r : Int32) (_ : Unit) => r = a * (X 15) 0 + b * (X 15) 1 + c * (X 15) 2) (fun _ => [wst q sd X])) 0 0 := by
  refine x_enter (cc := cX6_worthOf) (maxL := 4) (ret := (some .int)) (by decide) rfl (Nat.le_of_ble_eq_true rfl) ?_
  intro p e s m below meth c A ls H locs hfix hr hlocks hinit hM hl
  obtain ⟨hx, hb, hml, hown, hts⟩ := id hfix
  have hl : lv_has ls 4 [(0, .ref (sd 0)), (1, .int a), (2, .int b), (3, .int c)] := hl
  refine lv_iload_n hx hb dX6_worthOf_0 rfl (lv_at hl 1 rfl) ?_
  refine lv_aload_n hx hb dX6_worthOf_1 rfl (lv_at hl 0 rfl) ?_
  refine lv_iconst (v := nI 0) hx hb dX6_worthOf_2 (by decide) ?_
  refine x_calli (bc := [wst q sd X]) (br := []) hM [0] [] rfl rfl rfl (by decide) (x_runV (As := [.int (nI 0)]) (rest := [.int a]) hfix (c_X7_priceOf l D q sd X 0 (by omega)) (cwV 1 hts gX6_worthOf_X7_priceOf rfl rfl rfl (by decide +kernel) ⟨Nat.le_of_ble_eq_true rfl, Nat.le_of_ble_eq_true rfl⟩) hM [0] rfl rfl 0 0 rfl rfl rfl rfl rfl hl.1 rfl (Nat.le_of_ble_eq_true rfl) dX6_worthOf_3 ⟨Nat.le_of_ble_eq_true rfl, Nat.le_of_ble_eq_true rfl⟩) (fun r u H locs hq hM => ?_)
  subst hq
  have hM : xM D (TY q) [wst q sd X] A s.heap s H locs := hM
  refine lv_imul hx hb dX6_worthOf_6 ?_
  refine lv_iload_n hx hb dX6_worthOf_7 rfl (lv_at hl 2 rfl) ?_
  refine lv_aload_n hx hb dX6_worthOf_8 rfl (lv_at hl 0 rfl) ?_
  refine lv_iconst (v := nI 1) hx hb dX6_worthOf_9 (by decide) ?_
  refine x_calli (bc := [wst q sd X]) (br := []) hM [0] [] rfl rfl rfl (by decide) (x_runV (As := [.int (nI 1)]) (rest := [.int b, .int (a * ((X 15) 0))]) hfix (c_X7_priceOf l D q sd X 1 (by omega)) (cwV 1 hts gX6_worthOf_X7_priceOf rfl rfl rfl (by decide +kernel) ⟨Nat.le_of_ble_eq_true rfl, Nat.le_of_ble_eq_true rfl⟩) hM [0] rfl rfl 0 0 rfl rfl rfl rfl rfl hl.1 rfl (Nat.le_of_ble_eq_true rfl) dX6_worthOf_10 ⟨Nat.le_of_ble_eq_true rfl, Nat.le_of_ble_eq_true rfl⟩) (fun r u H locs hq hM => ?_)
  subst hq
  have hM : xM D (TY q) [wst q sd X] A s.heap s H locs := hM
  refine lv_imul hx hb dX6_worthOf_13 ?_
  refine lv_iadd hx hb dX6_worthOf_14 ?_
  refine lv_iload_n hx hb dX6_worthOf_15 rfl (lv_at hl 3 rfl) ?_
  refine lv_aload_n hx hb dX6_worthOf_16 rfl (lv_at hl 0 rfl) ?_
  refine lv_iconst (v := nI 2) hx hb dX6_worthOf_17 (by decide) ?_
  refine x_calli (bc := [wst q sd X]) (br := []) hM [0] [] rfl rfl rfl (by decide) (x_runV (As := [.int (nI 2)]) (rest := [.int c, .int ((a * ((X 15) 0)) + (b * ((X 15) 1)))]) hfix (c_X7_priceOf l D q sd X 2 (by omega)) (cwV 1 hts gX6_worthOf_X7_priceOf rfl rfl rfl (by decide +kernel) ⟨Nat.le_of_ble_eq_true rfl, Nat.le_of_ble_eq_true rfl⟩) hM [0] rfl rfl 0 0 rfl rfl rfl rfl rfl hl.1 rfl (Nat.le_of_ble_eq_true rfl) dX6_worthOf_18 ⟨Nat.le_of_ble_eq_true rfl, Nat.le_of_ble_eq_true rfl⟩) (fun r u H locs hq hM => ?_)
  subst hq
  have hM : xM D (TY q) [wst q sd X] A s.heap s H locs := hM
  refine lv_imul hx hb dX6_worthOf_21 ?_
  refine lv_iadd hx hb dX6_worthOf_22 ?_
  exact x_iret hx hb hr hlocks () hM (show ((a * ((X 15) 0)) + (b * ((X 15) 1))) + (c * ((X 15) 2)) = a * (X 15) 0 + b * (X 15) 1 + c * (X 15) 2 from by rfl) dX6_worthOf_23

set_option maxRecDepth 20000 in
theorem ggX6_tryWay_X6_worthOf : GoodIn wsX6_tryWay wsX6_worthOf := goodIn_r _ [6, 7, 8, 9, 10, 11, 12, 13, 14, 15, 16, 26, 27, 28, 29, 30, 31, 32, 33, 34, 35, 36, 37, 38, 39, 40, 41] (by decide +kernel) (by decide +kernel)
set_option maxRecDepth 20000 in
theorem gX6_tryWay_X6_worthOf : GoodIn wsX6_tryWay (va_wsS RX6 75 yX6_worthOf wsX6_worthOf) := goodIn_app (goodIn_of _ (by decide +kernel)) ggX6_tryWay_X6_worthOf
set_option maxRecDepth 20000 in
theorem ggX6_tryWay_X5_put : GoodIn wsX6_tryWay wsX5_put := goodIn_r _ [19] (by decide +kernel) (by decide +kernel)
set_option maxRecDepth 20000 in
theorem gX6_tryWay_X5_put : GoodIn wsX6_tryWay (va_wsS RX6 125 yX5_put wsX5_put) := goodIn_app (goodIn_of _ (by decide +kernel)) ggX6_tryWay_X5_put
theorem dX6_tryWay_0 : decode cX6_tryWay 0 = .ok (.aload_n 1, 1) := by decide +kernel
theorem dX6_tryWay_1 : decode cX6_tryWay 1 = .ok (.iload_n 2, 1) := by decide +kernel
theorem dX6_tryWay_2 : decode cX6_tryWay 2 = .ok (.iload_n 3, 1) := by decide +kernel
theorem dX6_tryWay_3 : decode cX6_tryWay 3 = .ok (.iload 4, 2) := by decide +kernel
theorem dX6_tryWay_5 : decode cX6_tryWay 5 = .ok (.invokestatic 75, 3) := by decide +kernel
theorem dX6_tryWay_8 : decode cX6_tryWay 8 = .ok (.istore 5, 2) := by decide +kernel
theorem dX6_tryWay_10 : decode cX6_tryWay 10 = .ok (.iload 5, 2) := by decide +kernel
theorem dX6_tryWay_12 : decode cX6_tryWay 12 = .ok (.aload_n 0, 1) := by decide +kernel
theorem dX6_tryWay_13 : decode cX6_tryWay 13 = .ok (.getfield 64, 3) := by decide +kernel
theorem dX6_tryWay_16 : decode cX6_tryWay 16 = .ok (.if_icmp .le 37, 3) := by decide +kernel
theorem dX6_tryWay_19 : decode cX6_tryWay 19 = .ok (.aload_n 0, 1) := by decide +kernel
theorem dX6_tryWay_20 : decode cX6_tryWay 20 = .ok (.iload 5, 2) := by decide +kernel
theorem dX6_tryWay_22 : decode cX6_tryWay 22 = .ok (.putfield 64, 3) := by decide +kernel
theorem dX6_tryWay_25 : decode cX6_tryWay 25 = .ok (.aload_n 0, 1) := by decide +kernel
theorem dX6_tryWay_26 : decode cX6_tryWay 26 = .ok (.getfield 15, 3) := by decide +kernel
theorem dX6_tryWay_29 : decode cX6_tryWay 29 = .ok (.iconst 0, 1) := by decide +kernel
theorem dX6_tryWay_30 : decode cX6_tryWay 30 = .ok (.iload_n 2, 1) := by decide +kernel
theorem dX6_tryWay_31 : decode cX6_tryWay 31 = .ok (.invokestatic 125, 3) := by decide +kernel
theorem dX6_tryWay_34 : decode cX6_tryWay 34 = .ok (.aload_n 0, 1) := by decide +kernel
theorem dX6_tryWay_35 : decode cX6_tryWay 35 = .ok (.getfield 15, 3) := by decide +kernel
theorem dX6_tryWay_38 : decode cX6_tryWay 38 = .ok (.iconst 1, 1) := by decide +kernel
theorem dX6_tryWay_39 : decode cX6_tryWay 39 = .ok (.iload_n 3, 1) := by decide +kernel
theorem dX6_tryWay_40 : decode cX6_tryWay 40 = .ok (.invokestatic 125, 3) := by decide +kernel
theorem dX6_tryWay_43 : decode cX6_tryWay 43 = .ok (.aload_n 0, 1) := by decide +kernel
theorem dX6_tryWay_44 : decode cX6_tryWay 44 = .ok (.getfield 15, 3) := by decide +kernel
theorem dX6_tryWay_47 : decode cX6_tryWay 47 = .ok (.iconst 2, 1) := by decide +kernel
theorem dX6_tryWay_48 : decode cX6_tryWay 48 = .ok (.iload 4, 2) := by decide +kernel
theorem dX6_tryWay_50 : decode cX6_tryWay 50 = .ok (.invokestatic 125, 3) := by decide +kernel
theorem dX6_tryWay_53 : decode cX6_tryWay 53 = .ok (.return_, 1) := by decide +kernel
theorem lkX6_tryWay_15 : Cond.fieldLink RX6 15 "LeftAtFive$Shops" "made" "[I" ∈ wsX6_tryWay := by decide +kernel
theorem lkX6_tryWay_64 : Cond.fieldLink RX6 64 "LeftAtFive$Shops" "bestSoups" "I" ∈ wsX6_tryWay := by decide +kernel
theorem iwX6_tryWay_X6 : ∀ w ∈ wsX60, w ∈ wsX6_tryWay := by decide +kernel
set_option maxHeartbeats 2000000 in
set_option maxRecDepth 100000 in
theorem c_X6_tryWay (l : Launch) (D : va_G) (q : Nat → ClassId) (ad : Nat → Nat) (τ0 : Int32) (τ1 : Int64) (τ2 : Int32) (τ3 : Nat → Int32) (τ4 : Nat → Int32) (τ5 : Nat → Int32) (sd : Nat → Nat) (X : Nat → Nat → Int32) (a : Int32) (b : Int32) (c : Int32) : xC l yX6_tryWay wsX6_tryWay ({ frames := 3, cells := 0, slots := 0, locals := 65 }) D (TY q) [w6 q ad τ0 τ1 τ2 τ3 τ4 τ5, wst q sd X] [.ref (ad 0), .ref (sd 0), .int a, .int b, .int c] (xQv D (TY q) (fun (_ : Unit) => True) (fun _ => [w6 q ad τ0 τ1 (xtw (τ2, τ4) (a * (X 15) 0 + b * (X 15) 1 + c * (X 15) 2) a b c).1 τ3 (xtw (τ2, τ4) (a * (X 15) 0 + b * (X 15) 1 + c * (X 15) 2) a b c).2 τ5, wst q sd X])) 0 0 := by
  refine x_enter (cc := cX6_tryWay) (maxL := 6) (ret := none) (by decide) rfl (Nat.le_of_ble_eq_true rfl) ?_
  intro p e s m below meth c A ls H locs hfix hr hlocks hinit hM hl
  obtain ⟨hx, hb, hml, hown, hts⟩ := id hfix
  have hl : lv_has ls 6 [(0, .ref (ad 0)), (1, .ref (sd 0)), (2, .int a), (3, .int b), (4, .int c)] := hl
  refine lv_aload_n hx hb dX6_tryWay_0 rfl (lv_at hl 1 rfl) ?_
  refine lv_iload_n hx hb dX6_tryWay_1 rfl (lv_at hl 2 rfl) ?_
  refine lv_iload_n hx hb dX6_tryWay_2 rfl (lv_at hl 3 rfl) ?_
  refine lv_iload hx hb dX6_tryWay_3 (lv_at hl 4 rfl) ?_
  refine x_calli (bc := [wst q sd X]) (br := [w6 q ad τ0 τ1 τ2 τ3 τ4 τ5]) hM [1] [0] rfl rfl rfl (by decide) (x_runS (As := [.ref (sd 0), .int a, .int b, .int c]) (rest := []) hfix (c_X6_worthOf l D q sd X a b c) (va_cwS 4 hts gX6_tryWay_X6_worthOf rfl rfl rfl (by decide +kernel) ⟨Nat.le_of_ble_eq_true rfl, Nat.le_of_ble_eq_true rfl⟩) hM [1] rfl rfl rfl hl.1 rfl (Nat.le_of_ble_eq_true rfl) dX6_tryWay_5 ⟨Nat.le_of_ble_eq_true rfl, Nat.le_of_ble_eq_true rfl⟩) (fun r u H locs hq hM => ?_)
  subst hq
  have hM : xM D (TY q) [w6 q ad τ0 τ1 τ2 τ3 τ4 τ5, wst q sd X] A s.heap s H locs := hM
  refine lv_istore (lv' := [(5, .int (a * (X 15) 0 + b * (X 15) 1 + c * (X 15) 2)), (0, .ref (ad 0)), (1, .ref (sd 0)), (2, .int a), (3, .int b), (4, .int c)]) hx hb dX6_tryWay_8 hl (by decide) rfl (fun ls hl => ?_)
  refine lv_iload hx hb dX6_tryWay_10 (lv_at hl 0 rfl) ?_
  refine lv_aload_n hx hb dX6_tryWay_12 rfl (lv_at hl 1 rfl) ?_
  refine x_get hx hb hts iwX6_tryWay_X6 hown hM 0 0 rfl rfl rfl 2 (by decide) (hts _ lkX6_tryWay_64) (fun _ h => h) rfl dX6_tryWay_13 ?_
  refine lv_icmp_le (tgt := 53) hx hb dX6_tryWay_16 (by decide) (fun c1 => ?_) (fun c1 => ?_)
  · have e2 : ((τ2) : Int32) = ((xtw (τ2, τ4) (a * (X 15) 0 + b * (X 15) 1 + c * (X 15) 2) a b c).1) := by (first | exact (congrArg Prod.fst (xtw_1 (by assumption))).symm | exact (congrArg Prod.fst (xtw_0 (by assumption))).symm)
    have hM : xM D (TY q) [w6 q ad τ0 τ1 (xtw (τ2, τ4) (a * (X 15) 0 + b * (X 15) 1 + c * (X 15) 2) a b c).1 τ3 τ4 τ5, wst q sd X] A s.heap s H locs := Eq.mp (congrArg (fun z9 => xM D (TY q) [w6 q ad τ0 τ1 z9 τ3 τ4 τ5, wst q sd X] A s.heap s H locs) e2) hM
    have e3 : ((τ4) : Nat → Int32) = ((xtw (τ2, τ4) (a * (X 15) 0 + b * (X 15) 1 + c * (X 15) 2) a b c).2) := by (first | exact (congrArg Prod.snd (xtw_1 (by assumption))).symm | exact (congrArg Prod.snd (xtw_0 (by assumption))).symm)
    have hM : xM D (TY q) [w6 q ad τ0 τ1 (xtw (τ2, τ4) (a * (X 15) 0 + b * (X 15) 1 + c * (X 15) 2) a b c).1 τ3 (xtw (τ2, τ4) (a * (X 15) 0 + b * (X 15) 1 + c * (X 15) 2) a b c).2 τ5, wst q sd X] A s.heap s H locs := Eq.mp (congrArg (fun z9 => xM D (TY q) [w6 q ad τ0 τ1 (xtw (τ2, τ4) (a * (X 15) 0 + b * (X 15) 1 + c * (X 15) 2) a b c).1 τ3 z9 τ5, wst q sd X] A s.heap s H locs) e3) hM
    exact x_vret hx hb hr hlocks () hM trivial dX6_tryWay_53
  · refine lv_aload_n hx hb dX6_tryWay_19 rfl (lv_at hl 1 rfl) ?_
    refine lv_iload hx hb dX6_tryWay_20 (lv_at hl 0 rfl) ?_
    refine x_put hx hb hts iwX6_tryWay_X6 tyX6 tyX6_ok nmX6 hown hM 0 0 rfl rfl rfl 2 (by decide) (hts _ lkX6_tryWay_64) (fun _ h => h) rfl (ty := .int) (by decide +kernel) rfl rfl (Nat.le_of_ble_eq_true rfl) [w6 q ad τ0 τ1 (a * (X 15) 0 + b * (X 15) 1 + c * (X 15) 2) τ3 τ4 τ5, wst q sd X] rfl dX6_tryWay_22 (fun H locs hM => ?_)
    refine lv_aload_n hx hb dX6_tryWay_25 rfl (lv_at hl 1 rfl) ?_
    refine x_get hx hb hts iwX6_tryWay_X6 hown hM 0 0 rfl rfl rfl 4 (by decide) (hts _ lkX6_tryWay_15) (fun _ h => h) rfl dX6_tryWay_26 ?_
    refine lv_iconst (v := nI 0) hx hb dX6_tryWay_29 (by decide) ?_
    refine lv_iload_n hx hb dX6_tryWay_30 rfl (lv_at hl 3 rfl) ?_
    refine x_callv (bc := [w6 q ad τ0 τ1 (a * (X 15) 0 + b * (X 15) 1 + c * (X 15) 2) τ3 τ4 τ5]) (br := [wst q sd X]) hM [0] [1] rfl rfl rfl (by decide) (x_runS (As := [.ref (ad 5), .int (nI 0), .int a]) (rest := []) hfix (c_X5_put l D q (w6 q ad τ0 τ1 (a * (X 15) 0 + b * (X 15) 1 + c * (X 15) 2) τ3 τ4 τ5) 2 (ad 5) 3 τ4 0 a rfl (by decide) (by omega)) (va_cwS 3 hts gX6_tryWay_X5_put rfl rfl rfl (by decide +kernel) ⟨Nat.le_of_ble_eq_true rfl, Nat.le_of_ble_eq_true rfl⟩) hM [0] rfl rfl rfl hl.1 rfl (Nat.le_of_ble_eq_true rfl) dX6_tryWay_31 ⟨Nat.le_of_ble_eq_true rfl, Nat.le_of_ble_eq_true rfl⟩) (fun u H locs hq hM => ?_)
    have hM : xM D (TY q) [wst q sd X, w6 q ad τ0 τ1 (a * (X 15) 0 + b * (X 15) 1 + c * (X 15) 2) τ3 (upd τ4 0 a) τ5] A s.heap s H locs := hM
    have hM : xM D (TY q) [w6 q ad τ0 τ1 (a * (X 15) 0 + b * (X 15) 1 + c * (X 15) 2) τ3 (upd τ4 0 a) τ5, wst q sd X] A s.heap s H locs := hM.sel [1, 0] rfl rfl
    refine lv_aload_n hx hb dX6_tryWay_34 rfl (lv_at hl 1 rfl) ?_
    refine x_get hx hb hts iwX6_tryWay_X6 hown hM 0 0 rfl rfl rfl 4 (by decide) (hts _ lkX6_tryWay_15) (fun _ h => h) rfl dX6_tryWay_35 ?_
    refine lv_iconst (v := nI 1) hx hb dX6_tryWay_38 (by decide) ?_
    refine lv_iload_n hx hb dX6_tryWay_39 rfl (lv_at hl 4 rfl) ?_
    refine x_callv (bc := [w6 q ad τ0 τ1 (a * (X 15) 0 + b * (X 15) 1 + c * (X 15) 2) τ3 (upd τ4 0 a) τ5]) (br := [wst q sd X]) hM [0] [1] rfl rfl rfl (by decide) (x_runS (As := [.ref (ad 5), .int (nI 1), .int b]) (rest := []) hfix (c_X5_put l D q (w6 q ad τ0 τ1 (a * (X 15) 0 + b * (X 15) 1 + c * (X 15) 2) τ3 (upd τ4 0 a) τ5) 2 (ad 5) 3 (upd τ4 0 a) 1 b rfl (by decide) (by omega)) (va_cwS 3 hts gX6_tryWay_X5_put rfl rfl rfl (by decide +kernel) ⟨Nat.le_of_ble_eq_true rfl, Nat.le_of_ble_eq_true rfl⟩) hM [0] rfl rfl rfl hl.1 rfl (Nat.le_of_ble_eq_true rfl) dX6_tryWay_40 ⟨Nat.le_of_ble_eq_true rfl, Nat.le_of_ble_eq_true rfl⟩) (fun u H locs hq hM => ?_)
    have hM : xM D (TY q) [wst q sd X, w6 q ad τ0 τ1 (a * (X 15) 0 + b * (X 15) 1 + c * (X 15) 2) τ3 (upd (upd τ4 0 a) 1 b) τ5] A s.heap s H locs := hM
    have hM : xM D (TY q) [w6 q ad τ0 τ1 (a * (X 15) 0 + b * (X 15) 1 + c * (X 15) 2) τ3 (upd (upd τ4 0 a) 1 b) τ5, wst q sd X] A s.heap s H locs := hM.sel [1, 0] rfl rfl
    refine lv_aload_n hx hb dX6_tryWay_43 rfl (lv_at hl 1 rfl) ?_
    refine x_get hx hb hts iwX6_tryWay_X6 hown hM 0 0 rfl rfl rfl 4 (by decide) (hts _ lkX6_tryWay_15) (fun _ h => h) rfl dX6_tryWay_44 ?_
    refine lv_iconst (v := nI 2) hx hb dX6_tryWay_47 (by decide) ?_
    refine lv_iload hx hb dX6_tryWay_48 (lv_at hl 5 rfl) ?_
    refine x_callv (bc := [w6 q ad τ0 τ1 (a * (X 15) 0 + b * (X 15) 1 + c * (X 15) 2) τ3 (upd (upd τ4 0 a) 1 b) τ5]) (br := [wst q sd X]) hM [0] [1] rfl rfl rfl (by decide) (x_runS (As := [.ref (ad 5), .int (nI 2), .int c]) (rest := []) hfix (c_X5_put l D q (w6 q ad τ0 τ1 (a * (X 15) 0 + b * (X 15) 1 + c * (X 15) 2) τ3 (upd (upd τ4 0 a) 1 b) τ5) 2 (ad 5) 3 (upd (upd τ4 0 a) 1 b) 2 c rfl (by decide) (by omega)) (va_cwS 3 hts gX6_tryWay_X5_put rfl rfl rfl (by decide +kernel) ⟨Nat.le_of_ble_eq_true rfl, Nat.le_of_ble_eq_true rfl⟩) hM [0] rfl rfl rfl hl.1 rfl (Nat.le_of_ble_eq_true rfl) dX6_tryWay_50 ⟨Nat.le_of_ble_eq_true rfl, Nat.le_of_ble_eq_true rfl⟩) (fun u H locs hq hM => ?_)
    have hM : xM D (TY q) [wst q sd X, w6 q ad τ0 τ1 (a * (X 15) 0 + b * (X 15) 1 + c * (X 15) 2) τ3 (upd (upd (upd τ4 0 a) 1 b) 2 c) τ5] A s.heap s H locs := hM
    have hM : xM D (TY q) [w6 q ad τ0 τ1 (a * (X 15) 0 + b * (X 15) 1 + c * (X 15) 2) τ3 (upd (upd (upd τ4 0 a) 1 b) 2 c) τ5, wst q sd X] A s.heap s H locs := hM.sel [1, 0] rfl rfl
    have e4 : ((a * (X 15) 0 + b * (X 15) 1 + c * (X 15) 2) : Int32) = ((xtw (τ2, τ4) (a * (X 15) 0 + b * (X 15) 1 + c * (X 15) 2) a b c).1) := by (first | exact (congrArg Prod.fst (xtw_1 (by assumption))).symm | exact (congrArg Prod.fst (xtw_0 (by assumption))).symm)
    have hM : xM D (TY q) [w6 q ad τ0 τ1 (xtw (τ2, τ4) (a * (X 15) 0 + b * (X 15) 1 + c * (X 15) 2) a b c).1 τ3 (upd (upd (upd τ4 0 a) 1 b) 2 c) τ5, wst q sd X] A s.heap s H locs := Eq.mp (congrArg (fun z9 => xM D (TY q) [w6 q ad τ0 τ1 z9 τ3 (upd (upd (upd τ4 0 a) 1 b) 2 c) τ5, wst q sd X] A s.heap s H locs) e4) hM
    have e5 : ((upd (upd (upd τ4 0 a) 1 b) 2 c) : Nat → Int32) = ((xtw (τ2, τ4) (a * (X 15) 0 + b * (X 15) 1 + c * (X 15) 2) a b c).2) := by (first | exact (congrArg Prod.snd (xtw_1 (by assumption))).symm | exact (congrArg Prod.snd (xtw_0 (by assumption))).symm)
    have hM : xM D (TY q) [w6 q ad τ0 τ1 (xtw (τ2, τ4) (a * (X 15) 0 + b * (X 15) 1 + c * (X 15) 2) a b c).1 τ3 (xtw (τ2, τ4) (a * (X 15) 0 + b * (X 15) 1 + c * (X 15) 2) a b c).2 τ5, wst q sd X] A s.heap s H locs := Eq.mp (congrArg (fun z9 => xM D (TY q) [w6 q ad τ0 τ1 (xtw (τ2, τ4) (a * (X 15) 0 + b * (X 15) 1 + c * (X 15) 2) a b c).1 τ3 z9 τ5, wst q sd X] A s.heap s H locs) e5) hM
    exact x_vret hx hb hr hlocks () hM trivial dX6_tryWay_53

set_option maxRecDepth 20000 in
theorem ggX6_cookBehind_X6_mostOf : GoodIn wsX6_cookBehind wsX6_mostOf := goodIn_r _ [5, 6, 7, 8, 9, 10, 11, 12, 13, 14, 15, 16, 17, 18, 19, 20, 21, 22, 23, 24, 25, 26, 27, 28, 29, 30, 31, 32, 33, 34, 59, 60, 61, 62, 63, 64, 65, 66, 67, 68, 69, 70, 71, 72, 73, 74, 75, 76, 77, 78, 79, 80] (by decide +kernel) (by decide +kernel)
set_option maxRecDepth 20000 in
theorem gX6_cookBehind_X6_mostOf : GoodIn wsX6_cookBehind (wsV RX6 67 RX6 yX6_mostOf wsX6_mostOf) := goodIn_app (goodIn_of _ (by decide +kernel)) ggX6_cookBehind_X6_mostOf
set_option maxRecDepth 20000 in
theorem ggX6_cookBehind_X6_use : GoodIn wsX6_cookBehind wsX6_use := goodIn_r _ [38, 6, 11, 12, 13, 14, 15, 16, 17, 18, 19, 20, 21, 22, 23, 24, 25, 26, 27, 28, 39, 40, 41, 30, 31, 32, 33, 34, 59, 60, 61, 62, 63, 64, 65, 66, 67, 68, 69, 70, 71, 72, 73, 74, 75, 76, 77, 78, 79, 80] (by decide +kernel) (by decide +kernel)
set_option maxRecDepth 20000 in
theorem gX6_cookBehind_X6_use : GoodIn wsX6_cookBehind (wsV RX6 71 RX6 yX6_use wsX6_use) := goodIn_app (goodIn_of _ (by decide +kernel)) ggX6_cookBehind_X6_use
set_option maxRecDepth 20000 in
theorem ggX6_cookBehind_X6_tryWay : GoodIn wsX6_cookBehind wsX6_tryWay := goodIn_r _ [45, 46, 47, 48, 49, 4, 50, 51, 52, 53, 14, 54, 55, 25, 26, 27, 28, 56, 57, 58, 59, 60, 61, 62, 63, 64, 65, 66, 67, 68, 69, 70, 71, 72, 73, 74, 75, 76, 77, 78, 79, 80] (by decide +kernel) (by decide +kernel)
set_option maxRecDepth 20000 in
theorem gX6_cookBehind_X6_tryWay : GoodIn wsX6_cookBehind (wsV RX6 82 RX6 yX6_tryWay wsX6_tryWay) := goodIn_app (goodIn_of _ (by decide +kernel)) ggX6_cookBehind_X6_tryWay
theorem dX6_cookBehind_0 : decode cX6_cookBehind 0 = .ok (.aload_n 0, 1) := by decide +kernel
theorem dX6_cookBehind_1 : decode cX6_cookBehind 1 = .ok (.aload_n 1, 1) := by decide +kernel
theorem dX6_cookBehind_2 : decode cX6_cookBehind 2 = .ok (.iconst 1, 1) := by decide +kernel
theorem dX6_cookBehind_3 : decode cX6_cookBehind 3 = .ok (.invokevirtual 67, 3) := by decide +kernel
theorem dX6_cookBehind_6 : decode cX6_cookBehind 6 = .ok (.istore_n 3, 1) := by decide +kernel
theorem dX6_cookBehind_7 : decode cX6_cookBehind 7 = .ok (.iload_n 3, 1) := by decide +kernel
theorem dX6_cookBehind_8 : decode cX6_cookBehind 8 = .ok (.ifCond .lt 37, 3) := by decide +kernel
theorem dX6_cookBehind_11 : decode cX6_cookBehind 11 = .ok (.aload_n 0, 1) := by decide +kernel
theorem dX6_cookBehind_12 : decode cX6_cookBehind 12 = .ok (.aload_n 1, 1) := by decide +kernel
theorem dX6_cookBehind_13 : decode cX6_cookBehind 13 = .ok (.iconst 1, 1) := by decide +kernel
theorem dX6_cookBehind_14 : decode cX6_cookBehind 14 = .ok (.iload_n 3, 1) := by decide +kernel
theorem dX6_cookBehind_15 : decode cX6_cookBehind 15 = .ok (.invokevirtual 71, 3) := by decide +kernel
theorem dX6_cookBehind_18 : decode cX6_cookBehind 18 = .ok (.aload_n 0, 1) := by decide +kernel
theorem dX6_cookBehind_19 : decode cX6_cookBehind 19 = .ok (.aload_n 1, 1) := by decide +kernel
theorem dX6_cookBehind_20 : decode cX6_cookBehind 20 = .ok (.iload_n 2, 1) := by decide +kernel
theorem dX6_cookBehind_21 : decode cX6_cookBehind 21 = .ok (.iload_n 3, 1) := by decide +kernel
theorem dX6_cookBehind_22 : decode cX6_cookBehind 22 = .ok (.aload_n 0, 1) := by decide +kernel
theorem dX6_cookBehind_23 : decode cX6_cookBehind 23 = .ok (.aload_n 1, 1) := by decide +kernel
theorem dX6_cookBehind_24 : decode cX6_cookBehind 24 = .ok (.iconst 2, 1) := by decide +kernel
theorem dX6_cookBehind_25 : decode cX6_cookBehind 25 = .ok (.invokevirtual 67, 3) := by decide +kernel
theorem dX6_cookBehind_28 : decode cX6_cookBehind 28 = .ok (.invokevirtual 82, 3) := by decide +kernel
theorem dX6_cookBehind_31 : decode cX6_cookBehind 31 = .ok (.aload_n 0, 1) := by decide +kernel
theorem dX6_cookBehind_32 : decode cX6_cookBehind 32 = .ok (.aload_n 1, 1) := by decide +kernel
theorem dX6_cookBehind_33 : decode cX6_cookBehind 33 = .ok (.iconst 1, 1) := by decide +kernel
theorem dX6_cookBehind_34 : decode cX6_cookBehind 34 = .ok (.iload_n 3, 1) := by decide +kernel
theorem dX6_cookBehind_35 : decode cX6_cookBehind 35 = .ok (.ineg, 1) := by decide +kernel
theorem dX6_cookBehind_36 : decode cX6_cookBehind 36 = .ok (.invokevirtual 71, 3) := by decide +kernel
theorem dX6_cookBehind_39 : decode cX6_cookBehind 39 = .ok (.iinc 3 (-1), 3) := by decide +kernel
theorem dX6_cookBehind_42 : decode cX6_cookBehind 42 = .ok (.goto (-35), 3) := by decide +kernel
theorem dX6_cookBehind_45 : decode cX6_cookBehind 45 = .ok (.return_, 1) := by decide +kernel
set_option maxHeartbeats 2000000 in
set_option maxRecDepth 100000 in
theorem c_X6_cookBehind (l : Launch) (D : va_G) (q : Nat → ClassId) (ad : Nat → Nat) (τ0 : Int32) (τ1 : Int64) (τ2 : Int32) (τ3 : Nat → Int32) (τ4 : Nat → Int32) (τ5 : Nat → Int32) (sd : Nat → Nat) (X : Nat → Nat → Int32) (S : Nat → Nat → Int32) (a : Int32) (hT : okT X S) : xC l yX6_cookBehind wsX6_cookBehind ({ frames := 4, cells := 0, slots := 0, locals := 90 }) D (TY q) [w6 q ad τ0 τ1 τ2 τ3 τ4 τ5, wst q sd X] [.ref (ad 0), .ref (sd 0), .int a] (xQv D (TY q) (fun (_ : Unit) => True) (fun _ => [w6 q ad τ0 τ1 (xcIn (tn (S 15 0)) (X 15) τ3 (tn (S 16 1)) (tn (S 17 1)) (tn (S 16 2)) (tn (S 17 2)) a (if (tn (S 15 0)) ≤ 1 then nI 0 else xmo τ3 (tn (S 16 1)) (tn (S 17 1))) (τ2, τ4) ((if (tn (S 15 0)) ≤ 1 then nI 0 else xmo τ3 (tn (S 16 1)) (tn (S 17 1))).toInt + 1).toNat).1 τ3 (xcIn (tn (S 15 0)) (X 15) τ3 (tn (S 16 1)) (tn (S 17 1)) (tn (S 16 2)) (tn (S 17 2)) a (if (tn (S 15 0)) ≤ 1 then nI 0 else xmo τ3 (tn (S 16 1)) (tn (S 17 1))) (τ2, τ4) ((if (tn (S 15 0)) ≤ 1 then nI 0 else xmo τ3 (tn (S 16 1)) (tn (S 17 1))).toInt + 1).toNat).2 τ5, wst q sd X])) 0 0 := by
  refine x_enter (cc := cX6_cookBehind) (maxL := 4) (ret := none) (by decide) rfl (Nat.le_of_ble_eq_true rfl) ?_
  intro p e s m below meth c A ls H locs hfix hr hlocks hinit hM hl
  obtain ⟨hx, hb, hml, hown, hts⟩ := id hfix
  have hl : lv_has ls 4 [(0, .ref (ad 0)), (1, .ref (sd 0)), (2, .int a)] := hl
  refine lv_aload_n hx hb dX6_cookBehind_0 rfl (lv_at hl 0 rfl) ?_
  refine lv_aload_n hx hb dX6_cookBehind_1 rfl (lv_at hl 1 rfl) ?_
  refine lv_iconst (v := nI 1) hx hb dX6_cookBehind_2 (by decide) ?_
  refine x_calli (bc := [w6 q ad τ0 τ1 τ2 τ3 τ4 τ5, wst q sd X]) (br := []) hM [0, 1] [] rfl rfl rfl (by decide) (x_runV (As := [.ref (sd 0), .int (nI 1)]) (rest := []) hfix (c_X6_mostOf l D q ad τ0 τ1 τ2 τ3 τ4 τ5 sd X S 1 hT (by omega)) (cwV 2 hts gX6_cookBehind_X6_mostOf rfl rfl rfl (by decide +kernel) ⟨Nat.le_of_ble_eq_true rfl, Nat.le_of_ble_eq_true rfl⟩) hM [0, 1] rfl rfl 0 0 rfl rfl rfl rfl rfl hl.1 rfl (Nat.le_of_ble_eq_true rfl) dX6_cookBehind_3 ⟨Nat.le_of_ble_eq_true rfl, Nat.le_of_ble_eq_true rfl⟩) (fun r u H locs hq hM => ?_)
  subst hq
  have hM : xM D (TY q) [w6 q ad τ0 τ1 τ2 τ3 τ4 τ5, wst q sd X] A s.heap s H locs := hM
  refine lv_istore_n (lv' := [(3, .int (if (tn (S 15 0)) ≤ 1 then nI 0 else xmo τ3 (tn (S 16 1)) (tn (S 17 1)))), (0, .ref (ad 0)), (1, .ref (sd 0)), (2, .int a)]) hx hb dX6_cookBehind_6 rfl hl (by decide) rfl (fun ls hl => ?_)
  have e2 : ((τ2) : Int32) = ((xcIn (tn (S 15 0)) (X 15) τ3 (tn (S 16 1)) (tn (S 17 1)) (tn (S 16 2)) (tn (S 17 2)) a (if (tn (S 15 0)) ≤ 1 then nI 0 else xmo τ3 (tn (S 16 1)) (tn (S 17 1))) (τ2, τ4) 0).1) := by rfl
  have hM : xM D (TY q) [w6 q ad τ0 τ1 (xcIn (tn (S 15 0)) (X 15) τ3 (tn (S 16 1)) (tn (S 17 1)) (tn (S 16 2)) (tn (S 17 2)) a (if (tn (S 15 0)) ≤ 1 then nI 0 else xmo τ3 (tn (S 16 1)) (tn (S 17 1))) (τ2, τ4) 0).1 τ3 τ4 τ5, wst q sd X] A s.heap s H locs := Eq.mp (congrArg (fun z9 => xM D (TY q) [w6 q ad τ0 τ1 z9 τ3 τ4 τ5, wst q sd X] A s.heap s H locs) e2) hM
  have e3 : ((τ4) : Nat → Int32) = ((xcIn (tn (S 15 0)) (X 15) τ3 (tn (S 16 1)) (tn (S 17 1)) (tn (S 16 2)) (tn (S 17 2)) a (if (tn (S 15 0)) ≤ 1 then nI 0 else xmo τ3 (tn (S 16 1)) (tn (S 17 1))) (τ2, τ4) 0).2) := by rfl
  have hM : xM D (TY q) [w6 q ad τ0 τ1 (xcIn (tn (S 15 0)) (X 15) τ3 (tn (S 16 1)) (tn (S 17 1)) (tn (S 16 2)) (tn (S 17 2)) a (if (tn (S 15 0)) ≤ 1 then nI 0 else xmo τ3 (tn (S 16 1)) (tn (S 17 1))) (τ2, τ4) 0).1 τ3 (xcIn (tn (S 15 0)) (X 15) τ3 (tn (S 16 1)) (tn (S 17 1)) (tn (S 16 2)) (tn (S 17 2)) a (if (tn (S 15 0)) ≤ 1 then nI 0 else xmo τ3 (tn (S 16 1)) (tn (S 17 1))) (τ2, τ4) 0).2 τ5, wst q sd X] A s.heap s H locs := Eq.mp (congrArg (fun z9 => xM D (TY q) [w6 q ad τ0 τ1 (xcIn (tn (S 15 0)) (X 15) τ3 (tn (S 16 1)) (tn (S 17 1)) (tn (S 16 2)) (tn (S 17 2)) a (if (tn (S 15 0)) ≤ 1 then nI 0 else xmo τ3 (tn (S 16 1)) (tn (S 17 1))) (τ2, τ4) 0).1 τ3 z9 τ5, wst q sd X] A s.heap s H locs) e3) hM
  refine x_loop (ι := Nat) (fun t => [(0, .ref (ad 0)), (1, .ref (sd 0)), (2, .int a), (3, .int ((if (tn (S 15 0)) ≤ 1 then nI 0 else xmo τ3 (tn (S 16 1)) (tn (S 17 1))) - nI t))]) (fun t => [w6 q ad τ0 τ1 (xcIn (tn (S 15 0)) (X 15) τ3 (tn (S 16 1)) (tn (S 17 1)) (tn (S 16 2)) (tn (S 17 2)) a (if (tn (S 15 0)) ≤ 1 then nI 0 else xmo τ3 (tn (S 16 1)) (tn (S 17 1))) (τ2, τ4) t).1 τ3 (xcIn (tn (S 15 0)) (X 15) τ3 (tn (S 16 1)) (tn (S 17 1)) (tn (S 16 2)) (tn (S 17 2)) a (if (tn (S 15 0)) ≤ 1 then nI 0 else xmo τ3 (tn (S 16 1)) (tn (S 17 1))) (τ2, τ4) t).2 τ5, wst q sd X]) (fun t => (t = 0 ∨ (t : Int) ≤ ((if (tn (S 15 0)) ≤ 1 then nI 0 else xmo τ3 (tn (S 16 1)) (tn (S 17 1)))).toInt + 1)) (fun t => (((if (tn (S 15 0)) ≤ 1 then nI 0 else xmo τ3 (tn (S 16 1)) (tn (S 17 1)))).toInt + 1 - t).toNat) 0 (Or.inl rfl) hM (lv_sub hl [1, 2, 3, 0] (by rw [nI_0, Int32.sub_zero]; rfl)) ?_
  intro t hI5 ih4 H locs hM ls hl
  have hM : xM D (TY q) [w6 q ad τ0 τ1 (xcIn (tn (S 15 0)) (X 15) τ3 (tn (S 16 1)) (tn (S 17 1)) (tn (S 16 2)) (tn (S 17 2)) a (if (tn (S 15 0)) ≤ 1 then nI 0 else xmo τ3 (tn (S 16 1)) (tn (S 17 1))) (τ2, τ4) t).1 τ3 (xcIn (tn (S 15 0)) (X 15) τ3 (tn (S 16 1)) (tn (S 17 1)) (tn (S 16 2)) (tn (S 17 2)) a (if (tn (S 15 0)) ≤ 1 then nI 0 else xmo τ3 (tn (S 16 1)) (tn (S 17 1))) (τ2, τ4) t).2 τ5, wst q sd X] A s.heap s H locs := hM
  have hl : lv_has ls 4 [(0, .ref (ad 0)), (1, .ref (sd 0)), (2, .int a), (3, .int ((if (tn (S 15 0)) ≤ 1 then nI 0 else xmo τ3 (tn (S 16 1)) (tn (S 17 1))) - nI t))] := hl
  have hI5 : (t = 0 ∨ (t : Int) ≤ ((if (tn (S 15 0)) ≤ 1 then nI 0 else xmo τ3 (tn (S 16 1)) (tn (S 17 1)))).toInt + 1) := hI5
  have hT9 := hI5
  try dsimp only
  refine lv_iload_n hx hb dX6_cookBehind_7 rfl (lv_at hl 3 rfl) ?_
  refine lv_if_lt (tgt := 45) hx hb dX6_cookBehind_8 (by decide) (fun c6 => ?_) (fun c6 => ?_)
  · have e7 : (((xcIn (tn (S 15 0)) (X 15) τ3 (tn (S 16 1)) (tn (S 17 1)) (tn (S 16 2)) (tn (S 17 2)) a (if (tn (S 15 0)) ≤ 1 then nI 0 else xmo τ3 (tn (S 16 1)) (tn (S 17 1))) (τ2, τ4) t).1) : Int32) = ((xcIn (tn (S 15 0)) (X 15) τ3 (tn (S 16 1)) (tn (S 17 1)) (tn (S 16 2)) (tn (S 17 2)) a (if (tn (S 15 0)) ≤ 1 then nI 0 else xmo τ3 (tn (S 16 1)) (tn (S 17 1))) (τ2, τ4) ((if (tn (S 15 0)) ≤ 1 then nI 0 else xmo τ3 (tn (S 16 1)) (tn (S 17 1))).toInt + 1).toNat).1) := by (rw [xdn_end hT9 (by assumption)])
    have hM : xM D (TY q) [w6 q ad τ0 τ1 (xcIn (tn (S 15 0)) (X 15) τ3 (tn (S 16 1)) (tn (S 17 1)) (tn (S 16 2)) (tn (S 17 2)) a (if (tn (S 15 0)) ≤ 1 then nI 0 else xmo τ3 (tn (S 16 1)) (tn (S 17 1))) (τ2, τ4) ((if (tn (S 15 0)) ≤ 1 then nI 0 else xmo τ3 (tn (S 16 1)) (tn (S 17 1))).toInt + 1).toNat).1 τ3 (xcIn (tn (S 15 0)) (X 15) τ3 (tn (S 16 1)) (tn (S 17 1)) (tn (S 16 2)) (tn (S 17 2)) a (if (tn (S 15 0)) ≤ 1 then nI 0 else xmo τ3 (tn (S 16 1)) (tn (S 17 1))) (τ2, τ4) t).2 τ5, wst q sd X] A s.heap s H locs := Eq.mp (congrArg (fun z9 => xM D (TY q) [w6 q ad τ0 τ1 z9 τ3 (xcIn (tn (S 15 0)) (X 15) τ3 (tn (S 16 1)) (tn (S 17 1)) (tn (S 16 2)) (tn (S 17 2)) a (if (tn (S 15 0)) ≤ 1 then nI 0 else xmo τ3 (tn (S 16 1)) (tn (S 17 1))) (τ2, τ4) t).2 τ5, wst q sd X] A s.heap s H locs) e7) hM
    have e8 : (((xcIn (tn (S 15 0)) (X 15) τ3 (tn (S 16 1)) (tn (S 17 1)) (tn (S 16 2)) (tn (S 17 2)) a (if (tn (S 15 0)) ≤ 1 then nI 0 else xmo τ3 (tn (S 16 1)) (tn (S 17 1))) (τ2, τ4) t).2) : Nat → Int32) = ((xcIn (tn (S 15 0)) (X 15) τ3 (tn (S 16 1)) (tn (S 17 1)) (tn (S 16 2)) (tn (S 17 2)) a (if (tn (S 15 0)) ≤ 1 then nI 0 else xmo τ3 (tn (S 16 1)) (tn (S 17 1))) (τ2, τ4) ((if (tn (S 15 0)) ≤ 1 then nI 0 else xmo τ3 (tn (S 16 1)) (tn (S 17 1))).toInt + 1).toNat).2) := by (rw [xdn_end hT9 (by assumption)])
    have hM : xM D (TY q) [w6 q ad τ0 τ1 (xcIn (tn (S 15 0)) (X 15) τ3 (tn (S 16 1)) (tn (S 17 1)) (tn (S 16 2)) (tn (S 17 2)) a (if (tn (S 15 0)) ≤ 1 then nI 0 else xmo τ3 (tn (S 16 1)) (tn (S 17 1))) (τ2, τ4) ((if (tn (S 15 0)) ≤ 1 then nI 0 else xmo τ3 (tn (S 16 1)) (tn (S 17 1))).toInt + 1).toNat).1 τ3 (xcIn (tn (S 15 0)) (X 15) τ3 (tn (S 16 1)) (tn (S 17 1)) (tn (S 16 2)) (tn (S 17 2)) a (if (tn (S 15 0)) ≤ 1 then nI 0 else xmo τ3 (tn (S 16 1)) (tn (S 17 1))) (τ2, τ4) ((if (tn (S 15 0)) ≤ 1 then nI 0 else xmo τ3 (tn (S 16 1)) (tn (S 17 1))).toInt + 1).toNat).2 τ5, wst q sd X] A s.heap s H locs := Eq.mp (congrArg (fun z9 => xM D (TY q) [w6 q ad τ0 τ1 (xcIn (tn (S 15 0)) (X 15) τ3 (tn (S 16 1)) (tn (S 17 1)) (tn (S 16 2)) (tn (S 17 2)) a (if (tn (S 15 0)) ≤ 1 then nI 0 else xmo τ3 (tn (S 16 1)) (tn (S 17 1))) (τ2, τ4) ((if (tn (S 15 0)) ≤ 1 then nI 0 else xmo τ3 (tn (S 16 1)) (tn (S 17 1))).toInt + 1).toNat).1 τ3 z9 τ5, wst q sd X] A s.heap s H locs) e8) hM
    exact x_vret hx hb hr hlocks () hM trivial dX6_cookBehind_45
  · refine lv_aload_n hx hb dX6_cookBehind_11 rfl (lv_at hl 0 rfl) ?_
    refine lv_aload_n hx hb dX6_cookBehind_12 rfl (lv_at hl 1 rfl) ?_
    refine lv_iconst (v := nI 1) hx hb dX6_cookBehind_13 (by decide) ?_
    refine lv_iload_n hx hb dX6_cookBehind_14 rfl (lv_at hl 3 rfl) ?_
    refine x_callv (bc := [w6 q ad τ0 τ1 (xcIn (tn (S 15 0)) (X 15) τ3 (tn (S 16 1)) (tn (S 17 1)) (tn (S 16 2)) (tn (S 17 2)) a (if (tn (S 15 0)) ≤ 1 then nI 0 else xmo τ3 (tn (S 16 1)) (tn (S 17 1))) (τ2, τ4) t).1 τ3 (xcIn (tn (S 15 0)) (X 15) τ3 (tn (S 16 1)) (tn (S 17 1)) (tn (S 16 2)) (tn (S 17 2)) a (if (tn (S 15 0)) ≤ 1 then nI 0 else xmo τ3 (tn (S 16 1)) (tn (S 17 1))) (τ2, τ4) t).2 τ5, wst q sd X]) (br := []) hM [0, 1] [] rfl rfl rfl (by decide) (x_runV (As := [.ref (sd 0), .int (nI 1), .int ((if (tn (S 15 0)) ≤ 1 then nI 0 else xmo τ3 (tn (S 16 1)) (tn (S 17 1))) - nI t)]) (rest := []) hfix (c_X6_use l D q ad τ0 τ1 (xcIn (tn (S 15 0)) (X 15) τ3 (tn (S 16 1)) (tn (S 17 1)) (tn (S 16 2)) (tn (S 17 2)) a (if (tn (S 15 0)) ≤ 1 then nI 0 else xmo τ3 (tn (S 16 1)) (tn (S 17 1))) (τ2, τ4) t).1 τ3 (xcIn (tn (S 15 0)) (X 15) τ3 (tn (S 16 1)) (tn (S 17 1)) (tn (S 16 2)) (tn (S 17 2)) a (if (tn (S 15 0)) ≤ 1 then nI 0 else xmo τ3 (tn (S 16 1)) (tn (S 17 1))) (τ2, τ4) t).2 τ5 sd X S 1 ((if (tn (S 15 0)) ≤ 1 then nI 0 else xmo τ3 (tn (S 16 1)) (tn (S 17 1))) - nI t) hT (by omega)) (cwV 3 hts gX6_cookBehind_X6_use rfl rfl rfl (by decide +kernel) ⟨Nat.le_of_ble_eq_true rfl, Nat.le_of_ble_eq_true rfl⟩) hM [0, 1] rfl rfl 0 0 rfl rfl rfl rfl rfl hl.1 rfl (Nat.le_of_ble_eq_true rfl) dX6_cookBehind_15 ⟨Nat.le_of_ble_eq_true rfl, Nat.le_of_ble_eq_true rfl⟩) (fun u H locs hq hM => ?_)
    have hM : xM D (TY q) [w6 q ad τ0 τ1 (xcIn (tn (S 15 0)) (X 15) τ3 (tn (S 16 1)) (tn (S 17 1)) (tn (S 16 2)) (tn (S 17 2)) a (if (tn (S 15 0)) ≤ 1 then nI 0 else xmo τ3 (tn (S 16 1)) (tn (S 17 1))) (τ2, τ4) t).1 (if (tn (S 15 0)) ≤ 1 then τ3 else xuse τ3 (tn (S 16 1)) (tn (S 17 1)) ((if (tn (S 15 0)) ≤ 1 then nI 0 else xmo τ3 (tn (S 16 1)) (tn (S 17 1))) - nI t)) (xcIn (tn (S 15 0)) (X 15) τ3 (tn (S 16 1)) (tn (S 17 1)) (tn (S 16 2)) (tn (S 17 2)) a (if (tn (S 15 0)) ≤ 1 then nI 0 else xmo τ3 (tn (S 16 1)) (tn (S 17 1))) (τ2, τ4) t).2 τ5, wst q sd X] A s.heap s H locs := hM
    refine lv_aload_n hx hb dX6_cookBehind_18 rfl (lv_at hl 0 rfl) ?_
    refine lv_aload_n hx hb dX6_cookBehind_19 rfl (lv_at hl 1 rfl) ?_
    refine lv_iload_n hx hb dX6_cookBehind_20 rfl (lv_at hl 2 rfl) ?_
    refine lv_iload_n hx hb dX6_cookBehind_21 rfl (lv_at hl 3 rfl) ?_
    refine lv_aload_n hx hb dX6_cookBehind_22 rfl (lv_at hl 0 rfl) ?_
    refine lv_aload_n hx hb dX6_cookBehind_23 rfl (lv_at hl 1 rfl) ?_
    refine lv_iconst (v := nI 2) hx hb dX6_cookBehind_24 (by decide) ?_
    refine x_calli (bc := [w6 q ad τ0 τ1 (xcIn (tn (S 15 0)) (X 15) τ3 (tn (S 16 1)) (tn (S 17 1)) (tn (S 16 2)) (tn (S 17 2)) a (if (tn (S 15 0)) ≤ 1 then nI 0 else xmo τ3 (tn (S 16 1)) (tn (S 17 1))) (τ2, τ4) t).1 (if (tn (S 15 0)) ≤ 1 then τ3 else xuse τ3 (tn (S 16 1)) (tn (S 17 1)) ((if (tn (S 15 0)) ≤ 1 then nI 0 else xmo τ3 (tn (S 16 1)) (tn (S 17 1))) - nI t)) (xcIn (tn (S 15 0)) (X 15) τ3 (tn (S 16 1)) (tn (S 17 1)) (tn (S 16 2)) (tn (S 17 2)) a (if (tn (S 15 0)) ≤ 1 then nI 0 else xmo τ3 (tn (S 16 1)) (tn (S 17 1))) (τ2, τ4) t).2 τ5, wst q sd X]) (br := []) hM [0, 1] [] rfl rfl rfl (by decide) (x_runV (As := [.ref (sd 0), .int (nI 2)]) (rest := [.int ((if (tn (S 15 0)) ≤ 1 then nI 0 else xmo τ3 (tn (S 16 1)) (tn (S 17 1))) - nI t), .int a, .ref (sd 0), .ref (ad 0)]) hfix (c_X6_mostOf l D q ad τ0 τ1 (xcIn (tn (S 15 0)) (X 15) τ3 (tn (S 16 1)) (tn (S 17 1)) (tn (S 16 2)) (tn (S 17 2)) a (if (tn (S 15 0)) ≤ 1 then nI 0 else xmo τ3 (tn (S 16 1)) (tn (S 17 1))) (τ2, τ4) t).1 (if (tn (S 15 0)) ≤ 1 then τ3 else xuse τ3 (tn (S 16 1)) (tn (S 17 1)) ((if (tn (S 15 0)) ≤ 1 then nI 0 else xmo τ3 (tn (S 16 1)) (tn (S 17 1))) - nI t)) (xcIn (tn (S 15 0)) (X 15) τ3 (tn (S 16 1)) (tn (S 17 1)) (tn (S 16 2)) (tn (S 17 2)) a (if (tn (S 15 0)) ≤ 1 then nI 0 else xmo τ3 (tn (S 16 1)) (tn (S 17 1))) (τ2, τ4) t).2 τ5 sd X S 2 hT (by omega)) (cwV 2 hts gX6_cookBehind_X6_mostOf rfl rfl rfl (by decide +kernel) ⟨Nat.le_of_ble_eq_true rfl, Nat.le_of_ble_eq_true rfl⟩) hM [0, 1] rfl rfl 0 0 rfl rfl rfl rfl rfl hl.1 rfl (Nat.le_of_ble_eq_true rfl) dX6_cookBehind_25 ⟨Nat.le_of_ble_eq_true rfl, Nat.le_of_ble_eq_true rfl⟩) (fun r u H locs hq hM => ?_)
    subst hq
    have hM : xM D (TY q) [w6 q ad τ0 τ1 (xcIn (tn (S 15 0)) (X 15) τ3 (tn (S 16 1)) (tn (S 17 1)) (tn (S 16 2)) (tn (S 17 2)) a (if (tn (S 15 0)) ≤ 1 then nI 0 else xmo τ3 (tn (S 16 1)) (tn (S 17 1))) (τ2, τ4) t).1 (if (tn (S 15 0)) ≤ 1 then τ3 else xuse τ3 (tn (S 16 1)) (tn (S 17 1)) ((if (tn (S 15 0)) ≤ 1 then nI 0 else xmo τ3 (tn (S 16 1)) (tn (S 17 1))) - nI t)) (xcIn (tn (S 15 0)) (X 15) τ3 (tn (S 16 1)) (tn (S 17 1)) (tn (S 16 2)) (tn (S 17 2)) a (if (tn (S 15 0)) ≤ 1 then nI 0 else xmo τ3 (tn (S 16 1)) (tn (S 17 1))) (τ2, τ4) t).2 τ5, wst q sd X] A s.heap s H locs := hM
    refine x_callv (bc := [w6 q ad τ0 τ1 (xcIn (tn (S 15 0)) (X 15) τ3 (tn (S 16 1)) (tn (S 17 1)) (tn (S 16 2)) (tn (S 17 2)) a (if (tn (S 15 0)) ≤ 1 then nI 0 else xmo τ3 (tn (S 16 1)) (tn (S 17 1))) (τ2, τ4) t).1 (if (tn (S 15 0)) ≤ 1 then τ3 else xuse τ3 (tn (S 16 1)) (tn (S 17 1)) ((if (tn (S 15 0)) ≤ 1 then nI 0 else xmo τ3 (tn (S 16 1)) (tn (S 17 1))) - nI t)) (xcIn (tn (S 15 0)) (X 15) τ3 (tn (S 16 1)) (tn (S 17 1)) (tn (S 16 2)) (tn (S 17 2)) a (if (tn (S 15 0)) ≤ 1 then nI 0 else xmo τ3 (tn (S 16 1)) (tn (S 17 1))) (τ2, τ4) t).2 τ5, wst q sd X]) (br := []) hM [0, 1] [] rfl rfl rfl (by decide) (x_runV (As := [.ref (sd 0), .int a, .int ((if (tn (S 15 0)) ≤ 1 then nI 0 else xmo τ3 (tn (S 16 1)) (tn (S 17 1))) - nI t), .int (if (tn (S 15 0)) ≤ 2 then nI 0 else xmo (if (tn (S 15 0)) ≤ 1 then τ3 else xuse τ3 (tn (S 16 1)) (tn (S 17 1)) ((if (tn (S 15 0)) ≤ 1 then nI 0 else xmo τ3 (tn (S 16 1)) (tn (S 17 1))) - nI t)) (tn (S 16 2)) (tn (S 17 2)))]) (rest := []) hfix (c_X6_tryWay l D q ad τ0 τ1 (xcIn (tn (S 15 0)) (X 15) τ3 (tn (S 16 1)) (tn (S 17 1)) (tn (S 16 2)) (tn (S 17 2)) a (if (tn (S 15 0)) ≤ 1 then nI 0 else xmo τ3 (tn (S 16 1)) (tn (S 17 1))) (τ2, τ4) t).1 (if (tn (S 15 0)) ≤ 1 then τ3 else xuse τ3 (tn (S 16 1)) (tn (S 17 1)) ((if (tn (S 15 0)) ≤ 1 then nI 0 else xmo τ3 (tn (S 16 1)) (tn (S 17 1))) - nI t)) (xcIn (tn (S 15 0)) (X 15) τ3 (tn (S 16 1)) (tn (S 17 1)) (tn (S 16 2)) (tn (S 17 2)) a (if (tn (S 15 0)) ≤ 1 then nI 0 else xmo τ3 (tn (S 16 1)) (tn (S 17 1))) (τ2, τ4) t).2 τ5 sd X a ((if (tn (S 15 0)) ≤ 1 then nI 0 else xmo τ3 (tn (S 16 1)) (tn (S 17 1))) - nI t) (if (tn (S 15 0)) ≤ 2 then nI 0 else xmo (if (tn (S 15 0)) ≤ 1 then τ3 else xuse τ3 (tn (S 16 1)) (tn (S 17 1)) ((if (tn (S 15 0)) ≤ 1 then nI 0 else xmo τ3 (tn (S 16 1)) (tn (S 17 1))) - nI t)) (tn (S 16 2)) (tn (S 17 2)))) (cwV 4 hts gX6_cookBehind_X6_tryWay rfl rfl rfl (by decide +kernel) ⟨Nat.le_of_ble_eq_true rfl, Nat.le_of_ble_eq_true rfl⟩) hM [0, 1] rfl rfl 0 0 rfl rfl rfl rfl rfl hl.1 rfl (Nat.le_of_ble_eq_true rfl) dX6_cookBehind_28 ⟨Nat.le_of_ble_eq_true rfl, Nat.le_of_ble_eq_true rfl⟩) (fun u H locs hq hM => ?_)
    have hM : xM D (TY q) [w6 q ad τ0 τ1 (xtw ((xcIn (tn (S 15 0)) (X 15) τ3 (tn (S 16 1)) (tn (S 17 1)) (tn (S 16 2)) (tn (S 17 2)) a (if (tn (S 15 0)) ≤ 1 then nI 0 else xmo τ3 (tn (S 16 1)) (tn (S 17 1))) (τ2, τ4) t).1, (xcIn (tn (S 15 0)) (X 15) τ3 (tn (S 16 1)) (tn (S 17 1)) (tn (S 16 2)) (tn (S 17 2)) a (if (tn (S 15 0)) ≤ 1 then nI 0 else xmo τ3 (tn (S 16 1)) (tn (S 17 1))) (τ2, τ4) t).2) (a * (X 15) 0 + ((if (tn (S 15 0)) ≤ 1 then nI 0 else xmo τ3 (tn (S 16 1)) (tn (S 17 1))) - nI t) * (X 15) 1 + (if (tn (S 15 0)) ≤ 2 then nI 0 else xmo (if (tn (S 15 0)) ≤ 1 then τ3 else xuse τ3 (tn (S 16 1)) (tn (S 17 1)) ((if (tn (S 15 0)) ≤ 1 then nI 0 else xmo τ3 (tn (S 16 1)) (tn (S 17 1))) - nI t)) (tn (S 16 2)) (tn (S 17 2))) * (X 15) 2) a ((if (tn (S 15 0)) ≤ 1 then nI 0 else xmo τ3 (tn (S 16 1)) (tn (S 17 1))) - nI t) (if (tn (S 15 0)) ≤ 2 then nI 0 else xmo (if (tn (S 15 0)) ≤ 1 then τ3 else xuse τ3 (tn (S 16 1)) (tn (S 17 1)) ((if (tn (S 15 0)) ≤ 1 then nI 0 else xmo τ3 (tn (S 16 1)) (tn (S 17 1))) - nI t)) (tn (S 16 2)) (tn (S 17 2)))).1 (if (tn (S 15 0)) ≤ 1 then τ3 else xuse τ3 (tn (S 16 1)) (tn (S 17 1)) ((if (tn (S 15 0)) ≤ 1 then nI 0 else xmo τ3 (tn (S 16 1)) (tn (S 17 1))) - nI t)) (xtw ((xcIn (tn (S 15 0)) (X 15) τ3 (tn (S 16 1)) (tn (S 17 1)) (tn (S 16 2)) (tn (S 17 2)) a (if (tn (S 15 0)) ≤ 1 then nI 0 else xmo τ3 (tn (S 16 1)) (tn (S 17 1))) (τ2, τ4) t).1, (xcIn (tn (S 15 0)) (X 15) τ3 (tn (S 16 1)) (tn (S 17 1)) (tn (S 16 2)) (tn (S 17 2)) a (if (tn (S 15 0)) ≤ 1 then nI 0 else xmo τ3 (tn (S 16 1)) (tn (S 17 1))) (τ2, τ4) t).2) (a * (X 15) 0 + ((if (tn (S 15 0)) ≤ 1 then nI 0 else xmo τ3 (tn (S 16 1)) (tn (S 17 1))) - nI t) * (X 15) 1 + (if (tn (S 15 0)) ≤ 2 then nI 0 else xmo (if (tn (S 15 0)) ≤ 1 then τ3 else xuse τ3 (tn (S 16 1)) (tn (S 17 1)) ((if (tn (S 15 0)) ≤ 1 then nI 0 else xmo τ3 (tn (S 16 1)) (tn (S 17 1))) - nI t)) (tn (S 16 2)) (tn (S 17 2))) * (X 15) 2) a ((if (tn (S 15 0)) ≤ 1 then nI 0 else xmo τ3 (tn (S 16 1)) (tn (S 17 1))) - nI t) (if (tn (S 15 0)) ≤ 2 then nI 0 else xmo (if (tn (S 15 0)) ≤ 1 then τ3 else xuse τ3 (tn (S 16 1)) (tn (S 17 1)) ((if (tn (S 15 0)) ≤ 1 then nI 0 else xmo τ3 (tn (S 16 1)) (tn (S 17 1))) - nI t)) (tn (S 16 2)) (tn (S 17 2)))).2 τ5, wst q sd X] A s.heap s H locs := hM
    refine lv_aload_n hx hb dX6_cookBehind_31 rfl (lv_at hl 0 rfl) ?_
    refine lv_aload_n hx hb dX6_cookBehind_32 rfl (lv_at hl 1 rfl) ?_
    refine lv_iconst (v := nI 1) hx hb dX6_cookBehind_33 (by decide) ?_
    refine lv_iload_n hx hb dX6_cookBehind_34 rfl (lv_at hl 3 rfl) ?_
    refine lv_ineg hx hb dX6_cookBehind_35 ?_
    refine x_callv (bc := [w6 q ad τ0 τ1 (xtw ((xcIn (tn (S 15 0)) (X 15) τ3 (tn (S 16 1)) (tn (S 17 1)) (tn (S 16 2)) (tn (S 17 2)) a (if (tn (S 15 0)) ≤ 1 then nI 0 else xmo τ3 (tn (S 16 1)) (tn (S 17 1))) (τ2, τ4) t).1, (xcIn (tn (S 15 0)) (X 15) τ3 (tn (S 16 1)) (tn (S 17 1)) (tn (S 16 2)) (tn (S 17 2)) a (if (tn (S 15 0)) ≤ 1 then nI 0 else xmo τ3 (tn (S 16 1)) (tn (S 17 1))) (τ2, τ4) t).2) (a * (X 15) 0 + ((if (tn (S 15 0)) ≤ 1 then nI 0 else xmo τ3 (tn (S 16 1)) (tn (S 17 1))) - nI t) * (X 15) 1 + (if (tn (S 15 0)) ≤ 2 then nI 0 else xmo (if (tn (S 15 0)) ≤ 1 then τ3 else xuse τ3 (tn (S 16 1)) (tn (S 17 1)) ((if (tn (S 15 0)) ≤ 1 then nI 0 else xmo τ3 (tn (S 16 1)) (tn (S 17 1))) - nI t)) (tn (S 16 2)) (tn (S 17 2))) * (X 15) 2) a ((if (tn (S 15 0)) ≤ 1 then nI 0 else xmo τ3 (tn (S 16 1)) (tn (S 17 1))) - nI t) (if (tn (S 15 0)) ≤ 2 then nI 0 else xmo (if (tn (S 15 0)) ≤ 1 then τ3 else xuse τ3 (tn (S 16 1)) (tn (S 17 1)) ((if (tn (S 15 0)) ≤ 1 then nI 0 else xmo τ3 (tn (S 16 1)) (tn (S 17 1))) - nI t)) (tn (S 16 2)) (tn (S 17 2)))).1 (if (tn (S 15 0)) ≤ 1 then τ3 else xuse τ3 (tn (S 16 1)) (tn (S 17 1)) ((if (tn (S 15 0)) ≤ 1 then nI 0 else xmo τ3 (tn (S 16 1)) (tn (S 17 1))) - nI t)) (xtw ((xcIn (tn (S 15 0)) (X 15) τ3 (tn (S 16 1)) (tn (S 17 1)) (tn (S 16 2)) (tn (S 17 2)) a (if (tn (S 15 0)) ≤ 1 then nI 0 else xmo τ3 (tn (S 16 1)) (tn (S 17 1))) (τ2, τ4) t).1, (xcIn (tn (S 15 0)) (X 15) τ3 (tn (S 16 1)) (tn (S 17 1)) (tn (S 16 2)) (tn (S 17 2)) a (if (tn (S 15 0)) ≤ 1 then nI 0 else xmo τ3 (tn (S 16 1)) (tn (S 17 1))) (τ2, τ4) t).2) (a * (X 15) 0 + ((if (tn (S 15 0)) ≤ 1 then nI 0 else xmo τ3 (tn (S 16 1)) (tn (S 17 1))) - nI t) * (X 15) 1 + (if (tn (S 15 0)) ≤ 2 then nI 0 else xmo (if (tn (S 15 0)) ≤ 1 then τ3 else xuse τ3 (tn (S 16 1)) (tn (S 17 1)) ((if (tn (S 15 0)) ≤ 1 then nI 0 else xmo τ3 (tn (S 16 1)) (tn (S 17 1))) - nI t)) (tn (S 16 2)) (tn (S 17 2))) * (X 15) 2) a ((if (tn (S 15 0)) ≤ 1 then nI 0 else xmo τ3 (tn (S 16 1)) (tn (S 17 1))) - nI t) (if (tn (S 15 0)) ≤ 2 then nI 0 else xmo (if (tn (S 15 0)) ≤ 1 then τ3 else xuse τ3 (tn (S 16 1)) (tn (S 17 1)) ((if (tn (S 15 0)) ≤ 1 then nI 0 else xmo τ3 (tn (S 16 1)) (tn (S 17 1))) - nI t)) (tn (S 16 2)) (tn (S 17 2)))).2 τ5, wst q sd X]) (br := []) hM [0, 1] [] rfl rfl rfl (by decide) (x_runV (As := [.ref (sd 0), .int (nI 1), .int (-((if (tn (S 15 0)) ≤ 1 then nI 0 else xmo τ3 (tn (S 16 1)) (tn (S 17 1))) - nI t))]) (rest := []) hfix (c_X6_use l D q ad τ0 τ1 (xtw ((xcIn (tn (S 15 0)) (X 15) τ3 (tn (S 16 1)) (tn (S 17 1)) (tn (S 16 2)) (tn (S 17 2)) a (if (tn (S 15 0)) ≤ 1 then nI 0 else xmo τ3 (tn (S 16 1)) (tn (S 17 1))) (τ2, τ4) t).1, (xcIn (tn (S 15 0)) (X 15) τ3 (tn (S 16 1)) (tn (S 17 1)) (tn (S 16 2)) (tn (S 17 2)) a (if (tn (S 15 0)) ≤ 1 then nI 0 else xmo τ3 (tn (S 16 1)) (tn (S 17 1))) (τ2, τ4) t).2) (a * (X 15) 0 + ((if (tn (S 15 0)) ≤ 1 then nI 0 else xmo τ3 (tn (S 16 1)) (tn (S 17 1))) - nI t) * (X 15) 1 + (if (tn (S 15 0)) ≤ 2 then nI 0 else xmo (if (tn (S 15 0)) ≤ 1 then τ3 else xuse τ3 (tn (S 16 1)) (tn (S 17 1)) ((if (tn (S 15 0)) ≤ 1 then nI 0 else xmo τ3 (tn (S 16 1)) (tn (S 17 1))) - nI t)) (tn (S 16 2)) (tn (S 17 2))) * (X 15) 2) a ((if (tn (S 15 0)) ≤ 1 then nI 0 else xmo τ3 (tn (S 16 1)) (tn (S 17 1))) - nI t) (if (tn (S 15 0)) ≤ 2 then nI 0 else xmo (if (tn (S 15 0)) ≤ 1 then τ3 else xuse τ3 (tn (S 16 1)) (tn (S 17 1)) ((if (tn (S 15 0)) ≤ 1 then nI 0 else xmo τ3 (tn (S 16 1)) (tn (S 17 1))) - nI t)) (tn (S 16 2)) (tn (S 17 2)))).1 (if (tn (S 15 0)) ≤ 1 then τ3 else xuse τ3 (tn (S 16 1)) (tn (S 17 1)) ((if (tn (S 15 0)) ≤ 1 then nI 0 else xmo τ3 (tn (S 16 1)) (tn (S 17 1))) - nI t)) (xtw ((xcIn (tn (S 15 0)) (X 15) τ3 (tn (S 16 1)) (tn (S 17 1)) (tn (S 16 2)) (tn (S 17 2)) a (if (tn (S 15 0)) ≤ 1 then nI 0 else xmo τ3 (tn (S 16 1)) (tn (S 17 1))) (τ2, τ4) t).1, (xcIn (tn (S 15 0)) (X 15) τ3 (tn (S 16 1)) (tn (S 17 1)) (tn (S 16 2)) (tn (S 17 2)) a (if (tn (S 15 0)) ≤ 1 then nI 0 else xmo τ3 (tn (S 16 1)) (tn (S 17 1))) (τ2, τ4) t).2) (a * (X 15) 0 + ((if (tn (S 15 0)) ≤ 1 then nI 0 else xmo τ3 (tn (S 16 1)) (tn (S 17 1))) - nI t) * (X 15) 1 + (if (tn (S 15 0)) ≤ 2 then nI 0 else xmo (if (tn (S 15 0)) ≤ 1 then τ3 else xuse τ3 (tn (S 16 1)) (tn (S 17 1)) ((if (tn (S 15 0)) ≤ 1 then nI 0 else xmo τ3 (tn (S 16 1)) (tn (S 17 1))) - nI t)) (tn (S 16 2)) (tn (S 17 2))) * (X 15) 2) a ((if (tn (S 15 0)) ≤ 1 then nI 0 else xmo τ3 (tn (S 16 1)) (tn (S 17 1))) - nI t) (if (tn (S 15 0)) ≤ 2 then nI 0 else xmo (if (tn (S 15 0)) ≤ 1 then τ3 else xuse τ3 (tn (S 16 1)) (tn (S 17 1)) ((if (tn (S 15 0)) ≤ 1 then nI 0 else xmo τ3 (tn (S 16 1)) (tn (S 17 1))) - nI t)) (tn (S 16 2)) (tn (S 17 2)))).2 τ5 sd X S 1 (-((if (tn (S 15 0)) ≤ 1 then nI 0 else xmo τ3 (tn (S 16 1)) (tn (S 17 1))) - nI t)) hT (by omega)) (cwV 3 hts gX6_cookBehind_X6_use rfl rfl rfl (by decide +kernel) ⟨Nat.le_of_ble_eq_true rfl, Nat.le_of_ble_eq_true rfl⟩) hM [0, 1] rfl rfl 0 0 rfl rfl rfl rfl rfl hl.1 rfl (Nat.le_of_ble_eq_true rfl) dX6_cookBehind_36 ⟨Nat.le_of_ble_eq_true rfl, Nat.le_of_ble_eq_true rfl⟩) (fun u H locs hq hM => ?_)
    have hM : xM D (TY q) [w6 q ad τ0 τ1 (xtw ((xcIn (tn (S 15 0)) (X 15) τ3 (tn (S 16 1)) (tn (S 17 1)) (tn (S 16 2)) (tn (S 17 2)) a (if (tn (S 15 0)) ≤ 1 then nI 0 else xmo τ3 (tn (S 16 1)) (tn (S 17 1))) (τ2, τ4) t).1, (xcIn (tn (S 15 0)) (X 15) τ3 (tn (S 16 1)) (tn (S 17 1)) (tn (S 16 2)) (tn (S 17 2)) a (if (tn (S 15 0)) ≤ 1 then nI 0 else xmo τ3 (tn (S 16 1)) (tn (S 17 1))) (τ2, τ4) t).2) (a * (X 15) 0 + ((if (tn (S 15 0)) ≤ 1 then nI 0 else xmo τ3 (tn (S 16 1)) (tn (S 17 1))) - nI t) * (X 15) 1 + (if (tn (S 15 0)) ≤ 2 then nI 0 else xmo (if (tn (S 15 0)) ≤ 1 then τ3 else xuse τ3 (tn (S 16 1)) (tn (S 17 1)) ((if (tn (S 15 0)) ≤ 1 then nI 0 else xmo τ3 (tn (S 16 1)) (tn (S 17 1))) - nI t)) (tn (S 16 2)) (tn (S 17 2))) * (X 15) 2) a ((if (tn (S 15 0)) ≤ 1 then nI 0 else xmo τ3 (tn (S 16 1)) (tn (S 17 1))) - nI t) (if (tn (S 15 0)) ≤ 2 then nI 0 else xmo (if (tn (S 15 0)) ≤ 1 then τ3 else xuse τ3 (tn (S 16 1)) (tn (S 17 1)) ((if (tn (S 15 0)) ≤ 1 then nI 0 else xmo τ3 (tn (S 16 1)) (tn (S 17 1))) - nI t)) (tn (S 16 2)) (tn (S 17 2)))).1 (if (tn (S 15 0)) ≤ 1 then (if (tn (S 15 0)) ≤ 1 then τ3 else xuse τ3 (tn (S 16 1)) (tn (S 17 1)) ((if (tn (S 15 0)) ≤ 1 then nI 0 else xmo τ3 (tn (S 16 1)) (tn (S 17 1))) - nI t)) else xuse (if (tn (S 15 0)) ≤ 1 then τ3 else xuse τ3 (tn (S 16 1)) (tn (S 17 1)) ((if (tn (S 15 0)) ≤ 1 then nI 0 else xmo τ3 (tn (S 16 1)) (tn (S 17 1))) - nI t)) (tn (S 16 1)) (tn (S 17 1)) (-((if (tn (S 15 0)) ≤ 1 then nI 0 else xmo τ3 (tn (S 16 1)) (tn (S 17 1))) - nI t))) (xtw ((xcIn (tn (S 15 0)) (X 15) τ3 (tn (S 16 1)) (tn (S 17 1)) (tn (S 16 2)) (tn (S 17 2)) a (if (tn (S 15 0)) ≤ 1 then nI 0 else xmo τ3 (tn (S 16 1)) (tn (S 17 1))) (τ2, τ4) t).1, (xcIn (tn (S 15 0)) (X 15) τ3 (tn (S 16 1)) (tn (S 17 1)) (tn (S 16 2)) (tn (S 17 2)) a (if (tn (S 15 0)) ≤ 1 then nI 0 else xmo τ3 (tn (S 16 1)) (tn (S 17 1))) (τ2, τ4) t).2) (a * (X 15) 0 + ((if (tn (S 15 0)) ≤ 1 then nI 0 else xmo τ3 (tn (S 16 1)) (tn (S 17 1))) - nI t) * (X 15) 1 + (if (tn (S 15 0)) ≤ 2 then nI 0 else xmo (if (tn (S 15 0)) ≤ 1 then τ3 else xuse τ3 (tn (S 16 1)) (tn (S 17 1)) ((if (tn (S 15 0)) ≤ 1 then nI 0 else xmo τ3 (tn (S 16 1)) (tn (S 17 1))) - nI t)) (tn (S 16 2)) (tn (S 17 2))) * (X 15) 2) a ((if (tn (S 15 0)) ≤ 1 then nI 0 else xmo τ3 (tn (S 16 1)) (tn (S 17 1))) - nI t) (if (tn (S 15 0)) ≤ 2 then nI 0 else xmo (if (tn (S 15 0)) ≤ 1 then τ3 else xuse τ3 (tn (S 16 1)) (tn (S 17 1)) ((if (tn (S 15 0)) ≤ 1 then nI 0 else xmo τ3 (tn (S 16 1)) (tn (S 17 1))) - nI t)) (tn (S 16 2)) (tn (S 17 2)))).2 τ5, wst q sd X] A s.heap s H locs := hM
    refine lv_iinc (v := (if (tn (S 15 0)) ≤ 1 then nI 0 else xmo τ3 (tn (S 16 1)) (tn (S 17 1))) - nI t + (-1)) (lv' := [(3, .int ((if (tn (S 15 0)) ≤ 1 then nI 0 else xmo τ3 (tn (S 16 1)) (tn (S 17 1))) - nI t + (-1))), (0, .ref (ad 0)), (1, .ref (sd 0)), (2, .int a)]) hx hb dX6_cookBehind_39 hl (k := 3) rfl rfl (by decide) rfl (fun ls hl => ?_)
    refine lv_goto (tgt := 7) hx hb dX6_cookBehind_42 (by decide) ?_
    have e9 : (((xtw ((xcIn (tn (S 15 0)) (X 15) τ3 (tn (S 16 1)) (tn (S 17 1)) (tn (S 16 2)) (tn (S 17 2)) a (if (tn (S 15 0)) ≤ 1 then nI 0 else xmo τ3 (tn (S 16 1)) (tn (S 17 1))) (τ2, τ4) t).1, (xcIn (tn (S 15 0)) (X 15) τ3 (tn (S 16 1)) (tn (S 17 1)) (tn (S 16 2)) (tn (S 17 2)) a (if (tn (S 15 0)) ≤ 1 then nI 0 else xmo τ3 (tn (S 16 1)) (tn (S 17 1))) (τ2, τ4) t).2) (a * (X 15) 0 + ((if (tn (S 15 0)) ≤ 1 then nI 0 else xmo τ3 (tn (S 16 1)) (tn (S 17 1))) - nI t) * (X 15) 1 + (if (tn (S 15 0)) ≤ 2 then nI 0 else xmo (if (tn (S 15 0)) ≤ 1 then τ3 else xuse τ3 (tn (S 16 1)) (tn (S 17 1)) ((if (tn (S 15 0)) ≤ 1 then nI 0 else xmo τ3 (tn (S 16 1)) (tn (S 17 1))) - nI t)) (tn (S 16 2)) (tn (S 17 2))) * (X 15) 2) a ((if (tn (S 15 0)) ≤ 1 then nI 0 else xmo τ3 (tn (S 16 1)) (tn (S 17 1))) - nI t) (if (tn (S 15 0)) ≤ 2 then nI 0 else xmo (if (tn (S 15 0)) ≤ 1 then τ3 else xuse τ3 (tn (S 16 1)) (tn (S 17 1)) ((if (tn (S 15 0)) ≤ 1 then nI 0 else xmo τ3 (tn (S 16 1)) (tn (S 17 1))) - nI t)) (tn (S 16 2)) (tn (S 17 2)))).1) : Int32) = ((xcIn (tn (S 15 0)) (X 15) τ3 (tn (S 16 1)) (tn (S 17 1)) (tn (S 16 2)) (tn (S 17 2)) a (if (tn (S 15 0)) ≤ 1 then nI 0 else xmo τ3 (tn (S 16 1)) (tn (S 17 1))) (τ2, τ4) (t + 1)).1) := by rfl
    have hM : xM D (TY q) [w6 q ad τ0 τ1 (xcIn (tn (S 15 0)) (X 15) τ3 (tn (S 16 1)) (tn (S 17 1)) (tn (S 16 2)) (tn (S 17 2)) a (if (tn (S 15 0)) ≤ 1 then nI 0 else xmo τ3 (tn (S 16 1)) (tn (S 17 1))) (τ2, τ4) (t + 1)).1 (if (tn (S 15 0)) ≤ 1 then (if (tn (S 15 0)) ≤ 1 then τ3 else xuse τ3 (tn (S 16 1)) (tn (S 17 1)) ((if (tn (S 15 0)) ≤ 1 then nI 0 else xmo τ3 (tn (S 16 1)) (tn (S 17 1))) - nI t)) else xuse (if (tn (S 15 0)) ≤ 1 then τ3 else xuse τ3 (tn (S 16 1)) (tn (S 17 1)) ((if (tn (S 15 0)) ≤ 1 then nI 0 else xmo τ3 (tn (S 16 1)) (tn (S 17 1))) - nI t)) (tn (S 16 1)) (tn (S 17 1)) (-((if (tn (S 15 0)) ≤ 1 then nI 0 else xmo τ3 (tn (S 16 1)) (tn (S 17 1))) - nI t))) (xtw ((xcIn (tn (S 15 0)) (X 15) τ3 (tn (S 16 1)) (tn (S 17 1)) (tn (S 16 2)) (tn (S 17 2)) a (if (tn (S 15 0)) ≤ 1 then nI 0 else xmo τ3 (tn (S 16 1)) (tn (S 17 1))) (τ2, τ4) t).1, (xcIn (tn (S 15 0)) (X 15) τ3 (tn (S 16 1)) (tn (S 17 1)) (tn (S 16 2)) (tn (S 17 2)) a (if (tn (S 15 0)) ≤ 1 then nI 0 else xmo τ3 (tn (S 16 1)) (tn (S 17 1))) (τ2, τ4) t).2) (a * (X 15) 0 + ((if (tn (S 15 0)) ≤ 1 then nI 0 else xmo τ3 (tn (S 16 1)) (tn (S 17 1))) - nI t) * (X 15) 1 + (if (tn (S 15 0)) ≤ 2 then nI 0 else xmo (if (tn (S 15 0)) ≤ 1 then τ3 else xuse τ3 (tn (S 16 1)) (tn (S 17 1)) ((if (tn (S 15 0)) ≤ 1 then nI 0 else xmo τ3 (tn (S 16 1)) (tn (S 17 1))) - nI t)) (tn (S 16 2)) (tn (S 17 2))) * (X 15) 2) a ((if (tn (S 15 0)) ≤ 1 then nI 0 else xmo τ3 (tn (S 16 1)) (tn (S 17 1))) - nI t) (if (tn (S 15 0)) ≤ 2 then nI 0 else xmo (if (tn (S 15 0)) ≤ 1 then τ3 else xuse τ3 (tn (S 16 1)) (tn (S 17 1)) ((if (tn (S 15 0)) ≤ 1 then nI 0 else xmo τ3 (tn (S 16 1)) (tn (S 17 1))) - nI t)) (tn (S 16 2)) (tn (S 17 2)))).2 τ5, wst q sd X] A s.heap s H locs := Eq.mp (congrArg (fun z9 => xM D (TY q) [w6 q ad τ0 τ1 z9 (if (tn (S 15 0)) ≤ 1 then (if (tn (S 15 0)) ≤ 1 then τ3 else xuse τ3 (tn (S 16 1)) (tn (S 17 1)) ((if (tn (S 15 0)) ≤ 1 then nI 0 else xmo τ3 (tn (S 16 1)) (tn (S 17 1))) - nI t)) else xuse (if (tn (S 15 0)) ≤ 1 then τ3 else xuse τ3 (tn (S 16 1)) (tn (S 17 1)) ((if (tn (S 15 0)) ≤ 1 then nI 0 else xmo τ3 (tn (S 16 1)) (tn (S 17 1))) - nI t)) (tn (S 16 1)) (tn (S 17 1)) (-((if (tn (S 15 0)) ≤ 1 then nI 0 else xmo τ3 (tn (S 16 1)) (tn (S 17 1))) - nI t))) (xtw ((xcIn (tn (S 15 0)) (X 15) τ3 (tn (S 16 1)) (tn (S 17 1)) (tn (S 16 2)) (tn (S 17 2)) a (if (tn (S 15 0)) ≤ 1 then nI 0 else xmo τ3 (tn (S 16 1)) (tn (S 17 1))) (τ2, τ4) t).1, (xcIn (tn (S 15 0)) (X 15) τ3 (tn (S 16 1)) (tn (S 17 1)) (tn (S 16 2)) (tn (S 17 2)) a (if (tn (S 15 0)) ≤ 1 then nI 0 else xmo τ3 (tn (S 16 1)) (tn (S 17 1))) (τ2, τ4) t).2) (a * (X 15) 0 + ((if (tn (S 15 0)) ≤ 1 then nI 0 else xmo τ3 (tn (S 16 1)) (tn (S 17 1))) - nI t) * (X 15) 1 + (if (tn (S 15 0)) ≤ 2 then nI 0 else xmo (if (tn (S 15 0)) ≤ 1 then τ3 else xuse τ3 (tn (S 16 1)) (tn (S 17 1)) ((if (tn (S 15 0)) ≤ 1 then nI 0 else xmo τ3 (tn (S 16 1)) (tn (S 17 1))) - nI t)) (tn (S 16 2)) (tn (S 17 2))) * (X 15) 2) a ((if (tn (S 15 0)) ≤ 1 then nI 0 else xmo τ3 (tn (S 16 1)) (tn (S 17 1))) - nI t) (if (tn (S 15 0)) ≤ 2 then nI 0 else xmo (if (tn (S 15 0)) ≤ 1 then τ3 else xuse τ3 (tn (S 16 1)) (tn (S 17 1)) ((if (tn (S 15 0)) ≤ 1 then nI 0 else xmo τ3 (tn (S 16 1)) (tn (S 17 1))) - nI t)) (tn (S 16 2)) (tn (S 17 2)))).2 τ5, wst q sd X] A s.heap s H locs) e9) hM
    have e10 : (((if (tn (S 15 0)) ≤ 1 then (if (tn (S 15 0)) ≤ 1 then τ3 else xuse τ3 (tn (S 16 1)) (tn (S 17 1)) ((if (tn (S 15 0)) ≤ 1 then nI 0 else xmo τ3 (tn (S 16 1)) (tn (S 17 1))) - nI t)) else xuse (if (tn (S 15 0)) ≤ 1 then τ3 else xuse τ3 (tn (S 16 1)) (tn (S 17 1)) ((if (tn (S 15 0)) ≤ 1 then nI 0 else xmo τ3 (tn (S 16 1)) (tn (S 17 1))) - nI t)) (tn (S 16 1)) (tn (S 17 1)) (-((if (tn (S 15 0)) ≤ 1 then nI 0 else xmo τ3 (tn (S 16 1)) (tn (S 17 1))) - nI t)))) : Nat → Int32) = (τ3) := by exact xuse_b
    have hM : xM D (TY q) [w6 q ad τ0 τ1 (xcIn (tn (S 15 0)) (X 15) τ3 (tn (S 16 1)) (tn (S 17 1)) (tn (S 16 2)) (tn (S 17 2)) a (if (tn (S 15 0)) ≤ 1 then nI 0 else xmo τ3 (tn (S 16 1)) (tn (S 17 1))) (τ2, τ4) (t + 1)).1 τ3 (xtw ((xcIn (tn (S 15 0)) (X 15) τ3 (tn (S 16 1)) (tn (S 17 1)) (tn (S 16 2)) (tn (S 17 2)) a (if (tn (S 15 0)) ≤ 1 then nI 0 else xmo τ3 (tn (S 16 1)) (tn (S 17 1))) (τ2, τ4) t).1, (xcIn (tn (S 15 0)) (X 15) τ3 (tn (S 16 1)) (tn (S 17 1)) (tn (S 16 2)) (tn (S 17 2)) a (if (tn (S 15 0)) ≤ 1 then nI 0 else xmo τ3 (tn (S 16 1)) (tn (S 17 1))) (τ2, τ4) t).2) (a * (X 15) 0 + ((if (tn (S 15 0)) ≤ 1 then nI 0 else xmo τ3 (tn (S 16 1)) (tn (S 17 1))) - nI t) * (X 15) 1 + (if (tn (S 15 0)) ≤ 2 then nI 0 else xmo (if (tn (S 15 0)) ≤ 1 then τ3 else xuse τ3 (tn (S 16 1)) (tn (S 17 1)) ((if (tn (S 15 0)) ≤ 1 then nI 0 else xmo τ3 (tn (S 16 1)) (tn (S 17 1))) - nI t)) (tn (S 16 2)) (tn (S 17 2))) * (X 15) 2) a ((if (tn (S 15 0)) ≤ 1 then nI 0 else xmo τ3 (tn (S 16 1)) (tn (S 17 1))) - nI t) (if (tn (S 15 0)) ≤ 2 then nI 0 else xmo (if (tn (S 15 0)) ≤ 1 then τ3 else xuse τ3 (tn (S 16 1)) (tn (S 17 1)) ((if (tn (S 15 0)) ≤ 1 then nI 0 else xmo τ3 (tn (S 16 1)) (tn (S 17 1))) - nI t)) (tn (S 16 2)) (tn (S 17 2)))).2 τ5, wst q sd X] A s.heap s H locs := Eq.mp (congrArg (fun z9 => xM D (TY q) [w6 q ad τ0 τ1 (xcIn (tn (S 15 0)) (X 15) τ3 (tn (S 16 1)) (tn (S 17 1)) (tn (S 16 2)) (tn (S 17 2)) a (if (tn (S 15 0)) ≤ 1 then nI 0 else xmo τ3 (tn (S 16 1)) (tn (S 17 1))) (τ2, τ4) (t + 1)).1 z9 (xtw ((xcIn (tn (S 15 0)) (X 15) τ3 (tn (S 16 1)) (tn (S 17 1)) (tn (S 16 2)) (tn (S 17 2)) a (if (tn (S 15 0)) ≤ 1 then nI 0 else xmo τ3 (tn (S 16 1)) (tn (S 17 1))) (τ2, τ4) t).1, (xcIn (tn (S 15 0)) (X 15) τ3 (tn (S 16 1)) (tn (S 17 1)) (tn (S 16 2)) (tn (S 17 2)) a (if (tn (S 15 0)) ≤ 1 then nI 0 else xmo τ3 (tn (S 16 1)) (tn (S 17 1))) (τ2, τ4) t).2) (a * (X 15) 0 + ((if (tn (S 15 0)) ≤ 1 then nI 0 else xmo τ3 (tn (S 16 1)) (tn (S 17 1))) - nI t) * (X 15) 1 + (if (tn (S 15 0)) ≤ 2 then nI 0 else xmo (if (tn (S 15 0)) ≤ 1 then τ3 else xuse τ3 (tn (S 16 1)) (tn (S 17 1)) ((if (tn (S 15 0)) ≤ 1 then nI 0 else xmo τ3 (tn (S 16 1)) (tn (S 17 1))) - nI t)) (tn (S 16 2)) (tn (S 17 2))) * (X 15) 2) a ((if (tn (S 15 0)) ≤ 1 then nI 0 else xmo τ3 (tn (S 16 1)) (tn (S 17 1))) - nI t) (if (tn (S 15 0)) ≤ 2 then nI 0 else xmo (if (tn (S 15 0)) ≤ 1 then τ3 else xuse τ3 (tn (S 16 1)) (tn (S 17 1)) ((if (tn (S 15 0)) ≤ 1 then nI 0 else xmo τ3 (tn (S 16 1)) (tn (S 17 1))) - nI t)) (tn (S 16 2)) (tn (S 17 2)))).2 τ5, wst q sd X] A s.heap s H locs) e10) hM
    have e11 : (((xtw ((xcIn (tn (S 15 0)) (X 15) τ3 (tn (S 16 1)) (tn (S 17 1)) (tn (S 16 2)) (tn (S 17 2)) a (if (tn (S 15 0)) ≤ 1 then nI 0 else xmo τ3 (tn (S 16 1)) (tn (S 17 1))) (τ2, τ4) t).1, (xcIn (tn (S 15 0)) (X 15) τ3 (tn (S 16 1)) (tn (S 17 1)) (tn (S 16 2)) (tn (S 17 2)) a (if (tn (S 15 0)) ≤ 1 then nI 0 else xmo τ3 (tn (S 16 1)) (tn (S 17 1))) (τ2, τ4) t).2) (a * (X 15) 0 + ((if (tn (S 15 0)) ≤ 1 then nI 0 else xmo τ3 (tn (S 16 1)) (tn (S 17 1))) - nI t) * (X 15) 1 + (if (tn (S 15 0)) ≤ 2 then nI 0 else xmo (if (tn (S 15 0)) ≤ 1 then τ3 else xuse τ3 (tn (S 16 1)) (tn (S 17 1)) ((if (tn (S 15 0)) ≤ 1 then nI 0 else xmo τ3 (tn (S 16 1)) (tn (S 17 1))) - nI t)) (tn (S 16 2)) (tn (S 17 2))) * (X 15) 2) a ((if (tn (S 15 0)) ≤ 1 then nI 0 else xmo τ3 (tn (S 16 1)) (tn (S 17 1))) - nI t) (if (tn (S 15 0)) ≤ 2 then nI 0 else xmo (if (tn (S 15 0)) ≤ 1 then τ3 else xuse τ3 (tn (S 16 1)) (tn (S 17 1)) ((if (tn (S 15 0)) ≤ 1 then nI 0 else xmo τ3 (tn (S 16 1)) (tn (S 17 1))) - nI t)) (tn (S 16 2)) (tn (S 17 2)))).2) : Nat → Int32) = ((xcIn (tn (S 15 0)) (X 15) τ3 (tn (S 16 1)) (tn (S 17 1)) (tn (S 16 2)) (tn (S 17 2)) a (if (tn (S 15 0)) ≤ 1 then nI 0 else xmo τ3 (tn (S 16 1)) (tn (S 17 1))) (τ2, τ4) (t + 1)).2) := by rfl
    have hM : xM D (TY q) [w6 q ad τ0 τ1 (xcIn (tn (S 15 0)) (X 15) τ3 (tn (S 16 1)) (tn (S 17 1)) (tn (S 16 2)) (tn (S 17 2)) a (if (tn (S 15 0)) ≤ 1 then nI 0 else xmo τ3 (tn (S 16 1)) (tn (S 17 1))) (τ2, τ4) (t + 1)).1 τ3 (xcIn (tn (S 15 0)) (X 15) τ3 (tn (S 16 1)) (tn (S 17 1)) (tn (S 16 2)) (tn (S 17 2)) a (if (tn (S 15 0)) ≤ 1 then nI 0 else xmo τ3 (tn (S 16 1)) (tn (S 17 1))) (τ2, τ4) (t + 1)).2 τ5, wst q sd X] A s.heap s H locs := Eq.mp (congrArg (fun z9 => xM D (TY q) [w6 q ad τ0 τ1 (xcIn (tn (S 15 0)) (X 15) τ3 (tn (S 16 1)) (tn (S 17 1)) (tn (S 16 2)) (tn (S 17 2)) a (if (tn (S 15 0)) ≤ 1 then nI 0 else xmo τ3 (tn (S 16 1)) (tn (S 17 1))) (τ2, τ4) (t + 1)).1 τ3 z9 τ5, wst q sd X] A s.heap s H locs) e11) hM
    have hl : lv_has ls 4 [(0, .ref (ad 0)), (1, .ref (sd 0)), (2, .int a), (3, .int ((if (tn (S 15 0)) ≤ 1 then nI 0 else xmo τ3 (tn (S 16 1)) (tn (S 17 1))) - nI t + (-1)))] := lv_sub hl [1, 2, 3, 0] rfl
    have e12 : (if (tn (S 15 0)) ≤ 1 then nI 0 else xmo τ3 (tn (S 16 1)) (tn (S 17 1))) - nI t + (-1) = (if (tn (S 15 0)) ≤ 1 then nI 0 else xmo τ3 (tn (S 16 1)) (tn (S 17 1))) - nI (t + 1) := by exact xdn_s _ _
    have hl : lv_has ls 4 [(0, .ref (ad 0)), (1, .ref (sd 0)), (2, .int a), (3, .int ((if (tn (S 15 0)) ≤ 1 then nI 0 else xmo τ3 (tn (S 16 1)) (tn (S 17 1))) - nI (t + 1)))] := x_lvset hl 3 rfl (congrArg Value.int e12) rfl
    exact ih4 (t + 1) (show (((if (tn (S 15 0)) ≤ 1 then nI 0 else xmo τ3 (tn (S 16 1)) (tn (S 17 1)))).toInt + 1 - (t + 1)).toNat < (((if (tn (S 15 0)) ≤ 1 then nI 0 else xmo τ3 (tn (S 16 1)) (tn (S 17 1)))).toInt + 1 - t).toNat from by have h9 := xdn_go hT9 (by assumption : ¬ (if (tn (S 15 0)) ≤ 1 then nI 0 else xmo τ3 (tn (S 16 1)) (tn (S 17 1))) - nI t < 0); omega) (show ((t + 1) = 0 ∨ ((t + 1) : Int) ≤ ((if (tn (S 15 0)) ≤ 1 then nI 0 else xmo τ3 (tn (S 16 1)) (tn (S 17 1)))).toInt + 1) from Or.inr (xdn_go hT9 (by assumption : ¬ (if (tn (S 15 0)) ≤ 1 then nI 0 else xmo τ3 (tn (S 16 1)) (tn (S 17 1))) - nI t < 0))) _ _ hM _ hl

set_option maxRecDepth 20000 in
theorem ggX6_cook_X6_gather : GoodIn wsX6_cook wsX6_gather := goodIn_r _ [6, 7, 8, 9, 10, 11, 12, 13, 14, 15, 16, 17, 18, 19, 20, 21, 22, 23, 24, 25, 26, 27, 28, 29, 30, 31, 32, 33, 34, 35, 36, 37, 38, 39, 91, 92, 93, 94, 95, 96, 97, 98, 99, 100, 101, 102, 103, 104, 105, 106, 107, 108, 109, 110, 111, 112, 113, 114, 115, 116, 117, 118] (by decide +kernel) (by decide +kernel)
set_option maxRecDepth 20000 in
theorem gX6_cook_X6_gather : GoodIn wsX6_cook (wsV RX6 60 RX6 yX6_gather wsX6_gather) := goodIn_app (goodIn_of _ (by decide +kernel)) ggX6_cook_X6_gather
set_option maxRecDepth 20000 in
theorem ggX6_cook_X6_mostOf : GoodIn wsX6_cook wsX6_mostOf := goodIn_r _ [43, 7, 44, 45, 46, 47, 48, 49, 50, 26, 51, 52, 53, 54, 55, 56, 57, 58, 59, 60, 36, 29, 12, 30, 61, 62, 63, 64, 65, 66, 91, 92, 93, 94, 95, 96, 97, 98, 99, 100, 101, 102, 103, 104, 105, 106, 107, 108, 109, 110, 111, 112] (by decide +kernel) (by decide +kernel)
set_option maxRecDepth 20000 in
theorem gX6_cook_X6_mostOf : GoodIn wsX6_cook (wsV RX6 67 RX6 yX6_mostOf wsX6_mostOf) := goodIn_app (goodIn_of _ (by decide +kernel)) ggX6_cook_X6_mostOf
set_option maxRecDepth 20000 in
theorem ggX6_cook_X6_use : GoodIn wsX6_cook wsX6_use := goodIn_r _ [70, 7, 48, 49, 50, 26, 51, 52, 53, 54, 55, 56, 57, 58, 59, 60, 36, 29, 12, 30, 37, 38, 39, 62, 63, 64, 65, 66, 91, 92, 93, 94, 95, 96, 97, 98, 99, 100, 101, 102, 103, 104, 105, 106, 107, 108, 109, 110, 111, 112] (by decide +kernel) (by decide +kernel)
set_option maxRecDepth 20000 in
theorem gX6_cook_X6_use : GoodIn wsX6_cook (wsV RX6 71 RX6 yX6_use wsX6_use) := goodIn_app (goodIn_of _ (by decide +kernel)) ggX6_cook_X6_use
set_option maxRecDepth 20000 in
theorem ggX6_cook_X6_worthOf : GoodIn wsX6_cook wsX6_worthOf := goodIn_r _ [73, 74, 75, 76, 26, 77, 78, 36, 29, 12, 30, 97, 98, 99, 100, 101, 102, 103, 104, 105, 106, 107, 108, 109, 110, 111, 112] (by decide +kernel) (by decide +kernel)
set_option maxRecDepth 20000 in
theorem gX6_cook_X6_worthOf : GoodIn wsX6_cook (va_wsS RX6 75 yX6_worthOf wsX6_worthOf) := goodIn_app (goodIn_of _ (by decide +kernel)) ggX6_cook_X6_worthOf
set_option maxRecDepth 20000 in
theorem ggX6_cook_X6_cookBehind : GoodIn wsX6_cook wsX6_cookBehind := goodIn_r _ [82, 40, 41, 42, 5, 43, 7, 44, 45, 46, 47, 48, 49, 50, 26, 51, 52, 53, 54, 55, 56, 57, 58, 59, 60, 36, 29, 12, 30, 61, 62, 63, 64, 65, 66, 67, 68, 69, 70, 37, 38, 39, 83, 84, 85, 86, 1, 87, 71, 72, 73, 74, 75, 76, 77, 78, 88, 89, 90, 91, 92, 93, 94, 95, 96, 97, 98, 99, 100, 101, 102, 103, 104, 105, 106, 107, 108, 109, 110, 111, 112] (by decide +kernel) (by decide +kernel)
set_option maxRecDepth 20000 in
theorem gX6_cook_X6_cookBehind : GoodIn wsX6_cook (wsV RX6 78 RX6 yX6_cookBehind wsX6_cookBehind) := goodIn_app (goodIn_of _ (by decide +kernel)) ggX6_cook_X6_cookBehind
theorem dX6_cook_0 : decode cX6_cook 0 = .ok (.aload_n 0, 1) := by decide +kernel
theorem dX6_cook_1 : decode cX6_cook 1 = .ok (.aload_n 1, 1) := by decide +kernel
theorem dX6_cook_2 : decode cX6_cook 2 = .ok (.aload_n 2, 1) := by decide +kernel
theorem dX6_cook_3 : decode cX6_cook 3 = .ok (.invokevirtual 60, 3) := by decide +kernel
theorem dX6_cook_6 : decode cX6_cook 6 = .ok (.aload_n 0, 1) := by decide +kernel
theorem dX6_cook_7 : decode cX6_cook 7 = .ok (.iconst (-1), 1) := by decide +kernel
theorem dX6_cook_8 : decode cX6_cook 8 = .ok (.putfield 64, 3) := by decide +kernel
theorem dX6_cook_11 : decode cX6_cook 11 = .ok (.aload_n 0, 1) := by decide +kernel
theorem dX6_cook_12 : decode cX6_cook 12 = .ok (.aload_n 1, 1) := by decide +kernel
theorem dX6_cook_13 : decode cX6_cook 13 = .ok (.iconst 0, 1) := by decide +kernel
theorem dX6_cook_14 : decode cX6_cook 14 = .ok (.invokevirtual 67, 3) := by decide +kernel
theorem dX6_cook_17 : decode cX6_cook 17 = .ok (.istore_n 3, 1) := by decide +kernel
theorem dX6_cook_18 : decode cX6_cook 18 = .ok (.iload_n 3, 1) := by decide +kernel
theorem dX6_cook_19 : decode cX6_cook 19 = .ok (.ifCond .lt 54, 3) := by decide +kernel
theorem dX6_cook_22 : decode cX6_cook 22 = .ok (.aload_n 0, 1) := by decide +kernel
theorem dX6_cook_23 : decode cX6_cook 23 = .ok (.aload_n 1, 1) := by decide +kernel
theorem dX6_cook_24 : decode cX6_cook 24 = .ok (.iconst 0, 1) := by decide +kernel
theorem dX6_cook_25 : decode cX6_cook 25 = .ok (.iload_n 3, 1) := by decide +kernel
theorem dX6_cook_26 : decode cX6_cook 26 = .ok (.invokevirtual 71, 3) := by decide +kernel
theorem dX6_cook_29 : decode cX6_cook 29 = .ok (.aload_n 1, 1) := by decide +kernel
theorem dX6_cook_30 : decode cX6_cook 30 = .ok (.iload_n 3, 1) := by decide +kernel
theorem dX6_cook_31 : decode cX6_cook 31 = .ok (.aload_n 0, 1) := by decide +kernel
theorem dX6_cook_32 : decode cX6_cook 32 = .ok (.aload_n 1, 1) := by decide +kernel
theorem dX6_cook_33 : decode cX6_cook 33 = .ok (.iconst 1, 1) := by decide +kernel
theorem dX6_cook_34 : decode cX6_cook 34 = .ok (.invokevirtual 67, 3) := by decide +kernel
theorem dX6_cook_37 : decode cX6_cook 37 = .ok (.aload_n 0, 1) := by decide +kernel
theorem dX6_cook_38 : decode cX6_cook 38 = .ok (.aload_n 1, 1) := by decide +kernel
theorem dX6_cook_39 : decode cX6_cook 39 = .ok (.iconst 2, 1) := by decide +kernel
theorem dX6_cook_40 : decode cX6_cook 40 = .ok (.invokevirtual 67, 3) := by decide +kernel
theorem dX6_cook_43 : decode cX6_cook 43 = .ok (.invokestatic 75, 3) := by decide +kernel
theorem dX6_cook_46 : decode cX6_cook 46 = .ok (.aload_n 0, 1) := by decide +kernel
theorem dX6_cook_47 : decode cX6_cook 47 = .ok (.getfield 64, 3) := by decide +kernel
theorem dX6_cook_50 : decode cX6_cook 50 = .ok (.if_icmp .le 9, 3) := by decide +kernel
theorem dX6_cook_53 : decode cX6_cook 53 = .ok (.aload_n 0, 1) := by decide +kernel
theorem dX6_cook_54 : decode cX6_cook 54 = .ok (.aload_n 1, 1) := by decide +kernel
theorem dX6_cook_55 : decode cX6_cook 55 = .ok (.iload_n 3, 1) := by decide +kernel
theorem dX6_cook_56 : decode cX6_cook 56 = .ok (.invokevirtual 78, 3) := by decide +kernel
theorem dX6_cook_59 : decode cX6_cook 59 = .ok (.aload_n 0, 1) := by decide +kernel
theorem dX6_cook_60 : decode cX6_cook 60 = .ok (.aload_n 1, 1) := by decide +kernel
theorem dX6_cook_61 : decode cX6_cook 61 = .ok (.iconst 0, 1) := by decide +kernel
theorem dX6_cook_62 : decode cX6_cook 62 = .ok (.iload_n 3, 1) := by decide +kernel
theorem dX6_cook_63 : decode cX6_cook 63 = .ok (.ineg, 1) := by decide +kernel
theorem dX6_cook_64 : decode cX6_cook 64 = .ok (.invokevirtual 71, 3) := by decide +kernel
theorem dX6_cook_67 : decode cX6_cook 67 = .ok (.iinc 3 (-1), 3) := by decide +kernel
theorem dX6_cook_70 : decode cX6_cook 70 = .ok (.goto (-52), 3) := by decide +kernel
theorem dX6_cook_73 : decode cX6_cook 73 = .ok (.return_, 1) := by decide +kernel
theorem lkX6_cook_64 : Cond.fieldLink RX6 64 "LeftAtFive$Shops" "bestSoups" "I" ∈ wsX6_cook := by decide +kernel
theorem iwX6_cook_X6 : ∀ w ∈ wsX60, w ∈ wsX6_cook := by decide +kernel
set_option maxHeartbeats 2000000 in
set_option maxRecDepth 100000 in
theorem c_X6_cook (l : Launch) (D : va_G) (q : Nat → ClassId) (ad : Nat → Nat) (τ0 : Int32) (τ1 : Int64) (τ2 : Int32) (τ3 : Nat → Int32) (τ4 : Nat → Int32) (τ5 : Nat → Int32) (sd : Nat → Nat) (X : Nat → Nat → Int32) (kd : Nat → Nat) (K : Nat → Int32) (S : Nat → Nat → Int32) (hT : okT X S) : xC l yX6_cook wsX6_cook ({ frames := 5, cells := 0, slots := 0, locals := 113 }) D (TY q) [w6 q ad τ0 τ1 τ2 τ3 τ4 τ5, wst q sd X, wk q kd K] [.ref (ad 0), .ref (sd 0), .ref (kd 0)] (xQv D (TY q) (fun (_ : Unit) => True) (fun _ => [w6 q ad τ0 τ1 (xcO (tn (S 15 0)) (X 15) (xfill τ3 (xst (S 4) K (tn (S 5 0)) (tn (S 2 0))) 5) (fun y9 => tn (S 16 y9)) (fun y9 => tn (S 17 y9)) (if (tn (S 15 0)) ≤ 0 then nI 0 else xmo (xfill τ3 (xst (S 4) K (tn (S 5 0)) (tn (S 2 0))) 5) (tn (S 16 0)) (tn (S 17 0))) τ4 ((if (tn (S 15 0)) ≤ 0 then nI 0 else xmo (xfill τ3 (xst (S 4) K (tn (S 5 0)) (tn (S 2 0))) 5) (tn (S 16 0)) (tn (S 17 0))).toInt + 1).toNat).1 (xfill τ3 (xst (S 4) K (tn (S 5 0)) (tn (S 2 0))) 5) (xcO (tn (S 15 0)) (X 15) (xfill τ3 (xst (S 4) K (tn (S 5 0)) (tn (S 2 0))) 5) (fun y9 => tn (S 16 y9)) (fun y9 => tn (S 17 y9)) (if (tn (S 15 0)) ≤ 0 then nI 0 else xmo (xfill τ3 (xst (S 4) K (tn (S 5 0)) (tn (S 2 0))) 5) (tn (S 16 0)) (tn (S 17 0))) τ4 ((if (tn (S 15 0)) ≤ 0 then nI 0 else xmo (xfill τ3 (xst (S 4) K (tn (S 5 0)) (tn (S 2 0))) 5) (tn (S 16 0)) (tn (S 17 0))).toInt + 1).toNat).2 τ5, wst q sd X, wk q kd K])) 0 0 := by
  refine x_enter (cc := cX6_cook) (maxL := 4) (ret := none) (by decide) rfl (Nat.le_of_ble_eq_true rfl) ?_
  intro p e s m below meth c A ls H locs hfix hr hlocks hinit hM hl
  obtain ⟨hx, hb, hml, hown, hts⟩ := id hfix
  have hl : lv_has ls 4 [(0, .ref (ad 0)), (1, .ref (sd 0)), (2, .ref (kd 0))] := hl
  refine lv_aload_n hx hb dX6_cook_0 rfl (lv_at hl 0 rfl) ?_
  refine lv_aload_n hx hb dX6_cook_1 rfl (lv_at hl 1 rfl) ?_
  refine lv_aload_n hx hb dX6_cook_2 rfl (lv_at hl 2 rfl) ?_
  refine x_callv (bc := [w6 q ad τ0 τ1 τ2 τ3 τ4 τ5, wst q sd X, wk q kd K]) (br := []) hM [0, 1, 2] [] rfl rfl rfl (by decide) (x_runV (As := [.ref (sd 0), .ref (kd 0)]) (rest := []) hfix (c_X6_gather l D q ad τ0 τ1 τ2 τ3 τ4 τ5 sd X kd K S hT) (cwV 2 hts gX6_cook_X6_gather rfl rfl rfl (by decide +kernel) ⟨Nat.le_of_ble_eq_true rfl, Nat.le_of_ble_eq_true rfl⟩) hM [0, 1, 2] rfl rfl 0 0 rfl rfl rfl rfl rfl hl.1 rfl (Nat.le_of_ble_eq_true rfl) dX6_cook_3 ⟨Nat.le_of_ble_eq_true rfl, Nat.le_of_ble_eq_true rfl⟩) (fun u H locs hq hM => ?_)
  have hM : xM D (TY q) [w6 q ad τ0 τ1 τ2 (xfill τ3 (xst (S 4) K (tn (S 5 0)) (tn (S 2 0))) 5) τ4 τ5, wst q sd X, wk q kd K] A s.heap s H locs := hM
  obtain ⟨R0, hR0⟩ : ∃ y, y = (xfill τ3 (xst (S 4) K (tn (S 5 0)) (tn (S 2 0))) 5) := ⟨_, rfl⟩
  have e1 : ((xfill τ3 (xst (S 4) K (tn (S 5 0)) (tn (S 2 0))) 5) : Nat → Int32) = (R0) := by exact hR0.symm
  have hM : xM D (TY q) [w6 q ad τ0 τ1 τ2 R0 τ4 τ5, wst q sd X, wk q kd K] A s.heap s H locs := Eq.mp (congrArg (fun z9 => xM D (TY q) [w6 q ad τ0 τ1 τ2 z9 τ4 τ5, wst q sd X, wk q kd K] A s.heap s H locs) e1) hM
  refine lv_aload_n hx hb dX6_cook_6 rfl (lv_at hl 0 rfl) ?_
  refine lv_iconst (v := (-1)) hx hb dX6_cook_7 (by decide) ?_
  refine x_put hx hb hts iwX6_cook_X6 tyX6 tyX6_ok nmX6 hown hM 0 0 rfl rfl rfl 2 (by decide) (hts _ lkX6_cook_64) (fun _ h => h) rfl (ty := .int) (by decide +kernel) rfl rfl (Nat.le_of_ble_eq_true rfl) [w6 q ad τ0 τ1 (-1) R0 τ4 τ5, wst q sd X, wk q kd K] rfl dX6_cook_8 (fun H locs hM => ?_)
  refine lv_aload_n hx hb dX6_cook_11 rfl (lv_at hl 0 rfl) ?_
  refine lv_aload_n hx hb dX6_cook_12 rfl (lv_at hl 1 rfl) ?_
  refine lv_iconst (v := nI 0) hx hb dX6_cook_13 (by decide) ?_
  refine x_calli (bc := [w6 q ad τ0 τ1 (-1) R0 τ4 τ5, wst q sd X]) (br := [wk q kd K]) hM [0, 1] [2] rfl rfl rfl (by decide) (x_runV (As := [.ref (sd 0), .int (nI 0)]) (rest := []) hfix (c_X6_mostOf l D q ad τ0 τ1 (-1) R0 τ4 τ5 sd X S 0 hT (by omega)) (cwV 2 hts gX6_cook_X6_mostOf rfl rfl rfl (by decide +kernel) ⟨Nat.le_of_ble_eq_true rfl, Nat.le_of_ble_eq_true rfl⟩) hM [0, 1] rfl rfl 0 0 rfl rfl rfl rfl rfl hl.1 rfl (Nat.le_of_ble_eq_true rfl) dX6_cook_14 ⟨Nat.le_of_ble_eq_true rfl, Nat.le_of_ble_eq_true rfl⟩) (fun r u H locs hq hM => ?_)
  subst hq
  have hM : xM D (TY q) [wk q kd K, w6 q ad τ0 τ1 (-1) R0 τ4 τ5, wst q sd X] A s.heap s H locs := hM
  have hM : xM D (TY q) [w6 q ad τ0 τ1 (-1) R0 τ4 τ5, wst q sd X, wk q kd K] A s.heap s H locs := hM.sel [1, 2, 0] rfl rfl
  refine lv_istore_n (lv' := [(3, .int (if (tn (S 15 0)) ≤ 0 then nI 0 else xmo R0 (tn (S 16 0)) (tn (S 17 0)))), (0, .ref (ad 0)), (1, .ref (sd 0)), (2, .ref (kd 0))]) hx hb dX6_cook_17 rfl hl (by decide) rfl (fun ls hl => ?_)
  have e3 : (((-1)) : Int32) = ((xcO (tn (S 15 0)) (X 15) R0 (fun y9 => tn (S 16 y9)) (fun y9 => tn (S 17 y9)) (if (tn (S 15 0)) ≤ 0 then nI 0 else xmo R0 (tn (S 16 0)) (tn (S 17 0))) τ4 0).1) := by rfl
  have hM : xM D (TY q) [w6 q ad τ0 τ1 (xcO (tn (S 15 0)) (X 15) R0 (fun y9 => tn (S 16 y9)) (fun y9 => tn (S 17 y9)) (if (tn (S 15 0)) ≤ 0 then nI 0 else xmo R0 (tn (S 16 0)) (tn (S 17 0))) τ4 0).1 R0 τ4 τ5, wst q sd X, wk q kd K] A s.heap s H locs := Eq.mp (congrArg (fun z9 => xM D (TY q) [w6 q ad τ0 τ1 z9 R0 τ4 τ5, wst q sd X, wk q kd K] A s.heap s H locs) e3) hM
  have e4 : ((τ4) : Nat → Int32) = ((xcO (tn (S 15 0)) (X 15) R0 (fun y9 => tn (S 16 y9)) (fun y9 => tn (S 17 y9)) (if (tn (S 15 0)) ≤ 0 then nI 0 else xmo R0 (tn (S 16 0)) (tn (S 17 0))) τ4 0).2) := by rfl
  have hM : xM D (TY q) [w6 q ad τ0 τ1 (xcO (tn (S 15 0)) (X 15) R0 (fun y9 => tn (S 16 y9)) (fun y9 => tn (S 17 y9)) (if (tn (S 15 0)) ≤ 0 then nI 0 else xmo R0 (tn (S 16 0)) (tn (S 17 0))) τ4 0).1 R0 (xcO (tn (S 15 0)) (X 15) R0 (fun y9 => tn (S 16 y9)) (fun y9 => tn (S 17 y9)) (if (tn (S 15 0)) ≤ 0 then nI 0 else xmo R0 (tn (S 16 0)) (tn (S 17 0))) τ4 0).2 τ5, wst q sd X, wk q kd K] A s.heap s H locs := Eq.mp (congrArg (fun z9 => xM D (TY q) [w6 q ad τ0 τ1 (xcO (tn (S 15 0)) (X 15) R0 (fun y9 => tn (S 16 y9)) (fun y9 => tn (S 17 y9)) (if (tn (S 15 0)) ≤ 0 then nI 0 else xmo R0 (tn (S 16 0)) (tn (S 17 0))) τ4 0).1 R0 z9 τ5, wst q sd X, wk q kd K] A s.heap s H locs) e4) hM
  refine x_loop (ι := Nat) (fun i => [(0, .ref (ad 0)), (1, .ref (sd 0)), (2, .ref (kd 0)), (3, .int ((if (tn (S 15 0)) ≤ 0 then nI 0 else xmo R0 (tn (S 16 0)) (tn (S 17 0))) - nI i))]) (fun i => [w6 q ad τ0 τ1 (xcO (tn (S 15 0)) (X 15) R0 (fun y9 => tn (S 16 y9)) (fun y9 => tn (S 17 y9)) (if (tn (S 15 0)) ≤ 0 then nI 0 else xmo R0 (tn (S 16 0)) (tn (S 17 0))) τ4 i).1 R0 (xcO (tn (S 15 0)) (X 15) R0 (fun y9 => tn (S 16 y9)) (fun y9 => tn (S 17 y9)) (if (tn (S 15 0)) ≤ 0 then nI 0 else xmo R0 (tn (S 16 0)) (tn (S 17 0))) τ4 i).2 τ5, wst q sd X, wk q kd K]) (fun i => (i = 0 ∨ (i : Int) ≤ ((if (tn (S 15 0)) ≤ 0 then nI 0 else xmo R0 (tn (S 16 0)) (tn (S 17 0)))).toInt + 1)) (fun i => (((if (tn (S 15 0)) ≤ 0 then nI 0 else xmo R0 (tn (S 16 0)) (tn (S 17 0)))).toInt + 1 - i).toNat) 0 (Or.inl rfl) hM (lv_sub hl [1, 2, 3, 0] (by rw [nI_0, Int32.sub_zero]; rfl)) ?_
  intro i hI6 ih5 H locs hM ls hl
  have hM : xM D (TY q) [w6 q ad τ0 τ1 (xcO (tn (S 15 0)) (X 15) R0 (fun y9 => tn (S 16 y9)) (fun y9 => tn (S 17 y9)) (if (tn (S 15 0)) ≤ 0 then nI 0 else xmo R0 (tn (S 16 0)) (tn (S 17 0))) τ4 i).1 R0 (xcO (tn (S 15 0)) (X 15) R0 (fun y9 => tn (S 16 y9)) (fun y9 => tn (S 17 y9)) (if (tn (S 15 0)) ≤ 0 then nI 0 else xmo R0 (tn (S 16 0)) (tn (S 17 0))) τ4 i).2 τ5, wst q sd X, wk q kd K] A s.heap s H locs := hM
  have hl : lv_has ls 4 [(0, .ref (ad 0)), (1, .ref (sd 0)), (2, .ref (kd 0)), (3, .int ((if (tn (S 15 0)) ≤ 0 then nI 0 else xmo R0 (tn (S 16 0)) (tn (S 17 0))) - nI i))] := hl
  have hI6 : (i = 0 ∨ (i : Int) ≤ ((if (tn (S 15 0)) ≤ 0 then nI 0 else xmo R0 (tn (S 16 0)) (tn (S 17 0)))).toInt + 1) := hI6
  have hI9 := hI6
  try dsimp only
  refine lv_iload_n hx hb dX6_cook_18 rfl (lv_at hl 3 rfl) ?_
  refine lv_if_lt (tgt := 73) hx hb dX6_cook_19 (by decide) (fun c7 => ?_) (fun c7 => ?_)
  · have e8 : (((xcO (tn (S 15 0)) (X 15) R0 (fun y9 => tn (S 16 y9)) (fun y9 => tn (S 17 y9)) (if (tn (S 15 0)) ≤ 0 then nI 0 else xmo R0 (tn (S 16 0)) (tn (S 17 0))) τ4 i).1) : Int32) = ((xcO (tn (S 15 0)) (X 15) (xfill τ3 (xst (S 4) K (tn (S 5 0)) (tn (S 2 0))) 5) (fun y9 => tn (S 16 y9)) (fun y9 => tn (S 17 y9)) (if (tn (S 15 0)) ≤ 0 then nI 0 else xmo (xfill τ3 (xst (S 4) K (tn (S 5 0)) (tn (S 2 0))) 5) (tn (S 16 0)) (tn (S 17 0))) τ4 ((if (tn (S 15 0)) ≤ 0 then nI 0 else xmo (xfill τ3 (xst (S 4) K (tn (S 5 0)) (tn (S 2 0))) 5) (tn (S 16 0)) (tn (S 17 0))).toInt + 1).toNat).1) := by (rw [xdn_end hI9 (by assumption), hR0])
    have hM : xM D (TY q) [w6 q ad τ0 τ1 (xcO (tn (S 15 0)) (X 15) (xfill τ3 (xst (S 4) K (tn (S 5 0)) (tn (S 2 0))) 5) (fun y9 => tn (S 16 y9)) (fun y9 => tn (S 17 y9)) (if (tn (S 15 0)) ≤ 0 then nI 0 else xmo (xfill τ3 (xst (S 4) K (tn (S 5 0)) (tn (S 2 0))) 5) (tn (S 16 0)) (tn (S 17 0))) τ4 ((if (tn (S 15 0)) ≤ 0 then nI 0 else xmo (xfill τ3 (xst (S 4) K (tn (S 5 0)) (tn (S 2 0))) 5) (tn (S 16 0)) (tn (S 17 0))).toInt + 1).toNat).1 R0 (xcO (tn (S 15 0)) (X 15) R0 (fun y9 => tn (S 16 y9)) (fun y9 => tn (S 17 y9)) (if (tn (S 15 0)) ≤ 0 then nI 0 else xmo R0 (tn (S 16 0)) (tn (S 17 0))) τ4 i).2 τ5, wst q sd X, wk q kd K] A s.heap s H locs := Eq.mp (congrArg (fun z9 => xM D (TY q) [w6 q ad τ0 τ1 z9 R0 (xcO (tn (S 15 0)) (X 15) R0 (fun y9 => tn (S 16 y9)) (fun y9 => tn (S 17 y9)) (if (tn (S 15 0)) ≤ 0 then nI 0 else xmo R0 (tn (S 16 0)) (tn (S 17 0))) τ4 i).2 τ5, wst q sd X, wk q kd K] A s.heap s H locs) e8) hM
    have e9 : ((R0) : Nat → Int32) = ((xfill τ3 (xst (S 4) K (tn (S 5 0)) (tn (S 2 0))) 5)) := by exact hR0
    have hM : xM D (TY q) [w6 q ad τ0 τ1 (xcO (tn (S 15 0)) (X 15) (xfill τ3 (xst (S 4) K (tn (S 5 0)) (tn (S 2 0))) 5) (fun y9 => tn (S 16 y9)) (fun y9 => tn (S 17 y9)) (if (tn (S 15 0)) ≤ 0 then nI 0 else xmo (xfill τ3 (xst (S 4) K (tn (S 5 0)) (tn (S 2 0))) 5) (tn (S 16 0)) (tn (S 17 0))) τ4 ((if (tn (S 15 0)) ≤ 0 then nI 0 else xmo (xfill τ3 (xst (S 4) K (tn (S 5 0)) (tn (S 2 0))) 5) (tn (S 16 0)) (tn (S 17 0))).toInt + 1).toNat).1 (xfill τ3 (xst (S 4) K (tn (S 5 0)) (tn (S 2 0))) 5) (xcO (tn (S 15 0)) (X 15) R0 (fun y9 => tn (S 16 y9)) (fun y9 => tn (S 17 y9)) (if (tn (S 15 0)) ≤ 0 then nI 0 else xmo R0 (tn (S 16 0)) (tn (S 17 0))) τ4 i).2 τ5, wst q sd X, wk q kd K] A s.heap s H locs := Eq.mp (congrArg (fun z9 => xM D (TY q) [w6 q ad τ0 τ1 (xcO (tn (S 15 0)) (X 15) (xfill τ3 (xst (S 4) K (tn (S 5 0)) (tn (S 2 0))) 5) (fun y9 => tn (S 16 y9)) (fun y9 => tn (S 17 y9)) (if (tn (S 15 0)) ≤ 0 then nI 0 else xmo (xfill τ3 (xst (S 4) K (tn (S 5 0)) (tn (S 2 0))) 5) (tn (S 16 0)) (tn (S 17 0))) τ4 ((if (tn (S 15 0)) ≤ 0 then nI 0 else xmo (xfill τ3 (xst (S 4) K (tn (S 5 0)) (tn (S 2 0))) 5) (tn (S 16 0)) (tn (S 17 0))).toInt + 1).toNat).1 z9 (xcO (tn (S 15 0)) (X 15) R0 (fun y9 => tn (S 16 y9)) (fun y9 => tn (S 17 y9)) (if (tn (S 15 0)) ≤ 0 then nI 0 else xmo R0 (tn (S 16 0)) (tn (S 17 0))) τ4 i).2 τ5, wst q sd X, wk q kd K] A s.heap s H locs) e9) hM
    have e10 : (((xcO (tn (S 15 0)) (X 15) R0 (fun y9 => tn (S 16 y9)) (fun y9 => tn (S 17 y9)) (if (tn (S 15 0)) ≤ 0 then nI 0 else xmo R0 (tn (S 16 0)) (tn (S 17 0))) τ4 i).2) : Nat → Int32) = ((xcO (tn (S 15 0)) (X 15) (xfill τ3 (xst (S 4) K (tn (S 5 0)) (tn (S 2 0))) 5) (fun y9 => tn (S 16 y9)) (fun y9 => tn (S 17 y9)) (if (tn (S 15 0)) ≤ 0 then nI 0 else xmo (xfill τ3 (xst (S 4) K (tn (S 5 0)) (tn (S 2 0))) 5) (tn (S 16 0)) (tn (S 17 0))) τ4 ((if (tn (S 15 0)) ≤ 0 then nI 0 else xmo (xfill τ3 (xst (S 4) K (tn (S 5 0)) (tn (S 2 0))) 5) (tn (S 16 0)) (tn (S 17 0))).toInt + 1).toNat).2) := by (rw [xdn_end hI9 (by assumption), hR0])
    have hM : xM D (TY q) [w6 q ad τ0 τ1 (xcO (tn (S 15 0)) (X 15) (xfill τ3 (xst (S 4) K (tn (S 5 0)) (tn (S 2 0))) 5) (fun y9 => tn (S 16 y9)) (fun y9 => tn (S 17 y9)) (if (tn (S 15 0)) ≤ 0 then nI 0 else xmo (xfill τ3 (xst (S 4) K (tn (S 5 0)) (tn (S 2 0))) 5) (tn (S 16 0)) (tn (S 17 0))) τ4 ((if (tn (S 15 0)) ≤ 0 then nI 0 else xmo (xfill τ3 (xst (S 4) K (tn (S 5 0)) (tn (S 2 0))) 5) (tn (S 16 0)) (tn (S 17 0))).toInt + 1).toNat).1 (xfill τ3 (xst (S 4) K (tn (S 5 0)) (tn (S 2 0))) 5) (xcO (tn (S 15 0)) (X 15) (xfill τ3 (xst (S 4) K (tn (S 5 0)) (tn (S 2 0))) 5) (fun y9 => tn (S 16 y9)) (fun y9 => tn (S 17 y9)) (if (tn (S 15 0)) ≤ 0 then nI 0 else xmo (xfill τ3 (xst (S 4) K (tn (S 5 0)) (tn (S 2 0))) 5) (tn (S 16 0)) (tn (S 17 0))) τ4 ((if (tn (S 15 0)) ≤ 0 then nI 0 else xmo (xfill τ3 (xst (S 4) K (tn (S 5 0)) (tn (S 2 0))) 5) (tn (S 16 0)) (tn (S 17 0))).toInt + 1).toNat).2 τ5, wst q sd X, wk q kd K] A s.heap s H locs := Eq.mp (congrArg (fun z9 => xM D (TY q) [w6 q ad τ0 τ1 (xcO (tn (S 15 0)) (X 15) (xfill τ3 (xst (S 4) K (tn (S 5 0)) (tn (S 2 0))) 5) (fun y9 => tn (S 16 y9)) (fun y9 => tn (S 17 y9)) (if (tn (S 15 0)) ≤ 0 then nI 0 else xmo (xfill τ3 (xst (S 4) K (tn (S 5 0)) (tn (S 2 0))) 5) (tn (S 16 0)) (tn (S 17 0))) τ4 ((if (tn (S 15 0)) ≤ 0 then nI 0 else xmo (xfill τ3 (xst (S 4) K (tn (S 5 0)) (tn (S 2 0))) 5) (tn (S 16 0)) (tn (S 17 0))).toInt + 1).toNat).1 (xfill τ3 (xst (S 4) K (tn (S 5 0)) (tn (S 2 0))) 5) z9 τ5, wst q sd X, wk q kd K] A s.heap s H locs) e10) hM
    exact x_vret hx hb hr hlocks () hM trivial dX6_cook_73
  · refine lv_aload_n hx hb dX6_cook_22 rfl (lv_at hl 0 rfl) ?_
    refine lv_aload_n hx hb dX6_cook_23 rfl (lv_at hl 1 rfl) ?_
    refine lv_iconst (v := nI 0) hx hb dX6_cook_24 (by decide) ?_
    refine lv_iload_n hx hb dX6_cook_25 rfl (lv_at hl 3 rfl) ?_
    refine x_callv (bc := [w6 q ad τ0 τ1 (xcO (tn (S 15 0)) (X 15) R0 (fun y9 => tn (S 16 y9)) (fun y9 => tn (S 17 y9)) (if (tn (S 15 0)) ≤ 0 then nI 0 else xmo R0 (tn (S 16 0)) (tn (S 17 0))) τ4 i).1 R0 (xcO (tn (S 15 0)) (X 15) R0 (fun y9 => tn (S 16 y9)) (fun y9 => tn (S 17 y9)) (if (tn (S 15 0)) ≤ 0 then nI 0 else xmo R0 (tn (S 16 0)) (tn (S 17 0))) τ4 i).2 τ5, wst q sd X]) (br := [wk q kd K]) hM [0, 1] [2] rfl rfl rfl (by decide) (x_runV (As := [.ref (sd 0), .int (nI 0), .int ((if (tn (S 15 0)) ≤ 0 then nI 0 else xmo R0 (tn (S 16 0)) (tn (S 17 0))) - nI i)]) (rest := []) hfix (c_X6_use l D q ad τ0 τ1 (xcO (tn (S 15 0)) (X 15) R0 (fun y9 => tn (S 16 y9)) (fun y9 => tn (S 17 y9)) (if (tn (S 15 0)) ≤ 0 then nI 0 else xmo R0 (tn (S 16 0)) (tn (S 17 0))) τ4 i).1 R0 (xcO (tn (S 15 0)) (X 15) R0 (fun y9 => tn (S 16 y9)) (fun y9 => tn (S 17 y9)) (if (tn (S 15 0)) ≤ 0 then nI 0 else xmo R0 (tn (S 16 0)) (tn (S 17 0))) τ4 i).2 τ5 sd X S 0 ((if (tn (S 15 0)) ≤ 0 then nI 0 else xmo R0 (tn (S 16 0)) (tn (S 17 0))) - nI i) hT (by omega)) (cwV 3 hts gX6_cook_X6_use rfl rfl rfl (by decide +kernel) ⟨Nat.le_of_ble_eq_true rfl, Nat.le_of_ble_eq_true rfl⟩) hM [0, 1] rfl rfl 0 0 rfl rfl rfl rfl rfl hl.1 rfl (Nat.le_of_ble_eq_true rfl) dX6_cook_26 ⟨Nat.le_of_ble_eq_true rfl, Nat.le_of_ble_eq_true rfl⟩) (fun u H locs hq hM => ?_)
    have hM : xM D (TY q) [wk q kd K, w6 q ad τ0 τ1 (xcO (tn (S 15 0)) (X 15) R0 (fun y9 => tn (S 16 y9)) (fun y9 => tn (S 17 y9)) (if (tn (S 15 0)) ≤ 0 then nI 0 else xmo R0 (tn (S 16 0)) (tn (S 17 0))) τ4 i).1 (if (tn (S 15 0)) ≤ 0 then R0 else xuse R0 (tn (S 16 0)) (tn (S 17 0)) ((if (tn (S 15 0)) ≤ 0 then nI 0 else xmo R0 (tn (S 16 0)) (tn (S 17 0))) - nI i)) (xcO (tn (S 15 0)) (X 15) R0 (fun y9 => tn (S 16 y9)) (fun y9 => tn (S 17 y9)) (if (tn (S 15 0)) ≤ 0 then nI 0 else xmo R0 (tn (S 16 0)) (tn (S 17 0))) τ4 i).2 τ5, wst q sd X] A s.heap s H locs := hM
    have hM : xM D (TY q) [w6 q ad τ0 τ1 (xcO (tn (S 15 0)) (X 15) R0 (fun y9 => tn (S 16 y9)) (fun y9 => tn (S 17 y9)) (if (tn (S 15 0)) ≤ 0 then nI 0 else xmo R0 (tn (S 16 0)) (tn (S 17 0))) τ4 i).1 (if (tn (S 15 0)) ≤ 0 then R0 else xuse R0 (tn (S 16 0)) (tn (S 17 0)) ((if (tn (S 15 0)) ≤ 0 then nI 0 else xmo R0 (tn (S 16 0)) (tn (S 17 0))) - nI i)) (xcO (tn (S 15 0)) (X 15) R0 (fun y9 => tn (S 16 y9)) (fun y9 => tn (S 17 y9)) (if (tn (S 15 0)) ≤ 0 then nI 0 else xmo R0 (tn (S 16 0)) (tn (S 17 0))) τ4 i).2 τ5, wst q sd X, wk q kd K] A s.heap s H locs := hM.sel [1, 2, 0] rfl rfl
    refine lv_aload_n hx hb dX6_cook_29 rfl (lv_at hl 1 rfl) ?_
    refine lv_iload_n hx hb dX6_cook_30 rfl (lv_at hl 3 rfl) ?_
    refine lv_aload_n hx hb dX6_cook_31 rfl (lv_at hl 0 rfl) ?_
    refine lv_aload_n hx hb dX6_cook_32 rfl (lv_at hl 1 rfl) ?_
    refine lv_iconst (v := nI 1) hx hb dX6_cook_33 (by decide) ?_
    refine x_calli (bc := [w6 q ad τ0 τ1 (xcO (tn (S 15 0)) (X 15) R0 (fun y9 => tn (S 16 y9)) (fun y9 => tn (S 17 y9)) (if (tn (S 15 0)) ≤ 0 then nI 0 else xmo R0 (tn (S 16 0)) (tn (S 17 0))) τ4 i).1 (if (tn (S 15 0)) ≤ 0 then R0 else xuse R0 (tn (S 16 0)) (tn (S 17 0)) ((if (tn (S 15 0)) ≤ 0 then nI 0 else xmo R0 (tn (S 16 0)) (tn (S 17 0))) - nI i)) (xcO (tn (S 15 0)) (X 15) R0 (fun y9 => tn (S 16 y9)) (fun y9 => tn (S 17 y9)) (if (tn (S 15 0)) ≤ 0 then nI 0 else xmo R0 (tn (S 16 0)) (tn (S 17 0))) τ4 i).2 τ5, wst q sd X]) (br := [wk q kd K]) hM [0, 1] [2] rfl rfl rfl (by decide) (x_runV (As := [.ref (sd 0), .int (nI 1)]) (rest := [.int ((if (tn (S 15 0)) ≤ 0 then nI 0 else xmo R0 (tn (S 16 0)) (tn (S 17 0))) - nI i), .ref (sd 0)]) hfix (c_X6_mostOf l D q ad τ0 τ1 (xcO (tn (S 15 0)) (X 15) R0 (fun y9 => tn (S 16 y9)) (fun y9 => tn (S 17 y9)) (if (tn (S 15 0)) ≤ 0 then nI 0 else xmo R0 (tn (S 16 0)) (tn (S 17 0))) τ4 i).1 (if (tn (S 15 0)) ≤ 0 then R0 else xuse R0 (tn (S 16 0)) (tn (S 17 0)) ((if (tn (S 15 0)) ≤ 0 then nI 0 else xmo R0 (tn (S 16 0)) (tn (S 17 0))) - nI i)) (xcO (tn (S 15 0)) (X 15) R0 (fun y9 => tn (S 16 y9)) (fun y9 => tn (S 17 y9)) (if (tn (S 15 0)) ≤ 0 then nI 0 else xmo R0 (tn (S 16 0)) (tn (S 17 0))) τ4 i).2 τ5 sd X S 1 hT (by omega)) (cwV 2 hts gX6_cook_X6_mostOf rfl rfl rfl (by decide +kernel) ⟨Nat.le_of_ble_eq_true rfl, Nat.le_of_ble_eq_true rfl⟩) hM [0, 1] rfl rfl 0 0 rfl rfl rfl rfl rfl hl.1 rfl (Nat.le_of_ble_eq_true rfl) dX6_cook_34 ⟨Nat.le_of_ble_eq_true rfl, Nat.le_of_ble_eq_true rfl⟩) (fun r u H locs hq hM => ?_)
    subst hq
    have hM : xM D (TY q) [wk q kd K, w6 q ad τ0 τ1 (xcO (tn (S 15 0)) (X 15) R0 (fun y9 => tn (S 16 y9)) (fun y9 => tn (S 17 y9)) (if (tn (S 15 0)) ≤ 0 then nI 0 else xmo R0 (tn (S 16 0)) (tn (S 17 0))) τ4 i).1 (if (tn (S 15 0)) ≤ 0 then R0 else xuse R0 (tn (S 16 0)) (tn (S 17 0)) ((if (tn (S 15 0)) ≤ 0 then nI 0 else xmo R0 (tn (S 16 0)) (tn (S 17 0))) - nI i)) (xcO (tn (S 15 0)) (X 15) R0 (fun y9 => tn (S 16 y9)) (fun y9 => tn (S 17 y9)) (if (tn (S 15 0)) ≤ 0 then nI 0 else xmo R0 (tn (S 16 0)) (tn (S 17 0))) τ4 i).2 τ5, wst q sd X] A s.heap s H locs := hM
    have hM : xM D (TY q) [w6 q ad τ0 τ1 (xcO (tn (S 15 0)) (X 15) R0 (fun y9 => tn (S 16 y9)) (fun y9 => tn (S 17 y9)) (if (tn (S 15 0)) ≤ 0 then nI 0 else xmo R0 (tn (S 16 0)) (tn (S 17 0))) τ4 i).1 (if (tn (S 15 0)) ≤ 0 then R0 else xuse R0 (tn (S 16 0)) (tn (S 17 0)) ((if (tn (S 15 0)) ≤ 0 then nI 0 else xmo R0 (tn (S 16 0)) (tn (S 17 0))) - nI i)) (xcO (tn (S 15 0)) (X 15) R0 (fun y9 => tn (S 16 y9)) (fun y9 => tn (S 17 y9)) (if (tn (S 15 0)) ≤ 0 then nI 0 else xmo R0 (tn (S 16 0)) (tn (S 17 0))) τ4 i).2 τ5, wst q sd X, wk q kd K] A s.heap s H locs := hM.sel [1, 2, 0] rfl rfl
    refine lv_aload_n hx hb dX6_cook_37 rfl (lv_at hl 0 rfl) ?_
    refine lv_aload_n hx hb dX6_cook_38 rfl (lv_at hl 1 rfl) ?_
    refine lv_iconst (v := nI 2) hx hb dX6_cook_39 (by decide) ?_
    refine x_calli (bc := [w6 q ad τ0 τ1 (xcO (tn (S 15 0)) (X 15) R0 (fun y9 => tn (S 16 y9)) (fun y9 => tn (S 17 y9)) (if (tn (S 15 0)) ≤ 0 then nI 0 else xmo R0 (tn (S 16 0)) (tn (S 17 0))) τ4 i).1 (if (tn (S 15 0)) ≤ 0 then R0 else xuse R0 (tn (S 16 0)) (tn (S 17 0)) ((if (tn (S 15 0)) ≤ 0 then nI 0 else xmo R0 (tn (S 16 0)) (tn (S 17 0))) - nI i)) (xcO (tn (S 15 0)) (X 15) R0 (fun y9 => tn (S 16 y9)) (fun y9 => tn (S 17 y9)) (if (tn (S 15 0)) ≤ 0 then nI 0 else xmo R0 (tn (S 16 0)) (tn (S 17 0))) τ4 i).2 τ5, wst q sd X]) (br := [wk q kd K]) hM [0, 1] [2] rfl rfl rfl (by decide) (x_runV (As := [.ref (sd 0), .int (nI 2)]) (rest := [.int (if (tn (S 15 0)) ≤ 1 then nI 0 else xmo (if (tn (S 15 0)) ≤ 0 then R0 else xuse R0 (tn (S 16 0)) (tn (S 17 0)) ((if (tn (S 15 0)) ≤ 0 then nI 0 else xmo R0 (tn (S 16 0)) (tn (S 17 0))) - nI i)) (tn (S 16 1)) (tn (S 17 1))), .int ((if (tn (S 15 0)) ≤ 0 then nI 0 else xmo R0 (tn (S 16 0)) (tn (S 17 0))) - nI i), .ref (sd 0)]) hfix (c_X6_mostOf l D q ad τ0 τ1 (xcO (tn (S 15 0)) (X 15) R0 (fun y9 => tn (S 16 y9)) (fun y9 => tn (S 17 y9)) (if (tn (S 15 0)) ≤ 0 then nI 0 else xmo R0 (tn (S 16 0)) (tn (S 17 0))) τ4 i).1 (if (tn (S 15 0)) ≤ 0 then R0 else xuse R0 (tn (S 16 0)) (tn (S 17 0)) ((if (tn (S 15 0)) ≤ 0 then nI 0 else xmo R0 (tn (S 16 0)) (tn (S 17 0))) - nI i)) (xcO (tn (S 15 0)) (X 15) R0 (fun y9 => tn (S 16 y9)) (fun y9 => tn (S 17 y9)) (if (tn (S 15 0)) ≤ 0 then nI 0 else xmo R0 (tn (S 16 0)) (tn (S 17 0))) τ4 i).2 τ5 sd X S 2 hT (by omega)) (cwV 2 hts gX6_cook_X6_mostOf rfl rfl rfl (by decide +kernel) ⟨Nat.le_of_ble_eq_true rfl, Nat.le_of_ble_eq_true rfl⟩) hM [0, 1] rfl rfl 0 0 rfl rfl rfl rfl rfl hl.1 rfl (Nat.le_of_ble_eq_true rfl) dX6_cook_40 ⟨Nat.le_of_ble_eq_true rfl, Nat.le_of_ble_eq_true rfl⟩) (fun r u H locs hq hM => ?_)
    subst hq
    have hM : xM D (TY q) [wk q kd K, w6 q ad τ0 τ1 (xcO (tn (S 15 0)) (X 15) R0 (fun y9 => tn (S 16 y9)) (fun y9 => tn (S 17 y9)) (if (tn (S 15 0)) ≤ 0 then nI 0 else xmo R0 (tn (S 16 0)) (tn (S 17 0))) τ4 i).1 (if (tn (S 15 0)) ≤ 0 then R0 else xuse R0 (tn (S 16 0)) (tn (S 17 0)) ((if (tn (S 15 0)) ≤ 0 then nI 0 else xmo R0 (tn (S 16 0)) (tn (S 17 0))) - nI i)) (xcO (tn (S 15 0)) (X 15) R0 (fun y9 => tn (S 16 y9)) (fun y9 => tn (S 17 y9)) (if (tn (S 15 0)) ≤ 0 then nI 0 else xmo R0 (tn (S 16 0)) (tn (S 17 0))) τ4 i).2 τ5, wst q sd X] A s.heap s H locs := hM
    have hM : xM D (TY q) [w6 q ad τ0 τ1 (xcO (tn (S 15 0)) (X 15) R0 (fun y9 => tn (S 16 y9)) (fun y9 => tn (S 17 y9)) (if (tn (S 15 0)) ≤ 0 then nI 0 else xmo R0 (tn (S 16 0)) (tn (S 17 0))) τ4 i).1 (if (tn (S 15 0)) ≤ 0 then R0 else xuse R0 (tn (S 16 0)) (tn (S 17 0)) ((if (tn (S 15 0)) ≤ 0 then nI 0 else xmo R0 (tn (S 16 0)) (tn (S 17 0))) - nI i)) (xcO (tn (S 15 0)) (X 15) R0 (fun y9 => tn (S 16 y9)) (fun y9 => tn (S 17 y9)) (if (tn (S 15 0)) ≤ 0 then nI 0 else xmo R0 (tn (S 16 0)) (tn (S 17 0))) τ4 i).2 τ5, wst q sd X, wk q kd K] A s.heap s H locs := hM.sel [1, 2, 0] rfl rfl
    refine x_calli (bc := [wst q sd X]) (br := [w6 q ad τ0 τ1 (xcO (tn (S 15 0)) (X 15) R0 (fun y9 => tn (S 16 y9)) (fun y9 => tn (S 17 y9)) (if (tn (S 15 0)) ≤ 0 then nI 0 else xmo R0 (tn (S 16 0)) (tn (S 17 0))) τ4 i).1 (if (tn (S 15 0)) ≤ 0 then R0 else xuse R0 (tn (S 16 0)) (tn (S 17 0)) ((if (tn (S 15 0)) ≤ 0 then nI 0 else xmo R0 (tn (S 16 0)) (tn (S 17 0))) - nI i)) (xcO (tn (S 15 0)) (X 15) R0 (fun y9 => tn (S 16 y9)) (fun y9 => tn (S 17 y9)) (if (tn (S 15 0)) ≤ 0 then nI 0 else xmo R0 (tn (S 16 0)) (tn (S 17 0))) τ4 i).2 τ5, wk q kd K]) hM [1] [0, 2] rfl rfl rfl (by decide) (x_runS (As := [.ref (sd 0), .int ((if (tn (S 15 0)) ≤ 0 then nI 0 else xmo R0 (tn (S 16 0)) (tn (S 17 0))) - nI i), .int (if (tn (S 15 0)) ≤ 1 then nI 0 else xmo (if (tn (S 15 0)) ≤ 0 then R0 else xuse R0 (tn (S 16 0)) (tn (S 17 0)) ((if (tn (S 15 0)) ≤ 0 then nI 0 else xmo R0 (tn (S 16 0)) (tn (S 17 0))) - nI i)) (tn (S 16 1)) (tn (S 17 1))), .int (if (tn (S 15 0)) ≤ 2 then nI 0 else xmo (if (tn (S 15 0)) ≤ 0 then R0 else xuse R0 (tn (S 16 0)) (tn (S 17 0)) ((if (tn (S 15 0)) ≤ 0 then nI 0 else xmo R0 (tn (S 16 0)) (tn (S 17 0))) - nI i)) (tn (S 16 2)) (tn (S 17 2)))]) (rest := []) hfix (c_X6_worthOf l D q sd X ((if (tn (S 15 0)) ≤ 0 then nI 0 else xmo R0 (tn (S 16 0)) (tn (S 17 0))) - nI i) (if (tn (S 15 0)) ≤ 1 then nI 0 else xmo (if (tn (S 15 0)) ≤ 0 then R0 else xuse R0 (tn (S 16 0)) (tn (S 17 0)) ((if (tn (S 15 0)) ≤ 0 then nI 0 else xmo R0 (tn (S 16 0)) (tn (S 17 0))) - nI i)) (tn (S 16 1)) (tn (S 17 1))) (if (tn (S 15 0)) ≤ 2 then nI 0 else xmo (if (tn (S 15 0)) ≤ 0 then R0 else xuse R0 (tn (S 16 0)) (tn (S 17 0)) ((if (tn (S 15 0)) ≤ 0 then nI 0 else xmo R0 (tn (S 16 0)) (tn (S 17 0))) - nI i)) (tn (S 16 2)) (tn (S 17 2)))) (va_cwS 4 hts gX6_cook_X6_worthOf rfl rfl rfl (by decide +kernel) ⟨Nat.le_of_ble_eq_true rfl, Nat.le_of_ble_eq_true rfl⟩) hM [1] rfl rfl rfl hl.1 rfl (Nat.le_of_ble_eq_true rfl) dX6_cook_43 ⟨Nat.le_of_ble_eq_true rfl, Nat.le_of_ble_eq_true rfl⟩) (fun r u H locs hq hM => ?_)
    subst hq
    have hM : xM D (TY q) [w6 q ad τ0 τ1 (xcO (tn (S 15 0)) (X 15) R0 (fun y9 => tn (S 16 y9)) (fun y9 => tn (S 17 y9)) (if (tn (S 15 0)) ≤ 0 then nI 0 else xmo R0 (tn (S 16 0)) (tn (S 17 0))) τ4 i).1 (if (tn (S 15 0)) ≤ 0 then R0 else xuse R0 (tn (S 16 0)) (tn (S 17 0)) ((if (tn (S 15 0)) ≤ 0 then nI 0 else xmo R0 (tn (S 16 0)) (tn (S 17 0))) - nI i)) (xcO (tn (S 15 0)) (X 15) R0 (fun y9 => tn (S 16 y9)) (fun y9 => tn (S 17 y9)) (if (tn (S 15 0)) ≤ 0 then nI 0 else xmo R0 (tn (S 16 0)) (tn (S 17 0))) τ4 i).2 τ5, wk q kd K, wst q sd X] A s.heap s H locs := hM
    have hM : xM D (TY q) [w6 q ad τ0 τ1 (xcO (tn (S 15 0)) (X 15) R0 (fun y9 => tn (S 16 y9)) (fun y9 => tn (S 17 y9)) (if (tn (S 15 0)) ≤ 0 then nI 0 else xmo R0 (tn (S 16 0)) (tn (S 17 0))) τ4 i).1 (if (tn (S 15 0)) ≤ 0 then R0 else xuse R0 (tn (S 16 0)) (tn (S 17 0)) ((if (tn (S 15 0)) ≤ 0 then nI 0 else xmo R0 (tn (S 16 0)) (tn (S 17 0))) - nI i)) (xcO (tn (S 15 0)) (X 15) R0 (fun y9 => tn (S 16 y9)) (fun y9 => tn (S 17 y9)) (if (tn (S 15 0)) ≤ 0 then nI 0 else xmo R0 (tn (S 16 0)) (tn (S 17 0))) τ4 i).2 τ5, wst q sd X, wk q kd K] A s.heap s H locs := hM.sel [0, 2, 1] rfl rfl
    refine lv_aload_n hx hb dX6_cook_46 rfl (lv_at hl 0 rfl) ?_
    refine x_get hx hb hts iwX6_cook_X6 hown hM 0 0 rfl rfl rfl 2 (by decide) (hts _ lkX6_cook_64) (fun _ h => h) rfl dX6_cook_47 ?_
    refine lv_icmp_le (tgt := 59) hx hb dX6_cook_50 (by decide) (fun c11 => ?_) (fun c11 => ?_)
    · refine lv_aload_n hx hb dX6_cook_59 rfl (lv_at hl 0 rfl) ?_
      refine lv_aload_n hx hb dX6_cook_60 rfl (lv_at hl 1 rfl) ?_
      refine lv_iconst (v := nI 0) hx hb dX6_cook_61 (by decide) ?_
      refine lv_iload_n hx hb dX6_cook_62 rfl (lv_at hl 3 rfl) ?_
      refine lv_ineg hx hb dX6_cook_63 ?_
      refine x_callv (bc := [w6 q ad τ0 τ1 (xcO (tn (S 15 0)) (X 15) R0 (fun y9 => tn (S 16 y9)) (fun y9 => tn (S 17 y9)) (if (tn (S 15 0)) ≤ 0 then nI 0 else xmo R0 (tn (S 16 0)) (tn (S 17 0))) τ4 i).1 (if (tn (S 15 0)) ≤ 0 then R0 else xuse R0 (tn (S 16 0)) (tn (S 17 0)) ((if (tn (S 15 0)) ≤ 0 then nI 0 else xmo R0 (tn (S 16 0)) (tn (S 17 0))) - nI i)) (xcO (tn (S 15 0)) (X 15) R0 (fun y9 => tn (S 16 y9)) (fun y9 => tn (S 17 y9)) (if (tn (S 15 0)) ≤ 0 then nI 0 else xmo R0 (tn (S 16 0)) (tn (S 17 0))) τ4 i).2 τ5, wst q sd X]) (br := [wk q kd K]) hM [0, 1] [2] rfl rfl rfl (by decide) (x_runV (As := [.ref (sd 0), .int (nI 0), .int (-((if (tn (S 15 0)) ≤ 0 then nI 0 else xmo R0 (tn (S 16 0)) (tn (S 17 0))) - nI i))]) (rest := []) hfix (c_X6_use l D q ad τ0 τ1 (xcO (tn (S 15 0)) (X 15) R0 (fun y9 => tn (S 16 y9)) (fun y9 => tn (S 17 y9)) (if (tn (S 15 0)) ≤ 0 then nI 0 else xmo R0 (tn (S 16 0)) (tn (S 17 0))) τ4 i).1 (if (tn (S 15 0)) ≤ 0 then R0 else xuse R0 (tn (S 16 0)) (tn (S 17 0)) ((if (tn (S 15 0)) ≤ 0 then nI 0 else xmo R0 (tn (S 16 0)) (tn (S 17 0))) - nI i)) (xcO (tn (S 15 0)) (X 15) R0 (fun y9 => tn (S 16 y9)) (fun y9 => tn (S 17 y9)) (if (tn (S 15 0)) ≤ 0 then nI 0 else xmo R0 (tn (S 16 0)) (tn (S 17 0))) τ4 i).2 τ5 sd X S 0 (-((if (tn (S 15 0)) ≤ 0 then nI 0 else xmo R0 (tn (S 16 0)) (tn (S 17 0))) - nI i)) hT (by omega)) (cwV 3 hts gX6_cook_X6_use rfl rfl rfl (by decide +kernel) ⟨Nat.le_of_ble_eq_true rfl, Nat.le_of_ble_eq_true rfl⟩) hM [0, 1] rfl rfl 0 0 rfl rfl rfl rfl rfl hl.1 rfl (Nat.le_of_ble_eq_true rfl) dX6_cook_64 ⟨Nat.le_of_ble_eq_true rfl, Nat.le_of_ble_eq_true rfl⟩) (fun u H locs hq hM => ?_)
      have hM : xM D (TY q) [wk q kd K, w6 q ad τ0 τ1 (xcO (tn (S 15 0)) (X 15) R0 (fun y9 => tn (S 16 y9)) (fun y9 => tn (S 17 y9)) (if (tn (S 15 0)) ≤ 0 then nI 0 else xmo R0 (tn (S 16 0)) (tn (S 17 0))) τ4 i).1 (if (tn (S 15 0)) ≤ 0 then (if (tn (S 15 0)) ≤ 0 then R0 else xuse R0 (tn (S 16 0)) (tn (S 17 0)) ((if (tn (S 15 0)) ≤ 0 then nI 0 else xmo R0 (tn (S 16 0)) (tn (S 17 0))) - nI i)) else xuse (if (tn (S 15 0)) ≤ 0 then R0 else xuse R0 (tn (S 16 0)) (tn (S 17 0)) ((if (tn (S 15 0)) ≤ 0 then nI 0 else xmo R0 (tn (S 16 0)) (tn (S 17 0))) - nI i)) (tn (S 16 0)) (tn (S 17 0)) (-((if (tn (S 15 0)) ≤ 0 then nI 0 else xmo R0 (tn (S 16 0)) (tn (S 17 0))) - nI i))) (xcO (tn (S 15 0)) (X 15) R0 (fun y9 => tn (S 16 y9)) (fun y9 => tn (S 17 y9)) (if (tn (S 15 0)) ≤ 0 then nI 0 else xmo R0 (tn (S 16 0)) (tn (S 17 0))) τ4 i).2 τ5, wst q sd X] A s.heap s H locs := hM
      have hM : xM D (TY q) [w6 q ad τ0 τ1 (xcO (tn (S 15 0)) (X 15) R0 (fun y9 => tn (S 16 y9)) (fun y9 => tn (S 17 y9)) (if (tn (S 15 0)) ≤ 0 then nI 0 else xmo R0 (tn (S 16 0)) (tn (S 17 0))) τ4 i).1 (if (tn (S 15 0)) ≤ 0 then (if (tn (S 15 0)) ≤ 0 then R0 else xuse R0 (tn (S 16 0)) (tn (S 17 0)) ((if (tn (S 15 0)) ≤ 0 then nI 0 else xmo R0 (tn (S 16 0)) (tn (S 17 0))) - nI i)) else xuse (if (tn (S 15 0)) ≤ 0 then R0 else xuse R0 (tn (S 16 0)) (tn (S 17 0)) ((if (tn (S 15 0)) ≤ 0 then nI 0 else xmo R0 (tn (S 16 0)) (tn (S 17 0))) - nI i)) (tn (S 16 0)) (tn (S 17 0)) (-((if (tn (S 15 0)) ≤ 0 then nI 0 else xmo R0 (tn (S 16 0)) (tn (S 17 0))) - nI i))) (xcO (tn (S 15 0)) (X 15) R0 (fun y9 => tn (S 16 y9)) (fun y9 => tn (S 17 y9)) (if (tn (S 15 0)) ≤ 0 then nI 0 else xmo R0 (tn (S 16 0)) (tn (S 17 0))) τ4 i).2 τ5, wst q sd X, wk q kd K] A s.heap s H locs := hM.sel [1, 2, 0] rfl rfl
      refine lv_iinc (v := (if (tn (S 15 0)) ≤ 0 then nI 0 else xmo R0 (tn (S 16 0)) (tn (S 17 0))) - nI i + (-1)) (lv' := [(3, .int ((if (tn (S 15 0)) ≤ 0 then nI 0 else xmo R0 (tn (S 16 0)) (tn (S 17 0))) - nI i + (-1))), (0, .ref (ad 0)), (1, .ref (sd 0)), (2, .ref (kd 0))]) hx hb dX6_cook_67 hl (k := 3) rfl rfl (by decide) rfl (fun ls hl => ?_)
      refine lv_goto (tgt := 18) hx hb dX6_cook_70 (by decide) ?_
      have e12 : (((xcO (tn (S 15 0)) (X 15) R0 (fun y9 => tn (S 16 y9)) (fun y9 => tn (S 17 y9)) (if (tn (S 15 0)) ≤ 0 then nI 0 else xmo R0 (tn (S 16 0)) (tn (S 17 0))) τ4 i).1) : Int32) = ((xcO (tn (S 15 0)) (X 15) R0 (fun y9 => tn (S 16 y9)) (fun y9 => tn (S 17 y9)) (if (tn (S 15 0)) ≤ 0 then nI 0 else xmo R0 (tn (S 16 0)) (tn (S 17 0))) τ4 (i + 1)).1) := by (first | exact (congrArg Prod.fst (xcO_1 (by assumption))).symm | exact (congrArg Prod.fst (xcO_0 (by assumption))).symm)
      have hM : xM D (TY q) [w6 q ad τ0 τ1 (xcO (tn (S 15 0)) (X 15) R0 (fun y9 => tn (S 16 y9)) (fun y9 => tn (S 17 y9)) (if (tn (S 15 0)) ≤ 0 then nI 0 else xmo R0 (tn (S 16 0)) (tn (S 17 0))) τ4 (i + 1)).1 (if (tn (S 15 0)) ≤ 0 then (if (tn (S 15 0)) ≤ 0 then R0 else xuse R0 (tn (S 16 0)) (tn (S 17 0)) ((if (tn (S 15 0)) ≤ 0 then nI 0 else xmo R0 (tn (S 16 0)) (tn (S 17 0))) - nI i)) else xuse (if (tn (S 15 0)) ≤ 0 then R0 else xuse R0 (tn (S 16 0)) (tn (S 17 0)) ((if (tn (S 15 0)) ≤ 0 then nI 0 else xmo R0 (tn (S 16 0)) (tn (S 17 0))) - nI i)) (tn (S 16 0)) (tn (S 17 0)) (-((if (tn (S 15 0)) ≤ 0 then nI 0 else xmo R0 (tn (S 16 0)) (tn (S 17 0))) - nI i))) (xcO (tn (S 15 0)) (X 15) R0 (fun y9 => tn (S 16 y9)) (fun y9 => tn (S 17 y9)) (if (tn (S 15 0)) ≤ 0 then nI 0 else xmo R0 (tn (S 16 0)) (tn (S 17 0))) τ4 i).2 τ5, wst q sd X, wk q kd K] A s.heap s H locs := Eq.mp (congrArg (fun z9 => xM D (TY q) [w6 q ad τ0 τ1 z9 (if (tn (S 15 0)) ≤ 0 then (if (tn (S 15 0)) ≤ 0 then R0 else xuse R0 (tn (S 16 0)) (tn (S 17 0)) ((if (tn (S 15 0)) ≤ 0 then nI 0 else xmo R0 (tn (S 16 0)) (tn (S 17 0))) - nI i)) else xuse (if (tn (S 15 0)) ≤ 0 then R0 else xuse R0 (tn (S 16 0)) (tn (S 17 0)) ((if (tn (S 15 0)) ≤ 0 then nI 0 else xmo R0 (tn (S 16 0)) (tn (S 17 0))) - nI i)) (tn (S 16 0)) (tn (S 17 0)) (-((if (tn (S 15 0)) ≤ 0 then nI 0 else xmo R0 (tn (S 16 0)) (tn (S 17 0))) - nI i))) (xcO (tn (S 15 0)) (X 15) R0 (fun y9 => tn (S 16 y9)) (fun y9 => tn (S 17 y9)) (if (tn (S 15 0)) ≤ 0 then nI 0 else xmo R0 (tn (S 16 0)) (tn (S 17 0))) τ4 i).2 τ5, wst q sd X, wk q kd K] A s.heap s H locs) e12) hM
      have e13 : (((if (tn (S 15 0)) ≤ 0 then (if (tn (S 15 0)) ≤ 0 then R0 else xuse R0 (tn (S 16 0)) (tn (S 17 0)) ((if (tn (S 15 0)) ≤ 0 then nI 0 else xmo R0 (tn (S 16 0)) (tn (S 17 0))) - nI i)) else xuse (if (tn (S 15 0)) ≤ 0 then R0 else xuse R0 (tn (S 16 0)) (tn (S 17 0)) ((if (tn (S 15 0)) ≤ 0 then nI 0 else xmo R0 (tn (S 16 0)) (tn (S 17 0))) - nI i)) (tn (S 16 0)) (tn (S 17 0)) (-((if (tn (S 15 0)) ≤ 0 then nI 0 else xmo R0 (tn (S 16 0)) (tn (S 17 0))) - nI i)))) : Nat → Int32) = (R0) := by exact xuse_b
      have hM : xM D (TY q) [w6 q ad τ0 τ1 (xcO (tn (S 15 0)) (X 15) R0 (fun y9 => tn (S 16 y9)) (fun y9 => tn (S 17 y9)) (if (tn (S 15 0)) ≤ 0 then nI 0 else xmo R0 (tn (S 16 0)) (tn (S 17 0))) τ4 (i + 1)).1 R0 (xcO (tn (S 15 0)) (X 15) R0 (fun y9 => tn (S 16 y9)) (fun y9 => tn (S 17 y9)) (if (tn (S 15 0)) ≤ 0 then nI 0 else xmo R0 (tn (S 16 0)) (tn (S 17 0))) τ4 i).2 τ5, wst q sd X, wk q kd K] A s.heap s H locs := Eq.mp (congrArg (fun z9 => xM D (TY q) [w6 q ad τ0 τ1 (xcO (tn (S 15 0)) (X 15) R0 (fun y9 => tn (S 16 y9)) (fun y9 => tn (S 17 y9)) (if (tn (S 15 0)) ≤ 0 then nI 0 else xmo R0 (tn (S 16 0)) (tn (S 17 0))) τ4 (i + 1)).1 z9 (xcO (tn (S 15 0)) (X 15) R0 (fun y9 => tn (S 16 y9)) (fun y9 => tn (S 17 y9)) (if (tn (S 15 0)) ≤ 0 then nI 0 else xmo R0 (tn (S 16 0)) (tn (S 17 0))) τ4 i).2 τ5, wst q sd X, wk q kd K] A s.heap s H locs) e13) hM
      have e14 : (((xcO (tn (S 15 0)) (X 15) R0 (fun y9 => tn (S 16 y9)) (fun y9 => tn (S 17 y9)) (if (tn (S 15 0)) ≤ 0 then nI 0 else xmo R0 (tn (S 16 0)) (tn (S 17 0))) τ4 i).2) : Nat → Int32) = ((xcO (tn (S 15 0)) (X 15) R0 (fun y9 => tn (S 16 y9)) (fun y9 => tn (S 17 y9)) (if (tn (S 15 0)) ≤ 0 then nI 0 else xmo R0 (tn (S 16 0)) (tn (S 17 0))) τ4 (i + 1)).2) := by (first | exact (congrArg Prod.snd (xcO_1 (by assumption))).symm | exact (congrArg Prod.snd (xcO_0 (by assumption))).symm)
      have hM : xM D (TY q) [w6 q ad τ0 τ1 (xcO (tn (S 15 0)) (X 15) R0 (fun y9 => tn (S 16 y9)) (fun y9 => tn (S 17 y9)) (if (tn (S 15 0)) ≤ 0 then nI 0 else xmo R0 (tn (S 16 0)) (tn (S 17 0))) τ4 (i + 1)).1 R0 (xcO (tn (S 15 0)) (X 15) R0 (fun y9 => tn (S 16 y9)) (fun y9 => tn (S 17 y9)) (if (tn (S 15 0)) ≤ 0 then nI 0 else xmo R0 (tn (S 16 0)) (tn (S 17 0))) τ4 (i + 1)).2 τ5, wst q sd X, wk q kd K] A s.heap s H locs := Eq.mp (congrArg (fun z9 => xM D (TY q) [w6 q ad τ0 τ1 (xcO (tn (S 15 0)) (X 15) R0 (fun y9 => tn (S 16 y9)) (fun y9 => tn (S 17 y9)) (if (tn (S 15 0)) ≤ 0 then nI 0 else xmo R0 (tn (S 16 0)) (tn (S 17 0))) τ4 (i + 1)).1 R0 z9 τ5, wst q sd X, wk q kd K] A s.heap s H locs) e14) hM
      have hl : lv_has ls 4 [(0, .ref (ad 0)), (1, .ref (sd 0)), (2, .ref (kd 0)), (3, .int ((if (tn (S 15 0)) ≤ 0 then nI 0 else xmo R0 (tn (S 16 0)) (tn (S 17 0))) - nI i + (-1)))] := lv_sub hl [1, 2, 3, 0] rfl
      have e15 : (if (tn (S 15 0)) ≤ 0 then nI 0 else xmo R0 (tn (S 16 0)) (tn (S 17 0))) - nI i + (-1) = (if (tn (S 15 0)) ≤ 0 then nI 0 else xmo R0 (tn (S 16 0)) (tn (S 17 0))) - nI (i + 1) := by exact xdn_s _ _
      have hl : lv_has ls 4 [(0, .ref (ad 0)), (1, .ref (sd 0)), (2, .ref (kd 0)), (3, .int ((if (tn (S 15 0)) ≤ 0 then nI 0 else xmo R0 (tn (S 16 0)) (tn (S 17 0))) - nI (i + 1)))] := x_lvset hl 3 rfl (congrArg Value.int e15) rfl
      exact ih5 (i + 1) (show (((if (tn (S 15 0)) ≤ 0 then nI 0 else xmo R0 (tn (S 16 0)) (tn (S 17 0)))).toInt + 1 - (i + 1)).toNat < (((if (tn (S 15 0)) ≤ 0 then nI 0 else xmo R0 (tn (S 16 0)) (tn (S 17 0)))).toInt + 1 - i).toNat from by have h9 := xdn_go hI9 (by assumption : ¬ (if (tn (S 15 0)) ≤ 0 then nI 0 else xmo R0 (tn (S 16 0)) (tn (S 17 0))) - nI i < 0); omega) (show ((i + 1) = 0 ∨ ((i + 1) : Int) ≤ ((if (tn (S 15 0)) ≤ 0 then nI 0 else xmo R0 (tn (S 16 0)) (tn (S 17 0)))).toInt + 1) from Or.inr (xdn_go hI9 (by assumption : ¬ (if (tn (S 15 0)) ≤ 0 then nI 0 else xmo R0 (tn (S 16 0)) (tn (S 17 0))) - nI i < 0))) _ _ hM _ hl
    · refine lv_aload_n hx hb dX6_cook_53 rfl (lv_at hl 0 rfl) ?_
      refine lv_aload_n hx hb dX6_cook_54 rfl (lv_at hl 1 rfl) ?_
      refine lv_iload_n hx hb dX6_cook_55 rfl (lv_at hl 3 rfl) ?_
      refine x_callv (bc := [w6 q ad τ0 τ1 (xcO (tn (S 15 0)) (X 15) R0 (fun y9 => tn (S 16 y9)) (fun y9 => tn (S 17 y9)) (if (tn (S 15 0)) ≤ 0 then nI 0 else xmo R0 (tn (S 16 0)) (tn (S 17 0))) τ4 i).1 (if (tn (S 15 0)) ≤ 0 then R0 else xuse R0 (tn (S 16 0)) (tn (S 17 0)) ((if (tn (S 15 0)) ≤ 0 then nI 0 else xmo R0 (tn (S 16 0)) (tn (S 17 0))) - nI i)) (xcO (tn (S 15 0)) (X 15) R0 (fun y9 => tn (S 16 y9)) (fun y9 => tn (S 17 y9)) (if (tn (S 15 0)) ≤ 0 then nI 0 else xmo R0 (tn (S 16 0)) (tn (S 17 0))) τ4 i).2 τ5, wst q sd X]) (br := [wk q kd K]) hM [0, 1] [2] rfl rfl rfl (by decide) (x_runV (As := [.ref (sd 0), .int ((if (tn (S 15 0)) ≤ 0 then nI 0 else xmo R0 (tn (S 16 0)) (tn (S 17 0))) - nI i)]) (rest := []) hfix (c_X6_cookBehind l D q ad τ0 τ1 (xcO (tn (S 15 0)) (X 15) R0 (fun y9 => tn (S 16 y9)) (fun y9 => tn (S 17 y9)) (if (tn (S 15 0)) ≤ 0 then nI 0 else xmo R0 (tn (S 16 0)) (tn (S 17 0))) τ4 i).1 (if (tn (S 15 0)) ≤ 0 then R0 else xuse R0 (tn (S 16 0)) (tn (S 17 0)) ((if (tn (S 15 0)) ≤ 0 then nI 0 else xmo R0 (tn (S 16 0)) (tn (S 17 0))) - nI i)) (xcO (tn (S 15 0)) (X 15) R0 (fun y9 => tn (S 16 y9)) (fun y9 => tn (S 17 y9)) (if (tn (S 15 0)) ≤ 0 then nI 0 else xmo R0 (tn (S 16 0)) (tn (S 17 0))) τ4 i).2 τ5 sd X S ((if (tn (S 15 0)) ≤ 0 then nI 0 else xmo R0 (tn (S 16 0)) (tn (S 17 0))) - nI i) hT) (cwV 2 hts gX6_cook_X6_cookBehind rfl rfl rfl (by decide +kernel) ⟨Nat.le_of_ble_eq_true rfl, Nat.le_of_ble_eq_true rfl⟩) hM [0, 1] rfl rfl 0 0 rfl rfl rfl rfl rfl hl.1 rfl (Nat.le_of_ble_eq_true rfl) dX6_cook_56 ⟨Nat.le_of_ble_eq_true rfl, Nat.le_of_ble_eq_true rfl⟩) (fun u H locs hq hM => ?_)
      have hM : xM D (TY q) [wk q kd K, w6 q ad τ0 τ1 (xcIn (tn (S 15 0)) (X 15) (if (tn (S 15 0)) ≤ 0 then R0 else xuse R0 (tn (S 16 0)) (tn (S 17 0)) ((if (tn (S 15 0)) ≤ 0 then nI 0 else xmo R0 (tn (S 16 0)) (tn (S 17 0))) - nI i)) (tn (S 16 1)) (tn (S 17 1)) (tn (S 16 2)) (tn (S 17 2)) ((if (tn (S 15 0)) ≤ 0 then nI 0 else xmo R0 (tn (S 16 0)) (tn (S 17 0))) - nI i) (if (tn (S 15 0)) ≤ 1 then nI 0 else xmo (if (tn (S 15 0)) ≤ 0 then R0 else xuse R0 (tn (S 16 0)) (tn (S 17 0)) ((if (tn (S 15 0)) ≤ 0 then nI 0 else xmo R0 (tn (S 16 0)) (tn (S 17 0))) - nI i)) (tn (S 16 1)) (tn (S 17 1))) ((xcO (tn (S 15 0)) (X 15) R0 (fun y9 => tn (S 16 y9)) (fun y9 => tn (S 17 y9)) (if (tn (S 15 0)) ≤ 0 then nI 0 else xmo R0 (tn (S 16 0)) (tn (S 17 0))) τ4 i).1, (xcO (tn (S 15 0)) (X 15) R0 (fun y9 => tn (S 16 y9)) (fun y9 => tn (S 17 y9)) (if (tn (S 15 0)) ≤ 0 then nI 0 else xmo R0 (tn (S 16 0)) (tn (S 17 0))) τ4 i).2) ((if (tn (S 15 0)) ≤ 1 then nI 0 else xmo (if (tn (S 15 0)) ≤ 0 then R0 else xuse R0 (tn (S 16 0)) (tn (S 17 0)) ((if (tn (S 15 0)) ≤ 0 then nI 0 else xmo R0 (tn (S 16 0)) (tn (S 17 0))) - nI i)) (tn (S 16 1)) (tn (S 17 1))).toInt + 1).toNat).1 (if (tn (S 15 0)) ≤ 0 then R0 else xuse R0 (tn (S 16 0)) (tn (S 17 0)) ((if (tn (S 15 0)) ≤ 0 then nI 0 else xmo R0 (tn (S 16 0)) (tn (S 17 0))) - nI i)) (xcIn (tn (S 15 0)) (X 15) (if (tn (S 15 0)) ≤ 0 then R0 else xuse R0 (tn (S 16 0)) (tn (S 17 0)) ((if (tn (S 15 0)) ≤ 0 then nI 0 else xmo R0 (tn (S 16 0)) (tn (S 17 0))) - nI i)) (tn (S 16 1)) (tn (S 17 1)) (tn (S 16 2)) (tn (S 17 2)) ((if (tn (S 15 0)) ≤ 0 then nI 0 else xmo R0 (tn (S 16 0)) (tn (S 17 0))) - nI i) (if (tn (S 15 0)) ≤ 1 then nI 0 else xmo (if (tn (S 15 0)) ≤ 0 then R0 else xuse R0 (tn (S 16 0)) (tn (S 17 0)) ((if (tn (S 15 0)) ≤ 0 then nI 0 else xmo R0 (tn (S 16 0)) (tn (S 17 0))) - nI i)) (tn (S 16 1)) (tn (S 17 1))) ((xcO (tn (S 15 0)) (X 15) R0 (fun y9 => tn (S 16 y9)) (fun y9 => tn (S 17 y9)) (if (tn (S 15 0)) ≤ 0 then nI 0 else xmo R0 (tn (S 16 0)) (tn (S 17 0))) τ4 i).1, (xcO (tn (S 15 0)) (X 15) R0 (fun y9 => tn (S 16 y9)) (fun y9 => tn (S 17 y9)) (if (tn (S 15 0)) ≤ 0 then nI 0 else xmo R0 (tn (S 16 0)) (tn (S 17 0))) τ4 i).2) ((if (tn (S 15 0)) ≤ 1 then nI 0 else xmo (if (tn (S 15 0)) ≤ 0 then R0 else xuse R0 (tn (S 16 0)) (tn (S 17 0)) ((if (tn (S 15 0)) ≤ 0 then nI 0 else xmo R0 (tn (S 16 0)) (tn (S 17 0))) - nI i)) (tn (S 16 1)) (tn (S 17 1))).toInt + 1).toNat).2 τ5, wst q sd X] A s.heap s H locs := hM
      have hM : xM D (TY q) [w6 q ad τ0 τ1 (xcIn (tn (S 15 0)) (X 15) (if (tn (S 15 0)) ≤ 0 then R0 else xuse R0 (tn (S 16 0)) (tn (S 17 0)) ((if (tn (S 15 0)) ≤ 0 then nI 0 else xmo R0 (tn (S 16 0)) (tn (S 17 0))) - nI i)) (tn (S 16 1)) (tn (S 17 1)) (tn (S 16 2)) (tn (S 17 2)) ((if (tn (S 15 0)) ≤ 0 then nI 0 else xmo R0 (tn (S 16 0)) (tn (S 17 0))) - nI i) (if (tn (S 15 0)) ≤ 1 then nI 0 else xmo (if (tn (S 15 0)) ≤ 0 then R0 else xuse R0 (tn (S 16 0)) (tn (S 17 0)) ((if (tn (S 15 0)) ≤ 0 then nI 0 else xmo R0 (tn (S 16 0)) (tn (S 17 0))) - nI i)) (tn (S 16 1)) (tn (S 17 1))) ((xcO (tn (S 15 0)) (X 15) R0 (fun y9 => tn (S 16 y9)) (fun y9 => tn (S 17 y9)) (if (tn (S 15 0)) ≤ 0 then nI 0 else xmo R0 (tn (S 16 0)) (tn (S 17 0))) τ4 i).1, (xcO (tn (S 15 0)) (X 15) R0 (fun y9 => tn (S 16 y9)) (fun y9 => tn (S 17 y9)) (if (tn (S 15 0)) ≤ 0 then nI 0 else xmo R0 (tn (S 16 0)) (tn (S 17 0))) τ4 i).2) ((if (tn (S 15 0)) ≤ 1 then nI 0 else xmo (if (tn (S 15 0)) ≤ 0 then R0 else xuse R0 (tn (S 16 0)) (tn (S 17 0)) ((if (tn (S 15 0)) ≤ 0 then nI 0 else xmo R0 (tn (S 16 0)) (tn (S 17 0))) - nI i)) (tn (S 16 1)) (tn (S 17 1))).toInt + 1).toNat).1 (if (tn (S 15 0)) ≤ 0 then R0 else xuse R0 (tn (S 16 0)) (tn (S 17 0)) ((if (tn (S 15 0)) ≤ 0 then nI 0 else xmo R0 (tn (S 16 0)) (tn (S 17 0))) - nI i)) (xcIn (tn (S 15 0)) (X 15) (if (tn (S 15 0)) ≤ 0 then R0 else xuse R0 (tn (S 16 0)) (tn (S 17 0)) ((if (tn (S 15 0)) ≤ 0 then nI 0 else xmo R0 (tn (S 16 0)) (tn (S 17 0))) - nI i)) (tn (S 16 1)) (tn (S 17 1)) (tn (S 16 2)) (tn (S 17 2)) ((if (tn (S 15 0)) ≤ 0 then nI 0 else xmo R0 (tn (S 16 0)) (tn (S 17 0))) - nI i) (if (tn (S 15 0)) ≤ 1 then nI 0 else xmo (if (tn (S 15 0)) ≤ 0 then R0 else xuse R0 (tn (S 16 0)) (tn (S 17 0)) ((if (tn (S 15 0)) ≤ 0 then nI 0 else xmo R0 (tn (S 16 0)) (tn (S 17 0))) - nI i)) (tn (S 16 1)) (tn (S 17 1))) ((xcO (tn (S 15 0)) (X 15) R0 (fun y9 => tn (S 16 y9)) (fun y9 => tn (S 17 y9)) (if (tn (S 15 0)) ≤ 0 then nI 0 else xmo R0 (tn (S 16 0)) (tn (S 17 0))) τ4 i).1, (xcO (tn (S 15 0)) (X 15) R0 (fun y9 => tn (S 16 y9)) (fun y9 => tn (S 17 y9)) (if (tn (S 15 0)) ≤ 0 then nI 0 else xmo R0 (tn (S 16 0)) (tn (S 17 0))) τ4 i).2) ((if (tn (S 15 0)) ≤ 1 then nI 0 else xmo (if (tn (S 15 0)) ≤ 0 then R0 else xuse R0 (tn (S 16 0)) (tn (S 17 0)) ((if (tn (S 15 0)) ≤ 0 then nI 0 else xmo R0 (tn (S 16 0)) (tn (S 17 0))) - nI i)) (tn (S 16 1)) (tn (S 17 1))).toInt + 1).toNat).2 τ5, wst q sd X, wk q kd K] A s.heap s H locs := hM.sel [1, 2, 0] rfl rfl
      refine lv_aload_n hx hb dX6_cook_59 rfl (lv_at hl 0 rfl) ?_
      refine lv_aload_n hx hb dX6_cook_60 rfl (lv_at hl 1 rfl) ?_
      refine lv_iconst (v := nI 0) hx hb dX6_cook_61 (by decide) ?_
      refine lv_iload_n hx hb dX6_cook_62 rfl (lv_at hl 3 rfl) ?_
      refine lv_ineg hx hb dX6_cook_63 ?_
      refine x_callv (bc := [w6 q ad τ0 τ1 (xcIn (tn (S 15 0)) (X 15) (if (tn (S 15 0)) ≤ 0 then R0 else xuse R0 (tn (S 16 0)) (tn (S 17 0)) ((if (tn (S 15 0)) ≤ 0 then nI 0 else xmo R0 (tn (S 16 0)) (tn (S 17 0))) - nI i)) (tn (S 16 1)) (tn (S 17 1)) (tn (S 16 2)) (tn (S 17 2)) ((if (tn (S 15 0)) ≤ 0 then nI 0 else xmo R0 (tn (S 16 0)) (tn (S 17 0))) - nI i) (if (tn (S 15 0)) ≤ 1 then nI 0 else xmo (if (tn (S 15 0)) ≤ 0 then R0 else xuse R0 (tn (S 16 0)) (tn (S 17 0)) ((if (tn (S 15 0)) ≤ 0 then nI 0 else xmo R0 (tn (S 16 0)) (tn (S 17 0))) - nI i)) (tn (S 16 1)) (tn (S 17 1))) ((xcO (tn (S 15 0)) (X 15) R0 (fun y9 => tn (S 16 y9)) (fun y9 => tn (S 17 y9)) (if (tn (S 15 0)) ≤ 0 then nI 0 else xmo R0 (tn (S 16 0)) (tn (S 17 0))) τ4 i).1, (xcO (tn (S 15 0)) (X 15) R0 (fun y9 => tn (S 16 y9)) (fun y9 => tn (S 17 y9)) (if (tn (S 15 0)) ≤ 0 then nI 0 else xmo R0 (tn (S 16 0)) (tn (S 17 0))) τ4 i).2) ((if (tn (S 15 0)) ≤ 1 then nI 0 else xmo (if (tn (S 15 0)) ≤ 0 then R0 else xuse R0 (tn (S 16 0)) (tn (S 17 0)) ((if (tn (S 15 0)) ≤ 0 then nI 0 else xmo R0 (tn (S 16 0)) (tn (S 17 0))) - nI i)) (tn (S 16 1)) (tn (S 17 1))).toInt + 1).toNat).1 (if (tn (S 15 0)) ≤ 0 then R0 else xuse R0 (tn (S 16 0)) (tn (S 17 0)) ((if (tn (S 15 0)) ≤ 0 then nI 0 else xmo R0 (tn (S 16 0)) (tn (S 17 0))) - nI i)) (xcIn (tn (S 15 0)) (X 15) (if (tn (S 15 0)) ≤ 0 then R0 else xuse R0 (tn (S 16 0)) (tn (S 17 0)) ((if (tn (S 15 0)) ≤ 0 then nI 0 else xmo R0 (tn (S 16 0)) (tn (S 17 0))) - nI i)) (tn (S 16 1)) (tn (S 17 1)) (tn (S 16 2)) (tn (S 17 2)) ((if (tn (S 15 0)) ≤ 0 then nI 0 else xmo R0 (tn (S 16 0)) (tn (S 17 0))) - nI i) (if (tn (S 15 0)) ≤ 1 then nI 0 else xmo (if (tn (S 15 0)) ≤ 0 then R0 else xuse R0 (tn (S 16 0)) (tn (S 17 0)) ((if (tn (S 15 0)) ≤ 0 then nI 0 else xmo R0 (tn (S 16 0)) (tn (S 17 0))) - nI i)) (tn (S 16 1)) (tn (S 17 1))) ((xcO (tn (S 15 0)) (X 15) R0 (fun y9 => tn (S 16 y9)) (fun y9 => tn (S 17 y9)) (if (tn (S 15 0)) ≤ 0 then nI 0 else xmo R0 (tn (S 16 0)) (tn (S 17 0))) τ4 i).1, (xcO (tn (S 15 0)) (X 15) R0 (fun y9 => tn (S 16 y9)) (fun y9 => tn (S 17 y9)) (if (tn (S 15 0)) ≤ 0 then nI 0 else xmo R0 (tn (S 16 0)) (tn (S 17 0))) τ4 i).2) ((if (tn (S 15 0)) ≤ 1 then nI 0 else xmo (if (tn (S 15 0)) ≤ 0 then R0 else xuse R0 (tn (S 16 0)) (tn (S 17 0)) ((if (tn (S 15 0)) ≤ 0 then nI 0 else xmo R0 (tn (S 16 0)) (tn (S 17 0))) - nI i)) (tn (S 16 1)) (tn (S 17 1))).toInt + 1).toNat).2 τ5, wst q sd X]) (br := [wk q kd K]) hM [0, 1] [2] rfl rfl rfl (by decide) (x_runV (As := [.ref (sd 0), .int (nI 0), .int (-((if (tn (S 15 0)) ≤ 0 then nI 0 else xmo R0 (tn (S 16 0)) (tn (S 17 0))) - nI i))]) (rest := []) hfix (c_X6_use l D q ad τ0 τ1 (xcIn (tn (S 15 0)) (X 15) (if (tn (S 15 0)) ≤ 0 then R0 else xuse R0 (tn (S 16 0)) (tn (S 17 0)) ((if (tn (S 15 0)) ≤ 0 then nI 0 else xmo R0 (tn (S 16 0)) (tn (S 17 0))) - nI i)) (tn (S 16 1)) (tn (S 17 1)) (tn (S 16 2)) (tn (S 17 2)) ((if (tn (S 15 0)) ≤ 0 then nI 0 else xmo R0 (tn (S 16 0)) (tn (S 17 0))) - nI i) (if (tn (S 15 0)) ≤ 1 then nI 0 else xmo (if (tn (S 15 0)) ≤ 0 then R0 else xuse R0 (tn (S 16 0)) (tn (S 17 0)) ((if (tn (S 15 0)) ≤ 0 then nI 0 else xmo R0 (tn (S 16 0)) (tn (S 17 0))) - nI i)) (tn (S 16 1)) (tn (S 17 1))) ((xcO (tn (S 15 0)) (X 15) R0 (fun y9 => tn (S 16 y9)) (fun y9 => tn (S 17 y9)) (if (tn (S 15 0)) ≤ 0 then nI 0 else xmo R0 (tn (S 16 0)) (tn (S 17 0))) τ4 i).1, (xcO (tn (S 15 0)) (X 15) R0 (fun y9 => tn (S 16 y9)) (fun y9 => tn (S 17 y9)) (if (tn (S 15 0)) ≤ 0 then nI 0 else xmo R0 (tn (S 16 0)) (tn (S 17 0))) τ4 i).2) ((if (tn (S 15 0)) ≤ 1 then nI 0 else xmo (if (tn (S 15 0)) ≤ 0 then R0 else xuse R0 (tn (S 16 0)) (tn (S 17 0)) ((if (tn (S 15 0)) ≤ 0 then nI 0 else xmo R0 (tn (S 16 0)) (tn (S 17 0))) - nI i)) (tn (S 16 1)) (tn (S 17 1))).toInt + 1).toNat).1 (if (tn (S 15 0)) ≤ 0 then R0 else xuse R0 (tn (S 16 0)) (tn (S 17 0)) ((if (tn (S 15 0)) ≤ 0 then nI 0 else xmo R0 (tn (S 16 0)) (tn (S 17 0))) - nI i)) (xcIn (tn (S 15 0)) (X 15) (if (tn (S 15 0)) ≤ 0 then R0 else xuse R0 (tn (S 16 0)) (tn (S 17 0)) ((if (tn (S 15 0)) ≤ 0 then nI 0 else xmo R0 (tn (S 16 0)) (tn (S 17 0))) - nI i)) (tn (S 16 1)) (tn (S 17 1)) (tn (S 16 2)) (tn (S 17 2)) ((if (tn (S 15 0)) ≤ 0 then nI 0 else xmo R0 (tn (S 16 0)) (tn (S 17 0))) - nI i) (if (tn (S 15 0)) ≤ 1 then nI 0 else xmo (if (tn (S 15 0)) ≤ 0 then R0 else xuse R0 (tn (S 16 0)) (tn (S 17 0)) ((if (tn (S 15 0)) ≤ 0 then nI 0 else xmo R0 (tn (S 16 0)) (tn (S 17 0))) - nI i)) (tn (S 16 1)) (tn (S 17 1))) ((xcO (tn (S 15 0)) (X 15) R0 (fun y9 => tn (S 16 y9)) (fun y9 => tn (S 17 y9)) (if (tn (S 15 0)) ≤ 0 then nI 0 else xmo R0 (tn (S 16 0)) (tn (S 17 0))) τ4 i).1, (xcO (tn (S 15 0)) (X 15) R0 (fun y9 => tn (S 16 y9)) (fun y9 => tn (S 17 y9)) (if (tn (S 15 0)) ≤ 0 then nI 0 else xmo R0 (tn (S 16 0)) (tn (S 17 0))) τ4 i).2) ((if (tn (S 15 0)) ≤ 1 then nI 0 else xmo (if (tn (S 15 0)) ≤ 0 then R0 else xuse R0 (tn (S 16 0)) (tn (S 17 0)) ((if (tn (S 15 0)) ≤ 0 then nI 0 else xmo R0 (tn (S 16 0)) (tn (S 17 0))) - nI i)) (tn (S 16 1)) (tn (S 17 1))).toInt + 1).toNat).2 τ5 sd X S 0 (-((if (tn (S 15 0)) ≤ 0 then nI 0 else xmo R0 (tn (S 16 0)) (tn (S 17 0))) - nI i)) hT (by omega)) (cwV 3 hts gX6_cook_X6_use rfl rfl rfl (by decide +kernel) ⟨Nat.le_of_ble_eq_true rfl, Nat.le_of_ble_eq_true rfl⟩) hM [0, 1] rfl rfl 0 0 rfl rfl rfl rfl rfl hl.1 rfl (Nat.le_of_ble_eq_true rfl) dX6_cook_64 ⟨Nat.le_of_ble_eq_true rfl, Nat.le_of_ble_eq_true rfl⟩) (fun u H locs hq hM => ?_)
      have hM : xM D (TY q) [wk q kd K, w6 q ad τ0 τ1 (xcIn (tn (S 15 0)) (X 15) (if (tn (S 15 0)) ≤ 0 then R0 else xuse R0 (tn (S 16 0)) (tn (S 17 0)) ((if (tn (S 15 0)) ≤ 0 then nI 0 else xmo R0 (tn (S 16 0)) (tn (S 17 0))) - nI i)) (tn (S 16 1)) (tn (S 17 1)) (tn (S 16 2)) (tn (S 17 2)) ((if (tn (S 15 0)) ≤ 0 then nI 0 else xmo R0 (tn (S 16 0)) (tn (S 17 0))) - nI i) (if (tn (S 15 0)) ≤ 1 then nI 0 else xmo (if (tn (S 15 0)) ≤ 0 then R0 else xuse R0 (tn (S 16 0)) (tn (S 17 0)) ((if (tn (S 15 0)) ≤ 0 then nI 0 else xmo R0 (tn (S 16 0)) (tn (S 17 0))) - nI i)) (tn (S 16 1)) (tn (S 17 1))) ((xcO (tn (S 15 0)) (X 15) R0 (fun y9 => tn (S 16 y9)) (fun y9 => tn (S 17 y9)) (if (tn (S 15 0)) ≤ 0 then nI 0 else xmo R0 (tn (S 16 0)) (tn (S 17 0))) τ4 i).1, (xcO (tn (S 15 0)) (X 15) R0 (fun y9 => tn (S 16 y9)) (fun y9 => tn (S 17 y9)) (if (tn (S 15 0)) ≤ 0 then nI 0 else xmo R0 (tn (S 16 0)) (tn (S 17 0))) τ4 i).2) ((if (tn (S 15 0)) ≤ 1 then nI 0 else xmo (if (tn (S 15 0)) ≤ 0 then R0 else xuse R0 (tn (S 16 0)) (tn (S 17 0)) ((if (tn (S 15 0)) ≤ 0 then nI 0 else xmo R0 (tn (S 16 0)) (tn (S 17 0))) - nI i)) (tn (S 16 1)) (tn (S 17 1))).toInt + 1).toNat).1 (if (tn (S 15 0)) ≤ 0 then (if (tn (S 15 0)) ≤ 0 then R0 else xuse R0 (tn (S 16 0)) (tn (S 17 0)) ((if (tn (S 15 0)) ≤ 0 then nI 0 else xmo R0 (tn (S 16 0)) (tn (S 17 0))) - nI i)) else xuse (if (tn (S 15 0)) ≤ 0 then R0 else xuse R0 (tn (S 16 0)) (tn (S 17 0)) ((if (tn (S 15 0)) ≤ 0 then nI 0 else xmo R0 (tn (S 16 0)) (tn (S 17 0))) - nI i)) (tn (S 16 0)) (tn (S 17 0)) (-((if (tn (S 15 0)) ≤ 0 then nI 0 else xmo R0 (tn (S 16 0)) (tn (S 17 0))) - nI i))) (xcIn (tn (S 15 0)) (X 15) (if (tn (S 15 0)) ≤ 0 then R0 else xuse R0 (tn (S 16 0)) (tn (S 17 0)) ((if (tn (S 15 0)) ≤ 0 then nI 0 else xmo R0 (tn (S 16 0)) (tn (S 17 0))) - nI i)) (tn (S 16 1)) (tn (S 17 1)) (tn (S 16 2)) (tn (S 17 2)) ((if (tn (S 15 0)) ≤ 0 then nI 0 else xmo R0 (tn (S 16 0)) (tn (S 17 0))) - nI i) (if (tn (S 15 0)) ≤ 1 then nI 0 else xmo (if (tn (S 15 0)) ≤ 0 then R0 else xuse R0 (tn (S 16 0)) (tn (S 17 0)) ((if (tn (S 15 0)) ≤ 0 then nI 0 else xmo R0 (tn (S 16 0)) (tn (S 17 0))) - nI i)) (tn (S 16 1)) (tn (S 17 1))) ((xcO (tn (S 15 0)) (X 15) R0 (fun y9 => tn (S 16 y9)) (fun y9 => tn (S 17 y9)) (if (tn (S 15 0)) ≤ 0 then nI 0 else xmo R0 (tn (S 16 0)) (tn (S 17 0))) τ4 i).1, (xcO (tn (S 15 0)) (X 15) R0 (fun y9 => tn (S 16 y9)) (fun y9 => tn (S 17 y9)) (if (tn (S 15 0)) ≤ 0 then nI 0 else xmo R0 (tn (S 16 0)) (tn (S 17 0))) τ4 i).2) ((if (tn (S 15 0)) ≤ 1 then nI 0 else xmo (if (tn (S 15 0)) ≤ 0 then R0 else xuse R0 (tn (S 16 0)) (tn (S 17 0)) ((if (tn (S 15 0)) ≤ 0 then nI 0 else xmo R0 (tn (S 16 0)) (tn (S 17 0))) - nI i)) (tn (S 16 1)) (tn (S 17 1))).toInt + 1).toNat).2 τ5, wst q sd X] A s.heap s H locs := hM
      have hM : xM D (TY q) [w6 q ad τ0 τ1 (xcIn (tn (S 15 0)) (X 15) (if (tn (S 15 0)) ≤ 0 then R0 else xuse R0 (tn (S 16 0)) (tn (S 17 0)) ((if (tn (S 15 0)) ≤ 0 then nI 0 else xmo R0 (tn (S 16 0)) (tn (S 17 0))) - nI i)) (tn (S 16 1)) (tn (S 17 1)) (tn (S 16 2)) (tn (S 17 2)) ((if (tn (S 15 0)) ≤ 0 then nI 0 else xmo R0 (tn (S 16 0)) (tn (S 17 0))) - nI i) (if (tn (S 15 0)) ≤ 1 then nI 0 else xmo (if (tn (S 15 0)) ≤ 0 then R0 else xuse R0 (tn (S 16 0)) (tn (S 17 0)) ((if (tn (S 15 0)) ≤ 0 then nI 0 else xmo R0 (tn (S 16 0)) (tn (S 17 0))) - nI i)) (tn (S 16 1)) (tn (S 17 1))) ((xcO (tn (S 15 0)) (X 15) R0 (fun y9 => tn (S 16 y9)) (fun y9 => tn (S 17 y9)) (if (tn (S 15 0)) ≤ 0 then nI 0 else xmo R0 (tn (S 16 0)) (tn (S 17 0))) τ4 i).1, (xcO (tn (S 15 0)) (X 15) R0 (fun y9 => tn (S 16 y9)) (fun y9 => tn (S 17 y9)) (if (tn (S 15 0)) ≤ 0 then nI 0 else xmo R0 (tn (S 16 0)) (tn (S 17 0))) τ4 i).2) ((if (tn (S 15 0)) ≤ 1 then nI 0 else xmo (if (tn (S 15 0)) ≤ 0 then R0 else xuse R0 (tn (S 16 0)) (tn (S 17 0)) ((if (tn (S 15 0)) ≤ 0 then nI 0 else xmo R0 (tn (S 16 0)) (tn (S 17 0))) - nI i)) (tn (S 16 1)) (tn (S 17 1))).toInt + 1).toNat).1 (if (tn (S 15 0)) ≤ 0 then (if (tn (S 15 0)) ≤ 0 then R0 else xuse R0 (tn (S 16 0)) (tn (S 17 0)) ((if (tn (S 15 0)) ≤ 0 then nI 0 else xmo R0 (tn (S 16 0)) (tn (S 17 0))) - nI i)) else xuse (if (tn (S 15 0)) ≤ 0 then R0 else xuse R0 (tn (S 16 0)) (tn (S 17 0)) ((if (tn (S 15 0)) ≤ 0 then nI 0 else xmo R0 (tn (S 16 0)) (tn (S 17 0))) - nI i)) (tn (S 16 0)) (tn (S 17 0)) (-((if (tn (S 15 0)) ≤ 0 then nI 0 else xmo R0 (tn (S 16 0)) (tn (S 17 0))) - nI i))) (xcIn (tn (S 15 0)) (X 15) (if (tn (S 15 0)) ≤ 0 then R0 else xuse R0 (tn (S 16 0)) (tn (S 17 0)) ((if (tn (S 15 0)) ≤ 0 then nI 0 else xmo R0 (tn (S 16 0)) (tn (S 17 0))) - nI i)) (tn (S 16 1)) (tn (S 17 1)) (tn (S 16 2)) (tn (S 17 2)) ((if (tn (S 15 0)) ≤ 0 then nI 0 else xmo R0 (tn (S 16 0)) (tn (S 17 0))) - nI i) (if (tn (S 15 0)) ≤ 1 then nI 0 else xmo (if (tn (S 15 0)) ≤ 0 then R0 else xuse R0 (tn (S 16 0)) (tn (S 17 0)) ((if (tn (S 15 0)) ≤ 0 then nI 0 else xmo R0 (tn (S 16 0)) (tn (S 17 0))) - nI i)) (tn (S 16 1)) (tn (S 17 1))) ((xcO (tn (S 15 0)) (X 15) R0 (fun y9 => tn (S 16 y9)) (fun y9 => tn (S 17 y9)) (if (tn (S 15 0)) ≤ 0 then nI 0 else xmo R0 (tn (S 16 0)) (tn (S 17 0))) τ4 i).1, (xcO (tn (S 15 0)) (X 15) R0 (fun y9 => tn (S 16 y9)) (fun y9 => tn (S 17 y9)) (if (tn (S 15 0)) ≤ 0 then nI 0 else xmo R0 (tn (S 16 0)) (tn (S 17 0))) τ4 i).2) ((if (tn (S 15 0)) ≤ 1 then nI 0 else xmo (if (tn (S 15 0)) ≤ 0 then R0 else xuse R0 (tn (S 16 0)) (tn (S 17 0)) ((if (tn (S 15 0)) ≤ 0 then nI 0 else xmo R0 (tn (S 16 0)) (tn (S 17 0))) - nI i)) (tn (S 16 1)) (tn (S 17 1))).toInt + 1).toNat).2 τ5, wst q sd X, wk q kd K] A s.heap s H locs := hM.sel [1, 2, 0] rfl rfl
      refine lv_iinc (v := (if (tn (S 15 0)) ≤ 0 then nI 0 else xmo R0 (tn (S 16 0)) (tn (S 17 0))) - nI i + (-1)) (lv' := [(3, .int ((if (tn (S 15 0)) ≤ 0 then nI 0 else xmo R0 (tn (S 16 0)) (tn (S 17 0))) - nI i + (-1))), (0, .ref (ad 0)), (1, .ref (sd 0)), (2, .ref (kd 0))]) hx hb dX6_cook_67 hl (k := 3) rfl rfl (by decide) rfl (fun ls hl => ?_)
      refine lv_goto (tgt := 18) hx hb dX6_cook_70 (by decide) ?_
      have e16 : (((xcIn (tn (S 15 0)) (X 15) (if (tn (S 15 0)) ≤ 0 then R0 else xuse R0 (tn (S 16 0)) (tn (S 17 0)) ((if (tn (S 15 0)) ≤ 0 then nI 0 else xmo R0 (tn (S 16 0)) (tn (S 17 0))) - nI i)) (tn (S 16 1)) (tn (S 17 1)) (tn (S 16 2)) (tn (S 17 2)) ((if (tn (S 15 0)) ≤ 0 then nI 0 else xmo R0 (tn (S 16 0)) (tn (S 17 0))) - nI i) (if (tn (S 15 0)) ≤ 1 then nI 0 else xmo (if (tn (S 15 0)) ≤ 0 then R0 else xuse R0 (tn (S 16 0)) (tn (S 17 0)) ((if (tn (S 15 0)) ≤ 0 then nI 0 else xmo R0 (tn (S 16 0)) (tn (S 17 0))) - nI i)) (tn (S 16 1)) (tn (S 17 1))) ((xcO (tn (S 15 0)) (X 15) R0 (fun y9 => tn (S 16 y9)) (fun y9 => tn (S 17 y9)) (if (tn (S 15 0)) ≤ 0 then nI 0 else xmo R0 (tn (S 16 0)) (tn (S 17 0))) τ4 i).1, (xcO (tn (S 15 0)) (X 15) R0 (fun y9 => tn (S 16 y9)) (fun y9 => tn (S 17 y9)) (if (tn (S 15 0)) ≤ 0 then nI 0 else xmo R0 (tn (S 16 0)) (tn (S 17 0))) τ4 i).2) ((if (tn (S 15 0)) ≤ 1 then nI 0 else xmo (if (tn (S 15 0)) ≤ 0 then R0 else xuse R0 (tn (S 16 0)) (tn (S 17 0)) ((if (tn (S 15 0)) ≤ 0 then nI 0 else xmo R0 (tn (S 16 0)) (tn (S 17 0))) - nI i)) (tn (S 16 1)) (tn (S 17 1))).toInt + 1).toNat).1) : Int32) = ((xcO (tn (S 15 0)) (X 15) R0 (fun y9 => tn (S 16 y9)) (fun y9 => tn (S 17 y9)) (if (tn (S 15 0)) ≤ 0 then nI 0 else xmo R0 (tn (S 16 0)) (tn (S 17 0))) τ4 (i + 1)).1) := by (first | exact (congrArg Prod.fst (xcO_1 (by assumption))).symm | exact (congrArg Prod.fst (xcO_0 (by assumption))).symm)
      have hM : xM D (TY q) [w6 q ad τ0 τ1 (xcO (tn (S 15 0)) (X 15) R0 (fun y9 => tn (S 16 y9)) (fun y9 => tn (S 17 y9)) (if (tn (S 15 0)) ≤ 0 then nI 0 else xmo R0 (tn (S 16 0)) (tn (S 17 0))) τ4 (i + 1)).1 (if (tn (S 15 0)) ≤ 0 then (if (tn (S 15 0)) ≤ 0 then R0 else xuse R0 (tn (S 16 0)) (tn (S 17 0)) ((if (tn (S 15 0)) ≤ 0 then nI 0 else xmo R0 (tn (S 16 0)) (tn (S 17 0))) - nI i)) else xuse (if (tn (S 15 0)) ≤ 0 then R0 else xuse R0 (tn (S 16 0)) (tn (S 17 0)) ((if (tn (S 15 0)) ≤ 0 then nI 0 else xmo R0 (tn (S 16 0)) (tn (S 17 0))) - nI i)) (tn (S 16 0)) (tn (S 17 0)) (-((if (tn (S 15 0)) ≤ 0 then nI 0 else xmo R0 (tn (S 16 0)) (tn (S 17 0))) - nI i))) (xcIn (tn (S 15 0)) (X 15) (if (tn (S 15 0)) ≤ 0 then R0 else xuse R0 (tn (S 16 0)) (tn (S 17 0)) ((if (tn (S 15 0)) ≤ 0 then nI 0 else xmo R0 (tn (S 16 0)) (tn (S 17 0))) - nI i)) (tn (S 16 1)) (tn (S 17 1)) (tn (S 16 2)) (tn (S 17 2)) ((if (tn (S 15 0)) ≤ 0 then nI 0 else xmo R0 (tn (S 16 0)) (tn (S 17 0))) - nI i) (if (tn (S 15 0)) ≤ 1 then nI 0 else xmo (if (tn (S 15 0)) ≤ 0 then R0 else xuse R0 (tn (S 16 0)) (tn (S 17 0)) ((if (tn (S 15 0)) ≤ 0 then nI 0 else xmo R0 (tn (S 16 0)) (tn (S 17 0))) - nI i)) (tn (S 16 1)) (tn (S 17 1))) ((xcO (tn (S 15 0)) (X 15) R0 (fun y9 => tn (S 16 y9)) (fun y9 => tn (S 17 y9)) (if (tn (S 15 0)) ≤ 0 then nI 0 else xmo R0 (tn (S 16 0)) (tn (S 17 0))) τ4 i).1, (xcO (tn (S 15 0)) (X 15) R0 (fun y9 => tn (S 16 y9)) (fun y9 => tn (S 17 y9)) (if (tn (S 15 0)) ≤ 0 then nI 0 else xmo R0 (tn (S 16 0)) (tn (S 17 0))) τ4 i).2) ((if (tn (S 15 0)) ≤ 1 then nI 0 else xmo (if (tn (S 15 0)) ≤ 0 then R0 else xuse R0 (tn (S 16 0)) (tn (S 17 0)) ((if (tn (S 15 0)) ≤ 0 then nI 0 else xmo R0 (tn (S 16 0)) (tn (S 17 0))) - nI i)) (tn (S 16 1)) (tn (S 17 1))).toInt + 1).toNat).2 τ5, wst q sd X, wk q kd K] A s.heap s H locs := Eq.mp (congrArg (fun z9 => xM D (TY q) [w6 q ad τ0 τ1 z9 (if (tn (S 15 0)) ≤ 0 then (if (tn (S 15 0)) ≤ 0 then R0 else xuse R0 (tn (S 16 0)) (tn (S 17 0)) ((if (tn (S 15 0)) ≤ 0 then nI 0 else xmo R0 (tn (S 16 0)) (tn (S 17 0))) - nI i)) else xuse (if (tn (S 15 0)) ≤ 0 then R0 else xuse R0 (tn (S 16 0)) (tn (S 17 0)) ((if (tn (S 15 0)) ≤ 0 then nI 0 else xmo R0 (tn (S 16 0)) (tn (S 17 0))) - nI i)) (tn (S 16 0)) (tn (S 17 0)) (-((if (tn (S 15 0)) ≤ 0 then nI 0 else xmo R0 (tn (S 16 0)) (tn (S 17 0))) - nI i))) (xcIn (tn (S 15 0)) (X 15) (if (tn (S 15 0)) ≤ 0 then R0 else xuse R0 (tn (S 16 0)) (tn (S 17 0)) ((if (tn (S 15 0)) ≤ 0 then nI 0 else xmo R0 (tn (S 16 0)) (tn (S 17 0))) - nI i)) (tn (S 16 1)) (tn (S 17 1)) (tn (S 16 2)) (tn (S 17 2)) ((if (tn (S 15 0)) ≤ 0 then nI 0 else xmo R0 (tn (S 16 0)) (tn (S 17 0))) - nI i) (if (tn (S 15 0)) ≤ 1 then nI 0 else xmo (if (tn (S 15 0)) ≤ 0 then R0 else xuse R0 (tn (S 16 0)) (tn (S 17 0)) ((if (tn (S 15 0)) ≤ 0 then nI 0 else xmo R0 (tn (S 16 0)) (tn (S 17 0))) - nI i)) (tn (S 16 1)) (tn (S 17 1))) ((xcO (tn (S 15 0)) (X 15) R0 (fun y9 => tn (S 16 y9)) (fun y9 => tn (S 17 y9)) (if (tn (S 15 0)) ≤ 0 then nI 0 else xmo R0 (tn (S 16 0)) (tn (S 17 0))) τ4 i).1, (xcO (tn (S 15 0)) (X 15) R0 (fun y9 => tn (S 16 y9)) (fun y9 => tn (S 17 y9)) (if (tn (S 15 0)) ≤ 0 then nI 0 else xmo R0 (tn (S 16 0)) (tn (S 17 0))) τ4 i).2) ((if (tn (S 15 0)) ≤ 1 then nI 0 else xmo (if (tn (S 15 0)) ≤ 0 then R0 else xuse R0 (tn (S 16 0)) (tn (S 17 0)) ((if (tn (S 15 0)) ≤ 0 then nI 0 else xmo R0 (tn (S 16 0)) (tn (S 17 0))) - nI i)) (tn (S 16 1)) (tn (S 17 1))).toInt + 1).toNat).2 τ5, wst q sd X, wk q kd K] A s.heap s H locs) e16) hM
      have e17 : (((if (tn (S 15 0)) ≤ 0 then (if (tn (S 15 0)) ≤ 0 then R0 else xuse R0 (tn (S 16 0)) (tn (S 17 0)) ((if (tn (S 15 0)) ≤ 0 then nI 0 else xmo R0 (tn (S 16 0)) (tn (S 17 0))) - nI i)) else xuse (if (tn (S 15 0)) ≤ 0 then R0 else xuse R0 (tn (S 16 0)) (tn (S 17 0)) ((if (tn (S 15 0)) ≤ 0 then nI 0 else xmo R0 (tn (S 16 0)) (tn (S 17 0))) - nI i)) (tn (S 16 0)) (tn (S 17 0)) (-((if (tn (S 15 0)) ≤ 0 then nI 0 else xmo R0 (tn (S 16 0)) (tn (S 17 0))) - nI i)))) : Nat → Int32) = (R0) := by exact xuse_b
      have hM : xM D (TY q) [w6 q ad τ0 τ1 (xcO (tn (S 15 0)) (X 15) R0 (fun y9 => tn (S 16 y9)) (fun y9 => tn (S 17 y9)) (if (tn (S 15 0)) ≤ 0 then nI 0 else xmo R0 (tn (S 16 0)) (tn (S 17 0))) τ4 (i + 1)).1 R0 (xcIn (tn (S 15 0)) (X 15) (if (tn (S 15 0)) ≤ 0 then R0 else xuse R0 (tn (S 16 0)) (tn (S 17 0)) ((if (tn (S 15 0)) ≤ 0 then nI 0 else xmo R0 (tn (S 16 0)) (tn (S 17 0))) - nI i)) (tn (S 16 1)) (tn (S 17 1)) (tn (S 16 2)) (tn (S 17 2)) ((if (tn (S 15 0)) ≤ 0 then nI 0 else xmo R0 (tn (S 16 0)) (tn (S 17 0))) - nI i) (if (tn (S 15 0)) ≤ 1 then nI 0 else xmo (if (tn (S 15 0)) ≤ 0 then R0 else xuse R0 (tn (S 16 0)) (tn (S 17 0)) ((if (tn (S 15 0)) ≤ 0 then nI 0 else xmo R0 (tn (S 16 0)) (tn (S 17 0))) - nI i)) (tn (S 16 1)) (tn (S 17 1))) ((xcO (tn (S 15 0)) (X 15) R0 (fun y9 => tn (S 16 y9)) (fun y9 => tn (S 17 y9)) (if (tn (S 15 0)) ≤ 0 then nI 0 else xmo R0 (tn (S 16 0)) (tn (S 17 0))) τ4 i).1, (xcO (tn (S 15 0)) (X 15) R0 (fun y9 => tn (S 16 y9)) (fun y9 => tn (S 17 y9)) (if (tn (S 15 0)) ≤ 0 then nI 0 else xmo R0 (tn (S 16 0)) (tn (S 17 0))) τ4 i).2) ((if (tn (S 15 0)) ≤ 1 then nI 0 else xmo (if (tn (S 15 0)) ≤ 0 then R0 else xuse R0 (tn (S 16 0)) (tn (S 17 0)) ((if (tn (S 15 0)) ≤ 0 then nI 0 else xmo R0 (tn (S 16 0)) (tn (S 17 0))) - nI i)) (tn (S 16 1)) (tn (S 17 1))).toInt + 1).toNat).2 τ5, wst q sd X, wk q kd K] A s.heap s H locs := Eq.mp (congrArg (fun z9 => xM D (TY q) [w6 q ad τ0 τ1 (xcO (tn (S 15 0)) (X 15) R0 (fun y9 => tn (S 16 y9)) (fun y9 => tn (S 17 y9)) (if (tn (S 15 0)) ≤ 0 then nI 0 else xmo R0 (tn (S 16 0)) (tn (S 17 0))) τ4 (i + 1)).1 z9 (xcIn (tn (S 15 0)) (X 15) (if (tn (S 15 0)) ≤ 0 then R0 else xuse R0 (tn (S 16 0)) (tn (S 17 0)) ((if (tn (S 15 0)) ≤ 0 then nI 0 else xmo R0 (tn (S 16 0)) (tn (S 17 0))) - nI i)) (tn (S 16 1)) (tn (S 17 1)) (tn (S 16 2)) (tn (S 17 2)) ((if (tn (S 15 0)) ≤ 0 then nI 0 else xmo R0 (tn (S 16 0)) (tn (S 17 0))) - nI i) (if (tn (S 15 0)) ≤ 1 then nI 0 else xmo (if (tn (S 15 0)) ≤ 0 then R0 else xuse R0 (tn (S 16 0)) (tn (S 17 0)) ((if (tn (S 15 0)) ≤ 0 then nI 0 else xmo R0 (tn (S 16 0)) (tn (S 17 0))) - nI i)) (tn (S 16 1)) (tn (S 17 1))) ((xcO (tn (S 15 0)) (X 15) R0 (fun y9 => tn (S 16 y9)) (fun y9 => tn (S 17 y9)) (if (tn (S 15 0)) ≤ 0 then nI 0 else xmo R0 (tn (S 16 0)) (tn (S 17 0))) τ4 i).1, (xcO (tn (S 15 0)) (X 15) R0 (fun y9 => tn (S 16 y9)) (fun y9 => tn (S 17 y9)) (if (tn (S 15 0)) ≤ 0 then nI 0 else xmo R0 (tn (S 16 0)) (tn (S 17 0))) τ4 i).2) ((if (tn (S 15 0)) ≤ 1 then nI 0 else xmo (if (tn (S 15 0)) ≤ 0 then R0 else xuse R0 (tn (S 16 0)) (tn (S 17 0)) ((if (tn (S 15 0)) ≤ 0 then nI 0 else xmo R0 (tn (S 16 0)) (tn (S 17 0))) - nI i)) (tn (S 16 1)) (tn (S 17 1))).toInt + 1).toNat).2 τ5, wst q sd X, wk q kd K] A s.heap s H locs) e17) hM
      have e18 : (((xcIn (tn (S 15 0)) (X 15) (if (tn (S 15 0)) ≤ 0 then R0 else xuse R0 (tn (S 16 0)) (tn (S 17 0)) ((if (tn (S 15 0)) ≤ 0 then nI 0 else xmo R0 (tn (S 16 0)) (tn (S 17 0))) - nI i)) (tn (S 16 1)) (tn (S 17 1)) (tn (S 16 2)) (tn (S 17 2)) ((if (tn (S 15 0)) ≤ 0 then nI 0 else xmo R0 (tn (S 16 0)) (tn (S 17 0))) - nI i) (if (tn (S 15 0)) ≤ 1 then nI 0 else xmo (if (tn (S 15 0)) ≤ 0 then R0 else xuse R0 (tn (S 16 0)) (tn (S 17 0)) ((if (tn (S 15 0)) ≤ 0 then nI 0 else xmo R0 (tn (S 16 0)) (tn (S 17 0))) - nI i)) (tn (S 16 1)) (tn (S 17 1))) ((xcO (tn (S 15 0)) (X 15) R0 (fun y9 => tn (S 16 y9)) (fun y9 => tn (S 17 y9)) (if (tn (S 15 0)) ≤ 0 then nI 0 else xmo R0 (tn (S 16 0)) (tn (S 17 0))) τ4 i).1, (xcO (tn (S 15 0)) (X 15) R0 (fun y9 => tn (S 16 y9)) (fun y9 => tn (S 17 y9)) (if (tn (S 15 0)) ≤ 0 then nI 0 else xmo R0 (tn (S 16 0)) (tn (S 17 0))) τ4 i).2) ((if (tn (S 15 0)) ≤ 1 then nI 0 else xmo (if (tn (S 15 0)) ≤ 0 then R0 else xuse R0 (tn (S 16 0)) (tn (S 17 0)) ((if (tn (S 15 0)) ≤ 0 then nI 0 else xmo R0 (tn (S 16 0)) (tn (S 17 0))) - nI i)) (tn (S 16 1)) (tn (S 17 1))).toInt + 1).toNat).2) : Nat → Int32) = ((xcO (tn (S 15 0)) (X 15) R0 (fun y9 => tn (S 16 y9)) (fun y9 => tn (S 17 y9)) (if (tn (S 15 0)) ≤ 0 then nI 0 else xmo R0 (tn (S 16 0)) (tn (S 17 0))) τ4 (i + 1)).2) := by (first | exact (congrArg Prod.snd (xcO_1 (by assumption))).symm | exact (congrArg Prod.snd (xcO_0 (by assumption))).symm)
      have hM : xM D (TY q) [w6 q ad τ0 τ1 (xcO (tn (S 15 0)) (X 15) R0 (fun y9 => tn (S 16 y9)) (fun y9 => tn (S 17 y9)) (if (tn (S 15 0)) ≤ 0 then nI 0 else xmo R0 (tn (S 16 0)) (tn (S 17 0))) τ4 (i + 1)).1 R0 (xcO (tn (S 15 0)) (X 15) R0 (fun y9 => tn (S 16 y9)) (fun y9 => tn (S 17 y9)) (if (tn (S 15 0)) ≤ 0 then nI 0 else xmo R0 (tn (S 16 0)) (tn (S 17 0))) τ4 (i + 1)).2 τ5, wst q sd X, wk q kd K] A s.heap s H locs := Eq.mp (congrArg (fun z9 => xM D (TY q) [w6 q ad τ0 τ1 (xcO (tn (S 15 0)) (X 15) R0 (fun y9 => tn (S 16 y9)) (fun y9 => tn (S 17 y9)) (if (tn (S 15 0)) ≤ 0 then nI 0 else xmo R0 (tn (S 16 0)) (tn (S 17 0))) τ4 (i + 1)).1 R0 z9 τ5, wst q sd X, wk q kd K] A s.heap s H locs) e18) hM
      have hl : lv_has ls 4 [(0, .ref (ad 0)), (1, .ref (sd 0)), (2, .ref (kd 0)), (3, .int ((if (tn (S 15 0)) ≤ 0 then nI 0 else xmo R0 (tn (S 16 0)) (tn (S 17 0))) - nI i + (-1)))] := lv_sub hl [1, 2, 3, 0] rfl
      have e19 : (if (tn (S 15 0)) ≤ 0 then nI 0 else xmo R0 (tn (S 16 0)) (tn (S 17 0))) - nI i + (-1) = (if (tn (S 15 0)) ≤ 0 then nI 0 else xmo R0 (tn (S 16 0)) (tn (S 17 0))) - nI (i + 1) := by exact xdn_s _ _
      have hl : lv_has ls 4 [(0, .ref (ad 0)), (1, .ref (sd 0)), (2, .ref (kd 0)), (3, .int ((if (tn (S 15 0)) ≤ 0 then nI 0 else xmo R0 (tn (S 16 0)) (tn (S 17 0))) - nI (i + 1)))] := x_lvset hl 3 rfl (congrArg Value.int e19) rfl
      exact ih5 (i + 1) (show (((if (tn (S 15 0)) ≤ 0 then nI 0 else xmo R0 (tn (S 16 0)) (tn (S 17 0)))).toInt + 1 - (i + 1)).toNat < (((if (tn (S 15 0)) ≤ 0 then nI 0 else xmo R0 (tn (S 16 0)) (tn (S 17 0)))).toInt + 1 - i).toNat from by have h9 := xdn_go hI9 (by assumption : ¬ (if (tn (S 15 0)) ≤ 0 then nI 0 else xmo R0 (tn (S 16 0)) (tn (S 17 0))) - nI i < 0); omega) (show ((i + 1) = 0 ∨ ((i + 1) : Int) ≤ ((if (tn (S 15 0)) ≤ 0 then nI 0 else xmo R0 (tn (S 16 0)) (tn (S 17 0)))).toInt + 1) from Or.inr (xdn_go hI9 (by assumption : ¬ (if (tn (S 15 0)) ≤ 0 then nI 0 else xmo R0 (tn (S 16 0)) (tn (S 17 0))) - nI i < 0))) _ _ hM _ hl

set_option maxRecDepth 20000 in
theorem ggX6_worthOfSet_X1_worthOf : GoodIn wsX6_worthOfSet wsX1_worthOf := goodIn_r _ [6, 7, 8, 9, 10, 11, 12, 13, 14, 15, 16, 17, 18, 19, 20, 5, 21, 22, 23, 24, 25, 26, 27, 28, 29, 30, 31, 32, 33, 34, 35, 36, 37, 38, 39, 40, 41, 42, 43, 44, 45, 46, 47, 48, 49, 50, 51, 52, 53, 54, 55, 56, 57] (by decide +kernel) (by decide +kernel)
set_option maxRecDepth 20000 in
theorem gX6_worthOfSet_X1_worthOf : GoodIn wsX6_worthOfSet (wsV RX6 135 RX1 yX1_worthOf wsX1_worthOf) := goodIn_app (goodIn_of _ (by decide +kernel)) ggX6_worthOfSet_X1_worthOf
theorem dX6_worthOfSet_0 : decode cX6_worthOfSet 0 = .ok (.iconst 0, 1) := by decide +kernel
theorem dX6_worthOfSet_1 : decode cX6_worthOfSet 1 = .ok (.istore_n 3, 1) := by decide +kernel
theorem dX6_worthOfSet_2 : decode cX6_worthOfSet 2 = .ok (.iconst 0, 1) := by decide +kernel
theorem dX6_worthOfSet_3 : decode cX6_worthOfSet 3 = .ok (.istore 4, 2) := by decide +kernel
theorem dX6_worthOfSet_5 : decode cX6_worthOfSet 5 = .ok (.iload 4, 2) := by decide +kernel
theorem dX6_worthOfSet_7 : decode cX6_worthOfSet 7 = .ok (.aload_n 0, 1) := by decide +kernel
theorem dX6_worthOfSet_8 : decode cX6_worthOfSet 8 = .ok (.getfield 99, 3) := by decide +kernel
theorem dX6_worthOfSet_11 : decode cX6_worthOfSet 11 = .ok (.if_icmp .ge 29, 3) := by decide +kernel
theorem dX6_worthOfSet_14 : decode cX6_worthOfSet 14 = .ok (.iload_n 2, 1) := by decide +kernel
theorem dX6_worthOfSet_15 : decode cX6_worthOfSet 15 = .ok (.iload 4, 2) := by decide +kernel
theorem dX6_worthOfSet_17 : decode cX6_worthOfSet 17 = .ok (.ishr, 1) := by decide +kernel
theorem dX6_worthOfSet_18 : decode cX6_worthOfSet 18 = .ok (.iconst 1, 1) := by decide +kernel
theorem dX6_worthOfSet_19 : decode cX6_worthOfSet 19 = .ok (.iand, 1) := by decide +kernel
theorem dX6_worthOfSet_20 : decode cX6_worthOfSet 20 = .ok (.iconst 1, 1) := by decide +kernel
theorem dX6_worthOfSet_21 : decode cX6_worthOfSet 21 = .ok (.if_icmp .ne 13, 3) := by decide +kernel
theorem dX6_worthOfSet_24 : decode cX6_worthOfSet 24 = .ok (.iload_n 3, 1) := by decide +kernel
theorem dX6_worthOfSet_25 : decode cX6_worthOfSet 25 = .ok (.aload_n 1, 1) := by decide +kernel
theorem dX6_worthOfSet_26 : decode cX6_worthOfSet 26 = .ok (.aload_n 0, 1) := by decide +kernel
theorem dX6_worthOfSet_27 : decode cX6_worthOfSet 27 = .ok (.iload 4, 2) := by decide +kernel
theorem dX6_worthOfSet_29 : decode cX6_worthOfSet 29 = .ok (.invokevirtual 135, 3) := by decide +kernel
theorem dX6_worthOfSet_32 : decode cX6_worthOfSet 32 = .ok (.iadd, 1) := by decide +kernel
theorem dX6_worthOfSet_33 : decode cX6_worthOfSet 33 = .ok (.istore_n 3, 1) := by decide +kernel
theorem dX6_worthOfSet_34 : decode cX6_worthOfSet 34 = .ok (.iinc 4 1, 3) := by decide +kernel
theorem dX6_worthOfSet_37 : decode cX6_worthOfSet 37 = .ok (.goto (-32), 3) := by decide +kernel
theorem dX6_worthOfSet_40 : decode cX6_worthOfSet 40 = .ok (.iload_n 3, 1) := by decide +kernel
theorem dX6_worthOfSet_41 : decode cX6_worthOfSet 41 = .ok (.ireturn, 1) := by decide +kernel
theorem lkX6_worthOfSet_99 : Cond.fieldLink RX6 99 "LeftAtFive$Street" "houses" "I" ∈ wsX6_worthOfSet := by decide +kernel
theorem iwX6_worthOfSet_X7 : ∀ w ∈ wsX70, w ∈ wsX6_worthOfSet := by decide +kernel
set_option maxHeartbeats 2000000 in
set_option maxRecDepth 100000 in
theorem c_X6_worthOfSet (l : Launch) (D : va_G) (q : Nat → ClassId) (sd : Nat → Nat) (X : Nat → Nat → Int32) (kd : Nat → Nat) (K : Nat → Int32) (S : Nat → Nat → Int32) (set : Nat) (hT : okT X S) (hs9 : set < 32) : xC l yX6_worthOfSet wsX6_worthOfSet ({ frames := 4, cells := 0, slots := 0, locals := 90 }) D (TY q) [wst q sd X, wk q kd K] [.ref (sd 0), .ref (kd 0), .int (nI set)] (xQi D (TY q) (fun (r : Int32) (_ : Unit) => r = xsw (fun y9 => kW (S 3) (S 4) (tn (S 2 0)) K y9) set (tn (S 5 0))) (fun _ => [wst q sd X, wk q kd K])) 0 0 := by
  refine x_enter (cc := cX6_worthOfSet) (maxL := 5) (ret := (some .int)) (by decide) rfl (Nat.le_of_ble_eq_true rfl) ?_
  intro p e s m below meth c A ls H locs hfix hr hlocks hinit hM hl
  obtain ⟨hx, hb, hml, hown, hts⟩ := id hfix
  have hl : lv_has ls 5 [(0, .ref (sd 0)), (1, .ref (kd 0)), (2, .int (nI set))] := hl
  have hTb1 := okT_1b hT
  have hTb0 := okT_0b hT
  refine lv_iconst (v := nI 0) hx hb dX6_worthOfSet_0 (by decide) ?_
  refine lv_istore_n (lv' := [(3, .int (nI 0)), (0, .ref (sd 0)), (1, .ref (kd 0)), (2, .int (nI set))]) hx hb dX6_worthOfSet_1 rfl hl (by decide) rfl (fun ls hl => ?_)
  refine lv_iconst (v := nI 0) hx hb dX6_worthOfSet_2 (by decide) ?_
  refine lv_istore (lv' := [(4, .int (nI 0)), (3, .int (nI 0)), (0, .ref (sd 0)), (1, .ref (kd 0)), (2, .int (nI set))]) hx hb dX6_worthOfSet_3 hl (by decide) rfl (fun ls hl => ?_)
  refine x_loop (ι := Nat) (fun h => [(0, .ref (sd 0)), (1, .ref (kd 0)), (2, .int (nI set)), (3, .int (xsw (fun y9 => kW (S 3) (S 4) (tn (S 2 0)) K y9) set h)), (4, .int (nI h))]) (fun h => [wst q sd X, wk q kd K]) (fun h => h ≤ (tn (S 5 0))) (fun h => (tn (S 5 0)) - h) 0 (by omega) hM (lv_sub hl [2, 3, 4, 1, 0] rfl) ?_
  intro h hI2 ih1 H locs hM ls hl
  have hM : xM D (TY q) [wst q sd X, wk q kd K] A s.heap s H locs := hM
  have hl : lv_has ls 5 [(0, .ref (sd 0)), (1, .ref (kd 0)), (2, .int (nI set)), (3, .int (xsw (fun y9 => kW (S 3) (S 4) (tn (S 2 0)) K y9) set h)), (4, .int (nI h))] := hl
  have hI2 : h ≤ (tn (S 5 0)) := hI2
  try dsimp only
  refine lv_iload hx hb dX6_worthOfSet_5 (lv_at hl 4 rfl) ?_
  refine lv_aload_n hx hb dX6_worthOfSet_7 rfl (lv_at hl 0 rfl) ?_
  refine x_get hx hb hts iwX6_worthOfSet_X7 hown hM 0 0 rfl rfl rfl 1 (by decide) (hts _ lkX6_worthOfSet_99) (fun _ h => h) rfl dX6_worthOfSet_8 ?_
  refine x_cast (y := nI (tn (S 5 0))) (okT_1 hT) ?_
  refine x_icmp_ge (x := h) (y := tn (S 5 0)) (tgt := 40) hx hb (by omega) (by omega) dX6_worthOfSet_11 (by decide) (fun c3 => ?_) (fun c3 => ?_)
  · refine lv_iload_n hx hb dX6_worthOfSet_40 rfl (lv_at hl 3 rfl) ?_
    exact x_iret hx hb hr hlocks () hM (show xsw (fun y9 => kW (S 3) (S 4) (tn (S 2 0)) K y9) set h = xsw (fun y9 => kW (S 3) (S 4) (tn (S 2 0)) K y9) set (tn (S 5 0)) from by (rw [show h = (tn (S 5 0)) by omega])) dX6_worthOfSet_41
  · refine lv_iload_n hx hb dX6_worthOfSet_14 rfl (lv_at hl 2 rfl) ?_
    refine lv_iload hx hb dX6_worthOfSet_15 (lv_at hl 4 rfl) ?_
    refine lv_ishr hx hb dX6_worthOfSet_17 ?_
    refine x_cast (y := nI (set / 2 ^ h)) (x_shr (by omega) (by omega)) ?_
    refine lv_iconst (v := nI 1) hx hb dX6_worthOfSet_18 (by decide) ?_
    refine lv_iand hx hb dX6_worthOfSet_19 ?_
    refine x_cast (y := nI (set / 2 ^ h % 2)) (x_and1 (Nat.lt_of_le_of_lt (Nat.div_le_self _ _) (by omega))) ?_
    refine lv_iconst (v := nI 1) hx hb dX6_worthOfSet_20 (by decide) ?_
    refine x_icmp_ne (x := set / 2 ^ h % 2) (y := 1) (tgt := 34) hx hb (by omega) (by omega) dX6_worthOfSet_21 (by decide) (fun c4 => ?_) (fun c4 => ?_)
    · refine lv_iinc (v := nI (h + 1)) (lv' := [(4, .int (nI (h + 1))), (0, .ref (sd 0)), (1, .ref (kd 0)), (2, .int (nI set)), (3, .int (xsw (fun y9 => kW (S 3) (S 4) (tn (S 2 0)) K y9) set h))]) hx hb dX6_worthOfSet_34 hl (k := 4) rfl (x_inc _ 1) (by decide) rfl (fun ls hl => ?_)
      refine lv_goto (tgt := 5) hx hb dX6_worthOfSet_37 (by decide) ?_
      have hl : lv_has ls 5 [(0, .ref (sd 0)), (1, .ref (kd 0)), (2, .int (nI set)), (3, .int (xsw (fun y9 => kW (S 3) (S 4) (tn (S 2 0)) K y9) set h)), (4, .int (nI (h + 1)))] := lv_sub hl [1, 2, 3, 4, 0] rfl
      have e5 : xsw (fun y9 => kW (S 3) (S 4) (tn (S 2 0)) K y9) set h = xsw (fun y9 => kW (S 3) (S 4) (tn (S 2 0)) K y9) set (h + 1) := by (first | exact xadd_p (by assumption) | exact xadd_z (by assumption))
      have hl : lv_has ls 5 [(0, .ref (sd 0)), (1, .ref (kd 0)), (2, .int (nI set)), (3, .int (xsw (fun y9 => kW (S 3) (S 4) (tn (S 2 0)) K y9) set (h + 1))), (4, .int (nI (h + 1)))] := x_lvset hl 3 rfl (congrArg Value.int e5) rfl
      exact ih1 (h + 1) (show (tn (S 5 0)) - (h + 1) < (tn (S 5 0)) - h from by omega) (show (h + 1) ≤ (tn (S 5 0)) from by omega) _ _ hM _ hl
    · refine lv_iload_n hx hb dX6_worthOfSet_24 rfl (lv_at hl 3 rfl) ?_
      refine lv_aload_n hx hb dX6_worthOfSet_25 rfl (lv_at hl 1 rfl) ?_
      refine lv_aload_n hx hb dX6_worthOfSet_26 rfl (lv_at hl 0 rfl) ?_
      refine lv_iload hx hb dX6_worthOfSet_27 (lv_at hl 4 rfl) ?_
      refine x_calli (bc := [wk q kd K, wst q sd X]) (br := []) hM [1, 0] [] rfl rfl rfl (by decide) (x_runV (As := [.ref (sd 0), .int (nI h)]) (rest := [.int (xsw (fun y9 => kW (S 3) (S 4) (tn (S 2 0)) K y9) set h)]) hfix (c_X1_worthOf l D q kd K sd X S h hT (by omega)) (cwV 2 hts gX6_worthOfSet_X1_worthOf rfl rfl rfl (by decide +kernel) ⟨Nat.le_of_ble_eq_true rfl, Nat.le_of_ble_eq_true rfl⟩) hM [1, 0] rfl rfl 1 0 rfl rfl rfl rfl rfl hl.1 rfl (Nat.le_of_ble_eq_true rfl) dX6_worthOfSet_29 ⟨Nat.le_of_ble_eq_true rfl, Nat.le_of_ble_eq_true rfl⟩) (fun r u H locs hq hM => ?_)
      subst hq
      have hM : xM D (TY q) [wk q kd K, wst q sd X] A s.heap s H locs := hM
      have hM : xM D (TY q) [wst q sd X, wk q kd K] A s.heap s H locs := hM.sel [1, 0] rfl rfl
      refine lv_iadd hx hb dX6_worthOfSet_32 ?_
      refine lv_istore_n (lv' := [(3, .int ((xsw (fun y9 => kW (S 3) (S 4) (tn (S 2 0)) K y9) set h) + (kW (S 3) (S 4) (tn (S 2 0)) K h))), (0, .ref (sd 0)), (1, .ref (kd 0)), (2, .int (nI set)), (4, .int (nI h))]) hx hb dX6_worthOfSet_33 rfl hl (by decide) rfl (fun ls hl => ?_)
      refine lv_iinc (v := nI (h + 1)) (lv' := [(4, .int (nI (h + 1))), (3, .int ((xsw (fun y9 => kW (S 3) (S 4) (tn (S 2 0)) K y9) set h) + (kW (S 3) (S 4) (tn (S 2 0)) K h))), (0, .ref (sd 0)), (1, .ref (kd 0)), (2, .int (nI set))]) hx hb dX6_worthOfSet_34 hl (k := 4) rfl (x_inc _ 1) (by decide) rfl (fun ls hl => ?_)
      refine lv_goto (tgt := 5) hx hb dX6_worthOfSet_37 (by decide) ?_
      have hl : lv_has ls 5 [(0, .ref (sd 0)), (1, .ref (kd 0)), (2, .int (nI set)), (3, .int ((xsw (fun y9 => kW (S 3) (S 4) (tn (S 2 0)) K y9) set h) + (kW (S 3) (S 4) (tn (S 2 0)) K h))), (4, .int (nI (h + 1)))] := lv_sub hl [2, 3, 4, 1, 0] rfl
      have e6 : (xsw (fun y9 => kW (S 3) (S 4) (tn (S 2 0)) K y9) set h) + (kW (S 3) (S 4) (tn (S 2 0)) K h) = xsw (fun y9 => kW (S 3) (S 4) (tn (S 2 0)) K y9) set (h + 1) := by (first | exact xadd_p (by assumption) | exact xadd_z (by assumption))
      have hl : lv_has ls 5 [(0, .ref (sd 0)), (1, .ref (kd 0)), (2, .int (nI set)), (3, .int (xsw (fun y9 => kW (S 3) (S 4) (tn (S 2 0)) K y9) set (h + 1))), (4, .int (nI (h + 1)))] := x_lvset hl 3 rfl (congrArg Value.int e6) rfl
      exact ih1 (h + 1) (show (tn (S 5 0)) - (h + 1) < (tn (S 5 0)) - h from by omega) (show (h + 1) ≤ (tn (S 5 0)) from by omega) _ _ hM _ hl

set_option maxRecDepth 20000 in
theorem ggX6_setsWorth_X6_worthOfSet : GoodIn wsX6_setsWorth wsX6_worthOfSet := goodIn_r _ [5, 1, 6, 7, 8, 9, 10, 11, 12, 13, 14, 15, 16, 17, 18, 19, 20, 21, 22, 23, 24, 25, 26, 27, 28, 29, 30, 31, 32, 33, 34, 35, 36, 37, 38, 39, 40, 41, 42, 43, 44, 45, 46, 47, 48, 49, 50, 51, 52, 53, 54, 55, 56, 57, 58, 59, 60, 61] (by decide +kernel) (by decide +kernel)
set_option maxRecDepth 20000 in
theorem gX6_setsWorth_X6_worthOfSet : GoodIn wsX6_setsWorth (va_wsS RX6 131 yX6_worthOfSet wsX6_worthOfSet) := goodIn_app (goodIn_of _ (by decide +kernel)) ggX6_setsWorth_X6_worthOfSet
theorem dX6_setsWorth_0 : decode cX6_setsWorth 0 = .ok (.iconst 0, 1) := by decide +kernel
theorem dX6_setsWorth_1 : decode cX6_setsWorth 1 = .ok (.istore_n 3, 1) := by decide +kernel
theorem dX6_setsWorth_2 : decode cX6_setsWorth 2 = .ok (.iconst 0, 1) := by decide +kernel
theorem dX6_setsWorth_3 : decode cX6_setsWorth 3 = .ok (.istore 4, 2) := by decide +kernel
theorem dX6_setsWorth_5 : decode cX6_setsWorth 5 = .ok (.iload 4, 2) := by decide +kernel
theorem dX6_setsWorth_7 : decode cX6_setsWorth 7 = .ok (.iconst 1, 1) := by decide +kernel
theorem dX6_setsWorth_8 : decode cX6_setsWorth 8 = .ok (.aload_n 0, 1) := by decide +kernel
theorem dX6_setsWorth_9 : decode cX6_setsWorth 9 = .ok (.getfield 99, 3) := by decide +kernel
theorem dX6_setsWorth_12 : decode cX6_setsWorth 12 = .ok (.ishl, 1) := by decide +kernel
theorem dX6_setsWorth_13 : decode cX6_setsWorth 13 = .ok (.if_icmp .ge 23, 3) := by decide +kernel
theorem dX6_setsWorth_16 : decode cX6_setsWorth 16 = .ok (.aload_n 0, 1) := by decide +kernel
theorem dX6_setsWorth_17 : decode cX6_setsWorth 17 = .ok (.aload_n 1, 1) := by decide +kernel
theorem dX6_setsWorth_18 : decode cX6_setsWorth 18 = .ok (.iload 4, 2) := by decide +kernel
theorem dX6_setsWorth_20 : decode cX6_setsWorth 20 = .ok (.invokestatic 131, 3) := by decide +kernel
theorem dX6_setsWorth_23 : decode cX6_setsWorth 23 = .ok (.iload_n 2, 1) := by decide +kernel
theorem dX6_setsWorth_24 : decode cX6_setsWorth 24 = .ok (.if_icmp .ne 6, 3) := by decide +kernel
theorem dX6_setsWorth_27 : decode cX6_setsWorth 27 = .ok (.iinc 3 1, 3) := by decide +kernel
theorem dX6_setsWorth_30 : decode cX6_setsWorth 30 = .ok (.iinc 4 1, 3) := by decide +kernel
theorem dX6_setsWorth_33 : decode cX6_setsWorth 33 = .ok (.goto (-28), 3) := by decide +kernel
theorem dX6_setsWorth_36 : decode cX6_setsWorth 36 = .ok (.iload_n 3, 1) := by decide +kernel
theorem dX6_setsWorth_37 : decode cX6_setsWorth 37 = .ok (.ireturn, 1) := by decide +kernel
theorem lkX6_setsWorth_99 : Cond.fieldLink RX6 99 "LeftAtFive$Street" "houses" "I" ∈ wsX6_setsWorth := by decide +kernel
theorem iwX6_setsWorth_X7 : ∀ w ∈ wsX70, w ∈ wsX6_setsWorth := by decide +kernel
set_option maxHeartbeats 2000000 in
set_option maxRecDepth 100000 in
theorem c_X6_setsWorth (l : Launch) (D : va_G) (q : Nat → ClassId) (sd : Nat → Nat) (X : Nat → Nat → Int32) (kd : Nat → Nat) (K : Nat → Int32) (S : Nat → Nat → Int32) (v : Nat) (hT : okT X S) (hv9 : v ≤ 9999) : xC l yX6_setsWorth wsX6_setsWorth ({ frames := 5, cells := 0, slots := 0, locals := 114 }) D (TY q) [wst q sd X, wk q kd K] [.ref (sd 0), .ref (kd 0), .int (nI v)] (xQi D (TY q) (fun (r : Int32) (_ : Unit) => r = nI (xsv (fun z => xsw (fun y9 => kW (S 3) (S 4) (tn (S 2 0)) K y9) z (tn (S 5 0))) v (2 ^ (tn (S 5 0)))).1) (fun _ => [wst q sd X, wk q kd K])) 0 0 := by
  refine x_enter (cc := cX6_setsWorth) (maxL := 5) (ret := (some .int)) (by decide) rfl (Nat.le_of_ble_eq_true rfl) ?_
  intro p e s m below meth c A ls H locs hfix hr hlocks hinit hM hl
  obtain ⟨hx, hb, hml, hown, hts⟩ := id hfix
  have hl : lv_has ls 5 [(0, .ref (sd 0)), (1, .ref (kd 0)), (2, .int (nI v))] := hl
  have hTb1 := okT_1b hT
  have h32 := x_pow5 hTb1
  refine lv_iconst (v := nI 0) hx hb dX6_setsWorth_0 (by decide) ?_
  refine lv_istore_n (lv' := [(3, .int (nI 0)), (0, .ref (sd 0)), (1, .ref (kd 0)), (2, .int (nI v))]) hx hb dX6_setsWorth_1 rfl hl (by decide) rfl (fun ls hl => ?_)
  refine lv_iconst (v := nI 0) hx hb dX6_setsWorth_2 (by decide) ?_
  refine lv_istore (lv' := [(4, .int (nI 0)), (3, .int (nI 0)), (0, .ref (sd 0)), (1, .ref (kd 0)), (2, .int (nI v))]) hx hb dX6_setsWorth_3 hl (by decide) rfl (fun ls hl => ?_)
  refine x_loop (ι := Nat) (fun set => [(0, .ref (sd 0)), (1, .ref (kd 0)), (2, .int (nI v)), (3, .int (nI (xsv (fun z => xsw (fun y9 => kW (S 3) (S 4) (tn (S 2 0)) K y9) z (tn (S 5 0))) v set).1)), (4, .int (nI set))]) (fun set => [wst q sd X, wk q kd K]) (fun set => set ≤ 2 ^ (tn (S 5 0))) (fun set => 2 ^ (tn (S 5 0)) - set) 0 (Nat.zero_le _) hM (lv_sub hl [2, 3, 4, 1, 0] rfl) ?_
  intro set hI2 ih1 H locs hM ls hl
  have hM : xM D (TY q) [wst q sd X, wk q kd K] A s.heap s H locs := hM
  have hl : lv_has ls 5 [(0, .ref (sd 0)), (1, .ref (kd 0)), (2, .int (nI v)), (3, .int (nI (xsv (fun z => xsw (fun y9 => kW (S 3) (S 4) (tn (S 2 0)) K y9) z (tn (S 5 0))) v set).1)), (4, .int (nI set))] := hl
  have hI2 : set ≤ 2 ^ (tn (S 5 0)) := hI2
  have hsl := xsv_le (fun z => xsw (fun y9 => kW (S 3) (S 4) (tn (S 2 0)) K y9) z (tn (S 5 0))) v set
  try dsimp only
  refine lv_iload hx hb dX6_setsWorth_5 (lv_at hl 4 rfl) ?_
  refine lv_iconst (v := nI 1) hx hb dX6_setsWorth_7 (by decide) ?_
  refine lv_aload_n hx hb dX6_setsWorth_8 rfl (lv_at hl 0 rfl) ?_
  refine x_get hx hb hts iwX6_setsWorth_X7 hown hM 0 0 rfl rfl rfl 1 (by decide) (hts _ lkX6_setsWorth_99) (fun _ h => h) rfl dX6_setsWorth_9 ?_
  refine x_cast (y := nI (tn (S 5 0))) (okT_1 hT) ?_
  refine lv_ishl hx hb dX6_setsWorth_12 ?_
  refine x_cast (y := nI (2 ^ (tn (S 5 0)))) (x_shl1 hTb1) ?_
  refine x_icmp_ge (x := set) (y := 2 ^ (tn (S 5 0))) (tgt := 36) hx hb (by omega) (by omega) dX6_setsWorth_13 (by decide) (fun c3 => ?_) (fun c3 => ?_)
  · refine lv_iload_n hx hb dX6_setsWorth_36 rfl (lv_at hl 3 rfl) ?_
    exact x_iret hx hb hr hlocks () hM (show nI (xsv (fun z => xsw (fun y9 => kW (S 3) (S 4) (tn (S 2 0)) K y9) z (tn (S 5 0))) v set).1 = nI (xsv (fun z => xsw (fun y9 => kW (S 3) (S 4) (tn (S 2 0)) K y9) z (tn (S 5 0))) v (2 ^ (tn (S 5 0)))).1 from by (rw [show set = 2 ^ (tn (S 5 0)) by omega])) dX6_setsWorth_37
  · refine lv_aload_n hx hb dX6_setsWorth_16 rfl (lv_at hl 0 rfl) ?_
    refine lv_aload_n hx hb dX6_setsWorth_17 rfl (lv_at hl 1 rfl) ?_
    refine lv_iload hx hb dX6_setsWorth_18 (lv_at hl 4 rfl) ?_
    refine x_calli (bc := [wst q sd X, wk q kd K]) (br := []) hM [0, 1] [] rfl rfl rfl (by decide) (x_runS (As := [.ref (sd 0), .ref (kd 0), .int (nI set)]) (rest := []) hfix (c_X6_worthOfSet l D q sd X kd K S set hT (by omega)) (va_cwS 3 hts gX6_setsWorth_X6_worthOfSet rfl rfl rfl (by decide +kernel) ⟨Nat.le_of_ble_eq_true rfl, Nat.le_of_ble_eq_true rfl⟩) hM [0, 1] rfl rfl rfl hl.1 rfl (Nat.le_of_ble_eq_true rfl) dX6_setsWorth_20 ⟨Nat.le_of_ble_eq_true rfl, Nat.le_of_ble_eq_true rfl⟩) (fun r u H locs hq hM => ?_)
    subst hq
    have hM : xM D (TY q) [wst q sd X, wk q kd K] A s.heap s H locs := hM
    refine lv_iload_n hx hb dX6_setsWorth_23 rfl (lv_at hl 2 rfl) ?_
    refine lv_icmp_ne (tgt := 30) hx hb dX6_setsWorth_24 (by decide) (fun c4 => ?_) (fun c4 => ?_)
    · refine lv_iinc (v := nI (set + 1)) (lv' := [(4, .int (nI (set + 1))), (0, .ref (sd 0)), (1, .ref (kd 0)), (2, .int (nI v)), (3, .int (nI (xsv (fun z => xsw (fun y9 => kW (S 3) (S 4) (tn (S 2 0)) K y9) z (tn (S 5 0))) v set).1))]) hx hb dX6_setsWorth_30 hl (k := 4) rfl (x_inc _ 1) (by decide) rfl (fun ls hl => ?_)
      refine lv_goto (tgt := 5) hx hb dX6_setsWorth_33 (by decide) ?_
      have hl : lv_has ls 5 [(0, .ref (sd 0)), (1, .ref (kd 0)), (2, .int (nI v)), (3, .int (nI (xsv (fun z => xsw (fun y9 => kW (S 3) (S 4) (tn (S 2 0)) K y9) z (tn (S 5 0))) v set).1)), (4, .int (nI (set + 1)))] := lv_sub hl [1, 2, 3, 4, 0] rfl
      have e5 : nI (xsv (fun z => xsw (fun y9 => kW (S 3) (S 4) (tn (S 2 0)) K y9) z (tn (S 5 0))) v set).1 = nI (xsv (fun z => xsw (fun y9 => kW (S 3) (S 4) (tn (S 2 0)) K y9) z (tn (S 5 0))) v (set + 1)).1 := by (first | exact (congrArg nI (if_pos (by assumption))).symm | exact (congrArg nI (if_neg (by assumption))).symm)
      have hl : lv_has ls 5 [(0, .ref (sd 0)), (1, .ref (kd 0)), (2, .int (nI v)), (3, .int (nI (xsv (fun z => xsw (fun y9 => kW (S 3) (S 4) (tn (S 2 0)) K y9) z (tn (S 5 0))) v (set + 1)).1)), (4, .int (nI (set + 1)))] := x_lvset hl 3 rfl (congrArg Value.int e5) rfl
      exact ih1 (set + 1) (show 2 ^ (tn (S 5 0)) - (set + 1) < 2 ^ (tn (S 5 0)) - set from by omega) (show (set + 1) ≤ 2 ^ (tn (S 5 0)) from by omega) _ _ hM _ hl
    · refine lv_iinc (v := nI ((xsv (fun z => xsw (fun y9 => kW (S 3) (S 4) (tn (S 2 0)) K y9) z (tn (S 5 0))) v set).1 + 1)) (lv' := [(3, .int (nI ((xsv (fun z => xsw (fun y9 => kW (S 3) (S 4) (tn (S 2 0)) K y9) z (tn (S 5 0))) v set).1 + 1))), (0, .ref (sd 0)), (1, .ref (kd 0)), (2, .int (nI v)), (4, .int (nI set))]) hx hb dX6_setsWorth_27 hl (k := 3) rfl (x_inc _ 1) (by decide) rfl (fun ls hl => ?_)
      refine lv_iinc (v := nI (set + 1)) (lv' := [(4, .int (nI (set + 1))), (3, .int (nI ((xsv (fun z => xsw (fun y9 => kW (S 3) (S 4) (tn (S 2 0)) K y9) z (tn (S 5 0))) v set).1 + 1))), (0, .ref (sd 0)), (1, .ref (kd 0)), (2, .int (nI v))]) hx hb dX6_setsWorth_30 hl (k := 4) rfl (x_inc _ 1) (by decide) rfl (fun ls hl => ?_)
      refine lv_goto (tgt := 5) hx hb dX6_setsWorth_33 (by decide) ?_
      have hl : lv_has ls 5 [(0, .ref (sd 0)), (1, .ref (kd 0)), (2, .int (nI v)), (3, .int (nI ((xsv (fun z => xsw (fun y9 => kW (S 3) (S 4) (tn (S 2 0)) K y9) z (tn (S 5 0))) v set).1 + 1))), (4, .int (nI (set + 1)))] := lv_sub hl [2, 3, 4, 1, 0] rfl
      have e6 : nI ((xsv (fun z => xsw (fun y9 => kW (S 3) (S 4) (tn (S 2 0)) K y9) z (tn (S 5 0))) v set).1 + 1) = nI (xsv (fun z => xsw (fun y9 => kW (S 3) (S 4) (tn (S 2 0)) K y9) z (tn (S 5 0))) v (set + 1)).1 := by (first | exact (congrArg nI (if_pos (by assumption))).symm | exact (congrArg nI (if_neg (by assumption))).symm)
      have hl : lv_has ls 5 [(0, .ref (sd 0)), (1, .ref (kd 0)), (2, .int (nI v)), (3, .int (nI (xsv (fun z => xsw (fun y9 => kW (S 3) (S 4) (tn (S 2 0)) K y9) z (tn (S 5 0))) v (set + 1)).1)), (4, .int (nI (set + 1)))] := x_lvset hl 3 rfl (congrArg Value.int e6) rfl
      exact ih1 (set + 1) (show 2 ^ (tn (S 5 0)) - (set + 1) < 2 ^ (tn (S 5 0)) - set from by omega) (show (set + 1) ≤ 2 ^ (tn (S 5 0)) from by omega) _ _ hM _ hl

set_option maxRecDepth 20000 in
theorem ggX6_lowestSetWorth_X6_worthOfSet : GoodIn wsX6_lowestSetWorth wsX6_worthOfSet := goodIn_r _ [5, 1, 6, 7, 8, 9, 10, 11, 12, 13, 14, 15, 16, 17, 18, 19, 20, 21, 22, 23, 24, 25, 26, 27, 28, 29, 30, 31, 32, 33, 34, 35, 36, 37, 38, 39, 40, 41, 42, 43, 44, 45, 46, 47, 48, 49, 50, 51, 52, 53, 54, 55, 56, 57, 58, 59, 60, 61] (by decide +kernel) (by decide +kernel)
set_option maxRecDepth 20000 in
theorem gX6_lowestSetWorth_X6_worthOfSet : GoodIn wsX6_lowestSetWorth (va_wsS RX6 131 yX6_worthOfSet wsX6_worthOfSet) := goodIn_app (goodIn_of _ (by decide +kernel)) ggX6_lowestSetWorth_X6_worthOfSet
theorem dX6_lowestSetWorth_0 : decode cX6_lowestSetWorth 0 = .ok (.iconst 0, 1) := by decide +kernel
theorem dX6_lowestSetWorth_1 : decode cX6_lowestSetWorth 1 = .ok (.istore_n 3, 1) := by decide +kernel
theorem dX6_lowestSetWorth_2 : decode cX6_lowestSetWorth 2 = .ok (.iload_n 3, 1) := by decide +kernel
theorem dX6_lowestSetWorth_3 : decode cX6_lowestSetWorth 3 = .ok (.iconst 1, 1) := by decide +kernel
theorem dX6_lowestSetWorth_4 : decode cX6_lowestSetWorth 4 = .ok (.aload_n 0, 1) := by decide +kernel
theorem dX6_lowestSetWorth_5 : decode cX6_lowestSetWorth 5 = .ok (.getfield 99, 3) := by decide +kernel
theorem dX6_lowestSetWorth_8 : decode cX6_lowestSetWorth 8 = .ok (.ishl, 1) := by decide +kernel
theorem dX6_lowestSetWorth_9 : decode cX6_lowestSetWorth 9 = .ok (.if_icmp .ge 21, 3) := by decide +kernel
theorem dX6_lowestSetWorth_12 : decode cX6_lowestSetWorth 12 = .ok (.aload_n 0, 1) := by decide +kernel
theorem dX6_lowestSetWorth_13 : decode cX6_lowestSetWorth 13 = .ok (.aload_n 1, 1) := by decide +kernel
theorem dX6_lowestSetWorth_14 : decode cX6_lowestSetWorth 14 = .ok (.iload_n 3, 1) := by decide +kernel
theorem dX6_lowestSetWorth_15 : decode cX6_lowestSetWorth 15 = .ok (.invokestatic 131, 3) := by decide +kernel
theorem dX6_lowestSetWorth_18 : decode cX6_lowestSetWorth 18 = .ok (.iload_n 2, 1) := by decide +kernel
theorem dX6_lowestSetWorth_19 : decode cX6_lowestSetWorth 19 = .ok (.if_icmp .ne 5, 3) := by decide +kernel
theorem dX6_lowestSetWorth_22 : decode cX6_lowestSetWorth 22 = .ok (.iload_n 3, 1) := by decide +kernel
theorem dX6_lowestSetWorth_23 : decode cX6_lowestSetWorth 23 = .ok (.ireturn, 1) := by decide +kernel
theorem dX6_lowestSetWorth_24 : decode cX6_lowestSetWorth 24 = .ok (.iinc 3 1, 3) := by decide +kernel
theorem dX6_lowestSetWorth_27 : decode cX6_lowestSetWorth 27 = .ok (.goto (-25), 3) := by decide +kernel
theorem dX6_lowestSetWorth_30 : decode cX6_lowestSetWorth 30 = .ok (.bipush (-4), 2) := by decide +kernel
theorem dX6_lowestSetWorth_32 : decode cX6_lowestSetWorth 32 = .ok (.ireturn, 1) := by decide +kernel
theorem lkX6_lowestSetWorth_99 : Cond.fieldLink RX6 99 "LeftAtFive$Street" "houses" "I" ∈ wsX6_lowestSetWorth := by decide +kernel
theorem iwX6_lowestSetWorth_X7 : ∀ w ∈ wsX70, w ∈ wsX6_lowestSetWorth := by decide +kernel
set_option maxHeartbeats 2000000 in
set_option maxRecDepth 100000 in
theorem c_X6_lowestSetWorth (l : Launch) (D : va_G) (q : Nat → ClassId) (sd : Nat → Nat) (X : Nat → Nat → Int32) (kd : Nat → Nat) (K : Nat → Int32) (S : Nat → Nat → Int32) (v : Nat) (hT : okT X S) (hv9 : v ≤ 9999) : xC l yX6_lowestSetWorth wsX6_lowestSetWorth ({ frames := 5, cells := 0, slots := 0, locals := 114 }) D (TY q) [wst q sd X, wk q kd K] [.ref (sd 0), .ref (kd 0), .int (nI v)] (xQi D (TY q) (fun (r : Int32) (_ : Unit) => r = (xsv (fun z => xsw (fun y9 => kW (S 3) (S 4) (tn (S 2 0)) K y9) z (tn (S 5 0))) v (2 ^ (tn (S 5 0)))).2) (fun _ => [wst q sd X, wk q kd K])) 0 0 := by
  refine x_enter (cc := cX6_lowestSetWorth) (maxL := 4) (ret := (some .int)) (by decide) rfl (Nat.le_of_ble_eq_true rfl) ?_
  intro p e s m below meth c A ls H locs hfix hr hlocks hinit hM hl
  obtain ⟨hx, hb, hml, hown, hts⟩ := id hfix
  have hl : lv_has ls 4 [(0, .ref (sd 0)), (1, .ref (kd 0)), (2, .int (nI v))] := hl
  have hTb1 := okT_1b hT
  have h32 := x_pow5 hTb1
  refine lv_iconst (v := nI 0) hx hb dX6_lowestSetWorth_0 (by decide) ?_
  refine lv_istore_n (lv' := [(3, .int (nI 0)), (0, .ref (sd 0)), (1, .ref (kd 0)), (2, .int (nI v))]) hx hb dX6_lowestSetWorth_1 rfl hl (by decide) rfl (fun ls hl => ?_)
  refine x_loop (ι := Nat) (fun set => [(0, .ref (sd 0)), (1, .ref (kd 0)), (2, .int (nI v)), (3, .int (nI set))]) (fun set => [wst q sd X, wk q kd K]) (fun set => set ≤ 2 ^ (tn (S 5 0)) ∧ (xsv (fun z => xsw (fun y9 => kW (S 3) (S 4) (tn (S 2 0)) K y9) z (tn (S 5 0))) v set) = (0, -4)) (fun set => 2 ^ (tn (S 5 0)) - set) 0 (⟨Nat.zero_le _, rfl⟩) hM (lv_sub hl [1, 2, 3, 0] rfl) ?_
  intro set hI2 ih1 H locs hM ls hl
  have hM : xM D (TY q) [wst q sd X, wk q kd K] A s.heap s H locs := hM
  have hl : lv_has ls 4 [(0, .ref (sd 0)), (1, .ref (kd 0)), (2, .int (nI v)), (3, .int (nI set))] := hl
  have hI2 : set ≤ 2 ^ (tn (S 5 0)) ∧ (xsv (fun z => xsw (fun y9 => kW (S 3) (S 4) (tn (S 2 0)) K y9) z (tn (S 5 0))) v set) = (0, -4) := hI2
  obtain ⟨hI2_0, hI2_1⟩ := id hI2
  have hs9 := hI2_0
  have hx9 := hI2_1
  try dsimp only
  refine lv_iload_n hx hb dX6_lowestSetWorth_2 rfl (lv_at hl 3 rfl) ?_
  refine lv_iconst (v := nI 1) hx hb dX6_lowestSetWorth_3 (by decide) ?_
  refine lv_aload_n hx hb dX6_lowestSetWorth_4 rfl (lv_at hl 0 rfl) ?_
  refine x_get hx hb hts iwX6_lowestSetWorth_X7 hown hM 0 0 rfl rfl rfl 1 (by decide) (hts _ lkX6_lowestSetWorth_99) (fun _ h => h) rfl dX6_lowestSetWorth_5 ?_
  refine x_cast (y := nI (tn (S 5 0))) (okT_1 hT) ?_
  refine lv_ishl hx hb dX6_lowestSetWorth_8 ?_
  refine x_cast (y := nI (2 ^ (tn (S 5 0)))) (x_shl1 hTb1) ?_
  refine x_icmp_ge (x := set) (y := 2 ^ (tn (S 5 0))) (tgt := 30) hx hb (by omega) (by omega) dX6_lowestSetWorth_9 (by decide) (fun c3 => ?_) (fun c3 => ?_)
  · refine lv_bipush (v := (-4)) hx hb dX6_lowestSetWorth_30 (by decide) ?_
    exact x_iret hx hb hr hlocks () hM (show (-4) = (xsv (fun z => xsw (fun y9 => kW (S 3) (S 4) (tn (S 2 0)) K y9) z (tn (S 5 0))) v (2 ^ (tn (S 5 0)))).2 from by (first | exact (xsv_at hx9 (by assumption) (by omega)).symm | (rw [show 2 ^ (tn (S 5 0)) = set by omega, hx9]))) dX6_lowestSetWorth_32
  · refine lv_aload_n hx hb dX6_lowestSetWorth_12 rfl (lv_at hl 0 rfl) ?_
    refine lv_aload_n hx hb dX6_lowestSetWorth_13 rfl (lv_at hl 1 rfl) ?_
    refine lv_iload_n hx hb dX6_lowestSetWorth_14 rfl (lv_at hl 3 rfl) ?_
    refine x_calli (bc := [wst q sd X, wk q kd K]) (br := []) hM [0, 1] [] rfl rfl rfl (by decide) (x_runS (As := [.ref (sd 0), .ref (kd 0), .int (nI set)]) (rest := []) hfix (c_X6_worthOfSet l D q sd X kd K S set hT (by omega)) (va_cwS 3 hts gX6_lowestSetWorth_X6_worthOfSet rfl rfl rfl (by decide +kernel) ⟨Nat.le_of_ble_eq_true rfl, Nat.le_of_ble_eq_true rfl⟩) hM [0, 1] rfl rfl rfl hl.1 rfl (Nat.le_of_ble_eq_true rfl) dX6_lowestSetWorth_15 ⟨Nat.le_of_ble_eq_true rfl, Nat.le_of_ble_eq_true rfl⟩) (fun r u H locs hq hM => ?_)
    subst hq
    have hM : xM D (TY q) [wst q sd X, wk q kd K] A s.heap s H locs := hM
    refine lv_iload_n hx hb dX6_lowestSetWorth_18 rfl (lv_at hl 2 rfl) ?_
    refine lv_icmp_ne (tgt := 24) hx hb dX6_lowestSetWorth_19 (by decide) (fun c4 => ?_) (fun c4 => ?_)
    · refine lv_iinc (v := nI (set + 1)) (lv' := [(3, .int (nI (set + 1))), (0, .ref (sd 0)), (1, .ref (kd 0)), (2, .int (nI v))]) hx hb dX6_lowestSetWorth_24 hl (k := 3) rfl (x_inc _ 1) (by decide) rfl (fun ls hl => ?_)
      refine lv_goto (tgt := 2) hx hb dX6_lowestSetWorth_27 (by decide) ?_
      have hl : lv_has ls 4 [(0, .ref (sd 0)), (1, .ref (kd 0)), (2, .int (nI v)), (3, .int (nI (set + 1)))] := lv_sub hl [1, 2, 3, 0] rfl
      exact ih1 (set + 1) (show 2 ^ (tn (S 5 0)) - (set + 1) < 2 ^ (tn (S 5 0)) - set from by omega) (show (set + 1) ≤ 2 ^ (tn (S 5 0)) ∧ (xsv (fun z => xsw (fun y9 => kW (S 3) (S 4) (tn (S 2 0)) K y9) z (tn (S 5 0))) v (set + 1)) = (0, -4) from ⟨by omega, xsv_0 hx9 (by assumption)⟩) _ _ hM _ hl
    · refine lv_iload_n hx hb dX6_lowestSetWorth_22 rfl (lv_at hl 3 rfl) ?_
      exact x_iret hx hb hr hlocks () hM (show nI set = (xsv (fun z => xsw (fun y9 => kW (S 3) (S 4) (tn (S 2 0)) K y9) z (tn (S 5 0))) v (2 ^ (tn (S 5 0)))).2 from by (first | exact (xsv_at hx9 (by assumption) (by omega)).symm | (rw [show 2 ^ (tn (S 5 0)) = set by omega, hx9]))) dX6_lowestSetWorth_23

theorem dX6_winningMeal_0 : decode cX6_winningMeal 0 = .ok (.iconst 1, 1) := by decide +kernel
theorem dX6_winningMeal_1 : decode cX6_winningMeal 1 = .ok (.istore 4, 2) := by decide +kernel
theorem dX6_winningMeal_3 : decode cX6_winningMeal 3 = .ok (.iload 4, 2) := by decide +kernel
theorem dX6_winningMeal_5 : decode cX6_winningMeal 5 = .ok (.iload_n 3, 1) := by decide +kernel
theorem dX6_winningMeal_6 : decode cX6_winningMeal 6 = .ok (.if_icmp .gt 61, 3) := by decide +kernel
theorem dX6_winningMeal_9 : decode cX6_winningMeal 9 = .ok (.iload 4, 2) := by decide +kernel
theorem dX6_winningMeal_11 : decode cX6_winningMeal 11 = .ok (.iload_n 1, 1) := by decide +kernel
theorem dX6_winningMeal_12 : decode cX6_winningMeal 12 = .ok (.if_icmp .gt 55, 3) := by decide +kernel
theorem dX6_winningMeal_15 : decode cX6_winningMeal 15 = .ok (.iload_n 1, 1) := by decide +kernel
theorem dX6_winningMeal_16 : decode cX6_winningMeal 16 = .ok (.iload 4, 2) := by decide +kernel
theorem dX6_winningMeal_18 : decode cX6_winningMeal 18 = .ok (.isub, 1) := by decide +kernel
theorem dX6_winningMeal_19 : decode cX6_winningMeal 19 = .ok (.bipush 10, 2) := by decide +kernel
theorem dX6_winningMeal_21 : decode cX6_winningMeal 21 = .ok (.imul, 1) := by decide +kernel
theorem dX6_winningMeal_22 : decode cX6_winningMeal 22 = .ok (.iload 4, 2) := by decide +kernel
theorem dX6_winningMeal_24 : decode cX6_winningMeal 24 = .ok (.iadd, 1) := by decide +kernel
theorem dX6_winningMeal_25 : decode cX6_winningMeal 25 = .ok (.istore 5, 2) := by decide +kernel
theorem dX6_winningMeal_27 : decode cX6_winningMeal 27 = .ok (.iload 4, 2) := by decide +kernel
theorem dX6_winningMeal_29 : decode cX6_winningMeal 29 = .ok (.iload_n 2, 1) := by decide +kernel
theorem dX6_winningMeal_30 : decode cX6_winningMeal 30 = .ok (.if_icmp .eq 31, 3) := by decide +kernel
theorem dX6_winningMeal_33 : decode cX6_winningMeal 33 = .ok (.iload 5, 2) := by decide +kernel
theorem dX6_winningMeal_35 : decode cX6_winningMeal 35 = .ok (.ifCond .lt 26, 3) := by decide +kernel
theorem dX6_winningMeal_38 : decode cX6_winningMeal 38 = .ok (.iload 5, 2) := by decide +kernel
theorem dX6_winningMeal_40 : decode cX6_winningMeal 40 = .ok (.aload_n 0, 1) := by decide +kernel
theorem dX6_winningMeal_41 : decode cX6_winningMeal 41 = .ok (.getfield 18, 3) := by decide +kernel
theorem dX6_winningMeal_44 : decode cX6_winningMeal 44 = .ok (.arraylength, 1) := by decide +kernel
theorem dX6_winningMeal_45 : decode cX6_winningMeal 45 = .ok (.if_icmp .ge 16, 3) := by decide +kernel
theorem dX6_winningMeal_48 : decode cX6_winningMeal 48 = .ok (.aload_n 0, 1) := by decide +kernel
theorem dX6_winningMeal_49 : decode cX6_winningMeal 49 = .ok (.getfield 18, 3) := by decide +kernel
theorem dX6_winningMeal_52 : decode cX6_winningMeal 52 = .ok (.iload 5, 2) := by decide +kernel
theorem dX6_winningMeal_54 : decode cX6_winningMeal 54 = .ok (.baload, 1) := by decide +kernel
theorem dX6_winningMeal_55 : decode cX6_winningMeal 55 = .ok (.ifCond .ne 6, 3) := by decide +kernel
theorem dX6_winningMeal_58 : decode cX6_winningMeal 58 = .ok (.iload 4, 2) := by decide +kernel
theorem dX6_winningMeal_60 : decode cX6_winningMeal 60 = .ok (.ireturn, 1) := by decide +kernel
theorem dX6_winningMeal_61 : decode cX6_winningMeal 61 = .ok (.iinc 4 1, 3) := by decide +kernel
theorem dX6_winningMeal_64 : decode cX6_winningMeal 64 = .ok (.goto (-61), 3) := by decide +kernel
theorem dX6_winningMeal_67 : decode cX6_winningMeal 67 = .ok (.iconst 0, 1) := by decide +kernel
theorem dX6_winningMeal_68 : decode cX6_winningMeal 68 = .ok (.ireturn, 1) := by decide +kernel
theorem lkX6_winningMeal_18 : Cond.fieldLink RX6 18 "LeftAtFive$Shops" "wins" "[Z" ∈ wsX6_winningMeal := by decide +kernel
theorem iwX6_winningMeal_X6 : ∀ w ∈ wsX60, w ∈ wsX6_winningMeal := by decide +kernel
set_option maxHeartbeats 2000000 in
set_option maxRecDepth 100000 in
theorem c_X6_winningMeal (l : Launch) (D : va_G) (q : Nat → ClassId) (ad : Nat → Nat) (τ0 : Int32) (τ1 : Int64) (τ2 : Int32) (τ3 : Nat → Int32) (τ4 : Nat → Int32) (τ5 : Nat → Int32) (v : Nat) (t : Nat) (mm : Nat) (hn9 : v ≤ 99) (hm9 : mm ≤ 9) (ht9 : t ≤ 9) : xC l yX6_winningMeal wsX6_winningMeal ({ frames := 0, cells := 0, slots := 0, locals := 0 }) D (TY q) [w6 q ad τ0 τ1 τ2 τ3 τ4 τ5] [.ref (ad 0), .int (nI v), .int (nI t), .int (nI mm)] (xQi D (TY q) (fun (r : Int32) (_ : Unit) => r = nI (xwe τ5 v t mm)) (fun _ => [w6 q ad τ0 τ1 τ2 τ3 τ4 τ5])) 0 0 := by
  refine x_enter (cc := cX6_winningMeal) (maxL := 6) (ret := (some .int)) (by decide) rfl (Nat.le_of_ble_eq_true rfl) ?_
  intro p e s m below meth c A ls H locs hfix hr hlocks hinit hM hl
  obtain ⟨hx, hb, hml, hown, hts⟩ := id hfix
  have hl : lv_has ls 6 [(0, .ref (ad 0)), (1, .int (nI v)), (2, .int (nI t)), (3, .int (nI mm))] := hl
  refine lv_iconst (v := nI 1) hx hb dX6_winningMeal_0 (by decide) ?_
  refine lv_istore (lv' := [(4, .int (nI 1)), (0, .ref (ad 0)), (1, .int (nI v)), (2, .int (nI t)), (3, .int (nI mm))]) hx hb dX6_winningMeal_1 hl (by decide) rfl (fun ls hl => ?_)
  refine x_loop (ι := Nat) (fun j => [(0, .ref (ad 0)), (1, .int (nI v)), (2, .int (nI t)), (3, .int (nI mm)), (4, .int (nI (j + 1)))]) (fun j => [w6 q ad τ0 τ1 τ2 τ3 τ4 τ5]) (fun j => j ≤ mm ∧ xwe τ5 v t j = 0) (fun j => mm - j) 0 (⟨Nat.zero_le _, rfl⟩) hM (lv_sub hl [1, 2, 3, 4, 0] rfl) ?_
  intro j hI2 ih1 H locs hM ls hl
  have hM : xM D (TY q) [w6 q ad τ0 τ1 τ2 τ3 τ4 τ5] A s.heap s H locs := hM
  have hl : lv_has ls 6 [(0, .ref (ad 0)), (1, .int (nI v)), (2, .int (nI t)), (3, .int (nI mm)), (4, .int (nI (j + 1)))] := hl
  have hI2 : j ≤ mm ∧ xwe τ5 v t j = 0 := hI2
  obtain ⟨hI2_0, hI2_1⟩ := id hI2
  have hj9 := hI2_0
  have hx9 := hI2_1
  try dsimp only
  refine lv_iload hx hb dX6_winningMeal_3 (lv_at hl 4 rfl) ?_
  refine lv_iload_n hx hb dX6_winningMeal_5 rfl (lv_at hl 3 rfl) ?_
  refine x_icmp_gt (x := j + 1) (y := mm) (tgt := 67) hx hb (by omega) (by omega) dX6_winningMeal_6 (by decide) (fun c3 => ?_) (fun c3 => ?_)
  · refine lv_iconst (v := nI 0) hx hb dX6_winningMeal_67 (by decide) ?_
    exact x_iret hx hb hr hlocks () hM (show nI 0 = nI (xwe τ5 v t mm) from by (first | exact congrArg nI (xwe_at hx9 (by omega) (by assumption) (by assumption) (by omega)).symm | exact congrArg nI (xwe_end hx9 (by omega) hj9).symm | (rw [show mm = j by omega, hx9]))) dX6_winningMeal_68
  · refine lv_iload hx hb dX6_winningMeal_9 (lv_at hl 4 rfl) ?_
    refine lv_iload_n hx hb dX6_winningMeal_11 rfl (lv_at hl 1 rfl) ?_
    refine x_icmp_gt (x := j + 1) (y := v) (tgt := 67) hx hb (by omega) (by omega) dX6_winningMeal_12 (by decide) (fun c4 => ?_) (fun c4 => ?_)
    · refine lv_iconst (v := nI 0) hx hb dX6_winningMeal_67 (by decide) ?_
      exact x_iret hx hb hr hlocks () hM (show nI 0 = nI (xwe τ5 v t mm) from by (first | exact congrArg nI (xwe_at hx9 (by omega) (by assumption) (by assumption) (by omega)).symm | exact congrArg nI (xwe_end hx9 (by omega) hj9).symm | (rw [show mm = j by omega, hx9]))) dX6_winningMeal_68
    · refine lv_iload_n hx hb dX6_winningMeal_15 rfl (lv_at hl 1 rfl) ?_
      refine lv_iload hx hb dX6_winningMeal_16 (lv_at hl 4 rfl) ?_
      refine x_isub (x := v) (y := j + 1) hx hb (by omega) dX6_winningMeal_18 ?_
      refine lv_bipush (v := nI 10) hx hb dX6_winningMeal_19 (by decide) ?_
      refine x_imul (x := v - (j + 1)) (y := 10) hx hb dX6_winningMeal_21 ?_
      refine lv_iload hx hb dX6_winningMeal_22 (lv_at hl 4 rfl) ?_
      refine x_iadd (x := (v - (j + 1)) * 10) (y := j + 1) hx hb dX6_winningMeal_24 ?_
      refine lv_istore (lv' := [(5, .int (nI ((v - (j + 1)) * 10 + (j + 1)))), (0, .ref (ad 0)), (1, .int (nI v)), (2, .int (nI t)), (3, .int (nI mm)), (4, .int (nI (j + 1)))]) hx hb dX6_winningMeal_25 hl (by decide) rfl (fun ls hl => ?_)
      refine lv_iload hx hb dX6_winningMeal_27 (lv_at hl 5 rfl) ?_
      refine lv_iload_n hx hb dX6_winningMeal_29 rfl (lv_at hl 3 rfl) ?_
      refine x_icmp_eq (x := j + 1) (y := t) (tgt := 61) hx hb (by omega) (by omega) dX6_winningMeal_30 (by decide) (fun c5 => ?_) (fun c5 => ?_)
      · refine lv_iinc (v := nI (j + 1 + 1)) (lv' := [(4, .int (nI (j + 1 + 1))), (5, .int (nI ((v - (j + 1)) * 10 + (j + 1)))), (0, .ref (ad 0)), (1, .int (nI v)), (2, .int (nI t)), (3, .int (nI mm))]) hx hb dX6_winningMeal_61 hl (k := 5) rfl (x_inc _ 1) (by decide) rfl (fun ls hl => ?_)
        refine lv_goto (tgt := 3) hx hb dX6_winningMeal_64 (by decide) ?_
        have hl : lv_has ls 6 [(0, .ref (ad 0)), (1, .int (nI v)), (2, .int (nI t)), (3, .int (nI mm)), (4, .int (nI (j + 1 + 1)))] := lv_sub hl [2, 3, 4, 5, 0] rfl
        exact ih1 (j + 1) (show mm - (j + 1) < mm - j from by omega) (show (j + 1) ≤ mm ∧ xwe τ5 v t (j + 1) = 0 from ⟨by omega, xwe_0 hx9 (by first | exact (fun z => z.2.1 (by assumption)) | exact (fun z => absurd z.2.2 (by assumption)))⟩) _ _ hM _ hl
      · refine lv_iload hx hb dX6_winningMeal_33 (lv_at hl 0 rfl) ?_
        refine x_if_lt (x := (v - (j + 1)) * 10 + (j + 1)) (tgt := 61) hx hb (by omega) dX6_winningMeal_35 (by decide) ?_
        refine lv_iload hx hb dX6_winningMeal_38 (lv_at hl 0 rfl) ?_
        refine lv_aload_n hx hb dX6_winningMeal_40 rfl (lv_at hl 1 rfl) ?_
        refine x_get hx hb hts iwX6_winningMeal_X6 hown hM 0 0 rfl rfl rfl 5 (by decide) (hts _ lkX6_winningMeal_18) (fun _ h => h) rfl dX6_winningMeal_41 ?_
        refine x_alen hx hb hM 0 3 0 rfl rfl rfl dX6_winningMeal_44 ?_
        refine x_icmp_ge (x := (v - (j + 1)) * 10 + (j + 1)) (y := 1000) (tgt := 61) hx hb (by omega) (by omega) dX6_winningMeal_45 (by decide) (fun c6 => ?_) (fun c6 => ?_)
        · refine lv_iinc (v := nI (j + 1 + 1)) (lv' := [(4, .int (nI (j + 1 + 1))), (5, .int (nI ((v - (j + 1)) * 10 + (j + 1)))), (0, .ref (ad 0)), (1, .int (nI v)), (2, .int (nI t)), (3, .int (nI mm))]) hx hb dX6_winningMeal_61 hl (k := 5) rfl (x_inc _ 1) (by decide) rfl (fun ls hl => ?_)
          refine lv_goto (tgt := 3) hx hb dX6_winningMeal_64 (by decide) ?_
          have hl : lv_has ls 6 [(0, .ref (ad 0)), (1, .int (nI v)), (2, .int (nI t)), (3, .int (nI mm)), (4, .int (nI (j + 1 + 1)))] := lv_sub hl [2, 3, 4, 5, 0] rfl
          exact ih1 (j + 1) (show mm - (j + 1) < mm - j from by omega) (show (j + 1) ≤ mm ∧ xwe τ5 v t (j + 1) = 0 from ⟨by omega, xwe_0 hx9 (by first | exact (fun z => z.2.1 (by assumption)) | exact (fun z => absurd z.2.2 (by assumption)))⟩) _ _ hM _ hl
        · refine lv_aload_n hx hb dX6_winningMeal_48 rfl (lv_at hl 1 rfl) ?_
          refine x_get hx hb hts iwX6_winningMeal_X6 hown hM 0 0 rfl rfl rfl 5 (by decide) (hts _ lkX6_winningMeal_18) (fun _ h => h) rfl dX6_winningMeal_49 ?_
          refine lv_iload hx hb dX6_winningMeal_52 (lv_at hl 0 rfl) ?_
          refine x_zald hx hb hM 0 3 2 (f := τ5) rfl rfl rfl (t := (v - (j + 1)) * 10 + (j + 1)) (by omega) (by decide) dX6_winningMeal_54 ?_
          refine lv_if_ne (tgt := 61) hx hb dX6_winningMeal_55 (by decide) (fun c7 => ?_) (fun c7 => ?_)
          · refine lv_iinc (v := nI (j + 1 + 1)) (lv' := [(4, .int (nI (j + 1 + 1))), (5, .int (nI ((v - (j + 1)) * 10 + (j + 1)))), (0, .ref (ad 0)), (1, .int (nI v)), (2, .int (nI t)), (3, .int (nI mm))]) hx hb dX6_winningMeal_61 hl (k := 5) rfl (x_inc _ 1) (by decide) rfl (fun ls hl => ?_)
            refine lv_goto (tgt := 3) hx hb dX6_winningMeal_64 (by decide) ?_
            have hl : lv_has ls 6 [(0, .ref (ad 0)), (1, .int (nI v)), (2, .int (nI t)), (3, .int (nI mm)), (4, .int (nI (j + 1 + 1)))] := lv_sub hl [2, 3, 4, 5, 0] rfl
            exact ih1 (j + 1) (show mm - (j + 1) < mm - j from by omega) (show (j + 1) ≤ mm ∧ xwe τ5 v t (j + 1) = 0 from ⟨by omega, xwe_0 hx9 (by first | exact (fun z => z.2.1 (by assumption)) | exact (fun z => absurd z.2.2 (by assumption)))⟩) _ _ hM _ hl
          · refine lv_iload hx hb dX6_winningMeal_58 (lv_at hl 5 rfl) ?_
            exact x_iret hx hb hr hlocks () hM (show nI (j + 1) = nI (xwe τ5 v t mm) from by (first | exact congrArg nI (xwe_at hx9 (by omega) (by assumption) (by assumption) (by omega)).symm | exact congrArg nI (xwe_end hx9 (by omega) hj9).symm | (rw [show mm = j by omega, hx9]))) dX6_winningMeal_60

set_option maxRecDepth 20000 in
theorem ggX6_peasToWin_X6_winningMeal : GoodIn wsX6_peasToWin wsX6_winningMeal := goodIn_r _ [6, 1, 7, 8, 9, 10, 11, 12] (by decide +kernel) (by decide +kernel)
set_option maxRecDepth 20000 in
theorem gX6_peasToWin_X6_winningMeal : GoodIn wsX6_peasToWin (wsV RX6 137 RX6 yX6_winningMeal wsX6_winningMeal) := goodIn_app (goodIn_of _ (by decide +kernel)) ggX6_peasToWin_X6_winningMeal
theorem dX6_peasToWin_0 : decode cX6_peasToWin 0 = .ok (.iconst 0, 1) := by decide +kernel
theorem dX6_peasToWin_1 : decode cX6_peasToWin 1 = .ok (.istore_n 3, 1) := by decide +kernel
theorem dX6_peasToWin_2 : decode cX6_peasToWin 2 = .ok (.iload_n 3, 1) := by decide +kernel
theorem dX6_peasToWin_3 : decode cX6_peasToWin 3 = .ok (.iload_n 1, 1) := by decide +kernel
theorem dX6_peasToWin_4 : decode cX6_peasToWin 4 = .ok (.if_icmp .ge 71, 3) := by decide +kernel
theorem dX6_peasToWin_7 : decode cX6_peasToWin 7 = .ok (.iconst 1, 1) := by decide +kernel
theorem dX6_peasToWin_8 : decode cX6_peasToWin 8 = .ok (.istore 4, 2) := by decide +kernel
theorem dX6_peasToWin_10 : decode cX6_peasToWin 10 = .ok (.iload 4, 2) := by decide +kernel
theorem dX6_peasToWin_12 : decode cX6_peasToWin 12 = .ok (.iload_n 2, 1) := by decide +kernel
theorem dX6_peasToWin_13 : decode cX6_peasToWin 13 = .ok (.if_icmp .gt 56, 3) := by decide +kernel
theorem dX6_peasToWin_16 : decode cX6_peasToWin 16 = .ok (.iload_n 3, 1) := by decide +kernel
theorem dX6_peasToWin_17 : decode cX6_peasToWin 17 = .ok (.bipush 10, 2) := by decide +kernel
theorem dX6_peasToWin_19 : decode cX6_peasToWin 19 = .ok (.imul, 1) := by decide +kernel
theorem dX6_peasToWin_20 : decode cX6_peasToWin 20 = .ok (.iload 4, 2) := by decide +kernel
theorem dX6_peasToWin_22 : decode cX6_peasToWin 22 = .ok (.iadd, 1) := by decide +kernel
theorem dX6_peasToWin_23 : decode cX6_peasToWin 23 = .ok (.istore 5, 2) := by decide +kernel
theorem dX6_peasToWin_25 : decode cX6_peasToWin 25 = .ok (.iload 5, 2) := by decide +kernel
theorem dX6_peasToWin_27 : decode cX6_peasToWin 27 = .ok (.ifCond .lt 36, 3) := by decide +kernel
theorem dX6_peasToWin_30 : decode cX6_peasToWin 30 = .ok (.iload 5, 2) := by decide +kernel
theorem dX6_peasToWin_32 : decode cX6_peasToWin 32 = .ok (.aload_n 0, 1) := by decide +kernel
theorem dX6_peasToWin_33 : decode cX6_peasToWin 33 = .ok (.getfield 18, 3) := by decide +kernel
theorem dX6_peasToWin_36 : decode cX6_peasToWin 36 = .ok (.arraylength, 1) := by decide +kernel
theorem dX6_peasToWin_37 : decode cX6_peasToWin 37 = .ok (.if_icmp .ge 26, 3) := by decide +kernel
theorem dX6_peasToWin_40 : decode cX6_peasToWin 40 = .ok (.aload_n 0, 1) := by decide +kernel
theorem dX6_peasToWin_41 : decode cX6_peasToWin 41 = .ok (.getfield 18, 3) := by decide +kernel
theorem dX6_peasToWin_44 : decode cX6_peasToWin 44 = .ok (.iload 5, 2) := by decide +kernel
theorem dX6_peasToWin_46 : decode cX6_peasToWin 46 = .ok (.aload_n 0, 1) := by decide +kernel
theorem dX6_peasToWin_47 : decode cX6_peasToWin 47 = .ok (.iload_n 3, 1) := by decide +kernel
theorem dX6_peasToWin_48 : decode cX6_peasToWin 48 = .ok (.iload 4, 2) := by decide +kernel
theorem dX6_peasToWin_50 : decode cX6_peasToWin 50 = .ok (.iload_n 2, 1) := by decide +kernel
theorem dX6_peasToWin_51 : decode cX6_peasToWin 51 = .ok (.invokevirtual 137, 3) := by decide +kernel
theorem dX6_peasToWin_54 : decode cX6_peasToWin 54 = .ok (.ifCond .le 7, 3) := by decide +kernel
theorem dX6_peasToWin_57 : decode cX6_peasToWin 57 = .ok (.iconst 1, 1) := by decide +kernel
theorem dX6_peasToWin_58 : decode cX6_peasToWin 58 = .ok (.goto 4, 3) := by decide +kernel
theorem dX6_peasToWin_61 : decode cX6_peasToWin 61 = .ok (.iconst 0, 1) := by decide +kernel
theorem dX6_peasToWin_62 : decode cX6_peasToWin 62 = .ok (.bastore, 1) := by decide +kernel
theorem dX6_peasToWin_63 : decode cX6_peasToWin 63 = .ok (.iinc 4 1, 3) := by decide +kernel
theorem dX6_peasToWin_66 : decode cX6_peasToWin 66 = .ok (.goto (-56), 3) := by decide +kernel
theorem dX6_peasToWin_69 : decode cX6_peasToWin 69 = .ok (.iinc 3 1, 3) := by decide +kernel
theorem dX6_peasToWin_72 : decode cX6_peasToWin 72 = .ok (.goto (-70), 3) := by decide +kernel
theorem dX6_peasToWin_75 : decode cX6_peasToWin 75 = .ok (.aload_n 0, 1) := by decide +kernel
theorem dX6_peasToWin_76 : decode cX6_peasToWin 76 = .ok (.iload_n 1, 1) := by decide +kernel
theorem dX6_peasToWin_77 : decode cX6_peasToWin 77 = .ok (.iconst 0, 1) := by decide +kernel
theorem dX6_peasToWin_78 : decode cX6_peasToWin 78 = .ok (.iload_n 2, 1) := by decide +kernel
theorem dX6_peasToWin_79 : decode cX6_peasToWin 79 = .ok (.invokevirtual 137, 3) := by decide +kernel
theorem dX6_peasToWin_82 : decode cX6_peasToWin 82 = .ok (.ireturn, 1) := by decide +kernel
theorem lkX6_peasToWin_18 : Cond.fieldLink RX6 18 "LeftAtFive$Shops" "wins" "[Z" ∈ wsX6_peasToWin := by decide +kernel
theorem iwX6_peasToWin_X6 : ∀ w ∈ wsX60, w ∈ wsX6_peasToWin := by decide +kernel
set_option maxHeartbeats 2000000 in
set_option maxRecDepth 100000 in
theorem c_X6_peasToWin (l : Launch) (D : va_G) (q : Nat → ClassId) (ad : Nat → Nat) (τ0 : Int32) (τ1 : Int64) (τ2 : Int32) (τ3 : Nat → Int32) (τ4 : Nat → Int32) (τ5 : Nat → Int32) (n : Nat) (mm : Nat) (hn9 : n ≤ 99) (hm9 : mm ≤ 9) : xC l yX6_peasToWin wsX6_peasToWin ({ frames := 1, cells := 0, slots := 0, locals := 25 }) D (TY q) [w6 q ad τ0 τ1 τ2 τ3 τ4 τ5] [.ref (ad 0), .int (nI n), .int (nI mm)] (xQi D (TY q) (fun (r : Int32) (_ : Unit) => r = nI (xwe (xct mm τ5 n) n 0 mm)) (fun _ => [w6 q ad τ0 τ1 τ2 τ3 τ4 (xct mm τ5 n)])) 0 0 := by
  refine x_enter (cc := cX6_peasToWin) (maxL := 6) (ret := (some .int)) (by decide) rfl (Nat.le_of_ble_eq_true rfl) ?_
  intro p e s m below meth c A ls H locs hfix hr hlocks hinit hM hl
  obtain ⟨hx, hb, hml, hown, hts⟩ := id hfix
  have hl : lv_has ls 6 [(0, .ref (ad 0)), (1, .int (nI n)), (2, .int (nI mm))] := hl
  refine lv_iconst (v := nI 0) hx hb dX6_peasToWin_0 (by decide) ?_
  refine lv_istore_n (lv' := [(3, .int (nI 0)), (0, .ref (ad 0)), (1, .int (nI n)), (2, .int (nI mm))]) hx hb dX6_peasToWin_1 rfl hl (by decide) rfl (fun ls hl => ?_)
  have e2 : ((τ5) : Nat → Int32) = ((xct mm τ5 0)) := by rfl
  have hM : xM D (TY q) [w6 q ad τ0 τ1 τ2 τ3 τ4 (xct mm τ5 0)] A s.heap s H locs := Eq.mp (congrArg (fun z9 => xM D (TY q) [w6 q ad τ0 τ1 τ2 τ3 τ4 z9] A s.heap s H locs) e2) hM
  refine x_loop (ι := Nat) (fun v => [(0, .ref (ad 0)), (1, .int (nI n)), (2, .int (nI mm)), (3, .int (nI v))]) (fun v => [w6 q ad τ0 τ1 τ2 τ3 τ4 (xct mm τ5 v)]) (fun v => v ≤ n) (fun v => n - v) 0 (by omega) hM (lv_sub hl [1, 2, 3, 0] rfl) ?_
  intro v hI4 ih3 H locs hM ls hl
  have hM : xM D (TY q) [w6 q ad τ0 τ1 τ2 τ3 τ4 (xct mm τ5 v)] A s.heap s H locs := hM
  have hl : lv_has ls 6 [(0, .ref (ad 0)), (1, .int (nI n)), (2, .int (nI mm)), (3, .int (nI v))] := hl
  have hI4 : v ≤ n := hI4
  try dsimp only
  refine lv_iload_n hx hb dX6_peasToWin_2 rfl (lv_at hl 3 rfl) ?_
  refine lv_iload_n hx hb dX6_peasToWin_3 rfl (lv_at hl 1 rfl) ?_
  refine x_icmp_ge (x := v) (y := n) (tgt := 75) hx hb (by omega) (by omega) dX6_peasToWin_4 (by decide) (fun c5 => ?_) (fun c5 => ?_)
  · have e6 : (((xct mm τ5 v)) : Nat → Int32) = ((xct mm τ5 n)) := by rw [hvn]
    have hM : xM D (TY q) [w6 q ad τ0 τ1 τ2 τ3 τ4 (xct mm τ5 n)] A s.heap s H locs := Eq.mp (congrArg (fun z9 => xM D (TY q) [w6 q ad τ0 τ1 τ2 τ3 τ4 z9] A s.heap s H locs) e6) hM
    have hvn : v = n := by omega
    refine lv_aload_n hx hb dX6_peasToWin_75 rfl (lv_at hl 0 rfl) ?_
    refine lv_iload_n hx hb dX6_peasToWin_76 rfl (lv_at hl 1 rfl) ?_
    refine lv_iconst (v := nI 0) hx hb dX6_peasToWin_77 (by decide) ?_
    refine lv_iload_n hx hb dX6_peasToWin_78 rfl (lv_at hl 2 rfl) ?_
    refine x_calli (bc := [w6 q ad τ0 τ1 τ2 τ3 τ4 (xct mm τ5 n)]) (br := []) hM [0] [] rfl rfl rfl (by decide) (x_runV (As := [.int (nI n), .int (nI 0), .int (nI mm)]) (rest := []) hfix (c_X6_winningMeal l D q ad τ0 τ1 τ2 τ3 τ4 (xct mm τ5 n) n 0 mm (by omega) (by omega) (by omega)) (cwV 3 hts gX6_peasToWin_X6_winningMeal rfl rfl rfl (by decide +kernel) ⟨Nat.le_of_ble_eq_true rfl, Nat.le_of_ble_eq_true rfl⟩) hM [0] rfl rfl 0 0 rfl rfl rfl rfl rfl hl.1 rfl (Nat.le_of_ble_eq_true rfl) dX6_peasToWin_79 ⟨Nat.le_of_ble_eq_true rfl, Nat.le_of_ble_eq_true rfl⟩) (fun r u H locs hq hM => ?_)
    subst hq
    have hM : xM D (TY q) [w6 q ad τ0 τ1 τ2 τ3 τ4 (xct mm τ5 n)] A s.heap s H locs := hM
    exact x_iret hx hb hr hlocks () hM (show nI (xwe (xct mm τ5 n) n 0 mm) = nI (xwe (xct mm τ5 n) n 0 mm) from rfl) dX6_peasToWin_82
  · refine lv_iconst (v := nI 1) hx hb dX6_peasToWin_7 (by decide) ?_
    refine lv_istore (lv' := [(4, .int (nI 1)), (0, .ref (ad 0)), (1, .int (nI n)), (2, .int (nI mm)), (3, .int (nI v))]) hx hb dX6_peasToWin_8 hl (by decide) rfl (fun ls hl => ?_)
    have e8 : (((xct mm τ5 v)) : Nat → Int32) = ((xcr mm v (xct mm τ5 v) 0)) := by rfl
    have hM : xM D (TY q) [w6 q ad τ0 τ1 τ2 τ3 τ4 (xcr mm v (xct mm τ5 v) 0)] A s.heap s H locs := Eq.mp (congrArg (fun z9 => xM D (TY q) [w6 q ad τ0 τ1 τ2 τ3 τ4 z9] A s.heap s H locs) e8) hM
    refine x_loop (ι := Nat) (fun t => [(0, .ref (ad 0)), (1, .int (nI n)), (2, .int (nI mm)), (3, .int (nI v)), (4, .int (nI (t + 1)))]) (fun t => [w6 q ad τ0 τ1 τ2 τ3 τ4 (xcr mm v (xct mm τ5 v) t)]) (fun t => t ≤ mm) (fun t => mm - t) 0 (by omega) hM (lv_sub hl [1, 2, 3, 4, 0] rfl) ?_
    intro t hI10 ih9 H locs hM ls hl
    have hM : xM D (TY q) [w6 q ad τ0 τ1 τ2 τ3 τ4 (xcr mm v (xct mm τ5 v) t)] A s.heap s H locs := hM
    have hl : lv_has ls 6 [(0, .ref (ad 0)), (1, .int (nI n)), (2, .int (nI mm)), (3, .int (nI v)), (4, .int (nI (t + 1)))] := hl
    have hI10 : t ≤ mm := hI10
    try dsimp only
    refine lv_iload hx hb dX6_peasToWin_10 (lv_at hl 4 rfl) ?_
    refine lv_iload_n hx hb dX6_peasToWin_12 rfl (lv_at hl 2 rfl) ?_
    refine x_icmp_gt (x := t + 1) (y := mm) (tgt := 69) hx hb (by omega) (by omega) dX6_peasToWin_13 (by decide) (fun c11 => ?_) (fun c11 => ?_)
    · refine lv_iinc (v := nI (v + 1)) (lv' := [(3, .int (nI (v + 1))), (0, .ref (ad 0)), (1, .int (nI n)), (2, .int (nI mm)), (4, .int (nI (t + 1)))]) hx hb dX6_peasToWin_69 hl (k := 3) rfl (x_inc _ 1) (by decide) rfl (fun ls hl => ?_)
      refine lv_goto (tgt := 2) hx hb dX6_peasToWin_72 (by decide) ?_
      have e12 : (((xcr mm v (xct mm τ5 v) t)) : Nat → Int32) = ((xct mm τ5 (v + 1))) := by (rw [show t = mm by omega]; rfl)
      have hM : xM D (TY q) [w6 q ad τ0 τ1 τ2 τ3 τ4 (xct mm τ5 (v + 1))] A s.heap s H locs := Eq.mp (congrArg (fun z9 => xM D (TY q) [w6 q ad τ0 τ1 τ2 τ3 τ4 z9] A s.heap s H locs) e12) hM
      have hl : lv_has ls 6 [(0, .ref (ad 0)), (1, .int (nI n)), (2, .int (nI mm)), (3, .int (nI (v + 1)))] := lv_sub hl [1, 2, 3, 0] rfl
      exact ih3 (v + 1) (show n - (v + 1) < n - v from by omega) (show (v + 1) ≤ n from by omega) _ _ hM _ hl
    · refine lv_iload_n hx hb dX6_peasToWin_16 rfl (lv_at hl 3 rfl) ?_
      refine lv_bipush (v := nI 10) hx hb dX6_peasToWin_17 (by decide) ?_
      refine x_imul (x := v) (y := 10) hx hb dX6_peasToWin_19 ?_
      refine lv_iload hx hb dX6_peasToWin_20 (lv_at hl 4 rfl) ?_
      refine x_iadd (x := v * 10) (y := t + 1) hx hb dX6_peasToWin_22 ?_
      refine lv_istore (lv' := [(5, .int (nI (v * 10 + (t + 1)))), (0, .ref (ad 0)), (1, .int (nI n)), (2, .int (nI mm)), (3, .int (nI v)), (4, .int (nI (t + 1)))]) hx hb dX6_peasToWin_23 hl (by decide) rfl (fun ls hl => ?_)
      refine lv_iload hx hb dX6_peasToWin_25 (lv_at hl 0 rfl) ?_
      refine x_if_lt (x := v * 10 + (t + 1)) (tgt := 63) hx hb (by omega) dX6_peasToWin_27 (by decide) ?_
      refine lv_iload hx hb dX6_peasToWin_30 (lv_at hl 0 rfl) ?_
      refine lv_aload_n hx hb dX6_peasToWin_32 rfl (lv_at hl 1 rfl) ?_
      refine x_get hx hb hts iwX6_peasToWin_X6 hown hM 0 0 rfl rfl rfl 5 (by decide) (hts _ lkX6_peasToWin_18) (fun _ h => h) rfl dX6_peasToWin_33 ?_
      refine x_alen hx hb hM 0 3 0 rfl rfl rfl dX6_peasToWin_36 ?_
      refine x_icmp_ge (x := v * 10 + (t + 1)) (y := 1000) (tgt := 63) hx hb (by omega) (by omega) dX6_peasToWin_37 (by decide) (fun c13 => ?_) (fun c13 => ?_)
      · refine lv_iinc (v := nI (t + 1 + 1)) (lv' := [(4, .int (nI (t + 1 + 1))), (5, .int (nI (v * 10 + (t + 1)))), (0, .ref (ad 0)), (1, .int (nI n)), (2, .int (nI mm)), (3, .int (nI v))]) hx hb dX6_peasToWin_63 hl (k := 5) rfl (x_inc _ 1) (by decide) rfl (fun ls hl => ?_)
        refine lv_goto (tgt := 10) hx hb dX6_peasToWin_66 (by decide) ?_
        have e14 : (((xcr mm v (xct mm τ5 v) t)) : Nat → Int32) = ((xcr mm v (xct mm τ5 v) (t + 1))) := by (first | (rw [← zb_t (P := 0 < xwe (xcr mm v (xct mm τ5 v) t) v (t + 1) mm) (by omega)]; rfl) | (rw [← zb_f (P := 0 < xwe (xcr mm v (xct mm τ5 v) t) v (t + 1) mm) (by omega)]; rfl))
        have hM : xM D (TY q) [w6 q ad τ0 τ1 τ2 τ3 τ4 (xcr mm v (xct mm τ5 v) (t + 1))] A s.heap s H locs := Eq.mp (congrArg (fun z9 => xM D (TY q) [w6 q ad τ0 τ1 τ2 τ3 τ4 z9] A s.heap s H locs) e14) hM
        have hl : lv_has ls 6 [(0, .ref (ad 0)), (1, .int (nI n)), (2, .int (nI mm)), (3, .int (nI v)), (4, .int (nI (t + 1 + 1)))] := lv_sub hl [2, 3, 4, 5, 0] rfl
        exact ih9 (t + 1) (show mm - (t + 1) < mm - t from by omega) (show (t + 1) ≤ mm from by omega) _ _ hM _ hl
      · refine lv_aload_n hx hb dX6_peasToWin_40 rfl (lv_at hl 1 rfl) ?_
        refine x_get hx hb hts iwX6_peasToWin_X6 hown hM 0 0 rfl rfl rfl 5 (by decide) (hts _ lkX6_peasToWin_18) (fun _ h => h) rfl dX6_peasToWin_41 ?_
        refine lv_iload hx hb dX6_peasToWin_44 (lv_at hl 0 rfl) ?_
        refine lv_aload_n hx hb dX6_peasToWin_46 rfl (lv_at hl 1 rfl) ?_
        refine lv_iload_n hx hb dX6_peasToWin_47 rfl (lv_at hl 4 rfl) ?_
        refine lv_iload hx hb dX6_peasToWin_48 (lv_at hl 5 rfl) ?_
        refine lv_iload_n hx hb dX6_peasToWin_50 rfl (lv_at hl 3 rfl) ?_
        refine x_calli (bc := [w6 q ad τ0 τ1 τ2 τ3 τ4 (xcr mm v (xct mm τ5 v) t)]) (br := []) hM [0] [] rfl rfl rfl (by decide) (x_runV (As := [.int (nI v), .int (nI (t + 1)), .int (nI mm)]) (rest := [.int (nI (v * 10 + (t + 1))), .ref (ad 6)]) hfix (c_X6_winningMeal l D q ad τ0 τ1 τ2 τ3 τ4 (xcr mm v (xct mm τ5 v) t) v (t + 1) mm (by omega) (by omega) (by omega)) (cwV 3 hts gX6_peasToWin_X6_winningMeal rfl rfl rfl (by decide +kernel) ⟨Nat.le_of_ble_eq_true rfl, Nat.le_of_ble_eq_true rfl⟩) hM [0] rfl rfl 0 0 rfl rfl rfl rfl rfl hl.1 rfl (Nat.le_of_ble_eq_true rfl) dX6_peasToWin_51 ⟨Nat.le_of_ble_eq_true rfl, Nat.le_of_ble_eq_true rfl⟩) (fun r u H locs hq hM => ?_)
        subst hq
        have hM : xM D (TY q) [w6 q ad τ0 τ1 τ2 τ3 τ4 (xcr mm v (xct mm τ5 v) t)] A s.heap s H locs := hM
        have hwl := xwe_le (xcr mm v (xct mm τ5 v) t) v (t + 1) mm
        refine x_if_le (x := xwe (xcr mm v (xct mm τ5 v) t) v (t + 1) mm) (tgt := 61) hx hb (by omega) dX6_peasToWin_54 (by decide) (fun c15 => ?_) (fun c15 => ?_)
        · refine lv_iconst (v := nI 0) hx hb dX6_peasToWin_61 (by decide) ?_
          refine x_zast hx hb hM 0 3 2 (f := (xcr mm v (xct mm τ5 v) t)) rfl rfl rfl (t := v * 10 + (t + 1)) (x := nI 0) (by omega) (by decide) (by decide) [w6 q ad τ0 τ1 τ2 τ3 τ4 (upd (xcr mm v (xct mm τ5 v) t) (v * 10 + (t + 1)) (nI 0))] rfl dX6_peasToWin_62 (fun H locs hM => ?_)
          refine lv_iinc (v := nI (t + 1 + 1)) (lv' := [(4, .int (nI (t + 1 + 1))), (5, .int (nI (v * 10 + (t + 1)))), (0, .ref (ad 0)), (1, .int (nI n)), (2, .int (nI mm)), (3, .int (nI v))]) hx hb dX6_peasToWin_63 hl (k := 5) rfl (x_inc _ 1) (by decide) rfl (fun ls hl => ?_)
          refine lv_goto (tgt := 10) hx hb dX6_peasToWin_66 (by decide) ?_
          have e16 : ((upd (xcr mm v (xct mm τ5 v) t) (v * 10 + (t + 1)) (nI 0)) : Nat → Int32) = ((xcr mm v (xct mm τ5 v) (t + 1))) := by (first | (rw [← zb_t (P := 0 < xwe (xcr mm v (xct mm τ5 v) t) v (t + 1) mm) (by omega)]; rfl) | (rw [← zb_f (P := 0 < xwe (xcr mm v (xct mm τ5 v) t) v (t + 1) mm) (by omega)]; rfl))
          have hM : xM D (TY q) [w6 q ad τ0 τ1 τ2 τ3 τ4 (xcr mm v (xct mm τ5 v) (t + 1))] A s.heap s H locs := Eq.mp (congrArg (fun z9 => xM D (TY q) [w6 q ad τ0 τ1 τ2 τ3 τ4 z9] A s.heap s H locs) e16) hM
          have hl : lv_has ls 6 [(0, .ref (ad 0)), (1, .int (nI n)), (2, .int (nI mm)), (3, .int (nI v)), (4, .int (nI (t + 1 + 1)))] := lv_sub hl [2, 3, 4, 5, 0] rfl
          exact ih9 (t + 1) (show mm - (t + 1) < mm - t from by omega) (show (t + 1) ≤ mm from by omega) _ _ hM _ hl
        · refine lv_iconst (v := nI 1) hx hb dX6_peasToWin_57 (by decide) ?_
          refine lv_goto (tgt := 62) hx hb dX6_peasToWin_58 (by decide) ?_
          refine x_zast hx hb hM 0 3 2 (f := (xcr mm v (xct mm τ5 v) t)) rfl rfl rfl (t := v * 10 + (t + 1)) (x := nI 1) (by omega) (by decide) (by decide) [w6 q ad τ0 τ1 τ2 τ3 τ4 (upd (xcr mm v (xct mm τ5 v) t) (v * 10 + (t + 1)) (nI 1))] rfl dX6_peasToWin_62 (fun H locs hM => ?_)
          refine lv_iinc (v := nI (t + 1 + 1)) (lv' := [(4, .int (nI (t + 1 + 1))), (5, .int (nI (v * 10 + (t + 1)))), (0, .ref (ad 0)), (1, .int (nI n)), (2, .int (nI mm)), (3, .int (nI v))]) hx hb dX6_peasToWin_63 hl (k := 5) rfl (x_inc _ 1) (by decide) rfl (fun ls hl => ?_)
          refine lv_goto (tgt := 10) hx hb dX6_peasToWin_66 (by decide) ?_
          have e17 : ((upd (xcr mm v (xct mm τ5 v) t) (v * 10 + (t + 1)) (nI 1)) : Nat → Int32) = ((xcr mm v (xct mm τ5 v) (t + 1))) := by (first | (rw [← zb_t (P := 0 < xwe (xcr mm v (xct mm τ5 v) t) v (t + 1) mm) (by omega)]; rfl) | (rw [← zb_f (P := 0 < xwe (xcr mm v (xct mm τ5 v) t) v (t + 1) mm) (by omega)]; rfl))
          have hM : xM D (TY q) [w6 q ad τ0 τ1 τ2 τ3 τ4 (xcr mm v (xct mm τ5 v) (t + 1))] A s.heap s H locs := Eq.mp (congrArg (fun z9 => xM D (TY q) [w6 q ad τ0 τ1 τ2 τ3 τ4 z9] A s.heap s H locs) e17) hM
          have hl : lv_has ls 6 [(0, .ref (ad 0)), (1, .int (nI n)), (2, .int (nI mm)), (3, .int (nI v)), (4, .int (nI (t + 1 + 1)))] := lv_sub hl [2, 3, 4, 5, 0] rfl
          exact ih9 (t + 1) (show mm - (t + 1) < mm - t from by omega) (show (t + 1) ≤ mm from by omega) _ _ hM _ hl
