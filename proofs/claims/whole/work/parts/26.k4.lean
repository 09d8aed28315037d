set_option maxRecDepth 20000 in
theorem ggX3_firstOf_X5_at : GoodIn wsX3_firstOf wsX5_at := goodIn_r _ [5] (by decide +kernel) (by decide +kernel)
set_option maxRecDepth 20000 in
theorem gX3_firstOf_X5_at : GoodIn wsX3_firstOf (va_wsS RX3 49 yX5_at wsX5_at) := goodIn_app (goodIn_of _ (by decide +kernel)) ggX3_firstOf_X5_at
theorem dX3_firstOf_0 : decode cX3_firstOf 0 = .ok (.aload_n 0, 1) := by decide +kernel
theorem dX3_firstOf_1 : decode cX3_firstOf 1 = .ok (.getfield 9, 3) := by decide +kernel
theorem dX3_firstOf_4 : decode cX3_firstOf 4 = .ok (.iload_n 1, 1) := by decide +kernel
theorem dX3_firstOf_5 : decode cX3_firstOf 5 = .ok (.invokestatic 49, 3) := by decide +kernel
theorem dX3_firstOf_8 : decode cX3_firstOf 8 = .ok (.ireturn, 1) := by decide +kernel
theorem lkX3_firstOf_9 : Cond.fieldLink RX3 9 "LeftAtFive$Meals" "begin" "[I" ∈ wsX3_firstOf := by decide +kernel
theorem iwX3_firstOf_X3 : ∀ w ∈ wsX30, w ∈ wsX3_firstOf := by decide +kernel
set_option maxHeartbeats 2000000 in
set_option maxRecDepth 100000 in
theorem c_X3_firstOf (l : Launch) (D : va_G) (q : Nat → ClassId) (md : Nat → Nat) (μ0 : Nat → Int32) (μ1 : Nat → Int32) (μ2 : Int32) (t : Nat) (ht0 : t < 62) : xC l yX3_firstOf wsX3_firstOf ({ frames := 1, cells := 0, slots := 0, locals := 21 }) D (TY q) [w3 q md μ0 μ1 μ2] [.ref (md 0), .int (nI t)] (xQi D (TY q) (fun (r : Int32) (_ : Unit) => r = μ0 t) (fun _ => [w3 q md μ0 μ1 μ2])) 0 0 := by
  refine x_enter (cc := cX3_firstOf) (maxL := 2) (ret := (some .int)) (by decide) rfl (Nat.le_of_ble_eq_true rfl) ?_
  intro p e s m below meth c A ls H locs hfix hr hlocks hinit hM hl
  obtain ⟨hx, hb, hml, hown, hts⟩ := id hfix
  have hl : lv_has ls 2 [(0, .ref (md 0)), (1, .int (nI t))] := hl
  refine lv_aload_n hx hb dX3_firstOf_0 rfl (lv_at hl 0 rfl) ?_
  refine x_get hx hb hts iwX3_firstOf_X3 hown hM 0 0 rfl rfl rfl 0 (by decide) (hts _ lkX3_firstOf_9) (fun _ h => h) rfl dX3_firstOf_1 ?_
  refine lv_iload_n hx hb dX3_firstOf_4 rfl (lv_at hl 1 rfl) ?_
  refine x_calli (bc := [w3 q md μ0 μ1 μ2]) (br := []) hM [0] [] rfl rfl rfl (by decide) (x_runS (As := [.ref (md 1), .int (nI t)]) (rest := []) hfix (c_X5_at l D q (w3 q md μ0 μ1 μ2) 1 (md 1) 62 μ0 t rfl (by decide) (by omega)) (va_cwS 2 hts gX3_firstOf_X5_at rfl rfl rfl (by decide +kernel) ⟨Nat.le_of_ble_eq_true rfl, Nat.le_of_ble_eq_true rfl⟩) hM [0] rfl rfl rfl hl.1 rfl (Nat.le_of_ble_eq_true rfl) dX3_firstOf_5 ⟨Nat.le_of_ble_eq_true rfl, Nat.le_of_ble_eq_true rfl⟩) (fun r u H locs hq hM => ?_)
  subst hq
  have hM : xM D (TY q) [w3 q md μ0 μ1 μ2] A s.heap s H locs := hM
  exact x_iret hx hb hr hlocks () hM (show μ0 t = μ0 t from rfl) dX3_firstOf_8

set_option maxRecDepth 20000 in
theorem ggX3_eaterAt_X5_at : GoodIn wsX3_eaterAt wsX5_at := goodIn_r _ [5] (by decide +kernel) (by decide +kernel)
set_option maxRecDepth 20000 in
theorem gX3_eaterAt_X5_at : GoodIn wsX3_eaterAt (va_wsS RX3 49 yX5_at wsX5_at) := goodIn_app (goodIn_of _ (by decide +kernel)) ggX3_eaterAt_X5_at
theorem dX3_eaterAt_0 : decode cX3_eaterAt 0 = .ok (.aload_n 0, 1) := by decide +kernel
theorem dX3_eaterAt_1 : decode cX3_eaterAt 1 = .ok (.getfield 15, 3) := by decide +kernel
theorem dX3_eaterAt_4 : decode cX3_eaterAt 4 = .ok (.iload_n 1, 1) := by decide +kernel
theorem dX3_eaterAt_5 : decode cX3_eaterAt 5 = .ok (.invokestatic 49, 3) := by decide +kernel
theorem dX3_eaterAt_8 : decode cX3_eaterAt 8 = .ok (.ireturn, 1) := by decide +kernel
theorem lkX3_eaterAt_15 : Cond.fieldLink RX3 15 "LeftAtFive$Meals" "who" "[I" ∈ wsX3_eaterAt := by decide +kernel
theorem iwX3_eaterAt_X3 : ∀ w ∈ wsX30, w ∈ wsX3_eaterAt := by decide +kernel
set_option maxHeartbeats 2000000 in
set_option maxRecDepth 100000 in
theorem c_X3_eaterAt (l : Launch) (D : va_G) (q : Nat → ClassId) (md : Nat → Nat) (μ0 : Nat → Int32) (μ1 : Nat → Int32) (μ2 : Int32) (t : Nat) (ht0 : t < 480) : xC l yX3_eaterAt wsX3_eaterAt ({ frames := 1, cells := 0, slots := 0, locals := 21 }) D (TY q) [w3 q md μ0 μ1 μ2] [.ref (md 0), .int (nI t)] (xQi D (TY q) (fun (r : Int32) (_ : Unit) => r = μ1 t) (fun _ => [w3 q md μ0 μ1 μ2])) 0 0 := by
  refine x_enter (cc := cX3_eaterAt) (maxL := 2) (ret := (some .int)) (by decide) rfl (Nat.le_of_ble_eq_true rfl) ?_
  intro p e s m below meth c A ls H locs hfix hr hlocks hinit hM hl
  obtain ⟨hx, hb, hml, hown, hts⟩ := id hfix
  have hl : lv_has ls 2 [(0, .ref (md 0)), (1, .int (nI t))] := hl
  refine lv_aload_n hx hb dX3_eaterAt_0 rfl (lv_at hl 0 rfl) ?_
  refine x_get hx hb hts iwX3_eaterAt_X3 hown hM 0 0 rfl rfl rfl 1 (by decide) (hts _ lkX3_eaterAt_15) (fun _ h => h) rfl dX3_eaterAt_1 ?_
  refine lv_iload_n hx hb dX3_eaterAt_4 rfl (lv_at hl 1 rfl) ?_
  refine x_calli (bc := [w3 q md μ0 μ1 μ2]) (br := []) hM [0] [] rfl rfl rfl (by decide) (x_runS (As := [.ref (md 2), .int (nI t)]) (rest := []) hfix (c_X5_at l D q (w3 q md μ0 μ1 μ2) 2 (md 2) 480 μ1 t rfl (by decide) (by omega)) (va_cwS 2 hts gX3_eaterAt_X5_at rfl rfl rfl (by decide +kernel) ⟨Nat.le_of_ble_eq_true rfl, Nat.le_of_ble_eq_true rfl⟩) hM [0] rfl rfl rfl hl.1 rfl (Nat.le_of_ble_eq_true rfl) dX3_eaterAt_5 ⟨Nat.le_of_ble_eq_true rfl, Nat.le_of_ble_eq_true rfl⟩) (fun r u H locs hq hM => ?_)
  subst hq
  have hM : xM D (TY q) [w3 q md μ0 μ1 μ2] A s.heap s H locs := hM
  exact x_iret hx hb hr hlocks () hM (show μ1 t = μ1 t from rfl) dX3_eaterAt_8

theorem dX3_numberOf_0 : decode cX3_numberOf 0 = .ok (.iload_n 0, 1) := by decide +kernel
theorem dX3_numberOf_1 : decode cX3_numberOf 1 = .ok (.iconst (-1), 1) := by decide +kernel
theorem dX3_numberOf_2 : decode cX3_numberOf 2 = .ok (.if_icmp .ne 6, 3) := by decide +kernel
theorem dX3_numberOf_5 : decode cX3_numberOf 5 = .ok (.iload_n 1, 1) := by decide +kernel
theorem dX3_numberOf_6 : decode cX3_numberOf 6 = .ok (.i2l, 1) := by decide +kernel
theorem dX3_numberOf_7 : decode cX3_numberOf 7 = .ok (.lreturn, 1) := by decide +kernel
theorem dX3_numberOf_8 : decode cX3_numberOf 8 = .ok (.ldc2_w 41, 3) := by decide +kernel
theorem dX3_numberOf_11 : decode cX3_numberOf 11 = .ok (.iload_n 0, 1) := by decide +kernel
theorem dX3_numberOf_12 : decode cX3_numberOf 12 = .ok (.i2l, 1) := by decide +kernel
theorem dX3_numberOf_13 : decode cX3_numberOf 13 = .ok (.lmul, 1) := by decide +kernel
theorem dX3_numberOf_14 : decode cX3_numberOf 14 = .ok (.ldc2_w 43, 3) := by decide +kernel
theorem dX3_numberOf_17 : decode cX3_numberOf 17 = .ok (.iload_n 1, 1) := by decide +kernel
theorem dX3_numberOf_18 : decode cX3_numberOf 18 = .ok (.i2l, 1) := by decide +kernel
theorem dX3_numberOf_19 : decode cX3_numberOf 19 = .ok (.lmul, 1) := by decide +kernel
theorem dX3_numberOf_20 : decode cX3_numberOf 20 = .ok (.ladd, 1) := by decide +kernel
theorem dX3_numberOf_21 : decode cX3_numberOf 21 = .ok (.ldc2_w 45, 3) := by decide +kernel
theorem dX3_numberOf_24 : decode cX3_numberOf 24 = .ok (.iload_n 2, 1) := by decide +kernel
theorem dX3_numberOf_25 : decode cX3_numberOf 25 = .ok (.i2l, 1) := by decide +kernel
theorem dX3_numberOf_26 : decode cX3_numberOf 26 = .ok (.lmul, 1) := by decide +kernel
theorem dX3_numberOf_27 : decode cX3_numberOf 27 = .ok (.ladd, 1) := by decide +kernel
theorem dX3_numberOf_28 : decode cX3_numberOf 28 = .ok (.lconst 1, 1) := by decide +kernel
theorem dX3_numberOf_29 : decode cX3_numberOf 29 = .ok (.ladd, 1) := by decide +kernel
theorem dX3_numberOf_30 : decode cX3_numberOf 30 = .ok (.lstore_n 3, 1) := by decide +kernel
theorem dX3_numberOf_31 : decode cX3_numberOf 31 = .ok (.lload_n 3, 1) := by decide +kernel
theorem dX3_numberOf_32 : decode cX3_numberOf 32 = .ok (.lload_n 3, 1) := by decide +kernel
theorem dX3_numberOf_33 : decode cX3_numberOf 33 = .ok (.lmul, 1) := by decide +kernel
theorem dX3_numberOf_34 : decode cX3_numberOf 34 = .ok (.ldc2_w 47, 3) := by decide +kernel
theorem dX3_numberOf_37 : decode cX3_numberOf 37 = .ok (.lrem, 1) := by decide +kernel
theorem dX3_numberOf_38 : decode cX3_numberOf 38 = .ok (.lreturn, 1) := by decide +kernel
set_option maxHeartbeats 2000000 in
set_option maxRecDepth 100000 in
theorem c_X3_numberOf (l : Launch) (D : va_G) (q : Nat → ClassId) (zc : Int32) (t : Nat) (i : Nat) : xC l yX3_numberOf wsX3_numberOf ({ frames := 0, cells := 0, slots := 0, locals := 0 }) D (TY q) [] [.int zc, .int (nI t), .int (nI i)] (xQl D (TY q) (fun (r : Int64) (_ : Unit) => r = xnb zc t i) (fun _ => [])) 0 0 := by
  refine x_enter (cc := cX3_numberOf) (maxL := 5) (ret := (some .long)) (by decide) rfl (Nat.le_of_ble_eq_true rfl) ?_
  intro p e s m below meth c A ls H locs hfix hr hlocks hinit hM hl
  obtain ⟨hx, hb, hml, hown, hts⟩ := id hfix
  have hl : lv_has ls 5 [(0, .int zc), (1, .int (nI t)), (2, .int (nI i))] := hl
  refine lv_iload_n hx hb dX3_numberOf_0 rfl (lv_at hl 0 rfl) ?_
  refine lv_iconst (v := (-1)) hx hb dX3_numberOf_1 (by decide) ?_
  refine lv_icmp_ne (tgt := 8) hx hb dX3_numberOf_2 (by decide) (fun c1 => ?_) (fun c1 => ?_)
  · refine lv_ldc2 (v := 7919) hx hb hown (hts (.constantLong RX3 41 (7919)) (by decide +kernel)) dX3_numberOf_8 ?_
    refine lv_iload_n hx hb dX3_numberOf_11 rfl (lv_at hl 0 rfl) ?_
    refine x_i2l hx hb dX3_numberOf_12 ?_
    refine lv_lmul hx hb dX3_numberOf_13 ?_
    refine lv_ldc2 (v := 6151) hx hb hown (hts (.constantLong RX3 43 (6151)) (by decide +kernel)) dX3_numberOf_14 ?_
    refine lv_iload_n hx hb dX3_numberOf_17 rfl (lv_at hl 1 rfl) ?_
    refine x_i2l hx hb dX3_numberOf_18 ?_
    refine lv_lmul hx hb dX3_numberOf_19 ?_
    refine lv_ladd hx hb dX3_numberOf_20 ?_
    refine lv_ldc2 (v := 3571) hx hb hown (hts (.constantLong RX3 45 (3571)) (by decide +kernel)) dX3_numberOf_21 ?_
    refine lv_iload_n hx hb dX3_numberOf_24 rfl (lv_at hl 2 rfl) ?_
    refine x_i2l hx hb dX3_numberOf_25 ?_
    refine lv_lmul hx hb dX3_numberOf_26 ?_
    refine lv_ladd hx hb dX3_numberOf_27 ?_
    refine lv_lconst (v := 1) hx hb dX3_numberOf_28 (by decide) ?_
    refine lv_ladd hx hb dX3_numberOf_29 ?_
    refine lv_lstore_n (lv' := [(3, .long (((((7919 : Int64) * zc.toInt64) + ((6151 : Int64) * ((nI t).toInt64))) + ((3571 : Int64) * ((nI i).toInt64))) + (1 : Int64))), (0, .int zc), (1, .int (nI t)), (2, .int (nI i))]) hx hb dX3_numberOf_30 rfl hl (by decide) rfl (fun ls hl => ?_)
    refine lv_lload_n hx hb dX3_numberOf_31 rfl (lv_at hl 0 rfl) ?_
    refine lv_lload_n hx hb dX3_numberOf_32 rfl (lv_at hl 0 rfl) ?_
    refine lv_lmul hx hb dX3_numberOf_33 ?_
    refine lv_ldc2 (v := 65521) hx hb hown (hts (.constantLong RX3 47 (65521)) (by decide +kernel)) dX3_numberOf_34 ?_
    refine lv_lrem hx hb dX3_numberOf_37 (by decide) ?_
    exact x_lret hx hb hr hlocks () hM (show ((((((7919 : Int64) * zc.toInt64) + ((6151 : Int64) * ((nI t).toInt64))) + ((3571 : Int64) * ((nI i).toInt64))) + (1 : Int64)) * (((((7919 : Int64) * zc.toInt64) + ((6151 : Int64) * ((nI t).toInt64))) + ((3571 : Int64) * ((nI i).toInt64))) + (1 : Int64))) - ((((((7919 : Int64) * zc.toInt64) + ((6151 : Int64) * ((nI t).toInt64))) + ((3571 : Int64) * ((nI i).toInt64))) + (1 : Int64)) * (((((7919 : Int64) * zc.toInt64) + ((6151 : Int64) * ((nI t).toInt64))) + ((3571 : Int64) * ((nI i).toInt64))) + (1 : Int64))) / (65521 : Int64) * (65521 : Int64) = xnb zc t i from by (first | exact (if_pos (by assumption)).symm | exact (if_neg (by assumption)).symm)) dX3_numberOf_38
  · refine lv_iload_n hx hb dX3_numberOf_5 rfl (lv_at hl 1 rfl) ?_
    refine x_i2l hx hb dX3_numberOf_6 ?_
    exact x_lret hx hb hr hlocks () hM (show (nI t).toInt64 = xnb zc t i from by (first | exact (if_pos (by assumption)).symm | exact (if_neg (by assumption)).symm)) dX3_numberOf_7

set_option maxRecDepth 20000 in
theorem ggX3_plan_X5_put : GoodIn wsX3_plan wsX5_put := goodIn_r _ [8] (by decide +kernel) (by decide +kernel)
set_option maxRecDepth 20000 in
theorem gX3_plan_X5_put : GoodIn wsX3_plan (va_wsS RX3 22 yX5_put wsX5_put) := goodIn_app (goodIn_of _ (by decide +kernel)) ggX3_plan_X5_put
set_option maxRecDepth 20000 in
theorem ggX3_plan_X7_paceOf : GoodIn wsX3_plan wsX7_paceOf := goodIn_r _ [13, 14, 15, 16, 7, 17, 29, 30, 31, 32, 33, 34, 35, 36, 37, 38, 39, 40, 41, 42, 43, 44] (by decide +kernel) (by decide +kernel)
set_option maxRecDepth 20000 in
theorem gX3_plan_X7_paceOf : GoodIn wsX3_plan (wsV RX3 33 RX7 yX7_paceOf wsX7_paceOf) := goodIn_app (goodIn_of _ (by decide +kernel)) ggX3_plan_X7_paceOf
set_option maxRecDepth 20000 in
theorem ggX3_plan_X3_numberOf : GoodIn wsX3_plan wsX3_numberOf := goodIn_r _ [21, 22, 23, 24, 25] (by decide +kernel) (by decide +kernel)
set_option maxRecDepth 20000 in
theorem gX3_plan_X3_numberOf : GoodIn wsX3_plan (va_wsS RX3 37 yX3_numberOf wsX3_numberOf) := goodIn_app (goodIn_of _ (by decide +kernel)) ggX3_plan_X3_numberOf
theorem dX3_plan_0 : decode cX3_plan 0 = .ok (.aload_n 0, 1) := by decide +kernel
theorem dX3_plan_1 : decode cX3_plan 1 = .ok (.iconst 0, 1) := by decide +kernel
theorem dX3_plan_2 : decode cX3_plan 2 = .ok (.putfield 18, 3) := by decide +kernel
theorem dX3_plan_5 : decode cX3_plan 5 = .ok (.iconst 1, 1) := by decide +kernel
theorem dX3_plan_6 : decode cX3_plan 6 = .ok (.istore_n 3, 1) := by decide +kernel
theorem dX3_plan_7 : decode cX3_plan 7 = .ok (.iload_n 3, 1) := by decide +kernel
theorem dX3_plan_8 : decode cX3_plan 8 = .ok (.bipush 60, 2) := by decide +kernel
theorem dX3_plan_10 : decode cX3_plan 10 = .ok (.if_icmp .gt 91, 3) := by decide +kernel
theorem dX3_plan_13 : decode cX3_plan 13 = .ok (.aload_n 0, 1) := by decide +kernel
theorem dX3_plan_14 : decode cX3_plan 14 = .ok (.getfield 9, 3) := by decide +kernel
theorem dX3_plan_17 : decode cX3_plan 17 = .ok (.iload_n 3, 1) := by decide +kernel
theorem dX3_plan_18 : decode cX3_plan 18 = .ok (.aload_n 0, 1) := by decide +kernel
theorem dX3_plan_19 : decode cX3_plan 19 = .ok (.getfield 18, 3) := by decide +kernel
theorem dX3_plan_22 : decode cX3_plan 22 = .ok (.invokestatic 22, 3) := by decide +kernel
theorem dX3_plan_25 : decode cX3_plan 25 = .ok (.iconst 0, 1) := by decide +kernel
theorem dX3_plan_26 : decode cX3_plan 26 = .ok (.istore 4, 2) := by decide +kernel
theorem dX3_plan_28 : decode cX3_plan 28 = .ok (.iload 4, 2) := by decide +kernel
theorem dX3_plan_30 : decode cX3_plan 30 = .ok (.aload_n 1, 1) := by decide +kernel
theorem dX3_plan_31 : decode cX3_plan 31 = .ok (.getfield 28, 3) := by decide +kernel
theorem dX3_plan_34 : decode cX3_plan 34 = .ok (.if_icmp .ge 61, 3) := by decide +kernel
theorem dX3_plan_37 : decode cX3_plan 37 = .ok (.aload_n 1, 1) := by decide +kernel
theorem dX3_plan_38 : decode cX3_plan 38 = .ok (.iload 4, 2) := by decide +kernel
theorem dX3_plan_40 : decode cX3_plan 40 = .ok (.invokevirtual 33, 3) := by decide +kernel
theorem dX3_plan_43 : decode cX3_plan 43 = .ok (.istore 5, 2) := by decide +kernel
theorem dX3_plan_45 : decode cX3_plan 45 = .ok (.iload 5, 2) := by decide +kernel
theorem dX3_plan_47 : decode cX3_plan 47 = .ok (.ifCond .le 42, 3) := by decide +kernel
theorem dX3_plan_50 : decode cX3_plan 50 = .ok (.iload_n 2, 1) := by decide +kernel
theorem dX3_plan_51 : decode cX3_plan 51 = .ok (.iload_n 3, 1) := by decide +kernel
theorem dX3_plan_52 : decode cX3_plan 52 = .ok (.iload 4, 2) := by decide +kernel
theorem dX3_plan_54 : decode cX3_plan 54 = .ok (.invokestatic 37, 3) := by decide +kernel
theorem dX3_plan_57 : decode cX3_plan 57 = .ok (.iload 5, 2) := by decide +kernel
theorem dX3_plan_59 : decode cX3_plan 59 = .ok (.i2l, 1) := by decide +kernel
theorem dX3_plan_60 : decode cX3_plan 60 = .ok (.lrem, 1) := by decide +kernel
theorem dX3_plan_61 : decode cX3_plan 61 = .ok (.lconst 0, 1) := by decide +kernel
theorem dX3_plan_62 : decode cX3_plan 62 = .ok (.lcmp, 1) := by decide +kernel
theorem dX3_plan_63 : decode cX3_plan 63 = .ok (.ifCond .ne 26, 3) := by decide +kernel
theorem dX3_plan_66 : decode cX3_plan 66 = .ok (.aload_n 0, 1) := by decide +kernel
theorem dX3_plan_67 : decode cX3_plan 67 = .ok (.getfield 15, 3) := by decide +kernel
theorem dX3_plan_70 : decode cX3_plan 70 = .ok (.aload_n 0, 1) := by decide +kernel
theorem dX3_plan_71 : decode cX3_plan 71 = .ok (.getfield 18, 3) := by decide +kernel
theorem dX3_plan_74 : decode cX3_plan 74 = .ok (.iload 4, 2) := by decide +kernel
theorem dX3_plan_76 : decode cX3_plan 76 = .ok (.invokestatic 22, 3) := by decide +kernel
theorem dX3_plan_79 : decode cX3_plan 79 = .ok (.aload_n 0, 1) := by decide +kernel
theorem dX3_plan_80 : decode cX3_plan 80 = .ok (.dup, 1) := by decide +kernel
theorem dX3_plan_81 : decode cX3_plan 81 = .ok (.getfield 18, 3) := by decide +kernel
theorem dX3_plan_84 : decode cX3_plan 84 = .ok (.iconst 1, 1) := by decide +kernel
theorem dX3_plan_85 : decode cX3_plan 85 = .ok (.iadd, 1) := by decide +kernel
theorem dX3_plan_86 : decode cX3_plan 86 = .ok (.putfield 18, 3) := by decide +kernel
theorem dX3_plan_89 : decode cX3_plan 89 = .ok (.iinc 4 1, 3) := by decide +kernel
theorem dX3_plan_92 : decode cX3_plan 92 = .ok (.goto (-64), 3) := by decide +kernel
theorem dX3_plan_95 : decode cX3_plan 95 = .ok (.iinc 3 1, 3) := by decide +kernel
theorem dX3_plan_98 : decode cX3_plan 98 = .ok (.goto (-91), 3) := by decide +kernel
theorem dX3_plan_101 : decode cX3_plan 101 = .ok (.aload_n 0, 1) := by decide +kernel
theorem dX3_plan_102 : decode cX3_plan 102 = .ok (.getfield 9, 3) := by decide +kernel
theorem dX3_plan_105 : decode cX3_plan 105 = .ok (.bipush 61, 2) := by decide +kernel
theorem dX3_plan_107 : decode cX3_plan 107 = .ok (.aload_n 0, 1) := by decide +kernel
theorem dX3_plan_108 : decode cX3_plan 108 = .ok (.getfield 18, 3) := by decide +kernel
theorem dX3_plan_111 : decode cX3_plan 111 = .ok (.invokestatic 22, 3) := by decide +kernel
theorem dX3_plan_114 : decode cX3_plan 114 = .ok (.return_, 1) := by decide +kernel
theorem lkX3_plan_9 : Cond.fieldLink RX3 9 "LeftAtFive$Meals" "begin" "[I" ∈ wsX3_plan := by decide +kernel
theorem lkX3_plan_15 : Cond.fieldLink RX3 15 "LeftAtFive$Meals" "who" "[I" ∈ wsX3_plan := by decide +kernel
theorem lkX3_plan_18 : Cond.fieldLink RX3 18 "LeftAtFive$Meals" "told" "I" ∈ wsX3_plan := by decide +kernel
theorem lkX3_plan_28 : Cond.fieldLink RX3 28 "LeftAtFive$Street" "eaters" "I" ∈ wsX3_plan := by decide +kernel
theorem iwX3_plan_X3 : ∀ w ∈ wsX30, w ∈ wsX3_plan := by decide +kernel
theorem iwX3_plan_X7 : ∀ w ∈ wsX70, w ∈ wsX3_plan := by decide +kernel
set_option maxHeartbeats 2000000 in
set_option maxRecDepth 100000 in
theorem c_X3_plan (l : Launch) (D : va_G) (q : Nat → ClassId) (md : Nat → Nat) (μ0 : Nat → Int32) (μ1 : Nat → Int32) (μ2 : Int32) (sd : Nat → Nat) (X : Nat → Nat → Int32) (S : Nat → Nat → Int32) (zc : Int32) (z : Int32) (hT : okT X S) (hZ : okZ zc z) : xC l yX3_plan wsX3_plan ({ frames := 2, cells := 0, slots := 0, locals := 42 }) D (TY q) [w3 q md μ0 μ1 μ2, wst q sd X] [.ref (md 0), .ref (sd 0), .int zc] (xQv D (TY q) (fun (u : (Nat → Int32) × (Nat → Int32) × Int32) => okM u.1 u.2.1 (S 11) (tn (S 8 0)) z) (fun (u : (Nat → Int32) × (Nat → Int32) × Int32) => [w3 q md u.1 u.2.1 u.2.2, wst q sd X])) 0 0 := by
  refine x_enter (cc := cX3_plan) (maxL := 6) (ret := none) (by decide) rfl (Nat.le_of_ble_eq_true rfl) ?_
  intro p e s m below meth c A ls H locs hfix hr hlocks hinit hM hl
  obtain ⟨hx, hb, hml, hown, hts⟩ := id hfix
  have hl : lv_has ls 6 [(0, .ref (md 0)), (1, .ref (sd 0)), (2, .int zc)] := hl
  have hTb := okT_2b hT
  have hE := okT_E hT
  refine lv_aload_n hx hb dX3_plan_0 rfl (lv_at hl 0 rfl) ?_
  refine lv_iconst (v := nI 0) hx hb dX3_plan_1 (by decide) ?_
  refine x_put hx hb hts iwX3_plan_X3 tyX3 tyX3_ok nmX3 hown hM 0 0 rfl rfl rfl 2 (by decide) (hts _ lkX3_plan_18) (fun _ h => h) rfl (ty := .int) (by decide +kernel) rfl rfl (Nat.le_of_ble_eq_true rfl) [w3 q md μ0 μ1 (nI 0), wst q sd X] rfl dX3_plan_2 (fun H locs hM => ?_)
  refine lv_iconst (v := nI 1) hx hb dX3_plan_5 (by decide) ?_
  refine lv_istore_n (lv' := [(3, .int (nI 1)), (0, .ref (md 0)), (1, .ref (sd 0)), (2, .int zc)]) hx hb dX3_plan_6 rfl hl (by decide) rfl (fun ls hl => ?_)
  have e2 : ((nI 0) : Int32) = (nI (mb (S 11) z (tn (S 8 0)) 1)) := by rfl
  have hM : xM D (TY q) [w3 q md μ0 μ1 (nI (mb (S 11) z (tn (S 8 0)) 1)), wst q sd X] A s.heap s H locs := Eq.mp (congrArg (fun z9 => xM D (TY q) [w3 q md μ0 μ1 z9, wst q sd X] A s.heap s H locs) e2) hM
  refine x_loop (ι := Nat × (Nat → Int32) × (Nat → Int32)) (fun z8 => [(0, .ref (md 0)), (1, .ref (sd 0)), (2, .int zc), (3, .int (nI z8.1))]) (fun z8 => [w3 q md z8.2.1 z8.2.2 (nI (mb (S 11) z (tn (S 8 0)) z8.1)), wst q sd X]) (fun z8 => (1 ≤ z8.1 ∧ z8.1 ≤ 61) ∧ (∀ y, 1 ≤ y → y < z8.1 → z8.2.1 y = nI (mb (S 11) z (tn (S 8 0)) y)) ∧ (∀ y, 1 ≤ y → y < z8.1 → ∀ j, j < (tn (S 8 0)) → xeats (S 11 j) j y z → z8.2.2 (mb (S 11) z (tn (S 8 0)) y + mc (S 11) z y j) = nI j)) (fun z8 => 61 - z8.1) (1, μ0, μ1) (⟨by omega, fun y h1 h2 => absurd h2 (by omega), fun y h1 h2 => absurd h2 (by omega)⟩) hM (lv_sub hl [1, 2, 3, 0] rfl) ?_
  intro ⟨t, b, w⟩ hI4 ih3 H locs hM ls hl
  have hM : xM D (TY q) [w3 q md b w (nI (mb (S 11) z (tn (S 8 0)) t)), wst q sd X] A s.heap s H locs := hM
  have hl : lv_has ls 6 [(0, .ref (md 0)), (1, .ref (sd 0)), (2, .int zc), (3, .int (nI t))] := hl
  have hI4 : (1 ≤ t ∧ t ≤ 61) ∧ (∀ y, 1 ≤ y → y < t → b y = nI (mb (S 11) z (tn (S 8 0)) y)) ∧ (∀ y, 1 ≤ y → y < t → ∀ j, j < (tn (S 8 0)) → xeats (S 11 j) j y z → w (mb (S 11) z (tn (S 8 0)) y + mc (S 11) z y j) = nI j) := hI4
  obtain ⟨hI4_0, hI4_1, hI4_2⟩ := id hI4
  have ht9 := hI4_0
  have hb9 := hI4_1
  have hw9 := hI4_2
  have hml9 : mb (S 11) z (tn (S 8 0)) t + 8 ≤ 8 * t := by have h9 := mb_le (pa := (S 11)) (z := z) hTb (t - 1); rw [show t - 1 + 1 = t by omega] at h9; omega
  try dsimp only
  refine lv_iload_n hx hb dX3_plan_7 rfl (lv_at hl 3 rfl) ?_
  refine lv_bipush (v := nI 60) hx hb dX3_plan_8 (by decide) ?_
  refine x_icmp_gt (x := t) (y := 60) (tgt := 101) hx hb (by omega) (by omega) dX3_plan_10 (by decide) (fun c5 => ?_) (fun c5 => ?_)
  · refine lv_aload_n hx hb dX3_plan_101 rfl (lv_at hl 0 rfl) ?_
    refine x_get hx hb hts iwX3_plan_X3 hown hM 0 0 rfl rfl rfl 0 (by decide) (hts _ lkX3_plan_9) (fun _ h => h) rfl dX3_plan_102 ?_
    refine lv_bipush (v := nI 61) hx hb dX3_plan_105 (by decide) ?_
    refine lv_aload_n hx hb dX3_plan_107 rfl (lv_at hl 0 rfl) ?_
    refine x_get hx hb hts iwX3_plan_X3 hown hM 0 0 rfl rfl rfl 2 (by decide) (hts _ lkX3_plan_18) (fun _ h => h) rfl dX3_plan_108 ?_
    refine x_callv (bc := [w3 q md b w (nI (mb (S 11) z (tn (S 8 0)) t))]) (br := [wst q sd X]) hM [0] [1] rfl rfl rfl (by decide) (x_runS (As := [.ref (md 1), .int (nI 61), .int (nI (mb (S 11) z (tn (S 8 0)) t))]) (rest := []) hfix (c_X5_put l D q (w3 q md b w (nI (mb (S 11) z (tn (S 8 0)) t))) 1 (md 1) 62 b 61 (nI (mb (S 11) z (tn (S 8 0)) t)) rfl (by decide) (by omega)) (va_cwS 3 hts gX3_plan_X5_put rfl rfl rfl (by decide +kernel) ⟨Nat.le_of_ble_eq_true rfl, Nat.le_of_ble_eq_true rfl⟩) hM [0] rfl rfl rfl hl.1 rfl (Nat.le_of_ble_eq_true rfl) dX3_plan_111 ⟨Nat.le_of_ble_eq_true rfl, Nat.le_of_ble_eq_true rfl⟩) (fun u H locs hq hM => ?_)
    have hM : xM D (TY q) [wst q sd X, w3 q md (upd b 61 (nI (mb (S 11) z (tn (S 8 0)) t))) w (nI (mb (S 11) z (tn (S 8 0)) t))] A s.heap s H locs := hM
    have hM : xM D (TY q) [w3 q md (upd b 61 (nI (mb (S 11) z (tn (S 8 0)) t))) w (nI (mb (S 11) z (tn (S 8 0)) t)), wst q sd X] A s.heap s H locs := hM.sel [1, 0] rfl rfl
    have e6 : ((upd b 61 (nI (mb (S 11) z (tn (S 8 0)) t))) : Nat → Int32) = ((upd b 61 (nI (mb (S 11) z (tn (S 8 0)) t)))) := by rfl
    have hM : xM D (TY q) [w3 q md (upd b 61 (nI (mb (S 11) z (tn (S 8 0)) t))) w (nI (mb (S 11) z (tn (S 8 0)) t)), wst q sd X] A s.heap s H locs := Eq.mp (congrArg (fun z9 => xM D (TY q) [w3 q md z9 w (nI (mb (S 11) z (tn (S 8 0)) t)), wst q sd X] A s.heap s H locs) e6) hM
    have e7 : ((nI (mb (S 11) z (tn (S 8 0)) t)) : Int32) = ((nI (mb (S 11) z (tn (S 8 0)) t))) := by rfl
    have hM : xM D (TY q) [w3 q md (upd b 61 (nI (mb (S 11) z (tn (S 8 0)) t))) w (nI (mb (S 11) z (tn (S 8 0)) t)), wst q sd X] A s.heap s H locs := Eq.mp (congrArg (fun z9 => xM D (TY q) [w3 q md (upd b 61 (nI (mb (S 11) z (tn (S 8 0)) t))) w z9, wst q sd X] A s.heap s H locs) e7) hM
    exact x_vret hx hb hr hlocks (upd b 61 (nI (mb (S 11) z (tn (S 8 0)) t)), w, nI (mb (S 11) z (tn (S 8 0)) t)) hM (show okM (upd b 61 (nI (mb (S 11) z (tn (S 8 0)) t))) w (S 11) (tn (S 8 0)) z from by (exact ⟨fun y h1 h2 => (by by_cases hy : y = 61; (subst hy; rw [upd_at, show t = 61 by omega]); exact (upd_ne _ _ hy).trans (hb9 y h1 (by omega))), fun y h1 h2 j hj he => hw9 y h1 (by omega) j hj he⟩)) dX3_plan_114
  · refine lv_aload_n hx hb dX3_plan_13 rfl (lv_at hl 0 rfl) ?_
    refine x_get hx hb hts iwX3_plan_X3 hown hM 0 0 rfl rfl rfl 0 (by decide) (hts _ lkX3_plan_9) (fun _ h => h) rfl dX3_plan_14 ?_
    refine lv_iload_n hx hb dX3_plan_17 rfl (lv_at hl 3 rfl) ?_
    refine lv_aload_n hx hb dX3_plan_18 rfl (lv_at hl 0 rfl) ?_
    refine x_get hx hb hts iwX3_plan_X3 hown hM 0 0 rfl rfl rfl 2 (by decide) (hts _ lkX3_plan_18) (fun _ h => h) rfl dX3_plan_19 ?_
    refine x_callv (bc := [w3 q md b w (nI (mb (S 11) z (tn (S 8 0)) t))]) (br := [wst q sd X]) hM [0] [1] rfl rfl rfl (by decide) (x_runS (As := [.ref (md 1), .int (nI t), .int (nI (mb (S 11) z (tn (S 8 0)) t))]) (rest := []) hfix (c_X5_put l D q (w3 q md b w (nI (mb (S 11) z (tn (S 8 0)) t))) 1 (md 1) 62 b t (nI (mb (S 11) z (tn (S 8 0)) t)) rfl (by decide) (by omega)) (va_cwS 3 hts gX3_plan_X5_put rfl rfl rfl (by decide +kernel) ⟨Nat.le_of_ble_eq_true rfl, Nat.le_of_ble_eq_true rfl⟩) hM [0] rfl rfl rfl hl.1 rfl (Nat.le_of_ble_eq_true rfl) dX3_plan_22 ⟨Nat.le_of_ble_eq_true rfl, Nat.le_of_ble_eq_true rfl⟩) (fun u H locs hq hM => ?_)
    have hM : xM D (TY q) [wst q sd X, w3 q md (upd b t (nI (mb (S 11) z (tn (S 8 0)) t))) w (nI (mb (S 11) z (tn (S 8 0)) t))] A s.heap s H locs := hM
    have hM : xM D (TY q) [w3 q md (upd b t (nI (mb (S 11) z (tn (S 8 0)) t))) w (nI (mb (S 11) z (tn (S 8 0)) t)), wst q sd X] A s.heap s H locs := hM.sel [1, 0] rfl rfl
    refine lv_iconst (v := nI 0) hx hb dX3_plan_25 (by decide) ?_
    refine lv_istore (lv' := [(4, .int (nI 0)), (0, .ref (md 0)), (1, .ref (sd 0)), (2, .int zc), (3, .int (nI t))]) hx hb dX3_plan_26 hl (by decide) rfl (fun ls hl => ?_)
    have e9 : ((nI (mb (S 11) z (tn (S 8 0)) t)) : Int32) = (nI (mb (S 11) z (tn (S 8 0)) t + mc (S 11) z t 0)) := by rfl
    have hM : xM D (TY q) [w3 q md (upd b t (nI (mb (S 11) z (tn (S 8 0)) t))) w (nI (mb (S 11) z (tn (S 8 0)) t + mc (S 11) z t 0)), wst q sd X] A s.heap s H locs := Eq.mp (congrArg (fun z9 => xM D (TY q) [w3 q md (upd b t (nI (mb (S 11) z (tn (S 8 0)) t))) w z9, wst q sd X] A s.heap s H locs) e9) hM
    refine x_loop (ι := Nat × (Nat → Int32)) (fun z8 => [(0, .ref (md 0)), (1, .ref (sd 0)), (2, .int zc), (3, .int (nI t)), (4, .int (nI z8.1))]) (fun z8 => [w3 q md (upd b t (nI (mb (S 11) z (tn (S 8 0)) t))) z8.2 (nI (mb (S 11) z (tn (S 8 0)) t + mc (S 11) z t z8.1)), wst q sd X]) (fun z8 => z8.1 ≤ (tn (S 8 0)) ∧ (∀ y, 1 ≤ y → y < t → ∀ j, j < (tn (S 8 0)) → xeats (S 11 j) j y z → z8.2 (mb (S 11) z (tn (S 8 0)) y + mc (S 11) z y j) = nI j) ∧ (∀ j, j < z8.1 → xeats (S 11 j) j t z → z8.2 (mb (S 11) z (tn (S 8 0)) t + mc (S 11) z t j) = nI j)) (fun z8 => (tn (S 8 0)) - z8.1) (0, w) (⟨Nat.zero_le _, hw9, fun j h1 => absurd h1 (Nat.not_lt_zero j)⟩) hM (lv_sub hl [1, 2, 3, 4, 0] rfl) ?_
    intro ⟨i, v⟩ hI11 ih10 H locs hM ls hl
    have hM : xM D (TY q) [w3 q md (upd b t (nI (mb (S 11) z (tn (S 8 0)) t))) v (nI (mb (S 11) z (tn (S 8 0)) t + mc (S 11) z t i)), wst q sd X] A s.heap s H locs := hM
    have hl : lv_has ls 6 [(0, .ref (md 0)), (1, .ref (sd 0)), (2, .int zc), (3, .int (nI t)), (4, .int (nI i))] := hl
    have hI11 : i ≤ (tn (S 8 0)) ∧ (∀ y, 1 ≤ y → y < t → ∀ j, j < (tn (S 8 0)) → xeats (S 11 j) j y z → v (mb (S 11) z (tn (S 8 0)) y + mc (S 11) z y j) = nI j) ∧ (∀ j, j < i → xeats (S 11 j) j t z → v (mb (S 11) z (tn (S 8 0)) t + mc (S 11) z t j) = nI j) := hI11
    obtain ⟨hI11_0, hI11_1, hI11_2⟩ := id hI11
    have hi9 := hI11_0
    have hv9 := hI11_1
    have hu9 := hI11_2
    have hcl9 := mc_le (pa := (S 11)) (z := z) t i
    try dsimp only
    refine lv_iload hx hb dX3_plan_28 (lv_at hl 4 rfl) ?_
    refine lv_aload_n hx hb dX3_plan_30 rfl (lv_at hl 1 rfl) ?_
    refine x_get hx hb hts iwX3_plan_X7 hown hM 1 0 rfl rfl rfl 2 (by decide) (hts _ lkX3_plan_28) (fun _ h => h) rfl dX3_plan_31 ?_
    refine x_cast (y := nI (tn (S 8 0))) (okT_2 hT) ?_
    refine x_icmp_ge (x := i) (y := tn (S 8 0)) (tgt := 95) hx hb (by omega) (by omega) dX3_plan_34 (by decide) (fun c12 => ?_) (fun c12 => ?_)
    · refine lv_iinc (v := nI (t + 1)) (lv' := [(3, .int (nI (t + 1))), (0, .ref (md 0)), (1, .ref (sd 0)), (2, .int zc), (4, .int (nI i))]) hx hb dX3_plan_95 hl (k := 3) rfl (x_inc _ 1) (by decide) rfl (fun ls hl => ?_)
      refine lv_goto (tgt := 7) hx hb dX3_plan_98 (by decide) ?_
      have e13 : ((upd b t (nI (mb (S 11) z (tn (S 8 0)) t))) : Nat → Int32) = ((upd b t (nI (mb (S 11) z (tn (S 8 0)) t)))) := by rfl
      have hM : xM D (TY q) [w3 q md (upd b t (nI (mb (S 11) z (tn (S 8 0)) t))) v (nI (mb (S 11) z (tn (S 8 0)) t + mc (S 11) z t i)), wst q sd X] A s.heap s H locs := Eq.mp (congrArg (fun z9 => xM D (TY q) [w3 q md z9 v (nI (mb (S 11) z (tn (S 8 0)) t + mc (S 11) z t i)), wst q sd X] A s.heap s H locs) e13) hM
      have e14 : ((nI (mb (S 11) z (tn (S 8 0)) t + mc (S 11) z t i)) : Int32) = (nI (mb (S 11) z (tn (S 8 0)) (t + 1))) := by (rw [show i = (tn (S 8 0)) by omega, ← mb_s (by omega)])
      have hM : xM D (TY q) [w3 q md (upd b t (nI (mb (S 11) z (tn (S 8 0)) t))) v (nI (mb (S 11) z (tn (S 8 0)) (t + 1))), wst q sd X] A s.heap s H locs := Eq.mp (congrArg (fun z9 => xM D (TY q) [w3 q md (upd b t (nI (mb (S 11) z (tn (S 8 0)) t))) v z9, wst q sd X] A s.heap s H locs) e14) hM
      have hl : lv_has ls 6 [(0, .ref (md 0)), (1, .ref (sd 0)), (2, .int zc), (3, .int (nI (t + 1)))] := lv_sub hl [1, 2, 3, 0] rfl
      exact ih3 (t + 1, upd b t (nI (mb (S 11) z (tn (S 8 0)) t)), v) (show 61 - (t + 1) < 61 - t from by omega) (show (1 ≤ (t + 1) ∧ (t + 1) ≤ 61) ∧ (∀ y, 1 ≤ y → y < (t + 1) → (upd b t (nI (mb (S 11) z (tn (S 8 0)) t))) y = nI (mb (S 11) z (tn (S 8 0)) y)) ∧ (∀ y, 1 ≤ y → y < (t + 1) → ∀ j, j < (tn (S 8 0)) → xeats (S 11 j) j y z → v (mb (S 11) z (tn (S 8 0)) y + mc (S 11) z y j) = nI j) from (by exact ⟨by omega, fun y h1 h2 => (by by_cases hy : y = t; (subst hy; exact upd_at _ _ _); exact (upd_ne _ _ hy).trans (hb9 y h1 (by omega))), fun y h1 h2 j hj he => (by by_cases hy : y = t; (subst hy; exact hu9 j (by omega) he); exact hv9 y h1 (by omega) j hj he)⟩)) _ _ hM _ hl
    · refine lv_aload_n hx hb dX3_plan_37 rfl (lv_at hl 1 rfl) ?_
      refine lv_iload hx hb dX3_plan_38 (lv_at hl 4 rfl) ?_
      refine x_calli (bc := [wst q sd X]) (br := [w3 q md (upd b t (nI (mb (S 11) z (tn (S 8 0)) t))) v (nI (mb (S 11) z (tn (S 8 0)) t + mc (S 11) z t i))]) hM [1] [0] rfl rfl rfl (by decide) (x_runV (As := [.int (nI i)]) (rest := []) hfix (c_X7_paceOf l D q sd X S i hT (by omega)) (cwV 1 hts gX3_plan_X7_paceOf rfl rfl rfl (by decide +kernel) ⟨Nat.le_of_ble_eq_true rfl, Nat.le_of_ble_eq_true rfl⟩) hM [1] rfl rfl 1 0 rfl rfl rfl rfl rfl hl.1 rfl (Nat.le_of_ble_eq_true rfl) dX3_plan_40 ⟨Nat.le_of_ble_eq_true rfl, Nat.le_of_ble_eq_true rfl⟩) (fun r u H locs hq hM => ?_)
      subst hq
      have hM : xM D (TY q) [w3 q md (upd b t (nI (mb (S 11) z (tn (S 8 0)) t))) v (nI (mb (S 11) z (tn (S 8 0)) t + mc (S 11) z t i)), wst q sd X] A s.heap s H locs := hM
      have hpa := (hE i (by omega)).2.2
      refine lv_istore (lv' := [(5, .int (S 11 i)), (0, .ref (md 0)), (1, .ref (sd 0)), (2, .int zc), (3, .int (nI t)), (4, .int (nI i))]) hx hb dX3_plan_43 hl (by decide) rfl (fun ls hl => ?_)
      refine lv_iload hx hb dX3_plan_45 (lv_at hl 0 rfl) ?_
      refine lv_if_le (tgt := 89) hx hb dX3_plan_47 (by decide) (fun c15 => ?_) (fun c15 => ?_)
      · exfalso; exact absurd (by assumption : S 11 i ≤ 0) (xpos hpa.1 hpa.2.1 hpa.2.2)
      · refine lv_iload_n hx hb dX3_plan_50 rfl (lv_at hl 3 rfl) ?_
        refine lv_iload_n hx hb dX3_plan_51 rfl (lv_at hl 4 rfl) ?_
        refine lv_iload hx hb dX3_plan_52 (lv_at hl 5 rfl) ?_
        refine x_calll (bc := []) (br := [w3 q md (upd b t (nI (mb (S 11) z (tn (S 8 0)) t))) v (nI (mb (S 11) z (tn (S 8 0)) t + mc (S 11) z t i)), wst q sd X]) hM [] [0, 1] rfl rfl rfl (by decide) (x_runS (As := [.int zc, .int (nI t), .int (nI i)]) (rest := []) hfix (c_X3_numberOf l D q zc t i) (va_cwS 3 hts gX3_plan_X3_numberOf rfl rfl rfl (by decide +kernel) ⟨Nat.le_of_ble_eq_true rfl, Nat.le_of_ble_eq_true rfl⟩) hM [] rfl rfl rfl hl.1 rfl (Nat.le_of_ble_eq_true rfl) dX3_plan_54 ⟨Nat.le_of_ble_eq_true rfl, Nat.le_of_ble_eq_true rfl⟩) (fun r u H locs hq hM => ?_)
        subst hq
        have hM : xM D (TY q) [w3 q md (upd b t (nI (mb (S 11) z (tn (S 8 0)) t))) v (nI (mb (S 11) z (tn (S 8 0)) t + mc (S 11) z t i)), wst q sd X] A s.heap s H locs := hM
        refine lv_iload hx hb dX3_plan_57 (lv_at hl 0 rfl) ?_
        refine x_i2l hx hb dX3_plan_59 ?_
        refine lv_lrem hx hb dX3_plan_60 (x_ne64 hpa.1 hpa.2.1 hpa.2.2) ?_
        refine lv_lconst (v := 0) hx hb dX3_plan_61 (by decide) ?_
        refine x_lcmp_ne (tgt := 89) hx hb dX3_plan_62 dX3_plan_63 (by decide) (fun c16 => ?_) (fun c16 => ?_)
        · have he9 : ¬ xeats (S 11 i) i t z := fun z9 => absurd (Eq.mpr (xeats_c hZ (by omega) hpa.1 hpa.2.1 hpa.2.2) z9) (by assumption)
          refine lv_iinc (v := nI (i + 1)) (lv' := [(4, .int (nI (i + 1))), (5, .int (S 11 i)), (0, .ref (md 0)), (1, .ref (sd 0)), (2, .int zc), (3, .int (nI t))]) hx hb dX3_plan_89 hl (k := 5) rfl (x_inc _ 1) (by decide) rfl (fun ls hl => ?_)
          refine lv_goto (tgt := 28) hx hb dX3_plan_92 (by decide) ?_
          have e17 : ((nI (mb (S 11) z (tn (S 8 0)) t + mc (S 11) z t i)) : Int32) = (nI (mb (S 11) z (tn (S 8 0)) t + mc (S 11) z t (i + 1))) := by (first | (rw [mc, if_pos he9, Nat.add_assoc]) | (rw [mc, if_neg he9, Nat.add_zero] ; done) | (rw [mc, if_neg he9]))
          have hM : xM D (TY q) [w3 q md (upd b t (nI (mb (S 11) z (tn (S 8 0)) t))) v (nI (mb (S 11) z (tn (S 8 0)) t + mc (S 11) z t (i + 1))), wst q sd X] A s.heap s H locs := Eq.mp (congrArg (fun z9 => xM D (TY q) [w3 q md (upd b t (nI (mb (S 11) z (tn (S 8 0)) t))) v z9, wst q sd X] A s.heap s H locs) e17) hM
          have hl : lv_has ls 6 [(0, .ref (md 0)), (1, .ref (sd 0)), (2, .int zc), (3, .int (nI t)), (4, .int (nI (i + 1)))] := lv_sub hl [2, 3, 4, 5, 0] rfl
          exact ih10 (i + 1, v) (show (tn (S 8 0)) - (i + 1) < (tn (S 8 0)) - i from by omega) (show (i + 1) ≤ (tn (S 8 0)) ∧ (∀ y, 1 ≤ y → y < t → ∀ j, j < (tn (S 8 0)) → xeats (S 11 j) j y z → v (mb (S 11) z (tn (S 8 0)) y + mc (S 11) z y j) = nI j) ∧ (∀ j, j < (i + 1) → xeats (S 11 j) j t z → v (mb (S 11) z (tn (S 8 0)) t + mc (S 11) z t j) = nI j) from (by first | exact ⟨by omega, fun y h1 h2 j hj he => (upd_ne _ _ (Nat.ne_of_lt (Nat.lt_of_lt_of_le (okM_lt h1 h2 hj he) (Nat.le_add_right _ _)))).trans (hv9 y h1 h2 j hj he), fun j hj he => (by by_cases hji : j = i; (subst hji; exact upd_at _ _ _); exact (upd_ne _ _ (Nat.ne_of_lt (Nat.add_lt_add_left (mc_lt he (by omega)) _))).trans (hu9 j (by omega) he))⟩ | exact ⟨by omega, hv9, fun j hj he => (by by_cases hji : j = i; (subst hji; exact absurd he he9); exact hu9 j (by omega) he)⟩)) _ _ hM _ hl
        · have he9 : xeats (S 11 i) i t z := Eq.mp (xeats_c hZ (by omega) hpa.1 hpa.2.1 hpa.2.2) (by assumption)
          refine lv_aload_n hx hb dX3_plan_66 rfl (lv_at hl 1 rfl) ?_
          refine x_get hx hb hts iwX3_plan_X3 hown hM 0 0 rfl rfl rfl 1 (by decide) (hts _ lkX3_plan_15) (fun _ h => h) rfl dX3_plan_67 ?_
          refine lv_aload_n hx hb dX3_plan_70 rfl (lv_at hl 1 rfl) ?_
          refine x_get hx hb hts iwX3_plan_X3 hown hM 0 0 rfl rfl rfl 2 (by decide) (hts _ lkX3_plan_18) (fun _ h => h) rfl dX3_plan_71 ?_
          refine lv_iload hx hb dX3_plan_74 (lv_at hl 5 rfl) ?_
          refine x_callv (bc := [w3 q md (upd b t (nI (mb (S 11) z (tn (S 8 0)) t))) v (nI (mb (S 11) z (tn (S 8 0)) t + mc (S 11) z t i))]) (br := [wst q sd X]) hM [0] [1] rfl rfl rfl (by decide) (x_runS (As := [.ref (md 2), .int (nI (mb (S 11) z (tn (S 8 0)) t + mc (S 11) z t i)), .int (nI i)]) (rest := []) hfix (c_X5_put l D q (w3 q md (upd b t (nI (mb (S 11) z (tn (S 8 0)) t))) v (nI (mb (S 11) z (tn (S 8 0)) t + mc (S 11) z t i))) 2 (md 2) 480 v (mb (S 11) z (tn (S 8 0)) t + mc (S 11) z t i) (nI i) rfl (by decide) (by omega)) (va_cwS 3 hts gX3_plan_X5_put rfl rfl rfl (by decide +kernel) ⟨Nat.le_of_ble_eq_true rfl, Nat.le_of_ble_eq_true rfl⟩) hM [0] rfl rfl rfl hl.1 rfl (Nat.le_of_ble_eq_true rfl) dX3_plan_76 ⟨Nat.le_of_ble_eq_true rfl, Nat.le_of_ble_eq_true rfl⟩) (fun u H locs hq hM => ?_)
          have hM : xM D (TY q) [wst q sd X, w3 q md (upd b t (nI (mb (S 11) z (tn (S 8 0)) t))) (upd v (mb (S 11) z (tn (S 8 0)) t + mc (S 11) z t i) (nI i)) (nI (mb (S 11) z (tn (S 8 0)) t + mc (S 11) z t i))] A s.heap s H locs := hM
          have hM : xM D (TY q) [w3 q md (upd b t (nI (mb (S 11) z (tn (S 8 0)) t))) (upd v (mb (S 11) z (tn (S 8 0)) t + mc (S 11) z t i) (nI i)) (nI (mb (S 11) z (tn (S 8 0)) t + mc (S 11) z t i)), wst q sd X] A s.heap s H locs := hM.sel [1, 0] rfl rfl
          refine lv_aload_n hx hb dX3_plan_79 rfl (lv_at hl 1 rfl) ?_
          refine lv_dup hx hb dX3_plan_80 rfl ?_
          refine x_get hx hb hts iwX3_plan_X3 hown hM 0 0 rfl rfl rfl 2 (by decide) (hts _ lkX3_plan_18) (fun _ h => h) rfl dX3_plan_81 ?_
          refine lv_iconst (v := nI 1) hx hb dX3_plan_84 (by decide) ?_
          refine x_iadd (x := mb (S 11) z (tn (S 8 0)) t + mc (S 11) z t i) (y := 1) hx hb dX3_plan_85 ?_
          refine x_put hx hb hts iwX3_plan_X3 tyX3 tyX3_ok nmX3 hown hM 0 0 rfl rfl rfl 2 (by decide) (hts _ lkX3_plan_18) (fun _ h => h) rfl (ty := .int) (by decide +kernel) rfl rfl (Nat.le_of_ble_eq_true rfl) [w3 q md (upd b t (nI (mb (S 11) z (tn (S 8 0)) t))) (upd v (mb (S 11) z (tn (S 8 0)) t + mc (S 11) z t i) (nI i)) (nI (mb (S 11) z (tn (S 8 0)) t + mc (S 11) z t i + 1)), wst q sd X] rfl dX3_plan_86 (fun H locs hM => ?_)
          refine lv_iinc (v := nI (i + 1)) (lv' := [(4, .int (nI (i + 1))), (5, .int (S 11 i)), (0, .ref (md 0)), (1, .ref (sd 0)), (2, .int zc), (3, .int (nI t))]) hx hb dX3_plan_89 hl (k := 5) rfl (x_inc _ 1) (by decide) rfl (fun ls hl => ?_)
          refine lv_goto (tgt := 28) hx hb dX3_plan_92 (by decide) ?_
          have e18 : ((upd v (mb (S 11) z (tn (S 8 0)) t + mc (S 11) z t i) (nI i)) : Nat → Int32) = ((upd v (mb (S 11) z (tn (S 8 0)) t + mc (S 11) z t i) (nI i))) := by rfl
          have hM : xM D (TY q) [w3 q md (upd b t (nI (mb (S 11) z (tn (S 8 0)) t))) (upd v (mb (S 11) z (tn (S 8 0)) t + mc (S 11) z t i) (nI i)) (nI (mb (S 11) z (tn (S 8 0)) t + mc (S 11) z t i + 1)), wst q sd X] A s.heap s H locs := Eq.mp (congrArg (fun z9 => xM D (TY q) [w3 q md (upd b t (nI (mb (S 11) z (tn (S 8 0)) t))) z9 (nI (mb (S 11) z (tn (S 8 0)) t + mc (S 11) z t i + 1)), wst q sd X] A s.heap s H locs) e18) hM
          have e19 : ((nI (mb (S 11) z (tn (S 8 0)) t + mc (S 11) z t i + 1)) : Int32) = (nI (mb (S 11) z (tn (S 8 0)) t + mc (S 11) z t (i + 1))) := by (first | (rw [mc, if_pos he9, Nat.add_assoc]) | (rw [mc, if_neg he9, Nat.add_zero] ; done) | (rw [mc, if_neg he9]))
          have hM : xM D (TY q) [w3 q md (upd b t (nI (mb (S 11) z (tn (S 8 0)) t))) (upd v (mb (S 11) z (tn (S 8 0)) t + mc (S 11) z t i) (nI i)) (nI (mb (S 11) z (tn (S 8 0)) t + mc (S 11) z t (i + 1))), wst q sd X] A s.heap s H locs := Eq.mp (congrArg (fun z9 => xM D (TY q) [w3 q md (upd b t (nI (mb (S 11) z (tn (S 8 0)) t))) (upd v (mb (S 11) z (tn (S 8 0)) t + mc (S 11) z t i) (nI i)) z9, wst q sd X] A s.heap s H locs) e19) hM
          have hl : lv_has ls 6 [(0, .ref (md 0)), (1, .ref (sd 0)), (2, .int zc), (3, .int (nI t)), (4, .int (nI (i + 1)))] := lv_sub hl [2, 3, 4, 5, 0] rfl
          exact ih10 (i + 1, upd v (mb (S 11) z (tn (S 8 0)) t + mc (S 11) z t i) (nI i)) (show (tn (S 8 0)) - (i + 1) < (tn (S 8 0)) - i from by omega) (show (i + 1) ≤ (tn (S 8 0)) ∧ (∀ y, 1 ≤ y → y < t → ∀ j, j < (tn (S 8 0)) → xeats (S 11 j) j y z → (upd v (mb (S 11) z (tn (S 8 0)) t + mc (S 11) z t i) (nI i)) (mb (S 11) z (tn (S 8 0)) y + mc (S 11) z y j) = nI j) ∧ (∀ j, j < (i + 1) → xeats (S 11 j) j t z → (upd v (mb (S 11) z (tn (S 8 0)) t + mc (S 11) z t i) (nI i)) (mb (S 11) z (tn (S 8 0)) t + mc (S 11) z t j) = nI j) from (by first | exact ⟨by omega, fun y h1 h2 j hj he => (upd_ne _ _ (Nat.ne_of_lt (Nat.lt_of_lt_of_le (okM_lt h1 h2 hj he) (Nat.le_add_right _ _)))).trans (hv9 y h1 h2 j hj he), fun j hj he => (by by_cases hji : j = i; (subst hji; exact upd_at _ _ _); exact (upd_ne _ _ (Nat.ne_of_lt (Nat.add_lt_add_left (mc_lt he (by omega)) _))).trans (hu9 j (by omega) he))⟩ | exact ⟨by omega, hv9, fun j hj he => (by by_cases hji : j = i; (subst hji; exact absurd he he9); exact hu9 j (by omega) he)⟩)) _ _ hM _ hl
