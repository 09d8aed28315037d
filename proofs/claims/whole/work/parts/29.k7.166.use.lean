set_option maxRecDepth 20000 in
theorem ggX6_use_X7_isRecipe : GoodIn wsX6_use wsX7_isRecipe := goodIn_r _ [6, 7, 8, 9, 10, 34, 35, 36, 37, 38, 39, 40, 41, 42, 43, 44, 45, 46, 47, 48, 49] (by decide +kernel) (by decide +kernel)
set_option maxRecDepth 20000 in
theorem gX6_use_X7_isRecipe : GoodIn wsX6_use (wsV RX6 112 RX7 yX7_isRecipe wsX7_isRecipe) := goodIn_app (goodIn_of _ (by decide +kernel)) ggX6_use_X7_isRecipe
set_option maxRecDepth 20000 in
theorem ggX6_use_X7_oneOf : GoodIn wsX6_use wsX7_oneOf := goodIn_r _ [14, 15, 16, 17, 18, 19, 34, 35, 36, 37, 38, 39, 40, 41, 42, 43, 44, 45, 46, 47, 48, 49] (by decide +kernel) (by decide +kernel)
set_option maxRecDepth 20000 in
theorem gX6_use_X7_oneOf : GoodIn wsX6_use (wsV RX6 116 RX7 yX7_oneOf wsX7_oneOf) := goodIn_app (goodIn_of _ (by decide +kernel)) ggX6_use_X7_oneOf
set_option maxRecDepth 20000 in
theorem ggX6_use_X5_add : GoodIn wsX6_use wsX5_add := goodIn_r _ [22] (by decide +kernel) (by decide +kernel)
set_option maxRecDepth 20000 in
theorem gX6_use_X5_add : GoodIn wsX6_use (va_wsS RX6 108 yX5_add wsX5_add) := goodIn_app (goodIn_of _ (by decide +kernel)) ggX6_use_X5_add
set_option maxRecDepth 20000 in
theorem ggX6_use_X7_otherOf : GoodIn wsX6_use wsX7_otherOf := goodIn_r _ [26, 27, 16, 17, 18, 19, 34, 35, 36, 37, 38, 39, 40, 41, 42, 43, 44, 45, 46, 47, 48, 49] (by decide +kernel) (by decide +kernel)
set_option maxRecDepth 20000 in
theorem gX6_use_X7_otherOf : GoodIn wsX6_use (wsV RX6 119 RX7 yX7_otherOf wsX7_otherOf) := goodIn_app (goodIn_of _ (by decide +kernel)) ggX6_use_X7_otherOf
theorem dX6_use_0 : decode cX6_use 0 = .ok (.aload_n 1, 1) := by decide +kernel
theorem dX6_use_1 : decode cX6_use 1 = .ok (.iload_n 2, 1) := by decide +kernel
theorem dX6_use_2 : decode cX6_use 2 = .ok (.invokevirtual 112, 3) := by decide +kernel
theorem dX6_use_5 : decode cX6_use 5 = .ok (.ifCond .eq 31, 3) := by decide +kernel
theorem dX6_use_8 : decode cX6_use 8 = .ok (.aload_n 0, 1) := by decide +kernel
theorem dX6_use_9 : decode cX6_use 9 = .ok (.getfield 9, 3) := by decide +kernel
theorem dX6_use_12 : decode cX6_use 12 = .ok (.aload_n 1, 1) := by decide +kernel
theorem dX6_use_13 : decode cX6_use 13 = .ok (.iload_n 2, 1) := by decide +kernel
theorem dX6_use_14 : decode cX6_use 14 = .ok (.invokevirtual 116, 3) := by decide +kernel
theorem dX6_use_17 : decode cX6_use 17 = .ok (.iload_n 3, 1) := by decide +kernel
theorem dX6_use_18 : decode cX6_use 18 = .ok (.ineg, 1) := by decide +kernel
theorem dX6_use_19 : decode cX6_use 19 = .ok (.invokestatic 108, 3) := by decide +kernel
theorem dX6_use_22 : decode cX6_use 22 = .ok (.aload_n 0, 1) := by decide +kernel
theorem dX6_use_23 : decode cX6_use 23 = .ok (.getfield 9, 3) := by decide +kernel
theorem dX6_use_26 : decode cX6_use 26 = .ok (.aload_n 1, 1) := by decide +kernel
theorem dX6_use_27 : decode cX6_use 27 = .ok (.iload_n 2, 1) := by decide +kernel
theorem dX6_use_28 : decode cX6_use 28 = .ok (.invokevirtual 119, 3) := by decide +kernel
theorem dX6_use_31 : decode cX6_use 31 = .ok (.iload_n 3, 1) := by decide +kernel
theorem dX6_use_32 : decode cX6_use 32 = .ok (.ineg, 1) := by decide +kernel
theorem dX6_use_33 : decode cX6_use 33 = .ok (.invokestatic 108, 3) := by decide +kernel
theorem dX6_use_36 : decode cX6_use 36 = .ok (.return_, 1) := by decide +kernel
theorem lkX6_use_9 : Cond.fieldLink RX6 9 "LeftAtFive$Shops" "stock" "[I" ∈ wsX6_use := by decide +kernel
theorem iwX6_use_X6 : ∀ w ∈ wsX60, w ∈ wsX6_use := by decide +kernel
set_option maxHeartbeats 2000000 in
set_option maxRecDepth 100000 in
theorem c_X6_use (l : Launch) (D : va_G) (q : Nat → ClassId) (ad : Nat → Nat) (τ0 : Int32) (τ1 : Int64) (τ2 : Int32) (τ3 : Nat → Int32) (τ4 : Nat → Int32) (τ5 : Nat → Int32) (sd : Nat → Nat) (X : Nat → Nat → Int32) (S : Nat → Nat → Int32) (k : Nat) (n : Int32) (hT : okT X S) (hk3 : k < 3) : xC l yX6_use wsX6_use ({ frames := 2, cells := 0, slots := 0, locals := 43 }) D (TY q) [w6 q ad τ0 τ1 τ2 τ3 τ4 τ5, wst q sd X] [.ref (ad 0), .ref (sd 0), .int (nI k), .int n] (xQv D (TY q) (fun (_ : Unit) => True) (fun _ => [w6 q ad τ0 τ1 τ2 (if (tn (S 15 0)) ≤ k then τ3 else xuse τ3 (tn (S 16 k)) (tn (S 17 k)) n) τ4 τ5, wst q sd X])) 0 0 := by
  refine x_enter (cc := cX6_use) (maxL := 4) (ret := none) (by decide) rfl (Nat.le_of_ble_eq_true rfl) ?_
  intro p e s m below meth c A ls H locs hfix hr hlocks hinit hM hl
  obtain ⟨hx, hb, hml, hown, hts⟩ := id hfix
  have hl : lv_has ls 4 [(0, .ref (ad 0)), (1, .ref (sd 0)), (2, .int (nI k)), (3, .int n)] := hl
  refine lv_aload_n hx hb dX6_use_0 rfl (lv_at hl 1 rfl) ?_
  refine lv_iload_n hx hb dX6_use_1 rfl (lv_at hl 2 rfl) ?_
  refine x_calli (bc := [wst q sd X]) (br := [w6 q ad τ0 τ1 τ2 τ3 τ4 τ5]) hM [1] [0] rfl rfl rfl (by decide) (x_runV (As := [.int (nI k)]) (rest := []) hfix (c_X7_isRecipe l D q sd X S (nI k) ((k : Nat) : Int) hT (nI_toInt (n := k) (by omega))) (cwV 1 hts gX6_use_X7_isRecipe rfl rfl rfl (by decide +kernel) ⟨Nat.le_of_ble_eq_true rfl, Nat.le_of_ble_eq_true rfl⟩) hM [1] rfl rfl 1 0 rfl rfl rfl rfl rfl hl.1 rfl (Nat.le_of_ble_eq_true rfl) dX6_use_2 ⟨Nat.le_of_ble_eq_true rfl, Nat.le_of_ble_eq_true rfl⟩) (fun r u H locs hq hM => ?_)
  subst hq
  have hM : xM D (TY q) [w6 q ad τ0 τ1 τ2 τ3 τ4 τ5, wst q sd X] A s.heap s H locs := hM
  refine x_ifz_eq (P := 0 ≤ ((k : Nat) : Int) ∧ ((k : Nat) : Int) < (tn (S 15 0))) (tgt := 36) hx hb dX6_use_5 (by decide) (fun c1 => ?_) (fun c1 => ?_)
  · have e2 : ((τ3) : Nat → Int32) = ((if (tn (S 15 0)) ≤ k then τ3 else xuse τ3 (tn (S 16 k)) (tn (S 17 k)) n)) := by (first | exact (if_pos (by omega)).symm | (rw [if_neg (c := (tn (S 15 0)) ≤ k) (by omega)]; exact xuse_a))
    have hM : xM D (TY q) [w6 q ad τ0 τ1 τ2 (if (tn (S 15 0)) ≤ k then τ3 else xuse τ3 (tn (S 16 k)) (tn (S 17 k)) n) τ4 τ5, wst q sd X] A s.heap s H locs := Eq.mp (congrArg (fun z9 => xM D (TY q) [w6 q ad τ0 τ1 τ2 z9 τ4 τ5, wst q sd X] A s.heap s H locs) e2) hM
    exact x_vret hx hb hr hlocks () hM trivial dX6_use_36
  · refine lv_aload_n hx hb dX6_use_8 rfl (lv_at hl 0 rfl) ?_
    refine x_get hx hb hts iwX6_use_X6 hown hM 0 0 rfl rfl rfl 3 (by decide) (hts _ lkX6_use_9) (fun _ h => h) rfl dX6_use_9 ?_
    refine lv_aload_n hx hb dX6_use_12 rfl (lv_at hl 1 rfl) ?_
    refine lv_iload_n hx hb dX6_use_13 rfl (lv_at hl 2 rfl) ?_
    refine x_calli (bc := [wst q sd X]) (br := [w6 q ad τ0 τ1 τ2 τ3 τ4 τ5]) hM [1] [0] rfl rfl rfl (by decide) (x_runV (As := [.int (nI k)]) (rest := [.ref (ad 4)]) hfix (c_X7_oneOf l D q sd X S k hT (by omega)) (cwV 1 hts gX6_use_X7_oneOf rfl rfl rfl (by decide +kernel) ⟨Nat.le_of_ble_eq_true rfl, Nat.le_of_ble_eq_true rfl⟩) hM [1] rfl rfl 1 0 rfl rfl rfl rfl rfl hl.1 rfl (Nat.le_of_ble_eq_true rfl) dX6_use_14 ⟨Nat.le_of_ble_eq_true rfl, Nat.le_of_ble_eq_true rfl⟩) (fun r u H locs hq hM => ?_)
    subst hq
    have hM : xM D (TY q) [w6 q ad τ0 τ1 τ2 τ3 τ4 τ5, wst q sd X] A s.heap s H locs := hM
    refine lv_iload_n hx hb dX6_use_17 rfl (lv_at hl 3 rfl) ?_
    refine lv_ineg hx hb dX6_use_18 ?_
    refine x_callv (bc := [w6 q ad τ0 τ1 τ2 τ3 τ4 τ5]) (br := [wst q sd X]) hM [0] [1] rfl rfl rfl (by decide) (x_runS (As := [.ref (ad 4), .int (nI (tn (S 16 k))), .int (-n)]) (rest := []) hfix (c_X5_add l D q (w6 q ad τ0 τ1 τ2 τ3 τ4 τ5) 1 (ad 4) 5 τ3 (tn (S 16 k)) (-n) rfl (by decide) (Nat.lt_succ_of_le (okT_on5 hT (by omega)).2)) (va_cwS 3 hts gX6_use_X5_add rfl rfl rfl (by decide +kernel) ⟨Nat.le_of_ble_eq_true rfl, Nat.le_of_ble_eq_true rfl⟩) hM [0] rfl rfl rfl hl.1 rfl (Nat.le_of_ble_eq_true rfl) dX6_use_19 ⟨Nat.le_of_ble_eq_true rfl, Nat.le_of_ble_eq_true rfl⟩) (fun u H locs hq hM => ?_)
    have hM : xM D (TY q) [wst q sd X, w6 q ad τ0 τ1 τ2 (upd τ3 (tn (S 16 k)) (τ3 (tn (S 16 k)) + (-n))) τ4 τ5] A s.heap s H locs := hM
    have hM : xM D (TY q) [w6 q ad τ0 τ1 τ2 (upd τ3 (tn (S 16 k)) (τ3 (tn (S 16 k)) + (-n))) τ4 τ5, wst q sd X] A s.heap s H locs := hM.sel [1, 0] rfl rfl
    refine lv_aload_n hx hb dX6_use_22 rfl (lv_at hl 0 rfl) ?_
    refine x_get hx hb hts iwX6_use_X6 hown hM 0 0 rfl rfl rfl 3 (by decide) (hts _ lkX6_use_9) (fun _ h => h) rfl dX6_use_23 ?_
    refine lv_aload_n hx hb dX6_use_26 rfl (lv_at hl 1 rfl) ?_
    refine lv_iload_n hx hb dX6_use_27 rfl (lv_at hl 2 rfl) ?_
    refine x_calli (bc := [wst q sd X]) (br := [w6 q ad τ0 τ1 τ2 (upd τ3 (tn (S 16 k)) (τ3 (tn (S 16 k)) + (-n))) τ4 τ5]) hM [1] [0] rfl rfl rfl (by decide) (x_runV (As := [.int (nI k)]) (rest := [.ref (ad 4)]) hfix (c_X7_otherOf l D q sd X S k hT (by omega)) (cwV 1 hts gX6_use_X7_otherOf rfl rfl rfl (by decide +kernel) ⟨Nat.le_of_ble_eq_true rfl, Nat.le_of_ble_eq_true rfl⟩) hM [1] rfl rfl 1 0 rfl rfl rfl rfl rfl hl.1 rfl (Nat.le_of_ble_eq_true rfl) dX6_use_28 ⟨Nat.le_of_ble_eq_true rfl, Nat.le_of_ble_eq_true rfl⟩) (fun r u H locs hq hM => ?_)
    subst hq
    have hM : xM D (TY q) [w6 q ad τ0 τ1 τ2 (upd τ3 (tn (S 16 k)) (τ3 (tn (S 16 k)) + (-n))) τ4 τ5, wst q sd X] A s.heap s H locs := hM
    refine lv_iload_n hx hb dX6_use_31 rfl (lv_at hl 3 rfl) ?_
    refine lv_ineg hx hb dX6_use_32 ?_
    refine x_callv (bc := [w6 q ad τ0 τ1 τ2 (upd τ3 (tn (S 16 k)) (τ3 (tn (S 16 k)) + (-n))) τ4 τ5]) (br := [wst q sd X]) hM [0] [1] rfl rfl rfl (by decide) (x_runS (As := [.ref (ad 4), .int (nI (tn (S 17 k))), .int (-n)]) (rest := []) hfix (c_X5_add l D q (w6 q ad τ0 τ1 τ2 (upd τ3 (tn (S 16 k)) (τ3 (tn (S 16 k)) + (-n))) τ4 τ5) 1 (ad 4) 5 (upd τ3 (tn (S 16 k)) (τ3 (tn (S 16 k)) + (-n))) (tn (S 17 k)) (-n) rfl (by decide) (Nat.lt_succ_of_le (okT_ot5 hT (by omega)).2)) (va_cwS 3 hts gX6_use_X5_add rfl rfl rfl (by decide +kernel) ⟨Nat.le_of_ble_eq_true rfl, Nat.le_of_ble_eq_true rfl⟩) hM [0] rfl rfl rfl hl.1 rfl (Nat.le_of_ble_eq_true rfl) dX6_use_33 ⟨Nat.le_of_ble_eq_true rfl, Nat.le_of_ble_eq_true rfl⟩) (fun u H locs hq hM => ?_)
    have hM : xM D (TY q) [wst q sd X, w6 q ad τ0 τ1 τ2 (upd (upd τ3 (tn (S 16 k)) (τ3 (tn (S 16 k)) + (-n))) (tn (S 17 k)) ((upd τ3 (tn (S 16 k)) (τ3 (tn (S 16 k)) + (-n))) (tn (S 17 k)) + (-n))) τ4 τ5] A s.heap s H locs := hM
    have hM : xM D (TY q) [w6 q ad τ0 τ1 τ2 (upd (upd τ3 (tn (S 16 k)) (τ3 (tn (S 16 k)) + (-n))) (tn (S 17 k)) ((upd τ3 (tn (S 16 k)) (τ3 (tn (S 16 k)) + (-n))) (tn (S 17 k)) + (-n))) τ4 τ5, wst q sd X] A s.heap s H locs := hM.sel [1, 0] rfl rfl
    have e3 : ((upd (upd τ3 (tn (S 16 k)) (τ3 (tn (S 16 k)) + (-n))) (tn (S 17 k)) ((upd τ3 (tn (S 16 k)) (τ3 (tn (S 16 k)) + (-n))) (tn (S 17 k)) + (-n))) : Nat → Int32) = ((if (tn (S 15 0)) ≤ k then τ3 else xuse τ3 (tn (S 16 k)) (tn (S 17 k)) n)) := by (first | exact (if_pos (by omega)).symm | (rw [if_neg (c := (tn (S 15 0)) ≤ k) (by omega)]; exact xuse_a))
    have hM : xM D (TY q) [w6 q ad τ0 τ1 τ2 (if (tn (S 15 0)) ≤ k then τ3 else xuse τ3 (tn (S 16 k)) (tn (S 17 k)) n) τ4 τ5, wst q sd X] A s.heap s H locs := Eq.mp (congrArg (fun z9 => xM D (TY q) [w6 q ad τ0 τ1 τ2 z9 τ4 τ5, wst q sd X] A s.heap s H locs) e3) hM
    exact x_vret hx hb hr hlocks () hM trivial dX6_use_36
