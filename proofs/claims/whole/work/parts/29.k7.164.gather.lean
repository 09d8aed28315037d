set_option maxRecDepth 20000 in
theorem ggX6_gather_X5_clear : GoodIn wsX6_gather wsX5_clear := goodIn_r _ [7] (by decide +kernel) (by decide +kernel)
set_option maxRecDepth 20000 in
theorem gX6_gather_X5_clear : GoodIn wsX6_gather (va_wsS RX6 92 yX5_clear wsX5_clear) := goodIn_app (goodIn_of _ (by decide +kernel)) ggX6_gather_X5_clear
set_option maxRecDepth 20000 in
theorem ggX6_gather_X1_leftOf : GoodIn wsX6_gather wsX1_leftOf := goodIn_r _ [12, 13, 14, 15, 11, 16, 17, 18, 19, 20, 21, 22, 23, 6, 24, 25, 26, 27, 28, 29, 30, 56, 57, 58, 59, 60, 61, 40, 41, 42, 43, 44, 45, 46, 47, 48, 49, 50, 51, 52, 53, 54, 55] (by decide +kernel) (by decide +kernel)
set_option maxRecDepth 20000 in
theorem gX6_gather_X1_leftOf : GoodIn wsX6_gather (wsV RX6 102 RX1 yX1_leftOf wsX1_leftOf) := goodIn_app (goodIn_of _ (by decide +kernel)) ggX6_gather_X1_leftOf
set_option maxRecDepth 20000 in
theorem ggX6_gather_X5_add : GoodIn wsX6_gather wsX5_add := goodIn_r _ [33] (by decide +kernel) (by decide +kernel)
set_option maxRecDepth 20000 in
theorem gX6_gather_X5_add : GoodIn wsX6_gather (va_wsS RX6 108 yX5_add wsX5_add) := goodIn_app (goodIn_of _ (by decide +kernel)) ggX6_gather_X5_add
theorem dX6_gather_0 : decode cX6_gather 0 = .ok (.aload_n 0, 1) := by decide +kernel
theorem dX6_gather_1 : decode cX6_gather 1 = .ok (.getfield 9, 3) := by decide +kernel
theorem dX6_gather_4 : decode cX6_gather 4 = .ok (.invokestatic 92, 3) := by decide +kernel
theorem dX6_gather_7 : decode cX6_gather 7 = .ok (.iconst 0, 1) := by decide +kernel
theorem dX6_gather_8 : decode cX6_gather 8 = .ok (.istore_n 3, 1) := by decide +kernel
theorem dX6_gather_9 : decode cX6_gather 9 = .ok (.iload_n 3, 1) := by decide +kernel
theorem dX6_gather_10 : decode cX6_gather 10 = .ok (.aload_n 1, 1) := by decide +kernel
theorem dX6_gather_11 : decode cX6_gather 11 = .ok (.getfield 96, 3) := by decide +kernel
theorem dX6_gather_14 : decode cX6_gather 14 = .ok (.if_icmp .ge 43, 3) := by decide +kernel
theorem dX6_gather_17 : decode cX6_gather 17 = .ok (.iconst 0, 1) := by decide +kernel
theorem dX6_gather_18 : decode cX6_gather 18 = .ok (.istore 4, 2) := by decide +kernel
theorem dX6_gather_20 : decode cX6_gather 20 = .ok (.iload 4, 2) := by decide +kernel
theorem dX6_gather_22 : decode cX6_gather 22 = .ok (.aload_n 1, 1) := by decide +kernel
theorem dX6_gather_23 : decode cX6_gather 23 = .ok (.getfield 99, 3) := by decide +kernel
theorem dX6_gather_26 : decode cX6_gather 26 = .ok (.if_icmp .ge 25, 3) := by decide +kernel
theorem dX6_gather_29 : decode cX6_gather 29 = .ok (.aload_n 0, 1) := by decide +kernel
theorem dX6_gather_30 : decode cX6_gather 30 = .ok (.getfield 9, 3) := by decide +kernel
theorem dX6_gather_33 : decode cX6_gather 33 = .ok (.iload_n 3, 1) := by decide +kernel
theorem dX6_gather_34 : decode cX6_gather 34 = .ok (.aload_n 2, 1) := by decide +kernel
theorem dX6_gather_35 : decode cX6_gather 35 = .ok (.aload_n 1, 1) := by decide +kernel
theorem dX6_gather_36 : decode cX6_gather 36 = .ok (.iload 4, 2) := by decide +kernel
theorem dX6_gather_38 : decode cX6_gather 38 = .ok (.iload_n 3, 1) := by decide +kernel
theorem dX6_gather_39 : decode cX6_gather 39 = .ok (.invokevirtual 102, 3) := by decide +kernel
theorem dX6_gather_42 : decode cX6_gather 42 = .ok (.invokestatic 108, 3) := by decide +kernel
theorem dX6_gather_45 : decode cX6_gather 45 = .ok (.iinc 4 1, 3) := by decide +kernel
theorem dX6_gather_48 : decode cX6_gather 48 = .ok (.goto (-28), 3) := by decide +kernel
theorem dX6_gather_51 : decode cX6_gather 51 = .ok (.iinc 3 1, 3) := by decide +kernel
theorem dX6_gather_54 : decode cX6_gather 54 = .ok (.goto (-45), 3) := by decide +kernel
theorem dX6_gather_57 : decode cX6_gather 57 = .ok (.return_, 1) := by decide +kernel
theorem lkX6_gather_9 : Cond.fieldLink RX6 9 "LeftAtFive$Shops" "stock" "[I" ∈ wsX6_gather := by decide +kernel
theorem lkX6_gather_96 : Cond.fieldLink RX6 96 "LeftAtFive$Street" "goods" "I" ∈ wsX6_gather := by decide +kernel
theorem lkX6_gather_99 : Cond.fieldLink RX6 99 "LeftAtFive$Street" "houses" "I" ∈ wsX6_gather := by decide +kernel
theorem iwX6_gather_X6 : ∀ w ∈ wsX60, w ∈ wsX6_gather := by decide +kernel
theorem iwX6_gather_X7 : ∀ w ∈ wsX70, w ∈ wsX6_gather := by decide +kernel
set_option maxHeartbeats 2000000 in
set_option maxRecDepth 100000 in
theorem c_X6_gather (l : Launch) (D : va_G) (q : Nat → ClassId) (ad : Nat → Nat) (τ0 : Int32) (τ1 : Int64) (τ2 : Int32) (τ3 : Nat → Int32) (τ4 : Nat → Int32) (τ5 : Nat → Int32) (sd : Nat → Nat) (X : Nat → Nat → Int32) (kd : Nat → Nat) (K : Nat → Int32) (S : Nat → Nat → Int32) (hT : okT X S) : xC l yX6_gather wsX6_gather ({ frames := 3, cells := 0, slots := 0, locals := 66 }) D (TY q) [w6 q ad τ0 τ1 τ2 τ3 τ4 τ5, wst q sd X, wk q kd K] [.ref (ad 0), .ref (sd 0), .ref (kd 0)] (xQv D (TY q) (fun (_ : Unit) => True) (fun _ => [w6 q ad τ0 τ1 τ2 (xfill τ3 (xst (S 4) K (tn (S 5 0)) (tn (S 2 0))) 5) τ4 τ5, wst q sd X, wk q kd K])) 0 0 := by
  refine x_enter (cc := cX6_gather) (maxL := 5) (ret := none) (by decide) rfl (Nat.le_of_ble_eq_true rfl) ?_
  intro p e s m below meth c A ls H locs hfix hr hlocks hinit hM hl
  obtain ⟨hx, hb, hml, hown, hts⟩ := id hfix
  have hl : lv_has ls 5 [(0, .ref (ad 0)), (1, .ref (sd 0)), (2, .ref (kd 0))] := hl
  have hTb0 := okT_0b hT
  have hTb1 := okT_1b hT
  refine lv_aload_n hx hb dX6_gather_0 rfl (lv_at hl 0 rfl) ?_
  refine x_get hx hb hts iwX6_gather_X6 hown hM 0 0 rfl rfl rfl 3 (by decide) (hts _ lkX6_gather_9) (fun _ h => h) rfl dX6_gather_1 ?_
  refine x_callv (bc := [w6 q ad τ0 τ1 τ2 τ3 τ4 τ5]) (br := [wst q sd X, wk q kd K]) hM [0] [1, 2] rfl rfl rfl (by decide) (x_runS (As := [.ref (ad 4)]) (rest := []) hfix (c_X5_clear l D q (w6 q ad τ0 τ1 τ2 τ3 τ4 τ5) 1 (ad 4) 5 τ3 rfl (by decide)) (va_cwS 1 hts gX6_gather_X5_clear rfl rfl rfl (by decide +kernel) ⟨Nat.le_of_ble_eq_true rfl, Nat.le_of_ble_eq_true rfl⟩) hM [0] rfl rfl rfl hl.1 rfl (Nat.le_of_ble_eq_true rfl) dX6_gather_4 ⟨Nat.le_of_ble_eq_true rfl, Nat.le_of_ble_eq_true rfl⟩) (fun u H locs hq hM => ?_)
  have hM : xM D (TY q) [wst q sd X, wk q kd K, w6 q ad τ0 τ1 τ2 (xzero τ3 0 5) τ4 τ5] A s.heap s H locs := hM
  have hM : xM D (TY q) [w6 q ad τ0 τ1 τ2 (xzero τ3 0 5) τ4 τ5, wst q sd X, wk q kd K] A s.heap s H locs := hM.sel [2, 0, 1] rfl rfl
  refine lv_iconst (v := nI 0) hx hb dX6_gather_7 (by decide) ?_
  refine lv_istore_n (lv' := [(3, .int (nI 0)), (0, .ref (ad 0)), (1, .ref (sd 0)), (2, .ref (kd 0))]) hx hb dX6_gather_8 rfl hl (by decide) rfl (fun ls hl => ?_)
  have e2 : ((xzero τ3 0 5) : Nat → Int32) = (xfill (xzero τ3 0 5) (xst (S 4) K (tn (S 5 0)) (tn (S 2 0))) 0) := by exact (xfill_0 _ _).symm
  have hM : xM D (TY q) [w6 q ad τ0 τ1 τ2 (xfill (xzero τ3 0 5) (xst (S 4) K (tn (S 5 0)) (tn (S 2 0))) 0) τ4 τ5, wst q sd X, wk q kd K] A s.heap s H locs := Eq.mp (congrArg (fun z9 => xM D (TY q) [w6 q ad τ0 τ1 τ2 z9 τ4 τ5, wst q sd X, wk q kd K] A s.heap s H locs) e2) hM
  refine x_loop (ι := Nat) (fun g => [(0, .ref (ad 0)), (1, .ref (sd 0)), (2, .ref (kd 0)), (3, .int (nI g))]) (fun g => [w6 q ad τ0 τ1 τ2 (xfill (xzero τ3 0 5) (xst (S 4) K (tn (S 5 0)) (tn (S 2 0))) g) τ4 τ5, wst q sd X, wk q kd K]) (fun g => g ≤ (tn (S 2 0))) (fun g => (tn (S 2 0)) - g) 0 (by omega) hM (lv_sub hl [1, 2, 3, 0] rfl) ?_
  intro g hI4 ih3 H locs hM ls hl
  have hM : xM D (TY q) [w6 q ad τ0 τ1 τ2 (xfill (xzero τ3 0 5) (xst (S 4) K (tn (S 5 0)) (tn (S 2 0))) g) τ4 τ5, wst q sd X, wk q kd K] A s.heap s H locs := hM
  have hl : lv_has ls 5 [(0, .ref (ad 0)), (1, .ref (sd 0)), (2, .ref (kd 0)), (3, .int (nI g))] := hl
  have hI4 : g ≤ (tn (S 2 0)) := hI4
  try dsimp only
  refine lv_iload_n hx hb dX6_gather_9 rfl (lv_at hl 3 rfl) ?_
  refine lv_aload_n hx hb dX6_gather_10 rfl (lv_at hl 1 rfl) ?_
  refine x_get hx hb hts iwX6_gather_X7 hown hM 1 0 rfl rfl rfl 0 (by decide) (hts _ lkX6_gather_96) (fun _ h => h) rfl dX6_gather_11 ?_
  refine x_cast (y := nI (tn (S 2 0))) (okT_0 hT) ?_
  refine x_icmp_ge (x := g) (y := tn (S 2 0)) (tgt := 57) hx hb (by omega) (by omega) dX6_gather_14 (by decide) (fun c5 => ?_) (fun c5 => ?_)
  · have e6 : ((xfill (xzero τ3 0 5) (xst (S 4) K (tn (S 5 0)) (tn (S 2 0))) g) : Nat → Int32) = (xfill τ3 (xst (S 4) K (tn (S 5 0)) (tn (S 2 0))) 5) := by (rw [show g = (tn (S 2 0)) by omega]; exact xfill_st hTb0)
    have hM : xM D (TY q) [w6 q ad τ0 τ1 τ2 (xfill τ3 (xst (S 4) K (tn (S 5 0)) (tn (S 2 0))) 5) τ4 τ5, wst q sd X, wk q kd K] A s.heap s H locs := Eq.mp (congrArg (fun z9 => xM D (TY q) [w6 q ad τ0 τ1 τ2 z9 τ4 τ5, wst q sd X, wk q kd K] A s.heap s H locs) e6) hM
    exact x_vret hx hb hr hlocks () hM trivial dX6_gather_57
  · refine lv_iconst (v := nI 0) hx hb dX6_gather_17 (by decide) ?_
    refine lv_istore (lv' := [(4, .int (nI 0)), (0, .ref (ad 0)), (1, .ref (sd 0)), (2, .ref (kd 0)), (3, .int (nI g))]) hx hb dX6_gather_18 hl (by decide) rfl (fun ls hl => ?_)
    have e8 : ((xfill (xzero τ3 0 5) (xst (S 4) K (tn (S 5 0)) (tn (S 2 0))) g) : Nat → Int32) = (upd (xfill (xzero τ3 0 5) (xst (S 4) K (tn (S 5 0)) (tn (S 2 0))) g) g (xsum (fun y9 => xlf (S 4 g) (K (5 * y9 + g))) 0)) := by exact (xfill_in (by omega)).symm
    have hM : xM D (TY q) [w6 q ad τ0 τ1 τ2 (upd (xfill (xzero τ3 0 5) (xst (S 4) K (tn (S 5 0)) (tn (S 2 0))) g) g (xsum (fun y9 => xlf (S 4 g) (K (5 * y9 + g))) 0)) τ4 τ5, wst q sd X, wk q kd K] A s.heap s H locs := Eq.mp (congrArg (fun z9 => xM D (TY q) [w6 q ad τ0 τ1 τ2 z9 τ4 τ5, wst q sd X, wk q kd K] A s.heap s H locs) e8) hM
    refine x_loop (ι := Nat) (fun h => [(0, .ref (ad 0)), (1, .ref (sd 0)), (2, .ref (kd 0)), (3, .int (nI g)), (4, .int (nI h))]) (fun h => [w6 q ad τ0 τ1 τ2 (upd (xfill (xzero τ3 0 5) (xst (S 4) K (tn (S 5 0)) (tn (S 2 0))) g) g (xsum (fun y9 => xlf (S 4 g) (K (5 * y9 + g))) h)) τ4 τ5, wst q sd X, wk q kd K]) (fun h => h ≤ (tn (S 5 0))) (fun h => (tn (S 5 0)) - h) 0 (by omega) hM (lv_sub hl [1, 2, 3, 4, 0] rfl) ?_
    intro h hI10 ih9 H locs hM ls hl
    have hM : xM D (TY q) [w6 q ad τ0 τ1 τ2 (upd (xfill (xzero τ3 0 5) (xst (S 4) K (tn (S 5 0)) (tn (S 2 0))) g) g (xsum (fun y9 => xlf (S 4 g) (K (5 * y9 + g))) h)) τ4 τ5, wst q sd X, wk q kd K] A s.heap s H locs := hM
    have hl : lv_has ls 5 [(0, .ref (ad 0)), (1, .ref (sd 0)), (2, .ref (kd 0)), (3, .int (nI g)), (4, .int (nI h))] := hl
    have hI10 : h ≤ (tn (S 5 0)) := hI10
    try dsimp only
    refine lv_iload hx hb dX6_gather_20 (lv_at hl 4 rfl) ?_
    refine lv_aload_n hx hb dX6_gather_22 rfl (lv_at hl 1 rfl) ?_
    refine x_get hx hb hts iwX6_gather_X7 hown hM 1 0 rfl rfl rfl 1 (by decide) (hts _ lkX6_gather_99) (fun _ h => h) rfl dX6_gather_23 ?_
    refine x_cast (y := nI (tn (S 5 0))) (okT_1 hT) ?_
    refine x_icmp_ge (x := h) (y := tn (S 5 0)) (tgt := 51) hx hb (by omega) (by omega) dX6_gather_26 (by decide) (fun c11 => ?_) (fun c11 => ?_)
    · refine lv_iinc (v := nI (g + 1)) (lv' := [(3, .int (nI (g + 1))), (0, .ref (ad 0)), (1, .ref (sd 0)), (2, .ref (kd 0)), (4, .int (nI h))]) hx hb dX6_gather_51 hl (k := 3) rfl (x_inc _ 1) (by decide) rfl (fun ls hl => ?_)
      refine lv_goto (tgt := 9) hx hb dX6_gather_54 (by decide) ?_
      have e12 : ((upd (xfill (xzero τ3 0 5) (xst (S 4) K (tn (S 5 0)) (tn (S 2 0))) g) g (xsum (fun y9 => xlf (S 4 g) (K (5 * y9 + g))) h)) : Nat → Int32) = (xfill (xzero τ3 0 5) (xst (S 4) K (tn (S 5 0)) (tn (S 2 0))) (g + 1)) := by (rw [xst_eq (kd := S 4) (K := K) (nH := (tn (S 5 0))) (G := (tn (S 2 0))) (Or.inl (by omega)) (Or.inl (by omega)) (by omega)]; exact xfill_s _ _ _)
      have hM : xM D (TY q) [w6 q ad τ0 τ1 τ2 (xfill (xzero τ3 0 5) (xst (S 4) K (tn (S 5 0)) (tn (S 2 0))) (g + 1)) τ4 τ5, wst q sd X, wk q kd K] A s.heap s H locs := Eq.mp (congrArg (fun z9 => xM D (TY q) [w6 q ad τ0 τ1 τ2 z9 τ4 τ5, wst q sd X, wk q kd K] A s.heap s H locs) e12) hM
      have hl : lv_has ls 5 [(0, .ref (ad 0)), (1, .ref (sd 0)), (2, .ref (kd 0)), (3, .int (nI (g + 1)))] := lv_sub hl [1, 2, 3, 0] rfl
      exact ih3 (g + 1) (show (tn (S 2 0)) - (g + 1) < (tn (S 2 0)) - g from by omega) (show (g + 1) ≤ (tn (S 2 0)) from by omega) _ _ hM _ hl
    · refine lv_aload_n hx hb dX6_gather_29 rfl (lv_at hl 0 rfl) ?_
      refine x_get hx hb hts iwX6_gather_X6 hown hM 0 0 rfl rfl rfl 3 (by decide) (hts _ lkX6_gather_9) (fun _ h => h) rfl dX6_gather_30 ?_
      refine lv_iload_n hx hb dX6_gather_33 rfl (lv_at hl 3 rfl) ?_
      refine lv_aload_n hx hb dX6_gather_34 rfl (lv_at hl 2 rfl) ?_
      refine lv_aload_n hx hb dX6_gather_35 rfl (lv_at hl 1 rfl) ?_
      refine lv_iload hx hb dX6_gather_36 (lv_at hl 4 rfl) ?_
      refine lv_iload_n hx hb dX6_gather_38 rfl (lv_at hl 3 rfl) ?_
      refine x_calli (bc := [wk q kd K, wst q sd X]) (br := [w6 q ad τ0 τ1 τ2 (upd (xfill (xzero τ3 0 5) (xst (S 4) K (tn (S 5 0)) (tn (S 2 0))) g) g (xsum (fun y9 => xlf (S 4 g) (K (5 * y9 + g))) h)) τ4 τ5]) hM [2, 1] [0] rfl rfl rfl (by decide) (x_runV (As := [.ref (sd 0), .int (nI h), .int (nI g)]) (rest := [.int (nI g), .ref (ad 4)]) hfix (c_X1_leftOf l D q kd K sd X S h g hT (by omega) (by omega)) (cwV 3 hts gX6_gather_X1_leftOf rfl rfl rfl (by decide +kernel) ⟨Nat.le_of_ble_eq_true rfl, Nat.le_of_ble_eq_true rfl⟩) hM [2, 1] rfl rfl 2 0 rfl rfl rfl rfl rfl hl.1 rfl (Nat.le_of_ble_eq_true rfl) dX6_gather_39 ⟨Nat.le_of_ble_eq_true rfl, Nat.le_of_ble_eq_true rfl⟩) (fun r u H locs hq hM => ?_)
      subst hq
      have hM : xM D (TY q) [w6 q ad τ0 τ1 τ2 (upd (xfill (xzero τ3 0 5) (xst (S 4) K (tn (S 5 0)) (tn (S 2 0))) g) g (xsum (fun y9 => xlf (S 4 g) (K (5 * y9 + g))) h)) τ4 τ5, wk q kd K, wst q sd X] A s.heap s H locs := hM
      have hM : xM D (TY q) [w6 q ad τ0 τ1 τ2 (upd (xfill (xzero τ3 0 5) (xst (S 4) K (tn (S 5 0)) (tn (S 2 0))) g) g (xsum (fun y9 => xlf (S 4 g) (K (5 * y9 + g))) h)) τ4 τ5, wst q sd X, wk q kd K] A s.heap s H locs := hM.sel [0, 2, 1] rfl rfl
      refine x_callv (bc := [w6 q ad τ0 τ1 τ2 (upd (xfill (xzero τ3 0 5) (xst (S 4) K (tn (S 5 0)) (tn (S 2 0))) g) g (xsum (fun y9 => xlf (S 4 g) (K (5 * y9 + g))) h)) τ4 τ5]) (br := [wst q sd X, wk q kd K]) hM [0] [1, 2] rfl rfl rfl (by decide) (x_runS (As := [.ref (ad 4), .int (nI g), .int (xlf (S 4 g) (K (5 * h + g)))]) (rest := []) hfix (c_X5_add l D q (w6 q ad τ0 τ1 τ2 (upd (xfill (xzero τ3 0 5) (xst (S 4) K (tn (S 5 0)) (tn (S 2 0))) g) g (xsum (fun y9 => xlf (S 4 g) (K (5 * y9 + g))) h)) τ4 τ5) 1 (ad 4) 5 (upd (xfill (xzero τ3 0 5) (xst (S 4) K (tn (S 5 0)) (tn (S 2 0))) g) g (xsum (fun y9 => xlf (S 4 g) (K (5 * y9 + g))) h)) g (xlf (S 4 g) (K (5 * h + g))) rfl (by decide) (by omega)) (va_cwS 3 hts gX6_gather_X5_add rfl rfl rfl (by decide +kernel) ⟨Nat.le_of_ble_eq_true rfl, Nat.le_of_ble_eq_true rfl⟩) hM [0] rfl rfl rfl hl.1 rfl (Nat.le_of_ble_eq_true rfl) dX6_gather_42 ⟨Nat.le_of_ble_eq_true rfl, Nat.le_of_ble_eq_true rfl⟩) (fun u H locs hq hM => ?_)
      have hM : xM D (TY q) [wst q sd X, wk q kd K, w6 q ad τ0 τ1 τ2 (upd (upd (xfill (xzero τ3 0 5) (xst (S 4) K (tn (S 5 0)) (tn (S 2 0))) g) g (xsum (fun y9 => xlf (S 4 g) (K (5 * y9 + g))) h)) g ((upd (xfill (xzero τ3 0 5) (xst (S 4) K (tn (S 5 0)) (tn (S 2 0))) g) g (xsum (fun y9 => xlf (S 4 g) (K (5 * y9 + g))) h)) g + (xlf (S 4 g) (K (5 * h + g))))) τ4 τ5] A s.heap s H locs := hM
      have hM : xM D (TY q) [w6 q ad τ0 τ1 τ2 (upd (upd (xfill (xzero τ3 0 5) (xst (S 4) K (tn (S 5 0)) (tn (S 2 0))) g) g (xsum (fun y9 => xlf (S 4 g) (K (5 * y9 + g))) h)) g ((upd (xfill (xzero τ3 0 5) (xst (S 4) K (tn (S 5 0)) (tn (S 2 0))) g) g (xsum (fun y9 => xlf (S 4 g) (K (5 * y9 + g))) h)) g + (xlf (S 4 g) (K (5 * h + g))))) τ4 τ5, wst q sd X, wk q kd K] A s.heap s H locs := hM.sel [2, 0, 1] rfl rfl
      refine lv_iinc (v := nI (h + 1)) (lv' := [(4, .int (nI (h + 1))), (0, .ref (ad 0)), (1, .ref (sd 0)), (2, .ref (kd 0)), (3, .int (nI g))]) hx hb dX6_gather_45 hl (k := 4) rfl (x_inc _ 1) (by decide) rfl (fun ls hl => ?_)
      refine lv_goto (tgt := 20) hx hb dX6_gather_48 (by decide) ?_
      have e13 : ((upd (upd (xfill (xzero τ3 0 5) (xst (S 4) K (tn (S 5 0)) (tn (S 2 0))) g) g (xsum (fun y9 => xlf (S 4 g) (K (5 * y9 + g))) h)) g ((upd (xfill (xzero τ3 0 5) (xst (S 4) K (tn (S 5 0)) (tn (S 2 0))) g) g (xsum (fun y9 => xlf (S 4 g) (K (5 * y9 + g))) h)) g + (xlf (S 4 g) (K (5 * h + g))))) : Nat → Int32) = (upd (xfill (xzero τ3 0 5) (xst (S 4) K (tn (S 5 0)) (tn (S 2 0))) g) g (xsum (fun y9 => xlf (S 4 g) (K (5 * y9 + g))) (h + 1))) := by (rw [upd_upd, upd_at]; rfl)
      have hM : xM D (TY q) [w6 q ad τ0 τ1 τ2 (upd (xfill (xzero τ3 0 5) (xst (S 4) K (tn (S 5 0)) (tn (S 2 0))) g) g (xsum (fun y9 => xlf (S 4 g) (K (5 * y9 + g))) (h + 1))) τ4 τ5, wst q sd X, wk q kd K] A s.heap s H locs := Eq.mp (congrArg (fun z9 => xM D (TY q) [w6 q ad τ0 τ1 τ2 z9 τ4 τ5, wst q sd X, wk q kd K] A s.heap s H locs) e13) hM
      have hl : lv_has ls 5 [(0, .ref (ad 0)), (1, .ref (sd 0)), (2, .ref (kd 0)), (3, .int (nI g)), (4, .int (nI (h + 1)))] := lv_sub hl [1, 2, 3, 4, 0] rfl
      exact ih9 (h + 1) (show (tn (S 5 0)) - (h + 1) < (tn (S 5 0)) - h from by omega) (show (h + 1) ≤ (tn (S 5 0)) from by omega) _ _ hM _ hl
