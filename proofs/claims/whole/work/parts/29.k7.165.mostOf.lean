set_option maxRecDepth 20000 in
theorem ggX6_mostOf_X7_isRecipe : GoodIn wsX6_mostOf wsX7_isRecipe := goodIn_r _ [10, 11, 12, 13, 14, 36, 37, 38, 39, 40, 41, 42, 43, 44, 45, 46, 47, 48, 49, 50, 51] (by decide +kernel) (by decide +kernel)
set_option maxRecDepth 20000 in
theorem gX6_mostOf_X7_isRecipe : GoodIn wsX6_mostOf (wsV RX6 112 RX7 yX7_isRecipe wsX7_isRecipe) := goodIn_app (goodIn_of _ (by decide +kernel)) ggX6_mostOf_X7_isRecipe
set_option maxRecDepth 20000 in
theorem ggX6_mostOf_X7_oneOf : GoodIn wsX6_mostOf wsX7_oneOf := goodIn_r _ [18, 19, 20, 21, 22, 23, 36, 37, 38, 39, 40, 41, 42, 43, 44, 45, 46, 47, 48, 49, 50, 51] (by decide +kernel) (by decide +kernel)
set_option maxRecDepth 20000 in
theorem gX6_mostOf_X7_oneOf : GoodIn wsX6_mostOf (wsV RX6 116 RX7 yX7_oneOf wsX7_oneOf) := goodIn_app (goodIn_of _ (by decide +kernel)) ggX6_mostOf_X7_oneOf
set_option maxRecDepth 20000 in
theorem ggX6_mostOf_X5_at : GoodIn wsX6_mostOf wsX5_at := goodIn_r _ [23] (by decide +kernel) (by decide +kernel)
set_option maxRecDepth 20000 in
theorem gX6_mostOf_X5_at : GoodIn wsX6_mostOf (va_wsS RX6 86 yX5_at wsX5_at) := goodIn_app (goodIn_of _ (by decide +kernel)) ggX6_mostOf_X5_at
set_option maxRecDepth 20000 in
theorem ggX6_mostOf_X7_otherOf : GoodIn wsX6_mostOf wsX7_otherOf := goodIn_r _ [28, 29, 20, 21, 22, 23, 36, 37, 38, 39, 40, 41, 42, 43, 44, 45, 46, 47, 48, 49, 50, 51] (by decide +kernel) (by decide +kernel)
set_option maxRecDepth 20000 in
theorem gX6_mostOf_X7_otherOf : GoodIn wsX6_mostOf (wsV RX6 119 RX7 yX7_otherOf wsX7_otherOf) := goodIn_app (goodIn_of _ (by decide +kernel)) ggX6_mostOf_X7_otherOf
theorem dX6_mostOf_0 : decode cX6_mostOf 0 = .ok (.aload_n 1, 1) := by decide +kernel
theorem dX6_mostOf_1 : decode cX6_mostOf 1 = .ok (.iload_n 2, 1) := by decide +kernel
theorem dX6_mostOf_2 : decode cX6_mostOf 2 = .ok (.invokevirtual 112, 3) := by decide +kernel
theorem dX6_mostOf_5 : decode cX6_mostOf 5 = .ok (.ifCond .ne 5, 3) := by decide +kernel
theorem dX6_mostOf_8 : decode cX6_mostOf 8 = .ok (.iconst 0, 1) := by decide +kernel
theorem dX6_mostOf_9 : decode cX6_mostOf 9 = .ok (.ireturn, 1) := by decide +kernel
theorem dX6_mostOf_10 : decode cX6_mostOf 10 = .ok (.aload_n 0, 1) := by decide +kernel
theorem dX6_mostOf_11 : decode cX6_mostOf 11 = .ok (.getfield 9, 3) := by decide +kernel
theorem dX6_mostOf_14 : decode cX6_mostOf 14 = .ok (.aload_n 1, 1) := by decide +kernel
theorem dX6_mostOf_15 : decode cX6_mostOf 15 = .ok (.iload_n 2, 1) := by decide +kernel
theorem dX6_mostOf_16 : decode cX6_mostOf 16 = .ok (.invokevirtual 116, 3) := by decide +kernel
theorem dX6_mostOf_19 : decode cX6_mostOf 19 = .ok (.invokestatic 86, 3) := by decide +kernel
theorem dX6_mostOf_22 : decode cX6_mostOf 22 = .ok (.istore_n 3, 1) := by decide +kernel
theorem dX6_mostOf_23 : decode cX6_mostOf 23 = .ok (.aload_n 0, 1) := by decide +kernel
theorem dX6_mostOf_24 : decode cX6_mostOf 24 = .ok (.getfield 9, 3) := by decide +kernel
theorem dX6_mostOf_27 : decode cX6_mostOf 27 = .ok (.aload_n 1, 1) := by decide +kernel
theorem dX6_mostOf_28 : decode cX6_mostOf 28 = .ok (.iload_n 2, 1) := by decide +kernel
theorem dX6_mostOf_29 : decode cX6_mostOf 29 = .ok (.invokevirtual 119, 3) := by decide +kernel
theorem dX6_mostOf_32 : decode cX6_mostOf 32 = .ok (.invokestatic 86, 3) := by decide +kernel
theorem dX6_mostOf_35 : decode cX6_mostOf 35 = .ok (.istore 4, 2) := by decide +kernel
theorem dX6_mostOf_37 : decode cX6_mostOf 37 = .ok (.aload_n 1, 1) := by decide +kernel
theorem dX6_mostOf_38 : decode cX6_mostOf 38 = .ok (.iload_n 2, 1) := by decide +kernel
theorem dX6_mostOf_39 : decode cX6_mostOf 39 = .ok (.invokevirtual 116, 3) := by decide +kernel
theorem dX6_mostOf_42 : decode cX6_mostOf 42 = .ok (.aload_n 1, 1) := by decide +kernel
theorem dX6_mostOf_43 : decode cX6_mostOf 43 = .ok (.iload_n 2, 1) := by decide +kernel
theorem dX6_mostOf_44 : decode cX6_mostOf 44 = .ok (.invokevirtual 119, 3) := by decide +kernel
theorem dX6_mostOf_47 : decode cX6_mostOf 47 = .ok (.if_icmp .ne 9, 3) := by decide +kernel
theorem dX6_mostOf_50 : decode cX6_mostOf 50 = .ok (.iload_n 3, 1) := by decide +kernel
theorem dX6_mostOf_51 : decode cX6_mostOf 51 = .ok (.iconst 2, 1) := by decide +kernel
theorem dX6_mostOf_52 : decode cX6_mostOf 52 = .ok (.idiv, 1) := by decide +kernel
theorem dX6_mostOf_53 : decode cX6_mostOf 53 = .ok (.goto 9, 3) := by decide +kernel
theorem dX6_mostOf_56 : decode cX6_mostOf 56 = .ok (.iload_n 3, 1) := by decide +kernel
theorem dX6_mostOf_57 : decode cX6_mostOf 57 = .ok (.iload 4, 2) := by decide +kernel
theorem dX6_mostOf_59 : decode cX6_mostOf 59 = .ok (.invokestatic 122, 3) := by decide +kernel
theorem dX6_mostOf_62 : decode cX6_mostOf 62 = .ok (.ireturn, 1) := by decide +kernel
theorem lkX6_mostOf_9 : Cond.fieldLink RX6 9 "LeftAtFive$Shops" "stock" "[I" ∈ wsX6_mostOf := by decide +kernel
theorem iwX6_mostOf_X6 : ∀ w ∈ wsX60, w ∈ wsX6_mostOf := by decide +kernel
set_option maxHeartbeats 2000000 in
set_option maxRecDepth 100000 in
theorem c_X6_mostOf (l : Launch) (D : va_G) (q : Nat → ClassId) (ad : Nat → Nat) (τ0 : Int32) (τ1 : Int64) (τ2 : Int32) (τ3 : Nat → Int32) (τ4 : Nat → Int32) (τ5 : Nat → Int32) (sd : Nat → Nat) (X : Nat → Nat → Int32) (S : Nat → Nat → Int32) (k : Nat) (hT : okT X S) (hk3 : k < 3) : xC l yX6_mostOf wsX6_mostOf ({ frames := 2, cells := 0, slots := 0, locals := 43 }) D (TY q) [w6 q ad τ0 τ1 τ2 τ3 τ4 τ5, wst q sd X] [.ref (ad 0), .ref (sd 0), .int (nI k)] (xQi D (TY q) (fun (r : Int32) (_ : Unit) => r = if (tn (S 15 0)) ≤ k then nI 0 else xmo τ3 (tn (S 16 k)) (tn (S 17 k))) (fun _ => [w6 q ad τ0 τ1 τ2 τ3 τ4 τ5, wst q sd X])) 0 0 := by
  refine x_enter (cc := cX6_mostOf) (maxL := 5) (ret := (some .int)) (by decide) rfl (Nat.le_of_ble_eq_true rfl) ?_
  intro p e s m below meth c A ls H locs hfix hr hlocks hinit hM hl
  obtain ⟨hx, hb, hml, hown, hts⟩ := id hfix
  have hl : lv_has ls 5 [(0, .ref (ad 0)), (1, .ref (sd 0)), (2, .int (nI k))] := hl
  refine lv_aload_n hx hb dX6_mostOf_0 rfl (lv_at hl 1 rfl) ?_
  refine lv_iload_n hx hb dX6_mostOf_1 rfl (lv_at hl 2 rfl) ?_
  refine x_calli (bc := [wst q sd X]) (br := [w6 q ad τ0 τ1 τ2 τ3 τ4 τ5]) hM [1] [0] rfl rfl rfl (by decide) (x_runV (As := [.int (nI k)]) (rest := []) hfix (c_X7_isRecipe l D q sd X S (nI k) ((k : Nat) : Int) hT (nI_toInt (n := k) (by omega))) (cwV 1 hts gX6_mostOf_X7_isRecipe rfl rfl rfl (by decide +kernel) ⟨Nat.le_of_ble_eq_true rfl, Nat.le_of_ble_eq_true rfl⟩) hM [1] rfl rfl 1 0 rfl rfl rfl rfl rfl hl.1 rfl (Nat.le_of_ble_eq_true rfl) dX6_mostOf_2 ⟨Nat.le_of_ble_eq_true rfl, Nat.le_of_ble_eq_true rfl⟩) (fun r u H locs hq hM => ?_)
  subst hq
  have hM : xM D (TY q) [w6 q ad τ0 τ1 τ2 τ3 τ4 τ5, wst q sd X] A s.heap s H locs := hM
  refine x_ifz_ne (P := 0 ≤ ((k : Nat) : Int) ∧ ((k : Nat) : Int) < (tn (S 15 0))) (tgt := 10) hx hb dX6_mostOf_5 (by decide) (fun c1 => ?_) (fun c1 => ?_)
  · refine lv_aload_n hx hb dX6_mostOf_10 rfl (lv_at hl 0 rfl) ?_
    refine x_get hx hb hts iwX6_mostOf_X6 hown hM 0 0 rfl rfl rfl 3 (by decide) (hts _ lkX6_mostOf_9) (fun _ h => h) rfl dX6_mostOf_11 ?_
    refine lv_aload_n hx hb dX6_mostOf_14 rfl (lv_at hl 1 rfl) ?_
    refine lv_iload_n hx hb dX6_mostOf_15 rfl (lv_at hl 2 rfl) ?_
    refine x_calli (bc := [wst q sd X]) (br := [w6 q ad τ0 τ1 τ2 τ3 τ4 τ5]) hM [1] [0] rfl rfl rfl (by decide) (x_runV (As := [.int (nI k)]) (rest := [.ref (ad 4)]) hfix (c_X7_oneOf l D q sd X S k hT (by omega)) (cwV 1 hts gX6_mostOf_X7_oneOf rfl rfl rfl (by decide +kernel) ⟨Nat.le_of_ble_eq_true rfl, Nat.le_of_ble_eq_true rfl⟩) hM [1] rfl rfl 1 0 rfl rfl rfl rfl rfl hl.1 rfl (Nat.le_of_ble_eq_true rfl) dX6_mostOf_16 ⟨Nat.le_of_ble_eq_true rfl, Nat.le_of_ble_eq_true rfl⟩) (fun r u H locs hq hM => ?_)
    subst hq
    have hM : xM D (TY q) [w6 q ad τ0 τ1 τ2 τ3 τ4 τ5, wst q sd X] A s.heap s H locs := hM
    refine x_calli (bc := [w6 q ad τ0 τ1 τ2 τ3 τ4 τ5]) (br := [wst q sd X]) hM [0] [1] rfl rfl rfl (by decide) (x_runS (As := [.ref (ad 4), .int (nI (tn (S 16 k)))]) (rest := []) hfix (c_X5_at l D q (w6 q ad τ0 τ1 τ2 τ3 τ4 τ5) 1 (ad 4) 5 τ3 (tn (S 16 k)) rfl (by decide) (Nat.lt_succ_of_le (okT_on5 hT (by omega)).2)) (va_cwS 2 hts gX6_mostOf_X5_at rfl rfl rfl (by decide +kernel) ⟨Nat.le_of_ble_eq_true rfl, Nat.le_of_ble_eq_true rfl⟩) hM [0] rfl rfl rfl hl.1 rfl (Nat.le_of_ble_eq_true rfl) dX6_mostOf_19 ⟨Nat.le_of_ble_eq_true rfl, Nat.le_of_ble_eq_true rfl⟩) (fun r u H locs hq hM => ?_)
    subst hq
    have hM : xM D (TY q) [wst q sd X, w6 q ad τ0 τ1 τ2 τ3 τ4 τ5] A s.heap s H locs := hM
    have hM : xM D (TY q) [w6 q ad τ0 τ1 τ2 τ3 τ4 τ5, wst q sd X] A s.heap s H locs := hM.sel [1, 0] rfl rfl
    refine lv_istore_n (lv' := [(3, .int (τ3 (tn (S 16 k)))), (0, .ref (ad 0)), (1, .ref (sd 0)), (2, .int (nI k))]) hx hb dX6_mostOf_22 rfl hl (by decide) rfl (fun ls hl => ?_)
    refine lv_aload_n hx hb dX6_mostOf_23 rfl (lv_at hl 1 rfl) ?_
    refine x_get hx hb hts iwX6_mostOf_X6 hown hM 0 0 rfl rfl rfl 3 (by decide) (hts _ lkX6_mostOf_9) (fun _ h => h) rfl dX6_mostOf_24 ?_
    refine lv_aload_n hx hb dX6_mostOf_27 rfl (lv_at hl 2 rfl) ?_
    refine lv_iload_n hx hb dX6_mostOf_28 rfl (lv_at hl 3 rfl) ?_
    refine x_calli (bc := [wst q sd X]) (br := [w6 q ad τ0 τ1 τ2 τ3 τ4 τ5]) hM [1] [0] rfl rfl rfl (by decide) (x_runV (As := [.int (nI k)]) (rest := [.ref (ad 4)]) hfix (c_X7_otherOf l D q sd X S k hT (by omega)) (cwV 1 hts gX6_mostOf_X7_otherOf rfl rfl rfl (by decide +kernel) ⟨Nat.le_of_ble_eq_true rfl, Nat.le_of_ble_eq_true rfl⟩) hM [1] rfl rfl 1 0 rfl rfl rfl rfl rfl hl.1 rfl (Nat.le_of_ble_eq_true rfl) dX6_mostOf_29 ⟨Nat.le_of_ble_eq_true rfl, Nat.le_of_ble_eq_true rfl⟩) (fun r u H locs hq hM => ?_)
    subst hq
    have hM : xM D (TY q) [w6 q ad τ0 τ1 τ2 τ3 τ4 τ5, wst q sd X] A s.heap s H locs := hM
    refine x_calli (bc := [w6 q ad τ0 τ1 τ2 τ3 τ4 τ5]) (br := [wst q sd X]) hM [0] [1] rfl rfl rfl (by decide) (x_runS (As := [.ref (ad 4), .int (nI (tn (S 17 k)))]) (rest := []) hfix (c_X5_at l D q (w6 q ad τ0 τ1 τ2 τ3 τ4 τ5) 1 (ad 4) 5 τ3 (tn (S 17 k)) rfl (by decide) (Nat.lt_succ_of_le (okT_ot5 hT (by omega)).2)) (va_cwS 2 hts gX6_mostOf_X5_at rfl rfl rfl (by decide +kernel) ⟨Nat.le_of_ble_eq_true rfl, Nat.le_of_ble_eq_true rfl⟩) hM [0] rfl rfl rfl hl.1 rfl (Nat.le_of_ble_eq_true rfl) dX6_mostOf_32 ⟨Nat.le_of_ble_eq_true rfl, Nat.le_of_ble_eq_true rfl⟩) (fun r u H locs hq hM => ?_)
    subst hq
    have hM : xM D (TY q) [wst q sd X, w6 q ad τ0 τ1 τ2 τ3 τ4 τ5] A s.heap s H locs := hM
    have hM : xM D (TY q) [w6 q ad τ0 τ1 τ2 τ3 τ4 τ5, wst q sd X] A s.heap s H locs := hM.sel [1, 0] rfl rfl
    refine lv_istore (lv' := [(4, .int (τ3 (tn (S 17 k)))), (3, .int (τ3 (tn (S 16 k)))), (0, .ref (ad 0)), (1, .ref (sd 0)), (2, .int (nI k))]) hx hb dX6_mostOf_35 hl (by decide) rfl (fun ls hl => ?_)
    refine lv_aload_n hx hb dX6_mostOf_37 rfl (lv_at hl 3 rfl) ?_
    refine lv_iload_n hx hb dX6_mostOf_38 rfl (lv_at hl 4 rfl) ?_
    refine x_calli (bc := [wst q sd X]) (br := [w6 q ad τ0 τ1 τ2 τ3 τ4 τ5]) hM [1] [0] rfl rfl rfl (by decide) (x_runV (As := [.int (nI k)]) (rest := []) hfix (c_X7_oneOf l D q sd X S k hT (by omega)) (cwV 1 hts gX6_mostOf_X7_oneOf rfl rfl rfl (by decide +kernel) ⟨Nat.le_of_ble_eq_true rfl, Nat.le_of_ble_eq_true rfl⟩) hM [1] rfl rfl 1 0 rfl rfl rfl rfl rfl hl.1 rfl (Nat.le_of_ble_eq_true rfl) dX6_mostOf_39 ⟨Nat.le_of_ble_eq_true rfl, Nat.le_of_ble_eq_true rfl⟩) (fun r u H locs hq hM => ?_)
    subst hq
    have hM : xM D (TY q) [w6 q ad τ0 τ1 τ2 τ3 τ4 τ5, wst q sd X] A s.heap s H locs := hM
    refine lv_aload_n hx hb dX6_mostOf_42 rfl (lv_at hl 3 rfl) ?_
    refine lv_iload_n hx hb dX6_mostOf_43 rfl (lv_at hl 4 rfl) ?_
    refine x_calli (bc := [wst q sd X]) (br := [w6 q ad τ0 τ1 τ2 τ3 τ4 τ5]) hM [1] [0] rfl rfl rfl (by decide) (x_runV (As := [.int (nI k)]) (rest := [.int (nI (tn (S 16 k)))]) hfix (c_X7_otherOf l D q sd X S k hT (by omega)) (cwV 1 hts gX6_mostOf_X7_otherOf rfl rfl rfl (by decide +kernel) ⟨Nat.le_of_ble_eq_true rfl, Nat.le_of_ble_eq_true rfl⟩) hM [1] rfl rfl 1 0 rfl rfl rfl rfl rfl hl.1 rfl (Nat.le_of_ble_eq_true rfl) dX6_mostOf_44 ⟨Nat.le_of_ble_eq_true rfl, Nat.le_of_ble_eq_true rfl⟩) (fun r u H locs hq hM => ?_)
    subst hq
    have hM : xM D (TY q) [w6 q ad τ0 τ1 τ2 τ3 τ4 τ5, wst q sd X] A s.heap s H locs := hM
    have hi4 := (okT_on5 hT (g := k) (by omega)).2
    have hj4 := (okT_ot5 hT (g := k) (by omega)).2
    refine x_icmp_ne (x := tn (S 16 k)) (y := tn (S 17 k)) (tgt := 56) hx hb (by omega) (by omega) dX6_mostOf_47 (by decide) (fun c2 => ?_) (fun c2 => ?_)
    · refine lv_iload_n hx hb dX6_mostOf_56 rfl (lv_at hl 1 rfl) ?_
      refine lv_iload hx hb dX6_mostOf_57 (lv_at hl 0 rfl) ?_
      refine x_mmin (own := RX6) (index := 122) hx hb (by rw [hml]; exact hl.1.symm) hts hown (by simp only [List.forall_mem_cons]; exact ⟨by decide +kernel, by decide +kernel, by decide +kernel, by decide +kernel, fun _ h => absurd h List.not_mem_nil⟩) (Nat.le_of_ble_eq_true rfl) (Nat.le_of_ble_eq_true rfl) (Nat.zero_le _) (Nat.zero_le _) dX6_mostOf_59 ?_
      exact x_iret hx hb hr hlocks () hM (show (if (τ3 (tn (S 17 k))) < (τ3 (tn (S 16 k))) then (τ3 (tn (S 17 k))) else (τ3 (tn (S 16 k)))) = if (tn (S 15 0)) ≤ k then nI 0 else xmo τ3 (tn (S 16 k)) (tn (S 17 k)) from by (first | exact (if_pos (by omega)).symm | (rw [if_neg (c := (tn (S 15 0)) ≤ k) (by omega)]; first | exact xmoC_1 (by assumption) | exact xmoC_2 (by assumption)))) dX6_mostOf_62
    · refine lv_iload_n hx hb dX6_mostOf_50 rfl (lv_at hl 1 rfl) ?_
      refine lv_iconst (v := nI 2) hx hb dX6_mostOf_51 (by decide) ?_
      refine lv_idiv hx hb dX6_mostOf_52 (by decide) ?_
      refine lv_goto (tgt := 62) hx hb dX6_mostOf_53 (by decide) ?_
      exact x_iret hx hb hr hlocks () hM (show (τ3 (tn (S 16 k))) / (nI 2) = if (tn (S 15 0)) ≤ k then nI 0 else xmo τ3 (tn (S 16 k)) (tn (S 17 k)) from by (first | exact (if_pos (by omega)).symm | (rw [if_neg (c := (tn (S 15 0)) ≤ k) (by omega)]; first | exact xmoC_1 (by assumption) | exact xmoC_2 (by assumption)))) dX6_mostOf_62
  · refine lv_iconst (v := nI 0) hx hb dX6_mostOf_8 (by decide) ?_
    exact x_iret hx hb hr hlocks () hM (show nI 0 = if (tn (S 15 0)) ≤ k then nI 0 else xmo τ3 (tn (S 16 k)) (tn (S 17 k)) from by (first | exact (if_pos (by omega)).symm | (rw [if_neg (c := (tn (S 15 0)) ≤ k) (by omega)]; first | exact xmoC_1 (by assumption) | exact xmoC_2 (by assumption)))) dX6_mostOf_9
