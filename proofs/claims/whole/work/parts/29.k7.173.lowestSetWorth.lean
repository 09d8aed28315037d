set_option maxRecDepth 20000 in
theorem ggX6_lowestSetWorth_X6_worthOfSet : GoodIn wsX6_lowestSetWorth wsX6_worthOfSet := goodIn_r _ [5, 1, 6, 7, 8, 9, 10, 11, 12, 13, 14, 15, 16, 17, 18, 19, 20, 21, 22, 23, 24, 25, 26, 27, 28, 29, 30, 31, 32, 33, 34, 35, 36, 37, 38, 39, 40, 41, 42, 43, 44, 45, 46, 47, 48, 49, 50, 51, 52, 53, 54, 55, 56, 57, 58, 59, 60, 61] (by decide +kernel) (by decide +kernel)
set_option maxRecDepth 20000 in
theorem gX6_lowestSetWorth_X6_worthOfSet : GoodIn wsX6_lowestSetWorth (va_wsS RX6 131 yX6_worthOfSet wsX6_worthOfSet) := goodIn_app (goodIn_of _ (by decide +kernel)) ggX6_lowestSetWorth_X6_worthOfSet
theorem dX6_lowestSetWorth_0 : decode cX6_lowestSetWorth 0 = .ok (.iconst 0, 1) := by decide +kernel
theorem dX6_lowestSetWorth_1 : decode cX6_lowestSetWorth 1 = .ok (.istore_n 3, 1) := by decide +kernel
theorem dX6_lowestSetWorth_2 : decode cX6_lowestSetWorth 2 = .ok (.iload_n 3, 1) := by decide +kernel
theorem dX6_lowestSetWorth_3 : decode cX6_lowestSetWorth 3 = .ok (.iconst 1, 1) := by decide +kernel
theorem dX6_lowestSetWorth_4 : decode cX6_lowestSetWorth 4 = .ok (.aload_n 0, 1) := by decide +kernel
theorem dX6_lowestSetWorth_5 : decode cX6_lowestSetWorth 5 = .ok (.getfield 99, 3) := by decide +kernel
theorem dX6_lowestSetWorth_8 : decode cX6_lowestSetWorth 8 = .ok (.ishl, 1) := by decide +kernel
theorem dX6_lowestSetWorth_9 : decode cX6_lowestSetWorth 9 = .ok (.if_icmp .ge 21, 3) := by decide +kernel
theorem dX6_lowestSetWorth_12 : decode cX6_lowestSetWorth 12 = .ok (.aload_n 0, 1) := by decide +kernel
theorem dX6_lowestSetWorth_13 : decode cX6_lowestSetWorth 13 = .ok (.aload_n 1, 1) := by decide +kernel
theorem dX6_lowestSetWorth_14 : decode cX6_lowestSetWorth 14 = .ok (.iload_n 3, 1) := by decide +kernel
theorem dX6_lowestSetWorth_15 : decode cX6_lowestSetWorth 15 = .ok (.invokestatic 131, 3) := by decide +kernel
theorem dX6_lowestSetWorth_18 : decode cX6_lowestSetWorth 18 = .ok (.iload_n 2, 1) := by decide +kernel
theorem dX6_lowestSetWorth_19 : decode cX6_lowestSetWorth 19 = .ok (.if_icmp .ne 5, 3) := by decide +kernel
theorem dX6_lowestSetWorth_22 : decode cX6_lowestSetWorth 22 = .ok (.iload_n 3, 1) := by decide +kernel
theorem dX6_lowestSetWorth_23 : decode cX6_lowestSetWorth 23 = .ok (.ireturn, 1) := by decide +kernel
theorem dX6_lowestSetWorth_24 : decode cX6_lowestSetWorth 24 = .ok (.iinc 3 1, 3) := by decide +kernel
theorem dX6_lowestSetWorth_27 : decode cX6_lowestSetWorth 27 = .ok (.goto (-25), 3) := by decide +kernel
theorem dX6_lowestSetWorth_30 : decode cX6_lowestSetWorth 30 = .ok (.bipush (-4), 2) := by decide +kernel
theorem dX6_lowestSetWorth_32 : decode cX6_lowestSetWorth 32 = .ok (.ireturn, 1) := by decide +kernel
theorem lkX6_lowestSetWorth_99 : Cond.fieldLink RX6 99 "LeftAtFive$Street" "houses" "I" ∈ wsX6_lowestSetWorth := by decide +kernel
theorem iwX6_lowestSetWorth_X7 : ∀ w ∈ wsX70, w ∈ wsX6_lowestSetWorth := by decide +kernel
set_option maxHeartbeats 2000000 in
set_option maxRecDepth 100000 in
theorem c_X6_lowestSetWorth (l : Launch) (D : va_G) (q : Nat → ClassId) (sd : Nat → Nat) (X : Nat → Nat → Int32) (kd : Nat → Nat) (K : Nat → Int32) (S : Nat → Nat → Int32) (v : Nat) (hT : okT X S) (hv9 : v ≤ 9999) : xC l yX6_lowestSetWorth wsX6_lowestSetWorth ({ frames := 5, cells := 0, slots := 0, locals := 114 }) D (TY q) [wst q sd X, wk q kd K] [.ref (sd 0), .ref (kd 0), .int (nI v)] (xQi D (TY q) (fun (r : Int32) (_ : Unit) => r = (xsv (fun z => xsw (fun y9 => kW (S 3) (S 4) (tn (S 2 0)) K y9) z (tn (S 5 0))) v (2 ^ (tn (S 5 0)))).2) (fun _ => [wst q sd X, wk q kd K])) 0 0 := by
  refine x_enter (cc := cX6_lowestSetWorth) (maxL := 4) (ret := (some .int)) (by decide) rfl (Nat.le_of_ble_eq_true rfl) ?_
  intro p e s m below meth c A ls H locs hfix hr hlocks hinit hM hl
  obtain ⟨hx, hb, hml, hown, hts⟩ := id hfix
  have hl : lv_has ls 4 [(0, .ref (sd 0)), (1, .ref (kd 0)), (2, .int (nI v))] := hl
  have hTb1 := okT_1b hT
  have h32 := x_pow5 hTb1
  refine lv_iconst (v := nI 0) hx hb dX6_lowestSetWorth_0 (by decide) ?_
  refine lv_istore_n (lv' := [(3, .int (nI 0)), (0, .ref (sd 0)), (1, .ref (kd 0)), (2, .int (nI v))]) hx hb dX6_lowestSetWorth_1 rfl hl (by decide) rfl (fun ls hl => ?_)
  refine x_loop (ι := Nat) (fun set => [(0, .ref (sd 0)), (1, .ref (kd 0)), (2, .int (nI v)), (3, .int (nI set))]) (fun set => [wst q sd X, wk q kd K]) (fun set => set ≤ 2 ^ (tn (S 5 0)) ∧ (xsv (fun z => xsw (fun y9 => kW (S 3) (S 4) (tn (S 2 0)) K y9) z (tn (S 5 0))) v set) = (0, -4)) (fun set => 2 ^ (tn (S 5 0)) - set) 0 (⟨Nat.zero_le _, rfl⟩) hM (lv_sub hl [1, 2, 3, 0] rfl) ?_
  intro set hI2 ih1 H locs hM ls hl
  have hM : xM D (TY q) [wst q sd X, wk q kd K] A s.heap s H locs := hM
  have hl : lv_has ls 4 [(0, .ref (sd 0)), (1, .ref (kd 0)), (2, .int (nI v)), (3, .int (nI set))] := hl
  have hI2 : set ≤ 2 ^ (tn (S 5 0)) ∧ (xsv (fun z => xsw (fun y9 => kW (S 3) (S 4) (tn (S 2 0)) K y9) z (tn (S 5 0))) v set) = (0, -4) := hI2
  obtain ⟨hI2_0, hI2_1⟩ := id hI2
  have hs9 := hI2_0
  have hx9 := hI2_1
  try dsimp only
  refine lv_iload_n hx hb dX6_lowestSetWorth_2 rfl (lv_at hl 3 rfl) ?_
  refine lv_iconst (v := nI 1) hx hb dX6_lowestSetWorth_3 (by decide) ?_
  refine lv_aload_n hx hb dX6_lowestSetWorth_4 rfl (lv_at hl 0 rfl) ?_
  refine x_get hx hb hts iwX6_lowestSetWorth_X7 hown hM 0 0 rfl rfl rfl 1 (by decide) (hts _ lkX6_lowestSetWorth_99) (fun _ h => h) rfl dX6_lowestSetWorth_5 ?_
  refine x_cast (y := nI (tn (S 5 0))) (okT_1 hT) ?_
  refine lv_ishl hx hb dX6_lowestSetWorth_8 ?_
  refine x_cast (y := nI (2 ^ (tn (S 5 0)))) (x_shl1 hTb1) ?_
  refine x_icmp_ge (x := set) (y := 2 ^ (tn (S 5 0))) (tgt := 30) hx hb (by omega) (by omega) dX6_lowestSetWorth_9 (by decide) (fun c3 => ?_) (fun c3 => ?_)
  · refine lv_bipush (v := (-4)) hx hb dX6_lowestSetWorth_30 (by decide) ?_
    exact x_iret hx hb hr hlocks () hM (show (-4) = (xsv (fun z => xsw (fun y9 => kW (S 3) (S 4) (tn (S 2 0)) K y9) z (tn (S 5 0))) v (2 ^ (tn (S 5 0)))).2 from by (first | exact (xsv_at hx9 (by assumption) (by omega)).symm | (rw [show 2 ^ (tn (S 5 0)) = set by omega, hx9]))) dX6_lowestSetWorth_32
  · refine lv_aload_n hx hb dX6_lowestSetWorth_12 rfl (lv_at hl 0 rfl) ?_
    refine lv_aload_n hx hb dX6_lowestSetWorth_13 rfl (lv_at hl 1 rfl) ?_
    refine lv_iload_n hx hb dX6_lowestSetWorth_14 rfl (lv_at hl 3 rfl) ?_
    refine x_calli (bc := [wst q sd X, wk q kd K]) (br := []) hM [0, 1] [] rfl rfl rfl (by decide) (x_runS (As := [.ref (sd 0), .ref (kd 0), .int (nI set)]) (rest := []) hfix (c_X6_worthOfSet l D q sd X kd K S set hT (by omega)) (va_cwS 3 hts gX6_lowestSetWorth_X6_worthOfSet rfl rfl rfl (by decide +kernel) ⟨Nat.le_of_ble_eq_true rfl, Nat.le_of_ble_eq_true rfl⟩) hM [0, 1] rfl rfl rfl hl.1 rfl (Nat.le_of_ble_eq_true rfl) dX6_lowestSetWorth_15 ⟨Nat.le_of_ble_eq_true rfl, Nat.le_of_ble_eq_true rfl⟩) (fun r u H locs hq hM => ?_)
    subst hq
    have hM : xM D (TY q) [wst q sd X, wk q kd K] A s.heap s H locs := hM
    refine lv_iload_n hx hb dX6_lowestSetWorth_18 rfl (lv_at hl 2 rfl) ?_
    refine lv_icmp_ne (tgt := 24) hx hb dX6_lowestSetWorth_19 (by decide) (fun c4 => ?_) (fun c4 => ?_)
    · refine lv_iinc (v := nI (set + 1)) (lv' := [(3, .int (nI (set + 1))), (0, .ref (sd 0)), (1, .ref (kd 0)), (2, .int (nI v))]) hx hb dX6_lowestSetWorth_24 hl (k := 3) rfl (x_inc _ 1) (by decide) rfl (fun ls hl => ?_)
      refine lv_goto (tgt := 2) hx hb dX6_lowestSetWorth_27 (by decide) ?_
      have hl : lv_has ls 4 [(0, .ref (sd 0)), (1, .ref (kd 0)), (2, .int (nI v)), (3, .int (nI (set + 1)))] := lv_sub hl [1, 2, 3, 0] rfl
      exact ih1 (set + 1) (show 2 ^ (tn (S 5 0)) - (set + 1) < 2 ^ (tn (S 5 0)) - set from by omega) (show (set + 1) ≤ 2 ^ (tn (S 5 0)) ∧ (xsv (fun z => xsw (fun y9 => kW (S 3) (S 4) (tn (S 2 0)) K y9) z (tn (S 5 0))) v (set + 1)) = (0, -4) from ⟨by omega, xsv_0 hx9 (by assumption)⟩) _ _ hM _ hl
    · refine lv_iload_n hx hb dX6_lowestSetWorth_22 rfl (lv_at hl 3 rfl) ?_
      exact x_iret hx hb hr hlocks () hM (show nI set = (xsv (fun z => xsw (fun y9 => kW (S 3) (S 4) (tn (S 2 0)) K y9) z (tn (S 5 0))) v (2 ^ (tn (S 5 0)))).2 from by (first | exact (xsv_at hx9 (by assumption) (by omega)).symm | (rw [show 2 ^ (tn (S 5 0)) = set by omega, hx9]))) dX6_lowestSetWorth_23
