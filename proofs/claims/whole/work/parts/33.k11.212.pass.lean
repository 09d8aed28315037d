set_option maxRecDepth 20000 in
theorem ggX8_pass_X8_within : GoodIn wsX8_pass wsX8_within := goodIn_r _ [9] (by decide +kernel) (by decide +kernel)
set_option maxRecDepth 20000 in
theorem gX8_pass_X8_within : GoodIn wsX8_pass (va_wsS RX8 91 yX8_within wsX8_within) := goodIn_app (goodIn_of _ (by decide +kernel)) ggX8_pass_X8_within
set_option maxRecDepth 20000 in
theorem ggX8_pass_X4_push : GoodIn wsX8_pass wsX4_push := goodIn_r _ [14, 15, 16, 17, 18, 19, 13, 20, 21, 22, 23, 24, 25, 26, 27, 28, 29, 30, 31, 32, 33, 34, 35, 36, 37, 38, 39, 40, 41, 42, 43, 134, 135, 128, 129, 130, 131, 132, 133] (by decide +kernel) (by decide +kernel)
set_option maxRecDepth 20000 in
theorem gX8_pass_X4_push : GoodIn wsX8_pass (wsV RX8 141 RX4 yX4_push wsX4_push) := goodIn_app (goodIn_of _ (by decide +kernel)) ggX8_pass_X4_push
set_option maxRecDepth 20000 in
theorem ggX8_pass_X1_passUntil : GoodIn wsX8_pass wsX1_passUntil := goodIn_r _ [47, 26, 48, 49, 50, 24, 51, 52, 53, 54, 55, 27, 56, 57, 58, 59, 31, 60, 61, 34, 62, 63, 64, 65, 66, 28, 67, 68, 69, 70, 71, 72, 73, 74, 75, 76, 77, 78, 79, 80, 81, 82, 83, 84, 85, 86, 87, 88, 89, 90, 91, 92, 93, 94, 95, 96, 97, 98, 99, 100, 101, 102, 103, 104, 105, 106, 107, 108, 109, 110, 111, 112, 29, 30, 113, 114, 115, 116, 117, 128, 129, 130, 131, 132, 133, 136, 137, 138, 139, 140, 141, 142, 143, 144, 145, 146, 147, 148, 149, 150, 151, 152, 153, 154] (by decide +kernel) (by decide +kernel)
set_option maxRecDepth 20000 in
theorem gX8_pass_X1_passUntil : GoodIn wsX8_pass (wsV RX8 145 RX1 yX1_passUntil wsX1_passUntil) := goodIn_app (goodIn_of _ (by decide +kernel)) ggX8_pass_X1_passUntil
theorem dX8_pass_0 : decode cX8_pass 0 = .ok (.iload_n 1, 1) := by decide +kernel
theorem dX8_pass_1 : decode cX8_pass 1 = .ok (.iconst 1, 1) := by decide +kernel
theorem dX8_pass_2 : decode cX8_pass 2 = .ok (.bipush 60, 2) := by decide +kernel
theorem dX8_pass_4 : decode cX8_pass 4 = .ok (.invokestatic 91, 3) := by decide +kernel
theorem dX8_pass_7 : decode cX8_pass 7 = .ok (.ifCond .ne 5, 3) := by decide +kernel
theorem dX8_pass_10 : decode cX8_pass 10 = .ok (.iconst (-1), 1) := by decide +kernel
theorem dX8_pass_11 : decode cX8_pass 11 = .ok (.ireturn, 1) := by decide +kernel
theorem dX8_pass_12 : decode cX8_pass 12 = .ok (.aload_n 0, 1) := by decide +kernel
theorem dX8_pass_13 : decode cX8_pass 13 = .ok (.getfield 39, 3) := by decide +kernel
theorem dX8_pass_16 : decode cX8_pass 16 = .ok (.getfield 138, 3) := by decide +kernel
theorem dX8_pass_19 : decode cX8_pass 19 = .ok (.iload_n 1, 1) := by decide +kernel
theorem dX8_pass_20 : decode cX8_pass 20 = .ok (.iadd, 1) := by decide +kernel
theorem dX8_pass_21 : decode cX8_pass 21 = .ok (.bipush 60, 2) := by decide +kernel
theorem dX8_pass_23 : decode cX8_pass 23 = .ok (.if_icmp .le 6, 3) := by decide +kernel
theorem dX8_pass_26 : decode cX8_pass 26 = .ok (.bipush (-2), 2) := by decide +kernel
theorem dX8_pass_28 : decode cX8_pass 28 = .ok (.ireturn, 1) := by decide +kernel
theorem dX8_pass_29 : decode cX8_pass 29 = .ok (.aload_n 0, 1) := by decide +kernel
theorem dX8_pass_30 : decode cX8_pass 30 = .ok (.getfield 48, 3) := by decide +kernel
theorem dX8_pass_33 : decode cX8_pass 33 = .ok (.aload_n 0, 1) := by decide +kernel
theorem dX8_pass_34 : decode cX8_pass 34 = .ok (.getfield 39, 3) := by decide +kernel
theorem dX8_pass_37 : decode cX8_pass 37 = .ok (.invokevirtual 141, 3) := by decide +kernel
theorem dX8_pass_40 : decode cX8_pass 40 = .ok (.aload_n 0, 1) := by decide +kernel
theorem dX8_pass_41 : decode cX8_pass 41 = .ok (.getfield 39, 3) := by decide +kernel
theorem dX8_pass_44 : decode cX8_pass 44 = .ok (.aload_n 0, 1) := by decide +kernel
theorem dX8_pass_45 : decode cX8_pass 45 = .ok (.getfield 39, 3) := by decide +kernel
theorem dX8_pass_48 : decode cX8_pass 48 = .ok (.getfield 138, 3) := by decide +kernel
theorem dX8_pass_51 : decode cX8_pass 51 = .ok (.iload_n 1, 1) := by decide +kernel
theorem dX8_pass_52 : decode cX8_pass 52 = .ok (.iadd, 1) := by decide +kernel
theorem dX8_pass_53 : decode cX8_pass 53 = .ok (.aload_n 0, 1) := by decide +kernel
theorem dX8_pass_54 : decode cX8_pass 54 = .ok (.getfield 19, 3) := by decide +kernel
theorem dX8_pass_57 : decode cX8_pass 57 = .ok (.aload_n 0, 1) := by decide +kernel
theorem dX8_pass_58 : decode cX8_pass 58 = .ok (.getfield 29, 3) := by decide +kernel
theorem dX8_pass_61 : decode cX8_pass 61 = .ok (.invokevirtual 145, 3) := by decide +kernel
theorem dX8_pass_64 : decode cX8_pass 64 = .ok (.aload_n 0, 1) := by decide +kernel
theorem dX8_pass_65 : decode cX8_pass 65 = .ok (.getfield 39, 3) := by decide +kernel
theorem dX8_pass_68 : decode cX8_pass 68 = .ok (.getfield 138, 3) := by decide +kernel
theorem dX8_pass_71 : decode cX8_pass 71 = .ok (.ireturn, 1) := by decide +kernel
theorem lkX8_pass_19 : Cond.fieldLink RX8 19 "LeftAtFive" "street" "LLeftAtFive$Street;" ∈ wsX8_pass := by decide +kernel
theorem lkX8_pass_29 : Cond.fieldLink RX8 29 "LeftAtFive" "meals" "LLeftAtFive$Meals;" ∈ wsX8_pass := by decide +kernel
theorem lkX8_pass_39 : Cond.fieldLink RX8 39 "LeftAtFive" "now" "LLeftAtFive$Kitchens;" ∈ wsX8_pass := by decide +kernel
theorem lkX8_pass_48 : Cond.fieldLink RX8 48 "LeftAtFive" "undone" "LLeftAtFive$Pile;" ∈ wsX8_pass := by decide +kernel
theorem lkX8_pass_138 : Cond.fieldLink RX8 138 "LeftAtFive$Kitchens" "minute" "I" ∈ wsX8_pass := by decide +kernel
theorem iwX8_pass_X1 : ∀ w ∈ wsX10, w ∈ wsX8_pass := by decide +kernel
theorem iwX8_pass_X8 : ∀ w ∈ wsX80, w ∈ wsX8_pass := by decide +kernel
set_option maxHeartbeats 2000000 in
set_option maxRecDepth 100000 in
theorem c_X8_pass (l : Launch) (D : va_G) (q : Nat → ClassId) (ad : Nat → Nat) (ω0 : Nat) (ω1 : Nat) (ω2 : Nat) (ω3 : Nat) (ω4 : Nat) (ω5 : Nat) (ω6 : Nat) (ω7 : Nat) (ω8 : Nat) (ω9 : Nat) (sd : Nat → Nat) (X : Nat → Nat → Int32) (nd : Nat → Nat) (N : Nat → Int32) (md : Nat → Nat) (μ0 : Nat → Int32) (μ1 : Nat → Int32) (μ2 : Int32) (ud : Nat → Nat) (ua : Nat → Nat → Nat) (U : Nat → Nat → Int32) (S : Nat → Nat → Int32) (uh : Nat) (n : Nat) (hT : okT X S) (huh : uh ≤ 8) (hK : okK N) (hMl : okM μ0 μ1 (S 11) (tn (S 8 0)) (-4)) (hn9 : 1 ≤ n ∧ n ≤ 60) (hn6 : tn (N 25) + n ≤ 60) : xC l yX8_pass wsX8_pass ({ frames := 5, cells := 0, slots := 0, locals := 117 }) D (TY q) [w8 q ad ω0 (sd 0) ω2 (md 0) ω4 (nd 0) (ud 0) ω7 ω8 ω9, wst q sd X, wk q nd N, w3 q md μ0 μ1 μ2, wp q ud ua 8 (nI uh), wpl q ua U 8] [.ref (ad 0), .int (nI n)] (xQi D (TY q) (fun (r : Int32) (_ : Unit) => r = nI (tn (N 25) + n)) (fun _ => [w8 q ad ω0 (sd 0) ω2 (md 0) ω4 (nd 0) (ud 0) ω7 ω8 ω9, wst q sd X, wk q nd (kGoN (S 4) (tn (S 2 0)) (tn (S 5 0)) (S 9) (S 10) (S 11) (tn (S 8 0)) (-4) (N, -4, nI 0) n).1, w3 q md μ0 μ1 μ2, wp q ud (xpA 8 uh ua) 8 (nI (xpH 8 uh)), wpl q (xpA 8 uh ua) (xpK 8 uh U N) 8])) 0 0 := by
  refine x_enter (cc := cX8_pass) (maxL := 2) (ret := (some .int)) (by decide) rfl (Nat.le_of_ble_eq_true rfl) ?_
  intro p e s m below meth c A ls H locs hfix hr hlocks hinit hM hl
  obtain ⟨hx, hb, hml, hown, hts⟩ := id hfix
  have hl : lv_has ls 2 [(0, .ref (ad 0)), (1, .int (nI n))] := hl
  have hTb0 := okT_0b hT
  have hTb1 := okT_1b hT
  have hTb2 := okT_2b hT
  have hTb3 := okT_3b hT
  have hTb4 := okT_4b hT
  have hK25 := hK.1.2
  have hK26 := hK.2.1.2
  refine lv_iload_n hx hb dX8_pass_0 rfl (lv_at hl 1 rfl) ?_
  refine lv_iconst (v := nI 1) hx hb dX8_pass_1 (by decide) ?_
  refine lv_bipush (v := nI 60) hx hb dX8_pass_2 (by decide) ?_
  refine x_calli (bc := []) (br := [w8 q ad ω0 (sd 0) ω2 (md 0) ω4 (nd 0) (ud 0) ω7 ω8 ω9, wst q sd X, wk q nd N, w3 q md μ0 μ1 μ2, wp q ud ua 8 (nI uh), wpl q ua U 8]) hM [] [0, 1, 2, 3, 4, 5] rfl rfl rfl (by decide) (x_runS (As := [.int (nI n), .int (nI 1), .int (nI 60)]) (rest := []) hfix (c_X8_within l D q (nI n) (nI 1) (nI 60) ((n : Nat) : Int) (1 : Int) (60 : Int) (nI_toInt (n := n) (by omega)) (nI_toInt (n := 1) (by decide)) (nI_toInt (n := 60) (by decide))) (va_cwS 3 hts gX8_pass_X8_within rfl rfl rfl (by decide +kernel) ⟨Nat.le_of_ble_eq_true rfl, Nat.le_of_ble_eq_true rfl⟩) hM [] rfl rfl rfl hl.1 rfl (Nat.le_of_ble_eq_true rfl) dX8_pass_4 ⟨Nat.le_of_ble_eq_true rfl, Nat.le_of_ble_eq_true rfl⟩) (fun r u H locs hq hM => ?_)
  subst hq
  have hM : xM D (TY q) [w8 q ad ω0 (sd 0) ω2 (md 0) ω4 (nd 0) (ud 0) ω7 ω8 ω9, wst q sd X, wk q nd N, w3 q md μ0 μ1 μ2, wp q ud ua 8 (nI uh), wpl q ua U 8] A s.heap s H locs := hM
  refine x_ifz_ne (P := (1 : Int) ≤ ((n : Nat) : Int) ∧ ((n : Nat) : Int) ≤ (60 : Int)) (tgt := 12) hx hb dX8_pass_7 (by decide) (fun c1 => ?_) (fun c1 => ?_)
  · refine lv_aload_n hx hb dX8_pass_12 rfl (lv_at hl 0 rfl) ?_
    refine x_get hx hb hts iwX8_pass_X8 hown hM 0 0 rfl rfl rfl 5 (by decide) (hts _ lkX8_pass_39) (fun _ h => h) rfl dX8_pass_13 ?_
    refine x_get hx hb hts iwX8_pass_X1 hown hM 2 0 rfl rfl rfl 0 (by decide) (hts _ lkX8_pass_138) (fun _ h => h) rfl dX8_pass_16 ?_
    refine x_cast (y := nI (tn (N 25))) hK.1.1 ?_
    refine lv_iload_n hx hb dX8_pass_19 rfl (lv_at hl 1 rfl) ?_
    refine x_iadd (x := tn (N 25)) (y := n) hx hb dX8_pass_20 ?_
    refine lv_bipush (v := nI 60) hx hb dX8_pass_21 (by decide) ?_
    refine x_icmp_le (x := tn (N 25) + n) (y := 60) (tgt := 29) hx hb (by omega) (by omega) dX8_pass_23 (by decide) (fun c2 => ?_) (fun c2 => ?_)
    · refine lv_aload_n hx hb dX8_pass_29 rfl (lv_at hl 0 rfl) ?_
      refine x_get hx hb hts iwX8_pass_X8 hown hM 0 0 rfl rfl rfl 6 (by decide) (hts _ lkX8_pass_48) (fun _ h => h) rfl dX8_pass_30 ?_
      refine lv_aload_n hx hb dX8_pass_33 rfl (lv_at hl 0 rfl) ?_
      refine x_get hx hb hts iwX8_pass_X8 hown hM 0 0 rfl rfl rfl 5 (by decide) (hts _ lkX8_pass_39) (fun _ h => h) rfl dX8_pass_34 ?_
      refine x_callv (bc := [wp q ud ua 8 (nI uh), wk q nd N, wpl q ua U 8]) (br := [w8 q ad ω0 (sd 0) ω2 (md 0) ω4 (nd 0) (ud 0) ω7 ω8 ω9, wst q sd X, w3 q md μ0 μ1 μ2]) hM [4, 2, 5] [0, 1, 3] rfl rfl rfl (by decide) (x_runV (As := [.ref (nd 0)]) (rest := []) hfix (c_X4_push l D q ud ua nd N U 8 uh (by omega) (by omega)) (cwV 1 hts gX8_pass_X4_push rfl rfl rfl (by decide +kernel) ⟨Nat.le_of_ble_eq_true rfl, Nat.le_of_ble_eq_true rfl⟩) hM [4, 2, 5] rfl rfl 4 0 rfl rfl rfl rfl rfl hl.1 rfl (Nat.le_of_ble_eq_true rfl) dX8_pass_37 ⟨Nat.le_of_ble_eq_true rfl, Nat.le_of_ble_eq_true rfl⟩) (fun u H locs hq hM => ?_)
      have hM : xM D (TY q) [w8 q ad ω0 (sd 0) ω2 (md 0) ω4 (nd 0) (ud 0) ω7 ω8 ω9, wst q sd X, w3 q md μ0 μ1 μ2, wp q ud (xpA 8 uh ua) 8 (nI (xpH 8 uh)), wk q nd N, wpl q (xpA 8 uh ua) (xpK 8 uh U N) 8] A s.heap s H locs := hM
      have hM : xM D (TY q) [w8 q ad ω0 (sd 0) ω2 (md 0) ω4 (nd 0) (ud 0) ω7 ω8 ω9, wst q sd X, wk q nd N, w3 q md μ0 μ1 μ2, wp q ud (xpA 8 uh ua) 8 (nI (xpH 8 uh)), wpl q (xpA 8 uh ua) (xpK 8 uh U N) 8] A s.heap s H locs := hM.sel [0, 1, 4, 2, 3, 5] rfl rfl
      refine lv_aload_n hx hb dX8_pass_40 rfl (lv_at hl 0 rfl) ?_
      refine x_get hx hb hts iwX8_pass_X8 hown hM 0 0 rfl rfl rfl 5 (by decide) (hts _ lkX8_pass_39) (fun _ h => h) rfl dX8_pass_41 ?_
      refine lv_aload_n hx hb dX8_pass_44 rfl (lv_at hl 0 rfl) ?_
      refine x_get hx hb hts iwX8_pass_X8 hown hM 0 0 rfl rfl rfl 5 (by decide) (hts _ lkX8_pass_39) (fun _ h => h) rfl dX8_pass_45 ?_
      refine x_get hx hb hts iwX8_pass_X1 hown hM 2 0 rfl rfl rfl 0 (by decide) (hts _ lkX8_pass_138) (fun _ h => h) rfl dX8_pass_48 ?_
      refine x_cast (y := nI (tn (N 25))) hK.1.1 ?_
      refine lv_iload_n hx hb dX8_pass_51 rfl (lv_at hl 1 rfl) ?_
      refine x_iadd (x := tn (N 25)) (y := n) hx hb dX8_pass_52 ?_
      refine lv_aload_n hx hb dX8_pass_53 rfl (lv_at hl 0 rfl) ?_
      refine x_get hx hb hts iwX8_pass_X8 hown hM 0 0 rfl rfl rfl 1 (by decide) (hts _ lkX8_pass_19) (fun _ h => h) rfl dX8_pass_54 ?_
      refine lv_aload_n hx hb dX8_pass_57 rfl (lv_at hl 0 rfl) ?_
      refine x_get hx hb hts iwX8_pass_X8 hown hM 0 0 rfl rfl rfl 3 (by decide) (hts _ lkX8_pass_29) (fun _ h => h) rfl dX8_pass_58 ?_
      refine x_callv (bc := [wk q nd N, wst q sd X, w3 q md μ0 μ1 μ2]) (br := [w8 q ad ω0 (sd 0) ω2 (md 0) ω4 (nd 0) (ud 0) ω7 ω8 ω9, wp q ud (xpA 8 uh ua) 8 (nI (xpH 8 uh)), wpl q (xpA 8 uh ua) (xpK 8 uh U N) 8]) hM [2, 1, 3] [0, 4, 5] rfl rfl rfl (by decide) (x_runV (As := [.int (nI (tn (N 25) + n)), .ref (sd 0), .ref (md 0)]) (rest := []) hfix (c_X1_passUntil l D q nd N sd X md μ0 μ1 μ2 S (-4) (tn (N 25) + n) hT hMl hK (by omega)) (cwV 3 hts gX8_pass_X1_passUntil rfl rfl rfl (by decide +kernel) ⟨Nat.le_of_ble_eq_true rfl, Nat.le_of_ble_eq_true rfl⟩) hM [2, 1, 3] rfl rfl 2 0 rfl rfl rfl rfl rfl hl.1 rfl (Nat.le_of_ble_eq_true rfl) dX8_pass_61 ⟨Nat.le_of_ble_eq_true rfl, Nat.le_of_ble_eq_true rfl⟩) (fun u H locs hq hM => ?_)
      have hM : xM D (TY q) [w8 q ad ω0 (sd 0) ω2 (md 0) ω4 (nd 0) (ud 0) ω7 ω8 ω9, wp q ud (xpA 8 uh ua) 8 (nI (xpH 8 uh)), wpl q (xpA 8 uh ua) (xpK 8 uh U N) 8, wk q nd (kGoN (S 4) (tn (S 2 0)) (tn (S 5 0)) (S 9) (S 10) (S 11) (tn (S 8 0)) (-4) (N, -4, nI 0) ((tn (N 25) + n) - tn (N 25))).1, wst q sd X, w3 q md μ0 μ1 μ2] A s.heap s H locs := hM
      have hM : xM D (TY q) [w8 q ad ω0 (sd 0) ω2 (md 0) ω4 (nd 0) (ud 0) ω7 ω8 ω9, wst q sd X, wk q nd (kGoN (S 4) (tn (S 2 0)) (tn (S 5 0)) (S 9) (S 10) (S 11) (tn (S 8 0)) (-4) (N, -4, nI 0) ((tn (N 25) + n) - tn (N 25))).1, w3 q md μ0 μ1 μ2, wp q ud (xpA 8 uh ua) 8 (nI (xpH 8 uh)), wpl q (xpA 8 uh ua) (xpK 8 uh U N) 8] A s.heap s H locs := hM.sel [0, 4, 3, 5, 1, 2] rfl rfl
      have e3 : wk q nd (kGoN (S 4) (tn (S 2 0)) (tn (S 5 0)) (S 9) (S 10) (S 11) (tn (S 8 0)) (-4) (N, -4, nI 0) ((tn (N 25) + n) - tn (N 25))).1 = wk q nd (kGoN (S 4) (tn (S 2 0)) (tn (S 5 0)) (S 9) (S 10) (S 11) (tn (S 8 0)) (-4) (N, -4, nI 0) n).1 := congrArg (wk q nd) (show ((kGoN (S 4) (tn (S 2 0)) (tn (S 5 0)) (S 9) (S 10) (S 11) (tn (S 8 0)) (-4) (N, -4, nI 0) ((tn (N 25) + n) - tn (N 25))).1 : Nat → Int32) = (kGoN (S 4) (tn (S 2 0)) (tn (S 5 0)) (S 9) (S 10) (S 11) (tn (S 8 0)) (-4) (N, -4, nI 0) n).1 from by rw [show tn (N 25) + n - tn (N 25) = n by omega])
      have hM : xM D (TY q) [w8 q ad ω0 (sd 0) ω2 (md 0) ω4 (nd 0) (ud 0) ω7 ω8 ω9, wst q sd X, wk q nd (kGoN (S 4) (tn (S 2 0)) (tn (S 5 0)) (S 9) (S 10) (S 11) (tn (S 8 0)) (-4) (N, -4, nI 0) n).1, w3 q md μ0 μ1 μ2, wp q ud (xpA 8 uh ua) 8 (nI (xpH 8 uh)), wpl q (xpA 8 uh ua) (xpK 8 uh U N) 8] A s.heap s H locs := Eq.mp (congrArg (fun z9 => xM D (TY q) [w8 q ad ω0 (sd 0) ω2 (md 0) ω4 (nd 0) (ud 0) ω7 ω8 ω9, wst q sd X, z9, w3 q md μ0 μ1 μ2, wp q ud (xpA 8 uh ua) 8 (nI (xpH 8 uh)), wpl q (xpA 8 uh ua) (xpK 8 uh U N) 8] A s.heap s H locs) e3) hM
      refine lv_aload_n hx hb dX8_pass_64 rfl (lv_at hl 0 rfl) ?_
      refine x_get hx hb hts iwX8_pass_X8 hown hM 0 0 rfl rfl rfl 5 (by decide) (hts _ lkX8_pass_39) (fun _ h => h) rfl dX8_pass_65 ?_
      refine x_get hx hb hts iwX8_pass_X1 hown hM 2 0 rfl rfl rfl 0 (by decide) (hts _ lkX8_pass_138) (fun _ h => h) rfl dX8_pass_68 ?_
      refine x_cast (y := nI (tn (N 25) + n)) (okK_goM (kd := S 4) (G := (tn (S 2 0))) (nH := (tn (S 5 0))) (z := (-4)) (w := -4) (hu := nI 0) (okT_E hT) hK n hn6).2 ?_
      exact x_iret hx hb hr hlocks () hM (show nI (tn (N 25) + n) = nI (tn (N 25) + n) from rfl) dX8_pass_71
    · exfalso; omega
  · exfalso; omega
