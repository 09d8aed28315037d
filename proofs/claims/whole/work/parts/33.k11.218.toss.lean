set_option maxRecDepth 20000 in
theorem ggX8_toss_X7_isHouse : GoodIn wsX8_toss wsX7_isHouse := goodIn_r _ [8, 9, 10, 11, 12, 85, 86, 87, 88, 89, 90, 91, 92, 93, 94, 95, 96, 97, 98, 99, 100] (by decide +kernel) (by decide +kernel)
set_option maxRecDepth 20000 in
theorem gX8_toss_X7_isHouse : GoodIn wsX8_toss (wsV RX8 102 RX7 yX7_isHouse wsX7_isHouse) := goodIn_app (goodIn_of _ (by decide +kernel)) ggX8_toss_X7_isHouse
set_option maxRecDepth 20000 in
theorem ggX8_toss_X7_isGood : GoodIn wsX8_toss wsX7_isGood := goodIn_r _ [16, 17, 10, 11, 12, 85, 86, 87, 88, 89, 90, 91, 92, 93, 94, 95, 96, 97, 98, 99, 100] (by decide +kernel) (by decide +kernel)
set_option maxRecDepth 20000 in
theorem gX8_toss_X7_isGood : GoodIn wsX8_toss (wsV RX8 106 RX7 yX7_isGood wsX7_isGood) := goodIn_app (goodIn_of _ (by decide +kernel)) ggX8_toss_X7_isGood
set_option maxRecDepth 20000 in
theorem ggX8_toss_X8_within : GoodIn wsX8_toss wsX8_within := goodIn_r _ [12] (by decide +kernel) (by decide +kernel)
set_option maxRecDepth 20000 in
theorem gX8_toss_X8_within : GoodIn wsX8_toss (va_wsS RX8 91 yX8_within wsX8_within) := goodIn_app (goodIn_of _ (by decide +kernel)) ggX8_toss_X8_within
set_option maxRecDepth 20000 in
theorem ggX8_toss_X1_canSpare : GoodIn wsX8_toss wsX1_canSpare := goodIn_r _ [23, 24, 25, 26, 27, 22, 28, 29, 30, 31, 7, 32, 33, 34, 35, 36, 101, 102, 103, 104, 105, 106] (by decide +kernel) (by decide +kernel)
set_option maxRecDepth 20000 in
theorem gX8_toss_X1_canSpare : GoodIn wsX8_toss (wsV RX8 157 RX1 yX1_canSpare wsX1_canSpare) := goodIn_app (goodIn_of _ (by decide +kernel)) ggX8_toss_X1_canSpare
set_option maxRecDepth 20000 in
theorem ggX8_toss_X4_push : GoodIn wsX8_toss wsX4_push := goodIn_r _ [41, 42, 43, 44, 45, 46, 40, 47, 48, 49, 50, 22, 51, 24, 52, 29, 53, 54, 55, 56, 57, 35, 58, 59, 60, 61, 62, 63, 64, 65, 66, 107, 108, 101, 102, 103, 104, 105, 106] (by decide +kernel) (by decide +kernel)
set_option maxRecDepth 20000 in
theorem gX8_toss_X4_push : GoodIn wsX8_toss (wsV RX8 141 RX4 yX4_push wsX4_push) := goodIn_app (goodIn_of _ (by decide +kernel)) ggX8_toss_X4_push
set_option maxRecDepth 20000 in
theorem ggX8_toss_X1_add : GoodIn wsX8_toss wsX1_add := goodIn_r _ [70, 29, 30, 31, 7, 32, 71, 72, 35, 73, 101, 102, 103, 104, 105, 106] (by decide +kernel) (by decide +kernel)
set_option maxRecDepth 20000 in
theorem gX8_toss_X1_add : GoodIn wsX8_toss (wsV RX8 160 RX1 yX1_add wsX1_add) := goodIn_app (goodIn_of _ (by decide +kernel)) ggX8_toss_X1_add
set_option maxRecDepth 20000 in
theorem ggX8_toss_X1_piecesOf : GoodIn wsX8_toss wsX1_piecesOf := goodIn_r _ [28, 29, 30, 31, 7, 32, 33, 34, 35, 36, 101, 102, 103, 104, 105, 106] (by decide +kernel) (by decide +kernel)
set_option maxRecDepth 20000 in
theorem gX8_toss_X1_piecesOf : GoodIn wsX8_toss (wsV RX8 109 RX1 yX1_piecesOf wsX1_piecesOf) := goodIn_app (goodIn_of _ (by decide +kernel)) ggX8_toss_X1_piecesOf
theorem dX8_toss_0 : decode cX8_toss 0 = .ok (.aload_n 0, 1) := by decide +kernel
theorem dX8_toss_1 : decode cX8_toss 1 = .ok (.getfield 19, 3) := by decide +kernel
theorem dX8_toss_4 : decode cX8_toss 4 = .ok (.iload_n 1, 1) := by decide +kernel
theorem dX8_toss_5 : decode cX8_toss 5 = .ok (.invokevirtual 102, 3) := by decide +kernel
theorem dX8_toss_8 : decode cX8_toss 8 = .ok (.ifCond .eq 24, 3) := by decide +kernel
theorem dX8_toss_11 : decode cX8_toss 11 = .ok (.aload_n 0, 1) := by decide +kernel
theorem dX8_toss_12 : decode cX8_toss 12 = .ok (.getfield 19, 3) := by decide +kernel
theorem dX8_toss_15 : decode cX8_toss 15 = .ok (.iload_n 2, 1) := by decide +kernel
theorem dX8_toss_16 : decode cX8_toss 16 = .ok (.invokevirtual 106, 3) := by decide +kernel
theorem dX8_toss_19 : decode cX8_toss 19 = .ok (.ifCond .eq 13, 3) := by decide +kernel
theorem dX8_toss_22 : decode cX8_toss 22 = .ok (.iload_n 3, 1) := by decide +kernel
theorem dX8_toss_23 : decode cX8_toss 23 = .ok (.iconst 1, 1) := by decide +kernel
theorem dX8_toss_24 : decode cX8_toss 24 = .ok (.bipush 40, 2) := by decide +kernel
theorem dX8_toss_26 : decode cX8_toss 26 = .ok (.invokestatic 91, 3) := by decide +kernel
theorem dX8_toss_29 : decode cX8_toss 29 = .ok (.ifCond .ne 5, 3) := by decide +kernel
theorem dX8_toss_32 : decode cX8_toss 32 = .ok (.iconst (-1), 1) := by decide +kernel
theorem dX8_toss_33 : decode cX8_toss 33 = .ok (.ireturn, 1) := by decide +kernel
theorem dX8_toss_34 : decode cX8_toss 34 = .ok (.aload_n 0, 1) := by decide +kernel
theorem dX8_toss_35 : decode cX8_toss 35 = .ok (.getfield 39, 3) := by decide +kernel
theorem dX8_toss_38 : decode cX8_toss 38 = .ok (.iload_n 1, 1) := by decide +kernel
theorem dX8_toss_39 : decode cX8_toss 39 = .ok (.iload_n 2, 1) := by decide +kernel
theorem dX8_toss_40 : decode cX8_toss 40 = .ok (.iload_n 3, 1) := by decide +kernel
theorem dX8_toss_41 : decode cX8_toss 41 = .ok (.invokevirtual 157, 3) := by decide +kernel
theorem dX8_toss_44 : decode cX8_toss 44 = .ok (.ifCond .ne 6, 3) := by decide +kernel
theorem dX8_toss_47 : decode cX8_toss 47 = .ok (.bipush (-2), 2) := by decide +kernel
theorem dX8_toss_49 : decode cX8_toss 49 = .ok (.ireturn, 1) := by decide +kernel
theorem dX8_toss_50 : decode cX8_toss 50 = .ok (.aload_n 0, 1) := by decide +kernel
theorem dX8_toss_51 : decode cX8_toss 51 = .ok (.getfield 48, 3) := by decide +kernel
theorem dX8_toss_54 : decode cX8_toss 54 = .ok (.aload_n 0, 1) := by decide +kernel
theorem dX8_toss_55 : decode cX8_toss 55 = .ok (.getfield 39, 3) := by decide +kernel
theorem dX8_toss_58 : decode cX8_toss 58 = .ok (.invokevirtual 141, 3) := by decide +kernel
theorem dX8_toss_61 : decode cX8_toss 61 = .ok (.aload_n 0, 1) := by decide +kernel
theorem dX8_toss_62 : decode cX8_toss 62 = .ok (.getfield 39, 3) := by decide +kernel
theorem dX8_toss_65 : decode cX8_toss 65 = .ok (.iload_n 1, 1) := by decide +kernel
theorem dX8_toss_66 : decode cX8_toss 66 = .ok (.iload_n 2, 1) := by decide +kernel
theorem dX8_toss_67 : decode cX8_toss 67 = .ok (.iload_n 3, 1) := by decide +kernel
theorem dX8_toss_68 : decode cX8_toss 68 = .ok (.ineg, 1) := by decide +kernel
theorem dX8_toss_69 : decode cX8_toss 69 = .ok (.invokevirtual 160, 3) := by decide +kernel
theorem dX8_toss_72 : decode cX8_toss 72 = .ok (.aload_n 0, 1) := by decide +kernel
theorem dX8_toss_73 : decode cX8_toss 73 = .ok (.getfield 39, 3) := by decide +kernel
theorem dX8_toss_76 : decode cX8_toss 76 = .ok (.iload_n 1, 1) := by decide +kernel
theorem dX8_toss_77 : decode cX8_toss 77 = .ok (.iload_n 2, 1) := by decide +kernel
theorem dX8_toss_78 : decode cX8_toss 78 = .ok (.invokevirtual 109, 3) := by decide +kernel
theorem dX8_toss_81 : decode cX8_toss 81 = .ok (.ireturn, 1) := by decide +kernel
theorem lkX8_toss_19 : Cond.fieldLink RX8 19 "LeftAtFive" "street" "LLeftAtFive$Street;" ∈ wsX8_toss := by decide +kernel
theorem lkX8_toss_39 : Cond.fieldLink RX8 39 "LeftAtFive" "now" "LLeftAtFive$Kitchens;" ∈ wsX8_toss := by decide +kernel
theorem lkX8_toss_48 : Cond.fieldLink RX8 48 "LeftAtFive" "undone" "LLeftAtFive$Pile;" ∈ wsX8_toss := by decide +kernel
theorem iwX8_toss_X8 : ∀ w ∈ wsX80, w ∈ wsX8_toss := by decide +kernel
set_option maxHeartbeats 2000000 in
set_option maxRecDepth 100000 in
theorem c_X8_toss (l : Launch) (D : va_G) (q : Nat → ClassId) (ad : Nat → Nat) (ω0 : Nat) (ω1 : Nat) (ω2 : Nat) (ω3 : Nat) (ω4 : Nat) (ω5 : Nat) (ω6 : Nat) (ω7 : Nat) (ω8 : Nat) (ω9 : Nat) (sd : Nat → Nat) (X : Nat → Nat → Int32) (nd : Nat → Nat) (N : Nat → Int32) (ud : Nat → Nat) (ua : Nat → Nat → Nat) (U : Nat → Nat → Int32) (S : Nat → Nat → Int32) (uh : Nat) (h : Nat) (g : Nat) (n : Nat) (hT : okT X S) (huh : uh ≤ 8) (hK : okK N) (hh0 : h < (tn (S 5 0))) (hg0 : g < (tn (S 2 0))) (hn9 : 1 ≤ n ∧ n ≤ 40) (hsp : tn (N 25) < 60 ∧ nI n ≤ N (5 * h + g)) : xC l yX8_toss wsX8_toss ({ frames := 4, cells := 0, slots := 0, locals := 103 }) D (TY q) [w8 q ad ω0 (sd 0) ω2 ω3 ω4 (nd 0) (ud 0) ω7 ω8 ω9, wst q sd X, wk q nd N, wp q ud ua 8 (nI uh), wpl q ua U 8] [.ref (ad 0), .int (nI h), .int (nI g), .int (nI n)] (xQi D (TY q) (fun (r : Int32) (_ : Unit) => r = kAdd N h g (-(nI n)) (5 * h + g)) (fun _ => [w8 q ad ω0 (sd 0) ω2 ω3 ω4 (nd 0) (ud 0) ω7 ω8 ω9, wst q sd X, wk q nd (kAdd N h g (-(nI n))), wp q ud (xpA 8 uh ua) 8 (nI (xpH 8 uh)), wpl q (xpA 8 uh ua) (xpK 8 uh U N) 8])) 0 0 := by
  refine x_enter (cc := cX8_toss) (maxL := 4) (ret := (some .int)) (by decide) rfl (Nat.le_of_ble_eq_true rfl) ?_
  intro p e s m below meth c A ls H locs hfix hr hlocks hinit hM hl
  obtain ⟨hx, hb, hml, hown, hts⟩ := id hfix
  have hl : lv_has ls 4 [(0, .ref (ad 0)), (1, .int (nI h)), (2, .int (nI g)), (3, .int (nI n))] := hl
  have hTb0 := okT_0b hT
  have hTb1 := okT_1b hT
  have hTb2 := okT_2b hT
  have hTb3 := okT_3b hT
  have hTb4 := okT_4b hT
  have hK25 := hK.1.2
  have hK26 := hK.2.1.2
  refine lv_aload_n hx hb dX8_toss_0 rfl (lv_at hl 0 rfl) ?_
  refine x_get hx hb hts iwX8_toss_X8 hown hM 0 0 rfl rfl rfl 1 (by decide) (hts _ lkX8_toss_19) (fun _ h => h) rfl dX8_toss_1 ?_
  refine lv_iload_n hx hb dX8_toss_4 rfl (lv_at hl 1 rfl) ?_
  refine x_calli (bc := [wst q sd X]) (br := [w8 q ad ω0 (sd 0) ω2 ω3 ω4 (nd 0) (ud 0) ω7 ω8 ω9, wk q nd N, wp q ud ua 8 (nI uh), wpl q ua U 8]) hM [1] [0, 2, 3, 4] rfl rfl rfl (by decide) (x_runV (As := [.int (nI h)]) (rest := []) hfix (c_X7_isHouse l D q sd X S (nI h) ((h : Nat) : Int) hT (nI_toInt (n := h) (by omega))) (cwV 1 hts gX8_toss_X7_isHouse rfl rfl rfl (by decide +kernel) ⟨Nat.le_of_ble_eq_true rfl, Nat.le_of_ble_eq_true rfl⟩) hM [1] rfl rfl 1 0 rfl rfl rfl rfl rfl hl.1 rfl (Nat.le_of_ble_eq_true rfl) dX8_toss_5 ⟨Nat.le_of_ble_eq_true rfl, Nat.le_of_ble_eq_true rfl⟩) (fun r u H locs hq hM => ?_)
  subst hq
  have hM : xM D (TY q) [w8 q ad ω0 (sd 0) ω2 ω3 ω4 (nd 0) (ud 0) ω7 ω8 ω9, wk q nd N, wp q ud ua 8 (nI uh), wpl q ua U 8, wst q sd X] A s.heap s H locs := hM
  have hM : xM D (TY q) [w8 q ad ω0 (sd 0) ω2 ω3 ω4 (nd 0) (ud 0) ω7 ω8 ω9, wst q sd X, wk q nd N, wp q ud ua 8 (nI uh), wpl q ua U 8] A s.heap s H locs := hM.sel [0, 4, 1, 2, 3] rfl rfl
  refine x_ifz_eq (P := 0 ≤ ((h : Nat) : Int) ∧ ((h : Nat) : Int) < (tn (S 5 0))) (tgt := 32) hx hb dX8_toss_8 (by decide) (fun c1 => ?_) (fun c1 => ?_)
  · exfalso; omega
  · refine lv_aload_n hx hb dX8_toss_11 rfl (lv_at hl 0 rfl) ?_
    refine x_get hx hb hts iwX8_toss_X8 hown hM 0 0 rfl rfl rfl 1 (by decide) (hts _ lkX8_toss_19) (fun _ h => h) rfl dX8_toss_12 ?_
    refine lv_iload_n hx hb dX8_toss_15 rfl (lv_at hl 2 rfl) ?_
    refine x_calli (bc := [wst q sd X]) (br := [w8 q ad ω0 (sd 0) ω2 ω3 ω4 (nd 0) (ud 0) ω7 ω8 ω9, wk q nd N, wp q ud ua 8 (nI uh), wpl q ua U 8]) hM [1] [0, 2, 3, 4] rfl rfl rfl (by decide) (x_runV (As := [.int (nI g)]) (rest := []) hfix (c_X7_isGood l D q sd X S (nI g) ((g : Nat) : Int) hT (nI_toInt (n := g) (by omega))) (cwV 1 hts gX8_toss_X7_isGood rfl rfl rfl (by decide +kernel) ⟨Nat.le_of_ble_eq_true rfl, Nat.le_of_ble_eq_true rfl⟩) hM [1] rfl rfl 1 0 rfl rfl rfl rfl rfl hl.1 rfl (Nat.le_of_ble_eq_true rfl) dX8_toss_16 ⟨Nat.le_of_ble_eq_true rfl, Nat.le_of_ble_eq_true rfl⟩) (fun r u H locs hq hM => ?_)
    subst hq
    have hM : xM D (TY q) [w8 q ad ω0 (sd 0) ω2 ω3 ω4 (nd 0) (ud 0) ω7 ω8 ω9, wk q nd N, wp q ud ua 8 (nI uh), wpl q ua U 8, wst q sd X] A s.heap s H locs := hM
    have hM : xM D (TY q) [w8 q ad ω0 (sd 0) ω2 ω3 ω4 (nd 0) (ud 0) ω7 ω8 ω9, wst q sd X, wk q nd N, wp q ud ua 8 (nI uh), wpl q ua U 8] A s.heap s H locs := hM.sel [0, 4, 1, 2, 3] rfl rfl
    refine x_ifz_eq (P := 0 ≤ ((g : Nat) : Int) ∧ ((g : Nat) : Int) < (tn (S 2 0))) (tgt := 32) hx hb dX8_toss_19 (by decide) (fun c2 => ?_) (fun c2 => ?_)
    · exfalso; omega
    · refine lv_iload_n hx hb dX8_toss_22 rfl (lv_at hl 3 rfl) ?_
      refine lv_iconst (v := nI 1) hx hb dX8_toss_23 (by decide) ?_
      refine lv_bipush (v := nI 40) hx hb dX8_toss_24 (by decide) ?_
      refine x_calli (bc := []) (br := [w8 q ad ω0 (sd 0) ω2 ω3 ω4 (nd 0) (ud 0) ω7 ω8 ω9, wst q sd X, wk q nd N, wp q ud ua 8 (nI uh), wpl q ua U 8]) hM [] [0, 1, 2, 3, 4] rfl rfl rfl (by decide) (x_runS (As := [.int (nI n), .int (nI 1), .int (nI 40)]) (rest := []) hfix (c_X8_within l D q (nI n) (nI 1) (nI 40) ((n : Nat) : Int) (1 : Int) (40 : Int) (nI_toInt (n := n) (by omega)) (nI_toInt (n := 1) (by decide)) (nI_toInt (n := 40) (by decide))) (va_cwS 3 hts gX8_toss_X8_within rfl rfl rfl (by decide +kernel) ⟨Nat.le_of_ble_eq_true rfl, Nat.le_of_ble_eq_true rfl⟩) hM [] rfl rfl rfl hl.1 rfl (Nat.le_of_ble_eq_true rfl) dX8_toss_26 ⟨Nat.le_of_ble_eq_true rfl, Nat.le_of_ble_eq_true rfl⟩) (fun r u H locs hq hM => ?_)
      subst hq
      have hM : xM D (TY q) [w8 q ad ω0 (sd 0) ω2 ω3 ω4 (nd 0) (ud 0) ω7 ω8 ω9, wst q sd X, wk q nd N, wp q ud ua 8 (nI uh), wpl q ua U 8] A s.heap s H locs := hM
      refine x_ifz_ne (P := (1 : Int) ≤ ((n : Nat) : Int) ∧ ((n : Nat) : Int) ≤ (40 : Int)) (tgt := 34) hx hb dX8_toss_29 (by decide) (fun c3 => ?_) (fun c3 => ?_)
      · refine lv_aload_n hx hb dX8_toss_34 rfl (lv_at hl 0 rfl) ?_
        refine x_get hx hb hts iwX8_toss_X8 hown hM 0 0 rfl rfl rfl 5 (by decide) (hts _ lkX8_toss_39) (fun _ h => h) rfl dX8_toss_35 ?_
        refine lv_iload_n hx hb dX8_toss_38 rfl (lv_at hl 1 rfl) ?_
        refine lv_iload_n hx hb dX8_toss_39 rfl (lv_at hl 2 rfl) ?_
        refine lv_iload_n hx hb dX8_toss_40 rfl (lv_at hl 3 rfl) ?_
        refine x_calli (bc := [wk q nd N]) (br := [w8 q ad ω0 (sd 0) ω2 ω3 ω4 (nd 0) (ud 0) ω7 ω8 ω9, wst q sd X, wp q ud ua 8 (nI uh), wpl q ua U 8]) hM [2] [0, 1, 3, 4] rfl rfl rfl (by decide) (x_runV (As := [.int (nI h), .int (nI g), .int (nI n)]) (rest := []) hfix (c_X1_canSpare l D q nd N h g (nI n) (by omega) (by omega) hK) (cwV 3 hts gX8_toss_X1_canSpare rfl rfl rfl (by decide +kernel) ⟨Nat.le_of_ble_eq_true rfl, Nat.le_of_ble_eq_true rfl⟩) hM [2] rfl rfl 2 0 rfl rfl rfl rfl rfl hl.1 rfl (Nat.le_of_ble_eq_true rfl) dX8_toss_41 ⟨Nat.le_of_ble_eq_true rfl, Nat.le_of_ble_eq_true rfl⟩) (fun r u H locs hq hM => ?_)
        subst hq
        have hM : xM D (TY q) [w8 q ad ω0 (sd 0) ω2 ω3 ω4 (nd 0) (ud 0) ω7 ω8 ω9, wst q sd X, wp q ud ua 8 (nI uh), wpl q ua U 8, wk q nd N] A s.heap s H locs := hM
        have hM : xM D (TY q) [w8 q ad ω0 (sd 0) ω2 ω3 ω4 (nd 0) (ud 0) ω7 ω8 ω9, wst q sd X, wk q nd N, wp q ud ua 8 (nI uh), wpl q ua U 8] A s.heap s H locs := hM.sel [0, 1, 4, 2, 3] rfl rfl
        refine x_ifz_ne (P := tn (N 25) < 60 ∧ (nI n) ≤ N (5 * h + g)) (tgt := 50) hx hb dX8_toss_44 (by decide) (fun c4 => ?_) (fun c4 => ?_)
        · refine lv_aload_n hx hb dX8_toss_50 rfl (lv_at hl 0 rfl) ?_
          refine x_get hx hb hts iwX8_toss_X8 hown hM 0 0 rfl rfl rfl 6 (by decide) (hts _ lkX8_toss_48) (fun _ h => h) rfl dX8_toss_51 ?_
          refine lv_aload_n hx hb dX8_toss_54 rfl (lv_at hl 0 rfl) ?_
          refine x_get hx hb hts iwX8_toss_X8 hown hM 0 0 rfl rfl rfl 5 (by decide) (hts _ lkX8_toss_39) (fun _ h => h) rfl dX8_toss_55 ?_
          refine x_callv (bc := [wp q ud ua 8 (nI uh), wk q nd N, wpl q ua U 8]) (br := [w8 q ad ω0 (sd 0) ω2 ω3 ω4 (nd 0) (ud 0) ω7 ω8 ω9, wst q sd X]) hM [3, 2, 4] [0, 1] rfl rfl rfl (by decide) (x_runV (As := [.ref (nd 0)]) (rest := []) hfix (c_X4_push l D q ud ua nd N U 8 uh (by omega) (by omega)) (cwV 1 hts gX8_toss_X4_push rfl rfl rfl (by decide +kernel) ⟨Nat.le_of_ble_eq_true rfl, Nat.le_of_ble_eq_true rfl⟩) hM [3, 2, 4] rfl rfl 3 0 rfl rfl rfl rfl rfl hl.1 rfl (Nat.le_of_ble_eq_true rfl) dX8_toss_58 ⟨Nat.le_of_ble_eq_true rfl, Nat.le_of_ble_eq_true rfl⟩) (fun u H locs hq hM => ?_)
          have hM : xM D (TY q) [w8 q ad ω0 (sd 0) ω2 ω3 ω4 (nd 0) (ud 0) ω7 ω8 ω9, wst q sd X, wp q ud (xpA 8 uh ua) 8 (nI (xpH 8 uh)), wk q nd N, wpl q (xpA 8 uh ua) (xpK 8 uh U N) 8] A s.heap s H locs := hM
          have hM : xM D (TY q) [w8 q ad ω0 (sd 0) ω2 ω3 ω4 (nd 0) (ud 0) ω7 ω8 ω9, wst q sd X, wk q nd N, wp q ud (xpA 8 uh ua) 8 (nI (xpH 8 uh)), wpl q (xpA 8 uh ua) (xpK 8 uh U N) 8] A s.heap s H locs := hM.sel [0, 1, 3, 2, 4] rfl rfl
          refine lv_aload_n hx hb dX8_toss_61 rfl (lv_at hl 0 rfl) ?_
          refine x_get hx hb hts iwX8_toss_X8 hown hM 0 0 rfl rfl rfl 5 (by decide) (hts _ lkX8_toss_39) (fun _ h => h) rfl dX8_toss_62 ?_
          refine lv_iload_n hx hb dX8_toss_65 rfl (lv_at hl 1 rfl) ?_
          refine lv_iload_n hx hb dX8_toss_66 rfl (lv_at hl 2 rfl) ?_
          refine lv_iload_n hx hb dX8_toss_67 rfl (lv_at hl 3 rfl) ?_
          refine lv_ineg hx hb dX8_toss_68 ?_
          refine x_callv (bc := [wk q nd N]) (br := [w8 q ad ω0 (sd 0) ω2 ω3 ω4 (nd 0) (ud 0) ω7 ω8 ω9, wst q sd X, wp q ud (xpA 8 uh ua) 8 (nI (xpH 8 uh)), wpl q (xpA 8 uh ua) (xpK 8 uh U N) 8]) hM [2] [0, 1, 3, 4] rfl rfl rfl (by decide) (x_runV (As := [.int (nI h), .int (nI g), .int (-(nI n))]) (rest := []) hfix (c_X1_add l D q nd N h g (-(nI n)) (by omega) (by omega)) (cwV 3 hts gX8_toss_X1_add rfl rfl rfl (by decide +kernel) ⟨Nat.le_of_ble_eq_true rfl, Nat.le_of_ble_eq_true rfl⟩) hM [2] rfl rfl 2 0 rfl rfl rfl rfl rfl hl.1 rfl (Nat.le_of_ble_eq_true rfl) dX8_toss_69 ⟨Nat.le_of_ble_eq_true rfl, Nat.le_of_ble_eq_true rfl⟩) (fun u H locs hq hM => ?_)
          have hM : xM D (TY q) [w8 q ad ω0 (sd 0) ω2 ω3 ω4 (nd 0) (ud 0) ω7 ω8 ω9, wst q sd X, wp q ud (xpA 8 uh ua) 8 (nI (xpH 8 uh)), wpl q (xpA 8 uh ua) (xpK 8 uh U N) 8, wk q nd (kAdd N h g (-(nI n)))] A s.heap s H locs := hM
          have hM : xM D (TY q) [w8 q ad ω0 (sd 0) ω2 ω3 ω4 (nd 0) (ud 0) ω7 ω8 ω9, wst q sd X, wk q nd (kAdd N h g (-(nI n))), wp q ud (xpA 8 uh ua) 8 (nI (xpH 8 uh)), wpl q (xpA 8 uh ua) (xpK 8 uh U N) 8] A s.heap s H locs := hM.sel [0, 1, 4, 2, 3] rfl rfl
          refine lv_aload_n hx hb dX8_toss_72 rfl (lv_at hl 0 rfl) ?_
          refine x_get hx hb hts iwX8_toss_X8 hown hM 0 0 rfl rfl rfl 5 (by decide) (hts _ lkX8_toss_39) (fun _ h => h) rfl dX8_toss_73 ?_
          refine lv_iload_n hx hb dX8_toss_76 rfl (lv_at hl 1 rfl) ?_
          refine lv_iload_n hx hb dX8_toss_77 rfl (lv_at hl 2 rfl) ?_
          refine x_calli (bc := [wk q nd (kAdd N h g (-(nI n)))]) (br := [w8 q ad ω0 (sd 0) ω2 ω3 ω4 (nd 0) (ud 0) ω7 ω8 ω9, wst q sd X, wp q ud (xpA 8 uh ua) 8 (nI (xpH 8 uh)), wpl q (xpA 8 uh ua) (xpK 8 uh U N) 8]) hM [2] [0, 1, 3, 4] rfl rfl rfl (by decide) (x_runV (As := [.int (nI h), .int (nI g)]) (rest := []) hfix (c_X1_piecesOf l D q nd (kAdd N h g (-(nI n))) h g (by omega) (by omega)) (cwV 2 hts gX8_toss_X1_piecesOf rfl rfl rfl (by decide +kernel) ⟨Nat.le_of_ble_eq_true rfl, Nat.le_of_ble_eq_true rfl⟩) hM [2] rfl rfl 2 0 rfl rfl rfl rfl rfl hl.1 rfl (Nat.le_of_ble_eq_true rfl) dX8_toss_78 ⟨Nat.le_of_ble_eq_true rfl, Nat.le_of_ble_eq_true rfl⟩) (fun r u H locs hq hM => ?_)
          subst hq
          have hM : xM D (TY q) [w8 q ad ω0 (sd 0) ω2 ω3 ω4 (nd 0) (ud 0) ω7 ω8 ω9, wst q sd X, wp q ud (xpA 8 uh ua) 8 (nI (xpH 8 uh)), wpl q (xpA 8 uh ua) (xpK 8 uh U N) 8, wk q nd (kAdd N h g (-(nI n)))] A s.heap s H locs := hM
          have hM : xM D (TY q) [w8 q ad ω0 (sd 0) ω2 ω3 ω4 (nd 0) (ud 0) ω7 ω8 ω9, wst q sd X, wk q nd (kAdd N h g (-(nI n))), wp q ud (xpA 8 uh ua) 8 (nI (xpH 8 uh)), wpl q (xpA 8 uh ua) (xpK 8 uh U N) 8] A s.heap s H locs := hM.sel [0, 1, 4, 2, 3] rfl rfl
          exact x_iret hx hb hr hlocks () hM (show (kAdd N h g (-(nI n))) (5 * h + g) = kAdd N h g (-(nI n)) (5 * h + g) from by rfl) dX8_toss_81
        · exfalso; exact absurd hsp (by assumption)
      · exfalso; omega
