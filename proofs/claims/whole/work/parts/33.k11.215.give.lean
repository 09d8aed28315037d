set_option maxRecDepth 20000 in
theorem ggX8_give_X7_isHouse : GoodIn wsX8_give wsX7_isHouse := goodIn_r _ [8, 9, 10, 11, 12, 108, 109, 110, 111, 112, 113, 114, 115, 116, 117, 118, 119, 120, 121, 122, 123] (by decide +kernel) (by decide +kernel)
set_option maxRecDepth 20000 in
theorem gX8_give_X7_isHouse : GoodIn wsX8_give (wsV RX8 102 RX7 yX7_isHouse wsX7_isHouse) := goodIn_app (goodIn_of _ (by decide +kernel)) ggX8_give_X7_isHouse
set_option maxRecDepth 20000 in
theorem ggX8_give_X7_isGood : GoodIn wsX8_give wsX7_isGood := goodIn_r _ [16, 17, 10, 11, 12, 108, 109, 110, 111, 112, 113, 114, 115, 116, 117, 118, 119, 120, 121, 122, 123] (by decide +kernel) (by decide +kernel)
set_option maxRecDepth 20000 in
theorem gX8_give_X7_isGood : GoodIn wsX8_give (wsV RX8 106 RX7 yX7_isGood wsX7_isGood) := goodIn_app (goodIn_of _ (by decide +kernel)) ggX8_give_X7_isGood
set_option maxRecDepth 20000 in
theorem ggX8_give_X8_within : GoodIn wsX8_give wsX8_within := goodIn_r _ [12] (by decide +kernel) (by decide +kernel)
set_option maxRecDepth 20000 in
theorem gX8_give_X8_within : GoodIn wsX8_give (va_wsS RX8 91 yX8_within wsX8_within) := goodIn_app (goodIn_of _ (by decide +kernel)) ggX8_give_X8_within
set_option maxRecDepth 20000 in
theorem ggX8_give_X1_arrivalOf : GoodIn wsX8_give wsX1_arrivalOf := goodIn_r _ [23, 24, 25, 26, 27, 28, 22, 29, 30, 31, 32, 33, 34, 35, 36, 7, 37, 38, 39, 40, 41, 42, 43, 44, 45, 46, 47, 48, 49, 50, 51, 52, 53, 54, 55, 124, 125, 126, 127, 128, 129, 108, 109, 110, 111, 112, 113, 114, 115, 116, 117, 118, 119, 120, 121, 122, 123] (by decide +kernel) (by decide +kernel)
set_option maxRecDepth 20000 in
theorem gX8_give_X1_arrivalOf : GoodIn wsX8_give (wsV RX8 149 RX1 yX1_arrivalOf wsX1_arrivalOf) := goodIn_app (goodIn_of _ (by decide +kernel)) ggX8_give_X1_arrivalOf
set_option maxRecDepth 20000 in
theorem ggX8_give_X4_push : GoodIn wsX8_give wsX4_push := goodIn_r _ [60, 61, 62, 63, 64, 65, 59, 66, 67, 68, 69, 22, 70, 25, 24, 34, 71, 72, 73, 74, 75, 40, 76, 77, 78, 48, 79, 80, 81, 82, 83, 130, 131, 124, 125, 126, 127, 128, 129] (by decide +kernel) (by decide +kernel)
set_option maxRecDepth 20000 in
theorem gX8_give_X4_push : GoodIn wsX8_give (wsV RX8 141 RX4 yX4_push wsX4_push) := goodIn_app (goodIn_of _ (by decide +kernel)) ggX8_give_X4_push
set_option maxRecDepth 20000 in
theorem ggX8_give_X1_send : GoodIn wsX8_give wsX1_send := goodIn_r _ [87, 73, 24, 25, 42, 43, 44, 7, 45, 46, 47, 48, 49, 50, 51, 52, 53, 54, 55, 39, 40, 41, 88, 89, 90, 22, 91, 34, 35, 36, 37, 92, 93, 94, 95, 96, 97, 124, 125, 126, 127, 128, 129, 108, 109, 110, 111, 112, 113, 114, 115, 116, 117, 118, 119, 120, 121, 122, 123] (by decide +kernel) (by decide +kernel)
set_option maxRecDepth 20000 in
theorem gX8_give_X1_send : GoodIn wsX8_give (wsV RX8 153 RX1 yX1_send wsX1_send) := goodIn_app (goodIn_of _ (by decide +kernel)) ggX8_give_X1_send
theorem dX8_give_0 : decode cX8_give 0 = .ok (.aload_n 0, 1) := by decide +kernel
theorem dX8_give_1 : decode cX8_give 1 = .ok (.getfield 19, 3) := by decide +kernel
theorem dX8_give_4 : decode cX8_give 4 = .ok (.iload_n 1, 1) := by decide +kernel
theorem dX8_give_5 : decode cX8_give 5 = .ok (.invokevirtual 102, 3) := by decide +kernel
theorem dX8_give_8 : decode cX8_give 8 = .ok (.ifCond .eq 19, 3) := by decide +kernel
theorem dX8_give_11 : decode cX8_give 11 = .ok (.aload_n 0, 1) := by decide +kernel
theorem dX8_give_12 : decode cX8_give 12 = .ok (.getfield 19, 3) := by decide +kernel
theorem dX8_give_15 : decode cX8_give 15 = .ok (.iload_n 2, 1) := by decide +kernel
theorem dX8_give_16 : decode cX8_give 16 = .ok (.invokevirtual 102, 3) := by decide +kernel
theorem dX8_give_19 : decode cX8_give 19 = .ok (.ifCond .eq 8, 3) := by decide +kernel
theorem dX8_give_22 : decode cX8_give 22 = .ok (.iload_n 1, 1) := by decide +kernel
theorem dX8_give_23 : decode cX8_give 23 = .ok (.iload_n 2, 1) := by decide +kernel
theorem dX8_give_24 : decode cX8_give 24 = .ok (.if_icmp .ne 5, 3) := by decide +kernel
theorem dX8_give_27 : decode cX8_give 27 = .ok (.iconst (-1), 1) := by decide +kernel
theorem dX8_give_28 : decode cX8_give 28 = .ok (.ireturn, 1) := by decide +kernel
theorem dX8_give_29 : decode cX8_give 29 = .ok (.aload_n 0, 1) := by decide +kernel
theorem dX8_give_30 : decode cX8_give 30 = .ok (.getfield 19, 3) := by decide +kernel
theorem dX8_give_33 : decode cX8_give 33 = .ok (.iload_n 3, 1) := by decide +kernel
theorem dX8_give_34 : decode cX8_give 34 = .ok (.invokevirtual 106, 3) := by decide +kernel
theorem dX8_give_37 : decode cX8_give 37 = .ok (.ifCond .eq 14, 3) := by decide +kernel
theorem dX8_give_40 : decode cX8_give 40 = .ok (.iload 4, 2) := by decide +kernel
theorem dX8_give_42 : decode cX8_give 42 = .ok (.iconst 1, 1) := by decide +kernel
theorem dX8_give_43 : decode cX8_give 43 = .ok (.bipush 40, 2) := by decide +kernel
theorem dX8_give_45 : decode cX8_give 45 = .ok (.invokestatic 91, 3) := by decide +kernel
theorem dX8_give_48 : decode cX8_give 48 = .ok (.ifCond .ne 5, 3) := by decide +kernel
theorem dX8_give_51 : decode cX8_give 51 = .ok (.iconst (-1), 1) := by decide +kernel
theorem dX8_give_52 : decode cX8_give 52 = .ok (.ireturn, 1) := by decide +kernel
theorem dX8_give_53 : decode cX8_give 53 = .ok (.aload_n 0, 1) := by decide +kernel
theorem dX8_give_54 : decode cX8_give 54 = .ok (.getfield 39, 3) := by decide +kernel
theorem dX8_give_57 : decode cX8_give 57 = .ok (.aload_n 0, 1) := by decide +kernel
theorem dX8_give_58 : decode cX8_give 58 = .ok (.getfield 19, 3) := by decide +kernel
theorem dX8_give_61 : decode cX8_give 61 = .ok (.iload_n 1, 1) := by decide +kernel
theorem dX8_give_62 : decode cX8_give 62 = .ok (.iload_n 2, 1) := by decide +kernel
theorem dX8_give_63 : decode cX8_give 63 = .ok (.iload_n 3, 1) := by decide +kernel
theorem dX8_give_64 : decode cX8_give 64 = .ok (.iload 4, 2) := by decide +kernel
theorem dX8_give_66 : decode cX8_give 66 = .ok (.invokevirtual 149, 3) := by decide +kernel
theorem dX8_give_69 : decode cX8_give 69 = .ok (.istore 5, 2) := by decide +kernel
theorem dX8_give_71 : decode cX8_give 71 = .ok (.iload 5, 2) := by decide +kernel
theorem dX8_give_73 : decode cX8_give 73 = .ok (.ifCond .lt 30, 3) := by decide +kernel
theorem dX8_give_76 : decode cX8_give 76 = .ok (.aload_n 0, 1) := by decide +kernel
theorem dX8_give_77 : decode cX8_give 77 = .ok (.getfield 48, 3) := by decide +kernel
theorem dX8_give_80 : decode cX8_give 80 = .ok (.aload_n 0, 1) := by decide +kernel
theorem dX8_give_81 : decode cX8_give 81 = .ok (.getfield 39, 3) := by decide +kernel
theorem dX8_give_84 : decode cX8_give 84 = .ok (.invokevirtual 141, 3) := by decide +kernel
theorem dX8_give_87 : decode cX8_give 87 = .ok (.aload_n 0, 1) := by decide +kernel
theorem dX8_give_88 : decode cX8_give 88 = .ok (.getfield 39, 3) := by decide +kernel
theorem dX8_give_91 : decode cX8_give 91 = .ok (.aload_n 0, 1) := by decide +kernel
theorem dX8_give_92 : decode cX8_give 92 = .ok (.getfield 19, 3) := by decide +kernel
theorem dX8_give_95 : decode cX8_give 95 = .ok (.iload_n 1, 1) := by decide +kernel
theorem dX8_give_96 : decode cX8_give 96 = .ok (.iload_n 2, 1) := by decide +kernel
theorem dX8_give_97 : decode cX8_give 97 = .ok (.iload_n 3, 1) := by decide +kernel
theorem dX8_give_98 : decode cX8_give 98 = .ok (.iload 4, 2) := by decide +kernel
theorem dX8_give_100 : decode cX8_give 100 = .ok (.invokevirtual 153, 3) := by decide +kernel
theorem dX8_give_103 : decode cX8_give 103 = .ok (.iload 5, 2) := by decide +kernel
theorem dX8_give_105 : decode cX8_give 105 = .ok (.ireturn, 1) := by decide +kernel
theorem lkX8_give_19 : Cond.fieldLink RX8 19 "LeftAtFive" "street" "LLeftAtFive$Street;" ∈ wsX8_give := by decide +kernel
theorem lkX8_give_39 : Cond.fieldLink RX8 39 "LeftAtFive" "now" "LLeftAtFive$Kitchens;" ∈ wsX8_give := by decide +kernel
theorem lkX8_give_48 : Cond.fieldLink RX8 48 "LeftAtFive" "undone" "LLeftAtFive$Pile;" ∈ wsX8_give := by decide +kernel
theorem iwX8_give_X8 : ∀ w ∈ wsX80, w ∈ wsX8_give := by decide +kernel
set_option maxHeartbeats 2000000 in
set_option maxRecDepth 100000 in
theorem c_X8_give (l : Launch) (D : va_G) (q : Nat → ClassId) (ad : Nat → Nat) (ω0 : Nat) (ω1 : Nat) (ω2 : Nat) (ω3 : Nat) (ω4 : Nat) (ω5 : Nat) (ω6 : Nat) (ω7 : Nat) (ω8 : Nat) (ω9 : Nat) (sd : Nat → Nat) (X : Nat → Nat → Int32) (nd : Nat → Nat) (N : Nat → Int32) (ud : Nat → Nat) (ua : Nat → Nat → Nat) (U : Nat → Nat → Int32) (S : Nat → Nat → Int32) (uh : Nat) (f : Nat) (t : Nat) (g : Nat) (n : Nat) (hT : okT X S) (huh : uh ≤ 8) (hK : okK N) (hf0 : f < (tn (S 5 0))) (ht0 : t < (tn (S 5 0))) (hft : ¬ f = t) (hg0 : g < (tn (S 2 0))) (hn9 : 1 ≤ n ∧ n ≤ 40) (hre : ¬ xarr N (S 6 f) (S 6 t) (5 * f + g) (nI n) < 0) : xC l yX8_give wsX8_give ({ frames := 4, cells := 0, slots := 0, locals := 103 }) D (TY q) [w8 q ad ω0 (sd 0) ω2 ω3 ω4 (nd 0) (ud 0) ω7 ω8 ω9, wst q sd X, wk q nd N, wp q ud ua 8 (nI uh), wpl q ua U 8] [.ref (ad 0), .int (nI f), .int (nI t), .int (nI g), .int (nI n)] (xQi D (TY q) (fun (r : Int32) (_ : Unit) => r = xarr N (S 6 f) (S 6 t) (5 * f + g) (nI n)) (fun _ => [w8 q ad ω0 (sd 0) ω2 ω3 ω4 (nd 0) (ud 0) ω7 ω8 ω9, wst q sd X, wk q nd (kGive N (xap (S 6 f) (S 6 t)) f t g (nI n)), wp q ud (xpA 8 uh ua) 8 (nI (xpH 8 uh)), wpl q (xpA 8 uh ua) (xpK 8 uh U N) 8])) 0 0 := by
  refine x_enter (cc := cX8_give) (maxL := 6) (ret := (some .int)) (by decide) rfl (Nat.le_of_ble_eq_true rfl) ?_
  intro p e s m below meth c A ls H locs hfix hr hlocks hinit hM hl
  obtain ⟨hx, hb, hml, hown, hts⟩ := id hfix
  have hl : lv_has ls 6 [(0, .ref (ad 0)), (1, .int (nI f)), (2, .int (nI t)), (3, .int (nI g)), (4, .int (nI n))] := hl
  have hTb0 := okT_0b hT
  have hTb1 := okT_1b hT
  have hTb2 := okT_2b hT
  have hTb3 := okT_3b hT
  have hTb4 := okT_4b hT
  have hK25 := hK.1.2
  have hK26 := hK.2.1.2
  have hw6 := xref_w hK (by rw [xarr_ok hre]; decide)
  refine lv_aload_n hx hb dX8_give_0 rfl (lv_at hl 0 rfl) ?_
  refine x_get hx hb hts iwX8_give_X8 hown hM 0 0 rfl rfl rfl 1 (by decide) (hts _ lkX8_give_19) (fun _ h => h) rfl dX8_give_1 ?_
  refine lv_iload_n hx hb dX8_give_4 rfl (lv_at hl 1 rfl) ?_
  refine x_calli (bc := [wst q sd X]) (br := [w8 q ad ω0 (sd 0) ω2 ω3 ω4 (nd 0) (ud 0) ω7 ω8 ω9, wk q nd N, wp q ud ua 8 (nI uh), wpl q ua U 8]) hM [1] [0, 2, 3, 4] rfl rfl rfl (by decide) (x_runV (As := [.int (nI f)]) (rest := []) hfix (c_X7_isHouse l D q sd X S (nI f) ((f : Nat) : Int) hT (nI_toInt (n := f) (by omega))) (cwV 1 hts gX8_give_X7_isHouse rfl rfl rfl (by decide +kernel) ⟨Nat.le_of_ble_eq_true rfl, Nat.le_of_ble_eq_true rfl⟩) hM [1] rfl rfl 1 0 rfl rfl rfl rfl rfl hl.1 rfl (Nat.le_of_ble_eq_true rfl) dX8_give_5 ⟨Nat.le_of_ble_eq_true rfl, Nat.le_of_ble_eq_true rfl⟩) (fun r u H locs hq hM => ?_)
  subst hq
  have hM : xM D (TY q) [w8 q ad ω0 (sd 0) ω2 ω3 ω4 (nd 0) (ud 0) ω7 ω8 ω9, wk q nd N, wp q ud ua 8 (nI uh), wpl q ua U 8, wst q sd X] A s.heap s H locs := hM
  have hM : xM D (TY q) [w8 q ad ω0 (sd 0) ω2 ω3 ω4 (nd 0) (ud 0) ω7 ω8 ω9, wst q sd X, wk q nd N, wp q ud ua 8 (nI uh), wpl q ua U 8] A s.heap s H locs := hM.sel [0, 4, 1, 2, 3] rfl rfl
  refine x_ifz_eq (P := 0 ≤ ((f : Nat) : Int) ∧ ((f : Nat) : Int) < (tn (S 5 0))) (tgt := 27) hx hb dX8_give_8 (by decide) (fun c1 => ?_) (fun c1 => ?_)
  · exfalso; omega
  · refine lv_aload_n hx hb dX8_give_11 rfl (lv_at hl 0 rfl) ?_
    refine x_get hx hb hts iwX8_give_X8 hown hM 0 0 rfl rfl rfl 1 (by decide) (hts _ lkX8_give_19) (fun _ h => h) rfl dX8_give_12 ?_
    refine lv_iload_n hx hb dX8_give_15 rfl (lv_at hl 2 rfl) ?_
    refine x_calli (bc := [wst q sd X]) (br := [w8 q ad ω0 (sd 0) ω2 ω3 ω4 (nd 0) (ud 0) ω7 ω8 ω9, wk q nd N, wp q ud ua 8 (nI uh), wpl q ua U 8]) hM [1] [0, 2, 3, 4] rfl rfl rfl (by decide) (x_runV (As := [.int (nI t)]) (rest := []) hfix (c_X7_isHouse l D q sd X S (nI t) ((t : Nat) : Int) hT (nI_toInt (n := t) (by omega))) (cwV 1 hts gX8_give_X7_isHouse rfl rfl rfl (by decide +kernel) ⟨Nat.le_of_ble_eq_true rfl, Nat.le_of_ble_eq_true rfl⟩) hM [1] rfl rfl 1 0 rfl rfl rfl rfl rfl hl.1 rfl (Nat.le_of_ble_eq_true rfl) dX8_give_16 ⟨Nat.le_of_ble_eq_true rfl, Nat.le_of_ble_eq_true rfl⟩) (fun r u H locs hq hM => ?_)
    subst hq
    have hM : xM D (TY q) [w8 q ad ω0 (sd 0) ω2 ω3 ω4 (nd 0) (ud 0) ω7 ω8 ω9, wk q nd N, wp q ud ua 8 (nI uh), wpl q ua U 8, wst q sd X] A s.heap s H locs := hM
    have hM : xM D (TY q) [w8 q ad ω0 (sd 0) ω2 ω3 ω4 (nd 0) (ud 0) ω7 ω8 ω9, wst q sd X, wk q nd N, wp q ud ua 8 (nI uh), wpl q ua U 8] A s.heap s H locs := hM.sel [0, 4, 1, 2, 3] rfl rfl
    refine x_ifz_eq (P := 0 ≤ ((t : Nat) : Int) ∧ ((t : Nat) : Int) < (tn (S 5 0))) (tgt := 27) hx hb dX8_give_19 (by decide) (fun c2 => ?_) (fun c2 => ?_)
    · exfalso; omega
    · refine lv_iload_n hx hb dX8_give_22 rfl (lv_at hl 1 rfl) ?_
      refine lv_iload_n hx hb dX8_give_23 rfl (lv_at hl 2 rfl) ?_
      refine x_icmp_ne (x := f) (y := t) (tgt := 29) hx hb (by omega) (by omega) dX8_give_24 (by decide) (fun c3 => ?_) (fun c3 => ?_)
      · refine lv_aload_n hx hb dX8_give_29 rfl (lv_at hl 0 rfl) ?_
        refine x_get hx hb hts iwX8_give_X8 hown hM 0 0 rfl rfl rfl 1 (by decide) (hts _ lkX8_give_19) (fun _ h => h) rfl dX8_give_30 ?_
        refine lv_iload_n hx hb dX8_give_33 rfl (lv_at hl 3 rfl) ?_
        refine x_calli (bc := [wst q sd X]) (br := [w8 q ad ω0 (sd 0) ω2 ω3 ω4 (nd 0) (ud 0) ω7 ω8 ω9, wk q nd N, wp q ud ua 8 (nI uh), wpl q ua U 8]) hM [1] [0, 2, 3, 4] rfl rfl rfl (by decide) (x_runV (As := [.int (nI g)]) (rest := []) hfix (c_X7_isGood l D q sd X S (nI g) ((g : Nat) : Int) hT (nI_toInt (n := g) (by omega))) (cwV 1 hts gX8_give_X7_isGood rfl rfl rfl (by decide +kernel) ⟨Nat.le_of_ble_eq_true rfl, Nat.le_of_ble_eq_true rfl⟩) hM [1] rfl rfl 1 0 rfl rfl rfl rfl rfl hl.1 rfl (Nat.le_of_ble_eq_true rfl) dX8_give_34 ⟨Nat.le_of_ble_eq_true rfl, Nat.le_of_ble_eq_true rfl⟩) (fun r u H locs hq hM => ?_)
        subst hq
        have hM : xM D (TY q) [w8 q ad ω0 (sd 0) ω2 ω3 ω4 (nd 0) (ud 0) ω7 ω8 ω9, wk q nd N, wp q ud ua 8 (nI uh), wpl q ua U 8, wst q sd X] A s.heap s H locs := hM
        have hM : xM D (TY q) [w8 q ad ω0 (sd 0) ω2 ω3 ω4 (nd 0) (ud 0) ω7 ω8 ω9, wst q sd X, wk q nd N, wp q ud ua 8 (nI uh), wpl q ua U 8] A s.heap s H locs := hM.sel [0, 4, 1, 2, 3] rfl rfl
        refine x_ifz_eq (P := 0 ≤ ((g : Nat) : Int) ∧ ((g : Nat) : Int) < (tn (S 2 0))) (tgt := 51) hx hb dX8_give_37 (by decide) (fun c4 => ?_) (fun c4 => ?_)
        · exfalso; omega
        · refine lv_iload hx hb dX8_give_40 (lv_at hl 4 rfl) ?_
          refine lv_iconst (v := nI 1) hx hb dX8_give_42 (by decide) ?_
          refine lv_bipush (v := nI 40) hx hb dX8_give_43 (by decide) ?_
          refine x_calli (bc := []) (br := [w8 q ad ω0 (sd 0) ω2 ω3 ω4 (nd 0) (ud 0) ω7 ω8 ω9, wst q sd X, wk q nd N, wp q ud ua 8 (nI uh), wpl q ua U 8]) hM [] [0, 1, 2, 3, 4] rfl rfl rfl (by decide) (x_runS (As := [.int (nI n), .int (nI 1), .int (nI 40)]) (rest := []) hfix (c_X8_within l D q (nI n) (nI 1) (nI 40) ((n : Nat) : Int) (1 : Int) (40 : Int) (nI_toInt (n := n) (by omega)) (nI_toInt (n := 1) (by decide)) (nI_toInt (n := 40) (by decide))) (va_cwS 3 hts gX8_give_X8_within rfl rfl rfl (by decide +kernel) ⟨Nat.le_of_ble_eq_true rfl, Nat.le_of_ble_eq_true rfl⟩) hM [] rfl rfl rfl hl.1 rfl (Nat.le_of_ble_eq_true rfl) dX8_give_45 ⟨Nat.le_of_ble_eq_true rfl, Nat.le_of_ble_eq_true rfl⟩) (fun r u H locs hq hM => ?_)
          subst hq
          have hM : xM D (TY q) [w8 q ad ω0 (sd 0) ω2 ω3 ω4 (nd 0) (ud 0) ω7 ω8 ω9, wst q sd X, wk q nd N, wp q ud ua 8 (nI uh), wpl q ua U 8] A s.heap s H locs := hM
          refine x_ifz_ne (P := (1 : Int) ≤ ((n : Nat) : Int) ∧ ((n : Nat) : Int) ≤ (40 : Int)) (tgt := 53) hx hb dX8_give_48 (by decide) (fun c5 => ?_) (fun c5 => ?_)
          · refine lv_aload_n hx hb dX8_give_53 rfl (lv_at hl 0 rfl) ?_
            refine x_get hx hb hts iwX8_give_X8 hown hM 0 0 rfl rfl rfl 5 (by decide) (hts _ lkX8_give_39) (fun _ h => h) rfl dX8_give_54 ?_
            refine lv_aload_n hx hb dX8_give_57 rfl (lv_at hl 0 rfl) ?_
            refine x_get hx hb hts iwX8_give_X8 hown hM 0 0 rfl rfl rfl 1 (by decide) (hts _ lkX8_give_19) (fun _ h => h) rfl dX8_give_58 ?_
            refine lv_iload_n hx hb dX8_give_61 rfl (lv_at hl 1 rfl) ?_
            refine lv_iload_n hx hb dX8_give_62 rfl (lv_at hl 2 rfl) ?_
            refine lv_iload_n hx hb dX8_give_63 rfl (lv_at hl 3 rfl) ?_
            refine lv_iload hx hb dX8_give_64 (lv_at hl 4 rfl) ?_
            refine x_calli (bc := [wk q nd N, wst q sd X]) (br := [w8 q ad ω0 (sd 0) ω2 ω3 ω4 (nd 0) (ud 0) ω7 ω8 ω9, wp q ud ua 8 (nI uh), wpl q ua U 8]) hM [2, 1] [0, 3, 4] rfl rfl rfl (by decide) (x_runV (As := [.ref (sd 0), .int (nI f), .int (nI t), .int (nI g), .int (nI n)]) (rest := []) hfix (c_X1_arrivalOf l D q nd N sd X S f t g (nI n) hT (by omega) (by omega) (by omega) hK) (cwV 5 hts gX8_give_X1_arrivalOf rfl rfl rfl (by decide +kernel) ⟨Nat.le_of_ble_eq_true rfl, Nat.le_of_ble_eq_true rfl⟩) hM [2, 1] rfl rfl 2 0 rfl rfl rfl rfl rfl hl.1 rfl (Nat.le_of_ble_eq_true rfl) dX8_give_66 ⟨Nat.le_of_ble_eq_true rfl, Nat.le_of_ble_eq_true rfl⟩) (fun r u H locs hq hM => ?_)
            subst hq
            have hM : xM D (TY q) [w8 q ad ω0 (sd 0) ω2 ω3 ω4 (nd 0) (ud 0) ω7 ω8 ω9, wp q ud ua 8 (nI uh), wpl q ua U 8, wk q nd N, wst q sd X] A s.heap s H locs := hM
            have hM : xM D (TY q) [w8 q ad ω0 (sd 0) ω2 ω3 ω4 (nd 0) (ud 0) ω7 ω8 ω9, wst q sd X, wk q nd N, wp q ud ua 8 (nI uh), wpl q ua U 8] A s.heap s H locs := hM.sel [0, 4, 3, 1, 2] rfl rfl
            refine lv_istore (lv' := [(5, .int (xarr N (S 6 f) (S 6 t) (5 * f + g) (nI n))), (0, .ref (ad 0)), (1, .int (nI f)), (2, .int (nI t)), (3, .int (nI g)), (4, .int (nI n))]) hx hb dX8_give_69 hl (by decide) rfl (fun ls hl => ?_)
            refine lv_iload hx hb dX8_give_71 (lv_at hl 0 rfl) ?_
            refine lv_if_lt (tgt := 103) hx hb dX8_give_73 (by decide) (fun c6 => ?_) (fun c6 => ?_)
            · exfalso; exact absurd (by assumption) hre
            · refine lv_aload_n hx hb dX8_give_76 rfl (lv_at hl 1 rfl) ?_
              refine x_get hx hb hts iwX8_give_X8 hown hM 0 0 rfl rfl rfl 6 (by decide) (hts _ lkX8_give_48) (fun _ h => h) rfl dX8_give_77 ?_
              refine lv_aload_n hx hb dX8_give_80 rfl (lv_at hl 1 rfl) ?_
              refine x_get hx hb hts iwX8_give_X8 hown hM 0 0 rfl rfl rfl 5 (by decide) (hts _ lkX8_give_39) (fun _ h => h) rfl dX8_give_81 ?_
              refine x_callv (bc := [wp q ud ua 8 (nI uh), wk q nd N, wpl q ua U 8]) (br := [w8 q ad ω0 (sd 0) ω2 ω3 ω4 (nd 0) (ud 0) ω7 ω8 ω9, wst q sd X]) hM [3, 2, 4] [0, 1] rfl rfl rfl (by decide) (x_runV (As := [.ref (nd 0)]) (rest := []) hfix (c_X4_push l D q ud ua nd N U 8 uh (by omega) (by omega)) (cwV 1 hts gX8_give_X4_push rfl rfl rfl (by decide +kernel) ⟨Nat.le_of_ble_eq_true rfl, Nat.le_of_ble_eq_true rfl⟩) hM [3, 2, 4] rfl rfl 3 0 rfl rfl rfl rfl rfl hl.1 rfl (Nat.le_of_ble_eq_true rfl) dX8_give_84 ⟨Nat.le_of_ble_eq_true rfl, Nat.le_of_ble_eq_true rfl⟩) (fun u H locs hq hM => ?_)
              have hM : xM D (TY q) [w8 q ad ω0 (sd 0) ω2 ω3 ω4 (nd 0) (ud 0) ω7 ω8 ω9, wst q sd X, wp q ud (xpA 8 uh ua) 8 (nI (xpH 8 uh)), wk q nd N, wpl q (xpA 8 uh ua) (xpK 8 uh U N) 8] A s.heap s H locs := hM
              have hM : xM D (TY q) [w8 q ad ω0 (sd 0) ω2 ω3 ω4 (nd 0) (ud 0) ω7 ω8 ω9, wst q sd X, wk q nd N, wp q ud (xpA 8 uh ua) 8 (nI (xpH 8 uh)), wpl q (xpA 8 uh ua) (xpK 8 uh U N) 8] A s.heap s H locs := hM.sel [0, 1, 3, 2, 4] rfl rfl
              refine lv_aload_n hx hb dX8_give_87 rfl (lv_at hl 1 rfl) ?_
              refine x_get hx hb hts iwX8_give_X8 hown hM 0 0 rfl rfl rfl 5 (by decide) (hts _ lkX8_give_39) (fun _ h => h) rfl dX8_give_88 ?_
              refine lv_aload_n hx hb dX8_give_91 rfl (lv_at hl 1 rfl) ?_
              refine x_get hx hb hts iwX8_give_X8 hown hM 0 0 rfl rfl rfl 1 (by decide) (hts _ lkX8_give_19) (fun _ h => h) rfl dX8_give_92 ?_
              refine lv_iload_n hx hb dX8_give_95 rfl (lv_at hl 2 rfl) ?_
              refine lv_iload_n hx hb dX8_give_96 rfl (lv_at hl 3 rfl) ?_
              refine lv_iload_n hx hb dX8_give_97 rfl (lv_at hl 4 rfl) ?_
              refine lv_iload hx hb dX8_give_98 (lv_at hl 5 rfl) ?_
              refine x_callv (bc := [wk q nd N, wst q sd X]) (br := [w8 q ad ω0 (sd 0) ω2 ω3 ω4 (nd 0) (ud 0) ω7 ω8 ω9, wp q ud (xpA 8 uh ua) 8 (nI (xpH 8 uh)), wpl q (xpA 8 uh ua) (xpK 8 uh U N) 8]) hM [2, 1] [0, 3, 4] rfl rfl rfl (by decide) (x_runV (As := [.ref (sd 0), .int (nI f), .int (nI t), .int (nI g), .int (nI n)]) (rest := []) hfix (c_X1_send l D q nd N sd X S f t g (nI n) hT (by omega) (by omega) (by omega) hK hw6) (cwV 5 hts gX8_give_X1_send rfl rfl rfl (by decide +kernel) ⟨Nat.le_of_ble_eq_true rfl, Nat.le_of_ble_eq_true rfl⟩) hM [2, 1] rfl rfl 2 0 rfl rfl rfl rfl rfl hl.1 rfl (Nat.le_of_ble_eq_true rfl) dX8_give_100 ⟨Nat.le_of_ble_eq_true rfl, Nat.le_of_ble_eq_true rfl⟩) (fun u H locs hq hM => ?_)
              have hM : xM D (TY q) [w8 q ad ω0 (sd 0) ω2 ω3 ω4 (nd 0) (ud 0) ω7 ω8 ω9, wp q ud (xpA 8 uh ua) 8 (nI (xpH 8 uh)), wpl q (xpA 8 uh ua) (xpK 8 uh U N) 8, wk q nd (kGive N (xap (S 6 f) (S 6 t)) f t g (nI n)), wst q sd X] A s.heap s H locs := hM
              have hM : xM D (TY q) [w8 q ad ω0 (sd 0) ω2 ω3 ω4 (nd 0) (ud 0) ω7 ω8 ω9, wst q sd X, wk q nd (kGive N (xap (S 6 f) (S 6 t)) f t g (nI n)), wp q ud (xpA 8 uh ua) 8 (nI (xpH 8 uh)), wpl q (xpA 8 uh ua) (xpK 8 uh U N) 8] A s.heap s H locs := hM.sel [0, 4, 3, 1, 2] rfl rfl
              refine lv_iload hx hb dX8_give_103 (lv_at hl 0 rfl) ?_
              exact x_iret hx hb hr hlocks () hM (show xarr N (S 6 f) (S 6 t) (5 * f + g) (nI n) = xarr N (S 6 f) (S 6 t) (5 * f + g) (nI n) from rfl) dX8_give_105
          · exfalso; omega
      · exfalso; omega
