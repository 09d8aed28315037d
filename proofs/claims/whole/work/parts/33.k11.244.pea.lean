set_option maxRecDepth 20000 in
theorem ggX8_pea_X8_within : GoodIn wsX8_pea wsX8_within := goodIn_r _ [5] (by decide +kernel) (by decide +kernel)
set_option maxRecDepth 20000 in
theorem gX8_pea_X8_within : GoodIn wsX8_pea (va_wsS RX8 91 yX8_within wsX8_within) := goodIn_app (goodIn_of _ (by decide +kernel)) ggX8_pea_X8_within
set_option maxRecDepth 20000 in
theorem ggX8_pea_X6_peasToWin : GoodIn wsX8_pea wsX6_peasToWin := goodIn_r _ [10, 11, 12, 13, 14, 9, 15, 26, 27, 28, 29, 30, 31] (by decide +kernel) (by decide +kernel)
set_option maxRecDepth 20000 in
theorem gX8_pea_X6_peasToWin : GoodIn wsX8_pea (wsV RX8 259 RX6 yX6_peasToWin wsX6_peasToWin) := goodIn_app (goodIn_of _ (by decide +kernel)) ggX8_pea_X6_peasToWin
theorem dX8_pea_0 : decode cX8_pea 0 = .ok (.iload_n 1, 1) := by decide +kernel
theorem dX8_pea_1 : decode cX8_pea 1 = .ok (.iconst 1, 1) := by decide +kernel
theorem dX8_pea_2 : decode cX8_pea 2 = .ok (.bipush 99, 2) := by decide +kernel
theorem dX8_pea_4 : decode cX8_pea 4 = .ok (.invokestatic 91, 3) := by decide +kernel
theorem dX8_pea_7 : decode cX8_pea 7 = .ok (.ifCond .eq 13, 3) := by decide +kernel
theorem dX8_pea_10 : decode cX8_pea 10 = .ok (.iload_n 2, 1) := by decide +kernel
theorem dX8_pea_11 : decode cX8_pea 11 = .ok (.iconst 1, 1) := by decide +kernel
theorem dX8_pea_12 : decode cX8_pea 12 = .ok (.bipush 9, 2) := by decide +kernel
theorem dX8_pea_14 : decode cX8_pea 14 = .ok (.invokestatic 91, 3) := by decide +kernel
theorem dX8_pea_17 : decode cX8_pea 17 = .ok (.ifCond .ne 5, 3) := by decide +kernel
theorem dX8_pea_20 : decode cX8_pea 20 = .ok (.iconst (-1), 1) := by decide +kernel
theorem dX8_pea_21 : decode cX8_pea 21 = .ok (.ireturn, 1) := by decide +kernel
theorem dX8_pea_22 : decode cX8_pea 22 = .ok (.aload_n 0, 1) := by decide +kernel
theorem dX8_pea_23 : decode cX8_pea 23 = .ok (.getfield 65, 3) := by decide +kernel
theorem dX8_pea_26 : decode cX8_pea 26 = .ok (.iload_n 1, 1) := by decide +kernel
theorem dX8_pea_27 : decode cX8_pea 27 = .ok (.iload_n 2, 1) := by decide +kernel
theorem dX8_pea_28 : decode cX8_pea 28 = .ok (.invokevirtual 259, 3) := by decide +kernel
theorem dX8_pea_31 : decode cX8_pea 31 = .ok (.ireturn, 1) := by decide +kernel
theorem lkX8_pea_65 : Cond.fieldLink RX8 65 "LeftAtFive" "shops" "LLeftAtFive$Shops;" ∈ wsX8_pea := by decide +kernel
theorem iwX8_pea_X8 : ∀ w ∈ wsX80, w ∈ wsX8_pea := by decide +kernel
set_option maxHeartbeats 2000000 in
set_option maxRecDepth 100000 in
theorem c_X8_pea (l : Launch) (D : va_G) (q : Nat → ClassId) (ad : Nat → Nat) (ω0 : Nat) (ω1 : Nat) (ω2 : Nat) (ω3 : Nat) (ω4 : Nat) (ω5 : Nat) (ω6 : Nat) (ω7 : Nat) (ω8 : Nat) (ω9 : Nat) (gd : Nat → Nat) (γ0 : Int32) (γ1 : Int64) (γ2 : Int32) (γ3 : Nat → Int32) (γ4 : Nat → Int32) (γ5 : Nat → Int32) (n : Nat) (mm : Nat) (hn9 : 1 ≤ n ∧ n ≤ 99) (hmm9 : 1 ≤ mm ∧ mm ≤ 9) : xC l yX8_pea wsX8_pea ({ frames := 2, cells := 0, slots := 0, locals := 50 }) D (TY q) [w8 q ad ω0 ω1 ω2 ω3 ω4 ω5 ω6 ω7 ω8 (gd 0), w6 q gd γ0 γ1 γ2 γ3 γ4 γ5] [.ref (ad 0), .int (nI n), .int (nI mm)] (xQi D (TY q) (fun (r : Int32) (_ : Unit) => r = nI (xwe (xct mm γ5 n) n 0 mm)) (fun _ => [w8 q ad ω0 ω1 ω2 ω3 ω4 ω5 ω6 ω7 ω8 (gd 0), w6 q gd γ0 γ1 γ2 γ3 γ4 (xct mm γ5 n)])) 0 0 := by
  refine x_enter (cc := cX8_pea) (maxL := 3) (ret := (some .int)) (by decide) rfl (Nat.le_of_ble_eq_true rfl) ?_
  intro p e s m below meth c A ls H locs hfix hr hlocks hinit hM hl
  obtain ⟨hx, hb, hml, hown, hts⟩ := id hfix
  have hl : lv_has ls 3 [(0, .ref (ad 0)), (1, .int (nI n)), (2, .int (nI mm))] := hl
  refine lv_iload_n hx hb dX8_pea_0 rfl (lv_at hl 1 rfl) ?_
  refine lv_iconst (v := nI 1) hx hb dX8_pea_1 (by decide) ?_
  refine lv_bipush (v := nI 99) hx hb dX8_pea_2 (by decide) ?_
  refine x_calli (bc := []) (br := [w8 q ad ω0 ω1 ω2 ω3 ω4 ω5 ω6 ω7 ω8 (gd 0), w6 q gd γ0 γ1 γ2 γ3 γ4 γ5]) hM [] [0, 1] rfl rfl rfl (by decide) (x_runS (As := [.int (nI n), .int (nI 1), .int (nI 99)]) (rest := []) hfix (c_X8_within l D q (nI n) (nI 1) (nI 99) ((n : Nat) : Int) (1 : Int) (99 : Int) (nI_toInt (n := n) (by omega)) (nI_toInt (n := 1) (by decide)) (nI_toInt (n := 99) (by decide))) (va_cwS 3 hts gX8_pea_X8_within rfl rfl rfl (by decide +kernel) ⟨Nat.le_of_ble_eq_true rfl, Nat.le_of_ble_eq_true rfl⟩) hM [] rfl rfl rfl hl.1 rfl (Nat.le_of_ble_eq_true rfl) dX8_pea_4 ⟨Nat.le_of_ble_eq_true rfl, Nat.le_of_ble_eq_true rfl⟩) (fun r u H locs hq hM => ?_)
  subst hq
  have hM : xM D (TY q) [w8 q ad ω0 ω1 ω2 ω3 ω4 ω5 ω6 ω7 ω8 (gd 0), w6 q gd γ0 γ1 γ2 γ3 γ4 γ5] A s.heap s H locs := hM
  refine x_ifz_eq (P := (1 : Int) ≤ ((n : Nat) : Int) ∧ ((n : Nat) : Int) ≤ (99 : Int)) (tgt := 20) hx hb dX8_pea_7 (by decide) (fun c1 => ?_) (fun c1 => ?_)
  · exfalso; omega
  · refine lv_iload_n hx hb dX8_pea_10 rfl (lv_at hl 2 rfl) ?_
    refine lv_iconst (v := nI 1) hx hb dX8_pea_11 (by decide) ?_
    refine lv_bipush (v := nI 9) hx hb dX8_pea_12 (by decide) ?_
    refine x_calli (bc := []) (br := [w8 q ad ω0 ω1 ω2 ω3 ω4 ω5 ω6 ω7 ω8 (gd 0), w6 q gd γ0 γ1 γ2 γ3 γ4 γ5]) hM [] [0, 1] rfl rfl rfl (by decide) (x_runS (As := [.int (nI mm), .int (nI 1), .int (nI 9)]) (rest := []) hfix (c_X8_within l D q (nI mm) (nI 1) (nI 9) ((mm : Nat) : Int) (1 : Int) (9 : Int) (nI_toInt (n := mm) (by omega)) (nI_toInt (n := 1) (by decide)) (nI_toInt (n := 9) (by decide))) (va_cwS 3 hts gX8_pea_X8_within rfl rfl rfl (by decide +kernel) ⟨Nat.le_of_ble_eq_true rfl, Nat.le_of_ble_eq_true rfl⟩) hM [] rfl rfl rfl hl.1 rfl (Nat.le_of_ble_eq_true rfl) dX8_pea_14 ⟨Nat.le_of_ble_eq_true rfl, Nat.le_of_ble_eq_true rfl⟩) (fun r u H locs hq hM => ?_)
    subst hq
    have hM : xM D (TY q) [w8 q ad ω0 ω1 ω2 ω3 ω4 ω5 ω6 ω7 ω8 (gd 0), w6 q gd γ0 γ1 γ2 γ3 γ4 γ5] A s.heap s H locs := hM
    refine x_ifz_ne (P := (1 : Int) ≤ ((mm : Nat) : Int) ∧ ((mm : Nat) : Int) ≤ (9 : Int)) (tgt := 22) hx hb dX8_pea_17 (by decide) (fun c2 => ?_) (fun c2 => ?_)
    · refine lv_aload_n hx hb dX8_pea_22 rfl (lv_at hl 0 rfl) ?_
      refine x_get hx hb hts iwX8_pea_X8 hown hM 0 0 rfl rfl rfl 9 (by decide) (hts _ lkX8_pea_65) (fun _ h => h) rfl dX8_pea_23 ?_
      refine lv_iload_n hx hb dX8_pea_26 rfl (lv_at hl 1 rfl) ?_
      refine lv_iload_n hx hb dX8_pea_27 rfl (lv_at hl 2 rfl) ?_
      refine x_calli (bc := [w6 q gd γ0 γ1 γ2 γ3 γ4 γ5]) (br := [w8 q ad ω0 ω1 ω2 ω3 ω4 ω5 ω6 ω7 ω8 (gd 0)]) hM [1] [0] rfl rfl rfl (by decide) (x_runV (As := [.int (nI n), .int (nI mm)]) (rest := []) hfix (c_X6_peasToWin l D q gd γ0 γ1 γ2 γ3 γ4 γ5 n mm (by omega) (by omega)) (cwV 2 hts gX8_pea_X6_peasToWin rfl rfl rfl (by decide +kernel) ⟨Nat.le_of_ble_eq_true rfl, Nat.le_of_ble_eq_true rfl⟩) hM [1] rfl rfl 1 0 rfl rfl rfl rfl rfl hl.1 rfl (Nat.le_of_ble_eq_true rfl) dX8_pea_28 ⟨Nat.le_of_ble_eq_true rfl, Nat.le_of_ble_eq_true rfl⟩) (fun r u H locs hq hM => ?_)
      subst hq
      have hM : xM D (TY q) [w8 q ad ω0 ω1 ω2 ω3 ω4 ω5 ω6 ω7 ω8 (gd 0), w6 q gd γ0 γ1 γ2 γ3 γ4 (xct mm γ5 n)] A s.heap s H locs := hM
      exact x_iret hx hb hr hlocks () hM (show nI (xwe (xct mm γ5 n) n 0 mm) = nI (xwe (xct mm γ5 n) n 0 mm) from rfl) dX8_pea_31
    · exfalso; omega
