set_option maxRecDepth 20000 in
theorem ggX8_buy_X8_within : GoodIn wsX8_buy wsX8_within := goodIn_r _ [10] (by decide +kernel) (by decide +kernel)
set_option maxRecDepth 20000 in
theorem gX8_buy_X8_within : GoodIn wsX8_buy (va_wsS RX8 91 yX8_within wsX8_within) := goodIn_app (goodIn_of _ (by decide +kernel)) ggX8_buy_X8_within
set_option maxRecDepth 20000 in
theorem ggX8_buy_X6_seekMinute : GoodIn wsX8_buy wsX6_seekMinute := goodIn_r _ [15, 16, 17, 18, 19, 20, 21, 22, 23, 40, 41, 42, 43, 44, 45] (by decide +kernel) (by decide +kernel)
set_option maxRecDepth 20000 in
theorem gX8_buy_X6_seekMinute : GoodIn wsX8_buy (wsV RX8 224 RX6 yX6_seekMinute wsX6_seekMinute) := goodIn_app (goodIn_of _ (by decide +kernel)) ggX8_buy_X6_seekMinute
set_option maxRecDepth 20000 in
theorem ggX8_buy_X6_partOf : GoodIn wsX8_buy wsX6_partOf := goodIn_r _ [26, 27, 28, 14, 29] (by decide +kernel) (by decide +kernel)
set_option maxRecDepth 20000 in
theorem gX8_buy_X6_partOf : GoodIn wsX8_buy (va_wsS RX8 218 yX6_partOf wsX6_partOf) := goodIn_app (goodIn_of _ (by decide +kernel)) ggX8_buy_X6_partOf
theorem dX8_buy_0 : decode cX8_buy 0 = .ok (.iload_n 1, 1) := by decide +kernel
theorem dX8_buy_1 : decode cX8_buy 1 = .ok (.iconst 0, 1) := by decide +kernel
theorem dX8_buy_2 : decode cX8_buy 2 = .ok (.bipush 99, 2) := by decide +kernel
theorem dX8_buy_4 : decode cX8_buy 4 = .ok (.invokestatic 91, 3) := by decide +kernel
theorem dX8_buy_7 : decode cX8_buy 7 = .ok (.ifCond .eq 23, 3) := by decide +kernel
theorem dX8_buy_10 : decode cX8_buy 10 = .ok (.iload_n 2, 1) := by decide +kernel
theorem dX8_buy_11 : decode cX8_buy 11 = .ok (.iconst 0, 1) := by decide +kernel
theorem dX8_buy_12 : decode cX8_buy 12 = .ok (.bipush 99, 2) := by decide +kernel
theorem dX8_buy_14 : decode cX8_buy 14 = .ok (.invokestatic 91, 3) := by decide +kernel
theorem dX8_buy_17 : decode cX8_buy 17 = .ok (.ifCond .eq 13, 3) := by decide +kernel
theorem dX8_buy_20 : decode cX8_buy 20 = .ok (.iload_n 3, 1) := by decide +kernel
theorem dX8_buy_21 : decode cX8_buy 21 = .ok (.iconst 0, 1) := by decide +kernel
theorem dX8_buy_22 : decode cX8_buy 22 = .ok (.bipush 9, 2) := by decide +kernel
theorem dX8_buy_24 : decode cX8_buy 24 = .ok (.invokestatic 91, 3) := by decide +kernel
theorem dX8_buy_27 : decode cX8_buy 27 = .ok (.ifCond .ne 7, 3) := by decide +kernel
theorem dX8_buy_30 : decode cX8_buy 30 = .ok (.ldc2_w 222, 3) := by decide +kernel
theorem dX8_buy_33 : decode cX8_buy 33 = .ok (.lreturn, 1) := by decide +kernel
theorem dX8_buy_34 : decode cX8_buy 34 = .ok (.iload 4, 2) := by decide +kernel
theorem dX8_buy_36 : decode cX8_buy 36 = .ok (.iconst 0, 1) := by decide +kernel
theorem dX8_buy_37 : decode cX8_buy 37 = .ok (.bipush 10, 2) := by decide +kernel
theorem dX8_buy_39 : decode cX8_buy 39 = .ok (.invokestatic 91, 3) := by decide +kernel
theorem dX8_buy_42 : decode cX8_buy 42 = .ok (.ifCond .eq 13, 3) := by decide +kernel
theorem dX8_buy_45 : decode cX8_buy 45 = .ok (.iload 5, 2) := by decide +kernel
theorem dX8_buy_47 : decode cX8_buy 47 = .ok (.iconst 0, 1) := by decide +kernel
theorem dX8_buy_48 : decode cX8_buy 48 = .ok (.iconst 2, 1) := by decide +kernel
theorem dX8_buy_49 : decode cX8_buy 49 = .ok (.invokestatic 91, 3) := by decide +kernel
theorem dX8_buy_52 : decode cX8_buy 52 = .ok (.ifCond .ne 7, 3) := by decide +kernel
theorem dX8_buy_55 : decode cX8_buy 55 = .ok (.ldc2_w 222, 3) := by decide +kernel
theorem dX8_buy_58 : decode cX8_buy 58 = .ok (.lreturn, 1) := by decide +kernel
theorem dX8_buy_59 : decode cX8_buy 59 = .ok (.aload_n 0, 1) := by decide +kernel
theorem dX8_buy_60 : decode cX8_buy 60 = .ok (.getfield 65, 3) := by decide +kernel
theorem dX8_buy_63 : decode cX8_buy 63 = .ok (.iload_n 1, 1) := by decide +kernel
theorem dX8_buy_64 : decode cX8_buy 64 = .ok (.iload_n 2, 1) := by decide +kernel
theorem dX8_buy_65 : decode cX8_buy 65 = .ok (.iload_n 3, 1) := by decide +kernel
theorem dX8_buy_66 : decode cX8_buy 66 = .ok (.iload 4, 2) := by decide +kernel
theorem dX8_buy_68 : decode cX8_buy 68 = .ok (.invokevirtual 224, 3) := by decide +kernel
theorem dX8_buy_71 : decode cX8_buy 71 = .ok (.iload 5, 2) := by decide +kernel
theorem dX8_buy_73 : decode cX8_buy 73 = .ok (.ifCond .ne 12, 3) := by decide +kernel
theorem dX8_buy_76 : decode cX8_buy 76 = .ok (.aload_n 0, 1) := by decide +kernel
theorem dX8_buy_77 : decode cX8_buy 77 = .ok (.getfield 65, 3) := by decide +kernel
theorem dX8_buy_80 : decode cX8_buy 80 = .ok (.getfield 228, 3) := by decide +kernel
theorem dX8_buy_83 : decode cX8_buy 83 = .ok (.i2l, 1) := by decide +kernel
theorem dX8_buy_84 : decode cX8_buy 84 = .ok (.lreturn, 1) := by decide +kernel
theorem dX8_buy_85 : decode cX8_buy 85 = .ok (.aload_n 0, 1) := by decide +kernel
theorem dX8_buy_86 : decode cX8_buy 86 = .ok (.getfield 65, 3) := by decide +kernel
theorem dX8_buy_89 : decode cX8_buy 89 = .ok (.getfield 231, 3) := by decide +kernel
theorem dX8_buy_92 : decode cX8_buy 92 = .ok (.ldc2_w 235, 3) := by decide +kernel
theorem dX8_buy_95 : decode cX8_buy 95 = .ok (.ladd, 1) := by decide +kernel
theorem dX8_buy_96 : decode cX8_buy 96 = .ok (.ldc2_w 237, 3) := by decide +kernel
theorem dX8_buy_99 : decode cX8_buy 99 = .ok (.iload 5, 2) := by decide +kernel
theorem dX8_buy_101 : decode cX8_buy 101 = .ok (.iconst 1, 1) := by decide +kernel
theorem dX8_buy_102 : decode cX8_buy 102 = .ok (.if_icmp .ne 7, 3) := by decide +kernel
theorem dX8_buy_105 : decode cX8_buy 105 = .ok (.iconst 1, 1) := by decide +kernel
theorem dX8_buy_106 : decode cX8_buy 106 = .ok (.goto 4, 3) := by decide +kernel
theorem dX8_buy_109 : decode cX8_buy 109 = .ok (.iconst 0, 1) := by decide +kernel
theorem dX8_buy_110 : decode cX8_buy 110 = .ok (.invokestatic 218, 3) := by decide +kernel
theorem dX8_buy_113 : decode cX8_buy 113 = .ok (.lreturn, 1) := by decide +kernel
theorem lkX8_buy_65 : Cond.fieldLink RX8 65 "LeftAtFive" "shops" "LLeftAtFive$Shops;" ∈ wsX8_buy := by decide +kernel
theorem lkX8_buy_228 : Cond.fieldLink RX8 228 "LeftAtFive$Shops" "bestMinute" "I" ∈ wsX8_buy := by decide +kernel
theorem lkX8_buy_231 : Cond.fieldLink RX8 231 "LeftAtFive$Shops" "bestGain" "J" ∈ wsX8_buy := by decide +kernel
theorem iwX8_buy_X6 : ∀ w ∈ wsX60, w ∈ wsX8_buy := by decide +kernel
theorem iwX8_buy_X8 : ∀ w ∈ wsX80, w ∈ wsX8_buy := by decide +kernel
set_option maxHeartbeats 2000000 in
set_option maxRecDepth 100000 in
theorem c_X8_buy (l : Launch) (D : va_G) (q : Nat → ClassId) (ad : Nat → Nat) (ω0 : Nat) (ω1 : Nat) (ω2 : Nat) (ω3 : Nat) (ω4 : Nat) (ω5 : Nat) (ω6 : Nat) (ω7 : Nat) (ω8 : Nat) (ω9 : Nat) (gd : Nat → Nat) (γ0 : Int32) (γ1 : Int64) (γ2 : Int32) (γ3 : Nat → Int32) (γ4 : Nat → Int32) (γ5 : Nat → Int32) (v : Nat) (a : Nat) (b : Nat) (x : Nat) (what : Nat) (hv9 : v ≤ 99) (ha9 : a ≤ 99) (hb9 : b ≤ 9) (hx9 : x ≤ 10) (hwhat9 : what ≤ 2) (hA : 0 ≤ (xbA v a b x).toInt) : xC l yX8_buy wsX8_buy ({ frames := 2, cells := 0, slots := 0, locals := 69 }) D (TY q) [w8 q ad ω0 ω1 ω2 ω3 ω4 ω5 ω6 ω7 ω8 (gd 0), w6 q gd γ0 γ1 γ2 γ3 γ4 γ5] [.ref (ad 0), .int (nI v), .int (nI a), .int (nI b), .int (nI x), .int (nI what)] (xQl D (TY q) (fun (r : Int64) (_ : Unit) => r = xbuy v a b x what) (fun _ => [w8 q ad ω0 ω1 ω2 ω3 ω4 ω5 ω6 ω7 ω8 (gd 0), w6 q gd (xbR v a b x 11).2 (xbR v a b x 11).1 γ2 γ3 γ4 γ5])) 0 0 := by
  refine x_enter (cc := cX8_buy) (maxL := 6) (ret := (some .long)) (by decide) rfl (Nat.le_of_ble_eq_true rfl) ?_
  intro p e s m below meth c A ls H locs hfix hr hlocks hinit hM hl
  obtain ⟨hx, hb, hml, hown, hts⟩ := id hfix
  have hl : lv_has ls 6 [(0, .ref (ad 0)), (1, .int (nI v)), (2, .int (nI a)), (3, .int (nI b)), (4, .int (nI x)), (5, .int (nI what))] := hl
  have hq9 : (1000 * 10000000000 : Int64) = 10000000000000 := by decide
  refine lv_iload_n hx hb dX8_buy_0 rfl (lv_at hl 1 rfl) ?_
  refine lv_iconst (v := nI 0) hx hb dX8_buy_1 (by decide) ?_
  refine lv_bipush (v := nI 99) hx hb dX8_buy_2 (by decide) ?_
  refine x_calli (bc := []) (br := [w8 q ad ω0 ω1 ω2 ω3 ω4 ω5 ω6 ω7 ω8 (gd 0), w6 q gd γ0 γ1 γ2 γ3 γ4 γ5]) hM [] [0, 1] rfl rfl rfl (by decide) (x_runS (As := [.int (nI v), .int (nI 0), .int (nI 99)]) (rest := []) hfix (c_X8_within l D q (nI v) (nI 0) (nI 99) ((v : Nat) : Int) (0 : Int) (99 : Int) (nI_toInt (n := v) (by omega)) (nI_toInt (n := 0) (by decide)) (nI_toInt (n := 99) (by decide))) (va_cwS 3 hts gX8_buy_X8_within rfl rfl rfl (by decide +kernel) ⟨Nat.le_of_ble_eq_true rfl, Nat.le_of_ble_eq_true rfl⟩) hM [] rfl rfl rfl hl.1 rfl (Nat.le_of_ble_eq_true rfl) dX8_buy_4 ⟨Nat.le_of_ble_eq_true rfl, Nat.le_of_ble_eq_true rfl⟩) (fun r u H locs hq hM => ?_)
  subst hq
  have hM : xM D (TY q) [w8 q ad ω0 ω1 ω2 ω3 ω4 ω5 ω6 ω7 ω8 (gd 0), w6 q gd γ0 γ1 γ2 γ3 γ4 γ5] A s.heap s H locs := hM
  refine x_ifz_eq (P := (0 : Int) ≤ ((v : Nat) : Int) ∧ ((v : Nat) : Int) ≤ (99 : Int)) (tgt := 30) hx hb dX8_buy_7 (by decide) (fun c1 => ?_) (fun c1 => ?_)
  · exfalso; omega
  · refine lv_iload_n hx hb dX8_buy_10 rfl (lv_at hl 2 rfl) ?_
    refine lv_iconst (v := nI 0) hx hb dX8_buy_11 (by decide) ?_
    refine lv_bipush (v := nI 99) hx hb dX8_buy_12 (by decide) ?_
    refine x_calli (bc := []) (br := [w8 q ad ω0 ω1 ω2 ω3 ω4 ω5 ω6 ω7 ω8 (gd 0), w6 q gd γ0 γ1 γ2 γ3 γ4 γ5]) hM [] [0, 1] rfl rfl rfl (by decide) (x_runS (As := [.int (nI a), .int (nI 0), .int (nI 99)]) (rest := []) hfix (c_X8_within l D q (nI a) (nI 0) (nI 99) ((a : Nat) : Int) (0 : Int) (99 : Int) (nI_toInt (n := a) (by omega)) (nI_toInt (n := 0) (by decide)) (nI_toInt (n := 99) (by decide))) (va_cwS 3 hts gX8_buy_X8_within rfl rfl rfl (by decide +kernel) ⟨Nat.le_of_ble_eq_true rfl, Nat.le_of_ble_eq_true rfl⟩) hM [] rfl rfl rfl hl.1 rfl (Nat.le_of_ble_eq_true rfl) dX8_buy_14 ⟨Nat.le_of_ble_eq_true rfl, Nat.le_of_ble_eq_true rfl⟩) (fun r u H locs hq hM => ?_)
    subst hq
    have hM : xM D (TY q) [w8 q ad ω0 ω1 ω2 ω3 ω4 ω5 ω6 ω7 ω8 (gd 0), w6 q gd γ0 γ1 γ2 γ3 γ4 γ5] A s.heap s H locs := hM
    refine x_ifz_eq (P := (0 : Int) ≤ ((a : Nat) : Int) ∧ ((a : Nat) : Int) ≤ (99 : Int)) (tgt := 30) hx hb dX8_buy_17 (by decide) (fun c2 => ?_) (fun c2 => ?_)
    · exfalso; omega
    · refine lv_iload_n hx hb dX8_buy_20 rfl (lv_at hl 3 rfl) ?_
      refine lv_iconst (v := nI 0) hx hb dX8_buy_21 (by decide) ?_
      refine lv_bipush (v := nI 9) hx hb dX8_buy_22 (by decide) ?_
      refine x_calli (bc := []) (br := [w8 q ad ω0 ω1 ω2 ω3 ω4 ω5 ω6 ω7 ω8 (gd 0), w6 q gd γ0 γ1 γ2 γ3 γ4 γ5]) hM [] [0, 1] rfl rfl rfl (by decide) (x_runS (As := [.int (nI b), .int (nI 0), .int (nI 9)]) (rest := []) hfix (c_X8_within l D q (nI b) (nI 0) (nI 9) ((b : Nat) : Int) (0 : Int) (9 : Int) (nI_toInt (n := b) (by omega)) (nI_toInt (n := 0) (by decide)) (nI_toInt (n := 9) (by decide))) (va_cwS 3 hts gX8_buy_X8_within rfl rfl rfl (by decide +kernel) ⟨Nat.le_of_ble_eq_true rfl, Nat.le_of_ble_eq_true rfl⟩) hM [] rfl rfl rfl hl.1 rfl (Nat.le_of_ble_eq_true rfl) dX8_buy_24 ⟨Nat.le_of_ble_eq_true rfl, Nat.le_of_ble_eq_true rfl⟩) (fun r u H locs hq hM => ?_)
      subst hq
      have hM : xM D (TY q) [w8 q ad ω0 ω1 ω2 ω3 ω4 ω5 ω6 ω7 ω8 (gd 0), w6 q gd γ0 γ1 γ2 γ3 γ4 γ5] A s.heap s H locs := hM
      refine x_ifz_ne (P := (0 : Int) ≤ ((b : Nat) : Int) ∧ ((b : Nat) : Int) ≤ (9 : Int)) (tgt := 34) hx hb dX8_buy_27 (by decide) (fun c3 => ?_) (fun c3 => ?_)
      · refine lv_iload hx hb dX8_buy_34 (lv_at hl 4 rfl) ?_
        refine lv_iconst (v := nI 0) hx hb dX8_buy_36 (by decide) ?_
        refine lv_bipush (v := nI 10) hx hb dX8_buy_37 (by decide) ?_
        refine x_calli (bc := []) (br := [w8 q ad ω0 ω1 ω2 ω3 ω4 ω5 ω6 ω7 ω8 (gd 0), w6 q gd γ0 γ1 γ2 γ3 γ4 γ5]) hM [] [0, 1] rfl rfl rfl (by decide) (x_runS (As := [.int (nI x), .int (nI 0), .int (nI 10)]) (rest := []) hfix (c_X8_within l D q (nI x) (nI 0) (nI 10) ((x : Nat) : Int) (0 : Int) (10 : Int) (nI_toInt (n := x) (by omega)) (nI_toInt (n := 0) (by decide)) (nI_toInt (n := 10) (by decide))) (va_cwS 3 hts gX8_buy_X8_within rfl rfl rfl (by decide +kernel) ⟨Nat.le_of_ble_eq_true rfl, Nat.le_of_ble_eq_true rfl⟩) hM [] rfl rfl rfl hl.1 rfl (Nat.le_of_ble_eq_true rfl) dX8_buy_39 ⟨Nat.le_of_ble_eq_true rfl, Nat.le_of_ble_eq_true rfl⟩) (fun r u H locs hq hM => ?_)
        subst hq
        have hM : xM D (TY q) [w8 q ad ω0 ω1 ω2 ω3 ω4 ω5 ω6 ω7 ω8 (gd 0), w6 q gd γ0 γ1 γ2 γ3 γ4 γ5] A s.heap s H locs := hM
        refine x_ifz_eq (P := (0 : Int) ≤ ((x : Nat) : Int) ∧ ((x : Nat) : Int) ≤ (10 : Int)) (tgt := 55) hx hb dX8_buy_42 (by decide) (fun c4 => ?_) (fun c4 => ?_)
        · exfalso; omega
        · refine lv_iload hx hb dX8_buy_45 (lv_at hl 5 rfl) ?_
          refine lv_iconst (v := nI 0) hx hb dX8_buy_47 (by decide) ?_
          refine lv_iconst (v := nI 2) hx hb dX8_buy_48 (by decide) ?_
          refine x_calli (bc := []) (br := [w8 q ad ω0 ω1 ω2 ω3 ω4 ω5 ω6 ω7 ω8 (gd 0), w6 q gd γ0 γ1 γ2 γ3 γ4 γ5]) hM [] [0, 1] rfl rfl rfl (by decide) (x_runS (As := [.int (nI what), .int (nI 0), .int (nI 2)]) (rest := []) hfix (c_X8_within l D q (nI what) (nI 0) (nI 2) ((what : Nat) : Int) (0 : Int) (2 : Int) (nI_toInt (n := what) (by omega)) (nI_toInt (n := 0) (by decide)) (nI_toInt (n := 2) (by decide))) (va_cwS 3 hts gX8_buy_X8_within rfl rfl rfl (by decide +kernel) ⟨Nat.le_of_ble_eq_true rfl, Nat.le_of_ble_eq_true rfl⟩) hM [] rfl rfl rfl hl.1 rfl (Nat.le_of_ble_eq_true rfl) dX8_buy_49 ⟨Nat.le_of_ble_eq_true rfl, Nat.le_of_ble_eq_true rfl⟩) (fun r u H locs hq hM => ?_)
          subst hq
          have hM : xM D (TY q) [w8 q ad ω0 ω1 ω2 ω3 ω4 ω5 ω6 ω7 ω8 (gd 0), w6 q gd γ0 γ1 γ2 γ3 γ4 γ5] A s.heap s H locs := hM
          refine x_ifz_ne (P := (0 : Int) ≤ ((what : Nat) : Int) ∧ ((what : Nat) : Int) ≤ (2 : Int)) (tgt := 59) hx hb dX8_buy_52 (by decide) (fun c5 => ?_) (fun c5 => ?_)
          · refine lv_aload_n hx hb dX8_buy_59 rfl (lv_at hl 0 rfl) ?_
            refine x_get hx hb hts iwX8_buy_X8 hown hM 0 0 rfl rfl rfl 9 (by decide) (hts _ lkX8_buy_65) (fun _ h => h) rfl dX8_buy_60 ?_
            refine lv_iload_n hx hb dX8_buy_63 rfl (lv_at hl 1 rfl) ?_
            refine lv_iload_n hx hb dX8_buy_64 rfl (lv_at hl 2 rfl) ?_
            refine lv_iload_n hx hb dX8_buy_65 rfl (lv_at hl 3 rfl) ?_
            refine lv_iload hx hb dX8_buy_66 (lv_at hl 4 rfl) ?_
            refine x_callv (bc := [w6 q gd γ0 γ1 γ2 γ3 γ4 γ5]) (br := [w8 q ad ω0 ω1 ω2 ω3 ω4 ω5 ω6 ω7 ω8 (gd 0)]) hM [1] [0] rfl rfl rfl (by decide) (x_runV (As := [.int (nI v), .int (nI a), .int (nI b), .int (nI x)]) (rest := []) hfix (c_X6_seekMinute l D q gd γ0 γ1 γ2 γ3 γ4 γ5 v a b x (by omega) ha9 hb9 (by omega)) (cwV 4 hts gX8_buy_X6_seekMinute rfl rfl rfl (by decide +kernel) ⟨Nat.le_of_ble_eq_true rfl, Nat.le_of_ble_eq_true rfl⟩) hM [1] rfl rfl 1 0 rfl rfl rfl rfl rfl hl.1 rfl (Nat.le_of_ble_eq_true rfl) dX8_buy_68 ⟨Nat.le_of_ble_eq_true rfl, Nat.le_of_ble_eq_true rfl⟩) (fun u H locs hq hM => ?_)
            have hM : xM D (TY q) [w8 q ad ω0 ω1 ω2 ω3 ω4 ω5 ω6 ω7 ω8 (gd 0), w6 q gd (xbR v a b x 11).2 (xbR v a b x 11).1 γ2 γ3 γ4 γ5] A s.heap s H locs := hM
            refine lv_iload hx hb dX8_buy_71 (lv_at hl 5 rfl) ?_
            refine x_if_ne (x := what) (tgt := 85) hx hb (by omega) dX8_buy_73 (by decide) (fun c6 => ?_) (fun c6 => ?_)
            · refine lv_aload_n hx hb dX8_buy_85 rfl (lv_at hl 0 rfl) ?_
              refine x_get hx hb hts iwX8_buy_X8 hown hM 0 0 rfl rfl rfl 9 (by decide) (hts _ lkX8_buy_65) (fun _ h => h) rfl dX8_buy_86 ?_
              refine x_get hx hb hts iwX8_buy_X6 hown hM 1 0 rfl rfl rfl 1 (by decide) (hts _ lkX8_buy_231) (fun _ h => h) rfl dX8_buy_89 ?_
              refine lv_ldc2 (v := 10000000000000) hx hb hown (hts (.constantLong RX8 235 (10000000000000)) (by decide +kernel)) dX8_buy_92 ?_
              refine lv_ladd hx hb dX8_buy_95 ?_
              refine lv_ldc2 (v := 10000000000) hx hb hown (hts (.constantLong RX8 237 (10000000000)) (by decide +kernel)) dX8_buy_96 ?_
              refine lv_iload hx hb dX8_buy_99 (lv_at hl 5 rfl) ?_
              refine lv_iconst (v := nI 1) hx hb dX8_buy_101 (by decide) ?_
              refine x_icmp_ne (x := what) (y := 1) (tgt := 109) hx hb (by omega) (by omega) dX8_buy_102 (by decide) (fun c7 => ?_) (fun c7 => ?_)
              · refine lv_iconst (v := nI 0) hx hb dX8_buy_109 (by decide) ?_
                refine x_calll (bc := []) (br := [w8 q ad ω0 ω1 ω2 ω3 ω4 ω5 ω6 ω7 ω8 (gd 0), w6 q gd (xbR v a b x 11).2 (xbR v a b x 11).1 γ2 γ3 γ4 γ5]) hM [] [0, 1] rfl rfl rfl (by decide) (x_runS (As := [.long ((xbR v a b x 11).1 + (10000000000000 : Int64)), .long (10000000000 : Int64), .int (nI 0)]) (rest := []) hfix (c_X6_partOf l D q ((xbR v a b x 11).1 + (10000000000000 : Int64)) (10000000000 : Int64) (nI 0) (by unfold xbA at hA; rw [hq9] at hA; exact hA) (by decide)) (va_cwS 3 hts gX8_buy_X6_partOf rfl rfl rfl (by decide +kernel) ⟨Nat.le_of_ble_eq_true rfl, Nat.le_of_ble_eq_true rfl⟩) hM [] rfl rfl rfl hl.1 rfl (Nat.le_of_ble_eq_true rfl) dX8_buy_110 ⟨Nat.le_of_ble_eq_true rfl, Nat.le_of_ble_eq_true rfl⟩) (fun r u H locs hq hM => ?_)
                subst hq
                have hM : xM D (TY q) [w8 q ad ω0 ω1 ω2 ω3 ω4 ω5 ω6 ω7 ω8 (gd 0), w6 q gd (xbR v a b x 11).2 (xbR v a b x 11).1 γ2 γ3 γ4 γ5] A s.heap s H locs := hM
                exact x_lret hx hb hr hlocks () hM (show (if (nI 0) = 0 then (10000000000 : Int64) else ((xbR v a b x 11).1 + (10000000000000 : Int64))) / xgcd ((xbR v a b x 11).1 + (10000000000000 : Int64)) (10000000000 : Int64) = xbuy v a b x what from by (unfold xbuy xbA; rw [hq9, if_neg (c := what = 0) (by omega)]; first | (rw [if_pos (c := what = 1) (by omega), if_neg (c := nI 1 = 0) (by decide)]) | (rw [if_neg (c := what = 1) (by omega), if_pos (c := nI 0 = 0) (by decide)]))) dX8_buy_113
              · refine lv_iconst (v := nI 1) hx hb dX8_buy_105 (by decide) ?_
                refine lv_goto (tgt := 110) hx hb dX8_buy_106 (by decide) ?_
                refine x_calll (bc := []) (br := [w8 q ad ω0 ω1 ω2 ω3 ω4 ω5 ω6 ω7 ω8 (gd 0), w6 q gd (xbR v a b x 11).2 (xbR v a b x 11).1 γ2 γ3 γ4 γ5]) hM [] [0, 1] rfl rfl rfl (by decide) (x_runS (As := [.long ((xbR v a b x 11).1 + (10000000000000 : Int64)), .long (10000000000 : Int64), .int (nI 1)]) (rest := []) hfix (c_X6_partOf l D q ((xbR v a b x 11).1 + (10000000000000 : Int64)) (10000000000 : Int64) (nI 1) (by unfold xbA at hA; rw [hq9] at hA; exact hA) (by decide)) (va_cwS 3 hts gX8_buy_X6_partOf rfl rfl rfl (by decide +kernel) ⟨Nat.le_of_ble_eq_true rfl, Nat.le_of_ble_eq_true rfl⟩) hM [] rfl rfl rfl hl.1 rfl (Nat.le_of_ble_eq_true rfl) dX8_buy_110 ⟨Nat.le_of_ble_eq_true rfl, Nat.le_of_ble_eq_true rfl⟩) (fun r u H locs hq hM => ?_)
                subst hq
                have hM : xM D (TY q) [w8 q ad ω0 ω1 ω2 ω3 ω4 ω5 ω6 ω7 ω8 (gd 0), w6 q gd (xbR v a b x 11).2 (xbR v a b x 11).1 γ2 γ3 γ4 γ5] A s.heap s H locs := hM
                exact x_lret hx hb hr hlocks () hM (show (if (nI 1) = 0 then (10000000000 : Int64) else ((xbR v a b x 11).1 + (10000000000000 : Int64))) / xgcd ((xbR v a b x 11).1 + (10000000000000 : Int64)) (10000000000 : Int64) = xbuy v a b x what from by (unfold xbuy xbA; rw [hq9, if_neg (c := what = 0) (by omega)]; first | (rw [if_pos (c := what = 1) (by omega), if_neg (c := nI 1 = 0) (by decide)]) | (rw [if_neg (c := what = 1) (by omega), if_pos (c := nI 0 = 0) (by decide)]))) dX8_buy_113
            · refine lv_aload_n hx hb dX8_buy_76 rfl (lv_at hl 0 rfl) ?_
              refine x_get hx hb hts iwX8_buy_X8 hown hM 0 0 rfl rfl rfl 9 (by decide) (hts _ lkX8_buy_65) (fun _ h => h) rfl dX8_buy_77 ?_
              refine x_get hx hb hts iwX8_buy_X6 hown hM 1 0 rfl rfl rfl 0 (by decide) (hts _ lkX8_buy_228) (fun _ h => h) rfl dX8_buy_80 ?_
              refine x_i2l hx hb dX8_buy_83 ?_
              exact x_lret hx hb hr hlocks () hM (show (xbR v a b x 11).2.toInt64 = xbuy v a b x what from by (unfold xbuy; exact (if_pos (by omega)).symm)) dX8_buy_84
          · exfalso; omega
      · exfalso; omega
