set_option maxRecDepth 20000 in
theorem ggX8_bake_X8_within : GoodIn wsX8_bake wsX8_within := goodIn_r _ [7] (by decide +kernel) (by decide +kernel)
set_option maxRecDepth 20000 in
theorem gX8_bake_X8_within : GoodIn wsX8_bake (va_wsS RX8 91 yX8_within wsX8_within) := goodIn_app (goodIn_of _ (by decide +kernel)) ggX8_bake_X8_within
set_option maxRecDepth 20000 in
theorem ggX8_bake_X6_bestLoaves : GoodIn wsX8_bake wsX6_bestLoaves := goodIn_r _ [11, 12, 13, 10, 14, 15, 16, 17, 18, 19, 20, 21, 22, 23, 24, 25, 26, 27, 28, 29, 30, 48, 49, 50, 51, 52, 53, 54, 55, 56, 57, 58, 59, 60, 61, 62, 63] (by decide +kernel) (by decide +kernel)
set_option maxRecDepth 20000 in
theorem gX8_bake_X6_bestLoaves : GoodIn wsX8_bake (va_wsS RX8 209 yX6_bestLoaves wsX6_bestLoaves) := goodIn_app (goodIn_of _ (by decide +kernel)) ggX8_bake_X6_bestLoaves
set_option maxRecDepth 20000 in
theorem ggX8_bake_X6_tenfoldCost : GoodIn wsX8_bake wsX6_tenfoldCost := goodIn_r _ [14, 15, 16, 17, 18, 19, 20, 21, 22, 23, 24, 25, 26, 27, 28, 29, 30, 48, 49, 50, 51, 52, 53, 54, 55, 56, 57, 58, 59, 60, 61, 62, 63] (by decide +kernel) (by decide +kernel)
set_option maxRecDepth 20000 in
theorem gX8_bake_X6_tenfoldCost : GoodIn wsX8_bake (va_wsS RX8 212 yX6_tenfoldCost wsX6_tenfoldCost) := goodIn_app (goodIn_of _ (by decide +kernel)) ggX8_bake_X6_tenfoldCost
set_option maxRecDepth 20000 in
theorem ggX8_bake_X6_partOf : GoodIn wsX8_bake wsX6_partOf := goodIn_r _ [34, 35, 36, 10, 37] (by decide +kernel) (by decide +kernel)
set_option maxRecDepth 20000 in
theorem gX8_bake_X6_partOf : GoodIn wsX8_bake (va_wsS RX8 218 yX6_partOf wsX6_partOf) := goodIn_app (goodIn_of _ (by decide +kernel)) ggX8_bake_X6_partOf
theorem dX8_bake_0 : decode cX8_bake 0 = .ok (.iload_n 1, 1) := by decide +kernel
theorem dX8_bake_1 : decode cX8_bake 1 = .ok (.iconst 0, 1) := by decide +kernel
theorem dX8_bake_2 : decode cX8_bake 2 = .ok (.bipush 9, 2) := by decide +kernel
theorem dX8_bake_4 : decode cX8_bake 4 = .ok (.invokestatic 91, 3) := by decide +kernel
theorem dX8_bake_7 : decode cX8_bake 7 = .ok (.ifCond .eq 22, 3) := by decide +kernel
theorem dX8_bake_10 : decode cX8_bake 10 = .ok (.iload_n 2, 1) := by decide +kernel
theorem dX8_bake_11 : decode cX8_bake 11 = .ok (.iconst 0, 1) := by decide +kernel
theorem dX8_bake_12 : decode cX8_bake 12 = .ok (.bipush 9, 2) := by decide +kernel
theorem dX8_bake_14 : decode cX8_bake 14 = .ok (.invokestatic 91, 3) := by decide +kernel
theorem dX8_bake_17 : decode cX8_bake 17 = .ok (.ifCond .eq 12, 3) := by decide +kernel
theorem dX8_bake_20 : decode cX8_bake 20 = .ok (.iload_n 3, 1) := by decide +kernel
theorem dX8_bake_21 : decode cX8_bake 21 = .ok (.iconst 0, 1) := by decide +kernel
theorem dX8_bake_22 : decode cX8_bake 22 = .ok (.iconst 2, 1) := by decide +kernel
theorem dX8_bake_23 : decode cX8_bake 23 = .ok (.invokestatic 91, 3) := by decide +kernel
theorem dX8_bake_26 : decode cX8_bake 26 = .ok (.ifCond .ne 5, 3) := by decide +kernel
theorem dX8_bake_29 : decode cX8_bake 29 = .ok (.iconst (-1), 1) := by decide +kernel
theorem dX8_bake_30 : decode cX8_bake 30 = .ok (.ireturn, 1) := by decide +kernel
theorem dX8_bake_31 : decode cX8_bake 31 = .ok (.aload_n 0, 1) := by decide +kernel
theorem dX8_bake_32 : decode cX8_bake 32 = .ok (.getfield 19, 3) := by decide +kernel
theorem dX8_bake_35 : decode cX8_bake 35 = .ok (.getfield 206, 3) := by decide +kernel
theorem dX8_bake_38 : decode cX8_bake 38 = .ok (.ifCond .ne 6, 3) := by decide +kernel
theorem dX8_bake_41 : decode cX8_bake 41 = .ok (.bipush (-4), 2) := by decide +kernel
theorem dX8_bake_43 : decode cX8_bake 43 = .ok (.ireturn, 1) := by decide +kernel
theorem dX8_bake_44 : decode cX8_bake 44 = .ok (.aload_n 0, 1) := by decide +kernel
theorem dX8_bake_45 : decode cX8_bake 45 = .ok (.getfield 19, 3) := by decide +kernel
theorem dX8_bake_48 : decode cX8_bake 48 = .ok (.iload_n 1, 1) := by decide +kernel
theorem dX8_bake_49 : decode cX8_bake 49 = .ok (.iload_n 2, 1) := by decide +kernel
theorem dX8_bake_50 : decode cX8_bake 50 = .ok (.invokestatic 209, 3) := by decide +kernel
theorem dX8_bake_53 : decode cX8_bake 53 = .ok (.istore 4, 2) := by decide +kernel
theorem dX8_bake_55 : decode cX8_bake 55 = .ok (.iload_n 3, 1) := by decide +kernel
theorem dX8_bake_56 : decode cX8_bake 56 = .ok (.ifCond .ne 6, 3) := by decide +kernel
theorem dX8_bake_59 : decode cX8_bake 59 = .ok (.iload 4, 2) := by decide +kernel
theorem dX8_bake_61 : decode cX8_bake 61 = .ok (.ireturn, 1) := by decide +kernel
theorem dX8_bake_62 : decode cX8_bake 62 = .ok (.aload_n 0, 1) := by decide +kernel
theorem dX8_bake_63 : decode cX8_bake 63 = .ok (.getfield 19, 3) := by decide +kernel
theorem dX8_bake_66 : decode cX8_bake 66 = .ok (.iload 4, 2) := by decide +kernel
theorem dX8_bake_68 : decode cX8_bake 68 = .ok (.iload_n 1, 1) := by decide +kernel
theorem dX8_bake_69 : decode cX8_bake 69 = .ok (.iload_n 2, 1) := by decide +kernel
theorem dX8_bake_70 : decode cX8_bake 70 = .ok (.invokestatic 212, 3) := by decide +kernel
theorem dX8_bake_73 : decode cX8_bake 73 = .ok (.i2l, 1) := by decide +kernel
theorem dX8_bake_74 : decode cX8_bake 74 = .ok (.ldc2_w 216, 3) := by decide +kernel
theorem dX8_bake_77 : decode cX8_bake 77 = .ok (.iload_n 3, 1) := by decide +kernel
theorem dX8_bake_78 : decode cX8_bake 78 = .ok (.iconst 1, 1) := by decide +kernel
theorem dX8_bake_79 : decode cX8_bake 79 = .ok (.if_icmp .ne 7, 3) := by decide +kernel
theorem dX8_bake_82 : decode cX8_bake 82 = .ok (.iconst 1, 1) := by decide +kernel
theorem dX8_bake_83 : decode cX8_bake 83 = .ok (.goto 4, 3) := by decide +kernel
theorem dX8_bake_86 : decode cX8_bake 86 = .ok (.iconst 0, 1) := by decide +kernel
theorem dX8_bake_87 : decode cX8_bake 87 = .ok (.invokestatic 218, 3) := by decide +kernel
theorem dX8_bake_90 : decode cX8_bake 90 = .ok (.l2i, 1) := by decide +kernel
theorem dX8_bake_91 : decode cX8_bake 91 = .ok (.ireturn, 1) := by decide +kernel
theorem lkX8_bake_19 : Cond.fieldLink RX8 19 "LeftAtFive" "street" "LLeftAtFive$Street;" ∈ wsX8_bake := by decide +kernel
theorem lkX8_bake_206 : Cond.fieldLink RX8 206 "LeftAtFive$Street" "demands" "I" ∈ wsX8_bake := by decide +kernel
theorem iwX8_bake_X7 : ∀ w ∈ wsX70, w ∈ wsX8_bake := by decide +kernel
theorem iwX8_bake_X8 : ∀ w ∈ wsX80, w ∈ wsX8_bake := by decide +kernel
set_option maxHeartbeats 2000000 in
set_option maxRecDepth 100000 in
theorem c_X8_bake (l : Launch) (D : va_G) (q : Nat → ClassId) (ad : Nat → Nat) (ω0 : Nat) (ω1 : Nat) (ω2 : Nat) (ω3 : Nat) (ω4 : Nat) (ω5 : Nat) (ω6 : Nat) (ω7 : Nat) (ω8 : Nat) (ω9 : Nat) (sd : Nat → Nat) (X : Nat → Nat → Int32) (S : Nat → Nat → Int32) (la : Nat) (wa : Nat) (what : Nat) (hT : okT X S) (hla9 : la ≤ 9) (hwa9 : wa ≤ 9) (hwhat9 : what ≤ 2) (hD9 : ¬ (tn (S 12 0)) = 0) (hF : 0 ≤ (xbk (S 13) (S 14) (nI la) (nI wa) (tn (S 12 0)) (xbest (fun q1 => xbk (S 13) (S 14) (nI la) (nI wa) (tn (S 12 0)) q1) 20)).toInt) : xC l yX8_bake wsX8_bake ({ frames := 4, cells := 0, slots := 0, locals := 92 }) D (TY q) [w8 q ad ω0 (sd 0) ω2 ω3 ω4 ω5 ω6 ω7 ω8 ω9, wst q sd X] [.ref (ad 0), .int (nI la), .int (nI wa), .int (nI what)] (xQi D (TY q) (fun (r : Int32) (_ : Unit) => r = if what = 0 then nI (xbest (fun q1 => xbk (S 13) (S 14) (nI la) (nI wa) (tn (S 12 0)) q1) 20) else if what = 1 then ((xbk (S 13) (S 14) (nI la) (nI wa) (tn (S 12 0)) (xbest (fun q1 => xbk (S 13) (S 14) (nI la) (nI wa) (tn (S 12 0)) q1) 20)).toInt64 / xgcd (xbk (S 13) (S 14) (nI la) (nI wa) (tn (S 12 0)) (xbest (fun q1 => xbk (S 13) (S 14) (nI la) (nI wa) (tn (S 12 0)) q1) 20)).toInt64 10).toInt32 else ((10 : Int64) / xgcd (xbk (S 13) (S 14) (nI la) (nI wa) (tn (S 12 0)) (xbest (fun q1 => xbk (S 13) (S 14) (nI la) (nI wa) (tn (S 12 0)) q1) 20)).toInt64 10).toInt32) (fun _ => [w8 q ad ω0 (sd 0) ω2 ω3 ω4 ω5 ω6 ω7 ω8 ω9, wst q sd X])) 0 0 := by
  refine x_enter (cc := cX8_bake) (maxL := 5) (ret := (some .int)) (by decide) rfl (Nat.le_of_ble_eq_true rfl) ?_
  intro p e s m below meth c A ls H locs hfix hr hlocks hinit hM hl
  obtain ⟨hx, hb, hml, hown, hts⟩ := id hfix
  have hl : lv_has ls 5 [(0, .ref (ad 0)), (1, .int (nI la)), (2, .int (nI wa)), (3, .int (nI what))] := hl
  have hTb0 := okT_0b hT
  have hTb1 := okT_1b hT
  have hTb2 := okT_2b hT
  have hTb3 := okT_3b hT
  have hTb4 := okT_4b hT
  refine lv_iload_n hx hb dX8_bake_0 rfl (lv_at hl 1 rfl) ?_
  refine lv_iconst (v := nI 0) hx hb dX8_bake_1 (by decide) ?_
  refine lv_bipush (v := nI 9) hx hb dX8_bake_2 (by decide) ?_
  refine x_calli (bc := []) (br := [w8 q ad ω0 (sd 0) ω2 ω3 ω4 ω5 ω6 ω7 ω8 ω9, wst q sd X]) hM [] [0, 1] rfl rfl rfl (by decide) (x_runS (As := [.int (nI la), .int (nI 0), .int (nI 9)]) (rest := []) hfix (c_X8_within l D q (nI la) (nI 0) (nI 9) ((la : Nat) : Int) (0 : Int) (9 : Int) (nI_toInt (n := la) (by omega)) (nI_toInt (n := 0) (by decide)) (nI_toInt (n := 9) (by decide))) (va_cwS 3 hts gX8_bake_X8_within rfl rfl rfl (by decide +kernel) ⟨Nat.le_of_ble_eq_true rfl, Nat.le_of_ble_eq_true rfl⟩) hM [] rfl rfl rfl hl.1 rfl (Nat.le_of_ble_eq_true rfl) dX8_bake_4 ⟨Nat.le_of_ble_eq_true rfl, Nat.le_of_ble_eq_true rfl⟩) (fun r u H locs hq hM => ?_)
  subst hq
  have hM : xM D (TY q) [w8 q ad ω0 (sd 0) ω2 ω3 ω4 ω5 ω6 ω7 ω8 ω9, wst q sd X] A s.heap s H locs := hM
  refine x_ifz_eq (P := (0 : Int) ≤ ((la : Nat) : Int) ∧ ((la : Nat) : Int) ≤ (9 : Int)) (tgt := 29) hx hb dX8_bake_7 (by decide) (fun c1 => ?_) (fun c1 => ?_)
  · exfalso; omega
  · refine lv_iload_n hx hb dX8_bake_10 rfl (lv_at hl 2 rfl) ?_
    refine lv_iconst (v := nI 0) hx hb dX8_bake_11 (by decide) ?_
    refine lv_bipush (v := nI 9) hx hb dX8_bake_12 (by decide) ?_
    refine x_calli (bc := []) (br := [w8 q ad ω0 (sd 0) ω2 ω3 ω4 ω5 ω6 ω7 ω8 ω9, wst q sd X]) hM [] [0, 1] rfl rfl rfl (by decide) (x_runS (As := [.int (nI wa), .int (nI 0), .int (nI 9)]) (rest := []) hfix (c_X8_within l D q (nI wa) (nI 0) (nI 9) ((wa : Nat) : Int) (0 : Int) (9 : Int) (nI_toInt (n := wa) (by omega)) (nI_toInt (n := 0) (by decide)) (nI_toInt (n := 9) (by decide))) (va_cwS 3 hts gX8_bake_X8_within rfl rfl rfl (by decide +kernel) ⟨Nat.le_of_ble_eq_true rfl, Nat.le_of_ble_eq_true rfl⟩) hM [] rfl rfl rfl hl.1 rfl (Nat.le_of_ble_eq_true rfl) dX8_bake_14 ⟨Nat.le_of_ble_eq_true rfl, Nat.le_of_ble_eq_true rfl⟩) (fun r u H locs hq hM => ?_)
    subst hq
    have hM : xM D (TY q) [w8 q ad ω0 (sd 0) ω2 ω3 ω4 ω5 ω6 ω7 ω8 ω9, wst q sd X] A s.heap s H locs := hM
    refine x_ifz_eq (P := (0 : Int) ≤ ((wa : Nat) : Int) ∧ ((wa : Nat) : Int) ≤ (9 : Int)) (tgt := 29) hx hb dX8_bake_17 (by decide) (fun c2 => ?_) (fun c2 => ?_)
    · exfalso; omega
    · refine lv_iload_n hx hb dX8_bake_20 rfl (lv_at hl 3 rfl) ?_
      refine lv_iconst (v := nI 0) hx hb dX8_bake_21 (by decide) ?_
      refine lv_iconst (v := nI 2) hx hb dX8_bake_22 (by decide) ?_
      refine x_calli (bc := []) (br := [w8 q ad ω0 (sd 0) ω2 ω3 ω4 ω5 ω6 ω7 ω8 ω9, wst q sd X]) hM [] [0, 1] rfl rfl rfl (by decide) (x_runS (As := [.int (nI what), .int (nI 0), .int (nI 2)]) (rest := []) hfix (c_X8_within l D q (nI what) (nI 0) (nI 2) ((what : Nat) : Int) (0 : Int) (2 : Int) (nI_toInt (n := what) (by omega)) (nI_toInt (n := 0) (by decide)) (nI_toInt (n := 2) (by decide))) (va_cwS 3 hts gX8_bake_X8_within rfl rfl rfl (by decide +kernel) ⟨Nat.le_of_ble_eq_true rfl, Nat.le_of_ble_eq_true rfl⟩) hM [] rfl rfl rfl hl.1 rfl (Nat.le_of_ble_eq_true rfl) dX8_bake_23 ⟨Nat.le_of_ble_eq_true rfl, Nat.le_of_ble_eq_true rfl⟩) (fun r u H locs hq hM => ?_)
      subst hq
      have hM : xM D (TY q) [w8 q ad ω0 (sd 0) ω2 ω3 ω4 ω5 ω6 ω7 ω8 ω9, wst q sd X] A s.heap s H locs := hM
      refine x_ifz_ne (P := (0 : Int) ≤ ((what : Nat) : Int) ∧ ((what : Nat) : Int) ≤ (2 : Int)) (tgt := 31) hx hb dX8_bake_26 (by decide) (fun c3 => ?_) (fun c3 => ?_)
      · refine lv_aload_n hx hb dX8_bake_31 rfl (lv_at hl 0 rfl) ?_
        refine x_get hx hb hts iwX8_bake_X8 hown hM 0 0 rfl rfl rfl 1 (by decide) (hts _ lkX8_bake_19) (fun _ h => h) rfl dX8_bake_32 ?_
        refine x_get hx hb hts iwX8_bake_X7 hown hM 1 0 rfl rfl rfl 3 (by decide) (hts _ lkX8_bake_206) (fun _ h => h) rfl dX8_bake_35 ?_
        refine x_cast (y := nI (tn (S 12 0))) (okT_3 hT) ?_
        refine x_if_ne (x := tn (S 12 0)) (tgt := 44) hx hb (by omega) dX8_bake_38 (by decide) (fun c4 => ?_) (fun c4 => ?_)
        · refine lv_aload_n hx hb dX8_bake_44 rfl (lv_at hl 0 rfl) ?_
          refine x_get hx hb hts iwX8_bake_X8 hown hM 0 0 rfl rfl rfl 1 (by decide) (hts _ lkX8_bake_19) (fun _ h => h) rfl dX8_bake_45 ?_
          refine lv_iload_n hx hb dX8_bake_48 rfl (lv_at hl 1 rfl) ?_
          refine lv_iload_n hx hb dX8_bake_49 rfl (lv_at hl 2 rfl) ?_
          refine x_calli (bc := [wst q sd X]) (br := [w8 q ad ω0 (sd 0) ω2 ω3 ω4 ω5 ω6 ω7 ω8 ω9]) hM [1] [0] rfl rfl rfl (by decide) (x_runS (As := [.ref (sd 0), .int (nI la), .int (nI wa)]) (rest := []) hfix (c_X6_bestLoaves l D q sd X S (nI la) (nI wa) hT) (va_cwS 3 hts gX8_bake_X6_bestLoaves rfl rfl rfl (by decide +kernel) ⟨Nat.le_of_ble_eq_true rfl, Nat.le_of_ble_eq_true rfl⟩) hM [1] rfl rfl rfl hl.1 rfl (Nat.le_of_ble_eq_true rfl) dX8_bake_50 ⟨Nat.le_of_ble_eq_true rfl, Nat.le_of_ble_eq_true rfl⟩) (fun r u H locs hq hM => ?_)
          subst hq
          have hM : xM D (TY q) [w8 q ad ω0 (sd 0) ω2 ω3 ω4 ω5 ω6 ω7 ω8 ω9, wst q sd X] A s.heap s H locs := hM
          refine lv_istore (lv' := [(4, .int (nI (xbest (fun q1 => xbk (S 13) (S 14) (nI la) (nI wa) (tn (S 12 0)) q1) 20))), (0, .ref (ad 0)), (1, .int (nI la)), (2, .int (nI wa)), (3, .int (nI what))]) hx hb dX8_bake_53 hl (by decide) rfl (fun ls hl => ?_)
          refine lv_iload_n hx hb dX8_bake_55 rfl (lv_at hl 4 rfl) ?_
          refine x_if_ne (x := what) (tgt := 62) hx hb (by omega) dX8_bake_56 (by decide) (fun c5 => ?_) (fun c5 => ?_)
          · refine lv_aload_n hx hb dX8_bake_62 rfl (lv_at hl 1 rfl) ?_
            refine x_get hx hb hts iwX8_bake_X8 hown hM 0 0 rfl rfl rfl 1 (by decide) (hts _ lkX8_bake_19) (fun _ h => h) rfl dX8_bake_63 ?_
            refine lv_iload hx hb dX8_bake_66 (lv_at hl 0 rfl) ?_
            refine lv_iload_n hx hb dX8_bake_68 rfl (lv_at hl 2 rfl) ?_
            refine lv_iload_n hx hb dX8_bake_69 rfl (lv_at hl 3 rfl) ?_
            refine x_calli (bc := [wst q sd X]) (br := [w8 q ad ω0 (sd 0) ω2 ω3 ω4 ω5 ω6 ω7 ω8 ω9]) hM [1] [0] rfl rfl rfl (by decide) (x_runS (As := [.ref (sd 0), .int (nI (xbest (fun q1 => xbk (S 13) (S 14) (nI la) (nI wa) (tn (S 12 0)) q1) 20)), .int (nI la), .int (nI wa)]) (rest := []) hfix (c_X6_tenfoldCost l D q sd X S (xbest (fun q1 => xbk (S 13) (S 14) (nI la) (nI wa) (tn (S 12 0)) q1) 20) (nI la) (nI wa) hT) (va_cwS 4 hts gX8_bake_X6_tenfoldCost rfl rfl rfl (by decide +kernel) ⟨Nat.le_of_ble_eq_true rfl, Nat.le_of_ble_eq_true rfl⟩) hM [1] rfl rfl rfl hl.1 rfl (Nat.le_of_ble_eq_true rfl) dX8_bake_70 ⟨Nat.le_of_ble_eq_true rfl, Nat.le_of_ble_eq_true rfl⟩) (fun r u H locs hq hM => ?_)
            subst hq
            have hM : xM D (TY q) [w8 q ad ω0 (sd 0) ω2 ω3 ω4 ω5 ω6 ω7 ω8 ω9, wst q sd X] A s.heap s H locs := hM
            refine x_i2l hx hb dX8_bake_73 ?_
            refine lv_ldc2 (v := 10) hx hb hown (hts (.constantLong RX8 216 (10)) (by decide +kernel)) dX8_bake_74 ?_
            refine lv_iload_n hx hb dX8_bake_77 rfl (lv_at hl 4 rfl) ?_
            refine lv_iconst (v := nI 1) hx hb dX8_bake_78 (by decide) ?_
            refine x_icmp_ne (x := what) (y := 1) (tgt := 86) hx hb (by omega) (by omega) dX8_bake_79 (by decide) (fun c6 => ?_) (fun c6 => ?_)
            · refine lv_iconst (v := nI 0) hx hb dX8_bake_86 (by decide) ?_
              refine x_calll (bc := []) (br := [w8 q ad ω0 (sd 0) ω2 ω3 ω4 ω5 ω6 ω7 ω8 ω9, wst q sd X]) hM [] [0, 1] rfl rfl rfl (by decide) (x_runS (As := [.long ((xbk (S 13) (S 14) (nI la) (nI wa) (tn (S 12 0)) (xbest (fun q1 => xbk (S 13) (S 14) (nI la) (nI wa) (tn (S 12 0)) q1) 20)).toInt64), .long (10 : Int64), .int (nI 0)]) (rest := []) hfix (c_X6_partOf l D q ((xbk (S 13) (S 14) (nI la) (nI wa) (tn (S 12 0)) (xbest (fun q1 => xbk (S 13) (S 14) (nI la) (nI wa) (tn (S 12 0)) q1) 20)).toInt64) (10 : Int64) (nI 0) (by rw [Jvm.Kit.i64_of_i32]; exact hF) (by decide)) (va_cwS 3 hts gX8_bake_X6_partOf rfl rfl rfl (by decide +kernel) ⟨Nat.le_of_ble_eq_true rfl, Nat.le_of_ble_eq_true rfl⟩) hM [] rfl rfl rfl hl.1 rfl (Nat.le_of_ble_eq_true rfl) dX8_bake_87 ⟨Nat.le_of_ble_eq_true rfl, Nat.le_of_ble_eq_true rfl⟩) (fun r u H locs hq hM => ?_)
              subst hq
              have hM : xM D (TY q) [w8 q ad ω0 (sd 0) ω2 ω3 ω4 ω5 ω6 ω7 ω8 ω9, wst q sd X] A s.heap s H locs := hM
              refine lv_l2i hx hb dX8_bake_90 rfl ?_
              exact x_iret hx hb hr hlocks () hM (show ((if (nI 0) = 0 then (10 : Int64) else ((xbk (S 13) (S 14) (nI la) (nI wa) (tn (S 12 0)) (xbest (fun q1 => xbk (S 13) (S 14) (nI la) (nI wa) (tn (S 12 0)) q1) 20)).toInt64)) / xgcd ((xbk (S 13) (S 14) (nI la) (nI wa) (tn (S 12 0)) (xbest (fun q1 => xbk (S 13) (S 14) (nI la) (nI wa) (tn (S 12 0)) q1) 20)).toInt64) (10 : Int64)).toInt32 = if what = 0 then nI (xbest (fun q1 => xbk (S 13) (S 14) (nI la) (nI wa) (tn (S 12 0)) q1) 20) else if what = 1 then ((xbk (S 13) (S 14) (nI la) (nI wa) (tn (S 12 0)) (xbest (fun q1 => xbk (S 13) (S 14) (nI la) (nI wa) (tn (S 12 0)) q1) 20)).toInt64 / xgcd (xbk (S 13) (S 14) (nI la) (nI wa) (tn (S 12 0)) (xbest (fun q1 => xbk (S 13) (S 14) (nI la) (nI wa) (tn (S 12 0)) q1) 20)).toInt64 10).toInt32 else ((10 : Int64) / xgcd (xbk (S 13) (S 14) (nI la) (nI wa) (tn (S 12 0)) (xbest (fun q1 => xbk (S 13) (S 14) (nI la) (nI wa) (tn (S 12 0)) q1) 20)).toInt64 10).toInt32 from by (rw [if_neg (c := what = 0) (by omega)]; first | (rw [if_pos (c := what = 1) (by omega), if_neg (c := nI 1 = 0) (by decide)]) | (rw [if_neg (c := what = 1) (by omega), if_pos (c := nI 0 = 0) (by decide)]))) dX8_bake_91
            · refine lv_iconst (v := nI 1) hx hb dX8_bake_82 (by decide) ?_
              refine lv_goto (tgt := 87) hx hb dX8_bake_83 (by decide) ?_
              refine x_calll (bc := []) (br := [w8 q ad ω0 (sd 0) ω2 ω3 ω4 ω5 ω6 ω7 ω8 ω9, wst q sd X]) hM [] [0, 1] rfl rfl rfl (by decide) (x_runS (As := [.long ((xbk (S 13) (S 14) (nI la) (nI wa) (tn (S 12 0)) (xbest (fun q1 => xbk (S 13) (S 14) (nI la) (nI wa) (tn (S 12 0)) q1) 20)).toInt64), .long (10 : Int64), .int (nI 1)]) (rest := []) hfix (c_X6_partOf l D q ((xbk (S 13) (S 14) (nI la) (nI wa) (tn (S 12 0)) (xbest (fun q1 => xbk (S 13) (S 14) (nI la) (nI wa) (tn (S 12 0)) q1) 20)).toInt64) (10 : Int64) (nI 1) (by rw [Jvm.Kit.i64_of_i32]; exact hF) (by decide)) (va_cwS 3 hts gX8_bake_X6_partOf rfl rfl rfl (by decide +kernel) ⟨Nat.le_of_ble_eq_true rfl, Nat.le_of_ble_eq_true rfl⟩) hM [] rfl rfl rfl hl.1 rfl (Nat.le_of_ble_eq_true rfl) dX8_bake_87 ⟨Nat.le_of_ble_eq_true rfl, Nat.le_of_ble_eq_true rfl⟩) (fun r u H locs hq hM => ?_)
              subst hq
              have hM : xM D (TY q) [w8 q ad ω0 (sd 0) ω2 ω3 ω4 ω5 ω6 ω7 ω8 ω9, wst q sd X] A s.heap s H locs := hM
              refine lv_l2i hx hb dX8_bake_90 rfl ?_
              exact x_iret hx hb hr hlocks () hM (show ((if (nI 1) = 0 then (10 : Int64) else ((xbk (S 13) (S 14) (nI la) (nI wa) (tn (S 12 0)) (xbest (fun q1 => xbk (S 13) (S 14) (nI la) (nI wa) (tn (S 12 0)) q1) 20)).toInt64)) / xgcd ((xbk (S 13) (S 14) (nI la) (nI wa) (tn (S 12 0)) (xbest (fun q1 => xbk (S 13) (S 14) (nI la) (nI wa) (tn (S 12 0)) q1) 20)).toInt64) (10 : Int64)).toInt32 = if what = 0 then nI (xbest (fun q1 => xbk (S 13) (S 14) (nI la) (nI wa) (tn (S 12 0)) q1) 20) else if what = 1 then ((xbk (S 13) (S 14) (nI la) (nI wa) (tn (S 12 0)) (xbest (fun q1 => xbk (S 13) (S 14) (nI la) (nI wa) (tn (S 12 0)) q1) 20)).toInt64 / xgcd (xbk (S 13) (S 14) (nI la) (nI wa) (tn (S 12 0)) (xbest (fun q1 => xbk (S 13) (S 14) (nI la) (nI wa) (tn (S 12 0)) q1) 20)).toInt64 10).toInt32 else ((10 : Int64) / xgcd (xbk (S 13) (S 14) (nI la) (nI wa) (tn (S 12 0)) (xbest (fun q1 => xbk (S 13) (S 14) (nI la) (nI wa) (tn (S 12 0)) q1) 20)).toInt64 10).toInt32 from by (rw [if_neg (c := what = 0) (by omega)]; first | (rw [if_pos (c := what = 1) (by omega), if_neg (c := nI 1 = 0) (by decide)]) | (rw [if_neg (c := what = 1) (by omega), if_pos (c := nI 0 = 0) (by decide)]))) dX8_bake_91
          · refine lv_iload hx hb dX8_bake_59 (lv_at hl 0 rfl) ?_
            exact x_iret hx hb hr hlocks () hM (show nI (xbest (fun q1 => xbk (S 13) (S 14) (nI la) (nI wa) (tn (S 12 0)) q1) 20) = if what = 0 then nI (xbest (fun q1 => xbk (S 13) (S 14) (nI la) (nI wa) (tn (S 12 0)) q1) 20) else if what = 1 then ((xbk (S 13) (S 14) (nI la) (nI wa) (tn (S 12 0)) (xbest (fun q1 => xbk (S 13) (S 14) (nI la) (nI wa) (tn (S 12 0)) q1) 20)).toInt64 / xgcd (xbk (S 13) (S 14) (nI la) (nI wa) (tn (S 12 0)) (xbest (fun q1 => xbk (S 13) (S 14) (nI la) (nI wa) (tn (S 12 0)) q1) 20)).toInt64 10).toInt32 else ((10 : Int64) / xgcd (xbk (S 13) (S 14) (nI la) (nI wa) (tn (S 12 0)) (xbest (fun q1 => xbk (S 13) (S 14) (nI la) (nI wa) (tn (S 12 0)) q1) 20)).toInt64 10).toInt32 from by exact (if_pos (by omega)).symm) dX8_bake_61
        · exfalso; omega
      · exfalso; omega
