set_option maxRecDepth 20000 in
theorem ggX8_evening_X8_within : GoodIn wsX8_evening wsX8_within := goodIn_r _ [8] (by decide +kernel) (by decide +kernel)
set_option maxRecDepth 20000 in
theorem gX8_evening_X8_within : GoodIn wsX8_evening (va_wsS RX8 91 yX8_within wsX8_within) := goodIn_app (goodIn_of _ (by decide +kernel)) ggX8_evening_X8_within
set_option maxRecDepth 20000 in
theorem ggX8_evening_X3_plan : GoodIn wsX8_evening wsX3_plan := goodIn_r _ [13, 14, 15, 16, 17, 18, 19, 20, 21, 22, 23, 24, 25, 26, 27, 28, 29, 30, 31, 32, 12, 33, 34, 35, 36, 37, 169, 170, 171, 172, 173, 174, 175, 176, 177, 178, 179, 180, 181, 182, 183, 184, 185, 186, 187] (by decide +kernel) (by decide +kernel)
set_option maxRecDepth 20000 in
theorem gX8_evening_X3_plan : GoodIn wsX8_evening (wsV RX8 262 RX3 yX3_plan wsX3_plan) := goodIn_app (goodIn_of _ (by decide +kernel)) ggX8_evening_X3_plan
set_option maxRecDepth 20000 in
theorem ggX8_evening_X0_look : GoodIn wsX8_evening wsX0_look := goodIn_r _ [42, 43, 44, 45, 46, 47, 48, 49, 50, 51, 52, 53, 54, 55, 56, 20, 57, 58, 59, 60, 61, 62, 63, 64, 65, 66, 67, 68, 69, 70, 71, 72, 73, 74, 75, 76, 77, 78, 79, 80, 81, 82, 29, 30, 83, 84, 85, 86, 87, 88, 25, 89, 90, 91, 92, 93, 94, 95, 96, 97, 19, 21, 98, 99, 100, 101, 102, 103, 104, 105, 106, 107, 108, 28, 109, 110, 111, 112, 113, 114, 115, 12, 116, 15, 117, 118, 119, 120, 121, 17, 122, 123, 124, 125, 126, 127, 128, 129, 130, 188, 189, 190, 191, 192, 193, 194, 195, 196, 197, 198, 172, 173, 174, 175, 176, 177, 178, 179, 180, 181, 182, 183, 184, 185, 186, 187, 169, 170, 171] (by decide +kernel) (by decide +kernel)
set_option maxRecDepth 20000 in
theorem gX8_evening_X0_look : GoodIn wsX8_evening (wsV RX8 117 RX0 yX0_look wsX0_look) := goodIn_app (goodIn_of _ (by decide +kernel)) ggX8_evening_X0_look
set_option maxRecDepth 20000 in
theorem ggX8_evening_X1_worthOfAll : GoodIn wsX8_evening wsX1_worthOfAll := goodIn_r _ [134, 103, 135, 136, 137, 47, 138, 102, 139, 140, 141, 25, 142, 143, 28, 29, 20, 30, 144, 145, 146, 147, 109, 110, 111, 112, 51, 87, 88, 89, 82, 148, 149, 150, 151, 108, 172, 173, 174, 175, 176, 177, 178, 179, 180, 181, 182, 183, 184, 185, 186, 187, 193, 194, 195, 196, 197, 198] (by decide +kernel) (by decide +kernel)
set_option maxRecDepth 20000 in
theorem gX8_evening_X1_worthOfAll : GoodIn wsX8_evening (wsV RX8 169 RX1 yX1_worthOfAll wsX1_worthOfAll) := goodIn_app (goodIn_of _ (by decide +kernel)) ggX8_evening_X1_worthOfAll
set_option maxRecDepth 20000 in
theorem ggX8_evening_X1_hungerOfAll : GoodIn wsX8_evening wsX1_hungerOfAll := goodIn_r _ [155, 53, 156, 157, 20, 158, 193, 194, 195, 196, 197, 198] (by decide +kernel) (by decide +kernel)
set_option maxRecDepth 20000 in
theorem gX8_evening_X1_hungerOfAll : GoodIn wsX8_evening (wsV RX8 266 RX1 yX1_hungerOfAll wsX1_hungerOfAll) := goodIn_app (goodIn_of _ (by decide +kernel)) ggX8_evening_X1_hungerOfAll
theorem dX8_evening_0 : decode cX8_evening 0 = .ok (.iload_n 1, 1) := by decide +kernel
theorem dX8_evening_1 : decode cX8_evening 1 = .ok (.iconst 0, 1) := by decide +kernel
theorem dX8_evening_2 : decode cX8_evening 2 = .ok (.sipush 9999, 3) := by decide +kernel
theorem dX8_evening_5 : decode cX8_evening 5 = .ok (.invokestatic 91, 3) := by decide +kernel
theorem dX8_evening_8 : decode cX8_evening 8 = .ok (.ifCond .eq 12, 3) := by decide +kernel
theorem dX8_evening_11 : decode cX8_evening 11 = .ok (.iload_n 2, 1) := by decide +kernel
theorem dX8_evening_12 : decode cX8_evening 12 = .ok (.iconst 0, 1) := by decide +kernel
theorem dX8_evening_13 : decode cX8_evening 13 = .ok (.iconst 1, 1) := by decide +kernel
theorem dX8_evening_14 : decode cX8_evening 14 = .ok (.invokestatic 91, 3) := by decide +kernel
theorem dX8_evening_17 : decode cX8_evening 17 = .ok (.ifCond .ne 5, 3) := by decide +kernel
theorem dX8_evening_20 : decode cX8_evening 20 = .ok (.iconst (-1), 1) := by decide +kernel
theorem dX8_evening_21 : decode cX8_evening 21 = .ok (.ireturn, 1) := by decide +kernel
theorem dX8_evening_22 : decode cX8_evening 22 = .ok (.aload_n 0, 1) := by decide +kernel
theorem dX8_evening_23 : decode cX8_evening 23 = .ok (.getfield 33, 3) := by decide +kernel
theorem dX8_evening_26 : decode cX8_evening 26 = .ok (.aload_n 0, 1) := by decide +kernel
theorem dX8_evening_27 : decode cX8_evening 27 = .ok (.getfield 19, 3) := by decide +kernel
theorem dX8_evening_30 : decode cX8_evening 30 = .ok (.iload_n 1, 1) := by decide +kernel
theorem dX8_evening_31 : decode cX8_evening 31 = .ok (.invokevirtual 262, 3) := by decide +kernel
theorem dX8_evening_34 : decode cX8_evening 34 = .ok (.aload_n 0, 1) := by decide +kernel
theorem dX8_evening_35 : decode cX8_evening 35 = .ok (.getfield 58, 3) := by decide +kernel
theorem dX8_evening_38 : decode cX8_evening 38 = .ok (.aload_n 0, 1) := by decide +kernel
theorem dX8_evening_39 : decode cX8_evening 39 = .ok (.getfield 19, 3) := by decide +kernel
theorem dX8_evening_42 : decode cX8_evening 42 = .ok (.aload_n 0, 1) := by decide +kernel
theorem dX8_evening_43 : decode cX8_evening 43 = .ok (.getfield 39, 3) := by decide +kernel
theorem dX8_evening_46 : decode cX8_evening 46 = .ok (.aload_n 0, 1) := by decide +kernel
theorem dX8_evening_47 : decode cX8_evening 47 = .ok (.getfield 33, 3) := by decide +kernel
theorem dX8_evening_50 : decode cX8_evening 50 = .ok (.invokevirtual 117, 3) := by decide +kernel
theorem dX8_evening_53 : decode cX8_evening 53 = .ok (.astore_n 3, 1) := by decide +kernel
theorem dX8_evening_54 : decode cX8_evening 54 = .ok (.iload_n 2, 1) := by decide +kernel
theorem dX8_evening_55 : decode cX8_evening 55 = .ok (.ifCond .ne 14, 3) := by decide +kernel
theorem dX8_evening_58 : decode cX8_evening 58 = .ok (.aload_n 3, 1) := by decide +kernel
theorem dX8_evening_59 : decode cX8_evening 59 = .ok (.aload_n 0, 1) := by decide +kernel
theorem dX8_evening_60 : decode cX8_evening 60 = .ok (.getfield 19, 3) := by decide +kernel
theorem dX8_evening_63 : decode cX8_evening 63 = .ok (.invokevirtual 169, 3) := by decide +kernel
theorem dX8_evening_66 : decode cX8_evening 66 = .ok (.goto 15, 3) := by decide +kernel
theorem dX8_evening_69 : decode cX8_evening 69 = .ok (.aload_n 3, 1) := by decide +kernel
theorem dX8_evening_70 : decode cX8_evening 70 = .ok (.invokevirtual 266, 3) := by decide +kernel
theorem dX8_evening_73 : decode cX8_evening 73 = .ok (.aload_n 0, 1) := by decide +kernel
theorem dX8_evening_74 : decode cX8_evening 74 = .ok (.getfield 39, 3) := by decide +kernel
theorem dX8_evening_77 : decode cX8_evening 77 = .ok (.invokevirtual 266, 3) := by decide +kernel
theorem dX8_evening_80 : decode cX8_evening 80 = .ok (.isub, 1) := by decide +kernel
theorem dX8_evening_81 : decode cX8_evening 81 = .ok (.ireturn, 1) := by decide +kernel
theorem lkX8_evening_19 : Cond.fieldLink RX8 19 "LeftAtFive" "street" "LLeftAtFive$Street;" ∈ wsX8_evening := by decide +kernel
theorem lkX8_evening_33 : Cond.fieldLink RX8 33 "LeftAtFive" "drawn" "LLeftAtFive$Meals;" ∈ wsX8_evening := by decide +kernel
theorem lkX8_evening_39 : Cond.fieldLink RX8 39 "LeftAtFive" "now" "LLeftAtFive$Kitchens;" ∈ wsX8_evening := by decide +kernel
theorem lkX8_evening_58 : Cond.fieldLink RX8 58 "LeftAtFive" "ahead" "LLeftAtFive$Ahead;" ∈ wsX8_evening := by decide +kernel
theorem iwX8_evening_X8 : ∀ w ∈ wsX80, w ∈ wsX8_evening := by decide +kernel
set_option maxHeartbeats 2000000 in
set_option maxRecDepth 100000 in
theorem c_X8_evening (l : Launch) (D : va_G) (q : Nat → ClassId) (ad : Nat → Nat) (ω0 : Nat) (ω1 : Nat) (ω2 : Nat) (ω3 : Nat) (ω4 : Nat) (ω5 : Nat) (ω6 : Nat) (ω7 : Nat) (ω8 : Nat) (ω9 : Nat) (sd : Nat → Nat) (X : Nat → Nat → Int32) (rd : Nat → Nat) (ρ0 : Nat → Int32) (ρ1 : Nat → Int32) (ρ2 : Int32) (nd : Nat → Nat) (N : Nat → Int32) (hd : Nat → Nat) (τ0 : Int32) (τ1 : Int32) (τ2 : Int32) (τ3 : Int32) (τ4 : Nat) (fd : Nat → Nat) (F : Nat → Int32) (S : Nat → Nat → Int32) (z9 : Nat) (what : Nat) (hT : okT X S) (hK : okK N) (hz99 : z9 ≤ 9999) (hwhat9 : what ≤ 1) : xC l yX8_evening wsX8_evening ({ frames := 6, cells := 0, slots := 0, locals := 140 }) D (TY q) [w8 q ad ω0 (sd 0) ω2 ω3 (rd 0) (nd 0) ω6 ω7 (hd 0) ω9, wst q sd X, w3 q rd ρ0 ρ1 ρ2, wk q nd N, w0 q hd τ0 τ1 τ2 τ3 (fd 0), wk q fd F] [.ref (ad 0), .int (nI z9), .int (nI what)] (xQi D (TY q) (fun (r : Int32) (_ : (Nat → Int32) × (Nat → Int32) × Int32 × (Nat → Int32)) => r = if what = 0 then kWA (S 3) (S 4) (tn (S 2 0)) (tn (S 5 0)) (kGoN (S 4) (tn (S 2 0)) (tn (S 5 0)) (S 9) (S 10) (S 11) (tn (S 8 0)) (nI z9) (N, -4, nI 0) (60 - tn (N 25))).1 else xsum (fun i => (kGoN (S 4) (tn (S 2 0)) (tn (S 5 0)) (S 9) (S 10) (S 11) (tn (S 8 0)) (nI z9) (N, -4, nI 0) (60 - tn (N 25))).1 (59 + i)) 8 - xsum (fun i => N (59 + i)) 8) (fun (u : (Nat → Int32) × (Nat → Int32) × Int32 × (Nat → Int32)) => [w8 q ad ω0 (sd 0) ω2 ω3 (rd 0) (nd 0) ω6 ω7 (hd 0) ω9, wst q sd X, w3 q rd u.1 u.2.1 u.2.2.1, wk q nd N, w0 q hd τ0 τ1 τ2 τ3 (fd 0), wk q fd u.2.2.2])) 0 0 := by
  refine x_enter (cc := cX8_evening) (maxL := 4) (ret := (some .int)) (by decide) rfl (Nat.le_of_ble_eq_true rfl) ?_
  intro p e s m below meth c A ls H locs hfix hr hlocks hinit hM hl
  obtain ⟨hx, hb, hml, hown, hts⟩ := id hfix
  have hl : lv_has ls 4 [(0, .ref (ad 0)), (1, .int (nI z9)), (2, .int (nI what))] := hl
  have hTb0 := okT_0b hT
  have hTb1 := okT_1b hT
  have hTb2 := okT_2b hT
  have hTb3 := okT_3b hT
  have hTb4 := okT_4b hT
  have hK25 := hK.1.2
  have hK26 := hK.2.1.2
  refine lv_iload_n hx hb dX8_evening_0 rfl (lv_at hl 1 rfl) ?_
  refine lv_iconst (v := nI 0) hx hb dX8_evening_1 (by decide) ?_
  refine lv_sipush (v := nI 9999) hx hb dX8_evening_2 (by decide) ?_
  refine x_calli (bc := []) (br := [w8 q ad ω0 (sd 0) ω2 ω3 (rd 0) (nd 0) ω6 ω7 (hd 0) ω9, wst q sd X, w3 q rd ρ0 ρ1 ρ2, wk q nd N, w0 q hd τ0 τ1 τ2 τ3 (fd 0), wk q fd F]) hM [] [0, 1, 2, 3, 4, 5] rfl rfl rfl (by decide) (x_runS (As := [.int (nI z9), .int (nI 0), .int (nI 9999)]) (rest := []) hfix (c_X8_within l D q (nI z9) (nI 0) (nI 9999) ((z9 : Nat) : Int) (0 : Int) (9999 : Int) (nI_toInt (n := z9) (by omega)) (nI_toInt (n := 0) (by decide)) (nI_toInt (n := 9999) (by decide))) (va_cwS 3 hts gX8_evening_X8_within rfl rfl rfl (by decide +kernel) ⟨Nat.le_of_ble_eq_true rfl, Nat.le_of_ble_eq_true rfl⟩) hM [] rfl rfl rfl hl.1 rfl (Nat.le_of_ble_eq_true rfl) dX8_evening_5 ⟨Nat.le_of_ble_eq_true rfl, Nat.le_of_ble_eq_true rfl⟩) (fun r u H locs hq hM => ?_)
  subst hq
  have hM : xM D (TY q) [w8 q ad ω0 (sd 0) ω2 ω3 (rd 0) (nd 0) ω6 ω7 (hd 0) ω9, wst q sd X, w3 q rd ρ0 ρ1 ρ2, wk q nd N, w0 q hd τ0 τ1 τ2 τ3 (fd 0), wk q fd F] A s.heap s H locs := hM
  refine x_ifz_eq (P := (0 : Int) ≤ ((z9 : Nat) : Int) ∧ ((z9 : Nat) : Int) ≤ (9999 : Int)) (tgt := 20) hx hb dX8_evening_8 (by decide) (fun c1 => ?_) (fun c1 => ?_)
  · exfalso; omega
  · refine lv_iload_n hx hb dX8_evening_11 rfl (lv_at hl 2 rfl) ?_
    refine lv_iconst (v := nI 0) hx hb dX8_evening_12 (by decide) ?_
    refine lv_iconst (v := nI 1) hx hb dX8_evening_13 (by decide) ?_
    refine x_calli (bc := []) (br := [w8 q ad ω0 (sd 0) ω2 ω3 (rd 0) (nd 0) ω6 ω7 (hd 0) ω9, wst q sd X, w3 q rd ρ0 ρ1 ρ2, wk q nd N, w0 q hd τ0 τ1 τ2 τ3 (fd 0), wk q fd F]) hM [] [0, 1, 2, 3, 4, 5] rfl rfl rfl (by decide) (x_runS (As := [.int (nI what), .int (nI 0), .int (nI 1)]) (rest := []) hfix (c_X8_within l D q (nI what) (nI 0) (nI 1) ((what : Nat) : Int) (0 : Int) (1 : Int) (nI_toInt (n := what) (by omega)) (nI_toInt (n := 0) (by decide)) (nI_toInt (n := 1) (by decide))) (va_cwS 3 hts gX8_evening_X8_within rfl rfl rfl (by decide +kernel) ⟨Nat.le_of_ble_eq_true rfl, Nat.le_of_ble_eq_true rfl⟩) hM [] rfl rfl rfl hl.1 rfl (Nat.le_of_ble_eq_true rfl) dX8_evening_14 ⟨Nat.le_of_ble_eq_true rfl, Nat.le_of_ble_eq_true rfl⟩) (fun r u H locs hq hM => ?_)
    subst hq
    have hM : xM D (TY q) [w8 q ad ω0 (sd 0) ω2 ω3 (rd 0) (nd 0) ω6 ω7 (hd 0) ω9, wst q sd X, w3 q rd ρ0 ρ1 ρ2, wk q nd N, w0 q hd τ0 τ1 τ2 τ3 (fd 0), wk q fd F] A s.heap s H locs := hM
    refine x_ifz_ne (P := (0 : Int) ≤ ((what : Nat) : Int) ∧ ((what : Nat) : Int) ≤ (1 : Int)) (tgt := 22) hx hb dX8_evening_17 (by decide) (fun c2 => ?_) (fun c2 => ?_)
    · refine lv_aload_n hx hb dX8_evening_22 rfl (lv_at hl 0 rfl) ?_
      refine x_get hx hb hts iwX8_evening_X8 hown hM 0 0 rfl rfl rfl 4 (by decide) (hts _ lkX8_evening_33) (fun _ h => h) rfl dX8_evening_23 ?_
      refine lv_aload_n hx hb dX8_evening_26 rfl (lv_at hl 0 rfl) ?_
      refine x_get hx hb hts iwX8_evening_X8 hown hM 0 0 rfl rfl rfl 1 (by decide) (hts _ lkX8_evening_19) (fun _ h => h) rfl dX8_evening_27 ?_
      refine lv_iload_n hx hb dX8_evening_30 rfl (lv_at hl 1 rfl) ?_
      refine x_callv (bc := [w3 q rd ρ0 ρ1 ρ2, wst q sd X]) (br := [w8 q ad ω0 (sd 0) ω2 ω3 (rd 0) (nd 0) ω6 ω7 (hd 0) ω9, wk q nd N, w0 q hd τ0 τ1 τ2 τ3 (fd 0), wk q fd F]) hM [2, 1] [0, 3, 4, 5] rfl rfl rfl (by decide) (x_runV (As := [.ref (sd 0), .int (nI z9)]) (rest := []) hfix (c_X3_plan l D q rd ρ0 ρ1 ρ2 sd X S (nI z9) (nI z9) hT (Or.inr ⟨z9, hz99, rfl, rfl⟩)) (cwV 2 hts gX8_evening_X3_plan rfl rfl rfl (by decide +kernel) ⟨Nat.le_of_ble_eq_true rfl, Nat.le_of_ble_eq_true rfl⟩) hM [2, 1] rfl rfl 2 0 rfl rfl rfl rfl rfl hl.1 rfl (Nat.le_of_ble_eq_true rfl) dX8_evening_31 ⟨Nat.le_of_ble_eq_true rfl, Nat.le_of_ble_eq_true rfl⟩) (fun u H locs hq hM => ?_)
      have hqx := hq
      obtain ⟨uB3, uW4, uT5⟩ := u
      have hM : xM D (TY q) [w8 q ad ω0 (sd 0) ω2 ω3 (rd 0) (nd 0) ω6 ω7 (hd 0) ω9, wk q nd N, w0 q hd τ0 τ1 τ2 τ3 (fd 0), wk q fd F, w3 q rd uB3 uW4 uT5, wst q sd X] A s.heap s H locs := hM
      have hM : xM D (TY q) [w8 q ad ω0 (sd 0) ω2 ω3 (rd 0) (nd 0) ω6 ω7 (hd 0) ω9, wst q sd X, w3 q rd uB3 uW4 uT5, wk q nd N, w0 q hd τ0 τ1 τ2 τ3 (fd 0), wk q fd F] A s.heap s H locs := hM.sel [0, 5, 4, 1, 2, 3] rfl rfl
      have hpl : okM uB3 uW4 (S 11) (tn (S 8 0)) (nI z9) := hqx
      refine lv_aload_n hx hb dX8_evening_34 rfl (lv_at hl 0 rfl) ?_
      refine x_get hx hb hts iwX8_evening_X8 hown hM 0 0 rfl rfl rfl 8 (by decide) (hts _ lkX8_evening_58) (fun _ h => h) rfl dX8_evening_35 ?_
      refine lv_aload_n hx hb dX8_evening_38 rfl (lv_at hl 0 rfl) ?_
      refine x_get hx hb hts iwX8_evening_X8 hown hM 0 0 rfl rfl rfl 1 (by decide) (hts _ lkX8_evening_19) (fun _ h => h) rfl dX8_evening_39 ?_
      refine lv_aload_n hx hb dX8_evening_42 rfl (lv_at hl 0 rfl) ?_
      refine x_get hx hb hts iwX8_evening_X8 hown hM 0 0 rfl rfl rfl 5 (by decide) (hts _ lkX8_evening_39) (fun _ h => h) rfl dX8_evening_43 ?_
      refine lv_aload_n hx hb dX8_evening_46 rfl (lv_at hl 0 rfl) ?_
      refine x_get hx hb hts iwX8_evening_X8 hown hM 0 0 rfl rfl rfl 4 (by decide) (hts _ lkX8_evening_33) (fun _ h => h) rfl dX8_evening_47 ?_
      refine x_callr (bc := [w0 q hd τ0 τ1 τ2 τ3 (fd 0), wst q sd X, wk q nd N, w3 q rd uB3 uW4 uT5, wk q fd F]) (br := [w8 q ad ω0 (sd 0) ω2 ω3 (rd 0) (nd 0) ω6 ω7 (hd 0) ω9]) hM [4, 1, 3, 2, 5] [0] rfl rfl rfl (by decide) (x_runV (As := [.ref (sd 0), .ref (nd 0), .ref (rd 0)]) (rest := []) hfix (c_X0_look l D q hd τ0 τ1 τ2 τ3 (fd 0) sd X nd N rd uB3 uW4 uT5 fd F S (nI z9) hT hpl hK) (cwV 3 hts gX8_evening_X0_look rfl rfl rfl (by decide +kernel) ⟨Nat.le_of_ble_eq_true rfl, Nat.le_of_ble_eq_true rfl⟩) hM [4, 1, 3, 2, 5] rfl rfl 4 0 rfl rfl rfl rfl rfl hl.1 rfl (Nat.le_of_ble_eq_true rfl) dX8_evening_50 ⟨Nat.le_of_ble_eq_true rfl, Nat.le_of_ble_eq_true rfl⟩) (fun u H locs hq hM => ?_)
      have hM : xM D (TY q) [w8 q ad ω0 (sd 0) ω2 ω3 (rd 0) (nd 0) ω6 ω7 (hd 0) ω9, w0 q hd τ0 τ1 τ2 τ3 (fd 0), wst q sd X, wk q nd N, w3 q rd uB3 uW4 uT5, wk q fd (kGoN (S 4) (tn (S 2 0)) (tn (S 5 0)) (S 9) (S 10) (S 11) (tn (S 8 0)) (nI z9) (N, -4, nI 0) (60 - tn (N 25))).1] A s.heap s H locs := hM
      have hM : xM D (TY q) [w8 q ad ω0 (sd 0) ω2 ω3 (rd 0) (nd 0) ω6 ω7 (hd 0) ω9, wst q sd X, w3 q rd uB3 uW4 uT5, wk q nd N, w0 q hd τ0 τ1 τ2 τ3 (fd 0), wk q fd (kGoN (S 4) (tn (S 2 0)) (tn (S 5 0)) (S 9) (S 10) (S 11) (tn (S 8 0)) (nI z9) (N, -4, nI 0) (60 - tn (N 25))).1] A s.heap s H locs := hM.sel [0, 2, 4, 3, 1, 5] rfl rfl
      refine lv_astore_n (lv' := [(3, .ref (fd 0)), (0, .ref (ad 0)), (1, .int (nI z9)), (2, .int (nI what))]) hx hb dX8_evening_53 rfl hl (by decide) rfl (fun ls hl => ?_)
      refine lv_iload_n hx hb dX8_evening_54 rfl (lv_at hl 3 rfl) ?_
      refine x_if_ne (x := what) (tgt := 69) hx hb (by omega) dX8_evening_55 (by decide) (fun c7 => ?_) (fun c7 => ?_)
      · refine lv_aload_n hx hb dX8_evening_69 rfl (lv_at hl 0 rfl) ?_
        refine x_calli (bc := [wk q fd (kGoN (S 4) (tn (S 2 0)) (tn (S 5 0)) (S 9) (S 10) (S 11) (tn (S 8 0)) (nI z9) (N, -4, nI 0) (60 - tn (N 25))).1]) (br := [w8 q ad ω0 (sd 0) ω2 ω3 (rd 0) (nd 0) ω6 ω7 (hd 0) ω9, wst q sd X, w3 q rd uB3 uW4 uT5, wk q nd N, w0 q hd τ0 τ1 τ2 τ3 (fd 0)]) hM [5] [0, 1, 2, 3, 4] rfl rfl rfl (by decide) (x_runV (As := []) (rest := []) hfix (c_X1_hungerOfAll l D q fd (kGoN (S 4) (tn (S 2 0)) (tn (S 5 0)) (S 9) (S 10) (S 11) (tn (S 8 0)) (nI z9) (N, -4, nI 0) (60 - tn (N 25))).1) (cwV 0 hts gX8_evening_X1_hungerOfAll rfl rfl rfl (by decide +kernel) ⟨Nat.le_of_ble_eq_true rfl, Nat.le_of_ble_eq_true rfl⟩) hM [5] rfl rfl 5 0 rfl rfl rfl rfl rfl hl.1 rfl (Nat.le_of_ble_eq_true rfl) dX8_evening_70 ⟨Nat.le_of_ble_eq_true rfl, Nat.le_of_ble_eq_true rfl⟩) (fun r u H locs hq hM => ?_)
        subst hq
        have hM : xM D (TY q) [w8 q ad ω0 (sd 0) ω2 ω3 (rd 0) (nd 0) ω6 ω7 (hd 0) ω9, wst q sd X, w3 q rd uB3 uW4 uT5, wk q nd N, w0 q hd τ0 τ1 τ2 τ3 (fd 0), wk q fd (kGoN (S 4) (tn (S 2 0)) (tn (S 5 0)) (S 9) (S 10) (S 11) (tn (S 8 0)) (nI z9) (N, -4, nI 0) (60 - tn (N 25))).1] A s.heap s H locs := hM
        refine lv_aload_n hx hb dX8_evening_73 rfl (lv_at hl 1 rfl) ?_
        refine x_get hx hb hts iwX8_evening_X8 hown hM 0 0 rfl rfl rfl 5 (by decide) (hts _ lkX8_evening_39) (fun _ h => h) rfl dX8_evening_74 ?_
        refine x_calli (bc := [wk q nd N]) (br := [w8 q ad ω0 (sd 0) ω2 ω3 (rd 0) (nd 0) ω6 ω7 (hd 0) ω9, wst q sd X, w3 q rd uB3 uW4 uT5, w0 q hd τ0 τ1 τ2 τ3 (fd 0), wk q fd (kGoN (S 4) (tn (S 2 0)) (tn (S 5 0)) (S 9) (S 10) (S 11) (tn (S 8 0)) (nI z9) (N, -4, nI 0) (60 - tn (N 25))).1]) hM [3] [0, 1, 2, 4, 5] rfl rfl rfl (by decide) (x_runV (As := []) (rest := [.int (xsum (fun i => (kGoN (S 4) (tn (S 2 0)) (tn (S 5 0)) (S 9) (S 10) (S 11) (tn (S 8 0)) (nI z9) (N, -4, nI 0) (60 - tn (N 25))).1 (59 + i)) 8)]) hfix (c_X1_hungerOfAll l D q nd N) (cwV 0 hts gX8_evening_X1_hungerOfAll rfl rfl rfl (by decide +kernel) ⟨Nat.le_of_ble_eq_true rfl, Nat.le_of_ble_eq_true rfl⟩) hM [3] rfl rfl 3 0 rfl rfl rfl rfl rfl hl.1 rfl (Nat.le_of_ble_eq_true rfl) dX8_evening_77 ⟨Nat.le_of_ble_eq_true rfl, Nat.le_of_ble_eq_true rfl⟩) (fun r u H locs hq hM => ?_)
        subst hq
        have hM : xM D (TY q) [w8 q ad ω0 (sd 0) ω2 ω3 (rd 0) (nd 0) ω6 ω7 (hd 0) ω9, wst q sd X, w3 q rd uB3 uW4 uT5, w0 q hd τ0 τ1 τ2 τ3 (fd 0), wk q fd (kGoN (S 4) (tn (S 2 0)) (tn (S 5 0)) (S 9) (S 10) (S 11) (tn (S 8 0)) (nI z9) (N, -4, nI 0) (60 - tn (N 25))).1, wk q nd N] A s.heap s H locs := hM
        have hM : xM D (TY q) [w8 q ad ω0 (sd 0) ω2 ω3 (rd 0) (nd 0) ω6 ω7 (hd 0) ω9, wst q sd X, w3 q rd uB3 uW4 uT5, wk q nd N, w0 q hd τ0 τ1 τ2 τ3 (fd 0), wk q fd (kGoN (S 4) (tn (S 2 0)) (tn (S 5 0)) (S 9) (S 10) (S 11) (tn (S 8 0)) (nI z9) (N, -4, nI 0) (60 - tn (N 25))).1] A s.heap s H locs := hM.sel [0, 1, 2, 5, 3, 4] rfl rfl
        refine lv_isub hx hb dX8_evening_80 ?_
        exact x_iret hx hb hr hlocks (uB3, uW4, uT5, (kGoN (S 4) (tn (S 2 0)) (tn (S 5 0)) (S 9) (S 10) (S 11) (tn (S 8 0)) (nI z9) (N, -4, nI 0) (60 - tn (N 25))).1) hM (show (xsum (fun i => (kGoN (S 4) (tn (S 2 0)) (tn (S 5 0)) (S 9) (S 10) (S 11) (tn (S 8 0)) (nI z9) (N, -4, nI 0) (60 - tn (N 25))).1 (59 + i)) 8) - (xsum (fun i => N (59 + i)) 8) = if what = 0 then kWA (S 3) (S 4) (tn (S 2 0)) (tn (S 5 0)) (kGoN (S 4) (tn (S 2 0)) (tn (S 5 0)) (S 9) (S 10) (S 11) (tn (S 8 0)) (nI z9) (N, -4, nI 0) (60 - tn (N 25))).1 else xsum (fun i => (kGoN (S 4) (tn (S 2 0)) (tn (S 5 0)) (S 9) (S 10) (S 11) (tn (S 8 0)) (nI z9) (N, -4, nI 0) (60 - tn (N 25))).1 (59 + i)) 8 - xsum (fun i => N (59 + i)) 8 from by (first | exact (if_pos (by omega)).symm | exact (if_neg (by omega)).symm)) dX8_evening_81
      · refine lv_aload_n hx hb dX8_evening_58 rfl (lv_at hl 0 rfl) ?_
        refine lv_aload_n hx hb dX8_evening_59 rfl (lv_at hl 1 rfl) ?_
        refine x_get hx hb hts iwX8_evening_X8 hown hM 0 0 rfl rfl rfl 1 (by decide) (hts _ lkX8_evening_19) (fun _ h => h) rfl dX8_evening_60 ?_
        refine x_calli (bc := [wk q fd (kGoN (S 4) (tn (S 2 0)) (tn (S 5 0)) (S 9) (S 10) (S 11) (tn (S 8 0)) (nI z9) (N, -4, nI 0) (60 - tn (N 25))).1, wst q sd X]) (br := [w8 q ad ω0 (sd 0) ω2 ω3 (rd 0) (nd 0) ω6 ω7 (hd 0) ω9, w3 q rd uB3 uW4 uT5, wk q nd N, w0 q hd τ0 τ1 τ2 τ3 (fd 0)]) hM [5, 1] [0, 2, 3, 4] rfl rfl rfl (by decide) (x_runV (As := [.ref (sd 0)]) (rest := []) hfix (c_X1_worthOfAll l D q fd (kGoN (S 4) (tn (S 2 0)) (tn (S 5 0)) (S 9) (S 10) (S 11) (tn (S 8 0)) (nI z9) (N, -4, nI 0) (60 - tn (N 25))).1 sd X S hT) (cwV 1 hts gX8_evening_X1_worthOfAll rfl rfl rfl (by decide +kernel) ⟨Nat.le_of_ble_eq_true rfl, Nat.le_of_ble_eq_true rfl⟩) hM [5, 1] rfl rfl 5 0 rfl rfl rfl rfl rfl hl.1 rfl (Nat.le_of_ble_eq_true rfl) dX8_evening_63 ⟨Nat.le_of_ble_eq_true rfl, Nat.le_of_ble_eq_true rfl⟩) (fun r u H locs hq hM => ?_)
        subst hq
        have hM : xM D (TY q) [w8 q ad ω0 (sd 0) ω2 ω3 (rd 0) (nd 0) ω6 ω7 (hd 0) ω9, w3 q rd uB3 uW4 uT5, wk q nd N, w0 q hd τ0 τ1 τ2 τ3 (fd 0), wk q fd (kGoN (S 4) (tn (S 2 0)) (tn (S 5 0)) (S 9) (S 10) (S 11) (tn (S 8 0)) (nI z9) (N, -4, nI 0) (60 - tn (N 25))).1, wst q sd X] A s.heap s H locs := hM
        have hM : xM D (TY q) [w8 q ad ω0 (sd 0) ω2 ω3 (rd 0) (nd 0) ω6 ω7 (hd 0) ω9, wst q sd X, w3 q rd uB3 uW4 uT5, wk q nd N, w0 q hd τ0 τ1 τ2 τ3 (fd 0), wk q fd (kGoN (S 4) (tn (S 2 0)) (tn (S 5 0)) (S 9) (S 10) (S 11) (tn (S 8 0)) (nI z9) (N, -4, nI 0) (60 - tn (N 25))).1] A s.heap s H locs := hM.sel [0, 5, 1, 2, 3, 4] rfl rfl
        refine lv_goto (tgt := 81) hx hb dX8_evening_66 (by decide) ?_
        exact x_iret hx hb hr hlocks (uB3, uW4, uT5, (kGoN (S 4) (tn (S 2 0)) (tn (S 5 0)) (S 9) (S 10) (S 11) (tn (S 8 0)) (nI z9) (N, -4, nI 0) (60 - tn (N 25))).1) hM (show kWA (S 3) (S 4) (tn (S 2 0)) (tn (S 5 0)) (kGoN (S 4) (tn (S 2 0)) (tn (S 5 0)) (S 9) (S 10) (S 11) (tn (S 8 0)) (nI z9) (N, -4, nI 0) (60 - tn (N 25))).1 = if what = 0 then kWA (S 3) (S 4) (tn (S 2 0)) (tn (S 5 0)) (kGoN (S 4) (tn (S 2 0)) (tn (S 5 0)) (S 9) (S 10) (S 11) (tn (S 8 0)) (nI z9) (N, -4, nI 0) (60 - tn (N 25))).1 else xsum (fun i => (kGoN (S 4) (tn (S 2 0)) (tn (S 5 0)) (S 9) (S 10) (S 11) (tn (S 8 0)) (nI z9) (N, -4, nI 0) (60 - tn (N 25))).1 (59 + i)) 8 - xsum (fun i => N (59 + i)) 8 from by (first | exact (if_pos (by omega)).symm | exact (if_neg (by omega)).symm)) dX8_evening_81
    · exfalso; omega
