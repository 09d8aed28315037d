set_option maxRecDepth 20000 in
theorem ggX8_gift_X8_within : GoodIn wsX8_gift wsX8_within := goodIn_r _ [10] (by decide +kernel) (by decide +kernel)
set_option maxRecDepth 20000 in
theorem gX8_gift_X8_within : GoodIn wsX8_gift (va_wsS RX8 91 yX8_within wsX8_within) := goodIn_app (goodIn_of _ (by decide +kernel)) ggX8_gift_X8_within
set_option maxRecDepth 20000 in
theorem ggX8_gift_X0_seekGift : GoodIn wsX8_gift wsX0_seekGift := goodIn_r _ [15, 16, 17, 18, 19, 20, 21, 22, 14, 23, 24, 25, 26, 27, 28, 29, 30, 31, 32, 33, 34, 35, 36, 37, 38, 39, 40, 41, 42, 43, 44, 45, 46, 47, 48, 49, 50, 51, 52, 53, 54, 55, 56, 57, 58, 59, 60, 61, 62, 63, 64, 65, 66, 67, 68, 69, 70, 71, 72, 73, 74, 75, 76, 77, 78, 79, 80, 81, 82, 83, 84, 85, 86, 87, 88, 89, 90, 91, 92, 93, 94, 95, 96, 97, 98, 99, 100, 101, 102, 103, 104, 105, 106, 107, 108, 109, 110, 111, 112, 113, 114, 115, 116, 117, 118, 119, 120, 121, 122, 123, 124, 125, 126, 127, 128, 129, 130, 131, 132, 133, 134, 135, 136, 137, 138, 139, 140, 141, 142, 143, 144, 145, 146, 147, 148, 149, 150, 151, 152, 153, 154, 155, 156, 157, 158, 159, 160, 161, 162, 163, 164, 165, 166, 167, 168, 169, 170, 181, 182, 183, 184, 185, 186, 187, 188, 189, 190, 191, 192, 193, 194, 195, 196, 197, 198, 199, 200, 201, 202, 203, 204, 205, 206, 207, 208, 209, 210] (by decide +kernel) (by decide +kernel)
set_option maxRecDepth 20000 in
theorem gX8_gift_X0_seekGift : GoodIn wsX8_gift (wsV RX8 182 RX0 yX0_seekGift wsX0_seekGift) := goodIn_app (goodIn_of _ (by decide +kernel)) ggX8_gift_X0_seekGift
theorem dX8_gift_0 : decode cX8_gift 0 = .ok (.iload_n 1, 1) := by decide +kernel
theorem dX8_gift_1 : decode cX8_gift 1 = .ok (.iconst 0, 1) := by decide +kernel
theorem dX8_gift_2 : decode cX8_gift 2 = .ok (.iconst 1, 1) := by decide +kernel
theorem dX8_gift_3 : decode cX8_gift 3 = .ok (.invokestatic 91, 3) := by decide +kernel
theorem dX8_gift_6 : decode cX8_gift 6 = .ok (.ifCond .ne 5, 3) := by decide +kernel
theorem dX8_gift_9 : decode cX8_gift 9 = .ok (.iconst (-1), 1) := by decide +kernel
theorem dX8_gift_10 : decode cX8_gift 10 = .ok (.ireturn, 1) := by decide +kernel
theorem dX8_gift_11 : decode cX8_gift 11 = .ok (.aload_n 0, 1) := by decide +kernel
theorem dX8_gift_12 : decode cX8_gift 12 = .ok (.getfield 58, 3) := by decide +kernel
theorem dX8_gift_15 : decode cX8_gift 15 = .ok (.aload_n 0, 1) := by decide +kernel
theorem dX8_gift_16 : decode cX8_gift 16 = .ok (.getfield 19, 3) := by decide +kernel
theorem dX8_gift_19 : decode cX8_gift 19 = .ok (.aload_n 0, 1) := by decide +kernel
theorem dX8_gift_20 : decode cX8_gift 20 = .ok (.getfield 39, 3) := by decide +kernel
theorem dX8_gift_23 : decode cX8_gift 23 = .ok (.aload_n 0, 1) := by decide +kernel
theorem dX8_gift_24 : decode cX8_gift 24 = .ok (.getfield 29, 3) := by decide +kernel
theorem dX8_gift_27 : decode cX8_gift 27 = .ok (.invokevirtual 182, 3) := by decide +kernel
theorem dX8_gift_30 : decode cX8_gift 30 = .ok (.aload_n 0, 1) := by decide +kernel
theorem dX8_gift_31 : decode cX8_gift 31 = .ok (.getfield 58, 3) := by decide +kernel
theorem dX8_gift_34 : decode cX8_gift 34 = .ok (.getfield 186, 3) := by decide +kernel
theorem dX8_gift_37 : decode cX8_gift 37 = .ok (.bipush (-4), 2) := by decide +kernel
theorem dX8_gift_39 : decode cX8_gift 39 = .ok (.if_icmp .ne 6, 3) := by decide +kernel
theorem dX8_gift_42 : decode cX8_gift 42 = .ok (.bipush (-4), 2) := by decide +kernel
theorem dX8_gift_44 : decode cX8_gift 44 = .ok (.ireturn, 1) := by decide +kernel
theorem dX8_gift_45 : decode cX8_gift 45 = .ok (.iload_n 1, 1) := by decide +kernel
theorem dX8_gift_46 : decode cX8_gift 46 = .ok (.ifCond .ne 13, 3) := by decide +kernel
theorem dX8_gift_49 : decode cX8_gift 49 = .ok (.aload_n 0, 1) := by decide +kernel
theorem dX8_gift_50 : decode cX8_gift 50 = .ok (.getfield 58, 3) := by decide +kernel
theorem dX8_gift_53 : decode cX8_gift 53 = .ok (.getfield 186, 3) := by decide +kernel
theorem dX8_gift_56 : decode cX8_gift 56 = .ok (.goto 10, 3) := by decide +kernel
theorem dX8_gift_59 : decode cX8_gift 59 = .ok (.aload_n 0, 1) := by decide +kernel
theorem dX8_gift_60 : decode cX8_gift 60 = .ok (.getfield 58, 3) := by decide +kernel
theorem dX8_gift_63 : decode cX8_gift 63 = .ok (.getfield 189, 3) := by decide +kernel
theorem dX8_gift_66 : decode cX8_gift 66 = .ok (.ireturn, 1) := by decide +kernel
theorem lkX8_gift_19 : Cond.fieldLink RX8 19 "LeftAtFive" "street" "LLeftAtFive$Street;" ∈ wsX8_gift := by decide +kernel
theorem lkX8_gift_29 : Cond.fieldLink RX8 29 "LeftAtFive" "meals" "LLeftAtFive$Meals;" ∈ wsX8_gift := by decide +kernel
theorem lkX8_gift_39 : Cond.fieldLink RX8 39 "LeftAtFive" "now" "LLeftAtFive$Kitchens;" ∈ wsX8_gift := by decide +kernel
theorem lkX8_gift_58 : Cond.fieldLink RX8 58 "LeftAtFive" "ahead" "LLeftAtFive$Ahead;" ∈ wsX8_gift := by decide +kernel
theorem lkX8_gift_186 : Cond.fieldLink RX8 186 "LeftAtFive$Ahead" "bestGift" "I" ∈ wsX8_gift := by decide +kernel
theorem lkX8_gift_189 : Cond.fieldLink RX8 189 "LeftAtFive$Ahead" "leastWorth" "I" ∈ wsX8_gift := by decide +kernel
theorem iwX8_gift_X0 : ∀ w ∈ wsX00, w ∈ wsX8_gift := by decide +kernel
theorem iwX8_gift_X8 : ∀ w ∈ wsX80, w ∈ wsX8_gift := by decide +kernel
set_option maxHeartbeats 2000000 in
set_option maxRecDepth 100000 in
theorem c_X8_gift (l : Launch) (D : va_G) (q : Nat → ClassId) (ad : Nat → Nat) (ω0 : Nat) (ω1 : Nat) (ω2 : Nat) (ω3 : Nat) (ω4 : Nat) (ω5 : Nat) (ω6 : Nat) (ω7 : Nat) (ω8 : Nat) (ω9 : Nat) (sd : Nat → Nat) (X : Nat → Nat → Int32) (nd : Nat → Nat) (N : Nat → Int32) (md : Nat → Nat) (μ0 : Nat → Int32) (μ1 : Nat → Int32) (μ2 : Int32) (hd : Nat → Nat) (τ0 : Int32) (τ1 : Int32) (τ2 : Int32) (τ3 : Int32) (τ4 : Nat) (fd : Nat → Nat) (F : Nat → Int32) (S : Nat → Nat → Int32) (what : Nat) (hT : okT X S) (hK : okK N) (hMl : okM μ0 μ1 (S 11) (tn (S 8 0)) (-4)) (hwhat9 : what ≤ 1) : xC l yX8_gift wsX8_gift ({ frames := 7, cells := 0, slots := 0, locals := 171 }) D (TY q) [w8 q ad ω0 (sd 0) ω2 (md 0) ω4 (nd 0) ω6 ω7 (hd 0) ω9, wst q sd X, wk q nd N, w3 q md μ0 μ1 μ2, w0 q hd τ0 τ1 τ2 τ3 (fd 0), wk q fd F] [.ref (ad 0), .int (nI what)] (xQi D (TY q) (fun (r : Int32) (_ : (Nat → Int32)) => r = if (xgB (S 3) (S 4) (tn (S 2 0)) (tn (S 5 0)) (S 9) (S 10) (S 11) (tn (S 8 0)) (S 6) N (kWA (S 3) (S 4) (tn (S 2 0)) (tn (S 5 0)) (kGoN (S 4) (tn (S 2 0)) (tn (S 5 0)) (S 9) (S 10) (S 11) (tn (S 8 0)) (-4) (N, -4, nI 0) (60 - tn (N 25))).1) 5000).1 = (-4) then (-4) else if what = 0 then (xgB (S 3) (S 4) (tn (S 2 0)) (tn (S 5 0)) (S 9) (S 10) (S 11) (tn (S 8 0)) (S 6) N (kWA (S 3) (S 4) (tn (S 2 0)) (tn (S 5 0)) (kGoN (S 4) (tn (S 2 0)) (tn (S 5 0)) (S 9) (S 10) (S 11) (tn (S 8 0)) (-4) (N, -4, nI 0) (60 - tn (N 25))).1) 5000).1 else (xgB (S 3) (S 4) (tn (S 2 0)) (tn (S 5 0)) (S 9) (S 10) (S 11) (tn (S 8 0)) (S 6) N (kWA (S 3) (S 4) (tn (S 2 0)) (tn (S 5 0)) (kGoN (S 4) (tn (S 2 0)) (tn (S 5 0)) (S 9) (S 10) (S 11) (tn (S 8 0)) (-4) (N, -4, nI 0) (60 - tn (N 25))).1) 5000).2) (fun (u : (Nat → Int32)) => [w8 q ad ω0 (sd 0) ω2 (md 0) ω4 (nd 0) ω6 ω7 (hd 0) ω9, wst q sd X, wk q nd N, w3 q md μ0 μ1 μ2, w0 q hd (xgB (S 3) (S 4) (tn (S 2 0)) (tn (S 5 0)) (S 9) (S 10) (S 11) (tn (S 8 0)) (S 6) N (kWA (S 3) (S 4) (tn (S 2 0)) (tn (S 5 0)) (kGoN (S 4) (tn (S 2 0)) (tn (S 5 0)) (S 9) (S 10) (S 11) (tn (S 8 0)) (-4) (N, -4, nI 0) (60 - tn (N 25))).1) 5000).1 (xgB (S 3) (S 4) (tn (S 2 0)) (tn (S 5 0)) (S 9) (S 10) (S 11) (tn (S 8 0)) (S 6) N (kWA (S 3) (S 4) (tn (S 2 0)) (tn (S 5 0)) (kGoN (S 4) (tn (S 2 0)) (tn (S 5 0)) (S 9) (S 10) (S 11) (tn (S 8 0)) (-4) (N, -4, nI 0) (60 - tn (N 25))).1) 5000).2 τ2 τ3 (fd 0), wk q fd u])) 0 0 := by
  refine x_enter (cc := cX8_gift) (maxL := 2) (ret := (some .int)) (by decide) rfl (Nat.le_of_ble_eq_true rfl) ?_
  intro p e s m below meth c A ls H locs hfix hr hlocks hinit hM hl
  obtain ⟨hx, hb, hml, hown, hts⟩ := id hfix
  have hl : lv_has ls 2 [(0, .ref (ad 0)), (1, .int (nI what))] := hl
  have hTb0 := okT_0b hT
  have hTb1 := okT_1b hT
  have hTb2 := okT_2b hT
  have hTb3 := okT_3b hT
  have hTb4 := okT_4b hT
  have hK25 := hK.1.2
  have hK26 := hK.2.1.2
  refine lv_iload_n hx hb dX8_gift_0 rfl (lv_at hl 1 rfl) ?_
  refine lv_iconst (v := nI 0) hx hb dX8_gift_1 (by decide) ?_
  refine lv_iconst (v := nI 1) hx hb dX8_gift_2 (by decide) ?_
  refine x_calli (bc := []) (br := [w8 q ad ω0 (sd 0) ω2 (md 0) ω4 (nd 0) ω6 ω7 (hd 0) ω9, wst q sd X, wk q nd N, w3 q md μ0 μ1 μ2, w0 q hd τ0 τ1 τ2 τ3 (fd 0), wk q fd F]) hM [] [0, 1, 2, 3, 4, 5] rfl rfl rfl (by decide) (x_runS (As := [.int (nI what), .int (nI 0), .int (nI 1)]) (rest := []) hfix (c_X8_within l D q (nI what) (nI 0) (nI 1) ((what : Nat) : Int) (0 : Int) (1 : Int) (nI_toInt (n := what) (by omega)) (nI_toInt (n := 0) (by decide)) (nI_toInt (n := 1) (by decide))) (va_cwS 3 hts gX8_gift_X8_within rfl rfl rfl (by decide +kernel) ⟨Nat.le_of_ble_eq_true rfl, Nat.le_of_ble_eq_true rfl⟩) hM [] rfl rfl rfl hl.1 rfl (Nat.le_of_ble_eq_true rfl) dX8_gift_3 ⟨Nat.le_of_ble_eq_true rfl, Nat.le_of_ble_eq_true rfl⟩) (fun r u H locs hq hM => ?_)
  subst hq
  have hM : xM D (TY q) [w8 q ad ω0 (sd 0) ω2 (md 0) ω4 (nd 0) ω6 ω7 (hd 0) ω9, wst q sd X, wk q nd N, w3 q md μ0 μ1 μ2, w0 q hd τ0 τ1 τ2 τ3 (fd 0), wk q fd F] A s.heap s H locs := hM
  refine x_ifz_ne (P := (0 : Int) ≤ ((what : Nat) : Int) ∧ ((what : Nat) : Int) ≤ (1 : Int)) (tgt := 11) hx hb dX8_gift_6 (by decide) (fun c1 => ?_) (fun c1 => ?_)
  · refine lv_aload_n hx hb dX8_gift_11 rfl (lv_at hl 0 rfl) ?_
    refine x_get hx hb hts iwX8_gift_X8 hown hM 0 0 rfl rfl rfl 8 (by decide) (hts _ lkX8_gift_58) (fun _ h => h) rfl dX8_gift_12 ?_
    refine lv_aload_n hx hb dX8_gift_15 rfl (lv_at hl 0 rfl) ?_
    refine x_get hx hb hts iwX8_gift_X8 hown hM 0 0 rfl rfl rfl 1 (by decide) (hts _ lkX8_gift_19) (fun _ h => h) rfl dX8_gift_16 ?_
    refine lv_aload_n hx hb dX8_gift_19 rfl (lv_at hl 0 rfl) ?_
    refine x_get hx hb hts iwX8_gift_X8 hown hM 0 0 rfl rfl rfl 5 (by decide) (hts _ lkX8_gift_39) (fun _ h => h) rfl dX8_gift_20 ?_
    refine lv_aload_n hx hb dX8_gift_23 rfl (lv_at hl 0 rfl) ?_
    refine x_get hx hb hts iwX8_gift_X8 hown hM 0 0 rfl rfl rfl 3 (by decide) (hts _ lkX8_gift_29) (fun _ h => h) rfl dX8_gift_24 ?_
    refine x_callv (bc := [w0 q hd τ0 τ1 τ2 τ3 (fd 0), wst q sd X, wk q nd N, w3 q md μ0 μ1 μ2, wk q fd F]) (br := [w8 q ad ω0 (sd 0) ω2 (md 0) ω4 (nd 0) ω6 ω7 (hd 0) ω9]) hM [4, 1, 2, 3, 5] [0] rfl rfl rfl (by decide) (x_runV (As := [.ref (sd 0), .ref (nd 0), .ref (md 0)]) (rest := []) hfix (c_X0_seekGift l D q hd τ0 τ1 τ2 τ3 (fd 0) sd X nd N md μ0 μ1 μ2 fd F S hT hMl hK) (cwV 3 hts gX8_gift_X0_seekGift rfl rfl rfl (by decide +kernel) ⟨Nat.le_of_ble_eq_true rfl, Nat.le_of_ble_eq_true rfl⟩) hM [4, 1, 2, 3, 5] rfl rfl 4 0 rfl rfl rfl rfl rfl hl.1 rfl (Nat.le_of_ble_eq_true rfl) dX8_gift_27 ⟨Nat.le_of_ble_eq_true rfl, Nat.le_of_ble_eq_true rfl⟩) (fun u H locs hq hM => ?_)
    obtain ⟨uF2, hex⟩ : ∃ z, z = u := ⟨_, rfl⟩; subst hex
    have hM : xM D (TY q) [w8 q ad ω0 (sd 0) ω2 (md 0) ω4 (nd 0) ω6 ω7 (hd 0) ω9, w0 q hd (xgB (S 3) (S 4) (tn (S 2 0)) (tn (S 5 0)) (S 9) (S 10) (S 11) (tn (S 8 0)) (S 6) N (kWA (S 3) (S 4) (tn (S 2 0)) (tn (S 5 0)) (kGoN (S 4) (tn (S 2 0)) (tn (S 5 0)) (S 9) (S 10) (S 11) (tn (S 8 0)) (-4) (N, -4, nI 0) (60 - tn (N 25))).1) 5000).1 (xgB (S 3) (S 4) (tn (S 2 0)) (tn (S 5 0)) (S 9) (S 10) (S 11) (tn (S 8 0)) (S 6) N (kWA (S 3) (S 4) (tn (S 2 0)) (tn (S 5 0)) (kGoN (S 4) (tn (S 2 0)) (tn (S 5 0)) (S 9) (S 10) (S 11) (tn (S 8 0)) (-4) (N, -4, nI 0) (60 - tn (N 25))).1) 5000).2 τ2 τ3 (fd 0), wst q sd X, wk q nd N, w3 q md μ0 μ1 μ2, wk q fd uF2] A s.heap s H locs := hM
    have hM : xM D (TY q) [w8 q ad ω0 (sd 0) ω2 (md 0) ω4 (nd 0) ω6 ω7 (hd 0) ω9, wst q sd X, wk q nd N, w3 q md μ0 μ1 μ2, w0 q hd (xgB (S 3) (S 4) (tn (S 2 0)) (tn (S 5 0)) (S 9) (S 10) (S 11) (tn (S 8 0)) (S 6) N (kWA (S 3) (S 4) (tn (S 2 0)) (tn (S 5 0)) (kGoN (S 4) (tn (S 2 0)) (tn (S 5 0)) (S 9) (S 10) (S 11) (tn (S 8 0)) (-4) (N, -4, nI 0) (60 - tn (N 25))).1) 5000).1 (xgB (S 3) (S 4) (tn (S 2 0)) (tn (S 5 0)) (S 9) (S 10) (S 11) (tn (S 8 0)) (S 6) N (kWA (S 3) (S 4) (tn (S 2 0)) (tn (S 5 0)) (kGoN (S 4) (tn (S 2 0)) (tn (S 5 0)) (S 9) (S 10) (S 11) (tn (S 8 0)) (-4) (N, -4, nI 0) (60 - tn (N 25))).1) 5000).2 τ2 τ3 (fd 0), wk q fd uF2] A s.heap s H locs := hM.sel [0, 2, 3, 4, 1, 5] rfl rfl
    refine lv_aload_n hx hb dX8_gift_30 rfl (lv_at hl 0 rfl) ?_
    refine x_get hx hb hts iwX8_gift_X8 hown hM 0 0 rfl rfl rfl 8 (by decide) (hts _ lkX8_gift_58) (fun _ h => h) rfl dX8_gift_31 ?_
    refine x_get hx hb hts iwX8_gift_X0 hown hM 4 0 rfl rfl rfl 0 (by decide) (hts _ lkX8_gift_186) (fun _ h => h) rfl dX8_gift_34 ?_
    refine lv_bipush (v := (-4)) hx hb dX8_gift_37 (by decide) ?_
    refine lv_icmp_ne (tgt := 45) hx hb dX8_gift_39 (by decide) (fun c3 => ?_) (fun c3 => ?_)
    · refine lv_iload_n hx hb dX8_gift_45 rfl (lv_at hl 1 rfl) ?_
      refine x_if_ne (x := what) (tgt := 59) hx hb (by omega) dX8_gift_46 (by decide) (fun c4 => ?_) (fun c4 => ?_)
      · refine lv_aload_n hx hb dX8_gift_59 rfl (lv_at hl 0 rfl) ?_
        refine x_get hx hb hts iwX8_gift_X8 hown hM 0 0 rfl rfl rfl 8 (by decide) (hts _ lkX8_gift_58) (fun _ h => h) rfl dX8_gift_60 ?_
        refine x_get hx hb hts iwX8_gift_X0 hown hM 4 0 rfl rfl rfl 1 (by decide) (hts _ lkX8_gift_189) (fun _ h => h) rfl dX8_gift_63 ?_
        exact x_iret hx hb hr hlocks uF2 hM (show (xgB (S 3) (S 4) (tn (S 2 0)) (tn (S 5 0)) (S 9) (S 10) (S 11) (tn (S 8 0)) (S 6) N (kWA (S 3) (S 4) (tn (S 2 0)) (tn (S 5 0)) (kGoN (S 4) (tn (S 2 0)) (tn (S 5 0)) (S 9) (S 10) (S 11) (tn (S 8 0)) (-4) (N, -4, nI 0) (60 - tn (N 25))).1) 5000).2 = if (xgB (S 3) (S 4) (tn (S 2 0)) (tn (S 5 0)) (S 9) (S 10) (S 11) (tn (S 8 0)) (S 6) N (kWA (S 3) (S 4) (tn (S 2 0)) (tn (S 5 0)) (kGoN (S 4) (tn (S 2 0)) (tn (S 5 0)) (S 9) (S 10) (S 11) (tn (S 8 0)) (-4) (N, -4, nI 0) (60 - tn (N 25))).1) 5000).1 = (-4) then (-4) else if what = 0 then (xgB (S 3) (S 4) (tn (S 2 0)) (tn (S 5 0)) (S 9) (S 10) (S 11) (tn (S 8 0)) (S 6) N (kWA (S 3) (S 4) (tn (S 2 0)) (tn (S 5 0)) (kGoN (S 4) (tn (S 2 0)) (tn (S 5 0)) (S 9) (S 10) (S 11) (tn (S 8 0)) (-4) (N, -4, nI 0) (60 - tn (N 25))).1) 5000).1 else (xgB (S 3) (S 4) (tn (S 2 0)) (tn (S 5 0)) (S 9) (S 10) (S 11) (tn (S 8 0)) (S 6) N (kWA (S 3) (S 4) (tn (S 2 0)) (tn (S 5 0)) (kGoN (S 4) (tn (S 2 0)) (tn (S 5 0)) (S 9) (S 10) (S 11) (tn (S 8 0)) (-4) (N, -4, nI 0) (60 - tn (N 25))).1) 5000).2 from by (first | exact (if_pos (by assumption)).symm | exact ((if_neg (by assumption)).trans (if_pos (by omega))).symm | exact ((if_neg (by assumption)).trans (if_neg (by omega))).symm)) dX8_gift_66
      · refine lv_aload_n hx hb dX8_gift_49 rfl (lv_at hl 0 rfl) ?_
        refine x_get hx hb hts iwX8_gift_X8 hown hM 0 0 rfl rfl rfl 8 (by decide) (hts _ lkX8_gift_58) (fun _ h => h) rfl dX8_gift_50 ?_
        refine x_get hx hb hts iwX8_gift_X0 hown hM 4 0 rfl rfl rfl 0 (by decide) (hts _ lkX8_gift_186) (fun _ h => h) rfl dX8_gift_53 ?_
        refine lv_goto (tgt := 66) hx hb dX8_gift_56 (by decide) ?_
        exact x_iret hx hb hr hlocks uF2 hM (show (xgB (S 3) (S 4) (tn (S 2 0)) (tn (S 5 0)) (S 9) (S 10) (S 11) (tn (S 8 0)) (S 6) N (kWA (S 3) (S 4) (tn (S 2 0)) (tn (S 5 0)) (kGoN (S 4) (tn (S 2 0)) (tn (S 5 0)) (S 9) (S 10) (S 11) (tn (S 8 0)) (-4) (N, -4, nI 0) (60 - tn (N 25))).1) 5000).1 = if (xgB (S 3) (S 4) (tn (S 2 0)) (tn (S 5 0)) (S 9) (S 10) (S 11) (tn (S 8 0)) (S 6) N (kWA (S 3) (S 4) (tn (S 2 0)) (tn (S 5 0)) (kGoN (S 4) (tn (S 2 0)) (tn (S 5 0)) (S 9) (S 10) (S 11) (tn (S 8 0)) (-4) (N, -4, nI 0) (60 - tn (N 25))).1) 5000).1 = (-4) then (-4) else if what = 0 then (xgB (S 3) (S 4) (tn (S 2 0)) (tn (S 5 0)) (S 9) (S 10) (S 11) (tn (S 8 0)) (S 6) N (kWA (S 3) (S 4) (tn (S 2 0)) (tn (S 5 0)) (kGoN (S 4) (tn (S 2 0)) (tn (S 5 0)) (S 9) (S 10) (S 11) (tn (S 8 0)) (-4) (N, -4, nI 0) (60 - tn (N 25))).1) 5000).1 else (xgB (S 3) (S 4) (tn (S 2 0)) (tn (S 5 0)) (S 9) (S 10) (S 11) (tn (S 8 0)) (S 6) N (kWA (S 3) (S 4) (tn (S 2 0)) (tn (S 5 0)) (kGoN (S 4) (tn (S 2 0)) (tn (S 5 0)) (S 9) (S 10) (S 11) (tn (S 8 0)) (-4) (N, -4, nI 0) (60 - tn (N 25))).1) 5000).2 from by (first | exact (if_pos (by assumption)).symm | exact ((if_neg (by assumption)).trans (if_pos (by omega))).symm | exact ((if_neg (by assumption)).trans (if_neg (by omega))).symm)) dX8_gift_66
    · refine lv_bipush (v := (-4)) hx hb dX8_gift_42 (by decide) ?_
      exact x_iret hx hb hr hlocks uF2 hM (show (-4) = if (xgB (S 3) (S 4) (tn (S 2 0)) (tn (S 5 0)) (S 9) (S 10) (S 11) (tn (S 8 0)) (S 6) N (kWA (S 3) (S 4) (tn (S 2 0)) (tn (S 5 0)) (kGoN (S 4) (tn (S 2 0)) (tn (S 5 0)) (S 9) (S 10) (S 11) (tn (S 8 0)) (-4) (N, -4, nI 0) (60 - tn (N 25))).1) 5000).1 = (-4) then (-4) else if what = 0 then (xgB (S 3) (S 4) (tn (S 2 0)) (tn (S 5 0)) (S 9) (S 10) (S 11) (tn (S 8 0)) (S 6) N (kWA (S 3) (S 4) (tn (S 2 0)) (tn (S 5 0)) (kGoN (S 4) (tn (S 2 0)) (tn (S 5 0)) (S 9) (S 10) (S 11) (tn (S 8 0)) (-4) (N, -4, nI 0) (60 - tn (N 25))).1) 5000).1 else (xgB (S 3) (S 4) (tn (S 2 0)) (tn (S 5 0)) (S 9) (S 10) (S 11) (tn (S 8 0)) (S 6) N (kWA (S 3) (S 4) (tn (S 2 0)) (tn (S 5 0)) (kGoN (S 4) (tn (S 2 0)) (tn (S 5 0)) (S 9) (S 10) (S 11) (tn (S 8 0)) (-4) (N, -4, nI 0) (60 - tn (N 25))).1) 5000).2 from by (first | exact (if_pos (by assumption)).symm | exact ((if_neg (by assumption)).trans (if_pos (by omega))).symm | exact ((if_neg (by assumption)).trans (if_neg (by omega))).symm)) dX8_gift_44
  · exfalso; omega
