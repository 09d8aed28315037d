set_option maxRecDepth 20000 in
theorem ggX8_layText_X2_read : GoodIn wsX8_layText wsX2_read := goodIn_r _ [13, 14, 15, 16, 17, 18, 19, 20, 21, 22, 23, 24, 25, 26, 27, 28, 29, 30, 31, 32, 33, 12, 34, 35, 36, 37, 38, 39, 40, 41, 42, 43, 44, 45, 46, 47, 48, 49, 50, 51, 52, 53, 54, 55, 56, 57, 58, 59, 60, 61, 62, 63, 64, 65, 66, 67, 68, 69, 70, 71, 72, 73, 74, 75, 76, 77, 78, 79, 80, 81, 82, 83, 84, 85, 86, 87, 88, 89, 90, 91, 92, 93, 94, 95, 96, 97, 98, 99, 100, 101, 102, 103, 104, 105, 106, 107, 108, 109, 110, 202, 203, 204, 205, 186, 187, 188, 189, 190, 191, 192, 193, 194, 195, 196, 197, 198, 199, 200, 201] (by decide +kernel) (by decide +kernel)
set_option maxRecDepth 20000 in
theorem gX8_layText_X2_read : GoodIn wsX8_layText (wsV RX8 98 RX2 yX2_read wsX2_read) := goodIn_app (goodIn_of _ (by decide +kernel)) ggX8_layText_X2_read
set_option maxRecDepth 20000 in
theorem ggX8_layText_X7_isWhole : GoodIn wsX8_layText wsX7_isWhole := goodIn_r _ [114, 21, 22, 24, 115, 116, 117, 19, 118, 119, 120, 121, 122, 103, 59, 60, 29, 61, 186, 187, 188, 189, 190, 191, 192, 193, 194, 195, 196, 197, 198, 199, 200, 201] (by decide +kernel) (by decide +kernel)
set_option maxRecDepth 20000 in
theorem gX8_layText_X7_isWhole : GoodIn wsX8_layText (wsV RX8 282 RX7 yX7_isWhole wsX7_isWhole) := goodIn_app (goodIn_of _ (by decide +kernel)) ggX8_layText_X7_isWhole
set_option maxRecDepth 20000 in
theorem ggX8_layText_X3_plan : GoodIn wsX8_layText wsX3_plan := goodIn_r _ [127, 128, 129, 130, 131, 132, 53, 29, 54, 133, 134, 135, 19, 136, 97, 59, 60, 61, 137, 138, 126, 139, 140, 141, 142, 143, 206, 207, 208, 186, 187, 188, 189, 190, 191, 192, 193, 194, 195, 196, 197, 198, 199, 200, 201] (by decide +kernel) (by decide +kernel)
set_option maxRecDepth 20000 in
theorem gX8_layText_X3_plan : GoodIn wsX8_layText (wsV RX8 262 RX3 yX3_plan wsX3_plan) := goodIn_app (goodIn_of _ (by decide +kernel)) ggX8_layText_X3_plan
set_option maxRecDepth 20000 in
theorem ggX8_layText_X1_begin : GoodIn wsX8_layText wsX1_begin := goodIn_r _ [148, 149, 150, 151, 152, 153, 154, 155, 156, 19, 157, 26, 158, 159, 29, 160, 161, 162, 163, 164, 165, 166, 167, 168, 169, 28, 30, 209, 210, 211, 212, 213, 214, 186, 187, 188, 189, 190, 191, 192, 193, 194, 195, 196, 197, 198, 199, 200, 201] (by decide +kernel) (by decide +kernel)
set_option maxRecDepth 20000 in
theorem gX8_layText_X1_begin : GoodIn wsX8_layText (wsV RX8 286 RX1 yX1_begin wsX1_begin) := goodIn_app (goodIn_of _ (by decide +kernel)) ggX8_layText_X1_begin
set_option maxRecDepth 20000 in
theorem ggX8_layText_X4_clear : GoodIn wsX8_layText wsX4_clear := goodIn_r _ [174, 175, 215, 216] (by decide +kernel) (by decide +kernel)
set_option maxRecDepth 20000 in
theorem gX8_layText_X4_clear : GoodIn wsX8_layText (wsV RX8 269 RX4 yX4_clear wsX4_clear) := goodIn_app (goodIn_of _ (by decide +kernel)) ggX8_layText_X4_clear
theorem dX8_layText_0 : decode cX8_layText 0 = .ok (.aload_n 0, 1) := by decide +kernel
theorem dX8_layText_1 : decode cX8_layText 1 = .ok (.getfield 10, 3) := by decide +kernel
theorem dX8_layText_4 : decode cX8_layText 4 = .ok (.aload_n 0, 1) := by decide +kernel
theorem dX8_layText_5 : decode cX8_layText 5 = .ok (.getfield 23, 3) := by decide +kernel
theorem dX8_layText_8 : decode cX8_layText 8 = .ok (.invokevirtual 98, 3) := by decide +kernel
theorem dX8_layText_11 : decode cX8_layText 11 = .ok (.bipush (-4), 2) := by decide +kernel
theorem dX8_layText_13 : decode cX8_layText 13 = .ok (.if_icmp .ne 13, 3) := by decide +kernel
theorem dX8_layText_16 : decode cX8_layText 16 = .ok (.aload_n 0, 1) := by decide +kernel
theorem dX8_layText_17 : decode cX8_layText 17 = .ok (.getfield 23, 3) := by decide +kernel
theorem dX8_layText_20 : decode cX8_layText 20 = .ok (.invokevirtual 282, 3) := by decide +kernel
theorem dX8_layText_23 : decode cX8_layText 23 = .ok (.ifCond .ne 6, 3) := by decide +kernel
theorem dX8_layText_26 : decode cX8_layText 26 = .ok (.bipush (-2), 2) := by decide +kernel
theorem dX8_layText_28 : decode cX8_layText 28 = .ok (.ireturn, 1) := by decide +kernel
theorem dX8_layText_29 : decode cX8_layText 29 = .ok (.aload_n 0, 1) := by decide +kernel
theorem dX8_layText_30 : decode cX8_layText 30 = .ok (.getfield 19, 3) := by decide +kernel
theorem dX8_layText_33 : decode cX8_layText 33 = .ok (.astore_n 1, 1) := by decide +kernel
theorem dX8_layText_34 : decode cX8_layText 34 = .ok (.aload_n 0, 1) := by decide +kernel
theorem dX8_layText_35 : decode cX8_layText 35 = .ok (.aload_n 0, 1) := by decide +kernel
theorem dX8_layText_36 : decode cX8_layText 36 = .ok (.getfield 23, 3) := by decide +kernel
theorem dX8_layText_39 : decode cX8_layText 39 = .ok (.putfield 19, 3) := by decide +kernel
theorem dX8_layText_42 : decode cX8_layText 42 = .ok (.aload_n 0, 1) := by decide +kernel
theorem dX8_layText_43 : decode cX8_layText 43 = .ok (.aload_n 1, 1) := by decide +kernel
theorem dX8_layText_44 : decode cX8_layText 44 = .ok (.putfield 23, 3) := by decide +kernel
theorem dX8_layText_47 : decode cX8_layText 47 = .ok (.aload_n 0, 1) := by decide +kernel
theorem dX8_layText_48 : decode cX8_layText 48 = .ok (.getfield 29, 3) := by decide +kernel
theorem dX8_layText_51 : decode cX8_layText 51 = .ok (.aload_n 0, 1) := by decide +kernel
theorem dX8_layText_52 : decode cX8_layText 52 = .ok (.getfield 19, 3) := by decide +kernel
theorem dX8_layText_55 : decode cX8_layText 55 = .ok (.iconst (-1), 1) := by decide +kernel
theorem dX8_layText_56 : decode cX8_layText 56 = .ok (.invokevirtual 262, 3) := by decide +kernel
theorem dX8_layText_59 : decode cX8_layText 59 = .ok (.aload_n 0, 1) := by decide +kernel
theorem dX8_layText_60 : decode cX8_layText 60 = .ok (.getfield 39, 3) := by decide +kernel
theorem dX8_layText_63 : decode cX8_layText 63 = .ok (.aload_n 0, 1) := by decide +kernel
theorem dX8_layText_64 : decode cX8_layText 64 = .ok (.getfield 19, 3) := by decide +kernel
theorem dX8_layText_67 : decode cX8_layText 67 = .ok (.invokevirtual 286, 3) := by decide +kernel
theorem dX8_layText_70 : decode cX8_layText 70 = .ok (.aload_n 0, 1) := by decide +kernel
theorem dX8_layText_71 : decode cX8_layText 71 = .ok (.getfield 48, 3) := by decide +kernel
theorem dX8_layText_74 : decode cX8_layText 74 = .ok (.invokevirtual 269, 3) := by decide +kernel
theorem dX8_layText_77 : decode cX8_layText 77 = .ok (.aload_n 0, 1) := by decide +kernel
theorem dX8_layText_78 : decode cX8_layText 78 = .ok (.getfield 52, 3) := by decide +kernel
theorem dX8_layText_81 : decode cX8_layText 81 = .ok (.invokevirtual 269, 3) := by decide +kernel
theorem dX8_layText_84 : decode cX8_layText 84 = .ok (.aload_n 0, 1) := by decide +kernel
theorem dX8_layText_85 : decode cX8_layText 85 = .ok (.getfield 19, 3) := by decide +kernel
theorem dX8_layText_88 : decode cX8_layText 88 = .ok (.getfield 273, 3) := by decide +kernel
theorem dX8_layText_91 : decode cX8_layText 91 = .ok (.ireturn, 1) := by decide +kernel
theorem lkX8_layText_10 : Cond.fieldLink RX8 10 "LeftAtFive" "text" "LLeftAtFive$Letters;" ∈ wsX8_layText := by decide +kernel
theorem lkX8_layText_19 : Cond.fieldLink RX8 19 "LeftAtFive" "street" "LLeftAtFive$Street;" ∈ wsX8_layText := by decide +kernel
theorem lkX8_layText_23 : Cond.fieldLink RX8 23 "LeftAtFive" "draft" "LLeftAtFive$Street;" ∈ wsX8_layText := by decide +kernel
theorem lkX8_layText_29 : Cond.fieldLink RX8 29 "LeftAtFive" "meals" "LLeftAtFive$Meals;" ∈ wsX8_layText := by decide +kernel
theorem lkX8_layText_39 : Cond.fieldLink RX8 39 "LeftAtFive" "now" "LLeftAtFive$Kitchens;" ∈ wsX8_layText := by decide +kernel
theorem lkX8_layText_48 : Cond.fieldLink RX8 48 "LeftAtFive" "undone" "LLeftAtFive$Pile;" ∈ wsX8_layText := by decide +kernel
theorem lkX8_layText_52 : Cond.fieldLink RX8 52 "LeftAtFive" "kept" "LLeftAtFive$Pile;" ∈ wsX8_layText := by decide +kernel
theorem lkX8_layText_273 : Cond.fieldLink RX8 273 "LeftAtFive$Street" "houses" "I" ∈ wsX8_layText := by decide +kernel
theorem iwX8_layText_X7 : ∀ w ∈ wsX70, w ∈ wsX8_layText := by decide +kernel
theorem iwX8_layText_X8 : ∀ w ∈ wsX80, w ∈ wsX8_layText := by decide +kernel
set_option maxHeartbeats 2000000 in
set_option maxRecDepth 100000 in
theorem c_X8_layText (l : Launch) (D : va_G) (q : Nat → ClassId) (ad : Nat → Nat) (ω0 : Nat) (ω1 : Nat) (ω2 : Nat) (ω3 : Nat) (ω4 : Nat) (ω5 : Nat) (ω6 : Nat) (ω7 : Nat) (ω8 : Nat) (ω9 : Nat) (td : Nat → Nat) (ν0 : Nat → Int32) (ν1 : Nat → Int32) (ν2 : Int32) (ν3 : Int32) (sd : Nat → Nat) (X : Nat → Nat → Int32) (dd : Nat → Nat) (Y : Nat → Nat → Int32) (md : Nat → Nat) (μ0 : Nat → Int32) (μ1 : Nat → Int32) (μ2 : Int32) (nd : Nat → Nat) (N : Nat → Int32) (ud : Nat → Nat) (ua : Nat → Nat → Nat) (U : Nat → Nat → Int32) (pd : Nat → Nat) (pa : Nat → Nat → Nat) (P : Nat → Nat → Int32) (uh : Nat) (ph : Nat) (S0 : Nat → Nat → Int32) (tt0 : Nat → Int32) (huh : uh ≤ 8) (hph : ph ≤ 2) (hL : ν2 = nI (tn ν2) ∧ tn ν2 ≤ 200) (hC : ∀ j, j < tn ν2 → cN (ν0 j) 126) (hS0 : okT (xclr Y) (xshf S0)) (hlk : (xAll ν0 (tn ν2) 201 S0 0 tt0).1 = (-4) ∧ ¬ tn ((xshf (xAll ν0 (tn ν2) 201 S0 0 tt0).2.1) 2 0) = 0 ∧ ¬ tn ((xshf (xAll ν0 (tn ν2) 201 S0 0 tt0).2.1) 5 0) = 0 ∧ (tn ((xshf (xAll ν0 (tn ν2) 201 S0 0 tt0).2.1) 12 0) = 0 ∨ xsum ((xshf (xAll ν0 (tn ν2) 201 S0 0 tt0).2.1) 14) (tn ((xshf (xAll ν0 (tn ν2) 201 S0 0 tt0).2.1) 12 0)) = nI 10)) : xC l yX8_layText wsX8_layText ({ frames := 6, cells := 0, slots := 0, locals := 139 }) D (TY q) [w8 q ad (td 0) (sd 0) (dd 0) (md 0) ω4 (nd 0) (ud 0) (pd 0) ω8 ω9, w2 q td ν0 ν1 ν2 ν3, wst q sd X, wst q dd Y, w3 q md μ0 μ1 μ2, wk q nd N, wp q ud ua 8 (nI uh), wpl q ua U 8, wp q pd pa 2 (nI ph), wpl q pa P 2] [.ref (ad 0)] (xQi D (TY q) (fun (r : Int32) (u : (Nat → Int32) × Int32 × (Nat → Nat → Int32) × (Nat → Int32) × (Nat → Int32) × Int32) => r = nI (tn ((xAll ν0 (tn ν2) 201 S0 0 tt0).2.1 5 1)) ∧ okT u.2.2.1 (xshf (xAll ν0 (tn ν2) 201 S0 0 tt0).2.1) ∧ okM u.2.2.2.1 u.2.2.2.2.1 ((xshf (xAll ν0 (tn ν2) 201 S0 0 tt0).2.1) 11) (tn ((xshf (xAll ν0 (tn ν2) 201 S0 0 tt0).2.1) 8 0)) (-4)) (fun (u : (Nat → Int32) × Int32 × (Nat → Nat → Int32) × (Nat → Int32) × (Nat → Int32) × Int32) => [w8 q ad (td 0) (dd 0) (sd 0) (md 0) ω4 (nd 0) (ud 0) (pd 0) ω8 ω9, w2 q td ν0 u.1 ν2 u.2.1, wst q sd X, wst q dd u.2.2.1, w3 q md u.2.2.2.1 u.2.2.2.2.1 u.2.2.2.2.2, wk q nd (xbegC N (u.2.2.1 8)), wp q ud ua 8 (nI 0), wpl q ua U 8, wp q pd pa 2 (nI 0), wpl q pa P 2])) 0 0 := by
  refine x_enter (cc := cX8_layText) (maxL := 2) (ret := (some .int)) (by decide) rfl (Nat.le_of_ble_eq_true rfl) ?_
  intro p e s m below meth c A ls H locs hfix hr hlocks hinit hM hl
  obtain ⟨hx, hb, hml, hown, hts⟩ := id hfix
  have hl : lv_has ls 2 [(0, .ref (ad 0))] := hl
  refine lv_aload_n hx hb dX8_layText_0 rfl (lv_at hl 0 rfl) ?_
  refine x_get hx hb hts iwX8_layText_X8 hown hM 0 0 rfl rfl rfl 0 (by decide) (hts _ lkX8_layText_10) (fun _ h => h) rfl dX8_layText_1 ?_
  refine lv_aload_n hx hb dX8_layText_4 rfl (lv_at hl 0 rfl) ?_
  refine x_get hx hb hts iwX8_layText_X8 hown hM 0 0 rfl rfl rfl 2 (by decide) (hts _ lkX8_layText_23) (fun _ h => h) rfl dX8_layText_5 ?_
  refine x_calli (bc := [w2 q td ν0 ν1 ν2 ν3, wst q dd Y]) (br := [w8 q ad (td 0) (sd 0) (dd 0) (md 0) ω4 (nd 0) (ud 0) (pd 0) ω8 ω9, wst q sd X, w3 q md μ0 μ1 μ2, wk q nd N, wp q ud ua 8 (nI uh), wpl q ua U 8, wp q pd pa 2 (nI ph), wpl q pa P 2]) hM [1, 3] [0, 2, 4, 5, 6, 7, 8, 9] rfl rfl rfl (by decide) (x_runV (As := [.ref (dd 0)]) (rest := []) hfix (c_X2_read l D q td ν0 ν1 ν2 ν3 dd Y S0 tt0 hL hC hS0) (cwV 1 hts gX8_layText_X2_read rfl rfl rfl (by decide +kernel) ⟨Nat.le_of_ble_eq_true rfl, Nat.le_of_ble_eq_true rfl⟩) hM [1, 3] rfl rfl 1 0 rfl rfl rfl rfl rfl hl.1 rfl (Nat.le_of_ble_eq_true rfl) dX8_layText_8 ⟨Nat.le_of_ble_eq_true rfl, Nat.le_of_ble_eq_true rfl⟩) (fun r u H locs hq hM => ?_)
  obtain ⟨hq, hqx⟩ := hq
  subst hq
  obtain ⟨uN1, uP2, uX3⟩ := u
  have hM : xM D (TY q) [w8 q ad (td 0) (sd 0) (dd 0) (md 0) ω4 (nd 0) (ud 0) (pd 0) ω8 ω9, wst q sd X, w3 q md μ0 μ1 μ2, wk q nd N, wp q ud ua 8 (nI uh), wpl q ua U 8, wp q pd pa 2 (nI ph), wpl q pa P 2, w2 q td ν0 uN1 ν2 uP2, wst q dd uX3] A s.heap s H locs := hM
  have hM : xM D (TY q) [w8 q ad (td 0) (sd 0) (dd 0) (md 0) ω4 (nd 0) (ud 0) (pd 0) ω8 ω9, w2 q td ν0 uN1 ν2 uP2, wst q sd X, wst q dd uX3, w3 q md μ0 μ1 μ2, wk q nd N, wp q ud ua 8 (nI uh), wpl q ua U 8, wp q pd pa 2 (nI ph), wpl q pa P 2] A s.heap s H locs := hM.sel [0, 8, 1, 9, 2, 3, 4, 5, 6, 7] rfl rfl
  have hx9 : okT uX3 (xshf (xAll ν0 (tn ν2) 201 S0 0 tt0).2.1) := hqx
  refine lv_bipush (v := (-4)) hx hb dX8_layText_11 (by decide) ?_
  refine lv_icmp_ne (tgt := 26) hx hb dX8_layText_13 (by decide) (fun c5 => ?_) (fun c5 => ?_)
  · exfalso; first | exact absurd hlk.1 (by assumption) | exact absurd hlk.2 (by assumption)
  · refine lv_aload_n hx hb dX8_layText_16 rfl (lv_at hl 0 rfl) ?_
    refine x_get hx hb hts iwX8_layText_X8 hown hM 0 0 rfl rfl rfl 2 (by decide) (hts _ lkX8_layText_23) (fun _ h => h) rfl dX8_layText_17 ?_
    refine x_calli (bc := [wst q dd uX3]) (br := [w8 q ad (td 0) (sd 0) (dd 0) (md 0) ω4 (nd 0) (ud 0) (pd 0) ω8 ω9, w2 q td ν0 uN1 ν2 uP2, wst q sd X, w3 q md μ0 μ1 μ2, wk q nd N, wp q ud ua 8 (nI uh), wpl q ua U 8, wp q pd pa 2 (nI ph), wpl q pa P 2]) hM [3] [0, 1, 2, 4, 5, 6, 7, 8, 9] rfl rfl rfl (by decide) (x_runV (As := []) (rest := []) hfix (c_X7_isWhole l D q dd uX3 (xshf (xAll ν0 (tn ν2) 201 S0 0 tt0).2.1) hx9) (cwV 0 hts gX8_layText_X7_isWhole rfl rfl rfl (by decide +kernel) ⟨Nat.le_of_ble_eq_true rfl, Nat.le_of_ble_eq_true rfl⟩) hM [3] rfl rfl 3 0 rfl rfl rfl rfl rfl hl.1 rfl (Nat.le_of_ble_eq_true rfl) dX8_layText_20 ⟨Nat.le_of_ble_eq_true rfl, Nat.le_of_ble_eq_true rfl⟩) (fun r u H locs hq hM => ?_)
    subst hq
    have hM : xM D (TY q) [w8 q ad (td 0) (sd 0) (dd 0) (md 0) ω4 (nd 0) (ud 0) (pd 0) ω8 ω9, w2 q td ν0 uN1 ν2 uP2, wst q sd X, w3 q md μ0 μ1 μ2, wk q nd N, wp q ud ua 8 (nI uh), wpl q ua U 8, wp q pd pa 2 (nI ph), wpl q pa P 2, wst q dd uX3] A s.heap s H locs := hM
    have hM : xM D (TY q) [w8 q ad (td 0) (sd 0) (dd 0) (md 0) ω4 (nd 0) (ud 0) (pd 0) ω8 ω9, w2 q td ν0 uN1 ν2 uP2, wst q sd X, wst q dd uX3, w3 q md μ0 μ1 μ2, wk q nd N, wp q ud ua 8 (nI uh), wpl q ua U 8, wp q pd pa 2 (nI ph), wpl q pa P 2] A s.heap s H locs := hM.sel [0, 1, 2, 9, 3, 4, 5, 6, 7, 8] rfl rfl
    refine x_ifz_ne (P := ¬ (tn ((xshf (xAll ν0 (tn ν2) 201 S0 0 tt0).2.1) 2 0)) = 0 ∧ ¬ (tn ((xshf (xAll ν0 (tn ν2) 201 S0 0 tt0).2.1) 5 0)) = 0 ∧ ((tn ((xshf (xAll ν0 (tn ν2) 201 S0 0 tt0).2.1) 12 0)) = 0 ∨ xsum ((xshf (xAll ν0 (tn ν2) 201 S0 0 tt0).2.1) 14) (tn ((xshf (xAll ν0 (tn ν2) 201 S0 0 tt0).2.1) 12 0)) = nI 10)) (tgt := 29) hx hb dX8_layText_23 (by decide) (fun c6 => ?_) (fun c6 => ?_)
    · refine lv_aload_n hx hb dX8_layText_29 rfl (lv_at hl 0 rfl) ?_
      refine x_get hx hb hts iwX8_layText_X8 hown hM 0 0 rfl rfl rfl 1 (by decide) (hts _ lkX8_layText_19) (fun _ h => h) rfl dX8_layText_30 ?_
      refine lv_astore_n (lv' := [(1, .ref (sd 0)), (0, .ref (ad 0))]) hx hb dX8_layText_33 rfl hl (by decide) rfl (fun ls hl => ?_)
      refine lv_aload_n hx hb dX8_layText_34 rfl (lv_at hl 1 rfl) ?_
      refine lv_aload_n hx hb dX8_layText_35 rfl (lv_at hl 1 rfl) ?_
      refine x_get hx hb hts iwX8_layText_X8 hown hM 0 0 rfl rfl rfl 2 (by decide) (hts _ lkX8_layText_23) (fun _ h => h) rfl dX8_layText_36 ?_
      refine x_put hx hb hts iwX8_layText_X8 tyX8 tyX8_ok nmX8 hown hM 0 0 rfl rfl rfl 1 (by decide) (hts _ lkX8_layText_19) (fun _ h => h) rfl (ty := .object "LeftAtFive$Street") (by decide +kernel) rfl rfl (Nat.le_of_ble_eq_true rfl) [w8 q ad (td 0) (dd 0) (dd 0) (md 0) ω4 (nd 0) (ud 0) (pd 0) ω8 ω9, w2 q td ν0 uN1 ν2 uP2, wst q sd X, wst q dd uX3, w3 q md μ0 μ1 μ2, wk q nd N, wp q ud ua 8 (nI uh), wpl q ua U 8, wp q pd pa 2 (nI ph), wpl q pa P 2] rfl dX8_layText_39 (fun H locs hM => ?_)
      refine lv_aload_n hx hb dX8_layText_42 rfl (lv_at hl 1 rfl) ?_
      refine lv_aload_n hx hb dX8_layText_43 rfl (lv_at hl 0 rfl) ?_
      refine x_put hx hb hts iwX8_layText_X8 tyX8 tyX8_ok nmX8 hown hM 0 0 rfl rfl rfl 2 (by decide) (hts _ lkX8_layText_23) (fun _ h => h) rfl (ty := .object "LeftAtFive$Street") (by decide +kernel) rfl rfl (Nat.le_of_ble_eq_true rfl) [w8 q ad (td 0) (dd 0) (sd 0) (md 0) ω4 (nd 0) (ud 0) (pd 0) ω8 ω9, w2 q td ν0 uN1 ν2 uP2, wst q sd X, wst q dd uX3, w3 q md μ0 μ1 μ2, wk q nd N, wp q ud ua 8 (nI uh), wpl q ua U 8, wp q pd pa 2 (nI ph), wpl q pa P 2] rfl dX8_layText_44 (fun H locs hM => ?_)
      refine lv_aload_n hx hb dX8_layText_47 rfl (lv_at hl 1 rfl) ?_
      refine x_get hx hb hts iwX8_layText_X8 hown hM 0 0 rfl rfl rfl 3 (by decide) (hts _ lkX8_layText_29) (fun _ h => h) rfl dX8_layText_48 ?_
      refine lv_aload_n hx hb dX8_layText_51 rfl (lv_at hl 1 rfl) ?_
      refine x_get hx hb hts iwX8_layText_X8 hown hM 0 0 rfl rfl rfl 1 (by decide) (hts _ lkX8_layText_19) (fun _ h => h) rfl dX8_layText_52 ?_
      refine lv_iconst (v := (-1)) hx hb dX8_layText_55 (by decide) ?_
      refine x_callv (bc := [w3 q md μ0 μ1 μ2, wst q dd uX3]) (br := [w8 q ad (td 0) (dd 0) (sd 0) (md 0) ω4 (nd 0) (ud 0) (pd 0) ω8 ω9, w2 q td ν0 uN1 ν2 uP2, wst q sd X, wk q nd N, wp q ud ua 8 (nI uh), wpl q ua U 8, wp q pd pa 2 (nI ph), wpl q pa P 2]) hM [4, 3] [0, 1, 2, 5, 6, 7, 8, 9] rfl rfl rfl (by decide) (x_runV (As := [.ref (dd 0), .int (-1)]) (rest := []) hfix (c_X3_plan l D q md μ0 μ1 μ2 dd uX3 (xshf (xAll ν0 (tn ν2) 201 S0 0 tt0).2.1) (-1) (-4) hx9 (Or.inl ⟨rfl, rfl⟩)) (cwV 2 hts gX8_layText_X3_plan rfl rfl rfl (by decide +kernel) ⟨Nat.le_of_ble_eq_true rfl, Nat.le_of_ble_eq_true rfl⟩) hM [4, 3] rfl rfl 4 0 rfl rfl rfl rfl rfl hl.1 rfl (Nat.le_of_ble_eq_true rfl) dX8_layText_56 ⟨Nat.le_of_ble_eq_true rfl, Nat.le_of_ble_eq_true rfl⟩) (fun u H locs hq hM => ?_)
      have hqx := hq
      obtain ⟨uB7, uW8, uT9⟩ := u
      have hM : xM D (TY q) [w8 q ad (td 0) (dd 0) (sd 0) (md 0) ω4 (nd 0) (ud 0) (pd 0) ω8 ω9, w2 q td ν0 uN1 ν2 uP2, wst q sd X, wk q nd N, wp q ud ua 8 (nI uh), wpl q ua U 8, wp q pd pa 2 (nI ph), wpl q pa P 2, w3 q md uB7 uW8 uT9, wst q dd uX3] A s.heap s H locs := hM
      have hM : xM D (TY q) [w8 q ad (td 0) (dd 0) (sd 0) (md 0) ω4 (nd 0) (ud 0) (pd 0) ω8 ω9, w2 q td ν0 uN1 ν2 uP2, wst q sd X, wst q dd uX3, w3 q md uB7 uW8 uT9, wk q nd N, wp q ud ua 8 (nI uh), wpl q ua U 8, wp q pd pa 2 (nI ph), wpl q pa P 2] A s.heap s H locs := hM.sel [0, 1, 2, 9, 8, 3, 4, 5, 6, 7] rfl rfl
      have hpl : okM uB7 uW8 ((xshf (xAll ν0 (tn ν2) 201 S0 0 tt0).2.1) 11) (tn ((xshf (xAll ν0 (tn ν2) 201 S0 0 tt0).2.1) 8 0)) (-4) := hqx
      refine lv_aload_n hx hb dX8_layText_59 rfl (lv_at hl 1 rfl) ?_
      refine x_get hx hb hts iwX8_layText_X8 hown hM 0 0 rfl rfl rfl 5 (by decide) (hts _ lkX8_layText_39) (fun _ h => h) rfl dX8_layText_60 ?_
      refine lv_aload_n hx hb dX8_layText_63 rfl (lv_at hl 1 rfl) ?_
      refine x_get hx hb hts iwX8_layText_X8 hown hM 0 0 rfl rfl rfl 1 (by decide) (hts _ lkX8_layText_19) (fun _ h => h) rfl dX8_layText_64 ?_
      refine x_callv (bc := [wk q nd N, wst q dd uX3]) (br := [w8 q ad (td 0) (dd 0) (sd 0) (md 0) ω4 (nd 0) (ud 0) (pd 0) ω8 ω9, w2 q td ν0 uN1 ν2 uP2, wst q sd X, w3 q md uB7 uW8 uT9, wp q ud ua 8 (nI uh), wpl q ua U 8, wp q pd pa 2 (nI ph), wpl q pa P 2]) hM [5, 3] [0, 1, 2, 4, 6, 7, 8, 9] rfl rfl rfl (by decide) (x_runV (As := [.ref (dd 0)]) (rest := []) hfix (c_X1_begin l D q nd N dd uX3) (cwV 1 hts gX8_layText_X1_begin rfl rfl rfl (by decide +kernel) ⟨Nat.le_of_ble_eq_true rfl, Nat.le_of_ble_eq_true rfl⟩) hM [5, 3] rfl rfl 5 0 rfl rfl rfl rfl rfl hl.1 rfl (Nat.le_of_ble_eq_true rfl) dX8_layText_67 ⟨Nat.le_of_ble_eq_true rfl, Nat.le_of_ble_eq_true rfl⟩) (fun u H locs hq hM => ?_)
      have hM : xM D (TY q) [w8 q ad (td 0) (dd 0) (sd 0) (md 0) ω4 (nd 0) (ud 0) (pd 0) ω8 ω9, w2 q td ν0 uN1 ν2 uP2, wst q sd X, w3 q md uB7 uW8 uT9, wp q ud ua 8 (nI uh), wpl q ua U 8, wp q pd pa 2 (nI ph), wpl q pa P 2, wk q nd (xbegC N (uX3 8)), wst q dd uX3] A s.heap s H locs := hM
      have hM : xM D (TY q) [w8 q ad (td 0) (dd 0) (sd 0) (md 0) ω4 (nd 0) (ud 0) (pd 0) ω8 ω9, w2 q td ν0 uN1 ν2 uP2, wst q sd X, wst q dd uX3, w3 q md uB7 uW8 uT9, wk q nd (xbegC N (uX3 8)), wp q ud ua 8 (nI uh), wpl q ua U 8, wp q pd pa 2 (nI ph), wpl q pa P 2] A s.heap s H locs := hM.sel [0, 1, 2, 9, 3, 8, 4, 5, 6, 7] rfl rfl
      refine lv_aload_n hx hb dX8_layText_70 rfl (lv_at hl 1 rfl) ?_
      refine x_get hx hb hts iwX8_layText_X8 hown hM 0 0 rfl rfl rfl 6 (by decide) (hts _ lkX8_layText_48) (fun _ h => h) rfl dX8_layText_71 ?_
      refine x_callv (bc := [wp q ud ua 8 (nI uh)]) (br := [w8 q ad (td 0) (dd 0) (sd 0) (md 0) ω4 (nd 0) (ud 0) (pd 0) ω8 ω9, w2 q td ν0 uN1 ν2 uP2, wst q sd X, wst q dd uX3, w3 q md uB7 uW8 uT9, wk q nd (xbegC N (uX3 8)), wpl q ua U 8, wp q pd pa 2 (nI ph), wpl q pa P 2]) hM [6] [0, 1, 2, 3, 4, 5, 7, 8, 9] rfl rfl rfl (by decide) (x_runV (As := []) (rest := []) hfix (c_X4_clear l D q ud ua 8 uh) (cwV 0 hts gX8_layText_X4_clear rfl rfl rfl (by decide +kernel) ⟨Nat.le_of_ble_eq_true rfl, Nat.le_of_ble_eq_true rfl⟩) hM [6] rfl rfl 6 0 rfl rfl rfl rfl rfl hl.1 rfl (Nat.le_of_ble_eq_true rfl) dX8_layText_74 ⟨Nat.le_of_ble_eq_true rfl, Nat.le_of_ble_eq_true rfl⟩) (fun u H locs hq hM => ?_)
      have hM : xM D (TY q) [w8 q ad (td 0) (dd 0) (sd 0) (md 0) ω4 (nd 0) (ud 0) (pd 0) ω8 ω9, w2 q td ν0 uN1 ν2 uP2, wst q sd X, wst q dd uX3, w3 q md uB7 uW8 uT9, wk q nd (xbegC N (uX3 8)), wpl q ua U 8, wp q pd pa 2 (nI ph), wpl q pa P 2, wp q ud ua 8 (nI 0)] A s.heap s H locs := hM
      have hM : xM D (TY q) [w8 q ad (td 0) (dd 0) (sd 0) (md 0) ω4 (nd 0) (ud 0) (pd 0) ω8 ω9, w2 q td ν0 uN1 ν2 uP2, wst q sd X, wst q dd uX3, w3 q md uB7 uW8 uT9, wk q nd (xbegC N (uX3 8)), wp q ud ua 8 (nI 0), wpl q ua U 8, wp q pd pa 2 (nI ph), wpl q pa P 2] A s.heap s H locs := hM.sel [0, 1, 2, 3, 4, 5, 9, 6, 7, 8] rfl rfl
      refine lv_aload_n hx hb dX8_layText_77 rfl (lv_at hl 1 rfl) ?_
      refine x_get hx hb hts iwX8_layText_X8 hown hM 0 0 rfl rfl rfl 7 (by decide) (hts _ lkX8_layText_52) (fun _ h => h) rfl dX8_layText_78 ?_
      refine x_callv (bc := [wp q pd pa 2 (nI ph)]) (br := [w8 q ad (td 0) (dd 0) (sd 0) (md 0) ω4 (nd 0) (ud 0) (pd 0) ω8 ω9, w2 q td ν0 uN1 ν2 uP2, wst q sd X, wst q dd uX3, w3 q md uB7 uW8 uT9, wk q nd (xbegC N (uX3 8)), wp q ud ua 8 (nI 0), wpl q ua U 8, wpl q pa P 2]) hM [8] [0, 1, 2, 3, 4, 5, 6, 7, 9] rfl rfl rfl (by decide) (x_runV (As := []) (rest := []) hfix (c_X4_clear l D q pd pa 2 ph) (cwV 0 hts gX8_layText_X4_clear rfl rfl rfl (by decide +kernel) ⟨Nat.le_of_ble_eq_true rfl, Nat.le_of_ble_eq_true rfl⟩) hM [8] rfl rfl 8 0 rfl rfl rfl rfl rfl hl.1 rfl (Nat.le_of_ble_eq_true rfl) dX8_layText_81 ⟨Nat.le_of_ble_eq_true rfl, Nat.le_of_ble_eq_true rfl⟩) (fun u H locs hq hM => ?_)
      have hM : xM D (TY q) [w8 q ad (td 0) (dd 0) (sd 0) (md 0) ω4 (nd 0) (ud 0) (pd 0) ω8 ω9, w2 q td ν0 uN1 ν2 uP2, wst q sd X, wst q dd uX3, w3 q md uB7 uW8 uT9, wk q nd (xbegC N (uX3 8)), wp q ud ua 8 (nI 0), wpl q ua U 8, wpl q pa P 2, wp q pd pa 2 (nI 0)] A s.heap s H locs := hM
      have hM : xM D (TY q) [w8 q ad (td 0) (dd 0) (sd 0) (md 0) ω4 (nd 0) (ud 0) (pd 0) ω8 ω9, w2 q td ν0 uN1 ν2 uP2, wst q sd X, wst q dd uX3, w3 q md uB7 uW8 uT9, wk q nd (xbegC N (uX3 8)), wp q ud ua 8 (nI 0), wpl q ua U 8, wp q pd pa 2 (nI 0), wpl q pa P 2] A s.heap s H locs := hM.sel [0, 1, 2, 3, 4, 5, 6, 7, 9, 8] rfl rfl
      refine lv_aload_n hx hb dX8_layText_84 rfl (lv_at hl 1 rfl) ?_
      refine x_get hx hb hts iwX8_layText_X8 hown hM 0 0 rfl rfl rfl 1 (by decide) (hts _ lkX8_layText_19) (fun _ h => h) rfl dX8_layText_85 ?_
      refine x_get hx hb hts iwX8_layText_X7 hown hM 3 0 rfl rfl rfl 1 (by decide) (hts _ lkX8_layText_273) (fun _ h => h) rfl dX8_layText_88 ?_
      have e11 : wk q nd (xbegC N (uX3 8)) = wk q nd (xbegC N (uX3 8)) := congrArg (wk q nd) (show (xbegC N (uX3 8) : Nat → Int32) = (xbegC N (uX3 8)) from by rfl)
      have hM : xM D (TY q) [w8 q ad (td 0) (dd 0) (sd 0) (md 0) ω4 (nd 0) (ud 0) (pd 0) ω8 ω9, w2 q td ν0 uN1 ν2 uP2, wst q sd X, wst q dd uX3, w3 q md uB7 uW8 uT9, wk q nd (xbegC N (uX3 8)), wp q ud ua 8 (nI 0), wpl q ua U 8, wp q pd pa 2 (nI 0), wpl q pa P 2] A s.heap s H locs := Eq.mp (congrArg (fun z9 => xM D (TY q) [w8 q ad (td 0) (dd 0) (sd 0) (md 0) ω4 (nd 0) (ud 0) (pd 0) ω8 ω9, w2 q td ν0 uN1 ν2 uP2, wst q sd X, wst q dd uX3, w3 q md uB7 uW8 uT9, z9, wp q ud ua 8 (nI 0), wpl q ua U 8, wp q pd pa 2 (nI 0), wpl q pa P 2] A s.heap s H locs) e11) hM
      exact x_iret hx hb hr hlocks (uN1, uP2, uX3, uB7, uW8, uT9) hM ⟨(show uX3 1 0 = nI (tn ((xAll ν0 (tn ν2) 201 S0 0 tt0).2.1 5 1)) from by (exact okT_1 hx9)), (show okT uX3 (xshf (xAll ν0 (tn ν2) 201 S0 0 tt0).2.1) ∧ okM uB7 uW8 ((xshf (xAll ν0 (tn ν2) 201 S0 0 tt0).2.1) 11) (tn ((xshf (xAll ν0 (tn ν2) 201 S0 0 tt0).2.1) 8 0)) (-4) from by exact ⟨hx9, hpl⟩)⟩ dX8_layText_91
    · exfalso; first | exact absurd hlk.1 (by assumption) | exact absurd hlk.2 (by assumption)
