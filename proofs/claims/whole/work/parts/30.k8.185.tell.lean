set_option maxRecDepth 20000 in
theorem ggX7_tell_X5_at : GoodIn wsX7_tell wsX5_at := goodIn_r _ [4] (by decide +kernel) (by decide +kernel)
set_option maxRecDepth 20000 in
theorem gX7_tell_X5_at : GoodIn wsX7_tell (va_wsS RX7 67 yX5_at wsX5_at) := goodIn_app (goodIn_of _ (by decide +kernel)) ggX7_tell_X5_at
set_option maxRecDepth 20000 in
theorem ggX7_tell_X7_tellGood : GoodIn wsX7_tell wsX7_tellGood := goodIn_r _ [9, 10, 11, 12, 13, 14, 15, 16, 17, 3, 18, 63, 64, 65, 66, 67, 68, 69, 70, 71, 72, 73, 74, 75, 76, 77, 78] (by decide +kernel) (by decide +kernel)
set_option maxRecDepth 20000 in
theorem gX7_tell_X7_tellGood : GoodIn wsX7_tell (wsV RX7 71 RX7 yX7_tellGood wsX7_tellGood) := goodIn_app (goodIn_of _ (by decide +kernel)) ggX7_tell_X7_tellGood
set_option maxRecDepth 20000 in
theorem ggX7_tell_X7_tellHouse : GoodIn wsX7_tell wsX7_tellHouse := goodIn_r _ [22, 23, 24, 13, 14, 15, 16, 17, 3, 18, 63, 64, 65, 66, 67, 68, 69, 70, 71, 72, 73, 74, 75, 76, 77, 78] (by decide +kernel) (by decide +kernel)
set_option maxRecDepth 20000 in
theorem gX7_tell_X7_tellHouse : GoodIn wsX7_tell (wsV RX7 75 RX7 yX7_tellHouse wsX7_tellHouse) := goodIn_app (goodIn_of _ (by decide +kernel)) ggX7_tell_X7_tellHouse
set_option maxRecDepth 20000 in
theorem ggX7_tell_X7_tellStock : GoodIn wsX7_tell wsX7_tellStock := goodIn_r _ [28, 29, 30, 31, 32, 8, 33, 23, 13, 14, 15, 34, 35, 36, 37, 10, 38, 39, 40, 16, 17, 3, 18, 63, 64, 65, 66, 67, 68, 69, 70, 71, 72, 73, 74, 75, 76, 77, 78] (by decide +kernel) (by decide +kernel)
set_option maxRecDepth 20000 in
theorem gX7_tell_X7_tellStock : GoodIn wsX7_tell (wsV RX7 79 RX7 yX7_tellStock wsX7_tellStock) := goodIn_app (goodIn_of _ (by decide +kernel)) ggX7_tell_X7_tellStock
set_option maxRecDepth 20000 in
theorem ggX7_tell_X7_tellEater : GoodIn wsX7_tell wsX7_tellEater := goodIn_r _ [44, 45, 46, 47, 30, 31, 32, 8, 33, 23, 13, 14, 15, 34, 35, 36, 37, 10, 38, 39, 40, 16, 17, 3, 18, 63, 64, 65, 66, 67, 68, 69, 70, 71, 72, 73, 74, 75, 76, 77, 78] (by decide +kernel) (by decide +kernel)
set_option maxRecDepth 20000 in
theorem gX7_tell_X7_tellEater : GoodIn wsX7_tell (wsV RX7 83 RX7 yX7_tellEater wsX7_tellEater) := goodIn_app (goodIn_of _ (by decide +kernel)) ggX7_tell_X7_tellEater
set_option maxRecDepth 20000 in
theorem ggX7_tell_X7_tellDemand : GoodIn wsX7_tell wsX7_tellDemand := goodIn_r _ [51, 52, 53, 54, 13, 14, 15, 16, 17, 3, 18, 63, 64, 65, 66, 67, 68, 69, 70, 71, 72, 73, 74, 75, 76, 77, 78] (by decide +kernel) (by decide +kernel)
set_option maxRecDepth 20000 in
theorem gX7_tell_X7_tellDemand : GoodIn wsX7_tell (wsV RX7 86 RX7 yX7_tellDemand wsX7_tellDemand) := goodIn_app (goodIn_of _ (by decide +kernel)) ggX7_tell_X7_tellDemand
set_option maxRecDepth 20000 in
theorem ggX7_tell_X7_tellRecipe : GoodIn wsX7_tell wsX7_tellRecipe := goodIn_r _ [58, 59, 60, 61, 62, 34, 35, 36, 8, 37, 10, 13, 14, 15, 16, 17, 3, 18, 63, 64, 65, 66, 67, 68, 69, 70, 71, 72, 73, 74, 75, 76, 77, 78] (by decide +kernel) (by decide +kernel)
set_option maxRecDepth 20000 in
theorem gX7_tell_X7_tellRecipe : GoodIn wsX7_tell (wsV RX7 89 RX7 yX7_tellRecipe wsX7_tellRecipe) := goodIn_app (goodIn_of _ (by decide +kernel)) ggX7_tell_X7_tellRecipe
theorem dX7_tell_0 : decode cX7_tell 0 = .ok (.aload_n 2, 1) := by decide +kernel
theorem dX7_tell_1 : decode cX7_tell 1 = .ok (.iconst 0, 1) := by decide +kernel
theorem dX7_tell_2 : decode cX7_tell 2 = .ok (.invokestatic 67, 3) := by decide +kernel
theorem dX7_tell_5 : decode cX7_tell 5 = .ok (.istore_n 3, 1) := by decide +kernel
theorem dX7_tell_6 : decode cX7_tell 6 = .ok (.aload_n 2, 1) := by decide +kernel
theorem dX7_tell_7 : decode cX7_tell 7 = .ok (.iconst 1, 1) := by decide +kernel
theorem dX7_tell_8 : decode cX7_tell 8 = .ok (.invokestatic 67, 3) := by decide +kernel
theorem dX7_tell_11 : decode cX7_tell 11 = .ok (.istore 4, 2) := by decide +kernel
theorem dX7_tell_13 : decode cX7_tell 13 = .ok (.aload_n 2, 1) := by decide +kernel
theorem dX7_tell_14 : decode cX7_tell 14 = .ok (.iconst 2, 1) := by decide +kernel
theorem dX7_tell_15 : decode cX7_tell 15 = .ok (.invokestatic 67, 3) := by decide +kernel
theorem dX7_tell_18 : decode cX7_tell 18 = .ok (.istore 5, 2) := by decide +kernel
theorem dX7_tell_20 : decode cX7_tell 20 = .ok (.iload_n 1, 1) := by decide +kernel
theorem dX7_tell_21 : decode cX7_tell 21 = .ok (.tableswitch 131 100 115 #[113, 103, 131, 79, 87, 131, 131, 121, 131, 131, 131, 131, 131, 131, 131, 93], 79) := by decide +kernel
theorem dX7_tell_100 : decode cX7_tell 100 = .ok (.aload_n 0, 1) := by decide +kernel
theorem dX7_tell_101 : decode cX7_tell 101 = .ok (.iload_n 3, 1) := by decide +kernel
theorem dX7_tell_102 : decode cX7_tell 102 = .ok (.iload 4, 2) := by decide +kernel
theorem dX7_tell_104 : decode cX7_tell 104 = .ok (.invokevirtual 71, 3) := by decide +kernel
theorem dX7_tell_107 : decode cX7_tell 107 = .ok (.ireturn, 1) := by decide +kernel
theorem dX7_tell_108 : decode cX7_tell 108 = .ok (.aload_n 0, 1) := by decide +kernel
theorem dX7_tell_109 : decode cX7_tell 109 = .ok (.iload_n 3, 1) := by decide +kernel
theorem dX7_tell_110 : decode cX7_tell 110 = .ok (.invokevirtual 75, 3) := by decide +kernel
theorem dX7_tell_113 : decode cX7_tell 113 = .ok (.ireturn, 1) := by decide +kernel
theorem dX7_tell_114 : decode cX7_tell 114 = .ok (.aload_n 0, 1) := by decide +kernel
theorem dX7_tell_115 : decode cX7_tell 115 = .ok (.iload_n 3, 1) := by decide +kernel
theorem dX7_tell_116 : decode cX7_tell 116 = .ok (.iload 4, 2) := by decide +kernel
theorem dX7_tell_118 : decode cX7_tell 118 = .ok (.iload 5, 2) := by decide +kernel
theorem dX7_tell_120 : decode cX7_tell 120 = .ok (.invokevirtual 79, 3) := by decide +kernel
theorem dX7_tell_123 : decode cX7_tell 123 = .ok (.ireturn, 1) := by decide +kernel
theorem dX7_tell_124 : decode cX7_tell 124 = .ok (.aload_n 0, 1) := by decide +kernel
theorem dX7_tell_125 : decode cX7_tell 125 = .ok (.iload_n 3, 1) := by decide +kernel
theorem dX7_tell_126 : decode cX7_tell 126 = .ok (.iload 4, 2) := by decide +kernel
theorem dX7_tell_128 : decode cX7_tell 128 = .ok (.iload 5, 2) := by decide +kernel
theorem dX7_tell_130 : decode cX7_tell 130 = .ok (.invokevirtual 83, 3) := by decide +kernel
theorem dX7_tell_133 : decode cX7_tell 133 = .ok (.ireturn, 1) := by decide +kernel
theorem dX7_tell_134 : decode cX7_tell 134 = .ok (.aload_n 0, 1) := by decide +kernel
theorem dX7_tell_135 : decode cX7_tell 135 = .ok (.iload_n 3, 1) := by decide +kernel
theorem dX7_tell_136 : decode cX7_tell 136 = .ok (.iload 4, 2) := by decide +kernel
theorem dX7_tell_138 : decode cX7_tell 138 = .ok (.invokevirtual 86, 3) := by decide +kernel
theorem dX7_tell_141 : decode cX7_tell 141 = .ok (.ireturn, 1) := by decide +kernel
theorem dX7_tell_142 : decode cX7_tell 142 = .ok (.aload_n 0, 1) := by decide +kernel
theorem dX7_tell_143 : decode cX7_tell 143 = .ok (.iload_n 3, 1) := by decide +kernel
theorem dX7_tell_144 : decode cX7_tell 144 = .ok (.iload 4, 2) := by decide +kernel
theorem dX7_tell_146 : decode cX7_tell 146 = .ok (.iload 5, 2) := by decide +kernel
theorem dX7_tell_148 : decode cX7_tell 148 = .ok (.invokevirtual 89, 3) := by decide +kernel
theorem dX7_tell_151 : decode cX7_tell 151 = .ok (.ireturn, 1) := by decide +kernel
theorem dX7_tell_152 : decode cX7_tell 152 = .ok (.iconst 0, 1) := by decide +kernel
theorem dX7_tell_153 : decode cX7_tell 153 = .ok (.ireturn, 1) := by decide +kernel
set_option maxHeartbeats 2000000 in
set_option maxRecDepth 100000 in
theorem c_X7_tell (l : Launch) (D : va_G) (q : Nat → ClassId) (ad : Nat → Nat) (X : Nat → Nat → Int32) (ld : Nat → Nat) (ν0 : Nat → Int32) (ν1 : Nat → Int32) (ν2 : Int32) (ν3 : Int32) (S : Nat → Nat → Int32) (ch : Int32) (hT : okT X (xshf S)) (hN : ∀ j, j < xnbh ch → ν1 j = nI (tn (ν1 j)) ∧ tn (ν1 j) ≤ 99) : xC l yX7_tell wsX7_tell ({ frames := 3, cells := 0, slots := 0, locals := 66 }) D (TY q) [wst q ad X, w2 q ld ν0 ν1 ν2 ν3] [.ref (ad 0), .int ch, .ref (ld 2)] (xQi D (TY q) (fun (r : Int32) (u : (Nat → Nat → Int32)) => r = zb ((xIt ch S ν1).1 = true) ∧ okT u (xshf (xIt ch S ν1).2.1)) (fun (u : (Nat → Nat → Int32)) => [wst q ad u, w2 q ld ν0 ν1 ν2 ν3])) 0 0 := by
  refine x_enter (cc := cX7_tell) (maxL := 6) (ret := (some .boolean)) (by decide) rfl (Nat.le_of_ble_eq_true rfl) ?_
  intro p e s m below meth c A ls H locs hfix hr hlocks hinit hM hl
  obtain ⟨hx, hb, hml, hown, hts⟩ := id hfix
  have hl : lv_has ls 6 [(0, .ref (ad 0)), (1, .int ch), (2, .ref (ld 2))] := hl
  refine lv_aload_n hx hb dX7_tell_0 rfl (lv_at hl 2 rfl) ?_
  refine lv_iconst (v := nI 0) hx hb dX7_tell_1 (by decide) ?_
  refine x_calli (bc := [w2 q ld ν0 ν1 ν2 ν3]) (br := [wst q ad X]) hM [1] [0] rfl rfl rfl (by decide) (x_runS (As := [.ref (ld 2), .int (nI 0)]) (rest := []) hfix (c_X5_at l D q (w2 q ld ν0 ν1 ν2 ν3) 2 (ld 2) 3 ν1 0 rfl (by decide) (by omega)) (va_cwS 2 hts gX7_tell_X5_at rfl rfl rfl (by decide +kernel) ⟨Nat.le_of_ble_eq_true rfl, Nat.le_of_ble_eq_true rfl⟩) hM [1] rfl rfl rfl hl.1 rfl (Nat.le_of_ble_eq_true rfl) dX7_tell_2 ⟨Nat.le_of_ble_eq_true rfl, Nat.le_of_ble_eq_true rfl⟩) (fun r u H locs hq hM => ?_)
  subst hq
  have hM : xM D (TY q) [wst q ad X, w2 q ld ν0 ν1 ν2 ν3] A s.heap s H locs := hM
  refine lv_istore_n (lv' := [(3, .int (ν1 0)), (0, .ref (ad 0)), (1, .int ch), (2, .ref (ld 2))]) hx hb dX7_tell_5 rfl hl (by decide) rfl (fun ls hl => ?_)
  refine lv_aload_n hx hb dX7_tell_6 rfl (lv_at hl 3 rfl) ?_
  refine lv_iconst (v := nI 1) hx hb dX7_tell_7 (by decide) ?_
  refine x_calli (bc := [w2 q ld ν0 ν1 ν2 ν3]) (br := [wst q ad X]) hM [1] [0] rfl rfl rfl (by decide) (x_runS (As := [.ref (ld 2), .int (nI 1)]) (rest := []) hfix (c_X5_at l D q (w2 q ld ν0 ν1 ν2 ν3) 2 (ld 2) 3 ν1 1 rfl (by decide) (by omega)) (va_cwS 2 hts gX7_tell_X5_at rfl rfl rfl (by decide +kernel) ⟨Nat.le_of_ble_eq_true rfl, Nat.le_of_ble_eq_true rfl⟩) hM [1] rfl rfl rfl hl.1 rfl (Nat.le_of_ble_eq_true rfl) dX7_tell_8 ⟨Nat.le_of_ble_eq_true rfl, Nat.le_of_ble_eq_true rfl⟩) (fun r u H locs hq hM => ?_)
  subst hq
  have hM : xM D (TY q) [wst q ad X, w2 q ld ν0 ν1 ν2 ν3] A s.heap s H locs := hM
  refine lv_istore (lv' := [(4, .int (ν1 1)), (3, .int (ν1 0)), (0, .ref (ad 0)), (1, .int ch), (2, .ref (ld 2))]) hx hb dX7_tell_11 hl (by decide) rfl (fun ls hl => ?_)
  refine lv_aload_n hx hb dX7_tell_13 rfl (lv_at hl 4 rfl) ?_
  refine lv_iconst (v := nI 2) hx hb dX7_tell_14 (by decide) ?_
  refine x_calli (bc := [w2 q ld ν0 ν1 ν2 ν3]) (br := [wst q ad X]) hM [1] [0] rfl rfl rfl (by decide) (x_runS (As := [.ref (ld 2), .int (nI 2)]) (rest := []) hfix (c_X5_at l D q (w2 q ld ν0 ν1 ν2 ν3) 2 (ld 2) 3 ν1 2 rfl (by decide) (by omega)) (va_cwS 2 hts gX7_tell_X5_at rfl rfl rfl (by decide +kernel) ⟨Nat.le_of_ble_eq_true rfl, Nat.le_of_ble_eq_true rfl⟩) hM [1] rfl rfl rfl hl.1 rfl (Nat.le_of_ble_eq_true rfl) dX7_tell_15 ⟨Nat.le_of_ble_eq_true rfl, Nat.le_of_ble_eq_true rfl⟩) (fun r u H locs hq hM => ?_)
  subst hq
  have hM : xM D (TY q) [wst q ad X, w2 q ld ν0 ν1 ν2 ν3] A s.heap s H locs := hM
  refine lv_istore (lv' := [(5, .int (ν1 2)), (4, .int (ν1 1)), (3, .int (ν1 0)), (0, .ref (ad 0)), (1, .int ch), (2, .ref (ld 2))]) hx hb dX7_tell_18 hl (by decide) rfl (fun ls hl => ?_)
  refine lv_iload_n hx hb dX7_tell_20 rfl (lv_at hl 4 rfl) ?_
  rcases Decidable.em (ch = nI 100) with c1 | c1
  · refine x_cast c1 ?_
    refine lv_tableIn (tgt := 134) (off := 113) hx hb dX7_tell_21 (by decide) (by decide) (by decide) (by decide) ?_
    have hcv : ch = nI 100 := by assumption
    have hq : xnbh ch = 2 := by rw [hcv]; decide
    have hit : xIt ch S ν1 = xDemR S (true, 0, ν1) := xIt_100 hcv
    refine lv_aload_n hx hb dX7_tell_134 rfl (lv_at hl 3 rfl) ?_
    refine lv_iload_n hx hb dX7_tell_135 rfl (lv_at hl 2 rfl) ?_
    refine x_cast (y := nI (tn (ν1 0))) ((hN 0 (by omega)).1) ?_
    refine lv_iload hx hb dX7_tell_136 (lv_at hl 1 rfl) ?_
    refine x_cast (y := nI (tn (ν1 1))) ((hN 1 (by omega)).1) ?_
    refine x_calli (bc := [wst q ad X]) (br := [w2 q ld ν0 ν1 ν2 ν3]) hM [0] [1] rfl rfl rfl (by decide) (x_runV (As := [.int (nI (tn (ν1 0))), .int (nI (tn (ν1 1)))]) (rest := []) hfix (c_X7_tellDemand l D q ad X S ν1 (tn (ν1 0)) (tn (ν1 1)) hT rfl (hN 0 (by omega)).2 rfl (hN 1 (by omega)).2) (cwV 2 hts gX7_tell_X7_tellDemand rfl rfl rfl (by decide +kernel) ⟨Nat.le_of_ble_eq_true rfl, Nat.le_of_ble_eq_true rfl⟩) hM [0] rfl rfl 0 0 rfl rfl rfl rfl rfl hl.1 rfl (Nat.le_of_ble_eq_true rfl) dX7_tell_138 ⟨Nat.le_of_ble_eq_true rfl, Nat.le_of_ble_eq_true rfl⟩) (fun r u H locs hq hM => ?_)
    obtain ⟨hq, hqx⟩ := hq
    subst hq
    obtain ⟨uX2, hex⟩ : ∃ z, z = u := ⟨_, rfl⟩; subst hex
    have hM : xM D (TY q) [w2 q ld ν0 ν1 ν2 ν3, wst q ad uX2] A s.heap s H locs := hM
    have hM : xM D (TY q) [wst q ad uX2, w2 q ld ν0 ν1 ν2 ν3] A s.heap s H locs := hM.sel [1, 0] rfl rfl
    have hx9 : okT uX2 (xshf (xDemR S (true, 0, ν1)).2.1) := hqx
    exact x_zret hx hb hr hlocks uX2 hM zb_bool ⟨(show zb ((xDemR S (true, 0, ν1)).1 = true) = zb ((xIt ch S ν1).1 = true) from by (first | (rw [hit]; done) | (rw [hit]; exact zb_f' Bool.false_ne_true))), (show okT uX2 (xshf (xIt ch S ν1).2.1) from by (rw [hit]; first | exact hx9 | exact hT))⟩ dX7_tell_141
  rcases Decidable.em (ch = nI 101) with c4 | c4
  · refine x_cast c4 ?_
    refine lv_tableIn (tgt := 124) (off := 103) hx hb dX7_tell_21 (by decide) (by decide) (by decide) (by decide) ?_
    have hcv : ch = nI 101 := by assumption
    have hq : xnbh ch = 3 := by rw [hcv]; decide
    have hit : xIt ch S ν1 = xEaterR S (true, 0, ν1) := xIt_101 hcv
    refine lv_aload_n hx hb dX7_tell_124 rfl (lv_at hl 3 rfl) ?_
    refine lv_iload_n hx hb dX7_tell_125 rfl (lv_at hl 2 rfl) ?_
    refine x_cast (y := nI (tn (ν1 0))) ((hN 0 (by omega)).1) ?_
    refine lv_iload hx hb dX7_tell_126 (lv_at hl 1 rfl) ?_
    refine x_cast (y := nI (tn (ν1 1))) ((hN 1 (by omega)).1) ?_
    refine lv_iload hx hb dX7_tell_128 (lv_at hl 0 rfl) ?_
    refine x_cast (y := nI (tn (ν1 2))) ((hN 2 (by omega)).1) ?_
    refine x_calli (bc := [wst q ad X]) (br := [w2 q ld ν0 ν1 ν2 ν3]) hM [0] [1] rfl rfl rfl (by decide) (x_runV (As := [.int (nI (tn (ν1 0))), .int (nI (tn (ν1 1))), .int (nI (tn (ν1 2)))]) (rest := []) hfix (c_X7_tellEater l D q ad X S ν1 (tn (ν1 0)) (tn (ν1 1)) (tn (ν1 2)) hT rfl (hN 0 (by omega)).2 rfl (hN 1 (by omega)).2 rfl (hN 2 (by omega)).2) (cwV 3 hts gX7_tell_X7_tellEater rfl rfl rfl (by decide +kernel) ⟨Nat.le_of_ble_eq_true rfl, Nat.le_of_ble_eq_true rfl⟩) hM [0] rfl rfl 0 0 rfl rfl rfl rfl rfl hl.1 rfl (Nat.le_of_ble_eq_true rfl) dX7_tell_130 ⟨Nat.le_of_ble_eq_true rfl, Nat.le_of_ble_eq_true rfl⟩) (fun r u H locs hq hM => ?_)
    obtain ⟨hq, hqx⟩ := hq
    subst hq
    obtain ⟨uX5, hex⟩ : ∃ z, z = u := ⟨_, rfl⟩; subst hex
    have hM : xM D (TY q) [w2 q ld ν0 ν1 ν2 ν3, wst q ad uX5] A s.heap s H locs := hM
    have hM : xM D (TY q) [wst q ad uX5, w2 q ld ν0 ν1 ν2 ν3] A s.heap s H locs := hM.sel [1, 0] rfl rfl
    have hx9 : okT uX5 (xshf (xEaterR S (true, 0, ν1)).2.1) := hqx
    exact x_zret hx hb hr hlocks uX5 hM zb_bool ⟨(show zb ((xEaterR S (true, 0, ν1)).1 = true) = zb ((xIt ch S ν1).1 = true) from by (first | (rw [hit]; done) | (rw [hit]; exact zb_f' Bool.false_ne_true))), (show okT uX5 (xshf (xIt ch S ν1).2.1) from by (rw [hit]; first | exact hx9 | exact hT))⟩ dX7_tell_133
  rcases Decidable.em (ch = nI 103) with c7 | c7
  · refine x_cast c7 ?_
    refine lv_tableIn (tgt := 100) (off := 79) hx hb dX7_tell_21 (by decide) (by decide) (by decide) (by decide) ?_
    have hcv : ch = nI 103 := by assumption
    have hq : xnbh ch = 2 := by rw [hcv]; decide
    have hit : xIt ch S ν1 = xGoodR S (true, 0, ν1) := xIt_103 hcv
    refine lv_aload_n hx hb dX7_tell_100 rfl (lv_at hl 3 rfl) ?_
    refine lv_iload_n hx hb dX7_tell_101 rfl (lv_at hl 2 rfl) ?_
    refine x_cast (y := nI (tn (ν1 0))) ((hN 0 (by omega)).1) ?_
    refine lv_iload hx hb dX7_tell_102 (lv_at hl 1 rfl) ?_
    refine x_cast (y := nI (tn (ν1 1))) ((hN 1 (by omega)).1) ?_
    refine x_calli (bc := [wst q ad X]) (br := [w2 q ld ν0 ν1 ν2 ν3]) hM [0] [1] rfl rfl rfl (by decide) (x_runV (As := [.int (nI (tn (ν1 0))), .int (nI (tn (ν1 1)))]) (rest := []) hfix (c_X7_tellGood l D q ad X S ν1 (tn (ν1 0)) (tn (ν1 1)) hT rfl (hN 0 (by omega)).2 rfl (hN 1 (by omega)).2) (cwV 2 hts gX7_tell_X7_tellGood rfl rfl rfl (by decide +kernel) ⟨Nat.le_of_ble_eq_true rfl, Nat.le_of_ble_eq_true rfl⟩) hM [0] rfl rfl 0 0 rfl rfl rfl rfl rfl hl.1 rfl (Nat.le_of_ble_eq_true rfl) dX7_tell_104 ⟨Nat.le_of_ble_eq_true rfl, Nat.le_of_ble_eq_true rfl⟩) (fun r u H locs hq hM => ?_)
    obtain ⟨hq, hqx⟩ := hq
    subst hq
    obtain ⟨uX8, hex⟩ : ∃ z, z = u := ⟨_, rfl⟩; subst hex
    have hM : xM D (TY q) [w2 q ld ν0 ν1 ν2 ν3, wst q ad uX8] A s.heap s H locs := hM
    have hM : xM D (TY q) [wst q ad uX8, w2 q ld ν0 ν1 ν2 ν3] A s.heap s H locs := hM.sel [1, 0] rfl rfl
    have hx9 : okT uX8 (xshf (xGoodR S (true, 0, ν1)).2.1) := hqx
    exact x_zret hx hb hr hlocks uX8 hM zb_bool ⟨(show zb ((xGoodR S (true, 0, ν1)).1 = true) = zb ((xIt ch S ν1).1 = true) from by (first | (rw [hit]; done) | (rw [hit]; exact zb_f' Bool.false_ne_true))), (show okT uX8 (xshf (xIt ch S ν1).2.1) from by (rw [hit]; first | exact hx9 | exact hT))⟩ dX7_tell_107
  rcases Decidable.em (ch = nI 104) with c10 | c10
  · refine x_cast c10 ?_
    refine lv_tableIn (tgt := 108) (off := 87) hx hb dX7_tell_21 (by decide) (by decide) (by decide) (by decide) ?_
    have hcv : ch = nI 104 := by assumption
    have hq : xnbh ch = 1 := by rw [hcv]; decide
    have hit : xIt ch S ν1 = xHouseR S (true, 0, ν1) := xIt_104 hcv
    refine lv_aload_n hx hb dX7_tell_108 rfl (lv_at hl 3 rfl) ?_
    refine lv_iload_n hx hb dX7_tell_109 rfl (lv_at hl 2 rfl) ?_
    refine x_cast (y := nI (tn (ν1 0))) ((hN 0 (by omega)).1) ?_
    refine x_calli (bc := [wst q ad X]) (br := [w2 q ld ν0 ν1 ν2 ν3]) hM [0] [1] rfl rfl rfl (by decide) (x_runV (As := [.int (nI (tn (ν1 0)))]) (rest := []) hfix (c_X7_tellHouse l D q ad X S ν1 (tn (ν1 0)) hT rfl (hN 0 (by omega)).2) (cwV 1 hts gX7_tell_X7_tellHouse rfl rfl rfl (by decide +kernel) ⟨Nat.le_of_ble_eq_true rfl, Nat.le_of_ble_eq_true rfl⟩) hM [0] rfl rfl 0 0 rfl rfl rfl rfl rfl hl.1 rfl (Nat.le_of_ble_eq_true rfl) dX7_tell_110 ⟨Nat.le_of_ble_eq_true rfl, Nat.le_of_ble_eq_true rfl⟩) (fun r u H locs hq hM => ?_)
    obtain ⟨hq, hqx⟩ := hq
    subst hq
    obtain ⟨uX11, hex⟩ : ∃ z, z = u := ⟨_, rfl⟩; subst hex
    have hM : xM D (TY q) [w2 q ld ν0 ν1 ν2 ν3, wst q ad uX11] A s.heap s H locs := hM
    have hM : xM D (TY q) [wst q ad uX11, w2 q ld ν0 ν1 ν2 ν3] A s.heap s H locs := hM.sel [1, 0] rfl rfl
    have hx9 : okT uX11 (xshf (xHouseR S (true, 0, ν1)).2.1) := hqx
    exact x_zret hx hb hr hlocks uX11 hM zb_bool ⟨(show zb ((xHouseR S (true, 0, ν1)).1 = true) = zb ((xIt ch S ν1).1 = true) from by (first | (rw [hit]; done) | (rw [hit]; exact zb_f' Bool.false_ne_true))), (show okT uX11 (xshf (xIt ch S ν1).2.1) from by (rw [hit]; first | exact hx9 | exact hT))⟩ dX7_tell_113
  rcases Decidable.em (ch = nI 107) with c13 | c13
  · refine x_cast c13 ?_
    refine lv_tableIn (tgt := 142) (off := 121) hx hb dX7_tell_21 (by decide) (by decide) (by decide) (by decide) ?_
    have hcv : ch = nI 107 := by assumption
    have hq : xnbh ch = 3 := by rw [hcv]; decide
    have hit : xIt ch S ν1 = xRecR S (true, 0, ν1) := xIt_107 hcv
    refine lv_aload_n hx hb dX7_tell_142 rfl (lv_at hl 3 rfl) ?_
    refine lv_iload_n hx hb dX7_tell_143 rfl (lv_at hl 2 rfl) ?_
    refine x_cast (y := nI (tn (ν1 0))) ((hN 0 (by omega)).1) ?_
    refine lv_iload hx hb dX7_tell_144 (lv_at hl 1 rfl) ?_
    refine x_cast (y := nI (tn (ν1 1))) ((hN 1 (by omega)).1) ?_
    refine lv_iload hx hb dX7_tell_146 (lv_at hl 0 rfl) ?_
    refine x_cast (y := nI (tn (ν1 2))) ((hN 2 (by omega)).1) ?_
    refine x_calli (bc := [wst q ad X]) (br := [w2 q ld ν0 ν1 ν2 ν3]) hM [0] [1] rfl rfl rfl (by decide) (x_runV (As := [.int (nI (tn (ν1 0))), .int (nI (tn (ν1 1))), .int (nI (tn (ν1 2)))]) (rest := []) hfix (c_X7_tellRecipe l D q ad X S ν1 (tn (ν1 0)) (tn (ν1 1)) (tn (ν1 2)) hT rfl (hN 0 (by omega)).2 rfl (hN 1 (by omega)).2 rfl (hN 2 (by omega)).2) (cwV 3 hts gX7_tell_X7_tellRecipe rfl rfl rfl (by decide +kernel) ⟨Nat.le_of_ble_eq_true rfl, Nat.le_of_ble_eq_true rfl⟩) hM [0] rfl rfl 0 0 rfl rfl rfl rfl rfl hl.1 rfl (Nat.le_of_ble_eq_true rfl) dX7_tell_148 ⟨Nat.le_of_ble_eq_true rfl, Nat.le_of_ble_eq_true rfl⟩) (fun r u H locs hq hM => ?_)
    obtain ⟨hq, hqx⟩ := hq
    subst hq
    obtain ⟨uX14, hex⟩ : ∃ z, z = u := ⟨_, rfl⟩; subst hex
    have hM : xM D (TY q) [w2 q ld ν0 ν1 ν2 ν3, wst q ad uX14] A s.heap s H locs := hM
    have hM : xM D (TY q) [wst q ad uX14, w2 q ld ν0 ν1 ν2 ν3] A s.heap s H locs := hM.sel [1, 0] rfl rfl
    have hx9 : okT uX14 (xshf (xRecR S (true, 0, ν1)).2.1) := hqx
    exact x_zret hx hb hr hlocks uX14 hM zb_bool ⟨(show zb ((xRecR S (true, 0, ν1)).1 = true) = zb ((xIt ch S ν1).1 = true) from by (first | (rw [hit]; done) | (rw [hit]; exact zb_f' Bool.false_ne_true))), (show okT uX14 (xshf (xIt ch S ν1).2.1) from by (rw [hit]; first | exact hx9 | exact hT))⟩ dX7_tell_151
  rcases Decidable.em (ch = nI 115) with c16 | c16
  · refine x_cast c16 ?_
    refine lv_tableIn (tgt := 114) (off := 93) hx hb dX7_tell_21 (by decide) (by decide) (by decide) (by decide) ?_
    have hcv : ch = nI 115 := by assumption
    have hq : xnbh ch = 3 := by rw [hcv]; decide
    have hit : xIt ch S ν1 = xStockR S (true, 0, ν1) := xIt_115 hcv
    refine lv_aload_n hx hb dX7_tell_114 rfl (lv_at hl 3 rfl) ?_
    refine lv_iload_n hx hb dX7_tell_115 rfl (lv_at hl 2 rfl) ?_
    refine x_cast (y := nI (tn (ν1 0))) ((hN 0 (by omega)).1) ?_
    refine lv_iload hx hb dX7_tell_116 (lv_at hl 1 rfl) ?_
    refine x_cast (y := nI (tn (ν1 1))) ((hN 1 (by omega)).1) ?_
    refine lv_iload hx hb dX7_tell_118 (lv_at hl 0 rfl) ?_
    refine x_cast (y := nI (tn (ν1 2))) ((hN 2 (by omega)).1) ?_
    refine x_calli (bc := [wst q ad X]) (br := [w2 q ld ν0 ν1 ν2 ν3]) hM [0] [1] rfl rfl rfl (by decide) (x_runV (As := [.int (nI (tn (ν1 0))), .int (nI (tn (ν1 1))), .int (nI (tn (ν1 2)))]) (rest := []) hfix (c_X7_tellStock l D q ad X S ν1 (tn (ν1 0)) (tn (ν1 1)) (tn (ν1 2)) hT rfl (hN 0 (by omega)).2 rfl (hN 1 (by omega)).2 rfl (hN 2 (by omega)).2) (cwV 3 hts gX7_tell_X7_tellStock rfl rfl rfl (by decide +kernel) ⟨Nat.le_of_ble_eq_true rfl, Nat.le_of_ble_eq_true rfl⟩) hM [0] rfl rfl 0 0 rfl rfl rfl rfl rfl hl.1 rfl (Nat.le_of_ble_eq_true rfl) dX7_tell_120 ⟨Nat.le_of_ble_eq_true rfl, Nat.le_of_ble_eq_true rfl⟩) (fun r u H locs hq hM => ?_)
    obtain ⟨hq, hqx⟩ := hq
    subst hq
    obtain ⟨uX17, hex⟩ : ∃ z, z = u := ⟨_, rfl⟩; subst hex
    have hM : xM D (TY q) [w2 q ld ν0 ν1 ν2 ν3, wst q ad uX17] A s.heap s H locs := hM
    have hM : xM D (TY q) [wst q ad uX17, w2 q ld ν0 ν1 ν2 ν3] A s.heap s H locs := hM.sel [1, 0] rfl rfl
    have hx9 : okT uX17 (xshf (xStockR S (true, 0, ν1)).2.1) := hqx
    exact x_zret hx hb hr hlocks uX17 hM zb_bool ⟨(show zb ((xStockR S (true, 0, ν1)).1 = true) = zb ((xIt ch S ν1).1 = true) from by (first | (rw [hit]; done) | (rw [hit]; exact zb_f' Bool.false_ne_true))), (show okT uX17 (xshf (xIt ch S ν1).2.1) from by (rw [hit]; first | exact hx9 | exact hT))⟩ dX7_tell_123
  rcases Decidable.em (ch = nI 102) with c19 | c19
  · refine x_cast c19 ?_
    refine lv_tableIn (tgt := 152) (off := 131) hx hb dX7_tell_21 (by decide) (by decide) (by decide) (by decide) ?_
    have hcv : ch = nI 102 := by assumption
    have hq : xnbh ch = 0 := by rw [hcv]; decide
    have hit : xIt ch S ν1 = (false, S, 0, ν1) := xIt_0 hq
    refine lv_iconst (v := nI 0) hx hb dX7_tell_152 (by decide) ?_
    exact x_zret hx hb hr hlocks X hM rfl ⟨(show nI 0 = zb ((xIt ch S ν1).1 = true) from by (first | (rw [hit]; done) | (rw [hit]; exact zb_f' Bool.false_ne_true))), (show okT X (xshf (xIt ch S ν1).2.1) from by (rw [hit]; first | exact hx9 | exact hT))⟩ dX7_tell_153
  rcases Decidable.em (ch = nI 105) with c20 | c20
  · refine x_cast c20 ?_
    refine lv_tableIn (tgt := 152) (off := 131) hx hb dX7_tell_21 (by decide) (by decide) (by decide) (by decide) ?_
    have hcv : ch = nI 105 := by assumption
    have hq : xnbh ch = 0 := by rw [hcv]; decide
    have hit : xIt ch S ν1 = (false, S, 0, ν1) := xIt_0 hq
    refine lv_iconst (v := nI 0) hx hb dX7_tell_152 (by decide) ?_
    exact x_zret hx hb hr hlocks X hM rfl ⟨(show nI 0 = zb ((xIt ch S ν1).1 = true) from by (first | (rw [hit]; done) | (rw [hit]; exact zb_f' Bool.false_ne_true))), (show okT X (xshf (xIt ch S ν1).2.1) from by (rw [hit]; first | exact hx9 | exact hT))⟩ dX7_tell_153
  rcases Decidable.em (ch = nI 106) with c21 | c21
  · refine x_cast c21 ?_
    refine lv_tableIn (tgt := 152) (off := 131) hx hb dX7_tell_21 (by decide) (by decide) (by decide) (by decide) ?_
    have hcv : ch = nI 106 := by assumption
    have hq : xnbh ch = 0 := by rw [hcv]; decide
    have hit : xIt ch S ν1 = (false, S, 0, ν1) := xIt_0 hq
    refine lv_iconst (v := nI 0) hx hb dX7_tell_152 (by decide) ?_
    exact x_zret hx hb hr hlocks X hM rfl ⟨(show nI 0 = zb ((xIt ch S ν1).1 = true) from by (first | (rw [hit]; done) | (rw [hit]; exact zb_f' Bool.false_ne_true))), (show okT X (xshf (xIt ch S ν1).2.1) from by (rw [hit]; first | exact hx9 | exact hT))⟩ dX7_tell_153
  rcases Decidable.em (ch = nI 108) with c22 | c22
  · refine x_cast c22 ?_
    refine lv_tableIn (tgt := 152) (off := 131) hx hb dX7_tell_21 (by decide) (by decide) (by decide) (by decide) ?_
    have hcv : ch = nI 108 := by assumption
    have hq : xnbh ch = 0 := by rw [hcv]; decide
    have hit : xIt ch S ν1 = (false, S, 0, ν1) := xIt_0 hq
    refine lv_iconst (v := nI 0) hx hb dX7_tell_152 (by decide) ?_
    exact x_zret hx hb hr hlocks X hM rfl ⟨(show nI 0 = zb ((xIt ch S ν1).1 = true) from by (first | (rw [hit]; done) | (rw [hit]; exact zb_f' Bool.false_ne_true))), (show okT X (xshf (xIt ch S ν1).2.1) from by (rw [hit]; first | exact hx9 | exact hT))⟩ dX7_tell_153
  rcases Decidable.em (ch = nI 109) with c23 | c23
  · refine x_cast c23 ?_
    refine lv_tableIn (tgt := 152) (off := 131) hx hb dX7_tell_21 (by decide) (by decide) (by decide) (by decide) ?_
    have hcv : ch = nI 109 := by assumption
    have hq : xnbh ch = 0 := by rw [hcv]; decide
    have hit : xIt ch S ν1 = (false, S, 0, ν1) := xIt_0 hq
    refine lv_iconst (v := nI 0) hx hb dX7_tell_152 (by decide) ?_
    exact x_zret hx hb hr hlocks X hM rfl ⟨(show nI 0 = zb ((xIt ch S ν1).1 = true) from by (first | (rw [hit]; done) | (rw [hit]; exact zb_f' Bool.false_ne_true))), (show okT X (xshf (xIt ch S ν1).2.1) from by (rw [hit]; first | exact hx9 | exact hT))⟩ dX7_tell_153
  rcases Decidable.em (ch = nI 110) with c24 | c24
  · refine x_cast c24 ?_
    refine lv_tableIn (tgt := 152) (off := 131) hx hb dX7_tell_21 (by decide) (by decide) (by decide) (by decide) ?_
    have hcv : ch = nI 110 := by assumption
    have hq : xnbh ch = 0 := by rw [hcv]; decide
    have hit : xIt ch S ν1 = (false, S, 0, ν1) := xIt_0 hq
    refine lv_iconst (v := nI 0) hx hb dX7_tell_152 (by decide) ?_
    exact x_zret hx hb hr hlocks X hM rfl ⟨(show nI 0 = zb ((xIt ch S ν1).1 = true) from by (first | (rw [hit]; done) | (rw [hit]; exact zb_f' Bool.false_ne_true))), (show okT X (xshf (xIt ch S ν1).2.1) from by (rw [hit]; first | exact hx9 | exact hT))⟩ dX7_tell_153
  rcases Decidable.em (ch = nI 111) with c25 | c25
  · refine x_cast c25 ?_
    refine lv_tableIn (tgt := 152) (off := 131) hx hb dX7_tell_21 (by decide) (by decide) (by decide) (by decide) ?_
    have hcv : ch = nI 111 := by assumption
    have hq : xnbh ch = 0 := by rw [hcv]; decide
    have hit : xIt ch S ν1 = (false, S, 0, ν1) := xIt_0 hq
    refine lv_iconst (v := nI 0) hx hb dX7_tell_152 (by decide) ?_
    exact x_zret hx hb hr hlocks X hM rfl ⟨(show nI 0 = zb ((xIt ch S ν1).1 = true) from by (first | (rw [hit]; done) | (rw [hit]; exact zb_f' Bool.false_ne_true))), (show okT X (xshf (xIt ch S ν1).2.1) from by (rw [hit]; first | exact hx9 | exact hT))⟩ dX7_tell_153
  rcases Decidable.em (ch = nI 112) with c26 | c26
  · refine x_cast c26 ?_
    refine lv_tableIn (tgt := 152) (off := 131) hx hb dX7_tell_21 (by decide) (by decide) (by decide) (by decide) ?_
    have hcv : ch = nI 112 := by assumption
    have hq : xnbh ch = 0 := by rw [hcv]; decide
    have hit : xIt ch S ν1 = (false, S, 0, ν1) := xIt_0 hq
    refine lv_iconst (v := nI 0) hx hb dX7_tell_152 (by decide) ?_
    exact x_zret hx hb hr hlocks X hM rfl ⟨(show nI 0 = zb ((xIt ch S ν1).1 = true) from by (first | (rw [hit]; done) | (rw [hit]; exact zb_f' Bool.false_ne_true))), (show okT X (xshf (xIt ch S ν1).2.1) from by (rw [hit]; first | exact hx9 | exact hT))⟩ dX7_tell_153
  rcases Decidable.em (ch = nI 113) with c27 | c27
  · refine x_cast c27 ?_
    refine lv_tableIn (tgt := 152) (off := 131) hx hb dX7_tell_21 (by decide) (by decide) (by decide) (by decide) ?_
    have hcv : ch = nI 113 := by assumption
    have hq : xnbh ch = 0 := by rw [hcv]; decide
    have hit : xIt ch S ν1 = (false, S, 0, ν1) := xIt_0 hq
    refine lv_iconst (v := nI 0) hx hb dX7_tell_152 (by decide) ?_
    exact x_zret hx hb hr hlocks X hM rfl ⟨(show nI 0 = zb ((xIt ch S ν1).1 = true) from by (first | (rw [hit]; done) | (rw [hit]; exact zb_f' Bool.false_ne_true))), (show okT X (xshf (xIt ch S ν1).2.1) from by (rw [hit]; first | exact hx9 | exact hT))⟩ dX7_tell_153
  rcases Decidable.em (ch = nI 114) with c28 | c28
  · refine x_cast c28 ?_
    refine lv_tableIn (tgt := 152) (off := 131) hx hb dX7_tell_21 (by decide) (by decide) (by decide) (by decide) ?_
    have hcv : ch = nI 114 := by assumption
    have hq : xnbh ch = 0 := by rw [hcv]; decide
    have hit : xIt ch S ν1 = (false, S, 0, ν1) := xIt_0 hq
    refine lv_iconst (v := nI 0) hx hb dX7_tell_152 (by decide) ?_
    exact x_zret hx hb hr hlocks X hM rfl ⟨(show nI 0 = zb ((xIt ch S ν1).1 = true) from by (first | (rw [hit]; done) | (rw [hit]; exact zb_f' Bool.false_ne_true))), (show okT X (xshf (xIt ch S ν1).2.1) from by (rw [hit]; first | exact hx9 | exact hT))⟩ dX7_tell_153
  have tc1 := x_neI (k := 100) (by decide) c1
  have tc4 := x_neI (k := 101) (by decide) c4
  have tc7 := x_neI (k := 103) (by decide) c7
  have tc10 := x_neI (k := 104) (by decide) c10
  have tc13 := x_neI (k := 107) (by decide) c13
  have tc16 := x_neI (k := 115) (by decide) c16
  have tc19 := x_neI (k := 102) (by decide) c19
  have tc20 := x_neI (k := 105) (by decide) c20
  have tc21 := x_neI (k := 106) (by decide) c21
  have tc22 := x_neI (k := 108) (by decide) c22
  have tc23 := x_neI (k := 109) (by decide) c23
  have tc24 := x_neI (k := 110) (by decide) c24
  have tc25 := x_neI (k := 111) (by decide) c25
  have tc26 := x_neI (k := 112) (by decide) c26
  have tc27 := x_neI (k := 113) (by decide) c27
  have tc28 := x_neI (k := 114) (by decide) c28
  refine lv_tableOut (tgt := 152) hx hb dX7_tell_21 (by omega) (by decide) ?_
  have hq : xnbh ch = 0 := xnbh_d (by assumption) (by assumption) (by assumption) (by assumption) (by assumption) (by assumption)
  have hit : xIt ch S ν1 = (false, S, 0, ν1) := xIt_0 hq
  refine lv_iconst (v := nI 0) hx hb dX7_tell_152 (by decide) ?_
  exact x_zret hx hb hr hlocks X hM rfl ⟨(show nI 0 = zb ((xIt ch S ν1).1 = true) from by (first | (rw [hit]; done) | (rw [hit]; exact zb_f' Bool.false_ne_true))), (show okT X (xshf (xIt ch S ν1).2.1) from by (rw [hit]; first | exact hx9 | exact hT))⟩ dX7_tell_153
