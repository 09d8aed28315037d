set_option maxRecDepth 20000 in
theorem ggX8_count_X4_size : GoodIn wsX8_count wsX4_size := goodIn_r _ [17, 18, 57, 58] (by decide +kernel) (by decide +kernel)
set_option maxRecDepth 20000 in
theorem gX8_count_X4_size : GoodIn wsX8_count (wsV RX8 168 RX4 yX4_size wsX4_size) := goodIn_app (goodIn_of _ (by decide +kernel)) ggX8_count_X4_size
set_option maxRecDepth 20000 in
theorem ggX8_count_X2_size : GoodIn wsX8_count wsX2_size := goodIn_r _ [23, 24, 59, 60, 61, 62] (by decide +kernel) (by decide +kernel)
set_option maxRecDepth 20000 in
theorem gX8_count_X2_size : GoodIn wsX8_count (wsV RX8 95 RX2 yX2_size wsX2_size) := goodIn_app (goodIn_of _ (by decide +kernel)) ggX8_count_X2_size
theorem dX8_count_0 : decode cX8_count 0 = .ok (.iload_n 1, 1) := by decide +kernel
theorem dX8_count_1 : decode cX8_count 1 = .ok (.tableswitch 135 0 9 #[55, 63, 71, 79, 87, 95, 103, 111, 119, 127], 55) := by decide +kernel
theorem dX8_count_56 : decode cX8_count 56 = .ok (.aload_n 0, 1) := by decide +kernel
theorem dX8_count_57 : decode cX8_count 57 = .ok (.getfield 19, 3) := by decide +kernel
theorem dX8_count_60 : decode cX8_count 60 = .ok (.getfield 270, 3) := by decide +kernel
theorem dX8_count_63 : decode cX8_count 63 = .ok (.ireturn, 1) := by decide +kernel
theorem dX8_count_64 : decode cX8_count 64 = .ok (.aload_n 0, 1) := by decide +kernel
theorem dX8_count_65 : decode cX8_count 65 = .ok (.getfield 19, 3) := by decide +kernel
theorem dX8_count_68 : decode cX8_count 68 = .ok (.getfield 273, 3) := by decide +kernel
theorem dX8_count_71 : decode cX8_count 71 = .ok (.ireturn, 1) := by decide +kernel
theorem dX8_count_72 : decode cX8_count 72 = .ok (.aload_n 0, 1) := by decide +kernel
theorem dX8_count_73 : decode cX8_count 73 = .ok (.getfield 19, 3) := by decide +kernel
theorem dX8_count_76 : decode cX8_count 76 = .ok (.getfield 276, 3) := by decide +kernel
theorem dX8_count_79 : decode cX8_count 79 = .ok (.ireturn, 1) := by decide +kernel
theorem dX8_count_80 : decode cX8_count 80 = .ok (.aload_n 0, 1) := by decide +kernel
theorem dX8_count_81 : decode cX8_count 81 = .ok (.getfield 19, 3) := by decide +kernel
theorem dX8_count_84 : decode cX8_count 84 = .ok (.getfield 206, 3) := by decide +kernel
theorem dX8_count_87 : decode cX8_count 87 = .ok (.ireturn, 1) := by decide +kernel
theorem dX8_count_88 : decode cX8_count 88 = .ok (.aload_n 0, 1) := by decide +kernel
theorem dX8_count_89 : decode cX8_count 89 = .ok (.getfield 19, 3) := by decide +kernel
theorem dX8_count_92 : decode cX8_count 92 = .ok (.getfield 279, 3) := by decide +kernel
theorem dX8_count_95 : decode cX8_count 95 = .ok (.ireturn, 1) := by decide +kernel
theorem dX8_count_96 : decode cX8_count 96 = .ok (.aload_n 0, 1) := by decide +kernel
theorem dX8_count_97 : decode cX8_count 97 = .ok (.getfield 39, 3) := by decide +kernel
theorem dX8_count_100 : decode cX8_count 100 = .ok (.getfield 138, 3) := by decide +kernel
theorem dX8_count_103 : decode cX8_count 103 = .ok (.ireturn, 1) := by decide +kernel
theorem dX8_count_104 : decode cX8_count 104 = .ok (.aload_n 0, 1) := by decide +kernel
theorem dX8_count_105 : decode cX8_count 105 = .ok (.getfield 39, 3) := by decide +kernel
theorem dX8_count_108 : decode cX8_count 108 = .ok (.getfield 131, 3) := by decide +kernel
theorem dX8_count_111 : decode cX8_count 111 = .ok (.ireturn, 1) := by decide +kernel
theorem dX8_count_112 : decode cX8_count 112 = .ok (.aload_n 0, 1) := by decide +kernel
theorem dX8_count_113 : decode cX8_count 113 = .ok (.getfield 48, 3) := by decide +kernel
theorem dX8_count_116 : decode cX8_count 116 = .ok (.invokevirtual 168, 3) := by decide +kernel
theorem dX8_count_119 : decode cX8_count 119 = .ok (.ireturn, 1) := by decide +kernel
theorem dX8_count_120 : decode cX8_count 120 = .ok (.aload_n 0, 1) := by decide +kernel
theorem dX8_count_121 : decode cX8_count 121 = .ok (.getfield 52, 3) := by decide +kernel
theorem dX8_count_124 : decode cX8_count 124 = .ok (.invokevirtual 168, 3) := by decide +kernel
theorem dX8_count_127 : decode cX8_count 127 = .ok (.ireturn, 1) := by decide +kernel
theorem dX8_count_128 : decode cX8_count 128 = .ok (.aload_n 0, 1) := by decide +kernel
theorem dX8_count_129 : decode cX8_count 129 = .ok (.getfield 10, 3) := by decide +kernel
theorem dX8_count_132 : decode cX8_count 132 = .ok (.invokevirtual 95, 3) := by decide +kernel
theorem dX8_count_135 : decode cX8_count 135 = .ok (.ireturn, 1) := by decide +kernel
theorem dX8_count_136 : decode cX8_count 136 = .ok (.iconst (-1), 1) := by decide +kernel
theorem dX8_count_137 : decode cX8_count 137 = .ok (.ireturn, 1) := by decide +kernel
theorem lkX8_count_10 : Cond.fieldLink RX8 10 "LeftAtFive" "text" "LLeftAtFive$Letters;" ∈ wsX8_count := by decide +kernel
theorem lkX8_count_19 : Cond.fieldLink RX8 19 "LeftAtFive" "street" "LLeftAtFive$Street;" ∈ wsX8_count := by decide +kernel
theorem lkX8_count_39 : Cond.fieldLink RX8 39 "LeftAtFive" "now" "LLeftAtFive$Kitchens;" ∈ wsX8_count := by decide +kernel
theorem lkX8_count_48 : Cond.fieldLink RX8 48 "LeftAtFive" "undone" "LLeftAtFive$Pile;" ∈ wsX8_count := by decide +kernel
theorem lkX8_count_52 : Cond.fieldLink RX8 52 "LeftAtFive" "kept" "LLeftAtFive$Pile;" ∈ wsX8_count := by decide +kernel
theorem lkX8_count_131 : Cond.fieldLink RX8 131 "LeftAtFive$Kitchens" "ways" "I" ∈ wsX8_count := by decide +kernel
theorem lkX8_count_138 : Cond.fieldLink RX8 138 "LeftAtFive$Kitchens" "minute" "I" ∈ wsX8_count := by decide +kernel
theorem lkX8_count_206 : Cond.fieldLink RX8 206 "LeftAtFive$Street" "demands" "I" ∈ wsX8_count := by decide +kernel
theorem lkX8_count_270 : Cond.fieldLink RX8 270 "LeftAtFive$Street" "goods" "I" ∈ wsX8_count := by decide +kernel
theorem lkX8_count_273 : Cond.fieldLink RX8 273 "LeftAtFive$Street" "houses" "I" ∈ wsX8_count := by decide +kernel
theorem lkX8_count_276 : Cond.fieldLink RX8 276 "LeftAtFive$Street" "eaters" "I" ∈ wsX8_count := by decide +kernel
theorem lkX8_count_279 : Cond.fieldLink RX8 279 "LeftAtFive$Street" "recipes" "I" ∈ wsX8_count := by decide +kernel
theorem iwX8_count_X1 : ∀ w ∈ wsX10, w ∈ wsX8_count := by decide +kernel
theorem iwX8_count_X7 : ∀ w ∈ wsX70, w ∈ wsX8_count := by decide +kernel
theorem iwX8_count_X8 : ∀ w ∈ wsX80, w ∈ wsX8_count := by decide +kernel
set_option maxHeartbeats 2000000 in
set_option maxRecDepth 100000 in
theorem c_X8_count (l : Launch) (D : va_G) (q : Nat → ClassId) (ad : Nat → Nat) (ω0 : Nat) (ω1 : Nat) (ω2 : Nat) (ω3 : Nat) (ω4 : Nat) (ω5 : Nat) (ω6 : Nat) (ω7 : Nat) (ω8 : Nat) (ω9 : Nat) (td : Nat → Nat) (ν0 : Nat → Int32) (ν1 : Nat → Int32) (ν2 : Int32) (ν3 : Int32) (sd : Nat → Nat) (X : Nat → Nat → Int32) (nd : Nat → Nat) (N : Nat → Int32) (ud : Nat → Nat) (ua : Nat → Nat → Nat) (U : Nat → Nat → Int32) (pd : Nat → Nat) (pa : Nat → Nat → Nat) (P : Nat → Nat → Int32) (S : Nat → Nat → Int32) (uh : Nat) (ph : Nat) (x : Int32) (hT : okT X S) (huh : uh ≤ 8) (hph : ph ≤ 2) : xC l yX8_count wsX8_count ({ frames := 1, cells := 0, slots := 0, locals := 20 }) D (TY q) [w8 q ad (td 0) (sd 0) ω2 ω3 ω4 (nd 0) (ud 0) (pd 0) ω8 ω9, w2 q td ν0 ν1 ν2 ν3, wst q sd X, wk q nd N, wp q ud ua 8 (nI uh), wpl q ua U 8, wp q pd pa 2 (nI ph), wpl q pa P 2] [.ref (ad 0), .int x] (xQi D (TY q) (fun (r : Int32) (_ : Unit) => r = xcnt x (X 0 0) (X 1 0) (X 2 0) (X 3 0) (X 4 0) (N 25) (N 26) (nI uh) (nI ph) ν2) (fun _ => [w8 q ad (td 0) (sd 0) ω2 ω3 ω4 (nd 0) (ud 0) (pd 0) ω8 ω9, w2 q td ν0 ν1 ν2 ν3, wst q sd X, wk q nd N, wp q ud ua 8 (nI uh), wpl q ua U 8, wp q pd pa 2 (nI ph), wpl q pa P 2])) 0 0 := by
  refine x_enter (cc := cX8_count) (maxL := 2) (ret := (some .int)) (by decide) rfl (Nat.le_of_ble_eq_true rfl) ?_
  intro p e s m below meth c A ls H locs hfix hr hlocks hinit hM hl
  obtain ⟨hx, hb, hml, hown, hts⟩ := id hfix
  have hl : lv_has ls 2 [(0, .ref (ad 0)), (1, .int x)] := hl
  have hTb0 := okT_0b hT
  have hTb1 := okT_1b hT
  have hTb2 := okT_2b hT
  have hTb3 := okT_3b hT
  have hTb4 := okT_4b hT
  refine lv_iload_n hx hb dX8_count_0 rfl (lv_at hl 1 rfl) ?_
  rcases Decidable.em (x = nI 0) with c1 | c1
  · refine x_cast c1 ?_
    refine lv_tableIn (tgt := 56) (off := 55) hx hb dX8_count_1 (by decide) (by decide) (by decide) (by decide) ?_
    refine lv_aload_n hx hb dX8_count_56 rfl (lv_at hl 0 rfl) ?_
    refine x_get hx hb hts iwX8_count_X8 hown hM 0 0 rfl rfl rfl 1 (by decide) (hts _ lkX8_count_19) (fun _ h => h) rfl dX8_count_57 ?_
    refine x_get hx hb hts iwX8_count_X7 hown hM 2 0 rfl rfl rfl 0 (by decide) (hts _ lkX8_count_270) (fun _ h => h) rfl dX8_count_60 ?_
    exact x_iret hx hb hr hlocks () hM (show X 0 0 = xcnt x (X 0 0) (X 1 0) (X 2 0) (X 3 0) (X 4 0) (N 25) (N 26) (nI uh) (nI ph) ν2 from by (subst_vars; rfl)) dX8_count_63
  rcases Decidable.em (x = nI 1) with c2 | c2
  · refine x_cast c2 ?_
    refine lv_tableIn (tgt := 64) (off := 63) hx hb dX8_count_1 (by decide) (by decide) (by decide) (by decide) ?_
    refine lv_aload_n hx hb dX8_count_64 rfl (lv_at hl 0 rfl) ?_
    refine x_get hx hb hts iwX8_count_X8 hown hM 0 0 rfl rfl rfl 1 (by decide) (hts _ lkX8_count_19) (fun _ h => h) rfl dX8_count_65 ?_
    refine x_get hx hb hts iwX8_count_X7 hown hM 2 0 rfl rfl rfl 1 (by decide) (hts _ lkX8_count_273) (fun _ h => h) rfl dX8_count_68 ?_
    exact x_iret hx hb hr hlocks () hM (show X 1 0 = xcnt x (X 0 0) (X 1 0) (X 2 0) (X 3 0) (X 4 0) (N 25) (N 26) (nI uh) (nI ph) ν2 from by (subst_vars; rfl)) dX8_count_71
  rcases Decidable.em (x = nI 2) with c3 | c3
  · refine x_cast c3 ?_
    refine lv_tableIn (tgt := 72) (off := 71) hx hb dX8_count_1 (by decide) (by decide) (by decide) (by decide) ?_
    refine lv_aload_n hx hb dX8_count_72 rfl (lv_at hl 0 rfl) ?_
    refine x_get hx hb hts iwX8_count_X8 hown hM 0 0 rfl rfl rfl 1 (by decide) (hts _ lkX8_count_19) (fun _ h => h) rfl dX8_count_73 ?_
    refine x_get hx hb hts iwX8_count_X7 hown hM 2 0 rfl rfl rfl 2 (by decide) (hts _ lkX8_count_276) (fun _ h => h) rfl dX8_count_76 ?_
    exact x_iret hx hb hr hlocks () hM (show X 2 0 = xcnt x (X 0 0) (X 1 0) (X 2 0) (X 3 0) (X 4 0) (N 25) (N 26) (nI uh) (nI ph) ν2 from by (subst_vars; rfl)) dX8_count_79
  rcases Decidable.em (x = nI 3) with c4 | c4
  · refine x_cast c4 ?_
    refine lv_tableIn (tgt := 80) (off := 79) hx hb dX8_count_1 (by decide) (by decide) (by decide) (by decide) ?_
    refine lv_aload_n hx hb dX8_count_80 rfl (lv_at hl 0 rfl) ?_
    refine x_get hx hb hts iwX8_count_X8 hown hM 0 0 rfl rfl rfl 1 (by decide) (hts _ lkX8_count_19) (fun _ h => h) rfl dX8_count_81 ?_
    refine x_get hx hb hts iwX8_count_X7 hown hM 2 0 rfl rfl rfl 3 (by decide) (hts _ lkX8_count_206) (fun _ h => h) rfl dX8_count_84 ?_
    exact x_iret hx hb hr hlocks () hM (show X 3 0 = xcnt x (X 0 0) (X 1 0) (X 2 0) (X 3 0) (X 4 0) (N 25) (N 26) (nI uh) (nI ph) ν2 from by (subst_vars; rfl)) dX8_count_87
  rcases Decidable.em (x = nI 4) with c5 | c5
  · refine x_cast c5 ?_
    refine lv_tableIn (tgt := 88) (off := 87) hx hb dX8_count_1 (by decide) (by decide) (by decide) (by decide) ?_
    refine lv_aload_n hx hb dX8_count_88 rfl (lv_at hl 0 rfl) ?_
    refine x_get hx hb hts iwX8_count_X8 hown hM 0 0 rfl rfl rfl 1 (by decide) (hts _ lkX8_count_19) (fun _ h => h) rfl dX8_count_89 ?_
    refine x_get hx hb hts iwX8_count_X7 hown hM 2 0 rfl rfl rfl 4 (by decide) (hts _ lkX8_count_279) (fun _ h => h) rfl dX8_count_92 ?_
    exact x_iret hx hb hr hlocks () hM (show X 4 0 = xcnt x (X 0 0) (X 1 0) (X 2 0) (X 3 0) (X 4 0) (N 25) (N 26) (nI uh) (nI ph) ν2 from by (subst_vars; rfl)) dX8_count_95
  rcases Decidable.em (x = nI 5) with c6 | c6
  · refine x_cast c6 ?_
    refine lv_tableIn (tgt := 96) (off := 95) hx hb dX8_count_1 (by decide) (by decide) (by decide) (by decide) ?_
    refine lv_aload_n hx hb dX8_count_96 rfl (lv_at hl 0 rfl) ?_
    refine x_get hx hb hts iwX8_count_X8 hown hM 0 0 rfl rfl rfl 5 (by decide) (hts _ lkX8_count_39) (fun _ h => h) rfl dX8_count_97 ?_
    refine x_get hx hb hts iwX8_count_X1 hown hM 3 0 rfl rfl rfl 0 (by decide) (hts _ lkX8_count_138) (fun _ h => h) rfl dX8_count_100 ?_
    exact x_iret hx hb hr hlocks () hM (show N 25 = xcnt x (X 0 0) (X 1 0) (X 2 0) (X 3 0) (X 4 0) (N 25) (N 26) (nI uh) (nI ph) ν2 from by (subst_vars; rfl)) dX8_count_103
  rcases Decidable.em (x = nI 6) with c7 | c7
  · refine x_cast c7 ?_
    refine lv_tableIn (tgt := 104) (off := 103) hx hb dX8_count_1 (by decide) (by decide) (by decide) (by decide) ?_
    refine lv_aload_n hx hb dX8_count_104 rfl (lv_at hl 0 rfl) ?_
    refine x_get hx hb hts iwX8_count_X8 hown hM 0 0 rfl rfl rfl 5 (by decide) (hts _ lkX8_count_39) (fun _ h => h) rfl dX8_count_105 ?_
    refine x_get hx hb hts iwX8_count_X1 hown hM 3 0 rfl rfl rfl 1 (by decide) (hts _ lkX8_count_131) (fun _ h => h) rfl dX8_count_108 ?_
    exact x_iret hx hb hr hlocks () hM (show N 26 = xcnt x (X 0 0) (X 1 0) (X 2 0) (X 3 0) (X 4 0) (N 25) (N 26) (nI uh) (nI ph) ν2 from by (subst_vars; rfl)) dX8_count_111
  rcases Decidable.em (x = nI 7) with c8 | c8
  · refine x_cast c8 ?_
    refine lv_tableIn (tgt := 112) (off := 111) hx hb dX8_count_1 (by decide) (by decide) (by decide) (by decide) ?_
    refine lv_aload_n hx hb dX8_count_112 rfl (lv_at hl 0 rfl) ?_
    refine x_get hx hb hts iwX8_count_X8 hown hM 0 0 rfl rfl rfl 6 (by decide) (hts _ lkX8_count_48) (fun _ h => h) rfl dX8_count_113 ?_
    refine x_calli (bc := [wp q ud ua 8 (nI uh)]) (br := [w8 q ad (td 0) (sd 0) ω2 ω3 ω4 (nd 0) (ud 0) (pd 0) ω8 ω9, w2 q td ν0 ν1 ν2 ν3, wst q sd X, wk q nd N, wpl q ua U 8, wp q pd pa 2 (nI ph), wpl q pa P 2]) hM [4] [0, 1, 2, 3, 5, 6, 7] rfl rfl rfl (by decide) (x_runV (As := []) (rest := []) hfix (c_X4_size l D q ud ua 8 uh) (cwV 0 hts gX8_count_X4_size rfl rfl rfl (by decide +kernel) ⟨Nat.le_of_ble_eq_true rfl, Nat.le_of_ble_eq_true rfl⟩) hM [4] rfl rfl 4 0 rfl rfl rfl rfl rfl hl.1 rfl (Nat.le_of_ble_eq_true rfl) dX8_count_116 ⟨Nat.le_of_ble_eq_true rfl, Nat.le_of_ble_eq_true rfl⟩) (fun r u H locs hq hM => ?_)
    have hq := hq.symm
    subst hq
    have hM : xM D (TY q) [w8 q ad (td 0) (sd 0) ω2 ω3 ω4 (nd 0) (ud 0) (pd 0) ω8 ω9, w2 q td ν0 ν1 ν2 ν3, wst q sd X, wk q nd N, wpl q ua U 8, wp q pd pa 2 (nI ph), wpl q pa P 2, wp q ud ua 8 (nI uh)] A s.heap s H locs := hM
    have hM : xM D (TY q) [w8 q ad (td 0) (sd 0) ω2 ω3 ω4 (nd 0) (ud 0) (pd 0) ω8 ω9, w2 q td ν0 ν1 ν2 ν3, wst q sd X, wk q nd N, wp q ud ua 8 (nI uh), wpl q ua U 8, wp q pd pa 2 (nI ph), wpl q pa P 2] A s.heap s H locs := hM.sel [0, 1, 2, 3, 7, 4, 5, 6] rfl rfl
    exact x_iret hx hb hr hlocks () hM (show nI uh = xcnt x (X 0 0) (X 1 0) (X 2 0) (X 3 0) (X 4 0) (N 25) (N 26) (nI uh) (nI ph) ν2 from by (subst_vars; rfl)) dX8_count_119
  rcases Decidable.em (x = nI 8) with c9 | c9
  · refine x_cast c9 ?_
    refine lv_tableIn (tgt := 120) (off := 119) hx hb dX8_count_1 (by decide) (by decide) (by decide) (by decide) ?_
    refine lv_aload_n hx hb dX8_count_120 rfl (lv_at hl 0 rfl) ?_
    refine x_get hx hb hts iwX8_count_X8 hown hM 0 0 rfl rfl rfl 7 (by decide) (hts _ lkX8_count_52) (fun _ h => h) rfl dX8_count_121 ?_
    refine x_calli (bc := [wp q pd pa 2 (nI ph)]) (br := [w8 q ad (td 0) (sd 0) ω2 ω3 ω4 (nd 0) (ud 0) (pd 0) ω8 ω9, w2 q td ν0 ν1 ν2 ν3, wst q sd X, wk q nd N, wp q ud ua 8 (nI uh), wpl q ua U 8, wpl q pa P 2]) hM [6] [0, 1, 2, 3, 4, 5, 7] rfl rfl rfl (by decide) (x_runV (As := []) (rest := []) hfix (c_X4_size l D q pd pa 2 ph) (cwV 0 hts gX8_count_X4_size rfl rfl rfl (by decide +kernel) ⟨Nat.le_of_ble_eq_true rfl, Nat.le_of_ble_eq_true rfl⟩) hM [6] rfl rfl 6 0 rfl rfl rfl rfl rfl hl.1 rfl (Nat.le_of_ble_eq_true rfl) dX8_count_124 ⟨Nat.le_of_ble_eq_true rfl, Nat.le_of_ble_eq_true rfl⟩) (fun r u H locs hq hM => ?_)
    have hq := hq.symm
    subst hq
    have hM : xM D (TY q) [w8 q ad (td 0) (sd 0) ω2 ω3 ω4 (nd 0) (ud 0) (pd 0) ω8 ω9, w2 q td ν0 ν1 ν2 ν3, wst q sd X, wk q nd N, wp q ud ua 8 (nI uh), wpl q ua U 8, wpl q pa P 2, wp q pd pa 2 (nI ph)] A s.heap s H locs := hM
    have hM : xM D (TY q) [w8 q ad (td 0) (sd 0) ω2 ω3 ω4 (nd 0) (ud 0) (pd 0) ω8 ω9, w2 q td ν0 ν1 ν2 ν3, wst q sd X, wk q nd N, wp q ud ua 8 (nI uh), wpl q ua U 8, wp q pd pa 2 (nI ph), wpl q pa P 2] A s.heap s H locs := hM.sel [0, 1, 2, 3, 4, 5, 7, 6] rfl rfl
    exact x_iret hx hb hr hlocks () hM (show nI ph = xcnt x (X 0 0) (X 1 0) (X 2 0) (X 3 0) (X 4 0) (N 25) (N 26) (nI uh) (nI ph) ν2 from by (subst_vars; rfl)) dX8_count_127
  rcases Decidable.em (x = nI 9) with c10 | c10
  · refine x_cast c10 ?_
    refine lv_tableIn (tgt := 128) (off := 127) hx hb dX8_count_1 (by decide) (by decide) (by decide) (by decide) ?_
    refine lv_aload_n hx hb dX8_count_128 rfl (lv_at hl 0 rfl) ?_
    refine x_get hx hb hts iwX8_count_X8 hown hM 0 0 rfl rfl rfl 0 (by decide) (hts _ lkX8_count_10) (fun _ h => h) rfl dX8_count_129 ?_
    refine x_calli (bc := [w2 q td ν0 ν1 ν2 ν3]) (br := [w8 q ad (td 0) (sd 0) ω2 ω3 ω4 (nd 0) (ud 0) (pd 0) ω8 ω9, wst q sd X, wk q nd N, wp q ud ua 8 (nI uh), wpl q ua U 8, wp q pd pa 2 (nI ph), wpl q pa P 2]) hM [1] [0, 2, 3, 4, 5, 6, 7] rfl rfl rfl (by decide) (x_runV (As := []) (rest := []) hfix (c_X2_size l D q td ν0 ν1 ν2 ν3) (cwV 0 hts gX8_count_X2_size rfl rfl rfl (by decide +kernel) ⟨Nat.le_of_ble_eq_true rfl, Nat.le_of_ble_eq_true rfl⟩) hM [1] rfl rfl 1 0 rfl rfl rfl rfl rfl hl.1 rfl (Nat.le_of_ble_eq_true rfl) dX8_count_132 ⟨Nat.le_of_ble_eq_true rfl, Nat.le_of_ble_eq_true rfl⟩) (fun r u H locs hq hM => ?_)
    have hq := hq.symm
    subst hq
    have hM : xM D (TY q) [w8 q ad (td 0) (sd 0) ω2 ω3 ω4 (nd 0) (ud 0) (pd 0) ω8 ω9, wst q sd X, wk q nd N, wp q ud ua 8 (nI uh), wpl q ua U 8, wp q pd pa 2 (nI ph), wpl q pa P 2, w2 q td ν0 ν1 ν2 ν3] A s.heap s H locs := hM
    have hM : xM D (TY q) [w8 q ad (td 0) (sd 0) ω2 ω3 ω4 (nd 0) (ud 0) (pd 0) ω8 ω9, w2 q td ν0 ν1 ν2 ν3, wst q sd X, wk q nd N, wp q ud ua 8 (nI uh), wpl q ua U 8, wp q pd pa 2 (nI ph), wpl q pa P 2] A s.heap s H locs := hM.sel [0, 7, 1, 2, 3, 4, 5, 6] rfl rfl
    exact x_iret hx hb hr hlocks () hM (show ν2 = xcnt x (X 0 0) (X 1 0) (X 2 0) (X 3 0) (X 4 0) (N 25) (N 26) (nI uh) (nI ph) ν2 from by (subst_vars; rfl)) dX8_count_135
  have tc1 := x_neI (k := 0) (by decide) c1
  have tc2 := x_neI (k := 1) (by decide) c2
  have tc3 := x_neI (k := 2) (by decide) c3
  have tc4 := x_neI (k := 3) (by decide) c4
  have tc5 := x_neI (k := 4) (by decide) c5
  have tc6 := x_neI (k := 5) (by decide) c6
  have tc7 := x_neI (k := 6) (by decide) c7
  have tc8 := x_neI (k := 7) (by decide) c8
  have tc9 := x_neI (k := 8) (by decide) c9
  have tc10 := x_neI (k := 9) (by decide) c10
  refine lv_tableOut (tgt := 136) hx hb dX8_count_1 (by omega) (by decide) ?_
  refine lv_iconst (v := (-1)) hx hb dX8_count_136 (by decide) ?_
  exact x_iret hx hb hr hlocks () hM (show (-1) = xcnt x (X 0 0) (X 1 0) (X 2 0) (X 3 0) (X 4 0) (N 25) (N 26) (nI uh) (nI ph) ν2 from by (unfold xcnt; simp only [*, if_false])) dX8_count_137
