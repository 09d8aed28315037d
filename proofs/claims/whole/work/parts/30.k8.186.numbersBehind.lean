theorem dX2_numbersBehind_0 : decode cX2_numbersBehind 0 = .ok (.iload_n 0, 1) := by decide +kernel
theorem dX2_numbersBehind_1 : decode cX2_numbersBehind 1 = .ok (.tableswitch 85 100 115 #[81, 83, 85, 81, 79, 85, 85, 83, 85, 85, 85, 85, 85, 85, 85, 83], 79) := by decide +kernel
theorem dX2_numbersBehind_80 : decode cX2_numbersBehind 80 = .ok (.iconst 1, 1) := by decide +kernel
theorem dX2_numbersBehind_81 : decode cX2_numbersBehind 81 = .ok (.ireturn, 1) := by decide +kernel
theorem dX2_numbersBehind_82 : decode cX2_numbersBehind 82 = .ok (.iconst 2, 1) := by decide +kernel
theorem dX2_numbersBehind_83 : decode cX2_numbersBehind 83 = .ok (.ireturn, 1) := by decide +kernel
theorem dX2_numbersBehind_84 : decode cX2_numbersBehind 84 = .ok (.iconst 3, 1) := by decide +kernel
theorem dX2_numbersBehind_85 : decode cX2_numbersBehind 85 = .ok (.ireturn, 1) := by decide +kernel
theorem dX2_numbersBehind_86 : decode cX2_numbersBehind 86 = .ok (.iconst 0, 1) := by decide +kernel
theorem dX2_numbersBehind_87 : decode cX2_numbersBehind 87 = .ok (.ireturn, 1) := by decide +kernel
set_option maxHeartbeats 2000000 in
set_option maxRecDepth 100000 in
theorem c_X2_numbersBehind (l : Launch) (D : va_G) (q : Nat → ClassId) (ch : Int32) : xC l yX2_numbersBehind wsX2_numbersBehind ({ frames := 0, cells := 0, slots := 0, locals := 0 }) D (TY q) [] [.int ch] (xQi D (TY q) (fun (r : Int32) (_ : Unit) => r = nI (xnbh ch)) (fun _ => [])) 0 0 := by
  refine x_enter (cc := cX2_numbersBehind) (maxL := 1) (ret := (some .int)) (by decide) rfl (Nat.le_of_ble_eq_true rfl) ?_
  intro p e s m below meth c A ls H locs hfix hr hlocks hinit hM hl
  obtain ⟨hx, hb, hml, hown, hts⟩ := id hfix
  have hl : lv_has ls 1 [(0, .int ch)] := hl
  refine lv_iload_n hx hb dX2_numbersBehind_0 rfl (lv_at hl 0 rfl) ?_
  rcases Decidable.em (ch = nI 100) with c1 | c1
  · refine x_cast c1 ?_
    refine lv_tableIn (tgt := 82) (off := 81) hx hb dX2_numbersBehind_1 (by decide) (by decide) (by decide) (by decide) ?_
    have hq : xnbh ch = 2 := by rw [(by assumption : ch = nI 100)]; decide
    refine lv_iconst (v := nI 2) hx hb dX2_numbersBehind_82 (by decide) ?_
    exact x_iret hx hb hr hlocks () hM (show nI 2 = nI (xnbh ch) from by (rw [hq])) dX2_numbersBehind_83
  rcases Decidable.em (ch = nI 101) with c2 | c2
  · refine x_cast c2 ?_
    refine lv_tableIn (tgt := 84) (off := 83) hx hb dX2_numbersBehind_1 (by decide) (by decide) (by decide) (by decide) ?_
    have hq : xnbh ch = 3 := by rw [(by assumption : ch = nI 101)]; decide
    refine lv_iconst (v := nI 3) hx hb dX2_numbersBehind_84 (by decide) ?_
    exact x_iret hx hb hr hlocks () hM (show nI 3 = nI (xnbh ch) from by (rw [hq])) dX2_numbersBehind_85
  rcases Decidable.em (ch = nI 103) with c3 | c3
  · refine x_cast c3 ?_
    refine lv_tableIn (tgt := 82) (off := 81) hx hb dX2_numbersBehind_1 (by decide) (by decide) (by decide) (by decide) ?_
    have hq : xnbh ch = 2 := by rw [(by assumption : ch = nI 103)]; decide
    refine lv_iconst (v := nI 2) hx hb dX2_numbersBehind_82 (by decide) ?_
    exact x_iret hx hb hr hlocks () hM (show nI 2 = nI (xnbh ch) from by (rw [hq])) dX2_numbersBehind_83
  rcases Decidable.em (ch = nI 104) with c4 | c4
  · refine x_cast c4 ?_
    refine lv_tableIn (tgt := 80) (off := 79) hx hb dX2_numbersBehind_1 (by decide) (by decide) (by decide) (by decide) ?_
    have hq : xnbh ch = 1 := by rw [(by assumption : ch = nI 104)]; decide
    refine lv_iconst (v := nI 1) hx hb dX2_numbersBehind_80 (by decide) ?_
    exact x_iret hx hb hr hlocks () hM (show nI 1 = nI (xnbh ch) from by (rw [hq])) dX2_numbersBehind_81
  rcases Decidable.em (ch = nI 107) with c5 | c5
  · refine x_cast c5 ?_
    refine lv_tableIn (tgt := 84) (off := 83) hx hb dX2_numbersBehind_1 (by decide) (by decide) (by decide) (by decide) ?_
    have hq : xnbh ch = 3 := by rw [(by assumption : ch = nI 107)]; decide
    refine lv_iconst (v := nI 3) hx hb dX2_numbersBehind_84 (by decide) ?_
    exact x_iret hx hb hr hlocks () hM (show nI 3 = nI (xnbh ch) from by (rw [hq])) dX2_numbersBehind_85
  rcases Decidable.em (ch = nI 115) with c6 | c6
  · refine x_cast c6 ?_
    refine lv_tableIn (tgt := 84) (off := 83) hx hb dX2_numbersBehind_1 (by decide) (by decide) (by decide) (by decide) ?_
    have hq : xnbh ch = 3 := by rw [(by assumption : ch = nI 115)]; decide
    refine lv_iconst (v := nI 3) hx hb dX2_numbersBehind_84 (by decide) ?_
    exact x_iret hx hb hr hlocks () hM (show nI 3 = nI (xnbh ch) from by (rw [hq])) dX2_numbersBehind_85
  rcases Decidable.em (ch = nI 102) with c7 | c7
  · refine x_cast c7 ?_
    refine lv_tableIn (tgt := 86) (off := 85) hx hb dX2_numbersBehind_1 (by decide) (by decide) (by decide) (by decide) ?_
    have hcv : ch = nI 102 := by assumption
    have hq : xnbh ch = 0 := by rw [hcv]; decide
    refine lv_iconst (v := nI 0) hx hb dX2_numbersBehind_86 (by decide) ?_
    exact x_iret hx hb hr hlocks () hM (show nI 0 = nI (xnbh ch) from by (rw [hq])) dX2_numbersBehind_87
  rcases Decidable.em (ch = nI 105) with c8 | c8
  · refine x_cast c8 ?_
    refine lv_tableIn (tgt := 86) (off := 85) hx hb dX2_numbersBehind_1 (by decide) (by decide) (by decide) (by decide) ?_
    have hcv : ch = nI 105 := by assumption
    have hq : xnbh ch = 0 := by rw [hcv]; decide
    refine lv_iconst (v := nI 0) hx hb dX2_numbersBehind_86 (by decide) ?_
    exact x_iret hx hb hr hlocks () hM (show nI 0 = nI (xnbh ch) from by (rw [hq])) dX2_numbersBehind_87
  rcases Decidable.em (ch = nI 106) with c9 | c9
  · refine x_cast c9 ?_
    refine lv_tableIn (tgt := 86) (off := 85) hx hb dX2_numbersBehind_1 (by decide) (by decide) (by decide) (by decide) ?_
    have hcv : ch = nI 106 := by assumption
    have hq : xnbh ch = 0 := by rw [hcv]; decide
    refine lv_iconst (v := nI 0) hx hb dX2_numbersBehind_86 (by decide) ?_
    exact x_iret hx hb hr hlocks () hM (show nI 0 = nI (xnbh ch) from by (rw [hq])) dX2_numbersBehind_87
  rcases Decidable.em (ch = nI 108) with c10 | c10
  · refine x_cast c10 ?_
    refine lv_tableIn (tgt := 86) (off := 85) hx hb dX2_numbersBehind_1 (by decide) (by decide) (by decide) (by decide) ?_
    have hcv : ch = nI 108 := by assumption
    have hq : xnbh ch = 0 := by rw [hcv]; decide
    refine lv_iconst (v := nI 0) hx hb dX2_numbersBehind_86 (by decide) ?_
    exact x_iret hx hb hr hlocks () hM (show nI 0 = nI (xnbh ch) from by (rw [hq])) dX2_numbersBehind_87
  rcases Decidable.em (ch = nI 109) with c11 | c11
  · refine x_cast c11 ?_
    refine lv_tableIn (tgt := 86) (off := 85) hx hb dX2_numbersBehind_1 (by decide) (by decide) (by decide) (by decide) ?_
    have hcv : ch = nI 109 := by assumption
    have hq : xnbh ch = 0 := by rw [hcv]; decide
    refine lv_iconst (v := nI 0) hx hb dX2_numbersBehind_86 (by decide) ?_
    exact x_iret hx hb hr hlocks () hM (show nI 0 = nI (xnbh ch) from by (rw [hq])) dX2_numbersBehind_87
  rcases Decidable.em (ch = nI 110) with c12 | c12
  · refine x_cast c12 ?_
    refine lv_tableIn (tgt := 86) (off := 85) hx hb dX2_numbersBehind_1 (by decide) (by decide) (by decide) (by decide) ?_
    have hcv : ch = nI 110 := by assumption
    have hq : xnbh ch = 0 := by rw [hcv]; decide
    refine lv_iconst (v := nI 0) hx hb dX2_numbersBehind_86 (by decide) ?_
    exact x_iret hx hb hr hlocks () hM (show nI 0 = nI (xnbh ch) from by (rw [hq])) dX2_numbersBehind_87
  rcases Decidable.em (ch = nI 111) with c13 | c13
  · refine x_cast c13 ?_
    refine lv_tableIn (tgt := 86) (off := 85) hx hb dX2_numbersBehind_1 (by decide) (by decide) (by decide) (by decide) ?_
    have hcv : ch = nI 111 := by assumption
    have hq : xnbh ch = 0 := by rw [hcv]; decide
    refine lv_iconst (v := nI 0) hx hb dX2_numbersBehind_86 (by decide) ?_
    exact x_iret hx hb hr hlocks () hM (show nI 0 = nI (xnbh ch) from by (rw [hq])) dX2_numbersBehind_87
  rcases Decidable.em (ch = nI 112) with c14 | c14
  · refine x_cast c14 ?_
    refine lv_tableIn (tgt := 86) (off := 85) hx hb dX2_numbersBehind_1 (by decide) (by decide) (by decide) (by decide) ?_
    have hcv : ch = nI 112 := by assumption
    have hq : xnbh ch = 0 := by rw [hcv]; decide
    refine lv_iconst (v := nI 0) hx hb dX2_numbersBehind_86 (by decide) ?_
    exact x_iret hx hb hr hlocks () hM (show nI 0 = nI (xnbh ch) from by (rw [hq])) dX2_numbersBehind_87
  rcases Decidable.em (ch = nI 113) with c15 | c15
  · refine x_cast c15 ?_
    refine lv_tableIn (tgt := 86) (off := 85) hx hb dX2_numbersBehind_1 (by decide) (by decide) (by decide) (by decide) ?_
    have hcv : ch = nI 113 := by assumption
    have hq : xnbh ch = 0 := by rw [hcv]; decide
    refine lv_iconst (v := nI 0) hx hb dX2_numbersBehind_86 (by decide) ?_
    exact x_iret hx hb hr hlocks () hM (show nI 0 = nI (xnbh ch) from by (rw [hq])) dX2_numbersBehind_87
  rcases Decidable.em (ch = nI 114) with c16 | c16
  · refine x_cast c16 ?_
    refine lv_tableIn (tgt := 86) (off := 85) hx hb dX2_numbersBehind_1 (by decide) (by decide) (by decide) (by decide) ?_
    have hcv : ch = nI 114 := by assumption
    have hq : xnbh ch = 0 := by rw [hcv]; decide
    refine lv_iconst (v := nI 0) hx hb dX2_numbersBehind_86 (by decide) ?_
    exact x_iret hx hb hr hlocks () hM (show nI 0 = nI (xnbh ch) from by (rw [hq])) dX2_numbersBehind_87
  have tc1 := x_neI (k := 100) (by decide) c1
  have tc2 := x_neI (k := 101) (by decide) c2
  have tc3 := x_neI (k := 103) (by decide) c3
  have tc4 := x_neI (k := 104) (by decide) c4
  have tc5 := x_neI (k := 107) (by decide) c5
  have tc6 := x_neI (k := 115) (by decide) c6
  have tc7 := x_neI (k := 102) (by decide) c7
  have tc8 := x_neI (k := 105) (by decide) c8
  have tc9 := x_neI (k := 106) (by decide) c9
  have tc10 := x_neI (k := 108) (by decide) c10
  have tc11 := x_neI (k := 109) (by decide) c11
  have tc12 := x_neI (k := 110) (by decide) c12
  have tc13 := x_neI (k := 111) (by decide) c13
  have tc14 := x_neI (k := 112) (by decide) c14
  have tc15 := x_neI (k := 113) (by decide) c15
  have tc16 := x_neI (k := 114) (by decide) c16
  refine lv_tableOut (tgt := 86) hx hb dX2_numbersBehind_1 (by omega) (by decide) ?_
  have hq : xnbh ch = 0 := xnbh_d (by assumption) (by assumption) (by assumption) (by assumption) (by assumption) (by assumption)
  refine lv_iconst (v := nI 0) hx hb dX2_numbersBehind_86 (by decide) ?_
  exact x_iret hx hb hr hlocks () hM (show nI 0 = nI (xnbh ch) from by (rw [hq])) dX2_numbersBehind_87
