set_option maxRecDepth 20000 in
theorem ggX2_figureHere_X2_letterHere : GoodIn wsX2_figureHere wsX2_letterHere := goodIn_r _ [5, 6, 7, 8, 9, 10, 11, 12] (by decide +kernel) (by decide +kernel)
set_option maxRecDepth 20000 in
theorem gX2_figureHere_X2_letterHere : GoodIn wsX2_figureHere (wsV RX2 35 RX2 yX2_letterHere wsX2_letterHere) := goodIn_app (goodIn_of _ (by decide +kernel)) ggX2_figureHere_X2_letterHere
theorem dX2_figureHere_0 : decode cX2_figureHere 0 = .ok (.aload_n 0, 1) := by decide +kernel
theorem dX2_figureHere_1 : decode cX2_figureHere 1 = .ok (.invokevirtual 35, 3) := by decide +kernel
theorem dX2_figureHere_4 : decode cX2_figureHere 4 = .ok (.istore_n 1, 1) := by decide +kernel
theorem dX2_figureHere_5 : decode cX2_figureHere 5 = .ok (.iload_n 1, 1) := by decide +kernel
theorem dX2_figureHere_6 : decode cX2_figureHere 6 = .ok (.bipush 48, 2) := by decide +kernel
theorem dX2_figureHere_8 : decode cX2_figureHere 8 = .ok (.if_icmp .lt 13, 3) := by decide +kernel
theorem dX2_figureHere_11 : decode cX2_figureHere 11 = .ok (.iload_n 1, 1) := by decide +kernel
theorem dX2_figureHere_12 : decode cX2_figureHere 12 = .ok (.bipush 57, 2) := by decide +kernel
theorem dX2_figureHere_14 : decode cX2_figureHere 14 = .ok (.if_icmp .gt 7, 3) := by decide +kernel
theorem dX2_figureHere_17 : decode cX2_figureHere 17 = .ok (.iconst 1, 1) := by decide +kernel
theorem dX2_figureHere_18 : decode cX2_figureHere 18 = .ok (.goto 4, 3) := by decide +kernel
theorem dX2_figureHere_21 : decode cX2_figureHere 21 = .ok (.iconst 0, 1) := by decide +kernel
theorem dX2_figureHere_22 : decode cX2_figureHere 22 = .ok (.ireturn, 1) := by decide +kernel
set_option maxHeartbeats 2000000 in
set_option maxRecDepth 100000 in
theorem c_X2_figureHere (l : Launch) (D : va_G) (q : Nat → ClassId) (ld : Nat → Nat) (ν0 : Nat → Int32) (ν1 : Nat → Int32) (ν2 : Int32) (ν3 : Int32) (sp : Nat) (hL : ν2 = nI (tn ν2) ∧ tn ν2 ≤ 200) (hC : ∀ j, j < tn ν2 → cN (ν0 j) 126) (hsp2 : sp ≤ 1000) : xC l yX2_figureHere wsX2_figureHere ({ frames := 1, cells := 0, slots := 0, locals := 20 }) D (TY q) [w2 q ld ν0 ν1 ν2 (nI sp)] [.ref (ld 0)] (xQi D (TY q) (fun (r : Int32) (_ : Unit) => r = zb (xdg ν0 (tn ν2) sp)) (fun _ => [w2 q ld ν0 ν1 ν2 (nI sp)])) 0 0 := by
  refine x_enter (cc := cX2_figureHere) (maxL := 2) (ret := (some .boolean)) (by decide) rfl (Nat.le_of_ble_eq_true rfl) ?_
  intro p e s m below meth c A ls H locs hfix hr hlocks hinit hM hl
  obtain ⟨hx, hb, hml, hown, hts⟩ := id hfix
  have hl : lv_has ls 2 [(0, .ref (ld 0))] := hl
  have hL2 := hL.2
  have hA2 := xlet_cN hC
  have hd9 := xdg_tn (hA2 sp)
  have hl9 := (hA2 sp).2
  refine lv_aload_n hx hb dX2_figureHere_0 rfl (lv_at hl 0 rfl) ?_
  refine x_calli (bc := [w2 q ld ν0 ν1 ν2 (nI sp)]) (br := []) hM [0] [] rfl rfl rfl (by decide) (x_runV (As := []) (rest := []) hfix (c_X2_letterHere l D q ld ν0 ν1 ν2 (nI sp) sp hL hC (by omega)) (cwV 0 hts gX2_figureHere_X2_letterHere rfl rfl rfl (by decide +kernel) ⟨Nat.le_of_ble_eq_true rfl, Nat.le_of_ble_eq_true rfl⟩) hM [0] rfl rfl 0 0 rfl rfl rfl rfl rfl hl.1 rfl (Nat.le_of_ble_eq_true rfl) dX2_figureHere_1 ⟨Nat.le_of_ble_eq_true rfl, Nat.le_of_ble_eq_true rfl⟩) (fun r u H locs hq hM => ?_)
  subst hq
  have hM : xM D (TY q) [w2 q ld ν0 ν1 ν2 (nI sp)] A s.heap s H locs := hM
  refine x_cast (y := nI (tn (xlet ν0 (tn ν2) sp))) (hA2 _).1 ?_
  refine lv_istore_n (lv' := [(1, .int (nI (tn (xlet ν0 (tn ν2) sp)))), (0, .ref (ld 0))]) hx hb dX2_figureHere_4 rfl hl (by decide) rfl (fun ls hl => ?_)
  refine lv_iload_n hx hb dX2_figureHere_5 rfl (lv_at hl 0 rfl) ?_
  refine lv_bipush (v := nI 48) hx hb dX2_figureHere_6 (by decide) ?_
  refine x_icmp_lt (x := tn (xlet ν0 (tn ν2) sp)) (y := 48) (tgt := 21) hx hb (by omega) (by omega) dX2_figureHere_8 (by decide) (fun c1 => ?_) (fun c1 => ?_)
  · refine lv_iconst (v := nI 0) hx hb dX2_figureHere_21 (by decide) ?_
    exact x_zret hx hb hr hlocks () hM rfl (show nI 0 = zb (xdg ν0 (tn ν2) sp) from by (first | exact zb_t' (by rw [hd9]; omega) | exact zb_f' (by rw [hd9]; omega))) dX2_figureHere_22
  · refine lv_iload_n hx hb dX2_figureHere_11 rfl (lv_at hl 0 rfl) ?_
    refine lv_bipush (v := nI 57) hx hb dX2_figureHere_12 (by decide) ?_
    refine x_icmp_gt (x := tn (xlet ν0 (tn ν2) sp)) (y := 57) (tgt := 21) hx hb (by omega) (by omega) dX2_figureHere_14 (by decide) (fun c2 => ?_) (fun c2 => ?_)
    · refine lv_iconst (v := nI 0) hx hb dX2_figureHere_21 (by decide) ?_
      exact x_zret hx hb hr hlocks () hM rfl (show nI 0 = zb (xdg ν0 (tn ν2) sp) from by (first | exact zb_t' (by rw [hd9]; omega) | exact zb_f' (by rw [hd9]; omega))) dX2_figureHere_22
    · refine lv_iconst (v := nI 1) hx hb dX2_figureHere_17 (by decide) ?_
      refine lv_goto (tgt := 22) hx hb dX2_figureHere_18 (by decide) ?_
      exact x_zret hx hb hr hlocks () hM rfl (show nI 1 = zb (xdg ν0 (tn ν2) sp) from by (first | exact zb_t' (by rw [hd9]; omega) | exact zb_f' (by rw [hd9]; omega))) dX2_figureHere_22
