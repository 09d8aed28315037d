set_option maxRecDepth 20000 in
theorem ggX7_chancesTogether_X7_chanceOf : GoodIn wsX7_chancesTogether wsX7_chanceOf := goodIn_r _ [6, 7, 8, 9, 10, 11, 12, 13, 14, 15, 16, 17, 18, 19, 20, 21, 22, 23, 24, 25, 26, 27] (by decide +kernel) (by decide +kernel)
set_option maxRecDepth 20000 in
theorem gX7_chancesTogether_X7_chanceOf : GoodIn wsX7_chancesTogether (wsV RX7 113 RX7 yX7_chanceOf wsX7_chanceOf) := goodIn_app (goodIn_of _ (by decide +kernel)) ggX7_chancesTogether_X7_chanceOf
theorem dX7_chancesTogether_0 : decode cX7_chancesTogether 0 = .ok (.iconst 0, 1) := by decide +kernel
theorem dX7_chancesTogether_1 : decode cX7_chancesTogether 1 = .ok (.istore_n 1, 1) := by decide +kernel
theorem dX7_chancesTogether_2 : decode cX7_chancesTogether 2 = .ok (.iconst 0, 1) := by decide +kernel
theorem dX7_chancesTogether_3 : decode cX7_chancesTogether 3 = .ok (.istore_n 2, 1) := by decide +kernel
theorem dX7_chancesTogether_4 : decode cX7_chancesTogether 4 = .ok (.iload_n 2, 1) := by decide +kernel
theorem dX7_chancesTogether_5 : decode cX7_chancesTogether 5 = .ok (.aload_n 0, 1) := by decide +kernel
theorem dX7_chancesTogether_6 : decode cX7_chancesTogether 6 = .ok (.getfield 55, 3) := by decide +kernel
theorem dX7_chancesTogether_9 : decode cX7_chancesTogether 9 = .ok (.if_icmp .ge 17, 3) := by decide +kernel
theorem dX7_chancesTogether_12 : decode cX7_chancesTogether 12 = .ok (.iload_n 1, 1) := by decide +kernel
theorem dX7_chancesTogether_13 : decode cX7_chancesTogether 13 = .ok (.aload_n 0, 1) := by decide +kernel
theorem dX7_chancesTogether_14 : decode cX7_chancesTogether 14 = .ok (.iload_n 2, 1) := by decide +kernel
theorem dX7_chancesTogether_15 : decode cX7_chancesTogether 15 = .ok (.invokevirtual 113, 3) := by decide +kernel
theorem dX7_chancesTogether_18 : decode cX7_chancesTogether 18 = .ok (.iadd, 1) := by decide +kernel
theorem dX7_chancesTogether_19 : decode cX7_chancesTogether 19 = .ok (.istore_n 1, 1) := by decide +kernel
theorem dX7_chancesTogether_20 : decode cX7_chancesTogether 20 = .ok (.iinc 2 1, 3) := by decide +kernel
theorem dX7_chancesTogether_23 : decode cX7_chancesTogether 23 = .ok (.goto (-19), 3) := by decide +kernel
theorem dX7_chancesTogether_26 : decode cX7_chancesTogether 26 = .ok (.iload_n 1, 1) := by decide +kernel
theorem dX7_chancesTogether_27 : decode cX7_chancesTogether 27 = .ok (.ireturn, 1) := by decide +kernel
theorem lkX7_chancesTogether_55 : Cond.fieldLink RX7 55 "LeftAtFive$Street" "demands" "I" ∈ wsX7_chancesTogether := by decide +kernel
theorem iwX7_chancesTogether_X7 : ∀ w ∈ wsX70, w ∈ wsX7_chancesTogether := by decide +kernel
set_option maxHeartbeats 2000000 in
set_option maxRecDepth 100000 in
theorem c_X7_chancesTogether (l : Launch) (D : va_G) (q : Nat → ClassId) (ad : Nat → Nat) (X : Nat → Nat → Int32) (S : Nat → Nat → Int32) (hT : okT X S) : xC l yX7_chancesTogether wsX7_chancesTogether ({ frames := 2, cells := 0, slots := 0, locals := 42 }) D (TY q) [wst q ad X] [.ref (ad 0)] (xQi D (TY q) (fun (r : Int32) (_ : Unit) => r = xsum (S 14) (tn (S 12 0))) (fun _ => [wst q ad X])) 0 0 := by
  refine x_enter (cc := cX7_chancesTogether) (maxL := 3) (ret := (some .int)) (by decide) rfl (Nat.le_of_ble_eq_true rfl) ?_
  intro p e s m below meth c A ls H locs hfix hr hlocks hinit hM hl
  obtain ⟨hx, hb, hml, hown, hts⟩ := id hfix
  have hl : lv_has ls 3 [(0, .ref (ad 0))] := hl
  have hTb := okT_3b hT
  refine lv_iconst (v := nI 0) hx hb dX7_chancesTogether_0 (by decide) ?_
  refine lv_istore_n (lv' := [(1, .int (nI 0)), (0, .ref (ad 0))]) hx hb dX7_chancesTogether_1 rfl hl (by decide) rfl (fun ls hl => ?_)
  refine lv_iconst (v := nI 0) hx hb dX7_chancesTogether_2 (by decide) ?_
  refine lv_istore_n (lv' := [(2, .int (nI 0)), (1, .int (nI 0)), (0, .ref (ad 0))]) hx hb dX7_chancesTogether_3 rfl hl (by decide) rfl (fun ls hl => ?_)
  refine x_loop (ι := Nat) (fun k => [(0, .ref (ad 0)), (1, .int (xsum (S 14) k)), (2, .int (nI k))]) (fun k => [wst q ad X]) (fun k => k ≤ (tn (S 12 0))) (fun k => (tn (S 12 0)) - k) 0 (by omega) hM (lv_sub hl [2, 1, 0] rfl) ?_
  intro k hI2 ih1 H locs hM ls hl
  have hM : xM D (TY q) [wst q ad X] A s.heap s H locs := hM
  have hl : lv_has ls 3 [(0, .ref (ad 0)), (1, .int (xsum (S 14) k)), (2, .int (nI k))] := hl
  have hI2 : k ≤ (tn (S 12 0)) := hI2
  try dsimp only
  refine lv_iload_n hx hb dX7_chancesTogether_4 rfl (lv_at hl 2 rfl) ?_
  refine lv_aload_n hx hb dX7_chancesTogether_5 rfl (lv_at hl 0 rfl) ?_
  refine x_get hx hb hts iwX7_chancesTogether_X7 hown hM 0 0 rfl rfl rfl 3 (by decide) (hts _ lkX7_chancesTogether_55) (fun _ h => h) rfl dX7_chancesTogether_6 ?_
  refine x_cast (y := nI (tn (S 12 0))) (okT_3 hT) ?_
  refine x_icmp_ge (x := k) (y := tn (S 12 0)) (tgt := 26) hx hb (by omega) (by omega) dX7_chancesTogether_9 (by decide) (fun c3 => ?_) (fun c3 => ?_)
  · refine lv_iload_n hx hb dX7_chancesTogether_26 rfl (lv_at hl 1 rfl) ?_
    exact x_iret hx hb hr hlocks () hM (show xsum (S 14) k = xsum (S 14) (tn (S 12 0)) from by (rw [show k = (tn (S 12 0)) by omega])) dX7_chancesTogether_27
  · refine lv_iload_n hx hb dX7_chancesTogether_12 rfl (lv_at hl 1 rfl) ?_
    refine lv_aload_n hx hb dX7_chancesTogether_13 rfl (lv_at hl 0 rfl) ?_
    refine lv_iload_n hx hb dX7_chancesTogether_14 rfl (lv_at hl 2 rfl) ?_
    refine x_calli (bc := [wst q ad X]) (br := []) hM [0] [] rfl rfl rfl (by decide) (x_runV (As := [.int (nI k)]) (rest := [.int (xsum (S 14) k)]) hfix (c_X7_chanceOf l D q ad X S k hT (by omega)) (cwV 1 hts gX7_chancesTogether_X7_chanceOf rfl rfl rfl (by decide +kernel) ⟨Nat.le_of_ble_eq_true rfl, Nat.le_of_ble_eq_true rfl⟩) hM [0] rfl rfl 0 0 rfl rfl rfl rfl rfl hl.1 rfl (Nat.le_of_ble_eq_true rfl) dX7_chancesTogether_15 ⟨Nat.le_of_ble_eq_true rfl, Nat.le_of_ble_eq_true rfl⟩) (fun r u H locs hq hM => ?_)
    subst hq
    have hM : xM D (TY q) [wst q ad X] A s.heap s H locs := hM
    refine lv_iadd hx hb dX7_chancesTogether_18 ?_
    refine lv_istore_n (lv' := [(1, .int ((xsum (S 14) k) + (S 14 k))), (0, .ref (ad 0)), (2, .int (nI k))]) hx hb dX7_chancesTogether_19 rfl hl (by decide) rfl (fun ls hl => ?_)
    refine lv_iinc (v := nI (k + 1)) (lv' := [(2, .int (nI (k + 1))), (1, .int ((xsum (S 14) k) + (S 14 k))), (0, .ref (ad 0))]) hx hb dX7_chancesTogether_20 hl (k := 2) rfl (x_inc _ 1) (by decide) rfl (fun ls hl => ?_)
    refine lv_goto (tgt := 4) hx hb dX7_chancesTogether_23 (by decide) ?_
    have hl : lv_has ls 3 [(0, .ref (ad 0)), (1, .int ((xsum (S 14) k) + (S 14 k))), (2, .int (nI (k + 1)))] := lv_sub hl [2, 1, 0] rfl
    exact ih1 (k + 1) (show (tn (S 12 0)) - (k + 1) < (tn (S 12 0)) - k from by omega) (show (k + 1) ≤ (tn (S 12 0)) from by omega) _ _ hM _ hl
