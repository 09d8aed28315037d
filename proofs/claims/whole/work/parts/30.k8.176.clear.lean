set_option maxRecDepth 20000 in
theorem ggX7_clear_X5_clear : GoodIn wsX7_clear wsX5_clear := goodIn_r _ [10] (by decide +kernel) (by decide +kernel)
set_option maxRecDepth 20000 in
theorem gX7_clear_X5_clear : GoodIn wsX7_clear (va_wsS RX7 61 yX5_clear wsX5_clear) := goodIn_app (goodIn_of _ (by decide +kernel)) ggX7_clear_X5_clear
theorem dX7_clear_0 : decode cX7_clear 0 = .ok (.aload_n 0, 1) := by decide +kernel
theorem dX7_clear_1 : decode cX7_clear 1 = .ok (.iconst 0, 1) := by decide +kernel
theorem dX7_clear_2 : decode cX7_clear 2 = .ok (.putfield 45, 3) := by decide +kernel
theorem dX7_clear_5 : decode cX7_clear 5 = .ok (.aload_n 0, 1) := by decide +kernel
theorem dX7_clear_6 : decode cX7_clear 6 = .ok (.iconst 0, 1) := by decide +kernel
theorem dX7_clear_7 : decode cX7_clear 7 = .ok (.putfield 49, 3) := by decide +kernel
theorem dX7_clear_10 : decode cX7_clear 10 = .ok (.aload_n 0, 1) := by decide +kernel
theorem dX7_clear_11 : decode cX7_clear 11 = .ok (.iconst 0, 1) := by decide +kernel
theorem dX7_clear_12 : decode cX7_clear 12 = .ok (.putfield 52, 3) := by decide +kernel
theorem dX7_clear_15 : decode cX7_clear 15 = .ok (.aload_n 0, 1) := by decide +kernel
theorem dX7_clear_16 : decode cX7_clear 16 = .ok (.iconst 0, 1) := by decide +kernel
theorem dX7_clear_17 : decode cX7_clear 17 = .ok (.putfield 55, 3) := by decide +kernel
theorem dX7_clear_20 : decode cX7_clear 20 = .ok (.aload_n 0, 1) := by decide +kernel
theorem dX7_clear_21 : decode cX7_clear 21 = .ok (.iconst 0, 1) := by decide +kernel
theorem dX7_clear_22 : decode cX7_clear 22 = .ok (.putfield 58, 3) := by decide +kernel
theorem dX7_clear_25 : decode cX7_clear 25 = .ok (.aload_n 0, 1) := by decide +kernel
theorem dX7_clear_26 : decode cX7_clear 26 = .ok (.getfield 21, 3) := by decide +kernel
theorem dX7_clear_29 : decode cX7_clear 29 = .ok (.invokestatic 61, 3) := by decide +kernel
theorem dX7_clear_32 : decode cX7_clear 32 = .ok (.return_, 1) := by decide +kernel
theorem lkX7_clear_21 : Cond.fieldLink RX7 21 "LeftAtFive$Street" "stock" "[I" ∈ wsX7_clear := by decide +kernel
theorem lkX7_clear_45 : Cond.fieldLink RX7 45 "LeftAtFive$Street" "goods" "I" ∈ wsX7_clear := by decide +kernel
theorem lkX7_clear_49 : Cond.fieldLink RX7 49 "LeftAtFive$Street" "houses" "I" ∈ wsX7_clear := by decide +kernel
theorem lkX7_clear_52 : Cond.fieldLink RX7 52 "LeftAtFive$Street" "eaters" "I" ∈ wsX7_clear := by decide +kernel
theorem lkX7_clear_55 : Cond.fieldLink RX7 55 "LeftAtFive$Street" "demands" "I" ∈ wsX7_clear := by decide +kernel
theorem lkX7_clear_58 : Cond.fieldLink RX7 58 "LeftAtFive$Street" "recipes" "I" ∈ wsX7_clear := by decide +kernel
theorem iwX7_clear_X7 : ∀ w ∈ wsX70, w ∈ wsX7_clear := by decide +kernel
set_option maxHeartbeats 2000000 in
set_option maxRecDepth 100000 in
theorem c_X7_clear (l : Launch) (D : va_G) (q : Nat → ClassId) (ad : Nat → Nat) (X : Nat → Nat → Int32) : xC l yX7_clear wsX7_clear ({ frames := 1, cells := 0, slots := 0, locals := 21 }) D (TY q) [wst q ad X] [.ref (ad 0)] (xQv D (TY q) (fun (_ : Unit) => True) (fun _ => [wst q ad (xclr X)])) 0 0 := by
  refine x_enter (cc := cX7_clear) (maxL := 1) (ret := none) (by decide) rfl (Nat.le_of_ble_eq_true rfl) ?_
  intro p e s m below meth c A ls H locs hfix hr hlocks hinit hM hl
  obtain ⟨hx, hb, hml, hown, hts⟩ := id hfix
  have hl : lv_has ls 1 [(0, .ref (ad 0))] := hl
  have hM : xM D (TY q) [w7 q ad (X 0 0) (X 1 0) (X 2 0) (X 3 0) (X 4 0) (X 5) (X 6) (X 7) (X 8) (X 9) (X 10) (X 11) (X 12) (X 13) (X 14) (X 15)] A s.heap s H locs := hM
  refine lv_aload_n hx hb dX7_clear_0 rfl (lv_at hl 0 rfl) ?_
  refine lv_iconst (v := nI 0) hx hb dX7_clear_1 (by decide) ?_
  refine x_put hx hb hts iwX7_clear_X7 tyX7 tyX7_ok nmX7 hown hM 0 0 rfl rfl rfl 0 (by decide) (hts _ lkX7_clear_45) (fun _ h => h) rfl (ty := .int) (by decide +kernel) rfl rfl (Nat.le_of_ble_eq_true rfl) [w7 q ad (nI 0) (X 1 0) (X 2 0) (X 3 0) (X 4 0) (X 5) (X 6) (X 7) (X 8) (X 9) (X 10) (X 11) (X 12) (X 13) (X 14) (X 15)] rfl dX7_clear_2 (fun H locs hM => ?_)
  refine lv_aload_n hx hb dX7_clear_5 rfl (lv_at hl 0 rfl) ?_
  refine lv_iconst (v := nI 0) hx hb dX7_clear_6 (by decide) ?_
  refine x_put hx hb hts iwX7_clear_X7 tyX7 tyX7_ok nmX7 hown hM 0 0 rfl rfl rfl 1 (by decide) (hts _ lkX7_clear_49) (fun _ h => h) rfl (ty := .int) (by decide +kernel) rfl rfl (Nat.le_of_ble_eq_true rfl) [w7 q ad (nI 0) (nI 0) (X 2 0) (X 3 0) (X 4 0) (X 5) (X 6) (X 7) (X 8) (X 9) (X 10) (X 11) (X 12) (X 13) (X 14) (X 15)] rfl dX7_clear_7 (fun H locs hM => ?_)
  refine lv_aload_n hx hb dX7_clear_10 rfl (lv_at hl 0 rfl) ?_
  refine lv_iconst (v := nI 0) hx hb dX7_clear_11 (by decide) ?_
  refine x_put hx hb hts iwX7_clear_X7 tyX7 tyX7_ok nmX7 hown hM 0 0 rfl rfl rfl 2 (by decide) (hts _ lkX7_clear_52) (fun _ h => h) rfl (ty := .int) (by decide +kernel) rfl rfl (Nat.le_of_ble_eq_true rfl) [w7 q ad (nI 0) (nI 0) (nI 0) (X 3 0) (X 4 0) (X 5) (X 6) (X 7) (X 8) (X 9) (X 10) (X 11) (X 12) (X 13) (X 14) (X 15)] rfl dX7_clear_12 (fun H locs hM => ?_)
  refine lv_aload_n hx hb dX7_clear_15 rfl (lv_at hl 0 rfl) ?_
  refine lv_iconst (v := nI 0) hx hb dX7_clear_16 (by decide) ?_
  refine x_put hx hb hts iwX7_clear_X7 tyX7 tyX7_ok nmX7 hown hM 0 0 rfl rfl rfl 3 (by decide) (hts _ lkX7_clear_55) (fun _ h => h) rfl (ty := .int) (by decide +kernel) rfl rfl (Nat.le_of_ble_eq_true rfl) [w7 q ad (nI 0) (nI 0) (nI 0) (nI 0) (X 4 0) (X 5) (X 6) (X 7) (X 8) (X 9) (X 10) (X 11) (X 12) (X 13) (X 14) (X 15)] rfl dX7_clear_17 (fun H locs hM => ?_)
  refine lv_aload_n hx hb dX7_clear_20 rfl (lv_at hl 0 rfl) ?_
  refine lv_iconst (v := nI 0) hx hb dX7_clear_21 (by decide) ?_
  refine x_put hx hb hts iwX7_clear_X7 tyX7 tyX7_ok nmX7 hown hM 0 0 rfl rfl rfl 4 (by decide) (hts _ lkX7_clear_58) (fun _ h => h) rfl (ty := .int) (by decide +kernel) rfl rfl (Nat.le_of_ble_eq_true rfl) [w7 q ad (nI 0) (nI 0) (nI 0) (nI 0) (nI 0) (X 5) (X 6) (X 7) (X 8) (X 9) (X 10) (X 11) (X 12) (X 13) (X 14) (X 15)] rfl dX7_clear_22 (fun H locs hM => ?_)
  refine lv_aload_n hx hb dX7_clear_25 rfl (lv_at hl 0 rfl) ?_
  refine x_get hx hb hts iwX7_clear_X7 hown hM 0 0 rfl rfl rfl 8 (by decide) (hts _ lkX7_clear_21) (fun _ h => h) rfl dX7_clear_26 ?_
  refine x_callv (bc := [w7 q ad (nI 0) (nI 0) (nI 0) (nI 0) (nI 0) (X 5) (X 6) (X 7) (X 8) (X 9) (X 10) (X 11) (X 12) (X 13) (X 14) (X 15)]) (br := []) hM [0] [] rfl rfl rfl (by decide) (x_runS (As := [.ref (ad 9)]) (rest := []) hfix (c_X5_clear l D q (w7 q ad (nI 0) (nI 0) (nI 0) (nI 0) (nI 0) (X 5) (X 6) (X 7) (X 8) (X 9) (X 10) (X 11) (X 12) (X 13) (X 14) (X 15)) 4 (ad 9) 25 (X 8) rfl (by decide)) (va_cwS 1 hts gX7_clear_X5_clear rfl rfl rfl (by decide +kernel) ⟨Nat.le_of_ble_eq_true rfl, Nat.le_of_ble_eq_true rfl⟩) hM [0] rfl rfl rfl hl.1 rfl (Nat.le_of_ble_eq_true rfl) dX7_clear_29 ⟨Nat.le_of_ble_eq_true rfl, Nat.le_of_ble_eq_true rfl⟩) (fun u H locs hq hM => ?_)
  have hM : xM D (TY q) [w7 q ad (nI 0) (nI 0) (nI 0) (nI 0) (nI 0) (X 5) (X 6) (X 7) (xzero (X 8) 0 25) (X 9) (X 10) (X 11) (X 12) (X 13) (X 14) (X 15)] A s.heap s H locs := hM
  have hM : xM D (TY q) [wst q ad (xT (nI 0) (nI 0) (nI 0) (nI 0) (nI 0) (X 5) (X 6) (X 7) (xzero (X 8) 0 25) (X 9) (X 10) (X 11) (X 12) (X 13) (X 14) (X 15))] A s.heap s H locs := hM
  have e1 : ((xT (nI 0) (nI 0) (nI 0) (nI 0) (nI 0) (X 5) (X 6) (X 7) (xzero (X 8) 0 25) (X 9) (X 10) (X 11) (X 12) (X 13) (X 14) (X 15)) : Nat → Nat → Int32) = ((xclr X)) := by rfl
  have hM : xM D (TY q) [wst q ad (xclr X)] A s.heap s H locs := Eq.mp (congrArg (fun z9 => xM D (TY q) [wst q ad z9] A s.heap s H locs) e1) hM
  exact x_vret hx hb hr hlocks () hM trivial dX7_clear_32
