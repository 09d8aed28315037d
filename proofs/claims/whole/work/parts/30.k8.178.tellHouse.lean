set_option maxRecDepth 20000 in
theorem ggX7_tellHouse_X8_within : GoodIn wsX7_tellHouse wsX8_within := goodIn_r _ [5] (by decide +kernel) (by decide +kernel)
set_option maxRecDepth 20000 in
theorem gX7_tellHouse_X8_within_n92 : GoodIn wsX7_tellHouse (wsX8_within) := ggX7_tellHouse_X8_within
set_option maxRecDepth 20000 in
theorem ggX7_tellHouse_X5_put : GoodIn wsX7_tellHouse wsX5_put := goodIn_r _ [9] (by decide +kernel) (by decide +kernel)
set_option maxRecDepth 20000 in
theorem gX7_tellHouse_X5_put : GoodIn wsX7_tellHouse (va_wsS RX7 95 yX5_put wsX5_put) := goodIn_app (goodIn_of _ (by decide +kernel)) ggX7_tellHouse_X5_put
theorem dX7_tellHouse_0 : decode cX7_tellHouse 0 = .ok (.aload_n 0, 1) := by decide +kernel
theorem dX7_tellHouse_1 : decode cX7_tellHouse 1 = .ok (.getfield 49, 3) := by decide +kernel
theorem dX7_tellHouse_4 : decode cX7_tellHouse 4 = .ok (.iconst 5, 1) := by decide +kernel
theorem dX7_tellHouse_5 : decode cX7_tellHouse 5 = .ok (.if_icmp .ge 13, 3) := by decide +kernel
theorem dX7_tellHouse_8 : decode cX7_tellHouse 8 = .ok (.iload_n 1, 1) := by decide +kernel
theorem dX7_tellHouse_9 : decode cX7_tellHouse 9 = .ok (.iconst 0, 1) := by decide +kernel
theorem dX7_tellHouse_10 : decode cX7_tellHouse 10 = .ok (.bipush 60, 2) := by decide +kernel
theorem dX7_tellHouse_12 : decode cX7_tellHouse 12 = .ok (.invokestatic 92, 3) := by decide +kernel
theorem dX7_tellHouse_15 : decode cX7_tellHouse 15 = .ok (.ifCond .ne 5, 3) := by decide +kernel
theorem dX7_tellHouse_18 : decode cX7_tellHouse 18 = .ok (.iconst 0, 1) := by decide +kernel
theorem dX7_tellHouse_19 : decode cX7_tellHouse 19 = .ok (.ireturn, 1) := by decide +kernel
theorem dX7_tellHouse_20 : decode cX7_tellHouse 20 = .ok (.aload_n 0, 1) := by decide +kernel
theorem dX7_tellHouse_21 : decode cX7_tellHouse 21 = .ok (.getfield 18, 3) := by decide +kernel
theorem dX7_tellHouse_24 : decode cX7_tellHouse 24 = .ok (.aload_n 0, 1) := by decide +kernel
theorem dX7_tellHouse_25 : decode cX7_tellHouse 25 = .ok (.getfield 49, 3) := by decide +kernel
theorem dX7_tellHouse_28 : decode cX7_tellHouse 28 = .ok (.iload_n 1, 1) := by decide +kernel
theorem dX7_tellHouse_29 : decode cX7_tellHouse 29 = .ok (.invokestatic 95, 3) := by decide +kernel
theorem dX7_tellHouse_32 : decode cX7_tellHouse 32 = .ok (.aload_n 0, 1) := by decide +kernel
theorem dX7_tellHouse_33 : decode cX7_tellHouse 33 = .ok (.dup, 1) := by decide +kernel
theorem dX7_tellHouse_34 : decode cX7_tellHouse 34 = .ok (.getfield 49, 3) := by decide +kernel
theorem dX7_tellHouse_37 : decode cX7_tellHouse 37 = .ok (.iconst 1, 1) := by decide +kernel
theorem dX7_tellHouse_38 : decode cX7_tellHouse 38 = .ok (.iadd, 1) := by decide +kernel
theorem dX7_tellHouse_39 : decode cX7_tellHouse 39 = .ok (.putfield 49, 3) := by decide +kernel
theorem dX7_tellHouse_42 : decode cX7_tellHouse 42 = .ok (.iconst 1, 1) := by decide +kernel
theorem dX7_tellHouse_43 : decode cX7_tellHouse 43 = .ok (.ireturn, 1) := by decide +kernel
theorem lkX7_tellHouse_18 : Cond.fieldLink RX7 18 "LeftAtFive$Street" "cell" "[I" ∈ wsX7_tellHouse := by decide +kernel
theorem lkX7_tellHouse_49 : Cond.fieldLink RX7 49 "LeftAtFive$Street" "houses" "I" ∈ wsX7_tellHouse := by decide +kernel
theorem iniX7_tellHouse_X8 : Cond.initialized RX8 ∈ wsX7_tellHouse := by decide +kernel
theorem staX7_tellHouse_X8_within : Cond.static yX8_within ∈ wsX7_tellHouse := by decide +kernel
theorem iwX7_tellHouse_X7 : ∀ w ∈ wsX70, w ∈ wsX7_tellHouse := by decide +kernel
set_option maxHeartbeats 2000000 in
set_option maxRecDepth 100000 in
theorem c_X7_tellHouse (l : Launch) (D : va_G) (q : Nat → ClassId) (ad : Nat → Nat) (X : Nat → Nat → Int32) (S : Nat → Nat → Int32) (t : Nat → Int32) (a : Nat) (hT : okT X (xshf S)) (ha0 : tn (t 0) = a) (ha9 : a ≤ 99) : xC l yX7_tellHouse wsX7_tellHouse ({ frames := 1, cells := 0, slots := 0, locals := 22 }) D (TY q) [wst q ad X] [.ref (ad 0), .int (nI a)] (xQi D (TY q) (fun (r : Int32) (u : (Nat → Nat → Int32)) => r = zb ((xHouseR S (true, 0, t)).1 = true) ∧ okT u (xshf (xHouseR S (true, 0, t)).2.1)) (fun (u : (Nat → Nat → Int32)) => [wst q ad u])) 0 0 := by
  refine x_enter (cc := cX7_tellHouse) (maxL := 2) (ret := (some .boolean)) (by decide) rfl (Nat.le_of_ble_eq_true rfl) ?_
  intro p e s m below meth c A ls H locs hfix hr hlocks hinit hM hl
  obtain ⟨hx, hb, hml, hown, hts⟩ := id hfix
  have hl : lv_has ls 2 [(0, .ref (ad 0)), (1, .int (nI a))] := hl
  have q2 : tn (xshf S 2 0) = tn (S 2 1) := rfl
  have q5 : tn (xshf S 5 0) = tn (S 5 1) := rfl
  have q8 : tn (xshf S 8 0) = tn (S 8 1) := rfl
  have q12 : tn (xshf S 12 0) = tn (S 12 1) := rfl
  have q15 : tn (xshf S 15 0) = tn (S 15 1) := rfl
  have hT0b := okT_0b hT
  have hT1b := okT_1b hT
  have hT2b := okT_2b hT
  have hT3b := okT_3b hT
  have hT4b := okT_4b hT
  refine lv_aload_n hx hb dX7_tellHouse_0 rfl (lv_at hl 0 rfl) ?_
  refine x_get hx hb hts iwX7_tellHouse_X7 hown hM 0 0 rfl rfl rfl 1 (by decide) (hts _ lkX7_tellHouse_49) (fun _ h => h) rfl dX7_tellHouse_1 ?_
  refine x_cast (y := nI (tn (S 5 1))) (okT_1 hT) ?_
  refine lv_iconst (v := nI 5) hx hb dX7_tellHouse_4 (by decide) ?_
  refine x_icmp_ge (x := tn (S 5 1)) (y := 5) (tgt := 18) hx hb (by omega) (by omega) dX7_tellHouse_5 (by decide) (fun c1 => ?_) (fun c1 => ?_)
  · have hit : (xHouseR S (true, 0, t)) = (false, S, 0, t) := if_neg (by intro z; have z2 := z.2; dsimp only at z2; omega)
    refine lv_iconst (v := nI 0) hx hb dX7_tellHouse_18 (by decide) ?_
    exact x_zret hx hb hr hlocks X hM rfl ⟨(show nI 0 = zb ((xHouseR S (true, 0, t)).1 = true) from by (rw [hit]; first | exact zb_t' rfl | exact zb_f' Bool.false_ne_true)), (show okT X (xshf (xHouseR S (true, 0, t)).2.1) from by (rw [hit]; exact hT))⟩ dX7_tellHouse_19
  · refine lv_iload_n hx hb dX7_tellHouse_8 rfl (lv_at hl 1 rfl) ?_
    refine lv_iconst (v := nI 0) hx hb dX7_tellHouse_9 (by decide) ?_
    refine lv_bipush (v := nI 60) hx hb dX7_tellHouse_10 (by decide) ?_
    refine x_calli (bc := []) (br := [wst q ad X]) hM [] [0] rfl rfl rfl (by decide) (x_runSN (As := [.int (nI a), .int (nI 0), .int (nI 60)]) (rest := []) hfix (c_X8_within l D q (nI a) (nI 0) (nI 60) ((a : Nat) : Int) (0 : Int) (60 : Int) (nI_toInt (n := a) (by omega)) (nI_toInt (n := 0) (by decide)) (nI_toInt (n := 60) (by decide))) ⟨va_cnB (host := "LeftAtFive") 3 hts gX7_tellHouse_X8_within_n92 rfl rfl rfl (hM.2.2.2.2.2 (RX7, 92, yX8_within) (by decide +kernel)) (hts _ iniX7_tellHouse_X8) (by decide +kernel) ⟨Nat.le_of_ble_eq_true rfl, Nat.le_of_ble_eq_true rfl⟩, hts _ staX7_tellHouse_X8_within, trivial⟩ hM [] rfl rfl rfl hl.1 rfl (Nat.le_of_ble_eq_true rfl) dX7_tellHouse_12 ⟨Nat.le_of_ble_eq_true rfl, Nat.le_of_ble_eq_true rfl⟩) (fun r u H locs hq hM => ?_)
    subst hq
    have hM : xM D (TY q) [wst q ad X] A s.heap s H locs := hM
    refine x_ifz_ne (P := (0 : Int) ≤ ((a : Nat) : Int) ∧ ((a : Nat) : Int) ≤ (60 : Int)) (tgt := 20) hx hb dX7_tellHouse_15 (by decide) (fun c2 => ?_) (fun c2 => ?_)
    · have hM : xM D (TY q) [w7 q ad (X 0 0) (X 1 0) (X 2 0) (X 3 0) (X 4 0) (X 5) (X 6) (X 7) (X 8) (X 9) (X 10) (X 11) (X 12) (X 13) (X 14) (X 15)] A s.heap s H locs := hM
      have hit : (xHouseR S (true, 0, t)) = _ := if_pos (by refine ⟨rfl, ?_⟩; dsimp only; omega)
      refine lv_aload_n hx hb dX7_tellHouse_20 rfl (lv_at hl 0 rfl) ?_
      refine x_get hx hb hts iwX7_tellHouse_X7 hown hM 0 0 rfl rfl rfl 7 (by decide) (hts _ lkX7_tellHouse_18) (fun _ h => h) rfl dX7_tellHouse_21 ?_
      refine lv_aload_n hx hb dX7_tellHouse_24 rfl (lv_at hl 0 rfl) ?_
      refine x_get hx hb hts iwX7_tellHouse_X7 hown hM 0 0 rfl rfl rfl 1 (by decide) (hts _ lkX7_tellHouse_49) (fun _ h => h) rfl dX7_tellHouse_25 ?_
      refine x_cast (y := nI (tn (S 5 1))) (okT_1 hT) ?_
      refine lv_iload_n hx hb dX7_tellHouse_28 rfl (lv_at hl 1 rfl) ?_
      refine x_callv (bc := [w7 q ad (X 0 0) (X 1 0) (X 2 0) (X 3 0) (X 4 0) (X 5) (X 6) (X 7) (X 8) (X 9) (X 10) (X 11) (X 12) (X 13) (X 14) (X 15)]) (br := []) hM [0] [] rfl rfl rfl (by decide) (x_runS (As := [.ref (ad 8), .int (nI (tn (S 5 1))), .int (nI a)]) (rest := []) hfix (c_X5_put l D q (w7 q ad (X 0 0) (X 1 0) (X 2 0) (X 3 0) (X 4 0) (X 5) (X 6) (X 7) (X 8) (X 9) (X 10) (X 11) (X 12) (X 13) (X 14) (X 15)) 3 (ad 8) 5 (X 7) (tn (S 5 1)) (nI a) rfl (by decide) (by omega)) (va_cwS 3 hts gX7_tellHouse_X5_put rfl rfl rfl (by decide +kernel) ⟨Nat.le_of_ble_eq_true rfl, Nat.le_of_ble_eq_true rfl⟩) hM [0] rfl rfl rfl hl.1 rfl (Nat.le_of_ble_eq_true rfl) dX7_tellHouse_29 ⟨Nat.le_of_ble_eq_true rfl, Nat.le_of_ble_eq_true rfl⟩) (fun u H locs hq hM => ?_)
      have hM : xM D (TY q) [w7 q ad (X 0 0) (X 1 0) (X 2 0) (X 3 0) (X 4 0) (X 5) (X 6) (upd (X 7) (tn (S 5 1)) (nI a)) (X 8) (X 9) (X 10) (X 11) (X 12) (X 13) (X 14) (X 15)] A s.heap s H locs := hM
      refine lv_aload_n hx hb dX7_tellHouse_32 rfl (lv_at hl 0 rfl) ?_
      refine lv_dup hx hb dX7_tellHouse_33 rfl ?_
      refine x_get hx hb hts iwX7_tellHouse_X7 hown hM 0 0 rfl rfl rfl 1 (by decide) (hts _ lkX7_tellHouse_49) (fun _ h => h) rfl dX7_tellHouse_34 ?_
      refine x_cast (y := nI (tn (S 5 1))) (okT_1 hT) ?_
      refine lv_iconst (v := nI 1) hx hb dX7_tellHouse_37 (by decide) ?_
      refine x_iadd (x := tn (S 5 1)) (y := 1) hx hb dX7_tellHouse_38 ?_
      refine x_put hx hb hts iwX7_tellHouse_X7 tyX7 tyX7_ok nmX7 hown hM 0 0 rfl rfl rfl 1 (by decide) (hts _ lkX7_tellHouse_49) (fun _ h => h) rfl (ty := .int) (by decide +kernel) rfl rfl (Nat.le_of_ble_eq_true rfl) [w7 q ad (X 0 0) (nI (tn (S 5 1) + 1)) (X 2 0) (X 3 0) (X 4 0) (X 5) (X 6) (upd (X 7) (tn (S 5 1)) (nI a)) (X 8) (X 9) (X 10) (X 11) (X 12) (X 13) (X 14) (X 15)] rfl dX7_tellHouse_39 (fun H locs hM => ?_)
      refine lv_iconst (v := nI 1) hx hb dX7_tellHouse_42 (by decide) ?_
      have hM : xM D (TY q) [wst q ad (xT (X 0 0) (nI (tn (S 5 1) + 1)) (X 2 0) (X 3 0) (X 4 0) (X 5) (X 6) (upd (X 7) (tn (S 5 1)) (nI a)) (X 8) (X 9) (X 10) (X 11) (X 12) (X 13) (X 14) (X 15))] A s.heap s H locs := hM
      have e3 : ((xT (X 0 0) (nI (tn (S 5 1) + 1)) (X 2 0) (X 3 0) (X 4 0) (X 5) (X 6) (upd (X 7) (tn (S 5 1)) (nI a)) (X 8) (X 9) (X 10) (X 11) (X 12) (X 13) (X 14) (X 15)) : Nat → Nat → Int32) = ((xT (X 0 0) (nI (tn (S 5 1) + 1)) (X 2 0) (X 3 0) (X 4 0) (X 5) (X 6) (upd (X 7) (tn (S 5 1)) (nI a)) (X 8) (X 9) (X 10) (X 11) (X 12) (X 13) (X 14) (X 15))) := by rfl
      have hM : xM D (TY q) [wst q ad (xT (X 0 0) (nI (tn (S 5 1) + 1)) (X 2 0) (X 3 0) (X 4 0) (X 5) (X 6) (upd (X 7) (tn (S 5 1)) (nI a)) (X 8) (X 9) (X 10) (X 11) (X 12) (X 13) (X 14) (X 15))] A s.heap s H locs := Eq.mp (congrArg (fun z9 => xM D (TY q) [wst q ad z9] A s.heap s H locs) e3) hM
      exact x_zret hx hb hr hlocks (xT (X 0 0) (nI (tn (S 5 1) + 1)) (X 2 0) (X 3 0) (X 4 0) (X 5) (X 6) (upd (X 7) (tn (S 5 1)) (nI a)) (X 8) (X 9) (X 10) (X 11) (X 12) (X 13) (X 14) (X 15)) hM rfl ⟨(show nI 1 = zb ((xHouseR S (true, 0, t)).1 = true) from by (rw [hit]; first | exact zb_t' rfl | exact zb_f' Bool.false_ne_true)), (show okT (xT (X 0 0) (nI (tn (S 5 1) + 1)) (X 2 0) (X 3 0) (X 4 0) (X 5) (X 6) (upd (X 7) (tn (S 5 1)) (nI a)) (X 8) (X 9) (X 10) (X 11) (X 12) (X 13) (X 14) (X 15)) (xshf (xHouseR S (true, 0, t)).2.1) from by (rw [hit]; exact okT_house hT (by omega) ha0 (by omega)))⟩ dX7_tellHouse_43
    · have hit : (xHouseR S (true, 0, t)) = (false, S, 0, t) := if_neg (by intro z; have z2 := z.2; dsimp only at z2; omega)
      refine lv_iconst (v := nI 0) hx hb dX7_tellHouse_18 (by decide) ?_
      exact x_zret hx hb hr hlocks X hM rfl ⟨(show nI 0 = zb ((xHouseR S (true, 0, t)).1 = true) from by (rw [hit]; first | exact zb_t' rfl | exact zb_f' Bool.false_ne_true)), (show okT X (xshf (xHouseR S (true, 0, t)).2.1) from by (rw [hit]; exact hT))⟩ dX7_tellHouse_19
