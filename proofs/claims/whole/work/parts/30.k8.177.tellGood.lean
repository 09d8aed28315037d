set_option maxRecDepth 20000 in
theorem ggX7_tellGood_X8_within : GoodIn wsX7_tellGood wsX8_within := goodIn_r _ [6] (by decide +kernel) (by decide +kernel)
set_option maxRecDepth 20000 in
theorem gX7_tellGood_X8_within_n92 : GoodIn wsX7_tellGood (wsX8_within) := ggX7_tellGood_X8_within
set_option maxRecDepth 20000 in
theorem ggX7_tellGood_X5_put : GoodIn wsX7_tellGood wsX5_put := goodIn_r _ [10] (by decide +kernel) (by decide +kernel)
set_option maxRecDepth 20000 in
theorem gX7_tellGood_X5_put : GoodIn wsX7_tellGood (va_wsS RX7 95 yX5_put wsX5_put) := goodIn_app (goodIn_of _ (by decide +kernel)) ggX7_tellGood_X5_put
theorem dX7_tellGood_0 : decode cX7_tellGood 0 = .ok (.aload_n 0, 1) := by decide +kernel
theorem dX7_tellGood_1 : decode cX7_tellGood 1 = .ok (.getfield 45, 3) := by decide +kernel
theorem dX7_tellGood_4 : decode cX7_tellGood 4 = .ok (.iconst 5, 1) := by decide +kernel
theorem dX7_tellGood_5 : decode cX7_tellGood 5 = .ok (.if_icmp .ge 22, 3) := by decide +kernel
theorem dX7_tellGood_8 : decode cX7_tellGood 8 = .ok (.iload_n 1, 1) := by decide +kernel
theorem dX7_tellGood_9 : decode cX7_tellGood 9 = .ok (.iconst 1, 1) := by decide +kernel
theorem dX7_tellGood_10 : decode cX7_tellGood 10 = .ok (.bipush 9, 2) := by decide +kernel
theorem dX7_tellGood_12 : decode cX7_tellGood 12 = .ok (.invokestatic 92, 3) := by decide +kernel
theorem dX7_tellGood_15 : decode cX7_tellGood 15 = .ok (.ifCond .eq 12, 3) := by decide +kernel
theorem dX7_tellGood_18 : decode cX7_tellGood 18 = .ok (.iload_n 2, 1) := by decide +kernel
theorem dX7_tellGood_19 : decode cX7_tellGood 19 = .ok (.iconst 0, 1) := by decide +kernel
theorem dX7_tellGood_20 : decode cX7_tellGood 20 = .ok (.iconst 3, 1) := by decide +kernel
theorem dX7_tellGood_21 : decode cX7_tellGood 21 = .ok (.invokestatic 92, 3) := by decide +kernel
theorem dX7_tellGood_24 : decode cX7_tellGood 24 = .ok (.ifCond .ne 5, 3) := by decide +kernel
theorem dX7_tellGood_27 : decode cX7_tellGood 27 = .ok (.iconst 0, 1) := by decide +kernel
theorem dX7_tellGood_28 : decode cX7_tellGood 28 = .ok (.ireturn, 1) := by decide +kernel
theorem dX7_tellGood_29 : decode cX7_tellGood 29 = .ok (.aload_n 0, 1) := by decide +kernel
theorem dX7_tellGood_30 : decode cX7_tellGood 30 = .ok (.getfield 9, 3) := by decide +kernel
theorem dX7_tellGood_33 : decode cX7_tellGood 33 = .ok (.aload_n 0, 1) := by decide +kernel
theorem dX7_tellGood_34 : decode cX7_tellGood 34 = .ok (.getfield 45, 3) := by decide +kernel
theorem dX7_tellGood_37 : decode cX7_tellGood 37 = .ok (.iload_n 1, 1) := by decide +kernel
theorem dX7_tellGood_38 : decode cX7_tellGood 38 = .ok (.invokestatic 95, 3) := by decide +kernel
theorem dX7_tellGood_41 : decode cX7_tellGood 41 = .ok (.aload_n 0, 1) := by decide +kernel
theorem dX7_tellGood_42 : decode cX7_tellGood 42 = .ok (.getfield 15, 3) := by decide +kernel
theorem dX7_tellGood_45 : decode cX7_tellGood 45 = .ok (.aload_n 0, 1) := by decide +kernel
theorem dX7_tellGood_46 : decode cX7_tellGood 46 = .ok (.getfield 45, 3) := by decide +kernel
theorem dX7_tellGood_49 : decode cX7_tellGood 49 = .ok (.iload_n 2, 1) := by decide +kernel
theorem dX7_tellGood_50 : decode cX7_tellGood 50 = .ok (.invokestatic 95, 3) := by decide +kernel
theorem dX7_tellGood_53 : decode cX7_tellGood 53 = .ok (.aload_n 0, 1) := by decide +kernel
theorem dX7_tellGood_54 : decode cX7_tellGood 54 = .ok (.dup, 1) := by decide +kernel
theorem dX7_tellGood_55 : decode cX7_tellGood 55 = .ok (.getfield 45, 3) := by decide +kernel
theorem dX7_tellGood_58 : decode cX7_tellGood 58 = .ok (.iconst 1, 1) := by decide +kernel
theorem dX7_tellGood_59 : decode cX7_tellGood 59 = .ok (.iadd, 1) := by decide +kernel
theorem dX7_tellGood_60 : decode cX7_tellGood 60 = .ok (.putfield 45, 3) := by decide +kernel
theorem dX7_tellGood_63 : decode cX7_tellGood 63 = .ok (.iconst 1, 1) := by decide +kernel
theorem dX7_tellGood_64 : decode cX7_tellGood 64 = .ok (.ireturn, 1) := by decide +kernel
theorem lkX7_tellGood_9 : Cond.fieldLink RX7 9 "LeftAtFive$Street" "worth" "[I" ∈ wsX7_tellGood := by decide +kernel
theorem lkX7_tellGood_15 : Cond.fieldLink RX7 15 "LeftAtFive$Street" "kind" "[I" ∈ wsX7_tellGood := by decide +kernel
theorem lkX7_tellGood_45 : Cond.fieldLink RX7 45 "LeftAtFive$Street" "goods" "I" ∈ wsX7_tellGood := by decide +kernel
theorem iniX7_tellGood_X8 : Cond.initialized RX8 ∈ wsX7_tellGood := by decide +kernel
theorem staX7_tellGood_X8_within : Cond.static yX8_within ∈ wsX7_tellGood := by decide +kernel
theorem iwX7_tellGood_X7 : ∀ w ∈ wsX70, w ∈ wsX7_tellGood := by decide +kernel
set_option maxHeartbeats 2000000 in
set_option maxRecDepth 100000 in
theorem c_X7_tellGood (l : Launch) (D : va_G) (q : Nat → ClassId) (ad : Nat → Nat) (X : Nat → Nat → Int32) (S : Nat → Nat → Int32) (t : Nat → Int32) (a : Nat) (b : Nat) (hT : okT X (xshf S)) (ha0 : tn (t 0) = a) (ha9 : a ≤ 99) (hb0 : tn (t 1) = b) (hb9 : b ≤ 99) : xC l yX7_tellGood wsX7_tellGood ({ frames := 1, cells := 0, slots := 0, locals := 22 }) D (TY q) [wst q ad X] [.ref (ad 0), .int (nI a), .int (nI b)] (xQi D (TY q) (fun (r : Int32) (u : (Nat → Nat → Int32)) => r = zb ((xGoodR S (true, 0, t)).1 = true) ∧ okT u (xshf (xGoodR S (true, 0, t)).2.1)) (fun (u : (Nat → Nat → Int32)) => [wst q ad u])) 0 0 := by
  refine x_enter (cc := cX7_tellGood) (maxL := 3) (ret := (some .boolean)) (by decide) rfl (Nat.le_of_ble_eq_true rfl) ?_
  intro p e s m below meth c A ls H locs hfix hr hlocks hinit hM hl
  obtain ⟨hx, hb, hml, hown, hts⟩ := id hfix
  have hl : lv_has ls 3 [(0, .ref (ad 0)), (1, .int (nI a)), (2, .int (nI b))] := hl
  have q2 : tn (xshf S 2 0) = tn (S 2 1) := rfl
  have q5 : tn (xshf S 5 0) = tn (S 5 1) := rfl
  have q8 : tn (xshf S 8 0) = tn (S 8 1) := rfl
  have q12 : tn (xshf S 12 0) = tn (S 12 1) := rfl
  have q15 : tn (xshf S 15 0) = tn (S 15 1) := rfl
  have hT0b := okT_0b hT
  have hT1b := okT_1b hT
  have hT2b := okT_2b hT
  have hT3b := okT_3b hT
  have hT4b := okT_4b hT
  refine lv_aload_n hx hb dX7_tellGood_0 rfl (lv_at hl 0 rfl) ?_
  refine x_get hx hb hts iwX7_tellGood_X7 hown hM 0 0 rfl rfl rfl 0 (by decide) (hts _ lkX7_tellGood_45) (fun _ h => h) rfl dX7_tellGood_1 ?_
  refine x_cast (y := nI (tn (S 2 1))) (okT_0 hT) ?_
  refine lv_iconst (v := nI 5) hx hb dX7_tellGood_4 (by decide) ?_
  refine x_icmp_ge (x := tn (S 2 1)) (y := 5) (tgt := 27) hx hb (by omega) (by omega) dX7_tellGood_5 (by decide) (fun c1 => ?_) (fun c1 => ?_)
  · have hit : (xGoodR S (true, 0, t)) = (false, S, 0, t) := if_neg (by intro z; have z2 := z.2; dsimp only at z2; omega)
    refine lv_iconst (v := nI 0) hx hb dX7_tellGood_27 (by decide) ?_
    exact x_zret hx hb hr hlocks X hM rfl ⟨(show nI 0 = zb ((xGoodR S (true, 0, t)).1 = true) from by (rw [hit]; first | exact zb_t' rfl | exact zb_f' Bool.false_ne_true)), (show okT X (xshf (xGoodR S (true, 0, t)).2.1) from by (rw [hit]; exact hT))⟩ dX7_tellGood_28
  · refine lv_iload_n hx hb dX7_tellGood_8 rfl (lv_at hl 1 rfl) ?_
    refine lv_iconst (v := nI 1) hx hb dX7_tellGood_9 (by decide) ?_
    refine lv_bipush (v := nI 9) hx hb dX7_tellGood_10 (by decide) ?_
    refine x_calli (bc := []) (br := [wst q ad X]) hM [] [0] rfl rfl rfl (by decide) (x_runSN (As := [.int (nI a), .int (nI 1), .int (nI 9)]) (rest := []) hfix (c_X8_within l D q (nI a) (nI 1) (nI 9) ((a : Nat) : Int) (1 : Int) (9 : Int) (nI_toInt (n := a) (by omega)) (nI_toInt (n := 1) (by decide)) (nI_toInt (n := 9) (by decide))) ⟨va_cnB (host := "LeftAtFive") 3 hts gX7_tellGood_X8_within_n92 rfl rfl rfl (hM.2.2.2.2.2 (RX7, 92, yX8_within) (by decide +kernel)) (hts _ iniX7_tellGood_X8) (by decide +kernel) ⟨Nat.le_of_ble_eq_true rfl, Nat.le_of_ble_eq_true rfl⟩, hts _ staX7_tellGood_X8_within, trivial⟩ hM [] rfl rfl rfl hl.1 rfl (Nat.le_of_ble_eq_true rfl) dX7_tellGood_12 ⟨Nat.le_of_ble_eq_true rfl, Nat.le_of_ble_eq_true rfl⟩) (fun r u H locs hq hM => ?_)
    subst hq
    have hM : xM D (TY q) [wst q ad X] A s.heap s H locs := hM
    refine x_ifz_eq (P := (1 : Int) ≤ ((a : Nat) : Int) ∧ ((a : Nat) : Int) ≤ (9 : Int)) (tgt := 27) hx hb dX7_tellGood_15 (by decide) (fun c2 => ?_) (fun c2 => ?_)
    · have hit : (xGoodR S (true, 0, t)) = (false, S, 0, t) := if_neg (by intro z; have z2 := z.2; dsimp only at z2; omega)
      refine lv_iconst (v := nI 0) hx hb dX7_tellGood_27 (by decide) ?_
      exact x_zret hx hb hr hlocks X hM rfl ⟨(show nI 0 = zb ((xGoodR S (true, 0, t)).1 = true) from by (rw [hit]; first | exact zb_t' rfl | exact zb_f' Bool.false_ne_true)), (show okT X (xshf (xGoodR S (true, 0, t)).2.1) from by (rw [hit]; exact hT))⟩ dX7_tellGood_28
    · refine lv_iload_n hx hb dX7_tellGood_18 rfl (lv_at hl 2 rfl) ?_
      refine lv_iconst (v := nI 0) hx hb dX7_tellGood_19 (by decide) ?_
      refine lv_iconst (v := nI 3) hx hb dX7_tellGood_20 (by decide) ?_
      refine x_calli (bc := []) (br := [wst q ad X]) hM [] [0] rfl rfl rfl (by decide) (x_runSN (As := [.int (nI b), .int (nI 0), .int (nI 3)]) (rest := []) hfix (c_X8_within l D q (nI b) (nI 0) (nI 3) ((b : Nat) : Int) (0 : Int) (3 : Int) (nI_toInt (n := b) (by omega)) (nI_toInt (n := 0) (by decide)) (nI_toInt (n := 3) (by decide))) ⟨va_cnB (host := "LeftAtFive") 3 hts gX7_tellGood_X8_within_n92 rfl rfl rfl (hM.2.2.2.2.2 (RX7, 92, yX8_within) (by decide +kernel)) (hts _ iniX7_tellGood_X8) (by decide +kernel) ⟨Nat.le_of_ble_eq_true rfl, Nat.le_of_ble_eq_true rfl⟩, hts _ staX7_tellGood_X8_within, trivial⟩ hM [] rfl rfl rfl hl.1 rfl (Nat.le_of_ble_eq_true rfl) dX7_tellGood_21 ⟨Nat.le_of_ble_eq_true rfl, Nat.le_of_ble_eq_true rfl⟩) (fun r u H locs hq hM => ?_)
      subst hq
      have hM : xM D (TY q) [wst q ad X] A s.heap s H locs := hM
      refine x_ifz_ne (P := (0 : Int) ≤ ((b : Nat) : Int) ∧ ((b : Nat) : Int) ≤ (3 : Int)) (tgt := 29) hx hb dX7_tellGood_24 (by decide) (fun c3 => ?_) (fun c3 => ?_)
      · have hM : xM D (TY q) [w7 q ad (X 0 0) (X 1 0) (X 2 0) (X 3 0) (X 4 0) (X 5) (X 6) (X 7) (X 8) (X 9) (X 10) (X 11) (X 12) (X 13) (X 14) (X 15)] A s.heap s H locs := hM
        have hit : (xGoodR S (true, 0, t)) = _ := if_pos (by refine ⟨rfl, ?_⟩; dsimp only; omega)
        refine lv_aload_n hx hb dX7_tellGood_29 rfl (lv_at hl 0 rfl) ?_
        refine x_get hx hb hts iwX7_tellGood_X7 hown hM 0 0 rfl rfl rfl 5 (by decide) (hts _ lkX7_tellGood_9) (fun _ h => h) rfl dX7_tellGood_30 ?_
        refine lv_aload_n hx hb dX7_tellGood_33 rfl (lv_at hl 0 rfl) ?_
        refine x_get hx hb hts iwX7_tellGood_X7 hown hM 0 0 rfl rfl rfl 0 (by decide) (hts _ lkX7_tellGood_45) (fun _ h => h) rfl dX7_tellGood_34 ?_
        refine x_cast (y := nI (tn (S 2 1))) (okT_0 hT) ?_
        refine lv_iload_n hx hb dX7_tellGood_37 rfl (lv_at hl 1 rfl) ?_
        refine x_callv (bc := [w7 q ad (X 0 0) (X 1 0) (X 2 0) (X 3 0) (X 4 0) (X 5) (X 6) (X 7) (X 8) (X 9) (X 10) (X 11) (X 12) (X 13) (X 14) (X 15)]) (br := []) hM [0] [] rfl rfl rfl (by decide) (x_runS (As := [.ref (ad 6), .int (nI (tn (S 2 1))), .int (nI a)]) (rest := []) hfix (c_X5_put l D q (w7 q ad (X 0 0) (X 1 0) (X 2 0) (X 3 0) (X 4 0) (X 5) (X 6) (X 7) (X 8) (X 9) (X 10) (X 11) (X 12) (X 13) (X 14) (X 15)) 1 (ad 6) 5 (X 5) (tn (S 2 1)) (nI a) rfl (by decide) (by omega)) (va_cwS 3 hts gX7_tellGood_X5_put rfl rfl rfl (by decide +kernel) ⟨Nat.le_of_ble_eq_true rfl, Nat.le_of_ble_eq_true rfl⟩) hM [0] rfl rfl rfl hl.1 rfl (Nat.le_of_ble_eq_true rfl) dX7_tellGood_38 ⟨Nat.le_of_ble_eq_true rfl, Nat.le_of_ble_eq_true rfl⟩) (fun u H locs hq hM => ?_)
        have hM : xM D (TY q) [w7 q ad (X 0 0) (X 1 0) (X 2 0) (X 3 0) (X 4 0) (upd (X 5) (tn (S 2 1)) (nI a)) (X 6) (X 7) (X 8) (X 9) (X 10) (X 11) (X 12) (X 13) (X 14) (X 15)] A s.heap s H locs := hM
        refine lv_aload_n hx hb dX7_tellGood_41 rfl (lv_at hl 0 rfl) ?_
        refine x_get hx hb hts iwX7_tellGood_X7 hown hM 0 0 rfl rfl rfl 6 (by decide) (hts _ lkX7_tellGood_15) (fun _ h => h) rfl dX7_tellGood_42 ?_
        refine lv_aload_n hx hb dX7_tellGood_45 rfl (lv_at hl 0 rfl) ?_
        refine x_get hx hb hts iwX7_tellGood_X7 hown hM 0 0 rfl rfl rfl 0 (by decide) (hts _ lkX7_tellGood_45) (fun _ h => h) rfl dX7_tellGood_46 ?_
        refine x_cast (y := nI (tn (S 2 1))) (okT_0 hT) ?_
        refine lv_iload_n hx hb dX7_tellGood_49 rfl (lv_at hl 2 rfl) ?_
        refine x_callv (bc := [w7 q ad (X 0 0) (X 1 0) (X 2 0) (X 3 0) (X 4 0) (upd (X 5) (tn (S 2 1)) (nI a)) (X 6) (X 7) (X 8) (X 9) (X 10) (X 11) (X 12) (X 13) (X 14) (X 15)]) (br := []) hM [0] [] rfl rfl rfl (by decide) (x_runS (As := [.ref (ad 7), .int (nI (tn (S 2 1))), .int (nI b)]) (rest := []) hfix (c_X5_put l D q (w7 q ad (X 0 0) (X 1 0) (X 2 0) (X 3 0) (X 4 0) (upd (X 5) (tn (S 2 1)) (nI a)) (X 6) (X 7) (X 8) (X 9) (X 10) (X 11) (X 12) (X 13) (X 14) (X 15)) 2 (ad 7) 5 (X 6) (tn (S 2 1)) (nI b) rfl (by decide) (by omega)) (va_cwS 3 hts gX7_tellGood_X5_put rfl rfl rfl (by decide +kernel) ⟨Nat.le_of_ble_eq_true rfl, Nat.le_of_ble_eq_true rfl⟩) hM [0] rfl rfl rfl hl.1 rfl (Nat.le_of_ble_eq_true rfl) dX7_tellGood_50 ⟨Nat.le_of_ble_eq_true rfl, Nat.le_of_ble_eq_true rfl⟩) (fun u H locs hq hM => ?_)
        have hM : xM D (TY q) [w7 q ad (X 0 0) (X 1 0) (X 2 0) (X 3 0) (X 4 0) (upd (X 5) (tn (S 2 1)) (nI a)) (upd (X 6) (tn (S 2 1)) (nI b)) (X 7) (X 8) (X 9) (X 10) (X 11) (X 12) (X 13) (X 14) (X 15)] A s.heap s H locs := hM
        refine lv_aload_n hx hb dX7_tellGood_53 rfl (lv_at hl 0 rfl) ?_
        refine lv_dup hx hb dX7_tellGood_54 rfl ?_
        refine x_get hx hb hts iwX7_tellGood_X7 hown hM 0 0 rfl rfl rfl 0 (by decide) (hts _ lkX7_tellGood_45) (fun _ h => h) rfl dX7_tellGood_55 ?_
        refine x_cast (y := nI (tn (S 2 1))) (okT_0 hT) ?_
        refine lv_iconst (v := nI 1) hx hb dX7_tellGood_58 (by decide) ?_
        refine x_iadd (x := tn (S 2 1)) (y := 1) hx hb dX7_tellGood_59 ?_
        refine x_put hx hb hts iwX7_tellGood_X7 tyX7 tyX7_ok nmX7 hown hM 0 0 rfl rfl rfl 0 (by decide) (hts _ lkX7_tellGood_45) (fun _ h => h) rfl (ty := .int) (by decide +kernel) rfl rfl (Nat.le_of_ble_eq_true rfl) [w7 q ad (nI (tn (S 2 1) + 1)) (X 1 0) (X 2 0) (X 3 0) (X 4 0) (upd (X 5) (tn (S 2 1)) (nI a)) (upd (X 6) (tn (S 2 1)) (nI b)) (X 7) (X 8) (X 9) (X 10) (X 11) (X 12) (X 13) (X 14) (X 15)] rfl dX7_tellGood_60 (fun H locs hM => ?_)
        refine lv_iconst (v := nI 1) hx hb dX7_tellGood_63 (by decide) ?_
        have hM : xM D (TY q) [wst q ad (xT (nI (tn (S 2 1) + 1)) (X 1 0) (X 2 0) (X 3 0) (X 4 0) (upd (X 5) (tn (S 2 1)) (nI a)) (upd (X 6) (tn (S 2 1)) (nI b)) (X 7) (X 8) (X 9) (X 10) (X 11) (X 12) (X 13) (X 14) (X 15))] A s.heap s H locs := hM
        have e4 : ((xT (nI (tn (S 2 1) + 1)) (X 1 0) (X 2 0) (X 3 0) (X 4 0) (upd (X 5) (tn (S 2 1)) (nI a)) (upd (X 6) (tn (S 2 1)) (nI b)) (X 7) (X 8) (X 9) (X 10) (X 11) (X 12) (X 13) (X 14) (X 15)) : Nat → Nat → Int32) = ((xT (nI (tn (S 2 1) + 1)) (X 1 0) (X 2 0) (X 3 0) (X 4 0) (upd (X 5) (tn (S 2 1)) (nI a)) (upd (X 6) (tn (S 2 1)) (nI b)) (X 7) (X 8) (X 9) (X 10) (X 11) (X 12) (X 13) (X 14) (X 15))) := by rfl
        have hM : xM D (TY q) [wst q ad (xT (nI (tn (S 2 1) + 1)) (X 1 0) (X 2 0) (X 3 0) (X 4 0) (upd (X 5) (tn (S 2 1)) (nI a)) (upd (X 6) (tn (S 2 1)) (nI b)) (X 7) (X 8) (X 9) (X 10) (X 11) (X 12) (X 13) (X 14) (X 15))] A s.heap s H locs := Eq.mp (congrArg (fun z9 => xM D (TY q) [wst q ad z9] A s.heap s H locs) e4) hM
        exact x_zret hx hb hr hlocks (xT (nI (tn (S 2 1) + 1)) (X 1 0) (X 2 0) (X 3 0) (X 4 0) (upd (X 5) (tn (S 2 1)) (nI a)) (upd (X 6) (tn (S 2 1)) (nI b)) (X 7) (X 8) (X 9) (X 10) (X 11) (X 12) (X 13) (X 14) (X 15)) hM rfl ⟨(show nI 1 = zb ((xGoodR S (true, 0, t)).1 = true) from by (rw [hit]; first | exact zb_t' rfl | exact zb_f' Bool.false_ne_true)), (show okT (xT (nI (tn (S 2 1) + 1)) (X 1 0) (X 2 0) (X 3 0) (X 4 0) (upd (X 5) (tn (S 2 1)) (nI a)) (upd (X 6) (tn (S 2 1)) (nI b)) (X 7) (X 8) (X 9) (X 10) (X 11) (X 12) (X 13) (X 14) (X 15)) (xshf (xGoodR S (true, 0, t)).2.1) from by (rw [hit]; exact okT_good hT (by omega) ha0 hb0))⟩ dX7_tellGood_64
      · have hit : (xGoodR S (true, 0, t)) = (false, S, 0, t) := if_neg (by intro z; have z2 := z.2; dsimp only at z2; omega)
        refine lv_iconst (v := nI 0) hx hb dX7_tellGood_27 (by decide) ?_
        exact x_zret hx hb hr hlocks X hM rfl ⟨(show nI 0 = zb ((xGoodR S (true, 0, t)).1 = true) from by (rw [hit]; first | exact zb_t' rfl | exact zb_f' Bool.false_ne_true)), (show okT X (xshf (xGoodR S (true, 0, t)).2.1) from by (rw [hit]; exact hT))⟩ dX7_tellGood_28
