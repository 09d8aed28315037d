set_option maxRecDepth 20000 in
theorem ggX7_tellDemand_X8_within : GoodIn wsX7_tellDemand wsX8_within := goodIn_r _ [6] (by decide +kernel) (by decide +kernel)
set_option maxRecDepth 20000 in
theorem gX7_tellDemand_X8_within_n92 : GoodIn wsX7_tellDemand (wsX8_within) := ggX7_tellDemand_X8_within
set_option maxRecDepth 20000 in
theorem ggX7_tellDemand_X5_put : GoodIn wsX7_tellDemand wsX5_put := goodIn_r _ [10] (by decide +kernel) (by decide +kernel)
set_option maxRecDepth 20000 in
theorem gX7_tellDemand_X5_put : GoodIn wsX7_tellDemand (va_wsS RX7 95 yX5_put wsX5_put) := goodIn_app (goodIn_of _ (by decide +kernel)) ggX7_tellDemand_X5_put
theorem dX7_tellDemand_0 : decode cX7_tellDemand 0 = .ok (.aload_n 0, 1) := by decide +kernel
theorem dX7_tellDemand_1 : decode cX7_tellDemand 1 = .ok (.getfield 55, 3) := by decide +kernel
theorem dX7_tellDemand_4 : decode cX7_tellDemand 4 = .ok (.iconst 5, 1) := by decide +kernel
theorem dX7_tellDemand_5 : decode cX7_tellDemand 5 = .ok (.if_icmp .ge 23, 3) := by decide +kernel
theorem dX7_tellDemand_8 : decode cX7_tellDemand 8 = .ok (.iload_n 1, 1) := by decide +kernel
theorem dX7_tellDemand_9 : decode cX7_tellDemand 9 = .ok (.iconst 0, 1) := by decide +kernel
theorem dX7_tellDemand_10 : decode cX7_tellDemand 10 = .ok (.bipush 20, 2) := by decide +kernel
theorem dX7_tellDemand_12 : decode cX7_tellDemand 12 = .ok (.invokestatic 92, 3) := by decide +kernel
theorem dX7_tellDemand_15 : decode cX7_tellDemand 15 = .ok (.ifCond .eq 13, 3) := by decide +kernel
theorem dX7_tellDemand_18 : decode cX7_tellDemand 18 = .ok (.iload_n 2, 1) := by decide +kernel
theorem dX7_tellDemand_19 : decode cX7_tellDemand 19 = .ok (.iconst 0, 1) := by decide +kernel
theorem dX7_tellDemand_20 : decode cX7_tellDemand 20 = .ok (.bipush 10, 2) := by decide +kernel
theorem dX7_tellDemand_22 : decode cX7_tellDemand 22 = .ok (.invokestatic 92, 3) := by decide +kernel
theorem dX7_tellDemand_25 : decode cX7_tellDemand 25 = .ok (.ifCond .ne 5, 3) := by decide +kernel
theorem dX7_tellDemand_28 : decode cX7_tellDemand 28 = .ok (.iconst 0, 1) := by decide +kernel
theorem dX7_tellDemand_29 : decode cX7_tellDemand 29 = .ok (.ireturn, 1) := by decide +kernel
theorem dX7_tellDemand_30 : decode cX7_tellDemand 30 = .ok (.aload_n 0, 1) := by decide +kernel
theorem dX7_tellDemand_31 : decode cX7_tellDemand 31 = .ok (.getfield 30, 3) := by decide +kernel
theorem dX7_tellDemand_34 : decode cX7_tellDemand 34 = .ok (.aload_n 0, 1) := by decide +kernel
theorem dX7_tellDemand_35 : decode cX7_tellDemand 35 = .ok (.getfield 55, 3) := by decide +kernel
theorem dX7_tellDemand_38 : decode cX7_tellDemand 38 = .ok (.iload_n 1, 1) := by decide +kernel
theorem dX7_tellDemand_39 : decode cX7_tellDemand 39 = .ok (.invokestatic 95, 3) := by decide +kernel
theorem dX7_tellDemand_42 : decode cX7_tellDemand 42 = .ok (.aload_n 0, 1) := by decide +kernel
theorem dX7_tellDemand_43 : decode cX7_tellDemand 43 = .ok (.getfield 33, 3) := by decide +kernel
theorem dX7_tellDemand_46 : decode cX7_tellDemand 46 = .ok (.aload_n 0, 1) := by decide +kernel
theorem dX7_tellDemand_47 : decode cX7_tellDemand 47 = .ok (.getfield 55, 3) := by decide +kernel
theorem dX7_tellDemand_50 : decode cX7_tellDemand 50 = .ok (.iload_n 2, 1) := by decide +kernel
theorem dX7_tellDemand_51 : decode cX7_tellDemand 51 = .ok (.invokestatic 95, 3) := by decide +kernel
theorem dX7_tellDemand_54 : decode cX7_tellDemand 54 = .ok (.aload_n 0, 1) := by decide +kernel
theorem dX7_tellDemand_55 : decode cX7_tellDemand 55 = .ok (.dup, 1) := by decide +kernel
theorem dX7_tellDemand_56 : decode cX7_tellDemand 56 = .ok (.getfield 55, 3) := by decide +kernel
theorem dX7_tellDemand_59 : decode cX7_tellDemand 59 = .ok (.iconst 1, 1) := by decide +kernel
theorem dX7_tellDemand_60 : decode cX7_tellDemand 60 = .ok (.iadd, 1) := by decide +kernel
theorem dX7_tellDemand_61 : decode cX7_tellDemand 61 = .ok (.putfield 55, 3) := by decide +kernel
theorem dX7_tellDemand_64 : decode cX7_tellDemand 64 = .ok (.iconst 1, 1) := by decide +kernel
theorem dX7_tellDemand_65 : decode cX7_tellDemand 65 = .ok (.ireturn, 1) := by decide +kernel
theorem lkX7_tellDemand_30 : Cond.fieldLink RX7 30 "LeftAtFive$Street" "loaves" "[I" ∈ wsX7_tellDemand := by decide +kernel
theorem lkX7_tellDemand_33 : Cond.fieldLink RX7 33 "LeftAtFive$Street" "chance" "[I" ∈ wsX7_tellDemand := by decide +kernel
theorem lkX7_tellDemand_55 : Cond.fieldLink RX7 55 "LeftAtFive$Street" "demands" "I" ∈ wsX7_tellDemand := by decide +kernel
theorem iniX7_tellDemand_X8 : Cond.initialized RX8 ∈ wsX7_tellDemand := by decide +kernel
theorem staX7_tellDemand_X8_within : Cond.static yX8_within ∈ wsX7_tellDemand := by decide +kernel
theorem iwX7_tellDemand_X7 : ∀ w ∈ wsX70, w ∈ wsX7_tellDemand := by decide +kernel
set_option maxHeartbeats 2000000 in
set_option maxRecDepth 100000 in
theorem c_X7_tellDemand (l : Launch) (D : va_G) (q : Nat → ClassId) (ad : Nat → Nat) (X : Nat → Nat → Int32) (S : Nat → Nat → Int32) (t : Nat → Int32) (a : Nat) (b : Nat) (hT : okT X (xshf S)) (ha0 : tn (t 0) = a) (ha9 : a ≤ 99) (hb0 : tn (t 1) = b) (hb9 : b ≤ 99) : xC l yX7_tellDemand wsX7_tellDemand ({ frames := 1, cells := 0, slots := 0, locals := 22 }) D (TY q) [wst q ad X] [.ref (ad 0), .int (nI a), .int (nI b)] (xQi D (TY q) (fun (r : Int32) (u : (Nat → Nat → Int32)) => r = zb ((xDemR S (true, 0, t)).1 = true) ∧ okT u (xshf (xDemR S (true, 0, t)).2.1)) (fun (u : (Nat → Nat → Int32)) => [wst q ad u])) 0 0 := by
  refine x_enter (cc := cX7_tellDemand) (maxL := 3) (ret := (some .boolean)) (by decide) rfl (Nat.le_of_ble_eq_true rfl) ?_
  intro p e s m below meth c A ls H locs hfix hr hlocks hinit hM hl
  obtain ⟨hx, hb, hml, hown, hts⟩ := id hfix
  have hl : lv_has ls 3 [(0, .ref (ad 0)), (1, .int (nI a)), (2, .int (nI b))] := hl
  have q2 : tn (xshf S 2 0) = tn (S 2 1) := rfl
  have q5 : tn (xshf S 5 0) = tn (S 5 1) := rfl
  have q8 : tn (xshf S 8 0) = tn (S 8 1) := rfl
  have q12 : tn (xshf S 12 0) = tn (S 12 1) := rfl
  have q15 : tn (xshf S 15 0) = tn (S 15 1) := rfl
  have hT0b := okT_0b hT
  have hT1b := okT_1b hT
  have hT2b := okT_2b hT
  have hT3b := okT_3b hT
  have hT4b := okT_4b hT
  refine lv_aload_n hx hb dX7_tellDemand_0 rfl (lv_at hl 0 rfl) ?_
  refine x_get hx hb hts iwX7_tellDemand_X7 hown hM 0 0 rfl rfl rfl 3 (by decide) (hts _ lkX7_tellDemand_55) (fun _ h => h) rfl dX7_tellDemand_1 ?_
  refine x_cast (y := nI (tn (S 12 1))) (okT_3 hT) ?_
  refine lv_iconst (v := nI 5) hx hb dX7_tellDemand_4 (by decide) ?_
  refine x_icmp_ge (x := tn (S 12 1)) (y := 5) (tgt := 28) hx hb (by omega) (by omega) dX7_tellDemand_5 (by decide) (fun c1 => ?_) (fun c1 => ?_)
  · have hit : (xDemR S (true, 0, t)) = (false, S, 0, t) := if_neg (by intro z; have z2 := z.2; dsimp only at z2; omega)
    refine lv_iconst (v := nI 0) hx hb dX7_tellDemand_28 (by decide) ?_
    exact x_zret hx hb hr hlocks X hM rfl ⟨(show nI 0 = zb ((xDemR S (true, 0, t)).1 = true) from by (rw [hit]; first | exact zb_t' rfl | exact zb_f' Bool.false_ne_true)), (show okT X (xshf (xDemR S (true, 0, t)).2.1) from by (rw [hit]; exact hT))⟩ dX7_tellDemand_29
  · refine lv_iload_n hx hb dX7_tellDemand_8 rfl (lv_at hl 1 rfl) ?_
    refine lv_iconst (v := nI 0) hx hb dX7_tellDemand_9 (by decide) ?_
    refine lv_bipush (v := nI 20) hx hb dX7_tellDemand_10 (by decide) ?_
    refine x_calli (bc := []) (br := [wst q ad X]) hM [] [0] rfl rfl rfl (by decide) (x_runSN (As := [.int (nI a), .int (nI 0), .int (nI 20)]) (rest := []) hfix (c_X8_within l D q (nI a) (nI 0) (nI 20) ((a : Nat) : Int) (0 : Int) (20 : Int) (nI_toInt (n := a) (by omega)) (nI_toInt (n := 0) (by decide)) (nI_toInt (n := 20) (by decide))) ⟨va_cnB (host := "LeftAtFive") 3 hts gX7_tellDemand_X8_within_n92 rfl rfl rfl (hM.2.2.2.2.2 (RX7, 92, yX8_within) (by decide +kernel)) (hts _ iniX7_tellDemand_X8) (by decide +kernel) ⟨Nat.le_of_ble_eq_true rfl, Nat.le_of_ble_eq_true rfl⟩, hts _ staX7_tellDemand_X8_within, trivial⟩ hM [] rfl rfl rfl hl.1 rfl (Nat.le_of_ble_eq_true rfl) dX7_tellDemand_12 ⟨Nat.le_of_ble_eq_true rfl, Nat.le_of_ble_eq_true rfl⟩) (fun r u H locs hq hM => ?_)
    subst hq
    have hM : xM D (TY q) [wst q ad X] A s.heap s H locs := hM
    refine x_ifz_eq (P := (0 : Int) ≤ ((a : Nat) : Int) ∧ ((a : Nat) : Int) ≤ (20 : Int)) (tgt := 28) hx hb dX7_tellDemand_15 (by decide) (fun c2 => ?_) (fun c2 => ?_)
    · have hit : (xDemR S (true, 0, t)) = (false, S, 0, t) := if_neg (by intro z; have z2 := z.2; dsimp only at z2; omega)
      refine lv_iconst (v := nI 0) hx hb dX7_tellDemand_28 (by decide) ?_
      exact x_zret hx hb hr hlocks X hM rfl ⟨(show nI 0 = zb ((xDemR S (true, 0, t)).1 = true) from by (rw [hit]; first | exact zb_t' rfl | exact zb_f' Bool.false_ne_true)), (show okT X (xshf (xDemR S (true, 0, t)).2.1) from by (rw [hit]; exact hT))⟩ dX7_tellDemand_29
    · refine lv_iload_n hx hb dX7_tellDemand_18 rfl (lv_at hl 2 rfl) ?_
      refine lv_iconst (v := nI 0) hx hb dX7_tellDemand_19 (by decide) ?_
      refine lv_bipush (v := nI 10) hx hb dX7_tellDemand_20 (by decide) ?_
      refine x_calli (bc := []) (br := [wst q ad X]) hM [] [0] rfl rfl rfl (by decide) (x_runSN (As := [.int (nI b), .int (nI 0), .int (nI 10)]) (rest := []) hfix (c_X8_within l D q (nI b) (nI 0) (nI 10) ((b : Nat) : Int) (0 : Int) (10 : Int) (nI_toInt (n := b) (by omega)) (nI_toInt (n := 0) (by decide)) (nI_toInt (n := 10) (by decide))) ⟨va_cnB (host := "LeftAtFive") 3 hts gX7_tellDemand_X8_within_n92 rfl rfl rfl (hM.2.2.2.2.2 (RX7, 92, yX8_within) (by decide +kernel)) (hts _ iniX7_tellDemand_X8) (by decide +kernel) ⟨Nat.le_of_ble_eq_true rfl, Nat.le_of_ble_eq_true rfl⟩, hts _ staX7_tellDemand_X8_within, trivial⟩ hM [] rfl rfl rfl hl.1 rfl (Nat.le_of_ble_eq_true rfl) dX7_tellDemand_22 ⟨Nat.le_of_ble_eq_true rfl, Nat.le_of_ble_eq_true rfl⟩) (fun r u H locs hq hM => ?_)
      subst hq
      have hM : xM D (TY q) [wst q ad X] A s.heap s H locs := hM
      refine x_ifz_ne (P := (0 : Int) ≤ ((b : Nat) : Int) ∧ ((b : Nat) : Int) ≤ (10 : Int)) (tgt := 30) hx hb dX7_tellDemand_25 (by decide) (fun c3 => ?_) (fun c3 => ?_)
      · have hM : xM D (TY q) [w7 q ad (X 0 0) (X 1 0) (X 2 0) (X 3 0) (X 4 0) (X 5) (X 6) (X 7) (X 8) (X 9) (X 10) (X 11) (X 12) (X 13) (X 14) (X 15)] A s.heap s H locs := hM
        have hit : (xDemR S (true, 0, t)) = _ := if_pos (by refine ⟨rfl, ?_⟩; dsimp only; omega)
        refine lv_aload_n hx hb dX7_tellDemand_30 rfl (lv_at hl 0 rfl) ?_
        refine x_get hx hb hts iwX7_tellDemand_X7 hown hM 0 0 rfl rfl rfl 11 (by decide) (hts _ lkX7_tellDemand_30) (fun _ h => h) rfl dX7_tellDemand_31 ?_
        refine lv_aload_n hx hb dX7_tellDemand_34 rfl (lv_at hl 0 rfl) ?_
        refine x_get hx hb hts iwX7_tellDemand_X7 hown hM 0 0 rfl rfl rfl 3 (by decide) (hts _ lkX7_tellDemand_55) (fun _ h => h) rfl dX7_tellDemand_35 ?_
        refine x_cast (y := nI (tn (S 12 1))) (okT_3 hT) ?_
        refine lv_iload_n hx hb dX7_tellDemand_38 rfl (lv_at hl 1 rfl) ?_
        refine x_callv (bc := [w7 q ad (X 0 0) (X 1 0) (X 2 0) (X 3 0) (X 4 0) (X 5) (X 6) (X 7) (X 8) (X 9) (X 10) (X 11) (X 12) (X 13) (X 14) (X 15)]) (br := []) hM [0] [] rfl rfl rfl (by decide) (x_runS (As := [.ref (ad 12), .int (nI (tn (S 12 1))), .int (nI a)]) (rest := []) hfix (c_X5_put l D q (w7 q ad (X 0 0) (X 1 0) (X 2 0) (X 3 0) (X 4 0) (X 5) (X 6) (X 7) (X 8) (X 9) (X 10) (X 11) (X 12) (X 13) (X 14) (X 15)) 7 (ad 12) 5 (X 11) (tn (S 12 1)) (nI a) rfl (by decide) (by omega)) (va_cwS 3 hts gX7_tellDemand_X5_put rfl rfl rfl (by decide +kernel) ⟨Nat.le_of_ble_eq_true rfl, Nat.le_of_ble_eq_true rfl⟩) hM [0] rfl rfl rfl hl.1 rfl (Nat.le_of_ble_eq_true rfl) dX7_tellDemand_39 ⟨Nat.le_of_ble_eq_true rfl, Nat.le_of_ble_eq_true rfl⟩) (fun u H locs hq hM => ?_)
        have hM : xM D (TY q) [w7 q ad (X 0 0) (X 1 0) (X 2 0) (X 3 0) (X 4 0) (X 5) (X 6) (X 7) (X 8) (X 9) (X 10) (upd (X 11) (tn (S 12 1)) (nI a)) (X 12) (X 13) (X 14) (X 15)] A s.heap s H locs := hM
        refine lv_aload_n hx hb dX7_tellDemand_42 rfl (lv_at hl 0 rfl) ?_
        refine x_get hx hb hts iwX7_tellDemand_X7 hown hM 0 0 rfl rfl rfl 12 (by decide) (hts _ lkX7_tellDemand_33) (fun _ h => h) rfl dX7_tellDemand_43 ?_
        refine lv_aload_n hx hb dX7_tellDemand_46 rfl (lv_at hl 0 rfl) ?_
        refine x_get hx hb hts iwX7_tellDemand_X7 hown hM 0 0 rfl rfl rfl 3 (by decide) (hts _ lkX7_tellDemand_55) (fun _ h => h) rfl dX7_tellDemand_47 ?_
        refine x_cast (y := nI (tn (S 12 1))) (okT_3 hT) ?_
        refine lv_iload_n hx hb dX7_tellDemand_50 rfl (lv_at hl 2 rfl) ?_
        refine x_callv (bc := [w7 q ad (X 0 0) (X 1 0) (X 2 0) (X 3 0) (X 4 0) (X 5) (X 6) (X 7) (X 8) (X 9) (X 10) (upd (X 11) (tn (S 12 1)) (nI a)) (X 12) (X 13) (X 14) (X 15)]) (br := []) hM [0] [] rfl rfl rfl (by decide) (x_runS (As := [.ref (ad 13), .int (nI (tn (S 12 1))), .int (nI b)]) (rest := []) hfix (c_X5_put l D q (w7 q ad (X 0 0) (X 1 0) (X 2 0) (X 3 0) (X 4 0) (X 5) (X 6) (X 7) (X 8) (X 9) (X 10) (upd (X 11) (tn (S 12 1)) (nI a)) (X 12) (X 13) (X 14) (X 15)) 8 (ad 13) 5 (X 12) (tn (S 12 1)) (nI b) rfl (by decide) (by omega)) (va_cwS 3 hts gX7_tellDemand_X5_put rfl rfl rfl (by decide +kernel) ⟨Nat.le_of_ble_eq_true rfl, Nat.le_of_ble_eq_true rfl⟩) hM [0] rfl rfl rfl hl.1 rfl (Nat.le_of_ble_eq_true rfl) dX7_tellDemand_51 ⟨Nat.le_of_ble_eq_true rfl, Nat.le_of_ble_eq_true rfl⟩) (fun u H locs hq hM => ?_)
        have hM : xM D (TY q) [w7 q ad (X 0 0) (X 1 0) (X 2 0) (X 3 0) (X 4 0) (X 5) (X 6) (X 7) (X 8) (X 9) (X 10) (upd (X 11) (tn (S 12 1)) (nI a)) (upd (X 12) (tn (S 12 1)) (nI b)) (X 13) (X 14) (X 15)] A s.heap s H locs := hM
        refine lv_aload_n hx hb dX7_tellDemand_54 rfl (lv_at hl 0 rfl) ?_
        refine lv_dup hx hb dX7_tellDemand_55 rfl ?_
        refine x_get hx hb hts iwX7_tellDemand_X7 hown hM 0 0 rfl rfl rfl 3 (by decide) (hts _ lkX7_tellDemand_55) (fun _ h => h) rfl dX7_tellDemand_56 ?_
        refine x_cast (y := nI (tn (S 12 1))) (okT_3 hT) ?_
        refine lv_iconst (v := nI 1) hx hb dX7_tellDemand_59 (by decide) ?_
        refine x_iadd (x := tn (S 12 1)) (y := 1) hx hb dX7_tellDemand_60 ?_
        refine x_put hx hb hts iwX7_tellDemand_X7 tyX7 tyX7_ok nmX7 hown hM 0 0 rfl rfl rfl 3 (by decide) (hts _ lkX7_tellDemand_55) (fun _ h => h) rfl (ty := .int) (by decide +kernel) rfl rfl (Nat.le_of_ble_eq_true rfl) [w7 q ad (X 0 0) (X 1 0) (X 2 0) (nI (tn (S 12 1) + 1)) (X 4 0) (X 5) (X 6) (X 7) (X 8) (X 9) (X 10) (upd (X 11) (tn (S 12 1)) (nI a)) (upd (X 12) (tn (S 12 1)) (nI b)) (X 13) (X 14) (X 15)] rfl dX7_tellDemand_61 (fun H locs hM => ?_)
        refine lv_iconst (v := nI 1) hx hb dX7_tellDemand_64 (by decide) ?_
        have hM : xM D (TY q) [wst q ad (xT (X 0 0) (X 1 0) (X 2 0) (nI (tn (S 12 1) + 1)) (X 4 0) (X 5) (X 6) (X 7) (X 8) (X 9) (X 10) (upd (X 11) (tn (S 12 1)) (nI a)) (upd (X 12) (tn (S 12 1)) (nI b)) (X 13) (X 14) (X 15))] A s.heap s H locs := hM
        have e4 : ((xT (X 0 0) (X 1 0) (X 2 0) (nI (tn (S 12 1) + 1)) (X 4 0) (X 5) (X 6) (X 7) (X 8) (X 9) (X 10) (upd (X 11) (tn (S 12 1)) (nI a)) (upd (X 12) (tn (S 12 1)) (nI b)) (X 13) (X 14) (X 15)) : Nat → Nat → Int32) = ((xT (X 0 0) (X 1 0) (X 2 0) (nI (tn (S 12 1) + 1)) (X 4 0) (X 5) (X 6) (X 7) (X 8) (X 9) (X 10) (upd (X 11) (tn (S 12 1)) (nI a)) (upd (X 12) (tn (S 12 1)) (nI b)) (X 13) (X 14) (X 15))) := by rfl
        have hM : xM D (TY q) [wst q ad (xT (X 0 0) (X 1 0) (X 2 0) (nI (tn (S 12 1) + 1)) (X 4 0) (X 5) (X 6) (X 7) (X 8) (X 9) (X 10) (upd (X 11) (tn (S 12 1)) (nI a)) (upd (X 12) (tn (S 12 1)) (nI b)) (X 13) (X 14) (X 15))] A s.heap s H locs := Eq.mp (congrArg (fun z9 => xM D (TY q) [wst q ad z9] A s.heap s H locs) e4) hM
        exact x_zret hx hb hr hlocks (xT (X 0 0) (X 1 0) (X 2 0) (nI (tn (S 12 1) + 1)) (X 4 0) (X 5) (X 6) (X 7) (X 8) (X 9) (X 10) (upd (X 11) (tn (S 12 1)) (nI a)) (upd (X 12) (tn (S 12 1)) (nI b)) (X 13) (X 14) (X 15)) hM rfl ⟨(show nI 1 = zb ((xDemR S (true, 0, t)).1 = true) from by (rw [hit]; first | exact zb_t' rfl | exact zb_f' Bool.false_ne_true)), (show okT (xT (X 0 0) (X 1 0) (X 2 0) (nI (tn (S 12 1) + 1)) (X 4 0) (X 5) (X 6) (X 7) (X 8) (X 9) (X 10) (upd (X 11) (tn (S 12 1)) (nI a)) (upd (X 12) (tn (S 12 1)) (nI b)) (X 13) (X 14) (X 15)) (xshf (xDemR S (true, 0, t)).2.1) from by (rw [hit]; exact okT_dem hT (by omega) ha0 hb0))⟩ dX7_tellDemand_65
      · have hit : (xDemR S (true, 0, t)) = (false, S, 0, t) := if_neg (by intro z; have z2 := z.2; dsimp only at z2; omega)
        refine lv_iconst (v := nI 0) hx hb dX7_tellDemand_28 (by decide) ?_
        exact x_zret hx hb hr hlocks X hM rfl ⟨(show nI 0 = zb ((xDemR S (true, 0, t)).1 = true) from by (rw [hit]; first | exact zb_t' rfl | exact zb_f' Bool.false_ne_true)), (show okT X (xshf (xDemR S (true, 0, t)).2.1) from by (rw [hit]; exact hT))⟩ dX7_tellDemand_29
