set_option maxRecDepth 20000 in
theorem ggX7_tellEater_X7_isHouse : GoodIn wsX7_tellEater wsX7_isHouse := goodIn_r _ [8, 9, 10, 11, 12, 25, 26, 27, 28, 29, 30, 31, 32, 33, 34, 35, 36, 37, 38, 39, 40] (by decide +kernel) (by decide +kernel)
set_option maxRecDepth 20000 in
theorem gX7_tellEater_X7_isHouse : GoodIn wsX7_tellEater (wsV RX7 99 RX7 yX7_isHouse wsX7_isHouse) := goodIn_app (goodIn_of _ (by decide +kernel)) ggX7_tellEater_X7_isHouse
set_option maxRecDepth 20000 in
theorem ggX7_tellEater_X7_isGood : GoodIn wsX7_tellEater wsX7_isGood := goodIn_r _ [16, 17, 10, 11, 12, 25, 26, 27, 28, 29, 30, 31, 32, 33, 34, 35, 36, 37, 38, 39, 40] (by decide +kernel) (by decide +kernel)
set_option maxRecDepth 20000 in
theorem gX7_tellEater_X7_isGood : GoodIn wsX7_tellEater (wsV RX7 102 RX7 yX7_isGood wsX7_isGood) := goodIn_app (goodIn_of _ (by decide +kernel)) ggX7_tellEater_X7_isGood
set_option maxRecDepth 20000 in
theorem ggX7_tellEater_X8_within : GoodIn wsX7_tellEater wsX8_within := goodIn_r _ [12] (by decide +kernel) (by decide +kernel)
set_option maxRecDepth 20000 in
theorem gX7_tellEater_X8_within_n92 : GoodIn wsX7_tellEater (wsX8_within) := ggX7_tellEater_X8_within
set_option maxRecDepth 20000 in
theorem ggX7_tellEater_X7_spot : GoodIn wsX7_tellEater wsX7_spot := goodIn_r _ [20] (by decide +kernel) (by decide +kernel)
set_option maxRecDepth 20000 in
theorem gX7_tellEater_X7_spot : GoodIn wsX7_tellEater (va_wsS RX7 105 yX7_spot wsX7_spot) := goodIn_app (goodIn_of _ (by decide +kernel)) ggX7_tellEater_X7_spot
set_option maxRecDepth 20000 in
theorem ggX7_tellEater_X5_put : GoodIn wsX7_tellEater wsX5_put := goodIn_r _ [24] (by decide +kernel) (by decide +kernel)
set_option maxRecDepth 20000 in
theorem gX7_tellEater_X5_put : GoodIn wsX7_tellEater (va_wsS RX7 95 yX5_put wsX5_put) := goodIn_app (goodIn_of _ (by decide +kernel)) ggX7_tellEater_X5_put
theorem dX7_tellEater_0 : decode cX7_tellEater 0 = .ok (.aload_n 0, 1) := by decide +kernel
theorem dX7_tellEater_1 : decode cX7_tellEater 1 = .ok (.getfield 52, 3) := by decide +kernel
theorem dX7_tellEater_4 : decode cX7_tellEater 4 = .ok (.bipush 8, 2) := by decide +kernel
theorem dX7_tellEater_6 : decode cX7_tellEater 6 = .ok (.if_icmp .ge 29, 3) := by decide +kernel
theorem dX7_tellEater_9 : decode cX7_tellEater 9 = .ok (.aload_n 0, 1) := by decide +kernel
theorem dX7_tellEater_10 : decode cX7_tellEater 10 = .ok (.iload_n 1, 1) := by decide +kernel
theorem dX7_tellEater_11 : decode cX7_tellEater 11 = .ok (.invokevirtual 99, 3) := by decide +kernel
theorem dX7_tellEater_14 : decode cX7_tellEater 14 = .ok (.ifCond .eq 21, 3) := by decide +kernel
theorem dX7_tellEater_17 : decode cX7_tellEater 17 = .ok (.aload_n 0, 1) := by decide +kernel
theorem dX7_tellEater_18 : decode cX7_tellEater 18 = .ok (.iload_n 2, 1) := by decide +kernel
theorem dX7_tellEater_19 : decode cX7_tellEater 19 = .ok (.invokevirtual 102, 3) := by decide +kernel
theorem dX7_tellEater_22 : decode cX7_tellEater 22 = .ok (.ifCond .eq 13, 3) := by decide +kernel
theorem dX7_tellEater_25 : decode cX7_tellEater 25 = .ok (.iload_n 3, 1) := by decide +kernel
theorem dX7_tellEater_26 : decode cX7_tellEater 26 = .ok (.iconst 1, 1) := by decide +kernel
theorem dX7_tellEater_27 : decode cX7_tellEater 27 = .ok (.bipush 20, 2) := by decide +kernel
theorem dX7_tellEater_29 : decode cX7_tellEater 29 = .ok (.invokestatic 92, 3) := by decide +kernel
theorem dX7_tellEater_32 : decode cX7_tellEater 32 = .ok (.ifCond .ne 5, 3) := by decide +kernel
theorem dX7_tellEater_35 : decode cX7_tellEater 35 = .ok (.iconst 0, 1) := by decide +kernel
theorem dX7_tellEater_36 : decode cX7_tellEater 36 = .ok (.ireturn, 1) := by decide +kernel
theorem dX7_tellEater_37 : decode cX7_tellEater 37 = .ok (.aload_n 0, 1) := by decide +kernel
theorem dX7_tellEater_38 : decode cX7_tellEater 38 = .ok (.getfield 24, 3) := by decide +kernel
theorem dX7_tellEater_41 : decode cX7_tellEater 41 = .ok (.aload_n 0, 1) := by decide +kernel
theorem dX7_tellEater_42 : decode cX7_tellEater 42 = .ok (.getfield 52, 3) := by decide +kernel
theorem dX7_tellEater_45 : decode cX7_tellEater 45 = .ok (.iload_n 1, 1) := by decide +kernel
theorem dX7_tellEater_46 : decode cX7_tellEater 46 = .ok (.iload_n 2, 1) := by decide +kernel
theorem dX7_tellEater_47 : decode cX7_tellEater 47 = .ok (.invokestatic 105, 3) := by decide +kernel
theorem dX7_tellEater_50 : decode cX7_tellEater 50 = .ok (.invokestatic 95, 3) := by decide +kernel
theorem dX7_tellEater_53 : decode cX7_tellEater 53 = .ok (.aload_n 0, 1) := by decide +kernel
theorem dX7_tellEater_54 : decode cX7_tellEater 54 = .ok (.getfield 27, 3) := by decide +kernel
theorem dX7_tellEater_57 : decode cX7_tellEater 57 = .ok (.aload_n 0, 1) := by decide +kernel
theorem dX7_tellEater_58 : decode cX7_tellEater 58 = .ok (.getfield 52, 3) := by decide +kernel
theorem dX7_tellEater_61 : decode cX7_tellEater 61 = .ok (.iload_n 3, 1) := by decide +kernel
theorem dX7_tellEater_62 : decode cX7_tellEater 62 = .ok (.invokestatic 95, 3) := by decide +kernel
theorem dX7_tellEater_65 : decode cX7_tellEater 65 = .ok (.aload_n 0, 1) := by decide +kernel
theorem dX7_tellEater_66 : decode cX7_tellEater 66 = .ok (.dup, 1) := by decide +kernel
theorem dX7_tellEater_67 : decode cX7_tellEater 67 = .ok (.getfield 52, 3) := by decide +kernel
theorem dX7_tellEater_70 : decode cX7_tellEater 70 = .ok (.iconst 1, 1) := by decide +kernel
theorem dX7_tellEater_71 : decode cX7_tellEater 71 = .ok (.iadd, 1) := by decide +kernel
theorem dX7_tellEater_72 : decode cX7_tellEater 72 = .ok (.putfield 52, 3) := by decide +kernel
theorem dX7_tellEater_75 : decode cX7_tellEater 75 = .ok (.iconst 1, 1) := by decide +kernel
theorem dX7_tellEater_76 : decode cX7_tellEater 76 = .ok (.ireturn, 1) := by decide +kernel
theorem lkX7_tellEater_24 : Cond.fieldLink RX7 24 "LeftAtFive$Street" "eatsAt" "[I" ∈ wsX7_tellEater := by decide +kernel
theorem lkX7_tellEater_27 : Cond.fieldLink RX7 27 "LeftAtFive$Street" "pace" "[I" ∈ wsX7_tellEater := by decide +kernel
theorem lkX7_tellEater_52 : Cond.fieldLink RX7 52 "LeftAtFive$Street" "eaters" "I" ∈ wsX7_tellEater := by decide +kernel
theorem iniX7_tellEater_X8 : Cond.initialized RX8 ∈ wsX7_tellEater := by decide +kernel
theorem staX7_tellEater_X8_within : Cond.static yX8_within ∈ wsX7_tellEater := by decide +kernel
theorem iwX7_tellEater_X7 : ∀ w ∈ wsX70, w ∈ wsX7_tellEater := by decide +kernel
set_option maxHeartbeats 2000000 in
set_option maxRecDepth 100000 in
theorem c_X7_tellEater (l : Launch) (D : va_G) (q : Nat → ClassId) (ad : Nat → Nat) (X : Nat → Nat → Int32) (S : Nat → Nat → Int32) (t : Nat → Int32) (a : Nat) (b : Nat) (d : Nat) (hT : okT X (xshf S)) (ha0 : tn (t 0) = a) (ha9 : a ≤ 99) (hb0 : tn (t 1) = b) (hb9 : b ≤ 99) (hd0 : tn (t 2) = d) (hd9 : d ≤ 99) : xC l yX7_tellEater wsX7_tellEater ({ frames := 2, cells := 0, slots := 0, locals := 43 }) D (TY q) [wst q ad X] [.ref (ad 0), .int (nI a), .int (nI b), .int (nI d)] (xQi D (TY q) (fun (r : Int32) (u : (Nat → Nat → Int32)) => r = zb ((xEaterR S (true, 0, t)).1 = true) ∧ okT u (xshf (xEaterR S (true, 0, t)).2.1)) (fun (u : (Nat → Nat → Int32)) => [wst q ad u])) 0 0 := by
  refine x_enter (cc := cX7_tellEater) (maxL := 4) (ret := (some .boolean)) (by decide) rfl (Nat.le_of_ble_eq_true rfl) ?_
  intro p e s m below meth c A ls H locs hfix hr hlocks hinit hM hl
  obtain ⟨hx, hb, hml, hown, hts⟩ := id hfix
  have hl : lv_has ls 4 [(0, .ref (ad 0)), (1, .int (nI a)), (2, .int (nI b)), (3, .int (nI d))] := hl
  have q2 : tn (xshf S 2 0) = tn (S 2 1) := rfl
  have q5 : tn (xshf S 5 0) = tn (S 5 1) := rfl
  have q8 : tn (xshf S 8 0) = tn (S 8 1) := rfl
  have q12 : tn (xshf S 12 0) = tn (S 12 1) := rfl
  have q15 : tn (xshf S 15 0) = tn (S 15 1) := rfl
  have hT0b := okT_0b hT
  have hT1b := okT_1b hT
  have hT2b := okT_2b hT
  have hT3b := okT_3b hT
  have hT4b := okT_4b hT
  refine lv_aload_n hx hb dX7_tellEater_0 rfl (lv_at hl 0 rfl) ?_
  refine x_get hx hb hts iwX7_tellEater_X7 hown hM 0 0 rfl rfl rfl 2 (by decide) (hts _ lkX7_tellEater_52) (fun _ h => h) rfl dX7_tellEater_1 ?_
  refine x_cast (y := nI (tn (S 8 1))) (okT_2 hT) ?_
  refine lv_bipush (v := nI 8) hx hb dX7_tellEater_4 (by decide) ?_
  refine x_icmp_ge (x := tn (S 8 1)) (y := 8) (tgt := 35) hx hb (by omega) (by omega) dX7_tellEater_6 (by decide) (fun c1 => ?_) (fun c1 => ?_)
  · have hit : (xEaterR S (true, 0, t)) = (false, S, 0, t) := if_neg (by intro z; have z2 := z.2; dsimp only at z2; omega)
    refine lv_iconst (v := nI 0) hx hb dX7_tellEater_35 (by decide) ?_
    exact x_zret hx hb hr hlocks X hM rfl ⟨(show nI 0 = zb ((xEaterR S (true, 0, t)).1 = true) from by (rw [hit]; first | exact zb_t' rfl | exact zb_f' Bool.false_ne_true)), (show okT X (xshf (xEaterR S (true, 0, t)).2.1) from by (rw [hit]; exact hT))⟩ dX7_tellEater_36
  · refine lv_aload_n hx hb dX7_tellEater_9 rfl (lv_at hl 0 rfl) ?_
    refine lv_iload_n hx hb dX7_tellEater_10 rfl (lv_at hl 1 rfl) ?_
    refine x_calli (bc := [wst q ad X]) (br := []) hM [0] [] rfl rfl rfl (by decide) (x_runV (As := [.int (nI a)]) (rest := []) hfix (c_X7_isHouse l D q ad X (xshf S) (nI a) ((a : Nat) : Int) hT (nI_toInt (n := a) (by omega))) (cwV 1 hts gX7_tellEater_X7_isHouse rfl rfl rfl (by decide +kernel) ⟨Nat.le_of_ble_eq_true rfl, Nat.le_of_ble_eq_true rfl⟩) hM [0] rfl rfl 0 0 rfl rfl rfl rfl rfl hl.1 rfl (Nat.le_of_ble_eq_true rfl) dX7_tellEater_11 ⟨Nat.le_of_ble_eq_true rfl, Nat.le_of_ble_eq_true rfl⟩) (fun r u H locs hq hM => ?_)
    subst hq
    have hM : xM D (TY q) [wst q ad X] A s.heap s H locs := hM
    refine x_ifz_eq (P := 0 ≤ ((a : Nat) : Int) ∧ ((a : Nat) : Int) < (tn ((xshf S) 5 0))) (tgt := 35) hx hb dX7_tellEater_14 (by decide) (fun c2 => ?_) (fun c2 => ?_)
    · have hit : (xEaterR S (true, 0, t)) = (false, S, 0, t) := if_neg (by intro z; have z2 := z.2; dsimp only at z2; omega)
      refine lv_iconst (v := nI 0) hx hb dX7_tellEater_35 (by decide) ?_
      exact x_zret hx hb hr hlocks X hM rfl ⟨(show nI 0 = zb ((xEaterR S (true, 0, t)).1 = true) from by (rw [hit]; first | exact zb_t' rfl | exact zb_f' Bool.false_ne_true)), (show okT X (xshf (xEaterR S (true, 0, t)).2.1) from by (rw [hit]; exact hT))⟩ dX7_tellEater_36
    · refine lv_aload_n hx hb dX7_tellEater_17 rfl (lv_at hl 0 rfl) ?_
      refine lv_iload_n hx hb dX7_tellEater_18 rfl (lv_at hl 2 rfl) ?_
      refine x_calli (bc := [wst q ad X]) (br := []) hM [0] [] rfl rfl rfl (by decide) (x_runV (As := [.int (nI b)]) (rest := []) hfix (c_X7_isGood l D q ad X (xshf S) (nI b) ((b : Nat) : Int) hT (nI_toInt (n := b) (by omega))) (cwV 1 hts gX7_tellEater_X7_isGood rfl rfl rfl (by decide +kernel) ⟨Nat.le_of_ble_eq_true rfl, Nat.le_of_ble_eq_true rfl⟩) hM [0] rfl rfl 0 0 rfl rfl rfl rfl rfl hl.1 rfl (Nat.le_of_ble_eq_true rfl) dX7_tellEater_19 ⟨Nat.le_of_ble_eq_true rfl, Nat.le_of_ble_eq_true rfl⟩) (fun r u H locs hq hM => ?_)
      subst hq
      have hM : xM D (TY q) [wst q ad X] A s.heap s H locs := hM
      refine x_ifz_eq (P := 0 ≤ ((b : Nat) : Int) ∧ ((b : Nat) : Int) < (tn ((xshf S) 2 0))) (tgt := 35) hx hb dX7_tellEater_22 (by decide) (fun c3 => ?_) (fun c3 => ?_)
      · have hit : (xEaterR S (true, 0, t)) = (false, S, 0, t) := if_neg (by intro z; have z2 := z.2; dsimp only at z2; omega)
        refine lv_iconst (v := nI 0) hx hb dX7_tellEater_35 (by decide) ?_
        exact x_zret hx hb hr hlocks X hM rfl ⟨(show nI 0 = zb ((xEaterR S (true, 0, t)).1 = true) from by (rw [hit]; first | exact zb_t' rfl | exact zb_f' Bool.false_ne_true)), (show okT X (xshf (xEaterR S (true, 0, t)).2.1) from by (rw [hit]; exact hT))⟩ dX7_tellEater_36
      · refine lv_iload_n hx hb dX7_tellEater_25 rfl (lv_at hl 3 rfl) ?_
        refine lv_iconst (v := nI 1) hx hb dX7_tellEater_26 (by decide) ?_
        refine lv_bipush (v := nI 20) hx hb dX7_tellEater_27 (by decide) ?_
        refine x_calli (bc := []) (br := [wst q ad X]) hM [] [0] rfl rfl rfl (by decide) (x_runSN (As := [.int (nI d), .int (nI 1), .int (nI 20)]) (rest := []) hfix (c_X8_within l D q (nI d) (nI 1) (nI 20) ((d : Nat) : Int) (1 : Int) (20 : Int) (nI_toInt (n := d) (by omega)) (nI_toInt (n := 1) (by decide)) (nI_toInt (n := 20) (by decide))) ⟨va_cnB (host := "LeftAtFive") 3 hts gX7_tellEater_X8_within_n92 rfl rfl rfl (hM.2.2.2.2.2 (RX7, 92, yX8_within) (by decide +kernel)) (hts _ iniX7_tellEater_X8) (by decide +kernel) ⟨Nat.le_of_ble_eq_true rfl, Nat.le_of_ble_eq_true rfl⟩, hts _ staX7_tellEater_X8_within, trivial⟩ hM [] rfl rfl rfl hl.1 rfl (Nat.le_of_ble_eq_true rfl) dX7_tellEater_29 ⟨Nat.le_of_ble_eq_true rfl, Nat.le_of_ble_eq_true rfl⟩) (fun r u H locs hq hM => ?_)
        subst hq
        have hM : xM D (TY q) [wst q ad X] A s.heap s H locs := hM
        refine x_ifz_ne (P := (1 : Int) ≤ ((d : Nat) : Int) ∧ ((d : Nat) : Int) ≤ (20 : Int)) (tgt := 37) hx hb dX7_tellEater_32 (by decide) (fun c4 => ?_) (fun c4 => ?_)
        · have hM : xM D (TY q) [w7 q ad (X 0 0) (X 1 0) (X 2 0) (X 3 0) (X 4 0) (X 5) (X 6) (X 7) (X 8) (X 9) (X 10) (X 11) (X 12) (X 13) (X 14) (X 15)] A s.heap s H locs := hM
          have hit : (xEaterR S (true, 0, t)) = _ := if_pos (by refine ⟨rfl, ?_⟩; dsimp only; omega)
          refine lv_aload_n hx hb dX7_tellEater_37 rfl (lv_at hl 0 rfl) ?_
          refine x_get hx hb hts iwX7_tellEater_X7 hown hM 0 0 rfl rfl rfl 9 (by decide) (hts _ lkX7_tellEater_24) (fun _ h => h) rfl dX7_tellEater_38 ?_
          refine lv_aload_n hx hb dX7_tellEater_41 rfl (lv_at hl 0 rfl) ?_
          refine x_get hx hb hts iwX7_tellEater_X7 hown hM 0 0 rfl rfl rfl 2 (by decide) (hts _ lkX7_tellEater_52) (fun _ h => h) rfl dX7_tellEater_42 ?_
          refine x_cast (y := nI (tn (S 8 1))) (okT_2 hT) ?_
          refine lv_iload_n hx hb dX7_tellEater_45 rfl (lv_at hl 1 rfl) ?_
          refine lv_iload_n hx hb dX7_tellEater_46 rfl (lv_at hl 2 rfl) ?_
          refine x_calli (bc := []) (br := [w7 q ad (X 0 0) (X 1 0) (X 2 0) (X 3 0) (X 4 0) (X 5) (X 6) (X 7) (X 8) (X 9) (X 10) (X 11) (X 12) (X 13) (X 14) (X 15)]) hM [] [0] rfl rfl rfl (by decide) (x_runS (As := [.int (nI a), .int (nI b)]) (rest := [.int (nI (tn (S 8 1))), .ref (ad 10)]) hfix (c_X7_spot l D q a b) (va_cwS 2 hts gX7_tellEater_X7_spot rfl rfl rfl (by decide +kernel) ⟨Nat.le_of_ble_eq_true rfl, Nat.le_of_ble_eq_true rfl⟩) hM [] rfl rfl rfl hl.1 rfl (Nat.le_of_ble_eq_true rfl) dX7_tellEater_47 ⟨Nat.le_of_ble_eq_true rfl, Nat.le_of_ble_eq_true rfl⟩) (fun r u H locs hq hM => ?_)
          subst hq
          have hM : xM D (TY q) [w7 q ad (X 0 0) (X 1 0) (X 2 0) (X 3 0) (X 4 0) (X 5) (X 6) (X 7) (X 8) (X 9) (X 10) (X 11) (X 12) (X 13) (X 14) (X 15)] A s.heap s H locs := hM
          refine x_callv (bc := [w7 q ad (X 0 0) (X 1 0) (X 2 0) (X 3 0) (X 4 0) (X 5) (X 6) (X 7) (X 8) (X 9) (X 10) (X 11) (X 12) (X 13) (X 14) (X 15)]) (br := []) hM [0] [] rfl rfl rfl (by decide) (x_runS (As := [.ref (ad 10), .int (nI (tn (S 8 1))), .int (nI (5 * a + b))]) (rest := []) hfix (c_X5_put l D q (w7 q ad (X 0 0) (X 1 0) (X 2 0) (X 3 0) (X 4 0) (X 5) (X 6) (X 7) (X 8) (X 9) (X 10) (X 11) (X 12) (X 13) (X 14) (X 15)) 5 (ad 10) 8 (X 9) (tn (S 8 1)) (nI (5 * a + b)) rfl (by decide) (by omega)) (va_cwS 3 hts gX7_tellEater_X5_put rfl rfl rfl (by decide +kernel) ⟨Nat.le_of_ble_eq_true rfl, Nat.le_of_ble_eq_true rfl⟩) hM [0] rfl rfl rfl hl.1 rfl (Nat.le_of_ble_eq_true rfl) dX7_tellEater_50 ⟨Nat.le_of_ble_eq_true rfl, Nat.le_of_ble_eq_true rfl⟩) (fun u H locs hq hM => ?_)
          have hM : xM D (TY q) [w7 q ad (X 0 0) (X 1 0) (X 2 0) (X 3 0) (X 4 0) (X 5) (X 6) (X 7) (X 8) (upd (X 9) (tn (S 8 1)) (nI (5 * a + b))) (X 10) (X 11) (X 12) (X 13) (X 14) (X 15)] A s.heap s H locs := hM
          refine lv_aload_n hx hb dX7_tellEater_53 rfl (lv_at hl 0 rfl) ?_
          refine x_get hx hb hts iwX7_tellEater_X7 hown hM 0 0 rfl rfl rfl 10 (by decide) (hts _ lkX7_tellEater_27) (fun _ h => h) rfl dX7_tellEater_54 ?_
          refine lv_aload_n hx hb dX7_tellEater_57 rfl (lv_at hl 0 rfl) ?_
          refine x_get hx hb hts iwX7_tellEater_X7 hown hM 0 0 rfl rfl rfl 2 (by decide) (hts _ lkX7_tellEater_52) (fun _ h => h) rfl dX7_tellEater_58 ?_
          refine x_cast (y := nI (tn (S 8 1))) (okT_2 hT) ?_
          refine lv_iload_n hx hb dX7_tellEater_61 rfl (lv_at hl 3 rfl) ?_
          refine x_callv (bc := [w7 q ad (X 0 0) (X 1 0) (X 2 0) (X 3 0) (X 4 0) (X 5) (X 6) (X 7) (X 8) (upd (X 9) (tn (S 8 1)) (nI (5 * a + b))) (X 10) (X 11) (X 12) (X 13) (X 14) (X 15)]) (br := []) hM [0] [] rfl rfl rfl (by decide) (x_runS (As := [.ref (ad 11), .int (nI (tn (S 8 1))), .int (nI d)]) (rest := []) hfix (c_X5_put l D q (w7 q ad (X 0 0) (X 1 0) (X 2 0) (X 3 0) (X 4 0) (X 5) (X 6) (X 7) (X 8) (upd (X 9) (tn (S 8 1)) (nI (5 * a + b))) (X 10) (X 11) (X 12) (X 13) (X 14) (X 15)) 6 (ad 11) 8 (X 10) (tn (S 8 1)) (nI d) rfl (by decide) (by omega)) (va_cwS 3 hts gX7_tellEater_X5_put rfl rfl rfl (by decide +kernel) ⟨Nat.le_of_ble_eq_true rfl, Nat.le_of_ble_eq_true rfl⟩) hM [0] rfl rfl rfl hl.1 rfl (Nat.le_of_ble_eq_true rfl) dX7_tellEater_62 ⟨Nat.le_of_ble_eq_true rfl, Nat.le_of_ble_eq_true rfl⟩) (fun u H locs hq hM => ?_)
          have hM : xM D (TY q) [w7 q ad (X 0 0) (X 1 0) (X 2 0) (X 3 0) (X 4 0) (X 5) (X 6) (X 7) (X 8) (upd (X 9) (tn (S 8 1)) (nI (5 * a + b))) (upd (X 10) (tn (S 8 1)) (nI d)) (X 11) (X 12) (X 13) (X 14) (X 15)] A s.heap s H locs := hM
          refine lv_aload_n hx hb dX7_tellEater_65 rfl (lv_at hl 0 rfl) ?_
          refine lv_dup hx hb dX7_tellEater_66 rfl ?_
          refine x_get hx hb hts iwX7_tellEater_X7 hown hM 0 0 rfl rfl rfl 2 (by decide) (hts _ lkX7_tellEater_52) (fun _ h => h) rfl dX7_tellEater_67 ?_
          refine x_cast (y := nI (tn (S 8 1))) (okT_2 hT) ?_
          refine lv_iconst (v := nI 1) hx hb dX7_tellEater_70 (by decide) ?_
          refine x_iadd (x := tn (S 8 1)) (y := 1) hx hb dX7_tellEater_71 ?_
          refine x_put hx hb hts iwX7_tellEater_X7 tyX7 tyX7_ok nmX7 hown hM 0 0 rfl rfl rfl 2 (by decide) (hts _ lkX7_tellEater_52) (fun _ h => h) rfl (ty := .int) (by decide +kernel) rfl rfl (Nat.le_of_ble_eq_true rfl) [w7 q ad (X 0 0) (X 1 0) (nI (tn (S 8 1) + 1)) (X 3 0) (X 4 0) (X 5) (X 6) (X 7) (X 8) (upd (X 9) (tn (S 8 1)) (nI (5 * a + b))) (upd (X 10) (tn (S 8 1)) (nI d)) (X 11) (X 12) (X 13) (X 14) (X 15)] rfl dX7_tellEater_72 (fun H locs hM => ?_)
          refine lv_iconst (v := nI 1) hx hb dX7_tellEater_75 (by decide) ?_
          have hM : xM D (TY q) [wst q ad (xT (X 0 0) (X 1 0) (nI (tn (S 8 1) + 1)) (X 3 0) (X 4 0) (X 5) (X 6) (X 7) (X 8) (upd (X 9) (tn (S 8 1)) (nI (5 * a + b))) (upd (X 10) (tn (S 8 1)) (nI d)) (X 11) (X 12) (X 13) (X 14) (X 15))] A s.heap s H locs := hM
          have e5 : ((xT (X 0 0) (X 1 0) (nI (tn (S 8 1) + 1)) (X 3 0) (X 4 0) (X 5) (X 6) (X 7) (X 8) (upd (X 9) (tn (S 8 1)) (nI (5 * a + b))) (upd (X 10) (tn (S 8 1)) (nI d)) (X 11) (X 12) (X 13) (X 14) (X 15)) : Nat → Nat → Int32) = ((xT (X 0 0) (X 1 0) (nI (tn (S 8 1) + 1)) (X 3 0) (X 4 0) (X 5) (X 6) (X 7) (X 8) (upd (X 9) (tn (S 8 1)) (nI (5 * a + b))) (upd (X 10) (tn (S 8 1)) (nI d)) (X 11) (X 12) (X 13) (X 14) (X 15))) := by rfl
          have hM : xM D (TY q) [wst q ad (xT (X 0 0) (X 1 0) (nI (tn (S 8 1) + 1)) (X 3 0) (X 4 0) (X 5) (X 6) (X 7) (X 8) (upd (X 9) (tn (S 8 1)) (nI (5 * a + b))) (upd (X 10) (tn (S 8 1)) (nI d)) (X 11) (X 12) (X 13) (X 14) (X 15))] A s.heap s H locs := Eq.mp (congrArg (fun z9 => xM D (TY q) [wst q ad z9] A s.heap s H locs) e5) hM
          exact x_zret hx hb hr hlocks (xT (X 0 0) (X 1 0) (nI (tn (S 8 1) + 1)) (X 3 0) (X 4 0) (X 5) (X 6) (X 7) (X 8) (upd (X 9) (tn (S 8 1)) (nI (5 * a + b))) (upd (X 10) (tn (S 8 1)) (nI d)) (X 11) (X 12) (X 13) (X 14) (X 15)) hM rfl ⟨(show nI 1 = zb ((xEaterR S (true, 0, t)).1 = true) from by (rw [hit]; first | exact zb_t' rfl | exact zb_f' Bool.false_ne_true)), (show okT (xT (X 0 0) (X 1 0) (nI (tn (S 8 1) + 1)) (X 3 0) (X 4 0) (X 5) (X 6) (X 7) (X 8) (upd (X 9) (tn (S 8 1)) (nI (5 * a + b))) (upd (X 10) (tn (S 8 1)) (nI d)) (X 11) (X 12) (X 13) (X 14) (X 15)) (xshf (xEaterR S (true, 0, t)).2.1) from by (rw [hit]; exact okT_eater hT (by omega) ha0 hb0 hd0 (by omega) (by omega) (by omega)))⟩ dX7_tellEater_76
        · have hit : (xEaterR S (true, 0, t)) = (false, S, 0, t) := if_neg (by intro z; have z2 := z.2; dsimp only at z2; omega)
          refine lv_iconst (v := nI 0) hx hb dX7_tellEater_35 (by decide) ?_
          exact x_zret hx hb hr hlocks X hM rfl ⟨(show nI 0 = zb ((xEaterR S (true, 0, t)).1 = true) from by (rw [hit]; first | exact zb_t' rfl | exact zb_f' Bool.false_ne_true)), (show okT X (xshf (xEaterR S (true, 0, t)).2.1) from by (rw [hit]; exact hT))⟩ dX7_tellEater_36
