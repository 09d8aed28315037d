set_option maxRecDepth 20000 in
theorem ggX7_tellRecipe_X7_isGood : GoodIn wsX7_tellRecipe wsX7_isGood := goodIn_r _ [9, 10, 11, 12, 13, 18, 19, 20, 21, 22, 23, 24, 25, 26, 27, 28, 29, 30, 31, 32, 33] (by decide +kernel) (by decide +kernel)
set_option maxRecDepth 20000 in
theorem gX7_tellRecipe_X7_isGood : GoodIn wsX7_tellRecipe (wsV RX7 102 RX7 yX7_isGood wsX7_isGood) := goodIn_app (goodIn_of _ (by decide +kernel)) ggX7_tellRecipe_X7_isGood
set_option maxRecDepth 20000 in
theorem ggX7_tellRecipe_X8_within : GoodIn wsX7_tellRecipe wsX8_within := goodIn_r _ [13] (by decide +kernel) (by decide +kernel)
set_option maxRecDepth 20000 in
theorem gX7_tellRecipe_X8_within_n92 : GoodIn wsX7_tellRecipe (wsX8_within) := ggX7_tellRecipe_X8_within
set_option maxRecDepth 20000 in
theorem ggX7_tellRecipe_X5_put : GoodIn wsX7_tellRecipe wsX5_put := goodIn_r _ [17] (by decide +kernel) (by decide +kernel)
set_option maxRecDepth 20000 in
theorem gX7_tellRecipe_X5_put : GoodIn wsX7_tellRecipe (va_wsS RX7 95 yX5_put wsX5_put) := goodIn_app (goodIn_of _ (by decide +kernel)) ggX7_tellRecipe_X5_put
theorem dX7_tellRecipe_0 : decode cX7_tellRecipe 0 = .ok (.aload_n 0, 1) := by decide +kernel
theorem dX7_tellRecipe_1 : decode cX7_tellRecipe 1 = .ok (.getfield 58, 3) := by decide +kernel
theorem dX7_tellRecipe_4 : decode cX7_tellRecipe 4 = .ok (.iconst 3, 1) := by decide +kernel
theorem dX7_tellRecipe_5 : decode cX7_tellRecipe 5 = .ok (.if_icmp .ge 29, 3) := by decide +kernel
theorem dX7_tellRecipe_8 : decode cX7_tellRecipe 8 = .ok (.aload_n 0, 1) := by decide +kernel
theorem dX7_tellRecipe_9 : decode cX7_tellRecipe 9 = .ok (.iload_n 1, 1) := by decide +kernel
theorem dX7_tellRecipe_10 : decode cX7_tellRecipe 10 = .ok (.invokevirtual 102, 3) := by decide +kernel
theorem dX7_tellRecipe_13 : decode cX7_tellRecipe 13 = .ok (.ifCond .eq 21, 3) := by decide +kernel
theorem dX7_tellRecipe_16 : decode cX7_tellRecipe 16 = .ok (.aload_n 0, 1) := by decide +kernel
theorem dX7_tellRecipe_17 : decode cX7_tellRecipe 17 = .ok (.iload_n 2, 1) := by decide +kernel
theorem dX7_tellRecipe_18 : decode cX7_tellRecipe 18 = .ok (.invokevirtual 102, 3) := by decide +kernel
theorem dX7_tellRecipe_21 : decode cX7_tellRecipe 21 = .ok (.ifCond .eq 13, 3) := by decide +kernel
theorem dX7_tellRecipe_24 : decode cX7_tellRecipe 24 = .ok (.iload_n 3, 1) := by decide +kernel
theorem dX7_tellRecipe_25 : decode cX7_tellRecipe 25 = .ok (.iconst 1, 1) := by decide +kernel
theorem dX7_tellRecipe_26 : decode cX7_tellRecipe 26 = .ok (.bipush 9, 2) := by decide +kernel
theorem dX7_tellRecipe_28 : decode cX7_tellRecipe 28 = .ok (.invokestatic 92, 3) := by decide +kernel
theorem dX7_tellRecipe_31 : decode cX7_tellRecipe 31 = .ok (.ifCond .ne 5, 3) := by decide +kernel
theorem dX7_tellRecipe_34 : decode cX7_tellRecipe 34 = .ok (.iconst 0, 1) := by decide +kernel
theorem dX7_tellRecipe_35 : decode cX7_tellRecipe 35 = .ok (.ireturn, 1) := by decide +kernel
theorem dX7_tellRecipe_36 : decode cX7_tellRecipe 36 = .ok (.aload_n 0, 1) := by decide +kernel
theorem dX7_tellRecipe_37 : decode cX7_tellRecipe 37 = .ok (.getfield 36, 3) := by decide +kernel
theorem dX7_tellRecipe_40 : decode cX7_tellRecipe 40 = .ok (.aload_n 0, 1) := by decide +kernel
theorem dX7_tellRecipe_41 : decode cX7_tellRecipe 41 = .ok (.getfield 58, 3) := by decide +kernel
theorem dX7_tellRecipe_44 : decode cX7_tellRecipe 44 = .ok (.iload_n 1, 1) := by decide +kernel
theorem dX7_tellRecipe_45 : decode cX7_tellRecipe 45 = .ok (.invokestatic 95, 3) := by decide +kernel
theorem dX7_tellRecipe_48 : decode cX7_tellRecipe 48 = .ok (.aload_n 0, 1) := by decide +kernel
theorem dX7_tellRecipe_49 : decode cX7_tellRecipe 49 = .ok (.getfield 39, 3) := by decide +kernel
theorem dX7_tellRecipe_52 : decode cX7_tellRecipe 52 = .ok (.aload_n 0, 1) := by decide +kernel
theorem dX7_tellRecipe_53 : decode cX7_tellRecipe 53 = .ok (.getfield 58, 3) := by decide +kernel
theorem dX7_tellRecipe_56 : decode cX7_tellRecipe 56 = .ok (.iload_n 2, 1) := by decide +kernel
theorem dX7_tellRecipe_57 : decode cX7_tellRecipe 57 = .ok (.invokestatic 95, 3) := by decide +kernel
theorem dX7_tellRecipe_60 : decode cX7_tellRecipe 60 = .ok (.aload_n 0, 1) := by decide +kernel
theorem dX7_tellRecipe_61 : decode cX7_tellRecipe 61 = .ok (.getfield 42, 3) := by decide +kernel
theorem dX7_tellRecipe_64 : decode cX7_tellRecipe 64 = .ok (.aload_n 0, 1) := by decide +kernel
theorem dX7_tellRecipe_65 : decode cX7_tellRecipe 65 = .ok (.getfield 58, 3) := by decide +kernel
theorem dX7_tellRecipe_68 : decode cX7_tellRecipe 68 = .ok (.iload_n 3, 1) := by decide +kernel
theorem dX7_tellRecipe_69 : decode cX7_tellRecipe 69 = .ok (.invokestatic 95, 3) := by decide +kernel
theorem dX7_tellRecipe_72 : decode cX7_tellRecipe 72 = .ok (.aload_n 0, 1) := by decide +kernel
theorem dX7_tellRecipe_73 : decode cX7_tellRecipe 73 = .ok (.dup, 1) := by decide +kernel
theorem dX7_tellRecipe_74 : decode cX7_tellRecipe 74 = .ok (.getfield 58, 3) := by decide +kernel
theorem dX7_tellRecipe_77 : decode cX7_tellRecipe 77 = .ok (.iconst 1, 1) := by decide +kernel
theorem dX7_tellRecipe_78 : decode cX7_tellRecipe 78 = .ok (.iadd, 1) := by decide +kernel
theorem dX7_tellRecipe_79 : decode cX7_tellRecipe 79 = .ok (.putfield 58, 3) := by decide +kernel
theorem dX7_tellRecipe_82 : decode cX7_tellRecipe 82 = .ok (.iconst 1, 1) := by decide +kernel
theorem dX7_tellRecipe_83 : decode cX7_tellRecipe 83 = .ok (.ireturn, 1) := by decide +kernel
theorem lkX7_tellRecipe_36 : Cond.fieldLink RX7 36 "LeftAtFive$Street" "one" "[I" ∈ wsX7_tellRecipe := by decide +kernel
theorem lkX7_tellRecipe_39 : Cond.fieldLink RX7 39 "LeftAtFive$Street" "other" "[I" ∈ wsX7_tellRecipe := by decide +kernel
theorem lkX7_tellRecipe_42 : Cond.fieldLink RX7 42 "LeftAtFive$Street" "price" "[I" ∈ wsX7_tellRecipe := by decide +kernel
theorem lkX7_tellRecipe_58 : Cond.fieldLink RX7 58 "LeftAtFive$Street" "recipes" "I" ∈ wsX7_tellRecipe := by decide +kernel
theorem iniX7_tellRecipe_X8 : Cond.initialized RX8 ∈ wsX7_tellRecipe := by decide +kernel
theorem staX7_tellRecipe_X8_within : Cond.static yX8_within ∈ wsX7_tellRecipe := by decide +kernel
theorem iwX7_tellRecipe_X7 : ∀ w ∈ wsX70, w ∈ wsX7_tellRecipe := by decide +kernel
set_option maxHeartbeats 2000000 in
set_option maxRecDepth 100000 in
theorem c_X7_tellRecipe (l : Launch) (D : va_G) (q : Nat → ClassId) (ad : Nat → Nat) (X : Nat → Nat → Int32) (S : Nat → Nat → Int32) (t : Nat → Int32) (a : Nat) (b : Nat) (d : Nat) (hT : okT X (xshf S)) (ha0 : tn (t 0) = a) (ha9 : a ≤ 99) (hb0 : tn (t 1) = b) (hb9 : b ≤ 99) (hd0 : tn (t 2) = d) (hd9 : d ≤ 99) : xC l yX7_tellRecipe wsX7_tellRecipe ({ frames := 2, cells := 0, slots := 0, locals := 43 }) D (TY q) [wst q ad X] [.ref (ad 0), .int (nI a), .int (nI b), .int (nI d)] (xQi D (TY q) (fun (r : Int32) (u : (Nat → Nat → Int32)) => r = zb ((xRecR S (true, 0, t)).1 = true) ∧ okT u (xshf (xRecR S (true, 0, t)).2.1)) (fun (u : (Nat → Nat → Int32)) => [wst q ad u])) 0 0 := by
  refine x_enter (cc := cX7_tellRecipe) (maxL := 4) (ret := (some .boolean)) (by decide) rfl (Nat.le_of_ble_eq_true rfl) ?_
  intro p e s m below meth c A ls H locs hfix hr hlocks hinit hM hl
  obtain ⟨hx, hb, hml, hown, hts⟩ := id hfix
  have hl : lv_has ls 4 [(0, .ref (ad 0)), (1, .int (nI a)), (2, .int (nI b)), (3, .int (nI d))] := hl
  have q2 : tn (xshf S 2 0) = tn (S 2 1) := rfl
  have q5 : tn (xshf S 5 0) = tn (S 5 1) := rfl
  have q8 : tn (xshf S 8 0) = tn (S 8 1) := rfl
  have q12 : tn (xshf S 12 0) = tn (S 12 1) := rfl
  have q15 : tn (xshf S 15 0) = tn (S 15 1) := rfl
  have hT0b := okT_0b hT
  have hT1b := okT_1b hT
  have hT2b := okT_2b hT
  have hT3b := okT_3b hT
  have hT4b := okT_4b hT
  refine lv_aload_n hx hb dX7_tellRecipe_0 rfl (lv_at hl 0 rfl) ?_
  refine x_get hx hb hts iwX7_tellRecipe_X7 hown hM 0 0 rfl rfl rfl 4 (by decide) (hts _ lkX7_tellRecipe_58) (fun _ h => h) rfl dX7_tellRecipe_1 ?_
  refine x_cast (y := nI (tn (S 15 1))) (okT_4 hT) ?_
  refine lv_iconst (v := nI 3) hx hb dX7_tellRecipe_4 (by decide) ?_
  refine x_icmp_ge (x := tn (S 15 1)) (y := 3) (tgt := 34) hx hb (by omega) (by omega) dX7_tellRecipe_5 (by decide) (fun c1 => ?_) (fun c1 => ?_)
  · have hit : (xRecR S (true, 0, t)) = (false, S, 0, t) := if_neg (by intro z; have z2 := z.2; dsimp only at z2; omega)
    refine lv_iconst (v := nI 0) hx hb dX7_tellRecipe_34 (by decide) ?_
    exact x_zret hx hb hr hlocks X hM rfl ⟨(show nI 0 = zb ((xRecR S (true, 0, t)).1 = true) from by (rw [hit]; first | exact zb_t' rfl | exact zb_f' Bool.false_ne_true)), (show okT X (xshf (xRecR S (true, 0, t)).2.1) from by (rw [hit]; exact hT))⟩ dX7_tellRecipe_35
  · refine lv_aload_n hx hb dX7_tellRecipe_8 rfl (lv_at hl 0 rfl) ?_
    refine lv_iload_n hx hb dX7_tellRecipe_9 rfl (lv_at hl 1 rfl) ?_
    refine x_calli (bc := [wst q ad X]) (br := []) hM [0] [] rfl rfl rfl (by decide) (x_runV (As := [.int (nI a)]) (rest := []) hfix (c_X7_isGood l D q ad X (xshf S) (nI a) ((a : Nat) : Int) hT (nI_toInt (n := a) (by omega))) (cwV 1 hts gX7_tellRecipe_X7_isGood rfl rfl rfl (by decide +kernel) ⟨Nat.le_of_ble_eq_true rfl, Nat.le_of_ble_eq_true rfl⟩) hM [0] rfl rfl 0 0 rfl rfl rfl rfl rfl hl.1 rfl (Nat.le_of_ble_eq_true rfl) dX7_tellRecipe_10 ⟨Nat.le_of_ble_eq_true rfl, Nat.le_of_ble_eq_true rfl⟩) (fun r u H locs hq hM => ?_)
    subst hq
    have hM : xM D (TY q) [wst q ad X] A s.heap s H locs := hM
    refine x_ifz_eq (P := 0 ≤ ((a : Nat) : Int) ∧ ((a : Nat) : Int) < (tn ((xshf S) 2 0))) (tgt := 34) hx hb dX7_tellRecipe_13 (by decide) (fun c2 => ?_) (fun c2 => ?_)
    · have hit : (xRecR S (true, 0, t)) = (false, S, 0, t) := if_neg (by intro z; have z2 := z.2; dsimp only at z2; omega)
      refine lv_iconst (v := nI 0) hx hb dX7_tellRecipe_34 (by decide) ?_
      exact x_zret hx hb hr hlocks X hM rfl ⟨(show nI 0 = zb ((xRecR S (true, 0, t)).1 = true) from by (rw [hit]; first | exact zb_t' rfl | exact zb_f' Bool.false_ne_true)), (show okT X (xshf (xRecR S (true, 0, t)).2.1) from by (rw [hit]; exact hT))⟩ dX7_tellRecipe_35
    · refine lv_aload_n hx hb dX7_tellRecipe_16 rfl (lv_at hl 0 rfl) ?_
      refine lv_iload_n hx hb dX7_tellRecipe_17 rfl (lv_at hl 2 rfl) ?_
      refine x_calli (bc := [wst q ad X]) (br := []) hM [0] [] rfl rfl rfl (by decide) (x_runV (As := [.int (nI b)]) (rest := []) hfix (c_X7_isGood l D q ad X (xshf S) (nI b) ((b : Nat) : Int) hT (nI_toInt (n := b) (by omega))) (cwV 1 hts gX7_tellRecipe_X7_isGood rfl rfl rfl (by decide +kernel) ⟨Nat.le_of_ble_eq_true rfl, Nat.le_of_ble_eq_true rfl⟩) hM [0] rfl rfl 0 0 rfl rfl rfl rfl rfl hl.1 rfl (Nat.le_of_ble_eq_true rfl) dX7_tellRecipe_18 ⟨Nat.le_of_ble_eq_true rfl, Nat.le_of_ble_eq_true rfl⟩) (fun r u H locs hq hM => ?_)
      subst hq
      have hM : xM D (TY q) [wst q ad X] A s.heap s H locs := hM
      refine x_ifz_eq (P := 0 ≤ ((b : Nat) : Int) ∧ ((b : Nat) : Int) < (tn ((xshf S) 2 0))) (tgt := 34) hx hb dX7_tellRecipe_21 (by decide) (fun c3 => ?_) (fun c3 => ?_)
      · have hit : (xRecR S (true, 0, t)) = (false, S, 0, t) := if_neg (by intro z; have z2 := z.2; dsimp only at z2; omega)
        refine lv_iconst (v := nI 0) hx hb dX7_tellRecipe_34 (by decide) ?_
        exact x_zret hx hb hr hlocks X hM rfl ⟨(show nI 0 = zb ((xRecR S (true, 0, t)).1 = true) from by (rw [hit]; first | exact zb_t' rfl | exact zb_f' Bool.false_ne_true)), (show okT X (xshf (xRecR S (true, 0, t)).2.1) from by (rw [hit]; exact hT))⟩ dX7_tellRecipe_35
      · refine lv_iload_n hx hb dX7_tellRecipe_24 rfl (lv_at hl 3 rfl) ?_
        refine lv_iconst (v := nI 1) hx hb dX7_tellRecipe_25 (by decide) ?_
        refine lv_bipush (v := nI 9) hx hb dX7_tellRecipe_26 (by decide) ?_
        refine x_calli (bc := []) (br := [wst q ad X]) hM [] [0] rfl rfl rfl (by decide) (x_runSN (As := [.int (nI d), .int (nI 1), .int (nI 9)]) (rest := []) hfix (c_X8_within l D q (nI d) (nI 1) (nI 9) ((d : Nat) : Int) (1 : Int) (9 : Int) (nI_toInt (n := d) (by omega)) (nI_toInt (n := 1) (by decide)) (nI_toInt (n := 9) (by decide))) ⟨va_cnB (host := "LeftAtFive") 3 hts gX7_tellRecipe_X8_within_n92 rfl rfl rfl (hM.2.2.2.2.2 (RX7, 92, yX8_within) (by decide +kernel)) (hts _ iniX7_tellRecipe_X8) (by decide +kernel) ⟨Nat.le_of_ble_eq_true rfl, Nat.le_of_ble_eq_true rfl⟩, hts _ staX7_tellRecipe_X8_within, trivial⟩ hM [] rfl rfl rfl hl.1 rfl (Nat.le_of_ble_eq_true rfl) dX7_tellRecipe_28 ⟨Nat.le_of_ble_eq_true rfl, Nat.le_of_ble_eq_true rfl⟩) (fun r u H locs hq hM => ?_)
        subst hq
        have hM : xM D (TY q) [wst q ad X] A s.heap s H locs := hM
        refine x_ifz_ne (P := (1 : Int) ≤ ((d : Nat) : Int) ∧ ((d : Nat) : Int) ≤ (9 : Int)) (tgt := 36) hx hb dX7_tellRecipe_31 (by decide) (fun c4 => ?_) (fun c4 => ?_)
        · have hM : xM D (TY q) [w7 q ad (X 0 0) (X 1 0) (X 2 0) (X 3 0) (X 4 0) (X 5) (X 6) (X 7) (X 8) (X 9) (X 10) (X 11) (X 12) (X 13) (X 14) (X 15)] A s.heap s H locs := hM
          have hit : (xRecR S (true, 0, t)) = _ := if_pos (by refine ⟨rfl, ?_⟩; dsimp only; omega)
          refine lv_aload_n hx hb dX7_tellRecipe_36 rfl (lv_at hl 0 rfl) ?_
          refine x_get hx hb hts iwX7_tellRecipe_X7 hown hM 0 0 rfl rfl rfl 13 (by decide) (hts _ lkX7_tellRecipe_36) (fun _ h => h) rfl dX7_tellRecipe_37 ?_
          refine lv_aload_n hx hb dX7_tellRecipe_40 rfl (lv_at hl 0 rfl) ?_
          refine x_get hx hb hts iwX7_tellRecipe_X7 hown hM 0 0 rfl rfl rfl 4 (by decide) (hts _ lkX7_tellRecipe_58) (fun _ h => h) rfl dX7_tellRecipe_41 ?_
          refine x_cast (y := nI (tn (S 15 1))) (okT_4 hT) ?_
          refine lv_iload_n hx hb dX7_tellRecipe_44 rfl (lv_at hl 1 rfl) ?_
          refine x_callv (bc := [w7 q ad (X 0 0) (X 1 0) (X 2 0) (X 3 0) (X 4 0) (X 5) (X 6) (X 7) (X 8) (X 9) (X 10) (X 11) (X 12) (X 13) (X 14) (X 15)]) (br := []) hM [0] [] rfl rfl rfl (by decide) (x_runS (As := [.ref (ad 14), .int (nI (tn (S 15 1))), .int (nI a)]) (rest := []) hfix (c_X5_put l D q (w7 q ad (X 0 0) (X 1 0) (X 2 0) (X 3 0) (X 4 0) (X 5) (X 6) (X 7) (X 8) (X 9) (X 10) (X 11) (X 12) (X 13) (X 14) (X 15)) 9 (ad 14) 3 (X 13) (tn (S 15 1)) (nI a) rfl (by decide) (by omega)) (va_cwS 3 hts gX7_tellRecipe_X5_put rfl rfl rfl (by decide +kernel) ⟨Nat.le_of_ble_eq_true rfl, Nat.le_of_ble_eq_true rfl⟩) hM [0] rfl rfl rfl hl.1 rfl (Nat.le_of_ble_eq_true rfl) dX7_tellRecipe_45 ⟨Nat.le_of_ble_eq_true rfl, Nat.le_of_ble_eq_true rfl⟩) (fun u H locs hq hM => ?_)
          have hM : xM D (TY q) [w7 q ad (X 0 0) (X 1 0) (X 2 0) (X 3 0) (X 4 0) (X 5) (X 6) (X 7) (X 8) (X 9) (X 10) (X 11) (X 12) (upd (X 13) (tn (S 15 1)) (nI a)) (X 14) (X 15)] A s.heap s H locs := hM
          refine lv_aload_n hx hb dX7_tellRecipe_48 rfl (lv_at hl 0 rfl) ?_
          refine x_get hx hb hts iwX7_tellRecipe_X7 hown hM 0 0 rfl rfl rfl 14 (by decide) (hts _ lkX7_tellRecipe_39) (fun _ h => h) rfl dX7_tellRecipe_49 ?_
          refine lv_aload_n hx hb dX7_tellRecipe_52 rfl (lv_at hl 0 rfl) ?_
          refine x_get hx hb hts iwX7_tellRecipe_X7 hown hM 0 0 rfl rfl rfl 4 (by decide) (hts _ lkX7_tellRecipe_58) (fun _ h => h) rfl dX7_tellRecipe_53 ?_
          refine x_cast (y := nI (tn (S 15 1))) (okT_4 hT) ?_
          refine lv_iload_n hx hb dX7_tellRecipe_56 rfl (lv_at hl 2 rfl) ?_
          refine x_callv (bc := [w7 q ad (X 0 0) (X 1 0) (X 2 0) (X 3 0) (X 4 0) (X 5) (X 6) (X 7) (X 8) (X 9) (X 10) (X 11) (X 12) (upd (X 13) (tn (S 15 1)) (nI a)) (X 14) (X 15)]) (br := []) hM [0] [] rfl rfl rfl (by decide) (x_runS (As := [.ref (ad 15), .int (nI (tn (S 15 1))), .int (nI b)]) (rest := []) hfix (c_X5_put l D q (w7 q ad (X 0 0) (X 1 0) (X 2 0) (X 3 0) (X 4 0) (X 5) (X 6) (X 7) (X 8) (X 9) (X 10) (X 11) (X 12) (upd (X 13) (tn (S 15 1)) (nI a)) (X 14) (X 15)) 10 (ad 15) 3 (X 14) (tn (S 15 1)) (nI b) rfl (by decide) (by omega)) (va_cwS 3 hts gX7_tellRecipe_X5_put rfl rfl rfl (by decide +kernel) ⟨Nat.le_of_ble_eq_true rfl, Nat.le_of_ble_eq_true rfl⟩) hM [0] rfl rfl rfl hl.1 rfl (Nat.le_of_ble_eq_true rfl) dX7_tellRecipe_57 ⟨Nat.le_of_ble_eq_true rfl, Nat.le_of_ble_eq_true rfl⟩) (fun u H locs hq hM => ?_)
          have hM : xM D (TY q) [w7 q ad (X 0 0) (X 1 0) (X 2 0) (X 3 0) (X 4 0) (X 5) (X 6) (X 7) (X 8) (X 9) (X 10) (X 11) (X 12) (upd (X 13) (tn (S 15 1)) (nI a)) (upd (X 14) (tn (S 15 1)) (nI b)) (X 15)] A s.heap s H locs := hM
          refine lv_aload_n hx hb dX7_tellRecipe_60 rfl (lv_at hl 0 rfl) ?_
          refine x_get hx hb hts iwX7_tellRecipe_X7 hown hM 0 0 rfl rfl rfl 15 (by decide) (hts _ lkX7_tellRecipe_42) (fun _ h => h) rfl dX7_tellRecipe_61 ?_
          refine lv_aload_n hx hb dX7_tellRecipe_64 rfl (lv_at hl 0 rfl) ?_
          refine x_get hx hb hts iwX7_tellRecipe_X7 hown hM 0 0 rfl rfl rfl 4 (by decide) (hts _ lkX7_tellRecipe_58) (fun _ h => h) rfl dX7_tellRecipe_65 ?_
          refine x_cast (y := nI (tn (S 15 1))) (okT_4 hT) ?_
          refine lv_iload_n hx hb dX7_tellRecipe_68 rfl (lv_at hl 3 rfl) ?_
          refine x_callv (bc := [w7 q ad (X 0 0) (X 1 0) (X 2 0) (X 3 0) (X 4 0) (X 5) (X 6) (X 7) (X 8) (X 9) (X 10) (X 11) (X 12) (upd (X 13) (tn (S 15 1)) (nI a)) (upd (X 14) (tn (S 15 1)) (nI b)) (X 15)]) (br := []) hM [0] [] rfl rfl rfl (by decide) (x_runS (As := [.ref (ad 16), .int (nI (tn (S 15 1))), .int (nI d)]) (rest := []) hfix (c_X5_put l D q (w7 q ad (X 0 0) (X 1 0) (X 2 0) (X 3 0) (X 4 0) (X 5) (X 6) (X 7) (X 8) (X 9) (X 10) (X 11) (X 12) (upd (X 13) (tn (S 15 1)) (nI a)) (upd (X 14) (tn (S 15 1)) (nI b)) (X 15)) 11 (ad 16) 3 (X 15) (tn (S 15 1)) (nI d) rfl (by decide) (by omega)) (va_cwS 3 hts gX7_tellRecipe_X5_put rfl rfl rfl (by decide +kernel) ⟨Nat.le_of_ble_eq_true rfl, Nat.le_of_ble_eq_true rfl⟩) hM [0] rfl rfl rfl hl.1 rfl (Nat.le_of_ble_eq_true rfl) dX7_tellRecipe_69 ⟨Nat.le_of_ble_eq_true rfl, Nat.le_of_ble_eq_true rfl⟩) (fun u H locs hq hM => ?_)
          have hM : xM D (TY q) [w7 q ad (X 0 0) (X 1 0) (X 2 0) (X 3 0) (X 4 0) (X 5) (X 6) (X 7) (X 8) (X 9) (X 10) (X 11) (X 12) (upd (X 13) (tn (S 15 1)) (nI a)) (upd (X 14) (tn (S 15 1)) (nI b)) (upd (X 15) (tn (S 15 1)) (nI d))] A s.heap s H locs := hM
          refine lv_aload_n hx hb dX7_tellRecipe_72 rfl (lv_at hl 0 rfl) ?_
          refine lv_dup hx hb dX7_tellRecipe_73 rfl ?_
          refine x_get hx hb hts iwX7_tellRecipe_X7 hown hM 0 0 rfl rfl rfl 4 (by decide) (hts _ lkX7_tellRecipe_58) (fun _ h => h) rfl dX7_tellRecipe_74 ?_
          refine x_cast (y := nI (tn (S 15 1))) (okT_4 hT) ?_
          refine lv_iconst (v := nI 1) hx hb dX7_tellRecipe_77 (by decide) ?_
          refine x_iadd (x := tn (S 15 1)) (y := 1) hx hb dX7_tellRecipe_78 ?_
          refine x_put hx hb hts iwX7_tellRecipe_X7 tyX7 tyX7_ok nmX7 hown hM 0 0 rfl rfl rfl 4 (by decide) (hts _ lkX7_tellRecipe_58) (fun _ h => h) rfl (ty := .int) (by decide +kernel) rfl rfl (Nat.le_of_ble_eq_true rfl) [w7 q ad (X 0 0) (X 1 0) (X 2 0) (X 3 0) (nI (tn (S 15 1) + 1)) (X 5) (X 6) (X 7) (X 8) (X 9) (X 10) (X 11) (X 12) (upd (X 13) (tn (S 15 1)) (nI a)) (upd (X 14) (tn (S 15 1)) (nI b)) (upd (X 15) (tn (S 15 1)) (nI d))] rfl dX7_tellRecipe_79 (fun H locs hM => ?_)
          refine lv_iconst (v := nI 1) hx hb dX7_tellRecipe_82 (by decide) ?_
          have hM : xM D (TY q) [wst q ad (xT (X 0 0) (X 1 0) (X 2 0) (X 3 0) (nI (tn (S 15 1) + 1)) (X 5) (X 6) (X 7) (X 8) (X 9) (X 10) (X 11) (X 12) (upd (X 13) (tn (S 15 1)) (nI a)) (upd (X 14) (tn (S 15 1)) (nI b)) (upd (X 15) (tn (S 15 1)) (nI d)))] A s.heap s H locs := hM
          have e5 : ((xT (X 0 0) (X 1 0) (X 2 0) (X 3 0) (nI (tn (S 15 1) + 1)) (X 5) (X 6) (X 7) (X 8) (X 9) (X 10) (X 11) (X 12) (upd (X 13) (tn (S 15 1)) (nI a)) (upd (X 14) (tn (S 15 1)) (nI b)) (upd (X 15) (tn (S 15 1)) (nI d))) : Nat → Nat → Int32) = ((xT (X 0 0) (X 1 0) (X 2 0) (X 3 0) (nI (tn (S 15 1) + 1)) (X 5) (X 6) (X 7) (X 8) (X 9) (X 10) (X 11) (X 12) (upd (X 13) (tn (S 15 1)) (nI a)) (upd (X 14) (tn (S 15 1)) (nI b)) (upd (X 15) (tn (S 15 1)) (nI d)))) := by rfl
          have hM : xM D (TY q) [wst q ad (xT (X 0 0) (X 1 0) (X 2 0) (X 3 0) (nI (tn (S 15 1) + 1)) (X 5) (X 6) (X 7) (X 8) (X 9) (X 10) (X 11) (X 12) (upd (X 13) (tn (S 15 1)) (nI a)) (upd (X 14) (tn (S 15 1)) (nI b)) (upd (X 15) (tn (S 15 1)) (nI d)))] A s.heap s H locs := Eq.mp (congrArg (fun z9 => xM D (TY q) [wst q ad z9] A s.heap s H locs) e5) hM
          exact x_zret hx hb hr hlocks (xT (X 0 0) (X 1 0) (X 2 0) (X 3 0) (nI (tn (S 15 1) + 1)) (X 5) (X 6) (X 7) (X 8) (X 9) (X 10) (X 11) (X 12) (upd (X 13) (tn (S 15 1)) (nI a)) (upd (X 14) (tn (S 15 1)) (nI b)) (upd (X 15) (tn (S 15 1)) (nI d))) hM rfl ⟨(show nI 1 = zb ((xRecR S (true, 0, t)).1 = true) from by (rw [hit]; first | exact zb_t' rfl | exact zb_f' Bool.false_ne_true)), (show okT (xT (X 0 0) (X 1 0) (X 2 0) (X 3 0) (nI (tn (S 15 1) + 1)) (X 5) (X 6) (X 7) (X 8) (X 9) (X 10) (X 11) (X 12) (upd (X 13) (tn (S 15 1)) (nI a)) (upd (X 14) (tn (S 15 1)) (nI b)) (upd (X 15) (tn (S 15 1)) (nI d))) (xshf (xRecR S (true, 0, t)).2.1) from by (rw [hit]; exact okT_rec hT (by omega) ha0 hb0 hd0 (by omega) (by omega)))⟩ dX7_tellRecipe_83
        · have hit : (xRecR S (true, 0, t)) = (false, S, 0, t) := if_neg (by intro z; have z2 := z.2; dsimp only at z2; omega)
          refine lv_iconst (v := nI 0) hx hb dX7_tellRecipe_34 (by decide) ?_
          exact x_zret hx hb hr hlocks X hM rfl ⟨(show nI 0 = zb ((xRecR S (true, 0, t)).1 = true) from by (rw [hit]; first | exact zb_t' rfl | exact zb_f' Bool.false_ne_true)), (show okT X (xshf (xRecR S (true, 0, t)).2.1) from by (rw [hit]; exact hT))⟩ dX7_tellRecipe_35
