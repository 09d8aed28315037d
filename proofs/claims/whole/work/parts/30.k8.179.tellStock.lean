set_option maxRecDepth 20000 in
theorem ggX7_tellStock_X7_isHouse : GoodIn wsX7_tellStock wsX7_isHouse := goodIn_r _ [6, 7, 8, 9, 10, 23, 24, 25, 26, 27, 28, 29, 30, 31, 32, 33, 34, 35, 36, 37, 38] (by decide +kernel) (by decide +kernel)
set_option maxRecDepth 20000 in
theorem gX7_tellStock_X7_isHouse : GoodIn wsX7_tellStock (wsV RX7 99 RX7 yX7_isHouse wsX7_isHouse) := goodIn_app (goodIn_of _ (by decide +kernel)) ggX7_tellStock_X7_isHouse
set_option maxRecDepth 20000 in
theorem ggX7_tellStock_X7_isGood : GoodIn wsX7_tellStock wsX7_isGood := goodIn_r _ [14, 15, 8, 9, 10, 23, 24, 25, 26, 27, 28, 29, 30, 31, 32, 33, 34, 35, 36, 37, 38] (by decide +kernel) (by decide +kernel)
set_option maxRecDepth 20000 in
theorem gX7_tellStock_X7_isGood : GoodIn wsX7_tellStock (wsV RX7 102 RX7 yX7_isGood wsX7_isGood) := goodIn_app (goodIn_of _ (by decide +kernel)) ggX7_tellStock_X7_isGood
set_option maxRecDepth 20000 in
theorem ggX7_tellStock_X8_within : GoodIn wsX7_tellStock wsX8_within := goodIn_r _ [10] (by decide +kernel) (by decide +kernel)
set_option maxRecDepth 20000 in
theorem gX7_tellStock_X8_within_n92 : GoodIn wsX7_tellStock (wsX8_within) := ggX7_tellStock_X8_within
set_option maxRecDepth 20000 in
theorem ggX7_tellStock_X7_spot : GoodIn wsX7_tellStock wsX7_spot := goodIn_r _ [18] (by decide +kernel) (by decide +kernel)
set_option maxRecDepth 20000 in
theorem gX7_tellStock_X7_spot : GoodIn wsX7_tellStock (va_wsS RX7 105 yX7_spot wsX7_spot) := goodIn_app (goodIn_of _ (by decide +kernel)) ggX7_tellStock_X7_spot
set_option maxRecDepth 20000 in
theorem ggX7_tellStock_X5_put : GoodIn wsX7_tellStock wsX5_put := goodIn_r _ [22] (by decide +kernel) (by decide +kernel)
set_option maxRecDepth 20000 in
theorem gX7_tellStock_X5_put : GoodIn wsX7_tellStock (va_wsS RX7 95 yX5_put wsX5_put) := goodIn_app (goodIn_of _ (by decide +kernel)) ggX7_tellStock_X5_put
theorem dX7_tellStock_0 : decode cX7_tellStock 0 = .ok (.aload_n 0, 1) := by decide +kernel
theorem dX7_tellStock_1 : decode cX7_tellStock 1 = .ok (.iload_n 1, 1) := by decide +kernel
theorem dX7_tellStock_2 : decode cX7_tellStock 2 = .ok (.invokevirtual 99, 3) := by decide +kernel
theorem dX7_tellStock_5 : decode cX7_tellStock 5 = .ok (.ifCond .eq 21, 3) := by decide +kernel
theorem dX7_tellStock_8 : decode cX7_tellStock 8 = .ok (.aload_n 0, 1) := by decide +kernel
theorem dX7_tellStock_9 : decode cX7_tellStock 9 = .ok (.iload_n 2, 1) := by decide +kernel
theorem dX7_tellStock_10 : decode cX7_tellStock 10 = .ok (.invokevirtual 102, 3) := by decide +kernel
theorem dX7_tellStock_13 : decode cX7_tellStock 13 = .ok (.ifCond .eq 13, 3) := by decide +kernel
theorem dX7_tellStock_16 : decode cX7_tellStock 16 = .ok (.iload_n 3, 1) := by decide +kernel
theorem dX7_tellStock_17 : decode cX7_tellStock 17 = .ok (.iconst 0, 1) := by decide +kernel
theorem dX7_tellStock_18 : decode cX7_tellStock 18 = .ok (.bipush 40, 2) := by decide +kernel
theorem dX7_tellStock_20 : decode cX7_tellStock 20 = .ok (.invokestatic 92, 3) := by decide +kernel
theorem dX7_tellStock_23 : decode cX7_tellStock 23 = .ok (.ifCond .ne 5, 3) := by decide +kernel
theorem dX7_tellStock_26 : decode cX7_tellStock 26 = .ok (.iconst 0, 1) := by decide +kernel
theorem dX7_tellStock_27 : decode cX7_tellStock 27 = .ok (.ireturn, 1) := by decide +kernel
theorem dX7_tellStock_28 : decode cX7_tellStock 28 = .ok (.aload_n 0, 1) := by decide +kernel
theorem dX7_tellStock_29 : decode cX7_tellStock 29 = .ok (.getfield 21, 3) := by decide +kernel
theorem dX7_tellStock_32 : decode cX7_tellStock 32 = .ok (.iload_n 1, 1) := by decide +kernel
theorem dX7_tellStock_33 : decode cX7_tellStock 33 = .ok (.iload_n 2, 1) := by decide +kernel
theorem dX7_tellStock_34 : decode cX7_tellStock 34 = .ok (.invokestatic 105, 3) := by decide +kernel
theorem dX7_tellStock_37 : decode cX7_tellStock 37 = .ok (.iload_n 3, 1) := by decide +kernel
theorem dX7_tellStock_38 : decode cX7_tellStock 38 = .ok (.invokestatic 95, 3) := by decide +kernel
theorem dX7_tellStock_41 : decode cX7_tellStock 41 = .ok (.iconst 1, 1) := by decide +kernel
theorem dX7_tellStock_42 : decode cX7_tellStock 42 = .ok (.ireturn, 1) := by decide +kernel
theorem lkX7_tellStock_21 : Cond.fieldLink RX7 21 "LeftAtFive$Street" "stock" "[I" ∈ wsX7_tellStock := by decide +kernel
theorem iniX7_tellStock_X8 : Cond.initialized RX8 ∈ wsX7_tellStock := by decide +kernel
theorem staX7_tellStock_X8_within : Cond.static yX8_within ∈ wsX7_tellStock := by decide +kernel
theorem iwX7_tellStock_X7 : ∀ w ∈ wsX70, w ∈ wsX7_tellStock := by decide +kernel
set_option maxHeartbeats 2000000 in
set_option maxRecDepth 100000 in
theorem c_X7_tellStock (l : Launch) (D : va_G) (q : Nat → ClassId) (ad : Nat → Nat) (X : Nat → Nat → Int32) (S : Nat → Nat → Int32) (t : Nat → Int32) (a : Nat) (b : Nat) (d : Nat) (hT : okT X (xshf S)) (ha0 : tn (t 0) = a) (ha9 : a ≤ 99) (hb0 : tn (t 1) = b) (hb9 : b ≤ 99) (hd0 : tn (t 2) = d) (hd9 : d ≤ 99) : xC l yX7_tellStock wsX7_tellStock ({ frames := 2, cells := 0, slots := 0, locals := 43 }) D (TY q) [wst q ad X] [.ref (ad 0), .int (nI a), .int (nI b), .int (nI d)] (xQi D (TY q) (fun (r : Int32) (u : (Nat → Nat → Int32)) => r = zb ((xStockR S (true, 0, t)).1 = true) ∧ okT u (xshf (xStockR S (true, 0, t)).2.1)) (fun (u : (Nat → Nat → Int32)) => [wst q ad u])) 0 0 := by
  refine x_enter (cc := cX7_tellStock) (maxL := 4) (ret := (some .boolean)) (by decide) rfl (Nat.le_of_ble_eq_true rfl) ?_
  intro p e s m below meth c A ls H locs hfix hr hlocks hinit hM hl
  obtain ⟨hx, hb, hml, hown, hts⟩ := id hfix
  have hl : lv_has ls 4 [(0, .ref (ad 0)), (1, .int (nI a)), (2, .int (nI b)), (3, .int (nI d))] := hl
  have q2 : tn (xshf S 2 0) = tn (S 2 1) := rfl
  have q5 : tn (xshf S 5 0) = tn (S 5 1) := rfl
  have q8 : tn (xshf S 8 0) = tn (S 8 1) := rfl
  have q12 : tn (xshf S 12 0) = tn (S 12 1) := rfl
  have q15 : tn (xshf S 15 0) = tn (S 15 1) := rfl
  have hT0b := okT_0b hT
  have hT1b := okT_1b hT
  have hT2b := okT_2b hT
  have hT3b := okT_3b hT
  have hT4b := okT_4b hT
  refine lv_aload_n hx hb dX7_tellStock_0 rfl (lv_at hl 0 rfl) ?_
  refine lv_iload_n hx hb dX7_tellStock_1 rfl (lv_at hl 1 rfl) ?_
  refine x_calli (bc := [wst q ad X]) (br := []) hM [0] [] rfl rfl rfl (by decide) (x_runV (As := [.int (nI a)]) (rest := []) hfix (c_X7_isHouse l D q ad X (xshf S) (nI a) ((a : Nat) : Int) hT (nI_toInt (n := a) (by omega))) (cwV 1 hts gX7_tellStock_X7_isHouse rfl rfl rfl (by decide +kernel) ⟨Nat.le_of_ble_eq_true rfl, Nat.le_of_ble_eq_true rfl⟩) hM [0] rfl rfl 0 0 rfl rfl rfl rfl rfl hl.1 rfl (Nat.le_of_ble_eq_true rfl) dX7_tellStock_2 ⟨Nat.le_of_ble_eq_true rfl, Nat.le_of_ble_eq_true rfl⟩) (fun r u H locs hq hM => ?_)
  subst hq
  have hM : xM D (TY q) [wst q ad X] A s.heap s H locs := hM
  refine x_ifz_eq (P := 0 ≤ ((a : Nat) : Int) ∧ ((a : Nat) : Int) < (tn ((xshf S) 5 0))) (tgt := 26) hx hb dX7_tellStock_5 (by decide) (fun c1 => ?_) (fun c1 => ?_)
  · have hit : (xStockR S (true, 0, t)) = (false, S, 0, t) := if_neg (by intro z; have z2 := z.2; dsimp only at z2; omega)
    refine lv_iconst (v := nI 0) hx hb dX7_tellStock_26 (by decide) ?_
    exact x_zret hx hb hr hlocks X hM rfl ⟨(show nI 0 = zb ((xStockR S (true, 0, t)).1 = true) from by (rw [hit]; first | exact zb_t' rfl | exact zb_f' Bool.false_ne_true)), (show okT X (xshf (xStockR S (true, 0, t)).2.1) from by (rw [hit]; exact hT))⟩ dX7_tellStock_27
  · refine lv_aload_n hx hb dX7_tellStock_8 rfl (lv_at hl 0 rfl) ?_
    refine lv_iload_n hx hb dX7_tellStock_9 rfl (lv_at hl 2 rfl) ?_
    refine x_calli (bc := [wst q ad X]) (br := []) hM [0] [] rfl rfl rfl (by decide) (x_runV (As := [.int (nI b)]) (rest := []) hfix (c_X7_isGood l D q ad X (xshf S) (nI b) ((b : Nat) : Int) hT (nI_toInt (n := b) (by omega))) (cwV 1 hts gX7_tellStock_X7_isGood rfl rfl rfl (by decide +kernel) ⟨Nat.le_of_ble_eq_true rfl, Nat.le_of_ble_eq_true rfl⟩) hM [0] rfl rfl 0 0 rfl rfl rfl rfl rfl hl.1 rfl (Nat.le_of_ble_eq_true rfl) dX7_tellStock_10 ⟨Nat.le_of_ble_eq_true rfl, Nat.le_of_ble_eq_true rfl⟩) (fun r u H locs hq hM => ?_)
    subst hq
    have hM : xM D (TY q) [wst q ad X] A s.heap s H locs := hM
    refine x_ifz_eq (P := 0 ≤ ((b : Nat) : Int) ∧ ((b : Nat) : Int) < (tn ((xshf S) 2 0))) (tgt := 26) hx hb dX7_tellStock_13 (by decide) (fun c2 => ?_) (fun c2 => ?_)
    · have hit : (xStockR S (true, 0, t)) = (false, S, 0, t) := if_neg (by intro z; have z2 := z.2; dsimp only at z2; omega)
      refine lv_iconst (v := nI 0) hx hb dX7_tellStock_26 (by decide) ?_
      exact x_zret hx hb hr hlocks X hM rfl ⟨(show nI 0 = zb ((xStockR S (true, 0, t)).1 = true) from by (rw [hit]; first | exact zb_t' rfl | exact zb_f' Bool.false_ne_true)), (show okT X (xshf (xStockR S (true, 0, t)).2.1) from by (rw [hit]; exact hT))⟩ dX7_tellStock_27
    · refine lv_iload_n hx hb dX7_tellStock_16 rfl (lv_at hl 3 rfl) ?_
      refine lv_iconst (v := nI 0) hx hb dX7_tellStock_17 (by decide) ?_
      refine lv_bipush (v := nI 40) hx hb dX7_tellStock_18 (by decide) ?_
      refine x_calli (bc := []) (br := [wst q ad X]) hM [] [0] rfl rfl rfl (by decide) (x_runSN (As := [.int (nI d), .int (nI 0), .int (nI 40)]) (rest := []) hfix (c_X8_within l D q (nI d) (nI 0) (nI 40) ((d : Nat) : Int) (0 : Int) (40 : Int) (nI_toInt (n := d) (by omega)) (nI_toInt (n := 0) (by decide)) (nI_toInt (n := 40) (by decide))) ⟨va_cnB (host := "LeftAtFive") 3 hts gX7_tellStock_X8_within_n92 rfl rfl rfl (hM.2.2.2.2.2 (RX7, 92, yX8_within) (by decide +kernel)) (hts _ iniX7_tellStock_X8) (by decide +kernel) ⟨Nat.le_of_ble_eq_true rfl, Nat.le_of_ble_eq_true rfl⟩, hts _ staX7_tellStock_X8_within, trivial⟩ hM [] rfl rfl rfl hl.1 rfl (Nat.le_of_ble_eq_true rfl) dX7_tellStock_20 ⟨Nat.le_of_ble_eq_true rfl, Nat.le_of_ble_eq_true rfl⟩) (fun r u H locs hq hM => ?_)
      subst hq
      have hM : xM D (TY q) [wst q ad X] A s.heap s H locs := hM
      refine x_ifz_ne (P := (0 : Int) ≤ ((d : Nat) : Int) ∧ ((d : Nat) : Int) ≤ (40 : Int)) (tgt := 28) hx hb dX7_tellStock_23 (by decide) (fun c3 => ?_) (fun c3 => ?_)
      · have hM : xM D (TY q) [w7 q ad (X 0 0) (X 1 0) (X 2 0) (X 3 0) (X 4 0) (X 5) (X 6) (X 7) (X 8) (X 9) (X 10) (X 11) (X 12) (X 13) (X 14) (X 15)] A s.heap s H locs := hM
        have hit : (xStockR S (true, 0, t)) = _ := if_pos (by refine ⟨rfl, ?_⟩; dsimp only; omega)
        refine lv_aload_n hx hb dX7_tellStock_28 rfl (lv_at hl 0 rfl) ?_
        refine x_get hx hb hts iwX7_tellStock_X7 hown hM 0 0 rfl rfl rfl 8 (by decide) (hts _ lkX7_tellStock_21) (fun _ h => h) rfl dX7_tellStock_29 ?_
        refine lv_iload_n hx hb dX7_tellStock_32 rfl (lv_at hl 1 rfl) ?_
        refine lv_iload_n hx hb dX7_tellStock_33 rfl (lv_at hl 2 rfl) ?_
        refine x_calli (bc := []) (br := [w7 q ad (X 0 0) (X 1 0) (X 2 0) (X 3 0) (X 4 0) (X 5) (X 6) (X 7) (X 8) (X 9) (X 10) (X 11) (X 12) (X 13) (X 14) (X 15)]) hM [] [0] rfl rfl rfl (by decide) (x_runS (As := [.int (nI a), .int (nI b)]) (rest := [.ref (ad 9)]) hfix (c_X7_spot l D q a b) (va_cwS 2 hts gX7_tellStock_X7_spot rfl rfl rfl (by decide +kernel) ⟨Nat.le_of_ble_eq_true rfl, Nat.le_of_ble_eq_true rfl⟩) hM [] rfl rfl rfl hl.1 rfl (Nat.le_of_ble_eq_true rfl) dX7_tellStock_34 ⟨Nat.le_of_ble_eq_true rfl, Nat.le_of_ble_eq_true rfl⟩) (fun r u H locs hq hM => ?_)
        subst hq
        have hM : xM D (TY q) [w7 q ad (X 0 0) (X 1 0) (X 2 0) (X 3 0) (X 4 0) (X 5) (X 6) (X 7) (X 8) (X 9) (X 10) (X 11) (X 12) (X 13) (X 14) (X 15)] A s.heap s H locs := hM
        refine lv_iload_n hx hb dX7_tellStock_37 rfl (lv_at hl 3 rfl) ?_
        refine x_callv (bc := [w7 q ad (X 0 0) (X 1 0) (X 2 0) (X 3 0) (X 4 0) (X 5) (X 6) (X 7) (X 8) (X 9) (X 10) (X 11) (X 12) (X 13) (X 14) (X 15)]) (br := []) hM [0] [] rfl rfl rfl (by decide) (x_runS (As := [.ref (ad 9), .int (nI (5 * a + b)), .int (nI d)]) (rest := []) hfix (c_X5_put l D q (w7 q ad (X 0 0) (X 1 0) (X 2 0) (X 3 0) (X 4 0) (X 5) (X 6) (X 7) (X 8) (X 9) (X 10) (X 11) (X 12) (X 13) (X 14) (X 15)) 4 (ad 9) 25 (X 8) (5 * a + b) (nI d) rfl (by decide) (by omega)) (va_cwS 3 hts gX7_tellStock_X5_put rfl rfl rfl (by decide +kernel) ⟨Nat.le_of_ble_eq_true rfl, Nat.le_of_ble_eq_true rfl⟩) hM [0] rfl rfl rfl hl.1 rfl (Nat.le_of_ble_eq_true rfl) dX7_tellStock_38 ⟨Nat.le_of_ble_eq_true rfl, Nat.le_of_ble_eq_true rfl⟩) (fun u H locs hq hM => ?_)
        have hM : xM D (TY q) [w7 q ad (X 0 0) (X 1 0) (X 2 0) (X 3 0) (X 4 0) (X 5) (X 6) (X 7) (upd (X 8) (5 * a + b) (nI d)) (X 9) (X 10) (X 11) (X 12) (X 13) (X 14) (X 15)] A s.heap s H locs := hM
        refine lv_iconst (v := nI 1) hx hb dX7_tellStock_41 (by decide) ?_
        have hM : xM D (TY q) [wst q ad (xT (X 0 0) (X 1 0) (X 2 0) (X 3 0) (X 4 0) (X 5) (X 6) (X 7) (upd (X 8) (5 * a + b) (nI d)) (X 9) (X 10) (X 11) (X 12) (X 13) (X 14) (X 15))] A s.heap s H locs := hM
        have e4 : ((xT (X 0 0) (X 1 0) (X 2 0) (X 3 0) (X 4 0) (X 5) (X 6) (X 7) (upd (X 8) (5 * a + b) (nI d)) (X 9) (X 10) (X 11) (X 12) (X 13) (X 14) (X 15)) : Nat → Nat → Int32) = ((xT (X 0 0) (X 1 0) (X 2 0) (X 3 0) (X 4 0) (X 5) (X 6) (X 7) (upd (X 8) (5 * a + b) (nI d)) (X 9) (X 10) (X 11) (X 12) (X 13) (X 14) (X 15))) := by rfl
        have hM : xM D (TY q) [wst q ad (xT (X 0 0) (X 1 0) (X 2 0) (X 3 0) (X 4 0) (X 5) (X 6) (X 7) (upd (X 8) (5 * a + b) (nI d)) (X 9) (X 10) (X 11) (X 12) (X 13) (X 14) (X 15))] A s.heap s H locs := Eq.mp (congrArg (fun z9 => xM D (TY q) [wst q ad z9] A s.heap s H locs) e4) hM
        exact x_zret hx hb hr hlocks (xT (X 0 0) (X 1 0) (X 2 0) (X 3 0) (X 4 0) (X 5) (X 6) (X 7) (upd (X 8) (5 * a + b) (nI d)) (X 9) (X 10) (X 11) (X 12) (X 13) (X 14) (X 15)) hM rfl ⟨(show nI 1 = zb ((xStockR S (true, 0, t)).1 = true) from by (rw [hit]; first | exact zb_t' rfl | exact zb_f' Bool.false_ne_true)), (show okT (xT (X 0 0) (X 1 0) (X 2 0) (X 3 0) (X 4 0) (X 5) (X 6) (X 7) (upd (X 8) (5 * a + b) (nI d)) (X 9) (X 10) (X 11) (X 12) (X 13) (X 14) (X 15)) (xshf (xStockR S (true, 0, t)).2.1) from by (rw [hit]; exact okT_stock hT ha0 hb0 hd0 (by omega) (by omega)))⟩ dX7_tellStock_42
      · have hit : (xStockR S (true, 0, t)) = (false, S, 0, t) := if_neg (by intro z; have z2 := z.2; dsimp only at z2; omega)
        refine lv_iconst (v := nI 0) hx hb dX7_tellStock_26 (by decide) ?_
        exact x_zret hx hb hr hlocks X hM rfl ⟨(show nI 0 = zb ((xStockR S (true, 0, t)).1 = true) from by (rw [hit]; first | exact zb_t' rfl | exact zb_f' Bool.false_ne_true)), (show okT X (xshf (xStockR S (true, 0, t)).2.1) from by (rw [hit]; exact hT))⟩ dX7_tellStock_27
