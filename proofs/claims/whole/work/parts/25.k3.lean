set_option maxRecDepth 20000 in
theorem ggX1_piecesOf_X7_spot : GoodIn wsX1_piecesOf wsX7_spot := goodIn_r _ [5] (by decide +kernel) (by decide +kernel)
set_option maxRecDepth 20000 in
theorem gX1_piecesOf_X7_spot : GoodIn wsX1_piecesOf (va_wsS RX1 46 yX7_spot wsX7_spot) := goodIn_app (goodIn_of _ (by decide +kernel)) ggX1_piecesOf_X7_spot
set_option maxRecDepth 20000 in
theorem ggX1_piecesOf_X5_at : GoodIn wsX1_piecesOf wsX5_at := goodIn_r _ [9] (by decide +kernel) (by decide +kernel)
set_option maxRecDepth 20000 in
theorem gX1_piecesOf_X5_at : GoodIn wsX1_piecesOf (va_wsS RX1 50 yX5_at wsX5_at) := goodIn_app (goodIn_of _ (by decide +kernel)) ggX1_piecesOf_X5_at
theorem dX1_piecesOf_0 : decode cX1_piecesOf 0 = .ok (.aload_n 0, 1) := by decide +kernel
theorem dX1_piecesOf_1 : decode cX1_piecesOf 1 = .ok (.getfield 9, 3) := by decide +kernel
theorem dX1_piecesOf_4 : decode cX1_piecesOf 4 = .ok (.iload_n 1, 1) := by decide +kernel
theorem dX1_piecesOf_5 : decode cX1_piecesOf 5 = .ok (.iload_n 2, 1) := by decide +kernel
theorem dX1_piecesOf_6 : decode cX1_piecesOf 6 = .ok (.invokestatic 46, 3) := by decide +kernel
theorem dX1_piecesOf_9 : decode cX1_piecesOf 9 = .ok (.invokestatic 50, 3) := by decide +kernel
theorem dX1_piecesOf_12 : decode cX1_piecesOf 12 = .ok (.ireturn, 1) := by decide +kernel
theorem lkX1_piecesOf_9 : Cond.fieldLink RX1 9 "LeftAtFive$Kitchens" "pieces" "[I" ∈ wsX1_piecesOf := by decide +kernel
theorem iwX1_piecesOf_X1 : ∀ w ∈ wsX10, w ∈ wsX1_piecesOf := by decide +kernel
set_option maxHeartbeats 1000000 in
set_option maxRecDepth 100000 in
theorem c_X1_piecesOf (l : Launch) (D : va_G) (q : Nat → ClassId) (kd : Nat → Nat) (K : Nat → Int32) (h : Nat) (g : Nat) (hh0 : h < 5) (hg0 : g < 5) : xC l yX1_piecesOf wsX1_piecesOf ({ frames := 1, cells := 0, slots := 0, locals := 21 }) D (TY q) [wk q kd K] [.ref (kd 0), .int (nI h), .int (nI g)] (xQi D (TY q) (fun (r : Int32) (_ : Unit) => r = K (5 * h + g)) (fun _ => [wk q kd K])) 0 0 := by
  refine x_enter (cc := cX1_piecesOf) (maxL := 3) (ret := (some .int)) (by decide) rfl (Nat.le_of_ble_eq_true rfl) ?_
  intro p e s m below meth c A ls H locs hfix hr hlocks hinit hM hl
  obtain ⟨hx, hb, hml, hown, hts⟩ := id hfix
  have hl : lv_has ls 3 [(0, .ref (kd 0)), (1, .int (nI h)), (2, .int (nI g))] := hl
  refine lv_aload_n hx hb dX1_piecesOf_0 rfl (lv_at hl 0 rfl) ?_
  refine x_get hx hb hts iwX1_piecesOf_X1 hown hM 0 0 rfl rfl rfl 2 (by decide) (hts _ lkX1_piecesOf_9) (fun _ h => h) rfl dX1_piecesOf_1 ?_
  refine lv_iload_n hx hb dX1_piecesOf_4 rfl (lv_at hl 1 rfl) ?_
  refine lv_iload_n hx hb dX1_piecesOf_5 rfl (lv_at hl 2 rfl) ?_
  refine x_calli (bc := []) (br := [wk q kd K]) hM [] [0] rfl rfl rfl (by decide) (x_runS (As := [.int (nI h), .int (nI g)]) (rest := [.ref (kd 3)]) hfix (c_X7_spot l D q h g) (va_cwS 2 hts gX1_piecesOf_X7_spot rfl rfl rfl (by decide +kernel) ⟨Nat.le_of_ble_eq_true rfl, Nat.le_of_ble_eq_true rfl⟩) hM [] rfl rfl rfl hl.1 rfl (Nat.le_of_ble_eq_true rfl) dX1_piecesOf_6 ⟨Nat.le_of_ble_eq_true rfl, Nat.le_of_ble_eq_true rfl⟩) (fun r u H locs hq hM => ?_)
  subst hq
  have hM : xM D (TY q) [wk q kd K] A s.heap s H locs := hM
  refine x_calli (bc := [wk q kd K]) (br := []) hM [0] [] rfl rfl rfl (by decide) (x_runS (As := [.ref (kd 3), .int (nI (5 * h + g))]) (rest := []) hfix (c_X5_at l D q (wk q kd K) 1 (kd 3) 25 (xv K 0 25) (5 * h + g) rfl (by decide) (by omega)) (va_cwS 2 hts gX1_piecesOf_X5_at rfl rfl rfl (by decide +kernel) ⟨Nat.le_of_ble_eq_true rfl, Nat.le_of_ble_eq_true rfl⟩) hM [0] rfl rfl rfl hl.1 rfl (Nat.le_of_ble_eq_true rfl) dX1_piecesOf_9 ⟨Nat.le_of_ble_eq_true rfl, Nat.le_of_ble_eq_true rfl⟩) (fun r u H locs hq hM => ?_)
  subst hq
  have hM : xM D (TY q) [wk q kd K] A s.heap s H locs := hM
  refine x_cast (y := K (5 * h + g)) (xv_at0 (by omega)) ?_
  exact x_iret hx hb hr hlocks () hM (show K (5 * h + g) = K (5 * h + g) from rfl) dX1_piecesOf_12

set_option maxRecDepth 20000 in
theorem ggX1_add_X7_spot : GoodIn wsX1_add wsX7_spot := goodIn_r _ [5] (by decide +kernel) (by decide +kernel)
set_option maxRecDepth 20000 in
theorem gX1_add_X7_spot : GoodIn wsX1_add (va_wsS RX1 46 yX7_spot wsX7_spot) := goodIn_app (goodIn_of _ (by decide +kernel)) ggX1_add_X7_spot
set_option maxRecDepth 20000 in
theorem ggX1_add_X5_add : GoodIn wsX1_add wsX5_add := goodIn_r _ [9] (by decide +kernel) (by decide +kernel)
set_option maxRecDepth 20000 in
theorem gX1_add_X5_add : GoodIn wsX1_add (va_wsS RX1 54 yX5_add wsX5_add) := goodIn_app (goodIn_of _ (by decide +kernel)) ggX1_add_X5_add
theorem dX1_add_0 : decode cX1_add 0 = .ok (.aload_n 0, 1) := by decide +kernel
theorem dX1_add_1 : decode cX1_add 1 = .ok (.getfield 9, 3) := by decide +kernel
theorem dX1_add_4 : decode cX1_add 4 = .ok (.iload_n 1, 1) := by decide +kernel
theorem dX1_add_5 : decode cX1_add 5 = .ok (.iload_n 2, 1) := by decide +kernel
theorem dX1_add_6 : decode cX1_add 6 = .ok (.invokestatic 46, 3) := by decide +kernel
theorem dX1_add_9 : decode cX1_add 9 = .ok (.iload_n 3, 1) := by decide +kernel
theorem dX1_add_10 : decode cX1_add 10 = .ok (.invokestatic 54, 3) := by decide +kernel
theorem dX1_add_13 : decode cX1_add 13 = .ok (.return_, 1) := by decide +kernel
theorem lkX1_add_9 : Cond.fieldLink RX1 9 "LeftAtFive$Kitchens" "pieces" "[I" ∈ wsX1_add := by decide +kernel
theorem iwX1_add_X1 : ∀ w ∈ wsX10, w ∈ wsX1_add := by decide +kernel
set_option maxHeartbeats 1000000 in
set_option maxRecDepth 100000 in
theorem c_X1_add (l : Launch) (D : va_G) (q : Nat → ClassId) (kd : Nat → Nat) (K : Nat → Int32) (h : Nat) (g : Nat) (n : Int32) (hh0 : h < 5) (hg0 : g < 5) : xC l yX1_add wsX1_add ({ frames := 1, cells := 0, slots := 0, locals := 22 }) D (TY q) [wk q kd K] [.ref (kd 0), .int (nI h), .int (nI g), .int n] (xQv D (TY q) (fun (_ : Unit) => True) (fun _ => [wk q kd (kAdd K h g n)])) 0 0 := by
  refine x_enter (cc := cX1_add) (maxL := 4) (ret := none) (by decide) rfl (Nat.le_of_ble_eq_true rfl) ?_
  intro p e s m below meth c A ls H locs hfix hr hlocks hinit hM hl
  obtain ⟨hx, hb, hml, hown, hts⟩ := id hfix
  have hl : lv_has ls 4 [(0, .ref (kd 0)), (1, .int (nI h)), (2, .int (nI g)), (3, .int n)] := hl
  refine lv_aload_n hx hb dX1_add_0 rfl (lv_at hl 0 rfl) ?_
  refine x_get hx hb hts iwX1_add_X1 hown hM 0 0 rfl rfl rfl 2 (by decide) (hts _ lkX1_add_9) (fun _ h => h) rfl dX1_add_1 ?_
  refine lv_iload_n hx hb dX1_add_4 rfl (lv_at hl 1 rfl) ?_
  refine lv_iload_n hx hb dX1_add_5 rfl (lv_at hl 2 rfl) ?_
  refine x_calli (bc := []) (br := [wk q kd K]) hM [] [0] rfl rfl rfl (by decide) (x_runS (As := [.int (nI h), .int (nI g)]) (rest := [.ref (kd 3)]) hfix (c_X7_spot l D q h g) (va_cwS 2 hts gX1_add_X7_spot rfl rfl rfl (by decide +kernel) ⟨Nat.le_of_ble_eq_true rfl, Nat.le_of_ble_eq_true rfl⟩) hM [] rfl rfl rfl hl.1 rfl (Nat.le_of_ble_eq_true rfl) dX1_add_6 ⟨Nat.le_of_ble_eq_true rfl, Nat.le_of_ble_eq_true rfl⟩) (fun r u H locs hq hM => ?_)
  subst hq
  have hM : xM D (TY q) [wk q kd K] A s.heap s H locs := hM
  refine lv_iload_n hx hb dX1_add_9 rfl (lv_at hl 3 rfl) ?_
  refine x_callv (bc := [wk q kd K]) (br := []) hM [0] [] rfl rfl rfl (by decide) (x_runS (As := [.ref (kd 3), .int (nI (5 * h + g)), .int n]) (rest := []) hfix (c_X5_add l D q (wk q kd K) 1 (kd 3) 25 (xv K 0 25) (5 * h + g) n rfl (by decide) (by omega)) (va_cwS 3 hts gX1_add_X5_add rfl rfl rfl (by decide +kernel) ⟨Nat.le_of_ble_eq_true rfl, Nat.le_of_ble_eq_true rfl⟩) hM [0] rfl rfl rfl hl.1 rfl (Nat.le_of_ble_eq_true rfl) dX1_add_10 ⟨Nat.le_of_ble_eq_true rfl, Nat.le_of_ble_eq_true rfl⟩) (fun u H locs hq hM => ?_)
  have hM : xM D (TY q) [wk q kd (upd K (5 * h + g) (K (5 * h + g) + n))] A s.heap s H locs := Eq.mp (congrArg (fun z9 => xM D (TY q) [z9] A s.heap s H locs) (wk_a2 q kd K n (by omega))) hM
  have e1 : wk q kd (upd K (5 * h + g) (K (5 * h + g) + n)) = wk q kd (kAdd K h g n) := congrArg (wk q kd) (show (upd K (5 * h + g) (K (5 * h + g) + n) : Nat → Int32) = kAdd K h g n from by rfl)
  have hM : xM D (TY q) [wk q kd (kAdd K h g n)] A s.heap s H locs := Eq.mp (congrArg (fun z9 => xM D (TY q) [z9] A s.heap s H locs) e1) hM
  exact x_vret hx hb hr hlocks () hM trivial dX1_add_13

set_option maxRecDepth 20000 in
theorem ggX1_eatenBy_X5_at : GoodIn wsX1_eatenBy wsX5_at := goodIn_r _ [5] (by decide +kernel) (by decide +kernel)
set_option maxRecDepth 20000 in
theorem gX1_eatenBy_X5_at : GoodIn wsX1_eatenBy (va_wsS RX1 50 yX5_at wsX5_at) := goodIn_app (goodIn_of _ (by decide +kernel)) ggX1_eatenBy_X5_at
theorem dX1_eatenBy_0 : decode cX1_eatenBy 0 = .ok (.aload_n 0, 1) := by decide +kernel
theorem dX1_eatenBy_1 : decode cX1_eatenBy 1 = .ok (.getfield 15, 3) := by decide +kernel
theorem dX1_eatenBy_4 : decode cX1_eatenBy 4 = .ok (.iload_n 1, 1) := by decide +kernel
theorem dX1_eatenBy_5 : decode cX1_eatenBy 5 = .ok (.invokestatic 50, 3) := by decide +kernel
theorem dX1_eatenBy_8 : decode cX1_eatenBy 8 = .ok (.ireturn, 1) := by decide +kernel
theorem lkX1_eatenBy_15 : Cond.fieldLink RX1 15 "LeftAtFive$Kitchens" "eaten" "[I" ∈ wsX1_eatenBy := by decide +kernel
theorem iwX1_eatenBy_X1 : ∀ w ∈ wsX10, w ∈ wsX1_eatenBy := by decide +kernel
set_option maxHeartbeats 1000000 in
set_option maxRecDepth 100000 in
theorem c_X1_eatenBy (l : Launch) (D : va_G) (q : Nat → ClassId) (kd : Nat → Nat) (K : Nat → Int32) (i : Nat) (hi0 : i < 8) : xC l yX1_eatenBy wsX1_eatenBy ({ frames := 1, cells := 0, slots := 0, locals := 21 }) D (TY q) [wk q kd K] [.ref (kd 0), .int (nI i)] (xQi D (TY q) (fun (r : Int32) (_ : Unit) => r = K (51 + i)) (fun _ => [wk q kd K])) 0 0 := by
  refine x_enter (cc := cX1_eatenBy) (maxL := 2) (ret := (some .int)) (by decide) rfl (Nat.le_of_ble_eq_true rfl) ?_
  intro p e s m below meth c A ls H locs hfix hr hlocks hinit hM hl
  obtain ⟨hx, hb, hml, hown, hts⟩ := id hfix
  have hl : lv_has ls 2 [(0, .ref (kd 0)), (1, .int (nI i))] := hl
  refine lv_aload_n hx hb dX1_eatenBy_0 rfl (lv_at hl 0 rfl) ?_
  refine x_get hx hb hts iwX1_eatenBy_X1 hown hM 0 0 rfl rfl rfl 3 (by decide) (hts _ lkX1_eatenBy_15) (fun _ h => h) rfl dX1_eatenBy_1 ?_
  refine lv_iload_n hx hb dX1_eatenBy_4 rfl (lv_at hl 1 rfl) ?_
  refine x_calli (bc := [wk q kd K]) (br := []) hM [0] [] rfl rfl rfl (by decide) (x_runS (As := [.ref (kd 4), .int (nI i)]) (rest := []) hfix (c_X5_at l D q (wk q kd K) 2 (kd 4) 8 (xv K 51 8) i rfl (by decide) (by omega)) (va_cwS 2 hts gX1_eatenBy_X5_at rfl rfl rfl (by decide +kernel) ⟨Nat.le_of_ble_eq_true rfl, Nat.le_of_ble_eq_true rfl⟩) hM [0] rfl rfl rfl hl.1 rfl (Nat.le_of_ble_eq_true rfl) dX1_eatenBy_5 ⟨Nat.le_of_ble_eq_true rfl, Nat.le_of_ble_eq_true rfl⟩) (fun r u H locs hq hM => ?_)
  subst hq
  have hM : xM D (TY q) [wk q kd K] A s.heap s H locs := hM
  refine x_cast (y := K (51 + i)) (xv_at (by omega)) ?_
  exact x_iret hx hb hr hlocks () hM (show K (51 + i) = K (51 + i) from rfl) dX1_eatenBy_8

set_option maxRecDepth 20000 in
theorem ggX1_hungerOf_X5_at : GoodIn wsX1_hungerOf wsX5_at := goodIn_r _ [5] (by decide +kernel) (by decide +kernel)
set_option maxRecDepth 20000 in
theorem gX1_hungerOf_X5_at : GoodIn wsX1_hungerOf (va_wsS RX1 50 yX5_at wsX5_at) := goodIn_app (goodIn_of _ (by decide +kernel)) ggX1_hungerOf_X5_at
theorem dX1_hungerOf_0 : decode cX1_hungerOf 0 = .ok (.aload_n 0, 1) := by decide +kernel
theorem dX1_hungerOf_1 : decode cX1_hungerOf 1 = .ok (.getfield 18, 3) := by decide +kernel
theorem dX1_hungerOf_4 : decode cX1_hungerOf 4 = .ok (.iload_n 1, 1) := by decide +kernel
theorem dX1_hungerOf_5 : decode cX1_hungerOf 5 = .ok (.invokestatic 50, 3) := by decide +kernel
theorem dX1_hungerOf_8 : decode cX1_hungerOf 8 = .ok (.ireturn, 1) := by decide +kernel
theorem lkX1_hungerOf_18 : Cond.fieldLink RX1 18 "LeftAtFive$Kitchens" "hungry" "[I" ∈ wsX1_hungerOf := by decide +kernel
theorem iwX1_hungerOf_X1 : ∀ w ∈ wsX10, w ∈ wsX1_hungerOf := by decide +kernel
set_option maxHeartbeats 1000000 in
set_option maxRecDepth 100000 in
theorem c_X1_hungerOf (l : Launch) (D : va_G) (q : Nat → ClassId) (kd : Nat → Nat) (K : Nat → Int32) (i : Nat) (hi0 : i < 8) : xC l yX1_hungerOf wsX1_hungerOf ({ frames := 1, cells := 0, slots := 0, locals := 21 }) D (TY q) [wk q kd K] [.ref (kd 0), .int (nI i)] (xQi D (TY q) (fun (r : Int32) (_ : Unit) => r = K (59 + i)) (fun _ => [wk q kd K])) 0 0 := by
  refine x_enter (cc := cX1_hungerOf) (maxL := 2) (ret := (some .int)) (by decide) rfl (Nat.le_of_ble_eq_true rfl) ?_
  intro p e s m below meth c A ls H locs hfix hr hlocks hinit hM hl
  obtain ⟨hx, hb, hml, hown, hts⟩ := id hfix
  have hl : lv_has ls 2 [(0, .ref (kd 0)), (1, .int (nI i))] := hl
  refine lv_aload_n hx hb dX1_hungerOf_0 rfl (lv_at hl 0 rfl) ?_
  refine x_get hx hb hts iwX1_hungerOf_X1 hown hM 0 0 rfl rfl rfl 4 (by decide) (hts _ lkX1_hungerOf_18) (fun _ h => h) rfl dX1_hungerOf_1 ?_
  refine lv_iload_n hx hb dX1_hungerOf_4 rfl (lv_at hl 1 rfl) ?_
  refine x_calli (bc := [wk q kd K]) (br := []) hM [0] [] rfl rfl rfl (by decide) (x_runS (As := [.ref (kd 5), .int (nI i)]) (rest := []) hfix (c_X5_at l D q (wk q kd K) 3 (kd 5) 8 (xv K 59 8) i rfl (by decide) (by omega)) (va_cwS 2 hts gX1_hungerOf_X5_at rfl rfl rfl (by decide +kernel) ⟨Nat.le_of_ble_eq_true rfl, Nat.le_of_ble_eq_true rfl⟩) hM [0] rfl rfl rfl hl.1 rfl (Nat.le_of_ble_eq_true rfl) dX1_hungerOf_5 ⟨Nat.le_of_ble_eq_true rfl, Nat.le_of_ble_eq_true rfl⟩) (fun r u H locs hq hM => ?_)
  subst hq
  have hM : xM D (TY q) [wk q kd K] A s.heap s H locs := hM
  refine x_cast (y := K (59 + i)) (xv_at (by omega)) ?_
  exact x_iret hx hb hr hlocks () hM (show K (59 + i) = K (59 + i) from rfl) dX1_hungerOf_8

set_option maxRecDepth 20000 in
theorem ggX1_hungerOfAll_X5_sum : GoodIn wsX1_hungerOfAll wsX5_sum := goodIn_r _ [5] (by decide +kernel) (by decide +kernel)
set_option maxRecDepth 20000 in
theorem gX1_hungerOfAll_X5_sum : GoodIn wsX1_hungerOfAll (va_wsS RX1 58 yX5_sum wsX5_sum) := goodIn_app (goodIn_of _ (by decide +kernel)) ggX1_hungerOfAll_X5_sum
theorem dX1_hungerOfAll_0 : decode cX1_hungerOfAll 0 = .ok (.aload_n 0, 1) := by decide +kernel
theorem dX1_hungerOfAll_1 : decode cX1_hungerOfAll 1 = .ok (.getfield 18, 3) := by decide +kernel
theorem dX1_hungerOfAll_4 : decode cX1_hungerOfAll 4 = .ok (.invokestatic 58, 3) := by decide +kernel
theorem dX1_hungerOfAll_7 : decode cX1_hungerOfAll 7 = .ok (.ireturn, 1) := by decide +kernel
theorem lkX1_hungerOfAll_18 : Cond.fieldLink RX1 18 "LeftAtFive$Kitchens" "hungry" "[I" ∈ wsX1_hungerOfAll := by decide +kernel
theorem iwX1_hungerOfAll_X1 : ∀ w ∈ wsX10, w ∈ wsX1_hungerOfAll := by decide +kernel
set_option maxHeartbeats 1000000 in
set_option maxRecDepth 100000 in
theorem c_X1_hungerOfAll (l : Launch) (D : va_G) (q : Nat → ClassId) (kd : Nat → Nat) (K : Nat → Int32) : xC l yX1_hungerOfAll wsX1_hungerOfAll ({ frames := 1, cells := 0, slots := 0, locals := 22 }) D (TY q) [wk q kd K] [.ref (kd 0)] (xQi D (TY q) (fun (r : Int32) (_ : Unit) => r = xsum (fun i => K (59 + i)) 8) (fun _ => [wk q kd K])) 0 0 := by
  refine x_enter (cc := cX1_hungerOfAll) (maxL := 1) (ret := (some .int)) (by decide) rfl (Nat.le_of_ble_eq_true rfl) ?_
  intro p e s m below meth c A ls H locs hfix hr hlocks hinit hM hl
  obtain ⟨hx, hb, hml, hown, hts⟩ := id hfix
  have hl : lv_has ls 1 [(0, .ref (kd 0))] := hl
  refine lv_aload_n hx hb dX1_hungerOfAll_0 rfl (lv_at hl 0 rfl) ?_
  refine x_get hx hb hts iwX1_hungerOfAll_X1 hown hM 0 0 rfl rfl rfl 4 (by decide) (hts _ lkX1_hungerOfAll_18) (fun _ h => h) rfl dX1_hungerOfAll_1 ?_
  refine x_calli (bc := [wk q kd K]) (br := []) hM [0] [] rfl rfl rfl (by decide) (x_runS (As := [.ref (kd 5)]) (rest := []) hfix (c_X5_sum l D q (wk q kd K) 3 (kd 5) 8 (xv K 59 8) rfl (by decide)) (va_cwS 1 hts gX1_hungerOfAll_X5_sum rfl rfl rfl (by decide +kernel) ⟨Nat.le_of_ble_eq_true rfl, Nat.le_of_ble_eq_true rfl⟩) hM [0] rfl rfl rfl hl.1 rfl (Nat.le_of_ble_eq_true rfl) dX1_hungerOfAll_4 ⟨Nat.le_of_ble_eq_true rfl, Nat.le_of_ble_eq_true rfl⟩) (fun r u H locs hq hM => ?_)
  subst hq
  have hM : xM D (TY q) [wk q kd K] A s.heap s H locs := hM
  exact x_iret hx hb hr hlocks () hM (show xsum (xv K 59 8) 8 = xsum (fun i => K (59 + i)) 8 from by exact xsum_congr (fun i hi => xv_at hi)) dX1_hungerOfAll_7

set_option maxRecDepth 20000 in
theorem ggX1_tellWay_X5_at : GoodIn wsX1_tellWay wsX5_at := goodIn_r _ [5] (by decide +kernel) (by decide +kernel)
set_option maxRecDepth 20000 in
theorem gX1_tellWay_X5_at : GoodIn wsX1_tellWay (va_wsS RX1 50 yX5_at wsX5_at) := goodIn_app (goodIn_of _ (by decide +kernel)) ggX1_tellWay_X5_at
theorem dX1_tellWay_0 : decode cX1_tellWay 0 = .ok (.aload_n 0, 1) := by decide +kernel
theorem dX1_tellWay_1 : decode cX1_tellWay 1 = .ok (.getfield 21, 3) := by decide +kernel
theorem dX1_tellWay_4 : decode cX1_tellWay 4 = .ok (.iload_n 1, 1) := by decide +kernel
theorem dX1_tellWay_5 : decode cX1_tellWay 5 = .ok (.iconst 4, 1) := by decide +kernel
theorem dX1_tellWay_6 : decode cX1_tellWay 6 = .ok (.imul, 1) := by decide +kernel
theorem dX1_tellWay_7 : decode cX1_tellWay 7 = .ok (.iload_n 2, 1) := by decide +kernel
theorem dX1_tellWay_8 : decode cX1_tellWay 8 = .ok (.iadd, 1) := by decide +kernel
theorem dX1_tellWay_9 : decode cX1_tellWay 9 = .ok (.invokestatic 50, 3) := by decide +kernel
theorem dX1_tellWay_12 : decode cX1_tellWay 12 = .ok (.ireturn, 1) := by decide +kernel
theorem lkX1_tellWay_21 : Cond.fieldLink RX1 21 "LeftAtFive$Kitchens" "sent" "[I" ∈ wsX1_tellWay := by decide +kernel
theorem iwX1_tellWay_X1 : ∀ w ∈ wsX10, w ∈ wsX1_tellWay := by decide +kernel
set_option maxHeartbeats 1000000 in
set_option maxRecDepth 100000 in
theorem c_X1_tellWay (l : Launch) (D : va_G) (q : Nat → ClassId) (kd : Nat → Nat) (K : Nat → Int32) (k : Nat) (w : Nat) (hk0 : k < 6) (hw0 : w < 4) : xC l yX1_tellWay wsX1_tellWay ({ frames := 1, cells := 0, slots := 0, locals := 21 }) D (TY q) [wk q kd K] [.ref (kd 0), .int (nI k), .int (nI w)] (xQi D (TY q) (fun (r : Int32) (_ : Unit) => r = K (26 + 1 + 4 * k + w)) (fun _ => [wk q kd K])) 0 0 := by
  refine x_enter (cc := cX1_tellWay) (maxL := 3) (ret := (some .int)) (by decide) rfl (Nat.le_of_ble_eq_true rfl) ?_
  intro p e s m below meth c A ls H locs hfix hr hlocks hinit hM hl
  obtain ⟨hx, hb, hml, hown, hts⟩ := id hfix
  have hl : lv_has ls 3 [(0, .ref (kd 0)), (1, .int (nI k)), (2, .int (nI w))] := hl
  refine lv_aload_n hx hb dX1_tellWay_0 rfl (lv_at hl 0 rfl) ?_
  refine x_get hx hb hts iwX1_tellWay_X1 hown hM 0 0 rfl rfl rfl 5 (by decide) (hts _ lkX1_tellWay_21) (fun _ h => h) rfl dX1_tellWay_1 ?_
  refine lv_iload_n hx hb dX1_tellWay_4 rfl (lv_at hl 1 rfl) ?_
  refine lv_iconst (v := nI 4) hx hb dX1_tellWay_5 (by decide) ?_
  refine x_imul (x := k) (y := 4) hx hb dX1_tellWay_6 ?_
  refine lv_iload_n hx hb dX1_tellWay_7 rfl (lv_at hl 2 rfl) ?_
  refine x_iadd (x := k * 4) (y := w) hx hb dX1_tellWay_8 ?_
  refine x_calli (bc := [wk q kd K]) (br := []) hM [0] [] rfl rfl rfl (by decide) (x_runS (As := [.ref (kd 6), .int (nI (k * 4 + w))]) (rest := []) hfix (c_X5_at l D q (wk q kd K) 4 (kd 6) 24 (xv K 27 24) (k * 4 + w) rfl (by decide) (by omega)) (va_cwS 2 hts gX1_tellWay_X5_at rfl rfl rfl (by decide +kernel) ⟨Nat.le_of_ble_eq_true rfl, Nat.le_of_ble_eq_true rfl⟩) hM [0] rfl rfl rfl hl.1 rfl (Nat.le_of_ble_eq_true rfl) dX1_tellWay_9 ⟨Nat.le_of_ble_eq_true rfl, Nat.le_of_ble_eq_true rfl⟩) (fun r u H locs hq hM => ?_)
  subst hq
  have hM : xM D (TY q) [wk q kd K] A s.heap s H locs := hM
  refine x_cast (y := K (27 + (k * 4 + w))) (xv_at (by omega)) ?_
  exact x_iret hx hb hr hlocks () hM (show K (27 + (k * 4 + w)) = K (26 + 1 + 4 * k + w) from by (congr 1; omega)) dX1_tellWay_12

set_option maxRecDepth 20000 in
theorem ggX1_leftOf_X1_piecesOf : GoodIn wsX1_leftOf wsX1_piecesOf := goodIn_r _ [5, 6, 7, 8, 9, 10, 11, 12, 13, 14, 21, 22, 23, 24, 25, 26] (by decide +kernel) (by decide +kernel)
set_option maxRecDepth 20000 in
theorem gX1_leftOf_X1_piecesOf : GoodIn wsX1_leftOf (wsV RX1 62 RX1 yX1_piecesOf wsX1_piecesOf) := goodIn_app (goodIn_of _ (by decide +kernel)) ggX1_leftOf_X1_piecesOf
set_option maxRecDepth 20000 in
theorem ggX1_leftOf_X7_leftOf : GoodIn wsX1_leftOf wsX7_leftOf := goodIn_r _ [18, 19, 20, 12, 13, 14, 27, 28, 29, 30, 31, 32, 33, 34, 35, 36, 37, 38, 39, 40, 41, 42] (by decide +kernel) (by decide +kernel)
set_option maxRecDepth 20000 in
theorem gX1_leftOf_X7_leftOf : GoodIn wsX1_leftOf (wsV RX1 65 RX7 yX7_leftOf wsX7_leftOf) := goodIn_app (goodIn_of _ (by decide +kernel)) ggX1_leftOf_X7_leftOf
theorem dX1_leftOf_0 : decode cX1_leftOf 0 = .ok (.aload_n 1, 1) := by decide +kernel
theorem dX1_leftOf_1 : decode cX1_leftOf 1 = .ok (.iload_n 3, 1) := by decide +kernel
theorem dX1_leftOf_2 : decode cX1_leftOf 2 = .ok (.aload_n 0, 1) := by decide +kernel
theorem dX1_leftOf_3 : decode cX1_leftOf 3 = .ok (.iload_n 2, 1) := by decide +kernel
theorem dX1_leftOf_4 : decode cX1_leftOf 4 = .ok (.iload_n 3, 1) := by decide +kernel
theorem dX1_leftOf_5 : decode cX1_leftOf 5 = .ok (.invokevirtual 62, 3) := by decide +kernel
theorem dX1_leftOf_8 : decode cX1_leftOf 8 = .ok (.invokevirtual 65, 3) := by decide +kernel
theorem dX1_leftOf_11 : decode cX1_leftOf 11 = .ok (.ireturn, 1) := by decide +kernel
set_option maxHeartbeats 1000000 in
set_option maxRecDepth 100000 in
theorem c_X1_leftOf (l : Launch) (D : va_G) (q : Nat → ClassId) (kd : Nat → Nat) (K : Nat → Int32) (sd : Nat → Nat) (X : Nat → Nat → Int32) (S : Nat → Nat → Int32) (h : Nat) (g : Nat) (hT : okT X S) (hh0 : h < 5) (hg0 : g < (tn (S 2 0))) : xC l yX1_leftOf wsX1_leftOf ({ frames := 2, cells := 0, slots := 0, locals := 43 }) D (TY q) [wk q kd K, wst q sd X] [.ref (kd 0), .ref (sd 0), .int (nI h), .int (nI g)] (xQi D (TY q) (fun (r : Int32) (_ : Unit) => r = xlf (S 4 g) (K (5 * h + g))) (fun _ => [wk q kd K, wst q sd X])) 0 0 := by
  refine x_enter (cc := cX1_leftOf) (maxL := 4) (ret := (some .int)) (by decide) rfl (Nat.le_of_ble_eq_true rfl) ?_
  intro p e s m below meth c A ls H locs hfix hr hlocks hinit hM hl
  obtain ⟨hx, hb, hml, hown, hts⟩ := id hfix
  have hl : lv_has ls 4 [(0, .ref (kd 0)), (1, .ref (sd 0)), (2, .int (nI h)), (3, .int (nI g))] := hl
  have hTb := okT_0b hT
  refine lv_aload_n hx hb dX1_leftOf_0 rfl (lv_at hl 1 rfl) ?_
  refine lv_iload_n hx hb dX1_leftOf_1 rfl (lv_at hl 3 rfl) ?_
  refine lv_aload_n hx hb dX1_leftOf_2 rfl (lv_at hl 0 rfl) ?_
  refine lv_iload_n hx hb dX1_leftOf_3 rfl (lv_at hl 2 rfl) ?_
  refine lv_iload_n hx hb dX1_leftOf_4 rfl (lv_at hl 3 rfl) ?_
  refine x_calli (bc := [wk q kd K]) (br := [wst q sd X]) hM [0] [1] rfl rfl rfl (by decide) (x_runV (As := [.int (nI h), .int (nI g)]) (rest := [.int (nI g), .ref (sd 0)]) hfix (c_X1_piecesOf l D q kd K h g (by omega) (by omega)) (cwV 2 hts gX1_leftOf_X1_piecesOf rfl rfl rfl (by decide +kernel) ⟨Nat.le_of_ble_eq_true rfl, Nat.le_of_ble_eq_true rfl⟩) hM [0] rfl rfl 0 0 rfl rfl rfl rfl rfl hl.1 rfl (Nat.le_of_ble_eq_true rfl) dX1_leftOf_5 ⟨Nat.le_of_ble_eq_true rfl, Nat.le_of_ble_eq_true rfl⟩) (fun r u H locs hq hM => ?_)
  subst hq
  have hM : xM D (TY q) [wst q sd X, wk q kd K] A s.heap s H locs := hM
  have hM : xM D (TY q) [wk q kd K, wst q sd X] A s.heap s H locs := hM.sel [1, 0] rfl rfl
  refine x_calli (bc := [wst q sd X]) (br := [wk q kd K]) hM [1] [0] rfl rfl rfl (by decide) (x_runV (As := [.int (nI g), .int (K (5 * h + g))]) (rest := []) hfix (c_X7_leftOf l D q sd X S g (K (5 * h + g)) hT (by omega)) (cwV 2 hts gX1_leftOf_X7_leftOf rfl rfl rfl (by decide +kernel) ⟨Nat.le_of_ble_eq_true rfl, Nat.le_of_ble_eq_true rfl⟩) hM [1] rfl rfl 1 0 rfl rfl rfl rfl rfl hl.1 rfl (Nat.le_of_ble_eq_true rfl) dX1_leftOf_8 ⟨Nat.le_of_ble_eq_true rfl, Nat.le_of_ble_eq_true rfl⟩) (fun r u H locs hq hM => ?_)
  subst hq
  have hM : xM D (TY q) [wk q kd K, wst q sd X] A s.heap s H locs := hM
  exact x_iret hx hb hr hlocks () hM (show xlf (S 4 g) (K (5 * h + g)) = xlf (S 4 g) (K (5 * h + g)) from rfl) dX1_leftOf_11

set_option maxRecDepth 20000 in
theorem ggX1_worthOf_X7_worthEach : GoodIn wsX1_worthOf wsX7_worthEach := goodIn_r _ [6, 7, 8, 9, 10, 11, 31, 32, 33, 34, 35, 36, 37, 38, 39, 40, 41, 42, 43, 44, 45, 46] (by decide +kernel) (by decide +kernel)
set_option maxRecDepth 20000 in
theorem gX1_worthOf_X7_worthEach : GoodIn wsX1_worthOf (wsV RX1 71 RX7 yX7_worthEach wsX7_worthEach) := goodIn_app (goodIn_of _ (by decide +kernel)) ggX1_worthOf_X7_worthEach
set_option maxRecDepth 20000 in
theorem ggX1_worthOf_X1_leftOf : GoodIn wsX1_worthOf wsX1_leftOf := goodIn_r _ [16, 17, 18, 19, 15, 20, 21, 22, 23, 5, 24, 25, 9, 10, 11, 26, 27, 28, 29, 30, 8, 47, 48, 49, 50, 51, 52, 31, 32, 33, 34, 35, 36, 37, 38, 39, 40, 41, 42, 43, 44, 45, 46] (by decide +kernel) (by decide +kernel)
set_option maxRecDepth 20000 in
theorem gX1_worthOf_X1_leftOf : GoodIn wsX1_worthOf (wsV RX1 75 RX1 yX1_leftOf wsX1_leftOf) := goodIn_app (goodIn_of _ (by decide +kernel)) ggX1_worthOf_X1_leftOf
theorem dX1_worthOf_0 : decode cX1_worthOf 0 = .ok (.iconst 0, 1) := by decide +kernel
theorem dX1_worthOf_1 : decode cX1_worthOf 1 = .ok (.istore_n 3, 1) := by decide +kernel
theorem dX1_worthOf_2 : decode cX1_worthOf 2 = .ok (.iconst 0, 1) := by decide +kernel
theorem dX1_worthOf_3 : decode cX1_worthOf 3 = .ok (.istore 4, 2) := by decide +kernel
theorem dX1_worthOf_5 : decode cX1_worthOf 5 = .ok (.iload 4, 2) := by decide +kernel
theorem dX1_worthOf_7 : decode cX1_worthOf 7 = .ok (.aload_n 1, 1) := by decide +kernel
theorem dX1_worthOf_8 : decode cX1_worthOf 8 = .ok (.getfield 68, 3) := by decide +kernel
theorem dX1_worthOf_11 : decode cX1_worthOf 11 = .ok (.if_icmp .ge 27, 3) := by decide +kernel
theorem dX1_worthOf_14 : decode cX1_worthOf 14 = .ok (.iload_n 3, 1) := by decide +kernel
theorem dX1_worthOf_15 : decode cX1_worthOf 15 = .ok (.aload_n 1, 1) := by decide +kernel
theorem dX1_worthOf_16 : decode cX1_worthOf 16 = .ok (.iload 4, 2) := by decide +kernel
theorem dX1_worthOf_18 : decode cX1_worthOf 18 = .ok (.invokevirtual 71, 3) := by decide +kernel
theorem dX1_worthOf_21 : decode cX1_worthOf 21 = .ok (.aload_n 0, 1) := by decide +kernel
theorem dX1_worthOf_22 : decode cX1_worthOf 22 = .ok (.aload_n 1, 1) := by decide +kernel
theorem dX1_worthOf_23 : decode cX1_worthOf 23 = .ok (.iload_n 2, 1) := by decide +kernel
theorem dX1_worthOf_24 : decode cX1_worthOf 24 = .ok (.iload 4, 2) := by decide +kernel
theorem dX1_worthOf_26 : decode cX1_worthOf 26 = .ok (.invokevirtual 75, 3) := by decide +kernel
theorem dX1_worthOf_29 : decode cX1_worthOf 29 = .ok (.imul, 1) := by decide +kernel
theorem dX1_worthOf_30 : decode cX1_worthOf 30 = .ok (.iadd, 1) := by decide +kernel
theorem dX1_worthOf_31 : decode cX1_worthOf 31 = .ok (.istore_n 3, 1) := by decide +kernel
theorem dX1_worthOf_32 : decode cX1_worthOf 32 = .ok (.iinc 4 1, 3) := by decide +kernel
theorem dX1_worthOf_35 : decode cX1_worthOf 35 = .ok (.goto (-30), 3) := by decide +kernel
theorem dX1_worthOf_38 : decode cX1_worthOf 38 = .ok (.iload_n 3, 1) := by decide +kernel
theorem dX1_worthOf_39 : decode cX1_worthOf 39 = .ok (.ireturn, 1) := by decide +kernel
theorem lkX1_worthOf_68 : Cond.fieldLink RX1 68 "LeftAtFive$Street" "goods" "I" ∈ wsX1_worthOf := by decide +kernel
theorem iwX1_worthOf_X7 : ∀ w ∈ wsX70, w ∈ wsX1_worthOf := by decide +kernel
set_option maxHeartbeats 1000000 in
set_option maxRecDepth 100000 in
theorem c_X1_worthOf (l : Launch) (D : va_G) (q : Nat → ClassId) (kd : Nat → Nat) (K : Nat → Int32) (sd : Nat → Nat) (X : Nat → Nat → Int32) (S : Nat → Nat → Int32) (h : Nat) (hT : okT X S) (hh0 : h < 5) : xC l yX1_worthOf wsX1_worthOf ({ frames := 3, cells := 0, slots := 0, locals := 66 }) D (TY q) [wk q kd K, wst q sd X] [.ref (kd 0), .ref (sd 0), .int (nI h)] (xQi D (TY q) (fun (r : Int32) (_ : Unit) => r = kW (S 3) (S 4) (tn (S 2 0)) K h) (fun _ => [wk q kd K, wst q sd X])) 0 0 := by
  refine x_enter (cc := cX1_worthOf) (maxL := 5) (ret := (some .int)) (by decide) rfl (Nat.le_of_ble_eq_true rfl) ?_
  intro p e s m below meth c A ls H locs hfix hr hlocks hinit hM hl
  obtain ⟨hx, hb, hml, hown, hts⟩ := id hfix
  have hl : lv_has ls 5 [(0, .ref (kd 0)), (1, .ref (sd 0)), (2, .int (nI h))] := hl
  have hTb := okT_0b hT
  refine lv_iconst (v := nI 0) hx hb dX1_worthOf_0 (by decide) ?_
  refine lv_istore_n (lv' := [(3, .int (nI 0)), (0, .ref (kd 0)), (1, .ref (sd 0)), (2, .int (nI h))]) hx hb dX1_worthOf_1 rfl hl (by decide) rfl (fun ls hl => ?_)
  refine lv_iconst (v := nI 0) hx hb dX1_worthOf_2 (by decide) ?_
  refine lv_istore (lv' := [(4, .int (nI 0)), (3, .int (nI 0)), (0, .ref (kd 0)), (1, .ref (sd 0)), (2, .int (nI h))]) hx hb dX1_worthOf_3 hl (by decide) rfl (fun ls hl => ?_)
  refine x_loop (ι := Nat) (fun k => [(0, .ref (kd 0)), (1, .ref (sd 0)), (2, .int (nI h)), (3, .int (kWp (S 3) (S 4) K h k)), (4, .int (nI k))]) (fun k => [wk q kd K, wst q sd X]) (fun k => k ≤ (tn (S 2 0))) (fun k => (tn (S 2 0)) - k) 0 (by omega) hM (lv_sub hl [2, 3, 4, 1, 0] rfl) ?_
  intro k hI2 ih1 H locs hM ls hl
  have hM : xM D (TY q) [wk q kd K, wst q sd X] A s.heap s H locs := hM
  have hl : lv_has ls 5 [(0, .ref (kd 0)), (1, .ref (sd 0)), (2, .int (nI h)), (3, .int (kWp (S 3) (S 4) K h k)), (4, .int (nI k))] := hl
  have hI2 : k ≤ (tn (S 2 0)) := hI2
  try dsimp only
  refine lv_iload hx hb dX1_worthOf_5 (lv_at hl 4 rfl) ?_
  refine lv_aload_n hx hb dX1_worthOf_7 rfl (lv_at hl 1 rfl) ?_
  refine x_get hx hb hts iwX1_worthOf_X7 hown hM 1 0 rfl rfl rfl 0 (by decide) (hts _ lkX1_worthOf_68) (fun _ h => h) rfl dX1_worthOf_8 ?_
  refine x_cast (y := nI (tn (S 2 0))) (okT_0 hT) ?_
  refine x_icmp_ge (x := k) (y := tn (S 2 0)) (tgt := 38) hx hb (by omega) (by omega) dX1_worthOf_11 (by decide) (fun c3 => ?_) (fun c3 => ?_)
  · refine lv_iload_n hx hb dX1_worthOf_38 rfl (lv_at hl 3 rfl) ?_
    exact x_iret hx hb hr hlocks () hM (show kWp (S 3) (S 4) K h k = kW (S 3) (S 4) (tn (S 2 0)) K h from by (have hk9 : k = (tn (S 2 0)) := (by omega); rw [hk9]; rfl)) dX1_worthOf_39
  · refine lv_iload_n hx hb dX1_worthOf_14 rfl (lv_at hl 3 rfl) ?_
    refine lv_aload_n hx hb dX1_worthOf_15 rfl (lv_at hl 1 rfl) ?_
    refine lv_iload hx hb dX1_worthOf_16 (lv_at hl 4 rfl) ?_
    refine x_calli (bc := [wst q sd X]) (br := [wk q kd K]) hM [1] [0] rfl rfl rfl (by decide) (x_runV (As := [.int (nI k)]) (rest := [.int (kWp (S 3) (S 4) K h k)]) hfix (c_X7_worthEach l D q sd X S k hT (by omega)) (cwV 1 hts gX1_worthOf_X7_worthEach rfl rfl rfl (by decide +kernel) ⟨Nat.le_of_ble_eq_true rfl, Nat.le_of_ble_eq_true rfl⟩) hM [1] rfl rfl 1 0 rfl rfl rfl rfl rfl hl.1 rfl (Nat.le_of_ble_eq_true rfl) dX1_worthOf_18 ⟨Nat.le_of_ble_eq_true rfl, Nat.le_of_ble_eq_true rfl⟩) (fun r u H locs hq hM => ?_)
    subst hq
    have hM : xM D (TY q) [wk q kd K, wst q sd X] A s.heap s H locs := hM
    refine lv_aload_n hx hb dX1_worthOf_21 rfl (lv_at hl 0 rfl) ?_
    refine lv_aload_n hx hb dX1_worthOf_22 rfl (lv_at hl 1 rfl) ?_
    refine lv_iload_n hx hb dX1_worthOf_23 rfl (lv_at hl 2 rfl) ?_
    refine lv_iload hx hb dX1_worthOf_24 (lv_at hl 4 rfl) ?_
    refine x_calli (bc := [wk q kd K, wst q sd X]) (br := []) hM [0, 1] [] rfl rfl rfl (by decide) (x_runV (As := [.ref (sd 0), .int (nI h), .int (nI k)]) (rest := [.int (S 3 k), .int (kWp (S 3) (S 4) K h k)]) hfix (c_X1_leftOf l D q kd K sd X S h k hT (by omega) (by omega)) (cwV 3 hts gX1_worthOf_X1_leftOf rfl rfl rfl (by decide +kernel) ⟨Nat.le_of_ble_eq_true rfl, Nat.le_of_ble_eq_true rfl⟩) hM [0, 1] rfl rfl 0 0 rfl rfl rfl rfl rfl hl.1 rfl (Nat.le_of_ble_eq_true rfl) dX1_worthOf_26 ⟨Nat.le_of_ble_eq_true rfl, Nat.le_of_ble_eq_true rfl⟩) (fun r u H locs hq hM => ?_)
    subst hq
    have hM : xM D (TY q) [wk q kd K, wst q sd X] A s.heap s H locs := hM
    refine lv_imul hx hb dX1_worthOf_29 ?_
    refine lv_iadd hx hb dX1_worthOf_30 ?_
    refine lv_istore_n (lv' := [(3, .int ((kWp (S 3) (S 4) K h k) + ((S 3 k) * (xlf (S 4 k) (K (5 * h + k)))))), (0, .ref (kd 0)), (1, .ref (sd 0)), (2, .int (nI h)), (4, .int (nI k))]) hx hb dX1_worthOf_31 rfl hl (by decide) rfl (fun ls hl => ?_)
    refine lv_iinc (v := nI (k + 1)) (lv' := [(4, .int (nI (k + 1))), (3, .int ((kWp (S 3) (S 4) K h k) + ((S 3 k) * (xlf (S 4 k) (K (5 * h + k)))))), (0, .ref (kd 0)), (1, .ref (sd 0)), (2, .int (nI h))]) hx hb dX1_worthOf_32 hl (k := 4) rfl (x_inc _ 1) (by decide) rfl (fun ls hl => ?_)
    refine lv_goto (tgt := 5) hx hb dX1_worthOf_35 (by decide) ?_
    have hl : lv_has ls 5 [(0, .ref (kd 0)), (1, .ref (sd 0)), (2, .int (nI h)), (3, .int ((kWp (S 3) (S 4) K h k) + ((S 3 k) * (xlf (S 4 k) (K (5 * h + k)))))), (4, .int (nI (k + 1)))] := lv_sub hl [2, 3, 4, 1, 0] rfl
    exact ih1 (k + 1) (show (tn (S 2 0)) - (k + 1) < (tn (S 2 0)) - k from by omega) (show (k + 1) ≤ (tn (S 2 0)) from by omega) _ _ hM _ hl

set_option maxRecDepth 20000 in
theorem ggX1_worthOfAll_X1_worthOf : GoodIn wsX1_worthOfAll wsX1_worthOf := goodIn_r _ [6, 7, 8, 9, 10, 11, 12, 13, 14, 15, 16, 17, 18, 19, 20, 5, 21, 22, 23, 24, 25, 26, 27, 28, 29, 30, 31, 32, 33, 34, 35, 36, 37, 38, 39, 40, 41, 42, 43, 44, 45, 46, 47, 48, 49, 50, 51, 52, 53, 54, 55, 56, 57] (by decide +kernel) (by decide +kernel)
set_option maxRecDepth 20000 in
theorem gX1_worthOfAll_X1_worthOf : GoodIn wsX1_worthOfAll (wsV RX1 81 RX1 yX1_worthOf wsX1_worthOf) := goodIn_app (goodIn_of _ (by decide +kernel)) ggX1_worthOfAll_X1_worthOf
theorem dX1_worthOfAll_0 : decode cX1_worthOfAll 0 = .ok (.iconst 0, 1) := by decide +kernel
theorem dX1_worthOfAll_1 : decode cX1_worthOfAll 1 = .ok (.istore_n 2, 1) := by decide +kernel
theorem dX1_worthOfAll_2 : decode cX1_worthOfAll 2 = .ok (.iconst 0, 1) := by decide +kernel
theorem dX1_worthOfAll_3 : decode cX1_worthOfAll 3 = .ok (.istore_n 3, 1) := by decide +kernel
theorem dX1_worthOfAll_4 : decode cX1_worthOfAll 4 = .ok (.iload_n 3, 1) := by decide +kernel
theorem dX1_worthOfAll_5 : decode cX1_worthOfAll 5 = .ok (.aload_n 1, 1) := by decide +kernel
theorem dX1_worthOfAll_6 : decode cX1_worthOfAll 6 = .ok (.getfield 78, 3) := by decide +kernel
theorem dX1_worthOfAll_9 : decode cX1_worthOfAll 9 = .ok (.if_icmp .ge 18, 3) := by decide +kernel
theorem dX1_worthOfAll_12 : decode cX1_worthOfAll 12 = .ok (.iload_n 2, 1) := by decide +kernel
theorem dX1_worthOfAll_13 : decode cX1_worthOfAll 13 = .ok (.aload_n 0, 1) := by decide +kernel
theorem dX1_worthOfAll_14 : decode cX1_worthOfAll 14 = .ok (.aload_n 1, 1) := by decide +kernel
theorem dX1_worthOfAll_15 : decode cX1_worthOfAll 15 = .ok (.iload_n 3, 1) := by decide +kernel
theorem dX1_worthOfAll_16 : decode cX1_worthOfAll 16 = .ok (.invokevirtual 81, 3) := by decide +kernel
theorem dX1_worthOfAll_19 : decode cX1_worthOfAll 19 = .ok (.iadd, 1) := by decide +kernel
theorem dX1_worthOfAll_20 : decode cX1_worthOfAll 20 = .ok (.istore_n 2, 1) := by decide +kernel
theorem dX1_worthOfAll_21 : decode cX1_worthOfAll 21 = .ok (.iinc 3 1, 3) := by decide +kernel
theorem dX1_worthOfAll_24 : decode cX1_worthOfAll 24 = .ok (.goto (-20), 3) := by decide +kernel
theorem dX1_worthOfAll_27 : decode cX1_worthOfAll 27 = .ok (.iload_n 2, 1) := by decide +kernel
theorem dX1_worthOfAll_28 : decode cX1_worthOfAll 28 = .ok (.ireturn, 1) := by decide +kernel
theorem lkX1_worthOfAll_78 : Cond.fieldLink RX1 78 "LeftAtFive$Street" "houses" "I" ∈ wsX1_worthOfAll := by decide +kernel
theorem iwX1_worthOfAll_X7 : ∀ w ∈ wsX70, w ∈ wsX1_worthOfAll := by decide +kernel
set_option maxHeartbeats 1000000 in
set_option maxRecDepth 100000 in
theorem c_X1_worthOfAll (l : Launch) (D : va_G) (q : Nat → ClassId) (kd : Nat → Nat) (K : Nat → Int32) (sd : Nat → Nat) (X : Nat → Nat → Int32) (S : Nat → Nat → Int32) (hT : okT X S) : xC l yX1_worthOfAll wsX1_worthOfAll ({ frames := 4, cells := 0, slots := 0, locals := 90 }) D (TY q) [wk q kd K, wst q sd X] [.ref (kd 0), .ref (sd 0)] (xQi D (TY q) (fun (r : Int32) (_ : Unit) => r = kWA (S 3) (S 4) (tn (S 2 0)) (tn (S 5 0)) K) (fun _ => [wk q kd K, wst q sd X])) 0 0 := by
  refine x_enter (cc := cX1_worthOfAll) (maxL := 4) (ret := (some .int)) (by decide) rfl (Nat.le_of_ble_eq_true rfl) ?_
  intro p e s m below meth c A ls H locs hfix hr hlocks hinit hM hl
  obtain ⟨hx, hb, hml, hown, hts⟩ := id hfix
  have hl : lv_has ls 4 [(0, .ref (kd 0)), (1, .ref (sd 0))] := hl
  have hTb := okT_1b hT
  refine lv_iconst (v := nI 0) hx hb dX1_worthOfAll_0 (by decide) ?_
  refine lv_istore_n (lv' := [(2, .int (nI 0)), (0, .ref (kd 0)), (1, .ref (sd 0))]) hx hb dX1_worthOfAll_1 rfl hl (by decide) rfl (fun ls hl => ?_)
  refine lv_iconst (v := nI 0) hx hb dX1_worthOfAll_2 (by decide) ?_
  refine lv_istore_n (lv' := [(3, .int (nI 0)), (2, .int (nI 0)), (0, .ref (kd 0)), (1, .ref (sd 0))]) hx hb dX1_worthOfAll_3 rfl hl (by decide) rfl (fun ls hl => ?_)
  refine x_loop (ι := Nat) (fun k => [(0, .ref (kd 0)), (1, .ref (sd 0)), (2, .int (xsum (fun h => kW (S 3) (S 4) (tn (S 2 0)) K h) k)), (3, .int (nI k))]) (fun k => [wk q kd K, wst q sd X]) (fun k => k ≤ (tn (S 5 0))) (fun k => (tn (S 5 0)) - k) 0 (by omega) hM (lv_sub hl [2, 3, 1, 0] rfl) ?_
  intro k hI2 ih1 H locs hM ls hl
  have hM : xM D (TY q) [wk q kd K, wst q sd X] A s.heap s H locs := hM
  have hl : lv_has ls 4 [(0, .ref (kd 0)), (1, .ref (sd 0)), (2, .int (xsum (fun h => kW (S 3) (S 4) (tn (S 2 0)) K h) k)), (3, .int (nI k))] := hl
  have hI2 : k ≤ (tn (S 5 0)) := hI2
  try dsimp only
  refine lv_iload_n hx hb dX1_worthOfAll_4 rfl (lv_at hl 3 rfl) ?_
  refine lv_aload_n hx hb dX1_worthOfAll_5 rfl (lv_at hl 1 rfl) ?_
  refine x_get hx hb hts iwX1_worthOfAll_X7 hown hM 1 0 rfl rfl rfl 1 (by decide) (hts _ lkX1_worthOfAll_78) (fun _ h => h) rfl dX1_worthOfAll_6 ?_
  refine x_cast (y := nI (tn (S 5 0))) (okT_1 hT) ?_
  refine x_icmp_ge (x := k) (y := tn (S 5 0)) (tgt := 27) hx hb (by omega) (by omega) dX1_worthOfAll_9 (by decide) (fun c3 => ?_) (fun c3 => ?_)
  · refine lv_iload_n hx hb dX1_worthOfAll_27 rfl (lv_at hl 2 rfl) ?_
    exact x_iret hx hb hr hlocks () hM (show xsum (fun h => kW (S 3) (S 4) (tn (S 2 0)) K h) k = kWA (S 3) (S 4) (tn (S 2 0)) (tn (S 5 0)) K from by (have hk9 : k = (tn (S 5 0)) := (by omega); rw [hk9]; rfl)) dX1_worthOfAll_28
  · refine lv_iload_n hx hb dX1_worthOfAll_12 rfl (lv_at hl 2 rfl) ?_
    refine lv_aload_n hx hb dX1_worthOfAll_13 rfl (lv_at hl 0 rfl) ?_
    refine lv_aload_n hx hb dX1_worthOfAll_14 rfl (lv_at hl 1 rfl) ?_
    refine lv_iload_n hx hb dX1_worthOfAll_15 rfl (lv_at hl 3 rfl) ?_
    refine x_calli (bc := [wk q kd K, wst q sd X]) (br := []) hM [0, 1] [] rfl rfl rfl (by decide) (x_runV (As := [.ref (sd 0), .int (nI k)]) (rest := [.int (xsum (fun h => kW (S 3) (S 4) (tn (S 2 0)) K h) k)]) hfix (c_X1_worthOf l D q kd K sd X S k hT (by omega)) (cwV 2 hts gX1_worthOfAll_X1_worthOf rfl rfl rfl (by decide +kernel) ⟨Nat.le_of_ble_eq_true rfl, Nat.le_of_ble_eq_true rfl⟩) hM [0, 1] rfl rfl 0 0 rfl rfl rfl rfl rfl hl.1 rfl (Nat.le_of_ble_eq_true rfl) dX1_worthOfAll_16 ⟨Nat.le_of_ble_eq_true rfl, Nat.le_of_ble_eq_true rfl⟩) (fun r u H locs hq hM => ?_)
    subst hq
    have hM : xM D (TY q) [wk q kd K, wst q sd X] A s.heap s H locs := hM
    refine lv_iadd hx hb dX1_worthOfAll_19 ?_
    refine lv_istore_n (lv' := [(2, .int ((xsum (fun h => kW (S 3) (S 4) (tn (S 2 0)) K h) k) + (kW (S 3) (S 4) (tn (S 2 0)) K k))), (0, .ref (kd 0)), (1, .ref (sd 0)), (3, .int (nI k))]) hx hb dX1_worthOfAll_20 rfl hl (by decide) rfl (fun ls hl => ?_)
    refine lv_iinc (v := nI (k + 1)) (lv' := [(3, .int (nI (k + 1))), (2, .int ((xsum (fun h => kW (S 3) (S 4) (tn (S 2 0)) K h) k) + (kW (S 3) (S 4) (tn (S 2 0)) K k))), (0, .ref (kd 0)), (1, .ref (sd 0))]) hx hb dX1_worthOfAll_21 hl (k := 3) rfl (x_inc _ 1) (by decide) rfl (fun ls hl => ?_)
    refine lv_goto (tgt := 4) hx hb dX1_worthOfAll_24 (by decide) ?_
    have hl : lv_has ls 4 [(0, .ref (kd 0)), (1, .ref (sd 0)), (2, .int ((xsum (fun h => kW (S 3) (S 4) (tn (S 2 0)) K h) k) + (kW (S 3) (S 4) (tn (S 2 0)) K k))), (3, .int (nI (k + 1)))] := lv_sub hl [2, 3, 1, 0] rfl
    exact ih1 (k + 1) (show (tn (S 5 0)) - (k + 1) < (tn (S 5 0)) - k from by omega) (show (k + 1) ≤ (tn (S 5 0)) from by omega) _ _ hM _ hl

set_option maxRecDepth 20000 in
theorem ggX1_canSpare_X1_piecesOf : GoodIn wsX1_canSpare wsX1_piecesOf := goodIn_r _ [6, 7, 8, 9, 10, 11, 12, 13, 14, 15, 16, 17, 18, 19, 20, 21] (by decide +kernel) (by decide +kernel)
set_option maxRecDepth 20000 in
theorem gX1_canSpare_X1_piecesOf : GoodIn wsX1_canSpare (wsV RX1 62 RX1 yX1_piecesOf wsX1_piecesOf) := goodIn_app (goodIn_of _ (by decide +kernel)) ggX1_canSpare_X1_piecesOf
theorem dX1_canSpare_0 : decode cX1_canSpare 0 = .ok (.aload_n 0, 1) := by decide +kernel
theorem dX1_canSpare_1 : decode cX1_canSpare 1 = .ok (.getfield 24, 3) := by decide +kernel
theorem dX1_canSpare_4 : decode cX1_canSpare 4 = .ok (.bipush 60, 2) := by decide +kernel
theorem dX1_canSpare_6 : decode cX1_canSpare 6 = .ok (.if_icmp .ge 17, 3) := by decide +kernel
theorem dX1_canSpare_9 : decode cX1_canSpare 9 = .ok (.aload_n 0, 1) := by decide +kernel
theorem dX1_canSpare_10 : decode cX1_canSpare 10 = .ok (.iload_n 1, 1) := by decide +kernel
theorem dX1_canSpare_11 : decode cX1_canSpare 11 = .ok (.iload_n 2, 1) := by decide +kernel
theorem dX1_canSpare_12 : decode cX1_canSpare 12 = .ok (.invokevirtual 62, 3) := by decide +kernel
theorem dX1_canSpare_15 : decode cX1_canSpare 15 = .ok (.iload_n 3, 1) := by decide +kernel
theorem dX1_canSpare_16 : decode cX1_canSpare 16 = .ok (.if_icmp .lt 7, 3) := by decide +kernel
theorem dX1_canSpare_19 : decode cX1_canSpare 19 = .ok (.iconst 1, 1) := by decide +kernel
theorem dX1_canSpare_20 : decode cX1_canSpare 20 = .ok (.goto 4, 3) := by decide +kernel
theorem dX1_canSpare_23 : decode cX1_canSpare 23 = .ok (.iconst 0, 1) := by decide +kernel
theorem dX1_canSpare_24 : decode cX1_canSpare 24 = .ok (.ireturn, 1) := by decide +kernel
theorem lkX1_canSpare_24 : Cond.fieldLink RX1 24 "LeftAtFive$Kitchens" "minute" "I" ∈ wsX1_canSpare := by decide +kernel
theorem iwX1_canSpare_X1 : ∀ w ∈ wsX10, w ∈ wsX1_canSpare := by decide +kernel
set_option maxHeartbeats 1000000 in
set_option maxRecDepth 100000 in
theorem c_X1_canSpare (l : Launch) (D : va_G) (q : Nat → ClassId) (kd : Nat → Nat) (K : Nat → Int32) (h : Nat) (g : Nat) (n : Int32) (hh0 : h < 5) (hg0 : g < 5) (hK : okK K) : xC l yX1_canSpare wsX1_canSpare ({ frames := 2, cells := 0, slots := 0, locals := 43 }) D (TY q) [wk q kd K] [.ref (kd 0), .int (nI h), .int (nI g), .int n] (xQi D (TY q) (fun (r : Int32) (_ : Unit) => r = zb (tn (K 25) < 60 ∧ n ≤ K (5 * h + g))) (fun _ => [wk q kd K])) 0 0 := by
  refine x_enter (cc := cX1_canSpare) (maxL := 4) (ret := (some .boolean)) (by decide) rfl (Nat.le_of_ble_eq_true rfl) ?_
  intro p e s m below meth c A ls H locs hfix hr hlocks hinit hM hl
  obtain ⟨hx, hb, hml, hown, hts⟩ := id hfix
  have hl : lv_has ls 4 [(0, .ref (kd 0)), (1, .int (nI h)), (2, .int (nI g)), (3, .int n)] := hl
  have hK2 := hK.1.2
  refine lv_aload_n hx hb dX1_canSpare_0 rfl (lv_at hl 0 rfl) ?_
  refine x_get hx hb hts iwX1_canSpare_X1 hown hM 0 0 rfl rfl rfl 0 (by decide) (hts _ lkX1_canSpare_24) (fun _ h => h) rfl dX1_canSpare_1 ?_
  refine x_cast (y := nI (tn (K 25))) hK.1.1 ?_
  refine lv_bipush (v := nI 60) hx hb dX1_canSpare_4 (by decide) ?_
  refine x_icmp_ge (x := tn (K 25)) (y := 60) (tgt := 23) hx hb (by omega) (by omega) dX1_canSpare_6 (by decide) (fun c1 => ?_) (fun c1 => ?_)
  · refine lv_iconst (v := nI 0) hx hb dX1_canSpare_23 (by decide) ?_
    exact x_zret hx hb hr hlocks () hM rfl (show nI 0 = zb (tn (K 25) < 60 ∧ n ≤ K (5 * h + g)) from by (first | exact zb_t' ⟨by omega, Int32.not_lt.mp (by assumption)⟩ | exact zb_f' (fun z => absurd z.1 (by omega)) | exact zb_f' (fun z => absurd z.2 (Int32.not_le.mpr (by assumption))))) dX1_canSpare_24
  · refine lv_aload_n hx hb dX1_canSpare_9 rfl (lv_at hl 0 rfl) ?_
    refine lv_iload_n hx hb dX1_canSpare_10 rfl (lv_at hl 1 rfl) ?_
    refine lv_iload_n hx hb dX1_canSpare_11 rfl (lv_at hl 2 rfl) ?_
    refine x_calli (bc := [wk q kd K]) (br := []) hM [0] [] rfl rfl rfl (by decide) (x_runV (As := [.int (nI h), .int (nI g)]) (rest := []) hfix (c_X1_piecesOf l D q kd K h g (by omega) (by omega)) (cwV 2 hts gX1_canSpare_X1_piecesOf rfl rfl rfl (by decide +kernel) ⟨Nat.le_of_ble_eq_true rfl, Nat.le_of_ble_eq_true rfl⟩) hM [0] rfl rfl 0 0 rfl rfl rfl rfl rfl hl.1 rfl (Nat.le_of_ble_eq_true rfl) dX1_canSpare_12 ⟨Nat.le_of_ble_eq_true rfl, Nat.le_of_ble_eq_true rfl⟩) (fun r u H locs hq hM => ?_)
    subst hq
    have hM : xM D (TY q) [wk q kd K] A s.heap s H locs := hM
    refine lv_iload_n hx hb dX1_canSpare_15 rfl (lv_at hl 3 rfl) ?_
    refine lv_icmp_lt (tgt := 23) hx hb dX1_canSpare_16 (by decide) (fun c2 => ?_) (fun c2 => ?_)
    · refine lv_iconst (v := nI 0) hx hb dX1_canSpare_23 (by decide) ?_
      exact x_zret hx hb hr hlocks () hM rfl (show nI 0 = zb (tn (K 25) < 60 ∧ n ≤ K (5 * h + g)) from by (first | exact zb_t' ⟨by omega, Int32.not_lt.mp (by assumption)⟩ | exact zb_f' (fun z => absurd z.1 (by omega)) | exact zb_f' (fun z => absurd z.2 (Int32.not_le.mpr (by assumption))))) dX1_canSpare_24
    · refine lv_iconst (v := nI 1) hx hb dX1_canSpare_19 (by decide) ?_
      refine lv_goto (tgt := 24) hx hb dX1_canSpare_20 (by decide) ?_
      exact x_zret hx hb hr hlocks () hM rfl (show nI 1 = zb (tn (K 25) < 60 ∧ n ≤ K (5 * h + g)) from by (first | exact zb_t' ⟨by omega, Int32.not_lt.mp (by assumption)⟩ | exact zb_f' (fun z => absurd z.1 (by omega)) | exact zb_f' (fun z => absurd z.2 (Int32.not_le.mpr (by assumption))))) dX1_canSpare_24

set_option maxRecDepth 20000 in
theorem ggX1_arrivalOf_X1_canSpare : GoodIn wsX1_arrivalOf wsX1_canSpare := goodIn_r _ [7, 2, 8, 9, 10, 6, 11, 12, 13, 14, 15, 16, 17, 18, 19, 20, 35, 36, 37, 38, 39, 40] (by decide +kernel) (by decide +kernel)
set_option maxRecDepth 20000 in
theorem gX1_arrivalOf_X1_canSpare : GoodIn wsX1_arrivalOf (wsV RX1 85 RX1 yX1_canSpare wsX1_canSpare) := goodIn_app (goodIn_of _ (by decide +kernel)) ggX1_arrivalOf_X1_canSpare
set_option maxRecDepth 20000 in
theorem ggX1_arrivalOf_X7_cellsBetween : GoodIn wsX1_arrivalOf wsX7_cellsBetween := goodIn_r _ [24, 25, 26, 27, 28, 29, 30, 31, 15, 32, 33, 34, 18, 19, 20, 41, 42, 43, 44, 45, 46, 47, 48, 49, 50, 51, 52, 53, 54, 55, 56] (by decide +kernel) (by decide +kernel)
set_option maxRecDepth 20000 in
theorem gX1_arrivalOf_X7_cellsBetween : GoodIn wsX1_arrivalOf (wsV RX1 89 RX7 yX7_cellsBetween wsX7_cellsBetween) := goodIn_app (goodIn_of _ (by decide +kernel)) ggX1_arrivalOf_X7_cellsBetween
theorem dX1_arrivalOf_0 : decode cX1_arrivalOf 0 = .ok (.aload_n 0, 1) := by decide +kernel
theorem dX1_arrivalOf_1 : decode cX1_arrivalOf 1 = .ok (.iload_n 2, 1) := by decide +kernel
theorem dX1_arrivalOf_2 : decode cX1_arrivalOf 2 = .ok (.iload 4, 2) := by decide +kernel
theorem dX1_arrivalOf_4 : decode cX1_arrivalOf 4 = .ok (.iload 5, 2) := by decide +kernel
theorem dX1_arrivalOf_6 : decode cX1_arrivalOf 6 = .ok (.invokevirtual 85, 3) := by decide +kernel
theorem dX1_arrivalOf_9 : decode cX1_arrivalOf 9 = .ok (.ifCond .ne 6, 3) := by decide +kernel
theorem dX1_arrivalOf_12 : decode cX1_arrivalOf 12 = .ok (.bipush (-2), 2) := by decide +kernel
theorem dX1_arrivalOf_14 : decode cX1_arrivalOf 14 = .ok (.ireturn, 1) := by decide +kernel
theorem dX1_arrivalOf_15 : decode cX1_arrivalOf 15 = .ok (.aload_n 1, 1) := by decide +kernel
theorem dX1_arrivalOf_16 : decode cX1_arrivalOf 16 = .ok (.iload_n 2, 1) := by decide +kernel
theorem dX1_arrivalOf_17 : decode cX1_arrivalOf 17 = .ok (.iload_n 3, 1) := by decide +kernel
theorem dX1_arrivalOf_18 : decode cX1_arrivalOf 18 = .ok (.invokevirtual 89, 3) := by decide +kernel
theorem dX1_arrivalOf_21 : decode cX1_arrivalOf 21 = .ok (.istore 6, 2) := by decide +kernel
theorem dX1_arrivalOf_23 : decode cX1_arrivalOf 23 = .ok (.iload 6, 2) := by decide +kernel
theorem dX1_arrivalOf_25 : decode cX1_arrivalOf 25 = .ok (.ifCond .le 17, 3) := by decide +kernel
theorem dX1_arrivalOf_28 : decode cX1_arrivalOf 28 = .ok (.aload_n 0, 1) := by decide +kernel
theorem dX1_arrivalOf_29 : decode cX1_arrivalOf 29 = .ok (.getfield 28, 3) := by decide +kernel
theorem dX1_arrivalOf_32 : decode cX1_arrivalOf 32 = .ok (.bipush 6, 2) := by decide +kernel
theorem dX1_arrivalOf_34 : decode cX1_arrivalOf 34 = .ok (.if_icmp .lt 8, 3) := by decide +kernel
theorem dX1_arrivalOf_37 : decode cX1_arrivalOf 37 = .ok (.bipush (-3), 2) := by decide +kernel
theorem dX1_arrivalOf_39 : decode cX1_arrivalOf 39 = .ok (.goto 10, 3) := by decide +kernel
theorem dX1_arrivalOf_42 : decode cX1_arrivalOf 42 = .ok (.aload_n 0, 1) := by decide +kernel
theorem dX1_arrivalOf_43 : decode cX1_arrivalOf 43 = .ok (.getfield 24, 3) := by decide +kernel
theorem dX1_arrivalOf_46 : decode cX1_arrivalOf 46 = .ok (.iload 6, 2) := by decide +kernel
theorem dX1_arrivalOf_48 : decode cX1_arrivalOf 48 = .ok (.iadd, 1) := by decide +kernel
theorem dX1_arrivalOf_49 : decode cX1_arrivalOf 49 = .ok (.ireturn, 1) := by decide +kernel
theorem lkX1_arrivalOf_24 : Cond.fieldLink RX1 24 "LeftAtFive$Kitchens" "minute" "I" ∈ wsX1_arrivalOf := by decide +kernel
theorem lkX1_arrivalOf_28 : Cond.fieldLink RX1 28 "LeftAtFive$Kitchens" "ways" "I" ∈ wsX1_arrivalOf := by decide +kernel
theorem iwX1_arrivalOf_X1 : ∀ w ∈ wsX10, w ∈ wsX1_arrivalOf := by decide +kernel
set_option maxHeartbeats 1000000 in
set_option maxRecDepth 100000 in
theorem c_X1_arrivalOf (l : Launch) (D : va_G) (q : Nat → ClassId) (kd : Nat → Nat) (K : Nat → Int32) (sd : Nat → Nat) (X : Nat → Nat → Int32) (S : Nat → Nat → Int32) (h : Nat) (to : Nat) (g : Nat) (n : Int32) (hT : okT X S) (hh0 : h < (tn (S 5 0))) (hto0 : to < (tn (S 5 0))) (hg0 : g < (tn (S 2 0))) (hK : okK K) : xC l yX1_arrivalOf wsX1_arrivalOf ({ frames := 3, cells := 0, slots := 0, locals := 66 }) D (TY q) [wk q kd K, wst q sd X] [.ref (kd 0), .ref (sd 0), .int (nI h), .int (nI to), .int (nI g), .int n] (xQi D (TY q) (fun (r : Int32) (_ : Unit) => r = xarr K (S 6 h) (S 6 to) (5 * h + g) n) (fun _ => [wk q kd K, wst q sd X])) 0 0 := by
  refine x_enter (cc := cX1_arrivalOf) (maxL := 7) (ret := (some .int)) (by decide) rfl (Nat.le_of_ble_eq_true rfl) ?_
  intro p e s m below meth c A ls H locs hfix hr hlocks hinit hM hl
  obtain ⟨hx, hb, hml, hown, hts⟩ := id hfix
  have hl : lv_has ls 7 [(0, .ref (kd 0)), (1, .ref (sd 0)), (2, .int (nI h)), (3, .int (nI to)), (4, .int (nI g)), (5, .int n)] := hl
  have hTb0 := okT_0b hT
  have hTb1 := okT_1b hT
  have hK25 := hK.1.2
  have hK26 := hK.2.1.2
  have hxa := xap_nat (okT_cb hT hh0) (okT_cb hT hto0)
  have hxb := hxa.2
  have hx0 := xap_0 (okT_cb hT hh0) (okT_cb hT hto0)
  refine lv_aload_n hx hb dX1_arrivalOf_0 rfl (lv_at hl 0 rfl) ?_
  refine lv_iload_n hx hb dX1_arrivalOf_1 rfl (lv_at hl 2 rfl) ?_
  refine lv_iload hx hb dX1_arrivalOf_2 (lv_at hl 4 rfl) ?_
  refine lv_iload hx hb dX1_arrivalOf_4 (lv_at hl 5 rfl) ?_
  refine x_calli (bc := [wk q kd K]) (br := [wst q sd X]) hM [0] [1] rfl rfl rfl (by decide) (x_runV (As := [.int (nI h), .int (nI g), .int n]) (rest := []) hfix (c_X1_canSpare l D q kd K h g n (by omega) (by omega) hK) (cwV 3 hts gX1_arrivalOf_X1_canSpare rfl rfl rfl (by decide +kernel) ⟨Nat.le_of_ble_eq_true rfl, Nat.le_of_ble_eq_true rfl⟩) hM [0] rfl rfl 0 0 rfl rfl rfl rfl rfl hl.1 rfl (Nat.le_of_ble_eq_true rfl) dX1_arrivalOf_6 ⟨Nat.le_of_ble_eq_true rfl, Nat.le_of_ble_eq_true rfl⟩) (fun r u H locs hq hM => ?_)
  subst hq
  have hM : xM D (TY q) [wst q sd X, wk q kd K] A s.heap s H locs := hM
  have hM : xM D (TY q) [wk q kd K, wst q sd X] A s.heap s H locs := hM.sel [1, 0] rfl rfl
  refine x_ifz_ne (P := tn (K 25) < 60 ∧ n ≤ K (5 * h + g)) (tgt := 15) hx hb dX1_arrivalOf_9 (by decide) (fun c1 => ?_) (fun c1 => ?_)
  · refine lv_aload_n hx hb dX1_arrivalOf_15 rfl (lv_at hl 1 rfl) ?_
    refine lv_iload_n hx hb dX1_arrivalOf_16 rfl (lv_at hl 2 rfl) ?_
    refine lv_iload_n hx hb dX1_arrivalOf_17 rfl (lv_at hl 3 rfl) ?_
    refine x_calli (bc := [wst q sd X]) (br := [wk q kd K]) hM [1] [0] rfl rfl rfl (by decide) (x_runV (As := [.int (nI h), .int (nI to)]) (rest := []) hfix (c_X7_cellsBetween l D q sd X S h to hT (by omega) (by omega)) (cwV 2 hts gX1_arrivalOf_X7_cellsBetween rfl rfl rfl (by decide +kernel) ⟨Nat.le_of_ble_eq_true rfl, Nat.le_of_ble_eq_true rfl⟩) hM [1] rfl rfl 1 0 rfl rfl rfl rfl rfl hl.1 rfl (Nat.le_of_ble_eq_true rfl) dX1_arrivalOf_18 ⟨Nat.le_of_ble_eq_true rfl, Nat.le_of_ble_eq_true rfl⟩) (fun r u H locs hq hM => ?_)
    subst hq
    have hM : xM D (TY q) [wk q kd K, wst q sd X] A s.heap s H locs := hM
    refine x_cast (y := nI (tn (xap (S 6 h) (S 6 to)))) hxa.1 ?_
    refine lv_istore (lv' := [(6, .int (nI (tn (xap (S 6 h) (S 6 to))))), (0, .ref (kd 0)), (1, .ref (sd 0)), (2, .int (nI h)), (3, .int (nI to)), (4, .int (nI g)), (5, .int n)]) hx hb dX1_arrivalOf_21 hl (by decide) rfl (fun ls hl => ?_)
    refine lv_iload hx hb dX1_arrivalOf_23 (lv_at hl 0 rfl) ?_
    refine x_if_le (x := tn (xap (S 6 h) (S 6 to))) (tgt := 42) hx hb (by omega) dX1_arrivalOf_25 (by decide) (fun c2 => ?_) (fun c2 => ?_)
    · refine lv_aload_n hx hb dX1_arrivalOf_42 rfl (lv_at hl 1 rfl) ?_
      refine x_get hx hb hts iwX1_arrivalOf_X1 hown hM 0 0 rfl rfl rfl 0 (by decide) (hts _ lkX1_arrivalOf_24) (fun _ h => h) rfl dX1_arrivalOf_43 ?_
      refine x_cast (y := nI (tn (K 25))) hK.1.1 ?_
      refine lv_iload hx hb dX1_arrivalOf_46 (lv_at hl 0 rfl) ?_
      refine x_iadd (x := tn (K 25)) (y := tn (xap (S 6 h) (S 6 to))) hx hb dX1_arrivalOf_48 ?_
      exact x_iret hx hb hr hlocks () hM (show nI (tn (K 25) + (tn (xap (S 6 h) (S 6 to)))) = xarr K (S 6 h) (S 6 to) (5 * h + g) n from by (first | exact (xarr_1 hK (by assumption)).symm | exact (xarr_2 hK (by assumption) hx0 hxa (by assumption) (by omega)).symm | exact (xarr_3 hK (by assumption) hx0 hxa (by omega)).symm)) dX1_arrivalOf_49
    · refine lv_aload_n hx hb dX1_arrivalOf_28 rfl (lv_at hl 1 rfl) ?_
      refine x_get hx hb hts iwX1_arrivalOf_X1 hown hM 0 0 rfl rfl rfl 1 (by decide) (hts _ lkX1_arrivalOf_28) (fun _ h => h) rfl dX1_arrivalOf_29 ?_
      refine x_cast (y := nI (tn (K 26))) hK.2.1.1 ?_
      refine lv_bipush (v := nI 6) hx hb dX1_arrivalOf_32 (by decide) ?_
      refine x_icmp_lt (x := tn (K 26)) (y := 6) (tgt := 42) hx hb (by omega) (by omega) dX1_arrivalOf_34 (by decide) (fun c3 => ?_) (fun c3 => ?_)
      · refine lv_aload_n hx hb dX1_arrivalOf_42 rfl (lv_at hl 1 rfl) ?_
        refine x_get hx hb hts iwX1_arrivalOf_X1 hown hM 0 0 rfl rfl rfl 0 (by decide) (hts _ lkX1_arrivalOf_24) (fun _ h => h) rfl dX1_arrivalOf_43 ?_
        refine x_cast (y := nI (tn (K 25))) hK.1.1 ?_
        refine lv_iload hx hb dX1_arrivalOf_46 (lv_at hl 0 rfl) ?_
        refine x_iadd (x := tn (K 25)) (y := tn (xap (S 6 h) (S 6 to))) hx hb dX1_arrivalOf_48 ?_
        exact x_iret hx hb hr hlocks () hM (show nI (tn (K 25) + (tn (xap (S 6 h) (S 6 to)))) = xarr K (S 6 h) (S 6 to) (5 * h + g) n from by (first | exact (xarr_1 hK (by assumption)).symm | exact (xarr_2 hK (by assumption) hx0 hxa (by assumption) (by omega)).symm | exact (xarr_3 hK (by assumption) hx0 hxa (by omega)).symm)) dX1_arrivalOf_49
      · refine lv_bipush (v := (-3)) hx hb dX1_arrivalOf_37 (by decide) ?_
        refine lv_goto (tgt := 49) hx hb dX1_arrivalOf_39 (by decide) ?_
        exact x_iret hx hb hr hlocks () hM (show (-3) = xarr K (S 6 h) (S 6 to) (5 * h + g) n from by (first | exact (xarr_1 hK (by assumption)).symm | exact (xarr_2 hK (by assumption) hx0 hxa (by assumption) (by omega)).symm | exact (xarr_3 hK (by assumption) hx0 hxa (by omega)).symm)) dX1_arrivalOf_49
  · refine lv_bipush (v := (-2)) hx hb dX1_arrivalOf_12 (by decide) ?_
    exact x_iret hx hb hr hlocks () hM (show (-2) = xarr K (S 6 h) (S 6 to) (5 * h + g) n from by (first | exact (xarr_1 hK (by assumption)).symm | exact (xarr_2 hK (by assumption) hx0 hxa (by assumption) (by omega)).symm | exact (xarr_3 hK (by assumption) hx0 hxa (by omega)).symm)) dX1_arrivalOf_14

set_option maxRecDepth 20000 in
theorem ggX1_send_X7_cellsBetween : GoodIn wsX1_send wsX7_cellsBetween := goodIn_r _ [8, 9, 10, 11, 12, 13, 14, 15, 7, 16, 17, 18, 19, 20, 21, 43, 44, 45, 46, 47, 48, 49, 50, 51, 52, 53, 54, 55, 56, 57, 58] (by decide +kernel) (by decide +kernel)
set_option maxRecDepth 20000 in
theorem gX1_send_X7_cellsBetween : GoodIn wsX1_send (wsV RX1 89 RX7 yX7_cellsBetween wsX7_cellsBetween) := goodIn_app (goodIn_of _ (by decide +kernel)) ggX1_send_X7_cellsBetween
set_option maxRecDepth 20000 in
theorem ggX1_send_X1_add : GoodIn wsX1_send wsX1_add := goodIn_r _ [26, 27, 28, 29, 7, 30, 31, 32, 20, 33, 37, 38, 39, 40, 41, 42] (by decide +kernel) (by decide +kernel)
set_option maxRecDepth 20000 in
theorem gX1_send_X1_add : GoodIn wsX1_send (wsV RX1 92 RX1 yX1_add wsX1_add) := goodIn_app (goodIn_of _ (by decide +kernel)) ggX1_send_X1_add
set_option maxRecDepth 20000 in
theorem ggX1_send_X5_put : GoodIn wsX1_send wsX5_put := goodIn_r _ [36] (by decide +kernel) (by decide +kernel)
set_option maxRecDepth 20000 in
theorem gX1_send_X5_put : GoodIn wsX1_send (va_wsS RX1 95 yX5_put wsX5_put) := goodIn_app (goodIn_of _ (by decide +kernel)) ggX1_send_X5_put
theorem dX1_send_0 : decode cX1_send 0 = .ok (.aload_n 1, 1) := by decide +kernel
theorem dX1_send_1 : decode cX1_send 1 = .ok (.iload_n 2, 1) := by decide +kernel
theorem dX1_send_2 : decode cX1_send 2 = .ok (.iload_n 3, 1) := by decide +kernel
theorem dX1_send_3 : decode cX1_send 3 = .ok (.invokevirtual 89, 3) := by decide +kernel
theorem dX1_send_6 : decode cX1_send 6 = .ok (.istore 6, 2) := by decide +kernel
theorem dX1_send_8 : decode cX1_send 8 = .ok (.aload_n 0, 1) := by decide +kernel
theorem dX1_send_9 : decode cX1_send 9 = .ok (.iload_n 2, 1) := by decide +kernel
theorem dX1_send_10 : decode cX1_send 10 = .ok (.iload 4, 2) := by decide +kernel
theorem dX1_send_12 : decode cX1_send 12 = .ok (.iload 5, 2) := by decide +kernel
theorem dX1_send_14 : decode cX1_send 14 = .ok (.ineg, 1) := by decide +kernel
theorem dX1_send_15 : decode cX1_send 15 = .ok (.invokevirtual 92, 3) := by decide +kernel
theorem dX1_send_18 : decode cX1_send 18 = .ok (.iload 6, 2) := by decide +kernel
theorem dX1_send_20 : decode cX1_send 20 = .ok (.ifCond .ne 13, 3) := by decide +kernel
theorem dX1_send_23 : decode cX1_send 23 = .ok (.aload_n 0, 1) := by decide +kernel
theorem dX1_send_24 : decode cX1_send 24 = .ok (.iload_n 3, 1) := by decide +kernel
theorem dX1_send_25 : decode cX1_send 25 = .ok (.iload 4, 2) := by decide +kernel
theorem dX1_send_27 : decode cX1_send 27 = .ok (.iload 5, 2) := by decide +kernel
theorem dX1_send_29 : decode cX1_send 29 = .ok (.invokevirtual 92, 3) := by decide +kernel
theorem dX1_send_32 : decode cX1_send 32 = .ok (.return_, 1) := by decide +kernel
theorem dX1_send_33 : decode cX1_send 33 = .ok (.aload_n 0, 1) := by decide +kernel
theorem dX1_send_34 : decode cX1_send 34 = .ok (.getfield 21, 3) := by decide +kernel
theorem dX1_send_37 : decode cX1_send 37 = .ok (.aload_n 0, 1) := by decide +kernel
theorem dX1_send_38 : decode cX1_send 38 = .ok (.getfield 28, 3) := by decide +kernel
theorem dX1_send_41 : decode cX1_send 41 = .ok (.iconst 4, 1) := by decide +kernel
theorem dX1_send_42 : decode cX1_send 42 = .ok (.imul, 1) := by decide +kernel
theorem dX1_send_43 : decode cX1_send 43 = .ok (.iload_n 3, 1) := by decide +kernel
theorem dX1_send_44 : decode cX1_send 44 = .ok (.invokestatic 95, 3) := by decide +kernel
theorem dX1_send_47 : decode cX1_send 47 = .ok (.aload_n 0, 1) := by decide +kernel
theorem dX1_send_48 : decode cX1_send 48 = .ok (.getfield 21, 3) := by decide +kernel
theorem dX1_send_51 : decode cX1_send 51 = .ok (.aload_n 0, 1) := by decide +kernel
theorem dX1_send_52 : decode cX1_send 52 = .ok (.getfield 28, 3) := by decide +kernel
theorem dX1_send_55 : decode cX1_send 55 = .ok (.iconst 4, 1) := by decide +kernel
theorem dX1_send_56 : decode cX1_send 56 = .ok (.imul, 1) := by decide +kernel
theorem dX1_send_57 : decode cX1_send 57 = .ok (.iconst 1, 1) := by decide +kernel
theorem dX1_send_58 : decode cX1_send 58 = .ok (.iadd, 1) := by decide +kernel
theorem dX1_send_59 : decode cX1_send 59 = .ok (.iload 4, 2) := by decide +kernel
theorem dX1_send_61 : decode cX1_send 61 = .ok (.invokestatic 95, 3) := by decide +kernel
theorem dX1_send_64 : decode cX1_send 64 = .ok (.aload_n 0, 1) := by decide +kernel
theorem dX1_send_65 : decode cX1_send 65 = .ok (.getfield 21, 3) := by decide +kernel
theorem dX1_send_68 : decode cX1_send 68 = .ok (.aload_n 0, 1) := by decide +kernel
theorem dX1_send_69 : decode cX1_send 69 = .ok (.getfield 28, 3) := by decide +kernel
theorem dX1_send_72 : decode cX1_send 72 = .ok (.iconst 4, 1) := by decide +kernel
theorem dX1_send_73 : decode cX1_send 73 = .ok (.imul, 1) := by decide +kernel
theorem dX1_send_74 : decode cX1_send 74 = .ok (.iconst 2, 1) := by decide +kernel
theorem dX1_send_75 : decode cX1_send 75 = .ok (.iadd, 1) := by decide +kernel
theorem dX1_send_76 : decode cX1_send 76 = .ok (.iload 5, 2) := by decide +kernel
theorem dX1_send_78 : decode cX1_send 78 = .ok (.invokestatic 95, 3) := by decide +kernel
theorem dX1_send_81 : decode cX1_send 81 = .ok (.aload_n 0, 1) := by decide +kernel
theorem dX1_send_82 : decode cX1_send 82 = .ok (.getfield 21, 3) := by decide +kernel
theorem dX1_send_85 : decode cX1_send 85 = .ok (.aload_n 0, 1) := by decide +kernel
theorem dX1_send_86 : decode cX1_send 86 = .ok (.getfield 28, 3) := by decide +kernel
theorem dX1_send_89 : decode cX1_send 89 = .ok (.iconst 4, 1) := by decide +kernel
theorem dX1_send_90 : decode cX1_send 90 = .ok (.imul, 1) := by decide +kernel
theorem dX1_send_91 : decode cX1_send 91 = .ok (.iconst 3, 1) := by decide +kernel
theorem dX1_send_92 : decode cX1_send 92 = .ok (.iadd, 1) := by decide +kernel
theorem dX1_send_93 : decode cX1_send 93 = .ok (.aload_n 0, 1) := by decide +kernel
theorem dX1_send_94 : decode cX1_send 94 = .ok (.getfield 24, 3) := by decide +kernel
theorem dX1_send_97 : decode cX1_send 97 = .ok (.iload 6, 2) := by decide +kernel
theorem dX1_send_99 : decode cX1_send 99 = .ok (.iadd, 1) := by decide +kernel
theorem dX1_send_100 : decode cX1_send 100 = .ok (.invokestatic 95, 3) := by decide +kernel
theorem dX1_send_103 : decode cX1_send 103 = .ok (.aload_n 0, 1) := by decide +kernel
theorem dX1_send_104 : decode cX1_send 104 = .ok (.dup, 1) := by decide +kernel
theorem dX1_send_105 : decode cX1_send 105 = .ok (.getfield 28, 3) := by decide +kernel
theorem dX1_send_108 : decode cX1_send 108 = .ok (.iconst 1, 1) := by decide +kernel
theorem dX1_send_109 : decode cX1_send 109 = .ok (.iadd, 1) := by decide +kernel
theorem dX1_send_110 : decode cX1_send 110 = .ok (.putfield 28, 3) := by decide +kernel
theorem dX1_send_113 : decode cX1_send 113 = .ok (.return_, 1) := by decide +kernel
theorem lkX1_send_21 : Cond.fieldLink RX1 21 "LeftAtFive$Kitchens" "sent" "[I" ∈ wsX1_send := by decide +kernel
theorem lkX1_send_24 : Cond.fieldLink RX1 24 "LeftAtFive$Kitchens" "minute" "I" ∈ wsX1_send := by decide +kernel
theorem lkX1_send_28 : Cond.fieldLink RX1 28 "LeftAtFive$Kitchens" "ways" "I" ∈ wsX1_send := by decide +kernel
theorem iwX1_send_X1 : ∀ w ∈ wsX10, w ∈ wsX1_send := by decide +kernel
set_option maxHeartbeats 1000000 in
set_option maxRecDepth 100000 in
theorem c_X1_send (l : Launch) (D : va_G) (q : Nat → ClassId) (kd : Nat → Nat) (K : Nat → Int32) (sd : Nat → Nat) (X : Nat → Nat → Int32) (S : Nat → Nat → Int32) (h : Nat) (to : Nat) (g : Nat) (n : Int32) (hT : okT X S) (hh0 : h < (tn (S 5 0))) (hto0 : to < (tn (S 5 0))) (hg0 : g < (tn (S 2 0))) (hK : okK K) (hw6 : xap (S 6 h) (S 6 to) = 0 ∨ tn (K 26) ≤ 5) : xC l yX1_send wsX1_send ({ frames := 3, cells := 0, slots := 0, locals := 64 }) D (TY q) [wk q kd K, wst q sd X] [.ref (kd 0), .ref (sd 0), .int (nI h), .int (nI to), .int (nI g), .int n] (xQv D (TY q) (fun (_ : Unit) => True) (fun _ => [wk q kd (kGive K (xap (S 6 h) (S 6 to)) h to g n), wst q sd X])) 0 0 := by
  refine x_enter (cc := cX1_send) (maxL := 7) (ret := none) (by decide) rfl (Nat.le_of_ble_eq_true rfl) ?_
  intro p e s m below meth c A ls H locs hfix hr hlocks hinit hM hl
  obtain ⟨hx, hb, hml, hown, hts⟩ := id hfix
  have hl : lv_has ls 7 [(0, .ref (kd 0)), (1, .ref (sd 0)), (2, .int (nI h)), (3, .int (nI to)), (4, .int (nI g)), (5, .int n)] := hl
  have hTb0 := okT_0b hT
  have hTb1 := okT_1b hT
  have hK25 := hK.1.2
  have hK26 := hK.2.1.2
  have hxa := xap_nat (okT_cb hT hh0) (okT_cb hT hto0)
  have hxb := hxa.2
  have hx0 := xap_0 (okT_cb hT hh0) (okT_cb hT hto0)
  have f26 : kAdd K h g (-n) 26 = K 26 := upd_ne _ _ (by omega)
  have f25 : kAdd K h g (-n) 25 = K 25 := upd_ne _ _ (by omega)
  refine lv_aload_n hx hb dX1_send_0 rfl (lv_at hl 1 rfl) ?_
  refine lv_iload_n hx hb dX1_send_1 rfl (lv_at hl 2 rfl) ?_
  refine lv_iload_n hx hb dX1_send_2 rfl (lv_at hl 3 rfl) ?_
  refine x_calli (bc := [wst q sd X]) (br := [wk q kd K]) hM [1] [0] rfl rfl rfl (by decide) (x_runV (As := [.int (nI h), .int (nI to)]) (rest := []) hfix (c_X7_cellsBetween l D q sd X S h to hT (by omega) (by omega)) (cwV 2 hts gX1_send_X7_cellsBetween rfl rfl rfl (by decide +kernel) ⟨Nat.le_of_ble_eq_true rfl, Nat.le_of_ble_eq_true rfl⟩) hM [1] rfl rfl 1 0 rfl rfl rfl rfl rfl hl.1 rfl (Nat.le_of_ble_eq_true rfl) dX1_send_3 ⟨Nat.le_of_ble_eq_true rfl, Nat.le_of_ble_eq_true rfl⟩) (fun r u H locs hq hM => ?_)
  subst hq
  have hM : xM D (TY q) [wk q kd K, wst q sd X] A s.heap s H locs := hM
  refine x_cast (y := nI (tn (xap (S 6 h) (S 6 to)))) hxa.1 ?_
  refine lv_istore (lv' := [(6, .int (nI (tn (xap (S 6 h) (S 6 to))))), (0, .ref (kd 0)), (1, .ref (sd 0)), (2, .int (nI h)), (3, .int (nI to)), (4, .int (nI g)), (5, .int n)]) hx hb dX1_send_6 hl (by decide) rfl (fun ls hl => ?_)
  refine lv_aload_n hx hb dX1_send_8 rfl (lv_at hl 1 rfl) ?_
  refine lv_iload_n hx hb dX1_send_9 rfl (lv_at hl 3 rfl) ?_
  refine lv_iload hx hb dX1_send_10 (lv_at hl 5 rfl) ?_
  refine lv_iload hx hb dX1_send_12 (lv_at hl 6 rfl) ?_
  refine lv_ineg hx hb dX1_send_14 ?_
  refine x_callv (bc := [wk q kd K]) (br := [wst q sd X]) hM [0] [1] rfl rfl rfl (by decide) (x_runV (As := [.int (nI h), .int (nI g), .int (-n)]) (rest := []) hfix (c_X1_add l D q kd K h g (-n) (by omega) (by omega)) (cwV 3 hts gX1_send_X1_add rfl rfl rfl (by decide +kernel) ⟨Nat.le_of_ble_eq_true rfl, Nat.le_of_ble_eq_true rfl⟩) hM [0] rfl rfl 0 0 rfl rfl rfl rfl rfl hl.1 rfl (Nat.le_of_ble_eq_true rfl) dX1_send_15 ⟨Nat.le_of_ble_eq_true rfl, Nat.le_of_ble_eq_true rfl⟩) (fun u H locs hq hM => ?_)
  have hM : xM D (TY q) [wst q sd X, wk q kd (kAdd K h g (-n))] A s.heap s H locs := hM
  have hM : xM D (TY q) [wk q kd (kAdd K h g (-n)), wst q sd X] A s.heap s H locs := hM.sel [1, 0] rfl rfl
  refine lv_iload hx hb dX1_send_18 (lv_at hl 0 rfl) ?_
  refine x_if_ne (x := tn (xap (S 6 h) (S 6 to))) (tgt := 33) hx hb (by omega) dX1_send_20 (by decide) (fun c1 => ?_) (fun c1 => ?_)
  · have hd1 : ¬ xap (S 6 h) (S 6 to) = 0 := fun z => absurd (show tn (xap (S 6 h) (S 6 to)) = 0 by rw [z]; rfl) (by assumption)
    have hw5 : tn (K 26) ≤ 5 := hw6.resolve_left hd1
    have e1 : K 25 + xap (S 6 h) (S 6 to) = nI (tn (K 25) + tn (xap (S 6 h) (S 6 to))) := by rw [← nI_add, ← hK.1.1, ← hxa.1]
    have e2 : K 26 + nI 1 = nI (tn (K 26) + 1) := by rw [← nI_add, ← hK.2.1.1]
    have e3 : 27 + tn (K 26) * 4 = 26 + 1 + 4 * tn (K 26) := by omega
    refine lv_aload_n hx hb dX1_send_33 rfl (lv_at hl 1 rfl) ?_
    refine x_get hx hb hts iwX1_send_X1 hown hM 0 0 rfl rfl rfl 5 (by decide) (hts _ lkX1_send_21) (fun _ h => h) rfl dX1_send_34 ?_
    refine lv_aload_n hx hb dX1_send_37 rfl (lv_at hl 1 rfl) ?_
    refine x_get hx hb hts iwX1_send_X1 hown hM 0 0 rfl rfl rfl 1 (by decide) (hts _ lkX1_send_28) (fun _ h => h) rfl dX1_send_38 ?_
    refine x_cast (y := nI (tn (K 26))) (f26.trans hK.2.1.1) ?_
    refine lv_iconst (v := nI 4) hx hb dX1_send_41 (by decide) ?_
    refine x_imul (x := tn (K 26)) (y := 4) hx hb dX1_send_42 ?_
    refine lv_iload_n hx hb dX1_send_43 rfl (lv_at hl 4 rfl) ?_
    refine x_callv (bc := [wk q kd (kAdd K h g (-n))]) (br := [wst q sd X]) hM [0] [1] rfl rfl rfl (by decide) (x_runS (As := [.ref (kd 6), .int (nI ((tn (K 26)) * 4)), .int (nI to)]) (rest := []) hfix (c_X5_put l D q (wk q kd (kAdd K h g (-n))) 4 (kd 6) 24 (xv (kAdd K h g (-n)) 27 24) ((tn (K 26)) * 4) (nI to) rfl (by decide) (by omega)) (va_cwS 3 hts gX1_send_X5_put rfl rfl rfl (by decide +kernel) ⟨Nat.le_of_ble_eq_true rfl, Nat.le_of_ble_eq_true rfl⟩) hM [0] rfl rfl rfl hl.1 rfl (Nat.le_of_ble_eq_true rfl) dX1_send_44 ⟨Nat.le_of_ble_eq_true rfl, Nat.le_of_ble_eq_true rfl⟩) (fun u H locs hq hM => ?_)
    have hM : xM D (TY q) [wst q sd X, wk q kd (upd (kAdd K h g (-n)) (27 + ((tn (K 26)) * 4)) (nI to))] A s.heap s H locs := Eq.mp (congrArg (fun z9 => xM D (TY q) [wst q sd X, z9] A s.heap s H locs) (wk_s5 q kd (kAdd K h g (-n)) (nI to) (by omega))) hM
    have hM : xM D (TY q) [wk q kd (upd (kAdd K h g (-n)) (27 + ((tn (K 26)) * 4)) (nI to)), wst q sd X] A s.heap s H locs := hM.sel [1, 0] rfl rfl
    refine lv_aload_n hx hb dX1_send_47 rfl (lv_at hl 1 rfl) ?_
    refine x_get hx hb hts iwX1_send_X1 hown hM 0 0 rfl rfl rfl 5 (by decide) (hts _ lkX1_send_21) (fun _ h => h) rfl dX1_send_48 ?_
    refine lv_aload_n hx hb dX1_send_51 rfl (lv_at hl 1 rfl) ?_
    refine x_get hx hb hts iwX1_send_X1 hown hM 0 0 rfl rfl rfl 1 (by decide) (hts _ lkX1_send_28) (fun _ h => h) rfl dX1_send_52 ?_
    refine x_cast (y := nI (tn (K 26))) ((upd_ne _ _ (by omega)).trans (f26.trans hK.2.1.1)) ?_
    refine lv_iconst (v := nI 4) hx hb dX1_send_55 (by decide) ?_
    refine x_imul (x := tn (K 26)) (y := 4) hx hb dX1_send_56 ?_
    refine lv_iconst (v := nI 1) hx hb dX1_send_57 (by decide) ?_
    refine x_iadd (x := (tn (K 26)) * 4) (y := 1) hx hb dX1_send_58 ?_
    refine lv_iload hx hb dX1_send_59 (lv_at hl 5 rfl) ?_
    refine x_callv (bc := [wk q kd (upd (kAdd K h g (-n)) (27 + ((tn (K 26)) * 4)) (nI to))]) (br := [wst q sd X]) hM [0] [1] rfl rfl rfl (by decide) (x_runS (As := [.ref (kd 6), .int (nI ((tn (K 26)) * 4 + 1)), .int (nI g)]) (rest := []) hfix (c_X5_put l D q (wk q kd (upd (kAdd K h g (-n)) (27 + ((tn (K 26)) * 4)) (nI to))) 4 (kd 6) 24 (xv (upd (kAdd K h g (-n)) (27 + ((tn (K 26)) * 4)) (nI to)) 27 24) ((tn (K 26)) * 4 + 1) (nI g) rfl (by decide) (by omega)) (va_cwS 3 hts gX1_send_X5_put rfl rfl rfl (by decide +kernel) ⟨Nat.le_of_ble_eq_true rfl, Nat.le_of_ble_eq_true rfl⟩) hM [0] rfl rfl rfl hl.1 rfl (Nat.le_of_ble_eq_true rfl) dX1_send_61 ⟨Nat.le_of_ble_eq_true rfl, Nat.le_of_ble_eq_true rfl⟩) (fun u H locs hq hM => ?_)
    have hM : xM D (TY q) [wst q sd X, wk q kd (upd (upd (kAdd K h g (-n)) (27 + ((tn (K 26)) * 4)) (nI to)) (27 + ((tn (K 26)) * 4 + 1)) (nI g))] A s.heap s H locs := Eq.mp (congrArg (fun z9 => xM D (TY q) [wst q sd X, z9] A s.heap s H locs) (wk_s5 q kd (upd (kAdd K h g (-n)) (27 + ((tn (K 26)) * 4)) (nI to)) (nI g) (by omega))) hM
    have hM : xM D (TY q) [wk q kd (upd (upd (kAdd K h g (-n)) (27 + ((tn (K 26)) * 4)) (nI to)) (27 + ((tn (K 26)) * 4 + 1)) (nI g)), wst q sd X] A s.heap s H locs := hM.sel [1, 0] rfl rfl
    refine lv_aload_n hx hb dX1_send_64 rfl (lv_at hl 1 rfl) ?_
    refine x_get hx hb hts iwX1_send_X1 hown hM 0 0 rfl rfl rfl 5 (by decide) (hts _ lkX1_send_21) (fun _ h => h) rfl dX1_send_65 ?_
    refine lv_aload_n hx hb dX1_send_68 rfl (lv_at hl 1 rfl) ?_
    refine x_get hx hb hts iwX1_send_X1 hown hM 0 0 rfl rfl rfl 1 (by decide) (hts _ lkX1_send_28) (fun _ h => h) rfl dX1_send_69 ?_
    refine x_cast (y := nI (tn (K 26))) ((upd_ne _ _ (by omega)).trans ((upd_ne _ _ (by omega)).trans (f26.trans hK.2.1.1))) ?_
    refine lv_iconst (v := nI 4) hx hb dX1_send_72 (by decide) ?_
    refine x_imul (x := tn (K 26)) (y := 4) hx hb dX1_send_73 ?_
    refine lv_iconst (v := nI 2) hx hb dX1_send_74 (by decide) ?_
    refine x_iadd (x := (tn (K 26)) * 4) (y := 2) hx hb dX1_send_75 ?_
    refine lv_iload hx hb dX1_send_76 (lv_at hl 6 rfl) ?_
    refine x_callv (bc := [wk q kd (upd (upd (kAdd K h g (-n)) (27 + ((tn (K 26)) * 4)) (nI to)) (27 + ((tn (K 26)) * 4 + 1)) (nI g))]) (br := [wst q sd X]) hM [0] [1] rfl rfl rfl (by decide) (x_runS (As := [.ref (kd 6), .int (nI ((tn (K 26)) * 4 + 2)), .int n]) (rest := []) hfix (c_X5_put l D q (wk q kd (upd (upd (kAdd K h g (-n)) (27 + ((tn (K 26)) * 4)) (nI to)) (27 + ((tn (K 26)) * 4 + 1)) (nI g))) 4 (kd 6) 24 (xv (upd (upd (kAdd K h g (-n)) (27 + ((tn (K 26)) * 4)) (nI to)) (27 + ((tn (K 26)) * 4 + 1)) (nI g)) 27 24) ((tn (K 26)) * 4 + 2) n rfl (by decide) (by omega)) (va_cwS 3 hts gX1_send_X5_put rfl rfl rfl (by decide +kernel) ⟨Nat.le_of_ble_eq_true rfl, Nat.le_of_ble_eq_true rfl⟩) hM [0] rfl rfl rfl hl.1 rfl (Nat.le_of_ble_eq_true rfl) dX1_send_78 ⟨Nat.le_of_ble_eq_true rfl, Nat.le_of_ble_eq_true rfl⟩) (fun u H locs hq hM => ?_)
    have hM : xM D (TY q) [wst q sd X, wk q kd (upd (upd (upd (kAdd K h g (-n)) (27 + ((tn (K 26)) * 4)) (nI to)) (27 + ((tn (K 26)) * 4 + 1)) (nI g)) (27 + ((tn (K 26)) * 4 + 2)) n)] A s.heap s H locs := Eq.mp (congrArg (fun z9 => xM D (TY q) [wst q sd X, z9] A s.heap s H locs) (wk_s5 q kd (upd (upd (kAdd K h g (-n)) (27 + ((tn (K 26)) * 4)) (nI to)) (27 + ((tn (K 26)) * 4 + 1)) (nI g)) n (by omega))) hM
    have hM : xM D (TY q) [wk q kd (upd (upd (upd (kAdd K h g (-n)) (27 + ((tn (K 26)) * 4)) (nI to)) (27 + ((tn (K 26)) * 4 + 1)) (nI g)) (27 + ((tn (K 26)) * 4 + 2)) n), wst q sd X] A s.heap s H locs := hM.sel [1, 0] rfl rfl
    refine lv_aload_n hx hb dX1_send_81 rfl (lv_at hl 1 rfl) ?_
    refine x_get hx hb hts iwX1_send_X1 hown hM 0 0 rfl rfl rfl 5 (by decide) (hts _ lkX1_send_21) (fun _ h => h) rfl dX1_send_82 ?_
    refine lv_aload_n hx hb dX1_send_85 rfl (lv_at hl 1 rfl) ?_
    refine x_get hx hb hts iwX1_send_X1 hown hM 0 0 rfl rfl rfl 1 (by decide) (hts _ lkX1_send_28) (fun _ h => h) rfl dX1_send_86 ?_
    refine x_cast (y := nI (tn (K 26))) ((upd_ne _ _ (by omega)).trans ((upd_ne _ _ (by omega)).trans ((upd_ne _ _ (by omega)).trans (f26.trans hK.2.1.1)))) ?_
    refine lv_iconst (v := nI 4) hx hb dX1_send_89 (by decide) ?_
    refine x_imul (x := tn (K 26)) (y := 4) hx hb dX1_send_90 ?_
    refine lv_iconst (v := nI 3) hx hb dX1_send_91 (by decide) ?_
    refine x_iadd (x := (tn (K 26)) * 4) (y := 3) hx hb dX1_send_92 ?_
    refine lv_aload_n hx hb dX1_send_93 rfl (lv_at hl 1 rfl) ?_
    refine x_get hx hb hts iwX1_send_X1 hown hM 0 0 rfl rfl rfl 0 (by decide) (hts _ lkX1_send_24) (fun _ h => h) rfl dX1_send_94 ?_
    refine x_cast (y := K 25) ((upd_ne _ _ (by omega)).trans ((upd_ne _ _ (by omega)).trans ((upd_ne _ _ (by omega)).trans f25))) ?_
    refine x_cast (y := nI (tn (K 25))) hK.1.1 ?_
    refine lv_iload hx hb dX1_send_97 (lv_at hl 0 rfl) ?_
    refine x_iadd (x := tn (K 25)) (y := tn (xap (S 6 h) (S 6 to))) hx hb dX1_send_99 ?_
    refine x_callv (bc := [wk q kd (upd (upd (upd (kAdd K h g (-n)) (27 + ((tn (K 26)) * 4)) (nI to)) (27 + ((tn (K 26)) * 4 + 1)) (nI g)) (27 + ((tn (K 26)) * 4 + 2)) n)]) (br := [wst q sd X]) hM [0] [1] rfl rfl rfl (by decide) (x_runS (As := [.ref (kd 6), .int (nI ((tn (K 26)) * 4 + 3)), .int (nI (tn (K 25) + (tn (xap (S 6 h) (S 6 to)))))]) (rest := []) hfix (c_X5_put l D q (wk q kd (upd (upd (upd (kAdd K h g (-n)) (27 + ((tn (K 26)) * 4)) (nI to)) (27 + ((tn (K 26)) * 4 + 1)) (nI g)) (27 + ((tn (K 26)) * 4 + 2)) n)) 4 (kd 6) 24 (xv (upd (upd (upd (kAdd K h g (-n)) (27 + ((tn (K 26)) * 4)) (nI to)) (27 + ((tn (K 26)) * 4 + 1)) (nI g)) (27 + ((tn (K 26)) * 4 + 2)) n) 27 24) ((tn (K 26)) * 4 + 3) (nI (tn (K 25) + (tn (xap (S 6 h) (S 6 to))))) rfl (by decide) (by omega)) (va_cwS 3 hts gX1_send_X5_put rfl rfl rfl (by decide +kernel) ⟨Nat.le_of_ble_eq_true rfl, Nat.le_of_ble_eq_true rfl⟩) hM [0] rfl rfl rfl hl.1 rfl (Nat.le_of_ble_eq_true rfl) dX1_send_100 ⟨Nat.le_of_ble_eq_true rfl, Nat.le_of_ble_eq_true rfl⟩) (fun u H locs hq hM => ?_)
    have hM : xM D (TY q) [wst q sd X, wk q kd (upd (upd (upd (upd (kAdd K h g (-n)) (27 + ((tn (K 26)) * 4)) (nI to)) (27 + ((tn (K 26)) * 4 + 1)) (nI g)) (27 + ((tn (K 26)) * 4 + 2)) n) (27 + ((tn (K 26)) * 4 + 3)) (nI (tn (K 25) + (tn (xap (S 6 h) (S 6 to))))))] A s.heap s H locs := Eq.mp (congrArg (fun z9 => xM D (TY q) [wst q sd X, z9] A s.heap s H locs) (wk_s5 q kd (upd (upd (upd (kAdd K h g (-n)) (27 + ((tn (K 26)) * 4)) (nI to)) (27 + ((tn (K 26)) * 4 + 1)) (nI g)) (27 + ((tn (K 26)) * 4 + 2)) n) (nI (tn (K 25) + (tn (xap (S 6 h) (S 6 to))))) (by omega))) hM
    have hM : xM D (TY q) [wk q kd (upd (upd (upd (upd (kAdd K h g (-n)) (27 + ((tn (K 26)) * 4)) (nI to)) (27 + ((tn (K 26)) * 4 + 1)) (nI g)) (27 + ((tn (K 26)) * 4 + 2)) n) (27 + ((tn (K 26)) * 4 + 3)) (nI (tn (K 25) + (tn (xap (S 6 h) (S 6 to)))))), wst q sd X] A s.heap s H locs := hM.sel [1, 0] rfl rfl
    refine lv_aload_n hx hb dX1_send_103 rfl (lv_at hl 1 rfl) ?_
    refine lv_dup hx hb dX1_send_104 rfl ?_
    refine x_get hx hb hts iwX1_send_X1 hown hM 0 0 rfl rfl rfl 1 (by decide) (hts _ lkX1_send_28) (fun _ h => h) rfl dX1_send_105 ?_
    refine x_cast (y := nI (tn (K 26))) ((upd_ne _ _ (by omega)).trans ((upd_ne _ _ (by omega)).trans ((upd_ne _ _ (by omega)).trans ((upd_ne _ _ (by omega)).trans (f26.trans hK.2.1.1))))) ?_
    refine lv_iconst (v := nI 1) hx hb dX1_send_108 (by decide) ?_
    refine x_iadd (x := tn (K 26)) (y := 1) hx hb dX1_send_109 ?_
    refine x_put hx hb hts iwX1_send_X1 tyX1 tyX1_ok nmX1 hown hM 0 0 rfl rfl rfl 1 (by decide) (hts _ lkX1_send_28) (fun _ h => h) rfl (ty := .int) (by decide +kernel) rfl rfl (Nat.le_of_ble_eq_true rfl) [wk q kd (upd (upd (upd (upd (upd (kAdd K h g (-n)) (27 + ((tn (K 26)) * 4)) (nI to)) (27 + ((tn (K 26)) * 4 + 1)) (nI g)) (27 + ((tn (K 26)) * 4 + 2)) n) (27 + ((tn (K 26)) * 4 + 3)) (nI (tn (K 25) + (tn (xap (S 6 h) (S 6 to)))))) 26 (nI (tn (K 26) + 1))), wst q sd X] (congrArg (fun z9 => [z9, wst q sd X]) (wk_f1 q kd (upd (upd (upd (upd (kAdd K h g (-n)) (27 + ((tn (K 26)) * 4)) (nI to)) (27 + ((tn (K 26)) * 4 + 1)) (nI g)) (27 + ((tn (K 26)) * 4 + 2)) n) (27 + ((tn (K 26)) * 4 + 3)) (nI (tn (K 25) + (tn (xap (S 6 h) (S 6 to)))))) (nI (tn (K 26) + 1)))) dX1_send_110 (fun H locs hM => ?_)
    have e2 : wk q kd (upd (upd (upd (upd (upd (kAdd K h g (-n)) (27 + ((tn (K 26)) * 4)) (nI to)) (27 + ((tn (K 26)) * 4 + 1)) (nI g)) (27 + ((tn (K 26)) * 4 + 2)) n) (27 + ((tn (K 26)) * 4 + 3)) (nI (tn (K 25) + (tn (xap (S 6 h) (S 6 to)))))) 26 (nI (tn (K 26) + 1))) = wk q kd (kGive K (xap (S 6 h) (S 6 to)) h to g n) := congrArg (wk q kd) (show (upd (upd (upd (upd (upd (kAdd K h g (-n)) (27 + ((tn (K 26)) * 4)) (nI to)) (27 + ((tn (K 26)) * 4 + 1)) (nI g)) (27 + ((tn (K 26)) * 4 + 2)) n) (27 + ((tn (K 26)) * 4 + 3)) (nI (tn (K 25) + (tn (xap (S 6 h) (S 6 to)))))) 26 (nI (tn (K 26) + 1)) : Nat → Int32) = kGive K (xap (S 6 h) (S 6 to)) h to g n from by (first | rw [kGive, if_pos hd0] | (rw [kGive, if_neg hd1, e1, e2, ← e3]; rfl)))
    have hM : xM D (TY q) [wk q kd (kGive K (xap (S 6 h) (S 6 to)) h to g n), wst q sd X] A s.heap s H locs := Eq.mp (congrArg (fun z9 => xM D (TY q) [z9, wst q sd X] A s.heap s H locs) e2) hM
    exact x_vret hx hb hr hlocks () hM trivial dX1_send_113
  · have hd0 : xap (S 6 h) (S 6 to) = 0 := by rw [hxa.1, show tn (xap (S 6 h) (S 6 to)) = 0 by omega]; rfl
    refine lv_aload_n hx hb dX1_send_23 rfl (lv_at hl 1 rfl) ?_
    refine lv_iload_n hx hb dX1_send_24 rfl (lv_at hl 4 rfl) ?_
    refine lv_iload hx hb dX1_send_25 (lv_at hl 5 rfl) ?_
    refine lv_iload hx hb dX1_send_27 (lv_at hl 6 rfl) ?_
    refine x_callv (bc := [wk q kd (kAdd K h g (-n))]) (br := [wst q sd X]) hM [0] [1] rfl rfl rfl (by decide) (x_runV (As := [.int (nI to), .int (nI g), .int n]) (rest := []) hfix (c_X1_add l D q kd (kAdd K h g (-n)) to g n (by omega) (by omega)) (cwV 3 hts gX1_send_X1_add rfl rfl rfl (by decide +kernel) ⟨Nat.le_of_ble_eq_true rfl, Nat.le_of_ble_eq_true rfl⟩) hM [0] rfl rfl 0 0 rfl rfl rfl rfl rfl hl.1 rfl (Nat.le_of_ble_eq_true rfl) dX1_send_29 ⟨Nat.le_of_ble_eq_true rfl, Nat.le_of_ble_eq_true rfl⟩) (fun u H locs hq hM => ?_)
    have hM : xM D (TY q) [wst q sd X, wk q kd (kAdd (kAdd K h g (-n)) to g n)] A s.heap s H locs := hM
    have hM : xM D (TY q) [wk q kd (kAdd (kAdd K h g (-n)) to g n), wst q sd X] A s.heap s H locs := hM.sel [1, 0] rfl rfl
    have e3 : wk q kd (kAdd (kAdd K h g (-n)) to g n) = wk q kd (kGive K (xap (S 6 h) (S 6 to)) h to g n) := congrArg (wk q kd) (show (kAdd (kAdd K h g (-n)) to g n : Nat → Int32) = kGive K (xap (S 6 h) (S 6 to)) h to g n from by (first | rw [kGive, if_pos hd0] | (rw [kGive, if_neg hd1, e1, e2, ← e3]; rfl)))
    have hM : xM D (TY q) [wk q kd (kGive K (xap (S 6 h) (S 6 to)) h to g n), wst q sd X] A s.heap s H locs := Eq.mp (congrArg (fun z9 => xM D (TY q) [z9, wst q sd X] A s.heap s H locs) e3) hM
    exact x_vret hx hb hr hlocks () hM trivial dX1_send_32

set_option maxRecDepth 20000 in
theorem ggX1_copy_X5_copy : GoodIn wsX1_copy wsX5_copy := goodIn_r _ [10, 11, 12, 13, 14, 15, 16, 17, 18] (by decide +kernel) (by decide +kernel)
set_option maxRecDepth 20000 in
theorem gX1_copy_X5_copy : GoodIn wsX1_copy (va_wsS RX1 42 yX5_copy wsX5_copy) := goodIn_app (goodIn_of _ (by decide +kernel)) ggX1_copy_X5_copy
theorem dX1_copy_0 : decode cX1_copy 0 = .ok (.aload_n 0, 1) := by decide +kernel
theorem dX1_copy_1 : decode cX1_copy 1 = .ok (.aload_n 1, 1) := by decide +kernel
theorem dX1_copy_2 : decode cX1_copy 2 = .ok (.getfield 24, 3) := by decide +kernel
theorem dX1_copy_5 : decode cX1_copy 5 = .ok (.putfield 24, 3) := by decide +kernel
theorem dX1_copy_8 : decode cX1_copy 8 = .ok (.aload_n 0, 1) := by decide +kernel
theorem dX1_copy_9 : decode cX1_copy 9 = .ok (.aload_n 1, 1) := by decide +kernel
theorem dX1_copy_10 : decode cX1_copy 10 = .ok (.getfield 28, 3) := by decide +kernel
theorem dX1_copy_13 : decode cX1_copy 13 = .ok (.putfield 28, 3) := by decide +kernel
theorem dX1_copy_16 : decode cX1_copy 16 = .ok (.aload_n 1, 1) := by decide +kernel
theorem dX1_copy_17 : decode cX1_copy 17 = .ok (.getfield 9, 3) := by decide +kernel
theorem dX1_copy_20 : decode cX1_copy 20 = .ok (.aload_n 0, 1) := by decide +kernel
theorem dX1_copy_21 : decode cX1_copy 21 = .ok (.getfield 9, 3) := by decide +kernel
theorem dX1_copy_24 : decode cX1_copy 24 = .ok (.invokestatic 42, 3) := by decide +kernel
theorem dX1_copy_27 : decode cX1_copy 27 = .ok (.aload_n 1, 1) := by decide +kernel
theorem dX1_copy_28 : decode cX1_copy 28 = .ok (.getfield 15, 3) := by decide +kernel
theorem dX1_copy_31 : decode cX1_copy 31 = .ok (.aload_n 0, 1) := by decide +kernel
theorem dX1_copy_32 : decode cX1_copy 32 = .ok (.getfield 15, 3) := by decide +kernel
theorem dX1_copy_35 : decode cX1_copy 35 = .ok (.invokestatic 42, 3) := by decide +kernel
theorem dX1_copy_38 : decode cX1_copy 38 = .ok (.aload_n 1, 1) := by decide +kernel
theorem dX1_copy_39 : decode cX1_copy 39 = .ok (.getfield 18, 3) := by decide +kernel
theorem dX1_copy_42 : decode cX1_copy 42 = .ok (.aload_n 0, 1) := by decide +kernel
theorem dX1_copy_43 : decode cX1_copy 43 = .ok (.getfield 18, 3) := by decide +kernel
theorem dX1_copy_46 : decode cX1_copy 46 = .ok (.invokestatic 42, 3) := by decide +kernel
theorem dX1_copy_49 : decode cX1_copy 49 = .ok (.aload_n 1, 1) := by decide +kernel
theorem dX1_copy_50 : decode cX1_copy 50 = .ok (.getfield 21, 3) := by decide +kernel
theorem dX1_copy_53 : decode cX1_copy 53 = .ok (.aload_n 0, 1) := by decide +kernel
theorem dX1_copy_54 : decode cX1_copy 54 = .ok (.getfield 21, 3) := by decide +kernel
theorem dX1_copy_57 : decode cX1_copy 57 = .ok (.invokestatic 42, 3) := by decide +kernel
theorem dX1_copy_60 : decode cX1_copy 60 = .ok (.return_, 1) := by decide +kernel
theorem lkX1_copy_9 : Cond.fieldLink RX1 9 "LeftAtFive$Kitchens" "pieces" "[I" ∈ wsX1_copy := by decide +kernel
theorem lkX1_copy_15 : Cond.fieldLink RX1 15 "LeftAtFive$Kitchens" "eaten" "[I" ∈ wsX1_copy := by decide +kernel
theorem lkX1_copy_18 : Cond.fieldLink RX1 18 "LeftAtFive$Kitchens" "hungry" "[I" ∈ wsX1_copy := by decide +kernel
theorem lkX1_copy_21 : Cond.fieldLink RX1 21 "LeftAtFive$Kitchens" "sent" "[I" ∈ wsX1_copy := by decide +kernel
theorem lkX1_copy_24 : Cond.fieldLink RX1 24 "LeftAtFive$Kitchens" "minute" "I" ∈ wsX1_copy := by decide +kernel
theorem lkX1_copy_28 : Cond.fieldLink RX1 28 "LeftAtFive$Kitchens" "ways" "I" ∈ wsX1_copy := by decide +kernel
theorem iwX1_copy_X1 : ∀ w ∈ wsX10, w ∈ wsX1_copy := by decide +kernel
set_option maxHeartbeats 1000000 in
set_option maxRecDepth 100000 in
theorem c_X1_copy (l : Launch) (D : va_G) (q : Nat → ClassId) (kd : Nat → Nat) (K : Nat → Int32) (fd : Nat → Nat) (F : Nat → Int32) : xC l yX1_copy wsX1_copy ({ frames := 2, cells := 0, slots := 0, locals := 61 }) D (TY q) [wk q kd K, wk q fd F] [.ref (kd 0), .ref (fd 0)] (xQv D (TY q) (fun (_ : Unit) => True) (fun _ => [wk q kd F, wk q fd F])) 0 0 := by
  refine x_enter (cc := cX1_copy) (maxL := 2) (ret := none) (by decide) rfl (Nat.le_of_ble_eq_true rfl) ?_
  intro p e s m below meth c A ls H locs hfix hr hlocks hinit hM hl
  obtain ⟨hx, hb, hml, hown, hts⟩ := id hfix
  have hl : lv_has ls 2 [(0, .ref (kd 0)), (1, .ref (fd 0))] := hl
  refine lv_aload_n hx hb dX1_copy_0 rfl (lv_at hl 0 rfl) ?_
  refine lv_aload_n hx hb dX1_copy_1 rfl (lv_at hl 1 rfl) ?_
  refine x_get hx hb hts iwX1_copy_X1 hown hM 1 0 rfl rfl rfl 0 (by decide) (hts _ lkX1_copy_24) (fun _ h => h) rfl dX1_copy_2 ?_
  refine x_put hx hb hts iwX1_copy_X1 tyX1 tyX1_ok nmX1 hown hM 0 0 rfl rfl rfl 0 (by decide) (hts _ lkX1_copy_24) (fun _ h => h) rfl (ty := .int) (by decide +kernel) rfl rfl (Nat.le_of_ble_eq_true rfl) [wk q kd (upd K 25 (F 25)), wk q fd F] (congrArg (fun z9 => [z9, wk q fd F]) (wk_f0 q kd K (F 25))) dX1_copy_5 (fun H locs hM => ?_)
  refine lv_aload_n hx hb dX1_copy_8 rfl (lv_at hl 0 rfl) ?_
  refine lv_aload_n hx hb dX1_copy_9 rfl (lv_at hl 1 rfl) ?_
  refine x_get hx hb hts iwX1_copy_X1 hown hM 1 0 rfl rfl rfl 1 (by decide) (hts _ lkX1_copy_28) (fun _ h => h) rfl dX1_copy_10 ?_
  refine x_put hx hb hts iwX1_copy_X1 tyX1 tyX1_ok nmX1 hown hM 0 0 rfl rfl rfl 1 (by decide) (hts _ lkX1_copy_28) (fun _ h => h) rfl (ty := .int) (by decide +kernel) rfl rfl (Nat.le_of_ble_eq_true rfl) [wk q kd (upd (upd K 25 (F 25)) 26 (F 26)), wk q fd F] (congrArg (fun z9 => [z9, wk q fd F]) (wk_f1 q kd (upd K 25 (F 25)) (F 26))) dX1_copy_13 (fun H locs hM => ?_)
  refine lv_aload_n hx hb dX1_copy_16 rfl (lv_at hl 1 rfl) ?_
  refine x_get hx hb hts iwX1_copy_X1 hown hM 1 0 rfl rfl rfl 2 (by decide) (hts _ lkX1_copy_9) (fun _ h => h) rfl dX1_copy_17 ?_
  refine lv_aload_n hx hb dX1_copy_20 rfl (lv_at hl 0 rfl) ?_
  refine x_get hx hb hts iwX1_copy_X1 hown hM 0 0 rfl rfl rfl 2 (by decide) (hts _ lkX1_copy_9) (fun _ h => h) rfl dX1_copy_21 ?_
  refine x_callv (bc := [wk q fd F, wk q kd (upd (upd K 25 (F 25)) 26 (F 26))]) (br := []) hM [1, 0] [] rfl rfl rfl (by decide) (x_runS (As := [.ref (fd 3), .ref (kd 3)]) (rest := []) hfix (c_X5_copy l D q (wk q fd F) (wk q kd (upd (upd K 25 (F 25)) 26 (F 26))) 1 1 (fd 3) (kd 3) 25 (xv F 0 25) (xv (upd (upd K 25 (F 25)) 26 (F 26)) 0 25) rfl rfl (by decide)) (va_cwS 2 hts gX1_copy_X5_copy rfl rfl rfl (by decide +kernel) ⟨Nat.le_of_ble_eq_true rfl, Nat.le_of_ble_eq_true rfl⟩) hM [1, 0] rfl rfl rfl hl.1 rfl (Nat.le_of_ble_eq_true rfl) dX1_copy_24 ⟨Nat.le_of_ble_eq_true rfl, Nat.le_of_ble_eq_true rfl⟩) (fun u H locs hq hM => ?_)
  have hM : xM D (TY q) [wk q fd F, wk q kd (xov (upd (upd K 25 (F 25)) 26 (F 26)) F 0 25)] A s.heap s H locs := Eq.mp (congrArg (fun z9 => xM D (TY q) [wk q fd F, z9] A s.heap s H locs) (wk_c2 q kd (upd (upd K 25 (F 25)) 26 (F 26)) F)) hM
  have hM : xM D (TY q) [wk q kd (xov (upd (upd K 25 (F 25)) 26 (F 26)) F 0 25), wk q fd F] A s.heap s H locs := hM.sel [1, 0] rfl rfl
  refine lv_aload_n hx hb dX1_copy_27 rfl (lv_at hl 1 rfl) ?_
  refine x_get hx hb hts iwX1_copy_X1 hown hM 1 0 rfl rfl rfl 3 (by decide) (hts _ lkX1_copy_15) (fun _ h => h) rfl dX1_copy_28 ?_
  refine lv_aload_n hx hb dX1_copy_31 rfl (lv_at hl 0 rfl) ?_
  refine x_get hx hb hts iwX1_copy_X1 hown hM 0 0 rfl rfl rfl 3 (by decide) (hts _ lkX1_copy_15) (fun _ h => h) rfl dX1_copy_32 ?_
  refine x_callv (bc := [wk q fd F, wk q kd (xov (upd (upd K 25 (F 25)) 26 (F 26)) F 0 25)]) (br := []) hM [1, 0] [] rfl rfl rfl (by decide) (x_runS (As := [.ref (fd 4), .ref (kd 4)]) (rest := []) hfix (c_X5_copy l D q (wk q fd F) (wk q kd (xov (upd (upd K 25 (F 25)) 26 (F 26)) F 0 25)) 2 2 (fd 4) (kd 4) 8 (xv F 51 8) (xv (xov (upd (upd K 25 (F 25)) 26 (F 26)) F 0 25) 51 8) rfl rfl (by decide)) (va_cwS 2 hts gX1_copy_X5_copy rfl rfl rfl (by decide +kernel) ⟨Nat.le_of_ble_eq_true rfl, Nat.le_of_ble_eq_true rfl⟩) hM [1, 0] rfl rfl rfl hl.1 rfl (Nat.le_of_ble_eq_true rfl) dX1_copy_35 ⟨Nat.le_of_ble_eq_true rfl, Nat.le_of_ble_eq_true rfl⟩) (fun u H locs hq hM => ?_)
  have hM : xM D (TY q) [wk q fd F, wk q kd (xov (xov (upd (upd K 25 (F 25)) 26 (F 26)) F 0 25) F 51 8)] A s.heap s H locs := Eq.mp (congrArg (fun z9 => xM D (TY q) [wk q fd F, z9] A s.heap s H locs) (wk_c3 q kd (xov (upd (upd K 25 (F 25)) 26 (F 26)) F 0 25) F)) hM
  have hM : xM D (TY q) [wk q kd (xov (xov (upd (upd K 25 (F 25)) 26 (F 26)) F 0 25) F 51 8), wk q fd F] A s.heap s H locs := hM.sel [1, 0] rfl rfl
  refine lv_aload_n hx hb dX1_copy_38 rfl (lv_at hl 1 rfl) ?_
  refine x_get hx hb hts iwX1_copy_X1 hown hM 1 0 rfl rfl rfl 4 (by decide) (hts _ lkX1_copy_18) (fun _ h => h) rfl dX1_copy_39 ?_
  refine lv_aload_n hx hb dX1_copy_42 rfl (lv_at hl 0 rfl) ?_
  refine x_get hx hb hts iwX1_copy_X1 hown hM 0 0 rfl rfl rfl 4 (by decide) (hts _ lkX1_copy_18) (fun _ h => h) rfl dX1_copy_43 ?_
  refine x_callv (bc := [wk q fd F, wk q kd (xov (xov (upd (upd K 25 (F 25)) 26 (F 26)) F 0 25) F 51 8)]) (br := []) hM [1, 0] [] rfl rfl rfl (by decide) (x_runS (As := [.ref (fd 5), .ref (kd 5)]) (rest := []) hfix (c_X5_copy l D q (wk q fd F) (wk q kd (xov (xov (upd (upd K 25 (F 25)) 26 (F 26)) F 0 25) F 51 8)) 3 3 (fd 5) (kd 5) 8 (xv F 59 8) (xv (xov (xov (upd (upd K 25 (F 25)) 26 (F 26)) F 0 25) F 51 8) 59 8) rfl rfl (by decide)) (va_cwS 2 hts gX1_copy_X5_copy rfl rfl rfl (by decide +kernel) ⟨Nat.le_of_ble_eq_true rfl, Nat.le_of_ble_eq_true rfl⟩) hM [1, 0] rfl rfl rfl hl.1 rfl (Nat.le_of_ble_eq_true rfl) dX1_copy_46 ⟨Nat.le_of_ble_eq_true rfl, Nat.le_of_ble_eq_true rfl⟩) (fun u H locs hq hM => ?_)
  have hM : xM D (TY q) [wk q fd F, wk q kd (xov (xov (xov (upd (upd K 25 (F 25)) 26 (F 26)) F 0 25) F 51 8) F 59 8)] A s.heap s H locs := Eq.mp (congrArg (fun z9 => xM D (TY q) [wk q fd F, z9] A s.heap s H locs) (wk_c4 q kd (xov (xov (upd (upd K 25 (F 25)) 26 (F 26)) F 0 25) F 51 8) F)) hM
  have hM : xM D (TY q) [wk q kd (xov (xov (xov (upd (upd K 25 (F 25)) 26 (F 26)) F 0 25) F 51 8) F 59 8), wk q fd F] A s.heap s H locs := hM.sel [1, 0] rfl rfl
  refine lv_aload_n hx hb dX1_copy_49 rfl (lv_at hl 1 rfl) ?_
  refine x_get hx hb hts iwX1_copy_X1 hown hM 1 0 rfl rfl rfl 5 (by decide) (hts _ lkX1_copy_21) (fun _ h => h) rfl dX1_copy_50 ?_
  refine lv_aload_n hx hb dX1_copy_53 rfl (lv_at hl 0 rfl) ?_
  refine x_get hx hb hts iwX1_copy_X1 hown hM 0 0 rfl rfl rfl 5 (by decide) (hts _ lkX1_copy_21) (fun _ h => h) rfl dX1_copy_54 ?_
  refine x_callv (bc := [wk q fd F, wk q kd (xov (xov (xov (upd (upd K 25 (F 25)) 26 (F 26)) F 0 25) F 51 8) F 59 8)]) (br := []) hM [1, 0] [] rfl rfl rfl (by decide) (x_runS (As := [.ref (fd 6), .ref (kd 6)]) (rest := []) hfix (c_X5_copy l D q (wk q fd F) (wk q kd (xov (xov (xov (upd (upd K 25 (F 25)) 26 (F 26)) F 0 25) F 51 8) F 59 8)) 4 4 (fd 6) (kd 6) 24 (xv F 27 24) (xv (xov (xov (xov (upd (upd K 25 (F 25)) 26 (F 26)) F 0 25) F 51 8) F 59 8) 27 24) rfl rfl (by decide)) (va_cwS 2 hts gX1_copy_X5_copy rfl rfl rfl (by decide +kernel) ⟨Nat.le_of_ble_eq_true rfl, Nat.le_of_ble_eq_true rfl⟩) hM [1, 0] rfl rfl rfl hl.1 rfl (Nat.le_of_ble_eq_true rfl) dX1_copy_57 ⟨Nat.le_of_ble_eq_true rfl, Nat.le_of_ble_eq_true rfl⟩) (fun u H locs hq hM => ?_)
  have hM : xM D (TY q) [wk q fd F, wk q kd (xov (xov (xov (xov (upd (upd K 25 (F 25)) 26 (F 26)) F 0 25) F 51 8) F 59 8) F 27 24)] A s.heap s H locs := Eq.mp (congrArg (fun z9 => xM D (TY q) [wk q fd F, z9] A s.heap s H locs) (wk_c5 q kd (xov (xov (xov (upd (upd K 25 (F 25)) 26 (F 26)) F 0 25) F 51 8) F 59 8) F)) hM
  have hM : xM D (TY q) [wk q kd (xov (xov (xov (xov (upd (upd K 25 (F 25)) 26 (F 26)) F 0 25) F 51 8) F 59 8) F 27 24), wk q fd F] A s.heap s H locs := hM.sel [1, 0] rfl rfl
  have e1 : wk q kd (xov (xov (xov (xov (upd (upd K 25 (F 25)) 26 (F 26)) F 0 25) F 51 8) F 59 8) F 27 24) = wk q kd F := wk_eq (by intro j hj; (simp only [xov, upd]; (repeat' split) <;> first | rfl | (subst_vars; rfl) | (exfalso; omega)))
  have hM : xM D (TY q) [wk q kd F, wk q fd F] A s.heap s H locs := Eq.mp (congrArg (fun z9 => xM D (TY q) [z9, wk q fd F] A s.heap s H locs) e1) hM
  exact x_vret hx hb hr hlocks () hM trivial dX1_copy_60

set_option maxRecDepth 20000 in
theorem ggX1_begin_X7_stockInto : GoodIn wsX1_begin wsX7_stockInto := goodIn_r _ [10, 11, 12, 13, 14, 15, 16, 17, 18, 19, 20, 21, 22, 23, 33, 34, 35, 36, 37, 38, 39, 40, 41, 42, 43, 44, 45, 46, 47, 48] (by decide +kernel) (by decide +kernel)
set_option maxRecDepth 20000 in
theorem gX1_begin_X7_stockInto : GoodIn wsX1_begin (wsV RX1 31 RX7 yX7_stockInto wsX7_stockInto) := goodIn_app (goodIn_of _ (by decide +kernel)) ggX1_begin_X7_stockInto
set_option maxRecDepth 20000 in
theorem ggX1_begin_X5_clear : GoodIn wsX1_begin wsX5_clear := goodIn_r _ [26] (by decide +kernel) (by decide +kernel)
set_option maxRecDepth 20000 in
theorem gX1_begin_X5_clear : GoodIn wsX1_begin (va_wsS RX1 37 yX5_clear wsX5_clear) := goodIn_app (goodIn_of _ (by decide +kernel)) ggX1_begin_X5_clear
theorem dX1_begin_0 : decode cX1_begin 0 = .ok (.aload_n 0, 1) := by decide +kernel
theorem dX1_begin_1 : decode cX1_begin 1 = .ok (.iconst 0, 1) := by decide +kernel
theorem dX1_begin_2 : decode cX1_begin 2 = .ok (.putfield 24, 3) := by decide +kernel
theorem dX1_begin_5 : decode cX1_begin 5 = .ok (.aload_n 0, 1) := by decide +kernel
theorem dX1_begin_6 : decode cX1_begin 6 = .ok (.iconst 0, 1) := by decide +kernel
theorem dX1_begin_7 : decode cX1_begin 7 = .ok (.putfield 28, 3) := by decide +kernel
theorem dX1_begin_10 : decode cX1_begin 10 = .ok (.aload_n 1, 1) := by decide +kernel
theorem dX1_begin_11 : decode cX1_begin 11 = .ok (.aload_n 0, 1) := by decide +kernel
theorem dX1_begin_12 : decode cX1_begin 12 = .ok (.getfield 9, 3) := by decide +kernel
theorem dX1_begin_15 : decode cX1_begin 15 = .ok (.invokevirtual 31, 3) := by decide +kernel
theorem dX1_begin_18 : decode cX1_begin 18 = .ok (.aload_n 0, 1) := by decide +kernel
theorem dX1_begin_19 : decode cX1_begin 19 = .ok (.getfield 15, 3) := by decide +kernel
theorem dX1_begin_22 : decode cX1_begin 22 = .ok (.invokestatic 37, 3) := by decide +kernel
theorem dX1_begin_25 : decode cX1_begin 25 = .ok (.aload_n 0, 1) := by decide +kernel
theorem dX1_begin_26 : decode cX1_begin 26 = .ok (.getfield 18, 3) := by decide +kernel
theorem dX1_begin_29 : decode cX1_begin 29 = .ok (.invokestatic 37, 3) := by decide +kernel
theorem dX1_begin_32 : decode cX1_begin 32 = .ok (.return_, 1) := by decide +kernel
theorem lkX1_begin_9 : Cond.fieldLink RX1 9 "LeftAtFive$Kitchens" "pieces" "[I" ∈ wsX1_begin := by decide +kernel
theorem lkX1_begin_15 : Cond.fieldLink RX1 15 "LeftAtFive$Kitchens" "eaten" "[I" ∈ wsX1_begin := by decide +kernel
theorem lkX1_begin_18 : Cond.fieldLink RX1 18 "LeftAtFive$Kitchens" "hungry" "[I" ∈ wsX1_begin := by decide +kernel
theorem lkX1_begin_24 : Cond.fieldLink RX1 24 "LeftAtFive$Kitchens" "minute" "I" ∈ wsX1_begin := by decide +kernel
theorem lkX1_begin_28 : Cond.fieldLink RX1 28 "LeftAtFive$Kitchens" "ways" "I" ∈ wsX1_begin := by decide +kernel
theorem iwX1_begin_X1 : ∀ w ∈ wsX10, w ∈ wsX1_begin := by decide +kernel
set_option maxHeartbeats 1000000 in
set_option maxRecDepth 100000 in
theorem c_X1_begin (l : Launch) (D : va_G) (q : Nat → ClassId) (kd : Nat → Nat) (K : Nat → Int32) (sd : Nat → Nat) (X : Nat → Nat → Int32) : xC l yX1_begin wsX1_begin ({ frames := 3, cells := 0, slots := 0, locals := 82 }) D (TY q) [wk q kd K, wst q sd X] [.ref (kd 0), .ref (sd 0)] (xQv D (TY q) (fun (_ : Unit) => True) (fun _ => [wk q kd (xbegC K (X 8)), wst q sd X])) 0 0 := by
  refine x_enter (cc := cX1_begin) (maxL := 2) (ret := none) (by decide) rfl (Nat.le_of_ble_eq_true rfl) ?_
  intro p e s m below meth c A ls H locs hfix hr hlocks hinit hM hl
  obtain ⟨hx, hb, hml, hown, hts⟩ := id hfix
  have hl : lv_has ls 2 [(0, .ref (kd 0)), (1, .ref (sd 0))] := hl
  refine lv_aload_n hx hb dX1_begin_0 rfl (lv_at hl 0 rfl) ?_
  refine lv_iconst (v := nI 0) hx hb dX1_begin_1 (by decide) ?_
  refine x_put hx hb hts iwX1_begin_X1 tyX1 tyX1_ok nmX1 hown hM 0 0 rfl rfl rfl 0 (by decide) (hts _ lkX1_begin_24) (fun _ h => h) rfl (ty := .int) (by decide +kernel) rfl rfl (Nat.le_of_ble_eq_true rfl) [wk q kd (upd K 25 (nI 0)), wst q sd X] (congrArg (fun z9 => [z9, wst q sd X]) (wk_f0 q kd K (nI 0))) dX1_begin_2 (fun H locs hM => ?_)
  refine lv_aload_n hx hb dX1_begin_5 rfl (lv_at hl 0 rfl) ?_
  refine lv_iconst (v := nI 0) hx hb dX1_begin_6 (by decide) ?_
  refine x_put hx hb hts iwX1_begin_X1 tyX1 tyX1_ok nmX1 hown hM 0 0 rfl rfl rfl 1 (by decide) (hts _ lkX1_begin_28) (fun _ h => h) rfl (ty := .int) (by decide +kernel) rfl rfl (Nat.le_of_ble_eq_true rfl) [wk q kd (upd (upd K 25 (nI 0)) 26 (nI 0)), wst q sd X] (congrArg (fun z9 => [z9, wst q sd X]) (wk_f1 q kd (upd K 25 (nI 0)) (nI 0))) dX1_begin_7 (fun H locs hM => ?_)
  refine lv_aload_n hx hb dX1_begin_10 rfl (lv_at hl 1 rfl) ?_
  refine lv_aload_n hx hb dX1_begin_11 rfl (lv_at hl 0 rfl) ?_
  refine x_get hx hb hts iwX1_begin_X1 hown hM 0 0 rfl rfl rfl 2 (by decide) (hts _ lkX1_begin_9) (fun _ h => h) rfl dX1_begin_12 ?_
  refine x_callv (bc := [wst q sd X, wk q kd (upd (upd K 25 (nI 0)) 26 (nI 0))]) (br := []) hM [1, 0] [] rfl rfl rfl (by decide) (x_runV (As := [.ref (kd 3)]) (rest := []) hfix (c_X7_stockInto l D q sd X kd (upd (upd K 25 (nI 0)) 26 (nI 0))) (cwV 1 hts gX1_begin_X7_stockInto rfl rfl rfl (by decide +kernel) ⟨Nat.le_of_ble_eq_true rfl, Nat.le_of_ble_eq_true rfl⟩) hM [1, 0] rfl rfl 1 0 rfl rfl rfl rfl rfl hl.1 rfl (Nat.le_of_ble_eq_true rfl) dX1_begin_15 ⟨Nat.le_of_ble_eq_true rfl, Nat.le_of_ble_eq_true rfl⟩) (fun u H locs hq hM => ?_)
  have hM : xM D (TY q) [wst q sd X, wk q kd (xov (upd (upd K 25 (nI 0)) 26 (nI 0)) (X 8) 0 25)] A s.heap s H locs := hM
  have hM : xM D (TY q) [wk q kd (xov (upd (upd K 25 (nI 0)) 26 (nI 0)) (X 8) 0 25), wst q sd X] A s.heap s H locs := hM.sel [1, 0] rfl rfl
  refine lv_aload_n hx hb dX1_begin_18 rfl (lv_at hl 0 rfl) ?_
  refine x_get hx hb hts iwX1_begin_X1 hown hM 0 0 rfl rfl rfl 3 (by decide) (hts _ lkX1_begin_15) (fun _ h => h) rfl dX1_begin_19 ?_
  refine x_callv (bc := [wk q kd (xov (upd (upd K 25 (nI 0)) 26 (nI 0)) (X 8) 0 25)]) (br := [wst q sd X]) hM [0] [1] rfl rfl rfl (by decide) (x_runS (As := [.ref (kd 4)]) (rest := []) hfix (c_X5_clear l D q (wk q kd (xov (upd (upd K 25 (nI 0)) 26 (nI 0)) (X 8) 0 25)) 2 (kd 4) 8 (xv (xov (upd (upd K 25 (nI 0)) 26 (nI 0)) (X 8) 0 25) 51 8) rfl (by decide)) (va_cwS 1 hts gX1_begin_X5_clear rfl rfl rfl (by decide +kernel) ⟨Nat.le_of_ble_eq_true rfl, Nat.le_of_ble_eq_true rfl⟩) hM [0] rfl rfl rfl hl.1 rfl (Nat.le_of_ble_eq_true rfl) dX1_begin_22 ⟨Nat.le_of_ble_eq_true rfl, Nat.le_of_ble_eq_true rfl⟩) (fun u H locs hq hM => ?_)
  have hM : xM D (TY q) [wst q sd X, wk q kd (xov (xov (upd (upd K 25 (nI 0)) 26 (nI 0)) (X 8) 0 25) (fun _ => nI 0) 51 8)] A s.heap s H locs := Eq.mp (congrArg (fun z9 => xM D (TY q) [wst q sd X, z9] A s.heap s H locs) (wk_z3 q kd (xov (upd (upd K 25 (nI 0)) 26 (nI 0)) (X 8) 0 25))) hM
  have hM : xM D (TY q) [wk q kd (xov (xov (upd (upd K 25 (nI 0)) 26 (nI 0)) (X 8) 0 25) (fun _ => nI 0) 51 8), wst q sd X] A s.heap s H locs := hM.sel [1, 0] rfl rfl
  refine lv_aload_n hx hb dX1_begin_25 rfl (lv_at hl 0 rfl) ?_
  refine x_get hx hb hts iwX1_begin_X1 hown hM 0 0 rfl rfl rfl 4 (by decide) (hts _ lkX1_begin_18) (fun _ h => h) rfl dX1_begin_26 ?_
  refine x_callv (bc := [wk q kd (xov (xov (upd (upd K 25 (nI 0)) 26 (nI 0)) (X 8) 0 25) (fun _ => nI 0) 51 8)]) (br := [wst q sd X]) hM [0] [1] rfl rfl rfl (by decide) (x_runS (As := [.ref (kd 5)]) (rest := []) hfix (c_X5_clear l D q (wk q kd (xov (xov (upd (upd K 25 (nI 0)) 26 (nI 0)) (X 8) 0 25) (fun _ => nI 0) 51 8)) 3 (kd 5) 8 (xv (xov (xov (upd (upd K 25 (nI 0)) 26 (nI 0)) (X 8) 0 25) (fun _ => nI 0) 51 8) 59 8) rfl (by decide)) (va_cwS 1 hts gX1_begin_X5_clear rfl rfl rfl (by decide +kernel) ⟨Nat.le_of_ble_eq_true rfl, Nat.le_of_ble_eq_true rfl⟩) hM [0] rfl rfl rfl hl.1 rfl (Nat.le_of_ble_eq_true rfl) dX1_begin_29 ⟨Nat.le_of_ble_eq_true rfl, Nat.le_of_ble_eq_true rfl⟩) (fun u H locs hq hM => ?_)
  have hM : xM D (TY q) [wst q sd X, wk q kd (xov (xov (xov (upd (upd K 25 (nI 0)) 26 (nI 0)) (X 8) 0 25) (fun _ => nI 0) 51 8) (fun _ => nI 0) 59 8)] A s.heap s H locs := Eq.mp (congrArg (fun z9 => xM D (TY q) [wst q sd X, z9] A s.heap s H locs) (wk_z4 q kd (xov (xov (upd (upd K 25 (nI 0)) 26 (nI 0)) (X 8) 0 25) (fun _ => nI 0) 51 8))) hM
  have hM : xM D (TY q) [wk q kd (xov (xov (xov (upd (upd K 25 (nI 0)) 26 (nI 0)) (X 8) 0 25) (fun _ => nI 0) 51 8) (fun _ => nI 0) 59 8), wst q sd X] A s.heap s H locs := hM.sel [1, 0] rfl rfl
  have e1 : wk q kd (xov (xov (xov (upd (upd K 25 (nI 0)) 26 (nI 0)) (X 8) 0 25) (fun _ => nI 0) 51 8) (fun _ => nI 0) 59 8) = wk q kd (xbegC K (X 8)) := wk_eq (by intro j hj; (simp only [xov, upd, xbegC]; (repeat' split) <;> first | rfl | (subst_vars; rfl) | (exfalso; omega)))
  have hM : xM D (TY q) [wk q kd (xbegC K (X 8)), wst q sd X] A s.heap s H locs := Eq.mp (congrArg (fun z9 => xM D (TY q) [z9, wst q sd X] A s.heap s H locs) e1) hM
  exact x_vret hx hb hr hlocks () hM trivial dX1_begin_32

set_option maxRecDepth 20000 in
theorem ggX1_moveWay_X5_at : GoodIn wsX1_moveWay wsX5_at := goodIn_r _ [5] (by decide +kernel) (by decide +kernel)
set_option maxRecDepth 20000 in
theorem gX1_moveWay_X5_at : GoodIn wsX1_moveWay (va_wsS RX1 50 yX5_at wsX5_at) := goodIn_app (goodIn_of _ (by decide +kernel)) ggX1_moveWay_X5_at
set_option maxRecDepth 20000 in
theorem ggX1_moveWay_X5_put : GoodIn wsX1_moveWay wsX5_put := goodIn_r _ [8] (by decide +kernel) (by decide +kernel)
set_option maxRecDepth 20000 in
theorem gX1_moveWay_X5_put : GoodIn wsX1_moveWay (va_wsS RX1 95 yX5_put wsX5_put) := goodIn_app (goodIn_of _ (by decide +kernel)) ggX1_moveWay_X5_put
theorem dX1_moveWay_0 : decode cX1_moveWay 0 = .ok (.iconst 0, 1) := by decide +kernel
theorem dX1_moveWay_1 : decode cX1_moveWay 1 = .ok (.istore_n 3, 1) := by decide +kernel
theorem dX1_moveWay_2 : decode cX1_moveWay 2 = .ok (.iload_n 1, 1) := by decide +kernel
theorem dX1_moveWay_3 : decode cX1_moveWay 3 = .ok (.iload_n 2, 1) := by decide +kernel
theorem dX1_moveWay_4 : decode cX1_moveWay 4 = .ok (.if_icmp .eq 38, 3) := by decide +kernel
theorem dX1_moveWay_7 : decode cX1_moveWay 7 = .ok (.iload_n 3, 1) := by decide +kernel
theorem dX1_moveWay_8 : decode cX1_moveWay 8 = .ok (.iconst 4, 1) := by decide +kernel
theorem dX1_moveWay_9 : decode cX1_moveWay 9 = .ok (.if_icmp .ge 33, 3) := by decide +kernel
theorem dX1_moveWay_12 : decode cX1_moveWay 12 = .ok (.aload_n 0, 1) := by decide +kernel
theorem dX1_moveWay_13 : decode cX1_moveWay 13 = .ok (.getfield 21, 3) := by decide +kernel
theorem dX1_moveWay_16 : decode cX1_moveWay 16 = .ok (.iload_n 2, 1) := by decide +kernel
theorem dX1_moveWay_17 : decode cX1_moveWay 17 = .ok (.iconst 4, 1) := by decide +kernel
theorem dX1_moveWay_18 : decode cX1_moveWay 18 = .ok (.imul, 1) := by decide +kernel
theorem dX1_moveWay_19 : decode cX1_moveWay 19 = .ok (.iload_n 3, 1) := by decide +kernel
theorem dX1_moveWay_20 : decode cX1_moveWay 20 = .ok (.iadd, 1) := by decide +kernel
theorem dX1_moveWay_21 : decode cX1_moveWay 21 = .ok (.aload_n 0, 1) := by decide +kernel
theorem dX1_moveWay_22 : decode cX1_moveWay 22 = .ok (.getfield 21, 3) := by decide +kernel
theorem dX1_moveWay_25 : decode cX1_moveWay 25 = .ok (.iload_n 1, 1) := by decide +kernel
theorem dX1_moveWay_26 : decode cX1_moveWay 26 = .ok (.iconst 4, 1) := by decide +kernel
theorem dX1_moveWay_27 : decode cX1_moveWay 27 = .ok (.imul, 1) := by decide +kernel
theorem dX1_moveWay_28 : decode cX1_moveWay 28 = .ok (.iload_n 3, 1) := by decide +kernel
theorem dX1_moveWay_29 : decode cX1_moveWay 29 = .ok (.iadd, 1) := by decide +kernel
theorem dX1_moveWay_30 : decode cX1_moveWay 30 = .ok (.invokestatic 50, 3) := by decide +kernel
theorem dX1_moveWay_33 : decode cX1_moveWay 33 = .ok (.invokestatic 95, 3) := by decide +kernel
theorem dX1_moveWay_36 : decode cX1_moveWay 36 = .ok (.iinc 3 1, 3) := by decide +kernel
theorem dX1_moveWay_39 : decode cX1_moveWay 39 = .ok (.goto (-37), 3) := by decide +kernel
theorem dX1_moveWay_42 : decode cX1_moveWay 42 = .ok (.return_, 1) := by decide +kernel
theorem lkX1_moveWay_21 : Cond.fieldLink RX1 21 "LeftAtFive$Kitchens" "sent" "[I" ∈ wsX1_moveWay := by decide +kernel
theorem iwX1_moveWay_X1 : ∀ w ∈ wsX10, w ∈ wsX1_moveWay := by decide +kernel
set_option maxHeartbeats 1000000 in
set_option maxRecDepth 100000 in
theorem c_X1_moveWay (l : Launch) (D : va_G) (q : Nat → ClassId) (kd : Nat → Nat) (K : Nat → Int32) (k : Nat) (n : Nat) (hk0 : k < 6) (hnk : n ≤ k) : xC l yX1_moveWay wsX1_moveWay ({ frames := 1, cells := 0, slots := 0, locals := 22 }) D (TY q) [wk q kd K] [.ref (kd 0), .int (nI k), .int (nI n)] (xQv D (TY q) (fun (_ : Unit) => True) (fun _ => [wk q kd (kMv K k n 4)])) 0 0 := by
  refine x_enter (cc := cX1_moveWay) (maxL := 4) (ret := none) (by decide) rfl (Nat.le_of_ble_eq_true rfl) ?_
  intro p e s m below meth c A ls H locs hfix hr hlocks hinit hM hl
  obtain ⟨hx, hb, hml, hown, hts⟩ := id hfix
  have hl : lv_has ls 4 [(0, .ref (kd 0)), (1, .int (nI k)), (2, .int (nI n))] := hl
  refine lv_iconst (v := nI 0) hx hb dX1_moveWay_0 (by decide) ?_
  refine lv_istore_n (lv' := [(3, .int (nI 0)), (0, .ref (kd 0)), (1, .int (nI k)), (2, .int (nI n))]) hx hb dX1_moveWay_1 rfl hl (by decide) rfl (fun ls hl => ?_)
  have e2 : wk q kd K = wk q kd (kMv K k n 0) := congrArg (wk q kd) (show (K : Nat → Int32) = kMv K k n 0 from by exact (kMv_0 _ _ _).symm)
  have hM : xM D (TY q) [wk q kd (kMv K k n 0)] A s.heap s H locs := Eq.mp (congrArg (fun z9 => xM D (TY q) [z9] A s.heap s H locs) e2) hM
  refine x_loop (ι := Nat) (fun i => [(0, .ref (kd 0)), (1, .int (nI k)), (2, .int (nI n)), (3, .int (nI i))]) (fun i => [wk q kd (kMv K k n i)]) (fun i => i ≤ 4) (fun i => 4 - i) 0 (by omega) hM (lv_sub hl [1, 2, 3, 0] rfl) ?_
  intro i hI4 ih3 H locs hM ls hl
  have hM : xM D (TY q) [wk q kd (kMv K k n i)] A s.heap s H locs := hM
  have hl : lv_has ls 4 [(0, .ref (kd 0)), (1, .int (nI k)), (2, .int (nI n)), (3, .int (nI i))] := hl
  have hI4 : i ≤ 4 := hI4
  try dsimp only
  refine lv_iload_n hx hb dX1_moveWay_2 rfl (lv_at hl 1 rfl) ?_
  refine lv_iload_n hx hb dX1_moveWay_3 rfl (lv_at hl 2 rfl) ?_
  refine x_icmp_eq (x := k) (y := n) (tgt := 42) hx hb (by omega) (by omega) dX1_moveWay_4 (by decide) (fun c5 => ?_) (fun c5 => ?_)
  · have e6 : wk q kd (kMv K k n i) = wk q kd (kMv K k n 4) := congrArg (wk q kd) (show (kMv K k n i : Nat → Int32) = kMv K k n 4 from by (first | (rw [show i = 4 by omega]) | (have hkn : k = n := (by omega); subst hkn; exact (kMv_self _ _ _).trans (kMv_self _ _ _).symm)))
    have hM : xM D (TY q) [wk q kd (kMv K k n 4)] A s.heap s H locs := Eq.mp (congrArg (fun z9 => xM D (TY q) [z9] A s.heap s H locs) e6) hM
    exact x_vret hx hb hr hlocks () hM trivial dX1_moveWay_42
  · refine lv_iload_n hx hb dX1_moveWay_7 rfl (lv_at hl 3 rfl) ?_
    refine lv_iconst (v := nI 4) hx hb dX1_moveWay_8 (by decide) ?_
    refine x_icmp_ge (x := i) (y := 4) (tgt := 42) hx hb (by omega) (by omega) dX1_moveWay_9 (by decide) (fun c7 => ?_) (fun c7 => ?_)
    · have e8 : wk q kd (kMv K k n i) = wk q kd (kMv K k n 4) := congrArg (wk q kd) (show (kMv K k n i : Nat → Int32) = kMv K k n 4 from by (first | (rw [show i = 4 by omega]) | (have hkn : k = n := (by omega); subst hkn; exact (kMv_self _ _ _).trans (kMv_self _ _ _).symm)))
      have hM : xM D (TY q) [wk q kd (kMv K k n 4)] A s.heap s H locs := Eq.mp (congrArg (fun z9 => xM D (TY q) [z9] A s.heap s H locs) e8) hM
      exact x_vret hx hb hr hlocks () hM trivial dX1_moveWay_42
    · refine lv_aload_n hx hb dX1_moveWay_12 rfl (lv_at hl 0 rfl) ?_
      refine x_get hx hb hts iwX1_moveWay_X1 hown hM 0 0 rfl rfl rfl 5 (by decide) (hts _ lkX1_moveWay_21) (fun _ h => h) rfl dX1_moveWay_13 ?_
      refine lv_iload_n hx hb dX1_moveWay_16 rfl (lv_at hl 2 rfl) ?_
      refine lv_iconst (v := nI 4) hx hb dX1_moveWay_17 (by decide) ?_
      refine x_imul (x := n) (y := 4) hx hb dX1_moveWay_18 ?_
      refine lv_iload_n hx hb dX1_moveWay_19 rfl (lv_at hl 3 rfl) ?_
      refine x_iadd (x := n * 4) (y := i) hx hb dX1_moveWay_20 ?_
      refine lv_aload_n hx hb dX1_moveWay_21 rfl (lv_at hl 0 rfl) ?_
      refine x_get hx hb hts iwX1_moveWay_X1 hown hM 0 0 rfl rfl rfl 5 (by decide) (hts _ lkX1_moveWay_21) (fun _ h => h) rfl dX1_moveWay_22 ?_
      refine lv_iload_n hx hb dX1_moveWay_25 rfl (lv_at hl 1 rfl) ?_
      refine lv_iconst (v := nI 4) hx hb dX1_moveWay_26 (by decide) ?_
      refine x_imul (x := k) (y := 4) hx hb dX1_moveWay_27 ?_
      refine lv_iload_n hx hb dX1_moveWay_28 rfl (lv_at hl 3 rfl) ?_
      refine x_iadd (x := k * 4) (y := i) hx hb dX1_moveWay_29 ?_
      refine x_calli (bc := [wk q kd (kMv K k n i)]) (br := []) hM [0] [] rfl rfl rfl (by decide) (x_runS (As := [.ref (kd 6), .int (nI (k * 4 + i))]) (rest := [.int (nI (n * 4 + i)), .ref (kd 6)]) hfix (c_X5_at l D q (wk q kd (kMv K k n i)) 4 (kd 6) 24 (xv (kMv K k n i) 27 24) (k * 4 + i) rfl (by decide) (by omega)) (va_cwS 2 hts gX1_moveWay_X5_at rfl rfl rfl (by decide +kernel) ⟨Nat.le_of_ble_eq_true rfl, Nat.le_of_ble_eq_true rfl⟩) hM [0] rfl rfl rfl hl.1 rfl (Nat.le_of_ble_eq_true rfl) dX1_moveWay_30 ⟨Nat.le_of_ble_eq_true rfl, Nat.le_of_ble_eq_true rfl⟩) (fun r u H locs hq hM => ?_)
      subst hq
      have hM : xM D (TY q) [wk q kd (kMv K k n i)] A s.heap s H locs := hM
      refine x_cast (y := (kMv K k n i) (27 + (k * 4 + i))) (xv_at (by omega)) ?_
      refine x_cast (y := K (26 + 1 + 4 * k + i)) (by rw [show 27 + (k * 4 + i) = 26 + 1 + 4 * k + i by omega]; exact kMv_read _ (by omega) (by omega)) ?_
      refine x_callv (bc := [wk q kd (kMv K k n i)]) (br := []) hM [0] [] rfl rfl rfl (by decide) (x_runS (As := [.ref (kd 6), .int (nI (n * 4 + i)), .int (K (26 + 1 + 4 * k + i))]) (rest := []) hfix (c_X5_put l D q (wk q kd (kMv K k n i)) 4 (kd 6) 24 (xv (kMv K k n i) 27 24) (n * 4 + i) (K (26 + 1 + 4 * k + i)) rfl (by decide) (by omega)) (va_cwS 3 hts gX1_moveWay_X5_put rfl rfl rfl (by decide +kernel) ⟨Nat.le_of_ble_eq_true rfl, Nat.le_of_ble_eq_true rfl⟩) hM [0] rfl rfl rfl hl.1 rfl (Nat.le_of_ble_eq_true rfl) dX1_moveWay_33 ⟨Nat.le_of_ble_eq_true rfl, Nat.le_of_ble_eq_true rfl⟩) (fun u H locs hq hM => ?_)
      have hM : xM D (TY q) [wk q kd (upd (kMv K k n i) (27 + (n * 4 + i)) (K (26 + 1 + 4 * k + i)))] A s.heap s H locs := Eq.mp (congrArg (fun z9 => xM D (TY q) [z9] A s.heap s H locs) (wk_s5 q kd (kMv K k n i) (K (26 + 1 + 4 * k + i)) (by omega))) hM
      refine lv_iinc (v := nI (i + 1)) (lv' := [(3, .int (nI (i + 1))), (0, .ref (kd 0)), (1, .int (nI k)), (2, .int (nI n))]) hx hb dX1_moveWay_36 hl (k := 3) rfl (x_inc _ 1) (by decide) rfl (fun ls hl => ?_)
      refine lv_goto (tgt := 2) hx hb dX1_moveWay_39 (by decide) ?_
      have e9 : wk q kd (upd (kMv K k n i) (27 + (n * 4 + i)) (K (26 + 1 + 4 * k + i))) = wk q kd (kMv K k n (i + 1)) := congrArg (wk q kd) (show (upd (kMv K k n i) (27 + (n * 4 + i)) (K (26 + 1 + 4 * k + i)) : Nat → Int32) = kMv K k n (i + 1) from by (rw [show 27 + (n * 4 + i) = 26 + 1 + 4 * n + i by omega]; exact kMv_s _ (by omega) (by omega)))
      have hM : xM D (TY q) [wk q kd (kMv K k n (i + 1))] A s.heap s H locs := Eq.mp (congrArg (fun z9 => xM D (TY q) [z9] A s.heap s H locs) e9) hM
      have hl : lv_has ls 4 [(0, .ref (kd 0)), (1, .int (nI k)), (2, .int (nI n)), (3, .int (nI (i + 1)))] := lv_sub hl [1, 2, 3, 0] rfl
      exact ih3 (i + 1) (show 4 - (i + 1) < 4 - i from by omega) (show (i + 1) ≤ 4 from by omega) _ _ hM _ hl
