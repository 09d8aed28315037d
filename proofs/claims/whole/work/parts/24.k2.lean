set_option maxRecDepth 20000 in
theorem ggX7_isGood_X8_within : GoodIn wsX7_isGood wsX8_within := goodIn_r _ [4] (by decide +kernel) (by decide +kernel)
set_option maxRecDepth 20000 in
theorem gX7_isGood_X8_within_n92 : GoodIn wsX7_isGood (wsX8_within) := ggX7_isGood_X8_within
theorem dX7_isGood_0 : decode cX7_isGood 0 = .ok (.iload_n 1, 1) := by decide +kernel
theorem dX7_isGood_1 : decode cX7_isGood 1 = .ok (.iconst 0, 1) := by decide +kernel
theorem dX7_isGood_2 : decode cX7_isGood 2 = .ok (.aload_n 0, 1) := by decide +kernel
theorem dX7_isGood_3 : decode cX7_isGood 3 = .ok (.getfield 45, 3) := by decide +kernel
theorem dX7_isGood_6 : decode cX7_isGood 6 = .ok (.iconst 1, 1) := by decide +kernel
theorem dX7_isGood_7 : decode cX7_isGood 7 = .ok (.isub, 1) := by decide +kernel
theorem dX7_isGood_8 : decode cX7_isGood 8 = .ok (.invokestatic 92, 3) := by decide +kernel
theorem dX7_isGood_11 : decode cX7_isGood 11 = .ok (.ireturn, 1) := by decide +kernel
theorem lkX7_isGood_45 : Cond.fieldLink RX7 45 "LeftAtFive$Street" "goods" "I" ∈ wsX7_isGood := by decide +kernel
theorem iniX7_isGood_X8 : Cond.initialized RX8 ∈ wsX7_isGood := by decide +kernel
theorem staX7_isGood_X8_within : Cond.static yX8_within ∈ wsX7_isGood := by decide +kernel
theorem iwX7_isGood_X7 : ∀ w ∈ wsX70, w ∈ wsX7_isGood := by decide +kernel
set_option maxHeartbeats 1000000 in
set_option maxRecDepth 100000 in
theorem c_X7_isGood (l : Launch) (D : va_G) (q : Nat → ClassId) (ad : Nat → Nat) (X : Nat → Nat → Int32) (S : Nat → Nat → Int32) (g : Int32) (gz : Int) (hT : okT X S) (h_gz : g.toInt = gz) : xC l yX7_isGood wsX7_isGood ({ frames := 1, cells := 0, slots := 0, locals := 22 }) D (TY q) [wst q ad X] [.ref (ad 0), .int g] (xQi D (TY q) (fun (r : Int32) (_ : Unit) => r = zb (0 ≤ gz ∧ gz < (tn (S 2 0)))) (fun _ => [wst q ad X])) 0 0 := by
  refine x_enter (cc := cX7_isGood) (maxL := 2) (ret := (some .boolean)) (by decide) rfl (Nat.le_of_ble_eq_true rfl) ?_
  intro p e s m below meth c A ls H locs hfix hr hlocks hinit hM hl
  obtain ⟨hx, hb, hml, hown, hts⟩ := id hfix
  have hl : lv_has ls 2 [(0, .ref (ad 0)), (1, .int g)] := hl
  have hTb := okT_0b hT
  refine lv_iload_n hx hb dX7_isGood_0 rfl (lv_at hl 1 rfl) ?_
  refine lv_iconst (v := nI 0) hx hb dX7_isGood_1 (by decide) ?_
  refine lv_aload_n hx hb dX7_isGood_2 rfl (lv_at hl 0 rfl) ?_
  refine x_get hx hb hts iwX7_isGood_X7 hown hM 0 0 rfl rfl rfl 0 (by decide) (hts _ lkX7_isGood_45) (fun _ h => h) rfl dX7_isGood_3 ?_
  refine x_cast (y := nI (tn (S 2 0))) (okT_0 hT) ?_
  refine lv_iconst (v := nI 1) hx hb dX7_isGood_6 (by decide) ?_
  refine lv_isub hx hb dX7_isGood_7 ?_
  refine x_calli (bc := []) (br := [wst q ad X]) hM [] [0] rfl rfl rfl (by decide) (x_runSN (As := [.int g, .int (nI 0), .int ((nI (tn (S 2 0))) - (nI 1))]) (rest := []) hfix (c_X8_within l D q g (nI 0) ((nI (tn (S 2 0))) - (nI 1)) gz (0 : Int) (((tn (S 2 0) : Nat) : Int) - ((1 : Nat) : Int)) h_gz (nI_toInt (n := 0) (by decide)) (pk_sub_toInt (a := tn (S 2 0)) (b := 1) (by omega) (by omega))) ⟨va_cnB (host := "LeftAtFive") 3 hts gX7_isGood_X8_within_n92 rfl rfl rfl (hM.2.2.2.2.2 (RX7, 92, yX8_within) (by decide +kernel)) (hts _ iniX7_isGood_X8) (by decide +kernel) ⟨Nat.le_of_ble_eq_true rfl, Nat.le_of_ble_eq_true rfl⟩, hts _ staX7_isGood_X8_within, trivial⟩ hM [] rfl rfl rfl hl.1 rfl (Nat.le_of_ble_eq_true rfl) dX7_isGood_8 ⟨Nat.le_of_ble_eq_true rfl, Nat.le_of_ble_eq_true rfl⟩) (fun r u H locs hq hM => ?_)
  subst hq
  have hM : xM D (TY q) [wst q ad X] A s.heap s H locs := hM
  exact x_zret hx hb hr hlocks () hM zb_bool (show zb ((0 : Int) ≤ gz ∧ gz ≤ (((tn (S 2 0) : Nat) : Int) - ((1 : Nat) : Int))) = zb (0 ≤ gz ∧ gz < (tn (S 2 0))) from by (congr 1; apply propext; omega)) dX7_isGood_11

set_option maxRecDepth 20000 in
theorem ggX7_isHouse_X8_within : GoodIn wsX7_isHouse wsX8_within := goodIn_r _ [4] (by decide +kernel) (by decide +kernel)
set_option maxRecDepth 20000 in
theorem gX7_isHouse_X8_within_n92 : GoodIn wsX7_isHouse (wsX8_within) := ggX7_isHouse_X8_within
theorem dX7_isHouse_0 : decode cX7_isHouse 0 = .ok (.iload_n 1, 1) := by decide +kernel
theorem dX7_isHouse_1 : decode cX7_isHouse 1 = .ok (.iconst 0, 1) := by decide +kernel
theorem dX7_isHouse_2 : decode cX7_isHouse 2 = .ok (.aload_n 0, 1) := by decide +kernel
theorem dX7_isHouse_3 : decode cX7_isHouse 3 = .ok (.getfield 49, 3) := by decide +kernel
theorem dX7_isHouse_6 : decode cX7_isHouse 6 = .ok (.iconst 1, 1) := by decide +kernel
theorem dX7_isHouse_7 : decode cX7_isHouse 7 = .ok (.isub, 1) := by decide +kernel
theorem dX7_isHouse_8 : decode cX7_isHouse 8 = .ok (.invokestatic 92, 3) := by decide +kernel
theorem dX7_isHouse_11 : decode cX7_isHouse 11 = .ok (.ireturn, 1) := by decide +kernel
theorem lkX7_isHouse_49 : Cond.fieldLink RX7 49 "LeftAtFive$Street" "houses" "I" ∈ wsX7_isHouse := by decide +kernel
theorem iniX7_isHouse_X8 : Cond.initialized RX8 ∈ wsX7_isHouse := by decide +kernel
theorem staX7_isHouse_X8_within : Cond.static yX8_within ∈ wsX7_isHouse := by decide +kernel
theorem iwX7_isHouse_X7 : ∀ w ∈ wsX70, w ∈ wsX7_isHouse := by decide +kernel
set_option maxHeartbeats 1000000 in
set_option maxRecDepth 100000 in
theorem c_X7_isHouse (l : Launch) (D : va_G) (q : Nat → ClassId) (ad : Nat → Nat) (X : Nat → Nat → Int32) (S : Nat → Nat → Int32) (h : Int32) (hz : Int) (hT : okT X S) (h_hz : h.toInt = hz) : xC l yX7_isHouse wsX7_isHouse ({ frames := 1, cells := 0, slots := 0, locals := 22 }) D (TY q) [wst q ad X] [.ref (ad 0), .int h] (xQi D (TY q) (fun (r : Int32) (_ : Unit) => r = zb (0 ≤ hz ∧ hz < (tn (S 5 0)))) (fun _ => [wst q ad X])) 0 0 := by
  refine x_enter (cc := cX7_isHouse) (maxL := 2) (ret := (some .boolean)) (by decide) rfl (Nat.le_of_ble_eq_true rfl) ?_
  intro p e s m below meth c A ls H locs hfix hr hlocks hinit hM hl
  obtain ⟨hx, hb, hml, hown, hts⟩ := id hfix
  have hl : lv_has ls 2 [(0, .ref (ad 0)), (1, .int h)] := hl
  have hTb := okT_1b hT
  refine lv_iload_n hx hb dX7_isHouse_0 rfl (lv_at hl 1 rfl) ?_
  refine lv_iconst (v := nI 0) hx hb dX7_isHouse_1 (by decide) ?_
  refine lv_aload_n hx hb dX7_isHouse_2 rfl (lv_at hl 0 rfl) ?_
  refine x_get hx hb hts iwX7_isHouse_X7 hown hM 0 0 rfl rfl rfl 1 (by decide) (hts _ lkX7_isHouse_49) (fun _ h => h) rfl dX7_isHouse_3 ?_
  refine x_cast (y := nI (tn (S 5 0))) (okT_1 hT) ?_
  refine lv_iconst (v := nI 1) hx hb dX7_isHouse_6 (by decide) ?_
  refine lv_isub hx hb dX7_isHouse_7 ?_
  refine x_calli (bc := []) (br := [wst q ad X]) hM [] [0] rfl rfl rfl (by decide) (x_runSN (As := [.int h, .int (nI 0), .int ((nI (tn (S 5 0))) - (nI 1))]) (rest := []) hfix (c_X8_within l D q h (nI 0) ((nI (tn (S 5 0))) - (nI 1)) hz (0 : Int) (((tn (S 5 0) : Nat) : Int) - ((1 : Nat) : Int)) h_hz (nI_toInt (n := 0) (by decide)) (pk_sub_toInt (a := tn (S 5 0)) (b := 1) (by omega) (by omega))) ⟨va_cnB (host := "LeftAtFive") 3 hts gX7_isHouse_X8_within_n92 rfl rfl rfl (hM.2.2.2.2.2 (RX7, 92, yX8_within) (by decide +kernel)) (hts _ iniX7_isHouse_X8) (by decide +kernel) ⟨Nat.le_of_ble_eq_true rfl, Nat.le_of_ble_eq_true rfl⟩, hts _ staX7_isHouse_X8_within, trivial⟩ hM [] rfl rfl rfl hl.1 rfl (Nat.le_of_ble_eq_true rfl) dX7_isHouse_8 ⟨Nat.le_of_ble_eq_true rfl, Nat.le_of_ble_eq_true rfl⟩) (fun r u H locs hq hM => ?_)
  subst hq
  have hM : xM D (TY q) [wst q ad X] A s.heap s H locs := hM
  exact x_zret hx hb hr hlocks () hM zb_bool (show zb ((0 : Int) ≤ hz ∧ hz ≤ (((tn (S 5 0) : Nat) : Int) - ((1 : Nat) : Int))) = zb (0 ≤ hz ∧ hz < (tn (S 5 0))) from by (congr 1; apply propext; omega)) dX7_isHouse_11

set_option maxRecDepth 20000 in
theorem ggX7_isEater_X8_within : GoodIn wsX7_isEater wsX8_within := goodIn_r _ [4] (by decide +kernel) (by decide +kernel)
set_option maxRecDepth 20000 in
theorem gX7_isEater_X8_within_n92 : GoodIn wsX7_isEater (wsX8_within) := ggX7_isEater_X8_within
theorem dX7_isEater_0 : decode cX7_isEater 0 = .ok (.iload_n 1, 1) := by decide +kernel
theorem dX7_isEater_1 : decode cX7_isEater 1 = .ok (.iconst 0, 1) := by decide +kernel
theorem dX7_isEater_2 : decode cX7_isEater 2 = .ok (.aload_n 0, 1) := by decide +kernel
theorem dX7_isEater_3 : decode cX7_isEater 3 = .ok (.getfield 52, 3) := by decide +kernel
theorem dX7_isEater_6 : decode cX7_isEater 6 = .ok (.iconst 1, 1) := by decide +kernel
theorem dX7_isEater_7 : decode cX7_isEater 7 = .ok (.isub, 1) := by decide +kernel
theorem dX7_isEater_8 : decode cX7_isEater 8 = .ok (.invokestatic 92, 3) := by decide +kernel
theorem dX7_isEater_11 : decode cX7_isEater 11 = .ok (.ireturn, 1) := by decide +kernel
theorem lkX7_isEater_52 : Cond.fieldLink RX7 52 "LeftAtFive$Street" "eaters" "I" ∈ wsX7_isEater := by decide +kernel
theorem iniX7_isEater_X8 : Cond.initialized RX8 ∈ wsX7_isEater := by decide +kernel
theorem staX7_isEater_X8_within : Cond.static yX8_within ∈ wsX7_isEater := by decide +kernel
theorem iwX7_isEater_X7 : ∀ w ∈ wsX70, w ∈ wsX7_isEater := by decide +kernel
set_option maxHeartbeats 1000000 in
set_option maxRecDepth 100000 in
theorem c_X7_isEater (l : Launch) (D : va_G) (q : Nat → ClassId) (ad : Nat → Nat) (X : Nat → Nat → Int32) (S : Nat → Nat → Int32) (i : Int32) (iz : Int) (hT : okT X S) (h_iz : i.toInt = iz) : xC l yX7_isEater wsX7_isEater ({ frames := 1, cells := 0, slots := 0, locals := 22 }) D (TY q) [wst q ad X] [.ref (ad 0), .int i] (xQi D (TY q) (fun (r : Int32) (_ : Unit) => r = zb (0 ≤ iz ∧ iz < (tn (S 8 0)))) (fun _ => [wst q ad X])) 0 0 := by
  refine x_enter (cc := cX7_isEater) (maxL := 2) (ret := (some .boolean)) (by decide) rfl (Nat.le_of_ble_eq_true rfl) ?_
  intro p e s m below meth c A ls H locs hfix hr hlocks hinit hM hl
  obtain ⟨hx, hb, hml, hown, hts⟩ := id hfix
  have hl : lv_has ls 2 [(0, .ref (ad 0)), (1, .int i)] := hl
  have hTb := okT_2b hT
  refine lv_iload_n hx hb dX7_isEater_0 rfl (lv_at hl 1 rfl) ?_
  refine lv_iconst (v := nI 0) hx hb dX7_isEater_1 (by decide) ?_
  refine lv_aload_n hx hb dX7_isEater_2 rfl (lv_at hl 0 rfl) ?_
  refine x_get hx hb hts iwX7_isEater_X7 hown hM 0 0 rfl rfl rfl 2 (by decide) (hts _ lkX7_isEater_52) (fun _ h => h) rfl dX7_isEater_3 ?_
  refine x_cast (y := nI (tn (S 8 0))) (okT_2 hT) ?_
  refine lv_iconst (v := nI 1) hx hb dX7_isEater_6 (by decide) ?_
  refine lv_isub hx hb dX7_isEater_7 ?_
  refine x_calli (bc := []) (br := [wst q ad X]) hM [] [0] rfl rfl rfl (by decide) (x_runSN (As := [.int i, .int (nI 0), .int ((nI (tn (S 8 0))) - (nI 1))]) (rest := []) hfix (c_X8_within l D q i (nI 0) ((nI (tn (S 8 0))) - (nI 1)) iz (0 : Int) (((tn (S 8 0) : Nat) : Int) - ((1 : Nat) : Int)) h_iz (nI_toInt (n := 0) (by decide)) (pk_sub_toInt (a := tn (S 8 0)) (b := 1) (by omega) (by omega))) ⟨va_cnB (host := "LeftAtFive") 3 hts gX7_isEater_X8_within_n92 rfl rfl rfl (hM.2.2.2.2.2 (RX7, 92, yX8_within) (by decide +kernel)) (hts _ iniX7_isEater_X8) (by decide +kernel) ⟨Nat.le_of_ble_eq_true rfl, Nat.le_of_ble_eq_true rfl⟩, hts _ staX7_isEater_X8_within, trivial⟩ hM [] rfl rfl rfl hl.1 rfl (Nat.le_of_ble_eq_true rfl) dX7_isEater_8 ⟨Nat.le_of_ble_eq_true rfl, Nat.le_of_ble_eq_true rfl⟩) (fun r u H locs hq hM => ?_)
  subst hq
  have hM : xM D (TY q) [wst q ad X] A s.heap s H locs := hM
  exact x_zret hx hb hr hlocks () hM zb_bool (show zb ((0 : Int) ≤ iz ∧ iz ≤ (((tn (S 8 0) : Nat) : Int) - ((1 : Nat) : Int))) = zb (0 ≤ iz ∧ iz < (tn (S 8 0))) from by (congr 1; apply propext; omega)) dX7_isEater_11

set_option maxRecDepth 20000 in
theorem ggX7_isRecipe_X8_within : GoodIn wsX7_isRecipe wsX8_within := goodIn_r _ [4] (by decide +kernel) (by decide +kernel)
set_option maxRecDepth 20000 in
theorem gX7_isRecipe_X8_within_n92 : GoodIn wsX7_isRecipe (wsX8_within) := ggX7_isRecipe_X8_within
theorem dX7_isRecipe_0 : decode cX7_isRecipe 0 = .ok (.iload_n 1, 1) := by decide +kernel
theorem dX7_isRecipe_1 : decode cX7_isRecipe 1 = .ok (.iconst 0, 1) := by decide +kernel
theorem dX7_isRecipe_2 : decode cX7_isRecipe 2 = .ok (.aload_n 0, 1) := by decide +kernel
theorem dX7_isRecipe_3 : decode cX7_isRecipe 3 = .ok (.getfield 58, 3) := by decide +kernel
theorem dX7_isRecipe_6 : decode cX7_isRecipe 6 = .ok (.iconst 1, 1) := by decide +kernel
theorem dX7_isRecipe_7 : decode cX7_isRecipe 7 = .ok (.isub, 1) := by decide +kernel
theorem dX7_isRecipe_8 : decode cX7_isRecipe 8 = .ok (.invokestatic 92, 3) := by decide +kernel
theorem dX7_isRecipe_11 : decode cX7_isRecipe 11 = .ok (.ireturn, 1) := by decide +kernel
theorem lkX7_isRecipe_58 : Cond.fieldLink RX7 58 "LeftAtFive$Street" "recipes" "I" ∈ wsX7_isRecipe := by decide +kernel
theorem iniX7_isRecipe_X8 : Cond.initialized RX8 ∈ wsX7_isRecipe := by decide +kernel
theorem staX7_isRecipe_X8_within : Cond.static yX8_within ∈ wsX7_isRecipe := by decide +kernel
theorem iwX7_isRecipe_X7 : ∀ w ∈ wsX70, w ∈ wsX7_isRecipe := by decide +kernel
set_option maxHeartbeats 1000000 in
set_option maxRecDepth 100000 in
theorem c_X7_isRecipe (l : Launch) (D : va_G) (q : Nat → ClassId) (ad : Nat → Nat) (X : Nat → Nat → Int32) (S : Nat → Nat → Int32) (k : Int32) (kz : Int) (hT : okT X S) (h_kz : k.toInt = kz) : xC l yX7_isRecipe wsX7_isRecipe ({ frames := 1, cells := 0, slots := 0, locals := 22 }) D (TY q) [wst q ad X] [.ref (ad 0), .int k] (xQi D (TY q) (fun (r : Int32) (_ : Unit) => r = zb (0 ≤ kz ∧ kz < (tn (S 15 0)))) (fun _ => [wst q ad X])) 0 0 := by
  refine x_enter (cc := cX7_isRecipe) (maxL := 2) (ret := (some .boolean)) (by decide) rfl (Nat.le_of_ble_eq_true rfl) ?_
  intro p e s m below meth c A ls H locs hfix hr hlocks hinit hM hl
  obtain ⟨hx, hb, hml, hown, hts⟩ := id hfix
  have hl : lv_has ls 2 [(0, .ref (ad 0)), (1, .int k)] := hl
  have hTb := okT_4b hT
  refine lv_iload_n hx hb dX7_isRecipe_0 rfl (lv_at hl 1 rfl) ?_
  refine lv_iconst (v := nI 0) hx hb dX7_isRecipe_1 (by decide) ?_
  refine lv_aload_n hx hb dX7_isRecipe_2 rfl (lv_at hl 0 rfl) ?_
  refine x_get hx hb hts iwX7_isRecipe_X7 hown hM 0 0 rfl rfl rfl 4 (by decide) (hts _ lkX7_isRecipe_58) (fun _ h => h) rfl dX7_isRecipe_3 ?_
  refine x_cast (y := nI (tn (S 15 0))) (okT_4 hT) ?_
  refine lv_iconst (v := nI 1) hx hb dX7_isRecipe_6 (by decide) ?_
  refine lv_isub hx hb dX7_isRecipe_7 ?_
  refine x_calli (bc := []) (br := [wst q ad X]) hM [] [0] rfl rfl rfl (by decide) (x_runSN (As := [.int k, .int (nI 0), .int ((nI (tn (S 15 0))) - (nI 1))]) (rest := []) hfix (c_X8_within l D q k (nI 0) ((nI (tn (S 15 0))) - (nI 1)) kz (0 : Int) (((tn (S 15 0) : Nat) : Int) - ((1 : Nat) : Int)) h_kz (nI_toInt (n := 0) (by decide)) (pk_sub_toInt (a := tn (S 15 0)) (b := 1) (by omega) (by omega))) ⟨va_cnB (host := "LeftAtFive") 3 hts gX7_isRecipe_X8_within_n92 rfl rfl rfl (hM.2.2.2.2.2 (RX7, 92, yX8_within) (by decide +kernel)) (hts _ iniX7_isRecipe_X8) (by decide +kernel) ⟨Nat.le_of_ble_eq_true rfl, Nat.le_of_ble_eq_true rfl⟩, hts _ staX7_isRecipe_X8_within, trivial⟩ hM [] rfl rfl rfl hl.1 rfl (Nat.le_of_ble_eq_true rfl) dX7_isRecipe_8 ⟨Nat.le_of_ble_eq_true rfl, Nat.le_of_ble_eq_true rfl⟩) (fun r u H locs hq hM => ?_)
  subst hq
  have hM : xM D (TY q) [wst q ad X] A s.heap s H locs := hM
  exact x_zret hx hb hr hlocks () hM zb_bool (show zb ((0 : Int) ≤ kz ∧ kz ≤ (((tn (S 15 0) : Nat) : Int) - ((1 : Nat) : Int))) = zb (0 ≤ kz ∧ kz < (tn (S 15 0))) from by (congr 1; apply propext; omega)) dX7_isRecipe_11

theorem dX7_spot_0 : decode cX7_spot 0 = .ok (.iload_n 0, 1) := by decide +kernel
theorem dX7_spot_1 : decode cX7_spot 1 = .ok (.iconst 5, 1) := by decide +kernel
theorem dX7_spot_2 : decode cX7_spot 2 = .ok (.imul, 1) := by decide +kernel
theorem dX7_spot_3 : decode cX7_spot 3 = .ok (.iload_n 1, 1) := by decide +kernel
theorem dX7_spot_4 : decode cX7_spot 4 = .ok (.iadd, 1) := by decide +kernel
theorem dX7_spot_5 : decode cX7_spot 5 = .ok (.ireturn, 1) := by decide +kernel
set_option maxHeartbeats 1000000 in
set_option maxRecDepth 100000 in
theorem c_X7_spot (l : Launch) (D : va_G) (q : Nat → ClassId) (h : Nat) (g : Nat) : xC l yX7_spot wsX7_spot ({ frames := 0, cells := 0, slots := 0, locals := 0 }) D (TY q) [] [.int (nI h), .int (nI g)] (xQi D (TY q) (fun (r : Int32) (_ : Unit) => r = nI (5 * h + g)) (fun _ => [])) 0 0 := by
  refine x_enter (cc := cX7_spot) (maxL := 2) (ret := (some .int)) (by decide) rfl (Nat.le_of_ble_eq_true rfl) ?_
  intro p e s m below meth c A ls H locs hfix hr hlocks hinit hM hl
  obtain ⟨hx, hb, hml, hown, hts⟩ := id hfix
  have hl : lv_has ls 2 [(0, .int (nI h)), (1, .int (nI g))] := hl
  refine lv_iload_n hx hb dX7_spot_0 rfl (lv_at hl 0 rfl) ?_
  refine lv_iconst (v := nI 5) hx hb dX7_spot_1 (by decide) ?_
  refine x_imul (x := h) (y := 5) hx hb dX7_spot_2 ?_
  refine lv_iload_n hx hb dX7_spot_3 rfl (lv_at hl 1 rfl) ?_
  refine x_iadd (x := h * 5) (y := g) hx hb dX7_spot_4 ?_
  exact x_iret hx hb hr hlocks () hM (show nI (h * 5 + g) = nI (5 * h + g) from by (congr 1; omega)) dX7_spot_5

set_option maxRecDepth 20000 in
theorem ggX7_worthEach_X5_at : GoodIn wsX7_worthEach wsX5_at := goodIn_r _ [5] (by decide +kernel) (by decide +kernel)
set_option maxRecDepth 20000 in
theorem gX7_worthEach_X5_at : GoodIn wsX7_worthEach (va_wsS RX7 67 yX5_at wsX5_at) := goodIn_app (goodIn_of _ (by decide +kernel)) ggX7_worthEach_X5_at
theorem dX7_worthEach_0 : decode cX7_worthEach 0 = .ok (.aload_n 0, 1) := by decide +kernel
theorem dX7_worthEach_1 : decode cX7_worthEach 1 = .ok (.getfield 9, 3) := by decide +kernel
theorem dX7_worthEach_4 : decode cX7_worthEach 4 = .ok (.iload_n 1, 1) := by decide +kernel
theorem dX7_worthEach_5 : decode cX7_worthEach 5 = .ok (.invokestatic 67, 3) := by decide +kernel
theorem dX7_worthEach_8 : decode cX7_worthEach 8 = .ok (.ireturn, 1) := by decide +kernel
theorem lkX7_worthEach_9 : Cond.fieldLink RX7 9 "LeftAtFive$Street" "worth" "[I" ∈ wsX7_worthEach := by decide +kernel
theorem iwX7_worthEach_X7 : ∀ w ∈ wsX70, w ∈ wsX7_worthEach := by decide +kernel
set_option maxHeartbeats 1000000 in
set_option maxRecDepth 100000 in
theorem c_X7_worthEach (l : Launch) (D : va_G) (q : Nat → ClassId) (ad : Nat → Nat) (X : Nat → Nat → Int32) (S : Nat → Nat → Int32) (g : Nat) (hT : okT X S) (hg0 : g < (tn (S 2 0))) : xC l yX7_worthEach wsX7_worthEach ({ frames := 1, cells := 0, slots := 0, locals := 21 }) D (TY q) [wst q ad X] [.ref (ad 0), .int (nI g)] (xQi D (TY q) (fun (r : Int32) (_ : Unit) => r = S 3 g) (fun _ => [wst q ad X])) 0 0 := by
  refine x_enter (cc := cX7_worthEach) (maxL := 2) (ret := (some .int)) (by decide) rfl (Nat.le_of_ble_eq_true rfl) ?_
  intro p e s m below meth c A ls H locs hfix hr hlocks hinit hM hl
  obtain ⟨hx, hb, hml, hown, hts⟩ := id hfix
  have hl : lv_has ls 2 [(0, .ref (ad 0)), (1, .int (nI g))] := hl
  have hTb := okT_0b hT
  refine lv_aload_n hx hb dX7_worthEach_0 rfl (lv_at hl 0 rfl) ?_
  refine x_get hx hb hts iwX7_worthEach_X7 hown hM 0 0 rfl rfl rfl 5 (by decide) (hts _ lkX7_worthEach_9) (fun _ h => h) rfl dX7_worthEach_1 ?_
  refine lv_iload_n hx hb dX7_worthEach_4 rfl (lv_at hl 1 rfl) ?_
  refine x_calli (bc := [wst q ad X]) (br := []) hM [0] [] rfl rfl rfl (by decide) (x_runS (As := [.ref (ad 6), .int (nI g)]) (rest := []) hfix (c_X5_at l D q (wst q ad X) 1 (ad 6) 5 (X 5) g rfl (by decide) (by omega)) (va_cwS 2 hts gX7_worthEach_X5_at rfl rfl rfl (by decide +kernel) ⟨Nat.le_of_ble_eq_true rfl, Nat.le_of_ble_eq_true rfl⟩) hM [0] rfl rfl rfl hl.1 rfl (Nat.le_of_ble_eq_true rfl) dX7_worthEach_5 ⟨Nat.le_of_ble_eq_true rfl, Nat.le_of_ble_eq_true rfl⟩) (fun r u H locs hq hM => ?_)
  subst hq
  have hM : xM D (TY q) [wst q ad X] A s.heap s H locs := hM
  refine x_cast (y := S 3 g) (okT_wo hT hg0) ?_
  exact x_iret hx hb hr hlocks () hM (show S 3 g = S 3 g from rfl) dX7_worthEach_8

set_option maxRecDepth 20000 in
theorem ggX7_cellOf_X5_at : GoodIn wsX7_cellOf wsX5_at := goodIn_r _ [5] (by decide +kernel) (by decide +kernel)
set_option maxRecDepth 20000 in
theorem gX7_cellOf_X5_at : GoodIn wsX7_cellOf (va_wsS RX7 67 yX5_at wsX5_at) := goodIn_app (goodIn_of _ (by decide +kernel)) ggX7_cellOf_X5_at
theorem dX7_cellOf_0 : decode cX7_cellOf 0 = .ok (.aload_n 0, 1) := by decide +kernel
theorem dX7_cellOf_1 : decode cX7_cellOf 1 = .ok (.getfield 18, 3) := by decide +kernel
theorem dX7_cellOf_4 : decode cX7_cellOf 4 = .ok (.iload_n 1, 1) := by decide +kernel
theorem dX7_cellOf_5 : decode cX7_cellOf 5 = .ok (.invokestatic 67, 3) := by decide +kernel
theorem dX7_cellOf_8 : decode cX7_cellOf 8 = .ok (.ireturn, 1) := by decide +kernel
theorem lkX7_cellOf_18 : Cond.fieldLink RX7 18 "LeftAtFive$Street" "cell" "[I" ∈ wsX7_cellOf := by decide +kernel
theorem iwX7_cellOf_X7 : ∀ w ∈ wsX70, w ∈ wsX7_cellOf := by decide +kernel
set_option maxHeartbeats 1000000 in
set_option maxRecDepth 100000 in
theorem c_X7_cellOf (l : Launch) (D : va_G) (q : Nat → ClassId) (ad : Nat → Nat) (X : Nat → Nat → Int32) (S : Nat → Nat → Int32) (h : Nat) (hT : okT X S) (hh0 : h < (tn (S 5 0))) : xC l yX7_cellOf wsX7_cellOf ({ frames := 1, cells := 0, slots := 0, locals := 21 }) D (TY q) [wst q ad X] [.ref (ad 0), .int (nI h)] (xQi D (TY q) (fun (r : Int32) (_ : Unit) => r = S 6 h) (fun _ => [wst q ad X])) 0 0 := by
  refine x_enter (cc := cX7_cellOf) (maxL := 2) (ret := (some .int)) (by decide) rfl (Nat.le_of_ble_eq_true rfl) ?_
  intro p e s m below meth c A ls H locs hfix hr hlocks hinit hM hl
  obtain ⟨hx, hb, hml, hown, hts⟩ := id hfix
  have hl : lv_has ls 2 [(0, .ref (ad 0)), (1, .int (nI h))] := hl
  have hTb := okT_1b hT
  refine lv_aload_n hx hb dX7_cellOf_0 rfl (lv_at hl 0 rfl) ?_
  refine x_get hx hb hts iwX7_cellOf_X7 hown hM 0 0 rfl rfl rfl 7 (by decide) (hts _ lkX7_cellOf_18) (fun _ h => h) rfl dX7_cellOf_1 ?_
  refine lv_iload_n hx hb dX7_cellOf_4 rfl (lv_at hl 1 rfl) ?_
  refine x_calli (bc := [wst q ad X]) (br := []) hM [0] [] rfl rfl rfl (by decide) (x_runS (As := [.ref (ad 8), .int (nI h)]) (rest := []) hfix (c_X5_at l D q (wst q ad X) 3 (ad 8) 5 (X 7) h rfl (by decide) (by omega)) (va_cwS 2 hts gX7_cellOf_X5_at rfl rfl rfl (by decide +kernel) ⟨Nat.le_of_ble_eq_true rfl, Nat.le_of_ble_eq_true rfl⟩) hM [0] rfl rfl rfl hl.1 rfl (Nat.le_of_ble_eq_true rfl) dX7_cellOf_5 ⟨Nat.le_of_ble_eq_true rfl, Nat.le_of_ble_eq_true rfl⟩) (fun r u H locs hq hM => ?_)
  subst hq
  have hM : xM D (TY q) [wst q ad X] A s.heap s H locs := hM
  refine x_cast (y := S 6 h) (okT_ce hT hh0) ?_
  exact x_iret hx hb hr hlocks () hM (show S 6 h = S 6 h from rfl) dX7_cellOf_8

set_option maxRecDepth 20000 in
theorem ggX7_spotOf_X5_at : GoodIn wsX7_spotOf wsX5_at := goodIn_r _ [5] (by decide +kernel) (by decide +kernel)
set_option maxRecDepth 20000 in
theorem gX7_spotOf_X5_at : GoodIn wsX7_spotOf (va_wsS RX7 67 yX5_at wsX5_at) := goodIn_app (goodIn_of _ (by decide +kernel)) ggX7_spotOf_X5_at
theorem dX7_spotOf_0 : decode cX7_spotOf 0 = .ok (.aload_n 0, 1) := by decide +kernel
theorem dX7_spotOf_1 : decode cX7_spotOf 1 = .ok (.getfield 24, 3) := by decide +kernel
theorem dX7_spotOf_4 : decode cX7_spotOf 4 = .ok (.iload_n 1, 1) := by decide +kernel
theorem dX7_spotOf_5 : decode cX7_spotOf 5 = .ok (.invokestatic 67, 3) := by decide +kernel
theorem dX7_spotOf_8 : decode cX7_spotOf 8 = .ok (.ireturn, 1) := by decide +kernel
theorem lkX7_spotOf_24 : Cond.fieldLink RX7 24 "LeftAtFive$Street" "eatsAt" "[I" ∈ wsX7_spotOf := by decide +kernel
theorem iwX7_spotOf_X7 : ∀ w ∈ wsX70, w ∈ wsX7_spotOf := by decide +kernel
set_option maxHeartbeats 1000000 in
set_option maxRecDepth 100000 in
theorem c_X7_spotOf (l : Launch) (D : va_G) (q : Nat → ClassId) (ad : Nat → Nat) (X : Nat → Nat → Int32) (S : Nat → Nat → Int32) (i : Nat) (hT : okT X S) (hi0 : i < (tn (S 8 0))) : xC l yX7_spotOf wsX7_spotOf ({ frames := 1, cells := 0, slots := 0, locals := 21 }) D (TY q) [wst q ad X] [.ref (ad 0), .int (nI i)] (xQi D (TY q) (fun (r : Int32) (_ : Unit) => r = nI (5 * tn (S 9 i) + tn (S 10 i))) (fun _ => [wst q ad X])) 0 0 := by
  refine x_enter (cc := cX7_spotOf) (maxL := 2) (ret := (some .int)) (by decide) rfl (Nat.le_of_ble_eq_true rfl) ?_
  intro p e s m below meth c A ls H locs hfix hr hlocks hinit hM hl
  obtain ⟨hx, hb, hml, hown, hts⟩ := id hfix
  have hl : lv_has ls 2 [(0, .ref (ad 0)), (1, .int (nI i))] := hl
  have hTb := okT_2b hT
  refine lv_aload_n hx hb dX7_spotOf_0 rfl (lv_at hl 0 rfl) ?_
  refine x_get hx hb hts iwX7_spotOf_X7 hown hM 0 0 rfl rfl rfl 9 (by decide) (hts _ lkX7_spotOf_24) (fun _ h => h) rfl dX7_spotOf_1 ?_
  refine lv_iload_n hx hb dX7_spotOf_4 rfl (lv_at hl 1 rfl) ?_
  refine x_calli (bc := [wst q ad X]) (br := []) hM [0] [] rfl rfl rfl (by decide) (x_runS (As := [.ref (ad 10), .int (nI i)]) (rest := []) hfix (c_X5_at l D q (wst q ad X) 5 (ad 10) 8 (X 9) i rfl (by decide) (by omega)) (va_cwS 2 hts gX7_spotOf_X5_at rfl rfl rfl (by decide +kernel) ⟨Nat.le_of_ble_eq_true rfl, Nat.le_of_ble_eq_true rfl⟩) hM [0] rfl rfl rfl hl.1 rfl (Nat.le_of_ble_eq_true rfl) dX7_spotOf_5 ⟨Nat.le_of_ble_eq_true rfl, Nat.le_of_ble_eq_true rfl⟩) (fun r u H locs hq hM => ?_)
  subst hq
  have hM : xM D (TY q) [wst q ad X] A s.heap s H locs := hM
  refine x_cast (y := nI (5 * tn (S 9 i) + tn (S 10 i))) (okT_ea hT hi0) ?_
  exact x_iret hx hb hr hlocks () hM (show nI (5 * tn (S 9 i) + tn (S 10 i)) = nI (5 * tn (S 9 i) + tn (S 10 i)) from rfl) dX7_spotOf_8

set_option maxRecDepth 20000 in
theorem ggX7_paceOf_X5_at : GoodIn wsX7_paceOf wsX5_at := goodIn_r _ [5] (by decide +kernel) (by decide +kernel)
set_option maxRecDepth 20000 in
theorem gX7_paceOf_X5_at : GoodIn wsX7_paceOf (va_wsS RX7 67 yX5_at wsX5_at) := goodIn_app (goodIn_of _ (by decide +kernel)) ggX7_paceOf_X5_at
theorem dX7_paceOf_0 : decode cX7_paceOf 0 = .ok (.aload_n 0, 1) := by decide +kernel
theorem dX7_paceOf_1 : decode cX7_paceOf 1 = .ok (.getfield 27, 3) := by decide +kernel
theorem dX7_paceOf_4 : decode cX7_paceOf 4 = .ok (.iload_n 1, 1) := by decide +kernel
theorem dX7_paceOf_5 : decode cX7_paceOf 5 = .ok (.invokestatic 67, 3) := by decide +kernel
theorem dX7_paceOf_8 : decode cX7_paceOf 8 = .ok (.ireturn, 1) := by decide +kernel
theorem lkX7_paceOf_27 : Cond.fieldLink RX7 27 "LeftAtFive$Street" "pace" "[I" ∈ wsX7_paceOf := by decide +kernel
theorem iwX7_paceOf_X7 : ∀ w ∈ wsX70, w ∈ wsX7_paceOf := by decide +kernel
set_option maxHeartbeats 1000000 in
set_option maxRecDepth 100000 in
theorem c_X7_paceOf (l : Launch) (D : va_G) (q : Nat → ClassId) (ad : Nat → Nat) (X : Nat → Nat → Int32) (S : Nat → Nat → Int32) (i : Nat) (hT : okT X S) (hi0 : i < (tn (S 8 0))) : xC l yX7_paceOf wsX7_paceOf ({ frames := 1, cells := 0, slots := 0, locals := 21 }) D (TY q) [wst q ad X] [.ref (ad 0), .int (nI i)] (xQi D (TY q) (fun (r : Int32) (_ : Unit) => r = S 11 i) (fun _ => [wst q ad X])) 0 0 := by
  refine x_enter (cc := cX7_paceOf) (maxL := 2) (ret := (some .int)) (by decide) rfl (Nat.le_of_ble_eq_true rfl) ?_
  intro p e s m below meth c A ls H locs hfix hr hlocks hinit hM hl
  obtain ⟨hx, hb, hml, hown, hts⟩ := id hfix
  have hl : lv_has ls 2 [(0, .ref (ad 0)), (1, .int (nI i))] := hl
  have hTb := okT_2b hT
  refine lv_aload_n hx hb dX7_paceOf_0 rfl (lv_at hl 0 rfl) ?_
  refine x_get hx hb hts iwX7_paceOf_X7 hown hM 0 0 rfl rfl rfl 10 (by decide) (hts _ lkX7_paceOf_27) (fun _ h => h) rfl dX7_paceOf_1 ?_
  refine lv_iload_n hx hb dX7_paceOf_4 rfl (lv_at hl 1 rfl) ?_
  refine x_calli (bc := [wst q ad X]) (br := []) hM [0] [] rfl rfl rfl (by decide) (x_runS (As := [.ref (ad 11), .int (nI i)]) (rest := []) hfix (c_X5_at l D q (wst q ad X) 6 (ad 11) 8 (X 10) i rfl (by decide) (by omega)) (va_cwS 2 hts gX7_paceOf_X5_at rfl rfl rfl (by decide +kernel) ⟨Nat.le_of_ble_eq_true rfl, Nat.le_of_ble_eq_true rfl⟩) hM [0] rfl rfl rfl hl.1 rfl (Nat.le_of_ble_eq_true rfl) dX7_paceOf_5 ⟨Nat.le_of_ble_eq_true rfl, Nat.le_of_ble_eq_true rfl⟩) (fun r u H locs hq hM => ?_)
  subst hq
  have hM : xM D (TY q) [wst q ad X] A s.heap s H locs := hM
  refine x_cast (y := S 11 i) (okT_pa hT hi0) ?_
  exact x_iret hx hb hr hlocks () hM (show S 11 i = S 11 i from rfl) dX7_paceOf_8

set_option maxRecDepth 20000 in
theorem ggX7_loavesOf_X5_at : GoodIn wsX7_loavesOf wsX5_at := goodIn_r _ [5] (by decide +kernel) (by decide +kernel)
set_option maxRecDepth 20000 in
theorem gX7_loavesOf_X5_at : GoodIn wsX7_loavesOf (va_wsS RX7 67 yX5_at wsX5_at) := goodIn_app (goodIn_of _ (by decide +kernel)) ggX7_loavesOf_X5_at
theorem dX7_loavesOf_0 : decode cX7_loavesOf 0 = .ok (.aload_n 0, 1) := by decide +kernel
theorem dX7_loavesOf_1 : decode cX7_loavesOf 1 = .ok (.getfield 30, 3) := by decide +kernel
theorem dX7_loavesOf_4 : decode cX7_loavesOf 4 = .ok (.iload_n 1, 1) := by decide +kernel
theorem dX7_loavesOf_5 : decode cX7_loavesOf 5 = .ok (.invokestatic 67, 3) := by decide +kernel
theorem dX7_loavesOf_8 : decode cX7_loavesOf 8 = .ok (.ireturn, 1) := by decide +kernel
theorem lkX7_loavesOf_30 : Cond.fieldLink RX7 30 "LeftAtFive$Street" "loaves" "[I" ∈ wsX7_loavesOf := by decide +kernel
theorem iwX7_loavesOf_X7 : ∀ w ∈ wsX70, w ∈ wsX7_loavesOf := by decide +kernel
set_option maxHeartbeats 1000000 in
set_option maxRecDepth 100000 in
theorem c_X7_loavesOf (l : Launch) (D : va_G) (q : Nat → ClassId) (ad : Nat → Nat) (X : Nat → Nat → Int32) (S : Nat → Nat → Int32) (d : Nat) (hT : okT X S) (hd0 : d < (tn (S 12 0))) : xC l yX7_loavesOf wsX7_loavesOf ({ frames := 1, cells := 0, slots := 0, locals := 21 }) D (TY q) [wst q ad X] [.ref (ad 0), .int (nI d)] (xQi D (TY q) (fun (r : Int32) (_ : Unit) => r = S 13 d) (fun _ => [wst q ad X])) 0 0 := by
  refine x_enter (cc := cX7_loavesOf) (maxL := 2) (ret := (some .int)) (by decide) rfl (Nat.le_of_ble_eq_true rfl) ?_
  intro p e s m below meth c A ls H locs hfix hr hlocks hinit hM hl
  obtain ⟨hx, hb, hml, hown, hts⟩ := id hfix
  have hl : lv_has ls 2 [(0, .ref (ad 0)), (1, .int (nI d))] := hl
  have hTb := okT_3b hT
  refine lv_aload_n hx hb dX7_loavesOf_0 rfl (lv_at hl 0 rfl) ?_
  refine x_get hx hb hts iwX7_loavesOf_X7 hown hM 0 0 rfl rfl rfl 11 (by decide) (hts _ lkX7_loavesOf_30) (fun _ h => h) rfl dX7_loavesOf_1 ?_
  refine lv_iload_n hx hb dX7_loavesOf_4 rfl (lv_at hl 1 rfl) ?_
  refine x_calli (bc := [wst q ad X]) (br := []) hM [0] [] rfl rfl rfl (by decide) (x_runS (As := [.ref (ad 12), .int (nI d)]) (rest := []) hfix (c_X5_at l D q (wst q ad X) 7 (ad 12) 5 (X 11) d rfl (by decide) (by omega)) (va_cwS 2 hts gX7_loavesOf_X5_at rfl rfl rfl (by decide +kernel) ⟨Nat.le_of_ble_eq_true rfl, Nat.le_of_ble_eq_true rfl⟩) hM [0] rfl rfl rfl hl.1 rfl (Nat.le_of_ble_eq_true rfl) dX7_loavesOf_5 ⟨Nat.le_of_ble_eq_true rfl, Nat.le_of_ble_eq_true rfl⟩) (fun r u H locs hq hM => ?_)
  subst hq
  have hM : xM D (TY q) [wst q ad X] A s.heap s H locs := hM
  refine x_cast (y := S 13 d) (okT_lo hT hd0) ?_
  exact x_iret hx hb hr hlocks () hM (show S 13 d = S 13 d from rfl) dX7_loavesOf_8

set_option maxRecDepth 20000 in
theorem ggX7_chanceOf_X5_at : GoodIn wsX7_chanceOf wsX5_at := goodIn_r _ [5] (by decide +kernel) (by decide +kernel)
set_option maxRecDepth 20000 in
theorem gX7_chanceOf_X5_at : GoodIn wsX7_chanceOf (va_wsS RX7 67 yX5_at wsX5_at) := goodIn_app (goodIn_of _ (by decide +kernel)) ggX7_chanceOf_X5_at
theorem dX7_chanceOf_0 : decode cX7_chanceOf 0 = .ok (.aload_n 0, 1) := by decide +kernel
theorem dX7_chanceOf_1 : decode cX7_chanceOf 1 = .ok (.getfield 33, 3) := by decide +kernel
theorem dX7_chanceOf_4 : decode cX7_chanceOf 4 = .ok (.iload_n 1, 1) := by decide +kernel
theorem dX7_chanceOf_5 : decode cX7_chanceOf 5 = .ok (.invokestatic 67, 3) := by decide +kernel
theorem dX7_chanceOf_8 : decode cX7_chanceOf 8 = .ok (.ireturn, 1) := by decide +kernel
theorem lkX7_chanceOf_33 : Cond.fieldLink RX7 33 "LeftAtFive$Street" "chance" "[I" ∈ wsX7_chanceOf := by decide +kernel
theorem iwX7_chanceOf_X7 : ∀ w ∈ wsX70, w ∈ wsX7_chanceOf := by decide +kernel
set_option maxHeartbeats 1000000 in
set_option maxRecDepth 100000 in
theorem c_X7_chanceOf (l : Launch) (D : va_G) (q : Nat → ClassId) (ad : Nat → Nat) (X : Nat → Nat → Int32) (S : Nat → Nat → Int32) (d : Nat) (hT : okT X S) (hd0 : d < (tn (S 12 0))) : xC l yX7_chanceOf wsX7_chanceOf ({ frames := 1, cells := 0, slots := 0, locals := 21 }) D (TY q) [wst q ad X] [.ref (ad 0), .int (nI d)] (xQi D (TY q) (fun (r : Int32) (_ : Unit) => r = S 14 d) (fun _ => [wst q ad X])) 0 0 := by
  refine x_enter (cc := cX7_chanceOf) (maxL := 2) (ret := (some .int)) (by decide) rfl (Nat.le_of_ble_eq_true rfl) ?_
  intro p e s m below meth c A ls H locs hfix hr hlocks hinit hM hl
  obtain ⟨hx, hb, hml, hown, hts⟩ := id hfix
  have hl : lv_has ls 2 [(0, .ref (ad 0)), (1, .int (nI d))] := hl
  have hTb := okT_3b hT
  refine lv_aload_n hx hb dX7_chanceOf_0 rfl (lv_at hl 0 rfl) ?_
  refine x_get hx hb hts iwX7_chanceOf_X7 hown hM 0 0 rfl rfl rfl 12 (by decide) (hts _ lkX7_chanceOf_33) (fun _ h => h) rfl dX7_chanceOf_1 ?_
  refine lv_iload_n hx hb dX7_chanceOf_4 rfl (lv_at hl 1 rfl) ?_
  refine x_calli (bc := [wst q ad X]) (br := []) hM [0] [] rfl rfl rfl (by decide) (x_runS (As := [.ref (ad 13), .int (nI d)]) (rest := []) hfix (c_X5_at l D q (wst q ad X) 8 (ad 13) 5 (X 12) d rfl (by decide) (by omega)) (va_cwS 2 hts gX7_chanceOf_X5_at rfl rfl rfl (by decide +kernel) ⟨Nat.le_of_ble_eq_true rfl, Nat.le_of_ble_eq_true rfl⟩) hM [0] rfl rfl rfl hl.1 rfl (Nat.le_of_ble_eq_true rfl) dX7_chanceOf_5 ⟨Nat.le_of_ble_eq_true rfl, Nat.le_of_ble_eq_true rfl⟩) (fun r u H locs hq hM => ?_)
  subst hq
  have hM : xM D (TY q) [wst q ad X] A s.heap s H locs := hM
  refine x_cast (y := S 14 d) (okT_ch hT hd0) ?_
  exact x_iret hx hb hr hlocks () hM (show S 14 d = S 14 d from rfl) dX7_chanceOf_8

set_option maxRecDepth 20000 in
theorem ggX7_oneOf_X5_at : GoodIn wsX7_oneOf wsX5_at := goodIn_r _ [5] (by decide +kernel) (by decide +kernel)
set_option maxRecDepth 20000 in
theorem gX7_oneOf_X5_at : GoodIn wsX7_oneOf (va_wsS RX7 67 yX5_at wsX5_at) := goodIn_app (goodIn_of _ (by decide +kernel)) ggX7_oneOf_X5_at
theorem dX7_oneOf_0 : decode cX7_oneOf 0 = .ok (.aload_n 0, 1) := by decide +kernel
theorem dX7_oneOf_1 : decode cX7_oneOf 1 = .ok (.getfield 36, 3) := by decide +kernel
theorem dX7_oneOf_4 : decode cX7_oneOf 4 = .ok (.iload_n 1, 1) := by decide +kernel
theorem dX7_oneOf_5 : decode cX7_oneOf 5 = .ok (.invokestatic 67, 3) := by decide +kernel
theorem dX7_oneOf_8 : decode cX7_oneOf 8 = .ok (.ireturn, 1) := by decide +kernel
theorem lkX7_oneOf_36 : Cond.fieldLink RX7 36 "LeftAtFive$Street" "one" "[I" ∈ wsX7_oneOf := by decide +kernel
theorem iwX7_oneOf_X7 : ∀ w ∈ wsX70, w ∈ wsX7_oneOf := by decide +kernel
set_option maxHeartbeats 1000000 in
set_option maxRecDepth 100000 in
theorem c_X7_oneOf (l : Launch) (D : va_G) (q : Nat → ClassId) (ad : Nat → Nat) (X : Nat → Nat → Int32) (S : Nat → Nat → Int32) (k : Nat) (hT : okT X S) (hk0 : k < (tn (S 15 0))) : xC l yX7_oneOf wsX7_oneOf ({ frames := 1, cells := 0, slots := 0, locals := 21 }) D (TY q) [wst q ad X] [.ref (ad 0), .int (nI k)] (xQi D (TY q) (fun (r : Int32) (_ : Unit) => r = nI (tn (S 16 k))) (fun _ => [wst q ad X])) 0 0 := by
  refine x_enter (cc := cX7_oneOf) (maxL := 2) (ret := (some .int)) (by decide) rfl (Nat.le_of_ble_eq_true rfl) ?_
  intro p e s m below meth c A ls H locs hfix hr hlocks hinit hM hl
  obtain ⟨hx, hb, hml, hown, hts⟩ := id hfix
  have hl : lv_has ls 2 [(0, .ref (ad 0)), (1, .int (nI k))] := hl
  have hTb := okT_4b hT
  refine lv_aload_n hx hb dX7_oneOf_0 rfl (lv_at hl 0 rfl) ?_
  refine x_get hx hb hts iwX7_oneOf_X7 hown hM 0 0 rfl rfl rfl 13 (by decide) (hts _ lkX7_oneOf_36) (fun _ h => h) rfl dX7_oneOf_1 ?_
  refine lv_iload_n hx hb dX7_oneOf_4 rfl (lv_at hl 1 rfl) ?_
  refine x_calli (bc := [wst q ad X]) (br := []) hM [0] [] rfl rfl rfl (by decide) (x_runS (As := [.ref (ad 14), .int (nI k)]) (rest := []) hfix (c_X5_at l D q (wst q ad X) 9 (ad 14) 3 (X 13) k rfl (by decide) (by omega)) (va_cwS 2 hts gX7_oneOf_X5_at rfl rfl rfl (by decide +kernel) ⟨Nat.le_of_ble_eq_true rfl, Nat.le_of_ble_eq_true rfl⟩) hM [0] rfl rfl rfl hl.1 rfl (Nat.le_of_ble_eq_true rfl) dX7_oneOf_5 ⟨Nat.le_of_ble_eq_true rfl, Nat.le_of_ble_eq_true rfl⟩) (fun r u H locs hq hM => ?_)
  subst hq
  have hM : xM D (TY q) [wst q ad X] A s.heap s H locs := hM
  refine x_cast (y := nI (tn (S 16 k))) (okT_on' hT hk0) ?_
  exact x_iret hx hb hr hlocks () hM (show nI (tn (S 16 k)) = nI (tn (S 16 k)) from rfl) dX7_oneOf_8

set_option maxRecDepth 20000 in
theorem ggX7_otherOf_X5_at : GoodIn wsX7_otherOf wsX5_at := goodIn_r _ [5] (by decide +kernel) (by decide +kernel)
set_option maxRecDepth 20000 in
theorem gX7_otherOf_X5_at : GoodIn wsX7_otherOf (va_wsS RX7 67 yX5_at wsX5_at) := goodIn_app (goodIn_of _ (by decide +kernel)) ggX7_otherOf_X5_at
theorem dX7_otherOf_0 : decode cX7_otherOf 0 = .ok (.aload_n 0, 1) := by decide +kernel
theorem dX7_otherOf_1 : decode cX7_otherOf 1 = .ok (.getfield 39, 3) := by decide +kernel
theorem dX7_otherOf_4 : decode cX7_otherOf 4 = .ok (.iload_n 1, 1) := by decide +kernel
theorem dX7_otherOf_5 : decode cX7_otherOf 5 = .ok (.invokestatic 67, 3) := by decide +kernel
theorem dX7_otherOf_8 : decode cX7_otherOf 8 = .ok (.ireturn, 1) := by decide +kernel
theorem lkX7_otherOf_39 : Cond.fieldLink RX7 39 "LeftAtFive$Street" "other" "[I" ∈ wsX7_otherOf := by decide +kernel
theorem iwX7_otherOf_X7 : ∀ w ∈ wsX70, w ∈ wsX7_otherOf := by decide +kernel
set_option maxHeartbeats 1000000 in
set_option maxRecDepth 100000 in
theorem c_X7_otherOf (l : Launch) (D : va_G) (q : Nat → ClassId) (ad : Nat → Nat) (X : Nat → Nat → Int32) (S : Nat → Nat → Int32) (k : Nat) (hT : okT X S) (hk0 : k < (tn (S 15 0))) : xC l yX7_otherOf wsX7_otherOf ({ frames := 1, cells := 0, slots := 0, locals := 21 }) D (TY q) [wst q ad X] [.ref (ad 0), .int (nI k)] (xQi D (TY q) (fun (r : Int32) (_ : Unit) => r = nI (tn (S 17 k))) (fun _ => [wst q ad X])) 0 0 := by
  refine x_enter (cc := cX7_otherOf) (maxL := 2) (ret := (some .int)) (by decide) rfl (Nat.le_of_ble_eq_true rfl) ?_
  intro p e s m below meth c A ls H locs hfix hr hlocks hinit hM hl
  obtain ⟨hx, hb, hml, hown, hts⟩ := id hfix
  have hl : lv_has ls 2 [(0, .ref (ad 0)), (1, .int (nI k))] := hl
  have hTb := okT_4b hT
  refine lv_aload_n hx hb dX7_otherOf_0 rfl (lv_at hl 0 rfl) ?_
  refine x_get hx hb hts iwX7_otherOf_X7 hown hM 0 0 rfl rfl rfl 14 (by decide) (hts _ lkX7_otherOf_39) (fun _ h => h) rfl dX7_otherOf_1 ?_
  refine lv_iload_n hx hb dX7_otherOf_4 rfl (lv_at hl 1 rfl) ?_
  refine x_calli (bc := [wst q ad X]) (br := []) hM [0] [] rfl rfl rfl (by decide) (x_runS (As := [.ref (ad 15), .int (nI k)]) (rest := []) hfix (c_X5_at l D q (wst q ad X) 10 (ad 15) 3 (X 14) k rfl (by decide) (by omega)) (va_cwS 2 hts gX7_otherOf_X5_at rfl rfl rfl (by decide +kernel) ⟨Nat.le_of_ble_eq_true rfl, Nat.le_of_ble_eq_true rfl⟩) hM [0] rfl rfl rfl hl.1 rfl (Nat.le_of_ble_eq_true rfl) dX7_otherOf_5 ⟨Nat.le_of_ble_eq_true rfl, Nat.le_of_ble_eq_true rfl⟩) (fun r u H locs hq hM => ?_)
  subst hq
  have hM : xM D (TY q) [wst q ad X] A s.heap s H locs := hM
  refine x_cast (y := nI (tn (S 17 k))) (okT_ot' hT hk0) ?_
  exact x_iret hx hb hr hlocks () hM (show nI (tn (S 17 k)) = nI (tn (S 17 k)) from rfl) dX7_otherOf_8

set_option maxRecDepth 20000 in
theorem ggX7_priceOf_X5_at : GoodIn wsX7_priceOf wsX5_at := goodIn_r _ [5] (by decide +kernel) (by decide +kernel)
set_option maxRecDepth 20000 in
theorem gX7_priceOf_X5_at : GoodIn wsX7_priceOf (va_wsS RX7 67 yX5_at wsX5_at) := goodIn_app (goodIn_of _ (by decide +kernel)) ggX7_priceOf_X5_at
theorem dX7_priceOf_0 : decode cX7_priceOf 0 = .ok (.aload_n 0, 1) := by decide +kernel
theorem dX7_priceOf_1 : decode cX7_priceOf 1 = .ok (.getfield 42, 3) := by decide +kernel
theorem dX7_priceOf_4 : decode cX7_priceOf 4 = .ok (.iload_n 1, 1) := by decide +kernel
theorem dX7_priceOf_5 : decode cX7_priceOf 5 = .ok (.invokestatic 67, 3) := by decide +kernel
theorem dX7_priceOf_8 : decode cX7_priceOf 8 = .ok (.ireturn, 1) := by decide +kernel
theorem lkX7_priceOf_42 : Cond.fieldLink RX7 42 "LeftAtFive$Street" "price" "[I" ∈ wsX7_priceOf := by decide +kernel
theorem iwX7_priceOf_X7 : ∀ w ∈ wsX70, w ∈ wsX7_priceOf := by decide +kernel
set_option maxHeartbeats 1000000 in
set_option maxRecDepth 100000 in
theorem c_X7_priceOf (l : Launch) (D : va_G) (q : Nat → ClassId) (ad : Nat → Nat) (X : Nat → Nat → Int32) (k : Nat) (hk3 : k < 3) : xC l yX7_priceOf wsX7_priceOf ({ frames := 1, cells := 0, slots := 0, locals := 21 }) D (TY q) [wst q ad X] [.ref (ad 0), .int (nI k)] (xQi D (TY q) (fun (r : Int32) (_ : Unit) => r = (X 15) k) (fun _ => [wst q ad X])) 0 0 := by
  refine x_enter (cc := cX7_priceOf) (maxL := 2) (ret := (some .int)) (by decide) rfl (Nat.le_of_ble_eq_true rfl) ?_
  intro p e s m below meth c A ls H locs hfix hr hlocks hinit hM hl
  obtain ⟨hx, hb, hml, hown, hts⟩ := id hfix
  have hl : lv_has ls 2 [(0, .ref (ad 0)), (1, .int (nI k))] := hl
  refine lv_aload_n hx hb dX7_priceOf_0 rfl (lv_at hl 0 rfl) ?_
  refine x_get hx hb hts iwX7_priceOf_X7 hown hM 0 0 rfl rfl rfl 15 (by decide) (hts _ lkX7_priceOf_42) (fun _ h => h) rfl dX7_priceOf_1 ?_
  refine lv_iload_n hx hb dX7_priceOf_4 rfl (lv_at hl 1 rfl) ?_
  refine x_calli (bc := [wst q ad X]) (br := []) hM [0] [] rfl rfl rfl (by decide) (x_runS (As := [.ref (ad 16), .int (nI k)]) (rest := []) hfix (c_X5_at l D q (wst q ad X) 11 (ad 16) 3 (X 15) k rfl (by decide) (by omega)) (va_cwS 2 hts gX7_priceOf_X5_at rfl rfl rfl (by decide +kernel) ⟨Nat.le_of_ble_eq_true rfl, Nat.le_of_ble_eq_true rfl⟩) hM [0] rfl rfl rfl hl.1 rfl (Nat.le_of_ble_eq_true rfl) dX7_priceOf_5 ⟨Nat.le_of_ble_eq_true rfl, Nat.le_of_ble_eq_true rfl⟩) (fun r u H locs hq hM => ?_)
  subst hq
  have hM : xM D (TY q) [wst q ad X] A s.heap s H locs := hM
  exact x_iret hx hb hr hlocks () hM (show (X 15) k = (X 15) k from rfl) dX7_priceOf_8

set_option maxRecDepth 20000 in
theorem ggX7_spoils_X5_at : GoodIn wsX7_spoils wsX5_at := goodIn_r _ [5] (by decide +kernel) (by decide +kernel)
set_option maxRecDepth 20000 in
theorem gX7_spoils_X5_at : GoodIn wsX7_spoils (va_wsS RX7 67 yX5_at wsX5_at) := goodIn_app (goodIn_of _ (by decide +kernel)) ggX7_spoils_X5_at
theorem dX7_spoils_0 : decode cX7_spoils 0 = .ok (.aload_n 0, 1) := by decide +kernel
theorem dX7_spoils_1 : decode cX7_spoils 1 = .ok (.getfield 15, 3) := by decide +kernel
theorem dX7_spoils_4 : decode cX7_spoils 4 = .ok (.iload_n 1, 1) := by decide +kernel
theorem dX7_spoils_5 : decode cX7_spoils 5 = .ok (.invokestatic 67, 3) := by decide +kernel
theorem dX7_spoils_8 : decode cX7_spoils 8 = .ok (.iconst 3, 1) := by decide +kernel
theorem dX7_spoils_9 : decode cX7_spoils 9 = .ok (.if_icmp .ne 7, 3) := by decide +kernel
theorem dX7_spoils_12 : decode cX7_spoils 12 = .ok (.iconst 1, 1) := by decide +kernel
theorem dX7_spoils_13 : decode cX7_spoils 13 = .ok (.goto 4, 3) := by decide +kernel
theorem dX7_spoils_16 : decode cX7_spoils 16 = .ok (.iconst 0, 1) := by decide +kernel
theorem dX7_spoils_17 : decode cX7_spoils 17 = .ok (.ireturn, 1) := by decide +kernel
theorem lkX7_spoils_15 : Cond.fieldLink RX7 15 "LeftAtFive$Street" "kind" "[I" ∈ wsX7_spoils := by decide +kernel
theorem iwX7_spoils_X7 : ∀ w ∈ wsX70, w ∈ wsX7_spoils := by decide +kernel
set_option maxHeartbeats 1000000 in
set_option maxRecDepth 100000 in
theorem c_X7_spoils (l : Launch) (D : va_G) (q : Nat → ClassId) (ad : Nat → Nat) (X : Nat → Nat → Int32) (S : Nat → Nat → Int32) (g : Nat) (hT : okT X S) (hg0 : g < (tn (S 2 0))) : xC l yX7_spoils wsX7_spoils ({ frames := 1, cells := 0, slots := 0, locals := 21 }) D (TY q) [wst q ad X] [.ref (ad 0), .int (nI g)] (xQi D (TY q) (fun (r : Int32) (_ : Unit) => r = zb (S 4 g = nI 3)) (fun _ => [wst q ad X])) 0 0 := by
  refine x_enter (cc := cX7_spoils) (maxL := 2) (ret := (some .boolean)) (by decide) rfl (Nat.le_of_ble_eq_true rfl) ?_
  intro p e s m below meth c A ls H locs hfix hr hlocks hinit hM hl
  obtain ⟨hx, hb, hml, hown, hts⟩ := id hfix
  have hl : lv_has ls 2 [(0, .ref (ad 0)), (1, .int (nI g))] := hl
  have hTb := okT_0b hT
  refine lv_aload_n hx hb dX7_spoils_0 rfl (lv_at hl 0 rfl) ?_
  refine x_get hx hb hts iwX7_spoils_X7 hown hM 0 0 rfl rfl rfl 6 (by decide) (hts _ lkX7_spoils_15) (fun _ h => h) rfl dX7_spoils_1 ?_
  refine lv_iload_n hx hb dX7_spoils_4 rfl (lv_at hl 1 rfl) ?_
  refine x_calli (bc := [wst q ad X]) (br := []) hM [0] [] rfl rfl rfl (by decide) (x_runS (As := [.ref (ad 7), .int (nI g)]) (rest := []) hfix (c_X5_at l D q (wst q ad X) 2 (ad 7) 5 (X 6) g rfl (by decide) (by omega)) (va_cwS 2 hts gX7_spoils_X5_at rfl rfl rfl (by decide +kernel) ⟨Nat.le_of_ble_eq_true rfl, Nat.le_of_ble_eq_true rfl⟩) hM [0] rfl rfl rfl hl.1 rfl (Nat.le_of_ble_eq_true rfl) dX7_spoils_5 ⟨Nat.le_of_ble_eq_true rfl, Nat.le_of_ble_eq_true rfl⟩) (fun r u H locs hq hM => ?_)
  subst hq
  have hM : xM D (TY q) [wst q ad X] A s.heap s H locs := hM
  refine x_cast (y := S 4 g) (okT_kd hT hg0) ?_
  refine lv_iconst (v := nI 3) hx hb dX7_spoils_8 (by decide) ?_
  refine lv_icmp_ne (tgt := 16) hx hb dX7_spoils_9 (by decide) (fun c1 => ?_) (fun c1 => ?_)
  · refine lv_iconst (v := nI 0) hx hb dX7_spoils_16 (by decide) ?_
    exact x_zret hx hb hr hlocks () hM rfl (show nI 0 = zb (S 4 g = nI 3) from by (first | exact zb_t' (by assumption) | exact zb_f' (by assumption))) dX7_spoils_17
  · refine lv_iconst (v := nI 1) hx hb dX7_spoils_12 (by decide) ?_
    refine lv_goto (tgt := 17) hx hb dX7_spoils_13 (by decide) ?_
    exact x_zret hx hb hr hlocks () hM rfl (show nI 1 = zb (S 4 g = nI 3) from by (first | exact zb_t' (by assumption) | exact zb_f' (by assumption))) dX7_spoils_17

set_option maxRecDepth 20000 in
theorem ggX7_leftOf_X5_at : GoodIn wsX7_leftOf wsX5_at := goodIn_r _ [5] (by decide +kernel) (by decide +kernel)
set_option maxRecDepth 20000 in
theorem gX7_leftOf_X5_at : GoodIn wsX7_leftOf (va_wsS RX7 67 yX5_at wsX5_at) := goodIn_app (goodIn_of _ (by decide +kernel)) ggX7_leftOf_X5_at
theorem dX7_leftOf_0 : decode cX7_leftOf 0 = .ok (.aload_n 0, 1) := by decide +kernel
theorem dX7_leftOf_1 : decode cX7_leftOf 1 = .ok (.getfield 15, 3) := by decide +kernel
theorem dX7_leftOf_4 : decode cX7_leftOf 4 = .ok (.iload_n 1, 1) := by decide +kernel
theorem dX7_leftOf_5 : decode cX7_leftOf 5 = .ok (.invokestatic 67, 3) := by decide +kernel
theorem dX7_leftOf_8 : decode cX7_leftOf 8 = .ok (.lookupswitch 34 #[(1, 28), (2, 32)], 28) := by decide +kernel
theorem dX7_leftOf_36 : decode cX7_leftOf 36 = .ok (.iload_n 2, 1) := by decide +kernel
theorem dX7_leftOf_37 : decode cX7_leftOf 37 = .ok (.iconst 2, 1) := by decide +kernel
theorem dX7_leftOf_38 : decode cX7_leftOf 38 = .ok (.idiv, 1) := by decide +kernel
theorem dX7_leftOf_39 : decode cX7_leftOf 39 = .ok (.ireturn, 1) := by decide +kernel
theorem dX7_leftOf_40 : decode cX7_leftOf 40 = .ok (.iconst 0, 1) := by decide +kernel
theorem dX7_leftOf_41 : decode cX7_leftOf 41 = .ok (.ireturn, 1) := by decide +kernel
theorem dX7_leftOf_42 : decode cX7_leftOf 42 = .ok (.iload_n 2, 1) := by decide +kernel
theorem dX7_leftOf_43 : decode cX7_leftOf 43 = .ok (.ireturn, 1) := by decide +kernel
theorem lkX7_leftOf_15 : Cond.fieldLink RX7 15 "LeftAtFive$Street" "kind" "[I" ∈ wsX7_leftOf := by decide +kernel
theorem iwX7_leftOf_X7 : ∀ w ∈ wsX70, w ∈ wsX7_leftOf := by decide +kernel
set_option maxHeartbeats 1000000 in
set_option maxRecDepth 100000 in
theorem c_X7_leftOf (l : Launch) (D : va_G) (q : Nat → ClassId) (ad : Nat → Nat) (X : Nat → Nat → Int32) (S : Nat → Nat → Int32) (g : Nat) (n : Int32) (hT : okT X S) (hg0 : g < (tn (S 2 0))) : xC l yX7_leftOf wsX7_leftOf ({ frames := 1, cells := 0, slots := 0, locals := 21 }) D (TY q) [wst q ad X] [.ref (ad 0), .int (nI g), .int n] (xQi D (TY q) (fun (r : Int32) (_ : Unit) => r = xlf (S 4 g) n) (fun _ => [wst q ad X])) 0 0 := by
  refine x_enter (cc := cX7_leftOf) (maxL := 3) (ret := (some .int)) (by decide) rfl (Nat.le_of_ble_eq_true rfl) ?_
  intro p e s m below meth c A ls H locs hfix hr hlocks hinit hM hl
  obtain ⟨hx, hb, hml, hown, hts⟩ := id hfix
  have hl : lv_has ls 3 [(0, .ref (ad 0)), (1, .int (nI g)), (2, .int n)] := hl
  have hTb := okT_0b hT
  refine lv_aload_n hx hb dX7_leftOf_0 rfl (lv_at hl 0 rfl) ?_
  refine x_get hx hb hts iwX7_leftOf_X7 hown hM 0 0 rfl rfl rfl 6 (by decide) (hts _ lkX7_leftOf_15) (fun _ h => h) rfl dX7_leftOf_1 ?_
  refine lv_iload_n hx hb dX7_leftOf_4 rfl (lv_at hl 1 rfl) ?_
  refine x_calli (bc := [wst q ad X]) (br := []) hM [0] [] rfl rfl rfl (by decide) (x_runS (As := [.ref (ad 7), .int (nI g)]) (rest := []) hfix (c_X5_at l D q (wst q ad X) 2 (ad 7) 5 (X 6) g rfl (by decide) (by omega)) (va_cwS 2 hts gX7_leftOf_X5_at rfl rfl rfl (by decide +kernel) ⟨Nat.le_of_ble_eq_true rfl, Nat.le_of_ble_eq_true rfl⟩) hM [0] rfl rfl rfl hl.1 rfl (Nat.le_of_ble_eq_true rfl) dX7_leftOf_5 ⟨Nat.le_of_ble_eq_true rfl, Nat.le_of_ble_eq_true rfl⟩) (fun r u H locs hq hM => ?_)
  subst hq
  have hM : xM D (TY q) [wst q ad X] A s.heap s H locs := hM
  refine x_cast (y := S 4 g) (okT_kd hT hg0) ?_
  rcases Decidable.em (S 4 g = nI 1) with c1 | c1
  · refine x_cast c1 ?_
    refine lv_lookup (tgt := 36) (off := 28) hx hb dX7_leftOf_8 (by decide) (by decide) (by decide) ?_
    refine lv_iload_n hx hb dX7_leftOf_36 rfl (lv_at hl 2 rfl) ?_
    refine lv_iconst (v := nI 2) hx hb dX7_leftOf_37 (by decide) ?_
    refine lv_idiv hx hb dX7_leftOf_38 (by decide) ?_
    exact x_iret hx hb hr hlocks () hM (show n / (nI 2) = xlf (S 4 g) n from by (unfold xlf; (repeat' split) <;> first | rfl | contradiction | simp_all)) dX7_leftOf_39
  rcases Decidable.em (S 4 g = nI 2) with c2 | c2
  · refine x_cast c2 ?_
    refine lv_lookup (tgt := 40) (off := 32) hx hb dX7_leftOf_8 (by decide) (by decide) (by decide) ?_
    refine lv_iconst (v := nI 0) hx hb dX7_leftOf_40 (by decide) ?_
    exact x_iret hx hb hr hlocks () hM (show nI 0 = xlf (S 4 g) n from by (unfold xlf; (repeat' split) <;> first | rfl | contradiction | simp_all)) dX7_leftOf_41
  have tc1 := x_neI (k := 1) (by decide) c1
  have tc2 := x_neI (k := 2) (by decide) c2
  refine lv_lookup (tgt := 42) (off := 34) hx hb dX7_leftOf_8 (by decide) (by show Op.lookupswitch.offset [(1, 28), (2, 32)] 34 _ = 34; simp only [Op.lookupswitch.offset_cons, Op.lookupswitch.offset_nil]; rw [if_neg (show ¬ (1 : Int) = (S 4 g).toInt from fun z => tc1 z.symm)]; rw [if_neg (show ¬ (2 : Int) = (S 4 g).toInt from fun z => tc2 z.symm)]) (by decide) ?_
  refine lv_iload_n hx hb dX7_leftOf_42 rfl (lv_at hl 2 rfl) ?_
  exact x_iret hx hb hr hlocks () hM (show n = xlf (S 4 g) n from by (unfold xlf; (repeat' split) <;> first | rfl | contradiction | simp_all)) dX7_leftOf_43

set_option maxRecDepth 20000 in
theorem ggX7_cellsBetween_X7_cellOf : GoodIn wsX7_cellsBetween wsX7_cellOf := goodIn_r _ [9, 10, 11, 12, 13, 14, 15, 16, 17, 18, 19, 20, 21, 22, 23, 24, 25, 26, 27, 28, 29, 30] (by decide +kernel) (by decide +kernel)
set_option maxRecDepth 20000 in
theorem gX7_cellsBetween_X7_cellOf : GoodIn wsX7_cellsBetween (wsV RX7 117 RX7 yX7_cellOf wsX7_cellOf) := goodIn_app (goodIn_of _ (by decide +kernel)) ggX7_cellsBetween_X7_cellOf
theorem dX7_cellsBetween_0 : decode cX7_cellsBetween 0 = .ok (.aload_n 0, 1) := by decide +kernel
theorem dX7_cellsBetween_1 : decode cX7_cellsBetween 1 = .ok (.iload_n 1, 1) := by decide +kernel
theorem dX7_cellsBetween_2 : decode cX7_cellsBetween 2 = .ok (.invokevirtual 117, 3) := by decide +kernel
theorem dX7_cellsBetween_5 : decode cX7_cellsBetween 5 = .ok (.aload_n 0, 1) := by decide +kernel
theorem dX7_cellsBetween_6 : decode cX7_cellsBetween 6 = .ok (.iload_n 2, 1) := by decide +kernel
theorem dX7_cellsBetween_7 : decode cX7_cellsBetween 7 = .ok (.invokevirtual 117, 3) := by decide +kernel
theorem dX7_cellsBetween_10 : decode cX7_cellsBetween 10 = .ok (.isub, 1) := by decide +kernel
theorem dX7_cellsBetween_11 : decode cX7_cellsBetween 11 = .ok (.invokestatic 120, 3) := by decide +kernel
theorem dX7_cellsBetween_14 : decode cX7_cellsBetween 14 = .ok (.ireturn, 1) := by decide +kernel
set_option maxHeartbeats 1000000 in
set_option maxRecDepth 100000 in
theorem c_X7_cellsBetween (l : Launch) (D : va_G) (q : Nat → ClassId) (ad : Nat → Nat) (X : Nat → Nat → Int32) (S : Nat → Nat → Int32) (h : Nat) (to : Nat) (hT : okT X S) (hh0 : h < (tn (S 5 0))) (hto0 : to < (tn (S 5 0))) : xC l yX7_cellsBetween wsX7_cellsBetween ({ frames := 2, cells := 0, slots := 0, locals := 42 }) D (TY q) [wst q ad X] [.ref (ad 0), .int (nI h), .int (nI to)] (xQi D (TY q) (fun (r : Int32) (_ : Unit) => r = xap (S 6 h) (S 6 to)) (fun _ => [wst q ad X])) 0 0 := by
  refine x_enter (cc := cX7_cellsBetween) (maxL := 3) (ret := (some .int)) (by decide) rfl (Nat.le_of_ble_eq_true rfl) ?_
  intro p e s m below meth c A ls H locs hfix hr hlocks hinit hM hl
  obtain ⟨hx, hb, hml, hown, hts⟩ := id hfix
  have hl : lv_has ls 3 [(0, .ref (ad 0)), (1, .int (nI h)), (2, .int (nI to))] := hl
  refine lv_aload_n hx hb dX7_cellsBetween_0 rfl (lv_at hl 0 rfl) ?_
  refine lv_iload_n hx hb dX7_cellsBetween_1 rfl (lv_at hl 1 rfl) ?_
  refine x_calli (bc := [wst q ad X]) (br := []) hM [0] [] rfl rfl rfl (by decide) (x_runV (As := [.int (nI h)]) (rest := []) hfix (c_X7_cellOf l D q ad X S h hT (by omega)) (cwV 1 hts gX7_cellsBetween_X7_cellOf rfl rfl rfl (by decide +kernel) ⟨Nat.le_of_ble_eq_true rfl, Nat.le_of_ble_eq_true rfl⟩) hM [0] rfl rfl 0 0 rfl rfl rfl rfl rfl hl.1 rfl (Nat.le_of_ble_eq_true rfl) dX7_cellsBetween_2 ⟨Nat.le_of_ble_eq_true rfl, Nat.le_of_ble_eq_true rfl⟩) (fun r u H locs hq hM => ?_)
  subst hq
  have hM : xM D (TY q) [wst q ad X] A s.heap s H locs := hM
  refine lv_aload_n hx hb dX7_cellsBetween_5 rfl (lv_at hl 0 rfl) ?_
  refine lv_iload_n hx hb dX7_cellsBetween_6 rfl (lv_at hl 2 rfl) ?_
  refine x_calli (bc := [wst q ad X]) (br := []) hM [0] [] rfl rfl rfl (by decide) (x_runV (As := [.int (nI to)]) (rest := [.int (S 6 h)]) hfix (c_X7_cellOf l D q ad X S to hT (by omega)) (cwV 1 hts gX7_cellsBetween_X7_cellOf rfl rfl rfl (by decide +kernel) ⟨Nat.le_of_ble_eq_true rfl, Nat.le_of_ble_eq_true rfl⟩) hM [0] rfl rfl 0 0 rfl rfl rfl rfl rfl hl.1 rfl (Nat.le_of_ble_eq_true rfl) dX7_cellsBetween_7 ⟨Nat.le_of_ble_eq_true rfl, Nat.le_of_ble_eq_true rfl⟩) (fun r u H locs hq hM => ?_)
  subst hq
  have hM : xM D (TY q) [wst q ad X] A s.heap s H locs := hM
  refine lv_isub hx hb dX7_cellsBetween_10 ?_
  refine x_mabs (own := RX7) (index := 120) hx hb (by rw [hml]; exact hl.1.symm) hts hown (by simp only [List.forall_mem_cons]; exact ⟨by decide +kernel, by decide +kernel, by decide +kernel, by decide +kernel, fun _ h => absurd h List.not_mem_nil⟩) (Nat.le_of_ble_eq_true rfl) (Nat.le_of_ble_eq_true rfl) (Nat.zero_le _) (Nat.zero_le _) dX7_cellsBetween_11 ?_
  exact x_iret hx hb hr hlocks () hM (show (if 0 ≤ ((S 6 h) - (S 6 to)) then ((S 6 h) - (S 6 to)) else 0 - ((S 6 h) - (S 6 to))) = xap (S 6 h) (S 6 to) from by exact xabs (okT_cb hT hh0) (okT_cb hT hto0)) dX7_cellsBetween_14

set_option maxRecDepth 20000 in
theorem ggX7_stockInto_X5_copy : GoodIn wsX7_stockInto wsX5_copy := goodIn_r _ [5, 6, 7, 8, 9, 10, 11, 12, 13] (by decide +kernel) (by decide +kernel)
set_option maxRecDepth 20000 in
theorem gX7_stockInto_X5_copy : GoodIn wsX7_stockInto (va_wsS RX7 125 yX5_copy wsX5_copy) := goodIn_app (goodIn_of _ (by decide +kernel)) ggX7_stockInto_X5_copy
theorem dX7_stockInto_0 : decode cX7_stockInto 0 = .ok (.aload_n 0, 1) := by decide +kernel
theorem dX7_stockInto_1 : decode cX7_stockInto 1 = .ok (.getfield 21, 3) := by decide +kernel
theorem dX7_stockInto_4 : decode cX7_stockInto 4 = .ok (.aload_n 1, 1) := by decide +kernel
theorem dX7_stockInto_5 : decode cX7_stockInto 5 = .ok (.invokestatic 125, 3) := by decide +kernel
theorem dX7_stockInto_8 : decode cX7_stockInto 8 = .ok (.return_, 1) := by decide +kernel
theorem lkX7_stockInto_21 : Cond.fieldLink RX7 21 "LeftAtFive$Street" "stock" "[I" ∈ wsX7_stockInto := by decide +kernel
theorem iwX7_stockInto_X7 : ∀ w ∈ wsX70, w ∈ wsX7_stockInto := by decide +kernel
set_option maxHeartbeats 1000000 in
set_option maxRecDepth 100000 in
theorem c_X7_stockInto (l : Launch) (D : va_G) (q : Nat → ClassId) (ad : Nat → Nat) (X : Nat → Nat → Int32) (kd : Nat → Nat) (K : Nat → Int32) : xC l yX7_stockInto wsX7_stockInto ({ frames := 2, cells := 0, slots := 0, locals := 61 }) D (TY q) [wst q ad X, wk q kd K] [.ref (ad 0), .ref (kd 3)] (xQv D (TY q) (fun (_ : Unit) => True) (fun _ => [wst q ad X, wk q kd (xov K (X 8) 0 25)])) 0 0 := by
  refine x_enter (cc := cX7_stockInto) (maxL := 2) (ret := none) (by decide) rfl (Nat.le_of_ble_eq_true rfl) ?_
  intro p e s m below meth c A ls H locs hfix hr hlocks hinit hM hl
  obtain ⟨hx, hb, hml, hown, hts⟩ := id hfix
  have hl : lv_has ls 2 [(0, .ref (ad 0)), (1, .ref (kd 3))] := hl
  refine lv_aload_n hx hb dX7_stockInto_0 rfl (lv_at hl 0 rfl) ?_
  refine x_get hx hb hts iwX7_stockInto_X7 hown hM 0 0 rfl rfl rfl 8 (by decide) (hts _ lkX7_stockInto_21) (fun _ h => h) rfl dX7_stockInto_1 ?_
  refine lv_aload_n hx hb dX7_stockInto_4 rfl (lv_at hl 1 rfl) ?_
  refine x_callv (bc := [wst q ad X, wk q kd K]) (br := []) hM [0, 1] [] rfl rfl rfl (by decide) (x_runS (As := [.ref (ad 9), .ref (kd 3)]) (rest := []) hfix (c_X5_copy l D q (wst q ad X) (wk q kd K) 4 1 (ad 9) (kd 3) 25 (X 8) (xv K 0 25) rfl rfl (by decide)) (va_cwS 2 hts gX7_stockInto_X5_copy rfl rfl rfl (by decide +kernel) ⟨Nat.le_of_ble_eq_true rfl, Nat.le_of_ble_eq_true rfl⟩) hM [0, 1] rfl rfl rfl hl.1 rfl (Nat.le_of_ble_eq_true rfl) dX7_stockInto_5 ⟨Nat.le_of_ble_eq_true rfl, Nat.le_of_ble_eq_true rfl⟩) (fun u H locs hq hM => ?_)
  have hM : xM D (TY q) [wst q ad X, wk q kd (xov K (X 8) 0 25)] A s.heap s H locs := Eq.mp (congrArg (fun z9 => xM D (TY q) [wst q ad X, z9] A s.heap s H locs) (wk_d2 q kd K (X 8))) hM
  exact x_vret hx hb hr hlocks () hM trivial dX7_stockInto_8
