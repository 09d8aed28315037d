set_option maxRecDepth 20000 in
theorem ggX8_write_X8_within : GoodIn wsX8_write wsX8_within := goodIn_r _ [5] (by decide +kernel) (by decide +kernel)
set_option maxRecDepth 20000 in
theorem gX8_write_X8_within : GoodIn wsX8_write (va_wsS RX8 91 yX8_within wsX8_within) := goodIn_app (goodIn_of _ (by decide +kernel)) ggX8_write_X8_within
set_option maxRecDepth 20000 in
theorem ggX8_write_X2_append : GoodIn wsX8_write wsX2_append := goodIn_r _ [10, 11, 12, 23, 24, 25, 26] (by decide +kernel) (by decide +kernel)
set_option maxRecDepth 20000 in
theorem gX8_write_X2_append : GoodIn wsX8_write (wsV RX8 81 RX2 yX2_append wsX2_append) := goodIn_app (goodIn_of _ (by decide +kernel)) ggX8_write_X2_append
theorem dX8_write_0 : decode cX8_write 0 = .ok (.iload_n 1, 1) := by decide +kernel
theorem dX8_write_1 : decode cX8_write 1 = .ok (.bipush 32, 2) := by decide +kernel
theorem dX8_write_3 : decode cX8_write 3 = .ok (.bipush 126, 2) := by decide +kernel
theorem dX8_write_5 : decode cX8_write 5 = .ok (.invokestatic 91, 3) := by decide +kernel
theorem dX8_write_8 : decode cX8_write 8 = .ok (.ifCond .ne 5, 3) := by decide +kernel
theorem dX8_write_11 : decode cX8_write 11 = .ok (.iconst (-1), 1) := by decide +kernel
theorem dX8_write_12 : decode cX8_write 12 = .ok (.ireturn, 1) := by decide +kernel
theorem dX8_write_13 : decode cX8_write 13 = .ok (.aload_n 0, 1) := by decide +kernel
theorem dX8_write_14 : decode cX8_write 14 = .ok (.getfield 10, 3) := by decide +kernel
theorem dX8_write_17 : decode cX8_write 17 = .ok (.iload_n 1, 1) := by decide +kernel
theorem dX8_write_18 : decode cX8_write 18 = .ok (.i2c, 1) := by decide +kernel
theorem dX8_write_19 : decode cX8_write 19 = .ok (.invokevirtual 81, 3) := by decide +kernel
theorem dX8_write_22 : decode cX8_write 22 = .ok (.ireturn, 1) := by decide +kernel
theorem lkX8_write_10 : Cond.fieldLink RX8 10 "LeftAtFive" "text" "LLeftAtFive$Letters;" ∈ wsX8_write := by decide +kernel
theorem iwX8_write_X8 : ∀ w ∈ wsX80, w ∈ wsX8_write := by decide +kernel
set_option maxHeartbeats 2000000 in
set_option maxRecDepth 100000 in
theorem c_X8_write (l : Launch) (D : va_G) (q : Nat → ClassId) (ad : Nat → Nat) (ω0 : Nat) (ω1 : Nat) (ω2 : Nat) (ω3 : Nat) (ω4 : Nat) (ω5 : Nat) (ω6 : Nat) (ω7 : Nat) (ω8 : Nat) (ω9 : Nat) (td : Nat → Nat) (ν0 : Nat → Int32) (ν1 : Nat → Int32) (ν2 : Int32) (ν3 : Int32) (x : Nat) (hL : ν2 = nI (tn ν2) ∧ tn ν2 ≤ 200) (hx9 : 32 ≤ x ∧ x ≤ 126) (hL1 : ¬ tn ν2 = 200) : xC l yX8_write wsX8_write ({ frames := 1, cells := 0, slots := 0, locals := 22 }) D (TY q) [w8 q ad (td 0) ω1 ω2 ω3 ω4 ω5 ω6 ω7 ω8 ω9, w2 q td ν0 ν1 ν2 ν3] [.ref (ad 0), .int (nI x)] (xQi D (TY q) (fun (r : Int32) (_ : Unit) => r = nI (tn ν2 + 1)) (fun _ => [w8 q ad (td 0) ω1 ω2 ω3 ω4 ω5 ω6 ω7 ω8 ω9, w2 q td (upd ν0 (tn ν2) (nI x)) ν1 (nI (tn ν2 + 1)) ν3])) 0 0 := by
  refine x_enter (cc := cX8_write) (maxL := 2) (ret := (some .int)) (by decide) rfl (Nat.le_of_ble_eq_true rfl) ?_
  intro p e s m below meth c A ls H locs hfix hr hlocks hinit hM hl
  obtain ⟨hx, hb, hml, hown, hts⟩ := id hfix
  have hl : lv_has ls 2 [(0, .ref (ad 0)), (1, .int (nI x))] := hl
  refine lv_iload_n hx hb dX8_write_0 rfl (lv_at hl 1 rfl) ?_
  refine lv_bipush (v := nI 32) hx hb dX8_write_1 (by decide) ?_
  refine lv_bipush (v := nI 126) hx hb dX8_write_3 (by decide) ?_
  refine x_calli (bc := []) (br := [w8 q ad (td 0) ω1 ω2 ω3 ω4 ω5 ω6 ω7 ω8 ω9, w2 q td ν0 ν1 ν2 ν3]) hM [] [0, 1] rfl rfl rfl (by decide) (x_runS (As := [.int (nI x), .int (nI 32), .int (nI 126)]) (rest := []) hfix (c_X8_within l D q (nI x) (nI 32) (nI 126) ((x : Nat) : Int) (32 : Int) (126 : Int) (nI_toInt (n := x) (by omega)) (nI_toInt (n := 32) (by decide)) (nI_toInt (n := 126) (by decide))) (va_cwS 3 hts gX8_write_X8_within rfl rfl rfl (by decide +kernel) ⟨Nat.le_of_ble_eq_true rfl, Nat.le_of_ble_eq_true rfl⟩) hM [] rfl rfl rfl hl.1 rfl (Nat.le_of_ble_eq_true rfl) dX8_write_5 ⟨Nat.le_of_ble_eq_true rfl, Nat.le_of_ble_eq_true rfl⟩) (fun r u H locs hq hM => ?_)
  subst hq
  have hM : xM D (TY q) [w8 q ad (td 0) ω1 ω2 ω3 ω4 ω5 ω6 ω7 ω8 ω9, w2 q td ν0 ν1 ν2 ν3] A s.heap s H locs := hM
  refine x_ifz_ne (P := (32 : Int) ≤ ((x : Nat) : Int) ∧ ((x : Nat) : Int) ≤ (126 : Int)) (tgt := 13) hx hb dX8_write_8 (by decide) (fun c1 => ?_) (fun c1 => ?_)
  · refine lv_aload_n hx hb dX8_write_13 rfl (lv_at hl 0 rfl) ?_
    refine x_get hx hb hts iwX8_write_X8 hown hM 0 0 rfl rfl rfl 0 (by decide) (hts _ lkX8_write_10) (fun _ h => h) rfl dX8_write_14 ?_
    refine lv_iload_n hx hb dX8_write_17 rfl (lv_at hl 1 rfl) ?_
    refine lv_i2c hx hb dX8_write_18 (i2c_nI (v := x) (by omega)) ?_
    refine x_calli (bc := [w2 q td ν0 ν1 ν2 ν3]) (br := [w8 q ad (td 0) ω1 ω2 ω3 ω4 ω5 ω6 ω7 ω8 ω9]) hM [1] [0] rfl rfl rfl (by decide) (x_runV (As := [.int (nI x)]) (rest := []) hfix (c_X2_append l D q td ν0 ν1 ν2 ν3 x hL (by omega) (by omega)) (cwV 1 hts gX8_write_X2_append rfl rfl rfl (by decide +kernel) ⟨Nat.le_of_ble_eq_true rfl, Nat.le_of_ble_eq_true rfl⟩) hM [1] rfl rfl 1 0 rfl rfl rfl rfl rfl hl.1 rfl (Nat.le_of_ble_eq_true rfl) dX8_write_19 ⟨Nat.le_of_ble_eq_true rfl, Nat.le_of_ble_eq_true rfl⟩) (fun r u H locs hq hM => ?_)
    subst hq
    have hM : xM D (TY q) [w8 q ad (td 0) ω1 ω2 ω3 ω4 ω5 ω6 ω7 ω8 ω9, w2 q td (upd ν0 (tn ν2) (nI x)) ν1 (nI (tn ν2 + 1)) ν3] A s.heap s H locs := hM
    exact x_iret hx hb hr hlocks () hM (show nI (tn ν2 + 1) = nI (tn ν2 + 1) from rfl) dX8_write_22
  · exfalso; omega
