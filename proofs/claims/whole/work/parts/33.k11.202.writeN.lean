set_option maxHeartbeats 2000000 in
set_option maxRecDepth 100000 in
theorem c_X8_writeN (l : Launch) (D : va_G) (q : Nat → ClassId) (ad : Nat → Nat) (ω0 : Nat) (ω1 : Nat) (ω2 : Nat) (ω3 : Nat) (ω4 : Nat) (ω5 : Nat) (ω6 : Nat) (ω7 : Nat) (ω8 : Nat) (ω9 : Nat) (td : Nat → Nat) (ν0 : Nat → Int32) (ν1 : Nat → Int32) (ν2 : Int32) (ν3 : Int32) (x : Nat) (hL : ν2 = nI (tn ν2) ∧ tn ν2 ≤ 200) (hx9 : 32 ≤ x ∧ x ≤ 126) (hL1 : tn ν2 = 200) : xC l yX8_write wsX8_write ({ frames := 1, cells := 0, slots := 0, locals := 22 }) D (TY q) [w8 q ad (td 0) ω1 ω2 ω3 ω4 ω5 ω6 ω7 ω8 ω9, w2 q td ν0 ν1 ν2 ν3] [.ref (ad 0), .int (nI x)] (xQi D (TY q) (fun (r : Int32) (_ : Unit) => r = (-3)) (fun _ => [w8 q ad (td 0) ω1 ω2 ω3 ω4 ω5 ω6 ω7 ω8 ω9, w2 q td ν0 ν1 ν2 ν3])) 0 0 := by
  refine x_enter (cc := cX8_write) (maxL := 2) (ret := (some .int)) (by decide) rfl (Nat.le_of_ble_eq_true rfl) ?_
  intro p e s m below meth c A ls H locs hfix hr hlocks hinit hM hl
  obtain ⟨hx, hb, hml, hown, hts⟩ := id hfix
  have hl : lv_has ls 2 [(0, .ref (ad 0)), (1, .int (nI x))] := hl
  refine lv_iload_n hx hb dX8_write_0 rfl (lv_at hl 1 rfl) ?_
  refine lv_bipush (v := nI 32) hx hb dX8_write_1 (by decide) ?_
  refine lv_bipush (v := nI 126) hx hb dX8_write_3 (by decide) ?_
  refine x_calli (bc := []) (br := [w8 q ad (td 0) ω1 ω2 ω3 ω4 ω5 ω6 ω7 ω8 ω9, w2 q td ν0 ν1 ν2 ν3]) hM [] [0, 1] rfl rfl rfl (by decide) (x_runS (As := [.int (nI x), .int (nI 32), .int (nI 126)]) (rest := []) hfix (c_X8_within l D q (nI x) (nI 32) (nI 126) ((x : Nat) : Int) (32 : Int) (126 : Int) (nI_toInt (n := x) (by omega)) (nI_toInt (n := 32) (by decide)) (nI_toInt (n := 126) (by decide))) (va_cwS 3 hts gX8_write_X8_within rfl rfl rfl (by decide +kernel) ⟨Nat.le_of_ble_eq_true rfl, Nat.le_of_ble_eq_true rfl⟩) hM [] rfl rfl rfl hl.1 rfl (Nat.le_of_ble_eq_true rfl) dX8_write_5 ⟨Nat.le_of_ble_eq_true rfl, Nat.le_of_ble_eq_true rfl⟩) (fun r u H locs hq hM => ?_)
  subst hq
  have hM : xM D (TY q) [w8 q ad (td 0) ω1 ω2 ω3 ω4 ω5 ω6 ω7 ω8 ω9, w2 q td ν0 ν1 ν2 ν3] A s.heap s H locs := hM
  refine x_ifz_ne (P := (32 : Int) ≤ ((x : Nat) : Int) ∧ ((x : Nat) : Int) ≤ (126 : Int)) (tgt := 13) hx hb dX8_write_8 (by decide) (fun c1 => ?_) (fun c1 => ?_)
  · refine lv_aload_n hx hb dX8_write_13 rfl (lv_at hl 0 rfl) ?_
    refine x_get hx hb hts iwX8_write_X8 hown hM 0 0 rfl rfl rfl 0 (by decide) (hts _ lkX8_write_10) (fun _ h => h) rfl dX8_write_14 ?_
    refine lv_iload_n hx hb dX8_write_17 rfl (lv_at hl 1 rfl) ?_
    refine lv_i2c hx hb dX8_write_18 (i2c_nI (v := x) (by omega)) ?_
    refine x_calli (bc := [w2 q td ν0 ν1 ν2 ν3]) (br := [w8 q ad (td 0) ω1 ω2 ω3 ω4 ω5 ω6 ω7 ω8 ω9]) hM [1] [0] rfl rfl rfl (by decide) (x_runV (As := [.int (nI x)]) (rest := []) hfix (c_X2_appendN l D q td ν0 ν1 ν2 ν3 x hL (by omega)) (cwV 1 hts gX8_write_X2_append rfl rfl rfl (by decide +kernel) ⟨Nat.le_of_ble_eq_true rfl, Nat.le_of_ble_eq_true rfl⟩) hM [1] rfl rfl 1 0 rfl rfl rfl rfl rfl hl.1 rfl (Nat.le_of_ble_eq_true rfl) dX8_write_19 ⟨Nat.le_of_ble_eq_true rfl, Nat.le_of_ble_eq_true rfl⟩) (fun r u H locs hq hM => ?_)
    subst hq
    have hM : xM D (TY q) [w8 q ad (td 0) ω1 ω2 ω3 ω4 ω5 ω6 ω7 ω8 ω9, w2 q td ν0 ν1 ν2 ν3] A s.heap s H locs := hM
    exact x_iret hx hb hr hlocks () hM (show (-3) = (-3) from rfl) dX8_write_22
  · exfalso; omega
