set_option maxRecDepth 20000 in
theorem ggX8_fault_X2_read : GoodIn wsX8_fault wsX2_read := goodIn_r _ [7, 8, 9, 10, 11, 12, 13, 14, 15, 16, 17, 18, 19, 20, 21, 22, 23, 24, 25, 26, 27, 6, 28, 29, 30, 31, 32, 33, 34, 35, 36, 37, 38, 39, 40, 41, 42, 43, 44, 45, 46, 47, 48, 49, 50, 51, 52, 53, 54, 55, 56, 57, 58, 59, 60, 61, 62, 63, 64, 65, 66, 67, 68, 69, 70, 71, 72, 73, 74, 75, 76, 77, 78, 79, 80, 81, 82, 83, 84, 85, 86, 87, 88, 89, 90, 91, 92, 93, 94, 95, 96, 97, 98, 99, 100, 101, 102, 103, 104, 115, 116, 117, 118, 119, 120, 121, 122, 123, 124, 125, 126, 127, 128, 129, 130, 131, 132, 133, 134] (by decide +kernel) (by decide +kernel)
set_option maxRecDepth 20000 in
theorem gX8_fault_X2_read : GoodIn wsX8_fault (wsV RX8 98 RX2 yX2_read wsX2_read) := goodIn_app (goodIn_of _ (by decide +kernel)) ggX8_fault_X2_read
theorem dX8_fault_0 : decode cX8_fault 0 = .ok (.aload_n 0, 1) := by decide +kernel
theorem dX8_fault_1 : decode cX8_fault 1 = .ok (.getfield 10, 3) := by decide +kernel
theorem dX8_fault_4 : decode cX8_fault 4 = .ok (.aload_n 0, 1) := by decide +kernel
theorem dX8_fault_5 : decode cX8_fault 5 = .ok (.getfield 23, 3) := by decide +kernel
theorem dX8_fault_8 : decode cX8_fault 8 = .ok (.invokevirtual 98, 3) := by decide +kernel
theorem dX8_fault_11 : decode cX8_fault 11 = .ok (.ireturn, 1) := by decide +kernel
theorem lkX8_fault_10 : Cond.fieldLink RX8 10 "LeftAtFive" "text" "LLeftAtFive$Letters;" ∈ wsX8_fault := by decide +kernel
theorem lkX8_fault_23 : Cond.fieldLink RX8 23 "LeftAtFive" "draft" "LLeftAtFive$Street;" ∈ wsX8_fault := by decide +kernel
theorem iwX8_fault_X8 : ∀ w ∈ wsX80, w ∈ wsX8_fault := by decide +kernel
set_option maxHeartbeats 2000000 in
set_option maxRecDepth 100000 in
theorem c_X8_fault (l : Launch) (D : va_G) (q : Nat → ClassId) (ad : Nat → Nat) (ω0 : Nat) (ω1 : Nat) (ω2 : Nat) (ω3 : Nat) (ω4 : Nat) (ω5 : Nat) (ω6 : Nat) (ω7 : Nat) (ω8 : Nat) (ω9 : Nat) (td : Nat → Nat) (ν0 : Nat → Int32) (ν1 : Nat → Int32) (ν2 : Int32) (ν3 : Int32) (dd : Nat → Nat) (Y : Nat → Nat → Int32) (S0 : Nat → Nat → Int32) (tt0 : Nat → Int32) (hL : ν2 = nI (tn ν2) ∧ tn ν2 ≤ 200) (hC : ∀ j, j < tn ν2 → cN (ν0 j) 126) (hS0 : okT (xclr Y) (xshf S0)) : xC l yX8_fault wsX8_fault ({ frames := 6, cells := 0, slots := 0, locals := 139 }) D (TY q) [w8 q ad (td 0) ω1 (dd 0) ω3 ω4 ω5 ω6 ω7 ω8 ω9, w2 q td ν0 ν1 ν2 ν3, wst q dd Y] [.ref (ad 0)] (xQi D (TY q) (fun (r : Int32) (u : (Nat → Int32) × Int32 × (Nat → Nat → Int32)) => r = (xAll ν0 (tn ν2) 201 S0 0 tt0).1 ∧ okT u.2.2 (xshf (xAll ν0 (tn ν2) 201 S0 0 tt0).2.1)) (fun (u : (Nat → Int32) × Int32 × (Nat → Nat → Int32)) => [w8 q ad (td 0) ω1 (dd 0) ω3 ω4 ω5 ω6 ω7 ω8 ω9, w2 q td ν0 u.1 ν2 u.2.1, wst q dd u.2.2])) 0 0 := by
  refine x_enter (cc := cX8_fault) (maxL := 1) (ret := (some .int)) (by decide) rfl (Nat.le_of_ble_eq_true rfl) ?_
  intro p e s m below meth c A ls H locs hfix hr hlocks hinit hM hl
  obtain ⟨hx, hb, hml, hown, hts⟩ := id hfix
  have hl : lv_has ls 1 [(0, .ref (ad 0))] := hl
  refine lv_aload_n hx hb dX8_fault_0 rfl (lv_at hl 0 rfl) ?_
  refine x_get hx hb hts iwX8_fault_X8 hown hM 0 0 rfl rfl rfl 0 (by decide) (hts _ lkX8_fault_10) (fun _ h => h) rfl dX8_fault_1 ?_
  refine lv_aload_n hx hb dX8_fault_4 rfl (lv_at hl 0 rfl) ?_
  refine x_get hx hb hts iwX8_fault_X8 hown hM 0 0 rfl rfl rfl 2 (by decide) (hts _ lkX8_fault_23) (fun _ h => h) rfl dX8_fault_5 ?_
  refine x_calli (bc := [w2 q td ν0 ν1 ν2 ν3, wst q dd Y]) (br := [w8 q ad (td 0) ω1 (dd 0) ω3 ω4 ω5 ω6 ω7 ω8 ω9]) hM [1, 2] [0] rfl rfl rfl (by decide) (x_runV (As := [.ref (dd 0)]) (rest := []) hfix (c_X2_read l D q td ν0 ν1 ν2 ν3 dd Y S0 tt0 hL hC hS0) (cwV 1 hts gX8_fault_X2_read rfl rfl rfl (by decide +kernel) ⟨Nat.le_of_ble_eq_true rfl, Nat.le_of_ble_eq_true rfl⟩) hM [1, 2] rfl rfl 1 0 rfl rfl rfl rfl rfl hl.1 rfl (Nat.le_of_ble_eq_true rfl) dX8_fault_8 ⟨Nat.le_of_ble_eq_true rfl, Nat.le_of_ble_eq_true rfl⟩) (fun r u H locs hq hM => ?_)
  obtain ⟨hq, hqx⟩ := hq
  subst hq
  obtain ⟨uN1, uP2, uX3⟩ := u
  have hM : xM D (TY q) [w8 q ad (td 0) ω1 (dd 0) ω3 ω4 ω5 ω6 ω7 ω8 ω9, w2 q td ν0 uN1 ν2 uP2, wst q dd uX3] A s.heap s H locs := hM
  have hx9 : okT uX3 (xshf (xAll ν0 (tn ν2) 201 S0 0 tt0).2.1) := hqx
  exact x_iret hx hb hr hlocks (uN1, uP2, uX3) hM ⟨(show (xAll ν0 (tn ν2) 201 S0 0 tt0).1 = (xAll ν0 (tn ν2) 201 S0 0 tt0).1 from rfl), (show okT uX3 (xshf (xAll ν0 (tn ν2) 201 S0 0 tt0).2.1) from by exact hx9)⟩ dX8_fault_11
