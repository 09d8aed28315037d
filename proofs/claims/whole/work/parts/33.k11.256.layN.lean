set_option maxHeartbeats 2000000 in
set_option maxRecDepth 100000 in
theorem c_X8_layN (l : Launch) (D : va_G) (q : Nat → ClassId) (ad : Nat → Nat) (ω0 : Nat) (ω1 : Nat) (ω2 : Nat) (ω3 : Nat) (ω4 : Nat) (ω5 : Nat) (ω6 : Nat) (ω7 : Nat) (ω8 : Nat) (ω9 : Nat) (td : Nat → Nat) (ν0 : Nat → Int32) (ν1 : Nat → Int32) (ν2 : Int32) (ν3 : Int32) (dd : Nat → Nat) (Y : Nat → Nat → Int32) (S0 : Nat → Nat → Int32) (tt0 : Nat → Int32) (hL : ν2 = nI (tn ν2) ∧ tn ν2 ≤ 200) (hC : ∀ j, j < tn ν2 → cN (ν0 j) 126) (hS0 : okT (xclr Y) (xshf S0)) (hlk : ¬ ((xAll ν0 (tn ν2) 201 S0 0 tt0).1 = (-4) ∧ ¬ tn ((xshf (xAll ν0 (tn ν2) 201 S0 0 tt0).2.1) 2 0) = 0 ∧ ¬ tn ((xshf (xAll ν0 (tn ν2) 201 S0 0 tt0).2.1) 5 0) = 0 ∧ (tn ((xshf (xAll ν0 (tn ν2) 201 S0 0 tt0).2.1) 12 0) = 0 ∨ xsum ((xshf (xAll ν0 (tn ν2) 201 S0 0 tt0).2.1) 14) (tn ((xshf (xAll ν0 (tn ν2) 201 S0 0 tt0).2.1) 12 0)) = nI 10))) : xC l yX8_lay wsX8_lay ({ frames := 7, cells := 0, slots := 0, locals := 160 }) D (TY q) [w8 q ad (td 0) ω1 (dd 0) ω3 ω4 ω5 ω6 ω7 ω8 ω9, w2 q td ν0 ν1 ν2 ν3, wst q dd Y] [.ref (ad 0)] (xQi D (TY q) (fun (r : Int32) (u : (Nat → Int32) × Int32 × (Nat → Nat → Int32)) => r = (-2) ∧ okT u.2.2 (xshf (xAll ν0 (tn ν2) 201 S0 0 tt0).2.1)) (fun (u : (Nat → Int32) × Int32 × (Nat → Nat → Int32)) => [w8 q ad (td 0) ω1 (dd 0) ω3 ω4 ω5 ω6 ω7 ω8 ω9, w2 q td ν0 u.1 ν2 u.2.1, wst q dd u.2.2])) 0 0 := by
  refine x_enter (cc := cX8_lay) (maxL := 1) (ret := (some .int)) (by decide) rfl (Nat.le_of_ble_eq_true rfl) ?_
  intro p e s m below meth c A ls H locs hfix hr hlocks hinit hM hl
  obtain ⟨hx, hb, hml, hown, hts⟩ := id hfix
  have hl : lv_has ls 1 [(0, .ref (ad 0))] := hl
  refine lv_aload_n hx hb dX8_lay_0 rfl (lv_at hl 0 rfl) ?_
  refine x_calli (bc := [w8 q ad (td 0) ω1 (dd 0) ω3 ω4 ω5 ω6 ω7 ω8 ω9, w2 q td ν0 ν1 ν2 ν3, wst q dd Y]) (br := []) hM [0, 1, 2] [] rfl rfl rfl (by decide) (x_runV (As := []) (rest := []) hfix (c_X8_layTextN l D q ad (td 0) ω1 (dd 0) ω3 ω4 ω5 ω6 ω7 ω8 ω9 td ν0 ν1 ν2 ν3 dd Y S0 tt0 hL hC hS0 hlk) (cwV 0 hts gX8_lay_X8_layText rfl rfl rfl (by decide +kernel) ⟨Nat.le_of_ble_eq_true rfl, Nat.le_of_ble_eq_true rfl⟩) hM [0, 1, 2] rfl rfl 0 0 rfl rfl rfl rfl rfl hl.1 rfl (Nat.le_of_ble_eq_true rfl) dX8_lay_1 ⟨Nat.le_of_ble_eq_true rfl, Nat.le_of_ble_eq_true rfl⟩) (fun r u H locs hq hM => ?_)
  obtain ⟨hq, hqx⟩ := hq
  subst hq
  obtain ⟨uN1, uP2, uY3⟩ := u
  have hM : xM D (TY q) [w8 q ad (td 0) ω1 (dd 0) ω3 ω4 ω5 ω6 ω7 ω8 ω9, w2 q td ν0 uN1 ν2 uP2, wst q dd uY3] A s.heap s H locs := hM
  have hx9 : okT uY3 (xshf (xAll ν0 (tn ν2) 201 S0 0 tt0).2.1) := hqx
  exact x_iret hx hb hr hlocks (uN1, uP2, uY3) hM ⟨(show (-2) = (-2) from rfl), (show okT uY3 (xshf (xAll ν0 (tn ν2) 201 S0 0 tt0).2.1) from by exact hx9)⟩ dX8_lay_4
