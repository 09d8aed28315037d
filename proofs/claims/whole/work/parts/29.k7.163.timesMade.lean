set_option maxRecDepth 20000 in
theorem ggX6_timesMade_X5_at : GoodIn wsX6_timesMade wsX5_at := goodIn_r _ [5] (by decide +kernel) (by decide +kernel)
set_option maxRecDepth 20000 in
theorem gX6_timesMade_X5_at : GoodIn wsX6_timesMade (va_wsS RX6 86 yX5_at wsX5_at) := goodIn_app (goodIn_of _ (by decide +kernel)) ggX6_timesMade_X5_at
theorem dX6_timesMade_0 : decode cX6_timesMade 0 = .ok (.aload_n 0, 1) := by decide +kernel
theorem dX6_timesMade_1 : decode cX6_timesMade 1 = .ok (.getfield 15, 3) := by decide +kernel
theorem dX6_timesMade_4 : decode cX6_timesMade 4 = .ok (.iload_n 1, 1) := by decide +kernel
theorem dX6_timesMade_5 : decode cX6_timesMade 5 = .ok (.invokestatic 86, 3) := by decide +kernel
theorem dX6_timesMade_8 : decode cX6_timesMade 8 = .ok (.ireturn, 1) := by decide +kernel
theorem lkX6_timesMade_15 : Cond.fieldLink RX6 15 "LeftAtFive$Shops" "made" "[I" ∈ wsX6_timesMade := by decide +kernel
theorem iwX6_timesMade_X6 : ∀ w ∈ wsX60, w ∈ wsX6_timesMade := by decide +kernel
set_option maxHeartbeats 2000000 in
set_option maxRecDepth 100000 in
theorem c_X6_timesMade (l : Launch) (D : va_G) (q : Nat → ClassId) (ad : Nat → Nat) (τ0 : Int32) (τ1 : Int64) (τ2 : Int32) (τ3 : Nat → Int32) (τ4 : Nat → Int32) (τ5 : Nat → Int32) (k : Nat) (hk3 : k < 3) : xC l yX6_timesMade wsX6_timesMade ({ frames := 1, cells := 0, slots := 0, locals := 21 }) D (TY q) [w6 q ad τ0 τ1 τ2 τ3 τ4 τ5] [.ref (ad 0), .int (nI k)] (xQi D (TY q) (fun (r : Int32) (_ : Unit) => r = τ4 k) (fun _ => [w6 q ad τ0 τ1 τ2 τ3 τ4 τ5])) 0 0 := by
  refine x_enter (cc := cX6_timesMade) (maxL := 2) (ret := (some .int)) (by decide) rfl (Nat.le_of_ble_eq_true rfl) ?_
  intro p e s m below meth c A ls H locs hfix hr hlocks hinit hM hl
  obtain ⟨hx, hb, hml, hown, hts⟩ := id hfix
  have hl : lv_has ls 2 [(0, .ref (ad 0)), (1, .int (nI k))] := hl
  refine lv_aload_n hx hb dX6_timesMade_0 rfl (lv_at hl 0 rfl) ?_
  refine x_get hx hb hts iwX6_timesMade_X6 hown hM 0 0 rfl rfl rfl 4 (by decide) (hts _ lkX6_timesMade_15) (fun _ h => h) rfl dX6_timesMade_1 ?_
  refine lv_iload_n hx hb dX6_timesMade_4 rfl (lv_at hl 1 rfl) ?_
  refine x_calli (bc := [w6 q ad τ0 τ1 τ2 τ3 τ4 τ5]) (br := []) hM [0] [] rfl rfl rfl (by decide) (x_runS (As := [.ref (ad 5), .int (nI k)]) (rest := []) hfix (c_X5_at l D q (w6 q ad τ0 τ1 τ2 τ3 τ4 τ5) 2 (ad 5) 3 τ4 k rfl (by decide) (by omega)) (va_cwS 2 hts gX6_timesMade_X5_at rfl rfl rfl (by decide +kernel) ⟨Nat.le_of_ble_eq_true rfl, Nat.le_of_ble_eq_true rfl⟩) hM [0] rfl rfl rfl hl.1 rfl (Nat.le_of_ble_eq_true rfl) dX6_timesMade_5 ⟨Nat.le_of_ble_eq_true rfl, Nat.le_of_ble_eq_true rfl⟩) (fun r u H locs hq hM => ?_)
  subst hq
  have hM : xM D (TY q) [w6 q ad τ0 τ1 τ2 τ3 τ4 τ5] A s.heap s H locs := hM
  exact x_iret hx hb hr hlocks () hM (show τ4 k = τ4 k from rfl) dX6_timesMade_8
