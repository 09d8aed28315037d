set_option maxHeartbeats 2000000 in
set_option maxRecDepth 100000 in
theorem c_X8_backN (l : Launch) (D : va_G) (q : Nat → ClassId) (ad : Nat → Nat) (ω0 : Nat) (ω1 : Nat) (ω2 : Nat) (ω3 : Nat) (ω4 : Nat) (ω5 : Nat) (ω6 : Nat) (ω7 : Nat) (ω8 : Nat) (ω9 : Nat) (nd : Nat → Nat) (N : Nat → Int32) (pd : Nat → Nat) (pa : Nat → Nat → Nat) (P : Nat → Nat → Int32) (ph : Nat) (hph : ph ≤ 2) (hp1 : ph = 0) : xC l yX8_back wsX8_back ({ frames := 4, cells := 0, slots := 0, locals := 103 }) D (TY q) [w8 q ad ω0 ω1 ω2 ω3 ω4 (nd 0) ω6 (pd 0) ω8 ω9, wk q nd N, wp q pd pa 2 (nI ph), wpl q pa P 2] [.ref (ad 0)] (xQi D (TY q) (fun (r : Int32) (_ : Unit) => r = (-2)) (fun _ => [w8 q ad ω0 ω1 ω2 ω3 ω4 (nd 0) ω6 (pd 0) ω8 ω9, wk q nd N, wp q pd pa 2 (nI ph), wpl q pa P 2])) 0 0 := by
  refine x_enter (cc := cX8_back) (maxL := 1) (ret := (some .int)) (by decide) rfl (Nat.le_of_ble_eq_true rfl) ?_
  intro p e s m below meth c A ls H locs hfix hr hlocks hinit hM hl
  obtain ⟨hx, hb, hml, hown, hts⟩ := id hfix
  have hl : lv_has ls 1 [(0, .ref (ad 0))] := hl
  refine lv_aload_n hx hb dX8_back_0 rfl (lv_at hl 0 rfl) ?_
  refine x_get hx hb hts iwX8_back_X8 hown hM 0 0 rfl rfl rfl 7 (by decide) (hts _ lkX8_back_52) (fun _ h => h) rfl dX8_back_1 ?_
  refine lv_aload_n hx hb dX8_back_4 rfl (lv_at hl 0 rfl) ?_
  refine x_get hx hb hts iwX8_back_X8 hown hM 0 0 rfl rfl rfl 5 (by decide) (hts _ lkX8_back_39) (fun _ h => h) rfl dX8_back_5 ?_
  refine x_calli (bc := [wp q pd pa 2 (nI ph), wk q nd N, wpl q pa P 2]) (br := [w8 q ad ω0 ω1 ω2 ω3 ω4 (nd 0) ω6 (pd 0) ω8 ω9]) hM [2, 1, 3] [0] rfl rfl rfl (by decide) (x_runV (As := [.ref (nd 0)]) (rest := []) hfix (c_X4_popInto l D q pd pa nd N P 2 ph (by omega) (by omega)) (cwV 1 hts gX8_back_X4_popInto rfl rfl rfl (by decide +kernel) ⟨Nat.le_of_ble_eq_true rfl, Nat.le_of_ble_eq_true rfl⟩) hM [2, 1, 3] rfl rfl 2 0 rfl rfl rfl rfl rfl hl.1 rfl (Nat.le_of_ble_eq_true rfl) dX8_back_8 ⟨Nat.le_of_ble_eq_true rfl, Nat.le_of_ble_eq_true rfl⟩) (fun r u H locs hq hM => ?_)
  subst hq
  have hM : xM D (TY q) [w8 q ad ω0 ω1 ω2 ω3 ω4 (nd 0) ω6 (pd 0) ω8 ω9, wp q pd pa 2 (nI (ph - 1)), wk q nd (if 1 ≤ ph then P (ph - 1) else N), wpl q pa P 2] A s.heap s H locs := hM
  have hM : xM D (TY q) [w8 q ad ω0 ω1 ω2 ω3 ω4 (nd 0) ω6 (pd 0) ω8 ω9, wk q nd (if 1 ≤ ph then P (ph - 1) else N), wp q pd pa 2 (nI (ph - 1)), wpl q pa P 2] A s.heap s H locs := hM.sel [0, 2, 1, 3] rfl rfl
  refine x_ifz_ne (P := 1 ≤ ph) (tgt := 17) hx hb dX8_back_11 (by decide) (fun c1 => ?_) (fun c1 => ?_)
  · exfalso; omega
  · refine lv_bipush (v := (-2)) hx hb dX8_back_14 (by decide) ?_
    have e2 : wk q nd (if 1 ≤ ph then P (ph - 1) else N) = wk q nd N := congrArg (wk q nd) (show ((if 1 ≤ ph then P (ph - 1) else N) : Nat → Int32) = N from by exact if_neg (by omega))
    have hM : xM D (TY q) [w8 q ad ω0 ω1 ω2 ω3 ω4 (nd 0) ω6 (pd 0) ω8 ω9, wk q nd N, wp q pd pa 2 (nI (ph - 1)), wpl q pa P 2] A s.heap s H locs := Eq.mp (congrArg (fun z9 => xM D (TY q) [w8 q ad ω0 ω1 ω2 ω3 ω4 (nd 0) ω6 (pd 0) ω8 ω9, z9, wp q pd pa 2 (nI (ph - 1)), wpl q pa P 2] A s.heap s H locs) e2) hM
    have e3 : ((nI (ph - 1)) : Int32) = (nI ph) := by (rw [hp1])
    have hM : xM D (TY q) [w8 q ad ω0 ω1 ω2 ω3 ω4 (nd 0) ω6 (pd 0) ω8 ω9, wk q nd N, wp q pd pa 2 (nI ph), wpl q pa P 2] A s.heap s H locs := Eq.mp (congrArg (fun z9 => xM D (TY q) [w8 q ad ω0 ω1 ω2 ω3 ω4 (nd 0) ω6 (pd 0) ω8 ω9, wk q nd N, wp q pd pa 2 z9, wpl q pa P 2] A s.heap s H locs) e3) hM
    exact x_iret hx hb hr hlocks () hM (show (-2) = (-2) from rfl) dX8_back_16
