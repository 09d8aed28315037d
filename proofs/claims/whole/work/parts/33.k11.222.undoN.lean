set_option maxHeartbeats 2000000 in
set_option maxRecDepth 100000 in
theorem c_X8_undoN (l : Launch) (D : va_G) (q : Nat → ClassId) (ad : Nat → Nat) (ω0 : Nat) (ω1 : Nat) (ω2 : Nat) (ω3 : Nat) (ω4 : Nat) (ω5 : Nat) (ω6 : Nat) (ω7 : Nat) (ω8 : Nat) (ω9 : Nat) (nd : Nat → Nat) (N : Nat → Int32) (ud : Nat → Nat) (ua : Nat → Nat → Nat) (U : Nat → Nat → Int32) (uh : Nat) (huh : uh ≤ 8) (hu1 : uh = 0) : xC l yX8_undo wsX8_undo ({ frames := 4, cells := 0, slots := 0, locals := 103 }) D (TY q) [w8 q ad ω0 ω1 ω2 ω3 ω4 (nd 0) (ud 0) ω7 ω8 ω9, wk q nd N, wp q ud ua 8 (nI uh), wpl q ua U 8] [.ref (ad 0)] (xQi D (TY q) (fun (r : Int32) (_ : Unit) => r = (-2)) (fun _ => [w8 q ad ω0 ω1 ω2 ω3 ω4 (nd 0) (ud 0) ω7 ω8 ω9, wk q nd N, wp q ud ua 8 (nI uh), wpl q ua U 8])) 0 0 := by
  refine x_enter (cc := cX8_undo) (maxL := 1) (ret := (some .int)) (by decide) rfl (Nat.le_of_ble_eq_true rfl) ?_
  intro p e s m below meth c A ls H locs hfix hr hlocks hinit hM hl
  obtain ⟨hx, hb, hml, hown, hts⟩ := id hfix
  have hl : lv_has ls 1 [(0, .ref (ad 0))] := hl
  refine lv_aload_n hx hb dX8_undo_0 rfl (lv_at hl 0 rfl) ?_
  refine x_get hx hb hts iwX8_undo_X8 hown hM 0 0 rfl rfl rfl 6 (by decide) (hts _ lkX8_undo_48) (fun _ h => h) rfl dX8_undo_1 ?_
  refine lv_aload_n hx hb dX8_undo_4 rfl (lv_at hl 0 rfl) ?_
  refine x_get hx hb hts iwX8_undo_X8 hown hM 0 0 rfl rfl rfl 5 (by decide) (hts _ lkX8_undo_39) (fun _ h => h) rfl dX8_undo_5 ?_
  refine x_calli (bc := [wp q ud ua 8 (nI uh), wk q nd N, wpl q ua U 8]) (br := [w8 q ad ω0 ω1 ω2 ω3 ω4 (nd 0) (ud 0) ω7 ω8 ω9]) hM [2, 1, 3] [0] rfl rfl rfl (by decide) (x_runV (As := [.ref (nd 0)]) (rest := []) hfix (c_X4_popInto l D q ud ua nd N U 8 uh (by omega) (by omega)) (cwV 1 hts gX8_undo_X4_popInto rfl rfl rfl (by decide +kernel) ⟨Nat.le_of_ble_eq_true rfl, Nat.le_of_ble_eq_true rfl⟩) hM [2, 1, 3] rfl rfl 2 0 rfl rfl rfl rfl rfl hl.1 rfl (Nat.le_of_ble_eq_true rfl) dX8_undo_8 ⟨Nat.le_of_ble_eq_true rfl, Nat.le_of_ble_eq_true rfl⟩) (fun r u H locs hq hM => ?_)
  subst hq
  have hM : xM D (TY q) [w8 q ad ω0 ω1 ω2 ω3 ω4 (nd 0) (ud 0) ω7 ω8 ω9, wp q ud ua 8 (nI (uh - 1)), wk q nd (if 1 ≤ uh then U (uh - 1) else N), wpl q ua U 8] A s.heap s H locs := hM
  have hM : xM D (TY q) [w8 q ad ω0 ω1 ω2 ω3 ω4 (nd 0) (ud 0) ω7 ω8 ω9, wk q nd (if 1 ≤ uh then U (uh - 1) else N), wp q ud ua 8 (nI (uh - 1)), wpl q ua U 8] A s.heap s H locs := hM.sel [0, 2, 1, 3] rfl rfl
  refine x_ifz_eq (P := 1 ≤ uh) (tgt := 24) hx hb dX8_undo_11 (by decide) (fun c1 => ?_) (fun c1 => ?_)
  · refine lv_bipush (v := (-2)) hx hb dX8_undo_24 (by decide) ?_
    have e2 : wk q nd (if 1 ≤ uh then U (uh - 1) else N) = wk q nd N := congrArg (wk q nd) (show ((if 1 ≤ uh then U (uh - 1) else N) : Nat → Int32) = N from by exact if_neg (by omega))
    have hM : xM D (TY q) [w8 q ad ω0 ω1 ω2 ω3 ω4 (nd 0) (ud 0) ω7 ω8 ω9, wk q nd N, wp q ud ua 8 (nI (uh - 1)), wpl q ua U 8] A s.heap s H locs := Eq.mp (congrArg (fun z9 => xM D (TY q) [w8 q ad ω0 ω1 ω2 ω3 ω4 (nd 0) (ud 0) ω7 ω8 ω9, z9, wp q ud ua 8 (nI (uh - 1)), wpl q ua U 8] A s.heap s H locs) e2) hM
    have e3 : ((nI (uh - 1)) : Int32) = (nI uh) := by (rw [hu1])
    have hM : xM D (TY q) [w8 q ad ω0 ω1 ω2 ω3 ω4 (nd 0) (ud 0) ω7 ω8 ω9, wk q nd N, wp q ud ua 8 (nI uh), wpl q ua U 8] A s.heap s H locs := Eq.mp (congrArg (fun z9 => xM D (TY q) [w8 q ad ω0 ω1 ω2 ω3 ω4 (nd 0) (ud 0) ω7 ω8 ω9, wk q nd N, wp q ud ua 8 z9, wpl q ua U 8] A s.heap s H locs) e3) hM
    exact x_iret hx hb hr hlocks () hM (show (-2) = (-2) from rfl) dX8_undo_26
  · exfalso; omega
