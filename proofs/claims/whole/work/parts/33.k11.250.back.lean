set_option maxRecDepth 20000 in
theorem ggX8_back_X4_popInto : GoodIn wsX8_back wsX4_popInto := goodIn_r _ [8, 9, 10, 11, 12, 13, 14, 15, 16, 17, 18, 19, 20, 21, 22, 23, 24, 25, 26, 27, 28, 29, 30, 31, 32, 33, 52, 53, 54, 55, 56, 57, 58, 59] (by decide +kernel) (by decide +kernel)
set_option maxRecDepth 20000 in
theorem gX8_back_X4_popInto : GoodIn wsX8_back (wsV RX8 164 RX4 yX4_popInto wsX4_popInto) := goodIn_app (goodIn_of _ (by decide +kernel)) ggX8_back_X4_popInto
set_option maxRecDepth 20000 in
theorem ggX8_back_X4_clear : GoodIn wsX8_back wsX4_clear := goodIn_r _ [37, 9, 52, 53] (by decide +kernel) (by decide +kernel)
set_option maxRecDepth 20000 in
theorem gX8_back_X4_clear : GoodIn wsX8_back (wsV RX8 269 RX4 yX4_clear wsX4_clear) := goodIn_app (goodIn_of _ (by decide +kernel)) ggX8_back_X4_clear
set_option maxRecDepth 20000 in
theorem ggX8_back_X4_size : GoodIn wsX8_back wsX4_size := goodIn_r _ [41, 9, 52, 53] (by decide +kernel) (by decide +kernel)
set_option maxRecDepth 20000 in
theorem gX8_back_X4_size : GoodIn wsX8_back (wsV RX8 168 RX4 yX4_size wsX4_size) := goodIn_app (goodIn_of _ (by decide +kernel)) ggX8_back_X4_size
theorem dX8_back_0 : decode cX8_back 0 = .ok (.aload_n 0, 1) := by decide +kernel
theorem dX8_back_1 : decode cX8_back 1 = .ok (.getfield 52, 3) := by decide +kernel
theorem dX8_back_4 : decode cX8_back 4 = .ok (.aload_n 0, 1) := by decide +kernel
theorem dX8_back_5 : decode cX8_back 5 = .ok (.getfield 39, 3) := by decide +kernel
theorem dX8_back_8 : decode cX8_back 8 = .ok (.invokevirtual 164, 3) := by decide +kernel
theorem dX8_back_11 : decode cX8_back 11 = .ok (.ifCond .ne 6, 3) := by decide +kernel
theorem dX8_back_14 : decode cX8_back 14 = .ok (.bipush (-2), 2) := by decide +kernel
theorem dX8_back_16 : decode cX8_back 16 = .ok (.ireturn, 1) := by decide +kernel
theorem dX8_back_17 : decode cX8_back 17 = .ok (.aload_n 0, 1) := by decide +kernel
theorem dX8_back_18 : decode cX8_back 18 = .ok (.getfield 48, 3) := by decide +kernel
theorem dX8_back_21 : decode cX8_back 21 = .ok (.invokevirtual 269, 3) := by decide +kernel
theorem dX8_back_24 : decode cX8_back 24 = .ok (.aload_n 0, 1) := by decide +kernel
theorem dX8_back_25 : decode cX8_back 25 = .ok (.getfield 52, 3) := by decide +kernel
theorem dX8_back_28 : decode cX8_back 28 = .ok (.invokevirtual 168, 3) := by decide +kernel
theorem dX8_back_31 : decode cX8_back 31 = .ok (.ireturn, 1) := by decide +kernel
theorem lkX8_back_39 : Cond.fieldLink RX8 39 "LeftAtFive" "now" "LLeftAtFive$Kitchens;" ∈ wsX8_back := by decide +kernel
theorem lkX8_back_48 : Cond.fieldLink RX8 48 "LeftAtFive" "undone" "LLeftAtFive$Pile;" ∈ wsX8_back := by decide +kernel
theorem lkX8_back_52 : Cond.fieldLink RX8 52 "LeftAtFive" "kept" "LLeftAtFive$Pile;" ∈ wsX8_back := by decide +kernel
theorem iwX8_back_X8 : ∀ w ∈ wsX80, w ∈ wsX8_back := by decide +kernel
set_option maxHeartbeats 2000000 in
set_option maxRecDepth 100000 in
theorem c_X8_back (l : Launch) (D : va_G) (q : Nat → ClassId) (ad : Nat → Nat) (ω0 : Nat) (ω1 : Nat) (ω2 : Nat) (ω3 : Nat) (ω4 : Nat) (ω5 : Nat) (ω6 : Nat) (ω7 : Nat) (ω8 : Nat) (ω9 : Nat) (nd : Nat → Nat) (N : Nat → Int32) (ud : Nat → Nat) (ua : Nat → Nat → Nat) (U : Nat → Nat → Int32) (pd : Nat → Nat) (pa : Nat → Nat → Nat) (P : Nat → Nat → Int32) (uh : Nat) (ph : Nat) (huh : uh ≤ 8) (hph : ph ≤ 2) (hp1 : 1 ≤ ph) : xC l yX8_back wsX8_back ({ frames := 4, cells := 0, slots := 0, locals := 103 }) D (TY q) [w8 q ad ω0 ω1 ω2 ω3 ω4 (nd 0) (ud 0) (pd 0) ω8 ω9, wk q nd N, wp q ud ua 8 (nI uh), wpl q ua U 8, wp q pd pa 2 (nI ph), wpl q pa P 2] [.ref (ad 0)] (xQi D (TY q) (fun (r : Int32) (_ : Unit) => r = nI (ph - 1)) (fun _ => [w8 q ad ω0 ω1 ω2 ω3 ω4 (nd 0) (ud 0) (pd 0) ω8 ω9, wk q nd (P (ph - 1)), wp q ud ua 8 (nI 0), wpl q ua U 8, wp q pd pa 2 (nI (ph - 1)), wpl q pa P 2])) 0 0 := by
  refine x_enter (cc := cX8_back) (maxL := 1) (ret := (some .int)) (by decide) rfl (Nat.le_of_ble_eq_true rfl) ?_
  intro p e s m below meth c A ls H locs hfix hr hlocks hinit hM hl
  obtain ⟨hx, hb, hml, hown, hts⟩ := id hfix
  have hl : lv_has ls 1 [(0, .ref (ad 0))] := hl
  refine lv_aload_n hx hb dX8_back_0 rfl (lv_at hl 0 rfl) ?_
  refine x_get hx hb hts iwX8_back_X8 hown hM 0 0 rfl rfl rfl 7 (by decide) (hts _ lkX8_back_52) (fun _ h => h) rfl dX8_back_1 ?_
  refine lv_aload_n hx hb dX8_back_4 rfl (lv_at hl 0 rfl) ?_
  refine x_get hx hb hts iwX8_back_X8 hown hM 0 0 rfl rfl rfl 5 (by decide) (hts _ lkX8_back_39) (fun _ h => h) rfl dX8_back_5 ?_
  refine x_calli (bc := [wp q pd pa 2 (nI ph), wk q nd N, wpl q pa P 2]) (br := [w8 q ad ω0 ω1 ω2 ω3 ω4 (nd 0) (ud 0) (pd 0) ω8 ω9, wp q ud ua 8 (nI uh), wpl q ua U 8]) hM [4, 1, 5] [0, 2, 3] rfl rfl rfl (by decide) (x_runV (As := [.ref (nd 0)]) (rest := []) hfix (c_X4_popInto l D q pd pa nd N P 2 ph (by omega) (by omega)) (cwV 1 hts gX8_back_X4_popInto rfl rfl rfl (by decide +kernel) ⟨Nat.le_of_ble_eq_true rfl, Nat.le_of_ble_eq_true rfl⟩) hM [4, 1, 5] rfl rfl 4 0 rfl rfl rfl rfl rfl hl.1 rfl (Nat.le_of_ble_eq_true rfl) dX8_back_8 ⟨Nat.le_of_ble_eq_true rfl, Nat.le_of_ble_eq_true rfl⟩) (fun r u H locs hq hM => ?_)
  subst hq
  have hM : xM D (TY q) [w8 q ad ω0 ω1 ω2 ω3 ω4 (nd 0) (ud 0) (pd 0) ω8 ω9, wp q ud ua 8 (nI uh), wpl q ua U 8, wp q pd pa 2 (nI (ph - 1)), wk q nd (if 1 ≤ ph then P (ph - 1) else N), wpl q pa P 2] A s.heap s H locs := hM
  have hM : xM D (TY q) [w8 q ad ω0 ω1 ω2 ω3 ω4 (nd 0) (ud 0) (pd 0) ω8 ω9, wk q nd (if 1 ≤ ph then P (ph - 1) else N), wp q ud ua 8 (nI uh), wpl q ua U 8, wp q pd pa 2 (nI (ph - 1)), wpl q pa P 2] A s.heap s H locs := hM.sel [0, 4, 1, 2, 3, 5] rfl rfl
  refine x_ifz_ne (P := 1 ≤ ph) (tgt := 17) hx hb dX8_back_11 (by decide) (fun c1 => ?_) (fun c1 => ?_)
  · have e2 : wk q nd (if 1 ≤ ph then P (ph - 1) else N) = wk q nd (P (ph - 1)) := congrArg (wk q nd) (show ((if 1 ≤ ph then P (ph - 1) else N) : Nat → Int32) = P (ph - 1) from by exact if_pos hp1)
    have hM : xM D (TY q) [w8 q ad ω0 ω1 ω2 ω3 ω4 (nd 0) (ud 0) (pd 0) ω8 ω9, wk q nd (P (ph - 1)), wp q ud ua 8 (nI uh), wpl q ua U 8, wp q pd pa 2 (nI (ph - 1)), wpl q pa P 2] A s.heap s H locs := Eq.mp (congrArg (fun z9 => xM D (TY q) [w8 q ad ω0 ω1 ω2 ω3 ω4 (nd 0) (ud 0) (pd 0) ω8 ω9, z9, wp q ud ua 8 (nI uh), wpl q ua U 8, wp q pd pa 2 (nI (ph - 1)), wpl q pa P 2] A s.heap s H locs) e2) hM
    refine lv_aload_n hx hb dX8_back_17 rfl (lv_at hl 0 rfl) ?_
    refine x_get hx hb hts iwX8_back_X8 hown hM 0 0 rfl rfl rfl 6 (by decide) (hts _ lkX8_back_48) (fun _ h => h) rfl dX8_back_18 ?_
    refine x_callv (bc := [wp q ud ua 8 (nI uh)]) (br := [w8 q ad ω0 ω1 ω2 ω3 ω4 (nd 0) (ud 0) (pd 0) ω8 ω9, wk q nd (P (ph - 1)), wpl q ua U 8, wp q pd pa 2 (nI (ph - 1)), wpl q pa P 2]) hM [2] [0, 1, 3, 4, 5] rfl rfl rfl (by decide) (x_runV (As := []) (rest := []) hfix (c_X4_clear l D q ud ua 8 uh) (cwV 0 hts gX8_back_X4_clear rfl rfl rfl (by decide +kernel) ⟨Nat.le_of_ble_eq_true rfl, Nat.le_of_ble_eq_true rfl⟩) hM [2] rfl rfl 2 0 rfl rfl rfl rfl rfl hl.1 rfl (Nat.le_of_ble_eq_true rfl) dX8_back_21 ⟨Nat.le_of_ble_eq_true rfl, Nat.le_of_ble_eq_true rfl⟩) (fun u H locs hq hM => ?_)
    have hM : xM D (TY q) [w8 q ad ω0 ω1 ω2 ω3 ω4 (nd 0) (ud 0) (pd 0) ω8 ω9, wk q nd (P (ph - 1)), wpl q ua U 8, wp q pd pa 2 (nI (ph - 1)), wpl q pa P 2, wp q ud ua 8 (nI 0)] A s.heap s H locs := hM
    have hM : xM D (TY q) [w8 q ad ω0 ω1 ω2 ω3 ω4 (nd 0) (ud 0) (pd 0) ω8 ω9, wk q nd (P (ph - 1)), wp q ud ua 8 (nI 0), wpl q ua U 8, wp q pd pa 2 (nI (ph - 1)), wpl q pa P 2] A s.heap s H locs := hM.sel [0, 1, 5, 2, 3, 4] rfl rfl
    refine lv_aload_n hx hb dX8_back_24 rfl (lv_at hl 0 rfl) ?_
    refine x_get hx hb hts iwX8_back_X8 hown hM 0 0 rfl rfl rfl 7 (by decide) (hts _ lkX8_back_52) (fun _ h => h) rfl dX8_back_25 ?_
    refine x_calli (bc := [wp q pd pa 2 (nI (ph - 1))]) (br := [w8 q ad ω0 ω1 ω2 ω3 ω4 (nd 0) (ud 0) (pd 0) ω8 ω9, wk q nd (P (ph - 1)), wp q ud ua 8 (nI 0), wpl q ua U 8, wpl q pa P 2]) hM [4] [0, 1, 2, 3, 5] rfl rfl rfl (by decide) (x_runV (As := []) (rest := []) hfix (c_X4_size l D q pd pa 2 (ph - 1)) (cwV 0 hts gX8_back_X4_size rfl rfl rfl (by decide +kernel) ⟨Nat.le_of_ble_eq_true rfl, Nat.le_of_ble_eq_true rfl⟩) hM [4] rfl rfl 4 0 rfl rfl rfl rfl rfl hl.1 rfl (Nat.le_of_ble_eq_true rfl) dX8_back_28 ⟨Nat.le_of_ble_eq_true rfl, Nat.le_of_ble_eq_true rfl⟩) (fun r u H locs hq hM => ?_)
    subst hq
    have hM : xM D (TY q) [w8 q ad ω0 ω1 ω2 ω3 ω4 (nd 0) (ud 0) (pd 0) ω8 ω9, wk q nd (P (ph - 1)), wp q ud ua 8 (nI 0), wpl q ua U 8, wpl q pa P 2, wp q pd pa 2 (nI (ph - 1))] A s.heap s H locs := hM
    have hM : xM D (TY q) [w8 q ad ω0 ω1 ω2 ω3 ω4 (nd 0) (ud 0) (pd 0) ω8 ω9, wk q nd (P (ph - 1)), wp q ud ua 8 (nI 0), wpl q ua U 8, wp q pd pa 2 (nI (ph - 1)), wpl q pa P 2] A s.heap s H locs := hM.sel [0, 1, 2, 3, 5, 4] rfl rfl
    exact x_iret hx hb hr hlocks () hM (show nI (ph - 1) = nI (ph - 1) from rfl) dX8_back_31
  · exfalso; omega
