set_option maxRecDepth 20000 in
theorem ggX8_keep_X4_size : GoodIn wsX8_keep wsX4_size := goodIn_r _ [7, 8, 51, 52] (by decide +kernel) (by decide +kernel)
set_option maxRecDepth 20000 in
theorem gX8_keep_X4_size : GoodIn wsX8_keep (wsV RX8 168 RX4 yX4_size wsX4_size) := goodIn_app (goodIn_of _ (by decide +kernel)) ggX8_keep_X4_size
set_option maxRecDepth 20000 in
theorem ggX8_keep_X4_push : GoodIn wsX8_keep wsX4_push := goodIn_r _ [12, 8, 13, 14, 15, 16, 6, 17, 18, 19, 20, 21, 22, 23, 24, 25, 26, 27, 28, 29, 30, 31, 32, 33, 34, 35, 36, 37, 38, 39, 40, 51, 52, 53, 54, 55, 56, 57, 58] (by decide +kernel) (by decide +kernel)
set_option maxRecDepth 20000 in
theorem gX8_keep_X4_push : GoodIn wsX8_keep (wsV RX8 141 RX4 yX4_push wsX4_push) := goodIn_app (goodIn_of _ (by decide +kernel)) ggX8_keep_X4_push
theorem dX8_keep_0 : decode cX8_keep 0 = .ok (.aload_n 0, 1) := by decide +kernel
theorem dX8_keep_1 : decode cX8_keep 1 = .ok (.getfield 52, 3) := by decide +kernel
theorem dX8_keep_4 : decode cX8_keep 4 = .ok (.invokevirtual 168, 3) := by decide +kernel
theorem dX8_keep_7 : decode cX8_keep 7 = .ok (.iconst 2, 1) := by decide +kernel
theorem dX8_keep_8 : decode cX8_keep 8 = .ok (.if_icmp .lt 6, 3) := by decide +kernel
theorem dX8_keep_11 : decode cX8_keep 11 = .ok (.bipush (-3), 2) := by decide +kernel
theorem dX8_keep_13 : decode cX8_keep 13 = .ok (.ireturn, 1) := by decide +kernel
theorem dX8_keep_14 : decode cX8_keep 14 = .ok (.aload_n 0, 1) := by decide +kernel
theorem dX8_keep_15 : decode cX8_keep 15 = .ok (.getfield 52, 3) := by decide +kernel
theorem dX8_keep_18 : decode cX8_keep 18 = .ok (.aload_n 0, 1) := by decide +kernel
theorem dX8_keep_19 : decode cX8_keep 19 = .ok (.getfield 39, 3) := by decide +kernel
theorem dX8_keep_22 : decode cX8_keep 22 = .ok (.invokevirtual 141, 3) := by decide +kernel
theorem dX8_keep_25 : decode cX8_keep 25 = .ok (.aload_n 0, 1) := by decide +kernel
theorem dX8_keep_26 : decode cX8_keep 26 = .ok (.getfield 52, 3) := by decide +kernel
theorem dX8_keep_29 : decode cX8_keep 29 = .ok (.invokevirtual 168, 3) := by decide +kernel
theorem dX8_keep_32 : decode cX8_keep 32 = .ok (.ireturn, 1) := by decide +kernel
theorem lkX8_keep_39 : Cond.fieldLink RX8 39 "LeftAtFive" "now" "LLeftAtFive$Kitchens;" ∈ wsX8_keep := by decide +kernel
theorem lkX8_keep_52 : Cond.fieldLink RX8 52 "LeftAtFive" "kept" "LLeftAtFive$Pile;" ∈ wsX8_keep := by decide +kernel
theorem iwX8_keep_X8 : ∀ w ∈ wsX80, w ∈ wsX8_keep := by decide +kernel
set_option maxHeartbeats 2000000 in
set_option maxRecDepth 100000 in
theorem c_X8_keep (l : Launch) (D : va_G) (q : Nat → ClassId) (ad : Nat → Nat) (ω0 : Nat) (ω1 : Nat) (ω2 : Nat) (ω3 : Nat) (ω4 : Nat) (ω5 : Nat) (ω6 : Nat) (ω7 : Nat) (ω8 : Nat) (ω9 : Nat) (nd : Nat → Nat) (N : Nat → Int32) (pd : Nat → Nat) (pa : Nat → Nat → Nat) (P : Nat → Nat → Int32) (ph : Nat) (hph : ph ≤ 2) (hp1 : ph < 2) : xC l yX8_keep wsX8_keep ({ frames := 4, cells := 0, slots := 0, locals := 103 }) D (TY q) [w8 q ad ω0 ω1 ω2 ω3 ω4 (nd 0) ω6 (pd 0) ω8 ω9, wk q nd N, wp q pd pa 2 (nI ph), wpl q pa P 2] [.ref (ad 0)] (xQi D (TY q) (fun (r : Int32) (_ : Unit) => r = nI (ph + 1)) (fun _ => [w8 q ad ω0 ω1 ω2 ω3 ω4 (nd 0) ω6 (pd 0) ω8 ω9, wk q nd N, wp q pd pa 2 (nI (ph + 1)), wpl q pa (updR P ph N) 2])) 0 0 := by
  refine x_enter (cc := cX8_keep) (maxL := 1) (ret := (some .int)) (by decide) rfl (Nat.le_of_ble_eq_true rfl) ?_
  intro p e s m below meth c A ls H locs hfix hr hlocks hinit hM hl
  obtain ⟨hx, hb, hml, hown, hts⟩ := id hfix
  have hl : lv_has ls 1 [(0, .ref (ad 0))] := hl
  refine lv_aload_n hx hb dX8_keep_0 rfl (lv_at hl 0 rfl) ?_
  refine x_get hx hb hts iwX8_keep_X8 hown hM 0 0 rfl rfl rfl 7 (by decide) (hts _ lkX8_keep_52) (fun _ h => h) rfl dX8_keep_1 ?_
  refine x_calli (bc := [wp q pd pa 2 (nI ph)]) (br := [w8 q ad ω0 ω1 ω2 ω3 ω4 (nd 0) ω6 (pd 0) ω8 ω9, wk q nd N, wpl q pa P 2]) hM [2] [0, 1, 3] rfl rfl rfl (by decide) (x_runV (As := []) (rest := []) hfix (c_X4_size l D q pd pa 2 ph) (cwV 0 hts gX8_keep_X4_size rfl rfl rfl (by decide +kernel) ⟨Nat.le_of_ble_eq_true rfl, Nat.le_of_ble_eq_true rfl⟩) hM [2] rfl rfl 2 0 rfl rfl rfl rfl rfl hl.1 rfl (Nat.le_of_ble_eq_true rfl) dX8_keep_4 ⟨Nat.le_of_ble_eq_true rfl, Nat.le_of_ble_eq_true rfl⟩) (fun r u H locs hq hM => ?_)
  have hq := hq.symm
  subst hq
  have hM : xM D (TY q) [w8 q ad ω0 ω1 ω2 ω3 ω4 (nd 0) ω6 (pd 0) ω8 ω9, wk q nd N, wpl q pa P 2, wp q pd pa 2 (nI ph)] A s.heap s H locs := hM
  have hM : xM D (TY q) [w8 q ad ω0 ω1 ω2 ω3 ω4 (nd 0) ω6 (pd 0) ω8 ω9, wk q nd N, wp q pd pa 2 (nI ph), wpl q pa P 2] A s.heap s H locs := hM.sel [0, 1, 3, 2] rfl rfl
  refine lv_iconst (v := nI 2) hx hb dX8_keep_7 (by decide) ?_
  refine x_icmp_lt (x := ph) (y := 2) (tgt := 14) hx hb (by omega) (by omega) dX8_keep_8 (by decide) (fun c1 => ?_) (fun c1 => ?_)
  · refine lv_aload_n hx hb dX8_keep_14 rfl (lv_at hl 0 rfl) ?_
    refine x_get hx hb hts iwX8_keep_X8 hown hM 0 0 rfl rfl rfl 7 (by decide) (hts _ lkX8_keep_52) (fun _ h => h) rfl dX8_keep_15 ?_
    refine lv_aload_n hx hb dX8_keep_18 rfl (lv_at hl 0 rfl) ?_
    refine x_get hx hb hts iwX8_keep_X8 hown hM 0 0 rfl rfl rfl 5 (by decide) (hts _ lkX8_keep_39) (fun _ h => h) rfl dX8_keep_19 ?_
    refine x_callv (bc := [wp q pd pa 2 (nI ph), wk q nd N, wpl q pa P 2]) (br := [w8 q ad ω0 ω1 ω2 ω3 ω4 (nd 0) ω6 (pd 0) ω8 ω9]) hM [2, 1, 3] [0] rfl rfl rfl (by decide) (x_runV (As := [.ref (nd 0)]) (rest := []) hfix (c_X4_push l D q pd pa nd N P 2 ph (by omega) (by omega)) (cwV 1 hts gX8_keep_X4_push rfl rfl rfl (by decide +kernel) ⟨Nat.le_of_ble_eq_true rfl, Nat.le_of_ble_eq_true rfl⟩) hM [2, 1, 3] rfl rfl 2 0 rfl rfl rfl rfl rfl hl.1 rfl (Nat.le_of_ble_eq_true rfl) dX8_keep_22 ⟨Nat.le_of_ble_eq_true rfl, Nat.le_of_ble_eq_true rfl⟩) (fun u H locs hq hM => ?_)
    have hM : xM D (TY q) [w8 q ad ω0 ω1 ω2 ω3 ω4 (nd 0) ω6 (pd 0) ω8 ω9, wp q pd (xpA 2 ph pa) 2 (nI (xpH 2 ph)), wk q nd N, wpl q (xpA 2 ph pa) (xpK 2 ph P N) 2] A s.heap s H locs := hM
    have hM : xM D (TY q) [w8 q ad ω0 ω1 ω2 ω3 ω4 (nd 0) ω6 (pd 0) ω8 ω9, wk q nd N, wp q pd (xpA 2 ph pa) 2 (nI (xpH 2 ph)), wpl q (xpA 2 ph pa) (xpK 2 ph P N) 2] A s.heap s H locs := hM.sel [0, 2, 1, 3] rfl rfl
    have e2 : (((xpA 2 ph pa)) : Nat → Nat → Nat) = (pa) := by exact if_pos hp1
    have hM : xM D (TY q) [w8 q ad ω0 ω1 ω2 ω3 ω4 (nd 0) ω6 (pd 0) ω8 ω9, wk q nd N, wp q pd pa 2 (nI (xpH 2 ph)), wpl q (xpA 2 ph pa) (xpK 2 ph P N) 2] A s.heap s H locs := Eq.mp (congrArg (fun z9 => xM D (TY q) [w8 q ad ω0 ω1 ω2 ω3 ω4 (nd 0) ω6 (pd 0) ω8 ω9, wk q nd N, wp q pd z9 2 (nI (xpH 2 ph)), wpl q (xpA 2 ph pa) (xpK 2 ph P N) 2] A s.heap s H locs) e2) hM
    have e3 : ((nI (xpH 2 ph)) : Int32) = (nI (ph + 1)) := by exact congrArg nI (if_pos hp1)
    have hM : xM D (TY q) [w8 q ad ω0 ω1 ω2 ω3 ω4 (nd 0) ω6 (pd 0) ω8 ω9, wk q nd N, wp q pd pa 2 (nI (ph + 1)), wpl q (xpA 2 ph pa) (xpK 2 ph P N) 2] A s.heap s H locs := Eq.mp (congrArg (fun z9 => xM D (TY q) [w8 q ad ω0 ω1 ω2 ω3 ω4 (nd 0) ω6 (pd 0) ω8 ω9, wk q nd N, wp q pd pa 2 z9, wpl q (xpA 2 ph pa) (xpK 2 ph P N) 2] A s.heap s H locs) e3) hM
    have e4 : (((xpA 2 ph pa)) : Nat → Nat → Nat) = (pa) := by exact if_pos hp1
    have hM : xM D (TY q) [w8 q ad ω0 ω1 ω2 ω3 ω4 (nd 0) ω6 (pd 0) ω8 ω9, wk q nd N, wp q pd pa 2 (nI (ph + 1)), wpl q pa (xpK 2 ph P N) 2] A s.heap s H locs := Eq.mp (congrArg (fun z9 => xM D (TY q) [w8 q ad ω0 ω1 ω2 ω3 ω4 (nd 0) ω6 (pd 0) ω8 ω9, wk q nd N, wp q pd pa 2 (nI (ph + 1)), wpl q z9 (xpK 2 ph P N) 2] A s.heap s H locs) e4) hM
    have e5 : (((xpK 2 ph P N)) : Nat → Nat → Int32) = ((updR P ph N)) := by exact if_pos hp1
    have hM : xM D (TY q) [w8 q ad ω0 ω1 ω2 ω3 ω4 (nd 0) ω6 (pd 0) ω8 ω9, wk q nd N, wp q pd pa 2 (nI (ph + 1)), wpl q pa (updR P ph N) 2] A s.heap s H locs := Eq.mp (congrArg (fun z9 => xM D (TY q) [w8 q ad ω0 ω1 ω2 ω3 ω4 (nd 0) ω6 (pd 0) ω8 ω9, wk q nd N, wp q pd pa 2 (nI (ph + 1)), wpl q pa z9 2] A s.heap s H locs) e5) hM
    refine lv_aload_n hx hb dX8_keep_25 rfl (lv_at hl 0 rfl) ?_
    refine x_get hx hb hts iwX8_keep_X8 hown hM 0 0 rfl rfl rfl 7 (by decide) (hts _ lkX8_keep_52) (fun _ h => h) rfl dX8_keep_26 ?_
    refine x_calli (bc := [wp q pd pa 2 (nI (ph + 1))]) (br := [w8 q ad ω0 ω1 ω2 ω3 ω4 (nd 0) ω6 (pd 0) ω8 ω9, wk q nd N, wpl q pa (updR P ph N) 2]) hM [2] [0, 1, 3] rfl rfl rfl (by decide) (x_runV (As := []) (rest := []) hfix (c_X4_size l D q pd pa 2 (ph + 1)) (cwV 0 hts gX8_keep_X4_size rfl rfl rfl (by decide +kernel) ⟨Nat.le_of_ble_eq_true rfl, Nat.le_of_ble_eq_true rfl⟩) hM [2] rfl rfl 2 0 rfl rfl rfl rfl rfl hl.1 rfl (Nat.le_of_ble_eq_true rfl) dX8_keep_29 ⟨Nat.le_of_ble_eq_true rfl, Nat.le_of_ble_eq_true rfl⟩) (fun r u H locs hq hM => ?_)
    subst hq
    have hM : xM D (TY q) [w8 q ad ω0 ω1 ω2 ω3 ω4 (nd 0) ω6 (pd 0) ω8 ω9, wk q nd N, wpl q pa (updR P ph N) 2, wp q pd pa 2 (nI (ph + 1))] A s.heap s H locs := hM
    have hM : xM D (TY q) [w8 q ad ω0 ω1 ω2 ω3 ω4 (nd 0) ω6 (pd 0) ω8 ω9, wk q nd N, wp q pd pa 2 (nI (ph + 1)), wpl q pa (updR P ph N) 2] A s.heap s H locs := hM.sel [0, 1, 3, 2] rfl rfl
    exact x_iret hx hb hr hlocks () hM (show nI (ph + 1) = nI (ph + 1) from rfl) dX8_keep_32
  · exfalso; omega
