set_option maxHeartbeats 2000000 in
set_option maxRecDepth 100000 in
theorem c_X8_keepN (l : Launch) (D : va_G) (q : Nat → ClassId) (ad : Nat → Nat) (ω0 : Nat) (ω1 : Nat) (ω2 : Nat) (ω3 : Nat) (ω4 : Nat) (ω5 : Nat) (ω6 : Nat) (ω7 : Nat) (ω8 : Nat) (ω9 : Nat) (pd : Nat → Nat) (pa : Nat → Nat → Nat) (P : Nat → Nat → Int32) (ph : Nat) (hph : ph ≤ 2) (hp1 : ph = 2) : xC l yX8_keep wsX8_keep ({ frames := 4, cells := 0, slots := 0, locals := 103 }) D (TY q) [w8 q ad ω0 ω1 ω2 ω3 ω4 ω5 ω6 (pd 0) ω8 ω9, wp q pd pa 2 (nI ph), wpl q pa P 2] [.ref (ad 0)] (xQi D (TY q) (fun (r : Int32) (_ : Unit) => r = (-3)) (fun _ => [w8 q ad ω0 ω1 ω2 ω3 ω4 ω5 ω6 (pd 0) ω8 ω9, wp q pd pa 2 (nI ph), wpl q pa P 2])) 0 0 := by
  refine x_enter (cc := cX8_keep) (maxL := 1) (ret := (some .int)) (by decide) rfl (Nat.le_of_ble_eq_true rfl) ?_
  intro p e s m below meth c A ls H locs hfix hr hlocks hinit hM hl
  obtain ⟨hx, hb, hml, hown, hts⟩ := id hfix
  have hl : lv_has ls 1 [(0, .ref (ad 0))] := hl
  refine lv_aload_n hx hb dX8_keep_0 rfl (lv_at hl 0 rfl) ?_
  refine x_get hx hb hts iwX8_keep_X8 hown hM 0 0 rfl rfl rfl 7 (by decide) (hts _ lkX8_keep_52) (fun _ h => h) rfl dX8_keep_1 ?_
  refine x_calli (bc := [wp q pd pa 2 (nI ph)]) (br := [w8 q ad ω0 ω1 ω2 ω3 ω4 ω5 ω6 (pd 0) ω8 ω9, wpl q pa P 2]) hM [1] [0, 2] rfl rfl rfl (by decide) (x_runV (As := []) (rest := []) hfix (c_X4_size l D q pd pa 2 ph) (cwV 0 hts gX8_keep_X4_size rfl rfl rfl (by decide +kernel) ⟨Nat.le_of_ble_eq_true rfl, Nat.le_of_ble_eq_true rfl⟩) hM [1] rfl rfl 1 0 rfl rfl rfl rfl rfl hl.1 rfl (Nat.le_of_ble_eq_true rfl) dX8_keep_4 ⟨Nat.le_of_ble_eq_true rfl, Nat.le_of_ble_eq_true rfl⟩) (fun r u H locs hq hM => ?_)
  have hq := hq.symm
  subst hq
  have hM : xM D (TY q) [w8 q ad ω0 ω1 ω2 ω3 ω4 ω5 ω6 (pd 0) ω8 ω9, wpl q pa P 2, wp q pd pa 2 (nI ph)] A s.heap s H locs := hM
  have hM : xM D (TY q) [w8 q ad ω0 ω1 ω2 ω3 ω4 ω5 ω6 (pd 0) ω8 ω9, wp q pd pa 2 (nI ph), wpl q pa P 2] A s.heap s H locs := hM.sel [0, 2, 1] rfl rfl
  refine lv_iconst (v := nI 2) hx hb dX8_keep_7 (by decide) ?_
  refine x_icmp_lt (x := ph) (y := 2) (tgt := 14) hx hb (by omega) (by omega) dX8_keep_8 (by decide) (fun c1 => ?_) (fun c1 => ?_)
  · exfalso; omega
  · refine lv_bipush (v := (-3)) hx hb dX8_keep_11 (by decide) ?_
    exact x_iret hx hb hr hlocks () hM (show (-3) = (-3) from rfl) dX8_keep_13
