set_option maxHeartbeats 2000000 in
set_option maxRecDepth 100000 in
theorem c_X2_appendN (l : Launch) (D : va_G) (q : Nat → ClassId) (ld : Nat → Nat) (ν0 : Nat → Int32) (ν1 : Nat → Int32) (ν2 : Int32) (ν3 : Int32) (x : Nat) (hL : ν2 = nI (tn ν2) ∧ tn ν2 ≤ 200) (hL1 : tn ν2 = 200) : xC l yX2_append wsX2_append ({ frames := 0, cells := 0, slots := 0, locals := 0 }) D (TY q) [w2 q ld ν0 ν1 ν2 ν3] [.ref (ld 0), .int (nI x)] (xQi D (TY q) (fun (r : Int32) (_ : Unit) => r = (-3)) (fun _ => [w2 q ld ν0 ν1 ν2 ν3])) 0 0 := by
  refine x_enter (cc := cX2_append) (maxL := 2) (ret := (some .int)) (by decide) rfl (Nat.le_of_ble_eq_true rfl) ?_
  intro p e s m below meth c A ls H locs hfix hr hlocks hinit hM hl
  obtain ⟨hx, hb, hml, hown, hts⟩ := id hfix
  have hl : lv_has ls 2 [(0, .ref (ld 0)), (1, .int (nI x))] := hl
  have hL2 := hL.2
  refine lv_aload_n hx hb dX2_append_0 rfl (lv_at hl 0 rfl) ?_
  refine x_get hx hb hts iwX2_append_X2 hown hM 0 0 rfl rfl rfl 2 (by decide) (hts _ lkX2_append_19) (fun _ h => h) rfl dX2_append_1 ?_
  refine x_cast (y := nI (tn ν2)) hL.1 ?_
  refine x_if_lt (x := tn ν2) (tgt := 19) hx hb (by omega) dX2_append_4 (by decide) ?_
  refine lv_aload_n hx hb dX2_append_7 rfl (lv_at hl 0 rfl) ?_
  refine x_get hx hb hts iwX2_append_X2 hown hM 0 0 rfl rfl rfl 2 (by decide) (hts _ lkX2_append_19) (fun _ h => h) rfl dX2_append_8 ?_
  refine x_cast (y := nI (tn ν2)) hL.1 ?_
  refine lv_aload_n hx hb dX2_append_11 rfl (lv_at hl 0 rfl) ?_
  refine x_get hx hb hts iwX2_append_X2 hown hM 0 0 rfl rfl rfl 0 (by decide) (hts _ lkX2_append_9) (fun _ h => h) rfl dX2_append_12 ?_
  refine x_alen hx hb hM 0 1 1 rfl rfl rfl dX2_append_15 ?_
  refine x_icmp_lt (x := tn ν2) (y := 200) (tgt := 22) hx hb (by omega) (by omega) dX2_append_16 (by decide) (fun c1 => ?_) (fun c1 => ?_)
  · exfalso; omega
  · refine lv_bipush (v := (-3)) hx hb dX2_append_19 (by decide) ?_
    exact x_iret hx hb hr hlocks () hM (show (-3) = (-3) from rfl) dX2_append_21
