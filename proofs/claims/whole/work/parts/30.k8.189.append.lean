theorem dX2_append_0 : decode cX2_append 0 = .ok (.aload_n 0, 1) := by decide +kernel
theorem dX2_append_1 : decode cX2_append 1 = .ok (.getfield 19, 3) := by decide +kernel
theorem dX2_append_4 : decode cX2_append 4 = .ok (.ifCond .lt 15, 3) := by decide +kernel
theorem dX2_append_7 : decode cX2_append 7 = .ok (.aload_n 0, 1) := by decide +kernel
theorem dX2_append_8 : decode cX2_append 8 = .ok (.getfield 19, 3) := by decide +kernel
theorem dX2_append_11 : decode cX2_append 11 = .ok (.aload_n 0, 1) := by decide +kernel
theorem dX2_append_12 : decode cX2_append 12 = .ok (.getfield 9, 3) := by decide +kernel
theorem dX2_append_15 : decode cX2_append 15 = .ok (.arraylength, 1) := by decide +kernel
theorem dX2_append_16 : decode cX2_append 16 = .ok (.if_icmp .lt 6, 3) := by decide +kernel
theorem dX2_append_19 : decode cX2_append 19 = .ok (.bipush (-3), 2) := by decide +kernel
theorem dX2_append_21 : decode cX2_append 21 = .ok (.ireturn, 1) := by decide +kernel
theorem dX2_append_22 : decode cX2_append 22 = .ok (.aload_n 0, 1) := by decide +kernel
theorem dX2_append_23 : decode cX2_append 23 = .ok (.getfield 9, 3) := by decide +kernel
theorem dX2_append_26 : decode cX2_append 26 = .ok (.aload_n 0, 1) := by decide +kernel
theorem dX2_append_27 : decode cX2_append 27 = .ok (.getfield 19, 3) := by decide +kernel
theorem dX2_append_30 : decode cX2_append 30 = .ok (.iload_n 1, 1) := by decide +kernel
theorem dX2_append_31 : decode cX2_append 31 = .ok (.castore, 1) := by decide +kernel
theorem dX2_append_32 : decode cX2_append 32 = .ok (.aload_n 0, 1) := by decide +kernel
theorem dX2_append_33 : decode cX2_append 33 = .ok (.dup, 1) := by decide +kernel
theorem dX2_append_34 : decode cX2_append 34 = .ok (.getfield 19, 3) := by decide +kernel
theorem dX2_append_37 : decode cX2_append 37 = .ok (.iconst 1, 1) := by decide +kernel
theorem dX2_append_38 : decode cX2_append 38 = .ok (.iadd, 1) := by decide +kernel
theorem dX2_append_39 : decode cX2_append 39 = .ok (.putfield 19, 3) := by decide +kernel
theorem dX2_append_42 : decode cX2_append 42 = .ok (.aload_n 0, 1) := by decide +kernel
theorem dX2_append_43 : decode cX2_append 43 = .ok (.getfield 19, 3) := by decide +kernel
theorem dX2_append_46 : decode cX2_append 46 = .ok (.ireturn, 1) := by decide +kernel
theorem lkX2_append_9 : Cond.fieldLink RX2 9 "LeftAtFive$Letters" "letters" "[C" ∈ wsX2_append := by decide +kernel
theorem lkX2_append_19 : Cond.fieldLink RX2 19 "LeftAtFive$Letters" "length" "I" ∈ wsX2_append := by decide +kernel
theorem iwX2_append_X2 : ∀ w ∈ wsX20, w ∈ wsX2_append := by decide +kernel
set_option maxHeartbeats 2000000 in
set_option maxRecDepth 100000 in
theorem c_X2_append (l : Launch) (D : va_G) (q : Nat → ClassId) (ld : Nat → Nat) (ν0 : Nat → Int32) (ν1 : Nat → Int32) (ν2 : Int32) (ν3 : Int32) (x : Nat) (hL : ν2 = nI (tn ν2) ∧ tn ν2 ≤ 200) (hx9 : x ≤ 126) (hL1 : ¬ tn ν2 = 200) : xC l yX2_append wsX2_append ({ frames := 0, cells := 0, slots := 0, locals := 0 }) D (TY q) [w2 q ld ν0 ν1 ν2 ν3] [.ref (ld 0), .int (nI x)] (xQi D (TY q) (fun (r : Int32) (_ : Unit) => r = nI (tn ν2 + 1)) (fun _ => [w2 q ld (upd ν0 (tn ν2) (nI x)) ν1 (nI (tn ν2 + 1)) ν3])) 0 0 := by
  refine x_enter (cc := cX2_append) (maxL := 2) (ret := (some .int)) (by decide) rfl (Nat.le_of_ble_eq_true rfl) ?_
  intro p e s m below meth c A ls H locs hfix hr hlocks hinit hM hl
  obtain ⟨hx, hb, hml, hown, hts⟩ := id hfix
  have hl : lv_has ls 2 [(0, .ref (ld 0)), (1, .int (nI x))] := hl
  have hL2 := hL.2
  refine lv_aload_n hx hb dX2_append_0 rfl (lv_at hl 0 rfl) ?_
  refine x_get hx hb hts iwX2_append_X2 hown hM 0 0 rfl rfl rfl 2 (by decide) (hts _ lkX2_append_19) (fun _ h => h) rfl dX2_append_1 ?_
  refine x_cast (y := nI (tn ν2)) hL.1 ?_
  refine x_if_lt (x := tn ν2) (tgt := 19) hx hb (by omega) dX2_append_4 (by decide) ?_
  refine lv_aload_n hx hb dX2_append_7 rfl (lv_at hl 0 rfl) ?_
  refine x_get hx hb hts iwX2_append_X2 hown hM 0 0 rfl rfl rfl 2 (by decide) (hts _ lkX2_append_19) (fun _ h => h) rfl dX2_append_8 ?_
  refine x_cast (y := nI (tn ν2)) hL.1 ?_
  refine lv_aload_n hx hb dX2_append_11 rfl (lv_at hl 0 rfl) ?_
  refine x_get hx hb hts iwX2_append_X2 hown hM 0 0 rfl rfl rfl 0 (by decide) (hts _ lkX2_append_9) (fun _ h => h) rfl dX2_append_12 ?_
  refine x_alen hx hb hM 0 1 1 rfl rfl rfl dX2_append_15 ?_
  refine x_icmp_lt (x := tn ν2) (y := 200) (tgt := 22) hx hb (by omega) (by omega) dX2_append_16 (by decide) (fun c1 => ?_) (fun c1 => ?_)
  · refine lv_aload_n hx hb dX2_append_22 rfl (lv_at hl 0 rfl) ?_
    refine x_get hx hb hts iwX2_append_X2 hown hM 0 0 rfl rfl rfl 0 (by decide) (hts _ lkX2_append_9) (fun _ h => h) rfl dX2_append_23 ?_
    refine lv_aload_n hx hb dX2_append_26 rfl (lv_at hl 0 rfl) ?_
    refine x_get hx hb hts iwX2_append_X2 hown hM 0 0 rfl rfl rfl 2 (by decide) (hts _ lkX2_append_19) (fun _ h => h) rfl dX2_append_27 ?_
    refine x_cast (y := nI (tn ν2)) hL.1 ?_
    refine lv_iload_n hx hb dX2_append_30 rfl (lv_at hl 1 rfl) ?_
    refine x_castc hx hb hM 0 1 1 (f := ν0) rfl rfl rfl (t := tn ν2) (x := nI x) (by omega) (by decide) (nar_c (by omega)) [w2 q ld (upd ν0 (tn ν2) (nI x)) ν1 ν2 ν3] rfl dX2_append_31 (fun H locs hM => ?_)
    refine lv_aload_n hx hb dX2_append_32 rfl (lv_at hl 0 rfl) ?_
    refine lv_dup hx hb dX2_append_33 rfl ?_
    refine x_get hx hb hts iwX2_append_X2 hown hM 0 0 rfl rfl rfl 2 (by decide) (hts _ lkX2_append_19) (fun _ h => h) rfl dX2_append_34 ?_
    refine x_cast (y := nI (tn ν2)) hL.1 ?_
    refine lv_iconst (v := nI 1) hx hb dX2_append_37 (by decide) ?_
    refine x_iadd (x := tn ν2) (y := 1) hx hb dX2_append_38 ?_
    refine x_put hx hb hts iwX2_append_X2 tyX2 tyX2_ok nmX2 hown hM 0 0 rfl rfl rfl 2 (by decide) (hts _ lkX2_append_19) (fun _ h => h) rfl (ty := .int) (by decide +kernel) rfl rfl (Nat.le_of_ble_eq_true rfl) [w2 q ld (upd ν0 (tn ν2) (nI x)) ν1 (nI (tn ν2 + 1)) ν3] rfl dX2_append_39 (fun H locs hM => ?_)
    refine lv_aload_n hx hb dX2_append_42 rfl (lv_at hl 0 rfl) ?_
    refine x_get hx hb hts iwX2_append_X2 hown hM 0 0 rfl rfl rfl 2 (by decide) (hts _ lkX2_append_19) (fun _ h => h) rfl dX2_append_43 ?_
    exact x_iret hx hb hr hlocks () hM (show nI (tn ν2 + 1) = nI (tn ν2 + 1) from rfl) dX2_append_46
  · exfalso; omega
