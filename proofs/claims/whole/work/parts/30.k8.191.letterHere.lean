theorem dX2_letterHere_0 : decode cX2_letterHere 0 = .ok (.aload_n 0, 1) := by decide +kernel
theorem dX2_letterHere_1 : decode cX2_letterHere 1 = .ok (.getfield 28, 3) := by decide +kernel
theorem dX2_letterHere_4 : decode cX2_letterHere 4 = .ok (.ifCond .lt 38, 3) := by decide +kernel
theorem dX2_letterHere_7 : decode cX2_letterHere 7 = .ok (.aload_n 0, 1) := by decide +kernel
theorem dX2_letterHere_8 : decode cX2_letterHere 8 = .ok (.getfield 28, 3) := by decide +kernel
theorem dX2_letterHere_11 : decode cX2_letterHere 11 = .ok (.aload_n 0, 1) := by decide +kernel
theorem dX2_letterHere_12 : decode cX2_letterHere 12 = .ok (.getfield 19, 3) := by decide +kernel
theorem dX2_letterHere_15 : decode cX2_letterHere 15 = .ok (.if_icmp .ge 27, 3) := by decide +kernel
theorem dX2_letterHere_18 : decode cX2_letterHere 18 = .ok (.aload_n 0, 1) := by decide +kernel
theorem dX2_letterHere_19 : decode cX2_letterHere 19 = .ok (.getfield 28, 3) := by decide +kernel
theorem dX2_letterHere_22 : decode cX2_letterHere 22 = .ok (.aload_n 0, 1) := by decide +kernel
theorem dX2_letterHere_23 : decode cX2_letterHere 23 = .ok (.getfield 9, 3) := by decide +kernel
theorem dX2_letterHere_26 : decode cX2_letterHere 26 = .ok (.arraylength, 1) := by decide +kernel
theorem dX2_letterHere_27 : decode cX2_letterHere 27 = .ok (.if_icmp .ge 15, 3) := by decide +kernel
theorem dX2_letterHere_30 : decode cX2_letterHere 30 = .ok (.aload_n 0, 1) := by decide +kernel
theorem dX2_letterHere_31 : decode cX2_letterHere 31 = .ok (.getfield 9, 3) := by decide +kernel
theorem dX2_letterHere_34 : decode cX2_letterHere 34 = .ok (.aload_n 0, 1) := by decide +kernel
theorem dX2_letterHere_35 : decode cX2_letterHere 35 = .ok (.getfield 28, 3) := by decide +kernel
theorem dX2_letterHere_38 : decode cX2_letterHere 38 = .ok (.caload, 1) := by decide +kernel
theorem dX2_letterHere_39 : decode cX2_letterHere 39 = .ok (.goto 4, 3) := by decide +kernel
theorem dX2_letterHere_42 : decode cX2_letterHere 42 = .ok (.iconst 0, 1) := by decide +kernel
theorem dX2_letterHere_43 : decode cX2_letterHere 43 = .ok (.ireturn, 1) := by decide +kernel
theorem lkX2_letterHere_9 : Cond.fieldLink RX2 9 "LeftAtFive$Letters" "letters" "[C" ∈ wsX2_letterHere := by decide +kernel
theorem lkX2_letterHere_19 : Cond.fieldLink RX2 19 "LeftAtFive$Letters" "length" "I" ∈ wsX2_letterHere := by decide +kernel
theorem lkX2_letterHere_28 : Cond.fieldLink RX2 28 "LeftAtFive$Letters" "place" "I" ∈ wsX2_letterHere := by decide +kernel
theorem iwX2_letterHere_X2 : ∀ w ∈ wsX20, w ∈ wsX2_letterHere := by decide +kernel
set_option maxHeartbeats 2000000 in
set_option maxRecDepth 100000 in
theorem c_X2_letterHere (l : Launch) (D : va_G) (q : Nat → ClassId) (ld : Nat → Nat) (ν0 : Nat → Int32) (ν1 : Nat → Int32) (ν2 : Int32) (ν3 : Int32) (sp : Nat) (hL : ν2 = nI (tn ν2) ∧ tn ν2 ≤ 200) (hC : ∀ j, j < tn ν2 → cN (ν0 j) 126) (hsp2 : sp ≤ 1000) : xC l yX2_letterHere wsX2_letterHere ({ frames := 0, cells := 0, slots := 0, locals := 0 }) D (TY q) [w2 q ld ν0 ν1 ν2 (nI sp)] [.ref (ld 0)] (xQi D (TY q) (fun (r : Int32) (_ : Unit) => r = xlet ν0 (tn ν2) sp) (fun _ => [w2 q ld ν0 ν1 ν2 (nI sp)])) 0 0 := by
  refine x_enter (cc := cX2_letterHere) (maxL := 1) (ret := (some .char)) (by decide) rfl (Nat.le_of_ble_eq_true rfl) ?_
  intro p e s m below meth c A ls H locs hfix hr hlocks hinit hM hl
  obtain ⟨hx, hb, hml, hown, hts⟩ := id hfix
  have hl : lv_has ls 1 [(0, .ref (ld 0))] := hl
  have hL2 := hL.2
  have hA2 := xlet_cN hC
  refine lv_aload_n hx hb dX2_letterHere_0 rfl (lv_at hl 0 rfl) ?_
  refine x_get hx hb hts iwX2_letterHere_X2 hown hM 0 0 rfl rfl rfl 3 (by decide) (hts _ lkX2_letterHere_28) (fun _ h => h) rfl dX2_letterHere_1 ?_
  refine x_if_lt (x := sp) (tgt := 42) hx hb (by omega) dX2_letterHere_4 (by decide) ?_
  refine lv_aload_n hx hb dX2_letterHere_7 rfl (lv_at hl 0 rfl) ?_
  refine x_get hx hb hts iwX2_letterHere_X2 hown hM 0 0 rfl rfl rfl 3 (by decide) (hts _ lkX2_letterHere_28) (fun _ h => h) rfl dX2_letterHere_8 ?_
  refine lv_aload_n hx hb dX2_letterHere_11 rfl (lv_at hl 0 rfl) ?_
  refine x_get hx hb hts iwX2_letterHere_X2 hown hM 0 0 rfl rfl rfl 2 (by decide) (hts _ lkX2_letterHere_19) (fun _ h => h) rfl dX2_letterHere_12 ?_
  refine x_cast (y := nI (tn ν2)) hL.1 ?_
  refine x_icmp_ge (x := sp) (y := tn ν2) (tgt := 42) hx hb (by omega) (by omega) dX2_letterHere_15 (by decide) (fun c1 => ?_) (fun c1 => ?_)
  · have hsl : xlet ν0 (tn ν2) sp = nI 0 := by first | exact xlet_out (by omega) | (exfalso; omega)
    refine lv_iconst (v := nI 0) hx hb dX2_letterHere_42 (by decide) ?_
    exact x_tret hx hb hr hlocks () hM (by first | exact congrArg Value.int (i2c_nI (by decide)) | (rw [hcn]; exact congrArg Value.int (i2c_nI (by omega)))) (show nI 0 = xlet ν0 (tn ν2) sp from by (rw [hsl])) dX2_letterHere_43
  · refine lv_aload_n hx hb dX2_letterHere_18 rfl (lv_at hl 0 rfl) ?_
    refine x_get hx hb hts iwX2_letterHere_X2 hown hM 0 0 rfl rfl rfl 3 (by decide) (hts _ lkX2_letterHere_28) (fun _ h => h) rfl dX2_letterHere_19 ?_
    refine lv_aload_n hx hb dX2_letterHere_22 rfl (lv_at hl 0 rfl) ?_
    refine x_get hx hb hts iwX2_letterHere_X2 hown hM 0 0 rfl rfl rfl 0 (by decide) (hts _ lkX2_letterHere_9) (fun _ h => h) rfl dX2_letterHere_23 ?_
    refine x_alen hx hb hM 0 1 1 rfl rfl rfl dX2_letterHere_26 ?_
    refine x_icmp_ge (x := sp) (y := 200) (tgt := 42) hx hb (by omega) (by omega) dX2_letterHere_27 (by decide) (fun c2 => ?_) (fun c2 => ?_)
    · have hsl : xlet ν0 (tn ν2) sp = nI 0 := by first | exact xlet_out (by omega) | (exfalso; omega)
      refine lv_iconst (v := nI 0) hx hb dX2_letterHere_42 (by decide) ?_
      exact x_tret hx hb hr hlocks () hM (by first | exact congrArg Value.int (i2c_nI (by decide)) | (rw [hcn]; exact congrArg Value.int (i2c_nI (by omega)))) (show nI 0 = xlet ν0 (tn ν2) sp from by (rw [hsl])) dX2_letterHere_43
    · have hsl : xlet ν0 (tn ν2) sp = ν0 sp := xlet_in (by omega)
      have hcn : ν0 sp = nI (tn (ν0 sp)) := (hC sp (by omega)).1
      have hcl := (hC sp (by omega)).2
      refine lv_aload_n hx hb dX2_letterHere_30 rfl (lv_at hl 0 rfl) ?_
      refine x_get hx hb hts iwX2_letterHere_X2 hown hM 0 0 rfl rfl rfl 0 (by decide) (hts _ lkX2_letterHere_9) (fun _ h => h) rfl dX2_letterHere_31 ?_
      refine lv_aload_n hx hb dX2_letterHere_34 rfl (lv_at hl 0 rfl) ?_
      refine x_get hx hb hts iwX2_letterHere_X2 hown hM 0 0 rfl rfl rfl 3 (by decide) (hts _ lkX2_letterHere_28) (fun _ h => h) rfl dX2_letterHere_35 ?_
      refine x_cald hx hb hM 0 1 1 (f := ν0) rfl rfl rfl (t := sp) (by omega) (by decide) dX2_letterHere_38 ?_
      refine lv_goto (tgt := 43) hx hb dX2_letterHere_39 (by decide) ?_
      exact x_tret hx hb hr hlocks () hM (by first | exact congrArg Value.int (i2c_nI (by decide)) | (rw [hcn]; exact congrArg Value.int (i2c_nI (by omega)))) (show ν0 sp = xlet ν0 (tn ν2) sp from by (rw [hsl])) dX2_letterHere_43
