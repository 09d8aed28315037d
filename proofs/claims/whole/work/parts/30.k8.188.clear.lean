theorem dX2_clear_0 : decode cX2_clear 0 = .ok (.aload_n 0, 1) := by decide +kernel
theorem dX2_clear_1 : decode cX2_clear 1 = .ok (.iconst 0, 1) := by decide +kernel
theorem dX2_clear_2 : decode cX2_clear 2 = .ok (.putfield 19, 3) := by decide +kernel
theorem dX2_clear_5 : decode cX2_clear 5 = .ok (.return_, 1) := by decide +kernel
theorem lkX2_clear_19 : Cond.fieldLink RX2 19 "LeftAtFive$Letters" "length" "I" ∈ wsX2_clear := by decide +kernel
theorem iwX2_clear_X2 : ∀ w ∈ wsX20, w ∈ wsX2_clear := by decide +kernel
set_option maxHeartbeats 2000000 in
set_option maxRecDepth 100000 in
theorem c_X2_clear (l : Launch) (D : va_G) (q : Nat → ClassId) (ld : Nat → Nat) (ν0 : Nat → Int32) (ν1 : Nat → Int32) (ν2 : Int32) (ν3 : Int32) : xC l yX2_clear wsX2_clear ({ frames := 0, cells := 0, slots := 0, locals := 0 }) D (TY q) [w2 q ld ν0 ν1 ν2 ν3] [.ref (ld 0)] (xQv D (TY q) (fun (_ : Unit) => True) (fun _ => [w2 q ld ν0 ν1 (nI 0) ν3])) 0 0 := by
  refine x_enter (cc := cX2_clear) (maxL := 1) (ret := none) (by decide) rfl (Nat.le_of_ble_eq_true rfl) ?_
  intro p e s m below meth c A ls H locs hfix hr hlocks hinit hM hl
  obtain ⟨hx, hb, hml, hown, hts⟩ := id hfix
  have hl : lv_has ls 1 [(0, .ref (ld 0))] := hl
  refine lv_aload_n hx hb dX2_clear_0 rfl (lv_at hl 0 rfl) ?_
  refine lv_iconst (v := nI 0) hx hb dX2_clear_1 (by decide) ?_
  refine x_put hx hb hts iwX2_clear_X2 tyX2 tyX2_ok nmX2 hown hM 0 0 rfl rfl rfl 2 (by decide) (hts _ lkX2_clear_19) (fun _ h => h) rfl (ty := .int) (by decide +kernel) rfl rfl (Nat.le_of_ble_eq_true rfl) [w2 q ld ν0 ν1 (nI 0) ν3] rfl dX2_clear_2 (fun H locs hM => ?_)
  exact x_vret hx hb hr hlocks () hM trivial dX2_clear_5
