theorem dX4_clear_0 : decode cX4_clear 0 = .ok (.aload_n 0, 1) := by decide +kernel
theorem dX4_clear_1 : decode cX4_clear 1 = .ok (.iconst 0, 1) := by decide +kernel
theorem dX4_clear_2 : decode cX4_clear 2 = .ok (.putfield 16, 3) := by decide +kernel
theorem dX4_clear_5 : decode cX4_clear 5 = .ok (.return_, 1) := by decide +kernel
theorem lkX4_clear_16 : Cond.fieldLink RX4 16 "LeftAtFive$Pile" "height" "I" ∈ wsX4_clear := by decide +kernel
theorem iwX4_clear_X4 : ∀ w ∈ wsX40, w ∈ wsX4_clear := by decide +kernel
set_option maxHeartbeats 2000000 in
set_option maxRecDepth 100000 in
theorem c_X4_clear (l : Launch) (D : va_G) (q : Nat → ClassId) (pd : Nat → Nat) (ka : Nat → Nat → Nat) (n : Nat) (hn : Nat) : xC l yX4_clear wsX4_clear ({ frames := 0, cells := 0, slots := 0, locals := 0 }) D (TY q) [wp q pd ka n (nI hn)] [.ref (pd 0)] (xQv D (TY q) (fun (_ : Unit) => True) (fun _ => [wp q pd ka n (nI 0)])) 0 0 := by
  refine x_enter (cc := cX4_clear) (maxL := 1) (ret := none) (by decide) rfl (Nat.le_of_ble_eq_true rfl) ?_
  intro p e s m below meth c A ls H locs hfix hr hlocks hinit hM hl
  obtain ⟨hx, hb, hml, hown, hts⟩ := id hfix
  have hl : lv_has ls 1 [(0, .ref (pd 0))] := hl
  refine lv_aload_n hx hb dX4_clear_0 rfl (lv_at hl 0 rfl) ?_
  refine lv_iconst (v := nI 0) hx hb dX4_clear_1 (by decide) ?_
  refine x_put hx hb hts iwX4_clear_X4 tyX4 tyX4_ok nmX4 hown hM 0 0 rfl rfl rfl 1 (by decide) (hts _ lkX4_clear_16) (fun _ h => h) rfl (ty := .int) (by decide +kernel) rfl rfl (Nat.le_of_ble_eq_true rfl) [wp q pd ka n (nI 0)] rfl dX4_clear_2 (fun H locs hM => ?_)
  exact x_vret hx hb hr hlocks () hM trivial dX4_clear_5
