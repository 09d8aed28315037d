theorem dX4_size_0 : decode cX4_size 0 = .ok (.aload_n 0, 1) := by decide +kernel
theorem dX4_size_1 : decode cX4_size 1 = .ok (.getfield 16, 3) := by decide +kernel
theorem dX4_size_4 : decode cX4_size 4 = .ok (.ireturn, 1) := by decide +kernel
theorem lkX4_size_16 : Cond.fieldLink RX4 16 "LeftAtFive$Pile" "height" "I" ∈ wsX4_size := by decide +kernel
theorem iwX4_size_X4 : ∀ w ∈ wsX40, w ∈ wsX4_size := by decide +kernel
set_option maxHeartbeats 2000000 in
set_option maxRecDepth 100000 in
theorem c_X4_size (l : Launch) (D : va_G) (q : Nat → ClassId) (pd : Nat → Nat) (ka : Nat → Nat → Nat) (n : Nat) (hn : Nat) : xC l yX4_size wsX4_size ({ frames := 0, cells := 0, slots := 0, locals := 0 }) D (TY q) [wp q pd ka n (nI hn)] [.ref (pd 0)] (xQi D (TY q) (fun (r : Int32) (_ : Unit) => r = nI hn) (fun _ => [wp q pd ka n (nI hn)])) 0 0 := by
  refine x_enter (cc := cX4_size) (maxL := 1) (ret := (some .int)) (by decide) rfl (Nat.le_of_ble_eq_true rfl) ?_
  intro p e s m below meth c A ls H locs hfix hr hlocks hinit hM hl
  obtain ⟨hx, hb, hml, hown, hts⟩ := id hfix
  have hl : lv_has ls 1 [(0, .ref (pd 0))] := hl
  refine lv_aload_n hx hb dX4_size_0 rfl (lv_at hl 0 rfl) ?_
  refine x_get hx hb hts iwX4_size_X4 hown hM 0 0 rfl rfl rfl 1 (by decide) (hts _ lkX4_size_16) (fun _ h => h) rfl dX4_size_1 ?_
  exact x_iret hx hb hr hlocks () hM (show nI hn = nI hn from rfl) dX4_size_4
