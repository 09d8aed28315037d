theorem dX2_size_0 : decode cX2_size 0 = .ok (.aload_n 0, 1) := by decide +kernel
theorem dX2_size_1 : decode cX2_size 1 = .ok (.getfield 19, 3) := by decide +kernel
theorem dX2_size_4 : decode cX2_size 4 = .ok (.ireturn, 1) := by decide +kernel
theorem lkX2_size_19 : Cond.fieldLink RX2 19 "LeftAtFive$Letters" "length" "I" ∈ wsX2_size := by decide +kernel
theorem iwX2_size_X2 : ∀ w ∈ wsX20, w ∈ wsX2_size := by decide +kernel
set_option maxHeartbeats 2000000 in
set_option maxRecDepth 100000 in
theorem c_X2_size (l : Launch) (D : va_G) (q : Nat → ClassId) (ld : Nat → Nat) (ν0 : Nat → Int32) (ν1 : Nat → Int32) (ν2 : Int32) (ν3 : Int32) : xC l yX2_size wsX2_size ({ frames := 0, cells := 0, slots := 0, locals := 0 }) D (TY q) [w2 q ld ν0 ν1 ν2 ν3] [.ref (ld 0)] (xQi D (TY q) (fun (r : Int32) (_ : Unit) => r = ν2) (fun _ => [w2 q ld ν0 ν1 ν2 ν3])) 0 0 := by
  refine x_enter (cc := cX2_size) (maxL := 1) (ret := (some .int)) (by decide) rfl (Nat.le_of_ble_eq_true rfl) ?_
  intro p e s m below meth c A ls H locs hfix hr hlocks hinit hM hl
  obtain ⟨hx, hb, hml, hown, hts⟩ := id hfix
  have hl : lv_has ls 1 [(0, .ref (ld 0))] := hl
  refine lv_aload_n hx hb dX2_size_0 rfl (lv_at hl 0 rfl) ?_
  refine x_get hx hb hts iwX2_size_X2 hown hM 0 0 rfl rfl rfl 2 (by decide) (hts _ lkX2_size_19) (fun _ h => h) rfl dX2_size_1 ?_
  exact x_iret hx hb hr hlocks () hM (show ν2 = ν2 from rfl) dX2_size_4
