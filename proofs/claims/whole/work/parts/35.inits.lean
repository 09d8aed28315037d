theorem dX1_init_0 : decode cX1_init 0 = .ok (.aload_n 0, 1) := by decide +kernel
theorem dX1_init_1 : decode cX1_init 1 = .ok (.invokespecial 3, 3) := by decide +kernel
theorem dX1_init_4 : decode cX1_init 4 = .ok (.aload_n 0, 1) := by decide +kernel
theorem dX1_init_5 : decode cX1_init 5 = .ok (.bipush 25, 2) := by decide +kernel
theorem dX1_init_7 : decode cX1_init 7 = .ok (.newarray .int, 2) := by decide +kernel
theorem dX1_init_9 : decode cX1_init 9 = .ok (.putfield 9, 3) := by decide +kernel
theorem dX1_init_12 : decode cX1_init 12 = .ok (.aload_n 0, 1) := by decide +kernel
theorem dX1_init_13 : decode cX1_init 13 = .ok (.bipush 8, 2) := by decide +kernel
theorem dX1_init_15 : decode cX1_init 15 = .ok (.newarray .int, 2) := by decide +kernel
theorem dX1_init_17 : decode cX1_init 17 = .ok (.putfield 15, 3) := by decide +kernel
theorem dX1_init_20 : decode cX1_init 20 = .ok (.aload_n 0, 1) := by decide +kernel
theorem dX1_init_21 : decode cX1_init 21 = .ok (.bipush 8, 2) := by decide +kernel
theorem dX1_init_23 : decode cX1_init 23 = .ok (.newarray .int, 2) := by decide +kernel
theorem dX1_init_25 : decode cX1_init 25 = .ok (.putfield 18, 3) := by decide +kernel
theorem dX1_init_28 : decode cX1_init 28 = .ok (.aload_n 0, 1) := by decide +kernel
theorem dX1_init_29 : decode cX1_init 29 = .ok (.bipush 24, 2) := by decide +kernel
theorem dX1_init_31 : decode cX1_init 31 = .ok (.newarray .int, 2) := by decide +kernel
theorem dX1_init_33 : decode cX1_init 33 = .ok (.putfield 21, 3) := by decide +kernel
theorem dX1_init_36 : decode cX1_init 36 = .ok (.return_, 1) := by decide +kernel
theorem lkX1_init_9 : Cond.fieldLink RX1 9 "LeftAtFive$Kitchens" "pieces" "[I" ∈ wsX1_init := by decide +kernel
theorem lkX1_init_15 : Cond.fieldLink RX1 15 "LeftAtFive$Kitchens" "eaten" "[I" ∈ wsX1_init := by decide +kernel
theorem lkX1_init_18 : Cond.fieldLink RX1 18 "LeftAtFive$Kitchens" "hungry" "[I" ∈ wsX1_init := by decide +kernel
theorem lkX1_init_21 : Cond.fieldLink RX1 21 "LeftAtFive$Kitchens" "sent" "[I" ∈ wsX1_init := by decide +kernel
theorem iwX1_init_X1 : ∀ w ∈ wsX10, w ∈ wsX1_init := by decide +kernel
set_option maxHeartbeats 2000000 in
set_option maxRecDepth 100000 in
theorem c_X1_init (l : Launch) (D : va_G) (q : Nat → ClassId) (a0 : Nat) : xC l yX1_init wsX1_init ({ frames := 1, cells := 4, slots := 65, locals := 40 }) D (TY q) [[(a0, .inr (1, [.int 0, .int 0, .null, .null, .null, .null]))]] [.ref a0] (xQv D (TY q) (fun (ad : Nat → Nat) => ad 0 = a0) (fun ad => [wk q ad xK0])) 4 65 := by
  refine x_enter (cc := cX1_init) (maxL := 1) (ret := none) (by decide) rfl (Nat.le_of_ble_eq_true rfl) ?_
  intro p e s m below meth c A ls H locs hfix hr hlocks hinit hM hl
  obtain ⟨hx, hb, hml, hown, hts⟩ := id hfix
  have hl : lv_has ls 1 [(0, .ref a0)] := hl
  refine lv_aload_n hx hb dX1_init_0 rfl (lv_at hl 0 rfl) ?_
  refine W.objInit hx hb hown (hts (.methodLink RX1 3 objectInit) (by decide +kernel)) (hts (.instanceMethod objectInit) (by decide +kernel)) (hts (.code objectInit ⟨#[0xb1]⟩ 1 none) (by decide +kernel)) rfl (by rw [hml]; exact hl.1) rfl dX1_init_1 (Nat.le_of_ble_eq_true rfl) (Nat.le_of_ble_eq_true rfl) ?_
  refine W.eq (g2 := F0 m 4 ls []) rfl ?_
  refine lv_aload_n hx hb dX1_init_4 rfl (lv_at hl 0 rfl) ?_
  refine lv_bipush (v := nI 25) hx hb dX1_init_5 (by decide) ?_
  refine x_newi hx hb (hts (.arrayClass .int) (by decide +kernel)) hM 0 rfl (N := 25) (by decide) (Nat.le_of_ble_eq_true rfl) (Nat.le_of_ble_eq_true rfl) dX1_init_7 (fun a3 H hM => ?_)
  have hM : xM D (TY q) [[(a0, .inr (1, [.int 0, .int 0, .null, .null, .null, .null]))], [(a3, .inl (q 0, 25, .inl (fun _ => nI 0)))]] A s.heap s H locs := hM
  refine x_putF hx hb hts iwX1_init_X1 tyX1 tyX1_ok nmX1 hown hM 0 0 rfl rfl rfl 2 (by decide) (hts _ lkX1_init_9) (fun _ h => h) rfl hinit rfl (ty := .array .int) (by decide +kernel) rfl rfl (Nat.le_of_ble_eq_true rfl) [[(a0, .inr (1, [.int 0, .int 0, .ref a3, .null, .null, .null]))], [(a3, .inl (q 0, 25, .inl (fun _ => nI 0)))]] rfl dX1_init_9 (fun H locs hM => ?_)
  refine lv_aload_n hx hb dX1_init_12 rfl (lv_at hl 0 rfl) ?_
  refine lv_bipush (v := nI 8) hx hb dX1_init_13 (by decide) ?_
  refine x_newi hx hb (hts (.arrayClass .int) (by decide +kernel)) hM 0 rfl (N := 8) (by decide) (Nat.le_of_ble_eq_true rfl) (Nat.le_of_ble_eq_true rfl) dX1_init_15 (fun a4 H hM => ?_)
  have hM : xM D (TY q) [[(a0, .inr (1, [.int 0, .int 0, .ref a3, .null, .null, .null]))], [(a3, .inl (q 0, 25, .inl (fun _ => nI 0)))], [(a4, .inl (q 0, 8, .inl (fun _ => nI 0)))]] A s.heap s H locs := hM
  refine x_putF hx hb hts iwX1_init_X1 tyX1 tyX1_ok nmX1 hown hM 0 0 rfl rfl rfl 3 (by decide) (hts _ lkX1_init_15) (fun _ h => h) rfl hinit rfl (ty := .array .int) (by decide +kernel) rfl rfl (Nat.le_of_ble_eq_true rfl) [[(a0, .inr (1, [.int 0, .int 0, .ref a3, .ref a4, .null, .null]))], [(a3, .inl (q 0, 25, .inl (fun _ => nI 0)))], [(a4, .inl (q 0, 8, .inl (fun _ => nI 0)))]] rfl dX1_init_17 (fun H locs hM => ?_)
  refine lv_aload_n hx hb dX1_init_20 rfl (lv_at hl 0 rfl) ?_
  refine lv_bipush (v := nI 8) hx hb dX1_init_21 (by decide) ?_
  refine x_newi hx hb (hts (.arrayClass .int) (by decide +kernel)) hM 0 rfl (N := 8) (by decide) (Nat.le_of_ble_eq_true rfl) (Nat.le_of_ble_eq_true rfl) dX1_init_23 (fun a5 H hM => ?_)
  have hM : xM D (TY q) [[(a0, .inr (1, [.int 0, .int 0, .ref a3, .ref a4, .null, .null]))], [(a3, .inl (q 0, 25, .inl (fun _ => nI 0)))], [(a4, .inl (q 0, 8, .inl (fun _ => nI 0)))], [(a5, .inl (q 0, 8, .inl (fun _ => nI 0)))]] A s.heap s H locs := hM
  refine x_putF hx hb hts iwX1_init_X1 tyX1 tyX1_ok nmX1 hown hM 0 0 rfl rfl rfl 4 (by decide) (hts _ lkX1_init_18) (fun _ h => h) rfl hinit rfl (ty := .array .int) (by decide +kernel) rfl rfl (Nat.le_of_ble_eq_true rfl) [[(a0, .inr (1, [.int 0, .int 0, .ref a3, .ref a4, .ref a5, .null]))], [(a3, .inl (q 0, 25, .inl (fun _ => nI 0)))], [(a4, .inl (q 0, 8, .inl (fun _ => nI 0)))], [(a5, .inl (q 0, 8, .inl (fun _ => nI 0)))]] rfl dX1_init_25 (fun H locs hM => ?_)
  refine lv_aload_n hx hb dX1_init_28 rfl (lv_at hl 0 rfl) ?_
  refine lv_bipush (v := nI 24) hx hb dX1_init_29 (by decide) ?_
  refine x_newi hx hb (hts (.arrayClass .int) (by decide +kernel)) hM 0 rfl (N := 24) (by decide) (Nat.le_of_ble_eq_true rfl) (Nat.le_of_ble_eq_true rfl) dX1_init_31 (fun a6 H hM => ?_)
  have hM : xM D (TY q) [[(a0, .inr (1, [.int 0, .int 0, .ref a3, .ref a4, .ref a5, .null]))], [(a3, .inl (q 0, 25, .inl (fun _ => nI 0)))], [(a4, .inl (q 0, 8, .inl (fun _ => nI 0)))], [(a5, .inl (q 0, 8, .inl (fun _ => nI 0)))], [(a6, .inl (q 0, 24, .inl (fun _ => nI 0)))]] A s.heap s H locs := hM
  refine x_putF hx hb hts iwX1_init_X1 tyX1 tyX1_ok nmX1 hown hM 0 0 rfl rfl rfl 5 (by decide) (hts _ lkX1_init_21) (fun _ h => h) rfl hinit rfl (ty := .array .int) (by decide +kernel) rfl rfl (Nat.le_of_ble_eq_true rfl) [[(a0, .inr (1, [.int 0, .int 0, .ref a3, .ref a4, .ref a5, .ref a6]))], [(a3, .inl (q 0, 25, .inl (fun _ => nI 0)))], [(a4, .inl (q 0, 8, .inl (fun _ => nI 0)))], [(a5, .inl (q 0, 8, .inl (fun _ => nI 0)))], [(a6, .inl (q 0, 24, .inl (fun _ => nI 0)))]] rfl dX1_init_33 (fun H locs hM => ?_)
  have hM : xM D (TY q) [w1 q (xaL [a0, 0, 0, a3, a4, a5, a6]) 0 0 (fun _ => nI 0) (fun _ => nI 0) (fun _ => nI 0) (fun _ => nI 0)] A s.heap s H locs := hM.re rfl
  have hM : xM D (TY q) [wk q (xaL [a0, 0, 0, a3, a4, a5, a6]) xK0] A s.heap s H locs := Eq.mp (congrArg (fun z9 => xM D (TY q) [z9] A s.heap s H locs) (wk_new q (xaL [a0, 0, 0, a3, a4, a5, a6]))) hM
  refine W.cs (cells' := 4) (slots' := 65) rfl rfl ?_
  exact x_vret hx hb hr hlocks (xaL [a0, 0, 0, a3, a4, a5, a6]) hM rfl dX1_init_36

theorem dX2_init_0 : decode cX2_init 0 = .ok (.aload_n 0, 1) := by decide +kernel
theorem dX2_init_1 : decode cX2_init 1 = .ok (.invokespecial 3, 3) := by decide +kernel
theorem dX2_init_4 : decode cX2_init 4 = .ok (.aload_n 0, 1) := by decide +kernel
theorem dX2_init_5 : decode cX2_init 5 = .ok (.sipush 200, 3) := by decide +kernel
theorem dX2_init_8 : decode cX2_init 8 = .ok (.newarray .char, 2) := by decide +kernel
theorem dX2_init_10 : decode cX2_init 10 = .ok (.putfield 9, 3) := by decide +kernel
theorem dX2_init_13 : decode cX2_init 13 = .ok (.aload_n 0, 1) := by decide +kernel
theorem dX2_init_14 : decode cX2_init 14 = .ok (.iconst 3, 1) := by decide +kernel
theorem dX2_init_15 : decode cX2_init 15 = .ok (.newarray .int, 2) := by decide +kernel
theorem dX2_init_17 : decode cX2_init 17 = .ok (.putfield 15, 3) := by decide +kernel
theorem dX2_init_20 : decode cX2_init 20 = .ok (.return_, 1) := by decide +kernel
theorem lkX2_init_9 : Cond.fieldLink RX2 9 "LeftAtFive$Letters" "letters" "[C" ∈ wsX2_init := by decide +kernel
theorem lkX2_init_15 : Cond.fieldLink RX2 15 "LeftAtFive$Letters" "numbers" "[I" ∈ wsX2_init := by decide +kernel
theorem iwX2_init_X2 : ∀ w ∈ wsX20, w ∈ wsX2_init := by decide +kernel
set_option maxHeartbeats 2000000 in
set_option maxRecDepth 100000 in
theorem c_X2_init (l : Launch) (D : va_G) (q : Nat → ClassId) (a0 : Nat) : xC l yX2_init wsX2_init ({ frames := 1, cells := 2, slots := 203, locals := 40 }) D (TY q) [[(a0, .inr (2, [.null, .null, .int 0, .int 0]))]] [.ref a0] (xQv D (TY q) (fun (ad : Nat → Nat) => ad 0 = a0) (fun ad => [w2 q ad (fun _ => nI 0) (fun _ => nI 0) 0 0])) 2 203 := by
  refine x_enter (cc := cX2_init) (maxL := 1) (ret := none) (by decide) rfl (Nat.le_of_ble_eq_true rfl) ?_
  intro p e s m below meth c A ls H locs hfix hr hlocks hinit hM hl
  obtain ⟨hx, hb, hml, hown, hts⟩ := id hfix
  have hl : lv_has ls 1 [(0, .ref a0)] := hl
  refine lv_aload_n hx hb dX2_init_0 rfl (lv_at hl 0 rfl) ?_
  refine W.objInit hx hb hown (hts (.methodLink RX2 3 objectInit) (by decide +kernel)) (hts (.instanceMethod objectInit) (by decide +kernel)) (hts (.code objectInit ⟨#[0xb1]⟩ 1 none) (by decide +kernel)) rfl (by rw [hml]; exact hl.1) rfl dX2_init_1 (Nat.le_of_ble_eq_true rfl) (Nat.le_of_ble_eq_true rfl) ?_
  refine W.eq (g2 := F0 m 4 ls []) rfl ?_
  refine lv_aload_n hx hb dX2_init_4 rfl (lv_at hl 0 rfl) ?_
  refine lv_sipush (v := nI 200) hx hb dX2_init_5 (by decide) ?_
  refine x_newc hx hb (hts (.arrayClass .char) (by decide +kernel)) hM 1 rfl (N := 200) (by decide) (Nat.le_of_ble_eq_true rfl) (Nat.le_of_ble_eq_true rfl) dX2_init_8 (fun a1 H hM => ?_)
  have hM : xM D (TY q) [[(a0, .inr (2, [.null, .null, .int 0, .int 0]))], [(a1, .inl (q 1, 200, .inl (fun _ => nI 0)))]] A s.heap s H locs := hM
  refine x_putF hx hb hts iwX2_init_X2 tyX2 tyX2_ok nmX2 hown hM 0 0 rfl rfl rfl 0 (by decide) (hts _ lkX2_init_9) (fun _ h => h) rfl hinit rfl (ty := .array .char) (by decide +kernel) rfl rfl (Nat.le_of_ble_eq_true rfl) [[(a0, .inr (2, [.ref a1, .null, .int 0, .int 0]))], [(a1, .inl (q 1, 200, .inl (fun _ => nI 0)))]] rfl dX2_init_10 (fun H locs hM => ?_)
  refine lv_aload_n hx hb dX2_init_13 rfl (lv_at hl 0 rfl) ?_
  refine lv_iconst (v := nI 3) hx hb dX2_init_14 (by decide) ?_
  refine x_newi hx hb (hts (.arrayClass .int) (by decide +kernel)) hM 0 rfl (N := 3) (by decide) (Nat.le_of_ble_eq_true rfl) (Nat.le_of_ble_eq_true rfl) dX2_init_15 (fun a2 H hM => ?_)
  have hM : xM D (TY q) [[(a0, .inr (2, [.ref a1, .null, .int 0, .int 0]))], [(a1, .inl (q 1, 200, .inl (fun _ => nI 0)))], [(a2, .inl (q 0, 3, .inl (fun _ => nI 0)))]] A s.heap s H locs := hM
  refine x_putF hx hb hts iwX2_init_X2 tyX2 tyX2_ok nmX2 hown hM 0 0 rfl rfl rfl 1 (by decide) (hts _ lkX2_init_15) (fun _ h => h) rfl hinit rfl (ty := .array .int) (by decide +kernel) rfl rfl (Nat.le_of_ble_eq_true rfl) [[(a0, .inr (2, [.ref a1, .ref a2, .int 0, .int 0]))], [(a1, .inl (q 1, 200, .inl (fun _ => nI 0)))], [(a2, .inl (q 0, 3, .inl (fun _ => nI 0)))]] rfl dX2_init_17 (fun H locs hM => ?_)
  have hM : xM D (TY q) [w2 q (xaL [a0, a1, a2, 0, 0]) (fun _ => nI 0) (fun _ => nI 0) 0 0] A s.heap s H locs := hM.re rfl
  refine W.cs (cells' := 2) (slots' := 203) rfl rfl ?_
  exact x_vret hx hb hr hlocks (xaL [a0, a1, a2, 0, 0]) hM rfl dX2_init_20

theorem dX3_init_0 : decode cX3_init 0 = .ok (.aload_n 0, 1) := by decide +kernel
theorem dX3_init_1 : decode cX3_init 1 = .ok (.invokespecial 3, 3) := by decide +kernel
theorem dX3_init_4 : decode cX3_init 4 = .ok (.aload_n 0, 1) := by decide +kernel
theorem dX3_init_5 : decode cX3_init 5 = .ok (.bipush 62, 2) := by decide +kernel
theorem dX3_init_7 : decode cX3_init 7 = .ok (.newarray .int, 2) := by decide +kernel
theorem dX3_init_9 : decode cX3_init 9 = .ok (.putfield 9, 3) := by decide +kernel
theorem dX3_init_12 : decode cX3_init 12 = .ok (.aload_n 0, 1) := by decide +kernel
theorem dX3_init_13 : decode cX3_init 13 = .ok (.sipush 480, 3) := by decide +kernel
theorem dX3_init_16 : decode cX3_init 16 = .ok (.newarray .int, 2) := by decide +kernel
theorem dX3_init_18 : decode cX3_init 18 = .ok (.putfield 15, 3) := by decide +kernel
theorem dX3_init_21 : decode cX3_init 21 = .ok (.return_, 1) := by decide +kernel
theorem lkX3_init_9 : Cond.fieldLink RX3 9 "LeftAtFive$Meals" "begin" "[I" ∈ wsX3_init := by decide +kernel
theorem lkX3_init_15 : Cond.fieldLink RX3 15 "LeftAtFive$Meals" "who" "[I" ∈ wsX3_init := by decide +kernel
theorem iwX3_init_X3 : ∀ w ∈ wsX30, w ∈ wsX3_init := by decide +kernel
set_option maxHeartbeats 2000000 in
set_option maxRecDepth 100000 in
theorem c_X3_init (l : Launch) (D : va_G) (q : Nat → ClassId) (a0 : Nat) : xC l yX3_init wsX3_init ({ frames := 1, cells := 2, slots := 542, locals := 40 }) D (TY q) [[(a0, .inr (3, [.null, .null, .int 0]))]] [.ref a0] (xQv D (TY q) (fun (ad : Nat → Nat) => ad 0 = a0) (fun ad => [w3 q ad (fun _ => nI 0) (fun _ => nI 0) 0])) 2 542 := by
  refine x_enter (cc := cX3_init) (maxL := 1) (ret := none) (by decide) rfl (Nat.le_of_ble_eq_true rfl) ?_
  intro p e s m below meth c A ls H locs hfix hr hlocks hinit hM hl
  obtain ⟨hx, hb, hml, hown, hts⟩ := id hfix
  have hl : lv_has ls 1 [(0, .ref a0)] := hl
  refine lv_aload_n hx hb dX3_init_0 rfl (lv_at hl 0 rfl) ?_
  refine W.objInit hx hb hown (hts (.methodLink RX3 3 objectInit) (by decide +kernel)) (hts (.instanceMethod objectInit) (by decide +kernel)) (hts (.code objectInit ⟨#[0xb1]⟩ 1 none) (by decide +kernel)) rfl (by rw [hml]; exact hl.1) rfl dX3_init_1 (Nat.le_of_ble_eq_true rfl) (Nat.le_of_ble_eq_true rfl) ?_
  refine W.eq (g2 := F0 m 4 ls []) rfl ?_
  refine lv_aload_n hx hb dX3_init_4 rfl (lv_at hl 0 rfl) ?_
  refine lv_bipush (v := nI 62) hx hb dX3_init_5 (by decide) ?_
  refine x_newi hx hb (hts (.arrayClass .int) (by decide +kernel)) hM 0 rfl (N := 62) (by decide) (Nat.le_of_ble_eq_true rfl) (Nat.le_of_ble_eq_true rfl) dX3_init_7 (fun a1 H hM => ?_)
  have hM : xM D (TY q) [[(a0, .inr (3, [.null, .null, .int 0]))], [(a1, .inl (q 0, 62, .inl (fun _ => nI 0)))]] A s.heap s H locs := hM
  refine x_putF hx hb hts iwX3_init_X3 tyX3 tyX3_ok nmX3 hown hM 0 0 rfl rfl rfl 0 (by decide) (hts _ lkX3_init_9) (fun _ h => h) rfl hinit rfl (ty := .array .int) (by decide +kernel) rfl rfl (Nat.le_of_ble_eq_true rfl) [[(a0, .inr (3, [.ref a1, .null, .int 0]))], [(a1, .inl (q 0, 62, .inl (fun _ => nI 0)))]] rfl dX3_init_9 (fun H locs hM => ?_)
  refine lv_aload_n hx hb dX3_init_12 rfl (lv_at hl 0 rfl) ?_
  refine lv_sipush (v := nI 480) hx hb dX3_init_13 (by decide) ?_
  refine x_newi hx hb (hts (.arrayClass .int) (by decide +kernel)) hM 0 rfl (N := 480) (by decide) (Nat.le_of_ble_eq_true rfl) (Nat.le_of_ble_eq_true rfl) dX3_init_16 (fun a2 H hM => ?_)
  have hM : xM D (TY q) [[(a0, .inr (3, [.ref a1, .null, .int 0]))], [(a1, .inl (q 0, 62, .inl (fun _ => nI 0)))], [(a2, .inl (q 0, 480, .inl (fun _ => nI 0)))]] A s.heap s H locs := hM
  refine x_putF hx hb hts iwX3_init_X3 tyX3 tyX3_ok nmX3 hown hM 0 0 rfl rfl rfl 1 (by decide) (hts _ lkX3_init_15) (fun _ h => h) rfl hinit rfl (ty := .array .int) (by decide +kernel) rfl rfl (Nat.le_of_ble_eq_true rfl) [[(a0, .inr (3, [.ref a1, .ref a2, .int 0]))], [(a1, .inl (q 0, 62, .inl (fun _ => nI 0)))], [(a2, .inl (q 0, 480, .inl (fun _ => nI 0)))]] rfl dX3_init_18 (fun H locs hM => ?_)
  have hM : xM D (TY q) [w3 q (xaL [a0, a1, a2, 0]) (fun _ => nI 0) (fun _ => nI 0) 0] A s.heap s H locs := hM.re rfl
  refine W.cs (cells' := 2) (slots' := 542) rfl rfl ?_
  exact x_vret hx hb hr hlocks (xaL [a0, a1, a2, 0]) hM rfl dX3_init_21

theorem dX6_init_0 : decode cX6_init 0 = .ok (.aload_n 0, 1) := by decide +kernel
theorem dX6_init_1 : decode cX6_init 1 = .ok (.invokespecial 3, 3) := by decide +kernel
theorem dX6_init_4 : decode cX6_init 4 = .ok (.aload_n 0, 1) := by decide +kernel
theorem dX6_init_5 : decode cX6_init 5 = .ok (.iconst 5, 1) := by decide +kernel
theorem dX6_init_6 : decode cX6_init 6 = .ok (.newarray .int, 2) := by decide +kernel
theorem dX6_init_8 : decode cX6_init 8 = .ok (.putfield 9, 3) := by decide +kernel
theorem dX6_init_11 : decode cX6_init 11 = .ok (.aload_n 0, 1) := by decide +kernel
theorem dX6_init_12 : decode cX6_init 12 = .ok (.iconst 3, 1) := by decide +kernel
theorem dX6_init_13 : decode cX6_init 13 = .ok (.newarray .int, 2) := by decide +kernel
theorem dX6_init_15 : decode cX6_init 15 = .ok (.putfield 15, 3) := by decide +kernel
theorem dX6_init_18 : decode cX6_init 18 = .ok (.aload_n 0, 1) := by decide +kernel
theorem dX6_init_19 : decode cX6_init 19 = .ok (.sipush 1000, 3) := by decide +kernel
theorem dX6_init_22 : decode cX6_init 22 = .ok (.newarray .boolean, 2) := by decide +kernel
theorem dX6_init_24 : decode cX6_init 24 = .ok (.putfield 18, 3) := by decide +kernel
theorem dX6_init_27 : decode cX6_init 27 = .ok (.return_, 1) := by decide +kernel
theorem lkX6_init_9 : Cond.fieldLink RX6 9 "LeftAtFive$Shops" "stock" "[I" ∈ wsX6_init := by decide +kernel
theorem lkX6_init_15 : Cond.fieldLink RX6 15 "LeftAtFive$Shops" "made" "[I" ∈ wsX6_init := by decide +kernel
theorem lkX6_init_18 : Cond.fieldLink RX6 18 "LeftAtFive$Shops" "wins" "[Z" ∈ wsX6_init := by decide +kernel
theorem iwX6_init_X6 : ∀ w ∈ wsX60, w ∈ wsX6_init := by decide +kernel
set_option maxHeartbeats 2000000 in
set_option maxRecDepth 100000 in
theorem c_X6_init (l : Launch) (D : va_G) (q : Nat → ClassId) (a0 : Nat) : xC l yX6_init wsX6_init ({ frames := 1, cells := 3, slots := 1008, locals := 40 }) D (TY q) [[(a0, .inr (5, [.int 0, .long 0, .int 0, .null, .null, .null]))]] [.ref a0] (xQv D (TY q) (fun (ad : Nat → Nat) => ad 0 = a0) (fun ad => [w6 q ad 0 0 0 (fun _ => nI 0) (fun _ => nI 0) (fun _ => nI 0)])) 3 1008 := by
  refine x_enter (cc := cX6_init) (maxL := 1) (ret := none) (by decide) rfl (Nat.le_of_ble_eq_true rfl) ?_
  intro p e s m below meth c A ls H locs hfix hr hlocks hinit hM hl
  obtain ⟨hx, hb, hml, hown, hts⟩ := id hfix
  have hl : lv_has ls 1 [(0, .ref a0)] := hl
  refine lv_aload_n hx hb dX6_init_0 rfl (lv_at hl 0 rfl) ?_
  refine W.objInit hx hb hown (hts (.methodLink RX6 3 objectInit) (by decide +kernel)) (hts (.instanceMethod objectInit) (by decide +kernel)) (hts (.code objectInit ⟨#[0xb1]⟩ 1 none) (by decide +kernel)) rfl (by rw [hml]; exact hl.1) rfl dX6_init_1 (Nat.le_of_ble_eq_true rfl) (Nat.le_of_ble_eq_true rfl) ?_
  refine W.eq (g2 := F0 m 4 ls []) rfl ?_
  refine lv_aload_n hx hb dX6_init_4 rfl (lv_at hl 0 rfl) ?_
  refine lv_iconst (v := nI 5) hx hb dX6_init_5 (by decide) ?_
  refine x_newi hx hb (hts (.arrayClass .int) (by decide +kernel)) hM 0 rfl (N := 5) (by decide) (Nat.le_of_ble_eq_true rfl) (Nat.le_of_ble_eq_true rfl) dX6_init_6 (fun a4 H hM => ?_)
  have hM : xM D (TY q) [[(a0, .inr (5, [.int 0, .long 0, .int 0, .null, .null, .null]))], [(a4, .inl (q 0, 5, .inl (fun _ => nI 0)))]] A s.heap s H locs := hM
  refine x_putF hx hb hts iwX6_init_X6 tyX6 tyX6_ok nmX6 hown hM 0 0 rfl rfl rfl 3 (by decide) (hts _ lkX6_init_9) (fun _ h => h) rfl hinit rfl (ty := .array .int) (by decide +kernel) rfl rfl (Nat.le_of_ble_eq_true rfl) [[(a0, .inr (5, [.int 0, .long 0, .int 0, .ref a4, .null, .null]))], [(a4, .inl (q 0, 5, .inl (fun _ => nI 0)))]] rfl dX6_init_8 (fun H locs hM => ?_)
  refine lv_aload_n hx hb dX6_init_11 rfl (lv_at hl 0 rfl) ?_
  refine lv_iconst (v := nI 3) hx hb dX6_init_12 (by decide) ?_
  refine x_newi hx hb (hts (.arrayClass .int) (by decide +kernel)) hM 0 rfl (N := 3) (by decide) (Nat.le_of_ble_eq_true rfl) (Nat.le_of_ble_eq_true rfl) dX6_init_13 (fun a5 H hM => ?_)
  have hM : xM D (TY q) [[(a0, .inr (5, [.int 0, .long 0, .int 0, .ref a4, .null, .null]))], [(a4, .inl (q 0, 5, .inl (fun _ => nI 0)))], [(a5, .inl (q 0, 3, .inl (fun _ => nI 0)))]] A s.heap s H locs := hM
  refine x_putF hx hb hts iwX6_init_X6 tyX6 tyX6_ok nmX6 hown hM 0 0 rfl rfl rfl 4 (by decide) (hts _ lkX6_init_15) (fun _ h => h) rfl hinit rfl (ty := .array .int) (by decide +kernel) rfl rfl (Nat.le_of_ble_eq_true rfl) [[(a0, .inr (5, [.int 0, .long 0, .int 0, .ref a4, .ref a5, .null]))], [(a4, .inl (q 0, 5, .inl (fun _ => nI 0)))], [(a5, .inl (q 0, 3, .inl (fun _ => nI 0)))]] rfl dX6_init_15 (fun H locs hM => ?_)
  refine lv_aload_n hx hb dX6_init_18 rfl (lv_at hl 0 rfl) ?_
  refine lv_sipush (v := nI 1000) hx hb dX6_init_19 (by decide) ?_
  refine x_newz hx hb (hts (.arrayClass .boolean) (by decide +kernel)) hM 2 rfl (N := 1000) (by decide) (Nat.le_of_ble_eq_true rfl) (Nat.le_of_ble_eq_true rfl) dX6_init_22 (fun a6 H hM => ?_)
  have hM : xM D (TY q) [[(a0, .inr (5, [.int 0, .long 0, .int 0, .ref a4, .ref a5, .null]))], [(a4, .inl (q 0, 5, .inl (fun _ => nI 0)))], [(a5, .inl (q 0, 3, .inl (fun _ => nI 0)))], [(a6, .inl (q 2, 1000, .inl (fun _ => nI 0)))]] A s.heap s H locs := hM
  refine x_putF hx hb hts iwX6_init_X6 tyX6 tyX6_ok nmX6 hown hM 0 0 rfl rfl rfl 5 (by decide) (hts _ lkX6_init_18) (fun _ h => h) rfl hinit rfl (ty := .array .boolean) (by decide +kernel) rfl rfl (Nat.le_of_ble_eq_true rfl) [[(a0, .inr (5, [.int 0, .long 0, .int 0, .ref a4, .ref a5, .ref a6]))], [(a4, .inl (q 0, 5, .inl (fun _ => nI 0)))], [(a5, .inl (q 0, 3, .inl (fun _ => nI 0)))], [(a6, .inl (q 2, 1000, .inl (fun _ => nI 0)))]] rfl dX6_init_24 (fun H locs hM => ?_)
  have hM : xM D (TY q) [w6 q (xaL [a0, 0, 0, 0, a4, a5, a6]) 0 0 0 (fun _ => nI 0) (fun _ => nI 0) (fun _ => nI 0)] A s.heap s H locs := hM.re rfl
  refine W.cs (cells' := 3) (slots' := 1008) rfl rfl ?_
  exact x_vret hx hb hr hlocks (xaL [a0, 0, 0, 0, a4, a5, a6]) hM rfl dX6_init_27

theorem dX7_init_0 : decode cX7_init 0 = .ok (.aload_n 0, 1) := by decide +kernel
theorem dX7_init_1 : decode cX7_init 1 = .ok (.invokespecial 3, 3) := by decide +kernel
theorem dX7_init_4 : decode cX7_init 4 = .ok (.aload_n 0, 1) := by decide +kernel
theorem dX7_init_5 : decode cX7_init 5 = .ok (.iconst 5, 1) := by decide +kernel
theorem dX7_init_6 : decode cX7_init 6 = .ok (.newarray .int, 2) := by decide +kernel
theorem dX7_init_8 : decode cX7_init 8 = .ok (.putfield 9, 3) := by decide +kernel
theorem dX7_init_11 : decode cX7_init 11 = .ok (.aload_n 0, 1) := by decide +kernel
theorem dX7_init_12 : decode cX7_init 12 = .ok (.iconst 5, 1) := by decide +kernel
theorem dX7_init_13 : decode cX7_init 13 = .ok (.newarray .int, 2) := by decide +kernel
theorem dX7_init_15 : decode cX7_init 15 = .ok (.putfield 15, 3) := by decide +kernel
theorem dX7_init_18 : decode cX7_init 18 = .ok (.aload_n 0, 1) := by decide +kernel
theorem dX7_init_19 : decode cX7_init 19 = .ok (.iconst 5, 1) := by decide +kernel
theorem dX7_init_20 : decode cX7_init 20 = .ok (.newarray .int, 2) := by decide +kernel
theorem dX7_init_22 : decode cX7_init 22 = .ok (.putfield 18, 3) := by decide +kernel
theorem dX7_init_25 : decode cX7_init 25 = .ok (.aload_n 0, 1) := by decide +kernel
theorem dX7_init_26 : decode cX7_init 26 = .ok (.bipush 25, 2) := by decide +kernel
theorem dX7_init_28 : decode cX7_init 28 = .ok (.newarray .int, 2) := by decide +kernel
theorem dX7_init_30 : decode cX7_init 30 = .ok (.putfield 21, 3) := by decide +kernel
theorem dX7_init_33 : decode cX7_init 33 = .ok (.aload_n 0, 1) := by decide +kernel
theorem dX7_init_34 : decode cX7_init 34 = .ok (.bipush 8, 2) := by decide +kernel
theorem dX7_init_36 : decode cX7_init 36 = .ok (.newarray .int, 2) := by decide +kernel
theorem dX7_init_38 : decode cX7_init 38 = .ok (.putfield 24, 3) := by decide +kernel
theorem dX7_init_41 : decode cX7_init 41 = .ok (.aload_n 0, 1) := by decide +kernel
theorem dX7_init_42 : decode cX7_init 42 = .ok (.bipush 8, 2) := by decide +kernel
theorem dX7_init_44 : decode cX7_init 44 = .ok (.newarray .int, 2) := by decide +kernel
theorem dX7_init_46 : decode cX7_init 46 = .ok (.putfield 27, 3) := by decide +kernel
theorem dX7_init_49 : decode cX7_init 49 = .ok (.aload_n 0, 1) := by decide +kernel
theorem dX7_init_50 : decode cX7_init 50 = .ok (.iconst 5, 1) := by decide +kernel
theorem dX7_init_51 : decode cX7_init 51 = .ok (.newarray .int, 2) := by decide +kernel
theorem dX7_init_53 : decode cX7_init 53 = .ok (.putfield 30, 3) := by decide +kernel
theorem dX7_init_56 : decode cX7_init 56 = .ok (.aload_n 0, 1) := by decide +kernel
theorem dX7_init_57 : decode cX7_init 57 = .ok (.iconst 5, 1) := by decide +kernel
theorem dX7_init_58 : decode cX7_init 58 = .ok (.newarray .int, 2) := by decide +kernel
theorem dX7_init_60 : decode cX7_init 60 = .ok (.putfield 33, 3) := by decide +kernel
theorem dX7_init_63 : decode cX7_init 63 = .ok (.aload_n 0, 1) := by decide +kernel
theorem dX7_init_64 : decode cX7_init 64 = .ok (.iconst 3, 1) := by decide +kernel
theorem dX7_init_65 : decode cX7_init 65 = .ok (.newarray .int, 2) := by decide +kernel
theorem dX7_init_67 : decode cX7_init 67 = .ok (.putfield 36, 3) := by decide +kernel
theorem dX7_init_70 : decode cX7_init 70 = .ok (.aload_n 0, 1) := by decide +kernel
theorem dX7_init_71 : decode cX7_init 71 = .ok (.iconst 3, 1) := by decide +kernel
theorem dX7_init_72 : decode cX7_init 72 = .ok (.newarray .int, 2) := by decide +kernel
theorem dX7_init_74 : decode cX7_init 74 = .ok (.putfield 39, 3) := by decide +kernel
theorem dX7_init_77 : decode cX7_init 77 = .ok (.aload_n 0, 1) := by decide +kernel
theorem dX7_init_78 : decode cX7_init 78 = .ok (.iconst 3, 1) := by decide +kernel
theorem dX7_init_79 : decode cX7_init 79 = .ok (.newarray .int, 2) := by decide +kernel
theorem dX7_init_81 : decode cX7_init 81 = .ok (.putfield 42, 3) := by decide +kernel
theorem dX7_init_84 : decode cX7_init 84 = .ok (.return_, 1) := by decide +kernel
theorem lkX7_init_9 : Cond.fieldLink RX7 9 "LeftAtFive$Street" "worth" "[I" ∈ wsX7_init := by decide +kernel
theorem lkX7_init_15 : Cond.fieldLink RX7 15 "LeftAtFive$Street" "kind" "[I" ∈ wsX7_init := by decide +kernel
theorem lkX7_init_18 : Cond.fieldLink RX7 18 "LeftAtFive$Street" "cell" "[I" ∈ wsX7_init := by decide +kernel
theorem lkX7_init_21 : Cond.fieldLink RX7 21 "LeftAtFive$Street" "stock" "[I" ∈ wsX7_init := by decide +kernel
theorem lkX7_init_24 : Cond.fieldLink RX7 24 "LeftAtFive$Street" "eatsAt" "[I" ∈ wsX7_init := by decide +kernel
theorem lkX7_init_27 : Cond.fieldLink RX7 27 "LeftAtFive$Street" "pace" "[I" ∈ wsX7_init := by decide +kernel
theorem lkX7_init_30 : Cond.fieldLink RX7 30 "LeftAtFive$Street" "loaves" "[I" ∈ wsX7_init := by decide +kernel
theorem lkX7_init_33 : Cond.fieldLink RX7 33 "LeftAtFive$Street" "chance" "[I" ∈ wsX7_init := by decide +kernel
theorem lkX7_init_36 : Cond.fieldLink RX7 36 "LeftAtFive$Street" "one" "[I" ∈ wsX7_init := by decide +kernel
theorem lkX7_init_39 : Cond.fieldLink RX7 39 "LeftAtFive$Street" "other" "[I" ∈ wsX7_init := by decide +kernel
theorem lkX7_init_42 : Cond.fieldLink RX7 42 "LeftAtFive$Street" "price" "[I" ∈ wsX7_init := by decide +kernel
theorem iwX7_init_X7 : ∀ w ∈ wsX70, w ∈ wsX7_init := by decide +kernel
set_option maxHeartbeats 2000000 in
set_option maxRecDepth 100000 in
theorem c_X7_init (l : Launch) (D : va_G) (q : Nat → ClassId) (a0 : Nat) : xC l yX7_init wsX7_init ({ frames := 1, cells := 11, slots := 75, locals := 40 }) D (TY q) [[(a0, .inr (6, [.int 0, .int 0, .int 0, .int 0, .int 0, .null, .null, .null, .null, .null, .null, .null, .null, .null, .null, .null]))]] [.ref a0] (xQv D (TY q) (fun (ad : Nat → Nat) => ad 0 = a0) (fun ad => [w7 q ad 0 0 0 0 0 (fun _ => nI 0) (fun _ => nI 0) (fun _ => nI 0) (fun _ => nI 0) (fun _ => nI 0) (fun _ => nI 0) (fun _ => nI 0) (fun _ => nI 0) (fun _ => nI 0) (fun _ => nI 0) (fun _ => nI 0)])) 11 75 := by
  refine x_enter (cc := cX7_init) (maxL := 1) (ret := none) (by decide) rfl (Nat.le_of_ble_eq_true rfl) ?_
  intro p e s m below meth c A ls H locs hfix hr hlocks hinit hM hl
  obtain ⟨hx, hb, hml, hown, hts⟩ := id hfix
  have hl : lv_has ls 1 [(0, .ref a0)] := hl
  refine lv_aload_n hx hb dX7_init_0 rfl (lv_at hl 0 rfl) ?_
  refine W.objInit hx hb hown (hts (.methodLink RX7 3 objectInit) (by decide +kernel)) (hts (.instanceMethod objectInit) (by decide +kernel)) (hts (.code objectInit ⟨#[0xb1]⟩ 1 none) (by decide +kernel)) rfl (by rw [hml]; exact hl.1) rfl dX7_init_1 (Nat.le_of_ble_eq_true rfl) (Nat.le_of_ble_eq_true rfl) ?_
  refine W.eq (g2 := F0 m 4 ls []) rfl ?_
  refine lv_aload_n hx hb dX7_init_4 rfl (lv_at hl 0 rfl) ?_
  refine lv_iconst (v := nI 5) hx hb dX7_init_5 (by decide) ?_
  refine x_newi hx hb (hts (.arrayClass .int) (by decide +kernel)) hM 0 rfl (N := 5) (by decide) (Nat.le_of_ble_eq_true rfl) (Nat.le_of_ble_eq_true rfl) dX7_init_6 (fun a6 H hM => ?_)
  have hM : xM D (TY q) [[(a0, .inr (6, [.int 0, .int 0, .int 0, .int 0, .int 0, .null, .null, .null, .null, .null, .null, .null, .null, .null, .null, .null]))], [(a6, .inl (q 0, 5, .inl (fun _ => nI 0)))]] A s.heap s H locs := hM
  refine x_putF hx hb hts iwX7_init_X7 tyX7 tyX7_ok nmX7 hown hM 0 0 rfl rfl rfl 5 (by decide) (hts _ lkX7_init_9) (fun _ h => h) rfl hinit rfl (ty := .array .int) (by decide +kernel) rfl rfl (Nat.le_of_ble_eq_true rfl) [[(a0, .inr (6, [.int 0, .int 0, .int 0, .int 0, .int 0, .ref a6, .null, .null, .null, .null, .null, .null, .null, .null, .null, .null]))], [(a6, .inl (q 0, 5, .inl (fun _ => nI 0)))]] rfl dX7_init_8 (fun H locs hM => ?_)
  refine lv_aload_n hx hb dX7_init_11 rfl (lv_at hl 0 rfl) ?_
  refine lv_iconst (v := nI 5) hx hb dX7_init_12 (by decide) ?_
  refine x_newi hx hb (hts (.arrayClass .int) (by decide +kernel)) hM 0 rfl (N := 5) (by decide) (Nat.le_of_ble_eq_true rfl) (Nat.le_of_ble_eq_true rfl) dX7_init_13 (fun a7 H hM => ?_)
  have hM : xM D (TY q) [[(a0, .inr (6, [.int 0, .int 0, .int 0, .int 0, .int 0, .ref a6, .null, .null, .null, .null, .null, .null, .null, .null, .null, .null]))], [(a6, .inl (q 0, 5, .inl (fun _ => nI 0)))], [(a7, .inl (q 0, 5, .inl (fun _ => nI 0)))]] A s.heap s H locs := hM
  refine x_putF hx hb hts iwX7_init_X7 tyX7 tyX7_ok nmX7 hown hM 0 0 rfl rfl rfl 6 (by decide) (hts _ lkX7_init_15) (fun _ h => h) rfl hinit rfl (ty := .array .int) (by decide +kernel) rfl rfl (Nat.le_of_ble_eq_true rfl) [[(a0, .inr (6, [.int 0, .int 0, .int 0, .int 0, .int 0, .ref a6, .ref a7, .null, .null, .null, .null, .null, .null, .null, .null, .null]))], [(a6, .inl (q 0, 5, .inl (fun _ => nI 0)))], [(a7, .inl (q 0, 5, .inl (fun _ => nI 0)))]] rfl dX7_init_15 (fun H locs hM => ?_)
  refine lv_aload_n hx hb dX7_init_18 rfl (lv_at hl 0 rfl) ?_
  refine lv_iconst (v := nI 5) hx hb dX7_init_19 (by decide) ?_
  refine x_newi hx hb (hts (.arrayClass .int) (by decide +kernel)) hM 0 rfl (N := 5) (by decide) (Nat.le_of_ble_eq_true rfl) (Nat.le_of_ble_eq_true rfl) dX7_init_20 (fun a8 H hM => ?_)
  have hM : xM D (TY q) [[(a0, .inr (6, [.int 0, .int 0, .int 0, .int 0, .int 0, .ref a6, .ref a7, .null, .null, .null, .null, .null, .null, .null, .null, .null]))], [(a6, .inl (q 0, 5, .inl (fun _ => nI 0)))], [(a7, .inl (q 0, 5, .inl (fun _ => nI 0)))], [(a8, .inl (q 0, 5, .inl (fun _ => nI 0)))]] A s.heap s H locs := hM
  refine x_putF hx hb hts iwX7_init_X7 tyX7 tyX7_ok nmX7 hown hM 0 0 rfl rfl rfl 7 (by decide) (hts _ lkX7_init_18) (fun _ h => h) rfl hinit rfl (ty := .array .int) (by decide +kernel) rfl rfl (Nat.le_of_ble_eq_true rfl) [[(a0, .inr (6, [.int 0, .int 0, .int 0, .int 0, .int 0, .ref a6, .ref a7, .ref a8, .null, .null, .null, .null, .null, .null, .null, .null]))], [(a6, .inl (q 0, 5, .inl (fun _ => nI 0)))], [(a7, .inl (q 0, 5, .inl (fun _ => nI 0)))], [(a8, .inl (q 0, 5, .inl (fun _ => nI 0)))]] rfl dX7_init_22 (fun H locs hM => ?_)
  refine lv_aload_n hx hb dX7_init_25 rfl (lv_at hl 0 rfl) ?_
  refine lv_bipush (v := nI 25) hx hb dX7_init_26 (by decide) ?_
  refine x_newi hx hb (hts (.arrayClass .int) (by decide +kernel)) hM 0 rfl (N := 25) (by decide) (Nat.le_of_ble_eq_true rfl) (Nat.le_of_ble_eq_true rfl) dX7_init_28 (fun a9 H hM => ?_)
  have hM : xM D (TY q) [[(a0, .inr (6, [.int 0, .int 0, .int 0, .int 0, .int 0, .ref a6, .ref a7, .ref a8, .null, .null, .null, .null, .null, .null, .null, .null]))], [(a6, .inl (q 0, 5, .inl (fun _ => nI 0)))], [(a7, .inl (q 0, 5, .inl (fun _ => nI 0)))], [(a8, .inl (q 0, 5, .inl (fun _ => nI 0)))], [(a9, .inl (q 0, 25, .inl (fun _ => nI 0)))]] A s.heap s H locs := hM
  refine x_putF hx hb hts iwX7_init_X7 tyX7 tyX7_ok nmX7 hown hM 0 0 rfl rfl rfl 8 (by decide) (hts _ lkX7_init_21) (fun _ h => h) rfl hinit rfl (ty := .array .int) (by decide +kernel) rfl rfl (Nat.le_of_ble_eq_true rfl) [[(a0, .inr (6, [.int 0, .int 0, .int 0, .int 0, .int 0, .ref a6, .ref a7, .ref a8, .ref a9, .null, .null, .null, .null, .null, .null, .null]))], [(a6, .inl (q 0, 5, .inl (fun _ => nI 0)))], [(a7, .inl (q 0, 5, .inl (fun _ => nI 0)))], [(a8, .inl (q 0, 5, .inl (fun _ => nI 0)))], [(a9, .inl (q 0, 25, .inl (fun _ => nI 0)))]] rfl dX7_init_30 (fun H locs hM => ?_)
  refine lv_aload_n hx hb dX7_init_33 rfl (lv_at hl 0 rfl) ?_
  refine lv_bipush (v := nI 8) hx hb dX7_init_34 (by decide) ?_
  refine x_newi hx hb (hts (.arrayClass .int) (by decide +kernel)) hM 0 rfl (N := 8) (by decide) (Nat.le_of_ble_eq_true rfl) (Nat.le_of_ble_eq_true rfl) dX7_init_36 (fun a10 H hM => ?_)
  have hM : xM D (TY q) [[(a0, .inr (6, [.int 0, .int 0, .int 0, .int 0, .int 0, .ref a6, .ref a7, .ref a8, .ref a9, .null, .null, .null, .null, .null, .null, .null]))], [(a6, .inl (q 0, 5, .inl (fun _ => nI 0)))], [(a7, .inl (q 0, 5, .inl (fun _ => nI 0)))], [(a8, .inl (q 0, 5, .inl (fun _ => nI 0)))], [(a9, .inl (q 0, 25, .inl (fun _ => nI 0)))], [(a10, .inl (q 0, 8, .inl (fun _ => nI 0)))]] A s.heap s H locs := hM
  refine x_putF hx hb hts iwX7_init_X7 tyX7 tyX7_ok nmX7 hown hM 0 0 rfl rfl rfl 9 (by decide) (hts _ lkX7_init_24) (fun _ h => h) rfl hinit rfl (ty := .array .int) (by decide +kernel) rfl rfl (Nat.le_of_ble_eq_true rfl) [[(a0, .inr (6, [.int 0, .int 0, .int 0, .int 0, .int 0, .ref a6, .ref a7, .ref a8, .ref a9, .ref a10, .null, .null, .null, .null, .null, .null]))], [(a6, .inl (q 0, 5, .inl (fun _ => nI 0)))], [(a7, .inl (q 0, 5, .inl (fun _ => nI 0)))], [(a8, .inl (q 0, 5, .inl (fun _ => nI 0)))], [(a9, .inl (q 0, 25, .inl (fun _ => nI 0)))], [(a10, .inl (q 0, 8, .inl (fun _ => nI 0)))]] rfl dX7_init_38 (fun H locs hM => ?_)
  refine lv_aload_n hx hb dX7_init_41 rfl (lv_at hl 0 rfl) ?_
  refine lv_bipush (v := nI 8) hx hb dX7_init_42 (by decide) ?_
  refine x_newi hx hb (hts (.arrayClass .int) (by decide +kernel)) hM 0 rfl (N := 8) (by decide) (Nat.le_of_ble_eq_true rfl) (Nat.le_of_ble_eq_true rfl) dX7_init_44 (fun a11 H hM => ?_)
  have hM : xM D (TY q) [[(a0, .inr (6, [.int 0, .int 0, .int 0, .int 0, .int 0, .ref a6, .ref a7, .ref a8, .ref a9, .ref a10, .null, .null, .null, .null, .null, .null]))], [(a6, .inl (q 0, 5, .inl (fun _ => nI 0)))], [(a7, .inl (q 0, 5, .inl (fun _ => nI 0)))], [(a8, .inl (q 0, 5, .inl (fun _ => nI 0)))], [(a9, .inl (q 0, 25, .inl (fun _ => nI 0)))], [(a10, .inl (q 0, 8, .inl (fun _ => nI 0)))], [(a11, .inl (q 0, 8, .inl (fun _ => nI 0)))]] A s.heap s H locs := hM
  refine x_putF hx hb hts iwX7_init_X7 tyX7 tyX7_ok nmX7 hown hM 0 0 rfl rfl rfl 10 (by decide) (hts _ lkX7_init_27) (fun _ h => h) rfl hinit rfl (ty := .array .int) (by decide +kernel) rfl rfl (Nat.le_of_ble_eq_true rfl) [[(a0, .inr (6, [.int 0, .int 0, .int 0, .int 0, .int 0, .ref a6, .ref a7, .ref a8, .ref a9, .ref a10, .ref a11, .null, .null, .null, .null, .null]))], [(a6, .inl (q 0, 5, .inl (fun _ => nI 0)))], [(a7, .inl (q 0, 5, .inl (fun _ => nI 0)))], [(a8, .inl (q 0, 5, .inl (fun _ => nI 0)))], [(a9, .inl (q 0, 25, .inl (fun _ => nI 0)))], [(a10, .inl (q 0, 8, .inl (fun _ => nI 0)))], [(a11, .inl (q 0, 8, .inl (fun _ => nI 0)))]] rfl dX7_init_46 (fun H locs hM => ?_)
  refine lv_aload_n hx hb dX7_init_49 rfl (lv_at hl 0 rfl) ?_
  refine lv_iconst (v := nI 5) hx hb dX7_init_50 (by decide) ?_
  refine x_newi hx hb (hts (.arrayClass .int) (by decide +kernel)) hM 0 rfl (N := 5) (by decide) (Nat.le_of_ble_eq_true rfl) (Nat.le_of_ble_eq_true rfl) dX7_init_51 (fun a12 H hM => ?_)
  have hM : xM D (TY q) [[(a0, .inr (6, [.int 0, .int 0, .int 0, .int 0, .int 0, .ref a6, .ref a7, .ref a8, .ref a9, .ref a10, .ref a11, .null, .null, .null, .null, .null]))], [(a6, .inl (q 0, 5, .inl (fun _ => nI 0)))], [(a7, .inl (q 0, 5, .inl (fun _ => nI 0)))], [(a8, .inl (q 0, 5, .inl (fun _ => nI 0)))], [(a9, .inl (q 0, 25, .inl (fun _ => nI 0)))], [(a10, .inl (q 0, 8, .inl (fun _ => nI 0)))], [(a11, .inl (q 0, 8, .inl (fun _ => nI 0)))], [(a12, .inl (q 0, 5, .inl (fun _ => nI 0)))]] A s.heap s H locs := hM
  refine x_putF hx hb hts iwX7_init_X7 tyX7 tyX7_ok nmX7 hown hM 0 0 rfl rfl rfl 11 (by decide) (hts _ lkX7_init_30) (fun _ h => h) rfl hinit rfl (ty := .array .int) (by decide +kernel) rfl rfl (Nat.le_of_ble_eq_true rfl) [[(a0, .inr (6, [.int 0, .int 0, .int 0, .int 0, .int 0, .ref a6, .ref a7, .ref a8, .ref a9, .ref a10, .ref a11, .ref a12, .null, .null, .null, .null]))], [(a6, .inl (q 0, 5, .inl (fun _ => nI 0)))], [(a7, .inl (q 0, 5, .inl (fun _ => nI 0)))], [(a8, .inl (q 0, 5, .inl (fun _ => nI 0)))], [(a9, .inl (q 0, 25, .inl (fun _ => nI 0)))], [(a10, .inl (q 0, 8, .inl (fun _ => nI 0)))], [(a11, .inl (q 0, 8, .inl (fun _ => nI 0)))], [(a12, .inl (q 0, 5, .inl (fun _ => nI 0)))]] rfl dX7_init_53 (fun H locs hM => ?_)
  refine lv_aload_n hx hb dX7_init_56 rfl (lv_at hl 0 rfl) ?_
  refine lv_iconst (v := nI 5) hx hb dX7_init_57 (by decide) ?_
  refine x_newi hx hb (hts (.arrayClass .int) (by decide +kernel)) hM 0 rfl (N := 5) (by decide) (Nat.le_of_ble_eq_true rfl) (Nat.le_of_ble_eq_true rfl) dX7_init_58 (fun a13 H hM => ?_)
  have hM : xM D (TY q) [[(a0, .inr (6, [.int 0, .int 0, .int 0, .int 0, .int 0, .ref a6, .ref a7, .ref a8, .ref a9, .ref a10, .ref a11, .ref a12, .null, .null, .null, .null]))], [(a6, .inl (q 0, 5, .inl (fun _ => nI 0)))], [(a7, .inl (q 0, 5, .inl (fun _ => nI 0)))], [(a8, .inl (q 0, 5, .inl (fun _ => nI 0)))], [(a9, .inl (q 0, 25, .inl (fun _ => nI 0)))], [(a10, .inl (q 0, 8, .inl (fun _ => nI 0)))], [(a11, .inl (q 0, 8, .inl (fun _ => nI 0)))], [(a12, .inl (q 0, 5, .inl (fun _ => nI 0)))], [(a13, .inl (q 0, 5, .inl (fun _ => nI 0)))]] A s.heap s H locs := hM
  refine x_putF hx hb hts iwX7_init_X7 tyX7 tyX7_ok nmX7 hown hM 0 0 rfl rfl rfl 12 (by decide) (hts _ lkX7_init_33) (fun _ h => h) rfl hinit rfl (ty := .array .int) (by decide +kernel) rfl rfl (Nat.le_of_ble_eq_true rfl) [[(a0, .inr (6, [.int 0, .int 0, .int 0, .int 0, .int 0, .ref a6, .ref a7, .ref a8, .ref a9, .ref a10, .ref a11, .ref a12, .ref a13, .null, .null, .null]))], [(a6, .inl (q 0, 5, .inl (fun _ => nI 0)))], [(a7, .inl (q 0, 5, .inl (fun _ => nI 0)))], [(a8, .inl (q 0, 5, .inl (fun _ => nI 0)))], [(a9, .inl (q 0, 25, .inl (fun _ => nI 0)))], [(a10, .inl (q 0, 8, .inl (fun _ => nI 0)))], [(a11, .inl (q 0, 8, .inl (fun _ => nI 0)))], [(a12, .inl (q 0, 5, .inl (fun _ => nI 0)))], [(a13, .inl (q 0, 5, .inl (fun _ => nI 0)))]] rfl dX7_init_60 (fun H locs hM => ?_)
  refine lv_aload_n hx hb dX7_init_63 rfl (lv_at hl 0 rfl) ?_
  refine lv_iconst (v := nI 3) hx hb dX7_init_64 (by decide) ?_
  refine x_newi hx hb (hts (.arrayClass .int) (by decide +kernel)) hM 0 rfl (N := 3) (by decide) (Nat.le_of_ble_eq_true rfl) (Nat.le_of_ble_eq_true rfl) dX7_init_65 (fun a14 H hM => ?_)
  have hM : xM D (TY q) [[(a0, .inr (6, [.int 0, .int 0, .int 0, .int 0, .int 0, .ref a6, .ref a7, .ref a8, .ref a9, .ref a10, .ref a11, .ref a12, .ref a13, .null, .null, .null]))], [(a6, .inl (q 0, 5, .inl (fun _ => nI 0)))], [(a7, .inl (q 0, 5, .inl (fun _ => nI 0)))], [(a8, .inl (q 0, 5, .inl (fun _ => nI 0)))], [(a9, .inl (q 0, 25, .inl (fun _ => nI 0)))], [(a10, .inl (q 0, 8, .inl (fun _ => nI 0)))], [(a11, .inl (q 0, 8, .inl (fun _ => nI 0)))], [(a12, .inl (q 0, 5, .inl (fun _ => nI 0)))], [(a13, .inl (q 0, 5, .inl (fun _ => nI 0)))], [(a14, .inl (q 0, 3, .inl (fun _ => nI 0)))]] A s.heap s H locs := hM
  refine x_putF hx hb hts iwX7_init_X7 tyX7 tyX7_ok nmX7 hown hM 0 0 rfl rfl rfl 13 (by decide) (hts _ lkX7_init_36) (fun _ h => h) rfl hinit rfl (ty := .array .int) (by decide +kernel) rfl rfl (Nat.le_of_ble_eq_true rfl) [[(a0, .inr (6, [.int 0, .int 0, .int 0, .int 0, .int 0, .ref a6, .ref a7, .ref a8, .ref a9, .ref a10, .ref a11, .ref a12, .ref a13, .ref a14, .null, .null]))], [(a6, .inl (q 0, 5, .inl (fun _ => nI 0)))], [(a7, .inl (q 0, 5, .inl (fun _ => nI 0)))], [(a8, .inl (q 0, 5, .inl (fun _ => nI 0)))], [(a9, .inl (q 0, 25, .inl (fun _ => nI 0)))], [(a10, .inl (q 0, 8, .inl (fun _ => nI 0)))], [(a11, .inl (q 0, 8, .inl (fun _ => nI 0)))], [(a12, .inl (q 0, 5, .inl (fun _ => nI 0)))], [(a13, .inl (q 0, 5, .inl (fun _ => nI 0)))], [(a14, .inl (q 0, 3, .inl (fun _ => nI 0)))]] rfl dX7_init_67 (fun H locs hM => ?_)
  refine lv_aload_n hx hb dX7_init_70 rfl (lv_at hl 0 rfl) ?_
  refine lv_iconst (v := nI 3) hx hb dX7_init_71 (by decide) ?_
  refine x_newi hx hb (hts (.arrayClass .int) (by decide +kernel)) hM 0 rfl (N := 3) (by decide) (Nat.le_of_ble_eq_true rfl) (Nat.le_of_ble_eq_true rfl) dX7_init_72 (fun a15 H hM => ?_)
  have hM : xM D (TY q) [[(a0, .inr (6, [.int 0, .int 0, .int 0, .int 0, .int 0, .ref a6, .ref a7, .ref a8, .ref a9, .ref a10, .ref a11, .ref a12, .ref a13, .ref a14, .null, .null]))], [(a6, .inl (q 0, 5, .inl (fun _ => nI 0)))], [(a7, .inl (q 0, 5, .inl (fun _ => nI 0)))], [(a8, .inl (q 0, 5, .inl (fun _ => nI 0)))], [(a9, .inl (q 0, 25, .inl (fun _ => nI 0)))], [(a10, .inl (q 0, 8, .inl (fun _ => nI 0)))], [(a11, .inl (q 0, 8, .inl (fun _ => nI 0)))], [(a12, .inl (q 0, 5, .inl (fun _ => nI 0)))], [(a13, .inl (q 0, 5, .inl (fun _ => nI 0)))], [(a14, .inl (q 0, 3, .inl (fun _ => nI 0)))], [(a15, .inl (q 0, 3, .inl (fun _ => nI 0)))]] A s.heap s H locs := hM
  refine x_putF hx hb hts iwX7_init_X7 tyX7 tyX7_ok nmX7 hown hM 0 0 rfl rfl rfl 14 (by decide) (hts _ lkX7_init_39) (fun _ h => h) rfl hinit rfl (ty := .array .int) (by decide +kernel) rfl rfl (Nat.le_of_ble_eq_true rfl) [[(a0, .inr (6, [.int 0, .int 0, .int 0, .int 0, .int 0, .ref a6, .ref a7, .ref a8, .ref a9, .ref a10, .ref a11, .ref a12, .ref a13, .ref a14, .ref a15, .null]))], [(a6, .inl (q 0, 5, .inl (fun _ => nI 0)))], [(a7, .inl (q 0, 5, .inl (fun _ => nI 0)))], [(a8, .inl (q 0, 5, .inl (fun _ => nI 0)))], [(a9, .inl (q 0, 25, .inl (fun _ => nI 0)))], [(a10, .inl (q 0, 8, .inl (fun _ => nI 0)))], [(a11, .inl (q 0, 8, .inl (fun _ => nI 0)))], [(a12, .inl (q 0, 5, .inl (fun _ => nI 0)))], [(a13, .inl (q 0, 5, .inl (fun _ => nI 0)))], [(a14, .inl (q 0, 3, .inl (fun _ => nI 0)))], [(a15, .inl (q 0, 3, .inl (fun _ => nI 0)))]] rfl dX7_init_74 (fun H locs hM => ?_)
  refine lv_aload_n hx hb dX7_init_77 rfl (lv_at hl 0 rfl) ?_
  refine lv_iconst (v := nI 3) hx hb dX7_init_78 (by decide) ?_
  refine x_newi hx hb (hts (.arrayClass .int) (by decide +kernel)) hM 0 rfl (N := 3) (by decide) (Nat.le_of_ble_eq_true rfl) (Nat.le_of_ble_eq_true rfl) dX7_init_79 (fun a16 H hM => ?_)
  have hM : xM D (TY q) [[(a0, .inr (6, [.int 0, .int 0, .int 0, .int 0, .int 0, .ref a6, .ref a7, .ref a8, .ref a9, .ref a10, .ref a11, .ref a12, .ref a13, .ref a14, .ref a15, .null]))], [(a6, .inl (q 0, 5, .inl (fun _ => nI 0)))], [(a7, .inl (q 0, 5, .inl (fun _ => nI 0)))], [(a8, .inl (q 0, 5, .inl (fun _ => nI 0)))], [(a9, .inl (q 0, 25, .inl (fun _ => nI 0)))], [(a10, .inl (q 0, 8, .inl (fun _ => nI 0)))], [(a11, .inl (q 0, 8, .inl (fun _ => nI 0)))], [(a12, .inl (q 0, 5, .inl (fun _ => nI 0)))], [(a13, .inl (q 0, 5, .inl (fun _ => nI 0)))], [(a14, .inl (q 0, 3, .inl (fun _ => nI 0)))], [(a15, .inl (q 0, 3, .inl (fun _ => nI 0)))], [(a16, .inl (q 0, 3, .inl (fun _ => nI 0)))]] A s.heap s H locs := hM
  refine x_putF hx hb hts iwX7_init_X7 tyX7 tyX7_ok nmX7 hown hM 0 0 rfl rfl rfl 15 (by decide) (hts _ lkX7_init_42) (fun _ h => h) rfl hinit rfl (ty := .array .int) (by decide +kernel) rfl rfl (Nat.le_of_ble_eq_true rfl) [[(a0, .inr (6, [.int 0, .int 0, .int 0, .int 0, .int 0, .ref a6, .ref a7, .ref a8, .ref a9, .ref a10, .ref a11, .ref a12, .ref a13, .ref a14, .ref a15, .ref a16]))], [(a6, .inl (q 0, 5, .inl (fun _ => nI 0)))], [(a7, .inl (q 0, 5, .inl (fun _ => nI 0)))], [(a8, .inl (q 0, 5, .inl (fun _ => nI 0)))], [(a9, .inl (q 0, 25, .inl (fun _ => nI 0)))], [(a10, .inl (q 0, 8, .inl (fun _ => nI 0)))], [(a11, .inl (q 0, 8, .inl (fun _ => nI 0)))], [(a12, .inl (q 0, 5, .inl (fun _ => nI 0)))], [(a13, .inl (q 0, 5, .inl (fun _ => nI 0)))], [(a14, .inl (q 0, 3, .inl (fun _ => nI 0)))], [(a15, .inl (q 0, 3, .inl (fun _ => nI 0)))], [(a16, .inl (q 0, 3, .inl (fun _ => nI 0)))]] rfl dX7_init_81 (fun H locs hM => ?_)
  have hM : xM D (TY q) [w7 q (xaL [a0, 0, 0, 0, 0, 0, a6, a7, a8, a9, a10, a11, a12, a13, a14, a15, a16]) 0 0 0 0 0 (fun _ => nI 0) (fun _ => nI 0) (fun _ => nI 0) (fun _ => nI 0) (fun _ => nI 0) (fun _ => nI 0) (fun _ => nI 0) (fun _ => nI 0) (fun _ => nI 0) (fun _ => nI 0) (fun _ => nI 0)] A s.heap s H locs := hM.re rfl
  refine W.cs (cells' := 11) (slots' := 75) rfl rfl ?_
  exact x_vret hx hb hr hlocks (xaL [a0, 0, 0, 0, 0, 0, a6, a7, a8, a9, a10, a11, a12, a13, a14, a15, a16]) hM rfl dX7_init_84
