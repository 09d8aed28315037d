set_option maxRecDepth 20000 in
theorem ggX0_init_X1_init : GoodIn wsX0_init wsX1_init := goodIn_r _ [9, 10, 2, 3, 11, 12, 13, 14, 15, 16, 17, 18, 19, 20, 21] (by decide +kernel) (by decide +kernel)
set_option maxRecDepth 20000 in
theorem gX0_init_X1_init_n11 : GoodIn wsX0_init (wsX1_init) := ggX0_init_X1_init
theorem dX0_init_0 : decode cX0_init 0 = .ok (.aload_n 0, 1) := by decide +kernel
theorem dX0_init_1 : decode cX0_init 1 = .ok (.invokespecial 3, 3) := by decide +kernel
theorem dX0_init_4 : decode cX0_init 4 = .ok (.aload_n 0, 1) := by decide +kernel
theorem dX0_init_5 : decode cX0_init 5 = .ok (.new 9, 3) := by decide +kernel
theorem dX0_init_8 : decode cX0_init 8 = .ok (.dup, 1) := by decide +kernel
theorem dX0_init_9 : decode cX0_init 9 = .ok (.invokespecial 11, 3) := by decide +kernel
theorem dX0_init_12 : decode cX0_init 12 = .ok (.putfield 12, 3) := by decide +kernel
theorem dX0_init_15 : decode cX0_init 15 = .ok (.return_, 1) := by decide +kernel
theorem lkX0_init_12 : Cond.fieldLink RX0 12 "LeftAtFive$Ahead" "five" "LLeftAtFive$Kitchens;" ∈ wsX0_init := by decide +kernel
theorem iwX0_init_X0 : ∀ w ∈ wsX00, w ∈ wsX0_init := by decide +kernel
theorem iwX0_init_X1 : ∀ w ∈ wsX10, w ∈ wsX0_init := by decide +kernel
set_option maxHeartbeats 2000000 in
set_option maxRecDepth 100000 in
theorem c_X0_init (l : Launch) (D : va_G) (q : Nat → ClassId) (a0 : Nat) : xC l yX0_init wsX0_init ({ frames := 2, cells := 5, slots := 71, locals := 60 }) D (TY q) [[(a0, .inr (0, [.int 0, .int 0, .int 0, .int 0, .null]))]] [.ref a0] (xQv D (TY q) (fun (u : (Nat → Nat) × (Nat → Nat)) => u.1 0 = a0) (fun u => [w0 q u.1 0 0 0 0 (u.2 0), wk q u.2 xK0])) 5 71 := by
  refine x_enter (cc := cX0_init) (maxL := 1) (ret := none) (by decide) rfl (Nat.le_of_ble_eq_true rfl) ?_
  intro p e s m below meth c A ls H locs hfix hr hlocks hinit hM hl
  obtain ⟨hx, hb, hml, hown, hts⟩ := id hfix
  have hl : lv_has ls 1 [(0, .ref a0)] := hl
  refine lv_aload_n hx hb dX0_init_0 rfl (lv_at hl 0 rfl) ?_
  refine W.objInit hx hb hown (hts (.methodLink RX0 3 objectInit) (by decide +kernel)) (hts (.instanceMethod objectInit) (by decide +kernel)) (hts (.code objectInit ⟨#[0xb1]⟩ 1 none) (by decide +kernel)) rfl (by rw [hml]; exact hl.1) rfl dX0_init_1 (Nat.le_of_ble_eq_true rfl) (Nat.le_of_ble_eq_true rfl) ?_
  refine W.eq (g2 := F0 m 4 ls []) rfl ?_
  refine lv_aload_n hx hb dX0_init_4 rfl (lv_at hl 0 rfl) ?_
  refine x_newo (C := RX1) (T := TX1) (N := 6) (ci := 1) (fs := [.int 0, .int 0, .null, .null, .null, .null]) hx hb hts iwX0_init_X1 tyX1 tyX1_ok hown (hts (.classLink RX0 9 RX1) (by decide +kernel)) (hts (.instantiable RX1 6) (by decide +kernel)) (hts (.initialized RX1) (by decide +kernel)) hM rfl (fun j hj => by rcases (show j = 0 ∨ j = 1 ∨ j = 2 ∨ j = 3 ∨ j = 4 ∨ j = 5 by omega) with rfl | rfl | rfl | rfl | rfl | rfl <;> rfl) (Nat.le_of_ble_eq_true rfl) (Nat.le_of_ble_eq_true rfl) dX0_init_5 (fun q5 H hM => ?_)
  have hM : xM D (TY q) [[(a0, .inr (0, [.int 0, .int 0, .int 0, .int 0, .null]))], [(q5, .inr (1, [.int 0, .int 0, .null, .null, .null, .null]))]] A s.heap s H locs := hM
  refine lv_dup hx hb dX0_init_8 rfl ?_
  refine x_callv (S := Nat → Nat) (post := fun ad => ad 0 = q5) (wf := fun ad => [wk q ad xK0]) (bc := [[(q5, .inr (1, [.int 0, .int 0, .null, .null, .null, .null]))]]) (br := [[(a0, .inr (0, [.int 0, .int 0, .int 0, .int 0, .null]))]]) hM [1] [0] rfl rfl rfl (by decide) (x_runIN (As := []) (rest := [.ref q5, .ref a0]) hfix (c_X1_init l D q q5) ⟨va_cnB (host := "LeftAtFive") 0 hts gX0_init_X1_init_n11 rfl rfl rfl (hM.2.2.2.2.2 (RX0, 11, yX1_init) (by decide +kernel)) (hts (.initialized RX1) (by decide +kernel)) (by decide +kernel) ⟨Nat.le_of_ble_eq_true rfl, Nat.le_of_ble_eq_true rfl⟩, rfl, hts (.instanceMethod yX1_init) (by decide +kernel)⟩ hM [1] rfl rfl rfl hl.1 rfl (Nat.le_of_ble_eq_true rfl) dX0_init_9 ⟨Nat.le_of_ble_eq_true rfl, Nat.le_of_ble_eq_true rfl⟩) (fun fd H locs hq hM2 => ?_)
  subst hq
  have hM : xM D (TY q) [[(a0, .inr (0, [.int 0, .int 0, .int 0, .int 0, .null]))], wk q fd xK0] A s.heap s H locs := hM2
  refine x_putF hx hb hts iwX0_init_X0 tyX0 tyX0_ok nmX0 hown hM 0 0 rfl rfl rfl 4 (by decide) (hts _ lkX0_init_12) (fun _ h => h) rfl hinit rfl (ty := .object "LeftAtFive$Kitchens") (by decide +kernel) rfl rfl (Nat.le_of_ble_eq_true rfl) [[(a0, .inr (0, [.int 0, .int 0, .int 0, .int 0, .ref (fd 0)]))], wk q fd xK0] rfl dX0_init_12 (fun H locs hM => ?_)
  refine W.cs (cells' := 5) (slots' := 71) rfl rfl ?_
  exact x_vret hx hb hr hlocks ((fun _ => a0), fd) hM rfl dX0_init_15
