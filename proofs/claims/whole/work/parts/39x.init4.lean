set_option maxRecDepth 20000 in
theorem ggX4_init_X1_init : GoodIn wsX4_init wsX1_init := goodIn_r _ [9, 10, 2, 3, 11, 12, 13, 14, 15, 18, 19, 20, 21, 22, 23] (by decide +kernel) (by decide +kernel)
set_option maxRecDepth 20000 in
theorem gX4_init_X1_init_n15 : GoodIn wsX4_init (wsX1_init) := ggX4_init_X1_init
theorem dX4_init_0 : decode cX4_init 0 = .ok (.aload_n 0, 1) := by decide +kernel
theorem dX4_init_1 : decode cX4_init 1 = .ok (.invokespecial 1, 3) := by decide +kernel
theorem dX4_init_4 : decode cX4_init 4 = .ok (.aload_n 0, 1) := by decide +kernel
theorem dX4_init_5 : decode cX4_init 5 = .ok (.iload_n 1, 1) := by decide +kernel
theorem dX4_init_6 : decode cX4_init 6 = .ok (.ifCond .le 7, 3) := by decide +kernel
theorem dX4_init_9 : decode cX4_init 9 = .ok (.iload_n 1, 1) := by decide +kernel
theorem dX4_init_10 : decode cX4_init 10 = .ok (.goto 4, 3) := by decide +kernel
theorem dX4_init_13 : decode cX4_init 13 = .ok (.iconst 1, 1) := by decide +kernel
theorem dX4_init_14 : decode cX4_init 14 = .ok (.anewarray 7, 3) := by decide +kernel
theorem dX4_init_17 : decode cX4_init 17 = .ok (.putfield 9, 3) := by decide +kernel
theorem dX4_init_20 : decode cX4_init 20 = .ok (.iconst 0, 1) := by decide +kernel
theorem dX4_init_21 : decode cX4_init 21 = .ok (.istore_n 2, 1) := by decide +kernel
theorem dX4_init_22 : decode cX4_init 22 = .ok (.iload_n 2, 1) := by decide +kernel
theorem dX4_init_23 : decode cX4_init 23 = .ok (.aload_n 0, 1) := by decide +kernel
theorem dX4_init_24 : decode cX4_init 24 = .ok (.getfield 9, 3) := by decide +kernel
theorem dX4_init_27 : decode cX4_init 27 = .ok (.arraylength, 1) := by decide +kernel
theorem dX4_init_28 : decode cX4_init 28 = .ok (.if_icmp .ge 22, 3) := by decide +kernel
theorem dX4_init_31 : decode cX4_init 31 = .ok (.aload_n 0, 1) := by decide +kernel
theorem dX4_init_32 : decode cX4_init 32 = .ok (.getfield 9, 3) := by decide +kernel
theorem dX4_init_35 : decode cX4_init 35 = .ok (.iload_n 2, 1) := by decide +kernel
theorem dX4_init_36 : decode cX4_init 36 = .ok (.new 7, 3) := by decide +kernel
theorem dX4_init_39 : decode cX4_init 39 = .ok (.dup, 1) := by decide +kernel
theorem dX4_init_40 : decode cX4_init 40 = .ok (.invokespecial 15, 3) := by decide +kernel
theorem dX4_init_43 : decode cX4_init 43 = .ok (.aastore, 1) := by decide +kernel
theorem dX4_init_44 : decode cX4_init 44 = .ok (.iinc 2 1, 3) := by decide +kernel
theorem dX4_init_47 : decode cX4_init 47 = .ok (.goto (-25), 3) := by decide +kernel
theorem dX4_init_50 : decode cX4_init 50 = .ok (.return_, 1) := by decide +kernel
theorem lkX4_init_9 : Cond.fieldLink RX4 9 "LeftAtFive$Pile" "copies" "[LLeftAtFive$Kitchens;" ∈ wsX4_init := by decide +kernel
theorem iwX4_init_X4 : ∀ w ∈ wsX40, w ∈ wsX4_init := by decide +kernel
theorem iwX4_init_X1 : ∀ w ∈ wsX10, w ∈ wsX4_init := by decide +kernel
set_option maxHeartbeats 2000000 in
set_option maxRecDepth 100000 in
theorem c_X4_init2 (l : Launch) (D : va_G) (q : Nat → ClassId) (aK aV a0 : Nat) : xCZ aK aV l yX4_init wsX4_init ({ frames := 2, cells := 11, slots := 144, locals := 60 }) D (TY q) [[(a0, .inr (4, [.null, .int 0]))]] [.ref a0, .int (nI 2)] (xQv D (TY q) (fun (u : (Nat → Nat) × (Nat → Nat → Nat)) => u.1 0 = a0) (fun u => [wp q u.1 u.2 2 (nI 0), wpl q u.2 (fun _ => xK0) 2])) 11 144 := by
  refine x_enterZ (cc := cX4_init) (maxL := 3) (ret := none) (by decide) rfl (Nat.le_of_ble_eq_true rfl) ?_
  intro p e s m below meth c A ls H locs hfix hr hlocks hinit hM hl hZ
  obtain ⟨hx, hb, hml, hown, hts⟩ := id hfix
  have hl : lv_has ls 3 [(0, .ref a0), (1, .int (nI 2))] := hl
  refine lv_aload_n hx hb dX4_init_0 rfl (lv_at hl 0 rfl) ?_
  refine W.objInit hx hb hown (hts (.methodLink RX4 1 objectInit) (by decide +kernel)) (hts (.instanceMethod objectInit) (by decide +kernel)) (hts (.code objectInit ⟨#[0xb1]⟩ 1 none) (by decide +kernel)) rfl (by rw [hml]; exact hl.1) rfl dX4_init_1 (Nat.le_of_ble_eq_true rfl) (Nat.le_of_ble_eq_true rfl) ?_
  refine W.eq (g2 := F0 m 4 ls []) rfl ?_
  refine lv_aload_n hx hb dX4_init_4 rfl (lv_at hl 0 rfl) ?_
  refine lv_iload_n hx hb dX4_init_5 rfl (lv_at hl 1 rfl) ?_
  refine x_if_le (x := 2) (tgt := 13) hx hb (by decide) dX4_init_6 (by decide) (fun c1 => absurd c1 (by decide)) (fun _ => ?_)
  refine lv_iload_n hx hb dX4_init_9 rfl (lv_at hl 1 rfl) ?_
  refine lv_goto (tgt := 14) hx hb dX4_init_10 (by decide) ?_
  refine x_newr hx hb hown (hts (.classLink RX4 7 RX1) (by decide +kernel)) hZ.1 hM 3 rfl (N := 2) (by decide) (Nat.le_of_ble_eq_true rfl) (Nat.le_of_ble_eq_true rfl) dX4_init_14 (fun q1 H hM => ?_)
  have hM : xM D (TY q) [[(a0, .inr (4, [.null, .int 0]))], [(q1, .inl (q 3, 2, .inr (.inr (.inr (.inr (fun _ => none))))))]] A s.heap s H locs := hM
  refine x_putF hx hb hts iwX4_init_X4 tyX4 tyX4_ok nmX4 hown hM 0 0 rfl rfl rfl 0 (by decide) (hts _ lkX4_init_9) (fun _ h => h) rfl hinit rfl (ty := .array (.object "LeftAtFive$Kitchens")) (by decide +kernel) rfl rfl (Nat.le_of_ble_eq_true rfl) [[(a0, .inr (4, [.ref q1, .int 0]))], [(q1, .inl (q 3, 2, .inr (.inr (.inr (.inr (fun _ => none))))))]] rfl dX4_init_17 (fun H locs hM => ?_)
  refine lv_iconst (v := nI 0) hx hb dX4_init_20 (by decide) ?_
  refine lv_istore_n (lv' := [(2, .int (nI 0)), (0, .ref a0), (1, .int (nI 2))]) hx hb dX4_init_21 rfl hl (by decide) rfl (fun ls hl => ?_)
  refine lv_iload_n hx hb dX4_init_22 rfl (lv_at hl 0 rfl) ?_
  refine lv_aload_n hx hb dX4_init_23 rfl (lv_at hl 1 rfl) ?_
  refine x_get hx hb hts iwX4_init_X4 hown hM 0 0 rfl rfl rfl 0 (by decide) (hts _ lkX4_init_9) (fun _ h => h) rfl dX4_init_24 ?_
  refine x_alen hx hb hM 1 0 3 rfl rfl rfl dX4_init_27 ?_
  refine x_icmp_ge (x := 0) (y := 2) (tgt := 50) hx hb (by decide) (by decide) dX4_init_28 (by decide) (fun c1 => absurd c1 (by decide)) (fun _ => ?_)
  refine lv_aload_n hx hb dX4_init_31 rfl (lv_at hl 1 rfl) ?_
  refine x_get hx hb hts iwX4_init_X4 hown hM 0 0 rfl rfl rfl 0 (by decide) (hts _ lkX4_init_9) (fun _ h => h) rfl dX4_init_32 ?_
  refine lv_iload_n hx hb dX4_init_35 rfl (lv_at hl 0 rfl) ?_
  refine x_newo (C := RX1) (T := TX1) (N := 6) (ci := 1) (fs := [.int 0, .int 0, .null, .null, .null, .null]) hx hb hts iwX4_init_X1 tyX1 tyX1_ok hown (hts (.classLink RX4 7 RX1) (by decide +kernel)) (hts (.instantiable RX1 6) (by decide +kernel)) (hts (.initialized RX1) (by decide +kernel)) hM rfl (fun j hj => by rcases (show j = 0 ∨ j = 1 ∨ j = 2 ∨ j = 3 ∨ j = 4 ∨ j = 5 by omega) with rfl | rfl | rfl | rfl | rfl | rfl <;> rfl) (Nat.le_of_ble_eq_true rfl) (Nat.le_of_ble_eq_true rfl) dX4_init_36 (fun h0 H hM => ?_)
  have hM : xM D (TY q) [[(a0, .inr (4, [.ref q1, .int 0]))], [(q1, .inl (q 3, 2, .inr (.inr (.inr (.inr (fun _ => none))))))], [(h0, .inr (1, [.int 0, .int 0, .null, .null, .null, .null]))]] A s.heap s H locs := hM
  refine lv_dup hx hb dX4_init_39 rfl ?_
  refine x_callv (S := Nat → Nat) (post := fun ad => ad 0 = h0) (wf := fun ad => [wk q ad xK0]) (bc := [[(h0, .inr (1, [.int 0, .int 0, .null, .null, .null, .null]))]]) (br := [[(a0, .inr (4, [.ref q1, .int 0]))], [(q1, .inl (q 3, 2, .inr (.inr (.inr (.inr (fun _ => none))))))]]) hM [2] [0, 1] rfl rfl rfl (by decide) (x_runIN (As := []) (rest := [.ref h0, .int (nI 0), .ref q1]) hfix (c_X1_init l D q h0) ⟨va_cnB (host := "LeftAtFive") 0 hts gX4_init_X1_init_n15 rfl rfl rfl (hM.2.2.2.2.2 (RX4, 15, yX1_init) (by decide +kernel)) (hts (.initialized RX1) (by decide +kernel)) (by decide +kernel) ⟨Nat.le_of_ble_eq_true rfl, Nat.le_of_ble_eq_true rfl⟩, rfl, hts (.instanceMethod yX1_init) (by decide +kernel)⟩ hM [2] rfl rfl rfl hl.1 rfl (Nat.le_of_ble_eq_true rfl) dX4_init_40 ⟨Nat.le_of_ble_eq_true rfl, Nat.le_of_ble_eq_true rfl⟩) (fun k0 H locs hq hM2 => ?_)
  subst hq
  have hM : xM D (TY q) [[(a0, .inr (4, [.ref q1, .int 0]))], [(q1, .inl (q 3, 2, .inr (.inr (.inr (.inr (fun _ => none))))))], wk q k0 xK0] A s.heap s H locs := hM2
  refine x_aast hx hb hM 1 0 3 (f := (fun _ => none)) rfl rfl rfl (t := 0) (v := k0 0) 2 0 rfl rfl rfl (by decide) (by decide) [[(a0, .inr (4, [.ref q1, .int 0]))], [(q1, .inl (q 3, 2, .inr (.inr (.inr (.inr (va_up (fun _ => none) 0 (some (k0 0))))))))], wk q k0 xK0] rfl dX4_init_43 (fun H locs hM => ?_)
  refine lv_iinc (v := nI 1) (lv' := [(2, .int (nI 1)), (0, .ref a0), (1, .int (nI 2))]) hx hb dX4_init_44 hl (k := 0) rfl rfl (by decide) rfl (fun ls hl => ?_)
  refine lv_goto (tgt := 22) hx hb dX4_init_47 (by decide) ?_
  refine lv_iload_n hx hb dX4_init_22 rfl (lv_at hl 0 rfl) ?_
  refine lv_aload_n hx hb dX4_init_23 rfl (lv_at hl 1 rfl) ?_
  refine x_get hx hb hts iwX4_init_X4 hown hM 0 0 rfl rfl rfl 0 (by decide) (hts _ lkX4_init_9) (fun _ h => h) rfl dX4_init_24 ?_
  refine x_alen hx hb hM 1 0 3 rfl rfl rfl dX4_init_27 ?_
  refine x_icmp_ge (x := 1) (y := 2) (tgt := 50) hx hb (by decide) (by decide) dX4_init_28 (by decide) (fun c1 => absurd c1 (by decide)) (fun _ => ?_)
  refine lv_aload_n hx hb dX4_init_31 rfl (lv_at hl 1 rfl) ?_
  refine x_get hx hb hts iwX4_init_X4 hown hM 0 0 rfl rfl rfl 0 (by decide) (hts _ lkX4_init_9) (fun _ h => h) rfl dX4_init_32 ?_
  refine lv_iload_n hx hb dX4_init_35 rfl (lv_at hl 0 rfl) ?_
  refine x_newo (C := RX1) (T := TX1) (N := 6) (ci := 1) (fs := [.int 0, .int 0, .null, .null, .null, .null]) hx hb hts iwX4_init_X1 tyX1 tyX1_ok hown (hts (.classLink RX4 7 RX1) (by decide +kernel)) (hts (.instantiable RX1 6) (by decide +kernel)) (hts (.initialized RX1) (by decide +kernel)) hM rfl (fun j hj => by rcases (show j = 0 ∨ j = 1 ∨ j = 2 ∨ j = 3 ∨ j = 4 ∨ j = 5 by omega) with rfl | rfl | rfl | rfl | rfl | rfl <;> rfl) (Nat.le_of_ble_eq_true rfl) (Nat.le_of_ble_eq_true rfl) dX4_init_36 (fun h1 H hM => ?_)
  have hM : xM D (TY q) [[(a0, .inr (4, [.ref q1, .int 0]))], [(q1, .inl (q 3, 2, .inr (.inr (.inr (.inr (va_up (fun _ => none) 0 (some (k0 0))))))))], wk q k0 xK0, [(h1, .inr (1, [.int 0, .int 0, .null, .null, .null, .null]))]] A s.heap s H locs := hM
  refine lv_dup hx hb dX4_init_39 rfl ?_
  refine x_callv (S := Nat → Nat) (post := fun ad => ad 0 = h1) (wf := fun ad => [wk q ad xK0]) (bc := [[(h1, .inr (1, [.int 0, .int 0, .null, .null, .null, .null]))]]) (br := [[(a0, .inr (4, [.ref q1, .int 0]))], [(q1, .inl (q 3, 2, .inr (.inr (.inr (.inr (va_up (fun _ => none) 0 (some (k0 0))))))))], wk q k0 xK0]) hM [3] [0, 1, 2] rfl rfl rfl (by decide) (x_runIN (As := []) (rest := [.ref h1, .int (nI 1), .ref q1]) hfix (c_X1_init l D q h1) ⟨va_cnB (host := "LeftAtFive") 0 hts gX4_init_X1_init_n15 rfl rfl rfl (hM.2.2.2.2.2 (RX4, 15, yX1_init) (by decide +kernel)) (hts (.initialized RX1) (by decide +kernel)) (by decide +kernel) ⟨Nat.le_of_ble_eq_true rfl, Nat.le_of_ble_eq_true rfl⟩, rfl, hts (.instanceMethod yX1_init) (by decide +kernel)⟩ hM [3] rfl rfl rfl hl.1 rfl (Nat.le_of_ble_eq_true rfl) dX4_init_40 ⟨Nat.le_of_ble_eq_true rfl, Nat.le_of_ble_eq_true rfl⟩) (fun k1 H locs hq hM2 => ?_)
  subst hq
  have hM : xM D (TY q) [[(a0, .inr (4, [.ref q1, .int 0]))], [(q1, .inl (q 3, 2, .inr (.inr (.inr (.inr (va_up (fun _ => none) 0 (some (k0 0))))))))], wk q k0 xK0, wk q k1 xK0] A s.heap s H locs := hM2
  refine x_aast hx hb hM 1 0 3 (f := (va_up (fun _ => none) 0 (some (k0 0)))) rfl rfl rfl (t := 1) (v := k1 0) 3 0 rfl rfl rfl (by decide) (by decide) [[(a0, .inr (4, [.ref q1, .int 0]))], [(q1, .inl (q 3, 2, .inr (.inr (.inr (.inr (va_up (va_up (fun _ => none) 0 (some (k0 0))) 1 (some (k1 0))))))))], wk q k0 xK0, wk q k1 xK0] rfl dX4_init_43 (fun H locs hM => ?_)
  refine lv_iinc (v := nI 2) (lv' := [(2, .int (nI 2)), (0, .ref a0), (1, .int (nI 2))]) hx hb dX4_init_44 hl (k := 0) rfl rfl (by decide) rfl (fun ls hl => ?_)
  refine lv_goto (tgt := 22) hx hb dX4_init_47 (by decide) ?_
  refine lv_iload_n hx hb dX4_init_22 rfl (lv_at hl 0 rfl) ?_
  refine lv_aload_n hx hb dX4_init_23 rfl (lv_at hl 1 rfl) ?_
  refine x_get hx hb hts iwX4_init_X4 hown hM 0 0 rfl rfl rfl 0 (by decide) (hts _ lkX4_init_9) (fun _ h => h) rfl dX4_init_24 ?_
  refine x_alen hx hb hM 1 0 3 rfl rfl rfl dX4_init_27 ?_
  refine x_icmp_ge (x := 2) (y := 2) (tgt := 50) hx hb (by decide) (by decide) dX4_init_28 (by decide) (fun _ => ?_) (fun c1 => absurd (Nat.le_refl _) c1)
  have hM : xM D (TY q) [wp q (xaL [a0, q1]) (xaF [k0, k1]) 2 (nI 0), wpl q (xaF [k0, k1]) (fun _ => xK0) 2] A s.heap s H locs := hM.qx [(a0, .inr (4, [.ref q1, .int 0]))] (wk q k0 xK0 ++ wk q k1 xK0) (f := (va_up (va_up (fun _ => none) 0 (some (k0 0))) 1 (some (k1 0)))) (f' := fun y6 => some ((xaF [k0, k1]) y6 0)) rfl rfl (fun j hj => by rcases (show j = 0 ∨ j = 1 by omega) with rfl | rfl <;> rfl)
  refine W.cs (cells' := 11) (slots' := 144) rfl rfl ?_
  exact x_vret hx hb hr hlocks ((xaL [a0, q1]), (xaF [k0, k1])) hM rfl dX4_init_50
