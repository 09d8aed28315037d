set_option maxHeartbeats 2000000 in
set_option maxRecDepth 100000 in
theorem c_X8_soupB (l : Launch) (D : va_G) (q : Nat → ClassId) (ad : Nat → Nat) (ω0 : Nat) (ω1 : Nat) (ω2 : Nat) (ω3 : Nat) (ω4 : Nat) (ω5 : Nat) (ω6 : Nat) (ω7 : Nat) (ω8 : Nat) (ω9 : Nat) (sd : Nat → Nat) (X : Nat → Nat → Int32) (S : Nat → Nat → Int32) (k : Int32) (kz : Int) (hT : okT X S) (h_kz : k.toInt = kz) (hbad : ¬ (0 ≤ kz ∧ kz < (tn (S 15 0))) ∧ ¬ kz = -1) : xC l yX8_soup wsX8_soup ({ frames := 6, cells := 0, slots := 0, locals := 140 }) D (TY q) [w8 q ad ω0 (sd 0) ω2 ω3 ω4 ω5 ω6 ω7 ω8 ω9, wst q sd X] [.ref (ad 0), .int k] (xQi D (TY q) (fun (r : Int32) (_ : Unit) => r = (-1)) (fun _ => [w8 q ad ω0 (sd 0) ω2 ω3 ω4 ω5 ω6 ω7 ω8 ω9, wst q sd X])) 0 0 := by
  refine x_enter (cc := cX8_soup) (maxL := 2) (ret := (some .int)) (by decide) rfl (Nat.le_of_ble_eq_true rfl) ?_
  intro p e s m below meth c A ls H locs hfix hr hlocks hinit hM hl
  obtain ⟨hx, hb, hml, hown, hts⟩ := id hfix
  have hl : lv_has ls 2 [(0, .ref (ad 0)), (1, .int k)] := hl
  have hTb0 := okT_0b hT
  have hTb1 := okT_1b hT
  have hTb2 := okT_2b hT
  have hTb3 := okT_3b hT
  have hTb4 := okT_4b hT
  have hne : ¬ k = (-1) := (fun z => hbad.2 (by rw [← h_kz, z]; decide))
  refine lv_iload_n hx hb dX8_soup_0 rfl (lv_at hl 1 rfl) ?_
  refine lv_iconst (v := (-1)) hx hb dX8_soup_1 (by decide) ?_
  refine lv_icmp_eq (tgt := 18) hx hb dX8_soup_2 (by decide) (fun c1 => ?_) (fun c1 => ?_)
  · exfalso; first | exact absurd (by assumption) hne | omega
  · refine lv_aload_n hx hb dX8_soup_5 rfl (lv_at hl 0 rfl) ?_
    refine x_get hx hb hts iwX8_soup_X8 hown hM 0 0 rfl rfl rfl 1 (by decide) (hts _ lkX8_soup_19) (fun _ h => h) rfl dX8_soup_6 ?_
    refine lv_iload_n hx hb dX8_soup_9 rfl (lv_at hl 1 rfl) ?_
    refine x_calli (bc := [wst q sd X]) (br := [w8 q ad ω0 (sd 0) ω2 ω3 ω4 ω5 ω6 ω7 ω8 ω9]) hM [1] [0] rfl rfl rfl (by decide) (x_runV (As := [.int k]) (rest := []) hfix (c_X7_isRecipe l D q sd X S k kz hT h_kz) (cwV 1 hts gX8_soup_X7_isRecipe rfl rfl rfl (by decide +kernel) ⟨Nat.le_of_ble_eq_true rfl, Nat.le_of_ble_eq_true rfl⟩) hM [1] rfl rfl 1 0 rfl rfl rfl rfl rfl hl.1 rfl (Nat.le_of_ble_eq_true rfl) dX8_soup_10 ⟨Nat.le_of_ble_eq_true rfl, Nat.le_of_ble_eq_true rfl⟩) (fun r u H locs hq hM => ?_)
    subst hq
    have hM : xM D (TY q) [w8 q ad ω0 (sd 0) ω2 ω3 ω4 ω5 ω6 ω7 ω8 ω9, wst q sd X] A s.heap s H locs := hM
    refine x_ifz_ne (P := 0 ≤ kz ∧ kz < (tn (S 15 0))) (tgt := 18) hx hb dX8_soup_13 (by decide) (fun c2 => ?_) (fun c2 => ?_)
    · exfalso; first | exact absurd (by assumption) hne | omega
    · refine lv_iconst (v := (-1)) hx hb dX8_soup_16 (by decide) ?_
      exact x_iret hx hb hr hlocks () hM (show (-1) = (-1) from rfl) dX8_soup_17
