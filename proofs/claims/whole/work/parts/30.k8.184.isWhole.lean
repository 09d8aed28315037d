set_option maxRecDepth 20000 in
theorem ggX7_isWhole_X7_chancesTogether : GoodIn wsX7_isWhole wsX7_chancesTogether := goodIn_r _ [8, 3, 9, 10, 11, 7, 12, 13, 14, 15, 16, 17, 18, 19, 20, 21, 22, 23, 24, 25, 26, 27, 28, 29, 30, 31, 32, 33] (by decide +kernel) (by decide +kernel)
set_option maxRecDepth 20000 in
theorem gX7_isWhole_X7_chancesTogether : GoodIn wsX7_isWhole (wsV RX7 109 RX7 yX7_chancesTogether wsX7_chancesTogether) := goodIn_app (goodIn_of _ (by decide +kernel)) ggX7_isWhole_X7_chancesTogether
theorem dX7_isWhole_0 : decode cX7_isWhole 0 = .ok (.aload_n 0, 1) := by decide +kernel
theorem dX7_isWhole_1 : decode cX7_isWhole 1 = .ok (.getfield 45, 3) := by decide +kernel
theorem dX7_isWhole_4 : decode cX7_isWhole 4 = .ok (.ifCond .le 30, 3) := by decide +kernel
theorem dX7_isWhole_7 : decode cX7_isWhole 7 = .ok (.aload_n 0, 1) := by decide +kernel
theorem dX7_isWhole_8 : decode cX7_isWhole 8 = .ok (.getfield 49, 3) := by decide +kernel
theorem dX7_isWhole_11 : decode cX7_isWhole 11 = .ok (.ifCond .le 23, 3) := by decide +kernel
theorem dX7_isWhole_14 : decode cX7_isWhole 14 = .ok (.aload_n 0, 1) := by decide +kernel
theorem dX7_isWhole_15 : decode cX7_isWhole 15 = .ok (.getfield 55, 3) := by decide +kernel
theorem dX7_isWhole_18 : decode cX7_isWhole 18 = .ok (.ifCond .eq 12, 3) := by decide +kernel
theorem dX7_isWhole_21 : decode cX7_isWhole 21 = .ok (.aload_n 0, 1) := by decide +kernel
theorem dX7_isWhole_22 : decode cX7_isWhole 22 = .ok (.invokevirtual 109, 3) := by decide +kernel
theorem dX7_isWhole_25 : decode cX7_isWhole 25 = .ok (.bipush 10, 2) := by decide +kernel
theorem dX7_isWhole_27 : decode cX7_isWhole 27 = .ok (.if_icmp .ne 7, 3) := by decide +kernel
theorem dX7_isWhole_30 : decode cX7_isWhole 30 = .ok (.iconst 1, 1) := by decide +kernel
theorem dX7_isWhole_31 : decode cX7_isWhole 31 = .ok (.goto 4, 3) := by decide +kernel
theorem dX7_isWhole_34 : decode cX7_isWhole 34 = .ok (.iconst 0, 1) := by decide +kernel
theorem dX7_isWhole_35 : decode cX7_isWhole 35 = .ok (.ireturn, 1) := by decide +kernel
theorem lkX7_isWhole_45 : Cond.fieldLink RX7 45 "LeftAtFive$Street" "goods" "I" ∈ wsX7_isWhole := by decide +kernel
theorem lkX7_isWhole_49 : Cond.fieldLink RX7 49 "LeftAtFive$Street" "houses" "I" ∈ wsX7_isWhole := by decide +kernel
theorem lkX7_isWhole_55 : Cond.fieldLink RX7 55 "LeftAtFive$Street" "demands" "I" ∈ wsX7_isWhole := by decide +kernel
theorem iwX7_isWhole_X7 : ∀ w ∈ wsX70, w ∈ wsX7_isWhole := by decide +kernel
set_option maxHeartbeats 2000000 in
set_option maxRecDepth 100000 in
theorem c_X7_isWhole (l : Launch) (D : va_G) (q : Nat → ClassId) (ad : Nat → Nat) (X : Nat → Nat → Int32) (S : Nat → Nat → Int32) (hT : okT X S) : xC l yX7_isWhole wsX7_isWhole ({ frames := 3, cells := 0, slots := 0, locals := 64 }) D (TY q) [wst q ad X] [.ref (ad 0)] (xQi D (TY q) (fun (r : Int32) (_ : Unit) => r = zb (¬ (tn (S 2 0)) = 0 ∧ ¬ (tn (S 5 0)) = 0 ∧ ((tn (S 12 0)) = 0 ∨ xsum (S 14) (tn (S 12 0)) = nI 10))) (fun _ => [wst q ad X])) 0 0 := by
  refine x_enter (cc := cX7_isWhole) (maxL := 1) (ret := (some .boolean)) (by decide) rfl (Nat.le_of_ble_eq_true rfl) ?_
  intro p e s m below meth c A ls H locs hfix hr hlocks hinit hM hl
  obtain ⟨hx, hb, hml, hown, hts⟩ := id hfix
  have hl : lv_has ls 1 [(0, .ref (ad 0))] := hl
  have hTb0 := okT_0b hT
  have hTb1 := okT_1b hT
  have hTb3 := okT_3b hT
  refine lv_aload_n hx hb dX7_isWhole_0 rfl (lv_at hl 0 rfl) ?_
  refine x_get hx hb hts iwX7_isWhole_X7 hown hM 0 0 rfl rfl rfl 0 (by decide) (hts _ lkX7_isWhole_45) (fun _ h => h) rfl dX7_isWhole_1 ?_
  refine x_cast (y := nI (tn (S 2 0))) (okT_0 hT) ?_
  refine x_if_le (x := tn (S 2 0)) (tgt := 34) hx hb (by omega) dX7_isWhole_4 (by decide) (fun c1 => ?_) (fun c1 => ?_)
  · refine lv_iconst (v := nI 0) hx hb dX7_isWhole_34 (by decide) ?_
    exact x_zret hx hb hr hlocks () hM rfl (show nI 0 = zb (¬ (tn (S 2 0)) = 0 ∧ ¬ (tn (S 5 0)) = 0 ∧ ((tn (S 12 0)) = 0 ∨ xsum (S 14) (tn (S 12 0)) = nI 10)) from by (first | exact zb_t' ⟨by omega, by omega, Or.inl (by omega)⟩ | exact zb_t' ⟨by omega, by omega, Or.inr (by assumption)⟩ | exact zb_f' (fun z => z.1 (by omega)) | exact zb_f' (fun z => z.2.1 (by omega)) | exact zb_f' (fun z => z.2.2.elim (fun w => absurd w (by omega)) (fun w => absurd w (by assumption))))) dX7_isWhole_35
  · refine lv_aload_n hx hb dX7_isWhole_7 rfl (lv_at hl 0 rfl) ?_
    refine x_get hx hb hts iwX7_isWhole_X7 hown hM 0 0 rfl rfl rfl 1 (by decide) (hts _ lkX7_isWhole_49) (fun _ h => h) rfl dX7_isWhole_8 ?_
    refine x_cast (y := nI (tn (S 5 0))) (okT_1 hT) ?_
    refine x_if_le (x := tn (S 5 0)) (tgt := 34) hx hb (by omega) dX7_isWhole_11 (by decide) (fun c2 => ?_) (fun c2 => ?_)
    · refine lv_iconst (v := nI 0) hx hb dX7_isWhole_34 (by decide) ?_
      exact x_zret hx hb hr hlocks () hM rfl (show nI 0 = zb (¬ (tn (S 2 0)) = 0 ∧ ¬ (tn (S 5 0)) = 0 ∧ ((tn (S 12 0)) = 0 ∨ xsum (S 14) (tn (S 12 0)) = nI 10)) from by (first | exact zb_t' ⟨by omega, by omega, Or.inl (by omega)⟩ | exact zb_t' ⟨by omega, by omega, Or.inr (by assumption)⟩ | exact zb_f' (fun z => z.1 (by omega)) | exact zb_f' (fun z => z.2.1 (by omega)) | exact zb_f' (fun z => z.2.2.elim (fun w => absurd w (by omega)) (fun w => absurd w (by assumption))))) dX7_isWhole_35
    · refine lv_aload_n hx hb dX7_isWhole_14 rfl (lv_at hl 0 rfl) ?_
      refine x_get hx hb hts iwX7_isWhole_X7 hown hM 0 0 rfl rfl rfl 3 (by decide) (hts _ lkX7_isWhole_55) (fun _ h => h) rfl dX7_isWhole_15 ?_
      refine x_cast (y := nI (tn (S 12 0))) (okT_3 hT) ?_
      refine x_if_eq (x := tn (S 12 0)) (tgt := 30) hx hb (by omega) dX7_isWhole_18 (by decide) (fun c3 => ?_) (fun c3 => ?_)
      · refine lv_iconst (v := nI 1) hx hb dX7_isWhole_30 (by decide) ?_
        refine lv_goto (tgt := 35) hx hb dX7_isWhole_31 (by decide) ?_
        exact x_zret hx hb hr hlocks () hM rfl (show nI 1 = zb (¬ (tn (S 2 0)) = 0 ∧ ¬ (tn (S 5 0)) = 0 ∧ ((tn (S 12 0)) = 0 ∨ xsum (S 14) (tn (S 12 0)) = nI 10)) from by (first | exact zb_t' ⟨by omega, by omega, Or.inl (by omega)⟩ | exact zb_t' ⟨by omega, by omega, Or.inr (by assumption)⟩ | exact zb_f' (fun z => z.1 (by omega)) | exact zb_f' (fun z => z.2.1 (by omega)) | exact zb_f' (fun z => z.2.2.elim (fun w => absurd w (by omega)) (fun w => absurd w (by assumption))))) dX7_isWhole_35
      · refine lv_aload_n hx hb dX7_isWhole_21 rfl (lv_at hl 0 rfl) ?_
        refine x_calli (bc := [wst q ad X]) (br := []) hM [0] [] rfl rfl rfl (by decide) (x_runV (As := []) (rest := []) hfix (c_X7_chancesTogether l D q ad X S hT) (cwV 0 hts gX7_isWhole_X7_chancesTogether rfl rfl rfl (by decide +kernel) ⟨Nat.le_of_ble_eq_true rfl, Nat.le_of_ble_eq_true rfl⟩) hM [0] rfl rfl 0 0 rfl rfl rfl rfl rfl hl.1 rfl (Nat.le_of_ble_eq_true rfl) dX7_isWhole_22 ⟨Nat.le_of_ble_eq_true rfl, Nat.le_of_ble_eq_true rfl⟩) (fun r u H locs hq hM => ?_)
        subst hq
        have hM : xM D (TY q) [wst q ad X] A s.heap s H locs := hM
        refine lv_bipush (v := nI 10) hx hb dX7_isWhole_25 (by decide) ?_
        refine lv_icmp_ne (tgt := 34) hx hb dX7_isWhole_27 (by decide) (fun c4 => ?_) (fun c4 => ?_)
        · refine lv_iconst (v := nI 0) hx hb dX7_isWhole_34 (by decide) ?_
          exact x_zret hx hb hr hlocks () hM rfl (show nI 0 = zb (¬ (tn (S 2 0)) = 0 ∧ ¬ (tn (S 5 0)) = 0 ∧ ((tn (S 12 0)) = 0 ∨ xsum (S 14) (tn (S 12 0)) = nI 10)) from by (first | exact zb_t' ⟨by omega, by omega, Or.inl (by omega)⟩ | exact zb_t' ⟨by omega, by omega, Or.inr (by assumption)⟩ | exact zb_f' (fun z => z.1 (by omega)) | exact zb_f' (fun z => z.2.1 (by omega)) | exact zb_f' (fun z => z.2.2.elim (fun w => absurd w (by omega)) (fun w => absurd w (by assumption))))) dX7_isWhole_35
        · refine lv_iconst (v := nI 1) hx hb dX7_isWhole_30 (by decide) ?_
          refine lv_goto (tgt := 35) hx hb dX7_isWhole_31 (by decide) ?_
          exact x_zret hx hb hr hlocks () hM rfl (show nI 1 = zb (¬ (tn (S 2 0)) = 0 ∧ ¬ (tn (S 5 0)) = 0 ∧ ((tn (S 12 0)) = 0 ∨ xsum (S 14) (tn (S 12 0)) = nI 10)) from by (first | exact zb_t' ⟨by omega, by omega, Or.inl (by omega)⟩ | exact zb_t' ⟨by omega, by omega, Or.inr (by assumption)⟩ | exact zb_f' (fun z => z.1 (by omega)) | exact zb_f' (fun z => z.2.1 (by omega)) | exact zb_f' (fun z => z.2.2.elim (fun w => absurd w (by omega)) (fun w => absurd w (by assumption))))) dX7_isWhole_35
