theorem dX6_winningMeal_0 : decode cX6_winningMeal 0 = .ok (.iconst 1, 1) := by decide +kernel
theorem dX6_winningMeal_1 : decode cX6_winningMeal 1 = .ok (.istore 4, 2) := by decide +kernel
theorem dX6_winningMeal_3 : decode cX6_winningMeal 3 = .ok (.iload 4, 2) := by decide +kernel
theorem dX6_winningMeal_5 : decode cX6_winningMeal 5 = .ok (.iload_n 3, 1) := by decide +kernel
theorem dX6_winningMeal_6 : decode cX6_winningMeal 6 = .ok (.if_icmp .gt 61, 3) := by decide +kernel
theorem dX6_winningMeal_9 : decode cX6_winningMeal 9 = .ok (.iload 4, 2) := by decide +kernel
theorem dX6_winningMeal_11 : decode cX6_winningMeal 11 = .ok (.iload_n 1, 1) := by decide +kernel
theorem dX6_winningMeal_12 : decode cX6_winningMeal 12 = .ok (.if_icmp .gt 55, 3) := by decide +kernel
theorem dX6_winningMeal_15 : decode cX6_winningMeal 15 = .ok (.iload_n 1, 1) := by decide +kernel
theorem dX6_winningMeal_16 : decode cX6_winningMeal 16 = .ok (.iload 4, 2) := by decide +kernel
theorem dX6_winningMeal_18 : decode cX6_winningMeal 18 = .ok (.isub, 1) := by decide +kernel
theorem dX6_winningMeal_19 : decode cX6_winningMeal 19 = .ok (.bipush 10, 2) := by decide +kernel
theorem dX6_winningMeal_21 : decode cX6_winningMeal 21 = .ok (.imul, 1) := by decide +kernel
theorem dX6_winningMeal_22 : decode cX6_winningMeal 22 = .ok (.iload 4, 2) := by decide +kernel
theorem dX6_winningMeal_24 : decode cX6_winningMeal 24 = .ok (.iadd, 1) := by decide +kernel
theorem dX6_winningMeal_25 : decode cX6_winningMeal 25 = .ok (.istore 5, 2) := by decide +kernel
theorem dX6_winningMeal_27 : decode cX6_winningMeal 27 = .ok (.iload 4, 2) := by decide +kernel
theorem dX6_winningMeal_29 : decode cX6_winningMeal 29 = .ok (.iload_n 2, 1) := by decide +kernel
theorem dX6_winningMeal_30 : decode cX6_winningMeal 30 = .ok (.if_icmp .eq 31, 3) := by decide +kernel
theorem dX6_winningMeal_33 : decode cX6_winningMeal 33 = .ok (.iload 5, 2) := by decide +kernel
theorem dX6_winningMeal_35 : decode cX6_winningMeal 35 = .ok (.ifCond .lt 26, 3) := by decide +kernel
theorem dX6_winningMeal_38 : decode cX6_winningMeal 38 = .ok (.iload 5, 2) := by decide +kernel
theorem dX6_winningMeal_40 : decode cX6_winningMeal 40 = .ok (.aload_n 0, 1) := by decide +kernel
theorem dX6_winningMeal_41 : decode cX6_winningMeal 41 = .ok (.getfield 18, 3) := by decide +kernel
theorem dX6_winningMeal_44 : decode cX6_winningMeal 44 = .ok (.arraylength, 1) := by decide +kernel
theorem dX6_winningMeal_45 : decode cX6_winningMeal 45 = .ok (.if_icmp .ge 16, 3) := by decide +kernel
theorem dX6_winningMeal_48 : decode cX6_winningMeal 48 = .ok (.aload_n 0, 1) := by decide +kernel
theorem dX6_winningMeal_49 : decode cX6_winningMeal 49 = .ok (.getfield 18, 3) := by decide +kernel
theorem dX6_winningMeal_52 : decode cX6_winningMeal 52 = .ok (.iload 5, 2) := by decide +kernel
theorem dX6_winningMeal_54 : decode cX6_winningMeal 54 = .ok (.baload, 1) := by decide +kernel
theorem dX6_winningMeal_55 : decode cX6_winningMeal 55 = .ok (.ifCond .ne 6, 3) := by decide +kernel
theorem dX6_winningMeal_58 : decode cX6_winningMeal 58 = .ok (.iload 4, 2) := by decide +kernel
theorem dX6_winningMeal_60 : decode cX6_winningMeal 60 = .ok (.ireturn, 1) := by decide +kernel
theorem dX6_winningMeal_61 : decode cX6_winningMeal 61 = .ok (.iinc 4 1, 3) := by decide +kernel
theorem dX6_winningMeal_64 : decode cX6_winningMeal 64 = .ok (.goto (-61), 3) := by decide +kernel
theorem dX6_winningMeal_67 : decode cX6_winningMeal 67 = .ok (.iconst 0, 1) := by decide +kernel
theorem dX6_winningMeal_68 : decode cX6_winningMeal 68 = .ok (.ireturn, 1) := by decide +kernel
theorem lkX6_winningMeal_18 : Cond.fieldLink RX6 18 "LeftAtFive$Shops" "wins" "[Z" ∈ wsX6_winningMeal := by decide +kernel
theorem iwX6_winningMeal_X6 : ∀ w ∈ wsX60, w ∈ wsX6_winningMeal := by decide +kernel
set_option maxHeartbeats 2000000 in
set_option maxRecDepth 100000 in
theorem c_X6_winningMeal (l : Launch) (D : va_G) (q : Nat → ClassId) (ad : Nat → Nat) (τ0 : Int32) (τ1 : Int64) (τ2 : Int32) (τ3 : Nat → Int32) (τ4 : Nat → Int32) (τ5 : Nat → Int32) (v : Nat) (t : Nat) (mm : Nat) (hn9 : v ≤ 99) (hm9 : mm ≤ 9) (ht9 : t ≤ 9) : xC l yX6_winningMeal wsX6_winningMeal ({ frames := 0, cells := 0, slots := 0, locals := 0 }) D (TY q) [w6 q ad τ0 τ1 τ2 τ3 τ4 τ5] [.ref (ad 0), .int (nI v), .int (nI t), .int (nI mm)] (xQi D (TY q) (fun (r : Int32) (_ : Unit) => r = nI (xwe τ5 v t mm)) (fun _ => [w6 q ad τ0 τ1 τ2 τ3 τ4 τ5])) 0 0 := by
  refine x_enter (cc := cX6_winningMeal) (maxL := 6) (ret := (some .int)) (by decide) rfl (Nat.le_of_ble_eq_true rfl) ?_
  intro p e s m below meth c A ls H locs hfix hr hlocks hinit hM hl
  obtain ⟨hx, hb, hml, hown, hts⟩ := id hfix
  have hl : lv_has ls 6 [(0, .ref (ad 0)), (1, .int (nI v)), (2, .int (nI t)), (3, .int (nI mm))] := hl
  refine lv_iconst (v := nI 1) hx hb dX6_winningMeal_0 (by decide) ?_
  refine lv_istore (lv' := [(4, .int (nI 1)), (0, .ref (ad 0)), (1, .int (nI v)), (2, .int (nI t)), (3, .int (nI mm))]) hx hb dX6_winningMeal_1 hl (by decide) rfl (fun ls hl => ?_)
  refine x_loop (ι := Nat) (fun j => [(0, .ref (ad 0)), (1, .int (nI v)), (2, .int (nI t)), (3, .int (nI mm)), (4, .int (nI (j + 1)))]) (fun j => [w6 q ad τ0 τ1 τ2 τ3 τ4 τ5]) (fun j => j ≤ mm ∧ xwe τ5 v t j = 0) (fun j => mm - j) 0 (⟨Nat.zero_le _, rfl⟩) hM (lv_sub hl [1, 2, 3, 4, 0] rfl) ?_
  intro j hI2 ih1 H locs hM ls hl
  have hM : xM D (TY q) [w6 q ad τ0 τ1 τ2 τ3 τ4 τ5] A s.heap s H locs := hM
  have hl : lv_has ls 6 [(0, .ref (ad 0)), (1, .int (nI v)), (2, .int (nI t)), (3, .int (nI mm)), (4, .int (nI (j + 1)))] := hl
  have hI2 : j ≤ mm ∧ xwe τ5 v t j = 0 := hI2
  obtain ⟨hI2_0, hI2_1⟩ := id hI2
  have hj9 := hI2_0
  have hx9 := hI2_1
  try dsimp only
  refine lv_iload hx hb dX6_winningMeal_3 (lv_at hl 4 rfl) ?_
  refine lv_iload_n hx hb dX6_winningMeal_5 rfl (lv_at hl 3 rfl) ?_
  refine x_icmp_gt (x := j + 1) (y := mm) (tgt := 67) hx hb (by omega) (by omega) dX6_winningMeal_6 (by decide) (fun c3 => ?_) (fun c3 => ?_)
  · refine lv_iconst (v := nI 0) hx hb dX6_winningMeal_67 (by decide) ?_
    exact x_iret hx hb hr hlocks () hM (show nI 0 = nI (xwe τ5 v t mm) from by (first | exact congrArg nI (xwe_at hx9 (by omega) (by assumption) (by assumption) (by omega)).symm | exact congrArg nI (xwe_end hx9 (by omega) hj9).symm | (rw [show mm = j by omega, hx9]))) dX6_winningMeal_68
  · refine lv_iload hx hb dX6_winningMeal_9 (lv_at hl 4 rfl) ?_
    refine lv_iload_n hx hb dX6_winningMeal_11 rfl (lv_at hl 1 rfl) ?_
    refine x_icmp_gt (x := j + 1) (y := v) (tgt := 67) hx hb (by omega) (by omega) dX6_winningMeal_12 (by decide) (fun c4 => ?_) (fun c4 => ?_)
    · refine lv_iconst (v := nI 0) hx hb dX6_winningMeal_67 (by decide) ?_
      exact x_iret hx hb hr hlocks () hM (show nI 0 = nI (xwe τ5 v t mm) from by (first | exact congrArg nI (xwe_at hx9 (by omega) (by assumption) (by assumption) (by omega)).symm | exact congrArg nI (xwe_end hx9 (by omega) hj9).symm | (rw [show mm = j by omega, hx9]))) dX6_winningMeal_68
    · refine lv_iload_n hx hb dX6_winningMeal_15 rfl (lv_at hl 1 rfl) ?_
      refine lv_iload hx hb dX6_winningMeal_16 (lv_at hl 4 rfl) ?_
      refine x_isub (x := v) (y := j + 1) hx hb (by omega) dX6_winningMeal_18 ?_
      refine lv_bipush (v := nI 10) hx hb dX6_winningMeal_19 (by decide) ?_
      refine x_imul (x := v - (j + 1)) (y := 10) hx hb dX6_winningMeal_21 ?_
      refine lv_iload hx hb dX6_winningMeal_22 (lv_at hl 4 rfl) ?_
      refine x_iadd (x := (v - (j + 1)) * 10) (y := j + 1) hx hb dX6_winningMeal_24 ?_
      refine lv_istore (lv' := [(5, .int (nI ((v - (j + 1)) * 10 + (j + 1)))), (0, .ref (ad 0)), (1, .int (nI v)), (2, .int (nI t)), (3, .int (nI mm)), (4, .int (nI (j + 1)))]) hx hb dX6_winningMeal_25 hl (by decide) rfl (fun ls hl => ?_)
      refine lv_iload hx hb dX6_winningMeal_27 (lv_at hl 5 rfl) ?_
      refine lv_iload_n hx hb dX6_winningMeal_29 rfl (lv_at hl 3 rfl) ?_
      refine x_icmp_eq (x := j + 1) (y := t) (tgt := 61) hx hb (by omega) (by omega) dX6_winningMeal_30 (by decide) (fun c5 => ?_) (fun c5 => ?_)
      · refine lv_iinc (v := nI (j + 1 + 1)) (lv' := [(4, .int (nI (j + 1 + 1))), (5, .int (nI ((v - (j + 1)) * 10 + (j + 1)))), (0, .ref (ad 0)), (1, .int (nI v)), (2, .int (nI t)), (3, .int (nI mm))]) hx hb dX6_winningMeal_61 hl (k := 5) rfl (x_inc _ 1) (by decide) rfl (fun ls hl => ?_)
        refine lv_goto (tgt := 3) hx hb dX6_winningMeal_64 (by decide) ?_
        have hl : lv_has ls 6 [(0, .ref (ad 0)), (1, .int (nI v)), (2, .int (nI t)), (3, .int (nI mm)), (4, .int (nI (j + 1 + 1)))] := lv_sub hl [2, 3, 4, 5, 0] rfl
        exact ih1 (j + 1) (show mm - (j + 1) < mm - j from by omega) (show (j + 1) ≤ mm ∧ xwe τ5 v t (j + 1) = 0 from ⟨by omega, xwe_0 hx9 (by first | exact (fun z => z.2.1 (by assumption)) | exact (fun z => absurd z.2.2 (by assumption)) | exact (fun _ => by omega))⟩) _ _ hM _ hl
      · refine lv_iload hx hb dX6_winningMeal_33 (lv_at hl 0 rfl) ?_
        refine x_if_lt (x := (v - (j + 1)) * 10 + (j + 1)) (tgt := 61) hx hb (by omega) dX6_winningMeal_35 (by decide) ?_
        refine lv_iload hx hb dX6_winningMeal_38 (lv_at hl 0 rfl) ?_
        refine lv_aload_n hx hb dX6_winningMeal_40 rfl (lv_at hl 1 rfl) ?_
        refine x_get hx hb hts iwX6_winningMeal_X6 hown hM 0 0 rfl rfl rfl 5 (by decide) (hts _ lkX6_winningMeal_18) (fun _ h => h) rfl dX6_winningMeal_41 ?_
        refine x_alen hx hb hM 0 3 2 rfl rfl rfl dX6_winningMeal_44 ?_
        refine x_icmp_ge (x := (v - (j + 1)) * 10 + (j + 1)) (y := 1000) (tgt := 61) hx hb (by omega) (by omega) dX6_winningMeal_45 (by decide) (fun c6 => ?_) (fun c6 => ?_)
        · refine lv_iinc (v := nI (j + 1 + 1)) (lv' := [(4, .int (nI (j + 1 + 1))), (5, .int (nI ((v - (j + 1)) * 10 + (j + 1)))), (0, .ref (ad 0)), (1, .int (nI v)), (2, .int (nI t)), (3, .int (nI mm))]) hx hb dX6_winningMeal_61 hl (k := 5) rfl (x_inc _ 1) (by decide) rfl (fun ls hl => ?_)
          refine lv_goto (tgt := 3) hx hb dX6_winningMeal_64 (by decide) ?_
          have hl : lv_has ls 6 [(0, .ref (ad 0)), (1, .int (nI v)), (2, .int (nI t)), (3, .int (nI mm)), (4, .int (nI (j + 1 + 1)))] := lv_sub hl [2, 3, 4, 5, 0] rfl
          exact ih1 (j + 1) (show mm - (j + 1) < mm - j from by omega) (show (j + 1) ≤ mm ∧ xwe τ5 v t (j + 1) = 0 from ⟨by omega, xwe_0 hx9 (by first | exact (fun z => z.2.1 (by assumption)) | exact (fun z => absurd z.2.2 (by assumption)) | exact (fun _ => by omega))⟩) _ _ hM _ hl
        · refine lv_aload_n hx hb dX6_winningMeal_48 rfl (lv_at hl 1 rfl) ?_
          refine x_get hx hb hts iwX6_winningMeal_X6 hown hM 0 0 rfl rfl rfl 5 (by decide) (hts _ lkX6_winningMeal_18) (fun _ h => h) rfl dX6_winningMeal_49 ?_
          refine lv_iload hx hb dX6_winningMeal_52 (lv_at hl 0 rfl) ?_
          refine x_zald hx hb hM 0 3 2 (f := τ5) rfl rfl rfl (t := (v - (j + 1)) * 10 + (j + 1)) (by omega) (by decide) dX6_winningMeal_54 ?_
          refine lv_if_ne (tgt := 61) hx hb dX6_winningMeal_55 (by decide) (fun c7 => ?_) (fun c7 => ?_)
          · refine lv_iinc (v := nI (j + 1 + 1)) (lv' := [(4, .int (nI (j + 1 + 1))), (5, .int (nI ((v - (j + 1)) * 10 + (j + 1)))), (0, .ref (ad 0)), (1, .int (nI v)), (2, .int (nI t)), (3, .int (nI mm))]) hx hb dX6_winningMeal_61 hl (k := 5) rfl (x_inc _ 1) (by decide) rfl (fun ls hl => ?_)
            refine lv_goto (tgt := 3) hx hb dX6_winningMeal_64 (by decide) ?_
            have hl : lv_has ls 6 [(0, .ref (ad 0)), (1, .int (nI v)), (2, .int (nI t)), (3, .int (nI mm)), (4, .int (nI (j + 1 + 1)))] := lv_sub hl [2, 3, 4, 5, 0] rfl
            exact ih1 (j + 1) (show mm - (j + 1) < mm - j from by omega) (show (j + 1) ≤ mm ∧ xwe τ5 v t (j + 1) = 0 from ⟨by omega, xwe_0 hx9 (by first | exact (fun z => z.2.1 (by assumption)) | exact (fun z => absurd z.2.2 (by assumption)) | exact (fun _ => by omega))⟩) _ _ hM _ hl
          · refine lv_iload hx hb dX6_winningMeal_58 (lv_at hl 5 rfl) ?_
            exact x_iret hx hb hr hlocks () hM (show nI (j + 1) = nI (xwe τ5 v t mm) from by (first | exact congrArg nI (xwe_at hx9 (by omega) (by assumption) (by assumption) (by omega)).symm | exact congrArg nI (xwe_end hx9 (by omega) hj9).symm | (rw [show mm = j by omega, hx9]))) dX6_winningMeal_60
