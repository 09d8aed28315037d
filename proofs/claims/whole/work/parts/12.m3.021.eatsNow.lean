theorem dX9_eatsNow_0 : decode cX9_eatsNow 0 = .ok (.iload_n 3, 1) := by decide +kernel
theorem dX9_eatsNow_1 : decode cX9_eatsNow 1 = .ok (.ifCond .ge 20, 3) := by decide +kernel
theorem dX9_eatsNow_4 : decode cX9_eatsNow 4 = .ok (.iload_n 2, 1) := by decide +kernel
theorem dX9_eatsNow_5 : decode cX9_eatsNow 5 = .ok (.aload_n 0, 1) := by decide +kernel
theorem dX9_eatsNow_6 : decode cX9_eatsNow 6 = .ok (.getfield 40, 3) := by decide +kernel
theorem dX9_eatsNow_9 : decode cX9_eatsNow 9 = .ok (.iload_n 1, 1) := by decide +kernel
theorem dX9_eatsNow_10 : decode cX9_eatsNow 10 = .ok (.iaload, 1) := by decide +kernel
theorem dX9_eatsNow_11 : decode cX9_eatsNow 11 = .ok (.irem, 1) := by decide +kernel
theorem dX9_eatsNow_12 : decode cX9_eatsNow 12 = .ok (.ifCond .ne 7, 3) := by decide +kernel
theorem dX9_eatsNow_15 : decode cX9_eatsNow 15 = .ok (.iconst 1, 1) := by decide +kernel
theorem dX9_eatsNow_16 : decode cX9_eatsNow 16 = .ok (.goto 4, 3) := by decide +kernel
theorem dX9_eatsNow_19 : decode cX9_eatsNow 19 = .ok (.iconst 0, 1) := by decide +kernel
theorem dX9_eatsNow_20 : decode cX9_eatsNow 20 = .ok (.ireturn, 1) := by decide +kernel
theorem dX9_eatsNow_21 : decode cX9_eatsNow 21 = .ok (.ldc2_w 176, 3) := by decide +kernel
theorem dX9_eatsNow_24 : decode cX9_eatsNow 24 = .ok (.iload_n 3, 1) := by decide +kernel
theorem dX9_eatsNow_25 : decode cX9_eatsNow 25 = .ok (.i2l, 1) := by decide +kernel
theorem dX9_eatsNow_26 : decode cX9_eatsNow 26 = .ok (.lmul, 1) := by decide +kernel
theorem dX9_eatsNow_27 : decode cX9_eatsNow 27 = .ok (.ldc2_w 178, 3) := by decide +kernel
theorem dX9_eatsNow_30 : decode cX9_eatsNow 30 = .ok (.iload_n 2, 1) := by decide +kernel
theorem dX9_eatsNow_31 : decode cX9_eatsNow 31 = .ok (.i2l, 1) := by decide +kernel
theorem dX9_eatsNow_32 : decode cX9_eatsNow 32 = .ok (.lmul, 1) := by decide +kernel
theorem dX9_eatsNow_33 : decode cX9_eatsNow 33 = .ok (.ladd, 1) := by decide +kernel
theorem dX9_eatsNow_34 : decode cX9_eatsNow 34 = .ok (.ldc2_w 180, 3) := by decide +kernel
theorem dX9_eatsNow_37 : decode cX9_eatsNow 37 = .ok (.iload_n 1, 1) := by decide +kernel
theorem dX9_eatsNow_38 : decode cX9_eatsNow 38 = .ok (.i2l, 1) := by decide +kernel
theorem dX9_eatsNow_39 : decode cX9_eatsNow 39 = .ok (.lmul, 1) := by decide +kernel
theorem dX9_eatsNow_40 : decode cX9_eatsNow 40 = .ok (.ladd, 1) := by decide +kernel
theorem dX9_eatsNow_41 : decode cX9_eatsNow 41 = .ok (.lconst 1, 1) := by decide +kernel
theorem dX9_eatsNow_42 : decode cX9_eatsNow 42 = .ok (.ladd, 1) := by decide +kernel
theorem dX9_eatsNow_43 : decode cX9_eatsNow 43 = .ok (.lstore 4, 2) := by decide +kernel
theorem dX9_eatsNow_45 : decode cX9_eatsNow 45 = .ok (.lload 4, 2) := by decide +kernel
theorem dX9_eatsNow_47 : decode cX9_eatsNow 47 = .ok (.lload 4, 2) := by decide +kernel
theorem dX9_eatsNow_49 : decode cX9_eatsNow 49 = .ok (.lmul, 1) := by decide +kernel
theorem dX9_eatsNow_50 : decode cX9_eatsNow 50 = .ok (.ldc2_w 182, 3) := by decide +kernel
theorem dX9_eatsNow_53 : decode cX9_eatsNow 53 = .ok (.lrem, 1) := by decide +kernel
theorem dX9_eatsNow_54 : decode cX9_eatsNow 54 = .ok (.aload_n 0, 1) := by decide +kernel
theorem dX9_eatsNow_55 : decode cX9_eatsNow 55 = .ok (.getfield 40, 3) := by decide +kernel
theorem dX9_eatsNow_58 : decode cX9_eatsNow 58 = .ok (.iload_n 1, 1) := by decide +kernel
theorem dX9_eatsNow_59 : decode cX9_eatsNow 59 = .ok (.iaload, 1) := by decide +kernel
theorem dX9_eatsNow_60 : decode cX9_eatsNow 60 = .ok (.i2l, 1) := by decide +kernel
theorem dX9_eatsNow_61 : decode cX9_eatsNow 61 = .ok (.lrem, 1) := by decide +kernel
theorem dX9_eatsNow_62 : decode cX9_eatsNow 62 = .ok (.lconst 0, 1) := by decide +kernel
theorem dX9_eatsNow_63 : decode cX9_eatsNow 63 = .ok (.lcmp, 1) := by decide +kernel
theorem dX9_eatsNow_64 : decode cX9_eatsNow 64 = .ok (.ifCond .ne 7, 3) := by decide +kernel
theorem dX9_eatsNow_67 : decode cX9_eatsNow 67 = .ok (.iconst 1, 1) := by decide +kernel
theorem dX9_eatsNow_68 : decode cX9_eatsNow 68 = .ok (.goto 4, 3) := by decide +kernel
theorem dX9_eatsNow_71 : decode cX9_eatsNow 71 = .ok (.iconst 0, 1) := by decide +kernel
theorem dX9_eatsNow_72 : decode cX9_eatsNow 72 = .ok (.ireturn, 1) := by decide +kernel
theorem lkX9_eatsNow_40 : Cond.fieldLink RX9 40 "LeftAtFiveModel" "paces" "[I" ∈ wsX9_eatsNow := by decide +kernel
theorem iwX9_eatsNow_X9 : ∀ w ∈ wsX90, w ∈ wsX9_eatsNow := by decide +kernel
set_option maxHeartbeats 4000000 in
set_option maxRecDepth 100000 in
theorem c_X9_eatsNow (l : Launch) (D : va_G) (q : Nat → ClassId) (ad : Nat → Nat) (σ0 : Int32) (σ1 : Nat → Int32) (σ2 : Nat → Int32) (σ3 : Nat → Int32) (σ4 : Nat → Int32) (σ5 : Nat → Int32) (σ6 : Nat → Int32) (σ7 : Nat → Int32) (σ8 : Nat → Int32) (σ9 : Nat → Int32) (σ10 : Nat → Int32) (σ11 : Nat → Int32) (σ12 : Nat → Int32) (σ13 : Nat → Int32) (σ14 : Nat → Int32) (σ15 : Nat → Int32) (σ16 : Nat → Int32) (σ17 : Nat → Int32) (σ18 : Nat → Int32) (σ19 : Nat → Int32) (σ20 : Int32) (σ21 : Int32) (σ22 : Int32) (σ23 : Nat → Int32) (σ24 : Int32) (σ25 : Int32) (σ26 : Nat → Int32) (σ27 : Nat → Int32) (σ28 : Nat → Int32) (σ29 : Nat → Int32) (σ30 : Nat → Int32) (i : Nat) (t : Nat) (z : Int32) (hi0 : i < 16) (ht0 : t < 1000) (hpa : σ11 i = nI (tn (σ11 i)) ∧ 0 < tn (σ11 i) ∧ tn (σ11 i) ≤ 20) : xC l yX9_eatsNow wsX9_eatsNow ({ frames := 0, cells := 0, slots := 0, locals := 0 }) D (TY q) [w9 q ad σ0 σ1 σ2 σ3 σ4 σ5 σ6 σ7 σ8 σ9 σ10 σ11 σ12 σ13 σ14 σ15 σ16 σ17 σ18 σ19 σ20 σ21 σ22 σ23 σ24 σ25 σ26 σ27 σ28 σ29 σ30] [.ref (ad 0), .int (nI i), .int (nI t), .int z] (xQi D (TY q) (fun (r : Int32) (_ : Unit) => r = zb (xeats (σ11 i) i t z)) (fun _ => [w9 q ad σ0 σ1 σ2 σ3 σ4 σ5 σ6 σ7 σ8 σ9 σ10 σ11 σ12 σ13 σ14 σ15 σ16 σ17 σ18 σ19 σ20 σ21 σ22 σ23 σ24 σ25 σ26 σ27 σ28 σ29 σ30])) 0 0 := by
  refine x_enter (cc := cX9_eatsNow) (maxL := 6) (ret := (some .boolean)) (by decide) rfl (Nat.le_of_ble_eq_true rfl) ?_
  intro p e s m below meth c A ls H locs hfix hr hlocks hinit hM hl
  obtain ⟨hx, hb, hml, hown, hts⟩ := id hfix
  have hl : lv_has ls 6 [(0, .ref (ad 0)), (1, .int (nI i)), (2, .int (nI t)), (3, .int z)] := hl
  have hpa1 := hpa.2.1
  have hpa2 := hpa.2.2
  refine lv_iload_n hx hb dX9_eatsNow_0 rfl (lv_at hl 3 rfl) ?_
  refine lv_if_ge (tgt := 21) hx hb dX9_eatsNow_1 (by decide) (fun c1 => ?_) (fun c1 => ?_)
  · refine lv_ldc2 (v := 7919) hx hb hown (hts (.constantLong RX9 176 (7919)) (by decide +kernel)) dX9_eatsNow_21 ?_
    refine lv_iload_n hx hb dX9_eatsNow_24 rfl (lv_at hl 3 rfl) ?_
    refine x_i2l hx hb dX9_eatsNow_25 ?_
    refine lv_lmul hx hb dX9_eatsNow_26 ?_
    refine lv_ldc2 (v := 6151) hx hb hown (hts (.constantLong RX9 178 (6151)) (by decide +kernel)) dX9_eatsNow_27 ?_
    refine lv_iload_n hx hb dX9_eatsNow_30 rfl (lv_at hl 2 rfl) ?_
    refine x_i2l hx hb dX9_eatsNow_31 ?_
    refine lv_lmul hx hb dX9_eatsNow_32 ?_
    refine lv_ladd hx hb dX9_eatsNow_33 ?_
    refine lv_ldc2 (v := 3571) hx hb hown (hts (.constantLong RX9 180 (3571)) (by decide +kernel)) dX9_eatsNow_34 ?_
    refine lv_iload_n hx hb dX9_eatsNow_37 rfl (lv_at hl 1 rfl) ?_
    refine x_i2l hx hb dX9_eatsNow_38 ?_
    refine lv_lmul hx hb dX9_eatsNow_39 ?_
    refine lv_ladd hx hb dX9_eatsNow_40 ?_
    refine lv_lconst (v := 1) hx hb dX9_eatsNow_41 (by decide) ?_
    refine lv_ladd hx hb dX9_eatsNow_42 ?_
    refine lv_lstore (lv' := [(4, .long (((((7919 : Int64) * z.toInt64) + ((6151 : Int64) * ((nI t).toInt64))) + ((3571 : Int64) * ((nI i).toInt64))) + (1 : Int64))), (0, .ref (ad 0)), (1, .int (nI i)), (2, .int (nI t)), (3, .int z)]) hx hb dX9_eatsNow_43 hl (by decide) rfl (fun ls hl => ?_)
    refine lv_lload hx hb dX9_eatsNow_45 (lv_at hl 0 rfl) ?_
    refine lv_lload hx hb dX9_eatsNow_47 (lv_at hl 0 rfl) ?_
    refine lv_lmul hx hb dX9_eatsNow_49 ?_
    refine lv_ldc2 (v := 65521) hx hb hown (hts (.constantLong RX9 182 (65521)) (by decide +kernel)) dX9_eatsNow_50 ?_
    refine lv_lrem hx hb dX9_eatsNow_53 (by decide) ?_
    refine lv_aload_n hx hb dX9_eatsNow_54 rfl (lv_at hl 1 rfl) ?_
    refine x_get hx hb hts iwX9_eatsNow_X9 hown hM 0 0 rfl rfl rfl 11 (by decide) (hts _ lkX9_eatsNow_40) (fun _ h => h) rfl dX9_eatsNow_55 ?_
    refine lv_iload_n hx hb dX9_eatsNow_58 rfl (lv_at hl 2 rfl) ?_
    refine x_iald hx hb hM 0 11 0 (f := σ11) rfl rfl rfl (t := i) (by omega) (by decide) dX9_eatsNow_59 ?_
    refine x_i2l hx hb dX9_eatsNow_60 ?_
    refine lv_lrem hx hb dX9_eatsNow_61 (x_ne64 hpa.1 hpa.2.1 hpa.2.2) ?_
    refine lv_lconst (v := 0) hx hb dX9_eatsNow_62 (by decide) ?_
    refine x_lcmp_ne (tgt := 71) hx hb dX9_eatsNow_63 dX9_eatsNow_64 (by decide) (fun c2 => ?_) (fun c2 => ?_)
    · refine lv_iconst (v := nI 0) hx hb dX9_eatsNow_71 (by decide) ?_
      exact x_zret hx hb hr hlocks () hM rfl (show nI 0 = zb (xeats (σ11 i) i t z) from by (first | exact zb_t' (Or.inr ⟨Int32.not_lt.mpr (by assumption), by assumption⟩) | exact zb_f' (fun z9 => z9.elim (fun w => absurd w.1 (Int32.not_lt.mpr (by assumption))) (fun w => absurd w.2 (by assumption))))) dX9_eatsNow_72
    · refine lv_iconst (v := nI 1) hx hb dX9_eatsNow_67 (by decide) ?_
      refine lv_goto (tgt := 72) hx hb dX9_eatsNow_68 (by decide) ?_
      exact x_zret hx hb hr hlocks () hM rfl (show nI 1 = zb (xeats (σ11 i) i t z) from by (first | exact zb_t' (Or.inr ⟨Int32.not_lt.mpr (by assumption), by assumption⟩) | exact zb_f' (fun z9 => z9.elim (fun w => absurd w.1 (Int32.not_lt.mpr (by assumption))) (fun w => absurd w.2 (by assumption))))) dX9_eatsNow_72
  · refine lv_iload_n hx hb dX9_eatsNow_4 rfl (lv_at hl 2 rfl) ?_
    refine lv_aload_n hx hb dX9_eatsNow_5 rfl (lv_at hl 0 rfl) ?_
    refine x_get hx hb hts iwX9_eatsNow_X9 hown hM 0 0 rfl rfl rfl 11 (by decide) (hts _ lkX9_eatsNow_40) (fun _ h => h) rfl dX9_eatsNow_6 ?_
    refine lv_iload_n hx hb dX9_eatsNow_9 rfl (lv_at hl 1 rfl) ?_
    refine x_iald hx hb hM 0 11 0 (f := σ11) rfl rfl rfl (t := i) (by omega) (by decide) dX9_eatsNow_10 ?_
    refine x_cast (y := nI (tn (σ11 i))) hpa.1 ?_
    refine x_irem (x := t) (y := tn (σ11 i)) hx hb (by omega) (by omega) (by omega) dX9_eatsNow_11 ?_
    refine x_if_ne (x := t % (tn (σ11 i))) (tgt := 19) hx hb (Nat.lt_of_lt_of_le (Nat.mod_lt _ (by omega)) (by omega)) dX9_eatsNow_12 (by decide) (fun c3 => ?_) (fun c3 => ?_)
    · refine lv_iconst (v := nI 0) hx hb dX9_eatsNow_19 (by decide) ?_
      exact x_zret hx hb hr hlocks () hM rfl (show nI 0 = zb (xeats (σ11 i) i t z) from by (first | exact zb_t' (Or.inl ⟨Int32.not_le.mp (by assumption), by assumption⟩) | exact zb_f' (fun z9 => z9.elim (fun w => absurd w.2 (by assumption)) (fun w => absurd (Int32.not_le.mp (by assumption)) w.1)))) dX9_eatsNow_20
    · refine lv_iconst (v := nI 1) hx hb dX9_eatsNow_15 (by decide) ?_
      refine lv_goto (tgt := 20) hx hb dX9_eatsNow_16 (by decide) ?_
      exact x_zret hx hb hr hlocks () hM rfl (show nI 1 = zb (xeats (σ11 i) i t z) from by (first | exact zb_t' (Or.inl ⟨Int32.not_le.mp (by assumption), by assumption⟩) | exact zb_f' (fun z9 => z9.elim (fun w => absurd w.2 (by assumption)) (fun w => absurd (Int32.not_le.mp (by assumption)) w.1)))) dX9_eatsNow_20
