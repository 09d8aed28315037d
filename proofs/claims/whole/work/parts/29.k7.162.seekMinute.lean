theorem dX6_seekMinute_0 : decode cX6_seekMinute 0 = .ok (.ldc2_w 43, 3) := by decide +kernel
theorem dX6_seekMinute_3 : decode cX6_seekMinute 3 = .ok (.lstore 5, 2) := by decide +kernel
theorem dX6_seekMinute_5 : decode cX6_seekMinute 5 = .ok (.iconst 0, 1) := by decide +kernel
theorem dX6_seekMinute_6 : decode cX6_seekMinute 6 = .ok (.istore 7, 2) := by decide +kernel
theorem dX6_seekMinute_8 : decode cX6_seekMinute 8 = .ok (.iload 7, 2) := by decide +kernel
theorem dX6_seekMinute_10 : decode cX6_seekMinute 10 = .ok (.bipush 10, 2) := by decide +kernel
theorem dX6_seekMinute_12 : decode cX6_seekMinute 12 = .ok (.if_icmp .gt 69, 3) := by decide +kernel
theorem dX6_seekMinute_15 : decode cX6_seekMinute 15 = .ok (.iload_n 1, 1) := by decide +kernel
theorem dX6_seekMinute_16 : decode cX6_seekMinute 16 = .ok (.iload_n 2, 1) := by decide +kernel
theorem dX6_seekMinute_17 : decode cX6_seekMinute 17 = .ok (.iload_n 3, 1) := by decide +kernel
theorem dX6_seekMinute_18 : decode cX6_seekMinute 18 = .ok (.iload 7, 2) := by decide +kernel
theorem dX6_seekMinute_20 : decode cX6_seekMinute 20 = .ok (.imul, 1) := by decide +kernel
theorem dX6_seekMinute_21 : decode cX6_seekMinute 21 = .ok (.isub, 1) := by decide +kernel
theorem dX6_seekMinute_22 : decode cX6_seekMinute 22 = .ok (.iconst 0, 1) := by decide +kernel
theorem dX6_seekMinute_23 : decode cX6_seekMinute 23 = .ok (.invokestatic 45, 3) := by decide +kernel
theorem dX6_seekMinute_26 : decode cX6_seekMinute 26 = .ok (.isub, 1) := by decide +kernel
theorem dX6_seekMinute_27 : decode cX6_seekMinute 27 = .ok (.i2l, 1) := by decide +kernel
theorem dX6_seekMinute_28 : decode cX6_seekMinute 28 = .ok (.lload 5, 2) := by decide +kernel
theorem dX6_seekMinute_30 : decode cX6_seekMinute 30 = .ok (.lmul, 1) := by decide +kernel
theorem dX6_seekMinute_31 : decode cX6_seekMinute 31 = .ok (.lstore 8, 2) := by decide +kernel
theorem dX6_seekMinute_33 : decode cX6_seekMinute 33 = .ok (.iload 7, 2) := by decide +kernel
theorem dX6_seekMinute_35 : decode cX6_seekMinute 35 = .ok (.ifCond .eq 13, 3) := by decide +kernel
theorem dX6_seekMinute_38 : decode cX6_seekMinute 38 = .ok (.lload 8, 2) := by decide +kernel
theorem dX6_seekMinute_40 : decode cX6_seekMinute 40 = .ok (.aload_n 0, 1) := by decide +kernel
theorem dX6_seekMinute_41 : decode cX6_seekMinute 41 = .ok (.getfield 51, 3) := by decide +kernel
theorem dX6_seekMinute_44 : decode cX6_seekMinute 44 = .ok (.lcmp, 1) := by decide +kernel
theorem dX6_seekMinute_45 : decode cX6_seekMinute 45 = .ok (.ifCond .le 15, 3) := by decide +kernel
theorem dX6_seekMinute_48 : decode cX6_seekMinute 48 = .ok (.aload_n 0, 1) := by decide +kernel
theorem dX6_seekMinute_49 : decode cX6_seekMinute 49 = .ok (.iload 7, 2) := by decide +kernel
theorem dX6_seekMinute_51 : decode cX6_seekMinute 51 = .ok (.putfield 55, 3) := by decide +kernel
theorem dX6_seekMinute_54 : decode cX6_seekMinute 54 = .ok (.aload_n 0, 1) := by decide +kernel
theorem dX6_seekMinute_55 : decode cX6_seekMinute 55 = .ok (.lload 8, 2) := by decide +kernel
theorem dX6_seekMinute_57 : decode cX6_seekMinute 57 = .ok (.putfield 51, 3) := by decide +kernel
theorem dX6_seekMinute_60 : decode cX6_seekMinute 60 = .ok (.lload 5, 2) := by decide +kernel
theorem dX6_seekMinute_62 : decode cX6_seekMinute 62 = .ok (.ldc2_w 58, 3) := by decide +kernel
theorem dX6_seekMinute_65 : decode cX6_seekMinute 65 = .ok (.ldiv, 1) := by decide +kernel
theorem dX6_seekMinute_66 : decode cX6_seekMinute 66 = .ok (.bipush 10, 2) := by decide +kernel
theorem dX6_seekMinute_68 : decode cX6_seekMinute 68 = .ok (.iload 4, 2) := by decide +kernel
theorem dX6_seekMinute_70 : decode cX6_seekMinute 70 = .ok (.isub, 1) := by decide +kernel
theorem dX6_seekMinute_71 : decode cX6_seekMinute 71 = .ok (.i2l, 1) := by decide +kernel
theorem dX6_seekMinute_72 : decode cX6_seekMinute 72 = .ok (.lmul, 1) := by decide +kernel
theorem dX6_seekMinute_73 : decode cX6_seekMinute 73 = .ok (.lstore 5, 2) := by decide +kernel
theorem dX6_seekMinute_75 : decode cX6_seekMinute 75 = .ok (.iinc 7 1, 3) := by decide +kernel
theorem dX6_seekMinute_78 : decode cX6_seekMinute 78 = .ok (.goto (-70), 3) := by decide +kernel
theorem dX6_seekMinute_81 : decode cX6_seekMinute 81 = .ok (.return_, 1) := by decide +kernel
theorem lkX6_seekMinute_51 : Cond.fieldLink RX6 51 "LeftAtFive$Shops" "bestGain" "J" ∈ wsX6_seekMinute := by decide +kernel
theorem lkX6_seekMinute_55 : Cond.fieldLink RX6 55 "LeftAtFive$Shops" "bestMinute" "I" ∈ wsX6_seekMinute := by decide +kernel
theorem iwX6_seekMinute_X6 : ∀ w ∈ wsX60, w ∈ wsX6_seekMinute := by decide +kernel
set_option maxHeartbeats 2000000 in
set_option maxRecDepth 100000 in
theorem c_X6_seekMinute (l : Launch) (D : va_G) (q : Nat → ClassId) (ad : Nat → Nat) (τ0 : Int32) (τ1 : Int64) (τ2 : Int32) (τ3 : Nat → Int32) (τ4 : Nat → Int32) (τ5 : Nat → Int32) (v : Nat) (a : Nat) (b : Nat) (x : Nat) (hv9 : v ≤ 99) (hc9 : a ≤ 99) (hd9 : b ≤ 9) (hx9 : x ≤ 10) : xC l yX6_seekMinute wsX6_seekMinute ({ frames := 1, cells := 0, slots := 0, locals := 40 }) D (TY q) [w6 q ad τ0 τ1 τ2 τ3 τ4 τ5] [.ref (ad 0), .int (nI v), .int (nI a), .int (nI b), .int (nI x)] (xQv D (TY q) (fun (_ : Unit) => True) (fun _ => [w6 q ad (xbR v a b x 11).2 (xbR v a b x 11).1 τ2 τ3 τ4 τ5])) 0 0 := by
  refine x_enter (cc := cX6_seekMinute) (maxL := 10) (ret := none) (by decide) rfl (Nat.le_of_ble_eq_true rfl) ?_
  intro p e s m below meth c A ls H locs hfix hr hlocks hinit hM hl
  obtain ⟨hx, hb, hml, hown, hts⟩ := id hfix
  have hl : lv_has ls 10 [(0, .ref (ad 0)), (1, .int (nI v)), (2, .int (nI a)), (3, .int (nI b)), (4, .int (nI x))] := hl
  have hbt : ∀ t, t ≤ 10 → b * t ≤ 90 := fun t ht => Nat.le_trans (Nat.mul_le_mul hd9 ht) (by decide)
  refine lv_ldc2 (v := 10000000000) hx hb hown (hts (.constantLong RX6 43 (10000000000)) (by decide +kernel)) dX6_seekMinute_0 ?_
  refine lv_lstore (lv' := [(5, .long (10000000000 : Int64)), (0, .ref (ad 0)), (1, .int (nI v)), (2, .int (nI a)), (3, .int (nI b)), (4, .int (nI x))]) hx hb dX6_seekMinute_3 hl (by decide) rfl (fun ls hl => ?_)
  refine lv_iconst (v := nI 0) hx hb dX6_seekMinute_5 (by decide) ?_
  refine lv_istore (lv' := [(7, .int (nI 0)), (5, .long (10000000000 : Int64)), (0, .ref (ad 0)), (1, .int (nI v)), (2, .int (nI a)), (3, .int (nI b)), (4, .int (nI x))]) hx hb dX6_seekMinute_6 hl (by decide) rfl (fun ls hl => ?_)
  have e2 : ((τ0) : Int32) = (xbM v a b x τ0 0) := by rfl
  have hM : xM D (TY q) [w6 q ad (xbM v a b x τ0 0) τ1 τ2 τ3 τ4 τ5] A s.heap s H locs := Eq.mp (congrArg (fun z9 => xM D (TY q) [w6 q ad z9 τ1 τ2 τ3 τ4 τ5] A s.heap s H locs) e2) hM
  have e3 : ((τ1) : Int64) = (xbN v a b x τ1 0) := by rfl
  have hM : xM D (TY q) [w6 q ad (xbM v a b x τ0 0) (xbN v a b x τ1 0) τ2 τ3 τ4 τ5] A s.heap s H locs := Eq.mp (congrArg (fun z9 => xM D (TY q) [w6 q ad (xbM v a b x τ0 0) z9 τ2 τ3 τ4 τ5] A s.heap s H locs) e3) hM
  refine x_loop (ι := Nat) (fun t => [(0, .ref (ad 0)), (1, .int (nI v)), (2, .int (nI a)), (3, .int (nI b)), (4, .int (nI x)), (5, .long (xbT x t)), (7, .int (nI t))]) (fun t => [w6 q ad (xbM v a b x τ0 t) (xbN v a b x τ1 t) τ2 τ3 τ4 τ5]) (fun t => t ≤ 11) (fun t => 11 - t) 0 (by omega) hM (lv_sub hl [2, 3, 4, 5, 6, 1, 0] rfl) ?_
  intro t hI5 ih4 H locs hM ls hl
  have hM : xM D (TY q) [w6 q ad (xbM v a b x τ0 t) (xbN v a b x τ1 t) τ2 τ3 τ4 τ5] A s.heap s H locs := hM
  have hl : lv_has ls 10 [(0, .ref (ad 0)), (1, .int (nI v)), (2, .int (nI a)), (3, .int (nI b)), (4, .int (nI x)), (5, .long (xbT x t)), (7, .int (nI t))] := hl
  have hI5 : t ≤ 11 := hI5
  try dsimp only
  refine lv_iload hx hb dX6_seekMinute_8 (lv_at hl 6 rfl) ?_
  refine lv_bipush (v := nI 10) hx hb dX6_seekMinute_10 (by decide) ?_
  refine x_icmp_gt (x := t) (y := 10) (tgt := 81) hx hb (by omega) (by omega) dX6_seekMinute_12 (by decide) (fun c6 => ?_) (fun c6 => ?_)
  · have e7 : ((xbM v a b x τ0 t) : Int32) = ((xbR v a b x 11).2) := by (rw [show t = 11 by omega]; exact xbM_k (by decide))
    have hM : xM D (TY q) [w6 q ad (xbR v a b x 11).2 (xbN v a b x τ1 t) τ2 τ3 τ4 τ5] A s.heap s H locs := Eq.mp (congrArg (fun z9 => xM D (TY q) [w6 q ad z9 (xbN v a b x τ1 t) τ2 τ3 τ4 τ5] A s.heap s H locs) e7) hM
    have e8 : ((xbN v a b x τ1 t) : Int64) = ((xbR v a b x 11).1) := by (rw [show t = 11 by omega]; exact xbN_k (by decide))
    have hM : xM D (TY q) [w6 q ad (xbR v a b x 11).2 (xbR v a b x 11).1 τ2 τ3 τ4 τ5] A s.heap s H locs := Eq.mp (congrArg (fun z9 => xM D (TY q) [w6 q ad (xbR v a b x 11).2 z9 τ2 τ3 τ4 τ5] A s.heap s H locs) e8) hM
    exact x_vret hx hb hr hlocks () hM trivial dX6_seekMinute_81
  · have hbt9 := hbt t (by omega)
    refine lv_iload_n hx hb dX6_seekMinute_15 rfl (lv_at hl 1 rfl) ?_
    refine lv_iload_n hx hb dX6_seekMinute_16 rfl (lv_at hl 2 rfl) ?_
    refine lv_iload_n hx hb dX6_seekMinute_17 rfl (lv_at hl 3 rfl) ?_
    refine lv_iload hx hb dX6_seekMinute_18 (lv_at hl 6 rfl) ?_
    refine x_imul (x := b) (y := t) hx hb dX6_seekMinute_20 ?_
    refine lv_isub hx hb dX6_seekMinute_21 ?_
    refine lv_iconst (v := nI 0) hx hb dX6_seekMinute_22 (by decide) ?_
    refine x_mmax (own := RX6) (index := 45) hx hb (by rw [hml]; exact hl.1.symm) hts hown (by simp only [List.forall_mem_cons]; exact ⟨by decide +kernel, by decide +kernel, by decide +kernel, by decide +kernel, fun _ h => absurd h List.not_mem_nil⟩) (Nat.le_of_ble_eq_true rfl) (Nat.le_of_ble_eq_true rfl) (Nat.zero_le _) (Nat.zero_le _) dX6_seekMinute_23 ?_
    refine x_cast (y := nI (a - b * t)) (x_max0 (by omega) (by omega)) ?_
    refine lv_isub hx hb dX6_seekMinute_26 ?_
    refine x_i2l hx hb dX6_seekMinute_27 ?_
    refine lv_lload hx hb dX6_seekMinute_28 (lv_at hl 5 rfl) ?_
    refine lv_lmul hx hb dX6_seekMinute_30 ?_
    refine lv_lstore (lv' := [(8, .long ((((nI v) - (nI (a - b * t))).toInt64) * (xbT x t))), (0, .ref (ad 0)), (1, .int (nI v)), (2, .int (nI a)), (3, .int (nI b)), (4, .int (nI x)), (5, .long (xbT x t)), (7, .int (nI t))]) hx hb dX6_seekMinute_31 hl (by decide) rfl (fun ls hl => ?_)
    refine lv_iload hx hb dX6_seekMinute_33 (lv_at hl 7 rfl) ?_
    refine x_if_eq (x := t) (tgt := 48) hx hb (by omega) dX6_seekMinute_35 (by decide) (fun c9 => ?_) (fun c9 => ?_)
    · refine lv_aload_n hx hb dX6_seekMinute_48 rfl (lv_at hl 1 rfl) ?_
      refine lv_iload hx hb dX6_seekMinute_49 (lv_at hl 7 rfl) ?_
      refine x_put hx hb hts iwX6_seekMinute_X6 tyX6 tyX6_ok nmX6 hown hM 0 0 rfl rfl rfl 0 (by decide) (hts _ lkX6_seekMinute_55) (fun _ h => h) rfl (ty := .int) (by decide +kernel) rfl rfl (Nat.le_of_ble_eq_true rfl) [w6 q ad (nI t) (xbN v a b x τ1 t) τ2 τ3 τ4 τ5] rfl dX6_seekMinute_51 (fun H locs hM => ?_)
      refine lv_aload_n hx hb dX6_seekMinute_54 rfl (lv_at hl 1 rfl) ?_
      refine lv_lload hx hb dX6_seekMinute_55 (lv_at hl 0 rfl) ?_
      refine x_put hx hb hts iwX6_seekMinute_X6 tyX6 tyX6_ok nmX6 hown hM 0 0 rfl rfl rfl 1 (by decide) (hts _ lkX6_seekMinute_51) (fun _ h => h) rfl (ty := .long) (by decide +kernel) rfl rfl (Nat.le_of_ble_eq_true rfl) [w6 q ad (nI t) ((((nI v) - (nI (a - b * t))).toInt64) * (xbT x t)) τ2 τ3 τ4 τ5] rfl dX6_seekMinute_57 (fun H locs hM => ?_)
      refine lv_lload hx hb dX6_seekMinute_60 (lv_at hl 6 rfl) ?_
      refine lv_ldc2 (v := 10) hx hb hown (hts (.constantLong RX6 58 (10)) (by decide +kernel)) dX6_seekMinute_62 ?_
      refine lv_ldiv hx hb dX6_seekMinute_65 (by decide) ?_
      refine lv_bipush (v := nI 10) hx hb dX6_seekMinute_66 (by decide) ?_
      refine lv_iload hx hb dX6_seekMinute_68 (lv_at hl 5 rfl) ?_
      refine lv_isub hx hb dX6_seekMinute_70 ?_
      refine x_i2l hx hb dX6_seekMinute_71 ?_
      refine lv_lmul hx hb dX6_seekMinute_72 ?_
      refine lv_lstore (lv' := [(5, .long (((xbT x t) / (10 : Int64)) * (((nI 10) - (nI x)).toInt64))), (8, .long ((((nI v) - (nI (a - b * t))).toInt64) * (xbT x t))), (0, .ref (ad 0)), (1, .int (nI v)), (2, .int (nI a)), (3, .int (nI b)), (4, .int (nI x)), (7, .int (nI t))]) hx hb dX6_seekMinute_73 hl (by decide) rfl (fun ls hl => ?_)
      refine lv_iinc (v := nI (t + 1)) (lv' := [(7, .int (nI (t + 1))), (5, .long (((xbT x t) / (10 : Int64)) * (((nI 10) - (nI x)).toInt64))), (8, .long ((((nI v) - (nI (a - b * t))).toInt64) * (xbT x t))), (0, .ref (ad 0)), (1, .int (nI v)), (2, .int (nI a)), (3, .int (nI b)), (4, .int (nI x))]) hx hb dX6_seekMinute_75 hl (k := 7) rfl (x_inc _ 1) (by decide) rfl (fun ls hl => ?_)
      refine lv_goto (tgt := 8) hx hb dX6_seekMinute_78 (by decide) ?_
      have e10 : ((nI t) : Int32) = (xbM v a b x τ0 (t + 1)) := by (first | exact (xbM_s.trans (congrArg Prod.snd (xbS_1 (g0 := τ1) (by omega) (by first | exact Or.inl (by assumption) | exact Or.inr (by assumption))))).symm | exact (xbM_k (by assumption)).trans (xbM_s.trans (congrArg Prod.snd (xbS_0 (g0 := τ1) (by omega) (by assumption) (by assumption)))).symm)
      have hM : xM D (TY q) [w6 q ad (xbM v a b x τ0 (t + 1)) ((((nI v) - (nI (a - b * t))).toInt64) * (xbT x t)) τ2 τ3 τ4 τ5] A s.heap s H locs := Eq.mp (congrArg (fun z9 => xM D (TY q) [w6 q ad z9 ((((nI v) - (nI (a - b * t))).toInt64) * (xbT x t)) τ2 τ3 τ4 τ5] A s.heap s H locs) e10) hM
      have e11 : (((((nI v) - (nI (a - b * t))).toInt64) * (xbT x t)) : Int64) = (xbN v a b x τ1 (t + 1)) := by (first | exact (xbN_s.trans (congrArg Prod.fst (xbS_1 (g0 := τ1) (by omega) (by first | exact Or.inl (by assumption) | exact Or.inr (by assumption))))).symm | exact (xbN_k (by assumption)).trans (xbN_s.trans (congrArg Prod.fst (xbS_0 (g0 := τ1) (by omega) (by assumption) (by assumption)))).symm)
      have hM : xM D (TY q) [w6 q ad (xbM v a b x τ0 (t + 1)) (xbN v a b x τ1 (t + 1)) τ2 τ3 τ4 τ5] A s.heap s H locs := Eq.mp (congrArg (fun z9 => xM D (TY q) [w6 q ad (xbM v a b x τ0 (t + 1)) z9 τ2 τ3 τ4 τ5] A s.heap s H locs) e11) hM
      have hl : lv_has ls 10 [(0, .ref (ad 0)), (1, .int (nI v)), (2, .int (nI a)), (3, .int (nI b)), (4, .int (nI x)), (5, .long (((xbT x t) / (10 : Int64)) * (((nI 10) - (nI x)).toInt64))), (7, .int (nI (t + 1)))] := lv_sub hl [3, 4, 5, 6, 7, 1, 0] rfl
      exact ih4 (t + 1) (show 11 - (t + 1) < 11 - t from by omega) (show (t + 1) ≤ 11 from by omega) _ _ hM _ hl
    · refine lv_lload hx hb dX6_seekMinute_38 (lv_at hl 0 rfl) ?_
      refine lv_aload_n hx hb dX6_seekMinute_40 rfl (lv_at hl 1 rfl) ?_
      refine x_get hx hb hts iwX6_seekMinute_X6 hown hM 0 0 rfl rfl rfl 1 (by decide) (hts _ lkX6_seekMinute_51) (fun _ h => h) rfl dX6_seekMinute_41 ?_
      refine x_lcmp_le (tgt := 60) hx hb dX6_seekMinute_44 dX6_seekMinute_45 (by decide) (fun c12 => ?_) (fun c12 => ?_)
      · refine lv_lload hx hb dX6_seekMinute_60 (lv_at hl 6 rfl) ?_
        refine lv_ldc2 (v := 10) hx hb hown (hts (.constantLong RX6 58 (10)) (by decide +kernel)) dX6_seekMinute_62 ?_
        refine lv_ldiv hx hb dX6_seekMinute_65 (by decide) ?_
        refine lv_bipush (v := nI 10) hx hb dX6_seekMinute_66 (by decide) ?_
        refine lv_iload hx hb dX6_seekMinute_68 (lv_at hl 5 rfl) ?_
        refine lv_isub hx hb dX6_seekMinute_70 ?_
        refine x_i2l hx hb dX6_seekMinute_71 ?_
        refine lv_lmul hx hb dX6_seekMinute_72 ?_
        refine lv_lstore (lv' := [(5, .long (((xbT x t) / (10 : Int64)) * (((nI 10) - (nI x)).toInt64))), (8, .long ((((nI v) - (nI (a - b * t))).toInt64) * (xbT x t))), (0, .ref (ad 0)), (1, .int (nI v)), (2, .int (nI a)), (3, .int (nI b)), (4, .int (nI x)), (7, .int (nI t))]) hx hb dX6_seekMinute_73 hl (by decide) rfl (fun ls hl => ?_)
        refine lv_iinc (v := nI (t + 1)) (lv' := [(7, .int (nI (t + 1))), (5, .long (((xbT x t) / (10 : Int64)) * (((nI 10) - (nI x)).toInt64))), (8, .long ((((nI v) - (nI (a - b * t))).toInt64) * (xbT x t))), (0, .ref (ad 0)), (1, .int (nI v)), (2, .int (nI a)), (3, .int (nI b)), (4, .int (nI x))]) hx hb dX6_seekMinute_75 hl (k := 7) rfl (x_inc _ 1) (by decide) rfl (fun ls hl => ?_)
        refine lv_goto (tgt := 8) hx hb dX6_seekMinute_78 (by decide) ?_
        have e13 : ((xbM v a b x τ0 t) : Int32) = (xbM v a b x τ0 (t + 1)) := by (first | exact (xbM_s.trans (congrArg Prod.snd (xbS_1 (g0 := τ1) (by omega) (by first | exact Or.inl (by assumption) | exact Or.inr (by assumption))))).symm | exact (xbM_k (by assumption)).trans (xbM_s.trans (congrArg Prod.snd (xbS_0 (g0 := τ1) (by omega) (by assumption) (by assumption)))).symm)
        have hM : xM D (TY q) [w6 q ad (xbM v a b x τ0 (t + 1)) (xbN v a b x τ1 t) τ2 τ3 τ4 τ5] A s.heap s H locs := Eq.mp (congrArg (fun z9 => xM D (TY q) [w6 q ad z9 (xbN v a b x τ1 t) τ2 τ3 τ4 τ5] A s.heap s H locs) e13) hM
        have e14 : ((xbN v a b x τ1 t) : Int64) = (xbN v a b x τ1 (t + 1)) := by (first | exact (xbN_s.trans (congrArg Prod.fst (xbS_1 (g0 := τ1) (by omega) (by first | exact Or.inl (by assumption) | exact Or.inr (by assumption))))).symm | exact (xbN_k (by assumption)).trans (xbN_s.trans (congrArg Prod.fst (xbS_0 (g0 := τ1) (by omega) (by assumption) (by assumption)))).symm)
        have hM : xM D (TY q) [w6 q ad (xbM v a b x τ0 (t + 1)) (xbN v a b x τ1 (t + 1)) τ2 τ3 τ4 τ5] A s.heap s H locs := Eq.mp (congrArg (fun z9 => xM D (TY q) [w6 q ad (xbM v a b x τ0 (t + 1)) z9 τ2 τ3 τ4 τ5] A s.heap s H locs) e14) hM
        have hl : lv_has ls 10 [(0, .ref (ad 0)), (1, .int (nI v)), (2, .int (nI a)), (3, .int (nI b)), (4, .int (nI x)), (5, .long (((xbT x t) / (10 : Int64)) * (((nI 10) - (nI x)).toInt64))), (7, .int (nI (t + 1)))] := lv_sub hl [3, 4, 5, 6, 7, 1, 0] rfl
        exact ih4 (t + 1) (show 11 - (t + 1) < 11 - t from by omega) (show (t + 1) ≤ 11 from by omega) _ _ hM _ hl
      · refine lv_aload_n hx hb dX6_seekMinute_48 rfl (lv_at hl 1 rfl) ?_
        refine lv_iload hx hb dX6_seekMinute_49 (lv_at hl 7 rfl) ?_
        refine x_put hx hb hts iwX6_seekMinute_X6 tyX6 tyX6_ok nmX6 hown hM 0 0 rfl rfl rfl 0 (by decide) (hts _ lkX6_seekMinute_55) (fun _ h => h) rfl (ty := .int) (by decide +kernel) rfl rfl (Nat.le_of_ble_eq_true rfl) [w6 q ad (nI t) (xbN v a b x τ1 t) τ2 τ3 τ4 τ5] rfl dX6_seekMinute_51 (fun H locs hM => ?_)
        refine lv_aload_n hx hb dX6_seekMinute_54 rfl (lv_at hl 1 rfl) ?_
        refine lv_lload hx hb dX6_seekMinute_55 (lv_at hl 0 rfl) ?_
        refine x_put hx hb hts iwX6_seekMinute_X6 tyX6 tyX6_ok nmX6 hown hM 0 0 rfl rfl rfl 1 (by decide) (hts _ lkX6_seekMinute_51) (fun _ h => h) rfl (ty := .long) (by decide +kernel) rfl rfl (Nat.le_of_ble_eq_true rfl) [w6 q ad (nI t) ((((nI v) - (nI (a - b * t))).toInt64) * (xbT x t)) τ2 τ3 τ4 τ5] rfl dX6_seekMinute_57 (fun H locs hM => ?_)
        refine lv_lload hx hb dX6_seekMinute_60 (lv_at hl 6 rfl) ?_
        refine lv_ldc2 (v := 10) hx hb hown (hts (.constantLong RX6 58 (10)) (by decide +kernel)) dX6_seekMinute_62 ?_
        refine lv_ldiv hx hb dX6_seekMinute_65 (by decide) ?_
        refine lv_bipush (v := nI 10) hx hb dX6_seekMinute_66 (by decide) ?_
        refine lv_iload hx hb dX6_seekMinute_68 (lv_at hl 5 rfl) ?_
        refine lv_isub hx hb dX6_seekMinute_70 ?_
        refine x_i2l hx hb dX6_seekMinute_71 ?_
        refine lv_lmul hx hb dX6_seekMinute_72 ?_
        refine lv_lstore (lv' := [(5, .long (((xbT x t) / (10 : Int64)) * (((nI 10) - (nI x)).toInt64))), (8, .long ((((nI v) - (nI (a - b * t))).toInt64) * (xbT x t))), (0, .ref (ad 0)), (1, .int (nI v)), (2, .int (nI a)), (3, .int (nI b)), (4, .int (nI x)), (7, .int (nI t))]) hx hb dX6_seekMinute_73 hl (by decide) rfl (fun ls hl => ?_)
        refine lv_iinc (v := nI (t + 1)) (lv' := [(7, .int (nI (t + 1))), (5, .long (((xbT x t) / (10 : Int64)) * (((nI 10) - (nI x)).toInt64))), (8, .long ((((nI v) - (nI (a - b * t))).toInt64) * (xbT x t))), (0, .ref (ad 0)), (1, .int (nI v)), (2, .int (nI a)), (3, .int (nI b)), (4, .int (nI x))]) hx hb dX6_seekMinute_75 hl (k := 7) rfl (x_inc _ 1) (by decide) rfl (fun ls hl => ?_)
        refine lv_goto (tgt := 8) hx hb dX6_seekMinute_78 (by decide) ?_
        have e15 : ((nI t) : Int32) = (xbM v a b x τ0 (t + 1)) := by (first | exact (xbM_s.trans (congrArg Prod.snd (xbS_1 (g0 := τ1) (by omega) (by first | exact Or.inl (by assumption) | exact Or.inr (by assumption))))).symm | exact (xbM_k (by assumption)).trans (xbM_s.trans (congrArg Prod.snd (xbS_0 (g0 := τ1) (by omega) (by assumption) (by assumption)))).symm)
        have hM : xM D (TY q) [w6 q ad (xbM v a b x τ0 (t + 1)) ((((nI v) - (nI (a - b * t))).toInt64) * (xbT x t)) τ2 τ3 τ4 τ5] A s.heap s H locs := Eq.mp (congrArg (fun z9 => xM D (TY q) [w6 q ad z9 ((((nI v) - (nI (a - b * t))).toInt64) * (xbT x t)) τ2 τ3 τ4 τ5] A s.heap s H locs) e15) hM
        have e16 : (((((nI v) - (nI (a - b * t))).toInt64) * (xbT x t)) : Int64) = (xbN v a b x τ1 (t + 1)) := by (first | exact (xbN_s.trans (congrArg Prod.fst (xbS_1 (g0 := τ1) (by omega) (by first | exact Or.inl (by assumption) | exact Or.inr (by assumption))))).symm | exact (xbN_k (by assumption)).trans (xbN_s.trans (congrArg Prod.fst (xbS_0 (g0 := τ1) (by omega) (by assumption) (by assumption)))).symm)
        have hM : xM D (TY q) [w6 q ad (xbM v a b x τ0 (t + 1)) (xbN v a b x τ1 (t + 1)) τ2 τ3 τ4 τ5] A s.heap s H locs := Eq.mp (congrArg (fun z9 => xM D (TY q) [w6 q ad (xbM v a b x τ0 (t + 1)) z9 τ2 τ3 τ4 τ5] A s.heap s H locs) e16) hM
        have hl : lv_has ls 10 [(0, .ref (ad 0)), (1, .int (nI v)), (2, .int (nI a)), (3, .int (nI b)), (4, .int (nI x)), (5, .long (((xbT x t) / (10 : Int64)) * (((nI 10) - (nI x)).toInt64))), (7, .int (nI (t + 1)))] := lv_sub hl [3, 4, 5, 6, 7, 1, 0] rfl
        exact ih4 (t + 1) (show 11 - (t + 1) < 11 - t from by omega) (show (t + 1) ≤ 11 from by omega) _ _ hM _ hl
