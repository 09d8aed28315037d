theorem dX9_letterAt_0 : decode cX9_letterAt 0 = .ok (.iload_n 1, 1) := by decide +kernel
theorem dX9_letterAt_1 : decode cX9_letterAt 1 = .ok (.aload_n 0, 1) := by decide +kernel
theorem dX9_letterAt_2 : decode cX9_letterAt 2 = .ok (.getfield 108, 3) := by decide +kernel
theorem dX9_letterAt_5 : decode cX9_letterAt 5 = .ok (.if_icmp .ge 12, 3) := by decide +kernel
theorem dX9_letterAt_8 : decode cX9_letterAt 8 = .ok (.aload_n 0, 1) := by decide +kernel
theorem dX9_letterAt_9 : decode cX9_letterAt 9 = .ok (.getfield 7, 3) := by decide +kernel
theorem dX9_letterAt_12 : decode cX9_letterAt 12 = .ok (.iload_n 1, 1) := by decide +kernel
theorem dX9_letterAt_13 : decode cX9_letterAt 13 = .ok (.iaload, 1) := by decide +kernel
theorem dX9_letterAt_14 : decode cX9_letterAt 14 = .ok (.goto 4, 3) := by decide +kernel
theorem dX9_letterAt_17 : decode cX9_letterAt 17 = .ok (.iconst 0, 1) := by decide +kernel
theorem dX9_letterAt_18 : decode cX9_letterAt 18 = .ok (.ireturn, 1) := by decide +kernel
theorem lkX9_letterAt_7 : Cond.fieldLink RX9 7 "LeftAtFiveModel" "text" "[I" ∈ wsX9_letterAt := by decide +kernel
theorem lkX9_letterAt_108 : Cond.fieldLink RX9 108 "LeftAtFiveModel" "length" "I" ∈ wsX9_letterAt := by decide +kernel
theorem iwX9_letterAt_X9 : ∀ w ∈ wsX90, w ∈ wsX9_letterAt := by decide +kernel
set_option maxHeartbeats 4000000 in
set_option maxRecDepth 100000 in
theorem c_X9_letterAt (l : Launch) (D : va_G) (q : Nat → ClassId) (ad : Nat → Nat) (σ0 : Int32) (σ1 : Nat → Int32) (σ2 : Nat → Int32) (σ3 : Nat → Int32) (σ4 : Nat → Int32) (σ5 : Nat → Int32) (σ6 : Nat → Int32) (σ7 : Nat → Int32) (σ8 : Nat → Int32) (σ9 : Nat → Int32) (σ10 : Nat → Int32) (σ11 : Nat → Int32) (σ12 : Nat → Int32) (σ13 : Nat → Int32) (σ14 : Nat → Int32) (σ15 : Nat → Int32) (σ16 : Nat → Int32) (σ17 : Nat → Int32) (σ18 : Nat → Int32) (σ19 : Nat → Int32) (σ20 : Int32) (σ21 : Int32) (σ22 : Int32) (σ23 : Nat → Int32) (σ24 : Int32) (σ25 : Int32) (σ26 : Nat → Int32) (σ27 : Nat → Int32) (σ28 : Nat → Int32) (σ29 : Nat → Int32) (σ30 : Nat → Int32) (k : Nat) (hk9 : k < 1000) (hL : σ0 = nI (tn σ0) ∧ tn σ0 ≤ 200) : xC l yX9_letterAt wsX9_letterAt ({ frames := 0, cells := 0, slots := 0, locals := 0 }) D (TY q) [w9 q ad σ0 σ1 σ2 σ3 σ4 σ5 σ6 σ7 σ8 σ9 σ10 σ11 σ12 σ13 σ14 σ15 σ16 σ17 σ18 σ19 σ20 σ21 σ22 σ23 σ24 σ25 σ26 σ27 σ28 σ29 σ30] [.ref (ad 0), .int (nI k)] (xQi D (TY q) (fun (r : Int32) (_ : Unit) => r = xlet σ1 (tn σ0) k) (fun _ => [w9 q ad σ0 σ1 σ2 σ3 σ4 σ5 σ6 σ7 σ8 σ9 σ10 σ11 σ12 σ13 σ14 σ15 σ16 σ17 σ18 σ19 σ20 σ21 σ22 σ23 σ24 σ25 σ26 σ27 σ28 σ29 σ30])) 0 0 := by
  refine x_enter (cc := cX9_letterAt) (maxL := 2) (ret := (some .int)) (by decide) rfl (Nat.le_of_ble_eq_true rfl) ?_
  intro p e s m below meth c A ls H locs hfix hr hlocks hinit hM hl
  obtain ⟨hx, hb, hml, hown, hts⟩ := id hfix
  have hl : lv_has ls 2 [(0, .ref (ad 0)), (1, .int (nI k))] := hl
  have hL2 := hL.2
  refine lv_iload_n hx hb dX9_letterAt_0 rfl (lv_at hl 1 rfl) ?_
  refine lv_aload_n hx hb dX9_letterAt_1 rfl (lv_at hl 0 rfl) ?_
  refine x_get hx hb hts iwX9_letterAt_X9 hown hM 0 0 rfl rfl rfl 0 (by decide) (hts _ lkX9_letterAt_108) (fun _ h => h) rfl dX9_letterAt_2 ?_
  refine x_cast (y := nI (tn σ0)) hL.1 ?_
  refine x_icmp_ge (x := k) (y := tn σ0) (tgt := 17) hx hb (by omega) (by omega) dX9_letterAt_5 (by decide) (fun c1 => ?_) (fun c1 => ?_)
  · refine lv_iconst (v := nI 0) hx hb dX9_letterAt_17 (by decide) ?_
    exact x_iret hx hb hr hlocks () hM (show nI 0 = xlet σ1 (tn σ0) k from by (unfold xlet; first | rw [if_pos (c := k < tn σ0) (by omega)] | rw [if_neg (c := k < tn σ0) (by omega)])) dX9_letterAt_18
  · refine lv_aload_n hx hb dX9_letterAt_8 rfl (lv_at hl 0 rfl) ?_
    refine x_get hx hb hts iwX9_letterAt_X9 hown hM 0 0 rfl rfl rfl 1 (by decide) (hts _ lkX9_letterAt_7) (fun _ h => h) rfl dX9_letterAt_9 ?_
    refine lv_iload_n hx hb dX9_letterAt_12 rfl (lv_at hl 1 rfl) ?_
    refine x_iald hx hb hM 0 1 0 (f := σ1) rfl rfl rfl (t := k) (by omega) (by decide) dX9_letterAt_13 ?_
    refine lv_goto (tgt := 18) hx hb dX9_letterAt_14 (by decide) ?_
    exact x_iret hx hb hr hlocks () hM (show σ1 k = xlet σ1 (tn σ0) k from by (unfold xlet; first | rw [if_pos (c := k < tn σ0) (by omega)] | rw [if_neg (c := k < tn σ0) (by omega)])) dX9_letterAt_18

theorem dX9_bakeCost_0 : decode cX9_bakeCost 0 = .ok (.iconst 0, 1) := by decide +kernel
theorem dX9_bakeCost_1 : decode cX9_bakeCost 1 = .ok (.istore 4, 2) := by decide +kernel
theorem dX9_bakeCost_3 : decode cX9_bakeCost 3 = .ok (.iconst 0, 1) := by decide +kernel
theorem dX9_bakeCost_4 : decode cX9_bakeCost 4 = .ok (.istore 5, 2) := by decide +kernel
theorem dX9_bakeCost_6 : decode cX9_bakeCost 6 = .ok (.iload 5, 2) := by decide +kernel
theorem dX9_bakeCost_8 : decode cX9_bakeCost 8 = .ok (.aload_n 0, 1) := by decide +kernel
theorem dX9_bakeCost_9 : decode cX9_bakeCost 9 = .ok (.getfield 43, 3) := by decide +kernel
theorem dX9_bakeCost_12 : decode cX9_bakeCost 12 = .ok (.iconst 0, 1) := by decide +kernel
theorem dX9_bakeCost_13 : decode cX9_bakeCost 13 = .ok (.iaload, 1) := by decide +kernel
theorem dX9_bakeCost_14 : decode cX9_bakeCost 14 = .ok (.if_icmp .ge 50, 3) := by decide +kernel
theorem dX9_bakeCost_17 : decode cX9_bakeCost 17 = .ok (.iload_n 1, 1) := by decide +kernel
theorem dX9_bakeCost_18 : decode cX9_bakeCost 18 = .ok (.aload_n 0, 1) := by decide +kernel
theorem dX9_bakeCost_19 : decode cX9_bakeCost 19 = .ok (.getfield 46, 3) := by decide +kernel
theorem dX9_bakeCost_22 : decode cX9_bakeCost 22 = .ok (.iload 5, 2) := by decide +kernel
theorem dX9_bakeCost_24 : decode cX9_bakeCost 24 = .ok (.iaload, 1) := by decide +kernel
theorem dX9_bakeCost_25 : decode cX9_bakeCost 25 = .ok (.isub, 1) := by decide +kernel
theorem dX9_bakeCost_26 : decode cX9_bakeCost 26 = .ok (.istore 6, 2) := by decide +kernel
theorem dX9_bakeCost_28 : decode cX9_bakeCost 28 = .ok (.iload 4, 2) := by decide +kernel
theorem dX9_bakeCost_30 : decode cX9_bakeCost 30 = .ok (.aload_n 0, 1) := by decide +kernel
theorem dX9_bakeCost_31 : decode cX9_bakeCost 31 = .ok (.getfield 49, 3) := by decide +kernel
theorem dX9_bakeCost_34 : decode cX9_bakeCost 34 = .ok (.iload 5, 2) := by decide +kernel
theorem dX9_bakeCost_36 : decode cX9_bakeCost 36 = .ok (.iaload, 1) := by decide +kernel
theorem dX9_bakeCost_37 : decode cX9_bakeCost 37 = .ok (.iload 6, 2) := by decide +kernel
theorem dX9_bakeCost_39 : decode cX9_bakeCost 39 = .ok (.ifCond .le 10, 3) := by decide +kernel
theorem dX9_bakeCost_42 : decode cX9_bakeCost 42 = .ok (.iload_n 2, 1) := by decide +kernel
theorem dX9_bakeCost_43 : decode cX9_bakeCost 43 = .ok (.iload 6, 2) := by decide +kernel
theorem dX9_bakeCost_45 : decode cX9_bakeCost 45 = .ok (.imul, 1) := by decide +kernel
theorem dX9_bakeCost_46 : decode cX9_bakeCost 46 = .ok (.goto 8, 3) := by decide +kernel
theorem dX9_bakeCost_49 : decode cX9_bakeCost 49 = .ok (.iload_n 3, 1) := by decide +kernel
theorem dX9_bakeCost_50 : decode cX9_bakeCost 50 = .ok (.ineg, 1) := by decide +kernel
theorem dX9_bakeCost_51 : decode cX9_bakeCost 51 = .ok (.iload 6, 2) := by decide +kernel
theorem dX9_bakeCost_53 : decode cX9_bakeCost 53 = .ok (.imul, 1) := by decide +kernel
theorem dX9_bakeCost_54 : decode cX9_bakeCost 54 = .ok (.imul, 1) := by decide +kernel
theorem dX9_bakeCost_55 : decode cX9_bakeCost 55 = .ok (.iadd, 1) := by decide +kernel
theorem dX9_bakeCost_56 : decode cX9_bakeCost 56 = .ok (.istore 4, 2) := by decide +kernel
theorem dX9_bakeCost_58 : decode cX9_bakeCost 58 = .ok (.iinc 5 1, 3) := by decide +kernel
theorem dX9_bakeCost_61 : decode cX9_bakeCost 61 = .ok (.goto (-55), 3) := by decide +kernel
theorem dX9_bakeCost_64 : decode cX9_bakeCost 64 = .ok (.iload 4, 2) := by decide +kernel
theorem dX9_bakeCost_66 : decode cX9_bakeCost 66 = .ok (.ireturn, 1) := by decide +kernel
theorem lkX9_bakeCost_43 : Cond.fieldLink RX9 43 "LeftAtFiveModel" "demands" "[I" ∈ wsX9_bakeCost := by decide +kernel
theorem lkX9_bakeCost_46 : Cond.fieldLink RX9 46 "LeftAtFiveModel" "loaves" "[I" ∈ wsX9_bakeCost := by decide +kernel
theorem lkX9_bakeCost_49 : Cond.fieldLink RX9 49 "LeftAtFiveModel" "chances" "[I" ∈ wsX9_bakeCost := by decide +kernel
theorem iwX9_bakeCost_X9 : ∀ w ∈ wsX90, w ∈ wsX9_bakeCost := by decide +kernel
set_option maxHeartbeats 4000000 in
set_option maxRecDepth 100000 in
theorem c_X9_bakeCost (l : Launch) (D : va_G) (q : Nat → ClassId) (ad : Nat → Nat) (σ0 : Int32) (σ1 : Nat → Int32) (σ2 : Nat → Int32) (σ3 : Nat → Int32) (σ4 : Nat → Int32) (σ5 : Nat → Int32) (σ6 : Nat → Int32) (σ7 : Nat → Int32) (σ8 : Nat → Int32) (σ9 : Nat → Int32) (σ10 : Nat → Int32) (σ11 : Nat → Int32) (σ12 : Nat → Int32) (σ13 : Nat → Int32) (σ14 : Nat → Int32) (σ15 : Nat → Int32) (σ16 : Nat → Int32) (σ17 : Nat → Int32) (σ18 : Nat → Int32) (σ19 : Nat → Int32) (σ20 : Int32) (σ21 : Int32) (σ22 : Int32) (σ23 : Nat → Int32) (σ24 : Int32) (σ25 : Int32) (σ26 : Nat → Int32) (σ27 : Nat → Int32) (σ28 : Nat → Int32) (σ29 : Nat → Int32) (σ30 : Nat → Int32) (qq : Nat) (la : Int32) (wa : Int32) (hc12 : σ12 0 = nI (tn (σ12 0)) ∧ tn (σ12 0) ≤ 5) : xC l yX9_bakeCost wsX9_bakeCost ({ frames := 0, cells := 0, slots := 0, locals := 0 }) D (TY q) [w9 q ad σ0 σ1 σ2 σ3 σ4 σ5 σ6 σ7 σ8 σ9 σ10 σ11 σ12 σ13 σ14 σ15 σ16 σ17 σ18 σ19 σ20 σ21 σ22 σ23 σ24 σ25 σ26 σ27 σ28 σ29 σ30] [.ref (ad 0), .int (nI qq), .int la, .int wa] (xQi D (TY q) (fun (r : Int32) (_ : Unit) => r = xbk σ13 σ14 la wa (tn (σ12 0)) qq) (fun _ => [w9 q ad σ0 σ1 σ2 σ3 σ4 σ5 σ6 σ7 σ8 σ9 σ10 σ11 σ12 σ13 σ14 σ15 σ16 σ17 σ18 σ19 σ20 σ21 σ22 σ23 σ24 σ25 σ26 σ27 σ28 σ29 σ30])) 0 0 := by
  refine x_enter (cc := cX9_bakeCost) (maxL := 7) (ret := (some .int)) (by decide) rfl (Nat.le_of_ble_eq_true rfl) ?_
  intro p e s m below meth c A ls H locs hfix hr hlocks hinit hM hl
  obtain ⟨hx, hb, hml, hown, hts⟩ := id hfix
  have hl : lv_has ls 7 [(0, .ref (ad 0)), (1, .int (nI qq)), (2, .int la), (3, .int wa)] := hl
  have hc12b := hc12.2
  refine lv_iconst (v := nI 0) hx hb dX9_bakeCost_0 (by decide) ?_
  refine lv_istore (lv' := [(4, .int (nI 0)), (0, .ref (ad 0)), (1, .int (nI qq)), (2, .int la), (3, .int wa)]) hx hb dX9_bakeCost_1 hl (by decide) rfl (fun ls hl => ?_)
  refine lv_iconst (v := nI 0) hx hb dX9_bakeCost_3 (by decide) ?_
  refine lv_istore (lv' := [(5, .int (nI 0)), (4, .int (nI 0)), (0, .ref (ad 0)), (1, .int (nI qq)), (2, .int la), (3, .int wa)]) hx hb dX9_bakeCost_4 hl (by decide) rfl (fun ls hl => ?_)
  refine x_loop (ι := Nat) (fun k => [(0, .ref (ad 0)), (1, .int (nI qq)), (2, .int la), (3, .int wa), (4, .int (xbk σ13 σ14 la wa k qq)), (5, .int (nI k))]) (fun k => [w9 q ad σ0 σ1 σ2 σ3 σ4 σ5 σ6 σ7 σ8 σ9 σ10 σ11 σ12 σ13 σ14 σ15 σ16 σ17 σ18 σ19 σ20 σ21 σ22 σ23 σ24 σ25 σ26 σ27 σ28 σ29 σ30]) (fun k => k ≤ tn (σ12 0)) (fun k => tn (σ12 0) - k) 0 (by omega) hM (lv_sub hl [2, 3, 4, 5, 1, 0] rfl) ?_
  intro k hI2 ih1 H locs hM ls hl
  have hM : xM D (TY q) [w9 q ad σ0 σ1 σ2 σ3 σ4 σ5 σ6 σ7 σ8 σ9 σ10 σ11 σ12 σ13 σ14 σ15 σ16 σ17 σ18 σ19 σ20 σ21 σ22 σ23 σ24 σ25 σ26 σ27 σ28 σ29 σ30] A s.heap s H locs := hM
  have hl : lv_has ls 7 [(0, .ref (ad 0)), (1, .int (nI qq)), (2, .int la), (3, .int wa), (4, .int (xbk σ13 σ14 la wa k qq)), (5, .int (nI k))] := hl
  have hI2 : k ≤ tn (σ12 0) := hI2
  try dsimp only
  refine lv_iload hx hb dX9_bakeCost_6 (lv_at hl 5 rfl) ?_
  refine lv_aload_n hx hb dX9_bakeCost_8 rfl (lv_at hl 0 rfl) ?_
  refine x_get hx hb hts iwX9_bakeCost_X9 hown hM 0 0 rfl rfl rfl 12 (by decide) (hts _ lkX9_bakeCost_43) (fun _ h => h) rfl dX9_bakeCost_9 ?_
  refine lv_iconst (v := nI 0) hx hb dX9_bakeCost_12 (by decide) ?_
  refine x_iald hx hb hM 0 12 0 (f := σ12) rfl rfl rfl (t := 0) (by omega) (by decide) dX9_bakeCost_13 ?_
  refine x_cast (y := nI (tn (σ12 0))) hc12.1 ?_
  refine x_icmp_ge (x := k) (y := tn (σ12 0)) (tgt := 64) hx hb (by omega) (by omega) dX9_bakeCost_14 (by decide) (fun c3 => ?_) (fun c3 => ?_)
  · refine lv_iload hx hb dX9_bakeCost_64 (lv_at hl 4 rfl) ?_
    exact x_iret hx hb hr hlocks () hM (show xbk σ13 σ14 la wa k qq = xbk σ13 σ14 la wa (tn (σ12 0)) qq from by (rw [show k = tn (σ12 0) by omega])) dX9_bakeCost_66
  · refine lv_iload_n hx hb dX9_bakeCost_17 rfl (lv_at hl 1 rfl) ?_
    refine lv_aload_n hx hb dX9_bakeCost_18 rfl (lv_at hl 0 rfl) ?_
    refine x_get hx hb hts iwX9_bakeCost_X9 hown hM 0 0 rfl rfl rfl 13 (by decide) (hts _ lkX9_bakeCost_46) (fun _ h => h) rfl dX9_bakeCost_19 ?_
    refine lv_iload hx hb dX9_bakeCost_22 (lv_at hl 5 rfl) ?_
    refine x_iald hx hb hM 0 13 0 (f := σ13) rfl rfl rfl (t := k) (by omega) (by decide) dX9_bakeCost_24 ?_
    refine lv_isub hx hb dX9_bakeCost_25 ?_
    refine lv_istore (lv' := [(6, .int ((nI qq) - (σ13 k))), (0, .ref (ad 0)), (1, .int (nI qq)), (2, .int la), (3, .int wa), (4, .int (xbk σ13 σ14 la wa k qq)), (5, .int (nI k))]) hx hb dX9_bakeCost_26 hl (by decide) rfl (fun ls hl => ?_)
    refine lv_iload hx hb dX9_bakeCost_28 (lv_at hl 5 rfl) ?_
    refine lv_aload_n hx hb dX9_bakeCost_30 rfl (lv_at hl 1 rfl) ?_
    refine x_get hx hb hts iwX9_bakeCost_X9 hown hM 0 0 rfl rfl rfl 14 (by decide) (hts _ lkX9_bakeCost_49) (fun _ h => h) rfl dX9_bakeCost_31 ?_
    refine lv_iload hx hb dX9_bakeCost_34 (lv_at hl 6 rfl) ?_
    refine x_iald hx hb hM 0 14 0 (f := σ14) rfl rfl rfl (t := k) (by omega) (by decide) dX9_bakeCost_36 ?_
    refine lv_iload hx hb dX9_bakeCost_37 (lv_at hl 0 rfl) ?_
    refine lv_if_le (tgt := 49) hx hb dX9_bakeCost_39 (by decide) (fun c4 => ?_) (fun c4 => ?_)
    · have hn9 : ¬ 0 < nI qq - σ13 k := Int32.not_lt.mpr (by assumption)
      refine lv_iload_n hx hb dX9_bakeCost_49 rfl (lv_at hl 4 rfl) ?_
      refine lv_ineg hx hb dX9_bakeCost_50 ?_
      refine lv_iload hx hb dX9_bakeCost_51 (lv_at hl 0 rfl) ?_
      refine lv_imul hx hb dX9_bakeCost_53 ?_
      refine lv_imul hx hb dX9_bakeCost_54 ?_
      refine lv_iadd hx hb dX9_bakeCost_55 ?_
      refine lv_istore (lv' := [(4, .int ((xbk σ13 σ14 la wa k qq) + ((σ14 k) * ((-wa) * ((nI qq) - (σ13 k)))))), (6, .int ((nI qq) - (σ13 k))), (0, .ref (ad 0)), (1, .int (nI qq)), (2, .int la), (3, .int wa), (5, .int (nI k))]) hx hb dX9_bakeCost_56 hl (by decide) rfl (fun ls hl => ?_)
      refine lv_iinc (v := nI (k + 1)) (lv' := [(5, .int (nI (k + 1))), (4, .int ((xbk σ13 σ14 la wa k qq) + ((σ14 k) * ((-wa) * ((nI qq) - (σ13 k)))))), (6, .int ((nI qq) - (σ13 k))), (0, .ref (ad 0)), (1, .int (nI qq)), (2, .int la), (3, .int wa)]) hx hb dX9_bakeCost_58 hl (k := 6) rfl (x_inc _ 1) (by decide) rfl (fun ls hl => ?_)
      refine lv_goto (tgt := 6) hx hb dX9_bakeCost_61 (by decide) ?_
      have hl : lv_has ls 7 [(0, .ref (ad 0)), (1, .int (nI qq)), (2, .int la), (3, .int wa), (4, .int ((xbk σ13 σ14 la wa k qq) + ((σ14 k) * ((-wa) * ((nI qq) - (σ13 k)))))), (5, .int (nI (k + 1)))] := lv_sub hl [3, 4, 5, 6, 1, 0] rfl
      have e5 : (xbk σ13 σ14 la wa k qq) + ((σ14 k) * ((-wa) * ((nI qq) - (σ13 k)))) = xbk σ13 σ14 la wa (k + 1) qq := by (first | exact xbk_p hp9 | exact xbk_n hn9)
      have hl : lv_has ls 7 [(0, .ref (ad 0)), (1, .int (nI qq)), (2, .int la), (3, .int wa), (4, .int (xbk σ13 σ14 la wa (k + 1) qq)), (5, .int (nI (k + 1)))] := x_lvset hl 4 rfl (congrArg Value.int e5) rfl
      exact ih1 (k + 1) (show tn (σ12 0) - (k + 1) < tn (σ12 0) - k from by omega) (show (k + 1) ≤ tn (σ12 0) from by omega) _ _ hM _ hl
    · have hp9 : 0 < nI qq - σ13 k := Int32.not_le.mp (by assumption)
      refine lv_iload_n hx hb dX9_bakeCost_42 rfl (lv_at hl 3 rfl) ?_
      refine lv_iload hx hb dX9_bakeCost_43 (lv_at hl 0 rfl) ?_
      refine lv_imul hx hb dX9_bakeCost_45 ?_
      refine lv_goto (tgt := 54) hx hb dX9_bakeCost_46 (by decide) ?_
      refine lv_imul hx hb dX9_bakeCost_54 ?_
      refine lv_iadd hx hb dX9_bakeCost_55 ?_
      refine lv_istore (lv' := [(4, .int ((xbk σ13 σ14 la wa k qq) + ((σ14 k) * (la * ((nI qq) - (σ13 k)))))), (6, .int ((nI qq) - (σ13 k))), (0, .ref (ad 0)), (1, .int (nI qq)), (2, .int la), (3, .int wa), (5, .int (nI k))]) hx hb dX9_bakeCost_56 hl (by decide) rfl (fun ls hl => ?_)
      refine lv_iinc (v := nI (k + 1)) (lv' := [(5, .int (nI (k + 1))), (4, .int ((xbk σ13 σ14 la wa k qq) + ((σ14 k) * (la * ((nI qq) - (σ13 k)))))), (6, .int ((nI qq) - (σ13 k))), (0, .ref (ad 0)), (1, .int (nI qq)), (2, .int la), (3, .int wa)]) hx hb dX9_bakeCost_58 hl (k := 6) rfl (x_inc _ 1) (by decide) rfl (fun ls hl => ?_)
      refine lv_goto (tgt := 6) hx hb dX9_bakeCost_61 (by decide) ?_
      have hl : lv_has ls 7 [(0, .ref (ad 0)), (1, .int (nI qq)), (2, .int la), (3, .int wa), (4, .int ((xbk σ13 σ14 la wa k qq) + ((σ14 k) * (la * ((nI qq) - (σ13 k)))))), (5, .int (nI (k + 1)))] := lv_sub hl [3, 4, 5, 6, 1, 0] rfl
      have e6 : (xbk σ13 σ14 la wa k qq) + ((σ14 k) * (la * ((nI qq) - (σ13 k)))) = xbk σ13 σ14 la wa (k + 1) qq := by (first | exact xbk_p hp9 | exact xbk_n hn9)
      have hl : lv_has ls 7 [(0, .ref (ad 0)), (1, .int (nI qq)), (2, .int la), (3, .int wa), (4, .int (xbk σ13 σ14 la wa (k + 1) qq)), (5, .int (nI (k + 1)))] := x_lvset hl 4 rfl (congrArg Value.int e6) rfl
      exact ih1 (k + 1) (show tn (σ12 0) - (k + 1) < tn (σ12 0) - k from by omega) (show (k + 1) ≤ tn (σ12 0) from by omega) _ _ hM _ hl

theorem dX9_common_0 : decode cX9_common 0 = .ok (.lload_n 0, 1) := by decide +kernel
theorem dX9_common_1 : decode cX9_common 1 = .ok (.lconst 0, 1) := by decide +kernel
theorem dX9_common_2 : decode cX9_common 2 = .ok (.lcmp, 1) := by decide +kernel
theorem dX9_common_3 : decode cX9_common 3 = .ok (.ifCond .ge 8, 3) := by decide +kernel
theorem dX9_common_6 : decode cX9_common 6 = .ok (.lload_n 0, 1) := by decide +kernel
theorem dX9_common_7 : decode cX9_common 7 = .ok (.lneg, 1) := by decide +kernel
theorem dX9_common_8 : decode cX9_common 8 = .ok (.goto 4, 3) := by decide +kernel
theorem dX9_common_11 : decode cX9_common 11 = .ok (.lload_n 0, 1) := by decide +kernel
theorem dX9_common_12 : decode cX9_common 12 = .ok (.lstore 4, 2) := by decide +kernel
theorem dX9_common_14 : decode cX9_common 14 = .ok (.lload_n 2, 1) := by decide +kernel
theorem dX9_common_15 : decode cX9_common 15 = .ok (.lstore 6, 2) := by decide +kernel
theorem dX9_common_17 : decode cX9_common 17 = .ok (.lload 6, 2) := by decide +kernel
theorem dX9_common_19 : decode cX9_common 19 = .ok (.lconst 0, 1) := by decide +kernel
theorem dX9_common_20 : decode cX9_common 20 = .ok (.lcmp, 1) := by decide +kernel
theorem dX9_common_21 : decode cX9_common 21 = .ok (.ifCond .eq 21, 3) := by decide +kernel
theorem dX9_common_24 : decode cX9_common 24 = .ok (.lload 4, 2) := by decide +kernel
theorem dX9_common_26 : decode cX9_common 26 = .ok (.lload 6, 2) := by decide +kernel
theorem dX9_common_28 : decode cX9_common 28 = .ok (.lrem, 1) := by decide +kernel
theorem dX9_common_29 : decode cX9_common 29 = .ok (.lstore 8, 2) := by decide +kernel
theorem dX9_common_31 : decode cX9_common 31 = .ok (.lload 6, 2) := by decide +kernel
theorem dX9_common_33 : decode cX9_common 33 = .ok (.lstore 4, 2) := by decide +kernel
theorem dX9_common_35 : decode cX9_common 35 = .ok (.lload 8, 2) := by decide +kernel
theorem dX9_common_37 : decode cX9_common 37 = .ok (.lstore 6, 2) := by decide +kernel
theorem dX9_common_39 : decode cX9_common 39 = .ok (.goto (-22), 3) := by decide +kernel
theorem dX9_common_42 : decode cX9_common 42 = .ok (.lload 4, 2) := by decide +kernel
theorem dX9_common_44 : decode cX9_common 44 = .ok (.lreturn, 1) := by decide +kernel
set_option maxHeartbeats 4000000 in
set_option maxRecDepth 100000 in
theorem c_X9_common (l : Launch) (D : va_G) (q : Nat → ClassId) (a : Int64) (b : Int64) (ha9 : 0 ≤ a.toInt) (hb9 : 0 ≤ b.toInt) : xC l yX9_common wsX9_common ({ frames := 0, cells := 0, slots := 0, locals := 0 }) D (TY q) [] [.long a, .long b] (xQl D (TY q) (fun (r : Int64) (_ : Unit) => r = xgcd a b) (fun _ => [])) 0 0 := by
  refine x_enter (cc := cX9_common) (maxL := 10) (ret := (some .long)) (by decide) rfl (Nat.le_of_ble_eq_true rfl) ?_
  intro p e s m below meth c A ls H locs hfix hr hlocks hinit hM hl
  obtain ⟨hx, hb, hml, hown, hts⟩ := id hfix
  have hl : lv_has ls 10 [(0, .long a), (2, .long b)] := hl
  refine lv_lload_n hx hb dX9_common_0 rfl (lv_at hl 0 rfl) ?_
  refine lv_lconst (v := 0) hx hb dX9_common_1 (by decide) ?_
  refine x_lcmp_ge (tgt := 11) hx hb dX9_common_2 dX9_common_3 (by decide) (fun c1 => ?_) (fun c1 => ?_)
  · refine lv_lload_n hx hb dX9_common_11 rfl (lv_at hl 0 rfl) ?_
    refine lv_lstore (lv' := [(4, .long a), (0, .long a), (2, .long b)]) hx hb dX9_common_12 hl (by decide) rfl (fun ls hl => ?_)
    refine lv_lload_n hx hb dX9_common_14 rfl (lv_at hl 2 rfl) ?_
    refine lv_lstore (lv' := [(6, .long b), (4, .long a), (0, .long a), (2, .long b)]) hx hb dX9_common_15 hl (by decide) rfl (fun ls hl => ?_)
    refine x_loop (ι := Int64 × Int64) (fun z => [(0, .long a), (2, .long b), (4, .long z.1), (6, .long z.2)]) (fun z => []) (fun z => 0 ≤ z.1.toInt ∧ 0 ≤ z.2.toInt ∧ Nat.gcd z.1.toInt.toNat z.2.toInt.toNat = Nat.gcd a.toInt.toNat b.toInt.toNat) (fun z => z.2.toInt.toNat) (a, b) (⟨ha9, hb9, rfl⟩) hM (lv_sub hl [2, 3, 1, 0] rfl) ?_
    intro ⟨x, y⟩ hI3 ih2 H locs hM ls hl
    have hM : xM D (TY q) [] A s.heap s H locs := hM
    have hl : lv_has ls 10 [(0, .long a), (2, .long b), (4, .long x), (6, .long y)] := hl
    have hI3 : 0 ≤ x.toInt ∧ 0 ≤ y.toInt ∧ Nat.gcd x.toInt.toNat y.toInt.toNat = Nat.gcd a.toInt.toNat b.toInt.toNat := hI3
    obtain ⟨hI3_0, hI3_1, hI3_2⟩ := id hI3
    have hx9 := hI3_0
    have hy9 := hI3_1
    have hg9 := hI3_2
    try dsimp only
    refine lv_lload hx hb dX9_common_17 (lv_at hl 3 rfl) ?_
    refine lv_lconst (v := 0) hx hb dX9_common_19 (by decide) ?_
    refine x_lcmp_eq (tgt := 42) hx hb dX9_common_20 dX9_common_21 (by decide) (fun c4 => ?_) (fun c4 => ?_)
    · refine lv_lload hx hb dX9_common_42 (lv_at hl 2 rfl) ?_
      exact x_lret hx hb hr hlocks () hM (show x = xgcd a b from by exact xgcd_eq hx9 (by assumption) hg9) dX9_common_44
    · refine lv_lload hx hb dX9_common_24 (lv_at hl 2 rfl) ?_
      refine lv_lload hx hb dX9_common_26 (lv_at hl 3 rfl) ?_
      refine lv_lrem hx hb dX9_common_28 (by assumption) ?_
      refine lv_lstore (lv' := [(8, .long (x - x / y * y)), (0, .long a), (2, .long b), (4, .long x), (6, .long y)]) hx hb dX9_common_29 hl (by decide) rfl (fun ls hl => ?_)
      refine lv_lload hx hb dX9_common_31 (lv_at hl 4 rfl) ?_
      refine lv_lstore (lv' := [(4, .long y), (8, .long (x - x / y * y)), (0, .long a), (2, .long b), (6, .long y)]) hx hb dX9_common_33 hl (by decide) rfl (fun ls hl => ?_)
      refine lv_lload hx hb dX9_common_35 (lv_at hl 1 rfl) ?_
      refine lv_lstore (lv' := [(6, .long (x - x / y * y)), (4, .long y), (8, .long (x - x / y * y)), (0, .long a), (2, .long b)]) hx hb dX9_common_37 hl (by decide) rfl (fun ls hl => ?_)
      refine lv_goto (tgt := 17) hx hb dX9_common_39 (by decide) ?_
      have hl : lv_has ls 10 [(0, .long a), (2, .long b), (4, .long y), (6, .long (x - x / y * y))] := lv_sub hl [3, 4, 1, 0] rfl
      exact ih2 (y, xrem x y) (show (xrem x y).toInt.toNat < y.toInt.toNat from xrem_lt hx9 hy9 (by assumption)) (show 0 ≤ y.toInt ∧ 0 ≤ (xrem x y).toInt ∧ Nat.gcd y.toInt.toNat (xrem x y).toInt.toNat = Nat.gcd a.toInt.toNat b.toInt.toNat from ⟨hy9, xrem_nn hx9 hy9 (by assumption), (xrem_gcd hx9 hy9 (by assumption)).trans hg9⟩) _ _ hM _ hl
  · exfalso; exact absurd (by assumption : ¬ (0 : Int64) ≤ a) (fun z => z (Int64.le_iff_toInt_le.mpr ha9))

set_option maxRecDepth 20000 in
theorem ggX9_bake_X9_in : GoodIn wsX9_bake wsX9_in := goodIn_r _ [8] (by decide +kernel) (by decide +kernel)
set_option maxRecDepth 20000 in
theorem gX9_bake_X9_in : GoodIn wsX9_bake (va_wsS RX9 104 yX9_in wsX9_in) := goodIn_app (goodIn_of _ (by decide +kernel)) ggX9_bake_X9_in
set_option maxRecDepth 20000 in
theorem ggX9_bake_X9_bakeCost : GoodIn wsX9_bake wsX9_bakeCost := goodIn_r _ [12, 3, 13, 14, 18, 19, 20, 21, 22, 23, 24, 25, 26, 27, 28, 29, 30, 31, 32, 33, 34, 35, 36, 37, 38, 39, 40, 41, 42, 43, 44, 45, 46, 47, 48] (by decide +kernel) (by decide +kernel)
set_option maxRecDepth 20000 in
theorem gX9_bake_X9_bakeCost : GoodIn wsX9_bake (wsV RX9 264 RX9 yX9_bakeCost wsX9_bakeCost) := goodIn_app (goodIn_of _ (by decide +kernel)) ggX9_bake_X9_bakeCost
set_option maxRecDepth 20000 in
theorem ggX9_bake_X9_common : GoodIn wsX9_bake wsX9_common := goodIn_r _ [17] (by decide +kernel) (by decide +kernel)
set_option maxRecDepth 20000 in
theorem gX9_bake_X9_common : GoodIn wsX9_bake (va_wsS RX9 269 yX9_common wsX9_common) := goodIn_app (goodIn_of _ (by decide +kernel)) ggX9_bake_X9_common
theorem dX9_bake_0 : decode cX9_bake 0 = .ok (.iload_n 1, 1) := by decide +kernel
theorem dX9_bake_1 : decode cX9_bake 1 = .ok (.i2l, 1) := by decide +kernel
theorem dX9_bake_2 : decode cX9_bake 2 = .ok (.lconst 0, 1) := by decide +kernel
theorem dX9_bake_3 : decode cX9_bake 3 = .ok (.ldc2_w 129, 3) := by decide +kernel
theorem dX9_bake_6 : decode cX9_bake 6 = .ok (.invokestatic 104, 3) := by decide +kernel
theorem dX9_bake_9 : decode cX9_bake 9 = .ok (.ifCond .eq 27, 3) := by decide +kernel
theorem dX9_bake_12 : decode cX9_bake 12 = .ok (.iload_n 2, 1) := by decide +kernel
theorem dX9_bake_13 : decode cX9_bake 13 = .ok (.i2l, 1) := by decide +kernel
theorem dX9_bake_14 : decode cX9_bake 14 = .ok (.lconst 0, 1) := by decide +kernel
theorem dX9_bake_15 : decode cX9_bake 15 = .ok (.ldc2_w 129, 3) := by decide +kernel
theorem dX9_bake_18 : decode cX9_bake 18 = .ok (.invokestatic 104, 3) := by decide +kernel
theorem dX9_bake_21 : decode cX9_bake 21 = .ok (.ifCond .eq 15, 3) := by decide +kernel
theorem dX9_bake_24 : decode cX9_bake 24 = .ok (.iload_n 3, 1) := by decide +kernel
theorem dX9_bake_25 : decode cX9_bake 25 = .ok (.i2l, 1) := by decide +kernel
theorem dX9_bake_26 : decode cX9_bake 26 = .ok (.lconst 0, 1) := by decide +kernel
theorem dX9_bake_27 : decode cX9_bake 27 = .ok (.ldc2_w 123, 3) := by decide +kernel
theorem dX9_bake_30 : decode cX9_bake 30 = .ok (.invokestatic 104, 3) := by decide +kernel
theorem dX9_bake_33 : decode cX9_bake 33 = .ok (.ifCond .ne 5, 3) := by decide +kernel
theorem dX9_bake_36 : decode cX9_bake 36 = .ok (.iconst (-1), 1) := by decide +kernel
theorem dX9_bake_37 : decode cX9_bake 37 = .ok (.ireturn, 1) := by decide +kernel
theorem dX9_bake_38 : decode cX9_bake 38 = .ok (.aload_n 0, 1) := by decide +kernel
theorem dX9_bake_39 : decode cX9_bake 39 = .ok (.getfield 43, 3) := by decide +kernel
theorem dX9_bake_42 : decode cX9_bake 42 = .ok (.iconst 0, 1) := by decide +kernel
theorem dX9_bake_43 : decode cX9_bake 43 = .ok (.iaload, 1) := by decide +kernel
theorem dX9_bake_44 : decode cX9_bake 44 = .ok (.ifCond .ne 6, 3) := by decide +kernel
theorem dX9_bake_47 : decode cX9_bake 47 = .ok (.bipush (-4), 2) := by decide +kernel
theorem dX9_bake_49 : decode cX9_bake 49 = .ok (.ireturn, 1) := by decide +kernel
theorem dX9_bake_50 : decode cX9_bake 50 = .ok (.iconst 0, 1) := by decide +kernel
theorem dX9_bake_51 : decode cX9_bake 51 = .ok (.istore 4, 2) := by decide +kernel
theorem dX9_bake_53 : decode cX9_bake 53 = .ok (.iconst 1, 1) := by decide +kernel
theorem dX9_bake_54 : decode cX9_bake 54 = .ok (.istore 5, 2) := by decide +kernel
theorem dX9_bake_56 : decode cX9_bake 56 = .ok (.iload 5, 2) := by decide +kernel
theorem dX9_bake_58 : decode cX9_bake 58 = .ok (.bipush 20, 2) := by decide +kernel
theorem dX9_bake_60 : decode cX9_bake 60 = .ok (.if_icmp .gt 37, 3) := by decide +kernel
theorem dX9_bake_63 : decode cX9_bake 63 = .ok (.aload_n 0, 1) := by decide +kernel
theorem dX9_bake_64 : decode cX9_bake 64 = .ok (.iload 5, 2) := by decide +kernel
theorem dX9_bake_66 : decode cX9_bake 66 = .ok (.iload_n 1, 1) := by decide +kernel
theorem dX9_bake_67 : decode cX9_bake 67 = .ok (.iload_n 2, 1) := by decide +kernel
theorem dX9_bake_68 : decode cX9_bake 68 = .ok (.invokevirtual 264, 3) := by decide +kernel
theorem dX9_bake_71 : decode cX9_bake 71 = .ok (.aload_n 0, 1) := by decide +kernel
theorem dX9_bake_72 : decode cX9_bake 72 = .ok (.iload 4, 2) := by decide +kernel
theorem dX9_bake_74 : decode cX9_bake 74 = .ok (.iload_n 1, 1) := by decide +kernel
theorem dX9_bake_75 : decode cX9_bake 75 = .ok (.iload_n 2, 1) := by decide +kernel
theorem dX9_bake_76 : decode cX9_bake 76 = .ok (.invokevirtual 264, 3) := by decide +kernel
theorem dX9_bake_79 : decode cX9_bake 79 = .ok (.if_icmp .ge 8, 3) := by decide +kernel
theorem dX9_bake_82 : decode cX9_bake 82 = .ok (.iload 5, 2) := by decide +kernel
theorem dX9_bake_84 : decode cX9_bake 84 = .ok (.goto 5, 3) := by decide +kernel
theorem dX9_bake_87 : decode cX9_bake 87 = .ok (.iload 4, 2) := by decide +kernel
theorem dX9_bake_89 : decode cX9_bake 89 = .ok (.istore 4, 2) := by decide +kernel
theorem dX9_bake_91 : decode cX9_bake 91 = .ok (.iinc 5 1, 3) := by decide +kernel
theorem dX9_bake_94 : decode cX9_bake 94 = .ok (.goto (-38), 3) := by decide +kernel
theorem dX9_bake_97 : decode cX9_bake 97 = .ok (.aload_n 0, 1) := by decide +kernel
theorem dX9_bake_98 : decode cX9_bake 98 = .ok (.iload 4, 2) := by decide +kernel
theorem dX9_bake_100 : decode cX9_bake 100 = .ok (.iload_n 1, 1) := by decide +kernel
theorem dX9_bake_101 : decode cX9_bake 101 = .ok (.iload_n 2, 1) := by decide +kernel
theorem dX9_bake_102 : decode cX9_bake 102 = .ok (.invokevirtual 264, 3) := by decide +kernel
theorem dX9_bake_105 : decode cX9_bake 105 = .ok (.istore 5, 2) := by decide +kernel
theorem dX9_bake_107 : decode cX9_bake 107 = .ok (.iload 5, 2) := by decide +kernel
theorem dX9_bake_109 : decode cX9_bake 109 = .ok (.i2l, 1) := by decide +kernel
theorem dX9_bake_110 : decode cX9_bake 110 = .ok (.ldc2_w 267, 3) := by decide +kernel
theorem dX9_bake_113 : decode cX9_bake 113 = .ok (.invokestatic 269, 3) := by decide +kernel
theorem dX9_bake_116 : decode cX9_bake 116 = .ok (.l2i, 1) := by decide +kernel
theorem dX9_bake_117 : decode cX9_bake 117 = .ok (.istore 6, 2) := by decide +kernel
theorem dX9_bake_119 : decode cX9_bake 119 = .ok (.iload_n 3, 1) := by decide +kernel
theorem dX9_bake_120 : decode cX9_bake 120 = .ok (.ifCond .ne 8, 3) := by decide +kernel
theorem dX9_bake_123 : decode cX9_bake 123 = .ok (.iload 4, 2) := by decide +kernel
theorem dX9_bake_125 : decode cX9_bake 125 = .ok (.goto 21, 3) := by decide +kernel
theorem dX9_bake_128 : decode cX9_bake 128 = .ok (.iload_n 3, 1) := by decide +kernel
theorem dX9_bake_129 : decode cX9_bake 129 = .ok (.iconst 1, 1) := by decide +kernel
theorem dX9_bake_130 : decode cX9_bake 130 = .ok (.if_icmp .ne 11, 3) := by decide +kernel
theorem dX9_bake_133 : decode cX9_bake 133 = .ok (.iload 5, 2) := by decide +kernel
theorem dX9_bake_135 : decode cX9_bake 135 = .ok (.iload 6, 2) := by decide +kernel
theorem dX9_bake_137 : decode cX9_bake 137 = .ok (.idiv, 1) := by decide +kernel
theorem dX9_bake_138 : decode cX9_bake 138 = .ok (.goto 8, 3) := by decide +kernel
theorem dX9_bake_141 : decode cX9_bake 141 = .ok (.bipush 10, 2) := by decide +kernel
theorem dX9_bake_143 : decode cX9_bake 143 = .ok (.iload 6, 2) := by decide +kernel
theorem dX9_bake_145 : decode cX9_bake 145 = .ok (.idiv, 1) := by decide +kernel
theorem dX9_bake_146 : decode cX9_bake 146 = .ok (.ireturn, 1) := by decide +kernel
theorem lkX9_bake_43 : Cond.fieldLink RX9 43 "LeftAtFiveModel" "demands" "[I" ∈ wsX9_bake := by decide +kernel
theorem iwX9_bake_X9 : ∀ w ∈ wsX90, w ∈ wsX9_bake := by decide +kernel
set_option maxHeartbeats 4000000 in
set_option maxRecDepth 100000 in
theorem c_X9_bake (l : Launch) (D : va_G) (q : Nat → ClassId) (ad : Nat → Nat) (σ0 : Int32) (σ1 : Nat → Int32) (σ2 : Nat → Int32) (σ3 : Nat → Int32) (σ4 : Nat → Int32) (σ5 : Nat → Int32) (σ6 : Nat → Int32) (σ7 : Nat → Int32) (σ8 : Nat → Int32) (σ9 : Nat → Int32) (σ10 : Nat → Int32) (σ11 : Nat → Int32) (σ12 : Nat → Int32) (σ13 : Nat → Int32) (σ14 : Nat → Int32) (σ15 : Nat → Int32) (σ16 : Nat → Int32) (σ17 : Nat → Int32) (σ18 : Nat → Int32) (σ19 : Nat → Int32) (σ20 : Int32) (σ21 : Int32) (σ22 : Int32) (σ23 : Nat → Int32) (σ24 : Int32) (σ25 : Int32) (σ26 : Nat → Int32) (σ27 : Nat → Int32) (σ28 : Nat → Int32) (σ29 : Nat → Int32) (σ30 : Nat → Int32) (la : Nat) (wa : Nat) (what : Nat) (hl9 : la ≤ 9) (hw9 : wa ≤ 9) (hwh : what ≤ 2) (hc12 : σ12 0 = nI (tn (σ12 0)) ∧ tn (σ12 0) ≤ 5) (hD9 : ¬ tn (σ12 0) = 0) (hF : ∀ k, k ≤ 20 → 0 ≤ ((xbk σ13 σ14 (nI la) (nI wa) (tn (σ12 0))) k).toInt) : xC l yX9_bake wsX9_bake ({ frames := 1, cells := 0, slots := 0, locals := 29 }) D (TY q) [w9 q ad σ0 σ1 σ2 σ3 σ4 σ5 σ6 σ7 σ8 σ9 σ10 σ11 σ12 σ13 σ14 σ15 σ16 σ17 σ18 σ19 σ20 σ21 σ22 σ23 σ24 σ25 σ26 σ27 σ28 σ29 σ30] [.ref (ad 0), .int (nI la), .int (nI wa), .int (nI what)] (xQi D (TY q) (fun (r : Int32) (_ : Unit) => r = xbake (xbk σ13 σ14 (nI la) (nI wa) (tn (σ12 0))) what) (fun _ => [w9 q ad σ0 σ1 σ2 σ3 σ4 σ5 σ6 σ7 σ8 σ9 σ10 σ11 σ12 σ13 σ14 σ15 σ16 σ17 σ18 σ19 σ20 σ21 σ22 σ23 σ24 σ25 σ26 σ27 σ28 σ29 σ30])) 0 0 := by
  refine x_enter (cc := cX9_bake) (maxL := 7) (ret := (some .int)) (by decide) rfl (Nat.le_of_ble_eq_true rfl) ?_
  intro p e s m below meth c A ls H locs hfix hr hlocks hinit hM hl
  obtain ⟨hx, hb, hml, hown, hts⟩ := id hfix
  have hl : lv_has ls 7 [(0, .ref (ad 0)), (1, .int (nI la)), (2, .int (nI wa)), (3, .int (nI what))] := hl
  have hc12b := hc12.2
  refine lv_iload_n hx hb dX9_bake_0 rfl (lv_at hl 1 rfl) ?_
  refine x_i2l hx hb dX9_bake_1 ?_
  refine lv_lconst (v := 0) hx hb dX9_bake_2 (by decide) ?_
  refine lv_ldc2 (v := 9) hx hb hown (hts (.constantLong RX9 129 (9)) (by decide +kernel)) dX9_bake_3 ?_
  refine x_calli (bc := []) (br := [w9 q ad σ0 σ1 σ2 σ3 σ4 σ5 σ6 σ7 σ8 σ9 σ10 σ11 σ12 σ13 σ14 σ15 σ16 σ17 σ18 σ19 σ20 σ21 σ22 σ23 σ24 σ25 σ26 σ27 σ28 σ29 σ30]) hM [] [0] rfl rfl rfl (by decide) (x_runS (As := [.long ((nI la).toInt64), .long (0 : Int64), .long (9 : Int64)]) (rest := []) hfix (c_X9_in l D q ((nI la).toInt64) (0 : Int64) (9 : Int64) ((la : Nat) : Int) (0 : Int) (9 : Int) ((Jvm.Kit.i64_of_i32 _).trans (nI_toInt (n := la) (by omega))) (by decide) (by decide)) (va_cwS 3 hts gX9_bake_X9_in rfl rfl rfl (by decide +kernel) ⟨Nat.le_of_ble_eq_true rfl, Nat.le_of_ble_eq_true rfl⟩) hM [] rfl rfl rfl hl.1 rfl (Nat.le_of_ble_eq_true rfl) dX9_bake_6 ⟨Nat.le_of_ble_eq_true rfl, Nat.le_of_ble_eq_true rfl⟩) (fun r u H locs hq hM => ?_)
  subst hq
  have hM : xM D (TY q) [w9 q ad σ0 σ1 σ2 σ3 σ4 σ5 σ6 σ7 σ8 σ9 σ10 σ11 σ12 σ13 σ14 σ15 σ16 σ17 σ18 σ19 σ20 σ21 σ22 σ23 σ24 σ25 σ26 σ27 σ28 σ29 σ30] A s.heap s H locs := hM
  refine x_ifz_eq (P := (0 : Int) ≤ ((la : Nat) : Int) ∧ ((la : Nat) : Int) ≤ (9 : Int)) (tgt := 36) hx hb dX9_bake_9 (by decide) (fun c1 => ?_) (fun c1 => ?_)
  · exfalso; omega
  · refine lv_iload_n hx hb dX9_bake_12 rfl (lv_at hl 2 rfl) ?_
    refine x_i2l hx hb dX9_bake_13 ?_
    refine lv_lconst (v := 0) hx hb dX9_bake_14 (by decide) ?_
    refine lv_ldc2 (v := 9) hx hb hown (hts (.constantLong RX9 129 (9)) (by decide +kernel)) dX9_bake_15 ?_
    refine x_calli (bc := []) (br := [w9 q ad σ0 σ1 σ2 σ3 σ4 σ5 σ6 σ7 σ8 σ9 σ10 σ11 σ12 σ13 σ14 σ15 σ16 σ17 σ18 σ19 σ20 σ21 σ22 σ23 σ24 σ25 σ26 σ27 σ28 σ29 σ30]) hM [] [0] rfl rfl rfl (by decide) (x_runS (As := [.long ((nI wa).toInt64), .long (0 : Int64), .long (9 : Int64)]) (rest := []) hfix (c_X9_in l D q ((nI wa).toInt64) (0 : Int64) (9 : Int64) ((wa : Nat) : Int) (0 : Int) (9 : Int) ((Jvm.Kit.i64_of_i32 _).trans (nI_toInt (n := wa) (by omega))) (by decide) (by decide)) (va_cwS 3 hts gX9_bake_X9_in rfl rfl rfl (by decide +kernel) ⟨Nat.le_of_ble_eq_true rfl, Nat.le_of_ble_eq_true rfl⟩) hM [] rfl rfl rfl hl.1 rfl (Nat.le_of_ble_eq_true rfl) dX9_bake_18 ⟨Nat.le_of_ble_eq_true rfl, Nat.le_of_ble_eq_true rfl⟩) (fun r u H locs hq hM => ?_)
    subst hq
    have hM : xM D (TY q) [w9 q ad σ0 σ1 σ2 σ3 σ4 σ5 σ6 σ7 σ8 σ9 σ10 σ11 σ12 σ13 σ14 σ15 σ16 σ17 σ18 σ19 σ20 σ21 σ22 σ23 σ24 σ25 σ26 σ27 σ28 σ29 σ30] A s.heap s H locs := hM
    refine x_ifz_eq (P := (0 : Int) ≤ ((wa : Nat) : Int) ∧ ((wa : Nat) : Int) ≤ (9 : Int)) (tgt := 36) hx hb dX9_bake_21 (by decide) (fun c2 => ?_) (fun c2 => ?_)
    · exfalso; omega
    · refine lv_iload_n hx hb dX9_bake_24 rfl (lv_at hl 3 rfl) ?_
      refine x_i2l hx hb dX9_bake_25 ?_
      refine lv_lconst (v := 0) hx hb dX9_bake_26 (by decide) ?_
      refine lv_ldc2 (v := 2) hx hb hown (hts (.constantLong RX9 123 (2)) (by decide +kernel)) dX9_bake_27 ?_
      refine x_calli (bc := []) (br := [w9 q ad σ0 σ1 σ2 σ3 σ4 σ5 σ6 σ7 σ8 σ9 σ10 σ11 σ12 σ13 σ14 σ15 σ16 σ17 σ18 σ19 σ20 σ21 σ22 σ23 σ24 σ25 σ26 σ27 σ28 σ29 σ30]) hM [] [0] rfl rfl rfl (by decide) (x_runS (As := [.long ((nI what).toInt64), .long (0 : Int64), .long (2 : Int64)]) (rest := []) hfix (c_X9_in l D q ((nI what).toInt64) (0 : Int64) (2 : Int64) ((what : Nat) : Int) (0 : Int) (2 : Int) ((Jvm.Kit.i64_of_i32 _).trans (nI_toInt (n := what) (by omega))) (by decide) (by decide)) (va_cwS 3 hts gX9_bake_X9_in rfl rfl rfl (by decide +kernel) ⟨Nat.le_of_ble_eq_true rfl, Nat.le_of_ble_eq_true rfl⟩) hM [] rfl rfl rfl hl.1 rfl (Nat.le_of_ble_eq_true rfl) dX9_bake_30 ⟨Nat.le_of_ble_eq_true rfl, Nat.le_of_ble_eq_true rfl⟩) (fun r u H locs hq hM => ?_)
      subst hq
      have hM : xM D (TY q) [w9 q ad σ0 σ1 σ2 σ3 σ4 σ5 σ6 σ7 σ8 σ9 σ10 σ11 σ12 σ13 σ14 σ15 σ16 σ17 σ18 σ19 σ20 σ21 σ22 σ23 σ24 σ25 σ26 σ27 σ28 σ29 σ30] A s.heap s H locs := hM
      refine x_ifz_ne (P := (0 : Int) ≤ ((what : Nat) : Int) ∧ ((what : Nat) : Int) ≤ (2 : Int)) (tgt := 38) hx hb dX9_bake_33 (by decide) (fun c3 => ?_) (fun c3 => ?_)
      · refine lv_aload_n hx hb dX9_bake_38 rfl (lv_at hl 0 rfl) ?_
        refine x_get hx hb hts iwX9_bake_X9 hown hM 0 0 rfl rfl rfl 12 (by decide) (hts _ lkX9_bake_43) (fun _ h => h) rfl dX9_bake_39 ?_
        refine lv_iconst (v := nI 0) hx hb dX9_bake_42 (by decide) ?_
        refine x_iald hx hb hM 0 12 0 (f := σ12) rfl rfl rfl (t := 0) (by omega) (by decide) dX9_bake_43 ?_
        refine x_cast (y := nI (tn (σ12 0))) hc12.1 ?_
        refine x_if_ne (x := tn (σ12 0)) (tgt := 50) hx hb (by omega) dX9_bake_44 (by decide) (fun c4 => ?_) (fun c4 => ?_)
        · refine lv_iconst (v := nI 0) hx hb dX9_bake_50 (by decide) ?_
          refine lv_istore (lv' := [(4, .int (nI 0)), (0, .ref (ad 0)), (1, .int (nI la)), (2, .int (nI wa)), (3, .int (nI what))]) hx hb dX9_bake_51 hl (by decide) rfl (fun ls hl => ?_)
          refine lv_iconst (v := nI 1) hx hb dX9_bake_53 (by decide) ?_
          refine lv_istore (lv' := [(5, .int (nI 1)), (4, .int (nI 0)), (0, .ref (ad 0)), (1, .int (nI la)), (2, .int (nI wa)), (3, .int (nI what))]) hx hb dX9_bake_54 hl (by decide) rfl (fun ls hl => ?_)
          refine x_loop (ι := Nat) (fun k => [(0, .ref (ad 0)), (1, .int (nI la)), (2, .int (nI wa)), (3, .int (nI what)), (4, .int (nI (xbest (xbk σ13 σ14 (nI la) (nI wa) (tn (σ12 0))) k))), (5, .int (nI (k + 1)))]) (fun k => [w9 q ad σ0 σ1 σ2 σ3 σ4 σ5 σ6 σ7 σ8 σ9 σ10 σ11 σ12 σ13 σ14 σ15 σ16 σ17 σ18 σ19 σ20 σ21 σ22 σ23 σ24 σ25 σ26 σ27 σ28 σ29 σ30]) (fun k => k ≤ 20) (fun k => 20 - k) 0 (by omega) hM (lv_sub hl [2, 3, 4, 5, 1, 0] rfl) ?_
          intro k hI6 ih5 H locs hM ls hl
          have hM : xM D (TY q) [w9 q ad σ0 σ1 σ2 σ3 σ4 σ5 σ6 σ7 σ8 σ9 σ10 σ11 σ12 σ13 σ14 σ15 σ16 σ17 σ18 σ19 σ20 σ21 σ22 σ23 σ24 σ25 σ26 σ27 σ28 σ29 σ30] A s.heap s H locs := hM
          have hl : lv_has ls 7 [(0, .ref (ad 0)), (1, .int (nI la)), (2, .int (nI wa)), (3, .int (nI what)), (4, .int (nI (xbest (xbk σ13 σ14 (nI la) (nI wa) (tn (σ12 0))) k))), (5, .int (nI (k + 1)))] := hl
          have hI6 : k ≤ 20 := hI6
          have hbl := xbest_le (xbk σ13 σ14 (nI la) (nI wa) (tn (σ12 0))) k
          try dsimp only
          refine lv_iload hx hb dX9_bake_56 (lv_at hl 5 rfl) ?_
          refine lv_bipush (v := nI 20) hx hb dX9_bake_58 (by decide) ?_
          refine x_icmp_gt (x := k + 1) (y := 20) (tgt := 97) hx hb (by omega) (by omega) dX9_bake_60 (by decide) (fun c7 => ?_) (fun c7 => ?_)
          · have hk20 : k = 20 := by omega
            have hcn := hF _ (Nat.le_trans hbl (by omega : k ≤ 20))
            refine lv_aload_n hx hb dX9_bake_97 rfl (lv_at hl 0 rfl) ?_
            refine lv_iload hx hb dX9_bake_98 (lv_at hl 4 rfl) ?_
            refine lv_iload_n hx hb dX9_bake_100 rfl (lv_at hl 1 rfl) ?_
            refine lv_iload_n hx hb dX9_bake_101 rfl (lv_at hl 2 rfl) ?_
            refine x_calli (bc := [w9 q ad σ0 σ1 σ2 σ3 σ4 σ5 σ6 σ7 σ8 σ9 σ10 σ11 σ12 σ13 σ14 σ15 σ16 σ17 σ18 σ19 σ20 σ21 σ22 σ23 σ24 σ25 σ26 σ27 σ28 σ29 σ30]) (br := []) hM [0] [] rfl rfl rfl (by decide) (x_runV (As := [.int (nI (xbest (xbk σ13 σ14 (nI la) (nI wa) (tn (σ12 0))) k)), .int (nI la), .int (nI wa)]) (rest := []) hfix (c_X9_bakeCost l D q ad σ0 σ1 σ2 σ3 σ4 σ5 σ6 σ7 σ8 σ9 σ10 σ11 σ12 σ13 σ14 σ15 σ16 σ17 σ18 σ19 σ20 σ21 σ22 σ23 σ24 σ25 σ26 σ27 σ28 σ29 σ30 (xbest (xbk σ13 σ14 (nI la) (nI wa) (tn (σ12 0))) k) (nI la) (nI wa) hc12) (cwV 3 hts gX9_bake_X9_bakeCost rfl rfl rfl (by decide +kernel) ⟨Nat.le_of_ble_eq_true rfl, Nat.le_of_ble_eq_true rfl⟩) hM [0] rfl rfl 0 0 rfl rfl rfl rfl rfl hl.1 rfl (Nat.le_of_ble_eq_true rfl) dX9_bake_102 ⟨Nat.le_of_ble_eq_true rfl, Nat.le_of_ble_eq_true rfl⟩) (fun r u H locs hq hM => ?_)
            subst hq
            have hM : xM D (TY q) [w9 q ad σ0 σ1 σ2 σ3 σ4 σ5 σ6 σ7 σ8 σ9 σ10 σ11 σ12 σ13 σ14 σ15 σ16 σ17 σ18 σ19 σ20 σ21 σ22 σ23 σ24 σ25 σ26 σ27 σ28 σ29 σ30] A s.heap s H locs := hM
            refine lv_istore (lv' := [(5, .int (xbk σ13 σ14 (nI la) (nI wa) (tn (σ12 0)) (xbest (xbk σ13 σ14 (nI la) (nI wa) (tn (σ12 0))) k))), (0, .ref (ad 0)), (1, .int (nI la)), (2, .int (nI wa)), (3, .int (nI what)), (4, .int (nI (xbest (xbk σ13 σ14 (nI la) (nI wa) (tn (σ12 0))) k)))]) hx hb dX9_bake_105 hl (by decide) rfl (fun ls hl => ?_)
            refine lv_iload hx hb dX9_bake_107 (lv_at hl 0 rfl) ?_
            refine x_i2l hx hb dX9_bake_109 ?_
            refine lv_ldc2 (v := 10) hx hb hown (hts (.constantLong RX9 267 (10)) (by decide +kernel)) dX9_bake_110 ?_
            refine x_calll (bc := []) (br := [w9 q ad σ0 σ1 σ2 σ3 σ4 σ5 σ6 σ7 σ8 σ9 σ10 σ11 σ12 σ13 σ14 σ15 σ16 σ17 σ18 σ19 σ20 σ21 σ22 σ23 σ24 σ25 σ26 σ27 σ28 σ29 σ30]) hM [] [0] rfl rfl rfl (by decide) (x_runS (As := [.long ((xbk σ13 σ14 (nI la) (nI wa) (tn (σ12 0)) (xbest (xbk σ13 σ14 (nI la) (nI wa) (tn (σ12 0))) k)).toInt64), .long (10 : Int64)]) (rest := []) hfix (c_X9_common l D q ((xbk σ13 σ14 (nI la) (nI wa) (tn (σ12 0)) (xbest (xbk σ13 σ14 (nI la) (nI wa) (tn (σ12 0))) k)).toInt64) (10 : Int64) (by rw [Jvm.Kit.i64_of_i32]; exact hcn) (by decide)) (va_cwS 2 hts gX9_bake_X9_common rfl rfl rfl (by decide +kernel) ⟨Nat.le_of_ble_eq_true rfl, Nat.le_of_ble_eq_true rfl⟩) hM [] rfl rfl rfl hl.1 rfl (Nat.le_of_ble_eq_true rfl) dX9_bake_113 ⟨Nat.le_of_ble_eq_true rfl, Nat.le_of_ble_eq_true rfl⟩) (fun r u H locs hq hM => ?_)
            subst hq
            have hM : xM D (TY q) [w9 q ad σ0 σ1 σ2 σ3 σ4 σ5 σ6 σ7 σ8 σ9 σ10 σ11 σ12 σ13 σ14 σ15 σ16 σ17 σ18 σ19 σ20 σ21 σ22 σ23 σ24 σ25 σ26 σ27 σ28 σ29 σ30] A s.heap s H locs := hM
            refine lv_l2i hx hb dX9_bake_116 rfl ?_
            refine lv_istore (lv' := [(6, .int ((xgcd ((xbk σ13 σ14 (nI la) (nI wa) (tn (σ12 0)) (xbest (xbk σ13 σ14 (nI la) (nI wa) (tn (σ12 0))) k)).toInt64) (10 : Int64)).toInt32)), (5, .int (xbk σ13 σ14 (nI la) (nI wa) (tn (σ12 0)) (xbest (xbk σ13 σ14 (nI la) (nI wa) (tn (σ12 0))) k))), (0, .ref (ad 0)), (1, .int (nI la)), (2, .int (nI wa)), (3, .int (nI what)), (4, .int (nI (xbest (xbk σ13 σ14 (nI la) (nI wa) (tn (σ12 0))) k)))]) hx hb dX9_bake_117 hl (by decide) rfl (fun ls hl => ?_)
            refine lv_iload_n hx hb dX9_bake_119 rfl (lv_at hl 5 rfl) ?_
            refine x_if_ne (x := what) (tgt := 128) hx hb (by omega) dX9_bake_120 (by decide) (fun c8 => ?_) (fun c8 => ?_)
            · refine lv_iload_n hx hb dX9_bake_128 rfl (lv_at hl 5 rfl) ?_
              refine lv_iconst (v := nI 1) hx hb dX9_bake_129 (by decide) ?_
              refine x_icmp_ne (x := what) (y := 1) (tgt := 141) hx hb (by omega) (by omega) dX9_bake_130 (by decide) (fun c9 => ?_) (fun c9 => ?_)
              · refine lv_bipush (v := nI 10) hx hb dX9_bake_141 (by decide) ?_
                refine lv_iload hx hb dX9_bake_143 (lv_at hl 0 rfl) ?_
                refine lv_idiv hx hb dX9_bake_145 (xgcd_ne hcn) ?_
                exact x_iret hx hb hr hlocks () hM (show (nI 10) / ((xgcd ((xbk σ13 σ14 (nI la) (nI wa) (tn (σ12 0)) (xbest (xbk σ13 σ14 (nI la) (nI wa) (tn (σ12 0))) k)).toInt64) (10 : Int64)).toInt32) = xbake (xbk σ13 σ14 (nI la) (nI wa) (tn (σ12 0))) what from by (subst hk20; unfold xbake; first | rw [if_pos (c := what = 0) (by omega)] | rw [if_neg (c := what = 0) (by omega), if_pos (c := what = 1) (by omega)] | rw [if_neg (c := what = 0) (by omega), if_neg (c := what = 1) (by omega)])) dX9_bake_146
              · refine lv_iload hx hb dX9_bake_133 (lv_at hl 1 rfl) ?_
                refine lv_iload hx hb dX9_bake_135 (lv_at hl 0 rfl) ?_
                refine lv_idiv hx hb dX9_bake_137 (xgcd_ne hcn) ?_
                refine lv_goto (tgt := 146) hx hb dX9_bake_138 (by decide) ?_
                exact x_iret hx hb hr hlocks () hM (show (xbk σ13 σ14 (nI la) (nI wa) (tn (σ12 0)) (xbest (xbk σ13 σ14 (nI la) (nI wa) (tn (σ12 0))) k)) / ((xgcd ((xbk σ13 σ14 (nI la) (nI wa) (tn (σ12 0)) (xbest (xbk σ13 σ14 (nI la) (nI wa) (tn (σ12 0))) k)).toInt64) (10 : Int64)).toInt32) = xbake (xbk σ13 σ14 (nI la) (nI wa) (tn (σ12 0))) what from by (subst hk20; unfold xbake; first | rw [if_pos (c := what = 0) (by omega)] | rw [if_neg (c := what = 0) (by omega), if_pos (c := what = 1) (by omega)] | rw [if_neg (c := what = 0) (by omega), if_neg (c := what = 1) (by omega)])) dX9_bake_146
            · refine lv_iload hx hb dX9_bake_123 (lv_at hl 6 rfl) ?_
              refine lv_goto (tgt := 146) hx hb dX9_bake_125 (by decide) ?_
              exact x_iret hx hb hr hlocks () hM (show nI (xbest (xbk σ13 σ14 (nI la) (nI wa) (tn (σ12 0))) k) = xbake (xbk σ13 σ14 (nI la) (nI wa) (tn (σ12 0))) what from by (subst hk20; unfold xbake; first | rw [if_pos (c := what = 0) (by omega)] | rw [if_neg (c := what = 0) (by omega), if_pos (c := what = 1) (by omega)] | rw [if_neg (c := what = 0) (by omega), if_neg (c := what = 1) (by omega)])) dX9_bake_146
          · refine lv_aload_n hx hb dX9_bake_63 rfl (lv_at hl 0 rfl) ?_
            refine lv_iload hx hb dX9_bake_64 (lv_at hl 5 rfl) ?_
            refine lv_iload_n hx hb dX9_bake_66 rfl (lv_at hl 1 rfl) ?_
            refine lv_iload_n hx hb dX9_bake_67 rfl (lv_at hl 2 rfl) ?_
            refine x_calli (bc := [w9 q ad σ0 σ1 σ2 σ3 σ4 σ5 σ6 σ7 σ8 σ9 σ10 σ11 σ12 σ13 σ14 σ15 σ16 σ17 σ18 σ19 σ20 σ21 σ22 σ23 σ24 σ25 σ26 σ27 σ28 σ29 σ30]) (br := []) hM [0] [] rfl rfl rfl (by decide) (x_runV (As := [.int (nI (k + 1)), .int (nI la), .int (nI wa)]) (rest := []) hfix (c_X9_bakeCost l D q ad σ0 σ1 σ2 σ3 σ4 σ5 σ6 σ7 σ8 σ9 σ10 σ11 σ12 σ13 σ14 σ15 σ16 σ17 σ18 σ19 σ20 σ21 σ22 σ23 σ24 σ25 σ26 σ27 σ28 σ29 σ30 (k + 1) (nI la) (nI wa) hc12) (cwV 3 hts gX9_bake_X9_bakeCost rfl rfl rfl (by decide +kernel) ⟨Nat.le_of_ble_eq_true rfl, Nat.le_of_ble_eq_true rfl⟩) hM [0] rfl rfl 0 0 rfl rfl rfl rfl rfl hl.1 rfl (Nat.le_of_ble_eq_true rfl) dX9_bake_68 ⟨Nat.le_of_ble_eq_true rfl, Nat.le_of_ble_eq_true rfl⟩) (fun r u H locs hq hM => ?_)
            subst hq
            have hM : xM D (TY q) [w9 q ad σ0 σ1 σ2 σ3 σ4 σ5 σ6 σ7 σ8 σ9 σ10 σ11 σ12 σ13 σ14 σ15 σ16 σ17 σ18 σ19 σ20 σ21 σ22 σ23 σ24 σ25 σ26 σ27 σ28 σ29 σ30] A s.heap s H locs := hM
            refine lv_aload_n hx hb dX9_bake_71 rfl (lv_at hl 0 rfl) ?_
            refine lv_iload hx hb dX9_bake_72 (lv_at hl 4 rfl) ?_
            refine lv_iload_n hx hb dX9_bake_74 rfl (lv_at hl 1 rfl) ?_
            refine lv_iload_n hx hb dX9_bake_75 rfl (lv_at hl 2 rfl) ?_
            refine x_calli (bc := [w9 q ad σ0 σ1 σ2 σ3 σ4 σ5 σ6 σ7 σ8 σ9 σ10 σ11 σ12 σ13 σ14 σ15 σ16 σ17 σ18 σ19 σ20 σ21 σ22 σ23 σ24 σ25 σ26 σ27 σ28 σ29 σ30]) (br := []) hM [0] [] rfl rfl rfl (by decide) (x_runV (As := [.int (nI (xbest (xbk σ13 σ14 (nI la) (nI wa) (tn (σ12 0))) k)), .int (nI la), .int (nI wa)]) (rest := [.int (xbk σ13 σ14 (nI la) (nI wa) (tn (σ12 0)) (k + 1))]) hfix (c_X9_bakeCost l D q ad σ0 σ1 σ2 σ3 σ4 σ5 σ6 σ7 σ8 σ9 σ10 σ11 σ12 σ13 σ14 σ15 σ16 σ17 σ18 σ19 σ20 σ21 σ22 σ23 σ24 σ25 σ26 σ27 σ28 σ29 σ30 (xbest (xbk σ13 σ14 (nI la) (nI wa) (tn (σ12 0))) k) (nI la) (nI wa) hc12) (cwV 3 hts gX9_bake_X9_bakeCost rfl rfl rfl (by decide +kernel) ⟨Nat.le_of_ble_eq_true rfl, Nat.le_of_ble_eq_true rfl⟩) hM [0] rfl rfl 0 0 rfl rfl rfl rfl rfl hl.1 rfl (Nat.le_of_ble_eq_true rfl) dX9_bake_76 ⟨Nat.le_of_ble_eq_true rfl, Nat.le_of_ble_eq_true rfl⟩) (fun r u H locs hq hM => ?_)
            subst hq
            have hM : xM D (TY q) [w9 q ad σ0 σ1 σ2 σ3 σ4 σ5 σ6 σ7 σ8 σ9 σ10 σ11 σ12 σ13 σ14 σ15 σ16 σ17 σ18 σ19 σ20 σ21 σ22 σ23 σ24 σ25 σ26 σ27 σ28 σ29 σ30] A s.heap s H locs := hM
            refine lv_icmp_ge (tgt := 87) hx hb dX9_bake_79 (by decide) (fun c10 => ?_) (fun c10 => ?_)
            · have hn9 : ¬ (xbk σ13 σ14 (nI la) (nI wa) (tn (σ12 0))) (k + 1) < (xbk σ13 σ14 (nI la) (nI wa) (tn (σ12 0))) (xbest (xbk σ13 σ14 (nI la) (nI wa) (tn (σ12 0))) k) := Int32.not_lt.mpr (by assumption)
              refine lv_iload hx hb dX9_bake_87 (lv_at hl 4 rfl) ?_
              refine lv_istore (lv' := [(4, .int (nI (xbest (xbk σ13 σ14 (nI la) (nI wa) (tn (σ12 0))) k))), (0, .ref (ad 0)), (1, .int (nI la)), (2, .int (nI wa)), (3, .int (nI what)), (5, .int (nI (k + 1)))]) hx hb dX9_bake_89 hl (by decide) rfl (fun ls hl => ?_)
              refine lv_iinc (v := nI (k + 1 + 1)) (lv' := [(5, .int (nI (k + 1 + 1))), (4, .int (nI (xbest (xbk σ13 σ14 (nI la) (nI wa) (tn (σ12 0))) k))), (0, .ref (ad 0)), (1, .int (nI la)), (2, .int (nI wa)), (3, .int (nI what))]) hx hb dX9_bake_91 hl (k := 5) rfl (x_inc _ 1) (by decide) rfl (fun ls hl => ?_)
              refine lv_goto (tgt := 56) hx hb dX9_bake_94 (by decide) ?_
              have hl : lv_has ls 7 [(0, .ref (ad 0)), (1, .int (nI la)), (2, .int (nI wa)), (3, .int (nI what)), (4, .int (nI (xbest (xbk σ13 σ14 (nI la) (nI wa) (tn (σ12 0))) k))), (5, .int (nI (k + 1 + 1)))] := lv_sub hl [2, 3, 4, 5, 1, 0] rfl
              have e11 : nI (xbest (xbk σ13 σ14 (nI la) (nI wa) (tn (σ12 0))) k) = nI (xbest (xbk σ13 σ14 (nI la) (nI wa) (tn (σ12 0))) (k + 1)) := by (first | (rw [xbest, if_pos hp9]) | (rw [xbest, if_neg hn9]))
              have hl : lv_has ls 7 [(0, .ref (ad 0)), (1, .int (nI la)), (2, .int (nI wa)), (3, .int (nI what)), (4, .int (nI (xbest (xbk σ13 σ14 (nI la) (nI wa) (tn (σ12 0))) (k + 1)))), (5, .int (nI (k + 1 + 1)))] := x_lvset hl 4 rfl (congrArg Value.int e11) rfl
              exact ih5 (k + 1) (show 20 - (k + 1) < 20 - k from by omega) (show (k + 1) ≤ 20 from by omega) _ _ hM _ hl
            · have hp9 : (xbk σ13 σ14 (nI la) (nI wa) (tn (σ12 0))) (k + 1) < (xbk σ13 σ14 (nI la) (nI wa) (tn (σ12 0))) (xbest (xbk σ13 σ14 (nI la) (nI wa) (tn (σ12 0))) k) := Int32.not_le.mp (by assumption)
              refine lv_iload hx hb dX9_bake_82 (lv_at hl 5 rfl) ?_
              refine lv_goto (tgt := 89) hx hb dX9_bake_84 (by decide) ?_
              refine lv_istore (lv' := [(4, .int (nI (k + 1))), (0, .ref (ad 0)), (1, .int (nI la)), (2, .int (nI wa)), (3, .int (nI what)), (5, .int (nI (k + 1)))]) hx hb dX9_bake_89 hl (by decide) rfl (fun ls hl => ?_)
              refine lv_iinc (v := nI (k + 1 + 1)) (lv' := [(5, .int (nI (k + 1 + 1))), (4, .int (nI (k + 1))), (0, .ref (ad 0)), (1, .int (nI la)), (2, .int (nI wa)), (3, .int (nI what))]) hx hb dX9_bake_91 hl (k := 5) rfl (x_inc _ 1) (by decide) rfl (fun ls hl => ?_)
              refine lv_goto (tgt := 56) hx hb dX9_bake_94 (by decide) ?_
              have hl : lv_has ls 7 [(0, .ref (ad 0)), (1, .int (nI la)), (2, .int (nI wa)), (3, .int (nI what)), (4, .int (nI (k + 1))), (5, .int (nI (k + 1 + 1)))] := lv_sub hl [2, 3, 4, 5, 1, 0] rfl
              have e12 : nI (k + 1) = nI (xbest (xbk σ13 σ14 (nI la) (nI wa) (tn (σ12 0))) (k + 1)) := by (first | (rw [xbest, if_pos hp9]) | (rw [xbest, if_neg hn9]))
              have hl : lv_has ls 7 [(0, .ref (ad 0)), (1, .int (nI la)), (2, .int (nI wa)), (3, .int (nI what)), (4, .int (nI (xbest (xbk σ13 σ14 (nI la) (nI wa) (tn (σ12 0))) (k + 1)))), (5, .int (nI (k + 1 + 1)))] := x_lvset hl 4 rfl (congrArg Value.int e12) rfl
              exact ih5 (k + 1) (show 20 - (k + 1) < 20 - k from by omega) (show (k + 1) ≤ 20 from by omega) _ _ hM _ hl
        · exfalso; omega
      · exfalso; omega

set_option maxHeartbeats 4000000 in
set_option maxRecDepth 100000 in
theorem c_X9_bakeN (l : Launch) (D : va_G) (q : Nat → ClassId) (ad : Nat → Nat) (σ0 : Int32) (σ1 : Nat → Int32) (σ2 : Nat → Int32) (σ3 : Nat → Int32) (σ4 : Nat → Int32) (σ5 : Nat → Int32) (σ6 : Nat → Int32) (σ7 : Nat → Int32) (σ8 : Nat → Int32) (σ9 : Nat → Int32) (σ10 : Nat → Int32) (σ11 : Nat → Int32) (σ12 : Nat → Int32) (σ13 : Nat → Int32) (σ14 : Nat → Int32) (σ15 : Nat → Int32) (σ16 : Nat → Int32) (σ17 : Nat → Int32) (σ18 : Nat → Int32) (σ19 : Nat → Int32) (σ20 : Int32) (σ21 : Int32) (σ22 : Int32) (σ23 : Nat → Int32) (σ24 : Int32) (σ25 : Int32) (σ26 : Nat → Int32) (σ27 : Nat → Int32) (σ28 : Nat → Int32) (σ29 : Nat → Int32) (σ30 : Nat → Int32) (la : Nat) (wa : Nat) (what : Nat) (hl9 : la ≤ 9) (hw9 : wa ≤ 9) (hwh : what ≤ 2) (hc12 : σ12 0 = nI (tn (σ12 0)) ∧ tn (σ12 0) ≤ 5) (hD9 : tn (σ12 0) = 0) : xC l yX9_bake wsX9_bake ({ frames := 1, cells := 0, slots := 0, locals := 29 }) D (TY q) [w9 q ad σ0 σ1 σ2 σ3 σ4 σ5 σ6 σ7 σ8 σ9 σ10 σ11 σ12 σ13 σ14 σ15 σ16 σ17 σ18 σ19 σ20 σ21 σ22 σ23 σ24 σ25 σ26 σ27 σ28 σ29 σ30] [.ref (ad 0), .int (nI la), .int (nI wa), .int (nI what)] (xQi D (TY q) (fun (r : Int32) (_ : Unit) => r = (-4)) (fun _ => [w9 q ad σ0 σ1 σ2 σ3 σ4 σ5 σ6 σ7 σ8 σ9 σ10 σ11 σ12 σ13 σ14 σ15 σ16 σ17 σ18 σ19 σ20 σ21 σ22 σ23 σ24 σ25 σ26 σ27 σ28 σ29 σ30])) 0 0 := by
  refine x_enter (cc := cX9_bake) (maxL := 7) (ret := (some .int)) (by decide) rfl (Nat.le_of_ble_eq_true rfl) ?_
  intro p e s m below meth c A ls H locs hfix hr hlocks hinit hM hl
  obtain ⟨hx, hb, hml, hown, hts⟩ := id hfix
  have hl : lv_has ls 7 [(0, .ref (ad 0)), (1, .int (nI la)), (2, .int (nI wa)), (3, .int (nI what))] := hl
  refine lv_iload_n hx hb dX9_bake_0 rfl (lv_at hl 1 rfl) ?_
  refine x_i2l hx hb dX9_bake_1 ?_
  refine lv_lconst (v := 0) hx hb dX9_bake_2 (by decide) ?_
  refine lv_ldc2 (v := 9) hx hb hown (hts (.constantLong RX9 129 (9)) (by decide +kernel)) dX9_bake_3 ?_
  refine x_calli (bc := []) (br := [w9 q ad σ0 σ1 σ2 σ3 σ4 σ5 σ6 σ7 σ8 σ9 σ10 σ11 σ12 σ13 σ14 σ15 σ16 σ17 σ18 σ19 σ20 σ21 σ22 σ23 σ24 σ25 σ26 σ27 σ28 σ29 σ30]) hM [] [0] rfl rfl rfl (by decide) (x_runS (As := [.long ((nI la).toInt64), .long (0 : Int64), .long (9 : Int64)]) (rest := []) hfix (c_X9_in l D q ((nI la).toInt64) (0 : Int64) (9 : Int64) ((la : Nat) : Int) (0 : Int) (9 : Int) ((Jvm.Kit.i64_of_i32 _).trans (nI_toInt (n := la) (by omega))) (by decide) (by decide)) (va_cwS 3 hts gX9_bake_X9_in rfl rfl rfl (by decide +kernel) ⟨Nat.le_of_ble_eq_true rfl, Nat.le_of_ble_eq_true rfl⟩) hM [] rfl rfl rfl hl.1 rfl (Nat.le_of_ble_eq_true rfl) dX9_bake_6 ⟨Nat.le_of_ble_eq_true rfl, Nat.le_of_ble_eq_true rfl⟩) (fun r u H locs hq hM => ?_)
  subst hq
  have hM : xM D (TY q) [w9 q ad σ0 σ1 σ2 σ3 σ4 σ5 σ6 σ7 σ8 σ9 σ10 σ11 σ12 σ13 σ14 σ15 σ16 σ17 σ18 σ19 σ20 σ21 σ22 σ23 σ24 σ25 σ26 σ27 σ28 σ29 σ30] A s.heap s H locs := hM
  refine x_ifz_eq (P := (0 : Int) ≤ ((la : Nat) : Int) ∧ ((la : Nat) : Int) ≤ (9 : Int)) (tgt := 36) hx hb dX9_bake_9 (by decide) (fun c1 => ?_) (fun c1 => ?_)
  · exfalso; omega
  · refine lv_iload_n hx hb dX9_bake_12 rfl (lv_at hl 2 rfl) ?_
    refine x_i2l hx hb dX9_bake_13 ?_
    refine lv_lconst (v := 0) hx hb dX9_bake_14 (by decide) ?_
    refine lv_ldc2 (v := 9) hx hb hown (hts (.constantLong RX9 129 (9)) (by decide +kernel)) dX9_bake_15 ?_
    refine x_calli (bc := []) (br := [w9 q ad σ0 σ1 σ2 σ3 σ4 σ5 σ6 σ7 σ8 σ9 σ10 σ11 σ12 σ13 σ14 σ15 σ16 σ17 σ18 σ19 σ20 σ21 σ22 σ23 σ24 σ25 σ26 σ27 σ28 σ29 σ30]) hM [] [0] rfl rfl rfl (by decide) (x_runS (As := [.long ((nI wa).toInt64), .long (0 : Int64), .long (9 : Int64)]) (rest := []) hfix (c_X9_in l D q ((nI wa).toInt64) (0 : Int64) (9 : Int64) ((wa : Nat) : Int) (0 : Int) (9 : Int) ((Jvm.Kit.i64_of_i32 _).trans (nI_toInt (n := wa) (by omega))) (by decide) (by decide)) (va_cwS 3 hts gX9_bake_X9_in rfl rfl rfl (by decide +kernel) ⟨Nat.le_of_ble_eq_true rfl, Nat.le_of_ble_eq_true rfl⟩) hM [] rfl rfl rfl hl.1 rfl (Nat.le_of_ble_eq_true rfl) dX9_bake_18 ⟨Nat.le_of_ble_eq_true rfl, Nat.le_of_ble_eq_true rfl⟩) (fun r u H locs hq hM => ?_)
    subst hq
    have hM : xM D (TY q) [w9 q ad σ0 σ1 σ2 σ3 σ4 σ5 σ6 σ7 σ8 σ9 σ10 σ11 σ12 σ13 σ14 σ15 σ16 σ17 σ18 σ19 σ20 σ21 σ22 σ23 σ24 σ25 σ26 σ27 σ28 σ29 σ30] A s.heap s H locs := hM
    refine x_ifz_eq (P := (0 : Int) ≤ ((wa : Nat) : Int) ∧ ((wa : Nat) : Int) ≤ (9 : Int)) (tgt := 36) hx hb dX9_bake_21 (by decide) (fun c2 => ?_) (fun c2 => ?_)
    · exfalso; omega
    · refine lv_iload_n hx hb dX9_bake_24 rfl (lv_at hl 3 rfl) ?_
      refine x_i2l hx hb dX9_bake_25 ?_
      refine lv_lconst (v := 0) hx hb dX9_bake_26 (by decide) ?_
      refine lv_ldc2 (v := 2) hx hb hown (hts (.constantLong RX9 123 (2)) (by decide +kernel)) dX9_bake_27 ?_
      refine x_calli (bc := []) (br := [w9 q ad σ0 σ1 σ2 σ3 σ4 σ5 σ6 σ7 σ8 σ9 σ10 σ11 σ12 σ13 σ14 σ15 σ16 σ17 σ18 σ19 σ20 σ21 σ22 σ23 σ24 σ25 σ26 σ27 σ28 σ29 σ30]) hM [] [0] rfl rfl rfl (by decide) (x_runS (As := [.long ((nI what).toInt64), .long (0 : Int64), .long (2 : Int64)]) (rest := []) hfix (c_X9_in l D q ((nI what).toInt64) (0 : Int64) (2 : Int64) ((what : Nat) : Int) (0 : Int) (2 : Int) ((Jvm.Kit.i64_of_i32 _).trans (nI_toInt (n := what) (by omega))) (by decide) (by decide)) (va_cwS 3 hts gX9_bake_X9_in rfl rfl rfl (by decide +kernel) ⟨Nat.le_of_ble_eq_true rfl, Nat.le_of_ble_eq_true rfl⟩) hM [] rfl rfl rfl hl.1 rfl (Nat.le_of_ble_eq_true rfl) dX9_bake_30 ⟨Nat.le_of_ble_eq_true rfl, Nat.le_of_ble_eq_true rfl⟩) (fun r u H locs hq hM => ?_)
      subst hq
      have hM : xM D (TY q) [w9 q ad σ0 σ1 σ2 σ3 σ4 σ5 σ6 σ7 σ8 σ9 σ10 σ11 σ12 σ13 σ14 σ15 σ16 σ17 σ18 σ19 σ20 σ21 σ22 σ23 σ24 σ25 σ26 σ27 σ28 σ29 σ30] A s.heap s H locs := hM
      refine x_ifz_ne (P := (0 : Int) ≤ ((what : Nat) : Int) ∧ ((what : Nat) : Int) ≤ (2 : Int)) (tgt := 38) hx hb dX9_bake_33 (by decide) (fun c3 => ?_) (fun c3 => ?_)
      · refine lv_aload_n hx hb dX9_bake_38 rfl (lv_at hl 0 rfl) ?_
        refine x_get hx hb hts iwX9_bake_X9 hown hM 0 0 rfl rfl rfl 12 (by decide) (hts _ lkX9_bake_43) (fun _ h => h) rfl dX9_bake_39 ?_
        refine lv_iconst (v := nI 0) hx hb dX9_bake_42 (by decide) ?_
        refine x_iald hx hb hM 0 12 0 (f := σ12) rfl rfl rfl (t := 0) (by omega) (by decide) dX9_bake_43 ?_
        refine x_cast (y := nI (tn (σ12 0))) hc12.1 ?_
        refine x_if_ne (x := tn (σ12 0)) (tgt := 50) hx hb (by omega) dX9_bake_44 (by decide) (fun c4 => ?_) (fun c4 => ?_)
        · exfalso; omega
        · refine lv_bipush (v := (-4)) hx hb dX9_bake_47 (by decide) ?_
          exact x_iret hx hb hr hlocks () hM (show (-4) = (-4) from rfl) dX9_bake_49
      · exfalso; omega

set_option maxHeartbeats 4000000 in
set_option maxRecDepth 100000 in
theorem c_X9_bakeB (l : Launch) (D : va_G) (q : Nat → ClassId) (ad : Nat → Nat) (σ0 : Int32) (σ1 : Nat → Int32) (σ2 : Nat → Int32) (σ3 : Nat → Int32) (σ4 : Nat → Int32) (σ5 : Nat → Int32) (σ6 : Nat → Int32) (σ7 : Nat → Int32) (σ8 : Nat → Int32) (σ9 : Nat → Int32) (σ10 : Nat → Int32) (σ11 : Nat → Int32) (σ12 : Nat → Int32) (σ13 : Nat → Int32) (σ14 : Nat → Int32) (σ15 : Nat → Int32) (σ16 : Nat → Int32) (σ17 : Nat → Int32) (σ18 : Nat → Int32) (σ19 : Nat → Int32) (σ20 : Int32) (σ21 : Int32) (σ22 : Int32) (σ23 : Nat → Int32) (σ24 : Int32) (σ25 : Int32) (σ26 : Nat → Int32) (σ27 : Nat → Int32) (σ28 : Nat → Int32) (σ29 : Nat → Int32) (σ30 : Nat → Int32) (la : Int32) (laz : Int) (wa : Int32) (waz : Int) (what : Int32) (whatz : Int) (h_laz : la.toInt = laz) (h_waz : wa.toInt = waz) (h_whatz : what.toInt = whatz) (hbad : ¬ (0 ≤ laz ∧ laz ≤ 9) ∨ ¬ (0 ≤ waz ∧ waz ≤ 9) ∨ ¬ (0 ≤ whatz ∧ whatz ≤ 2)) : xC l yX9_bake wsX9_bake ({ frames := 1, cells := 0, slots := 0, locals := 29 }) D (TY q) [w9 q ad σ0 σ1 σ2 σ3 σ4 σ5 σ6 σ7 σ8 σ9 σ10 σ11 σ12 σ13 σ14 σ15 σ16 σ17 σ18 σ19 σ20 σ21 σ22 σ23 σ24 σ25 σ26 σ27 σ28 σ29 σ30] [.ref (ad 0), .int la, .int wa, .int what] (xQi D (TY q) (fun (r : Int32) (_ : Unit) => r = (-1)) (fun _ => [w9 q ad σ0 σ1 σ2 σ3 σ4 σ5 σ6 σ7 σ8 σ9 σ10 σ11 σ12 σ13 σ14 σ15 σ16 σ17 σ18 σ19 σ20 σ21 σ22 σ23 σ24 σ25 σ26 σ27 σ28 σ29 σ30])) 0 0 := by
  refine x_enter (cc := cX9_bake) (maxL := 7) (ret := (some .int)) (by decide) rfl (Nat.le_of_ble_eq_true rfl) ?_
  intro p e s m below meth c A ls H locs hfix hr hlocks hinit hM hl
  obtain ⟨hx, hb, hml, hown, hts⟩ := id hfix
  have hl : lv_has ls 7 [(0, .ref (ad 0)), (1, .int la), (2, .int wa), (3, .int what)] := hl
  refine lv_iload_n hx hb dX9_bake_0 rfl (lv_at hl 1 rfl) ?_
  refine x_i2l hx hb dX9_bake_1 ?_
  refine lv_lconst (v := 0) hx hb dX9_bake_2 (by decide) ?_
  refine lv_ldc2 (v := 9) hx hb hown (hts (.constantLong RX9 129 (9)) (by decide +kernel)) dX9_bake_3 ?_
  refine x_calli (bc := []) (br := [w9 q ad σ0 σ1 σ2 σ3 σ4 σ5 σ6 σ7 σ8 σ9 σ10 σ11 σ12 σ13 σ14 σ15 σ16 σ17 σ18 σ19 σ20 σ21 σ22 σ23 σ24 σ25 σ26 σ27 σ28 σ29 σ30]) hM [] [0] rfl rfl rfl (by decide) (x_runS (As := [.long la.toInt64, .long (0 : Int64), .long (9 : Int64)]) (rest := []) hfix (c_X9_in l D q la.toInt64 (0 : Int64) (9 : Int64) laz (0 : Int) (9 : Int) ((Jvm.Kit.i64_of_i32 _).trans h_laz) (by decide) (by decide)) (va_cwS 3 hts gX9_bake_X9_in rfl rfl rfl (by decide +kernel) ⟨Nat.le_of_ble_eq_true rfl, Nat.le_of_ble_eq_true rfl⟩) hM [] rfl rfl rfl hl.1 rfl (Nat.le_of_ble_eq_true rfl) dX9_bake_6 ⟨Nat.le_of_ble_eq_true rfl, Nat.le_of_ble_eq_true rfl⟩) (fun r u H locs hq hM => ?_)
  subst hq
  have hM : xM D (TY q) [w9 q ad σ0 σ1 σ2 σ3 σ4 σ5 σ6 σ7 σ8 σ9 σ10 σ11 σ12 σ13 σ14 σ15 σ16 σ17 σ18 σ19 σ20 σ21 σ22 σ23 σ24 σ25 σ26 σ27 σ28 σ29 σ30] A s.heap s H locs := hM
  refine x_ifz_eq (P := (0 : Int) ≤ laz ∧ laz ≤ (9 : Int)) (tgt := 36) hx hb dX9_bake_9 (by decide) (fun c1 => ?_) (fun c1 => ?_)
  · refine lv_iconst (v := (-1)) hx hb dX9_bake_36 (by decide) ?_
    exact x_iret hx hb hr hlocks () hM (show (-1) = (-1) from rfl) dX9_bake_37
  · refine lv_iload_n hx hb dX9_bake_12 rfl (lv_at hl 2 rfl) ?_
    refine x_i2l hx hb dX9_bake_13 ?_
    refine lv_lconst (v := 0) hx hb dX9_bake_14 (by decide) ?_
    refine lv_ldc2 (v := 9) hx hb hown (hts (.constantLong RX9 129 (9)) (by decide +kernel)) dX9_bake_15 ?_
    refine x_calli (bc := []) (br := [w9 q ad σ0 σ1 σ2 σ3 σ4 σ5 σ6 σ7 σ8 σ9 σ10 σ11 σ12 σ13 σ14 σ15 σ16 σ17 σ18 σ19 σ20 σ21 σ22 σ23 σ24 σ25 σ26 σ27 σ28 σ29 σ30]) hM [] [0] rfl rfl rfl (by decide) (x_runS (As := [.long wa.toInt64, .long (0 : Int64), .long (9 : Int64)]) (rest := []) hfix (c_X9_in l D q wa.toInt64 (0 : Int64) (9 : Int64) waz (0 : Int) (9 : Int) ((Jvm.Kit.i64_of_i32 _).trans h_waz) (by decide) (by decide)) (va_cwS 3 hts gX9_bake_X9_in rfl rfl rfl (by decide +kernel) ⟨Nat.le_of_ble_eq_true rfl, Nat.le_of_ble_eq_true rfl⟩) hM [] rfl rfl rfl hl.1 rfl (Nat.le_of_ble_eq_true rfl) dX9_bake_18 ⟨Nat.le_of_ble_eq_true rfl, Nat.le_of_ble_eq_true rfl⟩) (fun r u H locs hq hM => ?_)
    subst hq
    have hM : xM D (TY q) [w9 q ad σ0 σ1 σ2 σ3 σ4 σ5 σ6 σ7 σ8 σ9 σ10 σ11 σ12 σ13 σ14 σ15 σ16 σ17 σ18 σ19 σ20 σ21 σ22 σ23 σ24 σ25 σ26 σ27 σ28 σ29 σ30] A s.heap s H locs := hM
    refine x_ifz_eq (P := (0 : Int) ≤ waz ∧ waz ≤ (9 : Int)) (tgt := 36) hx hb dX9_bake_21 (by decide) (fun c2 => ?_) (fun c2 => ?_)
    · refine lv_iconst (v := (-1)) hx hb dX9_bake_36 (by decide) ?_
      exact x_iret hx hb hr hlocks () hM (show (-1) = (-1) from rfl) dX9_bake_37
    · refine lv_iload_n hx hb dX9_bake_24 rfl (lv_at hl 3 rfl) ?_
      refine x_i2l hx hb dX9_bake_25 ?_
      refine lv_lconst (v := 0) hx hb dX9_bake_26 (by decide) ?_
      refine lv_ldc2 (v := 2) hx hb hown (hts (.constantLong RX9 123 (2)) (by decide +kernel)) dX9_bake_27 ?_
      refine x_calli (bc := []) (br := [w9 q ad σ0 σ1 σ2 σ3 σ4 σ5 σ6 σ7 σ8 σ9 σ10 σ11 σ12 σ13 σ14 σ15 σ16 σ17 σ18 σ19 σ20 σ21 σ22 σ23 σ24 σ25 σ26 σ27 σ28 σ29 σ30]) hM [] [0] rfl rfl rfl (by decide) (x_runS (As := [.long what.toInt64, .long (0 : Int64), .long (2 : Int64)]) (rest := []) hfix (c_X9_in l D q what.toInt64 (0 : Int64) (2 : Int64) whatz (0 : Int) (2 : Int) ((Jvm.Kit.i64_of_i32 _).trans h_whatz) (by decide) (by decide)) (va_cwS 3 hts gX9_bake_X9_in rfl rfl rfl (by decide +kernel) ⟨Nat.le_of_ble_eq_true rfl, Nat.le_of_ble_eq_true rfl⟩) hM [] rfl rfl rfl hl.1 rfl (Nat.le_of_ble_eq_true rfl) dX9_bake_30 ⟨Nat.le_of_ble_eq_true rfl, Nat.le_of_ble_eq_true rfl⟩) (fun r u H locs hq hM => ?_)
      subst hq
      have hM : xM D (TY q) [w9 q ad σ0 σ1 σ2 σ3 σ4 σ5 σ6 σ7 σ8 σ9 σ10 σ11 σ12 σ13 σ14 σ15 σ16 σ17 σ18 σ19 σ20 σ21 σ22 σ23 σ24 σ25 σ26 σ27 σ28 σ29 σ30] A s.heap s H locs := hM
      refine x_ifz_ne (P := (0 : Int) ≤ whatz ∧ whatz ≤ (2 : Int)) (tgt := 38) hx hb dX9_bake_33 (by decide) (fun c3 => ?_) (fun c3 => ?_)
      · exfalso; omega
      · refine lv_iconst (v := (-1)) hx hb dX9_bake_36 (by decide) ?_
        exact x_iret hx hb hr hlocks () hM (show (-1) = (-1) from rfl) dX9_bake_37
