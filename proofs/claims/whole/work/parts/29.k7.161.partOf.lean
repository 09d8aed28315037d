set_option maxRecDepth 20000 in
theorem ggX6_partOf_X6_commonDivisor : GoodIn wsX6_partOf wsX6_commonDivisor := goodIn_r _ [4] (by decide +kernel) (by decide +kernel)
set_option maxRecDepth 20000 in
theorem gX6_partOf_X6_commonDivisor : GoodIn wsX6_partOf (va_wsS RX6 39 yX6_commonDivisor wsX6_commonDivisor) := goodIn_app (goodIn_of _ (by decide +kernel)) ggX6_partOf_X6_commonDivisor
theorem dX6_partOf_0 : decode cX6_partOf 0 = .ok (.lload_n 0, 1) := by decide +kernel
theorem dX6_partOf_1 : decode cX6_partOf 1 = .ok (.lload_n 2, 1) := by decide +kernel
theorem dX6_partOf_2 : decode cX6_partOf 2 = .ok (.invokestatic 39, 3) := by decide +kernel
theorem dX6_partOf_5 : decode cX6_partOf 5 = .ok (.lstore 5, 2) := by decide +kernel
theorem dX6_partOf_7 : decode cX6_partOf 7 = .ok (.iload 4, 2) := by decide +kernel
theorem dX6_partOf_9 : decode cX6_partOf 9 = .ok (.ifCond .eq 7, 3) := by decide +kernel
theorem dX6_partOf_12 : decode cX6_partOf 12 = .ok (.lload_n 0, 1) := by decide +kernel
theorem dX6_partOf_13 : decode cX6_partOf 13 = .ok (.goto 4, 3) := by decide +kernel
theorem dX6_partOf_16 : decode cX6_partOf 16 = .ok (.lload_n 2, 1) := by decide +kernel
theorem dX6_partOf_17 : decode cX6_partOf 17 = .ok (.lstore 7, 2) := by decide +kernel
theorem dX6_partOf_19 : decode cX6_partOf 19 = .ok (.lload 5, 2) := by decide +kernel
theorem dX6_partOf_21 : decode cX6_partOf 21 = .ok (.lconst 0, 1) := by decide +kernel
theorem dX6_partOf_22 : decode cX6_partOf 22 = .ok (.lcmp, 1) := by decide +kernel
theorem dX6_partOf_23 : decode cX6_partOf 23 = .ok (.ifCond .le 11, 3) := by decide +kernel
theorem dX6_partOf_26 : decode cX6_partOf 26 = .ok (.lload 7, 2) := by decide +kernel
theorem dX6_partOf_28 : decode cX6_partOf 28 = .ok (.lload 5, 2) := by decide +kernel
theorem dX6_partOf_30 : decode cX6_partOf 30 = .ok (.ldiv, 1) := by decide +kernel
theorem dX6_partOf_31 : decode cX6_partOf 31 = .ok (.goto 5, 3) := by decide +kernel
theorem dX6_partOf_34 : decode cX6_partOf 34 = .ok (.lload 7, 2) := by decide +kernel
theorem dX6_partOf_36 : decode cX6_partOf 36 = .ok (.lreturn, 1) := by decide +kernel
set_option maxHeartbeats 2000000 in
set_option maxRecDepth 100000 in
theorem c_X6_partOf (l : Launch) (D : va_G) (q : Nat → ClassId) (a : Int64) (b : Int64) (up : Int32) (ha9 : 0 ≤ a.toInt) (hb9 : 0 < b.toInt) : xC l yX6_partOf wsX6_partOf ({ frames := 1, cells := 0, slots := 0, locals := 30 }) D (TY q) [] [.long a, .long b, .int up] (xQl D (TY q) (fun (r : Int64) (_ : Unit) => r = (if up = 0 then b else a) / xgcd a b) (fun _ => [])) 0 0 := by
  refine x_enter (cc := cX6_partOf) (maxL := 9) (ret := (some .long)) (by decide) rfl (Nat.le_of_ble_eq_true rfl) ?_
  intro p e s m below meth c A ls H locs hfix hr hlocks hinit hM hl
  obtain ⟨hx, hb, hml, hown, hts⟩ := id hfix
  have hl : lv_has ls 9 [(0, .long a), (2, .long b), (4, .int up)] := hl
  refine lv_lload_n hx hb dX6_partOf_0 rfl (lv_at hl 0 rfl) ?_
  refine lv_lload_n hx hb dX6_partOf_1 rfl (lv_at hl 1 rfl) ?_
  refine x_calll (bc := []) (br := []) hM [] [] rfl rfl rfl (by decide) (x_runS (As := [.long a, .long b]) (rest := []) hfix (c_X6_commonDivisor l D q a b ha9 hb9) (va_cwS 2 hts gX6_partOf_X6_commonDivisor rfl rfl rfl (by decide +kernel) ⟨Nat.le_of_ble_eq_true rfl, Nat.le_of_ble_eq_true rfl⟩) hM [] rfl rfl rfl hl.1 rfl (Nat.le_of_ble_eq_true rfl) dX6_partOf_2 ⟨Nat.le_of_ble_eq_true rfl, Nat.le_of_ble_eq_true rfl⟩) (fun r u H locs hq hM => ?_)
  subst hq
  have hM : xM D (TY q) [] A s.heap s H locs := hM
  refine lv_lstore (lv' := [(5, .long (xgcd a b)), (0, .long a), (2, .long b), (4, .int up)]) hx hb dX6_partOf_5 hl (by decide) rfl (fun ls hl => ?_)
  refine lv_iload hx hb dX6_partOf_7 (lv_at hl 3 rfl) ?_
  refine lv_if_eq (tgt := 16) hx hb dX6_partOf_9 (by decide) (fun c1 => ?_) (fun c1 => ?_)
  · refine lv_lload_n hx hb dX6_partOf_16 rfl (lv_at hl 2 rfl) ?_
    refine lv_lstore (lv' := [(7, .long b), (5, .long (xgcd a b)), (0, .long a), (2, .long b), (4, .int up)]) hx hb dX6_partOf_17 hl (by decide) rfl (fun ls hl => ?_)
    refine lv_lload hx hb dX6_partOf_19 (lv_at hl 1 rfl) ?_
    refine lv_lconst (v := 0) hx hb dX6_partOf_21 (by decide) ?_
    refine x_lcmp_le (tgt := 34) hx hb dX6_partOf_22 dX6_partOf_23 (by decide) (fun c2 => ?_) (fun c2 => ?_)
    · exfalso; exact absurd (by assumption) (xgcd_nle hb9)
    · refine lv_lload hx hb dX6_partOf_26 (lv_at hl 0 rfl) ?_
      refine lv_lload hx hb dX6_partOf_28 (lv_at hl 1 rfl) ?_
      refine lv_ldiv hx hb dX6_partOf_30 (xgcd_n0 hb9) ?_
      refine lv_goto (tgt := 36) hx hb dX6_partOf_31 (by decide) ?_
      exact x_lret hx hb hr hlocks () hM (show b / (xgcd a b) = (if up = 0 then b else a) / xgcd a b from by (first | rw [if_pos (by assumption)] | rw [if_neg (by assumption)])) dX6_partOf_36
  · refine lv_lload_n hx hb dX6_partOf_12 rfl (lv_at hl 1 rfl) ?_
    refine lv_goto (tgt := 17) hx hb dX6_partOf_13 (by decide) ?_
    refine lv_lstore (lv' := [(7, .long a), (5, .long (xgcd a b)), (0, .long a), (2, .long b), (4, .int up)]) hx hb dX6_partOf_17 hl (by decide) rfl (fun ls hl => ?_)
    refine lv_lload hx hb dX6_partOf_19 (lv_at hl 1 rfl) ?_
    refine lv_lconst (v := 0) hx hb dX6_partOf_21 (by decide) ?_
    refine x_lcmp_le (tgt := 34) hx hb dX6_partOf_22 dX6_partOf_23 (by decide) (fun c3 => ?_) (fun c3 => ?_)
    · exfalso; exact absurd (by assumption) (xgcd_nle hb9)
    · refine lv_lload hx hb dX6_partOf_26 (lv_at hl 0 rfl) ?_
      refine lv_lload hx hb dX6_partOf_28 (lv_at hl 1 rfl) ?_
      refine lv_ldiv hx hb dX6_partOf_30 (xgcd_n0 hb9) ?_
      refine lv_goto (tgt := 36) hx hb dX6_partOf_31 (by decide) ?_
      exact x_lret hx hb hr hlocks () hM (show a / (xgcd a b) = (if up = 0 then b else a) / xgcd a b from by (first | rw [if_pos (by assumption)] | rw [if_neg (by assumption)])) dX6_partOf_36
