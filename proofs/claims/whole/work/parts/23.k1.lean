theorem dX8_within_0 : decode cX8_within 0 = .ok (.iload_n 0, 1) := by decide +kernel
theorem dX8_within_1 : decode cX8_within 1 = .ok (.iload_n 1, 1) := by decide +kernel
theorem dX8_within_2 : decode cX8_within 2 = .ok (.if_icmp .lt 12, 3) := by decide +kernel
theorem dX8_within_5 : decode cX8_within 5 = .ok (.iload_n 0, 1) := by decide +kernel
theorem dX8_within_6 : decode cX8_within 6 = .ok (.iload_n 2, 1) := by decide +kernel
theorem dX8_within_7 : decode cX8_within 7 = .ok (.if_icmp .gt 7, 3) := by decide +kernel
theorem dX8_within_10 : decode cX8_within 10 = .ok (.iconst 1, 1) := by decide +kernel
theorem dX8_within_11 : decode cX8_within 11 = .ok (.goto 4, 3) := by decide +kernel
theorem dX8_within_14 : decode cX8_within 14 = .ok (.iconst 0, 1) := by decide +kernel
theorem dX8_within_15 : decode cX8_within 15 = .ok (.ireturn, 1) := by decide +kernel
set_option maxHeartbeats 2000000 in
set_option maxRecDepth 100000 in
theorem c_X8_within (l : Launch) (D : va_G) (q : Nat → ClassId) (n : Int32) (lo : Int32) (hi : Int32) (x : Int) (a : Int) (b : Int) (h_x : n.toInt = x) (h_a : lo.toInt = a) (h_b : hi.toInt = b) : xC l yX8_within wsX8_within ({ frames := 0, cells := 0, slots := 0, locals := 0 }) D (TY q) [] [.int n, .int lo, .int hi] (xQi D (TY q) (fun (r : Int32) (_ : Unit) => r = zb (a ≤ x ∧ x ≤ b)) (fun _ => [])) 0 0 := by
  refine x_enter (cc := cX8_within) (maxL := 3) (ret := (some .boolean)) (by decide) rfl (Nat.le_of_ble_eq_true rfl) ?_
  intro p e s m below meth c A ls H locs hfix hr hlocks hinit hM hl
  obtain ⟨hx, hb, hml, hown, hts⟩ := id hfix
  have hl : lv_has ls 3 [(0, .int n), (1, .int lo), (2, .int hi)] := hl
  refine lv_iload_n hx hb dX8_within_0 rfl (lv_at hl 0 rfl) ?_
  refine lv_iload_n hx hb dX8_within_1 rfl (lv_at hl 1 rfl) ?_
  refine lv_icmp_lt (tgt := 14) hx hb dX8_within_2 (by decide) (fun c1 => ?_) (fun c1 => ?_)
  · refine lv_iconst (v := nI 0) hx hb dX8_within_14 (by decide) ?_
    exact x_zret hx hb hr hlocks () hM rfl (show nI 0 = zb (a ≤ x ∧ x ≤ b) from by (first | exact zb_t' (by simp only [Int32.lt_iff_toInt_lt] at *; omega) | exact zb_f' (by simp only [Int32.lt_iff_toInt_lt] at *; omega))) dX8_within_15
  · refine lv_iload_n hx hb dX8_within_5 rfl (lv_at hl 0 rfl) ?_
    refine lv_iload_n hx hb dX8_within_6 rfl (lv_at hl 2 rfl) ?_
    refine lv_icmp_gt (tgt := 14) hx hb dX8_within_7 (by decide) (fun c2 => ?_) (fun c2 => ?_)
    · refine lv_iconst (v := nI 0) hx hb dX8_within_14 (by decide) ?_
      exact x_zret hx hb hr hlocks () hM rfl (show nI 0 = zb (a ≤ x ∧ x ≤ b) from by (first | exact zb_t' (by simp only [Int32.lt_iff_toInt_lt] at *; omega) | exact zb_f' (by simp only [Int32.lt_iff_toInt_lt] at *; omega))) dX8_within_15
    · refine lv_iconst (v := nI 1) hx hb dX8_within_10 (by decide) ?_
      refine lv_goto (tgt := 15) hx hb dX8_within_11 (by decide) ?_
      exact x_zret hx hb hr hlocks () hM rfl (show nI 1 = zb (a ≤ x ∧ x ≤ b) from by (first | exact zb_t' (by simp only [Int32.lt_iff_toInt_lt] at *; omega) | exact zb_f' (by simp only [Int32.lt_iff_toInt_lt] at *; omega))) dX8_within_15

theorem dX5_at_0 : decode cX5_at 0 = .ok (.iload_n 1, 1) := by decide +kernel
theorem dX5_at_1 : decode cX5_at 1 = .ok (.ifCond .lt 15, 3) := by decide +kernel
theorem dX5_at_4 : decode cX5_at 4 = .ok (.iload_n 1, 1) := by decide +kernel
theorem dX5_at_5 : decode cX5_at 5 = .ok (.aload_n 0, 1) := by decide +kernel
theorem dX5_at_6 : decode cX5_at 6 = .ok (.arraylength, 1) := by decide +kernel
theorem dX5_at_7 : decode cX5_at 7 = .ok (.if_icmp .ge 9, 3) := by decide +kernel
theorem dX5_at_10 : decode cX5_at 10 = .ok (.aload_n 0, 1) := by decide +kernel
theorem dX5_at_11 : decode cX5_at 11 = .ok (.iload_n 1, 1) := by decide +kernel
theorem dX5_at_12 : decode cX5_at 12 = .ok (.iaload, 1) := by decide +kernel
theorem dX5_at_13 : decode cX5_at 13 = .ok (.goto 4, 3) := by decide +kernel
theorem dX5_at_16 : decode cX5_at 16 = .ok (.iconst 0, 1) := by decide +kernel
theorem dX5_at_17 : decode cX5_at 17 = .ok (.ireturn, 1) := by decide +kernel
set_option maxHeartbeats 2000000 in
set_option maxRecDepth 100000 in
theorem c_X5_at (l : Launch) (D : va_G) (q : Nat → ClassId) (a n : Nat) (f : Nat → Int32) (i : Int32) (hn : n < 2 ^ 31) : xC l yX5_at wsX5_at ({ frames := 0, cells := 0, slots := 0, locals := 0 }) D (TY q) [wa q a n f] [.ref a, .int i] (xQi D (TY q) (fun (r : Int32) (_ : Unit) => r = xat f n i) (fun _ => [wa q a n f])) 0 0 := by
  refine x_enter (cc := cX5_at) (maxL := 2) (ret := (some .int)) (by decide) rfl (Nat.le_of_ble_eq_true rfl) ?_
  intro p e s m below meth c A ls H locs hfix hr hlocks hinit hM hl
  obtain ⟨hx, hb, hml, hown, hts⟩ := id hfix
  have hl : lv_has ls 2 [(0, .ref a), (1, .int i)] := hl
  refine lv_iload_n hx hb dX5_at_0 rfl (lv_at hl 1 rfl) ?_
  refine lv_if_lt (tgt := 16) hx hb dX5_at_1 (by decide) (fun c1 => ?_) (fun c1 => ?_)
  · refine lv_iconst (v := nI 0) hx hb dX5_at_16 (by decide) ?_
    exact x_iret hx hb hr hlocks () hM (show nI 0 = xat f n i from by (first | (rw [hij]; exact (xat_1 hn hj).symm) | exact (xat_0 hn (Or.inl (by assumption))).symm | exact (xat_0 hn (Or.inr (by assumption))).symm)) dX5_at_17
  · refine lv_iload_n hx hb dX5_at_4 rfl (lv_at hl 1 rfl) ?_
    refine lv_aload_n hx hb dX5_at_5 rfl (lv_at hl 0 rfl) ?_
    refine x_alen hx hb hM 0 0 0 rfl rfl rfl dX5_at_6 ?_
    refine lv_icmp_ge (tgt := 16) hx hb dX5_at_7 (by decide) (fun c2 => ?_) (fun c2 => ?_)
    · refine lv_iconst (v := nI 0) hx hb dX5_at_16 (by decide) ?_
      exact x_iret hx hb hr hlocks () hM (show nI 0 = xat f n i from by (first | (rw [hij]; exact (xat_1 hn hj).symm) | exact (xat_0 hn (Or.inl (by assumption))).symm | exact (xat_0 hn (Or.inr (by assumption))).symm)) dX5_at_17
    · obtain ⟨j, hj, hij⟩ := xat_ex hn (by assumption : ¬ i < 0) (by assumption : ¬ nI n ≤ i)
      refine lv_aload_n hx hb dX5_at_10 rfl (lv_at hl 0 rfl) ?_
      refine lv_iload_n hx hb dX5_at_11 rfl (lv_at hl 1 rfl) ?_
      refine x_cast (y := nI j) hij ?_
      refine x_iald hx hb hM 0 0 0 (f := f) rfl rfl rfl (t := j) (by omega) (by omega) dX5_at_12 ?_
      refine lv_goto (tgt := 17) hx hb dX5_at_13 (by decide) ?_
      exact x_iret hx hb hr hlocks () hM (show f j = xat f n i from by (first | (rw [hij]; exact (xat_1 hn hj).symm) | exact (xat_0 hn (Or.inl (by assumption))).symm | exact (xat_0 hn (Or.inr (by assumption))).symm)) dX5_at_17

theorem dX5_put_0 : decode cX5_put 0 = .ok (.iload_n 1, 1) := by decide +kernel
theorem dX5_put_1 : decode cX5_put 1 = .ok (.ifCond .lt 13, 3) := by decide +kernel
theorem dX5_put_4 : decode cX5_put 4 = .ok (.iload_n 1, 1) := by decide +kernel
theorem dX5_put_5 : decode cX5_put 5 = .ok (.aload_n 0, 1) := by decide +kernel
theorem dX5_put_6 : decode cX5_put 6 = .ok (.arraylength, 1) := by decide +kernel
theorem dX5_put_7 : decode cX5_put 7 = .ok (.if_icmp .ge 7, 3) := by decide +kernel
theorem dX5_put_10 : decode cX5_put 10 = .ok (.aload_n 0, 1) := by decide +kernel
theorem dX5_put_11 : decode cX5_put 11 = .ok (.iload_n 1, 1) := by decide +kernel
theorem dX5_put_12 : decode cX5_put 12 = .ok (.iload_n 2, 1) := by decide +kernel
theorem dX5_put_13 : decode cX5_put 13 = .ok (.iastore, 1) := by decide +kernel
theorem dX5_put_14 : decode cX5_put 14 = .ok (.return_, 1) := by decide +kernel
set_option maxHeartbeats 2000000 in
set_option maxRecDepth 100000 in
theorem c_X5_put (l : Launch) (D : va_G) (q : Nat → ClassId) (a n : Nat) (f : Nat → Int32) (i : Int32) (v : Int32) (hn : n < 2 ^ 31) : xC l yX5_put wsX5_put ({ frames := 0, cells := 0, slots := 0, locals := 0 }) D (TY q) [wa q a n f] [.ref a, .int i, .int v] (xQv D (TY q) (fun (_ : Unit) => True) (fun _ => [wa q a n (xput f n i v)])) 0 0 := by
  refine x_enter (cc := cX5_put) (maxL := 3) (ret := none) (by decide) rfl (Nat.le_of_ble_eq_true rfl) ?_
  intro p e s m below meth c A ls H locs hfix hr hlocks hinit hM hl
  obtain ⟨hx, hb, hml, hown, hts⟩ := id hfix
  have hl : lv_has ls 3 [(0, .ref a), (1, .int i), (2, .int v)] := hl
  refine lv_iload_n hx hb dX5_put_0 rfl (lv_at hl 1 rfl) ?_
  refine lv_if_lt (tgt := 14) hx hb dX5_put_1 (by decide) (fun c1 => ?_) (fun c1 => ?_)
  · have e2 : ((f) : Nat → Int32) = (xput f n i v) := by (first | (rw [hij]; exact (xput_1 hn hj).symm) | exact (xput_0 hn (Or.inl (by assumption))).symm | exact (xput_0 hn (Or.inr (by assumption))).symm)
    have hM : xM D (TY q) [wa q a n (xput f n i v)] A s.heap s H locs := Eq.mp (congrArg (fun z9 => xM D (TY q) [wa q a n z9] A s.heap s H locs) e2) hM
    exact x_vret hx hb hr hlocks () hM trivial dX5_put_14
  · refine lv_iload_n hx hb dX5_put_4 rfl (lv_at hl 1 rfl) ?_
    refine lv_aload_n hx hb dX5_put_5 rfl (lv_at hl 0 rfl) ?_
    refine x_alen hx hb hM 0 0 0 rfl rfl rfl dX5_put_6 ?_
    refine lv_icmp_ge (tgt := 14) hx hb dX5_put_7 (by decide) (fun c3 => ?_) (fun c3 => ?_)
    · have e4 : ((f) : Nat → Int32) = (xput f n i v) := by (first | (rw [hij]; exact (xput_1 hn hj).symm) | exact (xput_0 hn (Or.inl (by assumption))).symm | exact (xput_0 hn (Or.inr (by assumption))).symm)
      have hM : xM D (TY q) [wa q a n (xput f n i v)] A s.heap s H locs := Eq.mp (congrArg (fun z9 => xM D (TY q) [wa q a n z9] A s.heap s H locs) e4) hM
      exact x_vret hx hb hr hlocks () hM trivial dX5_put_14
    · obtain ⟨j, hj, hij⟩ := xat_ex hn (by assumption : ¬ i < 0) (by assumption : ¬ nI n ≤ i)
      refine lv_aload_n hx hb dX5_put_10 rfl (lv_at hl 0 rfl) ?_
      refine lv_iload_n hx hb dX5_put_11 rfl (lv_at hl 1 rfl) ?_
      refine x_cast (y := nI j) hij ?_
      refine lv_iload_n hx hb dX5_put_12 rfl (lv_at hl 2 rfl) ?_
      refine x_iast hx hb hM 0 0 0 (f := f) rfl rfl rfl (t := j) (x := v) (by omega) (by omega) [wa q a n (upd f j v)] rfl dX5_put_13 (fun H locs hM => ?_)
      have e5 : ((upd f j v) : Nat → Int32) = (xput f n i v) := by (first | (rw [hij]; exact (xput_1 hn hj).symm) | exact (xput_0 hn (Or.inl (by assumption))).symm | exact (xput_0 hn (Or.inr (by assumption))).symm)
      have hM : xM D (TY q) [wa q a n (xput f n i v)] A s.heap s H locs := Eq.mp (congrArg (fun z9 => xM D (TY q) [wa q a n z9] A s.heap s H locs) e5) hM
      exact x_vret hx hb hr hlocks () hM trivial dX5_put_14

theorem dX5_add_0 : decode cX5_add 0 = .ok (.iload_n 1, 1) := by decide +kernel
theorem dX5_add_1 : decode cX5_add 1 = .ok (.ifCond .lt 16, 3) := by decide +kernel
theorem dX5_add_4 : decode cX5_add 4 = .ok (.iload_n 1, 1) := by decide +kernel
theorem dX5_add_5 : decode cX5_add 5 = .ok (.aload_n 0, 1) := by decide +kernel
theorem dX5_add_6 : decode cX5_add 6 = .ok (.arraylength, 1) := by decide +kernel
theorem dX5_add_7 : decode cX5_add 7 = .ok (.if_icmp .ge 10, 3) := by decide +kernel
theorem dX5_add_10 : decode cX5_add 10 = .ok (.aload_n 0, 1) := by decide +kernel
theorem dX5_add_11 : decode cX5_add 11 = .ok (.iload_n 1, 1) := by decide +kernel
theorem dX5_add_12 : decode cX5_add 12 = .ok (.dup2, 1) := by decide +kernel
theorem dX5_add_13 : decode cX5_add 13 = .ok (.iaload, 1) := by decide +kernel
theorem dX5_add_14 : decode cX5_add 14 = .ok (.iload_n 2, 1) := by decide +kernel
theorem dX5_add_15 : decode cX5_add 15 = .ok (.iadd, 1) := by decide +kernel
theorem dX5_add_16 : decode cX5_add 16 = .ok (.iastore, 1) := by decide +kernel
theorem dX5_add_17 : decode cX5_add 17 = .ok (.return_, 1) := by decide +kernel
set_option maxHeartbeats 2000000 in
set_option maxRecDepth 100000 in
theorem c_X5_add (l : Launch) (D : va_G) (q : Nat → ClassId) (a n : Nat) (f : Nat → Int32) (i : Int32) (v : Int32) (hn : n < 2 ^ 31) : xC l yX5_add wsX5_add ({ frames := 0, cells := 0, slots := 0, locals := 0 }) D (TY q) [wa q a n f] [.ref a, .int i, .int v] (xQv D (TY q) (fun (_ : Unit) => True) (fun _ => [wa q a n (xput f n i (xat f n i + v))])) 0 0 := by
  refine x_enter (cc := cX5_add) (maxL := 3) (ret := none) (by decide) rfl (Nat.le_of_ble_eq_true rfl) ?_
  intro p e s m below meth c A ls H locs hfix hr hlocks hinit hM hl
  obtain ⟨hx, hb, hml, hown, hts⟩ := id hfix
  have hl : lv_has ls 3 [(0, .ref a), (1, .int i), (2, .int v)] := hl
  refine lv_iload_n hx hb dX5_add_0 rfl (lv_at hl 1 rfl) ?_
  refine lv_if_lt (tgt := 17) hx hb dX5_add_1 (by decide) (fun c1 => ?_) (fun c1 => ?_)
  · have e2 : ((f) : Nat → Int32) = (xput f n i (xat f n i + v)) := by (first | (rw [hij, xat_1 hn hj]; exact (xput_1 hn hj).symm) | exact (xput_0 hn (Or.inl (by assumption))).symm | exact (xput_0 hn (Or.inr (by assumption))).symm)
    have hM : xM D (TY q) [wa q a n (xput f n i (xat f n i + v))] A s.heap s H locs := Eq.mp (congrArg (fun z9 => xM D (TY q) [wa q a n z9] A s.heap s H locs) e2) hM
    exact x_vret hx hb hr hlocks () hM trivial dX5_add_17
  · refine lv_iload_n hx hb dX5_add_4 rfl (lv_at hl 1 rfl) ?_
    refine lv_aload_n hx hb dX5_add_5 rfl (lv_at hl 0 rfl) ?_
    refine x_alen hx hb hM 0 0 0 rfl rfl rfl dX5_add_6 ?_
    refine lv_icmp_ge (tgt := 17) hx hb dX5_add_7 (by decide) (fun c3 => ?_) (fun c3 => ?_)
    · have e4 : ((f) : Nat → Int32) = (xput f n i (xat f n i + v)) := by (first | (rw [hij, xat_1 hn hj]; exact (xput_1 hn hj).symm) | exact (xput_0 hn (Or.inl (by assumption))).symm | exact (xput_0 hn (Or.inr (by assumption))).symm)
      have hM : xM D (TY q) [wa q a n (xput f n i (xat f n i + v))] A s.heap s H locs := Eq.mp (congrArg (fun z9 => xM D (TY q) [wa q a n z9] A s.heap s H locs) e4) hM
      exact x_vret hx hb hr hlocks () hM trivial dX5_add_17
    · obtain ⟨j, hj, hij⟩ := xat_ex hn (by assumption : ¬ i < 0) (by assumption : ¬ nI n ≤ i)
      refine lv_aload_n hx hb dX5_add_10 rfl (lv_at hl 0 rfl) ?_
      refine lv_iload_n hx hb dX5_add_11 rfl (lv_at hl 1 rfl) ?_
      refine x_cast (y := nI j) hij ?_
      refine lv_dup2_11 hx hb dX5_add_12 rfl rfl ?_
      refine x_iald hx hb hM 0 0 0 (f := f) rfl rfl rfl (t := j) (by omega) (by omega) dX5_add_13 ?_
      refine lv_iload_n hx hb dX5_add_14 rfl (lv_at hl 2 rfl) ?_
      refine lv_iadd hx hb dX5_add_15 ?_
      refine x_iast hx hb hM 0 0 0 (f := f) rfl rfl rfl (t := j) (x := (f j) + v) (by omega) (by omega) [wa q a n (upd f j ((f j) + v))] rfl dX5_add_16 (fun H locs hM => ?_)
      have e5 : ((upd f j ((f j) + v)) : Nat → Int32) = (xput f n i (xat f n i + v)) := by (first | (rw [hij, xat_1 hn hj]; exact (xput_1 hn hj).symm) | exact (xput_0 hn (Or.inl (by assumption))).symm | exact (xput_0 hn (Or.inr (by assumption))).symm)
      have hM : xM D (TY q) [wa q a n (xput f n i (xat f n i + v))] A s.heap s H locs := Eq.mp (congrArg (fun z9 => xM D (TY q) [wa q a n z9] A s.heap s H locs) e5) hM
      exact x_vret hx hb hr hlocks () hM trivial dX5_add_17
