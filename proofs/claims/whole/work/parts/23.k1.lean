theorem x_setself {B : va_W} {j : Nat} {x : Nat × va_E} (h : B[j]? = some x) : B.set j x = B := by
  apply List.ext_getElem?
  intro i
  by_cases hi : j = i
  · subst hi
    rw [List.getElem?_set_self (List.getElem?_eq_some_iff.mp h).1, h]
  · rw [List.getElem?_set_ne hi]
theorem x_getset {B : va_W} {j : Nat} {x : Nat × va_E} (h : B[j]? = some x) (y : Nat × va_E) : (B.set j y)[j]? = some y := List.getElem?_set_self (List.getElem?_eq_some_iff.mp h).1
theorem dX5_at_0 : decode cX5_at 0 = .ok (.iload_n 1, 1) := by decide +kernel
theorem dX5_at_1 : decode cX5_at 1 = .ok (.ifCond .lt 15, 3) := by decide +kernel
theorem dX5_at_4 : decode cX5_at 4 = .ok (.iload_n 1, 1) := by decide +kernel
theorem dX5_at_5 : decode cX5_at 5 = .ok (.aload_n 0, 1) := by decide +kernel
theorem dX5_at_6 : decode cX5_at 6 = .ok (.arraylength, 1) := by decide +kernel
theorem dX5_at_7 : decode cX5_at 7 = .ok (.if_icmp .ge 9, 3) := by decide +kernel
theorem dX5_at_10 : decode cX5_at 10 = .ok (.aload_n 0, 1) := by decide +kernel
theorem dX5_at_11 : decode cX5_at 11 = .ok (.iload_n 1, 1) := by decide +kernel
theorem dX5_at_12 : decode cX5_at 12 = .ok (.iaload, 1) := by decide +kernel
theorem dX5_at_13 : decode cX5_at 13 = .ok (.goto 4, 3) := by decide +kernel
theorem dX5_at_16 : decode cX5_at 16 = .ok (.iconst 0, 1) := by decide +kernel
theorem dX5_at_17 : decode cX5_at 17 = .ok (.ireturn, 1) := by decide +kernel
theorem dX5_put_0 : decode cX5_put 0 = .ok (.iload_n 1, 1) := by decide +kernel
theorem dX5_put_1 : decode cX5_put 1 = .ok (.ifCond .lt 13, 3) := by decide +kernel
theorem dX5_put_4 : decode cX5_put 4 = .ok (.iload_n 1, 1) := by decide +kernel
theorem dX5_put_5 : decode cX5_put 5 = .ok (.aload_n 0, 1) := by decide +kernel
theorem dX5_put_6 : decode cX5_put 6 = .ok (.arraylength, 1) := by decide +kernel
theorem dX5_put_7 : decode cX5_put 7 = .ok (.if_icmp .ge 7, 3) := by decide +kernel
theorem dX5_put_10 : decode cX5_put 10 = .ok (.aload_n 0, 1) := by decide +kernel
theorem dX5_put_11 : decode cX5_put 11 = .ok (.iload_n 1, 1) := by decide +kernel
theorem dX5_put_12 : decode cX5_put 12 = .ok (.iload_n 2, 1) := by decide +kernel
theorem dX5_put_13 : decode cX5_put 13 = .ok (.iastore, 1) := by decide +kernel
theorem dX5_put_14 : decode cX5_put 14 = .ok (.return_, 1) := by decide +kernel
theorem dX5_add_0 : decode cX5_add 0 = .ok (.iload_n 1, 1) := by decide +kernel
theorem dX5_add_1 : decode cX5_add 1 = .ok (.ifCond .lt 16, 3) := by decide +kernel
theorem dX5_add_4 : decode cX5_add 4 = .ok (.iload_n 1, 1) := by decide +kernel
theorem dX5_add_5 : decode cX5_add 5 = .ok (.aload_n 0, 1) := by decide +kernel
theorem dX5_add_6 : decode cX5_add 6 = .ok (.arraylength, 1) := by decide +kernel
theorem dX5_add_7 : decode cX5_add 7 = .ok (.if_icmp .ge 10, 3) := by decide +kernel
theorem dX5_add_10 : decode cX5_add 10 = .ok (.aload_n 0, 1) := by decide +kernel
theorem dX5_add_11 : decode cX5_add 11 = .ok (.iload_n 1, 1) := by decide +kernel
theorem dX5_add_12 : decode cX5_add 12 = .ok (.dup2, 1) := by decide +kernel
theorem dX5_add_13 : decode cX5_add 13 = .ok (.iaload, 1) := by decide +kernel
theorem dX5_add_14 : decode cX5_add 14 = .ok (.iload_n 2, 1) := by decide +kernel
theorem dX5_add_15 : decode cX5_add 15 = .ok (.iadd, 1) := by decide +kernel
theorem dX5_add_16 : decode cX5_add 16 = .ok (.iastore, 1) := by decide +kernel
theorem dX5_add_17 : decode cX5_add 17 = .ok (.return_, 1) := by decide +kernel
theorem dX5_sum_0 : decode cX5_sum 0 = .ok (.iconst 0, 1) := by decide +kernel
theorem dX5_sum_1 : decode cX5_sum 1 = .ok (.istore_n 1, 1) := by decide +kernel
theorem dX5_sum_2 : decode cX5_sum 2 = .ok (.iconst 0, 1) := by decide +kernel
theorem dX5_sum_3 : decode cX5_sum 3 = .ok (.istore_n 2, 1) := by decide +kernel
theorem dX5_sum_4 : decode cX5_sum 4 = .ok (.iload_n 2, 1) := by decide +kernel
theorem dX5_sum_5 : decode cX5_sum 5 = .ok (.aload_n 0, 1) := by decide +kernel
theorem dX5_sum_6 : decode cX5_sum 6 = .ok (.arraylength, 1) := by decide +kernel
theorem dX5_sum_7 : decode cX5_sum 7 = .ok (.if_icmp .ge 15, 3) := by decide +kernel
theorem dX5_sum_10 : decode cX5_sum 10 = .ok (.iload_n 1, 1) := by decide +kernel
theorem dX5_sum_11 : decode cX5_sum 11 = .ok (.aload_n 0, 1) := by decide +kernel
theorem dX5_sum_12 : decode cX5_sum 12 = .ok (.iload_n 2, 1) := by decide +kernel
theorem dX5_sum_13 : decode cX5_sum 13 = .ok (.iaload, 1) := by decide +kernel
theorem dX5_sum_14 : decode cX5_sum 14 = .ok (.iadd, 1) := by decide +kernel
theorem dX5_sum_15 : decode cX5_sum 15 = .ok (.istore_n 1, 1) := by decide +kernel
theorem dX5_sum_16 : decode cX5_sum 16 = .ok (.iinc 2 1, 3) := by decide +kernel
theorem dX5_sum_19 : decode cX5_sum 19 = .ok (.goto (-15), 3) := by decide +kernel
theorem dX5_sum_22 : decode cX5_sum 22 = .ok (.iload_n 1, 1) := by decide +kernel
theorem dX5_sum_23 : decode cX5_sum 23 = .ok (.ireturn, 1) := by decide +kernel
theorem dX5_clear_0 : decode cX5_clear 0 = .ok (.iconst 0, 1) := by decide +kernel
theorem dX5_clear_1 : decode cX5_clear 1 = .ok (.istore_n 1, 1) := by decide +kernel
theorem dX5_clear_2 : decode cX5_clear 2 = .ok (.iload_n 1, 1) := by decide +kernel
theorem dX5_clear_3 : decode cX5_clear 3 = .ok (.aload_n 0, 1) := by decide +kernel
theorem dX5_clear_4 : decode cX5_clear 4 = .ok (.arraylength, 1) := by decide +kernel
theorem dX5_clear_5 : decode cX5_clear 5 = .ok (.if_icmp .ge 13, 3) := by decide +kernel
theorem dX5_clear_8 : decode cX5_clear 8 = .ok (.aload_n 0, 1) := by decide +kernel
theorem dX5_clear_9 : decode cX5_clear 9 = .ok (.iload_n 1, 1) := by decide +kernel
theorem dX5_clear_10 : decode cX5_clear 10 = .ok (.iconst 0, 1) := by decide +kernel
theorem dX5_clear_11 : decode cX5_clear 11 = .ok (.iastore, 1) := by decide +kernel
theorem dX5_clear_12 : decode cX5_clear 12 = .ok (.iinc 1 1, 3) := by decide +kernel
theorem dX5_clear_15 : decode cX5_clear 15 = .ok (.goto (-13), 3) := by decide +kernel
theorem dX5_clear_18 : decode cX5_clear 18 = .ok (.return_, 1) := by decide +kernel
theorem dX5_copy_0 : decode cX5_copy 0 = .ok (.aload_n 0, 1) := by decide +kernel
theorem dX5_copy_1 : decode cX5_copy 1 = .ok (.iconst 0, 1) := by decide +kernel
theorem dX5_copy_2 : decode cX5_copy 2 = .ok (.aload_n 1, 1) := by decide +kernel
theorem dX5_copy_3 : decode cX5_copy 3 = .ok (.iconst 0, 1) := by decide +kernel
theorem dX5_copy_4 : decode cX5_copy 4 = .ok (.aload_n 0, 1) := by decide +kernel
theorem dX5_copy_5 : decode cX5_copy 5 = .ok (.arraylength, 1) := by decide +kernel
theorem dX5_copy_6 : decode cX5_copy 6 = .ok (.aload_n 1, 1) := by decide +kernel
theorem dX5_copy_7 : decode cX5_copy 7 = .ok (.arraylength, 1) := by decide +kernel
theorem dX5_copy_8 : decode cX5_copy 8 = .ok (.invokestatic 7, 3) := by decide +kernel
theorem dX5_copy_11 : decode cX5_copy 11 = .ok (.invokestatic 13, 3) := by decide +kernel
theorem dX5_copy_14 : decode cX5_copy 14 = .ok (.return_, 1) := by decide +kernel
set_option maxHeartbeats 2000000 in
set_option maxRecDepth 100000 in
theorem c_X5_at (l : Launch) (D : va_G) (q : Nat → ClassId) (B : va_W) (j a n : Nat) (f : Nat → Int32) (t : Nat) (hB : B[j]? = some (a, .inl (q 0, n, .inl f))) (hn : n < 2 ^ 31) (ht : t < n) : xC l yX5_at wsX5_at ({ frames := 0, cells := 0, slots := 0, locals := 0 }) D (TY q) [B] [.ref a, .int (nI t)] (xQi D (TY q) (fun (r : Int32) (_ : Unit) => r = f t) (fun _ => [B])) 0 0 := by
  refine x_enter (cc := cX5_at) (maxL := 2) (ret := (some .int)) (by decide) rfl (Nat.le_of_ble_eq_true rfl) ?_
  intro p e s m below meth c A ls H locs hfix hr hlocks hinit hM hl
  obtain ⟨hx, hb, hml, hown, hts⟩ := id hfix
  have hl : lv_has ls 2 [(0, .ref a), (1, .int (nI t))] := hl
  refine lv_iload_n hx hb dX5_at_0 rfl (lv_at hl 1 rfl) ?_
  refine x_if_lt (x := t) (tgt := 16) hx hb (by omega) dX5_at_1 (by decide) ?_
  refine lv_iload_n hx hb dX5_at_4 rfl (lv_at hl 1 rfl) ?_
  refine lv_aload_n hx hb dX5_at_5 rfl (lv_at hl 0 rfl) ?_
  refine x_alen hx hb hM 0 j 0 rfl hB rfl dX5_at_6 ?_
  refine x_icmp_ge (x := t) (y := n) (tgt := 16) hx hb (by omega) hn dX5_at_7 (by decide) (fun c1 => absurd c1 (by omega)) (fun _ => ?_)
  refine lv_aload_n hx hb dX5_at_10 rfl (lv_at hl 0 rfl) ?_
  refine lv_iload_n hx hb dX5_at_11 rfl (lv_at hl 1 rfl) ?_
  refine x_iald hx hb hM 0 j 0 (f := f) rfl hB rfl (t := t) ht hn dX5_at_12 ?_
  refine lv_goto (tgt := 17) hx hb dX5_at_13 (by decide) ?_
  exact x_iret hx hb hr hlocks () hM rfl dX5_at_17
set_option maxHeartbeats 2000000 in
set_option maxRecDepth 100000 in
theorem c_X5_put (l : Launch) (D : va_G) (q : Nat → ClassId) (B : va_W) (j a n : Nat) (f : Nat → Int32) (t : Nat) (v : Int32) (hB : B[j]? = some (a, .inl (q 0, n, .inl f))) (hn : n < 2 ^ 31) (ht : t < n) : xC l yX5_put wsX5_put ({ frames := 0, cells := 0, slots := 0, locals := 0 }) D (TY q) [B] [.ref a, .int (nI t), .int v] (xQv D (TY q) (fun (_ : Unit) => True) (fun _ => [B.set j (a, .inl (q 0, n, .inl (upd f t (v))))])) 0 0 := by
  refine x_enter (cc := cX5_put) (maxL := 3) (ret := none) (by decide) rfl (Nat.le_of_ble_eq_true rfl) ?_
  intro p e s m below meth c A ls H locs hfix hr hlocks hinit hM hl
  obtain ⟨hx, hb, hml, hown, hts⟩ := id hfix
  have hl : lv_has ls 3 [(0, .ref a), (1, .int (nI t)), (2, .int v)] := hl
  refine lv_iload_n hx hb dX5_put_0 rfl (lv_at hl 1 rfl) ?_
  refine x_if_lt (x := t) (tgt := 14) hx hb (by omega) dX5_put_1 (by decide) ?_
  refine lv_iload_n hx hb dX5_put_4 rfl (lv_at hl 1 rfl) ?_
  refine lv_aload_n hx hb dX5_put_5 rfl (lv_at hl 0 rfl) ?_
  refine x_alen hx hb hM 0 j 0 rfl hB rfl dX5_put_6 ?_
  refine x_icmp_ge (x := t) (y := n) (tgt := 14) hx hb (by omega) hn dX5_put_7 (by decide) (fun c1 => absurd c1 (by omega)) (fun _ => ?_)
  refine lv_aload_n hx hb dX5_put_10 rfl (lv_at hl 0 rfl) ?_
  refine lv_iload_n hx hb dX5_put_11 rfl (lv_at hl 1 rfl) ?_
  refine lv_iload_n hx hb dX5_put_12 rfl (lv_at hl 2 rfl) ?_
  refine x_iast hx hb hM 0 j 0 (f := f) rfl hB rfl (t := t) (x := v) ht hn [B.set j (a, .inl (q 0, n, .inl (upd f t (v))))] rfl dX5_put_13 (fun H locs hM => ?_)
  exact x_vret hx hb hr hlocks () hM trivial dX5_put_14
set_option maxHeartbeats 2000000 in
set_option maxRecDepth 100000 in
theorem c_X5_add (l : Launch) (D : va_G) (q : Nat → ClassId) (B : va_W) (j a n : Nat) (f : Nat → Int32) (t : Nat) (v : Int32) (hB : B[j]? = some (a, .inl (q 0, n, .inl f))) (hn : n < 2 ^ 31) (ht : t < n) : xC l yX5_add wsX5_add ({ frames := 0, cells := 0, slots := 0, locals := 0 }) D (TY q) [B] [.ref a, .int (nI t), .int v] (xQv D (TY q) (fun (_ : Unit) => True) (fun _ => [B.set j (a, .inl (q 0, n, .inl (upd f t (f t + v))))])) 0 0 := by
  refine x_enter (cc := cX5_add) (maxL := 3) (ret := none) (by decide) rfl (Nat.le_of_ble_eq_true rfl) ?_
  intro p e s m below meth c A ls H locs hfix hr hlocks hinit hM hl
  obtain ⟨hx, hb, hml, hown, hts⟩ := id hfix
  have hl : lv_has ls 3 [(0, .ref a), (1, .int (nI t)), (2, .int v)] := hl
  refine lv_iload_n hx hb dX5_add_0 rfl (lv_at hl 1 rfl) ?_
  refine x_if_lt (x := t) (tgt := 17) hx hb (by omega) dX5_add_1 (by decide) ?_
  refine lv_iload_n hx hb dX5_add_4 rfl (lv_at hl 1 rfl) ?_
  refine lv_aload_n hx hb dX5_add_5 rfl (lv_at hl 0 rfl) ?_
  refine x_alen hx hb hM 0 j 0 rfl hB rfl dX5_add_6 ?_
  refine x_icmp_ge (x := t) (y := n) (tgt := 17) hx hb (by omega) hn dX5_add_7 (by decide) (fun c1 => absurd c1 (by omega)) (fun _ => ?_)
  refine lv_aload_n hx hb dX5_add_10 rfl (lv_at hl 0 rfl) ?_
  refine lv_iload_n hx hb dX5_add_11 rfl (lv_at hl 1 rfl) ?_
  refine lv_dup2_11 hx hb dX5_add_12 rfl rfl ?_
  refine x_iald hx hb hM 0 j 0 (f := f) rfl hB rfl (t := t) ht hn dX5_add_13 ?_
  refine lv_iload_n hx hb dX5_add_14 rfl (lv_at hl 2 rfl) ?_
  refine lv_iadd hx hb dX5_add_15 ?_
  refine x_iast hx hb hM 0 j 0 (f := f) rfl hB rfl (t := t) (x := f t + v) ht hn [B.set j (a, .inl (q 0, n, .inl (upd f t (f t + v))))] rfl dX5_add_16 (fun H locs hM => ?_)
  exact x_vret hx hb hr hlocks () hM trivial dX5_add_17
set_option maxHeartbeats 2000000 in
set_option maxRecDepth 100000 in
theorem c_X5_sum (l : Launch) (D : va_G) (q : Nat → ClassId) (B : va_W) (j a n : Nat) (f : Nat → Int32) (hB : B[j]? = some (a, .inl (q 0, n, .inl f))) (hn : n < 2 ^ 31) : xC l yX5_sum wsX5_sum ({ frames := 0, cells := 0, slots := 0, locals := 0 }) D (TY q) [B] [.ref a] (xQi D (TY q) (fun (r : Int32) (_ : Unit) => r = xsum f n) (fun _ => [B])) 0 0 := by
  refine x_enter (cc := cX5_sum) (maxL := 3) (ret := (some .int)) (by decide) rfl (Nat.le_of_ble_eq_true rfl) ?_
  intro p e s m below meth c A ls H locs hfix hr hlocks hinit hM hl
  obtain ⟨hx, hb, hml, hown, hts⟩ := id hfix
  have hl : lv_has ls 3 [(0, .ref a)] := hl
  refine lv_iconst (v := nI 0) hx hb dX5_sum_0 (by decide) ?_
  refine lv_istore_n (lv' := [(1, .int (nI 0)), (0, .ref a)]) hx hb dX5_sum_1 rfl hl (by decide) rfl (fun ls hl => ?_)
  refine lv_iconst (v := nI 0) hx hb dX5_sum_2 (by decide) ?_
  refine lv_istore_n (lv' := [(2, .int (nI 0)), (1, .int (nI 0)), (0, .ref a)]) hx hb dX5_sum_3 rfl hl (by decide) rfl (fun ls hl => ?_)
  refine x_loop (ι := Nat) (fun k => [(0, .ref a), (1, .int (xsum f k)), (2, .int (nI k))]) (fun _ => [B]) (fun k => k ≤ n) (fun k => n - k) 0 (Nat.zero_le _) hM (lv_sub hl [2, 1, 0] rfl) ?_
  intro k hk ih H locs hM ls hl
  have hl : lv_has ls 3 [(0, .ref a), (1, .int (xsum f k)), (2, .int (nI k))] := hl
  refine lv_iload_n hx hb dX5_sum_4 rfl (lv_at hl 2 rfl) ?_
  refine lv_aload_n hx hb dX5_sum_5 rfl (lv_at hl 0 rfl) ?_
  refine x_alen hx hb hM 0 j 0 rfl hB rfl dX5_sum_6 ?_
  refine x_icmp_ge (x := k) (y := n) (tgt := 22) hx hb (by omega) hn dX5_sum_7 (by decide) (fun c1 => ?_) (fun c1 => ?_)
  · refine lv_iload_n hx hb dX5_sum_22 rfl (lv_at hl 1 rfl) ?_
    exact x_iret hx hb hr hlocks () hM (show xsum f k = xsum f n by rw [show k = n by omega]) dX5_sum_23
  · refine lv_iload_n hx hb dX5_sum_10 rfl (lv_at hl 1 rfl) ?_
    refine lv_aload_n hx hb dX5_sum_11 rfl (lv_at hl 0 rfl) ?_
    refine lv_iload_n hx hb dX5_sum_12 rfl (lv_at hl 2 rfl) ?_
    refine x_iald hx hb hM 0 j 0 (f := f) rfl hB rfl (t := k) (by omega) hn dX5_sum_13 ?_
    refine lv_iadd hx hb dX5_sum_14 ?_
    refine lv_istore_n (lv' := [(1, .int (xsum f (k + 1))), (0, .ref a), (2, .int (nI k))]) hx hb dX5_sum_15 rfl hl (by decide) rfl (fun ls hl => ?_)
    refine lv_iinc (v := nI (k + 1)) (lv' := [(2, .int (nI (k + 1))), (1, .int (xsum f (k + 1))), (0, .ref a)]) hx hb dX5_sum_16 hl (k := 2) rfl (x_inc _ 1) (by decide) rfl (fun ls hl => ?_)
    refine lv_goto (tgt := 4) hx hb dX5_sum_19 (by decide) ?_
    exact ih (k + 1) (by omega) (by omega) _ _ hM _ (lv_sub hl [2, 1, 0] rfl)
set_option maxHeartbeats 2000000 in
set_option maxRecDepth 100000 in
theorem c_X5_clear (l : Launch) (D : va_G) (q : Nat → ClassId) (B : va_W) (j a n : Nat) (f : Nat → Int32) (hB : B[j]? = some (a, .inl (q 0, n, .inl f))) (hn : n < 2 ^ 31) : xC l yX5_clear wsX5_clear ({ frames := 0, cells := 0, slots := 0, locals := 0 }) D (TY q) [B] [.ref a] (xQv D (TY q) (fun (_ : Unit) => True) (fun _ => [B.set j (a, .inl (q 0, n, .inl (xzero f 0 n)))])) 0 0 := by
  refine x_enter (cc := cX5_clear) (maxL := 2) (ret := none) (by decide) rfl (Nat.le_of_ble_eq_true rfl) ?_
  intro p e s m below meth c A ls H locs hfix hr hlocks hinit hM hl
  obtain ⟨hx, hb, hml, hown, hts⟩ := id hfix
  have hl : lv_has ls 2 [(0, .ref a)] := hl
  refine lv_iconst (v := nI 0) hx hb dX5_clear_0 (by decide) ?_
  refine lv_istore_n (lv' := [(1, .int (nI 0)), (0, .ref a)]) hx hb dX5_clear_1 rfl hl (by decide) rfl (fun ls hl => ?_)
  have hM0 : xM D (TY q) [B.set j (a, .inl (q 0, n, .inl (xzero f 0 0)))] A s.heap s H locs := by rw [xzero_0, x_setself hB]; exact hM
  refine x_loop (ι := Nat) (fun k => [(0, .ref a), (1, .int (nI k))]) (fun k => [B.set j (a, .inl (q 0, n, .inl (xzero f 0 k)))]) (fun k => k ≤ n) (fun k => n - k) 0 (Nat.zero_le _) hM0 (lv_sub hl [1, 0] rfl) ?_
  intro k hk ih H locs hM ls hl
  have hM : xM D (TY q) [B.set j (a, .inl (q 0, n, .inl (xzero f 0 k)))] A s.heap s H locs := hM
  have hl : lv_has ls 2 [(0, .ref a), (1, .int (nI k))] := hl
  have hBk := x_getset hB (a, .inl (q 0, n, .inl (xzero f 0 k)))
  refine lv_iload_n hx hb dX5_clear_2 rfl (lv_at hl 1 rfl) ?_
  refine lv_aload_n hx hb dX5_clear_3 rfl (lv_at hl 0 rfl) ?_
  refine x_alen hx hb hM 0 j 0 rfl hBk rfl dX5_clear_4 ?_
  refine x_icmp_ge (x := k) (y := n) (tgt := 18) hx hb (by omega) hn dX5_clear_5 (by decide) (fun c1 => ?_) (fun c1 => ?_)
  · have hkn : k = n := by omega
    subst hkn
    exact x_vret hx hb hr hlocks () hM trivial dX5_clear_18
  · refine lv_aload_n hx hb dX5_clear_8 rfl (lv_at hl 0 rfl) ?_
    refine lv_iload_n hx hb dX5_clear_9 rfl (lv_at hl 1 rfl) ?_
    refine lv_iconst (v := nI 0) hx hb dX5_clear_10 (by decide) ?_
    have ez : upd (xzero f 0 k) k (nI 0) = xzero f 0 (k + 1) := by rw [← xzero_s, Nat.zero_add]
    refine x_iast hx hb hM 0 j 0 (f := xzero f 0 k) rfl hBk rfl (t := k) (x := nI 0) (by omega) hn [B.set j (a, .inl (q 0, n, .inl (xzero f 0 (k + 1))))] (by rw [ez]; show [(B.set j _).set j _] = _; rw [List.set_set]) dX5_clear_11 (fun H locs hM => ?_)
    refine lv_iinc (v := nI (k + 1)) (lv' := [(1, .int (nI (k + 1))), (0, .ref a)]) hx hb dX5_clear_12 hl (k := 1) rfl (x_inc _ 1) (by decide) rfl (fun ls hl => ?_)
    refine lv_goto (tgt := 2) hx hb dX5_clear_15 (by decide) ?_
    exact ih (k + 1) (by omega) (by omega) _ _ hM _ (lv_sub hl [1, 0] rfl)
set_option maxHeartbeats 2000000 in
set_option maxRecDepth 100000 in
theorem c_X5_copy (l : Launch) (D : va_G) (q : Nat → ClassId) (B B' : va_W) (j j' a a' n : Nat) (f f' : Nat → Int32) (hB : B[j]? = some (a, .inl (q 0, n, .inl f))) (hB' : B'[j']? = some (a', .inl (q 0, n, .inl f'))) (hn : n < 2 ^ 31) : xC l yX5_copy wsX5_copy ({ frames := 1, cells := 0, slots := 0, locals := 40 }) D (TY q) [B, B'] [.ref a, .ref a'] (xQv D (TY q) (fun (_ : Unit) => True) (fun _ => [B, B'.set j' (a', .inl (q 0, n, .inl (va_cpy f f' 0 0 n)))])) 0 0 := by
  refine x_enter (cc := cX5_copy) (maxL := 2) (ret := none) (by decide) rfl (Nat.le_of_ble_eq_true rfl) ?_
  intro p e s m below meth c A ls H locs hfix hr hlocks hinit hM hl
  obtain ⟨hx, hb, hml, hown, hts⟩ := id hfix
  have hl : lv_has ls 2 [(0, .ref a), (1, .ref a')] := hl
  refine lv_aload_n hx hb dX5_copy_0 rfl (lv_at hl 0 rfl) ?_
  refine lv_iconst (v := nI 0) hx hb dX5_copy_1 (by decide) ?_
  refine lv_aload_n hx hb dX5_copy_2 rfl (lv_at hl 1 rfl) ?_
  refine lv_iconst (v := nI 0) hx hb dX5_copy_3 (by decide) ?_
  refine lv_aload_n hx hb dX5_copy_4 rfl (lv_at hl 0 rfl) ?_
  refine x_alen hx hb hM 0 j 0 rfl hB rfl dX5_copy_5 ?_
  refine lv_aload_n hx hb dX5_copy_6 rfl (lv_at hl 1 rfl) ?_
  refine x_alen hx hb hM 1 j' 0 rfl hB' rfl dX5_copy_7 ?_
  refine x_mmin (own := RX5) (index := 7) hx hb (by rw [hml]; exact hl.1.symm) hts hown (by simp only [List.forall_mem_cons]; exact ⟨by decide +kernel, by decide +kernel, by decide +kernel, by decide +kernel, fun _ h => absurd h List.not_mem_nil⟩) (Nat.le_of_ble_eq_true rfl) (Nat.le_of_ble_eq_true rfl) (Nat.zero_le _) (Nat.zero_le _) dX5_copy_8 ?_
  refine x_cast (y := nI n) (if_neg Int32.lt_irrefl) ?_
  refine x_copy (own := RX5) (index := 13) hx hb (by rw [hml]; exact hl.1.symm) hts hown (by simp only [List.forall_mem_cons]; exact ⟨by decide +kernel, by decide +kernel, by decide +kernel, by decide +kernel, fun _ h => absurd h List.not_mem_nil⟩) hM 0 1 j j' 0 rfl hB rfl hB' rfl hn (Nat.le_of_ble_eq_true rfl) (Nat.le_of_ble_eq_true rfl) [B, B'.set j' (a', .inl (q 0, n, .inl (va_cpy f f' 0 0 n)))] rfl dX5_copy_11 (fun H locs hM => ?_)
  exact x_vret hx hb hr hlocks () hM trivial dX5_copy_14

theorem dX8_within_0 : decode cX8_within 0 = .ok (.iload_n 0, 1) := by decide +kernel
theorem dX8_within_1 : decode cX8_within 1 = .ok (.iload_n 1, 1) := by decide +kernel
theorem dX8_within_2 : decode cX8_within 2 = .ok (.if_icmp .lt 12, 3) := by decide +kernel
theorem dX8_within_5 : decode cX8_within 5 = .ok (.iload_n 0, 1) := by decide +kernel
theorem dX8_within_6 : decode cX8_within 6 = .ok (.iload_n 2, 1) := by decide +kernel
theorem dX8_within_7 : decode cX8_within 7 = .ok (.if_icmp .gt 7, 3) := by decide +kernel
theorem dX8_within_10 : decode cX8_within 10 = .ok (.iconst 1, 1) := by decide +kernel
theorem dX8_within_11 : decode cX8_within 11 = .ok (.goto 4, 3) := by decide +kernel
theorem dX8_within_14 : decode cX8_within 14 = .ok (.iconst 0, 1) := by decide +kernel
theorem dX8_within_15 : decode cX8_within 15 = .ok (.ireturn, 1) := by decide +kernel
set_option maxHeartbeats 2000000 in
set_option maxRecDepth 100000 in
theorem c_X8_within (l : Launch) (D : va_G) (q : Nat → ClassId) (n : Int32) (lo : Int32) (hi : Int32) (x : Int) (a : Int) (b : Int) (h_x : n.toInt = x) (h_a : lo.toInt = a) (h_b : hi.toInt = b) : xC l yX8_within wsX8_within ({ frames := 0, cells := 0, slots := 0, locals := 0 }) D (TY q) [] [.int n, .int lo, .int hi] (xQi D (TY q) (fun (r : Int32) (_ : Unit) => r = zb (a ≤ x ∧ x ≤ b)) (fun _ => [])) 0 0 := by
  refine x_enter (cc := cX8_within) (maxL := 3) (ret := (some .boolean)) (by decide) rfl (Nat.le_of_ble_eq_true rfl) ?_
  intro p e s m below meth c A ls H locs hfix hr hlocks hinit hM hl
  obtain ⟨hx, hb, hml, hown, hts⟩ := id hfix
  have hl : lv_has ls 3 [(0, .int n), (1, .int lo), (2, .int hi)] := hl
  refine lv_iload_n hx hb dX8_within_0 rfl (lv_at hl 0 rfl) ?_
  refine lv_iload_n hx hb dX8_within_1 rfl (lv_at hl 1 rfl) ?_
  refine lv_icmp_lt (tgt := 14) hx hb dX8_within_2 (by decide) (fun c1 => ?_) (fun c1 => ?_)
  · refine lv_iconst (v := nI 0) hx hb dX8_within_14 (by decide) ?_
    exact x_zret hx hb hr hlocks () hM rfl (show nI 0 = zb (a ≤ x ∧ x ≤ b) from by (first | exact zb_t' (by simp only [Int32.lt_iff_toInt_lt] at *; omega) | exact zb_f' (by simp only [Int32.lt_iff_toInt_lt] at *; omega))) dX8_within_15
  · refine lv_iload_n hx hb dX8_within_5 rfl (lv_at hl 0 rfl) ?_
    refine lv_iload_n hx hb dX8_within_6 rfl (lv_at hl 2 rfl) ?_
    refine lv_icmp_gt (tgt := 14) hx hb dX8_within_7 (by decide) (fun c2 => ?_) (fun c2 => ?_)
    · refine lv_iconst (v := nI 0) hx hb dX8_within_14 (by decide) ?_
      exact x_zret hx hb hr hlocks () hM rfl (show nI 0 = zb (a ≤ x ∧ x ≤ b) from by (first | exact zb_t' (by simp only [Int32.lt_iff_toInt_lt] at *; omega) | exact zb_f' (by simp only [Int32.lt_iff_toInt_lt] at *; omega))) dX8_within_15
    · refine lv_iconst (v := nI 1) hx hb dX8_within_10 (by decide) ?_
      refine lv_goto (tgt := 15) hx hb dX8_within_11 (by decide) ?_
      exact x_zret hx hb hr hlocks () hM rfl (show nI 1 = zb (a ≤ x ∧ x ≤ b) from by (first | exact zb_t' (by simp only [Int32.lt_iff_toInt_lt] at *; omega) | exact zb_f' (by simp only [Int32.lt_iff_toInt_lt] at *; omega))) dX8_within_15
