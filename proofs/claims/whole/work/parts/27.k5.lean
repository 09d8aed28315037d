set_option maxRecDepth 20000 in
theorem ggX1_bringGifts_X1_tellWay : GoodIn wsX1_bringGifts wsX1_tellWay := goodIn_r _ [7, 8, 9, 10, 11, 12, 32, 33, 34, 35, 36, 37] (by decide +kernel) (by decide +kernel)
set_option maxRecDepth 20000 in
theorem gX1_bringGifts_X1_tellWay : GoodIn wsX1_bringGifts (wsV RX1 121 RX1 yX1_tellWay wsX1_tellWay) := goodIn_app (goodIn_of _ (by decide +kernel)) ggX1_bringGifts_X1_tellWay
set_option maxRecDepth 20000 in
theorem ggX1_bringGifts_X1_add : GoodIn wsX1_bringGifts wsX1_add := goodIn_r _ [16, 17, 18, 19, 20, 21, 22, 23, 11, 24, 32, 33, 34, 35, 36, 37] (by decide +kernel) (by decide +kernel)
set_option maxRecDepth 20000 in
theorem gX1_bringGifts_X1_add : GoodIn wsX1_bringGifts (wsV RX1 92 RX1 yX1_add wsX1_add) := goodIn_app (goodIn_of _ (by decide +kernel)) ggX1_bringGifts_X1_add
set_option maxRecDepth 20000 in
theorem ggX1_bringGifts_X1_moveWay : GoodIn wsX1_bringGifts wsX1_moveWay := goodIn_r _ [28, 8, 9, 10, 11, 12, 29, 30, 31, 32, 33, 34, 35, 36, 37] (by decide +kernel) (by decide +kernel)
set_option maxRecDepth 20000 in
theorem gX1_bringGifts_X1_moveWay : GoodIn wsX1_bringGifts (wsV RX1 124 RX1 yX1_moveWay wsX1_moveWay) := goodIn_app (goodIn_of _ (by decide +kernel)) ggX1_bringGifts_X1_moveWay
theorem dX1_bringGifts_0 : decode cX1_bringGifts 0 = .ok (.iconst 0, 1) := by decide +kernel
theorem dX1_bringGifts_1 : decode cX1_bringGifts 1 = .ok (.istore_n 1, 1) := by decide +kernel
theorem dX1_bringGifts_2 : decode cX1_bringGifts 2 = .ok (.iconst 0, 1) := by decide +kernel
theorem dX1_bringGifts_3 : decode cX1_bringGifts 3 = .ok (.istore_n 2, 1) := by decide +kernel
theorem dX1_bringGifts_4 : decode cX1_bringGifts 4 = .ok (.iload_n 2, 1) := by decide +kernel
theorem dX1_bringGifts_5 : decode cX1_bringGifts 5 = .ok (.aload_n 0, 1) := by decide +kernel
theorem dX1_bringGifts_6 : decode cX1_bringGifts 6 = .ok (.getfield 28, 3) := by decide +kernel
theorem dX1_bringGifts_9 : decode cX1_bringGifts 9 = .ok (.if_icmp .ge 56, 3) := by decide +kernel
theorem dX1_bringGifts_12 : decode cX1_bringGifts 12 = .ok (.aload_n 0, 1) := by decide +kernel
theorem dX1_bringGifts_13 : decode cX1_bringGifts 13 = .ok (.iload_n 2, 1) := by decide +kernel
theorem dX1_bringGifts_14 : decode cX1_bringGifts 14 = .ok (.iconst 3, 1) := by decide +kernel
theorem dX1_bringGifts_15 : decode cX1_bringGifts 15 = .ok (.invokevirtual 121, 3) := by decide +kernel
theorem dX1_bringGifts_18 : decode cX1_bringGifts 18 = .ok (.aload_n 0, 1) := by decide +kernel
theorem dX1_bringGifts_19 : decode cX1_bringGifts 19 = .ok (.getfield 24, 3) := by decide +kernel
theorem dX1_bringGifts_22 : decode cX1_bringGifts 22 = .ok (.if_icmp .ne 28, 3) := by decide +kernel
theorem dX1_bringGifts_25 : decode cX1_bringGifts 25 = .ok (.aload_n 0, 1) := by decide +kernel
theorem dX1_bringGifts_26 : decode cX1_bringGifts 26 = .ok (.aload_n 0, 1) := by decide +kernel
theorem dX1_bringGifts_27 : decode cX1_bringGifts 27 = .ok (.iload_n 2, 1) := by decide +kernel
theorem dX1_bringGifts_28 : decode cX1_bringGifts 28 = .ok (.iconst 0, 1) := by decide +kernel
theorem dX1_bringGifts_29 : decode cX1_bringGifts 29 = .ok (.invokevirtual 121, 3) := by decide +kernel
theorem dX1_bringGifts_32 : decode cX1_bringGifts 32 = .ok (.aload_n 0, 1) := by decide +kernel
theorem dX1_bringGifts_33 : decode cX1_bringGifts 33 = .ok (.iload_n 2, 1) := by decide +kernel
theorem dX1_bringGifts_34 : decode cX1_bringGifts 34 = .ok (.iconst 1, 1) := by decide +kernel
theorem dX1_bringGifts_35 : decode cX1_bringGifts 35 = .ok (.invokevirtual 121, 3) := by decide +kernel
theorem dX1_bringGifts_38 : decode cX1_bringGifts 38 = .ok (.aload_n 0, 1) := by decide +kernel
theorem dX1_bringGifts_39 : decode cX1_bringGifts 39 = .ok (.iload_n 2, 1) := by decide +kernel
theorem dX1_bringGifts_40 : decode cX1_bringGifts 40 = .ok (.iconst 2, 1) := by decide +kernel
theorem dX1_bringGifts_41 : decode cX1_bringGifts 41 = .ok (.invokevirtual 121, 3) := by decide +kernel
theorem dX1_bringGifts_44 : decode cX1_bringGifts 44 = .ok (.invokevirtual 92, 3) := by decide +kernel
theorem dX1_bringGifts_47 : decode cX1_bringGifts 47 = .ok (.goto 12, 3) := by decide +kernel
theorem dX1_bringGifts_50 : decode cX1_bringGifts 50 = .ok (.aload_n 0, 1) := by decide +kernel
theorem dX1_bringGifts_51 : decode cX1_bringGifts 51 = .ok (.iload_n 2, 1) := by decide +kernel
theorem dX1_bringGifts_52 : decode cX1_bringGifts 52 = .ok (.iload_n 1, 1) := by decide +kernel
theorem dX1_bringGifts_53 : decode cX1_bringGifts 53 = .ok (.invokevirtual 124, 3) := by decide +kernel
theorem dX1_bringGifts_56 : decode cX1_bringGifts 56 = .ok (.iinc 1 1, 3) := by decide +kernel
theorem dX1_bringGifts_59 : decode cX1_bringGifts 59 = .ok (.iinc 2 1, 3) := by decide +kernel
theorem dX1_bringGifts_62 : decode cX1_bringGifts 62 = .ok (.goto (-58), 3) := by decide +kernel
theorem dX1_bringGifts_65 : decode cX1_bringGifts 65 = .ok (.aload_n 0, 1) := by decide +kernel
theorem dX1_bringGifts_66 : decode cX1_bringGifts 66 = .ok (.iload_n 1, 1) := by decide +kernel
theorem dX1_bringGifts_67 : decode cX1_bringGifts 67 = .ok (.putfield 28, 3) := by decide +kernel
theorem dX1_bringGifts_70 : decode cX1_bringGifts 70 = .ok (.return_, 1) := by decide +kernel
theorem lkX1_bringGifts_24 : Cond.fieldLink RX1 24 "LeftAtFive$Kitchens" "minute" "I" ∈ wsX1_bringGifts := by decide +kernel
theorem lkX1_bringGifts_28 : Cond.fieldLink RX1 28 "LeftAtFive$Kitchens" "ways" "I" ∈ wsX1_bringGifts := by decide +kernel
theorem iwX1_bringGifts_X1 : ∀ w ∈ wsX10, w ∈ wsX1_bringGifts := by decide +kernel
set_option maxHeartbeats 2000000 in
set_option maxRecDepth 100000 in
theorem c_X1_bringGifts (l : Launch) (D : va_G) (q : Nat → ClassId) (kd : Nat → Nat) (K : Nat → Int32) (hK : okK K) : xC l yX1_bringGifts wsX1_bringGifts ({ frames := 2, cells := 0, slots := 0, locals := 45 }) D (TY q) [wk q kd K] [.ref (kd 0)] (xQv D (TY q) (fun (_ : Unit) => True) (fun _ => [wk q kd (kCome K)])) 0 0 := by
  refine x_enter (cc := cX1_bringGifts) (maxL := 3) (ret := none) (by decide) rfl (Nat.le_of_ble_eq_true rfl) ?_
  intro p e s m below meth c A ls H locs hfix hr hlocks hinit hM hl
  obtain ⟨hx, hb, hml, hown, hts⟩ := id hfix
  have hl : lv_has ls 3 [(0, .ref (kd 0))] := hl
  have hK2 := hK.2.1.2
  refine lv_iconst (v := nI 0) hx hb dX1_bringGifts_0 (by decide) ?_
  refine lv_istore_n (lv' := [(1, .int (nI 0)), (0, .ref (kd 0))]) hx hb dX1_bringGifts_1 rfl hl (by decide) rfl (fun ls hl => ?_)
  refine lv_iconst (v := nI 0) hx hb dX1_bringGifts_2 (by decide) ?_
  refine lv_istore_n (lv' := [(2, .int (nI 0)), (1, .int (nI 0)), (0, .ref (kd 0))]) hx hb dX1_bringGifts_3 rfl hl (by decide) rfl (fun ls hl => ?_)
  have e2 : wk q kd K = wk q kd (kCL K 0).2 := congrArg (wk q kd) (show (K : Nat → Int32) = (kCL K 0).2 from by rfl)
  have hM : xM D (TY q) [wk q kd (kCL K 0).2] A s.heap s H locs := Eq.mp (congrArg (fun z9 => xM D (TY q) [z9] A s.heap s H locs) e2) hM
  refine x_loop (ι := Nat) (fun k => [(0, .ref (kd 0)), (1, .int (nI (kCL K k).1)), (2, .int (nI k))]) (fun k => [wk q kd (kCL K k).2]) (fun k => k ≤ tn (K 26)) (fun k => tn (K 26) - k) 0 (by omega) hM (lv_sub hl [2, 1, 0] rfl) ?_
  intro k hI4 ih3 H locs hM ls hl
  have hM : xM D (TY q) [wk q kd (kCL K k).2] A s.heap s H locs := hM
  have hl : lv_has ls 3 [(0, .ref (kd 0)), (1, .int (nI (kCL K k).1)), (2, .int (nI k))] := hl
  have hI4 : k ≤ tn (K 26) := hI4
  have hle := kCL_le K k
  try dsimp only
  refine lv_iload_n hx hb dX1_bringGifts_4 rfl (lv_at hl 2 rfl) ?_
  refine lv_aload_n hx hb dX1_bringGifts_5 rfl (lv_at hl 0 rfl) ?_
  refine x_get hx hb hts iwX1_bringGifts_X1 hown hM 0 0 rfl rfl rfl 1 (by decide) (hts _ lkX1_bringGifts_28) (fun _ h => h) rfl dX1_bringGifts_6 ?_
  refine x_cast (y := nI (tn (K 26))) ((kCL_keep K k (fun i hi => hK.2.2 i (by omega)) _ (by omega)).trans hK.2.1.1) ?_
  refine x_icmp_ge (x := k) (y := tn (K 26)) (tgt := 65) hx hb (by omega) (by omega) dX1_bringGifts_9 (by decide) (fun c5 => ?_) (fun c5 => ?_)
  · refine lv_aload_n hx hb dX1_bringGifts_65 rfl (lv_at hl 0 rfl) ?_
    refine lv_iload_n hx hb dX1_bringGifts_66 rfl (lv_at hl 1 rfl) ?_
    refine x_put hx hb hts iwX1_bringGifts_X1 tyX1 tyX1_ok nmX1 hown hM 0 0 rfl rfl rfl 1 (by decide) (hts _ lkX1_bringGifts_28) (fun _ h => h) rfl (ty := .int) (by decide +kernel) rfl rfl (Nat.le_of_ble_eq_true rfl) [wk q kd (upd (kCL K k).2 26 (nI (kCL K k).1))] (congrArg (fun z9 => [z9]) (wk_f1 q kd (kCL K k).2 (nI (kCL K k).1))) dX1_bringGifts_67 (fun H locs hM => ?_)
    have e6 : wk q kd (upd (kCL K k).2 26 (nI (kCL K k).1)) = wk q kd (kCome K) := congrArg (wk q kd) (show (upd (kCL K k).2 26 (nI (kCL K k).1) : Nat → Int32) = kCome K from by (rw [show k = tn (K 26) by omega]; rfl))
    have hM : xM D (TY q) [wk q kd (kCome K)] A s.heap s H locs := Eq.mp (congrArg (fun z9 => xM D (TY q) [z9] A s.heap s H locs) e6) hM
    exact x_vret hx hb hr hlocks () hM trivial dX1_bringGifts_70
  · refine lv_aload_n hx hb dX1_bringGifts_12 rfl (lv_at hl 0 rfl) ?_
    refine lv_iload_n hx hb dX1_bringGifts_13 rfl (lv_at hl 2 rfl) ?_
    refine lv_iconst (v := nI 3) hx hb dX1_bringGifts_14 (by decide) ?_
    refine x_calli (bc := [wk q kd (kCL K k).2]) (br := []) hM [0] [] rfl rfl rfl (by decide) (x_runV (As := [.int (nI k), .int (nI 3)]) (rest := []) hfix (c_X1_tellWay l D q kd (kCL K k).2 k 3 (by omega) (by omega)) (cwV 2 hts gX1_bringGifts_X1_tellWay rfl rfl rfl (by decide +kernel) ⟨Nat.le_of_ble_eq_true rfl, Nat.le_of_ble_eq_true rfl⟩) hM [0] rfl rfl 0 0 rfl rfl rfl rfl rfl hl.1 rfl (Nat.le_of_ble_eq_true rfl) dX1_bringGifts_15 ⟨Nat.le_of_ble_eq_true rfl, Nat.le_of_ble_eq_true rfl⟩) (fun r u H locs hq hM => ?_)
    subst hq
    have hM : xM D (TY q) [wk q kd (kCL K k).2] A s.heap s H locs := hM
    refine x_cast (y := K (26 + 1 + 4 * k + 3)) (kCL_keep K k (fun i hi => hK.2.2 i (by omega)) _ (by omega)) ?_
    refine lv_aload_n hx hb dX1_bringGifts_18 rfl (lv_at hl 0 rfl) ?_
    refine x_get hx hb hts iwX1_bringGifts_X1 hown hM 0 0 rfl rfl rfl 0 (by decide) (hts _ lkX1_bringGifts_24) (fun _ h => h) rfl dX1_bringGifts_19 ?_
    refine x_cast (y := K 25) (kCL_keep K k (fun i hi => hK.2.2 i (by omega)) _ (by omega)) ?_
    refine lv_icmp_ne (tgt := 50) hx hb dX1_bringGifts_22 (by decide) (fun c7 => ?_) (fun c7 => ?_)
    · refine lv_aload_n hx hb dX1_bringGifts_50 rfl (lv_at hl 0 rfl) ?_
      refine lv_iload_n hx hb dX1_bringGifts_51 rfl (lv_at hl 2 rfl) ?_
      refine lv_iload_n hx hb dX1_bringGifts_52 rfl (lv_at hl 1 rfl) ?_
      refine x_callv (bc := [wk q kd (kCL K k).2]) (br := []) hM [0] [] rfl rfl rfl (by decide) (x_runV (As := [.int (nI k), .int (nI (kCL K k).1)]) (rest := []) hfix (c_X1_moveWay l D q kd (kCL K k).2 k (kCL K k).1 (by omega) (by omega)) (cwV 2 hts gX1_bringGifts_X1_moveWay rfl rfl rfl (by decide +kernel) ⟨Nat.le_of_ble_eq_true rfl, Nat.le_of_ble_eq_true rfl⟩) hM [0] rfl rfl 0 0 rfl rfl rfl rfl rfl hl.1 rfl (Nat.le_of_ble_eq_true rfl) dX1_bringGifts_53 ⟨Nat.le_of_ble_eq_true rfl, Nat.le_of_ble_eq_true rfl⟩) (fun u H locs hq hM => ?_)
      have hM : xM D (TY q) [wk q kd (kMv (kCL K k).2 k (kCL K k).1 4)] A s.heap s H locs := hM
      refine lv_iinc (v := nI ((kCL K k).1 + 1)) (lv' := [(1, .int (nI ((kCL K k).1 + 1))), (0, .ref (kd 0)), (2, .int (nI k))]) hx hb dX1_bringGifts_56 hl (k := 1) rfl (x_inc _ 1) (by decide) rfl (fun ls hl => ?_)
      refine lv_iinc (v := nI (k + 1)) (lv' := [(2, .int (nI (k + 1))), (1, .int (nI ((kCL K k).1 + 1))), (0, .ref (kd 0))]) hx hb dX1_bringGifts_59 hl (k := 2) rfl (x_inc _ 1) (by decide) rfl (fun ls hl => ?_)
      refine lv_goto (tgt := 4) hx hb dX1_bringGifts_62 (by decide) ?_
      have e8 : wk q kd (kMv (kCL K k).2 k (kCL K k).1 4) = wk q kd (kCL K (k + 1)).2 := congrArg (wk q kd) (show (kMv (kCL K k).2 k (kCL K k).1 4 : Nat → Int32) = (kCL K (k + 1)).2 from by (simp only [kCL]; split <;> first | rfl | contradiction))
      have hM : xM D (TY q) [wk q kd (kCL K (k + 1)).2] A s.heap s H locs := Eq.mp (congrArg (fun z9 => xM D (TY q) [z9] A s.heap s H locs) e8) hM
      have hl : lv_has ls 3 [(0, .ref (kd 0)), (1, .int (nI ((kCL K k).1 + 1))), (2, .int (nI (k + 1)))] := lv_sub hl [2, 1, 0] rfl
      have e9 : nI ((kCL K k).1 + 1) = nI (kCL K (k + 1)).1 := by (simp only [kCL]; split <;> first | rfl | contradiction)
      have hl : lv_has ls 3 [(0, .ref (kd 0)), (1, .int (nI (kCL K (k + 1)).1)), (2, .int (nI (k + 1)))] := x_lvset hl 1 rfl (congrArg Value.int e9) rfl
      exact ih3 (k + 1) (show tn (K 26) - (k + 1) < tn (K 26) - k from by omega) (show (k + 1) ≤ tn (K 26) from by omega) _ _ hM _ hl
    · obtain ⟨⟨hg0, hg1⟩, hg2, hg3⟩ := hK.2.2 k (by omega)
      refine lv_aload_n hx hb dX1_bringGifts_25 rfl (lv_at hl 0 rfl) ?_
      refine lv_aload_n hx hb dX1_bringGifts_26 rfl (lv_at hl 0 rfl) ?_
      refine lv_iload_n hx hb dX1_bringGifts_27 rfl (lv_at hl 2 rfl) ?_
      refine lv_iconst (v := nI 0) hx hb dX1_bringGifts_28 (by decide) ?_
      refine x_calli (bc := [wk q kd (kCL K k).2]) (br := []) hM [0] [] rfl rfl rfl (by decide) (x_runV (As := [.int (nI k), .int (nI 0)]) (rest := [.ref (kd 0)]) hfix (c_X1_tellWay l D q kd (kCL K k).2 k 0 (by omega) (by omega)) (cwV 2 hts gX1_bringGifts_X1_tellWay rfl rfl rfl (by decide +kernel) ⟨Nat.le_of_ble_eq_true rfl, Nat.le_of_ble_eq_true rfl⟩) hM [0] rfl rfl 0 0 rfl rfl rfl rfl rfl hl.1 rfl (Nat.le_of_ble_eq_true rfl) dX1_bringGifts_29 ⟨Nat.le_of_ble_eq_true rfl, Nat.le_of_ble_eq_true rfl⟩) (fun r u H locs hq hM => ?_)
      subst hq
      have hM : xM D (TY q) [wk q kd (kCL K k).2] A s.heap s H locs := hM
      refine x_cast (y := K (26 + 1 + 4 * k + 0)) (kCL_keep K k (fun i hi => hK.2.2 i (by omega)) _ (by omega)) ?_
      refine x_cast (y := nI (tn (K (26 + 1 + 4 * k)))) (hK.2.2 k (by omega)).1.1 ?_
      refine lv_aload_n hx hb dX1_bringGifts_32 rfl (lv_at hl 0 rfl) ?_
      refine lv_iload_n hx hb dX1_bringGifts_33 rfl (lv_at hl 2 rfl) ?_
      refine lv_iconst (v := nI 1) hx hb dX1_bringGifts_34 (by decide) ?_
      refine x_calli (bc := [wk q kd (kCL K k).2]) (br := []) hM [0] [] rfl rfl rfl (by decide) (x_runV (As := [.int (nI k), .int (nI 1)]) (rest := [.int (nI (tn (K (26 + 1 + 4 * k)))), .ref (kd 0)]) hfix (c_X1_tellWay l D q kd (kCL K k).2 k 1 (by omega) (by omega)) (cwV 2 hts gX1_bringGifts_X1_tellWay rfl rfl rfl (by decide +kernel) ⟨Nat.le_of_ble_eq_true rfl, Nat.le_of_ble_eq_true rfl⟩) hM [0] rfl rfl 0 0 rfl rfl rfl rfl rfl hl.1 rfl (Nat.le_of_ble_eq_true rfl) dX1_bringGifts_35 ⟨Nat.le_of_ble_eq_true rfl, Nat.le_of_ble_eq_true rfl⟩) (fun r u H locs hq hM => ?_)
      subst hq
      have hM : xM D (TY q) [wk q kd (kCL K k).2] A s.heap s H locs := hM
      refine x_cast (y := K (26 + 1 + 4 * k + 1)) (kCL_keep K k (fun i hi => hK.2.2 i (by omega)) _ (by omega)) ?_
      refine x_cast (y := nI (tn (K (26 + 1 + 4 * k + 1)))) (hK.2.2 k (by omega)).2.1 ?_
      refine lv_aload_n hx hb dX1_bringGifts_38 rfl (lv_at hl 0 rfl) ?_
      refine lv_iload_n hx hb dX1_bringGifts_39 rfl (lv_at hl 2 rfl) ?_
      refine lv_iconst (v := nI 2) hx hb dX1_bringGifts_40 (by decide) ?_
      refine x_calli (bc := [wk q kd (kCL K k).2]) (br := []) hM [0] [] rfl rfl rfl (by decide) (x_runV (As := [.int (nI k), .int (nI 2)]) (rest := [.int (nI (tn (K (26 + 1 + 4 * k + 1)))), .int (nI (tn (K (26 + 1 + 4 * k)))), .ref (kd 0)]) hfix (c_X1_tellWay l D q kd (kCL K k).2 k 2 (by omega) (by omega)) (cwV 2 hts gX1_bringGifts_X1_tellWay rfl rfl rfl (by decide +kernel) ⟨Nat.le_of_ble_eq_true rfl, Nat.le_of_ble_eq_true rfl⟩) hM [0] rfl rfl 0 0 rfl rfl rfl rfl rfl hl.1 rfl (Nat.le_of_ble_eq_true rfl) dX1_bringGifts_41 ⟨Nat.le_of_ble_eq_true rfl, Nat.le_of_ble_eq_true rfl⟩) (fun r u H locs hq hM => ?_)
      subst hq
      have hM : xM D (TY q) [wk q kd (kCL K k).2] A s.heap s H locs := hM
      refine x_cast (y := K (26 + 1 + 4 * k + 2)) (kCL_keep K k (fun i hi => hK.2.2 i (by omega)) _ (by omega)) ?_
      refine x_callv (bc := [wk q kd (kCL K k).2]) (br := []) hM [0] [] rfl rfl rfl (by decide) (x_runV (As := [.int (nI (tn (K (26 + 1 + 4 * k)))), .int (nI (tn (K (26 + 1 + 4 * k + 1)))), .int (K (26 + 1 + 4 * k + 2))]) (rest := []) hfix (c_X1_add l D q kd (kCL K k).2 (tn (K (26 + 1 + 4 * k))) (tn (K (26 + 1 + 4 * k + 1))) (K (26 + 1 + 4 * k + 2)) (by omega) (by omega)) (cwV 3 hts gX1_bringGifts_X1_add rfl rfl rfl (by decide +kernel) ⟨Nat.le_of_ble_eq_true rfl, Nat.le_of_ble_eq_true rfl⟩) hM [0] rfl rfl 0 0 rfl rfl rfl rfl rfl hl.1 rfl (Nat.le_of_ble_eq_true rfl) dX1_bringGifts_44 ⟨Nat.le_of_ble_eq_true rfl, Nat.le_of_ble_eq_true rfl⟩) (fun u H locs hq hM => ?_)
      have hM : xM D (TY q) [wk q kd (kAdd (kCL K k).2 (tn (K (26 + 1 + 4 * k))) (tn (K (26 + 1 + 4 * k + 1))) (K (26 + 1 + 4 * k + 2)))] A s.heap s H locs := hM
      refine lv_goto (tgt := 59) hx hb dX1_bringGifts_47 (by decide) ?_
      refine lv_iinc (v := nI (k + 1)) (lv' := [(2, .int (nI (k + 1))), (0, .ref (kd 0)), (1, .int (nI (kCL K k).1))]) hx hb dX1_bringGifts_59 hl (k := 2) rfl (x_inc _ 1) (by decide) rfl (fun ls hl => ?_)
      refine lv_goto (tgt := 4) hx hb dX1_bringGifts_62 (by decide) ?_
      have e10 : wk q kd (kAdd (kCL K k).2 (tn (K (26 + 1 + 4 * k))) (tn (K (26 + 1 + 4 * k + 1))) (K (26 + 1 + 4 * k + 2))) = wk q kd (kCL K (k + 1)).2 := congrArg (wk q kd) (show (kAdd (kCL K k).2 (tn (K (26 + 1 + 4 * k))) (tn (K (26 + 1 + 4 * k + 1))) (K (26 + 1 + 4 * k + 2)) : Nat → Int32) = (kCL K (k + 1)).2 from by (simp only [kCL]; split <;> first | rfl | contradiction))
      have hM : xM D (TY q) [wk q kd (kCL K (k + 1)).2] A s.heap s H locs := Eq.mp (congrArg (fun z9 => xM D (TY q) [z9] A s.heap s H locs) e10) hM
      have hl : lv_has ls 3 [(0, .ref (kd 0)), (1, .int (nI (kCL K k).1)), (2, .int (nI (k + 1)))] := lv_sub hl [1, 2, 0] rfl
      have e11 : nI (kCL K k).1 = nI (kCL K (k + 1)).1 := by (simp only [kCL]; split <;> first | rfl | contradiction)
      have hl : lv_has ls 3 [(0, .ref (kd 0)), (1, .int (nI (kCL K (k + 1)).1)), (2, .int (nI (k + 1)))] := x_lvset hl 1 rfl (congrArg Value.int e11) rfl
      exact ih3 (k + 1) (show tn (K 26) - (k + 1) < tn (K 26) - k from by omega) (show (k + 1) ≤ tn (K 26) from by omega) _ _ hM _ hl

set_option maxRecDepth 20000 in
theorem ggX1_spoil_X7_spoils : GoodIn wsX1_spoil wsX7_spoils := goodIn_r _ [7, 8, 9, 10, 11, 12, 30, 31, 32, 33, 34, 35, 36, 37, 38, 39, 40, 41, 42, 43, 44, 45] (by decide +kernel) (by decide +kernel)
set_option maxRecDepth 20000 in
theorem gX1_spoil_X7_spoils : GoodIn wsX1_spoil (wsV RX1 128 RX7 yX7_spoils wsX7_spoils) := goodIn_app (goodIn_of _ (by decide +kernel)) ggX1_spoil_X7_spoils
set_option maxRecDepth 20000 in
theorem ggX1_spoil_X1_piecesOf : GoodIn wsX1_spoil wsX1_piecesOf := goodIn_r _ [17, 18, 19, 20, 6, 21, 22, 10, 11, 12, 46, 47, 48, 49, 50, 51] (by decide +kernel) (by decide +kernel)
set_option maxRecDepth 20000 in
theorem gX1_spoil_X1_piecesOf : GoodIn wsX1_spoil (wsV RX1 62 RX1 yX1_piecesOf wsX1_piecesOf) := goodIn_app (goodIn_of _ (by decide +kernel)) ggX1_spoil_X1_piecesOf
set_option maxRecDepth 20000 in
theorem ggX1_spoil_X1_add : GoodIn wsX1_spoil wsX1_add := goodIn_r _ [26, 18, 19, 20, 6, 21, 27, 28, 11, 29, 46, 47, 48, 49, 50, 51] (by decide +kernel) (by decide +kernel)
set_option maxRecDepth 20000 in
theorem gX1_spoil_X1_add : GoodIn wsX1_spoil (wsV RX1 92 RX1 yX1_add wsX1_add) := goodIn_app (goodIn_of _ (by decide +kernel)) ggX1_spoil_X1_add
theorem dX1_spoil_0 : decode cX1_spoil 0 = .ok (.iconst 0, 1) := by decide +kernel
theorem dX1_spoil_1 : decode cX1_spoil 1 = .ok (.istore_n 2, 1) := by decide +kernel
theorem dX1_spoil_2 : decode cX1_spoil 2 = .ok (.iload_n 2, 1) := by decide +kernel
theorem dX1_spoil_3 : decode cX1_spoil 3 = .ok (.aload_n 1, 1) := by decide +kernel
theorem dX1_spoil_4 : decode cX1_spoil 4 = .ok (.getfield 68, 3) := by decide +kernel
theorem dX1_spoil_7 : decode cX1_spoil 7 = .ok (.if_icmp .ge 49, 3) := by decide +kernel
theorem dX1_spoil_10 : decode cX1_spoil 10 = .ok (.iconst 0, 1) := by decide +kernel
theorem dX1_spoil_11 : decode cX1_spoil 11 = .ok (.istore_n 3, 1) := by decide +kernel
theorem dX1_spoil_12 : decode cX1_spoil 12 = .ok (.aload_n 1, 1) := by decide +kernel
theorem dX1_spoil_13 : decode cX1_spoil 13 = .ok (.iload_n 2, 1) := by decide +kernel
theorem dX1_spoil_14 : decode cX1_spoil 14 = .ok (.invokevirtual 128, 3) := by decide +kernel
theorem dX1_spoil_17 : decode cX1_spoil 17 = .ok (.ifCond .eq 33, 3) := by decide +kernel
theorem dX1_spoil_20 : decode cX1_spoil 20 = .ok (.iload_n 3, 1) := by decide +kernel
theorem dX1_spoil_21 : decode cX1_spoil 21 = .ok (.aload_n 1, 1) := by decide +kernel
theorem dX1_spoil_22 : decode cX1_spoil 22 = .ok (.getfield 78, 3) := by decide +kernel
theorem dX1_spoil_25 : decode cX1_spoil 25 = .ok (.if_icmp .ge 25, 3) := by decide +kernel
theorem dX1_spoil_28 : decode cX1_spoil 28 = .ok (.aload_n 0, 1) := by decide +kernel
theorem dX1_spoil_29 : decode cX1_spoil 29 = .ok (.iload_n 3, 1) := by decide +kernel
theorem dX1_spoil_30 : decode cX1_spoil 30 = .ok (.iload_n 2, 1) := by decide +kernel
theorem dX1_spoil_31 : decode cX1_spoil 31 = .ok (.invokevirtual 62, 3) := by decide +kernel
theorem dX1_spoil_34 : decode cX1_spoil 34 = .ok (.ifCond .le 10, 3) := by decide +kernel
theorem dX1_spoil_37 : decode cX1_spoil 37 = .ok (.aload_n 0, 1) := by decide +kernel
theorem dX1_spoil_38 : decode cX1_spoil 38 = .ok (.iload_n 3, 1) := by decide +kernel
theorem dX1_spoil_39 : decode cX1_spoil 39 = .ok (.iload_n 2, 1) := by decide +kernel
theorem dX1_spoil_40 : decode cX1_spoil 40 = .ok (.iconst (-1), 1) := by decide +kernel
theorem dX1_spoil_41 : decode cX1_spoil 41 = .ok (.invokevirtual 92, 3) := by decide +kernel
theorem dX1_spoil_44 : decode cX1_spoil 44 = .ok (.iinc 3 1, 3) := by decide +kernel
theorem dX1_spoil_47 : decode cX1_spoil 47 = .ok (.goto (-35), 3) := by decide +kernel
theorem dX1_spoil_50 : decode cX1_spoil 50 = .ok (.iinc 2 1, 3) := by decide +kernel
theorem dX1_spoil_53 : decode cX1_spoil 53 = .ok (.goto (-51), 3) := by decide +kernel
theorem dX1_spoil_56 : decode cX1_spoil 56 = .ok (.return_, 1) := by decide +kernel
theorem lkX1_spoil_68 : Cond.fieldLink RX1 68 "LeftAtFive$Street" "goods" "I" ∈ wsX1_spoil := by decide +kernel
theorem lkX1_spoil_78 : Cond.fieldLink RX1 78 "LeftAtFive$Street" "houses" "I" ∈ wsX1_spoil := by decide +kernel
theorem iwX1_spoil_X7 : ∀ w ∈ wsX70, w ∈ wsX1_spoil := by decide +kernel
set_option maxHeartbeats 2000000 in
set_option maxRecDepth 100000 in
theorem c_X1_spoil (l : Launch) (D : va_G) (q : Nat → ClassId) (kd : Nat → Nat) (K : Nat → Int32) (sd : Nat → Nat) (X : Nat → Nat → Int32) (S : Nat → Nat → Int32) (hT : okT X S) : xC l yX1_spoil wsX1_spoil ({ frames := 2, cells := 0, slots := 0, locals := 45 }) D (TY q) [wk q kd K, wst q sd X] [.ref (kd 0), .ref (sd 0)] (xQv D (TY q) (fun (_ : Unit) => True) (fun _ => [wk q kd (kSp (S 4) (tn (S 2 0)) K (tn (S 5 0)) 0), wst q sd X])) 0 0 := by
  refine x_enter (cc := cX1_spoil) (maxL := 4) (ret := none) (by decide) rfl (Nat.le_of_ble_eq_true rfl) ?_
  intro p e s m below meth c A ls H locs hfix hr hlocks hinit hM hl
  obtain ⟨hx, hb, hml, hown, hts⟩ := id hfix
  have hl : lv_has ls 4 [(0, .ref (kd 0)), (1, .ref (sd 0))] := hl
  have hTb0 := okT_0b hT
  have hTb1 := okT_1b hT
  refine lv_iconst (v := nI 0) hx hb dX1_spoil_0 (by decide) ?_
  refine lv_istore_n (lv' := [(2, .int (nI 0)), (0, .ref (kd 0)), (1, .ref (sd 0))]) hx hb dX1_spoil_1 rfl hl (by decide) rfl (fun ls hl => ?_)
  have e2 : wk q kd K = wk q kd (kSq (S 4) (tn (S 5 0)) K 0 0) := congrArg (wk q kd) (show (K : Nat → Int32) = kSq (S 4) (tn (S 5 0)) K 0 0 from by exact kSq_0.symm)
  have hM : xM D (TY q) [wk q kd (kSq (S 4) (tn (S 5 0)) K 0 0), wst q sd X] A s.heap s H locs := Eq.mp (congrArg (fun z9 => xM D (TY q) [z9, wst q sd X] A s.heap s H locs) e2) hM
  refine x_loop (ι := Nat) (fun g => [(0, .ref (kd 0)), (1, .ref (sd 0)), (2, .int (nI g))]) (fun g => [wk q kd (kSq (S 4) (tn (S 5 0)) K g 0), wst q sd X]) (fun g => g ≤ (tn (S 2 0))) (fun g => (tn (S 2 0)) - g) 0 (by omega) hM (lv_sub hl [1, 2, 0] rfl) ?_
  intro g hI4 ih3 H locs hM ls hl
  have hM : xM D (TY q) [wk q kd (kSq (S 4) (tn (S 5 0)) K g 0), wst q sd X] A s.heap s H locs := hM
  have hl : lv_has ls 4 [(0, .ref (kd 0)), (1, .ref (sd 0)), (2, .int (nI g))] := hl
  have hI4 : g ≤ (tn (S 2 0)) := hI4
  try dsimp only
  refine lv_iload_n hx hb dX1_spoil_2 rfl (lv_at hl 2 rfl) ?_
  refine lv_aload_n hx hb dX1_spoil_3 rfl (lv_at hl 1 rfl) ?_
  refine x_get hx hb hts iwX1_spoil_X7 hown hM 1 0 rfl rfl rfl 0 (by decide) (hts _ lkX1_spoil_68) (fun _ h => h) rfl dX1_spoil_4 ?_
  refine x_cast (y := nI (tn (S 2 0))) (okT_0 hT) ?_
  refine x_icmp_ge (x := g) (y := tn (S 2 0)) (tgt := 56) hx hb (by omega) (by omega) dX1_spoil_7 (by decide) (fun c5 => ?_) (fun c5 => ?_)
  · have e6 : wk q kd (kSq (S 4) (tn (S 5 0)) K g 0) = wk q kd (kSp (S 4) (tn (S 2 0)) K (tn (S 5 0)) 0) := congrArg (wk q kd) (show (kSq (S 4) (tn (S 5 0)) K g 0 : Nat → Int32) = kSp (S 4) (tn (S 2 0)) K (tn (S 5 0)) 0 from by (rw [show g = (tn (S 2 0)) by omega]; exact kSq_end _))
    have hM : xM D (TY q) [wk q kd (kSp (S 4) (tn (S 2 0)) K (tn (S 5 0)) 0), wst q sd X] A s.heap s H locs := Eq.mp (congrArg (fun z9 => xM D (TY q) [z9, wst q sd X] A s.heap s H locs) e6) hM
    exact x_vret hx hb hr hlocks () hM trivial dX1_spoil_56
  · refine lv_iconst (v := nI 0) hx hb dX1_spoil_10 (by decide) ?_
    refine lv_istore_n (lv' := [(3, .int (nI 0)), (0, .ref (kd 0)), (1, .ref (sd 0)), (2, .int (nI g))]) hx hb dX1_spoil_11 rfl hl (by decide) rfl (fun ls hl => ?_)
    refine x_loop (ι := Nat) (fun h => [(0, .ref (kd 0)), (1, .ref (sd 0)), (2, .int (nI g)), (3, .int (nI h))]) (fun h => [wk q kd (kSq (S 4) (tn (S 5 0)) K g h), wst q sd X]) (fun h => h ≤ (tn (S 5 0))) (fun h => (tn (S 5 0)) - h) 0 (by omega) hM (lv_sub hl [1, 2, 3, 0] rfl) ?_
    intro h hI8 ih7 H locs hM ls hl
    have hM : xM D (TY q) [wk q kd (kSq (S 4) (tn (S 5 0)) K g h), wst q sd X] A s.heap s H locs := hM
    have hl : lv_has ls 4 [(0, .ref (kd 0)), (1, .ref (sd 0)), (2, .int (nI g)), (3, .int (nI h))] := hl
    have hI8 : h ≤ (tn (S 5 0)) := hI8
    try dsimp only
    refine lv_aload_n hx hb dX1_spoil_12 rfl (lv_at hl 1 rfl) ?_
    refine lv_iload_n hx hb dX1_spoil_13 rfl (lv_at hl 2 rfl) ?_
    refine x_calli (bc := [wst q sd X]) (br := [wk q kd (kSq (S 4) (tn (S 5 0)) K g h)]) hM [1] [0] rfl rfl rfl (by decide) (x_runV (As := [.int (nI g)]) (rest := []) hfix (c_X7_spoils l D q sd X S g hT (by omega)) (cwV 1 hts gX1_spoil_X7_spoils rfl rfl rfl (by decide +kernel) ⟨Nat.le_of_ble_eq_true rfl, Nat.le_of_ble_eq_true rfl⟩) hM [1] rfl rfl 1 0 rfl rfl rfl rfl rfl hl.1 rfl (Nat.le_of_ble_eq_true rfl) dX1_spoil_14 ⟨Nat.le_of_ble_eq_true rfl, Nat.le_of_ble_eq_true rfl⟩) (fun r u H locs hq hM => ?_)
    subst hq
    have hM : xM D (TY q) [wk q kd (kSq (S 4) (tn (S 5 0)) K g h), wst q sd X] A s.heap s H locs := hM
    refine x_ifz_eq (P := S 4 g = nI 3) (tgt := 50) hx hb dX1_spoil_17 (by decide) (fun c9 => ?_) (fun c9 => ?_)
    · refine lv_iinc (v := nI (g + 1)) (lv' := [(2, .int (nI (g + 1))), (0, .ref (kd 0)), (1, .ref (sd 0)), (3, .int (nI h))]) hx hb dX1_spoil_50 hl (k := 2) rfl (x_inc _ 1) (by decide) rfl (fun ls hl => ?_)
      refine lv_goto (tgt := 2) hx hb dX1_spoil_53 (by decide) ?_
      have e10 : wk q kd (kSq (S 4) (tn (S 5 0)) K g h) = wk q kd (kSq (S 4) (tn (S 5 0)) K (g + 1) 0) := congrArg (wk q kd) (show (kSq (S 4) (tn (S 5 0)) K g h : Nat → Int32) = kSq (S 4) (tn (S 5 0)) K (g + 1) 0 from by (first | exact kSq_skip (by assumption) | (rw [show h = (tn (S 5 0)) by omega]; exact kSq_row _)))
      have hM : xM D (TY q) [wk q kd (kSq (S 4) (tn (S 5 0)) K (g + 1) 0), wst q sd X] A s.heap s H locs := Eq.mp (congrArg (fun z9 => xM D (TY q) [z9, wst q sd X] A s.heap s H locs) e10) hM
      have hl : lv_has ls 4 [(0, .ref (kd 0)), (1, .ref (sd 0)), (2, .int (nI (g + 1)))] := lv_sub hl [1, 2, 0] rfl
      exact ih3 (g + 1) (show (tn (S 2 0)) - (g + 1) < (tn (S 2 0)) - g from by omega) (show (g + 1) ≤ (tn (S 2 0)) from by omega) _ _ hM _ hl
    · refine lv_iload_n hx hb dX1_spoil_20 rfl (lv_at hl 3 rfl) ?_
      refine lv_aload_n hx hb dX1_spoil_21 rfl (lv_at hl 1 rfl) ?_
      refine x_get hx hb hts iwX1_spoil_X7 hown hM 1 0 rfl rfl rfl 1 (by decide) (hts _ lkX1_spoil_78) (fun _ h => h) rfl dX1_spoil_22 ?_
      refine x_cast (y := nI (tn (S 5 0))) (okT_1 hT) ?_
      refine x_icmp_ge (x := h) (y := tn (S 5 0)) (tgt := 50) hx hb (by omega) (by omega) dX1_spoil_25 (by decide) (fun c11 => ?_) (fun c11 => ?_)
      · refine lv_iinc (v := nI (g + 1)) (lv' := [(2, .int (nI (g + 1))), (0, .ref (kd 0)), (1, .ref (sd 0)), (3, .int (nI h))]) hx hb dX1_spoil_50 hl (k := 2) rfl (x_inc _ 1) (by decide) rfl (fun ls hl => ?_)
        refine lv_goto (tgt := 2) hx hb dX1_spoil_53 (by decide) ?_
        have e12 : wk q kd (kSq (S 4) (tn (S 5 0)) K g h) = wk q kd (kSq (S 4) (tn (S 5 0)) K (g + 1) 0) := congrArg (wk q kd) (show (kSq (S 4) (tn (S 5 0)) K g h : Nat → Int32) = kSq (S 4) (tn (S 5 0)) K (g + 1) 0 from by (first | exact kSq_skip (by assumption) | (rw [show h = (tn (S 5 0)) by omega]; exact kSq_row _)))
        have hM : xM D (TY q) [wk q kd (kSq (S 4) (tn (S 5 0)) K (g + 1) 0), wst q sd X] A s.heap s H locs := Eq.mp (congrArg (fun z9 => xM D (TY q) [z9, wst q sd X] A s.heap s H locs) e12) hM
        have hl : lv_has ls 4 [(0, .ref (kd 0)), (1, .ref (sd 0)), (2, .int (nI (g + 1)))] := lv_sub hl [1, 2, 0] rfl
        exact ih3 (g + 1) (show (tn (S 2 0)) - (g + 1) < (tn (S 2 0)) - g from by omega) (show (g + 1) ≤ (tn (S 2 0)) from by omega) _ _ hM _ hl
      · refine lv_aload_n hx hb dX1_spoil_28 rfl (lv_at hl 0 rfl) ?_
        refine lv_iload_n hx hb dX1_spoil_29 rfl (lv_at hl 3 rfl) ?_
        refine lv_iload_n hx hb dX1_spoil_30 rfl (lv_at hl 2 rfl) ?_
        refine x_calli (bc := [wk q kd (kSq (S 4) (tn (S 5 0)) K g h)]) (br := [wst q sd X]) hM [0] [1] rfl rfl rfl (by decide) (x_runV (As := [.int (nI h), .int (nI g)]) (rest := []) hfix (c_X1_piecesOf l D q kd (kSq (S 4) (tn (S 5 0)) K g h) h g (by omega) (by omega)) (cwV 2 hts gX1_spoil_X1_piecesOf rfl rfl rfl (by decide +kernel) ⟨Nat.le_of_ble_eq_true rfl, Nat.le_of_ble_eq_true rfl⟩) hM [0] rfl rfl 0 0 rfl rfl rfl rfl rfl hl.1 rfl (Nat.le_of_ble_eq_true rfl) dX1_spoil_31 ⟨Nat.le_of_ble_eq_true rfl, Nat.le_of_ble_eq_true rfl⟩) (fun r u H locs hq hM => ?_)
        subst hq
        have hM : xM D (TY q) [wst q sd X, wk q kd (kSq (S 4) (tn (S 5 0)) K g h)] A s.heap s H locs := hM
        have hM : xM D (TY q) [wk q kd (kSq (S 4) (tn (S 5 0)) K g h), wst q sd X] A s.heap s H locs := hM.sel [1, 0] rfl rfl
        refine x_cast (y := K (5 * h + g)) (kSq_at _ (by omega)) ?_
        refine lv_if_le (tgt := 44) hx hb dX1_spoil_34 (by decide) (fun c13 => ?_) (fun c13 => ?_)
        · refine lv_iinc (v := nI (h + 1)) (lv' := [(3, .int (nI (h + 1))), (0, .ref (kd 0)), (1, .ref (sd 0)), (2, .int (nI g))]) hx hb dX1_spoil_44 hl (k := 3) rfl (x_inc _ 1) (by decide) rfl (fun ls hl => ?_)
          refine lv_goto (tgt := 12) hx hb dX1_spoil_47 (by decide) ?_
          have e14 : wk q kd (kSq (S 4) (tn (S 5 0)) K g h) = wk q kd (kSq (S 4) (tn (S 5 0)) K g (h + 1)) := congrArg (wk q kd) (show (kSq (S 4) (tn (S 5 0)) K g h : Nat → Int32) = kSq (S 4) (tn (S 5 0)) K g (h + 1) from by (first | exact kSq_s1 (by omega) (by omega) (by assumption) (Int32.not_le.mp (by assumption)) | exact kSq_s0 (by omega) (by omega) (Int32.not_lt.mpr (by assumption))))
          have hM : xM D (TY q) [wk q kd (kSq (S 4) (tn (S 5 0)) K g (h + 1)), wst q sd X] A s.heap s H locs := Eq.mp (congrArg (fun z9 => xM D (TY q) [z9, wst q sd X] A s.heap s H locs) e14) hM
          have hl : lv_has ls 4 [(0, .ref (kd 0)), (1, .ref (sd 0)), (2, .int (nI g)), (3, .int (nI (h + 1)))] := lv_sub hl [1, 2, 3, 0] rfl
          exact ih7 (h + 1) (show (tn (S 5 0)) - (h + 1) < (tn (S 5 0)) - h from by omega) (show (h + 1) ≤ (tn (S 5 0)) from by omega) _ _ hM _ hl
        · refine lv_aload_n hx hb dX1_spoil_37 rfl (lv_at hl 0 rfl) ?_
          refine lv_iload_n hx hb dX1_spoil_38 rfl (lv_at hl 3 rfl) ?_
          refine lv_iload_n hx hb dX1_spoil_39 rfl (lv_at hl 2 rfl) ?_
          refine lv_iconst (v := (-1)) hx hb dX1_spoil_40 (by decide) ?_
          refine x_callv (bc := [wk q kd (kSq (S 4) (tn (S 5 0)) K g h)]) (br := [wst q sd X]) hM [0] [1] rfl rfl rfl (by decide) (x_runV (As := [.int (nI h), .int (nI g), .int (-1)]) (rest := []) hfix (c_X1_add l D q kd (kSq (S 4) (tn (S 5 0)) K g h) h g (-1) (by omega) (by omega)) (cwV 3 hts gX1_spoil_X1_add rfl rfl rfl (by decide +kernel) ⟨Nat.le_of_ble_eq_true rfl, Nat.le_of_ble_eq_true rfl⟩) hM [0] rfl rfl 0 0 rfl rfl rfl rfl rfl hl.1 rfl (Nat.le_of_ble_eq_true rfl) dX1_spoil_41 ⟨Nat.le_of_ble_eq_true rfl, Nat.le_of_ble_eq_true rfl⟩) (fun u H locs hq hM => ?_)
          have hM : xM D (TY q) [wst q sd X, wk q kd (kAdd (kSq (S 4) (tn (S 5 0)) K g h) h g (-1))] A s.heap s H locs := hM
          have hM : xM D (TY q) [wk q kd (kAdd (kSq (S 4) (tn (S 5 0)) K g h) h g (-1)), wst q sd X] A s.heap s H locs := hM.sel [1, 0] rfl rfl
          refine lv_iinc (v := nI (h + 1)) (lv' := [(3, .int (nI (h + 1))), (0, .ref (kd 0)), (1, .ref (sd 0)), (2, .int (nI g))]) hx hb dX1_spoil_44 hl (k := 3) rfl (x_inc _ 1) (by decide) rfl (fun ls hl => ?_)
          refine lv_goto (tgt := 12) hx hb dX1_spoil_47 (by decide) ?_
          have e15 : wk q kd (kAdd (kSq (S 4) (tn (S 5 0)) K g h) h g (-1)) = wk q kd (kSq (S 4) (tn (S 5 0)) K g (h + 1)) := congrArg (wk q kd) (show (kAdd (kSq (S 4) (tn (S 5 0)) K g h) h g (-1) : Nat → Int32) = kSq (S 4) (tn (S 5 0)) K g (h + 1) from by (first | exact kSq_s1 (by omega) (by omega) (by assumption) (Int32.not_le.mp (by assumption)) | exact kSq_s0 (by omega) (by omega) (Int32.not_lt.mpr (by assumption))))
          have hM : xM D (TY q) [wk q kd (kSq (S 4) (tn (S 5 0)) K g (h + 1)), wst q sd X] A s.heap s H locs := Eq.mp (congrArg (fun z9 => xM D (TY q) [z9, wst q sd X] A s.heap s H locs) e15) hM
          have hl : lv_has ls 4 [(0, .ref (kd 0)), (1, .ref (sd 0)), (2, .int (nI g)), (3, .int (nI (h + 1)))] := lv_sub hl [1, 2, 3, 0] rfl
          exact ih7 (h + 1) (show (tn (S 5 0)) - (h + 1) < (tn (S 5 0)) - h from by omega) (show (h + 1) ≤ (tn (S 5 0)) from by omega) _ _ hM _ hl

set_option maxRecDepth 20000 in
theorem ggX1_feed_X7_spotOf : GoodIn wsX1_feed wsX7_spotOf := goodIn_r _ [8, 9, 10, 11, 12, 13, 24, 25, 26, 27, 28, 29, 30, 31, 32, 33, 34, 35, 36, 37, 38, 39] (by decide +kernel) (by decide +kernel)
set_option maxRecDepth 20000 in
theorem gX1_feed_X7_spotOf : GoodIn wsX1_feed (wsV RX1 132 RX7 yX7_spotOf wsX7_spotOf) := goodIn_app (goodIn_of _ (by decide +kernel)) ggX1_feed_X7_spotOf
set_option maxRecDepth 20000 in
theorem ggX1_feed_X5_at : GoodIn wsX1_feed wsX5_at := goodIn_r _ [13] (by decide +kernel) (by decide +kernel)
set_option maxRecDepth 20000 in
theorem gX1_feed_X5_at : GoodIn wsX1_feed (va_wsS RX1 50 yX5_at wsX5_at) := goodIn_app (goodIn_of _ (by decide +kernel)) ggX1_feed_X5_at
set_option maxRecDepth 20000 in
theorem ggX1_feed_X5_add : GoodIn wsX1_feed wsX5_add := goodIn_r _ [17] (by decide +kernel) (by decide +kernel)
set_option maxRecDepth 20000 in
theorem gX1_feed_X5_add : GoodIn wsX1_feed (va_wsS RX1 54 yX5_add wsX5_add) := goodIn_app (goodIn_of _ (by decide +kernel)) ggX1_feed_X5_add
theorem dX1_feed_0 : decode cX1_feed 0 = .ok (.aload_n 1, 1) := by decide +kernel
theorem dX1_feed_1 : decode cX1_feed 1 = .ok (.iload_n 2, 1) := by decide +kernel
theorem dX1_feed_2 : decode cX1_feed 2 = .ok (.invokevirtual 132, 3) := by decide +kernel
theorem dX1_feed_5 : decode cX1_feed 5 = .ok (.istore_n 3, 1) := by decide +kernel
theorem dX1_feed_6 : decode cX1_feed 6 = .ok (.aload_n 0, 1) := by decide +kernel
theorem dX1_feed_7 : decode cX1_feed 7 = .ok (.getfield 9, 3) := by decide +kernel
theorem dX1_feed_10 : decode cX1_feed 10 = .ok (.iload_n 3, 1) := by decide +kernel
theorem dX1_feed_11 : decode cX1_feed 11 = .ok (.invokestatic 50, 3) := by decide +kernel
theorem dX1_feed_14 : decode cX1_feed 14 = .ok (.ifCond .le 24, 3) := by decide +kernel
theorem dX1_feed_17 : decode cX1_feed 17 = .ok (.aload_n 0, 1) := by decide +kernel
theorem dX1_feed_18 : decode cX1_feed 18 = .ok (.getfield 9, 3) := by decide +kernel
theorem dX1_feed_21 : decode cX1_feed 21 = .ok (.iload_n 3, 1) := by decide +kernel
theorem dX1_feed_22 : decode cX1_feed 22 = .ok (.iconst (-1), 1) := by decide +kernel
theorem dX1_feed_23 : decode cX1_feed 23 = .ok (.invokestatic 54, 3) := by decide +kernel
theorem dX1_feed_26 : decode cX1_feed 26 = .ok (.aload_n 0, 1) := by decide +kernel
theorem dX1_feed_27 : decode cX1_feed 27 = .ok (.getfield 15, 3) := by decide +kernel
theorem dX1_feed_30 : decode cX1_feed 30 = .ok (.iload_n 2, 1) := by decide +kernel
theorem dX1_feed_31 : decode cX1_feed 31 = .ok (.iconst 1, 1) := by decide +kernel
theorem dX1_feed_32 : decode cX1_feed 32 = .ok (.invokestatic 54, 3) := by decide +kernel
theorem dX1_feed_35 : decode cX1_feed 35 = .ok (.goto 12, 3) := by decide +kernel
theorem dX1_feed_38 : decode cX1_feed 38 = .ok (.aload_n 0, 1) := by decide +kernel
theorem dX1_feed_39 : decode cX1_feed 39 = .ok (.getfield 18, 3) := by decide +kernel
theorem dX1_feed_42 : decode cX1_feed 42 = .ok (.iload_n 2, 1) := by decide +kernel
theorem dX1_feed_43 : decode cX1_feed 43 = .ok (.iconst 1, 1) := by decide +kernel
theorem dX1_feed_44 : decode cX1_feed 44 = .ok (.invokestatic 54, 3) := by decide +kernel
theorem dX1_feed_47 : decode cX1_feed 47 = .ok (.return_, 1) := by decide +kernel
theorem lkX1_feed_9 : Cond.fieldLink RX1 9 "LeftAtFive$Kitchens" "pieces" "[I" ∈ wsX1_feed := by decide +kernel
theorem lkX1_feed_15 : Cond.fieldLink RX1 15 "LeftAtFive$Kitchens" "eaten" "[I" ∈ wsX1_feed := by decide +kernel
theorem lkX1_feed_18 : Cond.fieldLink RX1 18 "LeftAtFive$Kitchens" "hungry" "[I" ∈ wsX1_feed := by decide +kernel
theorem iwX1_feed_X1 : ∀ w ∈ wsX10, w ∈ wsX1_feed := by decide +kernel
set_option maxHeartbeats 2000000 in
set_option maxRecDepth 100000 in
theorem c_X1_feed (l : Launch) (D : va_G) (q : Nat → ClassId) (kd : Nat → Nat) (K : Nat → Int32) (sd : Nat → Nat) (X : Nat → Nat → Int32) (S : Nat → Nat → Int32) (i : Nat) (hT : okT X S) (hi0 : i < (tn (S 8 0))) : xC l yX1_feed wsX1_feed ({ frames := 2, cells := 0, slots := 0, locals := 42 }) D (TY q) [wk q kd K, wst q sd X] [.ref (kd 0), .ref (sd 0), .int (nI i)] (xQv D (TY q) (fun (_ : Unit) => True) (fun _ => [wk q kd (kE1 (S 9) (S 10) i K), wst q sd X])) 0 0 := by
  refine x_enter (cc := cX1_feed) (maxL := 4) (ret := none) (by decide) rfl (Nat.le_of_ble_eq_true rfl) ?_
  intro p e s m below meth c A ls H locs hfix hr hlocks hinit hM hl
  obtain ⟨hx, hb, hml, hown, hts⟩ := id hfix
  have hl : lv_has ls 4 [(0, .ref (kd 0)), (1, .ref (sd 0)), (2, .int (nI i))] := hl
  have hTb2 := okT_2b hT
  have hEi := okT_E hT i hi0
  have hei1 := hEi.1.2
  have hei2 := hEi.2.1.2
  refine lv_aload_n hx hb dX1_feed_0 rfl (lv_at hl 1 rfl) ?_
  refine lv_iload_n hx hb dX1_feed_1 rfl (lv_at hl 2 rfl) ?_
  refine x_calli (bc := [wst q sd X]) (br := [wk q kd K]) hM [1] [0] rfl rfl rfl (by decide) (x_runV (As := [.int (nI i)]) (rest := []) hfix (c_X7_spotOf l D q sd X S i hT (by omega)) (cwV 1 hts gX1_feed_X7_spotOf rfl rfl rfl (by decide +kernel) ⟨Nat.le_of_ble_eq_true rfl, Nat.le_of_ble_eq_true rfl⟩) hM [1] rfl rfl 1 0 rfl rfl rfl rfl rfl hl.1 rfl (Nat.le_of_ble_eq_true rfl) dX1_feed_2 ⟨Nat.le_of_ble_eq_true rfl, Nat.le_of_ble_eq_true rfl⟩) (fun r u H locs hq hM => ?_)
  subst hq
  have hM : xM D (TY q) [wk q kd K, wst q sd X] A s.heap s H locs := hM
  refine lv_istore_n (lv' := [(3, .int (nI (5 * tn (S 9 i) + tn (S 10 i)))), (0, .ref (kd 0)), (1, .ref (sd 0)), (2, .int (nI i))]) hx hb dX1_feed_5 rfl hl (by decide) rfl (fun ls hl => ?_)
  refine lv_aload_n hx hb dX1_feed_6 rfl (lv_at hl 1 rfl) ?_
  refine x_get hx hb hts iwX1_feed_X1 hown hM 0 0 rfl rfl rfl 2 (by decide) (hts _ lkX1_feed_9) (fun _ h => h) rfl dX1_feed_7 ?_
  refine lv_iload_n hx hb dX1_feed_10 rfl (lv_at hl 0 rfl) ?_
  refine x_calli (bc := [wk q kd K]) (br := [wst q sd X]) hM [0] [1] rfl rfl rfl (by decide) (x_runS (As := [.ref (kd 3), .int (nI (5 * tn (S 9 i) + tn (S 10 i)))]) (rest := []) hfix (c_X5_at l D q (wk q kd K) 1 (kd 3) 25 (xv K 0 25) (5 * tn (S 9 i) + tn (S 10 i)) rfl (by decide) (by omega)) (va_cwS 2 hts gX1_feed_X5_at rfl rfl rfl (by decide +kernel) ⟨Nat.le_of_ble_eq_true rfl, Nat.le_of_ble_eq_true rfl⟩) hM [0] rfl rfl rfl hl.1 rfl (Nat.le_of_ble_eq_true rfl) dX1_feed_11 ⟨Nat.le_of_ble_eq_true rfl, Nat.le_of_ble_eq_true rfl⟩) (fun r u H locs hq hM => ?_)
  subst hq
  have hM : xM D (TY q) [wst q sd X, wk q kd K] A s.heap s H locs := hM
  have hM : xM D (TY q) [wk q kd K, wst q sd X] A s.heap s H locs := hM.sel [1, 0] rfl rfl
  refine x_cast (y := K (5 * tn (S 9 i) + tn (S 10 i))) (xv_at0 (by omega)) ?_
  refine lv_if_le (tgt := 38) hx hb dX1_feed_14 (by decide) (fun c1 => ?_) (fun c1 => ?_)
  · have hneg : ¬ 0 < K (5 * tn (S 9 i) + tn (S 10 i)) := Int32.not_lt.mpr (by assumption)
    refine lv_aload_n hx hb dX1_feed_38 rfl (lv_at hl 1 rfl) ?_
    refine x_get hx hb hts iwX1_feed_X1 hown hM 0 0 rfl rfl rfl 4 (by decide) (hts _ lkX1_feed_18) (fun _ h => h) rfl dX1_feed_39 ?_
    refine lv_iload_n hx hb dX1_feed_42 rfl (lv_at hl 3 rfl) ?_
    refine lv_iconst (v := nI 1) hx hb dX1_feed_43 (by decide) ?_
    refine x_callv (bc := [wk q kd K]) (br := [wst q sd X]) hM [0] [1] rfl rfl rfl (by decide) (x_runS (As := [.ref (kd 5), .int (nI i), .int (nI 1)]) (rest := []) hfix (c_X5_add l D q (wk q kd K) 3 (kd 5) 8 (xv K 59 8) i (nI 1) rfl (by decide) (by omega)) (va_cwS 3 hts gX1_feed_X5_add rfl rfl rfl (by decide +kernel) ⟨Nat.le_of_ble_eq_true rfl, Nat.le_of_ble_eq_true rfl⟩) hM [0] rfl rfl rfl hl.1 rfl (Nat.le_of_ble_eq_true rfl) dX1_feed_44 ⟨Nat.le_of_ble_eq_true rfl, Nat.le_of_ble_eq_true rfl⟩) (fun u H locs hq hM => ?_)
    have hM : xM D (TY q) [wst q sd X, wk q kd (upd K (59 + i) (K (59 + i) + (nI 1)))] A s.heap s H locs := Eq.mp (congrArg (fun z9 => xM D (TY q) [wst q sd X, z9] A s.heap s H locs) (wk_a4 q kd K (nI 1) (by omega))) hM
    have hM : xM D (TY q) [wk q kd (upd K (59 + i) (K (59 + i) + (nI 1))), wst q sd X] A s.heap s H locs := hM.sel [1, 0] rfl rfl
    have e2 : wk q kd (upd K (59 + i) (K (59 + i) + (nI 1))) = wk q kd (kE1 (S 9) (S 10) i K) := congrArg (wk q kd) (show (upd K (59 + i) (K (59 + i) + (nI 1)) : Nat → Int32) = kE1 (S 9) (S 10) i K from by (unfold kE1 kEat; first | (rw [if_pos hpos]; rfl) | (rw [if_neg hneg])))
    have hM : xM D (TY q) [wk q kd (kE1 (S 9) (S 10) i K), wst q sd X] A s.heap s H locs := Eq.mp (congrArg (fun z9 => xM D (TY q) [z9, wst q sd X] A s.heap s H locs) e2) hM
    exact x_vret hx hb hr hlocks () hM trivial dX1_feed_47
  · have hpos : 0 < K (5 * tn (S 9 i) + tn (S 10 i)) := Int32.not_le.mp (by assumption)
    refine lv_aload_n hx hb dX1_feed_17 rfl (lv_at hl 1 rfl) ?_
    refine x_get hx hb hts iwX1_feed_X1 hown hM 0 0 rfl rfl rfl 2 (by decide) (hts _ lkX1_feed_9) (fun _ h => h) rfl dX1_feed_18 ?_
    refine lv_iload_n hx hb dX1_feed_21 rfl (lv_at hl 0 rfl) ?_
    refine lv_iconst (v := (-1)) hx hb dX1_feed_22 (by decide) ?_
    refine x_callv (bc := [wk q kd K]) (br := [wst q sd X]) hM [0] [1] rfl rfl rfl (by decide) (x_runS (As := [.ref (kd 3), .int (nI (5 * tn (S 9 i) + tn (S 10 i))), .int (-1)]) (rest := []) hfix (c_X5_add l D q (wk q kd K) 1 (kd 3) 25 (xv K 0 25) (5 * tn (S 9 i) + tn (S 10 i)) (-1) rfl (by decide) (by omega)) (va_cwS 3 hts gX1_feed_X5_add rfl rfl rfl (by decide +kernel) ⟨Nat.le_of_ble_eq_true rfl, Nat.le_of_ble_eq_true rfl⟩) hM [0] rfl rfl rfl hl.1 rfl (Nat.le_of_ble_eq_true rfl) dX1_feed_23 ⟨Nat.le_of_ble_eq_true rfl, Nat.le_of_ble_eq_true rfl⟩) (fun u H locs hq hM => ?_)
    have hM : xM D (TY q) [wst q sd X, wk q kd (upd K (5 * tn (S 9 i) + tn (S 10 i)) (K (5 * tn (S 9 i) + tn (S 10 i)) + (-1)))] A s.heap s H locs := Eq.mp (congrArg (fun z9 => xM D (TY q) [wst q sd X, z9] A s.heap s H locs) (wk_a2 q kd K (-1) (by omega))) hM
    have hM : xM D (TY q) [wk q kd (upd K (5 * tn (S 9 i) + tn (S 10 i)) (K (5 * tn (S 9 i) + tn (S 10 i)) + (-1))), wst q sd X] A s.heap s H locs := hM.sel [1, 0] rfl rfl
    refine lv_aload_n hx hb dX1_feed_26 rfl (lv_at hl 1 rfl) ?_
    refine x_get hx hb hts iwX1_feed_X1 hown hM 0 0 rfl rfl rfl 3 (by decide) (hts _ lkX1_feed_15) (fun _ h => h) rfl dX1_feed_27 ?_
    refine lv_iload_n hx hb dX1_feed_30 rfl (lv_at hl 3 rfl) ?_
    refine lv_iconst (v := nI 1) hx hb dX1_feed_31 (by decide) ?_
    refine x_callv (bc := [wk q kd (upd K (5 * tn (S 9 i) + tn (S 10 i)) (K (5 * tn (S 9 i) + tn (S 10 i)) + (-1)))]) (br := [wst q sd X]) hM [0] [1] rfl rfl rfl (by decide) (x_runS (As := [.ref (kd 4), .int (nI i), .int (nI 1)]) (rest := []) hfix (c_X5_add l D q (wk q kd (upd K (5 * tn (S 9 i) + tn (S 10 i)) (K (5 * tn (S 9 i) + tn (S 10 i)) + (-1)))) 2 (kd 4) 8 (xv (upd K (5 * tn (S 9 i) + tn (S 10 i)) (K (5 * tn (S 9 i) + tn (S 10 i)) + (-1))) 51 8) i (nI 1) rfl (by decide) (by omega)) (va_cwS 3 hts gX1_feed_X5_add rfl rfl rfl (by decide +kernel) ⟨Nat.le_of_ble_eq_true rfl, Nat.le_of_ble_eq_true rfl⟩) hM [0] rfl rfl rfl hl.1 rfl (Nat.le_of_ble_eq_true rfl) dX1_feed_32 ⟨Nat.le_of_ble_eq_true rfl, Nat.le_of_ble_eq_true rfl⟩) (fun u H locs hq hM => ?_)
    have hM : xM D (TY q) [wst q sd X, wk q kd (upd (upd K (5 * tn (S 9 i) + tn (S 10 i)) (K (5 * tn (S 9 i) + tn (S 10 i)) + (-1))) (51 + i) ((upd K (5 * tn (S 9 i) + tn (S 10 i)) (K (5 * tn (S 9 i) + tn (S 10 i)) + (-1))) (51 + i) + (nI 1)))] A s.heap s H locs := Eq.mp (congrArg (fun z9 => xM D (TY q) [wst q sd X, z9] A s.heap s H locs) (wk_a3 q kd (upd K (5 * tn (S 9 i) + tn (S 10 i)) (K (5 * tn (S 9 i) + tn (S 10 i)) + (-1))) (nI 1) (by omega))) hM
    have hM : xM D (TY q) [wk q kd (upd (upd K (5 * tn (S 9 i) + tn (S 10 i)) (K (5 * tn (S 9 i) + tn (S 10 i)) + (-1))) (51 + i) ((upd K (5 * tn (S 9 i) + tn (S 10 i)) (K (5 * tn (S 9 i) + tn (S 10 i)) + (-1))) (51 + i) + (nI 1))), wst q sd X] A s.heap s H locs := hM.sel [1, 0] rfl rfl
    refine lv_goto (tgt := 47) hx hb dX1_feed_35 (by decide) ?_
    have e3 : wk q kd (upd (upd K (5 * tn (S 9 i) + tn (S 10 i)) (K (5 * tn (S 9 i) + tn (S 10 i)) + (-1))) (51 + i) ((upd K (5 * tn (S 9 i) + tn (S 10 i)) (K (5 * tn (S 9 i) + tn (S 10 i)) + (-1))) (51 + i) + (nI 1))) = wk q kd (kE1 (S 9) (S 10) i K) := congrArg (wk q kd) (show (upd (upd K (5 * tn (S 9 i) + tn (S 10 i)) (K (5 * tn (S 9 i) + tn (S 10 i)) + (-1))) (51 + i) ((upd K (5 * tn (S 9 i) + tn (S 10 i)) (K (5 * tn (S 9 i) + tn (S 10 i)) + (-1))) (51 + i) + (nI 1)) : Nat → Int32) = kE1 (S 9) (S 10) i K from by (unfold kE1 kEat; first | (rw [if_pos hpos]; rfl) | (rw [if_neg hneg])))
    have hM : xM D (TY q) [wk q kd (kE1 (S 9) (S 10) i K), wst q sd X] A s.heap s H locs := Eq.mp (congrArg (fun z9 => xM D (TY q) [z9, wst q sd X] A s.heap s H locs) e3) hM
    exact x_vret hx hb hr hlocks () hM trivial dX1_feed_47

set_option maxRecDepth 20000 in
theorem ggX1_passOne_X1_bringGifts : GoodIn wsX1_passOne wsX1_bringGifts := goodIn_r _ [6, 7, 1, 8, 9, 10, 5, 11, 12, 13, 14, 15, 16, 17, 18, 19, 20, 21, 22, 23, 24, 25, 26, 27, 28, 29, 30, 31, 32, 33, 34, 35, 75, 76, 77, 78, 79, 80] (by decide +kernel) (by decide +kernel)
set_option maxRecDepth 20000 in
theorem gX1_passOne_X1_bringGifts : GoodIn wsX1_passOne (wsV RX1 102 RX1 yX1_bringGifts wsX1_bringGifts) := goodIn_app (goodIn_of _ (by decide +kernel)) ggX1_passOne_X1_bringGifts
set_option maxRecDepth 20000 in
theorem ggX1_passOne_X1_spoil : GoodIn wsX1_passOne wsX1_spoil := goodIn_r _ [39, 40, 41, 42, 43, 44, 24, 45, 46, 47, 14, 15, 16, 48, 49, 50, 5, 51, 21, 22, 23, 25, 13, 17, 18, 19, 20, 26, 27, 28, 81, 82, 83, 84, 85, 86, 87, 88, 89, 90, 91, 92, 93, 94, 95, 96, 75, 76, 77, 78, 79, 80] (by decide +kernel) (by decide +kernel)
set_option maxRecDepth 20000 in
theorem gX1_passOne_X1_spoil : GoodIn wsX1_passOne (wsV RX1 105 RX1 yX1_spoil wsX1_spoil) := goodIn_app (goodIn_of _ (by decide +kernel)) ggX1_passOne_X1_spoil
set_option maxRecDepth 20000 in
theorem ggX1_passOne_X3_firstOf : GoodIn wsX1_passOne wsX3_firstOf := goodIn_r _ [56, 57, 58, 14, 15, 16, 97, 98, 99] (by decide +kernel) (by decide +kernel)
set_option maxRecDepth 20000 in
theorem gX1_passOne_X3_firstOf : GoodIn wsX1_passOne (wsV RX1 109 RX3 yX3_firstOf wsX3_firstOf) := goodIn_app (goodIn_of _ (by decide +kernel)) ggX1_passOne_X3_firstOf
set_option maxRecDepth 20000 in
theorem ggX1_passOne_X3_eaterAt : GoodIn wsX1_passOne wsX3_eaterAt := goodIn_r _ [62, 63, 58, 14, 15, 16, 97, 98, 99] (by decide +kernel) (by decide +kernel)
set_option maxRecDepth 20000 in
theorem gX1_passOne_X3_eaterAt : GoodIn wsX1_passOne (wsV RX1 114 RX3 yX3_eaterAt wsX3_eaterAt) := goodIn_app (goodIn_of _ (by decide +kernel)) ggX1_passOne_X3_eaterAt
set_option maxRecDepth 20000 in
theorem ggX1_passOne_X1_feed : GoodIn wsX1_passOne wsX1_feed := goodIn_r _ [67, 21, 68, 69, 70, 71, 72, 24, 73, 74, 47, 14, 15, 16, 13, 26, 27, 28, 75, 76, 77, 78, 79, 80, 81, 82, 83, 84, 85, 86, 87, 88, 89, 90, 91, 92, 93, 94, 95, 96] (by decide +kernel) (by decide +kernel)
set_option maxRecDepth 20000 in
theorem gX1_passOne_X1_feed : GoodIn wsX1_passOne (wsV RX1 117 RX1 yX1_feed wsX1_feed) := goodIn_app (goodIn_of _ (by decide +kernel)) ggX1_passOne_X1_feed
theorem dX1_passOne_0 : decode cX1_passOne 0 = .ok (.aload_n 0, 1) := by decide +kernel
theorem dX1_passOne_1 : decode cX1_passOne 1 = .ok (.dup, 1) := by decide +kernel
theorem dX1_passOne_2 : decode cX1_passOne 2 = .ok (.getfield 24, 3) := by decide +kernel
theorem dX1_passOne_5 : decode cX1_passOne 5 = .ok (.iconst 1, 1) := by decide +kernel
theorem dX1_passOne_6 : decode cX1_passOne 6 = .ok (.iadd, 1) := by decide +kernel
theorem dX1_passOne_7 : decode cX1_passOne 7 = .ok (.putfield 24, 3) := by decide +kernel
theorem dX1_passOne_10 : decode cX1_passOne 10 = .ok (.aload_n 0, 1) := by decide +kernel
theorem dX1_passOne_11 : decode cX1_passOne 11 = .ok (.invokevirtual 102, 3) := by decide +kernel
theorem dX1_passOne_14 : decode cX1_passOne 14 = .ok (.aload_n 0, 1) := by decide +kernel
theorem dX1_passOne_15 : decode cX1_passOne 15 = .ok (.getfield 24, 3) := by decide +kernel
theorem dX1_passOne_18 : decode cX1_passOne 18 = .ok (.bipush 10, 2) := by decide +kernel
theorem dX1_passOne_20 : decode cX1_passOne 20 = .ok (.irem, 1) := by decide +kernel
theorem dX1_passOne_21 : decode cX1_passOne 21 = .ok (.ifCond .ne 8, 3) := by decide +kernel
theorem dX1_passOne_24 : decode cX1_passOne 24 = .ok (.aload_n 0, 1) := by decide +kernel
theorem dX1_passOne_25 : decode cX1_passOne 25 = .ok (.aload_n 1, 1) := by decide +kernel
theorem dX1_passOne_26 : decode cX1_passOne 26 = .ok (.invokevirtual 105, 3) := by decide +kernel
theorem dX1_passOne_29 : decode cX1_passOne 29 = .ok (.aload_n 2, 1) := by decide +kernel
theorem dX1_passOne_30 : decode cX1_passOne 30 = .ok (.aload_n 0, 1) := by decide +kernel
theorem dX1_passOne_31 : decode cX1_passOne 31 = .ok (.getfield 24, 3) := by decide +kernel
theorem dX1_passOne_34 : decode cX1_passOne 34 = .ok (.iconst 1, 1) := by decide +kernel
theorem dX1_passOne_35 : decode cX1_passOne 35 = .ok (.iadd, 1) := by decide +kernel
theorem dX1_passOne_36 : decode cX1_passOne 36 = .ok (.invokevirtual 109, 3) := by decide +kernel
theorem dX1_passOne_39 : decode cX1_passOne 39 = .ok (.istore_n 3, 1) := by decide +kernel
theorem dX1_passOne_40 : decode cX1_passOne 40 = .ok (.aload_n 2, 1) := by decide +kernel
theorem dX1_passOne_41 : decode cX1_passOne 41 = .ok (.aload_n 0, 1) := by decide +kernel
theorem dX1_passOne_42 : decode cX1_passOne 42 = .ok (.getfield 24, 3) := by decide +kernel
theorem dX1_passOne_45 : decode cX1_passOne 45 = .ok (.invokevirtual 109, 3) := by decide +kernel
theorem dX1_passOne_48 : decode cX1_passOne 48 = .ok (.istore 4, 2) := by decide +kernel
theorem dX1_passOne_50 : decode cX1_passOne 50 = .ok (.iload 4, 2) := by decide +kernel
theorem dX1_passOne_52 : decode cX1_passOne 52 = .ok (.iload_n 3, 1) := by decide +kernel
theorem dX1_passOne_53 : decode cX1_passOne 53 = .ok (.if_icmp .ge 20, 3) := by decide +kernel
theorem dX1_passOne_56 : decode cX1_passOne 56 = .ok (.aload_n 0, 1) := by decide +kernel
theorem dX1_passOne_57 : decode cX1_passOne 57 = .ok (.aload_n 1, 1) := by decide +kernel
theorem dX1_passOne_58 : decode cX1_passOne 58 = .ok (.aload_n 2, 1) := by decide +kernel
theorem dX1_passOne_59 : decode cX1_passOne 59 = .ok (.iload 4, 2) := by decide +kernel
theorem dX1_passOne_61 : decode cX1_passOne 61 = .ok (.invokevirtual 114, 3) := by decide +kernel
theorem dX1_passOne_64 : decode cX1_passOne 64 = .ok (.invokevirtual 117, 3) := by decide +kernel
theorem dX1_passOne_67 : decode cX1_passOne 67 = .ok (.iinc 4 1, 3) := by decide +kernel
theorem dX1_passOne_70 : decode cX1_passOne 70 = .ok (.goto (-20), 3) := by decide +kernel
theorem dX1_passOne_73 : decode cX1_passOne 73 = .ok (.return_, 1) := by decide +kernel
theorem lkX1_passOne_24 : Cond.fieldLink RX1 24 "LeftAtFive$Kitchens" "minute" "I" ∈ wsX1_passOne := by decide +kernel
theorem iwX1_passOne_X1 : ∀ w ∈ wsX10, w ∈ wsX1_passOne := by decide +kernel
set_option maxHeartbeats 2000000 in
set_option maxRecDepth 100000 in
theorem c_X1_passOne (l : Launch) (D : va_G) (q : Nat → ClassId) (kd : Nat → Nat) (K : Nat → Int32) (sd : Nat → Nat) (X : Nat → Nat → Int32) (md : Nat → Nat) (μ0 : Nat → Int32) (μ1 : Nat → Int32) (μ2 : Int32) (S : Nat → Nat → Int32) (z : Int32) (hT : okT X S) (hMl : okM μ0 μ1 (S 11) (tn (S 8 0)) z) (hK : okK K) (h60 : tn (K 25) < 60) : xC l yX1_passOne wsX1_passOne ({ frames := 3, cells := 0, slots := 0, locals := 68 }) D (TY q) [wk q kd K, wst q sd X, w3 q md μ0 μ1 μ2] [.ref (kd 0), .ref (sd 0), .ref (md 0)] (xQv D (TY q) (fun (_ : Unit) => True) (fun _ => [wk q kd (kGo (S 4) (tn (S 2 0)) (tn (S 5 0)) (S 9) (S 10) (S 11) (tn (S 8 0)) z (K, -4, nI 0)).1, wst q sd X, w3 q md μ0 μ1 μ2])) 0 0 := by
  refine x_enter (cc := cX1_passOne) (maxL := 5) (ret := none) (by decide) rfl (Nat.le_of_ble_eq_true rfl) ?_
  intro p e s m below meth c A ls H locs hfix hr hlocks hinit hM hl
  obtain ⟨hx, hb, hml, hown, hts⟩ := id hfix
  have hl : lv_has ls 5 [(0, .ref (kd 0)), (1, .ref (sd 0)), (2, .ref (md 0))] := hl
  have hTb2 := okT_2b hT
  have hK1 := okK_min hK h60
  have hK2 := okK_come hK1.1
  refine lv_aload_n hx hb dX1_passOne_0 rfl (lv_at hl 0 rfl) ?_
  refine lv_dup hx hb dX1_passOne_1 rfl ?_
  refine x_get hx hb hts iwX1_passOne_X1 hown hM 0 0 rfl rfl rfl 0 (by decide) (hts _ lkX1_passOne_24) (fun _ h => h) rfl dX1_passOne_2 ?_
  refine lv_iconst (v := nI 1) hx hb dX1_passOne_5 (by decide) ?_
  refine lv_iadd hx hb dX1_passOne_6 ?_
  refine x_put hx hb hts iwX1_passOne_X1 tyX1 tyX1_ok nmX1 hown hM 0 0 rfl rfl rfl 0 (by decide) (hts _ lkX1_passOne_24) (fun _ h => h) rfl (ty := .int) (by decide +kernel) rfl rfl (Nat.le_of_ble_eq_true rfl) [wk q kd (upd K 25 ((K 25) + (nI 1))), wst q sd X, w3 q md μ0 μ1 μ2] (congrArg (fun z9 => [z9, wst q sd X, w3 q md μ0 μ1 μ2]) (wk_f0 q kd K ((K 25) + (nI 1)))) dX1_passOne_7 (fun H locs hM => ?_)
  refine lv_aload_n hx hb dX1_passOne_10 rfl (lv_at hl 0 rfl) ?_
  refine x_callv (bc := [wk q kd (upd K 25 ((K 25) + (nI 1)))]) (br := [wst q sd X, w3 q md μ0 μ1 μ2]) hM [0] [1, 2] rfl rfl rfl (by decide) (x_runV (As := []) (rest := []) hfix (c_X1_bringGifts l D q kd (upd K 25 ((K 25) + (nI 1))) hK1.1) (cwV 0 hts gX1_passOne_X1_bringGifts rfl rfl rfl (by decide +kernel) ⟨Nat.le_of_ble_eq_true rfl, Nat.le_of_ble_eq_true rfl⟩) hM [0] rfl rfl 0 0 rfl rfl rfl rfl rfl hl.1 rfl (Nat.le_of_ble_eq_true rfl) dX1_passOne_11 ⟨Nat.le_of_ble_eq_true rfl, Nat.le_of_ble_eq_true rfl⟩) (fun u H locs hq hM => ?_)
  have hM : xM D (TY q) [wst q sd X, w3 q md μ0 μ1 μ2, wk q kd (kCome (upd K 25 ((K 25) + (nI 1))))] A s.heap s H locs := hM
  have hM : xM D (TY q) [wk q kd (kCome (upd K 25 ((K 25) + (nI 1)))), wst q sd X, w3 q md μ0 μ1 μ2] A s.heap s H locs := hM.sel [2, 0, 1] rfl rfl
  refine lv_aload_n hx hb dX1_passOne_14 rfl (lv_at hl 0 rfl) ?_
  refine x_get hx hb hts iwX1_passOne_X1 hown hM 0 0 rfl rfl rfl 0 (by decide) (hts _ lkX1_passOne_24) (fun _ h => h) rfl dX1_passOne_15 ?_
  refine x_cast (y := nI (tn (K 25) + 1)) (hK2.2.trans hK1.2) ?_
  refine lv_bipush (v := nI 10) hx hb dX1_passOne_18 (by decide) ?_
  refine x_irem (x := tn (K 25) + 1) (y := 10) hx hb (by omega) (by omega) (by omega) dX1_passOne_20 ?_
  refine x_join (ι := (Nat → Int32)) (pcJ := 29) (fun j1 => [(0, .ref (kd 0)), (1, .ref (sd 0)), (2, .ref (md 0))]) (fun j1 => [wk q kd j1, wst q sd X, w3 q md μ0 μ1 μ2]) (fun j1 => []) (fun j1 => j1 = (if ¬ ((tn (K 25) + 1) % 10) = 0 then (kCome (upd K 25 ((K 25) + (nI 1)))) else (kSp (S 4) (tn (S 2 0)) (kCome (upd K 25 ((K 25) + (nI 1)))) (tn (S 5 0)) 0))) hM hl ?_ ?_
  · intro j1 hj2 H locs hM ls hl
    have hM : xM D (TY q) [wk q kd j1, wst q sd X, w3 q md μ0 μ1 μ2] A s.heap s H locs := hM
    have hl : lv_has ls 5 [(0, .ref (kd 0)), (1, .ref (sd 0)), (2, .ref (md 0))] := hl
    try dsimp only
    have hj1 : j1 = (if ¬ ((tn (K 25) + 1) % 10) = 0 then (kCome (upd K 25 ((K 25) + (nI 1)))) else (kSp (S 4) (tn (S 2 0)) (kCome (upd K 25 ((K 25) + (nI 1)))) (tn (S 5 0)) 0)) := hj2
    have hj25 : j1 25 = nI (tn (K 25) + 1) := by rw [hj1]; split <;> first | exact (kSp_ge _ _ _ _ _ (by omega)).trans (hK2.2.trans hK1.2) | exact hK2.2.trans hK1.2
    have hms := mb_s (pa := S 11) (z := z) (E := (tn (S 8 0))) (t := tn (K 25) + 1) (by omega)
    have hml := mb_le (pa := S 11) (z := z) hTb2 (tn (K 25) + 1)
    refine lv_aload_n hx hb dX1_passOne_29 rfl (lv_at hl 2 rfl) ?_
    refine lv_aload_n hx hb dX1_passOne_30 rfl (lv_at hl 0 rfl) ?_
    refine x_get hx hb hts iwX1_passOne_X1 hown hM 0 0 rfl rfl rfl 0 (by decide) (hts _ lkX1_passOne_24) (fun _ h => h) rfl dX1_passOne_31 ?_
    refine x_cast (y := nI (tn (K 25) + 1)) hj25 ?_
    refine lv_iconst (v := nI 1) hx hb dX1_passOne_34 (by decide) ?_
    refine x_iadd (x := tn (K 25) + 1) (y := 1) hx hb dX1_passOne_35 ?_
    refine x_calli (bc := [w3 q md μ0 μ1 μ2]) (br := [wk q kd j1, wst q sd X]) hM [2] [0, 1] rfl rfl rfl (by decide) (x_runV (As := [.int (nI (tn (K 25) + 1 + 1))]) (rest := []) hfix (c_X3_firstOf l D q md μ0 μ1 μ2 (tn (K 25) + 1 + 1) (by omega)) (cwV 1 hts gX1_passOne_X3_firstOf rfl rfl rfl (by decide +kernel) ⟨Nat.le_of_ble_eq_true rfl, Nat.le_of_ble_eq_true rfl⟩) hM [2] rfl rfl 2 0 rfl rfl rfl rfl rfl hl.1 rfl (Nat.le_of_ble_eq_true rfl) dX1_passOne_36 ⟨Nat.le_of_ble_eq_true rfl, Nat.le_of_ble_eq_true rfl⟩) (fun r u H locs hq hM => ?_)
    subst hq
    have hM : xM D (TY q) [wk q kd j1, wst q sd X, w3 q md μ0 μ1 μ2] A s.heap s H locs := hM
    refine x_cast (y := nI (mb (S 11) z (tn (S 8 0)) (tn (K 25) + 1 + 1))) (hMl.1 _ (by omega) (by omega)) ?_
    refine lv_istore_n (lv' := [(3, .int (nI (mb (S 11) z (tn (S 8 0)) (tn (K 25) + 1 + 1)))), (0, .ref (kd 0)), (1, .ref (sd 0)), (2, .ref (md 0))]) hx hb dX1_passOne_39 rfl hl (by decide) rfl (fun ls hl => ?_)
    refine lv_aload_n hx hb dX1_passOne_40 rfl (lv_at hl 3 rfl) ?_
    refine lv_aload_n hx hb dX1_passOne_41 rfl (lv_at hl 1 rfl) ?_
    refine x_get hx hb hts iwX1_passOne_X1 hown hM 0 0 rfl rfl rfl 0 (by decide) (hts _ lkX1_passOne_24) (fun _ h => h) rfl dX1_passOne_42 ?_
    refine x_cast (y := nI (tn (K 25) + 1)) hj25 ?_
    refine x_calli (bc := [w3 q md μ0 μ1 μ2]) (br := [wk q kd j1, wst q sd X]) hM [2] [0, 1] rfl rfl rfl (by decide) (x_runV (As := [.int (nI (tn (K 25) + 1))]) (rest := []) hfix (c_X3_firstOf l D q md μ0 μ1 μ2 (tn (K 25) + 1) (by omega)) (cwV 1 hts gX1_passOne_X3_firstOf rfl rfl rfl (by decide +kernel) ⟨Nat.le_of_ble_eq_true rfl, Nat.le_of_ble_eq_true rfl⟩) hM [2] rfl rfl 2 0 rfl rfl rfl rfl rfl hl.1 rfl (Nat.le_of_ble_eq_true rfl) dX1_passOne_45 ⟨Nat.le_of_ble_eq_true rfl, Nat.le_of_ble_eq_true rfl⟩) (fun r u H locs hq hM => ?_)
    subst hq
    have hM : xM D (TY q) [wk q kd j1, wst q sd X, w3 q md μ0 μ1 μ2] A s.heap s H locs := hM
    refine x_cast (y := nI (mb (S 11) z (tn (S 8 0)) (tn (K 25) + 1))) (hMl.1 _ (by omega) (by omega)) ?_
    refine lv_istore (lv' := [(4, .int (nI (mb (S 11) z (tn (S 8 0)) (tn (K 25) + 1)))), (3, .int (nI (mb (S 11) z (tn (S 8 0)) (tn (K 25) + 1 + 1)))), (0, .ref (kd 0)), (1, .ref (sd 0)), (2, .ref (md 0))]) hx hb dX1_passOne_48 hl (by decide) rfl (fun ls hl => ?_)
    have e4 : wk q kd j1 = wk q kd (kFd (S 9) (S 10) μ1 (mb (S 11) z (tn (S 8 0)) (tn (K 25) + 1)) j1 0) := congrArg (wk q kd) (show (j1 : Nat → Int32) = kFd (S 9) (S 10) μ1 (mb (S 11) z (tn (S 8 0)) (tn (K 25) + 1)) j1 0 from by rfl)
    have hM : xM D (TY q) [wk q kd (kFd (S 9) (S 10) μ1 (mb (S 11) z (tn (S 8 0)) (tn (K 25) + 1)) j1 0), wst q sd X, w3 q md μ0 μ1 μ2] A s.heap s H locs := Eq.mp (congrArg (fun z9 => xM D (TY q) [z9, wst q sd X, w3 q md μ0 μ1 μ2] A s.heap s H locs) e4) hM
    refine x_loop (ι := Nat) (fun m9 => [(0, .ref (kd 0)), (1, .ref (sd 0)), (2, .ref (md 0)), (3, .int (nI (mb (S 11) z (tn (S 8 0)) (tn (K 25) + 1 + 1)))), (4, .int (nI (mb (S 11) z (tn (S 8 0)) (tn (K 25) + 1) + m9)))]) (fun m9 => [wk q kd (kFd (S 9) (S 10) μ1 (mb (S 11) z (tn (S 8 0)) (tn (K 25) + 1)) j1 m9), wst q sd X, w3 q md μ0 μ1 μ2]) (fun m9 => m9 ≤ mc (S 11) z (tn (K 25) + 1) (tn (S 8 0))) (fun m9 => mc (S 11) z (tn (K 25) + 1) (tn (S 8 0)) - m9) 0 (by omega) hM (lv_sub hl [2, 3, 4, 1, 0] rfl) ?_
    intro m9 hI6 ih5 H locs hM ls hl
    have hM : xM D (TY q) [wk q kd (kFd (S 9) (S 10) μ1 (mb (S 11) z (tn (S 8 0)) (tn (K 25) + 1)) j1 m9), wst q sd X, w3 q md μ0 μ1 μ2] A s.heap s H locs := hM
    have hl : lv_has ls 5 [(0, .ref (kd 0)), (1, .ref (sd 0)), (2, .ref (md 0)), (3, .int (nI (mb (S 11) z (tn (S 8 0)) (tn (K 25) + 1 + 1)))), (4, .int (nI (mb (S 11) z (tn (S 8 0)) (tn (K 25) + 1) + m9)))] := hl
    have hI6 : m9 ≤ mc (S 11) z (tn (K 25) + 1) (tn (S 8 0)) := hI6
    try dsimp only
    refine lv_iload hx hb dX1_passOne_50 (lv_at hl 4 rfl) ?_
    refine lv_iload_n hx hb dX1_passOne_52 rfl (lv_at hl 3 rfl) ?_
    refine x_icmp_ge (x := mb (S 11) z (tn (S 8 0)) (tn (K 25) + 1) + m9) (y := mb (S 11) z (tn (S 8 0)) (tn (K 25) + 1 + 1)) (tgt := 73) hx hb (by omega) (by omega) dX1_passOne_53 (by decide) (fun c7 => ?_) (fun c7 => ?_)
    · have e8 : wk q kd (kFd (S 9) (S 10) μ1 (mb (S 11) z (tn (S 8 0)) (tn (K 25) + 1)) j1 m9) = wk q kd (kGo (S 4) (tn (S 2 0)) (tn (S 5 0)) (S 9) (S 10) (S 11) (tn (S 8 0)) z (K, -4, nI 0)).1 := congrArg (wk q kd) (show (kFd (S 9) (S 10) μ1 (mb (S 11) z (tn (S 8 0)) (tn (K 25) + 1)) j1 m9 : Nat → Int32) = (kGo (S 4) (tn (S 2 0)) (tn (S 5 0)) (S 9) (S 10) (S 11) (tn (S 8 0)) z (K, -4, nI 0)).1 from by (rw [show m9 = mc (S 11) z (tn (K 25) + 1) (tn (S 8 0)) by omega, kFd_mc hMl (by omega) (by omega) hTb2 (-4) (nI 0) (tn (S 8 0)) (Nat.le_refl _)]; unfold kGo; rw [hj1]; by_cases h10 : (tn (K 25) + 1) % 10 = 0 <;> simp only [h10, if_true, if_false, not_true, not_false_iff, ite_true, ite_false] <;> rfl))
      have hM : xM D (TY q) [wk q kd (kGo (S 4) (tn (S 2 0)) (tn (S 5 0)) (S 9) (S 10) (S 11) (tn (S 8 0)) z (K, -4, nI 0)).1, wst q sd X, w3 q md μ0 μ1 μ2] A s.heap s H locs := Eq.mp (congrArg (fun z9 => xM D (TY q) [z9, wst q sd X, w3 q md μ0 μ1 μ2] A s.heap s H locs) e8) hM
      exact x_vret hx hb hr hlocks () hM trivial dX1_passOne_73
    · refine lv_aload_n hx hb dX1_passOne_56 rfl (lv_at hl 0 rfl) ?_
      refine lv_aload_n hx hb dX1_passOne_57 rfl (lv_at hl 1 rfl) ?_
      refine lv_aload_n hx hb dX1_passOne_58 rfl (lv_at hl 2 rfl) ?_
      refine lv_iload hx hb dX1_passOne_59 (lv_at hl 4 rfl) ?_
      refine x_calli (bc := [w3 q md μ0 μ1 μ2]) (br := [wk q kd (kFd (S 9) (S 10) μ1 (mb (S 11) z (tn (S 8 0)) (tn (K 25) + 1)) j1 m9), wst q sd X]) hM [2] [0, 1] rfl rfl rfl (by decide) (x_runV (As := [.int (nI (mb (S 11) z (tn (S 8 0)) (tn (K 25) + 1) + m9))]) (rest := [.ref (sd 0), .ref (kd 0)]) hfix (c_X3_eaterAt l D q md μ0 μ1 μ2 (mb (S 11) z (tn (S 8 0)) (tn (K 25) + 1) + m9) (by omega)) (cwV 1 hts gX1_passOne_X3_eaterAt rfl rfl rfl (by decide +kernel) ⟨Nat.le_of_ble_eq_true rfl, Nat.le_of_ble_eq_true rfl⟩) hM [2] rfl rfl 2 0 rfl rfl rfl rfl rfl hl.1 rfl (Nat.le_of_ble_eq_true rfl) dX1_passOne_61 ⟨Nat.le_of_ble_eq_true rfl, Nat.le_of_ble_eq_true rfl⟩) (fun r u H locs hq hM => ?_)
      subst hq
      have hM : xM D (TY q) [wk q kd (kFd (S 9) (S 10) μ1 (mb (S 11) z (tn (S 8 0)) (tn (K 25) + 1)) j1 m9), wst q sd X, w3 q md μ0 μ1 μ2] A s.heap s H locs := hM
      refine x_cast (y := nI (tn (μ1 (mb (S 11) z (tn (S 8 0)) (tn (K 25) + 1) + m9)))) (okM_who hMl (by omega) (by omega) (by omega) hTb2).1 ?_
      refine x_callv (bc := [wk q kd (kFd (S 9) (S 10) μ1 (mb (S 11) z (tn (S 8 0)) (tn (K 25) + 1)) j1 m9), wst q sd X]) (br := [w3 q md μ0 μ1 μ2]) hM [0, 1] [2] rfl rfl rfl (by decide) (x_runV (As := [.ref (sd 0), .int (nI (tn (μ1 (mb (S 11) z (tn (S 8 0)) (tn (K 25) + 1) + m9))))]) (rest := []) hfix (c_X1_feed l D q kd (kFd (S 9) (S 10) μ1 (mb (S 11) z (tn (S 8 0)) (tn (K 25) + 1)) j1 m9) sd X S (tn (μ1 (mb (S 11) z (tn (S 8 0)) (tn (K 25) + 1) + m9))) hT (okM_who hMl (by omega) (by omega) (by omega) hTb2).2) (cwV 2 hts gX1_passOne_X1_feed rfl rfl rfl (by decide +kernel) ⟨Nat.le_of_ble_eq_true rfl, Nat.le_of_ble_eq_true rfl⟩) hM [0, 1] rfl rfl 0 0 rfl rfl rfl rfl rfl hl.1 rfl (Nat.le_of_ble_eq_true rfl) dX1_passOne_64 ⟨Nat.le_of_ble_eq_true rfl, Nat.le_of_ble_eq_true rfl⟩) (fun u H locs hq hM => ?_)
      have hM : xM D (TY q) [w3 q md μ0 μ1 μ2, wk q kd (kE1 (S 9) (S 10) (tn (μ1 (mb (S 11) z (tn (S 8 0)) (tn (K 25) + 1) + m9))) (kFd (S 9) (S 10) μ1 (mb (S 11) z (tn (S 8 0)) (tn (K 25) + 1)) j1 m9)), wst q sd X] A s.heap s H locs := hM
      have hM : xM D (TY q) [wk q kd (kE1 (S 9) (S 10) (tn (μ1 (mb (S 11) z (tn (S 8 0)) (tn (K 25) + 1) + m9))) (kFd (S 9) (S 10) μ1 (mb (S 11) z (tn (S 8 0)) (tn (K 25) + 1)) j1 m9)), wst q sd X, w3 q md μ0 μ1 μ2] A s.heap s H locs := hM.sel [1, 2, 0] rfl rfl
      refine lv_iinc (v := nI (mb (S 11) z (tn (S 8 0)) (tn (K 25) + 1) + m9 + 1)) (lv' := [(4, .int (nI (mb (S 11) z (tn (S 8 0)) (tn (K 25) + 1) + m9 + 1))), (0, .ref (kd 0)), (1, .ref (sd 0)), (2, .ref (md 0)), (3, .int (nI (mb (S 11) z (tn (S 8 0)) (tn (K 25) + 1 + 1))))]) hx hb dX1_passOne_67 hl (k := 4) rfl (x_inc _ 1) (by decide) rfl (fun ls hl => ?_)
      refine lv_goto (tgt := 50) hx hb dX1_passOne_70 (by decide) ?_
      have e9 : wk q kd (kE1 (S 9) (S 10) (tn (μ1 (mb (S 11) z (tn (S 8 0)) (tn (K 25) + 1) + m9))) (kFd (S 9) (S 10) μ1 (mb (S 11) z (tn (S 8 0)) (tn (K 25) + 1)) j1 m9)) = wk q kd (kFd (S 9) (S 10) μ1 (mb (S 11) z (tn (S 8 0)) (tn (K 25) + 1)) j1 (m9 + 1)) := congrArg (wk q kd) (show (kE1 (S 9) (S 10) (tn (μ1 (mb (S 11) z (tn (S 8 0)) (tn (K 25) + 1) + m9))) (kFd (S 9) (S 10) μ1 (mb (S 11) z (tn (S 8 0)) (tn (K 25) + 1)) j1 m9) : Nat → Int32) = kFd (S 9) (S 10) μ1 (mb (S 11) z (tn (S 8 0)) (tn (K 25) + 1)) j1 (m9 + 1) from by rfl)
      have hM : xM D (TY q) [wk q kd (kFd (S 9) (S 10) μ1 (mb (S 11) z (tn (S 8 0)) (tn (K 25) + 1)) j1 (m9 + 1)), wst q sd X, w3 q md μ0 μ1 μ2] A s.heap s H locs := Eq.mp (congrArg (fun z9 => xM D (TY q) [z9, wst q sd X, w3 q md μ0 μ1 μ2] A s.heap s H locs) e9) hM
      have hl : lv_has ls 5 [(0, .ref (kd 0)), (1, .ref (sd 0)), (2, .ref (md 0)), (3, .int (nI (mb (S 11) z (tn (S 8 0)) (tn (K 25) + 1 + 1)))), (4, .int (nI (mb (S 11) z (tn (S 8 0)) (tn (K 25) + 1) + m9 + 1)))] := lv_sub hl [1, 2, 3, 4, 0] rfl
      exact ih5 (m9 + 1) (show mc (S 11) z (tn (K 25) + 1) (tn (S 8 0)) - (m9 + 1) < mc (S 11) z (tn (K 25) + 1) (tn (S 8 0)) - m9 from by omega) (show (m9 + 1) ≤ mc (S 11) z (tn (K 25) + 1) (tn (S 8 0)) from by omega) _ _ hM _ hl
  · intro hJ10 H locs hM ls hl
    refine x_if_ne (x := (tn (K 25) + 1) % 10) (tgt := 29) hx hb (by omega) dX1_passOne_21 (by decide) (fun c11 => ?_) (fun c11 => ?_)
    · exact hJ10 (kCome (upd K 25 ((K 25) + (nI 1)))) (show (kCome (upd K 25 ((K 25) + (nI 1)))) = (if ¬ ((tn (K 25) + 1) % 10) = 0 then (kCome (upd K 25 ((K 25) + (nI 1)))) else (kSp (S 4) (tn (S 2 0)) (kCome (upd K 25 ((K 25) + (nI 1)))) (tn (S 5 0)) 0)) from by (repeat' split) <;> first | rfl | contradiction | omega | simp_all) _ _ hM _ (lv_sub hl [0, 1, 2] rfl)
    · refine lv_aload_n hx hb dX1_passOne_24 rfl (lv_at hl 0 rfl) ?_
      refine lv_aload_n hx hb dX1_passOne_25 rfl (lv_at hl 1 rfl) ?_
      refine x_callv (bc := [wk q kd (kCome (upd K 25 ((K 25) + (nI 1)))), wst q sd X]) (br := [w3 q md μ0 μ1 μ2]) hM [0, 1] [2] rfl rfl rfl (by decide) (x_runV (As := [.ref (sd 0)]) (rest := []) hfix (c_X1_spoil l D q kd (kCome (upd K 25 ((K 25) + (nI 1)))) sd X S hT) (cwV 1 hts gX1_passOne_X1_spoil rfl rfl rfl (by decide +kernel) ⟨Nat.le_of_ble_eq_true rfl, Nat.le_of_ble_eq_true rfl⟩) hM [0, 1] rfl rfl 0 0 rfl rfl rfl rfl rfl hl.1 rfl (Nat.le_of_ble_eq_true rfl) dX1_passOne_26 ⟨Nat.le_of_ble_eq_true rfl, Nat.le_of_ble_eq_true rfl⟩) (fun u H locs hq hM => ?_)
      have hM : xM D (TY q) [w3 q md μ0 μ1 μ2, wk q kd (kSp (S 4) (tn (S 2 0)) (kCome (upd K 25 ((K 25) + (nI 1)))) (tn (S 5 0)) 0), wst q sd X] A s.heap s H locs := hM
      have hM : xM D (TY q) [wk q kd (kSp (S 4) (tn (S 2 0)) (kCome (upd K 25 ((K 25) + (nI 1)))) (tn (S 5 0)) 0), wst q sd X, w3 q md μ0 μ1 μ2] A s.heap s H locs := hM.sel [1, 2, 0] rfl rfl
      exact hJ10 (kSp (S 4) (tn (S 2 0)) (kCome (upd K 25 ((K 25) + (nI 1)))) (tn (S 5 0)) 0) (show (kSp (S 4) (tn (S 2 0)) (kCome (upd K 25 ((K 25) + (nI 1)))) (tn (S 5 0)) 0) = (if ¬ ((tn (K 25) + 1) % 10) = 0 then (kCome (upd K 25 ((K 25) + (nI 1)))) else (kSp (S 4) (tn (S 2 0)) (kCome (upd K 25 ((K 25) + (nI 1)))) (tn (S 5 0)) 0)) from by (repeat' split) <;> first | rfl | contradiction | omega | simp_all) _ _ hM _ (lv_sub hl [0, 1, 2] rfl)

set_option maxRecDepth 20000 in
theorem ggX1_passUntil_X1_passOne : GoodIn wsX1_passUntil wsX1_passOne := goodIn_r _ [6, 1, 7, 8, 9, 5, 10, 11, 12, 13, 14, 15, 16, 17, 18, 19, 20, 21, 22, 23, 24, 25, 26, 27, 28, 29, 30, 31, 32, 33, 34, 35, 36, 37, 38, 39, 40, 41, 42, 43, 44, 45, 46, 47, 48, 49, 50, 51, 52, 53, 54, 55, 56, 57, 58, 59, 60, 61, 62, 63, 64, 65, 66, 67, 68, 69, 70, 71, 72, 73, 74, 75, 76, 77, 78, 79, 80, 81, 82, 83, 84, 85, 86, 87, 88, 89, 90, 91, 92, 93, 94, 95, 96, 97, 98, 99, 100, 101, 102, 103] (by decide +kernel) (by decide +kernel)
set_option maxRecDepth 20000 in
theorem gX1_passUntil_X1_passOne : GoodIn wsX1_passUntil (wsV RX1 98 RX1 yX1_passOne wsX1_passOne) := goodIn_app (goodIn_of _ (by decide +kernel)) ggX1_passUntil_X1_passOne
theorem dX1_passUntil_0 : decode cX1_passUntil 0 = .ok (.iload_n 1, 1) := by decide +kernel
theorem dX1_passUntil_1 : decode cX1_passUntil 1 = .ok (.aload_n 0, 1) := by decide +kernel
theorem dX1_passUntil_2 : decode cX1_passUntil 2 = .ok (.getfield 24, 3) := by decide +kernel
theorem dX1_passUntil_5 : decode cX1_passUntil 5 = .ok (.isub, 1) := by decide +kernel
theorem dX1_passUntil_6 : decode cX1_passUntil 6 = .ok (.istore 4, 2) := by decide +kernel
theorem dX1_passUntil_8 : decode cX1_passUntil 8 = .ok (.iconst 0, 1) := by decide +kernel
theorem dX1_passUntil_9 : decode cX1_passUntil 9 = .ok (.istore 5, 2) := by decide +kernel
theorem dX1_passUntil_11 : decode cX1_passUntil 11 = .ok (.iload 5, 2) := by decide +kernel
theorem dX1_passUntil_13 : decode cX1_passUntil 13 = .ok (.iload 4, 2) := by decide +kernel
theorem dX1_passUntil_15 : decode cX1_passUntil 15 = .ok (.if_icmp .ge 15, 3) := by decide +kernel
theorem dX1_passUntil_18 : decode cX1_passUntil 18 = .ok (.aload_n 0, 1) := by decide +kernel
theorem dX1_passUntil_19 : decode cX1_passUntil 19 = .ok (.aload_n 2, 1) := by decide +kernel
theorem dX1_passUntil_20 : decode cX1_passUntil 20 = .ok (.aload_n 3, 1) := by decide +kernel
theorem dX1_passUntil_21 : decode cX1_passUntil 21 = .ok (.invokevirtual 98, 3) := by decide +kernel
theorem dX1_passUntil_24 : decode cX1_passUntil 24 = .ok (.iinc 5 1, 3) := by decide +kernel
theorem dX1_passUntil_27 : decode cX1_passUntil 27 = .ok (.goto (-16), 3) := by decide +kernel
theorem dX1_passUntil_30 : decode cX1_passUntil 30 = .ok (.return_, 1) := by decide +kernel
theorem lkX1_passUntil_24 : Cond.fieldLink RX1 24 "LeftAtFive$Kitchens" "minute" "I" ∈ wsX1_passUntil := by decide +kernel
theorem iwX1_passUntil_X1 : ∀ w ∈ wsX10, w ∈ wsX1_passUntil := by decide +kernel
set_option maxHeartbeats 2000000 in
set_option maxRecDepth 100000 in
theorem c_X1_passUntil (l : Launch) (D : va_G) (q : Nat → ClassId) (kd : Nat → Nat) (K : Nat → Int32) (sd : Nat → Nat) (X : Nat → Nat → Int32) (md : Nat → Nat) (μ0 : Nat → Int32) (μ1 : Nat → Int32) (μ2 : Int32) (S : Nat → Nat → Int32) (z : Int32) (e9 : Nat) (hT : okT X S) (hMl : okM μ0 μ1 (S 11) (tn (S 8 0)) z) (hK : okK K) (he9 : tn (K 25) ≤ e9 ∧ e9 ≤ 60) : xC l yX1_passUntil wsX1_passUntil ({ frames := 4, cells := 0, slots := 0, locals := 92 }) D (TY q) [wk q kd K, wst q sd X, w3 q md μ0 μ1 μ2] [.ref (kd 0), .int (nI e9), .ref (sd 0), .ref (md 0)] (xQv D (TY q) (fun (_ : Unit) => True) (fun _ => [wk q kd (kGoN (S 4) (tn (S 2 0)) (tn (S 5 0)) (S 9) (S 10) (S 11) (tn (S 8 0)) z (K, -4, nI 0) (e9 - tn (K 25))).1, wst q sd X, w3 q md μ0 μ1 μ2])) 0 0 := by
  refine x_enter (cc := cX1_passUntil) (maxL := 6) (ret := none) (by decide) rfl (Nat.le_of_ble_eq_true rfl) ?_
  intro p e s m below meth c A ls H locs hfix hr hlocks hinit hM hl
  obtain ⟨hx, hb, hml, hown, hts⟩ := id hfix
  have hl : lv_has ls 6 [(0, .ref (kd 0)), (1, .int (nI e9)), (2, .ref (sd 0)), (3, .ref (md 0))] := hl
  refine lv_iload_n hx hb dX1_passUntil_0 rfl (lv_at hl 1 rfl) ?_
  refine lv_aload_n hx hb dX1_passUntil_1 rfl (lv_at hl 0 rfl) ?_
  refine x_get hx hb hts iwX1_passUntil_X1 hown hM 0 0 rfl rfl rfl 0 (by decide) (hts _ lkX1_passUntil_24) (fun _ h => h) rfl dX1_passUntil_2 ?_
  refine x_cast (y := nI (tn (K 25))) hK.1.1 ?_
  refine x_isub (x := e9) (y := tn (K 25)) hx hb (by omega) dX1_passUntil_5 ?_
  refine lv_istore (lv' := [(4, .int (nI (e9 - (tn (K 25))))), (0, .ref (kd 0)), (1, .int (nI e9)), (2, .ref (sd 0)), (3, .ref (md 0))]) hx hb dX1_passUntil_6 hl (by decide) rfl (fun ls hl => ?_)
  refine lv_iconst (v := nI 0) hx hb dX1_passUntil_8 (by decide) ?_
  refine lv_istore (lv' := [(5, .int (nI 0)), (4, .int (nI (e9 - (tn (K 25))))), (0, .ref (kd 0)), (1, .int (nI e9)), (2, .ref (sd 0)), (3, .ref (md 0))]) hx hb dX1_passUntil_9 hl (by decide) rfl (fun ls hl => ?_)
  have e2 : wk q kd K = wk q kd (kGoN (S 4) (tn (S 2 0)) (tn (S 5 0)) (S 9) (S 10) (S 11) (tn (S 8 0)) z (K, -4, nI 0) 0).1 := congrArg (wk q kd) (show (K : Nat → Int32) = (kGoN (S 4) (tn (S 2 0)) (tn (S 5 0)) (S 9) (S 10) (S 11) (tn (S 8 0)) z (K, -4, nI 0) 0).1 from by rfl)
  have hM : xM D (TY q) [wk q kd (kGoN (S 4) (tn (S 2 0)) (tn (S 5 0)) (S 9) (S 10) (S 11) (tn (S 8 0)) z (K, -4, nI 0) 0).1, wst q sd X, w3 q md μ0 μ1 μ2] A s.heap s H locs := Eq.mp (congrArg (fun z9 => xM D (TY q) [z9, wst q sd X, w3 q md μ0 μ1 μ2] A s.heap s H locs) e2) hM
  refine x_loop (ι := Nat) (fun k => [(0, .ref (kd 0)), (1, .int (nI e9)), (2, .ref (sd 0)), (3, .ref (md 0)), (4, .int (nI (e9 - (tn (K 25))))), (5, .int (nI k))]) (fun k => [wk q kd (kGoN (S 4) (tn (S 2 0)) (tn (S 5 0)) (S 9) (S 10) (S 11) (tn (S 8 0)) z (K, -4, nI 0) k).1, wst q sd X, w3 q md μ0 μ1 μ2]) (fun k => k ≤ e9 - tn (K 25)) (fun k => e9 - tn (K 25) - k) 0 (by omega) hM (lv_sub hl [2, 3, 4, 5, 1, 0] rfl) ?_
  intro k hI4 ih3 H locs hM ls hl
  have hM : xM D (TY q) [wk q kd (kGoN (S 4) (tn (S 2 0)) (tn (S 5 0)) (S 9) (S 10) (S 11) (tn (S 8 0)) z (K, -4, nI 0) k).1, wst q sd X, w3 q md μ0 μ1 μ2] A s.heap s H locs := hM
  have hl : lv_has ls 6 [(0, .ref (kd 0)), (1, .int (nI e9)), (2, .ref (sd 0)), (3, .ref (md 0)), (4, .int (nI (e9 - (tn (K 25))))), (5, .int (nI k))] := hl
  have hI4 : k ≤ e9 - tn (K 25) := hI4
  try dsimp only
  refine lv_iload hx hb dX1_passUntil_11 (lv_at hl 5 rfl) ?_
  refine lv_iload hx hb dX1_passUntil_13 (lv_at hl 4 rfl) ?_
  refine x_icmp_ge (x := k) (y := e9 - (tn (K 25))) (tgt := 30) hx hb (by omega) (by omega) dX1_passUntil_15 (by decide) (fun c5 => ?_) (fun c5 => ?_)
  · have e6 : wk q kd (kGoN (S 4) (tn (S 2 0)) (tn (S 5 0)) (S 9) (S 10) (S 11) (tn (S 8 0)) z (K, -4, nI 0) k).1 = wk q kd (kGoN (S 4) (tn (S 2 0)) (tn (S 5 0)) (S 9) (S 10) (S 11) (tn (S 8 0)) z (K, -4, nI 0) (e9 - tn (K 25))).1 := congrArg (wk q kd) (show ((kGoN (S 4) (tn (S 2 0)) (tn (S 5 0)) (S 9) (S 10) (S 11) (tn (S 8 0)) z (K, -4, nI 0) k).1 : Nat → Int32) = (kGoN (S 4) (tn (S 2 0)) (tn (S 5 0)) (S 9) (S 10) (S 11) (tn (S 8 0)) z (K, -4, nI 0) (e9 - tn (K 25))).1 from by (rw [show k = e9 - tn (K 25) by omega]))
    have hM : xM D (TY q) [wk q kd (kGoN (S 4) (tn (S 2 0)) (tn (S 5 0)) (S 9) (S 10) (S 11) (tn (S 8 0)) z (K, -4, nI 0) (e9 - tn (K 25))).1, wst q sd X, w3 q md μ0 μ1 μ2] A s.heap s H locs := Eq.mp (congrArg (fun z9 => xM D (TY q) [z9, wst q sd X, w3 q md μ0 μ1 μ2] A s.heap s H locs) e6) hM
    exact x_vret hx hb hr hlocks () hM trivial dX1_passUntil_30
  · refine lv_aload_n hx hb dX1_passUntil_18 rfl (lv_at hl 0 rfl) ?_
    refine lv_aload_n hx hb dX1_passUntil_19 rfl (lv_at hl 2 rfl) ?_
    refine lv_aload_n hx hb dX1_passUntil_20 rfl (lv_at hl 3 rfl) ?_
    refine x_callv (bc := [wk q kd (kGoN (S 4) (tn (S 2 0)) (tn (S 5 0)) (S 9) (S 10) (S 11) (tn (S 8 0)) z (K, -4, nI 0) k).1, wst q sd X, w3 q md μ0 μ1 μ2]) (br := []) hM [0, 1, 2] [] rfl rfl rfl (by decide) (x_runV (As := [.ref (sd 0), .ref (md 0)]) (rest := []) hfix (c_X1_passOne l D q kd (kGoN (S 4) (tn (S 2 0)) (tn (S 5 0)) (S 9) (S 10) (S 11) (tn (S 8 0)) z (K, -4, nI 0) k).1 sd X md μ0 μ1 μ2 S z hT hMl (okK_goM (kd := S 4) (G := (tn (S 2 0))) (nH := (tn (S 5 0))) (z := z) (w := -4) (hu := nI 0) (okT_E hT) hK k (by omega)).1 (by rw [(okK_goM (kd := S 4) (G := (tn (S 2 0))) (nH := (tn (S 5 0))) (z := z) (w := -4) (hu := nI 0) (okT_E hT) hK k (by omega)).2, tn_nI (by omega)]; omega)) (cwV 2 hts gX1_passUntil_X1_passOne rfl rfl rfl (by decide +kernel) ⟨Nat.le_of_ble_eq_true rfl, Nat.le_of_ble_eq_true rfl⟩) hM [0, 1, 2] rfl rfl 0 0 rfl rfl rfl rfl rfl hl.1 rfl (Nat.le_of_ble_eq_true rfl) dX1_passUntil_21 ⟨Nat.le_of_ble_eq_true rfl, Nat.le_of_ble_eq_true rfl⟩) (fun u H locs hq hM => ?_)
    have hM : xM D (TY q) [wk q kd (kGo (S 4) (tn (S 2 0)) (tn (S 5 0)) (S 9) (S 10) (S 11) (tn (S 8 0)) z ((kGoN (S 4) (tn (S 2 0)) (tn (S 5 0)) (S 9) (S 10) (S 11) (tn (S 8 0)) z (K, -4, nI 0) k).1, -4, nI 0)).1, wst q sd X, w3 q md μ0 μ1 μ2] A s.heap s H locs := hM
    refine lv_iinc (v := nI (k + 1)) (lv' := [(5, .int (nI (k + 1))), (0, .ref (kd 0)), (1, .int (nI e9)), (2, .ref (sd 0)), (3, .ref (md 0)), (4, .int (nI (e9 - (tn (K 25)))))]) hx hb dX1_passUntil_24 hl (k := 5) rfl (x_inc _ 1) (by decide) rfl (fun ls hl => ?_)
    refine lv_goto (tgt := 11) hx hb dX1_passUntil_27 (by decide) ?_
    have e7 : wk q kd (kGo (S 4) (tn (S 2 0)) (tn (S 5 0)) (S 9) (S 10) (S 11) (tn (S 8 0)) z ((kGoN (S 4) (tn (S 2 0)) (tn (S 5 0)) (S 9) (S 10) (S 11) (tn (S 8 0)) z (K, -4, nI 0) k).1, -4, nI 0)).1 = wk q kd (kGoN (S 4) (tn (S 2 0)) (tn (S 5 0)) (S 9) (S 10) (S 11) (tn (S 8 0)) z (K, -4, nI 0) (k + 1)).1 := congrArg (wk q kd) (show ((kGo (S 4) (tn (S 2 0)) (tn (S 5 0)) (S 9) (S 10) (S 11) (tn (S 8 0)) z ((kGoN (S 4) (tn (S 2 0)) (tn (S 5 0)) (S 9) (S 10) (S 11) (tn (S 8 0)) z (K, -4, nI 0) k).1, -4, nI 0)).1 : Nat → Int32) = (kGoN (S 4) (tn (S 2 0)) (tn (S 5 0)) (S 9) (S 10) (S 11) (tn (S 8 0)) z (K, -4, nI 0) (k + 1)).1 from by exact kGo_x1 _)
    have hM : xM D (TY q) [wk q kd (kGoN (S 4) (tn (S 2 0)) (tn (S 5 0)) (S 9) (S 10) (S 11) (tn (S 8 0)) z (K, -4, nI 0) (k + 1)).1, wst q sd X, w3 q md μ0 μ1 μ2] A s.heap s H locs := Eq.mp (congrArg (fun z9 => xM D (TY q) [z9, wst q sd X, w3 q md μ0 μ1 μ2] A s.heap s H locs) e7) hM
    have hl : lv_has ls 6 [(0, .ref (kd 0)), (1, .int (nI e9)), (2, .ref (sd 0)), (3, .ref (md 0)), (4, .int (nI (e9 - (tn (K 25))))), (5, .int (nI (k + 1)))] := lv_sub hl [1, 2, 3, 4, 5, 0] rfl
    exact ih3 (k + 1) (show e9 - tn (K 25) - (k + 1) < e9 - tn (K 25) - k from by omega) (show (k + 1) ≤ e9 - tn (K 25) from by omega) _ _ hM _ hl

set_option maxRecDepth 20000 in
theorem ggX1_hungrierThan_X1_hungerOf : GoodIn wsX1_hungrierThan wsX1_hungerOf := goodIn_r _ [5, 6, 7, 8, 9, 10, 11, 12, 13, 14, 15, 16] (by decide +kernel) (by decide +kernel)
set_option maxRecDepth 20000 in
theorem gX1_hungrierThan_X1_hungerOf : GoodIn wsX1_hungrierThan (wsV RX1 135 RX1 yX1_hungerOf wsX1_hungerOf) := goodIn_app (goodIn_of _ (by decide +kernel)) ggX1_hungrierThan_X1_hungerOf
theorem dX1_hungrierThan_0 : decode cX1_hungrierThan 0 = .ok (.iconst 0, 1) := by decide +kernel
theorem dX1_hungrierThan_1 : decode cX1_hungrierThan 1 = .ok (.istore_n 2, 1) := by decide +kernel
theorem dX1_hungrierThan_2 : decode cX1_hungrierThan 2 = .ok (.iload_n 2, 1) := by decide +kernel
theorem dX1_hungrierThan_3 : decode cX1_hungrierThan 3 = .ok (.bipush 8, 2) := by decide +kernel
theorem dX1_hungrierThan_5 : decode cX1_hungrierThan 5 = .ok (.if_icmp .ge 24, 3) := by decide +kernel
theorem dX1_hungrierThan_8 : decode cX1_hungrierThan 8 = .ok (.aload_n 0, 1) := by decide +kernel
theorem dX1_hungrierThan_9 : decode cX1_hungrierThan 9 = .ok (.iload_n 2, 1) := by decide +kernel
theorem dX1_hungrierThan_10 : decode cX1_hungrierThan 10 = .ok (.invokevirtual 135, 3) := by decide +kernel
theorem dX1_hungrierThan_13 : decode cX1_hungrierThan 13 = .ok (.aload_n 1, 1) := by decide +kernel
theorem dX1_hungrierThan_14 : decode cX1_hungrierThan 14 = .ok (.iload_n 2, 1) := by decide +kernel
theorem dX1_hungrierThan_15 : decode cX1_hungrierThan 15 = .ok (.invokevirtual 135, 3) := by decide +kernel
theorem dX1_hungrierThan_18 : decode cX1_hungrierThan 18 = .ok (.if_icmp .le 5, 3) := by decide +kernel
theorem dX1_hungrierThan_21 : decode cX1_hungrierThan 21 = .ok (.iload_n 2, 1) := by decide +kernel
theorem dX1_hungrierThan_22 : decode cX1_hungrierThan 22 = .ok (.ireturn, 1) := by decide +kernel
theorem dX1_hungrierThan_23 : decode cX1_hungrierThan 23 = .ok (.iinc 2 1, 3) := by decide +kernel
theorem dX1_hungrierThan_26 : decode cX1_hungrierThan 26 = .ok (.goto (-24), 3) := by decide +kernel
theorem dX1_hungrierThan_29 : decode cX1_hungrierThan 29 = .ok (.iconst (-1), 1) := by decide +kernel
theorem dX1_hungrierThan_30 : decode cX1_hungrierThan 30 = .ok (.ireturn, 1) := by decide +kernel
set_option maxHeartbeats 2000000 in
set_option maxRecDepth 100000 in
theorem c_X1_hungrierThan (l : Launch) (D : va_G) (q : Nat → ClassId) (kd : Nat → Nat) (K : Nat → Int32) (fd : Nat → Nat) (F : Nat → Int32) : xC l yX1_hungrierThan wsX1_hungrierThan ({ frames := 2, cells := 0, slots := 0, locals := 42 }) D (TY q) [wk q kd K, wk q fd F] [.ref (kd 0), .ref (fd 0)] (xQi D (TY q) (fun (r : Int32) (_ : Unit) => r = xhun K F 8) (fun _ => [wk q kd K, wk q fd F])) 0 0 := by
  refine x_enter (cc := cX1_hungrierThan) (maxL := 3) (ret := (some .int)) (by decide) rfl (Nat.le_of_ble_eq_true rfl) ?_
  intro p e s m below meth c A ls H locs hfix hr hlocks hinit hM hl
  obtain ⟨hx, hb, hml, hown, hts⟩ := id hfix
  have hl : lv_has ls 3 [(0, .ref (kd 0)), (1, .ref (fd 0))] := hl
  refine lv_iconst (v := nI 0) hx hb dX1_hungrierThan_0 (by decide) ?_
  refine lv_istore_n (lv' := [(2, .int (nI 0)), (0, .ref (kd 0)), (1, .ref (fd 0))]) hx hb dX1_hungrierThan_1 rfl hl (by decide) rfl (fun ls hl => ?_)
  refine x_loop (ι := Nat) (fun i => [(0, .ref (kd 0)), (1, .ref (fd 0)), (2, .int (nI i))]) (fun i => [wk q kd K, wk q fd F]) (fun i => i ≤ 8 ∧ (∀ j, j < i → ¬ F (59 + j) < K (59 + j))) (fun i => 8 - i) 0 (⟨Nat.zero_le _, fun j h => absurd h (Nat.not_lt_zero j)⟩) hM (lv_sub hl [1, 2, 0] rfl) ?_
  intro i hI2 ih1 H locs hM ls hl
  have hM : xM D (TY q) [wk q kd K, wk q fd F] A s.heap s H locs := hM
  have hl : lv_has ls 3 [(0, .ref (kd 0)), (1, .ref (fd 0)), (2, .int (nI i))] := hl
  have hI2 : i ≤ 8 ∧ (∀ j, j < i → ¬ F (59 + j) < K (59 + j)) := hI2
  obtain ⟨hI2_0, hI2_1⟩ := id hI2
  have hi9 := hI2_0
  have hj9 := hI2_1
  try dsimp only
  refine lv_iload_n hx hb dX1_hungrierThan_2 rfl (lv_at hl 2 rfl) ?_
  refine lv_bipush (v := nI 8) hx hb dX1_hungrierThan_3 (by decide) ?_
  refine x_icmp_ge (x := i) (y := 8) (tgt := 29) hx hb (by omega) (by omega) dX1_hungrierThan_5 (by decide) (fun c3 => ?_) (fun c3 => ?_)
  · refine lv_iconst (v := (-1)) hx hb dX1_hungrierThan_29 (by decide) ?_
    exact x_iret hx hb hr hlocks () hM (show (-1) = xhun K F 8 from by (first | exact (xhun_1 (by omega) hj9 (Int32.not_le.mp (by assumption))).symm | exact (xhun_0 (fun j hj => hj9 j (by omega))).symm)) dX1_hungrierThan_30
  · refine lv_aload_n hx hb dX1_hungrierThan_8 rfl (lv_at hl 0 rfl) ?_
    refine lv_iload_n hx hb dX1_hungrierThan_9 rfl (lv_at hl 2 rfl) ?_
    refine x_calli (bc := [wk q kd K]) (br := [wk q fd F]) hM [0] [1] rfl rfl rfl (by decide) (x_runV (As := [.int (nI i)]) (rest := []) hfix (c_X1_hungerOf l D q kd K i (by omega)) (cwV 1 hts gX1_hungrierThan_X1_hungerOf rfl rfl rfl (by decide +kernel) ⟨Nat.le_of_ble_eq_true rfl, Nat.le_of_ble_eq_true rfl⟩) hM [0] rfl rfl 0 0 rfl rfl rfl rfl rfl hl.1 rfl (Nat.le_of_ble_eq_true rfl) dX1_hungrierThan_10 ⟨Nat.le_of_ble_eq_true rfl, Nat.le_of_ble_eq_true rfl⟩) (fun r u H locs hq hM => ?_)
    subst hq
    have hM : xM D (TY q) [wk q fd F, wk q kd K] A s.heap s H locs := hM
    have hM : xM D (TY q) [wk q kd K, wk q fd F] A s.heap s H locs := hM.sel [1, 0] rfl rfl
    refine lv_aload_n hx hb dX1_hungrierThan_13 rfl (lv_at hl 1 rfl) ?_
    refine lv_iload_n hx hb dX1_hungrierThan_14 rfl (lv_at hl 2 rfl) ?_
    refine x_calli (bc := [wk q fd F]) (br := [wk q kd K]) hM [1] [0] rfl rfl rfl (by decide) (x_runV (As := [.int (nI i)]) (rest := [.int (K (59 + i))]) hfix (c_X1_hungerOf l D q fd F i (by omega)) (cwV 1 hts gX1_hungrierThan_X1_hungerOf rfl rfl rfl (by decide +kernel) ⟨Nat.le_of_ble_eq_true rfl, Nat.le_of_ble_eq_true rfl⟩) hM [1] rfl rfl 1 0 rfl rfl rfl rfl rfl hl.1 rfl (Nat.le_of_ble_eq_true rfl) dX1_hungrierThan_15 ⟨Nat.le_of_ble_eq_true rfl, Nat.le_of_ble_eq_true rfl⟩) (fun r u H locs hq hM => ?_)
    subst hq
    have hM : xM D (TY q) [wk q kd K, wk q fd F] A s.heap s H locs := hM
    refine lv_icmp_le (tgt := 23) hx hb dX1_hungrierThan_18 (by decide) (fun c4 => ?_) (fun c4 => ?_)
    · refine lv_iinc (v := nI (i + 1)) (lv' := [(2, .int (nI (i + 1))), (0, .ref (kd 0)), (1, .ref (fd 0))]) hx hb dX1_hungrierThan_23 hl (k := 2) rfl (x_inc _ 1) (by decide) rfl (fun ls hl => ?_)
      refine lv_goto (tgt := 2) hx hb dX1_hungrierThan_26 (by decide) ?_
      have hl : lv_has ls 3 [(0, .ref (kd 0)), (1, .ref (fd 0)), (2, .int (nI (i + 1)))] := lv_sub hl [1, 2, 0] rfl
      exact ih1 (i + 1) (show 8 - (i + 1) < 8 - i from by omega) (show (i + 1) ≤ 8 ∧ (∀ j, j < (i + 1) → ¬ F (59 + j) < K (59 + j)) from ⟨by omega, fun j hj => (Nat.lt_succ_iff_lt_or_eq.mp hj).elim (hj9 j) (fun z => by rw [z]; exact Int32.not_lt.mpr (by assumption))⟩) _ _ hM _ hl
    · refine lv_iload_n hx hb dX1_hungrierThan_21 rfl (lv_at hl 2 rfl) ?_
      exact x_iret hx hb hr hlocks () hM (show nI i = xhun K F 8 from by (first | exact (xhun_1 (by omega) hj9 (Int32.not_le.mp (by assumption))).symm | exact (xhun_0 (fun j hj => hj9 j (by omega))).symm)) dX1_hungrierThan_22
