set_option maxRecDepth 20000 in
theorem ggX2_readItem_X2_letterHere : GoodIn wsX2_readItem wsX2_letterHere := goodIn_r _ [7, 1, 8, 9, 88, 89, 90, 91] (by decide +kernel) (by decide +kernel)
set_option maxRecDepth 20000 in
theorem gX2_readItem_X2_letterHere : GoodIn wsX2_readItem (wsV RX2 35 RX2 yX2_letterHere wsX2_letterHere) := goodIn_app (goodIn_of _ (by decide +kernel)) ggX2_readItem_X2_letterHere
set_option maxRecDepth 20000 in
theorem ggX2_readItem_X2_numbersBehind : GoodIn wsX2_readItem wsX2_numbersBehind := goodIn_r _ [12] (by decide +kernel) (by decide +kernel)
set_option maxRecDepth 20000 in
theorem gX2_readItem_X2_numbersBehind : GoodIn wsX2_readItem (va_wsS RX2 39 yX2_numbersBehind wsX2_numbersBehind) := goodIn_app (goodIn_of _ (by decide +kernel)) ggX2_readItem_X2_numbersBehind
set_option maxRecDepth 20000 in
theorem ggX2_readItem_X2_readNumber : GoodIn wsX2_readItem wsX2_readNumber := goodIn_r _ [16, 1, 17, 18, 19, 6, 20, 3, 4, 5, 7, 8, 9, 88, 89, 90, 91] (by decide +kernel) (by decide +kernel)
set_option maxRecDepth 20000 in
theorem gX2_readItem_X2_readNumber : GoodIn wsX2_readItem (wsV RX2 43 RX2 yX2_readNumber wsX2_readNumber) := goodIn_app (goodIn_of _ (by decide +kernel)) ggX2_readItem_X2_readNumber
set_option maxRecDepth 20000 in
theorem ggX2_readItem_X5_put : GoodIn wsX2_readItem wsX5_put := goodIn_r _ [24] (by decide +kernel) (by decide +kernel)
set_option maxRecDepth 20000 in
theorem gX2_readItem_X5_put : GoodIn wsX2_readItem (va_wsS RX2 47 yX5_put wsX5_put) := goodIn_app (goodIn_of _ (by decide +kernel)) ggX2_readItem_X5_put
set_option maxRecDepth 20000 in
theorem ggX2_readItem_X7_tell : GoodIn wsX2_readItem wsX7_tell := goodIn_r _ [29, 30, 31, 23, 32, 33, 34, 35, 28, 36, 37, 38, 39, 40, 41, 42, 43, 22, 24, 44, 45, 46, 47, 48, 49, 50, 51, 52, 53, 54, 55, 56, 57, 58, 59, 60, 61, 62, 63, 64, 65, 66, 67, 68, 69, 70, 71, 72, 73, 74, 75, 76, 77, 78, 79, 80, 81, 82, 83, 84, 85, 86, 87, 92, 93, 94, 95, 96, 97, 98, 99, 100, 101, 102, 103, 104, 105, 106, 107] (by decide +kernel) (by decide +kernel)
set_option maxRecDepth 20000 in
theorem gX2_readItem_X7_tell : GoodIn wsX2_readItem (wsV RX2 53 RX7 yX7_tell wsX7_tell) := goodIn_app (goodIn_of _ (by decide +kernel)) ggX2_readItem_X7_tell
theorem dX2_readItem_0 : decode cX2_readItem 0 = .ok (.aload_n 0, 1) := by decide +kernel
theorem dX2_readItem_1 : decode cX2_readItem 1 = .ok (.invokevirtual 35, 3) := by decide +kernel
theorem dX2_readItem_4 : decode cX2_readItem 4 = .ok (.istore_n 2, 1) := by decide +kernel
theorem dX2_readItem_5 : decode cX2_readItem 5 = .ok (.iload_n 2, 1) := by decide +kernel
theorem dX2_readItem_6 : decode cX2_readItem 6 = .ok (.invokestatic 39, 3) := by decide +kernel
theorem dX2_readItem_9 : decode cX2_readItem 9 = .ok (.istore_n 3, 1) := by decide +kernel
theorem dX2_readItem_10 : decode cX2_readItem 10 = .ok (.iload_n 3, 1) := by decide +kernel
theorem dX2_readItem_11 : decode cX2_readItem 11 = .ok (.ifCond .ne 5, 3) := by decide +kernel
theorem dX2_readItem_14 : decode cX2_readItem 14 = .ok (.iconst 0, 1) := by decide +kernel
theorem dX2_readItem_15 : decode cX2_readItem 15 = .ok (.ireturn, 1) := by decide +kernel
theorem dX2_readItem_16 : decode cX2_readItem 16 = .ok (.aload_n 0, 1) := by decide +kernel
theorem dX2_readItem_17 : decode cX2_readItem 17 = .ok (.dup, 1) := by decide +kernel
theorem dX2_readItem_18 : decode cX2_readItem 18 = .ok (.getfield 28, 3) := by decide +kernel
theorem dX2_readItem_21 : decode cX2_readItem 21 = .ok (.iconst 1, 1) := by decide +kernel
theorem dX2_readItem_22 : decode cX2_readItem 22 = .ok (.iadd, 1) := by decide +kernel
theorem dX2_readItem_23 : decode cX2_readItem 23 = .ok (.putfield 28, 3) := by decide +kernel
theorem dX2_readItem_26 : decode cX2_readItem 26 = .ok (.iconst 0, 1) := by decide +kernel
theorem dX2_readItem_27 : decode cX2_readItem 27 = .ok (.istore 4, 2) := by decide +kernel
theorem dX2_readItem_29 : decode cX2_readItem 29 = .ok (.iload 4, 2) := by decide +kernel
theorem dX2_readItem_31 : decode cX2_readItem 31 = .ok (.iload_n 3, 1) := by decide +kernel
theorem dX2_readItem_32 : decode cX2_readItem 32 = .ok (.if_icmp .ge 65, 3) := by decide +kernel
theorem dX2_readItem_35 : decode cX2_readItem 35 = .ok (.aload_n 0, 1) := by decide +kernel
theorem dX2_readItem_36 : decode cX2_readItem 36 = .ok (.invokevirtual 43, 3) := by decide +kernel
theorem dX2_readItem_39 : decode cX2_readItem 39 = .ok (.istore 5, 2) := by decide +kernel
theorem dX2_readItem_41 : decode cX2_readItem 41 = .ok (.iload 5, 2) := by decide +kernel
theorem dX2_readItem_43 : decode cX2_readItem 43 = .ok (.ifCond .lt 25, 3) := by decide +kernel
theorem dX2_readItem_46 : decode cX2_readItem 46 = .ok (.aload_n 0, 1) := by decide +kernel
theorem dX2_readItem_47 : decode cX2_readItem 47 = .ok (.invokevirtual 35, 3) := by decide +kernel
theorem dX2_readItem_50 : decode cX2_readItem 50 = .ok (.iload 4, 2) := by decide +kernel
theorem dX2_readItem_52 : decode cX2_readItem 52 = .ok (.iload_n 3, 1) := by decide +kernel
theorem dX2_readItem_53 : decode cX2_readItem 53 = .ok (.iconst 1, 1) := by decide +kernel
theorem dX2_readItem_54 : decode cX2_readItem 54 = .ok (.isub, 1) := by decide +kernel
theorem dX2_readItem_55 : decode cX2_readItem 55 = .ok (.if_icmp .ne 8, 3) := by decide +kernel
theorem dX2_readItem_58 : decode cX2_readItem 58 = .ok (.bipush 59, 2) := by decide +kernel
theorem dX2_readItem_60 : decode cX2_readItem 60 = .ok (.goto 5, 3) := by decide +kernel
theorem dX2_readItem_63 : decode cX2_readItem 63 = .ok (.bipush 44, 2) := by decide +kernel
theorem dX2_readItem_65 : decode cX2_readItem 65 = .ok (.if_icmp .eq 5, 3) := by decide +kernel
theorem dX2_readItem_68 : decode cX2_readItem 68 = .ok (.iconst 0, 1) := by decide +kernel
theorem dX2_readItem_69 : decode cX2_readItem 69 = .ok (.ireturn, 1) := by decide +kernel
theorem dX2_readItem_70 : decode cX2_readItem 70 = .ok (.aload_n 0, 1) := by decide +kernel
theorem dX2_readItem_71 : decode cX2_readItem 71 = .ok (.dup, 1) := by decide +kernel
theorem dX2_readItem_72 : decode cX2_readItem 72 = .ok (.getfield 28, 3) := by decide +kernel
theorem dX2_readItem_75 : decode cX2_readItem 75 = .ok (.iconst 1, 1) := by decide +kernel
theorem dX2_readItem_76 : decode cX2_readItem 76 = .ok (.iadd, 1) := by decide +kernel
theorem dX2_readItem_77 : decode cX2_readItem 77 = .ok (.putfield 28, 3) := by decide +kernel
theorem dX2_readItem_80 : decode cX2_readItem 80 = .ok (.aload_n 0, 1) := by decide +kernel
theorem dX2_readItem_81 : decode cX2_readItem 81 = .ok (.getfield 15, 3) := by decide +kernel
theorem dX2_readItem_84 : decode cX2_readItem 84 = .ok (.iload 4, 2) := by decide +kernel
theorem dX2_readItem_86 : decode cX2_readItem 86 = .ok (.iload 5, 2) := by decide +kernel
theorem dX2_readItem_88 : decode cX2_readItem 88 = .ok (.invokestatic 47, 3) := by decide +kernel
theorem dX2_readItem_91 : decode cX2_readItem 91 = .ok (.iinc 4 1, 3) := by decide +kernel
theorem dX2_readItem_94 : decode cX2_readItem 94 = .ok (.goto (-65), 3) := by decide +kernel
theorem dX2_readItem_97 : decode cX2_readItem 97 = .ok (.aload_n 1, 1) := by decide +kernel
theorem dX2_readItem_98 : decode cX2_readItem 98 = .ok (.iload_n 2, 1) := by decide +kernel
theorem dX2_readItem_99 : decode cX2_readItem 99 = .ok (.aload_n 0, 1) := by decide +kernel
theorem dX2_readItem_100 : decode cX2_readItem 100 = .ok (.getfield 15, 3) := by decide +kernel
theorem dX2_readItem_103 : decode cX2_readItem 103 = .ok (.invokevirtual 53, 3) := by decide +kernel
theorem dX2_readItem_106 : decode cX2_readItem 106 = .ok (.ireturn, 1) := by decide +kernel
theorem lkX2_readItem_15 : Cond.fieldLink RX2 15 "LeftAtFive$Letters" "numbers" "[I" ∈ wsX2_readItem := by decide +kernel
theorem lkX2_readItem_28 : Cond.fieldLink RX2 28 "LeftAtFive$Letters" "place" "I" ∈ wsX2_readItem := by decide +kernel
theorem iwX2_readItem_X2 : ∀ w ∈ wsX20, w ∈ wsX2_readItem := by decide +kernel
set_option maxHeartbeats 2000000 in
set_option maxRecDepth 100000 in
theorem c_X2_readItem (l : Launch) (D : va_G) (q : Nat → ClassId) (ld : Nat → Nat) (ν0 : Nat → Int32) (ν1 : Nat → Int32) (ν2 : Int32) (ν3 : Int32) (ad : Nat → Nat) (X : Nat → Nat → Int32) (S : Nat → Nat → Int32) (sp : Nat) (tt : Nat → Int32) (hL : ν2 = nI (tn ν2) ∧ tn ν2 ≤ 200) (hC : ∀ j, j < tn ν2 → cN (ν0 j) 126) (hsp2 : sp ≤ 500) (hT : okT X (xshf S)) : xC l yX2_readItem wsX2_readItem ({ frames := 4, cells := 0, slots := 0, locals := 91 }) D (TY q) [w2 q ld ν0 ν1 ν2 (nI sp), wst q ad X] [.ref (ld 0), .ref (ad 0)] (xQi D (TY q) (fun (r : Int32) (u : (Nat → Int32) × Int32 × (Nat → Nat → Int32)) => r = zb ((xItem ν0 (tn ν2) S sp tt).1 = true) ∧ okT u.2.2 (xshf (xItem ν0 (tn ν2) S sp tt).2.1) ∧ ((xItem ν0 (tn ν2) S sp tt).1 = true → u.2.1 = nI (xItem ν0 (tn ν2) S sp tt).2.2.1)) (fun (u : (Nat → Int32) × Int32 × (Nat → Nat → Int32)) => [w2 q ld ν0 u.1 ν2 u.2.1, wst q ad u.2.2])) 0 0 := by
  refine x_enter (cc := cX2_readItem) (maxL := 6) (ret := (some .boolean)) (by decide) rfl (Nat.le_of_ble_eq_true rfl) ?_
  intro p e s m below meth c A ls H locs hfix hr hlocks hinit hM hl
  obtain ⟨hx, hb, hml, hown, hts⟩ := id hfix
  have hl : lv_has ls 6 [(0, .ref (ld 0)), (1, .ref (ad 0))] := hl
  have hL2 := hL.2
  have hA2 := xlet_cN hC
  refine lv_aload_n hx hb dX2_readItem_0 rfl (lv_at hl 0 rfl) ?_
  refine x_calli (bc := [w2 q ld ν0 ν1 ν2 (nI sp)]) (br := [wst q ad X]) hM [0] [1] rfl rfl rfl (by decide) (x_runV (As := []) (rest := []) hfix (c_X2_letterHere l D q ld ν0 ν1 ν2 (nI sp) sp hL hC (by omega)) (cwV 0 hts gX2_readItem_X2_letterHere rfl rfl rfl (by decide +kernel) ⟨Nat.le_of_ble_eq_true rfl, Nat.le_of_ble_eq_true rfl⟩) hM [0] rfl rfl 0 0 rfl rfl rfl rfl rfl hl.1 rfl (Nat.le_of_ble_eq_true rfl) dX2_readItem_1 ⟨Nat.le_of_ble_eq_true rfl, Nat.le_of_ble_eq_true rfl⟩) (fun r u H locs hq hM => ?_)
  subst hq
  have hM : xM D (TY q) [wst q ad X, w2 q ld ν0 ν1 ν2 (nI sp)] A s.heap s H locs := hM
  have hM : xM D (TY q) [w2 q ld ν0 ν1 ν2 (nI sp), wst q ad X] A s.heap s H locs := hM.sel [1, 0] rfl rfl
  refine lv_istore_n (lv' := [(2, .int (xlet ν0 (tn ν2) sp)), (0, .ref (ld 0)), (1, .ref (ad 0))]) hx hb dX2_readItem_4 rfl hl (by decide) rfl (fun ls hl => ?_)
  obtain ⟨lt, hlt⟩ : ∃ y, y = xlet ν0 (tn ν2) sp := ⟨_, rfl⟩
  have e1 : xlet ν0 (tn ν2) sp = lt := by rw [hlt]
  have hl : lv_has ls 6 [(2, .int lt), (0, .ref (ld 0)), (1, .ref (ad 0))] := x_lvset hl 0 rfl (congrArg Value.int e1) rfl
  refine lv_iload_n hx hb dX2_readItem_5 rfl (lv_at hl 0 rfl) ?_
  refine x_calli (bc := []) (br := [w2 q ld ν0 ν1 ν2 (nI sp), wst q ad X]) hM [] [0, 1] rfl rfl rfl (by decide) (x_runS (As := [.int lt]) (rest := []) hfix (c_X2_numbersBehind l D q lt) (va_cwS 1 hts gX2_readItem_X2_numbersBehind rfl rfl rfl (by decide +kernel) ⟨Nat.le_of_ble_eq_true rfl, Nat.le_of_ble_eq_true rfl⟩) hM [] rfl rfl rfl hl.1 rfl (Nat.le_of_ble_eq_true rfl) dX2_readItem_6 ⟨Nat.le_of_ble_eq_true rfl, Nat.le_of_ble_eq_true rfl⟩) (fun r u H locs hq hM => ?_)
  subst hq
  have hM : xM D (TY q) [w2 q ld ν0 ν1 ν2 (nI sp), wst q ad X] A s.heap s H locs := hM
  refine lv_istore_n (lv' := [(3, .int (nI (xnbh lt))), (2, .int lt), (0, .ref (ld 0)), (1, .ref (ad 0))]) hx hb dX2_readItem_9 rfl hl (by decide) rfl (fun ls hl => ?_)
  have hwle := xnbh_le (c := lt)
  refine lv_iload_n hx hb dX2_readItem_10 rfl (lv_at hl 0 rfl) ?_
  refine x_if_ne (x := xnbh lt) (tgt := 16) hx hb (by omega) dX2_readItem_11 (by decide) (fun c2 => ?_) (fun c2 => ?_)
  · refine lv_aload_n hx hb dX2_readItem_16 rfl (lv_at hl 2 rfl) ?_
    refine lv_dup hx hb dX2_readItem_17 rfl ?_
    refine x_get hx hb hts iwX2_readItem_X2 hown hM 0 0 rfl rfl rfl 3 (by decide) (hts _ lkX2_readItem_28) (fun _ h => h) rfl dX2_readItem_18 ?_
    refine lv_iconst (v := nI 1) hx hb dX2_readItem_21 (by decide) ?_
    refine x_iadd (x := sp) (y := 1) hx hb dX2_readItem_22 ?_
    refine x_put hx hb hts iwX2_readItem_X2 tyX2 tyX2_ok nmX2 hown hM 0 0 rfl rfl rfl 3 (by decide) (hts _ lkX2_readItem_28) (fun _ h => h) rfl (ty := .int) (by decide +kernel) rfl rfl (Nat.le_of_ble_eq_true rfl) [w2 q ld ν0 ν1 ν2 (nI (sp + 1)), wst q ad X] rfl dX2_readItem_23 (fun H locs hM => ?_)
    refine lv_iconst (v := nI 0) hx hb dX2_readItem_26 (by decide) ?_
    refine lv_istore (lv' := [(4, .int (nI 0)), (3, .int (nI (xnbh lt))), (2, .int lt), (0, .ref (ld 0)), (1, .ref (ad 0))]) hx hb dX2_readItem_27 hl (by decide) rfl (fun ls hl => ?_)
    refine x_loop (ι := Nat × Nat × (Nat → Int32) × (Nat → Int32)) (fun z8 => [(0, .ref (ld 0)), (1, .ref (ad 0)), (2, .int lt), (3, .int (nI (xnbh lt))), (4, .int (nI z8.1))]) (fun z8 => [w2 q ld ν0 z8.2.2.1 ν2 (nI z8.2.1), wst q ad X]) (fun z8 => z8.1 ≤ xnbh lt ∧ xfg ν0 (tn ν2) (xnbh lt) (sp + 1) tt z8.1 = (true, z8.2.1, z8.2.2.2) ∧ (∀ j, j < z8.1 → z8.2.2.1 j = z8.2.2.2 j)) (fun z8 => xnbh lt - z8.1) (0, sp + 1, ν1, tt) (⟨Nat.zero_le _, rfl, fun j h => absurd h (Nat.not_lt_zero j)⟩) hM (lv_sub hl [3, 4, 2, 1, 0] rfl) ?_
    intro ⟨i, p, v, un⟩ hI4 ih3 H locs hM ls hl
    have hM : xM D (TY q) [w2 q ld ν0 v ν2 (nI p), wst q ad X] A s.heap s H locs := hM
    have hl : lv_has ls 6 [(0, .ref (ld 0)), (1, .ref (ad 0)), (2, .int lt), (3, .int (nI (xnbh lt))), (4, .int (nI i))] := hl
    have hI4 : i ≤ xnbh lt ∧ xfg ν0 (tn ν2) (xnbh lt) (sp + 1) tt i = (true, p, un) ∧ (∀ j, j < i → v j = un j) := hI4
    obtain ⟨hI4_0, hI4_1, hI4_2⟩ := id hI4
    have hi9 := hI4_0
    have hg9 := hI4_1
    have hv9 := hI4_2
    have hpl := xfg_le (s := ν0) (len := tn ν2) (n := xnbh lt) (p := sp + 1) (t := tt) i
    rw [hg9] at hpl
    dsimp only at hpl
    try dsimp only
    refine lv_iload hx hb dX2_readItem_29 (lv_at hl 4 rfl) ?_
    refine lv_iload_n hx hb dX2_readItem_31 rfl (lv_at hl 3 rfl) ?_
    refine x_icmp_ge (x := i) (y := xnbh lt) (tgt := 97) hx hb (by omega) (by omega) dX2_readItem_32 (by decide) (fun c5 => ?_) (fun c5 => ?_)
    · have hiw : i = xnbh lt := by omega
      have hfw : xfg ν0 (tn ν2) (xnbh lt) (sp + 1) tt (xnbh lt) = (true, p, un) := by rw [hiw] at hg9; exact hg9
      have hvw : ∀ j, j < xnbh lt → v j = un j := fun j hj => hv9 j (by omega)
      have htl := xfg_told (s := ν0) (len := tn ν2) (n := xnbh lt) (p := sp + 1) (t := tt) (xnbh lt) (by rw [hfw])
      rw [hfw] at htl
      have hN : ∀ j, j < xnbh lt → v j = nI (tn (v j)) ∧ tn (v j) ≤ 99 := fun j hj => by rw [hvw j hj]; exact htl j hj
      have hie := xIt_eq (s := ν0) (L := tn ν2) (S := S) (sp := sp) (tt := tt) (t := v) (n := xnbh lt) (by rw [hlt]) hfw hvw
      rw [← hlt] at hie
      refine lv_aload_n hx hb dX2_readItem_97 rfl (lv_at hl 1 rfl) ?_
      refine lv_iload_n hx hb dX2_readItem_98 rfl (lv_at hl 2 rfl) ?_
      refine lv_aload_n hx hb dX2_readItem_99 rfl (lv_at hl 0 rfl) ?_
      refine x_get hx hb hts iwX2_readItem_X2 hown hM 0 0 rfl rfl rfl 1 (by decide) (hts _ lkX2_readItem_15) (fun _ h => h) rfl dX2_readItem_100 ?_
      refine x_calli (bc := [wst q ad X, w2 q ld ν0 v ν2 (nI p)]) (br := []) hM [1, 0] [] rfl rfl rfl (by decide) (x_runV (As := [.int lt, .ref (ld 2)]) (rest := []) hfix (c_X7_tell l D q ad X ld ν0 v ν2 (nI p) S lt hT hN) (cwV 2 hts gX2_readItem_X7_tell rfl rfl rfl (by decide +kernel) ⟨Nat.le_of_ble_eq_true rfl, Nat.le_of_ble_eq_true rfl⟩) hM [1, 0] rfl rfl 1 0 rfl rfl rfl rfl rfl hl.1 rfl (Nat.le_of_ble_eq_true rfl) dX2_readItem_103 ⟨Nat.le_of_ble_eq_true rfl, Nat.le_of_ble_eq_true rfl⟩) (fun r u H locs hq hM => ?_)
      obtain ⟨hq, hqx⟩ := hq
      subst hq
      obtain ⟨uX6, hex⟩ : ∃ z, z = u := ⟨_, rfl⟩; subst hex
      have hM : xM D (TY q) [wst q ad uX6, w2 q ld ν0 v ν2 (nI p)] A s.heap s H locs := hM
      have hM : xM D (TY q) [w2 q ld ν0 v ν2 (nI p), wst q ad uX6] A s.heap s H locs := hM.sel [1, 0] rfl rfl
      have hx9 : okT uX6 (xshf (xIt lt S v).2.1) := hqx
      have e8 : ((nI p) : Int32) = ((nI p)) := by rfl
      have hM : xM D (TY q) [w2 q ld ν0 v ν2 (nI p), wst q ad uX6] A s.heap s H locs := Eq.mp (congrArg (fun z9 => xM D (TY q) [w2 q ld ν0 v ν2 z9, wst q ad uX6] A s.heap s H locs) e8) hM
      exact x_zret hx hb hr hlocks (v, nI p, uX6) hM zb_bool ⟨(show zb ((xIt lt S v).1 = true) = zb ((xItem ν0 (tn ν2) S sp tt).1 = true) from by (first | (rw [hie.1]; done) | (rw [hif.1]; exact zb_f' Bool.false_ne_true))), (show okT uX6 (xshf (xItem ν0 (tn ν2) S sp tt).2.1) ∧ ((xItem ν0 (tn ν2) S sp tt).1 = true → (nI p) = nI (xItem ν0 (tn ν2) S sp tt).2.2.1) from by (exact ⟨by rw [hie.2.1]; exact hx9, fun _ => by rw [hie.2.2 (by omega)]⟩))⟩ dX2_readItem_106
    · refine lv_aload_n hx hb dX2_readItem_35 rfl (lv_at hl 0 rfl) ?_
      refine x_calli (bc := [w2 q ld ν0 v ν2 (nI p)]) (br := [wst q ad X]) hM [0] [1] rfl rfl rfl (by decide) (x_runV (As := []) (rest := []) hfix (c_X2_readNumber l D q ld ν0 v ν2 (nI p) p hL hC (by omega)) (cwV 0 hts gX2_readItem_X2_readNumber rfl rfl rfl (by decide +kernel) ⟨Nat.le_of_ble_eq_true rfl, Nat.le_of_ble_eq_true rfl⟩) hM [0] rfl rfl 0 0 rfl rfl rfl rfl rfl hl.1 rfl (Nat.le_of_ble_eq_true rfl) dX2_readItem_36 ⟨Nat.le_of_ble_eq_true rfl, Nat.le_of_ble_eq_true rfl⟩) (fun r u H locs hq hM => ?_)
      subst hq
      have hM : xM D (TY q) [wst q ad X, w2 q ld ν0 v ν2 (nI (p + xrd ν0 (tn ν2) p))] A s.heap s H locs := hM
      have hM : xM D (TY q) [w2 q ld ν0 v ν2 (nI (p + xrd ν0 (tn ν2) p)), wst q ad X] A s.heap s H locs := hM.sel [1, 0] rfl rfl
      refine lv_istore (lv' := [(5, .int (if xdg ν0 (tn ν2) p then nI (xrv ν0 (tn ν2) p) else (-1))), (0, .ref (ld 0)), (1, .ref (ad 0)), (2, .int lt), (3, .int (nI (xnbh lt))), (4, .int (nI i))]) hx hb dX2_readItem_39 hl (by decide) rfl (fun ls hl => ?_)
      refine lv_iload hx hb dX2_readItem_41 (lv_at hl 0 rfl) ?_
      refine lv_if_lt (tgt := 68) hx hb dX2_readItem_43 (by decide) (fun c9 => ?_) (fun c9 => ?_)
      · have hdg : ¬ xdg ν0 (tn ν2) p := fun z => absurd (by assumption : (if xdg ν0 (tn ν2) p then nI (xrv ν0 (tn ν2) p) else (-1)) < 0) (by rw [if_pos z]; exact nI_pos (by have := xrv_le (p := p) hA2; omega))
        obtain ⟨q9, w9, hf9⟩ := xfg_rd0 hg9 (by omega) (by first | exact (fun z => hdg z.1) | exact (fun z => absurd (z.2.trans hz9.symm) (by assumption)))
        have hif := xItem_f (s := ν0) (L := tn ν2) (S := S) (sp := sp) (tt := tt) (n := xnbh lt) (by rw [hlt]) (Or.inr hf9)
        refine lv_iconst (v := nI 0) hx hb dX2_readItem_68 (by decide) ?_
        have e10 : ((nI (p + xrd ν0 (tn ν2) p)) : Int32) = ((nI (p + xrd ν0 (tn ν2) p))) := by rfl
        have hM : xM D (TY q) [w2 q ld ν0 v ν2 (nI (p + xrd ν0 (tn ν2) p)), wst q ad X] A s.heap s H locs := Eq.mp (congrArg (fun z9 => xM D (TY q) [w2 q ld ν0 v ν2 z9, wst q ad X] A s.heap s H locs) e10) hM
        exact x_zret hx hb hr hlocks (v, nI (p + xrd ν0 (tn ν2) p), X) hM rfl ⟨(show nI 0 = zb ((xItem ν0 (tn ν2) S sp tt).1 = true) from by (first | (rw [hie.1]; done) | (rw [hif.1]; exact zb_f' Bool.false_ne_true))), (show okT X (xshf (xItem ν0 (tn ν2) S sp tt).2.1) ∧ ((xItem ν0 (tn ν2) S sp tt).1 = true → (nI (p + xrd ν0 (tn ν2) p)) = nI (xItem ν0 (tn ν2) S sp tt).2.2.1) from by (exact ⟨by rw [hif.2]; exact hT, fun z => absurd (hif.1.symm.trans z) Bool.false_ne_true⟩))⟩ dX2_readItem_69
      · have hdg : xdg ν0 (tn ν2) p := Decidable.byContradiction (fun z => absurd (by rw [if_neg z]; decide : (if xdg ν0 (tn ν2) p then nI (xrv ν0 (tn ν2) p) else (-1)) < 0) (by assumption))
        have hrl := xrd_le (s := ν0) (L := tn ν2) (p := p)
        have e11 : (if xdg ν0 (tn ν2) p then nI (xrv ν0 (tn ν2) p) else (-1)) = nI (xrv ν0 (tn ν2) p) := by rw [if_pos hdg]
        have hl : lv_has ls 6 [(5, .int (nI (xrv ν0 (tn ν2) p))), (0, .ref (ld 0)), (1, .ref (ad 0)), (2, .int lt), (3, .int (nI (xnbh lt))), (4, .int (nI i))] := x_lvset hl 0 rfl (congrArg Value.int e11) rfl
        refine lv_aload_n hx hb dX2_readItem_46 rfl (lv_at hl 1 rfl) ?_
        refine x_calli (bc := [w2 q ld ν0 v ν2 (nI (p + xrd ν0 (tn ν2) p))]) (br := [wst q ad X]) hM [0] [1] rfl rfl rfl (by decide) (x_runV (As := []) (rest := []) hfix (c_X2_letterHere l D q ld ν0 v ν2 (nI (p + xrd ν0 (tn ν2) p)) (p + xrd ν0 (tn ν2) p) hL hC (by omega)) (cwV 0 hts gX2_readItem_X2_letterHere rfl rfl rfl (by decide +kernel) ⟨Nat.le_of_ble_eq_true rfl, Nat.le_of_ble_eq_true rfl⟩) hM [0] rfl rfl 0 0 rfl rfl rfl rfl rfl hl.1 rfl (Nat.le_of_ble_eq_true rfl) dX2_readItem_47 ⟨Nat.le_of_ble_eq_true rfl, Nat.le_of_ble_eq_true rfl⟩) (fun r u H locs hq hM => ?_)
        subst hq
        have hM : xM D (TY q) [wst q ad X, w2 q ld ν0 v ν2 (nI (p + xrd ν0 (tn ν2) p))] A s.heap s H locs := hM
        have hM : xM D (TY q) [w2 q ld ν0 v ν2 (nI (p + xrd ν0 (tn ν2) p)), wst q ad X] A s.heap s H locs := hM.sel [1, 0] rfl rfl
        refine lv_iload hx hb dX2_readItem_50 (lv_at hl 5 rfl) ?_
        refine lv_iload_n hx hb dX2_readItem_52 rfl (lv_at hl 4 rfl) ?_
        refine lv_iconst (v := nI 1) hx hb dX2_readItem_53 (by decide) ?_
        refine x_isub (x := xnbh lt) (y := 1) hx hb (by omega) dX2_readItem_54 ?_
        refine x_join (ι := Nat) (pcJ := 65) (fun j12 => [(5, .int (nI (xrv ν0 (tn ν2) p))), (0, .ref (ld 0)), (1, .ref (ad 0)), (2, .int lt), (3, .int (nI (xnbh lt))), (4, .int (nI i))]) (fun j12 => [w2 q ld ν0 v ν2 (nI (p + xrd ν0 (tn ν2) p)), wst q ad X]) (fun j12 => [.int (nI j12), .int (xlet ν0 (tn ν2) (p + xrd ν0 (tn ν2) p))]) (fun j12 => j12 = (if ¬ i = ((xnbh lt) - 1) then 44 else 59)) hM hl ?_ ?_
        · intro j12 hj13 H locs hM ls hl
          have hM : xM D (TY q) [w2 q ld ν0 v ν2 (nI (p + xrd ν0 (tn ν2) p)), wst q ad X] A s.heap s H locs := hM
          have hl : lv_has ls 6 [(5, .int (nI (xrv ν0 (tn ν2) p))), (0, .ref (ld 0)), (1, .ref (ad 0)), (2, .int lt), (3, .int (nI (xnbh lt))), (4, .int (nI i))] := hl
          try dsimp only
          have hj12 : j12 = (if ¬ i = ((xnbh lt) - 1) then 44 else 59) := hj13
          have hz9 : nI j12 = (if xnbh lt - 1 ≤ i then nI 59 else nI 44) := by rw [hj12]; by_cases z : i = xnbh lt - 1; rw [if_neg (not_not_intro z), if_pos (by omega)]; rw [if_pos z, if_neg (by omega)]
          refine lv_icmp_eq (tgt := 70) hx hb dX2_readItem_65 (by decide) (fun c14 => ?_) (fun c14 => ?_)
          · have hst := xfg_rd1 hg9 hdg ((by assumption : xlet ν0 (tn ν2) (p + xrd ν0 (tn ν2) p) = nI j12).trans hz9)
            refine lv_aload_n hx hb dX2_readItem_70 rfl (lv_at hl 1 rfl) ?_
            refine lv_dup hx hb dX2_readItem_71 rfl ?_
            refine x_get hx hb hts iwX2_readItem_X2 hown hM 0 0 rfl rfl rfl 3 (by decide) (hts _ lkX2_readItem_28) (fun _ h => h) rfl dX2_readItem_72 ?_
            refine lv_iconst (v := nI 1) hx hb dX2_readItem_75 (by decide) ?_
            refine x_iadd (x := p + xrd ν0 (tn ν2) p) (y := 1) hx hb dX2_readItem_76 ?_
            refine x_put hx hb hts iwX2_readItem_X2 tyX2 tyX2_ok nmX2 hown hM 0 0 rfl rfl rfl 3 (by decide) (hts _ lkX2_readItem_28) (fun _ h => h) rfl (ty := .int) (by decide +kernel) rfl rfl (Nat.le_of_ble_eq_true rfl) [w2 q ld ν0 v ν2 (nI (p + xrd ν0 (tn ν2) p + 1)), wst q ad X] rfl dX2_readItem_77 (fun H locs hM => ?_)
            refine lv_aload_n hx hb dX2_readItem_80 rfl (lv_at hl 1 rfl) ?_
            refine x_get hx hb hts iwX2_readItem_X2 hown hM 0 0 rfl rfl rfl 1 (by decide) (hts _ lkX2_readItem_15) (fun _ h => h) rfl dX2_readItem_81 ?_
            refine lv_iload hx hb dX2_readItem_84 (lv_at hl 5 rfl) ?_
            refine lv_iload hx hb dX2_readItem_86 (lv_at hl 0 rfl) ?_
            refine x_callv (bc := [w2 q ld ν0 v ν2 (nI (p + xrd ν0 (tn ν2) p + 1))]) (br := [wst q ad X]) hM [0] [1] rfl rfl rfl (by decide) (x_runS (As := [.ref (ld 2), .int (nI i), .int (nI (xrv ν0 (tn ν2) p))]) (rest := []) hfix (c_X5_put l D q (w2 q ld ν0 v ν2 (nI (p + xrd ν0 (tn ν2) p + 1))) 2 (ld 2) 3 v i (nI (xrv ν0 (tn ν2) p)) rfl (by decide) (by omega)) (va_cwS 3 hts gX2_readItem_X5_put rfl rfl rfl (by decide +kernel) ⟨Nat.le_of_ble_eq_true rfl, Nat.le_of_ble_eq_true rfl⟩) hM [0] rfl rfl rfl hl.1 rfl (Nat.le_of_ble_eq_true rfl) dX2_readItem_88 ⟨Nat.le_of_ble_eq_true rfl, Nat.le_of_ble_eq_true rfl⟩) (fun u H locs hq hM => ?_)
            have hM : xM D (TY q) [wst q ad X, w2 q ld ν0 (upd v i (nI (xrv ν0 (tn ν2) p))) ν2 (nI (p + xrd ν0 (tn ν2) p + 1))] A s.heap s H locs := hM
            have hM : xM D (TY q) [w2 q ld ν0 (upd v i (nI (xrv ν0 (tn ν2) p))) ν2 (nI (p + xrd ν0 (tn ν2) p + 1)), wst q ad X] A s.heap s H locs := hM.sel [1, 0] rfl rfl
            refine lv_iinc (v := nI (i + 1)) (lv' := [(4, .int (nI (i + 1))), (5, .int (nI (xrv ν0 (tn ν2) p))), (0, .ref (ld 0)), (1, .ref (ad 0)), (2, .int lt), (3, .int (nI (xnbh lt)))]) hx hb dX2_readItem_91 hl (k := 5) rfl (x_inc _ 1) (by decide) rfl (fun ls hl => ?_)
            refine lv_goto (tgt := 29) hx hb dX2_readItem_94 (by decide) ?_
            have e15 : ((upd v i (nI (xrv ν0 (tn ν2) p))) : Nat → Int32) = ((upd v i (nI (xrv ν0 (tn ν2) p)))) := by rfl
            have hM : xM D (TY q) [w2 q ld ν0 (upd v i (nI (xrv ν0 (tn ν2) p))) ν2 (nI (p + xrd ν0 (tn ν2) p + 1)), wst q ad X] A s.heap s H locs := Eq.mp (congrArg (fun z9 => xM D (TY q) [w2 q ld ν0 z9 ν2 (nI (p + xrd ν0 (tn ν2) p + 1)), wst q ad X] A s.heap s H locs) e15) hM
            have hl : lv_has ls 6 [(0, .ref (ld 0)), (1, .ref (ad 0)), (2, .int lt), (3, .int (nI (xnbh lt))), (4, .int (nI (i + 1)))] := lv_sub hl [2, 3, 4, 5, 0] rfl
            exact ih3 (i + 1, p + xrd ν0 (tn ν2) p + 1, upd v i (nI (xrv ν0 (tn ν2) p)), upd un i (nI (xrv ν0 (tn ν2) p))) (show xnbh lt - (i + 1) < xnbh lt - i from by omega) (show (i + 1) ≤ xnbh lt ∧ xfg ν0 (tn ν2) (xnbh lt) (sp + 1) tt (i + 1) = (true, (p + xrd ν0 (tn ν2) p + 1), (upd un i (nI (xrv ν0 (tn ν2) p)))) ∧ (∀ j, j < (i + 1) → (upd v i (nI (xrv ν0 (tn ν2) p))) j = (upd un i (nI (xrv ν0 (tn ν2) p))) j) from ⟨by omega, hst, fun j hj => (by by_cases z : j = i; (subst z; rw [upd_at, upd_at]); (rw [upd_ne _ _ z, upd_ne _ _ z]; exact hv9 j (by omega)))⟩) _ _ hM _ hl
          · obtain ⟨q9, w9, hf9⟩ := xfg_rd0 hg9 (by omega) (by first | exact (fun z => hdg z.1) | exact (fun z => absurd (z.2.trans hz9.symm) (by assumption)))
            have hif := xItem_f (s := ν0) (L := tn ν2) (S := S) (sp := sp) (tt := tt) (n := xnbh lt) (by rw [hlt]) (Or.inr hf9)
            refine lv_iconst (v := nI 0) hx hb dX2_readItem_68 (by decide) ?_
            have e16 : ((nI (p + xrd ν0 (tn ν2) p)) : Int32) = ((nI (p + xrd ν0 (tn ν2) p))) := by rfl
            have hM : xM D (TY q) [w2 q ld ν0 v ν2 (nI (p + xrd ν0 (tn ν2) p)), wst q ad X] A s.heap s H locs := Eq.mp (congrArg (fun z9 => xM D (TY q) [w2 q ld ν0 v ν2 z9, wst q ad X] A s.heap s H locs) e16) hM
            exact x_zret hx hb hr hlocks (v, nI (p + xrd ν0 (tn ν2) p), X) hM rfl ⟨(show nI 0 = zb ((xItem ν0 (tn ν2) S sp tt).1 = true) from by (first | (rw [hie.1]; done) | (rw [hif.1]; exact zb_f' Bool.false_ne_true))), (show okT X (xshf (xItem ν0 (tn ν2) S sp tt).2.1) ∧ ((xItem ν0 (tn ν2) S sp tt).1 = true → (nI (p + xrd ν0 (tn ν2) p)) = nI (xItem ν0 (tn ν2) S sp tt).2.2.1) from by (exact ⟨by rw [hif.2]; exact hT, fun z => absurd (hif.1.symm.trans z) Bool.false_ne_true⟩))⟩ dX2_readItem_69
        · intro hJ17 H locs hM ls hl
          refine x_icmp_ne (x := i) (y := (xnbh lt) - 1) (tgt := 63) hx hb (by omega) (by omega) dX2_readItem_55 (by decide) (fun c18 => ?_) (fun c18 => ?_)
          · refine lv_bipush (v := nI 44) hx hb dX2_readItem_63 (by decide) ?_
            exact hJ17 44 (show 44 = (if ¬ i = ((xnbh lt) - 1) then 44 else 59) from by (repeat' split) <;> first | rfl | contradiction | omega | simp_all) _ _ hM _ (lv_sub hl [0, 1, 2, 3, 4, 5] rfl)
          · refine lv_bipush (v := nI 59) hx hb dX2_readItem_58 (by decide) ?_
            refine lv_goto (tgt := 65) hx hb dX2_readItem_60 (by decide) ?_
            exact hJ17 59 (show 59 = (if ¬ i = ((xnbh lt) - 1) then 44 else 59) from by (repeat' split) <;> first | rfl | contradiction | omega | simp_all) _ _ hM _ (lv_sub hl [0, 1, 2, 3, 4, 5] rfl)
  · have hif := xItem_f (s := ν0) (L := tn ν2) (S := S) (sp := sp) (tt := tt) (n := xnbh lt) (p := 0) (u := tt) (by rw [hlt]) (Or.inl (by assumption))
    refine lv_iconst (v := nI 0) hx hb dX2_readItem_14 (by decide) ?_
    have e19 : ((nI sp) : Int32) = ((nI sp)) := by rfl
    have hM : xM D (TY q) [w2 q ld ν0 ν1 ν2 (nI sp), wst q ad X] A s.heap s H locs := Eq.mp (congrArg (fun z9 => xM D (TY q) [w2 q ld ν0 ν1 ν2 z9, wst q ad X] A s.heap s H locs) e19) hM
    exact x_zret hx hb hr hlocks (ν1, nI sp, X) hM rfl ⟨(show nI 0 = zb ((xItem ν0 (tn ν2) S sp tt).1 = true) from by (first | (rw [hie.1]; done) | (rw [hif.1]; exact zb_f' Bool.false_ne_true))), (show okT X (xshf (xItem ν0 (tn ν2) S sp tt).2.1) ∧ ((xItem ν0 (tn ν2) S sp tt).1 = true → (nI sp) = nI (xItem ν0 (tn ν2) S sp tt).2.2.1) from by (exact ⟨by rw [hif.2]; exact hT, fun z => absurd (hif.1.symm.trans z) Bool.false_ne_true⟩))⟩ dX2_readItem_15
