set_option maxRecDepth 20000 in
theorem ggX6_peasToWin_X6_winningMeal : GoodIn wsX6_peasToWin wsX6_winningMeal := goodIn_r _ [6, 1, 7, 8, 9, 10, 11, 12] (by decide +kernel) (by decide +kernel)
set_option maxRecDepth 20000 in
theorem gX6_peasToWin_X6_winningMeal : GoodIn wsX6_peasToWin (wsV RX6 137 RX6 yX6_winningMeal wsX6_winningMeal) := goodIn_app (goodIn_of _ (by decide +kernel)) ggX6_peasToWin_X6_winningMeal
theorem dX6_peasToWin_0 : decode cX6_peasToWin 0 = .ok (.iconst 0, 1) := by decide +kernel
theorem dX6_peasToWin_1 : decode cX6_peasToWin 1 = .ok (.istore_n 3, 1) := by decide +kernel
theorem dX6_peasToWin_2 : decode cX6_peasToWin 2 = .ok (.iload_n 3, 1) := by decide +kernel
theorem dX6_peasToWin_3 : decode cX6_peasToWin 3 = .ok (.iload_n 1, 1) := by decide +kernel
theorem dX6_peasToWin_4 : decode cX6_peasToWin 4 = .ok (.if_icmp .ge 71, 3) := by decide +kernel
theorem dX6_peasToWin_7 : decode cX6_peasToWin 7 = .ok (.iconst 1, 1) := by decide +kernel
theorem dX6_peasToWin_8 : decode cX6_peasToWin 8 = .ok (.istore 4, 2) := by decide +kernel
theorem dX6_peasToWin_10 : decode cX6_peasToWin 10 = .ok (.iload 4, 2) := by decide +kernel
theorem dX6_peasToWin_12 : decode cX6_peasToWin 12 = .ok (.iload_n 2, 1) := by decide +kernel
theorem dX6_peasToWin_13 : decode cX6_peasToWin 13 = .ok (.if_icmp .gt 56, 3) := by decide +kernel
theorem dX6_peasToWin_16 : decode cX6_peasToWin 16 = .ok (.iload_n 3, 1) := by decide +kernel
theorem dX6_peasToWin_17 : decode cX6_peasToWin 17 = .ok (.bipush 10, 2) := by decide +kernel
theorem dX6_peasToWin_19 : decode cX6_peasToWin 19 = .ok (.imul, 1) := by decide +kernel
theorem dX6_peasToWin_20 : decode cX6_peasToWin 20 = .ok (.iload 4, 2) := by decide +kernel
theorem dX6_peasToWin_22 : decode cX6_peasToWin 22 = .ok (.iadd, 1) := by decide +kernel
theorem dX6_peasToWin_23 : decode cX6_peasToWin 23 = .ok (.istore 5, 2) := by decide +kernel
theorem dX6_peasToWin_25 : decode cX6_peasToWin 25 = .ok (.iload 5, 2) := by decide +kernel
theorem dX6_peasToWin_27 : decode cX6_peasToWin 27 = .ok (.ifCond .lt 36, 3) := by decide +kernel
theorem dX6_peasToWin_30 : decode cX6_peasToWin 30 = .ok (.iload 5, 2) := by decide +kernel
theorem dX6_peasToWin_32 : decode cX6_peasToWin 32 = .ok (.aload_n 0, 1) := by decide +kernel
theorem dX6_peasToWin_33 : decode cX6_peasToWin 33 = .ok (.getfield 18, 3) := by decide +kernel
theorem dX6_peasToWin_36 : decode cX6_peasToWin 36 = .ok (.arraylength, 1) := by decide +kernel
theorem dX6_peasToWin_37 : decode cX6_peasToWin 37 = .ok (.if_icmp .ge 26, 3) := by decide +kernel
theorem dX6_peasToWin_40 : decode cX6_peasToWin 40 = .ok (.aload_n 0, 1) := by decide +kernel
theorem dX6_peasToWin_41 : decode cX6_peasToWin 41 = .ok (.getfield 18, 3) := by decide +kernel
theorem dX6_peasToWin_44 : decode cX6_peasToWin 44 = .ok (.iload 5, 2) := by decide +kernel
theorem dX6_peasToWin_46 : decode cX6_peasToWin 46 = .ok (.aload_n 0, 1) := by decide +kernel
theorem dX6_peasToWin_47 : decode cX6_peasToWin 47 = .ok (.iload_n 3, 1) := by decide +kernel
theorem dX6_peasToWin_48 : decode cX6_peasToWin 48 = .ok (.iload 4, 2) := by decide +kernel
theorem dX6_peasToWin_50 : decode cX6_peasToWin 50 = .ok (.iload_n 2, 1) := by decide +kernel
theorem dX6_peasToWin_51 : decode cX6_peasToWin 51 = .ok (.invokevirtual 137, 3) := by decide +kernel
theorem dX6_peasToWin_54 : decode cX6_peasToWin 54 = .ok (.ifCond .le 7, 3) := by decide +kernel
theorem dX6_peasToWin_57 : decode cX6_peasToWin 57 = .ok (.iconst 1, 1) := by decide +kernel
theorem dX6_peasToWin_58 : decode cX6_peasToWin 58 = .ok (.goto 4, 3) := by decide +kernel
theorem dX6_peasToWin_61 : decode cX6_peasToWin 61 = .ok (.iconst 0, 1) := by decide +kernel
theorem dX6_peasToWin_62 : decode cX6_peasToWin 62 = .ok (.bastore, 1) := by decide +kernel
theorem dX6_peasToWin_63 : decode cX6_peasToWin 63 = .ok (.iinc 4 1, 3) := by decide +kernel
theorem dX6_peasToWin_66 : decode cX6_peasToWin 66 = .ok (.goto (-56), 3) := by decide +kernel
theorem dX6_peasToWin_69 : decode cX6_peasToWin 69 = .ok (.iinc 3 1, 3) := by decide +kernel
theorem dX6_peasToWin_72 : decode cX6_peasToWin 72 = .ok (.goto (-70), 3) := by decide +kernel
theorem dX6_peasToWin_75 : decode cX6_peasToWin 75 = .ok (.aload_n 0, 1) := by decide +kernel
theorem dX6_peasToWin_76 : decode cX6_peasToWin 76 = .ok (.iload_n 1, 1) := by decide +kernel
theorem dX6_peasToWin_77 : decode cX6_peasToWin 77 = .ok (.iconst 0, 1) := by decide +kernel
theorem dX6_peasToWin_78 : decode cX6_peasToWin 78 = .ok (.iload_n 2, 1) := by decide +kernel
theorem dX6_peasToWin_79 : decode cX6_peasToWin 79 = .ok (.invokevirtual 137, 3) := by decide +kernel
theorem dX6_peasToWin_82 : decode cX6_peasToWin 82 = .ok (.ireturn, 1) := by decide +kernel
theorem lkX6_peasToWin_18 : Cond.fieldLink RX6 18 "LeftAtFive$Shops" "wins" "[Z" ∈ wsX6_peasToWin := by decide +kernel
theorem iwX6_peasToWin_X6 : ∀ w ∈ wsX60, w ∈ wsX6_peasToWin := by decide +kernel
set_option maxHeartbeats 2000000 in
set_option maxRecDepth 100000 in
theorem c_X6_peasToWin (l : Launch) (D : va_G) (q : Nat → ClassId) (ad : Nat → Nat) (τ0 : Int32) (τ1 : Int64) (τ2 : Int32) (τ3 : Nat → Int32) (τ4 : Nat → Int32) (τ5 : Nat → Int32) (n : Nat) (mm : Nat) (hn9 : n ≤ 99) (hm9 : mm ≤ 9) : xC l yX6_peasToWin wsX6_peasToWin ({ frames := 1, cells := 0, slots := 0, locals := 25 }) D (TY q) [w6 q ad τ0 τ1 τ2 τ3 τ4 τ5] [.ref (ad 0), .int (nI n), .int (nI mm)] (xQi D (TY q) (fun (r : Int32) (_ : Unit) => r = nI (xwe (xct mm τ5 n) n 0 mm)) (fun _ => [w6 q ad τ0 τ1 τ2 τ3 τ4 (xct mm τ5 n)])) 0 0 := by
  refine x_enter (cc := cX6_peasToWin) (maxL := 6) (ret := (some .int)) (by decide) rfl (Nat.le_of_ble_eq_true rfl) ?_
  intro p e s m below meth c A ls H locs hfix hr hlocks hinit hM hl
  obtain ⟨hx, hb, hml, hown, hts⟩ := id hfix
  have hl : lv_has ls 6 [(0, .ref (ad 0)), (1, .int (nI n)), (2, .int (nI mm))] := hl
  refine lv_iconst (v := nI 0) hx hb dX6_peasToWin_0 (by decide) ?_
  refine lv_istore_n (lv' := [(3, .int (nI 0)), (0, .ref (ad 0)), (1, .int (nI n)), (2, .int (nI mm))]) hx hb dX6_peasToWin_1 rfl hl (by decide) rfl (fun ls hl => ?_)
  have e2 : ((τ5) : Nat → Int32) = ((xct mm τ5 0)) := by rfl
  have hM : xM D (TY q) [w6 q ad τ0 τ1 τ2 τ3 τ4 (xct mm τ5 0)] A s.heap s H locs := Eq.mp (congrArg (fun z9 => xM D (TY q) [w6 q ad τ0 τ1 τ2 τ3 τ4 z9] A s.heap s H locs) e2) hM
  refine x_loop (ι := Nat) (fun v => [(0, .ref (ad 0)), (1, .int (nI n)), (2, .int (nI mm)), (3, .int (nI v))]) (fun v => [w6 q ad τ0 τ1 τ2 τ3 τ4 (xct mm τ5 v)]) (fun v => v ≤ n) (fun v => n - v) 0 (by omega) hM (lv_sub hl [1, 2, 3, 0] rfl) ?_
  intro v hI4 ih3 H locs hM ls hl
  have hM : xM D (TY q) [w6 q ad τ0 τ1 τ2 τ3 τ4 (xct mm τ5 v)] A s.heap s H locs := hM
  have hl : lv_has ls 6 [(0, .ref (ad 0)), (1, .int (nI n)), (2, .int (nI mm)), (3, .int (nI v))] := hl
  have hI4 : v ≤ n := hI4
  try dsimp only
  refine lv_iload_n hx hb dX6_peasToWin_2 rfl (lv_at hl 3 rfl) ?_
  refine lv_iload_n hx hb dX6_peasToWin_3 rfl (lv_at hl 1 rfl) ?_
  refine x_icmp_ge (x := v) (y := n) (tgt := 75) hx hb (by omega) (by omega) dX6_peasToWin_4 (by decide) (fun c5 => ?_) (fun c5 => ?_)
  · have e6 : (((xct mm τ5 v)) : Nat → Int32) = ((xct mm τ5 n)) := by rw [show v = n by omega]
    have hM : xM D (TY q) [w6 q ad τ0 τ1 τ2 τ3 τ4 (xct mm τ5 n)] A s.heap s H locs := Eq.mp (congrArg (fun z9 => xM D (TY q) [w6 q ad τ0 τ1 τ2 τ3 τ4 z9] A s.heap s H locs) e6) hM
    refine lv_aload_n hx hb dX6_peasToWin_75 rfl (lv_at hl 0 rfl) ?_
    refine lv_iload_n hx hb dX6_peasToWin_76 rfl (lv_at hl 1 rfl) ?_
    refine lv_iconst (v := nI 0) hx hb dX6_peasToWin_77 (by decide) ?_
    refine lv_iload_n hx hb dX6_peasToWin_78 rfl (lv_at hl 2 rfl) ?_
    refine x_calli (bc := [w6 q ad τ0 τ1 τ2 τ3 τ4 (xct mm τ5 n)]) (br := []) hM [0] [] rfl rfl rfl (by decide) (x_runV (As := [.int (nI n), .int (nI 0), .int (nI mm)]) (rest := []) hfix (c_X6_winningMeal l D q ad τ0 τ1 τ2 τ3 τ4 (xct mm τ5 n) n 0 mm (by omega) (by omega) (by omega)) (cwV 3 hts gX6_peasToWin_X6_winningMeal rfl rfl rfl (by decide +kernel) ⟨Nat.le_of_ble_eq_true rfl, Nat.le_of_ble_eq_true rfl⟩) hM [0] rfl rfl 0 0 rfl rfl rfl rfl rfl hl.1 rfl (Nat.le_of_ble_eq_true rfl) dX6_peasToWin_79 ⟨Nat.le_of_ble_eq_true rfl, Nat.le_of_ble_eq_true rfl⟩) (fun r u H locs hq hM => ?_)
    subst hq
    have hM : xM D (TY q) [w6 q ad τ0 τ1 τ2 τ3 τ4 (xct mm τ5 n)] A s.heap s H locs := hM
    exact x_iret hx hb hr hlocks () hM (show nI (xwe (xct mm τ5 n) n 0 mm) = nI (xwe (xct mm τ5 n) n 0 mm) from rfl) dX6_peasToWin_82
  · refine lv_iconst (v := nI 1) hx hb dX6_peasToWin_7 (by decide) ?_
    refine lv_istore (lv' := [(4, .int (nI 1)), (0, .ref (ad 0)), (1, .int (nI n)), (2, .int (nI mm)), (3, .int (nI v))]) hx hb dX6_peasToWin_8 hl (by decide) rfl (fun ls hl => ?_)
    have e8 : (((xct mm τ5 v)) : Nat → Int32) = ((xcr mm v (xct mm τ5 v) 0)) := by rfl
    have hM : xM D (TY q) [w6 q ad τ0 τ1 τ2 τ3 τ4 (xcr mm v (xct mm τ5 v) 0)] A s.heap s H locs := Eq.mp (congrArg (fun z9 => xM D (TY q) [w6 q ad τ0 τ1 τ2 τ3 τ4 z9] A s.heap s H locs) e8) hM
    refine x_loop (ι := Nat) (fun t => [(0, .ref (ad 0)), (1, .int (nI n)), (2, .int (nI mm)), (3, .int (nI v)), (4, .int (nI (t + 1)))]) (fun t => [w6 q ad τ0 τ1 τ2 τ3 τ4 (xcr mm v (xct mm τ5 v) t)]) (fun t => t ≤ mm) (fun t => mm - t) 0 (by omega) hM (lv_sub hl [1, 2, 3, 4, 0] rfl) ?_
    intro t hI10 ih9 H locs hM ls hl
    have hM : xM D (TY q) [w6 q ad τ0 τ1 τ2 τ3 τ4 (xcr mm v (xct mm τ5 v) t)] A s.heap s H locs := hM
    have hl : lv_has ls 6 [(0, .ref (ad 0)), (1, .int (nI n)), (2, .int (nI mm)), (3, .int (nI v)), (4, .int (nI (t + 1)))] := hl
    have hI10 : t ≤ mm := hI10
    try dsimp only
    refine lv_iload hx hb dX6_peasToWin_10 (lv_at hl 4 rfl) ?_
    refine lv_iload_n hx hb dX6_peasToWin_12 rfl (lv_at hl 2 rfl) ?_
    refine x_icmp_gt (x := t + 1) (y := mm) (tgt := 69) hx hb (by omega) (by omega) dX6_peasToWin_13 (by decide) (fun c11 => ?_) (fun c11 => ?_)
    · refine lv_iinc (v := nI (v + 1)) (lv' := [(3, .int (nI (v + 1))), (0, .ref (ad 0)), (1, .int (nI n)), (2, .int (nI mm)), (4, .int (nI (t + 1)))]) hx hb dX6_peasToWin_69 hl (k := 3) rfl (x_inc _ 1) (by decide) rfl (fun ls hl => ?_)
      refine lv_goto (tgt := 2) hx hb dX6_peasToWin_72 (by decide) ?_
      have e12 : (((xcr mm v (xct mm τ5 v) t)) : Nat → Int32) = ((xct mm τ5 (v + 1))) := by (rw [show t = mm by omega]; rfl)
      have hM : xM D (TY q) [w6 q ad τ0 τ1 τ2 τ3 τ4 (xct mm τ5 (v + 1))] A s.heap s H locs := Eq.mp (congrArg (fun z9 => xM D (TY q) [w6 q ad τ0 τ1 τ2 τ3 τ4 z9] A s.heap s H locs) e12) hM
      have hl : lv_has ls 6 [(0, .ref (ad 0)), (1, .int (nI n)), (2, .int (nI mm)), (3, .int (nI (v + 1)))] := lv_sub hl [1, 2, 3, 0] rfl
      exact ih3 (v + 1) (show n - (v + 1) < n - v from by omega) (show (v + 1) ≤ n from by omega) _ _ hM _ hl
    · refine lv_iload_n hx hb dX6_peasToWin_16 rfl (lv_at hl 3 rfl) ?_
      refine lv_bipush (v := nI 10) hx hb dX6_peasToWin_17 (by decide) ?_
      refine x_imul (x := v) (y := 10) hx hb dX6_peasToWin_19 ?_
      refine lv_iload hx hb dX6_peasToWin_20 (lv_at hl 4 rfl) ?_
      refine x_iadd (x := v * 10) (y := t + 1) hx hb dX6_peasToWin_22 ?_
      refine lv_istore (lv' := [(5, .int (nI (v * 10 + (t + 1)))), (0, .ref (ad 0)), (1, .int (nI n)), (2, .int (nI mm)), (3, .int (nI v)), (4, .int (nI (t + 1)))]) hx hb dX6_peasToWin_23 hl (by decide) rfl (fun ls hl => ?_)
      refine lv_iload hx hb dX6_peasToWin_25 (lv_at hl 0 rfl) ?_
      refine x_if_lt (x := v * 10 + (t + 1)) (tgt := 63) hx hb (by omega) dX6_peasToWin_27 (by decide) ?_
      refine lv_iload hx hb dX6_peasToWin_30 (lv_at hl 0 rfl) ?_
      refine lv_aload_n hx hb dX6_peasToWin_32 rfl (lv_at hl 1 rfl) ?_
      refine x_get hx hb hts iwX6_peasToWin_X6 hown hM 0 0 rfl rfl rfl 5 (by decide) (hts _ lkX6_peasToWin_18) (fun _ h => h) rfl dX6_peasToWin_33 ?_
      refine x_alen hx hb hM 0 3 2 rfl rfl rfl dX6_peasToWin_36 ?_
      refine x_icmp_ge (x := v * 10 + (t + 1)) (y := 1000) (tgt := 63) hx hb (by omega) (by omega) dX6_peasToWin_37 (by decide) (fun c13 => ?_) (fun c13 => ?_)
      · refine lv_iinc (v := nI (t + 1 + 1)) (lv' := [(4, .int (nI (t + 1 + 1))), (5, .int (nI (v * 10 + (t + 1)))), (0, .ref (ad 0)), (1, .int (nI n)), (2, .int (nI mm)), (3, .int (nI v))]) hx hb dX6_peasToWin_63 hl (k := 5) rfl (x_inc _ 1) (by decide) rfl (fun ls hl => ?_)
        refine lv_goto (tgt := 10) hx hb dX6_peasToWin_66 (by decide) ?_
        have e14 : (((xcr mm v (xct mm τ5 v) t)) : Nat → Int32) = ((xcr mm v (xct mm τ5 v) (t + 1))) := by (first | exact congrArg (upd _ _) (zb_t' (by omega)) | exact congrArg (upd _ _) (zb_f' (by omega)) | (exfalso; omega))
        have hM : xM D (TY q) [w6 q ad τ0 τ1 τ2 τ3 τ4 (xcr mm v (xct mm τ5 v) (t + 1))] A s.heap s H locs := Eq.mp (congrArg (fun z9 => xM D (TY q) [w6 q ad τ0 τ1 τ2 τ3 τ4 z9] A s.heap s H locs) e14) hM
        have hl : lv_has ls 6 [(0, .ref (ad 0)), (1, .int (nI n)), (2, .int (nI mm)), (3, .int (nI v)), (4, .int (nI (t + 1 + 1)))] := lv_sub hl [2, 3, 4, 5, 0] rfl
        exact ih9 (t + 1) (show mm - (t + 1) < mm - t from by omega) (show (t + 1) ≤ mm from by omega) _ _ hM _ hl
      · refine lv_aload_n hx hb dX6_peasToWin_40 rfl (lv_at hl 1 rfl) ?_
        refine x_get hx hb hts iwX6_peasToWin_X6 hown hM 0 0 rfl rfl rfl 5 (by decide) (hts _ lkX6_peasToWin_18) (fun _ h => h) rfl dX6_peasToWin_41 ?_
        refine lv_iload hx hb dX6_peasToWin_44 (lv_at hl 0 rfl) ?_
        refine lv_aload_n hx hb dX6_peasToWin_46 rfl (lv_at hl 1 rfl) ?_
        refine lv_iload_n hx hb dX6_peasToWin_47 rfl (lv_at hl 4 rfl) ?_
        refine lv_iload hx hb dX6_peasToWin_48 (lv_at hl 5 rfl) ?_
        refine lv_iload_n hx hb dX6_peasToWin_50 rfl (lv_at hl 3 rfl) ?_
        refine x_calli (bc := [w6 q ad τ0 τ1 τ2 τ3 τ4 (xcr mm v (xct mm τ5 v) t)]) (br := []) hM [0] [] rfl rfl rfl (by decide) (x_runV (As := [.int (nI v), .int (nI (t + 1)), .int (nI mm)]) (rest := [.int (nI (v * 10 + (t + 1))), .ref (ad 6)]) hfix (c_X6_winningMeal l D q ad τ0 τ1 τ2 τ3 τ4 (xcr mm v (xct mm τ5 v) t) v (t + 1) mm (by omega) (by omega) (by omega)) (cwV 3 hts gX6_peasToWin_X6_winningMeal rfl rfl rfl (by decide +kernel) ⟨Nat.le_of_ble_eq_true rfl, Nat.le_of_ble_eq_true rfl⟩) hM [0] rfl rfl 0 0 rfl rfl rfl rfl rfl hl.1 rfl (Nat.le_of_ble_eq_true rfl) dX6_peasToWin_51 ⟨Nat.le_of_ble_eq_true rfl, Nat.le_of_ble_eq_true rfl⟩) (fun r u H locs hq hM => ?_)
        subst hq
        have hM : xM D (TY q) [w6 q ad τ0 τ1 τ2 τ3 τ4 (xcr mm v (xct mm τ5 v) t)] A s.heap s H locs := hM
        have hwl := xwe_le (xcr mm v (xct mm τ5 v) t) v (t + 1) mm
        refine x_if_le (x := xwe (xcr mm v (xct mm τ5 v) t) v (t + 1) mm) (tgt := 61) hx hb (by omega) dX6_peasToWin_54 (by decide) (fun c15 => ?_) (fun c15 => ?_)
        · refine lv_iconst (v := nI 0) hx hb dX6_peasToWin_61 (by decide) ?_
          refine x_zast hx hb hM 0 3 2 (f := (xcr mm v (xct mm τ5 v) t)) rfl rfl rfl (t := v * 10 + (t + 1)) (x := nI 0) (by omega) (by decide) (by decide) [w6 q ad τ0 τ1 τ2 τ3 τ4 (upd (xcr mm v (xct mm τ5 v) t) (v * 10 + (t + 1)) (nI 0))] rfl dX6_peasToWin_62 (fun H locs hM => ?_)
          refine lv_iinc (v := nI (t + 1 + 1)) (lv' := [(4, .int (nI (t + 1 + 1))), (5, .int (nI (v * 10 + (t + 1)))), (0, .ref (ad 0)), (1, .int (nI n)), (2, .int (nI mm)), (3, .int (nI v))]) hx hb dX6_peasToWin_63 hl (k := 5) rfl (x_inc _ 1) (by decide) rfl (fun ls hl => ?_)
          refine lv_goto (tgt := 10) hx hb dX6_peasToWin_66 (by decide) ?_
          have e16 : ((upd (xcr mm v (xct mm τ5 v) t) (v * 10 + (t + 1)) (nI 0)) : Nat → Int32) = ((xcr mm v (xct mm τ5 v) (t + 1))) := by (first | exact congrArg (upd _ _) (zb_t' (by omega)) | exact congrArg (upd _ _) (zb_f' (by omega)) | (exfalso; omega))
          have hM : xM D (TY q) [w6 q ad τ0 τ1 τ2 τ3 τ4 (xcr mm v (xct mm τ5 v) (t + 1))] A s.heap s H locs := Eq.mp (congrArg (fun z9 => xM D (TY q) [w6 q ad τ0 τ1 τ2 τ3 τ4 z9] A s.heap s H locs) e16) hM
          have hl : lv_has ls 6 [(0, .ref (ad 0)), (1, .int (nI n)), (2, .int (nI mm)), (3, .int (nI v)), (4, .int (nI (t + 1 + 1)))] := lv_sub hl [2, 3, 4, 5, 0] rfl
          exact ih9 (t + 1) (show mm - (t + 1) < mm - t from by omega) (show (t + 1) ≤ mm from by omega) _ _ hM _ hl
        · refine lv_iconst (v := nI 1) hx hb dX6_peasToWin_57 (by decide) ?_
          refine lv_goto (tgt := 62) hx hb dX6_peasToWin_58 (by decide) ?_
          refine x_zast hx hb hM 0 3 2 (f := (xcr mm v (xct mm τ5 v) t)) rfl rfl rfl (t := v * 10 + (t + 1)) (x := nI 1) (by omega) (by decide) (by decide) [w6 q ad τ0 τ1 τ2 τ3 τ4 (upd (xcr mm v (xct mm τ5 v) t) (v * 10 + (t + 1)) (nI 1))] rfl dX6_peasToWin_62 (fun H locs hM => ?_)
          refine lv_iinc (v := nI (t + 1 + 1)) (lv' := [(4, .int (nI (t + 1 + 1))), (5, .int (nI (v * 10 + (t + 1)))), (0, .ref (ad 0)), (1, .int (nI n)), (2, .int (nI mm)), (3, .int (nI v))]) hx hb dX6_peasToWin_63 hl (k := 5) rfl (x_inc _ 1) (by decide) rfl (fun ls hl => ?_)
          refine lv_goto (tgt := 10) hx hb dX6_peasToWin_66 (by decide) ?_
          have e17 : ((upd (xcr mm v (xct mm τ5 v) t) (v * 10 + (t + 1)) (nI 1)) : Nat → Int32) = ((xcr mm v (xct mm τ5 v) (t + 1))) := by (first | exact congrArg (upd _ _) (zb_t' (by omega)) | exact congrArg (upd _ _) (zb_f' (by omega)) | (exfalso; omega))
          have hM : xM D (TY q) [w6 q ad τ0 τ1 τ2 τ3 τ4 (xcr mm v (xct mm τ5 v) (t + 1))] A s.heap s H locs := Eq.mp (congrArg (fun z9 => xM D (TY q) [w6 q ad τ0 τ1 τ2 τ3 τ4 z9] A s.heap s H locs) e17) hM
          have hl : lv_has ls 6 [(0, .ref (ad 0)), (1, .int (nI n)), (2, .int (nI mm)), (3, .int (nI v)), (4, .int (nI (t + 1 + 1)))] := lv_sub hl [2, 3, 4, 5, 0] rfl
          exact ih9 (t + 1) (show mm - (t + 1) < mm - t from by omega) (show (t + 1) ≤ mm from by omega) _ _ hM _ hl
