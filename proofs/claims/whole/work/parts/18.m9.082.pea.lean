set_option maxRecDepth 20000 in
theorem ggX9_pea_X9_in : GoodIn wsX9_pea wsX9_in := goodIn_r _ [7] (by decide +kernel) (by decide +kernel)
set_option maxRecDepth 20000 in
theorem gX9_pea_X9_in : GoodIn wsX9_pea (va_wsS RX9 104 yX9_in wsX9_in) := goodIn_app (goodIn_of _ (by decide +kernel)) ggX9_pea_X9_in
theorem dX9_pea_0 : decode cX9_pea 0 = .ok (.iload_n 1, 1) := by decide +kernel
theorem dX9_pea_1 : decode cX9_pea 1 = .ok (.i2l, 1) := by decide +kernel
theorem dX9_pea_2 : decode cX9_pea 2 = .ok (.lconst 1, 1) := by decide +kernel
theorem dX9_pea_3 : decode cX9_pea 3 = .ok (.ldc2_w 262, 3) := by decide +kernel
theorem dX9_pea_6 : decode cX9_pea 6 = .ok (.invokestatic 104, 3) := by decide +kernel
theorem dX9_pea_9 : decode cX9_pea 9 = .ok (.ifCond .eq 15, 3) := by decide +kernel
theorem dX9_pea_12 : decode cX9_pea 12 = .ok (.iload_n 2, 1) := by decide +kernel
theorem dX9_pea_13 : decode cX9_pea 13 = .ok (.i2l, 1) := by decide +kernel
theorem dX9_pea_14 : decode cX9_pea 14 = .ok (.lconst 1, 1) := by decide +kernel
theorem dX9_pea_15 : decode cX9_pea 15 = .ok (.ldc2_w 129, 3) := by decide +kernel
theorem dX9_pea_18 : decode cX9_pea 18 = .ok (.invokestatic 104, 3) := by decide +kernel
theorem dX9_pea_21 : decode cX9_pea 21 = .ok (.ifCond .ne 5, 3) := by decide +kernel
theorem dX9_pea_24 : decode cX9_pea 24 = .ok (.iconst (-1), 1) := by decide +kernel
theorem dX9_pea_25 : decode cX9_pea 25 = .ok (.ireturn, 1) := by decide +kernel
theorem dX9_pea_26 : decode cX9_pea 26 = .ok (.iconst 0, 1) := by decide +kernel
theorem dX9_pea_27 : decode cX9_pea 27 = .ok (.istore_n 3, 1) := by decide +kernel
theorem dX9_pea_28 : decode cX9_pea 28 = .ok (.iload_n 3, 1) := by decide +kernel
theorem dX9_pea_29 : decode cX9_pea 29 = .ok (.iload_n 1, 1) := by decide +kernel
theorem dX9_pea_30 : decode cX9_pea 30 = .ok (.if_icmp .gt 106, 3) := by decide +kernel
theorem dX9_pea_33 : decode cX9_pea 33 = .ok (.iconst 0, 1) := by decide +kernel
theorem dX9_pea_34 : decode cX9_pea 34 = .ok (.istore 4, 2) := by decide +kernel
theorem dX9_pea_36 : decode cX9_pea 36 = .ok (.iload 4, 2) := by decide +kernel
theorem dX9_pea_38 : decode cX9_pea 38 = .ok (.bipush 10, 2) := by decide +kernel
theorem dX9_pea_40 : decode cX9_pea 40 = .ok (.if_icmp .ge 90, 3) := by decide +kernel
theorem dX9_pea_43 : decode cX9_pea 43 = .ok (.iconst 0, 1) := by decide +kernel
theorem dX9_pea_44 : decode cX9_pea 44 = .ok (.istore 5, 2) := by decide +kernel
theorem dX9_pea_46 : decode cX9_pea 46 = .ok (.iload_n 2, 1) := by decide +kernel
theorem dX9_pea_47 : decode cX9_pea 47 = .ok (.istore 6, 2) := by decide +kernel
theorem dX9_pea_49 : decode cX9_pea 49 = .ok (.iload 6, 2) := by decide +kernel
theorem dX9_pea_51 : decode cX9_pea 51 = .ok (.ifCond .le 59, 3) := by decide +kernel
theorem dX9_pea_54 : decode cX9_pea 54 = .ok (.iload 6, 2) := by decide +kernel
theorem dX9_pea_56 : decode cX9_pea 56 = .ok (.iload_n 3, 1) := by decide +kernel
theorem dX9_pea_57 : decode cX9_pea 57 = .ok (.if_icmp .gt 43, 3) := by decide +kernel
theorem dX9_pea_60 : decode cX9_pea 60 = .ok (.iload 6, 2) := by decide +kernel
theorem dX9_pea_62 : decode cX9_pea 62 = .ok (.iload 4, 2) := by decide +kernel
theorem dX9_pea_64 : decode cX9_pea 64 = .ok (.if_icmp .eq 36, 3) := by decide +kernel
theorem dX9_pea_67 : decode cX9_pea 67 = .ok (.aload_n 0, 1) := by decide +kernel
theorem dX9_pea_68 : decode cX9_pea 68 = .ok (.getfield 82, 3) := by decide +kernel
theorem dX9_pea_71 : decode cX9_pea 71 = .ok (.bipush 10, 2) := by decide +kernel
theorem dX9_pea_73 : decode cX9_pea 73 = .ok (.iload_n 3, 1) := by decide +kernel
theorem dX9_pea_74 : decode cX9_pea 74 = .ok (.iload 6, 2) := by decide +kernel
theorem dX9_pea_76 : decode cX9_pea 76 = .ok (.iload_n 3, 1) := by decide +kernel
theorem dX9_pea_77 : decode cX9_pea 77 = .ok (.if_icmp .gt 8, 3) := by decide +kernel
theorem dX9_pea_80 : decode cX9_pea 80 = .ok (.iload 6, 2) := by decide +kernel
theorem dX9_pea_82 : decode cX9_pea 82 = .ok (.goto 4, 3) := by decide +kernel
theorem dX9_pea_85 : decode cX9_pea 85 = .ok (.iconst 0, 1) := by decide +kernel
theorem dX9_pea_86 : decode cX9_pea 86 = .ok (.isub, 1) := by decide +kernel
theorem dX9_pea_87 : decode cX9_pea 87 = .ok (.imul, 1) := by decide +kernel
theorem dX9_pea_88 : decode cX9_pea 88 = .ok (.iload 6, 2) := by decide +kernel
theorem dX9_pea_90 : decode cX9_pea 90 = .ok (.iadd, 1) := by decide +kernel
theorem dX9_pea_91 : decode cX9_pea 91 = .ok (.iaload, 1) := by decide +kernel
theorem dX9_pea_92 : decode cX9_pea 92 = .ok (.ifCond .ne 8, 3) := by decide +kernel
theorem dX9_pea_95 : decode cX9_pea 95 = .ok (.iload 6, 2) := by decide +kernel
theorem dX9_pea_97 : decode cX9_pea 97 = .ok (.goto 5, 3) := by decide +kernel
theorem dX9_pea_100 : decode cX9_pea 100 = .ok (.iload 5, 2) := by decide +kernel
theorem dX9_pea_102 : decode cX9_pea 102 = .ok (.istore 5, 2) := by decide +kernel
theorem dX9_pea_104 : decode cX9_pea 104 = .ok (.iinc 6 (-1), 3) := by decide +kernel
theorem dX9_pea_107 : decode cX9_pea 107 = .ok (.goto (-58), 3) := by decide +kernel
theorem dX9_pea_110 : decode cX9_pea 110 = .ok (.aload_n 0, 1) := by decide +kernel
theorem dX9_pea_111 : decode cX9_pea 111 = .ok (.getfield 82, 3) := by decide +kernel
theorem dX9_pea_114 : decode cX9_pea 114 = .ok (.bipush 10, 2) := by decide +kernel
theorem dX9_pea_116 : decode cX9_pea 116 = .ok (.iload_n 3, 1) := by decide +kernel
theorem dX9_pea_117 : decode cX9_pea 117 = .ok (.imul, 1) := by decide +kernel
theorem dX9_pea_118 : decode cX9_pea 118 = .ok (.iload 4, 2) := by decide +kernel
theorem dX9_pea_120 : decode cX9_pea 120 = .ok (.iadd, 1) := by decide +kernel
theorem dX9_pea_121 : decode cX9_pea 121 = .ok (.iload 5, 2) := by decide +kernel
theorem dX9_pea_123 : decode cX9_pea 123 = .ok (.iastore, 1) := by decide +kernel
theorem dX9_pea_124 : decode cX9_pea 124 = .ok (.iinc 4 1, 3) := by decide +kernel
theorem dX9_pea_127 : decode cX9_pea 127 = .ok (.goto (-91), 3) := by decide +kernel
theorem dX9_pea_130 : decode cX9_pea 130 = .ok (.iinc 3 1, 3) := by decide +kernel
theorem dX9_pea_133 : decode cX9_pea 133 = .ok (.goto (-105), 3) := by decide +kernel
theorem dX9_pea_136 : decode cX9_pea 136 = .ok (.aload_n 0, 1) := by decide +kernel
theorem dX9_pea_137 : decode cX9_pea 137 = .ok (.getfield 82, 3) := by decide +kernel
theorem dX9_pea_140 : decode cX9_pea 140 = .ok (.bipush 10, 2) := by decide +kernel
theorem dX9_pea_142 : decode cX9_pea 142 = .ok (.iload_n 1, 1) := by decide +kernel
theorem dX9_pea_143 : decode cX9_pea 143 = .ok (.imul, 1) := by decide +kernel
theorem dX9_pea_144 : decode cX9_pea 144 = .ok (.iaload, 1) := by decide +kernel
theorem dX9_pea_145 : decode cX9_pea 145 = .ok (.ireturn, 1) := by decide +kernel
theorem lkX9_pea_82 : Cond.fieldLink RX9 82 "LeftAtFiveModel" "wins" "[I" ∈ wsX9_pea := by decide +kernel
theorem iwX9_pea_X9 : ∀ w ∈ wsX90, w ∈ wsX9_pea := by decide +kernel
set_option maxHeartbeats 1000000 in
set_option maxRecDepth 100000 in
theorem c_X9_pea (l : Launch) (D : va_G) (q : Nat → ClassId) (ad : Nat → Nat) (σ0 : Int32) (σ1 : Nat → Int32) (σ2 : Nat → Int32) (σ3 : Nat → Int32) (σ4 : Nat → Int32) (σ5 : Nat → Int32) (σ6 : Nat → Int32) (σ7 : Nat → Int32) (σ8 : Nat → Int32) (σ9 : Nat → Int32) (σ10 : Nat → Int32) (σ11 : Nat → Int32) (σ12 : Nat → Int32) (σ13 : Nat → Int32) (σ14 : Nat → Int32) (σ15 : Nat → Int32) (σ16 : Nat → Int32) (σ17 : Nat → Int32) (σ18 : Nat → Int32) (σ19 : Nat → Int32) (σ20 : Int32) (σ21 : Int32) (σ22 : Int32) (σ23 : Nat → Int32) (σ24 : Int32) (σ25 : Int32) (σ26 : Nat → Int32) (σ27 : Nat → Int32) (σ28 : Nat → Int32) (σ29 : Nat → Int32) (σ30 : Nat → Int32) (n : Nat) (mm : Nat) (hn9 : 1 ≤ n ∧ n ≤ 99) (hm9 : 1 ≤ mm ∧ mm ≤ 9) : xC l yX9_pea wsX9_pea ({ frames := 1, cells := 0, slots := 0, locals := 25 }) D (TY q) [w9 q ad σ0 σ1 σ2 σ3 σ4 σ5 σ6 σ7 σ8 σ9 σ10 σ11 σ12 σ13 σ14 σ15 σ16 σ17 σ18 σ19 σ20 σ21 σ22 σ23 σ24 σ25 σ26 σ27 σ28 σ29 σ30] [.ref (ad 0), .int (nI n), .int (nI mm)] (xQi D (TY q) (fun (r : Int32) (_ : (Nat → Int32)) => r = (xpt mm σ30 (n + 1)) (10 * n)) (fun (u : (Nat → Int32)) => [w9 q ad σ0 σ1 σ2 σ3 σ4 σ5 σ6 σ7 σ8 σ9 σ10 σ11 σ12 σ13 σ14 σ15 σ16 σ17 σ18 σ19 σ20 σ21 σ22 σ23 σ24 σ25 σ26 σ27 σ28 σ29 u])) 0 0 := by
  refine x_enter (cc := cX9_pea) (maxL := 7) (ret := (some .int)) (by decide) rfl (Nat.le_of_ble_eq_true rfl) ?_
  intro p e s m below meth c A ls H locs hfix hr hlocks hinit hM hl
  obtain ⟨hx, hb, hml, hown, hts⟩ := id hfix
  have hl : lv_has ls 7 [(0, .ref (ad 0)), (1, .int (nI n)), (2, .int (nI mm))] := hl
  refine lv_iload_n hx hb dX9_pea_0 rfl (lv_at hl 1 rfl) ?_
  refine x_i2l hx hb dX9_pea_1 ?_
  refine lv_lconst (v := 1) hx hb dX9_pea_2 (by decide) ?_
  refine lv_ldc2 (v := 99) hx hb hown (hts (.constantLong RX9 262 (99)) (by decide +kernel)) dX9_pea_3 ?_
  refine x_calli (bc := []) (br := [w9 q ad σ0 σ1 σ2 σ3 σ4 σ5 σ6 σ7 σ8 σ9 σ10 σ11 σ12 σ13 σ14 σ15 σ16 σ17 σ18 σ19 σ20 σ21 σ22 σ23 σ24 σ25 σ26 σ27 σ28 σ29 σ30]) hM [] [0] rfl rfl rfl (by decide) (x_runS (As := [.long ((nI n).toInt64), .long (1 : Int64), .long (99 : Int64)]) (rest := []) hfix (c_X9_in l D q ((nI n).toInt64) (1 : Int64) (99 : Int64) ((n : Nat) : Int) (1 : Int) (99 : Int) ((Jvm.Kit.i64_of_i32 _).trans (nI_toInt (n := n) (by omega))) (by decide) (by decide)) (va_cwS 3 hts gX9_pea_X9_in rfl rfl rfl (by decide +kernel) ⟨Nat.le_of_ble_eq_true rfl, Nat.le_of_ble_eq_true rfl⟩) hM [] rfl rfl rfl hl.1 rfl (Nat.le_of_ble_eq_true rfl) dX9_pea_6 ⟨Nat.le_of_ble_eq_true rfl, Nat.le_of_ble_eq_true rfl⟩) (fun r u H locs hq hM => ?_)
  subst hq
  have hM : xM D (TY q) [w9 q ad σ0 σ1 σ2 σ3 σ4 σ5 σ6 σ7 σ8 σ9 σ10 σ11 σ12 σ13 σ14 σ15 σ16 σ17 σ18 σ19 σ20 σ21 σ22 σ23 σ24 σ25 σ26 σ27 σ28 σ29 σ30] A s.heap s H locs := hM
  refine x_ifz_eq (P := (1 : Int) ≤ ((n : Nat) : Int) ∧ ((n : Nat) : Int) ≤ (99 : Int)) (tgt := 24) hx hb dX9_pea_9 (by decide) (fun c1 => ?_) (fun c1 => ?_)
  · exfalso; omega
  · refine lv_iload_n hx hb dX9_pea_12 rfl (lv_at hl 2 rfl) ?_
    refine x_i2l hx hb dX9_pea_13 ?_
    refine lv_lconst (v := 1) hx hb dX9_pea_14 (by decide) ?_
    refine lv_ldc2 (v := 9) hx hb hown (hts (.constantLong RX9 129 (9)) (by decide +kernel)) dX9_pea_15 ?_
    refine x_calli (bc := []) (br := [w9 q ad σ0 σ1 σ2 σ3 σ4 σ5 σ6 σ7 σ8 σ9 σ10 σ11 σ12 σ13 σ14 σ15 σ16 σ17 σ18 σ19 σ20 σ21 σ22 σ23 σ24 σ25 σ26 σ27 σ28 σ29 σ30]) hM [] [0] rfl rfl rfl (by decide) (x_runS (As := [.long ((nI mm).toInt64), .long (1 : Int64), .long (9 : Int64)]) (rest := []) hfix (c_X9_in l D q ((nI mm).toInt64) (1 : Int64) (9 : Int64) ((mm : Nat) : Int) (1 : Int) (9 : Int) ((Jvm.Kit.i64_of_i32 _).trans (nI_toInt (n := mm) (by omega))) (by decide) (by decide)) (va_cwS 3 hts gX9_pea_X9_in rfl rfl rfl (by decide +kernel) ⟨Nat.le_of_ble_eq_true rfl, Nat.le_of_ble_eq_true rfl⟩) hM [] rfl rfl rfl hl.1 rfl (Nat.le_of_ble_eq_true rfl) dX9_pea_18 ⟨Nat.le_of_ble_eq_true rfl, Nat.le_of_ble_eq_true rfl⟩) (fun r u H locs hq hM => ?_)
    subst hq
    have hM : xM D (TY q) [w9 q ad σ0 σ1 σ2 σ3 σ4 σ5 σ6 σ7 σ8 σ9 σ10 σ11 σ12 σ13 σ14 σ15 σ16 σ17 σ18 σ19 σ20 σ21 σ22 σ23 σ24 σ25 σ26 σ27 σ28 σ29 σ30] A s.heap s H locs := hM
    refine x_ifz_ne (P := (1 : Int) ≤ ((mm : Nat) : Int) ∧ ((mm : Nat) : Int) ≤ (9 : Int)) (tgt := 26) hx hb dX9_pea_21 (by decide) (fun c2 => ?_) (fun c2 => ?_)
    · refine lv_iconst (v := nI 0) hx hb dX9_pea_26 (by decide) ?_
      refine lv_istore_n (lv' := [(3, .int (nI 0)), (0, .ref (ad 0)), (1, .int (nI n)), (2, .int (nI mm))]) hx hb dX9_pea_27 rfl hl (by decide) rfl (fun ls hl => ?_)
      have hM3 : xM D (TY q) [w9 q ad σ0 σ1 σ2 σ3 σ4 σ5 σ6 σ7 σ8 σ9 σ10 σ11 σ12 σ13 σ14 σ15 σ16 σ17 σ18 σ19 σ20 σ21 σ22 σ23 σ24 σ25 σ26 σ27 σ28 σ29 (xpt mm σ30 0)] A s.heap s H locs := by exact hM
      refine x_loop (ι := Nat) (fun v => [(0, .ref (ad 0)), (1, .int (nI n)), (2, .int (nI mm)), (3, .int (nI v))]) (fun v => [w9 q ad σ0 σ1 σ2 σ3 σ4 σ5 σ6 σ7 σ8 σ9 σ10 σ11 σ12 σ13 σ14 σ15 σ16 σ17 σ18 σ19 σ20 σ21 σ22 σ23 σ24 σ25 σ26 σ27 σ28 σ29 (xpt mm σ30 v)]) (fun v => v ≤ n + 1) (fun v => n + 1 - v) 0 (by omega) hM3 (lv_sub hl [1, 2, 3, 0] rfl) ?_
      intro v hI5 ih4 H locs hM ls hl
      have hM : xM D (TY q) [w9 q ad σ0 σ1 σ2 σ3 σ4 σ5 σ6 σ7 σ8 σ9 σ10 σ11 σ12 σ13 σ14 σ15 σ16 σ17 σ18 σ19 σ20 σ21 σ22 σ23 σ24 σ25 σ26 σ27 σ28 σ29 (xpt mm σ30 v)] A s.heap s H locs := hM
      have hl : lv_has ls 7 [(0, .ref (ad 0)), (1, .int (nI n)), (2, .int (nI mm)), (3, .int (nI v))] := hl
      have hI5 : v ≤ n + 1 := hI5
      try dsimp only
      refine lv_iload_n hx hb dX9_pea_28 rfl (lv_at hl 3 rfl) ?_
      refine lv_iload_n hx hb dX9_pea_29 rfl (lv_at hl 1 rfl) ?_
      refine x_icmp_gt (x := v) (y := n) (tgt := 136) hx hb (by omega) (by omega) dX9_pea_30 (by decide) (fun c6 => ?_) (fun c6 => ?_)
      · refine lv_aload_n hx hb dX9_pea_136 rfl (lv_at hl 0 rfl) ?_
        refine x_get hx hb hts iwX9_pea_X9 hown hM 0 0 rfl rfl rfl 30 (by decide) (hts _ lkX9_pea_82) (fun _ h => h) rfl dX9_pea_137 ?_
        refine lv_bipush (v := nI 10) hx hb dX9_pea_140 (by decide) ?_
        refine lv_iload_n hx hb dX9_pea_142 rfl (lv_at hl 1 rfl) ?_
        refine x_imul (x := 10) (y := n) hx hb dX9_pea_143 ?_
        refine x_iald hx hb hM 0 25 0 (f := xpt mm σ30 v) rfl rfl rfl (t := 10 * n) (by omega) (by decide) dX9_pea_144 ?_
        have e7 : ((xpt mm σ30 v) : Nat → Int32) = ((xpt mm σ30 v)) := by rfl
        have hM : xM D (TY q) [w9 q ad σ0 σ1 σ2 σ3 σ4 σ5 σ6 σ7 σ8 σ9 σ10 σ11 σ12 σ13 σ14 σ15 σ16 σ17 σ18 σ19 σ20 σ21 σ22 σ23 σ24 σ25 σ26 σ27 σ28 σ29 (xpt mm σ30 v)] A s.heap s H locs := Eq.mp (congrArg (fun z9 => xM D (TY q) [w9 q ad σ0 σ1 σ2 σ3 σ4 σ5 σ6 σ7 σ8 σ9 σ10 σ11 σ12 σ13 σ14 σ15 σ16 σ17 σ18 σ19 σ20 σ21 σ22 σ23 σ24 σ25 σ26 σ27 σ28 σ29 z9] A s.heap s H locs) e7) hM
        exact x_iret hx hb hr hlocks (xpt mm σ30 v) hM (show (xpt mm σ30 v) (10 * n) = (xpt mm σ30 (n + 1)) (10 * n) from by (rw [show v = n + 1 by omega])) dX9_pea_145
      · refine lv_iconst (v := nI 0) hx hb dX9_pea_33 (by decide) ?_
        refine lv_istore (lv' := [(4, .int (nI 0)), (0, .ref (ad 0)), (1, .int (nI n)), (2, .int (nI mm)), (3, .int (nI v))]) hx hb dX9_pea_34 hl (by decide) rfl (fun ls hl => ?_)
        have hM8 : xM D (TY q) [w9 q ad σ0 σ1 σ2 σ3 σ4 σ5 σ6 σ7 σ8 σ9 σ10 σ11 σ12 σ13 σ14 σ15 σ16 σ17 σ18 σ19 σ20 σ21 σ22 σ23 σ24 σ25 σ26 σ27 σ28 σ29 (xpr mm v (xpt mm σ30 v) 0)] A s.heap s H locs := by exact hM
        refine x_loop (ι := Nat) (fun t => [(0, .ref (ad 0)), (1, .int (nI n)), (2, .int (nI mm)), (3, .int (nI v)), (4, .int (nI t))]) (fun t => [w9 q ad σ0 σ1 σ2 σ3 σ4 σ5 σ6 σ7 σ8 σ9 σ10 σ11 σ12 σ13 σ14 σ15 σ16 σ17 σ18 σ19 σ20 σ21 σ22 σ23 σ24 σ25 σ26 σ27 σ28 σ29 (xpr mm v (xpt mm σ30 v) t)]) (fun t => t ≤ 10) (fun t => 10 - t) 0 (by omega) hM8 (lv_sub hl [1, 2, 3, 4, 0] rfl) ?_
        intro t hI10 ih9 H locs hM ls hl
        have hM : xM D (TY q) [w9 q ad σ0 σ1 σ2 σ3 σ4 σ5 σ6 σ7 σ8 σ9 σ10 σ11 σ12 σ13 σ14 σ15 σ16 σ17 σ18 σ19 σ20 σ21 σ22 σ23 σ24 σ25 σ26 σ27 σ28 σ29 (xpr mm v (xpt mm σ30 v) t)] A s.heap s H locs := hM
        have hl : lv_has ls 7 [(0, .ref (ad 0)), (1, .int (nI n)), (2, .int (nI mm)), (3, .int (nI v)), (4, .int (nI t))] := hl
        have hI10 : t ≤ 10 := hI10
        try dsimp only
        refine lv_iload hx hb dX9_pea_36 (lv_at hl 4 rfl) ?_
        refine lv_bipush (v := nI 10) hx hb dX9_pea_38 (by decide) ?_
        refine x_icmp_ge (x := t) (y := 10) (tgt := 130) hx hb (by omega) (by omega) dX9_pea_40 (by decide) (fun c11 => ?_) (fun c11 => ?_)
        · refine lv_iinc (v := nI (v + 1)) (lv' := [(3, .int (nI (v + 1))), (0, .ref (ad 0)), (1, .int (nI n)), (2, .int (nI mm)), (4, .int (nI t))]) hx hb dX9_pea_130 hl (k := 3) rfl (x_inc _ 1) (by decide) rfl (fun ls hl => ?_)
          refine lv_goto (tgt := 28) hx hb dX9_pea_133 (by decide) ?_
          have e12 : (((xpr mm v (xpt mm σ30 v) t)) : Nat → Int32) = (xpt mm σ30 (v + 1)) := by (rw [show t = 10 by omega]; rfl)
          have hM : xM D (TY q) [w9 q ad σ0 σ1 σ2 σ3 σ4 σ5 σ6 σ7 σ8 σ9 σ10 σ11 σ12 σ13 σ14 σ15 σ16 σ17 σ18 σ19 σ20 σ21 σ22 σ23 σ24 σ25 σ26 σ27 σ28 σ29 (xpt mm σ30 (v + 1))] A s.heap s H locs := Eq.mp (congrArg (fun z9 => xM D (TY q) [w9 q ad σ0 σ1 σ2 σ3 σ4 σ5 σ6 σ7 σ8 σ9 σ10 σ11 σ12 σ13 σ14 σ15 σ16 σ17 σ18 σ19 σ20 σ21 σ22 σ23 σ24 σ25 σ26 σ27 σ28 σ29 z9] A s.heap s H locs) e12) hM
          have hl : lv_has ls 7 [(0, .ref (ad 0)), (1, .int (nI n)), (2, .int (nI mm)), (3, .int (nI (v + 1)))] := lv_sub hl [1, 2, 3, 0] rfl
          exact ih4 (v + 1) (show n + 1 - (v + 1) < n + 1 - v from by omega) (show (v + 1) ≤ n + 1 from by omega) _ _ hM _ hl
        · refine lv_iconst (v := nI 0) hx hb dX9_pea_43 (by decide) ?_
          refine lv_istore (lv' := [(5, .int (nI 0)), (0, .ref (ad 0)), (1, .int (nI n)), (2, .int (nI mm)), (3, .int (nI v)), (4, .int (nI t))]) hx hb dX9_pea_44 hl (by decide) rfl (fun ls hl => ?_)
          refine lv_iload_n hx hb dX9_pea_46 rfl (lv_at hl 3 rfl) ?_
          refine lv_istore (lv' := [(6, .int (nI mm)), (5, .int (nI 0)), (0, .ref (ad 0)), (1, .int (nI n)), (2, .int (nI mm)), (3, .int (nI v)), (4, .int (nI t))]) hx hb dX9_pea_47 hl (by decide) rfl (fun ls hl => ?_)
          refine x_loop (ι := Nat) (fun j => [(0, .ref (ad 0)), (1, .int (nI n)), (2, .int (nI mm)), (3, .int (nI v)), (4, .int (nI t)), (5, .int (nI (xpe (xpr mm v (xpt mm σ30 v) t) v t mm j))), (6, .int (nI (mm - j)))]) (fun j => [w9 q ad σ0 σ1 σ2 σ3 σ4 σ5 σ6 σ7 σ8 σ9 σ10 σ11 σ12 σ13 σ14 σ15 σ16 σ17 σ18 σ19 σ20 σ21 σ22 σ23 σ24 σ25 σ26 σ27 σ28 σ29 (xpr mm v (xpt mm σ30 v) t)]) (fun j => j ≤ mm) (fun j => mm - j) 0 (by omega) hM (lv_sub hl [2, 3, 4, 5, 6, 1, 0] rfl) ?_
          intro j hI14 ih13 H locs hM ls hl
          have hM : xM D (TY q) [w9 q ad σ0 σ1 σ2 σ3 σ4 σ5 σ6 σ7 σ8 σ9 σ10 σ11 σ12 σ13 σ14 σ15 σ16 σ17 σ18 σ19 σ20 σ21 σ22 σ23 σ24 σ25 σ26 σ27 σ28 σ29 (xpr mm v (xpt mm σ30 v) t)] A s.heap s H locs := hM
          have hl : lv_has ls 7 [(0, .ref (ad 0)), (1, .int (nI n)), (2, .int (nI mm)), (3, .int (nI v)), (4, .int (nI t)), (5, .int (nI (xpe (xpr mm v (xpt mm σ30 v) t) v t mm j))), (6, .int (nI (mm - j)))] := hl
          have hI14 : j ≤ mm := hI14
          have hpl := xpe_le (xpr mm v (xpt mm σ30 v) t) v t mm j
          try dsimp only
          refine lv_iload hx hb dX9_pea_49 (lv_at hl 6 rfl) ?_
          refine x_if_le (x := mm - j) (tgt := 110) hx hb (by omega) dX9_pea_51 (by decide) (fun c15 => ?_) (fun c15 => ?_)
          · refine lv_aload_n hx hb dX9_pea_110 rfl (lv_at hl 0 rfl) ?_
            refine x_get hx hb hts iwX9_pea_X9 hown hM 0 0 rfl rfl rfl 30 (by decide) (hts _ lkX9_pea_82) (fun _ h => h) rfl dX9_pea_111 ?_
            refine lv_bipush (v := nI 10) hx hb dX9_pea_114 (by decide) ?_
            refine lv_iload_n hx hb dX9_pea_116 rfl (lv_at hl 3 rfl) ?_
            refine x_imul (x := 10) (y := v) hx hb dX9_pea_117 ?_
            refine lv_iload hx hb dX9_pea_118 (lv_at hl 4 rfl) ?_
            refine x_iadd (x := 10 * v) (y := t) hx hb dX9_pea_120 ?_
            refine lv_iload hx hb dX9_pea_121 (lv_at hl 5 rfl) ?_
            refine x_iast hx hb hM 0 25 0 (f := (xpr mm v (xpt mm σ30 v) t)) rfl rfl rfl (t := 10 * v + t) (x := nI (xpe (xpr mm v (xpt mm σ30 v) t) v t mm j)) (by omega) (by decide) [w9 q ad σ0 σ1 σ2 σ3 σ4 σ5 σ6 σ7 σ8 σ9 σ10 σ11 σ12 σ13 σ14 σ15 σ16 σ17 σ18 σ19 σ20 σ21 σ22 σ23 σ24 σ25 σ26 σ27 σ28 σ29 (upd (xpr mm v (xpt mm σ30 v) t) (10 * v + t) (nI (xpe (xpr mm v (xpt mm σ30 v) t) v t mm j)))] rfl dX9_pea_123 (fun H locs hM => ?_)
            refine lv_iinc (v := nI (t + 1)) (lv' := [(4, .int (nI (t + 1))), (0, .ref (ad 0)), (1, .int (nI n)), (2, .int (nI mm)), (3, .int (nI v)), (5, .int (nI (xpe (xpr mm v (xpt mm σ30 v) t) v t mm j))), (6, .int (nI (mm - j)))]) hx hb dX9_pea_124 hl (k := 4) rfl (x_inc _ 1) (by decide) rfl (fun ls hl => ?_)
            refine lv_goto (tgt := 36) hx hb dX9_pea_127 (by decide) ?_
            have e16 : ((upd (xpr mm v (xpt mm σ30 v) t) (10 * v + t) (nI (xpe (xpr mm v (xpt mm σ30 v) t) v t mm j))) : Nat → Int32) = ((xpr mm v (xpt mm σ30 v) (t + 1))) := by (rw [show j = mm by omega]; rfl)
            have hM : xM D (TY q) [w9 q ad σ0 σ1 σ2 σ3 σ4 σ5 σ6 σ7 σ8 σ9 σ10 σ11 σ12 σ13 σ14 σ15 σ16 σ17 σ18 σ19 σ20 σ21 σ22 σ23 σ24 σ25 σ26 σ27 σ28 σ29 (xpr mm v (xpt mm σ30 v) (t + 1))] A s.heap s H locs := Eq.mp (congrArg (fun z9 => xM D (TY q) [w9 q ad σ0 σ1 σ2 σ3 σ4 σ5 σ6 σ7 σ8 σ9 σ10 σ11 σ12 σ13 σ14 σ15 σ16 σ17 σ18 σ19 σ20 σ21 σ22 σ23 σ24 σ25 σ26 σ27 σ28 σ29 z9] A s.heap s H locs) e16) hM
            have hl : lv_has ls 7 [(0, .ref (ad 0)), (1, .int (nI n)), (2, .int (nI mm)), (3, .int (nI v)), (4, .int (nI (t + 1)))] := lv_sub hl [1, 2, 3, 4, 0] rfl
            exact ih9 (t + 1) (show 10 - (t + 1) < 10 - t from by omega) (show (t + 1) ≤ 10 from by omega) _ _ hM _ hl
          · refine lv_iload hx hb dX9_pea_54 (lv_at hl 6 rfl) ?_
            refine lv_iload_n hx hb dX9_pea_56 rfl (lv_at hl 3 rfl) ?_
            refine x_icmp_gt (x := mm - j) (y := v) (tgt := 100) hx hb (by omega) (by omega) dX9_pea_57 (by decide) (fun c17 => ?_) (fun c17 => ?_)
            · refine lv_iload hx hb dX9_pea_100 (lv_at hl 5 rfl) ?_
              refine lv_istore (lv' := [(5, .int (nI (xpe (xpr mm v (xpt mm σ30 v) t) v t mm j))), (0, .ref (ad 0)), (1, .int (nI n)), (2, .int (nI mm)), (3, .int (nI v)), (4, .int (nI t)), (6, .int (nI (mm - j)))]) hx hb dX9_pea_102 hl (by decide) rfl (fun ls hl => ?_)
              refine lv_iinc (v := nI (mm - j - 1)) (lv' := [(6, .int (nI (mm - j - 1))), (5, .int (nI (xpe (xpr mm v (xpt mm σ30 v) t) v t mm j))), (0, .ref (ad 0)), (1, .int (nI n)), (2, .int (nI mm)), (3, .int (nI v)), (4, .int (nI t))]) hx hb dX9_pea_104 hl (k := 6) rfl (x_dec (by omega)) (by decide) rfl (fun ls hl => ?_)
              refine lv_goto (tgt := 49) hx hb dX9_pea_107 (by decide) ?_
              have hl : lv_has ls 7 [(0, .ref (ad 0)), (1, .int (nI n)), (2, .int (nI mm)), (3, .int (nI v)), (4, .int (nI t)), (5, .int (nI (xpe (xpr mm v (xpt mm σ30 v) t) v t mm j))), (6, .int (nI (mm - j - 1)))] := lv_sub hl [2, 3, 4, 5, 6, 1, 0] rfl
              have e18 : nI (xpe (xpr mm v (xpt mm σ30 v) t) v t mm j) = nI (xpe (xpr mm v (xpt mm σ30 v) t) v t mm (j + 1)) := by (first | exact (congrArg nI (xpe_1 (by assumption) (by assumption) (by assumption))).symm | exact (congrArg nI (xpe_2 (by assumption))).symm | exact (congrArg nI (xpe_3 (by assumption))).symm | exact (congrArg nI (xpe_4 (by assumption))).symm)
              have hl : lv_has ls 7 [(0, .ref (ad 0)), (1, .int (nI n)), (2, .int (nI mm)), (3, .int (nI v)), (4, .int (nI t)), (5, .int (nI (xpe (xpr mm v (xpt mm σ30 v) t) v t mm (j + 1)))), (6, .int (nI (mm - j - 1)))] := x_lvset hl 5 rfl (congrArg Value.int e18) rfl
              have e19 : nI (mm - j - 1) = nI (mm - (j + 1)) := by (congr 1)
              have hl : lv_has ls 7 [(0, .ref (ad 0)), (1, .int (nI n)), (2, .int (nI mm)), (3, .int (nI v)), (4, .int (nI t)), (5, .int (nI (xpe (xpr mm v (xpt mm σ30 v) t) v t mm (j + 1)))), (6, .int (nI (mm - (j + 1))))] := x_lvset hl 6 rfl (congrArg Value.int e19) rfl
              exact ih13 (j + 1) (show mm - (j + 1) < mm - j from by omega) (show (j + 1) ≤ mm from by omega) _ _ hM _ hl
            · refine lv_iload hx hb dX9_pea_60 (lv_at hl 6 rfl) ?_
              refine lv_iload hx hb dX9_pea_62 (lv_at hl 4 rfl) ?_
              refine x_icmp_eq (x := mm - j) (y := t) (tgt := 100) hx hb (by omega) (by omega) dX9_pea_64 (by decide) (fun c20 => ?_) (fun c20 => ?_)
              · refine lv_iload hx hb dX9_pea_100 (lv_at hl 5 rfl) ?_
                refine lv_istore (lv' := [(5, .int (nI (xpe (xpr mm v (xpt mm σ30 v) t) v t mm j))), (0, .ref (ad 0)), (1, .int (nI n)), (2, .int (nI mm)), (3, .int (nI v)), (4, .int (nI t)), (6, .int (nI (mm - j)))]) hx hb dX9_pea_102 hl (by decide) rfl (fun ls hl => ?_)
                refine lv_iinc (v := nI (mm - j - 1)) (lv' := [(6, .int (nI (mm - j - 1))), (5, .int (nI (xpe (xpr mm v (xpt mm σ30 v) t) v t mm j))), (0, .ref (ad 0)), (1, .int (nI n)), (2, .int (nI mm)), (3, .int (nI v)), (4, .int (nI t))]) hx hb dX9_pea_104 hl (k := 6) rfl (x_dec (by omega)) (by decide) rfl (fun ls hl => ?_)
                refine lv_goto (tgt := 49) hx hb dX9_pea_107 (by decide) ?_
                have hl : lv_has ls 7 [(0, .ref (ad 0)), (1, .int (nI n)), (2, .int (nI mm)), (3, .int (nI v)), (4, .int (nI t)), (5, .int (nI (xpe (xpr mm v (xpt mm σ30 v) t) v t mm j))), (6, .int (nI (mm - j - 1)))] := lv_sub hl [2, 3, 4, 5, 6, 1, 0] rfl
                have e21 : nI (xpe (xpr mm v (xpt mm σ30 v) t) v t mm j) = nI (xpe (xpr mm v (xpt mm σ30 v) t) v t mm (j + 1)) := by (first | exact (congrArg nI (xpe_1 (by assumption) (by assumption) (by assumption))).symm | exact (congrArg nI (xpe_2 (by assumption))).symm | exact (congrArg nI (xpe_3 (by assumption))).symm | exact (congrArg nI (xpe_4 (by assumption))).symm)
                have hl : lv_has ls 7 [(0, .ref (ad 0)), (1, .int (nI n)), (2, .int (nI mm)), (3, .int (nI v)), (4, .int (nI t)), (5, .int (nI (xpe (xpr mm v (xpt mm σ30 v) t) v t mm (j + 1)))), (6, .int (nI (mm - j - 1)))] := x_lvset hl 5 rfl (congrArg Value.int e21) rfl
                have e22 : nI (mm - j - 1) = nI (mm - (j + 1)) := by (congr 1)
                have hl : lv_has ls 7 [(0, .ref (ad 0)), (1, .int (nI n)), (2, .int (nI mm)), (3, .int (nI v)), (4, .int (nI t)), (5, .int (nI (xpe (xpr mm v (xpt mm σ30 v) t) v t mm (j + 1)))), (6, .int (nI (mm - (j + 1))))] := x_lvset hl 6 rfl (congrArg Value.int e22) rfl
                exact ih13 (j + 1) (show mm - (j + 1) < mm - j from by omega) (show (j + 1) ≤ mm from by omega) _ _ hM _ hl
              · refine lv_aload_n hx hb dX9_pea_67 rfl (lv_at hl 0 rfl) ?_
                refine x_get hx hb hts iwX9_pea_X9 hown hM 0 0 rfl rfl rfl 30 (by decide) (hts _ lkX9_pea_82) (fun _ h => h) rfl dX9_pea_68 ?_
                refine lv_bipush (v := nI 10) hx hb dX9_pea_71 (by decide) ?_
                refine lv_iload_n hx hb dX9_pea_73 rfl (lv_at hl 3 rfl) ?_
                refine lv_iload hx hb dX9_pea_74 (lv_at hl 6 rfl) ?_
                refine lv_iload_n hx hb dX9_pea_76 rfl (lv_at hl 3 rfl) ?_
                refine x_icmp_gt (x := mm - j) (y := v) (tgt := 85) hx hb (by omega) (by omega) dX9_pea_77 (by decide) (fun c23 => ?_) (fun c23 => ?_)
                · exfalso; omega
                · refine lv_iload hx hb dX9_pea_80 (lv_at hl 6 rfl) ?_
                  refine lv_goto (tgt := 86) hx hb dX9_pea_82 (by decide) ?_
                  refine x_isub (x := v) (y := mm - j) hx hb (by omega) dX9_pea_86 ?_
                  refine x_imul (x := 10) (y := v - (mm - j)) hx hb dX9_pea_87 ?_
                  refine lv_iload hx hb dX9_pea_88 (lv_at hl 6 rfl) ?_
                  refine x_iadd (x := 10 * (v - (mm - j))) (y := mm - j) hx hb dX9_pea_90 ?_
                  refine x_iald hx hb hM 0 25 0 (f := (xpr mm v (xpt mm σ30 v) t)) rfl rfl rfl (t := 10 * (v - (mm - j)) + (mm - j)) (by omega) (by decide) dX9_pea_91 ?_
                  refine lv_if_ne (tgt := 100) hx hb dX9_pea_92 (by decide) (fun c24 => ?_) (fun c24 => ?_)
                  · refine lv_iload hx hb dX9_pea_100 (lv_at hl 5 rfl) ?_
                    refine lv_istore (lv' := [(5, .int (nI (xpe (xpr mm v (xpt mm σ30 v) t) v t mm j))), (0, .ref (ad 0)), (1, .int (nI n)), (2, .int (nI mm)), (3, .int (nI v)), (4, .int (nI t)), (6, .int (nI (mm - j)))]) hx hb dX9_pea_102 hl (by decide) rfl (fun ls hl => ?_)
                    refine lv_iinc (v := nI (mm - j - 1)) (lv' := [(6, .int (nI (mm - j - 1))), (5, .int (nI (xpe (xpr mm v (xpt mm σ30 v) t) v t mm j))), (0, .ref (ad 0)), (1, .int (nI n)), (2, .int (nI mm)), (3, .int (nI v)), (4, .int (nI t))]) hx hb dX9_pea_104 hl (k := 6) rfl (x_dec (by omega)) (by decide) rfl (fun ls hl => ?_)
                    refine lv_goto (tgt := 49) hx hb dX9_pea_107 (by decide) ?_
                    have hl : lv_has ls 7 [(0, .ref (ad 0)), (1, .int (nI n)), (2, .int (nI mm)), (3, .int (nI v)), (4, .int (nI t)), (5, .int (nI (xpe (xpr mm v (xpt mm σ30 v) t) v t mm j))), (6, .int (nI (mm - j - 1)))] := lv_sub hl [2, 3, 4, 5, 6, 1, 0] rfl
                    have e25 : nI (xpe (xpr mm v (xpt mm σ30 v) t) v t mm j) = nI (xpe (xpr mm v (xpt mm σ30 v) t) v t mm (j + 1)) := by (first | exact (congrArg nI (xpe_1 (by assumption) (by assumption) (by assumption))).symm | exact (congrArg nI (xpe_2 (by assumption))).symm | exact (congrArg nI (xpe_3 (by assumption))).symm | exact (congrArg nI (xpe_4 (by assumption))).symm)
                    have hl : lv_has ls 7 [(0, .ref (ad 0)), (1, .int (nI n)), (2, .int (nI mm)), (3, .int (nI v)), (4, .int (nI t)), (5, .int (nI (xpe (xpr mm v (xpt mm σ30 v) t) v t mm (j + 1)))), (6, .int (nI (mm - j - 1)))] := x_lvset hl 5 rfl (congrArg Value.int e25) rfl
                    have e26 : nI (mm - j - 1) = nI (mm - (j + 1)) := by (congr 1)
                    have hl : lv_has ls 7 [(0, .ref (ad 0)), (1, .int (nI n)), (2, .int (nI mm)), (3, .int (nI v)), (4, .int (nI t)), (5, .int (nI (xpe (xpr mm v (xpt mm σ30 v) t) v t mm (j + 1)))), (6, .int (nI (mm - (j + 1))))] := x_lvset hl 6 rfl (congrArg Value.int e26) rfl
                    exact ih13 (j + 1) (show mm - (j + 1) < mm - j from by omega) (show (j + 1) ≤ mm from by omega) _ _ hM _ hl
                  · refine lv_iload hx hb dX9_pea_95 (lv_at hl 6 rfl) ?_
                    refine lv_goto (tgt := 102) hx hb dX9_pea_97 (by decide) ?_
                    refine lv_istore (lv' := [(5, .int (nI (mm - j))), (0, .ref (ad 0)), (1, .int (nI n)), (2, .int (nI mm)), (3, .int (nI v)), (4, .int (nI t)), (6, .int (nI (mm - j)))]) hx hb dX9_pea_102 hl (by decide) rfl (fun ls hl => ?_)
                    refine lv_iinc (v := nI (mm - j - 1)) (lv' := [(6, .int (nI (mm - j - 1))), (5, .int (nI (mm - j))), (0, .ref (ad 0)), (1, .int (nI n)), (2, .int (nI mm)), (3, .int (nI v)), (4, .int (nI t))]) hx hb dX9_pea_104 hl (k := 6) rfl (x_dec (by omega)) (by decide) rfl (fun ls hl => ?_)
                    refine lv_goto (tgt := 49) hx hb dX9_pea_107 (by decide) ?_
                    have hl : lv_has ls 7 [(0, .ref (ad 0)), (1, .int (nI n)), (2, .int (nI mm)), (3, .int (nI v)), (4, .int (nI t)), (5, .int (nI (mm - j))), (6, .int (nI (mm - j - 1)))] := lv_sub hl [2, 3, 4, 5, 6, 1, 0] rfl
                    have e27 : nI (mm - j) = nI (xpe (xpr mm v (xpt mm σ30 v) t) v t mm (j + 1)) := by (first | exact (congrArg nI (xpe_1 (by assumption) (by assumption) (by assumption))).symm | exact (congrArg nI (xpe_2 (by assumption))).symm | exact (congrArg nI (xpe_3 (by assumption))).symm | exact (congrArg nI (xpe_4 (by assumption))).symm)
                    have hl : lv_has ls 7 [(0, .ref (ad 0)), (1, .int (nI n)), (2, .int (nI mm)), (3, .int (nI v)), (4, .int (nI t)), (5, .int (nI (xpe (xpr mm v (xpt mm σ30 v) t) v t mm (j + 1)))), (6, .int (nI (mm - j - 1)))] := x_lvset hl 5 rfl (congrArg Value.int e27) rfl
                    have e28 : nI (mm - j - 1) = nI (mm - (j + 1)) := by (congr 1)
                    have hl : lv_has ls 7 [(0, .ref (ad 0)), (1, .int (nI n)), (2, .int (nI mm)), (3, .int (nI v)), (4, .int (nI t)), (5, .int (nI (xpe (xpr mm v (xpt mm σ30 v) t) v t mm (j + 1)))), (6, .int (nI (mm - (j + 1))))] := x_lvset hl 6 rfl (congrArg Value.int e28) rfl
                    exact ih13 (j + 1) (show mm - (j + 1) < mm - j from by omega) (show (j + 1) ≤ mm from by omega) _ _ hM _ hl
    · exfalso; omega
