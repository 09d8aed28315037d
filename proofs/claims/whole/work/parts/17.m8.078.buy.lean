set_option maxRecDepth 20000 in
theorem ggX9_buy_X9_in : GoodIn wsX9_buy wsX9_in := goodIn_r _ [11] (by decide +kernel) (by decide +kernel)
set_option maxRecDepth 20000 in
theorem gX9_buy_X9_in : GoodIn wsX9_buy (va_wsS RX9 104 yX9_in wsX9_in) := goodIn_app (goodIn_of _ (by decide +kernel)) ggX9_buy_X9_in
set_option maxRecDepth 20000 in
theorem ggX9_buy_X9_common : GoodIn wsX9_buy wsX9_common := goodIn_r _ [14] (by decide +kernel) (by decide +kernel)
set_option maxRecDepth 20000 in
theorem gX9_buy_X9_common : GoodIn wsX9_buy (va_wsS RX9 269 yX9_common wsX9_common) := goodIn_app (goodIn_of _ (by decide +kernel)) ggX9_buy_X9_common
theorem dX9_buy_0 : decode cX9_buy 0 = .ok (.iload_n 1, 1) := by decide +kernel
theorem dX9_buy_1 : decode cX9_buy 1 = .ok (.i2l, 1) := by decide +kernel
theorem dX9_buy_2 : decode cX9_buy 2 = .ok (.lconst 0, 1) := by decide +kernel
theorem dX9_buy_3 : decode cX9_buy 3 = .ok (.ldc2_w 262, 3) := by decide +kernel
theorem dX9_buy_6 : decode cX9_buy 6 = .ok (.invokestatic 104, 3) := by decide +kernel
theorem dX9_buy_9 : decode cX9_buy 9 = .ok (.ifCond .eq 53, 3) := by decide +kernel
theorem dX9_buy_12 : decode cX9_buy 12 = .ok (.iload_n 2, 1) := by decide +kernel
theorem dX9_buy_13 : decode cX9_buy 13 = .ok (.i2l, 1) := by decide +kernel
theorem dX9_buy_14 : decode cX9_buy 14 = .ok (.lconst 0, 1) := by decide +kernel
theorem dX9_buy_15 : decode cX9_buy 15 = .ok (.ldc2_w 262, 3) := by decide +kernel
theorem dX9_buy_18 : decode cX9_buy 18 = .ok (.invokestatic 104, 3) := by decide +kernel
theorem dX9_buy_21 : decode cX9_buy 21 = .ok (.ifCond .eq 41, 3) := by decide +kernel
theorem dX9_buy_24 : decode cX9_buy 24 = .ok (.iload_n 3, 1) := by decide +kernel
theorem dX9_buy_25 : decode cX9_buy 25 = .ok (.i2l, 1) := by decide +kernel
theorem dX9_buy_26 : decode cX9_buy 26 = .ok (.lconst 0, 1) := by decide +kernel
theorem dX9_buy_27 : decode cX9_buy 27 = .ok (.ldc2_w 129, 3) := by decide +kernel
theorem dX9_buy_30 : decode cX9_buy 30 = .ok (.invokestatic 104, 3) := by decide +kernel
theorem dX9_buy_33 : decode cX9_buy 33 = .ok (.ifCond .eq 29, 3) := by decide +kernel
theorem dX9_buy_36 : decode cX9_buy 36 = .ok (.iload 4, 2) := by decide +kernel
theorem dX9_buy_38 : decode cX9_buy 38 = .ok (.i2l, 1) := by decide +kernel
theorem dX9_buy_39 : decode cX9_buy 39 = .ok (.lconst 0, 1) := by decide +kernel
theorem dX9_buy_40 : decode cX9_buy 40 = .ok (.ldc2_w 267, 3) := by decide +kernel
theorem dX9_buy_43 : decode cX9_buy 43 = .ok (.invokestatic 104, 3) := by decide +kernel
theorem dX9_buy_46 : decode cX9_buy 46 = .ok (.ifCond .eq 16, 3) := by decide +kernel
theorem dX9_buy_49 : decode cX9_buy 49 = .ok (.iload 5, 2) := by decide +kernel
theorem dX9_buy_51 : decode cX9_buy 51 = .ok (.i2l, 1) := by decide +kernel
theorem dX9_buy_52 : decode cX9_buy 52 = .ok (.lconst 0, 1) := by decide +kernel
theorem dX9_buy_53 : decode cX9_buy 53 = .ok (.ldc2_w 123, 3) := by decide +kernel
theorem dX9_buy_56 : decode cX9_buy 56 = .ok (.invokestatic 104, 3) := by decide +kernel
theorem dX9_buy_59 : decode cX9_buy 59 = .ok (.ifCond .ne 7, 3) := by decide +kernel
theorem dX9_buy_62 : decode cX9_buy 62 = .ok (.ldc2_w 273, 3) := by decide +kernel
theorem dX9_buy_65 : decode cX9_buy 65 = .ok (.lreturn, 1) := by decide +kernel
theorem dX9_buy_66 : decode cX9_buy 66 = .ok (.ldc2_w 275, 3) := by decide +kernel
theorem dX9_buy_69 : decode cX9_buy 69 = .ok (.lstore 6, 2) := by decide +kernel
theorem dX9_buy_71 : decode cX9_buy 71 = .ok (.lconst 0, 1) := by decide +kernel
theorem dX9_buy_72 : decode cX9_buy 72 = .ok (.lstore 8, 2) := by decide +kernel
theorem dX9_buy_74 : decode cX9_buy 74 = .ok (.bipush (-4), 2) := by decide +kernel
theorem dX9_buy_76 : decode cX9_buy 76 = .ok (.istore 10, 2) := by decide +kernel
theorem dX9_buy_78 : decode cX9_buy 78 = .ok (.lload 6, 2) := by decide +kernel
theorem dX9_buy_80 : decode cX9_buy 80 = .ok (.lstore 11, 2) := by decide +kernel
theorem dX9_buy_82 : decode cX9_buy 82 = .ok (.iconst 0, 1) := by decide +kernel
theorem dX9_buy_83 : decode cX9_buy 83 = .ok (.istore 13, 2) := by decide +kernel
theorem dX9_buy_85 : decode cX9_buy 85 = .ok (.iload 13, 2) := by decide +kernel
theorem dX9_buy_87 : decode cX9_buy 87 = .ok (.bipush 10, 2) := by decide +kernel
theorem dX9_buy_89 : decode cX9_buy 89 = .ok (.if_icmp .gt 75, 3) := by decide +kernel
theorem dX9_buy_92 : decode cX9_buy 92 = .ok (.iload_n 2, 1) := by decide +kernel
theorem dX9_buy_93 : decode cX9_buy 93 = .ok (.iload_n 3, 1) := by decide +kernel
theorem dX9_buy_94 : decode cX9_buy 94 = .ok (.iload 13, 2) := by decide +kernel
theorem dX9_buy_96 : decode cX9_buy 96 = .ok (.imul, 1) := by decide +kernel
theorem dX9_buy_97 : decode cX9_buy 97 = .ok (.if_icmp .le 12, 3) := by decide +kernel
theorem dX9_buy_100 : decode cX9_buy 100 = .ok (.iload_n 2, 1) := by decide +kernel
theorem dX9_buy_101 : decode cX9_buy 101 = .ok (.iload_n 3, 1) := by decide +kernel
theorem dX9_buy_102 : decode cX9_buy 102 = .ok (.iload 13, 2) := by decide +kernel
theorem dX9_buy_104 : decode cX9_buy 104 = .ok (.imul, 1) := by decide +kernel
theorem dX9_buy_105 : decode cX9_buy 105 = .ok (.isub, 1) := by decide +kernel
theorem dX9_buy_106 : decode cX9_buy 106 = .ok (.goto 4, 3) := by decide +kernel
theorem dX9_buy_109 : decode cX9_buy 109 = .ok (.iconst 0, 1) := by decide +kernel
theorem dX9_buy_110 : decode cX9_buy 110 = .ok (.istore 14, 2) := by decide +kernel
theorem dX9_buy_112 : decode cX9_buy 112 = .ok (.lload 11, 2) := by decide +kernel
theorem dX9_buy_114 : decode cX9_buy 114 = .ok (.iload_n 1, 1) := by decide +kernel
theorem dX9_buy_115 : decode cX9_buy 115 = .ok (.iload 14, 2) := by decide +kernel
theorem dX9_buy_117 : decode cX9_buy 117 = .ok (.isub, 1) := by decide +kernel
theorem dX9_buy_118 : decode cX9_buy 118 = .ok (.i2l, 1) := by decide +kernel
theorem dX9_buy_119 : decode cX9_buy 119 = .ok (.lmul, 1) := by decide +kernel
theorem dX9_buy_120 : decode cX9_buy 120 = .ok (.lstore 15, 2) := by decide +kernel
theorem dX9_buy_122 : decode cX9_buy 122 = .ok (.iload 10, 2) := by decide +kernel
theorem dX9_buy_124 : decode cX9_buy 124 = .ok (.ifCond .lt 11, 3) := by decide +kernel
theorem dX9_buy_127 : decode cX9_buy 127 = .ok (.lload 15, 2) := by decide +kernel
theorem dX9_buy_129 : decode cX9_buy 129 = .ok (.lload 8, 2) := by decide +kernel
theorem dX9_buy_131 : decode cX9_buy 131 = .ok (.lcmp, 1) := by decide +kernel
theorem dX9_buy_132 : decode cX9_buy 132 = .ok (.ifCond .le 11, 3) := by decide +kernel
theorem dX9_buy_135 : decode cX9_buy 135 = .ok (.lload 15, 2) := by decide +kernel
theorem dX9_buy_137 : decode cX9_buy 137 = .ok (.lstore 8, 2) := by decide +kernel
theorem dX9_buy_139 : decode cX9_buy 139 = .ok (.iload 13, 2) := by decide +kernel
theorem dX9_buy_141 : decode cX9_buy 141 = .ok (.istore 10, 2) := by decide +kernel
theorem dX9_buy_143 : decode cX9_buy 143 = .ok (.lload 11, 2) := by decide +kernel
theorem dX9_buy_145 : decode cX9_buy 145 = .ok (.ldc2_w 267, 3) := by decide +kernel
theorem dX9_buy_148 : decode cX9_buy 148 = .ok (.ldiv, 1) := by decide +kernel
theorem dX9_buy_149 : decode cX9_buy 149 = .ok (.bipush 10, 2) := by decide +kernel
theorem dX9_buy_151 : decode cX9_buy 151 = .ok (.iload 4, 2) := by decide +kernel
theorem dX9_buy_153 : decode cX9_buy 153 = .ok (.isub, 1) := by decide +kernel
theorem dX9_buy_154 : decode cX9_buy 154 = .ok (.i2l, 1) := by decide +kernel
theorem dX9_buy_155 : decode cX9_buy 155 = .ok (.lmul, 1) := by decide +kernel
theorem dX9_buy_156 : decode cX9_buy 156 = .ok (.lstore 11, 2) := by decide +kernel
theorem dX9_buy_158 : decode cX9_buy 158 = .ok (.iinc 13 1, 3) := by decide +kernel
theorem dX9_buy_161 : decode cX9_buy 161 = .ok (.goto (-76), 3) := by decide +kernel
theorem dX9_buy_164 : decode cX9_buy 164 = .ok (.lload 8, 2) := by decide +kernel
theorem dX9_buy_166 : decode cX9_buy 166 = .ok (.ldc2_w 277, 3) := by decide +kernel
theorem dX9_buy_169 : decode cX9_buy 169 = .ok (.lload 6, 2) := by decide +kernel
theorem dX9_buy_171 : decode cX9_buy 171 = .ok (.lmul, 1) := by decide +kernel
theorem dX9_buy_172 : decode cX9_buy 172 = .ok (.ladd, 1) := by decide +kernel
theorem dX9_buy_173 : decode cX9_buy 173 = .ok (.lstore 13, 2) := by decide +kernel
theorem dX9_buy_175 : decode cX9_buy 175 = .ok (.lload 13, 2) := by decide +kernel
theorem dX9_buy_177 : decode cX9_buy 177 = .ok (.lload 6, 2) := by decide +kernel
theorem dX9_buy_179 : decode cX9_buy 179 = .ok (.invokestatic 269, 3) := by decide +kernel
theorem dX9_buy_182 : decode cX9_buy 182 = .ok (.lstore 15, 2) := by decide +kernel
theorem dX9_buy_184 : decode cX9_buy 184 = .ok (.iload 5, 2) := by decide +kernel
theorem dX9_buy_186 : decode cX9_buy 186 = .ok (.ifCond .ne 9, 3) := by decide +kernel
theorem dX9_buy_189 : decode cX9_buy 189 = .ok (.iload 10, 2) := by decide +kernel
theorem dX9_buy_191 : decode cX9_buy 191 = .ok (.i2l, 1) := by decide +kernel
theorem dX9_buy_192 : decode cX9_buy 192 = .ok (.goto 22, 3) := by decide +kernel
theorem dX9_buy_195 : decode cX9_buy 195 = .ok (.iload 5, 2) := by decide +kernel
theorem dX9_buy_197 : decode cX9_buy 197 = .ok (.iconst 1, 1) := by decide +kernel
theorem dX9_buy_198 : decode cX9_buy 198 = .ok (.if_icmp .ne 11, 3) := by decide +kernel
theorem dX9_buy_201 : decode cX9_buy 201 = .ok (.lload 13, 2) := by decide +kernel
theorem dX9_buy_203 : decode cX9_buy 203 = .ok (.lload 15, 2) := by decide +kernel
theorem dX9_buy_205 : decode cX9_buy 205 = .ok (.ldiv, 1) := by decide +kernel
theorem dX9_buy_206 : decode cX9_buy 206 = .ok (.goto 8, 3) := by decide +kernel
theorem dX9_buy_209 : decode cX9_buy 209 = .ok (.lload 6, 2) := by decide +kernel
theorem dX9_buy_211 : decode cX9_buy 211 = .ok (.lload 15, 2) := by decide +kernel
theorem dX9_buy_213 : decode cX9_buy 213 = .ok (.ldiv, 1) := by decide +kernel
theorem dX9_buy_214 : decode cX9_buy 214 = .ok (.lreturn, 1) := by decide +kernel
set_option maxHeartbeats 1000000 in
set_option maxRecDepth 100000 in
theorem c_X9_buy (l : Launch) (D : va_G) (q : Nat → ClassId) (ad : Nat → Nat) (σ0 : Int32) (σ1 : Nat → Int32) (σ2 : Nat → Int32) (σ3 : Nat → Int32) (σ4 : Nat → Int32) (σ5 : Nat → Int32) (σ6 : Nat → Int32) (σ7 : Nat → Int32) (σ8 : Nat → Int32) (σ9 : Nat → Int32) (σ10 : Nat → Int32) (σ11 : Nat → Int32) (σ12 : Nat → Int32) (σ13 : Nat → Int32) (σ14 : Nat → Int32) (σ15 : Nat → Int32) (σ16 : Nat → Int32) (σ17 : Nat → Int32) (σ18 : Nat → Int32) (σ19 : Nat → Int32) (σ20 : Int32) (σ21 : Int32) (σ22 : Int32) (σ23 : Nat → Int32) (σ24 : Int32) (σ25 : Int32) (σ26 : Nat → Int32) (σ27 : Nat → Int32) (σ28 : Nat → Int32) (σ29 : Nat → Int32) (σ30 : Nat → Int32) (v : Nat) (a : Nat) (b : Nat) (x : Nat) (what : Nat) (hv9 : v ≤ 99) (ha9 : a ≤ 99) (hb9 : b ≤ 9) (hx9 : x ≤ 10) (hwh : what ≤ 2) (hA : 0 ≤ (xbA v a b x).toInt) : xC l yX9_buy wsX9_buy ({ frames := 1, cells := 0, slots := 0, locals := 29 }) D (TY q) [w9 q ad σ0 σ1 σ2 σ3 σ4 σ5 σ6 σ7 σ8 σ9 σ10 σ11 σ12 σ13 σ14 σ15 σ16 σ17 σ18 σ19 σ20 σ21 σ22 σ23 σ24 σ25 σ26 σ27 σ28 σ29 σ30] [.ref (ad 0), .int (nI v), .int (nI a), .int (nI b), .int (nI x), .int (nI what)] (xQl D (TY q) (fun (r : Int64) (_ : Unit) => r = xbuy v a b x what) (fun _ => [w9 q ad σ0 σ1 σ2 σ3 σ4 σ5 σ6 σ7 σ8 σ9 σ10 σ11 σ12 σ13 σ14 σ15 σ16 σ17 σ18 σ19 σ20 σ21 σ22 σ23 σ24 σ25 σ26 σ27 σ28 σ29 σ30])) 0 0 := by
  refine x_enter (cc := cX9_buy) (maxL := 17) (ret := (some .long)) (by decide) rfl (Nat.le_of_ble_eq_true rfl) ?_
  intro p e s m below meth c A ls H locs hfix hr hlocks hinit hM hl
  obtain ⟨hx, hb, hml, hown, hts⟩ := id hfix
  have hl : lv_has ls 17 [(0, .ref (ad 0)), (1, .int (nI v)), (2, .int (nI a)), (3, .int (nI b)), (4, .int (nI x)), (5, .int (nI what))] := hl
  have hbt : ∀ t, t ≤ 10 → b * t ≤ 90 := fun t ht => Nat.le_trans (Nat.mul_le_mul hb9 ht) (by decide)
  refine lv_iload_n hx hb dX9_buy_0 rfl (lv_at hl 1 rfl) ?_
  refine x_i2l hx hb dX9_buy_1 ?_
  refine lv_lconst (v := 0) hx hb dX9_buy_2 (by decide) ?_
  refine lv_ldc2 (v := 99) hx hb hown (hts (.constantLong RX9 262 (99)) (by decide +kernel)) dX9_buy_3 ?_
  refine x_calli (bc := []) (br := [w9 q ad σ0 σ1 σ2 σ3 σ4 σ5 σ6 σ7 σ8 σ9 σ10 σ11 σ12 σ13 σ14 σ15 σ16 σ17 σ18 σ19 σ20 σ21 σ22 σ23 σ24 σ25 σ26 σ27 σ28 σ29 σ30]) hM [] [0] rfl rfl rfl (by decide) (x_runS (As := [.long ((nI v).toInt64), .long (0 : Int64), .long (99 : Int64)]) (rest := []) hfix (c_X9_in l D q ((nI v).toInt64) (0 : Int64) (99 : Int64) ((v : Nat) : Int) (0 : Int) (99 : Int) ((Jvm.Kit.i64_of_i32 _).trans (nI_toInt (n := v) (by omega))) (by decide) (by decide)) (va_cwS 3 hts gX9_buy_X9_in rfl rfl rfl (by decide +kernel) ⟨Nat.le_of_ble_eq_true rfl, Nat.le_of_ble_eq_true rfl⟩) hM [] rfl rfl rfl hl.1 rfl (Nat.le_of_ble_eq_true rfl) dX9_buy_6 ⟨Nat.le_of_ble_eq_true rfl, Nat.le_of_ble_eq_true rfl⟩) (fun r u H locs hq hM => ?_)
  subst hq
  have hM : xM D (TY q) [w9 q ad σ0 σ1 σ2 σ3 σ4 σ5 σ6 σ7 σ8 σ9 σ10 σ11 σ12 σ13 σ14 σ15 σ16 σ17 σ18 σ19 σ20 σ21 σ22 σ23 σ24 σ25 σ26 σ27 σ28 σ29 σ30] A s.heap s H locs := hM
  refine x_ifz_eq (P := (0 : Int) ≤ ((v : Nat) : Int) ∧ ((v : Nat) : Int) ≤ (99 : Int)) (tgt := 62) hx hb dX9_buy_9 (by decide) (fun c1 => ?_) (fun c1 => ?_)
  · exfalso; omega
  · refine lv_iload_n hx hb dX9_buy_12 rfl (lv_at hl 2 rfl) ?_
    refine x_i2l hx hb dX9_buy_13 ?_
    refine lv_lconst (v := 0) hx hb dX9_buy_14 (by decide) ?_
    refine lv_ldc2 (v := 99) hx hb hown (hts (.constantLong RX9 262 (99)) (by decide +kernel)) dX9_buy_15 ?_
    refine x_calli (bc := []) (br := [w9 q ad σ0 σ1 σ2 σ3 σ4 σ5 σ6 σ7 σ8 σ9 σ10 σ11 σ12 σ13 σ14 σ15 σ16 σ17 σ18 σ19 σ20 σ21 σ22 σ23 σ24 σ25 σ26 σ27 σ28 σ29 σ30]) hM [] [0] rfl rfl rfl (by decide) (x_runS (As := [.long ((nI a).toInt64), .long (0 : Int64), .long (99 : Int64)]) (rest := []) hfix (c_X9_in l D q ((nI a).toInt64) (0 : Int64) (99 : Int64) ((a : Nat) : Int) (0 : Int) (99 : Int) ((Jvm.Kit.i64_of_i32 _).trans (nI_toInt (n := a) (by omega))) (by decide) (by decide)) (va_cwS 3 hts gX9_buy_X9_in rfl rfl rfl (by decide +kernel) ⟨Nat.le_of_ble_eq_true rfl, Nat.le_of_ble_eq_true rfl⟩) hM [] rfl rfl rfl hl.1 rfl (Nat.le_of_ble_eq_true rfl) dX9_buy_18 ⟨Nat.le_of_ble_eq_true rfl, Nat.le_of_ble_eq_true rfl⟩) (fun r u H locs hq hM => ?_)
    subst hq
    have hM : xM D (TY q) [w9 q ad σ0 σ1 σ2 σ3 σ4 σ5 σ6 σ7 σ8 σ9 σ10 σ11 σ12 σ13 σ14 σ15 σ16 σ17 σ18 σ19 σ20 σ21 σ22 σ23 σ24 σ25 σ26 σ27 σ28 σ29 σ30] A s.heap s H locs := hM
    refine x_ifz_eq (P := (0 : Int) ≤ ((a : Nat) : Int) ∧ ((a : Nat) : Int) ≤ (99 : Int)) (tgt := 62) hx hb dX9_buy_21 (by decide) (fun c2 => ?_) (fun c2 => ?_)
    · exfalso; omega
    · refine lv_iload_n hx hb dX9_buy_24 rfl (lv_at hl 3 rfl) ?_
      refine x_i2l hx hb dX9_buy_25 ?_
      refine lv_lconst (v := 0) hx hb dX9_buy_26 (by decide) ?_
      refine lv_ldc2 (v := 9) hx hb hown (hts (.constantLong RX9 129 (9)) (by decide +kernel)) dX9_buy_27 ?_
      refine x_calli (bc := []) (br := [w9 q ad σ0 σ1 σ2 σ3 σ4 σ5 σ6 σ7 σ8 σ9 σ10 σ11 σ12 σ13 σ14 σ15 σ16 σ17 σ18 σ19 σ20 σ21 σ22 σ23 σ24 σ25 σ26 σ27 σ28 σ29 σ30]) hM [] [0] rfl rfl rfl (by decide) (x_runS (As := [.long ((nI b).toInt64), .long (0 : Int64), .long (9 : Int64)]) (rest := []) hfix (c_X9_in l D q ((nI b).toInt64) (0 : Int64) (9 : Int64) ((b : Nat) : Int) (0 : Int) (9 : Int) ((Jvm.Kit.i64_of_i32 _).trans (nI_toInt (n := b) (by omega))) (by decide) (by decide)) (va_cwS 3 hts gX9_buy_X9_in rfl rfl rfl (by decide +kernel) ⟨Nat.le_of_ble_eq_true rfl, Nat.le_of_ble_eq_true rfl⟩) hM [] rfl rfl rfl hl.1 rfl (Nat.le_of_ble_eq_true rfl) dX9_buy_30 ⟨Nat.le_of_ble_eq_true rfl, Nat.le_of_ble_eq_true rfl⟩) (fun r u H locs hq hM => ?_)
      subst hq
      have hM : xM D (TY q) [w9 q ad σ0 σ1 σ2 σ3 σ4 σ5 σ6 σ7 σ8 σ9 σ10 σ11 σ12 σ13 σ14 σ15 σ16 σ17 σ18 σ19 σ20 σ21 σ22 σ23 σ24 σ25 σ26 σ27 σ28 σ29 σ30] A s.heap s H locs := hM
      refine x_ifz_eq (P := (0 : Int) ≤ ((b : Nat) : Int) ∧ ((b : Nat) : Int) ≤ (9 : Int)) (tgt := 62) hx hb dX9_buy_33 (by decide) (fun c3 => ?_) (fun c3 => ?_)
      · exfalso; omega
      · refine lv_iload hx hb dX9_buy_36 (lv_at hl 4 rfl) ?_
        refine x_i2l hx hb dX9_buy_38 ?_
        refine lv_lconst (v := 0) hx hb dX9_buy_39 (by decide) ?_
        refine lv_ldc2 (v := 10) hx hb hown (hts (.constantLong RX9 267 (10)) (by decide +kernel)) dX9_buy_40 ?_
        refine x_calli (bc := []) (br := [w9 q ad σ0 σ1 σ2 σ3 σ4 σ5 σ6 σ7 σ8 σ9 σ10 σ11 σ12 σ13 σ14 σ15 σ16 σ17 σ18 σ19 σ20 σ21 σ22 σ23 σ24 σ25 σ26 σ27 σ28 σ29 σ30]) hM [] [0] rfl rfl rfl (by decide) (x_runS (As := [.long ((nI x).toInt64), .long (0 : Int64), .long (10 : Int64)]) (rest := []) hfix (c_X9_in l D q ((nI x).toInt64) (0 : Int64) (10 : Int64) ((x : Nat) : Int) (0 : Int) (10 : Int) ((Jvm.Kit.i64_of_i32 _).trans (nI_toInt (n := x) (by omega))) (by decide) (by decide)) (va_cwS 3 hts gX9_buy_X9_in rfl rfl rfl (by decide +kernel) ⟨Nat.le_of_ble_eq_true rfl, Nat.le_of_ble_eq_true rfl⟩) hM [] rfl rfl rfl hl.1 rfl (Nat.le_of_ble_eq_true rfl) dX9_buy_43 ⟨Nat.le_of_ble_eq_true rfl, Nat.le_of_ble_eq_true rfl⟩) (fun r u H locs hq hM => ?_)
        subst hq
        have hM : xM D (TY q) [w9 q ad σ0 σ1 σ2 σ3 σ4 σ5 σ6 σ7 σ8 σ9 σ10 σ11 σ12 σ13 σ14 σ15 σ16 σ17 σ18 σ19 σ20 σ21 σ22 σ23 σ24 σ25 σ26 σ27 σ28 σ29 σ30] A s.heap s H locs := hM
        refine x_ifz_eq (P := (0 : Int) ≤ ((x : Nat) : Int) ∧ ((x : Nat) : Int) ≤ (10 : Int)) (tgt := 62) hx hb dX9_buy_46 (by decide) (fun c4 => ?_) (fun c4 => ?_)
        · exfalso; omega
        · refine lv_iload hx hb dX9_buy_49 (lv_at hl 5 rfl) ?_
          refine x_i2l hx hb dX9_buy_51 ?_
          refine lv_lconst (v := 0) hx hb dX9_buy_52 (by decide) ?_
          refine lv_ldc2 (v := 2) hx hb hown (hts (.constantLong RX9 123 (2)) (by decide +kernel)) dX9_buy_53 ?_
          refine x_calli (bc := []) (br := [w9 q ad σ0 σ1 σ2 σ3 σ4 σ5 σ6 σ7 σ8 σ9 σ10 σ11 σ12 σ13 σ14 σ15 σ16 σ17 σ18 σ19 σ20 σ21 σ22 σ23 σ24 σ25 σ26 σ27 σ28 σ29 σ30]) hM [] [0] rfl rfl rfl (by decide) (x_runS (As := [.long ((nI what).toInt64), .long (0 : Int64), .long (2 : Int64)]) (rest := []) hfix (c_X9_in l D q ((nI what).toInt64) (0 : Int64) (2 : Int64) ((what : Nat) : Int) (0 : Int) (2 : Int) ((Jvm.Kit.i64_of_i32 _).trans (nI_toInt (n := what) (by omega))) (by decide) (by decide)) (va_cwS 3 hts gX9_buy_X9_in rfl rfl rfl (by decide +kernel) ⟨Nat.le_of_ble_eq_true rfl, Nat.le_of_ble_eq_true rfl⟩) hM [] rfl rfl rfl hl.1 rfl (Nat.le_of_ble_eq_true rfl) dX9_buy_56 ⟨Nat.le_of_ble_eq_true rfl, Nat.le_of_ble_eq_true rfl⟩) (fun r u H locs hq hM => ?_)
          subst hq
          have hM : xM D (TY q) [w9 q ad σ0 σ1 σ2 σ3 σ4 σ5 σ6 σ7 σ8 σ9 σ10 σ11 σ12 σ13 σ14 σ15 σ16 σ17 σ18 σ19 σ20 σ21 σ22 σ23 σ24 σ25 σ26 σ27 σ28 σ29 σ30] A s.heap s H locs := hM
          refine x_ifz_ne (P := (0 : Int) ≤ ((what : Nat) : Int) ∧ ((what : Nat) : Int) ≤ (2 : Int)) (tgt := 66) hx hb dX9_buy_59 (by decide) (fun c5 => ?_) (fun c5 => ?_)
          · refine lv_ldc2 (v := 10000000000) hx hb hown (hts (.constantLong RX9 275 (10000000000)) (by decide +kernel)) dX9_buy_66 ?_
            refine lv_lstore (lv' := [(6, .long (10000000000 : Int64)), (0, .ref (ad 0)), (1, .int (nI v)), (2, .int (nI a)), (3, .int (nI b)), (4, .int (nI x)), (5, .int (nI what))]) hx hb dX9_buy_69 hl (by decide) rfl (fun ls hl => ?_)
            refine lv_lconst (v := 0) hx hb dX9_buy_71 (by decide) ?_
            refine lv_lstore (lv' := [(8, .long (0 : Int64)), (6, .long (10000000000 : Int64)), (0, .ref (ad 0)), (1, .int (nI v)), (2, .int (nI a)), (3, .int (nI b)), (4, .int (nI x)), (5, .int (nI what))]) hx hb dX9_buy_72 hl (by decide) rfl (fun ls hl => ?_)
            refine lv_bipush (v := (-4)) hx hb dX9_buy_74 (by decide) ?_
            refine lv_istore (lv' := [(10, .int (-4)), (8, .long (0 : Int64)), (6, .long (10000000000 : Int64)), (0, .ref (ad 0)), (1, .int (nI v)), (2, .int (nI a)), (3, .int (nI b)), (4, .int (nI x)), (5, .int (nI what))]) hx hb dX9_buy_76 hl (by decide) rfl (fun ls hl => ?_)
            refine lv_lload hx hb dX9_buy_78 (lv_at hl 2 rfl) ?_
            refine lv_lstore (lv' := [(11, .long (10000000000 : Int64)), (10, .int (-4)), (8, .long (0 : Int64)), (6, .long (10000000000 : Int64)), (0, .ref (ad 0)), (1, .int (nI v)), (2, .int (nI a)), (3, .int (nI b)), (4, .int (nI x)), (5, .int (nI what))]) hx hb dX9_buy_80 hl (by decide) rfl (fun ls hl => ?_)
            refine lv_iconst (v := nI 0) hx hb dX9_buy_82 (by decide) ?_
            refine lv_istore (lv' := [(13, .int (nI 0)), (11, .long (10000000000 : Int64)), (10, .int (-4)), (8, .long (0 : Int64)), (6, .long (10000000000 : Int64)), (0, .ref (ad 0)), (1, .int (nI v)), (2, .int (nI a)), (3, .int (nI b)), (4, .int (nI x)), (5, .int (nI what))]) hx hb dX9_buy_83 hl (by decide) rfl (fun ls hl => ?_)
            refine x_loop (ι := Nat) (fun t => [(0, .ref (ad 0)), (1, .int (nI v)), (2, .int (nI a)), (3, .int (nI b)), (4, .int (nI x)), (5, .int (nI what)), (6, .long (10000000000 : Int64)), (8, .long (xbR v a b x t).1), (10, .int (xbR v a b x t).2), (11, .long (xbT x t)), (13, .int (nI t))]) (fun t => [w9 q ad σ0 σ1 σ2 σ3 σ4 σ5 σ6 σ7 σ8 σ9 σ10 σ11 σ12 σ13 σ14 σ15 σ16 σ17 σ18 σ19 σ20 σ21 σ22 σ23 σ24 σ25 σ26 σ27 σ28 σ29 σ30]) (fun t => t ≤ 11) (fun t => 11 - t) 0 (by omega) hM (lv_sub hl [5, 6, 7, 8, 9, 10, 4, 3, 2, 1, 0] rfl) ?_
            intro t hI7 ih6 H locs hM ls hl
            have hM : xM D (TY q) [w9 q ad σ0 σ1 σ2 σ3 σ4 σ5 σ6 σ7 σ8 σ9 σ10 σ11 σ12 σ13 σ14 σ15 σ16 σ17 σ18 σ19 σ20 σ21 σ22 σ23 σ24 σ25 σ26 σ27 σ28 σ29 σ30] A s.heap s H locs := hM
            have hl : lv_has ls 17 [(0, .ref (ad 0)), (1, .int (nI v)), (2, .int (nI a)), (3, .int (nI b)), (4, .int (nI x)), (5, .int (nI what)), (6, .long (10000000000 : Int64)), (8, .long (xbR v a b x t).1), (10, .int (xbR v a b x t).2), (11, .long (xbT x t)), (13, .int (nI t))] := hl
            have hI7 : t ≤ 11 := hI7
            try dsimp only
            refine lv_iload hx hb dX9_buy_85 (lv_at hl 10 rfl) ?_
            refine lv_bipush (v := nI 10) hx hb dX9_buy_87 (by decide) ?_
            refine x_icmp_gt (x := t) (y := 10) (tgt := 164) hx hb (by omega) (by omega) dX9_buy_89 (by decide) (fun c8 => ?_) (fun c8 => ?_)
            · refine lv_lload hx hb dX9_buy_164 (lv_at hl 7 rfl) ?_
              refine lv_ldc2 (v := 1000) hx hb hown (hts (.constantLong RX9 277 (1000)) (by decide +kernel)) dX9_buy_166 ?_
              refine lv_lload hx hb dX9_buy_169 (lv_at hl 6 rfl) ?_
              refine lv_lmul hx hb dX9_buy_171 ?_
              refine lv_ladd hx hb dX9_buy_172 ?_
              refine lv_lstore (lv' := [(13, .long ((xbR v a b x t).1 + ((1000 : Int64) * (10000000000 : Int64)))), (0, .ref (ad 0)), (1, .int (nI v)), (2, .int (nI a)), (3, .int (nI b)), (4, .int (nI x)), (5, .int (nI what)), (6, .long (10000000000 : Int64)), (8, .long (xbR v a b x t).1), (10, .int (xbR v a b x t).2), (11, .long (xbT x t))]) hx hb dX9_buy_173 hl (by decide) rfl (fun ls hl => ?_)
              refine lv_lload hx hb dX9_buy_175 (lv_at hl 0 rfl) ?_
              refine lv_lload hx hb dX9_buy_177 (lv_at hl 7 rfl) ?_
              refine x_calll (bc := []) (br := [w9 q ad σ0 σ1 σ2 σ3 σ4 σ5 σ6 σ7 σ8 σ9 σ10 σ11 σ12 σ13 σ14 σ15 σ16 σ17 σ18 σ19 σ20 σ21 σ22 σ23 σ24 σ25 σ26 σ27 σ28 σ29 σ30]) hM [] [0] rfl rfl rfl (by decide) (x_runS (As := [.long ((xbR v a b x t).1 + ((1000 : Int64) * (10000000000 : Int64))), .long (10000000000 : Int64)]) (rest := []) hfix (c_X9_common l D q ((xbR v a b x t).1 + ((1000 : Int64) * (10000000000 : Int64))) (10000000000 : Int64) (by have hk9 : t = 11 := (by omega); subst hk9; exact hA) (by decide)) (va_cwS 2 hts gX9_buy_X9_common rfl rfl rfl (by decide +kernel) ⟨Nat.le_of_ble_eq_true rfl, Nat.le_of_ble_eq_true rfl⟩) hM [] rfl rfl rfl hl.1 rfl (Nat.le_of_ble_eq_true rfl) dX9_buy_179 ⟨Nat.le_of_ble_eq_true rfl, Nat.le_of_ble_eq_true rfl⟩) (fun r u H locs hq hM => ?_)
              subst hq
              have hM : xM D (TY q) [w9 q ad σ0 σ1 σ2 σ3 σ4 σ5 σ6 σ7 σ8 σ9 σ10 σ11 σ12 σ13 σ14 σ15 σ16 σ17 σ18 σ19 σ20 σ21 σ22 σ23 σ24 σ25 σ26 σ27 σ28 σ29 σ30] A s.heap s H locs := hM
              refine lv_lstore (lv' := [(15, .long (xgcd ((xbR v a b x t).1 + ((1000 : Int64) * (10000000000 : Int64))) (10000000000 : Int64))), (13, .long ((xbR v a b x t).1 + ((1000 : Int64) * (10000000000 : Int64)))), (0, .ref (ad 0)), (1, .int (nI v)), (2, .int (nI a)), (3, .int (nI b)), (4, .int (nI x)), (5, .int (nI what)), (6, .long (10000000000 : Int64)), (8, .long (xbR v a b x t).1), (10, .int (xbR v a b x t).2), (11, .long (xbT x t))]) hx hb dX9_buy_182 hl (by decide) rfl (fun ls hl => ?_)
              refine lv_iload hx hb dX9_buy_184 (lv_at hl 7 rfl) ?_
              refine x_if_ne (x := what) (tgt := 195) hx hb (by omega) dX9_buy_186 (by decide) (fun c9 => ?_) (fun c9 => ?_)
              · refine lv_iload hx hb dX9_buy_195 (lv_at hl 7 rfl) ?_
                refine lv_iconst (v := nI 1) hx hb dX9_buy_197 (by decide) ?_
                refine x_icmp_ne (x := what) (y := 1) (tgt := 209) hx hb (by omega) (by omega) dX9_buy_198 (by decide) (fun c10 => ?_) (fun c10 => ?_)
                · refine lv_lload hx hb dX9_buy_209 (lv_at hl 8 rfl) ?_
                  refine lv_lload hx hb dX9_buy_211 (lv_at hl 0 rfl) ?_
                  refine lv_ldiv hx hb dX9_buy_213 xgcd_ne64 ?_
                  exact x_lret hx hb hr hlocks () hM (show (10000000000 : Int64) / (xgcd ((xbR v a b x t).1 + ((1000 : Int64) * (10000000000 : Int64))) (10000000000 : Int64)) = xbuy v a b x what from by (have hk9 : t = 11 := (by omega); subst hk9; unfold xbuy xbA; first | rw [if_pos (c := what = 0) (by omega)] | (rw [if_neg (c := what = 0) (by omega), if_pos (c := what = 1) (by omega)]) | (rw [if_neg (c := what = 0) (by omega), if_neg (c := what = 1) (by omega)]))) dX9_buy_214
                · refine lv_lload hx hb dX9_buy_201 (lv_at hl 1 rfl) ?_
                  refine lv_lload hx hb dX9_buy_203 (lv_at hl 0 rfl) ?_
                  refine lv_ldiv hx hb dX9_buy_205 xgcd_ne64 ?_
                  refine lv_goto (tgt := 214) hx hb dX9_buy_206 (by decide) ?_
                  exact x_lret hx hb hr hlocks () hM (show ((xbR v a b x t).1 + ((1000 : Int64) * (10000000000 : Int64))) / (xgcd ((xbR v a b x t).1 + ((1000 : Int64) * (10000000000 : Int64))) (10000000000 : Int64)) = xbuy v a b x what from by (have hk9 : t = 11 := (by omega); subst hk9; unfold xbuy xbA; first | rw [if_pos (c := what = 0) (by omega)] | (rw [if_neg (c := what = 0) (by omega), if_pos (c := what = 1) (by omega)]) | (rw [if_neg (c := what = 0) (by omega), if_neg (c := what = 1) (by omega)]))) dX9_buy_214
              · refine lv_iload hx hb dX9_buy_189 (lv_at hl 10 rfl) ?_
                refine x_i2l hx hb dX9_buy_191 ?_
                refine lv_goto (tgt := 214) hx hb dX9_buy_192 (by decide) ?_
                exact x_lret hx hb hr hlocks () hM (show (xbR v a b x t).2.toInt64 = xbuy v a b x what from by (have hk9 : t = 11 := (by omega); subst hk9; unfold xbuy xbA; first | rw [if_pos (c := what = 0) (by omega)] | (rw [if_neg (c := what = 0) (by omega), if_pos (c := what = 1) (by omega)]) | (rw [if_neg (c := what = 0) (by omega), if_neg (c := what = 1) (by omega)]))) dX9_buy_214
            · have hbt9 := hbt t (by omega)
              refine lv_iload_n hx hb dX9_buy_92 rfl (lv_at hl 2 rfl) ?_
              refine lv_iload_n hx hb dX9_buy_93 rfl (lv_at hl 3 rfl) ?_
              refine lv_iload hx hb dX9_buy_94 (lv_at hl 10 rfl) ?_
              refine x_imul (x := b) (y := t) hx hb dX9_buy_96 ?_
              refine x_join (ι := Nat) (pcJ := 110) (fun j11 => [(0, .ref (ad 0)), (1, .int (nI v)), (2, .int (nI a)), (3, .int (nI b)), (4, .int (nI x)), (5, .int (nI what)), (6, .long (10000000000 : Int64)), (8, .long (xbR v a b x t).1), (10, .int (xbR v a b x t).2), (11, .long (xbT x t)), (13, .int (nI t))]) (fun j11 => [w9 q ad σ0 σ1 σ2 σ3 σ4 σ5 σ6 σ7 σ8 σ9 σ10 σ11 σ12 σ13 σ14 σ15 σ16 σ17 σ18 σ19 σ20 σ21 σ22 σ23 σ24 σ25 σ26 σ27 σ28 σ29 σ30]) (fun j11 => [.int (nI j11)]) (fun j11 => j11 = (if a ≤ (b * t) then 0 else (a - (b * t)))) hM hl ?_ ?_
              · intro j11 hj12 H locs hM ls hl
                have hM : xM D (TY q) [w9 q ad σ0 σ1 σ2 σ3 σ4 σ5 σ6 σ7 σ8 σ9 σ10 σ11 σ12 σ13 σ14 σ15 σ16 σ17 σ18 σ19 σ20 σ21 σ22 σ23 σ24 σ25 σ26 σ27 σ28 σ29 σ30] A s.heap s H locs := hM
                have hl : lv_has ls 17 [(0, .ref (ad 0)), (1, .int (nI v)), (2, .int (nI a)), (3, .int (nI b)), (4, .int (nI x)), (5, .int (nI what)), (6, .long (10000000000 : Int64)), (8, .long (xbR v a b x t).1), (10, .int (xbR v a b x t).2), (11, .long (xbT x t)), (13, .int (nI t))] := hl
                try dsimp only
                have hj11 : j11 = (if a ≤ (b * t) then 0 else (a - (b * t))) := hj12
                refine lv_istore (lv' := [(14, .int (nI j11)), (0, .ref (ad 0)), (1, .int (nI v)), (2, .int (nI a)), (3, .int (nI b)), (4, .int (nI x)), (5, .int (nI what)), (6, .long (10000000000 : Int64)), (8, .long (xbR v a b x t).1), (10, .int (xbR v a b x t).2), (11, .long (xbT x t)), (13, .int (nI t))]) hx hb dX9_buy_110 hl (by decide) rfl (fun ls hl => ?_)
                refine lv_lload hx hb dX9_buy_112 (lv_at hl 10 rfl) ?_
                refine lv_iload_n hx hb dX9_buy_114 rfl (lv_at hl 2 rfl) ?_
                refine lv_iload hx hb dX9_buy_115 (lv_at hl 0 rfl) ?_
                refine lv_isub hx hb dX9_buy_117 ?_
                refine x_i2l hx hb dX9_buy_118 ?_
                refine lv_lmul hx hb dX9_buy_119 ?_
                refine lv_lstore (lv' := [(15, .long ((xbT x t) * (((nI v) - (nI j11)).toInt64))), (14, .int (nI j11)), (0, .ref (ad 0)), (1, .int (nI v)), (2, .int (nI a)), (3, .int (nI b)), (4, .int (nI x)), (5, .int (nI what)), (6, .long (10000000000 : Int64)), (8, .long (xbR v a b x t).1), (10, .int (xbR v a b x t).2), (11, .long (xbT x t)), (13, .int (nI t))]) hx hb dX9_buy_120 hl (by decide) rfl (fun ls hl => ?_)
                refine lv_iload hx hb dX9_buy_122 (lv_at hl 10 rfl) ?_
                refine lv_if_lt (tgt := 135) hx hb dX9_buy_124 (by decide) (fun c13 => ?_) (fun c13 => ?_)
                · have hbr := xbR_1 (v := v) (a := a) (b := b) (x := x) (t := t) (by first | exact Or.inl (by assumption) | exact Or.inr (by unfold xbG; rw [← xcost, ← hj11]; exact xlt_of_nle (by assumption)))
                  rw [xbG, ← xcost, ← hj11] at hbr
                  refine lv_lload hx hb dX9_buy_135 (lv_at hl 0 rfl) ?_
                  refine lv_lstore (lv' := [(8, .long ((xbT x t) * (((nI v) - (nI j11)).toInt64))), (15, .long ((xbT x t) * (((nI v) - (nI j11)).toInt64))), (14, .int (nI j11)), (0, .ref (ad 0)), (1, .int (nI v)), (2, .int (nI a)), (3, .int (nI b)), (4, .int (nI x)), (5, .int (nI what)), (6, .long (10000000000 : Int64)), (10, .int (xbR v a b x t).2), (11, .long (xbT x t)), (13, .int (nI t))]) hx hb dX9_buy_137 hl (by decide) rfl (fun ls hl => ?_)
                  refine lv_iload hx hb dX9_buy_139 (lv_at hl 12 rfl) ?_
                  refine lv_istore (lv' := [(10, .int (nI t)), (8, .long ((xbT x t) * (((nI v) - (nI j11)).toInt64))), (15, .long ((xbT x t) * (((nI v) - (nI j11)).toInt64))), (14, .int (nI j11)), (0, .ref (ad 0)), (1, .int (nI v)), (2, .int (nI a)), (3, .int (nI b)), (4, .int (nI x)), (5, .int (nI what)), (6, .long (10000000000 : Int64)), (11, .long (xbT x t)), (13, .int (nI t))]) hx hb dX9_buy_141 hl (by decide) rfl (fun ls hl => ?_)
                  have hbr := by first | exact hbr | exact xbR_0 (v := v) (a := a) (b := b) (x := x) (t := t) (by assumption) (by unfold xbG; rw [← xcost, ← hj11]; exact xnlt_of_le (by assumption))
                  refine lv_lload hx hb dX9_buy_143 (lv_at hl 11 rfl) ?_
                  refine lv_ldc2 (v := 10) hx hb hown (hts (.constantLong RX9 267 (10)) (by decide +kernel)) dX9_buy_145 ?_
                  refine lv_ldiv hx hb dX9_buy_148 (by decide) ?_
                  refine lv_bipush (v := nI 10) hx hb dX9_buy_149 (by decide) ?_
                  refine lv_iload hx hb dX9_buy_151 (lv_at hl 8 rfl) ?_
                  refine lv_isub hx hb dX9_buy_153 ?_
                  refine x_i2l hx hb dX9_buy_154 ?_
                  refine lv_lmul hx hb dX9_buy_155 ?_
                  refine lv_lstore (lv' := [(11, .long (((xbT x t) / (10 : Int64)) * (((nI 10) - (nI x)).toInt64))), (10, .int (nI t)), (8, .long ((xbT x t) * (((nI v) - (nI j11)).toInt64))), (15, .long ((xbT x t) * (((nI v) - (nI j11)).toInt64))), (14, .int (nI j11)), (0, .ref (ad 0)), (1, .int (nI v)), (2, .int (nI a)), (3, .int (nI b)), (4, .int (nI x)), (5, .int (nI what)), (6, .long (10000000000 : Int64)), (13, .int (nI t))]) hx hb dX9_buy_156 hl (by decide) rfl (fun ls hl => ?_)
                  refine lv_iinc (v := nI (t + 1)) (lv' := [(13, .int (nI (t + 1))), (11, .long (((xbT x t) / (10 : Int64)) * (((nI 10) - (nI x)).toInt64))), (10, .int (nI t)), (8, .long ((xbT x t) * (((nI v) - (nI j11)).toInt64))), (15, .long ((xbT x t) * (((nI v) - (nI j11)).toInt64))), (14, .int (nI j11)), (0, .ref (ad 0)), (1, .int (nI v)), (2, .int (nI a)), (3, .int (nI b)), (4, .int (nI x)), (5, .int (nI what)), (6, .long (10000000000 : Int64))]) hx hb dX9_buy_158 hl (k := 12) rfl (x_inc _ 1) (by decide) rfl (fun ls hl => ?_)
                  refine lv_goto (tgt := 85) hx hb dX9_buy_161 (by decide) ?_
                  have hl : lv_has ls 17 [(0, .ref (ad 0)), (1, .int (nI v)), (2, .int (nI a)), (3, .int (nI b)), (4, .int (nI x)), (5, .int (nI what)), (6, .long (10000000000 : Int64)), (8, .long ((xbT x t) * (((nI v) - (nI j11)).toInt64))), (10, .int (nI t)), (11, .long (((xbT x t) / (10 : Int64)) * (((nI 10) - (nI x)).toInt64))), (13, .int (nI (t + 1)))] := lv_sub hl [6, 7, 8, 9, 10, 11, 12, 3, 2, 1, 0] rfl
                  have e14 : (xbT x t) * (((nI v) - (nI j11)).toInt64) = (xbR v a b x (t + 1)).1 := by (rw [hbr])
                  have hl : lv_has ls 17 [(0, .ref (ad 0)), (1, .int (nI v)), (2, .int (nI a)), (3, .int (nI b)), (4, .int (nI x)), (5, .int (nI what)), (6, .long (10000000000 : Int64)), (8, .long (xbR v a b x (t + 1)).1), (10, .int (nI t)), (11, .long (((xbT x t) / (10 : Int64)) * (((nI 10) - (nI x)).toInt64))), (13, .int (nI (t + 1)))] := x_lvset hl 7 rfl (congrArg Value.long e14) rfl
                  have e15 : nI t = (xbR v a b x (t + 1)).2 := by (rw [hbr])
                  have hl : lv_has ls 17 [(0, .ref (ad 0)), (1, .int (nI v)), (2, .int (nI a)), (3, .int (nI b)), (4, .int (nI x)), (5, .int (nI what)), (6, .long (10000000000 : Int64)), (8, .long (xbR v a b x (t + 1)).1), (10, .int (xbR v a b x (t + 1)).2), (11, .long (((xbT x t) / (10 : Int64)) * (((nI 10) - (nI x)).toInt64))), (13, .int (nI (t + 1)))] := x_lvset hl 8 rfl (congrArg Value.int e15) rfl
                  exact ih6 (t + 1) (show 11 - (t + 1) < 11 - t from by omega) (show (t + 1) ≤ 11 from by omega) _ _ hM _ hl
                · refine lv_lload hx hb dX9_buy_127 (lv_at hl 0 rfl) ?_
                  refine lv_lload hx hb dX9_buy_129 (lv_at hl 9 rfl) ?_
                  refine x_lcmp_le (tgt := 143) hx hb dX9_buy_131 dX9_buy_132 (by decide) (fun c16 => ?_) (fun c16 => ?_)
                  · have hbr := by first | exact hbr | exact xbR_0 (v := v) (a := a) (b := b) (x := x) (t := t) (by assumption) (by unfold xbG; rw [← xcost, ← hj11]; exact xnlt_of_le (by assumption))
                    refine lv_lload hx hb dX9_buy_143 (lv_at hl 11 rfl) ?_
                    refine lv_ldc2 (v := 10) hx hb hown (hts (.constantLong RX9 267 (10)) (by decide +kernel)) dX9_buy_145 ?_
                    refine lv_ldiv hx hb dX9_buy_148 (by decide) ?_
                    refine lv_bipush (v := nI 10) hx hb dX9_buy_149 (by decide) ?_
                    refine lv_iload hx hb dX9_buy_151 (lv_at hl 6 rfl) ?_
                    refine lv_isub hx hb dX9_buy_153 ?_
                    refine x_i2l hx hb dX9_buy_154 ?_
                    refine lv_lmul hx hb dX9_buy_155 ?_
                    refine lv_lstore (lv' := [(11, .long (((xbT x t) / (10 : Int64)) * (((nI 10) - (nI x)).toInt64))), (15, .long ((xbT x t) * (((nI v) - (nI j11)).toInt64))), (14, .int (nI j11)), (0, .ref (ad 0)), (1, .int (nI v)), (2, .int (nI a)), (3, .int (nI b)), (4, .int (nI x)), (5, .int (nI what)), (6, .long (10000000000 : Int64)), (8, .long (xbR v a b x t).1), (10, .int (xbR v a b x t).2), (13, .int (nI t))]) hx hb dX9_buy_156 hl (by decide) rfl (fun ls hl => ?_)
                    refine lv_iinc (v := nI (t + 1)) (lv' := [(13, .int (nI (t + 1))), (11, .long (((xbT x t) / (10 : Int64)) * (((nI 10) - (nI x)).toInt64))), (15, .long ((xbT x t) * (((nI v) - (nI j11)).toInt64))), (14, .int (nI j11)), (0, .ref (ad 0)), (1, .int (nI v)), (2, .int (nI a)), (3, .int (nI b)), (4, .int (nI x)), (5, .int (nI what)), (6, .long (10000000000 : Int64)), (8, .long (xbR v a b x t).1), (10, .int (xbR v a b x t).2)]) hx hb dX9_buy_158 hl (k := 12) rfl (x_inc _ 1) (by decide) rfl (fun ls hl => ?_)
                    refine lv_goto (tgt := 85) hx hb dX9_buy_161 (by decide) ?_
                    have hl : lv_has ls 17 [(0, .ref (ad 0)), (1, .int (nI v)), (2, .int (nI a)), (3, .int (nI b)), (4, .int (nI x)), (5, .int (nI what)), (6, .long (10000000000 : Int64)), (8, .long (xbR v a b x t).1), (10, .int (xbR v a b x t).2), (11, .long (((xbT x t) / (10 : Int64)) * (((nI 10) - (nI x)).toInt64))), (13, .int (nI (t + 1)))] := lv_sub hl [4, 5, 6, 7, 8, 9, 10, 11, 12, 1, 0] rfl
                    have e17 : (xbR v a b x t).1 = (xbR v a b x (t + 1)).1 := by (rw [hbr])
                    have hl : lv_has ls 17 [(0, .ref (ad 0)), (1, .int (nI v)), (2, .int (nI a)), (3, .int (nI b)), (4, .int (nI x)), (5, .int (nI what)), (6, .long (10000000000 : Int64)), (8, .long (xbR v a b x (t + 1)).1), (10, .int (xbR v a b x t).2), (11, .long (((xbT x t) / (10 : Int64)) * (((nI 10) - (nI x)).toInt64))), (13, .int (nI (t + 1)))] := x_lvset hl 7 rfl (congrArg Value.long e17) rfl
                    have e18 : (xbR v a b x t).2 = (xbR v a b x (t + 1)).2 := by (rw [hbr])
                    have hl : lv_has ls 17 [(0, .ref (ad 0)), (1, .int (nI v)), (2, .int (nI a)), (3, .int (nI b)), (4, .int (nI x)), (5, .int (nI what)), (6, .long (10000000000 : Int64)), (8, .long (xbR v a b x (t + 1)).1), (10, .int (xbR v a b x (t + 1)).2), (11, .long (((xbT x t) / (10 : Int64)) * (((nI 10) - (nI x)).toInt64))), (13, .int (nI (t + 1)))] := x_lvset hl 8 rfl (congrArg Value.int e18) rfl
                    exact ih6 (t + 1) (show 11 - (t + 1) < 11 - t from by omega) (show (t + 1) ≤ 11 from by omega) _ _ hM _ hl
                  · have hbr := xbR_1 (v := v) (a := a) (b := b) (x := x) (t := t) (by first | exact Or.inl (by assumption) | exact Or.inr (by unfold xbG; rw [← xcost, ← hj11]; exact xlt_of_nle (by assumption)))
                    rw [xbG, ← xcost, ← hj11] at hbr
                    refine lv_lload hx hb dX9_buy_135 (lv_at hl 0 rfl) ?_
                    refine lv_lstore (lv' := [(8, .long ((xbT x t) * (((nI v) - (nI j11)).toInt64))), (15, .long ((xbT x t) * (((nI v) - (nI j11)).toInt64))), (14, .int (nI j11)), (0, .ref (ad 0)), (1, .int (nI v)), (2, .int (nI a)), (3, .int (nI b)), (4, .int (nI x)), (5, .int (nI what)), (6, .long (10000000000 : Int64)), (10, .int (xbR v a b x t).2), (11, .long (xbT x t)), (13, .int (nI t))]) hx hb dX9_buy_137 hl (by decide) rfl (fun ls hl => ?_)
                    refine lv_iload hx hb dX9_buy_139 (lv_at hl 12 rfl) ?_
                    refine lv_istore (lv' := [(10, .int (nI t)), (8, .long ((xbT x t) * (((nI v) - (nI j11)).toInt64))), (15, .long ((xbT x t) * (((nI v) - (nI j11)).toInt64))), (14, .int (nI j11)), (0, .ref (ad 0)), (1, .int (nI v)), (2, .int (nI a)), (3, .int (nI b)), (4, .int (nI x)), (5, .int (nI what)), (6, .long (10000000000 : Int64)), (11, .long (xbT x t)), (13, .int (nI t))]) hx hb dX9_buy_141 hl (by decide) rfl (fun ls hl => ?_)
                    have hbr := by first | exact hbr | exact xbR_0 (v := v) (a := a) (b := b) (x := x) (t := t) (by assumption) (by unfold xbG; rw [← xcost, ← hj11]; exact xnlt_of_le (by assumption))
                    refine lv_lload hx hb dX9_buy_143 (lv_at hl 11 rfl) ?_
                    refine lv_ldc2 (v := 10) hx hb hown (hts (.constantLong RX9 267 (10)) (by decide +kernel)) dX9_buy_145 ?_
                    refine lv_ldiv hx hb dX9_buy_148 (by decide) ?_
                    refine lv_bipush (v := nI 10) hx hb dX9_buy_149 (by decide) ?_
                    refine lv_iload hx hb dX9_buy_151 (lv_at hl 8 rfl) ?_
                    refine lv_isub hx hb dX9_buy_153 ?_
                    refine x_i2l hx hb dX9_buy_154 ?_
                    refine lv_lmul hx hb dX9_buy_155 ?_
                    refine lv_lstore (lv' := [(11, .long (((xbT x t) / (10 : Int64)) * (((nI 10) - (nI x)).toInt64))), (10, .int (nI t)), (8, .long ((xbT x t) * (((nI v) - (nI j11)).toInt64))), (15, .long ((xbT x t) * (((nI v) - (nI j11)).toInt64))), (14, .int (nI j11)), (0, .ref (ad 0)), (1, .int (nI v)), (2, .int (nI a)), (3, .int (nI b)), (4, .int (nI x)), (5, .int (nI what)), (6, .long (10000000000 : Int64)), (13, .int (nI t))]) hx hb dX9_buy_156 hl (by decide) rfl (fun ls hl => ?_)
                    refine lv_iinc (v := nI (t + 1)) (lv' := [(13, .int (nI (t + 1))), (11, .long (((xbT x t) / (10 : Int64)) * (((nI 10) - (nI x)).toInt64))), (10, .int (nI t)), (8, .long ((xbT x t) * (((nI v) - (nI j11)).toInt64))), (15, .long ((xbT x t) * (((nI v) - (nI j11)).toInt64))), (14, .int (nI j11)), (0, .ref (ad 0)), (1, .int (nI v)), (2, .int (nI a)), (3, .int (nI b)), (4, .int (nI x)), (5, .int (nI what)), (6, .long (10000000000 : Int64))]) hx hb dX9_buy_158 hl (k := 12) rfl (x_inc _ 1) (by decide) rfl (fun ls hl => ?_)
                    refine lv_goto (tgt := 85) hx hb dX9_buy_161 (by decide) ?_
                    have hl : lv_has ls 17 [(0, .ref (ad 0)), (1, .int (nI v)), (2, .int (nI a)), (3, .int (nI b)), (4, .int (nI x)), (5, .int (nI what)), (6, .long (10000000000 : Int64)), (8, .long ((xbT x t) * (((nI v) - (nI j11)).toInt64))), (10, .int (nI t)), (11, .long (((xbT x t) / (10 : Int64)) * (((nI 10) - (nI x)).toInt64))), (13, .int (nI (t + 1)))] := lv_sub hl [6, 7, 8, 9, 10, 11, 12, 3, 2, 1, 0] rfl
                    have e19 : (xbT x t) * (((nI v) - (nI j11)).toInt64) = (xbR v a b x (t + 1)).1 := by (rw [hbr])
                    have hl : lv_has ls 17 [(0, .ref (ad 0)), (1, .int (nI v)), (2, .int (nI a)), (3, .int (nI b)), (4, .int (nI x)), (5, .int (nI what)), (6, .long (10000000000 : Int64)), (8, .long (xbR v a b x (t + 1)).1), (10, .int (nI t)), (11, .long (((xbT x t) / (10 : Int64)) * (((nI 10) - (nI x)).toInt64))), (13, .int (nI (t + 1)))] := x_lvset hl 7 rfl (congrArg Value.long e19) rfl
                    have e20 : nI t = (xbR v a b x (t + 1)).2 := by (rw [hbr])
                    have hl : lv_has ls 17 [(0, .ref (ad 0)), (1, .int (nI v)), (2, .int (nI a)), (3, .int (nI b)), (4, .int (nI x)), (5, .int (nI what)), (6, .long (10000000000 : Int64)), (8, .long (xbR v a b x (t + 1)).1), (10, .int (xbR v a b x (t + 1)).2), (11, .long (((xbT x t) / (10 : Int64)) * (((nI 10) - (nI x)).toInt64))), (13, .int (nI (t + 1)))] := x_lvset hl 8 rfl (congrArg Value.int e20) rfl
                    exact ih6 (t + 1) (show 11 - (t + 1) < 11 - t from by omega) (show (t + 1) ≤ 11 from by omega) _ _ hM _ hl
              · intro hJ21 H locs hM ls hl
                refine x_icmp_le (x := a) (y := b * t) (tgt := 109) hx hb (by omega) (by omega) dX9_buy_97 (by decide) (fun c22 => ?_) (fun c22 => ?_)
                · refine lv_iconst (v := nI 0) hx hb dX9_buy_109 (by decide) ?_
                  exact hJ21 0 (show 0 = (if a ≤ (b * t) then 0 else (a - (b * t))) from by (first | exact (if_pos (by assumption)).symm | exact (if_neg (by assumption)).symm)) _ _ hM _ (lv_sub hl [0, 1, 2, 3, 4, 5, 6, 7, 8, 9, 10] rfl)
                · refine lv_iload_n hx hb dX9_buy_100 rfl (lv_at hl 2 rfl) ?_
                  refine lv_iload_n hx hb dX9_buy_101 rfl (lv_at hl 3 rfl) ?_
                  refine lv_iload hx hb dX9_buy_102 (lv_at hl 10 rfl) ?_
                  refine x_imul (x := b) (y := t) hx hb dX9_buy_104 ?_
                  refine x_isub (x := a) (y := b * t) hx hb (by omega) dX9_buy_105 ?_
                  refine lv_goto (tgt := 110) hx hb dX9_buy_106 (by decide) ?_
                  exact hJ21 (a - (b * t)) (show (a - (b * t)) = (if a ≤ (b * t) then 0 else (a - (b * t))) from by (first | exact (if_pos (by assumption)).symm | exact (if_neg (by assumption)).symm)) _ _ hM _ (lv_sub hl [0, 1, 2, 3, 4, 5, 6, 7, 8, 9, 10] rfl)
          · exfalso; omega
