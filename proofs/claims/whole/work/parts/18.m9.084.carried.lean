set_option maxRecDepth 20000 in
theorem ggX9_carried_X9_isGood : GoodIn wsX9_carried wsX9_isGood := goodIn_r _ [11, 12, 13, 14, 10, 15, 91, 92, 93, 94, 95, 96, 97, 98, 99, 100, 101, 102, 103, 104, 105, 106, 107, 108, 109, 110, 111, 112, 113, 114, 115, 116, 117, 118, 119, 120, 121] (by decide +kernel) (by decide +kernel)
set_option maxRecDepth 20000 in
theorem gX9_carried_X9_isGood : GoodIn wsX9_carried (wsV RX9 225 RX9 yX9_isGood wsX9_isGood) := goodIn_app (goodIn_of _ (by decide +kernel)) ggX9_carried_X9_isGood
set_option maxRecDepth 20000 in
theorem ggX9_carried_X9_in : GoodIn wsX9_carried wsX9_in := goodIn_r _ [15] (by decide +kernel) (by decide +kernel)
set_option maxRecDepth 20000 in
theorem gX9_carried_X9_in : GoodIn wsX9_carried (va_wsS RX9 104 yX9_in wsX9_in) := goodIn_app (goodIn_of _ (by decide +kernel)) ggX9_carried_X9_in
set_option maxRecDepth 20000 in
theorem ggX9_carried_X9_layWants : GoodIn wsX9_carried wsX9_layWants := goodIn_r _ [19, 3, 6, 4, 20, 21, 22, 23, 24, 25, 26, 10, 27, 28, 29, 30, 31, 32, 33, 34, 35, 36, 37, 38, 39, 40, 41, 42, 43, 44, 45, 46, 47, 48, 49, 50, 51, 52, 53, 54, 55, 56, 57, 58, 59, 60, 61, 62, 63, 64, 65, 12, 66, 67, 68, 69, 70, 71, 72, 73, 74, 75, 76, 77, 78, 79, 80, 81, 82, 83, 91, 92, 93, 94, 95, 96, 97, 98, 99, 100, 101, 102, 103, 104, 105, 106, 107, 108, 109, 110, 111, 112, 113, 114, 115, 116, 117, 118, 119, 120, 121] (by decide +kernel) (by decide +kernel)
set_option maxRecDepth 20000 in
theorem gX9_carried_X9_layWants : GoodIn wsX9_carried (wsV RX9 254 RX9 yX9_layWants wsX9_layWants) := goodIn_app (goodIn_of _ (by decide +kernel)) ggX9_carried_X9_layWants
set_option maxRecDepth 20000 in
theorem ggX9_carried_X9_has : GoodIn wsX9_carried wsX9_has := goodIn_r _ [86] (by decide +kernel) (by decide +kernel)
set_option maxRecDepth 20000 in
theorem gX9_carried_X9_has : GoodIn wsX9_carried (va_wsS RX9 258 yX9_has wsX9_has) := goodIn_app (goodIn_of _ (by decide +kernel)) ggX9_carried_X9_has
set_option maxRecDepth 20000 in
theorem ggX9_carried_X9_apart : GoodIn wsX9_carried wsX9_apart := goodIn_r _ [90] (by decide +kernel) (by decide +kernel)
set_option maxRecDepth 20000 in
theorem gX9_carried_X9_apart : GoodIn wsX9_carried (wsV RX9 238 RX9 yX9_apart wsX9_apart) := goodIn_app (goodIn_of _ (by decide +kernel)) ggX9_carried_X9_apart
theorem dX9_carried_0 : decode cX9_carried 0 = .ok (.aload_n 0, 1) := by decide +kernel
theorem dX9_carried_1 : decode cX9_carried 1 = .ok (.iload_n 1, 1) := by decide +kernel
theorem dX9_carried_2 : decode cX9_carried 2 = .ok (.invokevirtual 225, 3) := by decide +kernel
theorem dX9_carried_5 : decode cX9_carried 5 = .ok (.ifCond .eq 15, 3) := by decide +kernel
theorem dX9_carried_8 : decode cX9_carried 8 = .ok (.iload_n 2, 1) := by decide +kernel
theorem dX9_carried_9 : decode cX9_carried 9 = .ok (.i2l, 1) := by decide +kernel
theorem dX9_carried_10 : decode cX9_carried 10 = .ok (.lconst 0, 1) := by decide +kernel
theorem dX9_carried_11 : decode cX9_carried 11 = .ok (.ldc2_w 233, 3) := by decide +kernel
theorem dX9_carried_14 : decode cX9_carried 14 = .ok (.invokestatic 104, 3) := by decide +kernel
theorem dX9_carried_17 : decode cX9_carried 17 = .ok (.ifCond .ne 5, 3) := by decide +kernel
theorem dX9_carried_20 : decode cX9_carried 20 = .ok (.iconst (-1), 1) := by decide +kernel
theorem dX9_carried_21 : decode cX9_carried 21 = .ok (.ireturn, 1) := by decide +kernel
theorem dX9_carried_22 : decode cX9_carried 22 = .ok (.aload_n 0, 1) := by decide +kernel
theorem dX9_carried_23 : decode cX9_carried 23 = .ok (.iload_n 1, 1) := by decide +kernel
theorem dX9_carried_24 : decode cX9_carried 24 = .ok (.invokevirtual 254, 3) := by decide +kernel
theorem dX9_carried_27 : decode cX9_carried 27 = .ok (.ldc_w 257, 3) := by decide +kernel
theorem dX9_carried_30 : decode cX9_carried 30 = .ok (.istore_n 3, 1) := by decide +kernel
theorem dX9_carried_31 : decode cX9_carried 31 = .ok (.iconst 0, 1) := by decide +kernel
theorem dX9_carried_32 : decode cX9_carried 32 = .ok (.istore 4, 2) := by decide +kernel
theorem dX9_carried_34 : decode cX9_carried 34 = .ok (.iload 4, 2) := by decide +kernel
theorem dX9_carried_36 : decode cX9_carried 36 = .ok (.iconst 1, 1) := by decide +kernel
theorem dX9_carried_37 : decode cX9_carried 37 = .ok (.aload_n 0, 1) := by decide +kernel
theorem dX9_carried_38 : decode cX9_carried 38 = .ok (.getfield 22, 3) := by decide +kernel
theorem dX9_carried_41 : decode cX9_carried 41 = .ok (.iconst 0, 1) := by decide +kernel
theorem dX9_carried_42 : decode cX9_carried 42 = .ok (.iaload, 1) := by decide +kernel
theorem dX9_carried_43 : decode cX9_carried 43 = .ok (.ishl, 1) := by decide +kernel
theorem dX9_carried_44 : decode cX9_carried 44 = .ok (.if_icmp .ge 159, 3) := by decide +kernel
theorem dX9_carried_47 : decode cX9_carried 47 = .ok (.iconst 0, 1) := by decide +kernel
theorem dX9_carried_48 : decode cX9_carried 48 = .ok (.istore 5, 2) := by decide +kernel
theorem dX9_carried_50 : decode cX9_carried 50 = .ok (.iconst 0, 1) := by decide +kernel
theorem dX9_carried_51 : decode cX9_carried 51 = .ok (.istore 6, 2) := by decide +kernel
theorem dX9_carried_53 : decode cX9_carried 53 = .ok (.iload 6, 2) := by decide +kernel
theorem dX9_carried_55 : decode cX9_carried 55 = .ok (.aload_n 0, 1) := by decide +kernel
theorem dX9_carried_56 : decode cX9_carried 56 = .ok (.getfield 22, 3) := by decide +kernel
theorem dX9_carried_59 : decode cX9_carried 59 = .ok (.iconst 0, 1) := by decide +kernel
theorem dX9_carried_60 : decode cX9_carried 60 = .ok (.iaload, 1) := by decide +kernel
theorem dX9_carried_61 : decode cX9_carried 61 = .ok (.if_icmp .ge 123, 3) := by decide +kernel
theorem dX9_carried_64 : decode cX9_carried 64 = .ok (.iload 5, 2) := by decide +kernel
theorem dX9_carried_66 : decode cX9_carried 66 = .ok (.iload 4, 2) := by decide +kernel
theorem dX9_carried_68 : decode cX9_carried 68 = .ok (.iload 6, 2) := by decide +kernel
theorem dX9_carried_70 : decode cX9_carried 70 = .ok (.invokestatic 258, 3) := by decide +kernel
theorem dX9_carried_73 : decode cX9_carried 73 = .ok (.ifCond .eq 7, 3) := by decide +kernel
theorem dX9_carried_76 : decode cX9_carried 76 = .ok (.iconst 0, 1) := by decide +kernel
theorem dX9_carried_77 : decode cX9_carried 77 = .ok (.goto 10, 3) := by decide +kernel
theorem dX9_carried_80 : decode cX9_carried 80 = .ok (.aload_n 0, 1) := by decide +kernel
theorem dX9_carried_81 : decode cX9_carried 81 = .ok (.getfield 73, 3) := by decide +kernel
theorem dX9_carried_84 : decode cX9_carried 84 = .ok (.iload 6, 2) := by decide +kernel
theorem dX9_carried_86 : decode cX9_carried 86 = .ok (.iaload, 1) := by decide +kernel
theorem dX9_carried_87 : decode cX9_carried 87 = .ok (.iadd, 1) := by decide +kernel
theorem dX9_carried_88 : decode cX9_carried 88 = .ok (.istore 5, 2) := by decide +kernel
theorem dX9_carried_90 : decode cX9_carried 90 = .ok (.iconst 0, 1) := by decide +kernel
theorem dX9_carried_91 : decode cX9_carried 91 = .ok (.istore 7, 2) := by decide +kernel
theorem dX9_carried_93 : decode cX9_carried 93 = .ok (.iconst 0, 1) := by decide +kernel
theorem dX9_carried_94 : decode cX9_carried 94 = .ok (.istore 8, 2) := by decide +kernel
theorem dX9_carried_96 : decode cX9_carried 96 = .ok (.iload 8, 2) := by decide +kernel
theorem dX9_carried_98 : decode cX9_carried 98 = .ok (.aload_n 0, 1) := by decide +kernel
theorem dX9_carried_99 : decode cX9_carried 99 = .ok (.getfield 22, 3) := by decide +kernel
theorem dX9_carried_102 : decode cX9_carried 102 = .ok (.iconst 0, 1) := by decide +kernel
theorem dX9_carried_103 : decode cX9_carried 103 = .ok (.iaload, 1) := by decide +kernel
theorem dX9_carried_104 : decode cX9_carried 104 = .ok (.if_icmp .ge 53, 3) := by decide +kernel
theorem dX9_carried_107 : decode cX9_carried 107 = .ok (.iload 7, 2) := by decide +kernel
theorem dX9_carried_109 : decode cX9_carried 109 = .ok (.ifCond .ne 35, 3) := by decide +kernel
theorem dX9_carried_112 : decode cX9_carried 112 = .ok (.iload 4, 2) := by decide +kernel
theorem dX9_carried_114 : decode cX9_carried 114 = .ok (.iload 8, 2) := by decide +kernel
theorem dX9_carried_116 : decode cX9_carried 116 = .ok (.invokestatic 258, 3) := by decide +kernel
theorem dX9_carried_119 : decode cX9_carried 119 = .ok (.ifCond .eq 29, 3) := by decide +kernel
theorem dX9_carried_122 : decode cX9_carried 122 = .ok (.aload_n 0, 1) := by decide +kernel
theorem dX9_carried_123 : decode cX9_carried 123 = .ok (.aload_n 0, 1) := by decide +kernel
theorem dX9_carried_124 : decode cX9_carried 124 = .ok (.getfield 25, 3) := by decide +kernel
theorem dX9_carried_127 : decode cX9_carried 127 = .ok (.iload 6, 2) := by decide +kernel
theorem dX9_carried_129 : decode cX9_carried 129 = .ok (.iaload, 1) := by decide +kernel
theorem dX9_carried_130 : decode cX9_carried 130 = .ok (.aload_n 0, 1) := by decide +kernel
theorem dX9_carried_131 : decode cX9_carried 131 = .ok (.getfield 25, 3) := by decide +kernel
theorem dX9_carried_134 : decode cX9_carried 134 = .ok (.iload 8, 2) := by decide +kernel
theorem dX9_carried_136 : decode cX9_carried 136 = .ok (.iaload, 1) := by decide +kernel
theorem dX9_carried_137 : decode cX9_carried 137 = .ok (.invokevirtual 238, 3) := by decide +kernel
theorem dX9_carried_140 : decode cX9_carried 140 = .ok (.iload_n 2, 1) := by decide +kernel
theorem dX9_carried_141 : decode cX9_carried 141 = .ok (.if_icmp .gt 7, 3) := by decide +kernel
theorem dX9_carried_144 : decode cX9_carried 144 = .ok (.iconst 1, 1) := by decide +kernel
theorem dX9_carried_145 : decode cX9_carried 145 = .ok (.goto 4, 3) := by decide +kernel
theorem dX9_carried_148 : decode cX9_carried 148 = .ok (.iconst 0, 1) := by decide +kernel
theorem dX9_carried_149 : decode cX9_carried 149 = .ok (.istore 7, 2) := by decide +kernel
theorem dX9_carried_151 : decode cX9_carried 151 = .ok (.iinc 8 1, 3) := by decide +kernel
theorem dX9_carried_154 : decode cX9_carried 154 = .ok (.goto (-58), 3) := by decide +kernel
theorem dX9_carried_157 : decode cX9_carried 157 = .ok (.iload 5, 2) := by decide +kernel
theorem dX9_carried_159 : decode cX9_carried 159 = .ok (.iload 7, 2) := by decide +kernel
theorem dX9_carried_161 : decode cX9_carried 161 = .ok (.ifCond .eq 13, 3) := by decide +kernel
theorem dX9_carried_164 : decode cX9_carried 164 = .ok (.aload_n 0, 1) := by decide +kernel
theorem dX9_carried_165 : decode cX9_carried 165 = .ok (.getfield 70, 3) := by decide +kernel
theorem dX9_carried_168 : decode cX9_carried 168 = .ok (.iload 6, 2) := by decide +kernel
theorem dX9_carried_170 : decode cX9_carried 170 = .ok (.iaload, 1) := by decide +kernel
theorem dX9_carried_171 : decode cX9_carried 171 = .ok (.goto 4, 3) := by decide +kernel
theorem dX9_carried_174 : decode cX9_carried 174 = .ok (.iconst 0, 1) := by decide +kernel
theorem dX9_carried_175 : decode cX9_carried 175 = .ok (.iadd, 1) := by decide +kernel
theorem dX9_carried_176 : decode cX9_carried 176 = .ok (.istore 5, 2) := by decide +kernel
theorem dX9_carried_178 : decode cX9_carried 178 = .ok (.iinc 6 1, 3) := by decide +kernel
theorem dX9_carried_181 : decode cX9_carried 181 = .ok (.goto (-128), 3) := by decide +kernel
theorem dX9_carried_184 : decode cX9_carried 184 = .ok (.iload 5, 2) := by decide +kernel
theorem dX9_carried_186 : decode cX9_carried 186 = .ok (.iload_n 3, 1) := by decide +kernel
theorem dX9_carried_187 : decode cX9_carried 187 = .ok (.if_icmp .ge 8, 3) := by decide +kernel
theorem dX9_carried_190 : decode cX9_carried 190 = .ok (.iload 5, 2) := by decide +kernel
theorem dX9_carried_192 : decode cX9_carried 192 = .ok (.goto 4, 3) := by decide +kernel
theorem dX9_carried_195 : decode cX9_carried 195 = .ok (.iload_n 3, 1) := by decide +kernel
theorem dX9_carried_196 : decode cX9_carried 196 = .ok (.istore_n 3, 1) := by decide +kernel
theorem dX9_carried_197 : decode cX9_carried 197 = .ok (.iinc 4 1, 3) := by decide +kernel
theorem dX9_carried_200 : decode cX9_carried 200 = .ok (.goto (-166), 3) := by decide +kernel
theorem dX9_carried_203 : decode cX9_carried 203 = .ok (.iload_n 3, 1) := by decide +kernel
theorem dX9_carried_204 : decode cX9_carried 204 = .ok (.ireturn, 1) := by decide +kernel
theorem lkX9_carried_22 : Cond.fieldLink RX9 22 "LeftAtFiveModel" "houses" "[I" ∈ wsX9_carried := by decide +kernel
theorem lkX9_carried_25 : Cond.fieldLink RX9 25 "LeftAtFiveModel" "spots" "[I" ∈ wsX9_carried := by decide +kernel
theorem lkX9_carried_70 : Cond.fieldLink RX9 70 "LeftAtFiveModel" "spare" "[I" ∈ wsX9_carried := by decide +kernel
theorem lkX9_carried_73 : Cond.fieldLink RX9 73 "LeftAtFiveModel" "want" "[I" ∈ wsX9_carried := by decide +kernel
theorem iwX9_carried_X9 : ∀ w ∈ wsX90, w ∈ wsX9_carried := by decide +kernel
set_option maxHeartbeats 1000000 in
set_option maxRecDepth 100000 in
theorem c_X9_carried (l : Launch) (D : va_G) (q : Nat → ClassId) (ad : Nat → Nat) (σ0 : Int32) (σ1 : Nat → Int32) (σ2 : Nat → Int32) (σ3 : Nat → Int32) (σ4 : Nat → Int32) (σ5 : Nat → Int32) (σ6 : Nat → Int32) (σ7 : Nat → Int32) (σ8 : Nat → Int32) (σ9 : Nat → Int32) (σ10 : Nat → Int32) (σ11 : Nat → Int32) (σ12 : Nat → Int32) (σ13 : Nat → Int32) (σ14 : Nat → Int32) (σ15 : Nat → Int32) (σ16 : Nat → Int32) (σ17 : Nat → Int32) (σ18 : Nat → Int32) (σ19 : Nat → Int32) (σ20 : Int32) (σ21 : Int32) (σ22 : Int32) (σ23 : Nat → Int32) (σ24 : Int32) (σ25 : Int32) (σ26 : Nat → Int32) (σ27 : Nat → Int32) (σ28 : Nat → Int32) (σ29 : Nat → Int32) (σ30 : Nat → Int32) (g : Nat) (cc : Nat) (hg0 : g < tn (σ2 0)) (hcc : cc ≤ 60) (hc2 : σ2 0 = nI (tn (σ2 0)) ∧ tn (σ2 0) ≤ 5) (hc5 : σ5 0 = nI (tn (σ5 0)) ∧ tn (σ5 0) ≤ 5) (hc8 : σ8 0 = nI (tn (σ8 0)) ∧ tn (σ8 0) ≤ 8) (hE : okE σ9 σ10 σ11 (tn (σ8 0))) (hK0 : okK (xreg σ19 0)) : xC l yX9_carried wsX9_carried ({ frames := 6, cells := 0, slots := 0, locals := 138 }) D (TY q) [w9 q ad σ0 σ1 σ2 σ3 σ4 σ5 σ6 σ7 σ8 σ9 σ10 σ11 σ12 σ13 σ14 σ15 σ16 σ17 σ18 σ19 σ20 σ21 σ22 σ23 σ24 σ25 σ26 σ27 σ28 σ29 σ30] [.ref (ad 0), .int (nI g), .int (nI cc)] (xQi D (TY q) (fun (r : Int32) (_ : (Nat → Int32) × Int32 × Int32 × (Nat → Int32) × (Nat → Int32)) => r = xcl (fun z => xcs σ6 (xfill σ26 (fun y8 => (kGoN σ4 (tn (σ2 0)) (tn (σ5 0)) σ9 σ10 σ11 (tn (σ8 0)) (-4) (xreg σ19 0, σ24, nI 0) (60 - tn (xreg σ19 0 25))).1 (5 * y8 + g)) (tn (σ5 0))) (xwt σ9 σ10 g (fun i => (kGoN σ4 (tn (σ2 0)) (tn (σ5 0)) σ9 σ10 σ11 (tn (σ8 0)) (-4) (xreg σ19 0, σ24, nI 0) (60 - tn (xreg σ19 0 25))).1 (59 + i) - σ19 (59 + i)) (xfill σ27 (fun _ => nI 0) (tn (σ5 0))) (tn (σ8 0))) cc (tn (σ5 0)) z (tn (σ5 0))) (2 ^ tn (σ5 0))) (fun (u : (Nat → Int32) × Int32 × Int32 × (Nat → Int32) × (Nat → Int32)) => [w9 q ad σ0 σ1 σ2 σ3 σ4 σ5 σ6 σ7 σ8 σ9 σ10 σ11 σ12 σ13 σ14 σ15 σ16 σ17 σ18 (xspl σ19 11 u.1) σ20 σ21 σ22 σ23 u.2.1 u.2.2.1 u.2.2.2.1 u.2.2.2.2 σ28 σ29 σ30])) 0 0 := by
  refine x_enter (cc := cX9_carried) (maxL := 9) (ret := (some .int)) (by decide) rfl (Nat.le_of_ble_eq_true rfl) ?_
  intro p e s m below meth c A ls H locs hfix hr hlocks hinit hM hl
  obtain ⟨hx, hb, hml, hown, hts⟩ := id hfix
  have hl : lv_has ls 9 [(0, .ref (ad 0)), (1, .int (nI g)), (2, .int (nI cc))] := hl
  have hc2b := hc2.2
  have hc5b := hc5.2
  have hc8b := hc8.2
  have hT0 := hK0.1.2
  have hW0 := hK0.2.1.2
  have h32 := x_pow5 hc5.2
  refine lv_aload_n hx hb dX9_carried_0 rfl (lv_at hl 0 rfl) ?_
  refine lv_iload_n hx hb dX9_carried_1 rfl (lv_at hl 1 rfl) ?_
  refine x_calli (bc := [w9 q ad σ0 σ1 σ2 σ3 σ4 σ5 σ6 σ7 σ8 σ9 σ10 σ11 σ12 σ13 σ14 σ15 σ16 σ17 σ18 σ19 σ20 σ21 σ22 σ23 σ24 σ25 σ26 σ27 σ28 σ29 σ30]) (br := []) hM [0] [] rfl rfl rfl (by decide) (x_runV (As := [.int (nI g)]) (rest := []) hfix (c_X9_isGood l D q ad σ0 σ1 σ2 σ3 σ4 σ5 σ6 σ7 σ8 σ9 σ10 σ11 σ12 σ13 σ14 σ15 σ16 σ17 σ18 σ19 σ20 σ21 σ22 σ23 σ24 σ25 σ26 σ27 σ28 σ29 σ30 (nI g) ((g : Nat) : Int) (nI_toInt (n := g) (by omega)) hc2) (cwV 1 hts gX9_carried_X9_isGood rfl rfl rfl (by decide +kernel) ⟨Nat.le_of_ble_eq_true rfl, Nat.le_of_ble_eq_true rfl⟩) hM [0] rfl rfl 0 0 rfl rfl rfl rfl rfl hl.1 rfl (Nat.le_of_ble_eq_true rfl) dX9_carried_2 ⟨Nat.le_of_ble_eq_true rfl, Nat.le_of_ble_eq_true rfl⟩) (fun r u H locs hq hM => ?_)
  subst hq
  have hM : xM D (TY q) [w9 q ad σ0 σ1 σ2 σ3 σ4 σ5 σ6 σ7 σ8 σ9 σ10 σ11 σ12 σ13 σ14 σ15 σ16 σ17 σ18 σ19 σ20 σ21 σ22 σ23 σ24 σ25 σ26 σ27 σ28 σ29 σ30] A s.heap s H locs := hM
  refine x_ifz_eq (P := 0 ≤ ((g : Nat) : Int) ∧ ((g : Nat) : Int) < tn (σ2 0)) (tgt := 20) hx hb dX9_carried_5 (by decide) (fun c1 => ?_) (fun c1 => ?_)
  · exfalso; omega
  · refine lv_iload_n hx hb dX9_carried_8 rfl (lv_at hl 2 rfl) ?_
    refine x_i2l hx hb dX9_carried_9 ?_
    refine lv_lconst (v := 0) hx hb dX9_carried_10 (by decide) ?_
    refine lv_ldc2 (v := 60) hx hb hown (hts (.constantLong RX9 233 (60)) (by decide +kernel)) dX9_carried_11 ?_
    refine x_calli (bc := []) (br := [w9 q ad σ0 σ1 σ2 σ3 σ4 σ5 σ6 σ7 σ8 σ9 σ10 σ11 σ12 σ13 σ14 σ15 σ16 σ17 σ18 σ19 σ20 σ21 σ22 σ23 σ24 σ25 σ26 σ27 σ28 σ29 σ30]) hM [] [0] rfl rfl rfl (by decide) (x_runS (As := [.long ((nI cc).toInt64), .long (0 : Int64), .long (60 : Int64)]) (rest := []) hfix (c_X9_in l D q ((nI cc).toInt64) (0 : Int64) (60 : Int64) ((cc : Nat) : Int) (0 : Int) (60 : Int) ((Jvm.Kit.i64_of_i32 _).trans (nI_toInt (n := cc) (by omega))) (by decide) (by decide)) (va_cwS 3 hts gX9_carried_X9_in rfl rfl rfl (by decide +kernel) ⟨Nat.le_of_ble_eq_true rfl, Nat.le_of_ble_eq_true rfl⟩) hM [] rfl rfl rfl hl.1 rfl (Nat.le_of_ble_eq_true rfl) dX9_carried_14 ⟨Nat.le_of_ble_eq_true rfl, Nat.le_of_ble_eq_true rfl⟩) (fun r u H locs hq hM => ?_)
    subst hq
    have hM : xM D (TY q) [w9 q ad σ0 σ1 σ2 σ3 σ4 σ5 σ6 σ7 σ8 σ9 σ10 σ11 σ12 σ13 σ14 σ15 σ16 σ17 σ18 σ19 σ20 σ21 σ22 σ23 σ24 σ25 σ26 σ27 σ28 σ29 σ30] A s.heap s H locs := hM
    refine x_ifz_ne (P := (0 : Int) ≤ ((cc : Nat) : Int) ∧ ((cc : Nat) : Int) ≤ (60 : Int)) (tgt := 22) hx hb dX9_carried_17 (by decide) (fun c2 => ?_) (fun c2 => ?_)
    · refine lv_aload_n hx hb dX9_carried_22 rfl (lv_at hl 0 rfl) ?_
      refine lv_iload_n hx hb dX9_carried_23 rfl (lv_at hl 1 rfl) ?_
      refine x_callv (bc := [w9 q ad σ0 σ1 σ2 σ3 σ4 σ5 σ6 σ7 σ8 σ9 σ10 σ11 σ12 σ13 σ14 σ15 σ16 σ17 σ18 σ19 σ20 σ21 σ22 σ23 σ24 σ25 σ26 σ27 σ28 σ29 σ30]) (br := []) hM [0] [] rfl rfl rfl (by decide) (x_runV (As := [.int (nI g)]) (rest := []) hfix (c_X9_layWants l D q ad σ0 σ1 σ2 σ3 σ4 σ5 σ6 σ7 σ8 σ9 σ10 σ11 σ12 σ13 σ14 σ15 σ16 σ17 σ18 σ19 σ20 σ21 σ22 σ23 σ24 σ25 σ26 σ27 σ28 σ29 σ30 g (by omega) hc2 hc5 hc8 hE hK0) (cwV 1 hts gX9_carried_X9_layWants rfl rfl rfl (by decide +kernel) ⟨Nat.le_of_ble_eq_true rfl, Nat.le_of_ble_eq_true rfl⟩) hM [0] rfl rfl 0 0 rfl rfl rfl rfl rfl hl.1 rfl (Nat.le_of_ble_eq_true rfl) dX9_carried_24 ⟨Nat.le_of_ble_eq_true rfl, Nat.le_of_ble_eq_true rfl⟩) (fun u H locs hq hM => ?_)
      have hM : xM D (TY q) [w9 q ad σ0 σ1 σ2 σ3 σ4 σ5 σ6 σ7 σ8 σ9 σ10 σ11 σ12 σ13 σ14 σ15 σ16 σ17 σ18 (xspl σ19 11 (kGoN σ4 (tn (σ2 0)) (tn (σ5 0)) σ9 σ10 σ11 (tn (σ8 0)) (-4) (xreg σ19 0, σ24, nI 0) (60 - tn (xreg σ19 0 25))).1) σ20 σ21 σ22 σ23 (kGoN σ4 (tn (σ2 0)) (tn (σ5 0)) σ9 σ10 σ11 (tn (σ8 0)) (-4) (xreg σ19 0, σ24, nI 0) (60 - tn (xreg σ19 0 25))).2.1 (kGoN σ4 (tn (σ2 0)) (tn (σ5 0)) σ9 σ10 σ11 (tn (σ8 0)) (-4) (xreg σ19 0, σ24, nI 0) (60 - tn (xreg σ19 0 25))).2.2 (xfill σ26 (fun y9 => (kGoN σ4 (tn (σ2 0)) (tn (σ5 0)) σ9 σ10 σ11 (tn (σ8 0)) (-4) (xreg σ19 0, σ24, nI 0) (60 - tn (xreg σ19 0 25))).1 (5 * y9 + g)) (tn (σ5 0))) (xwt σ9 σ10 g (fun i => (kGoN σ4 (tn (σ2 0)) (tn (σ5 0)) σ9 σ10 σ11 (tn (σ8 0)) (-4) (xreg σ19 0, σ24, nI 0) (60 - tn (xreg σ19 0 25))).1 (59 + i) - σ19 (59 + i)) (xfill σ27 (fun _ => nI 0) (tn (σ5 0))) (tn (σ8 0))) σ28 σ29 σ30] A s.heap s H locs := hM
      obtain ⟨sv, hsv⟩ : ∃ y, y = (xfill σ26 (fun y9 => (kGoN σ4 (tn (σ2 0)) (tn (σ5 0)) σ9 σ10 σ11 (tn (σ8 0)) (-4) (xreg σ19 0, σ24, nI 0) (60 - tn (xreg σ19 0 25))).1 (5 * y9 + g)) (tn (σ5 0))) := ⟨_, rfl⟩
      obtain ⟨wv, hwv⟩ : ∃ y, y = (xwt σ9 σ10 g (fun i => (kGoN σ4 (tn (σ2 0)) (tn (σ5 0)) σ9 σ10 σ11 (tn (σ8 0)) (-4) (xreg σ19 0, σ24, nI 0) (60 - tn (xreg σ19 0 25))).1 (59 + i) - σ19 (59 + i)) (xfill σ27 (fun _ => nI 0) (tn (σ5 0))) (tn (σ8 0))) := ⟨_, rfl⟩
      have e3 : ((xfill σ26 (fun y9 => (kGoN σ4 (tn (σ2 0)) (tn (σ5 0)) σ9 σ10 σ11 (tn (σ8 0)) (-4) (xreg σ19 0, σ24, nI 0) (60 - tn (xreg σ19 0 25))).1 (5 * y9 + g)) (tn (σ5 0))) : Nat → Int32) = (sv) := by exact hsv.symm
      have hM : xM D (TY q) [w9 q ad σ0 σ1 σ2 σ3 σ4 σ5 σ6 σ7 σ8 σ9 σ10 σ11 σ12 σ13 σ14 σ15 σ16 σ17 σ18 (xspl σ19 11 (kGoN σ4 (tn (σ2 0)) (tn (σ5 0)) σ9 σ10 σ11 (tn (σ8 0)) (-4) (xreg σ19 0, σ24, nI 0) (60 - tn (xreg σ19 0 25))).1) σ20 σ21 σ22 σ23 (kGoN σ4 (tn (σ2 0)) (tn (σ5 0)) σ9 σ10 σ11 (tn (σ8 0)) (-4) (xreg σ19 0, σ24, nI 0) (60 - tn (xreg σ19 0 25))).2.1 (kGoN σ4 (tn (σ2 0)) (tn (σ5 0)) σ9 σ10 σ11 (tn (σ8 0)) (-4) (xreg σ19 0, σ24, nI 0) (60 - tn (xreg σ19 0 25))).2.2 sv (xwt σ9 σ10 g (fun i => (kGoN σ4 (tn (σ2 0)) (tn (σ5 0)) σ9 σ10 σ11 (tn (σ8 0)) (-4) (xreg σ19 0, σ24, nI 0) (60 - tn (xreg σ19 0 25))).1 (59 + i) - σ19 (59 + i)) (xfill σ27 (fun _ => nI 0) (tn (σ5 0))) (tn (σ8 0))) σ28 σ29 σ30] A s.heap s H locs := Eq.mp (congrArg (fun z9 => xM D (TY q) [w9 q ad σ0 σ1 σ2 σ3 σ4 σ5 σ6 σ7 σ8 σ9 σ10 σ11 σ12 σ13 σ14 σ15 σ16 σ17 σ18 (xspl σ19 11 (kGoN σ4 (tn (σ2 0)) (tn (σ5 0)) σ9 σ10 σ11 (tn (σ8 0)) (-4) (xreg σ19 0, σ24, nI 0) (60 - tn (xreg σ19 0 25))).1) σ20 σ21 σ22 σ23 (kGoN σ4 (tn (σ2 0)) (tn (σ5 0)) σ9 σ10 σ11 (tn (σ8 0)) (-4) (xreg σ19 0, σ24, nI 0) (60 - tn (xreg σ19 0 25))).2.1 (kGoN σ4 (tn (σ2 0)) (tn (σ5 0)) σ9 σ10 σ11 (tn (σ8 0)) (-4) (xreg σ19 0, σ24, nI 0) (60 - tn (xreg σ19 0 25))).2.2 z9 (xwt σ9 σ10 g (fun i => (kGoN σ4 (tn (σ2 0)) (tn (σ5 0)) σ9 σ10 σ11 (tn (σ8 0)) (-4) (xreg σ19 0, σ24, nI 0) (60 - tn (xreg σ19 0 25))).1 (59 + i) - σ19 (59 + i)) (xfill σ27 (fun _ => nI 0) (tn (σ5 0))) (tn (σ8 0))) σ28 σ29 σ30] A s.heap s H locs) e3) hM
      have e4 : ((xwt σ9 σ10 g (fun i => (kGoN σ4 (tn (σ2 0)) (tn (σ5 0)) σ9 σ10 σ11 (tn (σ8 0)) (-4) (xreg σ19 0, σ24, nI 0) (60 - tn (xreg σ19 0 25))).1 (59 + i) - σ19 (59 + i)) (xfill σ27 (fun _ => nI 0) (tn (σ5 0))) (tn (σ8 0))) : Nat → Int32) = (wv) := by exact hwv.symm
      have hM : xM D (TY q) [w9 q ad σ0 σ1 σ2 σ3 σ4 σ5 σ6 σ7 σ8 σ9 σ10 σ11 σ12 σ13 σ14 σ15 σ16 σ17 σ18 (xspl σ19 11 (kGoN σ4 (tn (σ2 0)) (tn (σ5 0)) σ9 σ10 σ11 (tn (σ8 0)) (-4) (xreg σ19 0, σ24, nI 0) (60 - tn (xreg σ19 0 25))).1) σ20 σ21 σ22 σ23 (kGoN σ4 (tn (σ2 0)) (tn (σ5 0)) σ9 σ10 σ11 (tn (σ8 0)) (-4) (xreg σ19 0, σ24, nI 0) (60 - tn (xreg σ19 0 25))).2.1 (kGoN σ4 (tn (σ2 0)) (tn (σ5 0)) σ9 σ10 σ11 (tn (σ8 0)) (-4) (xreg σ19 0, σ24, nI 0) (60 - tn (xreg σ19 0 25))).2.2 sv wv σ28 σ29 σ30] A s.heap s H locs := Eq.mp (congrArg (fun z9 => xM D (TY q) [w9 q ad σ0 σ1 σ2 σ3 σ4 σ5 σ6 σ7 σ8 σ9 σ10 σ11 σ12 σ13 σ14 σ15 σ16 σ17 σ18 (xspl σ19 11 (kGoN σ4 (tn (σ2 0)) (tn (σ5 0)) σ9 σ10 σ11 (tn (σ8 0)) (-4) (xreg σ19 0, σ24, nI 0) (60 - tn (xreg σ19 0 25))).1) σ20 σ21 σ22 σ23 (kGoN σ4 (tn (σ2 0)) (tn (σ5 0)) σ9 σ10 σ11 (tn (σ8 0)) (-4) (xreg σ19 0, σ24, nI 0) (60 - tn (xreg σ19 0 25))).2.1 (kGoN σ4 (tn (σ2 0)) (tn (σ5 0)) σ9 σ10 σ11 (tn (σ8 0)) (-4) (xreg σ19 0, σ24, nI 0) (60 - tn (xreg σ19 0 25))).2.2 sv z9 σ28 σ29 σ30] A s.heap s H locs) e4) hM
      refine lv_ldcw (v := nI 99999) hx hb hown (hts (.constant RX9 257 (99999)) (by decide +kernel)) dX9_carried_27 ?_
      refine lv_istore_n (lv' := [(3, .int (nI 99999)), (0, .ref (ad 0)), (1, .int (nI g)), (2, .int (nI cc))]) hx hb dX9_carried_30 rfl hl (by decide) rfl (fun ls hl => ?_)
      refine lv_iconst (v := nI 0) hx hb dX9_carried_31 (by decide) ?_
      refine lv_istore (lv' := [(4, .int (nI 0)), (3, .int (nI 99999)), (0, .ref (ad 0)), (1, .int (nI g)), (2, .int (nI cc))]) hx hb dX9_carried_32 hl (by decide) rfl (fun ls hl => ?_)
      refine x_loop (ι := Nat) (fun set => [(0, .ref (ad 0)), (1, .int (nI g)), (2, .int (nI cc)), (3, .int (xcl (fun z => xcs σ6 sv wv cc (tn (σ5 0)) z (tn (σ5 0))) set)), (4, .int (nI set))]) (fun set => [w9 q ad σ0 σ1 σ2 σ3 σ4 σ5 σ6 σ7 σ8 σ9 σ10 σ11 σ12 σ13 σ14 σ15 σ16 σ17 σ18 (xspl σ19 11 (kGoN σ4 (tn (σ2 0)) (tn (σ5 0)) σ9 σ10 σ11 (tn (σ8 0)) (-4) (xreg σ19 0, σ24, nI 0) (60 - tn (xreg σ19 0 25))).1) σ20 σ21 σ22 σ23 (kGoN σ4 (tn (σ2 0)) (tn (σ5 0)) σ9 σ10 σ11 (tn (σ8 0)) (-4) (xreg σ19 0, σ24, nI 0) (60 - tn (xreg σ19 0 25))).2.1 (kGoN σ4 (tn (σ2 0)) (tn (σ5 0)) σ9 σ10 σ11 (tn (σ8 0)) (-4) (xreg σ19 0, σ24, nI 0) (60 - tn (xreg σ19 0 25))).2.2 sv wv σ28 σ29 σ30]) (fun set => set ≤ 2 ^ tn (σ5 0)) (fun set => 2 ^ tn (σ5 0) - set) 0 (Nat.zero_le _) hM (lv_sub hl [2, 3, 4, 1, 0] rfl) ?_
      intro set hI6 ih5 H locs hM ls hl
      have hM : xM D (TY q) [w9 q ad σ0 σ1 σ2 σ3 σ4 σ5 σ6 σ7 σ8 σ9 σ10 σ11 σ12 σ13 σ14 σ15 σ16 σ17 σ18 (xspl σ19 11 (kGoN σ4 (tn (σ2 0)) (tn (σ5 0)) σ9 σ10 σ11 (tn (σ8 0)) (-4) (xreg σ19 0, σ24, nI 0) (60 - tn (xreg σ19 0 25))).1) σ20 σ21 σ22 σ23 (kGoN σ4 (tn (σ2 0)) (tn (σ5 0)) σ9 σ10 σ11 (tn (σ8 0)) (-4) (xreg σ19 0, σ24, nI 0) (60 - tn (xreg σ19 0 25))).2.1 (kGoN σ4 (tn (σ2 0)) (tn (σ5 0)) σ9 σ10 σ11 (tn (σ8 0)) (-4) (xreg σ19 0, σ24, nI 0) (60 - tn (xreg σ19 0 25))).2.2 sv wv σ28 σ29 σ30] A s.heap s H locs := hM
      have hl : lv_has ls 9 [(0, .ref (ad 0)), (1, .int (nI g)), (2, .int (nI cc)), (3, .int (xcl (fun z => xcs σ6 sv wv cc (tn (σ5 0)) z (tn (σ5 0))) set)), (4, .int (nI set))] := hl
      have hI6 : set ≤ 2 ^ tn (σ5 0) := hI6
      try dsimp only
      refine lv_iload hx hb dX9_carried_34 (lv_at hl 4 rfl) ?_
      refine lv_iconst (v := nI 1) hx hb dX9_carried_36 (by decide) ?_
      refine lv_aload_n hx hb dX9_carried_37 rfl (lv_at hl 0 rfl) ?_
      refine x_get hx hb hts iwX9_carried_X9 hown hM 0 0 rfl rfl rfl 5 (by decide) (hts _ lkX9_carried_22) (fun _ h => h) rfl dX9_carried_38 ?_
      refine lv_iconst (v := nI 0) hx hb dX9_carried_41 (by decide) ?_
      refine x_iald hx hb hM 0 5 0 (f := σ5) rfl rfl rfl (t := 0) (by omega) (by decide) dX9_carried_42 ?_
      refine x_cast (y := nI (tn (σ5 0))) hc5.1 ?_
      refine lv_ishl hx hb dX9_carried_43 ?_
      refine x_cast (y := nI (2 ^ tn (σ5 0))) (x_shl1 hc5.2) ?_
      refine x_icmp_ge (x := set) (y := 2 ^ tn (σ5 0)) (tgt := 203) hx hb (by omega) (by omega) dX9_carried_44 (by decide) (fun c7 => ?_) (fun c7 => ?_)
      · refine lv_iload_n hx hb dX9_carried_203 rfl (lv_at hl 3 rfl) ?_
        exact x_iret hx hb hr hlocks ((kGoN σ4 (tn (σ2 0)) (tn (σ5 0)) σ9 σ10 σ11 (tn (σ8 0)) (-4) (xreg σ19 0, σ24, nI 0) (60 - tn (xreg σ19 0 25))).1, (kGoN σ4 (tn (σ2 0)) (tn (σ5 0)) σ9 σ10 σ11 (tn (σ8 0)) (-4) (xreg σ19 0, σ24, nI 0) (60 - tn (xreg σ19 0 25))).2.1, (kGoN σ4 (tn (σ2 0)) (tn (σ5 0)) σ9 σ10 σ11 (tn (σ8 0)) (-4) (xreg σ19 0, σ24, nI 0) (60 - tn (xreg σ19 0 25))).2.2, sv, wv) hM (show xcl (fun z => xcs σ6 sv wv cc (tn (σ5 0)) z (tn (σ5 0))) set = xcl (fun z => xcs σ6 (xfill σ26 (fun y8 => (kGoN σ4 (tn (σ2 0)) (tn (σ5 0)) σ9 σ10 σ11 (tn (σ8 0)) (-4) (xreg σ19 0, σ24, nI 0) (60 - tn (xreg σ19 0 25))).1 (5 * y8 + g)) (tn (σ5 0))) (xwt σ9 σ10 g (fun i => (kGoN σ4 (tn (σ2 0)) (tn (σ5 0)) σ9 σ10 σ11 (tn (σ8 0)) (-4) (xreg σ19 0, σ24, nI 0) (60 - tn (xreg σ19 0 25))).1 (59 + i) - σ19 (59 + i)) (xfill σ27 (fun _ => nI 0) (tn (σ5 0))) (tn (σ8 0))) cc (tn (σ5 0)) z (tn (σ5 0))) (2 ^ tn (σ5 0)) from by (have hk9 : set = 2 ^ tn (σ5 0) := (by omega); subst hk9; rw [hsv, hwv])) dX9_carried_204
      · refine lv_iconst (v := nI 0) hx hb dX9_carried_47 (by decide) ?_
        refine lv_istore (lv' := [(5, .int (nI 0)), (0, .ref (ad 0)), (1, .int (nI g)), (2, .int (nI cc)), (3, .int (xcl (fun z => xcs σ6 sv wv cc (tn (σ5 0)) z (tn (σ5 0))) set)), (4, .int (nI set))]) hx hb dX9_carried_48 hl (by decide) rfl (fun ls hl => ?_)
        refine lv_iconst (v := nI 0) hx hb dX9_carried_50 (by decide) ?_
        refine lv_istore (lv' := [(6, .int (nI 0)), (5, .int (nI 0)), (0, .ref (ad 0)), (1, .int (nI g)), (2, .int (nI cc)), (3, .int (xcl (fun z => xcs σ6 sv wv cc (tn (σ5 0)) z (tn (σ5 0))) set)), (4, .int (nI set))]) hx hb dX9_carried_51 hl (by decide) rfl (fun ls hl => ?_)
        refine x_loop (ι := Nat) (fun h => [(0, .ref (ad 0)), (1, .int (nI g)), (2, .int (nI cc)), (3, .int (xcl (fun z => xcs σ6 sv wv cc (tn (σ5 0)) z (tn (σ5 0))) set)), (4, .int (nI set)), (5, .int (xcs σ6 sv wv cc (tn (σ5 0)) set h)), (6, .int (nI h))]) (fun h => [w9 q ad σ0 σ1 σ2 σ3 σ4 σ5 σ6 σ7 σ8 σ9 σ10 σ11 σ12 σ13 σ14 σ15 σ16 σ17 σ18 (xspl σ19 11 (kGoN σ4 (tn (σ2 0)) (tn (σ5 0)) σ9 σ10 σ11 (tn (σ8 0)) (-4) (xreg σ19 0, σ24, nI 0) (60 - tn (xreg σ19 0 25))).1) σ20 σ21 σ22 σ23 (kGoN σ4 (tn (σ2 0)) (tn (σ5 0)) σ9 σ10 σ11 (tn (σ8 0)) (-4) (xreg σ19 0, σ24, nI 0) (60 - tn (xreg σ19 0 25))).2.1 (kGoN σ4 (tn (σ2 0)) (tn (σ5 0)) σ9 σ10 σ11 (tn (σ8 0)) (-4) (xreg σ19 0, σ24, nI 0) (60 - tn (xreg σ19 0 25))).2.2 sv wv σ28 σ29 σ30]) (fun h => h ≤ tn (σ5 0)) (fun h => tn (σ5 0) - h) 0 (by omega) hM (lv_sub hl [2, 3, 4, 5, 6, 1, 0] rfl) ?_
        intro h hI9 ih8 H locs hM ls hl
        have hM : xM D (TY q) [w9 q ad σ0 σ1 σ2 σ3 σ4 σ5 σ6 σ7 σ8 σ9 σ10 σ11 σ12 σ13 σ14 σ15 σ16 σ17 σ18 (xspl σ19 11 (kGoN σ4 (tn (σ2 0)) (tn (σ5 0)) σ9 σ10 σ11 (tn (σ8 0)) (-4) (xreg σ19 0, σ24, nI 0) (60 - tn (xreg σ19 0 25))).1) σ20 σ21 σ22 σ23 (kGoN σ4 (tn (σ2 0)) (tn (σ5 0)) σ9 σ10 σ11 (tn (σ8 0)) (-4) (xreg σ19 0, σ24, nI 0) (60 - tn (xreg σ19 0 25))).2.1 (kGoN σ4 (tn (σ2 0)) (tn (σ5 0)) σ9 σ10 σ11 (tn (σ8 0)) (-4) (xreg σ19 0, σ24, nI 0) (60 - tn (xreg σ19 0 25))).2.2 sv wv σ28 σ29 σ30] A s.heap s H locs := hM
        have hl : lv_has ls 9 [(0, .ref (ad 0)), (1, .int (nI g)), (2, .int (nI cc)), (3, .int (xcl (fun z => xcs σ6 sv wv cc (tn (σ5 0)) z (tn (σ5 0))) set)), (4, .int (nI set)), (5, .int (xcs σ6 sv wv cc (tn (σ5 0)) set h)), (6, .int (nI h))] := hl
        have hI9 : h ≤ tn (σ5 0) := hI9
        try dsimp only
        refine lv_iload hx hb dX9_carried_53 (lv_at hl 6 rfl) ?_
        refine lv_aload_n hx hb dX9_carried_55 rfl (lv_at hl 0 rfl) ?_
        refine x_get hx hb hts iwX9_carried_X9 hown hM 0 0 rfl rfl rfl 5 (by decide) (hts _ lkX9_carried_22) (fun _ h => h) rfl dX9_carried_56 ?_
        refine lv_iconst (v := nI 0) hx hb dX9_carried_59 (by decide) ?_
        refine x_iald hx hb hM 0 5 0 (f := σ5) rfl rfl rfl (t := 0) (by omega) (by decide) dX9_carried_60 ?_
        refine x_cast (y := nI (tn (σ5 0))) hc5.1 ?_
        refine x_icmp_ge (x := h) (y := tn (σ5 0)) (tgt := 184) hx hb (by omega) (by omega) dX9_carried_61 (by decide) (fun c10 => ?_) (fun c10 => ?_)
        · refine lv_iload hx hb dX9_carried_184 (lv_at hl 5 rfl) ?_
          refine lv_iload_n hx hb dX9_carried_186 rfl (lv_at hl 3 rfl) ?_
          refine lv_icmp_ge (tgt := 195) hx hb dX9_carried_187 (by decide) (fun c11 => ?_) (fun c11 => ?_)
          · refine lv_iload_n hx hb dX9_carried_195 rfl (lv_at hl 3 rfl) ?_
            refine lv_istore_n (lv' := [(3, .int (xcl (fun z => xcs σ6 sv wv cc (tn (σ5 0)) z (tn (σ5 0))) set)), (0, .ref (ad 0)), (1, .int (nI g)), (2, .int (nI cc)), (4, .int (nI set)), (5, .int (xcs σ6 sv wv cc (tn (σ5 0)) set h)), (6, .int (nI h))]) hx hb dX9_carried_196 rfl hl (by decide) rfl (fun ls hl => ?_)
            refine lv_iinc (v := nI (set + 1)) (lv' := [(4, .int (nI (set + 1))), (3, .int (xcl (fun z => xcs σ6 sv wv cc (tn (σ5 0)) z (tn (σ5 0))) set)), (0, .ref (ad 0)), (1, .int (nI g)), (2, .int (nI cc)), (5, .int (xcs σ6 sv wv cc (tn (σ5 0)) set h)), (6, .int (nI h))]) hx hb dX9_carried_197 hl (k := 4) rfl (x_inc _ 1) (by decide) rfl (fun ls hl => ?_)
            refine lv_goto (tgt := 34) hx hb dX9_carried_200 (by decide) ?_
            have hl : lv_has ls 9 [(0, .ref (ad 0)), (1, .int (nI g)), (2, .int (nI cc)), (3, .int (xcl (fun z => xcs σ6 sv wv cc (tn (σ5 0)) z (tn (σ5 0))) set)), (4, .int (nI (set + 1)))] := lv_sub hl [2, 3, 4, 1, 0] rfl
            have e12 : xcl (fun z => xcs σ6 sv wv cc (tn (σ5 0)) z (tn (σ5 0))) set = xcl (fun z => xcs σ6 sv wv cc (tn (σ5 0)) z (tn (σ5 0))) (set + 1) := by (have hk9 : h = tn (σ5 0) := (by omega); subst hk9; first | exact (xcl_1 (F := (fun z => xcs σ6 sv wv cc (tn (σ5 0)) z (tn (σ5 0)))) (by assumption)).symm | exact (xcl_0 (F := (fun z => xcs σ6 sv wv cc (tn (σ5 0)) z (tn (σ5 0)))) (by assumption)).symm)
            have hl : lv_has ls 9 [(0, .ref (ad 0)), (1, .int (nI g)), (2, .int (nI cc)), (3, .int (xcl (fun z => xcs σ6 sv wv cc (tn (σ5 0)) z (tn (σ5 0))) (set + 1))), (4, .int (nI (set + 1)))] := x_lvset hl 3 rfl (congrArg Value.int e12) rfl
            exact ih5 (set + 1) (show 2 ^ tn (σ5 0) - (set + 1) < 2 ^ tn (σ5 0) - set from by omega) (show (set + 1) ≤ 2 ^ tn (σ5 0) from by omega) _ _ hM _ hl
          · refine lv_iload hx hb dX9_carried_190 (lv_at hl 5 rfl) ?_
            refine lv_goto (tgt := 196) hx hb dX9_carried_192 (by decide) ?_
            refine lv_istore_n (lv' := [(3, .int (xcs σ6 sv wv cc (tn (σ5 0)) set h)), (0, .ref (ad 0)), (1, .int (nI g)), (2, .int (nI cc)), (4, .int (nI set)), (5, .int (xcs σ6 sv wv cc (tn (σ5 0)) set h)), (6, .int (nI h))]) hx hb dX9_carried_196 rfl hl (by decide) rfl (fun ls hl => ?_)
            refine lv_iinc (v := nI (set + 1)) (lv' := [(4, .int (nI (set + 1))), (3, .int (xcs σ6 sv wv cc (tn (σ5 0)) set h)), (0, .ref (ad 0)), (1, .int (nI g)), (2, .int (nI cc)), (5, .int (xcs σ6 sv wv cc (tn (σ5 0)) set h)), (6, .int (nI h))]) hx hb dX9_carried_197 hl (k := 4) rfl (x_inc _ 1) (by decide) rfl (fun ls hl => ?_)
            refine lv_goto (tgt := 34) hx hb dX9_carried_200 (by decide) ?_
            have hl : lv_has ls 9 [(0, .ref (ad 0)), (1, .int (nI g)), (2, .int (nI cc)), (3, .int (xcs σ6 sv wv cc (tn (σ5 0)) set h)), (4, .int (nI (set + 1)))] := lv_sub hl [2, 3, 4, 1, 0] rfl
            have e13 : xcs σ6 sv wv cc (tn (σ5 0)) set h = xcl (fun z => xcs σ6 sv wv cc (tn (σ5 0)) z (tn (σ5 0))) (set + 1) := by (have hk9 : h = tn (σ5 0) := (by omega); subst hk9; first | exact (xcl_1 (F := (fun z => xcs σ6 sv wv cc (tn (σ5 0)) z (tn (σ5 0)))) (by assumption)).symm | exact (xcl_0 (F := (fun z => xcs σ6 sv wv cc (tn (σ5 0)) z (tn (σ5 0)))) (by assumption)).symm)
            have hl : lv_has ls 9 [(0, .ref (ad 0)), (1, .int (nI g)), (2, .int (nI cc)), (3, .int (xcl (fun z => xcs σ6 sv wv cc (tn (σ5 0)) z (tn (σ5 0))) (set + 1))), (4, .int (nI (set + 1)))] := x_lvset hl 3 rfl (congrArg Value.int e13) rfl
            exact ih5 (set + 1) (show 2 ^ tn (σ5 0) - (set + 1) < 2 ^ tn (σ5 0) - set from by omega) (show (set + 1) ≤ 2 ^ tn (σ5 0) from by omega) _ _ hM _ hl
        · refine lv_iload hx hb dX9_carried_64 (lv_at hl 5 rfl) ?_
          refine lv_iload hx hb dX9_carried_66 (lv_at hl 4 rfl) ?_
          refine lv_iload hx hb dX9_carried_68 (lv_at hl 6 rfl) ?_
          refine x_calli (bc := []) (br := [w9 q ad σ0 σ1 σ2 σ3 σ4 σ5 σ6 σ7 σ8 σ9 σ10 σ11 σ12 σ13 σ14 σ15 σ16 σ17 σ18 (xspl σ19 11 (kGoN σ4 (tn (σ2 0)) (tn (σ5 0)) σ9 σ10 σ11 (tn (σ8 0)) (-4) (xreg σ19 0, σ24, nI 0) (60 - tn (xreg σ19 0 25))).1) σ20 σ21 σ22 σ23 (kGoN σ4 (tn (σ2 0)) (tn (σ5 0)) σ9 σ10 σ11 (tn (σ8 0)) (-4) (xreg σ19 0, σ24, nI 0) (60 - tn (xreg σ19 0 25))).2.1 (kGoN σ4 (tn (σ2 0)) (tn (σ5 0)) σ9 σ10 σ11 (tn (σ8 0)) (-4) (xreg σ19 0, σ24, nI 0) (60 - tn (xreg σ19 0 25))).2.2 sv wv σ28 σ29 σ30]) hM [] [0] rfl rfl rfl (by decide) (x_runS (As := [.int (nI set), .int (nI h)]) (rest := [.int (xcs σ6 sv wv cc (tn (σ5 0)) set h)]) hfix (c_X9_has l D q set h (by omega) (by omega)) (va_cwS 2 hts gX9_carried_X9_has rfl rfl rfl (by decide +kernel) ⟨Nat.le_of_ble_eq_true rfl, Nat.le_of_ble_eq_true rfl⟩) hM [] rfl rfl rfl hl.1 rfl (Nat.le_of_ble_eq_true rfl) dX9_carried_70 ⟨Nat.le_of_ble_eq_true rfl, Nat.le_of_ble_eq_true rfl⟩) (fun r u H locs hq hM => ?_)
          subst hq
          have hM : xM D (TY q) [w9 q ad σ0 σ1 σ2 σ3 σ4 σ5 σ6 σ7 σ8 σ9 σ10 σ11 σ12 σ13 σ14 σ15 σ16 σ17 σ18 (xspl σ19 11 (kGoN σ4 (tn (σ2 0)) (tn (σ5 0)) σ9 σ10 σ11 (tn (σ8 0)) (-4) (xreg σ19 0, σ24, nI 0) (60 - tn (xreg σ19 0 25))).1) σ20 σ21 σ22 σ23 (kGoN σ4 (tn (σ2 0)) (tn (σ5 0)) σ9 σ10 σ11 (tn (σ8 0)) (-4) (xreg σ19 0, σ24, nI 0) (60 - tn (xreg σ19 0 25))).2.1 (kGoN σ4 (tn (σ2 0)) (tn (σ5 0)) σ9 σ10 σ11 (tn (σ8 0)) (-4) (xreg σ19 0, σ24, nI 0) (60 - tn (xreg σ19 0 25))).2.2 sv wv σ28 σ29 σ30] A s.heap s H locs := hM
          refine x_join (ι := Int32) (pcJ := 87) (fun j14 => [(0, .ref (ad 0)), (1, .int (nI g)), (2, .int (nI cc)), (3, .int (xcl (fun z => xcs σ6 sv wv cc (tn (σ5 0)) z (tn (σ5 0))) set)), (4, .int (nI set)), (5, .int (xcs σ6 sv wv cc (tn (σ5 0)) set h)), (6, .int (nI h))]) (fun j14 => [w9 q ad σ0 σ1 σ2 σ3 σ4 σ5 σ6 σ7 σ8 σ9 σ10 σ11 σ12 σ13 σ14 σ15 σ16 σ17 σ18 (xspl σ19 11 (kGoN σ4 (tn (σ2 0)) (tn (σ5 0)) σ9 σ10 σ11 (tn (σ8 0)) (-4) (xreg σ19 0, σ24, nI 0) (60 - tn (xreg σ19 0 25))).1) σ20 σ21 σ22 σ23 (kGoN σ4 (tn (σ2 0)) (tn (σ5 0)) σ9 σ10 σ11 (tn (σ8 0)) (-4) (xreg σ19 0, σ24, nI 0) (60 - tn (xreg σ19 0 25))).2.1 (kGoN σ4 (tn (σ2 0)) (tn (σ5 0)) σ9 σ10 σ11 (tn (σ8 0)) (-4) (xreg σ19 0, σ24, nI 0) (60 - tn (xreg σ19 0 25))).2.2 sv wv σ28 σ29 σ30]) (fun j14 => [.int j14, .int (xcs σ6 sv wv cc (tn (σ5 0)) set h)]) (fun j14 => j14 = (if ¬ (set / 2 ^ h % 2 = 1) then (wv h) else (nI 0))) hM hl ?_ ?_
          · intro j14 hj15 H locs hM ls hl
            have hM : xM D (TY q) [w9 q ad σ0 σ1 σ2 σ3 σ4 σ5 σ6 σ7 σ8 σ9 σ10 σ11 σ12 σ13 σ14 σ15 σ16 σ17 σ18 (xspl σ19 11 (kGoN σ4 (tn (σ2 0)) (tn (σ5 0)) σ9 σ10 σ11 (tn (σ8 0)) (-4) (xreg σ19 0, σ24, nI 0) (60 - tn (xreg σ19 0 25))).1) σ20 σ21 σ22 σ23 (kGoN σ4 (tn (σ2 0)) (tn (σ5 0)) σ9 σ10 σ11 (tn (σ8 0)) (-4) (xreg σ19 0, σ24, nI 0) (60 - tn (xreg σ19 0 25))).2.1 (kGoN σ4 (tn (σ2 0)) (tn (σ5 0)) σ9 σ10 σ11 (tn (σ8 0)) (-4) (xreg σ19 0, σ24, nI 0) (60 - tn (xreg σ19 0 25))).2.2 sv wv σ28 σ29 σ30] A s.heap s H locs := hM
            have hl : lv_has ls 9 [(0, .ref (ad 0)), (1, .int (nI g)), (2, .int (nI cc)), (3, .int (xcl (fun z => xcs σ6 sv wv cc (tn (σ5 0)) z (tn (σ5 0))) set)), (4, .int (nI set)), (5, .int (xcs σ6 sv wv cc (tn (σ5 0)) set h)), (6, .int (nI h))] := hl
            try dsimp only
            have hj14 : j14 = (if ¬ (set / 2 ^ h % 2 = 1) then (wv h) else (nI 0)) := hj15
            refine lv_iadd hx hb dX9_carried_87 ?_
            refine lv_istore (lv' := [(5, .int ((xcs σ6 sv wv cc (tn (σ5 0)) set h) + j14)), (0, .ref (ad 0)), (1, .int (nI g)), (2, .int (nI cc)), (3, .int (xcl (fun z => xcs σ6 sv wv cc (tn (σ5 0)) z (tn (σ5 0))) set)), (4, .int (nI set)), (6, .int (nI h))]) hx hb dX9_carried_88 hl (by decide) rfl (fun ls hl => ?_)
            refine lv_iconst (v := nI 0) hx hb dX9_carried_90 (by decide) ?_
            refine lv_istore (lv' := [(7, .int (nI 0)), (5, .int ((xcs σ6 sv wv cc (tn (σ5 0)) set h) + j14)), (0, .ref (ad 0)), (1, .int (nI g)), (2, .int (nI cc)), (3, .int (xcl (fun z => xcs σ6 sv wv cc (tn (σ5 0)) z (tn (σ5 0))) set)), (4, .int (nI set)), (6, .int (nI h))]) hx hb dX9_carried_91 hl (by decide) rfl (fun ls hl => ?_)
            refine lv_iconst (v := nI 0) hx hb dX9_carried_93 (by decide) ?_
            refine lv_istore (lv' := [(8, .int (nI 0)), (7, .int (nI 0)), (5, .int ((xcs σ6 sv wv cc (tn (σ5 0)) set h) + j14)), (0, .ref (ad 0)), (1, .int (nI g)), (2, .int (nI cc)), (3, .int (xcl (fun z => xcs σ6 sv wv cc (tn (σ5 0)) z (tn (σ5 0))) set)), (4, .int (nI set)), (6, .int (nI h))]) hx hb dX9_carried_94 hl (by decide) rfl (fun ls hl => ?_)
            refine x_loop (ι := Nat) (fun k => [(0, .ref (ad 0)), (1, .int (nI g)), (2, .int (nI cc)), (3, .int (xcl (fun z => xcs σ6 sv wv cc (tn (σ5 0)) z (tn (σ5 0))) set)), (4, .int (nI set)), (5, .int ((xcs σ6 sv wv cc (tn (σ5 0)) set h) + j14)), (6, .int (nI h)), (7, .int (zb (xnr σ6 cc set h k = true))), (8, .int (nI k))]) (fun k => [w9 q ad σ0 σ1 σ2 σ3 σ4 σ5 σ6 σ7 σ8 σ9 σ10 σ11 σ12 σ13 σ14 σ15 σ16 σ17 σ18 (xspl σ19 11 (kGoN σ4 (tn (σ2 0)) (tn (σ5 0)) σ9 σ10 σ11 (tn (σ8 0)) (-4) (xreg σ19 0, σ24, nI 0) (60 - tn (xreg σ19 0 25))).1) σ20 σ21 σ22 σ23 (kGoN σ4 (tn (σ2 0)) (tn (σ5 0)) σ9 σ10 σ11 (tn (σ8 0)) (-4) (xreg σ19 0, σ24, nI 0) (60 - tn (xreg σ19 0 25))).2.1 (kGoN σ4 (tn (σ2 0)) (tn (σ5 0)) σ9 σ10 σ11 (tn (σ8 0)) (-4) (xreg σ19 0, σ24, nI 0) (60 - tn (xreg σ19 0 25))).2.2 sv wv σ28 σ29 σ30]) (fun k => k ≤ tn (σ5 0)) (fun k => tn (σ5 0) - k) 0 (by omega) hM (lv_sub hl [3, 4, 5, 6, 7, 2, 8, 1, 0] rfl) ?_
            intro k hI17 ih16 H locs hM ls hl
            have hM : xM D (TY q) [w9 q ad σ0 σ1 σ2 σ3 σ4 σ5 σ6 σ7 σ8 σ9 σ10 σ11 σ12 σ13 σ14 σ15 σ16 σ17 σ18 (xspl σ19 11 (kGoN σ4 (tn (σ2 0)) (tn (σ5 0)) σ9 σ10 σ11 (tn (σ8 0)) (-4) (xreg σ19 0, σ24, nI 0) (60 - tn (xreg σ19 0 25))).1) σ20 σ21 σ22 σ23 (kGoN σ4 (tn (σ2 0)) (tn (σ5 0)) σ9 σ10 σ11 (tn (σ8 0)) (-4) (xreg σ19 0, σ24, nI 0) (60 - tn (xreg σ19 0 25))).2.1 (kGoN σ4 (tn (σ2 0)) (tn (σ5 0)) σ9 σ10 σ11 (tn (σ8 0)) (-4) (xreg σ19 0, σ24, nI 0) (60 - tn (xreg σ19 0 25))).2.2 sv wv σ28 σ29 σ30] A s.heap s H locs := hM
            have hl : lv_has ls 9 [(0, .ref (ad 0)), (1, .int (nI g)), (2, .int (nI cc)), (3, .int (xcl (fun z => xcs σ6 sv wv cc (tn (σ5 0)) z (tn (σ5 0))) set)), (4, .int (nI set)), (5, .int ((xcs σ6 sv wv cc (tn (σ5 0)) set h) + j14)), (6, .int (nI h)), (7, .int (zb (xnr σ6 cc set h k = true))), (8, .int (nI k))] := hl
            have hI17 : k ≤ tn (σ5 0) := hI17
            try dsimp only
            refine lv_iload hx hb dX9_carried_96 (lv_at hl 8 rfl) ?_
            refine lv_aload_n hx hb dX9_carried_98 rfl (lv_at hl 0 rfl) ?_
            refine x_get hx hb hts iwX9_carried_X9 hown hM 0 0 rfl rfl rfl 5 (by decide) (hts _ lkX9_carried_22) (fun _ h => h) rfl dX9_carried_99 ?_
            refine lv_iconst (v := nI 0) hx hb dX9_carried_102 (by decide) ?_
            refine x_iald hx hb hM 0 5 0 (f := σ5) rfl rfl rfl (t := 0) (by omega) (by decide) dX9_carried_103 ?_
            refine x_cast (y := nI (tn (σ5 0))) hc5.1 ?_
            refine x_icmp_ge (x := k) (y := tn (σ5 0)) (tgt := 157) hx hb (by omega) (by omega) dX9_carried_104 (by decide) (fun c18 => ?_) (fun c18 => ?_)
            · refine lv_iload hx hb dX9_carried_157 (lv_at hl 5 rfl) ?_
              refine lv_iload hx hb dX9_carried_159 (lv_at hl 7 rfl) ?_
              refine x_ifz_eq (P := xnr σ6 cc set h k = true) (tgt := 174) hx hb dX9_carried_161 (by decide) (fun c19 => ?_) (fun c19 => ?_)
              · refine lv_iconst (v := nI 0) hx hb dX9_carried_174 (by decide) ?_
                refine lv_iadd hx hb dX9_carried_175 ?_
                refine lv_istore (lv' := [(5, .int (((xcs σ6 sv wv cc (tn (σ5 0)) set h) + j14) + (nI 0))), (0, .ref (ad 0)), (1, .int (nI g)), (2, .int (nI cc)), (3, .int (xcl (fun z => xcs σ6 sv wv cc (tn (σ5 0)) z (tn (σ5 0))) set)), (4, .int (nI set)), (6, .int (nI h)), (7, .int (zb (xnr σ6 cc set h k = true))), (8, .int (nI k))]) hx hb dX9_carried_176 hl (by decide) rfl (fun ls hl => ?_)
                refine lv_iinc (v := nI (h + 1)) (lv' := [(6, .int (nI (h + 1))), (5, .int (((xcs σ6 sv wv cc (tn (σ5 0)) set h) + j14) + (nI 0))), (0, .ref (ad 0)), (1, .int (nI g)), (2, .int (nI cc)), (3, .int (xcl (fun z => xcs σ6 sv wv cc (tn (σ5 0)) z (tn (σ5 0))) set)), (4, .int (nI set)), (7, .int (zb (xnr σ6 cc set h k = true))), (8, .int (nI k))]) hx hb dX9_carried_178 hl (k := 6) rfl (x_inc _ 1) (by decide) rfl (fun ls hl => ?_)
                refine lv_goto (tgt := 53) hx hb dX9_carried_181 (by decide) ?_
                have hl : lv_has ls 9 [(0, .ref (ad 0)), (1, .int (nI g)), (2, .int (nI cc)), (3, .int (xcl (fun z => xcs σ6 sv wv cc (tn (σ5 0)) z (tn (σ5 0))) set)), (4, .int (nI set)), (5, .int (((xcs σ6 sv wv cc (tn (σ5 0)) set h) + j14) + (nI 0))), (6, .int (nI (h + 1)))] := lv_sub hl [2, 3, 4, 5, 6, 1, 0] rfl
                have e20 : ((xcs σ6 sv wv cc (tn (σ5 0)) set h) + j14) + (nI 0) = xcs σ6 sv wv cc (tn (σ5 0)) set (h + 1) := by (have hk9 : k = tn (σ5 0) := (by omega); subst hk9; first | exact xcs_1 hj14 (by assumption) | exact xcs_0 hj14 (by assumption))
                have hl : lv_has ls 9 [(0, .ref (ad 0)), (1, .int (nI g)), (2, .int (nI cc)), (3, .int (xcl (fun z => xcs σ6 sv wv cc (tn (σ5 0)) z (tn (σ5 0))) set)), (4, .int (nI set)), (5, .int (xcs σ6 sv wv cc (tn (σ5 0)) set (h + 1))), (6, .int (nI (h + 1)))] := x_lvset hl 5 rfl (congrArg Value.int e20) rfl
                exact ih8 (h + 1) (show tn (σ5 0) - (h + 1) < tn (σ5 0) - h from by omega) (show (h + 1) ≤ tn (σ5 0) from by omega) _ _ hM _ hl
              · refine lv_aload_n hx hb dX9_carried_164 rfl (lv_at hl 0 rfl) ?_
                refine x_get hx hb hts iwX9_carried_X9 hown hM 0 0 rfl rfl rfl 26 (by decide) (hts _ lkX9_carried_70) (fun _ h => h) rfl dX9_carried_165 ?_
                refine lv_iload hx hb dX9_carried_168 (lv_at hl 6 rfl) ?_
                refine x_iald hx hb hM 0 21 0 (f := sv) rfl rfl rfl (t := h) (by omega) (by decide) dX9_carried_170 ?_
                refine lv_goto (tgt := 175) hx hb dX9_carried_171 (by decide) ?_
                refine lv_iadd hx hb dX9_carried_175 ?_
                refine lv_istore (lv' := [(5, .int (((xcs σ6 sv wv cc (tn (σ5 0)) set h) + j14) + (sv h))), (0, .ref (ad 0)), (1, .int (nI g)), (2, .int (nI cc)), (3, .int (xcl (fun z => xcs σ6 sv wv cc (tn (σ5 0)) z (tn (σ5 0))) set)), (4, .int (nI set)), (6, .int (nI h)), (7, .int (zb (xnr σ6 cc set h k = true))), (8, .int (nI k))]) hx hb dX9_carried_176 hl (by decide) rfl (fun ls hl => ?_)
                refine lv_iinc (v := nI (h + 1)) (lv' := [(6, .int (nI (h + 1))), (5, .int (((xcs σ6 sv wv cc (tn (σ5 0)) set h) + j14) + (sv h))), (0, .ref (ad 0)), (1, .int (nI g)), (2, .int (nI cc)), (3, .int (xcl (fun z => xcs σ6 sv wv cc (tn (σ5 0)) z (tn (σ5 0))) set)), (4, .int (nI set)), (7, .int (zb (xnr σ6 cc set h k = true))), (8, .int (nI k))]) hx hb dX9_carried_178 hl (k := 6) rfl (x_inc _ 1) (by decide) rfl (fun ls hl => ?_)
                refine lv_goto (tgt := 53) hx hb dX9_carried_181 (by decide) ?_
                have hl : lv_has ls 9 [(0, .ref (ad 0)), (1, .int (nI g)), (2, .int (nI cc)), (3, .int (xcl (fun z => xcs σ6 sv wv cc (tn (σ5 0)) z (tn (σ5 0))) set)), (4, .int (nI set)), (5, .int (((xcs σ6 sv wv cc (tn (σ5 0)) set h) + j14) + (sv h))), (6, .int (nI (h + 1)))] := lv_sub hl [2, 3, 4, 5, 6, 1, 0] rfl
                have e21 : ((xcs σ6 sv wv cc (tn (σ5 0)) set h) + j14) + (sv h) = xcs σ6 sv wv cc (tn (σ5 0)) set (h + 1) := by (have hk9 : k = tn (σ5 0) := (by omega); subst hk9; first | exact xcs_1 hj14 (by assumption) | exact xcs_0 hj14 (by assumption))
                have hl : lv_has ls 9 [(0, .ref (ad 0)), (1, .int (nI g)), (2, .int (nI cc)), (3, .int (xcl (fun z => xcs σ6 sv wv cc (tn (σ5 0)) z (tn (σ5 0))) set)), (4, .int (nI set)), (5, .int (xcs σ6 sv wv cc (tn (σ5 0)) set (h + 1))), (6, .int (nI (h + 1)))] := x_lvset hl 5 rfl (congrArg Value.int e21) rfl
                exact ih8 (h + 1) (show tn (σ5 0) - (h + 1) < tn (σ5 0) - h from by omega) (show (h + 1) ≤ tn (σ5 0) from by omega) _ _ hM _ hl
            · refine lv_iload hx hb dX9_carried_107 (lv_at hl 7 rfl) ?_
              refine x_ifz_ne (P := xnr σ6 cc set h k = true) (tgt := 144) hx hb dX9_carried_109 (by decide) (fun c22 => ?_) (fun c22 => ?_)
              · refine lv_iconst (v := nI 1) hx hb dX9_carried_144 (by decide) ?_
                refine lv_goto (tgt := 149) hx hb dX9_carried_145 (by decide) ?_
                refine lv_istore (lv' := [(7, .int (nI 1)), (0, .ref (ad 0)), (1, .int (nI g)), (2, .int (nI cc)), (3, .int (xcl (fun z => xcs σ6 sv wv cc (tn (σ5 0)) z (tn (σ5 0))) set)), (4, .int (nI set)), (5, .int ((xcs σ6 sv wv cc (tn (σ5 0)) set h) + j14)), (6, .int (nI h)), (8, .int (nI k))]) hx hb dX9_carried_149 hl (by decide) rfl (fun ls hl => ?_)
                refine lv_iinc (v := nI (k + 1)) (lv' := [(8, .int (nI (k + 1))), (7, .int (nI 1)), (0, .ref (ad 0)), (1, .int (nI g)), (2, .int (nI cc)), (3, .int (xcl (fun z => xcs σ6 sv wv cc (tn (σ5 0)) z (tn (σ5 0))) set)), (4, .int (nI set)), (5, .int ((xcs σ6 sv wv cc (tn (σ5 0)) set h) + j14)), (6, .int (nI h))]) hx hb dX9_carried_151 hl (k := 8) rfl (x_inc _ 1) (by decide) rfl (fun ls hl => ?_)
                refine lv_goto (tgt := 96) hx hb dX9_carried_154 (by decide) ?_
                have hl : lv_has ls 9 [(0, .ref (ad 0)), (1, .int (nI g)), (2, .int (nI cc)), (3, .int (xcl (fun z => xcs σ6 sv wv cc (tn (σ5 0)) z (tn (σ5 0))) set)), (4, .int (nI set)), (5, .int ((xcs σ6 sv wv cc (tn (σ5 0)) set h) + j14)), (6, .int (nI h)), (7, .int (nI 1)), (8, .int (nI (k + 1)))] := lv_sub hl [2, 3, 4, 5, 6, 7, 8, 1, 0] rfl
                have e23 : nI 1 = zb (xnr σ6 cc set h (k + 1) = true) := by (first | exact zb_t' (xnr_1 (by assumption)) | exact zb_t' (xnr_2 (by assumption) (by assumption)) | exact zb_f' (xnr_3 (by assumption) (by assumption)) | exact zb_f' (xnr_4 (by assumption) (by assumption)))
                have hl : lv_has ls 9 [(0, .ref (ad 0)), (1, .int (nI g)), (2, .int (nI cc)), (3, .int (xcl (fun z => xcs σ6 sv wv cc (tn (σ5 0)) z (tn (σ5 0))) set)), (4, .int (nI set)), (5, .int ((xcs σ6 sv wv cc (tn (σ5 0)) set h) + j14)), (6, .int (nI h)), (7, .int (zb (xnr σ6 cc set h (k + 1) = true))), (8, .int (nI (k + 1)))] := x_lvset hl 7 rfl (congrArg Value.int e23) rfl
                exact ih16 (k + 1) (show tn (σ5 0) - (k + 1) < tn (σ5 0) - k from by omega) (show (k + 1) ≤ tn (σ5 0) from by omega) _ _ hM _ hl
              · refine lv_iload hx hb dX9_carried_112 (lv_at hl 4 rfl) ?_
                refine lv_iload hx hb dX9_carried_114 (lv_at hl 8 rfl) ?_
                refine x_calli (bc := []) (br := [w9 q ad σ0 σ1 σ2 σ3 σ4 σ5 σ6 σ7 σ8 σ9 σ10 σ11 σ12 σ13 σ14 σ15 σ16 σ17 σ18 (xspl σ19 11 (kGoN σ4 (tn (σ2 0)) (tn (σ5 0)) σ9 σ10 σ11 (tn (σ8 0)) (-4) (xreg σ19 0, σ24, nI 0) (60 - tn (xreg σ19 0 25))).1) σ20 σ21 σ22 σ23 (kGoN σ4 (tn (σ2 0)) (tn (σ5 0)) σ9 σ10 σ11 (tn (σ8 0)) (-4) (xreg σ19 0, σ24, nI 0) (60 - tn (xreg σ19 0 25))).2.1 (kGoN σ4 (tn (σ2 0)) (tn (σ5 0)) σ9 σ10 σ11 (tn (σ8 0)) (-4) (xreg σ19 0, σ24, nI 0) (60 - tn (xreg σ19 0 25))).2.2 sv wv σ28 σ29 σ30]) hM [] [0] rfl rfl rfl (by decide) (x_runS (As := [.int (nI set), .int (nI k)]) (rest := []) hfix (c_X9_has l D q set k (by omega) (by omega)) (va_cwS 2 hts gX9_carried_X9_has rfl rfl rfl (by decide +kernel) ⟨Nat.le_of_ble_eq_true rfl, Nat.le_of_ble_eq_true rfl⟩) hM [] rfl rfl rfl hl.1 rfl (Nat.le_of_ble_eq_true rfl) dX9_carried_116 ⟨Nat.le_of_ble_eq_true rfl, Nat.le_of_ble_eq_true rfl⟩) (fun r u H locs hq hM => ?_)
                subst hq
                have hM : xM D (TY q) [w9 q ad σ0 σ1 σ2 σ3 σ4 σ5 σ6 σ7 σ8 σ9 σ10 σ11 σ12 σ13 σ14 σ15 σ16 σ17 σ18 (xspl σ19 11 (kGoN σ4 (tn (σ2 0)) (tn (σ5 0)) σ9 σ10 σ11 (tn (σ8 0)) (-4) (xreg σ19 0, σ24, nI 0) (60 - tn (xreg σ19 0 25))).1) σ20 σ21 σ22 σ23 (kGoN σ4 (tn (σ2 0)) (tn (σ5 0)) σ9 σ10 σ11 (tn (σ8 0)) (-4) (xreg σ19 0, σ24, nI 0) (60 - tn (xreg σ19 0 25))).2.1 (kGoN σ4 (tn (σ2 0)) (tn (σ5 0)) σ9 σ10 σ11 (tn (σ8 0)) (-4) (xreg σ19 0, σ24, nI 0) (60 - tn (xreg σ19 0 25))).2.2 sv wv σ28 σ29 σ30] A s.heap s H locs := hM
                refine x_ifz_eq (P := set / 2 ^ k % 2 = 1) (tgt := 148) hx hb dX9_carried_119 (by decide) (fun c24 => ?_) (fun c24 => ?_)
                · refine lv_iconst (v := nI 0) hx hb dX9_carried_148 (by decide) ?_
                  refine lv_istore (lv' := [(7, .int (nI 0)), (0, .ref (ad 0)), (1, .int (nI g)), (2, .int (nI cc)), (3, .int (xcl (fun z => xcs σ6 sv wv cc (tn (σ5 0)) z (tn (σ5 0))) set)), (4, .int (nI set)), (5, .int ((xcs σ6 sv wv cc (tn (σ5 0)) set h) + j14)), (6, .int (nI h)), (8, .int (nI k))]) hx hb dX9_carried_149 hl (by decide) rfl (fun ls hl => ?_)
                  refine lv_iinc (v := nI (k + 1)) (lv' := [(8, .int (nI (k + 1))), (7, .int (nI 0)), (0, .ref (ad 0)), (1, .int (nI g)), (2, .int (nI cc)), (3, .int (xcl (fun z => xcs σ6 sv wv cc (tn (σ5 0)) z (tn (σ5 0))) set)), (4, .int (nI set)), (5, .int ((xcs σ6 sv wv cc (tn (σ5 0)) set h) + j14)), (6, .int (nI h))]) hx hb dX9_carried_151 hl (k := 8) rfl (x_inc _ 1) (by decide) rfl (fun ls hl => ?_)
                  refine lv_goto (tgt := 96) hx hb dX9_carried_154 (by decide) ?_
                  have hl : lv_has ls 9 [(0, .ref (ad 0)), (1, .int (nI g)), (2, .int (nI cc)), (3, .int (xcl (fun z => xcs σ6 sv wv cc (tn (σ5 0)) z (tn (σ5 0))) set)), (4, .int (nI set)), (5, .int ((xcs σ6 sv wv cc (tn (σ5 0)) set h) + j14)), (6, .int (nI h)), (7, .int (nI 0)), (8, .int (nI (k + 1)))] := lv_sub hl [2, 3, 4, 5, 6, 7, 8, 1, 0] rfl
                  have e25 : nI 0 = zb (xnr σ6 cc set h (k + 1) = true) := by (first | exact zb_t' (xnr_1 (by assumption)) | exact zb_t' (xnr_2 (by assumption) (by assumption)) | exact zb_f' (xnr_3 (by assumption) (by assumption)) | exact zb_f' (xnr_4 (by assumption) (by assumption)))
                  have hl : lv_has ls 9 [(0, .ref (ad 0)), (1, .int (nI g)), (2, .int (nI cc)), (3, .int (xcl (fun z => xcs σ6 sv wv cc (tn (σ5 0)) z (tn (σ5 0))) set)), (4, .int (nI set)), (5, .int ((xcs σ6 sv wv cc (tn (σ5 0)) set h) + j14)), (6, .int (nI h)), (7, .int (zb (xnr σ6 cc set h (k + 1) = true))), (8, .int (nI (k + 1)))] := x_lvset hl 7 rfl (congrArg Value.int e25) rfl
                  exact ih16 (k + 1) (show tn (σ5 0) - (k + 1) < tn (σ5 0) - k from by omega) (show (k + 1) ≤ tn (σ5 0) from by omega) _ _ hM _ hl
                · refine lv_aload_n hx hb dX9_carried_122 rfl (lv_at hl 0 rfl) ?_
                  refine lv_aload_n hx hb dX9_carried_123 rfl (lv_at hl 0 rfl) ?_
                  refine x_get hx hb hts iwX9_carried_X9 hown hM 0 0 rfl rfl rfl 6 (by decide) (hts _ lkX9_carried_25) (fun _ h => h) rfl dX9_carried_124 ?_
                  refine lv_iload hx hb dX9_carried_127 (lv_at hl 6 rfl) ?_
                  refine x_iald hx hb hM 0 6 0 (f := σ6) rfl rfl rfl (t := h) (by omega) (by decide) dX9_carried_129 ?_
                  refine lv_aload_n hx hb dX9_carried_130 rfl (lv_at hl 0 rfl) ?_
                  refine x_get hx hb hts iwX9_carried_X9 hown hM 0 0 rfl rfl rfl 6 (by decide) (hts _ lkX9_carried_25) (fun _ h => h) rfl dX9_carried_131 ?_
                  refine lv_iload hx hb dX9_carried_134 (lv_at hl 8 rfl) ?_
                  refine x_iald hx hb hM 0 6 0 (f := σ6) rfl rfl rfl (t := k) (by omega) (by decide) dX9_carried_136 ?_
                  refine x_calli (bc := [w9 q ad σ0 σ1 σ2 σ3 σ4 σ5 σ6 σ7 σ8 σ9 σ10 σ11 σ12 σ13 σ14 σ15 σ16 σ17 σ18 (xspl σ19 11 (kGoN σ4 (tn (σ2 0)) (tn (σ5 0)) σ9 σ10 σ11 (tn (σ8 0)) (-4) (xreg σ19 0, σ24, nI 0) (60 - tn (xreg σ19 0 25))).1) σ20 σ21 σ22 σ23 (kGoN σ4 (tn (σ2 0)) (tn (σ5 0)) σ9 σ10 σ11 (tn (σ8 0)) (-4) (xreg σ19 0, σ24, nI 0) (60 - tn (xreg σ19 0 25))).2.1 (kGoN σ4 (tn (σ2 0)) (tn (σ5 0)) σ9 σ10 σ11 (tn (σ8 0)) (-4) (xreg σ19 0, σ24, nI 0) (60 - tn (xreg σ19 0 25))).2.2 sv wv σ28 σ29 σ30]) (br := []) hM [0] [] rfl rfl rfl (by decide) (x_runV (As := [.int (σ6 h), .int (σ6 k)]) (rest := []) hfix (c_X9_apart l D q ad σ0 σ1 σ2 σ3 σ4 σ5 σ6 σ7 σ8 σ9 σ10 σ11 σ12 σ13 σ14 σ15 σ16 σ17 σ18 (xspl σ19 11 (kGoN σ4 (tn (σ2 0)) (tn (σ5 0)) σ9 σ10 σ11 (tn (σ8 0)) (-4) (xreg σ19 0, σ24, nI 0) (60 - tn (xreg σ19 0 25))).1) σ20 σ21 σ22 σ23 (kGoN σ4 (tn (σ2 0)) (tn (σ5 0)) σ9 σ10 σ11 (tn (σ8 0)) (-4) (xreg σ19 0, σ24, nI 0) (60 - tn (xreg σ19 0 25))).2.1 (kGoN σ4 (tn (σ2 0)) (tn (σ5 0)) σ9 σ10 σ11 (tn (σ8 0)) (-4) (xreg σ19 0, σ24, nI 0) (60 - tn (xreg σ19 0 25))).2.2 sv wv σ28 σ29 σ30 (σ6 h) (σ6 k)) (cwV 2 hts gX9_carried_X9_apart rfl rfl rfl (by decide +kernel) ⟨Nat.le_of_ble_eq_true rfl, Nat.le_of_ble_eq_true rfl⟩) hM [0] rfl rfl 0 0 rfl rfl rfl rfl rfl hl.1 rfl (Nat.le_of_ble_eq_true rfl) dX9_carried_137 ⟨Nat.le_of_ble_eq_true rfl, Nat.le_of_ble_eq_true rfl⟩) (fun r u H locs hq hM => ?_)
                  subst hq
                  have hM : xM D (TY q) [w9 q ad σ0 σ1 σ2 σ3 σ4 σ5 σ6 σ7 σ8 σ9 σ10 σ11 σ12 σ13 σ14 σ15 σ16 σ17 σ18 (xspl σ19 11 (kGoN σ4 (tn (σ2 0)) (tn (σ5 0)) σ9 σ10 σ11 (tn (σ8 0)) (-4) (xreg σ19 0, σ24, nI 0) (60 - tn (xreg σ19 0 25))).1) σ20 σ21 σ22 σ23 (kGoN σ4 (tn (σ2 0)) (tn (σ5 0)) σ9 σ10 σ11 (tn (σ8 0)) (-4) (xreg σ19 0, σ24, nI 0) (60 - tn (xreg σ19 0 25))).2.1 (kGoN σ4 (tn (σ2 0)) (tn (σ5 0)) σ9 σ10 σ11 (tn (σ8 0)) (-4) (xreg σ19 0, σ24, nI 0) (60 - tn (xreg σ19 0 25))).2.2 sv wv σ28 σ29 σ30] A s.heap s H locs := hM
                  refine lv_iload_n hx hb dX9_carried_140 rfl (lv_at hl 2 rfl) ?_
                  refine lv_icmp_gt (tgt := 148) hx hb dX9_carried_141 (by decide) (fun c26 => ?_) (fun c26 => ?_)
                  · refine lv_iconst (v := nI 0) hx hb dX9_carried_148 (by decide) ?_
                    refine lv_istore (lv' := [(7, .int (nI 0)), (0, .ref (ad 0)), (1, .int (nI g)), (2, .int (nI cc)), (3, .int (xcl (fun z => xcs σ6 sv wv cc (tn (σ5 0)) z (tn (σ5 0))) set)), (4, .int (nI set)), (5, .int ((xcs σ6 sv wv cc (tn (σ5 0)) set h) + j14)), (6, .int (nI h)), (8, .int (nI k))]) hx hb dX9_carried_149 hl (by decide) rfl (fun ls hl => ?_)
                    refine lv_iinc (v := nI (k + 1)) (lv' := [(8, .int (nI (k + 1))), (7, .int (nI 0)), (0, .ref (ad 0)), (1, .int (nI g)), (2, .int (nI cc)), (3, .int (xcl (fun z => xcs σ6 sv wv cc (tn (σ5 0)) z (tn (σ5 0))) set)), (4, .int (nI set)), (5, .int ((xcs σ6 sv wv cc (tn (σ5 0)) set h) + j14)), (6, .int (nI h))]) hx hb dX9_carried_151 hl (k := 8) rfl (x_inc _ 1) (by decide) rfl (fun ls hl => ?_)
                    refine lv_goto (tgt := 96) hx hb dX9_carried_154 (by decide) ?_
                    have hl : lv_has ls 9 [(0, .ref (ad 0)), (1, .int (nI g)), (2, .int (nI cc)), (3, .int (xcl (fun z => xcs σ6 sv wv cc (tn (σ5 0)) z (tn (σ5 0))) set)), (4, .int (nI set)), (5, .int ((xcs σ6 sv wv cc (tn (σ5 0)) set h) + j14)), (6, .int (nI h)), (7, .int (nI 0)), (8, .int (nI (k + 1)))] := lv_sub hl [2, 3, 4, 5, 6, 7, 8, 1, 0] rfl
                    have e27 : nI 0 = zb (xnr σ6 cc set h (k + 1) = true) := by (first | exact zb_t' (xnr_1 (by assumption)) | exact zb_t' (xnr_2 (by assumption) (by assumption)) | exact zb_f' (xnr_3 (by assumption) (by assumption)) | exact zb_f' (xnr_4 (by assumption) (by assumption)))
                    have hl : lv_has ls 9 [(0, .ref (ad 0)), (1, .int (nI g)), (2, .int (nI cc)), (3, .int (xcl (fun z => xcs σ6 sv wv cc (tn (σ5 0)) z (tn (σ5 0))) set)), (4, .int (nI set)), (5, .int ((xcs σ6 sv wv cc (tn (σ5 0)) set h) + j14)), (6, .int (nI h)), (7, .int (zb (xnr σ6 cc set h (k + 1) = true))), (8, .int (nI (k + 1)))] := x_lvset hl 7 rfl (congrArg Value.int e27) rfl
                    exact ih16 (k + 1) (show tn (σ5 0) - (k + 1) < tn (σ5 0) - k from by omega) (show (k + 1) ≤ tn (σ5 0) from by omega) _ _ hM _ hl
                  · refine lv_iconst (v := nI 1) hx hb dX9_carried_144 (by decide) ?_
                    refine lv_goto (tgt := 149) hx hb dX9_carried_145 (by decide) ?_
                    refine lv_istore (lv' := [(7, .int (nI 1)), (0, .ref (ad 0)), (1, .int (nI g)), (2, .int (nI cc)), (3, .int (xcl (fun z => xcs σ6 sv wv cc (tn (σ5 0)) z (tn (σ5 0))) set)), (4, .int (nI set)), (5, .int ((xcs σ6 sv wv cc (tn (σ5 0)) set h) + j14)), (6, .int (nI h)), (8, .int (nI k))]) hx hb dX9_carried_149 hl (by decide) rfl (fun ls hl => ?_)
                    refine lv_iinc (v := nI (k + 1)) (lv' := [(8, .int (nI (k + 1))), (7, .int (nI 1)), (0, .ref (ad 0)), (1, .int (nI g)), (2, .int (nI cc)), (3, .int (xcl (fun z => xcs σ6 sv wv cc (tn (σ5 0)) z (tn (σ5 0))) set)), (4, .int (nI set)), (5, .int ((xcs σ6 sv wv cc (tn (σ5 0)) set h) + j14)), (6, .int (nI h))]) hx hb dX9_carried_151 hl (k := 8) rfl (x_inc _ 1) (by decide) rfl (fun ls hl => ?_)
                    refine lv_goto (tgt := 96) hx hb dX9_carried_154 (by decide) ?_
                    have hl : lv_has ls 9 [(0, .ref (ad 0)), (1, .int (nI g)), (2, .int (nI cc)), (3, .int (xcl (fun z => xcs σ6 sv wv cc (tn (σ5 0)) z (tn (σ5 0))) set)), (4, .int (nI set)), (5, .int ((xcs σ6 sv wv cc (tn (σ5 0)) set h) + j14)), (6, .int (nI h)), (7, .int (nI 1)), (8, .int (nI (k + 1)))] := lv_sub hl [2, 3, 4, 5, 6, 7, 8, 1, 0] rfl
                    have e28 : nI 1 = zb (xnr σ6 cc set h (k + 1) = true) := by (first | exact zb_t' (xnr_1 (by assumption)) | exact zb_t' (xnr_2 (by assumption) (by assumption)) | exact zb_f' (xnr_3 (by assumption) (by assumption)) | exact zb_f' (xnr_4 (by assumption) (by assumption)))
                    have hl : lv_has ls 9 [(0, .ref (ad 0)), (1, .int (nI g)), (2, .int (nI cc)), (3, .int (xcl (fun z => xcs σ6 sv wv cc (tn (σ5 0)) z (tn (σ5 0))) set)), (4, .int (nI set)), (5, .int ((xcs σ6 sv wv cc (tn (σ5 0)) set h) + j14)), (6, .int (nI h)), (7, .int (zb (xnr σ6 cc set h (k + 1) = true))), (8, .int (nI (k + 1)))] := x_lvset hl 7 rfl (congrArg Value.int e28) rfl
                    exact ih16 (k + 1) (show tn (σ5 0) - (k + 1) < tn (σ5 0) - k from by omega) (show (k + 1) ≤ tn (σ5 0) from by omega) _ _ hM _ hl
          · intro hJ29 H locs hM ls hl
            refine x_ifz_eq (P := set / 2 ^ h % 2 = 1) (tgt := 80) hx hb dX9_carried_73 (by decide) (fun c30 => ?_) (fun c30 => ?_)
            · refine lv_aload_n hx hb dX9_carried_80 rfl (lv_at hl 0 rfl) ?_
              refine x_get hx hb hts iwX9_carried_X9 hown hM 0 0 rfl rfl rfl 27 (by decide) (hts _ lkX9_carried_73) (fun _ h => h) rfl dX9_carried_81 ?_
              refine lv_iload hx hb dX9_carried_84 (lv_at hl 6 rfl) ?_
              refine x_iald hx hb hM 0 22 0 (f := wv) rfl rfl rfl (t := h) (by omega) (by decide) dX9_carried_86 ?_
              exact hJ29 (wv h) (show (wv h) = (if ¬ (set / 2 ^ h % 2 = 1) then (wv h) else (nI 0)) from by (first | exact (if_pos (by assumption)).symm | exact (if_neg (by assumption)).symm | exact (if_neg (not_not_intro (by assumption))).symm)) _ _ hM _ (lv_sub hl [0, 1, 2, 3, 4, 5, 6] rfl)
            · refine lv_iconst (v := nI 0) hx hb dX9_carried_76 (by decide) ?_
              refine lv_goto (tgt := 87) hx hb dX9_carried_77 (by decide) ?_
              exact hJ29 (nI 0) (show (nI 0) = (if ¬ (set / 2 ^ h % 2 = 1) then (wv h) else (nI 0)) from by (first | exact (if_pos (by assumption)).symm | exact (if_neg (by assumption)).symm | exact (if_neg (not_not_intro (by assumption))).symm)) _ _ hM _ (lv_sub hl [0, 1, 2, 3, 4, 5, 6] rfl)
    · exfalso; omega
