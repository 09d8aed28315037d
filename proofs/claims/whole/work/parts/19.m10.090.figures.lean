set_option maxRecDepth 20000 in
theorem ggX9_figures_X9_letterAt : GoodIn wsX9_figures wsX9_letterAt := goodIn_r _ [10, 11, 12, 16, 17, 18, 19, 20, 21, 22, 23, 24, 25, 26, 27, 28, 29, 30, 31, 32, 33, 34, 35, 36, 37, 38, 39, 40, 41, 42, 43, 44, 45, 46] (by decide +kernel) (by decide +kernel)
set_option maxRecDepth 20000 in
theorem gX9_figures_X9_letterAt : GoodIn wsX9_figures (wsV RX9 115 RX9 yX9_letterAt wsX9_letterAt) := goodIn_app (goodIn_of _ (by decide +kernel)) ggX9_figures_X9_letterAt
set_option maxRecDepth 20000 in
theorem ggX9_figures_X9_in : GoodIn wsX9_figures wsX9_in := goodIn_r _ [15] (by decide +kernel) (by decide +kernel)
set_option maxRecDepth 20000 in
theorem gX9_figures_X9_in : GoodIn wsX9_figures (va_wsS RX9 104 yX9_in wsX9_in) := goodIn_app (goodIn_of _ (by decide +kernel)) ggX9_figures_X9_in
theorem dX9_figures_0 : decode cX9_figures 0 = .ok (.iconst 0, 1) := by decide +kernel
theorem dX9_figures_1 : decode cX9_figures 1 = .ok (.istore_n 2, 1) := by decide +kernel
theorem dX9_figures_2 : decode cX9_figures 2 = .ok (.iload_n 2, 1) := by decide +kernel
theorem dX9_figures_3 : decode cX9_figures 3 = .ok (.iload_n 1, 1) := by decide +kernel
theorem dX9_figures_4 : decode cX9_figures 4 = .ok (.if_icmp .ge 132, 3) := by decide +kernel
theorem dX9_figures_7 : decode cX9_figures 7 = .ok (.iconst 0, 1) := by decide +kernel
theorem dX9_figures_8 : decode cX9_figures 8 = .ok (.istore_n 3, 1) := by decide +kernel
theorem dX9_figures_9 : decode cX9_figures 9 = .ok (.iconst 0, 1) := by decide +kernel
theorem dX9_figures_10 : decode cX9_figures 10 = .ok (.istore 4, 2) := by decide +kernel
theorem dX9_figures_12 : decode cX9_figures 12 = .ok (.aload_n 0, 1) := by decide +kernel
theorem dX9_figures_13 : decode cX9_figures 13 = .ok (.aload_n 0, 1) := by decide +kernel
theorem dX9_figures_14 : decode cX9_figures 14 = .ok (.getfield 112, 3) := by decide +kernel
theorem dX9_figures_17 : decode cX9_figures 17 = .ok (.invokevirtual 115, 3) := by decide +kernel
theorem dX9_figures_20 : decode cX9_figures 20 = .ok (.i2l, 1) := by decide +kernel
theorem dX9_figures_21 : decode cX9_figures 21 = .ok (.ldc2_w 119, 3) := by decide +kernel
theorem dX9_figures_24 : decode cX9_figures 24 = .ok (.ldc2_w 121, 3) := by decide +kernel
theorem dX9_figures_27 : decode cX9_figures 27 = .ok (.invokestatic 104, 3) := by decide +kernel
theorem dX9_figures_30 : decode cX9_figures 30 = .ok (.ifCond .eq 43, 3) := by decide +kernel
theorem dX9_figures_33 : decode cX9_figures 33 = .ok (.iload_n 3, 1) := by decide +kernel
theorem dX9_figures_34 : decode cX9_figures 34 = .ok (.iconst 3, 1) := by decide +kernel
theorem dX9_figures_35 : decode cX9_figures 35 = .ok (.if_icmp .ge 38, 3) := by decide +kernel
theorem dX9_figures_38 : decode cX9_figures 38 = .ok (.bipush 10, 2) := by decide +kernel
theorem dX9_figures_40 : decode cX9_figures 40 = .ok (.iload 4, 2) := by decide +kernel
theorem dX9_figures_42 : decode cX9_figures 42 = .ok (.imul, 1) := by decide +kernel
theorem dX9_figures_43 : decode cX9_figures 43 = .ok (.aload_n 0, 1) := by decide +kernel
theorem dX9_figures_44 : decode cX9_figures 44 = .ok (.aload_n 0, 1) := by decide +kernel
theorem dX9_figures_45 : decode cX9_figures 45 = .ok (.getfield 112, 3) := by decide +kernel
theorem dX9_figures_48 : decode cX9_figures 48 = .ok (.invokevirtual 115, 3) := by decide +kernel
theorem dX9_figures_51 : decode cX9_figures 51 = .ok (.iadd, 1) := by decide +kernel
theorem dX9_figures_52 : decode cX9_figures 52 = .ok (.bipush 48, 2) := by decide +kernel
theorem dX9_figures_54 : decode cX9_figures 54 = .ok (.isub, 1) := by decide +kernel
theorem dX9_figures_55 : decode cX9_figures 55 = .ok (.istore 4, 2) := by decide +kernel
theorem dX9_figures_57 : decode cX9_figures 57 = .ok (.iinc 3 1, 3) := by decide +kernel
theorem dX9_figures_60 : decode cX9_figures 60 = .ok (.aload_n 0, 1) := by decide +kernel
theorem dX9_figures_61 : decode cX9_figures 61 = .ok (.dup, 1) := by decide +kernel
theorem dX9_figures_62 : decode cX9_figures 62 = .ok (.getfield 112, 3) := by decide +kernel
theorem dX9_figures_65 : decode cX9_figures 65 = .ok (.iconst 1, 1) := by decide +kernel
theorem dX9_figures_66 : decode cX9_figures 66 = .ok (.iadd, 1) := by decide +kernel
theorem dX9_figures_67 : decode cX9_figures 67 = .ok (.putfield 112, 3) := by decide +kernel
theorem dX9_figures_70 : decode cX9_figures 70 = .ok (.goto (-58), 3) := by decide +kernel
theorem dX9_figures_73 : decode cX9_figures 73 = .ok (.iload_n 3, 1) := by decide +kernel
theorem dX9_figures_74 : decode cX9_figures 74 = .ok (.i2l, 1) := by decide +kernel
theorem dX9_figures_75 : decode cX9_figures 75 = .ok (.lconst 1, 1) := by decide +kernel
theorem dX9_figures_76 : decode cX9_figures 76 = .ok (.ldc2_w 123, 3) := by decide +kernel
theorem dX9_figures_79 : decode cX9_figures 79 = .ok (.invokestatic 104, 3) := by decide +kernel
theorem dX9_figures_82 : decode cX9_figures 82 = .ok (.ifCond .eq 28, 3) := by decide +kernel
theorem dX9_figures_85 : decode cX9_figures 85 = .ok (.aload_n 0, 1) := by decide +kernel
theorem dX9_figures_86 : decode cX9_figures 86 = .ok (.aload_n 0, 1) := by decide +kernel
theorem dX9_figures_87 : decode cX9_figures 87 = .ok (.getfield 112, 3) := by decide +kernel
theorem dX9_figures_90 : decode cX9_figures 90 = .ok (.invokevirtual 115, 3) := by decide +kernel
theorem dX9_figures_93 : decode cX9_figures 93 = .ok (.iload_n 2, 1) := by decide +kernel
theorem dX9_figures_94 : decode cX9_figures 94 = .ok (.iload_n 1, 1) := by decide +kernel
theorem dX9_figures_95 : decode cX9_figures 95 = .ok (.iconst 1, 1) := by decide +kernel
theorem dX9_figures_96 : decode cX9_figures 96 = .ok (.isub, 1) := by decide +kernel
theorem dX9_figures_97 : decode cX9_figures 97 = .ok (.if_icmp .ge 8, 3) := by decide +kernel
theorem dX9_figures_100 : decode cX9_figures 100 = .ok (.bipush 44, 2) := by decide +kernel
theorem dX9_figures_102 : decode cX9_figures 102 = .ok (.goto 5, 3) := by decide +kernel
theorem dX9_figures_105 : decode cX9_figures 105 = .ok (.bipush 59, 2) := by decide +kernel
theorem dX9_figures_107 : decode cX9_figures 107 = .ok (.if_icmp .eq 5, 3) := by decide +kernel
theorem dX9_figures_110 : decode cX9_figures 110 = .ok (.iconst 0, 1) := by decide +kernel
theorem dX9_figures_111 : decode cX9_figures 111 = .ok (.ireturn, 1) := by decide +kernel
theorem dX9_figures_112 : decode cX9_figures 112 = .ok (.aload_n 0, 1) := by decide +kernel
theorem dX9_figures_113 : decode cX9_figures 113 = .ok (.getfield 67, 3) := by decide +kernel
theorem dX9_figures_116 : decode cX9_figures 116 = .ok (.iload_n 2, 1) := by decide +kernel
theorem dX9_figures_117 : decode cX9_figures 117 = .ok (.iload 4, 2) := by decide +kernel
theorem dX9_figures_119 : decode cX9_figures 119 = .ok (.iastore, 1) := by decide +kernel
theorem dX9_figures_120 : decode cX9_figures 120 = .ok (.aload_n 0, 1) := by decide +kernel
theorem dX9_figures_121 : decode cX9_figures 121 = .ok (.dup, 1) := by decide +kernel
theorem dX9_figures_122 : decode cX9_figures 122 = .ok (.getfield 112, 3) := by decide +kernel
theorem dX9_figures_125 : decode cX9_figures 125 = .ok (.iconst 1, 1) := by decide +kernel
theorem dX9_figures_126 : decode cX9_figures 126 = .ok (.iadd, 1) := by decide +kernel
theorem dX9_figures_127 : decode cX9_figures 127 = .ok (.putfield 112, 3) := by decide +kernel
theorem dX9_figures_130 : decode cX9_figures 130 = .ok (.iinc 2 1, 3) := by decide +kernel
theorem dX9_figures_133 : decode cX9_figures 133 = .ok (.goto (-131), 3) := by decide +kernel
theorem dX9_figures_136 : decode cX9_figures 136 = .ok (.iconst 1, 1) := by decide +kernel
theorem dX9_figures_137 : decode cX9_figures 137 = .ok (.ireturn, 1) := by decide +kernel
theorem lkX9_figures_67 : Cond.fieldLink RX9 67 "LeftAtFiveModel" "told" "[I" ∈ wsX9_figures := by decide +kernel
theorem lkX9_figures_112 : Cond.fieldLink RX9 112 "LeftAtFiveModel" "spot" "I" ∈ wsX9_figures := by decide +kernel
theorem iwX9_figures_X9 : ∀ w ∈ wsX90, w ∈ wsX9_figures := by decide +kernel
set_option maxHeartbeats 1000000 in
set_option maxRecDepth 100000 in
theorem c_X9_figures (l : Launch) (D : va_G) (q : Nat → ClassId) (ad : Nat → Nat) (σ0 : Int32) (σ1 : Nat → Int32) (σ2 : Nat → Int32) (σ3 : Nat → Int32) (σ4 : Nat → Int32) (σ5 : Nat → Int32) (σ6 : Nat → Int32) (σ7 : Nat → Int32) (σ8 : Nat → Int32) (σ9 : Nat → Int32) (σ10 : Nat → Int32) (σ11 : Nat → Int32) (σ12 : Nat → Int32) (σ13 : Nat → Int32) (σ14 : Nat → Int32) (σ15 : Nat → Int32) (σ16 : Nat → Int32) (σ17 : Nat → Int32) (σ18 : Nat → Int32) (σ19 : Nat → Int32) (σ20 : Int32) (σ21 : Int32) (σ22 : Int32) (σ23 : Nat → Int32) (σ24 : Int32) (σ25 : Int32) (σ26 : Nat → Int32) (σ27 : Nat → Int32) (σ28 : Nat → Int32) (σ29 : Nat → Int32) (σ30 : Nat → Int32) (n : Nat) (hn9 : 1 ≤ n ∧ n ≤ 3) (hL : σ0 = nI (tn σ0) ∧ tn σ0 ≤ 200) (hsp : σ22 = nI (tn σ22) ∧ tn σ22 ≤ 400) : xC l yX9_figures wsX9_figures ({ frames := 1, cells := 0, slots := 0, locals := 25 }) D (TY q) [w9 q ad σ0 σ1 σ2 σ3 σ4 σ5 σ6 σ7 σ8 σ9 σ10 σ11 σ12 σ13 σ14 σ15 σ16 σ17 σ18 σ19 σ20 σ21 σ22 σ23 σ24 σ25 σ26 σ27 σ28 σ29 σ30] [.ref (ad 0), .int (nI n)] (xQi D (TY q) (fun (r : Int32) (_ : Unit) => r = zb ((xfg σ1 (tn σ0) n (tn σ22) σ23 n).1 = true)) (fun _ => [w9 q ad σ0 σ1 σ2 σ3 σ4 σ5 σ6 σ7 σ8 σ9 σ10 σ11 σ12 σ13 σ14 σ15 σ16 σ17 σ18 σ19 σ20 σ21 (nI (xfg σ1 (tn σ0) n (tn σ22) σ23 n).2.1) (xfg σ1 (tn σ0) n (tn σ22) σ23 n).2.2 σ24 σ25 σ26 σ27 σ28 σ29 σ30])) 0 0 := by
  refine x_enter (cc := cX9_figures) (maxL := 5) (ret := (some .boolean)) (by decide) rfl (Nat.le_of_ble_eq_true rfl) ?_
  intro p e s m below meth c A ls H locs hfix hr hlocks hinit hM hl
  obtain ⟨hx, hb, hml, hown, hts⟩ := id hfix
  have hl : lv_has ls 5 [(0, .ref (ad 0)), (1, .int (nI n))] := hl
  have hL2 := hL.2
  have hsp2 := hsp.2
  refine lv_iconst (v := nI 0) hx hb dX9_figures_0 (by decide) ?_
  refine lv_istore_n (lv' := [(2, .int (nI 0)), (0, .ref (ad 0)), (1, .int (nI n))]) hx hb dX9_figures_1 rfl hl (by decide) rfl (fun ls hl => ?_)
  have e2 : ((σ22) : Int32) = (nI (xfg σ1 (tn σ0) n (tn σ22) σ23 0).2.1) := by exact hsp.1
  have hM : xM D (TY q) [w9 q ad σ0 σ1 σ2 σ3 σ4 σ5 σ6 σ7 σ8 σ9 σ10 σ11 σ12 σ13 σ14 σ15 σ16 σ17 σ18 σ19 σ20 σ21 (nI (xfg σ1 (tn σ0) n (tn σ22) σ23 0).2.1) σ23 σ24 σ25 σ26 σ27 σ28 σ29 σ30] A s.heap s H locs := Eq.mp (congrArg (fun z9 => xM D (TY q) [w9 q ad σ0 σ1 σ2 σ3 σ4 σ5 σ6 σ7 σ8 σ9 σ10 σ11 σ12 σ13 σ14 σ15 σ16 σ17 σ18 σ19 σ20 σ21 z9 σ23 σ24 σ25 σ26 σ27 σ28 σ29 σ30] A s.heap s H locs) e2) hM
  have e3 : ((σ23) : Nat → Int32) = ((xfg σ1 (tn σ0) n (tn σ22) σ23 0).2.2) := by rfl
  have hM : xM D (TY q) [w9 q ad σ0 σ1 σ2 σ3 σ4 σ5 σ6 σ7 σ8 σ9 σ10 σ11 σ12 σ13 σ14 σ15 σ16 σ17 σ18 σ19 σ20 σ21 (nI (xfg σ1 (tn σ0) n (tn σ22) σ23 0).2.1) (xfg σ1 (tn σ0) n (tn σ22) σ23 0).2.2 σ24 σ25 σ26 σ27 σ28 σ29 σ30] A s.heap s H locs := Eq.mp (congrArg (fun z9 => xM D (TY q) [w9 q ad σ0 σ1 σ2 σ3 σ4 σ5 σ6 σ7 σ8 σ9 σ10 σ11 σ12 σ13 σ14 σ15 σ16 σ17 σ18 σ19 σ20 σ21 (nI (xfg σ1 (tn σ0) n (tn σ22) σ23 0).2.1) z9 σ24 σ25 σ26 σ27 σ28 σ29 σ30] A s.heap s H locs) e3) hM
  refine x_loop (ι := Nat) (fun k => [(0, .ref (ad 0)), (1, .int (nI n)), (2, .int (nI k))]) (fun k => [w9 q ad σ0 σ1 σ2 σ3 σ4 σ5 σ6 σ7 σ8 σ9 σ10 σ11 σ12 σ13 σ14 σ15 σ16 σ17 σ18 σ19 σ20 σ21 (nI (xfg σ1 (tn σ0) n (tn σ22) σ23 k).2.1) (xfg σ1 (tn σ0) n (tn σ22) σ23 k).2.2 σ24 σ25 σ26 σ27 σ28 σ29 σ30]) (fun k => k ≤ n ∧ (xfg σ1 (tn σ0) n (tn σ22) σ23 k).1 = true) (fun k => n - k) 0 (⟨Nat.zero_le _, rfl⟩) hM (lv_sub hl [1, 2, 0] rfl) ?_
  intro k hI5 ih4 H locs hM ls hl
  have hM : xM D (TY q) [w9 q ad σ0 σ1 σ2 σ3 σ4 σ5 σ6 σ7 σ8 σ9 σ10 σ11 σ12 σ13 σ14 σ15 σ16 σ17 σ18 σ19 σ20 σ21 (nI (xfg σ1 (tn σ0) n (tn σ22) σ23 k).2.1) (xfg σ1 (tn σ0) n (tn σ22) σ23 k).2.2 σ24 σ25 σ26 σ27 σ28 σ29 σ30] A s.heap s H locs := hM
  have hl : lv_has ls 5 [(0, .ref (ad 0)), (1, .int (nI n)), (2, .int (nI k))] := hl
  have hI5 : k ≤ n ∧ (xfg σ1 (tn σ0) n (tn σ22) σ23 k).1 = true := hI5
  obtain ⟨hI5_0, hI5_1⟩ := id hI5
  have hk9 := hI5_0
  have hok9 := hI5_1
  have hpl := xfg_le (s := σ1) (len := tn σ0) (n := n) (p := tn σ22) (t := σ23) k
  try dsimp only
  refine lv_iload_n hx hb dX9_figures_2 rfl (lv_at hl 2 rfl) ?_
  refine lv_iload_n hx hb dX9_figures_3 rfl (lv_at hl 1 rfl) ?_
  refine x_icmp_ge (x := k) (y := n) (tgt := 136) hx hb (by omega) (by omega) dX9_figures_4 (by decide) (fun c6 => ?_) (fun c6 => ?_)
  · refine lv_iconst (v := nI 1) hx hb dX9_figures_136 (by decide) ?_
    have e7 : ((nI (xfg σ1 (tn σ0) n (tn σ22) σ23 k).2.1) : Int32) = (nI (xfg σ1 (tn σ0) n (tn σ22) σ23 n).2.1) := by (first | (rw [hfe, hfn]) | (rw [show k = n by omega]))
    have hM : xM D (TY q) [w9 q ad σ0 σ1 σ2 σ3 σ4 σ5 σ6 σ7 σ8 σ9 σ10 σ11 σ12 σ13 σ14 σ15 σ16 σ17 σ18 σ19 σ20 σ21 (nI (xfg σ1 (tn σ0) n (tn σ22) σ23 n).2.1) (xfg σ1 (tn σ0) n (tn σ22) σ23 k).2.2 σ24 σ25 σ26 σ27 σ28 σ29 σ30] A s.heap s H locs := Eq.mp (congrArg (fun z9 => xM D (TY q) [w9 q ad σ0 σ1 σ2 σ3 σ4 σ5 σ6 σ7 σ8 σ9 σ10 σ11 σ12 σ13 σ14 σ15 σ16 σ17 σ18 σ19 σ20 σ21 z9 (xfg σ1 (tn σ0) n (tn σ22) σ23 k).2.2 σ24 σ25 σ26 σ27 σ28 σ29 σ30] A s.heap s H locs) e7) hM
    have e8 : (((xfg σ1 (tn σ0) n (tn σ22) σ23 k).2.2) : Nat → Int32) = ((xfg σ1 (tn σ0) n (tn σ22) σ23 n).2.2) := by (first | (rw [hfe]) | (rw [show k = n by omega]))
    have hM : xM D (TY q) [w9 q ad σ0 σ1 σ2 σ3 σ4 σ5 σ6 σ7 σ8 σ9 σ10 σ11 σ12 σ13 σ14 σ15 σ16 σ17 σ18 σ19 σ20 σ21 (nI (xfg σ1 (tn σ0) n (tn σ22) σ23 n).2.1) (xfg σ1 (tn σ0) n (tn σ22) σ23 n).2.2 σ24 σ25 σ26 σ27 σ28 σ29 σ30] A s.heap s H locs := Eq.mp (congrArg (fun z9 => xM D (TY q) [w9 q ad σ0 σ1 σ2 σ3 σ4 σ5 σ6 σ7 σ8 σ9 σ10 σ11 σ12 σ13 σ14 σ15 σ16 σ17 σ18 σ19 σ20 σ21 (nI (xfg σ1 (tn σ0) n (tn σ22) σ23 n).2.1) z9 σ24 σ25 σ26 σ27 σ28 σ29 σ30] A s.heap s H locs) e8) hM
    exact x_zret hx hb hr hlocks () hM rfl (show nI 1 = zb ((xfg σ1 (tn σ0) n (tn σ22) σ23 n).1 = true) from by (rw [show k = n by omega] at hok9; exact zb_t' hok9)) dX9_figures_137
  · refine lv_iconst (v := nI 0) hx hb dX9_figures_7 (by decide) ?_
    refine lv_istore_n (lv' := [(3, .int (nI 0)), (0, .ref (ad 0)), (1, .int (nI n)), (2, .int (nI k))]) hx hb dX9_figures_8 rfl hl (by decide) rfl (fun ls hl => ?_)
    refine lv_iconst (v := nI 0) hx hb dX9_figures_9 (by decide) ?_
    refine lv_istore (lv' := [(4, .int (nI 0)), (3, .int (nI 0)), (0, .ref (ad 0)), (1, .int (nI n)), (2, .int (nI k))]) hx hb dX9_figures_10 hl (by decide) rfl (fun ls hl => ?_)
    have hM9 : xM D (TY q) [w9 q ad σ0 σ1 σ2 σ3 σ4 σ5 σ6 σ7 σ8 σ9 σ10 σ11 σ12 σ13 σ14 σ15 σ16 σ17 σ18 σ19 σ20 σ21 (nI ((xfg σ1 (tn σ0) n (tn σ22) σ23 k).2.1 + 0)) (xfg σ1 (tn σ0) n (tn σ22) σ23 k).2.2 σ24 σ25 σ26 σ27 σ28 σ29 σ30] A s.heap s H locs := by exact hM
    refine x_loop (ι := Nat) (fun f => [(0, .ref (ad 0)), (1, .int (nI n)), (2, .int (nI k)), (3, .int (nI f)), (4, .int (nI (xval σ1 (tn σ0) (xfg σ1 (tn σ0) n (tn σ22) σ23 k).2.1 f)))]) (fun f => [w9 q ad σ0 σ1 σ2 σ3 σ4 σ5 σ6 σ7 σ8 σ9 σ10 σ11 σ12 σ13 σ14 σ15 σ16 σ17 σ18 σ19 σ20 σ21 (nI ((xfg σ1 (tn σ0) n (tn σ22) σ23 k).2.1 + f)) (xfg σ1 (tn σ0) n (tn σ22) σ23 k).2.2 σ24 σ25 σ26 σ27 σ28 σ29 σ30]) (fun f => f ≤ 3 ∧ ∀ i, i < f → xdg σ1 (tn σ0) ((xfg σ1 (tn σ0) n (tn σ22) σ23 k).2.1 + i)) (fun f => 3 - f) 0 (⟨Nat.zero_le _, fun i hi => absurd hi (Nat.not_lt_zero i)⟩) hM9 (lv_sub hl [2, 3, 4, 1, 0] rfl) ?_
    intro f hI11 ih10 H locs hM ls hl
    have hM : xM D (TY q) [w9 q ad σ0 σ1 σ2 σ3 σ4 σ5 σ6 σ7 σ8 σ9 σ10 σ11 σ12 σ13 σ14 σ15 σ16 σ17 σ18 σ19 σ20 σ21 (nI ((xfg σ1 (tn σ0) n (tn σ22) σ23 k).2.1 + f)) (xfg σ1 (tn σ0) n (tn σ22) σ23 k).2.2 σ24 σ25 σ26 σ27 σ28 σ29 σ30] A s.heap s H locs := hM
    have hl : lv_has ls 5 [(0, .ref (ad 0)), (1, .int (nI n)), (2, .int (nI k)), (3, .int (nI f)), (4, .int (nI (xval σ1 (tn σ0) (xfg σ1 (tn σ0) n (tn σ22) σ23 k).2.1 f)))] := hl
    have hI11 : f ≤ 3 ∧ ∀ i, i < f → xdg σ1 (tn σ0) ((xfg σ1 (tn σ0) n (tn σ22) σ23 k).2.1 + i) := hI11
    obtain ⟨hI11_0, hI11_1⟩ := id hI11
    have hf9 := hI11_0
    have hdg9 := hI11_1
    have hvl := Nat.lt_of_lt_of_le (xval_le hdg9 hf9) (Nat.pow_le_pow_right (by decide) hf9)
    try dsimp only
    refine lv_aload_n hx hb dX9_figures_12 rfl (lv_at hl 0 rfl) ?_
    refine lv_aload_n hx hb dX9_figures_13 rfl (lv_at hl 0 rfl) ?_
    refine x_get hx hb hts iwX9_figures_X9 hown hM 0 0 rfl rfl rfl 22 (by decide) (hts _ lkX9_figures_112) (fun _ h => h) rfl dX9_figures_14 ?_
    refine x_calli (bc := [w9 q ad σ0 σ1 σ2 σ3 σ4 σ5 σ6 σ7 σ8 σ9 σ10 σ11 σ12 σ13 σ14 σ15 σ16 σ17 σ18 σ19 σ20 σ21 (nI ((xfg σ1 (tn σ0) n (tn σ22) σ23 k).2.1 + f)) (xfg σ1 (tn σ0) n (tn σ22) σ23 k).2.2 σ24 σ25 σ26 σ27 σ28 σ29 σ30]) (br := []) hM [0] [] rfl rfl rfl (by decide) (x_runV (As := [.int (nI ((xfg σ1 (tn σ0) n (tn σ22) σ23 k).2.1 + f))]) (rest := []) hfix (c_X9_letterAt l D q ad σ0 σ1 σ2 σ3 σ4 σ5 σ6 σ7 σ8 σ9 σ10 σ11 σ12 σ13 σ14 σ15 σ16 σ17 σ18 σ19 σ20 σ21 (nI ((xfg σ1 (tn σ0) n (tn σ22) σ23 k).2.1 + f)) (xfg σ1 (tn σ0) n (tn σ22) σ23 k).2.2 σ24 σ25 σ26 σ27 σ28 σ29 σ30 ((xfg σ1 (tn σ0) n (tn σ22) σ23 k).2.1 + f) (by omega) hL) (cwV 1 hts gX9_figures_X9_letterAt rfl rfl rfl (by decide +kernel) ⟨Nat.le_of_ble_eq_true rfl, Nat.le_of_ble_eq_true rfl⟩) hM [0] rfl rfl 0 0 rfl rfl rfl rfl rfl hl.1 rfl (Nat.le_of_ble_eq_true rfl) dX9_figures_17 ⟨Nat.le_of_ble_eq_true rfl, Nat.le_of_ble_eq_true rfl⟩) (fun r u H locs hq hM => ?_)
    subst hq
    have hM : xM D (TY q) [w9 q ad σ0 σ1 σ2 σ3 σ4 σ5 σ6 σ7 σ8 σ9 σ10 σ11 σ12 σ13 σ14 σ15 σ16 σ17 σ18 σ19 σ20 σ21 (nI ((xfg σ1 (tn σ0) n (tn σ22) σ23 k).2.1 + f)) (xfg σ1 (tn σ0) n (tn σ22) σ23 k).2.2 σ24 σ25 σ26 σ27 σ28 σ29 σ30] A s.heap s H locs := hM
    refine x_i2l hx hb dX9_figures_20 ?_
    refine lv_ldc2 (v := 48) hx hb hown (hts (.constantLong RX9 119 (48)) (by decide +kernel)) dX9_figures_21 ?_
    refine lv_ldc2 (v := 57) hx hb hown (hts (.constantLong RX9 121 (57)) (by decide +kernel)) dX9_figures_24 ?_
    refine x_calli (bc := []) (br := [w9 q ad σ0 σ1 σ2 σ3 σ4 σ5 σ6 σ7 σ8 σ9 σ10 σ11 σ12 σ13 σ14 σ15 σ16 σ17 σ18 σ19 σ20 σ21 (nI ((xfg σ1 (tn σ0) n (tn σ22) σ23 k).2.1 + f)) (xfg σ1 (tn σ0) n (tn σ22) σ23 k).2.2 σ24 σ25 σ26 σ27 σ28 σ29 σ30]) hM [] [0] rfl rfl rfl (by decide) (x_runS (As := [.long ((xlet σ1 (tn σ0) ((xfg σ1 (tn σ0) n (tn σ22) σ23 k).2.1 + f)).toInt64), .long (48 : Int64), .long (57 : Int64)]) (rest := []) hfix (c_X9_in l D q ((xlet σ1 (tn σ0) ((xfg σ1 (tn σ0) n (tn σ22) σ23 k).2.1 + f)).toInt64) (48 : Int64) (57 : Int64) ((xlet σ1 (tn σ0) ((xfg σ1 (tn σ0) n (tn σ22) σ23 k).2.1 + f)).toInt) (48 : Int) (57 : Int) ((Jvm.Kit.i64_of_i32 _).trans rfl) (by decide) (by decide)) (va_cwS 3 hts gX9_figures_X9_in rfl rfl rfl (by decide +kernel) ⟨Nat.le_of_ble_eq_true rfl, Nat.le_of_ble_eq_true rfl⟩) hM [] rfl rfl rfl hl.1 rfl (Nat.le_of_ble_eq_true rfl) dX9_figures_27 ⟨Nat.le_of_ble_eq_true rfl, Nat.le_of_ble_eq_true rfl⟩) (fun r u H locs hq hM => ?_)
    subst hq
    have hM : xM D (TY q) [w9 q ad σ0 σ1 σ2 σ3 σ4 σ5 σ6 σ7 σ8 σ9 σ10 σ11 σ12 σ13 σ14 σ15 σ16 σ17 σ18 σ19 σ20 σ21 (nI ((xfg σ1 (tn σ0) n (tn σ22) σ23 k).2.1 + f)) (xfg σ1 (tn σ0) n (tn σ22) σ23 k).2.2 σ24 σ25 σ26 σ27 σ28 σ29 σ30] A s.heap s H locs := hM
    refine x_ifz_eq (P := (48 : Int) ≤ ((xlet σ1 (tn σ0) ((xfg σ1 (tn σ0) n (tn σ22) σ23 k).2.1 + f)).toInt) ∧ ((xlet σ1 (tn σ0) ((xfg σ1 (tn σ0) n (tn σ22) σ23 k).2.1 + f)).toInt) ≤ (57 : Int)) (tgt := 73) hx hb dX9_figures_30 (by decide) (fun c12 => ?_) (fun c12 => ?_)
    · have hfn : f = xnd σ1 (tn σ0) (xfg σ1 (tn σ0) n (tn σ22) σ23 k).2.1 := xnd_end hdg9 hf9 (by first | exact Or.inl (by assumption) | exact Or.inr (by omega))
      refine lv_iload_n hx hb dX9_figures_73 rfl (lv_at hl 3 rfl) ?_
      refine x_i2l hx hb dX9_figures_74 ?_
      refine lv_lconst (v := 1) hx hb dX9_figures_75 (by decide) ?_
      refine lv_ldc2 (v := 2) hx hb hown (hts (.constantLong RX9 123 (2)) (by decide +kernel)) dX9_figures_76 ?_
      refine x_calli (bc := []) (br := [w9 q ad σ0 σ1 σ2 σ3 σ4 σ5 σ6 σ7 σ8 σ9 σ10 σ11 σ12 σ13 σ14 σ15 σ16 σ17 σ18 σ19 σ20 σ21 (nI ((xfg σ1 (tn σ0) n (tn σ22) σ23 k).2.1 + f)) (xfg σ1 (tn σ0) n (tn σ22) σ23 k).2.2 σ24 σ25 σ26 σ27 σ28 σ29 σ30]) hM [] [0] rfl rfl rfl (by decide) (x_runS (As := [.long ((nI f).toInt64), .long (1 : Int64), .long (2 : Int64)]) (rest := []) hfix (c_X9_in l D q ((nI f).toInt64) (1 : Int64) (2 : Int64) ((f : Nat) : Int) (1 : Int) (2 : Int) ((Jvm.Kit.i64_of_i32 _).trans (nI_toInt (n := f) (by omega))) (by decide) (by decide)) (va_cwS 3 hts gX9_figures_X9_in rfl rfl rfl (by decide +kernel) ⟨Nat.le_of_ble_eq_true rfl, Nat.le_of_ble_eq_true rfl⟩) hM [] rfl rfl rfl hl.1 rfl (Nat.le_of_ble_eq_true rfl) dX9_figures_79 ⟨Nat.le_of_ble_eq_true rfl, Nat.le_of_ble_eq_true rfl⟩) (fun r u H locs hq hM => ?_)
      subst hq
      have hM : xM D (TY q) [w9 q ad σ0 σ1 σ2 σ3 σ4 σ5 σ6 σ7 σ8 σ9 σ10 σ11 σ12 σ13 σ14 σ15 σ16 σ17 σ18 σ19 σ20 σ21 (nI ((xfg σ1 (tn σ0) n (tn σ22) σ23 k).2.1 + f)) (xfg σ1 (tn σ0) n (tn σ22) σ23 k).2.2 σ24 σ25 σ26 σ27 σ28 σ29 σ30] A s.heap s H locs := hM
      refine x_ifz_eq (P := (1 : Int) ≤ ((f : Nat) : Int) ∧ ((f : Nat) : Int) ≤ (2 : Int)) (tgt := 110) hx hb dX9_figures_82 (by decide) (fun c13 => ?_) (fun c13 => ?_)
      · have hfe := xfg_end (s := σ1) (len := tn σ0) (n := n) (p := tn σ22) (t := σ23) (k := k) (by omega) (xfg_0 hok9 (by rw [← hfn]; intro z; obtain ⟨z1, z2⟩ := z; first | omega | (rw [if_neg (c := n - 1 ≤ k) (by omega)] at z2; exact absurd z2 (by assumption)) | (rw [if_pos (c := n - 1 ≤ k) (by omega)] at z2; exact absurd z2 (by assumption))))
        refine lv_iconst (v := nI 0) hx hb dX9_figures_110 (by decide) ?_
        have e14 : ((nI ((xfg σ1 (tn σ0) n (tn σ22) σ23 k).2.1 + f)) : Int32) = (nI (xfg σ1 (tn σ0) n (tn σ22) σ23 n).2.1) := by (first | (rw [hfe, hfn]) | (rw [show k = n by omega]))
        have hM : xM D (TY q) [w9 q ad σ0 σ1 σ2 σ3 σ4 σ5 σ6 σ7 σ8 σ9 σ10 σ11 σ12 σ13 σ14 σ15 σ16 σ17 σ18 σ19 σ20 σ21 (nI (xfg σ1 (tn σ0) n (tn σ22) σ23 n).2.1) (xfg σ1 (tn σ0) n (tn σ22) σ23 k).2.2 σ24 σ25 σ26 σ27 σ28 σ29 σ30] A s.heap s H locs := Eq.mp (congrArg (fun z9 => xM D (TY q) [w9 q ad σ0 σ1 σ2 σ3 σ4 σ5 σ6 σ7 σ8 σ9 σ10 σ11 σ12 σ13 σ14 σ15 σ16 σ17 σ18 σ19 σ20 σ21 z9 (xfg σ1 (tn σ0) n (tn σ22) σ23 k).2.2 σ24 σ25 σ26 σ27 σ28 σ29 σ30] A s.heap s H locs) e14) hM
        have e15 : (((xfg σ1 (tn σ0) n (tn σ22) σ23 k).2.2) : Nat → Int32) = ((xfg σ1 (tn σ0) n (tn σ22) σ23 n).2.2) := by (first | (rw [hfe]) | (rw [show k = n by omega]))
        have hM : xM D (TY q) [w9 q ad σ0 σ1 σ2 σ3 σ4 σ5 σ6 σ7 σ8 σ9 σ10 σ11 σ12 σ13 σ14 σ15 σ16 σ17 σ18 σ19 σ20 σ21 (nI (xfg σ1 (tn σ0) n (tn σ22) σ23 n).2.1) (xfg σ1 (tn σ0) n (tn σ22) σ23 n).2.2 σ24 σ25 σ26 σ27 σ28 σ29 σ30] A s.heap s H locs := Eq.mp (congrArg (fun z9 => xM D (TY q) [w9 q ad σ0 σ1 σ2 σ3 σ4 σ5 σ6 σ7 σ8 σ9 σ10 σ11 σ12 σ13 σ14 σ15 σ16 σ17 σ18 σ19 σ20 σ21 (nI (xfg σ1 (tn σ0) n (tn σ22) σ23 n).2.1) z9 σ24 σ25 σ26 σ27 σ28 σ29 σ30] A s.heap s H locs) e15) hM
        exact x_zret hx hb hr hlocks () hM rfl (show nI 0 = zb ((xfg σ1 (tn σ0) n (tn σ22) σ23 n).1 = true) from by (rw [hfe]; rfl)) dX9_figures_111
      · refine lv_aload_n hx hb dX9_figures_85 rfl (lv_at hl 0 rfl) ?_
        refine lv_aload_n hx hb dX9_figures_86 rfl (lv_at hl 0 rfl) ?_
        refine x_get hx hb hts iwX9_figures_X9 hown hM 0 0 rfl rfl rfl 22 (by decide) (hts _ lkX9_figures_112) (fun _ h => h) rfl dX9_figures_87 ?_
        refine x_calli (bc := [w9 q ad σ0 σ1 σ2 σ3 σ4 σ5 σ6 σ7 σ8 σ9 σ10 σ11 σ12 σ13 σ14 σ15 σ16 σ17 σ18 σ19 σ20 σ21 (nI ((xfg σ1 (tn σ0) n (tn σ22) σ23 k).2.1 + f)) (xfg σ1 (tn σ0) n (tn σ22) σ23 k).2.2 σ24 σ25 σ26 σ27 σ28 σ29 σ30]) (br := []) hM [0] [] rfl rfl rfl (by decide) (x_runV (As := [.int (nI ((xfg σ1 (tn σ0) n (tn σ22) σ23 k).2.1 + f))]) (rest := []) hfix (c_X9_letterAt l D q ad σ0 σ1 σ2 σ3 σ4 σ5 σ6 σ7 σ8 σ9 σ10 σ11 σ12 σ13 σ14 σ15 σ16 σ17 σ18 σ19 σ20 σ21 (nI ((xfg σ1 (tn σ0) n (tn σ22) σ23 k).2.1 + f)) (xfg σ1 (tn σ0) n (tn σ22) σ23 k).2.2 σ24 σ25 σ26 σ27 σ28 σ29 σ30 ((xfg σ1 (tn σ0) n (tn σ22) σ23 k).2.1 + f) (by omega) hL) (cwV 1 hts gX9_figures_X9_letterAt rfl rfl rfl (by decide +kernel) ⟨Nat.le_of_ble_eq_true rfl, Nat.le_of_ble_eq_true rfl⟩) hM [0] rfl rfl 0 0 rfl rfl rfl rfl rfl hl.1 rfl (Nat.le_of_ble_eq_true rfl) dX9_figures_90 ⟨Nat.le_of_ble_eq_true rfl, Nat.le_of_ble_eq_true rfl⟩) (fun r u H locs hq hM => ?_)
        subst hq
        have hM : xM D (TY q) [w9 q ad σ0 σ1 σ2 σ3 σ4 σ5 σ6 σ7 σ8 σ9 σ10 σ11 σ12 σ13 σ14 σ15 σ16 σ17 σ18 σ19 σ20 σ21 (nI ((xfg σ1 (tn σ0) n (tn σ22) σ23 k).2.1 + f)) (xfg σ1 (tn σ0) n (tn σ22) σ23 k).2.2 σ24 σ25 σ26 σ27 σ28 σ29 σ30] A s.heap s H locs := hM
        refine lv_iload_n hx hb dX9_figures_93 rfl (lv_at hl 2 rfl) ?_
        refine lv_iload_n hx hb dX9_figures_94 rfl (lv_at hl 1 rfl) ?_
        refine lv_iconst (v := nI 1) hx hb dX9_figures_95 (by decide) ?_
        refine x_isub (x := n) (y := 1) hx hb (by omega) dX9_figures_96 ?_
        refine x_icmp_ge (x := k) (y := n - 1) (tgt := 105) hx hb (by omega) (by omega) dX9_figures_97 (by decide) (fun c16 => ?_) (fun c16 => ?_)
        · refine lv_bipush (v := nI 59) hx hb dX9_figures_105 (by decide) ?_
          refine lv_icmp_eq (tgt := 112) hx hb dX9_figures_107 (by decide) (fun c17 => ?_) (fun c17 => ?_)
          · have hfg := xfg_1 (s := σ1) (len := tn σ0) (n := n) (p := tn σ22) (t := σ23) (k := k) hok9 (by rw [← hfn]; refine ⟨by omega, ?_⟩; first | (rw [if_neg (c := n - 1 ≤ k) (by omega)]; assumption) | (rw [if_pos (c := n - 1 ≤ k) (by omega)]; assumption))
            rw [← hfn] at hfg
            refine lv_aload_n hx hb dX9_figures_112 rfl (lv_at hl 0 rfl) ?_
            refine x_get hx hb hts iwX9_figures_X9 hown hM 0 0 rfl rfl rfl 23 (by decide) (hts _ lkX9_figures_67) (fun _ h => h) rfl dX9_figures_113 ?_
            refine lv_iload_n hx hb dX9_figures_116 rfl (lv_at hl 2 rfl) ?_
            refine lv_iload hx hb dX9_figures_117 (lv_at hl 4 rfl) ?_
            refine x_iast hx hb hM 0 20 0 (f := (xfg σ1 (tn σ0) n (tn σ22) σ23 k).2.2) rfl rfl rfl (t := k) (x := nI (xval σ1 (tn σ0) (xfg σ1 (tn σ0) n (tn σ22) σ23 k).2.1 f)) (by omega) (by decide) [w9 q ad σ0 σ1 σ2 σ3 σ4 σ5 σ6 σ7 σ8 σ9 σ10 σ11 σ12 σ13 σ14 σ15 σ16 σ17 σ18 σ19 σ20 σ21 (nI ((xfg σ1 (tn σ0) n (tn σ22) σ23 k).2.1 + f)) (upd (xfg σ1 (tn σ0) n (tn σ22) σ23 k).2.2 k (nI (xval σ1 (tn σ0) (xfg σ1 (tn σ0) n (tn σ22) σ23 k).2.1 f))) σ24 σ25 σ26 σ27 σ28 σ29 σ30] rfl dX9_figures_119 (fun H locs hM => ?_)
            refine lv_aload_n hx hb dX9_figures_120 rfl (lv_at hl 0 rfl) ?_
            refine lv_dup hx hb dX9_figures_121 rfl ?_
            refine x_get hx hb hts iwX9_figures_X9 hown hM 0 0 rfl rfl rfl 22 (by decide) (hts _ lkX9_figures_112) (fun _ h => h) rfl dX9_figures_122 ?_
            refine lv_iconst (v := nI 1) hx hb dX9_figures_125 (by decide) ?_
            refine x_iadd (x := (xfg σ1 (tn σ0) n (tn σ22) σ23 k).2.1 + f) (y := 1) hx hb dX9_figures_126 ?_
            refine x_put hx hb hts iwX9_figures_X9 tyX9 tyX9_ok nmX9 hown hM 0 0 rfl rfl rfl 22 (by decide) (hts _ lkX9_figures_112) (fun _ h => h) rfl (ty := .int) (by decide +kernel) rfl rfl (Nat.le_of_ble_eq_true rfl) [w9 q ad σ0 σ1 σ2 σ3 σ4 σ5 σ6 σ7 σ8 σ9 σ10 σ11 σ12 σ13 σ14 σ15 σ16 σ17 σ18 σ19 σ20 σ21 (nI ((xfg σ1 (tn σ0) n (tn σ22) σ23 k).2.1 + f + 1)) (upd (xfg σ1 (tn σ0) n (tn σ22) σ23 k).2.2 k (nI (xval σ1 (tn σ0) (xfg σ1 (tn σ0) n (tn σ22) σ23 k).2.1 f))) σ24 σ25 σ26 σ27 σ28 σ29 σ30] rfl dX9_figures_127 (fun H locs hM => ?_)
            refine lv_iinc (v := nI (k + 1)) (lv' := [(2, .int (nI (k + 1))), (0, .ref (ad 0)), (1, .int (nI n)), (3, .int (nI f)), (4, .int (nI (xval σ1 (tn σ0) (xfg σ1 (tn σ0) n (tn σ22) σ23 k).2.1 f)))]) hx hb dX9_figures_130 hl (k := 2) rfl (x_inc _ 1) (by decide) rfl (fun ls hl => ?_)
            refine lv_goto (tgt := 2) hx hb dX9_figures_133 (by decide) ?_
            have e18 : ((nI ((xfg σ1 (tn σ0) n (tn σ22) σ23 k).2.1 + f + 1)) : Int32) = (nI (xfg σ1 (tn σ0) n (tn σ22) σ23 (k + 1)).2.1) := by (rw [hfg])
            have hM : xM D (TY q) [w9 q ad σ0 σ1 σ2 σ3 σ4 σ5 σ6 σ7 σ8 σ9 σ10 σ11 σ12 σ13 σ14 σ15 σ16 σ17 σ18 σ19 σ20 σ21 (nI (xfg σ1 (tn σ0) n (tn σ22) σ23 (k + 1)).2.1) (upd (xfg σ1 (tn σ0) n (tn σ22) σ23 k).2.2 k (nI (xval σ1 (tn σ0) (xfg σ1 (tn σ0) n (tn σ22) σ23 k).2.1 f))) σ24 σ25 σ26 σ27 σ28 σ29 σ30] A s.heap s H locs := Eq.mp (congrArg (fun z9 => xM D (TY q) [w9 q ad σ0 σ1 σ2 σ3 σ4 σ5 σ6 σ7 σ8 σ9 σ10 σ11 σ12 σ13 σ14 σ15 σ16 σ17 σ18 σ19 σ20 σ21 z9 (upd (xfg σ1 (tn σ0) n (tn σ22) σ23 k).2.2 k (nI (xval σ1 (tn σ0) (xfg σ1 (tn σ0) n (tn σ22) σ23 k).2.1 f))) σ24 σ25 σ26 σ27 σ28 σ29 σ30] A s.heap s H locs) e18) hM
            have e19 : ((upd (xfg σ1 (tn σ0) n (tn σ22) σ23 k).2.2 k (nI (xval σ1 (tn σ0) (xfg σ1 (tn σ0) n (tn σ22) σ23 k).2.1 f))) : Nat → Int32) = ((xfg σ1 (tn σ0) n (tn σ22) σ23 (k + 1)).2.2) := by (rw [hfg])
            have hM : xM D (TY q) [w9 q ad σ0 σ1 σ2 σ3 σ4 σ5 σ6 σ7 σ8 σ9 σ10 σ11 σ12 σ13 σ14 σ15 σ16 σ17 σ18 σ19 σ20 σ21 (nI (xfg σ1 (tn σ0) n (tn σ22) σ23 (k + 1)).2.1) (xfg σ1 (tn σ0) n (tn σ22) σ23 (k + 1)).2.2 σ24 σ25 σ26 σ27 σ28 σ29 σ30] A s.heap s H locs := Eq.mp (congrArg (fun z9 => xM D (TY q) [w9 q ad σ0 σ1 σ2 σ3 σ4 σ5 σ6 σ7 σ8 σ9 σ10 σ11 σ12 σ13 σ14 σ15 σ16 σ17 σ18 σ19 σ20 σ21 (nI (xfg σ1 (tn σ0) n (tn σ22) σ23 (k + 1)).2.1) z9 σ24 σ25 σ26 σ27 σ28 σ29 σ30] A s.heap s H locs) e19) hM
            have hl : lv_has ls 5 [(0, .ref (ad 0)), (1, .int (nI n)), (2, .int (nI (k + 1)))] := lv_sub hl [1, 2, 0] rfl
            exact ih4 (k + 1) (show n - (k + 1) < n - k from by omega) (show (k + 1) ≤ n ∧ (xfg σ1 (tn σ0) n (tn σ22) σ23 (k + 1)).1 = true from ⟨by omega, by rw [hfg]⟩) _ _ hM _ hl
          · have hfe := xfg_end (s := σ1) (len := tn σ0) (n := n) (p := tn σ22) (t := σ23) (k := k) (by omega) (xfg_0 hok9 (by rw [← hfn]; intro z; obtain ⟨z1, z2⟩ := z; first | omega | (rw [if_neg (c := n - 1 ≤ k) (by omega)] at z2; exact absurd z2 (by assumption)) | (rw [if_pos (c := n - 1 ≤ k) (by omega)] at z2; exact absurd z2 (by assumption))))
            refine lv_iconst (v := nI 0) hx hb dX9_figures_110 (by decide) ?_
            have e20 : ((nI ((xfg σ1 (tn σ0) n (tn σ22) σ23 k).2.1 + f)) : Int32) = (nI (xfg σ1 (tn σ0) n (tn σ22) σ23 n).2.1) := by (first | (rw [hfe, hfn]) | (rw [show k = n by omega]))
            have hM : xM D (TY q) [w9 q ad σ0 σ1 σ2 σ3 σ4 σ5 σ6 σ7 σ8 σ9 σ10 σ11 σ12 σ13 σ14 σ15 σ16 σ17 σ18 σ19 σ20 σ21 (nI (xfg σ1 (tn σ0) n (tn σ22) σ23 n).2.1) (xfg σ1 (tn σ0) n (tn σ22) σ23 k).2.2 σ24 σ25 σ26 σ27 σ28 σ29 σ30] A s.heap s H locs := Eq.mp (congrArg (fun z9 => xM D (TY q) [w9 q ad σ0 σ1 σ2 σ3 σ4 σ5 σ6 σ7 σ8 σ9 σ10 σ11 σ12 σ13 σ14 σ15 σ16 σ17 σ18 σ19 σ20 σ21 z9 (xfg σ1 (tn σ0) n (tn σ22) σ23 k).2.2 σ24 σ25 σ26 σ27 σ28 σ29 σ30] A s.heap s H locs) e20) hM
            have e21 : (((xfg σ1 (tn σ0) n (tn σ22) σ23 k).2.2) : Nat → Int32) = ((xfg σ1 (tn σ0) n (tn σ22) σ23 n).2.2) := by (first | (rw [hfe]) | (rw [show k = n by omega]))
            have hM : xM D (TY q) [w9 q ad σ0 σ1 σ2 σ3 σ4 σ5 σ6 σ7 σ8 σ9 σ10 σ11 σ12 σ13 σ14 σ15 σ16 σ17 σ18 σ19 σ20 σ21 (nI (xfg σ1 (tn σ0) n (tn σ22) σ23 n).2.1) (xfg σ1 (tn σ0) n (tn σ22) σ23 n).2.2 σ24 σ25 σ26 σ27 σ28 σ29 σ30] A s.heap s H locs := Eq.mp (congrArg (fun z9 => xM D (TY q) [w9 q ad σ0 σ1 σ2 σ3 σ4 σ5 σ6 σ7 σ8 σ9 σ10 σ11 σ12 σ13 σ14 σ15 σ16 σ17 σ18 σ19 σ20 σ21 (nI (xfg σ1 (tn σ0) n (tn σ22) σ23 n).2.1) z9 σ24 σ25 σ26 σ27 σ28 σ29 σ30] A s.heap s H locs) e21) hM
            exact x_zret hx hb hr hlocks () hM rfl (show nI 0 = zb ((xfg σ1 (tn σ0) n (tn σ22) σ23 n).1 = true) from by (rw [hfe]; rfl)) dX9_figures_111
        · refine lv_bipush (v := nI 44) hx hb dX9_figures_100 (by decide) ?_
          refine lv_goto (tgt := 107) hx hb dX9_figures_102 (by decide) ?_
          refine lv_icmp_eq (tgt := 112) hx hb dX9_figures_107 (by decide) (fun c22 => ?_) (fun c22 => ?_)
          · have hfg := xfg_1 (s := σ1) (len := tn σ0) (n := n) (p := tn σ22) (t := σ23) (k := k) hok9 (by rw [← hfn]; refine ⟨by omega, ?_⟩; first | (rw [if_neg (c := n - 1 ≤ k) (by omega)]; assumption) | (rw [if_pos (c := n - 1 ≤ k) (by omega)]; assumption))
            rw [← hfn] at hfg
            refine lv_aload_n hx hb dX9_figures_112 rfl (lv_at hl 0 rfl) ?_
            refine x_get hx hb hts iwX9_figures_X9 hown hM 0 0 rfl rfl rfl 23 (by decide) (hts _ lkX9_figures_67) (fun _ h => h) rfl dX9_figures_113 ?_
            refine lv_iload_n hx hb dX9_figures_116 rfl (lv_at hl 2 rfl) ?_
            refine lv_iload hx hb dX9_figures_117 (lv_at hl 4 rfl) ?_
            refine x_iast hx hb hM 0 20 0 (f := (xfg σ1 (tn σ0) n (tn σ22) σ23 k).2.2) rfl rfl rfl (t := k) (x := nI (xval σ1 (tn σ0) (xfg σ1 (tn σ0) n (tn σ22) σ23 k).2.1 f)) (by omega) (by decide) [w9 q ad σ0 σ1 σ2 σ3 σ4 σ5 σ6 σ7 σ8 σ9 σ10 σ11 σ12 σ13 σ14 σ15 σ16 σ17 σ18 σ19 σ20 σ21 (nI ((xfg σ1 (tn σ0) n (tn σ22) σ23 k).2.1 + f)) (upd (xfg σ1 (tn σ0) n (tn σ22) σ23 k).2.2 k (nI (xval σ1 (tn σ0) (xfg σ1 (tn σ0) n (tn σ22) σ23 k).2.1 f))) σ24 σ25 σ26 σ27 σ28 σ29 σ30] rfl dX9_figures_119 (fun H locs hM => ?_)
            refine lv_aload_n hx hb dX9_figures_120 rfl (lv_at hl 0 rfl) ?_
            refine lv_dup hx hb dX9_figures_121 rfl ?_
            refine x_get hx hb hts iwX9_figures_X9 hown hM 0 0 rfl rfl rfl 22 (by decide) (hts _ lkX9_figures_112) (fun _ h => h) rfl dX9_figures_122 ?_
            refine lv_iconst (v := nI 1) hx hb dX9_figures_125 (by decide) ?_
            refine x_iadd (x := (xfg σ1 (tn σ0) n (tn σ22) σ23 k).2.1 + f) (y := 1) hx hb dX9_figures_126 ?_
            refine x_put hx hb hts iwX9_figures_X9 tyX9 tyX9_ok nmX9 hown hM 0 0 rfl rfl rfl 22 (by decide) (hts _ lkX9_figures_112) (fun _ h => h) rfl (ty := .int) (by decide +kernel) rfl rfl (Nat.le_of_ble_eq_true rfl) [w9 q ad σ0 σ1 σ2 σ3 σ4 σ5 σ6 σ7 σ8 σ9 σ10 σ11 σ12 σ13 σ14 σ15 σ16 σ17 σ18 σ19 σ20 σ21 (nI ((xfg σ1 (tn σ0) n (tn σ22) σ23 k).2.1 + f + 1)) (upd (xfg σ1 (tn σ0) n (tn σ22) σ23 k).2.2 k (nI (xval σ1 (tn σ0) (xfg σ1 (tn σ0) n (tn σ22) σ23 k).2.1 f))) σ24 σ25 σ26 σ27 σ28 σ29 σ30] rfl dX9_figures_127 (fun H locs hM => ?_)
            refine lv_iinc (v := nI (k + 1)) (lv' := [(2, .int (nI (k + 1))), (0, .ref (ad 0)), (1, .int (nI n)), (3, .int (nI f)), (4, .int (nI (xval σ1 (tn σ0) (xfg σ1 (tn σ0) n (tn σ22) σ23 k).2.1 f)))]) hx hb dX9_figures_130 hl (k := 2) rfl (x_inc _ 1) (by decide) rfl (fun ls hl => ?_)
            refine lv_goto (tgt := 2) hx hb dX9_figures_133 (by decide) ?_
            have e23 : ((nI ((xfg σ1 (tn σ0) n (tn σ22) σ23 k).2.1 + f + 1)) : Int32) = (nI (xfg σ1 (tn σ0) n (tn σ22) σ23 (k + 1)).2.1) := by (rw [hfg])
            have hM : xM D (TY q) [w9 q ad σ0 σ1 σ2 σ3 σ4 σ5 σ6 σ7 σ8 σ9 σ10 σ11 σ12 σ13 σ14 σ15 σ16 σ17 σ18 σ19 σ20 σ21 (nI (xfg σ1 (tn σ0) n (tn σ22) σ23 (k + 1)).2.1) (upd (xfg σ1 (tn σ0) n (tn σ22) σ23 k).2.2 k (nI (xval σ1 (tn σ0) (xfg σ1 (tn σ0) n (tn σ22) σ23 k).2.1 f))) σ24 σ25 σ26 σ27 σ28 σ29 σ30] A s.heap s H locs := Eq.mp (congrArg (fun z9 => xM D (TY q) [w9 q ad σ0 σ1 σ2 σ3 σ4 σ5 σ6 σ7 σ8 σ9 σ10 σ11 σ12 σ13 σ14 σ15 σ16 σ17 σ18 σ19 σ20 σ21 z9 (upd (xfg σ1 (tn σ0) n (tn σ22) σ23 k).2.2 k (nI (xval σ1 (tn σ0) (xfg σ1 (tn σ0) n (tn σ22) σ23 k).2.1 f))) σ24 σ25 σ26 σ27 σ28 σ29 σ30] A s.heap s H locs) e23) hM
            have e24 : ((upd (xfg σ1 (tn σ0) n (tn σ22) σ23 k).2.2 k (nI (xval σ1 (tn σ0) (xfg σ1 (tn σ0) n (tn σ22) σ23 k).2.1 f))) : Nat → Int32) = ((xfg σ1 (tn σ0) n (tn σ22) σ23 (k + 1)).2.2) := by (rw [hfg])
            have hM : xM D (TY q) [w9 q ad σ0 σ1 σ2 σ3 σ4 σ5 σ6 σ7 σ8 σ9 σ10 σ11 σ12 σ13 σ14 σ15 σ16 σ17 σ18 σ19 σ20 σ21 (nI (xfg σ1 (tn σ0) n (tn σ22) σ23 (k + 1)).2.1) (xfg σ1 (tn σ0) n (tn σ22) σ23 (k + 1)).2.2 σ24 σ25 σ26 σ27 σ28 σ29 σ30] A s.heap s H locs := Eq.mp (congrArg (fun z9 => xM D (TY q) [w9 q ad σ0 σ1 σ2 σ3 σ4 σ5 σ6 σ7 σ8 σ9 σ10 σ11 σ12 σ13 σ14 σ15 σ16 σ17 σ18 σ19 σ20 σ21 (nI (xfg σ1 (tn σ0) n (tn σ22) σ23 (k + 1)).2.1) z9 σ24 σ25 σ26 σ27 σ28 σ29 σ30] A s.heap s H locs) e24) hM
            have hl : lv_has ls 5 [(0, .ref (ad 0)), (1, .int (nI n)), (2, .int (nI (k + 1)))] := lv_sub hl [1, 2, 0] rfl
            exact ih4 (k + 1) (show n - (k + 1) < n - k from by omega) (show (k + 1) ≤ n ∧ (xfg σ1 (tn σ0) n (tn σ22) σ23 (k + 1)).1 = true from ⟨by omega, by rw [hfg]⟩) _ _ hM _ hl
          · have hfe := xfg_end (s := σ1) (len := tn σ0) (n := n) (p := tn σ22) (t := σ23) (k := k) (by omega) (xfg_0 hok9 (by rw [← hfn]; intro z; obtain ⟨z1, z2⟩ := z; first | omega | (rw [if_neg (c := n - 1 ≤ k) (by omega)] at z2; exact absurd z2 (by assumption)) | (rw [if_pos (c := n - 1 ≤ k) (by omega)] at z2; exact absurd z2 (by assumption))))
            refine lv_iconst (v := nI 0) hx hb dX9_figures_110 (by decide) ?_
            have e25 : ((nI ((xfg σ1 (tn σ0) n (tn σ22) σ23 k).2.1 + f)) : Int32) = (nI (xfg σ1 (tn σ0) n (tn σ22) σ23 n).2.1) := by (first | (rw [hfe, hfn]) | (rw [show k = n by omega]))
            have hM : xM D (TY q) [w9 q ad σ0 σ1 σ2 σ3 σ4 σ5 σ6 σ7 σ8 σ9 σ10 σ11 σ12 σ13 σ14 σ15 σ16 σ17 σ18 σ19 σ20 σ21 (nI (xfg σ1 (tn σ0) n (tn σ22) σ23 n).2.1) (xfg σ1 (tn σ0) n (tn σ22) σ23 k).2.2 σ24 σ25 σ26 σ27 σ28 σ29 σ30] A s.heap s H locs := Eq.mp (congrArg (fun z9 => xM D (TY q) [w9 q ad σ0 σ1 σ2 σ3 σ4 σ5 σ6 σ7 σ8 σ9 σ10 σ11 σ12 σ13 σ14 σ15 σ16 σ17 σ18 σ19 σ20 σ21 z9 (xfg σ1 (tn σ0) n (tn σ22) σ23 k).2.2 σ24 σ25 σ26 σ27 σ28 σ29 σ30] A s.heap s H locs) e25) hM
            have e26 : (((xfg σ1 (tn σ0) n (tn σ22) σ23 k).2.2) : Nat → Int32) = ((xfg σ1 (tn σ0) n (tn σ22) σ23 n).2.2) := by (first | (rw [hfe]) | (rw [show k = n by omega]))
            have hM : xM D (TY q) [w9 q ad σ0 σ1 σ2 σ3 σ4 σ5 σ6 σ7 σ8 σ9 σ10 σ11 σ12 σ13 σ14 σ15 σ16 σ17 σ18 σ19 σ20 σ21 (nI (xfg σ1 (tn σ0) n (tn σ22) σ23 n).2.1) (xfg σ1 (tn σ0) n (tn σ22) σ23 n).2.2 σ24 σ25 σ26 σ27 σ28 σ29 σ30] A s.heap s H locs := Eq.mp (congrArg (fun z9 => xM D (TY q) [w9 q ad σ0 σ1 σ2 σ3 σ4 σ5 σ6 σ7 σ8 σ9 σ10 σ11 σ12 σ13 σ14 σ15 σ16 σ17 σ18 σ19 σ20 σ21 (nI (xfg σ1 (tn σ0) n (tn σ22) σ23 n).2.1) z9 σ24 σ25 σ26 σ27 σ28 σ29 σ30] A s.heap s H locs) e26) hM
            exact x_zret hx hb hr hlocks () hM rfl (show nI 0 = zb ((xfg σ1 (tn σ0) n (tn σ22) σ23 n).1 = true) from by (rw [hfe]; rfl)) dX9_figures_111
    · have hd9 : xdg σ1 (tn σ0) ((xfg σ1 (tn σ0) n (tn σ22) σ23 k).2.1 + f) := by assumption
      have hle9 := xlet_nat hd9
      refine lv_iload_n hx hb dX9_figures_33 rfl (lv_at hl 3 rfl) ?_
      refine lv_iconst (v := nI 3) hx hb dX9_figures_34 (by decide) ?_
      refine x_icmp_ge (x := f) (y := 3) (tgt := 73) hx hb (by omega) (by omega) dX9_figures_35 (by decide) (fun c27 => ?_) (fun c27 => ?_)
      · have hfn : f = xnd σ1 (tn σ0) (xfg σ1 (tn σ0) n (tn σ22) σ23 k).2.1 := xnd_end hdg9 hf9 (by first | exact Or.inl (by assumption) | exact Or.inr (by omega))
        refine lv_iload_n hx hb dX9_figures_73 rfl (lv_at hl 3 rfl) ?_
        refine x_i2l hx hb dX9_figures_74 ?_
        refine lv_lconst (v := 1) hx hb dX9_figures_75 (by decide) ?_
        refine lv_ldc2 (v := 2) hx hb hown (hts (.constantLong RX9 123 (2)) (by decide +kernel)) dX9_figures_76 ?_
        refine x_calli (bc := []) (br := [w9 q ad σ0 σ1 σ2 σ3 σ4 σ5 σ6 σ7 σ8 σ9 σ10 σ11 σ12 σ13 σ14 σ15 σ16 σ17 σ18 σ19 σ20 σ21 (nI ((xfg σ1 (tn σ0) n (tn σ22) σ23 k).2.1 + f)) (xfg σ1 (tn σ0) n (tn σ22) σ23 k).2.2 σ24 σ25 σ26 σ27 σ28 σ29 σ30]) hM [] [0] rfl rfl rfl (by decide) (x_runS (As := [.long ((nI f).toInt64), .long (1 : Int64), .long (2 : Int64)]) (rest := []) hfix (c_X9_in l D q ((nI f).toInt64) (1 : Int64) (2 : Int64) ((f : Nat) : Int) (1 : Int) (2 : Int) ((Jvm.Kit.i64_of_i32 _).trans (nI_toInt (n := f) (by omega))) (by decide) (by decide)) (va_cwS 3 hts gX9_figures_X9_in rfl rfl rfl (by decide +kernel) ⟨Nat.le_of_ble_eq_true rfl, Nat.le_of_ble_eq_true rfl⟩) hM [] rfl rfl rfl hl.1 rfl (Nat.le_of_ble_eq_true rfl) dX9_figures_79 ⟨Nat.le_of_ble_eq_true rfl, Nat.le_of_ble_eq_true rfl⟩) (fun r u H locs hq hM => ?_)
        subst hq
        have hM : xM D (TY q) [w9 q ad σ0 σ1 σ2 σ3 σ4 σ5 σ6 σ7 σ8 σ9 σ10 σ11 σ12 σ13 σ14 σ15 σ16 σ17 σ18 σ19 σ20 σ21 (nI ((xfg σ1 (tn σ0) n (tn σ22) σ23 k).2.1 + f)) (xfg σ1 (tn σ0) n (tn σ22) σ23 k).2.2 σ24 σ25 σ26 σ27 σ28 σ29 σ30] A s.heap s H locs := hM
        refine x_ifz_eq (P := (1 : Int) ≤ ((f : Nat) : Int) ∧ ((f : Nat) : Int) ≤ (2 : Int)) (tgt := 110) hx hb dX9_figures_82 (by decide) (fun c28 => ?_) (fun c28 => ?_)
        · have hfe := xfg_end (s := σ1) (len := tn σ0) (n := n) (p := tn σ22) (t := σ23) (k := k) (by omega) (xfg_0 hok9 (by rw [← hfn]; intro z; obtain ⟨z1, z2⟩ := z; first | omega | (rw [if_neg (c := n - 1 ≤ k) (by omega)] at z2; exact absurd z2 (by assumption)) | (rw [if_pos (c := n - 1 ≤ k) (by omega)] at z2; exact absurd z2 (by assumption))))
          refine lv_iconst (v := nI 0) hx hb dX9_figures_110 (by decide) ?_
          have e29 : ((nI ((xfg σ1 (tn σ0) n (tn σ22) σ23 k).2.1 + f)) : Int32) = (nI (xfg σ1 (tn σ0) n (tn σ22) σ23 n).2.1) := by (first | (rw [hfe, hfn]) | (rw [show k = n by omega]))
          have hM : xM D (TY q) [w9 q ad σ0 σ1 σ2 σ3 σ4 σ5 σ6 σ7 σ8 σ9 σ10 σ11 σ12 σ13 σ14 σ15 σ16 σ17 σ18 σ19 σ20 σ21 (nI (xfg σ1 (tn σ0) n (tn σ22) σ23 n).2.1) (xfg σ1 (tn σ0) n (tn σ22) σ23 k).2.2 σ24 σ25 σ26 σ27 σ28 σ29 σ30] A s.heap s H locs := Eq.mp (congrArg (fun z9 => xM D (TY q) [w9 q ad σ0 σ1 σ2 σ3 σ4 σ5 σ6 σ7 σ8 σ9 σ10 σ11 σ12 σ13 σ14 σ15 σ16 σ17 σ18 σ19 σ20 σ21 z9 (xfg σ1 (tn σ0) n (tn σ22) σ23 k).2.2 σ24 σ25 σ26 σ27 σ28 σ29 σ30] A s.heap s H locs) e29) hM
          have e30 : (((xfg σ1 (tn σ0) n (tn σ22) σ23 k).2.2) : Nat → Int32) = ((xfg σ1 (tn σ0) n (tn σ22) σ23 n).2.2) := by (first | (rw [hfe]) | (rw [show k = n by omega]))
          have hM : xM D (TY q) [w9 q ad σ0 σ1 σ2 σ3 σ4 σ5 σ6 σ7 σ8 σ9 σ10 σ11 σ12 σ13 σ14 σ15 σ16 σ17 σ18 σ19 σ20 σ21 (nI (xfg σ1 (tn σ0) n (tn σ22) σ23 n).2.1) (xfg σ1 (tn σ0) n (tn σ22) σ23 n).2.2 σ24 σ25 σ26 σ27 σ28 σ29 σ30] A s.heap s H locs := Eq.mp (congrArg (fun z9 => xM D (TY q) [w9 q ad σ0 σ1 σ2 σ3 σ4 σ5 σ6 σ7 σ8 σ9 σ10 σ11 σ12 σ13 σ14 σ15 σ16 σ17 σ18 σ19 σ20 σ21 (nI (xfg σ1 (tn σ0) n (tn σ22) σ23 n).2.1) z9 σ24 σ25 σ26 σ27 σ28 σ29 σ30] A s.heap s H locs) e30) hM
          exact x_zret hx hb hr hlocks () hM rfl (show nI 0 = zb ((xfg σ1 (tn σ0) n (tn σ22) σ23 n).1 = true) from by (rw [hfe]; rfl)) dX9_figures_111
        · refine lv_aload_n hx hb dX9_figures_85 rfl (lv_at hl 0 rfl) ?_
          refine lv_aload_n hx hb dX9_figures_86 rfl (lv_at hl 0 rfl) ?_
          refine x_get hx hb hts iwX9_figures_X9 hown hM 0 0 rfl rfl rfl 22 (by decide) (hts _ lkX9_figures_112) (fun _ h => h) rfl dX9_figures_87 ?_
          refine x_calli (bc := [w9 q ad σ0 σ1 σ2 σ3 σ4 σ5 σ6 σ7 σ8 σ9 σ10 σ11 σ12 σ13 σ14 σ15 σ16 σ17 σ18 σ19 σ20 σ21 (nI ((xfg σ1 (tn σ0) n (tn σ22) σ23 k).2.1 + f)) (xfg σ1 (tn σ0) n (tn σ22) σ23 k).2.2 σ24 σ25 σ26 σ27 σ28 σ29 σ30]) (br := []) hM [0] [] rfl rfl rfl (by decide) (x_runV (As := [.int (nI ((xfg σ1 (tn σ0) n (tn σ22) σ23 k).2.1 + f))]) (rest := []) hfix (c_X9_letterAt l D q ad σ0 σ1 σ2 σ3 σ4 σ5 σ6 σ7 σ8 σ9 σ10 σ11 σ12 σ13 σ14 σ15 σ16 σ17 σ18 σ19 σ20 σ21 (nI ((xfg σ1 (tn σ0) n (tn σ22) σ23 k).2.1 + f)) (xfg σ1 (tn σ0) n (tn σ22) σ23 k).2.2 σ24 σ25 σ26 σ27 σ28 σ29 σ30 ((xfg σ1 (tn σ0) n (tn σ22) σ23 k).2.1 + f) (by omega) hL) (cwV 1 hts gX9_figures_X9_letterAt rfl rfl rfl (by decide +kernel) ⟨Nat.le_of_ble_eq_true rfl, Nat.le_of_ble_eq_true rfl⟩) hM [0] rfl rfl 0 0 rfl rfl rfl rfl rfl hl.1 rfl (Nat.le_of_ble_eq_true rfl) dX9_figures_90 ⟨Nat.le_of_ble_eq_true rfl, Nat.le_of_ble_eq_true rfl⟩) (fun r u H locs hq hM => ?_)
          subst hq
          have hM : xM D (TY q) [w9 q ad σ0 σ1 σ2 σ3 σ4 σ5 σ6 σ7 σ8 σ9 σ10 σ11 σ12 σ13 σ14 σ15 σ16 σ17 σ18 σ19 σ20 σ21 (nI ((xfg σ1 (tn σ0) n (tn σ22) σ23 k).2.1 + f)) (xfg σ1 (tn σ0) n (tn σ22) σ23 k).2.2 σ24 σ25 σ26 σ27 σ28 σ29 σ30] A s.heap s H locs := hM
          refine lv_iload_n hx hb dX9_figures_93 rfl (lv_at hl 2 rfl) ?_
          refine lv_iload_n hx hb dX9_figures_94 rfl (lv_at hl 1 rfl) ?_
          refine lv_iconst (v := nI 1) hx hb dX9_figures_95 (by decide) ?_
          refine x_isub (x := n) (y := 1) hx hb (by omega) dX9_figures_96 ?_
          refine x_icmp_ge (x := k) (y := n - 1) (tgt := 105) hx hb (by omega) (by omega) dX9_figures_97 (by decide) (fun c31 => ?_) (fun c31 => ?_)
          · refine lv_bipush (v := nI 59) hx hb dX9_figures_105 (by decide) ?_
            refine lv_icmp_eq (tgt := 112) hx hb dX9_figures_107 (by decide) (fun c32 => ?_) (fun c32 => ?_)
            · have hfg := xfg_1 (s := σ1) (len := tn σ0) (n := n) (p := tn σ22) (t := σ23) (k := k) hok9 (by rw [← hfn]; refine ⟨by omega, ?_⟩; first | (rw [if_neg (c := n - 1 ≤ k) (by omega)]; assumption) | (rw [if_pos (c := n - 1 ≤ k) (by omega)]; assumption))
              rw [← hfn] at hfg
              refine lv_aload_n hx hb dX9_figures_112 rfl (lv_at hl 0 rfl) ?_
              refine x_get hx hb hts iwX9_figures_X9 hown hM 0 0 rfl rfl rfl 23 (by decide) (hts _ lkX9_figures_67) (fun _ h => h) rfl dX9_figures_113 ?_
              refine lv_iload_n hx hb dX9_figures_116 rfl (lv_at hl 2 rfl) ?_
              refine lv_iload hx hb dX9_figures_117 (lv_at hl 4 rfl) ?_
              refine x_iast hx hb hM 0 20 0 (f := (xfg σ1 (tn σ0) n (tn σ22) σ23 k).2.2) rfl rfl rfl (t := k) (x := nI (xval σ1 (tn σ0) (xfg σ1 (tn σ0) n (tn σ22) σ23 k).2.1 f)) (by omega) (by decide) [w9 q ad σ0 σ1 σ2 σ3 σ4 σ5 σ6 σ7 σ8 σ9 σ10 σ11 σ12 σ13 σ14 σ15 σ16 σ17 σ18 σ19 σ20 σ21 (nI ((xfg σ1 (tn σ0) n (tn σ22) σ23 k).2.1 + f)) (upd (xfg σ1 (tn σ0) n (tn σ22) σ23 k).2.2 k (nI (xval σ1 (tn σ0) (xfg σ1 (tn σ0) n (tn σ22) σ23 k).2.1 f))) σ24 σ25 σ26 σ27 σ28 σ29 σ30] rfl dX9_figures_119 (fun H locs hM => ?_)
              refine lv_aload_n hx hb dX9_figures_120 rfl (lv_at hl 0 rfl) ?_
              refine lv_dup hx hb dX9_figures_121 rfl ?_
              refine x_get hx hb hts iwX9_figures_X9 hown hM 0 0 rfl rfl rfl 22 (by decide) (hts _ lkX9_figures_112) (fun _ h => h) rfl dX9_figures_122 ?_
              refine lv_iconst (v := nI 1) hx hb dX9_figures_125 (by decide) ?_
              refine x_iadd (x := (xfg σ1 (tn σ0) n (tn σ22) σ23 k).2.1 + f) (y := 1) hx hb dX9_figures_126 ?_
              refine x_put hx hb hts iwX9_figures_X9 tyX9 tyX9_ok nmX9 hown hM 0 0 rfl rfl rfl 22 (by decide) (hts _ lkX9_figures_112) (fun _ h => h) rfl (ty := .int) (by decide +kernel) rfl rfl (Nat.le_of_ble_eq_true rfl) [w9 q ad σ0 σ1 σ2 σ3 σ4 σ5 σ6 σ7 σ8 σ9 σ10 σ11 σ12 σ13 σ14 σ15 σ16 σ17 σ18 σ19 σ20 σ21 (nI ((xfg σ1 (tn σ0) n (tn σ22) σ23 k).2.1 + f + 1)) (upd (xfg σ1 (tn σ0) n (tn σ22) σ23 k).2.2 k (nI (xval σ1 (tn σ0) (xfg σ1 (tn σ0) n (tn σ22) σ23 k).2.1 f))) σ24 σ25 σ26 σ27 σ28 σ29 σ30] rfl dX9_figures_127 (fun H locs hM => ?_)
              refine lv_iinc (v := nI (k + 1)) (lv' := [(2, .int (nI (k + 1))), (0, .ref (ad 0)), (1, .int (nI n)), (3, .int (nI f)), (4, .int (nI (xval σ1 (tn σ0) (xfg σ1 (tn σ0) n (tn σ22) σ23 k).2.1 f)))]) hx hb dX9_figures_130 hl (k := 2) rfl (x_inc _ 1) (by decide) rfl (fun ls hl => ?_)
              refine lv_goto (tgt := 2) hx hb dX9_figures_133 (by decide) ?_
              have e33 : ((nI ((xfg σ1 (tn σ0) n (tn σ22) σ23 k).2.1 + f + 1)) : Int32) = (nI (xfg σ1 (tn σ0) n (tn σ22) σ23 (k + 1)).2.1) := by (rw [hfg])
              have hM : xM D (TY q) [w9 q ad σ0 σ1 σ2 σ3 σ4 σ5 σ6 σ7 σ8 σ9 σ10 σ11 σ12 σ13 σ14 σ15 σ16 σ17 σ18 σ19 σ20 σ21 (nI (xfg σ1 (tn σ0) n (tn σ22) σ23 (k + 1)).2.1) (upd (xfg σ1 (tn σ0) n (tn σ22) σ23 k).2.2 k (nI (xval σ1 (tn σ0) (xfg σ1 (tn σ0) n (tn σ22) σ23 k).2.1 f))) σ24 σ25 σ26 σ27 σ28 σ29 σ30] A s.heap s H locs := Eq.mp (congrArg (fun z9 => xM D (TY q) [w9 q ad σ0 σ1 σ2 σ3 σ4 σ5 σ6 σ7 σ8 σ9 σ10 σ11 σ12 σ13 σ14 σ15 σ16 σ17 σ18 σ19 σ20 σ21 z9 (upd (xfg σ1 (tn σ0) n (tn σ22) σ23 k).2.2 k (nI (xval σ1 (tn σ0) (xfg σ1 (tn σ0) n (tn σ22) σ23 k).2.1 f))) σ24 σ25 σ26 σ27 σ28 σ29 σ30] A s.heap s H locs) e33) hM
              have e34 : ((upd (xfg σ1 (tn σ0) n (tn σ22) σ23 k).2.2 k (nI (xval σ1 (tn σ0) (xfg σ1 (tn σ0) n (tn σ22) σ23 k).2.1 f))) : Nat → Int32) = ((xfg σ1 (tn σ0) n (tn σ22) σ23 (k + 1)).2.2) := by (rw [hfg])
              have hM : xM D (TY q) [w9 q ad σ0 σ1 σ2 σ3 σ4 σ5 σ6 σ7 σ8 σ9 σ10 σ11 σ12 σ13 σ14 σ15 σ16 σ17 σ18 σ19 σ20 σ21 (nI (xfg σ1 (tn σ0) n (tn σ22) σ23 (k + 1)).2.1) (xfg σ1 (tn σ0) n (tn σ22) σ23 (k + 1)).2.2 σ24 σ25 σ26 σ27 σ28 σ29 σ30] A s.heap s H locs := Eq.mp (congrArg (fun z9 => xM D (TY q) [w9 q ad σ0 σ1 σ2 σ3 σ4 σ5 σ6 σ7 σ8 σ9 σ10 σ11 σ12 σ13 σ14 σ15 σ16 σ17 σ18 σ19 σ20 σ21 (nI (xfg σ1 (tn σ0) n (tn σ22) σ23 (k + 1)).2.1) z9 σ24 σ25 σ26 σ27 σ28 σ29 σ30] A s.heap s H locs) e34) hM
              have hl : lv_has ls 5 [(0, .ref (ad 0)), (1, .int (nI n)), (2, .int (nI (k + 1)))] := lv_sub hl [1, 2, 0] rfl
              exact ih4 (k + 1) (show n - (k + 1) < n - k from by omega) (show (k + 1) ≤ n ∧ (xfg σ1 (tn σ0) n (tn σ22) σ23 (k + 1)).1 = true from ⟨by omega, by rw [hfg]⟩) _ _ hM _ hl
            · have hfe := xfg_end (s := σ1) (len := tn σ0) (n := n) (p := tn σ22) (t := σ23) (k := k) (by omega) (xfg_0 hok9 (by rw [← hfn]; intro z; obtain ⟨z1, z2⟩ := z; first | omega | (rw [if_neg (c := n - 1 ≤ k) (by omega)] at z2; exact absurd z2 (by assumption)) | (rw [if_pos (c := n - 1 ≤ k) (by omega)] at z2; exact absurd z2 (by assumption))))
              refine lv_iconst (v := nI 0) hx hb dX9_figures_110 (by decide) ?_
              have e35 : ((nI ((xfg σ1 (tn σ0) n (tn σ22) σ23 k).2.1 + f)) : Int32) = (nI (xfg σ1 (tn σ0) n (tn σ22) σ23 n).2.1) := by (first | (rw [hfe, hfn]) | (rw [show k = n by omega]))
              have hM : xM D (TY q) [w9 q ad σ0 σ1 σ2 σ3 σ4 σ5 σ6 σ7 σ8 σ9 σ10 σ11 σ12 σ13 σ14 σ15 σ16 σ17 σ18 σ19 σ20 σ21 (nI (xfg σ1 (tn σ0) n (tn σ22) σ23 n).2.1) (xfg σ1 (tn σ0) n (tn σ22) σ23 k).2.2 σ24 σ25 σ26 σ27 σ28 σ29 σ30] A s.heap s H locs := Eq.mp (congrArg (fun z9 => xM D (TY q) [w9 q ad σ0 σ1 σ2 σ3 σ4 σ5 σ6 σ7 σ8 σ9 σ10 σ11 σ12 σ13 σ14 σ15 σ16 σ17 σ18 σ19 σ20 σ21 z9 (xfg σ1 (tn σ0) n (tn σ22) σ23 k).2.2 σ24 σ25 σ26 σ27 σ28 σ29 σ30] A s.heap s H locs) e35) hM
              have e36 : (((xfg σ1 (tn σ0) n (tn σ22) σ23 k).2.2) : Nat → Int32) = ((xfg σ1 (tn σ0) n (tn σ22) σ23 n).2.2) := by (first | (rw [hfe]) | (rw [show k = n by omega]))
              have hM : xM D (TY q) [w9 q ad σ0 σ1 σ2 σ3 σ4 σ5 σ6 σ7 σ8 σ9 σ10 σ11 σ12 σ13 σ14 σ15 σ16 σ17 σ18 σ19 σ20 σ21 (nI (xfg σ1 (tn σ0) n (tn σ22) σ23 n).2.1) (xfg σ1 (tn σ0) n (tn σ22) σ23 n).2.2 σ24 σ25 σ26 σ27 σ28 σ29 σ30] A s.heap s H locs := Eq.mp (congrArg (fun z9 => xM D (TY q) [w9 q ad σ0 σ1 σ2 σ3 σ4 σ5 σ6 σ7 σ8 σ9 σ10 σ11 σ12 σ13 σ14 σ15 σ16 σ17 σ18 σ19 σ20 σ21 (nI (xfg σ1 (tn σ0) n (tn σ22) σ23 n).2.1) z9 σ24 σ25 σ26 σ27 σ28 σ29 σ30] A s.heap s H locs) e36) hM
              exact x_zret hx hb hr hlocks () hM rfl (show nI 0 = zb ((xfg σ1 (tn σ0) n (tn σ22) σ23 n).1 = true) from by (rw [hfe]; rfl)) dX9_figures_111
          · refine lv_bipush (v := nI 44) hx hb dX9_figures_100 (by decide) ?_
            refine lv_goto (tgt := 107) hx hb dX9_figures_102 (by decide) ?_
            refine lv_icmp_eq (tgt := 112) hx hb dX9_figures_107 (by decide) (fun c37 => ?_) (fun c37 => ?_)
            · have hfg := xfg_1 (s := σ1) (len := tn σ0) (n := n) (p := tn σ22) (t := σ23) (k := k) hok9 (by rw [← hfn]; refine ⟨by omega, ?_⟩; first | (rw [if_neg (c := n - 1 ≤ k) (by omega)]; assumption) | (rw [if_pos (c := n - 1 ≤ k) (by omega)]; assumption))
              rw [← hfn] at hfg
              refine lv_aload_n hx hb dX9_figures_112 rfl (lv_at hl 0 rfl) ?_
              refine x_get hx hb hts iwX9_figures_X9 hown hM 0 0 rfl rfl rfl 23 (by decide) (hts _ lkX9_figures_67) (fun _ h => h) rfl dX9_figures_113 ?_
              refine lv_iload_n hx hb dX9_figures_116 rfl (lv_at hl 2 rfl) ?_
              refine lv_iload hx hb dX9_figures_117 (lv_at hl 4 rfl) ?_
              refine x_iast hx hb hM 0 20 0 (f := (xfg σ1 (tn σ0) n (tn σ22) σ23 k).2.2) rfl rfl rfl (t := k) (x := nI (xval σ1 (tn σ0) (xfg σ1 (tn σ0) n (tn σ22) σ23 k).2.1 f)) (by omega) (by decide) [w9 q ad σ0 σ1 σ2 σ3 σ4 σ5 σ6 σ7 σ8 σ9 σ10 σ11 σ12 σ13 σ14 σ15 σ16 σ17 σ18 σ19 σ20 σ21 (nI ((xfg σ1 (tn σ0) n (tn σ22) σ23 k).2.1 + f)) (upd (xfg σ1 (tn σ0) n (tn σ22) σ23 k).2.2 k (nI (xval σ1 (tn σ0) (xfg σ1 (tn σ0) n (tn σ22) σ23 k).2.1 f))) σ24 σ25 σ26 σ27 σ28 σ29 σ30] rfl dX9_figures_119 (fun H locs hM => ?_)
              refine lv_aload_n hx hb dX9_figures_120 rfl (lv_at hl 0 rfl) ?_
              refine lv_dup hx hb dX9_figures_121 rfl ?_
              refine x_get hx hb hts iwX9_figures_X9 hown hM 0 0 rfl rfl rfl 22 (by decide) (hts _ lkX9_figures_112) (fun _ h => h) rfl dX9_figures_122 ?_
              refine lv_iconst (v := nI 1) hx hb dX9_figures_125 (by decide) ?_
              refine x_iadd (x := (xfg σ1 (tn σ0) n (tn σ22) σ23 k).2.1 + f) (y := 1) hx hb dX9_figures_126 ?_
              refine x_put hx hb hts iwX9_figures_X9 tyX9 tyX9_ok nmX9 hown hM 0 0 rfl rfl rfl 22 (by decide) (hts _ lkX9_figures_112) (fun _ h => h) rfl (ty := .int) (by decide +kernel) rfl rfl (Nat.le_of_ble_eq_true rfl) [w9 q ad σ0 σ1 σ2 σ3 σ4 σ5 σ6 σ7 σ8 σ9 σ10 σ11 σ12 σ13 σ14 σ15 σ16 σ17 σ18 σ19 σ20 σ21 (nI ((xfg σ1 (tn σ0) n (tn σ22) σ23 k).2.1 + f + 1)) (upd (xfg σ1 (tn σ0) n (tn σ22) σ23 k).2.2 k (nI (xval σ1 (tn σ0) (xfg σ1 (tn σ0) n (tn σ22) σ23 k).2.1 f))) σ24 σ25 σ26 σ27 σ28 σ29 σ30] rfl dX9_figures_127 (fun H locs hM => ?_)
              refine lv_iinc (v := nI (k + 1)) (lv' := [(2, .int (nI (k + 1))), (0, .ref (ad 0)), (1, .int (nI n)), (3, .int (nI f)), (4, .int (nI (xval σ1 (tn σ0) (xfg σ1 (tn σ0) n (tn σ22) σ23 k).2.1 f)))]) hx hb dX9_figures_130 hl (k := 2) rfl (x_inc _ 1) (by decide) rfl (fun ls hl => ?_)
              refine lv_goto (tgt := 2) hx hb dX9_figures_133 (by decide) ?_
              have e38 : ((nI ((xfg σ1 (tn σ0) n (tn σ22) σ23 k).2.1 + f + 1)) : Int32) = (nI (xfg σ1 (tn σ0) n (tn σ22) σ23 (k + 1)).2.1) := by (rw [hfg])
              have hM : xM D (TY q) [w9 q ad σ0 σ1 σ2 σ3 σ4 σ5 σ6 σ7 σ8 σ9 σ10 σ11 σ12 σ13 σ14 σ15 σ16 σ17 σ18 σ19 σ20 σ21 (nI (xfg σ1 (tn σ0) n (tn σ22) σ23 (k + 1)).2.1) (upd (xfg σ1 (tn σ0) n (tn σ22) σ23 k).2.2 k (nI (xval σ1 (tn σ0) (xfg σ1 (tn σ0) n (tn σ22) σ23 k).2.1 f))) σ24 σ25 σ26 σ27 σ28 σ29 σ30] A s.heap s H locs := Eq.mp (congrArg (fun z9 => xM D (TY q) [w9 q ad σ0 σ1 σ2 σ3 σ4 σ5 σ6 σ7 σ8 σ9 σ10 σ11 σ12 σ13 σ14 σ15 σ16 σ17 σ18 σ19 σ20 σ21 z9 (upd (xfg σ1 (tn σ0) n (tn σ22) σ23 k).2.2 k (nI (xval σ1 (tn σ0) (xfg σ1 (tn σ0) n (tn σ22) σ23 k).2.1 f))) σ24 σ25 σ26 σ27 σ28 σ29 σ30] A s.heap s H locs) e38) hM
              have e39 : ((upd (xfg σ1 (tn σ0) n (tn σ22) σ23 k).2.2 k (nI (xval σ1 (tn σ0) (xfg σ1 (tn σ0) n (tn σ22) σ23 k).2.1 f))) : Nat → Int32) = ((xfg σ1 (tn σ0) n (tn σ22) σ23 (k + 1)).2.2) := by (rw [hfg])
              have hM : xM D (TY q) [w9 q ad σ0 σ1 σ2 σ3 σ4 σ5 σ6 σ7 σ8 σ9 σ10 σ11 σ12 σ13 σ14 σ15 σ16 σ17 σ18 σ19 σ20 σ21 (nI (xfg σ1 (tn σ0) n (tn σ22) σ23 (k + 1)).2.1) (xfg σ1 (tn σ0) n (tn σ22) σ23 (k + 1)).2.2 σ24 σ25 σ26 σ27 σ28 σ29 σ30] A s.heap s H locs := Eq.mp (congrArg (fun z9 => xM D (TY q) [w9 q ad σ0 σ1 σ2 σ3 σ4 σ5 σ6 σ7 σ8 σ9 σ10 σ11 σ12 σ13 σ14 σ15 σ16 σ17 σ18 σ19 σ20 σ21 (nI (xfg σ1 (tn σ0) n (tn σ22) σ23 (k + 1)).2.1) z9 σ24 σ25 σ26 σ27 σ28 σ29 σ30] A s.heap s H locs) e39) hM
              have hl : lv_has ls 5 [(0, .ref (ad 0)), (1, .int (nI n)), (2, .int (nI (k + 1)))] := lv_sub hl [1, 2, 0] rfl
              exact ih4 (k + 1) (show n - (k + 1) < n - k from by omega) (show (k + 1) ≤ n ∧ (xfg σ1 (tn σ0) n (tn σ22) σ23 (k + 1)).1 = true from ⟨by omega, by rw [hfg]⟩) _ _ hM _ hl
            · have hfe := xfg_end (s := σ1) (len := tn σ0) (n := n) (p := tn σ22) (t := σ23) (k := k) (by omega) (xfg_0 hok9 (by rw [← hfn]; intro z; obtain ⟨z1, z2⟩ := z; first | omega | (rw [if_neg (c := n - 1 ≤ k) (by omega)] at z2; exact absurd z2 (by assumption)) | (rw [if_pos (c := n - 1 ≤ k) (by omega)] at z2; exact absurd z2 (by assumption))))
              refine lv_iconst (v := nI 0) hx hb dX9_figures_110 (by decide) ?_
              have e40 : ((nI ((xfg σ1 (tn σ0) n (tn σ22) σ23 k).2.1 + f)) : Int32) = (nI (xfg σ1 (tn σ0) n (tn σ22) σ23 n).2.1) := by (first | (rw [hfe, hfn]) | (rw [show k = n by omega]))
              have hM : xM D (TY q) [w9 q ad σ0 σ1 σ2 σ3 σ4 σ5 σ6 σ7 σ8 σ9 σ10 σ11 σ12 σ13 σ14 σ15 σ16 σ17 σ18 σ19 σ20 σ21 (nI (xfg σ1 (tn σ0) n (tn σ22) σ23 n).2.1) (xfg σ1 (tn σ0) n (tn σ22) σ23 k).2.2 σ24 σ25 σ26 σ27 σ28 σ29 σ30] A s.heap s H locs := Eq.mp (congrArg (fun z9 => xM D (TY q) [w9 q ad σ0 σ1 σ2 σ3 σ4 σ5 σ6 σ7 σ8 σ9 σ10 σ11 σ12 σ13 σ14 σ15 σ16 σ17 σ18 σ19 σ20 σ21 z9 (xfg σ1 (tn σ0) n (tn σ22) σ23 k).2.2 σ24 σ25 σ26 σ27 σ28 σ29 σ30] A s.heap s H locs) e40) hM
              have e41 : (((xfg σ1 (tn σ0) n (tn σ22) σ23 k).2.2) : Nat → Int32) = ((xfg σ1 (tn σ0) n (tn σ22) σ23 n).2.2) := by (first | (rw [hfe]) | (rw [show k = n by omega]))
              have hM : xM D (TY q) [w9 q ad σ0 σ1 σ2 σ3 σ4 σ5 σ6 σ7 σ8 σ9 σ10 σ11 σ12 σ13 σ14 σ15 σ16 σ17 σ18 σ19 σ20 σ21 (nI (xfg σ1 (tn σ0) n (tn σ22) σ23 n).2.1) (xfg σ1 (tn σ0) n (tn σ22) σ23 n).2.2 σ24 σ25 σ26 σ27 σ28 σ29 σ30] A s.heap s H locs := Eq.mp (congrArg (fun z9 => xM D (TY q) [w9 q ad σ0 σ1 σ2 σ3 σ4 σ5 σ6 σ7 σ8 σ9 σ10 σ11 σ12 σ13 σ14 σ15 σ16 σ17 σ18 σ19 σ20 σ21 (nI (xfg σ1 (tn σ0) n (tn σ22) σ23 n).2.1) z9 σ24 σ25 σ26 σ27 σ28 σ29 σ30] A s.heap s H locs) e41) hM
              exact x_zret hx hb hr hlocks () hM rfl (show nI 0 = zb ((xfg σ1 (tn σ0) n (tn σ22) σ23 n).1 = true) from by (rw [hfe]; rfl)) dX9_figures_111
      · refine lv_bipush (v := nI 10) hx hb dX9_figures_38 (by decide) ?_
        refine lv_iload hx hb dX9_figures_40 (lv_at hl 4 rfl) ?_
        refine x_imul (x := 10) (y := xval σ1 (tn σ0) (xfg σ1 (tn σ0) n (tn σ22) σ23 k).2.1 f) hx hb dX9_figures_42 ?_
        refine lv_aload_n hx hb dX9_figures_43 rfl (lv_at hl 0 rfl) ?_
        refine lv_aload_n hx hb dX9_figures_44 rfl (lv_at hl 0 rfl) ?_
        refine x_get hx hb hts iwX9_figures_X9 hown hM 0 0 rfl rfl rfl 22 (by decide) (hts _ lkX9_figures_112) (fun _ h => h) rfl dX9_figures_45 ?_
        refine x_calli (bc := [w9 q ad σ0 σ1 σ2 σ3 σ4 σ5 σ6 σ7 σ8 σ9 σ10 σ11 σ12 σ13 σ14 σ15 σ16 σ17 σ18 σ19 σ20 σ21 (nI ((xfg σ1 (tn σ0) n (tn σ22) σ23 k).2.1 + f)) (xfg σ1 (tn σ0) n (tn σ22) σ23 k).2.2 σ24 σ25 σ26 σ27 σ28 σ29 σ30]) (br := []) hM [0] [] rfl rfl rfl (by decide) (x_runV (As := [.int (nI ((xfg σ1 (tn σ0) n (tn σ22) σ23 k).2.1 + f))]) (rest := [.int (nI (10 * (xval σ1 (tn σ0) (xfg σ1 (tn σ0) n (tn σ22) σ23 k).2.1 f)))]) hfix (c_X9_letterAt l D q ad σ0 σ1 σ2 σ3 σ4 σ5 σ6 σ7 σ8 σ9 σ10 σ11 σ12 σ13 σ14 σ15 σ16 σ17 σ18 σ19 σ20 σ21 (nI ((xfg σ1 (tn σ0) n (tn σ22) σ23 k).2.1 + f)) (xfg σ1 (tn σ0) n (tn σ22) σ23 k).2.2 σ24 σ25 σ26 σ27 σ28 σ29 σ30 ((xfg σ1 (tn σ0) n (tn σ22) σ23 k).2.1 + f) (by omega) hL) (cwV 1 hts gX9_figures_X9_letterAt rfl rfl rfl (by decide +kernel) ⟨Nat.le_of_ble_eq_true rfl, Nat.le_of_ble_eq_true rfl⟩) hM [0] rfl rfl 0 0 rfl rfl rfl rfl rfl hl.1 rfl (Nat.le_of_ble_eq_true rfl) dX9_figures_48 ⟨Nat.le_of_ble_eq_true rfl, Nat.le_of_ble_eq_true rfl⟩) (fun r u H locs hq hM => ?_)
        subst hq
        have hM : xM D (TY q) [w9 q ad σ0 σ1 σ2 σ3 σ4 σ5 σ6 σ7 σ8 σ9 σ10 σ11 σ12 σ13 σ14 σ15 σ16 σ17 σ18 σ19 σ20 σ21 (nI ((xfg σ1 (tn σ0) n (tn σ22) σ23 k).2.1 + f)) (xfg σ1 (tn σ0) n (tn σ22) σ23 k).2.2 σ24 σ25 σ26 σ27 σ28 σ29 σ30] A s.heap s H locs := hM
        refine x_cast (y := nI (tn (xlet σ1 (tn σ0) ((xfg σ1 (tn σ0) n (tn σ22) σ23 k).2.1 + f)))) hle9.1 ?_
        refine x_iadd (x := 10 * (xval σ1 (tn σ0) (xfg σ1 (tn σ0) n (tn σ22) σ23 k).2.1 f)) (y := tn (xlet σ1 (tn σ0) ((xfg σ1 (tn σ0) n (tn σ22) σ23 k).2.1 + f))) hx hb dX9_figures_51 ?_
        refine lv_bipush (v := nI 48) hx hb dX9_figures_52 (by decide) ?_
        refine x_isub (x := 10 * (xval σ1 (tn σ0) (xfg σ1 (tn σ0) n (tn σ22) σ23 k).2.1 f) + (tn (xlet σ1 (tn σ0) ((xfg σ1 (tn σ0) n (tn σ22) σ23 k).2.1 + f)))) (y := 48) hx hb (by omega) dX9_figures_54 ?_
        refine lv_istore (lv' := [(4, .int (nI ((10 * (xval σ1 (tn σ0) (xfg σ1 (tn σ0) n (tn σ22) σ23 k).2.1 f) + (tn (xlet σ1 (tn σ0) ((xfg σ1 (tn σ0) n (tn σ22) σ23 k).2.1 + f)))) - 48))), (0, .ref (ad 0)), (1, .int (nI n)), (2, .int (nI k)), (3, .int (nI f))]) hx hb dX9_figures_55 hl (by decide) rfl (fun ls hl => ?_)
        refine lv_iinc (v := nI (f + 1)) (lv' := [(3, .int (nI (f + 1))), (4, .int (nI ((10 * (xval σ1 (tn σ0) (xfg σ1 (tn σ0) n (tn σ22) σ23 k).2.1 f) + (tn (xlet σ1 (tn σ0) ((xfg σ1 (tn σ0) n (tn σ22) σ23 k).2.1 + f)))) - 48))), (0, .ref (ad 0)), (1, .int (nI n)), (2, .int (nI k))]) hx hb dX9_figures_57 hl (k := 4) rfl (x_inc _ 1) (by decide) rfl (fun ls hl => ?_)
        refine lv_aload_n hx hb dX9_figures_60 rfl (lv_at hl 2 rfl) ?_
        refine lv_dup hx hb dX9_figures_61 rfl ?_
        refine x_get hx hb hts iwX9_figures_X9 hown hM 0 0 rfl rfl rfl 22 (by decide) (hts _ lkX9_figures_112) (fun _ h => h) rfl dX9_figures_62 ?_
        refine lv_iconst (v := nI 1) hx hb dX9_figures_65 (by decide) ?_
        refine x_iadd (x := (xfg σ1 (tn σ0) n (tn σ22) σ23 k).2.1 + f) (y := 1) hx hb dX9_figures_66 ?_
        refine x_put hx hb hts iwX9_figures_X9 tyX9 tyX9_ok nmX9 hown hM 0 0 rfl rfl rfl 22 (by decide) (hts _ lkX9_figures_112) (fun _ h => h) rfl (ty := .int) (by decide +kernel) rfl rfl (Nat.le_of_ble_eq_true rfl) [w9 q ad σ0 σ1 σ2 σ3 σ4 σ5 σ6 σ7 σ8 σ9 σ10 σ11 σ12 σ13 σ14 σ15 σ16 σ17 σ18 σ19 σ20 σ21 (nI ((xfg σ1 (tn σ0) n (tn σ22) σ23 k).2.1 + f + 1)) (xfg σ1 (tn σ0) n (tn σ22) σ23 k).2.2 σ24 σ25 σ26 σ27 σ28 σ29 σ30] rfl dX9_figures_67 (fun H locs hM => ?_)
        refine lv_goto (tgt := 12) hx hb dX9_figures_70 (by decide) ?_
        have e42 : ((nI ((xfg σ1 (tn σ0) n (tn σ22) σ23 k).2.1 + f + 1)) : Int32) = (nI ((xfg σ1 (tn σ0) n (tn σ22) σ23 k).2.1 + (f + 1))) := by rfl
        have hM : xM D (TY q) [w9 q ad σ0 σ1 σ2 σ3 σ4 σ5 σ6 σ7 σ8 σ9 σ10 σ11 σ12 σ13 σ14 σ15 σ16 σ17 σ18 σ19 σ20 σ21 (nI ((xfg σ1 (tn σ0) n (tn σ22) σ23 k).2.1 + (f + 1))) (xfg σ1 (tn σ0) n (tn σ22) σ23 k).2.2 σ24 σ25 σ26 σ27 σ28 σ29 σ30] A s.heap s H locs := Eq.mp (congrArg (fun z9 => xM D (TY q) [w9 q ad σ0 σ1 σ2 σ3 σ4 σ5 σ6 σ7 σ8 σ9 σ10 σ11 σ12 σ13 σ14 σ15 σ16 σ17 σ18 σ19 σ20 σ21 z9 (xfg σ1 (tn σ0) n (tn σ22) σ23 k).2.2 σ24 σ25 σ26 σ27 σ28 σ29 σ30] A s.heap s H locs) e42) hM
        have hl : lv_has ls 5 [(0, .ref (ad 0)), (1, .int (nI n)), (2, .int (nI k)), (3, .int (nI (f + 1))), (4, .int (nI ((10 * (xval σ1 (tn σ0) (xfg σ1 (tn σ0) n (tn σ22) σ23 k).2.1 f) + (tn (xlet σ1 (tn σ0) ((xfg σ1 (tn σ0) n (tn σ22) σ23 k).2.1 + f)))) - 48)))] := lv_sub hl [2, 3, 4, 0, 1] rfl
        exact ih10 (f + 1) (show 3 - (f + 1) < 3 - f from by omega) (show (f + 1) ≤ 3 ∧ ∀ i, i < (f + 1) → xdg σ1 (tn σ0) ((xfg σ1 (tn σ0) n (tn σ22) σ23 k).2.1 + i) from ⟨by omega, fun i hi => (Nat.lt_succ_iff_lt_or_eq.mp hi).elim (hdg9 i) (fun z => by rw [z]; exact hd9)⟩) _ _ hM _ hl
