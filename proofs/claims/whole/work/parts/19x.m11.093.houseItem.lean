set_option maxRecDepth 20000 in
theorem ggX9_houseItem_X9_figures : GoodIn wsX9_houseItem wsX9_figures := goodIn_r _ [8, 9, 10, 11, 12, 2, 13, 14, 15, 7, 16, 17, 18, 19, 20, 21, 22, 23, 24, 25, 26, 27, 28, 29, 30, 31, 32, 33, 34, 35, 36, 37, 38, 39, 40, 41, 42, 43, 44, 45, 46, 47, 48, 49, 50, 51, 52] (by decide +kernel) (by decide +kernel)
set_option maxRecDepth 20000 in
theorem gX9_houseItem_X9_figures : GoodIn wsX9_houseItem (wsV RX9 125 RX9 yX9_figures wsX9_figures) := goodIn_app (goodIn_of _ (by decide +kernel)) ggX9_houseItem_X9_figures
theorem dX9_houseItem_0 : decode cX9_houseItem 0 = .ok (.aload_n 0, 1) := by decide +kernel
theorem dX9_houseItem_1 : decode cX9_houseItem 1 = .ok (.iconst 1, 1) := by decide +kernel
theorem dX9_houseItem_2 : decode cX9_houseItem 2 = .ok (.invokevirtual 125, 3) := by decide +kernel
theorem dX9_houseItem_5 : decode cX9_houseItem 5 = .ok (.ifCond .eq 24, 3) := by decide +kernel
theorem dX9_houseItem_8 : decode cX9_houseItem 8 = .ok (.aload_n 0, 1) := by decide +kernel
theorem dX9_houseItem_9 : decode cX9_houseItem 9 = .ok (.getfield 22, 3) := by decide +kernel
theorem dX9_houseItem_12 : decode cX9_houseItem 12 = .ok (.iconst 1, 1) := by decide +kernel
theorem dX9_houseItem_13 : decode cX9_houseItem 13 = .ok (.iaload, 1) := by decide +kernel
theorem dX9_houseItem_14 : decode cX9_houseItem 14 = .ok (.iconst 5, 1) := by decide +kernel
theorem dX9_houseItem_15 : decode cX9_houseItem 15 = .ok (.if_icmp .eq 14, 3) := by decide +kernel
theorem dX9_houseItem_18 : decode cX9_houseItem 18 = .ok (.aload_n 0, 1) := by decide +kernel
theorem dX9_houseItem_19 : decode cX9_houseItem 19 = .ok (.getfield 67, 3) := by decide +kernel
theorem dX9_houseItem_22 : decode cX9_houseItem 22 = .ok (.iconst 0, 1) := by decide +kernel
theorem dX9_houseItem_23 : decode cX9_houseItem 23 = .ok (.iaload, 1) := by decide +kernel
theorem dX9_houseItem_24 : decode cX9_houseItem 24 = .ok (.bipush 60, 2) := by decide +kernel
theorem dX9_houseItem_26 : decode cX9_houseItem 26 = .ok (.if_icmp .le 5, 3) := by decide +kernel
theorem dX9_houseItem_29 : decode cX9_houseItem 29 = .ok (.iconst 0, 1) := by decide +kernel
theorem dX9_houseItem_30 : decode cX9_houseItem 30 = .ok (.ireturn, 1) := by decide +kernel
theorem dX9_houseItem_31 : decode cX9_houseItem 31 = .ok (.aload_n 0, 1) := by decide +kernel
theorem dX9_houseItem_32 : decode cX9_houseItem 32 = .ok (.getfield 25, 3) := by decide +kernel
theorem dX9_houseItem_35 : decode cX9_houseItem 35 = .ok (.iconst 5, 1) := by decide +kernel
theorem dX9_houseItem_36 : decode cX9_houseItem 36 = .ok (.aload_n 0, 1) := by decide +kernel
theorem dX9_houseItem_37 : decode cX9_houseItem 37 = .ok (.getfield 22, 3) := by decide +kernel
theorem dX9_houseItem_40 : decode cX9_houseItem 40 = .ok (.iconst 1, 1) := by decide +kernel
theorem dX9_houseItem_41 : decode cX9_houseItem 41 = .ok (.iaload, 1) := by decide +kernel
theorem dX9_houseItem_42 : decode cX9_houseItem 42 = .ok (.iadd, 1) := by decide +kernel
theorem dX9_houseItem_43 : decode cX9_houseItem 43 = .ok (.aload_n 0, 1) := by decide +kernel
theorem dX9_houseItem_44 : decode cX9_houseItem 44 = .ok (.getfield 67, 3) := by decide +kernel
theorem dX9_houseItem_47 : decode cX9_houseItem 47 = .ok (.iconst 0, 1) := by decide +kernel
theorem dX9_houseItem_48 : decode cX9_houseItem 48 = .ok (.iaload, 1) := by decide +kernel
theorem dX9_houseItem_49 : decode cX9_houseItem 49 = .ok (.iastore, 1) := by decide +kernel
theorem dX9_houseItem_50 : decode cX9_houseItem 50 = .ok (.aload_n 0, 1) := by decide +kernel
theorem dX9_houseItem_51 : decode cX9_houseItem 51 = .ok (.getfield 22, 3) := by decide +kernel
theorem dX9_houseItem_54 : decode cX9_houseItem 54 = .ok (.iconst 1, 1) := by decide +kernel
theorem dX9_houseItem_55 : decode cX9_houseItem 55 = .ok (.dup2, 1) := by decide +kernel
theorem dX9_houseItem_56 : decode cX9_houseItem 56 = .ok (.iaload, 1) := by decide +kernel
theorem dX9_houseItem_57 : decode cX9_houseItem 57 = .ok (.iconst 1, 1) := by decide +kernel
theorem dX9_houseItem_58 : decode cX9_houseItem 58 = .ok (.iadd, 1) := by decide +kernel
theorem dX9_houseItem_59 : decode cX9_houseItem 59 = .ok (.iastore, 1) := by decide +kernel
theorem dX9_houseItem_60 : decode cX9_houseItem 60 = .ok (.iconst 1, 1) := by decide +kernel
theorem dX9_houseItem_61 : decode cX9_houseItem 61 = .ok (.ireturn, 1) := by decide +kernel
theorem lkX9_houseItem_22 : Cond.fieldLink RX9 22 "LeftAtFiveModel" "houses" "[I" ∈ wsX9_houseItem := by decide +kernel
theorem lkX9_houseItem_25 : Cond.fieldLink RX9 25 "LeftAtFiveModel" "spots" "[I" ∈ wsX9_houseItem := by decide +kernel
theorem lkX9_houseItem_67 : Cond.fieldLink RX9 67 "LeftAtFiveModel" "told" "[I" ∈ wsX9_houseItem := by decide +kernel
theorem iwX9_houseItem_X9 : ∀ w ∈ wsX90, w ∈ wsX9_houseItem := by decide +kernel
set_option maxHeartbeats 1000000 in
set_option maxRecDepth 100000 in
theorem c_X9_houseItem (l : Launch) (D : va_G) (q : Nat → ClassId) (ad : Nat → Nat) (σ0 : Int32) (σ1 : Nat → Int32) (σ2 : Nat → Int32) (σ3 : Nat → Int32) (σ4 : Nat → Int32) (σ5 : Nat → Int32) (σ6 : Nat → Int32) (σ7 : Nat → Int32) (σ8 : Nat → Int32) (σ9 : Nat → Int32) (σ10 : Nat → Int32) (σ11 : Nat → Int32) (σ12 : Nat → Int32) (σ13 : Nat → Int32) (σ14 : Nat → Int32) (σ15 : Nat → Int32) (σ16 : Nat → Int32) (σ17 : Nat → Int32) (σ18 : Nat → Int32) (σ19 : Nat → Int32) (σ20 : Int32) (σ21 : Int32) (σ22 : Int32) (σ23 : Nat → Int32) (σ24 : Int32) (σ25 : Int32) (σ26 : Nat → Int32) (σ27 : Nat → Int32) (σ28 : Nat → Int32) (σ29 : Nat → Int32) (σ30 : Nat → Int32) (S : Nat → Nat → Int32) (sp : Nat) (tt : Nat → Int32) (hL : σ0 = nI (tn σ0) ∧ tn σ0 ≤ 200) (hS : okS S) (hs3 : sp ≤ 300) : xC l yX9_houseItem wsX9_houseItem ({ frames := 2, cells := 0, slots := 0, locals := 49 }) D (TY q) [w9 q ad σ0 σ1 (S 2) (S 3) (S 4) (S 5) (S 6) (S 7) (S 8) (S 9) (S 10) (S 11) (S 12) (S 13) (S 14) (S 15) (S 16) (S 17) (S 18) σ19 σ20 σ21 (nI sp) tt σ24 σ25 σ26 σ27 σ28 σ29 σ30] [.ref (ad 0)] (xQi D (TY q) (fun (r : Int32) (_ : Unit) => r = zb ((xHouseR S (xfg σ1 (tn σ0) 1 sp tt 1)).1 = true)) (fun _ => [w9 q ad σ0 σ1 (S 2) (S 3) (S 4) ((xHouseR S (xfg σ1 (tn σ0) 1 sp tt 1)).2.1 5) ((xHouseR S (xfg σ1 (tn σ0) 1 sp tt 1)).2.1 6) (S 7) (S 8) (S 9) (S 10) (S 11) (S 12) (S 13) (S 14) (S 15) (S 16) (S 17) (S 18) σ19 σ20 σ21 (nI (xHouseR S (xfg σ1 (tn σ0) 1 sp tt 1)).2.2.1) (xHouseR S (xfg σ1 (tn σ0) 1 sp tt 1)).2.2.2 σ24 σ25 σ26 σ27 σ28 σ29 σ30])) 0 0 := by
  refine x_enter (cc := cX9_houseItem) (maxL := 1) (ret := (some .boolean)) (by decide) rfl (Nat.le_of_ble_eq_true rfl) ?_
  intro p e s m below meth c A ls H locs hfix hr hlocks hinit hM hl
  obtain ⟨hx, hb, hml, hown, hts⟩ := id hfix
  have hl : lv_has ls 1 [(0, .ref (ad 0))] := hl
  have hL2 := hL.2
  have hs2 := hS.1.2
  have hs5 := hS.2.1.2
  have hs8 := hS.2.2.1.2
  have hs12 := hS.2.2.2.1.2
  have hs15 := hS.2.2.2.2.2
  refine lv_aload_n hx hb dX9_houseItem_0 rfl (lv_at hl 0 rfl) ?_
  refine lv_iconst (v := nI 1) hx hb dX9_houseItem_1 (by decide) ?_
  refine x_calli (bc := [w9 q ad σ0 σ1 (S 2) (S 3) (S 4) (S 5) (S 6) (S 7) (S 8) (S 9) (S 10) (S 11) (S 12) (S 13) (S 14) (S 15) (S 16) (S 17) (S 18) σ19 σ20 σ21 (nI sp) tt σ24 σ25 σ26 σ27 σ28 σ29 σ30]) (br := []) hM [0] [] rfl rfl rfl (by decide) (x_runV (As := [.int (nI 1)]) (rest := []) hfix (c_X9_figuresP l D q ad σ0 σ1 (S 2) (S 3) (S 4) (S 5) (S 6) (S 7) (S 8) (S 9) (S 10) (S 11) (S 12) (S 13) (S 14) (S 15) (S 16) (S 17) (S 18) σ19 σ20 σ21 (nI sp) tt σ24 σ25 σ26 σ27 σ28 σ29 σ30 sp tt 1 (by omega) hL (by omega)) (cwV 1 hts gX9_houseItem_X9_figures rfl rfl rfl (by decide +kernel) ⟨Nat.le_of_ble_eq_true rfl, Nat.le_of_ble_eq_true rfl⟩) hM [0] rfl rfl 0 0 rfl rfl rfl rfl rfl hl.1 rfl (Nat.le_of_ble_eq_true rfl) dX9_houseItem_2 ⟨Nat.le_of_ble_eq_true rfl, Nat.le_of_ble_eq_true rfl⟩) (fun r u H locs hq hM => ?_)
  subst hq
  have hM : xM D (TY q) [w9 q ad σ0 σ1 (S 2) (S 3) (S 4) (S 5) (S 6) (S 7) (S 8) (S 9) (S 10) (S 11) (S 12) (S 13) (S 14) (S 15) (S 16) (S 17) (S 18) σ19 σ20 σ21 (nI (xfg σ1 (tn σ0) 1 sp tt 1).2.1) (xfg σ1 (tn σ0) 1 sp tt 1).2.2 σ24 σ25 σ26 σ27 σ28 σ29 σ30] A s.heap s H locs := hM
  refine x_ifz_eq (P := (xfg σ1 (tn σ0) 1 sp tt 1).1 = true) (tgt := 29) hx hb dX9_houseItem_5 (by decide) (fun c1 => ?_) (fun c1 => ?_)
  · have hit : xHouseR S (xfg σ1 (tn σ0) 1 sp tt 1) = (false, S, (xfg σ1 (tn σ0) 1 sp tt 1).2.1, (xfg σ1 (tn σ0) 1 sp tt 1).2.2) := if_neg (by intro z; obtain ⟨z1, z2⟩ := z; first | exact absurd z1 (by assumption) | omega)
    refine lv_iconst (v := nI 0) hx hb dX9_houseItem_29 (by decide) ?_
    have e2 : ((S 5) : Nat → Int32) = ((xHouseR S (xfg σ1 (tn σ0) 1 sp tt 1)).2.1 5) := by (first | (rw [hit]; rfl) | (rw [hit]; done) | (rw [hit]))
    have hM : xM D (TY q) [w9 q ad σ0 σ1 (S 2) (S 3) (S 4) ((xHouseR S (xfg σ1 (tn σ0) 1 sp tt 1)).2.1 5) (S 6) (S 7) (S 8) (S 9) (S 10) (S 11) (S 12) (S 13) (S 14) (S 15) (S 16) (S 17) (S 18) σ19 σ20 σ21 (nI (xfg σ1 (tn σ0) 1 sp tt 1).2.1) (xfg σ1 (tn σ0) 1 sp tt 1).2.2 σ24 σ25 σ26 σ27 σ28 σ29 σ30] A s.heap s H locs := Eq.mp (congrArg (fun z9 => xM D (TY q) [w9 q ad σ0 σ1 (S 2) (S 3) (S 4) z9 (S 6) (S 7) (S 8) (S 9) (S 10) (S 11) (S 12) (S 13) (S 14) (S 15) (S 16) (S 17) (S 18) σ19 σ20 σ21 (nI (xfg σ1 (tn σ0) 1 sp tt 1).2.1) (xfg σ1 (tn σ0) 1 sp tt 1).2.2 σ24 σ25 σ26 σ27 σ28 σ29 σ30] A s.heap s H locs) e2) hM
    have e3 : ((S 6) : Nat → Int32) = ((xHouseR S (xfg σ1 (tn σ0) 1 sp tt 1)).2.1 6) := by (first | (rw [hit]; rfl) | (rw [hit]; done) | (rw [hit]))
    have hM : xM D (TY q) [w9 q ad σ0 σ1 (S 2) (S 3) (S 4) ((xHouseR S (xfg σ1 (tn σ0) 1 sp tt 1)).2.1 5) ((xHouseR S (xfg σ1 (tn σ0) 1 sp tt 1)).2.1 6) (S 7) (S 8) (S 9) (S 10) (S 11) (S 12) (S 13) (S 14) (S 15) (S 16) (S 17) (S 18) σ19 σ20 σ21 (nI (xfg σ1 (tn σ0) 1 sp tt 1).2.1) (xfg σ1 (tn σ0) 1 sp tt 1).2.2 σ24 σ25 σ26 σ27 σ28 σ29 σ30] A s.heap s H locs := Eq.mp (congrArg (fun z9 => xM D (TY q) [w9 q ad σ0 σ1 (S 2) (S 3) (S 4) ((xHouseR S (xfg σ1 (tn σ0) 1 sp tt 1)).2.1 5) z9 (S 7) (S 8) (S 9) (S 10) (S 11) (S 12) (S 13) (S 14) (S 15) (S 16) (S 17) (S 18) σ19 σ20 σ21 (nI (xfg σ1 (tn σ0) 1 sp tt 1).2.1) (xfg σ1 (tn σ0) 1 sp tt 1).2.2 σ24 σ25 σ26 σ27 σ28 σ29 σ30] A s.heap s H locs) e3) hM
    have e4 : ((nI (xfg σ1 (tn σ0) 1 sp tt 1).2.1) : Int32) = (nI (xHouseR S (xfg σ1 (tn σ0) 1 sp tt 1)).2.2.1) := by (first | (rw [hit]; rfl) | (rw [hit]; done) | (rw [hit]))
    have hM : xM D (TY q) [w9 q ad σ0 σ1 (S 2) (S 3) (S 4) ((xHouseR S (xfg σ1 (tn σ0) 1 sp tt 1)).2.1 5) ((xHouseR S (xfg σ1 (tn σ0) 1 sp tt 1)).2.1 6) (S 7) (S 8) (S 9) (S 10) (S 11) (S 12) (S 13) (S 14) (S 15) (S 16) (S 17) (S 18) σ19 σ20 σ21 (nI (xHouseR S (xfg σ1 (tn σ0) 1 sp tt 1)).2.2.1) (xfg σ1 (tn σ0) 1 sp tt 1).2.2 σ24 σ25 σ26 σ27 σ28 σ29 σ30] A s.heap s H locs := Eq.mp (congrArg (fun z9 => xM D (TY q) [w9 q ad σ0 σ1 (S 2) (S 3) (S 4) ((xHouseR S (xfg σ1 (tn σ0) 1 sp tt 1)).2.1 5) ((xHouseR S (xfg σ1 (tn σ0) 1 sp tt 1)).2.1 6) (S 7) (S 8) (S 9) (S 10) (S 11) (S 12) (S 13) (S 14) (S 15) (S 16) (S 17) (S 18) σ19 σ20 σ21 z9 (xfg σ1 (tn σ0) 1 sp tt 1).2.2 σ24 σ25 σ26 σ27 σ28 σ29 σ30] A s.heap s H locs) e4) hM
    have e5 : (((xfg σ1 (tn σ0) 1 sp tt 1).2.2) : Nat → Int32) = ((xHouseR S (xfg σ1 (tn σ0) 1 sp tt 1)).2.2.2) := by (first | (rw [hit]; rfl) | (rw [hit]; done) | (rw [hit]))
    have hM : xM D (TY q) [w9 q ad σ0 σ1 (S 2) (S 3) (S 4) ((xHouseR S (xfg σ1 (tn σ0) 1 sp tt 1)).2.1 5) ((xHouseR S (xfg σ1 (tn σ0) 1 sp tt 1)).2.1 6) (S 7) (S 8) (S 9) (S 10) (S 11) (S 12) (S 13) (S 14) (S 15) (S 16) (S 17) (S 18) σ19 σ20 σ21 (nI (xHouseR S (xfg σ1 (tn σ0) 1 sp tt 1)).2.2.1) (xHouseR S (xfg σ1 (tn σ0) 1 sp tt 1)).2.2.2 σ24 σ25 σ26 σ27 σ28 σ29 σ30] A s.heap s H locs := Eq.mp (congrArg (fun z9 => xM D (TY q) [w9 q ad σ0 σ1 (S 2) (S 3) (S 4) ((xHouseR S (xfg σ1 (tn σ0) 1 sp tt 1)).2.1 5) ((xHouseR S (xfg σ1 (tn σ0) 1 sp tt 1)).2.1 6) (S 7) (S 8) (S 9) (S 10) (S 11) (S 12) (S 13) (S 14) (S 15) (S 16) (S 17) (S 18) σ19 σ20 σ21 (nI (xHouseR S (xfg σ1 (tn σ0) 1 sp tt 1)).2.2.1) z9 σ24 σ25 σ26 σ27 σ28 σ29 σ30] A s.heap s H locs) e5) hM
    exact x_zret hx hb hr hlocks () hM rfl (show nI 0 = zb ((xHouseR S (xfg σ1 (tn σ0) 1 sp tt 1)).1 = true) from by (rw [hit]; first | exact zb_t' rfl | exact zb_f' Bool.false_ne_true)) dX9_houseItem_30
  · have hT0 : (xfg σ1 (tn σ0) 1 sp tt 1).1 = true := by assumption
    have hT := xfg_told (s := σ1) (len := tn σ0) (n := 1) (p := sp) (t := tt) 1 hT0
    have hT0b := (hT 0 (by omega)).2
    refine lv_aload_n hx hb dX9_houseItem_8 rfl (lv_at hl 0 rfl) ?_
    refine x_get hx hb hts iwX9_houseItem_X9 hown hM 0 0 rfl rfl rfl 5 (by decide) (hts _ lkX9_houseItem_22) (fun _ h => h) rfl dX9_houseItem_9 ?_
    refine lv_iconst (v := nI 1) hx hb dX9_houseItem_12 (by decide) ?_
    refine x_iald hx hb hM 0 5 0 (f := S 5) rfl rfl rfl (t := 1) (by omega) (by decide) dX9_houseItem_13 ?_
    refine x_cast (y := nI (tn (S 5 1))) hS.2.1.1 ?_
    refine lv_iconst (v := nI 5) hx hb dX9_houseItem_14 (by decide) ?_
    refine x_icmp_eq (x := tn (S 5 1)) (y := 5) (tgt := 29) hx hb (by omega) (by omega) dX9_houseItem_15 (by decide) (fun c6 => ?_) (fun c6 => ?_)
    · have hit : xHouseR S (xfg σ1 (tn σ0) 1 sp tt 1) = (false, S, (xfg σ1 (tn σ0) 1 sp tt 1).2.1, (xfg σ1 (tn σ0) 1 sp tt 1).2.2) := if_neg (by intro z; obtain ⟨z1, z2⟩ := z; first | exact absurd z1 (by assumption) | omega)
      refine lv_iconst (v := nI 0) hx hb dX9_houseItem_29 (by decide) ?_
      have e7 : ((S 5) : Nat → Int32) = ((xHouseR S (xfg σ1 (tn σ0) 1 sp tt 1)).2.1 5) := by (first | (rw [hit]; rfl) | (rw [hit]; done) | (rw [hit]))
      have hM : xM D (TY q) [w9 q ad σ0 σ1 (S 2) (S 3) (S 4) ((xHouseR S (xfg σ1 (tn σ0) 1 sp tt 1)).2.1 5) (S 6) (S 7) (S 8) (S 9) (S 10) (S 11) (S 12) (S 13) (S 14) (S 15) (S 16) (S 17) (S 18) σ19 σ20 σ21 (nI (xfg σ1 (tn σ0) 1 sp tt 1).2.1) (xfg σ1 (tn σ0) 1 sp tt 1).2.2 σ24 σ25 σ26 σ27 σ28 σ29 σ30] A s.heap s H locs := Eq.mp (congrArg (fun z9 => xM D (TY q) [w9 q ad σ0 σ1 (S 2) (S 3) (S 4) z9 (S 6) (S 7) (S 8) (S 9) (S 10) (S 11) (S 12) (S 13) (S 14) (S 15) (S 16) (S 17) (S 18) σ19 σ20 σ21 (nI (xfg σ1 (tn σ0) 1 sp tt 1).2.1) (xfg σ1 (tn σ0) 1 sp tt 1).2.2 σ24 σ25 σ26 σ27 σ28 σ29 σ30] A s.heap s H locs) e7) hM
      have e8 : ((S 6) : Nat → Int32) = ((xHouseR S (xfg σ1 (tn σ0) 1 sp tt 1)).2.1 6) := by (first | (rw [hit]; rfl) | (rw [hit]; done) | (rw [hit]))
      have hM : xM D (TY q) [w9 q ad σ0 σ1 (S 2) (S 3) (S 4) ((xHouseR S (xfg σ1 (tn σ0) 1 sp tt 1)).2.1 5) ((xHouseR S (xfg σ1 (tn σ0) 1 sp tt 1)).2.1 6) (S 7) (S 8) (S 9) (S 10) (S 11) (S 12) (S 13) (S 14) (S 15) (S 16) (S 17) (S 18) σ19 σ20 σ21 (nI (xfg σ1 (tn σ0) 1 sp tt 1).2.1) (xfg σ1 (tn σ0) 1 sp tt 1).2.2 σ24 σ25 σ26 σ27 σ28 σ29 σ30] A s.heap s H locs := Eq.mp (congrArg (fun z9 => xM D (TY q) [w9 q ad σ0 σ1 (S 2) (S 3) (S 4) ((xHouseR S (xfg σ1 (tn σ0) 1 sp tt 1)).2.1 5) z9 (S 7) (S 8) (S 9) (S 10) (S 11) (S 12) (S 13) (S 14) (S 15) (S 16) (S 17) (S 18) σ19 σ20 σ21 (nI (xfg σ1 (tn σ0) 1 sp tt 1).2.1) (xfg σ1 (tn σ0) 1 sp tt 1).2.2 σ24 σ25 σ26 σ27 σ28 σ29 σ30] A s.heap s H locs) e8) hM
      have e9 : ((nI (xfg σ1 (tn σ0) 1 sp tt 1).2.1) : Int32) = (nI (xHouseR S (xfg σ1 (tn σ0) 1 sp tt 1)).2.2.1) := by (first | (rw [hit]; rfl) | (rw [hit]; done) | (rw [hit]))
      have hM : xM D (TY q) [w9 q ad σ0 σ1 (S 2) (S 3) (S 4) ((xHouseR S (xfg σ1 (tn σ0) 1 sp tt 1)).2.1 5) ((xHouseR S (xfg σ1 (tn σ0) 1 sp tt 1)).2.1 6) (S 7) (S 8) (S 9) (S 10) (S 11) (S 12) (S 13) (S 14) (S 15) (S 16) (S 17) (S 18) σ19 σ20 σ21 (nI (xHouseR S (xfg σ1 (tn σ0) 1 sp tt 1)).2.2.1) (xfg σ1 (tn σ0) 1 sp tt 1).2.2 σ24 σ25 σ26 σ27 σ28 σ29 σ30] A s.heap s H locs := Eq.mp (congrArg (fun z9 => xM D (TY q) [w9 q ad σ0 σ1 (S 2) (S 3) (S 4) ((xHouseR S (xfg σ1 (tn σ0) 1 sp tt 1)).2.1 5) ((xHouseR S (xfg σ1 (tn σ0) 1 sp tt 1)).2.1 6) (S 7) (S 8) (S 9) (S 10) (S 11) (S 12) (S 13) (S 14) (S 15) (S 16) (S 17) (S 18) σ19 σ20 σ21 z9 (xfg σ1 (tn σ0) 1 sp tt 1).2.2 σ24 σ25 σ26 σ27 σ28 σ29 σ30] A s.heap s H locs) e9) hM
      have e10 : (((xfg σ1 (tn σ0) 1 sp tt 1).2.2) : Nat → Int32) = ((xHouseR S (xfg σ1 (tn σ0) 1 sp tt 1)).2.2.2) := by (first | (rw [hit]; rfl) | (rw [hit]; done) | (rw [hit]))
      have hM : xM D (TY q) [w9 q ad σ0 σ1 (S 2) (S 3) (S 4) ((xHouseR S (xfg σ1 (tn σ0) 1 sp tt 1)).2.1 5) ((xHouseR S (xfg σ1 (tn σ0) 1 sp tt 1)).2.1 6) (S 7) (S 8) (S 9) (S 10) (S 11) (S 12) (S 13) (S 14) (S 15) (S 16) (S 17) (S 18) σ19 σ20 σ21 (nI (xHouseR S (xfg σ1 (tn σ0) 1 sp tt 1)).2.2.1) (xHouseR S (xfg σ1 (tn σ0) 1 sp tt 1)).2.2.2 σ24 σ25 σ26 σ27 σ28 σ29 σ30] A s.heap s H locs := Eq.mp (congrArg (fun z9 => xM D (TY q) [w9 q ad σ0 σ1 (S 2) (S 3) (S 4) ((xHouseR S (xfg σ1 (tn σ0) 1 sp tt 1)).2.1 5) ((xHouseR S (xfg σ1 (tn σ0) 1 sp tt 1)).2.1 6) (S 7) (S 8) (S 9) (S 10) (S 11) (S 12) (S 13) (S 14) (S 15) (S 16) (S 17) (S 18) σ19 σ20 σ21 (nI (xHouseR S (xfg σ1 (tn σ0) 1 sp tt 1)).2.2.1) z9 σ24 σ25 σ26 σ27 σ28 σ29 σ30] A s.heap s H locs) e10) hM
      exact x_zret hx hb hr hlocks () hM rfl (show nI 0 = zb ((xHouseR S (xfg σ1 (tn σ0) 1 sp tt 1)).1 = true) from by (rw [hit]; first | exact zb_t' rfl | exact zb_f' Bool.false_ne_true)) dX9_houseItem_30
    · refine lv_aload_n hx hb dX9_houseItem_18 rfl (lv_at hl 0 rfl) ?_
      refine x_get hx hb hts iwX9_houseItem_X9 hown hM 0 0 rfl rfl rfl 23 (by decide) (hts _ lkX9_houseItem_67) (fun _ h => h) rfl dX9_houseItem_19 ?_
      refine lv_iconst (v := nI 0) hx hb dX9_houseItem_22 (by decide) ?_
      refine x_iald hx hb hM 0 20 0 (f := (xfg σ1 (tn σ0) 1 sp tt 1).2.2) rfl rfl rfl (t := 0) (by omega) (by decide) dX9_houseItem_23 ?_
      refine x_cast (y := nI (tn ((xfg σ1 (tn σ0) 1 sp tt 1).2.2 0))) (hT 0 (by omega)).1 ?_
      refine lv_bipush (v := nI 60) hx hb dX9_houseItem_24 (by decide) ?_
      refine x_icmp_le (x := tn ((xfg σ1 (tn σ0) 1 sp tt 1).2.2 0)) (y := 60) (tgt := 31) hx hb (by omega) (by omega) dX9_houseItem_26 (by decide) (fun c11 => ?_) (fun c11 => ?_)
      · have hit : xHouseR S (xfg σ1 (tn σ0) 1 sp tt 1) = _ := if_pos (by refine ⟨hT0, ?_⟩; omega)
        refine lv_aload_n hx hb dX9_houseItem_31 rfl (lv_at hl 0 rfl) ?_
        refine x_get hx hb hts iwX9_houseItem_X9 hown hM 0 0 rfl rfl rfl 6 (by decide) (hts _ lkX9_houseItem_25) (fun _ h => h) rfl dX9_houseItem_32 ?_
        refine lv_iconst (v := nI 5) hx hb dX9_houseItem_35 (by decide) ?_
        refine lv_aload_n hx hb dX9_houseItem_36 rfl (lv_at hl 0 rfl) ?_
        refine x_get hx hb hts iwX9_houseItem_X9 hown hM 0 0 rfl rfl rfl 5 (by decide) (hts _ lkX9_houseItem_22) (fun _ h => h) rfl dX9_houseItem_37 ?_
        refine lv_iconst (v := nI 1) hx hb dX9_houseItem_40 (by decide) ?_
        refine x_iald hx hb hM 0 5 0 (f := S 5) rfl rfl rfl (t := 1) (by omega) (by decide) dX9_houseItem_41 ?_
        refine x_cast (y := nI (tn (S 5 1))) hS.2.1.1 ?_
        refine x_iadd (x := 5) (y := tn (S 5 1)) hx hb dX9_houseItem_42 ?_
        refine lv_aload_n hx hb dX9_houseItem_43 rfl (lv_at hl 0 rfl) ?_
        refine x_get hx hb hts iwX9_houseItem_X9 hown hM 0 0 rfl rfl rfl 23 (by decide) (hts _ lkX9_houseItem_67) (fun _ h => h) rfl dX9_houseItem_44 ?_
        refine lv_iconst (v := nI 0) hx hb dX9_houseItem_47 (by decide) ?_
        refine x_iald hx hb hM 0 20 0 (f := (xfg σ1 (tn σ0) 1 sp tt 1).2.2) rfl rfl rfl (t := 0) (by omega) (by decide) dX9_houseItem_48 ?_
        refine x_cast (y := nI (tn ((xfg σ1 (tn σ0) 1 sp tt 1).2.2 0))) (hT 0 (by omega)).1 ?_
        refine x_iast hx hb hM 0 6 0 (f := S 6) rfl rfl rfl (t := 5 + (tn (S 5 1))) (x := nI (tn ((xfg σ1 (tn σ0) 1 sp tt 1).2.2 0))) (by omega) (by decide) [w9 q ad σ0 σ1 (S 2) (S 3) (S 4) (S 5) (upd (S 6) (5 + (tn (S 5 1))) (nI (tn ((xfg σ1 (tn σ0) 1 sp tt 1).2.2 0)))) (S 7) (S 8) (S 9) (S 10) (S 11) (S 12) (S 13) (S 14) (S 15) (S 16) (S 17) (S 18) σ19 σ20 σ21 (nI (xfg σ1 (tn σ0) 1 sp tt 1).2.1) (xfg σ1 (tn σ0) 1 sp tt 1).2.2 σ24 σ25 σ26 σ27 σ28 σ29 σ30] rfl dX9_houseItem_49 (fun H locs hM => ?_)
        refine lv_aload_n hx hb dX9_houseItem_50 rfl (lv_at hl 0 rfl) ?_
        refine x_get hx hb hts iwX9_houseItem_X9 hown hM 0 0 rfl rfl rfl 5 (by decide) (hts _ lkX9_houseItem_22) (fun _ h => h) rfl dX9_houseItem_51 ?_
        refine lv_iconst (v := nI 1) hx hb dX9_houseItem_54 (by decide) ?_
        refine lv_dup2_11 hx hb dX9_houseItem_55 rfl rfl ?_
        refine x_iald hx hb hM 0 5 0 (f := S 5) rfl rfl rfl (t := 1) (by omega) (by decide) dX9_houseItem_56 ?_
        refine x_cast (y := nI (tn (S 5 1))) hS.2.1.1 ?_
        refine lv_iconst (v := nI 1) hx hb dX9_houseItem_57 (by decide) ?_
        refine x_iadd (x := tn (S 5 1)) (y := 1) hx hb dX9_houseItem_58 ?_
        refine x_iast hx hb hM 0 5 0 (f := S 5) rfl rfl rfl (t := 1) (x := nI (tn (S 5 1) + 1)) (by omega) (by decide) [w9 q ad σ0 σ1 (S 2) (S 3) (S 4) (upd (S 5) 1 (nI (tn (S 5 1) + 1))) (upd (S 6) (5 + (tn (S 5 1))) (nI (tn ((xfg σ1 (tn σ0) 1 sp tt 1).2.2 0)))) (S 7) (S 8) (S 9) (S 10) (S 11) (S 12) (S 13) (S 14) (S 15) (S 16) (S 17) (S 18) σ19 σ20 σ21 (nI (xfg σ1 (tn σ0) 1 sp tt 1).2.1) (xfg σ1 (tn σ0) 1 sp tt 1).2.2 σ24 σ25 σ26 σ27 σ28 σ29 σ30] rfl dX9_houseItem_59 (fun H locs hM => ?_)
        refine lv_iconst (v := nI 1) hx hb dX9_houseItem_60 (by decide) ?_
        have e12 : ((upd (S 5) 1 (nI (tn (S 5 1) + 1))) : Nat → Int32) = ((xHouseR S (xfg σ1 (tn σ0) 1 sp tt 1)).2.1 5) := by (first | (rw [hit]; rfl) | (rw [hit]; done) | (rw [hit]))
        have hM : xM D (TY q) [w9 q ad σ0 σ1 (S 2) (S 3) (S 4) ((xHouseR S (xfg σ1 (tn σ0) 1 sp tt 1)).2.1 5) (upd (S 6) (5 + (tn (S 5 1))) (nI (tn ((xfg σ1 (tn σ0) 1 sp tt 1).2.2 0)))) (S 7) (S 8) (S 9) (S 10) (S 11) (S 12) (S 13) (S 14) (S 15) (S 16) (S 17) (S 18) σ19 σ20 σ21 (nI (xfg σ1 (tn σ0) 1 sp tt 1).2.1) (xfg σ1 (tn σ0) 1 sp tt 1).2.2 σ24 σ25 σ26 σ27 σ28 σ29 σ30] A s.heap s H locs := Eq.mp (congrArg (fun z9 => xM D (TY q) [w9 q ad σ0 σ1 (S 2) (S 3) (S 4) z9 (upd (S 6) (5 + (tn (S 5 1))) (nI (tn ((xfg σ1 (tn σ0) 1 sp tt 1).2.2 0)))) (S 7) (S 8) (S 9) (S 10) (S 11) (S 12) (S 13) (S 14) (S 15) (S 16) (S 17) (S 18) σ19 σ20 σ21 (nI (xfg σ1 (tn σ0) 1 sp tt 1).2.1) (xfg σ1 (tn σ0) 1 sp tt 1).2.2 σ24 σ25 σ26 σ27 σ28 σ29 σ30] A s.heap s H locs) e12) hM
        have e13 : ((upd (S 6) (5 + (tn (S 5 1))) (nI (tn ((xfg σ1 (tn σ0) 1 sp tt 1).2.2 0)))) : Nat → Int32) = ((xHouseR S (xfg σ1 (tn σ0) 1 sp tt 1)).2.1 6) := by (first | (rw [hit]; rfl) | (rw [hit]; done) | (rw [hit]))
        have hM : xM D (TY q) [w9 q ad σ0 σ1 (S 2) (S 3) (S 4) ((xHouseR S (xfg σ1 (tn σ0) 1 sp tt 1)).2.1 5) ((xHouseR S (xfg σ1 (tn σ0) 1 sp tt 1)).2.1 6) (S 7) (S 8) (S 9) (S 10) (S 11) (S 12) (S 13) (S 14) (S 15) (S 16) (S 17) (S 18) σ19 σ20 σ21 (nI (xfg σ1 (tn σ0) 1 sp tt 1).2.1) (xfg σ1 (tn σ0) 1 sp tt 1).2.2 σ24 σ25 σ26 σ27 σ28 σ29 σ30] A s.heap s H locs := Eq.mp (congrArg (fun z9 => xM D (TY q) [w9 q ad σ0 σ1 (S 2) (S 3) (S 4) ((xHouseR S (xfg σ1 (tn σ0) 1 sp tt 1)).2.1 5) z9 (S 7) (S 8) (S 9) (S 10) (S 11) (S 12) (S 13) (S 14) (S 15) (S 16) (S 17) (S 18) σ19 σ20 σ21 (nI (xfg σ1 (tn σ0) 1 sp tt 1).2.1) (xfg σ1 (tn σ0) 1 sp tt 1).2.2 σ24 σ25 σ26 σ27 σ28 σ29 σ30] A s.heap s H locs) e13) hM
        have e14 : ((nI (xfg σ1 (tn σ0) 1 sp tt 1).2.1) : Int32) = (nI (xHouseR S (xfg σ1 (tn σ0) 1 sp tt 1)).2.2.1) := by (first | (rw [hit]; rfl) | (rw [hit]; done) | (rw [hit]))
        have hM : xM D (TY q) [w9 q ad σ0 σ1 (S 2) (S 3) (S 4) ((xHouseR S (xfg σ1 (tn σ0) 1 sp tt 1)).2.1 5) ((xHouseR S (xfg σ1 (tn σ0) 1 sp tt 1)).2.1 6) (S 7) (S 8) (S 9) (S 10) (S 11) (S 12) (S 13) (S 14) (S 15) (S 16) (S 17) (S 18) σ19 σ20 σ21 (nI (xHouseR S (xfg σ1 (tn σ0) 1 sp tt 1)).2.2.1) (xfg σ1 (tn σ0) 1 sp tt 1).2.2 σ24 σ25 σ26 σ27 σ28 σ29 σ30] A s.heap s H locs := Eq.mp (congrArg (fun z9 => xM D (TY q) [w9 q ad σ0 σ1 (S 2) (S 3) (S 4) ((xHouseR S (xfg σ1 (tn σ0) 1 sp tt 1)).2.1 5) ((xHouseR S (xfg σ1 (tn σ0) 1 sp tt 1)).2.1 6) (S 7) (S 8) (S 9) (S 10) (S 11) (S 12) (S 13) (S 14) (S 15) (S 16) (S 17) (S 18) σ19 σ20 σ21 z9 (xfg σ1 (tn σ0) 1 sp tt 1).2.2 σ24 σ25 σ26 σ27 σ28 σ29 σ30] A s.heap s H locs) e14) hM
        have e15 : (((xfg σ1 (tn σ0) 1 sp tt 1).2.2) : Nat → Int32) = ((xHouseR S (xfg σ1 (tn σ0) 1 sp tt 1)).2.2.2) := by (first | (rw [hit]; rfl) | (rw [hit]; done) | (rw [hit]))
        have hM : xM D (TY q) [w9 q ad σ0 σ1 (S 2) (S 3) (S 4) ((xHouseR S (xfg σ1 (tn σ0) 1 sp tt 1)).2.1 5) ((xHouseR S (xfg σ1 (tn σ0) 1 sp tt 1)).2.1 6) (S 7) (S 8) (S 9) (S 10) (S 11) (S 12) (S 13) (S 14) (S 15) (S 16) (S 17) (S 18) σ19 σ20 σ21 (nI (xHouseR S (xfg σ1 (tn σ0) 1 sp tt 1)).2.2.1) (xHouseR S (xfg σ1 (tn σ0) 1 sp tt 1)).2.2.2 σ24 σ25 σ26 σ27 σ28 σ29 σ30] A s.heap s H locs := Eq.mp (congrArg (fun z9 => xM D (TY q) [w9 q ad σ0 σ1 (S 2) (S 3) (S 4) ((xHouseR S (xfg σ1 (tn σ0) 1 sp tt 1)).2.1 5) ((xHouseR S (xfg σ1 (tn σ0) 1 sp tt 1)).2.1 6) (S 7) (S 8) (S 9) (S 10) (S 11) (S 12) (S 13) (S 14) (S 15) (S 16) (S 17) (S 18) σ19 σ20 σ21 (nI (xHouseR S (xfg σ1 (tn σ0) 1 sp tt 1)).2.2.1) z9 σ24 σ25 σ26 σ27 σ28 σ29 σ30] A s.heap s H locs) e15) hM
        exact x_zret hx hb hr hlocks () hM rfl (show nI 1 = zb ((xHouseR S (xfg σ1 (tn σ0) 1 sp tt 1)).1 = true) from by (rw [hit]; first | exact zb_t' rfl | exact zb_f' Bool.false_ne_true)) dX9_houseItem_61
      · have hit : xHouseR S (xfg σ1 (tn σ0) 1 sp tt 1) = (false, S, (xfg σ1 (tn σ0) 1 sp tt 1).2.1, (xfg σ1 (tn σ0) 1 sp tt 1).2.2) := if_neg (by intro z; obtain ⟨z1, z2⟩ := z; first | exact absurd z1 (by assumption) | omega)
        refine lv_iconst (v := nI 0) hx hb dX9_houseItem_29 (by decide) ?_
        have e16 : ((S 5) : Nat → Int32) = ((xHouseR S (xfg σ1 (tn σ0) 1 sp tt 1)).2.1 5) := by (first | (rw [hit]; rfl) | (rw [hit]; done) | (rw [hit]))
        have hM : xM D (TY q) [w9 q ad σ0 σ1 (S 2) (S 3) (S 4) ((xHouseR S (xfg σ1 (tn σ0) 1 sp tt 1)).2.1 5) (S 6) (S 7) (S 8) (S 9) (S 10) (S 11) (S 12) (S 13) (S 14) (S 15) (S 16) (S 17) (S 18) σ19 σ20 σ21 (nI (xfg σ1 (tn σ0) 1 sp tt 1).2.1) (xfg σ1 (tn σ0) 1 sp tt 1).2.2 σ24 σ25 σ26 σ27 σ28 σ29 σ30] A s.heap s H locs := Eq.mp (congrArg (fun z9 => xM D (TY q) [w9 q ad σ0 σ1 (S 2) (S 3) (S 4) z9 (S 6) (S 7) (S 8) (S 9) (S 10) (S 11) (S 12) (S 13) (S 14) (S 15) (S 16) (S 17) (S 18) σ19 σ20 σ21 (nI (xfg σ1 (tn σ0) 1 sp tt 1).2.1) (xfg σ1 (tn σ0) 1 sp tt 1).2.2 σ24 σ25 σ26 σ27 σ28 σ29 σ30] A s.heap s H locs) e16) hM
        have e17 : ((S 6) : Nat → Int32) = ((xHouseR S (xfg σ1 (tn σ0) 1 sp tt 1)).2.1 6) := by (first | (rw [hit]; rfl) | (rw [hit]; done) | (rw [hit]))
        have hM : xM D (TY q) [w9 q ad σ0 σ1 (S 2) (S 3) (S 4) ((xHouseR S (xfg σ1 (tn σ0) 1 sp tt 1)).2.1 5) ((xHouseR S (xfg σ1 (tn σ0) 1 sp tt 1)).2.1 6) (S 7) (S 8) (S 9) (S 10) (S 11) (S 12) (S 13) (S 14) (S 15) (S 16) (S 17) (S 18) σ19 σ20 σ21 (nI (xfg σ1 (tn σ0) 1 sp tt 1).2.1) (xfg σ1 (tn σ0) 1 sp tt 1).2.2 σ24 σ25 σ26 σ27 σ28 σ29 σ30] A s.heap s H locs := Eq.mp (congrArg (fun z9 => xM D (TY q) [w9 q ad σ0 σ1 (S 2) (S 3) (S 4) ((xHouseR S (xfg σ1 (tn σ0) 1 sp tt 1)).2.1 5) z9 (S 7) (S 8) (S 9) (S 10) (S 11) (S 12) (S 13) (S 14) (S 15) (S 16) (S 17) (S 18) σ19 σ20 σ21 (nI (xfg σ1 (tn σ0) 1 sp tt 1).2.1) (xfg σ1 (tn σ0) 1 sp tt 1).2.2 σ24 σ25 σ26 σ27 σ28 σ29 σ30] A s.heap s H locs) e17) hM
        have e18 : ((nI (xfg σ1 (tn σ0) 1 sp tt 1).2.1) : Int32) = (nI (xHouseR S (xfg σ1 (tn σ0) 1 sp tt 1)).2.2.1) := by (first | (rw [hit]; rfl) | (rw [hit]; done) | (rw [hit]))
        have hM : xM D (TY q) [w9 q ad σ0 σ1 (S 2) (S 3) (S 4) ((xHouseR S (xfg σ1 (tn σ0) 1 sp tt 1)).2.1 5) ((xHouseR S (xfg σ1 (tn σ0) 1 sp tt 1)).2.1 6) (S 7) (S 8) (S 9) (S 10) (S 11) (S 12) (S 13) (S 14) (S 15) (S 16) (S 17) (S 18) σ19 σ20 σ21 (nI (xHouseR S (xfg σ1 (tn σ0) 1 sp tt 1)).2.2.1) (xfg σ1 (tn σ0) 1 sp tt 1).2.2 σ24 σ25 σ26 σ27 σ28 σ29 σ30] A s.heap s H locs := Eq.mp (congrArg (fun z9 => xM D (TY q) [w9 q ad σ0 σ1 (S 2) (S 3) (S 4) ((xHouseR S (xfg σ1 (tn σ0) 1 sp tt 1)).2.1 5) ((xHouseR S (xfg σ1 (tn σ0) 1 sp tt 1)).2.1 6) (S 7) (S 8) (S 9) (S 10) (S 11) (S 12) (S 13) (S 14) (S 15) (S 16) (S 17) (S 18) σ19 σ20 σ21 z9 (xfg σ1 (tn σ0) 1 sp tt 1).2.2 σ24 σ25 σ26 σ27 σ28 σ29 σ30] A s.heap s H locs) e18) hM
        have e19 : (((xfg σ1 (tn σ0) 1 sp tt 1).2.2) : Nat → Int32) = ((xHouseR S (xfg σ1 (tn σ0) 1 sp tt 1)).2.2.2) := by (first | (rw [hit]; rfl) | (rw [hit]; done) | (rw [hit]))
        have hM : xM D (TY q) [w9 q ad σ0 σ1 (S 2) (S 3) (S 4) ((xHouseR S (xfg σ1 (tn σ0) 1 sp tt 1)).2.1 5) ((xHouseR S (xfg σ1 (tn σ0) 1 sp tt 1)).2.1 6) (S 7) (S 8) (S 9) (S 10) (S 11) (S 12) (S 13) (S 14) (S 15) (S 16) (S 17) (S 18) σ19 σ20 σ21 (nI (xHouseR S (xfg σ1 (tn σ0) 1 sp tt 1)).2.2.1) (xHouseR S (xfg σ1 (tn σ0) 1 sp tt 1)).2.2.2 σ24 σ25 σ26 σ27 σ28 σ29 σ30] A s.heap s H locs := Eq.mp (congrArg (fun z9 => xM D (TY q) [w9 q ad σ0 σ1 (S 2) (S 3) (S 4) ((xHouseR S (xfg σ1 (tn σ0) 1 sp tt 1)).2.1 5) ((xHouseR S (xfg σ1 (tn σ0) 1 sp tt 1)).2.1 6) (S 7) (S 8) (S 9) (S 10) (S 11) (S 12) (S 13) (S 14) (S 15) (S 16) (S 17) (S 18) σ19 σ20 σ21 (nI (xHouseR S (xfg σ1 (tn σ0) 1 sp tt 1)).2.2.1) z9 σ24 σ25 σ26 σ27 σ28 σ29 σ30] A s.heap s H locs) e19) hM
        exact x_zret hx hb hr hlocks () hM rfl (show nI 0 = zb ((xHouseR S (xfg σ1 (tn σ0) 1 sp tt 1)).1 = true) from by (rw [hit]; first | exact zb_t' rfl | exact zb_f' Bool.false_ne_true)) dX9_houseItem_30
