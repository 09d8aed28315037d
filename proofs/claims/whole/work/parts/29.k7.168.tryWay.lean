set_option maxRecDepth 20000 in
theorem ggX6_tryWay_X6_worthOf : GoodIn wsX6_tryWay wsX6_worthOf := goodIn_r _ [6, 7, 8, 9, 10, 11, 12, 13, 14, 15, 16, 26, 27, 28, 29, 30, 31, 32, 33, 34, 35, 36, 37, 38, 39, 40, 41] (by decide +kernel) (by decide +kernel)
set_option maxRecDepth 20000 in
theorem gX6_tryWay_X6_worthOf : GoodIn wsX6_tryWay (va_wsS RX6 75 yX6_worthOf wsX6_worthOf) := goodIn_app (goodIn_of _ (by decide +kernel)) ggX6_tryWay_X6_worthOf
set_option maxRecDepth 20000 in
theorem ggX6_tryWay_X5_put : GoodIn wsX6_tryWay wsX5_put := goodIn_r _ [19] (by decide +kernel) (by decide +kernel)
set_option maxRecDepth 20000 in
theorem gX6_tryWay_X5_put : GoodIn wsX6_tryWay (va_wsS RX6 125 yX5_put wsX5_put) := goodIn_app (goodIn_of _ (by decide +kernel)) ggX6_tryWay_X5_put
theorem dX6_tryWay_0 : decode cX6_tryWay 0 = .ok (.aload_n 1, 1) := by decide +kernel
theorem dX6_tryWay_1 : decode cX6_tryWay 1 = .ok (.iload_n 2, 1) := by decide +kernel
theorem dX6_tryWay_2 : decode cX6_tryWay 2 = .ok (.iload_n 3, 1) := by decide +kernel
theorem dX6_tryWay_3 : decode cX6_tryWay 3 = .ok (.iload 4, 2) := by decide +kernel
theorem dX6_tryWay_5 : decode cX6_tryWay 5 = .ok (.invokestatic 75, 3) := by decide +kernel
theorem dX6_tryWay_8 : decode cX6_tryWay 8 = .ok (.istore 5, 2) := by decide +kernel
theorem dX6_tryWay_10 : decode cX6_tryWay 10 = .ok (.iload 5, 2) := by decide +kernel
theorem dX6_tryWay_12 : decode cX6_tryWay 12 = .ok (.aload_n 0, 1) := by decide +kernel
theorem dX6_tryWay_13 : decode cX6_tryWay 13 = .ok (.getfield 64, 3) := by decide +kernel
theorem dX6_tryWay_16 : decode cX6_tryWay 16 = .ok (.if_icmp .le 37, 3) := by decide +kernel
theorem dX6_tryWay_19 : decode cX6_tryWay 19 = .ok (.aload_n 0, 1) := by decide +kernel
theorem dX6_tryWay_20 : decode cX6_tryWay 20 = .ok (.iload 5, 2) := by decide +kernel
theorem dX6_tryWay_22 : decode cX6_tryWay 22 = .ok (.putfield 64, 3) := by decide +kernel
theorem dX6_tryWay_25 : decode cX6_tryWay 25 = .ok (.aload_n 0, 1) := by decide +kernel
theorem dX6_tryWay_26 : decode cX6_tryWay 26 = .ok (.getfield 15, 3) := by decide +kernel
theorem dX6_tryWay_29 : decode cX6_tryWay 29 = .ok (.iconst 0, 1) := by decide +kernel
theorem dX6_tryWay_30 : decode cX6_tryWay 30 = .ok (.iload_n 2, 1) := by decide +kernel
theorem dX6_tryWay_31 : decode cX6_tryWay 31 = .ok (.invokestatic 125, 3) := by decide +kernel
theorem dX6_tryWay_34 : decode cX6_tryWay 34 = .ok (.aload_n 0, 1) := by decide +kernel
theorem dX6_tryWay_35 : decode cX6_tryWay 35 = .ok (.getfield 15, 3) := by decide +kernel
theorem dX6_tryWay_38 : decode cX6_tryWay 38 = .ok (.iconst 1, 1) := by decide +kernel
theorem dX6_tryWay_39 : decode cX6_tryWay 39 = .ok (.iload_n 3, 1) := by decide +kernel
theorem dX6_tryWay_40 : decode cX6_tryWay 40 = .ok (.invokestatic 125, 3) := by decide +kernel
theorem dX6_tryWay_43 : decode cX6_tryWay 43 = .ok (.aload_n 0, 1) := by decide +kernel
theorem dX6_tryWay_44 : decode cX6_tryWay 44 = .ok (.getfield 15, 3) := by decide +kernel
theorem dX6_tryWay_47 : decode cX6_tryWay 47 = .ok (.iconst 2, 1) := by decide +kernel
theorem dX6_tryWay_48 : decode cX6_tryWay 48 = .ok (.iload 4, 2) := by decide +kernel
theorem dX6_tryWay_50 : decode cX6_tryWay 50 = .ok (.invokestatic 125, 3) := by decide +kernel
theorem dX6_tryWay_53 : decode cX6_tryWay 53 = .ok (.return_, 1) := by decide +kernel
theorem lkX6_tryWay_15 : Cond.fieldLink RX6 15 "LeftAtFive$Shops" "made" "[I" ∈ wsX6_tryWay := by decide +kernel
theorem lkX6_tryWay_64 : Cond.fieldLink RX6 64 "LeftAtFive$Shops" "bestSoups" "I" ∈ wsX6_tryWay := by decide +kernel
theorem iwX6_tryWay_X6 : ∀ w ∈ wsX60, w ∈ wsX6_tryWay := by decide +kernel
set_option maxHeartbeats 2000000 in
set_option maxRecDepth 100000 in
theorem c_X6_tryWay (l : Launch) (D : va_G) (q : Nat → ClassId) (ad : Nat → Nat) (τ0 : Int32) (τ1 : Int64) (τ2 : Int32) (τ3 : Nat → Int32) (τ4 : Nat → Int32) (τ5 : Nat → Int32) (sd : Nat → Nat) (X : Nat → Nat → Int32) (na : Int32) (nb : Int32) (nc : Int32) : xC l yX6_tryWay wsX6_tryWay ({ frames := 3, cells := 0, slots := 0, locals := 65 }) D (TY q) [w6 q ad τ0 τ1 τ2 τ3 τ4 τ5, wst q sd X] [.ref (ad 0), .ref (sd 0), .int na, .int nb, .int nc] (xQv D (TY q) (fun (_ : Unit) => True) (fun _ => [w6 q ad τ0 τ1 (xtw (τ2, τ4) (na * (X 15) 0 + nb * (X 15) 1 + nc * (X 15) 2) na nb nc).1 τ3 (xtw (τ2, τ4) (na * (X 15) 0 + nb * (X 15) 1 + nc * (X 15) 2) na nb nc).2 τ5, wst q sd X])) 0 0 := by
  refine x_enter (cc := cX6_tryWay) (maxL := 6) (ret := none) (by decide) rfl (Nat.le_of_ble_eq_true rfl) ?_
  intro p e s m below meth c A ls H locs hfix hr hlocks hinit hM hl
  obtain ⟨hx, hb, hml, hown, hts⟩ := id hfix
  have hl : lv_has ls 6 [(0, .ref (ad 0)), (1, .ref (sd 0)), (2, .int na), (3, .int nb), (4, .int nc)] := hl
  refine lv_aload_n hx hb dX6_tryWay_0 rfl (lv_at hl 1 rfl) ?_
  refine lv_iload_n hx hb dX6_tryWay_1 rfl (lv_at hl 2 rfl) ?_
  refine lv_iload_n hx hb dX6_tryWay_2 rfl (lv_at hl 3 rfl) ?_
  refine lv_iload hx hb dX6_tryWay_3 (lv_at hl 4 rfl) ?_
  refine x_calli (bc := [wst q sd X]) (br := [w6 q ad τ0 τ1 τ2 τ3 τ4 τ5]) hM [1] [0] rfl rfl rfl (by decide) (x_runS (As := [.ref (sd 0), .int na, .int nb, .int nc]) (rest := []) hfix (c_X6_worthOf l D q sd X na nb nc) (va_cwS 4 hts gX6_tryWay_X6_worthOf rfl rfl rfl (by decide +kernel) ⟨Nat.le_of_ble_eq_true rfl, Nat.le_of_ble_eq_true rfl⟩) hM [1] rfl rfl rfl hl.1 rfl (Nat.le_of_ble_eq_true rfl) dX6_tryWay_5 ⟨Nat.le_of_ble_eq_true rfl, Nat.le_of_ble_eq_true rfl⟩) (fun r u H locs hq hM => ?_)
  subst hq
  have hM : xM D (TY q) [w6 q ad τ0 τ1 τ2 τ3 τ4 τ5, wst q sd X] A s.heap s H locs := hM
  refine lv_istore (lv' := [(5, .int (na * (X 15) 0 + nb * (X 15) 1 + nc * (X 15) 2)), (0, .ref (ad 0)), (1, .ref (sd 0)), (2, .int na), (3, .int nb), (4, .int nc)]) hx hb dX6_tryWay_8 hl (by decide) rfl (fun ls hl => ?_)
  refine lv_iload hx hb dX6_tryWay_10 (lv_at hl 0 rfl) ?_
  refine lv_aload_n hx hb dX6_tryWay_12 rfl (lv_at hl 1 rfl) ?_
  refine x_get hx hb hts iwX6_tryWay_X6 hown hM 0 0 rfl rfl rfl 2 (by decide) (hts _ lkX6_tryWay_64) (fun _ h => h) rfl dX6_tryWay_13 ?_
  refine lv_icmp_le (tgt := 53) hx hb dX6_tryWay_16 (by decide) (fun c1 => ?_) (fun c1 => ?_)
  · have e2 : ((τ2) : Int32) = ((xtw (τ2, τ4) (na * (X 15) 0 + nb * (X 15) 1 + nc * (X 15) 2) na nb nc).1) := by (first | exact (congrArg Prod.fst (xtw_1 (st := (τ2, τ4)) (a := na) (b := nb) (c := nc) (by assumption))).symm | exact (congrArg Prod.fst (xtw_0 (st := (τ2, τ4)) (a := na) (b := nb) (c := nc) (by assumption))).symm)
    have hM : xM D (TY q) [w6 q ad τ0 τ1 (xtw (τ2, τ4) (na * (X 15) 0 + nb * (X 15) 1 + nc * (X 15) 2) na nb nc).1 τ3 τ4 τ5, wst q sd X] A s.heap s H locs := Eq.mp (congrArg (fun z9 => xM D (TY q) [w6 q ad τ0 τ1 z9 τ3 τ4 τ5, wst q sd X] A s.heap s H locs) e2) hM
    have e3 : ((τ4) : Nat → Int32) = ((xtw (τ2, τ4) (na * (X 15) 0 + nb * (X 15) 1 + nc * (X 15) 2) na nb nc).2) := by (first | exact (congrArg Prod.snd (xtw_1 (st := (τ2, τ4)) (a := na) (b := nb) (c := nc) (by assumption))).symm | exact (congrArg Prod.snd (xtw_0 (st := (τ2, τ4)) (a := na) (b := nb) (c := nc) (by assumption))).symm)
    have hM : xM D (TY q) [w6 q ad τ0 τ1 (xtw (τ2, τ4) (na * (X 15) 0 + nb * (X 15) 1 + nc * (X 15) 2) na nb nc).1 τ3 (xtw (τ2, τ4) (na * (X 15) 0 + nb * (X 15) 1 + nc * (X 15) 2) na nb nc).2 τ5, wst q sd X] A s.heap s H locs := Eq.mp (congrArg (fun z9 => xM D (TY q) [w6 q ad τ0 τ1 (xtw (τ2, τ4) (na * (X 15) 0 + nb * (X 15) 1 + nc * (X 15) 2) na nb nc).1 τ3 z9 τ5, wst q sd X] A s.heap s H locs) e3) hM
    exact x_vret hx hb hr hlocks () hM trivial dX6_tryWay_53
  · refine lv_aload_n hx hb dX6_tryWay_19 rfl (lv_at hl 1 rfl) ?_
    refine lv_iload hx hb dX6_tryWay_20 (lv_at hl 0 rfl) ?_
    refine x_put hx hb hts iwX6_tryWay_X6 tyX6 tyX6_ok nmX6 hown hM 0 0 rfl rfl rfl 2 (by decide) (hts _ lkX6_tryWay_64) (fun _ h => h) rfl (ty := .int) (by decide +kernel) rfl rfl (Nat.le_of_ble_eq_true rfl) [w6 q ad τ0 τ1 (na * (X 15) 0 + nb * (X 15) 1 + nc * (X 15) 2) τ3 τ4 τ5, wst q sd X] rfl dX6_tryWay_22 (fun H locs hM => ?_)
    refine lv_aload_n hx hb dX6_tryWay_25 rfl (lv_at hl 1 rfl) ?_
    refine x_get hx hb hts iwX6_tryWay_X6 hown hM 0 0 rfl rfl rfl 4 (by decide) (hts _ lkX6_tryWay_15) (fun _ h => h) rfl dX6_tryWay_26 ?_
    refine lv_iconst (v := nI 0) hx hb dX6_tryWay_29 (by decide) ?_
    refine lv_iload_n hx hb dX6_tryWay_30 rfl (lv_at hl 3 rfl) ?_
    refine x_callv (bc := [w6 q ad τ0 τ1 (na * (X 15) 0 + nb * (X 15) 1 + nc * (X 15) 2) τ3 τ4 τ5]) (br := [wst q sd X]) hM [0] [1] rfl rfl rfl (by decide) (x_runS (As := [.ref (ad 5), .int (nI 0), .int na]) (rest := []) hfix (c_X5_put l D q (w6 q ad τ0 τ1 (na * (X 15) 0 + nb * (X 15) 1 + nc * (X 15) 2) τ3 τ4 τ5) 2 (ad 5) 3 τ4 0 na rfl (by decide) (by omega)) (va_cwS 3 hts gX6_tryWay_X5_put rfl rfl rfl (by decide +kernel) ⟨Nat.le_of_ble_eq_true rfl, Nat.le_of_ble_eq_true rfl⟩) hM [0] rfl rfl rfl hl.1 rfl (Nat.le_of_ble_eq_true rfl) dX6_tryWay_31 ⟨Nat.le_of_ble_eq_true rfl, Nat.le_of_ble_eq_true rfl⟩) (fun u H locs hq hM => ?_)
    have hM : xM D (TY q) [wst q sd X, w6 q ad τ0 τ1 (na * (X 15) 0 + nb * (X 15) 1 + nc * (X 15) 2) τ3 (upd τ4 0 na) τ5] A s.heap s H locs := hM
    have hM : xM D (TY q) [w6 q ad τ0 τ1 (na * (X 15) 0 + nb * (X 15) 1 + nc * (X 15) 2) τ3 (upd τ4 0 na) τ5, wst q sd X] A s.heap s H locs := hM.sel [1, 0] rfl rfl
    refine lv_aload_n hx hb dX6_tryWay_34 rfl (lv_at hl 1 rfl) ?_
    refine x_get hx hb hts iwX6_tryWay_X6 hown hM 0 0 rfl rfl rfl 4 (by decide) (hts _ lkX6_tryWay_15) (fun _ h => h) rfl dX6_tryWay_35 ?_
    refine lv_iconst (v := nI 1) hx hb dX6_tryWay_38 (by decide) ?_
    refine lv_iload_n hx hb dX6_tryWay_39 rfl (lv_at hl 4 rfl) ?_
    refine x_callv (bc := [w6 q ad τ0 τ1 (na * (X 15) 0 + nb * (X 15) 1 + nc * (X 15) 2) τ3 (upd τ4 0 na) τ5]) (br := [wst q sd X]) hM [0] [1] rfl rfl rfl (by decide) (x_runS (As := [.ref (ad 5), .int (nI 1), .int nb]) (rest := []) hfix (c_X5_put l D q (w6 q ad τ0 τ1 (na * (X 15) 0 + nb * (X 15) 1 + nc * (X 15) 2) τ3 (upd τ4 0 na) τ5) 2 (ad 5) 3 (upd τ4 0 na) 1 nb rfl (by decide) (by omega)) (va_cwS 3 hts gX6_tryWay_X5_put rfl rfl rfl (by decide +kernel) ⟨Nat.le_of_ble_eq_true rfl, Nat.le_of_ble_eq_true rfl⟩) hM [0] rfl rfl rfl hl.1 rfl (Nat.le_of_ble_eq_true rfl) dX6_tryWay_40 ⟨Nat.le_of_ble_eq_true rfl, Nat.le_of_ble_eq_true rfl⟩) (fun u H locs hq hM => ?_)
    have hM : xM D (TY q) [wst q sd X, w6 q ad τ0 τ1 (na * (X 15) 0 + nb * (X 15) 1 + nc * (X 15) 2) τ3 (upd (upd τ4 0 na) 1 nb) τ5] A s.heap s H locs := hM
    have hM : xM D (TY q) [w6 q ad τ0 τ1 (na * (X 15) 0 + nb * (X 15) 1 + nc * (X 15) 2) τ3 (upd (upd τ4 0 na) 1 nb) τ5, wst q sd X] A s.heap s H locs := hM.sel [1, 0] rfl rfl
    refine lv_aload_n hx hb dX6_tryWay_43 rfl (lv_at hl 1 rfl) ?_
    refine x_get hx hb hts iwX6_tryWay_X6 hown hM 0 0 rfl rfl rfl 4 (by decide) (hts _ lkX6_tryWay_15) (fun _ h => h) rfl dX6_tryWay_44 ?_
    refine lv_iconst (v := nI 2) hx hb dX6_tryWay_47 (by decide) ?_
    refine lv_iload hx hb dX6_tryWay_48 (lv_at hl 5 rfl) ?_
    refine x_callv (bc := [w6 q ad τ0 τ1 (na * (X 15) 0 + nb * (X 15) 1 + nc * (X 15) 2) τ3 (upd (upd τ4 0 na) 1 nb) τ5]) (br := [wst q sd X]) hM [0] [1] rfl rfl rfl (by decide) (x_runS (As := [.ref (ad 5), .int (nI 2), .int nc]) (rest := []) hfix (c_X5_put l D q (w6 q ad τ0 τ1 (na * (X 15) 0 + nb * (X 15) 1 + nc * (X 15) 2) τ3 (upd (upd τ4 0 na) 1 nb) τ5) 2 (ad 5) 3 (upd (upd τ4 0 na) 1 nb) 2 nc rfl (by decide) (by omega)) (va_cwS 3 hts gX6_tryWay_X5_put rfl rfl rfl (by decide +kernel) ⟨Nat.le_of_ble_eq_true rfl, Nat.le_of_ble_eq_true rfl⟩) hM [0] rfl rfl rfl hl.1 rfl (Nat.le_of_ble_eq_true rfl) dX6_tryWay_50 ⟨Nat.le_of_ble_eq_true rfl, Nat.le_of_ble_eq_true rfl⟩) (fun u H locs hq hM => ?_)
    have hM : xM D (TY q) [wst q sd X, w6 q ad τ0 τ1 (na * (X 15) 0 + nb * (X 15) 1 + nc * (X 15) 2) τ3 (upd (upd (upd τ4 0 na) 1 nb) 2 nc) τ5] A s.heap s H locs := hM
    have hM : xM D (TY q) [w6 q ad τ0 τ1 (na * (X 15) 0 + nb * (X 15) 1 + nc * (X 15) 2) τ3 (upd (upd (upd τ4 0 na) 1 nb) 2 nc) τ5, wst q sd X] A s.heap s H locs := hM.sel [1, 0] rfl rfl
    have e4 : ((na * (X 15) 0 + nb * (X 15) 1 + nc * (X 15) 2) : Int32) = ((xtw (τ2, τ4) (na * (X 15) 0 + nb * (X 15) 1 + nc * (X 15) 2) na nb nc).1) := by (first | exact (congrArg Prod.fst (xtw_1 (st := (τ2, τ4)) (a := na) (b := nb) (c := nc) (by assumption))).symm | exact (congrArg Prod.fst (xtw_0 (st := (τ2, τ4)) (a := na) (b := nb) (c := nc) (by assumption))).symm)
    have hM : xM D (TY q) [w6 q ad τ0 τ1 (xtw (τ2, τ4) (na * (X 15) 0 + nb * (X 15) 1 + nc * (X 15) 2) na nb nc).1 τ3 (upd (upd (upd τ4 0 na) 1 nb) 2 nc) τ5, wst q sd X] A s.heap s H locs := Eq.mp (congrArg (fun z9 => xM D (TY q) [w6 q ad τ0 τ1 z9 τ3 (upd (upd (upd τ4 0 na) 1 nb) 2 nc) τ5, wst q sd X] A s.heap s H locs) e4) hM
    have e5 : ((upd (upd (upd τ4 0 na) 1 nb) 2 nc) : Nat → Int32) = ((xtw (τ2, τ4) (na * (X 15) 0 + nb * (X 15) 1 + nc * (X 15) 2) na nb nc).2) := by (first | exact (congrArg Prod.snd (xtw_1 (st := (τ2, τ4)) (a := na) (b := nb) (c := nc) (by assumption))).symm | exact (congrArg Prod.snd (xtw_0 (st := (τ2, τ4)) (a := na) (b := nb) (c := nc) (by assumption))).symm)
    have hM : xM D (TY q) [w6 q ad τ0 τ1 (xtw (τ2, τ4) (na * (X 15) 0 + nb * (X 15) 1 + nc * (X 15) 2) na nb nc).1 τ3 (xtw (τ2, τ4) (na * (X 15) 0 + nb * (X 15) 1 + nc * (X 15) 2) na nb nc).2 τ5, wst q sd X] A s.heap s H locs := Eq.mp (congrArg (fun z9 => xM D (TY q) [w6 q ad τ0 τ1 (xtw (τ2, τ4) (na * (X 15) 0 + nb * (X 15) 1 + nc * (X 15) 2) na nb nc).1 τ3 z9 τ5, wst q sd X] A s.heap s H locs) e5) hM
    exact x_vret hx hb hr hlocks () hM trivial dX6_tryWay_53
