set_option maxHeartbeats 4000000 in
set_option maxRecDepth 100000 in
theorem c_X9_leftInK (l : Launch) (D : va_G) (q : Nat → ClassId) (ad : Nat → Nat) (σ0 : Int32) (σ1 : Nat → Int32) (σ2 : Nat → Int32) (σ3 : Nat → Int32) (σ4 : Nat → Int32) (σ5 : Nat → Int32) (σ6 : Nat → Int32) (σ7 : Nat → Int32) (σ8 : Nat → Int32) (σ9 : Nat → Int32) (σ10 : Nat → Int32) (σ11 : Nat → Int32) (σ12 : Nat → Int32) (σ13 : Nat → Int32) (σ14 : Nat → Int32) (σ15 : Nat → Int32) (σ16 : Nat → Int32) (σ17 : Nat → Int32) (σ18 : Nat → Int32) (σ19 : Nat → Int32) (σ20 : Int32) (σ21 : Int32) (σ22 : Int32) (σ23 : Nat → Int32) (σ24 : Int32) (σ25 : Int32) (σ26 : Nat → Int32) (σ27 : Nat → Int32) (σ28 : Nat → Int32) (σ29 : Nat → Int32) (σ30 : Nat → Int32) (sm : Nat → Int32) (b : Nat) (K : Nat → Int32) (h : Nat) (g : Nat) (hb0 : b < 13) (hh0 : h < 5) (hg0 : g < 5) : xC l yX9_leftIn wsX9_leftIn ({ frames := 1, cells := 0, slots := 0, locals := 23 }) D (TY q) [w9 q ad σ0 σ1 σ2 σ3 σ4 σ5 σ6 σ7 σ8 σ9 σ10 σ11 σ12 σ13 σ14 σ15 σ16 σ17 σ18 (xspl sm b K) σ20 σ21 σ22 σ23 σ24 σ25 σ26 σ27 σ28 σ29 σ30] [.ref (ad 0), .int (nI b), .int (nI h), .int (nI g)] (xQi D (TY q) (fun (r : Int32) (_ : Unit) => r = xlf (σ4 g) (K (5 * h + g))) (fun _ => [w9 q ad σ0 σ1 σ2 σ3 σ4 σ5 σ6 σ7 σ8 σ9 σ10 σ11 σ12 σ13 σ14 σ15 σ16 σ17 σ18 (xspl sm b K) σ20 σ21 σ22 σ23 σ24 σ25 σ26 σ27 σ28 σ29 σ30])) 0 0 := by
  refine x_enter (cc := cX9_leftIn) (maxL := 4) (ret := (some .int)) (by decide) rfl (Nat.le_of_ble_eq_true rfl) ?_
  intro p e s m below meth c A ls H locs hfix hr hlocks hinit hM hl
  obtain ⟨hx, hb, hml, hown, hts⟩ := id hfix
  have hl : lv_has ls 4 [(0, .ref (ad 0)), (1, .int (nI b)), (2, .int (nI h)), (3, .int (nI g))] := hl
  refine lv_aload_n hx hb dX9_leftIn_0 rfl (lv_at hl 0 rfl) ?_
  refine lv_iload_n hx hb dX9_leftIn_1 rfl (lv_at hl 3 rfl) ?_
  refine lv_aload_n hx hb dX9_leftIn_2 rfl (lv_at hl 0 rfl) ?_
  refine lv_iload_n hx hb dX9_leftIn_3 rfl (lv_at hl 1 rfl) ?_
  refine lv_iload_n hx hb dX9_leftIn_4 rfl (lv_at hl 2 rfl) ?_
  refine lv_iload_n hx hb dX9_leftIn_5 rfl (lv_at hl 3 rfl) ?_
  refine x_calli (bc := [w9 q ad σ0 σ1 σ2 σ3 σ4 σ5 σ6 σ7 σ8 σ9 σ10 σ11 σ12 σ13 σ14 σ15 σ16 σ17 σ18 (xspl sm b K) σ20 σ21 σ22 σ23 σ24 σ25 σ26 σ27 σ28 σ29 σ30]) (br := []) hM [0] [] rfl rfl rfl (by decide) (x_runV (As := [.int (nI b), .int (nI h), .int (nI g)]) (rest := [.int (nI g), .ref (ad 0)]) hfix (c_X9_piecesK l D q ad σ0 σ1 σ2 σ3 σ4 σ5 σ6 σ7 σ8 σ9 σ10 σ11 σ12 σ13 σ14 σ15 σ16 σ17 σ18 (xspl sm b K) σ20 σ21 σ22 σ23 σ24 σ25 σ26 σ27 σ28 σ29 σ30 sm b K h g (by omega) (by omega) (by omega)) (cwV 3 hts gX9_leftIn_X9_pieces rfl rfl rfl (by decide +kernel) ⟨Nat.le_of_ble_eq_true rfl, Nat.le_of_ble_eq_true rfl⟩) hM [0] rfl rfl 0 0 rfl rfl rfl rfl rfl hl.1 rfl (Nat.le_of_ble_eq_true rfl) dX9_leftIn_6 ⟨Nat.le_of_ble_eq_true rfl, Nat.le_of_ble_eq_true rfl⟩) (fun r u H locs hq hM => ?_)
  subst hq
  have hM : xM D (TY q) [w9 q ad σ0 σ1 σ2 σ3 σ4 σ5 σ6 σ7 σ8 σ9 σ10 σ11 σ12 σ13 σ14 σ15 σ16 σ17 σ18 (xspl sm b K) σ20 σ21 σ22 σ23 σ24 σ25 σ26 σ27 σ28 σ29 σ30] A s.heap s H locs := hM
  refine x_calli (bc := [w9 q ad σ0 σ1 σ2 σ3 σ4 σ5 σ6 σ7 σ8 σ9 σ10 σ11 σ12 σ13 σ14 σ15 σ16 σ17 σ18 (xspl sm b K) σ20 σ21 σ22 σ23 σ24 σ25 σ26 σ27 σ28 σ29 σ30]) (br := []) hM [0] [] rfl rfl rfl (by decide) (x_runV (As := [.int (nI g), .int (K (5 * h + g))]) (rest := []) hfix (c_X9_leftOf l D q ad σ0 σ1 σ2 σ3 σ4 σ5 σ6 σ7 σ8 σ9 σ10 σ11 σ12 σ13 σ14 σ15 σ16 σ17 σ18 (xspl sm b K) σ20 σ21 σ22 σ23 σ24 σ25 σ26 σ27 σ28 σ29 σ30 g (K (5 * h + g)) (by omega)) (cwV 2 hts gX9_leftIn_X9_leftOf rfl rfl rfl (by decide +kernel) ⟨Nat.le_of_ble_eq_true rfl, Nat.le_of_ble_eq_true rfl⟩) hM [0] rfl rfl 0 0 rfl rfl rfl rfl rfl hl.1 rfl (Nat.le_of_ble_eq_true rfl) dX9_leftIn_9 ⟨Nat.le_of_ble_eq_true rfl, Nat.le_of_ble_eq_true rfl⟩) (fun r u H locs hq hM => ?_)
  subst hq
  have hM : xM D (TY q) [w9 q ad σ0 σ1 σ2 σ3 σ4 σ5 σ6 σ7 σ8 σ9 σ10 σ11 σ12 σ13 σ14 σ15 σ16 σ17 σ18 (xspl sm b K) σ20 σ21 σ22 σ23 σ24 σ25 σ26 σ27 σ28 σ29 σ30] A s.heap s H locs := hM
  exact x_iret hx hb hr hlocks () hM (show xlf (σ4 g) (K (5 * h + g)) = xlf (σ4 g) (K (5 * h + g)) from rfl) dX9_leftIn_12

set_option maxHeartbeats 4000000 in
set_option maxRecDepth 100000 in
theorem c_X9_worthInK (l : Launch) (D : va_G) (q : Nat → ClassId) (ad : Nat → Nat) (σ0 : Int32) (σ1 : Nat → Int32) (σ2 : Nat → Int32) (σ3 : Nat → Int32) (σ4 : Nat → Int32) (σ5 : Nat → Int32) (σ6 : Nat → Int32) (σ7 : Nat → Int32) (σ8 : Nat → Int32) (σ9 : Nat → Int32) (σ10 : Nat → Int32) (σ11 : Nat → Int32) (σ12 : Nat → Int32) (σ13 : Nat → Int32) (σ14 : Nat → Int32) (σ15 : Nat → Int32) (σ16 : Nat → Int32) (σ17 : Nat → Int32) (σ18 : Nat → Int32) (σ19 : Nat → Int32) (σ20 : Int32) (σ21 : Int32) (σ22 : Int32) (σ23 : Nat → Int32) (σ24 : Int32) (σ25 : Int32) (σ26 : Nat → Int32) (σ27 : Nat → Int32) (σ28 : Nat → Int32) (σ29 : Nat → Int32) (σ30 : Nat → Int32) (sm : Nat → Int32) (b : Nat) (K : Nat → Int32) (h : Nat) (hb0 : b < 13) (hh0 : h < 5) (hc2 : σ2 0 = nI (tn (σ2 0)) ∧ tn (σ2 0) ≤ 5) : xC l yX9_worthIn wsX9_worthIn ({ frames := 2, cells := 0, slots := 0, locals := 46 }) D (TY q) [w9 q ad σ0 σ1 σ2 σ3 σ4 σ5 σ6 σ7 σ8 σ9 σ10 σ11 σ12 σ13 σ14 σ15 σ16 σ17 σ18 (xspl sm b K) σ20 σ21 σ22 σ23 σ24 σ25 σ26 σ27 σ28 σ29 σ30] [.ref (ad 0), .int (nI b), .int (nI h)] (xQi D (TY q) (fun (r : Int32) (_ : Unit) => r = kW σ3 σ4 (tn (σ2 0)) K h) (fun _ => [w9 q ad σ0 σ1 σ2 σ3 σ4 σ5 σ6 σ7 σ8 σ9 σ10 σ11 σ12 σ13 σ14 σ15 σ16 σ17 σ18 (xspl sm b K) σ20 σ21 σ22 σ23 σ24 σ25 σ26 σ27 σ28 σ29 σ30])) 0 0 := by
  refine x_enter (cc := cX9_worthIn) (maxL := 5) (ret := (some .int)) (by decide) rfl (Nat.le_of_ble_eq_true rfl) ?_
  intro p e s m below meth c A ls H locs hfix hr hlocks hinit hM hl
  obtain ⟨hx, hb, hml, hown, hts⟩ := id hfix
  have hl : lv_has ls 5 [(0, .ref (ad 0)), (1, .int (nI b)), (2, .int (nI h))] := hl
  have hc2b := hc2.2
  refine lv_iconst (v := nI 0) hx hb dX9_worthIn_0 (by decide) ?_
  refine lv_istore_n (lv' := [(3, .int (nI 0)), (0, .ref (ad 0)), (1, .int (nI b)), (2, .int (nI h))]) hx hb dX9_worthIn_1 rfl hl (by decide) rfl (fun ls hl => ?_)
  refine lv_iconst (v := nI 0) hx hb dX9_worthIn_2 (by decide) ?_
  refine lv_istore (lv' := [(4, .int (nI 0)), (3, .int (nI 0)), (0, .ref (ad 0)), (1, .int (nI b)), (2, .int (nI h))]) hx hb dX9_worthIn_3 hl (by decide) rfl (fun ls hl => ?_)
  refine x_loop (ι := Nat) (fun k => [(0, .ref (ad 0)), (1, .int (nI b)), (2, .int (nI h)), (3, .int (kWp σ3 σ4 K h k)), (4, .int (nI k))]) (fun k => [w9 q ad σ0 σ1 σ2 σ3 σ4 σ5 σ6 σ7 σ8 σ9 σ10 σ11 σ12 σ13 σ14 σ15 σ16 σ17 σ18 (xspl sm b K) σ20 σ21 σ22 σ23 σ24 σ25 σ26 σ27 σ28 σ29 σ30]) (fun k => k ≤ tn (σ2 0)) (fun k => tn (σ2 0) - k) 0 (by omega) hM (lv_sub hl [2, 3, 4, 1, 0] rfl) ?_
  intro k hI2 ih1 H locs hM ls hl
  have hM : xM D (TY q) [w9 q ad σ0 σ1 σ2 σ3 σ4 σ5 σ6 σ7 σ8 σ9 σ10 σ11 σ12 σ13 σ14 σ15 σ16 σ17 σ18 (xspl sm b K) σ20 σ21 σ22 σ23 σ24 σ25 σ26 σ27 σ28 σ29 σ30] A s.heap s H locs := hM
  have hl : lv_has ls 5 [(0, .ref (ad 0)), (1, .int (nI b)), (2, .int (nI h)), (3, .int (kWp σ3 σ4 K h k)), (4, .int (nI k))] := hl
  have hI2 : k ≤ tn (σ2 0) := hI2
  try dsimp only
  refine lv_iload hx hb dX9_worthIn_5 (lv_at hl 4 rfl) ?_
  refine lv_aload_n hx hb dX9_worthIn_7 rfl (lv_at hl 0 rfl) ?_
  refine x_get hx hb hts iwX9_worthIn_X9 hown hM 0 0 rfl rfl rfl 2 (by decide) (hts _ lkX9_worthIn_13) (fun _ h => h) rfl dX9_worthIn_8 ?_
  refine lv_iconst (v := nI 0) hx hb dX9_worthIn_11 (by decide) ?_
  refine x_iald hx hb hM 0 2 0 (f := σ2) rfl rfl rfl (t := 0) (by omega) (by decide) dX9_worthIn_12 ?_
  refine x_cast (y := nI (tn (σ2 0))) hc2.1 ?_
  refine x_icmp_ge (x := k) (y := tn (σ2 0)) (tgt := 41) hx hb (by omega) (by omega) dX9_worthIn_13 (by decide) (fun c3 => ?_) (fun c3 => ?_)
  · refine lv_iload_n hx hb dX9_worthIn_41 rfl (lv_at hl 3 rfl) ?_
    exact x_iret hx hb hr hlocks () hM (show kWp σ3 σ4 K h k = kW σ3 σ4 (tn (σ2 0)) K h from by (have hk9 : k = tn (σ2 0) := (by omega); rw [hk9]; rfl)) dX9_worthIn_42
  · refine lv_iload_n hx hb dX9_worthIn_16 rfl (lv_at hl 3 rfl) ?_
    refine lv_aload_n hx hb dX9_worthIn_17 rfl (lv_at hl 0 rfl) ?_
    refine x_get hx hb hts iwX9_worthIn_X9 hown hM 0 0 rfl rfl rfl 3 (by decide) (hts _ lkX9_worthIn_16) (fun _ h => h) rfl dX9_worthIn_18 ?_
    refine lv_iload hx hb dX9_worthIn_21 (lv_at hl 4 rfl) ?_
    refine x_iald hx hb hM 0 3 0 (f := σ3) rfl rfl rfl (t := k) (by omega) (by decide) dX9_worthIn_23 ?_
    refine lv_aload_n hx hb dX9_worthIn_24 rfl (lv_at hl 0 rfl) ?_
    refine lv_iload_n hx hb dX9_worthIn_25 rfl (lv_at hl 1 rfl) ?_
    refine lv_iload_n hx hb dX9_worthIn_26 rfl (lv_at hl 2 rfl) ?_
    refine lv_iload hx hb dX9_worthIn_27 (lv_at hl 4 rfl) ?_
    refine x_calli (bc := [w9 q ad σ0 σ1 σ2 σ3 σ4 σ5 σ6 σ7 σ8 σ9 σ10 σ11 σ12 σ13 σ14 σ15 σ16 σ17 σ18 (xspl sm b K) σ20 σ21 σ22 σ23 σ24 σ25 σ26 σ27 σ28 σ29 σ30]) (br := []) hM [0] [] rfl rfl rfl (by decide) (x_runV (As := [.int (nI b), .int (nI h), .int (nI k)]) (rest := [.int (σ3 k), .int (kWp σ3 σ4 K h k)]) hfix (c_X9_leftInK l D q ad σ0 σ1 σ2 σ3 σ4 σ5 σ6 σ7 σ8 σ9 σ10 σ11 σ12 σ13 σ14 σ15 σ16 σ17 σ18 (xspl sm b K) σ20 σ21 σ22 σ23 σ24 σ25 σ26 σ27 σ28 σ29 σ30 sm b K h k (by omega) (by omega) (by omega)) (cwV 3 hts gX9_worthIn_X9_leftIn rfl rfl rfl (by decide +kernel) ⟨Nat.le_of_ble_eq_true rfl, Nat.le_of_ble_eq_true rfl⟩) hM [0] rfl rfl 0 0 rfl rfl rfl rfl rfl hl.1 rfl (Nat.le_of_ble_eq_true rfl) dX9_worthIn_29 ⟨Nat.le_of_ble_eq_true rfl, Nat.le_of_ble_eq_true rfl⟩) (fun r u H locs hq hM => ?_)
    subst hq
    have hM : xM D (TY q) [w9 q ad σ0 σ1 σ2 σ3 σ4 σ5 σ6 σ7 σ8 σ9 σ10 σ11 σ12 σ13 σ14 σ15 σ16 σ17 σ18 (xspl sm b K) σ20 σ21 σ22 σ23 σ24 σ25 σ26 σ27 σ28 σ29 σ30] A s.heap s H locs := hM
    refine lv_imul hx hb dX9_worthIn_32 ?_
    refine lv_iadd hx hb dX9_worthIn_33 ?_
    refine lv_istore_n (lv' := [(3, .int ((kWp σ3 σ4 K h k) + ((σ3 k) * (xlf (σ4 k) (K (5 * h + k)))))), (0, .ref (ad 0)), (1, .int (nI b)), (2, .int (nI h)), (4, .int (nI k))]) hx hb dX9_worthIn_34 rfl hl (by decide) rfl (fun ls hl => ?_)
    refine lv_iinc (v := nI (k + 1)) (lv' := [(4, .int (nI (k + 1))), (3, .int ((kWp σ3 σ4 K h k) + ((σ3 k) * (xlf (σ4 k) (K (5 * h + k)))))), (0, .ref (ad 0)), (1, .int (nI b)), (2, .int (nI h))]) hx hb dX9_worthIn_35 hl (k := 4) rfl (x_inc _ 1) (by decide) rfl (fun ls hl => ?_)
    refine lv_goto (tgt := 5) hx hb dX9_worthIn_38 (by decide) ?_
    have hl : lv_has ls 5 [(0, .ref (ad 0)), (1, .int (nI b)), (2, .int (nI h)), (3, .int ((kWp σ3 σ4 K h k) + ((σ3 k) * (xlf (σ4 k) (K (5 * h + k)))))), (4, .int (nI (k + 1)))] := lv_sub hl [2, 3, 4, 1, 0] rfl
    exact ih1 (k + 1) (show tn (σ2 0) - (k + 1) < tn (σ2 0) - k from by omega) (show (k + 1) ≤ tn (σ2 0) from by omega) _ _ hM _ hl

set_option maxHeartbeats 4000000 in
set_option maxRecDepth 100000 in
theorem c_X9_worthOfAllK (l : Launch) (D : va_G) (q : Nat → ClassId) (ad : Nat → Nat) (σ0 : Int32) (σ1 : Nat → Int32) (σ2 : Nat → Int32) (σ3 : Nat → Int32) (σ4 : Nat → Int32) (σ5 : Nat → Int32) (σ6 : Nat → Int32) (σ7 : Nat → Int32) (σ8 : Nat → Int32) (σ9 : Nat → Int32) (σ10 : Nat → Int32) (σ11 : Nat → Int32) (σ12 : Nat → Int32) (σ13 : Nat → Int32) (σ14 : Nat → Int32) (σ15 : Nat → Int32) (σ16 : Nat → Int32) (σ17 : Nat → Int32) (σ18 : Nat → Int32) (σ19 : Nat → Int32) (σ20 : Int32) (σ21 : Int32) (σ22 : Int32) (σ23 : Nat → Int32) (σ24 : Int32) (σ25 : Int32) (σ26 : Nat → Int32) (σ27 : Nat → Int32) (σ28 : Nat → Int32) (σ29 : Nat → Int32) (σ30 : Nat → Int32) (sm : Nat → Int32) (b : Nat) (K : Nat → Int32) (hb0 : b < 13) (hc2 : σ2 0 = nI (tn (σ2 0)) ∧ tn (σ2 0) ≤ 5) (hc5 : σ5 0 = nI (tn (σ5 0)) ∧ tn (σ5 0) ≤ 5) : xC l yX9_worthOfAll wsX9_worthOfAll ({ frames := 3, cells := 0, slots := 0, locals := 70 }) D (TY q) [w9 q ad σ0 σ1 σ2 σ3 σ4 σ5 σ6 σ7 σ8 σ9 σ10 σ11 σ12 σ13 σ14 σ15 σ16 σ17 σ18 (xspl sm b K) σ20 σ21 σ22 σ23 σ24 σ25 σ26 σ27 σ28 σ29 σ30] [.ref (ad 0), .int (nI b)] (xQi D (TY q) (fun (r : Int32) (_ : Unit) => r = kWA σ3 σ4 (tn (σ2 0)) (tn (σ5 0)) K) (fun _ => [w9 q ad σ0 σ1 σ2 σ3 σ4 σ5 σ6 σ7 σ8 σ9 σ10 σ11 σ12 σ13 σ14 σ15 σ16 σ17 σ18 (xspl sm b K) σ20 σ21 σ22 σ23 σ24 σ25 σ26 σ27 σ28 σ29 σ30])) 0 0 := by
  refine x_enter (cc := cX9_worthOfAll) (maxL := 4) (ret := (some .int)) (by decide) rfl (Nat.le_of_ble_eq_true rfl) ?_
  intro p e s m below meth c A ls H locs hfix hr hlocks hinit hM hl
  obtain ⟨hx, hb, hml, hown, hts⟩ := id hfix
  have hl : lv_has ls 4 [(0, .ref (ad 0)), (1, .int (nI b))] := hl
  have hc2b := hc2.2
  have hc5b := hc5.2
  refine lv_iconst (v := nI 0) hx hb dX9_worthOfAll_0 (by decide) ?_
  refine lv_istore_n (lv' := [(2, .int (nI 0)), (0, .ref (ad 0)), (1, .int (nI b))]) hx hb dX9_worthOfAll_1 rfl hl (by decide) rfl (fun ls hl => ?_)
  refine lv_iconst (v := nI 0) hx hb dX9_worthOfAll_2 (by decide) ?_
  refine lv_istore_n (lv' := [(3, .int (nI 0)), (2, .int (nI 0)), (0, .ref (ad 0)), (1, .int (nI b))]) hx hb dX9_worthOfAll_3 rfl hl (by decide) rfl (fun ls hl => ?_)
  refine x_loop (ι := Nat) (fun k => [(0, .ref (ad 0)), (1, .int (nI b)), (2, .int (xsum (fun h => kW σ3 σ4 (tn (σ2 0)) K h) k)), (3, .int (nI k))]) (fun k => [w9 q ad σ0 σ1 σ2 σ3 σ4 σ5 σ6 σ7 σ8 σ9 σ10 σ11 σ12 σ13 σ14 σ15 σ16 σ17 σ18 (xspl sm b K) σ20 σ21 σ22 σ23 σ24 σ25 σ26 σ27 σ28 σ29 σ30]) (fun k => k ≤ tn (σ5 0)) (fun k => tn (σ5 0) - k) 0 (by omega) hM (lv_sub hl [2, 3, 1, 0] rfl) ?_
  intro k hI2 ih1 H locs hM ls hl
  have hM : xM D (TY q) [w9 q ad σ0 σ1 σ2 σ3 σ4 σ5 σ6 σ7 σ8 σ9 σ10 σ11 σ12 σ13 σ14 σ15 σ16 σ17 σ18 (xspl sm b K) σ20 σ21 σ22 σ23 σ24 σ25 σ26 σ27 σ28 σ29 σ30] A s.heap s H locs := hM
  have hl : lv_has ls 4 [(0, .ref (ad 0)), (1, .int (nI b)), (2, .int (xsum (fun h => kW σ3 σ4 (tn (σ2 0)) K h) k)), (3, .int (nI k))] := hl
  have hI2 : k ≤ tn (σ5 0) := hI2
  try dsimp only
  refine lv_iload_n hx hb dX9_worthOfAll_4 rfl (lv_at hl 3 rfl) ?_
  refine lv_aload_n hx hb dX9_worthOfAll_5 rfl (lv_at hl 0 rfl) ?_
  refine x_get hx hb hts iwX9_worthOfAll_X9 hown hM 0 0 rfl rfl rfl 5 (by decide) (hts _ lkX9_worthOfAll_22) (fun _ h => h) rfl dX9_worthOfAll_6 ?_
  refine lv_iconst (v := nI 0) hx hb dX9_worthOfAll_9 (by decide) ?_
  refine x_iald hx hb hM 0 5 0 (f := σ5) rfl rfl rfl (t := 0) (by omega) (by decide) dX9_worthOfAll_10 ?_
  refine x_cast (y := nI (tn (σ5 0))) hc5.1 ?_
  refine x_icmp_ge (x := k) (y := tn (σ5 0)) (tgt := 29) hx hb (by omega) (by omega) dX9_worthOfAll_11 (by decide) (fun c3 => ?_) (fun c3 => ?_)
  · refine lv_iload_n hx hb dX9_worthOfAll_29 rfl (lv_at hl 2 rfl) ?_
    exact x_iret hx hb hr hlocks () hM (show xsum (fun h => kW σ3 σ4 (tn (σ2 0)) K h) k = kWA σ3 σ4 (tn (σ2 0)) (tn (σ5 0)) K from by (have hk9 : k = tn (σ5 0) := (by omega); rw [hk9]; rfl)) dX9_worthOfAll_30
  · refine lv_iload_n hx hb dX9_worthOfAll_14 rfl (lv_at hl 2 rfl) ?_
    refine lv_aload_n hx hb dX9_worthOfAll_15 rfl (lv_at hl 0 rfl) ?_
    refine lv_iload_n hx hb dX9_worthOfAll_16 rfl (lv_at hl 1 rfl) ?_
    refine lv_iload_n hx hb dX9_worthOfAll_17 rfl (lv_at hl 3 rfl) ?_
    refine x_calli (bc := [w9 q ad σ0 σ1 σ2 σ3 σ4 σ5 σ6 σ7 σ8 σ9 σ10 σ11 σ12 σ13 σ14 σ15 σ16 σ17 σ18 (xspl sm b K) σ20 σ21 σ22 σ23 σ24 σ25 σ26 σ27 σ28 σ29 σ30]) (br := []) hM [0] [] rfl rfl rfl (by decide) (x_runV (As := [.int (nI b), .int (nI k)]) (rest := [.int (xsum (fun h => kW σ3 σ4 (tn (σ2 0)) K h) k)]) hfix (c_X9_worthInK l D q ad σ0 σ1 σ2 σ3 σ4 σ5 σ6 σ7 σ8 σ9 σ10 σ11 σ12 σ13 σ14 σ15 σ16 σ17 σ18 (xspl sm b K) σ20 σ21 σ22 σ23 σ24 σ25 σ26 σ27 σ28 σ29 σ30 sm b K k (by omega) (by omega) hc2) (cwV 2 hts gX9_worthOfAll_X9_worthIn rfl rfl rfl (by decide +kernel) ⟨Nat.le_of_ble_eq_true rfl, Nat.le_of_ble_eq_true rfl⟩) hM [0] rfl rfl 0 0 rfl rfl rfl rfl rfl hl.1 rfl (Nat.le_of_ble_eq_true rfl) dX9_worthOfAll_18 ⟨Nat.le_of_ble_eq_true rfl, Nat.le_of_ble_eq_true rfl⟩) (fun r u H locs hq hM => ?_)
    subst hq
    have hM : xM D (TY q) [w9 q ad σ0 σ1 σ2 σ3 σ4 σ5 σ6 σ7 σ8 σ9 σ10 σ11 σ12 σ13 σ14 σ15 σ16 σ17 σ18 (xspl sm b K) σ20 σ21 σ22 σ23 σ24 σ25 σ26 σ27 σ28 σ29 σ30] A s.heap s H locs := hM
    refine lv_iadd hx hb dX9_worthOfAll_21 ?_
    refine lv_istore_n (lv' := [(2, .int ((xsum (fun h => kW σ3 σ4 (tn (σ2 0)) K h) k) + (kW σ3 σ4 (tn (σ2 0)) K k))), (0, .ref (ad 0)), (1, .int (nI b)), (3, .int (nI k))]) hx hb dX9_worthOfAll_22 rfl hl (by decide) rfl (fun ls hl => ?_)
    refine lv_iinc (v := nI (k + 1)) (lv' := [(3, .int (nI (k + 1))), (2, .int ((xsum (fun h => kW σ3 σ4 (tn (σ2 0)) K h) k) + (kW σ3 σ4 (tn (σ2 0)) K k))), (0, .ref (ad 0)), (1, .int (nI b))]) hx hb dX9_worthOfAll_23 hl (k := 3) rfl (x_inc _ 1) (by decide) rfl (fun ls hl => ?_)
    refine lv_goto (tgt := 4) hx hb dX9_worthOfAll_26 (by decide) ?_
    have hl : lv_has ls 4 [(0, .ref (ad 0)), (1, .int (nI b)), (2, .int ((xsum (fun h => kW σ3 σ4 (tn (σ2 0)) K h) k) + (kW σ3 σ4 (tn (σ2 0)) K k))), (3, .int (nI (k + 1)))] := lv_sub hl [2, 3, 1, 0] rfl
    exact ih1 (k + 1) (show tn (σ5 0) - (k + 1) < tn (σ5 0) - k from by omega) (show (k + 1) ≤ tn (σ5 0) from by omega) _ _ hM _ hl

set_option maxRecDepth 20000 in
theorem ggX9_taken_X9_isHouse : GoodIn wsX9_taken wsX9_isHouse := goodIn_r _ [5, 6, 7, 8, 4, 9, 92, 93, 94, 95, 96, 97, 98, 99, 100, 101, 102, 103, 104, 105, 106, 107, 108, 109, 110, 111, 112, 113, 114, 115, 116, 117, 118, 119, 120, 121, 122] (by decide +kernel) (by decide +kernel)
set_option maxRecDepth 20000 in
theorem gX9_taken_X9_isHouse : GoodIn wsX9_taken (wsV RX9 222 RX9 yX9_isHouse wsX9_isHouse) := goodIn_app (goodIn_of _ (by decide +kernel)) ggX9_taken_X9_isHouse
set_option maxRecDepth 20000 in
theorem ggX9_taken_X9_tryToFive : GoodIn wsX9_taken wsX9_tryToFive := goodIn_r _ [13, 14, 15, 16, 4, 17, 18, 19, 20, 21, 22, 23, 24, 25, 26, 27, 28, 29, 30, 31, 32, 33, 34, 35, 36, 37, 38, 39, 40, 41, 42, 43, 44, 45, 46, 47, 48, 49, 50, 51, 52, 53, 6, 54, 55, 56, 57, 58, 59, 60, 61, 62, 63, 64, 65, 66, 67, 68, 69, 70, 71, 72, 73, 74, 92, 93, 94, 95, 96, 97, 98, 99, 100, 101, 102, 103, 104, 105, 106, 107, 108, 109, 110, 111, 112, 113, 114, 115, 116, 117, 118, 119, 120, 121, 122] (by decide +kernel) (by decide +kernel)
set_option maxRecDepth 20000 in
theorem gX9_taken_X9_tryToFive : GoodIn wsX9_taken (wsV RX9 228 RX9 yX9_tryToFive wsX9_tryToFive) := goodIn_app (goodIn_of _ (by decide +kernel)) ggX9_taken_X9_tryToFive
set_option maxRecDepth 20000 in
theorem ggX9_taken_X9_worthOfAll : GoodIn wsX9_taken wsX9_worthOfAll := goodIn_r _ [78, 6, 79, 80, 81, 4, 82, 54, 83, 84, 85, 86, 87, 56, 57, 58, 59, 18, 88, 89, 90, 91, 55, 92, 93, 94, 95, 96, 97, 98, 99, 100, 101, 102, 103, 104, 105, 106, 107, 108, 109, 110, 111, 112, 113, 114, 115, 116, 117, 118, 119, 120, 121, 122] (by decide +kernel) (by decide +kernel)
set_option maxRecDepth 20000 in
theorem gX9_taken_X9_worthOfAll : GoodIn wsX9_taken (wsV RX9 251 RX9 yX9_worthOfAll wsX9_worthOfAll) := goodIn_app (goodIn_of _ (by decide +kernel)) ggX9_taken_X9_worthOfAll
set_option maxRecDepth 20000 in
theorem ggX9_taken_X9_worthIn : GoodIn wsX9_taken wsX9_worthIn := goodIn_r _ [82, 54, 83, 84, 85, 86, 4, 87, 56, 57, 58, 59, 18, 88, 89, 90, 91, 55, 92, 93, 94, 95, 96, 97, 98, 99, 100, 101, 102, 103, 104, 105, 106, 107, 108, 109, 110, 111, 112, 113, 114, 115, 116, 117, 118, 119, 120, 121, 122] (by decide +kernel) (by decide +kernel)
set_option maxRecDepth 20000 in
theorem gX9_taken_X9_worthIn : GoodIn wsX9_taken (wsV RX9 213 RX9 yX9_worthIn wsX9_worthIn) := goodIn_app (goodIn_of _ (by decide +kernel)) ggX9_taken_X9_worthIn
theorem dX9_taken_0 : decode cX9_taken 0 = .ok (.iload_n 1, 1) := by decide +kernel
theorem dX9_taken_1 : decode cX9_taken 1 = .ok (.iconst (-1), 1) := by decide +kernel
theorem dX9_taken_2 : decode cX9_taken 2 = .ok (.if_icmp .eq 13, 3) := by decide +kernel
theorem dX9_taken_5 : decode cX9_taken 5 = .ok (.aload_n 0, 1) := by decide +kernel
theorem dX9_taken_6 : decode cX9_taken 6 = .ok (.iload_n 1, 1) := by decide +kernel
theorem dX9_taken_7 : decode cX9_taken 7 = .ok (.invokevirtual 222, 3) := by decide +kernel
theorem dX9_taken_10 : decode cX9_taken 10 = .ok (.ifCond .ne 5, 3) := by decide +kernel
theorem dX9_taken_13 : decode cX9_taken 13 = .ok (.iconst (-1), 1) := by decide +kernel
theorem dX9_taken_14 : decode cX9_taken 14 = .ok (.ireturn, 1) := by decide +kernel
theorem dX9_taken_15 : decode cX9_taken 15 = .ok (.aload_n 0, 1) := by decide +kernel
theorem dX9_taken_16 : decode cX9_taken 16 = .ok (.invokevirtual 228, 3) := by decide +kernel
theorem dX9_taken_19 : decode cX9_taken 19 = .ok (.iload_n 1, 1) := by decide +kernel
theorem dX9_taken_20 : decode cX9_taken 20 = .ok (.ifCond .ge 12, 3) := by decide +kernel
theorem dX9_taken_23 : decode cX9_taken 23 = .ok (.aload_n 0, 1) := by decide +kernel
theorem dX9_taken_24 : decode cX9_taken 24 = .ok (.bipush 11, 2) := by decide +kernel
theorem dX9_taken_26 : decode cX9_taken 26 = .ok (.invokevirtual 251, 3) := by decide +kernel
theorem dX9_taken_29 : decode cX9_taken 29 = .ok (.goto 10, 3) := by decide +kernel
theorem dX9_taken_32 : decode cX9_taken 32 = .ok (.aload_n 0, 1) := by decide +kernel
theorem dX9_taken_33 : decode cX9_taken 33 = .ok (.bipush 11, 2) := by decide +kernel
theorem dX9_taken_35 : decode cX9_taken 35 = .ok (.iload_n 1, 1) := by decide +kernel
theorem dX9_taken_36 : decode cX9_taken 36 = .ok (.invokevirtual 213, 3) := by decide +kernel
theorem dX9_taken_39 : decode cX9_taken 39 = .ok (.ireturn, 1) := by decide +kernel
set_option maxHeartbeats 4000000 in
set_option maxRecDepth 100000 in
theorem c_X9_takenA (l : Launch) (D : va_G) (q : Nat → ClassId) (ad : Nat → Nat) (σ0 : Int32) (σ1 : Nat → Int32) (σ2 : Nat → Int32) (σ3 : Nat → Int32) (σ4 : Nat → Int32) (σ5 : Nat → Int32) (σ6 : Nat → Int32) (σ7 : Nat → Int32) (σ8 : Nat → Int32) (σ9 : Nat → Int32) (σ10 : Nat → Int32) (σ11 : Nat → Int32) (σ12 : Nat → Int32) (σ13 : Nat → Int32) (σ14 : Nat → Int32) (σ15 : Nat → Int32) (σ16 : Nat → Int32) (σ17 : Nat → Int32) (σ18 : Nat → Int32) (σ19 : Nat → Int32) (σ20 : Int32) (σ21 : Int32) (σ22 : Int32) (σ23 : Nat → Int32) (σ24 : Int32) (σ25 : Int32) (σ26 : Nat → Int32) (σ27 : Nat → Int32) (σ28 : Nat → Int32) (σ29 : Nat → Int32) (σ30 : Nat → Int32) (hc2 : σ2 0 = nI (tn (σ2 0)) ∧ tn (σ2 0) ≤ 5) (hc5 : σ5 0 = nI (tn (σ5 0)) ∧ tn (σ5 0) ≤ 5) (hc8 : σ8 0 = nI (tn (σ8 0)) ∧ tn (σ8 0) ≤ 8) (hE : okE σ9 σ10 σ11 (tn (σ8 0))) (hK0 : okK (xreg σ19 0)) : xC l yX9_taken wsX9_taken ({ frames := 5, cells := 0, slots := 0, locals := 116 }) D (TY q) [w9 q ad σ0 σ1 σ2 σ3 σ4 σ5 σ6 σ7 σ8 σ9 σ10 σ11 σ12 σ13 σ14 σ15 σ16 σ17 σ18 σ19 σ20 σ21 σ22 σ23 σ24 σ25 σ26 σ27 σ28 σ29 σ30] [.ref (ad 0), .int (-1)] (xQi D (TY q) (fun (r : Int32) (_ : (Nat → Int32) × Int32 × Int32) => r = kWA σ3 σ4 (tn (σ2 0)) (tn (σ5 0)) (kGoN σ4 (tn (σ2 0)) (tn (σ5 0)) σ9 σ10 σ11 (tn (σ8 0)) (-4) (xreg σ19 0, σ24, nI 0) (60 - tn (xreg σ19 0 25))).1) (fun (u : (Nat → Int32) × Int32 × Int32) => [w9 q ad σ0 σ1 σ2 σ3 σ4 σ5 σ6 σ7 σ8 σ9 σ10 σ11 σ12 σ13 σ14 σ15 σ16 σ17 σ18 (xspl σ19 11 u.1) σ20 σ21 σ22 σ23 u.2.1 u.2.2 σ26 σ27 σ28 σ29 σ30])) 0 0 := by
  refine x_enter (cc := cX9_taken) (maxL := 2) (ret := (some .int)) (by decide) rfl (Nat.le_of_ble_eq_true rfl) ?_
  intro p e s m below meth c A ls H locs hfix hr hlocks hinit hM hl
  obtain ⟨hx, hb, hml, hown, hts⟩ := id hfix
  have hl : lv_has ls 2 [(0, .ref (ad 0)), (1, .int (-1))] := hl
  have hc2b := hc2.2
  have hc5b := hc5.2
  have hc8b := hc8.2
  have hT0 := hK0.1.2
  have hW0 := hK0.2.1.2
  refine lv_iload_n hx hb dX9_taken_0 rfl (lv_at hl 1 rfl) ?_
  refine lv_iconst (v := (-1)) hx hb dX9_taken_1 (by decide) ?_
  refine lv_icmp_eq (tgt := 15) hx hb dX9_taken_2 (by decide) (fun c1 => ?_) (fun c1 => ?_)
  · refine lv_aload_n hx hb dX9_taken_15 rfl (lv_at hl 0 rfl) ?_
    refine x_callv (bc := [w9 q ad σ0 σ1 σ2 σ3 σ4 σ5 σ6 σ7 σ8 σ9 σ10 σ11 σ12 σ13 σ14 σ15 σ16 σ17 σ18 σ19 σ20 σ21 σ22 σ23 σ24 σ25 σ26 σ27 σ28 σ29 σ30]) (br := []) hM [0] [] rfl rfl rfl (by decide) (x_runV (As := []) (rest := []) hfix (c_X9_tryToFive l D q ad σ0 σ1 σ2 σ3 σ4 σ5 σ6 σ7 σ8 σ9 σ10 σ11 σ12 σ13 σ14 σ15 σ16 σ17 σ18 σ19 σ20 σ21 σ22 σ23 σ24 σ25 σ26 σ27 σ28 σ29 σ30 hc2 hc5 hc8 hE hK0) (cwV 0 hts gX9_taken_X9_tryToFive rfl rfl rfl (by decide +kernel) ⟨Nat.le_of_ble_eq_true rfl, Nat.le_of_ble_eq_true rfl⟩) hM [0] rfl rfl 0 0 rfl rfl rfl rfl rfl hl.1 rfl (Nat.le_of_ble_eq_true rfl) dX9_taken_16 ⟨Nat.le_of_ble_eq_true rfl, Nat.le_of_ble_eq_true rfl⟩) (fun u H locs hq hM => ?_)
    have hM : xM D (TY q) [w9 q ad σ0 σ1 σ2 σ3 σ4 σ5 σ6 σ7 σ8 σ9 σ10 σ11 σ12 σ13 σ14 σ15 σ16 σ17 σ18 (xspl σ19 11 (kGoN σ4 (tn (σ2 0)) (tn (σ5 0)) σ9 σ10 σ11 (tn (σ8 0)) (-4) (xreg σ19 0, σ24, nI 0) (60 - tn (xreg σ19 0 25))).1) σ20 σ21 σ22 σ23 (kGoN σ4 (tn (σ2 0)) (tn (σ5 0)) σ9 σ10 σ11 (tn (σ8 0)) (-4) (xreg σ19 0, σ24, nI 0) (60 - tn (xreg σ19 0 25))).2.1 (kGoN σ4 (tn (σ2 0)) (tn (σ5 0)) σ9 σ10 σ11 (tn (σ8 0)) (-4) (xreg σ19 0, σ24, nI 0) (60 - tn (xreg σ19 0 25))).2.2 σ26 σ27 σ28 σ29 σ30] A s.heap s H locs := hM
    refine lv_iload_n hx hb dX9_taken_19 rfl (lv_at hl 1 rfl) ?_
    refine lv_if_ge (tgt := 32) hx hb dX9_taken_20 (by decide) (fun c2 => ?_) (fun c2 => ?_)
    · exfalso; exact absurd (by assumption : (0 : Int32) ≤ (-1)) (by decide)
    · refine lv_aload_n hx hb dX9_taken_23 rfl (lv_at hl 0 rfl) ?_
      refine lv_bipush (v := nI 11) hx hb dX9_taken_24 (by decide) ?_
      refine x_calli (bc := [w9 q ad σ0 σ1 σ2 σ3 σ4 σ5 σ6 σ7 σ8 σ9 σ10 σ11 σ12 σ13 σ14 σ15 σ16 σ17 σ18 (xspl σ19 11 (kGoN σ4 (tn (σ2 0)) (tn (σ5 0)) σ9 σ10 σ11 (tn (σ8 0)) (-4) (xreg σ19 0, σ24, nI 0) (60 - tn (xreg σ19 0 25))).1) σ20 σ21 σ22 σ23 (kGoN σ4 (tn (σ2 0)) (tn (σ5 0)) σ9 σ10 σ11 (tn (σ8 0)) (-4) (xreg σ19 0, σ24, nI 0) (60 - tn (xreg σ19 0 25))).2.1 (kGoN σ4 (tn (σ2 0)) (tn (σ5 0)) σ9 σ10 σ11 (tn (σ8 0)) (-4) (xreg σ19 0, σ24, nI 0) (60 - tn (xreg σ19 0 25))).2.2 σ26 σ27 σ28 σ29 σ30]) (br := []) hM [0] [] rfl rfl rfl (by decide) (x_runV (As := [.int (nI 11)]) (rest := []) hfix (c_X9_worthOfAllK l D q ad σ0 σ1 σ2 σ3 σ4 σ5 σ6 σ7 σ8 σ9 σ10 σ11 σ12 σ13 σ14 σ15 σ16 σ17 σ18 (xspl σ19 11 (kGoN σ4 (tn (σ2 0)) (tn (σ5 0)) σ9 σ10 σ11 (tn (σ8 0)) (-4) (xreg σ19 0, σ24, nI 0) (60 - tn (xreg σ19 0 25))).1) σ20 σ21 σ22 σ23 (kGoN σ4 (tn (σ2 0)) (tn (σ5 0)) σ9 σ10 σ11 (tn (σ8 0)) (-4) (xreg σ19 0, σ24, nI 0) (60 - tn (xreg σ19 0 25))).2.1 (kGoN σ4 (tn (σ2 0)) (tn (σ5 0)) σ9 σ10 σ11 (tn (σ8 0)) (-4) (xreg σ19 0, σ24, nI 0) (60 - tn (xreg σ19 0 25))).2.2 σ26 σ27 σ28 σ29 σ30 σ19 11 (kGoN σ4 (tn (σ2 0)) (tn (σ5 0)) σ9 σ10 σ11 (tn (σ8 0)) (-4) (xreg σ19 0, σ24, nI 0) (60 - tn (xreg σ19 0 25))).1 (by omega) hc2 hc5) (cwV 1 hts gX9_taken_X9_worthOfAll rfl rfl rfl (by decide +kernel) ⟨Nat.le_of_ble_eq_true rfl, Nat.le_of_ble_eq_true rfl⟩) hM [0] rfl rfl 0 0 rfl rfl rfl rfl rfl hl.1 rfl (Nat.le_of_ble_eq_true rfl) dX9_taken_26 ⟨Nat.le_of_ble_eq_true rfl, Nat.le_of_ble_eq_true rfl⟩) (fun r u H locs hq hM => ?_)
      subst hq
      have hM : xM D (TY q) [w9 q ad σ0 σ1 σ2 σ3 σ4 σ5 σ6 σ7 σ8 σ9 σ10 σ11 σ12 σ13 σ14 σ15 σ16 σ17 σ18 (xspl σ19 11 (kGoN σ4 (tn (σ2 0)) (tn (σ5 0)) σ9 σ10 σ11 (tn (σ8 0)) (-4) (xreg σ19 0, σ24, nI 0) (60 - tn (xreg σ19 0 25))).1) σ20 σ21 σ22 σ23 (kGoN σ4 (tn (σ2 0)) (tn (σ5 0)) σ9 σ10 σ11 (tn (σ8 0)) (-4) (xreg σ19 0, σ24, nI 0) (60 - tn (xreg σ19 0 25))).2.1 (kGoN σ4 (tn (σ2 0)) (tn (σ5 0)) σ9 σ10 σ11 (tn (σ8 0)) (-4) (xreg σ19 0, σ24, nI 0) (60 - tn (xreg σ19 0 25))).2.2 σ26 σ27 σ28 σ29 σ30] A s.heap s H locs := hM
      refine lv_goto (tgt := 39) hx hb dX9_taken_29 (by decide) ?_
      exact x_iret hx hb hr hlocks ((kGoN σ4 (tn (σ2 0)) (tn (σ5 0)) σ9 σ10 σ11 (tn (σ8 0)) (-4) (xreg σ19 0, σ24, nI 0) (60 - tn (xreg σ19 0 25))).1, (kGoN σ4 (tn (σ2 0)) (tn (σ5 0)) σ9 σ10 σ11 (tn (σ8 0)) (-4) (xreg σ19 0, σ24, nI 0) (60 - tn (xreg σ19 0 25))).2.1, (kGoN σ4 (tn (σ2 0)) (tn (σ5 0)) σ9 σ10 σ11 (tn (σ8 0)) (-4) (xreg σ19 0, σ24, nI 0) (60 - tn (xreg σ19 0 25))).2.2) hM (show kWA σ3 σ4 (tn (σ2 0)) (tn (σ5 0)) (kGoN σ4 (tn (σ2 0)) (tn (σ5 0)) σ9 σ10 σ11 (tn (σ8 0)) (-4) (xreg σ19 0, σ24, nI 0) (60 - tn (xreg σ19 0 25))).1 = kWA σ3 σ4 (tn (σ2 0)) (tn (σ5 0)) (kGoN σ4 (tn (σ2 0)) (tn (σ5 0)) σ9 σ10 σ11 (tn (σ8 0)) (-4) (xreg σ19 0, σ24, nI 0) (60 - tn (xreg σ19 0 25))).1 from rfl) dX9_taken_39
  · exfalso; exact absurd rfl (by assumption)

set_option maxHeartbeats 4000000 in
set_option maxRecDepth 100000 in
theorem c_X9_taken (l : Launch) (D : va_G) (q : Nat → ClassId) (ad : Nat → Nat) (σ0 : Int32) (σ1 : Nat → Int32) (σ2 : Nat → Int32) (σ3 : Nat → Int32) (σ4 : Nat → Int32) (σ5 : Nat → Int32) (σ6 : Nat → Int32) (σ7 : Nat → Int32) (σ8 : Nat → Int32) (σ9 : Nat → Int32) (σ10 : Nat → Int32) (σ11 : Nat → Int32) (σ12 : Nat → Int32) (σ13 : Nat → Int32) (σ14 : Nat → Int32) (σ15 : Nat → Int32) (σ16 : Nat → Int32) (σ17 : Nat → Int32) (σ18 : Nat → Int32) (σ19 : Nat → Int32) (σ20 : Int32) (σ21 : Int32) (σ22 : Int32) (σ23 : Nat → Int32) (σ24 : Int32) (σ25 : Int32) (σ26 : Nat → Int32) (σ27 : Nat → Int32) (σ28 : Nat → Int32) (σ29 : Nat → Int32) (σ30 : Nat → Int32) (h : Nat) (hh0 : h < tn (σ5 0)) (hc2 : σ2 0 = nI (tn (σ2 0)) ∧ tn (σ2 0) ≤ 5) (hc5 : σ5 0 = nI (tn (σ5 0)) ∧ tn (σ5 0) ≤ 5) (hc8 : σ8 0 = nI (tn (σ8 0)) ∧ tn (σ8 0) ≤ 8) (hE : okE σ9 σ10 σ11 (tn (σ8 0))) (hK0 : okK (xreg σ19 0)) : xC l yX9_taken wsX9_taken ({ frames := 5, cells := 0, slots := 0, locals := 116 }) D (TY q) [w9 q ad σ0 σ1 σ2 σ3 σ4 σ5 σ6 σ7 σ8 σ9 σ10 σ11 σ12 σ13 σ14 σ15 σ16 σ17 σ18 σ19 σ20 σ21 σ22 σ23 σ24 σ25 σ26 σ27 σ28 σ29 σ30] [.ref (ad 0), .int (nI h)] (xQi D (TY q) (fun (r : Int32) (_ : (Nat → Int32) × Int32 × Int32) => r = kW σ3 σ4 (tn (σ2 0)) (kGoN σ4 (tn (σ2 0)) (tn (σ5 0)) σ9 σ10 σ11 (tn (σ8 0)) (-4) (xreg σ19 0, σ24, nI 0) (60 - tn (xreg σ19 0 25))).1 h) (fun (u : (Nat → Int32) × Int32 × Int32) => [w9 q ad σ0 σ1 σ2 σ3 σ4 σ5 σ6 σ7 σ8 σ9 σ10 σ11 σ12 σ13 σ14 σ15 σ16 σ17 σ18 (xspl σ19 11 u.1) σ20 σ21 σ22 σ23 u.2.1 u.2.2 σ26 σ27 σ28 σ29 σ30])) 0 0 := by
  refine x_enter (cc := cX9_taken) (maxL := 2) (ret := (some .int)) (by decide) rfl (Nat.le_of_ble_eq_true rfl) ?_
  intro p e s m below meth c A ls H locs hfix hr hlocks hinit hM hl
  obtain ⟨hx, hb, hml, hown, hts⟩ := id hfix
  have hl : lv_has ls 2 [(0, .ref (ad 0)), (1, .int (nI h))] := hl
  have hc2b := hc2.2
  have hc5b := hc5.2
  have hc8b := hc8.2
  have hT0 := hK0.1.2
  have hW0 := hK0.2.1.2
  refine lv_iload_n hx hb dX9_taken_0 rfl (lv_at hl 1 rfl) ?_
  refine lv_iconst (v := (-1)) hx hb dX9_taken_1 (by decide) ?_
  refine lv_icmp_eq (tgt := 15) hx hb dX9_taken_2 (by decide) (fun c1 => ?_) (fun c1 => ?_)
  · refine lv_aload_n hx hb dX9_taken_15 rfl (lv_at hl 0 rfl) ?_
    refine x_callv (bc := [w9 q ad σ0 σ1 σ2 σ3 σ4 σ5 σ6 σ7 σ8 σ9 σ10 σ11 σ12 σ13 σ14 σ15 σ16 σ17 σ18 σ19 σ20 σ21 σ22 σ23 σ24 σ25 σ26 σ27 σ28 σ29 σ30]) (br := []) hM [0] [] rfl rfl rfl (by decide) (x_runV (As := []) (rest := []) hfix (c_X9_tryToFive l D q ad σ0 σ1 σ2 σ3 σ4 σ5 σ6 σ7 σ8 σ9 σ10 σ11 σ12 σ13 σ14 σ15 σ16 σ17 σ18 σ19 σ20 σ21 σ22 σ23 σ24 σ25 σ26 σ27 σ28 σ29 σ30 hc2 hc5 hc8 hE hK0) (cwV 0 hts gX9_taken_X9_tryToFive rfl rfl rfl (by decide +kernel) ⟨Nat.le_of_ble_eq_true rfl, Nat.le_of_ble_eq_true rfl⟩) hM [0] rfl rfl 0 0 rfl rfl rfl rfl rfl hl.1 rfl (Nat.le_of_ble_eq_true rfl) dX9_taken_16 ⟨Nat.le_of_ble_eq_true rfl, Nat.le_of_ble_eq_true rfl⟩) (fun u H locs hq hM => ?_)
    have hM : xM D (TY q) [w9 q ad σ0 σ1 σ2 σ3 σ4 σ5 σ6 σ7 σ8 σ9 σ10 σ11 σ12 σ13 σ14 σ15 σ16 σ17 σ18 (xspl σ19 11 (kGoN σ4 (tn (σ2 0)) (tn (σ5 0)) σ9 σ10 σ11 (tn (σ8 0)) (-4) (xreg σ19 0, σ24, nI 0) (60 - tn (xreg σ19 0 25))).1) σ20 σ21 σ22 σ23 (kGoN σ4 (tn (σ2 0)) (tn (σ5 0)) σ9 σ10 σ11 (tn (σ8 0)) (-4) (xreg σ19 0, σ24, nI 0) (60 - tn (xreg σ19 0 25))).2.1 (kGoN σ4 (tn (σ2 0)) (tn (σ5 0)) σ9 σ10 σ11 (tn (σ8 0)) (-4) (xreg σ19 0, σ24, nI 0) (60 - tn (xreg σ19 0 25))).2.2 σ26 σ27 σ28 σ29 σ30] A s.heap s H locs := hM
    refine lv_iload_n hx hb dX9_taken_19 rfl (lv_at hl 1 rfl) ?_
    refine x_if_ge (x := h) (tgt := 32) hx hb (by omega) dX9_taken_20 (by decide) ?_
    refine lv_aload_n hx hb dX9_taken_32 rfl (lv_at hl 0 rfl) ?_
    refine lv_bipush (v := nI 11) hx hb dX9_taken_33 (by decide) ?_
    refine lv_iload_n hx hb dX9_taken_35 rfl (lv_at hl 1 rfl) ?_
    refine x_calli (bc := [w9 q ad σ0 σ1 σ2 σ3 σ4 σ5 σ6 σ7 σ8 σ9 σ10 σ11 σ12 σ13 σ14 σ15 σ16 σ17 σ18 (xspl σ19 11 (kGoN σ4 (tn (σ2 0)) (tn (σ5 0)) σ9 σ10 σ11 (tn (σ8 0)) (-4) (xreg σ19 0, σ24, nI 0) (60 - tn (xreg σ19 0 25))).1) σ20 σ21 σ22 σ23 (kGoN σ4 (tn (σ2 0)) (tn (σ5 0)) σ9 σ10 σ11 (tn (σ8 0)) (-4) (xreg σ19 0, σ24, nI 0) (60 - tn (xreg σ19 0 25))).2.1 (kGoN σ4 (tn (σ2 0)) (tn (σ5 0)) σ9 σ10 σ11 (tn (σ8 0)) (-4) (xreg σ19 0, σ24, nI 0) (60 - tn (xreg σ19 0 25))).2.2 σ26 σ27 σ28 σ29 σ30]) (br := []) hM [0] [] rfl rfl rfl (by decide) (x_runV (As := [.int (nI 11), .int (nI h)]) (rest := []) hfix (c_X9_worthInK l D q ad σ0 σ1 σ2 σ3 σ4 σ5 σ6 σ7 σ8 σ9 σ10 σ11 σ12 σ13 σ14 σ15 σ16 σ17 σ18 (xspl σ19 11 (kGoN σ4 (tn (σ2 0)) (tn (σ5 0)) σ9 σ10 σ11 (tn (σ8 0)) (-4) (xreg σ19 0, σ24, nI 0) (60 - tn (xreg σ19 0 25))).1) σ20 σ21 σ22 σ23 (kGoN σ4 (tn (σ2 0)) (tn (σ5 0)) σ9 σ10 σ11 (tn (σ8 0)) (-4) (xreg σ19 0, σ24, nI 0) (60 - tn (xreg σ19 0 25))).2.1 (kGoN σ4 (tn (σ2 0)) (tn (σ5 0)) σ9 σ10 σ11 (tn (σ8 0)) (-4) (xreg σ19 0, σ24, nI 0) (60 - tn (xreg σ19 0 25))).2.2 σ26 σ27 σ28 σ29 σ30 σ19 11 (kGoN σ4 (tn (σ2 0)) (tn (σ5 0)) σ9 σ10 σ11 (tn (σ8 0)) (-4) (xreg σ19 0, σ24, nI 0) (60 - tn (xreg σ19 0 25))).1 h (by omega) (by omega) hc2) (cwV 2 hts gX9_taken_X9_worthIn rfl rfl rfl (by decide +kernel) ⟨Nat.le_of_ble_eq_true rfl, Nat.le_of_ble_eq_true rfl⟩) hM [0] rfl rfl 0 0 rfl rfl rfl rfl rfl hl.1 rfl (Nat.le_of_ble_eq_true rfl) dX9_taken_36 ⟨Nat.le_of_ble_eq_true rfl, Nat.le_of_ble_eq_true rfl⟩) (fun r u H locs hq hM => ?_)
    subst hq
    have hM : xM D (TY q) [w9 q ad σ0 σ1 σ2 σ3 σ4 σ5 σ6 σ7 σ8 σ9 σ10 σ11 σ12 σ13 σ14 σ15 σ16 σ17 σ18 (xspl σ19 11 (kGoN σ4 (tn (σ2 0)) (tn (σ5 0)) σ9 σ10 σ11 (tn (σ8 0)) (-4) (xreg σ19 0, σ24, nI 0) (60 - tn (xreg σ19 0 25))).1) σ20 σ21 σ22 σ23 (kGoN σ4 (tn (σ2 0)) (tn (σ5 0)) σ9 σ10 σ11 (tn (σ8 0)) (-4) (xreg σ19 0, σ24, nI 0) (60 - tn (xreg σ19 0 25))).2.1 (kGoN σ4 (tn (σ2 0)) (tn (σ5 0)) σ9 σ10 σ11 (tn (σ8 0)) (-4) (xreg σ19 0, σ24, nI 0) (60 - tn (xreg σ19 0 25))).2.2 σ26 σ27 σ28 σ29 σ30] A s.heap s H locs := hM
    exact x_iret hx hb hr hlocks ((kGoN σ4 (tn (σ2 0)) (tn (σ5 0)) σ9 σ10 σ11 (tn (σ8 0)) (-4) (xreg σ19 0, σ24, nI 0) (60 - tn (xreg σ19 0 25))).1, (kGoN σ4 (tn (σ2 0)) (tn (σ5 0)) σ9 σ10 σ11 (tn (σ8 0)) (-4) (xreg σ19 0, σ24, nI 0) (60 - tn (xreg σ19 0 25))).2.1, (kGoN σ4 (tn (σ2 0)) (tn (σ5 0)) σ9 σ10 σ11 (tn (σ8 0)) (-4) (xreg σ19 0, σ24, nI 0) (60 - tn (xreg σ19 0 25))).2.2) hM (show kW σ3 σ4 (tn (σ2 0)) (kGoN σ4 (tn (σ2 0)) (tn (σ5 0)) σ9 σ10 σ11 (tn (σ8 0)) (-4) (xreg σ19 0, σ24, nI 0) (60 - tn (xreg σ19 0 25))).1 h = kW σ3 σ4 (tn (σ2 0)) (kGoN σ4 (tn (σ2 0)) (tn (σ5 0)) σ9 σ10 σ11 (tn (σ8 0)) (-4) (xreg σ19 0, σ24, nI 0) (60 - tn (xreg σ19 0 25))).1 h from rfl) dX9_taken_39
  · refine lv_aload_n hx hb dX9_taken_5 rfl (lv_at hl 0 rfl) ?_
    refine lv_iload_n hx hb dX9_taken_6 rfl (lv_at hl 1 rfl) ?_
    refine x_calli (bc := [w9 q ad σ0 σ1 σ2 σ3 σ4 σ5 σ6 σ7 σ8 σ9 σ10 σ11 σ12 σ13 σ14 σ15 σ16 σ17 σ18 σ19 σ20 σ21 σ22 σ23 σ24 σ25 σ26 σ27 σ28 σ29 σ30]) (br := []) hM [0] [] rfl rfl rfl (by decide) (x_runV (As := [.int (nI h)]) (rest := []) hfix (c_X9_isHouse l D q ad σ0 σ1 σ2 σ3 σ4 σ5 σ6 σ7 σ8 σ9 σ10 σ11 σ12 σ13 σ14 σ15 σ16 σ17 σ18 σ19 σ20 σ21 σ22 σ23 σ24 σ25 σ26 σ27 σ28 σ29 σ30 (nI h) ((h : Nat) : Int) (nI_toInt (n := h) (by omega)) hc5) (cwV 1 hts gX9_taken_X9_isHouse rfl rfl rfl (by decide +kernel) ⟨Nat.le_of_ble_eq_true rfl, Nat.le_of_ble_eq_true rfl⟩) hM [0] rfl rfl 0 0 rfl rfl rfl rfl rfl hl.1 rfl (Nat.le_of_ble_eq_true rfl) dX9_taken_7 ⟨Nat.le_of_ble_eq_true rfl, Nat.le_of_ble_eq_true rfl⟩) (fun r u H locs hq hM => ?_)
    subst hq
    have hM : xM D (TY q) [w9 q ad σ0 σ1 σ2 σ3 σ4 σ5 σ6 σ7 σ8 σ9 σ10 σ11 σ12 σ13 σ14 σ15 σ16 σ17 σ18 σ19 σ20 σ21 σ22 σ23 σ24 σ25 σ26 σ27 σ28 σ29 σ30] A s.heap s H locs := hM
    refine x_ifz_ne (P := 0 ≤ ((h : Nat) : Int) ∧ ((h : Nat) : Int) < tn (σ5 0)) (tgt := 15) hx hb dX9_taken_10 (by decide) (fun c2 => ?_) (fun c2 => ?_)
    · refine lv_aload_n hx hb dX9_taken_15 rfl (lv_at hl 0 rfl) ?_
      refine x_callv (bc := [w9 q ad σ0 σ1 σ2 σ3 σ4 σ5 σ6 σ7 σ8 σ9 σ10 σ11 σ12 σ13 σ14 σ15 σ16 σ17 σ18 σ19 σ20 σ21 σ22 σ23 σ24 σ25 σ26 σ27 σ28 σ29 σ30]) (br := []) hM [0] [] rfl rfl rfl (by decide) (x_runV (As := []) (rest := []) hfix (c_X9_tryToFive l D q ad σ0 σ1 σ2 σ3 σ4 σ5 σ6 σ7 σ8 σ9 σ10 σ11 σ12 σ13 σ14 σ15 σ16 σ17 σ18 σ19 σ20 σ21 σ22 σ23 σ24 σ25 σ26 σ27 σ28 σ29 σ30 hc2 hc5 hc8 hE hK0) (cwV 0 hts gX9_taken_X9_tryToFive rfl rfl rfl (by decide +kernel) ⟨Nat.le_of_ble_eq_true rfl, Nat.le_of_ble_eq_true rfl⟩) hM [0] rfl rfl 0 0 rfl rfl rfl rfl rfl hl.1 rfl (Nat.le_of_ble_eq_true rfl) dX9_taken_16 ⟨Nat.le_of_ble_eq_true rfl, Nat.le_of_ble_eq_true rfl⟩) (fun u H locs hq hM => ?_)
      have hM : xM D (TY q) [w9 q ad σ0 σ1 σ2 σ3 σ4 σ5 σ6 σ7 σ8 σ9 σ10 σ11 σ12 σ13 σ14 σ15 σ16 σ17 σ18 (xspl σ19 11 (kGoN σ4 (tn (σ2 0)) (tn (σ5 0)) σ9 σ10 σ11 (tn (σ8 0)) (-4) (xreg σ19 0, σ24, nI 0) (60 - tn (xreg σ19 0 25))).1) σ20 σ21 σ22 σ23 (kGoN σ4 (tn (σ2 0)) (tn (σ5 0)) σ9 σ10 σ11 (tn (σ8 0)) (-4) (xreg σ19 0, σ24, nI 0) (60 - tn (xreg σ19 0 25))).2.1 (kGoN σ4 (tn (σ2 0)) (tn (σ5 0)) σ9 σ10 σ11 (tn (σ8 0)) (-4) (xreg σ19 0, σ24, nI 0) (60 - tn (xreg σ19 0 25))).2.2 σ26 σ27 σ28 σ29 σ30] A s.heap s H locs := hM
      refine lv_iload_n hx hb dX9_taken_19 rfl (lv_at hl 1 rfl) ?_
      refine x_if_ge (x := h) (tgt := 32) hx hb (by omega) dX9_taken_20 (by decide) ?_
      refine lv_aload_n hx hb dX9_taken_32 rfl (lv_at hl 0 rfl) ?_
      refine lv_bipush (v := nI 11) hx hb dX9_taken_33 (by decide) ?_
      refine lv_iload_n hx hb dX9_taken_35 rfl (lv_at hl 1 rfl) ?_
      refine x_calli (bc := [w9 q ad σ0 σ1 σ2 σ3 σ4 σ5 σ6 σ7 σ8 σ9 σ10 σ11 σ12 σ13 σ14 σ15 σ16 σ17 σ18 (xspl σ19 11 (kGoN σ4 (tn (σ2 0)) (tn (σ5 0)) σ9 σ10 σ11 (tn (σ8 0)) (-4) (xreg σ19 0, σ24, nI 0) (60 - tn (xreg σ19 0 25))).1) σ20 σ21 σ22 σ23 (kGoN σ4 (tn (σ2 0)) (tn (σ5 0)) σ9 σ10 σ11 (tn (σ8 0)) (-4) (xreg σ19 0, σ24, nI 0) (60 - tn (xreg σ19 0 25))).2.1 (kGoN σ4 (tn (σ2 0)) (tn (σ5 0)) σ9 σ10 σ11 (tn (σ8 0)) (-4) (xreg σ19 0, σ24, nI 0) (60 - tn (xreg σ19 0 25))).2.2 σ26 σ27 σ28 σ29 σ30]) (br := []) hM [0] [] rfl rfl rfl (by decide) (x_runV (As := [.int (nI 11), .int (nI h)]) (rest := []) hfix (c_X9_worthInK l D q ad σ0 σ1 σ2 σ3 σ4 σ5 σ6 σ7 σ8 σ9 σ10 σ11 σ12 σ13 σ14 σ15 σ16 σ17 σ18 (xspl σ19 11 (kGoN σ4 (tn (σ2 0)) (tn (σ5 0)) σ9 σ10 σ11 (tn (σ8 0)) (-4) (xreg σ19 0, σ24, nI 0) (60 - tn (xreg σ19 0 25))).1) σ20 σ21 σ22 σ23 (kGoN σ4 (tn (σ2 0)) (tn (σ5 0)) σ9 σ10 σ11 (tn (σ8 0)) (-4) (xreg σ19 0, σ24, nI 0) (60 - tn (xreg σ19 0 25))).2.1 (kGoN σ4 (tn (σ2 0)) (tn (σ5 0)) σ9 σ10 σ11 (tn (σ8 0)) (-4) (xreg σ19 0, σ24, nI 0) (60 - tn (xreg σ19 0 25))).2.2 σ26 σ27 σ28 σ29 σ30 σ19 11 (kGoN σ4 (tn (σ2 0)) (tn (σ5 0)) σ9 σ10 σ11 (tn (σ8 0)) (-4) (xreg σ19 0, σ24, nI 0) (60 - tn (xreg σ19 0 25))).1 h (by omega) (by omega) hc2) (cwV 2 hts gX9_taken_X9_worthIn rfl rfl rfl (by decide +kernel) ⟨Nat.le_of_ble_eq_true rfl, Nat.le_of_ble_eq_true rfl⟩) hM [0] rfl rfl 0 0 rfl rfl rfl rfl rfl hl.1 rfl (Nat.le_of_ble_eq_true rfl) dX9_taken_36 ⟨Nat.le_of_ble_eq_true rfl, Nat.le_of_ble_eq_true rfl⟩) (fun r u H locs hq hM => ?_)
      subst hq
      have hM : xM D (TY q) [w9 q ad σ0 σ1 σ2 σ3 σ4 σ5 σ6 σ7 σ8 σ9 σ10 σ11 σ12 σ13 σ14 σ15 σ16 σ17 σ18 (xspl σ19 11 (kGoN σ4 (tn (σ2 0)) (tn (σ5 0)) σ9 σ10 σ11 (tn (σ8 0)) (-4) (xreg σ19 0, σ24, nI 0) (60 - tn (xreg σ19 0 25))).1) σ20 σ21 σ22 σ23 (kGoN σ4 (tn (σ2 0)) (tn (σ5 0)) σ9 σ10 σ11 (tn (σ8 0)) (-4) (xreg σ19 0, σ24, nI 0) (60 - tn (xreg σ19 0 25))).2.1 (kGoN σ4 (tn (σ2 0)) (tn (σ5 0)) σ9 σ10 σ11 (tn (σ8 0)) (-4) (xreg σ19 0, σ24, nI 0) (60 - tn (xreg σ19 0 25))).2.2 σ26 σ27 σ28 σ29 σ30] A s.heap s H locs := hM
      exact x_iret hx hb hr hlocks ((kGoN σ4 (tn (σ2 0)) (tn (σ5 0)) σ9 σ10 σ11 (tn (σ8 0)) (-4) (xreg σ19 0, σ24, nI 0) (60 - tn (xreg σ19 0 25))).1, (kGoN σ4 (tn (σ2 0)) (tn (σ5 0)) σ9 σ10 σ11 (tn (σ8 0)) (-4) (xreg σ19 0, σ24, nI 0) (60 - tn (xreg σ19 0 25))).2.1, (kGoN σ4 (tn (σ2 0)) (tn (σ5 0)) σ9 σ10 σ11 (tn (σ8 0)) (-4) (xreg σ19 0, σ24, nI 0) (60 - tn (xreg σ19 0 25))).2.2) hM (show kW σ3 σ4 (tn (σ2 0)) (kGoN σ4 (tn (σ2 0)) (tn (σ5 0)) σ9 σ10 σ11 (tn (σ8 0)) (-4) (xreg σ19 0, σ24, nI 0) (60 - tn (xreg σ19 0 25))).1 h = kW σ3 σ4 (tn (σ2 0)) (kGoN σ4 (tn (σ2 0)) (tn (σ5 0)) σ9 σ10 σ11 (tn (σ8 0)) (-4) (xreg σ19 0, σ24, nI 0) (60 - tn (xreg σ19 0 25))).1 h from rfl) dX9_taken_39
    · exfalso; omega

set_option maxHeartbeats 4000000 in
set_option maxRecDepth 100000 in
theorem c_X9_takenB (l : Launch) (D : va_G) (q : Nat → ClassId) (ad : Nat → Nat) (σ0 : Int32) (σ1 : Nat → Int32) (σ2 : Nat → Int32) (σ3 : Nat → Int32) (σ4 : Nat → Int32) (σ5 : Nat → Int32) (σ6 : Nat → Int32) (σ7 : Nat → Int32) (σ8 : Nat → Int32) (σ9 : Nat → Int32) (σ10 : Nat → Int32) (σ11 : Nat → Int32) (σ12 : Nat → Int32) (σ13 : Nat → Int32) (σ14 : Nat → Int32) (σ15 : Nat → Int32) (σ16 : Nat → Int32) (σ17 : Nat → Int32) (σ18 : Nat → Int32) (σ19 : Nat → Int32) (σ20 : Int32) (σ21 : Int32) (σ22 : Int32) (σ23 : Nat → Int32) (σ24 : Int32) (σ25 : Int32) (σ26 : Nat → Int32) (σ27 : Nat → Int32) (σ28 : Nat → Int32) (σ29 : Nat → Int32) (σ30 : Nat → Int32) (h : Int32) (hz : Int) (h_hz : h.toInt = hz) (hc5 : σ5 0 = nI (tn (σ5 0)) ∧ tn (σ5 0) ≤ 5) (hbad : ¬ (0 ≤ hz ∧ hz < tn (σ5 0)) ∧ ¬ hz = -1) : xC l yX9_taken wsX9_taken ({ frames := 5, cells := 0, slots := 0, locals := 116 }) D (TY q) [w9 q ad σ0 σ1 σ2 σ3 σ4 σ5 σ6 σ7 σ8 σ9 σ10 σ11 σ12 σ13 σ14 σ15 σ16 σ17 σ18 σ19 σ20 σ21 σ22 σ23 σ24 σ25 σ26 σ27 σ28 σ29 σ30] [.ref (ad 0), .int h] (xQi D (TY q) (fun (r : Int32) (_ : Unit) => r = (-1)) (fun _ => [w9 q ad σ0 σ1 σ2 σ3 σ4 σ5 σ6 σ7 σ8 σ9 σ10 σ11 σ12 σ13 σ14 σ15 σ16 σ17 σ18 σ19 σ20 σ21 σ22 σ23 σ24 σ25 σ26 σ27 σ28 σ29 σ30])) 0 0 := by
  refine x_enter (cc := cX9_taken) (maxL := 2) (ret := (some .int)) (by decide) rfl (Nat.le_of_ble_eq_true rfl) ?_
  intro p e s m below meth c A ls H locs hfix hr hlocks hinit hM hl
  obtain ⟨hx, hb, hml, hown, hts⟩ := id hfix
  have hl : lv_has ls 2 [(0, .ref (ad 0)), (1, .int h)] := hl
  have hne : ¬ h = (-1) := (fun z => hbad.2 (by rw [← h_hz, z]; decide))
  refine lv_iload_n hx hb dX9_taken_0 rfl (lv_at hl 1 rfl) ?_
  refine lv_iconst (v := (-1)) hx hb dX9_taken_1 (by decide) ?_
  refine lv_icmp_eq (tgt := 15) hx hb dX9_taken_2 (by decide) (fun c1 => ?_) (fun c1 => ?_)
  · exfalso; first | exact absurd (by assumption) hne | omega
  · refine lv_aload_n hx hb dX9_taken_5 rfl (lv_at hl 0 rfl) ?_
    refine lv_iload_n hx hb dX9_taken_6 rfl (lv_at hl 1 rfl) ?_
    refine x_calli (bc := [w9 q ad σ0 σ1 σ2 σ3 σ4 σ5 σ6 σ7 σ8 σ9 σ10 σ11 σ12 σ13 σ14 σ15 σ16 σ17 σ18 σ19 σ20 σ21 σ22 σ23 σ24 σ25 σ26 σ27 σ28 σ29 σ30]) (br := []) hM [0] [] rfl rfl rfl (by decide) (x_runV (As := [.int h]) (rest := []) hfix (c_X9_isHouse l D q ad σ0 σ1 σ2 σ3 σ4 σ5 σ6 σ7 σ8 σ9 σ10 σ11 σ12 σ13 σ14 σ15 σ16 σ17 σ18 σ19 σ20 σ21 σ22 σ23 σ24 σ25 σ26 σ27 σ28 σ29 σ30 h hz h_hz hc5) (cwV 1 hts gX9_taken_X9_isHouse rfl rfl rfl (by decide +kernel) ⟨Nat.le_of_ble_eq_true rfl, Nat.le_of_ble_eq_true rfl⟩) hM [0] rfl rfl 0 0 rfl rfl rfl rfl rfl hl.1 rfl (Nat.le_of_ble_eq_true rfl) dX9_taken_7 ⟨Nat.le_of_ble_eq_true rfl, Nat.le_of_ble_eq_true rfl⟩) (fun r u H locs hq hM => ?_)
    subst hq
    have hM : xM D (TY q) [w9 q ad σ0 σ1 σ2 σ3 σ4 σ5 σ6 σ7 σ8 σ9 σ10 σ11 σ12 σ13 σ14 σ15 σ16 σ17 σ18 σ19 σ20 σ21 σ22 σ23 σ24 σ25 σ26 σ27 σ28 σ29 σ30] A s.heap s H locs := hM
    refine x_ifz_ne (P := 0 ≤ hz ∧ hz < tn (σ5 0)) (tgt := 15) hx hb dX9_taken_10 (by decide) (fun c2 => ?_) (fun c2 => ?_)
    · exfalso; first | exact absurd (by assumption) hne | omega
    · refine lv_iconst (v := (-1)) hx hb dX9_taken_13 (by decide) ?_
      exact x_iret hx hb hr hlocks () hM (show (-1) = (-1) from rfl) dX9_taken_14

set_option maxRecDepth 20000 in
theorem ggX9_first_X9_in : GoodIn wsX9_first wsX9_in := goodIn_r _ [5] (by decide +kernel) (by decide +kernel)
set_option maxRecDepth 20000 in
theorem gX9_first_X9_in : GoodIn wsX9_first (va_wsS RX9 104 yX9_in wsX9_in) := goodIn_app (goodIn_of _ (by decide +kernel)) ggX9_first_X9_in
set_option maxRecDepth 20000 in
theorem ggX9_first_X9_copy : GoodIn wsX9_first wsX9_copy := goodIn_r _ [9, 10, 63, 64, 65, 66, 67, 68, 69, 70, 71, 72, 73, 74, 75, 76, 77, 78, 79, 80, 81, 82, 83, 84, 85, 86, 87, 88, 89, 90, 91, 92, 93] (by decide +kernel) (by decide +kernel)
set_option maxRecDepth 20000 in
theorem gX9_first_X9_copy : GoodIn wsX9_first (wsV RX9 216 RX9 yX9_copy wsX9_copy) := goodIn_app (goodIn_of _ (by decide +kernel)) ggX9_first_X9_copy
set_option maxRecDepth 20000 in
theorem ggX9_first_X9_minuteOf : GoodIn wsX9_first wsX9_minuteOf := goodIn_r _ [14, 10, 63, 64, 65, 66, 67, 68, 69, 70, 71, 72, 73, 74, 75, 76, 77, 78, 79, 80, 81, 82, 83, 84, 85, 86, 87, 88, 89, 90, 91, 92, 93] (by decide +kernel) (by decide +kernel)
set_option maxRecDepth 20000 in
theorem gX9_first_X9_minuteOf : GoodIn wsX9_first (wsV RX9 166 RX9 yX9_minuteOf wsX9_minuteOf) := goodIn_app (goodIn_of _ (by decide +kernel)) ggX9_first_X9_minuteOf
set_option maxRecDepth 20000 in
theorem ggX9_first_X9_go : GoodIn wsX9_first wsX9_go := goodIn_r _ [18, 10, 1, 19, 11, 12, 13, 4, 14, 20, 21, 22, 23, 24, 25, 26, 27, 28, 29, 30, 31, 32, 33, 34, 35, 36, 37, 38, 39, 40, 41, 42, 43, 44, 45, 46, 47, 48, 49, 50, 51, 52, 53, 54, 55, 56, 57, 58, 59, 60, 61, 62, 63, 64, 65, 66, 67, 68, 69, 70, 71, 72, 73, 74, 75, 76, 77, 78, 79, 80, 81, 82, 83, 84, 85, 86, 87, 88, 89, 90, 91, 92, 93] (by decide +kernel) (by decide +kernel)
set_option maxRecDepth 20000 in
theorem gX9_first_X9_go : GoodIn wsX9_first (wsV RX9 204 RX9 yX9_go wsX9_go) := goodIn_app (goodIn_of _ (by decide +kernel)) ggX9_first_X9_go
theorem dX9_first_0 : decode cX9_first 0 = .ok (.iload_n 1, 1) := by decide +kernel
theorem dX9_first_1 : decode cX9_first 1 = .ok (.i2l, 1) := by decide +kernel
theorem dX9_first_2 : decode cX9_first 2 = .ok (.lconst 0, 1) := by decide +kernel
theorem dX9_first_3 : decode cX9_first 3 = .ok (.lconst 1, 1) := by decide +kernel
theorem dX9_first_4 : decode cX9_first 4 = .ok (.invokestatic 104, 3) := by decide +kernel
theorem dX9_first_7 : decode cX9_first 7 = .ok (.ifCond .ne 5, 3) := by decide +kernel
theorem dX9_first_10 : decode cX9_first 10 = .ok (.iconst (-1), 1) := by decide +kernel
theorem dX9_first_11 : decode cX9_first 11 = .ok (.ireturn, 1) := by decide +kernel
theorem dX9_first_12 : decode cX9_first 12 = .ok (.aload_n 0, 1) := by decide +kernel
theorem dX9_first_13 : decode cX9_first 13 = .ok (.iconst 0, 1) := by decide +kernel
theorem dX9_first_14 : decode cX9_first 14 = .ok (.bipush 11, 2) := by decide +kernel
theorem dX9_first_16 : decode cX9_first 16 = .ok (.invokevirtual 216, 3) := by decide +kernel
theorem dX9_first_19 : decode cX9_first 19 = .ok (.aload_n 0, 1) := by decide +kernel
theorem dX9_first_20 : decode cX9_first 20 = .ok (.bipush 11, 2) := by decide +kernel
theorem dX9_first_22 : decode cX9_first 22 = .ok (.invokevirtual 166, 3) := by decide +kernel
theorem dX9_first_25 : decode cX9_first 25 = .ok (.bipush 60, 2) := by decide +kernel
theorem dX9_first_27 : decode cX9_first 27 = .ok (.if_icmp .ge 36, 3) := by decide +kernel
theorem dX9_first_30 : decode cX9_first 30 = .ok (.aload_n 0, 1) := by decide +kernel
theorem dX9_first_31 : decode cX9_first 31 = .ok (.bipush 11, 2) := by decide +kernel
theorem dX9_first_33 : decode cX9_first 33 = .ok (.bipush (-4), 2) := by decide +kernel
theorem dX9_first_35 : decode cX9_first 35 = .ok (.invokevirtual 204, 3) := by decide +kernel
theorem dX9_first_38 : decode cX9_first 38 = .ok (.aload_n 0, 1) := by decide +kernel
theorem dX9_first_39 : decode cX9_first 39 = .ok (.getfield 184, 3) := by decide +kernel
theorem dX9_first_42 : decode cX9_first 42 = .ok (.ifCond .lt (-23), 3) := by decide +kernel
theorem dX9_first_45 : decode cX9_first 45 = .ok (.iload_n 1, 1) := by decide +kernel
theorem dX9_first_46 : decode cX9_first 46 = .ok (.ifCond .ne 12, 3) := by decide +kernel
theorem dX9_first_49 : decode cX9_first 49 = .ok (.aload_n 0, 1) := by decide +kernel
theorem dX9_first_50 : decode cX9_first 50 = .ok (.bipush 11, 2) := by decide +kernel
theorem dX9_first_52 : decode cX9_first 52 = .ok (.invokevirtual 166, 3) := by decide +kernel
theorem dX9_first_55 : decode cX9_first 55 = .ok (.goto 7, 3) := by decide +kernel
theorem dX9_first_58 : decode cX9_first 58 = .ok (.aload_n 0, 1) := by decide +kernel
theorem dX9_first_59 : decode cX9_first 59 = .ok (.getfield 184, 3) := by decide +kernel
theorem dX9_first_62 : decode cX9_first 62 = .ok (.ireturn, 1) := by decide +kernel
theorem dX9_first_63 : decode cX9_first 63 = .ok (.bipush (-4), 2) := by decide +kernel
theorem dX9_first_65 : decode cX9_first 65 = .ok (.ireturn, 1) := by decide +kernel
theorem lkX9_first_184 : Cond.fieldLink RX9 184 "LeftAtFiveModel" "whoHungry" "I" ∈ wsX9_first := by decide +kernel
theorem iwX9_first_X9 : ∀ w ∈ wsX90, w ∈ wsX9_first := by decide +kernel
set_option maxHeartbeats 4000000 in
set_option maxRecDepth 100000 in
theorem c_X9_first (l : Launch) (D : va_G) (q : Nat → ClassId) (ad : Nat → Nat) (σ0 : Int32) (σ1 : Nat → Int32) (σ2 : Nat → Int32) (σ3 : Nat → Int32) (σ4 : Nat → Int32) (σ5 : Nat → Int32) (σ6 : Nat → Int32) (σ7 : Nat → Int32) (σ8 : Nat → Int32) (σ9 : Nat → Int32) (σ10 : Nat → Int32) (σ11 : Nat → Int32) (σ12 : Nat → Int32) (σ13 : Nat → Int32) (σ14 : Nat → Int32) (σ15 : Nat → Int32) (σ16 : Nat → Int32) (σ17 : Nat → Int32) (σ18 : Nat → Int32) (σ19 : Nat → Int32) (σ20 : Int32) (σ21 : Int32) (σ22 : Int32) (σ23 : Nat → Int32) (σ24 : Int32) (σ25 : Int32) (σ26 : Nat → Int32) (σ27 : Nat → Int32) (σ28 : Nat → Int32) (σ29 : Nat → Int32) (σ30 : Nat → Int32) (what : Nat) (hwh : what ≤ 1) (hc2 : σ2 0 = nI (tn (σ2 0)) ∧ tn (σ2 0) ≤ 5) (hc5 : σ5 0 = nI (tn (σ5 0)) ∧ tn (σ5 0) ≤ 5) (hc8 : σ8 0 = nI (tn (σ8 0)) ∧ tn (σ8 0) ≤ 8) (hE : okE σ9 σ10 σ11 (tn (σ8 0))) (hK0 : okK (xreg σ19 0)) : xC l yX9_first wsX9_first ({ frames := 3, cells := 0, slots := 0, locals := 74 }) D (TY q) [w9 q ad σ0 σ1 σ2 σ3 σ4 σ5 σ6 σ7 σ8 σ9 σ10 σ11 σ12 σ13 σ14 σ15 σ16 σ17 σ18 σ19 σ20 σ21 σ22 σ23 σ24 σ25 σ26 σ27 σ28 σ29 σ30] [.ref (ad 0), .int (nI what)] (xQi D (TY q) (fun (r : Int32) (_ : (Nat → Int32) × Int32 × Int32) => r = if what = 0 then (kFir σ4 (tn (σ2 0)) (tn (σ5 0)) σ9 σ10 σ11 (tn (σ8 0)) (60 - tn (xreg σ19 0 25)) (xreg σ19 0, σ24, σ25)).1 else (kFir σ4 (tn (σ2 0)) (tn (σ5 0)) σ9 σ10 σ11 (tn (σ8 0)) (60 - tn (xreg σ19 0 25)) (xreg σ19 0, σ24, σ25)).2) (fun (u : (Nat → Int32) × Int32 × Int32) => [w9 q ad σ0 σ1 σ2 σ3 σ4 σ5 σ6 σ7 σ8 σ9 σ10 σ11 σ12 σ13 σ14 σ15 σ16 σ17 σ18 (xspl σ19 11 u.1) σ20 σ21 σ22 σ23 u.2.1 u.2.2 σ26 σ27 σ28 σ29 σ30])) 0 0 := by
  refine x_enter (cc := cX9_first) (maxL := 2) (ret := (some .int)) (by decide) rfl (Nat.le_of_ble_eq_true rfl) ?_
  intro p e s m below meth c A ls H locs hfix hr hlocks hinit hM hl
  obtain ⟨hx, hb, hml, hown, hts⟩ := id hfix
  have hl : lv_has ls 2 [(0, .ref (ad 0)), (1, .int (nI what))] := hl
  have hc2b := hc2.2
  have hc5b := hc5.2
  have hc8b := hc8.2
  have hT0 := hK0.1.2
  have hW0 := hK0.2.1.2
  refine lv_iload_n hx hb dX9_first_0 rfl (lv_at hl 1 rfl) ?_
  refine x_i2l hx hb dX9_first_1 ?_
  refine lv_lconst (v := 0) hx hb dX9_first_2 (by decide) ?_
  refine lv_lconst (v := 1) hx hb dX9_first_3 (by decide) ?_
  refine x_calli (bc := []) (br := [w9 q ad σ0 σ1 σ2 σ3 σ4 σ5 σ6 σ7 σ8 σ9 σ10 σ11 σ12 σ13 σ14 σ15 σ16 σ17 σ18 σ19 σ20 σ21 σ22 σ23 σ24 σ25 σ26 σ27 σ28 σ29 σ30]) hM [] [0] rfl rfl rfl (by decide) (x_runS (As := [.long ((nI what).toInt64), .long (0 : Int64), .long (1 : Int64)]) (rest := []) hfix (c_X9_in l D q ((nI what).toInt64) (0 : Int64) (1 : Int64) ((what : Nat) : Int) (0 : Int) (1 : Int) ((Jvm.Kit.i64_of_i32 _).trans (nI_toInt (n := what) (by omega))) (by decide) (by decide)) (va_cwS 3 hts gX9_first_X9_in rfl rfl rfl (by decide +kernel) ⟨Nat.le_of_ble_eq_true rfl, Nat.le_of_ble_eq_true rfl⟩) hM [] rfl rfl rfl hl.1 rfl (Nat.le_of_ble_eq_true rfl) dX9_first_4 ⟨Nat.le_of_ble_eq_true rfl, Nat.le_of_ble_eq_true rfl⟩) (fun r u H locs hq hM => ?_)
  subst hq
  have hM : xM D (TY q) [w9 q ad σ0 σ1 σ2 σ3 σ4 σ5 σ6 σ7 σ8 σ9 σ10 σ11 σ12 σ13 σ14 σ15 σ16 σ17 σ18 σ19 σ20 σ21 σ22 σ23 σ24 σ25 σ26 σ27 σ28 σ29 σ30] A s.heap s H locs := hM
  refine x_ifz_ne (P := (0 : Int) ≤ ((what : Nat) : Int) ∧ ((what : Nat) : Int) ≤ (1 : Int)) (tgt := 12) hx hb dX9_first_7 (by decide) (fun c1 => ?_) (fun c1 => ?_)
  · refine lv_aload_n hx hb dX9_first_12 rfl (lv_at hl 0 rfl) ?_
    refine lv_iconst (v := nI 0) hx hb dX9_first_13 (by decide) ?_
    refine lv_bipush (v := nI 11) hx hb dX9_first_14 (by decide) ?_
    refine x_callv (bc := [w9 q ad σ0 σ1 σ2 σ3 σ4 σ5 σ6 σ7 σ8 σ9 σ10 σ11 σ12 σ13 σ14 σ15 σ16 σ17 σ18 σ19 σ20 σ21 σ22 σ23 σ24 σ25 σ26 σ27 σ28 σ29 σ30]) (br := []) hM [0] [] rfl rfl rfl (by decide) (x_runV (As := [.int (nI 0), .int (nI 11)]) (rest := []) hfix (c_X9_copy l D q ad σ0 σ1 σ2 σ3 σ4 σ5 σ6 σ7 σ8 σ9 σ10 σ11 σ12 σ13 σ14 σ15 σ16 σ17 σ18 σ19 σ20 σ21 σ22 σ23 σ24 σ25 σ26 σ27 σ28 σ29 σ30 0 11 (by omega) (by omega) (by omega)) (cwV 2 hts gX9_first_X9_copy rfl rfl rfl (by decide +kernel) ⟨Nat.le_of_ble_eq_true rfl, Nat.le_of_ble_eq_true rfl⟩) hM [0] rfl rfl 0 0 rfl rfl rfl rfl rfl hl.1 rfl (Nat.le_of_ble_eq_true rfl) dX9_first_16 ⟨Nat.le_of_ble_eq_true rfl, Nat.le_of_ble_eq_true rfl⟩) (fun u H locs hq hM => ?_)
    have hM : xM D (TY q) [w9 q ad σ0 σ1 σ2 σ3 σ4 σ5 σ6 σ7 σ8 σ9 σ10 σ11 σ12 σ13 σ14 σ15 σ16 σ17 σ18 (xspl σ19 11 (xreg σ19 0)) σ20 σ21 σ22 σ23 σ24 σ25 σ26 σ27 σ28 σ29 σ30] A s.heap s H locs := hM
    have hM2 : xM D (TY q) [w9 q ad σ0 σ1 σ2 σ3 σ4 σ5 σ6 σ7 σ8 σ9 σ10 σ11 σ12 σ13 σ14 σ15 σ16 σ17 σ18 (xspl σ19 11 (kGoN σ4 (tn (σ2 0)) (tn (σ5 0)) σ9 σ10 σ11 (tn (σ8 0)) (-4) (xreg σ19 0, σ24, σ25) 0).1) σ20 σ21 σ22 σ23 (kGoN σ4 (tn (σ2 0)) (tn (σ5 0)) σ9 σ10 σ11 (tn (σ8 0)) (-4) (xreg σ19 0, σ24, σ25) 0).2.1 (kGoN σ4 (tn (σ2 0)) (tn (σ5 0)) σ9 σ10 σ11 (tn (σ8 0)) (-4) (xreg σ19 0, σ24, σ25) 0).2.2 σ26 σ27 σ28 σ29 σ30] A s.heap s H locs := by exact hM
    refine x_loop (ι := Nat) (fun n => [(0, .ref (ad 0)), (1, .int (nI what))]) (fun n => [w9 q ad σ0 σ1 σ2 σ3 σ4 σ5 σ6 σ7 σ8 σ9 σ10 σ11 σ12 σ13 σ14 σ15 σ16 σ17 σ18 (xspl σ19 11 (kGoN σ4 (tn (σ2 0)) (tn (σ5 0)) σ9 σ10 σ11 (tn (σ8 0)) (-4) (xreg σ19 0, σ24, σ25) n).1) σ20 σ21 σ22 σ23 (kGoN σ4 (tn (σ2 0)) (tn (σ5 0)) σ9 σ10 σ11 (tn (σ8 0)) (-4) (xreg σ19 0, σ24, σ25) n).2.1 (kGoN σ4 (tn (σ2 0)) (tn (σ5 0)) σ9 σ10 σ11 (tn (σ8 0)) (-4) (xreg σ19 0, σ24, σ25) n).2.2 σ26 σ27 σ28 σ29 σ30]) (fun n => tn (xreg σ19 0 25) + n ≤ 60 ∧ (kFir σ4 (tn (σ2 0)) (tn (σ5 0)) σ9 σ10 σ11 (tn (σ8 0)) (60 - tn (xreg σ19 0 25)) (xreg σ19 0, σ24, σ25)) = (kFir σ4 (tn (σ2 0)) (tn (σ5 0)) σ9 σ10 σ11 (tn (σ8 0)) (60 - tn (xreg σ19 0 25) - n) (kGoN σ4 (tn (σ2 0)) (tn (σ5 0)) σ9 σ10 σ11 (tn (σ8 0)) (-4) (xreg σ19 0, σ24, σ25) n))) (fun n => 60 - n) 0 (⟨by omega, rfl⟩) hM2 (lv_sub hl [0, 1] rfl) ?_
    intro n hI4 ih3 H locs hM ls hl
    have hM : xM D (TY q) [w9 q ad σ0 σ1 σ2 σ3 σ4 σ5 σ6 σ7 σ8 σ9 σ10 σ11 σ12 σ13 σ14 σ15 σ16 σ17 σ18 (xspl σ19 11 (kGoN σ4 (tn (σ2 0)) (tn (σ5 0)) σ9 σ10 σ11 (tn (σ8 0)) (-4) (xreg σ19 0, σ24, σ25) n).1) σ20 σ21 σ22 σ23 (kGoN σ4 (tn (σ2 0)) (tn (σ5 0)) σ9 σ10 σ11 (tn (σ8 0)) (-4) (xreg σ19 0, σ24, σ25) n).2.1 (kGoN σ4 (tn (σ2 0)) (tn (σ5 0)) σ9 σ10 σ11 (tn (σ8 0)) (-4) (xreg σ19 0, σ24, σ25) n).2.2 σ26 σ27 σ28 σ29 σ30] A s.heap s H locs := hM
    have hl : lv_has ls 2 [(0, .ref (ad 0)), (1, .int (nI what))] := hl
    have hI4 : tn (xreg σ19 0 25) + n ≤ 60 ∧ (kFir σ4 (tn (σ2 0)) (tn (σ5 0)) σ9 σ10 σ11 (tn (σ8 0)) (60 - tn (xreg σ19 0 25)) (xreg σ19 0, σ24, σ25)) = (kFir σ4 (tn (σ2 0)) (tn (σ5 0)) σ9 σ10 σ11 (tn (σ8 0)) (60 - tn (xreg σ19 0 25) - n) (kGoN σ4 (tn (σ2 0)) (tn (σ5 0)) σ9 σ10 σ11 (tn (σ8 0)) (-4) (xreg σ19 0, σ24, σ25) n)) := hI4
    obtain ⟨hI4_0, hI4_1⟩ := id hI4
    have hfr := hI4_1
    try dsimp only
    refine lv_aload_n hx hb dX9_first_19 rfl (lv_at hl 0 rfl) ?_
    refine lv_bipush (v := nI 11) hx hb dX9_first_20 (by decide) ?_
    refine x_calli (bc := [w9 q ad σ0 σ1 σ2 σ3 σ4 σ5 σ6 σ7 σ8 σ9 σ10 σ11 σ12 σ13 σ14 σ15 σ16 σ17 σ18 (xspl σ19 11 (kGoN σ4 (tn (σ2 0)) (tn (σ5 0)) σ9 σ10 σ11 (tn (σ8 0)) (-4) (xreg σ19 0, σ24, σ25) n).1) σ20 σ21 σ22 σ23 (kGoN σ4 (tn (σ2 0)) (tn (σ5 0)) σ9 σ10 σ11 (tn (σ8 0)) (-4) (xreg σ19 0, σ24, σ25) n).2.1 (kGoN σ4 (tn (σ2 0)) (tn (σ5 0)) σ9 σ10 σ11 (tn (σ8 0)) (-4) (xreg σ19 0, σ24, σ25) n).2.2 σ26 σ27 σ28 σ29 σ30]) (br := []) hM [0] [] rfl rfl rfl (by decide) (x_runV (As := [.int (nI 11)]) (rest := []) hfix (c_X9_minuteOfK l D q ad σ0 σ1 σ2 σ3 σ4 σ5 σ6 σ7 σ8 σ9 σ10 σ11 σ12 σ13 σ14 σ15 σ16 σ17 σ18 (xspl σ19 11 (kGoN σ4 (tn (σ2 0)) (tn (σ5 0)) σ9 σ10 σ11 (tn (σ8 0)) (-4) (xreg σ19 0, σ24, σ25) n).1) σ20 σ21 σ22 σ23 (kGoN σ4 (tn (σ2 0)) (tn (σ5 0)) σ9 σ10 σ11 (tn (σ8 0)) (-4) (xreg σ19 0, σ24, σ25) n).2.1 (kGoN σ4 (tn (σ2 0)) (tn (σ5 0)) σ9 σ10 σ11 (tn (σ8 0)) (-4) (xreg σ19 0, σ24, σ25) n).2.2 σ26 σ27 σ28 σ29 σ30 σ19 11 (kGoN σ4 (tn (σ2 0)) (tn (σ5 0)) σ9 σ10 σ11 (tn (σ8 0)) (-4) (xreg σ19 0, σ24, σ25) n).1 (by omega)) (cwV 1 hts gX9_first_X9_minuteOf rfl rfl rfl (by decide +kernel) ⟨Nat.le_of_ble_eq_true rfl, Nat.le_of_ble_eq_true rfl⟩) hM [0] rfl rfl 0 0 rfl rfl rfl rfl rfl hl.1 rfl (Nat.le_of_ble_eq_true rfl) dX9_first_22 ⟨Nat.le_of_ble_eq_true rfl, Nat.le_of_ble_eq_true rfl⟩) (fun r u H locs hq hM => ?_)
    subst hq
    have hM : xM D (TY q) [w9 q ad σ0 σ1 σ2 σ3 σ4 σ5 σ6 σ7 σ8 σ9 σ10 σ11 σ12 σ13 σ14 σ15 σ16 σ17 σ18 (xspl σ19 11 (kGoN σ4 (tn (σ2 0)) (tn (σ5 0)) σ9 σ10 σ11 (tn (σ8 0)) (-4) (xreg σ19 0, σ24, σ25) n).1) σ20 σ21 σ22 σ23 (kGoN σ4 (tn (σ2 0)) (tn (σ5 0)) σ9 σ10 σ11 (tn (σ8 0)) (-4) (xreg σ19 0, σ24, σ25) n).2.1 (kGoN σ4 (tn (σ2 0)) (tn (σ5 0)) σ9 σ10 σ11 (tn (σ8 0)) (-4) (xreg σ19 0, σ24, σ25) n).2.2 σ26 σ27 σ28 σ29 σ30] A s.heap s H locs := hM
    refine x_cast (y := nI (tn (xreg σ19 0 25) + n)) (okK_goM hE hK0 n (by omega)).2 ?_
    refine lv_bipush (v := nI 60) hx hb dX9_first_25 (by decide) ?_
    refine x_icmp_ge (x := tn (xreg σ19 0 25) + n) (y := 60) (tgt := 63) hx hb (by omega) (by omega) dX9_first_27 (by decide) (fun c5 => ?_) (fun c5 => ?_)
    · refine lv_bipush (v := (-4)) hx hb dX9_first_63 (by decide) ?_
      exact x_iret hx hb hr hlocks ((kGoN σ4 (tn (σ2 0)) (tn (σ5 0)) σ9 σ10 σ11 (tn (σ8 0)) (-4) (xreg σ19 0, σ24, σ25) n).1, (kGoN σ4 (tn (σ2 0)) (tn (σ5 0)) σ9 σ10 σ11 (tn (σ8 0)) (-4) (xreg σ19 0, σ24, σ25) n).2.1, (kGoN σ4 (tn (σ2 0)) (tn (σ5 0)) σ9 σ10 σ11 (tn (σ8 0)) (-4) (xreg σ19 0, σ24, σ25) n).2.2) hM (show (-4) = if what = 0 then (kFir σ4 (tn (σ2 0)) (tn (σ5 0)) σ9 σ10 σ11 (tn (σ8 0)) (60 - tn (xreg σ19 0 25)) (xreg σ19 0, σ24, σ25)).1 else (kFir σ4 (tn (σ2 0)) (tn (σ5 0)) σ9 σ10 σ11 (tn (σ8 0)) (60 - tn (xreg σ19 0 25)) (xreg σ19 0, σ24, σ25)).2 from by (rw [hfr, show 60 - tn (xreg σ19 0 25) - n = 0 by omega]; split <;> rfl)) dX9_first_65
    · refine lv_aload_n hx hb dX9_first_30 rfl (lv_at hl 0 rfl) ?_
      refine lv_bipush (v := nI 11) hx hb dX9_first_31 (by decide) ?_
      refine lv_bipush (v := (-4)) hx hb dX9_first_33 (by decide) ?_
      refine x_callv (bc := [w9 q ad σ0 σ1 σ2 σ3 σ4 σ5 σ6 σ7 σ8 σ9 σ10 σ11 σ12 σ13 σ14 σ15 σ16 σ17 σ18 (xspl σ19 11 (kGoN σ4 (tn (σ2 0)) (tn (σ5 0)) σ9 σ10 σ11 (tn (σ8 0)) (-4) (xreg σ19 0, σ24, σ25) n).1) σ20 σ21 σ22 σ23 (kGoN σ4 (tn (σ2 0)) (tn (σ5 0)) σ9 σ10 σ11 (tn (σ8 0)) (-4) (xreg σ19 0, σ24, σ25) n).2.1 (kGoN σ4 (tn (σ2 0)) (tn (σ5 0)) σ9 σ10 σ11 (tn (σ8 0)) (-4) (xreg σ19 0, σ24, σ25) n).2.2 σ26 σ27 σ28 σ29 σ30]) (br := []) hM [0] [] rfl rfl rfl (by decide) (x_runV (As := [.int (nI 11), .int (-4)]) (rest := []) hfix (c_X9_goK l D q ad σ0 σ1 σ2 σ3 σ4 σ5 σ6 σ7 σ8 σ9 σ10 σ11 σ12 σ13 σ14 σ15 σ16 σ17 σ18 (xspl σ19 11 (kGoN σ4 (tn (σ2 0)) (tn (σ5 0)) σ9 σ10 σ11 (tn (σ8 0)) (-4) (xreg σ19 0, σ24, σ25) n).1) σ20 σ21 σ22 σ23 (kGoN σ4 (tn (σ2 0)) (tn (σ5 0)) σ9 σ10 σ11 (tn (σ8 0)) (-4) (xreg σ19 0, σ24, σ25) n).2.1 (kGoN σ4 (tn (σ2 0)) (tn (σ5 0)) σ9 σ10 σ11 (tn (σ8 0)) (-4) (xreg σ19 0, σ24, σ25) n).2.2 σ26 σ27 σ28 σ29 σ30 σ19 11 (kGoN σ4 (tn (σ2 0)) (tn (σ5 0)) σ9 σ10 σ11 (tn (σ8 0)) (-4) (xreg σ19 0, σ24, σ25) n).1 (-4) (by omega) hc2 hc5 hc8 hE (okK_goM hE hK0 n (by omega)).1 (by rw [(okK_goM (kd := σ4) (G := tn (σ2 0)) (nH := tn (σ5 0)) (z := (-4)) (w := σ24) (hu := σ25) hE hK0 n (by omega)).2, tn_nI (by omega)]; omega)) (cwV 2 hts gX9_first_X9_go rfl rfl rfl (by decide +kernel) ⟨Nat.le_of_ble_eq_true rfl, Nat.le_of_ble_eq_true rfl⟩) hM [0] rfl rfl 0 0 rfl rfl rfl rfl rfl hl.1 rfl (Nat.le_of_ble_eq_true rfl) dX9_first_35 ⟨Nat.le_of_ble_eq_true rfl, Nat.le_of_ble_eq_true rfl⟩) (fun u H locs hq hM => ?_)
      have hM : xM D (TY q) [w9 q ad σ0 σ1 σ2 σ3 σ4 σ5 σ6 σ7 σ8 σ9 σ10 σ11 σ12 σ13 σ14 σ15 σ16 σ17 σ18 (xspl σ19 11 (kGo σ4 (tn (σ2 0)) (tn (σ5 0)) σ9 σ10 σ11 (tn (σ8 0)) (-4) ((kGoN σ4 (tn (σ2 0)) (tn (σ5 0)) σ9 σ10 σ11 (tn (σ8 0)) (-4) (xreg σ19 0, σ24, σ25) n).1, (kGoN σ4 (tn (σ2 0)) (tn (σ5 0)) σ9 σ10 σ11 (tn (σ8 0)) (-4) (xreg σ19 0, σ24, σ25) n).2.1, (kGoN σ4 (tn (σ2 0)) (tn (σ5 0)) σ9 σ10 σ11 (tn (σ8 0)) (-4) (xreg σ19 0, σ24, σ25) n).2.2)).1) σ20 σ21 σ22 σ23 (kGo σ4 (tn (σ2 0)) (tn (σ5 0)) σ9 σ10 σ11 (tn (σ8 0)) (-4) ((kGoN σ4 (tn (σ2 0)) (tn (σ5 0)) σ9 σ10 σ11 (tn (σ8 0)) (-4) (xreg σ19 0, σ24, σ25) n).1, (kGoN σ4 (tn (σ2 0)) (tn (σ5 0)) σ9 σ10 σ11 (tn (σ8 0)) (-4) (xreg σ19 0, σ24, σ25) n).2.1, (kGoN σ4 (tn (σ2 0)) (tn (σ5 0)) σ9 σ10 σ11 (tn (σ8 0)) (-4) (xreg σ19 0, σ24, σ25) n).2.2)).2.1 (kGo σ4 (tn (σ2 0)) (tn (σ5 0)) σ9 σ10 σ11 (tn (σ8 0)) (-4) ((kGoN σ4 (tn (σ2 0)) (tn (σ5 0)) σ9 σ10 σ11 (tn (σ8 0)) (-4) (xreg σ19 0, σ24, σ25) n).1, (kGoN σ4 (tn (σ2 0)) (tn (σ5 0)) σ9 σ10 σ11 (tn (σ8 0)) (-4) (xreg σ19 0, σ24, σ25) n).2.1, (kGoN σ4 (tn (σ2 0)) (tn (σ5 0)) σ9 σ10 σ11 (tn (σ8 0)) (-4) (xreg σ19 0, σ24, σ25) n).2.2)).2.2 σ26 σ27 σ28 σ29 σ30] A s.heap s H locs := hM
      refine lv_aload_n hx hb dX9_first_38 rfl (lv_at hl 0 rfl) ?_
      refine x_get hx hb hts iwX9_first_X9 hown hM 0 0 rfl rfl rfl 24 (by decide) (hts _ lkX9_first_184) (fun _ h => h) rfl dX9_first_39 ?_
      refine lv_if_lt (tgt := 19) hx hb dX9_first_42 (by decide) (fun c6 => ?_) (fun c6 => ?_)
      · have e7 : ((xspl σ19 11 (kGo σ4 (tn (σ2 0)) (tn (σ5 0)) σ9 σ10 σ11 (tn (σ8 0)) (-4) ((kGoN σ4 (tn (σ2 0)) (tn (σ5 0)) σ9 σ10 σ11 (tn (σ8 0)) (-4) (xreg σ19 0, σ24, σ25) n).1, (kGoN σ4 (tn (σ2 0)) (tn (σ5 0)) σ9 σ10 σ11 (tn (σ8 0)) (-4) (xreg σ19 0, σ24, σ25) n).2.1, (kGoN σ4 (tn (σ2 0)) (tn (σ5 0)) σ9 σ10 σ11 (tn (σ8 0)) (-4) (xreg σ19 0, σ24, σ25) n).2.2)).1) : Nat → Int32) = (xspl σ19 11 (kGoN σ4 (tn (σ2 0)) (tn (σ5 0)) σ9 σ10 σ11 (tn (σ8 0)) (-4) (xreg σ19 0, σ24, σ25) (n + 1)).1) := by rfl
        have hM : xM D (TY q) [w9 q ad σ0 σ1 σ2 σ3 σ4 σ5 σ6 σ7 σ8 σ9 σ10 σ11 σ12 σ13 σ14 σ15 σ16 σ17 σ18 (xspl σ19 11 (kGoN σ4 (tn (σ2 0)) (tn (σ5 0)) σ9 σ10 σ11 (tn (σ8 0)) (-4) (xreg σ19 0, σ24, σ25) (n + 1)).1) σ20 σ21 σ22 σ23 (kGo σ4 (tn (σ2 0)) (tn (σ5 0)) σ9 σ10 σ11 (tn (σ8 0)) (-4) ((kGoN σ4 (tn (σ2 0)) (tn (σ5 0)) σ9 σ10 σ11 (tn (σ8 0)) (-4) (xreg σ19 0, σ24, σ25) n).1, (kGoN σ4 (tn (σ2 0)) (tn (σ5 0)) σ9 σ10 σ11 (tn (σ8 0)) (-4) (xreg σ19 0, σ24, σ25) n).2.1, (kGoN σ4 (tn (σ2 0)) (tn (σ5 0)) σ9 σ10 σ11 (tn (σ8 0)) (-4) (xreg σ19 0, σ24, σ25) n).2.2)).2.1 (kGo σ4 (tn (σ2 0)) (tn (σ5 0)) σ9 σ10 σ11 (tn (σ8 0)) (-4) ((kGoN σ4 (tn (σ2 0)) (tn (σ5 0)) σ9 σ10 σ11 (tn (σ8 0)) (-4) (xreg σ19 0, σ24, σ25) n).1, (kGoN σ4 (tn (σ2 0)) (tn (σ5 0)) σ9 σ10 σ11 (tn (σ8 0)) (-4) (xreg σ19 0, σ24, σ25) n).2.1, (kGoN σ4 (tn (σ2 0)) (tn (σ5 0)) σ9 σ10 σ11 (tn (σ8 0)) (-4) (xreg σ19 0, σ24, σ25) n).2.2)).2.2 σ26 σ27 σ28 σ29 σ30] A s.heap s H locs := Eq.mp (congrArg (fun z9 => xM D (TY q) [w9 q ad σ0 σ1 σ2 σ3 σ4 σ5 σ6 σ7 σ8 σ9 σ10 σ11 σ12 σ13 σ14 σ15 σ16 σ17 σ18 z9 σ20 σ21 σ22 σ23 (kGo σ4 (tn (σ2 0)) (tn (σ5 0)) σ9 σ10 σ11 (tn (σ8 0)) (-4) ((kGoN σ4 (tn (σ2 0)) (tn (σ5 0)) σ9 σ10 σ11 (tn (σ8 0)) (-4) (xreg σ19 0, σ24, σ25) n).1, (kGoN σ4 (tn (σ2 0)) (tn (σ5 0)) σ9 σ10 σ11 (tn (σ8 0)) (-4) (xreg σ19 0, σ24, σ25) n).2.1, (kGoN σ4 (tn (σ2 0)) (tn (σ5 0)) σ9 σ10 σ11 (tn (σ8 0)) (-4) (xreg σ19 0, σ24, σ25) n).2.2)).2.1 (kGo σ4 (tn (σ2 0)) (tn (σ5 0)) σ9 σ10 σ11 (tn (σ8 0)) (-4) ((kGoN σ4 (tn (σ2 0)) (tn (σ5 0)) σ9 σ10 σ11 (tn (σ8 0)) (-4) (xreg σ19 0, σ24, σ25) n).1, (kGoN σ4 (tn (σ2 0)) (tn (σ5 0)) σ9 σ10 σ11 (tn (σ8 0)) (-4) (xreg σ19 0, σ24, σ25) n).2.1, (kGoN σ4 (tn (σ2 0)) (tn (σ5 0)) σ9 σ10 σ11 (tn (σ8 0)) (-4) (xreg σ19 0, σ24, σ25) n).2.2)).2.2 σ26 σ27 σ28 σ29 σ30] A s.heap s H locs) e7) hM
        have e8 : (((kGo σ4 (tn (σ2 0)) (tn (σ5 0)) σ9 σ10 σ11 (tn (σ8 0)) (-4) ((kGoN σ4 (tn (σ2 0)) (tn (σ5 0)) σ9 σ10 σ11 (tn (σ8 0)) (-4) (xreg σ19 0, σ24, σ25) n).1, (kGoN σ4 (tn (σ2 0)) (tn (σ5 0)) σ9 σ10 σ11 (tn (σ8 0)) (-4) (xreg σ19 0, σ24, σ25) n).2.1, (kGoN σ4 (tn (σ2 0)) (tn (σ5 0)) σ9 σ10 σ11 (tn (σ8 0)) (-4) (xreg σ19 0, σ24, σ25) n).2.2)).2.1) : Int32) = ((kGoN σ4 (tn (σ2 0)) (tn (σ5 0)) σ9 σ10 σ11 (tn (σ8 0)) (-4) (xreg σ19 0, σ24, σ25) (n + 1)).2.1) := by rfl
        have hM : xM D (TY q) [w9 q ad σ0 σ1 σ2 σ3 σ4 σ5 σ6 σ7 σ8 σ9 σ10 σ11 σ12 σ13 σ14 σ15 σ16 σ17 σ18 (xspl σ19 11 (kGoN σ4 (tn (σ2 0)) (tn (σ5 0)) σ9 σ10 σ11 (tn (σ8 0)) (-4) (xreg σ19 0, σ24, σ25) (n + 1)).1) σ20 σ21 σ22 σ23 (kGoN σ4 (tn (σ2 0)) (tn (σ5 0)) σ9 σ10 σ11 (tn (σ8 0)) (-4) (xreg σ19 0, σ24, σ25) (n + 1)).2.1 (kGo σ4 (tn (σ2 0)) (tn (σ5 0)) σ9 σ10 σ11 (tn (σ8 0)) (-4) ((kGoN σ4 (tn (σ2 0)) (tn (σ5 0)) σ9 σ10 σ11 (tn (σ8 0)) (-4) (xreg σ19 0, σ24, σ25) n).1, (kGoN σ4 (tn (σ2 0)) (tn (σ5 0)) σ9 σ10 σ11 (tn (σ8 0)) (-4) (xreg σ19 0, σ24, σ25) n).2.1, (kGoN σ4 (tn (σ2 0)) (tn (σ5 0)) σ9 σ10 σ11 (tn (σ8 0)) (-4) (xreg σ19 0, σ24, σ25) n).2.2)).2.2 σ26 σ27 σ28 σ29 σ30] A s.heap s H locs := Eq.mp (congrArg (fun z9 => xM D (TY q) [w9 q ad σ0 σ1 σ2 σ3 σ4 σ5 σ6 σ7 σ8 σ9 σ10 σ11 σ12 σ13 σ14 σ15 σ16 σ17 σ18 (xspl σ19 11 (kGoN σ4 (tn (σ2 0)) (tn (σ5 0)) σ9 σ10 σ11 (tn (σ8 0)) (-4) (xreg σ19 0, σ24, σ25) (n + 1)).1) σ20 σ21 σ22 σ23 z9 (kGo σ4 (tn (σ2 0)) (tn (σ5 0)) σ9 σ10 σ11 (tn (σ8 0)) (-4) ((kGoN σ4 (tn (σ2 0)) (tn (σ5 0)) σ9 σ10 σ11 (tn (σ8 0)) (-4) (xreg σ19 0, σ24, σ25) n).1, (kGoN σ4 (tn (σ2 0)) (tn (σ5 0)) σ9 σ10 σ11 (tn (σ8 0)) (-4) (xreg σ19 0, σ24, σ25) n).2.1, (kGoN σ4 (tn (σ2 0)) (tn (σ5 0)) σ9 σ10 σ11 (tn (σ8 0)) (-4) (xreg σ19 0, σ24, σ25) n).2.2)).2.2 σ26 σ27 σ28 σ29 σ30] A s.heap s H locs) e8) hM
        have e9 : (((kGo σ4 (tn (σ2 0)) (tn (σ5 0)) σ9 σ10 σ11 (tn (σ8 0)) (-4) ((kGoN σ4 (tn (σ2 0)) (tn (σ5 0)) σ9 σ10 σ11 (tn (σ8 0)) (-4) (xreg σ19 0, σ24, σ25) n).1, (kGoN σ4 (tn (σ2 0)) (tn (σ5 0)) σ9 σ10 σ11 (tn (σ8 0)) (-4) (xreg σ19 0, σ24, σ25) n).2.1, (kGoN σ4 (tn (σ2 0)) (tn (σ5 0)) σ9 σ10 σ11 (tn (σ8 0)) (-4) (xreg σ19 0, σ24, σ25) n).2.2)).2.2) : Int32) = ((kGoN σ4 (tn (σ2 0)) (tn (σ5 0)) σ9 σ10 σ11 (tn (σ8 0)) (-4) (xreg σ19 0, σ24, σ25) (n + 1)).2.2) := by rfl
        have hM : xM D (TY q) [w9 q ad σ0 σ1 σ2 σ3 σ4 σ5 σ6 σ7 σ8 σ9 σ10 σ11 σ12 σ13 σ14 σ15 σ16 σ17 σ18 (xspl σ19 11 (kGoN σ4 (tn (σ2 0)) (tn (σ5 0)) σ9 σ10 σ11 (tn (σ8 0)) (-4) (xreg σ19 0, σ24, σ25) (n + 1)).1) σ20 σ21 σ22 σ23 (kGoN σ4 (tn (σ2 0)) (tn (σ5 0)) σ9 σ10 σ11 (tn (σ8 0)) (-4) (xreg σ19 0, σ24, σ25) (n + 1)).2.1 (kGoN σ4 (tn (σ2 0)) (tn (σ5 0)) σ9 σ10 σ11 (tn (σ8 0)) (-4) (xreg σ19 0, σ24, σ25) (n + 1)).2.2 σ26 σ27 σ28 σ29 σ30] A s.heap s H locs := Eq.mp (congrArg (fun z9 => xM D (TY q) [w9 q ad σ0 σ1 σ2 σ3 σ4 σ5 σ6 σ7 σ8 σ9 σ10 σ11 σ12 σ13 σ14 σ15 σ16 σ17 σ18 (xspl σ19 11 (kGoN σ4 (tn (σ2 0)) (tn (σ5 0)) σ9 σ10 σ11 (tn (σ8 0)) (-4) (xreg σ19 0, σ24, σ25) (n + 1)).1) σ20 σ21 σ22 σ23 (kGoN σ4 (tn (σ2 0)) (tn (σ5 0)) σ9 σ10 σ11 (tn (σ8 0)) (-4) (xreg σ19 0, σ24, σ25) (n + 1)).2.1 z9 σ26 σ27 σ28 σ29 σ30] A s.heap s H locs) e9) hM
        have hl : lv_has ls 2 [(0, .ref (ad 0)), (1, .int (nI what))] := lv_sub hl [0, 1] rfl
        exact ih3 (n + 1) (show 60 - (n + 1) < 60 - n from by omega) (show tn (xreg σ19 0 25) + (n + 1) ≤ 60 ∧ (kFir σ4 (tn (σ2 0)) (tn (σ5 0)) σ9 σ10 σ11 (tn (σ8 0)) (60 - tn (xreg σ19 0 25)) (xreg σ19 0, σ24, σ25)) = (kFir σ4 (tn (σ2 0)) (tn (σ5 0)) σ9 σ10 σ11 (tn (σ8 0)) (60 - tn (xreg σ19 0 25) - (n + 1)) (kGoN σ4 (tn (σ2 0)) (tn (σ5 0)) σ9 σ10 σ11 (tn (σ8 0)) (-4) (xreg σ19 0, σ24, σ25) (n + 1))) from ⟨by omega, hfr.trans (kFir_s (by omega) (by assumption))⟩) _ _ hM _ hl
      · refine lv_iload_n hx hb dX9_first_45 rfl (lv_at hl 1 rfl) ?_
        refine x_if_ne (x := what) (tgt := 58) hx hb (by omega) dX9_first_46 (by decide) (fun c10 => ?_) (fun c10 => ?_)
        · refine lv_aload_n hx hb dX9_first_58 rfl (lv_at hl 0 rfl) ?_
          refine x_get hx hb hts iwX9_first_X9 hown hM 0 0 rfl rfl rfl 24 (by decide) (hts _ lkX9_first_184) (fun _ h => h) rfl dX9_first_59 ?_
          exact x_iret hx hb hr hlocks ((kGo σ4 (tn (σ2 0)) (tn (σ5 0)) σ9 σ10 σ11 (tn (σ8 0)) (-4) ((kGoN σ4 (tn (σ2 0)) (tn (σ5 0)) σ9 σ10 σ11 (tn (σ8 0)) (-4) (xreg σ19 0, σ24, σ25) n).1, (kGoN σ4 (tn (σ2 0)) (tn (σ5 0)) σ9 σ10 σ11 (tn (σ8 0)) (-4) (xreg σ19 0, σ24, σ25) n).2.1, (kGoN σ4 (tn (σ2 0)) (tn (σ5 0)) σ9 σ10 σ11 (tn (σ8 0)) (-4) (xreg σ19 0, σ24, σ25) n).2.2)).1, (kGo σ4 (tn (σ2 0)) (tn (σ5 0)) σ9 σ10 σ11 (tn (σ8 0)) (-4) ((kGoN σ4 (tn (σ2 0)) (tn (σ5 0)) σ9 σ10 σ11 (tn (σ8 0)) (-4) (xreg σ19 0, σ24, σ25) n).1, (kGoN σ4 (tn (σ2 0)) (tn (σ5 0)) σ9 σ10 σ11 (tn (σ8 0)) (-4) (xreg σ19 0, σ24, σ25) n).2.1, (kGoN σ4 (tn (σ2 0)) (tn (σ5 0)) σ9 σ10 σ11 (tn (σ8 0)) (-4) (xreg σ19 0, σ24, σ25) n).2.2)).2.1, (kGo σ4 (tn (σ2 0)) (tn (σ5 0)) σ9 σ10 σ11 (tn (σ8 0)) (-4) ((kGoN σ4 (tn (σ2 0)) (tn (σ5 0)) σ9 σ10 σ11 (tn (σ8 0)) (-4) (xreg σ19 0, σ24, σ25) n).1, (kGoN σ4 (tn (σ2 0)) (tn (σ5 0)) σ9 σ10 σ11 (tn (σ8 0)) (-4) (xreg σ19 0, σ24, σ25) n).2.1, (kGoN σ4 (tn (σ2 0)) (tn (σ5 0)) σ9 σ10 σ11 (tn (σ8 0)) (-4) (xreg σ19 0, σ24, σ25) n).2.2)).2.2) hM (show (kGo σ4 (tn (σ2 0)) (tn (σ5 0)) σ9 σ10 σ11 (tn (σ8 0)) (-4) ((kGoN σ4 (tn (σ2 0)) (tn (σ5 0)) σ9 σ10 σ11 (tn (σ8 0)) (-4) (xreg σ19 0, σ24, σ25) n).1, (kGoN σ4 (tn (σ2 0)) (tn (σ5 0)) σ9 σ10 σ11 (tn (σ8 0)) (-4) (xreg σ19 0, σ24, σ25) n).2.1, (kGoN σ4 (tn (σ2 0)) (tn (σ5 0)) σ9 σ10 σ11 (tn (σ8 0)) (-4) (xreg σ19 0, σ24, σ25) n).2.2)).2.1 = if what = 0 then (kFir σ4 (tn (σ2 0)) (tn (σ5 0)) σ9 σ10 σ11 (tn (σ8 0)) (60 - tn (xreg σ19 0 25)) (xreg σ19 0, σ24, σ25)).1 else (kFir σ4 (tn (σ2 0)) (tn (σ5 0)) σ9 σ10 σ11 (tn (σ8 0)) (60 - tn (xreg σ19 0 25)) (xreg σ19 0, σ24, σ25)).2 from by (rw [hfr, kFir_f (by omega) (by assumption)]; first | rw [if_pos (c := what = 0) (by omega)] | rw [if_neg (c := what = 0) (by omega)])) dX9_first_62
        · refine lv_aload_n hx hb dX9_first_49 rfl (lv_at hl 0 rfl) ?_
          refine lv_bipush (v := nI 11) hx hb dX9_first_50 (by decide) ?_
          refine x_calli (bc := [w9 q ad σ0 σ1 σ2 σ3 σ4 σ5 σ6 σ7 σ8 σ9 σ10 σ11 σ12 σ13 σ14 σ15 σ16 σ17 σ18 (xspl σ19 11 (kGo σ4 (tn (σ2 0)) (tn (σ5 0)) σ9 σ10 σ11 (tn (σ8 0)) (-4) ((kGoN σ4 (tn (σ2 0)) (tn (σ5 0)) σ9 σ10 σ11 (tn (σ8 0)) (-4) (xreg σ19 0, σ24, σ25) n).1, (kGoN σ4 (tn (σ2 0)) (tn (σ5 0)) σ9 σ10 σ11 (tn (σ8 0)) (-4) (xreg σ19 0, σ24, σ25) n).2.1, (kGoN σ4 (tn (σ2 0)) (tn (σ5 0)) σ9 σ10 σ11 (tn (σ8 0)) (-4) (xreg σ19 0, σ24, σ25) n).2.2)).1) σ20 σ21 σ22 σ23 (kGo σ4 (tn (σ2 0)) (tn (σ5 0)) σ9 σ10 σ11 (tn (σ8 0)) (-4) ((kGoN σ4 (tn (σ2 0)) (tn (σ5 0)) σ9 σ10 σ11 (tn (σ8 0)) (-4) (xreg σ19 0, σ24, σ25) n).1, (kGoN σ4 (tn (σ2 0)) (tn (σ5 0)) σ9 σ10 σ11 (tn (σ8 0)) (-4) (xreg σ19 0, σ24, σ25) n).2.1, (kGoN σ4 (tn (σ2 0)) (tn (σ5 0)) σ9 σ10 σ11 (tn (σ8 0)) (-4) (xreg σ19 0, σ24, σ25) n).2.2)).2.1 (kGo σ4 (tn (σ2 0)) (tn (σ5 0)) σ9 σ10 σ11 (tn (σ8 0)) (-4) ((kGoN σ4 (tn (σ2 0)) (tn (σ5 0)) σ9 σ10 σ11 (tn (σ8 0)) (-4) (xreg σ19 0, σ24, σ25) n).1, (kGoN σ4 (tn (σ2 0)) (tn (σ5 0)) σ9 σ10 σ11 (tn (σ8 0)) (-4) (xreg σ19 0, σ24, σ25) n).2.1, (kGoN σ4 (tn (σ2 0)) (tn (σ5 0)) σ9 σ10 σ11 (tn (σ8 0)) (-4) (xreg σ19 0, σ24, σ25) n).2.2)).2.2 σ26 σ27 σ28 σ29 σ30]) (br := []) hM [0] [] rfl rfl rfl (by decide) (x_runV (As := [.int (nI 11)]) (rest := []) hfix (c_X9_minuteOfK l D q ad σ0 σ1 σ2 σ3 σ4 σ5 σ6 σ7 σ8 σ9 σ10 σ11 σ12 σ13 σ14 σ15 σ16 σ17 σ18 (xspl σ19 11 (kGo σ4 (tn (σ2 0)) (tn (σ5 0)) σ9 σ10 σ11 (tn (σ8 0)) (-4) ((kGoN σ4 (tn (σ2 0)) (tn (σ5 0)) σ9 σ10 σ11 (tn (σ8 0)) (-4) (xreg σ19 0, σ24, σ25) n).1, (kGoN σ4 (tn (σ2 0)) (tn (σ5 0)) σ9 σ10 σ11 (tn (σ8 0)) (-4) (xreg σ19 0, σ24, σ25) n).2.1, (kGoN σ4 (tn (σ2 0)) (tn (σ5 0)) σ9 σ10 σ11 (tn (σ8 0)) (-4) (xreg σ19 0, σ24, σ25) n).2.2)).1) σ20 σ21 σ22 σ23 (kGo σ4 (tn (σ2 0)) (tn (σ5 0)) σ9 σ10 σ11 (tn (σ8 0)) (-4) ((kGoN σ4 (tn (σ2 0)) (tn (σ5 0)) σ9 σ10 σ11 (tn (σ8 0)) (-4) (xreg σ19 0, σ24, σ25) n).1, (kGoN σ4 (tn (σ2 0)) (tn (σ5 0)) σ9 σ10 σ11 (tn (σ8 0)) (-4) (xreg σ19 0, σ24, σ25) n).2.1, (kGoN σ4 (tn (σ2 0)) (tn (σ5 0)) σ9 σ10 σ11 (tn (σ8 0)) (-4) (xreg σ19 0, σ24, σ25) n).2.2)).2.1 (kGo σ4 (tn (σ2 0)) (tn (σ5 0)) σ9 σ10 σ11 (tn (σ8 0)) (-4) ((kGoN σ4 (tn (σ2 0)) (tn (σ5 0)) σ9 σ10 σ11 (tn (σ8 0)) (-4) (xreg σ19 0, σ24, σ25) n).1, (kGoN σ4 (tn (σ2 0)) (tn (σ5 0)) σ9 σ10 σ11 (tn (σ8 0)) (-4) (xreg σ19 0, σ24, σ25) n).2.1, (kGoN σ4 (tn (σ2 0)) (tn (σ5 0)) σ9 σ10 σ11 (tn (σ8 0)) (-4) (xreg σ19 0, σ24, σ25) n).2.2)).2.2 σ26 σ27 σ28 σ29 σ30 σ19 11 (kGo σ4 (tn (σ2 0)) (tn (σ5 0)) σ9 σ10 σ11 (tn (σ8 0)) (-4) ((kGoN σ4 (tn (σ2 0)) (tn (σ5 0)) σ9 σ10 σ11 (tn (σ8 0)) (-4) (xreg σ19 0, σ24, σ25) n).1, (kGoN σ4 (tn (σ2 0)) (tn (σ5 0)) σ9 σ10 σ11 (tn (σ8 0)) (-4) (xreg σ19 0, σ24, σ25) n).2.1, (kGoN σ4 (tn (σ2 0)) (tn (σ5 0)) σ9 σ10 σ11 (tn (σ8 0)) (-4) (xreg σ19 0, σ24, σ25) n).2.2)).1 (by omega)) (cwV 1 hts gX9_first_X9_minuteOf rfl rfl rfl (by decide +kernel) ⟨Nat.le_of_ble_eq_true rfl, Nat.le_of_ble_eq_true rfl⟩) hM [0] rfl rfl 0 0 rfl rfl rfl rfl rfl hl.1 rfl (Nat.le_of_ble_eq_true rfl) dX9_first_52 ⟨Nat.le_of_ble_eq_true rfl, Nat.le_of_ble_eq_true rfl⟩) (fun r u H locs hq hM => ?_)
          subst hq
          have hM : xM D (TY q) [w9 q ad σ0 σ1 σ2 σ3 σ4 σ5 σ6 σ7 σ8 σ9 σ10 σ11 σ12 σ13 σ14 σ15 σ16 σ17 σ18 (xspl σ19 11 (kGo σ4 (tn (σ2 0)) (tn (σ5 0)) σ9 σ10 σ11 (tn (σ8 0)) (-4) ((kGoN σ4 (tn (σ2 0)) (tn (σ5 0)) σ9 σ10 σ11 (tn (σ8 0)) (-4) (xreg σ19 0, σ24, σ25) n).1, (kGoN σ4 (tn (σ2 0)) (tn (σ5 0)) σ9 σ10 σ11 (tn (σ8 0)) (-4) (xreg σ19 0, σ24, σ25) n).2.1, (kGoN σ4 (tn (σ2 0)) (tn (σ5 0)) σ9 σ10 σ11 (tn (σ8 0)) (-4) (xreg σ19 0, σ24, σ25) n).2.2)).1) σ20 σ21 σ22 σ23 (kGo σ4 (tn (σ2 0)) (tn (σ5 0)) σ9 σ10 σ11 (tn (σ8 0)) (-4) ((kGoN σ4 (tn (σ2 0)) (tn (σ5 0)) σ9 σ10 σ11 (tn (σ8 0)) (-4) (xreg σ19 0, σ24, σ25) n).1, (kGoN σ4 (tn (σ2 0)) (tn (σ5 0)) σ9 σ10 σ11 (tn (σ8 0)) (-4) (xreg σ19 0, σ24, σ25) n).2.1, (kGoN σ4 (tn (σ2 0)) (tn (σ5 0)) σ9 σ10 σ11 (tn (σ8 0)) (-4) (xreg σ19 0, σ24, σ25) n).2.2)).2.1 (kGo σ4 (tn (σ2 0)) (tn (σ5 0)) σ9 σ10 σ11 (tn (σ8 0)) (-4) ((kGoN σ4 (tn (σ2 0)) (tn (σ5 0)) σ9 σ10 σ11 (tn (σ8 0)) (-4) (xreg σ19 0, σ24, σ25) n).1, (kGoN σ4 (tn (σ2 0)) (tn (σ5 0)) σ9 σ10 σ11 (tn (σ8 0)) (-4) (xreg σ19 0, σ24, σ25) n).2.1, (kGoN σ4 (tn (σ2 0)) (tn (σ5 0)) σ9 σ10 σ11 (tn (σ8 0)) (-4) (xreg σ19 0, σ24, σ25) n).2.2)).2.2 σ26 σ27 σ28 σ29 σ30] A s.heap s H locs := hM
          refine lv_goto (tgt := 62) hx hb dX9_first_55 (by decide) ?_
          exact x_iret hx hb hr hlocks ((kGo σ4 (tn (σ2 0)) (tn (σ5 0)) σ9 σ10 σ11 (tn (σ8 0)) (-4) ((kGoN σ4 (tn (σ2 0)) (tn (σ5 0)) σ9 σ10 σ11 (tn (σ8 0)) (-4) (xreg σ19 0, σ24, σ25) n).1, (kGoN σ4 (tn (σ2 0)) (tn (σ5 0)) σ9 σ10 σ11 (tn (σ8 0)) (-4) (xreg σ19 0, σ24, σ25) n).2.1, (kGoN σ4 (tn (σ2 0)) (tn (σ5 0)) σ9 σ10 σ11 (tn (σ8 0)) (-4) (xreg σ19 0, σ24, σ25) n).2.2)).1, (kGo σ4 (tn (σ2 0)) (tn (σ5 0)) σ9 σ10 σ11 (tn (σ8 0)) (-4) ((kGoN σ4 (tn (σ2 0)) (tn (σ5 0)) σ9 σ10 σ11 (tn (σ8 0)) (-4) (xreg σ19 0, σ24, σ25) n).1, (kGoN σ4 (tn (σ2 0)) (tn (σ5 0)) σ9 σ10 σ11 (tn (σ8 0)) (-4) (xreg σ19 0, σ24, σ25) n).2.1, (kGoN σ4 (tn (σ2 0)) (tn (σ5 0)) σ9 σ10 σ11 (tn (σ8 0)) (-4) (xreg σ19 0, σ24, σ25) n).2.2)).2.1, (kGo σ4 (tn (σ2 0)) (tn (σ5 0)) σ9 σ10 σ11 (tn (σ8 0)) (-4) ((kGoN σ4 (tn (σ2 0)) (tn (σ5 0)) σ9 σ10 σ11 (tn (σ8 0)) (-4) (xreg σ19 0, σ24, σ25) n).1, (kGoN σ4 (tn (σ2 0)) (tn (σ5 0)) σ9 σ10 σ11 (tn (σ8 0)) (-4) (xreg σ19 0, σ24, σ25) n).2.1, (kGoN σ4 (tn (σ2 0)) (tn (σ5 0)) σ9 σ10 σ11 (tn (σ8 0)) (-4) (xreg σ19 0, σ24, σ25) n).2.2)).2.2) hM (show (kGo σ4 (tn (σ2 0)) (tn (σ5 0)) σ9 σ10 σ11 (tn (σ8 0)) (-4) ((kGoN σ4 (tn (σ2 0)) (tn (σ5 0)) σ9 σ10 σ11 (tn (σ8 0)) (-4) (xreg σ19 0, σ24, σ25) n).1, (kGoN σ4 (tn (σ2 0)) (tn (σ5 0)) σ9 σ10 σ11 (tn (σ8 0)) (-4) (xreg σ19 0, σ24, σ25) n).2.1, (kGoN σ4 (tn (σ2 0)) (tn (σ5 0)) σ9 σ10 σ11 (tn (σ8 0)) (-4) (xreg σ19 0, σ24, σ25) n).2.2)).1 25 = if what = 0 then (kFir σ4 (tn (σ2 0)) (tn (σ5 0)) σ9 σ10 σ11 (tn (σ8 0)) (60 - tn (xreg σ19 0 25)) (xreg σ19 0, σ24, σ25)).1 else (kFir σ4 (tn (σ2 0)) (tn (σ5 0)) σ9 σ10 σ11 (tn (σ8 0)) (60 - tn (xreg σ19 0 25)) (xreg σ19 0, σ24, σ25)).2 from by (rw [hfr, kFir_f (by omega) (by assumption)]; first | rw [if_pos (c := what = 0) (by omega)] | rw [if_neg (c := what = 0) (by omega)])) dX9_first_62
  · exfalso; omega

set_option maxHeartbeats 4000000 in
set_option maxRecDepth 100000 in
theorem c_X9_firstB (l : Launch) (D : va_G) (q : Nat → ClassId) (ad : Nat → Nat) (σ0 : Int32) (σ1 : Nat → Int32) (σ2 : Nat → Int32) (σ3 : Nat → Int32) (σ4 : Nat → Int32) (σ5 : Nat → Int32) (σ6 : Nat → Int32) (σ7 : Nat → Int32) (σ8 : Nat → Int32) (σ9 : Nat → Int32) (σ10 : Nat → Int32) (σ11 : Nat → Int32) (σ12 : Nat → Int32) (σ13 : Nat → Int32) (σ14 : Nat → Int32) (σ15 : Nat → Int32) (σ16 : Nat → Int32) (σ17 : Nat → Int32) (σ18 : Nat → Int32) (σ19 : Nat → Int32) (σ20 : Int32) (σ21 : Int32) (σ22 : Int32) (σ23 : Nat → Int32) (σ24 : Int32) (σ25 : Int32) (σ26 : Nat → Int32) (σ27 : Nat → Int32) (σ28 : Nat → Int32) (σ29 : Nat → Int32) (σ30 : Nat → Int32) (what : Int32) (whatz : Int) (h_whatz : what.toInt = whatz) (hbad : ¬ (0 ≤ whatz ∧ whatz ≤ 1)) : xC l yX9_first wsX9_first ({ frames := 3, cells := 0, slots := 0, locals := 74 }) D (TY q) [w9 q ad σ0 σ1 σ2 σ3 σ4 σ5 σ6 σ7 σ8 σ9 σ10 σ11 σ12 σ13 σ14 σ15 σ16 σ17 σ18 σ19 σ20 σ21 σ22 σ23 σ24 σ25 σ26 σ27 σ28 σ29 σ30] [.ref (ad 0), .int what] (xQi D (TY q) (fun (r : Int32) (_ : Unit) => r = (-1)) (fun _ => [w9 q ad σ0 σ1 σ2 σ3 σ4 σ5 σ6 σ7 σ8 σ9 σ10 σ11 σ12 σ13 σ14 σ15 σ16 σ17 σ18 σ19 σ20 σ21 σ22 σ23 σ24 σ25 σ26 σ27 σ28 σ29 σ30])) 0 0 := by
  refine x_enter (cc := cX9_first) (maxL := 2) (ret := (some .int)) (by decide) rfl (Nat.le_of_ble_eq_true rfl) ?_
  intro p e s m below meth c A ls H locs hfix hr hlocks hinit hM hl
  obtain ⟨hx, hb, hml, hown, hts⟩ := id hfix
  have hl : lv_has ls 2 [(0, .ref (ad 0)), (1, .int what)] := hl
  refine lv_iload_n hx hb dX9_first_0 rfl (lv_at hl 1 rfl) ?_
  refine x_i2l hx hb dX9_first_1 ?_
  refine lv_lconst (v := 0) hx hb dX9_first_2 (by decide) ?_
  refine lv_lconst (v := 1) hx hb dX9_first_3 (by decide) ?_
  refine x_calli (bc := []) (br := [w9 q ad σ0 σ1 σ2 σ3 σ4 σ5 σ6 σ7 σ8 σ9 σ10 σ11 σ12 σ13 σ14 σ15 σ16 σ17 σ18 σ19 σ20 σ21 σ22 σ23 σ24 σ25 σ26 σ27 σ28 σ29 σ30]) hM [] [0] rfl rfl rfl (by decide) (x_runS (As := [.long what.toInt64, .long (0 : Int64), .long (1 : Int64)]) (rest := []) hfix (c_X9_in l D q what.toInt64 (0 : Int64) (1 : Int64) whatz (0 : Int) (1 : Int) ((Jvm.Kit.i64_of_i32 _).trans h_whatz) (by decide) (by decide)) (va_cwS 3 hts gX9_first_X9_in rfl rfl rfl (by decide +kernel) ⟨Nat.le_of_ble_eq_true rfl, Nat.le_of_ble_eq_true rfl⟩) hM [] rfl rfl rfl hl.1 rfl (Nat.le_of_ble_eq_true rfl) dX9_first_4 ⟨Nat.le_of_ble_eq_true rfl, Nat.le_of_ble_eq_true rfl⟩) (fun r u H locs hq hM => ?_)
  subst hq
  have hM : xM D (TY q) [w9 q ad σ0 σ1 σ2 σ3 σ4 σ5 σ6 σ7 σ8 σ9 σ10 σ11 σ12 σ13 σ14 σ15 σ16 σ17 σ18 σ19 σ20 σ21 σ22 σ23 σ24 σ25 σ26 σ27 σ28 σ29 σ30] A s.heap s H locs := hM
  refine x_ifz_ne (P := (0 : Int) ≤ whatz ∧ whatz ≤ (1 : Int)) (tgt := 12) hx hb dX9_first_7 (by decide) (fun c1 => ?_) (fun c1 => ?_)
  · exfalso; omega
  · refine lv_iconst (v := (-1)) hx hb dX9_first_10 (by decide) ?_
    exact x_iret hx hb hr hlocks () hM (show (-1) = (-1) from rfl) dX9_first_11

set_option maxRecDepth 20000 in
theorem ggX9_evening_X9_in : GoodIn wsX9_evening wsX9_in := goodIn_r _ [6] (by decide +kernel) (by decide +kernel)
set_option maxRecDepth 20000 in
theorem gX9_evening_X9_in : GoodIn wsX9_evening (va_wsS RX9 104 yX9_in wsX9_in) := goodIn_app (goodIn_of _ (by decide +kernel)) ggX9_evening_X9_in
set_option maxRecDepth 20000 in
theorem ggX9_evening_X9_copy : GoodIn wsX9_evening wsX9_copy := goodIn_r _ [10, 11, 85, 86, 87, 88, 89, 90, 91, 92, 93, 94, 95, 96, 97, 98, 99, 100, 101, 102, 103, 104, 105, 106, 107, 108, 109, 110, 111, 112, 113, 114, 115] (by decide +kernel) (by decide +kernel)
set_option maxRecDepth 20000 in
theorem gX9_evening_X9_copy : GoodIn wsX9_evening (wsV RX9 216 RX9 yX9_copy wsX9_copy) := goodIn_app (goodIn_of _ (by decide +kernel)) ggX9_evening_X9_copy
set_option maxRecDepth 20000 in
theorem ggX9_evening_X9_goToFive : GoodIn wsX9_evening wsX9_goToFive := goodIn_r _ [15, 2, 16, 17, 18, 5, 19, 11, 20, 21, 22, 23, 24, 25, 26, 27, 28, 29, 30, 31, 32, 33, 34, 35, 36, 37, 38, 39, 40, 41, 42, 43, 44, 45, 46, 47, 48, 49, 50, 51, 52, 53, 54, 55, 56, 57, 58, 59, 60, 61, 62, 63, 64, 65, 66, 67, 85, 86, 87, 88, 89, 90, 91, 92, 93, 94, 95, 96, 97, 98, 99, 100, 101, 102, 103, 104, 105, 106, 107, 108, 109, 110, 111, 112, 113, 114, 115] (by decide +kernel) (by decide +kernel)
set_option maxRecDepth 20000 in
theorem gX9_evening_X9_goToFive : GoodIn wsX9_evening (wsV RX9 219 RX9 yX9_goToFive wsX9_goToFive) := goodIn_app (goodIn_of _ (by decide +kernel)) ggX9_evening_X9_goToFive
set_option maxRecDepth 20000 in
theorem ggX9_evening_X9_worthOfAll : GoodIn wsX9_evening wsX9_worthOfAll := goodIn_r _ [71, 46, 72, 73, 74, 5, 75, 47, 76, 77, 78, 79, 80, 49, 50, 51, 52, 11, 81, 82, 83, 84, 48, 85, 86, 87, 88, 89, 90, 91, 92, 93, 94, 95, 96, 97, 98, 99, 100, 101, 102, 103, 104, 105, 106, 107, 108, 109, 110, 111, 112, 113, 114, 115] (by decide +kernel) (by decide +kernel)
set_option maxRecDepth 20000 in
theorem gX9_evening_X9_worthOfAll : GoodIn wsX9_evening (wsV RX9 251 RX9 yX9_worthOfAll wsX9_worthOfAll) := goodIn_app (goodIn_of _ (by decide +kernel)) ggX9_evening_X9_worthOfAll
theorem dX9_evening_0 : decode cX9_evening 0 = .ok (.iload_n 1, 1) := by decide +kernel
theorem dX9_evening_1 : decode cX9_evening 1 = .ok (.i2l, 1) := by decide +kernel
theorem dX9_evening_2 : decode cX9_evening 2 = .ok (.lconst 0, 1) := by decide +kernel
theorem dX9_evening_3 : decode cX9_evening 3 = .ok (.ldc2_w 285, 3) := by decide +kernel
theorem dX9_evening_6 : decode cX9_evening 6 = .ok (.invokestatic 104, 3) := by decide +kernel
theorem dX9_evening_9 : decode cX9_evening 9 = .ok (.ifCond .eq 13, 3) := by decide +kernel
theorem dX9_evening_12 : decode cX9_evening 12 = .ok (.iload_n 2, 1) := by decide +kernel
theorem dX9_evening_13 : decode cX9_evening 13 = .ok (.i2l, 1) := by decide +kernel
theorem dX9_evening_14 : decode cX9_evening 14 = .ok (.lconst 0, 1) := by decide +kernel
theorem dX9_evening_15 : decode cX9_evening 15 = .ok (.lconst 1, 1) := by decide +kernel
theorem dX9_evening_16 : decode cX9_evening 16 = .ok (.invokestatic 104, 3) := by decide +kernel
theorem dX9_evening_19 : decode cX9_evening 19 = .ok (.ifCond .ne 5, 3) := by decide +kernel
theorem dX9_evening_22 : decode cX9_evening 22 = .ok (.iconst (-1), 1) := by decide +kernel
theorem dX9_evening_23 : decode cX9_evening 23 = .ok (.ireturn, 1) := by decide +kernel
theorem dX9_evening_24 : decode cX9_evening 24 = .ok (.aload_n 0, 1) := by decide +kernel
theorem dX9_evening_25 : decode cX9_evening 25 = .ok (.iconst 0, 1) := by decide +kernel
theorem dX9_evening_26 : decode cX9_evening 26 = .ok (.bipush 11, 2) := by decide +kernel
theorem dX9_evening_28 : decode cX9_evening 28 = .ok (.invokevirtual 216, 3) := by decide +kernel
theorem dX9_evening_31 : decode cX9_evening 31 = .ok (.aload_n 0, 1) := by decide +kernel
theorem dX9_evening_32 : decode cX9_evening 32 = .ok (.bipush 11, 2) := by decide +kernel
theorem dX9_evening_34 : decode cX9_evening 34 = .ok (.iload_n 1, 1) := by decide +kernel
theorem dX9_evening_35 : decode cX9_evening 35 = .ok (.invokevirtual 219, 3) := by decide +kernel
theorem dX9_evening_38 : decode cX9_evening 38 = .ok (.iload_n 2, 1) := by decide +kernel
theorem dX9_evening_39 : decode cX9_evening 39 = .ok (.ifCond .ne 12, 3) := by decide +kernel
theorem dX9_evening_42 : decode cX9_evening 42 = .ok (.aload_n 0, 1) := by decide +kernel
theorem dX9_evening_43 : decode cX9_evening 43 = .ok (.bipush 11, 2) := by decide +kernel
theorem dX9_evening_45 : decode cX9_evening 45 = .ok (.invokevirtual 251, 3) := by decide +kernel
theorem dX9_evening_48 : decode cX9_evening 48 = .ok (.goto 7, 3) := by decide +kernel
theorem dX9_evening_51 : decode cX9_evening 51 = .ok (.aload_n 0, 1) := by decide +kernel
theorem dX9_evening_52 : decode cX9_evening 52 = .ok (.getfield 187, 3) := by decide +kernel
theorem dX9_evening_55 : decode cX9_evening 55 = .ok (.ireturn, 1) := by decide +kernel
theorem lkX9_evening_187 : Cond.fieldLink RX9 187 "LeftAtFiveModel" "hungers" "I" ∈ wsX9_evening := by decide +kernel
theorem iwX9_evening_X9 : ∀ w ∈ wsX90, w ∈ wsX9_evening := by decide +kernel
set_option maxHeartbeats 4000000 in
set_option maxRecDepth 100000 in
theorem c_X9_evening (l : Launch) (D : va_G) (q : Nat → ClassId) (ad : Nat → Nat) (σ0 : Int32) (σ1 : Nat → Int32) (σ2 : Nat → Int32) (σ3 : Nat → Int32) (σ4 : Nat → Int32) (σ5 : Nat → Int32) (σ6 : Nat → Int32) (σ7 : Nat → Int32) (σ8 : Nat → Int32) (σ9 : Nat → Int32) (σ10 : Nat → Int32) (σ11 : Nat → Int32) (σ12 : Nat → Int32) (σ13 : Nat → Int32) (σ14 : Nat → Int32) (σ15 : Nat → Int32) (σ16 : Nat → Int32) (σ17 : Nat → Int32) (σ18 : Nat → Int32) (σ19 : Nat → Int32) (σ20 : Int32) (σ21 : Int32) (σ22 : Int32) (σ23 : Nat → Int32) (σ24 : Int32) (σ25 : Int32) (σ26 : Nat → Int32) (σ27 : Nat → Int32) (σ28 : Nat → Int32) (σ29 : Nat → Int32) (σ30 : Nat → Int32) (z : Nat) (what : Nat) (hz9 : z ≤ 9999) (hwh : what ≤ 1) (hc2 : σ2 0 = nI (tn (σ2 0)) ∧ tn (σ2 0) ≤ 5) (hc5 : σ5 0 = nI (tn (σ5 0)) ∧ tn (σ5 0) ≤ 5) (hc8 : σ8 0 = nI (tn (σ8 0)) ∧ tn (σ8 0) ≤ 8) (hE : okE σ9 σ10 σ11 (tn (σ8 0))) (hK0 : okK (xreg σ19 0)) : xC l yX9_evening wsX9_evening ({ frames := 4, cells := 0, slots := 0, locals := 96 }) D (TY q) [w9 q ad σ0 σ1 σ2 σ3 σ4 σ5 σ6 σ7 σ8 σ9 σ10 σ11 σ12 σ13 σ14 σ15 σ16 σ17 σ18 σ19 σ20 σ21 σ22 σ23 σ24 σ25 σ26 σ27 σ28 σ29 σ30] [.ref (ad 0), .int (nI z), .int (nI what)] (xQi D (TY q) (fun (r : Int32) (_ : (Nat → Int32) × Int32 × Int32) => r = if what = 0 then kWA σ3 σ4 (tn (σ2 0)) (tn (σ5 0)) (kGoN σ4 (tn (σ2 0)) (tn (σ5 0)) σ9 σ10 σ11 (tn (σ8 0)) (nI z) (xreg σ19 0, σ24, nI 0) (60 - tn (xreg σ19 0 25))).1 else (kGoN σ4 (tn (σ2 0)) (tn (σ5 0)) σ9 σ10 σ11 (tn (σ8 0)) (nI z) (xreg σ19 0, σ24, nI 0) (60 - tn (xreg σ19 0 25))).2.2) (fun (u : (Nat → Int32) × Int32 × Int32) => [w9 q ad σ0 σ1 σ2 σ3 σ4 σ5 σ6 σ7 σ8 σ9 σ10 σ11 σ12 σ13 σ14 σ15 σ16 σ17 σ18 (xspl σ19 11 u.1) σ20 σ21 σ22 σ23 u.2.1 u.2.2 σ26 σ27 σ28 σ29 σ30])) 0 0 := by
  refine x_enter (cc := cX9_evening) (maxL := 3) (ret := (some .int)) (by decide) rfl (Nat.le_of_ble_eq_true rfl) ?_
  intro p e s m below meth c A ls H locs hfix hr hlocks hinit hM hl
  obtain ⟨hx, hb, hml, hown, hts⟩ := id hfix
  have hl : lv_has ls 3 [(0, .ref (ad 0)), (1, .int (nI z)), (2, .int (nI what))] := hl
  have hc2b := hc2.2
  have hc5b := hc5.2
  have hc8b := hc8.2
  have hT0 := hK0.1.2
  have hW0 := hK0.2.1.2
  refine lv_iload_n hx hb dX9_evening_0 rfl (lv_at hl 1 rfl) ?_
  refine x_i2l hx hb dX9_evening_1 ?_
  refine lv_lconst (v := 0) hx hb dX9_evening_2 (by decide) ?_
  refine lv_ldc2 (v := 9999) hx hb hown (hts (.constantLong RX9 285 (9999)) (by decide +kernel)) dX9_evening_3 ?_
  refine x_calli (bc := []) (br := [w9 q ad σ0 σ1 σ2 σ3 σ4 σ5 σ6 σ7 σ8 σ9 σ10 σ11 σ12 σ13 σ14 σ15 σ16 σ17 σ18 σ19 σ20 σ21 σ22 σ23 σ24 σ25 σ26 σ27 σ28 σ29 σ30]) hM [] [0] rfl rfl rfl (by decide) (x_runS (As := [.long ((nI z).toInt64), .long (0 : Int64), .long (9999 : Int64)]) (rest := []) hfix (c_X9_in l D q ((nI z).toInt64) (0 : Int64) (9999 : Int64) ((z : Nat) : Int) (0 : Int) (9999 : Int) ((Jvm.Kit.i64_of_i32 _).trans (nI_toInt (n := z) (by omega))) (by decide) (by decide)) (va_cwS 3 hts gX9_evening_X9_in rfl rfl rfl (by decide +kernel) ⟨Nat.le_of_ble_eq_true rfl, Nat.le_of_ble_eq_true rfl⟩) hM [] rfl rfl rfl hl.1 rfl (Nat.le_of_ble_eq_true rfl) dX9_evening_6 ⟨Nat.le_of_ble_eq_true rfl, Nat.le_of_ble_eq_true rfl⟩) (fun r u H locs hq hM => ?_)
  subst hq
  have hM : xM D (TY q) [w9 q ad σ0 σ1 σ2 σ3 σ4 σ5 σ6 σ7 σ8 σ9 σ10 σ11 σ12 σ13 σ14 σ15 σ16 σ17 σ18 σ19 σ20 σ21 σ22 σ23 σ24 σ25 σ26 σ27 σ28 σ29 σ30] A s.heap s H locs := hM
  refine x_ifz_eq (P := (0 : Int) ≤ ((z : Nat) : Int) ∧ ((z : Nat) : Int) ≤ (9999 : Int)) (tgt := 22) hx hb dX9_evening_9 (by decide) (fun c1 => ?_) (fun c1 => ?_)
  · exfalso; omega
  · refine lv_iload_n hx hb dX9_evening_12 rfl (lv_at hl 2 rfl) ?_
    refine x_i2l hx hb dX9_evening_13 ?_
    refine lv_lconst (v := 0) hx hb dX9_evening_14 (by decide) ?_
    refine lv_lconst (v := 1) hx hb dX9_evening_15 (by decide) ?_
    refine x_calli (bc := []) (br := [w9 q ad σ0 σ1 σ2 σ3 σ4 σ5 σ6 σ7 σ8 σ9 σ10 σ11 σ12 σ13 σ14 σ15 σ16 σ17 σ18 σ19 σ20 σ21 σ22 σ23 σ24 σ25 σ26 σ27 σ28 σ29 σ30]) hM [] [0] rfl rfl rfl (by decide) (x_runS (As := [.long ((nI what).toInt64), .long (0 : Int64), .long (1 : Int64)]) (rest := []) hfix (c_X9_in l D q ((nI what).toInt64) (0 : Int64) (1 : Int64) ((what : Nat) : Int) (0 : Int) (1 : Int) ((Jvm.Kit.i64_of_i32 _).trans (nI_toInt (n := what) (by omega))) (by decide) (by decide)) (va_cwS 3 hts gX9_evening_X9_in rfl rfl rfl (by decide +kernel) ⟨Nat.le_of_ble_eq_true rfl, Nat.le_of_ble_eq_true rfl⟩) hM [] rfl rfl rfl hl.1 rfl (Nat.le_of_ble_eq_true rfl) dX9_evening_16 ⟨Nat.le_of_ble_eq_true rfl, Nat.le_of_ble_eq_true rfl⟩) (fun r u H locs hq hM => ?_)
    subst hq
    have hM : xM D (TY q) [w9 q ad σ0 σ1 σ2 σ3 σ4 σ5 σ6 σ7 σ8 σ9 σ10 σ11 σ12 σ13 σ14 σ15 σ16 σ17 σ18 σ19 σ20 σ21 σ22 σ23 σ24 σ25 σ26 σ27 σ28 σ29 σ30] A s.heap s H locs := hM
    refine x_ifz_ne (P := (0 : Int) ≤ ((what : Nat) : Int) ∧ ((what : Nat) : Int) ≤ (1 : Int)) (tgt := 24) hx hb dX9_evening_19 (by decide) (fun c2 => ?_) (fun c2 => ?_)
    · refine lv_aload_n hx hb dX9_evening_24 rfl (lv_at hl 0 rfl) ?_
      refine lv_iconst (v := nI 0) hx hb dX9_evening_25 (by decide) ?_
      refine lv_bipush (v := nI 11) hx hb dX9_evening_26 (by decide) ?_
      refine x_callv (bc := [w9 q ad σ0 σ1 σ2 σ3 σ4 σ5 σ6 σ7 σ8 σ9 σ10 σ11 σ12 σ13 σ14 σ15 σ16 σ17 σ18 σ19 σ20 σ21 σ22 σ23 σ24 σ25 σ26 σ27 σ28 σ29 σ30]) (br := []) hM [0] [] rfl rfl rfl (by decide) (x_runV (As := [.int (nI 0), .int (nI 11)]) (rest := []) hfix (c_X9_copy l D q ad σ0 σ1 σ2 σ3 σ4 σ5 σ6 σ7 σ8 σ9 σ10 σ11 σ12 σ13 σ14 σ15 σ16 σ17 σ18 σ19 σ20 σ21 σ22 σ23 σ24 σ25 σ26 σ27 σ28 σ29 σ30 0 11 (by omega) (by omega) (by omega)) (cwV 2 hts gX9_evening_X9_copy rfl rfl rfl (by decide +kernel) ⟨Nat.le_of_ble_eq_true rfl, Nat.le_of_ble_eq_true rfl⟩) hM [0] rfl rfl 0 0 rfl rfl rfl rfl rfl hl.1 rfl (Nat.le_of_ble_eq_true rfl) dX9_evening_28 ⟨Nat.le_of_ble_eq_true rfl, Nat.le_of_ble_eq_true rfl⟩) (fun u H locs hq hM => ?_)
      have hM : xM D (TY q) [w9 q ad σ0 σ1 σ2 σ3 σ4 σ5 σ6 σ7 σ8 σ9 σ10 σ11 σ12 σ13 σ14 σ15 σ16 σ17 σ18 (xspl σ19 11 (xreg σ19 0)) σ20 σ21 σ22 σ23 σ24 σ25 σ26 σ27 σ28 σ29 σ30] A s.heap s H locs := hM
      refine lv_aload_n hx hb dX9_evening_31 rfl (lv_at hl 0 rfl) ?_
      refine lv_bipush (v := nI 11) hx hb dX9_evening_32 (by decide) ?_
      refine lv_iload_n hx hb dX9_evening_34 rfl (lv_at hl 1 rfl) ?_
      refine x_callv (bc := [w9 q ad σ0 σ1 σ2 σ3 σ4 σ5 σ6 σ7 σ8 σ9 σ10 σ11 σ12 σ13 σ14 σ15 σ16 σ17 σ18 (xspl σ19 11 (xreg σ19 0)) σ20 σ21 σ22 σ23 σ24 σ25 σ26 σ27 σ28 σ29 σ30]) (br := []) hM [0] [] rfl rfl rfl (by decide) (x_runV (As := [.int (nI 11), .int (nI z)]) (rest := []) hfix (c_X9_goToFiveK l D q ad σ0 σ1 σ2 σ3 σ4 σ5 σ6 σ7 σ8 σ9 σ10 σ11 σ12 σ13 σ14 σ15 σ16 σ17 σ18 (xspl σ19 11 (xreg σ19 0)) σ20 σ21 σ22 σ23 σ24 σ25 σ26 σ27 σ28 σ29 σ30 σ19 11 (xreg σ19 0) (nI z) (by omega) hc2 hc5 hc8 hE hK0) (cwV 2 hts gX9_evening_X9_goToFive rfl rfl rfl (by decide +kernel) ⟨Nat.le_of_ble_eq_true rfl, Nat.le_of_ble_eq_true rfl⟩) hM [0] rfl rfl 0 0 rfl rfl rfl rfl rfl hl.1 rfl (Nat.le_of_ble_eq_true rfl) dX9_evening_35 ⟨Nat.le_of_ble_eq_true rfl, Nat.le_of_ble_eq_true rfl⟩) (fun u H locs hq hM => ?_)
      have hM : xM D (TY q) [w9 q ad σ0 σ1 σ2 σ3 σ4 σ5 σ6 σ7 σ8 σ9 σ10 σ11 σ12 σ13 σ14 σ15 σ16 σ17 σ18 (xspl σ19 11 (kGoN σ4 (tn (σ2 0)) (tn (σ5 0)) σ9 σ10 σ11 (tn (σ8 0)) (nI z) ((xreg σ19 0), σ24, nI 0) (60 - tn ((xreg σ19 0) 25))).1) σ20 σ21 σ22 σ23 (kGoN σ4 (tn (σ2 0)) (tn (σ5 0)) σ9 σ10 σ11 (tn (σ8 0)) (nI z) ((xreg σ19 0), σ24, nI 0) (60 - tn ((xreg σ19 0) 25))).2.1 (kGoN σ4 (tn (σ2 0)) (tn (σ5 0)) σ9 σ10 σ11 (tn (σ8 0)) (nI z) ((xreg σ19 0), σ24, nI 0) (60 - tn ((xreg σ19 0) 25))).2.2 σ26 σ27 σ28 σ29 σ30] A s.heap s H locs := hM
      refine lv_iload_n hx hb dX9_evening_38 rfl (lv_at hl 2 rfl) ?_
      refine x_if_ne (x := what) (tgt := 51) hx hb (by omega) dX9_evening_39 (by decide) (fun c3 => ?_) (fun c3 => ?_)
      · refine lv_aload_n hx hb dX9_evening_51 rfl (lv_at hl 0 rfl) ?_
        refine x_get hx hb hts iwX9_evening_X9 hown hM 0 0 rfl rfl rfl 25 (by decide) (hts _ lkX9_evening_187) (fun _ h => h) rfl dX9_evening_52 ?_
        exact x_iret hx hb hr hlocks ((kGoN σ4 (tn (σ2 0)) (tn (σ5 0)) σ9 σ10 σ11 (tn (σ8 0)) (nI z) ((xreg σ19 0), σ24, nI 0) (60 - tn ((xreg σ19 0) 25))).1, (kGoN σ4 (tn (σ2 0)) (tn (σ5 0)) σ9 σ10 σ11 (tn (σ8 0)) (nI z) ((xreg σ19 0), σ24, nI 0) (60 - tn ((xreg σ19 0) 25))).2.1, (kGoN σ4 (tn (σ2 0)) (tn (σ5 0)) σ9 σ10 σ11 (tn (σ8 0)) (nI z) ((xreg σ19 0), σ24, nI 0) (60 - tn ((xreg σ19 0) 25))).2.2) hM (show (kGoN σ4 (tn (σ2 0)) (tn (σ5 0)) σ9 σ10 σ11 (tn (σ8 0)) (nI z) ((xreg σ19 0), σ24, nI 0) (60 - tn ((xreg σ19 0) 25))).2.2 = if what = 0 then kWA σ3 σ4 (tn (σ2 0)) (tn (σ5 0)) (kGoN σ4 (tn (σ2 0)) (tn (σ5 0)) σ9 σ10 σ11 (tn (σ8 0)) (nI z) (xreg σ19 0, σ24, nI 0) (60 - tn (xreg σ19 0 25))).1 else (kGoN σ4 (tn (σ2 0)) (tn (σ5 0)) σ9 σ10 σ11 (tn (σ8 0)) (nI z) (xreg σ19 0, σ24, nI 0) (60 - tn (xreg σ19 0 25))).2.2 from by (first | rw [if_pos (c := what = 0) (by omega)] | rw [if_neg (c := what = 0) (by omega)])) dX9_evening_55
      · refine lv_aload_n hx hb dX9_evening_42 rfl (lv_at hl 0 rfl) ?_
        refine lv_bipush (v := nI 11) hx hb dX9_evening_43 (by decide) ?_
        refine x_calli (bc := [w9 q ad σ0 σ1 σ2 σ3 σ4 σ5 σ6 σ7 σ8 σ9 σ10 σ11 σ12 σ13 σ14 σ15 σ16 σ17 σ18 (xspl σ19 11 (kGoN σ4 (tn (σ2 0)) (tn (σ5 0)) σ9 σ10 σ11 (tn (σ8 0)) (nI z) ((xreg σ19 0), σ24, nI 0) (60 - tn ((xreg σ19 0) 25))).1) σ20 σ21 σ22 σ23 (kGoN σ4 (tn (σ2 0)) (tn (σ5 0)) σ9 σ10 σ11 (tn (σ8 0)) (nI z) ((xreg σ19 0), σ24, nI 0) (60 - tn ((xreg σ19 0) 25))).2.1 (kGoN σ4 (tn (σ2 0)) (tn (σ5 0)) σ9 σ10 σ11 (tn (σ8 0)) (nI z) ((xreg σ19 0), σ24, nI 0) (60 - tn ((xreg σ19 0) 25))).2.2 σ26 σ27 σ28 σ29 σ30]) (br := []) hM [0] [] rfl rfl rfl (by decide) (x_runV (As := [.int (nI 11)]) (rest := []) hfix (c_X9_worthOfAllK l D q ad σ0 σ1 σ2 σ3 σ4 σ5 σ6 σ7 σ8 σ9 σ10 σ11 σ12 σ13 σ14 σ15 σ16 σ17 σ18 (xspl σ19 11 (kGoN σ4 (tn (σ2 0)) (tn (σ5 0)) σ9 σ10 σ11 (tn (σ8 0)) (nI z) ((xreg σ19 0), σ24, nI 0) (60 - tn ((xreg σ19 0) 25))).1) σ20 σ21 σ22 σ23 (kGoN σ4 (tn (σ2 0)) (tn (σ5 0)) σ9 σ10 σ11 (tn (σ8 0)) (nI z) ((xreg σ19 0), σ24, nI 0) (60 - tn ((xreg σ19 0) 25))).2.1 (kGoN σ4 (tn (σ2 0)) (tn (σ5 0)) σ9 σ10 σ11 (tn (σ8 0)) (nI z) ((xreg σ19 0), σ24, nI 0) (60 - tn ((xreg σ19 0) 25))).2.2 σ26 σ27 σ28 σ29 σ30 σ19 11 (kGoN σ4 (tn (σ2 0)) (tn (σ5 0)) σ9 σ10 σ11 (tn (σ8 0)) (nI z) ((xreg σ19 0), σ24, nI 0) (60 - tn ((xreg σ19 0) 25))).1 (by omega) hc2 hc5) (cwV 1 hts gX9_evening_X9_worthOfAll rfl rfl rfl (by decide +kernel) ⟨Nat.le_of_ble_eq_true rfl, Nat.le_of_ble_eq_true rfl⟩) hM [0] rfl rfl 0 0 rfl rfl rfl rfl rfl hl.1 rfl (Nat.le_of_ble_eq_true rfl) dX9_evening_45 ⟨Nat.le_of_ble_eq_true rfl, Nat.le_of_ble_eq_true rfl⟩) (fun r u H locs hq hM => ?_)
        subst hq
        have hM : xM D (TY q) [w9 q ad σ0 σ1 σ2 σ3 σ4 σ5 σ6 σ7 σ8 σ9 σ10 σ11 σ12 σ13 σ14 σ15 σ16 σ17 σ18 (xspl σ19 11 (kGoN σ4 (tn (σ2 0)) (tn (σ5 0)) σ9 σ10 σ11 (tn (σ8 0)) (nI z) ((xreg σ19 0), σ24, nI 0) (60 - tn ((xreg σ19 0) 25))).1) σ20 σ21 σ22 σ23 (kGoN σ4 (tn (σ2 0)) (tn (σ5 0)) σ9 σ10 σ11 (tn (σ8 0)) (nI z) ((xreg σ19 0), σ24, nI 0) (60 - tn ((xreg σ19 0) 25))).2.1 (kGoN σ4 (tn (σ2 0)) (tn (σ5 0)) σ9 σ10 σ11 (tn (σ8 0)) (nI z) ((xreg σ19 0), σ24, nI 0) (60 - tn ((xreg σ19 0) 25))).2.2 σ26 σ27 σ28 σ29 σ30] A s.heap s H locs := hM
        refine lv_goto (tgt := 55) hx hb dX9_evening_48 (by decide) ?_
        exact x_iret hx hb hr hlocks ((kGoN σ4 (tn (σ2 0)) (tn (σ5 0)) σ9 σ10 σ11 (tn (σ8 0)) (nI z) ((xreg σ19 0), σ24, nI 0) (60 - tn ((xreg σ19 0) 25))).1, (kGoN σ4 (tn (σ2 0)) (tn (σ5 0)) σ9 σ10 σ11 (tn (σ8 0)) (nI z) ((xreg σ19 0), σ24, nI 0) (60 - tn ((xreg σ19 0) 25))).2.1, (kGoN σ4 (tn (σ2 0)) (tn (σ5 0)) σ9 σ10 σ11 (tn (σ8 0)) (nI z) ((xreg σ19 0), σ24, nI 0) (60 - tn ((xreg σ19 0) 25))).2.2) hM (show kWA σ3 σ4 (tn (σ2 0)) (tn (σ5 0)) (kGoN σ4 (tn (σ2 0)) (tn (σ5 0)) σ9 σ10 σ11 (tn (σ8 0)) (nI z) ((xreg σ19 0), σ24, nI 0) (60 - tn ((xreg σ19 0) 25))).1 = if what = 0 then kWA σ3 σ4 (tn (σ2 0)) (tn (σ5 0)) (kGoN σ4 (tn (σ2 0)) (tn (σ5 0)) σ9 σ10 σ11 (tn (σ8 0)) (nI z) (xreg σ19 0, σ24, nI 0) (60 - tn (xreg σ19 0 25))).1 else (kGoN σ4 (tn (σ2 0)) (tn (σ5 0)) σ9 σ10 σ11 (tn (σ8 0)) (nI z) (xreg σ19 0, σ24, nI 0) (60 - tn (xreg σ19 0 25))).2.2 from by (first | rw [if_pos (c := what = 0) (by omega)] | rw [if_neg (c := what = 0) (by omega)])) dX9_evening_55
    · exfalso; omega

set_option maxHeartbeats 4000000 in
set_option maxRecDepth 100000 in
theorem c_X9_eveningB (l : Launch) (D : va_G) (q : Nat → ClassId) (ad : Nat → Nat) (σ0 : Int32) (σ1 : Nat → Int32) (σ2 : Nat → Int32) (σ3 : Nat → Int32) (σ4 : Nat → Int32) (σ5 : Nat → Int32) (σ6 : Nat → Int32) (σ7 : Nat → Int32) (σ8 : Nat → Int32) (σ9 : Nat → Int32) (σ10 : Nat → Int32) (σ11 : Nat → Int32) (σ12 : Nat → Int32) (σ13 : Nat → Int32) (σ14 : Nat → Int32) (σ15 : Nat → Int32) (σ16 : Nat → Int32) (σ17 : Nat → Int32) (σ18 : Nat → Int32) (σ19 : Nat → Int32) (σ20 : Int32) (σ21 : Int32) (σ22 : Int32) (σ23 : Nat → Int32) (σ24 : Int32) (σ25 : Int32) (σ26 : Nat → Int32) (σ27 : Nat → Int32) (σ28 : Nat → Int32) (σ29 : Nat → Int32) (σ30 : Nat → Int32) (z : Int32) (zz : Int) (what : Int32) (whatz : Int) (h_zz : z.toInt = zz) (h_whatz : what.toInt = whatz) (hbad : ¬ (0 ≤ zz ∧ zz ≤ 9999) ∨ ¬ (0 ≤ whatz ∧ whatz ≤ 1)) : xC l yX9_evening wsX9_evening ({ frames := 4, cells := 0, slots := 0, locals := 96 }) D (TY q) [w9 q ad σ0 σ1 σ2 σ3 σ4 σ5 σ6 σ7 σ8 σ9 σ10 σ11 σ12 σ13 σ14 σ15 σ16 σ17 σ18 σ19 σ20 σ21 σ22 σ23 σ24 σ25 σ26 σ27 σ28 σ29 σ30] [.ref (ad 0), .int z, .int what] (xQi D (TY q) (fun (r : Int32) (_ : Unit) => r = (-1)) (fun _ => [w9 q ad σ0 σ1 σ2 σ3 σ4 σ5 σ6 σ7 σ8 σ9 σ10 σ11 σ12 σ13 σ14 σ15 σ16 σ17 σ18 σ19 σ20 σ21 σ22 σ23 σ24 σ25 σ26 σ27 σ28 σ29 σ30])) 0 0 := by
  refine x_enter (cc := cX9_evening) (maxL := 3) (ret := (some .int)) (by decide) rfl (Nat.le_of_ble_eq_true rfl) ?_
  intro p e s m below meth c A ls H locs hfix hr hlocks hinit hM hl
  obtain ⟨hx, hb, hml, hown, hts⟩ := id hfix
  have hl : lv_has ls 3 [(0, .ref (ad 0)), (1, .int z), (2, .int what)] := hl
  refine lv_iload_n hx hb dX9_evening_0 rfl (lv_at hl 1 rfl) ?_
  refine x_i2l hx hb dX9_evening_1 ?_
  refine lv_lconst (v := 0) hx hb dX9_evening_2 (by decide) ?_
  refine lv_ldc2 (v := 9999) hx hb hown (hts (.constantLong RX9 285 (9999)) (by decide +kernel)) dX9_evening_3 ?_
  refine x_calli (bc := []) (br := [w9 q ad σ0 σ1 σ2 σ3 σ4 σ5 σ6 σ7 σ8 σ9 σ10 σ11 σ12 σ13 σ14 σ15 σ16 σ17 σ18 σ19 σ20 σ21 σ22 σ23 σ24 σ25 σ26 σ27 σ28 σ29 σ30]) hM [] [0] rfl rfl rfl (by decide) (x_runS (As := [.long z.toInt64, .long (0 : Int64), .long (9999 : Int64)]) (rest := []) hfix (c_X9_in l D q z.toInt64 (0 : Int64) (9999 : Int64) zz (0 : Int) (9999 : Int) ((Jvm.Kit.i64_of_i32 _).trans h_zz) (by decide) (by decide)) (va_cwS 3 hts gX9_evening_X9_in rfl rfl rfl (by decide +kernel) ⟨Nat.le_of_ble_eq_true rfl, Nat.le_of_ble_eq_true rfl⟩) hM [] rfl rfl rfl hl.1 rfl (Nat.le_of_ble_eq_true rfl) dX9_evening_6 ⟨Nat.le_of_ble_eq_true rfl, Nat.le_of_ble_eq_true rfl⟩) (fun r u H locs hq hM => ?_)
  subst hq
  have hM : xM D (TY q) [w9 q ad σ0 σ1 σ2 σ3 σ4 σ5 σ6 σ7 σ8 σ9 σ10 σ11 σ12 σ13 σ14 σ15 σ16 σ17 σ18 σ19 σ20 σ21 σ22 σ23 σ24 σ25 σ26 σ27 σ28 σ29 σ30] A s.heap s H locs := hM
  refine x_ifz_eq (P := (0 : Int) ≤ zz ∧ zz ≤ (9999 : Int)) (tgt := 22) hx hb dX9_evening_9 (by decide) (fun c1 => ?_) (fun c1 => ?_)
  · refine lv_iconst (v := (-1)) hx hb dX9_evening_22 (by decide) ?_
    exact x_iret hx hb hr hlocks () hM (show (-1) = (-1) from rfl) dX9_evening_23
  · refine lv_iload_n hx hb dX9_evening_12 rfl (lv_at hl 2 rfl) ?_
    refine x_i2l hx hb dX9_evening_13 ?_
    refine lv_lconst (v := 0) hx hb dX9_evening_14 (by decide) ?_
    refine lv_lconst (v := 1) hx hb dX9_evening_15 (by decide) ?_
    refine x_calli (bc := []) (br := [w9 q ad σ0 σ1 σ2 σ3 σ4 σ5 σ6 σ7 σ8 σ9 σ10 σ11 σ12 σ13 σ14 σ15 σ16 σ17 σ18 σ19 σ20 σ21 σ22 σ23 σ24 σ25 σ26 σ27 σ28 σ29 σ30]) hM [] [0] rfl rfl rfl (by decide) (x_runS (As := [.long what.toInt64, .long (0 : Int64), .long (1 : Int64)]) (rest := []) hfix (c_X9_in l D q what.toInt64 (0 : Int64) (1 : Int64) whatz (0 : Int) (1 : Int) ((Jvm.Kit.i64_of_i32 _).trans h_whatz) (by decide) (by decide)) (va_cwS 3 hts gX9_evening_X9_in rfl rfl rfl (by decide +kernel) ⟨Nat.le_of_ble_eq_true rfl, Nat.le_of_ble_eq_true rfl⟩) hM [] rfl rfl rfl hl.1 rfl (Nat.le_of_ble_eq_true rfl) dX9_evening_16 ⟨Nat.le_of_ble_eq_true rfl, Nat.le_of_ble_eq_true rfl⟩) (fun r u H locs hq hM => ?_)
    subst hq
    have hM : xM D (TY q) [w9 q ad σ0 σ1 σ2 σ3 σ4 σ5 σ6 σ7 σ8 σ9 σ10 σ11 σ12 σ13 σ14 σ15 σ16 σ17 σ18 σ19 σ20 σ21 σ22 σ23 σ24 σ25 σ26 σ27 σ28 σ29 σ30] A s.heap s H locs := hM
    refine x_ifz_ne (P := (0 : Int) ≤ whatz ∧ whatz ≤ (1 : Int)) (tgt := 24) hx hb dX9_evening_19 (by decide) (fun c2 => ?_) (fun c2 => ?_)
    · exfalso; omega
    · refine lv_iconst (v := (-1)) hx hb dX9_evening_22 (by decide) ?_
      exact x_iret hx hb hr hlocks () hM (show (-1) = (-1) from rfl) dX9_evening_23

set_option maxRecDepth 20000 in
theorem ggX9_write_X9_in : GoodIn wsX9_write wsX9_in := goodIn_r _ [8] (by decide +kernel) (by decide +kernel)
set_option maxRecDepth 20000 in
theorem gX9_write_X9_in : GoodIn wsX9_write (va_wsS RX9 104 yX9_in wsX9_in) := goodIn_app (goodIn_of _ (by decide +kernel)) ggX9_write_X9_in
theorem dX9_write_0 : decode cX9_write 0 = .ok (.iload_n 1, 1) := by decide +kernel
theorem dX9_write_1 : decode cX9_write 1 = .ok (.i2l, 1) := by decide +kernel
theorem dX9_write_2 : decode cX9_write 2 = .ok (.ldc2_w 100, 3) := by decide +kernel
theorem dX9_write_5 : decode cX9_write 5 = .ok (.ldc2_w 102, 3) := by decide +kernel
theorem dX9_write_8 : decode cX9_write 8 = .ok (.invokestatic 104, 3) := by decide +kernel
theorem dX9_write_11 : decode cX9_write 11 = .ok (.ifCond .ne 5, 3) := by decide +kernel
theorem dX9_write_14 : decode cX9_write 14 = .ok (.iconst (-1), 1) := by decide +kernel
theorem dX9_write_15 : decode cX9_write 15 = .ok (.ireturn, 1) := by decide +kernel
theorem dX9_write_16 : decode cX9_write 16 = .ok (.aload_n 0, 1) := by decide +kernel
theorem dX9_write_17 : decode cX9_write 17 = .ok (.getfield 108, 3) := by decide +kernel
theorem dX9_write_20 : decode cX9_write 20 = .ok (.sipush 200, 3) := by decide +kernel
theorem dX9_write_23 : decode cX9_write 23 = .ok (.if_icmp .ne 6, 3) := by decide +kernel
theorem dX9_write_26 : decode cX9_write 26 = .ok (.bipush (-3), 2) := by decide +kernel
theorem dX9_write_28 : decode cX9_write 28 = .ok (.ireturn, 1) := by decide +kernel
theorem dX9_write_29 : decode cX9_write 29 = .ok (.aload_n 0, 1) := by decide +kernel
theorem dX9_write_30 : decode cX9_write 30 = .ok (.getfield 7, 3) := by decide +kernel
theorem dX9_write_33 : decode cX9_write 33 = .ok (.aload_n 0, 1) := by decide +kernel
theorem dX9_write_34 : decode cX9_write 34 = .ok (.getfield 108, 3) := by decide +kernel
theorem dX9_write_37 : decode cX9_write 37 = .ok (.iload_n 1, 1) := by decide +kernel
theorem dX9_write_38 : decode cX9_write 38 = .ok (.iastore, 1) := by decide +kernel
theorem dX9_write_39 : decode cX9_write 39 = .ok (.aload_n 0, 1) := by decide +kernel
theorem dX9_write_40 : decode cX9_write 40 = .ok (.dup, 1) := by decide +kernel
theorem dX9_write_41 : decode cX9_write 41 = .ok (.getfield 108, 3) := by decide +kernel
theorem dX9_write_44 : decode cX9_write 44 = .ok (.iconst 1, 1) := by decide +kernel
theorem dX9_write_45 : decode cX9_write 45 = .ok (.iadd, 1) := by decide +kernel
theorem dX9_write_46 : decode cX9_write 46 = .ok (.putfield 108, 3) := by decide +kernel
theorem dX9_write_49 : decode cX9_write 49 = .ok (.aload_n 0, 1) := by decide +kernel
theorem dX9_write_50 : decode cX9_write 50 = .ok (.getfield 108, 3) := by decide +kernel
theorem dX9_write_53 : decode cX9_write 53 = .ok (.ireturn, 1) := by decide +kernel
theorem lkX9_write_7 : Cond.fieldLink RX9 7 "LeftAtFiveModel" "text" "[I" ∈ wsX9_write := by decide +kernel
theorem lkX9_write_108 : Cond.fieldLink RX9 108 "LeftAtFiveModel" "length" "I" ∈ wsX9_write := by decide +kernel
theorem iwX9_write_X9 : ∀ w ∈ wsX90, w ∈ wsX9_write := by decide +kernel
set_option maxHeartbeats 4000000 in
set_option maxRecDepth 100000 in
theorem c_X9_write (l : Launch) (D : va_G) (q : Nat → ClassId) (ad : Nat → Nat) (σ0 : Int32) (σ1 : Nat → Int32) (σ2 : Nat → Int32) (σ3 : Nat → Int32) (σ4 : Nat → Int32) (σ5 : Nat → Int32) (σ6 : Nat → Int32) (σ7 : Nat → Int32) (σ8 : Nat → Int32) (σ9 : Nat → Int32) (σ10 : Nat → Int32) (σ11 : Nat → Int32) (σ12 : Nat → Int32) (σ13 : Nat → Int32) (σ14 : Nat → Int32) (σ15 : Nat → Int32) (σ16 : Nat → Int32) (σ17 : Nat → Int32) (σ18 : Nat → Int32) (σ19 : Nat → Int32) (σ20 : Int32) (σ21 : Int32) (σ22 : Int32) (σ23 : Nat → Int32) (σ24 : Int32) (σ25 : Int32) (σ26 : Nat → Int32) (σ27 : Nat → Int32) (σ28 : Nat → Int32) (σ29 : Nat → Int32) (σ30 : Nat → Int32) (x : Nat) (hx9 : 32 ≤ x ∧ x ≤ 126) (hL : σ0 = nI (tn σ0) ∧ tn σ0 ≤ 200) (hL1 : ¬ tn σ0 = 200) : xC l yX9_write wsX9_write ({ frames := 1, cells := 0, slots := 0, locals := 25 }) D (TY q) [w9 q ad σ0 σ1 σ2 σ3 σ4 σ5 σ6 σ7 σ8 σ9 σ10 σ11 σ12 σ13 σ14 σ15 σ16 σ17 σ18 σ19 σ20 σ21 σ22 σ23 σ24 σ25 σ26 σ27 σ28 σ29 σ30] [.ref (ad 0), .int (nI x)] (xQi D (TY q) (fun (r : Int32) (_ : Unit) => r = nI (tn σ0 + 1)) (fun _ => [w9 q ad (nI (tn σ0 + 1)) (upd σ1 (tn σ0) (nI x)) σ2 σ3 σ4 σ5 σ6 σ7 σ8 σ9 σ10 σ11 σ12 σ13 σ14 σ15 σ16 σ17 σ18 σ19 σ20 σ21 σ22 σ23 σ24 σ25 σ26 σ27 σ28 σ29 σ30])) 0 0 := by
  refine x_enter (cc := cX9_write) (maxL := 2) (ret := (some .int)) (by decide) rfl (Nat.le_of_ble_eq_true rfl) ?_
  intro p e s m below meth c A ls H locs hfix hr hlocks hinit hM hl
  obtain ⟨hx, hb, hml, hown, hts⟩ := id hfix
  have hl : lv_has ls 2 [(0, .ref (ad 0)), (1, .int (nI x))] := hl
  have hL2 := hL.2
  refine lv_iload_n hx hb dX9_write_0 rfl (lv_at hl 1 rfl) ?_
  refine x_i2l hx hb dX9_write_1 ?_
  refine lv_ldc2 (v := 32) hx hb hown (hts (.constantLong RX9 100 (32)) (by decide +kernel)) dX9_write_2 ?_
  refine lv_ldc2 (v := 126) hx hb hown (hts (.constantLong RX9 102 (126)) (by decide +kernel)) dX9_write_5 ?_
  refine x_calli (bc := []) (br := [w9 q ad σ0 σ1 σ2 σ3 σ4 σ5 σ6 σ7 σ8 σ9 σ10 σ11 σ12 σ13 σ14 σ15 σ16 σ17 σ18 σ19 σ20 σ21 σ22 σ23 σ24 σ25 σ26 σ27 σ28 σ29 σ30]) hM [] [0] rfl rfl rfl (by decide) (x_runS (As := [.long ((nI x).toInt64), .long (32 : Int64), .long (126 : Int64)]) (rest := []) hfix (c_X9_in l D q ((nI x).toInt64) (32 : Int64) (126 : Int64) ((x : Nat) : Int) (32 : Int) (126 : Int) ((Jvm.Kit.i64_of_i32 _).trans (nI_toInt (n := x) (by omega))) (by decide) (by decide)) (va_cwS 3 hts gX9_write_X9_in rfl rfl rfl (by decide +kernel) ⟨Nat.le_of_ble_eq_true rfl, Nat.le_of_ble_eq_true rfl⟩) hM [] rfl rfl rfl hl.1 rfl (Nat.le_of_ble_eq_true rfl) dX9_write_8 ⟨Nat.le_of_ble_eq_true rfl, Nat.le_of_ble_eq_true rfl⟩) (fun r u H locs hq hM => ?_)
  subst hq
  have hM : xM D (TY q) [w9 q ad σ0 σ1 σ2 σ3 σ4 σ5 σ6 σ7 σ8 σ9 σ10 σ11 σ12 σ13 σ14 σ15 σ16 σ17 σ18 σ19 σ20 σ21 σ22 σ23 σ24 σ25 σ26 σ27 σ28 σ29 σ30] A s.heap s H locs := hM
  refine x_ifz_ne (P := (32 : Int) ≤ ((x : Nat) : Int) ∧ ((x : Nat) : Int) ≤ (126 : Int)) (tgt := 16) hx hb dX9_write_11 (by decide) (fun c1 => ?_) (fun c1 => ?_)
  · refine lv_aload_n hx hb dX9_write_16 rfl (lv_at hl 0 rfl) ?_
    refine x_get hx hb hts iwX9_write_X9 hown hM 0 0 rfl rfl rfl 0 (by decide) (hts _ lkX9_write_108) (fun _ h => h) rfl dX9_write_17 ?_
    refine x_cast (y := nI (tn σ0)) hL.1 ?_
    refine lv_sipush (v := nI 200) hx hb dX9_write_20 (by decide) ?_
    refine x_icmp_ne (x := tn σ0) (y := 200) (tgt := 29) hx hb (by omega) (by omega) dX9_write_23 (by decide) (fun c2 => ?_) (fun c2 => ?_)
    · refine lv_aload_n hx hb dX9_write_29 rfl (lv_at hl 0 rfl) ?_
      refine x_get hx hb hts iwX9_write_X9 hown hM 0 0 rfl rfl rfl 1 (by decide) (hts _ lkX9_write_7) (fun _ h => h) rfl dX9_write_30 ?_
      refine lv_aload_n hx hb dX9_write_33 rfl (lv_at hl 0 rfl) ?_
      refine x_get hx hb hts iwX9_write_X9 hown hM 0 0 rfl rfl rfl 0 (by decide) (hts _ lkX9_write_108) (fun _ h => h) rfl dX9_write_34 ?_
      refine x_cast (y := nI (tn σ0)) hL.1 ?_
      refine lv_iload_n hx hb dX9_write_37 rfl (lv_at hl 1 rfl) ?_
      refine x_iast hx hb hM 0 1 0 (f := σ1) rfl rfl rfl (t := tn σ0) (x := nI x) (by omega) (by decide) [w9 q ad σ0 (upd σ1 (tn σ0) (nI x)) σ2 σ3 σ4 σ5 σ6 σ7 σ8 σ9 σ10 σ11 σ12 σ13 σ14 σ15 σ16 σ17 σ18 σ19 σ20 σ21 σ22 σ23 σ24 σ25 σ26 σ27 σ28 σ29 σ30] rfl dX9_write_38 (fun H locs hM => ?_)
      refine lv_aload_n hx hb dX9_write_39 rfl (lv_at hl 0 rfl) ?_
      refine lv_dup hx hb dX9_write_40 rfl ?_
      refine x_get hx hb hts iwX9_write_X9 hown hM 0 0 rfl rfl rfl 0 (by decide) (hts _ lkX9_write_108) (fun _ h => h) rfl dX9_write_41 ?_
      refine x_cast (y := nI (tn σ0)) hL.1 ?_
      refine lv_iconst (v := nI 1) hx hb dX9_write_44 (by decide) ?_
      refine x_iadd (x := tn σ0) (y := 1) hx hb dX9_write_45 ?_
      refine x_put hx hb hts iwX9_write_X9 tyX9 tyX9_ok nmX9 hown hM 0 0 rfl rfl rfl 0 (by decide) (hts _ lkX9_write_108) (fun _ h => h) rfl (ty := .int) (by decide +kernel) rfl rfl (Nat.le_of_ble_eq_true rfl) [w9 q ad (nI (tn σ0 + 1)) (upd σ1 (tn σ0) (nI x)) σ2 σ3 σ4 σ5 σ6 σ7 σ8 σ9 σ10 σ11 σ12 σ13 σ14 σ15 σ16 σ17 σ18 σ19 σ20 σ21 σ22 σ23 σ24 σ25 σ26 σ27 σ28 σ29 σ30] rfl dX9_write_46 (fun H locs hM => ?_)
      refine lv_aload_n hx hb dX9_write_49 rfl (lv_at hl 0 rfl) ?_
      refine x_get hx hb hts iwX9_write_X9 hown hM 0 0 rfl rfl rfl 0 (by decide) (hts _ lkX9_write_108) (fun _ h => h) rfl dX9_write_50 ?_
      exact x_iret hx hb hr hlocks () hM (show nI (tn σ0 + 1) = nI (tn σ0 + 1) from rfl) dX9_write_53
    · exfalso; omega
  · exfalso; omega

set_option maxHeartbeats 4000000 in
set_option maxRecDepth 100000 in
theorem c_X9_writeN (l : Launch) (D : va_G) (q : Nat → ClassId) (ad : Nat → Nat) (σ0 : Int32) (σ1 : Nat → Int32) (σ2 : Nat → Int32) (σ3 : Nat → Int32) (σ4 : Nat → Int32) (σ5 : Nat → Int32) (σ6 : Nat → Int32) (σ7 : Nat → Int32) (σ8 : Nat → Int32) (σ9 : Nat → Int32) (σ10 : Nat → Int32) (σ11 : Nat → Int32) (σ12 : Nat → Int32) (σ13 : Nat → Int32) (σ14 : Nat → Int32) (σ15 : Nat → Int32) (σ16 : Nat → Int32) (σ17 : Nat → Int32) (σ18 : Nat → Int32) (σ19 : Nat → Int32) (σ20 : Int32) (σ21 : Int32) (σ22 : Int32) (σ23 : Nat → Int32) (σ24 : Int32) (σ25 : Int32) (σ26 : Nat → Int32) (σ27 : Nat → Int32) (σ28 : Nat → Int32) (σ29 : Nat → Int32) (σ30 : Nat → Int32) (x : Nat) (hx9 : 32 ≤ x ∧ x ≤ 126) (hL : σ0 = nI (tn σ0) ∧ tn σ0 ≤ 200) (hL1 : tn σ0 = 200) : xC l yX9_write wsX9_write ({ frames := 1, cells := 0, slots := 0, locals := 25 }) D (TY q) [w9 q ad σ0 σ1 σ2 σ3 σ4 σ5 σ6 σ7 σ8 σ9 σ10 σ11 σ12 σ13 σ14 σ15 σ16 σ17 σ18 σ19 σ20 σ21 σ22 σ23 σ24 σ25 σ26 σ27 σ28 σ29 σ30] [.ref (ad 0), .int (nI x)] (xQi D (TY q) (fun (r : Int32) (_ : Unit) => r = (-3)) (fun _ => [w9 q ad σ0 σ1 σ2 σ3 σ4 σ5 σ6 σ7 σ8 σ9 σ10 σ11 σ12 σ13 σ14 σ15 σ16 σ17 σ18 σ19 σ20 σ21 σ22 σ23 σ24 σ25 σ26 σ27 σ28 σ29 σ30])) 0 0 := by
  refine x_enter (cc := cX9_write) (maxL := 2) (ret := (some .int)) (by decide) rfl (Nat.le_of_ble_eq_true rfl) ?_
  intro p e s m below meth c A ls H locs hfix hr hlocks hinit hM hl
  obtain ⟨hx, hb, hml, hown, hts⟩ := id hfix
  have hl : lv_has ls 2 [(0, .ref (ad 0)), (1, .int (nI x))] := hl
  have hL2 := hL.2
  refine lv_iload_n hx hb dX9_write_0 rfl (lv_at hl 1 rfl) ?_
  refine x_i2l hx hb dX9_write_1 ?_
  refine lv_ldc2 (v := 32) hx hb hown (hts (.constantLong RX9 100 (32)) (by decide +kernel)) dX9_write_2 ?_
  refine lv_ldc2 (v := 126) hx hb hown (hts (.constantLong RX9 102 (126)) (by decide +kernel)) dX9_write_5 ?_
  refine x_calli (bc := []) (br := [w9 q ad σ0 σ1 σ2 σ3 σ4 σ5 σ6 σ7 σ8 σ9 σ10 σ11 σ12 σ13 σ14 σ15 σ16 σ17 σ18 σ19 σ20 σ21 σ22 σ23 σ24 σ25 σ26 σ27 σ28 σ29 σ30]) hM [] [0] rfl rfl rfl (by decide) (x_runS (As := [.long ((nI x).toInt64), .long (32 : Int64), .long (126 : Int64)]) (rest := []) hfix (c_X9_in l D q ((nI x).toInt64) (32 : Int64) (126 : Int64) ((x : Nat) : Int) (32 : Int) (126 : Int) ((Jvm.Kit.i64_of_i32 _).trans (nI_toInt (n := x) (by omega))) (by decide) (by decide)) (va_cwS 3 hts gX9_write_X9_in rfl rfl rfl (by decide +kernel) ⟨Nat.le_of_ble_eq_true rfl, Nat.le_of_ble_eq_true rfl⟩) hM [] rfl rfl rfl hl.1 rfl (Nat.le_of_ble_eq_true rfl) dX9_write_8 ⟨Nat.le_of_ble_eq_true rfl, Nat.le_of_ble_eq_true rfl⟩) (fun r u H locs hq hM => ?_)
  subst hq
  have hM : xM D (TY q) [w9 q ad σ0 σ1 σ2 σ3 σ4 σ5 σ6 σ7 σ8 σ9 σ10 σ11 σ12 σ13 σ14 σ15 σ16 σ17 σ18 σ19 σ20 σ21 σ22 σ23 σ24 σ25 σ26 σ27 σ28 σ29 σ30] A s.heap s H locs := hM
  refine x_ifz_ne (P := (32 : Int) ≤ ((x : Nat) : Int) ∧ ((x : Nat) : Int) ≤ (126 : Int)) (tgt := 16) hx hb dX9_write_11 (by decide) (fun c1 => ?_) (fun c1 => ?_)
  · refine lv_aload_n hx hb dX9_write_16 rfl (lv_at hl 0 rfl) ?_
    refine x_get hx hb hts iwX9_write_X9 hown hM 0 0 rfl rfl rfl 0 (by decide) (hts _ lkX9_write_108) (fun _ h => h) rfl dX9_write_17 ?_
    refine x_cast (y := nI (tn σ0)) hL.1 ?_
    refine lv_sipush (v := nI 200) hx hb dX9_write_20 (by decide) ?_
    refine x_icmp_ne (x := tn σ0) (y := 200) (tgt := 29) hx hb (by omega) (by omega) dX9_write_23 (by decide) (fun c2 => ?_) (fun c2 => ?_)
    · exfalso; omega
    · refine lv_bipush (v := (-3)) hx hb dX9_write_26 (by decide) ?_
      exact x_iret hx hb hr hlocks () hM (show (-3) = (-3) from rfl) dX9_write_28
  · exfalso; omega

set_option maxHeartbeats 4000000 in
set_option maxRecDepth 100000 in
theorem c_X9_writeB (l : Launch) (D : va_G) (q : Nat → ClassId) (ad : Nat → Nat) (σ0 : Int32) (σ1 : Nat → Int32) (σ2 : Nat → Int32) (σ3 : Nat → Int32) (σ4 : Nat → Int32) (σ5 : Nat → Int32) (σ6 : Nat → Int32) (σ7 : Nat → Int32) (σ8 : Nat → Int32) (σ9 : Nat → Int32) (σ10 : Nat → Int32) (σ11 : Nat → Int32) (σ12 : Nat → Int32) (σ13 : Nat → Int32) (σ14 : Nat → Int32) (σ15 : Nat → Int32) (σ16 : Nat → Int32) (σ17 : Nat → Int32) (σ18 : Nat → Int32) (σ19 : Nat → Int32) (σ20 : Int32) (σ21 : Int32) (σ22 : Int32) (σ23 : Nat → Int32) (σ24 : Int32) (σ25 : Int32) (σ26 : Nat → Int32) (σ27 : Nat → Int32) (σ28 : Nat → Int32) (σ29 : Nat → Int32) (σ30 : Nat → Int32) (x : Int32) (xz : Int) (h_xz : x.toInt = xz) (hbad : ¬ (32 ≤ xz ∧ xz ≤ 126)) : xC l yX9_write wsX9_write ({ frames := 1, cells := 0, slots := 0, locals := 25 }) D (TY q) [w9 q ad σ0 σ1 σ2 σ3 σ4 σ5 σ6 σ7 σ8 σ9 σ10 σ11 σ12 σ13 σ14 σ15 σ16 σ17 σ18 σ19 σ20 σ21 σ22 σ23 σ24 σ25 σ26 σ27 σ28 σ29 σ30] [.ref (ad 0), .int x] (xQi D (TY q) (fun (r : Int32) (_ : Unit) => r = (-1)) (fun _ => [w9 q ad σ0 σ1 σ2 σ3 σ4 σ5 σ6 σ7 σ8 σ9 σ10 σ11 σ12 σ13 σ14 σ15 σ16 σ17 σ18 σ19 σ20 σ21 σ22 σ23 σ24 σ25 σ26 σ27 σ28 σ29 σ30])) 0 0 := by
  refine x_enter (cc := cX9_write) (maxL := 2) (ret := (some .int)) (by decide) rfl (Nat.le_of_ble_eq_true rfl) ?_
  intro p e s m below meth c A ls H locs hfix hr hlocks hinit hM hl
  obtain ⟨hx, hb, hml, hown, hts⟩ := id hfix
  have hl : lv_has ls 2 [(0, .ref (ad 0)), (1, .int x)] := hl
  refine lv_iload_n hx hb dX9_write_0 rfl (lv_at hl 1 rfl) ?_
  refine x_i2l hx hb dX9_write_1 ?_
  refine lv_ldc2 (v := 32) hx hb hown (hts (.constantLong RX9 100 (32)) (by decide +kernel)) dX9_write_2 ?_
  refine lv_ldc2 (v := 126) hx hb hown (hts (.constantLong RX9 102 (126)) (by decide +kernel)) dX9_write_5 ?_
  refine x_calli (bc := []) (br := [w9 q ad σ0 σ1 σ2 σ3 σ4 σ5 σ6 σ7 σ8 σ9 σ10 σ11 σ12 σ13 σ14 σ15 σ16 σ17 σ18 σ19 σ20 σ21 σ22 σ23 σ24 σ25 σ26 σ27 σ28 σ29 σ30]) hM [] [0] rfl rfl rfl (by decide) (x_runS (As := [.long x.toInt64, .long (32 : Int64), .long (126 : Int64)]) (rest := []) hfix (c_X9_in l D q x.toInt64 (32 : Int64) (126 : Int64) xz (32 : Int) (126 : Int) ((Jvm.Kit.i64_of_i32 _).trans h_xz) (by decide) (by decide)) (va_cwS 3 hts gX9_write_X9_in rfl rfl rfl (by decide +kernel) ⟨Nat.le_of_ble_eq_true rfl, Nat.le_of_ble_eq_true rfl⟩) hM [] rfl rfl rfl hl.1 rfl (Nat.le_of_ble_eq_true rfl) dX9_write_8 ⟨Nat.le_of_ble_eq_true rfl, Nat.le_of_ble_eq_true rfl⟩) (fun r u H locs hq hM => ?_)
  subst hq
  have hM : xM D (TY q) [w9 q ad σ0 σ1 σ2 σ3 σ4 σ5 σ6 σ7 σ8 σ9 σ10 σ11 σ12 σ13 σ14 σ15 σ16 σ17 σ18 σ19 σ20 σ21 σ22 σ23 σ24 σ25 σ26 σ27 σ28 σ29 σ30] A s.heap s H locs := hM
  refine x_ifz_ne (P := (32 : Int) ≤ xz ∧ xz ≤ (126 : Int)) (tgt := 16) hx hb dX9_write_11 (by decide) (fun c1 => ?_) (fun c1 => ?_)
  · exfalso; omega
  · refine lv_iconst (v := (-1)) hx hb dX9_write_14 (by decide) ?_
    exact x_iret hx hb hr hlocks () hM (show (-1) = (-1) from rfl) dX9_write_15

theorem dX9_wipe_0 : decode cX9_wipe 0 = .ok (.aload_n 0, 1) := by decide +kernel
theorem dX9_wipe_1 : decode cX9_wipe 1 = .ok (.getfield 108, 3) := by decide +kernel
theorem dX9_wipe_4 : decode cX9_wipe 4 = .ok (.istore_n 1, 1) := by decide +kernel
theorem dX9_wipe_5 : decode cX9_wipe 5 = .ok (.aload_n 0, 1) := by decide +kernel
theorem dX9_wipe_6 : decode cX9_wipe 6 = .ok (.iconst 0, 1) := by decide +kernel
theorem dX9_wipe_7 : decode cX9_wipe 7 = .ok (.putfield 108, 3) := by decide +kernel
theorem dX9_wipe_10 : decode cX9_wipe 10 = .ok (.iload_n 1, 1) := by decide +kernel
theorem dX9_wipe_11 : decode cX9_wipe 11 = .ok (.ireturn, 1) := by decide +kernel
theorem lkX9_wipe_108 : Cond.fieldLink RX9 108 "LeftAtFiveModel" "length" "I" ∈ wsX9_wipe := by decide +kernel
theorem iwX9_wipe_X9 : ∀ w ∈ wsX90, w ∈ wsX9_wipe := by decide +kernel
set_option maxHeartbeats 4000000 in
set_option maxRecDepth 100000 in
theorem c_X9_wipe (l : Launch) (D : va_G) (q : Nat → ClassId) (ad : Nat → Nat) (σ0 : Int32) (σ1 : Nat → Int32) (σ2 : Nat → Int32) (σ3 : Nat → Int32) (σ4 : Nat → Int32) (σ5 : Nat → Int32) (σ6 : Nat → Int32) (σ7 : Nat → Int32) (σ8 : Nat → Int32) (σ9 : Nat → Int32) (σ10 : Nat → Int32) (σ11 : Nat → Int32) (σ12 : Nat → Int32) (σ13 : Nat → Int32) (σ14 : Nat → Int32) (σ15 : Nat → Int32) (σ16 : Nat → Int32) (σ17 : Nat → Int32) (σ18 : Nat → Int32) (σ19 : Nat → Int32) (σ20 : Int32) (σ21 : Int32) (σ22 : Int32) (σ23 : Nat → Int32) (σ24 : Int32) (σ25 : Int32) (σ26 : Nat → Int32) (σ27 : Nat → Int32) (σ28 : Nat → Int32) (σ29 : Nat → Int32) (σ30 : Nat → Int32) : xC l yX9_wipe wsX9_wipe ({ frames := 0, cells := 0, slots := 0, locals := 0 }) D (TY q) [w9 q ad σ0 σ1 σ2 σ3 σ4 σ5 σ6 σ7 σ8 σ9 σ10 σ11 σ12 σ13 σ14 σ15 σ16 σ17 σ18 σ19 σ20 σ21 σ22 σ23 σ24 σ25 σ26 σ27 σ28 σ29 σ30] [.ref (ad 0)] (xQi D (TY q) (fun (r : Int32) (_ : Unit) => r = σ0) (fun _ => [w9 q ad (nI 0) σ1 σ2 σ3 σ4 σ5 σ6 σ7 σ8 σ9 σ10 σ11 σ12 σ13 σ14 σ15 σ16 σ17 σ18 σ19 σ20 σ21 σ22 σ23 σ24 σ25 σ26 σ27 σ28 σ29 σ30])) 0 0 := by
  refine x_enter (cc := cX9_wipe) (maxL := 2) (ret := (some .int)) (by decide) rfl (Nat.le_of_ble_eq_true rfl) ?_
  intro p e s m below meth c A ls H locs hfix hr hlocks hinit hM hl
  obtain ⟨hx, hb, hml, hown, hts⟩ := id hfix
  have hl : lv_has ls 2 [(0, .ref (ad 0))] := hl
  refine lv_aload_n hx hb dX9_wipe_0 rfl (lv_at hl 0 rfl) ?_
  refine x_get hx hb hts iwX9_wipe_X9 hown hM 0 0 rfl rfl rfl 0 (by decide) (hts _ lkX9_wipe_108) (fun _ h => h) rfl dX9_wipe_1 ?_
  refine lv_istore_n (lv' := [(1, .int σ0), (0, .ref (ad 0))]) hx hb dX9_wipe_4 rfl hl (by decide) rfl (fun ls hl => ?_)
  refine lv_aload_n hx hb dX9_wipe_5 rfl (lv_at hl 1 rfl) ?_
  refine lv_iconst (v := nI 0) hx hb dX9_wipe_6 (by decide) ?_
  refine x_put hx hb hts iwX9_wipe_X9 tyX9 tyX9_ok nmX9 hown hM 0 0 rfl rfl rfl 0 (by decide) (hts _ lkX9_wipe_108) (fun _ h => h) rfl (ty := .int) (by decide +kernel) rfl rfl (Nat.le_of_ble_eq_true rfl) [w9 q ad (nI 0) σ1 σ2 σ3 σ4 σ5 σ6 σ7 σ8 σ9 σ10 σ11 σ12 σ13 σ14 σ15 σ16 σ17 σ18 σ19 σ20 σ21 σ22 σ23 σ24 σ25 σ26 σ27 σ28 σ29 σ30] rfl dX9_wipe_7 (fun H locs hM => ?_)
  refine lv_iload_n hx hb dX9_wipe_10 rfl (lv_at hl 0 rfl) ?_
  exact x_iret hx hb hr hlocks () hM (show σ0 = σ0 from rfl) dX9_wipe_11

set_option maxRecDepth 20000 in
theorem ggX9_count_X9_minuteOf : GoodIn wsX9_count wsX9_minuteOf := goodIn_r _ [13, 14, 19, 20, 21, 22, 23, 24, 25, 26, 27, 28, 29, 30, 31, 32, 33, 34, 35, 36, 37, 38, 39, 40, 41, 42, 43, 44, 45, 46, 47, 48, 49] (by decide +kernel) (by decide +kernel)
set_option maxRecDepth 20000 in
theorem gX9_count_X9_minuteOf : GoodIn wsX9_count (wsV RX9 166 RX9 yX9_minuteOf wsX9_minuteOf) := goodIn_app (goodIn_of _ (by decide +kernel)) ggX9_count_X9_minuteOf
set_option maxRecDepth 20000 in
theorem ggX9_count_X9_giftsOf : GoodIn wsX9_count wsX9_giftsOf := goodIn_r _ [18, 14, 19, 20, 21, 22, 23, 24, 25, 26, 27, 28, 29, 30, 31, 32, 33, 34, 35, 36, 37, 38, 39, 40, 41, 42, 43, 44, 45, 46, 47, 48, 49] (by decide +kernel) (by decide +kernel)
set_option maxRecDepth 20000 in
theorem gX9_count_X9_giftsOf : GoodIn wsX9_count (wsV RX9 159 RX9 yX9_giftsOf wsX9_giftsOf) := goodIn_app (goodIn_of _ (by decide +kernel)) ggX9_count_X9_giftsOf
theorem dX9_count_0 : decode cX9_count 0 = .ok (.iload_n 1, 1) := by decide +kernel
theorem dX9_count_1 : decode cX9_count 1 = .ok (.tableswitch 117 0 9 #[55, 62, 69, 76, 83, 90, 96, 102, 107, 112], 55) := by decide +kernel
theorem dX9_count_56 : decode cX9_count 56 = .ok (.aload_n 0, 1) := by decide +kernel
theorem dX9_count_57 : decode cX9_count 57 = .ok (.getfield 13, 3) := by decide +kernel
theorem dX9_count_60 : decode cX9_count 60 = .ok (.iconst 0, 1) := by decide +kernel
theorem dX9_count_61 : decode cX9_count 61 = .ok (.iaload, 1) := by decide +kernel
theorem dX9_count_62 : decode cX9_count 62 = .ok (.ireturn, 1) := by decide +kernel
theorem dX9_count_63 : decode cX9_count 63 = .ok (.aload_n 0, 1) := by decide +kernel
theorem dX9_count_64 : decode cX9_count 64 = .ok (.getfield 22, 3) := by decide +kernel
theorem dX9_count_67 : decode cX9_count 67 = .ok (.iconst 0, 1) := by decide +kernel
theorem dX9_count_68 : decode cX9_count 68 = .ok (.iaload, 1) := by decide +kernel
theorem dX9_count_69 : decode cX9_count 69 = .ok (.ireturn, 1) := by decide +kernel
theorem dX9_count_70 : decode cX9_count 70 = .ok (.aload_n 0, 1) := by decide +kernel
theorem dX9_count_71 : decode cX9_count 71 = .ok (.getfield 31, 3) := by decide +kernel
theorem dX9_count_74 : decode cX9_count 74 = .ok (.iconst 0, 1) := by decide +kernel
theorem dX9_count_75 : decode cX9_count 75 = .ok (.iaload, 1) := by decide +kernel
theorem dX9_count_76 : decode cX9_count 76 = .ok (.ireturn, 1) := by decide +kernel
theorem dX9_count_77 : decode cX9_count 77 = .ok (.aload_n 0, 1) := by decide +kernel
theorem dX9_count_78 : decode cX9_count 78 = .ok (.getfield 43, 3) := by decide +kernel
theorem dX9_count_81 : decode cX9_count 81 = .ok (.iconst 0, 1) := by decide +kernel
theorem dX9_count_82 : decode cX9_count 82 = .ok (.iaload, 1) := by decide +kernel
theorem dX9_count_83 : decode cX9_count 83 = .ok (.ireturn, 1) := by decide +kernel
theorem dX9_count_84 : decode cX9_count 84 = .ok (.aload_n 0, 1) := by decide +kernel
theorem dX9_count_85 : decode cX9_count 85 = .ok (.getfield 52, 3) := by decide +kernel
theorem dX9_count_88 : decode cX9_count 88 = .ok (.iconst 0, 1) := by decide +kernel
theorem dX9_count_89 : decode cX9_count 89 = .ok (.iaload, 1) := by decide +kernel
theorem dX9_count_90 : decode cX9_count 90 = .ok (.ireturn, 1) := by decide +kernel
theorem dX9_count_91 : decode cX9_count 91 = .ok (.aload_n 0, 1) := by decide +kernel
theorem dX9_count_92 : decode cX9_count 92 = .ok (.iconst 0, 1) := by decide +kernel
theorem dX9_count_93 : decode cX9_count 93 = .ok (.invokevirtual 166, 3) := by decide +kernel
theorem dX9_count_96 : decode cX9_count 96 = .ok (.ireturn, 1) := by decide +kernel
theorem dX9_count_97 : decode cX9_count 97 = .ok (.aload_n 0, 1) := by decide +kernel
theorem dX9_count_98 : decode cX9_count 98 = .ok (.iconst 0, 1) := by decide +kernel
theorem dX9_count_99 : decode cX9_count 99 = .ok (.invokevirtual 159, 3) := by decide +kernel
theorem dX9_count_102 : decode cX9_count 102 = .ok (.ireturn, 1) := by decide +kernel
theorem dX9_count_103 : decode cX9_count 103 = .ok (.aload_n 0, 1) := by decide +kernel
theorem dX9_count_104 : decode cX9_count 104 = .ok (.getfield 153, 3) := by decide +kernel
theorem dX9_count_107 : decode cX9_count 107 = .ok (.ireturn, 1) := by decide +kernel
theorem dX9_count_108 : decode cX9_count 108 = .ok (.aload_n 0, 1) := by decide +kernel
theorem dX9_count_109 : decode cX9_count 109 = .ok (.getfield 156, 3) := by decide +kernel
theorem dX9_count_112 : decode cX9_count 112 = .ok (.ireturn, 1) := by decide +kernel
theorem dX9_count_113 : decode cX9_count 113 = .ok (.aload_n 0, 1) := by decide +kernel
theorem dX9_count_114 : decode cX9_count 114 = .ok (.getfield 108, 3) := by decide +kernel
theorem dX9_count_117 : decode cX9_count 117 = .ok (.ireturn, 1) := by decide +kernel
theorem dX9_count_118 : decode cX9_count 118 = .ok (.iconst (-1), 1) := by decide +kernel
theorem dX9_count_119 : decode cX9_count 119 = .ok (.ireturn, 1) := by decide +kernel
theorem lkX9_count_13 : Cond.fieldLink RX9 13 "LeftAtFiveModel" "goods" "[I" ∈ wsX9_count := by decide +kernel
theorem lkX9_count_22 : Cond.fieldLink RX9 22 "LeftAtFiveModel" "houses" "[I" ∈ wsX9_count := by decide +kernel
theorem lkX9_count_31 : Cond.fieldLink RX9 31 "LeftAtFiveModel" "eaters" "[I" ∈ wsX9_count := by decide +kernel
theorem lkX9_count_43 : Cond.fieldLink RX9 43 "LeftAtFiveModel" "demands" "[I" ∈ wsX9_count := by decide +kernel
theorem lkX9_count_52 : Cond.fieldLink RX9 52 "LeftAtFiveModel" "recipes" "[I" ∈ wsX9_count := by decide +kernel
theorem lkX9_count_108 : Cond.fieldLink RX9 108 "LeftAtFiveModel" "length" "I" ∈ wsX9_count := by decide +kernel
theorem lkX9_count_153 : Cond.fieldLink RX9 153 "LeftAtFiveModel" "undoMany" "I" ∈ wsX9_count := by decide +kernel
theorem lkX9_count_156 : Cond.fieldLink RX9 156 "LeftAtFiveModel" "keptMany" "I" ∈ wsX9_count := by decide +kernel
theorem iwX9_count_X9 : ∀ w ∈ wsX90, w ∈ wsX9_count := by decide +kernel
set_option maxHeartbeats 4000000 in
set_option maxRecDepth 100000 in
theorem c_X9_count (l : Launch) (D : va_G) (q : Nat → ClassId) (ad : Nat → Nat) (σ0 : Int32) (σ1 : Nat → Int32) (σ2 : Nat → Int32) (σ3 : Nat → Int32) (σ4 : Nat → Int32) (σ5 : Nat → Int32) (σ6 : Nat → Int32) (σ7 : Nat → Int32) (σ8 : Nat → Int32) (σ9 : Nat → Int32) (σ10 : Nat → Int32) (σ11 : Nat → Int32) (σ12 : Nat → Int32) (σ13 : Nat → Int32) (σ14 : Nat → Int32) (σ15 : Nat → Int32) (σ16 : Nat → Int32) (σ17 : Nat → Int32) (σ18 : Nat → Int32) (σ19 : Nat → Int32) (σ20 : Int32) (σ21 : Int32) (σ22 : Int32) (σ23 : Nat → Int32) (σ24 : Int32) (σ25 : Int32) (σ26 : Nat → Int32) (σ27 : Nat → Int32) (σ28 : Nat → Int32) (σ29 : Nat → Int32) (σ30 : Nat → Int32) (x : Int32) : xC l yX9_count wsX9_count ({ frames := 1, cells := 0, slots := 0, locals := 21 }) D (TY q) [w9 q ad σ0 σ1 σ2 σ3 σ4 σ5 σ6 σ7 σ8 σ9 σ10 σ11 σ12 σ13 σ14 σ15 σ16 σ17 σ18 σ19 σ20 σ21 σ22 σ23 σ24 σ25 σ26 σ27 σ28 σ29 σ30] [.ref (ad 0), .int x] (xQi D (TY q) (fun (r : Int32) (_ : Unit) => r = xcnt x (σ2 0) (σ5 0) (σ8 0) (σ12 0) (σ15 0) (xreg σ19 0 25) (xreg σ19 0 26) σ20 σ21 σ0) (fun _ => [w9 q ad σ0 σ1 σ2 σ3 σ4 σ5 σ6 σ7 σ8 σ9 σ10 σ11 σ12 σ13 σ14 σ15 σ16 σ17 σ18 σ19 σ20 σ21 σ22 σ23 σ24 σ25 σ26 σ27 σ28 σ29 σ30])) 0 0 := by
  refine x_enter (cc := cX9_count) (maxL := 2) (ret := (some .int)) (by decide) rfl (Nat.le_of_ble_eq_true rfl) ?_
  intro p e s m below meth c A ls H locs hfix hr hlocks hinit hM hl
  obtain ⟨hx, hb, hml, hown, hts⟩ := id hfix
  have hl : lv_has ls 2 [(0, .ref (ad 0)), (1, .int x)] := hl
  refine lv_iload_n hx hb dX9_count_0 rfl (lv_at hl 1 rfl) ?_
  rcases Decidable.em (x = nI 0) with c1 | c1
  · refine x_cast c1 ?_
    refine lv_tableIn (tgt := 56) (off := 55) hx hb dX9_count_1 (by decide) (by decide) (by decide) (by decide) ?_
    refine lv_aload_n hx hb dX9_count_56 rfl (lv_at hl 0 rfl) ?_
    refine x_get hx hb hts iwX9_count_X9 hown hM 0 0 rfl rfl rfl 2 (by decide) (hts _ lkX9_count_13) (fun _ h => h) rfl dX9_count_57 ?_
    refine lv_iconst (v := nI 0) hx hb dX9_count_60 (by decide) ?_
    refine x_iald hx hb hM 0 2 0 (f := σ2) rfl rfl rfl (t := 0) (by omega) (by decide) dX9_count_61 ?_
    exact x_iret hx hb hr hlocks () hM (show σ2 0 = xcnt x (σ2 0) (σ5 0) (σ8 0) (σ12 0) (σ15 0) (xreg σ19 0 25) (xreg σ19 0 26) σ20 σ21 σ0 from by (subst_vars; rfl)) dX9_count_62
  rcases Decidable.em (x = nI 1) with c2 | c2
  · refine x_cast c2 ?_
    refine lv_tableIn (tgt := 63) (off := 62) hx hb dX9_count_1 (by decide) (by decide) (by decide) (by decide) ?_
    refine lv_aload_n hx hb dX9_count_63 rfl (lv_at hl 0 rfl) ?_
    refine x_get hx hb hts iwX9_count_X9 hown hM 0 0 rfl rfl rfl 5 (by decide) (hts _ lkX9_count_22) (fun _ h => h) rfl dX9_count_64 ?_
    refine lv_iconst (v := nI 0) hx hb dX9_count_67 (by decide) ?_
    refine x_iald hx hb hM 0 5 0 (f := σ5) rfl rfl rfl (t := 0) (by omega) (by decide) dX9_count_68 ?_
    exact x_iret hx hb hr hlocks () hM (show σ5 0 = xcnt x (σ2 0) (σ5 0) (σ8 0) (σ12 0) (σ15 0) (xreg σ19 0 25) (xreg σ19 0 26) σ20 σ21 σ0 from by (subst_vars; rfl)) dX9_count_69
  rcases Decidable.em (x = nI 2) with c3 | c3
  · refine x_cast c3 ?_
    refine lv_tableIn (tgt := 70) (off := 69) hx hb dX9_count_1 (by decide) (by decide) (by decide) (by decide) ?_
    refine lv_aload_n hx hb dX9_count_70 rfl (lv_at hl 0 rfl) ?_
    refine x_get hx hb hts iwX9_count_X9 hown hM 0 0 rfl rfl rfl 8 (by decide) (hts _ lkX9_count_31) (fun _ h => h) rfl dX9_count_71 ?_
    refine lv_iconst (v := nI 0) hx hb dX9_count_74 (by decide) ?_
    refine x_iald hx hb hM 0 8 0 (f := σ8) rfl rfl rfl (t := 0) (by omega) (by decide) dX9_count_75 ?_
    exact x_iret hx hb hr hlocks () hM (show σ8 0 = xcnt x (σ2 0) (σ5 0) (σ8 0) (σ12 0) (σ15 0) (xreg σ19 0 25) (xreg σ19 0 26) σ20 σ21 σ0 from by (subst_vars; rfl)) dX9_count_76
  rcases Decidable.em (x = nI 3) with c4 | c4
  · refine x_cast c4 ?_
    refine lv_tableIn (tgt := 77) (off := 76) hx hb dX9_count_1 (by decide) (by decide) (by decide) (by decide) ?_
    refine lv_aload_n hx hb dX9_count_77 rfl (lv_at hl 0 rfl) ?_
    refine x_get hx hb hts iwX9_count_X9 hown hM 0 0 rfl rfl rfl 12 (by decide) (hts _ lkX9_count_43) (fun _ h => h) rfl dX9_count_78 ?_
    refine lv_iconst (v := nI 0) hx hb dX9_count_81 (by decide) ?_
    refine x_iald hx hb hM 0 12 0 (f := σ12) rfl rfl rfl (t := 0) (by omega) (by decide) dX9_count_82 ?_
    exact x_iret hx hb hr hlocks () hM (show σ12 0 = xcnt x (σ2 0) (σ5 0) (σ8 0) (σ12 0) (σ15 0) (xreg σ19 0 25) (xreg σ19 0 26) σ20 σ21 σ0 from by (subst_vars; rfl)) dX9_count_83
  rcases Decidable.em (x = nI 4) with c5 | c5
  · refine x_cast c5 ?_
    refine lv_tableIn (tgt := 84) (off := 83) hx hb dX9_count_1 (by decide) (by decide) (by decide) (by decide) ?_
    refine lv_aload_n hx hb dX9_count_84 rfl (lv_at hl 0 rfl) ?_
    refine x_get hx hb hts iwX9_count_X9 hown hM 0 0 rfl rfl rfl 15 (by decide) (hts _ lkX9_count_52) (fun _ h => h) rfl dX9_count_85 ?_
    refine lv_iconst (v := nI 0) hx hb dX9_count_88 (by decide) ?_
    refine x_iald hx hb hM 0 15 0 (f := σ15) rfl rfl rfl (t := 0) (by omega) (by decide) dX9_count_89 ?_
    exact x_iret hx hb hr hlocks () hM (show σ15 0 = xcnt x (σ2 0) (σ5 0) (σ8 0) (σ12 0) (σ15 0) (xreg σ19 0 25) (xreg σ19 0 26) σ20 σ21 σ0 from by (subst_vars; rfl)) dX9_count_90
  rcases Decidable.em (x = nI 5) with c6 | c6
  · refine x_cast c6 ?_
    refine lv_tableIn (tgt := 91) (off := 90) hx hb dX9_count_1 (by decide) (by decide) (by decide) (by decide) ?_
    refine lv_aload_n hx hb dX9_count_91 rfl (lv_at hl 0 rfl) ?_
    refine lv_iconst (v := nI 0) hx hb dX9_count_92 (by decide) ?_
    refine x_calli (bc := [w9 q ad σ0 σ1 σ2 σ3 σ4 σ5 σ6 σ7 σ8 σ9 σ10 σ11 σ12 σ13 σ14 σ15 σ16 σ17 σ18 σ19 σ20 σ21 σ22 σ23 σ24 σ25 σ26 σ27 σ28 σ29 σ30]) (br := []) hM [0] [] rfl rfl rfl (by decide) (x_runV (As := [.int (nI 0)]) (rest := []) hfix (c_X9_minuteOf l D q ad σ0 σ1 σ2 σ3 σ4 σ5 σ6 σ7 σ8 σ9 σ10 σ11 σ12 σ13 σ14 σ15 σ16 σ17 σ18 σ19 σ20 σ21 σ22 σ23 σ24 σ25 σ26 σ27 σ28 σ29 σ30 0 (by omega)) (cwV 1 hts gX9_count_X9_minuteOf rfl rfl rfl (by decide +kernel) ⟨Nat.le_of_ble_eq_true rfl, Nat.le_of_ble_eq_true rfl⟩) hM [0] rfl rfl 0 0 rfl rfl rfl rfl rfl hl.1 rfl (Nat.le_of_ble_eq_true rfl) dX9_count_93 ⟨Nat.le_of_ble_eq_true rfl, Nat.le_of_ble_eq_true rfl⟩) (fun r u H locs hq hM => ?_)
    subst hq
    have hM : xM D (TY q) [w9 q ad σ0 σ1 σ2 σ3 σ4 σ5 σ6 σ7 σ8 σ9 σ10 σ11 σ12 σ13 σ14 σ15 σ16 σ17 σ18 σ19 σ20 σ21 σ22 σ23 σ24 σ25 σ26 σ27 σ28 σ29 σ30] A s.heap s H locs := hM
    exact x_iret hx hb hr hlocks () hM (show σ19 (67 * 0 + 25) = xcnt x (σ2 0) (σ5 0) (σ8 0) (σ12 0) (σ15 0) (xreg σ19 0 25) (xreg σ19 0 26) σ20 σ21 σ0 from by (subst_vars; rfl)) dX9_count_96
  rcases Decidable.em (x = nI 6) with c7 | c7
  · refine x_cast c7 ?_
    refine lv_tableIn (tgt := 97) (off := 96) hx hb dX9_count_1 (by decide) (by decide) (by decide) (by decide) ?_
    refine lv_aload_n hx hb dX9_count_97 rfl (lv_at hl 0 rfl) ?_
    refine lv_iconst (v := nI 0) hx hb dX9_count_98 (by decide) ?_
    refine x_calli (bc := [w9 q ad σ0 σ1 σ2 σ3 σ4 σ5 σ6 σ7 σ8 σ9 σ10 σ11 σ12 σ13 σ14 σ15 σ16 σ17 σ18 σ19 σ20 σ21 σ22 σ23 σ24 σ25 σ26 σ27 σ28 σ29 σ30]) (br := []) hM [0] [] rfl rfl rfl (by decide) (x_runV (As := [.int (nI 0)]) (rest := []) hfix (c_X9_giftsOf l D q ad σ0 σ1 σ2 σ3 σ4 σ5 σ6 σ7 σ8 σ9 σ10 σ11 σ12 σ13 σ14 σ15 σ16 σ17 σ18 σ19 σ20 σ21 σ22 σ23 σ24 σ25 σ26 σ27 σ28 σ29 σ30 0 (by omega)) (cwV 1 hts gX9_count_X9_giftsOf rfl rfl rfl (by decide +kernel) ⟨Nat.le_of_ble_eq_true rfl, Nat.le_of_ble_eq_true rfl⟩) hM [0] rfl rfl 0 0 rfl rfl rfl rfl rfl hl.1 rfl (Nat.le_of_ble_eq_true rfl) dX9_count_99 ⟨Nat.le_of_ble_eq_true rfl, Nat.le_of_ble_eq_true rfl⟩) (fun r u H locs hq hM => ?_)
    subst hq
    have hM : xM D (TY q) [w9 q ad σ0 σ1 σ2 σ3 σ4 σ5 σ6 σ7 σ8 σ9 σ10 σ11 σ12 σ13 σ14 σ15 σ16 σ17 σ18 σ19 σ20 σ21 σ22 σ23 σ24 σ25 σ26 σ27 σ28 σ29 σ30] A s.heap s H locs := hM
    exact x_iret hx hb hr hlocks () hM (show σ19 (67 * 0 + 26) = xcnt x (σ2 0) (σ5 0) (σ8 0) (σ12 0) (σ15 0) (xreg σ19 0 25) (xreg σ19 0 26) σ20 σ21 σ0 from by (subst_vars; rfl)) dX9_count_102
  rcases Decidable.em (x = nI 7) with c8 | c8
  · refine x_cast c8 ?_
    refine lv_tableIn (tgt := 103) (off := 102) hx hb dX9_count_1 (by decide) (by decide) (by decide) (by decide) ?_
    refine lv_aload_n hx hb dX9_count_103 rfl (lv_at hl 0 rfl) ?_
    refine x_get hx hb hts iwX9_count_X9 hown hM 0 0 rfl rfl rfl 20 (by decide) (hts _ lkX9_count_153) (fun _ h => h) rfl dX9_count_104 ?_
    exact x_iret hx hb hr hlocks () hM (show σ20 = xcnt x (σ2 0) (σ5 0) (σ8 0) (σ12 0) (σ15 0) (xreg σ19 0 25) (xreg σ19 0 26) σ20 σ21 σ0 from by (subst_vars; rfl)) dX9_count_107
  rcases Decidable.em (x = nI 8) with c9 | c9
  · refine x_cast c9 ?_
    refine lv_tableIn (tgt := 108) (off := 107) hx hb dX9_count_1 (by decide) (by decide) (by decide) (by decide) ?_
    refine lv_aload_n hx hb dX9_count_108 rfl (lv_at hl 0 rfl) ?_
    refine x_get hx hb hts iwX9_count_X9 hown hM 0 0 rfl rfl rfl 21 (by decide) (hts _ lkX9_count_156) (fun _ h => h) rfl dX9_count_109 ?_
    exact x_iret hx hb hr hlocks () hM (show σ21 = xcnt x (σ2 0) (σ5 0) (σ8 0) (σ12 0) (σ15 0) (xreg σ19 0 25) (xreg σ19 0 26) σ20 σ21 σ0 from by (subst_vars; rfl)) dX9_count_112
  rcases Decidable.em (x = nI 9) with c10 | c10
  · refine x_cast c10 ?_
    refine lv_tableIn (tgt := 113) (off := 112) hx hb dX9_count_1 (by decide) (by decide) (by decide) (by decide) ?_
    refine lv_aload_n hx hb dX9_count_113 rfl (lv_at hl 0 rfl) ?_
    refine x_get hx hb hts iwX9_count_X9 hown hM 0 0 rfl rfl rfl 0 (by decide) (hts _ lkX9_count_108) (fun _ h => h) rfl dX9_count_114 ?_
    exact x_iret hx hb hr hlocks () hM (show σ0 = xcnt x (σ2 0) (σ5 0) (σ8 0) (σ12 0) (σ15 0) (xreg σ19 0 25) (xreg σ19 0 26) σ20 σ21 σ0 from by (subst_vars; rfl)) dX9_count_117
  have tc1 := x_neI (k := 0) (by decide) c1
  have tc2 := x_neI (k := 1) (by decide) c2
  have tc3 := x_neI (k := 2) (by decide) c3
  have tc4 := x_neI (k := 3) (by decide) c4
  have tc5 := x_neI (k := 4) (by decide) c5
  have tc6 := x_neI (k := 5) (by decide) c6
  have tc7 := x_neI (k := 6) (by decide) c7
  have tc8 := x_neI (k := 7) (by decide) c8
  have tc9 := x_neI (k := 8) (by decide) c9
  have tc10 := x_neI (k := 9) (by decide) c10
  refine lv_tableOut (tgt := 118) hx hb dX9_count_1 (by omega) (by decide) ?_
  refine lv_iconst (v := (-1)) hx hb dX9_count_118 (by decide) ?_
  exact x_iret hx hb hr hlocks () hM (show (-1) = xcnt x (σ2 0) (σ5 0) (σ8 0) (σ12 0) (σ15 0) (xreg σ19 0 25) (xreg σ19 0 26) σ20 σ21 σ0 from by (unfold xcnt; simp only [*, if_false])) dX9_count_119
