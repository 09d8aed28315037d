set_option maxRecDepth 20000 in
theorem ggX6_worthOf_X7_priceOf : GoodIn wsX6_worthOf wsX7_priceOf := goodIn_r _ [5, 6, 7, 8, 9, 10, 11, 12, 13, 14, 15, 16, 17, 18, 19, 20, 21, 22, 23, 24, 25, 26] (by decide +kernel) (by decide +kernel)
set_option maxRecDepth 20000 in
theorem gX6_worthOf_X7_priceOf : GoodIn wsX6_worthOf (wsV RX6 128 RX7 yX7_priceOf wsX7_priceOf) := goodIn_app (goodIn_of _ (by decide +kernel)) ggX6_worthOf_X7_priceOf
theorem dX6_worthOf_0 : decode cX6_worthOf 0 = .ok (.iload_n 1, 1) := by decide +kernel
theorem dX6_worthOf_1 : decode cX6_worthOf 1 = .ok (.aload_n 0, 1) := by decide +kernel
theorem dX6_worthOf_2 : decode cX6_worthOf 2 = .ok (.iconst 0, 1) := by decide +kernel
theorem dX6_worthOf_3 : decode cX6_worthOf 3 = .ok (.invokevirtual 128, 3) := by decide +kernel
theorem dX6_worthOf_6 : decode cX6_worthOf 6 = .ok (.imul, 1) := by decide +kernel
theorem dX6_worthOf_7 : decode cX6_worthOf 7 = .ok (.iload_n 2, 1) := by decide +kernel
theorem dX6_worthOf_8 : decode cX6_worthOf 8 = .ok (.aload_n 0, 1) := by decide +kernel
theorem dX6_worthOf_9 : decode cX6_worthOf 9 = .ok (.iconst 1, 1) := by decide +kernel
theorem dX6_worthOf_10 : decode cX6_worthOf 10 = .ok (.invokevirtual 128, 3) := by decide +kernel
theorem dX6_worthOf_13 : decode cX6_worthOf 13 = .ok (.imul, 1) := by decide +kernel
theorem dX6_worthOf_14 : decode cX6_worthOf 14 = .ok (.iadd, 1) := by decide +kernel
theorem dX6_worthOf_15 : decode cX6_worthOf 15 = .ok (.iload_n 3, 1) := by decide +kernel
theorem dX6_worthOf_16 : decode cX6_worthOf 16 = .ok (.aload_n 0, 1) := by decide +kernel
theorem dX6_worthOf_17 : decode cX6_worthOf 17 = .ok (.iconst 2, 1) := by decide +kernel
theorem dX6_worthOf_18 : decode cX6_worthOf 18 = .ok (.invokevirtual 128, 3) := by decide +kernel
theorem dX6_worthOf_21 : decode cX6_worthOf 21 = .ok (.imul, 1) := by decide +kernel
theorem dX6_worthOf_22 : decode cX6_worthOf 22 = .ok (.iadd, 1) := by decide +kernel
theorem dX6_worthOf_23 : decode cX6_worthOf 23 = .ok (.ireturn, 1) := by decide +kernel
set_option maxHeartbeats 2000000 in
set_option maxRecDepth 100000 in
theorem c_X6_worthOf (l : Launch) (D : va_G) (q : Nat → ClassId) (sd : Nat → Nat) (X : Nat → Nat → Int32) (na : Int32) (nb : Int32) (nc : Int32) : xC l yX6_worthOf wsX6_worthOf ({ frames := 2, cells := 0, slots := 0, locals := 42 }) D (TY q) [wst q sd X] [.ref (sd 0), .int na, .int nb, .int nc] (xQi D (TY q) (fun (r : Int32) (_ : Unit) => r = na * (X 15) 0 + nb * (X 15) 1 + nc * (X 15) 2) (fun _ => [wst q sd X])) 0 0 := by
  refine x_enter (cc := cX6_worthOf) (maxL := 4) (ret := (some .int)) (by decide) rfl (Nat.le_of_ble_eq_true rfl) ?_
  intro p e s m below meth c A ls H locs hfix hr hlocks hinit hM hl
  obtain ⟨hx, hb, hml, hown, hts⟩ := id hfix
  have hl : lv_has ls 4 [(0, .ref (sd 0)), (1, .int na), (2, .int nb), (3, .int nc)] := hl
  refine lv_iload_n hx hb dX6_worthOf_0 rfl (lv_at hl 1 rfl) ?_
  refine lv_aload_n hx hb dX6_worthOf_1 rfl (lv_at hl 0 rfl) ?_
  refine lv_iconst (v := nI 0) hx hb dX6_worthOf_2 (by decide) ?_
  refine x_calli (bc := [wst q sd X]) (br := []) hM [0] [] rfl rfl rfl (by decide) (x_runV (As := [.int (nI 0)]) (rest := [.int na]) hfix (c_X7_priceOf l D q sd X 0 (by omega)) (cwV 1 hts gX6_worthOf_X7_priceOf rfl rfl rfl (by decide +kernel) ⟨Nat.le_of_ble_eq_true rfl, Nat.le_of_ble_eq_true rfl⟩) hM [0] rfl rfl 0 0 rfl rfl rfl rfl rfl hl.1 rfl (Nat.le_of_ble_eq_true rfl) dX6_worthOf_3 ⟨Nat.le_of_ble_eq_true rfl, Nat.le_of_ble_eq_true rfl⟩) (fun r u H locs hq hM => ?_)
  subst hq
  have hM : xM D (TY q) [wst q sd X] A s.heap s H locs := hM
  refine lv_imul hx hb dX6_worthOf_6 ?_
  refine lv_iload_n hx hb dX6_worthOf_7 rfl (lv_at hl 2 rfl) ?_
  refine lv_aload_n hx hb dX6_worthOf_8 rfl (lv_at hl 0 rfl) ?_
  refine lv_iconst (v := nI 1) hx hb dX6_worthOf_9 (by decide) ?_
  refine x_calli (bc := [wst q sd X]) (br := []) hM [0] [] rfl rfl rfl (by decide) (x_runV (As := [.int (nI 1)]) (rest := [.int nb, .int (na * ((X 15) 0))]) hfix (c_X7_priceOf l D q sd X 1 (by omega)) (cwV 1 hts gX6_worthOf_X7_priceOf rfl rfl rfl (by decide +kernel) ⟨Nat.le_of_ble_eq_true rfl, Nat.le_of_ble_eq_true rfl⟩) hM [0] rfl rfl 0 0 rfl rfl rfl rfl rfl hl.1 rfl (Nat.le_of_ble_eq_true rfl) dX6_worthOf_10 ⟨Nat.le_of_ble_eq_true rfl, Nat.le_of_ble_eq_true rfl⟩) (fun r u H locs hq hM => ?_)
  subst hq
  have hM : xM D (TY q) [wst q sd X] A s.heap s H locs := hM
  refine lv_imul hx hb dX6_worthOf_13 ?_
  refine lv_iadd hx hb dX6_worthOf_14 ?_
  refine lv_iload_n hx hb dX6_worthOf_15 rfl (lv_at hl 3 rfl) ?_
  refine lv_aload_n hx hb dX6_worthOf_16 rfl (lv_at hl 0 rfl) ?_
  refine lv_iconst (v := nI 2) hx hb dX6_worthOf_17 (by decide) ?_
  refine x_calli (bc := [wst q sd X]) (br := []) hM [0] [] rfl rfl rfl (by decide) (x_runV (As := [.int (nI 2)]) (rest := [.int nc, .int ((na * ((X 15) 0)) + (nb * ((X 15) 1)))]) hfix (c_X7_priceOf l D q sd X 2 (by omega)) (cwV 1 hts gX6_worthOf_X7_priceOf rfl rfl rfl (by decide +kernel) ⟨Nat.le_of_ble_eq_true rfl, Nat.le_of_ble_eq_true rfl⟩) hM [0] rfl rfl 0 0 rfl rfl rfl rfl rfl hl.1 rfl (Nat.le_of_ble_eq_true rfl) dX6_worthOf_18 ⟨Nat.le_of_ble_eq_true rfl, Nat.le_of_ble_eq_true rfl⟩) (fun r u H locs hq hM => ?_)
  subst hq
  have hM : xM D (TY q) [wst q sd X] A s.heap s H locs := hM
  refine lv_imul hx hb dX6_worthOf_21 ?_
  refine lv_iadd hx hb dX6_worthOf_22 ?_
  exact x_iret hx hb hr hlocks () hM (show ((na * ((X 15) 0)) + (nb * ((X 15) 1))) + (nc * ((X 15) 2)) = na * (X 15) 0 + nb * (X 15) 1 + nc * (X 15) 2 from by rfl) dX6_worthOf_23
