set_option maxRecDepth 20000 in
theorem ggX8_wipe_X2_size : GoodIn wsX8_wipe wsX2_size := goodIn_r _ [6, 7, 22, 23, 24, 25] (by decide +kernel) (by decide +kernel)
set_option maxRecDepth 20000 in
theorem gX8_wipe_X2_size : GoodIn wsX8_wipe (wsV RX8 95 RX2 yX2_size wsX2_size) := goodIn_app (goodIn_of _ (by decide +kernel)) ggX8_wipe_X2_size
set_option maxRecDepth 20000 in
theorem ggX8_wipe_X2_clear : GoodIn wsX8_wipe wsX2_clear := goodIn_r _ [11, 7, 22, 23, 24, 25] (by decide +kernel) (by decide +kernel)
set_option maxRecDepth 20000 in
theorem gX8_wipe_X2_clear : GoodIn wsX8_wipe (wsV RX8 88 RX2 yX2_clear wsX2_clear) := goodIn_app (goodIn_of _ (by decide +kernel)) ggX8_wipe_X2_clear
theorem dX8_wipe_0 : decode cX8_wipe 0 = .ok (.aload_n 0, 1) := by decide +kernel
theorem dX8_wipe_1 : decode cX8_wipe 1 = .ok (.getfield 10, 3) := by decide +kernel
theorem dX8_wipe_4 : decode cX8_wipe 4 = .ok (.invokevirtual 95, 3) := by decide +kernel
theorem dX8_wipe_7 : decode cX8_wipe 7 = .ok (.istore_n 1, 1) := by decide +kernel
theorem dX8_wipe_8 : decode cX8_wipe 8 = .ok (.aload_n 0, 1) := by decide +kernel
theorem dX8_wipe_9 : decode cX8_wipe 9 = .ok (.getfield 10, 3) := by decide +kernel
theorem dX8_wipe_12 : decode cX8_wipe 12 = .ok (.invokevirtual 88, 3) := by decide +kernel
theorem dX8_wipe_15 : decode cX8_wipe 15 = .ok (.iload_n 1, 1) := by decide +kernel
theorem dX8_wipe_16 : decode cX8_wipe 16 = .ok (.ireturn, 1) := by decide +kernel
theorem lkX8_wipe_10 : Cond.fieldLink RX8 10 "LeftAtFive" "text" "LLeftAtFive$Letters;" ∈ wsX8_wipe := by decide +kernel
theorem iwX8_wipe_X8 : ∀ w ∈ wsX80, w ∈ wsX8_wipe := by decide +kernel
set_option maxHeartbeats 2000000 in
set_option maxRecDepth 100000 in
theorem c_X8_wipe (l : Launch) (D : va_G) (q : Nat → ClassId) (ad : Nat → Nat) (ω0 : Nat) (ω1 : Nat) (ω2 : Nat) (ω3 : Nat) (ω4 : Nat) (ω5 : Nat) (ω6 : Nat) (ω7 : Nat) (ω8 : Nat) (ω9 : Nat) (td : Nat → Nat) (ν0 : Nat → Int32) (ν1 : Nat → Int32) (ν2 : Int32) (ν3 : Int32) : xC l yX8_wipe wsX8_wipe ({ frames := 1, cells := 0, slots := 0, locals := 20 }) D (TY q) [w8 q ad (td 0) ω1 ω2 ω3 ω4 ω5 ω6 ω7 ω8 ω9, w2 q td ν0 ν1 ν2 ν3] [.ref (ad 0)] (xQi D (TY q) (fun (r : Int32) (_ : Unit) => r = ν2) (fun _ => [w8 q ad (td 0) ω1 ω2 ω3 ω4 ω5 ω6 ω7 ω8 ω9, w2 q td ν0 ν1 (nI 0) ν3])) 0 0 := by
  refine x_enter (cc := cX8_wipe) (maxL := 2) (ret := (some .int)) (by decide) rfl (Nat.le_of_ble_eq_true rfl) ?_
  intro p e s m below meth c A ls H locs hfix hr hlocks hinit hM hl
  obtain ⟨hx, hb, hml, hown, hts⟩ := id hfix
  have hl : lv_has ls 2 [(0, .ref (ad 0))] := hl
  refine lv_aload_n hx hb dX8_wipe_0 rfl (lv_at hl 0 rfl) ?_
  refine x_get hx hb hts iwX8_wipe_X8 hown hM 0 0 rfl rfl rfl 0 (by decide) (hts _ lkX8_wipe_10) (fun _ h => h) rfl dX8_wipe_1 ?_
  refine x_calli (bc := [w2 q td ν0 ν1 ν2 ν3]) (br := [w8 q ad (td 0) ω1 ω2 ω3 ω4 ω5 ω6 ω7 ω8 ω9]) hM [1] [0] rfl rfl rfl (by decide) (x_runV (As := []) (rest := []) hfix (c_X2_size l D q td ν0 ν1 ν2 ν3) (cwV 0 hts gX8_wipe_X2_size rfl rfl rfl (by decide +kernel) ⟨Nat.le_of_ble_eq_true rfl, Nat.le_of_ble_eq_true rfl⟩) hM [1] rfl rfl 1 0 rfl rfl rfl rfl rfl hl.1 rfl (Nat.le_of_ble_eq_true rfl) dX8_wipe_4 ⟨Nat.le_of_ble_eq_true rfl, Nat.le_of_ble_eq_true rfl⟩) (fun r u H locs hq hM => ?_)
  have hq := hq.symm
  subst hq
  have hM : xM D (TY q) [w8 q ad (td 0) ω1 ω2 ω3 ω4 ω5 ω6 ω7 ω8 ω9, w2 q td ν0 ν1 ν2 ν3] A s.heap s H locs := hM
  refine lv_istore_n (lv' := [(1, .int ν2), (0, .ref (ad 0))]) hx hb dX8_wipe_7 rfl hl (by decide) rfl (fun ls hl => ?_)
  refine lv_aload_n hx hb dX8_wipe_8 rfl (lv_at hl 1 rfl) ?_
  refine x_get hx hb hts iwX8_wipe_X8 hown hM 0 0 rfl rfl rfl 0 (by decide) (hts _ lkX8_wipe_10) (fun _ h => h) rfl dX8_wipe_9 ?_
  refine x_callv (bc := [w2 q td ν0 ν1 ν2 ν3]) (br := [w8 q ad (td 0) ω1 ω2 ω3 ω4 ω5 ω6 ω7 ω8 ω9]) hM [1] [0] rfl rfl rfl (by decide) (x_runV (As := []) (rest := []) hfix (c_X2_clear l D q td ν0 ν1 ν2 ν3) (cwV 0 hts gX8_wipe_X2_clear rfl rfl rfl (by decide +kernel) ⟨Nat.le_of_ble_eq_true rfl, Nat.le_of_ble_eq_true rfl⟩) hM [1] rfl rfl 1 0 rfl rfl rfl rfl rfl hl.1 rfl (Nat.le_of_ble_eq_true rfl) dX8_wipe_12 ⟨Nat.le_of_ble_eq_true rfl, Nat.le_of_ble_eq_true rfl⟩) (fun u H locs hq hM => ?_)
  have hM : xM D (TY q) [w8 q ad (td 0) ω1 ω2 ω3 ω4 ω5 ω6 ω7 ω8 ω9, w2 q td ν0 ν1 (nI 0) ν3] A s.heap s H locs := hM
  refine lv_iload_n hx hb dX8_wipe_15 rfl (lv_at hl 0 rfl) ?_
  exact x_iret hx hb hr hlocks () hM (show ν2 = ν2 from rfl) dX8_wipe_16
