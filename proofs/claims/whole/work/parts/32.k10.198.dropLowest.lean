theorem dX4_dropLowest_0 : decode cX4_dropLowest 0 = .ok (.aload_n 0, 1) := by decide +kernel
theorem dX4_dropLowest_1 : decode cX4_dropLowest 1 = .ok (.getfield 9, 3) := by decide +kernel
theorem dX4_dropLowest_4 : decode cX4_dropLowest 4 = .ok (.arraylength, 1) := by decide +kernel
theorem dX4_dropLowest_5 : decode cX4_dropLowest 5 = .ok (.ifCond .ne 4, 3) := by decide +kernel
theorem dX4_dropLowest_8 : decode cX4_dropLowest 8 = .ok (.return_, 1) := by decide +kernel
theorem dX4_dropLowest_9 : decode cX4_dropLowest 9 = .ok (.aload_n 0, 1) := by decide +kernel
theorem dX4_dropLowest_10 : decode cX4_dropLowest 10 = .ok (.getfield 9, 3) := by decide +kernel
theorem dX4_dropLowest_13 : decode cX4_dropLowest 13 = .ok (.iconst 0, 1) := by decide +kernel
theorem dX4_dropLowest_14 : decode cX4_dropLowest 14 = .ok (.aaload, 1) := by decide +kernel
theorem dX4_dropLowest_15 : decode cX4_dropLowest 15 = .ok (.astore_n 1, 1) := by decide +kernel
theorem dX4_dropLowest_16 : decode cX4_dropLowest 16 = .ok (.iconst 1, 1) := by decide +kernel
theorem dX4_dropLowest_17 : decode cX4_dropLowest 17 = .ok (.istore_n 2, 1) := by decide +kernel
theorem dX4_dropLowest_18 : decode cX4_dropLowest 18 = .ok (.iload_n 2, 1) := by decide +kernel
theorem dX4_dropLowest_19 : decode cX4_dropLowest 19 = .ok (.aload_n 0, 1) := by decide +kernel
theorem dX4_dropLowest_20 : decode cX4_dropLowest 20 = .ok (.getfield 9, 3) := by decide +kernel
theorem dX4_dropLowest_23 : decode cX4_dropLowest 23 = .ok (.arraylength, 1) := by decide +kernel
theorem dX4_dropLowest_24 : decode cX4_dropLowest 24 = .ok (.if_icmp .ge 23, 3) := by decide +kernel
theorem dX4_dropLowest_27 : decode cX4_dropLowest 27 = .ok (.aload_n 0, 1) := by decide +kernel
theorem dX4_dropLowest_28 : decode cX4_dropLowest 28 = .ok (.getfield 9, 3) := by decide +kernel
theorem dX4_dropLowest_31 : decode cX4_dropLowest 31 = .ok (.iload_n 2, 1) := by decide +kernel
theorem dX4_dropLowest_32 : decode cX4_dropLowest 32 = .ok (.iconst 1, 1) := by decide +kernel
theorem dX4_dropLowest_33 : decode cX4_dropLowest 33 = .ok (.isub, 1) := by decide +kernel
theorem dX4_dropLowest_34 : decode cX4_dropLowest 34 = .ok (.aload_n 0, 1) := by decide +kernel
theorem dX4_dropLowest_35 : decode cX4_dropLowest 35 = .ok (.getfield 9, 3) := by decide +kernel
theorem dX4_dropLowest_38 : decode cX4_dropLowest 38 = .ok (.iload_n 2, 1) := by decide +kernel
theorem dX4_dropLowest_39 : decode cX4_dropLowest 39 = .ok (.aaload, 1) := by decide +kernel
theorem dX4_dropLowest_40 : decode cX4_dropLowest 40 = .ok (.aastore, 1) := by decide +kernel
theorem dX4_dropLowest_41 : decode cX4_dropLowest 41 = .ok (.iinc 2 1, 3) := by decide +kernel
theorem dX4_dropLowest_44 : decode cX4_dropLowest 44 = .ok (.goto (-26), 3) := by decide +kernel
theorem dX4_dropLowest_47 : decode cX4_dropLowest 47 = .ok (.aload_n 0, 1) := by decide +kernel
theorem dX4_dropLowest_48 : decode cX4_dropLowest 48 = .ok (.getfield 9, 3) := by decide +kernel
theorem dX4_dropLowest_51 : decode cX4_dropLowest 51 = .ok (.aload_n 0, 1) := by decide +kernel
theorem dX4_dropLowest_52 : decode cX4_dropLowest 52 = .ok (.getfield 9, 3) := by decide +kernel
theorem dX4_dropLowest_55 : decode cX4_dropLowest 55 = .ok (.arraylength, 1) := by decide +kernel
theorem dX4_dropLowest_56 : decode cX4_dropLowest 56 = .ok (.iconst 1, 1) := by decide +kernel
theorem dX4_dropLowest_57 : decode cX4_dropLowest 57 = .ok (.isub, 1) := by decide +kernel
theorem dX4_dropLowest_58 : decode cX4_dropLowest 58 = .ok (.aload_n 1, 1) := by decide +kernel
theorem dX4_dropLowest_59 : decode cX4_dropLowest 59 = .ok (.aastore, 1) := by decide +kernel
theorem dX4_dropLowest_60 : decode cX4_dropLowest 60 = .ok (.aload_n 0, 1) := by decide +kernel
theorem dX4_dropLowest_61 : decode cX4_dropLowest 61 = .ok (.aload_n 0, 1) := by decide +kernel
theorem dX4_dropLowest_62 : decode cX4_dropLowest 62 = .ok (.getfield 9, 3) := by decide +kernel
theorem dX4_dropLowest_65 : decode cX4_dropLowest 65 = .ok (.arraylength, 1) := by decide +kernel
theorem dX4_dropLowest_66 : decode cX4_dropLowest 66 = .ok (.iconst 1, 1) := by decide +kernel
theorem dX4_dropLowest_67 : decode cX4_dropLowest 67 = .ok (.isub, 1) := by decide +kernel
theorem dX4_dropLowest_68 : decode cX4_dropLowest 68 = .ok (.putfield 16, 3) := by decide +kernel
theorem dX4_dropLowest_71 : decode cX4_dropLowest 71 = .ok (.return_, 1) := by decide +kernel
theorem lkX4_dropLowest_9 : Cond.fieldLink RX4 9 "LeftAtFive$Pile" "copies" "[LLeftAtFive$Kitchens;" ∈ wsX4_dropLowest := by decide +kernel
theorem lkX4_dropLowest_16 : Cond.fieldLink RX4 16 "LeftAtFive$Pile" "height" "I" ∈ wsX4_dropLowest := by decide +kernel
theorem iwX4_dropLowest_X4 : ∀ w ∈ wsX40, w ∈ wsX4_dropLowest := by decide +kernel
set_option maxHeartbeats 2000000 in
set_option maxRecDepth 100000 in
theorem c_X4_dropLowest (l : Launch) (D : va_G) (q : Nat → ClassId) (pd : Nat → Nat) (ka : Nat → Nat → Nat) (K : Nat → Nat → Int32) (n : Nat) (hn : Nat) (hn8 : 1 ≤ n ∧ n ≤ 8) : xC l yX4_dropLowest wsX4_dropLowest ({ frames := 0, cells := 0, slots := 0, locals := 0 }) D (TY q) [wp q pd ka n (nI hn), wpl q ka K n] [.ref (pd 0)] (xQv D (TY q) (fun (_ : Unit) => True) (fun _ => [wp q pd (rotA n ka) n (nI (n - 1)), wpl q ka K n])) 0 0 := by
  refine x_enter (cc := cX4_dropLowest) (maxL := 3) (ret := none) (by decide) rfl (Nat.le_of_ble_eq_true rfl) ?_
  intro p e s m below meth c A ls H locs hfix hr hlocks hinit hM hl
  obtain ⟨hx, hb, hml, hown, hts⟩ := id hfix
  have hl : lv_has ls 3 [(0, .ref (pd 0))] := hl
  refine lv_aload_n hx hb dX4_dropLowest_0 rfl (lv_at hl 0 rfl) ?_
  refine x_get hx hb hts iwX4_dropLowest_X4 hown hM 0 0 rfl rfl rfl 0 (by decide) (hts _ lkX4_dropLowest_9) (fun _ h => h) rfl dX4_dropLowest_1 ?_
  refine x_alen hx hb hM 0 1 3 rfl rfl rfl dX4_dropLowest_4 ?_
  refine x_if_ne (x := n) (tgt := 9) hx hb (by omega) dX4_dropLowest_5 (by decide) (fun c1 => ?_) (fun c1 => ?_)
  · refine lv_aload_n hx hb dX4_dropLowest_9 rfl (lv_at hl 0 rfl) ?_
    refine x_get hx hb hts iwX4_dropLowest_X4 hown hM 0 0 rfl rfl rfl 0 (by decide) (hts _ lkX4_dropLowest_9) (fun _ h => h) rfl dX4_dropLowest_10 ?_
    refine lv_iconst (v := nI 0) hx hb dX4_dropLowest_13 (by decide) ?_
    refine x_aald hx hb hM 0 1 3 rfl rfl rfl (t := 0) (v := (ka 0) 0) (by omega) (by omega) rfl dX4_dropLowest_14 ?_
    refine lv_astore_n (lv' := [(1, .ref ((ka 0) 0)), (0, .ref (pd 0))]) hx hb dX4_dropLowest_15 rfl hl (by decide) rfl (fun ls hl => ?_)
    refine lv_iconst (v := nI 1) hx hb dX4_dropLowest_16 (by decide) ?_
    refine lv_istore_n (lv' := [(2, .int (nI 1)), (1, .ref ((ka 0) 0)), (0, .ref (pd 0))]) hx hb dX4_dropLowest_17 rfl hl (by decide) rfl (fun ls hl => ?_)
    have e3 : (((fun y6 => some (ka y6 0))) : Nat → Option Nat) = ((xdrf ka 1)) := by exact xdrf_1 ka
    have hM : xM D (TY q) [wpf q pd (xdrf ka 1) n (nI hn), wpl q ka K n] A s.heap s H locs := Eq.mp (congrArg (fun z9 => xM D (TY q) [wpf q pd z9 n (nI hn), wpl q ka K n] A s.heap s H locs) e3) hM
    refine x_loop (ι := Nat) (fun i => [(0, .ref (pd 0)), (1, .ref ((ka 0) 0)), (2, .int (nI i))]) (fun i => [wpf q pd (xdrf ka i) n (nI hn), wpl q ka K n]) (fun i => (1 ≤ i ∧ i ≤ n)) (fun i => n - i) 1 (by omega) hM (lv_sub hl [2, 1, 0] rfl) ?_
    intro i hI5 ih4 H locs hM ls hl
    have hM : xM D (TY q) [wpf q pd (xdrf ka i) n (nI hn), wpl q ka K n] A s.heap s H locs := hM
    have hl : lv_has ls 3 [(0, .ref (pd 0)), (1, .ref ((ka 0) 0)), (2, .int (nI i))] := hl
    have hI5 : (1 ≤ i ∧ i ≤ n) := hI5
    try dsimp only
    refine lv_iload_n hx hb dX4_dropLowest_18 rfl (lv_at hl 2 rfl) ?_
    refine lv_aload_n hx hb dX4_dropLowest_19 rfl (lv_at hl 0 rfl) ?_
    refine x_get hx hb hts iwX4_dropLowest_X4 hown hM 0 0 rfl rfl rfl 0 (by decide) (hts _ lkX4_dropLowest_9) (fun _ h => h) rfl dX4_dropLowest_20 ?_
    refine x_alen hx hb hM 0 1 3 rfl rfl rfl dX4_dropLowest_23 ?_
    refine x_icmp_ge (x := i) (y := n) (tgt := 47) hx hb (by omega) (by omega) dX4_dropLowest_24 (by decide) (fun c6 => ?_) (fun c6 => ?_)
    · refine lv_aload_n hx hb dX4_dropLowest_47 rfl (lv_at hl 0 rfl) ?_
      refine x_get hx hb hts iwX4_dropLowest_X4 hown hM 0 0 rfl rfl rfl 0 (by decide) (hts _ lkX4_dropLowest_9) (fun _ h => h) rfl dX4_dropLowest_48 ?_
      refine lv_aload_n hx hb dX4_dropLowest_51 rfl (lv_at hl 0 rfl) ?_
      refine x_get hx hb hts iwX4_dropLowest_X4 hown hM 0 0 rfl rfl rfl 0 (by decide) (hts _ lkX4_dropLowest_9) (fun _ h => h) rfl dX4_dropLowest_52 ?_
      refine x_alen hx hb hM 0 1 3 rfl rfl rfl dX4_dropLowest_55 ?_
      refine lv_iconst (v := nI 1) hx hb dX4_dropLowest_56 (by decide) ?_
      refine x_isub (x := n) (y := 1) hx hb (by omega) dX4_dropLowest_57 ?_
      refine lv_aload_n hx hb dX4_dropLowest_58 rfl (lv_at hl 1 rfl) ?_
      refine x_aast hx hb hM 0 1 3 (f := (xdrf ka i)) rfl rfl rfl (t := n - 1) (v := (ka 0) 0) 1 (5 * 0) rfl (wpl_at (by omega)) rfl (by omega) (by omega) [wpf q pd (va_up (xdrf ka i) (n - 1) (some ((ka 0) 0))) n (nI hn), wpl q ka K n] rfl dX4_dropLowest_59 (fun H locs hM => ?_)
      refine lv_aload_n hx hb dX4_dropLowest_60 rfl (lv_at hl 0 rfl) ?_
      refine lv_aload_n hx hb dX4_dropLowest_61 rfl (lv_at hl 0 rfl) ?_
      refine x_get hx hb hts iwX4_dropLowest_X4 hown hM 0 0 rfl rfl rfl 0 (by decide) (hts _ lkX4_dropLowest_9) (fun _ h => h) rfl dX4_dropLowest_62 ?_
      refine x_alen hx hb hM 0 1 3 rfl rfl rfl dX4_dropLowest_65 ?_
      refine lv_iconst (v := nI 1) hx hb dX4_dropLowest_66 (by decide) ?_
      refine x_isub (x := n) (y := 1) hx hb (by omega) dX4_dropLowest_67 ?_
      refine x_put hx hb hts iwX4_dropLowest_X4 tyX4 tyX4_ok nmX4 hown hM 0 0 rfl rfl rfl 1 (by decide) (hts _ lkX4_dropLowest_16) (fun _ h => h) rfl (ty := .int) (by decide +kernel) rfl rfl (Nat.le_of_ble_eq_true rfl) [wpf q pd (va_up (xdrf ka i) (n - 1) (some ((ka 0) 0))) n (nI (n - 1)), wpl q ka K n] rfl dX4_dropLowest_68 (fun H locs hM => ?_)
      have e7 : ((va_up (xdrf ka i) (n - 1) (some ((ka 0) 0))) : Nat → Option Nat) = ((fun y6 => some ((rotA n ka) y6 0))) := by (rw [show i = n by omega]; exact xdrf_e ka (by omega))
      have hM : xM D (TY q) [wpf q pd (fun y6 => some ((rotA n ka) y6 0)) n (nI (n - 1)), wpl q ka K n] A s.heap s H locs := Eq.mp (congrArg (fun z9 => xM D (TY q) [wpf q pd z9 n (nI (n - 1)), wpl q ka K n] A s.heap s H locs) e7) hM
      have hM : xM D (TY q) [wp q pd (rotA n ka) n (nI (n - 1)), wpl q ka K n] A s.heap s H locs := hM
      exact x_vret hx hb hr hlocks () hM trivial dX4_dropLowest_71
    · refine lv_aload_n hx hb dX4_dropLowest_27 rfl (lv_at hl 0 rfl) ?_
      refine x_get hx hb hts iwX4_dropLowest_X4 hown hM 0 0 rfl rfl rfl 0 (by decide) (hts _ lkX4_dropLowest_9) (fun _ h => h) rfl dX4_dropLowest_28 ?_
      refine lv_iload_n hx hb dX4_dropLowest_31 rfl (lv_at hl 2 rfl) ?_
      refine lv_iconst (v := nI 1) hx hb dX4_dropLowest_32 (by decide) ?_
      refine x_isub (x := i) (y := 1) hx hb (by omega) dX4_dropLowest_33 ?_
      refine lv_aload_n hx hb dX4_dropLowest_34 rfl (lv_at hl 0 rfl) ?_
      refine x_get hx hb hts iwX4_dropLowest_X4 hown hM 0 0 rfl rfl rfl 0 (by decide) (hts _ lkX4_dropLowest_9) (fun _ h => h) rfl dX4_dropLowest_35 ?_
      refine lv_iload_n hx hb dX4_dropLowest_38 rfl (lv_at hl 2 rfl) ?_
      refine x_aald hx hb hM 0 1 3 rfl rfl rfl (t := i) (v := (ka i) 0) (by omega) (by omega) (xdrf_g ka i) dX4_dropLowest_39 ?_
      refine x_aast hx hb hM 0 1 3 (f := (xdrf ka i)) rfl rfl rfl (t := i - 1) (v := (ka i) 0) 1 (5 * i) rfl (wpl_at (by omega)) rfl (by omega) (by omega) [wpf q pd (va_up (xdrf ka i) (i - 1) (some ((ka i) 0))) n (nI hn), wpl q ka K n] rfl dX4_dropLowest_40 (fun H locs hM => ?_)
      refine lv_iinc (v := nI (i + 1)) (lv' := [(2, .int (nI (i + 1))), (0, .ref (pd 0)), (1, .ref ((ka 0) 0))]) hx hb dX4_dropLowest_41 hl (k := 2) rfl (x_inc _ 1) (by decide) rfl (fun ls hl => ?_)
      refine lv_goto (tgt := 18) hx hb dX4_dropLowest_44 (by decide) ?_
      have e8 : ((va_up (xdrf ka i) (i - 1) (some ((ka i) 0))) : Nat → Option Nat) = ((xdrf ka (i + 1))) := by exact xdrf_s ka (by omega)
      have hM : xM D (TY q) [wpf q pd (xdrf ka (i + 1)) n (nI hn), wpl q ka K n] A s.heap s H locs := Eq.mp (congrArg (fun z9 => xM D (TY q) [wpf q pd z9 n (nI hn), wpl q ka K n] A s.heap s H locs) e8) hM
      have hl : lv_has ls 3 [(0, .ref (pd 0)), (1, .ref ((ka 0) 0)), (2, .int (nI (i + 1)))] := lv_sub hl [1, 2, 0] rfl
      exact ih4 (i + 1) (show n - (i + 1) < n - i from by omega) (show (1 ≤ (i + 1) ∧ (i + 1) ≤ n) from by omega) _ _ hM _ hl
  · exfalso; omega
