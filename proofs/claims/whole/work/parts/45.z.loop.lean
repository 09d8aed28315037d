/-! own rows: the loop of the law -/
theorem dL_law_0 : decode cL_law 0 = .ok (.new 7, 3) := by decide +kernel
theorem dL_law_3 : decode cL_law 3 = .ok (.dup, 1) := by decide +kernel
theorem dL_law_4 : decode cL_law 4 = .ok (.invokespecial 9, 3) := by decide +kernel
theorem dL_law_7 : decode cL_law 7 = .ok (.astore_n 1, 1) := by decide +kernel
theorem dL_law_8 : decode cL_law 8 = .ok (.new 10, 3) := by decide +kernel
theorem dL_law_11 : decode cL_law 11 = .ok (.dup, 1) := by decide +kernel
theorem dL_law_12 : decode cL_law 12 = .ok (.invokespecial 12, 3) := by decide +kernel
theorem dL_law_15 : decode cL_law 15 = .ok (.astore_n 2, 1) := by decide +kernel
theorem dL_law_16 : decode cL_law 16 = .ok (.iconst 0, 1) := by decide +kernel
theorem dL_law_17 : decode cL_law 17 = .ok (.istore_n 3, 1) := by decide +kernel
theorem dL_law_18 : decode cL_law 18 = .ok (.iload_n 3, 1) := by decide +kernel
theorem dL_law_19 : decode cL_law 19 = .ok (.aload_n 0, 1) := by decide +kernel
theorem dL_law_20 : decode cL_law 20 = .ok (.arraylength, 1) := by decide +kernel
theorem dL_law_21 : decode cL_law 21 = .ok (.bipush 6, 2) := by decide +kernel
theorem dL_law_23 : decode cL_law 23 = .ok (.isub, 1) := by decide +kernel
theorem dL_law_24 : decode cL_law 24 = .ok (.if_icmp .gt 856, 3) := by decide +kernel
theorem dL_law_27 : decode cL_law 27 = .ok (.aload_n 0, 1) := by decide +kernel
theorem dL_law_28 : decode cL_law 28 = .ok (.iload_n 3, 1) := by decide +kernel
theorem dL_law_29 : decode cL_law 29 = .ok (.iaload, 1) := by decide +kernel
theorem dL_law_30 : decode cL_law 30 = .ok (.bipush 31, 2) := by decide +kernel
theorem dL_law_32 : decode cL_law 32 = .ok (.iand, 1) := by decide +kernel
theorem dL_law_33 : decode cL_law 33 = .ok (.tableswitch 841 0 24 #[115, 138, 151, 164, 177, 220, 253, 286, 309, 362, 405, 418, 441, 464, 487, 520, 563, 606, 670, 693, 726, 759, 792, 805, 818], 115) := by decide +kernel
theorem dL_law_874 : decode cL_law 874 = .ok (.iinc 3 6, 3) := by decide +kernel
theorem dL_law_877 : decode cL_law 877 = .ok (.goto (-859), 3) := by decide +kernel
theorem dL_law_880 : decode cL_law 880 = .ok (.iconst 1, 1) := by decide +kernel
theorem dL_law_881 : decode cL_law 881 = .ok (.ireturn, 1) := by decide +kernel
theorem LM_S {D : va_G} {q : Nat → ClassId} {A : Nat → Prop} {s : State} {ad zd : Nat → Nat} {H : Heap} {locs : List Loc} (hLM : LM D q A s ad zd H locs) : va_S A s.heap H locs := by
  obtain ⟨td, ν0, ν1, ν2, ν3, sd, X, dd, Y, md, μ0, μ1, μ2, rd, ρ0, ρ1, ρ2, nd, N, ud, ua, U, pd, pa, P, hd, τ0, τ1, τ2, τ3, fd, F, gd, γ0, γ1, γ2, γ3, γ4, γ5, uh, ph, σ0, σ1, σ2, σ3, σ4, σ5, σ6, σ7, σ8, σ9, σ10, σ11, σ12, σ13, σ14, σ15, σ16, σ17, σ18, σ19, σ20, σ21, σ22, σ23, σ24, σ25, σ26, σ27, σ28, σ29, σ30, -, hM⟩ := hLM
  exact hM.2.2.2.1
set_option maxHeartbeats 2000000 in
set_option maxRecDepth 100000 in
theorem lc_step {p : Program} {e : Env} {s : State} {m : MethodId} {below : List Frame} {meth : Method} {c : Code} {H : Heap} {locs : List Loc} {cells slots : Nat} {Q : State → Prop} {ls : Array Slot} {D : va_G} {q : Nat → ClassId} {A : Nat → Prop} (l : Launch) {b L i : Nat} {xs : Nat → Int32} {ad zd : Nat → Nat} (hfix : CallFix p m c cL_law 4 s #[Value.ref b] wsL_law RL) (hroom : cells ≤ room_1.cells ∧ slots ≤ room_1.slots) (hX : va_X b L xs s s.heap) (hbl : b < s.heap.size) (hbA : ¬ A b) (hL9 : L ≤ 384) (hl : lv_has ls 4 [(0, .ref b), (1, .ref (ad 0)), (2, .ref (zd 0)), (3, .int (nI i))]) (hLM : LM D q A s ad zd H locs) (hi7 : i ≤ L + 6) (kend : W p l e room_1 s m #[Value.ref b] below meth c H locs cells slots Q (F0 m 880 ls [])) (krec : i + 6 ≤ L → ∀ (H : Heap) (locs : List Loc) (ls : Array Slot), lv_has ls 4 [(0, .ref b), (1, .ref (ad 0)), (2, .ref (zd 0)), (3, .int (nI (i + 6)))] → LM D q A s ad zd H locs → W p l e room_1 s m #[Value.ref b] below meth c H locs cells slots Q (F0 m 18 ls [])) : W p l e room_1 s m #[Value.ref b] below meth c H locs cells slots Q (F0 m 18 ls []) := by
  obtain ⟨hx, hb, hml, hown, hts⟩ := id hfix
  have hS := LM_S hLM
  refine lv_iload_n hx hb dL_law_18 rfl (lv_at hl 3 rfl) ?_
  refine lv_aload_n hx hb dL_law_19 rfl (lv_at hl 0 rfl) ?_
  refine va_slen hx hb hX hbl hbA hS dL_law_20 ?_
  refine lv_bipush (v := nI 6) hx hb dL_law_21 (by decide) ?_
  refine lv_isub hx hb dL_law_23 ?_
  have e6 : (nI L - nI 6).toInt = (L : Int) - 6 := pk_sub_toInt (by omega) (by omega)
  have ei : (nI i).toInt = i := nI_toInt (by omega)
  refine lv_icmp_gt (tgt := 880) hx hb dL_law_24 (by decide) (fun c1 => ?_) (fun c1 => ?_)
  · exact kend
  · have hi9 : i + 6 ≤ L := by
      have c2 : ¬ (nI L - nI 6 < nI i) := c1
      rw [Int32.lt_iff_toInt_lt, e6, ei] at c2
      omega
    refine lv_aload_n hx hb dL_law_27 rfl (lv_at hl 0 rfl) ?_
    refine lv_iload_n hx hb dL_law_28 rfl (lv_at hl 3 rfl) ?_
    refine va_sld hx hb hX hbl hbA hS (i := nI i) (vp_in_nI (by omega) (by omega)) dL_law_29 ?_
    refine x_cast (y := xs i) (by rw [nI_clamp (by omega)]) ?_
    refine lv_bipush (v := nI 31) hx hb dL_law_30 (by decide) ?_
    refine lv_iand hx hb dL_law_32 ?_
    have kk : ∀ (H : Heap) (locs : List Loc), LM D q A s ad zd H locs → W p l e room_1 s m #[Value.ref b] below meth c H locs cells slots Q (F0 m 874 ls []) := by
      intro H locs h
      refine lv_iinc (v := nI (i + 6)) (lv' := [(3, .int (nI (i + 6))), (0, .ref b), (1, .ref (ad 0)), (2, .ref (zd 0))]) hx hb dL_law_874 hl (k := 3) rfl (x_inc _ 6) (by decide) rfl (fun ls hl => ?_)
      refine lv_goto (tgt := 18) hx hb dL_law_877 (by decide) ?_
      exact krec hi9 _ _ _ (lv_sub hl [1, 2, 3, 0] rfl) h
    generalize hv : (xs i &&& nI 31) = v
    by_cases c100 : v = nI 0
    · rw [c100]
      refine lv_tableIn (off := 115) (tgt := 148) hx hb dL_law_33 (by decide) (by decide) (by decide +kernel) (by decide) ?_
      exact lc_write l hfix hroom hX hbl hbA hL9 hi9 hl hLM kk
    by_cases c101 : v = nI 1
    · rw [c101]
      refine lv_tableIn (off := 138) (tgt := 171) hx hb dL_law_33 (by decide) (by decide) (by decide +kernel) (by decide) ?_
      exact lc_wipe l hfix hroom hX hbl hbA hL9 hi9 hl hLM kk
    by_cases c102 : v = nI 2
    · rw [c102]
      refine lv_tableIn (off := 151) (tgt := 184) hx hb dL_law_33 (by decide) (by decide) (by decide +kernel) (by decide) ?_
      exact lc_fault l hfix hroom hX hbl hbA hL9 hi9 hl hLM kk
    by_cases c103 : v = nI 3
    · rw [c103]
      refine lv_tableIn (off := 164) (tgt := 197) hx hb dL_law_33 (by decide) (by decide) (by decide +kernel) (by decide) ?_
      exact lc_lay l hfix hroom hX hbl hbA hL9 hi9 hl hLM kk
    by_cases c104 : v = nI 4
    · rw [c104]
      refine lv_tableIn (off := 177) (tgt := 210) hx hb dL_law_33 (by decide) (by decide) (by decide +kernel) (by decide) ?_
      exact lc_house l hfix hroom hX hbl hbA hL9 hi9 hl hLM kk
    by_cases c105 : v = nI 5
    · rw [c105]
      refine lv_tableIn (off := 220) (tgt := 253) hx hb dL_law_33 (by decide) (by decide) (by decide +kernel) (by decide) ?_
      exact lc_eater l hfix hroom hX hbl hbA hL9 hi9 hl hLM kk
    by_cases c106 : v = nI 6
    · rw [c106]
      refine lv_tableIn (off := 253) (tgt := 286) hx hb dL_law_33 (by decide) (by decide) (by decide +kernel) (by decide) ?_
      exact lc_way l hfix hroom hX hbl hbA hL9 hi9 hl hLM kk
    by_cases c107 : v = nI 7
    · rw [c107]
      refine lv_tableIn (off := 286) (tgt := 319) hx hb dL_law_33 (by decide) (by decide) (by decide +kernel) (by decide) ?_
      exact lc_pass l hfix hroom hX hbl hbA hL9 hi9 hl hLM kk
    by_cases c108 : v = nI 8
    · rw [c108]
      refine lv_tableIn (off := 309) (tgt := 342) hx hb dL_law_33 (by decide) (by decide) (by decide +kernel) (by decide) ?_
      exact lc_give l hfix hroom hX hbl hbA hL9 hi9 hl hLM kk
    by_cases c109 : v = nI 9
    · rw [c109]
      refine lv_tableIn (off := 362) (tgt := 395) hx hb dL_law_33 (by decide) (by decide) (by decide +kernel) (by decide) ?_
      exact lc_toss l hfix hroom hX hbl hbA hL9 hi9 hl hLM kk
    by_cases c110 : v = nI 10
    · rw [c110]
      refine lv_tableIn (off := 405) (tgt := 438) hx hb dL_law_33 (by decide) (by decide) (by decide +kernel) (by decide) ?_
      exact lc_undo l hfix hroom hX hbl hbA hL9 hi9 hl hLM kk
    by_cases c111 : v = nI 11
    · rw [c111]
      refine lv_tableIn (off := 418) (tgt := 451) hx hb dL_law_33 (by decide) (by decide) (by decide +kernel) (by decide) ?_
      exact lc_taken l hfix hroom hX hbl hbA hL9 hi9 hl hLM kk
    by_cases c112 : v = nI 12
    · rw [c112]
      refine lv_tableIn (off := 441) (tgt := 474) hx hb dL_law_33 (by decide) (by decide) (by decide +kernel) (by decide) ?_
      exact lc_first l hfix hroom hX hbl hbA hL9 hi9 hl hLM kk
    by_cases c113 : v = nI 13
    · rw [c113]
      refine lv_tableIn (off := 464) (tgt := 497) hx hb dL_law_33 (by decide) (by decide) (by decide +kernel) (by decide) ?_
      exact lc_gift l hfix hroom hX hbl hbA hL9 hi9 hl hLM kk
    by_cases c114 : v = nI 14
    · rw [c114]
      refine lv_tableIn (off := 487) (tgt := 520) hx hb dL_law_33 (by decide) (by decide) (by decide +kernel) (by decide) ?_
      exact lc_carried l hfix hroom hX hbl hbA hL9 hi9 hl hLM kk
    by_cases c115 : v = nI 15
    · rw [c115]
      refine lv_tableIn (off := 520) (tgt := 553) hx hb dL_law_33 (by decide) (by decide) (by decide +kernel) (by decide) ?_
      exact lc_round l hfix hroom hX hbl hbA hL9 hi9 hl hLM kk
    by_cases c116 : v = nI 16
    · rw [c116]
      refine lv_tableIn (off := 563) (tgt := 596) hx hb dL_law_33 (by decide) (by decide) (by decide +kernel) (by decide) ?_
      exact lc_bake l hfix hroom hX hbl hbA hL9 hi9 hl hLM kk
    by_cases c117 : v = nI 17
    · rw [c117]
      refine lv_tableIn (off := 606) (tgt := 639) hx hb dL_law_33 (by decide) (by decide) (by decide +kernel) (by decide) ?_
      exact lc_buy l hfix hroom hX hbl hbA hL9 hi9 hl hLM kk
    by_cases c118 : v = nI 18
    · rw [c118]
      refine lv_tableIn (off := 670) (tgt := 703) hx hb dL_law_33 (by decide) (by decide) (by decide +kernel) (by decide) ?_
      exact lc_soup l hfix hroom hX hbl hbA hL9 hi9 hl hLM kk
    by_cases c119 : v = nI 19
    · rw [c119]
      refine lv_tableIn (off := 693) (tgt := 726) hx hb dL_law_33 (by decide) (by decide) (by decide +kernel) (by decide) ?_
      exact lc_gave l hfix hroom hX hbl hbA hL9 hi9 hl hLM kk
    by_cases c120 : v = nI 20
    · rw [c120]
      refine lv_tableIn (off := 726) (tgt := 759) hx hb dL_law_33 (by decide) (by decide) (by decide +kernel) (by decide) ?_
      exact lc_pea l hfix hroom hX hbl hbA hL9 hi9 hl hLM kk
    by_cases c121 : v = nI 21
    · rw [c121]
      refine lv_tableIn (off := 759) (tgt := 792) hx hb dL_law_33 (by decide) (by decide) (by decide +kernel) (by decide) ?_
      exact lc_evening l hfix hroom hX hbl hbA hL9 hi9 hl hLM kk
    by_cases c122 : v = nI 22
    · rw [c122]
      refine lv_tableIn (off := 792) (tgt := 825) hx hb dL_law_33 (by decide) (by decide) (by decide +kernel) (by decide) ?_
      exact lc_keep l hfix hroom hX hbl hbA hL9 hi9 hl hLM kk
    by_cases c123 : v = nI 23
    · rw [c123]
      refine lv_tableIn (off := 805) (tgt := 838) hx hb dL_law_33 (by decide) (by decide) (by decide +kernel) (by decide) ?_
      exact lc_back l hfix hroom hX hbl hbA hL9 hi9 hl hLM kk
    by_cases c124 : v = nI 24
    · rw [c124]
      refine lv_tableIn (off := 818) (tgt := 851) hx hb dL_law_33 (by decide) (by decide) (by decide +kernel) (by decide) ?_
      exact lc_count l hfix hroom hX hbl hbA hL9 hi9 hl hLM kk
    refine lv_tableOut (tgt := 874) hx hb dL_law_33 ?_ (by decide) ?_
    · by_cases q0 : v.toInt < 0
      · exact Or.inl q0
      · refine Or.inr ?_
        obtain ⟨k, k1, k2⟩ := i_nat (x := v) (by omega)
        rw [k2]
        have hk : ¬ k ≤ 24 := by
          intro hk
          have : k = 0 ∨ k = 1 ∨ k = 2 ∨ k = 3 ∨ k = 4 ∨ k = 5 ∨ k = 6 ∨ k = 7 ∨ k = 8 ∨ k = 9 ∨ k = 10 ∨ k = 11 ∨ k = 12 ∨ k = 13 ∨ k = 14 ∨ k = 15 ∨ k = 16 ∨ k = 17 ∨ k = 18 ∨ k = 19 ∨ k = 20 ∨ k = 21 ∨ k = 22 ∨ k = 23 ∨ k = 24 := by omega
          rcases this with rfl | rfl | rfl | rfl | rfl | rfl | rfl | rfl | rfl | rfl | rfl | rfl | rfl | rfl | rfl | rfl | rfl | rfl | rfl | rfl | rfl | rfl | rfl | rfl | rfl <;> exact absurd k1 (by assumption)
        omega
    · exact kk _ _ hLM
theorem lc_loop {p : Program} {e : Env} {s : State} {m : MethodId} {below : List Frame} {meth : Method} {c : Code} {cells slots : Nat} {Q : State → Prop} {D : va_G} {q : Nat → ClassId} {A : Nat → Prop} (l : Launch) {b L : Nat} {xs : Nat → Int32} {ad zd : Nat → Nat} (hfix : CallFix p m c cL_law 4 s #[Value.ref b] wsL_law RL) (hroom : cells ≤ room_1.cells ∧ slots ≤ room_1.slots) (hX : va_X b L xs s s.heap) (hbl : b < s.heap.size) (hbA : ¬ A b) (hL9 : L ≤ 384) (kend : ∀ (H : Heap) (locs : List Loc) (ls : Array Slot), LM D q A s ad zd H locs → W p l e room_1 s m #[Value.ref b] below meth c H locs cells slots Q (F0 m 880 ls [])) : ∀ (n i : Nat) (H : Heap) (locs : List Loc) (ls : Array Slot), L + 6 ≤ i + n → i ≤ L + 6 → lv_has ls 4 [(0, .ref b), (1, .ref (ad 0)), (2, .ref (zd 0)), (3, .int (nI i))] → LM D q A s ad zd H locs → W p l e room_1 s m #[Value.ref b] below meth c H locs cells slots Q (F0 m 18 ls [])
  | 0, i, H, locs, ls, h1, h2, hl, h => lc_step l hfix hroom hX hbl hbA hL9 hl h h2 (kend _ _ _ h) (fun h3 => by omega)
  | n + 1, i, H, locs, ls, h1, h2, hl, h => lc_step l hfix hroom hX hbl hbA hL9 hl h h2 (kend _ _ _ h) (fun h3 H locs ls hl h => lc_loop l hfix hroom hX hbl hbA hL9 kend n (i + 6) H locs ls (by omega) (by omega) hl h)
