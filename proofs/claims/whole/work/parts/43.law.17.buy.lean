/-! own rows: a step of the law -/
set_option maxRecDepth 20000 in
theorem ggL_law_X8_buy : GoodIn wsL_law wsX8_buy := goodIn_r _ [892, 893, 42, 894, 895, 896, 897, 350, 204, 2, 205, 898, 899, 900, 41, 901, 902, 903, 904, 283, 905, 906, 907, 908, 871, 872, 873, 874, 875, 876, 1067, 1068, 1069, 1070, 1071, 1072, 1073, 1074, 1075, 1076, 1144, 1145, 1146, 1147, 1148, 1149] (by decide +kernel) (by decide +kernel)
set_option maxRecDepth 20000 in
theorem gL_law_X8_buy : GoodIn wsL_law (wsV RL 86 RX8 yX8_buy wsX8_buy) := goodIn_app (goodIn_of _ (by decide +kernel)) ggL_law_X8_buy
set_option maxRecDepth 20000 in
theorem ggL_law_X9_buy : GoodIn wsL_law wsX9_buy := goodIn_r _ [912, 851, 399, 881, 406, 913, 914, 915, 358, 359, 5, 360, 886, 887, 888] (by decide +kernel) (by decide +kernel)
set_option maxRecDepth 20000 in
theorem gL_law_X9_buy : GoodIn wsL_law (wsV RL 90 RX9 yX9_buy wsX9_buy) := goodIn_app (goodIn_of _ (by decide +kernel)) ggL_law_X9_buy
theorem dL_law_639 : decode cL_law 639 = .ok (.aload_n 1, 1) := by decide +kernel
theorem dL_law_640 : decode cL_law 640 = .ok (.aload_n 0, 1) := by decide +kernel
theorem dL_law_641 : decode cL_law 641 = .ok (.iload_n 3, 1) := by decide +kernel
theorem dL_law_642 : decode cL_law 642 = .ok (.iconst 1, 1) := by decide +kernel
theorem dL_law_643 : decode cL_law 643 = .ok (.iadd, 1) := by decide +kernel
theorem dL_law_644 : decode cL_law 644 = .ok (.iaload, 1) := by decide +kernel
theorem dL_law_645 : decode cL_law 645 = .ok (.aload_n 0, 1) := by decide +kernel
theorem dL_law_646 : decode cL_law 646 = .ok (.iload_n 3, 1) := by decide +kernel
theorem dL_law_647 : decode cL_law 647 = .ok (.iconst 2, 1) := by decide +kernel
theorem dL_law_648 : decode cL_law 648 = .ok (.iadd, 1) := by decide +kernel
theorem dL_law_649 : decode cL_law 649 = .ok (.iaload, 1) := by decide +kernel
theorem dL_law_650 : decode cL_law 650 = .ok (.aload_n 0, 1) := by decide +kernel
theorem dL_law_651 : decode cL_law 651 = .ok (.iload_n 3, 1) := by decide +kernel
theorem dL_law_652 : decode cL_law 652 = .ok (.iconst 3, 1) := by decide +kernel
theorem dL_law_653 : decode cL_law 653 = .ok (.iadd, 1) := by decide +kernel
theorem dL_law_654 : decode cL_law 654 = .ok (.iaload, 1) := by decide +kernel
theorem dL_law_655 : decode cL_law 655 = .ok (.aload_n 0, 1) := by decide +kernel
theorem dL_law_656 : decode cL_law 656 = .ok (.iload_n 3, 1) := by decide +kernel
theorem dL_law_657 : decode cL_law 657 = .ok (.iconst 4, 1) := by decide +kernel
theorem dL_law_658 : decode cL_law 658 = .ok (.iadd, 1) := by decide +kernel
theorem dL_law_659 : decode cL_law 659 = .ok (.iaload, 1) := by decide +kernel
theorem dL_law_660 : decode cL_law 660 = .ok (.aload_n 0, 1) := by decide +kernel
theorem dL_law_661 : decode cL_law 661 = .ok (.iload_n 3, 1) := by decide +kernel
theorem dL_law_662 : decode cL_law 662 = .ok (.iconst 5, 1) := by decide +kernel
theorem dL_law_663 : decode cL_law 663 = .ok (.iadd, 1) := by decide +kernel
theorem dL_law_664 : decode cL_law 664 = .ok (.iaload, 1) := by decide +kernel
theorem dL_law_665 : decode cL_law 665 = .ok (.invokevirtual 86, 3) := by decide +kernel
theorem dL_law_668 : decode cL_law 668 = .ok (.aload_n 2, 1) := by decide +kernel
theorem dL_law_669 : decode cL_law 669 = .ok (.aload_n 0, 1) := by decide +kernel
theorem dL_law_670 : decode cL_law 670 = .ok (.iload_n 3, 1) := by decide +kernel
theorem dL_law_671 : decode cL_law 671 = .ok (.iconst 1, 1) := by decide +kernel
theorem dL_law_672 : decode cL_law 672 = .ok (.iadd, 1) := by decide +kernel
theorem dL_law_673 : decode cL_law 673 = .ok (.iaload, 1) := by decide +kernel
theorem dL_law_674 : decode cL_law 674 = .ok (.aload_n 0, 1) := by decide +kernel
theorem dL_law_675 : decode cL_law 675 = .ok (.iload_n 3, 1) := by decide +kernel
theorem dL_law_676 : decode cL_law 676 = .ok (.iconst 2, 1) := by decide +kernel
theorem dL_law_677 : decode cL_law 677 = .ok (.iadd, 1) := by decide +kernel
theorem dL_law_678 : decode cL_law 678 = .ok (.iaload, 1) := by decide +kernel
theorem dL_law_679 : decode cL_law 679 = .ok (.aload_n 0, 1) := by decide +kernel
theorem dL_law_680 : decode cL_law 680 = .ok (.iload_n 3, 1) := by decide +kernel
theorem dL_law_681 : decode cL_law 681 = .ok (.iconst 3, 1) := by decide +kernel
theorem dL_law_682 : decode cL_law 682 = .ok (.iadd, 1) := by decide +kernel
theorem dL_law_683 : decode cL_law 683 = .ok (.iaload, 1) := by decide +kernel
theorem dL_law_684 : decode cL_law 684 = .ok (.aload_n 0, 1) := by decide +kernel
theorem dL_law_685 : decode cL_law 685 = .ok (.iload_n 3, 1) := by decide +kernel
theorem dL_law_686 : decode cL_law 686 = .ok (.iconst 4, 1) := by decide +kernel
theorem dL_law_687 : decode cL_law 687 = .ok (.iadd, 1) := by decide +kernel
theorem dL_law_688 : decode cL_law 688 = .ok (.iaload, 1) := by decide +kernel
theorem dL_law_689 : decode cL_law 689 = .ok (.aload_n 0, 1) := by decide +kernel
theorem dL_law_690 : decode cL_law 690 = .ok (.iload_n 3, 1) := by decide +kernel
theorem dL_law_691 : decode cL_law 691 = .ok (.iconst 5, 1) := by decide +kernel
theorem dL_law_692 : decode cL_law 692 = .ok (.iadd, 1) := by decide +kernel
theorem dL_law_693 : decode cL_law 693 = .ok (.iaload, 1) := by decide +kernel
theorem dL_law_694 : decode cL_law 694 = .ok (.invokevirtual 90, 3) := by decide +kernel
theorem dL_law_697 : decode cL_law 697 = .ok (.lcmp, 1) := by decide +kernel
theorem dL_law_698 : decode cL_law 698 = .ok (.ifCond .eq 176, 3) := by decide +kernel
theorem dL_law_701 : decode cL_law 701 = .ok (.iconst 0, 1) := by decide +kernel
theorem dL_law_702 : decode cL_law 702 = .ok (.ireturn, 1) := by decide +kernel
set_option maxHeartbeats 2000000 in
set_option maxRecDepth 100000 in
theorem st_buy {p : Program} {e : Env} {s : State} {m : MethodId} {below : List Frame} {meth : Method} {c : Code} {H : Heap} {locs : List Loc} {cells slots : Nat} {Q : State → Prop} {ls : Array Slot} {D : va_G} {q : Nat → ClassId} {A : Nat → Prop} (l : Launch) {b L i : Nat} {xs : Nat → Int32} {ad : Nat → Nat} {td : Nat → Nat} {ν0 : Nat → Int32} {ν1 : Nat → Int32} {ν2 : Int32} {ν3 : Int32} {sd : Nat → Nat} {X : Nat → Nat → Int32} {dd : Nat → Nat} {Y : Nat → Nat → Int32} {md : Nat → Nat} {μ0 : Nat → Int32} {μ1 : Nat → Int32} {μ2 : Int32} {rd : Nat → Nat} {ρ0 : Nat → Int32} {ρ1 : Nat → Int32} {ρ2 : Int32} {nd : Nat → Nat} {N : Nat → Int32} {ud : Nat → Nat} {ua : Nat → Nat → Nat} {U : Nat → Nat → Int32} {pd : Nat → Nat} {pa : Nat → Nat → Nat} {P : Nat → Nat → Int32} {hd : Nat → Nat} {τ0 : Int32} {τ1 : Int32} {τ2 : Int32} {τ3 : Int32} {fd : Nat → Nat} {F : Nat → Int32} {gd : Nat → Nat} {γ0 : Int32} {γ1 : Int64} {γ2 : Int32} {γ3 : Nat → Int32} {γ4 : Nat → Int32} {γ5 : Nat → Int32} {uh ph : Nat} {zd : Nat → Nat} {σ0 : Int32} {σ1 : Nat → Int32} {σ2 : Nat → Int32} {σ3 : Nat → Int32} {σ4 : Nat → Int32} {σ5 : Nat → Int32} {σ6 : Nat → Int32} {σ7 : Nat → Int32} {σ8 : Nat → Int32} {σ9 : Nat → Int32} {σ10 : Nat → Int32} {σ11 : Nat → Int32} {σ12 : Nat → Int32} {σ13 : Nat → Int32} {σ14 : Nat → Int32} {σ15 : Nat → Int32} {σ16 : Nat → Int32} {σ17 : Nat → Int32} {σ18 : Nat → Int32} {σ19 : Nat → Int32} {σ20 : Int32} {σ21 : Int32} {σ22 : Int32} {σ23 : Nat → Int32} {σ24 : Int32} {σ25 : Int32} {σ26 : Nat → Int32} {σ27 : Nat → Int32} {σ28 : Nat → Int32} {σ29 : Nat → Int32} {σ30 : Nat → Int32} {v : Nat} {a : Nat} {b9 : Nat} {x : Nat} {what : Nat} (hfix : CallFix p m c cL_law 4 s #[Value.ref b] wsL_law RL) (hroom : cells ≤ room_1.cells ∧ slots ≤ room_1.slots) (hX : va_X b L xs s s.heap) (hbl : b < s.heap.size) (hbA : ¬ A b) (hL9 : L ≤ 384) (hi9 : i + 6 ≤ L) (hl : lv_has ls 4 [(0, .ref b), (1, .ref (ad 0)), (2, .ref (zd 0)), (3, .int (nI i))]) (hM : xM D (TY q) [w8 q ad (td 0) (sd 0) (dd 0) (md 0) (rd 0) (nd 0) (ud 0) (pd 0) (hd 0) (gd 0), w2 q td ν0 ν1 ν2 ν3, wst q sd X, wst q dd Y, w3 q md μ0 μ1 μ2, w3 q rd ρ0 ρ1 ρ2, wk q nd N, wp q ud ua 8 (nI uh), wpl q ua U 8, wp q pd pa 2 (nI ph), wpl q pa P 2, w0 q hd τ0 τ1 τ2 τ3 (fd 0), wk q fd F, w6 q gd γ0 γ1 γ2 γ3 γ4 γ5, w9 q zd σ0 σ1 σ2 σ3 σ4 σ5 σ6 σ7 σ8 σ9 σ10 σ11 σ12 σ13 σ14 σ15 σ16 σ17 σ18 σ19 σ20 σ21 σ22 σ23 σ24 σ25 σ26 σ27 σ28 σ29 σ30] A s.heap s H locs) (hv_v : xs (i + 1) = nI v) (hv_a : xs (i + 2) = nI a) (hv_b9 : xs (i + 3) = nI b9) (hv_x : xs (i + 4) = nI x) (hv_what : xs (i + 5) = nI what) (hv9 : v ≤ 99) (ha9 : a ≤ 99) (hb9 : b9 ≤ 9) (hx9 : x ≤ 10) (hwhat9 : what ≤ 2) (hA : 0 ≤ (xbA v a b9 x).toInt) (r_hv9 : v ≤ 99) (r_ha9 : a ≤ 99) (r_hb9 : b9 ≤ 9) (r_hx9 : x ≤ 10) (r_hwh : what ≤ 2) (r_hA : 0 ≤ (xbA v a b9 x).toInt) (hret : (xbuy v a b9 x what : Int64) = xbuy v a b9 x what) (kk : ∀ (H : Heap) (locs : List Loc), xM D (TY q) [w8 q ad (td 0) (sd 0) (dd 0) (md 0) (rd 0) (nd 0) (ud 0) (pd 0) (hd 0) (gd 0), w2 q td ν0 ν1 ν2 ν3, wst q sd X, wst q dd Y, w3 q md μ0 μ1 μ2, w3 q rd ρ0 ρ1 ρ2, wk q nd N, wp q ud ua 8 (nI uh), wpl q ua U 8, wp q pd pa 2 (nI ph), wpl q pa P 2, w0 q hd τ0 τ1 τ2 τ3 (fd 0), wk q fd F, w6 q gd (xbR v a b9 x 11).2 (xbR v a b9 x 11).1 γ2 γ3 γ4 γ5, w9 q zd σ0 σ1 σ2 σ3 σ4 σ5 σ6 σ7 σ8 σ9 σ10 σ11 σ12 σ13 σ14 σ15 σ16 σ17 σ18 σ19 σ20 σ21 σ22 σ23 σ24 σ25 σ26 σ27 σ28 σ29 σ30] A s.heap s H locs → W p l e room_1 s m #[Value.ref b] below meth c H locs cells slots Q (F0 m 874 ls [])) : W p l e room_1 s m #[Value.ref b] below meth c H locs cells slots Q (F0 m 639 ls []) := by
  obtain ⟨hx, hb, hml, hown, hts⟩ := id hfix
  refine lv_aload_n hx hb dL_law_639 rfl (lv_at hl 1 rfl) ?_
  refine lv_aload_n hx hb dL_law_640 rfl (lv_at hl 0 rfl) ?_
  refine lv_iload_n hx hb dL_law_641 rfl (lv_at hl 3 rfl) ?_
  refine lv_iconst (v := nI 1) hx hb dL_law_642 (by decide) ?_
  refine x_iadd (x := i) (y := 1) hx hb dL_law_643 ?_
  refine va_sld hx hb hX hbl hbA hM.2.2.2.1 (i := nI (i + 1)) (vp_in_nI (by omega) (by omega)) dL_law_644 ?_
  refine x_cast (y := xs (i + 1)) (by rw [nI_clamp (by omega)]) ?_
  refine x_cast (y := nI v) hv_v ?_
  refine lv_aload_n hx hb dL_law_645 rfl (lv_at hl 0 rfl) ?_
  refine lv_iload_n hx hb dL_law_646 rfl (lv_at hl 3 rfl) ?_
  refine lv_iconst (v := nI 2) hx hb dL_law_647 (by decide) ?_
  refine x_iadd (x := i) (y := 2) hx hb dL_law_648 ?_
  refine va_sld hx hb hX hbl hbA hM.2.2.2.1 (i := nI (i + 2)) (vp_in_nI (by omega) (by omega)) dL_law_649 ?_
  refine x_cast (y := xs (i + 2)) (by rw [nI_clamp (by omega)]) ?_
  refine x_cast (y := nI a) hv_a ?_
  refine lv_aload_n hx hb dL_law_650 rfl (lv_at hl 0 rfl) ?_
  refine lv_iload_n hx hb dL_law_651 rfl (lv_at hl 3 rfl) ?_
  refine lv_iconst (v := nI 3) hx hb dL_law_652 (by decide) ?_
  refine x_iadd (x := i) (y := 3) hx hb dL_law_653 ?_
  refine va_sld hx hb hX hbl hbA hM.2.2.2.1 (i := nI (i + 3)) (vp_in_nI (by omega) (by omega)) dL_law_654 ?_
  refine x_cast (y := xs (i + 3)) (by rw [nI_clamp (by omega)]) ?_
  refine x_cast (y := nI b9) hv_b9 ?_
  refine lv_aload_n hx hb dL_law_655 rfl (lv_at hl 0 rfl) ?_
  refine lv_iload_n hx hb dL_law_656 rfl (lv_at hl 3 rfl) ?_
  refine lv_iconst (v := nI 4) hx hb dL_law_657 (by decide) ?_
  refine x_iadd (x := i) (y := 4) hx hb dL_law_658 ?_
  refine va_sld hx hb hX hbl hbA hM.2.2.2.1 (i := nI (i + 4)) (vp_in_nI (by omega) (by omega)) dL_law_659 ?_
  refine x_cast (y := xs (i + 4)) (by rw [nI_clamp (by omega)]) ?_
  refine x_cast (y := nI x) hv_x ?_
  refine lv_aload_n hx hb dL_law_660 rfl (lv_at hl 0 rfl) ?_
  refine lv_iload_n hx hb dL_law_661 rfl (lv_at hl 3 rfl) ?_
  refine lv_iconst (v := nI 5) hx hb dL_law_662 (by decide) ?_
  refine x_iadd (x := i) (y := 5) hx hb dL_law_663 ?_
  refine va_sld hx hb hX hbl hbA hM.2.2.2.1 (i := nI (i + 5)) (vp_in_nI (by omega) (by omega)) dL_law_664 ?_
  refine x_cast (y := xs (i + 5)) (by rw [nI_clamp (by omega)]) ?_
  refine x_cast (y := nI what) hv_what ?_
  refine x_calll (bc := [w8 q ad (td 0) (sd 0) (dd 0) (md 0) (rd 0) (nd 0) (ud 0) (pd 0) (hd 0) (gd 0), w6 q gd γ0 γ1 γ2 γ3 γ4 γ5]) (br := [w2 q td ν0 ν1 ν2 ν3, wst q sd X, wst q dd Y, w3 q md μ0 μ1 μ2, w3 q rd ρ0 ρ1 ρ2, wk q nd N, wp q ud ua 8 (nI uh), wpl q ua U 8, wp q pd pa 2 (nI ph), wpl q pa P 2, w0 q hd τ0 τ1 τ2 τ3 (fd 0), wk q fd F, w9 q zd σ0 σ1 σ2 σ3 σ4 σ5 σ6 σ7 σ8 σ9 σ10 σ11 σ12 σ13 σ14 σ15 σ16 σ17 σ18 σ19 σ20 σ21 σ22 σ23 σ24 σ25 σ26 σ27 σ28 σ29 σ30]) hM [0, 13] [1, 2, 3, 4, 5, 6, 7, 8, 9, 10, 11, 12, 14] rfl rfl rfl (by decide) (x_runV (As := [.int (nI v), .int (nI a), .int (nI b9), .int (nI x), .int (nI what)]) (rest := []) hfix (c_X8_buy l D q ad (td 0) (sd 0) (dd 0) (md 0) (rd 0) (nd 0) (ud 0) (pd 0) (hd 0) (gd 0) gd γ0 γ1 γ2 γ3 γ4 γ5 v a b9 x what hv9 ha9 hb9 hx9 hwhat9 hA) (cwV 5 hts gL_law_X8_buy rfl rfl rfl (by decide +kernel) ⟨Nat.le_of_ble_eq_true rfl, Nat.le_of_ble_eq_true rfl⟩) hM [0, 13] rfl rfl 0 0 rfl rfl rfl rfl rfl hl.1 rfl (Nat.le_of_ble_eq_true rfl) dL_law_665 hroom) (fun r u H locs hq hM => ?_)
  subst hq
  have hM : xM D (TY q) [w2 q td ν0 ν1 ν2 ν3, wst q sd X, wst q dd Y, w3 q md μ0 μ1 μ2, w3 q rd ρ0 ρ1 ρ2, wk q nd N, wp q ud ua 8 (nI uh), wpl q ua U 8, wp q pd pa 2 (nI ph), wpl q pa P 2, w0 q hd τ0 τ1 τ2 τ3 (fd 0), wk q fd F, w9 q zd σ0 σ1 σ2 σ3 σ4 σ5 σ6 σ7 σ8 σ9 σ10 σ11 σ12 σ13 σ14 σ15 σ16 σ17 σ18 σ19 σ20 σ21 σ22 σ23 σ24 σ25 σ26 σ27 σ28 σ29 σ30, w8 q ad (td 0) (sd 0) (dd 0) (md 0) (rd 0) (nd 0) (ud 0) (pd 0) (hd 0) (gd 0), w6 q gd (xbR v a b9 x 11).2 (xbR v a b9 x 11).1 γ2 γ3 γ4 γ5] A s.heap s H locs := hM
  have hM : xM D (TY q) [w8 q ad (td 0) (sd 0) (dd 0) (md 0) (rd 0) (nd 0) (ud 0) (pd 0) (hd 0) (gd 0), w2 q td ν0 ν1 ν2 ν3, wst q sd X, wst q dd Y, w3 q md μ0 μ1 μ2, w3 q rd ρ0 ρ1 ρ2, wk q nd N, wp q ud ua 8 (nI uh), wpl q ua U 8, wp q pd pa 2 (nI ph), wpl q pa P 2, w0 q hd τ0 τ1 τ2 τ3 (fd 0), wk q fd F, w6 q gd (xbR v a b9 x 11).2 (xbR v a b9 x 11).1 γ2 γ3 γ4 γ5, w9 q zd σ0 σ1 σ2 σ3 σ4 σ5 σ6 σ7 σ8 σ9 σ10 σ11 σ12 σ13 σ14 σ15 σ16 σ17 σ18 σ19 σ20 σ21 σ22 σ23 σ24 σ25 σ26 σ27 σ28 σ29 σ30] A s.heap s H locs := hM.sel [13, 0, 1, 2, 3, 4, 5, 6, 7, 8, 9, 10, 11, 14, 12] rfl rfl
  refine lv_aload_n hx hb dL_law_668 rfl (lv_at hl 2 rfl) ?_
  refine lv_aload_n hx hb dL_law_669 rfl (lv_at hl 0 rfl) ?_
  refine lv_iload_n hx hb dL_law_670 rfl (lv_at hl 3 rfl) ?_
  refine lv_iconst (v := nI 1) hx hb dL_law_671 (by decide) ?_
  refine x_iadd (x := i) (y := 1) hx hb dL_law_672 ?_
  refine va_sld hx hb hX hbl hbA hM.2.2.2.1 (i := nI (i + 1)) (vp_in_nI (by omega) (by omega)) dL_law_673 ?_
  refine x_cast (y := xs (i + 1)) (by rw [nI_clamp (by omega)]) ?_
  refine x_cast (y := nI v) hv_v ?_
  refine lv_aload_n hx hb dL_law_674 rfl (lv_at hl 0 rfl) ?_
  refine lv_iload_n hx hb dL_law_675 rfl (lv_at hl 3 rfl) ?_
  refine lv_iconst (v := nI 2) hx hb dL_law_676 (by decide) ?_
  refine x_iadd (x := i) (y := 2) hx hb dL_law_677 ?_
  refine va_sld hx hb hX hbl hbA hM.2.2.2.1 (i := nI (i + 2)) (vp_in_nI (by omega) (by omega)) dL_law_678 ?_
  refine x_cast (y := xs (i + 2)) (by rw [nI_clamp (by omega)]) ?_
  refine x_cast (y := nI a) hv_a ?_
  refine lv_aload_n hx hb dL_law_679 rfl (lv_at hl 0 rfl) ?_
  refine lv_iload_n hx hb dL_law_680 rfl (lv_at hl 3 rfl) ?_
  refine lv_iconst (v := nI 3) hx hb dL_law_681 (by decide) ?_
  refine x_iadd (x := i) (y := 3) hx hb dL_law_682 ?_
  refine va_sld hx hb hX hbl hbA hM.2.2.2.1 (i := nI (i + 3)) (vp_in_nI (by omega) (by omega)) dL_law_683 ?_
  refine x_cast (y := xs (i + 3)) (by rw [nI_clamp (by omega)]) ?_
  refine x_cast (y := nI b9) hv_b9 ?_
  refine lv_aload_n hx hb dL_law_684 rfl (lv_at hl 0 rfl) ?_
  refine lv_iload_n hx hb dL_law_685 rfl (lv_at hl 3 rfl) ?_
  refine lv_iconst (v := nI 4) hx hb dL_law_686 (by decide) ?_
  refine x_iadd (x := i) (y := 4) hx hb dL_law_687 ?_
  refine va_sld hx hb hX hbl hbA hM.2.2.2.1 (i := nI (i + 4)) (vp_in_nI (by omega) (by omega)) dL_law_688 ?_
  refine x_cast (y := xs (i + 4)) (by rw [nI_clamp (by omega)]) ?_
  refine x_cast (y := nI x) hv_x ?_
  refine lv_aload_n hx hb dL_law_689 rfl (lv_at hl 0 rfl) ?_
  refine lv_iload_n hx hb dL_law_690 rfl (lv_at hl 3 rfl) ?_
  refine lv_iconst (v := nI 5) hx hb dL_law_691 (by decide) ?_
  refine x_iadd (x := i) (y := 5) hx hb dL_law_692 ?_
  refine va_sld hx hb hX hbl hbA hM.2.2.2.1 (i := nI (i + 5)) (vp_in_nI (by omega) (by omega)) dL_law_693 ?_
  refine x_cast (y := xs (i + 5)) (by rw [nI_clamp (by omega)]) ?_
  refine x_cast (y := nI what) hv_what ?_
  refine x_calll (bc := [w9 q zd σ0 σ1 σ2 σ3 σ4 σ5 σ6 σ7 σ8 σ9 σ10 σ11 σ12 σ13 σ14 σ15 σ16 σ17 σ18 σ19 σ20 σ21 σ22 σ23 σ24 σ25 σ26 σ27 σ28 σ29 σ30]) (br := [w8 q ad (td 0) (sd 0) (dd 0) (md 0) (rd 0) (nd 0) (ud 0) (pd 0) (hd 0) (gd 0), w2 q td ν0 ν1 ν2 ν3, wst q sd X, wst q dd Y, w3 q md μ0 μ1 μ2, w3 q rd ρ0 ρ1 ρ2, wk q nd N, wp q ud ua 8 (nI uh), wpl q ua U 8, wp q pd pa 2 (nI ph), wpl q pa P 2, w0 q hd τ0 τ1 τ2 τ3 (fd 0), wk q fd F, w6 q gd (xbR v a b9 x 11).2 (xbR v a b9 x 11).1 γ2 γ3 γ4 γ5]) hM [14] [0, 1, 2, 3, 4, 5, 6, 7, 8, 9, 10, 11, 12, 13] rfl rfl rfl (by decide) (x_runV (As := [.int (nI v), .int (nI a), .int (nI b9), .int (nI x), .int (nI what)]) (rest := [.long (xbuy v a b9 x what)]) hfix (c_X9_buy l D q zd σ0 σ1 σ2 σ3 σ4 σ5 σ6 σ7 σ8 σ9 σ10 σ11 σ12 σ13 σ14 σ15 σ16 σ17 σ18 σ19 σ20 σ21 σ22 σ23 σ24 σ25 σ26 σ27 σ28 σ29 σ30 v a b9 x what r_hv9 r_ha9 r_hb9 r_hx9 r_hwh r_hA) (cwV 5 hts gL_law_X9_buy rfl rfl rfl (by decide +kernel) ⟨Nat.le_of_ble_eq_true rfl, Nat.le_of_ble_eq_true rfl⟩) hM [14] rfl rfl 14 0 rfl rfl rfl rfl rfl hl.1 rfl (Nat.le_of_ble_eq_true rfl) dL_law_694 hroom) (fun r u H locs hq hM => ?_)
  subst hq
  have hM : xM D (TY q) [w8 q ad (td 0) (sd 0) (dd 0) (md 0) (rd 0) (nd 0) (ud 0) (pd 0) (hd 0) (gd 0), w2 q td ν0 ν1 ν2 ν3, wst q sd X, wst q dd Y, w3 q md μ0 μ1 μ2, w3 q rd ρ0 ρ1 ρ2, wk q nd N, wp q ud ua 8 (nI uh), wpl q ua U 8, wp q pd pa 2 (nI ph), wpl q pa P 2, w0 q hd τ0 τ1 τ2 τ3 (fd 0), wk q fd F, w6 q gd (xbR v a b9 x 11).2 (xbR v a b9 x 11).1 γ2 γ3 γ4 γ5, w9 q zd σ0 σ1 σ2 σ3 σ4 σ5 σ6 σ7 σ8 σ9 σ10 σ11 σ12 σ13 σ14 σ15 σ16 σ17 σ18 σ19 σ20 σ21 σ22 σ23 σ24 σ25 σ26 σ27 σ28 σ29 σ30] A s.heap s H locs := hM
  refine x_lcmp_eq (tgt := 874) hx hb dL_law_697 dL_law_698 (by decide) (fun c1 => ?_) (fun c1 => absurd (hret) c1)
  exact kk _ _ hM
set_option maxHeartbeats 2000000 in
set_option maxRecDepth 100000 in
theorem st_buyB {p : Program} {e : Env} {s : State} {m : MethodId} {below : List Frame} {meth : Method} {c : Code} {H : Heap} {locs : List Loc} {cells slots : Nat} {Q : State → Prop} {ls : Array Slot} {D : va_G} {q : Nat → ClassId} {A : Nat → Prop} (l : Launch) {b L i : Nat} {xs : Nat → Int32} {ad : Nat → Nat} {td : Nat → Nat} {ν0 : Nat → Int32} {ν1 : Nat → Int32} {ν2 : Int32} {ν3 : Int32} {sd : Nat → Nat} {X : Nat → Nat → Int32} {dd : Nat → Nat} {Y : Nat → Nat → Int32} {md : Nat → Nat} {μ0 : Nat → Int32} {μ1 : Nat → Int32} {μ2 : Int32} {rd : Nat → Nat} {ρ0 : Nat → Int32} {ρ1 : Nat → Int32} {ρ2 : Int32} {nd : Nat → Nat} {N : Nat → Int32} {ud : Nat → Nat} {ua : Nat → Nat → Nat} {U : Nat → Nat → Int32} {pd : Nat → Nat} {pa : Nat → Nat → Nat} {P : Nat → Nat → Int32} {hd : Nat → Nat} {τ0 : Int32} {τ1 : Int32} {τ2 : Int32} {τ3 : Int32} {fd : Nat → Nat} {F : Nat → Int32} {gd : Nat → Nat} {γ0 : Int32} {γ1 : Int64} {γ2 : Int32} {γ3 : Nat → Int32} {γ4 : Nat → Int32} {γ5 : Nat → Int32} {uh ph : Nat} {zd : Nat → Nat} {σ0 : Int32} {σ1 : Nat → Int32} {σ2 : Nat → Int32} {σ3 : Nat → Int32} {σ4 : Nat → Int32} {σ5 : Nat → Int32} {σ6 : Nat → Int32} {σ7 : Nat → Int32} {σ8 : Nat → Int32} {σ9 : Nat → Int32} {σ10 : Nat → Int32} {σ11 : Nat → Int32} {σ12 : Nat → Int32} {σ13 : Nat → Int32} {σ14 : Nat → Int32} {σ15 : Nat → Int32} {σ16 : Nat → Int32} {σ17 : Nat → Int32} {σ18 : Nat → Int32} {σ19 : Nat → Int32} {σ20 : Int32} {σ21 : Int32} {σ22 : Int32} {σ23 : Nat → Int32} {σ24 : Int32} {σ25 : Int32} {σ26 : Nat → Int32} {σ27 : Nat → Int32} {σ28 : Nat → Int32} {σ29 : Nat → Int32} {σ30 : Nat → Int32} (hfix : CallFix p m c cL_law 4 s #[Value.ref b] wsL_law RL) (hroom : cells ≤ room_1.cells ∧ slots ≤ room_1.slots) (hX : va_X b L xs s s.heap) (hbl : b < s.heap.size) (hbA : ¬ A b) (hL9 : L ≤ 384) (hi9 : i + 6 ≤ L) (hl : lv_has ls 4 [(0, .ref b), (1, .ref (ad 0)), (2, .ref (zd 0)), (3, .int (nI i))]) (hM : xM D (TY q) [w8 q ad (td 0) (sd 0) (dd 0) (md 0) (rd 0) (nd 0) (ud 0) (pd 0) (hd 0) (gd 0), w2 q td ν0 ν1 ν2 ν3, wst q sd X, wst q dd Y, w3 q md μ0 μ1 μ2, w3 q rd ρ0 ρ1 ρ2, wk q nd N, wp q ud ua 8 (nI uh), wpl q ua U 8, wp q pd pa 2 (nI ph), wpl q pa P 2, w0 q hd τ0 τ1 τ2 τ3 (fd 0), wk q fd F, w6 q gd γ0 γ1 γ2 γ3 γ4 γ5, w9 q zd σ0 σ1 σ2 σ3 σ4 σ5 σ6 σ7 σ8 σ9 σ10 σ11 σ12 σ13 σ14 σ15 σ16 σ17 σ18 σ19 σ20 σ21 σ22 σ23 σ24 σ25 σ26 σ27 σ28 σ29 σ30] A s.heap s H locs) (hbad : ¬ (0 ≤ ((xs (i + 1)).toInt) ∧ ((xs (i + 1)).toInt) ≤ 99) ∨ ¬ (0 ≤ ((xs (i + 2)).toInt) ∧ ((xs (i + 2)).toInt) ≤ 99) ∨ ¬ (0 ≤ ((xs (i + 3)).toInt) ∧ ((xs (i + 3)).toInt) ≤ 9) ∨ ¬ (0 ≤ ((xs (i + 4)).toInt) ∧ ((xs (i + 4)).toInt) ≤ 10) ∨ ¬ (0 ≤ ((xs (i + 5)).toInt) ∧ ((xs (i + 5)).toInt) ≤ 2)) (r_hbad : ¬ (0 ≤ ((xs (i + 1)).toInt) ∧ ((xs (i + 1)).toInt) ≤ 99) ∨ ¬ (0 ≤ ((xs (i + 2)).toInt) ∧ ((xs (i + 2)).toInt) ≤ 99) ∨ ¬ (0 ≤ ((xs (i + 3)).toInt) ∧ ((xs (i + 3)).toInt) ≤ 9) ∨ ¬ (0 ≤ ((xs (i + 4)).toInt) ∧ ((xs (i + 4)).toInt) ≤ 10) ∨ ¬ (0 ≤ ((xs (i + 5)).toInt) ∧ ((xs (i + 5)).toInt) ≤ 2)) (hret : ((-1) : Int64) = (-1)) (kk : ∀ (H : Heap) (locs : List Loc), xM D (TY q) [w8 q ad (td 0) (sd 0) (dd 0) (md 0) (rd 0) (nd 0) (ud 0) (pd 0) (hd 0) (gd 0), w2 q td ν0 ν1 ν2 ν3, wst q sd X, wst q dd Y, w3 q md μ0 μ1 μ2, w3 q rd ρ0 ρ1 ρ2, wk q nd N, wp q ud ua 8 (nI uh), wpl q ua U 8, wp q pd pa 2 (nI ph), wpl q pa P 2, w0 q hd τ0 τ1 τ2 τ3 (fd 0), wk q fd F, w6 q gd γ0 γ1 γ2 γ3 γ4 γ5, w9 q zd σ0 σ1 σ2 σ3 σ4 σ5 σ6 σ7 σ8 σ9 σ10 σ11 σ12 σ13 σ14 σ15 σ16 σ17 σ18 σ19 σ20 σ21 σ22 σ23 σ24 σ25 σ26 σ27 σ28 σ29 σ30] A s.heap s H locs → W p l e room_1 s m #[Value.ref b] below meth c H locs cells slots Q (F0 m 874 ls [])) : W p l e room_1 s m #[Value.ref b] below meth c H locs cells slots Q (F0 m 639 ls []) := by
  obtain ⟨hx, hb, hml, hown, hts⟩ := id hfix
  refine lv_aload_n hx hb dL_law_639 rfl (lv_at hl 1 rfl) ?_
  refine lv_aload_n hx hb dL_law_640 rfl (lv_at hl 0 rfl) ?_
  refine lv_iload_n hx hb dL_law_641 rfl (lv_at hl 3 rfl) ?_
  refine lv_iconst (v := nI 1) hx hb dL_law_642 (by decide) ?_
  refine x_iadd (x := i) (y := 1) hx hb dL_law_643 ?_
  refine va_sld hx hb hX hbl hbA hM.2.2.2.1 (i := nI (i + 1)) (vp_in_nI (by omega) (by omega)) dL_law_644 ?_
  refine x_cast (y := xs (i + 1)) (by rw [nI_clamp (by omega)]) ?_
  refine lv_aload_n hx hb dL_law_645 rfl (lv_at hl 0 rfl) ?_
  refine lv_iload_n hx hb dL_law_646 rfl (lv_at hl 3 rfl) ?_
  refine lv_iconst (v := nI 2) hx hb dL_law_647 (by decide) ?_
  refine x_iadd (x := i) (y := 2) hx hb dL_law_648 ?_
  refine va_sld hx hb hX hbl hbA hM.2.2.2.1 (i := nI (i + 2)) (vp_in_nI (by omega) (by omega)) dL_law_649 ?_
  refine x_cast (y := xs (i + 2)) (by rw [nI_clamp (by omega)]) ?_
  refine lv_aload_n hx hb dL_law_650 rfl (lv_at hl 0 rfl) ?_
  refine lv_iload_n hx hb dL_law_651 rfl (lv_at hl 3 rfl) ?_
  refine lv_iconst (v := nI 3) hx hb dL_law_652 (by decide) ?_
  refine x_iadd (x := i) (y := 3) hx hb dL_law_653 ?_
  refine va_sld hx hb hX hbl hbA hM.2.2.2.1 (i := nI (i + 3)) (vp_in_nI (by omega) (by omega)) dL_law_654 ?_
  refine x_cast (y := xs (i + 3)) (by rw [nI_clamp (by omega)]) ?_
  refine lv_aload_n hx hb dL_law_655 rfl (lv_at hl 0 rfl) ?_
  refine lv_iload_n hx hb dL_law_656 rfl (lv_at hl 3 rfl) ?_
  refine lv_iconst (v := nI 4) hx hb dL_law_657 (by decide) ?_
  refine x_iadd (x := i) (y := 4) hx hb dL_law_658 ?_
  refine va_sld hx hb hX hbl hbA hM.2.2.2.1 (i := nI (i + 4)) (vp_in_nI (by omega) (by omega)) dL_law_659 ?_
  refine x_cast (y := xs (i + 4)) (by rw [nI_clamp (by omega)]) ?_
  refine lv_aload_n hx hb dL_law_660 rfl (lv_at hl 0 rfl) ?_
  refine lv_iload_n hx hb dL_law_661 rfl (lv_at hl 3 rfl) ?_
  refine lv_iconst (v := nI 5) hx hb dL_law_662 (by decide) ?_
  refine x_iadd (x := i) (y := 5) hx hb dL_law_663 ?_
  refine va_sld hx hb hX hbl hbA hM.2.2.2.1 (i := nI (i + 5)) (vp_in_nI (by omega) (by omega)) dL_law_664 ?_
  refine x_cast (y := xs (i + 5)) (by rw [nI_clamp (by omega)]) ?_
  refine x_calll (bc := [w8 q ad (td 0) (sd 0) (dd 0) (md 0) (rd 0) (nd 0) (ud 0) (pd 0) (hd 0) (gd 0)]) (br := [w2 q td ν0 ν1 ν2 ν3, wst q sd X, wst q dd Y, w3 q md μ0 μ1 μ2, w3 q rd ρ0 ρ1 ρ2, wk q nd N, wp q ud ua 8 (nI uh), wpl q ua U 8, wp q pd pa 2 (nI ph), wpl q pa P 2, w0 q hd τ0 τ1 τ2 τ3 (fd 0), wk q fd F, w6 q gd γ0 γ1 γ2 γ3 γ4 γ5, w9 q zd σ0 σ1 σ2 σ3 σ4 σ5 σ6 σ7 σ8 σ9 σ10 σ11 σ12 σ13 σ14 σ15 σ16 σ17 σ18 σ19 σ20 σ21 σ22 σ23 σ24 σ25 σ26 σ27 σ28 σ29 σ30]) hM [0] [1, 2, 3, 4, 5, 6, 7, 8, 9, 10, 11, 12, 13, 14] rfl rfl rfl (by decide) (x_runV (As := [.int (xs (i + 1)), .int (xs (i + 2)), .int (xs (i + 3)), .int (xs (i + 4)), .int (xs (i + 5))]) (rest := []) hfix (c_X8_buyB l D q ad (td 0) (sd 0) (dd 0) (md 0) (rd 0) (nd 0) (ud 0) (pd 0) (hd 0) (gd 0) (xs (i + 1)) ((xs (i + 1)).toInt) (xs (i + 2)) ((xs (i + 2)).toInt) (xs (i + 3)) ((xs (i + 3)).toInt) (xs (i + 4)) ((xs (i + 4)).toInt) (xs (i + 5)) ((xs (i + 5)).toInt) rfl rfl rfl rfl rfl hbad) (cwV 5 hts gL_law_X8_buy rfl rfl rfl (by decide +kernel) ⟨Nat.le_of_ble_eq_true rfl, Nat.le_of_ble_eq_true rfl⟩) hM [0] rfl rfl 0 0 rfl rfl rfl rfl rfl hl.1 rfl (Nat.le_of_ble_eq_true rfl) dL_law_665 hroom) (fun r u H locs hq hM => ?_)
  subst hq
  have hM : xM D (TY q) [w2 q td ν0 ν1 ν2 ν3, wst q sd X, wst q dd Y, w3 q md μ0 μ1 μ2, w3 q rd ρ0 ρ1 ρ2, wk q nd N, wp q ud ua 8 (nI uh), wpl q ua U 8, wp q pd pa 2 (nI ph), wpl q pa P 2, w0 q hd τ0 τ1 τ2 τ3 (fd 0), wk q fd F, w6 q gd γ0 γ1 γ2 γ3 γ4 γ5, w9 q zd σ0 σ1 σ2 σ3 σ4 σ5 σ6 σ7 σ8 σ9 σ10 σ11 σ12 σ13 σ14 σ15 σ16 σ17 σ18 σ19 σ20 σ21 σ22 σ23 σ24 σ25 σ26 σ27 σ28 σ29 σ30, w8 q ad (td 0) (sd 0) (dd 0) (md 0) (rd 0) (nd 0) (ud 0) (pd 0) (hd 0) (gd 0)] A s.heap s H locs := hM
  have hM : xM D (TY q) [w8 q ad (td 0) (sd 0) (dd 0) (md 0) (rd 0) (nd 0) (ud 0) (pd 0) (hd 0) (gd 0), w2 q td ν0 ν1 ν2 ν3, wst q sd X, wst q dd Y, w3 q md μ0 μ1 μ2, w3 q rd ρ0 ρ1 ρ2, wk q nd N, wp q ud ua 8 (nI uh), wpl q ua U 8, wp q pd pa 2 (nI ph), wpl q pa P 2, w0 q hd τ0 τ1 τ2 τ3 (fd 0), wk q fd F, w6 q gd γ0 γ1 γ2 γ3 γ4 γ5, w9 q zd σ0 σ1 σ2 σ3 σ4 σ5 σ6 σ7 σ8 σ9 σ10 σ11 σ12 σ13 σ14 σ15 σ16 σ17 σ18 σ19 σ20 σ21 σ22 σ23 σ24 σ25 σ26 σ27 σ28 σ29 σ30] A s.heap s H locs := hM.sel [14, 0, 1, 2, 3, 4, 5, 6, 7, 8, 9, 10, 11, 12, 13] rfl rfl
  refine lv_aload_n hx hb dL_law_668 rfl (lv_at hl 2 rfl) ?_
  refine lv_aload_n hx hb dL_law_669 rfl (lv_at hl 0 rfl) ?_
  refine lv_iload_n hx hb dL_law_670 rfl (lv_at hl 3 rfl) ?_
  refine lv_iconst (v := nI 1) hx hb dL_law_671 (by decide) ?_
  refine x_iadd (x := i) (y := 1) hx hb dL_law_672 ?_
  refine va_sld hx hb hX hbl hbA hM.2.2.2.1 (i := nI (i + 1)) (vp_in_nI (by omega) (by omega)) dL_law_673 ?_
  refine x_cast (y := xs (i + 1)) (by rw [nI_clamp (by omega)]) ?_
  refine lv_aload_n hx hb dL_law_674 rfl (lv_at hl 0 rfl) ?_
  refine lv_iload_n hx hb dL_law_675 rfl (lv_at hl 3 rfl) ?_
  refine lv_iconst (v := nI 2) hx hb dL_law_676 (by decide) ?_
  refine x_iadd (x := i) (y := 2) hx hb dL_law_677 ?_
  refine va_sld hx hb hX hbl hbA hM.2.2.2.1 (i := nI (i + 2)) (vp_in_nI (by omega) (by omega)) dL_law_678 ?_
  refine x_cast (y := xs (i + 2)) (by rw [nI_clamp (by omega)]) ?_
  refine lv_aload_n hx hb dL_law_679 rfl (lv_at hl 0 rfl) ?_
  refine lv_iload_n hx hb dL_law_680 rfl (lv_at hl 3 rfl) ?_
  refine lv_iconst (v := nI 3) hx hb dL_law_681 (by decide) ?_
  refine x_iadd (x := i) (y := 3) hx hb dL_law_682 ?_
  refine va_sld hx hb hX hbl hbA hM.2.2.2.1 (i := nI (i + 3)) (vp_in_nI (by omega) (by omega)) dL_law_683 ?_
  refine x_cast (y := xs (i + 3)) (by rw [nI_clamp (by omega)]) ?_
  refine lv_aload_n hx hb dL_law_684 rfl (lv_at hl 0 rfl) ?_
  refine lv_iload_n hx hb dL_law_685 rfl (lv_at hl 3 rfl) ?_
  refine lv_iconst (v := nI 4) hx hb dL_law_686 (by decide) ?_
  refine x_iadd (x := i) (y := 4) hx hb dL_law_687 ?_
  refine va_sld hx hb hX hbl hbA hM.2.2.2.1 (i := nI (i + 4)) (vp_in_nI (by omega) (by omega)) dL_law_688 ?_
  refine x_cast (y := xs (i + 4)) (by rw [nI_clamp (by omega)]) ?_
  refine lv_aload_n hx hb dL_law_689 rfl (lv_at hl 0 rfl) ?_
  refine lv_iload_n hx hb dL_law_690 rfl (lv_at hl 3 rfl) ?_
  refine lv_iconst (v := nI 5) hx hb dL_law_691 (by decide) ?_
  refine x_iadd (x := i) (y := 5) hx hb dL_law_692 ?_
  refine va_sld hx hb hX hbl hbA hM.2.2.2.1 (i := nI (i + 5)) (vp_in_nI (by omega) (by omega)) dL_law_693 ?_
  refine x_cast (y := xs (i + 5)) (by rw [nI_clamp (by omega)]) ?_
  refine x_calll (bc := [w9 q zd σ0 σ1 σ2 σ3 σ4 σ5 σ6 σ7 σ8 σ9 σ10 σ11 σ12 σ13 σ14 σ15 σ16 σ17 σ18 σ19 σ20 σ21 σ22 σ23 σ24 σ25 σ26 σ27 σ28 σ29 σ30]) (br := [w8 q ad (td 0) (sd 0) (dd 0) (md 0) (rd 0) (nd 0) (ud 0) (pd 0) (hd 0) (gd 0), w2 q td ν0 ν1 ν2 ν3, wst q sd X, wst q dd Y, w3 q md μ0 μ1 μ2, w3 q rd ρ0 ρ1 ρ2, wk q nd N, wp q ud ua 8 (nI uh), wpl q ua U 8, wp q pd pa 2 (nI ph), wpl q pa P 2, w0 q hd τ0 τ1 τ2 τ3 (fd 0), wk q fd F, w6 q gd γ0 γ1 γ2 γ3 γ4 γ5]) hM [14] [0, 1, 2, 3, 4, 5, 6, 7, 8, 9, 10, 11, 12, 13] rfl rfl rfl (by decide) (x_runV (As := [.int (xs (i + 1)), .int (xs (i + 2)), .int (xs (i + 3)), .int (xs (i + 4)), .int (xs (i + 5))]) (rest := [.long (-1)]) hfix (c_X9_buyB l D q zd σ0 σ1 σ2 σ3 σ4 σ5 σ6 σ7 σ8 σ9 σ10 σ11 σ12 σ13 σ14 σ15 σ16 σ17 σ18 σ19 σ20 σ21 σ22 σ23 σ24 σ25 σ26 σ27 σ28 σ29 σ30 (xs (i + 1)) ((xs (i + 1)).toInt) (xs (i + 2)) ((xs (i + 2)).toInt) (xs (i + 3)) ((xs (i + 3)).toInt) (xs (i + 4)) ((xs (i + 4)).toInt) (xs (i + 5)) ((xs (i + 5)).toInt) rfl rfl rfl rfl rfl r_hbad) (cwV 5 hts gL_law_X9_buy rfl rfl rfl (by decide +kernel) ⟨Nat.le_of_ble_eq_true rfl, Nat.le_of_ble_eq_true rfl⟩) hM [14] rfl rfl 14 0 rfl rfl rfl rfl rfl hl.1 rfl (Nat.le_of_ble_eq_true rfl) dL_law_694 hroom) (fun r u H locs hq hM => ?_)
  subst hq
  have hM : xM D (TY q) [w8 q ad (td 0) (sd 0) (dd 0) (md 0) (rd 0) (nd 0) (ud 0) (pd 0) (hd 0) (gd 0), w2 q td ν0 ν1 ν2 ν3, wst q sd X, wst q dd Y, w3 q md μ0 μ1 μ2, w3 q rd ρ0 ρ1 ρ2, wk q nd N, wp q ud ua 8 (nI uh), wpl q ua U 8, wp q pd pa 2 (nI ph), wpl q pa P 2, w0 q hd τ0 τ1 τ2 τ3 (fd 0), wk q fd F, w6 q gd γ0 γ1 γ2 γ3 γ4 γ5, w9 q zd σ0 σ1 σ2 σ3 σ4 σ5 σ6 σ7 σ8 σ9 σ10 σ11 σ12 σ13 σ14 σ15 σ16 σ17 σ18 σ19 σ20 σ21 σ22 σ23 σ24 σ25 σ26 σ27 σ28 σ29 σ30] A s.heap s H locs := hM
  refine x_lcmp_eq (tgt := 874) hx hb dL_law_697 dL_law_698 (by decide) (fun c1 => ?_) (fun c1 => absurd (hret) c1)
  exact kk _ _ hM
