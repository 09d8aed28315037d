/-! own rows: a step of the law -/
set_option maxRecDepth 20000 in
theorem ggL_law_X8_round : GoodIn wsL_law wsX8_round := goodIn_r _ [832, 38, 19, 29, 24, 833, 834, 350, 204, 2, 205, 448, 449, 450, 37, 451, 86, 452, 453, 454, 28, 455, 272, 273, 72, 73, 74, 75, 456, 279, 169, 280, 281, 282, 283, 284, 285, 286, 287, 288, 457, 458, 459, 460, 461, 462, 463, 464, 465, 466, 467, 468, 469, 470, 471, 472, 438, 198, 199, 473, 474, 475, 476, 437, 224, 18, 225, 477, 478, 479, 480, 481, 482, 483, 484, 191, 192, 485, 486, 487, 488, 489, 490, 491, 492, 493, 494, 54, 197, 443, 434, 435, 436, 495, 496, 497, 23, 498, 67, 499, 500, 501, 502, 503, 68, 504, 505, 506, 507, 508, 509, 510, 511, 57, 835, 836, 837, 838, 839, 840, 780, 841, 665, 666, 667, 55, 842, 843, 844, 845, 803, 846, 724, 725, 726, 727, 728, 729, 730, 53, 731, 440, 441, 442, 444, 445, 446, 447, 1067, 1068, 1069, 1070, 1071, 1072, 1073, 1074, 1075, 1076, 1139, 1140, 1141, 1142, 1143, 1131, 1132, 1133, 1134, 1135, 1136, 1112, 1113, 1114, 1115, 1116, 1117, 1118, 1119, 1120, 1121, 1122, 1123, 1124, 1125, 1126, 1127, 1128, 1129, 1130] (by decide +kernel) (by decide +kernel)
set_option maxRecDepth 20000 in
theorem gL_law_X8_round : GoodIn wsL_law (wsV RL 78 RX8 yX8_round wsX8_round) := goodIn_app (goodIn_of _ (by decide +kernel)) ggL_law_X8_round
set_option maxRecDepth 20000 in
theorem ggL_law_X9_round : GoodIn wsL_law wsX9_round := goodIn_r _ [850, 640, 851, 307, 308, 358, 359, 5, 360, 524, 525, 526, 527, 528, 529, 530, 531, 321, 532, 533, 534, 535, 536, 537, 538, 539, 540, 541, 542, 543, 544, 545, 310, 546, 547, 548, 549, 550, 551, 552, 553, 554, 555, 556, 557, 558, 559, 560, 561, 562, 563, 564, 565, 304, 306, 566, 567, 568, 569, 570, 571, 572, 573, 313, 574, 575, 576, 577, 578, 579, 580, 581, 311, 312, 741, 742, 743, 744, 305, 582, 583, 584, 585, 586, 587, 588, 589, 1077, 1078, 1079, 1080, 1081, 1082, 1083, 1084, 1085, 1086, 1087, 1088, 1089, 1090, 1091, 1092, 1093, 1094, 1095, 1096, 1097, 1098, 1099, 1100, 1101, 1102, 1103, 1104, 1105, 1106, 1107] (by decide +kernel) (by decide +kernel)
set_option maxRecDepth 20000 in
theorem gL_law_X9_round : GoodIn wsL_law (wsV RL 81 RX9 yX9_round wsX9_round) := goodIn_app (goodIn_of _ (by decide +kernel)) ggL_law_X9_round
theorem dL_law_553 : decode cL_law 553 = .ok (.aload_n 1, 1) := by decide +kernel
theorem dL_law_554 : decode cL_law 554 = .ok (.aload_n 0, 1) := by decide +kernel
theorem dL_law_555 : decode cL_law 555 = .ok (.iload_n 3, 1) := by decide +kernel
theorem dL_law_556 : decode cL_law 556 = .ok (.iconst 1, 1) := by decide +kernel
theorem dL_law_557 : decode cL_law 557 = .ok (.iadd, 1) := by decide +kernel
theorem dL_law_558 : decode cL_law 558 = .ok (.iaload, 1) := by decide +kernel
theorem dL_law_559 : decode cL_law 559 = .ok (.aload_n 0, 1) := by decide +kernel
theorem dL_law_560 : decode cL_law 560 = .ok (.iload_n 3, 1) := by decide +kernel
theorem dL_law_561 : decode cL_law 561 = .ok (.iconst 2, 1) := by decide +kernel
theorem dL_law_562 : decode cL_law 562 = .ok (.iadd, 1) := by decide +kernel
theorem dL_law_563 : decode cL_law 563 = .ok (.iaload, 1) := by decide +kernel
theorem dL_law_564 : decode cL_law 564 = .ok (.aload_n 0, 1) := by decide +kernel
theorem dL_law_565 : decode cL_law 565 = .ok (.iload_n 3, 1) := by decide +kernel
theorem dL_law_566 : decode cL_law 566 = .ok (.iconst 3, 1) := by decide +kernel
theorem dL_law_567 : decode cL_law 567 = .ok (.iadd, 1) := by decide +kernel
theorem dL_law_568 : decode cL_law 568 = .ok (.iaload, 1) := by decide +kernel
theorem dL_law_569 : decode cL_law 569 = .ok (.invokevirtual 78, 3) := by decide +kernel
theorem dL_law_572 : decode cL_law 572 = .ok (.aload_n 2, 1) := by decide +kernel
theorem dL_law_573 : decode cL_law 573 = .ok (.aload_n 0, 1) := by decide +kernel
theorem dL_law_574 : decode cL_law 574 = .ok (.iload_n 3, 1) := by decide +kernel
theorem dL_law_575 : decode cL_law 575 = .ok (.iconst 1, 1) := by decide +kernel
theorem dL_law_576 : decode cL_law 576 = .ok (.iadd, 1) := by decide +kernel
theorem dL_law_577 : decode cL_law 577 = .ok (.iaload, 1) := by decide +kernel
theorem dL_law_578 : decode cL_law 578 = .ok (.aload_n 0, 1) := by decide +kernel
theorem dL_law_579 : decode cL_law 579 = .ok (.iload_n 3, 1) := by decide +kernel
theorem dL_law_580 : decode cL_law 580 = .ok (.iconst 2, 1) := by decide +kernel
theorem dL_law_581 : decode cL_law 581 = .ok (.iadd, 1) := by decide +kernel
theorem dL_law_582 : decode cL_law 582 = .ok (.iaload, 1) := by decide +kernel
theorem dL_law_583 : decode cL_law 583 = .ok (.aload_n 0, 1) := by decide +kernel
theorem dL_law_584 : decode cL_law 584 = .ok (.iload_n 3, 1) := by decide +kernel
theorem dL_law_585 : decode cL_law 585 = .ok (.iconst 3, 1) := by decide +kernel
theorem dL_law_586 : decode cL_law 586 = .ok (.iadd, 1) := by decide +kernel
theorem dL_law_587 : decode cL_law 587 = .ok (.iaload, 1) := by decide +kernel
theorem dL_law_588 : decode cL_law 588 = .ok (.invokevirtual 81, 3) := by decide +kernel
theorem dL_law_591 : decode cL_law 591 = .ok (.if_icmp .eq 283, 3) := by decide +kernel
theorem dL_law_594 : decode cL_law 594 = .ok (.iconst 0, 1) := by decide +kernel
theorem dL_law_595 : decode cL_law 595 = .ok (.ireturn, 1) := by decide +kernel
set_option maxHeartbeats 2000000 in
set_option maxRecDepth 100000 in
theorem st_round {p : Program} {e : Env} {s : State} {m : MethodId} {below : List Frame} {meth : Method} {c : Code} {H : Heap} {locs : List Loc} {cells slots : Nat} {Q : State → Prop} {ls : Array Slot} {D : va_G} {q : Nat → ClassId} {A : Nat → Prop} (l : Launch) {b L i : Nat} {xs : Nat → Int32} {ad : Nat → Nat} {td : Nat → Nat} {ν0 : Nat → Int32} {ν1 : Nat → Int32} {ν2 : Int32} {ν3 : Int32} {sd : Nat → Nat} {X : Nat → Nat → Int32} {dd : Nat → Nat} {Y : Nat → Nat → Int32} {md : Nat → Nat} {μ0 : Nat → Int32} {μ1 : Nat → Int32} {μ2 : Int32} {rd : Nat → Nat} {ρ0 : Nat → Int32} {ρ1 : Nat → Int32} {ρ2 : Int32} {nd : Nat → Nat} {N : Nat → Int32} {ud : Nat → Nat} {ua : Nat → Nat → Nat} {U : Nat → Nat → Int32} {pd : Nat → Nat} {pa : Nat → Nat → Nat} {P : Nat → Nat → Int32} {hd : Nat → Nat} {τ0 : Int32} {τ1 : Int32} {τ2 : Int32} {τ3 : Int32} {fd : Nat → Nat} {F : Nat → Int32} {gd : Nat → Nat} {γ0 : Int32} {γ1 : Int64} {γ2 : Int32} {γ3 : Nat → Int32} {γ4 : Nat → Int32} {γ5 : Nat → Int32} {uh ph : Nat} {zd : Nat → Nat} {σ0 : Int32} {σ1 : Nat → Int32} {σ2 : Nat → Int32} {σ3 : Nat → Int32} {σ4 : Nat → Int32} {σ5 : Nat → Int32} {σ6 : Nat → Int32} {σ7 : Nat → Int32} {σ8 : Nat → Int32} {σ9 : Nat → Int32} {σ10 : Nat → Int32} {σ11 : Nat → Int32} {σ12 : Nat → Int32} {σ13 : Nat → Int32} {σ14 : Nat → Int32} {σ15 : Nat → Int32} {σ16 : Nat → Int32} {σ17 : Nat → Int32} {σ18 : Nat → Int32} {σ19 : Nat → Int32} {σ20 : Int32} {σ21 : Int32} {σ22 : Int32} {σ23 : Nat → Int32} {σ24 : Int32} {σ25 : Int32} {σ26 : Nat → Int32} {σ27 : Nat → Int32} {σ28 : Nat → Int32} {σ29 : Nat → Int32} {σ30 : Nat → Int32} {x : Nat} {mm : Nat} {what : Nat} {S : Nat → Nat → Int32} (hfix : CallFix p m c cL_law 4 s #[Value.ref b] wsL_law RL) (hroom : cells ≤ room_1.cells ∧ slots ≤ room_1.slots) (hX : va_X b L xs s s.heap) (hbl : b < s.heap.size) (hbA : ¬ A b) (hL9 : L ≤ 384) (hi9 : i + 6 ≤ L) (hl : lv_has ls 4 [(0, .ref b), (1, .ref (ad 0)), (2, .ref (zd 0)), (3, .int (nI i))]) (hM : xM D (TY q) [w8 q ad (td 0) (sd 0) (dd 0) (md 0) (rd 0) (nd 0) (ud 0) (pd 0) (hd 0) (gd 0), w2 q td ν0 ν1 ν2 ν3, wst q sd X, wst q dd Y, w3 q md μ0 μ1 μ2, w3 q rd ρ0 ρ1 ρ2, wk q nd N, wp q ud ua 8 (nI uh), wpl q ua U 8, wp q pd pa 2 (nI ph), wpl q pa P 2, w0 q hd τ0 τ1 τ2 τ3 (fd 0), wk q fd F, w6 q gd γ0 γ1 γ2 γ3 γ4 γ5, w9 q zd σ0 σ1 σ2 σ3 σ4 σ5 σ6 σ7 σ8 σ9 σ10 σ11 σ12 σ13 σ14 σ15 σ16 σ17 σ18 σ19 σ20 σ21 σ22 σ23 σ24 σ25 σ26 σ27 σ28 σ29 σ30] A s.heap s H locs) (hv_x : xs (i + 1) = nI x) (hv_mm : xs (i + 2) = nI mm) (hv_what : xs (i + 3) = nI what) (hT : okT X S) (hK : okK N) (hMl : okM μ0 μ1 (S 11) (tn (S 8 0)) (-4)) (hx9 : x ≤ 60) (hmm9 : mm ≤ 99) (hwhat9 : what ≤ 1) (r_hx9 : x ≤ 60) (r_hm9 : mm ≤ 99) (r_hwh : what ≤ 1) (r_hc2 : σ2 0 = nI (tn (σ2 0)) ∧ tn (σ2 0) ≤ 5) (r_hc5 : σ5 0 = nI (tn (σ5 0)) ∧ tn (σ5 0) ≤ 5) (r_hc8 : σ8 0 = nI (tn (σ8 0)) ∧ tn (σ8 0) ≤ 8) (r_hE : okE σ9 σ10 σ11 (tn (σ8 0))) (r_hK0 : okK (xreg σ19 0)) (hret : ∀ (uF1 : Nat → Int32) (uK2 : Nat → Int32) (uw3 : Int32) (uh4 : Int32), (if what = 0 then (xrI (S 6) (fun y9 => kW (S 3) (S 4) (tn (S 2 0)) (kGoN (S 4) (tn (S 2 0)) (tn (S 5 0)) (S 9) (S 10) (S 11) (tn (S 8 0)) (-4) (N, -4, nI 0) (60 - tn (N 25))).1 y9) x mm (tn (S 5 0)) ((tn (S 5 0)) + 1)).1 else (xrI (S 6) (fun y9 => kW (S 3) (S 4) (tn (S 2 0)) (kGoN (S 4) (tn (S 2 0)) (tn (S 5 0)) (S 9) (S 10) (S 11) (tn (S 8 0)) (-4) (N, -4, nI 0) (60 - tn (N 25))).1 y9) x mm (tn (S 5 0)) ((tn (S 5 0)) + 1)).2 : Int32) = (if what = 0 then (xrA (xrs σ6 (fun y9 => kW σ3 σ4 (tn (σ2 0)) (kGoN σ4 (tn (σ2 0)) (tn (σ5 0)) σ9 σ10 σ11 (tn (σ8 0)) (-4) (xreg σ19 0, σ24, nI 0) (60 - tn (xreg σ19 0 25))).1 y9) x (tn (σ5 0))) mm 61).1 else nI (xrA (xrs σ6 (fun y9 => kW σ3 σ4 (tn (σ2 0)) (kGoN σ4 (tn (σ2 0)) (tn (σ5 0)) σ9 σ10 σ11 (tn (σ8 0)) (-4) (xreg σ19 0, σ24, nI 0) (60 - tn (xreg σ19 0 25))).1 y9) x (tn (σ5 0))) mm 61).2)) (kk : ∀ (uF1 : Nat → Int32) (uK2 : Nat → Int32) (uw3 : Int32) (uh4 : Int32), ∀ (H : Heap) (locs : List Loc), xM D (TY q) [w8 q ad (td 0) (sd 0) (dd 0) (md 0) (rd 0) (nd 0) (ud 0) (pd 0) (hd 0) (gd 0), w2 q td ν0 ν1 ν2 ν3, wst q sd X, wst q dd Y, w3 q md μ0 μ1 μ2, w3 q rd ρ0 ρ1 ρ2, wk q nd N, wp q ud ua 8 (nI uh), wpl q ua U 8, wp q pd pa 2 (nI ph), wpl q pa P 2, w0 q hd τ0 τ1 (xrI (S 6) (fun y9 => kW (S 3) (S 4) (tn (S 2 0)) (kGoN (S 4) (tn (S 2 0)) (tn (S 5 0)) (S 9) (S 10) (S 11) (tn (S 8 0)) (-4) (N, -4, nI 0) (60 - tn (N 25))).1 y9) x mm (tn (S 5 0)) ((tn (S 5 0)) + 1)).1 (xrI (S 6) (fun y9 => kW (S 3) (S 4) (tn (S 2 0)) (kGoN (S 4) (tn (S 2 0)) (tn (S 5 0)) (S 9) (S 10) (S 11) (tn (S 8 0)) (-4) (N, -4, nI 0) (60 - tn (N 25))).1 y9) x mm (tn (S 5 0)) ((tn (S 5 0)) + 1)).2 (fd 0), wk q fd uF1, w6 q gd γ0 γ1 γ2 γ3 γ4 γ5, w9 q zd σ0 σ1 σ2 σ3 σ4 σ5 σ6 σ7 σ8 σ9 σ10 σ11 σ12 σ13 σ14 σ15 σ16 σ17 σ18 (xspl σ19 11 uK2) σ20 σ21 σ22 σ23 uw3 uh4 σ26 σ27 σ28 σ29 σ30] A s.heap s H locs → W p l e room_1 s m #[Value.ref b] below meth c H locs cells slots Q (F0 m 874 ls [])) : W p l e room_1 s m #[Value.ref b] below meth c H locs cells slots Q (F0 m 553 ls []) := by
  obtain ⟨hx, hb, hml, hown, hts⟩ := id hfix
  refine lv_aload_n hx hb dL_law_553 rfl (lv_at hl 1 rfl) ?_
  refine lv_aload_n hx hb dL_law_554 rfl (lv_at hl 0 rfl) ?_
  refine lv_iload_n hx hb dL_law_555 rfl (lv_at hl 3 rfl) ?_
  refine lv_iconst (v := nI 1) hx hb dL_law_556 (by decide) ?_
  refine x_iadd (x := i) (y := 1) hx hb dL_law_557 ?_
  refine va_sld hx hb hX hbl hbA hM.2.2.2.1 (i := nI (i + 1)) (vp_in_nI (by omega) (by omega)) dL_law_558 ?_
  refine x_cast (y := xs (i + 1)) (by rw [nI_clamp (by omega)]) ?_
  refine x_cast (y := nI x) hv_x ?_
  refine lv_aload_n hx hb dL_law_559 rfl (lv_at hl 0 rfl) ?_
  refine lv_iload_n hx hb dL_law_560 rfl (lv_at hl 3 rfl) ?_
  refine lv_iconst (v := nI 2) hx hb dL_law_561 (by decide) ?_
  refine x_iadd (x := i) (y := 2) hx hb dL_law_562 ?_
  refine va_sld hx hb hX hbl hbA hM.2.2.2.1 (i := nI (i + 2)) (vp_in_nI (by omega) (by omega)) dL_law_563 ?_
  refine x_cast (y := xs (i + 2)) (by rw [nI_clamp (by omega)]) ?_
  refine x_cast (y := nI mm) hv_mm ?_
  refine lv_aload_n hx hb dL_law_564 rfl (lv_at hl 0 rfl) ?_
  refine lv_iload_n hx hb dL_law_565 rfl (lv_at hl 3 rfl) ?_
  refine lv_iconst (v := nI 3) hx hb dL_law_566 (by decide) ?_
  refine x_iadd (x := i) (y := 3) hx hb dL_law_567 ?_
  refine va_sld hx hb hX hbl hbA hM.2.2.2.1 (i := nI (i + 3)) (vp_in_nI (by omega) (by omega)) dL_law_568 ?_
  refine x_cast (y := xs (i + 3)) (by rw [nI_clamp (by omega)]) ?_
  refine x_cast (y := nI what) hv_what ?_
  refine x_calli (bc := [w8 q ad (td 0) (sd 0) (dd 0) (md 0) (rd 0) (nd 0) (ud 0) (pd 0) (hd 0) (gd 0), wst q sd X, wk q nd N, w3 q md μ0 μ1 μ2, w0 q hd τ0 τ1 τ2 τ3 (fd 0), wk q fd F]) (br := [w2 q td ν0 ν1 ν2 ν3, wst q dd Y, w3 q rd ρ0 ρ1 ρ2, wp q ud ua 8 (nI uh), wpl q ua U 8, wp q pd pa 2 (nI ph), wpl q pa P 2, w6 q gd γ0 γ1 γ2 γ3 γ4 γ5, w9 q zd σ0 σ1 σ2 σ3 σ4 σ5 σ6 σ7 σ8 σ9 σ10 σ11 σ12 σ13 σ14 σ15 σ16 σ17 σ18 σ19 σ20 σ21 σ22 σ23 σ24 σ25 σ26 σ27 σ28 σ29 σ30]) hM [0, 2, 6, 4, 11, 12] [1, 3, 5, 7, 8, 9, 10, 13, 14] rfl rfl rfl (by decide) (x_runV (As := [.int (nI x), .int (nI mm), .int (nI what)]) (rest := []) hfix (c_X8_round l D q ad (td 0) (sd 0) (dd 0) (md 0) (rd 0) (nd 0) (ud 0) (pd 0) (hd 0) (gd 0) sd X nd N md μ0 μ1 μ2 hd τ0 τ1 τ2 τ3 (fd 0) fd F S x mm what hT hK hMl hx9 hmm9 hwhat9) (cwV 3 hts gL_law_X8_round rfl rfl rfl (by decide +kernel) ⟨Nat.le_of_ble_eq_true rfl, Nat.le_of_ble_eq_true rfl⟩) hM [0, 2, 6, 4, 11, 12] rfl rfl 0 0 rfl rfl rfl rfl rfl hl.1 rfl (Nat.le_of_ble_eq_true rfl) dL_law_569 hroom) (fun r u H locs hq hM => ?_)
  subst hq
  obtain ⟨uF1, hex⟩ : ∃ z, z = u := ⟨_, rfl⟩; subst hex
  have hM : xM D (TY q) [w2 q td ν0 ν1 ν2 ν3, wst q dd Y, w3 q rd ρ0 ρ1 ρ2, wp q ud ua 8 (nI uh), wpl q ua U 8, wp q pd pa 2 (nI ph), wpl q pa P 2, w6 q gd γ0 γ1 γ2 γ3 γ4 γ5, w9 q zd σ0 σ1 σ2 σ3 σ4 σ5 σ6 σ7 σ8 σ9 σ10 σ11 σ12 σ13 σ14 σ15 σ16 σ17 σ18 σ19 σ20 σ21 σ22 σ23 σ24 σ25 σ26 σ27 σ28 σ29 σ30, w8 q ad (td 0) (sd 0) (dd 0) (md 0) (rd 0) (nd 0) (ud 0) (pd 0) (hd 0) (gd 0), wst q sd X, wk q nd N, w3 q md μ0 μ1 μ2, w0 q hd τ0 τ1 (xrI (S 6) (fun y9 => kW (S 3) (S 4) (tn (S 2 0)) (kGoN (S 4) (tn (S 2 0)) (tn (S 5 0)) (S 9) (S 10) (S 11) (tn (S 8 0)) (-4) (N, -4, nI 0) (60 - tn (N 25))).1 y9) x mm (tn (S 5 0)) ((tn (S 5 0)) + 1)).1 (xrI (S 6) (fun y9 => kW (S 3) (S 4) (tn (S 2 0)) (kGoN (S 4) (tn (S 2 0)) (tn (S 5 0)) (S 9) (S 10) (S 11) (tn (S 8 0)) (-4) (N, -4, nI 0) (60 - tn (N 25))).1 y9) x mm (tn (S 5 0)) ((tn (S 5 0)) + 1)).2 (fd 0), wk q fd uF1] A s.heap s H locs := hM
  have hM : xM D (TY q) [w8 q ad (td 0) (sd 0) (dd 0) (md 0) (rd 0) (nd 0) (ud 0) (pd 0) (hd 0) (gd 0), w2 q td ν0 ν1 ν2 ν3, wst q sd X, wst q dd Y, w3 q md μ0 μ1 μ2, w3 q rd ρ0 ρ1 ρ2, wk q nd N, wp q ud ua 8 (nI uh), wpl q ua U 8, wp q pd pa 2 (nI ph), wpl q pa P 2, w0 q hd τ0 τ1 (xrI (S 6) (fun y9 => kW (S 3) (S 4) (tn (S 2 0)) (kGoN (S 4) (tn (S 2 0)) (tn (S 5 0)) (S 9) (S 10) (S 11) (tn (S 8 0)) (-4) (N, -4, nI 0) (60 - tn (N 25))).1 y9) x mm (tn (S 5 0)) ((tn (S 5 0)) + 1)).1 (xrI (S 6) (fun y9 => kW (S 3) (S 4) (tn (S 2 0)) (kGoN (S 4) (tn (S 2 0)) (tn (S 5 0)) (S 9) (S 10) (S 11) (tn (S 8 0)) (-4) (N, -4, nI 0) (60 - tn (N 25))).1 y9) x mm (tn (S 5 0)) ((tn (S 5 0)) + 1)).2 (fd 0), wk q fd uF1, w6 q gd γ0 γ1 γ2 γ3 γ4 γ5, w9 q zd σ0 σ1 σ2 σ3 σ4 σ5 σ6 σ7 σ8 σ9 σ10 σ11 σ12 σ13 σ14 σ15 σ16 σ17 σ18 σ19 σ20 σ21 σ22 σ23 σ24 σ25 σ26 σ27 σ28 σ29 σ30] A s.heap s H locs := hM.sel [9, 0, 10, 1, 12, 2, 11, 3, 4, 5, 6, 13, 14, 7, 8] rfl rfl
  refine lv_aload_n hx hb dL_law_572 rfl (lv_at hl 2 rfl) ?_
  refine lv_aload_n hx hb dL_law_573 rfl (lv_at hl 0 rfl) ?_
  refine lv_iload_n hx hb dL_law_574 rfl (lv_at hl 3 rfl) ?_
  refine lv_iconst (v := nI 1) hx hb dL_law_575 (by decide) ?_
  refine x_iadd (x := i) (y := 1) hx hb dL_law_576 ?_
  refine va_sld hx hb hX hbl hbA hM.2.2.2.1 (i := nI (i + 1)) (vp_in_nI (by omega) (by omega)) dL_law_577 ?_
  refine x_cast (y := xs (i + 1)) (by rw [nI_clamp (by omega)]) ?_
  refine x_cast (y := nI x) hv_x ?_
  refine lv_aload_n hx hb dL_law_578 rfl (lv_at hl 0 rfl) ?_
  refine lv_iload_n hx hb dL_law_579 rfl (lv_at hl 3 rfl) ?_
  refine lv_iconst (v := nI 2) hx hb dL_law_580 (by decide) ?_
  refine x_iadd (x := i) (y := 2) hx hb dL_law_581 ?_
  refine va_sld hx hb hX hbl hbA hM.2.2.2.1 (i := nI (i + 2)) (vp_in_nI (by omega) (by omega)) dL_law_582 ?_
  refine x_cast (y := xs (i + 2)) (by rw [nI_clamp (by omega)]) ?_
  refine x_cast (y := nI mm) hv_mm ?_
  refine lv_aload_n hx hb dL_law_583 rfl (lv_at hl 0 rfl) ?_
  refine lv_iload_n hx hb dL_law_584 rfl (lv_at hl 3 rfl) ?_
  refine lv_iconst (v := nI 3) hx hb dL_law_585 (by decide) ?_
  refine x_iadd (x := i) (y := 3) hx hb dL_law_586 ?_
  refine va_sld hx hb hX hbl hbA hM.2.2.2.1 (i := nI (i + 3)) (vp_in_nI (by omega) (by omega)) dL_law_587 ?_
  refine x_cast (y := xs (i + 3)) (by rw [nI_clamp (by omega)]) ?_
  refine x_cast (y := nI what) hv_what ?_
  refine x_calli (bc := [w9 q zd σ0 σ1 σ2 σ3 σ4 σ5 σ6 σ7 σ8 σ9 σ10 σ11 σ12 σ13 σ14 σ15 σ16 σ17 σ18 σ19 σ20 σ21 σ22 σ23 σ24 σ25 σ26 σ27 σ28 σ29 σ30]) (br := [w8 q ad (td 0) (sd 0) (dd 0) (md 0) (rd 0) (nd 0) (ud 0) (pd 0) (hd 0) (gd 0), w2 q td ν0 ν1 ν2 ν3, wst q sd X, wst q dd Y, w3 q md μ0 μ1 μ2, w3 q rd ρ0 ρ1 ρ2, wk q nd N, wp q ud ua 8 (nI uh), wpl q ua U 8, wp q pd pa 2 (nI ph), wpl q pa P 2, w0 q hd τ0 τ1 (xrI (S 6) (fun y9 => kW (S 3) (S 4) (tn (S 2 0)) (kGoN (S 4) (tn (S 2 0)) (tn (S 5 0)) (S 9) (S 10) (S 11) (tn (S 8 0)) (-4) (N, -4, nI 0) (60 - tn (N 25))).1 y9) x mm (tn (S 5 0)) ((tn (S 5 0)) + 1)).1 (xrI (S 6) (fun y9 => kW (S 3) (S 4) (tn (S 2 0)) (kGoN (S 4) (tn (S 2 0)) (tn (S 5 0)) (S 9) (S 10) (S 11) (tn (S 8 0)) (-4) (N, -4, nI 0) (60 - tn (N 25))).1 y9) x mm (tn (S 5 0)) ((tn (S 5 0)) + 1)).2 (fd 0), wk q fd uF1, w6 q gd γ0 γ1 γ2 γ3 γ4 γ5]) hM [14] [0, 1, 2, 3, 4, 5, 6, 7, 8, 9, 10, 11, 12, 13] rfl rfl rfl (by decide) (x_runV (As := [.int (nI x), .int (nI mm), .int (nI what)]) (rest := [.int (if what = 0 then (xrI (S 6) (fun y9 => kW (S 3) (S 4) (tn (S 2 0)) (kGoN (S 4) (tn (S 2 0)) (tn (S 5 0)) (S 9) (S 10) (S 11) (tn (S 8 0)) (-4) (N, -4, nI 0) (60 - tn (N 25))).1 y9) x mm (tn (S 5 0)) ((tn (S 5 0)) + 1)).1 else (xrI (S 6) (fun y9 => kW (S 3) (S 4) (tn (S 2 0)) (kGoN (S 4) (tn (S 2 0)) (tn (S 5 0)) (S 9) (S 10) (S 11) (tn (S 8 0)) (-4) (N, -4, nI 0) (60 - tn (N 25))).1 y9) x mm (tn (S 5 0)) ((tn (S 5 0)) + 1)).2)]) hfix (c_X9_round l D q zd σ0 σ1 σ2 σ3 σ4 σ5 σ6 σ7 σ8 σ9 σ10 σ11 σ12 σ13 σ14 σ15 σ16 σ17 σ18 σ19 σ20 σ21 σ22 σ23 σ24 σ25 σ26 σ27 σ28 σ29 σ30 x mm what r_hx9 r_hm9 r_hwh r_hc2 r_hc5 r_hc8 r_hE r_hK0) (cwV 3 hts gL_law_X9_round rfl rfl rfl (by decide +kernel) ⟨Nat.le_of_ble_eq_true rfl, Nat.le_of_ble_eq_true rfl⟩) hM [14] rfl rfl 14 0 rfl rfl rfl rfl rfl hl.1 rfl (Nat.le_of_ble_eq_true rfl) dL_law_588 hroom) (fun r u H locs hq hM => ?_)
  subst hq
  obtain ⟨uK2, uw3, uh4⟩ := u
  have hM : xM D (TY q) [w8 q ad (td 0) (sd 0) (dd 0) (md 0) (rd 0) (nd 0) (ud 0) (pd 0) (hd 0) (gd 0), w2 q td ν0 ν1 ν2 ν3, wst q sd X, wst q dd Y, w3 q md μ0 μ1 μ2, w3 q rd ρ0 ρ1 ρ2, wk q nd N, wp q ud ua 8 (nI uh), wpl q ua U 8, wp q pd pa 2 (nI ph), wpl q pa P 2, w0 q hd τ0 τ1 (xrI (S 6) (fun y9 => kW (S 3) (S 4) (tn (S 2 0)) (kGoN (S 4) (tn (S 2 0)) (tn (S 5 0)) (S 9) (S 10) (S 11) (tn (S 8 0)) (-4) (N, -4, nI 0) (60 - tn (N 25))).1 y9) x mm (tn (S 5 0)) ((tn (S 5 0)) + 1)).1 (xrI (S 6) (fun y9 => kW (S 3) (S 4) (tn (S 2 0)) (kGoN (S 4) (tn (S 2 0)) (tn (S 5 0)) (S 9) (S 10) (S 11) (tn (S 8 0)) (-4) (N, -4, nI 0) (60 - tn (N 25))).1 y9) x mm (tn (S 5 0)) ((tn (S 5 0)) + 1)).2 (fd 0), wk q fd uF1, w6 q gd γ0 γ1 γ2 γ3 γ4 γ5, w9 q zd σ0 σ1 σ2 σ3 σ4 σ5 σ6 σ7 σ8 σ9 σ10 σ11 σ12 σ13 σ14 σ15 σ16 σ17 σ18 (xspl σ19 11 uK2) σ20 σ21 σ22 σ23 uw3 uh4 σ26 σ27 σ28 σ29 σ30] A s.heap s H locs := hM
  refine lv_icmp_eq (tgt := 874) hx hb dL_law_591 (by decide) (fun c1 => ?_) (fun c1 => absurd (hret uF1 uK2 uw3 uh4) c1)
  exact kk uF1 uK2 uw3 uh4 _ _ hM
set_option maxHeartbeats 2000000 in
set_option maxRecDepth 100000 in
theorem st_roundB {p : Program} {e : Env} {s : State} {m : MethodId} {below : List Frame} {meth : Method} {c : Code} {H : Heap} {locs : List Loc} {cells slots : Nat} {Q : State → Prop} {ls : Array Slot} {D : va_G} {q : Nat → ClassId} {A : Nat → Prop} (l : Launch) {b L i : Nat} {xs : Nat → Int32} {ad : Nat → Nat} {td : Nat → Nat} {ν0 : Nat → Int32} {ν1 : Nat → Int32} {ν2 : Int32} {ν3 : Int32} {sd : Nat → Nat} {X : Nat → Nat → Int32} {dd : Nat → Nat} {Y : Nat → Nat → Int32} {md : Nat → Nat} {μ0 : Nat → Int32} {μ1 : Nat → Int32} {μ2 : Int32} {rd : Nat → Nat} {ρ0 : Nat → Int32} {ρ1 : Nat → Int32} {ρ2 : Int32} {nd : Nat → Nat} {N : Nat → Int32} {ud : Nat → Nat} {ua : Nat → Nat → Nat} {U : Nat → Nat → Int32} {pd : Nat → Nat} {pa : Nat → Nat → Nat} {P : Nat → Nat → Int32} {hd : Nat → Nat} {τ0 : Int32} {τ1 : Int32} {τ2 : Int32} {τ3 : Int32} {fd : Nat → Nat} {F : Nat → Int32} {gd : Nat → Nat} {γ0 : Int32} {γ1 : Int64} {γ2 : Int32} {γ3 : Nat → Int32} {γ4 : Nat → Int32} {γ5 : Nat → Int32} {uh ph : Nat} {zd : Nat → Nat} {σ0 : Int32} {σ1 : Nat → Int32} {σ2 : Nat → Int32} {σ3 : Nat → Int32} {σ4 : Nat → Int32} {σ5 : Nat → Int32} {σ6 : Nat → Int32} {σ7 : Nat → Int32} {σ8 : Nat → Int32} {σ9 : Nat → Int32} {σ10 : Nat → Int32} {σ11 : Nat → Int32} {σ12 : Nat → Int32} {σ13 : Nat → Int32} {σ14 : Nat → Int32} {σ15 : Nat → Int32} {σ16 : Nat → Int32} {σ17 : Nat → Int32} {σ18 : Nat → Int32} {σ19 : Nat → Int32} {σ20 : Int32} {σ21 : Int32} {σ22 : Int32} {σ23 : Nat → Int32} {σ24 : Int32} {σ25 : Int32} {σ26 : Nat → Int32} {σ27 : Nat → Int32} {σ28 : Nat → Int32} {σ29 : Nat → Int32} {σ30 : Nat → Int32} (hfix : CallFix p m c cL_law 4 s #[Value.ref b] wsL_law RL) (hroom : cells ≤ room_1.cells ∧ slots ≤ room_1.slots) (hX : va_X b L xs s s.heap) (hbl : b < s.heap.size) (hbA : ¬ A b) (hL9 : L ≤ 384) (hi9 : i + 6 ≤ L) (hl : lv_has ls 4 [(0, .ref b), (1, .ref (ad 0)), (2, .ref (zd 0)), (3, .int (nI i))]) (hM : xM D (TY q) [w8 q ad (td 0) (sd 0) (dd 0) (md 0) (rd 0) (nd 0) (ud 0) (pd 0) (hd 0) (gd 0), w2 q td ν0 ν1 ν2 ν3, wst q sd X, wst q dd Y, w3 q md μ0 μ1 μ2, w3 q rd ρ0 ρ1 ρ2, wk q nd N, wp q ud ua 8 (nI uh), wpl q ua U 8, wp q pd pa 2 (nI ph), wpl q pa P 2, w0 q hd τ0 τ1 τ2 τ3 (fd 0), wk q fd F, w6 q gd γ0 γ1 γ2 γ3 γ4 γ5, w9 q zd σ0 σ1 σ2 σ3 σ4 σ5 σ6 σ7 σ8 σ9 σ10 σ11 σ12 σ13 σ14 σ15 σ16 σ17 σ18 σ19 σ20 σ21 σ22 σ23 σ24 σ25 σ26 σ27 σ28 σ29 σ30] A s.heap s H locs) (hbad : ¬ (0 ≤ ((xs (i + 1)).toInt) ∧ ((xs (i + 1)).toInt) ≤ 60) ∨ ¬ (0 ≤ ((xs (i + 2)).toInt) ∧ ((xs (i + 2)).toInt) ≤ 99) ∨ ¬ (0 ≤ ((xs (i + 3)).toInt) ∧ ((xs (i + 3)).toInt) ≤ 1)) (r_hbad : ¬ (0 ≤ ((xs (i + 1)).toInt) ∧ ((xs (i + 1)).toInt) ≤ 60) ∨ ¬ (0 ≤ ((xs (i + 2)).toInt) ∧ ((xs (i + 2)).toInt) ≤ 99) ∨ ¬ (0 ≤ ((xs (i + 3)).toInt) ∧ ((xs (i + 3)).toInt) ≤ 1)) (hret : ((-1) : Int32) = (-1)) (kk : ∀ (H : Heap) (locs : List Loc), xM D (TY q) [w8 q ad (td 0) (sd 0) (dd 0) (md 0) (rd 0) (nd 0) (ud 0) (pd 0) (hd 0) (gd 0), w2 q td ν0 ν1 ν2 ν3, wst q sd X, wst q dd Y, w3 q md μ0 μ1 μ2, w3 q rd ρ0 ρ1 ρ2, wk q nd N, wp q ud ua 8 (nI uh), wpl q ua U 8, wp q pd pa 2 (nI ph), wpl q pa P 2, w0 q hd τ0 τ1 τ2 τ3 (fd 0), wk q fd F, w6 q gd γ0 γ1 γ2 γ3 γ4 γ5, w9 q zd σ0 σ1 σ2 σ3 σ4 σ5 σ6 σ7 σ8 σ9 σ10 σ11 σ12 σ13 σ14 σ15 σ16 σ17 σ18 σ19 σ20 σ21 σ22 σ23 σ24 σ25 σ26 σ27 σ28 σ29 σ30] A s.heap s H locs → W p l e room_1 s m #[Value.ref b] below meth c H locs cells slots Q (F0 m 874 ls [])) : W p l e room_1 s m #[Value.ref b] below meth c H locs cells slots Q (F0 m 553 ls []) := by
  obtain ⟨hx, hb, hml, hown, hts⟩ := id hfix
  refine lv_aload_n hx hb dL_law_553 rfl (lv_at hl 1 rfl) ?_
  refine lv_aload_n hx hb dL_law_554 rfl (lv_at hl 0 rfl) ?_
  refine lv_iload_n hx hb dL_law_555 rfl (lv_at hl 3 rfl) ?_
  refine lv_iconst (v := nI 1) hx hb dL_law_556 (by decide) ?_
  refine x_iadd (x := i) (y := 1) hx hb dL_law_557 ?_
  refine va_sld hx hb hX hbl hbA hM.2.2.2.1 (i := nI (i + 1)) (vp_in_nI (by omega) (by omega)) dL_law_558 ?_
  refine x_cast (y := xs (i + 1)) (by rw [nI_clamp (by omega)]) ?_
  refine lv_aload_n hx hb dL_law_559 rfl (lv_at hl 0 rfl) ?_
  refine lv_iload_n hx hb dL_law_560 rfl (lv_at hl 3 rfl) ?_
  refine lv_iconst (v := nI 2) hx hb dL_law_561 (by decide) ?_
  refine x_iadd (x := i) (y := 2) hx hb dL_law_562 ?_
  refine va_sld hx hb hX hbl hbA hM.2.2.2.1 (i := nI (i + 2)) (vp_in_nI (by omega) (by omega)) dL_law_563 ?_
  refine x_cast (y := xs (i + 2)) (by rw [nI_clamp (by omega)]) ?_
  refine lv_aload_n hx hb dL_law_564 rfl (lv_at hl 0 rfl) ?_
  refine lv_iload_n hx hb dL_law_565 rfl (lv_at hl 3 rfl) ?_
  refine lv_iconst (v := nI 3) hx hb dL_law_566 (by decide) ?_
  refine x_iadd (x := i) (y := 3) hx hb dL_law_567 ?_
  refine va_sld hx hb hX hbl hbA hM.2.2.2.1 (i := nI (i + 3)) (vp_in_nI (by omega) (by omega)) dL_law_568 ?_
  refine x_cast (y := xs (i + 3)) (by rw [nI_clamp (by omega)]) ?_
  refine x_calli (bc := [w8 q ad (td 0) (sd 0) (dd 0) (md 0) (rd 0) (nd 0) (ud 0) (pd 0) (hd 0) (gd 0)]) (br := [w2 q td ν0 ν1 ν2 ν3, wst q sd X, wst q dd Y, w3 q md μ0 μ1 μ2, w3 q rd ρ0 ρ1 ρ2, wk q nd N, wp q ud ua 8 (nI uh), wpl q ua U 8, wp q pd pa 2 (nI ph), wpl q pa P 2, w0 q hd τ0 τ1 τ2 τ3 (fd 0), wk q fd F, w6 q gd γ0 γ1 γ2 γ3 γ4 γ5, w9 q zd σ0 σ1 σ2 σ3 σ4 σ5 σ6 σ7 σ8 σ9 σ10 σ11 σ12 σ13 σ14 σ15 σ16 σ17 σ18 σ19 σ20 σ21 σ22 σ23 σ24 σ25 σ26 σ27 σ28 σ29 σ30]) hM [0] [1, 2, 3, 4, 5, 6, 7, 8, 9, 10, 11, 12, 13, 14] rfl rfl rfl (by decide) (x_runV (As := [.int (xs (i + 1)), .int (xs (i + 2)), .int (xs (i + 3))]) (rest := []) hfix (c_X8_roundB l D q ad (td 0) (sd 0) (dd 0) (md 0) (rd 0) (nd 0) (ud 0) (pd 0) (hd 0) (gd 0) (xs (i + 1)) ((xs (i + 1)).toInt) (xs (i + 2)) ((xs (i + 2)).toInt) (xs (i + 3)) ((xs (i + 3)).toInt) rfl rfl rfl hbad) (cwV 3 hts gL_law_X8_round rfl rfl rfl (by decide +kernel) ⟨Nat.le_of_ble_eq_true rfl, Nat.le_of_ble_eq_true rfl⟩) hM [0] rfl rfl 0 0 rfl rfl rfl rfl rfl hl.1 rfl (Nat.le_of_ble_eq_true rfl) dL_law_569 hroom) (fun r u H locs hq hM => ?_)
  subst hq
  have hM : xM D (TY q) [w2 q td ν0 ν1 ν2 ν3, wst q sd X, wst q dd Y, w3 q md μ0 μ1 μ2, w3 q rd ρ0 ρ1 ρ2, wk q nd N, wp q ud ua 8 (nI uh), wpl q ua U 8, wp q pd pa 2 (nI ph), wpl q pa P 2, w0 q hd τ0 τ1 τ2 τ3 (fd 0), wk q fd F, w6 q gd γ0 γ1 γ2 γ3 γ4 γ5, w9 q zd σ0 σ1 σ2 σ3 σ4 σ5 σ6 σ7 σ8 σ9 σ10 σ11 σ12 σ13 σ14 σ15 σ16 σ17 σ18 σ19 σ20 σ21 σ22 σ23 σ24 σ25 σ26 σ27 σ28 σ29 σ30, w8 q ad (td 0) (sd 0) (dd 0) (md 0) (rd 0) (nd 0) (ud 0) (pd 0) (hd 0) (gd 0)] A s.heap s H locs := hM
  have hM : xM D (TY q) [w8 q ad (td 0) (sd 0) (dd 0) (md 0) (rd 0) (nd 0) (ud 0) (pd 0) (hd 0) (gd 0), w2 q td ν0 ν1 ν2 ν3, wst q sd X, wst q dd Y, w3 q md μ0 μ1 μ2, w3 q rd ρ0 ρ1 ρ2, wk q nd N, wp q ud ua 8 (nI uh), wpl q ua U 8, wp q pd pa 2 (nI ph), wpl q pa P 2, w0 q hd τ0 τ1 τ2 τ3 (fd 0), wk q fd F, w6 q gd γ0 γ1 γ2 γ3 γ4 γ5, w9 q zd σ0 σ1 σ2 σ3 σ4 σ5 σ6 σ7 σ8 σ9 σ10 σ11 σ12 σ13 σ14 σ15 σ16 σ17 σ18 σ19 σ20 σ21 σ22 σ23 σ24 σ25 σ26 σ27 σ28 σ29 σ30] A s.heap s H locs := hM.sel [14, 0, 1, 2, 3, 4, 5, 6, 7, 8, 9, 10, 11, 12, 13] rfl rfl
  refine lv_aload_n hx hb dL_law_572 rfl (lv_at hl 2 rfl) ?_
  refine lv_aload_n hx hb dL_law_573 rfl (lv_at hl 0 rfl) ?_
  refine lv_iload_n hx hb dL_law_574 rfl (lv_at hl 3 rfl) ?_
  refine lv_iconst (v := nI 1) hx hb dL_law_575 (by decide) ?_
  refine x_iadd (x := i) (y := 1) hx hb dL_law_576 ?_
  refine va_sld hx hb hX hbl hbA hM.2.2.2.1 (i := nI (i + 1)) (vp_in_nI (by omega) (by omega)) dL_law_577 ?_
  refine x_cast (y := xs (i + 1)) (by rw [nI_clamp (by omega)]) ?_
  refine lv_aload_n hx hb dL_law_578 rfl (lv_at hl 0 rfl) ?_
  refine lv_iload_n hx hb dL_law_579 rfl (lv_at hl 3 rfl) ?_
  refine lv_iconst (v := nI 2) hx hb dL_law_580 (by decide) ?_
  refine x_iadd (x := i) (y := 2) hx hb dL_law_581 ?_
  refine va_sld hx hb hX hbl hbA hM.2.2.2.1 (i := nI (i + 2)) (vp_in_nI (by omega) (by omega)) dL_law_582 ?_
  refine x_cast (y := xs (i + 2)) (by rw [nI_clamp (by omega)]) ?_
  refine lv_aload_n hx hb dL_law_583 rfl (lv_at hl 0 rfl) ?_
  refine lv_iload_n hx hb dL_law_584 rfl (lv_at hl 3 rfl) ?_
  refine lv_iconst (v := nI 3) hx hb dL_law_585 (by decide) ?_
  refine x_iadd (x := i) (y := 3) hx hb dL_law_586 ?_
  refine va_sld hx hb hX hbl hbA hM.2.2.2.1 (i := nI (i + 3)) (vp_in_nI (by omega) (by omega)) dL_law_587 ?_
  refine x_cast (y := xs (i + 3)) (by rw [nI_clamp (by omega)]) ?_
  refine x_calli (bc := [w9 q zd σ0 σ1 σ2 σ3 σ4 σ5 σ6 σ7 σ8 σ9 σ10 σ11 σ12 σ13 σ14 σ15 σ16 σ17 σ18 σ19 σ20 σ21 σ22 σ23 σ24 σ25 σ26 σ27 σ28 σ29 σ30]) (br := [w8 q ad (td 0) (sd 0) (dd 0) (md 0) (rd 0) (nd 0) (ud 0) (pd 0) (hd 0) (gd 0), w2 q td ν0 ν1 ν2 ν3, wst q sd X, wst q dd Y, w3 q md μ0 μ1 μ2, w3 q rd ρ0 ρ1 ρ2, wk q nd N, wp q ud ua 8 (nI uh), wpl q ua U 8, wp q pd pa 2 (nI ph), wpl q pa P 2, w0 q hd τ0 τ1 τ2 τ3 (fd 0), wk q fd F, w6 q gd γ0 γ1 γ2 γ3 γ4 γ5]) hM [14] [0, 1, 2, 3, 4, 5, 6, 7, 8, 9, 10, 11, 12, 13] rfl rfl rfl (by decide) (x_runV (As := [.int (xs (i + 1)), .int (xs (i + 2)), .int (xs (i + 3))]) (rest := [.int (-1)]) hfix (c_X9_roundB l D q zd σ0 σ1 σ2 σ3 σ4 σ5 σ6 σ7 σ8 σ9 σ10 σ11 σ12 σ13 σ14 σ15 σ16 σ17 σ18 σ19 σ20 σ21 σ22 σ23 σ24 σ25 σ26 σ27 σ28 σ29 σ30 (xs (i + 1)) ((xs (i + 1)).toInt) (xs (i + 2)) ((xs (i + 2)).toInt) (xs (i + 3)) ((xs (i + 3)).toInt) rfl rfl rfl r_hbad) (cwV 3 hts gL_law_X9_round rfl rfl rfl (by decide +kernel) ⟨Nat.le_of_ble_eq_true rfl, Nat.le_of_ble_eq_true rfl⟩) hM [14] rfl rfl 14 0 rfl rfl rfl rfl rfl hl.1 rfl (Nat.le_of_ble_eq_true rfl) dL_law_588 hroom) (fun r u H locs hq hM => ?_)
  subst hq
  have hM : xM D (TY q) [w8 q ad (td 0) (sd 0) (dd 0) (md 0) (rd 0) (nd 0) (ud 0) (pd 0) (hd 0) (gd 0), w2 q td ν0 ν1 ν2 ν3, wst q sd X, wst q dd Y, w3 q md μ0 μ1 μ2, w3 q rd ρ0 ρ1 ρ2, wk q nd N, wp q ud ua 8 (nI uh), wpl q ua U 8, wp q pd pa 2 (nI ph), wpl q pa P 2, w0 q hd τ0 τ1 τ2 τ3 (fd 0), wk q fd F, w6 q gd γ0 γ1 γ2 γ3 γ4 γ5, w9 q zd σ0 σ1 σ2 σ3 σ4 σ5 σ6 σ7 σ8 σ9 σ10 σ11 σ12 σ13 σ14 σ15 σ16 σ17 σ18 σ19 σ20 σ21 σ22 σ23 σ24 σ25 σ26 σ27 σ28 σ29 σ30] A s.heap s H locs := hM
  refine lv_icmp_eq (tgt := 874) hx hb dL_law_591 (by decide) (fun c1 => ?_) (fun c1 => absurd (hret) c1)
  exact kk _ _ hM
