/-! own rows: a step of the law -/
set_option maxRecDepth 20000 in
theorem ggL_law_X8_give : GoodIn wsL_law wsX8_give := goodIn_r _ [648, 19, 29, 33, 431, 216, 217, 18, 218, 163, 204, 2, 205, 432, 220, 221, 222, 162, 350, 649, 650, 651, 28, 652, 273, 272, 653, 654, 655, 656, 443, 434, 435, 436, 72, 437, 224, 225, 438, 198, 169, 199, 657, 658, 659, 660, 661, 662, 283, 663, 664, 665, 666, 667, 55, 197, 626, 627, 628, 32, 629, 294, 81, 630, 631, 632, 633, 634, 453, 454, 455, 73, 74, 75, 456, 279, 280, 281, 282, 284, 285, 286, 287, 288, 668, 669, 670, 671, 473, 474, 475, 476, 477, 478, 479, 484, 191, 192, 1067, 1068, 1069, 1070, 1071, 1072, 1073, 1074, 1075, 1076, 1112, 1113, 1114, 1115, 1116, 1117, 1118, 1119, 1120, 1121, 1122, 1123, 1124, 1125, 1126, 1127, 1131, 1132, 1133, 1134, 1135, 1136, 1137, 1138] (by decide +kernel) (by decide +kernel)
set_option maxRecDepth 20000 in
theorem gL_law_X8_give : GoodIn wsL_law (wsV RL 49 RX8 yX8_give wsX8_give) := goodIn_app (goodIn_of _ (by decide +kernel)) ggL_law_X8_give
set_option maxRecDepth 20000 in
theorem ggL_law_X9_give : GoodIn wsL_law wsX9_give := goodIn_r _ [675, 676, 516, 517, 518, 5, 519, 307, 358, 359, 360, 520, 521, 522, 523, 304, 677, 678, 679, 680, 308, 566, 567, 568, 569, 321, 537, 538, 539, 540, 550, 551, 552, 553, 641, 642, 643, 644, 344, 528, 529, 530, 531, 681, 682, 683, 684, 685, 686, 687, 688, 558, 559, 560, 561, 554, 555, 556, 557, 1077, 1078, 1079, 1080, 1081, 1082, 1083, 1084, 1085, 1086, 1087, 1088, 1089, 1090, 1091, 1092, 1093, 1094, 1095, 1096, 1097, 1098, 1099, 1100, 1101, 1102, 1103, 1104, 1105, 1106, 1107] (by decide +kernel) (by decide +kernel)
set_option maxRecDepth 20000 in
theorem gL_law_X9_give : GoodIn wsL_law (wsV RL 53 RX9 yX9_give wsX9_give) := goodIn_app (goodIn_of _ (by decide +kernel)) ggL_law_X9_give
theorem dL_law_342 : decode cL_law 342 = .ok (.aload_n 1, 1) := by decide +kernel
theorem dL_law_343 : decode cL_law 343 = .ok (.aload_n 0, 1) := by decide +kernel
theorem dL_law_344 : decode cL_law 344 = .ok (.iload_n 3, 1) := by decide +kernel
theorem dL_law_345 : decode cL_law 345 = .ok (.iconst 1, 1) := by decide +kernel
theorem dL_law_346 : decode cL_law 346 = .ok (.iadd, 1) := by decide +kernel
theorem dL_law_347 : decode cL_law 347 = .ok (.iaload, 1) := by decide +kernel
theorem dL_law_348 : decode cL_law 348 = .ok (.aload_n 0, 1) := by decide +kernel
theorem dL_law_349 : decode cL_law 349 = .ok (.iload_n 3, 1) := by decide +kernel
theorem dL_law_350 : decode cL_law 350 = .ok (.iconst 2, 1) := by decide +kernel
theorem dL_law_351 : decode cL_law 351 = .ok (.iadd, 1) := by decide +kernel
theorem dL_law_352 : decode cL_law 352 = .ok (.iaload, 1) := by decide +kernel
theorem dL_law_353 : decode cL_law 353 = .ok (.aload_n 0, 1) := by decide +kernel
theorem dL_law_354 : decode cL_law 354 = .ok (.iload_n 3, 1) := by decide +kernel
theorem dL_law_355 : decode cL_law 355 = .ok (.iconst 3, 1) := by decide +kernel
theorem dL_law_356 : decode cL_law 356 = .ok (.iadd, 1) := by decide +kernel
theorem dL_law_357 : decode cL_law 357 = .ok (.iaload, 1) := by decide +kernel
theorem dL_law_358 : decode cL_law 358 = .ok (.aload_n 0, 1) := by decide +kernel
theorem dL_law_359 : decode cL_law 359 = .ok (.iload_n 3, 1) := by decide +kernel
theorem dL_law_360 : decode cL_law 360 = .ok (.iconst 4, 1) := by decide +kernel
theorem dL_law_361 : decode cL_law 361 = .ok (.iadd, 1) := by decide +kernel
theorem dL_law_362 : decode cL_law 362 = .ok (.iaload, 1) := by decide +kernel
theorem dL_law_363 : decode cL_law 363 = .ok (.invokevirtual 49, 3) := by decide +kernel
theorem dL_law_366 : decode cL_law 366 = .ok (.aload_n 2, 1) := by decide +kernel
theorem dL_law_367 : decode cL_law 367 = .ok (.aload_n 0, 1) := by decide +kernel
theorem dL_law_368 : decode cL_law 368 = .ok (.iload_n 3, 1) := by decide +kernel
theorem dL_law_369 : decode cL_law 369 = .ok (.iconst 1, 1) := by decide +kernel
theorem dL_law_370 : decode cL_law 370 = .ok (.iadd, 1) := by decide +kernel
theorem dL_law_371 : decode cL_law 371 = .ok (.iaload, 1) := by decide +kernel
theorem dL_law_372 : decode cL_law 372 = .ok (.aload_n 0, 1) := by decide +kernel
theorem dL_law_373 : decode cL_law 373 = .ok (.iload_n 3, 1) := by decide +kernel
theorem dL_law_374 : decode cL_law 374 = .ok (.iconst 2, 1) := by decide +kernel
theorem dL_law_375 : decode cL_law 375 = .ok (.iadd, 1) := by decide +kernel
theorem dL_law_376 : decode cL_law 376 = .ok (.iaload, 1) := by decide +kernel
theorem dL_law_377 : decode cL_law 377 = .ok (.aload_n 0, 1) := by decide +kernel
theorem dL_law_378 : decode cL_law 378 = .ok (.iload_n 3, 1) := by decide +kernel
theorem dL_law_379 : decode cL_law 379 = .ok (.iconst 3, 1) := by decide +kernel
theorem dL_law_380 : decode cL_law 380 = .ok (.iadd, 1) := by decide +kernel
theorem dL_law_381 : decode cL_law 381 = .ok (.iaload, 1) := by decide +kernel
theorem dL_law_382 : decode cL_law 382 = .ok (.aload_n 0, 1) := by decide +kernel
theorem dL_law_383 : decode cL_law 383 = .ok (.iload_n 3, 1) := by decide +kernel
theorem dL_law_384 : decode cL_law 384 = .ok (.iconst 4, 1) := by decide +kernel
theorem dL_law_385 : decode cL_law 385 = .ok (.iadd, 1) := by decide +kernel
theorem dL_law_386 : decode cL_law 386 = .ok (.iaload, 1) := by decide +kernel
theorem dL_law_387 : decode cL_law 387 = .ok (.invokevirtual 53, 3) := by decide +kernel
theorem dL_law_390 : decode cL_law 390 = .ok (.if_icmp .eq 484, 3) := by decide +kernel
theorem dL_law_393 : decode cL_law 393 = .ok (.iconst 0, 1) := by decide +kernel
theorem dL_law_394 : decode cL_law 394 = .ok (.ireturn, 1) := by decide +kernel
set_option maxHeartbeats 2000000 in
set_option maxRecDepth 100000 in
theorem st_give {p : Program} {e : Env} {s : State} {m : MethodId} {below : List Frame} {meth : Method} {c : Code} {H : Heap} {locs : List Loc} {cells slots : Nat} {Q : State → Prop} {ls : Array Slot} {D : va_G} {q : Nat → ClassId} {A : Nat → Prop} (l : Launch) {b L i : Nat} {xs : Nat → Int32} {ad : Nat → Nat} {td : Nat → Nat} {ν0 : Nat → Int32} {ν1 : Nat → Int32} {ν2 : Int32} {ν3 : Int32} {sd : Nat → Nat} {X : Nat → Nat → Int32} {dd : Nat → Nat} {Y : Nat → Nat → Int32} {md : Nat → Nat} {μ0 : Nat → Int32} {μ1 : Nat → Int32} {μ2 : Int32} {rd : Nat → Nat} {ρ0 : Nat → Int32} {ρ1 : Nat → Int32} {ρ2 : Int32} {nd : Nat → Nat} {N : Nat → Int32} {ud : Nat → Nat} {ua : Nat → Nat → Nat} {U : Nat → Nat → Int32} {pd : Nat → Nat} {pa : Nat → Nat → Nat} {P : Nat → Nat → Int32} {hd : Nat → Nat} {τ0 : Int32} {τ1 : Int32} {τ2 : Int32} {τ3 : Int32} {fd : Nat → Nat} {F : Nat → Int32} {gd : Nat → Nat} {γ0 : Int32} {γ1 : Int64} {γ2 : Int32} {γ3 : Nat → Int32} {γ4 : Nat → Int32} {γ5 : Nat → Int32} {uh ph : Nat} {zd : Nat → Nat} {σ0 : Int32} {σ1 : Nat → Int32} {σ2 : Nat → Int32} {σ3 : Nat → Int32} {σ4 : Nat → Int32} {σ5 : Nat → Int32} {σ6 : Nat → Int32} {σ7 : Nat → Int32} {σ8 : Nat → Int32} {σ9 : Nat → Int32} {σ10 : Nat → Int32} {σ11 : Nat → Int32} {σ12 : Nat → Int32} {σ13 : Nat → Int32} {σ14 : Nat → Int32} {σ15 : Nat → Int32} {σ16 : Nat → Int32} {σ17 : Nat → Int32} {σ18 : Nat → Int32} {σ19 : Nat → Int32} {σ20 : Int32} {σ21 : Int32} {σ22 : Int32} {σ23 : Nat → Int32} {σ24 : Int32} {σ25 : Int32} {σ26 : Nat → Int32} {σ27 : Nat → Int32} {σ28 : Nat → Int32} {σ29 : Nat → Int32} {σ30 : Nat → Int32} {f : Nat} {t : Nat} {g : Nat} {n : Nat} {S : Nat → Nat → Int32} (hfix : CallFix p m c cL_law 4 s #[Value.ref b] wsL_law RL) (hroom : cells ≤ room_1.cells ∧ slots ≤ room_1.slots) (hX : va_X b L xs s s.heap) (hbl : b < s.heap.size) (hbA : ¬ A b) (hL9 : L ≤ 384) (hi9 : i + 6 ≤ L) (hl : lv_has ls 4 [(0, .ref b), (1, .ref (ad 0)), (2, .ref (zd 0)), (3, .int (nI i))]) (hM : xM D (TY q) [w8 q ad (td 0) (sd 0) (dd 0) (md 0) (rd 0) (nd 0) (ud 0) (pd 0) (hd 0) (gd 0), w2 q td ν0 ν1 ν2 ν3, wst q sd X, wst q dd Y, w3 q md μ0 μ1 μ2, w3 q rd ρ0 ρ1 ρ2, wk q nd N, wp q ud ua 8 (nI uh), wpl q ua U 8, wp q pd pa 2 (nI ph), wpl q pa P 2, w0 q hd τ0 τ1 τ2 τ3 (fd 0), wk q fd F, w6 q gd γ0 γ1 γ2 γ3 γ4 γ5, w9 q zd σ0 σ1 σ2 σ3 σ4 σ5 σ6 σ7 σ8 σ9 σ10 σ11 σ12 σ13 σ14 σ15 σ16 σ17 σ18 σ19 σ20 σ21 σ22 σ23 σ24 σ25 σ26 σ27 σ28 σ29 σ30] A s.heap s H locs) (hv_f : xs (i + 1) = nI f) (hv_t : xs (i + 2) = nI t) (hv_g : xs (i + 3) = nI g) (hv_n : xs (i + 4) = nI n) (hT : okT X S) (huh : uh ≤ 8) (hK : okK N) (hf0 : f < (tn (S 5 0))) (ht0 : t < (tn (S 5 0))) (hft : ¬ f = t) (hg0 : g < (tn (S 2 0))) (hn9 : 1 ≤ n ∧ n ≤ 40) (hre : ¬ xarr N (S 6 f) (S 6 t) (5 * f + g) (nI n) < 0) (r_hfr0 : f < tn (σ5 0)) (r_hto0 : t < tn (σ5 0)) (r_hne : f ≠ t) (r_hg0 : g < tn (σ2 0)) (r_hn1 : 1 ≤ n ∧ n ≤ 40) (r_hc2 : σ2 0 = nI (tn (σ2 0)) ∧ tn (σ2 0) ≤ 5) (r_hc5 : σ5 0 = nI (tn (σ5 0)) ∧ tn (σ5 0) ≤ 5) (r_hK0 : okK (xreg σ19 0)) (r_hU : σ20 = nI (tn σ20) ∧ tn σ20 ≤ 8) (r_hre : 0 ≤ xref (xreg σ19 0) (σ6 f) (σ6 t) (5 * f + g) (nI n)) (hret : (xarr N (S 6 f) (S 6 t) (5 * f + g) (nI n) : Int32) = xreg σ19 0 25 + xap (σ6 f) (σ6 t)) (kk : ∀ (H : Heap) (locs : List Loc), xM D (TY q) [w8 q ad (td 0) (sd 0) (dd 0) (md 0) (rd 0) (nd 0) (ud 0) (pd 0) (hd 0) (gd 0), w2 q td ν0 ν1 ν2 ν3, wst q sd X, wst q dd Y, w3 q md μ0 μ1 μ2, w3 q rd ρ0 ρ1 ρ2, wk q nd (kGive N (xap (S 6 f) (S 6 t)) f t g (nI n)), wp q ud (xpA 8 uh ua) 8 (nI (xpH 8 uh)), wpl q (xpA 8 uh ua) (xpK 8 uh U N) 8, wp q pd pa 2 (nI ph), wpl q pa P 2, w0 q hd τ0 τ1 τ2 τ3 (fd 0), wk q fd F, w6 q gd γ0 γ1 γ2 γ3 γ4 γ5, w9 q zd σ0 σ1 σ2 σ3 σ4 σ5 σ6 σ7 σ8 σ9 σ10 σ11 σ12 σ13 σ14 σ15 σ16 σ17 σ18 (xspl (xnote σ19 (tn σ20)) 0 (kGive (xreg σ19 0) (xap (σ6 f) (σ6 t)) f t g (nI n))) (nI (xnU (tn σ20))) σ21 σ22 σ23 σ24 σ25 σ26 σ27 σ28 σ29 σ30] A s.heap s H locs → W p l e room_1 s m #[Value.ref b] below meth c H locs cells slots Q (F0 m 874 ls [])) : W p l e room_1 s m #[Value.ref b] below meth c H locs cells slots Q (F0 m 342 ls []) := by
  obtain ⟨hx, hb, hml, hown, hts⟩ := id hfix
  refine lv_aload_n hx hb dL_law_342 rfl (lv_at hl 1 rfl) ?_
  refine lv_aload_n hx hb dL_law_343 rfl (lv_at hl 0 rfl) ?_
  refine lv_iload_n hx hb dL_law_344 rfl (lv_at hl 3 rfl) ?_
  refine lv_iconst (v := nI 1) hx hb dL_law_345 (by decide) ?_
  refine x_iadd (x := i) (y := 1) hx hb dL_law_346 ?_
  refine va_sld hx hb hX hbl hbA hM.2.2.2.1 (i := nI (i + 1)) (vp_in_nI (by omega) (by omega)) dL_law_347 ?_
  refine x_cast (y := xs (i + 1)) (by rw [nI_clamp (by omega)]) ?_
  refine x_cast (y := nI f) hv_f ?_
  refine lv_aload_n hx hb dL_law_348 rfl (lv_at hl 0 rfl) ?_
  refine lv_iload_n hx hb dL_law_349 rfl (lv_at hl 3 rfl) ?_
  refine lv_iconst (v := nI 2) hx hb dL_law_350 (by decide) ?_
  refine x_iadd (x := i) (y := 2) hx hb dL_law_351 ?_
  refine va_sld hx hb hX hbl hbA hM.2.2.2.1 (i := nI (i + 2)) (vp_in_nI (by omega) (by omega)) dL_law_352 ?_
  refine x_cast (y := xs (i + 2)) (by rw [nI_clamp (by omega)]) ?_
  refine x_cast (y := nI t) hv_t ?_
  refine lv_aload_n hx hb dL_law_353 rfl (lv_at hl 0 rfl) ?_
  refine lv_iload_n hx hb dL_law_354 rfl (lv_at hl 3 rfl) ?_
  refine lv_iconst (v := nI 3) hx hb dL_law_355 (by decide) ?_
  refine x_iadd (x := i) (y := 3) hx hb dL_law_356 ?_
  refine va_sld hx hb hX hbl hbA hM.2.2.2.1 (i := nI (i + 3)) (vp_in_nI (by omega) (by omega)) dL_law_357 ?_
  refine x_cast (y := xs (i + 3)) (by rw [nI_clamp (by omega)]) ?_
  refine x_cast (y := nI g) hv_g ?_
  refine lv_aload_n hx hb dL_law_358 rfl (lv_at hl 0 rfl) ?_
  refine lv_iload_n hx hb dL_law_359 rfl (lv_at hl 3 rfl) ?_
  refine lv_iconst (v := nI 4) hx hb dL_law_360 (by decide) ?_
  refine x_iadd (x := i) (y := 4) hx hb dL_law_361 ?_
  refine va_sld hx hb hX hbl hbA hM.2.2.2.1 (i := nI (i + 4)) (vp_in_nI (by omega) (by omega)) dL_law_362 ?_
  refine x_cast (y := xs (i + 4)) (by rw [nI_clamp (by omega)]) ?_
  refine x_cast (y := nI n) hv_n ?_
  refine x_calli (bc := [w8 q ad (td 0) (sd 0) (dd 0) (md 0) (rd 0) (nd 0) (ud 0) (pd 0) (hd 0) (gd 0), wst q sd X, wk q nd N, wp q ud ua 8 (nI uh), wpl q ua U 8]) (br := [w2 q td ν0 ν1 ν2 ν3, wst q dd Y, w3 q md μ0 μ1 μ2, w3 q rd ρ0 ρ1 ρ2, wp q pd pa 2 (nI ph), wpl q pa P 2, w0 q hd τ0 τ1 τ2 τ3 (fd 0), wk q fd F, w6 q gd γ0 γ1 γ2 γ3 γ4 γ5, w9 q zd σ0 σ1 σ2 σ3 σ4 σ5 σ6 σ7 σ8 σ9 σ10 σ11 σ12 σ13 σ14 σ15 σ16 σ17 σ18 σ19 σ20 σ21 σ22 σ23 σ24 σ25 σ26 σ27 σ28 σ29 σ30]) hM [0, 2, 6, 7, 8] [1, 3, 4, 5, 9, 10, 11, 12, 13, 14] rfl rfl rfl (by decide) (x_runV (As := [.int (nI f), .int (nI t), .int (nI g), .int (nI n)]) (rest := []) hfix (c_X8_give l D q ad (td 0) (sd 0) (dd 0) (md 0) (rd 0) (nd 0) (ud 0) (pd 0) (hd 0) (gd 0) sd X nd N ud ua U S uh f t g n hT huh hK hf0 ht0 hft hg0 hn9 hre) (cwV 4 hts gL_law_X8_give rfl rfl rfl (by decide +kernel) ⟨Nat.le_of_ble_eq_true rfl, Nat.le_of_ble_eq_true rfl⟩) hM [0, 2, 6, 7, 8] rfl rfl 0 0 rfl rfl rfl rfl rfl hl.1 rfl (Nat.le_of_ble_eq_true rfl) dL_law_363 hroom) (fun r u H locs hq hM => ?_)
  subst hq
  have hM : xM D (TY q) [w2 q td ν0 ν1 ν2 ν3, wst q dd Y, w3 q md μ0 μ1 μ2, w3 q rd ρ0 ρ1 ρ2, wp q pd pa 2 (nI ph), wpl q pa P 2, w0 q hd τ0 τ1 τ2 τ3 (fd 0), wk q fd F, w6 q gd γ0 γ1 γ2 γ3 γ4 γ5, w9 q zd σ0 σ1 σ2 σ3 σ4 σ5 σ6 σ7 σ8 σ9 σ10 σ11 σ12 σ13 σ14 σ15 σ16 σ17 σ18 σ19 σ20 σ21 σ22 σ23 σ24 σ25 σ26 σ27 σ28 σ29 σ30, w8 q ad (td 0) (sd 0) (dd 0) (md 0) (rd 0) (nd 0) (ud 0) (pd 0) (hd 0) (gd 0), wst q sd X, wk q nd (kGive N (xap (S 6 f) (S 6 t)) f t g (nI n)), wp q ud (xpA 8 uh ua) 8 (nI (xpH 8 uh)), wpl q (xpA 8 uh ua) (xpK 8 uh U N) 8] A s.heap s H locs := hM
  have hM : xM D (TY q) [w8 q ad (td 0) (sd 0) (dd 0) (md 0) (rd 0) (nd 0) (ud 0) (pd 0) (hd 0) (gd 0), w2 q td ν0 ν1 ν2 ν3, wst q sd X, wst q dd Y, w3 q md μ0 μ1 μ2, w3 q rd ρ0 ρ1 ρ2, wk q nd (kGive N (xap (S 6 f) (S 6 t)) f t g (nI n)), wp q ud (xpA 8 uh ua) 8 (nI (xpH 8 uh)), wpl q (xpA 8 uh ua) (xpK 8 uh U N) 8, wp q pd pa 2 (nI ph), wpl q pa P 2, w0 q hd τ0 τ1 τ2 τ3 (fd 0), wk q fd F, w6 q gd γ0 γ1 γ2 γ3 γ4 γ5, w9 q zd σ0 σ1 σ2 σ3 σ4 σ5 σ6 σ7 σ8 σ9 σ10 σ11 σ12 σ13 σ14 σ15 σ16 σ17 σ18 σ19 σ20 σ21 σ22 σ23 σ24 σ25 σ26 σ27 σ28 σ29 σ30] A s.heap s H locs := hM.sel [10, 0, 11, 1, 2, 3, 12, 13, 14, 4, 5, 6, 7, 8, 9] rfl rfl
  refine lv_aload_n hx hb dL_law_366 rfl (lv_at hl 2 rfl) ?_
  refine lv_aload_n hx hb dL_law_367 rfl (lv_at hl 0 rfl) ?_
  refine lv_iload_n hx hb dL_law_368 rfl (lv_at hl 3 rfl) ?_
  refine lv_iconst (v := nI 1) hx hb dL_law_369 (by decide) ?_
  refine x_iadd (x := i) (y := 1) hx hb dL_law_370 ?_
  refine va_sld hx hb hX hbl hbA hM.2.2.2.1 (i := nI (i + 1)) (vp_in_nI (by omega) (by omega)) dL_law_371 ?_
  refine x_cast (y := xs (i + 1)) (by rw [nI_clamp (by omega)]) ?_
  refine x_cast (y := nI f) hv_f ?_
  refine lv_aload_n hx hb dL_law_372 rfl (lv_at hl 0 rfl) ?_
  refine lv_iload_n hx hb dL_law_373 rfl (lv_at hl 3 rfl) ?_
  refine lv_iconst (v := nI 2) hx hb dL_law_374 (by decide) ?_
  refine x_iadd (x := i) (y := 2) hx hb dL_law_375 ?_
  refine va_sld hx hb hX hbl hbA hM.2.2.2.1 (i := nI (i + 2)) (vp_in_nI (by omega) (by omega)) dL_law_376 ?_
  refine x_cast (y := xs (i + 2)) (by rw [nI_clamp (by omega)]) ?_
  refine x_cast (y := nI t) hv_t ?_
  refine lv_aload_n hx hb dL_law_377 rfl (lv_at hl 0 rfl) ?_
  refine lv_iload_n hx hb dL_law_378 rfl (lv_at hl 3 rfl) ?_
  refine lv_iconst (v := nI 3) hx hb dL_law_379 (by decide) ?_
  refine x_iadd (x := i) (y := 3) hx hb dL_law_380 ?_
  refine va_sld hx hb hX hbl hbA hM.2.2.2.1 (i := nI (i + 3)) (vp_in_nI (by omega) (by omega)) dL_law_381 ?_
  refine x_cast (y := xs (i + 3)) (by rw [nI_clamp (by omega)]) ?_
  refine x_cast (y := nI g) hv_g ?_
  refine lv_aload_n hx hb dL_law_382 rfl (lv_at hl 0 rfl) ?_
  refine lv_iload_n hx hb dL_law_383 rfl (lv_at hl 3 rfl) ?_
  refine lv_iconst (v := nI 4) hx hb dL_law_384 (by decide) ?_
  refine x_iadd (x := i) (y := 4) hx hb dL_law_385 ?_
  refine va_sld hx hb hX hbl hbA hM.2.2.2.1 (i := nI (i + 4)) (vp_in_nI (by omega) (by omega)) dL_law_386 ?_
  refine x_cast (y := xs (i + 4)) (by rw [nI_clamp (by omega)]) ?_
  refine x_cast (y := nI n) hv_n ?_
  refine x_calli (bc := [w9 q zd σ0 σ1 σ2 σ3 σ4 σ5 σ6 σ7 σ8 σ9 σ10 σ11 σ12 σ13 σ14 σ15 σ16 σ17 σ18 σ19 σ20 σ21 σ22 σ23 σ24 σ25 σ26 σ27 σ28 σ29 σ30]) (br := [w8 q ad (td 0) (sd 0) (dd 0) (md 0) (rd 0) (nd 0) (ud 0) (pd 0) (hd 0) (gd 0), w2 q td ν0 ν1 ν2 ν3, wst q sd X, wst q dd Y, w3 q md μ0 μ1 μ2, w3 q rd ρ0 ρ1 ρ2, wk q nd (kGive N (xap (S 6 f) (S 6 t)) f t g (nI n)), wp q ud (xpA 8 uh ua) 8 (nI (xpH 8 uh)), wpl q (xpA 8 uh ua) (xpK 8 uh U N) 8, wp q pd pa 2 (nI ph), wpl q pa P 2, w0 q hd τ0 τ1 τ2 τ3 (fd 0), wk q fd F, w6 q gd γ0 γ1 γ2 γ3 γ4 γ5]) hM [14] [0, 1, 2, 3, 4, 5, 6, 7, 8, 9, 10, 11, 12, 13] rfl rfl rfl (by decide) (x_runV (As := [.int (nI f), .int (nI t), .int (nI g), .int (nI n)]) (rest := [.int (xarr N (S 6 f) (S 6 t) (5 * f + g) (nI n))]) hfix (c_X9_give l D q zd σ0 σ1 σ2 σ3 σ4 σ5 σ6 σ7 σ8 σ9 σ10 σ11 σ12 σ13 σ14 σ15 σ16 σ17 σ18 σ19 σ20 σ21 σ22 σ23 σ24 σ25 σ26 σ27 σ28 σ29 σ30 f t g n r_hfr0 r_hto0 r_hne r_hg0 r_hn1 r_hc2 r_hc5 r_hK0 r_hU r_hre) (cwV 4 hts gL_law_X9_give rfl rfl rfl (by decide +kernel) ⟨Nat.le_of_ble_eq_true rfl, Nat.le_of_ble_eq_true rfl⟩) hM [14] rfl rfl 14 0 rfl rfl rfl rfl rfl hl.1 rfl (Nat.le_of_ble_eq_true rfl) dL_law_387 hroom) (fun r u H locs hq hM => ?_)
  subst hq
  have hM : xM D (TY q) [w8 q ad (td 0) (sd 0) (dd 0) (md 0) (rd 0) (nd 0) (ud 0) (pd 0) (hd 0) (gd 0), w2 q td ν0 ν1 ν2 ν3, wst q sd X, wst q dd Y, w3 q md μ0 μ1 μ2, w3 q rd ρ0 ρ1 ρ2, wk q nd (kGive N (xap (S 6 f) (S 6 t)) f t g (nI n)), wp q ud (xpA 8 uh ua) 8 (nI (xpH 8 uh)), wpl q (xpA 8 uh ua) (xpK 8 uh U N) 8, wp q pd pa 2 (nI ph), wpl q pa P 2, w0 q hd τ0 τ1 τ2 τ3 (fd 0), wk q fd F, w6 q gd γ0 γ1 γ2 γ3 γ4 γ5, w9 q zd σ0 σ1 σ2 σ3 σ4 σ5 σ6 σ7 σ8 σ9 σ10 σ11 σ12 σ13 σ14 σ15 σ16 σ17 σ18 (xspl (xnote σ19 (tn σ20)) 0 (kGive (xreg σ19 0) (xap (σ6 f) (σ6 t)) f t g (nI n))) (nI (xnU (tn σ20))) σ21 σ22 σ23 σ24 σ25 σ26 σ27 σ28 σ29 σ30] A s.heap s H locs := hM
  refine lv_icmp_eq (tgt := 874) hx hb dL_law_390 (by decide) (fun c1 => ?_) (fun c1 => absurd (hret) c1)
  exact kk _ _ hM
set_option maxHeartbeats 2000000 in
set_option maxRecDepth 100000 in
theorem st_giveN {p : Program} {e : Env} {s : State} {m : MethodId} {below : List Frame} {meth : Method} {c : Code} {H : Heap} {locs : List Loc} {cells slots : Nat} {Q : State → Prop} {ls : Array Slot} {D : va_G} {q : Nat → ClassId} {A : Nat → Prop} (l : Launch) {b L i : Nat} {xs : Nat → Int32} {ad : Nat → Nat} {td : Nat → Nat} {ν0 : Nat → Int32} {ν1 : Nat → Int32} {ν2 : Int32} {ν3 : Int32} {sd : Nat → Nat} {X : Nat → Nat → Int32} {dd : Nat → Nat} {Y : Nat → Nat → Int32} {md : Nat → Nat} {μ0 : Nat → Int32} {μ1 : Nat → Int32} {μ2 : Int32} {rd : Nat → Nat} {ρ0 : Nat → Int32} {ρ1 : Nat → Int32} {ρ2 : Int32} {nd : Nat → Nat} {N : Nat → Int32} {ud : Nat → Nat} {ua : Nat → Nat → Nat} {U : Nat → Nat → Int32} {pd : Nat → Nat} {pa : Nat → Nat → Nat} {P : Nat → Nat → Int32} {hd : Nat → Nat} {τ0 : Int32} {τ1 : Int32} {τ2 : Int32} {τ3 : Int32} {fd : Nat → Nat} {F : Nat → Int32} {gd : Nat → Nat} {γ0 : Int32} {γ1 : Int64} {γ2 : Int32} {γ3 : Nat → Int32} {γ4 : Nat → Int32} {γ5 : Nat → Int32} {uh ph : Nat} {zd : Nat → Nat} {σ0 : Int32} {σ1 : Nat → Int32} {σ2 : Nat → Int32} {σ3 : Nat → Int32} {σ4 : Nat → Int32} {σ5 : Nat → Int32} {σ6 : Nat → Int32} {σ7 : Nat → Int32} {σ8 : Nat → Int32} {σ9 : Nat → Int32} {σ10 : Nat → Int32} {σ11 : Nat → Int32} {σ12 : Nat → Int32} {σ13 : Nat → Int32} {σ14 : Nat → Int32} {σ15 : Nat → Int32} {σ16 : Nat → Int32} {σ17 : Nat → Int32} {σ18 : Nat → Int32} {σ19 : Nat → Int32} {σ20 : Int32} {σ21 : Int32} {σ22 : Int32} {σ23 : Nat → Int32} {σ24 : Int32} {σ25 : Int32} {σ26 : Nat → Int32} {σ27 : Nat → Int32} {σ28 : Nat → Int32} {σ29 : Nat → Int32} {σ30 : Nat → Int32} {f : Nat} {t : Nat} {g : Nat} {n : Nat} {S : Nat → Nat → Int32} (hfix : CallFix p m c cL_law 4 s #[Value.ref b] wsL_law RL) (hroom : cells ≤ room_1.cells ∧ slots ≤ room_1.slots) (hX : va_X b L xs s s.heap) (hbl : b < s.heap.size) (hbA : ¬ A b) (hL9 : L ≤ 384) (hi9 : i + 6 ≤ L) (hl : lv_has ls 4 [(0, .ref b), (1, .ref (ad 0)), (2, .ref (zd 0)), (3, .int (nI i))]) (hM : xM D (TY q) [w8 q ad (td 0) (sd 0) (dd 0) (md 0) (rd 0) (nd 0) (ud 0) (pd 0) (hd 0) (gd 0), w2 q td ν0 ν1 ν2 ν3, wst q sd X, wst q dd Y, w3 q md μ0 μ1 μ2, w3 q rd ρ0 ρ1 ρ2, wk q nd N, wp q ud ua 8 (nI uh), wpl q ua U 8, wp q pd pa 2 (nI ph), wpl q pa P 2, w0 q hd τ0 τ1 τ2 τ3 (fd 0), wk q fd F, w6 q gd γ0 γ1 γ2 γ3 γ4 γ5, w9 q zd σ0 σ1 σ2 σ3 σ4 σ5 σ6 σ7 σ8 σ9 σ10 σ11 σ12 σ13 σ14 σ15 σ16 σ17 σ18 σ19 σ20 σ21 σ22 σ23 σ24 σ25 σ26 σ27 σ28 σ29 σ30] A s.heap s H locs) (hv_f : xs (i + 1) = nI f) (hv_t : xs (i + 2) = nI t) (hv_g : xs (i + 3) = nI g) (hv_n : xs (i + 4) = nI n) (hT : okT X S) (hK : okK N) (hf0 : f < (tn (S 5 0))) (ht0 : t < (tn (S 5 0))) (hft : ¬ f = t) (hg0 : g < (tn (S 2 0))) (hn9 : 1 ≤ n ∧ n ≤ 40) (hre : xarr N (S 6 f) (S 6 t) (5 * f + g) (nI n) < 0) (r_hfr0 : f < tn (σ5 0)) (r_hto0 : t < tn (σ5 0)) (r_hne : f ≠ t) (r_hg0 : g < tn (σ2 0)) (r_hn1 : 1 ≤ n ∧ n ≤ 40) (r_hc2 : σ2 0 = nI (tn (σ2 0)) ∧ tn (σ2 0) ≤ 5) (r_hc5 : σ5 0 = nI (tn (σ5 0)) ∧ tn (σ5 0) ≤ 5) (r_hK0 : okK (xreg σ19 0)) (r_hre : ¬ 0 ≤ xref (xreg σ19 0) (σ6 f) (σ6 t) (5 * f + g) (nI n)) (hret : (xarr N (S 6 f) (S 6 t) (5 * f + g) (nI n) : Int32) = xref (xreg σ19 0) (σ6 f) (σ6 t) (5 * f + g) (nI n)) (kk : ∀ (H : Heap) (locs : List Loc), xM D (TY q) [w8 q ad (td 0) (sd 0) (dd 0) (md 0) (rd 0) (nd 0) (ud 0) (pd 0) (hd 0) (gd 0), w2 q td ν0 ν1 ν2 ν3, wst q sd X, wst q dd Y, w3 q md μ0 μ1 μ2, w3 q rd ρ0 ρ1 ρ2, wk q nd N, wp q ud ua 8 (nI uh), wpl q ua U 8, wp q pd pa 2 (nI ph), wpl q pa P 2, w0 q hd τ0 τ1 τ2 τ3 (fd 0), wk q fd F, w6 q gd γ0 γ1 γ2 γ3 γ4 γ5, w9 q zd σ0 σ1 σ2 σ3 σ4 σ5 σ6 σ7 σ8 σ9 σ10 σ11 σ12 σ13 σ14 σ15 σ16 σ17 σ18 σ19 σ20 σ21 σ22 σ23 σ24 σ25 σ26 σ27 σ28 σ29 σ30] A s.heap s H locs → W p l e room_1 s m #[Value.ref b] below meth c H locs cells slots Q (F0 m 874 ls [])) : W p l e room_1 s m #[Value.ref b] below meth c H locs cells slots Q (F0 m 342 ls []) := by
  obtain ⟨hx, hb, hml, hown, hts⟩ := id hfix
  refine lv_aload_n hx hb dL_law_342 rfl (lv_at hl 1 rfl) ?_
  refine lv_aload_n hx hb dL_law_343 rfl (lv_at hl 0 rfl) ?_
  refine lv_iload_n hx hb dL_law_344 rfl (lv_at hl 3 rfl) ?_
  refine lv_iconst (v := nI 1) hx hb dL_law_345 (by decide) ?_
  refine x_iadd (x := i) (y := 1) hx hb dL_law_346 ?_
  refine va_sld hx hb hX hbl hbA hM.2.2.2.1 (i := nI (i + 1)) (vp_in_nI (by omega) (by omega)) dL_law_347 ?_
  refine x_cast (y := xs (i + 1)) (by rw [nI_clamp (by omega)]) ?_
  refine x_cast (y := nI f) hv_f ?_
  refine lv_aload_n hx hb dL_law_348 rfl (lv_at hl 0 rfl) ?_
  refine lv_iload_n hx hb dL_law_349 rfl (lv_at hl 3 rfl) ?_
  refine lv_iconst (v := nI 2) hx hb dL_law_350 (by decide) ?_
  refine x_iadd (x := i) (y := 2) hx hb dL_law_351 ?_
  refine va_sld hx hb hX hbl hbA hM.2.2.2.1 (i := nI (i + 2)) (vp_in_nI (by omega) (by omega)) dL_law_352 ?_
  refine x_cast (y := xs (i + 2)) (by rw [nI_clamp (by omega)]) ?_
  refine x_cast (y := nI t) hv_t ?_
  refine lv_aload_n hx hb dL_law_353 rfl (lv_at hl 0 rfl) ?_
  refine lv_iload_n hx hb dL_law_354 rfl (lv_at hl 3 rfl) ?_
  refine lv_iconst (v := nI 3) hx hb dL_law_355 (by decide) ?_
  refine x_iadd (x := i) (y := 3) hx hb dL_law_356 ?_
  refine va_sld hx hb hX hbl hbA hM.2.2.2.1 (i := nI (i + 3)) (vp_in_nI (by omega) (by omega)) dL_law_357 ?_
  refine x_cast (y := xs (i + 3)) (by rw [nI_clamp (by omega)]) ?_
  refine x_cast (y := nI g) hv_g ?_
  refine lv_aload_n hx hb dL_law_358 rfl (lv_at hl 0 rfl) ?_
  refine lv_iload_n hx hb dL_law_359 rfl (lv_at hl 3 rfl) ?_
  refine lv_iconst (v := nI 4) hx hb dL_law_360 (by decide) ?_
  refine x_iadd (x := i) (y := 4) hx hb dL_law_361 ?_
  refine va_sld hx hb hX hbl hbA hM.2.2.2.1 (i := nI (i + 4)) (vp_in_nI (by omega) (by omega)) dL_law_362 ?_
  refine x_cast (y := xs (i + 4)) (by rw [nI_clamp (by omega)]) ?_
  refine x_cast (y := nI n) hv_n ?_
  refine x_calli (bc := [w8 q ad (td 0) (sd 0) (dd 0) (md 0) (rd 0) (nd 0) (ud 0) (pd 0) (hd 0) (gd 0), wst q sd X, wk q nd N]) (br := [w2 q td ν0 ν1 ν2 ν3, wst q dd Y, w3 q md μ0 μ1 μ2, w3 q rd ρ0 ρ1 ρ2, wp q ud ua 8 (nI uh), wpl q ua U 8, wp q pd pa 2 (nI ph), wpl q pa P 2, w0 q hd τ0 τ1 τ2 τ3 (fd 0), wk q fd F, w6 q gd γ0 γ1 γ2 γ3 γ4 γ5, w9 q zd σ0 σ1 σ2 σ3 σ4 σ5 σ6 σ7 σ8 σ9 σ10 σ11 σ12 σ13 σ14 σ15 σ16 σ17 σ18 σ19 σ20 σ21 σ22 σ23 σ24 σ25 σ26 σ27 σ28 σ29 σ30]) hM [0, 2, 6] [1, 3, 4, 5, 7, 8, 9, 10, 11, 12, 13, 14] rfl rfl rfl (by decide) (x_runV (As := [.int (nI f), .int (nI t), .int (nI g), .int (nI n)]) (rest := []) hfix (c_X8_giveN l D q ad (td 0) (sd 0) (dd 0) (md 0) (rd 0) (nd 0) (ud 0) (pd 0) (hd 0) (gd 0) sd X nd N S f t g n hT hK hf0 ht0 hft hg0 hn9 hre) (cwV 4 hts gL_law_X8_give rfl rfl rfl (by decide +kernel) ⟨Nat.le_of_ble_eq_true rfl, Nat.le_of_ble_eq_true rfl⟩) hM [0, 2, 6] rfl rfl 0 0 rfl rfl rfl rfl rfl hl.1 rfl (Nat.le_of_ble_eq_true rfl) dL_law_363 hroom) (fun r u H locs hq hM => ?_)
  subst hq
  have hM : xM D (TY q) [w2 q td ν0 ν1 ν2 ν3, wst q dd Y, w3 q md μ0 μ1 μ2, w3 q rd ρ0 ρ1 ρ2, wp q ud ua 8 (nI uh), wpl q ua U 8, wp q pd pa 2 (nI ph), wpl q pa P 2, w0 q hd τ0 τ1 τ2 τ3 (fd 0), wk q fd F, w6 q gd γ0 γ1 γ2 γ3 γ4 γ5, w9 q zd σ0 σ1 σ2 σ3 σ4 σ5 σ6 σ7 σ8 σ9 σ10 σ11 σ12 σ13 σ14 σ15 σ16 σ17 σ18 σ19 σ20 σ21 σ22 σ23 σ24 σ25 σ26 σ27 σ28 σ29 σ30, w8 q ad (td 0) (sd 0) (dd 0) (md 0) (rd 0) (nd 0) (ud 0) (pd 0) (hd 0) (gd 0), wst q sd X, wk q nd N] A s.heap s H locs := hM
  have hM : xM D (TY q) [w8 q ad (td 0) (sd 0) (dd 0) (md 0) (rd 0) (nd 0) (ud 0) (pd 0) (hd 0) (gd 0), w2 q td ν0 ν1 ν2 ν3, wst q sd X, wst q dd Y, w3 q md μ0 μ1 μ2, w3 q rd ρ0 ρ1 ρ2, wk q nd N, wp q ud ua 8 (nI uh), wpl q ua U 8, wp q pd pa 2 (nI ph), wpl q pa P 2, w0 q hd τ0 τ1 τ2 τ3 (fd 0), wk q fd F, w6 q gd γ0 γ1 γ2 γ3 γ4 γ5, w9 q zd σ0 σ1 σ2 σ3 σ4 σ5 σ6 σ7 σ8 σ9 σ10 σ11 σ12 σ13 σ14 σ15 σ16 σ17 σ18 σ19 σ20 σ21 σ22 σ23 σ24 σ25 σ26 σ27 σ28 σ29 σ30] A s.heap s H locs := hM.sel [12, 0, 13, 1, 2, 3, 14, 4, 5, 6, 7, 8, 9, 10, 11] rfl rfl
  refine lv_aload_n hx hb dL_law_366 rfl (lv_at hl 2 rfl) ?_
  refine lv_aload_n hx hb dL_law_367 rfl (lv_at hl 0 rfl) ?_
  refine lv_iload_n hx hb dL_law_368 rfl (lv_at hl 3 rfl) ?_
  refine lv_iconst (v := nI 1) hx hb dL_law_369 (by decide) ?_
  refine x_iadd (x := i) (y := 1) hx hb dL_law_370 ?_
  refine va_sld hx hb hX hbl hbA hM.2.2.2.1 (i := nI (i + 1)) (vp_in_nI (by omega) (by omega)) dL_law_371 ?_
  refine x_cast (y := xs (i + 1)) (by rw [nI_clamp (by omega)]) ?_
  refine x_cast (y := nI f) hv_f ?_
  refine lv_aload_n hx hb dL_law_372 rfl (lv_at hl 0 rfl) ?_
  refine lv_iload_n hx hb dL_law_373 rfl (lv_at hl 3 rfl) ?_
  refine lv_iconst (v := nI 2) hx hb dL_law_374 (by decide) ?_
  refine x_iadd (x := i) (y := 2) hx hb dL_law_375 ?_
  refine va_sld hx hb hX hbl hbA hM.2.2.2.1 (i := nI (i + 2)) (vp_in_nI (by omega) (by omega)) dL_law_376 ?_
  refine x_cast (y := xs (i + 2)) (by rw [nI_clamp (by omega)]) ?_
  refine x_cast (y := nI t) hv_t ?_
  refine lv_aload_n hx hb dL_law_377 rfl (lv_at hl 0 rfl) ?_
  refine lv_iload_n hx hb dL_law_378 rfl (lv_at hl 3 rfl) ?_
  refine lv_iconst (v := nI 3) hx hb dL_law_379 (by decide) ?_
  refine x_iadd (x := i) (y := 3) hx hb dL_law_380 ?_
  refine va_sld hx hb hX hbl hbA hM.2.2.2.1 (i := nI (i + 3)) (vp_in_nI (by omega) (by omega)) dL_law_381 ?_
  refine x_cast (y := xs (i + 3)) (by rw [nI_clamp (by omega)]) ?_
  refine x_cast (y := nI g) hv_g ?_
  refine lv_aload_n hx hb dL_law_382 rfl (lv_at hl 0 rfl) ?_
  refine lv_iload_n hx hb dL_law_383 rfl (lv_at hl 3 rfl) ?_
  refine lv_iconst (v := nI 4) hx hb dL_law_384 (by decide) ?_
  refine x_iadd (x := i) (y := 4) hx hb dL_law_385 ?_
  refine va_sld hx hb hX hbl hbA hM.2.2.2.1 (i := nI (i + 4)) (vp_in_nI (by omega) (by omega)) dL_law_386 ?_
  refine x_cast (y := xs (i + 4)) (by rw [nI_clamp (by omega)]) ?_
  refine x_cast (y := nI n) hv_n ?_
  refine x_calli (bc := [w9 q zd σ0 σ1 σ2 σ3 σ4 σ5 σ6 σ7 σ8 σ9 σ10 σ11 σ12 σ13 σ14 σ15 σ16 σ17 σ18 σ19 σ20 σ21 σ22 σ23 σ24 σ25 σ26 σ27 σ28 σ29 σ30]) (br := [w8 q ad (td 0) (sd 0) (dd 0) (md 0) (rd 0) (nd 0) (ud 0) (pd 0) (hd 0) (gd 0), w2 q td ν0 ν1 ν2 ν3, wst q sd X, wst q dd Y, w3 q md μ0 μ1 μ2, w3 q rd ρ0 ρ1 ρ2, wk q nd N, wp q ud ua 8 (nI uh), wpl q ua U 8, wp q pd pa 2 (nI ph), wpl q pa P 2, w0 q hd τ0 τ1 τ2 τ3 (fd 0), wk q fd F, w6 q gd γ0 γ1 γ2 γ3 γ4 γ5]) hM [14] [0, 1, 2, 3, 4, 5, 6, 7, 8, 9, 10, 11, 12, 13] rfl rfl rfl (by decide) (x_runV (As := [.int (nI f), .int (nI t), .int (nI g), .int (nI n)]) (rest := [.int (xarr N (S 6 f) (S 6 t) (5 * f + g) (nI n))]) hfix (c_X9_giveN l D q zd σ0 σ1 σ2 σ3 σ4 σ5 σ6 σ7 σ8 σ9 σ10 σ11 σ12 σ13 σ14 σ15 σ16 σ17 σ18 σ19 σ20 σ21 σ22 σ23 σ24 σ25 σ26 σ27 σ28 σ29 σ30 f t g n r_hfr0 r_hto0 r_hne r_hg0 r_hn1 r_hc2 r_hc5 r_hK0 r_hre) (cwV 4 hts gL_law_X9_give rfl rfl rfl (by decide +kernel) ⟨Nat.le_of_ble_eq_true rfl, Nat.le_of_ble_eq_true rfl⟩) hM [14] rfl rfl 14 0 rfl rfl rfl rfl rfl hl.1 rfl (Nat.le_of_ble_eq_true rfl) dL_law_387 hroom) (fun r u H locs hq hM => ?_)
  subst hq
  have hM : xM D (TY q) [w8 q ad (td 0) (sd 0) (dd 0) (md 0) (rd 0) (nd 0) (ud 0) (pd 0) (hd 0) (gd 0), w2 q td ν0 ν1 ν2 ν3, wst q sd X, wst q dd Y, w3 q md μ0 μ1 μ2, w3 q rd ρ0 ρ1 ρ2, wk q nd N, wp q ud ua 8 (nI uh), wpl q ua U 8, wp q pd pa 2 (nI ph), wpl q pa P 2, w0 q hd τ0 τ1 τ2 τ3 (fd 0), wk q fd F, w6 q gd γ0 γ1 γ2 γ3 γ4 γ5, w9 q zd σ0 σ1 σ2 σ3 σ4 σ5 σ6 σ7 σ8 σ9 σ10 σ11 σ12 σ13 σ14 σ15 σ16 σ17 σ18 σ19 σ20 σ21 σ22 σ23 σ24 σ25 σ26 σ27 σ28 σ29 σ30] A s.heap s H locs := hM
  refine lv_icmp_eq (tgt := 874) hx hb dL_law_390 (by decide) (fun c1 => ?_) (fun c1 => absurd (hret) c1)
  exact kk _ _ hM
set_option maxHeartbeats 2000000 in
set_option maxRecDepth 100000 in
theorem st_giveB {p : Program} {e : Env} {s : State} {m : MethodId} {below : List Frame} {meth : Method} {c : Code} {H : Heap} {locs : List Loc} {cells slots : Nat} {Q : State → Prop} {ls : Array Slot} {D : va_G} {q : Nat → ClassId} {A : Nat → Prop} (l : Launch) {b L i : Nat} {xs : Nat → Int32} {ad : Nat → Nat} {td : Nat → Nat} {ν0 : Nat → Int32} {ν1 : Nat → Int32} {ν2 : Int32} {ν3 : Int32} {sd : Nat → Nat} {X : Nat → Nat → Int32} {dd : Nat → Nat} {Y : Nat → Nat → Int32} {md : Nat → Nat} {μ0 : Nat → Int32} {μ1 : Nat → Int32} {μ2 : Int32} {rd : Nat → Nat} {ρ0 : Nat → Int32} {ρ1 : Nat → Int32} {ρ2 : Int32} {nd : Nat → Nat} {N : Nat → Int32} {ud : Nat → Nat} {ua : Nat → Nat → Nat} {U : Nat → Nat → Int32} {pd : Nat → Nat} {pa : Nat → Nat → Nat} {P : Nat → Nat → Int32} {hd : Nat → Nat} {τ0 : Int32} {τ1 : Int32} {τ2 : Int32} {τ3 : Int32} {fd : Nat → Nat} {F : Nat → Int32} {gd : Nat → Nat} {γ0 : Int32} {γ1 : Int64} {γ2 : Int32} {γ3 : Nat → Int32} {γ4 : Nat → Int32} {γ5 : Nat → Int32} {uh ph : Nat} {zd : Nat → Nat} {σ0 : Int32} {σ1 : Nat → Int32} {σ2 : Nat → Int32} {σ3 : Nat → Int32} {σ4 : Nat → Int32} {σ5 : Nat → Int32} {σ6 : Nat → Int32} {σ7 : Nat → Int32} {σ8 : Nat → Int32} {σ9 : Nat → Int32} {σ10 : Nat → Int32} {σ11 : Nat → Int32} {σ12 : Nat → Int32} {σ13 : Nat → Int32} {σ14 : Nat → Int32} {σ15 : Nat → Int32} {σ16 : Nat → Int32} {σ17 : Nat → Int32} {σ18 : Nat → Int32} {σ19 : Nat → Int32} {σ20 : Int32} {σ21 : Int32} {σ22 : Int32} {σ23 : Nat → Int32} {σ24 : Int32} {σ25 : Int32} {σ26 : Nat → Int32} {σ27 : Nat → Int32} {σ28 : Nat → Int32} {σ29 : Nat → Int32} {σ30 : Nat → Int32} {S : Nat → Nat → Int32} (hfix : CallFix p m c cL_law 4 s #[Value.ref b] wsL_law RL) (hroom : cells ≤ room_1.cells ∧ slots ≤ room_1.slots) (hX : va_X b L xs s s.heap) (hbl : b < s.heap.size) (hbA : ¬ A b) (hL9 : L ≤ 384) (hi9 : i + 6 ≤ L) (hl : lv_has ls 4 [(0, .ref b), (1, .ref (ad 0)), (2, .ref (zd 0)), (3, .int (nI i))]) (hM : xM D (TY q) [w8 q ad (td 0) (sd 0) (dd 0) (md 0) (rd 0) (nd 0) (ud 0) (pd 0) (hd 0) (gd 0), w2 q td ν0 ν1 ν2 ν3, wst q sd X, wst q dd Y, w3 q md μ0 μ1 μ2, w3 q rd ρ0 ρ1 ρ2, wk q nd N, wp q ud ua 8 (nI uh), wpl q ua U 8, wp q pd pa 2 (nI ph), wpl q pa P 2, w0 q hd τ0 τ1 τ2 τ3 (fd 0), wk q fd F, w6 q gd γ0 γ1 γ2 γ3 γ4 γ5, w9 q zd σ0 σ1 σ2 σ3 σ4 σ5 σ6 σ7 σ8 σ9 σ10 σ11 σ12 σ13 σ14 σ15 σ16 σ17 σ18 σ19 σ20 σ21 σ22 σ23 σ24 σ25 σ26 σ27 σ28 σ29 σ30] A s.heap s H locs) (hT : okT X S) (hbad : ¬ (0 ≤ ((xs (i + 1)).toInt) ∧ ((xs (i + 1)).toInt) < (tn (S 5 0))) ∨ ¬ (0 ≤ ((xs (i + 2)).toInt) ∧ ((xs (i + 2)).toInt) < (tn (S 5 0))) ∨ (xs (i + 1)) = (xs (i + 2)) ∨ ¬ (0 ≤ ((xs (i + 3)).toInt) ∧ ((xs (i + 3)).toInt) < (tn (S 2 0))) ∨ ¬ (1 ≤ ((xs (i + 4)).toInt) ∧ ((xs (i + 4)).toInt) ≤ 40)) (r_hc2 : σ2 0 = nI (tn (σ2 0)) ∧ tn (σ2 0) ≤ 5) (r_hc5 : σ5 0 = nI (tn (σ5 0)) ∧ tn (σ5 0) ≤ 5) (r_hbad : ¬ (0 ≤ ((xs (i + 1)).toInt) ∧ ((xs (i + 1)).toInt) < tn (σ5 0)) ∨ ¬ (0 ≤ ((xs (i + 2)).toInt) ∧ ((xs (i + 2)).toInt) < tn (σ5 0)) ∨ (xs (i + 1)) = (xs (i + 2)) ∨ ¬ (0 ≤ ((xs (i + 3)).toInt) ∧ ((xs (i + 3)).toInt) < tn (σ2 0)) ∨ ¬ (1 ≤ ((xs (i + 4)).toInt) ∧ ((xs (i + 4)).toInt) ≤ 40)) (hret : ((-1) : Int32) = (-1)) (kk : ∀ (H : Heap) (locs : List Loc), xM D (TY q) [w8 q ad (td 0) (sd 0) (dd 0) (md 0) (rd 0) (nd 0) (ud 0) (pd 0) (hd 0) (gd 0), w2 q td ν0 ν1 ν2 ν3, wst q sd X, wst q dd Y, w3 q md μ0 μ1 μ2, w3 q rd ρ0 ρ1 ρ2, wk q nd N, wp q ud ua 8 (nI uh), wpl q ua U 8, wp q pd pa 2 (nI ph), wpl q pa P 2, w0 q hd τ0 τ1 τ2 τ3 (fd 0), wk q fd F, w6 q gd γ0 γ1 γ2 γ3 γ4 γ5, w9 q zd σ0 σ1 σ2 σ3 σ4 σ5 σ6 σ7 σ8 σ9 σ10 σ11 σ12 σ13 σ14 σ15 σ16 σ17 σ18 σ19 σ20 σ21 σ22 σ23 σ24 σ25 σ26 σ27 σ28 σ29 σ30] A s.heap s H locs → W p l e room_1 s m #[Value.ref b] below meth c H locs cells slots Q (F0 m 874 ls [])) : W p l e room_1 s m #[Value.ref b] below meth c H locs cells slots Q (F0 m 342 ls []) := by
  obtain ⟨hx, hb, hml, hown, hts⟩ := id hfix
  refine lv_aload_n hx hb dL_law_342 rfl (lv_at hl 1 rfl) ?_
  refine lv_aload_n hx hb dL_law_343 rfl (lv_at hl 0 rfl) ?_
  refine lv_iload_n hx hb dL_law_344 rfl (lv_at hl 3 rfl) ?_
  refine lv_iconst (v := nI 1) hx hb dL_law_345 (by decide) ?_
  refine x_iadd (x := i) (y := 1) hx hb dL_law_346 ?_
  refine va_sld hx hb hX hbl hbA hM.2.2.2.1 (i := nI (i + 1)) (vp_in_nI (by omega) (by omega)) dL_law_347 ?_
  refine x_cast (y := xs (i + 1)) (by rw [nI_clamp (by omega)]) ?_
  refine lv_aload_n hx hb dL_law_348 rfl (lv_at hl 0 rfl) ?_
  refine lv_iload_n hx hb dL_law_349 rfl (lv_at hl 3 rfl) ?_
  refine lv_iconst (v := nI 2) hx hb dL_law_350 (by decide) ?_
  refine x_iadd (x := i) (y := 2) hx hb dL_law_351 ?_
  refine va_sld hx hb hX hbl hbA hM.2.2.2.1 (i := nI (i + 2)) (vp_in_nI (by omega) (by omega)) dL_law_352 ?_
  refine x_cast (y := xs (i + 2)) (by rw [nI_clamp (by omega)]) ?_
  refine lv_aload_n hx hb dL_law_353 rfl (lv_at hl 0 rfl) ?_
  refine lv_iload_n hx hb dL_law_354 rfl (lv_at hl 3 rfl) ?_
  refine lv_iconst (v := nI 3) hx hb dL_law_355 (by decide) ?_
  refine x_iadd (x := i) (y := 3) hx hb dL_law_356 ?_
  refine va_sld hx hb hX hbl hbA hM.2.2.2.1 (i := nI (i + 3)) (vp_in_nI (by omega) (by omega)) dL_law_357 ?_
  refine x_cast (y := xs (i + 3)) (by rw [nI_clamp (by omega)]) ?_
  refine lv_aload_n hx hb dL_law_358 rfl (lv_at hl 0 rfl) ?_
  refine lv_iload_n hx hb dL_law_359 rfl (lv_at hl 3 rfl) ?_
  refine lv_iconst (v := nI 4) hx hb dL_law_360 (by decide) ?_
  refine x_iadd (x := i) (y := 4) hx hb dL_law_361 ?_
  refine va_sld hx hb hX hbl hbA hM.2.2.2.1 (i := nI (i + 4)) (vp_in_nI (by omega) (by omega)) dL_law_362 ?_
  refine x_cast (y := xs (i + 4)) (by rw [nI_clamp (by omega)]) ?_
  refine x_calli (bc := [w8 q ad (td 0) (sd 0) (dd 0) (md 0) (rd 0) (nd 0) (ud 0) (pd 0) (hd 0) (gd 0), wst q sd X]) (br := [w2 q td ν0 ν1 ν2 ν3, wst q dd Y, w3 q md μ0 μ1 μ2, w3 q rd ρ0 ρ1 ρ2, wk q nd N, wp q ud ua 8 (nI uh), wpl q ua U 8, wp q pd pa 2 (nI ph), wpl q pa P 2, w0 q hd τ0 τ1 τ2 τ3 (fd 0), wk q fd F, w6 q gd γ0 γ1 γ2 γ3 γ4 γ5, w9 q zd σ0 σ1 σ2 σ3 σ4 σ5 σ6 σ7 σ8 σ9 σ10 σ11 σ12 σ13 σ14 σ15 σ16 σ17 σ18 σ19 σ20 σ21 σ22 σ23 σ24 σ25 σ26 σ27 σ28 σ29 σ30]) hM [0, 2] [1, 3, 4, 5, 6, 7, 8, 9, 10, 11, 12, 13, 14] rfl rfl rfl (by decide) (x_runV (As := [.int (xs (i + 1)), .int (xs (i + 2)), .int (xs (i + 3)), .int (xs (i + 4))]) (rest := []) hfix (c_X8_giveB l D q ad (td 0) (sd 0) (dd 0) (md 0) (rd 0) (nd 0) (ud 0) (pd 0) (hd 0) (gd 0) sd X S (xs (i + 1)) ((xs (i + 1)).toInt) (xs (i + 2)) ((xs (i + 2)).toInt) (xs (i + 3)) ((xs (i + 3)).toInt) (xs (i + 4)) ((xs (i + 4)).toInt) hT rfl rfl rfl rfl hbad) (cwV 4 hts gL_law_X8_give rfl rfl rfl (by decide +kernel) ⟨Nat.le_of_ble_eq_true rfl, Nat.le_of_ble_eq_true rfl⟩) hM [0, 2] rfl rfl 0 0 rfl rfl rfl rfl rfl hl.1 rfl (Nat.le_of_ble_eq_true rfl) dL_law_363 hroom) (fun r u H locs hq hM => ?_)
  subst hq
  have hM : xM D (TY q) [w2 q td ν0 ν1 ν2 ν3, wst q dd Y, w3 q md μ0 μ1 μ2, w3 q rd ρ0 ρ1 ρ2, wk q nd N, wp q ud ua 8 (nI uh), wpl q ua U 8, wp q pd pa 2 (nI ph), wpl q pa P 2, w0 q hd τ0 τ1 τ2 τ3 (fd 0), wk q fd F, w6 q gd γ0 γ1 γ2 γ3 γ4 γ5, w9 q zd σ0 σ1 σ2 σ3 σ4 σ5 σ6 σ7 σ8 σ9 σ10 σ11 σ12 σ13 σ14 σ15 σ16 σ17 σ18 σ19 σ20 σ21 σ22 σ23 σ24 σ25 σ26 σ27 σ28 σ29 σ30, w8 q ad (td 0) (sd 0) (dd 0) (md 0) (rd 0) (nd 0) (ud 0) (pd 0) (hd 0) (gd 0), wst q sd X] A s.heap s H locs := hM
  have hM : xM D (TY q) [w8 q ad (td 0) (sd 0) (dd 0) (md 0) (rd 0) (nd 0) (ud 0) (pd 0) (hd 0) (gd 0), w2 q td ν0 ν1 ν2 ν3, wst q sd X, wst q dd Y, w3 q md μ0 μ1 μ2, w3 q rd ρ0 ρ1 ρ2, wk q nd N, wp q ud ua 8 (nI uh), wpl q ua U 8, wp q pd pa 2 (nI ph), wpl q pa P 2, w0 q hd τ0 τ1 τ2 τ3 (fd 0), wk q fd F, w6 q gd γ0 γ1 γ2 γ3 γ4 γ5, w9 q zd σ0 σ1 σ2 σ3 σ4 σ5 σ6 σ7 σ8 σ9 σ10 σ11 σ12 σ13 σ14 σ15 σ16 σ17 σ18 σ19 σ20 σ21 σ22 σ23 σ24 σ25 σ26 σ27 σ28 σ29 σ30] A s.heap s H locs := hM.sel [13, 0, 14, 1, 2, 3, 4, 5, 6, 7, 8, 9, 10, 11, 12] rfl rfl
  refine lv_aload_n hx hb dL_law_366 rfl (lv_at hl 2 rfl) ?_
  refine lv_aload_n hx hb dL_law_367 rfl (lv_at hl 0 rfl) ?_
  refine lv_iload_n hx hb dL_law_368 rfl (lv_at hl 3 rfl) ?_
  refine lv_iconst (v := nI 1) hx hb dL_law_369 (by decide) ?_
  refine x_iadd (x := i) (y := 1) hx hb dL_law_370 ?_
  refine va_sld hx hb hX hbl hbA hM.2.2.2.1 (i := nI (i + 1)) (vp_in_nI (by omega) (by omega)) dL_law_371 ?_
  refine x_cast (y := xs (i + 1)) (by rw [nI_clamp (by omega)]) ?_
  refine lv_aload_n hx hb dL_law_372 rfl (lv_at hl 0 rfl) ?_
  refine lv_iload_n hx hb dL_law_373 rfl (lv_at hl 3 rfl) ?_
  refine lv_iconst (v := nI 2) hx hb dL_law_374 (by decide) ?_
  refine x_iadd (x := i) (y := 2) hx hb dL_law_375 ?_
  refine va_sld hx hb hX hbl hbA hM.2.2.2.1 (i := nI (i + 2)) (vp_in_nI (by omega) (by omega)) dL_law_376 ?_
  refine x_cast (y := xs (i + 2)) (by rw [nI_clamp (by omega)]) ?_
  refine lv_aload_n hx hb dL_law_377 rfl (lv_at hl 0 rfl) ?_
  refine lv_iload_n hx hb dL_law_378 rfl (lv_at hl 3 rfl) ?_
  refine lv_iconst (v := nI 3) hx hb dL_law_379 (by decide) ?_
  refine x_iadd (x := i) (y := 3) hx hb dL_law_380 ?_
  refine va_sld hx hb hX hbl hbA hM.2.2.2.1 (i := nI (i + 3)) (vp_in_nI (by omega) (by omega)) dL_law_381 ?_
  refine x_cast (y := xs (i + 3)) (by rw [nI_clamp (by omega)]) ?_
  refine lv_aload_n hx hb dL_law_382 rfl (lv_at hl 0 rfl) ?_
  refine lv_iload_n hx hb dL_law_383 rfl (lv_at hl 3 rfl) ?_
  refine lv_iconst (v := nI 4) hx hb dL_law_384 (by decide) ?_
  refine x_iadd (x := i) (y := 4) hx hb dL_law_385 ?_
  refine va_sld hx hb hX hbl hbA hM.2.2.2.1 (i := nI (i + 4)) (vp_in_nI (by omega) (by omega)) dL_law_386 ?_
  refine x_cast (y := xs (i + 4)) (by rw [nI_clamp (by omega)]) ?_
  refine x_calli (bc := [w9 q zd σ0 σ1 σ2 σ3 σ4 σ5 σ6 σ7 σ8 σ9 σ10 σ11 σ12 σ13 σ14 σ15 σ16 σ17 σ18 σ19 σ20 σ21 σ22 σ23 σ24 σ25 σ26 σ27 σ28 σ29 σ30]) (br := [w8 q ad (td 0) (sd 0) (dd 0) (md 0) (rd 0) (nd 0) (ud 0) (pd 0) (hd 0) (gd 0), w2 q td ν0 ν1 ν2 ν3, wst q sd X, wst q dd Y, w3 q md μ0 μ1 μ2, w3 q rd ρ0 ρ1 ρ2, wk q nd N, wp q ud ua 8 (nI uh), wpl q ua U 8, wp q pd pa 2 (nI ph), wpl q pa P 2, w0 q hd τ0 τ1 τ2 τ3 (fd 0), wk q fd F, w6 q gd γ0 γ1 γ2 γ3 γ4 γ5]) hM [14] [0, 1, 2, 3, 4, 5, 6, 7, 8, 9, 10, 11, 12, 13] rfl rfl rfl (by decide) (x_runV (As := [.int (xs (i + 1)), .int (xs (i + 2)), .int (xs (i + 3)), .int (xs (i + 4))]) (rest := [.int (-1)]) hfix (c_X9_giveB l D q zd σ0 σ1 σ2 σ3 σ4 σ5 σ6 σ7 σ8 σ9 σ10 σ11 σ12 σ13 σ14 σ15 σ16 σ17 σ18 σ19 σ20 σ21 σ22 σ23 σ24 σ25 σ26 σ27 σ28 σ29 σ30 (xs (i + 1)) ((xs (i + 1)).toInt) (xs (i + 2)) ((xs (i + 2)).toInt) (xs (i + 3)) ((xs (i + 3)).toInt) (xs (i + 4)) ((xs (i + 4)).toInt) rfl rfl rfl rfl r_hc2 r_hc5 r_hbad) (cwV 4 hts gL_law_X9_give rfl rfl rfl (by decide +kernel) ⟨Nat.le_of_ble_eq_true rfl, Nat.le_of_ble_eq_true rfl⟩) hM [14] rfl rfl 14 0 rfl rfl rfl rfl rfl hl.1 rfl (Nat.le_of_ble_eq_true rfl) dL_law_387 hroom) (fun r u H locs hq hM => ?_)
  subst hq
  have hM : xM D (TY q) [w8 q ad (td 0) (sd 0) (dd 0) (md 0) (rd 0) (nd 0) (ud 0) (pd 0) (hd 0) (gd 0), w2 q td ν0 ν1 ν2 ν3, wst q sd X, wst q dd Y, w3 q md μ0 μ1 μ2, w3 q rd ρ0 ρ1 ρ2, wk q nd N, wp q ud ua 8 (nI uh), wpl q ua U 8, wp q pd pa 2 (nI ph), wpl q pa P 2, w0 q hd τ0 τ1 τ2 τ3 (fd 0), wk q fd F, w6 q gd γ0 γ1 γ2 γ3 γ4 γ5, w9 q zd σ0 σ1 σ2 σ3 σ4 σ5 σ6 σ7 σ8 σ9 σ10 σ11 σ12 σ13 σ14 σ15 σ16 σ17 σ18 σ19 σ20 σ21 σ22 σ23 σ24 σ25 σ26 σ27 σ28 σ29 σ30] A s.heap s H locs := hM
  refine lv_icmp_eq (tgt := 874) hx hb dL_law_390 (by decide) (fun c1 => ?_) (fun c1 => absurd (hret) c1)
  exact kk _ _ hM
