/-! own rows: a step of the law -/
set_option maxRecDepth 20000 in
theorem ggL_law_X8_eater : GoodIn wsL_law wsX8_eater := goodIn_r _ [593, 19, 29, 38, 24, 594, 595, 596, 18, 597, 164, 204, 2, 205, 350, 598, 599, 600, 28, 601, 73, 438, 198, 169, 199, 602, 603, 604, 605, 74, 448, 449, 450, 37, 451, 86, 452, 453, 454, 455, 272, 273, 72, 75, 456, 279, 280, 281, 282, 283, 284, 285, 286, 287, 288, 457, 458, 459, 460, 461, 462, 463, 464, 465, 466, 467, 468, 469, 470, 471, 472, 473, 474, 475, 476, 437, 224, 225, 477, 478, 479, 480, 481, 482, 483, 484, 191, 192, 485, 486, 487, 488, 489, 490, 491, 492, 493, 494, 54, 197, 443, 434, 435, 436, 495, 496, 497, 23, 498, 67, 499, 500, 501, 502, 503, 68, 504, 505, 506, 507, 508, 509, 510, 511, 57, 1067, 1068, 1069, 1070, 1071, 1072, 1073, 1074, 1075, 1076, 1112, 1113, 1114, 1115, 1116, 1117, 1118, 1119, 1120, 1121, 1122, 1123, 1124, 1125, 1126, 1127, 1131, 1132, 1133, 1134, 1135, 1136, 1139, 1140, 1141, 1142, 1143, 1128, 1129, 1130] (by decide +kernel) (by decide +kernel)
set_option maxRecDepth 20000 in
theorem gL_law_X8_eater : GoodIn wsL_law (wsV RL 36 RX8 yX8_eater wsX8_eater) := goodIn_app (goodIn_of _ (by decide +kernel)) ggL_law_X8_eater
set_option maxRecDepth 20000 in
theorem ggL_law_X9_eater : GoodIn wsL_law wsX9_eater := goodIn_r _ [609, 310, 406, 321, 358, 359, 5, 360, 524, 525, 526, 527, 528, 529, 530, 531, 532, 533, 534, 535, 536, 537, 538, 539, 540, 541, 542, 543, 544, 545, 546, 547, 548, 549, 550, 551, 552, 553, 554, 555, 556, 557, 558, 559, 560, 561, 562, 563, 564, 565, 307, 304, 306, 566, 567, 568, 569, 570, 571, 572, 573, 313, 574, 575, 576, 577, 578, 579, 580, 581, 311, 312, 1077, 1078, 1079, 1080, 1081, 1082, 1083, 1084, 1085, 1086, 1087, 1088, 1089, 1090, 1091, 1092, 1093, 1094, 1095, 1096, 1097, 1098, 1099, 1100, 1101, 1102, 1103, 1104, 1105, 1106, 1107] (by decide +kernel) (by decide +kernel)
set_option maxRecDepth 20000 in
theorem gL_law_X9_eater : GoodIn wsL_law (wsV RL 40 RX9 yX9_eater wsX9_eater) := goodIn_app (goodIn_of _ (by decide +kernel)) ggL_law_X9_eater
theorem dL_law_253 : decode cL_law 253 = .ok (.aload_n 1, 1) := by decide +kernel
theorem dL_law_254 : decode cL_law 254 = .ok (.aload_n 0, 1) := by decide +kernel
theorem dL_law_255 : decode cL_law 255 = .ok (.iload_n 3, 1) := by decide +kernel
theorem dL_law_256 : decode cL_law 256 = .ok (.iconst 1, 1) := by decide +kernel
theorem dL_law_257 : decode cL_law 257 = .ok (.iadd, 1) := by decide +kernel
theorem dL_law_258 : decode cL_law 258 = .ok (.iaload, 1) := by decide +kernel
theorem dL_law_259 : decode cL_law 259 = .ok (.aload_n 0, 1) := by decide +kernel
theorem dL_law_260 : decode cL_law 260 = .ok (.iload_n 3, 1) := by decide +kernel
theorem dL_law_261 : decode cL_law 261 = .ok (.iconst 2, 1) := by decide +kernel
theorem dL_law_262 : decode cL_law 262 = .ok (.iadd, 1) := by decide +kernel
theorem dL_law_263 : decode cL_law 263 = .ok (.iaload, 1) := by decide +kernel
theorem dL_law_264 : decode cL_law 264 = .ok (.invokevirtual 36, 3) := by decide +kernel
theorem dL_law_267 : decode cL_law 267 = .ok (.aload_n 2, 1) := by decide +kernel
theorem dL_law_268 : decode cL_law 268 = .ok (.aload_n 0, 1) := by decide +kernel
theorem dL_law_269 : decode cL_law 269 = .ok (.iload_n 3, 1) := by decide +kernel
theorem dL_law_270 : decode cL_law 270 = .ok (.iconst 1, 1) := by decide +kernel
theorem dL_law_271 : decode cL_law 271 = .ok (.iadd, 1) := by decide +kernel
theorem dL_law_272 : decode cL_law 272 = .ok (.iaload, 1) := by decide +kernel
theorem dL_law_273 : decode cL_law 273 = .ok (.aload_n 0, 1) := by decide +kernel
theorem dL_law_274 : decode cL_law 274 = .ok (.iload_n 3, 1) := by decide +kernel
theorem dL_law_275 : decode cL_law 275 = .ok (.iconst 2, 1) := by decide +kernel
theorem dL_law_276 : decode cL_law 276 = .ok (.iadd, 1) := by decide +kernel
theorem dL_law_277 : decode cL_law 277 = .ok (.iaload, 1) := by decide +kernel
theorem dL_law_278 : decode cL_law 278 = .ok (.invokevirtual 40, 3) := by decide +kernel
theorem dL_law_281 : decode cL_law 281 = .ok (.if_icmp .eq 593, 3) := by decide +kernel
theorem dL_law_284 : decode cL_law 284 = .ok (.iconst 0, 1) := by decide +kernel
theorem dL_law_285 : decode cL_law 285 = .ok (.ireturn, 1) := by decide +kernel
set_option maxHeartbeats 2000000 in
set_option maxRecDepth 100000 in
theorem st_eater {p : Program} {e : Env} {s : State} {m : MethodId} {below : List Frame} {meth : Method} {c : Code} {H : Heap} {locs : List Loc} {cells slots : Nat} {Q : State → Prop} {ls : Array Slot} {D : va_G} {q : Nat → ClassId} {A : Nat → Prop} (l : Launch) {b L i : Nat} {xs : Nat → Int32} {ad : Nat → Nat} {td : Nat → Nat} {ν0 : Nat → Int32} {ν1 : Nat → Int32} {ν2 : Int32} {ν3 : Int32} {sd : Nat → Nat} {X : Nat → Nat → Int32} {dd : Nat → Nat} {Y : Nat → Nat → Int32} {md : Nat → Nat} {μ0 : Nat → Int32} {μ1 : Nat → Int32} {μ2 : Int32} {rd : Nat → Nat} {ρ0 : Nat → Int32} {ρ1 : Nat → Int32} {ρ2 : Int32} {nd : Nat → Nat} {N : Nat → Int32} {ud : Nat → Nat} {ua : Nat → Nat → Nat} {U : Nat → Nat → Int32} {pd : Nat → Nat} {pa : Nat → Nat → Nat} {P : Nat → Nat → Int32} {hd : Nat → Nat} {τ0 : Int32} {τ1 : Int32} {τ2 : Int32} {τ3 : Int32} {fd : Nat → Nat} {F : Nat → Int32} {gd : Nat → Nat} {γ0 : Int32} {γ1 : Int64} {γ2 : Int32} {γ3 : Nat → Int32} {γ4 : Nat → Int32} {γ5 : Nat → Int32} {uh ph : Nat} {zd : Nat → Nat} {σ0 : Int32} {σ1 : Nat → Int32} {σ2 : Nat → Int32} {σ3 : Nat → Int32} {σ4 : Nat → Int32} {σ5 : Nat → Int32} {σ6 : Nat → Int32} {σ7 : Nat → Int32} {σ8 : Nat → Int32} {σ9 : Nat → Int32} {σ10 : Nat → Int32} {σ11 : Nat → Int32} {σ12 : Nat → Int32} {σ13 : Nat → Int32} {σ14 : Nat → Int32} {σ15 : Nat → Int32} {σ16 : Nat → Int32} {σ17 : Nat → Int32} {σ18 : Nat → Int32} {σ19 : Nat → Int32} {σ20 : Int32} {σ21 : Int32} {σ22 : Int32} {σ23 : Nat → Int32} {σ24 : Int32} {σ25 : Int32} {σ26 : Nat → Int32} {σ27 : Nat → Int32} {σ28 : Nat → Int32} {σ29 : Nat → Int32} {σ30 : Nat → Int32} {i9 : Nat} {what : Nat} {S : Nat → Nat → Int32} (hfix : CallFix p m c cL_law 4 s #[Value.ref b] wsL_law RL) (hroom : cells ≤ room_1.cells ∧ slots ≤ room_1.slots) (hX : va_X b L xs s s.heap) (hbl : b < s.heap.size) (hbA : ¬ A b) (hL9 : L ≤ 384) (hi9 : i + 6 ≤ L) (hl : lv_has ls 4 [(0, .ref b), (1, .ref (ad 0)), (2, .ref (zd 0)), (3, .int (nI i))]) (hM : xM D (TY q) [w8 q ad (td 0) (sd 0) (dd 0) (md 0) (rd 0) (nd 0) (ud 0) (pd 0) (hd 0) (gd 0), w2 q td ν0 ν1 ν2 ν3, wst q sd X, wst q dd Y, w3 q md μ0 μ1 μ2, w3 q rd ρ0 ρ1 ρ2, wk q nd N, wp q ud ua 8 (nI uh), wpl q ua U 8, wp q pd pa 2 (nI ph), wpl q pa P 2, w0 q hd τ0 τ1 τ2 τ3 (fd 0), wk q fd F, w6 q gd γ0 γ1 γ2 γ3 γ4 γ5, w9 q zd σ0 σ1 σ2 σ3 σ4 σ5 σ6 σ7 σ8 σ9 σ10 σ11 σ12 σ13 σ14 σ15 σ16 σ17 σ18 σ19 σ20 σ21 σ22 σ23 σ24 σ25 σ26 σ27 σ28 σ29 σ30] A s.heap s H locs) (hv_i9 : xs (i + 1) = nI i9) (hv_what : xs (i + 2) = nI what) (hT : okT X S) (hK : okK N) (hMl : okM μ0 μ1 (S 11) (tn (S 8 0)) (-4)) (hi0 : i9 < (tn (S 8 0))) (hwhat9 : what ≤ 2) (r_hi0 : i9 < tn (σ8 0)) (r_hwh : what ≤ 2) (r_hc2 : σ2 0 = nI (tn (σ2 0)) ∧ tn (σ2 0) ≤ 5) (r_hc5 : σ5 0 = nI (tn (σ5 0)) ∧ tn (σ5 0) ≤ 5) (r_hc8 : σ8 0 = nI (tn (σ8 0)) ∧ tn (σ8 0) ≤ 8) (r_hE : okE σ9 σ10 σ11 (tn (σ8 0))) (r_hK0 : okK (xreg σ19 0)) (hret : ∀ (uF1 : Nat → Int32) (uK2 : Nat → Int32) (uw3 : Int32) (uh4 : Int32), (if what = 0 then N (51 + i9) else if what = 1 then N (59 + i9) else (kGoN (S 4) (tn (S 2 0)) (tn (S 5 0)) (S 9) (S 10) (S 11) (tn (S 8 0)) (-4) (N, -4, nI 0) (60 - tn (N 25))).1 (59 + i9) : Int32) = (if what = 0 then xreg σ19 0 (51 + i9) else if what = 1 then xreg σ19 0 (59 + i9) else (kGoN σ4 (tn (σ2 0)) (tn (σ5 0)) σ9 σ10 σ11 (tn (σ8 0)) (-4) (xreg σ19 0, σ24, nI 0) (60 - tn (xreg σ19 0 25))).1 (59 + i9))) (kk : ∀ (uF1 : Nat → Int32) (uK2 : Nat → Int32) (uw3 : Int32) (uh4 : Int32), ∀ (H : Heap) (locs : List Loc), xM D (TY q) [w8 q ad (td 0) (sd 0) (dd 0) (md 0) (rd 0) (nd 0) (ud 0) (pd 0) (hd 0) (gd 0), w2 q td ν0 ν1 ν2 ν3, wst q sd X, wst q dd Y, w3 q md μ0 μ1 μ2, w3 q rd ρ0 ρ1 ρ2, wk q nd N, wp q ud ua 8 (nI uh), wpl q ua U 8, wp q pd pa 2 (nI ph), wpl q pa P 2, w0 q hd τ0 τ1 τ2 τ3 (fd 0), wk q fd uF1, w6 q gd γ0 γ1 γ2 γ3 γ4 γ5, w9 q zd σ0 σ1 σ2 σ3 σ4 σ5 σ6 σ7 σ8 σ9 σ10 σ11 σ12 σ13 σ14 σ15 σ16 σ17 σ18 (xspl σ19 11 uK2) σ20 σ21 σ22 σ23 uw3 uh4 σ26 σ27 σ28 σ29 σ30] A s.heap s H locs → W p l e room_1 s m #[Value.ref b] below meth c H locs cells slots Q (F0 m 874 ls [])) : W p l e room_1 s m #[Value.ref b] below meth c H locs cells slots Q (F0 m 253 ls []) := by
  obtain ⟨hx, hb, hml, hown, hts⟩ := id hfix
  refine lv_aload_n hx hb dL_law_253 rfl (lv_at hl 1 rfl) ?_
  refine lv_aload_n hx hb dL_law_254 rfl (lv_at hl 0 rfl) ?_
  refine lv_iload_n hx hb dL_law_255 rfl (lv_at hl 3 rfl) ?_
  refine lv_iconst (v := nI 1) hx hb dL_law_256 (by decide) ?_
  refine x_iadd (x := i) (y := 1) hx hb dL_law_257 ?_
  refine va_sld hx hb hX hbl hbA hM.2.2.2.1 (i := nI (i + 1)) (vp_in_nI (by omega) (by omega)) dL_law_258 ?_
  refine x_cast (y := xs (i + 1)) (by rw [nI_clamp (by omega)]) ?_
  refine x_cast (y := nI i9) hv_i9 ?_
  refine lv_aload_n hx hb dL_law_259 rfl (lv_at hl 0 rfl) ?_
  refine lv_iload_n hx hb dL_law_260 rfl (lv_at hl 3 rfl) ?_
  refine lv_iconst (v := nI 2) hx hb dL_law_261 (by decide) ?_
  refine x_iadd (x := i) (y := 2) hx hb dL_law_262 ?_
  refine va_sld hx hb hX hbl hbA hM.2.2.2.1 (i := nI (i + 2)) (vp_in_nI (by omega) (by omega)) dL_law_263 ?_
  refine x_cast (y := xs (i + 2)) (by rw [nI_clamp (by omega)]) ?_
  refine x_cast (y := nI what) hv_what ?_
  refine x_calli (bc := [w8 q ad (td 0) (sd 0) (dd 0) (md 0) (rd 0) (nd 0) (ud 0) (pd 0) (hd 0) (gd 0), wst q sd X, wk q nd N, w3 q md μ0 μ1 μ2, w0 q hd τ0 τ1 τ2 τ3 (fd 0), wk q fd F]) (br := [w2 q td ν0 ν1 ν2 ν3, wst q dd Y, w3 q rd ρ0 ρ1 ρ2, wp q ud ua 8 (nI uh), wpl q ua U 8, wp q pd pa 2 (nI ph), wpl q pa P 2, w6 q gd γ0 γ1 γ2 γ3 γ4 γ5, w9 q zd σ0 σ1 σ2 σ3 σ4 σ5 σ6 σ7 σ8 σ9 σ10 σ11 σ12 σ13 σ14 σ15 σ16 σ17 σ18 σ19 σ20 σ21 σ22 σ23 σ24 σ25 σ26 σ27 σ28 σ29 σ30]) hM [0, 2, 6, 4, 11, 12] [1, 3, 5, 7, 8, 9, 10, 13, 14] rfl rfl rfl (by decide) (x_runV (As := [.int (nI i9), .int (nI what)]) (rest := []) hfix (c_X8_eater l D q ad (td 0) (sd 0) (dd 0) (md 0) (rd 0) (nd 0) (ud 0) (pd 0) (hd 0) (gd 0) sd X nd N md μ0 μ1 μ2 hd τ0 τ1 τ2 τ3 (fd 0) fd F S i9 what hT hK hMl hi0 hwhat9) (cwV 2 hts gL_law_X8_eater rfl rfl rfl (by decide +kernel) ⟨Nat.le_of_ble_eq_true rfl, Nat.le_of_ble_eq_true rfl⟩) hM [0, 2, 6, 4, 11, 12] rfl rfl 0 0 rfl rfl rfl rfl rfl hl.1 rfl (Nat.le_of_ble_eq_true rfl) dL_law_264 hroom) (fun r u H locs hq hM => ?_)
  subst hq
  obtain ⟨uF1, hex⟩ : ∃ z, z = u := ⟨_, rfl⟩; subst hex
  have hM : xM D (TY q) [w2 q td ν0 ν1 ν2 ν3, wst q dd Y, w3 q rd ρ0 ρ1 ρ2, wp q ud ua 8 (nI uh), wpl q ua U 8, wp q pd pa 2 (nI ph), wpl q pa P 2, w6 q gd γ0 γ1 γ2 γ3 γ4 γ5, w9 q zd σ0 σ1 σ2 σ3 σ4 σ5 σ6 σ7 σ8 σ9 σ10 σ11 σ12 σ13 σ14 σ15 σ16 σ17 σ18 σ19 σ20 σ21 σ22 σ23 σ24 σ25 σ26 σ27 σ28 σ29 σ30, w8 q ad (td 0) (sd 0) (dd 0) (md 0) (rd 0) (nd 0) (ud 0) (pd 0) (hd 0) (gd 0), wst q sd X, wk q nd N, w3 q md μ0 μ1 μ2, w0 q hd τ0 τ1 τ2 τ3 (fd 0), wk q fd uF1] A s.heap s H locs := hM
  have hM : xM D (TY q) [w8 q ad (td 0) (sd 0) (dd 0) (md 0) (rd 0) (nd 0) (ud 0) (pd 0) (hd 0) (gd 0), w2 q td ν0 ν1 ν2 ν3, wst q sd X, wst q dd Y, w3 q md μ0 μ1 μ2, w3 q rd ρ0 ρ1 ρ2, wk q nd N, wp q ud ua 8 (nI uh), wpl q ua U 8, wp q pd pa 2 (nI ph), wpl q pa P 2, w0 q hd τ0 τ1 τ2 τ3 (fd 0), wk q fd uF1, w6 q gd γ0 γ1 γ2 γ3 γ4 γ5, w9 q zd σ0 σ1 σ2 σ3 σ4 σ5 σ6 σ7 σ8 σ9 σ10 σ11 σ12 σ13 σ14 σ15 σ16 σ17 σ18 σ19 σ20 σ21 σ22 σ23 σ24 σ25 σ26 σ27 σ28 σ29 σ30] A s.heap s H locs := hM.sel [9, 0, 10, 1, 12, 2, 11, 3, 4, 5, 6, 13, 14, 7, 8] rfl rfl
  refine lv_aload_n hx hb dL_law_267 rfl (lv_at hl 2 rfl) ?_
  refine lv_aload_n hx hb dL_law_268 rfl (lv_at hl 0 rfl) ?_
  refine lv_iload_n hx hb dL_law_269 rfl (lv_at hl 3 rfl) ?_
  refine lv_iconst (v := nI 1) hx hb dL_law_270 (by decide) ?_
  refine x_iadd (x := i) (y := 1) hx hb dL_law_271 ?_
  refine va_sld hx hb hX hbl hbA hM.2.2.2.1 (i := nI (i + 1)) (vp_in_nI (by omega) (by omega)) dL_law_272 ?_
  refine x_cast (y := xs (i + 1)) (by rw [nI_clamp (by omega)]) ?_
  refine x_cast (y := nI i9) hv_i9 ?_
  refine lv_aload_n hx hb dL_law_273 rfl (lv_at hl 0 rfl) ?_
  refine lv_iload_n hx hb dL_law_274 rfl (lv_at hl 3 rfl) ?_
  refine lv_iconst (v := nI 2) hx hb dL_law_275 (by decide) ?_
  refine x_iadd (x := i) (y := 2) hx hb dL_law_276 ?_
  refine va_sld hx hb hX hbl hbA hM.2.2.2.1 (i := nI (i + 2)) (vp_in_nI (by omega) (by omega)) dL_law_277 ?_
  refine x_cast (y := xs (i + 2)) (by rw [nI_clamp (by omega)]) ?_
  refine x_cast (y := nI what) hv_what ?_
  refine x_calli (bc := [w9 q zd σ0 σ1 σ2 σ3 σ4 σ5 σ6 σ7 σ8 σ9 σ10 σ11 σ12 σ13 σ14 σ15 σ16 σ17 σ18 σ19 σ20 σ21 σ22 σ23 σ24 σ25 σ26 σ27 σ28 σ29 σ30]) (br := [w8 q ad (td 0) (sd 0) (dd 0) (md 0) (rd 0) (nd 0) (ud 0) (pd 0) (hd 0) (gd 0), w2 q td ν0 ν1 ν2 ν3, wst q sd X, wst q dd Y, w3 q md μ0 μ1 μ2, w3 q rd ρ0 ρ1 ρ2, wk q nd N, wp q ud ua 8 (nI uh), wpl q ua U 8, wp q pd pa 2 (nI ph), wpl q pa P 2, w0 q hd τ0 τ1 τ2 τ3 (fd 0), wk q fd uF1, w6 q gd γ0 γ1 γ2 γ3 γ4 γ5]) hM [14] [0, 1, 2, 3, 4, 5, 6, 7, 8, 9, 10, 11, 12, 13] rfl rfl rfl (by decide) (x_runV (As := [.int (nI i9), .int (nI what)]) (rest := [.int (if what = 0 then N (51 + i9) else if what = 1 then N (59 + i9) else (kGoN (S 4) (tn (S 2 0)) (tn (S 5 0)) (S 9) (S 10) (S 11) (tn (S 8 0)) (-4) (N, -4, nI 0) (60 - tn (N 25))).1 (59 + i9))]) hfix (c_X9_eater l D q zd σ0 σ1 σ2 σ3 σ4 σ5 σ6 σ7 σ8 σ9 σ10 σ11 σ12 σ13 σ14 σ15 σ16 σ17 σ18 σ19 σ20 σ21 σ22 σ23 σ24 σ25 σ26 σ27 σ28 σ29 σ30 i9 what r_hi0 r_hwh r_hc2 r_hc5 r_hc8 r_hE r_hK0) (cwV 2 hts gL_law_X9_eater rfl rfl rfl (by decide +kernel) ⟨Nat.le_of_ble_eq_true rfl, Nat.le_of_ble_eq_true rfl⟩) hM [14] rfl rfl 14 0 rfl rfl rfl rfl rfl hl.1 rfl (Nat.le_of_ble_eq_true rfl) dL_law_278 hroom) (fun r u H locs hq hM => ?_)
  subst hq
  obtain ⟨uK2, uw3, uh4⟩ := u
  have hM : xM D (TY q) [w8 q ad (td 0) (sd 0) (dd 0) (md 0) (rd 0) (nd 0) (ud 0) (pd 0) (hd 0) (gd 0), w2 q td ν0 ν1 ν2 ν3, wst q sd X, wst q dd Y, w3 q md μ0 μ1 μ2, w3 q rd ρ0 ρ1 ρ2, wk q nd N, wp q ud ua 8 (nI uh), wpl q ua U 8, wp q pd pa 2 (nI ph), wpl q pa P 2, w0 q hd τ0 τ1 τ2 τ3 (fd 0), wk q fd uF1, w6 q gd γ0 γ1 γ2 γ3 γ4 γ5, w9 q zd σ0 σ1 σ2 σ3 σ4 σ5 σ6 σ7 σ8 σ9 σ10 σ11 σ12 σ13 σ14 σ15 σ16 σ17 σ18 (xspl σ19 11 uK2) σ20 σ21 σ22 σ23 uw3 uh4 σ26 σ27 σ28 σ29 σ30] A s.heap s H locs := hM
  refine lv_icmp_eq (tgt := 874) hx hb dL_law_281 (by decide) (fun c1 => ?_) (fun c1 => absurd (hret uF1 uK2 uw3 uh4) c1)
  exact kk uF1 uK2 uw3 uh4 _ _ hM
set_option maxHeartbeats 2000000 in
set_option maxRecDepth 100000 in
theorem st_eaterB {p : Program} {e : Env} {s : State} {m : MethodId} {below : List Frame} {meth : Method} {c : Code} {H : Heap} {locs : List Loc} {cells slots : Nat} {Q : State → Prop} {ls : Array Slot} {D : va_G} {q : Nat → ClassId} {A : Nat → Prop} (l : Launch) {b L i : Nat} {xs : Nat → Int32} {ad : Nat → Nat} {td : Nat → Nat} {ν0 : Nat → Int32} {ν1 : Nat → Int32} {ν2 : Int32} {ν3 : Int32} {sd : Nat → Nat} {X : Nat → Nat → Int32} {dd : Nat → Nat} {Y : Nat → Nat → Int32} {md : Nat → Nat} {μ0 : Nat → Int32} {μ1 : Nat → Int32} {μ2 : Int32} {rd : Nat → Nat} {ρ0 : Nat → Int32} {ρ1 : Nat → Int32} {ρ2 : Int32} {nd : Nat → Nat} {N : Nat → Int32} {ud : Nat → Nat} {ua : Nat → Nat → Nat} {U : Nat → Nat → Int32} {pd : Nat → Nat} {pa : Nat → Nat → Nat} {P : Nat → Nat → Int32} {hd : Nat → Nat} {τ0 : Int32} {τ1 : Int32} {τ2 : Int32} {τ3 : Int32} {fd : Nat → Nat} {F : Nat → Int32} {gd : Nat → Nat} {γ0 : Int32} {γ1 : Int64} {γ2 : Int32} {γ3 : Nat → Int32} {γ4 : Nat → Int32} {γ5 : Nat → Int32} {uh ph : Nat} {zd : Nat → Nat} {σ0 : Int32} {σ1 : Nat → Int32} {σ2 : Nat → Int32} {σ3 : Nat → Int32} {σ4 : Nat → Int32} {σ5 : Nat → Int32} {σ6 : Nat → Int32} {σ7 : Nat → Int32} {σ8 : Nat → Int32} {σ9 : Nat → Int32} {σ10 : Nat → Int32} {σ11 : Nat → Int32} {σ12 : Nat → Int32} {σ13 : Nat → Int32} {σ14 : Nat → Int32} {σ15 : Nat → Int32} {σ16 : Nat → Int32} {σ17 : Nat → Int32} {σ18 : Nat → Int32} {σ19 : Nat → Int32} {σ20 : Int32} {σ21 : Int32} {σ22 : Int32} {σ23 : Nat → Int32} {σ24 : Int32} {σ25 : Int32} {σ26 : Nat → Int32} {σ27 : Nat → Int32} {σ28 : Nat → Int32} {σ29 : Nat → Int32} {σ30 : Nat → Int32} {S : Nat → Nat → Int32} (hfix : CallFix p m c cL_law 4 s #[Value.ref b] wsL_law RL) (hroom : cells ≤ room_1.cells ∧ slots ≤ room_1.slots) (hX : va_X b L xs s s.heap) (hbl : b < s.heap.size) (hbA : ¬ A b) (hL9 : L ≤ 384) (hi9 : i + 6 ≤ L) (hl : lv_has ls 4 [(0, .ref b), (1, .ref (ad 0)), (2, .ref (zd 0)), (3, .int (nI i))]) (hM : xM D (TY q) [w8 q ad (td 0) (sd 0) (dd 0) (md 0) (rd 0) (nd 0) (ud 0) (pd 0) (hd 0) (gd 0), w2 q td ν0 ν1 ν2 ν3, wst q sd X, wst q dd Y, w3 q md μ0 μ1 μ2, w3 q rd ρ0 ρ1 ρ2, wk q nd N, wp q ud ua 8 (nI uh), wpl q ua U 8, wp q pd pa 2 (nI ph), wpl q pa P 2, w0 q hd τ0 τ1 τ2 τ3 (fd 0), wk q fd F, w6 q gd γ0 γ1 γ2 γ3 γ4 γ5, w9 q zd σ0 σ1 σ2 σ3 σ4 σ5 σ6 σ7 σ8 σ9 σ10 σ11 σ12 σ13 σ14 σ15 σ16 σ17 σ18 σ19 σ20 σ21 σ22 σ23 σ24 σ25 σ26 σ27 σ28 σ29 σ30] A s.heap s H locs) (hT : okT X S) (hbad : ¬ (0 ≤ ((xs (i + 1)).toInt) ∧ ((xs (i + 1)).toInt) < (tn (S 8 0))) ∨ ¬ (0 ≤ ((xs (i + 2)).toInt) ∧ ((xs (i + 2)).toInt) ≤ 2)) (r_hc8 : σ8 0 = nI (tn (σ8 0)) ∧ tn (σ8 0) ≤ 8) (r_hbad : ¬ (0 ≤ ((xs (i + 1)).toInt) ∧ ((xs (i + 1)).toInt) < tn (σ8 0)) ∨ ¬ (0 ≤ ((xs (i + 2)).toInt) ∧ ((xs (i + 2)).toInt) ≤ 2)) (hret : ((-1) : Int32) = (-1)) (kk : ∀ (H : Heap) (locs : List Loc), xM D (TY q) [w8 q ad (td 0) (sd 0) (dd 0) (md 0) (rd 0) (nd 0) (ud 0) (pd 0) (hd 0) (gd 0), w2 q td ν0 ν1 ν2 ν3, wst q sd X, wst q dd Y, w3 q md μ0 μ1 μ2, w3 q rd ρ0 ρ1 ρ2, wk q nd N, wp q ud ua 8 (nI uh), wpl q ua U 8, wp q pd pa 2 (nI ph), wpl q pa P 2, w0 q hd τ0 τ1 τ2 τ3 (fd 0), wk q fd F, w6 q gd γ0 γ1 γ2 γ3 γ4 γ5, w9 q zd σ0 σ1 σ2 σ3 σ4 σ5 σ6 σ7 σ8 σ9 σ10 σ11 σ12 σ13 σ14 σ15 σ16 σ17 σ18 σ19 σ20 σ21 σ22 σ23 σ24 σ25 σ26 σ27 σ28 σ29 σ30] A s.heap s H locs → W p l e room_1 s m #[Value.ref b] below meth c H locs cells slots Q (F0 m 874 ls [])) : W p l e room_1 s m #[Value.ref b] below meth c H locs cells slots Q (F0 m 253 ls []) := by
  obtain ⟨hx, hb, hml, hown, hts⟩ := id hfix
  refine lv_aload_n hx hb dL_law_253 rfl (lv_at hl 1 rfl) ?_
  refine lv_aload_n hx hb dL_law_254 rfl (lv_at hl 0 rfl) ?_
  refine lv_iload_n hx hb dL_law_255 rfl (lv_at hl 3 rfl) ?_
  refine lv_iconst (v := nI 1) hx hb dL_law_256 (by decide) ?_
  refine x_iadd (x := i) (y := 1) hx hb dL_law_257 ?_
  refine va_sld hx hb hX hbl hbA hM.2.2.2.1 (i := nI (i + 1)) (vp_in_nI (by omega) (by omega)) dL_law_258 ?_
  refine x_cast (y := xs (i + 1)) (by rw [nI_clamp (by omega)]) ?_
  refine lv_aload_n hx hb dL_law_259 rfl (lv_at hl 0 rfl) ?_
  refine lv_iload_n hx hb dL_law_260 rfl (lv_at hl 3 rfl) ?_
  refine lv_iconst (v := nI 2) hx hb dL_law_261 (by decide) ?_
  refine x_iadd (x := i) (y := 2) hx hb dL_law_262 ?_
  refine va_sld hx hb hX hbl hbA hM.2.2.2.1 (i := nI (i + 2)) (vp_in_nI (by omega) (by omega)) dL_law_263 ?_
  refine x_cast (y := xs (i + 2)) (by rw [nI_clamp (by omega)]) ?_
  refine x_calli (bc := [w8 q ad (td 0) (sd 0) (dd 0) (md 0) (rd 0) (nd 0) (ud 0) (pd 0) (hd 0) (gd 0), wst q sd X]) (br := [w2 q td ν0 ν1 ν2 ν3, wst q dd Y, w3 q md μ0 μ1 μ2, w3 q rd ρ0 ρ1 ρ2, wk q nd N, wp q ud ua 8 (nI uh), wpl q ua U 8, wp q pd pa 2 (nI ph), wpl q pa P 2, w0 q hd τ0 τ1 τ2 τ3 (fd 0), wk q fd F, w6 q gd γ0 γ1 γ2 γ3 γ4 γ5, w9 q zd σ0 σ1 σ2 σ3 σ4 σ5 σ6 σ7 σ8 σ9 σ10 σ11 σ12 σ13 σ14 σ15 σ16 σ17 σ18 σ19 σ20 σ21 σ22 σ23 σ24 σ25 σ26 σ27 σ28 σ29 σ30]) hM [0, 2] [1, 3, 4, 5, 6, 7, 8, 9, 10, 11, 12, 13, 14] rfl rfl rfl (by decide) (x_runV (As := [.int (xs (i + 1)), .int (xs (i + 2))]) (rest := []) hfix (c_X8_eaterB l D q ad (td 0) (sd 0) (dd 0) (md 0) (rd 0) (nd 0) (ud 0) (pd 0) (hd 0) (gd 0) sd X S (xs (i + 1)) ((xs (i + 1)).toInt) (xs (i + 2)) ((xs (i + 2)).toInt) hT rfl rfl hbad) (cwV 2 hts gL_law_X8_eater rfl rfl rfl (by decide +kernel) ⟨Nat.le_of_ble_eq_true rfl, Nat.le_of_ble_eq_true rfl⟩) hM [0, 2] rfl rfl 0 0 rfl rfl rfl rfl rfl hl.1 rfl (Nat.le_of_ble_eq_true rfl) dL_law_264 hroom) (fun r u H locs hq hM => ?_)
  subst hq
  have hM : xM D (TY q) [w2 q td ν0 ν1 ν2 ν3, wst q dd Y, w3 q md μ0 μ1 μ2, w3 q rd ρ0 ρ1 ρ2, wk q nd N, wp q ud ua 8 (nI uh), wpl q ua U 8, wp q pd pa 2 (nI ph), wpl q pa P 2, w0 q hd τ0 τ1 τ2 τ3 (fd 0), wk q fd F, w6 q gd γ0 γ1 γ2 γ3 γ4 γ5, w9 q zd σ0 σ1 σ2 σ3 σ4 σ5 σ6 σ7 σ8 σ9 σ10 σ11 σ12 σ13 σ14 σ15 σ16 σ17 σ18 σ19 σ20 σ21 σ22 σ23 σ24 σ25 σ26 σ27 σ28 σ29 σ30, w8 q ad (td 0) (sd 0) (dd 0) (md 0) (rd 0) (nd 0) (ud 0) (pd 0) (hd 0) (gd 0), wst q sd X] A s.heap s H locs := hM
  have hM : xM D (TY q) [w8 q ad (td 0) (sd 0) (dd 0) (md 0) (rd 0) (nd 0) (ud 0) (pd 0) (hd 0) (gd 0), w2 q td ν0 ν1 ν2 ν3, wst q sd X, wst q dd Y, w3 q md μ0 μ1 μ2, w3 q rd ρ0 ρ1 ρ2, wk q nd N, wp q ud ua 8 (nI uh), wpl q ua U 8, wp q pd pa 2 (nI ph), wpl q pa P 2, w0 q hd τ0 τ1 τ2 τ3 (fd 0), wk q fd F, w6 q gd γ0 γ1 γ2 γ3 γ4 γ5, w9 q zd σ0 σ1 σ2 σ3 σ4 σ5 σ6 σ7 σ8 σ9 σ10 σ11 σ12 σ13 σ14 σ15 σ16 σ17 σ18 σ19 σ20 σ21 σ22 σ23 σ24 σ25 σ26 σ27 σ28 σ29 σ30] A s.heap s H locs := hM.sel [13, 0, 14, 1, 2, 3, 4, 5, 6, 7, 8, 9, 10, 11, 12] rfl rfl
  refine lv_aload_n hx hb dL_law_267 rfl (lv_at hl 2 rfl) ?_
  refine lv_aload_n hx hb dL_law_268 rfl (lv_at hl 0 rfl) ?_
  refine lv_iload_n hx hb dL_law_269 rfl (lv_at hl 3 rfl) ?_
  refine lv_iconst (v := nI 1) hx hb dL_law_270 (by decide) ?_
  refine x_iadd (x := i) (y := 1) hx hb dL_law_271 ?_
  refine va_sld hx hb hX hbl hbA hM.2.2.2.1 (i := nI (i + 1)) (vp_in_nI (by omega) (by omega)) dL_law_272 ?_
  refine x_cast (y := xs (i + 1)) (by rw [nI_clamp (by omega)]) ?_
  refine lv_aload_n hx hb dL_law_273 rfl (lv_at hl 0 rfl) ?_
  refine lv_iload_n hx hb dL_law_274 rfl (lv_at hl 3 rfl) ?_
  refine lv_iconst (v := nI 2) hx hb dL_law_275 (by decide) ?_
  refine x_iadd (x := i) (y := 2) hx hb dL_law_276 ?_
  refine va_sld hx hb hX hbl hbA hM.2.2.2.1 (i := nI (i + 2)) (vp_in_nI (by omega) (by omega)) dL_law_277 ?_
  refine x_cast (y := xs (i + 2)) (by rw [nI_clamp (by omega)]) ?_
  refine x_calli (bc := [w9 q zd σ0 σ1 σ2 σ3 σ4 σ5 σ6 σ7 σ8 σ9 σ10 σ11 σ12 σ13 σ14 σ15 σ16 σ17 σ18 σ19 σ20 σ21 σ22 σ23 σ24 σ25 σ26 σ27 σ28 σ29 σ30]) (br := [w8 q ad (td 0) (sd 0) (dd 0) (md 0) (rd 0) (nd 0) (ud 0) (pd 0) (hd 0) (gd 0), w2 q td ν0 ν1 ν2 ν3, wst q sd X, wst q dd Y, w3 q md μ0 μ1 μ2, w3 q rd ρ0 ρ1 ρ2, wk q nd N, wp q ud ua 8 (nI uh), wpl q ua U 8, wp q pd pa 2 (nI ph), wpl q pa P 2, w0 q hd τ0 τ1 τ2 τ3 (fd 0), wk q fd F, w6 q gd γ0 γ1 γ2 γ3 γ4 γ5]) hM [14] [0, 1, 2, 3, 4, 5, 6, 7, 8, 9, 10, 11, 12, 13] rfl rfl rfl (by decide) (x_runV (As := [.int (xs (i + 1)), .int (xs (i + 2))]) (rest := [.int (-1)]) hfix (c_X9_eaterB l D q zd σ0 σ1 σ2 σ3 σ4 σ5 σ6 σ7 σ8 σ9 σ10 σ11 σ12 σ13 σ14 σ15 σ16 σ17 σ18 σ19 σ20 σ21 σ22 σ23 σ24 σ25 σ26 σ27 σ28 σ29 σ30 (xs (i + 1)) ((xs (i + 1)).toInt) (xs (i + 2)) ((xs (i + 2)).toInt) rfl rfl r_hc8 r_hbad) (cwV 2 hts gL_law_X9_eater rfl rfl rfl (by decide +kernel) ⟨Nat.le_of_ble_eq_true rfl, Nat.le_of_ble_eq_true rfl⟩) hM [14] rfl rfl 14 0 rfl rfl rfl rfl rfl hl.1 rfl (Nat.le_of_ble_eq_true rfl) dL_law_278 hroom) (fun r u H locs hq hM => ?_)
  subst hq
  have hM : xM D (TY q) [w8 q ad (td 0) (sd 0) (dd 0) (md 0) (rd 0) (nd 0) (ud 0) (pd 0) (hd 0) (gd 0), w2 q td ν0 ν1 ν2 ν3, wst q sd X, wst q dd Y, w3 q md μ0 μ1 μ2, w3 q rd ρ0 ρ1 ρ2, wk q nd N, wp q ud ua 8 (nI uh), wpl q ua U 8, wp q pd pa 2 (nI ph), wpl q pa P 2, w0 q hd τ0 τ1 τ2 τ3 (fd 0), wk q fd F, w6 q gd γ0 γ1 γ2 γ3 γ4 γ5, w9 q zd σ0 σ1 σ2 σ3 σ4 σ5 σ6 σ7 σ8 σ9 σ10 σ11 σ12 σ13 σ14 σ15 σ16 σ17 σ18 σ19 σ20 σ21 σ22 σ23 σ24 σ25 σ26 σ27 σ28 σ29 σ30] A s.heap s H locs := hM
  refine lv_icmp_eq (tgt := 874) hx hb dL_law_281 (by decide) (fun c1 => ?_) (fun c1 => absurd (hret) c1)
  exact kk _ _ hM
