/-! own rows: a step of the law -/
set_option maxRecDepth 20000 in
theorem ggL_law_X8_way : GoodIn wsL_law wsX8_way := goodIn_r _ [613, 29, 614, 350, 204, 2, 205, 615, 470, 471, 28, 472, 75, 438, 198, 169, 199, 1067, 1068, 1069, 1070, 1071, 1072, 1073, 1074, 1075, 1076, 1131, 1132, 1133, 1134, 1135, 1136] (by decide +kernel) (by decide +kernel)
set_option maxRecDepth 20000 in
theorem gL_law_X8_way : GoodIn wsL_law (wsV RL 41 RX8 yX8_way wsX8_way) := goodIn_app (goodIn_of _ (by decide +kernel)) ggL_law_X8_way
set_option maxRecDepth 20000 in
theorem ggL_law_X9_way : GoodIn wsL_law wsX9_way := goodIn_r _ [619, 620, 321, 550, 551, 552, 5, 553, 358, 359, 360, 554, 555, 556, 557, 1077, 1078, 1079, 1080, 1081, 1082, 1083, 1084, 1085, 1086, 1087, 1088, 1089, 1090, 1091, 1092, 1093, 1094, 1095, 1096, 1097, 1098, 1099, 1100, 1101, 1102, 1103, 1104, 1105, 1106, 1107] (by decide +kernel) (by decide +kernel)
set_option maxRecDepth 20000 in
theorem gL_law_X9_way : GoodIn wsL_law (wsV RL 44 RX9 yX9_way wsX9_way) := goodIn_app (goodIn_of _ (by decide +kernel)) ggL_law_X9_way
theorem dL_law_286 : decode cL_law 286 = .ok (.aload_n 1, 1) := by decide +kernel
theorem dL_law_287 : decode cL_law 287 = .ok (.aload_n 0, 1) := by decide +kernel
theorem dL_law_288 : decode cL_law 288 = .ok (.iload_n 3, 1) := by decide +kernel
theorem dL_law_289 : decode cL_law 289 = .ok (.iconst 1, 1) := by decide +kernel
theorem dL_law_290 : decode cL_law 290 = .ok (.iadd, 1) := by decide +kernel
theorem dL_law_291 : decode cL_law 291 = .ok (.iaload, 1) := by decide +kernel
theorem dL_law_292 : decode cL_law 292 = .ok (.aload_n 0, 1) := by decide +kernel
theorem dL_law_293 : decode cL_law 293 = .ok (.iload_n 3, 1) := by decide +kernel
theorem dL_law_294 : decode cL_law 294 = .ok (.iconst 2, 1) := by decide +kernel
theorem dL_law_295 : decode cL_law 295 = .ok (.iadd, 1) := by decide +kernel
theorem dL_law_296 : decode cL_law 296 = .ok (.iaload, 1) := by decide +kernel
theorem dL_law_297 : decode cL_law 297 = .ok (.invokevirtual 41, 3) := by decide +kernel
theorem dL_law_300 : decode cL_law 300 = .ok (.aload_n 2, 1) := by decide +kernel
theorem dL_law_301 : decode cL_law 301 = .ok (.aload_n 0, 1) := by decide +kernel
theorem dL_law_302 : decode cL_law 302 = .ok (.iload_n 3, 1) := by decide +kernel
theorem dL_law_303 : decode cL_law 303 = .ok (.iconst 1, 1) := by decide +kernel
theorem dL_law_304 : decode cL_law 304 = .ok (.iadd, 1) := by decide +kernel
theorem dL_law_305 : decode cL_law 305 = .ok (.iaload, 1) := by decide +kernel
theorem dL_law_306 : decode cL_law 306 = .ok (.aload_n 0, 1) := by decide +kernel
theorem dL_law_307 : decode cL_law 307 = .ok (.iload_n 3, 1) := by decide +kernel
theorem dL_law_308 : decode cL_law 308 = .ok (.iconst 2, 1) := by decide +kernel
theorem dL_law_309 : decode cL_law 309 = .ok (.iadd, 1) := by decide +kernel
theorem dL_law_310 : decode cL_law 310 = .ok (.iaload, 1) := by decide +kernel
theorem dL_law_311 : decode cL_law 311 = .ok (.invokevirtual 44, 3) := by decide +kernel
theorem dL_law_314 : decode cL_law 314 = .ok (.if_icmp .eq 560, 3) := by decide +kernel
theorem dL_law_317 : decode cL_law 317 = .ok (.iconst 0, 1) := by decide +kernel
theorem dL_law_318 : decode cL_law 318 = .ok (.ireturn, 1) := by decide +kernel
set_option maxHeartbeats 2000000 in
set_option maxRecDepth 100000 in
theorem st_way {p : Program} {e : Env} {s : State} {m : MethodId} {below : List Frame} {meth : Method} {c : Code} {H : Heap} {locs : List Loc} {cells slots : Nat} {Q : State → Prop} {ls : Array Slot} {D : va_G} {q : Nat → ClassId} {A : Nat → Prop} (l : Launch) {b L i : Nat} {xs : Nat → Int32} {ad : Nat → Nat} {td : Nat → Nat} {ν0 : Nat → Int32} {ν1 : Nat → Int32} {ν2 : Int32} {ν3 : Int32} {sd : Nat → Nat} {X : Nat → Nat → Int32} {dd : Nat → Nat} {Y : Nat → Nat → Int32} {md : Nat → Nat} {μ0 : Nat → Int32} {μ1 : Nat → Int32} {μ2 : Int32} {rd : Nat → Nat} {ρ0 : Nat → Int32} {ρ1 : Nat → Int32} {ρ2 : Int32} {nd : Nat → Nat} {N : Nat → Int32} {ud : Nat → Nat} {ua : Nat → Nat → Nat} {U : Nat → Nat → Int32} {pd : Nat → Nat} {pa : Nat → Nat → Nat} {P : Nat → Nat → Int32} {hd : Nat → Nat} {τ0 : Int32} {τ1 : Int32} {τ2 : Int32} {τ3 : Int32} {fd : Nat → Nat} {F : Nat → Int32} {gd : Nat → Nat} {γ0 : Int32} {γ1 : Int64} {γ2 : Int32} {γ3 : Nat → Int32} {γ4 : Nat → Int32} {γ5 : Nat → Int32} {uh ph : Nat} {zd : Nat → Nat} {σ0 : Int32} {σ1 : Nat → Int32} {σ2 : Nat → Int32} {σ3 : Nat → Int32} {σ4 : Nat → Int32} {σ5 : Nat → Int32} {σ6 : Nat → Int32} {σ7 : Nat → Int32} {σ8 : Nat → Int32} {σ9 : Nat → Int32} {σ10 : Nat → Int32} {σ11 : Nat → Int32} {σ12 : Nat → Int32} {σ13 : Nat → Int32} {σ14 : Nat → Int32} {σ15 : Nat → Int32} {σ16 : Nat → Int32} {σ17 : Nat → Int32} {σ18 : Nat → Int32} {σ19 : Nat → Int32} {σ20 : Int32} {σ21 : Int32} {σ22 : Int32} {σ23 : Nat → Int32} {σ24 : Int32} {σ25 : Int32} {σ26 : Nat → Int32} {σ27 : Nat → Int32} {σ28 : Nat → Int32} {σ29 : Nat → Int32} {σ30 : Nat → Int32} {k : Nat} {what : Nat} (hfix : CallFix p m c cL_law 4 s #[Value.ref b] wsL_law RL) (hroom : cells ≤ room_1.cells ∧ slots ≤ room_1.slots) (hX : va_X b L xs s s.heap) (hbl : b < s.heap.size) (hbA : ¬ A b) (hL9 : L ≤ 384) (hi9 : i + 6 ≤ L) (hl : lv_has ls 4 [(0, .ref b), (1, .ref (ad 0)), (2, .ref (zd 0)), (3, .int (nI i))]) (hM : xM D (TY q) [w8 q ad (td 0) (sd 0) (dd 0) (md 0) (rd 0) (nd 0) (ud 0) (pd 0) (hd 0) (gd 0), w2 q td ν0 ν1 ν2 ν3, wst q sd X, wst q dd Y, w3 q md μ0 μ1 μ2, w3 q rd ρ0 ρ1 ρ2, wk q nd N, wp q ud ua 8 (nI uh), wpl q ua U 8, wp q pd pa 2 (nI ph), wpl q pa P 2, w0 q hd τ0 τ1 τ2 τ3 (fd 0), wk q fd F, w6 q gd γ0 γ1 γ2 γ3 γ4 γ5, w9 q zd σ0 σ1 σ2 σ3 σ4 σ5 σ6 σ7 σ8 σ9 σ10 σ11 σ12 σ13 σ14 σ15 σ16 σ17 σ18 σ19 σ20 σ21 σ22 σ23 σ24 σ25 σ26 σ27 σ28 σ29 σ30] A s.heap s H locs) (hv_k : xs (i + 1) = nI k) (hv_what : xs (i + 2) = nI what) (hK : okK N) (hk0 : k < tn (N 26)) (hwhat9 : what ≤ 3) (r_hk0 : k < tn (xreg σ19 0 26)) (r_hwh : what ≤ 3) (r_hK0 : okK (xreg σ19 0)) (hret : (N (26 + 1 + 4 * k + what) : Int32) = xreg σ19 0 (26 + 1 + 4 * k + what)) (kk : ∀ (H : Heap) (locs : List Loc), xM D (TY q) [w8 q ad (td 0) (sd 0) (dd 0) (md 0) (rd 0) (nd 0) (ud 0) (pd 0) (hd 0) (gd 0), w2 q td ν0 ν1 ν2 ν3, wst q sd X, wst q dd Y, w3 q md μ0 μ1 μ2, w3 q rd ρ0 ρ1 ρ2, wk q nd N, wp q ud ua 8 (nI uh), wpl q ua U 8, wp q pd pa 2 (nI ph), wpl q pa P 2, w0 q hd τ0 τ1 τ2 τ3 (fd 0), wk q fd F, w6 q gd γ0 γ1 γ2 γ3 γ4 γ5, w9 q zd σ0 σ1 σ2 σ3 σ4 σ5 σ6 σ7 σ8 σ9 σ10 σ11 σ12 σ13 σ14 σ15 σ16 σ17 σ18 σ19 σ20 σ21 σ22 σ23 σ24 σ25 σ26 σ27 σ28 σ29 σ30] A s.heap s H locs → W p l e room_1 s m #[Value.ref b] below meth c H locs cells slots Q (F0 m 874 ls [])) : W p l e room_1 s m #[Value.ref b] below meth c H locs cells slots Q (F0 m 286 ls []) := by
  obtain ⟨hx, hb, hml, hown, hts⟩ := id hfix
  refine lv_aload_n hx hb dL_law_286 rfl (lv_at hl 1 rfl) ?_
  refine lv_aload_n hx hb dL_law_287 rfl (lv_at hl 0 rfl) ?_
  refine lv_iload_n hx hb dL_law_288 rfl (lv_at hl 3 rfl) ?_
  refine lv_iconst (v := nI 1) hx hb dL_law_289 (by decide) ?_
  refine x_iadd (x := i) (y := 1) hx hb dL_law_290 ?_
  refine va_sld hx hb hX hbl hbA hM.2.2.2.1 (i := nI (i + 1)) (vp_in_nI (by omega) (by omega)) dL_law_291 ?_
  refine x_cast (y := xs (i + 1)) (by rw [nI_clamp (by omega)]) ?_
  refine x_cast (y := nI k) hv_k ?_
  refine lv_aload_n hx hb dL_law_292 rfl (lv_at hl 0 rfl) ?_
  refine lv_iload_n hx hb dL_law_293 rfl (lv_at hl 3 rfl) ?_
  refine lv_iconst (v := nI 2) hx hb dL_law_294 (by decide) ?_
  refine x_iadd (x := i) (y := 2) hx hb dL_law_295 ?_
  refine va_sld hx hb hX hbl hbA hM.2.2.2.1 (i := nI (i + 2)) (vp_in_nI (by omega) (by omega)) dL_law_296 ?_
  refine x_cast (y := xs (i + 2)) (by rw [nI_clamp (by omega)]) ?_
  refine x_cast (y := nI what) hv_what ?_
  refine x_calli (bc := [w8 q ad (td 0) (sd 0) (dd 0) (md 0) (rd 0) (nd 0) (ud 0) (pd 0) (hd 0) (gd 0), wk q nd N]) (br := [w2 q td ν0 ν1 ν2 ν3, wst q sd X, wst q dd Y, w3 q md μ0 μ1 μ2, w3 q rd ρ0 ρ1 ρ2, wp q ud ua 8 (nI uh), wpl q ua U 8, wp q pd pa 2 (nI ph), wpl q pa P 2, w0 q hd τ0 τ1 τ2 τ3 (fd 0), wk q fd F, w6 q gd γ0 γ1 γ2 γ3 γ4 γ5, w9 q zd σ0 σ1 σ2 σ3 σ4 σ5 σ6 σ7 σ8 σ9 σ10 σ11 σ12 σ13 σ14 σ15 σ16 σ17 σ18 σ19 σ20 σ21 σ22 σ23 σ24 σ25 σ26 σ27 σ28 σ29 σ30]) hM [0, 6] [1, 2, 3, 4, 5, 7, 8, 9, 10, 11, 12, 13, 14] rfl rfl rfl (by decide) (x_runV (As := [.int (nI k), .int (nI what)]) (rest := []) hfix (c_X8_way l D q ad (td 0) (sd 0) (dd 0) (md 0) (rd 0) (nd 0) (ud 0) (pd 0) (hd 0) (gd 0) nd N k what hK hk0 hwhat9) (cwV 2 hts gL_law_X8_way rfl rfl rfl (by decide +kernel) ⟨Nat.le_of_ble_eq_true rfl, Nat.le_of_ble_eq_true rfl⟩) hM [0, 6] rfl rfl 0 0 rfl rfl rfl rfl rfl hl.1 rfl (Nat.le_of_ble_eq_true rfl) dL_law_297 hroom) (fun r u H locs hq hM => ?_)
  subst hq
  have hM : xM D (TY q) [w2 q td ν0 ν1 ν2 ν3, wst q sd X, wst q dd Y, w3 q md μ0 μ1 μ2, w3 q rd ρ0 ρ1 ρ2, wp q ud ua 8 (nI uh), wpl q ua U 8, wp q pd pa 2 (nI ph), wpl q pa P 2, w0 q hd τ0 τ1 τ2 τ3 (fd 0), wk q fd F, w6 q gd γ0 γ1 γ2 γ3 γ4 γ5, w9 q zd σ0 σ1 σ2 σ3 σ4 σ5 σ6 σ7 σ8 σ9 σ10 σ11 σ12 σ13 σ14 σ15 σ16 σ17 σ18 σ19 σ20 σ21 σ22 σ23 σ24 σ25 σ26 σ27 σ28 σ29 σ30, w8 q ad (td 0) (sd 0) (dd 0) (md 0) (rd 0) (nd 0) (ud 0) (pd 0) (hd 0) (gd 0), wk q nd N] A s.heap s H locs := hM
  have hM : xM D (TY q) [w8 q ad (td 0) (sd 0) (dd 0) (md 0) (rd 0) (nd 0) (ud 0) (pd 0) (hd 0) (gd 0), w2 q td ν0 ν1 ν2 ν3, wst q sd X, wst q dd Y, w3 q md μ0 μ1 μ2, w3 q rd ρ0 ρ1 ρ2, wk q nd N, wp q ud ua 8 (nI uh), wpl q ua U 8, wp q pd pa 2 (nI ph), wpl q pa P 2, w0 q hd τ0 τ1 τ2 τ3 (fd 0), wk q fd F, w6 q gd γ0 γ1 γ2 γ3 γ4 γ5, w9 q zd σ0 σ1 σ2 σ3 σ4 σ5 σ6 σ7 σ8 σ9 σ10 σ11 σ12 σ13 σ14 σ15 σ16 σ17 σ18 σ19 σ20 σ21 σ22 σ23 σ24 σ25 σ26 σ27 σ28 σ29 σ30] A s.heap s H locs := hM.sel [13, 0, 1, 2, 3, 4, 14, 5, 6, 7, 8, 9, 10, 11, 12] rfl rfl
  refine lv_aload_n hx hb dL_law_300 rfl (lv_at hl 2 rfl) ?_
  refine lv_aload_n hx hb dL_law_301 rfl (lv_at hl 0 rfl) ?_
  refine lv_iload_n hx hb dL_law_302 rfl (lv_at hl 3 rfl) ?_
  refine lv_iconst (v := nI 1) hx hb dL_law_303 (by decide) ?_
  refine x_iadd (x := i) (y := 1) hx hb dL_law_304 ?_
  refine va_sld hx hb hX hbl hbA hM.2.2.2.1 (i := nI (i + 1)) (vp_in_nI (by omega) (by omega)) dL_law_305 ?_
  refine x_cast (y := xs (i + 1)) (by rw [nI_clamp (by omega)]) ?_
  refine x_cast (y := nI k) hv_k ?_
  refine lv_aload_n hx hb dL_law_306 rfl (lv_at hl 0 rfl) ?_
  refine lv_iload_n hx hb dL_law_307 rfl (lv_at hl 3 rfl) ?_
  refine lv_iconst (v := nI 2) hx hb dL_law_308 (by decide) ?_
  refine x_iadd (x := i) (y := 2) hx hb dL_law_309 ?_
  refine va_sld hx hb hX hbl hbA hM.2.2.2.1 (i := nI (i + 2)) (vp_in_nI (by omega) (by omega)) dL_law_310 ?_
  refine x_cast (y := xs (i + 2)) (by rw [nI_clamp (by omega)]) ?_
  refine x_cast (y := nI what) hv_what ?_
  refine x_calli (bc := [w9 q zd σ0 σ1 σ2 σ3 σ4 σ5 σ6 σ7 σ8 σ9 σ10 σ11 σ12 σ13 σ14 σ15 σ16 σ17 σ18 σ19 σ20 σ21 σ22 σ23 σ24 σ25 σ26 σ27 σ28 σ29 σ30]) (br := [w8 q ad (td 0) (sd 0) (dd 0) (md 0) (rd 0) (nd 0) (ud 0) (pd 0) (hd 0) (gd 0), w2 q td ν0 ν1 ν2 ν3, wst q sd X, wst q dd Y, w3 q md μ0 μ1 μ2, w3 q rd ρ0 ρ1 ρ2, wk q nd N, wp q ud ua 8 (nI uh), wpl q ua U 8, wp q pd pa 2 (nI ph), wpl q pa P 2, w0 q hd τ0 τ1 τ2 τ3 (fd 0), wk q fd F, w6 q gd γ0 γ1 γ2 γ3 γ4 γ5]) hM [14] [0, 1, 2, 3, 4, 5, 6, 7, 8, 9, 10, 11, 12, 13] rfl rfl rfl (by decide) (x_runV (As := [.int (nI k), .int (nI what)]) (rest := [.int (N (26 + 1 + 4 * k + what))]) hfix (c_X9_way l D q zd σ0 σ1 σ2 σ3 σ4 σ5 σ6 σ7 σ8 σ9 σ10 σ11 σ12 σ13 σ14 σ15 σ16 σ17 σ18 σ19 σ20 σ21 σ22 σ23 σ24 σ25 σ26 σ27 σ28 σ29 σ30 k what r_hk0 r_hwh r_hK0) (cwV 2 hts gL_law_X9_way rfl rfl rfl (by decide +kernel) ⟨Nat.le_of_ble_eq_true rfl, Nat.le_of_ble_eq_true rfl⟩) hM [14] rfl rfl 14 0 rfl rfl rfl rfl rfl hl.1 rfl (Nat.le_of_ble_eq_true rfl) dL_law_311 hroom) (fun r u H locs hq hM => ?_)
  subst hq
  have hM : xM D (TY q) [w8 q ad (td 0) (sd 0) (dd 0) (md 0) (rd 0) (nd 0) (ud 0) (pd 0) (hd 0) (gd 0), w2 q td ν0 ν1 ν2 ν3, wst q sd X, wst q dd Y, w3 q md μ0 μ1 μ2, w3 q rd ρ0 ρ1 ρ2, wk q nd N, wp q ud ua 8 (nI uh), wpl q ua U 8, wp q pd pa 2 (nI ph), wpl q pa P 2, w0 q hd τ0 τ1 τ2 τ3 (fd 0), wk q fd F, w6 q gd γ0 γ1 γ2 γ3 γ4 γ5, w9 q zd σ0 σ1 σ2 σ3 σ4 σ5 σ6 σ7 σ8 σ9 σ10 σ11 σ12 σ13 σ14 σ15 σ16 σ17 σ18 σ19 σ20 σ21 σ22 σ23 σ24 σ25 σ26 σ27 σ28 σ29 σ30] A s.heap s H locs := hM
  refine lv_icmp_eq (tgt := 874) hx hb dL_law_314 (by decide) (fun c1 => ?_) (fun c1 => absurd (hret) c1)
  exact kk _ _ hM
set_option maxHeartbeats 2000000 in
set_option maxRecDepth 100000 in
theorem st_wayB {p : Program} {e : Env} {s : State} {m : MethodId} {below : List Frame} {meth : Method} {c : Code} {H : Heap} {locs : List Loc} {cells slots : Nat} {Q : State → Prop} {ls : Array Slot} {D : va_G} {q : Nat → ClassId} {A : Nat → Prop} (l : Launch) {b L i : Nat} {xs : Nat → Int32} {ad : Nat → Nat} {td : Nat → Nat} {ν0 : Nat → Int32} {ν1 : Nat → Int32} {ν2 : Int32} {ν3 : Int32} {sd : Nat → Nat} {X : Nat → Nat → Int32} {dd : Nat → Nat} {Y : Nat → Nat → Int32} {md : Nat → Nat} {μ0 : Nat → Int32} {μ1 : Nat → Int32} {μ2 : Int32} {rd : Nat → Nat} {ρ0 : Nat → Int32} {ρ1 : Nat → Int32} {ρ2 : Int32} {nd : Nat → Nat} {N : Nat → Int32} {ud : Nat → Nat} {ua : Nat → Nat → Nat} {U : Nat → Nat → Int32} {pd : Nat → Nat} {pa : Nat → Nat → Nat} {P : Nat → Nat → Int32} {hd : Nat → Nat} {τ0 : Int32} {τ1 : Int32} {τ2 : Int32} {τ3 : Int32} {fd : Nat → Nat} {F : Nat → Int32} {gd : Nat → Nat} {γ0 : Int32} {γ1 : Int64} {γ2 : Int32} {γ3 : Nat → Int32} {γ4 : Nat → Int32} {γ5 : Nat → Int32} {uh ph : Nat} {zd : Nat → Nat} {σ0 : Int32} {σ1 : Nat → Int32} {σ2 : Nat → Int32} {σ3 : Nat → Int32} {σ4 : Nat → Int32} {σ5 : Nat → Int32} {σ6 : Nat → Int32} {σ7 : Nat → Int32} {σ8 : Nat → Int32} {σ9 : Nat → Int32} {σ10 : Nat → Int32} {σ11 : Nat → Int32} {σ12 : Nat → Int32} {σ13 : Nat → Int32} {σ14 : Nat → Int32} {σ15 : Nat → Int32} {σ16 : Nat → Int32} {σ17 : Nat → Int32} {σ18 : Nat → Int32} {σ19 : Nat → Int32} {σ20 : Int32} {σ21 : Int32} {σ22 : Int32} {σ23 : Nat → Int32} {σ24 : Int32} {σ25 : Int32} {σ26 : Nat → Int32} {σ27 : Nat → Int32} {σ28 : Nat → Int32} {σ29 : Nat → Int32} {σ30 : Nat → Int32} (hfix : CallFix p m c cL_law 4 s #[Value.ref b] wsL_law RL) (hroom : cells ≤ room_1.cells ∧ slots ≤ room_1.slots) (hX : va_X b L xs s s.heap) (hbl : b < s.heap.size) (hbA : ¬ A b) (hL9 : L ≤ 384) (hi9 : i + 6 ≤ L) (hl : lv_has ls 4 [(0, .ref b), (1, .ref (ad 0)), (2, .ref (zd 0)), (3, .int (nI i))]) (hM : xM D (TY q) [w8 q ad (td 0) (sd 0) (dd 0) (md 0) (rd 0) (nd 0) (ud 0) (pd 0) (hd 0) (gd 0), w2 q td ν0 ν1 ν2 ν3, wst q sd X, wst q dd Y, w3 q md μ0 μ1 μ2, w3 q rd ρ0 ρ1 ρ2, wk q nd N, wp q ud ua 8 (nI uh), wpl q ua U 8, wp q pd pa 2 (nI ph), wpl q pa P 2, w0 q hd τ0 τ1 τ2 τ3 (fd 0), wk q fd F, w6 q gd γ0 γ1 γ2 γ3 γ4 γ5, w9 q zd σ0 σ1 σ2 σ3 σ4 σ5 σ6 σ7 σ8 σ9 σ10 σ11 σ12 σ13 σ14 σ15 σ16 σ17 σ18 σ19 σ20 σ21 σ22 σ23 σ24 σ25 σ26 σ27 σ28 σ29 σ30] A s.heap s H locs) (hK : okK N) (hbad : ¬ (0 ≤ ((xs (i + 1)).toInt) ∧ ((xs (i + 1)).toInt) < tn (N 26)) ∨ ¬ (0 ≤ ((xs (i + 2)).toInt) ∧ ((xs (i + 2)).toInt) ≤ 3)) (r_hK0 : okK (xreg σ19 0)) (r_hbad : ¬ (0 ≤ ((xs (i + 1)).toInt) ∧ ((xs (i + 1)).toInt) < tn (xreg σ19 0 26)) ∨ ¬ (0 ≤ ((xs (i + 2)).toInt) ∧ ((xs (i + 2)).toInt) ≤ 3)) (hret : ((-1) : Int32) = (-1)) (kk : ∀ (H : Heap) (locs : List Loc), xM D (TY q) [w8 q ad (td 0) (sd 0) (dd 0) (md 0) (rd 0) (nd 0) (ud 0) (pd 0) (hd 0) (gd 0), w2 q td ν0 ν1 ν2 ν3, wst q sd X, wst q dd Y, w3 q md μ0 μ1 μ2, w3 q rd ρ0 ρ1 ρ2, wk q nd N, wp q ud ua 8 (nI uh), wpl q ua U 8, wp q pd pa 2 (nI ph), wpl q pa P 2, w0 q hd τ0 τ1 τ2 τ3 (fd 0), wk q fd F, w6 q gd γ0 γ1 γ2 γ3 γ4 γ5, w9 q zd σ0 σ1 σ2 σ3 σ4 σ5 σ6 σ7 σ8 σ9 σ10 σ11 σ12 σ13 σ14 σ15 σ16 σ17 σ18 σ19 σ20 σ21 σ22 σ23 σ24 σ25 σ26 σ27 σ28 σ29 σ30] A s.heap s H locs → W p l e room_1 s m #[Value.ref b] below meth c H locs cells slots Q (F0 m 874 ls [])) : W p l e room_1 s m #[Value.ref b] below meth c H locs cells slots Q (F0 m 286 ls []) := by
  obtain ⟨hx, hb, hml, hown, hts⟩ := id hfix
  refine lv_aload_n hx hb dL_law_286 rfl (lv_at hl 1 rfl) ?_
  refine lv_aload_n hx hb dL_law_287 rfl (lv_at hl 0 rfl) ?_
  refine lv_iload_n hx hb dL_law_288 rfl (lv_at hl 3 rfl) ?_
  refine lv_iconst (v := nI 1) hx hb dL_law_289 (by decide) ?_
  refine x_iadd (x := i) (y := 1) hx hb dL_law_290 ?_
  refine va_sld hx hb hX hbl hbA hM.2.2.2.1 (i := nI (i + 1)) (vp_in_nI (by omega) (by omega)) dL_law_291 ?_
  refine x_cast (y := xs (i + 1)) (by rw [nI_clamp (by omega)]) ?_
  refine lv_aload_n hx hb dL_law_292 rfl (lv_at hl 0 rfl) ?_
  refine lv_iload_n hx hb dL_law_293 rfl (lv_at hl 3 rfl) ?_
  refine lv_iconst (v := nI 2) hx hb dL_law_294 (by decide) ?_
  refine x_iadd (x := i) (y := 2) hx hb dL_law_295 ?_
  refine va_sld hx hb hX hbl hbA hM.2.2.2.1 (i := nI (i + 2)) (vp_in_nI (by omega) (by omega)) dL_law_296 ?_
  refine x_cast (y := xs (i + 2)) (by rw [nI_clamp (by omega)]) ?_
  refine x_calli (bc := [w8 q ad (td 0) (sd 0) (dd 0) (md 0) (rd 0) (nd 0) (ud 0) (pd 0) (hd 0) (gd 0), wk q nd N]) (br := [w2 q td ν0 ν1 ν2 ν3, wst q sd X, wst q dd Y, w3 q md μ0 μ1 μ2, w3 q rd ρ0 ρ1 ρ2, wp q ud ua 8 (nI uh), wpl q ua U 8, wp q pd pa 2 (nI ph), wpl q pa P 2, w0 q hd τ0 τ1 τ2 τ3 (fd 0), wk q fd F, w6 q gd γ0 γ1 γ2 γ3 γ4 γ5, w9 q zd σ0 σ1 σ2 σ3 σ4 σ5 σ6 σ7 σ8 σ9 σ10 σ11 σ12 σ13 σ14 σ15 σ16 σ17 σ18 σ19 σ20 σ21 σ22 σ23 σ24 σ25 σ26 σ27 σ28 σ29 σ30]) hM [0, 6] [1, 2, 3, 4, 5, 7, 8, 9, 10, 11, 12, 13, 14] rfl rfl rfl (by decide) (x_runV (As := [.int (xs (i + 1)), .int (xs (i + 2))]) (rest := []) hfix (c_X8_wayB l D q ad (td 0) (sd 0) (dd 0) (md 0) (rd 0) (nd 0) (ud 0) (pd 0) (hd 0) (gd 0) nd N (xs (i + 1)) ((xs (i + 1)).toInt) (xs (i + 2)) ((xs (i + 2)).toInt) hK rfl rfl hbad) (cwV 2 hts gL_law_X8_way rfl rfl rfl (by decide +kernel) ⟨Nat.le_of_ble_eq_true rfl, Nat.le_of_ble_eq_true rfl⟩) hM [0, 6] rfl rfl 0 0 rfl rfl rfl rfl rfl hl.1 rfl (Nat.le_of_ble_eq_true rfl) dL_law_297 hroom) (fun r u H locs hq hM => ?_)
  subst hq
  have hM : xM D (TY q) [w2 q td ν0 ν1 ν2 ν3, wst q sd X, wst q dd Y, w3 q md μ0 μ1 μ2, w3 q rd ρ0 ρ1 ρ2, wp q ud ua 8 (nI uh), wpl q ua U 8, wp q pd pa 2 (nI ph), wpl q pa P 2, w0 q hd τ0 τ1 τ2 τ3 (fd 0), wk q fd F, w6 q gd γ0 γ1 γ2 γ3 γ4 γ5, w9 q zd σ0 σ1 σ2 σ3 σ4 σ5 σ6 σ7 σ8 σ9 σ10 σ11 σ12 σ13 σ14 σ15 σ16 σ17 σ18 σ19 σ20 σ21 σ22 σ23 σ24 σ25 σ26 σ27 σ28 σ29 σ30, w8 q ad (td 0) (sd 0) (dd 0) (md 0) (rd 0) (nd 0) (ud 0) (pd 0) (hd 0) (gd 0), wk q nd N] A s.heap s H locs := hM
  have hM : xM D (TY q) [w8 q ad (td 0) (sd 0) (dd 0) (md 0) (rd 0) (nd 0) (ud 0) (pd 0) (hd 0) (gd 0), w2 q td ν0 ν1 ν2 ν3, wst q sd X, wst q dd Y, w3 q md μ0 μ1 μ2, w3 q rd ρ0 ρ1 ρ2, wk q nd N, wp q ud ua 8 (nI uh), wpl q ua U 8, wp q pd pa 2 (nI ph), wpl q pa P 2, w0 q hd τ0 τ1 τ2 τ3 (fd 0), wk q fd F, w6 q gd γ0 γ1 γ2 γ3 γ4 γ5, w9 q zd σ0 σ1 σ2 σ3 σ4 σ5 σ6 σ7 σ8 σ9 σ10 σ11 σ12 σ13 σ14 σ15 σ16 σ17 σ18 σ19 σ20 σ21 σ22 σ23 σ24 σ25 σ26 σ27 σ28 σ29 σ30] A s.heap s H locs := hM.sel [13, 0, 1, 2, 3, 4, 14, 5, 6, 7, 8, 9, 10, 11, 12] rfl rfl
  refine lv_aload_n hx hb dL_law_300 rfl (lv_at hl 2 rfl) ?_
  refine lv_aload_n hx hb dL_law_301 rfl (lv_at hl 0 rfl) ?_
  refine lv_iload_n hx hb dL_law_302 rfl (lv_at hl 3 rfl) ?_
  refine lv_iconst (v := nI 1) hx hb dL_law_303 (by decide) ?_
  refine x_iadd (x := i) (y := 1) hx hb dL_law_304 ?_
  refine va_sld hx hb hX hbl hbA hM.2.2.2.1 (i := nI (i + 1)) (vp_in_nI (by omega) (by omega)) dL_law_305 ?_
  refine x_cast (y := xs (i + 1)) (by rw [nI_clamp (by omega)]) ?_
  refine lv_aload_n hx hb dL_law_306 rfl (lv_at hl 0 rfl) ?_
  refine lv_iload_n hx hb dL_law_307 rfl (lv_at hl 3 rfl) ?_
  refine lv_iconst (v := nI 2) hx hb dL_law_308 (by decide) ?_
  refine x_iadd (x := i) (y := 2) hx hb dL_law_309 ?_
  refine va_sld hx hb hX hbl hbA hM.2.2.2.1 (i := nI (i + 2)) (vp_in_nI (by omega) (by omega)) dL_law_310 ?_
  refine x_cast (y := xs (i + 2)) (by rw [nI_clamp (by omega)]) ?_
  refine x_calli (bc := [w9 q zd σ0 σ1 σ2 σ3 σ4 σ5 σ6 σ7 σ8 σ9 σ10 σ11 σ12 σ13 σ14 σ15 σ16 σ17 σ18 σ19 σ20 σ21 σ22 σ23 σ24 σ25 σ26 σ27 σ28 σ29 σ30]) (br := [w8 q ad (td 0) (sd 0) (dd 0) (md 0) (rd 0) (nd 0) (ud 0) (pd 0) (hd 0) (gd 0), w2 q td ν0 ν1 ν2 ν3, wst q sd X, wst q dd Y, w3 q md μ0 μ1 μ2, w3 q rd ρ0 ρ1 ρ2, wk q nd N, wp q ud ua 8 (nI uh), wpl q ua U 8, wp q pd pa 2 (nI ph), wpl q pa P 2, w0 q hd τ0 τ1 τ2 τ3 (fd 0), wk q fd F, w6 q gd γ0 γ1 γ2 γ3 γ4 γ5]) hM [14] [0, 1, 2, 3, 4, 5, 6, 7, 8, 9, 10, 11, 12, 13] rfl rfl rfl (by decide) (x_runV (As := [.int (xs (i + 1)), .int (xs (i + 2))]) (rest := [.int (-1)]) hfix (c_X9_wayB l D q zd σ0 σ1 σ2 σ3 σ4 σ5 σ6 σ7 σ8 σ9 σ10 σ11 σ12 σ13 σ14 σ15 σ16 σ17 σ18 σ19 σ20 σ21 σ22 σ23 σ24 σ25 σ26 σ27 σ28 σ29 σ30 (xs (i + 1)) ((xs (i + 1)).toInt) (xs (i + 2)) ((xs (i + 2)).toInt) rfl rfl r_hK0 r_hbad) (cwV 2 hts gL_law_X9_way rfl rfl rfl (by decide +kernel) ⟨Nat.le_of_ble_eq_true rfl, Nat.le_of_ble_eq_true rfl⟩) hM [14] rfl rfl 14 0 rfl rfl rfl rfl rfl hl.1 rfl (Nat.le_of_ble_eq_true rfl) dL_law_311 hroom) (fun r u H locs hq hM => ?_)
  subst hq
  have hM : xM D (TY q) [w8 q ad (td 0) (sd 0) (dd 0) (md 0) (rd 0) (nd 0) (ud 0) (pd 0) (hd 0) (gd 0), w2 q td ν0 ν1 ν2 ν3, wst q sd X, wst q dd Y, w3 q md μ0 μ1 μ2, w3 q rd ρ0 ρ1 ρ2, wk q nd N, wp q ud ua 8 (nI uh), wpl q ua U 8, wp q pd pa 2 (nI ph), wpl q pa P 2, w0 q hd τ0 τ1 τ2 τ3 (fd 0), wk q fd F, w6 q gd γ0 γ1 γ2 γ3 γ4 γ5, w9 q zd σ0 σ1 σ2 σ3 σ4 σ5 σ6 σ7 σ8 σ9 σ10 σ11 σ12 σ13 σ14 σ15 σ16 σ17 σ18 σ19 σ20 σ21 σ22 σ23 σ24 σ25 σ26 σ27 σ28 σ29 σ30] A s.heap s H locs := hM
  refine lv_icmp_eq (tgt := 874) hx hb dL_law_314 (by decide) (fun c1 => ?_) (fun c1 => absurd (hret) c1)
  exact kk _ _ hM
