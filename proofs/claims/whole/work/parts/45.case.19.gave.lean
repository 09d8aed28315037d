/-! own rows: a case of the law -/
set_option maxHeartbeats 2000000 in
set_option maxRecDepth 100000 in
theorem lc_gave {p : Program} {e : Env} {s : State} {m : MethodId} {below : List Frame} {meth : Method} {c : Code} {H : Heap} {locs : List Loc} {cells slots : Nat} {Q : State → Prop} {ls : Array Slot} {D : va_G} {q : Nat → ClassId} {A : Nat → Prop} (l : Launch) {b L i : Nat} {xs : Nat → Int32} {ad zd : Nat → Nat} (hfix : CallFix p m c cL_law 4 s #[Value.ref b] wsL_law RL) (hroom : cells ≤ room_1.cells ∧ slots ≤ room_1.slots) (hX : va_X b L xs s s.heap) (hbl : b < s.heap.size) (hbA : ¬ A b) (hL9 : L ≤ 384) (hi9 : i + 6 ≤ L) (hl : lv_has ls 4 [(0, .ref b), (1, .ref (ad 0)), (2, .ref (zd 0)), (3, .int (nI i))]) (hLM : LM D q A s ad zd H locs) (kk : ∀ (H : Heap) (locs : List Loc), LM D q A s ad zd H locs → W p l e room_1 s m #[Value.ref b] below meth c H locs cells slots Q (F0 m 874 ls [])) : W p l e room_1 s m #[Value.ref b] below meth c H locs cells slots Q (F0 m 726 ls []) := by
  obtain ⟨td, ν0, ν1, ν2, ν3, sd, X, dd, Y, md, μ0, μ1, μ2, rd, ρ0, ρ1, ρ2, nd, N, ud, ua, U, pd, pa, P, hd, τ0, τ1, τ2, τ3, fd, F, gd, γ0, γ1, γ2, γ3, γ4, γ5, uh, ph, σ0, σ1, σ2, σ3, σ4, σ5, σ6, σ7, σ8, σ9, σ10, σ11, σ12, σ13, σ14, σ15, σ16, σ17, σ18, σ19, σ20, σ21, σ22, σ23, σ24, σ25, σ26, σ27, σ28, σ29, σ30, hLI, hM⟩ := hLM
  obtain ⟨⟨t1, t2, t3, t4⟩, ⟨hT, hMl, hV⟩, hR, ⟨u1, u2, u3⟩, p1, p2, p3⟩ := hLI
  subst t3 u1 p1
  have hK := hR.nok
  have hE : okE σ9 σ10 σ11 (tn (σ8 0)) := hT.2.2.2.2.2.1
  have h8 : tn (σ8 0) ≤ 8 := hT.1.2.2.2.1.2
  have h2 : tn (σ2 0) ≤ 5 := hT.1.2.1.2
  have h5 : tn (σ5 0) ≤ 5 := hT.1.2.2.1.2
  have h15 : tn (σ15 0) ≤ 3 := hT.1.2.2.2.2.2.2
  have h25 : tn (xreg σ19 0 25) ≤ 60 := hR.2.1.1.2
  have e25 : N 25 = xreg σ19 0 25 := hR.1.k25
  have e26 : N 26 = xreg σ19 0 26 := hR.1.k26
  have eU : tn (nI uh) = uh := tn_nI (by omega)
  have eP : tn (nI ph) = ph := tn_nI (by omega)
  by_cases hb : ¬ (0 ≤ ((xs (i + 1)).toInt) ∧ ((xs (i + 1)).toInt) ≤ 9999) ∨ ¬ (0 ≤ ((xs (i + 2)).toInt) ∧ ((xs (i + 2)).toInt) ≤ 1)
  · exact st_gaveB l hfix hroom hX hbl hbA hL9 hi9 hl hM hb hb (rfl) (fun H locs hM => kk H locs ⟨_, _, _, _, _, _, _, _, _, _, _, _, _, _, _, _, _, _, _, _, _, _, _, _, _, _, _, _, _, _, _, _, _, _, _, _, _, _, _, _, _, _, _, _, _, _, _, _, _, _, _, _, _, _, _, _, _, _, _, _, _, _, _, _, _, _, _, _, _, _, _, _, ⟨⟨t1, t2, rfl, t4⟩, ⟨hT, hMl, hV⟩, hR, ⟨rfl, u2, u3⟩, rfl, p2, p3⟩, hM⟩)
  obtain ⟨v, hv_v, n_v⟩ := i_nat (x := xs (i + 1)) (by omega)
  obtain ⟨what, hv_what, n_what⟩ := i_nat (x := xs (i + 2)) (by omega)
  exact st_gave l (S := (xS0 σ2 σ3 σ4 σ5 σ6 σ7 σ8 σ9 σ10 σ11 σ12 σ13 σ14 σ15 σ16 σ17 σ18)) hfix hroom hX hbl hbA hL9 hi9 hl hM hv_v hv_what hT hK hMl (show v ≤ 9999 by omega) (show what ≤ 1 by omega) (show v ≤ 9999 by omega) (show what ≤ 1 by omega) hT.1.2.1 hT.1.2.2.1 hT.1.2.2.2.1 hE hR.2.1 (fun uF1 uK2 uw3 uh4 => by show (if what = 0 then nI (xsv (fun z => xsw (fun y9 => kW σ3 σ4 (tn (σ2 0)) (kGoN σ4 (tn (σ2 0)) (tn (σ5 0)) σ9 σ10 σ11 (tn (σ8 0)) (-4) (N, -4, nI 0) (60 - tn (N 25))).1 y9) z (tn (σ5 0))) v (2 ^ (tn (σ5 0)))).1 else (xsv (fun z => xsw (fun y9 => kW σ3 σ4 (tn (σ2 0)) (kGoN σ4 (tn (σ2 0)) (tn (σ5 0)) σ9 σ10 σ11 (tn (σ8 0)) (-4) (N, -4, nI 0) (60 - tn (N 25))).1 y9) z (tn (σ5 0))) v (2 ^ (tn (σ5 0)))).2 : Int32) = (if what = 0 then nI (xsv (fun z => xsw (fun h => kW σ3 σ4 (tn (σ2 0)) (kGoN σ4 (tn (σ2 0)) (tn (σ5 0)) σ9 σ10 σ11 (tn (σ8 0)) (-4) (xreg σ19 0, σ24, nI 0) (60 - tn (xreg σ19 0 25))).1 h) z (tn (σ5 0))) v (2 ^ tn (σ5 0))).1 else (xsv (fun z => xsw (fun h => kW σ3 σ4 (tn (σ2 0)) (kGoN σ4 (tn (σ2 0)) (tn (σ5 0)) σ9 σ10 σ11 (tn (σ8 0)) (-4) (xreg σ19 0, σ24, nI 0) (60 - tn (xreg σ19 0 25))).1 h) z (tn (σ5 0))) v (2 ^ tn (σ5 0))).2); exact t_gave hE h8 hR h5 h2) (fun uF1 uK2 uw3 uh4 H locs hM => kk H locs ⟨_, _, _, _, _, _, _, _, _, _, _, _, _, _, _, _, _, _, _, _, _, _, _, _, _, _, _, _, _, _, _, _, _, _, _, _, _, _, _, _, _, _, _, _, _, _, _, _, _, _, _, _, _, _, _, _, _, _, _, _, _, _, _, _, _, _, _, _, _, _, _, _, ⟨⟨t1, t2, rfl, t4⟩, ⟨hT, hMl, hV⟩, kR_spl_ne (by decide) hR, ⟨rfl, u2, kU_spl (Or.inr (by decide)) u2 u3⟩, rfl, p2, kP_spl (Or.inr (by decide)) p2 p3⟩, hM⟩)
