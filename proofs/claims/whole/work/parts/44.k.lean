/-! own words: answers of both sides -/
section ANS
variable {wo kd : Nat → Int32} {G nH : Nat} {ei eo pa : Nat → Int32} {E : Nat} {z w h : Int32} {N R : Nat → Int32}
theorem t_first {what uk : Nat} (hE : okE ei eo pa E) (hE8 : E ≤ 8) (hR : kR N R) (f0 : uk ≤ 60 - tn (N 25) ∧ (∀ j, 1 ≤ j → j < uk → xhun (kGoN kd G nH ei eo pa E (-4) (N, -4, nI 0) j).1 N 8 < 0) ∧ (xhun (kGoN kd G nH ei eo pa E (-4) (N, -4, nI 0) uk).1 N 8 < 0 → uk = 60 - tn (N 25))) : (if xhun (kGoN kd G nH ei eo pa E (-4) (N, -4, nI 0) uk).1 N 8 < 0 then (-4) else if what = 0 then (kGoN kd G nH ei eo pa E (-4) (N, -4, nI 0) uk).1 25 else xhun (kGoN kd G nH ei eo pa E (-4) (N, -4, nI 0) uk).1 N 8 : Int32) = (if what = 0 then (kFir kd G nH ei eo pa E (60 - tn (R 25)) (R, w, h)).1 else (kFir kd G nH ei eo pa E (60 - tn (R 25)) (R, w, h)).2) := by
  have h25 := hR.2.1.1.2
  have e25 := hR.1.k25
  rw [e25] at f0
  obtain ⟨q1, q2, q3⟩ := f0
  have hg : ∀ j, j ≤ 60 - tn (R 25) → kAgr (kGoN kd G nH ei eo pa E (-4) (N, -4, nI 0) j).1 (kGoN kd G nH ei eo pa E (-4) (R, w, h) j).1 := fun j hj => kGoN_agr hE hE8 hR.1 hR.2.1 j (by omega)
  have hx : ∀ j, j ≤ 60 - tn (R 25) → xhun (kGoN kd G nH ei eo pa E (-4) (N, -4, nI 0) j).1 N 8 = xhun (kGoN kd G nH ei eo pa E (-4) (R, w, h) j).1 R 8 := fun j hj => xhun_same 8 (Nat.le_refl _) (fun i hi => (hg j hj).hi (by omega) (by omega)) (fun i hi => hR.1.hi (by omega) (by omega))
  rw [hx uk q1] at q3 ⊢
  rcases kFir_tie (kd := kd) (G := G) (nH := nH) (w := w) (h := h) hE hE8 hR.2.1 hR.2.h q1 (fun j a b => by rw [← hx j (by omega)]; exact q2 j a b) q3 with ⟨a, d⟩ | ⟨a, d⟩
  · rw [if_pos a, d]
    split <;> rfl
  · rw [if_neg a, d, (hg uk q1).k25]
theorem xgB_cases {sp K : Nat → Int32} {w0 : Int32} : ∀ n, (xgB wo kd G nH ei eo pa E sp K w0 n).1 = (-4) ∨ ∃ k, k < n ∧ (xgB wo kd G nH ei eo pa E sp K w0 n).1 = nI k
  | 0 => Or.inl rfl
  | n + 1 => by
    rw [xgB]
    split
    · exact Or.inr ⟨n, Nat.lt_succ_self n, rfl⟩
    · rcases xgB_cases n with q | ⟨k, q1, q2⟩
      · exact Or.inl q
      · exact Or.inr ⟨k, by omega, q2⟩
theorem t_gift {what : Nat} {sp : Nat → Int32} (hE : okE ei eo pa E) (hE8 : E ≤ 8) (hR : kR N R) (hH : nH ≤ 5) (hG : G ≤ 5) : (if (xgB wo kd G nH ei eo pa E sp N (kWA wo kd G nH (kGoN kd G nH ei eo pa E (-4) (N, -4, nI 0) (60 - tn (N 25))).1) 5000).1 = (-4) then (-4) else if what = 0 then (xgB wo kd G nH ei eo pa E sp N (kWA wo kd G nH (kGoN kd G nH ei eo pa E (-4) (N, -4, nI 0) (60 - tn (N 25))).1) 5000).1 else (xgB wo kd G nH ei eo pa E sp N (kWA wo kd G nH (kGoN kd G nH ei eo pa E (-4) (N, -4, nI 0) (60 - tn (N 25))).1) 5000).2 : Int32) = (if (xgB wo kd G nH ei eo pa E sp R (kWA wo kd G nH (kGoN kd G nH ei eo pa E (-4) (R, w, nI 0) (60 - tn (R 25))).1) 5000).1 < 0 ∨ what = 0 then (xgB wo kd G nH ei eo pa E sp R (kWA wo kd G nH (kGoN kd G nH ei eo pa E (-4) (R, w, nI 0) (60 - tn (R 25))).1) 5000).1 else (xgB wo kd G nH ei eo pa E sp R (kWA wo kd G nH (kGoN kd G nH ei eo pa E (-4) (R, w, nI 0) (60 - tn (R 25))).1) 5000).2) := by
  rw [kWA_agr (go5 (w := w) hE hE8 hR) hH hG, xgB_agr hE hE8 hR.1 hR.2.1 hH hG]
  rcases xgB_cases (wo := wo) (kd := kd) (G := G) (nH := nH) (ei := ei) (eo := eo) (pa := pa) (E := E) (sp := sp) (K := R) (w0 := kWA wo kd G nH (kGoN kd G nH ei eo pa E (-4) (R, w, nI 0) (60 - tn (R 25))).1) 5000 with q | ⟨k, q1, q2⟩
  · rw [if_pos q, if_pos (Or.inl (by rw [q]; decide)), q]
  · have hn : ¬ nI k < 0 := nI_pos (by omega)
    rw [if_neg (by rw [q2]; intro z; rw [z] at hn; exact hn (by decide))]
    by_cases hw : what = 0
    · rw [if_pos hw, if_pos (Or.inr hw)]
    · rw [if_neg hw, if_neg (by rw [q2]; exact fun z => z.elim hn hw)]
theorem t_gave {what v : Nat} (hE : okE ei eo pa E) (hE8 : E ≤ 8) (hR : kR N R) (hH : nH ≤ 5) (hG : G ≤ 5) : (if what = 0 then nI (xsv (fun z => xsw (fun y9 => kW wo kd G (kGoN kd G nH ei eo pa E (-4) (N, -4, nI 0) (60 - tn (N 25))).1 y9) z nH) v (2 ^ nH)).1 else (xsv (fun z => xsw (fun y9 => kW wo kd G (kGoN kd G nH ei eo pa E (-4) (N, -4, nI 0) (60 - tn (N 25))).1 y9) z nH) v (2 ^ nH)).2 : Int32) = (if what = 0 then nI (xsv (fun z => xsw (fun h => kW wo kd G (kGoN kd G nH ei eo pa E (-4) (R, w, nI 0) (60 - tn (R 25))).1 h) z nH) v (2 ^ nH)).1 else (xsv (fun z => xsw (fun h => kW wo kd G (kGoN kd G nH ei eo pa E (-4) (R, w, nI 0) (60 - tn (R 25))).1 h) z nH) v (2 ^ nH)).2) := by
  rw [xsv_same (F := fun z => xsw (fun y9 => kW wo kd G (kGoN kd G nH ei eo pa E (-4) (N, -4, nI 0) (60 - tn (N 25))).1 y9) z nH) (F' := fun z => xsw (fun h => kW wo kd G (kGoN kd G nH ei eo pa E (-4) (R, w, nI 0) (60 - tn (R 25))).1 h) z nH) _ (fun s _ => xsw_same (fun i hi => kW_agr (go5 hE hE8 hR) (by omega) hG))]
theorem t_evening {what : Nat} (hE : okE ei eo pa E) (hE8 : E ≤ 8) (hR : kR N R) (hH : nH ≤ 5) (hG : G ≤ 5) : (if what = 0 then kWA wo kd G nH (kGoN kd G nH ei eo pa E z (N, -4, nI 0) (60 - tn (N 25))).1 else xsum (fun i => (kGoN kd G nH ei eo pa E z (N, -4, nI 0) (60 - tn (N 25))).1 (59 + i)) 8 - xsum (fun i => N (59 + i)) 8 : Int32) = (if what = 0 then kWA wo kd G nH (kGoN kd G nH ei eo pa E z (R, w, nI 0) (60 - tn (R 25))).1 else (kGoN kd G nH ei eo pa E z (R, w, nI 0) (60 - tn (R 25))).2.2) := by
  rw [kWA_agr (go5 (w := w) hE hE8 hR) hH hG, hR.1.k25, even_tie (w := w) hE hE8 hR.1 hR.2.1 _ (by have := hR.2.1.1.2; omega)]
theorem t_round {what x mm : Nat} {sp : Nat → Int32} (hE : okE ei eo pa E) (hE8 : E ≤ 8) (hR : kR N R) (hH : nH ≤ 5) (hG : G ≤ 5) (hx : x ≤ 60) (hm : mm ≤ 99) (hc : ∀ h, h < nH → cN (sp h) 60) (hw : ∀ g, g < G → cN (wo g) 9) : (if what = 0 then (xrI sp (fun y9 => kW wo kd G (kGoN kd G nH ei eo pa E (-4) (N, -4, nI 0) (60 - tn (N 25))).1 y9) x mm nH (nH + 1)).1 else (xrI sp (fun y9 => kW wo kd G (kGoN kd G nH ei eo pa E (-4) (N, -4, nI 0) (60 - tn (N 25))).1 y9) x mm nH (nH + 1)).2 : Int32) = (if what = 0 then (xrA (xrs sp (fun y9 => kW wo kd G (kGoN kd G nH ei eo pa E (-4) (R, w, nI 0) (60 - tn (R 25))).1 y9) x nH) mm 61).1 else nI (xrA (xrs sp (fun y9 => kW wo kd G (kGoN kd G nH ei eo pa E (-4) (R, w, nI 0) (60 - tn (R 25))).1 y9) x nH) mm 61).2) := by
  have hg := go5 (kd := kd) (G := G) (nH := nH) (z := -4) (w := w) hE hE8 hR
  have hP := (go5R (kd := kd) (G := G) (nH := nH) (z := -4) (w := w) hE hE8 hR).2.1
  have hk : ∀ h, h < nH → kW wo kd G (kGoN kd G nH ei eo pa E (-4) (N, -4, nI 0) (60 - tn (N 25))).1 h = kW wo kd G (kGoN kd G nH ei eo pa E (-4) (R, w, nI 0) (60 - tn (R 25))).1 h := fun h hh => kW_agr hg (by omega) hG
  obtain ⟨r1, r2⟩ := round_tie (S6 := sp) (wv := fun y9 => kW wo kd G (kGoN kd G nH ei eo pa E (-4) (N, -4, nI 0) (60 - tn (N 25))).1 y9) (wv' := fun y9 => kW wo kd G (kGoN kd G nH ei eo pa E (-4) (R, w, nI 0) (60 - tn (R 25))).1 y9) hx hm hc hk (xsum_bd (B := 45000) (by omega) (fun i hi => by
    dsimp only
    split
    · rw [hk i hi]
      exact kW_bd hP (by omega) hG hw
    · exact ⟨by decide, by decide⟩)).1
  rw [r1, r2]
theorem xsum_b2 {f : Nat → Int32} {B : Nat} : ∀ {n : Nat}, n * B < 2 ^ 30 → (∀ i, i < n → -(B : Int) ≤ (f i).toInt ∧ (f i).toInt ≤ B) → -((n * B : Nat) : Int) ≤ (xsum f n).toInt ∧ (xsum f n).toInt ≤ ((n * B : Nat) : Int)
  | 0, _, _ => by
    rw [xsum, Nat.zero_mul]
    decide
  | n + 1, hb, h => by
    rw [Nat.succ_mul] at hb ⊢
    have ih := xsum_b2 (f := f) (B := B) (n := n) (by omega) (fun i hi => h i (by omega))
    have := h n (by omega)
    rw [xsum, Jvm.Kit.i32_add (by omega) (by omega)]
    omega
theorem xnr_z {sp : Nat → Int32} {cc y : Nat} : ∀ k, xnr sp cc 0 y k = false
  | 0 => rfl
  | k + 1 => by
    rw [xnr, xnr_z k, decide_eq_false (show ¬ 0 / 2 ^ k % 2 = 1 by rw [Nat.zero_div]; decide)]
    rfl
theorem xcs_zz {sp sv wv : Nat → Int32} {cc : Nat} : ∀ n, n ≤ 5 → (∀ j, j < n → -480 ≤ (wv j).toInt ∧ (wv j).toInt ≤ 480) → -(480 * (n : Int)) ≤ (xcs sp sv wv cc nH 0 n).toInt ∧ (xcs sp sv wv cc nH 0 n).toInt ≤ 480 * (n : Int)
  | 0, _, _ => by
    rw [xcs]
    decide
  | n + 1, hn, h => by
    have ih := xcs_zz (sp := sp) (sv := sv) (cc := cc) n (by omega) (fun j hj => h j (by omega))
    have := h n (by omega)
    rw [xcs, if_pos (show ¬ 0 / 2 ^ n % 2 = 1 by rw [Nat.zero_div]; decide), if_neg (by rw [xnr_z]; decide), nI_0, Int32.add_zero, Jvm.Kit.i32_add (by omega) (by omega)]
    omega
theorem t_carried {g cc : Nat} {sp w26 w27 Rw : Nat → Int32} (hE : okE ei eo pa E) (hE8 : E ≤ 8) (hR : kR N R) (hH : nH ≤ 5) (hg5 : g < 5) (hRw : ∀ j, j < 67 → Rw j = R j) : xcm (fun z => xcs sp (fun y8 => (kGoN kd G nH ei eo pa E (-4) (N, -4, nI 0) (60 - tn (N 25))).1 (5 * y8 + g)) (fun y8 => xwn ei eo (fun y7 => (kGoN kd G nH ei eo pa E (-4) (N, -4, nI 0) (60 - tn (N 25))).1 (59 + y7) - N (59 + y7)) y8 g E) cc nH z nH) (2 ^ nH) = xcl (fun z => xcs sp (xfill w26 (fun y8 => (kGoN kd G nH ei eo pa E (-4) (R, w, nI 0) (60 - tn (R 25))).1 (5 * y8 + g)) nH) (xwt ei eo g (fun i => (kGoN kd G nH ei eo pa E (-4) (R, w, nI 0) (60 - tn (R 25))).1 (59 + i) - Rw (59 + i)) (xfill w27 (fun _ => nI 0) nH) E) cc nH z nH) (2 ^ nH) := by
  have hg := go5 (kd := kd) (G := G) (nH := nH) (z := -4) (w := w) hE hE8 hR
  have hQ := go5R (kd := kd) (G := G) (nH := nH) (z := -4) (w := w) hE hE8 hR
  obtain ⟨m, hm⟩ : ∃ m, 2 ^ nH = m + 1 := ⟨2 ^ nH - 1, by have := Nat.two_pow_pos nH; omega⟩
  have hs : ∀ set, xcs sp (fun y8 => (kGoN kd G nH ei eo pa E (-4) (N, -4, nI 0) (60 - tn (N 25))).1 (5 * y8 + g)) (fun y8 => xwn ei eo (fun y7 => (kGoN kd G nH ei eo pa E (-4) (N, -4, nI 0) (60 - tn (N 25))).1 (59 + y7) - N (59 + y7)) y8 g E) cc nH set nH = xcs sp (xfill w26 (fun y8 => (kGoN kd G nH ei eo pa E (-4) (R, w, nI 0) (60 - tn (R 25))).1 (5 * y8 + g)) nH) (xwt ei eo g (fun i => (kGoN kd G nH ei eo pa E (-4) (R, w, nI 0) (60 - tn (R 25))).1 (59 + i) - Rw (59 + i)) (xfill w27 (fun _ => nI 0) nH) E) cc nH set nH := by
    intro set
    refine xcs_congr (fun j hj => ⟨?_, ?_⟩)
    · simp only [xfill]
      rw [if_pos hj]
      exact hg.pc (by omega)
    · rw [xwt_xwn hg5 (by simp only [xfill]; rw [if_pos hj]) E (fun i hi => ⟨(hE i hi).1, (hE i hi).2.1⟩)]
      exact xsum_congr (fun i hi => by
        dsimp only
        rw [hg.hi (j := 59 + i) (by omega) (by omega), hR.1.hi (j := 59 + i) (by omega) (by omega), hRw _ (by omega)])
  rw [xcl_congr (F' := fun z => xcs sp (fun y8 => (kGoN kd G nH ei eo pa E (-4) (N, -4, nI 0) (60 - tn (N 25))).1 (5 * y8 + g)) (fun y8 => xwn ei eo (fun y7 => (kGoN kd G nH ei eo pa E (-4) (N, -4, nI 0) (60 - tn (N 25))).1 (59 + y7) - N (59 + y7)) y8 g E) cc nH z nH) (fun s _ => (hs s).symm), hm]
  refine xcm_xcl ?_ m
  -- what is wanted in all, nothing given: not much
  refine Int.lt_of_le_of_lt (xcs_zz nH hH (fun y _ => ?_)).2 (show 480 * (nH : Int) < 99999 by omega)
  have hb := xsum_b2 (f := fun i => if 5 * tn (ei i) + tn (eo i) = 5 * y + g then (kGoN kd G nH ei eo pa E (-4) (N, -4, nI 0) (60 - tn (N 25))).1 (59 + i) - N (59 + i) else nI 0) (B := 60) (n := E) (by omega) (fun i hi => by
    split
    · have a := hQ.2.2 i (by omega)
      have a2 := hQ.1.1.2
      have c := hR.2.2.2 i (by omega)
      have c2 := hR.2.1.1.2
      rw [hg.hi (j := 59 + i) (by omega) (by omega), hR.1.hi (j := 59 + i) (by omega) (by omega), Jvm.Kit.i32_sub (by omega) (by omega)]
      omega
    · exact ⟨by decide, by decide⟩)
  unfold xwn
  dsimp only
  omega
theorem t_soup {mn : Nat} {v v' w3 w28 m0 m0' : Nat → Int32} {f g : Nat → Nat} (hE : okE ei eo pa E) (hE8 : E ≤ 8) (hR : kR N R) (hH : nH ≤ 5) (hG : G ≤ 5) (hv : ∀ k, k < mn → v k = v' k ∧ cN (v' k) 9) (hf : ∀ k, k < mn → f k < 5 ∧ g k < 5) : sR2 (xcO mn v (xfill w3 (xst kd (kGoN kd G nH ei eo pa E (-4) (N, -4, nI 0) (60 - tn (N 25))).1 nH G) 5) f g (if mn ≤ 0 then nI 0 else xmo (xfill w3 (xst kd (kGoN kd G nH ei eo pa E (-4) (N, -4, nI 0) (60 - tn (N 25))).1 nH G) 5) (f 0) (g 0)) m0 ((if mn ≤ 0 then nI 0 else xmo (xfill w3 (xst kd (kGoN kd G nH ei eo pa E (-4) (N, -4, nI 0) (60 - tn (N 25))).1 nH G) 5) (f 0) (g 0)).toInt + 1).toNat) (xsO mn v' (xfill w28 (xst kd (kGoN kd G nH ei eo pa E (-4) (R, w, nI 0) (60 - tn (R 25))).1 nH G) 5) f g (if mn = 0 then nI 0 else xmo (xfill w28 (xst kd (kGoN kd G nH ei eo pa E (-4) (R, w, nI 0) (60 - tn (R 25))).1 nH G) 5) (f 0) (g 0)) m0' ((if mn = 0 then nI 0 else xmo (xfill w28 (xst kd (kGoN kd G nH ei eo pa E (-4) (R, w, nI 0) (60 - tn (R 25))).1 nH G) 5) (f 0) (g 0)).toInt + 1).toNat) := by
  have hg := go5 (kd := kd) (G := G) (nH := nH) (z := -4) (w := w) hE hE8 hR
  have hP := (go5R (kd := kd) (G := G) (nH := nH) (z := -4) (w := w) hE hE8 hR).2.1
  refine soup_tie (fun k hk => ⟨(hv k hk).1, ?_⟩) (fun k hk => ?_) hf
  · have a := cN_int (hv k hk).2 (by decide)
    have b := (hv k hk).2.2
    unfold bd
    omega
  · have b := xst_bd (kd := kd) (g := k) hP hH hG
    simp only [xfill]
    rw [if_pos hk, if_pos hk]
    exact ⟨xst_same hg hH hG, b⟩
end ANS
