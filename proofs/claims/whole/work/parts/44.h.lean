/-! own words: streets that are alike where they are told; what their numbers can be -/
theorem mc_same {pa pa' : Nat → Int32} {z : Int32} {t E : Nat} (h : ∀ i, i < E → pa' i = pa i) : ∀ n, n ≤ E → mc pa' z t n = mc pa z t n
  | 0, _ => rfl
  | n + 1, hn => by rw [mc, mc, mc_same h n (by omega), h n (by omega)]
theorem mb_same {pa pa' : Nat → Int32} {z : Int32} {E : Nat} (h : ∀ i, i < E → pa' i = pa i) : ∀ t, mb pa' z E t = mb pa z E t
  | 0 => rfl
  | t + 1 => by rw [mb, mb, mb_same h t, mc_same h E (Nat.le_refl _)]
theorem okM_same {b w pa pa' : Nat → Int32} {E : Nat} {z : Int32} (h : okM b w pa E z) (e : ∀ i, i < E → pa' i = pa i) : okM b w pa' E z := by
  obtain ⟨h1, h2⟩ := h
  refine ⟨fun t a c => by rw [mb_same e]; exact h1 t a c, fun t a c i hi hx => ?_⟩
  rw [e i hi] at hx
  rw [mb_same e, mc_same e i (by omega)]
  exact h2 t a c i hi hx
def sAl (S S' : Nat → Nat → Int32) : Prop := ∀ k j, 2 ≤ k → k ≤ 18 → j < xoff k → S' k j = S k j
theorem okT_same {X S S' : Nat → Nat → Int32} (h : okT X S) (e : sAl S S') : okT X S' := by
  obtain ⟨⟨⟨a0, a1, a2, a3, a4⟩, b0, b1, b2, b3, b4⟩, p1, p2, p3, p4, pE, p5, p6⟩ := h
  have c2 := e 2 0 (by decide) (by decide) (by decide)
  have c5 := e 5 0 (by decide) (by decide) (by decide)
  have c8 := e 8 0 (by decide) (by decide) (by decide)
  have c12 := e 12 0 (by decide) (by decide) (by decide)
  have c15 := e 15 0 (by decide) (by decide) (by decide)
  have d2 := b0.2
  have d5 := b1.2
  have d8 := b2.2
  have d12 := b3.2
  have d15 := b4.2
  refine ⟨⟨⟨a0.trans c2.symm, a1.trans c5.symm, a2.trans c8.symm, a3.trans c12.symm, a4.trans c15.symm⟩, by rw [c2]; exact b0, by rw [c5]; exact b1, by rw [c8]; exact b2, by rw [c12]; exact b3, by rw [c15]; exact b4⟩, fun g hg => ?_, fun g hg => ?_, fun g hg => ?_, fun g hg => ?_, fun g hg => ?_, fun g hg => ?_, fun g hg => ?_⟩
  · rw [c2] at hg
    rw [e 3 g (by decide) (by decide) (show g < 5 by omega), e 4 g (by decide) (by decide) (show g < 5 by omega)]
    exact p1 g hg
  · rw [c5] at hg
    rw [e 6 g (by decide) (by decide) (show g < 5 by omega)]
    exact p2 g hg
  · rw [e 7 g (by decide) (by decide) (show g < 25 by omega)]
    exact p3 g hg
  · rw [c8] at hg
    rw [e 9 g (by decide) (by decide) (show g < 8 by omega), e 10 g (by decide) (by decide) (show g < 8 by omega), e 11 g (by decide) (by decide) (show g < 8 by omega)]
    exact p4 g hg
  · rw [c8] at hg
    rw [e 9 g (by decide) (by decide) (show g < 8 by omega), e 10 g (by decide) (by decide) (show g < 8 by omega), e 11 g (by decide) (by decide) (show g < 8 by omega)]
    exact pE g hg
  · rw [c12] at hg
    rw [e 13 g (by decide) (by decide) (show g < 5 by omega), e 14 g (by decide) (by decide) (show g < 5 by omega)]
    exact p5 g hg
  · rw [c15] at hg
    rw [e 16 g (by decide) (by decide) (show g < 3 by omega), e 17 g (by decide) (by decide) (show g < 3 by omega), e 18 g (by decide) (by decide) (show g < 3 by omega)]
    exact p6 g hg
def okV (S : Nat → Nat → Int32) : Prop := (∀ g, g < tn (S 2 0) → cN (S 3 g) 9 ∧ cN (S 4 g) 3) ∧ (∀ j, j < 25 → cN (S 7 j) 40) ∧ (∀ d, d < tn (S 12 0) → cN (S 13 d) 20 ∧ cN (S 14 d) 10) ∧ ∀ k, k < tn (S 15 0) → cN (S 18 k) 9
theorem okV_same {X S S' : Nat → Nat → Int32} (hT : okT X S) (h : okV S) (e : sAl S S') : okV S' := by
  obtain ⟨p1, p2, p3, p4⟩ := h
  have c2 := e 2 0 (by decide) (by decide) (by decide)
  have c12 := e 12 0 (by decide) (by decide) (by decide)
  have c15 := e 15 0 (by decide) (by decide) (by decide)
  have d2 := hT.1.2.1.2
  have d12 := hT.1.2.2.2.2.1.2
  have d15 := hT.1.2.2.2.2.2.2
  refine ⟨fun g hg => ?_, fun g hg => ?_, fun g hg => ?_, fun g hg => ?_⟩
  · rw [c2] at hg
    rw [e 3 g (by decide) (by decide) (show g < 5 by omega), e 4 g (by decide) (by decide) (show g < 5 by omega)]
    exact p1 g hg
  · rw [e 7 g (by decide) (by decide) (show g < 25 by omega)]
    exact p2 g hg
  · rw [c12] at hg
    rw [e 13 g (by decide) (by decide) (show g < 5 by omega), e 14 g (by decide) (by decide) (show g < 5 by omega)]
    exact p3 g hg
  · rw [c15] at hg
    rw [e 18 g (by decide) (by decide) (show g < 3 by omega)]
    exact p4 g hg
/-- reading leaves what is laid -/
theorem upS_lo {S S' : Nat → Nat → Int32} {k0 : Nat} {f : Nat → Int32} (hf : ∀ j, j < xoff k0 → f j = S' k0 j) (h : ∀ k j, j < xoff k → S k j = S' k j) : ∀ k j, j < xoff k → upS S k0 f k j = S' k j := by
  intro k j hj
  unfold upS
  by_cases hk : k = k0
  · subst hk
    rw [if_pos rfl]
    exact hf j hj
  · rw [if_neg hk]
    exact h k j hj
section LOW
variable {S : Nat → Nat → Int32} {r : xF}
theorem xGoodR_lo : ∀ k j, j < xoff k → (xGoodR S r).2.1 k j = S k j := by
  unfold xGoodR
  split
  · exact upS_lo (fun j hj => upd_ne _ _ (by have : j < 1 := hj; omega)) (upS_lo (fun j hj => upd_ne _ _ (by have : j < 5 := hj; omega)) (upS_lo (fun j hj => upd_ne _ _ (by have : j < 5 := hj; omega)) (fun _ _ _ => rfl)))
  · exact fun _ _ _ => rfl
theorem xHouseR_lo : ∀ k j, j < xoff k → (xHouseR S r).2.1 k j = S k j := by
  unfold xHouseR
  split
  · exact upS_lo (fun j hj => upd_ne _ _ (by have : j < 1 := hj; omega)) (upS_lo (fun j hj => upd_ne _ _ (by have : j < 5 := hj; omega)) (fun _ _ _ => rfl))
  · exact fun _ _ _ => rfl
theorem xStockR_lo : ∀ k j, j < xoff k → (xStockR S r).2.1 k j = S k j := by
  unfold xStockR
  split
  · exact upS_lo (fun j hj => upd_ne _ _ (by have : j < 25 := hj; omega)) (fun _ _ _ => rfl)
  · exact fun _ _ _ => rfl
theorem xEaterR_lo : ∀ k j, j < xoff k → (xEaterR S r).2.1 k j = S k j := by
  unfold xEaterR
  split
  · exact upS_lo (fun j hj => upd_ne _ _ (by have : j < 1 := hj; omega)) (upS_lo (fun j hj => upd_ne _ _ (by have : j < 8 := hj; omega)) (upS_lo (fun j hj => upd_ne _ _ (by have : j < 8 := hj; omega)) (upS_lo (fun j hj => upd_ne _ _ (by have : j < 8 := hj; omega)) (fun _ _ _ => rfl))))
  · exact fun _ _ _ => rfl
theorem xDemR_lo : ∀ k j, j < xoff k → (xDemR S r).2.1 k j = S k j := by
  unfold xDemR
  split
  · exact upS_lo (fun j hj => upd_ne _ _ (by have : j < 1 := hj; omega)) (upS_lo (fun j hj => upd_ne _ _ (by have : j < 5 := hj; omega)) (upS_lo (fun j hj => upd_ne _ _ (by have : j < 5 := hj; omega)) (fun _ _ _ => rfl)))
  · exact fun _ _ _ => rfl
theorem xRecR_lo : ∀ k j, j < xoff k → (xRecR S r).2.1 k j = S k j := by
  unfold xRecR
  split
  · exact upS_lo (fun j hj => upd_ne _ _ (by have : j < 1 := hj; omega)) (upS_lo (fun j hj => upd_ne _ _ (by have : j < 3 := hj; omega)) (upS_lo (fun j hj => upd_ne _ _ (by have : j < 3 := hj; omega)) (upS_lo (fun j hj => upd_ne _ _ (by have : j < 3 := hj; omega)) (fun _ _ _ => rfl))))
  · exact fun _ _ _ => rfl
theorem okV_good (hS : okS S) (h : okV (xshf S)) : okV (xshf (xGoodR S r).2.1) := by
  unfold xGoodR
  split
  · rename_i hc
    obtain ⟨p1, p2, p3, p4⟩ := h
    have h5 : tn (S 2 1) < 5 := by have := hS.1.2; have := hc.2.1; omega
    have hn : tn (upd (S 2) 1 (nI (tn (S 2 1) + 1)) 1) = tn (S 2 1) + 1 := tn_up (by omega)
    refine ⟨fun g hg => ?_, p2, p3, p4⟩
    have hg2 : g < tn (S 2 1) + 1 := by rw [← hn]; exact hg
    show cN (upd (S 3) (5 * 1 + tn (S 2 1)) (nI (tn (r.2.2 0))) (5 + g)) 9 ∧ cN (upd (S 4) (5 * 1 + tn (S 2 1)) (nI (tn (r.2.2 1))) (5 + g)) 3
    by_cases hz : g = tn (S 2 1)
    · rw [hz, show 5 * 1 + tn (S 2 1) = 5 + tn (S 2 1) by omega, upd_at, upd_at]
      exact ⟨cN_nI hc.2.2.1.2 (by decide), cN_nI hc.2.2.2 (by decide)⟩
    · rw [upd_ne _ _ (by omega), upd_ne _ _ (by omega)]
      exact p1 g (show g < tn (S 2 1) by omega)
  · exact h
theorem okV_house (h : okV (xshf S)) : okV (xshf (xHouseR S r).2.1) := by
  unfold xHouseR
  split
  · exact ⟨h.1, h.2.1, h.2.2.1, h.2.2.2⟩
  · exact h
theorem okV_eater (h : okV (xshf S)) : okV (xshf (xEaterR S r).2.1) := by
  unfold xEaterR
  split
  · exact ⟨h.1, h.2.1, h.2.2.1, h.2.2.2⟩
  · exact h
theorem okV_stock (h : okV (xshf S)) : okV (xshf (xStockR S r).2.1) := by
  unfold xStockR
  split
  · rename_i hc
    refine ⟨h.1, fun j hj => ?_, h.2.2.1, h.2.2.2⟩
    show cN (upd (S 7) (25 + 5 * tn (r.2.2 0) + tn (r.2.2 1)) (nI (tn (r.2.2 2))) (25 + j)) 40
    by_cases hz : 25 + j = 25 + 5 * tn (r.2.2 0) + tn (r.2.2 1)
    · rw [hz, upd_at]
      exact cN_nI hc.2.2.2 (by decide)
    · rw [upd_ne _ _ hz]
      exact h.2.1 j hj
  · exact h
theorem okV_dem (hS : okS S) (h : okV (xshf S)) : okV (xshf (xDemR S r).2.1) := by
  unfold xDemR
  split
  · rename_i hc
    obtain ⟨p1, p2, p3, p4⟩ := h
    have h5 : tn (S 12 1) < 5 := by have := hS.2.2.2.1.2; have := hc.2.1; omega
    have hn : tn (upd (S 12) 1 (nI (tn (S 12 1) + 1)) 1) = tn (S 12 1) + 1 := tn_up (by omega)
    refine ⟨p1, p2, fun g hg => ?_, p4⟩
    have hg2 : g < tn (S 12 1) + 1 := by rw [← hn]; exact hg
    show cN (upd (S 13) (5 + tn (S 12 1)) (nI (tn (r.2.2 0))) (5 + g)) 20 ∧ cN (upd (S 14) (5 + tn (S 12 1)) (nI (tn (r.2.2 1))) (5 + g)) 10
    by_cases hz : g = tn (S 12 1)
    · rw [hz, upd_at, upd_at]
      exact ⟨cN_nI hc.2.2.1 (by decide), cN_nI hc.2.2.2 (by decide)⟩
    · rw [upd_ne _ _ (by omega), upd_ne _ _ (by omega)]
      exact p3 g (show g < tn (S 12 1) by omega)
  · exact h
theorem okV_rec (hS : okS S) (h : okV (xshf S)) : okV (xshf (xRecR S r).2.1) := by
  unfold xRecR
  split
  · rename_i hc
    obtain ⟨p1, p2, p3, p4⟩ := h
    have h5 : tn (S 15 1) < 3 := by have := hS.2.2.2.2.2; have := hc.2.1; omega
    have hn : tn (upd (S 15) 1 (nI (tn (S 15 1) + 1)) 1) = tn (S 15 1) + 1 := tn_up (by omega)
    refine ⟨p1, p2, p3, fun g hg => ?_⟩
    have hg2 : g < tn (S 15 1) + 1 := by rw [← hn]; exact hg
    show cN (upd (S 18) (3 + tn (S 15 1)) (nI (tn (r.2.2 2))) (3 + g)) 9
    by_cases hz : g = tn (S 15 1)
    · rw [hz, upd_at]
      exact cN_nI hc.2.2.2.2.2 (by decide)
    · rw [upd_ne _ _ (by omega)]
      exact p4 g (show g < tn (S 15 1) by omega)
  · exact h
end LOW
theorem xItem_lo {s : Nat → Int32} {len : Nat} {S : Nat → Nat → Int32} {sp : Nat} {tt : Nat → Int32} : ∀ k j, j < xoff k → (xItem s len S sp tt).2.1 k j = S k j := by
  unfold xItem
  repeat' split
  · exact xDemR_lo
  · exact xEaterR_lo
  · exact xGoodR_lo
  · exact xHouseR_lo
  · exact xRecR_lo
  · exact xStockR_lo
  · exact fun _ _ _ => rfl
theorem okV_item {s : Nat → Int32} {len : Nat} {S : Nat → Nat → Int32} {sp : Nat} {tt : Nat → Int32} (hS : okS S) (h : okV (xshf S)) : okV (xshf (xItem s len S sp tt).2.1) := by
  unfold xItem
  repeat' split
  · exact okV_dem hS h
  · exact okV_eater h
  · exact okV_good hS h
  · exact okV_house h
  · exact okV_rec hS h
  · exact okV_stock h
  · exact h
theorem xAll_lo {s : Nat → Int32} {len : Nat} : ∀ (f : Nat) {S : Nat → Nat → Int32} {sp : Nat} {tt : Nat → Int32}, ∀ k j, j < xoff k → (xAll s len f S sp tt).2.1 k j = S k j
  | 0, _, _, _ => fun _ _ _ => rfl
  | f + 1, S, sp, tt => by
    intro k j hj
    rw [xAll]
    split
    · rfl
    · split
      · rw [xAll_lo f k j hj]
        exact xItem_lo k j hj
      · exact xItem_lo k j hj
theorem okV_all {s : Nat → Int32} {len : Nat} : ∀ (f : Nat) {S : Nat → Nat → Int32} {sp : Nat} {tt : Nat → Int32}, okS S → okV (xshf S) → okV (xshf (xAll s len f S sp tt).2.1)
  | 0, _, _, _, _, h => h
  | f + 1, S, sp, tt, hS, h => by
    rw [xAll]
    split
    · exact h
    · split
      · exact okV_all f (okS_item hS) (okV_item hS h)
      · exact okV_item hS h
theorem okV_0 {f2 f3 f4 f5 f6 f7 f8 f9 f10 f11 f12 f13 f14 f15 f16 f17 f18 : Nat → Int32} : okV (xshf (xS0 (upd f2 1 (nI 0)) f3 f4 (upd f5 1 (nI 0)) f6 (xzero f7 (25 * 1) 25) (upd f8 1 (nI 0)) f9 f10 f11 (upd f12 1 (nI 0)) f13 f14 (upd f15 1 (nI 0)) f16 f17 f18)) := by
  have key : ∀ (f : Nat → Int32) (g : Nat), ¬ g < tn (upd f 1 (nI 0) 1) := by
    intro f g hg
    rw [upd_at, tn_nI (by decide)] at hg
    omega
  refine ⟨fun g hg => absurd hg (key f2 g), fun j hj => ?_, fun g hg => absurd hg (key f12 g), fun g hg => absurd hg (key f15 g)⟩
  show cN (xzero f7 (25 * 1) 25 (25 + j)) 40
  unfold xzero
  rw [if_pos (by omega)]
  exact cN_nI (by decide) (by decide)
/-- chances together -/
theorem xly_xsum {f : Nat → Int32} : ∀ D, D ≤ 5 → (∀ d, d < D → cN (f (5 + d)) 10) → xly f (nI 0) D = xsum (fun d => f (5 + d)) D
  | 0, _, _ => rfl
  | D + 1, hD, h => by
    have ih := xly_xsum D (by omega) (fun d hd => h d (by omega))
    have hb := (xsum_bd (f := fun d => f (5 + d)) (B := 10) (n := D) (by omega) (fun d hd => by
      have h1 := h d (by omega)
      have h2 := cN_int h1 (by decide)
      have h3 := h1.2
      omega)).1
    rw [xly, ih, if_neg, xsum]
    rw [Int32.lt_iff_toInt_lt]
    have e0 : (0 : Int32).toInt = 0 := by decide
    omega
/-- the rows of a street that is laid -/
theorem lay_al {R : Nat → Nat → Int32} (hS : okS R) : sAl (xshf R) (xS0 (upd (R 2) 0 (nI (tn (R 2 1)))) (xmv (R 3) 5 5) (xmv (R 4) 5 5) (upd (R 5) 0 (nI (tn (R 5 1)))) (xmv (R 6) 5 5) (xmv (R 7) 25 25) (upd (R 8) 0 (nI (tn (R 8 1)))) (xmv (R 9) 8 8) (xmv (R 10) 8 8) (xmv (R 11) 8 8) (upd (R 12) 0 (nI (tn (R 12 1)))) (xmv (R 13) 5 5) (xmv (R 14) 5 5) (upd (R 15) 0 (nI (tn (R 15 1)))) (xmv (R 16) 3 3) (xmv (R 17) 3 3) (xmv (R 18) 3 3)) := by
  have kc : ∀ (f : Nat → Int32) (j : Nat), f 1 = nI (tn (f 1)) → j < 1 → upd f 0 (nI (tn (f 1))) j = f (1 + j) := by
    intro f j h hj
    rw [show j = 0 by omega, upd_at]
    exact h.symm
  have km : ∀ (f : Nat → Int32) (n j : Nat), j < n → xmv f n n j = f (n + j) := by
    intro f n j hj
    unfold xmv
    rw [if_pos hj]
  obtain ⟨s2, s5, s8, s12, s15⟩ := hS
  intro k j h2 h18 hj
  have hk : k = 2 ∨ k = 3 ∨ k = 4 ∨ k = 5 ∨ k = 6 ∨ k = 7 ∨ k = 8 ∨ k = 9 ∨ k = 10 ∨ k = 11 ∨ k = 12 ∨ k = 13 ∨ k = 14 ∨ k = 15 ∨ k = 16 ∨ k = 17 ∨ k = 18 := by omega
  rcases hk with rfl | rfl | rfl | rfl | rfl | rfl | rfl | rfl | rfl | rfl | rfl | rfl | rfl | rfl | rfl | rfl | rfl
  · exact kc _ j s2.1 hj
  · exact km _ 5 j hj
  · exact km _ 5 j hj
  · exact kc _ j s5.1 hj
  · exact km _ 5 j hj
  · exact km _ 25 j hj
  · exact kc _ j s8.1 hj
  · exact km _ 8 j hj
  · exact km _ 8 j hj
  · exact km _ 8 j hj
  · exact kc _ j s12.1 hj
  · exact km _ 5 j hj
  · exact km _ 5 j hj
  · exact kc _ j s15.1 hj
  · exact km _ 3 j hj
  · exact km _ 3 j hj
  · exact km _ 3 j hj
