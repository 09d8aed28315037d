/-! own words: a text read, a street laid: what holds -/
theorem read_al {s : Nat → Int32} {len f sp : Nat} {tt f2 f3 f4 f5 f6 f7 f8 f9 f10 f11 f12 f13 f14 f15 f16 f17 f18 : Nat → Int32} : sAl (xS0 f2 f3 f4 f5 f6 f7 f8 f9 f10 f11 f12 f13 f14 f15 f16 f17 f18) (xS0 ((xAll s len f (xS0 (upd f2 1 (nI 0)) f3 f4 (upd f5 1 (nI 0)) f6 (xzero f7 (25 * 1) 25) (upd f8 1 (nI 0)) f9 f10 f11 (upd f12 1 (nI 0)) f13 f14 (upd f15 1 (nI 0)) f16 f17 f18) sp tt).2.1 2) ((xAll s len f (xS0 (upd f2 1 (nI 0)) f3 f4 (upd f5 1 (nI 0)) f6 (xzero f7 (25 * 1) 25) (upd f8 1 (nI 0)) f9 f10 f11 (upd f12 1 (nI 0)) f13 f14 (upd f15 1 (nI 0)) f16 f17 f18) sp tt).2.1 3) ((xAll s len f (xS0 (upd f2 1 (nI 0)) f3 f4 (upd f5 1 (nI 0)) f6 (xzero f7 (25 * 1) 25) (upd f8 1 (nI 0)) f9 f10 f11 (upd f12 1 (nI 0)) f13 f14 (upd f15 1 (nI 0)) f16 f17 f18) sp tt).2.1 4) ((xAll s len f (xS0 (upd f2 1 (nI 0)) f3 f4 (upd f5 1 (nI 0)) f6 (xzero f7 (25 * 1) 25) (upd f8 1 (nI 0)) f9 f10 f11 (upd f12 1 (nI 0)) f13 f14 (upd f15 1 (nI 0)) f16 f17 f18) sp tt).2.1 5) ((xAll s len f (xS0 (upd f2 1 (nI 0)) f3 f4 (upd f5 1 (nI 0)) f6 (xzero f7 (25 * 1) 25) (upd f8 1 (nI 0)) f9 f10 f11 (upd f12 1 (nI 0)) f13 f14 (upd f15 1 (nI 0)) f16 f17 f18) sp tt).2.1 6) ((xAll s len f (xS0 (upd f2 1 (nI 0)) f3 f4 (upd f5 1 (nI 0)) f6 (xzero f7 (25 * 1) 25) (upd f8 1 (nI 0)) f9 f10 f11 (upd f12 1 (nI 0)) f13 f14 (upd f15 1 (nI 0)) f16 f17 f18) sp tt).2.1 7) ((xAll s len f (xS0 (upd f2 1 (nI 0)) f3 f4 (upd f5 1 (nI 0)) f6 (xzero f7 (25 * 1) 25) (upd f8 1 (nI 0)) f9 f10 f11 (upd f12 1 (nI 0)) f13 f14 (upd f15 1 (nI 0)) f16 f17 f18) sp tt).2.1 8) ((xAll s len f (xS0 (upd f2 1 (nI 0)) f3 f4 (upd f5 1 (nI 0)) f6 (xzero f7 (25 * 1) 25) (upd f8 1 (nI 0)) f9 f10 f11 (upd f12 1 (nI 0)) f13 f14 (upd f15 1 (nI 0)) f16 f17 f18) sp tt).2.1 9) ((xAll s len f (xS0 (upd f2 1 (nI 0)) f3 f4 (upd f5 1 (nI 0)) f6 (xzero f7 (25 * 1) 25) (upd f8 1 (nI 0)) f9 f10 f11 (upd f12 1 (nI 0)) f13 f14 (upd f15 1 (nI 0)) f16 f17 f18) sp tt).2.1 10) ((xAll s len f (xS0 (upd f2 1 (nI 0)) f3 f4 (upd f5 1 (nI 0)) f6 (xzero f7 (25 * 1) 25) (upd f8 1 (nI 0)) f9 f10 f11 (upd f12 1 (nI 0)) f13 f14 (upd f15 1 (nI 0)) f16 f17 f18) sp tt).2.1 11) ((xAll s len f (xS0 (upd f2 1 (nI 0)) f3 f4 (upd f5 1 (nI 0)) f6 (xzero f7 (25 * 1) 25) (upd f8 1 (nI 0)) f9 f10 f11 (upd f12 1 (nI 0)) f13 f14 (upd f15 1 (nI 0)) f16 f17 f18) sp tt).2.1 12) ((xAll s len f (xS0 (upd f2 1 (nI 0)) f3 f4 (upd f5 1 (nI 0)) f6 (xzero f7 (25 * 1) 25) (upd f8 1 (nI 0)) f9 f10 f11 (upd f12 1 (nI 0)) f13 f14 (upd f15 1 (nI 0)) f16 f17 f18) sp tt).2.1 13) ((xAll s len f (xS0 (upd f2 1 (nI 0)) f3 f4 (upd f5 1 (nI 0)) f6 (xzero f7 (25 * 1) 25) (upd f8 1 (nI 0)) f9 f10 f11 (upd f12 1 (nI 0)) f13 f14 (upd f15 1 (nI 0)) f16 f17 f18) sp tt).2.1 14) ((xAll s len f (xS0 (upd f2 1 (nI 0)) f3 f4 (upd f5 1 (nI 0)) f6 (xzero f7 (25 * 1) 25) (upd f8 1 (nI 0)) f9 f10 f11 (upd f12 1 (nI 0)) f13 f14 (upd f15 1 (nI 0)) f16 f17 f18) sp tt).2.1 15) ((xAll s len f (xS0 (upd f2 1 (nI 0)) f3 f4 (upd f5 1 (nI 0)) f6 (xzero f7 (25 * 1) 25) (upd f8 1 (nI 0)) f9 f10 f11 (upd f12 1 (nI 0)) f13 f14 (upd f15 1 (nI 0)) f16 f17 f18) sp tt).2.1 16) ((xAll s len f (xS0 (upd f2 1 (nI 0)) f3 f4 (upd f5 1 (nI 0)) f6 (xzero f7 (25 * 1) 25) (upd f8 1 (nI 0)) f9 f10 f11 (upd f12 1 (nI 0)) f13 f14 (upd f15 1 (nI 0)) f16 f17 f18) sp tt).2.1 17) ((xAll s len f (xS0 (upd f2 1 (nI 0)) f3 f4 (upd f5 1 (nI 0)) f6 (xzero f7 (25 * 1) 25) (upd f8 1 (nI 0)) f9 f10 f11 (upd f12 1 (nI 0)) f13 f14 (upd f15 1 (nI 0)) f16 f17 f18) sp tt).2.1 18)) := by
  have kc : ∀ (g : Nat → Int32) (j : Nat), j < 1 → upd g 1 (nI 0) j = g j := fun g j hj => upd_ne _ _ (by omega)
  intro k j h2 h18 hj
  have hk : k = 2 ∨ k = 3 ∨ k = 4 ∨ k = 5 ∨ k = 6 ∨ k = 7 ∨ k = 8 ∨ k = 9 ∨ k = 10 ∨ k = 11 ∨ k = 12 ∨ k = 13 ∨ k = 14 ∨ k = 15 ∨ k = 16 ∨ k = 17 ∨ k = 18 := by omega
  rcases hk with rfl | rfl | rfl | rfl | rfl | rfl | rfl | rfl | rfl | rfl | rfl | rfl | rfl | rfl | rfl | rfl | rfl
  · exact (xAll_lo f 2 j hj).trans (kc f2 j hj)
  · exact xAll_lo f 3 j hj
  · exact xAll_lo f 4 j hj
  · exact (xAll_lo f 5 j hj).trans (kc f5 j hj)
  · exact xAll_lo f 6 j hj
  · refine (xAll_lo f 7 j hj).trans ?_
    show xzero f7 (25 * 1) 25 j = f7 j
    unfold xzero
    rw [if_neg (by have : j < 25 := hj; omega)]
  · exact (xAll_lo f 8 j hj).trans (kc f8 j hj)
  · exact xAll_lo f 9 j hj
  · exact xAll_lo f 10 j hj
  · exact xAll_lo f 11 j hj
  · exact (xAll_lo f 12 j hj).trans (kc f12 j hj)
  · exact xAll_lo f 13 j hj
  · exact xAll_lo f 14 j hj
  · exact (xAll_lo f 15 j hj).trans (kc f15 j hj)
  · exact xAll_lo f 16 j hj
  · exact xAll_lo f 17 j hj
  · exact xAll_lo f 18 j hj
theorem st_same {X S S' : Nat → Nat → Int32} {μ0 μ1 : Nat → Int32} (h : okT X S ∧ okM μ0 μ1 (S 11) (tn (S 8 0)) (-4) ∧ okV S) (e : sAl S S') : okT X S' ∧ okM μ0 μ1 (S' 11) (tn (S' 8 0)) (-4) ∧ okV S' := by
  obtain ⟨hT, hMl, hV⟩ := h
  have c8 := e 8 0 (by decide) (by decide) (by decide)
  have h8 := hT.1.2.2.2.1.2
  refine ⟨okT_same hT e, ?_, okV_same hT hV e⟩
  rw [c8]
  exact okM_same hMl (fun i hi => e 11 i (by decide) (by decide) (show i < 8 by omega))
theorem lk_iff {R : Int32 × (Nat → Nat → Int32) × Nat × (Nat → Int32)} (hS : okS R.2.1) (hV : okV (xshf R.2.1)) : xLok R ↔ (R.1 = (-4) ∧ ¬ tn (xshf R.2.1 2 0) = 0 ∧ ¬ tn (xshf R.2.1 5 0) = 0 ∧ (tn (xshf R.2.1 12 0) = 0 ∨ xsum (xshf R.2.1 14) (tn (xshf R.2.1 12 0)) = nI 10)) := by
  have e := xly_xsum (f := R.2.1 14) (tn (R.2.1 12 1)) hS.2.2.2.1.2 (fun d hd => (hV.2.2.1 d hd).2)
  unfold xLok
  rw [e]
  exact Iff.rfl
theorem lay_kR {X S : Nat → Nat → Int32} {N s : Nat → Int32} (hT : okT X (xshf S)) (hV : okV (xshf S)) : kR (xbegC N (X 8)) (xreg (xbeg s (xmv (S 7) 25 25) 67) 0) := by
  refine kR_beg (fun j hj => ?_)
  have e : xmv (S 7) 25 25 j = S 7 (25 + j) := by
    unfold xmv
    rw [if_pos hj]
  rw [e]
  exact ⟨hT.2.2.2.1 j hj, hV.2.1 j hj⟩
