/-! own words: a whole text read -/
theorem cnt_up {f : Nat → Int32} {n : Nat} (h : f 1 = nI (tn (f 1)) ∧ tn (f 1) ≤ n) (h2 : ¬ tn (f 1) = n) (hn : n ≤ 8) : upd f 1 (nI (tn (f 1) + 1)) 1 = nI (tn (upd f 1 (nI (tn (f 1) + 1)) 1)) ∧ tn (upd f 1 (nI (tn (f 1) + 1)) 1) ≤ n := by
  have := h.2
  rw [upd_at, tn_nI (by omega)]
  exact ⟨rfl, by omega⟩
theorem okS_good {S : Nat → Nat → Int32} {r : xF} (h : okS S) : okS (xGoodR S r).2.1 := by
  unfold xGoodR
  split
  · rename_i hc
    exact ⟨cnt_up h.1 hc.2.1 (by decide), h.2.1, h.2.2.1, h.2.2.2.1, h.2.2.2.2⟩
  · exact h
theorem okS_house {S : Nat → Nat → Int32} {r : xF} (h : okS S) : okS (xHouseR S r).2.1 := by
  unfold xHouseR
  split
  · rename_i hc
    exact ⟨h.1, cnt_up h.2.1 hc.2.1 (by decide), h.2.2.1, h.2.2.2.1, h.2.2.2.2⟩
  · exact h
theorem okS_stock {S : Nat → Nat → Int32} {r : xF} (h : okS S) : okS (xStockR S r).2.1 := by
  unfold xStockR
  split
  · exact ⟨h.1, h.2.1, h.2.2.1, h.2.2.2.1, h.2.2.2.2⟩
  · exact h
theorem okS_eater {S : Nat → Nat → Int32} {r : xF} (h : okS S) : okS (xEaterR S r).2.1 := by
  unfold xEaterR
  split
  · rename_i hc
    exact ⟨h.1, h.2.1, cnt_up h.2.2.1 hc.2.1 (by decide), h.2.2.2.1, h.2.2.2.2⟩
  · exact h
theorem okS_dem {S : Nat → Nat → Int32} {r : xF} (h : okS S) : okS (xDemR S r).2.1 := by
  unfold xDemR
  split
  · rename_i hc
    exact ⟨h.1, h.2.1, h.2.2.1, cnt_up h.2.2.2.1 hc.2.1 (by decide), h.2.2.2.2⟩
  · exact h
theorem okS_rec {S : Nat → Nat → Int32} {r : xF} (h : okS S) : okS (xRecR S r).2.1 := by
  unfold xRecR
  split
  · rename_i hc
    exact ⟨h.1, h.2.1, h.2.2.1, h.2.2.2.1, cnt_up h.2.2.2.2 hc.2.1 (by decide)⟩
  · exact h
theorem okS_item {s : Nat → Int32} {len : Nat} {S : Nat → Nat → Int32} {sp : Nat} {tt : Nat → Int32} (h : okS S) : okS (xItem s len S sp tt).2.1 := by
  unfold xItem
  repeat' split
  · exact okS_dem h
  · exact okS_eater h
  · exact okS_good h
  · exact okS_house h
  · exact okS_rec h
  · exact okS_stock h
  · exact h
theorem xfg_ge {s : Nat → Int32} {len n p : Nat} {t : Nat → Int32} : ∀ k, p ≤ (xfg s len n p t k).2.1
  | 0 => Nat.le_refl _
  | k + 1 => by
    have ih := xfg_ge (s := s) (len := len) (n := n) (p := p) (t := t) k
    by_cases h : (xfg s len n p t k).1 = true
    · by_cases h2 : (1 ≤ xnd s len (xfg s len n p t k).2.1 ∧ xnd s len (xfg s len n p t k).2.1 ≤ 2) ∧ xlet s len ((xfg s len n p t k).2.1 + xnd s len (xfg s len n p t k).2.1) = (if n - 1 ≤ k then nI 59 else nI 44)
      · rw [xfg_1 h h2]; dsimp only; omega
      · rw [xfg_0 h h2]; dsimp only; omega
    · rw [xfg, if_neg h]; exact ih
theorem xR_sp {S : Nat → Nat → Int32} {r : xF} : (xGoodR S r).2.2.1 = r.2.1 ∧ (xHouseR S r).2.2.1 = r.2.1 ∧ (xStockR S r).2.2.1 = r.2.1 ∧ (xEaterR S r).2.2.1 = r.2.1 ∧ (xDemR S r).2.2.1 = r.2.1 ∧ (xRecR S r).2.2.1 = r.2.1 := by
  refine ⟨?_, ?_, ?_, ?_, ?_, ?_⟩
  · unfold xGoodR; split <;> rfl
  · unfold xHouseR; split <;> rfl
  · unfold xStockR; split <;> rfl
  · unfold xEaterR; split <;> rfl
  · unfold xDemR; split <;> rfl
  · unfold xRecR; split <;> rfl
theorem xItem_sp {s : Nat → Int32} {len : Nat} {S : Nat → Nat → Int32} {sp : Nat} {tt : Nat → Int32} : sp + 1 ≤ (xItem s len S sp tt).2.2.1 ∧ (xItem s len S sp tt).2.2.1 ≤ sp + 13 := by
  have a := fun n => xfg_ge (s := s) (len := len) (n := n) (p := sp + 1) (t := tt) n
  have b := fun n => xfg_le (s := s) (len := len) (n := n) (p := sp + 1) (t := tt) n
  have a1 := a 1
  have a2 := a 2
  have a3 := a 3
  have b1 := b 1
  have b2 := b 2
  have b3 := b 3
  unfold xItem
  repeat' split
  · rw [xR_sp.2.2.2.2.1]; omega
  · rw [xR_sp.2.2.2.1]; omega
  · rw [xR_sp.1]; omega
  · rw [xR_sp.2.1]; omega
  · rw [xR_sp.2.2.2.2.2]; omega
  · rw [xR_sp.2.2.1]; omega
  · dsimp only; omega
def xAll (s : Nat → Int32) (len : Nat) : Nat → (Nat → Nat → Int32) → Nat → (Nat → Int32) → Int32 × (Nat → Nat → Int32) × Nat × (Nat → Int32)
  | 0, S, sp, tt => (-4, S, sp, tt)
  | f + 1, S, sp, tt => if len ≤ sp then (-4, S, sp, tt) else if (xItem s len S sp tt).1 = true then xAll s len f (xItem s len S sp tt).2.1 (xItem s len S sp tt).2.2.1 (xItem s len S sp tt).2.2.2 else (nI sp, (xItem s len S sp tt).2)
theorem xAll_e {s : Nat → Int32} {len f : Nat} {S : Nat → Nat → Int32} {sp : Nat} {tt : Nat → Int32} (h : len ≤ sp) : xAll s len f S sp tt = (-4, S, sp, tt) := by
  cases f with
  | zero => rfl
  | succ f => rw [xAll, if_pos h]
theorem xAll_f {s : Nat → Int32} {len f : Nat} {S : Nat → Nat → Int32} {sp : Nat} {tt : Nat → Int32} (hf : 0 < f) (h : ¬ len ≤ sp) (h2 : ¬ (xItem s len S sp tt).1 = true) : xAll s len f S sp tt = (nI sp, (xItem s len S sp tt).2) := by
  obtain ⟨g, rfl⟩ : ∃ g, f = g + 1 := ⟨f - 1, by omega⟩
  rw [xAll, if_neg h, if_neg h2]
theorem xAll_s {s : Nat → Int32} {len f g : Nat} {S : Nat → Nat → Int32} {sp : Nat} {tt : Nat → Int32} (hf : f = g + 1) (h : ¬ len ≤ sp) (h2 : (xItem s len S sp tt).1 = true) : xAll s len f S sp tt = xAll s len g (xItem s len S sp tt).2.1 (xItem s len S sp tt).2.2.1 (xItem s len S sp tt).2.2.2 := by
  subst hf
  rw [xAll, if_neg h, if_pos h2]
def xS0 (f2 f3 f4 f5 f6 f7 f8 f9 f10 f11 f12 f13 f14 f15 f16 f17 f18 : Nat → Int32) : Nat → Nat → Int32 := fun k => match k with
  | 2 => f2 | 3 => f3 | 4 => f4 | 5 => f5 | 6 => f6 | 7 => f7 | 8 => f8 | 9 => f9 | 10 => f10 | 11 => f11 | 12 => f12 | 13 => f13 | 14 => f14 | 15 => f15 | 16 => f16 | 17 => f17 | _ => f18
theorem okS_0 {f2 f3 f4 f5 f6 f7 f8 f9 f10 f11 f12 f13 f14 f15 f16 f17 f18 : Nat → Int32} : okS (xS0 (upd f2 1 (nI 0)) f3 f4 (upd f5 1 (nI 0)) f6 f7 (upd f8 1 (nI 0)) f9 f10 f11 (upd f12 1 (nI 0)) f13 f14 (upd f15 1 (nI 0)) f16 f17 f18) := by
  have key : ∀ (f : Nat → Int32) (n : Nat), upd f 1 (nI 0) 1 = nI (tn (upd f 1 (nI 0) 1)) ∧ tn (upd f 1 (nI 0) 1) ≤ n := by
    intro f n
    rw [upd_at, tn_nI (by decide)]
    exact ⟨rfl, Nat.zero_le n⟩
  exact ⟨key f2 5, key f5 5, key f8 8, key f12 5, key f15 3⟩
