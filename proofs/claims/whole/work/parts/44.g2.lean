/-! own words: tied, further -/
theorem xarr_cases {K : Nat → Int32} {a b : Int32} {j : Nat} {n : Int32} (hK : okK K) (hx : cN (xap a b) 60) : (xarr K a b j n < 0 ∧ xarr K a b j n = xref K a b j n ∧ ¬ 0 ≤ xref K a b j n) ∨ (¬ xarr K a b j n < 0 ∧ xref K a b j n = nI 0 ∧ xarr K a b j n = K 25 + xap a b) := by
  have h0 := xarr_cN hK hx
  unfold xarr xref
  by_cases h1 : K j < n ∨ K 25 = nI 60
  · rw [if_pos h1, if_pos h1]
    exact Or.inl ⟨by decide, rfl, by decide⟩
  · rw [if_neg h1, if_neg h1]
    by_cases h2 : ¬ a = b ∧ K 26 = nI 6
    · rw [if_pos h2, if_pos h2]
      exact Or.inl ⟨by decide, rfl, by decide⟩
    · rw [if_neg h2, if_neg h2]
      exact Or.inr ⟨h0, rfl, rfl⟩
theorem xap_cN {a b : Int32} (ha : cN a 60) (hb : cN b 60) : cN (xap a b) 60 := by
  obtain ⟨i, hi, e1⟩ := cN_ex ha
  obtain ⟨j, hj, e2⟩ := cN_ex hb
  rw [e1, e2]
  unfold xap
  split
  · rename_i h
    rw [xI_lt (by omega) (by omega)] at h
    rw [pk_sub (by omega)]
    exact ⟨by rw [tn_nI (by omega)], by rw [tn_nI (by omega)]; omega⟩
  · rename_i h
    rw [xI_lt (by omega) (by omega)] at h
    rw [pk_sub (by omega)]
    exact ⟨by rw [tn_nI (by omega)], by rw [tn_nI (by omega)]; omega⟩
theorem cN_int {a : Int32} {n : Nat} (h : cN a n) (hn : n < 2 ^ 31) : a.toInt = tn a := by
  obtain ⟨w1, w2⟩ := h
  have := nI_toInt (n := tn a) (by omega)
  rw [← w1] at this
  exact this
