/-! own words: what will be; gifts tried house by house; what is wanted; rounds between houses -/
theorem xI_lt {x y : Nat} (hx : x < 2 ^ 31) (hy : y < 2 ^ 31) : (nI x < nI y) = (x < y) := by
  apply propext
  rw [Int32.lt_iff_toInt_lt, nI_toInt hx, nI_toInt hy]
  omega
theorem nI_min {x y : Nat} (hx : x < 2 ^ 31) (hy : y < 2 ^ 31) : (if nI y < nI x then nI y else nI x) = nI (if y < x then y else x) := by
  simp only [xI_lt hy hx]
  split <;> rfl
theorem nI_max {x y : Nat} (hx : x < 2 ^ 31) (hy : y < 2 ^ 31) : (if nI x < nI y then nI y else nI x) = nI (if x < y then y else x) := by
  simp only [xI_lt hx hy]
  split <;> rfl
theorem xhun_neg {K F : Nat → Int32} : ∀ {n : Nat}, n ≤ 8 → xhun K F n < 0 → xhun K F n = (-1)
  | 0, _, _ => rfl
  | n + 1, hn, h => by
    by_cases h1 : xhun K F n = (-1)
    · rw [xhun, if_pos h1] at h ⊢
      split at h
      · exact absurd h (nI_pos (by omega))
      · rename_i h2
        rw [if_neg h2]
    · rw [xhun, if_neg h1] at h ⊢
      exact xhun_neg (by omega) h
theorem xlh_end {K : Nat → Int32} {f : Nat → Nat → Int32} {k : Nat} (h0 : f 0 = K) (hj : ∀ j, 1 ≤ j → j ≤ k → xhun (f j) K 8 < 0) : xhun (f k) K 8 = (-1) := by
  by_cases hk : k = 0
  · subst hk
    rw [h0]
    exact xhun_0 (fun j _ => Int32.lt_irrefl)
  · exact xhun_neg (by omega) (hj k (by omega) (Nat.le_refl k))
theorem xadd_z {s a : Int32} {P : Prop} [Decidable P] (h : ¬ P) : s = s + (if P then a else nI 0) := by rw [if_neg h, nI_0, Int32.add_zero]
/-- what is wanted in a house -/
def xwn (ei eo D : Nat → Int32) (h g : Nat) : Nat → Int32 := xsum (fun i => if 5 * tn (ei i) + tn (eo i) = 5 * h + g then D i else nI 0)
theorem xnr_far {sp : Nat → Int32} {cc set h k : Nat} (h1 : xnr sp cc set h k = true) : ∀ m, xnr sp cc set h (k + m) = true
  | 0 => h1
  | m + 1 => xnr_1 (xnr_far h1 m)
theorem xnr_end {sp : Nat → Int32} {cc set h k n : Nat} (hk : k < n) (h1 : set / 2 ^ k % 2 = 1) (h2 : ¬ nI cc < xap (sp h) (sp k)) : xnr sp cc set h n = true := by
  have := xnr_far (xnr_2 h1 h2) (n - (k + 1))
  rw [show k + 1 + (n - (k + 1)) = n by omega] at this
  exact this
/-- the narrowest cut, from a number that is more than all -/
def xcm (F : Nat → Int32) : Nat → Int32
  | 0 => nI 2147483647
  | s + 1 => if F s < xcm F s then F s else xcm F s
/-! gifts, house by house -/
section XGD
variable {wo kd : Nat → Int32} {G nH : Nat} {ei eo pa : Nat → Int32} {E : Nat} {sp K : Nat → Int32} {w0 : Int32} {f t g n : Nat}
theorem xgd (ht : t < 10) (hg : g < 10) (hn : n < 10) : (1000 * f + 100 * t + 10 * g + n) / 1000 = f ∧ (1000 * f + 100 * t + 10 * g + n) / 100 % 10 = t ∧ (1000 * f + 100 * t + 10 * g + n) / 10 % 10 = g ∧ (1000 * f + 100 * t + 10 * g + n) % 10 = n := by
  refine ⟨?_, ?_, ?_, ?_⟩ <;> omega
theorem xgB_skip {a : Nat} : ∀ {b : Nat}, a ≤ b → (∀ j, a ≤ j → j < b → ¬ xgOk sp G nH K j) → xgB wo kd G nH ei eo pa E sp K w0 b = xgB wo kd G nH ei eo pa E sp K w0 a
  | 0, h, _ => by rw [show a = 0 by omega]
  | b + 1, h, hn => by
    by_cases hz : a = b + 1
    · rw [hz]
    · rw [xgB_0 (hn b (by omega) (by omega))]
      exact xgB_skip (by omega) (fun j h1 h2 => hn j h1 (by omega))
theorem xgV_at (ht : t < 10) (hg : g < 10) (hn : n < 10) : xgV wo kd G nH ei eo pa E sp K (1000 * f + 100 * t + 10 * g + n) = kWA wo kd G nH (kGoN kd G nH ei eo pa E (-4) (kGive K (xap (sp f) (sp t)) f t g (nI n), -4, nI 0) (60 - tn (kGive K (xap (sp f) (sp t)) f t g (nI n) 25))).1 := by
  obtain ⟨h1, h2, h3, h4⟩ := xgd (f := f) ht hg hn
  unfold xgV xgK
  rw [h1, h2, h3, h4]
theorem xgOk_at (ht : t < 10) (hg : g < 10) (hn : n < 10) (hf9 : f < nH) (ht9 : t < nH) (hne : ¬ f = t) (hg9 : g < G) (hn1 : 1 ≤ n) (hr : xref K (sp f) (sp t) (5 * f + g) (nI n) = 0) : xgOk sp G nH K (1000 * f + 100 * t + 10 * g + n) := by
  obtain ⟨h1, h2, h3, h4⟩ := xgd (f := f) ht hg hn
  unfold xgOk
  rw [h1, h2, h3, h4]
  exact ⟨hf9, ht9, hne, hg9, by omega, hr⟩
theorem xgB_up {W : Int32} (ht : t < 10) (hg : g < 10) (hn : n < 10) (hok : xgOk sp G nH K (1000 * f + 100 * t + 10 * g + n)) (hW : W = kWA wo kd G nH (kGoN kd G nH ei eo pa E (-4) (kGive K (xap (sp f) (sp t)) f t g (nI n), -4, nI 0) (60 - tn (kGive K (xap (sp f) (sp t)) f t g (nI n) 25))).1) (hlt : ¬ (xgB wo kd G nH ei eo pa E sp K w0 (1000 * f + 100 * t + 10 * g + n)).2 ≤ W) : xgB wo kd G nH ei eo pa E sp K w0 (1000 * f + 100 * t + 10 * g + n + 1) = (nI (1000 * f + 100 * t + 10 * g + n), W) := by
  have e := (xgV_at (wo := wo) (kd := kd) (G := G) (nH := nH) (ei := ei) (eo := eo) (pa := pa) (E := E) (sp := sp) (K := K) (f := f) ht hg hn).trans hW.symm
  rw [xgB_1 hok (by rw [e]; exact Int32.not_le.mp hlt), e]
theorem xgB_no {W : Int32} (ht : t < 10) (hg : g < 10) (hn : n < 10) (hW : W = kWA wo kd G nH (kGoN kd G nH ei eo pa E (-4) (kGive K (xap (sp f) (sp t)) f t g (nI n), -4, nI 0) (60 - tn (kGive K (xap (sp f) (sp t)) f t g (nI n) 25))).1) (hlt : (xgB wo kd G nH ei eo pa E sp K w0 (1000 * f + 100 * t + 10 * g + n)).2 ≤ W) : xgB wo kd G nH ei eo pa E sp K w0 (1000 * f + 100 * t + 10 * g + n + 1) = xgB wo kd G nH ei eo pa E sp K w0 (1000 * f + 100 * t + 10 * g + n) := by
  have e := (xgV_at (wo := wo) (kd := kd) (G := G) (nH := nH) (ei := ei) (eo := eo) (pa := pa) (E := E) (sp := sp) (K := K) (f := f) ht hg hn).trans hW.symm
  exact xgB_2 (by rw [e]; exact Int32.not_lt.mpr hlt)
end XGD
section XARR2
variable {K : Nat → Int32} {a b : Int32} {j : Nat}
theorem xarr_cN (hK : okK K) (hx : cN (xap a b) 60) : ¬ K 25 + xap a b < 0 := by
  obtain ⟨i, hi, e1⟩ := cN_ex hx
  rw [e1, hK.1.1, nI_add]
  exact nI_pos (by have := hK.1.2; omega)
theorem xarr_ok {n : Int32} (h : ¬ xarr K a b j n < 0) : xref K a b j n = nI 0 := by
  unfold xarr at h
  unfold xref
  split at h
  · exact absurd (by decide) h
  · rename_i h1
    rw [if_neg h1]
    split at h
    · exact absurd (by decide) h
    · rename_i h2
      rw [if_neg h2]
theorem xarr_ref (hK : okK K) (hx : cN (xap a b) 60) {n n' : Nat} (h : xarr K a b j (nI n) < 0) (hn : n ≤ n') (hn' : n' < 10) : ¬ xref K a b j (nI n') = 0 := by
  unfold xarr at h
  unfold xref
  split at h
  · rename_i h1
    rw [if_pos]
    · decide
    · rcases h1 with h1 | h1
      · refine Or.inl (Int32.lt_of_lt_of_le h1 ?_)
        rw [Int32.le_iff_toInt_le, nI_toInt (by omega), nI_toInt (by omega)]
        omega
      · exact Or.inr h1
  · split at h
    · rename_i h1 h2
      split
      · decide
      · first | decide | (rw [if_pos h2]; decide)
    · exact absurd h (xarr_cN hK hx)
theorem xarr_gt {wo kd : Nat → Int32} {G nH : Nat} {ei eo pa : Nat → Int32} {E : Nat} {sp : Nat → Int32} {w0 : Int32} {f t g n : Nat} (hK : okK K) (hx : cN (xap (sp f) (sp t)) 60) (ht : t < 10) (hg : g < 10) (hn : n ≤ 9) (h : xarr K (sp f) (sp t) (5 * f + g) (nI n) < 0) : xgB wo kd G nH ei eo pa E sp K w0 (1000 * f + 100 * t + 10 * g + n) = xgB wo kd G nH ei eo pa E sp K w0 (1000 * f + 100 * t + 10 * g + 10) := by
  refine (xgB_skip (by omega) (fun i h1 h2 z => ?_)).symm
  have h3 := z.2.2.2.2.2
  have e1 : i / 1000 = f := by omega
  have e2 : i / 100 % 10 = t := by omega
  have e3 : i / 10 % 10 = g := by omega
  rw [e1, e2, e3] at h3
  exact absurd h3 (xarr_ref hK hx h (by omega) (by omega))
end XARR2
/-- a round tried: more worth, or as much by fewer cells -/
def xrT (st : Int32 × Int32) (mm : Nat) (w : Int32) (c : Nat) : Int32 × Int32 := if c ≤ mm ∧ (st.1 < w ∨ (w = st.1 ∧ nI c < st.2)) then (w, nI c) else st
section XRT
variable {st : Int32 × Int32} {mm : Nat} {w : Int32} {c : Nat}
theorem xrT_0 (h : mm < c) : xrT st mm w c = st := if_neg (fun z => absurd z.1 (by omega))
theorem xrT_1 (h : c ≤ mm) (h1 : st.1 < w) : xrT st mm w c = (w, nI c) := if_pos ⟨h, Or.inl h1⟩
theorem xrT_2 (h : c ≤ mm) (h1 : w = st.1) (h2 : ¬ st.2 ≤ nI c) : xrT st mm w c = (w, nI c) := if_pos ⟨h, Or.inr ⟨h1, Int32.not_le.mp h2⟩⟩
theorem xrT_3 (h1 : ¬ st.1 < w) (h2 : ¬ w = st.1) : xrT st mm w c = st := if_neg (fun z => z.2.elim h1 (fun q => h2 q.1))
theorem xrT_4 (h1 : ¬ st.1 < w) (h2 : st.2 ≤ nI c) : xrT st mm w c = st := if_neg (fun z => z.2.elim h1 (fun q => absurd q.2 (Int32.not_lt.mpr h2)))
end XRT
/-- where a round may turn: where it starts, or at a house -/
def xrE (S6 : Nat → Int32) (x k : Nat) : Nat := if k = 0 then x else tn (S6 (k - 1))
def xrJ (S6 wv : Nat → Int32) (x mm nH lo : Nat) (st : Int32 × Int32) : Nat → Int32 × Int32
  | 0 => st
  | j + 1 => if lo ≤ x ∧ x ≤ xrE S6 x j then xrT (xrJ S6 wv x mm nH lo st j) mm (xrs S6 wv x nH (x - lo) (xrE S6 x j - x)) (xgo (x - lo) (xrE S6 x j - x)) else xrJ S6 wv x mm nH lo st j
def xrI (S6 wv : Nat → Int32) (x mm nH : Nat) : Nat → Int32 × Int32
  | 0 => (nI 0, nI 0)
  | i + 1 => xrJ S6 wv x mm nH (xrE S6 x i) (xrI S6 wv x mm nH i) (nH + 1)
theorem xgo_eq {lo hi x : Nat} (h1 : lo ≤ x) (h2 : x ≤ hi) : hi - lo + (if hi - x < x - lo then hi - x else x - lo) = xgo (x - lo) (hi - x) := by
  unfold xgo
  repeat' split
  all_goals omega
def xm1 (k : Nat) : Int32 := nI k - nI 1
theorem xm1_toInt {k : Nat} (h : k < 2 ^ 30) : (xm1 k).toInt = (k : Int) - 1 := by
  have := pk_sub_toInt (a := k) (b := 1) (by omega) (by omega)
  unfold xm1
  omega
theorem xm1_ge {k n : Nat} (hk : k < 2 ^ 30) (hn : n < 2 ^ 30) : (nI n ≤ xm1 k) = (n + 1 ≤ k) := by
  apply propext
  rw [Int32.le_iff_toInt_le, xm1_toInt (by omega), nI_toInt (by omega)]
  omega
theorem xm1_nn {k : Nat} (hk : k < 2 ^ 30) : (0 ≤ xm1 k) = (1 ≤ k) := by
  apply propext
  have e0 : (0 : Int32).toInt = 0 := by decide
  rw [Int32.le_iff_toInt_le, xm1_toInt (by omega), e0]
  omega
theorem xm1_nat {k : Nat} (h : 1 ≤ k) : xm1 k = nI (k - 1) := pk_sub h
theorem xm1_s (k : Nat) : xm1 k + Int32.ofInt 1 = xm1 (k + 1) := by
  unfold xm1
  rw [← nI_add, Int32.sub_eq_add_neg, Int32.sub_eq_add_neg, Int32.add_assoc, Int32.add_assoc]
  congr 1

theorem xrE_j {S6 : Nat → Int32} {x k : Nat} (hk : k < 2 ^ 30) : (if 0 ≤ xm1 k then tn (S6 (k - 1)) else x) = xrE S6 x k := by
  unfold xrE
  simp only [xm1_nn hk]
  by_cases h : k = 0
  · rw [if_pos h, if_neg (by omega)]
  · rw [if_neg h, if_pos (by omega)]
theorem xrJ_1 {S6 wv : Nat → Int32} {x mm nH lo : Nat} {st : Int32 × Int32} {j : Nat} (h : lo ≤ x ∧ x ≤ xrE S6 x j) : xrJ S6 wv x mm nH lo st (j + 1) = xrT (xrJ S6 wv x mm nH lo st j) mm (xrs S6 wv x nH (x - lo) (xrE S6 x j - x)) (xgo (x - lo) (xrE S6 x j - x)) := if_pos h
theorem xrJ_0 {S6 wv : Nat → Int32} {x mm nH lo : Nat} {st : Int32 × Int32} {j : Nat} (h : ¬ (lo ≤ x ∧ x ≤ xrE S6 x j)) : xrJ S6 wv x mm nH lo st (j + 1) = xrJ S6 wv x mm nH lo st j := if_neg h
theorem xrs_z {sp wv : Nat → Int32} {x k a b : Nat} (h : ¬ (((x : Nat) : Int) - ((a : Nat) : Int) ≤ (sp k).toInt ∧ (sp k).toInt ≤ ((x + b : Nat) : Int))) : xrs sp wv x k a b = xrs sp wv x (k + 1) a b := by
  rw [← xrs_n h, nI_0, Int32.add_zero]
theorem xrE_le {X S : Nat → Nat → Int32} (hT : okT X S) {x k : Nat} (hx : x ≤ 60) (hk : k < tn (S 5 0) + 1) : xrE (S 6) x k ≤ 60 := by
  unfold xrE
  split
  · exact hx
  · exact (okT_cb hT (by omega)).2
theorem xcs_j {b : Nat} (hb : b < 2) {A w : Int32} : (if ¬ b = 0 then A else A + w) = A + (if ¬ (b = 1) then w else nI 0) := by
  by_cases h : b = 0
  · rw [if_neg (not_not_intro h), if_pos (by omega)]
  · rw [if_pos h, if_neg (by omega), nI_0, Int32.add_zero]
theorem xcs_z {sp sv wv : Nat → Int32} {cc nH set h : Nat} {j : Int32} (hj : j = (if ¬ (set / 2 ^ h % 2 = 1) then wv h else nI 0)) (hn : ¬ xnr sp cc set h nH = true) : xcs sp sv wv cc nH set h + j = xcs sp sv wv cc nH set (h + 1) := by
  rw [← xcs_0 hj hn, nI_0, Int32.add_zero]
theorem xg_same {t j : Nat} (h : t < 5) (h1 : 1000 * t + 100 * t ≤ j) (h2 : j < 1000 * t + 100 * (t + 1)) : j / 1000 = j / 100 % 10 := by
  have a : j / 100 = 11 * t := by omega
  have b : j / 1000 = t := by omega
  rw [a, b]
  omega
