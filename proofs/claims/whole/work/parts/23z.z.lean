/-! own words: a street that is told (X: the class's rows by its fields; S: the reference's rows by its fields, from the place 0 on) -/
def xT (a0 a1 a2 a3 a4 : Int32) (a5 a6 a7 a8 a9 a10 a11 a12 a13 a14 a15 : Nat → Int32) : Nat → Nat → Int32 := fun k => match k with
  | 0 => fun _ => a0 | 1 => fun _ => a1 | 2 => fun _ => a2 | 3 => fun _ => a3 | 4 => fun _ => a4 | 5 => a5 | 6 => a6 | 7 => a7 | 8 => a8 | 9 => a9 | 10 => a10 | 11 => a11 | 12 => a12 | 13 => a13 | 14 => a14 | _ => a15
def cN (x : Int32) (n : Nat) : Prop := x = nI (tn x) ∧ tn x ≤ n
def okT (X S : Nat → Nat → Int32) : Prop :=
  ((X 0 0 = S 2 0 ∧ X 1 0 = S 5 0 ∧ X 2 0 = S 8 0 ∧ X 3 0 = S 12 0 ∧ X 4 0 = S 15 0) ∧ (cN (S 2 0) 5 ∧ cN (S 5 0) 5 ∧ cN (S 8 0) 8 ∧ cN (S 12 0) 5 ∧ cN (S 15 0) 3)) ∧
  (∀ g, g < tn (S 2 0) → X 5 g = S 3 g ∧ X 6 g = S 4 g) ∧ (∀ h, h < tn (S 5 0) → X 7 h = S 6 h ∧ cN (S 6 h) 60) ∧ (∀ j, j < 25 → X 8 j = S 7 j) ∧
  (∀ i, i < tn (S 8 0) → X 9 i = nI (5 * tn (S 9 i) + tn (S 10 i)) ∧ X 10 i = S 11 i) ∧ okE (S 9) (S 10) (S 11) (tn (S 8 0)) ∧
  (∀ d, d < tn (S 12 0) → X 11 d = S 13 d ∧ X 12 d = S 14 d) ∧ (∀ k, k < tn (S 15 0) → (X 13 k = S 16 k ∧ X 14 k = S 17 k ∧ X 15 k = S 18 k) ∧ cN (S 16 k) 4 ∧ cN (S 17 k) 4)
section OKT
variable {X S : Nat → Nat → Int32}
theorem okT_0 (h : okT X S) : X 0 0 = nI (tn (S 2 0)) := h.1.1.1.trans h.1.2.1.1
theorem okT_1 (h : okT X S) : X 1 0 = nI (tn (S 5 0)) := h.1.1.2.1.trans h.1.2.2.1.1
theorem okT_2 (h : okT X S) : X 2 0 = nI (tn (S 8 0)) := h.1.1.2.2.1.trans h.1.2.2.2.1.1
theorem okT_3 (h : okT X S) : X 3 0 = nI (tn (S 12 0)) := h.1.1.2.2.2.1.trans h.1.2.2.2.2.1.1
theorem okT_4 (h : okT X S) : X 4 0 = nI (tn (S 15 0)) := h.1.1.2.2.2.2.trans h.1.2.2.2.2.2.1
theorem okT_0b (h : okT X S) : tn (S 2 0) ≤ 5 := h.1.2.1.2
theorem okT_1b (h : okT X S) : tn (S 5 0) ≤ 5 := h.1.2.2.1.2
theorem okT_2b (h : okT X S) : tn (S 8 0) ≤ 8 := h.1.2.2.2.1.2
theorem okT_3b (h : okT X S) : tn (S 12 0) ≤ 5 := h.1.2.2.2.2.1.2
theorem okT_4b (h : okT X S) : tn (S 15 0) ≤ 3 := h.1.2.2.2.2.2.2
theorem okT_wo (h : okT X S) {g : Nat} (hg : g < tn (S 2 0)) : X 5 g = S 3 g := (h.2.1 g hg).1
theorem okT_kd (h : okT X S) {g : Nat} (hg : g < tn (S 2 0)) : X 6 g = S 4 g := (h.2.1 g hg).2
theorem okT_ce (h : okT X S) {g : Nat} (hg : g < tn (S 5 0)) : X 7 g = S 6 g := (h.2.2.1 g hg).1
theorem okT_cb (h : okT X S) {g : Nat} (hg : g < tn (S 5 0)) : cN (S 6 g) 60 := (h.2.2.1 g hg).2
theorem okT_st (h : okT X S) {g : Nat} (hg : g < 25) : X 8 g = S 7 g := h.2.2.2.1 g hg
theorem okT_ea (h : okT X S) {g : Nat} (hg : g < tn (S 8 0)) : X 9 g = nI (5 * tn (S 9 g) + tn (S 10 g)) := (h.2.2.2.2.1 g hg).1
theorem okT_pa (h : okT X S) {g : Nat} (hg : g < tn (S 8 0)) : X 10 g = S 11 g := (h.2.2.2.2.1 g hg).2
theorem okT_E (h : okT X S) : okE (S 9) (S 10) (S 11) (tn (S 8 0)) := h.2.2.2.2.2.1
theorem okT_lo (h : okT X S) {g : Nat} (hg : g < tn (S 12 0)) : X 11 g = S 13 g := (h.2.2.2.2.2.2.1 g hg).1
theorem okT_ch (h : okT X S) {g : Nat} (hg : g < tn (S 12 0)) : X 12 g = S 14 g := (h.2.2.2.2.2.2.1 g hg).2
theorem okT_on (h : okT X S) {g : Nat} (hg : g < tn (S 15 0)) : X 13 g = S 16 g := (h.2.2.2.2.2.2.2 g hg).1.1
theorem okT_ot (h : okT X S) {g : Nat} (hg : g < tn (S 15 0)) : X 14 g = S 17 g := (h.2.2.2.2.2.2.2 g hg).1.2.1
theorem okT_pr (h : okT X S) {g : Nat} (hg : g < tn (S 15 0)) : X 15 g = S 18 g := (h.2.2.2.2.2.2.2 g hg).1.2.2
theorem okT_on5 (h : okT X S) {g : Nat} (hg : g < tn (S 15 0)) : cN (S 16 g) 4 := (h.2.2.2.2.2.2.2 g hg).2.1
theorem okT_ot5 (h : okT X S) {g : Nat} (hg : g < tn (S 15 0)) : cN (S 17 g) 4 := (h.2.2.2.2.2.2.2 g hg).2.2
theorem okT_on' (h : okT X S) {g : Nat} (hg : g < tn (S 15 0)) : X 13 g = nI (tn (S 16 g)) := (okT_on h hg).trans (okT_on5 h hg).1
theorem okT_ot' (h : okT X S) {g : Nat} (hg : g < tn (S 15 0)) : X 14 g = nI (tn (S 17 g)) := (okT_ot h hg).trans (okT_ot5 h hg).1
end OKT
theorem cN_ex {a : Int32} {n : Nat} (h : cN a n) : ∃ i, i ≤ n ∧ a = nI i := ⟨tn a, h.2, h.1⟩
theorem cN_nI {i n : Nat} (h : i ≤ n) (hn : n < 2 ^ 31) : cN (nI i) n := by
  unfold cN
  rw [tn_nI (by omega)]
  exact ⟨rfl, h⟩
/-- cells between two houses -/
theorem xap_eq {i j : Nat} (hi : i ≤ 60) (hj : j ≤ 60) : xap (nI i) (nI j) = nI (if i < j then j - i else i - j) := by
  unfold xap
  by_cases h : i < j
  · rw [if_pos (by rw [Int32.lt_iff_toInt_lt, nI_toInt (by omega), nI_toInt (by omega)]; omega), if_pos h]
    exact pk_sub (by omega)
  · rw [if_neg (by rw [Int32.lt_iff_toInt_lt, nI_toInt (by omega), nI_toInt (by omega)]; omega), if_neg h]
    exact pk_sub (by omega)
theorem xabs {a b : Int32} (ha : cN a 60) (hb : cN b 60) : (if 0 ≤ a - b then a - b else 0 - (a - b)) = xap a b := by
  obtain ⟨i, hi, rfl⟩ := cN_ex ha
  obtain ⟨j, hj, rfl⟩ := cN_ex hb
  have e : (nI i - nI j).toInt = (i : Int) - j := pk_sub_toInt (by omega) (by omega)
  have e0 : (0 : Int32).toInt = 0 := by decide
  unfold xap
  by_cases h : nI i < nI j
  · rw [if_pos h, if_neg (by rw [Int32.le_iff_toInt_le, e]; rw [Int32.lt_iff_toInt_lt, nI_toInt (by omega), nI_toInt (by omega)] at h; omega)]
    rw [Int32.sub_eq_add_neg 0, Int32.zero_add, Int32.neg_sub]
  · rw [if_neg h, if_pos (by rw [Int32.le_iff_toInt_le, e]; rw [Int32.lt_iff_toInt_lt, nI_toInt (by omega), nI_toInt (by omega)] at h; omega)]
theorem xap_nat {a b : Int32} (ha : cN a 60) (hb : cN b 60) : cN (xap a b) 60 := by
  obtain ⟨i, hi, rfl⟩ := cN_ex ha
  obtain ⟨j, hj, rfl⟩ := cN_ex hb
  rw [xap_eq hi hj]
  exact cN_nI (by split <;> omega) (by decide)
theorem xap_0 {a b : Int32} (ha : cN a 60) (hb : cN b 60) : (xap a b = 0) = (a = b) := by
  obtain ⟨i, hi, rfl⟩ := cN_ex ha
  obtain ⟨j, hj, rfl⟩ := cN_ex hb
  rw [xap_eq hi hj]
  apply propext
  constructor
  · intro h
    have h := congrArg Int32.toInt h
    rw [nI_toInt (by split <;> omega)] at h
    have e0 : (0 : Int32).toInt = 0 := by decide
    have : i = j := by split at h <;> omega
    rw [this]
  · intro h
    have h := congrArg Int32.toInt h
    rw [nI_toInt (by omega), nI_toInt (by omega)] at h
    have : i = j := by omega
    subst this
    rw [if_neg (by omega), Nat.sub_self]
    rfl
