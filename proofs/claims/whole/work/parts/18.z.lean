/-! own words: a text read -/
theorem upd_upd (f : Nat → Int32) (k : Nat) (v w : Int32) : upd (upd f k v) k w = upd f k w := by
  funext j
  simp only [upd]
  split <;> rfl
def xzero (s : Nat → Int32) (a n : Nat) : Nat → Int32 := fun j => if a ≤ j ∧ j < a + n then nI 0 else s j
theorem xzero_0 (s : Nat → Int32) (a : Nat) : xzero s a 0 = s := by
  funext j
  simp only [xzero]
  rw [if_neg (by omega)]
theorem xzero_s (s : Nat → Int32) (a n : Nat) : upd (xzero s a n) (a + n) (nI 0) = xzero s a (n + 1) := by
  funext j
  simp only [upd, xzero]
  by_cases h : j = a + n
  · subst h
    rw [if_pos rfl, if_pos (by omega)]
  · rw [if_neg h]
    by_cases h2 : a ≤ j ∧ j < a + n
    · rw [if_pos h2, if_pos (by omega)]
    · rw [if_neg h2, if_neg (by omega)]
/-- a kitchen's row at four o'clock -/
def xbeg (s st : Nat → Int32) (n : Nat) : Nat → Int32 := fun j => if j < n then (if 25 ≤ j then nI 0 else st j) else s j
theorem xbeg_0 (s st : Nat → Int32) : xbeg s st 0 = s := rfl
theorem xbeg_s (s st : Nat → Int32) (n : Nat) {v : Int32} (hv : v = (if 25 ≤ n then nI 0 else st n)) : upd (xbeg s st n) n v = xbeg s st (n + 1) := by
  subst hv
  funext j
  simp only [upd, xbeg]
  by_cases h : j = n
  · subst h
    rw [if_pos rfl, if_pos (c := j < j + 1) (Nat.lt_succ_self j)]
  · rw [if_neg h]
    by_cases h2 : j < n
    · rw [if_pos h2, if_pos (c := j < n + 1) (by omega)]
    · rw [if_neg h2, if_neg (c := j < n + 1) (by omega)]
/-- figures from a place on: whether there is one, how many (three at the most), the number -/
abbrev xdg (s : Nat → Int32) (len k : Nat) : Prop := 48 ≤ (xlet s len k).toInt ∧ (xlet s len k).toInt ≤ 57
def xnd (s : Nat → Int32) (len p : Nat) : Nat := if ¬ xdg s len p then 0 else if ¬ xdg s len (p + 1) then 1 else if ¬ xdg s len (p + 2) then 2 else 3
def xval (s : Nat → Int32) (len p : Nat) : Nat → Nat
  | 0 => 0
  | f + 1 => 10 * xval s len p f + tn (xlet s len (p + f)) - 48
theorem xnd_le (s : Nat → Int32) (len p : Nat) : xnd s len p ≤ 3 := by
  unfold xnd
  repeat' split
  all_goals omega
theorem xnd_end {s : Nat → Int32} {len p f : Nat} (h : ∀ i, i < f → xdg s len (p + i)) (hf : f ≤ 3) (hn : ¬ xdg s len (p + f) ∨ 3 ≤ f) : f = xnd s len p := by
  unfold xnd
  have h0 := fun z => h 0 z
  have h1 := fun z => h 1 z
  have h2 := fun z => h 2 z
  rw [Nat.add_zero] at h0
  match f, hf with
  | 0, _ =>
    have hn0 := hn.resolve_right (by omega)
    rw [Nat.add_zero] at hn0
    rw [if_pos hn0]
  | 1, _ => rw [if_neg (not_not_intro (h0 (by omega))), if_pos (hn.resolve_right (by omega))]
  | 2, _ => rw [if_neg (not_not_intro (h0 (by omega))), if_neg (not_not_intro (h1 (by omega))), if_pos (hn.resolve_right (by omega))]
  | 3, _ => rw [if_neg (not_not_intro (h0 (by omega))), if_neg (not_not_intro (h1 (by omega))), if_neg (not_not_intro (h2 (by omega)))]
theorem xval_le {s : Nat → Int32} {len p : Nat} : ∀ {f : Nat}, (∀ i, i < f → xdg s len (p + i)) → f ≤ 3 → xval s len p f < 10 ^ f
  | 0, _, _ => Nat.one_pos
  | f + 1, h, hf => by
    have ih := xval_le (s := s) (len := len) (p := p) (fun i hi => h i (by omega)) (Nat.le_of_succ_le hf)
    have hd := h f (by omega)
    have e : tn (xlet s len (p + f)) ≤ 57 := by
      have : tn (xlet s len (p + f)) = (xlet s len (p + f)).toInt.toNat := rfl
      omega
    rw [xval, Nat.pow_succ]
    omega
theorem xlet_nat {s : Nat → Int32} {len k : Nat} (h : xdg s len k) : xlet s len k = nI (tn (xlet s len k)) ∧ 48 ≤ tn (xlet s len k) ∧ tn (xlet s len k) ≤ 57 := by
  have e : tn (xlet s len k) = (xlet s len k).toInt.toNat := rfl
  refine ⟨Int32.toInt_inj.mp ?_, by omega, by omega⟩
  rw [nI_toInt (by omega)]
  omega
/-- n numbers read from p on: whether they are there, the place behind, the numbers -/
def xfg (s : Nat → Int32) (len n p : Nat) (t : Nat → Int32) : Nat → Bool × Nat × (Nat → Int32)
  | 0 => (true, p, t)
  | k + 1 => if (xfg s len n p t k).1 = true then (if (1 ≤ xnd s len (xfg s len n p t k).2.1 ∧ xnd s len (xfg s len n p t k).2.1 ≤ 2) ∧ xlet s len ((xfg s len n p t k).2.1 + xnd s len (xfg s len n p t k).2.1) = (if n - 1 ≤ k then nI 59 else nI 44) then (true, (xfg s len n p t k).2.1 + xnd s len (xfg s len n p t k).2.1 + 1, upd (xfg s len n p t k).2.2 k (nI (xval s len (xfg s len n p t k).2.1 (xnd s len (xfg s len n p t k).2.1)))) else (false, (xfg s len n p t k).2.1 + xnd s len (xfg s len n p t k).2.1, (xfg s len n p t k).2.2)) else xfg s len n p t k
theorem xfg_1 {s : Nat → Int32} {len n p : Nat} {t : Nat → Int32} {k : Nat} (h : (xfg s len n p t k).1 = true) (h2 : (1 ≤ xnd s len (xfg s len n p t k).2.1 ∧ xnd s len (xfg s len n p t k).2.1 ≤ 2) ∧ xlet s len ((xfg s len n p t k).2.1 + xnd s len (xfg s len n p t k).2.1) = (if n - 1 ≤ k then nI 59 else nI 44)) : xfg s len n p t (k + 1) = (true, (xfg s len n p t k).2.1 + xnd s len (xfg s len n p t k).2.1 + 1, upd (xfg s len n p t k).2.2 k (nI (xval s len (xfg s len n p t k).2.1 (xnd s len (xfg s len n p t k).2.1)))) := by
  rw [xfg, if_pos h, if_pos h2]
theorem xfg_0 {s : Nat → Int32} {len n p : Nat} {t : Nat → Int32} {k : Nat} (h : (xfg s len n p t k).1 = true) (h2 : ¬ ((1 ≤ xnd s len (xfg s len n p t k).2.1 ∧ xnd s len (xfg s len n p t k).2.1 ≤ 2) ∧ xlet s len ((xfg s len n p t k).2.1 + xnd s len (xfg s len n p t k).2.1) = (if n - 1 ≤ k then nI 59 else nI 44))) : xfg s len n p t (k + 1) = (false, (xfg s len n p t k).2.1 + xnd s len (xfg s len n p t k).2.1, (xfg s len n p t k).2.2) := by
  rw [xfg, if_pos h, if_neg h2]
theorem xfg_far {s : Nat → Int32} {len n p : Nat} {t : Nat → Int32} {k : Nat} (h : (xfg s len n p t k).1 = false) : ∀ m, xfg s len n p t (k + m) = xfg s len n p t k
  | 0 => rfl
  | m + 1 => by
    have ih := xfg_far h m
    rw [← Nat.add_assoc, xfg, if_neg (by rw [ih, h]; decide), ih]
theorem xfg_end {s : Nat → Int32} {len n p : Nat} {t : Nat → Int32} {k : Nat} (hk : k < n) {q : Nat} {u : Nat → Int32} (h : xfg s len n p t (k + 1) = (false, q, u)) : xfg s len n p t n = (false, q, u) := by
  have := xfg_far (k := k + 1) (by rw [h]) (n - (k + 1))
  rw [show k + 1 + (n - (k + 1)) = n by omega] at this
  rw [this, h]
theorem xfg_le {s : Nat → Int32} {len n p : Nat} {t : Nat → Int32} : ∀ k, (xfg s len n p t k).2.1 ≤ p + 4 * k
  | 0 => Nat.le_refl _
  | k + 1 => by
    have ih := xfg_le (s := s) (len := len) (n := n) (p := p) (t := t) k
    have := xnd_le s len (xfg s len n p t k).2.1
    by_cases h : (xfg s len n p t k).1 = true
    · by_cases h2 : (1 ≤ xnd s len (xfg s len n p t k).2.1 ∧ xnd s len (xfg s len n p t k).2.1 ≤ 2) ∧ xlet s len ((xfg s len n p t k).2.1 + xnd s len (xfg s len n p t k).2.1) = (if n - 1 ≤ k then nI 59 else nI 44)
      · rw [xfg_1 h h2]; dsimp only; omega
      · rw [xfg_0 h h2]; dsimp only; omega
    · rw [xfg, if_neg h]; omega
