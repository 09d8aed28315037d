/-! own words: rows looked into only where they have a place -/
def wa (q : Nat → ClassId) (a n : Nat) (f : Nat → Int32) : va_W := [(a, .inl (q 0, n, .inl f))]
def xat (f : Nat → Int32) (n : Nat) (i : Int32) : Int32 := if 0 ≤ i.toInt ∧ i.toInt < n then f i.toInt.toNat else nI 0
def xput (f : Nat → Int32) (n : Nat) (i v : Int32) : Nat → Int32 := if 0 ≤ i.toInt ∧ i.toInt < n then upd f i.toInt.toNat v else f
theorem xat_c {n : Nat} (hn : n < 2 ^ 31) {j : Nat} (hj : j < n) : 0 ≤ (nI j).toInt ∧ (nI j).toInt < n := by
  rw [nI_toInt (by omega)]
  omega
theorem xat_n {n : Nat} (hn : n < 2 ^ 31) {i : Int32} (h : i < 0 ∨ nI n ≤ i) : ¬ (0 ≤ i.toInt ∧ i.toInt < n) := by
  have e0 : (0 : Int32).toInt = 0 := by decide
  rcases h with h | h
  · rw [Int32.lt_iff_toInt_lt] at h
    omega
  · rw [Int32.le_iff_toInt_le, nI_toInt hn] at h
    omega
theorem xat_1 {f : Nat → Int32} {n j : Nat} (hn : n < 2 ^ 31) (hj : j < n) : xat f n (nI j) = f j := by
  unfold xat
  rw [if_pos (xat_c hn hj), nI_toInt (by omega)]
  rfl
theorem xat_0 {f : Nat → Int32} {n : Nat} {i : Int32} (hn : n < 2 ^ 31) (h : i < 0 ∨ nI n ≤ i) : xat f n i = nI 0 := if_neg (xat_n hn h)
theorem xput_1 {f : Nat → Int32} {n j : Nat} {v : Int32} (hn : n < 2 ^ 31) (hj : j < n) : xput f n (nI j) v = upd f j v := by
  unfold xput
  rw [if_pos (xat_c hn hj), nI_toInt (by omega)]
  rfl
theorem xput_0 {f : Nat → Int32} {n : Nat} {i v : Int32} (hn : n < 2 ^ 31) (h : i < 0 ∨ nI n ≤ i) : xput f n i v = f := if_neg (xat_n hn h)
theorem xat_ex {n : Nat} (hn : n < 2 ^ 31) {i : Int32} (h0 : ¬ i < 0) (h1 : ¬ nI n ≤ i) : ∃ j, j < n ∧ i = nI j := by
  rcases pk_ix i hn with h | h | h
  · exact absurd h h0
  · exact absurd h h1
  · exact h
