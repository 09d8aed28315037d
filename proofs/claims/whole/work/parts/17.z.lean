/-! own words: the collector's round, peas, what can be carried -/
def xgo (a b : Nat) : Nat := if b ≤ a then a + 2 * b else 2 * a + b
def xrs (sp wv : Nat → Int32) (x nH a b : Nat) : Int32 := xsum (fun h => if ((x : Nat) : Int) - ((a : Nat) : Int) ≤ (sp h).toInt ∧ (sp h).toInt ≤ ((x + b : Nat) : Int) then wv h else nI 0) nH
theorem xrs_p {sp wv : Nat → Int32} {x k a b : Nat} (h : ((x : Nat) : Int) - ((a : Nat) : Int) ≤ (sp k).toInt ∧ (sp k).toInt ≤ ((x + b : Nat) : Int)) : xrs sp wv x k a b + wv k = xrs sp wv x (k + 1) a b := by
  unfold xrs
  rw [xsum, if_pos h]
theorem xrs_n {sp wv : Nat → Int32} {x k a b : Nat} (h : ¬ (((x : Nat) : Int) - ((a : Nat) : Int) ≤ (sp k).toInt ∧ (sp k).toInt ≤ ((x + b : Nat) : Int))) : xrs sp wv x k a b + nI 0 = xrs sp wv x (k + 1) a b := by
  unfold xrs
  rw [xsum, if_neg h]
def xrB (F : Nat → Nat → Int32) (mm a : Nat) (st : Int32 × Nat) : Nat → Int32 × Nat
  | 0 => st
  | b + 1 => if xgo a b ≤ mm ∧ ((xrB F mm a st b).1 < F a b ∨ (F a b = (xrB F mm a st b).1 ∧ xgo a b < (xrB F mm a st b).2)) then (F a b, xgo a b) else xrB F mm a st b
def xrA (F : Nat → Nat → Int32) (mm : Nat) : Nat → Int32 × Nat
  | 0 => (-4, 0)
  | a + 1 => xrB F mm a (xrA F mm a) 61
theorem xrB_le {F : Nat → Nat → Int32} {mm a : Nat} {st : Int32 × Nat} (hm : mm ≤ 99) (h : st.2 ≤ 99) : ∀ b, (xrB F mm a st b).2 ≤ 99
  | 0 => h
  | b + 1 => by
    have ih := xrB_le (F := F) (a := a) hm h b
    rw [xrB]
    split
    · rename_i hc
      exact Nat.le_trans hc.1 hm
    · exact ih
theorem xrA_le {F : Nat → Nat → Int32} {mm : Nat} (hm : mm ≤ 99) : ∀ a, (xrA F mm a).2 ≤ 99
  | 0 => Nat.zero_le _
  | a + 1 => xrB_le hm (xrA_le hm a) 61
theorem xrB_1 {F : Nat → Nat → Int32} {mm a b : Nat} {st : Int32 × Nat} (h1 : ¬ mm < xgo a b) (h2 : (xrB F mm a st b).1 < F a b) : xrB F mm a st (b + 1) = (F a b, xgo a b) := if_pos ⟨Nat.not_lt.mp h1, Or.inl h2⟩
theorem xrB_2 {F : Nat → Nat → Int32} {mm a b : Nat} {st : Int32 × Nat} (h1 : ¬ mm < xgo a b) (h2 : F a b = (xrB F mm a st b).1) (h3 : ¬ (xrB F mm a st b).2 ≤ xgo a b) : xrB F mm a st (b + 1) = (F a b, xgo a b) := if_pos ⟨Nat.not_lt.mp h1, Or.inr ⟨h2, Nat.not_le.mp h3⟩⟩
theorem xrB_3 {F : Nat → Nat → Int32} {mm a b : Nat} {st : Int32 × Nat} (h1 : mm < xgo a b) : xrB F mm a st (b + 1) = xrB F mm a st b := if_neg (fun z => absurd z.1 (Nat.not_le.mpr h1))
theorem xrB_4 {F : Nat → Nat → Int32} {mm a b : Nat} {st : Int32 × Nat} (h2 : ¬ (xrB F mm a st b).1 < F a b) (h3 : ¬ F a b = (xrB F mm a st b).1) : xrB F mm a st (b + 1) = xrB F mm a st b := if_neg (fun z => z.2.elim h2 (fun w => h3 w.1))
theorem xrB_5 {F : Nat → Nat → Int32} {mm a b : Nat} {st : Int32 × Nat} (h2 : ¬ (xrB F mm a st b).1 < F a b) (h3 : (xrB F mm a st b).2 ≤ xgo a b) : xrB F mm a st (b + 1) = xrB F mm a st b := if_neg (fun z => z.2.elim h2 (fun w => absurd w.2 (Nat.not_lt.mpr h3)))
/-- peas: whether one that comes behind t wins with v there, by the rows f of those with fewer -/
def xpe (f : Nat → Int32) (v t mm : Nat) : Nat → Nat
  | 0 => 0
  | j + 1 => if mm - j ≤ v ∧ ¬ mm - j = t ∧ f (10 * (v - (mm - j)) + (mm - j)) = 0 then mm - j else xpe f v t mm j
theorem xpe_le (f : Nat → Int32) (v t mm : Nat) : ∀ j, xpe f v t mm j ≤ mm
  | 0 => Nat.zero_le _
  | j + 1 => by
    have := xpe_le f v t mm j
    rw [xpe]
    split <;> omega
theorem xpe_1 {f : Nat → Int32} {v t mm j : Nat} (h1 : ¬ v < mm - j) (h2 : ¬ mm - j = t) (h3 : f (10 * (v - (mm - j)) + (mm - j)) = 0) : xpe f v t mm (j + 1) = mm - j := if_pos ⟨Nat.not_lt.mp h1, h2, h3⟩
theorem xpe_2 {f : Nat → Int32} {v t mm j : Nat} (h1 : v < mm - j) : xpe f v t mm (j + 1) = xpe f v t mm j := if_neg (fun z => absurd z.1 (Nat.not_le.mpr h1))
theorem xpe_3 {f : Nat → Int32} {v t mm j : Nat} (h2 : mm - j = t) : xpe f v t mm (j + 1) = xpe f v t mm j := if_neg (fun z => z.2.1 h2)
theorem xpe_4 {f : Nat → Int32} {v t mm j : Nat} (h3 : ¬ f (10 * (v - (mm - j)) + (mm - j)) = 0) : xpe f v t mm (j + 1) = xpe f v t mm j := if_neg (fun z => h3 z.2.2)
def xpr (mm v : Nat) (f : Nat → Int32) : Nat → Nat → Int32
  | 0 => f
  | t + 1 => upd (xpr mm v f t) (10 * v + t) (nI (xpe (xpr mm v f t) v t mm mm))
def xpt (mm : Nat) (f : Nat → Int32) : Nat → Nat → Int32
  | 0 => f
  | v + 1 => xpr mm v (xpt mm f v) 10
/-- what can be carried, by a set of houses that want -/
def xnr (sp : Nat → Int32) (cc set h : Nat) : Nat → Bool
  | 0 => false
  | k + 1 => xnr sp cc set h k || (decide (set / 2 ^ k % 2 = 1) && !decide (nI cc < xap (sp h) (sp k)))
theorem xnr_1 {sp : Nat → Int32} {cc set h k : Nat} (h1 : xnr sp cc set h k = true) : xnr sp cc set h (k + 1) = true := by rw [xnr, h1]; rfl
theorem xnr_2 {sp : Nat → Int32} {cc set h k : Nat} (h1 : set / 2 ^ k % 2 = 1) (h2 : ¬ nI cc < xap (sp h) (sp k)) : xnr sp cc set h (k + 1) = true := by
  rw [xnr, decide_eq_true h1, decide_eq_false h2]
  simp
theorem xnr_3 {sp : Nat → Int32} {cc set h k : Nat} (h0 : ¬ xnr sp cc set h k = true) (h1 : ¬ set / 2 ^ k % 2 = 1) : ¬ xnr sp cc set h (k + 1) = true := by
  rw [xnr, decide_eq_false h1]
  simpa using h0
theorem xnr_4 {sp : Nat → Int32} {cc set h k : Nat} (h0 : ¬ xnr sp cc set h k = true) (h2 : nI cc < xap (sp h) (sp k)) : ¬ xnr sp cc set h (k + 1) = true := by
  rw [xnr, decide_eq_true h2]
  simpa using h0
def xcs (sp sv wv : Nat → Int32) (cc nH set : Nat) : Nat → Int32
  | 0 => nI 0
  | h + 1 => (xcs sp sv wv cc nH set h + (if ¬ (set / 2 ^ h % 2 = 1) then wv h else nI 0)) + (if xnr sp cc set h nH = true then sv h else nI 0)
theorem xcs_1 {sp sv wv : Nat → Int32} {cc nH set h : Nat} {j : Int32} (hj : j = (if ¬ (set / 2 ^ h % 2 = 1) then wv h else nI 0)) (hn : xnr sp cc set h nH = true) : (xcs sp sv wv cc nH set h + j) + sv h = xcs sp sv wv cc nH set (h + 1) := by
  rw [xcs, if_pos hn, hj]
theorem xcs_0 {sp sv wv : Nat → Int32} {cc nH set h : Nat} {j : Int32} (hj : j = (if ¬ (set / 2 ^ h % 2 = 1) then wv h else nI 0)) (hn : ¬ xnr sp cc set h nH = true) : (xcs sp sv wv cc nH set h + j) + nI 0 = xcs sp sv wv cc nH set (h + 1) := by
  rw [xcs, if_neg hn, hj]
def xcl (F : Nat → Int32) : Nat → Int32
  | 0 => nI 99999
  | s + 1 => if F s < xcl F s then F s else xcl F s
theorem xcl_1 {F : Nat → Int32} {s : Nat} (h : ¬ xcl F s ≤ F s) : xcl F (s + 1) = F s := if_pos (Int32.not_le.mp h)
theorem xcl_0 {F : Nat → Int32} {s : Nat} (h : xcl F s ≤ F s) : xcl F (s + 1) = xcl F s := if_neg (Int32.not_lt.mpr h)
