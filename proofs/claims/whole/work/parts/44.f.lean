/-! own words: rounds tied; sums that are small -/
theorem xsum_bd {f : Nat → Int32} {B : Nat} : ∀ {n : Nat}, n * B < 2 ^ 31 → (∀ i, i < n → 0 ≤ (f i).toInt ∧ (f i).toInt ≤ B) → 0 ≤ (xsum f n).toInt ∧ (xsum f n).toInt ≤ ((n * B : Nat) : Int)
  | 0, _, _ => by
    rw [xsum, Nat.zero_mul]
    decide
  | n + 1, hb, h => by
    rw [Nat.succ_mul] at hb ⊢
    have ih := xsum_bd (f := f) (B := B) (n := n) (by omega) (fun i hi => h i (by omega))
    have := h n (by omega)
    rw [xsum, Jvm.Kit.i32_add (by omega) (by omega)]
    omega
theorem xlf_bd {kd n : Int32} (h0 : 0 ≤ n.toInt) : 0 ≤ (xlf kd n).toInt ∧ (xlf kd n).toInt ≤ n.toInt := by
  unfold xlf
  have e2 : (nI 2).toInt = 2 := nI_toInt (by decide)
  have e0 : (nI 0).toInt = 0 := by decide
  split
  · rw [Jvm.Kit.i32_div (by rw [e2]; omega), e2, Int.tdiv_eq_ediv_of_nonneg h0]
    omega
  · split <;> omega
theorem kW_bd {wo kd : Nat → Int32} {G : Nat} {K : Nat → Int32} {h : Nat} (hP : okP K) (hh : h < 5) (hG : G ≤ 5) (hw : ∀ g, g < G → cN (wo g) 9) : 0 ≤ (kW wo kd G K h).toInt ∧ (kW wo kd G K h).toInt ≤ 45000 := by
  have := xsum_bd (f := fun g => wo g * xlf (kd g) (K (5 * h + g))) (B := 9000) (n := G) (by omega) (fun g hg => by
    have a := hP.1 (5 * h + g) (by omega)
    have b := (okP_le hP).2 (5 * h + g) (by omega)
    have c := xlf_bd (kd := kd g) a
    obtain ⟨w1, w2⟩ := hw g hg
    have e : (wo g).toInt = tn (wo g) := by
      have := nI_toInt (n := tn (wo g)) (by omega)
      rw [← w1] at this
      exact this
    have m0 : 0 ≤ (wo g).toInt * (xlf (kd g) (K (5 * h + g))).toInt := Int.mul_nonneg (by omega) c.1
    have m1 : (wo g).toInt * (xlf (kd g) (K (5 * h + g))).toInt ≤ 9 * 1000 := Int.mul_le_mul (by omega) (by omega) c.1 (by decide)
    have em := Jvm.Kit.i32_mul (x := wo g) (y := xlf (kd g) (K (5 * h + g))) (by omega) (by omega)
    rw [em]
    omega)
  unfold kW kWp
  omega
section ROUND
variable {S6 wv : Nat → Int32} {x mm nH : Nat}
def xrD (st : Int32 × Nat) (w : Int32) (c : Nat) : Prop := w < st.1 ∨ (w = st.1 ∧ st.2 ≤ c)
def xrD2 (st : Int32 × Int32) (w : Int32) (c : Nat) : Prop := w < st.1 ∨ (w = st.1 ∧ st.2 ≤ nI c)
theorem xrB_sp {F : Nat → Nat → Int32} {a : Nat} {st : Int32 × Nat} : ∀ n, (∀ b, b < n → xgo a b ≤ mm → xrD (xrB F mm a st n) (F a b) (xgo a b)) ∧ (∀ w c, xrD st w c → xrD (xrB F mm a st n) w c) ∧ (xrB F mm a st n = st ∨ ∃ b, b < n ∧ xgo a b ≤ mm ∧ xrB F mm a st n = (F a b, xgo a b))
  | 0 => ⟨fun b hb => absurd hb (Nat.not_lt_zero b), fun _ _ h => h, Or.inl rfl⟩
  | n + 1 => by
    obtain ⟨i1, i2, i3⟩ := xrB_sp n
    rw [xrB]
    by_cases hc : xgo a n ≤ mm ∧ ((xrB F mm a st n).1 < F a n ∨ (F a n = (xrB F mm a st n).1 ∧ xgo a n < (xrB F mm a st n).2))
    · rw [if_pos hc]
      have up : ∀ w c, xrD (xrB F mm a st n) w c → xrD (F a n, xgo a n) w c := by
        intro w c h
        unfold xrD at h ⊢
        dsimp only
        rcases h with h | ⟨h, h'⟩
        · rcases hc.2 with q | ⟨q, q'⟩
          · exact Or.inl (Int32.lt_trans h q)
          · exact Or.inl (by rw [q]; exact h)
        · rcases hc.2 with q | ⟨q, q'⟩
          · exact Or.inl (by rw [h]; exact q)
          · exact Or.inr ⟨by rw [h, q], by omega⟩
      refine ⟨fun b hb hg => ?_, fun w c h => up w c (i2 w c h), Or.inr ⟨n, Nat.lt_succ_self n, hc.1, rfl⟩⟩
      by_cases hz : b = n
      · rw [hz]
        exact Or.inr ⟨rfl, Nat.le_refl _⟩
      · exact up _ _ (i1 b (by omega) hg)
    · rw [if_neg hc]
      refine ⟨fun b hb hg => ?_, i2, ?_⟩
      · by_cases hz : b = n
        · rw [hz] at hg ⊢
          unfold xrD
          rcases Int32.lt_or_eq_of_le (Int32.not_lt.mp (fun z => hc ⟨hg, Or.inl z⟩) : F a n ≤ (xrB F mm a st n).1) with q | q
          · exact Or.inl q
          · exact Or.inr ⟨q, Nat.not_lt.mp (fun z => hc ⟨hg, Or.inr ⟨q, z⟩⟩)⟩
        · exact i1 b (by omega) hg
      · rcases i3 with h | ⟨b, h1, h2, h3⟩
        · exact Or.inl h
        · exact Or.inr ⟨b, by omega, h2, h3⟩
theorem xrA_sp {F : Nat → Nat → Int32} : ∀ n, (∀ a b, a < n → b < 61 → xgo a b ≤ mm → xrD (xrA F mm n) (F a b) (xgo a b)) ∧ (xrA F mm n = (-4, 0) ∨ ∃ a b, a < n ∧ b < 61 ∧ xgo a b ≤ mm ∧ xrA F mm n = (F a b, xgo a b))
  | 0 => ⟨fun a b hb => absurd hb (Nat.not_lt_zero a), Or.inl rfl⟩
  | n + 1 => by
    obtain ⟨i1, i2⟩ := xrA_sp n
    obtain ⟨j1, j2, j3⟩ := xrB_sp (F := F) (mm := mm) (a := n) (st := xrA F mm n) 61
    rw [xrA]
    refine ⟨fun a b ha hb hg => ?_, ?_⟩
    · by_cases hz : a = n
      · rw [hz] at hg ⊢
        exact j1 b hb hg
      · exact j2 _ _ (i1 a b (by omega) hb hg)
    · rcases j3 with h | ⟨b, h1, h2, h3⟩
      · rw [h]
        rcases i2 with q | ⟨a, b, q1, q2, q3, q4⟩
        · exact Or.inl q
        · exact Or.inr ⟨a, b, by omega, q2, q3, q4⟩
      · exact Or.inr ⟨n, b, Nat.lt_succ_self n, h1, h2, h3⟩
theorem xrT_sp {st : Int32 × Int32} {w : Int32} {c : Nat} (hc : c ≤ mm) : xrD2 (xrT st mm w c) w c ∧ (∀ w' c', xrD2 st w' c' → xrD2 (xrT st mm w c) w' c') ∧ (xrT st mm w c = st ∨ xrT st mm w c = (w, nI c)) := by
  unfold xrT
  by_cases h : c ≤ mm ∧ (st.1 < w ∨ (w = st.1 ∧ nI c < st.2))
  · rw [if_pos h]
    refine ⟨Or.inr ⟨rfl, Int32.le_refl _⟩, fun w' c' q => ?_, Or.inr rfl⟩
    unfold xrD2 at q ⊢
    dsimp only
    rcases q with q | ⟨q, q'⟩
    · rcases h.2 with k | ⟨k, k'⟩
      · exact Or.inl (Int32.lt_trans q k)
      · exact Or.inl (by rw [k]; exact q)
    · rcases h.2 with k | ⟨k, k'⟩
      · exact Or.inl (by rw [q]; exact k)
      · exact Or.inr ⟨by rw [q, k], Int32.le_trans (Int32.le_of_lt k') q'⟩
  · rw [if_neg h]
    refine ⟨?_, fun _ _ q => q, Or.inl rfl⟩
    unfold xrD2
    rcases Int32.lt_or_eq_of_le (Int32.not_lt.mp (fun z => h ⟨hc, Or.inl z⟩) : w ≤ st.1) with q | q
    · exact Or.inl q
    · exact Or.inr ⟨q, Int32.not_lt.mp (fun z => h ⟨hc, Or.inr ⟨q, z⟩⟩)⟩
theorem xrJ_sp {lo : Nat} {st : Int32 × Int32} : ∀ n, (∀ j, j < n → lo ≤ x → x ≤ xrE S6 x j → xgo (x - lo) (xrE S6 x j - x) ≤ mm → xrD2 (xrJ S6 wv x mm nH lo st n) (xrs S6 wv x nH (x - lo) (xrE S6 x j - x)) (xgo (x - lo) (xrE S6 x j - x))) ∧ (∀ w c, xrD2 st w c → xrD2 (xrJ S6 wv x mm nH lo st n) w c) ∧ (xrJ S6 wv x mm nH lo st n = st ∨ ∃ j, j < n ∧ lo ≤ x ∧ x ≤ xrE S6 x j ∧ xgo (x - lo) (xrE S6 x j - x) ≤ mm ∧ xrJ S6 wv x mm nH lo st n = (xrs S6 wv x nH (x - lo) (xrE S6 x j - x), nI (xgo (x - lo) (xrE S6 x j - x))))
  | 0 => ⟨fun b hb => absurd hb (Nat.not_lt_zero b), fun _ _ h => h, Or.inl rfl⟩
  | n + 1 => by
    obtain ⟨i1, i2, i3⟩ := xrJ_sp n
    have keep : xrJ S6 wv x mm nH lo st n = st ∨ (∃ j, j < n ∧ lo ≤ x ∧ x ≤ xrE S6 x j ∧ xgo (x - lo) (xrE S6 x j - x) ≤ mm ∧ xrJ S6 wv x mm nH lo st n = (xrs S6 wv x nH (x - lo) (xrE S6 x j - x), nI (xgo (x - lo) (xrE S6 x j - x)))) → xrJ S6 wv x mm nH lo st n = st ∨ ∃ j, j < n + 1 ∧ lo ≤ x ∧ x ≤ xrE S6 x j ∧ xgo (x - lo) (xrE S6 x j - x) ≤ mm ∧ xrJ S6 wv x mm nH lo st n = (xrs S6 wv x nH (x - lo) (xrE S6 x j - x), nI (xgo (x - lo) (xrE S6 x j - x))) := by
      rintro (q | ⟨j, q1, q2⟩)
      · exact Or.inl q
      · exact Or.inr ⟨j, by omega, q2⟩
    rw [xrJ]
    by_cases hl : lo ≤ x ∧ x ≤ xrE S6 x n
    · rw [if_pos hl]
      by_cases hc : xgo (x - lo) (xrE S6 x n - x) ≤ mm
      · obtain ⟨t1, t2, t3⟩ := xrT_sp (st := xrJ S6 wv x mm nH lo st n) (w := xrs S6 wv x nH (x - lo) (xrE S6 x n - x)) hc
        refine ⟨fun j hj h1 h2 hg => ?_, fun w c h => t2 _ _ (i2 w c h), ?_⟩
        · by_cases hz : j = n
          · rw [hz]
            exact t1
          · exact t2 _ _ (i1 j (by omega) h1 h2 hg)
        · rcases t3 with q | q
          · rw [q]
            exact keep i3
          · exact Or.inr ⟨n, Nat.lt_succ_self n, hl.1, hl.2, hc, q⟩
      · rw [xrT_0 (by omega)]
        refine ⟨fun j hj h1 h2 hg => ?_, i2, keep i3⟩
        by_cases hz : j = n
        · rw [hz] at hg
          exact absurd hg hc
        · exact i1 j (by omega) h1 h2 hg
    · rw [if_neg hl]
      refine ⟨fun j hj h1 h2 hg => ?_, i2, keep i3⟩
      by_cases hz : j = n
      · rw [hz] at h2
        exact absurd ⟨h1, h2⟩ hl
      · exact i1 j (by omega) h1 h2 hg
theorem xrI_sp : ∀ n, (∀ i j, i < n → j < nH + 1 → xrE S6 x i ≤ x → x ≤ xrE S6 x j → xgo (x - xrE S6 x i) (xrE S6 x j - x) ≤ mm → xrD2 (xrI S6 wv x mm nH n) (xrs S6 wv x nH (x - xrE S6 x i) (xrE S6 x j - x)) (xgo (x - xrE S6 x i) (xrE S6 x j - x))) ∧ (xrI S6 wv x mm nH n = (nI 0, nI 0) ∨ ∃ i j, i < n ∧ j < nH + 1 ∧ xrE S6 x i ≤ x ∧ x ≤ xrE S6 x j ∧ xgo (x - xrE S6 x i) (xrE S6 x j - x) ≤ mm ∧ xrI S6 wv x mm nH n = (xrs S6 wv x nH (x - xrE S6 x i) (xrE S6 x j - x), nI (xgo (x - xrE S6 x i) (xrE S6 x j - x))))
  | 0 => ⟨fun i _ hi => absurd hi (Nat.not_lt_zero i), Or.inl rfl⟩
  | n + 1 => by
    obtain ⟨i1, i2⟩ := xrI_sp n
    obtain ⟨j1, j2, j3⟩ := xrJ_sp (S6 := S6) (wv := wv) (x := x) (mm := mm) (nH := nH) (lo := xrE S6 x n) (st := xrI S6 wv x mm nH n) (nH + 1)
    rw [xrI]
    refine ⟨fun i j hi hj h1 h2 hg => ?_, ?_⟩
    · by_cases hz : i = n
      · rw [hz] at h1 hg ⊢
        exact j1 j hj h1 h2 hg
      · exact j2 _ _ (i1 i j (by omega) hj h1 h2 hg)
    · rcases j3 with h | ⟨j, h1, h2, h3, h4, h5⟩
      · rw [h]
        rcases i2 with q | ⟨i, j, q1, q2⟩
        · exact Or.inl q
        · exact Or.inr ⟨i, j, by omega, q2⟩
      · exact Or.inr ⟨n, j, Nat.lt_succ_self n, h1, h2, h3, h4, h5⟩
theorem xrE_s (k : Nat) : xrE S6 x (k + 1) = tn (S6 k) := by
  unfold xrE
  rw [if_neg (by omega), Nat.add_sub_cancel]
theorem xr_low (a : Nat) : ∀ n, ∃ i, i ≤ n ∧ xrE S6 x i ≤ x ∧ x ≤ xrE S6 x i + a ∧ ∀ k, k < n → x ≤ tn (S6 k) + a → tn (S6 k) ≤ x → xrE S6 x i ≤ tn (S6 k)
  | 0 => ⟨0, Nat.le_refl _, Nat.le_refl _, Nat.le_add_right _ _, fun k hk => absurd hk (Nat.not_lt_zero k)⟩
  | n + 1 => by
    obtain ⟨i, h1, h2, h3, h4⟩ := xr_low a n
    by_cases hc : x ≤ tn (S6 n) + a ∧ tn (S6 n) ≤ x ∧ tn (S6 n) < xrE S6 x i
    · refine ⟨n + 1, Nat.le_refl _, by rw [xrE_s]; omega, by rw [xrE_s]; omega, fun k hk q1 q2 => ?_⟩
      rw [xrE_s]
      by_cases hz : k = n
      · rw [hz]; exact Nat.le_refl _
      · have := h4 k (by omega) q1 q2
        omega
    · refine ⟨i, by omega, h2, h3, fun k hk q1 q2 => ?_⟩
      by_cases hz : k = n
      · subst hz
        omega
      · exact h4 k (by omega) q1 q2
theorem xr_high (b : Nat) : ∀ n, ∃ i, i ≤ n ∧ x ≤ xrE S6 x i ∧ xrE S6 x i ≤ x + b ∧ ∀ k, k < n → tn (S6 k) ≤ x + b → x ≤ tn (S6 k) → tn (S6 k) ≤ xrE S6 x i
  | 0 => ⟨0, Nat.le_refl _, Nat.le_refl _, Nat.le_add_right _ _, fun k hk => absurd hk (Nat.not_lt_zero k)⟩
  | n + 1 => by
    obtain ⟨i, h1, h2, h3, h4⟩ := xr_high b n
    by_cases hc : tn (S6 n) ≤ x + b ∧ x ≤ tn (S6 n) ∧ xrE S6 x i < tn (S6 n)
    · refine ⟨n + 1, Nat.le_refl _, by rw [xrE_s]; omega, by rw [xrE_s]; omega, fun k hk q1 q2 => ?_⟩
      rw [xrE_s]
      by_cases hz : k = n
      · rw [hz]; exact Nat.le_refl _
      · have := h4 k (by omega) q1 q2
        omega
    · refine ⟨i, by omega, h2, h3, fun k hk q1 q2 => ?_⟩
      by_cases hz : k = n
      · subst hz
        omega
      · exact h4 k (by omega) q1 q2
theorem xgo_mono {a b a' b' : Nat} (h1 : a' ≤ a) (h2 : b' ≤ b) : xgo a' b' ≤ xgo a b := by
  unfold xgo
  repeat' split
  all_goals omega
theorem round_tie {wv' : Nat → Int32} (hx : x ≤ 60) (hm : mm ≤ 99) (hc : ∀ h, h < nH → cN (S6 h) 60) (hw : ∀ h, h < nH → wv h = wv' h) (h0 : 0 ≤ (xrs S6 wv x nH 0 0).toInt) : (xrI S6 wv x mm nH (nH + 1)).1 = (xrA (xrs S6 wv' x nH) mm 61).1 ∧ (xrI S6 wv x mm nH (nH + 1)).2 = nI (xrA (xrs S6 wv' x nH) mm 61).2 := by
  have eF : xrs S6 wv' x nH = xrs S6 wv x nH := by
    funext a b
    exact xsum_congr (fun h hh => by rw [hw h hh])
  rw [eF]
  have ecell : ∀ h, h < nH → (S6 h).toInt = tn (S6 h) := by
    intro h hh
    obtain ⟨w1, w2⟩ := hc h hh
    have := nI_toInt (n := tn (S6 h)) (by omega)
    rw [← w1] at this
    exact this
  have e60 : ∀ i, i < nH + 1 → xrE S6 x i ≤ 60 := by
    intro i hi
    unfold xrE
    split
    · exact hx
    · exact (hc (i - 1) (by omega)).2
  obtain ⟨I1, I2⟩ := xrI_sp (S6 := S6) (wv := wv) (x := x) (mm := mm) (nH := nH) (nH + 1)
  obtain ⟨A1, A2⟩ := xrA_sp (F := xrs S6 wv x nH) (mm := mm) 61
  have ex0 : xrE S6 x 0 = x := if_pos rfl
  have g00 : xgo 0 0 = 0 := rfl
  -- the class's answer is one of its rounds
  have I3 : ∃ i j, i < nH + 1 ∧ j < nH + 1 ∧ xrE S6 x i ≤ x ∧ x ≤ xrE S6 x j ∧ xgo (x - xrE S6 x i) (xrE S6 x j - x) ≤ mm ∧ xrI S6 wv x mm nH (nH + 1) = (xrs S6 wv x nH (x - xrE S6 x i) (xrE S6 x j - x), nI (xgo (x - xrE S6 x i) (xrE S6 x j - x))) := by
    rcases I2 with q | q
    · have d := I1 0 0 (by omega) (by omega) (by rw [ex0]; exact Nat.le_refl _) (by rw [ex0]; exact Nat.le_refl _) (by rw [ex0, Nat.sub_self, g00]; omega)
      refine ⟨0, 0, by omega, by omega, by rw [ex0]; exact Nat.le_refl _, by rw [ex0]; exact Nat.le_refl _, by rw [ex0, Nat.sub_self, g00]; omega, ?_⟩
      rw [ex0, Nat.sub_self, g00] at d ⊢
      rw [q] at d ⊢
      rcases d with d | ⟨d, -⟩
      · rw [Int32.lt_iff_toInt_lt] at d
        have e0 : (nI 0).toInt = 0 := by decide
        dsimp only at d
        omega
      · rw [d]
    · exact q
  -- so is the reference's
  have A3 : ∃ a b, a < 61 ∧ b < 61 ∧ xgo a b ≤ mm ∧ xrA (xrs S6 wv x nH) mm 61 = (xrs S6 wv x nH a b, xgo a b) := by
    rcases A2 with q | q
    · have d := A1 0 0 (by omega) (by omega) (by rw [g00]; omega)
      rw [q] at d
      rcases d with d | ⟨d, -⟩
      · rw [Int32.lt_iff_toInt_lt] at d
        have e0 : (-4 : Int32).toInt = -4 := by decide
        dsimp only at d
        omega
      · dsimp only at d
        rw [d] at h0
        exact absurd h0 (by decide)
    · exact q
  obtain ⟨i, j, i1, j1, i2, j2, hg, eI⟩ := I3
  obtain ⟨a, b, a1, b1, hg2, eA⟩ := A3
  have ei := e60 i i1
  have ej := e60 j j1
  have d1 := A1 (x - xrE S6 x i) (xrE S6 x j - x) (by omega) (by omega) hg
  -- the reference's round, between houses
  obtain ⟨i', p1, p2, p3, p4⟩ := xr_low (S6 := S6) (x := x) a nH
  obtain ⟨j', q1, q2, q3, q4⟩ := xr_high (S6 := S6) (x := x) b nH
  have es : xrs S6 wv x nH a b = xrs S6 wv x nH (x - xrE S6 x i') (xrE S6 x j' - x) := by
    refine xsum_congr (fun h hh => ?_)
    have ec := ecell h hh
    have r1 := p4 h hh
    have r2 := q4 h hh
    by_cases hz : ((x : Nat) : Int) - ((a : Nat) : Int) ≤ (S6 h).toInt ∧ (S6 h).toInt ≤ ((x + b : Nat) : Int)
    · rw [if_pos hz, if_pos (by omega)]
    · rw [if_neg hz, if_neg (by omega)]
  have hgm : xgo (x - xrE S6 x i') (xrE S6 x j' - x) ≤ xgo a b := xgo_mono (by omega) (by omega)
  have d2 := I1 i' j' (by omega) (by omega) p2 q2 (by omega)
  rw [← es] at d2
  rw [eA] at d1 ⊢
  rw [eI] at d2 ⊢
  unfold xrD at d1
  unfold xrD2 at d2
  dsimp only at d1 d2 ⊢
  generalize xrs S6 wv x nH (x - xrE S6 x i) (xrE S6 x j - x) = W1 at d1 d2 ⊢
  generalize xrs S6 wv x nH a b = W2 at d1 d2 ⊢
  have hle : ∀ (c c' : Nat), c ≤ 99 → c' ≤ 99 → nI c ≤ nI c' → c ≤ c' := by
    intro c c' h1 h2 h3
    rw [Int32.le_iff_toInt_le, nI_toInt (by omega), nI_toInt (by omega)] at h3
    omega
  rcases d1 with d1 | ⟨d1, d1'⟩
  · rcases d2 with d2 | ⟨d2, -⟩
    · exact absurd (Int32.lt_trans d1 d2) Int32.lt_irrefl
    · rw [d2] at d1
      exact absurd d1 Int32.lt_irrefl
  · refine ⟨d1, ?_⟩
    rcases d2 with d2 | ⟨d2, d2'⟩
    · rw [d1] at d2
      exact absurd d2 Int32.lt_irrefl
    · have := hle _ _ (by omega) (by omega) d2'
      congr 1
      omega
end ROUND
