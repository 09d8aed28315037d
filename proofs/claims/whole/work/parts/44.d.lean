/-! own words: soups tied -/
def bd (x : Int32) (n : Int) : Prop := 0 ≤ x.toInt ∧ x.toInt ≤ n
theorem xmo_toInt {s : Nat → Int32} {i j : Nat} (hi : 0 ≤ (s i).toInt) : (xmo s i j).toInt = if i = j then (s i).toInt / 2 else if (s i).toInt < (s j).toInt then (s i).toInt else (s j).toInt := by
  unfold xmo
  by_cases h : i = j
  · have e2 : (nI 2).toInt = 2 := nI_toInt (by decide)
    rw [if_pos h, if_pos h, Jvm.Kit.i32_div (by rw [e2]; omega), e2, Int.tdiv_eq_ediv_of_nonneg hi]
  · rw [if_neg h, if_neg h]
    simp only [Int32.lt_iff_toInt_lt]
    split <;> rfl
theorem xmo_same {s s' : Nat → Int32} {i j : Nat} (h : ∀ k, k < 5 → s k = s' k) (hi : i < 5) (hj : j < 5) : xmo s i j = xmo s' i j := by
  unfold xmo
  rw [h i hi, h j hj]
theorem xuse_same {s s' : Nat → Int32} {i j k : Nat} {n : Int32} (h : ∀ k, k < 5 → s k = s' k) (hi : i < 5) (hj : j < 5) (hk : k < 5) : xuse s i j n k = xuse s' i j n k := by
  unfold xuse
  simp only [upd]
  rw [h i hi, h j hj, h k hk]
theorem xmo_bd {s : Nat → Int32} {i j : Nat} (h : ∀ k, k < 5 → bd (s k) 1000) (hi : i < 5) (hj : j < 5) : bd (xmo s i j) 1000 := by
  have bi := h i hi
  have bj := h j hj
  unfold bd at bi bj ⊢
  rw [xmo_toInt bi.1]
  repeat' split
  all_goals omega
theorem xuse_bd {s : Nat → Int32} {i j k : Nat} {n : Int32} (hs : ∀ k, k < 5 → bd (s k) 1000) (hi : i < 5) (hj : j < 5) (hk : k < 5) (h0 : 0 ≤ n.toInt) (h1 : n.toInt ≤ (xmo s i j).toInt) : 0 ≤ (xuse s i j n k).toInt ∧ (xuse s i j n k).toInt ≤ (s k).toInt := by
  have bi := hs i hi
  have bj := hs j hj
  have bk := hs k hk
  unfold bd at bi bj bk
  rw [xmo_toInt bi.1] at h1
  have hn : n.toInt ≤ (s i).toInt ∧ n.toInt ≤ (s j).toInt ∧ (i = j → 2 * n.toInt ≤ (s i).toInt) := by
    by_cases h : i = j
    · subst h
      rw [if_pos rfl] at h1
      omega
    · rw [if_neg h] at h1
      split at h1 <;> omega
  have e1 : (s i - n).toInt = (s i).toInt - n.toInt := Jvm.Kit.i32_sub (by omega) (by omega)
  have e2 : (s j - n).toInt = (s j).toInt - n.toInt := Jvm.Kit.i32_sub (by omega) (by omega)
  unfold xuse
  simp only [upd]
  by_cases hkj : k = j
  · subst hkj
    rw [if_pos rfl]
    by_cases hki : k = i
    · subst hki
      rw [if_pos rfl]
      have e3 : (s k - n - n).toInt = (s k).toInt - n.toInt - n.toInt := by rw [Jvm.Kit.i32_sub (by omega) (by omega), e1]
      have := hn.2.2 rfl
      omega
    · rw [if_neg hki]
      omega
  · rw [if_neg hkj]
    by_cases hki : k = i
    · subst hki
      rw [if_pos rfl]
      omega
    · rw [if_neg hki]
      omega
theorem xmo_le {s s' : Nat → Int32} {i j : Nat} (h : ∀ k, k < 5 → 0 ≤ (s k).toInt ∧ (s k).toInt ≤ (s' k).toInt) (hi : i < 5) (hj : j < 5) : (xmo s i j).toInt ≤ (xmo s' i j).toInt := by
  have bi := h i hi
  have bj := h j hj
  rw [xmo_toInt bi.1, xmo_toInt (by omega)]
  by_cases hij : i = j
  · rw [if_pos hij, if_pos hij]
    omega
  · rw [if_neg hij, if_neg hij]
    repeat' split
    all_goals omega
theorem bd_mul {x y : Int32} (hx : bd x 1000) (hy : bd y 1000) : (x * y).toInt = x.toInt * y.toInt ∧ 0 ≤ x.toInt * y.toInt ∧ x.toInt * y.toInt ≤ 1000000 := by
  have h1 : 0 ≤ x.toInt * y.toInt := Int.mul_nonneg hx.1 hy.1
  have h2 : x.toInt * y.toInt ≤ 1000 * 1000 := Int.mul_le_mul hx.2 hy.2 hy.1 (by decide)
  exact ⟨Jvm.Kit.i32_mul (by omega) (by omega), h1, by omega⟩
def soV (mn : Nat) (v : Nat → Int32) (k : Nat) : Int := if mn ≤ k then 0 else (v k).toInt
theorem so_term {mn k : Nat} {x : Int32} {v v' : Nat → Int32} (h0 : mn ≤ k → x = nI 0) (hv : k < mn → v k = v' k ∧ bd (v' k) 1000) (hx : bd x 1000) : x * v k = (if mn ≤ k then nI 0 else x * v' k) ∧ (x * v k).toInt = x.toInt * soV mn v' k ∧ 0 ≤ x.toInt * soV mn v' k ∧ x.toInt * soV mn v' k ≤ 1000000 ∧ 0 ≤ soV mn v' k := by
  unfold soV
  by_cases h : mn ≤ k
  · rw [if_pos h, if_pos h, h0 h, nI_0, Int32.zero_mul]
    exact ⟨rfl, by decide, by decide, by decide, by decide⟩
  · obtain ⟨e, hb⟩ := hv (by omega)
    obtain ⟨a1, a2, a3⟩ := bd_mul hx hb
    rw [if_neg h, if_neg h, e]
    exact ⟨rfl, a1, a2, a3, hb.1⟩
def sR2 (st st' : Int32 × (Nat → Int32)) : Prop := st.1 = st'.1 ∧ 0 ≤ st.1.toInt ∧ ∀ j, j < 3 → st.2 j = st'.2 j
def sR (st st' : Int32 × (Nat → Int32)) : Prop := (st.1 = (-1) ∧ st'.1 = (-4)) ∨ sR2 st st'
theorem sR_step {st st' : Int32 × (Nat → Int32)} {w a b c : Int32} (h : sR st st') (hw : 0 ≤ w.toInt) : sR2 (xtw st w a b c) (if st'.1 < w then (w, upd (upd (upd st'.2 0 a) 1 b) 2 c) else st') := by
  have key : sR2 (w, upd (upd (upd st.2 0 a) 1 b) 2 c) (w, upd (upd (upd st'.2 0 a) 1 b) 2 c) := by
    refine ⟨rfl, hw, fun j hj => ?_⟩
    have : j = 0 ∨ j = 1 ∨ j = 2 := by omega
    rcases this with rfl | rfl | rfl <;> rfl
  unfold xtw
  rcases h with ⟨h1, h2⟩ | h
  · rw [if_pos, if_pos]
    · exact key
    · rw [h2, Int32.lt_iff_toInt_lt]
      have : (-4 : Int32).toInt = -4 := by decide
      omega
    · rw [h1, Int32.lt_iff_toInt_lt]
      have : (-1 : Int32).toInt = -1 := by decide
      omega
  · rw [← h.1]
    by_cases hlt : st.1 < w
    · rw [if_pos hlt, if_pos hlt]
      exact key
    · rw [if_neg hlt, if_neg hlt]
      exact h
section SOIN
variable {mn : Nat} {v v' Ra Ra' : Nat → Int32} {i1 j1 i2 j2 : Nat} {a : Int32}
theorem so_cand (hv : ∀ k, k < mn → v k = v' k ∧ bd (v' k) 1000) (hRa : ∀ k, k < 5 → Ra k = Ra' k ∧ bd (Ra' k) 1000) (h1 : 1 < mn → i1 < 5 ∧ j1 < 5) (h2 : 2 < mn → i2 < 5 ∧ j2 < 5) (ha : bd a 1000) (ha0 : mn ≤ 0 → a = nI 0) {t : Nat} (ht : t < ((if mn ≤ 1 then nI 0 else xmo Ra i1 j1).toInt + 1).toNat) :
    (xcC mn Ra i1 j1 i2 j2 ((if mn ≤ 1 then nI 0 else xmo Ra i1 j1) - nI t) = (if mn ≤ 2 then nI 0 else xmo (if mn ≤ 1 then Ra' else xuse Ra' i1 j1 ((if mn ≤ 1 then nI 0 else xmo Ra i1 j1) - nI t)) i2 j2)) ∧
    (a * v 0 + ((if mn ≤ 1 then nI 0 else xmo Ra i1 j1) - nI t) * v 1 + xcC mn Ra i1 j1 i2 j2 ((if mn ≤ 1 then nI 0 else xmo Ra i1 j1) - nI t) * v 2 = ((if mn = 0 then nI 0 else a * v' 0) + (if mn ≤ 1 then nI 0 else ((if mn ≤ 1 then nI 0 else xmo Ra i1 j1) - nI t) * v' 1)) + (if mn ≤ 2 then nI 0 else (if mn ≤ 2 then nI 0 else xmo (if mn ≤ 1 then Ra' else xuse Ra' i1 j1 ((if mn ≤ 1 then nI 0 else xmo Ra i1 j1) - nI t)) i2 j2) * v' 2)) ∧
    0 ≤ (a * v 0 + ((if mn ≤ 1 then nI 0 else xmo Ra i1 j1) - nI t) * v 1 + xcC mn Ra i1 j1 i2 j2 ((if mn ≤ 1 then nI 0 else xmo Ra i1 j1) - nI t) * v 2).toInt ∧
    (a * v 0 + ((if mn ≤ 1 then nI 0 else xmo Ra i1 j1) - nI t) * v 1 + xcC mn Ra i1 j1 i2 j2 ((if mn ≤ 1 then nI 0 else xmo Ra i1 j1) - nI t) * v 2).toInt ≤ (xcW mn v Ra i1 j1 i2 j2 a).toInt := by
  have hb : ∀ k, k < 5 → bd (Ra k) 1000 := fun k hk => by rw [(hRa k hk).1]; exact (hRa k hk).2
  have hs : ∀ k, k < 5 → Ra k = Ra' k := fun k hk => (hRa k hk).1
  have e0 : (nI 0).toInt = 0 := by decide
  generalize hnx : (if mn ≤ 1 then nI 0 else xmo Ra i1 j1) = nx at ht
  have bnx : bd nx 1000 := by
    rw [← hnx]
    split
    · exact ⟨by decide, by decide⟩
    · have := h1 (by omega)
      exact xmo_bd hb this.1 this.2
  have et : (nx - nI t).toInt = nx.toInt - t := xdn_toInt (Or.inr (by have := bnx.1; omega))
  generalize hbb : nx - nI t = b at et
  have bb : bd b 1000 := by unfold bd at bnx ⊢; omega
  have b1 : mn ≤ 1 → b = nI 0 := by
    intro h
    rw [if_pos h] at hnx
    rw [← hbb, ← hnx]
    have : t = 0 := by rw [← hnx, e0] at ht; omega
    subst this
    decide
  have hble : 1 < mn → b.toInt ≤ (xmo Ra i1 j1).toInt := by
    intro h
    rw [if_neg (by omega)] at hnx
    rw [hnx]
    omega
  have hu : 2 < mn → ∀ k, k < 5 → 0 ≤ (xuse Ra i1 j1 b k).toInt ∧ (xuse Ra i1 j1 b k).toInt ≤ (Ra k).toInt := by
    intro h k hk
    have := h1 (by omega)
    exact xuse_bd hb this.1 this.2 hk bb.1 (hble (by omega))
  have eC : xcC mn Ra i1 j1 i2 j2 b = (if mn ≤ 2 then nI 0 else xmo (if mn ≤ 1 then Ra' else xuse Ra' i1 j1 b) i2 j2) := by
    unfold xcC
    by_cases h : mn ≤ 2
    · rw [if_pos h, if_pos h]
    · have q1 := h1 (by omega)
      have q2 := h2 (by omega)
      rw [if_neg h, if_neg h, if_neg (by omega), if_neg (by omega)]
      exact xmo_same (fun k hk => xuse_same hs q1.1 q1.2 hk) q2.1 q2.2
  have bC : bd (xcC mn Ra i1 j1 i2 j2 b) 1000 ∧ (xcC mn Ra i1 j1 i2 j2 b).toInt ≤ (if mn ≤ 2 then nI 0 else xmo Ra i2 j2).toInt := by
    unfold xcC
    by_cases h : mn ≤ 2
    · rw [if_pos h, if_pos h]
      exact ⟨⟨by decide, by decide⟩, Int.le_refl _⟩
    · have q2 := h2 (by omega)
      rw [if_neg h, if_neg h, if_neg (by omega)]
      refine ⟨xmo_bd (fun k hk => ?_) q2.1 q2.2, xmo_le (hu (by omega)) q2.1 q2.2⟩
      have := hu (by omega) k hk
      have := hb k hk
      unfold bd at this ⊢
      omega
  have c0 : mn ≤ 2 → xcC mn Ra i1 j1 i2 j2 b = nI 0 := by
    intro h
    unfold xcC
    rw [if_pos h]
  refine ⟨eC, ?_⟩
  rw [← eC]
  have bcm : bd (if mn ≤ 2 then nI 0 else xmo Ra i2 j2) 1000 := by
    split
    · exact ⟨by decide, by decide⟩
    · have := h2 (by omega)
      exact xmo_bd hb this.1 this.2
  have cm0 : mn ≤ 2 → (if mn ≤ 2 then nI 0 else xmo Ra i2 j2) = nI 0 := fun h => if_pos h
  have n1 : mn ≤ 1 → nx = nI 0 := by
    intro h
    rw [← hnx, if_pos h]
  generalize xcC mn Ra i1 j1 i2 j2 b = C at bC c0
  unfold xcW
  rw [hnx]
  generalize (if mn ≤ 2 then nI 0 else xmo Ra i2 j2) = Cm at bC bcm cm0
  obtain ⟨p1, p2, p3, p4, p5⟩ := so_term (k := 0) ha0 (hv 0) ha
  obtain ⟨r1, r2, r3, r4, r5⟩ := so_term (k := 1) b1 (hv 1) bb
  obtain ⟨s1, s2, s3, s4, s5⟩ := so_term (k := 2) c0 (hv 2) bC.1
  obtain ⟨y1, y2, y3, y4, y5⟩ := so_term (k := 1) n1 (hv 1) bnx
  obtain ⟨z1, z2, z3, z4, z5⟩ := so_term (k := 2) cm0 (hv 2) bcm
  have l1 : b.toInt * soV mn v' 1 ≤ nx.toInt * soV mn v' 1 := Int.mul_le_mul_of_nonneg_right (by omega) r5
  have l2 : C.toInt * soV mn v' 2 ≤ Cm.toInt * soV mn v' 2 := Int.mul_le_mul_of_nonneg_right bC.2 s5
  have w1 : (a * v 0 + b * v 1).toInt = (a * v 0).toInt + (b * v 1).toInt := Jvm.Kit.i32_add (by omega) (by omega)
  have w2 : (a * v 0 + b * v 1 + C * v 2).toInt = (a * v 0 + b * v 1).toInt + (C * v 2).toInt := Jvm.Kit.i32_add (by omega) (by omega)
  have w3 : (a * v 0 + nx * v 1).toInt = (a * v 0).toInt + (nx * v 1).toInt := Jvm.Kit.i32_add (by omega) (by omega)
  have w4 : (a * v 0 + nx * v 1 + Cm * v 2).toInt = (a * v 0 + nx * v 1).toInt + (Cm * v 2).toInt := Jvm.Kit.i32_add (by omega) (by omega)
  refine ⟨?_, by omega, by omega⟩
  rw [p1, r1, s1]
  congr 2
  by_cases hm : mn = 0
  · rw [if_pos hm, if_pos (by omega)]
  · rw [if_neg hm, if_neg (by omega)]
theorem so_in (hv : ∀ k, k < mn → v k = v' k ∧ bd (v' k) 1000) (hRa : ∀ k, k < 5 → Ra k = Ra' k ∧ bd (Ra' k) 1000) (h1 : 1 < mn → i1 < 5 ∧ j1 < 5) (h2 : 2 < mn → i2 < 5 ∧ j2 < 5) (ha : bd a 1000) (ha0 : mn ≤ 0 → a = nI 0) {st st' : Int32 × (Nat → Int32)} (hst : sR st st') : ∀ t, t ≤ ((if mn ≤ 1 then nI 0 else xmo Ra i1 j1).toInt + 1).toNat → (if t = 0 then sR else sR2) (xcIn mn v Ra i1 j1 i2 j2 a (if mn ≤ 1 then nI 0 else xmo Ra i1 j1) st t) (xsIn mn v' Ra' i1 j1 i2 j2 a (if mn ≤ 1 then nI 0 else xmo Ra i1 j1) st' t)
  | 0, _ => hst
  | t + 1, ht => by
    have ih := so_in hv hRa h1 h2 ha ha0 hst t (by omega)
    obtain ⟨q1, q2, q3, -⟩ := so_cand hv hRa h1 h2 ha ha0 (t := t) (by omega)
    have ih : sR (xcIn mn v Ra i1 j1 i2 j2 a (if mn ≤ 1 then nI 0 else xmo Ra i1 j1) st t) (xsIn mn v' Ra' i1 j1 i2 j2 a (if mn ≤ 1 then nI 0 else xmo Ra i1 j1) st' t) := by
      split at ih
      · exact ih
      · exact Or.inr ih
    rw [if_neg (by omega), xcIn, xsIn, ← q2, ← q1]
    exact sR_step ih q3
theorem so_skip (hv : ∀ k, k < mn → v k = v' k ∧ bd (v' k) 1000) (hRa : ∀ k, k < 5 → Ra k = Ra' k ∧ bd (Ra' k) 1000) (h1 : 1 < mn → i1 < 5 ∧ j1 < 5) (h2 : 2 < mn → i2 < 5 ∧ j2 < 5) (ha : bd a 1000) (ha0 : mn ≤ 0 → a = nI 0) {st' : Int32 × (Nat → Int32)} (hst : ¬ st'.1 < xcW mn v Ra i1 j1 i2 j2 a) : ∀ t, t ≤ ((if mn ≤ 1 then nI 0 else xmo Ra i1 j1).toInt + 1).toNat → xsIn mn v' Ra' i1 j1 i2 j2 a (if mn ≤ 1 then nI 0 else xmo Ra i1 j1) st' t = st'
  | 0, _ => rfl
  | t + 1, ht => by
    have ih := so_skip hv hRa h1 h2 ha ha0 hst t (by omega)
    obtain ⟨-, q2, -, q4⟩ := so_cand hv hRa h1 h2 ha ha0 (t := t) (by omega)
    rw [xsIn, ih, ← q2, if_neg]
    rw [Int32.lt_iff_toInt_lt] at hst ⊢
    omega
end SOIN
section SOOUT
variable {mn : Nat} {v v' R R' : Nat → Int32} {f g : Nat → Nat} {m0 m0' : Nat → Int32}
theorem so_out (hv : ∀ k, k < mn → v k = v' k ∧ bd (v' k) 1000) (hR : ∀ k, k < 5 → R k = R' k ∧ bd (R' k) 1000) (hf : ∀ k, k < mn → f k < 5 ∧ g k < 5) : ∀ i, i ≤ ((if mn ≤ 0 then nI 0 else xmo R (f 0) (g 0)).toInt + 1).toNat → (if i = 0 then sR else sR2) (xcO mn v R f g (if mn ≤ 0 then nI 0 else xmo R (f 0) (g 0)) m0 i) (xsO mn v' R' f g (if mn ≤ 0 then nI 0 else xmo R (f 0) (g 0)) m0' i)
  | 0, _ => Or.inl ⟨rfl, rfl⟩
  | i + 1, hi => by
    have ih := so_out hv hR hf i (by omega)
    have ih : sR (xcO mn v R f g (if mn ≤ 0 then nI 0 else xmo R (f 0) (g 0)) m0 i) (xsO mn v' R' f g (if mn ≤ 0 then nI 0 else xmo R (f 0) (g 0)) m0' i) := by
      split at ih
      · exact ih
      · exact Or.inr ih
    rw [if_neg (by omega), xcO, xsO]
    generalize xcO mn v R f g (if mn ≤ 0 then nI 0 else xmo R (f 0) (g 0)) m0 i = st at ih
    generalize xsO mn v' R' f g (if mn ≤ 0 then nI 0 else xmo R (f 0) (g 0)) m0' i = st' at ih
    have hb : ∀ k, k < 5 → bd (R k) 1000 := fun k hk => by rw [(hR k hk).1]; exact (hR k hk).2
    have hs : ∀ k, k < 5 → R k = R' k := fun k hk => (hR k hk).1
    have e0 : (nI 0).toInt = 0 := by decide
    generalize hnx : (if mn ≤ 0 then nI 0 else xmo R (f 0) (g 0)) = tp at hi
    have bnx : bd tp 1000 := by
      rw [← hnx]
      split
      · exact ⟨by decide, by decide⟩
      · have := hf 0 (by omega)
        exact xmo_bd hb this.1 this.2
    have et : (tp - nI i).toInt = tp.toInt - i := xdn_toInt (Or.inr (by have := bnx.1; omega))
    generalize hbb : tp - nI i = a at et
    have ha : bd a 1000 := by unfold bd at bnx ⊢; omega
    have ha0 : mn ≤ 0 → a = nI 0 := by
      intro h
      rw [if_pos h] at hnx
      rw [← hbb, ← hnx]
      have : i = 0 := by rw [← hnx, e0] at hi; omega
      subst this
      decide
    have eRa : xsRa mn R' (f 0) (g 0) a = if mn ≤ 0 then R' else xuse R' (f 0) (g 0) a := by
      unfold xsRa
      by_cases h : mn = 0
      · rw [if_pos h, if_pos (by omega)]
      · rw [if_neg h, if_neg (by omega)]
    have hRa : ∀ k, k < 5 → xcRa mn R (f 0) (g 0) a k = xsRa mn R' (f 0) (g 0) a k ∧ bd (xsRa mn R' (f 0) (g 0) a k) 1000 := by
      intro k hk
      rw [eRa]
      unfold xcRa
      by_cases h : mn ≤ 0
      · rw [if_pos h, if_pos h]
        exact hR k hk
      · rw [if_neg h] at hnx
        rw [if_neg h, if_neg h]
        have q := hf 0 (by omega)
        have e := xuse_same (n := a) hs q.1 q.2 hk
        have u := xuse_bd hb q.1 q.2 hk ha.1 (by rw [hnx]; omega)
        rw [← e]
        have := hb k hk
        unfold bd at this ⊢
        exact ⟨rfl, by omega⟩
    have h1 : 1 < mn → f 1 < 5 ∧ g 1 < 5 := hf 1
    have h2 : 2 < mn → f 2 < 5 ∧ g 2 < 5 := hf 2
    have eN : xsNx mn (xsRa mn R' (f 0) (g 0) a) (f 1) (g 1) = (if mn ≤ 1 then nI 0 else xmo (xcRa mn R (f 0) (g 0) a) (f 1) (g 1)) := by
      unfold xsNx
      by_cases h : mn ≤ 1
      · rw [if_pos h, if_pos h]
      · have q := h1 (by omega)
        rw [if_neg h, if_neg h]
        exact (xmo_same (fun k hk => (hRa k hk).1) q.1 q.2).symm
    rw [eN]
    have hn0 : 0 ≤ (if mn ≤ 1 then nI 0 else xmo (xcRa mn R (f 0) (g 0) a) (f 1) (g 1)).toInt := by
      split
      · decide
      · have q := h1 (by omega)
        exact (xmo_bd (fun k hk => by rw [(hRa k hk).1]; exact (hRa k hk).2) q.1 q.2).1
    by_cases hp : st.1 < xcW mn v (xcRa mn R (f 0) (g 0) a) (f 1) (g 1) (f 2) (g 2) a
    · rw [if_pos hp]
      have := so_in hv hRa h1 h2 ha ha0 ih _ (Nat.le_refl _)
      rw [if_neg (by omega)] at this
      exact this
    · rw [if_neg hp]
      have hc := so_cand hv hRa h1 h2 ha ha0 (t := 0) (by omega)
      rcases ih with ⟨z1, z2⟩ | ih
      · rw [z1, Int32.lt_iff_toInt_lt] at hp
        have : (-1 : Int32).toInt = -1 := by decide
        omega
      · rw [so_skip hv hRa h1 h2 ha ha0 (by rw [← ih.1]; exact hp) _ (Nat.le_refl _)]
        exact ih
theorem soup_tie (hv : ∀ k, k < mn → v k = v' k ∧ bd (v' k) 1000) (hR : ∀ k, k < 5 → R k = R' k ∧ bd (R' k) 1000) (hf : ∀ k, k < mn → f k < 5 ∧ g k < 5) : sR2 (xcO mn v R f g (if mn ≤ 0 then nI 0 else xmo R (f 0) (g 0)) m0 ((if mn ≤ 0 then nI 0 else xmo R (f 0) (g 0)).toInt + 1).toNat) (xsO mn v' R' f g (if mn = 0 then nI 0 else xmo R' (f 0) (g 0)) m0' ((if mn = 0 then nI 0 else xmo R' (f 0) (g 0)).toInt + 1).toNat) := by
  have hb : ∀ k, k < 5 → bd (R k) 1000 := fun k hk => by rw [(hR k hk).1]; exact (hR k hk).2
  have e : (if mn = 0 then nI 0 else xmo R' (f 0) (g 0)) = (if mn ≤ 0 then nI 0 else xmo R (f 0) (g 0)) := by
    by_cases h : mn = 0
    · rw [if_pos h, if_pos (by omega)]
    · have q := hf 0 (by omega)
      rw [if_neg h, if_neg (by omega)]
      exact (xmo_same (fun k hk => (hR k hk).1) q.1 q.2).symm
  have h0 : 0 ≤ (if mn ≤ 0 then nI 0 else xmo R (f 0) (g 0)).toInt := by
    split
    · decide
    · have q := hf 0 (by omega)
      exact (xmo_bd hb q.1 q.2).1
  rw [e]
  have := so_out (m0 := m0) (m0' := m0') hv hR hf _ (Nat.le_refl _)
  rw [if_neg (by omega)] at this
  exact this
end SOOUT
