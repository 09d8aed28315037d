/-! own words: how many pieces there are; how often one is hungry -/
def isum (f : Nat → Int) : Nat → Int
  | 0 => 0
  | n + 1 => isum f n + f n
theorem isum_congr {f g : Nat → Int} : ∀ {n : Nat}, (∀ i, i < n → f i = g i) → isum f n = isum g n
  | 0, _ => rfl
  | n + 1, h => by rw [isum, isum, isum_congr (fun i hi => h i (by omega)), h n (by omega)]
theorem isum_le {f g : Nat → Int} : ∀ {n : Nat}, (∀ i, i < n → f i ≤ g i) → isum f n ≤ isum g n
  | 0, _ => Int.le_refl _
  | n + 1, h => by
    have a := isum_le (n := n) (fun i hi => h i (by omega))
    have b := h n (by omega)
    rw [isum, isum]
    omega
theorem isum_nn {f : Nat → Int} : ∀ {n : Nat}, (∀ i, i < n → 0 ≤ f i) → 0 ≤ isum f n
  | 0, _ => Int.le_refl _
  | n + 1, h => by
    have a := isum_nn (n := n) (fun i hi => h i (by omega))
    have b := h n (by omega)
    rw [isum]
    omega
theorem isum_one {f : Nat → Int} : ∀ {n a : Nat}, (∀ i, i < n → 0 ≤ f i) → a < n → f a ≤ isum f n
  | 0, _, _, h => by omega
  | n + 1, a, h, ha => by
    have b := h n (by omega)
    have nn := isum_nn (n := n) (fun i hi => h i (by omega))
    rw [isum]
    by_cases hz : a = n
    · subst hz
      omega
    · have := isum_one (n := n) (a := a) (fun i hi => h i (by omega)) (by omega)
      omega
theorem isum_mono {f : Nat → Int} {k n : Nat} (hf : ∀ i, i < n → 0 ≤ f i) (hk : k ≤ n) : isum f k ≤ isum f n := by
  induction n with
  | zero => rw [show k = 0 by omega]; exact Int.le_refl _
  | succ n ih =>
    by_cases hz : k = n + 1
    · rw [hz]; exact Int.le_refl _
    · have := ih (fun i hi => hf i (by omega)) (by omega)
      have := hf n (by omega)
      rw [isum]
      omega
theorem isum_add {f g : Nat → Int} {a : Nat} {d : Int} : ∀ {n : Nat}, a < n → (∀ i, i < n → i ≠ a → g i = f i) → g a = f a + d → isum g n = isum f n + d
  | 0, h, _, _ => by omega
  | n + 1, h, hi, hd => by
    rw [isum, isum]
    by_cases hz : a = n
    · subst hz
      rw [isum_congr (n := a) (fun i h2 => hi i (by omega) (by omega)), hd]
      omega
    · rw [isum_add (n := n) (by omega) (fun i h2 => hi i (by omega)) hd, hi n (by omega) (fun z => hz z.symm)]
      omega
def pcs (K : Nat → Int32) : Int := isum (fun j => (K j).toInt) 25
def snt (K : Nat → Int32) (n : Nat) : Int := isum (fun k => (K (26 + 1 + 4 * k + 2)).toInt) n
def okP (K : Nat → Int32) : Prop := (∀ j, j < 25 → 0 ≤ (K j).toInt) ∧ (∀ k, k < tn (K 26) → 0 ≤ (K (26 + 1 + 4 * k + 2)).toInt) ∧ pcs K + snt K (tn (K 26)) ≤ 1000
theorem okP_le {K : Nat → Int32} (h : okP K) : pcs K ≤ 1000 ∧ ∀ j, j < 25 → (K j).toInt ≤ 1000 := by
  obtain ⟨h1, h2, h3⟩ := h
  have a : 0 ≤ snt K (tn (K 26)) := isum_nn h2
  refine ⟨by omega, fun j hj => ?_⟩
  have : (K j).toInt ≤ pcs K := isum_one (f := fun j => (K j).toInt) h1 hj
  omega
theorem okP_dec {K K' : Nat → Int32} (hK : okK K) (h : okP K) (hd : ∀ j, j < 25 → 0 ≤ (K' j).toInt ∧ (K' j).toInt ≤ (K j).toInt) (he : ∀ j, 26 ≤ j → j < 51 → K' j = K j) : okP K' := by
  obtain ⟨h1, h2, h3⟩ := h
  have h6 := hK.2.1.2
  have e26 := he 26 (by decide) (by decide)
  have es : ∀ k, k < tn (K 26) → K' (26 + 1 + 4 * k + 2) = K (26 + 1 + 4 * k + 2) := fun k hk => he _ (by omega) (by omega)
  refine ⟨fun j hj => (hd j hj).1, fun k hk => ?_, ?_⟩
  · rw [e26] at hk
    rw [es k hk]
    exact h2 k hk
  · rw [e26]
    have a : pcs K' ≤ pcs K := isum_le (fun j hj => (hd j hj).2)
    have b : snt K' (tn (K 26)) = snt K (tn (K 26)) := isum_congr (fun k hk => by rw [es k hk])
    omega
theorem kAdd_toInt {K : Nat → Int32} {a g : Nat} {n : Int32} (h1 : -2 ^ 31 ≤ (K (5 * a + g)).toInt + n.toInt) (h2 : (K (5 * a + g)).toInt + n.toInt < 2 ^ 31) : (kAdd K a g n (5 * a + g)).toInt = (K (5 * a + g)).toInt + n.toInt := by
  unfold kAdd
  rw [upd_at]
  exact Jvm.Kit.i32_add h1 h2
theorem kAdd_ne {K : Nat → Int32} {a g j : Nat} {n : Int32} (h : j ≠ 5 * a + g) : kAdd K a g n j = K j := upd_ne _ _ h
theorem pcs_add {K : Nat → Int32} {a g : Nat} {n : Int32} (ha : a < 5) (hg : g < 5) (h1 : -2 ^ 31 ≤ (K (5 * a + g)).toInt + n.toInt) (h2 : (K (5 * a + g)).toInt + n.toInt < 2 ^ 31) : pcs (kAdd K a g n) = pcs K + n.toInt := isum_add (a := 5 * a + g) (by omega) (fun i _ hi => by rw [kAdd_ne hi]) (kAdd_toInt h1 h2)
theorem kCL_P {K : Nat → Int32} (hK : okK K) (h : okP K) : ∀ k, k ≤ tn (K 26) → (∀ j, j < 25 → 0 ≤ ((kCL K k).2 j).toInt) ∧ (∀ i, i < (kCL K k).1 → 0 ≤ ((kCL K k).2 (26 + 1 + 4 * i + 2)).toInt) ∧ pcs (kCL K k).2 + snt (kCL K k).2 (kCL K k).1 = pcs K + snt K k
  | 0, _ => ⟨h.1, fun i hi => absurd hi (Nat.not_lt_zero i), rfl⟩
  | k + 1, hk => by
    obtain ⟨i1, i2, i3⟩ := kCL_P hK h k (by omega)
    obtain ⟨p1, p2, p3⟩ := h
    have h6 := hK.2.1.2
    have hl := kCL_le K k
    have kp := kCL_keep K k (fun i hi => hK.2.2 i (by omega))
    obtain ⟨⟨-, g1⟩, -, g2⟩ := hK.2.2 k (by omega)
    have hn := p2 k (by omega)
    have hs : snt K (k + 1) = snt K k + (K (26 + 1 + 4 * k + 2)).toInt := rfl
    have hm : snt K (k + 1) ≤ snt K (tn (K 26)) := isum_mono p2 hk
    have q1 : 0 ≤ snt (kCL K k).2 (kCL K k).1 := isum_nn i2
    have q2 : 0 ≤ pcs K := isum_nn p1
    have q3 : 0 ≤ snt K k := isum_nn (fun i hi => p2 i (by omega))
    rw [kCL]
    split
    · dsimp only
      generalize hL : (kCL K k).2 = L at i1 i2 i3 kp q1
      have hx : (L (5 * tn (K (26 + 1 + 4 * k)) + tn (K (26 + 1 + 4 * k + 1)))).toInt ≤ pcs L := isum_one (f := fun j => (L j).toInt) i1 (by omega)
      have hx0 := i1 (5 * tn (K (26 + 1 + 4 * k)) + tn (K (26 + 1 + 4 * k + 1))) (by omega)
      have eP := pcs_add (K := L) (n := K (26 + 1 + 4 * k + 2)) g1 g2 (by omega) (by omega)
      have eA := kAdd_toInt (K := L) (a := tn (K (26 + 1 + 4 * k))) (g := tn (K (26 + 1 + 4 * k + 1))) (n := K (26 + 1 + 4 * k + 2)) (by omega) (by omega)
      have eS : snt (kAdd L (tn (K (26 + 1 + 4 * k))) (tn (K (26 + 1 + 4 * k + 1))) (K (26 + 1 + 4 * k + 2))) (kCL K k).1 = snt L (kCL K k).1 := isum_congr (fun i hi => by rw [kAdd_ne (by omega)])
      refine ⟨fun j hj => ?_, fun i hi => ?_, by omega⟩
      · by_cases hz : j = 5 * tn (K (26 + 1 + 4 * k)) + tn (K (26 + 1 + 4 * k + 1))
        · rw [hz, eA]
          omega
        · rw [kAdd_ne hz]
          exact i1 j hj
      · rw [kAdd_ne (by omega)]
        exact i2 i hi
    · dsimp only
      have e1 : ∀ j, j < 27 + 4 * (kCL K k).1 → kMv (kCL K k).2 k (kCL K k).1 4 j = (kCL K k).2 j := fun j hj => by
        simp only [kMv]
        rw [if_neg (by omega)]
      have e2 : kMv (kCL K k).2 k (kCL K k).1 4 (26 + 1 + 4 * (kCL K k).1 + 2) = K (26 + 1 + 4 * k + 2) := by
        simp only [kMv]
        rw [if_pos (by omega), kp _ (by omega)]
        congr 1
        omega
      have eP : pcs (kMv (kCL K k).2 k (kCL K k).1 4) = pcs (kCL K k).2 := isum_congr (fun j hj => by rw [e1 j (by omega)])
      have eS : snt (kMv (kCL K k).2 k (kCL K k).1 4) ((kCL K k).1 + 1) = snt (kCL K k).2 (kCL K k).1 + (K (26 + 1 + 4 * k + 2)).toInt := by
        unfold snt
        rw [isum, e2]
        congr 1
        exact isum_congr (fun i hi => by rw [e1 _ (by omega)])
      refine ⟨fun j hj => by rw [e1 j (by omega)]; exact i1 j hj, fun i hi => ?_, by omega⟩
      by_cases hz : i = (kCL K k).1
      · rw [hz, e2]
        exact hn
      · rw [e1 _ (by omega)]
        exact i2 i (by omega)
theorem okP_come {K : Nat → Int32} (hK : okK K) (h : okP K) : okP (kCome K) := by
  obtain ⟨i1, i2, i3⟩ := kCL_P hK h _ (Nat.le_refl _)
  have hl := kCL_le K (tn (K 26))
  have h6 := hK.2.1.2
  have e26 : tn (kCome K 26) = (kCL K (tn (K 26))).1 := by rw [kCome_26]; exact tn_nI (by omega)
  have e : ∀ j, j ≠ 26 → kCome K j = (kCL K (tn (K 26))).2 j := fun j hj => upd_ne _ _ hj
  have eP : pcs (kCome K) = pcs (kCL K (tn (K 26))).2 := isum_congr (fun j hj => by rw [e j (by omega)])
  have eS : snt (kCome K) (kCL K (tn (K 26))).1 = snt (kCL K (tn (K 26))).2 (kCL K (tn (K 26))).1 := isum_congr (fun j hj => by rw [e _ (by omega)])
  have := h.2.2
  refine ⟨fun j hj => by rw [e j (by omega)]; exact i1 j hj, fun k hk => ?_, by rw [e26]; omega⟩
  rw [e26] at hk
  rw [e _ (by omega)]
  exact i2 k hk
theorem okP_min {K : Nat → Int32} (hK : okK K) (h : okP K) : okP (kMin K) := okP_dec hK h (fun j hj => by rw [show kMin K j = K j from upd_ne _ _ (by omega)]; exact ⟨h.1 j hj, Int.le_refl _⟩) (fun j h1 _ => upd_ne _ _ (by omega))
theorem sub1 {x : Int32} (h : 0 < x) : (x + (-1)).toInt = x.toInt - 1 ∧ 1 ≤ x.toInt := by
  rw [Int32.lt_iff_toInt_lt] at h
  have e0 : (0 : Int32).toInt = 0 := by decide
  have e1 : (-1 : Int32).toInt = -1 := by decide
  have := x.toInt_lt
  rw [Jvm.Kit.i32_add (by omega) (by omega), e1]
  omega
theorem okP_sp {kd : Nat → Int32} {G a g : Nat} {K : Nat → Int32} (hK : okK K) (h : okP K) : okP (kSp kd G K a g) := by
  refine okP_dec hK h (fun j hj => ?_) (fun j h1 _ => kSp_ge _ _ _ _ _ (by omega))
  have := h.1 j hj
  simp only [kSp]
  split
  · rename_i hc
    have := sub1 hc.2.2.2
    omega
  · omega
theorem okP_E1 {ei eo : Nat → Int32} {i : Nat} {K : Nat → Int32} (hK : okK K) (h : okP K) (h1 : tn (ei i) < 5) (h2 : tn (eo i) < 5) : okP (kE1 ei eo i K) := by
  unfold kE1 kEat
  dsimp only
  split
  · rename_i hc
    have hs := sub1 hc
    dsimp only
    refine okP_dec hK h (fun j hj => ?_) (fun j q1 q2 => ?_)
    · have := h.1 j hj
      rw [upd_ne _ _ (by omega)]
      by_cases hz : j = 5 * tn (ei i) + tn (eo i)
      · subst hz
        unfold kAdd
        rw [upd_at]
        omega
      · rw [kAdd_ne hz]
        omega
    · rw [upd_ne _ _ (by omega)]
      exact kAdd_ne (by omega)
  · dsimp only
    refine okP_dec hK h (fun j hj => ?_) (fun j q1 q2 => upd_ne _ _ (by omega))
    have := h.1 j hj
    rw [upd_ne _ _ (by omega)]
    omega
theorem okP_EF {ei eo pa : Nat → Int32} {t : Nat} {z : Int32} {x : kT} (hK : okK x.1) (h : okP x.1) : ∀ n, okE ei eo pa n → okP (kEF ei eo pa t z x n).1
  | 0, _ => h
  | n + 1, hE => by
    have hE' : okE ei eo pa n := fun i hi => hE i (by omega)
    have ih := okP_EF (t := t) (z := z) hK h n hE'
    have ok : okK (kEF ei eo pa t z x n).1 := okK_same hK (fun j h1 h2 => kEF_mid hE' h1 h2)
    obtain ⟨e1, e2, -⟩ := hE n (by omega)
    rw [kEF]
    split
    · rw [kE1_eq]
      exact okP_E1 ok ih e1.2 e2.2
    · exact ih
/-- no oftener hungry than minutes have gone by -/
def okQ (K : Nat → Int32) : Prop := ∀ i, i < 8 → 0 ≤ (K (59 + i)).toInt ∧ (K (59 + i)).toInt ≤ tn (K 25)
theorem kEF_Q {ei eo pa : Nat → Int32} {t : Nat} {z : Int32} {x : kT} (h : ∀ i, i < 8 → 0 ≤ (x.1 (59 + i)).toInt ∧ (x.1 (59 + i)).toInt ≤ 60) : ∀ n, n ≤ 8 → okE ei eo pa n → (∀ i, n ≤ i → i < 8 → (kEF ei eo pa t z x n).1 (59 + i) = x.1 (59 + i)) ∧ ∀ i, i < n → (x.1 (59 + i)).toInt ≤ ((kEF ei eo pa t z x n).1 (59 + i)).toInt ∧ ((kEF ei eo pa t z x n).1 (59 + i)).toInt ≤ (x.1 (59 + i)).toInt + 1
  | 0, _, _ => ⟨fun _ _ _ => rfl, fun i hi => absurd hi (Nat.not_lt_zero i)⟩
  | n + 1, hn, hE => by
    obtain ⟨i1, i2⟩ := kEF_Q (t := t) (z := z) h n (by omega) (fun i hi => hE i (by omega))
    obtain ⟨e1, e2, -⟩ := hE n (by omega)
    rw [kEF]
    split
    · unfold kEat
      split
      · have ht : ∀ i, i < 8 → upd (kAdd (kEF ei eo pa t z x n).1 (tn (ei n)) (tn (eo n)) (-1)) (51 + n) (kAdd (kEF ei eo pa t z x n).1 (tn (ei n)) (tn (eo n)) (-1) (51 + n) + nI 1) (59 + i) = (kEF ei eo pa t z x n).1 (59 + i) := by
          intro i hi
          rw [upd_ne _ _ (by omega)]
          exact upd_ne _ _ (by omega)
        dsimp only
        refine ⟨fun i a b => (ht i b).trans (i1 i (by omega) b), fun i a => ?_⟩
        rw [ht i (by omega)]
        by_cases hz : i = n
        · rw [i1 i (by omega) (by omega)]
          omega
        · exact i2 i (by omega)
      · dsimp only
        refine ⟨fun i a b => (upd_ne _ _ (by omega)).trans (i1 i (by omega) b), fun i a => ?_⟩
        by_cases hz : i = n
        · subst hz
          have := h i (by omega)
          have e1 : (nI 1).toInt = 1 := nI_toInt (by decide)
          rw [upd_at, i1 i (Nat.le_refl _) (by omega), Jvm.Kit.i32_add (by omega) (by omega)]
          omega
        · rw [upd_ne _ _ (by omega)]
          exact i2 i (by omega)
    · refine ⟨fun i a b => i1 i (by omega) b, fun i a => ?_⟩
      by_cases hz : i = n
      · rw [i1 i (by omega) (by omega)]
        omega
      · exact i2 i (by omega)
def okR (K : Nat → Int32) : Prop := okK K ∧ okP K ∧ okQ K
theorem okR.h {K : Nat → Int32} (h : okR K) : okH K := fun i hi => by
  have := h.2.2 i hi
  have := h.1.1.2
  omega
theorem okR_go {kd : Nat → Int32} {G nH : Nat} {ei eo pa : Nat → Int32} {E : Nat} {z : Int32} {x : kT} (hE : okE ei eo pa E) (hE8 : E ≤ 8) (h : okR x.1) (h60 : tn (x.1 25) < 60) : okR (kGo kd G nH ei eo pa E z x).1 := by
  obtain ⟨hK, hP, hQ⟩ := h
  obtain ⟨k1, k2⟩ := okK_go (kd := kd) (G := G) (nH := nH) (z := z) hE hK h60
  obtain ⟨a1, a2⟩ := okK_min hK h60
  have b1 := (okK_come a1).1
  have c2 := okP_come a1 (okP_min hK hP)
  have hm : okK (if (tn (x.1 25) + 1) % 10 = 0 then kSp kd G (kCome (kMin x.1)) nH 0 else kCome (kMin x.1)) ∧ okP (if (tn (x.1 25) + 1) % 10 = 0 then kSp kd G (kCome (kMin x.1)) nH 0 else kCome (kMin x.1)) := by
    split
    · exact ⟨okK_same b1 (fun j h1 _ => kSp_ge _ _ _ _ _ h1), okP_sp b1 c2⟩
    · exact ⟨b1, c2⟩
  have hk : ∀ i, (if (tn (x.1 25) + 1) % 10 = 0 then kSp kd G (kCome (kMin x.1)) nH 0 else kCome (kMin x.1)) (59 + i) = x.1 (59 + i) := by
    intro i
    have e1 : kCome (kMin x.1) (59 + i) = x.1 (59 + i) := (kCome_hi a1 (by omega)).trans (upd_ne _ _ (by omega))
    show (if _ then _ else _ : Nat → Int32) (59 + i) = _
    split
    · rw [kSp_ge _ _ _ _ _ (by omega)]
      exact e1
    · exact e1
  refine ⟨k1, okP_EF (x := (_, _, _)) hm.1 hm.2 E hE, fun i hi => ?_⟩
  rw [k2, tn_nI (by omega)]
  have hq := hQ i hi
  obtain ⟨f1, f2⟩ := kEF_Q (ei := ei) (eo := eo) (pa := pa) (t := tn (x.1 25) + 1) (z := z) (x := (if (tn (x.1 25) + 1) % 10 = 0 then kSp kd G (kCome (kMin x.1)) nH 0 else kCome (kMin x.1), -4, x.2.2)) (fun j hj => by
    have := hQ j hj
    dsimp only
    rw [hk j]
    omega) E hE8 hE
  dsimp only at f1 f2
  unfold kGo
  by_cases hz : i < E
  · have := f2 i hz
    rw [hk i] at this
    omega
  · rw [f1 i (by omega) hi, hk i]
    omega
theorem okR_goN {kd : Nat → Int32} {G nH : Nat} {ei eo pa : Nat → Int32} {E : Nat} {z : Int32} {x : kT} (hE : okE ei eo pa E) (hE8 : E ≤ 8) (h : okR x.1) : ∀ n, tn (x.1 25) + n ≤ 60 → okR (kGoN kd G nH ei eo pa E z x n).1
  | 0, _ => h
  | n + 1, hn => by
    have ih := okR_goN (kd := kd) (G := G) (nH := nH) (z := z) hE hE8 h n (by omega)
    obtain ⟨-, o2⟩ := okK_goN (kd := kd) (G := G) (nH := nH) (z := z) hE h.1 n (by omega)
    rw [kGoN]
    exact okR_go hE hE8 ih (by rw [o2, tn_nI (by omega)]; omega)
theorem neg_toInt {n : Int32} (h0 : 0 ≤ n.toInt) : (-n).toInt = -n.toInt := by
  have := n.toInt_lt
  have e : (-n).toInt = (0 - n).toInt := by rw [Int32.zero_sub]
  have e0 : (0 : Int32).toInt = 0 := by decide
  rw [e, Jvm.Kit.i32_sub (by omega) (by omega), e0]
  omega
theorem okR_toss {K : Nat → Int32} {a g : Nat} {n : Int32} (h : okR K) (ha : a < 5) (hg : g < 5) (h0 : 0 ≤ n.toInt) (hn : n.toInt ≤ (K (5 * a + g)).toInt) : okR (kAdd K a g (-n)) := by
  obtain ⟨hK, hP, hQ⟩ := h
  have en := neg_toInt h0
  have hx := (okP_le hP).2 (5 * a + g) (by omega)
  have eA := kAdd_toInt (K := K) (a := a) (g := g) (n := -n) (by omega) (by omega)
  refine ⟨okK_add hK ha hg, okP_dec hK hP (fun j hj => ?_) (fun j h1 _ => kAdd_ne (by omega)), fun i hi => ?_⟩
  · have := hP.1 j hj
    by_cases hz : j = 5 * a + g
    · subst hz
      omega
    · rw [kAdd_ne hz]
      omega
  · rw [kAdd_ne (by omega), kAdd_ne (by omega)]
    exact hQ i hi
theorem okR_give {K : Nat → Int32} {d n : Int32} {fr to g : Nat} (h : okR K) (hfr : fr < 5) (hto : to < 5) (hg : g < 5) (hne : ¬ fr = to) (hw : d = 0 ∨ tn (K 26) ≤ 5) (h0 : 0 ≤ n.toInt) (hn : n.toInt ≤ (K (5 * fr + g)).toInt) : okR (kGive K d fr to g n) := by
  have hT := okR_toss h hfr hg h0 hn
  obtain ⟨hK, hP, hQ⟩ := h
  obtain ⟨k1, k2⟩ := okK_give (n := n) hK hfr hto hg hw
  have en := neg_toInt h0
  have hx := (okP_le hP).2 (5 * fr + g) (by omega)
  have eP := pcs_add (K := K) (n := -n) hfr hg (by omega) (by omega)
  obtain ⟨hTK, hTP, -⟩ := hT
  have e26 : kAdd K fr g (-n) 26 = K 26 := kAdd_ne (by omega)
  have h6 := hK.2.1.2
  have eS : snt (kAdd K fr g (-n)) (tn (K 26)) = snt K (tn (K 26)) := isum_congr (fun i hi => by rw [kAdd_ne (by omega)])
  have hP3 := hP.2.2
  have s0 : 0 ≤ snt K (tn (K 26)) := isum_nn hP.2.1
  have p0 : 0 ≤ pcs K := isum_nn hP.1
  refine ⟨k1, ?_, fun i hi => ?_⟩
  · unfold kGive
    split
    · have q0 := hTP.1 (5 * to + g) (by omega)
      have qx := (okP_le hTP).2 (5 * to + g) (by omega)
      have hx0 : n.toInt ≤ 1000 := by omega
      have eA := kAdd_toInt (K := kAdd K fr g (-n)) (a := to) (g := g) (n := n) (by omega) (by omega)
      have eP2 := pcs_add (K := kAdd K fr g (-n)) (n := n) hto hg (by omega) (by omega)
      have f26 : kAdd (kAdd K fr g (-n)) to g n 26 = K 26 := (kAdd_ne (by omega)).trans e26
      have eS2 : snt (kAdd (kAdd K fr g (-n)) to g n) (tn (K 26)) = snt K (tn (K 26)) := (isum_congr (fun i hi => by rw [kAdd_ne (by omega)])).trans eS
      refine ⟨fun j hj => ?_, fun k hk => ?_, by rw [f26]; omega⟩
      · by_cases hz : j = 5 * to + g
        · subst hz
          omega
        · rw [kAdd_ne hz]
          exact hTP.1 j hj
      · rw [f26] at hk
        rw [kAdd_ne (by omega), kAdd_ne (by omega)]
        exact hP.2.1 k hk
    · rename_i hd
      have h5 : tn (K 26) ≤ 5 := hw.resolve_left hd
      have eM : tn (K 26 + nI 1) = tn (K 26) + 1 := by
        rw [hK.2.1.1, nI_add, tn_nI (by omega), tn_nI (by omega)]
      generalize hJ : upd (upd (upd (upd (upd (kAdd K fr g (-n)) (26 + 1 + 4 * tn (K 26)) (nI to)) (26 + 1 + 4 * tn (K 26) + 1) (nI g)) (26 + 1 + 4 * tn (K 26) + 2) n) (26 + 1 + 4 * tn (K 26) + 3) (K 25 + d)) 26 (K 26 + nI 1) = J
      have f26 : J 26 = K 26 + nI 1 := by rw [← hJ, upd_at]
      have fn : J (26 + 1 + 4 * tn (K 26) + 2) = n := by rw [← hJ, upd_ne _ _ (by omega), upd_ne _ _ (by omega), upd_at]
      have fo : ∀ j, j ≠ 26 → j < 27 + 4 * tn (K 26) → J j = kAdd K fr g (-n) j := by
        intro j h1 h2
        rw [← hJ, upd_ne _ _ h1, upd_ne _ _ (by omega), upd_ne _ _ (by omega), upd_ne _ _ (by omega), upd_ne _ _ (by omega)]
      have eP2 : pcs J = pcs (kAdd K fr g (-n)) := isum_congr (fun j hj => by rw [fo j (by omega) (by omega)])
      have eS2 : snt J (tn (K 26) + 1) = snt K (tn (K 26)) + n.toInt := by
        unfold snt
        rw [isum, fn]
        congr 1
        exact isum_congr (fun i hi => by rw [fo _ (by omega) (by omega), kAdd_ne (by omega)])
      refine ⟨fun j hj => by rw [fo j (by omega) (by omega)]; exact hTP.1 j hj, fun k hk => ?_, by rw [f26, eM]; omega⟩
      rw [f26, eM] at hk
      by_cases hz : k = tn (K 26)
      · rw [hz, fn]
        exact h0
      · rw [fo _ (by omega) (by omega), kAdd_ne (by omega)]
        exact hP.2.1 k (by omega)
  · rw [k2]
    have : kGive K d fr to g n (59 + i) = K (59 + i) := by
      unfold kGive
      split
      · rw [kAdd_ne (by omega), kAdd_ne (by omega)]
      · rw [upd_ne _ _ (by omega), upd_ne _ _ (by omega), upd_ne _ _ (by omega), upd_ne _ _ (by omega), upd_ne _ _ (by omega), kAdd_ne (by omega)]
    rw [this]
    exact hQ i hi
