/-! own words: kitchens that agree on what is told (stale gifts are not told) -/
def agr (M : Nat) (K K' : Nat → Int32) : Prop := ∀ j, j < 67 → (j < 27 ∨ 51 ≤ j ∨ j < 27 + 4 * M) → K j = K' j
def kAgr (K K' : Nat → Int32) : Prop := agr (tn (K' 26)) K K'
theorem kAgr.rfl (K : Nat → Int32) : kAgr K K := fun _ _ _ => Eq.refl _
theorem kAgr.k26 {K K' : Nat → Int32} (h : kAgr K K') : K 26 = K' 26 := h 26 (by decide) (Or.inl (by decide))
theorem kAgr.k25 {K K' : Nat → Int32} (h : kAgr K K') : K 25 = K' 25 := h 25 (by decide) (Or.inl (by decide))
theorem kAgr.pc {K K' : Nat → Int32} (h : kAgr K K') {j : Nat} (hj : j < 25) : K j = K' j := h j (by omega) (Or.inl (by omega))
theorem kAgr.hi {K K' : Nat → Int32} (h : kAgr K K') {j : Nat} (h1 : 51 ≤ j) (h2 : j < 67) : K j = K' j := h j h2 (Or.inr (Or.inl h1))
theorem kAgr.way {K K' : Nat → Int32} (h : kAgr K K') (h6 : tn (K' 26) ≤ 6) {k i : Nat} (hk : k < tn (K' 26)) (hi : i < 4) : K (26 + 1 + 4 * k + i) = K' (26 + 1 + 4 * k + i) := h _ (by omega) (Or.inr (Or.inr (by omega)))
theorem kAgr.ok {K K' : Nat → Int32} (h : kAgr K K') (hK : okK K') : okK K := by
  obtain ⟨h1, h2, h3⟩ := hK
  refine ⟨by rw [h.k25]; exact h1, by rw [h.k26]; exact h2, fun k hk => ?_⟩
  rw [h.k26] at hk
  have a0 := h.way h2.2 hk (i := 0) (by decide)
  have a1 := h.way h2.2 hk (i := 1) (by decide)
  rw [Nat.add_zero] at a0
  have := h3 k hk
  unfold okG at this ⊢
  rw [a0, a1]
  exact this
theorem agr_upd {M : Nat} {K K' : Nat → Int32} (h : agr M K K') {t : Nat} {v v' : Int32} (hv : v = v') : agr M (upd K t v) (upd K' t v') := by
  subst hv
  intro j h1 h2
  simp only [upd]
  split
  · rfl
  · exact h j h1 h2
theorem agr_le {M M' : Nat} {K K' : Nat → Int32} (h : agr M K K') (hm : M' ≤ M) : agr M' K K' := fun j h1 h2 => h j h1 (by omega)
theorem agr_add {M : Nat} {K K' : Nat → Int32} (h : agr M K K') {a g : Nat} {n : Int32} (ha : a < 5) (hg : g < 5) : agr M (kAdd K a g n) (kAdd K' a g n) := agr_upd h (by rw [h (5 * a + g) (by omega) (Or.inl (by omega))])
/-- gifts that come -/
theorem kCL_agr {K K' : Nat → Int32} (h : kAgr K K') (hK : okK K') : ∀ k, k ≤ tn (K' 26) → (kCL K k).1 = (kCL K' k).1 ∧ ∀ j, j < 67 → (j < 27 ∨ 51 ≤ j ∨ j < 27 + 4 * (kCL K' k).1 ∨ (27 + 4 * k ≤ j ∧ j < 27 + 4 * tn (K' 26))) → (kCL K k).2 j = (kCL K' k).2 j
  | 0, _ => ⟨rfl, fun j h1 h2 => h j h1 (by have e : (kCL K' 0).1 = 0 := rfl
                                            rw [e] at h2
                                            omega)⟩
  | k + 1, hk => by
    obtain ⟨i1, i2⟩ := kCL_agr h hK k (by omega)
    have h6 := hK.2.1.2
    have hl := kCL_le K' k
    have w0 := h.way h6 (k := k) (i := 0) (by omega) (by decide)
    have w1 := h.way h6 (k := k) (i := 1) (by omega) (by decide)
    have w2 := h.way h6 (k := k) (i := 2) (by omega) (by decide)
    have w3 := h.way h6 (k := k) (i := 3) (by omega) (by decide)
    rw [Nat.add_zero] at w0
    obtain ⟨⟨-, g1⟩, -, g2⟩ := hK.2.2 k (by omega)
    by_cases hc : K' (26 + 1 + 4 * k + 3) = K' 25
    · rw [kCL, kCL, if_pos (by rw [w3, h.k25]; exact hc), if_pos hc]
      refine ⟨i1, fun j h1 h2 => ?_⟩
      dsimp only at h2 ⊢
      rw [w0, w1, w2]
      have e := i2 (5 * tn (K' (26 + 1 + 4 * k)) + tn (K' (26 + 1 + 4 * k + 1))) (by omega) (Or.inl (by omega))
      unfold kAdd
      simp only [upd]
      split
      · rw [e]
      · exact i2 j h1 (by omega)
    · rw [kCL, kCL, if_neg (by rw [w3, h.k25]; exact hc), if_neg hc]
      refine ⟨by rw [i1], fun j h1 h2 => ?_⟩
      dsimp only at h2 ⊢
      rw [i1]
      simp only [kMv]
      split
      · exact i2 _ (by omega) (by omega)
      · exact i2 j h1 (by omega)
theorem kCome_agr {K K' : Nat → Int32} (h : kAgr K K') (hK : okK K') : kAgr (kCome K) (kCome K') := by
  have h6 := hK.2.1.2
  have hl := kCL_le K' (tn (K' 26))
  obtain ⟨i1, i2⟩ := kCL_agr h hK (tn (K' 26)) (Nat.le_refl _)
  have e : tn (kCome K' 26) = (kCL K' (tn (K' 26))).1 := by rw [kCome_26]; exact tn_nI (by omega)
  intro j h1 h2
  rw [e] at h2
  unfold kCome
  rw [h.k26]
  simp only [upd]
  split
  · rw [i1]
  · exact i2 j h1 (by omega)
theorem kMin_agr {K K' : Nat → Int32} (h : kAgr K K') : kAgr (kMin K) (kMin K') := by
  intro j h1 h2
  have e : kMin K' 26 = K' 26 := upd_ne _ _ (by decide)
  rw [e] at h2
  unfold kMin
  simp only [upd]
  split
  · rw [h.k25]
  · exact h j h1 h2
theorem kSp_agr {kd : Nat → Int32} {G : Nat} {K K' : Nat → Int32} {a g : Nat} (h : kAgr K K') : kAgr (kSp kd G K a g) (kSp kd G K' a g) := by
  intro j h1 h2
  rw [kSp_ge kd G K' a g (j := 26) (by decide)] at h2
  have e := h j h1 h2
  simp only [kSp]
  rw [e]
theorem kE1_agr {ei eo : Nat → Int32} {i : Nat} {K K' : Nat → Int32} {M : Nat} (h : agr M K K') (h1 : tn (ei i) < 5) (h2 : tn (eo i) < 5) (hi : i < 8) : agr M (kE1 ei eo i K) (kE1 ei eo i K') := by
  have e := h (5 * tn (ei i) + tn (eo i)) (by omega) (Or.inl (by omega))
  have ha := agr_add (n := -1) h h1 h2
  unfold kE1 kEat
  dsimp only
  simp only [e]
  split
  · exact agr_upd ha (by rw [ha (51 + i) (by omega) (Or.inr (Or.inl (by omega)))])
  · exact agr_upd h (by rw [h (59 + i) (by omega) (Or.inr (Or.inl (by omega)))])
theorem kEF_agr {ei eo pa : Nat → Int32} {t : Nat} {z : Int32} {K K' : Nat → Int32} {M : Nat} {b c b' c' : Int32} (h : agr M K K') : ∀ n, n ≤ 8 → okE ei eo pa n → agr M (kEF ei eo pa t z (K, b, c) n).1 (kEF ei eo pa t z (K', b', c') n).1
  | 0, _, _ => h
  | n + 1, hn, hE => by
    have ih := kEF_agr (t := t) (z := z) (b := b) (c := c) (b' := b') (c' := c') h n (by omega) (fun i hi => hE i (by omega))
    obtain ⟨e1, e2, -⟩ := hE n (by omega)
    rw [kEF, kEF]
    split
    · rw [kE1_eq, kE1_eq]
      exact kE1_agr ih e1.2 e2.2 (by omega)
    · exact ih
theorem kGo_agr {kd : Nat → Int32} {G nH : Nat} {ei eo pa : Nat → Int32} {E : Nat} {z : Int32} {K K' : Nat → Int32} {b c b' c' : Int32} (hE : okE ei eo pa E) (hE8 : E ≤ 8) (h : kAgr K K') (hK : okK K') (h60 : tn (K' 25) < 60) : kAgr (kGo kd G nH ei eo pa E z (K, b, c)).1 (kGo kd G nH ei eo pa E z (K', b', c')).1 := by
  have a1 := kMin_agr h
  have o1 := (okK_min hK h60).1
  have a2 := kCome_agr a1 o1
  have hm : ∀ (K : Nat → Int32) (b c : Int32), (kGo kd G nH ei eo pa E z (K, b, c)).1 26 = kCome (kMin K) 26 := by
    intro K b c
    unfold kGo
    rw [kEF_mid hE (by decide) (by decide)]
    show (if _ then _ else _ : Nat → Int32) 26 = _
    split
    · exact kSp_ge _ _ _ _ _ (by decide)
    · rfl
  unfold kAgr
  rw [hm K' b' c']
  have e25 := h.k25
  unfold kGo
  dsimp only
  simp only [e25]
  have key : agr (tn (kCome (kMin K') 26)) (if (tn (K' 25) + 1) % 10 = 0 then kSp kd G (kCome (kMin K)) nH 0 else kCome (kMin K)) (if (tn (K' 25) + 1) % 10 = 0 then kSp kd G (kCome (kMin K')) nH 0 else kCome (kMin K')) := by
    split
    · have := kSp_agr (kd := kd) (G := G) (a := nH) (g := 0) a2
      unfold kAgr at this
      rw [kSp_ge kd G (kCome (kMin K')) nH 0 (j := 26) (by decide)] at this
      exact this
    · exact a2
  exact kEF_agr key E hE8 hE
theorem kGoN_agr {kd : Nat → Int32} {G nH : Nat} {ei eo pa : Nat → Int32} {E : Nat} {z : Int32} {K K' : Nat → Int32} {b c b' c' : Int32} (hE : okE ei eo pa E) (hE8 : E ≤ 8) (h : kAgr K K') (hK : okK K') : ∀ n, tn (K' 25) + n ≤ 60 → kAgr (kGoN kd G nH ei eo pa E z (K, b, c) n).1 (kGoN kd G nH ei eo pa E z (K', b', c') n).1
  | 0, _ => h
  | n + 1, hn => by
    have ih := kGoN_agr (kd := kd) (G := G) (nH := nH) (z := z) (b := b) (c := c) (b' := b') (c' := c') hE hE8 h hK n (by omega)
    obtain ⟨o1, o2⟩ := okK_goM (kd := kd) (G := G) (nH := nH) (z := z) (w := b') (hu := c') hE hK n (by omega)
    rw [kGoN, kGoN]
    exact kGo_agr hE hE8 ih o1 (by rw [o2, tn_nI (by omega)]; omega)
theorem kW_agr {wo kd : Nat → Int32} {G : Nat} {K K' : Nat → Int32} {h : Nat} (ha : kAgr K K') (hh : h < 5) (hG : G ≤ 5) : kW wo kd G K h = kW wo kd G K' h := xsum_congr (fun g hg => by rw [ha.pc (j := 5 * h + g) (by omega)])
theorem kWA_agr {wo kd : Nat → Int32} {G nH : Nat} {K K' : Nat → Int32} (ha : kAgr K K') (hH : nH ≤ 5) (hG : G ≤ 5) : kWA wo kd G nH K = kWA wo kd G nH K' := xsum_congr (fun h hh => kW_agr ha (by omega) hG)
theorem kGive_agr {K K' : Nat → Int32} {d n : Int32} {fr to g : Nat} (h : kAgr K K') (hK : okK K') (hfr : fr < 5) (hto : to < 5) (hg : g < 5) (hw : d = 0 ∨ tn (K' 26) ≤ 5) : kAgr (kGive K d fr to g n) (kGive K' d fr to g n) := by
  have ha := agr_add (n := -n) (M := tn (K' 26)) h hfr hg
  unfold kGive
  split
  · have hb := agr_add (n := n) ha hto hg
    have e : kAdd (kAdd K' fr g (-n)) to g n 26 = K' 26 := (upd_ne _ _ (by omega)).trans (upd_ne _ _ (by omega))
    intro j h1 h2
    rw [e] at h2
    exact hb j h1 h2
  · rename_i hd
    have h5 : tn (K' 26) ≤ 5 := hw.resolve_left hd
    rw [h.k26, h.k25]
    intro j h1 h2
    rw [upd_at, hK.2.1.1, nI_add, tn_nI (by omega)] at h2
    simp only [upd]
    by_cases c6 : j = 26
    · rw [if_pos c6, if_pos c6]
    rw [if_neg c6, if_neg c6]
    by_cases c5 : j = 26 + 1 + 4 * tn (K' 26) + 3
    · rw [if_pos c5, if_pos c5]
    rw [if_neg c5, if_neg c5]
    by_cases c4 : j = 26 + 1 + 4 * tn (K' 26) + 2
    · rw [if_pos c4, if_pos c4]
    rw [if_neg c4, if_neg c4]
    by_cases c3 : j = 26 + 1 + 4 * tn (K' 26) + 1
    · rw [if_pos c3, if_pos c3]
    rw [if_neg c3, if_neg c3]
    by_cases c2 : j = 26 + 1 + 4 * tn (K' 26)
    · rw [if_pos c2, if_pos c2]
    rw [if_neg c2, if_neg c2]
    exact ha j h1 (by omega)
theorem kAdd_agr {K K' : Nat → Int32} {a g : Nat} {n : Int32} (h : kAgr K K') (ha : a < 5) (hg : g < 5) : kAgr (kAdd K a g n) (kAdd K' a g n) := by
  have e : kAdd K' a g n 26 = K' 26 := upd_ne _ _ (by omega)
  intro j h1 h2
  rw [e] at h2
  exact agr_add (M := tn (K' 26)) h ha hg j h1 h2
theorem xref_agr {K K' : Nat → Int32} {a b : Int32} {j : Nat} {n : Int32} (h : kAgr K K') (hj : j < 25) : xref K a b j n = xref K' a b j n := by
  unfold xref
  rw [h.pc hj, h.k25, h.k26]
theorem xarr_agr {K K' : Nat → Int32} {a b : Int32} {j : Nat} {n : Int32} (h : kAgr K K') (hj : j < 25) : xarr K a b j n = xarr K' a b j n := by
  unfold xarr
  rw [h.pc hj, h.k25, h.k26]
/-- gifts tried on kitchens that agree -/
theorem xgB_agr {wo kd : Nat → Int32} {G nH : Nat} {ei eo pa : Nat → Int32} {E : Nat} {sp K K' : Nat → Int32} {w0 : Int32} (hE : okE ei eo pa E) (hE8 : E ≤ 8) (h : kAgr K K') (hK : okK K') (hH : nH ≤ 5) (hG : G ≤ 5) : ∀ k, xgB wo kd G nH ei eo pa E sp K w0 k = xgB wo kd G nH ei eo pa E sp K' w0 k
  | 0 => rfl
  | k + 1 => by
    have ih := xgB_agr (wo := wo) (kd := kd) (sp := sp) (w0 := w0) hE hE8 h hK hH hG k
    have eok : xgOk sp G nH K k = xgOk sp G nH K' k := by
      apply propext
      unfold xgOk
      constructor
      · intro q
        obtain ⟨q1, q2, q3, q4, q5, q6⟩ := q
        exact ⟨q1, q2, q3, q4, q5, by rw [← xref_agr h (by omega)]; exact q6⟩
      · intro q
        obtain ⟨q1, q2, q3, q4, q5, q6⟩ := q
        exact ⟨q1, q2, q3, q4, q5, by rw [xref_agr h (by omega)]; exact q6⟩
    by_cases hok : xgOk sp G nH K' k
    · have hV : xgV wo kd G nH ei eo pa E sp K k = xgV wo kd G nH ei eo pa E sp K' k := by
        obtain ⟨q1, q2, q3, q4, q5, q6⟩ := id hok
        have hw := xref_w hK (by rw [q6]; decide)
        have hg := kGive_agr (n := nI (k % 10)) h hK (fr := k / 1000) (to := k / 100 % 10) (g := k / 10 % 10) (by omega) (by omega) (by omega) hw
        have ho := okK_give (n := nI (k % 10)) hK (fr := k / 1000) (to := k / 100 % 10) (g := k / 10 % 10) (by omega) (by omega) (by omega) hw
        unfold xgV xgK
        rw [hg.k25]
        exact kWA_agr (kGoN_agr hE hE8 hg ho.1 _ (by have := ho.1.1.2; omega)) hH hG
      rw [xgB, xgB, hV, ih]
      simp only [eok]
    · rw [xgB_0 hok, xgB_0 (by rw [eok]; exact hok)]
      exact ih
