/-! own words: what can be carried; peas -/
theorem xcs_congr {sp sv wv sv' wv' : Nat → Int32} {cc nH set : Nat} : ∀ {h : Nat}, (∀ j, j < h → sv j = sv' j ∧ wv j = wv' j) → xcs sp sv wv cc nH set h = xcs sp sv' wv' cc nH set h
  | 0, _ => rfl
  | h + 1, e => by
    rw [xcs, xcs, xcs_congr (fun j hj => e j (by omega)), (e h (by omega)).1, (e h (by omega)).2]
theorem xcl_congr {F F' : Nat → Int32} : ∀ {n : Nat}, (∀ s, s < n → F s = F' s) → xcl F n = xcl F' n
  | 0, _ => rfl
  | n + 1, e => by rw [xcl, xcl, xcl_congr (fun j hj => e j (by omega)), e n (by omega)]
theorem xcm_xcl {F : Nat → Int32} (h : (F 0).toInt < 99999) : ∀ n, xcm F (n + 1) = xcl F (n + 1)
  | 0 => by
    have e1 : (nI 2147483647).toInt = 2147483647 := nI_toInt (by decide)
    have e2 : (nI 99999).toInt = 99999 := nI_toInt (by decide)
    rw [xcm, xcm, xcl, xcl, if_pos, if_pos]
    · rw [Int32.lt_iff_toInt_lt, e2]
      exact h
    · rw [Int32.lt_iff_toInt_lt, e1]
      omega
  | n + 1 => by
    have ih := xcm_xcl h n
    rw [xcm, ih]
    rfl
theorem xwt_xwn {ei eo : Nat → Int32} {g : Nat} {d w0 : Nat → Int32} (hg : g < 5) {h : Nat} (hw : w0 h = nI 0) : ∀ n, (∀ i, i < n → (ei i = nI (tn (ei i)) ∧ tn (ei i) < 5) ∧ (eo i = nI (tn (eo i)) ∧ tn (eo i) < 5)) → xwt ei eo g d w0 n h = xwn ei eo d h g n
  | 0, _ => hw
  | n + 1, hE => by
    have ih := xwt_xwn (d := d) hg hw n (fun i hi => hE i (by omega))
    obtain ⟨⟨a1, a2⟩, b1, b2⟩ := hE n (by omega)
    have he : (eo n = nI g) = (tn (eo n) = g) := by
      apply propext
      constructor
      · intro z
        rw [z]
        exact tn_nI (by omega)
      · intro z
        rw [← z]
        exact b1
    unfold xwn at ih ⊢
    rw [xwt, xsum, ← ih]
    simp only [he, upd]
    by_cases c1 : h = tn (ei n)
    · subst c1
      rw [if_pos rfl]
      congr 1
      by_cases c2 : tn (eo n) = g
      · rw [if_pos c2, if_pos (by omega)]
      · rw [if_neg c2, if_neg (by omega)]
    · rw [if_neg c1, if_neg (by omega), nI_0, Int32.add_zero]
section PEA
variable {f f' : Nat → Int32} {v t mm : Nat}
theorem xwe_sp : ∀ j, (xwe f v t j = 0 ∧ ∀ e, 1 ≤ e → e ≤ j → ¬ (e ≤ v ∧ ¬ e = t ∧ f ((v - e) * 10 + e) = 0)) ∨ (1 ≤ xwe f v t j ∧ xwe f v t j ≤ j ∧ (xwe f v t j ≤ v ∧ ¬ xwe f v t j = t ∧ f ((v - xwe f v t j) * 10 + xwe f v t j) = 0) ∧ ∀ e, 1 ≤ e → e < xwe f v t j → ¬ (e ≤ v ∧ ¬ e = t ∧ f ((v - e) * 10 + e) = 0))
  | 0 => Or.inl ⟨rfl, fun e h1 h2 => by omega⟩
  | j + 1 => by
    rcases xwe_sp j with ⟨h0, hn⟩ | ⟨h1, h2, h3, h4⟩
    · by_cases hp : j + 1 ≤ v ∧ ¬ j + 1 = t ∧ f ((v - (j + 1)) * 10 + (j + 1)) = 0
      · have e : xwe f v t (j + 1) = j + 1 := by rw [xwe, if_pos h0, if_pos hp]
        rw [e]
        exact Or.inr ⟨by omega, by omega, hp, fun i a b => hn i a (by omega)⟩
      · refine Or.inl ⟨by rw [xwe, if_pos h0, if_neg hp], fun i a b => ?_⟩
        by_cases hz : i = j + 1
        · rw [hz]
          exact hp
        · exact hn i a (by omega)
    · have e : xwe f v t (j + 1) = xwe f v t j := by rw [xwe, if_neg (by omega)]
      rw [e]
      exact Or.inr ⟨h1, by omega, h3, h4⟩
theorem xpe_sp : ∀ j, j ≤ mm → (xpe f v t mm j = 0 ∧ ∀ e, mm - j < e → e ≤ mm → ¬ (e ≤ v ∧ ¬ e = t ∧ f (10 * (v - e) + e) = 0)) ∨ (mm - j < xpe f v t mm j ∧ xpe f v t mm j ≤ mm ∧ (xpe f v t mm j ≤ v ∧ ¬ xpe f v t mm j = t ∧ f (10 * (v - xpe f v t mm j) + xpe f v t mm j) = 0) ∧ ∀ e, mm - j < e → e < xpe f v t mm j → ¬ (e ≤ v ∧ ¬ e = t ∧ f (10 * (v - e) + e) = 0))
  | 0, _ => Or.inl ⟨rfl, fun e h1 h2 => by omega⟩
  | j + 1, hj => by
    by_cases hp : mm - j ≤ v ∧ ¬ mm - j = t ∧ f (10 * (v - (mm - j)) + (mm - j)) = 0
    · have e : xpe f v t mm (j + 1) = mm - j := by rw [xpe, if_pos hp]
      rw [e]
      exact Or.inr ⟨by omega, by omega, hp, fun i a b => by omega⟩
    · have e : xpe f v t mm (j + 1) = xpe f v t mm j := by rw [xpe, if_neg hp]
      rw [e]
      have key : ∀ i, mm - (j + 1) < i → i ≤ mm - j → ¬ (i ≤ v ∧ ¬ i = t ∧ f (10 * (v - i) + i) = 0) := by
        intro i a b
        rw [show i = mm - j by omega]
        exact hp
      rcases xpe_sp j (by omega) with ⟨h0, hn⟩ | ⟨h1, h2, h3, h4⟩
      · refine Or.inl ⟨h0, fun i a b => ?_⟩
        by_cases hz : i ≤ mm - j
        · exact key i a hz
        · exact hn i (by omega) b
      · refine Or.inr ⟨by omega, h2, h3, fun i a b => ?_⟩
        by_cases hz : i ≤ mm - j
        · exact key i a hz
        · exact h4 i (by omega) b
theorem xpe_xwe (hz : ∀ e, 1 ≤ e → e ≤ mm → e ≤ v → (f ((v - e) * 10 + e) = 0 ↔ f' (10 * (v - e) + e) = 0)) : xwe f v t mm = xpe f' v t mm mm := by
  have a := xwe_sp (f := f) (v := v) (t := t) mm
  have b := xpe_sp (f := f') (v := v) (t := t) (mm := mm) mm (Nat.le_refl _)
  rw [show mm - mm = 0 by omega] at b
  rcases a with ⟨h0, hn⟩ | ⟨h1, h2, h3, h4⟩
  · rcases b with ⟨k0, kn⟩ | ⟨k1, k2, k3, k4⟩
    · rw [h0, k0]
    · exact absurd ⟨k3.1, k3.2.1, (hz _ (by omega) k2 k3.1).mpr k3.2.2⟩ (hn _ (by omega) k2)
  · rcases b with ⟨k0, kn⟩ | ⟨k1, k2, k3, k4⟩
    · exact absurd ⟨h3.1, h3.2.1, (hz _ h1 h2 h3.1).mp h3.2.2⟩ (kn _ (by omega) h2)
    · rcases Nat.lt_trichotomy (xwe f v t mm) (xpe f' v t mm mm) with c | c | c
      · exact absurd ⟨h3.1, h3.2.1, (hz _ h1 h2 h3.1).mp h3.2.2⟩ (k4 _ (by omega) c)
      · exact c
      · exact absurd ⟨k3.1, k3.2.1, (hz _ (by omega) k2 k3.1).mpr k3.2.2⟩ (h4 _ (by omega) c)
theorem xcr_at (h9 : mm ≤ 9) : ∀ n, n ≤ mm → (∀ r c, r < v → c ≤ 9 → xcr mm v f n (r * 10 + c) = f (r * 10 + c)) ∧ ∀ c, 1 ≤ c → c ≤ n → xcr mm v f n (v * 10 + c) = zb (0 < xwe f v c mm)
  | 0, _ => ⟨fun _ _ _ _ => rfl, fun c h1 h2 => by omega⟩
  | n + 1, hn => by
    obtain ⟨i1, i2⟩ := xcr_at h9 n (by omega)
    rw [xcr]
    refine ⟨fun r c h1 h2 => ?_, fun c h1 h2 => ?_⟩
    · rw [upd_ne _ _ (by omega)]
      exact i1 r c h1 h2
    · by_cases hz : c = n + 1
      · subst hz
        rw [upd_at]
        have e : ∀ j, j ≤ mm → xwe (xcr mm v f n) v (n + 1) j = xwe f v (n + 1) j := by
          intro j hj
          induction j with
          | zero => rfl
          | succ j ih =>
            rw [xwe, xwe, ih (by omega)]
            by_cases hv : j + 1 ≤ v
            · rw [i1 (v - (j + 1)) (j + 1) (by omega) (by omega)]
            · simp only [hv, false_and]
        rw [e mm (Nat.le_refl _)]
      · rw [upd_ne _ _ (by omega)]
        exact i2 c h1 (by omega)
theorem xpr_at (h9 : mm ≤ 9) : ∀ n, n ≤ 10 → (∀ r c, r < v → c ≤ 9 → xpr mm v f n (10 * r + c) = f (10 * r + c)) ∧ ∀ c, c < n → xpr mm v f n (10 * v + c) = nI (xpe f v c mm mm)
  | 0, _ => ⟨fun _ _ _ _ => rfl, fun c h1 => by omega⟩
  | n + 1, hn => by
    obtain ⟨i1, i2⟩ := xpr_at h9 n (by omega)
    rw [xpr]
    refine ⟨fun r c h1 h2 => ?_, fun c h1 => ?_⟩
    · rw [upd_ne _ _ (by omega)]
      exact i1 r c h1 h2
    · by_cases hz : c = n
      · subst hz
        rw [upd_at]
        have e : ∀ j, j ≤ mm → xpe (xpr mm v f c) v c mm j = xpe f v c mm j := by
          intro j hj
          induction j with
          | zero => rfl
          | succ j ih =>
            rw [xpe, xpe, ih (by omega)]
            by_cases hv : mm - j ≤ v
            · rw [i1 (v - (mm - j)) (mm - j) (by omega) (by omega)]
            · simp only [hv, false_and]
        rw [e mm (Nat.le_refl _)]
      · rw [upd_ne _ _ (by omega)]
        exact i2 c (by omega)
theorem xct_xpt (h9 : mm ≤ 9) : ∀ n, ∀ r, r < n → ∀ c, 1 ≤ c → c ≤ mm → (xct mm f n (r * 10 + c) = 0 ↔ xpt mm f' n (10 * r + c) = 0)
  | 0, r, hr, _, _, _ => by omega
  | n + 1, r, hr, c, h1, h2 => by
    have ih := xct_xpt h9 n
    obtain ⟨a1, a2⟩ := xcr_at (f := xct mm f n) (v := n) h9 mm (Nat.le_refl _)
    obtain ⟨b1, b2⟩ := xpr_at (f := xpt mm f' n) (v := n) h9 10 (Nat.le_refl _)
    rw [xct, xpt]
    by_cases hz : r = n
    · subst hz
      rw [a2 c h1 h2, b2 c (by omega), ← xpe_xwe (f := xct mm f r) (fun e q1 q2 q3 => ih (r - e) (by omega) e q1 q2)]
      have hle := xwe_le (xct mm f r) r c mm
      by_cases h0 : xwe (xct mm f r) r c mm = 0
      · rw [h0]
        exact ⟨fun _ => rfl, fun _ => rfl⟩
      · refine ⟨fun q => ?_, fun q => ?_⟩
        · unfold zb at q
          rw [if_pos (by omega)] at q
          exact absurd q (by decide)
        · have e := congrArg Int32.toInt q
          rw [nI_toInt (by omega)] at e
          have e0 : (0 : Int32).toInt = 0 := by decide
          omega
    · rw [a1 r c (by omega) (by omega), b1 r c (by omega) (by omega)]
      exact ih r (by omega) c h1 h2
theorem pea_tie (h9 : mm ≤ 9) (n : Nat) : nI (xwe (xct mm f n) n 0 mm) = (xpt mm f' (n + 1)) (10 * n) := by
  obtain ⟨b1, b2⟩ := xpr_at (f := xpt mm f' n) (v := n) h9 10 (Nat.le_refl _)
  have e := b2 0 (by omega)
  rw [Nat.add_zero] at e
  rw [xpt, e, xpe_xwe (f' := xpt mm f' n) (fun e q1 q2 q3 => xct_xpt h9 n (n - e) (by omega) e q1 q2)]
end PEA
