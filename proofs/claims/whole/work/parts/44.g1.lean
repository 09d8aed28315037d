/-! own words: evenings, gifts' answers, loaves, when to buy: tied -/
theorem xsum_one {f g : Nat → Int32} {a : Nat} {d : Int32} : ∀ {n : Nat}, a < n → (∀ i, i < n → i ≠ a → g i = f i) → g a = f a + d → xsum g n = xsum f n + d
  | 0, h, _, _ => by omega
  | n + 1, h, hi, hd => by
    rw [xsum, xsum]
    by_cases hz : a = n
    · subst hz
      rw [xsum_congr (n := a) (fun i h2 => hi i (by omega) (by omega)), hd, Int32.add_assoc]
    · rw [xsum_one (n := n) (by omega) (fun i h2 => hi i (by omega)) hd, hi n (by omega) (fun z => hz z.symm), Int32.add_assoc, Int32.add_comm d, ← Int32.add_assoc]
section EVEN
variable {kd : Nat → Int32} {G nH : Nat} {ei eo pa : Nat → Int32} {E : Nat} {z : Int32}
theorem kEF_cnt {t : Nat} {x : kT} : ∀ n, n ≤ 8 → okE ei eo pa n → xsum (fun i => (kEF ei eo pa t z x n).1 (59 + i)) 8 + x.2.2 = xsum (fun i => x.1 (59 + i)) 8 + (kEF ei eo pa t z x n).2.2
  | 0, _, _ => by simp only [kEF]
  | n + 1, hn, hE => by
    have ih := kEF_cnt (t := t) (x := x) n (by omega) (fun i hi => hE i (by omega))
    obtain ⟨e1, e2, -⟩ := hE n (by omega)
    rw [kEF]
    split
    · unfold kEat
      split
      · dsimp only
        refine Eq.trans (congrArg (fun v => v + x.2.2) (xsum_congr (g := fun i => (kEF ei eo pa t z x n).1 (59 + i)) (fun i hi => ?_))) ih
        rw [upd_ne _ _ (by omega), kAdd_ne (by omega)]
      · dsimp only
        have := xsum_one (f := fun i => (kEF ei eo pa t z x n).1 (59 + i)) (g := fun i => upd (kEF ei eo pa t z x n).1 (59 + n) ((kEF ei eo pa t z x n).1 (59 + n) + nI 1) (59 + i)) (a := n) (d := nI 1) (n := 8) (by omega) (fun i hi hne => upd_ne _ _ (by omega)) (upd_at _ _ _)
        rw [this, Int32.add_assoc, Int32.add_comm (nI 1), ← Int32.add_assoc, ih, Int32.add_assoc]
    · exact ih
theorem kGoN_cnt {x : kT} (hE : okE ei eo pa E) (hE8 : E ≤ 8) (hK : okK x.1) : ∀ n, tn (x.1 25) + n ≤ 60 → xsum (fun i => (kGoN kd G nH ei eo pa E z x n).1 (59 + i)) 8 + x.2.2 = xsum (fun i => x.1 (59 + i)) 8 + (kGoN kd G nH ei eo pa E z x n).2.2
  | 0, _ => by simp only [kGoN]
  | n + 1, hn => by
    have ih := kGoN_cnt hE hE8 hK n (by omega)
    obtain ⟨o1, o2⟩ := okK_goN (kd := kd) (G := G) (nH := nH) (z := z) hE hK n (by omega)
    rw [kGoN]
    generalize kGoN kd G nH ei eo pa E z x n = y at ih o1 o2
    have a1 := (okK_min o1 (by rw [o2, tn_nI (by omega)]; omega)).1
    have hk : ∀ i, (if (tn (y.1 25) + 1) % 10 = 0 then kSp kd G (kCome (kMin y.1)) nH 0 else kCome (kMin y.1)) (59 + i) = y.1 (59 + i) := by
      intro i
      have e1 : kCome (kMin y.1) (59 + i) = y.1 (59 + i) := (kCome_hi a1 (by omega)).trans (upd_ne _ _ (by omega))
      show (if _ then _ else _ : Nat → Int32) (59 + i) = _
      split
      · rw [kSp_ge _ _ _ _ _ (by omega)]
        exact e1
      · exact e1
    have c := kEF_cnt (ei := ei) (eo := eo) (pa := pa) (z := z) (t := tn (y.1 25) + 1) (x := (if (tn (y.1 25) + 1) % 10 = 0 then kSp kd G (kCome (kMin y.1)) nH 0 else kCome (kMin y.1), -4, y.2.2)) E hE8 hE
    dsimp only at c
    rw [xsum_congr (fun i _ => hk i)] at c
    unfold kGo
    have cc : ∀ (a b p d e f : Int32), a + b = p + d → p + e = f + b → a + e = f + d := by
      intro a b p d e f h1 h2
      have q1 : (a + e) + (b + p) = (f + d) + (b + p) := by
        have r1 : (a + e) + (b + p) = (a + b) + (p + e) := by ac_rfl
        have r2 : (f + d) + (b + p) = (p + d) + (f + b) := by ac_rfl
        rw [r1, r2, h1, h2]
      exact (Int32.add_left_inj _).mp q1
    exact cc _ _ _ _ _ _ c ih
theorem even_tie {N K : Nat → Int32} {w : Int32} (hE : okE ei eo pa E) (hE8 : E ≤ 8) (hA : kAgr N K) (hK : okK K) (n : Nat) (hn : tn (K 25) + n ≤ 60) : xsum (fun i => (kGoN kd G nH ei eo pa E z (N, -4, nI 0) n).1 (59 + i)) 8 - xsum (fun i => N (59 + i)) 8 = (kGoN kd G nH ei eo pa E z (K, w, nI 0) n).2.2 := by
  have hg := kGoN_agr (kd := kd) (G := G) (nH := nH) (z := z) (b := -4) (c := nI 0) (b' := w) (c' := nI 0) hE hE8 hA hK n hn
  have c := kGoN_cnt (kd := kd) (G := G) (nH := nH) (z := z) (x := (K, w, nI 0)) hE hE8 hK n hn
  dsimp only at c
  rw [nI_0, Int32.add_zero, ← nI_0] at c
  rw [xsum_congr (fun i hi => hg.hi (j := 59 + i) (by omega) (by omega)), xsum_congr (f := fun i => N (59 + i)) (fun i hi => hA.hi (j := 59 + i) (by omega) (by omega)), c, Int32.add_comm, Int32.add_sub_cancel]
end EVEN
