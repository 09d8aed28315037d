/-! own words: kitchens of both sides, one for the other; those noted and kept -/
def kR (N R : Nat → Int32) : Prop := kAgr N R ∧ okR R
theorem kR_same {N R R' : Nat → Int32} (h : kR N R) (e : ∀ j, j < 67 → R' j = R j) : kR N R' := by
  obtain ⟨h1, hK, hP, hQ⟩ := h
  have e26 := e 26 (by decide)
  have e25 := e 25 (by decide)
  have h6 := hK.2.1.2
  refine ⟨fun j a c => ?_, okK_same hK (fun j _ a => e j (by omega)), okP_dec hK hP (fun j hj => ?_) (fun j _ a => e j (by omega)), fun i hi => ?_⟩
  · rw [e26] at c
    rw [e j a]
    exact h1 j a c
  · rw [e j (by omega)]
    exact ⟨hP.1 j hj, Int.le_refl _⟩
  · rw [e _ (by omega), e25]
    exact hQ i hi
theorem kR.nok {N R : Nat → Int32} (h : kR N R) : okK N := h.1.ok h.2.1
theorem isum_const {f : Nat → Int} {B : Nat} : ∀ {n : Nat}, (∀ i, i < n → f i ≤ B) → isum f n ≤ ((n * B : Nat) : Int)
  | 0, _ => by
    rw [isum, Nat.zero_mul]
    decide
  | n + 1, h => by
    have a := isum_const (n := n) (fun i hi => h i (by omega))
    have b := h n (by omega)
    rw [isum, Nat.succ_mul]
    omega
theorem kR_beg {N st st' s : Nat → Int32} (h : ∀ j, j < 25 → st' j = st j ∧ cN (st j) 40) : kR (xbegC N st') (xreg (xbeg s st 67) 0) := by
  have e : ∀ j, j < 67 → xreg (xbeg s st 67) 0 j = if 25 ≤ j then nI 0 else st j := by
    intro j hj
    unfold xreg xbeg
    rw [Nat.mul_zero, Nat.zero_add, if_pos hj]
  have e25 : xreg (xbeg s st 67) 0 25 = nI 0 := by rw [e 25 (by decide), if_pos (by decide)]
  have e26 : xreg (xbeg s st 67) 0 26 = nI 0 := by rw [e 26 (by decide), if_pos (by decide)]
  have t0 : tn (nI 0) = 0 := tn_nI (by decide)
  have lo : ∀ j, j < 25 → xreg (xbeg s st 67) 0 j = st j := fun j hj => by rw [e j (by omega), if_neg (by omega)]
  have bd' : ∀ j, j < 25 → 0 ≤ (xreg (xbeg s st 67) 0 j).toInt ∧ (xreg (xbeg s st 67) 0 j).toInt ≤ 40 := by
    intro j hj
    have c := cN_int (h j hj).2 (by decide)
    have c2 := (h j hj).2.2
    rw [lo j hj]
    omega
  refine ⟨fun j h1 h2 => ?_, ⟨by rw [e25, t0]; exact ⟨rfl, by decide⟩, by rw [e26, t0]; exact ⟨rfl, by decide⟩, fun k hk => ?_⟩, ⟨fun j hj => (bd' j hj).1, fun k hk => ?_, ?_⟩, fun i hi => ?_⟩
  · rw [e26, t0] at h2
    rw [e j h1]
    unfold xbegC
    by_cases hj : j < 25
    · rw [if_pos hj, if_neg (by omega)]
      exact (h j hj).1
    · rw [if_neg hj, if_pos (by omega), if_pos (by omega)]
  · rw [e26, t0] at hk
    omega
  · rw [e26, t0] at hk
    omega
  · rw [e26, t0]
    have a : pcs (xreg (xbeg s st 67) 0) ≤ ((25 * 40 : Nat) : Int) := isum_const (fun j hj => (bd' j hj).2)
    have b : snt (xreg (xbeg s st 67) 0) 0 = 0 := rfl
    omega
  · rw [e25, t0, e (59 + i) (by omega), if_pos (by omega)]
    decide
/-- those that can be undone; those kept -/
def kU (n : Nat) (U : Nat → Nat → Int32) (s : Nat → Int32) : Prop := ∀ i, i < n → kR (U i) (xreg s (i + 1))
def kP (n : Nat) (P : Nat → Nat → Int32) (s : Nat → Int32) : Prop := ∀ i, i < n → kR (P i) (xreg s (9 + i))
theorem xreg_spl {s K : Nat → Int32} {b : Nat} {j : Nat} (hj : j < 67) : xreg (xspl s b K) b j = K j := by
  unfold xreg
  exact xspl_at rfl hj
theorem xreg_spl_ne {s K : Nat → Int32} {b b' : Nat} (h : b' ≠ b) {j : Nat} (hj : j < 67) : xreg (xspl s b K) b' j = xreg s b' j := by
  unfold xreg
  refine xspl_out ?_
  rcases Nat.lt_or_gt_of_ne h with q | q
  · left; omega
  · right; omega
theorem kR_spl {N K s : Nat → Int32} {b : Nat} (h : kR N K) : kR N (xreg (xspl s b K) b) := kR_same h (fun _ hj => xreg_spl hj)
theorem kR_spl_ne {N K s : Nat → Int32} {b b' : Nat} (h : b' ≠ b) (hR : kR N (xreg s b')) : kR N (xreg (xspl s b K) b') := kR_same hR (fun _ hj => xreg_spl_ne h hj)
theorem kU_spl {n b : Nat} {U : Nat → Nat → Int32} {s K : Nat → Int32} (hb : b = 0 ∨ 9 ≤ b) (hn : n ≤ 8) (h : kU n U s) : kU n U (xspl s b K) := fun i hi => kR_spl_ne (by omega) (h i hi)
theorem kP_spl {n b : Nat} {P : Nat → Nat → Int32} {s K : Nat → Int32} (hb : b < 9 ∨ 11 ≤ b) (hn : n ≤ 2) (h : kP n P s) : kP n P (xspl s b K) := fun i hi => kR_spl_ne (by omega) (h i hi)
theorem xnote_hi {s : Nat → Int32} {u b j : Nat} (hu : u ≤ 8) (hb : 9 ≤ b) (hj : j < 67) : xreg (xnote s u) b j = xreg s b j := by
  unfold xnote
  split
  · rw [xreg_spl_ne (by unfold xnU; split <;> omega) hj]
    unfold xreg xsh
    rw [if_neg (by omega)]
  · rw [xreg_spl_ne (by unfold xnU; split <;> omega) hj]
theorem xnote_U {s : Nat → Int32} {u i j : Nat} (hu : u ≤ 8) (hi : i < 8) (hj : j < 67) : xreg (xnote s u) (i + 1) j = if u = 8 then (if i = 7 then xreg s 0 j else xreg s (i + 2) j) else if i = u then xreg s 0 j else xreg s (i + 1) j := by
  unfold xnote
  by_cases h8 : u = 8
  · rw [if_pos h8, if_pos h8]
    have e8 : xnU u = 8 := by unfold xnU; rw [if_pos h8]
    rw [e8]
    by_cases h7 : i = 7
    · subst h7
      rw [if_pos rfl, xreg_spl hj]
      unfold xreg xsh
      rw [if_neg (by omega)]
    · rw [if_neg h7, xreg_spl_ne (by omega) hj]
      unfold xreg xsh
      rw [if_pos (by omega)]
      congr 1
      omega
  · rw [if_neg h8, if_neg h8]
    have e8 : xnU u = u + 1 := by unfold xnU; rw [if_neg h8]
    rw [e8]
    by_cases h7 : i = u
    · subst h7
      rw [if_pos rfl, xreg_spl hj]
    · rw [if_neg h7, xreg_spl_ne (by omega) hj]
theorem note_tie {uh ph : Nat} {U P : Nat → Nat → Int32} {N N' K s : Nat → Int32} (hu : uh ≤ 8) (hp : ph ≤ 2) (hN : kR N (xreg s 0)) (hU : kU uh U s) (hP : kP ph P s) (hK : kR N' K) : xnU uh = xpH 8 uh ∧ xpH 8 uh ≤ 8 ∧ kR N' (xreg (xspl (xnote s uh) 0 K) 0) ∧ kU (xpH 8 uh) (xpK 8 uh U N) (xspl (xnote s uh) 0 K) ∧ kP ph P (xspl (xnote s uh) 0 K) := by
  have e1 : xnU uh = xpH 8 uh := by
    unfold xnU xpH
    by_cases h8 : uh = 8
    · rw [if_pos h8, if_neg (by omega)]
    · rw [if_neg h8, if_pos (by omega)]
  have e2 : xpH 8 uh ≤ 8 := by
    unfold xpH
    split <;> omega
  refine ⟨e1, e2, kR_spl hK, kU_spl (Or.inl rfl) e2 (fun i hi => ?_), kP_spl (Or.inl (by decide)) hp (fun i hi => kR_same (hP i hi) (fun j hj => xnote_hi hu (by omega) hj))⟩
  by_cases h8 : uh = 8
  · have en : xpK 8 uh U N = updR (rotK 8 U) 7 N := by unfold xpK; rw [if_neg (by omega)]
    rw [en]
    unfold updR rotK
    by_cases h7 : i = 7
    · rw [if_pos h7]
      exact kR_same hN (fun j hj => by rw [xnote_U hu (by omega) hj, if_pos h8, if_pos h7])
    · rw [if_neg h7, if_pos (by omega)]
      exact kR_same (hU (i + 1) (by omega)) (fun j hj => by rw [xnote_U hu (by omega) hj, if_pos h8, if_neg h7])
  · have en : xpK 8 uh U N = updR U uh N := by unfold xpK; rw [if_pos (by omega)]
    have eh : xpH 8 uh = uh + 1 := by unfold xpH; rw [if_pos (by omega)]
    rw [eh] at hi
    rw [en]
    unfold updR
    by_cases h7 : i = uh
    · rw [if_pos h7]
      exact kR_same hN (fun j hj => by rw [xnote_U hu (by omega) hj, if_neg h8, if_pos h7])
    · rw [if_neg h7]
      exact kR_same (hU i (by omega)) (fun j hj => by rw [xnote_U hu (by omega) hj, if_neg h8, if_neg h7])
theorem undo_tie {uh ph : Nat} {U P : Nat → Nat → Int32} {s : Nat → Int32} (hu : uh ≤ 8) (h1 : 1 ≤ uh) (hp : ph ≤ 2) (hU : kU uh U s) (hP : kP ph P s) : kR (U (uh - 1)) (xreg (xspl s 0 (xreg s uh)) 0) ∧ kU (uh - 1) U (xspl s 0 (xreg s uh)) ∧ kP ph P (xspl s 0 (xreg s uh)) := by
  refine ⟨kR_spl ?_, kU_spl (Or.inl rfl) (by omega) (fun i hi => hU i (by omega)), kP_spl (Or.inl (by decide)) hp hP⟩
  have := hU (uh - 1) (by omega)
  rw [show uh - 1 + 1 = uh by omega] at this
  exact this
theorem keep_tie {uh ph : Nat} {U P : Nat → Nat → Int32} {N s : Nat → Int32} (hu : uh ≤ 8) (hp : ph < 2) (hN : kR N (xreg s 0)) (hU : kU uh U s) (hP : kP ph P s) : kR N (xreg (xspl s (9 + ph) (xreg s 0)) 0) ∧ kU uh U (xspl s (9 + ph) (xreg s 0)) ∧ kP (ph + 1) (updR P ph N) (xspl s (9 + ph) (xreg s 0)) := by
  refine ⟨kR_spl_ne (by omega) hN, kU_spl (Or.inr (by omega)) hu hU, fun i hi => ?_⟩
  unfold updR
  by_cases hz : i = ph
  · subst hz
    rw [if_pos rfl]
    exact kR_spl hN
  · rw [if_neg hz]
    exact kR_spl_ne (by omega) (hP i (by omega))
theorem back_tie {ph : Nat} {U P : Nat → Nat → Int32} {s : Nat → Int32} (h1 : 1 ≤ ph) (hp : ph ≤ 2) (hP : kP ph P s) : kR (P (ph - 1)) (xreg (xspl s 0 (xreg s (9 + (ph - 1)))) 0) ∧ kU 0 U (xspl s 0 (xreg s (9 + (ph - 1)))) ∧ kP (ph - 1) P (xspl s 0 (xreg s (9 + (ph - 1)))) := ⟨kR_spl (hP (ph - 1) (by omega)), fun i hi => absurd hi (Nat.not_lt_zero i), kP_spl (Or.inl (by decide)) (by omega) (fun i hi => hP i (by omega))⟩
