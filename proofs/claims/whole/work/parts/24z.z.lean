/-! own words: kitchens of the class -/
def xarr (K : Nat → Int32) (a b : Int32) (j : Nat) (n : Int32) : Int32 := if K j < n ∨ K 25 = nI 60 then (-2) else if ¬ a = b ∧ K 26 = nI 6 then (-3) else K 25 + xap a b
section XARR
variable {K : Nat → Int32} {a b : Int32} {j : Nat} {n : Int32}
theorem xarr_1 (hK : okK K) (h : ¬ (tn (K 25) < 60 ∧ n ≤ K j)) : xarr K a b j n = (-2) := by
  refine if_pos ?_
  by_cases h1 : n ≤ K j
  · refine Or.inr ((xref_60 hK).mpr ?_)
    have := hK.1.2
    have : ¬ tn (K 25) < 60 := fun z => h ⟨z, h1⟩
    omega
  · exact Or.inl (Int32.not_le.mp h1)
theorem xarr_g (hK : okK K) (h : tn (K 25) < 60 ∧ n ≤ K j) : xarr K a b j n = if ¬ a = b ∧ K 26 = nI 6 then (-3) else K 25 + xap a b := by
  refine if_neg (fun z => z.elim (fun w => absurd h.2 (Int32.not_le.mpr w)) (fun w => ?_))
  have := (xref_60 hK).mp w
  omega
theorem xarr_2 (hK : okK K) (h : tn (K 25) < 60 ∧ n ≤ K j) (hx0 : (xap a b = 0) = (a = b)) (hxa : cN (xap a b) 60) (h2 : ¬ tn (xap a b) = 0) (h3 : 6 ≤ tn (K 26)) : xarr K a b j n = (-3) := by
  rw [xarr_g hK h]
  refine if_pos ⟨fun z => h2 ?_, (xref_6 hK).mpr (by have := hK.2.1.2; omega)⟩
  rw [← hx0] at z
  rw [z]
  rfl
theorem xarr_3 (hK : okK K) (h : tn (K 25) < 60 ∧ n ≤ K j) (hx0 : (xap a b = 0) = (a = b)) (hxa : cN (xap a b) 60) (h2 : tn (xap a b) = 0 ∨ tn (K 26) < 6) : xarr K a b j n = nI (tn (K 25) + tn (xap a b)) := by
  rw [xarr_g hK h, if_neg, ← nI_add, ← hK.1.1, ← hxa.1]
  intro z
  have h6 := (xref_6 hK).mp z.2
  refine z.1 (hx0.mp ?_)
  rw [hxa.1, h2.resolve_right (by omega)]
  rfl
end XARR
def xbegC (K st : Nat → Int32) : Nat → Int32 := fun j => if j < 25 then st j else if j = 25 ∨ j = 26 ∨ 51 ≤ j then nI 0 else K j
theorem kMv_self (K : Nat → Int32) (k i : Nat) : kMv K k k i = K := by
  funext j
  simp only [kMv]
  split
  · rw [Nat.add_sub_cancel]
  · rfl
/-- what spoils, good by good -/
def kSq (kd : Nat → Int32) (nH : Nat) (K : Nat → Int32) (g h : Nat) : Nat → Int32 := fun j => if j < 25 ∧ ((j % 5 < g ∧ j / 5 < nH) ∨ (j % 5 = g ∧ j / 5 < h)) ∧ kd (j % 5) = nI 3 ∧ 0 < K j then K j + (-1) else K j
section KSQ
variable {kd : Nat → Int32} {nH : Nat} {K : Nat → Int32}
theorem kS_congr {P Q : Prop} [Decidable P] [Decidable Q] {a b : Int32} (h : P ↔ Q) : (if P then a else b) = if Q then a else b := by
  by_cases hp : P
  · rw [if_pos hp, if_pos (h.mp hp)]
  · rw [if_neg hp, if_neg (fun z => hp (h.mpr z))]
theorem kSq_0 : kSq kd nH K 0 0 = K := by
  funext j
  simp only [kSq]
  rw [if_neg (by omega)]
theorem kSq_row (g : Nat) : kSq kd nH K g nH = kSq kd nH K (g + 1) 0 := by
  funext j
  simp only [kSq]
  exact kS_congr ⟨fun z => ⟨z.1, by have := z.2.1; omega, z.2.2⟩, fun z => ⟨z.1, by have := z.2.1; omega, z.2.2⟩⟩
theorem kSq_skip {g h : Nat} (hk : ¬ kd g = nI 3) : kSq kd nH K g h = kSq kd nH K (g + 1) 0 := by
  funext j
  simp only [kSq]
  refine kS_congr ⟨fun z => ⟨z.1, ?_, z.2.2⟩, fun z => ⟨z.1, ?_, z.2.2⟩⟩
  · rcases z.2.1 with w | w
    · omega
    · exact absurd (w.1 ▸ z.2.2.1) hk
  · rcases z.2.1 with w | w
    · by_cases hz : j % 5 = g
      · exact absurd (hz ▸ z.2.2.1) hk
      · omega
    · omega
theorem kSq_at (g : Nat) {h : Nat} (hg : g < 5) : kSq kd nH K g h (5 * h + g) = K (5 * h + g) := by
  simp only [kSq]
  rw [if_neg (by omega)]
theorem kSq_s1 {g h : Nat} (hg : g < 5) (hh : h < 5) (h3 : kd g = nI 3) (hp : 0 < K (5 * h + g)) : kAdd (kSq kd nH K g h) h g (-1) = kSq kd nH K g (h + 1) := by
  funext j
  unfold kAdd
  rw [kSq_at g hg]
  by_cases hj : j = 5 * h + g
  · subst hj
    rw [upd_at]
    simp only [kSq]
    rw [if_pos ⟨by omega, by omega, by rw [show (5 * h + g) % 5 = g by omega]; exact h3, hp⟩]
  · rw [upd_ne _ _ hj]
    simp only [kSq]
    exact kS_congr ⟨fun z => ⟨z.1, by have := z.2.1; omega, z.2.2⟩, fun z => ⟨z.1, by have := z.2.1; omega, z.2.2⟩⟩
theorem kSq_s0 {g h : Nat} (hg : g < 5) (hh : h < 5) (hp : ¬ 0 < K (5 * h + g)) : kSq kd nH K g h = kSq kd nH K g (h + 1) := by
  funext j
  simp only [kSq]
  refine kS_congr ⟨fun z => ⟨z.1, by have := z.2.1; omega, z.2.2⟩, fun z => ⟨z.1, ?_, z.2.2⟩⟩
  by_cases hj : j = 5 * h + g
  · exact absurd (hj ▸ z.2.2.2) hp
  · have := z.2.1
    omega
theorem kSq_end (G : Nat) : kSq kd nH K G 0 = kSp kd G K nH 0 := by
  funext j
  simp only [kSq, kSp]
  exact kS_congr ⟨fun z => ⟨z.1, by have := z.2.1; omega, z.2.2⟩, fun z => ⟨z.1, by have := z.2.1; omega, z.2.2⟩⟩
end KSQ
/-- an eater's turn, the row alone; meals one after the other -/
def kE1 (ei eo : Nat → Int32) (i : Nat) (K : Nat → Int32) : Nat → Int32 := (kEat ei eo i (K, -4, nI 0)).1
theorem kE1_eq (ei eo : Nat → Int32) (i : Nat) (x : kT) : (kEat ei eo i x).1 = kE1 ei eo i x.1 := by
  unfold kE1 kEat
  split <;> rfl
def kFd (ei eo w : Nat → Int32) (m0 : Nat) (K : Nat → Int32) : Nat → Nat → Int32
  | 0 => K
  | n + 1 => kE1 ei eo (tn (w (m0 + n))) (kFd ei eo w m0 K n)
/-- how many meals in a minute, ahead of an eater; ahead of a minute -/
def mc (pa : Nat → Int32) (z : Int32) (t : Nat) : Nat → Nat
  | 0 => 0
  | i + 1 => if xeats (pa i) i t z then mc pa z t i + 1 else mc pa z t i
def mb (pa : Nat → Int32) (z : Int32) (E : Nat) : Nat → Nat
  | 0 => 0
  | t + 1 => mb pa z E t + (if t = 0 then 0 else mc pa z t E)
def okM (b w pa : Nat → Int32) (E : Nat) (z : Int32) : Prop := (∀ t, 1 ≤ t → t ≤ 61 → b t = nI (mb pa z E t)) ∧ ∀ t, 1 ≤ t → t ≤ 60 → ∀ i, i < E → xeats (pa i) i t z → w (mb pa z E t + mc pa z t i) = nI i
section OKM
variable {pa : Nat → Int32} {z : Int32} {E : Nat}
theorem mc_le (t : Nat) : ∀ i, mc pa z t i ≤ i
  | 0 => Nat.le_refl 0
  | i + 1 => by
    have := mc_le t i
    rw [mc]
    split <;> omega
theorem mc_mono (t : Nat) {i : Nat} : ∀ j, mc pa z t i ≤ mc pa z t (i + j)
  | 0 => Nat.le_refl _
  | j + 1 => by
    have := mc_mono t (i := i) j
    rw [← Nat.add_assoc, mc]
    split <;> omega
theorem mc_mono' (t : Nat) {i j : Nat} (h : i ≤ j) : mc pa z t i ≤ mc pa z t j := by
  have := mc_mono (pa := pa) (z := z) t (i := i) (j - i)
  rw [show i + (j - i) = j by omega] at this
  exact this
theorem mb_s {t : Nat} (h : 1 ≤ t) : mb pa z E (t + 1) = mb pa z E t + mc pa z t E := by
  rw [mb, if_neg (by omega)]
theorem mb_1 : mb pa z E 1 = 0 := rfl
theorem mb_le (hE : E ≤ 8) : ∀ t, mb pa z E (t + 1) ≤ 8 * t
  | 0 => Nat.le_refl 0
  | t + 1 => by
    have := mb_le hE t
    have h2 := mc_le (pa := pa) (z := z) (t + 1) E
    rw [mb_s (by omega)]
    omega
theorem mb_mono {t : Nat} : ∀ j, mb pa z E t ≤ mb pa z E (t + j)
  | 0 => Nat.le_refl _
  | j + 1 => by
    have := mb_mono (t := t) j
    rw [← Nat.add_assoc, mb]
    omega
theorem mb_mono' {s t : Nat} (h : s ≤ t) : mb pa z E s ≤ mb pa z E t := by
  have := mb_mono (pa := pa) (z := z) (E := E) (t := s) (t - s)
  rw [show s + (t - s) = t by omega] at this
  exact this
theorem mc_ex (t m : Nat) : ∀ i, m < mc pa z t i → ∃ j, j < i ∧ xeats (pa j) j t z ∧ mc pa z t j = m
  | 0, h => absurd h (Nat.not_lt_zero m)
  | i + 1, h => by
    by_cases he : xeats (pa i) i t z
    · rw [mc, if_pos he] at h
      by_cases hm : m = mc pa z t i
      · exact ⟨i, Nat.lt_succ_self i, he, hm.symm⟩
      · obtain ⟨j, h1, h2, h3⟩ := mc_ex t m i (by omega)
        exact ⟨j, by omega, h2, h3⟩
    · rw [mc, if_neg he] at h
      obtain ⟨j, h1, h2, h3⟩ := mc_ex t m i h
      exact ⟨j, by omega, h2, h3⟩
theorem mc_lt {t i j : Nat} (he : xeats (pa j) j t z) (h : j < i) : mc pa z t j < mc pa z t i := by
  have h1 := mc_mono' (pa := pa) (z := z) t (i := j + 1) (j := i) h
  rw [mc, if_pos he] at h1
  omega
theorem okM_lt {y t j : Nat} (h1 : 1 ≤ y) (h2 : y < t) (hj : j < E) (he : xeats (pa j) j y z) : mb pa z E y + mc pa z y j < mb pa z E t := by
  have a := mc_lt he hj
  have b := mb_mono' (pa := pa) (z := z) (E := E) (s := y + 1) (t := t) h2
  rw [mb_s h1] at b
  omega
theorem okM_who {b w : Nat → Int32} (h : okM b w pa E z) {t m : Nat} (h1 : 1 ≤ t) (h2 : t ≤ 60) (hm : m < mc pa z t E) (hE : E ≤ 8) : w (mb pa z E t + m) = nI (tn (w (mb pa z E t + m))) ∧ tn (w (mb pa z E t + m)) < E := by
  obtain ⟨j, h3, h4, h5⟩ := mc_ex t m E hm
  have e := h.2 t h1 h2 j h3 h4
  rw [h5] at e
  rw [e, tn_nI (by omega)]
  exact ⟨rfl, h3⟩
theorem kFd_mc {b w ei eo K : Nat → Int32} (h : okM b w pa E z) {t : Nat} (h1 : 1 ≤ t) (h2 : t ≤ 60) (hE : E ≤ 8) (c d : Int32) : ∀ i, i ≤ E → kFd ei eo w (mb pa z E t) K (mc pa z t i) = (kEF ei eo pa t z (K, c, d) i).1
  | 0, _ => rfl
  | i + 1, hi => by
    have ih := kFd_mc (ei := ei) (eo := eo) (K := K) h h1 h2 hE c d i (by omega)
    by_cases he : xeats (pa i) i t z
    · rw [mc, if_pos he, kFd, kEF, if_pos he, kE1_eq, ih, h.2 t h1 h2 i (by omega) he, tn_nI (by omega)]
    · rw [mc, if_neg he, kEF, if_neg he]
      exact ih
end OKM
/-- the class's number of an eater's minute -/
def xnb (zc : Int32) (t i : Nat) : Int64 := if zc = (-1) then (nI t).toInt64 else xrem (xnum i t zc) 65521
/-- what stands for pace alone, or a number of draws -/
def okZ (zc z : Int32) : Prop := (zc = (-1) ∧ z = (-4)) ∨ ∃ n, n ≤ 9999 ∧ zc = nI n ∧ z = nI n
theorem xeats_c {zc z : Int32} (h : okZ zc z) {pa : Int32} {t i : Nat} (ht : t ≤ 60) (hp : pa = nI (tn pa)) (hp0 : 0 < tn pa) (hp1 : tn pa ≤ 20) : (xrem (xnb zc t i) pa.toInt64 = 0) = xeats pa i t z := by
  apply propext
  rcases h with ⟨rfl, rfl⟩ | ⟨n, hn, rfl, rfl⟩
  · have e1 : xnb (-1) t i = (nI t).toInt64 := if_pos rfl
    have ht' : (nI t).toInt64.toInt = t := by rw [Jvm.Kit.i64_of_i32, nI_toInt (by omega)]
    have hp2 : pa.toInt = tn pa := by
      have h9 := congrArg Int32.toInt hp
      rw [nI_toInt (by omega)] at h9
      exact h9
    have hp' : pa.toInt64.toInt = tn pa := by rw [Jvm.Kit.i64_of_i32, hp2]
    have e2 := xrem_toInt (x := (nI t).toInt64) (y := pa.toInt64) (by omega) (by omega) (x_ne64 hp hp0 hp1)
    have e0 : (0 : Int64).toInt = 0 := by decide
    rw [e1, ← Int64.toInt_inj, e2, ht', hp', e0]
    constructor
    · intro q
      exact Or.inl ⟨by decide, by omega⟩
    · intro q
      rcases q with q | q
      · have := q.2
        omega
      · exact absurd (show (-4 : Int32) < 0 by decide) q.1
  · have hn1 : ¬ nI n < 0 := nI_pos (by omega)
    have e1 : xnb (nI n) t i = xrem (xnum i t (nI n)) 65521 := if_neg (fun q => hn1 (by rw [q]; decide))
    rw [e1]
    exact ⟨fun q => Or.inr ⟨hn1, q⟩, fun q => q.elim (fun w => absurd w.1 hn1) (fun w => w.2)⟩
theorem xpos {x : Int32} (h : x = nI (tn x)) (h0 : 0 < tn x) (h1 : tn x ≤ 20) : ¬ x ≤ 0 := by
  have e0 : (0 : Int32).toInt = 0 := by decide
  have h9 := congrArg Int32.toInt h
  rw [nI_toInt (by omega)] at h9
  rw [Int32.le_iff_toInt_le]
  omega
theorem kEF_1 (ei eo pa : Nat → Int32) (t : Nat) (z : Int32) (a : Nat → Int32) (b c d f : Int32) : ∀ m, (kEF ei eo pa t z (a, b, c) m).1 = (kEF ei eo pa t z (a, d, f) m).1
  | 0 => rfl
  | m + 1 => by
    have ih := kEF_1 ei eo pa t z a b c d f m
    rw [kEF, kEF]
    split
    · rw [kE1_eq, kE1_eq, ih]
    · exact ih
theorem kGo_x1 {kd : Nat → Int32} {G nH : Nat} {ei eo pa : Nat → Int32} {E : Nat} {z : Int32} (x : kT) : (kGo kd G nH ei eo pa E z (x.1, -4, nI 0)).1 = (kGo kd G nH ei eo pa E z x).1 := kEF_1 _ _ _ _ _ _ _ _ _ _ _
/-- the first eater who has been hungry more often -/
def xhun (K F : Nat → Int32) : Nat → Int32
  | 0 => (-1)
  | n + 1 => if xhun K F n = (-1) then (if F (59 + n) < K (59 + n) then nI n else (-1)) else xhun K F n
theorem xhun_0 {K F : Nat → Int32} : ∀ {n : Nat}, (∀ j, j < n → ¬ F (59 + j) < K (59 + j)) → xhun K F n = (-1)
  | 0, _ => rfl
  | n + 1, h => by rw [xhun, if_pos (xhun_0 (fun j hj => h j (by omega))), if_neg (h n (by omega))]
theorem nI_ne {i : Nat} (h : i < 2 ^ 31) : ¬ nI i = (-1) := by
  intro z
  have z := congrArg Int32.toInt z
  rw [nI_toInt h] at z
  have : (-1 : Int32).toInt = -1 := by decide
  omega
theorem xhun_1 {K F : Nat → Int32} : ∀ {n i : Nat}, i < n ∧ n ≤ 8 → (∀ j, j < i → ¬ F (59 + j) < K (59 + j)) → F (59 + i) < K (59 + i) → xhun K F n = nI i
  | 0, i, h, _, _ => absurd h.1 (Nat.not_lt_zero i)
  | n + 1, i, h, h1, h2 => by
    by_cases hz : i = n
    · subst hz
      rw [xhun, if_pos (xhun_0 h1), if_pos h2]
    · have ih := xhun_1 (n := n) ⟨by omega, by omega⟩ h1 h2
      rw [xhun, ih, if_neg (nI_ne (by omega))]
