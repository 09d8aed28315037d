/-! own rows: loops, joins, long compares, blocks of the reference -/
abbrev TY (q : Nat → ClassId) : List (ClassId × FieldType) := [(q 0, .int), (q 1, .char), (q 2, .boolean), (q 3, .object RX1)]
section XLOOP
variable {p : Program} {l : Launch} {e : Env} {R : Room} {s : State} {m : MethodId} {args : Array Value} {below : List Frame} {meth : Method} {c : Code} {H : Heap} {locs : List Loc} {cells slots : Nat} {Q : State → Prop}
variable {cc : ByteArray} {pc : Nat} {ls : Array Slot} {rest : List Value} {D : va_G} {A : Nat → Prop} {H0 : Heap} {a : Nat} {tys : List (ClassId × FieldType)} {bs : List va_W}
theorem x_loop {ι : Type} {nL : Nat} {st : List Value} (lv : ι → List (Nat × Value)) (blk : ι → List va_W) (I : ι → Prop) (μ : ι → Nat) (i0 : ι) (hI : I i0) (hM : xM D tys (blk i0) A H0 s H locs) (hl : lv_has ls nL (lv i0))
    (step : ∀ i : ι, I i → (∀ i' : ι, μ i' < μ i → I i' → ∀ (H : Heap) (locs : List Loc), xM D tys (blk i') A H0 s H locs → ∀ ls : Array Slot, lv_has ls nL (lv i') → W p l e R s m args below meth c H locs cells slots Q (F0 m pc ls st)) →
      ∀ (H : Heap) (locs : List Loc), xM D tys (blk i) A H0 s H locs → ∀ ls : Array Slot, lv_has ls nL (lv i) → W p l e R s m args below meth c H locs cells slots Q (F0 m pc ls st)) : W p l e R s m args below meth c H locs cells slots Q (F0 m pc ls st) := by
  have key : ∀ (n : Nat) (i : ι), μ i < n → I i → ∀ (H : Heap) (locs : List Loc), xM D tys (blk i) A H0 s H locs → ∀ ls : Array Slot, lv_has ls nL (lv i) → W p l e R s m args below meth c H locs cells slots Q (F0 m pc ls st) := by
    intro n
    induction n with
    | zero => intro i h; omega
    | succ n ih => exact fun i h hi => step i hi (fun i' h' => ih i' (by omega))
  exact key (μ i0 + 1) i0 (by omega) hI H locs hM ls hl
theorem x_join {ι : Type} {nL pcJ : Nat} {st0 : List Value} {lvl : List (Nat × Value)} (lv : ι → List (Nat × Value)) (blk : ι → List va_W) (stf : ι → List Value) (I : ι → Prop) (hM : xM D tys bs A H0 s H locs) (hl : lv_has ls nL lvl)
    (after : ∀ i : ι, I i → ∀ (H : Heap) (locs : List Loc), xM D tys (blk i) A H0 s H locs → ∀ ls : Array Slot, lv_has ls nL (lv i) → W p l e R s m args below meth c H locs cells slots Q (F0 m pcJ ls (stf i)))
    (now : (∀ i : ι, I i → ∀ (H : Heap) (locs : List Loc), xM D tys (blk i) A H0 s H locs → ∀ ls : Array Slot, lv_has ls nL (lv i) → W p l e R s m args below meth c H locs cells slots Q (F0 m pcJ ls (stf i))) → ∀ (H : Heap) (locs : List Loc), xM D tys bs A H0 s H locs → ∀ ls : Array Slot, lv_has ls nL lvl → W p l e R s m args below meth c H locs cells slots Q (F0 m pc ls st0)) : W p l e R s m args below meth c H locs cells slots Q (F0 m pc ls st0) :=
  now after H locs hM ls hl
theorem x_lcmp_lt (hexec : p.tables.exec = Jvm.exec) (hb : c.code = cc) {x y : Int64} {off : Int} {tgt : Nat} (hd1 : decode cc pc = .ok (.lcmp, 1)) (hd2 : decode cc (pc + 1) = .ok (.ifCond .lt off, 3)) (ht : ((pc + 1 : Nat) : Int) + off = (tgt : Int)) (kt : x < y → W p l e R s m args below meth c H locs cells slots Q (F0 m tgt ls rest)) (kf : ¬ x < y → W p l e R s m args below meth c H locs cells slots Q (F0 m (pc + 1 + 3) ls rest)) : W p l e R s m args below meth c H locs cells slots Q (F0 m pc ls (.long y :: .long x :: rest)) := by
  refine W.lcmp hexec hb hd1 (lv_if_lt hexec hb hd2 ht (fun h => kt ?_) (fun h => kf (fun z => h ?_)))
  · simp only [lg_cmp] at h
    split at h
    · exact absurd h (by decide)
    · split at h
      · exact absurd h (by decide)
      · rename_i h1 h2
        rw [gt_iff_lt, Int64.lt_iff_toInt_lt] at h1
        rw [Int64.lt_iff_toInt_lt]
        have h3 : x.toInt ≠ y.toInt := fun z => h2 (Int64.toInt_inj.mp z)
        omega
  · simp only [lg_cmp]
    rw [Int64.lt_iff_toInt_lt] at z
    rw [if_neg (by rw [gt_iff_lt, Int64.lt_iff_toInt_lt]; omega), if_neg (fun q => by rw [q] at z; omega)]
    decide
theorem x_lcmp_gt (hexec : p.tables.exec = Jvm.exec) (hb : c.code = cc) {x y : Int64} {off : Int} {tgt : Nat} (hd1 : decode cc pc = .ok (.lcmp, 1)) (hd2 : decode cc (pc + 1) = .ok (.ifCond .gt off, 3)) (ht : ((pc + 1 : Nat) : Int) + off = (tgt : Int)) (kt : y < x → W p l e R s m args below meth c H locs cells slots Q (F0 m tgt ls rest)) (kf : ¬ y < x → W p l e R s m args below meth c H locs cells slots Q (F0 m (pc + 1 + 3) ls rest)) : W p l e R s m args below meth c H locs cells slots Q (F0 m pc ls (.long y :: .long x :: rest)) := by
  refine W.lcmp hexec hb hd1 (lv_if_gt hexec hb hd2 ht (fun h => kt ?_) (fun h => kf (fun z => h ?_)))
  · simp only [lg_cmp] at h
    split at h
    · assumption
    · split at h <;> exact absurd h (by decide)
  · simp only [lg_cmp]
    rw [if_pos z]
    decide
theorem x_lcmp_ge (hexec : p.tables.exec = Jvm.exec) (hb : c.code = cc) {x y : Int64} {off : Int} {tgt : Nat} (hd1 : decode cc pc = .ok (.lcmp, 1)) (hd2 : decode cc (pc + 1) = .ok (.ifCond .ge off, 3)) (ht : ((pc + 1 : Nat) : Int) + off = (tgt : Int)) (kt : y ≤ x → W p l e R s m args below meth c H locs cells slots Q (F0 m tgt ls rest)) (kf : ¬ y ≤ x → W p l e R s m args below meth c H locs cells slots Q (F0 m (pc + 1 + 3) ls rest)) : W p l e R s m args below meth c H locs cells slots Q (F0 m pc ls (.long y :: .long x :: rest)) := by
  refine W.lcmp hexec hb hd1 (lv_if_ge hexec hb hd2 ht (fun h => kt ?_) (fun h => kf (fun z => h ?_)))
  · simp only [lg_cmp] at h
    split at h
    · rename_i h1
      rw [gt_iff_lt, Int64.lt_iff_toInt_lt] at h1
      rw [Int64.le_iff_toInt_le]
      omega
    · split at h
      · rename_i h1 h2
        rw [h2]
        exact Int64.le_refl _
      · exact absurd h (by decide)
  · rw [Int64.le_iff_toInt_le] at z
    simp only [lg_cmp]
    by_cases h1 : y < x
    · rw [if_pos h1]; decide
    · rw [if_neg h1]
      rw [Int64.lt_iff_toInt_lt] at h1
      rw [if_pos (Int64.toInt_inj.mp (by omega))]
      decide
theorem x_lcmp_le (hexec : p.tables.exec = Jvm.exec) (hb : c.code = cc) {x y : Int64} {off : Int} {tgt : Nat} (hd1 : decode cc pc = .ok (.lcmp, 1)) (hd2 : decode cc (pc + 1) = .ok (.ifCond .le off, 3)) (ht : ((pc + 1 : Nat) : Int) + off = (tgt : Int)) (kt : x ≤ y → W p l e R s m args below meth c H locs cells slots Q (F0 m tgt ls rest)) (kf : ¬ x ≤ y → W p l e R s m args below meth c H locs cells slots Q (F0 m (pc + 1 + 3) ls rest)) : W p l e R s m args below meth c H locs cells slots Q (F0 m pc ls (.long y :: .long x :: rest)) := by
  refine W.lcmp hexec hb hd1 (lv_if_le hexec hb hd2 ht (fun h => kt ?_) (fun h => kf (fun z => h ?_)))
  · simp only [lg_cmp] at h
    split at h
    · exact absurd h (by decide)
    · rename_i h1
      rw [gt_iff_lt, Int64.lt_iff_toInt_lt] at h1
      rw [Int64.le_iff_toInt_le]
      omega
  · rw [Int64.le_iff_toInt_le] at z
    simp only [lg_cmp]
    rw [if_neg (by rw [gt_iff_lt, Int64.lt_iff_toInt_lt]; omega)]
    split <;> decide
theorem x_lcmp_eq (hexec : p.tables.exec = Jvm.exec) (hb : c.code = cc) {x y : Int64} {off : Int} {tgt : Nat} (hd1 : decode cc pc = .ok (.lcmp, 1)) (hd2 : decode cc (pc + 1) = .ok (.ifCond .eq off, 3)) (ht : ((pc + 1 : Nat) : Int) + off = (tgt : Int)) (kt : x = y → W p l e R s m args below meth c H locs cells slots Q (F0 m tgt ls rest)) (kf : ¬ x = y → W p l e R s m args below meth c H locs cells slots Q (F0 m (pc + 1 + 3) ls rest)) : W p l e R s m args below meth c H locs cells slots Q (F0 m pc ls (.long y :: .long x :: rest)) := by
  refine W.lcmp hexec hb hd1 (lv_if_eq hexec hb hd2 ht (fun h => kt ?_) (fun h => kf (fun z => h ?_)))
  · simp only [lg_cmp] at h
    split at h
    · exact absurd h (by decide)
    · split at h
      · assumption
      · exact absurd h (by decide)
  · subst z
    simp [lg_cmp]
theorem x_lcmp_ne (hexec : p.tables.exec = Jvm.exec) (hb : c.code = cc) {x y : Int64} {off : Int} {tgt : Nat} (hd1 : decode cc pc = .ok (.lcmp, 1)) (hd2 : decode cc (pc + 1) = .ok (.ifCond .ne off, 3)) (ht : ((pc + 1 : Nat) : Int) + off = (tgt : Int)) (kt : ¬ x = y → W p l e R s m args below meth c H locs cells slots Q (F0 m tgt ls rest)) (kf : x = y → W p l e R s m args below meth c H locs cells slots Q (F0 m (pc + 1 + 3) ls rest)) : W p l e R s m args below meth c H locs cells slots Q (F0 m pc ls (.long y :: .long x :: rest)) := by
  refine W.lcmp hexec hb hd1 (lv_if_ne hexec hb hd2 ht (fun h => kt (fun z => h ?_)) (fun h => kf ?_))
  · subst z
    simp [lg_cmp]
  · simp only [lg_cmp] at h
    split at h
    · exact absurd h (by decide)
    · split at h
      · assumption
      · exact absurd h (by decide)
theorem x_lcmpZ_lt (hexec : p.tables.exec = Jvm.exec) (hb : c.code = cc) {x y : Int64} {off a b : Int} {tgt : Nat} (ha : x.toInt = a) (hbb : y.toInt = b) (hd1 : decode cc pc = .ok (.lcmp, 1)) (hd2 : decode cc (pc + 1) = .ok (.ifCond .lt off, 3)) (ht : ((pc + 1 : Nat) : Int) + off = (tgt : Int)) (kt : a < b → W p l e R s m args below meth c H locs cells slots Q (F0 m tgt ls rest)) (kf : ¬ a < b → W p l e R s m args below meth c H locs cells slots Q (F0 m (pc + 1 + 3) ls rest)) : W p l e R s m args below meth c H locs cells slots Q (F0 m pc ls (.long y :: .long x :: rest)) := by
  subst ha hbb
  exact x_lcmp_lt hexec hb hd1 hd2 ht (fun h => kt (Int64.lt_iff_toInt_lt.mp h)) (fun h => kf (fun z => h (Int64.lt_iff_toInt_lt.mpr z)))
theorem x_lcmpZ_gt (hexec : p.tables.exec = Jvm.exec) (hb : c.code = cc) {x y : Int64} {off a b : Int} {tgt : Nat} (ha : x.toInt = a) (hbb : y.toInt = b) (hd1 : decode cc pc = .ok (.lcmp, 1)) (hd2 : decode cc (pc + 1) = .ok (.ifCond .gt off, 3)) (ht : ((pc + 1 : Nat) : Int) + off = (tgt : Int)) (kt : b < a → W p l e R s m args below meth c H locs cells slots Q (F0 m tgt ls rest)) (kf : ¬ b < a → W p l e R s m args below meth c H locs cells slots Q (F0 m (pc + 1 + 3) ls rest)) : W p l e R s m args below meth c H locs cells slots Q (F0 m pc ls (.long y :: .long x :: rest)) := by
  subst ha hbb
  exact x_lcmp_gt hexec hb hd1 hd2 ht (fun h => kt (Int64.lt_iff_toInt_lt.mp h)) (fun h => kf (fun z => h (Int64.lt_iff_toInt_lt.mpr z)))
end XLOOP
theorem x_inc (t n : Nat) : nI t + Int32.ofInt n = nI (t + n) := nI_add t n
theorem x_dec {t : Nat} (h : 0 < t) : nI t + Int32.ofInt (-1) = nI (t - 1) := sb_m1 h
theorem x_neI {x : Int32} {k : Nat} (hk : k < 2 ^ 31) (h : ¬ x = nI k) : x.toInt ≠ (k : Int) := fun z => h (Int32.toInt_inj.mp (by rw [z, nI_toInt hk]))
theorem x_lvset {ls : Array Slot} {n : Nat} {lv lv' : List (Nat × Value)} (h : lv_has ls n lv) (k : Nat) {i : Nat} {v w : Value} (hk : lv[k]? = some (i, v)) (e : v = w) (hl : lv.set k (i, w) = lv') : lv_has ls n lv' := by
  subst e
  subst hl
  have : lv.set k (i, v) = lv := by
    apply List.ext_getElem?
    intro j
    by_cases hj : k = j
    · subst hj
      rw [List.getElem?_set_self (List.getElem?_eq_some_iff.mp hk).1, hk]
    · rw [List.getElem?_set_ne hj]
  rw [this]
  exact h
theorem x_nat {x : Int32} {n : Nat} (h1 : 0 ≤ x.toInt) (h2 : x.toInt < (n : Int)) : ∃ k : Nat, k < n ∧ x = nI k := by
  have := x.toInt_lt
  refine ⟨x.toInt.toNat, by omega, Int32.toInt_inj.mp ?_⟩
  rw [nI_toInt (by omega)]
  omega
