/-! own rows: chars told; own words: letters read by the class -/
section XTRET
variable {p : Program} {l : Launch} {e : Env} {R : Room} {s : State} {m : MethodId} {args : Array Value} {below : List Frame} {meth : Method} {c : Code} {H : Heap} {locs : List Loc} {cells slots : Nat} {Q : State → Prop}
variable {cc : ByteArray} {pc : Nat} {ls : Array Slot} {rest : List Value} {D : va_G} {A : Nat → Prop} {H0 : Heap} {a : Nat} {tys : List (ClassId × FieldType)} {bs : List va_W}
theorem x_tret {S : Type} {ty : FieldType} {post : Int32 → S → Prop} {wf : S → List va_W} {v : Int32} (hexec : p.tables.exec = Jvm.exec) (hb : c.code = cc) (hr : meth.sig.returnType = some ty) (hlocks : meth.locks = false) (u : S) (hM : xM D tys (wf u) A s.heap s H locs) (hn : narrow ty (.int v) = .int v) (hq : post v u) (hdg : decode cc pc = .ok (.ireturn, 1)) :
    W p l e R s m args below meth c H locs cells slots (MQ below (xQi D tys post wf A) args s cells slots A) (F0 m pc ls [.int v]) :=
  W.zret hexec hb hr hn (fun t ht hW => ⟨⟨v, u, rfl, hq, by rw [ht]; exact hM.2.1, va_K.moved hW.alike hM.1, hM.2.2.1⟩, hM.2.2.2.1.F ht⟩) hM.2.2.2.1.2.2 hdg hlocks
end XTRET
section XIT
variable {c : Int32} {S : Nat → Nat → Int32} {t : Nat → Int32}
theorem xIt_100 (h : c = nI 100) : xIt c S t = xDemR S (true, 0, t) := if_pos h
theorem xIt_101 (h : c = nI 101) : xIt c S t = xEaterR S (true, 0, t) := (if_neg (by rw [h]; decide)).trans (if_pos h)
theorem xIt_103 (h : c = nI 103) : xIt c S t = xGoodR S (true, 0, t) := (if_neg (by rw [h]; decide)).trans ((if_neg (by rw [h]; decide)).trans (if_pos h))
theorem xIt_104 (h : c = nI 104) : xIt c S t = xHouseR S (true, 0, t) := (if_neg (by rw [h]; decide)).trans ((if_neg (by rw [h]; decide)).trans ((if_neg (by rw [h]; decide)).trans (if_pos h)))
theorem xIt_107 (h : c = nI 107) : xIt c S t = xRecR S (true, 0, t) := (if_neg (by rw [h]; decide)).trans ((if_neg (by rw [h]; decide)).trans ((if_neg (by rw [h]; decide)).trans ((if_neg (by rw [h]; decide)).trans (if_pos h))))
theorem xIt_115 (h : c = nI 115) : xIt c S t = xStockR S (true, 0, t) := (if_neg (by rw [h]; decide)).trans ((if_neg (by rw [h]; decide)).trans ((if_neg (by rw [h]; decide)).trans ((if_neg (by rw [h]; decide)).trans ((if_neg (by rw [h]; decide)).trans (if_pos h)))))
theorem xIt_d (h0 : ¬ c = nI 100) (h1 : ¬ c = nI 101) (h2 : ¬ c = nI 103) (h3 : ¬ c = nI 104) (h4 : ¬ c = nI 107) (h5 : ¬ c = nI 115) : xIt c S t = (false, S, 0, t) := (if_neg h0).trans ((if_neg h1).trans ((if_neg h2).trans ((if_neg h3).trans ((if_neg h4).trans (if_neg h5)))))
theorem xnbh_d (h0 : ¬ c = nI 100) (h1 : ¬ c = nI 101) (h2 : ¬ c = nI 103) (h3 : ¬ c = nI 104) (h4 : ¬ c = nI 107) (h5 : ¬ c = nI 115) : xnbh c = 0 := (if_neg h3).trans ((if_neg (fun z => z.elim h0 h2)).trans (if_neg (fun z => z.elim h1 (fun w => w.elim h4 h5))))
theorem xIt_0 (h : xnbh c = 0) : xIt c S t = (false, S, 0, t) := by
  refine xIt_d ?_ ?_ ?_ ?_ ?_ ?_ <;> (intro z; rw [z] at h; exact absurd h (by decide))
theorem xnbh_le : xnbh c ≤ 3 := by
  unfold xnbh
  repeat' split
  all_goals omega
end XIT
theorem cN_z (n : Nat) : cN (nI 0) n := ⟨(xnI_tn (by decide)), by rw [tn_nI (by decide)]; exact Nat.zero_le _⟩
theorem xlet_cN {s : Nat → Int32} {L n : Nat} (h : ∀ j, j < L → cN (s j) n) (k : Nat) : cN (xlet s L k) n := by
  unfold xlet
  split
  · exact h k (by assumption)
  · exact cN_z n
theorem xlet_in {s : Nat → Int32} {L k : Nat} (h : k < L) : xlet s L k = s k := if_pos h
theorem xlet_out {s : Nat → Int32} {L k : Nat} (h : ¬ k < L) : xlet s L k = nI 0 := if_neg h
theorem xdg_tn {s : Nat → Int32} {L k : Nat} (h : cN (xlet s L k) 126) : xdg s L k = (48 ≤ tn (xlet s L k) ∧ tn (xlet s L k) ≤ 57) := by
  have e : (xlet s L k).toInt = tn (xlet s L k) := by
    have h9 := congrArg Int32.toInt h.1
    rw [nI_toInt (by have := h.2; omega)] at h9
    exact h9
  unfold xdg
  rw [e]
  apply propext
  omega
/-- one or two figures -/
def xrd (s : Nat → Int32) (L p : Nat) : Nat := if xdg s L p then (if xdg s L (p + 1) then 2 else 1) else 0
def xrv (s : Nat → Int32) (L p : Nat) : Nat := if xdg s L (p + 1) then 10 * (tn (xlet s L p) - 48) + tn (xlet s L (p + 1)) - 48 else tn (xlet s L p) - 48
section XRD
variable {s : Nat → Int32} {L p : Nat}
theorem xrd_0 (h : ¬ xdg s L p) : xrd s L p = 0 := if_neg h
theorem xrd_1 (h : xdg s L p) (h2 : ¬ xdg s L (p + 1)) : xrd s L p = 1 ∧ xrv s L p = tn (xlet s L p) - 48 := ⟨(if_pos h).trans (if_neg h2), if_neg h2⟩
theorem xrd_2 (h : xdg s L p) (h2 : xdg s L (p + 1)) : xrd s L p = 2 ∧ xrv s L p = 10 * (tn (xlet s L p) - 48) + tn (xlet s L (p + 1)) - 48 := ⟨(if_pos h).trans (if_pos h2), if_pos h2⟩
theorem xrv_le (hc : ∀ k, cN (xlet s L k) 126) : xrv s L p ≤ 1000 := by
  have a := (hc p).2
  have b := (hc (p + 1)).2
  unfold xrv
  split <;> omega
theorem xrd_le : xrd s L p ≤ 2 := by
  unfold xrd
  repeat' split
  all_goals omega
/-- a number and what is behind it, as the reference takes them -/
theorem xnd_rd {z : Int32} (hz : z = nI 59 ∨ z = nI 44) : ((1 ≤ xnd s L p ∧ xnd s L p ≤ 2) ∧ xlet s L (p + xnd s L p) = z) = (xdg s L p ∧ xlet s L (p + xrd s L p) = z) := by
  apply propext
  unfold xnd xrd
  by_cases h0 : xdg s L p
  · rw [if_neg (not_not_intro h0), if_pos h0]
    by_cases h1 : xdg s L (p + 1)
    · rw [if_neg (not_not_intro h1), if_pos h1]
      by_cases h2 : xdg s L (p + 2)
      · rw [if_neg (not_not_intro h2)]
        constructor
        · intro q
          omega
        · intro q
          have q2 := q.2
          unfold xdg at h2
          rw [q2] at h2
          rcases hz with rfl | rfl
          · rw [nI_toInt (by decide)] at h2
            omega
          · rw [nI_toInt (by decide)] at h2
            omega
      · rw [if_pos h2]
        exact ⟨fun q => ⟨h0, q.2⟩, fun q => ⟨⟨by omega, by omega⟩, q.2⟩⟩
    · rw [if_pos h1, if_neg h1]
      exact ⟨fun q => ⟨h0, q.2⟩, fun q => ⟨⟨by omega, by omega⟩, q.2⟩⟩
  · rw [if_pos h0]
    constructor
    · intro q
      omega
    · intro q
      exact absurd q.1 h0
theorem xval_rd (h0 : xdg s L p) (hx : 1 ≤ xnd s L p ∧ xnd s L p ≤ 2) : xnd s L p = xrd s L p ∧ xval s L p (xnd s L p) = xrv s L p := by
  by_cases h1 : xdg s L (p + 1)
  · have e1 := xrd_2 h0 h1
    have e2 : xnd s L p = 2 := by
      unfold xnd at hx ⊢
      rw [if_neg (not_not_intro h0), if_neg (not_not_intro h1)] at hx ⊢
      split at hx
      · rename_i h2
        rw [if_pos h2]
      · omega
    rw [e2, e1.1, e1.2]
    refine ⟨rfl, ?_⟩
    simp only [xval]
    rw [Nat.mul_zero, Nat.zero_add, Nat.add_zero]
  · have e1 := xrd_1 h0 h1
    have e2 : xnd s L p = 1 := by
      unfold xnd
      rw [if_neg (not_not_intro h0), if_pos h1]
    rw [e2, e1.1, e1.2]
    refine ⟨rfl, ?_⟩
    simp only [xval]
    rw [Nat.mul_zero, Nat.zero_add, Nat.add_zero]
end XRD
/-- a told item does not ask how its numbers were kept -/
theorem xIt_eq {s : Nat → Int32} {L : Nat} {S : Nat → Nat → Int32} {sp : Nat} {tt t : Nat → Int32} {n p : Nat} {u : Nat → Int32} (hn : n = xnbh (xlet s L sp)) (h : xfg s L n (sp + 1) tt n = (true, p, u)) (ht : ∀ j, j < n → t j = u j) : (xItem s L S sp tt).1 = (xIt (xlet s L sp) S t).1 ∧ (xItem s L S sp tt).2.1 = (xIt (xlet s L sp) S t).2.1 ∧ (1 ≤ n → (xItem s L S sp tt).2.2.1 = p) := by
  by_cases h100 : xlet s L sp = nI 100
  · have e : n = 2 := by rw [hn, h100]; decide
    subst e
    rw [xItem_100 h100, xIt_100 h100, h]
    have t0 := ht 0 (by decide)
    have t1 := ht 1 (by decide)
    unfold xDemR
    dsimp only
    simp only [t0, t1]
    split <;> exact ⟨rfl, rfl, fun _ => rfl⟩
  by_cases h101 : xlet s L sp = nI 101
  · have e : n = 3 := by rw [hn, h101]; decide
    subst e
    rw [xItem_101 h100 h101, xIt_101 h101, h]
    have t0 := ht 0 (by decide)
    have t1 := ht 1 (by decide)
    have t2 := ht 2 (by decide)
    unfold xEaterR
    dsimp only
    simp only [t0, t1, t2]
    split <;> exact ⟨rfl, rfl, fun _ => rfl⟩
  by_cases h103 : xlet s L sp = nI 103
  · have e : n = 2 := by rw [hn, h103]; decide
    subst e
    rw [xItem_103 h100 h101 h103, xIt_103 h103, h]
    have t0 := ht 0 (by decide)
    have t1 := ht 1 (by decide)
    unfold xGoodR
    dsimp only
    simp only [t0, t1]
    split <;> exact ⟨rfl, rfl, fun _ => rfl⟩
  by_cases h104 : xlet s L sp = nI 104
  · have e : n = 1 := by rw [hn, h104]; decide
    subst e
    rw [xItem_104 h100 h101 h103 h104, xIt_104 h104, h]
    have t0 := ht 0 (by decide)
    unfold xHouseR
    dsimp only
    simp only [t0]
    split <;> exact ⟨rfl, rfl, fun _ => rfl⟩
  by_cases h107 : xlet s L sp = nI 107
  · have e : n = 3 := by rw [hn, h107]; decide
    subst e
    rw [xItem_107 h100 h101 h103 h104 h107, xIt_107 h107, h]
    have t0 := ht 0 (by decide)
    have t1 := ht 1 (by decide)
    have t2 := ht 2 (by decide)
    unfold xRecR
    dsimp only
    simp only [t0, t1, t2]
    split <;> exact ⟨rfl, rfl, fun _ => rfl⟩
  by_cases h115 : xlet s L sp = nI 115
  · have e : n = 3 := by rw [hn, h115]; decide
    subst e
    rw [xItem_115 h100 h101 h103 h104 h107 h115, xIt_115 h115, h]
    have t0 := ht 0 (by decide)
    have t1 := ht 1 (by decide)
    have t2 := ht 2 (by decide)
    unfold xStockR
    dsimp only
    simp only [t0, t1, t2]
    split <;> exact ⟨rfl, rfl, fun _ => rfl⟩
  · rw [xItem_d h100 h101 h103 h104 h107 h115, xIt_d h100 h101 h103 h104 h107 h115]
    have e : n = 0 := by rw [hn]; exact xnbh_d h100 h101 h103 h104 h107 h115
    exact ⟨rfl, rfl, fun z => absurd z (by omega)⟩
theorem xItem_f {s : Nat → Int32} {L : Nat} {S : Nat → Nat → Int32} {sp : Nat} {tt : Nat → Int32} {n p : Nat} {u : Nat → Int32} (hn : n = xnbh (xlet s L sp)) (h : n = 0 ∨ xfg s L n (sp + 1) tt n = (false, p, u)) : (xItem s L S sp tt).1 = false ∧ (xItem s L S sp tt).2.1 = S := by
  rcases h with h | h
  · have z : ∀ v, xnbh (nI v) ≠ 0 → ¬ xlet s L sp = nI v := fun v hv q => hv (by rw [← q, ← hn, h])
    rw [xItem_d (z 100 (by decide)) (z 101 (by decide)) (z 103 (by decide)) (z 104 (by decide)) (z 107 (by decide)) (z 115 (by decide))]
    exact ⟨rfl, rfl⟩
  by_cases h100 : xlet s L sp = nI 100
  · have e : n = 2 := by rw [hn, h100]; decide
    subst e
    rw [xItem_100 h100, h]
    unfold xDemR
    rw [if_neg (fun q => absurd q.1 Bool.false_ne_true)]
    exact ⟨rfl, rfl⟩
  by_cases h101 : xlet s L sp = nI 101
  · have e : n = 3 := by rw [hn, h101]; decide
    subst e
    rw [xItem_101 h100 h101, h]
    unfold xEaterR
    rw [if_neg (fun q => absurd q.1 Bool.false_ne_true)]
    exact ⟨rfl, rfl⟩
  by_cases h103 : xlet s L sp = nI 103
  · have e : n = 2 := by rw [hn, h103]; decide
    subst e
    rw [xItem_103 h100 h101 h103, h]
    unfold xGoodR
    rw [if_neg (fun q => absurd q.1 Bool.false_ne_true)]
    exact ⟨rfl, rfl⟩
  by_cases h104 : xlet s L sp = nI 104
  · have e : n = 1 := by rw [hn, h104]; decide
    subst e
    rw [xItem_104 h100 h101 h103 h104, h]
    unfold xHouseR
    rw [if_neg (fun q => absurd q.1 Bool.false_ne_true)]
    exact ⟨rfl, rfl⟩
  by_cases h107 : xlet s L sp = nI 107
  · have e : n = 3 := by rw [hn, h107]; decide
    subst e
    rw [xItem_107 h100 h101 h103 h104 h107, h]
    unfold xRecR
    rw [if_neg (fun q => absurd q.1 Bool.false_ne_true)]
    exact ⟨rfl, rfl⟩
  by_cases h115 : xlet s L sp = nI 115
  · have e : n = 3 := by rw [hn, h115]; decide
    subst e
    rw [xItem_115 h100 h101 h103 h104 h107 h115, h]
    unfold xStockR
    rw [if_neg (fun q => absurd q.1 Bool.false_ne_true)]
    exact ⟨rfl, rfl⟩
  · rw [xItem_d h100 h101 h103 h104 h107 h115]
    exact ⟨rfl, rfl⟩
