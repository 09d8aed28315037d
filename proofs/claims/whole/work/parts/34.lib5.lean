/-! own rows: rows of small types, objects, rows of references made; what is read of a row's cell alone -/
section XNEW5
variable {p : Program} {l : Launch} {e : Env} {R : Room} {s : State} {m : MethodId} {args : Array Value} {below : List Frame} {meth : Method} {c : Code} {H : Heap} {locs : List Loc} {cells slots : Nat} {Q : State → Prop}
variable {cc : ByteArray} {pc : Nat} {ls : Array Slot} {rest : List Value} {D : va_G} {A : Nat → Prop} {H0 : Heap} {a : Nat} {tys : List (ClassId × FieldType)} {bs : List va_W}
theorem x_newc (hexec : p.tables.exec = Jvm.exec) (hb : c.code = cc) (harr : (Cond.arrayClass (newarray.typeOf .char)).before args s = true) (hM : xM D tys bs A H0 s H locs) (t0 : Nat) {cA0 : ClassId} (ht : tys[t0]? = some (cA0, .char)) {N : Nat} (hN : N < 2 ^ 20) (hcells : cells + 1 ≤ R.cells) (hslots : slots + N ≤ R.slots) (hdg : decode cc pc = .ok (.newarray .char, 2))
    (kk : ∀ (q : Nat) (H1 : Heap), xM D tys (bs ++ [[(q, .inl (cA0, N, .inl (fun _ => nI 0)))]]) A H0 s H1 locs → W p l e R s m args below meth c H1 locs (cells + 1) (slots + N) Q (F0 m (pc + 2) ls (.ref q :: rest))) : W p l e R s m args below meth c H locs cells slots Q (F0 m pc ls (.int (nI N) :: rest)) := by
  refine va_newa (atype := .char) (a0 := (N, .inl (fun _ => nI 0))) (N' := N) hexec hb harr rfl hM.1 hM.2.1 hM.2.2.1 hM.2.2.2.1 hM.2.2.2.2.1 (fun cA => rfl) (nI_pos (by omega)) (nI_clamp (by omega)) (by show N * 2 ≤ 536870912; omega) hcells hslots hdg (fun q cA H1 hK hP hD hS => ?_)
  have e1 : va_RA s cA .char := (hK.2 tys.length (cA, .char) (by rw [List.getElem?_append_right (Nat.le_refl _), Nat.sub_self]; rfl)).2
  have e2 : va_RA s cA0 .char := (hM.1.2 t0 (cA0, .char) ht).2
  have e3 : cA = cA0 := Option.some.inj (e1.symm.trans e2)
  subst e3
  have ef : ∀ x : Nat × va_E, bs.flatten ++ [x] = (bs ++ [[x]]).flatten := by
    intro x
    rw [List.flatten_append]
    rfl
  rw [ef] at hP hD
  exact kk q H1 ⟨hM.1, hP, hD, hS, hM.2.2.2.2⟩
theorem x_newz (hexec : p.tables.exec = Jvm.exec) (hb : c.code = cc) (harr : (Cond.arrayClass (newarray.typeOf .boolean)).before args s = true) (hM : xM D tys bs A H0 s H locs) (t0 : Nat) {cA0 : ClassId} (ht : tys[t0]? = some (cA0, .boolean)) {N : Nat} (hN : N < 2 ^ 20) (hcells : cells + 1 ≤ R.cells) (hslots : slots + N ≤ R.slots) (hdg : decode cc pc = .ok (.newarray .boolean, 2))
    (kk : ∀ (q : Nat) (H1 : Heap), xM D tys (bs ++ [[(q, .inl (cA0, N, .inl (fun _ => nI 0)))]]) A H0 s H1 locs → W p l e R s m args below meth c H1 locs (cells + 1) (slots + N) Q (F0 m (pc + 2) ls (.ref q :: rest))) : W p l e R s m args below meth c H locs cells slots Q (F0 m pc ls (.int (nI N) :: rest)) := by
  refine va_newa (atype := .boolean) (a0 := (N, .inl (fun _ => nI 0))) (N' := N) hexec hb harr rfl hM.1 hM.2.1 hM.2.2.1 hM.2.2.2.1 hM.2.2.2.2.1 (fun cA => rfl) (nI_pos (by omega)) (nI_clamp (by omega)) (by show N * 1 ≤ 536870912; omega) hcells hslots hdg (fun q cA H1 hK hP hD hS => ?_)
  have e1 : va_RA s cA .boolean := (hK.2 tys.length (cA, .boolean) (by rw [List.getElem?_append_right (Nat.le_refl _), Nat.sub_self]; rfl)).2
  have e2 : va_RA s cA0 .boolean := (hM.1.2 t0 (cA0, .boolean) ht).2
  have e3 : cA = cA0 := Option.some.inj (e1.symm.trans e2)
  subst e3
  have ef : ∀ x : Nat × va_E, bs.flatten ++ [x] = (bs ++ [[x]]).flatten := by
    intro x
    rw [List.flatten_append]
    rfl
  rw [ef] at hP hD
  exact kk q H1 ⟨hM.1, hP, hD, hS, hM.2.2.2.2⟩
/-- an object made: a block of its own -/
theorem x_newo (hexec : p.tables.exec = Jvm.exec) (hb : c.code = cc) {own C : String} {T : u_T} {N ci index : Nat} {Ts : List Cond} (hts : ∀ w ∈ Ts, w.before args s = true) (hin : ∀ w ∈ u_ws C T N, w ∈ Ts) (ty : Nat → FieldType) (hty : ∀ k, k < N → parseFieldDescriptor (T k).2.2.1 = some (ty k)) (hown : s.vm.findClass own = some m.cls) (hcl : (Cond.classLink own index C).before args s = true) (hinst : (Cond.instantiable C N).before args s = true) (hini : (Cond.initialized C).before args s = true)
    (hM : xM D tys bs A H0 s H locs) (hc : vwCl[ci]? = some (C, T, N)) {fs : List Value} (hfs : ∀ j, j < N → defaultValue (ty j) = vp_V fs j) (hcells : cells + 1 ≤ R.cells) (hslots : slots + N ≤ R.slots) (hdg : decode cc pc = .ok (.new index, 3))
    (kk : ∀ (q : Nat) (H1 : Heap), xM D tys (bs ++ [[(q, .inr (ci, fs))]]) A H0 s H1 locs → W p l e R s m args below meth c H1 locs (cells + 1) (slots + N) Q (F0 m (pc + 3) ls (.ref q :: rest))) : W p l e R s m args below meth c H locs cells slots Q (F0 m pc ls rest) := by
  refine va_new hexec hb hts hin ty hty hown hcl hinst hini hM.1 hM.2.1 hM.2.2.1 hM.2.2.2.1 hM.2.2.2.2.1 hc hfs hcells hslots hdg (fun q H1 hP hD hS => ?_)
  have ef : ∀ x : Nat × va_E, bs.flatten ++ [x] = (bs ++ [[x]]).flatten := by
    intro x
    rw [List.flatten_append]
    rfl
  rw [ef] at hP hD
  exact kk q H1 ⟨hM.1, hP, hD, hS, hM.2.2.2.2⟩
/-- a row of references made -/
theorem x_newr (hexec : p.tables.exec = Jvm.exec) (hb : c.code = cc) {own C : String} {index : Nat} (hown : s.vm.findClass own = some m.cls) (hclink : (Cond.classLink own index C).before args s = true) (hover : va_AO C s) (hM : xM D tys bs A H0 s H locs) (t0 : Nat) {cA0 : ClassId} (ht : tys[t0]? = some (cA0, .object C)) {N : Nat} (hN : N < 2 ^ 20) (hcells : cells + 1 ≤ R.cells) (hslots : slots + N ≤ R.slots) (hdg : decode cc pc = .ok (.anewarray index, 3))
    (kk : ∀ (q : Nat) (H1 : Heap), xM D tys (bs ++ [[(q, .inl (cA0, N, .inr (.inr (.inr (.inr (fun _ => none))))))]]) A H0 s H1 locs → W p l e R s m args below meth c H1 locs (cells + 1) (slots + N) Q (F0 m (pc + 3) ls (.ref q :: rest))) : W p l e R s m args below meth c H locs cells slots Q (F0 m pc ls (.int (nI N) :: rest)) := by
  refine va_newq hexec hb hown hclink hover hM.1 hM.2.1 hM.2.2.1 hM.2.2.2.1 hM.2.2.2.2.1 (nI_pos (by omega)) (nI_clamp (by omega)) (by omega) hcells hslots hdg (fun q cA H1 hK hP hD hS => ?_)
  obtain ⟨k1, comp, b1, b2, b3, b4⟩ := (hK.2 tys.length (cA, .object C) (by rw [List.getElem?_append_right (Nat.le_refl _), Nat.sub_self]; rfl)).2
  obtain ⟨k2, comp2, d1, d2, d3, d4⟩ := (hM.1.2 t0 (cA0, .object C) ht).2
  have e3 : cA = cA0 := Option.some.inj (b4.symm.trans d4)
  subst e3
  have ef : ∀ x : Nat × va_E, bs.flatten ++ [x] = (bs ++ [[x]]).flatten := by
    intro x
    rw [List.flatten_append]
    rfl
  rw [ef] at hP hD
  exact kk q H1 ⟨hM.1, hP, hD, hS, hM.2.2.2.2⟩
end XNEW5
def xaL (L : List Nat) : Nat → Nat := fun k => L.getD k 0
def xK0 : Nat → Int32 := fun _ => nI 0
theorem xv_K0 (o n : Nat) : xv xK0 o n = fun _ => nI 0 := by
  funext j
  unfold xv xK0
  split <;> rfl
theorem wk_new (q : Nat → ClassId) (ad : Nat → Nat) : w1 q ad 0 0 (fun _ => nI 0) (fun _ => nI 0) (fun _ => nI 0) (fun _ => nI 0) = wk q ad xK0 := by
  unfold wk
  rw [xv_K0, xv_K0, xv_K0, xv_K0]
  rfl
