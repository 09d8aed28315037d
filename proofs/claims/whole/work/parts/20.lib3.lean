/-! own rows: arrays and objects made, final fields, over blocks -/
section XNEW
variable {p : Program} {l : Launch} {e : Env} {R : Room} {s : State} {m : MethodId} {args : Array Value} {below : List Frame} {meth : Method} {c : Code} {H : Heap} {locs : List Loc} {cells slots : Nat} {Q : State → Prop}
variable {cc : ByteArray} {pc : Nat} {ls : Array Slot} {rest : List Value} {D : va_G} {A : Nat → Prop} {H0 : Heap} {a : Nat} {tys : List (ClassId × FieldType)} {bs : List va_W}
theorem xM.re {bs' : List va_W} (hM : xM D tys bs A H0 s H locs) (h : bs.flatten = bs'.flatten) : xM D tys bs' A H0 s H locs := ⟨hM.1, by rw [← h]; exact hM.2.1, by rw [← h]; exact hM.2.2.1, hM.2.2.2⟩
/-- a row of ints made: a block of its own behind the others -/
theorem x_newi (hexec : p.tables.exec = Jvm.exec) (hb : c.code = cc) (harr : (Cond.arrayClass (newarray.typeOf .int)).before args s = true) (hM : xM D tys bs A H0 s H locs) (t0 : Nat) {cA0 : ClassId} (ht : tys[t0]? = some (cA0, .int)) {N : Nat} (hN : N < 2 ^ 20) (hcells : cells + 1 ≤ R.cells) (hslots : slots + N ≤ R.slots) (hdg : decode cc pc = .ok (.newarray .int, 2))
    (kk : ∀ (q : Nat) (H1 : Heap), xM D tys (bs ++ [[(q, .inl (cA0, N, .inl (fun _ => nI 0)))]]) A H0 s H1 locs → W p l e R s m args below meth c H1 locs (cells + 1) (slots + N) Q (F0 m (pc + 2) ls (.ref q :: rest))) : W p l e R s m args below meth c H locs cells slots Q (F0 m pc ls (.int (nI N) :: rest)) := by
  refine va_newa (a0 := (N, .inl (fun _ => nI 0))) (N' := N) hexec hb harr rfl hM.1 hM.2.1 hM.2.2.1 hM.2.2.2.1 hM.2.2.2.2.1 (fun cA => rfl) (nI_pos (by omega)) (nI_clamp (by omega)) (by show N * 4 ≤ 536870912; omega) hcells hslots hdg (fun q cA H1 hK hP hD hS => ?_)
  have e1 : va_RA s cA .int := (hK.2 tys.length (cA, .int) (by rw [List.getElem?_append_right (Nat.le_refl _), Nat.sub_self]; rfl)).2
  have e2 : va_RA s cA0 .int := (hM.1.2 t0 (cA0, .int) ht).2
  have e3 : cA = cA0 := Option.some.inj (e1.symm.trans e2)
  subst e3
  have ef : ∀ x : Nat × va_E, bs.flatten ++ [x] = (bs ++ [[x]]).flatten := by
    intro x
    rw [List.flatten_append]
    rfl
  rw [ef] at hP hD
  exact kk q H1 ⟨hM.1, hP, hD, hS, hM.2.2.2.2⟩
theorem x_putF (hexec : p.tables.exec = Jvm.exec) (hb : c.code = cc) {own ref C : String} {T : u_T} {N ci index : Nat} {Ts : List Cond} (hts : ∀ w ∈ Ts, w.before args s = true) (hin : ∀ w ∈ u_ws C T N, w ∈ Ts) (ty0 : Nat → FieldType) (hty : ∀ k, k < N → parseFieldDescriptor (T k).2.2.1 = some (ty0 k)) (hnm : ∀ a, a < N → ∀ b, b < N → a ≠ b → (T a).2.1 ≠ (T b).2.1) (hown : s.vm.findClass own = some m.cls) (hM : xM D tys bs A H0 s H locs) (i j : Nat) {b : va_W} {fs : List Value} (hbi : bs[i]? = some b) (he : b[j]? = some (a, .inr (ci, fs))) (hc : vwCl[ci]? = some (C, T, N)) (k : Nat) (hk : k < N) (hlink : (Cond.fieldLink own index ref (T k).2.1 (T k).2.2.1).before args s = true) (hsame : ∀ x, s.fieldFound? (T k).1 (T k).2.1 (T k).2.2.1 = some x → s.fieldFound? ref (T k).2.1 (T k).2.2.1 = some x) (hfin : (T k).2.2.2 = true) (hinit : meth.name = "<init>") (hdecl : (T k).1 = own) {ty : FieldType} {v : Value} (hd : parseFieldDescriptor (T k).2.2.1 = some ty) (hn : narrow ty v = v) (hfit : fits ty v = true) (hl : k < fs.length) (bs' : List va_W) (hbs : bs.set i (b.set j (a, .inr (ci, fs.set k v))) = bs')
    (hdg : decode cc pc = .ok (.putfield index, 3)) (kk : ∀ (H1 : Heap) (locs1 : List Loc), xM D tys bs' A H0 s H1 locs1 → W p l e R s m args below meth c H1 locs1 cells slots Q (F0 m (pc + 3) ls rest)) : W p l e R s m args below meth c H locs cells slots Q (F0 m pc ls (v :: .ref a :: rest)) := by
  obtain ⟨e1, e2⟩ := x_idx bs i j hbi he
  refine va_putF hexec hb hts hin ty0 hty hnm hown hM.1 hM.2.1 hM.2.2.1 hM.2.2.2.1 _ e1 hc k hk hlink hsame hfin hinit hdecl hd hn hfit hl hdg (fun H1 locs1 hP hD hS => ?_)
  rw [e2, hbs] at hP hD
  exact kk H1 locs1 ⟨hM.1, hP, hD, hS, hM.2.2.2.2⟩
end XNEW
