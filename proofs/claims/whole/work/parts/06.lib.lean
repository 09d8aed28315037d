/-! own rows: worlds in blocks, rows of the machine over them -/
section XBLK
def x_off : List va_W → Nat → Nat
  | [], _ => 0
  | _ :: _, 0 => 0
  | b :: t, i + 1 => b.length + x_off t i
theorem x_idx : ∀ (bs : List va_W) (i j : Nat) {b : va_W} {x : Nat × va_E}, bs[i]? = some b → b[j]? = some x → bs.flatten[x_off bs i + j]? = some x ∧ ∀ y, bs.flatten.set (x_off bs i + j) y = (bs.set i (b.set j y)).flatten
  | [], i, j, b, x, h, _ => by simp at h
  | b0 :: t, 0, j, b, x, h, h2 => by
    have e : b0 = b := by simpa using h
    subst e
    have hl : j < b0.length := (List.getElem?_eq_some_iff.mp h2).1
    refine ⟨?_, fun y => ?_⟩
    · simp only [x_off, Nat.zero_add, List.flatten_cons]
      rw [List.getElem?_append_left hl]
      exact h2
    · simp only [x_off, Nat.zero_add, List.flatten_cons, List.set_cons_zero]
      rw [List.set_append_left _ _ hl]
  | b0 :: t, i + 1, j, b, x, h, h2 => by
    obtain ⟨e1, e2⟩ := x_idx t i j (by simpa using h) h2
    refine ⟨?_, fun y => ?_⟩
    · simp only [x_off, List.flatten_cons]
      rw [List.getElem?_append_right (by omega)]
      rw [show b0.length + x_off t i + j - b0.length = x_off t i + j by omega]
      exact e1
    · simp only [x_off, List.flatten_cons, List.set_cons_succ]
      rw [List.set_append_right _ _ (by omega), show b0.length + x_off t i + j - b0.length = x_off t i + j by omega, e2 y]
theorem x_inv : ∀ (bs : List va_W) (k : Nat) {x : Nat × va_E}, bs.flatten[k]? = some x → ∃ (i j : Nat) (b : va_W), bs[i]? = some b ∧ b[j]? = some x ∧ k = x_off bs i + j
  | [], k, x, h => by simp at h
  | b0 :: t, k, x, h => by
    rw [List.flatten_cons] at h
    by_cases hl : k < b0.length
    · rw [List.getElem?_append_left hl] at h
      exact ⟨0, k, b0, rfl, h, by simp [x_off]⟩
    · rw [List.getElem?_append_right (by omega)] at h
      obtain ⟨i, j, b, h1, h2, h3⟩ := x_inv t _ h
      exact ⟨i + 1, j, b, by simpa using h1, h2, by simp only [x_off]; omega⟩
theorem x_inj : ∀ (bs : List va_W) (i i' j j' : Nat) {b b' : va_W}, bs[i]? = some b → bs[i']? = some b' → j < b.length → j' < b'.length → x_off bs i + j = x_off bs i' + j' → i = i' ∧ j = j'
  | [], i, i', j, j', b, b', h, _, _, _, _ => by simp at h
  | b0 :: t, 0, 0, j, j', b, b', h, h', l, l', e => by
    simp only [x_off] at e
    exact ⟨rfl, by omega⟩
  | b0 :: t, 0, i' + 1, j, j', b, b', h, h', l, l', e => by
    have e0 : b0 = b := by simpa using h
    subst e0
    simp only [x_off] at e
    omega
  | b0 :: t, i + 1, 0, j, j', b, b', h, h', l, l', e => by
    have e0 : b0 = b' := by simpa using h'
    subst e0
    simp only [x_off] at e
    omega
  | b0 :: t, i + 1, i' + 1, j, j', b, b', h, h', l, l', e => by
    simp only [x_off] at e
    obtain ⟨e1, e2⟩ := x_inj t i i' j j' (by simpa using h) (by simpa using h') l l' (by omega)
    exact ⟨by omega, e2⟩
theorem x_at {bs bc : List va_W} {is : List Nat} (hC : is.map (fun i => bs[i]?) = bc.map some) {i : Nat} {b : va_W} (h : bc[i]? = some b) : ∃ k, is[i]? = some k ∧ bs[k]? = some b := by
  have h1 : (is.map (fun i => bs[i]?))[i]? = some (some b) := by rw [hC, List.getElem?_map, h]; rfl
  rw [List.getElem?_map] at h1
  cases hi : is[i]? with
  | none => rw [hi] at h1; cases h1
  | some k => rw [hi] at h1; exact ⟨k, rfl, Option.some.inj h1⟩
theorem x_psel {D : va_G} {cl : List vw_C} {H : Heap} {bs bc : List va_W} {is : List Nat} (hC : is.map (fun i => bs[i]?) = bc.map some) (h : va_P D cl bs.flatten H) : va_P D cl bc.flatten H := by
  intro k q hk
  obtain ⟨i, j, b, h1, h2, -⟩ := x_inv bc k hk
  obtain ⟨i', -, h4⟩ := x_at hC h1
  exact h _ q (x_idx bs i' j h4 h2).1
theorem x_dsel {A : Nat → Prop} {bs bc : List va_W} {is : List Nat} (hn : va_nd is = true) (hC : is.map (fun i => bs[i]?) = bc.map some) (h : va_D A bs.flatten) : va_D A bc.flatten := by
  refine ⟨fun k k' p q hk hk' hpq => ?_, fun k q hk => ?_⟩
  · obtain ⟨i, j, b, h1, h2, e1⟩ := x_inv bc k hk
    obtain ⟨i', j', b', h1', h2', e1'⟩ := x_inv bc k' hk'
    obtain ⟨n, a1, a2⟩ := x_at hC h1
    obtain ⟨n', a1', a2'⟩ := x_at hC h1'
    have e := h.1 _ _ p q (x_idx bs n j a2 h2).1 (x_idx bs n' j' a2' h2').1 hpq
    obtain ⟨e2, e3⟩ := x_inj bs n n' j j' a2 a2' (List.getElem?_eq_some_iff.mp h2).1 (List.getElem?_eq_some_iff.mp h2').1 e
    subst e2
    have := va_nd_inj is hn i i' n a1 a1'
    subst this
    subst e3
    rw [e1, e1']
  · obtain ⟨i, j, b, h1, h2, -⟩ := x_inv bc k hk
    obtain ⟨n, -, a2⟩ := x_at hC h1
    exact h.2 _ q (x_idx bs n j a2 h2).1
theorem x_apart {A : Nat → Prop} {bs bc br : List va_W} {is ir : List Nat} (hC : is.map (fun i => bs[i]?) = bc.map some) (hR : ir.map (fun i => bs[i]?) = br.map some) (hdis : ∀ i ∈ ir, i ∉ is) (h : va_D A bs.flatten) {k k' : Nat} {p q : Nat × va_E} (hk : bc.flatten[k]? = some p) (hk' : br.flatten[k']? = some q) : p.1 ≠ q.1 := by
  intro hpq
  obtain ⟨i, j, b, h1, h2, -⟩ := x_inv bc k hk
  obtain ⟨i', j', b', h1', h2', -⟩ := x_inv br k' hk'
  obtain ⟨n, a1, a2⟩ := x_at hC h1
  obtain ⟨n', a1', a2'⟩ := x_at hR h1'
  have e := h.1 _ _ p q (x_idx bs n j a2 h2).1 (x_idx bs n' j' a2' h2').1 hpq
  obtain ⟨e2, -⟩ := x_inj bs n n' j j' a2 a2' (List.getElem?_eq_some_iff.mp h2).1 (List.getElem?_eq_some_iff.mp h2').1 e
  subst e2
  exact hdis n (List.mem_of_getElem? a1') (List.mem_of_getElem? a1)
/-- calls of private methods of a nest mate: the tables' words for them -/
def xNestL : List (String × Nat × MethodName) := [(RX8, 9, yX2_init), (RX8, 18, yX7_init), (RX8, 28, yX3_init), (RX8, 38, yX1_init), (RX4, 15, yX1_init), (RX8, 57, yX0_init), (RX0, 11, yX1_init), (RX8, 64, yX6_init), (RX7, 92, yX8_within), (RX0, 120, yX8_within)]
def xNw (U : State) : Prop := ∀ q ∈ xNestL, va_Nw (.methodLinkNest q.1 q.2.1 q.2.2 "LeftAtFive") U
theorem xNw.warm {s U : State} (h : xNw s) (hW : s.WarmedH U.vm) : xNw U := fun q hq => va_Nw.warmM hW (h q hq)
theorem xNw.calling {U : State} {g : JFrame} {mk : MethodId} {a : Array Value} (h : xNw U) : xNw (U.calling g mk a) := fun q hq => va_Nw.same rfl rfl (h q hq)
/-- the method's world, in blocks -/
def xM (D : va_G) (tys : List (ClassId × FieldType)) (bs : List va_W) (A : Nat → Prop) (H0 : Heap) (s : State) (H : Heap) (locs : List Loc) : Prop :=
  va_K D vwCl tys s ∧ va_P D vwCl bs.flatten H ∧ va_D A bs.flatten ∧ va_S A H0 H locs ∧ (∀ q : Nat, H0.size ≤ q → A q) ∧ xNw s
theorem xM.sel {D : va_G} {tys : List (ClassId × FieldType)} {bs bc : List va_W} {A : Nat → Prop} {H0 : Heap} {s : State} {H : Heap} {locs : List Loc} (h : xM D tys bs A H0 s H locs) (is : List Nat) (hn : va_nd is = true) (hC : is.map (fun i => bs[i]?) = bc.map some) : xM D tys bc A H0 s H locs :=
  ⟨h.1, x_psel hC h.2.1, x_dsel hn hC h.2.2.1, h.2.2.2⟩
def xB (D : va_G) (tys : List (ClassId × FieldType)) (bs : List va_W) (A : Nat → Prop) (t : State) : Prop := va_P D vwCl bs.flatten t.heap ∧ va_K D vwCl tys t ∧ va_D A bs.flatten
def xPc (D : va_G) (tys : List (ClassId × FieldType)) (bs : List va_W) (As : List Value) (sz : Nat) : Array Value → State → Prop := va_Pc As (fun U => U.heap.size = sz ∧ va_P D vwCl bs.flatten U.heap ∧ va_K D vwCl tys U ∧ va_D (fun _ => True) bs.flatten ∧ xNw U)
/-- a method's contract -/
def xC (l : Launch) (y : MethodName) (ws : List Cond) (rm : Room) (D : va_G) (tys : List (ClassId × FieldType)) (bs : List va_W) (As : List Value) (Qf : (Nat → Prop) → Array Value → State → Outcome → State → Prop) (mc ms : Nat) : Prop :=
  ∀ sz : Nat, Met l y ws rm (xPc D tys bs As sz) (Qf (va_A bs.flatten sz)) mc ms (va_A bs.flatten sz)
def xQi {S : Type} (D : va_G) (tys : List (ClassId × FieldType)) (post : Int32 → S → Prop) (wf : S → List va_W) (A : Nat → Prop) : Array Value → State → Outcome → State → Prop := va_Qi post (fun u t => xB D tys (wf u) A t) A
def xQl {S : Type} (D : va_G) (tys : List (ClassId × FieldType)) (post : Int64 → S → Prop) (wf : S → List va_W) (A : Nat → Prop) : Array Value → State → Outcome → State → Prop := va_Ql post (fun u t => xB D tys (wf u) A t) A
def xQv {S : Type} (D : va_G) (tys : List (ClassId × FieldType)) (post : S → Prop) (wf : S → List va_W) (A : Nat → Prop) : Array Value → State → Outcome → State → Prop := va_Qv post (fun u t => xB D tys (wf u) A t) A
theorem xPc_blind {D : va_G} {tys : List (ClassId × FieldType)} {bs : List va_W} {As : List Value} {sz : Nat} : FrameBlind (xPc D tys bs As sz) := by
  intro a U g mk h
  obtain ⟨q0, q1, qP, qK, qD, qN⟩ := h
  exact ⟨q0, q1, qP, va_K.moved (u := U) (U := U.calling g mk a) (Vm.Alike.refl U.vm) qK, qD, qN.calling⟩
end XBLK
section XROW
variable {p : Program} {l : Launch} {e : Env} {R : Room} {s : State} {m : MethodId} {args : Array Value} {below : List Frame} {meth : Method} {c : Code} {H : Heap} {locs : List Loc} {cells slots : Nat} {Q : State → Prop}
variable {cc : ByteArray} {pc : Nat} {ls : Array Slot} {rest : List Value} {D : va_G} {A : Nat → Prop} {H0 : Heap} {a : Nat} {tys : List (ClassId × FieldType)} {bs : List va_W}
theorem x_enter {y : MethodName} {ws ws' : List Cond} {rm : Room} {As : List Value} {Qf : (Nat → Prop) → Array Value → State → Outcome → State → Prop} {mc ms : Nat} {maxL : Nat} {ret : Option FieldType}
    (hy : plainName y.cls = true) (hw : ws = Cond.code y cc maxL ret :: ws') (hsl : (lg_sl As).length ≤ maxL)
    (body : ∀ (p : Program) (e : Env) (s : State) (m : MethodId) (below : List Frame) (meth : Method) (c : Code) (A : Nat → Prop) (ls : Array Slot) (H : Heap) (locs : List Loc), CallFix p m c cc maxL s As.toArray ws y.cls → meth.sig.returnType = ret → meth.locks = false → meth.name = y.name → xM D tys bs A s.heap s H locs → lv_has ls maxL (lv_args 0 As) →
      W p l e rm s m As.toArray below meth c H locs 0 0 (MQ below (Qf A) As.toArray s mc ms A) (F0 m 0 ls [])) : xC l y ws rm D tys bs As Qf mc ms := by
  intro sz
  refine Met.ofW (cc := cc) (maxL := maxL) (ret := ret) hy hw ?_
  intro p e s m args below meth c s₁ B hml hv
  obtain ⟨rfl, hsz, hP, hK, hD0, hN⟩ := hv
  subst hsz
  rw [lg_entry_eq]
  have hD := hD0.self (sz := s.heap.size)
  exact body p e s m below meth c _ _ _ _ ⟨B.exec, B.bytes, hml, findClass_of_methodNamed B.named, atoms_spec (ws := ws) B.pre⟩ B.returns B.notSynchronized ((name_of_methodNamed B.named B.method).1) ⟨hK, hP, hD, va_S.rf, fun q h => Or.inr h, hN⟩ (lv_entry As hsl)
theorem x_get (hexec : p.tables.exec = Jvm.exec) (hb : c.code = cc) {own ref C : String} {T : u_T} {N ci index : Nat} {Ts : List Cond} (hts : ∀ w ∈ Ts, w.before args s = true) (hin : ∀ w ∈ u_ws C T N, w ∈ Ts) (hown : s.vm.findClass own = some m.cls) (hM : xM D tys bs A H0 s H locs) (i j : Nat) {b : va_W} {fs : List Value} (hbi : bs[i]? = some b) (he : b[j]? = some (a, .inr (ci, fs))) (hc : vwCl[ci]? = some (C, T, N)) (k : Nat) (hk : k < N) (hlink : (Cond.fieldLink own index ref (T k).2.1 (T k).2.2.1).before args s = true) (hsame : ∀ x, s.fieldFound? (T k).1 (T k).2.1 (T k).2.2.1 = some x → s.fieldFound? ref (T k).2.1 (T k).2.2.1 = some x) {v : Value} (hv : fs[k]? = some v) (hdg : decode cc pc = .ok (.getfield index, 3))
    (kk : W p l e R s m args below meth c H locs cells slots Q (F0 m (pc + 3) ls (v :: rest))) : W p l e R s m args below meth c H locs cells slots Q (F0 m pc ls (.ref a :: rest)) :=
  va_get hexec hb hts hin hown hM.1 hM.2.1 _ (x_idx bs i j hbi he).1 hc k hk hlink hsame hv hdg kk
theorem x_put (hexec : p.tables.exec = Jvm.exec) (hb : c.code = cc) {own ref C : String} {T : u_T} {N ci index : Nat} {Ts : List Cond} (hts : ∀ w ∈ Ts, w.before args s = true) (hin : ∀ w ∈ u_ws C T N, w ∈ Ts) (ty0 : Nat → FieldType) (hty : ∀ k, k < N → parseFieldDescriptor (T k).2.2.1 = some (ty0 k)) (hnm : ∀ a, a < N → ∀ b, b < N → a ≠ b → (T a).2.1 ≠ (T b).2.1) (hown : s.vm.findClass own = some m.cls) (hM : xM D tys bs A H0 s H locs) (i j : Nat) {b : va_W} {fs : List Value} (hbi : bs[i]? = some b) (he : b[j]? = some (a, .inr (ci, fs))) (hc : vwCl[ci]? = some (C, T, N)) (k : Nat) (hk : k < N) (hlink : (Cond.fieldLink own index ref (T k).2.1 (T k).2.2.1).before args s = true) (hsame : ∀ x, s.fieldFound? (T k).1 (T k).2.1 (T k).2.2.1 = some x → s.fieldFound? ref (T k).2.1 (T k).2.2.1 = some x) (hfin : (T k).2.2.2 = false) {ty : FieldType} {v : Value} (hd : parseFieldDescriptor (T k).2.2.1 = some ty) (hn : narrow ty v = v) (hfit : fits ty v = true) (hl : k < fs.length) (bs' : List va_W) (hbs : bs.set i (b.set j (a, .inr (ci, fs.set k v))) = bs')
    (hdg : decode cc pc = .ok (.putfield index, 3)) (kk : ∀ (H1 : Heap) (locs1 : List Loc), xM D tys bs' A H0 s H1 locs1 → W p l e R s m args below meth c H1 locs1 cells slots Q (F0 m (pc + 3) ls rest)) : W p l e R s m args below meth c H locs cells slots Q (F0 m pc ls (v :: .ref a :: rest)) := by
  obtain ⟨e1, e2⟩ := x_idx bs i j hbi he
  refine va_put hexec hb hts hin ty0 hty hnm hown hM.1 hM.2.1 hM.2.2.1 hM.2.2.2.1 _ e1 hc k hk hlink hsame hfin hd hn hfit hl hdg (fun H1 locs1 hP hD hS => ?_)
  rw [e2, hbs] at hP hD
  exact kk H1 locs1 ⟨hM.1, hP, hD, hS, hM.2.2.2.2⟩
theorem x_iald (hexec : p.tables.exec = Jvm.exec) (hb : c.code = cc) (hM : xM D tys bs A H0 s H locs) (i j t0 : Nat) {b : va_W} {cA : ClassId} {n : Nat} {f : Nat → Int32} (hbi : bs[i]? = some b) (ha : b[j]? = some (a, .inl (cA, n, .inl f))) (ht : tys[t0]? = some (cA, .int)) {t : Nat} (hlt : t < n) (hn : n < 2 ^ 31) (hdg : decode cc pc = .ok (.iaload, 1))
    (kk : W p l e R s m args below meth c H locs cells slots Q (F0 m (pc + 1) ls (.int (f t) :: rest))) : W p l e R s m args below meth c H locs cells slots Q (F0 m pc ls (.int (nI t) :: .ref a :: rest)) := by
  refine va_iald hexec hb hM.1 hM.2.1 _ t0 (x_idx bs i j hbi ha).1 ht (vp_in_nI hlt hn) hdg ?_
  rw [nI_clamp (Nat.lt_trans hlt hn)]
  exact kk
theorem x_iast (hexec : p.tables.exec = Jvm.exec) (hb : c.code = cc) (hM : xM D tys bs A H0 s H locs) (i j t0 : Nat) {b : va_W} {cA : ClassId} {n : Nat} {f : Nat → Int32} (hbi : bs[i]? = some b) (ha : b[j]? = some (a, .inl (cA, n, .inl f))) (ht : tys[t0]? = some (cA, .int)) {t : Nat} {x : Int32} (hlt : t < n) (hn : n < 2 ^ 31) (bs' : List va_W) (hbs : bs.set i (b.set j (a, .inl (cA, n, .inl (upd f t x)))) = bs') (hdg : decode cc pc = .ok (.iastore, 1))
    (kk : ∀ (H1 : Heap) (locs1 : List Loc), xM D tys bs' A H0 s H1 locs1 → W p l e R s m args below meth c H1 locs1 cells slots Q (F0 m (pc + 1) ls rest)) : W p l e R s m args below meth c H locs cells slots Q (F0 m pc ls (.int x :: .int (nI t) :: .ref a :: rest)) := by
  obtain ⟨e1, e2⟩ := x_idx bs i j hbi ha
  refine va_iast hexec hb hM.1 hM.2.1 hM.2.2.1 hM.2.2.2.1 _ t0 e1 ht (vp_in_nI hlt hn) hdg (fun H1 locs1 hP hD hS => ?_)
  rw [nI_clamp (Nat.lt_trans hlt hn), e2, hbs] at hP hD
  exact kk H1 locs1 ⟨hM.1, hP, hD, hS, hM.2.2.2.2⟩
theorem x_alen (hexec : p.tables.exec = Jvm.exec) (hb : c.code = cc) (hM : xM D tys bs A H0 s H locs) (i j t0 : Nat) {b : va_W} {cA : ClassId} {x : vp_A} (hbi : bs[i]? = some b) (ha : b[j]? = some (a, .inl (cA, x))) {ty : FieldType} (ht : tys[t0]? = some (cA, ty)) (hdg : decode cc pc = .ok (.arraylength, 1))
    (kk : W p l e R s m args below meth c H locs cells slots Q (F0 m (pc + 1) ls (.int (nI x.1) :: rest))) : W p l e R s m args below meth c H locs cells slots Q (F0 m pc ls (.ref a :: rest)) :=
  va_alen hexec hb hM.1 hM.2.1 _ t0 (x_idx bs i j hbi ha).1 ht (v := nI x.1) rfl hdg kk
/-! numbers that are natural ones -/
theorem x_iadd (hexec : p.tables.exec = Jvm.exec) (hb : c.code = cc) {x y : Nat} (hdg : decode cc pc = .ok (.iadd, 1)) (k : W p l e R s m args below meth c H locs cells slots Q (F0 m (pc + 1) ls (.int (nI (x + y)) :: rest))) : W p l e R s m args below meth c H locs cells slots Q (F0 m pc ls (.int (nI y) :: .int (nI x) :: rest)) :=
  lv_iadd hexec hb hdg (by rw [nI_add]; exact k)
theorem x_isub (hexec : p.tables.exec = Jvm.exec) (hb : c.code = cc) {x y : Nat} (h : y ≤ x) (hdg : decode cc pc = .ok (.isub, 1)) (k : W p l e R s m args below meth c H locs cells slots Q (F0 m (pc + 1) ls (.int (nI (x - y)) :: rest))) : W p l e R s m args below meth c H locs cells slots Q (F0 m pc ls (.int (nI y) :: .int (nI x) :: rest)) :=
  lv_isub hexec hb hdg (by rw [pk_sub h]; exact k)
theorem x_imul (hexec : p.tables.exec = Jvm.exec) (hb : c.code = cc) {x y : Nat} (hdg : decode cc pc = .ok (.imul, 1)) (k : W p l e R s m args below meth c H locs cells slots Q (F0 m (pc + 1) ls (.int (nI (x * y)) :: rest))) : W p l e R s m args below meth c H locs cells slots Q (F0 m pc ls (.int (nI y) :: .int (nI x) :: rest)) :=
  lv_imul hexec hb hdg (by rw [pk_mul]; exact k)
theorem x_idiv (hexec : p.tables.exec = Jvm.exec) (hb : c.code = cc) {x y : Nat} (h0 : 0 < y) (hx : x < 2 ^ 31) (hy : y < 2 ^ 31) (hdg : decode cc pc = .ok (.idiv, 1)) (k : W p l e R s m args below meth c H locs cells slots Q (F0 m (pc + 1) ls (.int (nI (x / y)) :: rest))) : W p l e R s m args below meth c H locs cells slots Q (F0 m pc ls (.int (nI y) :: .int (nI x) :: rest)) :=
  lv_idiv hexec hb hdg (nI_ne0 h0 hy) (by rw [pk_div hx h0 hy]; exact k)
theorem x_irem (hexec : p.tables.exec = Jvm.exec) (hb : c.code = cc) {x y : Nat} (h0 : 0 < y) (hx : x < 2 ^ 31) (hy : y < 2 ^ 31) (hdg : decode cc pc = .ok (.irem, 1)) (k : W p l e R s m args below meth c H locs cells slots Q (F0 m (pc + 1) ls (.int (nI (x % y)) :: rest))) : W p l e R s m args below meth c H locs cells slots Q (F0 m pc ls (.int (nI y) :: .int (nI x) :: rest)) :=
  lv_irem hexec hb hdg (nI_ne0 h0 hy) (by rw [pk_rem hx h0 hy]; exact k)
theorem x_cast {x y : Int32} (h : x = y) (k : W p l e R s m args below meth c H locs cells slots Q (F0 m pc ls (.int y :: rest))) : W p l e R s m args below meth c H locs cells slots Q (F0 m pc ls (.int x :: rest)) := h ▸ k
theorem x_i2l (hexec : p.tables.exec = Jvm.exec) (hb : c.code = cc) {x : Int32} (hdg : decode cc pc = .ok (.i2l, 1)) (k : W p l e R s m args below meth c H locs cells slots Q (F0 m (pc + 1) ls (.long x.toInt64 :: rest))) : W p l e R s m args below meth c H locs cells slots Q (F0 m pc ls (.int x :: rest)) := lv_i2l hexec hb hdg rfl k
theorem x_icmp_eq (hexec : p.tables.exec = Jvm.exec) (hb : c.code = cc) {x y : Nat} {off : Int} {tgt : Nat} (hx : x < 2 ^ 31) (hy : y < 2 ^ 31) (hdg : decode cc pc = .ok (.if_icmp .eq off, 3)) (ht : (pc : Int) + off = (tgt : Int)) (kt : x = y → W p l e R s m args below meth c H locs cells slots Q (F0 m tgt ls rest)) (kf : ¬ x = y → W p l e R s m args below meth c H locs cells slots Q (F0 m (pc + 3) ls rest)) : W p l e R s m args below meth c H locs cells slots Q (F0 m pc ls (.int (nI y) :: .int (nI x) :: rest)) :=
  lv_icmp_eq hexec hb hdg ht (fun h => kt ((nI_eq hx hy).mp h)) (fun h => kf (fun z => h ((nI_eq hx hy).mpr z)))
theorem x_icmp_ne (hexec : p.tables.exec = Jvm.exec) (hb : c.code = cc) {x y : Nat} {off : Int} {tgt : Nat} (hx : x < 2 ^ 31) (hy : y < 2 ^ 31) (hdg : decode cc pc = .ok (.if_icmp .ne off, 3)) (ht : (pc : Int) + off = (tgt : Int)) (kt : ¬ x = y → W p l e R s m args below meth c H locs cells slots Q (F0 m tgt ls rest)) (kf : x = y → W p l e R s m args below meth c H locs cells slots Q (F0 m (pc + 3) ls rest)) : W p l e R s m args below meth c H locs cells slots Q (F0 m pc ls (.int (nI y) :: .int (nI x) :: rest)) :=
  lv_icmp_ne hexec hb hdg ht (fun h => kt (fun z => h ((nI_eq hx hy).mpr z))) (fun h => kf ((nI_eq hx hy).mp h))
theorem x_icmp_lt (hexec : p.tables.exec = Jvm.exec) (hb : c.code = cc) {x y : Nat} {off : Int} {tgt : Nat} (hx : x < 2 ^ 31) (hy : y < 2 ^ 31) (hdg : decode cc pc = .ok (.if_icmp .lt off, 3)) (ht : (pc : Int) + off = (tgt : Int)) (kt : x < y → W p l e R s m args below meth c H locs cells slots Q (F0 m tgt ls rest)) (kf : ¬ x < y → W p l e R s m args below meth c H locs cells slots Q (F0 m (pc + 3) ls rest)) : W p l e R s m args below meth c H locs cells slots Q (F0 m pc ls (.int (nI y) :: .int (nI x) :: rest)) :=
  lv_icmp_lt hexec hb hdg ht (fun h => kt ((nI_ltI hx hy).mp h)) (fun h => kf (fun z => h ((nI_ltI hx hy).mpr z)))
theorem x_icmp_ge (hexec : p.tables.exec = Jvm.exec) (hb : c.code = cc) {x y : Nat} {off : Int} {tgt : Nat} (hx : x < 2 ^ 31) (hy : y < 2 ^ 31) (hdg : decode cc pc = .ok (.if_icmp .ge off, 3)) (ht : (pc : Int) + off = (tgt : Int)) (kt : y ≤ x → W p l e R s m args below meth c H locs cells slots Q (F0 m tgt ls rest)) (kf : ¬ y ≤ x → W p l e R s m args below meth c H locs cells slots Q (F0 m (pc + 3) ls rest)) : W p l e R s m args below meth c H locs cells slots Q (F0 m pc ls (.int (nI y) :: .int (nI x) :: rest)) :=
  lv_icmp_ge hexec hb hdg ht (fun h => kt ((nI_leI hy hx).mp h)) (fun h => kf (fun z => h ((nI_leI hy hx).mpr z)))
theorem x_icmp_gt (hexec : p.tables.exec = Jvm.exec) (hb : c.code = cc) {x y : Nat} {off : Int} {tgt : Nat} (hx : x < 2 ^ 31) (hy : y < 2 ^ 31) (hdg : decode cc pc = .ok (.if_icmp .gt off, 3)) (ht : (pc : Int) + off = (tgt : Int)) (kt : y < x → W p l e R s m args below meth c H locs cells slots Q (F0 m tgt ls rest)) (kf : ¬ y < x → W p l e R s m args below meth c H locs cells slots Q (F0 m (pc + 3) ls rest)) : W p l e R s m args below meth c H locs cells slots Q (F0 m pc ls (.int (nI y) :: .int (nI x) :: rest)) :=
  lv_icmp_gt hexec hb hdg ht (fun h => kt ((nI_ltI hy hx).mp h)) (fun h => kf (fun z => h ((nI_ltI hy hx).mpr z)))
theorem x_icmp_le (hexec : p.tables.exec = Jvm.exec) (hb : c.code = cc) {x y : Nat} {off : Int} {tgt : Nat} (hx : x < 2 ^ 31) (hy : y < 2 ^ 31) (hdg : decode cc pc = .ok (.if_icmp .le off, 3)) (ht : (pc : Int) + off = (tgt : Int)) (kt : x ≤ y → W p l e R s m args below meth c H locs cells slots Q (F0 m tgt ls rest)) (kf : ¬ x ≤ y → W p l e R s m args below meth c H locs cells slots Q (F0 m (pc + 3) ls rest)) : W p l e R s m args below meth c H locs cells slots Q (F0 m pc ls (.int (nI y) :: .int (nI x) :: rest)) :=
  lv_icmp_le hexec hb hdg ht (fun h => kt ((nI_leI hx hy).mp h)) (fun h => kf (fun z => h ((nI_leI hx hy).mpr z)))
theorem x_if_eq (hexec : p.tables.exec = Jvm.exec) (hb : c.code = cc) {x : Nat} {off : Int} {tgt : Nat} (hx : x < 2 ^ 31) (hdg : decode cc pc = .ok (.ifCond .eq off, 3)) (ht : (pc : Int) + off = (tgt : Int)) (kt : x = 0 → W p l e R s m args below meth c H locs cells slots Q (F0 m tgt ls rest)) (kf : ¬ x = 0 → W p l e R s m args below meth c H locs cells slots Q (F0 m (pc + 3) ls rest)) : W p l e R s m args below meth c H locs cells slots Q (F0 m pc ls (.int (nI x) :: rest)) :=
  lv_if_eq hexec hb hdg ht (fun h => kt ((nI_eq hx (by decide)).mp (h.trans nI_0.symm))) (fun h => kf (fun z => h (by rw [z]; exact nI_0)))
theorem x_if_ne (hexec : p.tables.exec = Jvm.exec) (hb : c.code = cc) {x : Nat} {off : Int} {tgt : Nat} (hx : x < 2 ^ 31) (hdg : decode cc pc = .ok (.ifCond .ne off, 3)) (ht : (pc : Int) + off = (tgt : Int)) (kt : ¬ x = 0 → W p l e R s m args below meth c H locs cells slots Q (F0 m tgt ls rest)) (kf : x = 0 → W p l e R s m args below meth c H locs cells slots Q (F0 m (pc + 3) ls rest)) : W p l e R s m args below meth c H locs cells slots Q (F0 m pc ls (.int (nI x) :: rest)) :=
  lv_if_ne hexec hb hdg ht (fun h => kt (fun z => h (by rw [z]; exact nI_0))) (fun h => kf ((nI_eq hx (by decide)).mp (h.trans nI_0.symm)))
theorem x_if_le (hexec : p.tables.exec = Jvm.exec) (hb : c.code = cc) {x : Nat} {off : Int} {tgt : Nat} (hx : x < 2 ^ 31) (hdg : decode cc pc = .ok (.ifCond .le off, 3)) (ht : (pc : Int) + off = (tgt : Int)) (kt : x = 0 → W p l e R s m args below meth c H locs cells slots Q (F0 m tgt ls rest)) (kf : ¬ x = 0 → W p l e R s m args below meth c H locs cells slots Q (F0 m (pc + 3) ls rest)) : W p l e R s m args below meth c H locs cells slots Q (F0 m pc ls (.int (nI x) :: rest)) :=
  lv_if_le hexec hb hdg ht (fun h => kt (Nat.le_zero.mp ((nI_leI hx (by decide)).mp (nI_0.symm ▸ h)))) (fun h => kf (fun z => h (by rw [z, nI_0]; exact Int32.le_refl 0)))
theorem x_if_gt (hexec : p.tables.exec = Jvm.exec) (hb : c.code = cc) {x : Nat} {off : Int} {tgt : Nat} (hx : x < 2 ^ 31) (hdg : decode cc pc = .ok (.ifCond .gt off, 3)) (ht : (pc : Int) + off = (tgt : Int)) (kt : ¬ x = 0 → W p l e R s m args below meth c H locs cells slots Q (F0 m tgt ls rest)) (kf : x = 0 → W p l e R s m args below meth c H locs cells slots Q (F0 m (pc + 3) ls rest)) : W p l e R s m args below meth c H locs cells slots Q (F0 m pc ls (.int (nI x) :: rest)) :=
  lv_if_gt hexec hb hdg ht (fun h => kt (fun z => by rw [z, nI_0] at h; exact absurd h (by decide))) (fun h => kf (by
    rcases Nat.eq_zero_or_pos x with z | z
    · exact z
    · exact absurd (nI_0 ▸ nI_lt z hx) h))
theorem x_if_lt (hexec : p.tables.exec = Jvm.exec) (hb : c.code = cc) {x : Nat} {off : Int} {tgt : Nat} (hx : x < 2 ^ 31) (hdg : decode cc pc = .ok (.ifCond .lt off, 3)) (ht : (pc : Int) + off = (tgt : Int)) (kf : W p l e R s m args below meth c H locs cells slots Q (F0 m (pc + 3) ls rest)) : W p l e R s m args below meth c H locs cells slots Q (F0 m pc ls (.int (nI x) :: rest)) :=
  lv_if_lt hexec hb hdg ht (fun h => absurd h (nI_pos hx)) (fun _ => kf)
theorem x_if_ge (hexec : p.tables.exec = Jvm.exec) (hb : c.code = cc) {x : Nat} {off : Int} {tgt : Nat} (hx : x < 2 ^ 31) (hdg : decode cc pc = .ok (.ifCond .ge off, 3)) (ht : (pc : Int) + off = (tgt : Int)) (kt : W p l e R s m args below meth c H locs cells slots Q (F0 m tgt ls rest)) : W p l e R s m args below meth c H locs cells slots Q (F0 m pc ls (.int (nI x) :: rest)) :=
  lv_if_ge hexec hb hdg ht (fun _ => kt) (fun h => absurd (nI_pos' hx) h)
/-- a truth as a number -/
def zb (P : Prop) [Decidable P] : Int32 := if P then 1 else 0
theorem zb_t {P : Prop} [Decidable P] (h : P) : zb P = 1 := if_pos h
theorem zb_f {P : Prop} [Decidable P] (h : ¬ P) : zb P = 0 := if_neg h
theorem zb_t' {P : Prop} [Decidable P] (h : P) : nI 1 = zb P := by rw [zb_t h]; rfl
theorem zb_f' {P : Prop} [Decidable P] (h : ¬ P) : nI 0 = zb P := by rw [zb_f h]; rfl
theorem zb_bool {P : Prop} [Decidable P] : narrow .boolean (.int (zb P)) = .int (zb P) := by
  by_cases h : P
  · rw [zb_t h]; rfl
  · rw [zb_f h]; rfl
theorem x_ifz_eq (hexec : p.tables.exec = Jvm.exec) (hb : c.code = cc) {P : Prop} [Decidable P] {off : Int} {tgt : Nat} (hdg : decode cc pc = .ok (.ifCond .eq off, 3)) (ht : (pc : Int) + off = (tgt : Int)) (kt : ¬ P → W p l e R s m args below meth c H locs cells slots Q (F0 m tgt ls rest)) (kf : P → W p l e R s m args below meth c H locs cells slots Q (F0 m (pc + 3) ls rest)) : W p l e R s m args below meth c H locs cells slots Q (F0 m pc ls (.int (zb P) :: rest)) :=
  lv_if_eq hexec hb hdg ht (fun h => kt (fun z => by rw [zb_t z] at h; exact absurd h (by decide))) (fun h => kf (Decidable.byContradiction (fun z => h (zb_f z))))
theorem x_ifz_ne (hexec : p.tables.exec = Jvm.exec) (hb : c.code = cc) {P : Prop} [Decidable P] {off : Int} {tgt : Nat} (hdg : decode cc pc = .ok (.ifCond .ne off, 3)) (ht : (pc : Int) + off = (tgt : Int)) (kt : P → W p l e R s m args below meth c H locs cells slots Q (F0 m tgt ls rest)) (kf : ¬ P → W p l e R s m args below meth c H locs cells slots Q (F0 m (pc + 3) ls rest)) : W p l e R s m args below meth c H locs cells slots Q (F0 m pc ls (.int (zb P) :: rest)) :=
  lv_if_ne hexec hb hdg ht (fun h => kt (Decidable.byContradiction (fun z => h (zb_f z)))) (fun h => kf (fun z => by rw [zb_t z] at h; exact absurd h (by decide)))
/-! ends -/
theorem x_iret {S : Type} {post : Int32 → S → Prop} {wf : S → List va_W} {v : Int32} (hexec : p.tables.exec = Jvm.exec) (hb : c.code = cc) (hr : meth.sig.returnType = some .int) (hlocks : meth.locks = false) (u : S) (hM : xM D tys (wf u) A s.heap s H locs) (hq : post v u) (hdg : decode cc pc = .ok (.ireturn, 1)) :
    W p l e R s m args below meth c H locs cells slots (MQ below (xQi D tys post wf A) args s cells slots A) (F0 m pc ls [.int v]) :=
  W.iret hexec hb hr (fun t ht hW => ⟨⟨v, u, rfl, hq, by rw [ht]; exact hM.2.1, va_K.moved hW.alike hM.1, hM.2.2.1⟩, hM.2.2.2.1.F ht⟩) hM.2.2.2.1.2.2 hdg hlocks
theorem x_zret {S : Type} {post : Int32 → S → Prop} {wf : S → List va_W} {v : Int32} (hexec : p.tables.exec = Jvm.exec) (hb : c.code = cc) (hr : meth.sig.returnType = some .boolean) (hlocks : meth.locks = false) (u : S) (hM : xM D tys (wf u) A s.heap s H locs) (hn : narrow .boolean (.int v) = .int v) (hq : post v u) (hdg : decode cc pc = .ok (.ireturn, 1)) :
    W p l e R s m args below meth c H locs cells slots (MQ below (xQi D tys post wf A) args s cells slots A) (F0 m pc ls [.int v]) :=
  W.zret hexec hb hr hn (fun t ht hW => ⟨⟨v, u, rfl, hq, by rw [ht]; exact hM.2.1, va_K.moved hW.alike hM.1, hM.2.2.1⟩, hM.2.2.2.1.F ht⟩) hM.2.2.2.1.2.2 hdg hlocks
theorem x_lret {S : Type} {post : Int64 → S → Prop} {wf : S → List va_W} {v : Int64} (hexec : p.tables.exec = Jvm.exec) (hb : c.code = cc) (hr : meth.sig.returnType = some .long) (hlocks : meth.locks = false) (u : S) (hM : xM D tys (wf u) A s.heap s H locs) (hq : post v u) (hdg : decode cc pc = .ok (.lreturn, 1)) :
    W p l e R s m args below meth c H locs cells slots (MQ below (xQl D tys post wf A) args s cells slots A) (F0 m pc ls [.long v]) :=
  W.lret hexec hb hr (fun t ht hW => ⟨⟨v, u, rfl, hq, by rw [ht]; exact hM.2.1, va_K.moved hW.alike hM.1, hM.2.2.1⟩, hM.2.2.2.1.F ht⟩) hM.2.2.2.1.2.2 hdg hlocks
theorem x_vret {S : Type} {post : S → Prop} {wf : S → List va_W} (hexec : p.tables.exec = Jvm.exec) (hb : c.code = cc) (hr : meth.sig.returnType = none) (hlocks : meth.locks = false) (u : S) (hM : xM D tys (wf u) A s.heap s H locs) (hq : post u) (hdg : decode cc pc = .ok (.return_, 1)) :
    W p l e R s m args below meth c H locs cells slots (MQ below (xQv D tys post wf A) args s cells slots A) (F0 m pc ls []) :=
  W.vret hexec hb hr (fun t ht hW => ⟨⟨u, rfl, hq, by rw [ht]; exact hM.2.1, va_K.moved hW.alike hM.1, hM.2.2.1⟩, hM.2.2.2.1.F ht⟩) hM.2.2.2.1.2.2 hdg hlocks
end XROW
section XCALL
variable {p : Program} {l : Launch} {e : Env} {R : Room} {s : State} {m : MethodId} {args : Array Value} {below : List Frame} {meth : Method} {c : Code} {H : Heap} {locs : List Loc} {cells slots : Nat} {Q : State → Prop}
variable {cc : ByteArray} {pc : Nat} {ls : Array Slot} {rest st0 As : List Value} {D : va_G} {A : Nat → Prop} {H0 : Heap} {b0 : Nat} {tys : List (ClassId × FieldType)} {bs bc br : List va_W} {mc ms : Nat} {av : Array Value}
variable {y : MethodName} {bytes : ByteArray} {maxL nL n index : Nat} {ret : Option FieldType} {ws : List Cond} {rm : Room} {Ts : List Cond} {own C : String} {Qf : (Nat → Prop) → Array Value → State → Outcome → State → Prop}
theorem x_afree (hM : xM D tys bs A H0 s H locs) (is : List Nat) (hC : is.map (fun i => bs[i]?) = bc.map some) : ∀ q, va_A bc.flatten H.size q → A q := by
  intro q h
  rcases h with ⟨k, e, h⟩ | h
  · obtain ⟨i, j, b, h1, h2, -⟩ := x_inv bc k h
    obtain ⟨i', -, h4⟩ := x_at hC h1
    exact hM.2.2.1.2 _ (q, e) (x_idx bs i' j h4 h2).1
  · exact hM.2.2.2.2.1 q (Nat.le_trans hM.2.2.2.1.1 h)
theorem x_after {ba : List va_W} {H1 : Heap} {t : State} {locs1 : List Loc} (hM : xM D tys bs A H0 s H locs) (is ir : List Nat) (hC : is.map (fun i => bs[i]?) = bc.map some) (hR : ir.map (fun i => bs[i]?) = br.map some) (hn : va_nd ir = true) (hdis : ∀ i ∈ ir, i ∉ is)
    (ht : t.heap = H1) (hB : xB D tys ba (va_A bc.flatten H.size) t) (hk : ∀ q : Nat, q < H.size → ¬ va_A bc.flatten H.size q → H1[q]? = H[q]?) (hS : va_S A H0 H1 locs1) : xM D tys (br ++ ba) A H0 s H1 locs1 := by
  obtain ⟨hP1, hK1, hD1⟩ := hB
  rw [ht] at hP1
  have hF := x_afree hM is hC
  have hPr := x_psel hR hM.2.1
  have hout : ∀ (k : Nat) (q : Nat × va_E), br.flatten[k]? = some q → q.1 < H.size ∧ ¬ va_A bc.flatten H.size q.1 := by
    intro k q hk
    have hl := (hPr k q hk).lt
    refine ⟨hl, fun h => ?_⟩
    rcases h with ⟨k2, e, h⟩ | h
    · exact x_apart hC hR hdis hM.2.2.1 h hk rfl
    · omega
  refine ⟨hM.1, ?_, ?_, hS, hM.2.2.2.2⟩
  · rw [List.flatten_append]
    refine va_P.app (fun k q hq => ?_) hP1
    exact (hPr k q hq).kept (hk q.1 (hout k q hq).1 (hout k q hq).2)
  · rw [List.flatten_append]
    refine va_D.app (x_dsel hn hR hM.2.2.1) (hD1.weaken (fun k q _ h => hF q.1 h)) (fun i j x y hx hy hxy => ?_)
    exact (hout i x hx).2 (by rw [hxy]; exact hD1.2 j y hy)
theorem x_runV (S : CallFix p m c cc nL s args Ts own) (hcon : xC l y ws rm D tys bc (.ref b0 :: As) Qf mc ms) (cw : CallW R s args own C index y bytes maxL ret ws rm mc ms n)
    (hM : xM D tys bs A H0 s H locs) (is : List Nat) (hnd : va_nd is = true) (hC : is.map (fun i => bs[i]?) = bc.map some) (i j : Nat) {b : va_W} {ci : Nat} {fs : List Value} {q : vw_C} (hbi : bs[i]? = some b) (he : b[j]? = some (b0, .inr (ci, fs))) (hc : vwCl[ci]? = some q) (hq : q.1 = C)
    (hn : As.length = n) (hsize : ls.size = nL) (hstack : st0 = As.reverse ++ .ref b0 :: rest) (hW : (rest.map fun v => v.category).sum ≤ 8) (hdg : decode cc pc = .ok (.invokevirtual index, 3)) (hf : cells + mc ≤ R.cells ∧ slots + ms ≤ R.slots) :
    va_Run p l e R s m args below meth c H locs cells slots mc ms (F0 m pc ls st0) rest (Qf (va_A bc.flatten H.size) (Value.ref b0 :: As).toArray) (va_A bc.flatten H.size) := by
  subst hq
  exact va_runV S (hcon H.size) cw ⟨xPc_blind, va_recv hM.1 hM.2.1 hc (x_idx bs i j hbi he).1, fun U hU hW => ⟨rfl, by rw [hU], by rw [hU]; exact x_psel hC hM.2.1, va_K.moved hW.alike hM.1, (x_dsel hnd hC hM.2.2.1).weaken (fun _ _ _ _ => trivial), hM.2.2.2.2.2.warm hW⟩⟩ rfl hn hsize hstack (lv_room hW) hdg hf
theorem x_runS (S : CallFix p m c cc nL s args Ts own) (hcon : xC l y ws rm D tys bc As Qf mc ms) (cw : CallB R s args own index y bytes maxL ret ws rm mc ms n ∧ (Cond.static y).before args s = true)
    (hM : xM D tys bs A H0 s H locs) (is : List Nat) (hnd : va_nd is = true) (hC : is.map (fun i => bs[i]?) = bc.map some)
    (hn : As.length = n) (hsize : ls.size = nL) (hstack : st0 = As.reverse ++ rest) (hW : (rest.map fun v => v.category).sum ≤ 8) (hdg : decode cc pc = .ok (.invokestatic index, 3)) (hf : cells + mc ≤ R.cells ∧ slots + ms ≤ R.slots) :
    va_Run p l e R s m args below meth c H locs cells slots mc ms (F0 m pc ls st0) rest (Qf (va_A bc.flatten H.size) As.toArray) (va_A bc.flatten H.size) :=
  va_runS S (hcon H.size) cw ⟨xPc_blind, fun U hU hW => ⟨rfl, by rw [hU], by rw [hU]; exact x_psel hC hM.2.1, va_K.moved hW.alike hM.1, (x_dsel hnd hC hM.2.2.1).weaken (fun _ _ _ _ => trivial), hM.2.2.2.2.2.warm hW⟩⟩ rfl hn hsize hstack (lv_room hW) hdg hf
theorem x_runSN {host : String} (S : CallFix p m c cc nL s args Ts own) (hcon : xC l y ws rm D tys bc As Qf mc ms) (cw : va_CN R s args own index y host bytes maxL ret ws rm mc ms n ∧ (Cond.static y).before args s = true ∧ True)
    (hM : xM D tys bs A H0 s H locs) (is : List Nat) (hnd : va_nd is = true) (hC : is.map (fun i => bs[i]?) = bc.map some)
    (hn : As.length = n) (hsize : ls.size = nL) (hstack : st0 = As.reverse ++ rest) (hW : (rest.map fun v => v.category).sum ≤ 8) (hdg : decode cc pc = .ok (.invokestatic index, 3)) (hf : cells + mc ≤ R.cells ∧ slots + ms ≤ R.slots) :
    va_Run p l e R s m args below meth c H locs cells slots mc ms (F0 m pc ls st0) rest (Qf (va_A bc.flatten H.size) As.toArray) (va_A bc.flatten H.size) :=
  va_runSN S (hcon H.size) cw ⟨xPc_blind, fun U hU hW => ⟨rfl, by rw [hU], by rw [hU]; exact x_psel hC hM.2.1, va_K.moved hW.alike hM.1, (x_dsel hnd hC hM.2.2.1).weaken (fun _ _ _ _ => trivial), hM.2.2.2.2.2.warm hW⟩⟩ rfl hn hsize hstack (lv_room hW) hdg hf
theorem x_calli {S : Type} {post : Int32 → S → Prop} {wf : S → List va_W} (hM : xM D tys bs A H0 s H locs) (is ir : List Nat) (hC : is.map (fun i => bs[i]?) = bc.map some) (hR : ir.map (fun i => bs[i]?) = br.map some) (hn : va_nd ir = true) (hdis : ∀ i ∈ ir, i ∉ is)
    (hrun : va_Run p l e R s m args below meth c H locs cells slots mc ms (F0 m pc ls st0) rest (xQi D tys post wf (va_A bc.flatten H.size) av) (va_A bc.flatten H.size))
    (kk : ∀ (r : Int32) (u : S) (H1 : Heap) (locs1 : List Loc), post r u → xM D tys (br ++ wf u) A H0 s H1 locs1 → W p l e R s m args below meth c H1 locs1 (cells + mc) (slots + ms) Q (F0 m (pc + 3) ls (.int r :: rest))) : W p l e R s m args below meth c H locs cells slots Q (F0 m pc ls st0) :=
  va_calli hrun hM.2.2.2.1 (fun q _ h => x_afree hM is hC q h) (x_afree hM is hC) (fun r u t H1 locs1 ht _ hq hB _ hk hS => kk r u H1 locs1 hq (x_after hM is ir hC hR hn hdis ht hB hk hS))
theorem x_calll {S : Type} {post : Int64 → S → Prop} {wf : S → List va_W} (hM : xM D tys bs A H0 s H locs) (is ir : List Nat) (hC : is.map (fun i => bs[i]?) = bc.map some) (hR : ir.map (fun i => bs[i]?) = br.map some) (hn : va_nd ir = true) (hdis : ∀ i ∈ ir, i ∉ is)
    (hrun : va_Run p l e R s m args below meth c H locs cells slots mc ms (F0 m pc ls st0) rest (xQl D tys post wf (va_A bc.flatten H.size) av) (va_A bc.flatten H.size))
    (kk : ∀ (r : Int64) (u : S) (H1 : Heap) (locs1 : List Loc), post r u → xM D tys (br ++ wf u) A H0 s H1 locs1 → W p l e R s m args below meth c H1 locs1 (cells + mc) (slots + ms) Q (F0 m (pc + 3) ls (.long r :: rest))) : W p l e R s m args below meth c H locs cells slots Q (F0 m pc ls st0) :=
  va_calll hrun hM.2.2.2.1 (fun q _ h => x_afree hM is hC q h) (x_afree hM is hC) (fun r u t H1 locs1 ht _ hq hB _ hk hS => kk r u H1 locs1 hq (x_after hM is ir hC hR hn hdis ht hB hk hS))
theorem x_callv {S : Type} {post : S → Prop} {wf : S → List va_W} (hM : xM D tys bs A H0 s H locs) (is ir : List Nat) (hC : is.map (fun i => bs[i]?) = bc.map some) (hR : ir.map (fun i => bs[i]?) = br.map some) (hn : va_nd ir = true) (hdis : ∀ i ∈ ir, i ∉ is)
    (hrun : va_Run p l e R s m args below meth c H locs cells slots mc ms (F0 m pc ls st0) rest (xQv D tys post wf (va_A bc.flatten H.size) av) (va_A bc.flatten H.size))
    (kk : ∀ (u : S) (H1 : Heap) (locs1 : List Loc), post u → xM D tys (br ++ wf u) A H0 s H1 locs1 → W p l e R s m args below meth c H1 locs1 (cells + mc) (slots + ms) Q (F0 m (pc + 3) ls (rest))) : W p l e R s m args below meth c H locs cells slots Q (F0 m pc ls st0) :=
  va_callv hrun hM.2.2.2.1 (fun q _ h => x_afree hM is hC q h) (x_afree hM is hC) (fun u t H1 locs1 ht _ hq hB _ hk hS => kk u H1 locs1 hq (x_after hM is ir hC hR hn hdis ht hB hk hS))
end XCALL
