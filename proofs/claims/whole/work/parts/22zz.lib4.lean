/-! own rows: chars, truths, least and most, copies, answers that are cells; kitchens as rows of 67 numbers -/
section XROW4
variable {p : Program} {l : Launch} {e : Env} {R : Room} {s : State} {m : MethodId} {args : Array Value} {below : List Frame} {meth : Method} {c : Code} {H : Heap} {locs : List Loc} {cells slots : Nat} {Q : State → Prop}
variable {cc : ByteArray} {pc : Nat} {ls : Array Slot} {rest : List Value} {D : va_G} {A : Nat → Prop} {H0 : Heap} {a : Nat} {tys : List (ClassId × FieldType)} {bs : List va_W}
theorem x_cald (hexec : p.tables.exec = Jvm.exec) (hb : c.code = cc) (hM : xM D tys bs A H0 s H locs) (i j t0 : Nat) {b : va_W} {cA : ClassId} {n : Nat} {f : Nat → Int32} (hbi : bs[i]? = some b) (ha : b[j]? = some (a, .inl (cA, n, .inl f))) (ht : tys[t0]? = some (cA, .char)) {t : Nat} (hlt : t < n) (hn : n < 2 ^ 31) (hdg : decode cc pc = .ok (.caload, 1))
    (kk : W p l e R s m args below meth c H locs cells slots Q (F0 m (pc + 1) ls (.int (f t) :: rest))) : W p l e R s m args below meth c H locs cells slots Q (F0 m pc ls (.int (nI t) :: .ref a :: rest)) := by
  refine va_cald hexec hb hM.1 hM.2.1 _ t0 (x_idx bs i j hbi ha).1 ht (vp_in_nI hlt hn) hdg ?_
  rw [nI_clamp (Nat.lt_trans hlt hn)]
  exact kk
theorem x_zald (hexec : p.tables.exec = Jvm.exec) (hb : c.code = cc) (hM : xM D tys bs A H0 s H locs) (i j t0 : Nat) {b : va_W} {cA : ClassId} {n : Nat} {f : Nat → Int32} (hbi : bs[i]? = some b) (ha : b[j]? = some (a, .inl (cA, n, .inl f))) (ht : tys[t0]? = some (cA, .boolean)) {t : Nat} (hlt : t < n) (hn : n < 2 ^ 31) (hdg : decode cc pc = .ok (.baload, 1))
    (kk : W p l e R s m args below meth c H locs cells slots Q (F0 m (pc + 1) ls (.int (f t) :: rest))) : W p l e R s m args below meth c H locs cells slots Q (F0 m pc ls (.int (nI t) :: .ref a :: rest)) := by
  refine va_zald hexec hb hM.1 hM.2.1 _ t0 (x_idx bs i j hbi ha).1 ht (vp_in_nI hlt hn) hdg ?_
  rw [nI_clamp (Nat.lt_trans hlt hn)]
  exact kk
theorem x_castc (hexec : p.tables.exec = Jvm.exec) (hb : c.code = cc) (hM : xM D tys bs A H0 s H locs) (i j t0 : Nat) {b : va_W} {cA : ClassId} {n : Nat} {f : Nat → Int32} (hbi : bs[i]? = some b) (ha : b[j]? = some (a, .inl (cA, n, .inl f))) (ht : tys[t0]? = some (cA, .char)) {t : Nat} {x : Int32} (hlt : t < n) (hn : n < 2 ^ 31) (hx : vp_nar .char x = x) (bs' : List va_W) (hbs : bs.set i (b.set j (a, .inl (cA, n, .inl (upd f t x)))) = bs') (hdg : decode cc pc = .ok (.castore, 1))
    (kk : ∀ (H1 : Heap) (locs1 : List Loc), xM D tys bs' A H0 s H1 locs1 → W p l e R s m args below meth c H1 locs1 cells slots Q (F0 m (pc + 1) ls rest)) : W p l e R s m args below meth c H locs cells slots Q (F0 m pc ls (.int x :: .int (nI t) :: .ref a :: rest)) := by
  obtain ⟨e1, e2⟩ := x_idx bs i j hbi ha
  refine va_cast hexec hb hM.1 hM.2.1 hM.2.2.1 hM.2.2.2.1 _ t0 e1 ht (vp_in_nI hlt hn) hdg (fun H1 locs1 hP hD hS => ?_)
  rw [nI_clamp (Nat.lt_trans hlt hn), hx, e2, hbs] at hP hD
  exact kk H1 locs1 ⟨hM.1, hP, hD, hS, hM.2.2.2.2⟩
theorem x_zast (hexec : p.tables.exec = Jvm.exec) (hb : c.code = cc) (hM : xM D tys bs A H0 s H locs) (i j t0 : Nat) {b : va_W} {cA : ClassId} {n : Nat} {f : Nat → Int32} (hbi : bs[i]? = some b) (ha : b[j]? = some (a, .inl (cA, n, .inl f))) (ht : tys[t0]? = some (cA, .boolean)) {t : Nat} {x : Int32} (hlt : t < n) (hn : n < 2 ^ 31) (hx : vp_nar .boolean x = x) (bs' : List va_W) (hbs : bs.set i (b.set j (a, .inl (cA, n, .inl (upd f t x)))) = bs') (hdg : decode cc pc = .ok (.bastore, 1))
    (kk : ∀ (H1 : Heap) (locs1 : List Loc), xM D tys bs' A H0 s H1 locs1 → W p l e R s m args below meth c H1 locs1 cells slots Q (F0 m (pc + 1) ls rest)) : W p l e R s m args below meth c H locs cells slots Q (F0 m pc ls (.int x :: .int (nI t) :: .ref a :: rest)) := by
  obtain ⟨e1, e2⟩ := x_idx bs i j hbi ha
  refine va_zast hexec hb hM.1 hM.2.1 hM.2.2.1 hM.2.2.2.1 _ t0 e1 ht (vp_in_nI hlt hn) hdg (fun H1 locs1 hP hD hS => ?_)
  rw [nI_clamp (Nat.lt_trans hlt hn), hx, e2, hbs] at hP hD
  exact kk H1 locs1 ⟨hM.1, hP, hD, hS, hM.2.2.2.2⟩
theorem nar_zb {P : Prop} [Decidable P] : vp_nar .boolean (zb P) = zb P := by
  by_cases h : P
  · rw [zb_t h]; decide
  · rw [zb_f h]; decide
theorem i2c_nI {v : Nat} (h : v < 65536) : ((nI v).toUInt32 % 65536).toInt32 = nI v := by
  apply Int32.toBitVec_inj.mp
  apply BitVec.eq_of_toNat_eq
  have e : (nI v).toUInt32.toNat = v := by
    have e1 : (nI v).toUInt32 = UInt32.ofNat v := rfl
    rw [e1, UInt32.toNat_ofNat_of_lt']
    show v < 4294967296
    omega
  show ((nI v).toUInt32 % 65536).toNat = (nI v).toUInt32.toNat
  rw [UInt32.toNat_mod, e]
  exact Nat.mod_eq_of_lt h
theorem nar_c {v : Nat} (h : v < 65536) : vp_nar .char (nI v) = nI v := i2c_nI h
theorem x_mmin (hexec : p.tables.exec = Jvm.exec) (hb : c.code = cc) (hml : c.maxLocals = ls.size) {own : String} {index : Nat} {Ts : List Cond} (hts : ∀ w ∈ Ts, w.before args s = true) (hown : s.vm.findClass own = some m.cls) (hin : ∀ w ∈ [Cond.methodLink own index Lib.Math.min.name, .static Lib.Math.min.name, .initialized "java/lang/Math", .code Lib.Math.min.name Lib.Math.min.code 2 (some .int)], w ∈ Ts)
    (hframes : 1 ≤ R.frames) (hlocals : (rest.map fun v => v.category).sum + 13 ≤ R.locals) (hc : cells ≤ R.cells) (hs : slots ≤ R.slots) {x y : Int32} (hdg : decode cc pc = .ok (.invokestatic index, 3))
    (kk : W p l e R s m args below meth c H locs cells slots Q (F0 m (pc + 3) ls (.int (if y < x then y else x) :: rest))) : W p l e R s m args below meth c H locs cells slots Q (F0 m pc ls (.int y :: .int x :: rest)) :=
  va_mmin hexec hb hml hown (hts _ (hin _ (by simp))) (hts _ (hin _ (by simp))) (hts _ (hin _ (by simp))) (hts _ (hin _ (by simp))) hframes hlocals hc hs hdg kk
theorem x_mmax (hexec : p.tables.exec = Jvm.exec) (hb : c.code = cc) (hml : c.maxLocals = ls.size) {own : String} {index : Nat} {Ts : List Cond} (hts : ∀ w ∈ Ts, w.before args s = true) (hown : s.vm.findClass own = some m.cls) (hin : ∀ w ∈ [Cond.methodLink own index Lib.Math.max.name, .static Lib.Math.max.name, .initialized "java/lang/Math", .code Lib.Math.max.name Lib.Math.max.code 2 (some .int)], w ∈ Ts)
    (hframes : 1 ≤ R.frames) (hlocals : (rest.map fun v => v.category).sum + 13 ≤ R.locals) (hc : cells ≤ R.cells) (hs : slots ≤ R.slots) {x y : Int32} (hdg : decode cc pc = .ok (.invokestatic index, 3))
    (kk : W p l e R s m args below meth c H locs cells slots Q (F0 m (pc + 3) ls (.int (if x < y then y else x) :: rest))) : W p l e R s m args below meth c H locs cells slots Q (F0 m pc ls (.int y :: .int x :: rest)) :=
  va_mmax hexec hb hml hown (hts _ (hin _ (by simp))) (hts _ (hin _ (by simp))) (hts _ (hin _ (by simp))) (hts _ (hin _ (by simp))) hframes hlocals hc hs hdg kk
theorem x_mabs (hexec : p.tables.exec = Jvm.exec) (hb : c.code = cc) (hml : c.maxLocals = ls.size) {own : String} {index : Nat} {Ts : List Cond} (hts : ∀ w ∈ Ts, w.before args s = true) (hown : s.vm.findClass own = some m.cls) (hin : ∀ w ∈ [Cond.methodLink own index Lib.Math.abs.name, .static Lib.Math.abs.name, .initialized "java/lang/Math", .code Lib.Math.abs.name Lib.Math.abs.code 1 (some .int)], w ∈ Ts)
    (hframes : 1 ≤ R.frames) (hlocals : (rest.map fun v => v.category).sum + 13 ≤ R.locals) (hc : cells ≤ R.cells) (hs : slots ≤ R.slots) {x : Int32} (hdg : decode cc pc = .ok (.invokestatic index, 3))
    (kk : W p l e R s m args below meth c H locs cells slots Q (F0 m (pc + 3) ls (.int (if 0 ≤ x then x else 0 - x) :: rest))) : W p l e R s m args below meth c H locs cells slots Q (F0 m pc ls (.int x :: rest)) :=
  va_mabs hexec hb hml hown (hts _ (hin _ (by simp))) (hts _ (hin _ (by simp))) (hts _ (hin _ (by simp))) (hts _ (hin _ (by simp))) hframes hlocals hc hs hdg kk
theorem x_copy (hexec : p.tables.exec = Jvm.exec) (hb : c.code = cc) (hml : c.maxLocals = ls.size) {own : String} {index : Nat} {Ts : List Cond} (hts : ∀ w ∈ Ts, w.before args s = true) (hown : s.vm.findClass own = some m.cls) (hin : ∀ w ∈ [Cond.methodLink own index arraycopyName, .native arraycopyName, .static arraycopyName, .initialized "java/lang/System"], w ∈ Ts)
    (hM : xM D tys bs A H0 s H locs) (i i' j j' t0 : Nat) {b b' : va_W} {a0 : Nat} {cA : ClassId} {n : Nat} {f g : Nat → Int32} (hbi : bs[i]? = some b) (ha : b[j]? = some (a0, .inl (cA, n, .inl f))) (hbi' : bs[i']? = some b') (ha' : b'[j']? = some (a, .inl (cA, n, .inl g))) (ht : tys[t0]? = some (cA, .int)) (hn : n < 2 ^ 31)
    (hframes : 1 ≤ R.frames) (hlocals : (rest.map fun v => v.category).sum + 18 ≤ R.locals) (bs' : List va_W) (hbs : bs.set i' (b'.set j' (a, .inl (cA, n, .inl (va_cpy f g 0 0 n)))) = bs') (hdg : decode cc pc = .ok (.invokestatic index, 3))
    (kk : ∀ (H1 : Heap) (locs1 : List Loc), xM D tys bs' A H0 s H1 locs1 → W p l e R s m args below meth c H1 locs1 cells slots Q (F0 m (pc + 3) ls rest)) : W p l e R s m args below meth c H locs cells slots Q (F0 m pc ls (.int (nI n) :: .int (nI 0) :: .ref a :: .int (nI 0) :: .ref a0 :: rest)) := by
  obtain ⟨e1, -⟩ := x_idx bs i j hbi ha
  obtain ⟨e1', e2⟩ := x_idx bs i' j' hbi' ha'
  have c0 : (nI 0).toNatClampNeg = 0 := nI_clamp (by decide)
  have cn : (nI n).toNatClampNeg = n := nI_clamp hn
  refine va_copyi hexec hb hml hown (hts _ (hin _ (by simp))) (hts _ (hin _ (by simp))) (hts _ (hin _ (by simp))) (hts _ (hin _ (by simp))) hM.1 hM.2.1 hM.2.2.1 hM.2.2.2.1 _ _ t0 t0 e1 e1' ht ht rfl (nI_pos (by decide)) (nI_pos (by decide)) (nI_pos hn) (by rw [c0, cn]; omega) (by rw [c0, cn]; omega) (fun i _ => rfl) hframes hlocals hdg (fun H1 locs1 hP hD hS => ?_)
  rw [c0, cn, e2, hbs] at hP hD
  exact kk H1 locs1 ⟨hM.1, hP, hD, hS, hM.2.2.2.2⟩
end XROW4
def xQr {S : Type} (D : va_G) (tys : List (ClassId × FieldType)) (addr : Nat) (post : S → Prop) (wf : S → List va_W) (A : Nat → Prop) : Array Value → State → Outcome → State → Prop := va_Qr post (fun u a t => a = addr ∧ xB D tys (wf u) A t) A
section XCALL4
variable {p : Program} {l : Launch} {e : Env} {R : Room} {s : State} {m : MethodId} {args : Array Value} {below : List Frame} {meth : Method} {c : Code} {H : Heap} {locs : List Loc} {cells slots : Nat} {Q : State → Prop}
variable {cc : ByteArray} {pc : Nat} {ls : Array Slot} {rest st0 As : List Value} {D : va_G} {A : Nat → Prop} {H0 : Heap} {tys : List (ClassId × FieldType)} {bs bc br : List va_W} {mc ms : Nat} {av : Array Value}
theorem x_callr {S : Type} {addr : Nat} {post : S → Prop} {wf : S → List va_W} (hM : xM D tys bs A H0 s H locs) (is ir : List Nat) (hC : is.map (fun i => bs[i]?) = bc.map some) (hR : ir.map (fun i => bs[i]?) = br.map some) (hn : va_nd ir = true) (hdis : ∀ i ∈ ir, i ∉ is)
    (hrun : va_Run p l e R s m args below meth c H locs cells slots mc ms (F0 m pc ls st0) rest (xQr D tys addr post wf (va_A bc.flatten H.size) av) (va_A bc.flatten H.size))
    (kk : ∀ (u : S) (H1 : Heap) (locs1 : List Loc), post u → xM D tys (br ++ wf u) A H0 s H1 locs1 → W p l e R s m args below meth c H1 locs1 (cells + mc) (slots + ms) Q (F0 m (pc + 3) ls (.ref addr :: rest))) : W p l e R s m args below meth c H locs cells slots Q (F0 m pc ls st0) :=
  va_callr hrun hM.2.2.2.1 (fun q _ h => x_afree hM is hC q h) (x_afree hM is hC) (fun u ra t H1 locs1 ht _ hq hB _ hk hS => by
    obtain ⟨rfl, hB⟩ := hB
    exact kk u H1 locs1 hq (x_after hM is ir hC hR hn hdis ht hB hk hS))
theorem x_aret {S : Type} {addr : Nat} {post : S → Prop} {wf : S → List va_W} {C : String} (hexec : p.tables.exec = Jvm.exec) (hb : c.code = cc) (hr : meth.sig.returnType = some (.object C)) (hlocks : meth.locks = false) (u : S) (hM : xM D tys (wf u) A s.heap s H locs) (hq : post u) (hdg : decode cc pc = .ok (.areturn, 1)) :
    W p l e R s m args below meth c H locs cells slots (MQ below (xQr D tys addr post wf A) args s cells slots A) (F0 m pc ls [.ref addr]) :=
  W.aret hexec hb hr (Or.inl ⟨_, rfl⟩) (Or.inr ⟨_, rfl⟩) (fun t ht hW => ⟨⟨u, addr, rfl, hq, rfl, by rw [ht]; exact hM.2.1, va_K.moved hW.alike hM.1, hM.2.2.1⟩, hM.2.2.2.1.F ht⟩) hM.2.2.2.1.2.2 hdg hlocks
end XCALL4
/-- n numbers of a row from a place on -/
def xv (K : Nat → Int32) (o n : Nat) : Nat → Int32 := fun j => if j < n then K (o + j) else nI 0
theorem xv_at {K : Nat → Int32} {o n t : Nat} (h : t < n) : xv K o n t = K (o + t) := if_pos h
theorem xv_upd {K : Nat → Int32} {o n t : Nat} {v : Int32} (h : t < n) : upd (xv K o n) t v = xv (upd K (o + t) v) o n := by
  funext j
  simp only [upd, xv]
  by_cases h1 : j = t
  · subst h1
    rw [if_pos rfl, if_pos h, if_pos rfl]
  · rw [if_neg h1, if_neg (c := o + j = o + t) (by omega)]
theorem xv_ne {K : Nat → Int32} {o n t : Nat} {v : Int32} (h : t < o ∨ o + n ≤ t) : xv (upd K t v) o n = xv K o n := by
  funext j
  simp only [upd, xv]
  by_cases h1 : j < n
  · rw [if_pos h1, if_pos h1, if_neg (by omega)]
  · rw [if_neg h1, if_neg h1]
theorem xv_cpy (K K' : Nat → Int32) (o n : Nat) : va_cpy (xv K o n) (xv K' o n) 0 0 n = xv K o n := by
  funext j
  simp only [va_cpy, xv]
  by_cases h : j < n
  · rw [if_pos ⟨by omega, by omega⟩, if_pos (by omega), if_pos h, Nat.sub_zero, Nat.zero_add]
  · rw [if_neg (by omega), if_neg h, if_neg h]
theorem xv_eq {K K' : Nat → Int32} {o o' n : Nat} (h : ∀ j, j < n → K (o + j) = K' (o' + j)) : xv K o n = xv K' o' n := by
  funext j
  simp only [xv]
  by_cases h1 : j < n
  · rw [if_pos h1, if_pos h1, h j h1]
  · rw [if_neg h1, if_neg h1]
