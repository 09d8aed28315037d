/-! own rows: contracts over a start that knows a text constant; length and charAt of it -/
def xFT : String := "g3,0;g2,1;g5,2;g1,3;h0;h10;h25;s0,0,9;s0,1,7;s1,3,12;s2,2,3;s2,0,2;e0,0,15;e1,0,12;e1,1,20;e2,3,10;d2,3;d4,5;d7,2;k0,1,8;k0,3,5;"
def xFB : List Int32 := [103, 51, 44, 48, 59, 103, 50, 44, 49, 59, 103, 53, 44, 50, 59, 103, 49, 44, 51, 59, 104, 48, 59, 104, 49, 48, 59, 104, 50, 53, 59, 115, 48, 44, 48, 44, 57, 59, 115, 48, 44, 49, 44, 55, 59, 115, 49, 44, 51, 44, 49, 50, 59, 115, 50, 44, 50, 44, 51, 59, 115, 50, 44, 48, 44, 50, 59, 101, 48, 44, 48, 44, 49, 53, 59, 101, 49, 44, 48, 44, 49, 50, 59, 101, 49, 44, 49, 44, 50, 48, 59, 101, 50, 44, 51, 44, 49, 48, 59, 100, 50, 44, 51, 59, 100, 52, 44, 53, 59, 100, 55, 44, 50, 59, 107, 48, 44, 49, 44, 56, 59, 107, 48, 44, 51, 44, 53, 59]
def xfB (j : Nat) : Int32 := xFB.getD j 0
/-- what is given of the start: a row of kitchens can be made, the text, two statics of the JDK -/
def xZ (aK aV : Nat) (A : Nat → Prop) (U : State) : Prop := va_AO RX1 U ∧ vk_R RX8 69 xFT aK U ∧ (va_O "java/lang/String" aK A U U.heap ∧ va_OF "java/lang/String" "coder" "B" (.int 0) aK A U U.heap ∧ va_OF "java/lang/String" "value" "[B" (.ref aV) aK A U U.heap ∧ va_T .byte aV 128 (fun j => .int (xfB j)) A U U.heap) ∧ va_Z "java/lang/String" "COMPACT_STRINGS" "Z" (.int 1) A U U.heap ∧ va_Zq "jdk/internal/util/Preconditions" "SIOOBE_FORMATTER" "Ljava/util/function/BiFunction;" A U U.heap
theorem xZ.pass {aK aV : Nat} {A B : Nat → Prop} {s : State} {H : Heap} {locs : List Loc} (h : xZ aK aV A s) (hS : va_S A s.heap H locs) (hAB : ∀ q, B q → A q) : ∀ U : State, U.heap = H → s.WarmedH U.vm → xZ aK aV B U := by
  intro U hU hW
  obtain ⟨h1, h2, ⟨h3, h4, h5, h6⟩, h7, h8⟩ := h
  unfold xZ
  rw [hU]
  exact ⟨h1.moved hW.alike, h2.warm hW, ⟨((h3.kept hS.2.1).narrow hAB).moved hW.alike, ((h4.kept hS.2.1).narrow hAB).moved hW.alike, ((h5.kept hS.2.1).narrow hAB).moved hW.alike, ((h6.kept hS.2.1).narrow hAB).moved hW.alike⟩, ((h7.kept hS.2.1).narrow hAB).moved hW.alike, ((h8.kept hS.2.1).narrow hAB).moved hW.alike⟩
theorem xZ.calling {aK aV : Nat} {A : Nat → Prop} {U : State} {g : JFrame} {mk : MethodId} {a : Array Value} (h : xZ aK aV A U) : xZ aK aV A (U.calling g mk a) := by
  obtain ⟨h1, h2, ⟨h3, h4, h5, h6⟩, h7, h8⟩ := h
  exact ⟨h1.moved (u := U) (U := U.calling g mk a) (Vm.Alike.refl U.vm), vk_R.same (u := U) rfl h2, ⟨h3.moved (u := U) (U := U.calling g mk a) (Vm.Alike.refl U.vm), h4.moved (u := U) (U := U.calling g mk a) (Vm.Alike.refl U.vm), h5.moved (u := U) (U := U.calling g mk a) (Vm.Alike.refl U.vm), h6.moved (u := U) (U := U.calling g mk a) (Vm.Alike.refl U.vm)⟩, h7.moved (u := U) (U := U.calling g mk a) (Vm.Alike.refl U.vm), h8.moved (u := U) (U := U.calling g mk a) (Vm.Alike.refl U.vm)⟩
def xPcZ (aK aV : Nat) (D : va_G) (tys : List (ClassId × FieldType)) (bs : List va_W) (As : List Value) (sz : Nat) : Array Value → State → Prop := va_Pc As (fun U => U.heap.size = sz ∧ va_P D vwCl bs.flatten U.heap ∧ va_K D vwCl tys U ∧ va_D (fun _ => True) bs.flatten ∧ xNw U ∧ xZ aK aV (va_A bs.flatten sz) U)
def xCZ (aK aV : Nat) (l : Launch) (y : MethodName) (ws : List Cond) (rm : Room) (D : va_G) (tys : List (ClassId × FieldType)) (bs : List va_W) (As : List Value) (Qf : (Nat → Prop) → Array Value → State → Outcome → State → Prop) (mc ms : Nat) : Prop :=
  ∀ sz : Nat, Met l y ws rm (xPcZ aK aV D tys bs As sz) (Qf (va_A bs.flatten sz)) mc ms (va_A bs.flatten sz)
theorem xPcZ_blind {aK aV : Nat} {D : va_G} {tys : List (ClassId × FieldType)} {bs : List va_W} {As : List Value} {sz : Nat} : FrameBlind (xPcZ aK aV D tys bs As sz) := by
  intro a U g mk h
  obtain ⟨q0, q1, qP, qK, qD, qN, qZ⟩ := h
  exact ⟨q0, q1, qP, va_K.moved (u := U) (U := U.calling g mk a) (Vm.Alike.refl U.vm) qK, qD, qN.calling, qZ.calling⟩
section XENTZ
theorem x_enterZ {l : Launch} {D : va_G} {tys : List (ClassId × FieldType)} {bs : List va_W} {aK aV : Nat} {cc : ByteArray} {y : MethodName} {ws ws' : List Cond} {rm : Room} {As : List Value} {Qf : (Nat → Prop) → Array Value → State → Outcome → State → Prop} {mc ms : Nat} {maxL : Nat} {ret : Option FieldType}
    (hy : plainName y.cls = true) (hw : ws = Cond.code y cc maxL ret :: ws') (hsl : (lg_sl As).length ≤ maxL)
    (body : ∀ (p : Program) (e : Env) (s : State) (m : MethodId) (below : List Frame) (meth : Method) (c : Code) (A : Nat → Prop) (ls : Array Slot) (H : Heap) (locs : List Loc), CallFix p m c cc maxL s As.toArray ws y.cls → meth.sig.returnType = ret → meth.locks = false → meth.name = y.name → xM D tys bs A s.heap s H locs → lv_has ls maxL (lv_args 0 As) → xZ aK aV A s →
      W p l e rm s m As.toArray below meth c H locs 0 0 (MQ below (Qf A) As.toArray s mc ms A) (F0 m 0 ls [])) : xCZ aK aV l y ws rm D tys bs As Qf mc ms := by
  intro sz
  refine Met.ofW (cc := cc) (maxL := maxL) (ret := ret) hy hw ?_
  intro p e s m args below meth c s₁ B hml hv
  obtain ⟨rfl, hsz, hP, hK, hD0, hN, hZ⟩ := hv
  subst hsz
  rw [lg_entry_eq]
  have hD := hD0.self (sz := s.heap.size)
  exact body p e s m below meth c _ _ _ _ ⟨B.exec, B.bytes, hml, findClass_of_methodNamed B.named, atoms_spec (ws := ws) B.pre⟩ B.returns B.notSynchronized ((name_of_methodNamed B.named B.method).1) ⟨hK, hP, hD, va_S.rf, fun q h => Or.inr h, hN⟩ (lv_entry As hsl) hZ
end XENTZ
section XCALLZ
variable {p : Program} {l : Launch} {e : Env} {R : Room} {s : State} {m : MethodId} {args : Array Value} {below : List Frame} {meth : Method} {c : Code} {H : Heap} {locs : List Loc} {cells slots : Nat} {Q : State → Prop}
variable {cc : ByteArray} {pc : Nat} {ls : Array Slot} {rest st0 As : List Value} {D : va_G} {A : Nat → Prop} {b0 : Nat} {tys : List (ClassId × FieldType)} {bs bc br : List va_W} {mc ms : Nat} {av : Array Value}
variable {y : MethodName} {bytes : ByteArray} {maxL nL n index aK aV : Nat} {ret : Option FieldType} {ws : List Cond} {rm : Room} {Ts : List Cond} {own C : String} {Qf : (Nat → Prop) → Array Value → State → Outcome → State → Prop}
theorem x_runVZ (S : CallFix p m c cc nL s args Ts own) (hcon : xCZ aK aV l y ws rm D tys bc (.ref aK :: As) Qf mc ms) (cw : CallW R s args own "java/lang/String" index y bytes maxL ret ws rm mc ms n)
    (hM : xM D tys bs A s.heap s H locs) (hZ : xZ aK aV A s) (is : List Nat) (hnd : va_nd is = true) (hC : is.map (fun i => bs[i]?) = bc.map some)
    (hn : As.length = n) (hsize : ls.size = nL) (hstack : st0 = As.reverse ++ .ref aK :: rest) (hW : (rest.map fun v => v.category).sum ≤ 8) (hdg : decode cc pc = .ok (.invokevirtual index, 3)) (hf : cells + mc ≤ R.cells ∧ slots + ms ≤ R.slots) :
    va_Run p l e R s m args below meth c H locs cells slots mc ms (F0 m pc ls st0) rest (Qf (va_A bc.flatten H.size) (Value.ref aK :: As).toArray) (va_A bc.flatten H.size) := by
  obtain ⟨cell, g1, g2, g3, -⟩ := hZ.2.2.1.1.kept hM.2.2.2.1.2.1
  exact va_runV S (hcon H.size) cw ⟨xPcZ_blind, ⟨cell, g1, g2, g3⟩, fun U hU hW => ⟨rfl, by rw [hU], by rw [hU]; exact x_psel hC hM.2.1, va_K.moved hW.alike hM.1, (x_dsel hnd hC hM.2.2.1).weaken (fun _ _ _ _ => trivial), hM.2.2.2.2.2.warm hW, hZ.pass hM.2.2.2.1 (x_afree hM is hC) U hU hW⟩⟩ rfl hn hsize hstack (lv_room hW) hdg hf
theorem x_runSZ (S : CallFix p m c cc nL s args Ts own) (hcon : xCZ aK aV l y ws rm D tys bc As Qf mc ms) (cw : CallB R s args own index y bytes maxL ret ws rm mc ms n ∧ (Cond.static y).before args s = true)
    (hM : xM D tys bs A s.heap s H locs) (hZ : xZ aK aV A s) (is : List Nat) (hnd : va_nd is = true) (hC : is.map (fun i => bs[i]?) = bc.map some)
    (hn : As.length = n) (hsize : ls.size = nL) (hstack : st0 = As.reverse ++ rest) (hW : (rest.map fun v => v.category).sum ≤ 8) (hdg : decode cc pc = .ok (.invokestatic index, 3)) (hf : cells + mc ≤ R.cells ∧ slots + ms ≤ R.slots) :
    va_Run p l e R s m args below meth c H locs cells slots mc ms (F0 m pc ls st0) rest (Qf (va_A bc.flatten H.size) As.toArray) (va_A bc.flatten H.size) :=
  va_runS S (hcon H.size) cw ⟨xPcZ_blind, fun U hU hW => ⟨rfl, by rw [hU], by rw [hU]; exact x_psel hC hM.2.1, va_K.moved hW.alike hM.1, (x_dsel hnd hC hM.2.2.1).weaken (fun _ _ _ _ => trivial), hM.2.2.2.2.2.warm hW, hZ.pass hM.2.2.2.1 (x_afree hM is hC) U hU hW⟩⟩ rfl hn hsize hstack (lv_room hW) hdg hf
theorem x_runIZ (S : CallFix p m c cc nL s args Ts own) (hcon : xCZ aK aV l y ws rm D tys bc (.ref b0 :: As) Qf mc ms) (cw : CallB R s args own index y bytes maxL none ws rm mc ms n ∧ y.name = "<init>" ∧ (Cond.instanceMethod y).before args s = true)
    (hM : xM D tys bs A s.heap s H locs) (hZ : xZ aK aV A s) (is : List Nat) (hnd : va_nd is = true) (hC : is.map (fun i => bs[i]?) = bc.map some)
    (hn : As.length = n) (hsize : ls.size = nL) (hstack : st0 = As.reverse ++ .ref b0 :: rest) (hW : (rest.map fun v => v.category).sum ≤ 8) (hdg : decode cc pc = .ok (.invokespecial index, 3)) (hf : cells + mc ≤ R.cells ∧ slots + ms ≤ R.slots) :
    va_Run p l e R s m args below meth c H locs cells slots mc ms (F0 m pc ls st0) rest (Qf (va_A bc.flatten H.size) (Value.ref b0 :: As).toArray) (va_A bc.flatten H.size) :=
  va_runI S (hcon H.size) cw ⟨xPcZ_blind, fun U hU hW => ⟨rfl, by rw [hU], by rw [hU]; exact x_psel hC hM.2.1, va_K.moved hW.alike hM.1, (x_dsel hnd hC hM.2.2.1).weaken (fun _ _ _ _ => trivial), hM.2.2.2.2.2.warm hW, hZ.pass hM.2.2.2.1 (x_afree hM is hC) U hU hW⟩⟩ rfl hn hsize hstack (lv_room hW) hdg hf
theorem x_runIN {host : String} {H0 : Heap} (S : CallFix p m c cc nL s args Ts own) (hcon : xC l y ws rm D tys bc (.ref b0 :: As) Qf mc ms) (cw : va_CN R s args own index y host bytes maxL none ws rm mc ms n ∧ y.name = "<init>" ∧ (Cond.instanceMethod y).before args s = true)
    (hM : xM D tys bs A H0 s H locs) (is : List Nat) (hnd : va_nd is = true) (hC : is.map (fun i => bs[i]?) = bc.map some)
    (hn : As.length = n) (hsize : ls.size = nL) (hstack : st0 = As.reverse ++ .ref b0 :: rest) (hW : (rest.map fun v => v.category).sum ≤ 8) (hdg : decode cc pc = .ok (.invokespecial index, 3)) (hf : cells + mc ≤ R.cells ∧ slots + ms ≤ R.slots) :
    va_Run p l e R s m args below meth c H locs cells slots mc ms (F0 m pc ls st0) rest (Qf (va_A bc.flatten H.size) (Value.ref b0 :: As).toArray) (va_A bc.flatten H.size) :=
  va_runIN S (hcon H.size) cw ⟨xPc_blind, fun U hU hW => ⟨rfl, by rw [hU], by rw [hU]; exact x_psel hC hM.2.1, va_K.moved hW.alike hM.1, (x_dsel hnd hC hM.2.2.1).weaken (fun _ _ _ _ => trivial), hM.2.2.2.2.2.warm hW⟩⟩ rfl hn hsize hstack (lv_room hW) hdg hf
end XCALLZ
