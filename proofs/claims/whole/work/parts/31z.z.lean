/-! own rows: rows of references; own words: piles of kitchens -/
section XREFS
variable {p : Program} {l : Launch} {e : Env} {R : Room} {s : State} {m : MethodId} {args : Array Value} {below : List Frame} {meth : Method} {c : Code} {H : Heap} {locs : List Loc} {cells slots : Nat} {Q : State → Prop}
variable {cc : ByteArray} {pc : Nat} {ls : Array Slot} {rest : List Value} {D : va_G} {A : Nat → Prop} {H0 : Heap} {a : Nat} {tys : List (ClassId × FieldType)} {bs : List va_W}
theorem x_aald (hexec : p.tables.exec = Jvm.exec) (hb : c.code = cc) (hM : xM D tys bs A H0 s H locs) (i j t0 : Nat) {b : va_W} {cA : ClassId} {C : String} {n : Nat} {f : Nat → Option Nat} (hbi : bs[i]? = some b) (ha : b[j]? = some (a, .inl (cA, n, .inr (.inr (.inr (.inr f)))))) (ht : tys[t0]? = some (cA, .object C)) {t v : Nat} (hlt : t < n) (hn : n < 2 ^ 31) (hf : f t = some v) (hdg : decode cc pc = .ok (.aaload, 1))
    (kk : W p l e R s m args below meth c H locs cells slots Q (F0 m (pc + 1) ls (.ref v :: rest))) : W p l e R s m args below meth c H locs cells slots Q (F0 m pc ls (.int (nI t) :: .ref a :: rest)) := by
  refine va_aldq hexec hb hM.1 hM.2.1 _ t0 (x_idx bs i j hbi ha).1 ht (vp_in_nI hlt hn) hdg ?_
  rw [nI_clamp (Nat.lt_trans hlt hn), hf]
  exact kk
theorem x_aast (hexec : p.tables.exec = Jvm.exec) (hb : c.code = cc) (hM : xM D tys bs A H0 s H locs) (i j t0 : Nat) {b : va_W} {cA : ClassId} {r : vw_C} {n : Nat} {f : Nat → Option Nat} (hbi : bs[i]? = some b) (ha : b[j]? = some (a, .inl (cA, n, .inr (.inr (.inr (.inr f)))))) (ht : tys[t0]? = some (cA, .object r.1)) {t v : Nat} (i2 j2 : Nat) {b2 : va_W} {ci : Nat} {vs : List Value} (hbi2 : bs[i2]? = some b2) (hv : b2[j2]? = some (v, .inr (ci, vs))) (hc : vwCl[ci]? = some r) (hlt : t < n) (hn : n < 2 ^ 31) (bs' : List va_W) (hbs : bs.set i (b.set j (a, .inl (cA, n, .inr (.inr (.inr (.inr (va_up f t (some v)))))))) = bs') (hdg : decode cc pc = .ok (.aastore, 1))
    (kk : ∀ (H1 : Heap) (locs1 : List Loc), xM D tys bs' A H0 s H1 locs1 → W p l e R s m args below meth c H1 locs1 cells slots Q (F0 m (pc + 1) ls rest)) : W p l e R s m args below meth c H locs cells slots Q (F0 m pc ls (.ref v :: .int (nI t) :: .ref a :: rest)) := by
  obtain ⟨e1, e2⟩ := x_idx bs i j hbi ha
  refine va_astq hexec hb hM.1 hM.2.1 hM.2.2.1 hM.2.2.2.1 _ t0 _ ci e1 ht (x_idx bs i2 j2 hbi2 hv).1 hc (vp_in_nI hlt hn) hdg (fun H1 locs1 hP hD hS => ?_)
  rw [nI_clamp (Nat.lt_trans hlt hn), e2, hbs] at hP hD
  exact kk H1 locs1 ⟨hM.1, hP, hD, hS, hM.2.2.2.2⟩
end XREFS
def wpf (q : Nat → ClassId) (pd : Nat → Nat) (f : Nat → Option Nat) (n : Nat) (h : Int32) : va_W := [(pd 0, .inr (4, [.ref (pd 1), .int h])), (pd 1, .inl (q 3, n, .inr (.inr (.inr (.inr f)))))]
def wp (q : Nat → ClassId) (pd : Nat → Nat) (ka : Nat → Nat → Nat) (n : Nat) (h : Int32) : va_W := wpf q pd (fun y6 => some (ka y6 0)) n h
def wpl (q : Nat → ClassId) (ka : Nat → Nat → Nat) (K : Nat → Nat → Int32) : Nat → va_W
  | 0 => []
  | n + 1 => wpl q ka K n ++ wk q (ka n) (K n)
def kfs (ad : Nat → Nat) (K : Nat → Int32) : List Value := [.int (K 25), .int (K 26), .ref (ad 3), .ref (ad 4), .ref (ad 5), .ref (ad 6)]
theorem wpl_len (q : Nat → ClassId) (ka : Nat → Nat → Nat) (K : Nat → Nat → Int32) : ∀ n, (wpl q ka K n).length = 5 * n
  | 0 => rfl
  | n + 1 => by
    rw [wpl, List.length_append, wpl_len q ka K n]
    show 5 * n + 5 = 5 * (n + 1)
    omega
theorem wpl_at {q : Nat → ClassId} {ka : Nat → Nat → Nat} {K : Nat → Nat → Int32} : ∀ {n i : Nat}, i < n → (wpl q ka K n)[5 * i]? = some (ka i 0, .inr (1, kfs (ka i) (K i)))
  | 0, i, h => absurd h (Nat.not_lt_zero i)
  | n + 1, i, h => by
    rw [wpl]
    by_cases hz : i = n
    · subst hz
      rw [List.getElem?_append_right (by rw [wpl_len]; exact Nat.le_refl _), wpl_len, Nat.sub_self]
      rfl
    · rw [List.getElem?_append_left (by rw [wpl_len]; omega)]
      exact wpl_at (by omega)
theorem wpl_congr {q : Nat → ClassId} {ka ka' : Nat → Nat → Nat} {K K' : Nat → Nat → Int32} : ∀ {n : Nat}, (∀ i, i < n → ka i = ka' i ∧ K i = K' i) → wpl q ka K n = wpl q ka' K' n
  | 0, _ => rfl
  | n + 1, h => by
    rw [wpl, wpl, wpl_congr (fun i hi => h i (by omega)), (h n (by omega)).1, (h n (by omega)).2]
theorem wpl_add (q : Nat → ClassId) (ka : Nat → Nat → Nat) (K : Nat → Nat → Int32) (a : Nat) : ∀ b, wpl q ka K (a + b) = wpl q ka K a ++ wpl q (fun i => ka (a + i)) (fun i => K (a + i)) b
  | 0 => (List.append_nil _).symm
  | b + 1 => by
    rw [← Nat.add_assoc, wpl, wpl, wpl_add q ka K a b, List.append_assoc]
abbrev wplR (q : Nat → ClassId) (ka : Nat → Nat → Nat) (K : Nat → Nat → Int32) (h n : Nat) : va_W := wpl q (fun i => ka (h + 1 + i)) (fun i => K (h + 1 + i)) (n - (h + 1))
theorem wpl_cut {q : Nat → ClassId} {ka : Nat → Nat → Nat} {K : Nat → Nat → Int32} {h n : Nat} (hn : h < n) : wpl q ka K n = wpl q ka K h ++ (wk q (ka h) (K h) ++ wplR q ka K h n) := by
  have e := wpl_add q ka K (h + 1) (n - (h + 1))
  rw [show h + 1 + (n - (h + 1)) = n by omega, wpl, List.append_assoc] at e
  exact e
def updR (K : Nat → Nat → Int32) (h : Nat) (N : Nat → Int32) : Nat → Nat → Int32 := fun i => if i = h then N else K i
theorem updR_at (K : Nat → Nat → Int32) (h : Nat) (N : Nat → Int32) : updR K h N h = N := if_pos rfl
theorem updR_ne {K : Nat → Nat → Int32} {h i : Nat} {N : Nat → Int32} (hi : i ≠ h) : updR K h N i = K i := if_neg hi
theorem wpl_upd {q : Nat → ClassId} {ka : Nat → Nat → Nat} {K : Nat → Nat → Int32} {h n : Nat} {N : Nat → Int32} (hn : h < n) : wpl q ka (updR K h N) n = wpl q ka K h ++ (wk q (ka h) N ++ wplR q ka K h n) := by
  rw [wpl_cut hn, updR_at, wpl_congr (ka' := ka) (K' := K) (n := h) (fun i hi => ⟨rfl, updR_ne (by omega)⟩)]
  congr 2
  exact wpl_congr (fun i hi => ⟨rfl, updR_ne (by omega)⟩)
def rotA (n : Nat) (ka : Nat → Nat → Nat) : Nat → Nat → Nat := fun i => if i + 1 < n then ka (i + 1) else if i + 1 = n then ka 0 else ka i
def rotK (n : Nat) (K : Nat → Nat → Int32) : Nat → Nat → Int32 := fun i => if i + 1 < n then K (i + 1) else if i + 1 = n then K 0 else K i
theorem wpl_rot {q : Nat → ClassId} {ka : Nat → Nat → Nat} {K : Nat → Nat → Int32} {n : Nat} (hn : 0 < n) : wpl q (rotA n ka) (rotK n K) n = wplR q ka K 0 n ++ wk q (ka 0) (K 0) := by
  obtain ⟨m, rfl⟩ : ∃ m, n = m + 1 := ⟨n - 1, by omega⟩
  rw [wpl]
  have e1 : rotA (m + 1) ka m = ka 0 := by
    unfold rotA
    rw [if_neg (by omega), if_pos rfl]
  have e2 : rotK (m + 1) K m = K 0 := by
    unfold rotK
    rw [if_neg (by omega), if_pos rfl]
  rw [e1, e2]
  congr 1
  rw [show m = m + 1 - (0 + 1) by omega]
  refine wpl_congr (fun i hi => ⟨?_, ?_⟩)
  · unfold rotA
    rw [if_pos (by omega), show 0 + 1 + i = i + 1 by omega]
  · unfold rotK
    rw [if_pos (by omega), show 0 + 1 + i = i + 1 by omega]
/-- the references as they move down, the first i looked at -/
def xdrf (ka : Nat → Nat → Nat) (i : Nat) : Nat → Option Nat := fun j => if j + 1 < i then some (ka (j + 1) 0) else some (ka j 0)
theorem xdrf_1 (ka : Nat → Nat → Nat) : (fun y6 => some (ka y6 0)) = xdrf ka 1 := by
  funext j
  unfold xdrf
  rw [if_neg (by omega)]
theorem xdrf_s (ka : Nat → Nat → Nat) {i : Nat} (h : 1 ≤ i) : va_up (xdrf ka i) (i - 1) (some (ka i 0)) = xdrf ka (i + 1) := by
  funext j
  simp only [va_up, xdrf]
  by_cases hz : j = i - 1
  · subst hz
    rw [if_pos rfl, if_pos (by omega), show i - 1 + 1 = i by omega]
  · rw [if_neg hz]
    by_cases h2 : j + 1 < i
    · rw [if_pos h2, if_pos (by omega)]
    · rw [if_neg h2, if_neg (by omega)]
theorem xdrf_e (ka : Nat → Nat → Nat) {n : Nat} (h : 1 ≤ n) : va_up (xdrf ka n) (n - 1) (some (ka 0 0)) = (fun y6 => some (rotA n ka y6 0)) := by
  funext j
  simp only [va_up, xdrf, rotA]
  by_cases hz : j = n - 1
  · subst hz
    rw [if_pos rfl, if_neg (by omega), if_pos (by omega)]
  · rw [if_neg hz]
    by_cases h2 : j + 1 < n
    · rw [if_pos h2, if_pos h2]
    · rw [if_neg h2, if_neg h2, if_neg (by omega)]
theorem xdrf_g (ka : Nat → Nat → Nat) (i : Nat) : xdrf ka i i = some (ka i 0) := if_neg (by omega)
def xpA (n h : Nat) (ka : Nat → Nat → Nat) : Nat → Nat → Nat := if h < n then ka else rotA n ka
def xpK (n h : Nat) (K : Nat → Nat → Int32) (N : Nat → Int32) : Nat → Nat → Int32 := if h < n then updR K h N else updR (rotK n K) (n - 1) N
def xpH (n h : Nat) : Nat := if h < n then h + 1 else n
theorem x_fl1 {B : va_W} {P C Q : va_W} (h : B = P ++ (C ++ Q)) {X Y : List va_W} : (X ++ [B] ++ Y).flatten = (X ++ [P, C, Q] ++ Y).flatten := by
  subst h
  simp [List.flatten_append, List.append_assoc]
