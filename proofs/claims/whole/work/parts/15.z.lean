/-! own words: gifts tried, wants, sets, prices, soups -/
theorem kGoN_w {kd : Nat → Int32} {G nH : Nat} {ei eo pa : Nat → Int32} {E : Nat} {z : Int32} {K : Nat → Int32} (w h w' h' : Int32) : ∀ n, (kGoN kd G nH ei eo pa E z (K, w, h) n).1 = (kGoN kd G nH ei eo pa E z (K, w', h') n).1
  | 0 => rfl
  | n + 1 => by
    have ih := kGoN_w (kd := kd) (G := G) (nH := nH) (ei := ei) (eo := eo) (pa := pa) (E := E) (z := z) (K := K) w h w' h' n
    have key : ∀ (t : Nat) (a : Nat → Int32) (b c d f : Int32) (m : Nat), (kEF ei eo pa t z (a, b, c) m).1 = (kEF ei eo pa t z (a, d, f) m).1 := by
      intro t a b c d f m
      induction m with
      | zero => rfl
      | succ m ihm =>
        rw [kEF, kEF]
        split
        · unfold kEat
          rw [ihm]
          split <;> rfl
        · exact ihm
    rw [kGoN, kGoN]
    unfold kGo
    rw [ih]
    exact key _ _ _ _ _ _ _
theorem xspl_congr {s K K' : Nat → Int32} {b : Nat} (h : ∀ j, j < 67 → K j = K' j) : xspl s b K = xspl s b K' := by
  funext j
  simp only [xspl]
  split
  · exact h _ (by omega)
  · rfl
theorem xreg_r11 (s u : Nat → Int32) {j : Nat} (hj : j < 67) : xreg (xspl s 11 u) 0 j = xreg s 0 j := by
  simp only [xreg]
  exact xspl_out (by omega)
theorem xcopy_011 (s u : Nat → Int32) : xspl (xspl s 11 u) 11 (xreg (xspl s 11 u) 0) = xspl s 11 (xreg s 0) := by
  rw [xspl_spl]
  exact xspl_congr (fun j hj => xreg_r11 s u hj)
theorem okK_r11 {s u : Nat → Int32} (h : okK (xreg s 0)) : okK (xreg (xspl s 11 u) 0) := okK_same h (fun j _ h2 => xreg_r11 s u (by omega))
theorem xref_r11 {s u : Nat → Int32} {a b : Int32} {j : Nat} {n : Int32} (hj : j < 67) : xref (xreg (xspl s 11 u) 0) a b j n = xref (xreg s 0) a b j n := by
  unfold xref
  rw [xreg_r11 s u hj, xreg_r11 s u (by omega), xreg_r11 s u (by omega)]
theorem okK_add {K : Nat → Int32} (h : okK K) {a g : Nat} {n : Int32} (ha : a < 5) (hg : g < 5) : okK (kAdd K a g n) := okK_same h (fun j h1 _ => upd_ne _ _ (by omega))
theorem okK_give {K : Nat → Int32} (h : okK K) {d n : Int32} {fr to g : Nat} (hfr : fr < 5) (hto : to < 5) (hg : g < 5) (hw : d = 0 ∨ tn (K 26) ≤ 5) : okK (kGive K d fr to g n) ∧ kGive K d fr to g n 25 = K 25 := by
  unfold kGive
  split
  · exact ⟨okK_add (okK_add h hfr hg) hto hg, (upd_ne _ _ (by omega)).trans (upd_ne _ _ (by omega))⟩
  · rename_i hd
    have h5 : tn (K 26) ≤ 5 := hw.resolve_left hd
    have ha := okK_add (n := -n) h hfr hg
    have e25 : kAdd K fr g (-n) 25 = K 25 := upd_ne _ _ (by omega)
    have e26 : kAdd K fr g (-n) 26 = K 26 := upd_ne _ _ (by omega)
    generalize kAdd K fr g (-n) = K1 at ha e25 e26
    generalize hM : upd (upd (upd (upd (upd K1 (26 + 1 + 4 * tn (K 26)) (nI to)) (26 + 1 + 4 * tn (K 26) + 1) (nI g)) (26 + 1 + 4 * tn (K 26) + 2) n) (26 + 1 + 4 * tn (K 26) + 3) (K 25 + d)) 26 (K 26 + nI 1) = M
    have m26 : M 26 = nI (tn (K 26) + 1) := by
      rw [← hM, upd_at, ← nI_add, ← h.2.1.1]
    have m25 : M 25 = K 25 := by
      rw [← hM, upd_ne _ _ (by omega), upd_ne _ _ (by omega), upd_ne _ _ (by omega), upd_ne _ _ (by omega), upd_ne _ _ (by omega), e25]
    have lo : ∀ k, k < tn (K 26) → ∀ i, i < 4 → M (26 + 1 + 4 * k + i) = K1 (26 + 1 + 4 * k + i) := by
      intro k hk i hi
      rw [← hM, upd_ne _ _ (by omega), upd_ne _ _ (by omega), upd_ne _ _ (by omega), upd_ne _ _ (by omega), upd_ne _ _ (by omega)]
    have n0 : M (26 + 1 + 4 * tn (K 26)) = nI to := by
      rw [← hM, upd_ne _ _ (by omega), upd_ne _ _ (by omega), upd_ne _ _ (by omega), upd_ne _ _ (by omega), upd_at]
    have n1 : M (26 + 1 + 4 * tn (K 26) + 1) = nI g := by
      rw [← hM, upd_ne _ _ (by omega), upd_ne _ _ (by omega), upd_ne _ _ (by omega), upd_at]
    refine ⟨⟨by rw [m25]; exact h.1, by rw [m26, tn_nI (by omega)]; exact ⟨rfl, by omega⟩, fun k hk => ?_⟩, m25⟩
    rw [m26, tn_nI (by omega)] at hk
    by_cases hz : k = tn (K 26)
    · subst hz
      unfold okG
      rw [n0, n1, tn_nI (by omega), tn_nI (by omega)]
      exact ⟨⟨rfl, hto⟩, rfl, hg⟩
    · have h1 := ha.2.2 k (by rw [e26]; omega)
      have l0 := lo k (by omega) 0 (by omega)
      have l1 := lo k (by omega) 1 (by omega)
      unfold okG at h1 ⊢
      rw [show M (26 + 1 + 4 * k) = K1 (26 + 1 + 4 * k) from l0, l1]
      exact h1
/-- a gift by its number; what is left by it -/
abbrev xgOk (sp : Nat → Int32) (G nH : Nat) (K : Nat → Int32) (k : Nat) : Prop := k / 1000 < nH ∧ k / 100 % 10 < nH ∧ ¬ k / 1000 = k / 100 % 10 ∧ k / 10 % 10 < G ∧ ¬ k % 10 = 0 ∧ xref K (sp (k / 1000)) (sp (k / 100 % 10)) (5 * (k / 1000) + k / 10 % 10) (nI (k % 10)) = 0
abbrev xgK (sp : Nat → Int32) (K : Nat → Int32) (k : Nat) : Nat → Int32 := kGive K (xap (sp (k / 1000)) (sp (k / 100 % 10))) (k / 1000) (k / 100 % 10) (k / 10 % 10) (nI (k % 10))
def xgV (wo kd : Nat → Int32) (G nH : Nat) (ei eo pa : Nat → Int32) (E : Nat) (sp K : Nat → Int32) (k : Nat) : Int32 := kWA wo kd G nH (kGoN kd G nH ei eo pa E (-4) (xgK sp K k, -4, nI 0) (60 - tn (xgK sp K k 25))).1
def xgB (wo kd : Nat → Int32) (G nH : Nat) (ei eo pa : Nat → Int32) (E : Nat) (sp K : Nat → Int32) (w0 : Int32) : Nat → Int32 × Int32
  | 0 => (-4, w0)
  | k + 1 => if xgOk sp G nH K k ∧ xgV wo kd G nH ei eo pa E sp K k < (xgB wo kd G nH ei eo pa E sp K w0 k).2 then (nI k, xgV wo kd G nH ei eo pa E sp K k) else xgB wo kd G nH ei eo pa E sp K w0 k
theorem xgB_1 {wo kd : Nat → Int32} {G nH : Nat} {ei eo pa : Nat → Int32} {E : Nat} {sp K : Nat → Int32} {w0 : Int32} {k : Nat} (h : xgOk sp G nH K k) (h2 : xgV wo kd G nH ei eo pa E sp K k < (xgB wo kd G nH ei eo pa E sp K w0 k).2) : xgB wo kd G nH ei eo pa E sp K w0 (k + 1) = (nI k, xgV wo kd G nH ei eo pa E sp K k) := if_pos ⟨h, h2⟩
theorem xgB_2 {wo kd : Nat → Int32} {G nH : Nat} {ei eo pa : Nat → Int32} {E : Nat} {sp K : Nat → Int32} {w0 : Int32} {k : Nat} (h2 : ¬ xgV wo kd G nH ei eo pa E sp K k < (xgB wo kd G nH ei eo pa E sp K w0 k).2) : xgB wo kd G nH ei eo pa E sp K w0 (k + 1) = xgB wo kd G nH ei eo pa E sp K w0 k := if_neg (fun z => h2 z.2)
theorem xgB_0 {wo kd : Nat → Int32} {G nH : Nat} {ei eo pa : Nat → Int32} {E : Nat} {sp K : Nat → Int32} {w0 : Int32} {k : Nat} (h : ¬ xgOk sp G nH K k) : xgB wo kd G nH ei eo pa E sp K w0 (k + 1) = xgB wo kd G nH ei eo pa E sp K w0 k := if_neg (fun z => h z.1)
def xfill (s f : Nat → Int32) (n : Nat) : Nat → Int32 := fun j => if j < n then f j else s j
theorem xfill_0 (s f : Nat → Int32) : xfill s f 0 = s := rfl
theorem xfill_s (s f : Nat → Int32) (n : Nat) : upd (xfill s f n) n (f n) = xfill s f (n + 1) := by
  funext j
  simp only [upd, xfill]
  by_cases h : j = n
  · subst h
    rw [if_pos rfl, if_pos (by omega)]
  · rw [if_neg h]
    by_cases h2 : j < n
    · rw [if_pos h2, if_pos (by omega)]
    · rw [if_neg h2, if_neg (by omega)]
def xwt (ei eo : Nat → Int32) (g : Nat) (d w0 : Nat → Int32) : Nat → Nat → Int32
  | 0 => w0
  | n + 1 => upd (xwt ei eo g d w0 n) (tn (ei n)) (xwt ei eo g d w0 n (tn (ei n)) + (if eo n = nI g then d n else nI 0))
theorem xwt_p {ei eo : Nat → Int32} {g : Nat} {d w0 : Nat → Int32} {n : Nat} (h : eo n = nI g) : upd (xwt ei eo g d w0 n) (tn (ei n)) (xwt ei eo g d w0 n (tn (ei n)) + d n) = xwt ei eo g d w0 (n + 1) := by
  rw [xwt, if_pos h]
theorem xwt_n {ei eo : Nat → Int32} {g : Nat} {d w0 : Nat → Int32} {n : Nat} (h : ¬ eo n = nI g) : upd (xwt ei eo g d w0 n) (tn (ei n)) (xwt ei eo g d w0 n (tn (ei n)) + nI 0) = xwt ei eo g d w0 (n + 1) := by
  rw [xwt, if_neg h]
theorem xadd_p {s a b : Int32} {P : Prop} [Decidable P] (h : P) : s + a = s + (if P then a else b) := by rw [if_pos h]
theorem xadd_n {s a b : Int32} {P : Prop} [Decidable P] (h : ¬ P) : s + b = s + (if P then a else b) := by rw [if_neg h]
theorem x_shl1 : ∀ {n : Nat}, n ≤ 5 → nI 1 <<< (nI n &&& nI 31) = nI (2 ^ n) := by
  intro n hn
  have key : ∀ n, n < 6 → nI 1 <<< (nI n &&& nI 31) = nI (2 ^ n) := by decide +kernel
  exact key n (by omega)
theorem x_pow5 {n : Nat} (h : n ≤ 5) : 2 ^ n ≤ 32 := Nat.pow_le_pow_right (by decide) h
/-- sets of houses by their worth: how many, the lowest -/
def xsw (f : Nat → Int32) (set : Nat) : Nat → Int32 := xsum (fun h => if set / 2 ^ h % 2 = 1 then f h else nI 0)
def xsv (F : Nat → Int32) (v : Nat) : Nat → Nat × Int32
  | 0 => (0, -4)
  | s + 1 => (if F s = nI v then (xsv F v s).1 + 1 else (xsv F v s).1, if F s = nI v ∧ (xsv F v s).1 = 0 then nI s else (xsv F v s).2)
theorem xsv_le (F : Nat → Int32) (v : Nat) : ∀ s, (xsv F v s).1 ≤ s
  | 0 => Nat.le_refl 0
  | s + 1 => by
    have := xsv_le F v s
    rw [xsv]
    dsimp only
    by_cases h : F s = nI v
    · rw [if_pos h]; exact Nat.succ_le_succ this
    · rw [if_neg h]; exact Nat.le_succ_of_le this
/-- what is brought by waiting -/
def xbT (x : Nat) : Nat → Int64
  | 0 => 10000000000
  | t + 1 => xbT x t / 10 * (nI 10 - nI x).toInt64
def xbG (v a b x t : Nat) : Int64 := xbT x t * (nI v - nI (a - b * t)).toInt64
def xbR (v a b x : Nat) : Nat → Int64 × Int32
  | 0 => (0, -4)
  | t + 1 => if (xbR v a b x t).2 < 0 ∨ (xbR v a b x t).1 < xbG v a b x t then (xbG v a b x t, nI t) else xbR v a b x t
theorem xbR_1 {v a b x t : Nat} (h : (xbR v a b x t).2 < 0 ∨ (xbR v a b x t).1 < xbG v a b x t) : xbR v a b x (t + 1) = (xbG v a b x t, nI t) := if_pos h
theorem xbR_0 {v a b x t : Nat} (h : ¬ (xbR v a b x t).2 < 0) (h2 : ¬ (xbR v a b x t).1 < xbG v a b x t) : xbR v a b x (t + 1) = xbR v a b x t := if_neg (fun z => z.elim h h2)
theorem xcost (a c : Nat) : (if a ≤ c then 0 else a - c) = a - c := by
  split <;> omega
def xbA (v a b x : Nat) : Int64 := (xbR v a b x 11).1 + 1000 * 10000000000
def xbuy (v a b x what : Nat) : Int64 := if what = 0 then (xbR v a b x 11).2.toInt64 else if what = 1 then xbA v a b x / xgcd (xbA v a b x) 10000000000 else 10000000000 / xgcd (xbA v a b x) 10000000000
theorem xgcd_ne64 {x : Int64} : ¬ xgcd x 10000000000 = 0 := by
  intro z
  have e := congrArg Int64.toInt z
  have e10 : (10000000000 : Int64).toInt.toNat = 10000000000 := by decide
  have e0 : (0 : Int64).toInt = 0 := by decide
  have hd : Nat.gcd x.toInt.toNat 10000000000 ≤ 10000000000 := Nat.gcd_le_right _ (by decide)
  have hp : 0 < Nat.gcd x.toInt.toNat 10000000000 := Nat.gcd_pos_of_pos_right _ (by decide)
  unfold xgcd at e
  rw [e10, Int64.toInt_ofInt, Jvm.Kit.bmod64 (by omega) (by omega), e0] at e
  omega
def xuse (s : Nat → Int32) (i j : Nat) (n : Int32) : Nat → Int32 := upd (upd s i (s i - n)) j (upd s i (s i - n) j - n)
def xmo (s : Nat → Int32) (i j : Nat) : Int32 := if i = j then s i / nI 2 else if s i < s j then s i else s j
