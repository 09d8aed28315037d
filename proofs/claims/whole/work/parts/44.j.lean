/-! own words: to five, on both sides; numbers that are told -/
theorem i_nat {x : Int32} (h : 0 ≤ x.toInt) : ∃ n : Nat, x = nI n ∧ x.toInt = n := by
  have hlt := x.toInt_lt
  have e : (nI x.toInt.toNat).toInt = x.toInt.toNat := nI_toInt (by omega)
  exact ⟨x.toInt.toNat, Int32.toInt_inj.mp (by rw [e]; omega), by omega⟩
theorem i_m1 {x : Int32} (h : x.toInt = -1) : x = (-1) := Int32.toInt_inj.mp (by rw [h]; decide)
section GO5
variable {kd : Nat → Int32} {G nH : Nat} {ei eo pa : Nat → Int32} {E : Nat} {z w : Int32} {N R : Nat → Int32}
theorem go5 (hE : okE ei eo pa E) (hE8 : E ≤ 8) (hR : kR N R) : kAgr (kGoN kd G nH ei eo pa E z (N, -4, nI 0) (60 - tn (N 25))).1 (kGoN kd G nH ei eo pa E z (R, w, nI 0) (60 - tn (R 25))).1 := by
  rw [hR.1.k25]
  exact kGoN_agr hE hE8 hR.1 hR.2.1 _ (by have := hR.2.1.1.2; omega)
theorem go5R (hE : okE ei eo pa E) (hE8 : E ≤ 8) (hR : kR N R) : okR (kGoN kd G nH ei eo pa E z (R, w, nI 0) (60 - tn (R 25))).1 := okR_goN (x := (R, w, nI 0)) hE hE8 hR.2 _ (by have := hR.2.1.1.2; dsimp only; omega)
theorem goN_R {n : Nat} {b c b' c' : Int32} (hE : okE ei eo pa E) (hE8 : E ≤ 8) (hR : kR N R) (hn : tn (R 25) + n ≤ 60) : kR (kGoN kd G nH ei eo pa E z (N, b, c) n).1 (kGoN kd G nH ei eo pa E z (R, b', c') n).1 := ⟨kGoN_agr hE hE8 hR.1 hR.2.1 n hn, okR_goN (x := (R, b', c')) hE hE8 hR.2 n hn⟩
end GO5
theorem xsv_same {F F' : Nat → Int32} {v : Nat} : ∀ n, (∀ s, s < n → F s = F' s) → xsv F v n = xsv F' v n
  | 0, _ => rfl
  | n + 1, h => by rw [xsv, xsv, xsv_same n (fun s hs => h s (by omega)), h n (by omega)]
theorem xsw_same {f f' : Nat → Int32} {set n : Nat} (h : ∀ i, i < n → f i = f' i) : xsw f set n = xsw f' set n := xsum_congr (fun i hi => by rw [h i hi])
theorem xst_bd {kd K : Nat → Int32} {nH G g : Nat} (hP : okP K) (hH : nH ≤ 5) (hG : G ≤ 5) : 0 ≤ (xst kd K nH G g).toInt ∧ (xst kd K nH G g).toInt ≤ 1000 := by
  unfold xst
  by_cases hg : g < G
  · rw [if_pos hg]
    -- all of a good is no more than all
    have key : ∀ n, n ≤ nH → 0 ≤ (xsum (fun h => xlf (kd g) (K (5 * h + g))) n).toInt ∧ (xsum (fun h => xlf (kd g) (K (5 * h + g))) n).toInt ≤ isum (fun j => (K j).toInt) (5 * n) := by
      intro n
      induction n with
      | zero =>
        intro _
        have e0 : (xsum (fun h => xlf (kd g) (K (5 * h + g))) 0).toInt = 0 := rfl
        have e1 : isum (fun j => (K j).toInt) (5 * 0) = 0 := rfl
        omega
      | succ n ih =>
        intro hn
        obtain ⟨i1, i2⟩ := ih (by omega)
        have a := hP.1 (5 * n + g) (by omega)
        have c := xlf_bd (kd := kd g) a
        have m1 : isum (fun j => (K j).toInt) (5 * n) + (K (5 * n + g)).toInt ≤ isum (fun j => (K j).toInt) (5 * (n + 1)) := by
          have h0 := hP.1 (5 * n) (by omega)
          have h1 := hP.1 (5 * n + 1) (by omega)
          have h2 := hP.1 (5 * n + 2) (by omega)
          have h3 := hP.1 (5 * n + 3) (by omega)
          have h4 := hP.1 (5 * n + 4) (by omega)
          rw [show 5 * (n + 1) = 5 * n + 1 + 1 + 1 + 1 + 1 by omega, isum, isum, isum, isum, isum]
          have : g = 0 ∨ g = 1 ∨ g = 2 ∨ g = 3 ∨ g = 4 := by omega
          rcases this with rfl | rfl | rfl | rfl | rfl
          · rw [Nat.add_zero]; omega
          · omega
          · omega
          · omega
          · omega
        have m2 : isum (fun j => (K j).toInt) (5 * (n + 1)) ≤ pcs K := isum_mono hP.1 (by omega)
        have m3 := (okP_le hP).1
        rw [xsum, Jvm.Kit.i32_add (by omega) (by omega)]
        omega
    obtain ⟨k1, k2⟩ := key nH (Nat.le_refl _)
    have m2 : isum (fun j => (K j).toInt) (5 * nH) ≤ pcs K := isum_mono hP.1 (by omega)
    have m3 := (okP_le hP).1
    omega
  · rw [if_neg hg]
    exact ⟨by decide, by decide⟩
theorem xst_same {kd K K' : Nat → Int32} {nH G g : Nat} (h : kAgr K K') (hH : nH ≤ 5) (hG : G ≤ 5) : xst kd K nH G g = xst kd K' nH G g := by
  unfold xst
  by_cases hg : g < G
  · rw [if_pos hg, if_pos hg]
    exact xsum_congr (fun i hi => by rw [h.pc (j := 5 * i + g) (by omega)])
  · rw [if_neg hg, if_neg hg]
/-- what holds between two calls -/
def LI (ν0 : Nat → Int32) (ν2 : Int32) (X : Nat → Nat → Int32) (μ0 μ1 N : Nat → Int32) (uh : Nat) (U : Nat → Nat → Int32) (ph : Nat) (P : Nat → Nat → Int32) (σ0 : Int32) (σ1 : Nat → Int32) (S : Nat → Nat → Int32) (σ19 : Nat → Int32) (σ20 σ21 : Int32) : Prop :=
  (σ0 = nI (tn σ0) ∧ tn σ0 ≤ 200 ∧ ν2 = σ0 ∧ ∀ j, j < tn σ0 → ν0 j = σ1 j ∧ cN (σ1 j) 126) ∧
  (okT X S ∧ okM μ0 μ1 (S 11) (tn (S 8 0)) (-4) ∧ okV S) ∧
  kR N (xreg σ19 0) ∧ (σ20 = nI uh ∧ uh ≤ 8 ∧ kU uh U σ19) ∧ (σ21 = nI ph ∧ ph ≤ 2 ∧ kP ph P σ19)
theorem text_tie {ν0 σ1 : Nat → Int32} {v : Int32} {x : Nat} (hL : tn v ≤ 200) (hL1 : ¬ tn v = 200) (hx : x ≤ 126) (t4 : ∀ j, j < tn v → ν0 j = σ1 j ∧ cN (σ1 j) 126) : ∀ j, j < tn (nI (tn v + 1)) → upd ν0 (tn v) (nI x) j = upd σ1 (tn v) (nI x) j ∧ cN (upd σ1 (tn v) (nI x) j) 126 := by
  intro j hj
  rw [tn_nI (by omega)] at hj
  by_cases hz : j = tn v
  · rw [hz, upd_at, upd_at]
    exact ⟨rfl, cN_nI hx (by decide)⟩
  · rw [upd_ne _ _ hz, upd_ne _ _ hz]
    exact t4 j (by omega)
