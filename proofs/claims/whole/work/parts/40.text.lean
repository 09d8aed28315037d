/-! own words: the first text read -/
def xz : Nat → Int32 := fun _ => nI 0
theorem xAll_it {s : Nat → Int32} {len f sp p : Nat} {S S' : Nat → Nat → Int32} {tt t : Nat → Int32} (hit : xItem s len S sp tt = (true, S', p, t)) (hl : ¬ len ≤ sp) : xAll s len (f + 1) S sp tt = xAll s len f S' p t := by
  rw [xAll, if_neg hl, hit, if_pos rfl]
theorem xfg_one {s : Nat → Int32} {L n P p v p' : Nat} {t u : Nat → Int32} {k : Nat} (h : xfg s L n P t k = (true, p, u)) (hc : xdg s L p ∧ xlet s L (p + xrd s L p) = (if n - 1 ≤ k then nI 59 else nI 44) ∧ xrv s L p = v ∧ p + xrd s L p + 1 = p') : xfg s L n P t (k + 1) = (true, p', upd u k (nI v)) := by
  obtain ⟨h1, h2, rfl, rfl⟩ := hc
  exact xfg_rd1 h h1 h2
def fS0 : Nat → Nat → Int32 := xS0 (upd xz 1 (nI 0)) xz xz (upd xz 1 (nI 0)) xz (xzero xz (25 * 1) 25) (upd xz 1 (nI 0)) xz xz xz (upd xz 1 (nI 0)) xz xz (upd xz 1 (nI 0)) xz xz xz
def ft0 : Nat → Int32 := xz
def ft1 : Nat → Int32 := upd (upd (ft0) 0 (nI 3)) 1 (nI 0)
def fS1 : Nat → Nat → Int32 := upS (upS (upS fS0 3 (upd (fS0 3) (5 * 1 + 0) (nI 3))) 4 (upd (fS0 4) (5 * 1 + 0) (nI 0))) 2 (upd (fS0 2) (1) (nI (0 + 1)))
set_option maxRecDepth 100000 in
theorem fit0 : xItem xfB 128 fS0 0 ft0 = (true, fS1, 5, ft1) := by
  have a0 : xfg xfB 128 2 (0 + 1) ft0 0 = (true, 1, ft0) := rfl
  have a1 : xfg xfB 128 2 (0 + 1) ft0 1 = (true, 3, upd (ft0) 0 (nI 3)) := xfg_one a0 (by decide +kernel)
  have a2 : xfg xfB 128 2 (0 + 1) ft0 2 = (true, 5, upd (upd (ft0) 0 (nI 3)) 1 (nI 0)) := xfg_one a1 (by decide +kernel)
  rw [xItem_103 (by decide +kernel) (by decide +kernel) (by decide +kernel), a2]
  have hc : tn (fS0 2 1) = 0 := by decide +kernel
  have v0 : tn ((upd (upd (ft0) 0 (nI 3)) 1 (nI 0)) 0) = 3 := by decide +kernel
  have v1 : tn ((upd (upd (ft0) 0 (nI 3)) 1 (nI 0)) 1) = 0 := by decide +kernel
  refine (if_pos ?_).trans ?_
  · refine ⟨rfl, ?_⟩
    dsimp only
    omega
  · dsimp only
    simp only [hc, v0, v1]
    rfl
def ft2 : Nat → Int32 := upd (upd (ft1) 0 (nI 2)) 1 (nI 1)
def fS2 : Nat → Nat → Int32 := upS (upS (upS fS1 3 (upd (fS1 3) (5 * 1 + 1) (nI 2))) 4 (upd (fS1 4) (5 * 1 + 1) (nI 1))) 2 (upd (fS1 2) (1) (nI (1 + 1)))
set_option maxRecDepth 100000 in
theorem fit1 : xItem xfB 128 fS1 5 ft1 = (true, fS2, 10, ft2) := by
  have a0 : xfg xfB 128 2 (5 + 1) ft1 0 = (true, 6, ft1) := rfl
  have a1 : xfg xfB 128 2 (5 + 1) ft1 1 = (true, 8, upd (ft1) 0 (nI 2)) := xfg_one a0 (by decide +kernel)
  have a2 : xfg xfB 128 2 (5 + 1) ft1 2 = (true, 10, upd (upd (ft1) 0 (nI 2)) 1 (nI 1)) := xfg_one a1 (by decide +kernel)
  rw [xItem_103 (by decide +kernel) (by decide +kernel) (by decide +kernel), a2]
  have hc : tn (fS1 2 1) = 1 := by decide +kernel
  have v0 : tn ((upd (upd (ft1) 0 (nI 2)) 1 (nI 1)) 0) = 2 := by decide +kernel
  have v1 : tn ((upd (upd (ft1) 0 (nI 2)) 1 (nI 1)) 1) = 1 := by decide +kernel
  refine (if_pos ?_).trans ?_
  · refine ⟨rfl, ?_⟩
    dsimp only
    omega
  · dsimp only
    simp only [hc, v0, v1]
    rfl
def ft3 : Nat → Int32 := upd (upd (ft2) 0 (nI 5)) 1 (nI 2)
def fS3 : Nat → Nat → Int32 := upS (upS (upS fS2 3 (upd (fS2 3) (5 * 1 + 2) (nI 5))) 4 (upd (fS2 4) (5 * 1 + 2) (nI 2))) 2 (upd (fS2 2) (1) (nI (2 + 1)))
set_option maxRecDepth 100000 in
theorem fit2 : xItem xfB 128 fS2 10 ft2 = (true, fS3, 15, ft3) := by
  have a0 : xfg xfB 128 2 (10 + 1) ft2 0 = (true, 11, ft2) := rfl
  have a1 : xfg xfB 128 2 (10 + 1) ft2 1 = (true, 13, upd (ft2) 0 (nI 5)) := xfg_one a0 (by decide +kernel)
  have a2 : xfg xfB 128 2 (10 + 1) ft2 2 = (true, 15, upd (upd (ft2) 0 (nI 5)) 1 (nI 2)) := xfg_one a1 (by decide +kernel)
  rw [xItem_103 (by decide +kernel) (by decide +kernel) (by decide +kernel), a2]
  have hc : tn (fS2 2 1) = 2 := by decide +kernel
  have v0 : tn ((upd (upd (ft2) 0 (nI 5)) 1 (nI 2)) 0) = 5 := by decide +kernel
  have v1 : tn ((upd (upd (ft2) 0 (nI 5)) 1 (nI 2)) 1) = 2 := by decide +kernel
  refine (if_pos ?_).trans ?_
  · refine ⟨rfl, ?_⟩
    dsimp only
    omega
  · dsimp only
    simp only [hc, v0, v1]
    rfl
def ft4 : Nat → Int32 := upd (upd (ft3) 0 (nI 1)) 1 (nI 3)
def fS4 : Nat → Nat → Int32 := upS (upS (upS fS3 3 (upd (fS3 3) (5 * 1 + 3) (nI 1))) 4 (upd (fS3 4) (5 * 1 + 3) (nI 3))) 2 (upd (fS3 2) (1) (nI (3 + 1)))
set_option maxRecDepth 100000 in
theorem fit3 : xItem xfB 128 fS3 15 ft3 = (true, fS4, 20, ft4) := by
  have a0 : xfg xfB 128 2 (15 + 1) ft3 0 = (true, 16, ft3) := rfl
  have a1 : xfg xfB 128 2 (15 + 1) ft3 1 = (true, 18, upd (ft3) 0 (nI 1)) := xfg_one a0 (by decide +kernel)
  have a2 : xfg xfB 128 2 (15 + 1) ft3 2 = (true, 20, upd (upd (ft3) 0 (nI 1)) 1 (nI 3)) := xfg_one a1 (by decide +kernel)
  rw [xItem_103 (by decide +kernel) (by decide +kernel) (by decide +kernel), a2]
  have hc : tn (fS3 2 1) = 3 := by decide +kernel
  have v0 : tn ((upd (upd (ft3) 0 (nI 1)) 1 (nI 3)) 0) = 1 := by decide +kernel
  have v1 : tn ((upd (upd (ft3) 0 (nI 1)) 1 (nI 3)) 1) = 3 := by decide +kernel
  refine (if_pos ?_).trans ?_
  · refine ⟨rfl, ?_⟩
    dsimp only
    omega
  · dsimp only
    simp only [hc, v0, v1]
    rfl
def ft5 : Nat → Int32 := upd (ft4) 0 (nI 0)
def fS5 : Nat → Nat → Int32 := upS (upS fS4 6 (upd (fS4 6) (5 + 0) (nI 0))) 5 (upd (fS4 5) (1) (nI (0 + 1)))
set_option maxRecDepth 100000 in
theorem fit4 : xItem xfB 128 fS4 20 ft4 = (true, fS5, 23, ft5) := by
  have a0 : xfg xfB 128 1 (20 + 1) ft4 0 = (true, 21, ft4) := rfl
  have a1 : xfg xfB 128 1 (20 + 1) ft4 1 = (true, 23, upd (ft4) 0 (nI 0)) := xfg_one a0 (by decide +kernel)
  rw [xItem_104 (by decide +kernel) (by decide +kernel) (by decide +kernel) (by decide +kernel), a1]
  have hc : tn (fS4 5 1) = 0 := by decide +kernel
  have v0 : tn ((upd (ft4) 0 (nI 0)) 0) = 0 := by decide +kernel
  refine (if_pos ?_).trans ?_
  · refine ⟨rfl, ?_⟩
    dsimp only
    omega
  · dsimp only
    simp only [hc, v0]
    rfl
def ft6 : Nat → Int32 := upd (ft5) 0 (nI 10)
def fS6 : Nat → Nat → Int32 := upS (upS fS5 6 (upd (fS5 6) (5 + 1) (nI 10))) 5 (upd (fS5 5) (1) (nI (1 + 1)))
set_option maxRecDepth 100000 in
theorem fit5 : xItem xfB 128 fS5 23 ft5 = (true, fS6, 27, ft6) := by
  have a0 : xfg xfB 128 1 (23 + 1) ft5 0 = (true, 24, ft5) := rfl
  have a1 : xfg xfB 128 1 (23 + 1) ft5 1 = (true, 27, upd (ft5) 0 (nI 10)) := xfg_one a0 (by decide +kernel)
  rw [xItem_104 (by decide +kernel) (by decide +kernel) (by decide +kernel) (by decide +kernel), a1]
  have hc : tn (fS5 5 1) = 1 := by decide +kernel
  have v0 : tn ((upd (ft5) 0 (nI 10)) 0) = 10 := by decide +kernel
  refine (if_pos ?_).trans ?_
  · refine ⟨rfl, ?_⟩
    dsimp only
    omega
  · dsimp only
    simp only [hc, v0]
    rfl
def ft7 : Nat → Int32 := upd (ft6) 0 (nI 25)
def fS7 : Nat → Nat → Int32 := upS (upS fS6 6 (upd (fS6 6) (5 + 2) (nI 25))) 5 (upd (fS6 5) (1) (nI (2 + 1)))
set_option maxRecDepth 100000 in
theorem fit6 : xItem xfB 128 fS6 27 ft6 = (true, fS7, 31, ft7) := by
  have a0 : xfg xfB 128 1 (27 + 1) ft6 0 = (true, 28, ft6) := rfl
  have a1 : xfg xfB 128 1 (27 + 1) ft6 1 = (true, 31, upd (ft6) 0 (nI 25)) := xfg_one a0 (by decide +kernel)
  rw [xItem_104 (by decide +kernel) (by decide +kernel) (by decide +kernel) (by decide +kernel), a1]
  have hc : tn (fS6 5 1) = 2 := by decide +kernel
  have v0 : tn ((upd (ft6) 0 (nI 25)) 0) = 25 := by decide +kernel
  refine (if_pos ?_).trans ?_
  · refine ⟨rfl, ?_⟩
    dsimp only
    omega
  · dsimp only
    simp only [hc, v0]
    rfl
def ft8 : Nat → Int32 := upd (upd (upd (ft7) 0 (nI 0)) 1 (nI 0)) 2 (nI 9)
def fS8 : Nat → Nat → Int32 := upS fS7 7 (upd (fS7 7) (25 + 5 * 0 + 0) (nI 9))
set_option maxRecDepth 100000 in
theorem fit7 : xItem xfB 128 fS7 31 ft7 = (true, fS8, 38, ft8) := by
  have a0 : xfg xfB 128 3 (31 + 1) ft7 0 = (true, 32, ft7) := rfl
  have a1 : xfg xfB 128 3 (31 + 1) ft7 1 = (true, 34, upd (ft7) 0 (nI 0)) := xfg_one a0 (by decide +kernel)
  have a2 : xfg xfB 128 3 (31 + 1) ft7 2 = (true, 36, upd (upd (ft7) 0 (nI 0)) 1 (nI 0)) := xfg_one a1 (by decide +kernel)
  have a3 : xfg xfB 128 3 (31 + 1) ft7 3 = (true, 38, upd (upd (upd (ft7) 0 (nI 0)) 1 (nI 0)) 2 (nI 9)) := xfg_one a2 (by decide +kernel)
  rw [xItem_115 (by decide +kernel) (by decide +kernel) (by decide +kernel) (by decide +kernel) (by decide +kernel) (by decide +kernel), a3]
  have v0 : tn ((upd (upd (upd (ft7) 0 (nI 0)) 1 (nI 0)) 2 (nI 9)) 0) = 0 := by decide +kernel
  have v1 : tn ((upd (upd (upd (ft7) 0 (nI 0)) 1 (nI 0)) 2 (nI 9)) 1) = 0 := by decide +kernel
  have v2 : tn ((upd (upd (upd (ft7) 0 (nI 0)) 1 (nI 0)) 2 (nI 9)) 2) = 9 := by decide +kernel
  have b1 : tn (fS7 5 1) = 3 := by decide +kernel
  have b2 : tn (fS7 2 1) = 4 := by decide +kernel
  refine (if_pos ?_).trans ?_
  · refine ⟨rfl, ?_⟩
    dsimp only
    omega
  · dsimp only
    simp only [v0, v1, v2]
    rfl
def ft9 : Nat → Int32 := upd (upd (upd (ft8) 0 (nI 0)) 1 (nI 1)) 2 (nI 7)
def fS9 : Nat → Nat → Int32 := upS fS8 7 (upd (fS8 7) (25 + 5 * 0 + 1) (nI 7))
set_option maxRecDepth 100000 in
theorem fit8 : xItem xfB 128 fS8 38 ft8 = (true, fS9, 45, ft9) := by
  have a0 : xfg xfB 128 3 (38 + 1) ft8 0 = (true, 39, ft8) := rfl
  have a1 : xfg xfB 128 3 (38 + 1) ft8 1 = (true, 41, upd (ft8) 0 (nI 0)) := xfg_one a0 (by decide +kernel)
  have a2 : xfg xfB 128 3 (38 + 1) ft8 2 = (true, 43, upd (upd (ft8) 0 (nI 0)) 1 (nI 1)) := xfg_one a1 (by decide +kernel)
  have a3 : xfg xfB 128 3 (38 + 1) ft8 3 = (true, 45, upd (upd (upd (ft8) 0 (nI 0)) 1 (nI 1)) 2 (nI 7)) := xfg_one a2 (by decide +kernel)
  rw [xItem_115 (by decide +kernel) (by decide +kernel) (by decide +kernel) (by decide +kernel) (by decide +kernel) (by decide +kernel), a3]
  have v0 : tn ((upd (upd (upd (ft8) 0 (nI 0)) 1 (nI 1)) 2 (nI 7)) 0) = 0 := by decide +kernel
  have v1 : tn ((upd (upd (upd (ft8) 0 (nI 0)) 1 (nI 1)) 2 (nI 7)) 1) = 1 := by decide +kernel
  have v2 : tn ((upd (upd (upd (ft8) 0 (nI 0)) 1 (nI 1)) 2 (nI 7)) 2) = 7 := by decide +kernel
  have b1 : tn (fS8 5 1) = 3 := by decide +kernel
  have b2 : tn (fS8 2 1) = 4 := by decide +kernel
  refine (if_pos ?_).trans ?_
  · refine ⟨rfl, ?_⟩
    dsimp only
    omega
  · dsimp only
    simp only [v0, v1, v2]
    rfl
def ft10 : Nat → Int32 := upd (upd (upd (ft9) 0 (nI 1)) 1 (nI 3)) 2 (nI 12)
def fS10 : Nat → Nat → Int32 := upS fS9 7 (upd (fS9 7) (25 + 5 * 1 + 3) (nI 12))
set_option maxRecDepth 100000 in
theorem fit9 : xItem xfB 128 fS9 45 ft9 = (true, fS10, 53, ft10) := by
  have a0 : xfg xfB 128 3 (45 + 1) ft9 0 = (true, 46, ft9) := rfl
  have a1 : xfg xfB 128 3 (45 + 1) ft9 1 = (true, 48, upd (ft9) 0 (nI 1)) := xfg_one a0 (by decide +kernel)
  have a2 : xfg xfB 128 3 (45 + 1) ft9 2 = (true, 50, upd (upd (ft9) 0 (nI 1)) 1 (nI 3)) := xfg_one a1 (by decide +kernel)
  have a3 : xfg xfB 128 3 (45 + 1) ft9 3 = (true, 53, upd (upd (upd (ft9) 0 (nI 1)) 1 (nI 3)) 2 (nI 12)) := xfg_one a2 (by decide +kernel)
  rw [xItem_115 (by decide +kernel) (by decide +kernel) (by decide +kernel) (by decide +kernel) (by decide +kernel) (by decide +kernel), a3]
  have v0 : tn ((upd (upd (upd (ft9) 0 (nI 1)) 1 (nI 3)) 2 (nI 12)) 0) = 1 := by decide +kernel
  have v1 : tn ((upd (upd (upd (ft9) 0 (nI 1)) 1 (nI 3)) 2 (nI 12)) 1) = 3 := by decide +kernel
  have v2 : tn ((upd (upd (upd (ft9) 0 (nI 1)) 1 (nI 3)) 2 (nI 12)) 2) = 12 := by decide +kernel
  have b1 : tn (fS9 5 1) = 3 := by decide +kernel
  have b2 : tn (fS9 2 1) = 4 := by decide +kernel
  refine (if_pos ?_).trans ?_
  · refine ⟨rfl, ?_⟩
    dsimp only
    omega
  · dsimp only
    simp only [v0, v1, v2]
    rfl
def ft11 : Nat → Int32 := upd (upd (upd (ft10) 0 (nI 2)) 1 (nI 2)) 2 (nI 3)
def fS11 : Nat → Nat → Int32 := upS fS10 7 (upd (fS10 7) (25 + 5 * 2 + 2) (nI 3))
set_option maxRecDepth 100000 in
theorem fit10 : xItem xfB 128 fS10 53 ft10 = (true, fS11, 60, ft11) := by
  have a0 : xfg xfB 128 3 (53 + 1) ft10 0 = (true, 54, ft10) := rfl
  have a1 : xfg xfB 128 3 (53 + 1) ft10 1 = (true, 56, upd (ft10) 0 (nI 2)) := xfg_one a0 (by decide +kernel)
  have a2 : xfg xfB 128 3 (53 + 1) ft10 2 = (true, 58, upd (upd (ft10) 0 (nI 2)) 1 (nI 2)) := xfg_one a1 (by decide +kernel)
  have a3 : xfg xfB 128 3 (53 + 1) ft10 3 = (true, 60, upd (upd (upd (ft10) 0 (nI 2)) 1 (nI 2)) 2 (nI 3)) := xfg_one a2 (by decide +kernel)
  rw [xItem_115 (by decide +kernel) (by decide +kernel) (by decide +kernel) (by decide +kernel) (by decide +kernel) (by decide +kernel), a3]
  have v0 : tn ((upd (upd (upd (ft10) 0 (nI 2)) 1 (nI 2)) 2 (nI 3)) 0) = 2 := by decide +kernel
  have v1 : tn ((upd (upd (upd (ft10) 0 (nI 2)) 1 (nI 2)) 2 (nI 3)) 1) = 2 := by decide +kernel
  have v2 : tn ((upd (upd (upd (ft10) 0 (nI 2)) 1 (nI 2)) 2 (nI 3)) 2) = 3 := by decide +kernel
  have b1 : tn (fS10 5 1) = 3 := by decide +kernel
  have b2 : tn (fS10 2 1) = 4 := by decide +kernel
  refine (if_pos ?_).trans ?_
  · refine ⟨rfl, ?_⟩
    dsimp only
    omega
  · dsimp only
    simp only [v0, v1, v2]
    rfl
def ft12 : Nat → Int32 := upd (upd (upd (ft11) 0 (nI 2)) 1 (nI 0)) 2 (nI 2)
def fS12 : Nat → Nat → Int32 := upS fS11 7 (upd (fS11 7) (25 + 5 * 2 + 0) (nI 2))
set_option maxRecDepth 100000 in
theorem fit11 : xItem xfB 128 fS11 60 ft11 = (true, fS12, 67, ft12) := by
  have a0 : xfg xfB 128 3 (60 + 1) ft11 0 = (true, 61, ft11) := rfl
  have a1 : xfg xfB 128 3 (60 + 1) ft11 1 = (true, 63, upd (ft11) 0 (nI 2)) := xfg_one a0 (by decide +kernel)
  have a2 : xfg xfB 128 3 (60 + 1) ft11 2 = (true, 65, upd (upd (ft11) 0 (nI 2)) 1 (nI 0)) := xfg_one a1 (by decide +kernel)
  have a3 : xfg xfB 128 3 (60 + 1) ft11 3 = (true, 67, upd (upd (upd (ft11) 0 (nI 2)) 1 (nI 0)) 2 (nI 2)) := xfg_one a2 (by decide +kernel)
  rw [xItem_115 (by decide +kernel) (by decide +kernel) (by decide +kernel) (by decide +kernel) (by decide +kernel) (by decide +kernel), a3]
  have v0 : tn ((upd (upd (upd (ft11) 0 (nI 2)) 1 (nI 0)) 2 (nI 2)) 0) = 2 := by decide +kernel
  have v1 : tn ((upd (upd (upd (ft11) 0 (nI 2)) 1 (nI 0)) 2 (nI 2)) 1) = 0 := by decide +kernel
  have v2 : tn ((upd (upd (upd (ft11) 0 (nI 2)) 1 (nI 0)) 2 (nI 2)) 2) = 2 := by decide +kernel
  have b1 : tn (fS11 5 1) = 3 := by decide +kernel
  have b2 : tn (fS11 2 1) = 4 := by decide +kernel
  refine (if_pos ?_).trans ?_
  · refine ⟨rfl, ?_⟩
    dsimp only
    omega
  · dsimp only
    simp only [v0, v1, v2]
    rfl
def ft13 : Nat → Int32 := upd (upd (upd (ft12) 0 (nI 0)) 1 (nI 0)) 2 (nI 15)
def fS13 : Nat → Nat → Int32 := upS (upS (upS (upS fS12 9 (upd (fS12 9) (8 * 1 + 0) (nI 0))) 10 (upd (fS12 10) (8 * 1 + 0) (nI 0))) 11 (upd (fS12 11) (8 * 1 + 0) (nI 15))) 8 (upd (fS12 8) (1) (nI (0 + 1)))
set_option maxRecDepth 100000 in
theorem fit12 : xItem xfB 128 fS12 67 ft12 = (true, fS13, 75, ft13) := by
  have a0 : xfg xfB 128 3 (67 + 1) ft12 0 = (true, 68, ft12) := rfl
  have a1 : xfg xfB 128 3 (67 + 1) ft12 1 = (true, 70, upd (ft12) 0 (nI 0)) := xfg_one a0 (by decide +kernel)
  have a2 : xfg xfB 128 3 (67 + 1) ft12 2 = (true, 72, upd (upd (ft12) 0 (nI 0)) 1 (nI 0)) := xfg_one a1 (by decide +kernel)
  have a3 : xfg xfB 128 3 (67 + 1) ft12 3 = (true, 75, upd (upd (upd (ft12) 0 (nI 0)) 1 (nI 0)) 2 (nI 15)) := xfg_one a2 (by decide +kernel)
  rw [xItem_101 (by decide +kernel) (by decide +kernel), a3]
  have hc : tn (fS12 8 1) = 0 := by decide +kernel
  have v0 : tn ((upd (upd (upd (ft12) 0 (nI 0)) 1 (nI 0)) 2 (nI 15)) 0) = 0 := by decide +kernel
  have v1 : tn ((upd (upd (upd (ft12) 0 (nI 0)) 1 (nI 0)) 2 (nI 15)) 1) = 0 := by decide +kernel
  have v2 : tn ((upd (upd (upd (ft12) 0 (nI 0)) 1 (nI 0)) 2 (nI 15)) 2) = 15 := by decide +kernel
  have b1 : tn (fS12 5 1) = 3 := by decide +kernel
  have b2 : tn (fS12 2 1) = 4 := by decide +kernel
  refine (if_pos ?_).trans ?_
  · refine ⟨rfl, ?_⟩
    dsimp only
    omega
  · dsimp only
    simp only [hc, v0, v1, v2]
    rfl
def ft14 : Nat → Int32 := upd (upd (upd (ft13) 0 (nI 1)) 1 (nI 0)) 2 (nI 12)
def fS14 : Nat → Nat → Int32 := upS (upS (upS (upS fS13 9 (upd (fS13 9) (8 * 1 + 1) (nI 1))) 10 (upd (fS13 10) (8 * 1 + 1) (nI 0))) 11 (upd (fS13 11) (8 * 1 + 1) (nI 12))) 8 (upd (fS13 8) (1) (nI (1 + 1)))
set_option maxRecDepth 100000 in
theorem fit13 : xItem xfB 128 fS13 75 ft13 = (true, fS14, 83, ft14) := by
  have a0 : xfg xfB 128 3 (75 + 1) ft13 0 = (true, 76, ft13) := rfl
  have a1 : xfg xfB 128 3 (75 + 1) ft13 1 = (true, 78, upd (ft13) 0 (nI 1)) := xfg_one a0 (by decide +kernel)
  have a2 : xfg xfB 128 3 (75 + 1) ft13 2 = (true, 80, upd (upd (ft13) 0 (nI 1)) 1 (nI 0)) := xfg_one a1 (by decide +kernel)
  have a3 : xfg xfB 128 3 (75 + 1) ft13 3 = (true, 83, upd (upd (upd (ft13) 0 (nI 1)) 1 (nI 0)) 2 (nI 12)) := xfg_one a2 (by decide +kernel)
  rw [xItem_101 (by decide +kernel) (by decide +kernel), a3]
  have hc : tn (fS13 8 1) = 1 := by decide +kernel
  have v0 : tn ((upd (upd (upd (ft13) 0 (nI 1)) 1 (nI 0)) 2 (nI 12)) 0) = 1 := by decide +kernel
  have v1 : tn ((upd (upd (upd (ft13) 0 (nI 1)) 1 (nI 0)) 2 (nI 12)) 1) = 0 := by decide +kernel
  have v2 : tn ((upd (upd (upd (ft13) 0 (nI 1)) 1 (nI 0)) 2 (nI 12)) 2) = 12 := by decide +kernel
  have b1 : tn (fS13 5 1) = 3 := by decide +kernel
  have b2 : tn (fS13 2 1) = 4 := by decide +kernel
  refine (if_pos ?_).trans ?_
  · refine ⟨rfl, ?_⟩
    dsimp only
    omega
  · dsimp only
    simp only [hc, v0, v1, v2]
    rfl
def ft15 : Nat → Int32 := upd (upd (upd (ft14) 0 (nI 1)) 1 (nI 1)) 2 (nI 20)
def fS15 : Nat → Nat → Int32 := upS (upS (upS (upS fS14 9 (upd (fS14 9) (8 * 1 + 2) (nI 1))) 10 (upd (fS14 10) (8 * 1 + 2) (nI 1))) 11 (upd (fS14 11) (8 * 1 + 2) (nI 20))) 8 (upd (fS14 8) (1) (nI (2 + 1)))
set_option maxRecDepth 100000 in
theorem fit14 : xItem xfB 128 fS14 83 ft14 = (true, fS15, 91, ft15) := by
  have a0 : xfg xfB 128 3 (83 + 1) ft14 0 = (true, 84, ft14) := rfl
  have a1 : xfg xfB 128 3 (83 + 1) ft14 1 = (true, 86, upd (ft14) 0 (nI 1)) := xfg_one a0 (by decide +kernel)
  have a2 : xfg xfB 128 3 (83 + 1) ft14 2 = (true, 88, upd (upd (ft14) 0 (nI 1)) 1 (nI 1)) := xfg_one a1 (by decide +kernel)
  have a3 : xfg xfB 128 3 (83 + 1) ft14 3 = (true, 91, upd (upd (upd (ft14) 0 (nI 1)) 1 (nI 1)) 2 (nI 20)) := xfg_one a2 (by decide +kernel)
  rw [xItem_101 (by decide +kernel) (by decide +kernel), a3]
  have hc : tn (fS14 8 1) = 2 := by decide +kernel
  have v0 : tn ((upd (upd (upd (ft14) 0 (nI 1)) 1 (nI 1)) 2 (nI 20)) 0) = 1 := by decide +kernel
  have v1 : tn ((upd (upd (upd (ft14) 0 (nI 1)) 1 (nI 1)) 2 (nI 20)) 1) = 1 := by decide +kernel
  have v2 : tn ((upd (upd (upd (ft14) 0 (nI 1)) 1 (nI 1)) 2 (nI 20)) 2) = 20 := by decide +kernel
  have b1 : tn (fS14 5 1) = 3 := by decide +kernel
  have b2 : tn (fS14 2 1) = 4 := by decide +kernel
  refine (if_pos ?_).trans ?_
  · refine ⟨rfl, ?_⟩
    dsimp only
    omega
  · dsimp only
    simp only [hc, v0, v1, v2]
    rfl
def ft16 : Nat → Int32 := upd (upd (upd (ft15) 0 (nI 2)) 1 (nI 3)) 2 (nI 10)
def fS16 : Nat → Nat → Int32 := upS (upS (upS (upS fS15 9 (upd (fS15 9) (8 * 1 + 3) (nI 2))) 10 (upd (fS15 10) (8 * 1 + 3) (nI 3))) 11 (upd (fS15 11) (8 * 1 + 3) (nI 10))) 8 (upd (fS15 8) (1) (nI (3 + 1)))
set_option maxRecDepth 100000 in
theorem fit15 : xItem xfB 128 fS15 91 ft15 = (true, fS16, 99, ft16) := by
  have a0 : xfg xfB 128 3 (91 + 1) ft15 0 = (true, 92, ft15) := rfl
  have a1 : xfg xfB 128 3 (91 + 1) ft15 1 = (true, 94, upd (ft15) 0 (nI 2)) := xfg_one a0 (by decide +kernel)
  have a2 : xfg xfB 128 3 (91 + 1) ft15 2 = (true, 96, upd (upd (ft15) 0 (nI 2)) 1 (nI 3)) := xfg_one a1 (by decide +kernel)
  have a3 : xfg xfB 128 3 (91 + 1) ft15 3 = (true, 99, upd (upd (upd (ft15) 0 (nI 2)) 1 (nI 3)) 2 (nI 10)) := xfg_one a2 (by decide +kernel)
  rw [xItem_101 (by decide +kernel) (by decide +kernel), a3]
  have hc : tn (fS15 8 1) = 3 := by decide +kernel
  have v0 : tn ((upd (upd (upd (ft15) 0 (nI 2)) 1 (nI 3)) 2 (nI 10)) 0) = 2 := by decide +kernel
  have v1 : tn ((upd (upd (upd (ft15) 0 (nI 2)) 1 (nI 3)) 2 (nI 10)) 1) = 3 := by decide +kernel
  have v2 : tn ((upd (upd (upd (ft15) 0 (nI 2)) 1 (nI 3)) 2 (nI 10)) 2) = 10 := by decide +kernel
  have b1 : tn (fS15 5 1) = 3 := by decide +kernel
  have b2 : tn (fS15 2 1) = 4 := by decide +kernel
  refine (if_pos ?_).trans ?_
  · refine ⟨rfl, ?_⟩
    dsimp only
    omega
  · dsimp only
    simp only [hc, v0, v1, v2]
    rfl
def ft17 : Nat → Int32 := upd (upd (ft16) 0 (nI 2)) 1 (nI 3)
def fS17 : Nat → Nat → Int32 := upS (upS (upS fS16 13 (upd (fS16 13) (5 + 0) (nI 2))) 14 (upd (fS16 14) (5 + 0) (nI 3))) 12 (upd (fS16 12) (1) (nI (0 + 1)))
set_option maxRecDepth 100000 in
theorem fit16 : xItem xfB 128 fS16 99 ft16 = (true, fS17, 104, ft17) := by
  have a0 : xfg xfB 128 2 (99 + 1) ft16 0 = (true, 100, ft16) := rfl
  have a1 : xfg xfB 128 2 (99 + 1) ft16 1 = (true, 102, upd (ft16) 0 (nI 2)) := xfg_one a0 (by decide +kernel)
  have a2 : xfg xfB 128 2 (99 + 1) ft16 2 = (true, 104, upd (upd (ft16) 0 (nI 2)) 1 (nI 3)) := xfg_one a1 (by decide +kernel)
  rw [xItem_100  (by decide +kernel), a2]
  have hc : tn (fS16 12 1) = 0 := by decide +kernel
  have v0 : tn ((upd (upd (ft16) 0 (nI 2)) 1 (nI 3)) 0) = 2 := by decide +kernel
  have v1 : tn ((upd (upd (ft16) 0 (nI 2)) 1 (nI 3)) 1) = 3 := by decide +kernel
  refine (if_pos ?_).trans ?_
  · refine ⟨rfl, ?_⟩
    dsimp only
    omega
  · dsimp only
    simp only [hc, v0, v1]
    rfl
def ft18 : Nat → Int32 := upd (upd (ft17) 0 (nI 4)) 1 (nI 5)
def fS18 : Nat → Nat → Int32 := upS (upS (upS fS17 13 (upd (fS17 13) (5 + 1) (nI 4))) 14 (upd (fS17 14) (5 + 1) (nI 5))) 12 (upd (fS17 12) (1) (nI (1 + 1)))
set_option maxRecDepth 100000 in
theorem fit17 : xItem xfB 128 fS17 104 ft17 = (true, fS18, 109, ft18) := by
  have a0 : xfg xfB 128 2 (104 + 1) ft17 0 = (true, 105, ft17) := rfl
  have a1 : xfg xfB 128 2 (104 + 1) ft17 1 = (true, 107, upd (ft17) 0 (nI 4)) := xfg_one a0 (by decide +kernel)
  have a2 : xfg xfB 128 2 (104 + 1) ft17 2 = (true, 109, upd (upd (ft17) 0 (nI 4)) 1 (nI 5)) := xfg_one a1 (by decide +kernel)
  rw [xItem_100  (by decide +kernel), a2]
  have hc : tn (fS17 12 1) = 1 := by decide +kernel
  have v0 : tn ((upd (upd (ft17) 0 (nI 4)) 1 (nI 5)) 0) = 4 := by decide +kernel
  have v1 : tn ((upd (upd (ft17) 0 (nI 4)) 1 (nI 5)) 1) = 5 := by decide +kernel
  refine (if_pos ?_).trans ?_
  · refine ⟨rfl, ?_⟩
    dsimp only
    omega
  · dsimp only
    simp only [hc, v0, v1]
    rfl
def ft19 : Nat → Int32 := upd (upd (ft18) 0 (nI 7)) 1 (nI 2)
def fS19 : Nat → Nat → Int32 := upS (upS (upS fS18 13 (upd (fS18 13) (5 + 2) (nI 7))) 14 (upd (fS18 14) (5 + 2) (nI 2))) 12 (upd (fS18 12) (1) (nI (2 + 1)))
set_option maxRecDepth 100000 in
theorem fit18 : xItem xfB 128 fS18 109 ft18 = (true, fS19, 114, ft19) := by
  have a0 : xfg xfB 128 2 (109 + 1) ft18 0 = (true, 110, ft18) := rfl
  have a1 : xfg xfB 128 2 (109 + 1) ft18 1 = (true, 112, upd (ft18) 0 (nI 7)) := xfg_one a0 (by decide +kernel)
  have a2 : xfg xfB 128 2 (109 + 1) ft18 2 = (true, 114, upd (upd (ft18) 0 (nI 7)) 1 (nI 2)) := xfg_one a1 (by decide +kernel)
  rw [xItem_100  (by decide +kernel), a2]
  have hc : tn (fS18 12 1) = 2 := by decide +kernel
  have v0 : tn ((upd (upd (ft18) 0 (nI 7)) 1 (nI 2)) 0) = 7 := by decide +kernel
  have v1 : tn ((upd (upd (ft18) 0 (nI 7)) 1 (nI 2)) 1) = 2 := by decide +kernel
  refine (if_pos ?_).trans ?_
  · refine ⟨rfl, ?_⟩
    dsimp only
    omega
  · dsimp only
    simp only [hc, v0, v1]
    rfl
def ft20 : Nat → Int32 := upd (upd (upd (ft19) 0 (nI 0)) 1 (nI 1)) 2 (nI 8)
def fS20 : Nat → Nat → Int32 := upS (upS (upS (upS fS19 16 (upd (fS19 16) (3 + 0) (nI 0))) 17 (upd (fS19 17) (3 + 0) (nI 1))) 18 (upd (fS19 18) (3 + 0) (nI 8))) 15 (upd (fS19 15) (1) (nI (0 + 1)))
set_option maxRecDepth 100000 in
theorem fit19 : xItem xfB 128 fS19 114 ft19 = (true, fS20, 121, ft20) := by
  have a0 : xfg xfB 128 3 (114 + 1) ft19 0 = (true, 115, ft19) := rfl
  have a1 : xfg xfB 128 3 (114 + 1) ft19 1 = (true, 117, upd (ft19) 0 (nI 0)) := xfg_one a0 (by decide +kernel)
  have a2 : xfg xfB 128 3 (114 + 1) ft19 2 = (true, 119, upd (upd (ft19) 0 (nI 0)) 1 (nI 1)) := xfg_one a1 (by decide +kernel)
  have a3 : xfg xfB 128 3 (114 + 1) ft19 3 = (true, 121, upd (upd (upd (ft19) 0 (nI 0)) 1 (nI 1)) 2 (nI 8)) := xfg_one a2 (by decide +kernel)
  rw [xItem_107 (by decide +kernel) (by decide +kernel) (by decide +kernel) (by decide +kernel) (by decide +kernel), a3]
  have hc : tn (fS19 15 1) = 0 := by decide +kernel
  have v0 : tn ((upd (upd (upd (ft19) 0 (nI 0)) 1 (nI 1)) 2 (nI 8)) 0) = 0 := by decide +kernel
  have v1 : tn ((upd (upd (upd (ft19) 0 (nI 0)) 1 (nI 1)) 2 (nI 8)) 1) = 1 := by decide +kernel
  have v2 : tn ((upd (upd (upd (ft19) 0 (nI 0)) 1 (nI 1)) 2 (nI 8)) 2) = 8 := by decide +kernel
  have b2 : tn (fS19 2 1) = 4 := by decide +kernel
  refine (if_pos ?_).trans ?_
  · refine ⟨rfl, ?_⟩
    dsimp only
    omega
  · dsimp only
    simp only [hc, v0, v1, v2]
    rfl
def ft21 : Nat → Int32 := upd (upd (upd (ft20) 0 (nI 0)) 1 (nI 3)) 2 (nI 5)
def fS21 : Nat → Nat → Int32 := upS (upS (upS (upS fS20 16 (upd (fS20 16) (3 + 1) (nI 0))) 17 (upd (fS20 17) (3 + 1) (nI 3))) 18 (upd (fS20 18) (3 + 1) (nI 5))) 15 (upd (fS20 15) (1) (nI (1 + 1)))
set_option maxRecDepth 100000 in
theorem fit20 : xItem xfB 128 fS20 121 ft20 = (true, fS21, 128, ft21) := by
  have a0 : xfg xfB 128 3 (121 + 1) ft20 0 = (true, 122, ft20) := rfl
  have a1 : xfg xfB 128 3 (121 + 1) ft20 1 = (true, 124, upd (ft20) 0 (nI 0)) := xfg_one a0 (by decide +kernel)
  have a2 : xfg xfB 128 3 (121 + 1) ft20 2 = (true, 126, upd (upd (ft20) 0 (nI 0)) 1 (nI 3)) := xfg_one a1 (by decide +kernel)
  have a3 : xfg xfB 128 3 (121 + 1) ft20 3 = (true, 128, upd (upd (upd (ft20) 0 (nI 0)) 1 (nI 3)) 2 (nI 5)) := xfg_one a2 (by decide +kernel)
  rw [xItem_107 (by decide +kernel) (by decide +kernel) (by decide +kernel) (by decide +kernel) (by decide +kernel), a3]
  have hc : tn (fS20 15 1) = 1 := by decide +kernel
  have v0 : tn ((upd (upd (upd (ft20) 0 (nI 0)) 1 (nI 3)) 2 (nI 5)) 0) = 0 := by decide +kernel
  have v1 : tn ((upd (upd (upd (ft20) 0 (nI 0)) 1 (nI 3)) 2 (nI 5)) 1) = 3 := by decide +kernel
  have v2 : tn ((upd (upd (upd (ft20) 0 (nI 0)) 1 (nI 3)) 2 (nI 5)) 2) = 5 := by decide +kernel
  have b2 : tn (fS20 2 1) = 4 := by decide +kernel
  refine (if_pos ?_).trans ?_
  · refine ⟨rfl, ?_⟩
    dsimp only
    omega
  · dsimp only
    simp only [hc, v0, v1, v2]
    rfl
theorem fall : xAll xfB 128 201 fS0 0 ft0 = (-4, fS21, 128, ft21) := by
  rw [xAll_it fit0 (by decide), xAll_it fit1 (by decide), xAll_it fit2 (by decide), xAll_it fit3 (by decide), xAll_it fit4 (by decide), xAll_it fit5 (by decide), xAll_it fit6 (by decide), xAll_it fit7 (by decide), xAll_it fit8 (by decide), xAll_it fit9 (by decide), xAll_it fit10 (by decide), xAll_it fit11 (by decide), xAll_it fit12 (by decide), xAll_it fit13 (by decide), xAll_it fit14 (by decide), xAll_it fit15 (by decide), xAll_it fit16 (by decide), xAll_it fit17 (by decide), xAll_it fit18 (by decide), xAll_it fit19 (by decide), xAll_it fit20 (by decide)]
  exact xAll_e (by decide)
def fS : Nat → Nat → Int32 := fS21
set_option maxRecDepth 100000 in
theorem fS_ok : ¬ tn (xshf fS 2 0) = 0 ∧ ¬ tn (xshf fS 5 0) = 0 ∧ (tn (xshf fS 12 0) = 0 ∨ xsum (xshf fS 14) (tn (xshf fS 12 0)) = nI 10) := by decide +kernel
