/-! own rows: what the start gives -/
theorem iwL_X8 : ∀ w ∈ wsX80, w ∈ wsL_law := fun w h => List.mem_append_left _ (List.mem_append_left _ (List.mem_append_left _ (List.mem_append_left _ (List.mem_append_left _ (List.mem_append_left _ (List.mem_append_left _ (List.mem_append_left _ (List.mem_append_left _ (List.mem_append_right _ h)))))))))
theorem iwL_X9 : ∀ w ∈ wsX90, w ∈ wsL_law := fun w h => List.mem_append_left _ (List.mem_append_left _ (List.mem_append_left _ (List.mem_append_left _ (List.mem_append_left _ (List.mem_append_left _ (List.mem_append_left _ (List.mem_append_left _ (List.mem_append_right _ h))))))))
theorem iwL_X2 : ∀ w ∈ wsX20, w ∈ wsL_law := fun w h => List.mem_append_left _ (List.mem_append_left _ (List.mem_append_left _ (List.mem_append_left _ (List.mem_append_left _ (List.mem_append_left _ (List.mem_append_left _ (List.mem_append_right _ h)))))))
theorem iwL_X7 : ∀ w ∈ wsX70, w ∈ wsL_law := fun w h => List.mem_append_left _ (List.mem_append_left _ (List.mem_append_left _ (List.mem_append_left _ (List.mem_append_left _ (List.mem_append_left _ (List.mem_append_right _ h))))))
theorem iwL_X3 : ∀ w ∈ wsX30, w ∈ wsL_law := fun w h => List.mem_append_left _ (List.mem_append_left _ (List.mem_append_left _ (List.mem_append_left _ (List.mem_append_left _ (List.mem_append_right _ h)))))
theorem iwL_X1 : ∀ w ∈ wsX10, w ∈ wsL_law := fun w h => List.mem_append_left _ (List.mem_append_left _ (List.mem_append_left _ (List.mem_append_left _ (List.mem_append_right _ h))))
theorem iwL_X4 : ∀ w ∈ wsX40, w ∈ wsL_law := fun w h => List.mem_append_left _ (List.mem_append_left _ (List.mem_append_left _ (List.mem_append_right _ h)))
theorem iwL_X0 : ∀ w ∈ wsX00, w ∈ wsL_law := fun w h => List.mem_append_left _ (List.mem_append_left _ (List.mem_append_right _ h))
theorem iwL_X6 : ∀ w ∈ wsX60, w ∈ wsL_law := fun w h => List.mem_append_left _ (List.mem_append_right _ h)
theorem start_K {s : State} {a : Array Value} (hts : ∀ w ∈ wsL_law, w.before a s = true) (ho : (Cond.arrayOver (.object RX1)).before a s = true) (hi : (Cond.arrayClass .int).before a s = true) (hc : (Cond.arrayClass .char).before a s = true) (hz : (Cond.arrayClass .boolean).before a s = true) : ∃ (D : va_G) (q : Nat → ClassId), va_K D vwCl (TY q) s := by
  obtain ⟨c0, i0, h0⟩ := u_known (C := RX0) (T := TX0) (N := 5) (n := 5) hts iwL_X0 (hts (.instantiable RX0 5) (by decide +kernel))
  obtain ⟨c1, i1, h1⟩ := u_known (C := RX1) (T := TX1) (N := 6) (n := 6) hts iwL_X1 (hts (.instantiable RX1 6) (by decide +kernel))
  obtain ⟨c2, i2, h2⟩ := u_known (C := RX2) (T := TX2) (N := 4) (n := 4) hts iwL_X2 (hts (.instantiable RX2 4) (by decide +kernel))
  obtain ⟨c3, i3, h3⟩ := u_known (C := RX3) (T := TX3) (N := 3) (n := 3) hts iwL_X3 (hts (.instantiable RX3 3) (by decide +kernel))
  obtain ⟨c4, i4, h4⟩ := u_known (C := RX4) (T := TX4) (N := 2) (n := 2) hts iwL_X4 (hts (.instantiable RX4 2) (by decide +kernel))
  obtain ⟨c5, i5, h5⟩ := u_known (C := RX6) (T := TX6) (N := 6) (n := 6) hts iwL_X6 (hts (.instantiable RX6 6) (by decide +kernel))
  obtain ⟨c6, i6, h6⟩ := u_known (C := RX7) (T := TX7) (N := 16) (n := 16) hts iwL_X7 (hts (.instantiable RX7 16) (by decide +kernel))
  obtain ⟨c7, i7, h7⟩ := u_known (C := RX8) (T := TX8) (N := 10) (n := 10) hts iwL_X8 (hts (.instantiable RX8 10) (by decide +kernel))
  obtain ⟨c8, i8, h8⟩ := u_known (C := RX9) (T := TX9) (N := 31) (n := 31) hts iwL_X9 (hts (.instantiable RX9 31) (by decide +kernel))
  obtain ⟨a0, k0, p0, e01, e02, e03⟩ := Cond.arrayClass_spec hi
  obtain ⟨a1, k1, p1, e11, e12, e13⟩ := Cond.arrayClass_spec hc
  obtain ⟨a2, k2, p2, e21, e22, e23⟩ := Cond.arrayClass_spec hz
  obtain ⟨p3, a3, k3, e31, -, e32, e33, e34⟩ := Cond.arrayOver_spec ho
  refine ⟨(fun k => [c0, c1, c2, c3, c4, c5, c6, c7, c8].getD k c0, fun k => [i0, i1, i2, i3, i4, i5, i6, i7, i8].getD k i0), fun k => [a0, a1, a2, a3].getD k a0, fun k x hx => ?_, fun k x hx => ?_⟩
  · match k, hx with
    | 0, hx => cases hx; exact h0
    | 1, hx => cases hx; exact h1
    | 2, hx => cases hx; exact h2
    | 3, hx => cases hx; exact h3
    | 4, hx => cases hx; exact h4
    | 5, hx => cases hx; exact h5
    | 6, hx => cases hx; exact h6
    | 7, hx => cases hx; exact h7
    | 8, hx => cases hx; exact h8
    | k + 9, hx => simp [vwCl] at hx
  · match k, hx with
    | 0, hx => cases hx; exact ⟨fun n z => ⟨fun k h => (by cases h), k0, e02, p0, e03⟩, e01⟩
    | 1, hx => cases hx; exact ⟨fun n z => ⟨fun k h => (by cases h), k1, e12, p1, e13⟩, e11⟩
    | 2, hx => cases hx; exact ⟨fun n z => ⟨fun k h => (by cases h), k2, e22, p2, e23⟩, e21⟩
    | 3, hx => cases hx; exact ⟨fun n z => ⟨fun k h => (by cases h), k3, e32, p3, e33⟩, k3, p3, e32, e33, e31, e34⟩
    | k + 4, hx => simp [TY] at hx
theorem start_B : ∀ j, j < 128 → (Cond.eq (.elem (.field (.string RX8 69) "java/lang/String" "value" "[B") (.int (Int32.ofNat j))) (.int (xFB.getD j 0))) ∈ flatC (Jvm.Cond.and given_1 narrow_1) := by decide +kernel
theorem start_Z {s : State} {b : Nat} (hts0 : ∀ w ∈ lw_tbl, w.before #[Value.ref b] s = true) (hgv : (Jvm.Cond.and given_1 narrow_1).before #[Value.ref b] s = true) : ∃ aK aV : Nat, xZ aK aV (fun q : Nat => s.heap.size ≤ q) s := by
  have hA : ∀ a : Nat, a < s.heap.size → ¬ (fun q : Nat => s.heap.size ≤ q) a := fun a h => Nat.not_le.mpr h
  have hs := flat_of_before _ hgv
  have h1 : (Cond.exactly (.string RX8 69) "java/lang/String").before #[Value.ref b] s = true := hs _ (by decide +kernel)
  have h2 : (Cond.eq (.field (.string RX8 69) "java/lang/String" "coder" "B") (.int 0)).before #[Value.ref b] s = true := hs _ (by decide +kernel)
  have h3 : (Cond.arrayOf (.field (.string RX8 69) "java/lang/String" "value" "[B") .byte).before #[Value.ref b] s = true := hs _ (by decide +kernel)
  have h4 : (Cond.eq (.length (.field (.string RX8 69) "java/lang/String" "value" "[B")) (.int (Int32.ofNat 128))).before #[Value.ref b] s = true := hs _ (by decide +kernel)
  have h5 : (Cond.eq (.static "java/lang/String" "COMPACT_STRINGS" "Z") (.int 1)).before #[Value.ref b] s = true := hs _ (by decide +kernel)
  have h6 : (Cond.isRef (.static "jdk/internal/util/Preconditions" "SIOOBE_FORMATTER" "Ljava/util/function/BiFunction;")).before #[Value.ref b] s = true := hs _ (by decide +kernel)
  obtain ⟨adK, adV, hv, hk⟩ := vk_Sof (args := #[Value.ref b]) (s := s) (N := 1) (tm := fun _ => .string RX8 69) (len := [128]) (byt := [xFB]) (A := fun q : Nat => s.heap.size ≤ q)
    (fun i hi => by rw [show i = 0 by omega]; decide) (fun i hi => h1) (fun i hi => h2) (fun i hi => h3) (fun i hi => by rw [show i = 0 by omega]; exact h4)
    (fun i hi j hj => by rw [show i = 0 by omega] at hj ⊢; exact hs _ (start_B j hj)) (fun i j hi hj hij => absurd (show i = j by omega) hij) hA
  exact ⟨adK 0, adV 0, va_AO.of (hts0 (.arrayOver (.object RX1)) (by decide +kernel)), vk_R.of (hts0 (.stringRef RX8 69 xFT) (by decide +kernel)) (hk 0 (by decide)), hv.1 0 (by decide), va_Zof (hts0 (.laysStatic "java/lang/String" "COMPACT_STRINGS" "Z") (by decide +kernel)) (hts0 (.initialized "java/lang/String") (by decide +kernel)) (va_eqt h5) hA, va_Zqof (hts0 (.laysStatic "jdk/internal/util/Preconditions" "SIOOBE_FORMATTER" "Ljava/util/function/BiFunction;") (by decide +kernel)) (hts0 (.initialized "jdk/internal/util/Preconditions") (by decide +kernel)) h6 hA⟩
theorem start_Nm : ∀ q ∈ xNestL, Cond.methodLinkNest q.1 q.2.1 q.2.2 "LeftAtFive" ∈ lw_tbl := by decide +kernel
theorem start_N {s : State} {a : Array Value} (hts0 : ∀ w ∈ lw_tbl, w.before a s = true) : xNw s := fun q hq => va_Nw.of rfl (hts0 _ (start_Nm q hq))
