/-! own rows: a row of references is told by its n references alone -/
theorem arrV_congr {cA : ClassId} {n : Nat} {f g : Nat → Value} (h : ∀ j, j < n → f j = g j) : arrV cA n f = arrV cA n g := by
  unfold arrV
  congr 1
  congr 1
  funext j
  exact h j.val j.isLt
theorem xM.qx {D : va_G} {tys : List (ClassId × FieldType)} {A : Nat → Prop} {H0 : Heap} {s : State} {H : Heap} {locs : List Loc} {bs bs' : List va_W} (U V : va_W) {a n : Nat} {cA : ClassId} {f f' : Nat → Option Nat} (hM : xM D tys bs A H0 s H locs) (e1 : bs.flatten = U ++ (a, .inl (cA, n, .inr (.inr (.inr (.inr f))))) :: V) (e2 : bs'.flatten = U ++ (a, .inl (cA, n, .inr (.inr (.inr (.inr f'))))) :: V) (h : ∀ j, j < n → f j = f' j) : xM D tys bs' A H0 s H locs := by
  obtain ⟨h1, hP, hD, h4⟩ := hM
  rw [e1] at hP hD
  have hl : ∀ (k : Nat) (q : Nat × va_E), (U ++ (a, .inl (cA, n, .inr (.inr (.inr (.inr f'))))) :: V)[k]? = some q → (k = U.length ∧ q = (a, .inl (cA, n, .inr (.inr (.inr (.inr f')))))) ∨ (U ++ (a, .inl (cA, n, .inr (.inr (.inr (.inr f))))) :: V)[k]? = some q := by
    intro k q hk
    by_cases hz : k = U.length
    · subst hz
      rw [List.getElem?_append_right (Nat.le_refl _), Nat.sub_self] at hk
      exact Or.inl ⟨rfl, (Option.some.inj hk).symm⟩
    · refine Or.inr ?_
      by_cases h2 : k < U.length
      · rw [List.getElem?_append_left h2] at hk ⊢
        exact hk
      · rw [List.getElem?_append_right (by omega)] at hk ⊢
        obtain ⟨m, hm⟩ : ∃ m, k - U.length = m + 1 := ⟨k - U.length - 1, by omega⟩
        rw [hm] at hk ⊢
        exact hk
  have hx : (U ++ (a, .inl (cA, n, .inr (.inr (.inr (.inr f))))) :: V)[U.length]? = some (a, (.inl (cA, n, .inr (.inr (.inr (.inr f)))) : va_E)) := by
    rw [List.getElem?_append_right (Nat.le_refl _), Nat.sub_self]
    rfl
  refine ⟨h1, ?_, ?_, h4⟩
  · rw [e2]
    intro k q hk
    rcases hl k q hk with ⟨-, rfl⟩ | hk2
    · have := hP _ _ hx
      show H[a]? = some (vp_cell cA (n, .inr (.inr (.inr (.inr f')))))
      have e : vp_cell cA (n, .inr (.inr (.inr (.inr f')))) = vp_cell cA (n, .inr (.inr (.inr (.inr f)))) := by
        rw [vp_cell_q, vp_cell_q]
        exact arrV_congr (fun j hj => by rw [h j hj])
      rw [e]
      exact this
    · exact hP k q hk2
  · rw [e2]
    refine ⟨fun i j p q hi hj hpq => ?_, fun k q hk => ?_⟩
    · rcases hl i p hi with ⟨rfl, rfl⟩ | hi2
      · rcases hl j q hj with ⟨rfl, rfl⟩ | hj2
        · rfl
        · exact hD.1 _ _ _ _ hx hj2 hpq
      · rcases hl j q hj with ⟨rfl, rfl⟩ | hj2
        · exact hD.1 _ _ _ _ hi2 hx hpq
        · exact hD.1 _ _ _ _ hi2 hj2 hpq
    · rcases hl k q hk with ⟨-, rfl⟩ | hk2
      · have h9 := hD.2 _ _ hx
        exact h9
      · exact hD.2 _ _ hk2
def xaF (L : List (Nat → Nat)) : Nat → Nat → Nat := fun i => L.getD i (fun _ => 0)
