/-! own words: numbers -/
def tn (x : Int32) : Nat := x.toNatClampNeg
def xsum (f : Nat → Int32) : Nat → Int32
  | 0 => nI 0
  | n + 1 => xsum f n + f n
def xap (x y : Int32) : Int32 := if x < y then y - x else x - y
def xlf (kd n : Int32) : Int32 := if kd = nI 1 then n / nI 2 else if kd = nI 2 then nI 0 else n
theorem x_shr : ∀ {s i : Nat}, s < 32 → i < 5 → nI s >>> (nI i &&& nI 31) = nI (s / 2 ^ i) := by
  intro s i hs hi
  have key : ∀ s, s < 32 → ∀ i, i < 5 → nI s >>> (nI i &&& nI 31) = nI (s / 2 ^ i) := by decide +kernel
  exact key s hs i hi
theorem x_and1 : ∀ {s : Nat}, s < 32 → nI s &&& nI 1 = nI (s % 2) := by
  intro s hs
  have key : ∀ s, s < 32 → nI s &&& nI 1 = nI (s % 2) := by decide +kernel
  exact key s hs
