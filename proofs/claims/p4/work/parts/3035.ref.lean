/-- triple t has the numbers of pattern p -/
def hHN (f : Nat → Nat → Int32) (t p : Nat) : Prop := ∀ i, i < 3 → f 2 (3 * p + i) < 0 ∨ f 2 (3 * p + i) = f 1 (3 * t + i)
