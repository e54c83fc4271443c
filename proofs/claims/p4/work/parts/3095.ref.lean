theorem hneg_all : ∀ x, x < 72 → 64 ≤ x → -(hit x) = nI (x - 63) := by decide +kernel
theorem hneg_it {x : Nat} (h : 64 ≤ x) (h2 : x < 72) : -(hit x) = nI (x - 63) := hneg_all x h2 h
theorem hup_78 (f : Nat → Nat → Int32) (a b c d : Nat → Int32) : hup (hup (hup (hup f 7 a) 8 b) 7 c) 8 d = hup (hup f 7 c) 8 d := by
  funext j
  unfold hup
  by_cases z : j = 8
  · simp [z]
  · by_cases y : j = 7
    · simp [y]
    · simp [z, y]
