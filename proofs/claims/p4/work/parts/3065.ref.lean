theorem hand255 (y : Int32) : ∃ v, v < 256 ∧ y &&& nI 255 = nI v := ⟨_, Nat.mod_lt _ (by decide), pk_and y (m := nI 255) 8 (by decide +kernel)⟩
theorem hand_lt (x : Int32) {m : Nat} (h : m < 256) : ∃ v, v < 256 ∧ x &&& nI m = nI v := by
  obtain ⟨v, hv, e⟩ := hand255 (x &&& nI m)
  rw [Int32.and_assoc, hiand, show m &&& 255 = m from (Nat.and_two_pow_sub_one_eq_mod m 8).trans (Nat.mod_eq_of_lt h)] at e
  exact ⟨v, hv, e⟩
theorem hup_up (f : Nat → Nat → Int32) (k : Nat) (a b : Nat → Int32) : hup (hup f k a) k b = hup f k b := by
  funext j
  unfold hup
  by_cases z : j = k
  · rw [if_pos z, if_pos z]
  · rw [if_neg z, if_neg z, if_neg z]
theorem hup_id (f : Nat → Nat → Int32) (k : Nat) : hup f k (f k) = f := by
  funext j
  unfold hup
  by_cases z : j = k
  · rw [if_pos z, z]
  · rw [if_neg z]
