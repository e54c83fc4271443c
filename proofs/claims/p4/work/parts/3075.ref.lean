-- ORDERS OF THE REFERENCE: a trial is t; the next one is greater, read as digits
def hkv (a : Nat) : Int32 := if a = 0 then (-1) else nI (a - 1)
theorem hkv_dec (b : Nat) : nI b + Int32.ofInt (-1) = hkv b := by
  unfold hkv
  by_cases z : b = 0
  · subst z
    rw [if_pos rfl]
    decide +kernel
  · rw [if_neg z]
    obtain ⟨c, rfl⟩ : ∃ c, b = c + 1 := ⟨b - 1, by omega⟩
    rw [← nI_1, Int32.add_assoc, show (1 : Int32) + Int32.ofInt (-1) = 0 from by decide +kernel, Int32.add_zero]
    rfl
theorem hnI_dec {j : Nat} (h : 1 ≤ j) : nI j + Int32.ofInt (-1) = nI (j - 1) := (hkv_dec j).trans (if_neg (by omega))
def hVl (t : Nat → Nat) : Nat → Nat
  | 0 => 0
  | k + 1 => hVl t k * 6 + t k
theorem hVl_eq {t t1 : Nat → Nat} : ∀ k, (∀ j, j < k → t1 j = t j) → hVl t1 k = hVl t k
  | 0, _ => rfl
  | k + 1, h => by
    show hVl t1 k * 6 + t1 k = hVl t k * 6 + t k
    rw [hVl_eq k (fun j hj => h j (by omega)), h k (Nat.lt_succ_self _)]
theorem hVl_lt {t t1 : Nat → Nat} {b : Nat} (h1 : ∀ j, j < b → t1 j = t j) (h2 : t b < t1 b) : ∀ m, (∀ j, j < b + 1 + m → t j < 6) → hVl t (b + 1 + m) < hVl t1 (b + 1 + m)
  | 0, _ => by
    show hVl t b * 6 + t b < hVl t1 b * 6 + t1 b
    rw [hVl_eq b h1]
    omega
  | m + 1, h => by
    have ih := hVl_lt h1 h2 m (fun j hj => h j (by omega))
    have h6 := h (b + 1 + m) (by omega)
    show hVl t (b + 1 + m) * 6 + t (b + 1 + m) < hVl t1 (b + 1 + m) * 6 + t1 (b + 1 + m)
    omega
theorem hVl_le {t : Nat → Nat} : ∀ k, (∀ j, j < k → t j < 6) → hVl t k < 6 ^ k
  | 0, _ => by show 0 < 1; decide
  | k + 1, h => by
    have ih := hVl_le k (fun j hj => h j (by omega))
    have h6 := h k (Nat.lt_succ_self _)
    show hVl t k * 6 + t k < 6 ^ (k + 1)
    rw [Nat.pow_succ]
    omega
/-- t is an order of the first n -/
def hPm (t : Nat → Nat) (n : Nat) : Prop := (∀ k, k < n → t k < n) ∧ ∀ i j, i < n → j < n → t i = t j → i = j
def hAt5 (F : Nat → Int32) (t : Nat → Nat) (n : Nat) : Prop := ∀ k, k < n → F k = nI (t k)
def hsw (t : Nat → Nat) (i j : Nat) : Nat → Nat := fun k => if k = j then t i else if k = i then t j else t k
theorem hsw_at {F : Nat → Int32} {t : Nat → Nat} {n i j : Nat} (h : hAt5 F t n) (hi : i < n) (hj : j < n) : hAt5 (upd (upd F i (F j)) j (F i)) (hsw t i j) n := fun k hk => by
  unfold hsw
  by_cases q : k = j
  · subst q
    rw [pk_us, if_pos rfl]; exact h i hi
  · rw [pk_un q, if_neg q]
    by_cases q2 : k = i
    · subst q2
      rw [pk_us, if_pos rfl]; exact h j hj
    · rw [pk_un q2, if_neg q2]; exact h k hk
theorem hsw_pm {t : Nat → Nat} {n i j : Nat} (h : hPm t n) (hi : i < n) (hj : j < n) : hPm (hsw t i j) n := by
  have v : ∀ k, k < n → ∃ m, m < n ∧ hsw t i j k = t m ∧ (k = j → m = i) ∧ (k ≠ j → k = i → m = j) ∧ (k ≠ j → k ≠ i → m = k) := fun k hk => by
    unfold hsw
    by_cases q : k = j
    · exact ⟨i, hi, if_pos q, fun _ => rfl, fun z => absurd q z, fun z => absurd q z⟩
    · by_cases q2 : k = i
      · exact ⟨j, hj, by rw [if_neg q, if_pos q2], fun z => absurd z q, fun _ _ => rfl, fun _ z => absurd q2 z⟩
      · exact ⟨k, hk, by rw [if_neg q, if_neg q2], fun z => absurd z q, fun _ z => absurd z q2, fun _ _ => rfl⟩
  refine ⟨fun k hk => ?_, fun a b ha hb e => ?_⟩
  · obtain ⟨m, hm, e, -⟩ := v k hk
    rw [e]; exact h.1 m hm
  · obtain ⟨m, hm, e1, a1, a2, a3⟩ := v a ha
    obtain ⟨m', hm', e2, b1, b2, b3⟩ := v b hb
    have hmm : m = m' := h.2 m m' hm hm' (by rw [← e1, ← e2]; exact e)
    by_cases q1 : a = j <;> by_cases q2 : b = j
    · omega
    · have := a1 q1
      by_cases q3 : b = i
      · have := b2 q2 q3; omega
      · have := b3 q2 q3; omega
    · have := b1 q2
      by_cases q3 : a = i
      · have := a2 q1 q3; omega
      · have := a3 q1 q3; omega
    · by_cases q3 : a = i <;> by_cases q4 : b = i
      · omega
      · have := a2 q1 q3; have := b3 q2 q4; omega
      · have := a3 q1 q3; have := b2 q2 q4; omega
      · have := a3 q1 q3; have := b3 q2 q4; omega
