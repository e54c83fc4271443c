theorem hRB.frm2 {f g : Nat → Nat → Int32} {S : Nat → Nat → Nat → Prop} {cnt np : Nat} {o : List Nat} {fd fd1 : Int32} (h : hRB f S cnt np o fd) (h1 : g 1 = f 1) (h2 : g 2 = f 2) (h3 : g 3 = f 3) (hF : hRF g fd1) : hRB g S cnt np o fd1 := by
  obtain ⟨q1, q2, q3, q4, q5, q6, q7, -⟩ := h
  refine ⟨q1, q2, q3, q4, ?_, ?_, ?_, hF⟩
  · rw [h1]; exact q5
  · rw [h2]; exact q6
  · rw [h3]; exact q7
/-- how many of the first K stand before (q, k) -/
def hcn (s : Nat → Int) (q : Int) (k : Nat) : Nat → Nat
  | 0 => 0
  | K + 1 => hcn s q k K + (if s K < q ∨ (s K = q ∧ K < k) then 1 else 0)
theorem hcn_le (s : Nat → Int) (q : Int) (k : Nat) : ∀ K, hcn s q k K ≤ K
  | 0 => Nat.le_refl _
  | K + 1 => by
    have := hcn_le s q k K
    show hcn s q k K + _ ≤ K + 1
    split <;> omega
theorem hcn_skip {s : Nat → Int} {q : Int} {k : Nat} (h : s k ≠ q) : ∀ K, hcn s q (k + 1) K = hcn s q k K
  | 0 => rfl
  | K + 1 => by
    show hcn s q (k + 1) K + _ = hcn s q k K + _
    rw [hcn_skip h K]
    congr 1
    by_cases z : K = k
    · subst z
      have : ¬ (s K = q ∧ K < K + 1) := fun w => h w.1
      have : ¬ (s K = q ∧ K < K) := fun w => h w.1
      simp [h]
    · have : (K < k + 1) ↔ (K < k) := by omega
      simp only [this]
theorem hcn_step {s : Nat → Int} {q : Int} {k : Nat} (h : s k = q) : ∀ K, hcn s q (k + 1) K = hcn s q k K + (if k < K then 1 else 0)
  | 0 => rfl
  | K + 1 => by
    show hcn s q (k + 1) K + _ = hcn s q k K + _ + _
    rw [hcn_step h K]
    by_cases z : K = k
    · subst z
      simp [h]
    · have e : (K < k + 1) ↔ (K < k) := by omega
      have e2 : (k < K + 1) ↔ (k < K) := by omega
      simp only [e, e2]
      omega
theorem hcn_next (s : Nat → Int) (q : Int) (k : Nat) : ∀ K, K ≤ k → hcn s q k K = hcn s (q + 1) 0 K
  | 0, _ => rfl
  | K + 1, h => by
    show hcn s q k K + _ = hcn s (q + 1) 0 K + _
    rw [hcn_next s q k K (by omega)]
    congr 1
    have e : (s K < q ∨ (s K = q ∧ K < k)) ↔ (s K < q + 1 ∨ (s K = q + 1 ∧ K < 0)) := by
      constructor
      · rintro (a | a)
        · exact Or.inl (by omega)
        · exact Or.inl (by omega)
      · rintro (a | a)
        · rcases (show s K < q ∨ s K = q by omega) with b | b
          · exact Or.inl b
          · exact Or.inr ⟨b, by omega⟩
        · exact absurd a.2 (Nat.not_lt_zero _)
    simp only [e]
theorem hcn_lt {s : Nat → Int} {q : Int} {k K : Nat} (hk : k < K) (h : s k = q) : hcn s q k K + 1 ≤ K := by
  have e := hcn_step h K
  rw [if_pos hk] at e
  rw [← e]
  exact hcn_le _ _ _ _
theorem hIx.fn {h : Nat → Int32} (hx : hIx h) : ∃ m : Nat → Nat, ∀ i, i < 20000 → m i < 20000 ∧ h i = nI (m i) := by
  classical
  refine ⟨fun i => if z : i < 20000 then (hx i z).choose else 0, fun i hi => ?_⟩
  dsimp only
  rw [dif_pos hi]
  exact (hx i hi).choose_spec
theorem hIx.upd {h : Nat → Int32} (hx : hIx h) {k m : Nat} (hm : m < 20000) : hIx (upd h k (nI m)) := fun i hi => by
  by_cases z : i = k
  · subst z
    exact ⟨m, hm, by rw [pk_us]⟩
  · rw [pk_un z]
    exact hx i hi
theorem hval_ix0 : ∀ k, k < 8 → -(nI 1) + -(hvI k) = nI k := by decide +kernel
theorem hval_ix (a : Nat) {k : Nat} (hk : k < 8) : nI a - nI 1 - hvI k = nI (a + k) := by
  rw [Int32.sub_eq_add_neg, Int32.sub_eq_add_neg, Int32.add_assoc, hval_ix0 k hk, nI_add]
theorem hplace {x : Int32} {ct : Nat} (h : x = (-1) ∨ ∃ q, q < ct ∧ x = nI q) : ∃ d, d ≤ ct ∧ x + nI 1 = nI d := by
  rcases h with h | ⟨q, h1, h2⟩
  · exact ⟨0, Nat.zero_le _, by rw [h]; decide +kernel⟩
  · exact ⟨q + 1, h1, by rw [h2]; exact nI_add _ _⟩
