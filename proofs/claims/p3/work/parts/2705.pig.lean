theorem hpig : ∀ (n : Nat) (o : List Nat), o.Nodup → (∀ x, x ∈ o → x < n) → o.length ≤ n
  | 0, o, _, h => by
    cases o with
    | nil => exact Nat.le_refl _
    | cons x l => exact absurd (h x List.mem_cons_self) (Nat.not_lt_zero _)
  | n + 1, o, hn, h => by
    have ih := hpig n (o.erase n) (hn.erase n) (fun x hx => by
      have h1 := h x (List.mem_of_mem_erase hx)
      have h2 : x ≠ n := (hn.mem_erase_iff.mp hx).1
      omega)
    by_cases q : n ∈ o
    · rw [List.length_erase_of_mem q] at ih
      omega
    · rw [List.erase_of_not_mem q] at ih
      omega
theorem hpig1 {o : List Nat} {np i : Nat} (hn : o.Nodup) (h : ∀ x, x ∈ o → x < np) (hi : i < np) (ho : i ∉ o) : o.length < np := by
  have := hpig np (o ++ [i]) (hnd_add hn ho) (hon_add h hi)
  rw [List.length_append] at this
  exact this
theorem hbd_new {I dd : Nat → Nat → Nat} {mm : Nat → Nat} {np x0 x1 x2 : Nat} (h : ∀ i, i < 6 → (∀ q, q < 3 → dd i q ≤ 127 ∧ I i q < 72) ∧ mm i ≤ 640) (h0 : x0 < 72) (h1 : x1 < 72) (h2 : x2 < 72) : ∀ i, i < 6 → (∀ q, q < 3 → dd i q ≤ 127 ∧ (fun i => if i = np then (fun p => if p = 0 then x0 else if p = 1 then x1 else x2) else I i) i q < 72) ∧ mm i ≤ 640 := fun i hi => by
  refine ⟨fun q hq => ⟨((h i hi).1 q hq).1, ?_⟩, (h i hi).2⟩
  dsimp only
  by_cases z : i = np
  · rw [if_pos z]
    show (if q = 0 then x0 else if q = 1 then x1 else x2) < 72
    split
    · exact h0
    · split
      · exact h1
      · exact h2
  · rw [if_neg z]
    exact ((h i hi).1 q hq).2
