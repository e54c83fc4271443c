theorem hRT.del {h : Nat → Int32} {S : Nat → Nat → Nat → Prop} {cnt i a b c : Nat} {ta tb tc : Nat → Nat} (h1 : ∀ i, i < cnt → h (3 * i) = nI (ta i) ∧ h (3 * i + 1) = nI (tb i) ∧ h (3 * i + 2) = nI (tc i) ∧ ta i < 64 ∧ tb i < 64 ∧ tc i < 64) (h2 : ∀ i j, i < j → j < cnt → ¬ (ta i = ta j ∧ tb i = tb j ∧ tc i = tc j)) (h3 : ∀ a b c, S a b c ↔ ∃ i, i < cnt ∧ ta i = a ∧ tb i = b ∧ tc i = c) (hi : i < cnt) (ea : ta i = a) (eb : tb i = b) (ec : tc i = c) : hRT (upd (upd (upd h (3 * i) (h (3 * (cnt - 1)))) (3 * i + 1) (h (3 * (cnt - 1) + 1))) (3 * i + 2) (h (3 * (cnt - 1) + 2))) (hDelT S a b c) (cnt - 1) := by
  obtain ⟨l1, l2, l3, l4⟩ := h1 (cnt - 1) (by omega)
  have hd : ∀ j k, j < cnt → k < cnt → j ≠ k → ¬ (ta j = ta k ∧ tb j = tb k ∧ tc j = tc k) := fun j k hj hk hn q => by
    rcases Nat.lt_or_ge j k with z | z
    · exact h2 j k z hk q
    · exact h2 k j (by omega) hj ⟨q.1.symm, q.2.1.symm, q.2.2.symm⟩
  refine ⟨fun j => if j = i then ta (cnt - 1) else ta j, fun j => if j = i then tb (cnt - 1) else tb j, fun j => if j = i then tc (cnt - 1) else tc j, fun j hj => ?_, fun j k hjk hk => ?_, fun x y z => ?_⟩
  · dsimp only
    by_cases q : j = i
    · subst q
      rw [if_pos rfl, if_pos rfl, if_pos rfl]
      refine ⟨?_, ?_, ?_, l4⟩
      · rw [pk_un (by omega), pk_un (by omega), pk_us]; exact l1
      · rw [pk_un (by omega), pk_us]; exact l2
      · rw [pk_us]; exact l3
    · obtain ⟨e1, e2, e3, e4⟩ := h1 j (by omega)
      rw [if_neg q, if_neg q, if_neg q]
      refine ⟨?_, ?_, ?_, e4⟩
      · rw [pk_un (by omega), pk_un (by omega), pk_un (by omega)]; exact e1
      · rw [pk_un (by omega), pk_un (by omega), pk_un (by omega)]; exact e2
      · rw [pk_un (by omega), pk_un (by omega), pk_un (by omega)]; exact e3
  · dsimp only
    by_cases q : j = i
    · rw [if_pos q, if_pos q, if_pos q, if_neg (show ¬ k = i by omega), if_neg (show ¬ k = i by omega), if_neg (show ¬ k = i by omega)]
      exact hd _ _ (by omega) (by omega) (by omega)
    · rw [if_neg q, if_neg q, if_neg q]
      by_cases q2 : k = i
      · rw [if_pos q2, if_pos q2, if_pos q2]
        exact hd _ _ (by omega) (by omega) (by omega)
      · rw [if_neg q2, if_neg q2, if_neg q2]
        exact hd _ _ (by omega) (by omega) (by omega)
  · dsimp only
    constructor
    · rintro ⟨q, hn⟩
      obtain ⟨j, hj, e1, e2, e3⟩ := (h3 x y z).mp q
      have hji : j ≠ i := fun w => hn ⟨by rw [← e1, w, ea], by rw [← e2, w, eb], by rw [← e3, w, ec]⟩
      by_cases w : j = cnt - 1
      · refine ⟨i, by omega, ?_⟩
        rw [if_pos rfl, if_pos rfl, if_pos rfl, ← w]
        exact ⟨e1, e2, e3⟩
      · refine ⟨j, by omega, ?_⟩
        rw [if_neg hji, if_neg hji, if_neg hji]
        exact ⟨e1, e2, e3⟩
    · rintro ⟨j, hj, e1, e2, e3⟩
      by_cases w : j = i
      · rw [if_pos w] at e1 e2 e3
        refine ⟨(h3 x y z).mpr ⟨cnt - 1, by omega, e1, e2, e3⟩, fun v => ?_⟩
        exact hd (cnt - 1) i (by omega) hi (by omega) ⟨by rw [e1, ea, v.1], by rw [e2, eb, v.2.1], by rw [e3, ec, v.2.2]⟩
      · rw [if_neg w] at e1 e2 e3
        refine ⟨(h3 x y z).mpr ⟨j, by omega, e1, e2, e3⟩, fun v => ?_⟩
        exact hd j i (by omega) hi w ⟨by rw [e1, ea, v.1], by rw [e2, eb, v.2.1], by rw [e3, ec, v.2.2]⟩
theorem hRI.add {h : Nat → Int32} {np x0 x1 x2 : Nat} (hI : hRI h np) (h0 : x0 < 72) (h1 : x1 < 72) (h2 : x2 < 72) : hRI (upd (upd (upd h (3 * np) (hit x0)) (3 * np + 1) (hit x1)) (3 * np + 2) (hit x2)) (np + 1) := by
  obtain ⟨I, hI⟩ := hI
  refine ⟨fun p => if p = np then (fun i => if i = 0 then x0 else if i = 1 then x1 else x2) else I p, fun p hp i hi => ?_⟩
  dsimp only
  by_cases q : p = np
  · subst q
    rw [if_pos rfl]
    rcases (show i = 0 ∨ i = 1 ∨ i = 2 by omega) with rfl | rfl | rfl
    · exact ⟨by rw [pk_un (by omega), pk_un (by omega), Nat.add_zero, pk_us]; rfl, h0⟩
    · exact ⟨by rw [pk_un (by omega), pk_us]; rfl, h1⟩
    · exact ⟨by rw [pk_us]; rfl, h2⟩
  · rw [if_neg q]
    obtain ⟨e1, e2⟩ := hI p (by omega) i hi
    exact ⟨by rw [pk_un (by omega), pk_un (by omega), pk_un (by omega)]; exact e1, e2⟩
theorem hmem_get {o : List Nat} {x : Nat} (h : x ∈ o) : ∃ j, j < o.length ∧ o.getD j 0 = x := by
  obtain ⟨j, hj, e⟩ := List.getElem_of_mem h
  exact ⟨j, hj, by rw [List.getD_eq_getElem?_getD, List.getElem?_eq_getElem hj]; exact e⟩
theorem hO_add {h : Nat → Int32} {o : List Nat} {i : Nat} (hO : ∀ k, k < o.length → h k = nI (o.getD k 0)) : ∀ k, k < (o ++ [i]).length → upd h o.length (nI i) k = nI ((o ++ [i]).getD k 0) := fun k hk => by
  rw [List.length_append] at hk
  have hk : k < o.length + 1 := hk
  by_cases z : k = o.length
  · subst z
    rw [pk_us, hgetDr]
    rfl
  · rw [pk_un z, hgetD (by omega)]
    exact hO k (by omega)
