-- SOLUTIONS: names 35 (the object), 36 + b (rows), 37 - b (spare); what stands in them is left open
def hSol (K : Nat → ClassId) (ad : Nat → Nat) (ws : va_W) (b ra sa L S cnt : Nat) : Prop := ws[35]? = some (ad 35, .inr (iU, [.ref ra, .ref sa, .int (nI cnt)])) ∧ (∃ f : Nat → Int64, ws[36 + b]? = some (ra, .inl (K 1, L, .inr (.inl f)))) ∧ ∃ f : Nat → Int64, ws[37 - b]? = some (sa, .inl (K 1, S, .inr (.inl f)))
theorem hSol.ag {K : Nat → ClassId} {ad : Nat → Nat} {ws ws' : va_W} {lo hi b ra sa L S cnt : Nat} (h : hSol K ad ws b ra sa L S cnt) (hb1 : b ≤ 1) (hg : hAg lo hi ws ws') (hn : 37 < lo ∨ hi ≤ 35) : hSol K ad ws' b ra sa L S cnt := by
  obtain ⟨h1, ⟨f, h2⟩, f2, h3⟩ := h
  exact ⟨by rw [hg.2 35 (by omega)]; exact h1, ⟨f, by rw [hg.2 (36 + b) (by omega)]; exact h2⟩, f2, by rw [hg.2 (37 - b) (by omega)]; exact h3⟩
theorem hset_or {ws : va_W} {k j : Nat} {x q : Nat × va_E} (h : (ws.set k x)[j]? = some q) : (j = k ∧ q = x) ∨ (j ≠ k ∧ ws[j]? = some q) := by
  by_cases z : k = j
  · subst z
    have hl : k < ws.length := by
      have := (List.getElem?_eq_some_iff.mp h).1
      rwa [List.length_set] at this
    rw [List.getElem?_set_self hl] at h
    exact Or.inl ⟨rfl, (Option.some.inj h).symm⟩
  · rw [List.getElem?_set_ne z] at h
    exact Or.inr ⟨fun e => z e.symm, h⟩
/-- a cell that was made takes the place of another -/
theorem hrepl {D : va_G} {cl : List vw_C} {A : Nat → Prop} {ws : va_W} {x : Nat × va_E} {H : Heap} (k : Nat) (hP : va_P D cl (ws ++ [x]) H) (hD : va_D A (ws ++ [x])) : va_P D cl (ws.set k x) H ∧ va_D A (ws.set k x) := by
  have new : ∀ (j : Nat) (q : Nat × va_E), (ws.set k x)[j]? = some q → ∃ i, (ws ++ [x])[i]? = some q ∧ ((j = k ∧ i = ws.length) ∨ (j ≠ k ∧ i = j ∧ j < ws.length)) := by
    intro j q h
    rcases hset_or h with ⟨h1, h2⟩ | ⟨h1, h2⟩
    · exact ⟨ws.length, by rw [h2]; exact hlast_at, Or.inl ⟨h1, rfl⟩⟩
    · exact ⟨j, hinit_at h2, Or.inr ⟨h1, rfl, (List.getElem?_eq_some_iff.mp h2).1⟩⟩
  refine ⟨fun j q h => ?_, fun i j y z hy hz e => ?_, fun j q h => ?_⟩
  · obtain ⟨i, h1, -⟩ := new j q h
    exact hP i q h1
  · obtain ⟨i1, a1, a2⟩ := new i y hy
    obtain ⟨i2, b1, b2⟩ := new j z hz
    have := hD.1 i1 i2 y z a1 b1 e
    omega
  · obtain ⟨i, h1, -⟩ := new j q h
    exact hD.2 i q h1
theorem hmini {x y : Nat} (hx : x < 2 ^ 31) (hy : y < 2 ^ 31) : (if nI y < nI x then nI y else nI x) = nI (min x y) := by
  by_cases q : y < x
  · rw [if_pos (nI_lt q hx), Nat.min_eq_right (by omega)]
  · rw [if_neg (nI_nlt (by omega) hy), Nat.min_eq_left (by omega)]
/-- how long the rows may be, how many arrays were made till then and of how many elements -/
def hLv (L : Nat) : Prop := L = 64 ∨ L = 128 ∨ L = 256 ∨ L = 512 ∨ L = 1024 ∨ L = 2048 ∨ L = 4096 ∨ L = 8192 ∨ L = 16384 ∨ L = 20000
def hNx (L : Nat) : Nat := min (2 * L) 20000
def hQs (L : Nat) : Nat := if L ≤ 16384 then 2 * L - 128 else 52640
def hQc (L : Nat) : Nat := if L ≤ 64 then 0 else if L ≤ 128 then 1 else if L ≤ 256 then 2 else if L ≤ 512 then 3 else if L ≤ 1024 then 4 else if L ≤ 2048 then 5 else if L ≤ 4096 then 6 else if L ≤ 8192 then 7 else if L ≤ 16384 then 8 else 9
theorem hLv_nx {L : Nat} (h : hLv L) (hl : L < 20000) : hLv (hNx L) ∧ L < hNx L ∧ hQs (hNx L) = hQs L + hNx L ∧ hQc (hNx L) = hQc L + 1 := by
  rcases h with rfl | rfl | rfl | rfl | rfl | rfl | rfl | rfl | rfl | rfl
  all_goals first | (exact absurd hl (by decide)) | (refine ⟨?_, by decide, by decide, by decide⟩; unfold hLv hNx; decide)
theorem hLv_le {L : Nat} (h : hLv L) : 64 ≤ L ∧ L ≤ 20000 := by
  unfold hLv at h
  omega
