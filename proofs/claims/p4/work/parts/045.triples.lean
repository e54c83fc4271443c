-- THE STORE: names 1 (the store), 2 (its views), 3 .. 5 (a view each)
def hTr (K : Nat → ClassId) (ad : Nat → Nat) (ws : va_W) (F : Nat → Nat → Int32) (cnt : Nat) : Prop := ws[1]? = some (ad 1, .inr (iT, [.ref (ad 2), .int (nI cnt)])) ∧ (∃ fq : Nat → Option Nat, ws[2]? = some (ad 2, .inl (K 2, 3, .inr (.inr (.inr (.inr fq))))) ∧ ∀ v, v < 3 → fq v = some (ad (3 + v))) ∧ ∀ v, v < 3 → ws[3 + v]? = some (ad (3 + v), .inl (K 0, 640, .inl (F v)))
/-- the views hold the codes g, rising, of the triples X -/
def hVw (F : Nat → Nat → Int32) (g : Nat → Nat → Nat) (cnt : Nat) (X : Nat → Nat → Prop) : Prop := cnt ≤ 640 ∧ ∀ v, v < 3 → (∀ i, i < cnt → F v i = nI (g v i) ∧ g v i < 262144) ∧ hSor (g v) cnt (X v)
theorem hTr.ag {K : Nat → ClassId} {ad : Nat → Nat} {ws ws' : va_W} {lo hi cnt : Nat} {F : Nat → Nat → Int32} (h : hTr K ad ws F cnt) (hg : hAg lo hi ws ws') (hn : 5 < lo ∨ hi ≤ 1) : hTr K ad ws' F cnt := by
  obtain ⟨h1, ⟨fq, h2, h3⟩, h4⟩ := h
  exact ⟨by rw [hg.2 1 (by omega)]; exact h1, ⟨fq, by rw [hg.2 2 (by omega)]; exact h2, h3⟩, fun v hv => by rw [hg.2 (3 + v) (by omega)]; exact h4 v hv⟩
theorem hVw0 : hVw (fun _ _ => 0) (fun _ _ => 0) 0 (fun _ _ => False) := ⟨by decide, fun v _ => ⟨fun i hi => absurd hi (Nat.not_lt_zero _), fun i j _ hj => absurd hj (Nat.not_lt_zero _), fun c => ⟨False.elim, fun ⟨i, hi, _⟩ => absurd hi (Nat.not_lt_zero _)⟩⟩⟩
theorem hk01 {k : Int32} (h1 : ¬ k < nI 1) (h2 : k ≤ nI 0) : False := by
  rw [Int32.lt_iff_toInt_lt, nI_toInt (by decide)] at h1
  rw [Int32.le_iff_toInt_le, nI_toInt (by decide)] at h2
  omega
theorem hIm4 : (-4 : Int32).toInt = -4 := by decide +kernel
theorem hk4 {k : Int32} (h1 : ¬ k < 0) (h2 : ¬ (-4) ≤ k) : False := by
  rw [Int32.lt_iff_toInt_lt, Int32.toInt_zero] at h1
  rw [Int32.le_iff_toInt_le, hIm4] at h2
  omega
