-- THE LIST OF PATTERNS: names 6 (the list), 7 (its array), 8 + 3 i (pattern i)
def hPl (K : Nat → ClassId) (ad : Nat → Nat) (ws : va_W) (np ms : Nat) : Prop := ws[6]? = some (ad 6, .inr (iL, [.ref (ad 7), .int (nI np), .int (nI ms)])) ∧ ∃ fq : Nat → Option Nat, ws[7]? = some (ad 7, .inl (K 3, 6, .inr (.inr (.inr (.inr fq))))) ∧ ∀ i, i < 6 → fq i = some (ad (8 + 3 * i))
def hPs (K : Nat → ClassId) (ad : Nat → Nat) (ws : va_W) (I dd : Nat → Nat → Nat) (mm : Nat → Nat) : Prop := ∀ i, i < 6 → hPt K ad ws (8 + 3 * i) (I i) (dd i) (mm i)
theorem hPl.ag {K : Nat → ClassId} {ad : Nat → Nat} {ws ws' : va_W} {lo hi np ms : Nat} (h : hPl K ad ws np ms) (hg : hAg lo hi ws ws') (hn : 7 < lo ∨ hi ≤ 6) : hPl K ad ws' np ms := by
  obtain ⟨h1, fq, h2, h3⟩ := h
  exact ⟨by rw [hg.2 6 (by omega)]; exact h1, fq, by rw [hg.2 7 (by omega)]; exact h2, h3⟩
theorem hPs.ag {K : Nat → ClassId} {ad : Nat → Nat} {ws ws' : va_W} {lo hi : Nat} {I dd : Nat → Nat → Nat} {mm : Nat → Nat} (h : hPs K ad ws I dd mm) (hg : hAg lo hi ws ws') (hn : 25 < lo ∨ hi ≤ 8) : hPs K ad ws' I dd mm := fun i hi6 => (h i hi6).ag hg (by omega)
/-- the variables of the first patterns, as a mask -/
def hVm (I : Nat → Nat → Nat) : Nat → Nat
  | 0 => 0
  | i + 1 => hVm I i ||| hvm (I i) 3
