abbrev hMc (ad : Nat → Nat) (lz : Int64) (kp : Nat) (fd : Int32) : Nat × va_E := (ad 0, .inr (iM, [.ref (ad 1), .int (nI 0), .ref (ad 2), .int (nI 0), .ref (ad 3), .int (nI 0), .ref (ad 4), .ref (ad 5), .ref (ad 6), .long lz, .ref (ad 7), .ref (ad 8), .ref (ad 9), .ref (ad 10), .int (nI kp), .int fd, .ref (ad 11), .ref (ad 12)]))
/-- the reference without triples, patterns and an order -/
def hMs (K : Nat → ClassId) (ad : Nat → Nat) (ws : va_W) (lz : Int64) (kp : Nat) (fd : Int32) : Prop := ws[0]? = some (hMc ad lz kp fd) ∧ (∃ f : Nat → Int32, ws[1]? = some (ad 1, .inl (K 0, 1920, .inl f))) ∧ (∃ f : Nat → Int32, ws[2]? = some (ad 2, .inl (K 0, 18, .inl f))) ∧ (∃ f : Nat → Int32, ws[3]? = some (ad 3, .inl (K 0, 6, .inl f))) ∧ (∃ f : Nat → Int32, ws[4]? = some (ad 4, .inl (K 0, 1536, .inl f))) ∧ (∃ f : Nat → Int32, ws[5]? = some (ad 5, .inl (K 0, 6, .inl f))) ∧ (∃ f : Nat → Int32, ws[6]? = some (ad 6, .inl (K 0, 6, .inl f))) ∧ (∃ f : Nat → Int32, ws[7]? = some (ad 7, .inl (K 0, 9, .inl f))) ∧ (∃ f : Nat → Int32, ws[8]? = some (ad 8, .inl (K 0, 9, .inl f)) ∧ ∀ j, f j = 0) ∧ (∃ f : Nat → Int32, ws[9]? = some (ad 9, .inl (K 0, 6, .inl f))) ∧ (∃ f : Nat → Int32, ws[10]? = some (ad 10, .inl (K 0, 160000, .inl f))) ∧ (∃ f : Nat → Int32, ws[11]? = some (ad 11, .inl (K 0, 20000, .inl f)) ∧ f 0 = 0) ∧ (∃ f : Nat → Int32, ws[12]? = some (ad 12, .inl (K 0, 20000, .inl f)) ∧ f 0 = 0)
theorem hI63 : (nI 63).toInt = 63 := by decide +kernel
theorem hOkN_neg3 {x : Int32} (h : x < 0 ∨ nI 63 < x) : ¬ hOkN x := by
  rw [Int32.lt_iff_toInt_lt, Int32.lt_iff_toInt_lt, hI63, Int32.toInt_zero] at h
  intro q
  have := q.1
  have := q.2
  omega
theorem hOkN_pos3 {x : Int32} (h1 : ¬ x < 0) (h2 : ¬ nI 63 < x) : hOkN x := by
  rw [Int32.lt_iff_toInt_lt, Int32.toInt_zero] at h1
  rw [Int32.lt_iff_toInt_lt, hI63] at h2
  exact ⟨by omega, by omega⟩
theorem hOkI_neg {x : Int32} (h : x < (-8) ∨ nI 63 < x) : ¬ (hOkN x ∨ hOkV x) := by
  rw [Int32.lt_iff_toInt_lt, Int32.lt_iff_toInt_lt, hI63, hIm8] at h
  rintro (q | q) <;> (have := q.1; have := q.2; omega)
theorem hOkI_pos {x : Int32} (h1 : ¬ x < (-8)) (h2 : ¬ nI 63 < x) : hOkN x ∨ hOkV x := by
  rw [Int32.lt_iff_toInt_lt, hIm8] at h1
  rw [Int32.lt_iff_toInt_lt, hI63] at h2
  by_cases q : 0 ≤ x.toInt
  · exact Or.inl ⟨by omega, by omega⟩
  · exact Or.inr ⟨by omega, by omega⟩
theorem hk00 {k : Int32} (h1 : ¬ k < 0) (h2 : ¬ nI 0 ≤ k) : False := by
  rw [Int32.lt_iff_toInt_lt, Int32.toInt_zero] at h1
  rw [Int32.le_iff_toInt_le, nI_toInt (by decide)] at h2
  omega
theorem hIm2 : (-2 : Int32).toInt = -2 := by decide +kernel
theorem hk2 {k : Int32} (h1 : ¬ k < 0) (h2 : ¬ (-2) ≤ k) : False := by
  rw [Int32.lt_iff_toInt_lt, Int32.toInt_zero] at h1
  rw [Int32.le_iff_toInt_le, hIm2] at h2
  omega
theorem hupd0 {f : Nat → Int32} (i : Nat) (h : f 0 = 0) : upd f i (nI 0) 0 = 0 := by
  by_cases z : 0 = i
  · subst z; rw [pk_us]; rfl
  · rw [pk_un z]; exact h
theorem hupdA {f : Nat → Int32} (i : Nat) (h : ∀ j, f j = 0) : ∀ j, upd f i (nI 0) j = 0 := fun j => by
  by_cases z : j = i
  · subst z; rw [pk_us]; rfl
  · rw [pk_un z]; exact h j

