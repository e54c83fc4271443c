-- ORDERS: numbers of patterns in a row, with a mask of those that stand there
theorem hgetD {a b : List Nat} {i : Nat} (h : i < a.length) : (a ++ b).getD i 0 = a.getD i 0 := by
  rw [List.getD_eq_getElem?_getD, List.getD_eq_getElem?_getD, List.getElem?_append_left h]
theorem hgetDr {a : List Nat} {x : Nat} : (a ++ [x]).getD a.length 0 = [x].getD 0 0 := by
  rw [List.getD_eq_getElem?_getD, List.getElem?_append_right (Nat.le_refl _), Nat.sub_self]
  rfl
def hMk (u : Nat) (o : List Nat) : Prop := u < 64 ∧ ∀ i, i < 6 → (u.testBit i = true ↔ i ∈ o)
def hOr (K : Nat → ClassId) (ad : Nat → Nat) (ws : va_W) (n : Nat) (f : Nat → Int32) (len used : Nat) : Prop := ws[n]? = some (ad n, .inr (iO, [.ref (ad (n + 1)), .int (nI len), .int (nI used)])) ∧ ws[n + 1]? = some (ad (n + 1), .inl (K 0, 6, .inl f))
def hOk (f : Nat → Int32) (u : Nat) (o : List Nat) : Prop := o.length ≤ 6 ∧ (∀ i, i < o.length → f i = nI (o.getD i 0)) ∧ (∀ x, x ∈ o → x < 6) ∧ hMk u o
def hOrd (K : Nat → ClassId) (ad : Nat → Nat) (ws : va_W) (n : Nat) (o : List Nat) : Prop := ∃ (f : Nat → Int32) (u : Nat), hOr K ad ws n f o.length u ∧ hOk f u o
theorem hOrd.ag {K : Nat → ClassId} {ad : Nat → Nat} {ws ws' : va_W} {n lo hi : Nat} {o : List Nat} (h : hOrd K ad ws n o) (hg : hAg lo hi ws ws') (hn : n + 1 < lo ∨ hi ≤ n) : hOrd K ad ws' n o := by
  obtain ⟨f, u, ⟨h1, h2⟩, h3⟩ := h
  exact ⟨f, u, ⟨by rw [hg.2 n (by omega)]; exact h1, by rw [hg.2 (n + 1) (by omega)]; exact h2⟩, h3⟩
theorem hMk_nil : hMk 0 [] := ⟨by decide, fun i _ => by simp⟩
theorem hOk_nil (f : Nat → Int32) : hOk f 0 [] := ⟨by decide, fun i h => absurd h (Nat.not_lt_zero i), fun _ h => absurd h List.not_mem_nil, hMk_nil⟩
theorem hMk.add {u x : Nat} {o : List Nat} (h : hMk u o) (hx : x < 6) : hMk (u ||| 2 ^ x) (o ++ [x]) := by
  refine ⟨Nat.or_lt_two_pow (n := 6) h.1 (Nat.pow_lt_pow_right (by decide) hx), fun i hi => ?_⟩
  rw [Nat.testBit_or, Bool.or_eq_true, h.2 i hi, Nat.testBit_two_pow, decide_eq_true_eq, List.mem_append, List.mem_singleton]
  exact ⟨fun q => q.elim Or.inl (fun z => Or.inr z.symm), fun q => q.elim Or.inl (fun z => Or.inr z.symm)⟩
def hclr (u x : Nat) : Nat := if u.testBit x then u - 2 ^ x else u
theorem hclr_i : ∀ u, u < 64 → ∀ x, x < 6 → (nI u) &&& ((nI (2 ^ x)) ^^^ (-1)) = nI (hclr u x) := by decide +kernel
theorem hclr_b : ∀ u, u < 64 → ∀ x, x < 6 → hclr u x < 64 ∧ ∀ i, i < 6 → ((hclr u x).testBit i = true ↔ (u.testBit i = true ∧ i ≠ x)) := by decide +kernel
theorem hMk.sub {u x : Nat} {o : List Nat} (h : hMk u (o ++ [x])) (hx : x < 6) (hn : x ∉ o) : hMk (hclr u x) o := by
  obtain ⟨h1, h2⟩ := hclr_b u h.1 x hx
  refine ⟨h1, fun i hi => ?_⟩
  rw [h2 i hi, h.2 i hi, List.mem_append, List.mem_singleton]
  constructor
  · rintro ⟨q | q, z⟩
    · exact q
    · exact absurd q z
  · intro q
    exact ⟨Or.inl q, fun z => hn (z ▸ q)⟩
theorem hbit_eq : ∀ u, u < 64 → ∀ x, x < 6 → ((nI u) &&& (nI (1 * 2 ^ x)) = 0 ↔ ¬ u.testBit x = true) := by decide +kernel
theorem hOk.add {f : Nat → Int32} {u x : Nat} {o : List Nat} (h : hOk f u o) (hl : o.length < 6) (hx : x < 6) : hOk (upd f o.length (nI x)) (u ||| 2 ^ x) (o ++ [x]) := by
  obtain ⟨h1, h2, h3, h4⟩ := h
  refine ⟨by rw [List.length_append]; show o.length + 1 ≤ 6; omega, fun i hi => ?_, fun y hy => ?_, h4.add hx⟩
  · rw [List.length_append] at hi
    by_cases q : i = o.length
    · subst q
      rw [pk_us]
      simp
    · have hi : i < o.length + 1 := hi
      rw [pk_un q, h2 i (by omega), hgetD (by omega)]
  · rcases List.mem_append.mp hy with q | q
    · exact h3 y q
    · rw [List.mem_singleton.mp q]; exact hx
theorem hOk.pop {f : Nat → Int32} {u x : Nat} {o : List Nat} (h : hOk f u (o ++ [x])) (hn : x ∉ o) : f o.length = nI x ∧ x < 6 ∧ hOk f (hclr u x) o := by
  obtain ⟨h1, h2, h3, h4⟩ := h
  have hx : x < 6 := h3 x (List.mem_append_right _ (List.mem_singleton.mpr rfl))
  rw [List.length_append] at h1 h2
  have h1 : o.length + 1 ≤ 6 := h1
  have h2 : ∀ i, i < o.length + 1 → f i = nI ((o ++ [x]).getD i 0) := h2
  refine ⟨?_, hx, by omega, fun i hi => ?_, fun y hy => h3 y (List.mem_append_left _ hy), h4.sub hx hn⟩
  · rw [h2 o.length (by omega)]
    simp
  · rw [h2 i (by omega), hgetD hi]
