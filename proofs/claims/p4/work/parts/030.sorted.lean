-- SORTED ARRAYS: the first n places of g, rising; what stands there is X
def hSor (g : Nat → Nat) (n : Nat) (X : Nat → Prop) : Prop := (∀ i j, i < j → j < n → g i < g j) ∧ ∀ c, X c ↔ ∃ i, i < n ∧ g i = c
theorem hSor.le {g : Nat → Nat} {n : Nat} {X : Nat → Prop} (h : hSor g n X) {i j : Nat} (hij : i ≤ j) (hj : j < n) : g i ≤ g j := by
  rcases Nat.lt_or_ge i j with q | q
  · exact Nat.le_of_lt (h.1 i j q hj)
  · rw [show i = j by omega]; exact Nat.le_refl _
/-- k is where c belongs -/
def hLb (g : Nat → Nat) (n c k : Nat) : Prop := k ≤ n ∧ (∀ i, i < k → g i < c) ∧ ∀ i, k ≤ i → i < n → c ≤ g i
theorem hLb.uniq {g : Nat → Nat} {n c k j : Nat} (h : hLb g n c k) (h2 : hLb g n c j) : k = j := by
  rcases Nat.lt_trichotomy k j with q | q | q
  · have h3 := h2.2.1 k q
    have h4 := h.2.2 k (Nat.le_refl k) (by have := h2.1; omega)
    omega
  · exact q
  · have h3 := h.2.1 j q
    have h4 := h2.2.2 j (Nat.le_refl j) (by have := h.1; omega)
    omega
theorem hSor.has {g : Nat → Nat} {n c k : Nat} {X : Nat → Prop} (h : hSor g n X) (hk : hLb g n c k) : X c ↔ (k < n ∧ g k = c) := by
  rw [h.2 c]
  constructor
  · rintro ⟨i, hi, e⟩
    have h1 : ¬ i < k := fun q => by have := hk.2.1 i q; omega
    have h2 := hk.2.2 k (Nat.le_refl k) (by omega)
    have h3 := h.le (show k ≤ i by omega) hi
    exact ⟨by omega, by omega⟩
  · rintro ⟨h1, h2⟩
    exact ⟨k, h1, h2⟩
def hIns (g : Nat → Nat) (k c : Nat) : Nat → Nat := fun i => if i < k then g i else if i = k then c else g (i - 1)
def hDel (g : Nat → Nat) (k : Nat) : Nat → Nat := fun i => if i < k then g i else g (i + 1)
theorem hSor.ins {g : Nat → Nat} {n c k : Nat} {X : Nat → Prop} (h : hSor g n X) (hk : hLb g n c k) (hc : ¬ X c) : hSor (hIns g k c) (n + 1) (fun x => X x ∨ x = c) := by
  have hne : ∀ i, i < n → g i ≠ c := fun i hi e => hc ((h.2 c).mpr ⟨i, hi, e⟩)
  have hkn := hk.1
  refine ⟨fun i j hij hj => ?_, fun x => ?_⟩
  · have a1 := hk.2.1 i
    have a3 := hk.2.2 (j - 1)
    have a4 := hne (j - 1)
    have a5 := h.1 i j hij
    have a6 := h.1 (i - 1) (j - 1)
    have a7 := h.1 i (j - 1)
    unfold hIns
    by_cases b1 : i < k
    · rw [if_pos b1]
      by_cases b2 : j < k
      · rw [if_pos b2]; exact a5 (by omega)
      · rw [if_neg b2]
        by_cases b3 : j = k
        · rw [if_pos b3]; exact a1 b1
        · rw [if_neg b3]
          have := a1 b1
          have := a3 (by omega) (by omega)
          omega
    · rw [if_neg b1, if_neg (show ¬ j < k by omega), if_neg (show ¬ j = k by omega)]
      by_cases b3 : i = k
      · rw [if_pos b3]
        have := a3 (by omega) (by omega)
        have := a4 (by omega)
        omega
      · rw [if_neg b3]; exact a6 (by omega) (by omega)
  · constructor
    · intro hx
      rcases hx with hx | hx
      · obtain ⟨i, hi, e⟩ := (h.2 x).mp hx
        by_cases b : i < k
        · exact ⟨i, by omega, by unfold hIns; rw [if_pos b]; exact e⟩
        · exact ⟨i + 1, by omega, by unfold hIns; rw [if_neg (by omega), if_neg (by omega)]; exact e⟩
      · exact ⟨k, by omega, by unfold hIns; rw [if_neg (by omega), if_pos rfl]; exact hx.symm⟩
    · rintro ⟨i, hi, e⟩
      unfold hIns at e
      by_cases b : i < k
      · rw [if_pos b] at e
        exact Or.inl ((h.2 x).mpr ⟨i, by omega, e⟩)
      · rw [if_neg b] at e
        by_cases b2 : i = k
        · rw [if_pos b2] at e
          exact Or.inr e.symm
        · rw [if_neg b2] at e
          exact Or.inl ((h.2 x).mpr ⟨i - 1, by omega, e⟩)
theorem hSor.del {g : Nat → Nat} {n c k : Nat} {X : Nat → Prop} (h : hSor g n X) (hk : k < n) (hc : g k = c) : hSor (hDel g k) (n - 1) (fun x => X x ∧ x ≠ c) := by
  refine ⟨fun i j hij hj => ?_, fun x => ?_⟩
  · have a5 := h.1 i j hij
    have a6 := h.1 (i + 1) (j + 1)
    have a7 := h.1 i (j + 1)
    unfold hDel
    by_cases b1 : i < k
    · rw [if_pos b1]
      by_cases b2 : j < k
      · rw [if_pos b2]; exact a5 (by omega)
      · rw [if_neg b2]; exact a7 (by omega) (by omega)
    · rw [if_neg b1, if_neg (show ¬ j < k by omega)]
      exact a6 (by omega) (by omega)
  · constructor
    · rintro ⟨hx, hne⟩
      obtain ⟨i, hi, e⟩ := (h.2 x).mp hx
      have hik : i ≠ k := fun q => hne (by rw [← e, q]; exact hc)
      by_cases b : i < k
      · exact ⟨i, by omega, by unfold hDel; rw [if_pos b]; exact e⟩
      · exact ⟨i - 1, by omega, by unfold hDel; rw [if_neg (by omega), show i - 1 + 1 = i by omega]; exact e⟩
    · rintro ⟨i, hi, e⟩
      unfold hDel at e
      by_cases b : i < k
      · rw [if_pos b] at e
        refine ⟨(h.2 x).mpr ⟨i, by omega, e⟩, ?_⟩
        have := h.1 i k b hk
        omega
      · rw [if_neg b] at e
        refine ⟨(h.2 x).mpr ⟨i + 1, by omega, e⟩, ?_⟩
        have := h.1 k (i + 1) (by omega) (by omega)
        omega
/-- the invariant of the search by strides -/
def hSt (g : Nat → Nat) (n c b st : Nat) : Prop := b ≤ n ∧ (∀ i, i < b → g i < c) ∧ ∀ i, b + (2 * st - 1) ≤ i → i < n → c ≤ g i
theorem hSt.start {g : Nat → Nat} {n c : Nat} (hn : n ≤ 1023) : hSt g n c 0 512 := ⟨Nat.zero_le _, fun i h => by omega, fun i h1 h2 => by omega⟩
theorem hSt.end_ {g : Nat → Nat} {n c b : Nat} (h : hSt g n c b 0) : hLb g n c b := ⟨h.1, h.2.1, fun i h1 h2 => h.2.2 i (by omega) h2⟩
theorem hSt.yes {g : Nat → Nat} {n c b st : Nat} {X : Nat → Prop} (hs : hSor g n X) (h : hSt g n c b st) (h0 : 0 < st) (he : st = 1 ∨ st % 2 = 0) (h1 : b + st ≤ n) (h2 : g (b + st - 1) < c) : hSt g n c (b + st) (st / 2) := by
  refine ⟨h1, fun i hi => ?_, fun i h3 h4 => h.2.2 i (by omega) h4⟩
  have := hs.le (show i ≤ b + st - 1 by omega) (show b + st - 1 < n by omega)
  omega
theorem hSt.no {g : Nat → Nat} {n c b st : Nat} {X : Nat → Prop} (hs : hSor g n X) (h : hSt g n c b st) (h0 : 0 < st) (he : st = 1 ∨ st % 2 = 0) (h1 : n < b + st ∨ c ≤ g (b + st - 1)) : hSt g n c b (st / 2) := by
  refine ⟨h.1, h.2.1, fun i h3 h4 => ?_⟩
  rcases h1 with h1 | h1
  · omega
  · have := hs.le (show b + st - 1 ≤ i by omega) h4
    omega
theorem hpow_ev {st : Nat} (h : st = 0 ∨ ∃ j, st = 2 ^ j) : st = 1 ∨ st % 2 = 0 := by
  rcases h with h | ⟨j, h⟩
  · exact Or.inr (by rw [h])
  · cases j with
    | zero => exact Or.inl h
    | succ j => exact Or.inr (by rw [h, Nat.pow_succ]; omega)
theorem hpow_half {st : Nat} (h : st = 0 ∨ ∃ j, st = 2 ^ j) : st / 2 = 0 ∨ ∃ j, st / 2 = 2 ^ j := by
  rcases h with h | ⟨j, h⟩
  · exact Or.inl (by rw [h])
  · cases j with
    | zero => exact Or.inl (by rw [h])
    | succ j => exact Or.inr ⟨j, by rw [h, Nat.pow_succ]; omega⟩
/-- where c belongs, counted -/
def hlbf (g : Nat → Nat) : Nat → Nat → Nat
  | 0, _ => 0
  | n + 1, c => if g n < c then n + 1 else hlbf g n c
theorem hlbf_le (g : Nat → Nat) (c : Nat) : ∀ n, hlbf g n c ≤ n
  | 0 => Nat.le_refl _
  | n + 1 => by
    show (if g n < c then n + 1 else hlbf g n c) ≤ n + 1
    by_cases h : g n < c
    · rw [if_pos h]; exact Nat.le_refl _
    · rw [if_neg h]; have := hlbf_le g c n; omega
theorem hlbf_lb {g : Nat → Nat} (c : Nat) : ∀ n, (∀ i j, i < j → j < n → g i < g j) → hLb g n c (hlbf g n c)
  | 0, _ => ⟨Nat.le_refl _, fun i h => absurd h (Nat.not_lt_zero i), fun i _ h => absurd h (Nat.not_lt_zero i)⟩
  | n + 1, hg => by
    show hLb g (n + 1) c (if g n < c then n + 1 else hlbf g n c)
    by_cases h : g n < c
    · rw [if_pos h]
      refine ⟨Nat.le_refl _, fun i hi => ?_, fun i h1 h2 => by omega⟩
      rcases Nat.lt_or_ge i n with q | q
      · have := hg i n q (Nat.lt_succ_self n); omega
      · rw [show i = n by omega]; exact h
    · rw [if_neg h]
      obtain ⟨h1, h2, h3⟩ := hlbf_lb c n (fun i j hij hj => hg i j hij (by omega))
      refine ⟨by omega, h2, fun i h4 h5 => ?_⟩
      rcases Nat.lt_or_ge i n with q | q
      · exact h3 i h4 q
      · rw [show i = n by omega]; omega
theorem hSor.lb {g : Nat → Nat} {n : Nat} {X : Nat → Prop} (h : hSor g n X) (c : Nat) : hLb g n c (hlbf g n c) := hlbf_lb c n h.1
theorem hIns_arr {F : Nat → Int32} {g : Nat → Nat} {n k c : Nat} (hk : k ≤ n) (hf : ∀ i, i < n → F i = nI (g i)) : ∀ i, i < n + 1 → upd (va_cpy F F k (k + 1) (n - k)) k (nI c) i = nI (hIns g k c i) := by
  intro i hi
  unfold hIns
  by_cases h1 : i = k
  · subst h1
    rw [pk_us, if_neg (Nat.lt_irrefl _), if_pos rfl]
  · rw [pk_un h1]
    by_cases h2 : i < k
    · rw [pk_cpy_out (Or.inl (by omega)), if_pos h2]
      exact hf i (by omega)
    · rw [pk_cpy_in (by omega) (by omega), if_neg h2, if_neg h1, show k + (i - (k + 1)) = i - 1 by omega]
      exact hf (i - 1) (by omega)
theorem hDel_arr {F : Nat → Int32} {g : Nat → Nat} {n k : Nat} (hk : k < n) (hf : ∀ i, i < n → F i = nI (g i)) : ∀ i, i < n - 1 → va_cpy F F (k + 1) k (n - k - 1) i = nI (hDel g k i) := by
  intro i hi
  unfold hDel
  by_cases h2 : i < k
  · rw [pk_cpy_out (Or.inl (by omega)), if_pos h2]
    exact hf i (by omega)
  · rw [pk_cpy_in (by omega) (by omega), if_neg h2, show k + 1 + (i - k) = i + 1 by omega]
    exact hf (i + 1) (by omega)
def hBool (r : Int32) (P : Prop) : Prop := (r = nI 1 ∧ P) ∨ (r = nI 0 ∧ ¬ P)
theorem hBool.yes {P : Prop} (h : P) : hBool (nI 1) P := Or.inl ⟨rfl, h⟩
theorem hBool.no {P : Prop} (h : ¬ P) : hBool (nI 0) P := Or.inr ⟨rfl, h⟩
theorem hBool.t {r : Int32} {P : Prop} (h : hBool r P) (c : ¬ r = 0) : P := by
  rcases h with h | h
  · exact h.2
  · exact absurd h.1 c
theorem hBool.f {r : Int32} {P : Prop} (h : hBool r P) (c : r = 0) : ¬ P := by
  rcases h with h | h
  · rw [h.1] at c; exact absurd c (by decide)
  · exact h.2
