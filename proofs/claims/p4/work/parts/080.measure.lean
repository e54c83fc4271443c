-- COUNTING: how many triples have a pattern's numbers, and how many numbers stand in each place
/-- the number at place p of a code of view v -/
def hpn (v p x : Nat) : Nat := x / 2 ^ hsh v p % 64
theorem hpn_lt (v p x : Nat) : hpn v p x < 64 := Nat.mod_lt _ (by decide)
/-- the mask of what h takes on from a on, k places -/
def hsn (h : Nat → Nat) (a : Nat) : Nat → Nat
  | 0 => 0
  | k + 1 => hsn h a k ||| 2 ^ h (a + k)
theorem hsn_lt {h : Nat → Nat} {a : Nat} (hh : ∀ i, h i < 64) : ∀ k, hsn h a k < 2 ^ 64
  | 0 => by show 0 < 2 ^ 64; decide
  | k + 1 => Nat.or_lt_two_pow (hsn_lt hh k) (Nat.pow_lt_pow_right (by decide) (hh _))
theorem hsn_bit {h : Nat → Nat} {a : Nat} (x : Nat) : ∀ k, (hsn h a k).testBit x = true ↔ ∃ i, a ≤ i ∧ i < a + k ∧ h i = x
  | 0 => by
    show (0 : Nat).testBit x = true ↔ _
    rw [Nat.zero_testBit]
    constructor
    · intro q; cases q
    · rintro ⟨i, h1, h2, -⟩; omega
  | k + 1 => by
    show (hsn h a k ||| 2 ^ h (a + k)).testBit x = true ↔ _
    rw [Nat.testBit_or, Bool.or_eq_true, hsn_bit x k, Nat.testBit_two_pow, decide_eq_true_eq]
    constructor
    · rintro (⟨i, h1, h2, h3⟩ | q)
      · exact ⟨i, h1, by omega, h3⟩
      · exact ⟨a + k, by omega, by omega, q⟩
    · rintro ⟨i, h1, h2, h3⟩
      by_cases z : i = a + k
      · subst z; exact Or.inr h3
      · exact Or.inl ⟨i, h1, by omega, h3⟩
theorem hlshl1 {x : Nat} (hx : x < 64) : lN 1 <<< ((nI x).toInt64 &&& 63) = lN (2 ^ x) := by rw [wb_shl 1 hx, Nat.one_mul]
def hview : Nat → Nat := fun j => match j with | 2 => 1 | 4 => 2 | 5 => 2 | 6 => 1 | _ => 0
theorem hview_lt : ∀ j, j < 8 → hview j < 3 := by decide
theorem hVf_eq : ∀ j, j < 8 → hVf j = .int (nI (hview j)) := by
  intro j hj
  rcases (show j = 0 ∨ j = 1 ∨ j = 2 ∨ j = 3 ∨ j = 4 ∨ j = 5 ∨ j = 6 ∨ j = 7 by omega) with rfl | rfl | rfl | rfl | rfl | rfl | rfl | rfl <;> rfl
def hopen (j : Nat) : Nat := 18 - 6 * hpc 3 j
theorem hlshr {x k : Nat} (hk : k < 64) (hx : x < 2 ^ 62) : lN x >>> ((nI k).toInt64 &&& 63) = lN (x / 2 ^ k) := pf_shr (by rw [wb_c k hk, wb_tb, wb_sm k hk, BitVec.toNat_ofNat]; omega) hx
theorem hminl {x : Nat} (h : x < 2 ^ 62) : (if (1000000000000 : Int64) < lN x then (1000000000000 : Int64) else lN x) = lN (min x 1000000000000) := by
  have e : (1000000000000 : Int64) = lN 1000000000000 := rfl
  rw [e]
  by_cases q : 1000000000000 < x
  · rw [if_pos ((pk_lLT (by omega) (by omega)).mpr q), Nat.min_eq_right (by omega)]
  · rw [if_neg (fun z => q ((pk_lLT (by omega) (by omega)).mp z)), Nat.min_eq_left (by omega)]
theorem hand127 (n : Nat) : nI n &&& nI 127 = nI (n % 128) := by
  rw [pk_and (nI n) (m := nI 127) 7 (by decide +kernel)]
  congr 1
  show (BitVec.ofNat 32 n).toNat % 2 ^ 7 = n % 128
  rw [BitVec.toNat_ofNat]
  omega
-- Integer.bitCount, its steps
def hu (x : Int32) (k : Int32) : Int32 := (x.toUInt32 >>> (k.toUInt32 &&& Int32.toUInt32 31)).toInt32
abbrev hib1 (n : Nat) : Int32 := ((nI n).toUInt32 >>> ((nI 1).toUInt32 &&& Int32.toUInt32 31)).toInt32
abbrev hib2 (n : Nat) : Int32 := (nI n) - ((hib1 n) &&& 1431655765)
abbrev hib3 (n : Nat) : Int32 := ((hib2 n).toUInt32 >>> ((nI 2).toUInt32 &&& Int32.toUInt32 31)).toInt32
abbrev hib4 (n : Nat) : Int32 := ((hib2 n) &&& 858993459) + ((hib3 n) &&& 858993459)
abbrev hib5 (n : Nat) : Int32 := ((hib4 n).toUInt32 >>> ((nI 4).toUInt32 &&& Int32.toUInt32 31)).toInt32
abbrev hib6 (n : Nat) : Int32 := ((hib4 n) + (hib5 n)) &&& 252645135
abbrev hib7 (n : Nat) : Int32 := ((hib6 n).toUInt32 >>> ((nI 8).toUInt32 &&& Int32.toUInt32 31)).toInt32
abbrev hib8 (n : Nat) : Int32 := (hib6 n) + (hib7 n)
abbrev hib9 (n : Nat) : Int32 := ((hib8 n).toUInt32 >>> ((nI 16).toUInt32 &&& Int32.toUInt32 31)).toInt32
abbrev hib10 (n : Nat) : Int32 := (hib8 n) + (hib9 n)
theorem hib_ok : ∀ n, n < 8 → (hib10 n) &&& (nI 63) = nI (hpc 3 n) := by decide +kernel
theorem hopen_ok : ∀ n, n < 8 → (nI 6) * ((nI 3) - (nI (hpc 3 n))) = nI (hopen n) := by decide +kernel
theorem hLb.mono {g : Nat → Nat} {n c d j k : Nat} (h : hLb g n c j) (h2 : hLb g n d k) (hcd : c ≤ d) : j ≤ k := by
  rcases Nat.lt_or_ge k j with q | q
  · have a1 := h.2.1 k q
    have a2 := h2.2.2 k (Nat.le_refl k) (by have := h.1; omega)
    omega
  · exact q
theorem hopen_le (j : Nat) : hopen j ≤ 18 := by
  unfold hopen
  omega
/-- how many triples have a pattern's numbers -/
def hMm (g : Nat → Nat → Nat) (cnt : Nat) (I : Nat → Nat) : Nat := hlbf (g (hview (hfx I (nI 0) 3))) cnt (hnk (hview (hfx I (nI 0) 3)) I 3 + 2 ^ hopen (hfx I (nI 0) 3)) - hlbf (g (hview (hfx I (nI 0) 3))) cnt (hnk (hview (hfx I (nI 0) 3)) I 3)
/-- how many numbers stand at a place in these -/
def hDd (g : Nat → Nat → Nat) (cnt : Nat) (I : Nat → Nat) (q : Nat) : Nat := hbc (hsn (fun i => hpn (hview (hfx I (nI 0) 3)) q (g (hview (hfx I (nI 0) 3)) i)) (hlbf (g (hview (hfx I (nI 0) 3))) cnt (hnk (hview (hfx I (nI 0) 3)) I 3)) (hMm g cnt I))
theorem hDd_le (g : Nat → Nat → Nat) (cnt : Nat) (I : Nat → Nat) (q : Nat) : hDd g cnt I q ≤ 127 := hbc_le _
theorem hMm_le (g : Nat → Nat → Nat) (cnt : Nat) (I : Nat → Nat) : hMm g cnt I ≤ cnt := Nat.le_trans (Nat.sub_le _ _) (hlbf_le _ _ _)
