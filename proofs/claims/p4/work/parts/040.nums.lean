-- NUMBERS: items, codes of triples, rows
theorem hior (a b : Nat) : nI a ||| nI b = nI (a ||| b) := by
  apply Int32.toBitVec_inj.1
  show BitVec.ofNat 32 a ||| BitVec.ofNat 32 b = BitVec.ofNat 32 (a ||| b)
  apply BitVec.eq_of_getLsbD_eq
  intro i hi
  simp [hi]
theorem hiand (a b : Nat) : nI a &&& nI b = nI (a &&& b) := by
  apply Int32.toBitVec_inj.1
  show BitVec.ofNat 32 a &&& BitVec.ofNat 32 b = BitVec.ofNat 32 (a &&& b)
  apply BitVec.eq_of_getLsbD_eq
  intro i hi
  simp [hi]
theorem hs_l : ∀ n, n < 32 → ((nI n &&& 31).toBitVec.smod 32).toNat = n := by decide +kernel
/-- variable number k + 1, as the int -(k + 1) -/
def hvI (k : Nat) : Int32 := Int32.ofInt (-((k : Int) + 1))
theorem hvI_toInt : ∀ k, k < 8 → (hvI k).toInt = -((k : Int) + 1) := by decide +kernel
/-- an item: x < 64 the number x, 64 + k the variable -(k + 1) -/
def hit (x : Nat) : Int32 := if x < 64 then nI x else hvI (x - 64)
theorem hit_n {x : Nat} (h : x < 64) : hit x = nI x := if_pos h
theorem hit_v {k : Nat} : hit (64 + k) = hvI k := by
  unfold hit
  rw [if_neg (by omega), show 64 + k - 64 = k by omega]
theorem hit_toInt : ∀ x, x < 72 → (hit x).toInt = if x < 64 then (x : Int) else 63 - (x : Int) := by decide +kernel
theorem hit_inj {x y : Nat} (hx : x < 72) (hy : y < 72) (h : hit x = hit y) : x = y := by
  have e := congrArg Int32.toInt h
  rw [hit_toInt x hx, hit_toInt y hy] at e
  split at e <;> split at e <;> omega
abbrev hOkN (x : Int32) : Prop := 0 ≤ x.toInt ∧ x.toInt < 64
abbrev hOkV (x : Int32) : Prop := x.toInt < 0 ∧ -8 ≤ x.toInt
theorem hI64 : (nI 64).toInt = 64 := by decide +kernel
theorem hIm8 : (-8 : Int32).toInt = -8 := by decide +kernel
theorem hOkN_neg {x : Int32} (h : x < 0 ∨ nI 64 ≤ x) : ¬ hOkN x := by
  rw [Int32.lt_iff_toInt_lt, Int32.le_iff_toInt_le, hI64, Int32.toInt_zero] at h
  intro q
  have := q.1
  have := q.2
  omega
theorem hOkN_pos {x : Int32} (h1 : ¬ x < 0) (h2 : ¬ nI 64 ≤ x) : hOkN x := by
  rw [Int32.lt_iff_toInt_lt, Int32.toInt_zero] at h1
  rw [Int32.le_iff_toInt_le, hI64] at h2
  exact ⟨by omega, by omega⟩
theorem hOkV_neg {x : Int32} (h : 0 ≤ x ∨ x < (-8)) : ¬ hOkV x := by
  rw [Int32.lt_iff_toInt_lt, Int32.le_iff_toInt_le, hIm8, Int32.toInt_zero] at h
  intro q
  have := q.1
  have := q.2
  omega
theorem hOkV_pos {x : Int32} (h1 : ¬ 0 ≤ x) (h2 : ¬ x < (-8)) : hOkV x := by
  rw [Int32.le_iff_toInt_le, Int32.toInt_zero] at h1
  rw [Int32.lt_iff_toInt_lt, hIm8] at h2
  exact ⟨by omega, by omega⟩
theorem hOkN_of {x : Int32} (h : hOkN x) : ∃ n, n < 64 ∧ x = nI n := by
  obtain ⟨h1, h2⟩ := h
  refine ⟨x.toInt.toNat, by omega, Int32.toInt_inj.mp ?_⟩
  rw [nI_toInt (by omega)]
  omega
theorem hOkV_of {x : Int32} (h : hOkV x) : ∃ k, k < 8 ∧ x = hvI k := by
  obtain ⟨h1, h2⟩ := h
  refine ⟨(-x.toInt - 1).toNat, by omega, Int32.toInt_inj.mp ?_⟩
  rw [hvI_toInt _ (by omega)]
  omega
theorem hOkN_nI {n : Nat} (h : n < 64) : hOkN (nI n) := by
  constructor <;> rw [nI_toInt (by omega)] <;> omega
theorem hOkV_vI {k : Nat} (h : k < 8) : hOkV (hvI k) := by
  constructor <;> rw [hvI_toInt k h] <;> omega
theorem hOk_of {x : Int32} (h : hOkN x ∨ hOkV x) : ∃ y, y < 72 ∧ x = hit y := by
  rcases h with h | h
  · obtain ⟨n, h1, h2⟩ := hOkN_of h
    exact ⟨n, by omega, by rw [hit_n h1]; exact h2⟩
  · obtain ⟨k, h1, h2⟩ := hOkV_of h
    exact ⟨64 + k, by omega, by rw [hit_v]; exact h2⟩
theorem hif1 {P : Prop} [Decidable P] {r : Int32} (h : r = if P then 1 else 0) (c : ¬ r = 0) : P := by
  by_cases q : P
  · exact q
  · rw [if_neg q] at h; exact absurd h c
theorem hif0 {P : Prop} [Decidable P] {r : Int32} (h : r = if P then 1 else 0) (c : r = 0) : ¬ P := by
  intro q
  rw [if_pos q] at h
  rw [h] at c
  exact absurd c (by decide)
theorem hbitOf : ∀ k, k < 8 → (nI 1) <<< (((-1) - (hvI k)) &&& 31) = nI (2 ^ k) := by decide +kernel
theorem hrowSh : ∀ k, k < 8 → (nI 6) * ((nI 8) + (hvI k)) = nI (6 * (7 - k)) := by decide +kernel
/-- where place p stands in the codes of view v -/
def hsh (v p : Nat) : Nat := 6 * (2 - (p + 3 - v) % 3)
/-- the code of the triple a b c in view v -/
def hvc (v a b c : Nat) : Nat := a * 2 ^ hsh v 0 + b * 2 ^ hsh v 1 + c * 2 ^ hsh v 2
theorem hsh_lt : ∀ v, v < 3 → ∀ p, p < 3 → hsh v p < 13 := by decide +kernel
def hfm (x y : Int32) : Int32 := if (x ^^^ y) < 0 ∧ ¬ (x - x / y * y) = 0 then (x - x / y * y) + y else (x - x / y * y)
theorem hcsh : ∀ v, v < 3 → ∀ p, p < 3 → (nI 6) * ((nI 2) - hfm ((nI p) - (nI v)) (nI 3)) = nI (hsh v p) := by decide +kernel
theorem hor_hi {a b k : Nat} (h : b < 2 ^ k) : a * 2 ^ k ||| b = a * 2 ^ k + b := by
  rw [← Nat.shiftLeft_eq, Nat.shiftLeft_add_eq_or_of_lt h]
theorem hor_lo {a b k : Nat} (h : b < 2 ^ k) : b ||| a * 2 ^ k = b + a * 2 ^ k := by
  rw [Nat.or_comm, hor_hi h, Nat.add_comm]
theorem hcode {v a b c : Nat} (hv : v < 3) (ha : a < 64) (hb : b < 64) (hc : c < 64) : a * 2 ^ hsh v 0 ||| b * 2 ^ hsh v 1 ||| c * 2 ^ hsh v 2 = hvc v a b c := by
  unfold hvc
  rcases (show v = 0 ∨ v = 1 ∨ v = 2 by omega) with rfl | rfl | rfl
  · show a * 2 ^ 12 ||| b * 2 ^ 6 ||| c * 2 ^ 0 = a * 2 ^ 12 + b * 2 ^ 6 + c * 2 ^ 0
    rw [hor_hi (show b * 2 ^ 6 < 2 ^ 12 by omega), show a * 2 ^ 12 + b * 2 ^ 6 = (a * 64 + b) * 2 ^ 6 by omega, hor_hi (show c * 2 ^ 0 < 2 ^ 6 by omega)]
  · show a * 2 ^ 0 ||| b * 2 ^ 12 ||| c * 2 ^ 6 = a * 2 ^ 0 + b * 2 ^ 12 + c * 2 ^ 6
    rw [Nat.or_comm (a * 2 ^ 0) (b * 2 ^ 12), Nat.or_assoc, Nat.or_comm (a * 2 ^ 0) (c * 2 ^ 6), ← Nat.or_assoc, hor_hi (show c * 2 ^ 6 < 2 ^ 12 by omega), show b * 2 ^ 12 + c * 2 ^ 6 = (b * 64 + c) * 2 ^ 6 by omega, hor_hi (show a * 2 ^ 0 < 2 ^ 6 by omega)]
    omega
  · show a * 2 ^ 6 ||| b * 2 ^ 0 ||| c * 2 ^ 12 = a * 2 ^ 6 + b * 2 ^ 0 + c * 2 ^ 12
    rw [hor_hi (show b * 2 ^ 0 < 2 ^ 6 by omega), Nat.or_comm, hor_hi (show a * 2 ^ 6 + b * 2 ^ 0 < 2 ^ 12 by omega)]
    omega
theorem hvc_lt {v a b c : Nat} (hv : v < 3) (ha : a < 64) (hb : b < 64) (hc : c < 64) : hvc v a b c < 262144 := by
  unfold hvc
  rcases (show v = 0 ∨ v = 1 ∨ v = 2 by omega) with rfl | rfl | rfl
  · show a * 2 ^ 12 + b * 2 ^ 6 + c * 2 ^ 0 < _
    omega
  · show a * 2 ^ 0 + b * 2 ^ 12 + c * 2 ^ 6 < _
    omega
  · show a * 2 ^ 6 + b * 2 ^ 0 + c * 2 ^ 12 < _
    omega
theorem hshl {n k : Nat} (hk : k < 32) (h : n * 2 ^ k < 2 ^ 32) : nI n <<< (nI k &&& 31) = nI (n * 2 ^ k) := pk_shlN _ k (hs_l k hk) h
theorem hshr {n k : Nat} (hk : k < 32) (h : n < 2 ^ 31) : nI n >>> (nI k &&& 31) = nI (n / 2 ^ k) := pk_shrN h _ k (hs_l k hk)
theorem hand63 {n : Nat} (h : n < 2 ^ 32) : nI n &&& nI 63 = nI (n % 64) := pk_andN h 6 (by decide +kernel)
theorem hand63' (n : Nat) : nI n &&& nI 63 = nI (n % 64) := by
  rw [pk_and (nI n) (m := nI 63) 6 (by decide +kernel)]
  congr 1
  show (BitVec.ofNat 32 n).toNat % 2 ^ 6 = n % 64
  rw [BitVec.toNat_ofNat]
  omega
theorem hnumAt {n k : Nat} (hk : k < 32) (h : n < 2 ^ 31) : (nI n >>> (nI k &&& 31)) &&& nI 63 = nI (n / 2 ^ k % 64) := by
  have h2 : n / 2 ^ k ≤ n := Nat.div_le_self _ _
  rw [hshr hk h, hand63 (by omega)]
