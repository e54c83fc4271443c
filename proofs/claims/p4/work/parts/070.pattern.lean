-- PATTERNS: three items each, and what was counted of them
def hPt (K : Nat → ClassId) (ad : Nat → Nat) (ws : va_W) (n : Nat) (I dd : Nat → Nat) (mm : Nat) : Prop := ∃ fi fd : Nat → Int32, ws[n]? = some (ad n, .inr (iP, [.ref (ad (n + 1)), .ref (ad (n + 2)), .int (nI mm)])) ∧ ws[n + 1]? = some (ad (n + 1), .inl (K 0, 3, .inl fi)) ∧ ws[n + 2]? = some (ad (n + 2), .inl (K 0, 3, .inl fd)) ∧ (∀ p, p < 3 → fi p = hit (I p) ∧ I p < 72) ∧ ∀ p, p < 3 → fd p = nI (dd p)
theorem hPt.ag {K : Nat → ClassId} {ad : Nat → Nat} {ws ws' : va_W} {n lo hi : Nat} {I dd : Nat → Nat} {mm : Nat} (h : hPt K ad ws n I dd mm) (hg : hAg lo hi ws ws') (hn : n + 2 < lo ∨ hi ≤ n) : hPt K ad ws' n I dd mm := by
  obtain ⟨fi, fd, h1, h2, h3, h4⟩ := h
  exact ⟨fi, fd, by rw [hg.2 n (by omega)]; exact h1, by rw [hg.2 (n + 1) (by omega)]; exact h2, by rw [hg.2 (n + 2) (by omega)]; exact h3, h4⟩
theorem hit_ge {x : Nat} (hx : x < 72) : 0 ≤ hit x ↔ x < 64 := by
  rw [Int32.le_iff_toInt_le, Int32.toInt_zero, hit_toInt x hx]
  split <;> omega
theorem hit_lt {x : Nat} (hx : x < 72) : hit x < 0 ↔ 64 ≤ x := by
  rw [Int32.lt_iff_toInt_lt, Int32.toInt_zero, hit_toInt x hx]
  split <;> omega
theorem hit_vv {x : Nat} (h : 64 ≤ x) : hit x = hvI (x - 64) := if_neg (by omega)
/-- the variables of the first places, as a mask -/
def hvm (I : Nat → Nat) : Nat → Nat
  | 0 => 0
  | p + 1 => if I p < 64 then hvm I p else hvm I p ||| 2 ^ (I p - 64)
abbrev hkn (kn : Int32) (x : Nat) : Prop := 64 ≤ x ∧ ¬ kn &&& nI (2 ^ (x - 64)) = 0
/-- the places that are fixed by numbers and by known variables, as a mask -/
def hfx (I : Nat → Nat) (kn : Int32) : Nat → Nat
  | 0 => 0
  | p + 1 => if I p < 64 ∨ hkn kn (I p) then hfx I kn p ||| 2 ^ p else hfx I kn p
def hnum (x : Nat) : Nat := if x < 64 then x else 0
def hnk (v : Nat) (I : Nat → Nat) : Nat → Nat
  | 0 => 0
  | p + 1 => hnk v I p ||| hnum (I p) * 2 ^ hsh v p
theorem hnum_lt (x : Nat) : hnum x < 64 := by
  unfold hnum
  split <;> omega
theorem hnk_3 {v : Nat} (hv : v < 3) (I : Nat → Nat) : hnk v I 3 = hvc v (hnum (I 0)) (hnum (I 1)) (hnum (I 2)) := by
  rw [← hcode hv (hnum_lt _) (hnum_lt _) (hnum_lt _)]
  show ((0 ||| _) ||| _) ||| _ = _
  rw [Nat.zero_or]
theorem hvm_lt (I : Nat → Nat) (h : ∀ p, p < 3 → I p < 72) : ∀ p, p ≤ 3 → hvm I p < 2 ^ 8
  | 0, _ => by show 0 < 2 ^ 8; decide
  | p + 1, hp => by
    have ih := hvm_lt I h p (by omega)
    show (if I p < 64 then hvm I p else hvm I p ||| 2 ^ (I p - 64)) < 2 ^ 8
    split
    · exact ih
    · exact Nat.or_lt_two_pow ih (Nat.pow_lt_pow_right (by decide) (by have := h p (by omega); omega))
theorem hfx_lt (I : Nat → Nat) (kn : Int32) : ∀ p, p ≤ 3 → hfx I kn p < 2 ^ 3
  | 0, _ => by show 0 < 2 ^ 3; decide
  | p + 1, hp => by
    have ih := hfx_lt I kn p (by omega)
    show (if I p < 64 ∨ hkn kn (I p) then hfx I kn p ||| 2 ^ p else hfx I kn p) < 2 ^ 3
    split
    · exact Nat.or_lt_two_pow ih (Nat.pow_lt_pow_right (by decide) (by omega))
    · exact ih
theorem hnk_lt {v : Nat} (hv : v < 3) (I : Nat → Nat) : ∀ p, p ≤ 3 → hnk v I p < 2 ^ 18
  | 0, _ => by show 0 < 2 ^ 18; decide
  | p + 1, hp => by
    have ih := hnk_lt hv I p (by omega)
    have h2 := hsh_lt v hv p (by omega)
    have h3 := hnum_lt (I p)
    refine Nat.or_lt_two_pow ih ?_
    calc hnum (I p) * 2 ^ hsh v p < 64 * 2 ^ hsh v p := Nat.mul_lt_mul_of_pos_right h3 (Nat.two_pow_pos _)
      _ ≤ 64 * 2 ^ 12 := Nat.mul_le_mul_left _ (Nat.pow_le_pow_right (by decide) (by omega))
      _ = 2 ^ 18 := by decide
theorem hp6 {x : Nat} (h : x < 6) : 1 * 2 ^ x < 2 ^ 32 := by
  rw [Nat.one_mul]
  exact Nat.pow_lt_pow_right (by decide) (by omega)
/-- the divisor of THE RULE, for the first places -/
def hdv (I dd : Nat → Nat) (kn : Int32) : Nat → Nat
  | 0 => 1
  | p + 1 => if hkn kn (I p) then hdv I dd kn p * dd p else hdv I dd kn p
/-- the estimate -/
def hes (I dd : Nat → Nat) (mm : Nat) (kn : Int32) : Nat := if mm < 1 ∨ hdv I dd kn 3 < 1 then 0 else (mm + hdv I dd kn 3 - 1) / hdv I dd kn 3
theorem hdv_le (I dd : Nat → Nat) (kn : Int32) (h : ∀ p, p < 3 → dd p ≤ 127) : ∀ p, p ≤ 3 → hdv I dd kn p ≤ 127 ^ p
  | 0, _ => Nat.le_refl _
  | p + 1, hp => by
    have ih := hdv_le I dd kn h p (by omega)
    show (if hkn kn (I p) then hdv I dd kn p * dd p else hdv I dd kn p) ≤ 127 ^ (p + 1)
    rw [Nat.pow_succ]
    split
    · exact Nat.mul_le_mul ih (h p (by omega))
    · exact Nat.le_trans ih (Nat.le_mul_of_pos_right _ (by decide))
theorem hsh_mul {v p x : Nat} (hv : v < 3) (hp : p < 3) (hx : x < 64) : x * 2 ^ hsh v p < 2 ^ 32 := by
  have h2 := hsh_lt v hv p hp
  calc x * 2 ^ hsh v p < 64 * 2 ^ hsh v p := Nat.mul_lt_mul_of_pos_right hx (Nat.two_pow_pos _)
    _ ≤ 64 * 2 ^ 12 := Nat.mul_le_mul_left _ (Nat.pow_le_pow_right (by decide) (by omega))
    _ ≤ 2 ^ 32 := by decide
abbrev hFit (I : Nat → Nat) (a b c : Nat) : Prop := (64 ≤ I 0 ∨ I 0 = a) ∧ (64 ≤ I 1 ∨ I 1 = b) ∧ (64 ≤ I 2 ∨ I 2 = c) ∧ (¬ I 0 = I 1 ∨ a = b) ∧ (¬ I 1 = I 2 ∨ b = c) ∧ (¬ I 0 = I 2 ∨ a = c)
