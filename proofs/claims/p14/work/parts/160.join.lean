-- JOIN: rows are counted depth first; a state is (total, count)
def hLp (fl : List Nat) (ob key : Nat) (sub : Nat → Nat × Nat → Nat × Nat) : Nat → Nat → Nat × Nat → Nat × Nat
  | 0, _, st => st
  | k + 1, i, st => if i < fl.length ∧ fl.getD i 0 / 2 ^ ob = key / 2 ^ ob then (if 20000 < st.1 + 1 then (st.1 + 1, st.2) else hLp fl ob key sub k (i + 1) (sub i (st.1 + 1, st.2))) else st
def hEx (FL : Nat → List Nat) (It sh : Nat → Nat → Nat) (nk fx ob : Nat → Nat) (co len : Nat) : Nat → Nat → Nat × Nat → Nat × Nat
  | 0, _, st => if co = 0 then st else (st.1, min (st.2 + 1) 20000)
  | r + 1, row, st => hLp (FL (len - (r + 1))) (ob (len - (r + 1))) (hKf (It (len - (r + 1))) (sh (len - (r + 1))) (nk (len - (r + 1))) (fx (len - (r + 1))) row 3) (fun i st => hEx FL It sh nk fx ob co len r (hXt (It (len - (r + 1))) (sh (len - (r + 1))) ((FL (len - (r + 1))).getD i 0) row 3) st) ((FL (len - (r + 1))).length + 1) (hlbf (fun i => (FL (len - (r + 1))).getD i 0) (FL (len - (r + 1))).length (hKf (It (len - (r + 1))) (sh (len - (r + 1))) (nk (len - (r + 1))) (fx (len - (r + 1))) row 3)) st
/-- what a walk does to a state at most -/
def hBd (b : Nat) (s t : Nat × Nat) : Prop := t.1 ≤ 20000 + b ∧ (s.2 ≤ 20000 → s.2 ≤ t.2 ∧ t.2 ≤ 20000)
theorem hLp_bd {fl : List Nat} {ob key r : Nat} {sub : Nat → Nat × Nat → Nat × Nat} (hs : ∀ i st, st.1 ≤ 20000 → hBd r st (sub i st)) : ∀ k i st, st.1 ≤ 20000 + r → hBd (r + 1) st (hLp fl ob key sub k i st)
  | 0, i, st, h => ⟨by show st.1 ≤ _; omega, fun q => ⟨Nat.le_refl _, q⟩⟩
  | k + 1, i, st, h => by
    show hBd (r + 1) st (if i < fl.length ∧ fl.getD i 0 / 2 ^ ob = key / 2 ^ ob then (if 20000 < st.1 + 1 then (st.1 + 1, st.2) else hLp fl ob key sub k (i + 1) (sub i (st.1 + 1, st.2))) else st)
    split
    · split
      · exact ⟨by show st.1 + 1 ≤ _; omega, fun q => ⟨Nat.le_refl _, q⟩⟩
      · have a := hs i (st.1 + 1, st.2) (by show st.1 + 1 ≤ _; omega)
        have b := hLp_bd (fl := fl) (ob := ob) (key := key) hs k (i + 1) (sub i (st.1 + 1, st.2)) a.1
        exact ⟨b.1, fun q => ⟨Nat.le_trans (a.2 q).1 (b.2 (a.2 q).2).1, (b.2 (a.2 q).2).2⟩⟩
    · exact ⟨by omega, fun q => ⟨Nat.le_refl _, q⟩⟩
theorem hEx_bd (FL : Nat → List Nat) (It sh : Nat → Nat → Nat) (nk fx ob : Nat → Nat) (co len : Nat) : ∀ r row st, st.1 ≤ 20000 → hBd r st (hEx FL It sh nk fx ob co len r row st)
  | 0, row, st, h => by
    show hBd 0 st (if co = 0 then st else (st.1, min (st.2 + 1) 20000))
    split
    · exact ⟨by omega, fun q => ⟨Nat.le_refl _, q⟩⟩
    · exact ⟨by show st.1 ≤ _; omega, fun q => ⟨by show st.2 ≤ min (st.2 + 1) 20000; omega, Nat.min_le_right _ _⟩⟩
  | r + 1, row, st, h => hLp_bd (fun i st hst => hEx_bd FL It sh nk fx ob co len r _ st hst) _ _ st (by omega)
/-- how long the rows are that hold c rows, when they were L long -/
def hLw (c : Nat) : Nat := if c ≤ 64 then 64 else if c ≤ 128 then 128 else if c ≤ 256 then 256 else if c ≤ 512 then 512 else if c ≤ 1024 then 1024 else if c ≤ 2048 then 2048 else if c ≤ 4096 then 4096 else if c ≤ 8192 then 8192 else if c ≤ 16384 then 16384 else 20000
def hLf (L c : Nat) : Nat := if c ≤ L then L else hLw c
theorem hLw_spec (c : Nat) : (hLw c = 64 ∧ c ≤ 64) ∨ (hLw c = 128 ∧ 64 < c ∧ c ≤ 128) ∨ (hLw c = 256 ∧ 128 < c ∧ c ≤ 256) ∨ (hLw c = 512 ∧ 256 < c ∧ c ≤ 512) ∨ (hLw c = 1024 ∧ 512 < c ∧ c ≤ 1024) ∨ (hLw c = 2048 ∧ 1024 < c ∧ c ≤ 2048) ∨ (hLw c = 4096 ∧ 2048 < c ∧ c ≤ 4096) ∨ (hLw c = 8192 ∧ 4096 < c ∧ c ≤ 8192) ∨ (hLw c = 16384 ∧ 8192 < c ∧ c ≤ 16384) ∨ (hLw c = 20000 ∧ 16384 < c) := by
  unfold hLw
  repeat' split
  all_goals omega
theorem hQc_spec (c : Nat) : (hQc c = 0 ∧ c ≤ 64) ∨ (hQc c = 1 ∧ 64 < c ∧ c ≤ 128) ∨ (hQc c = 2 ∧ 128 < c ∧ c ≤ 256) ∨ (hQc c = 3 ∧ 256 < c ∧ c ≤ 512) ∨ (hQc c = 4 ∧ 512 < c ∧ c ≤ 1024) ∨ (hQc c = 5 ∧ 1024 < c ∧ c ≤ 2048) ∨ (hQc c = 6 ∧ 2048 < c ∧ c ≤ 4096) ∨ (hQc c = 7 ∧ 4096 < c ∧ c ≤ 8192) ∨ (hQc c = 8 ∧ 8192 < c ∧ c ≤ 16384) ∨ (hQc c = 9 ∧ 16384 < c) := by
  unfold hQc
  repeat' split
  all_goals omega
theorem hLw_lv (c : Nat) : hLv (hLw c) := by
  unfold hLv
  rcases hLw_spec c with q | q | q | q | q | q | q | q | q | q <;> rw [q.1] <;> decide
theorem hLw_le {c : Nat} (h : c ≤ 20000) : c ≤ hLw c := by
  rcases hLw_spec c with q | q | q | q | q | q | q | q | q | q <;> omega
/-- no level lies between -/
theorem hLw_min {c L : Nat} (hL : hLv L) (h : c ≤ L) : hLw c ≤ L := by
  unfold hLv at hL
  rcases hLw_spec c with q | q | q | q | q | q | q | q | q | q <;> omega
theorem hLf_lv {L c : Nat} (hL : hLv L) : hLv (hLf L c) := by
  unfold hLf
  split
  · exact hL
  · exact hLw_lv c
theorem hLf_ge {L c : Nat} (hc : c ≤ 20000) : L ≤ hLf L c ∧ c ≤ hLf L c := by
  have := hLw_le hc
  unfold hLf
  split <;> omega
theorem hLf_tr {L c d : Nat} (hL : hLv L) (hcd : c ≤ d) (hd : d ≤ 20000) : hLf (hLf L c) d = hLf L d := by
  have h1 := hLw_le (show c ≤ 20000 by omega)
  have h2 := hLw_le hd
  have h3 := hLw_lv c
  have h4 := hLw_lv d
  unfold hLf
  by_cases a : c ≤ L
  · rw [if_pos a]
  · rw [if_neg a, if_neg (show ¬ d ≤ L by omega)]
    by_cases b : d ≤ hLw c
    · rw [if_pos b]
      have := hLw_min h3 b
      have := hLw_min h4 (show c ≤ hLw d by omega)
      omega
    · rw [if_neg b]
theorem hQ_mono {L M : Nat} (h : L ≤ M) : hQc L ≤ hQc M := by
  have b := hQc_spec M
  rcases hQc_spec L with q | q | q | q | q | q | q | q | q | q <;> omega
theorem hQs_mono {L M : Nat} (hL : hLv L) (hM : hLv M) (h : L ≤ M) : hQs L ≤ hQs M := by
  rcases hL with rfl | rfl | rfl | rfl | rfl | rfl | rfl | rfl | rfl | rfl <;> rcases hM with rfl | rfl | rfl | rfl | rfl | rfl | rfl | rfl | rfl | rfl <;> first | (exact absurd h (by decide)) | decide
theorem hKf_lt {It sh : Nat → Nat} {nk fx row : Nat} (hnk : nk < 2 ^ 18) (hs : ∀ q, q < 3 → sh q < 13) : ∀ q, q ≤ 3 → hKf It sh nk fx row q < 2 ^ 18
  | 0, _ => hnk
  | q + 1, hq => by
    have ih := hKf_lt (It := It) (fx := fx) (row := row) hnk hs q (by omega)
    show (if 64 ≤ It q ∧ fx.testBit q = true then hKf It sh nk fx row q ||| (row / 2 ^ (6 * (7 - (It q - 64))) % 64) * 2 ^ sh q else hKf It sh nk fx row q) < 2 ^ 18
    split
    · refine Nat.or_lt_two_pow ih ?_
      have h1 : row / 2 ^ (6 * (7 - (It q - 64))) % 64 < 64 := Nat.mod_lt _ (by decide)
      have h2 : 2 ^ sh q ≤ 2 ^ 12 := Nat.pow_le_pow_right (by decide) (by have := hs q (by omega); omega)
      have h3 : row / 2 ^ (6 * (7 - (It q - 64))) % 64 * 2 ^ sh q ≤ 63 * 2 ^ 12 := Nat.mul_le_mul (by omega) h2
      omega
    · exact ih
theorem hXt_lt {It sh : Nat → Nat} {code row : Nat} (hrow : row < 2 ^ 48) (hI : ∀ q, q < 3 → It q < 72) : ∀ q, q ≤ 3 → hXt It sh code row q < 2 ^ 48
  | 0, _ => hrow
  | q + 1, hq => by
    have ih := hXt_lt (sh := sh) (code := code) hrow hI q (by omega)
    show (if 64 ≤ It q then hXt It sh code row q ||| (code / 2 ^ sh q % 64) * 2 ^ (6 * (7 - (It q - 64))) else hXt It sh code row q) < 2 ^ 48
    split
    · refine Nat.or_lt_two_pow ih ?_
      have h1 : code / 2 ^ sh q % 64 < 64 := Nat.mod_lt _ (by decide)
      have h2 : 2 ^ (6 * (7 - (It q - 64))) ≤ 2 ^ 42 := Nat.pow_le_pow_right (by decide) (by omega)
      have h3 : code / 2 ^ sh q % 64 * 2 ^ (6 * (7 - (It q - 64))) ≤ 63 * 2 ^ 42 := Nat.mul_le_mul (by omega) h2
      omega
    · exact ih
abbrev hStps (K : Nat → ClassId) (ad : Nat → Nat) (ws : va_W) (FL : Nat → List Nat) (It sh : Nat → Nat → Nat) (nk fx ob : Nat → Nat) (len : Nat) : Prop := ∀ i, i < len → hStp K ad ws (38 + 4 * i) (FL i) (It i) (sh i) (nk i) (fx i) (ob i)
/-- the join at work -/
def hJG (K : Nat → ClassId) (ad : Nat → Nat) (ws : va_W) (FL : Nat → List Nat) (It sh : Nat → Nat → Nat) (nk fx ob : Nat → Nat) (co len b ra sa L S tt cnt : Nat) : Prop := ws[33]? = some (hKc ad len tt co) ∧ (∃ fq : Nat → Option Nat, ws[34]? = some (ad 34, .inl (K 4, 6, .inr (.inr (.inr (.inr fq))))) ∧ ∀ i, i < 6 → fq i = some (ad (38 + 4 * i))) ∧ hStps K ad ws FL It sh nk fx ob len ∧ hSol K ad ws b ra sa L S cnt
theorem hset_last {ws : va_W} {x y : Nat × va_E} : (ws ++ [x]).set ws.length y = ws ++ [y] := by
  rw [List.set_append_right _ _ (Nat.le_refl _), Nat.sub_self]
  rfl
theorem hLw_nx {L : Nat} (h : hLv L) (hl : L < 20000) : hLw (L + 1) = hNx L := by
  rcases h with rfl | rfl | rfl | rfl | rfl | rfl | rfl | rfl | rfl | rfl
  all_goals first | (exact absurd hl (by decide)) | decide
