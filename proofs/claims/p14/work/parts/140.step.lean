-- STEPS: a pattern of an order that is joined: names n (the step), n + 1 (the codes that fit), n + 2 (items), n + 3 (shifts)
/-- of the first codes of a view those of triples that the pattern is -/
def hFl (v : Nat) (I g : Nat → Nat) : Nat → List Nat
  | 0 => []
  | k + 1 => if hFit I (hpn v 0 (g k)) (hpn v 1 (g k)) (hpn v 2 (g k)) then hFl v I g k ++ [g k] else hFl v I g k
theorem hgetD_mem {fl : List Nat} {i : Nat} (h : i < fl.length) : fl.getD i 0 ∈ fl := by
  rw [List.getD_eq_getElem?_getD, List.getElem?_eq_getElem h]
  exact List.getElem_mem h
def hUp (fl : List Nat) : Prop := ∀ i j, i < j → j < fl.length → fl.getD i 0 < fl.getD j 0
theorem hUp.add {fl : List Nat} {x : Nat} (h : hUp fl) (hx : ∀ y, y ∈ fl → y < x) : hUp (fl ++ [x]) := by
  intro i j hij hj
  rw [List.length_append] at hj
  have hj : j < fl.length + 1 := hj
  rw [hgetD (show i < fl.length by omega)]
  by_cases q : j = fl.length
  · subst q
    rw [hgetDr]
    show fl.getD i 0 < x
    refine hx _ ?_
    exact hgetD_mem hij
  · rw [hgetD (show j < fl.length by omega)]
    exact h i j hij (by omega)
theorem hFl_mem {v : Nat} {I g : Nat → Nat} : ∀ k x, x ∈ hFl v I g k → ∃ i, i < k ∧ x = g i
  | 0, x, h => absurd h List.not_mem_nil
  | k + 1, x, h => by
    have h : x ∈ (if hFit I (hpn v 0 (g k)) (hpn v 1 (g k)) (hpn v 2 (g k)) then hFl v I g k ++ [g k] else hFl v I g k) := h
    split at h
    · rcases List.mem_append.mp h with q | q
      · obtain ⟨i, h1, h2⟩ := hFl_mem k x q
        exact ⟨i, by omega, h2⟩
      · exact ⟨k, Nat.lt_succ_self _, List.mem_singleton.mp q⟩
    · obtain ⟨i, h1, h2⟩ := hFl_mem k x h
      exact ⟨i, by omega, h2⟩
theorem hFl_up {v : Nat} {I g : Nat → Nat} : ∀ k, (∀ i j, i < j → j < k → g i < g j) → hUp (hFl v I g k)
  | 0, _ => fun i j _ hj => absurd hj (Nat.not_lt_zero _)
  | k + 1, h => by
    have ih := hFl_up (v := v) (I := I) k (fun i j hij hj => h i j hij (by omega))
    show hUp (if hFit I (hpn v 0 (g k)) (hpn v 1 (g k)) (hpn v 2 (g k)) then hFl v I g k ++ [g k] else hFl v I g k)
    split
    · refine ih.add (fun y hy => ?_)
      obtain ⟨i, h1, h2⟩ := hFl_mem k y hy
      rw [h2]
      exact h i k h1 (Nat.lt_succ_self _)
    · exact ih
theorem hFl_len {v : Nat} {I g : Nat → Nat} : ∀ k, (hFl v I g k).length ≤ k
  | 0 => Nat.le_refl _
  | k + 1 => by
    have ih := hFl_len (v := v) (I := I) (g := g) k
    show (if hFit I (hpn v 0 (g k)) (hpn v 1 (g k)) (hpn v 2 (g k)) then hFl v I g k ++ [g k] else hFl v I g k).length ≤ k + 1
    split
    · rw [List.length_append]
      show _ + 1 ≤ _
      omega
    · omega
abbrev hSc (ad : Nat → Nat) (n : Nat) (fc nk fx ob : Int32) : Nat × va_E := (ad n, .inr (iS, [.ref (ad (n + 1)), .ref (ad (n + 2)), .ref (ad (n + 3)), .int fc, .int nk, .int fx, .int ob]))
def hStp (K : Nat → ClassId) (ad : Nat → Nat) (ws : va_W) (n : Nat) (fl : List Nat) (It sh : Nat → Nat) (nk fx ob : Nat) : Prop := ∃ (f fi fs : Nat → Int32), ws[n]? = some (hSc ad n (nI fl.length) (nI nk) (nI fx) (nI ob)) ∧ ws[n + 1]? = some (ad (n + 1), .inl (K 0, 640, .inl f)) ∧ ws[n + 2]? = some (ad (n + 2), .inl (K 0, 3, .inl fi)) ∧ ws[n + 3]? = some (ad (n + 3), .inl (K 0, 3, .inl fs)) ∧ (∀ i, i < fl.length → f i = nI (fl.getD i 0)) ∧ (∀ q, q < 3 → fi q = hit (It q)) ∧ ∀ q, q < 3 → fs q = nI (sh q)
theorem hStp.ag {K : Nat → ClassId} {ad : Nat → Nat} {ws ws' : va_W} {n lo hi : Nat} {fl : List Nat} {It sh : Nat → Nat} {nk fx ob : Nat} (h : hStp K ad ws n fl It sh nk fx ob) (hg : hAg lo hi ws ws') (hn : n + 3 < lo ∨ hi ≤ n) : hStp K ad ws' n fl It sh nk fx ob := by
  obtain ⟨f, fi, fs, h1, h2, h3, h4, h5⟩ := h
  exact ⟨f, fi, fs, by rw [hg.2 n (by omega)]; exact h1, by rw [hg.2 (n + 1) (by omega)]; exact h2, by rw [hg.2 (n + 2) (by omega)]; exact h3, by rw [hg.2 (n + 3) (by omega)]; exact h4, h5⟩
/-- what is bounded of a step -/
def hStk (fl : List Nat) (It sh : Nat → Nat) (nk fx ob : Nat) : Prop := fl.length ≤ 640 ∧ (∀ x, x ∈ fl → x < 262144) ∧ hUp fl ∧ (∀ q, q < 3 → It q < 72) ∧ (∀ q, q < 3 → sh q < 13) ∧ nk < 262144 ∧ fx < 8 ∧ ob ≤ 18
theorem hUp.sor {fl : List Nat} (h : hUp fl) : hSor (fun i => fl.getD i 0) fl.length (fun x => ∃ i, i < fl.length ∧ fl.getD i 0 = x) := ⟨h, fun _ => Iff.rfl⟩
theorem hgetD_last {fl : List Nat} {x : Nat} : (fl ++ [x]).getD fl.length 0 = x := by
  rw [hgetDr]
  rfl
/-- the key by which a row goes on -/
def hKf (It sh : Nat → Nat) (nk fx row : Nat) : Nat → Nat
  | 0 => nk
  | q + 1 => if 64 ≤ It q ∧ fx.testBit q = true then hKf It sh nk fx row q ||| (row / 2 ^ (6 * (7 - (It q - 64))) % 64) * 2 ^ sh q else hKf It sh nk fx row q
/-- the row with the numbers of a code beside it -/
def hXt (It sh : Nat → Nat) (code row : Nat) : Nat → Nat
  | 0 => row
  | q + 1 => if 64 ≤ It q then hXt It sh code row q ||| (code / 2 ^ sh q % 64) * 2 ^ (6 * (7 - (It q - 64))) else hXt It sh code row q
theorem hmod_mul {x k : Nat} (h : k < 13) : x % 64 * 2 ^ k < 2 ^ 32 := by
  have h1 : x % 64 < 64 := Nat.mod_lt _ (by decide)
  have h2 : 2 ^ k ≤ 2 ^ 12 := Nat.pow_le_pow_right (by decide) (by omega)
  have h3 : x % 64 * 2 ^ k ≤ 64 * 2 ^ 12 := Nat.mul_le_mul (by omega) h2
  omega
theorem hlor (a b : Nat) : lN a ||| lN b = lN (a ||| b) := by
  apply Int64.toBitVec_inj.1
  show BitVec.ofNat 64 a ||| BitVec.ofNat 64 b = BitVec.ofNat 64 (a ||| b)
  apply BitVec.eq_of_getLsbD_eq
  intro i hi
  simp [hi]
theorem hlshl {a k : Nat} (hk : k < 64) : lN a <<< ((nI k).toInt64 &&& 63) = lN (a * 2 ^ k) := wb_shl a hk
