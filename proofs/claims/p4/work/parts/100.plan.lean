-- THE PLAN: the search that leaves what costs as much already, against all orders
def hMX : Nat := 1000000000000
def hsz (E : Nat → Nat → Nat) (x kn s : Nat) : Nat := min (s * E x kn) hMX
def hct (c s : Nat) : Nat := min (c + s) hMX
/-- the cost of going on by o -/
def hcst (E : Nat → Nat → Nat) (V : Nat → Nat) : List Nat → Nat → Nat → Nat → Nat
  | [], _, _, c => c
  | x :: o, kn, s, c => hcst E V o (kn ||| V x) (hsz E x kn s) (hct c (hsz E x kn s))
/-- all ways to go on from o by r patterns more, the least numbers first -/
def hcmp (np : Nat) : Nat → List Nat → List (List Nat)
  | 0, _ => [[]]
  | r + 1, o => (List.range np).flatMap (fun x => if x ∈ o then [] else (hcmp np r (o ++ [x])).map (x :: ·))
abbrev hTk (E : Nat → Nat → Nat) (V : Nat → Nat) (o : List Nat) (kn s c : Nat) (st : Nat × List Nat) (q : List Nat) : Nat × List Nat := if hcst E V q kn s c < st.1 then (hcst E V q kn s c, o ++ q) else st
/-- the search -/
def hSe (np : Nat) (E : Nat → Nat → Nat) (V : Nat → Nat) : Nat → List Nat → Nat → Nat → Nat → Nat × List Nat → Nat × List Nat
  | 0, o, _, _, c, _ => (c, o)
  | r + 1, o, kn, s, c, st => (List.range np).foldl (fun st x => if x ∈ o then st else if hct c (hsz E x kn s) < st.1 then hSe np E V r (o ++ [x]) (kn ||| V x) (hsz E x kn s) (hct c (hsz E x kn s)) st else st) st
theorem hcst_ge (E : Nat → Nat → Nat) (V : Nat → Nat) : ∀ (o : List Nat) (kn s c : Nat), c ≤ hMX → c ≤ hcst E V o kn s c ∧ hcst E V o kn s c ≤ hMX
  | [], _, _, c, h => ⟨Nat.le_refl c, h⟩
  | x :: o, kn, s, c, h => by
    have h1 : hct c (hsz E x kn s) ≤ hMX := Nat.min_le_right _ _
    have h2 : c ≤ hct c (hsz E x kn s) := Nat.le_min.mpr ⟨Nat.le_add_right _ _, h⟩
    have ih := hcst_ge E V o (kn ||| V x) (hsz E x kn s) (hct c (hsz E x kn s)) h1
    exact ⟨Nat.le_trans h2 ih.1, ih.2⟩
theorem hfold_keep {α β : Type} (f : α → β → α) (st : α) : ∀ (l : List β), (∀ q, q ∈ l → f st q = st) → l.foldl f st = st
  | [], _ => rfl
  | q :: l, h => by
    show l.foldl f (f st q) = st
    rw [h q List.mem_cons_self]
    exact hfold_keep f st l (fun q hq => h q (List.mem_cons_of_mem _ hq))
theorem hfold_flatMap {α β γ : Type} (f : α → β → α) (g : γ → List β) : ∀ (l : List γ) (st : α), (l.flatMap g).foldl f st = l.foldl (fun st x => (g x).foldl f st) st
  | [], _ => rfl
  | x :: l, st => by
    rw [List.flatMap_cons, List.foldl_append, hfold_flatMap f g l]
    rfl
theorem hfold_eq {α β : Type} {f g : α → β → α} {P : α → Prop} : ∀ (l : List β) (st : α), P st → (∀ st x, x ∈ l → P st → f st x = g st x ∧ P (g st x)) → l.foldl f st = l.foldl g st ∧ P (l.foldl g st)
  | [], st, h, _ => ⟨rfl, h⟩
  | x :: l, st, h, hs => by
    obtain ⟨h1, h2⟩ := hs st x List.mem_cons_self h
    show l.foldl f (f st x) = l.foldl g (g st x) ∧ P (l.foldl g (g st x))
    rw [h1]
    exact hfold_eq l (g st x) h2 (fun st x hx => hs st x (List.mem_cons_of_mem _ hx))
theorem hSe_fold (np : Nat) (E : Nat → Nat → Nat) (V : Nat → Nat) : ∀ (r : Nat) (o : List Nat) (kn s c : Nat) (st : Nat × List Nat), c ≤ hMX → c < st.1 → hSe np E V r o kn s c st = (hcmp np r o).foldl (hTk E V o kn s c) st
  | 0, o, kn, s, c, st, _, h => by
    show (c, o) = (if c < st.1 then (c, o ++ []) else st)
    rw [if_pos h, List.append_nil]
  | r + 1, o, kn, s, c, st, hc, h => by
    show (List.range np).foldl _ st = ((List.range np).flatMap _).foldl _ st
    rw [hfold_flatMap]
    refine (hfold_eq (P := fun _ => True) (List.range np) st trivial (fun st x _ _ => ⟨?_, trivial⟩)).1
    by_cases hx : x ∈ o
    · rw [if_pos hx, if_pos hx]
      rfl
    · rw [if_neg hx, if_neg hx, List.foldl_map]
      have hc' : hct c (hsz E x kn s) ≤ hMX := Nat.min_le_right _ _
      have e : ∀ (st : Nat × List Nat) (q : List Nat), hTk E V o kn s c st (x :: q) = hTk E V (o ++ [x]) (kn ||| V x) (hsz E x kn s) (hct c (hsz E x kn s)) st q := by
        intro st q
        show (if hcst E V q (kn ||| V x) (hsz E x kn s) (hct c (hsz E x kn s)) < st.1 then (hcst E V q (kn ||| V x) (hsz E x kn s) (hct c (hsz E x kn s)), o ++ (x :: q)) else st) = _
        rw [show o ++ x :: q = (o ++ [x]) ++ q by simp]
      simp only [e]
      by_cases hlt : hct c (hsz E x kn s) < st.1
      · rw [if_pos hlt]
        exact hSe_fold np E V r (o ++ [x]) (kn ||| V x) _ _ st hc' hlt
      · rw [if_neg hlt]
        refine (hfold_keep _ st _ (fun q _ => if_neg ?_)).symm
        have := (hcst_ge E V q (kn ||| V x) (hsz E x kn s) (hct c (hsz E x kn s)) hc').1
        omega
def hEs (I dd : Nat → Nat → Nat) (mm : Nat → Nat) : Nat → Nat → Nat := fun x kn => hes (I x) (dd x) (mm x) (nI kn)
def hVs (I : Nat → Nat → Nat) : Nat → Nat := fun x => hvm (I x) 3
/-- what the search stands on: the list, its patterns, the planner with its two orders -/
def hPG (K : Nat → ClassId) (ad : Nat → Nat) (ws : va_W) (np ms : Nat) (I dd : Nat → Nat → Nat) (mm : Nat → Nat) (rd : Nat) (o : List Nat) (st : Nat × List Nat) : Prop :=
  hPl K ad ws np ms ∧ hPs K ad ws I dd mm ∧ ws[28]? = some (ad 28, .inr (iN, [.ref (ad 29), .ref (ad 31), .long (lN st.1), .int (nI rd)])) ∧ hOrd K ad ws 29 o ∧ hOrd K ad ws 31 st.2
theorem hlcmp {a b : Nat} (ha : a < 2 ^ 63) (hb : b < 2 ^ 63) : 0 ≤ lg_cmp (lN a) (lN b) ↔ b ≤ a := by
  unfold lg_cmp
  by_cases h1 : b < a
  · rw [if_pos ((pk_lLT hb ha).mpr h1)]
    exact ⟨fun _ => Nat.le_of_lt h1, fun _ => by decide⟩
  · rw [if_neg (fun z => h1 ((pk_lLT hb ha).mp z))]
    by_cases h2 : a = b
    · subst h2
      rw [if_pos rfl]
      exact ⟨fun _ => Nat.le_refl _, fun _ => by decide⟩
    · rw [if_neg (fun z => h2 ((pk_lEQ ha hb).mp z))]
      exact ⟨fun z => absurd z (by decide), fun z => by omega⟩
