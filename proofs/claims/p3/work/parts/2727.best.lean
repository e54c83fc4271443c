-- the plan that is kept, or searched
def hSR (np : Nat) (I dd : Nat → Nat → Nat) (mm : Nat → Nat) (ob : List Nat) : Nat × List Nat := hSe np (hEs I dd mm) (hVs I) np [] 0 1 0 (1000000000001, ob)
def hOB (np : Nat) (I dd : Nat → Nat → Nat) (mm : Nat → Nat) (rd : Nat) (ob : List Nat) : List Nat := if rd = 0 then (hSR np I dd mm ob).2 else ob
def hLC (np : Nat) (I dd : Nat → Nat → Nat) (mm : Nat → Nat) (rd lc : Nat) (ob : List Nat) : Nat := if rd = 0 then (hSR np I dd mm ob).1 else lc
abbrev hD1 (g : Nat → Nat → Nat) (cnt : Nat) (I dd : Nat → Nat → Nat) (np ms : Nat) : Nat → Nat → Nat := fun i => if i < np ∧ ms = 0 then hDd g cnt (I i) else dd i
abbrev hM1 (g : Nat → Nat → Nat) (cnt : Nat) (I : Nat → Nat → Nat) (mm : Nat → Nat) (np ms : Nat) : Nat → Nat := fun i => if i < np ∧ ms = 0 then hMm g cnt (I i) else mm i
theorem hLp_2 {fl : List Nat} {ob key : Nat} {sub : Nat → Nat × Nat → Nat × Nat} (hs : ∀ i st, (sub i st).2 = st.2) : ∀ k i st, (hLp fl ob key sub k i st).2 = st.2
  | 0, _, _ => rfl
  | k + 1, i, st => by
    show (if i < fl.length ∧ fl.getD i 0 / 2 ^ ob = key / 2 ^ ob then (if 20000 < st.1 + 1 then (st.1 + 1, st.2) else hLp fl ob key sub k (i + 1) (sub i (st.1 + 1, st.2))) else st).2 = st.2
    split
    · split
      · rfl
      · rw [hLp_2 hs k, hs]
    · rfl
theorem hEx_2 (FL : Nat → List Nat) (It sh : Nat → Nat → Nat) (nk fx ob : Nat → Nat) (len : Nat) : ∀ r row st, (hEx FL It sh nk fx ob 0 len r row st).2 = st.2
  | 0, _, _ => rfl
  | r + 1, row, st => hLp_2 (fun i st => hEx_2 FL It sh nk fx ob len r _ st) _ _ st
