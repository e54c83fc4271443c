-- GROWTH: what is made
theorem hRA {U : State} {cA cB : ClassId} {ty : FieldType} (h1 : va_RA U cA ty) (h2 : va_RA U cB ty) : cA = cB := by
  cases ty with
  | object C =>
    obtain ⟨_, _, _, _, _, e1⟩ := h1
    obtain ⟨_, _, _, _, _, e2⟩ := h2
    exact Option.some.inj (e1.symm.trans e2)
  | _ =>
    have e1 : U.vm.findClass _ = some cA := h1
    have e2 : U.vm.findClass _ = some cB := h2
    exact Option.some.inj (e1.symm.trans e2)
theorem hlast_at {ws : va_W} {x : Nat × va_E} : (ws ++ [x])[ws.length]? = some x := by
  rw [List.getElem?_append_right (Nat.le_refl _), Nat.sub_self]
  rfl
theorem hlastP {D : va_G} {cl : List vw_C} {ws : va_W} {x : Nat × va_E} {H : Heap} (h : va_P D cl (ws ++ [x]) H) : va_P D cl [x] H := fun k q hq => by
  have hz : k < 1 := (List.getElem?_eq_some_iff.mp hq).1
  rw [show k = 0 by omega] at hq
  cases hq
  exact h ws.length x hlast_at
theorem hlastD {A : Nat → Prop} {ws : va_W} {x : Nat × va_E} (h : va_D A (ws ++ [x])) : va_D A [x] := by
  refine ⟨fun i j p q hi hj _ => ?_, fun k q hq => ?_⟩
  · have z1 : i < 1 := (List.getElem?_eq_some_iff.mp hi).1
    have z2 : j < 1 := (List.getElem?_eq_some_iff.mp hj).1
    omega
  · have hz : k < 1 := (List.getElem?_eq_some_iff.mp hq).1
    rw [show k = 0 by omega] at hq
    cases hq
    exact h.2 ws.length x hlast_at
theorem hinit_at {ws l : va_W} {k : Nat} {q : Nat × va_E} (h : ws[k]? = some q) : (ws ++ l)[k]? = some q := by
  rw [List.getElem?_append_left (List.getElem?_eq_some_iff.mp h).1]
  exact h
section HN
variable {p : Program} {l : Launch} {e : Env} {R : Room} {s : State} {m : MethodId} {args : Array Value} {below : List Frame} {meth : Method} {c : Code} {H : Heap} {locs : List Loc} {cells slots : Nat} {Q : State → Prop}
variable {pc : Nat} {ls : Array Slot} {rest st0 : List Value} {a : Array Value} {A : Nat → Prop} {mc ms : Nat} {D : va_G} {tys : List (ClassId × FieldType)} {tv : Nat} {ws : va_W}
/-- the call of the constructor of the object that was made last -/
theorem hc_new {x : Nat × va_E} {post : va_W → Prop} (E : hE D tys tv A s) (hP : va_P D vwCl (ws ++ [x]) H) (hD : va_D A (ws ++ [x])) (hS : va_S A s.heap H locs) (hr : va_Run p l e R s m args below meth c H locs cells slots mc ms (F0 m pc ls st0) rest (va_Qv post (hB D [x] H.size) (va_A [x] H.size) a) (va_A [x] H.size))
    (kk : ∀ (ws1 : va_W) (H1 : Heap) (locs1 : List Loc), post ws1 → va_P D vwCl (ws ++ ws1) H1 → va_D A (ws ++ ws1) → va_S A s.heap H1 locs1 → W p l e R s m args below meth c H1 locs1 (cells + mc) (slots + ms) Q (F0 m (pc + 3) ls rest)) : W p l e R s m args below meth c H locs cells slots Q (F0 m pc ls st0) := by
  have hf := hfree (hlastD hD) hS E.2.2
  have apart : ∀ (k : Nat) (q : Nat × va_E), ws[k]? = some q → q.1 < H.size ∧ ¬ va_A [x] H.size q.1 := by
    intro k q hq
    have hl := (hP k q (hinit_at hq)).lt
    refine ⟨hl, fun h => ?_⟩
    rcases h with ⟨k2, e2, h⟩ | h
    · have hz : k2 < 1 := (List.getElem?_eq_some_iff.mp h).1
      rw [show k2 = 0 by omega] at h
      have h0 : x = (q.1, e2) := Option.some.inj h
      have hij := hD.1 k ws.length q x (hinit_at hq) hlast_at (by rw [h0])
      have := (List.getElem?_eq_some_iff.mp hq).1
      omega
    · omega
  refine va_callv hr hS (fun q _ h => hf q h) hf (fun u t H1 locs1 ht _ hp hB1 _ hk1 hS1 => kk u H1 locs1 hp (va_P.app (fun k q hq => ?_) (by rw [← ht]; exact hB1.1)) (va_D.app ⟨fun i j y z hi hj hyz => hD.1 i j y z (hinit_at hi) (hinit_at hj) hyz, fun k q hq => hD.2 k q (hinit_at hq)⟩ (hB1.2.weaken (fun _ _ _ h => hf _ h)) (fun i j y z hi hj hyz => ?_)) hS1)
  · obtain ⟨g1, g2⟩ := apart k q hq
    exact (hP k q (hinit_at hq)).kept (hk1 q.1 g1 g2)
  · exact (apart i y hi).2 (by rw [hyz]; exact hB1.2.2 j z hj)
end HN
-- THE STATE AT ITS START
abbrev hJc (ad : Nat → Nat) (fd : Int32) : Nat × va_E := (ad 0, .inr (iJ, [.ref (ad 1), .ref (ad 6), .ref (ad 26), .ref (ad 28), .ref (ad 33), .int fd]))
abbrev hNc (ad : Nat → Nat) (lc rd : Nat) : Nat × va_E := (ad 28, .inr (iN, [.ref (ad 29), .ref (ad 31), .long (lN lc), .int (nI rd)]))
abbrev hKc (ad : Nat → Nat) (ln tt co : Nat) : Nat × va_E := (ad 33, .inr (iN2, [.ref (ad 34), .ref (ad 35), .int (nI ln), .int (nI tt), .int (nI co)]))
def hSp (K : Nat → ClassId) (ad : Nat → Nat) (ws : va_W) (n : Nat) : Prop := ∃ (f g h : Nat → Int32), ws[n]? = some (ad n, .inr (iS, [.ref (ad (n + 1)), .ref (ad (n + 2)), .ref (ad (n + 3)), .int 0, .int 0, .int 0, .int 0])) ∧ ws[n + 1]? = some (ad (n + 1), .inl (K 0, 640, .inl f)) ∧ ws[n + 2]? = some (ad (n + 2), .inl (K 0, 3, .inl g)) ∧ ws[n + 3]? = some (ad (n + 3), .inl (K 0, 3, .inl h))
def hSt0 (K : Nat → ClassId) (ad : Nat → Nat) (ws : va_W) : Prop :=
  ws[0]? = some (hJc ad (-4)) ∧ hTr K ad ws (fun _ _ => 0) 0 ∧ hPl K ad ws 0 0 ∧ hPs K ad ws (fun _ _ => 0) (fun _ _ => 0) (fun _ => 0) ∧ hOrd K ad ws 26 [] ∧ ws[28]? = some (hNc ad 0 0) ∧ hOrd K ad ws 29 [] ∧ hOrd K ad ws 31 [] ∧
  ws[33]? = some (hKc ad 0 0 0) ∧ (∃ fq : Nat → Option Nat, ws[34]? = some (ad 34, .inl (K 4, 6, .inr (.inr (.inr (.inr fq))))) ∧ ∀ i, i < 6 → fq i = some (ad (38 + 4 * i))) ∧
  ws[35]? = some (ad 35, .inr (iU, [.ref (ad 36), .ref (ad 37), .int 0])) ∧ ws[36]? = some (ad 36, .inl (K 1, 64, .inr (.inl (fun _ => 0)))) ∧ ws[37]? = some (ad 37, .inl (K 1, 64, .inr (.inl (fun _ => 0)))) ∧ ∀ i, i < 6 → hSp K ad ws (38 + 4 * i)
