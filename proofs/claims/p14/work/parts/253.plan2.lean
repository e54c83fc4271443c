-- THE PLAN: bounds
theorem hes_le {I dd : Nat → Nat} {mm : Nat} {kn : Int32} (h : mm ≤ 640) : hes I dd mm kn ≤ 640 := by
  unfold hes
  split
  · exact Nat.zero_le _
  · rename_i q
    refine Nat.div_le_of_le_mul ?_
    omega
theorem hnd_add {o : List Nat} {j : Nat} (h : o.Nodup) (hj : j ∉ o) : (o ++ [j]).Nodup := by
  rw [List.nodup_append]
  refine ⟨h, by simp, ?_⟩
  intro a ha b hb e
  rw [List.mem_singleton.mp hb] at e
  exact hj (e ▸ ha)
theorem hon_add {o : List Nat} {j np : Nat} (h : ∀ x, x ∈ o → x < np) (hj : j < np) : ∀ x, x ∈ o ++ [j] → x < np := fun x hx => by
  rcases List.mem_append.mp hx with q | q
  · exact h x q
  · rw [List.mem_singleton.mp q]; exact hj
theorem hfold_inv {α β : Type} {f : α → β → α} {P : α → Prop} (hs : ∀ st x, P st → P (f st x)) : ∀ (l : List β) (st : α), P st → P (l.foldl f st)
  | [], _, h => h
  | x :: l, st, h => hfold_inv hs l (f st x) (hs st x h)
theorem hSe_le (np : Nat) (E : Nat → Nat → Nat) (V : Nat → Nat) : ∀ (r : Nat) (o : List Nat) (kn s c : Nat) (st : Nat × List Nat), c ≤ hMX → st.1 ≤ hMX + 1 → (hSe np E V r o kn s c st).1 ≤ hMX + 1
  | 0, _, _, _, c, _, hc, _ => Nat.le_succ_of_le hc
  | r + 1, o, kn, s, c, st, hc, h => by
    refine hfold_inv (P := fun st : Nat × List Nat => st.1 ≤ hMX + 1) (fun st x hst => ?_) (List.range np) st h
    show (if x ∈ o then st else _).1 ≤ _
    split
    · exact hst
    · split
      · exact hSe_le np E V r _ _ _ _ st (Nat.min_le_right _ _) hst
      · exact hst
