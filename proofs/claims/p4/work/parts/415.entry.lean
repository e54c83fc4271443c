set_option maxHeartbeats 4000000 in
set_option maxRecDepth 100000 in
/-- the tables at the law's entry -/
theorem hlaw_E {s : State} {b : Nat} (hts : ∀ w ∈ lw_tbl, w.before #[Value.ref b] s = true) (hgv : (Jvm.Cond.and given_1 narrow_1).before #[Value.ref b] s = true) : ∃ (D : va_G) (K : Nat → ClassId) (tv : Nat), hE D (hTy K) tv (fun q : Nat => s.heap.size ≤ q) s := by
  have hA : ∀ a : Nat, a < s.heap.size → ¬ (fun q : Nat => s.heap.size ≤ q) a := fun a h => Nat.not_le.mpr h
  have hc : ∀ k : Nat, ∃ x : ClassId × (Nat → Nat), ∀ q : vw_C, vwCl[k]? = some q → u_Kn s q.1 q.2.1 q.2.2 x.1 x.2 := by
    intro k
    match k with
    | 0 => obtain ⟨a, i, h⟩ := u_known (C := RX0) (T := TX0) (N := 6) (n := 6) hts inX0 (hts _ (hW0_in k_36)); exact ⟨(a, i), fun q hq => by cases hq; exact h⟩
    | 1 => obtain ⟨a, i, h⟩ := u_known (C := RX1) (T := TX1) (N := 2) (n := 2) hts inX1 (hts _ (hW0_in k_44)); exact ⟨(a, i), fun q hq => by cases hq; exact h⟩
    | 2 => obtain ⟨a, i, h⟩ := u_known (C := RX2) (T := TX2) (N := 3) (n := 3) hts inX2 (hts _ (hW0_in k_70)); exact ⟨(a, i), fun q hq => by cases hq; exact h⟩
    | 3 => obtain ⟨a, i, h⟩ := u_known (C := RX3) (T := TX3) (N := 3) (n := 3) hts inX3 (hts _ (hW0_in k_63)); exact ⟨(a, i), fun q hq => by cases hq; exact h⟩
    | 4 => obtain ⟨a, i, h⟩ := u_known (C := RX4) (T := TX4) (N := 3) (n := 3) hts inX4 (hts _ (hW0_in k_100)); exact ⟨(a, i), fun q hq => by cases hq; exact h⟩
    | 5 => obtain ⟨a, i, h⟩ := u_known (C := RX5) (T := TX5) (N := 4) (n := 4) hts inX5 (hts _ (hW0_in k_118)); exact ⟨(a, i), fun q hq => by cases hq; exact h⟩
    | 6 => obtain ⟨a, i, h⟩ := u_known (C := RX6) (T := TX6) (N := 7) (n := 7) hts inX6 (hts _ (hW0_in k_167)); exact ⟨(a, i), fun q hq => by cases hq; exact h⟩
    | 7 => obtain ⟨a, i, h⟩ := u_known (C := RX7) (T := TX7) (N := 5) (n := 5) hts inX7 (hts _ (hW0_in k_142)); exact ⟨(a, i), fun q hq => by cases hq; exact h⟩
    | 8 => obtain ⟨a, i, h⟩ := u_known (C := RX8) (T := TX8) (N := 3) (n := 3) hts inX8 (hts _ (hW0_in k_150)); exact ⟨(a, i), fun q hq => by cases hq; exact h⟩
    | 9 => obtain ⟨a, i, h⟩ := u_known (C := RX9) (T := TX9) (N := 18) (n := 18) hts inX9 (hts _ (hW0_in k_563)); exact ⟨(a, i), fun q hq => by cases hq; exact h⟩
    | k + 10 => exact ⟨(0, fun _ => 0), fun q hq => by simp [vwCl] at hq⟩
  obtain ⟨f, hf⟩ := Classical.axiomOfChoice hc
  obtain ⟨cI, kI, pI, i1, i2, i3⟩ := Cond.arrayClass_spec (type := .int) (hts _ (hW0_in k_61))
  obtain ⟨cL, kL, pL, l1, l2, l3⟩ := Cond.arrayClass_spec (type := .long) (hts _ (hW0_in k_166))
  have hAOA := hts (.arrayOver (.array .int)) (by decide +kernel)
  have hAOP := hts (.arrayOver (.object "JoinPlanner$Pattern")) (by decide +kernel)
  have hAOS := hts (.arrayOver (.object "JoinPlanner$Step")) (by decide +kernel)
  obtain ⟨pA, cA, kA, a1, -, a2, a3, a4⟩ := arrayOverA_spec hAOA
  obtain ⟨pP, cP, kP, p1, -, p2, p3, p4⟩ := Cond.arrayOver_spec hAOP
  obtain ⟨pS, cS, kS, s1, -, s2, s3, s4⟩ := Cond.arrayOver_spec hAOS
  have hs := flat_of_before _ hgv
  obtain ⟨tv, t1, t2⟩ := va_Tof (args := #[Value.ref b]) (s := s) (tm := .static "JoinPlanner" "VIEW_OF" "[I") (ty := .int) (N := 8) (f := hVf) (A := fun q : Nat => s.heap.size ≤ q) (by decide) (hs _ (by decide +kernel)) (va_eqt (hs (.eq (.length (.static "JoinPlanner" "VIEW_OF" "[I")) (.int 8)) (by decide +kernel))) (fun j hj => by
    rcases (show j = 0 ∨ j = 1 ∨ j = 2 ∨ j = 3 ∨ j = 4 ∨ j = 5 ∨ j = 6 ∨ j = 7 by omega) with rfl | rfl | rfl | rfl | rfl | rfl | rfl | rfl
    · exact va_eqt (hs (.eq (.elem (.static "JoinPlanner" "VIEW_OF" "[I") (.int 0)) (.int 0)) (by decide +kernel))
    · exact va_eqt (hs (.eq (.elem (.static "JoinPlanner" "VIEW_OF" "[I") (.int 1)) (.int 0)) (by decide +kernel))
    · exact va_eqt (hs (.eq (.elem (.static "JoinPlanner" "VIEW_OF" "[I") (.int 2)) (.int 1)) (by decide +kernel))
    · exact va_eqt (hs (.eq (.elem (.static "JoinPlanner" "VIEW_OF" "[I") (.int 3)) (.int 0)) (by decide +kernel))
    · exact va_eqt (hs (.eq (.elem (.static "JoinPlanner" "VIEW_OF" "[I") (.int 4)) (.int 2)) (by decide +kernel))
    · exact va_eqt (hs (.eq (.elem (.static "JoinPlanner" "VIEW_OF" "[I") (.int 5)) (.int 2)) (by decide +kernel))
    · exact va_eqt (hs (.eq (.elem (.static "JoinPlanner" "VIEW_OF" "[I") (.int 6)) (.int 1)) (by decide +kernel))
    · exact va_eqt (hs (.eq (.elem (.static "JoinPlanner" "VIEW_OF" "[I") (.int 7)) (.int 0)) (by decide +kernel))) hA
  have hz : va_Z "JoinPlanner" "VIEW_OF" "[I" (.ref tv) (fun q : Nat => s.heap.size ≤ q) s s.heap := va_Zof (args := #[Value.ref b]) (hts (.laysStatic "JoinPlanner" "VIEW_OF" "[I") (by decide +kernel)) (hts (.initialized "JoinPlanner") (by decide +kernel)) t1 hA
  refine ⟨(fun k => (f k).1, fun k => (f k).2), fun k => match k with | 0 => cI | 1 => cL | 2 => cA | 3 => cP | _ => cS, tv, ⟨⟨fun k q hq => hf k q hq, fun k q hq => ?_⟩, fun w hw => ?_, fun C hC => ?_, fun t0 t1 c0 c1 h0 h1 => ?_⟩, ⟨hz, t2⟩, fun q h => h⟩
  · have hk : k < 5 := (List.getElem?_eq_some_iff.mp hq).1
    rcases (show k = 0 ∨ k = 1 ∨ k = 2 ∨ k = 3 ∨ k = 4 by omega) with rfl | rfl | rfl | rfl | rfl <;> cases hq
    · exact ⟨fun n z => ⟨fun _ h => (by cases h), kI, i2, pI, i3⟩, i1⟩
    · exact ⟨fun n z => ⟨fun _ h => (by cases h), kL, l2, pL, l3⟩, l1⟩
    · exact ⟨fun n z => ⟨fun _ h => (by cases h), kA, a2, pA, a3⟩, a4⟩
    · exact ⟨fun n z => ⟨fun _ h => (by cases h), kP, p2, pP, p3⟩, kP, pP, p2, p3, p1, p4⟩
    · exact ⟨fun n z => ⟨fun _ h => (by cases h), kS, s2, pS, s3⟩, kS, pS, s2, s3, s1, s4⟩
  · obtain ⟨h1, h2⟩ := List.mem_filter.mp hw
    exact va_Nw.of (hIsN_tab h2) (hts w h1)
  · have hC2 : C = "JoinPlanner$Pattern" ∨ C = "JoinPlanner$Step" := (show ∀ C ∈ hAO, C = "JoinPlanner$Pattern" ∨ C = "JoinPlanner$Step" by decide +kernel) C hC
    rcases hC2 with rfl | rfl
    · exact va_AO.of hAOP
    · exact va_AO.of hAOS
  · have e0 : t0 = 2 := by
      have hk : t0 < 5 := (List.getElem?_eq_some_iff.mp h0).1
      rcases (show t0 = 0 ∨ t0 = 1 ∨ t0 = 2 ∨ t0 = 3 ∨ t0 = 4 by omega) with rfl | rfl | rfl | rfl | rfl <;> first | rfl | cases h0
    have e1 : t1 = 0 := by
      have hk : t1 < 5 := (List.getElem?_eq_some_iff.mp h1).1
      rcases (show t1 = 0 ∨ t1 = 1 ∨ t1 = 2 ∨ t1 = 3 ∨ t1 = 4 by omega) with rfl | rfl | rfl | rfl | rfl <;> first | rfl | cases h1
    subst e0
    subst e1
    cases h0
    cases h1
    have e : pA = cI := Option.some.inj (a1.symm.trans i1)
    rw [e] at a3
    exact ⟨kA, a2, a3⟩
