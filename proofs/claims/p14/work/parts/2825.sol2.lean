theorem hQ_step {a b : Nat} (ha : hLv a) (hb : hLv b) (h : a < b) : hQc a + 1 ≤ hQc b ∧ hQs a + b ≤ hQs b := by
  rcases ha with rfl | rfl | rfl | rfl | rfl | rfl | rfl | rfl | rfl | rfl <;> rcases hb with rfl | rfl | rfl | rfl | rfl | rfl | rfl | rfl | rfl | rfl <;> first | (exact absurd h (by decide)) | decide
theorem hval {x fd : Int32} {L : Nat} (h1 : ¬ x < 0) (h2 : ¬ fd ≤ x) (hfd : fd = (-4) ∨ fd = (-2) ∨ ∃ n, fd = nI n ∧ n ≤ L) (hL : L ≤ 20000) : ∃ i, i < L ∧ x = nI i := by
  rcases hfd with rfl | rfl | ⟨n, rfl, hn⟩
  · exact (hk4 h1 h2).elim
  · rw [Int32.lt_iff_toInt_lt, Int32.toInt_zero] at h1
    rw [Int32.le_iff_toInt_le, show (-2 : Int32).toInt = -2 from by decide +kernel] at h2
    omega
  · rw [Int32.lt_iff_toInt_lt, Int32.toInt_zero] at h1
    rw [Int32.le_iff_toInt_le, nI_toInt (by omega)] at h2
    refine ⟨x.toInt.toNat, by omega, Int32.toInt_inj.mp ?_⟩
    rw [nI_toInt (by omega)]
    omega
/-- a fresh object is a state without triples and patterns -/
theorem hCS0 {K : Nat → ClassId} {ad : Nat → Nat} {ws : va_W} (h : hSt1 K ad ws) : hCS K ad ws (fun _ _ _ => False) 0 0 [] (fun _ _ => 0) 64 64 := by
  obtain ⟨h0, hT, hPl, hPs, hO26, h28, hO29, hO31, h33, h34, h35, h36, h37, -⟩ := h.1
  refine ⟨fun _ _ => 0, fun _ _ => 0, fun _ _ => 0, fun _ => 0, 0, 0, 0, [], (-4), 0, 0, 0, 0, ad 36, ad 37, 0, ⟨h0, hT, hPl, hPs, hO26, h28, hO29, hO31, h33, h34, fun i hi => ?_, h35, ⟨_, h36⟩, _, h37⟩, ⟨Or.inl rfl, ⟨by decide, fun v _ => ⟨fun i hi => absurd hi (Nat.not_lt_zero _), fun i j _ hj => absurd hj (Nat.not_lt_zero _), fun x => ⟨fun ⟨_, _, _, _, _, _, h, _⟩ => h.elim, fun ⟨i, hi, _⟩ => absurd hi (Nat.not_lt_zero _)⟩⟩⟩, by decide, Or.inl rfl, fun i _ => ⟨fun q _ => ⟨by show (0 : Nat) ≤ 127; decide, by show (0 : Nat) < 72; decide⟩, by show (0 : Nat) ≤ 640; decide⟩, List.nodup_nil, fun _ h => absurd h List.not_mem_nil, Or.inl rfl, by decide, Or.inl rfl, Or.inl rfl, Nat.le_refl _, Nat.zero_le _⟩, hCZ0⟩
  obtain ⟨f, g, k, s1, s2, s3, s4, s5, s6⟩ := h.2 i hi
  exact ⟨[], fun _ => 0, fun _ => 0, 0, 0, 0, f, g, k, s1, s2, s3, s4, fun i hi => absurd hi (Nat.not_lt_zero _), s5, s6⟩
