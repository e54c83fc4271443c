set_option maxHeartbeats 4000000 in
set_option maxRecDepth 100000 in
/-- prepare without patterns -/
theorem c0_prepare (l : Launch) (D : va_G) (K : Nat → ClassId) (tv : Nat) (ws : va_W) (ad : Nat → Nat) (ms lc : Nat) (hl0 : hPl K ad ws 0 ms) (h28 : ws[28]? = some (hNc ad lc 0)) (hO29 : hOrd K ad ws 29 []) (hO31 : hOrd K ad ws 31 []) : hV l D (hTy K) tv yX5_prepare cX5_prepare 2 none ({ frames := 3, cells := 0, slots := 0, locals := 180 }) [.ref (ad 28), .ref (ad 6)] ws (fun ws1 => hAg 28 33 ws ws1 ∧ ws1[28]? = some (hNc ad 0 1) ∧ hOrd K ad ws1 31 []) := by
  intro sz
  refine Met.ofW (cc := cX5_prepare) (maxL := 2) (ret := none) (by decide) rfl ?_
  intro p e s m args below meth c s₁ B hml hv0
  obtain ⟨rfl, rfl, E, hP, hD⟩ := hentry hv0
  have hx := B.exec
  have hb := B.bytes
  have hr := B.returns
  have hts := atoms_spec (ws := hC yX5_prepare cX5_prepare 2 none) B.pre
  have hown : s.vm.findClass RX5 = some m.cls := findClass_of_methodNamed B.named
  have hlocks := B.notSynchronized
  generalize hAe : va_A ws s.heap.size = A at hD E ⊢
  have hl := lv_entry ([.ref (ad 28), .ref (ad 6)]) (n := 2) (Nat.le_of_ble_eq_true rfl)
  rw [lg_entry_eq]
  generalize (lg_sl ([.ref (ad 28), .ref (ad 6)]) ++ List.replicate (2 - (lg_sl ([.ref (ad 28), .ref (ad 6)])).length) Slot.unset).toArray = ls at hl ⊢
  have hl : lv_has ls 2 [(0, .ref (ad 28)), (1, .ref (ad 6))] := hl
  refine hat0 (fun H hHe => ?_)
  have hP : va_P D vwCl ws H := by rw [hHe]; exact hP
  have hS : va_S A s.heap H [] := by rw [hHe]; exact va_S.rf
  obtain ⟨f29, u29, ⟨h29, -⟩, -⟩ := id hO29
  refine lv_aload_n hx hb dX5_prepare_0 rfl (lv_at hl 0 rfl) ?_
  refine va_get (v := .int (nI 0)) (C := RX5) (T := TX5) (N := 4) hx hb hts (hin_X5 hmc) hown E.1.1 hP 28 h28 rfl 3 (by decide) (hts _ (hmc _ k_130)) (fun _ h9 => h9) rfl dX5_prepare_1 ?_
  refine lv_if_eq (tgt := 8) hx hb dX5_prepare_4 (by decide) (fun c1 => ?_) (fun c1 => ?_)
  · refine lv_aload_n hx hb dX5_prepare_8 rfl (lv_at hl 0 rfl) ?_
    refine va_get (v := .ref (ad 29)) (C := RX5) (T := TX5) (N := 4) hx hb hts (hin_X5 hmc) hown E.1.1 hP 28 h28 rfl 0 (by decide) (hts _ (hmc _ k_125)) (fun _ h9 => h9) rfl dX5_prepare_9 ?_
    refine hc_v E hD hS (va_runV (As := []) (rest := []) ⟨hx, hb, hml, hown, hts⟩ ((c_X4_makeEmpty l D K tv ws ad 29 [] hO29) H.size) (cwV 0 hts (hGV hmc k_390 k_301 k_302 k_24 k_303) rfl rfl rfl (by decide +kernel) ⟨Nat.le_of_ble_eq_true rfl, Nat.le_of_ble_eq_true rfl⟩) (hpreV E hP hD hS h29 rfl) rfl rfl hl.1 rfl (lv_room (Nat.le_of_ble_eq_true rfl)) dX5_prepare_12 ⟨(Nat.le_refl _), (Nat.le_refl _)⟩) (fun ws1 H locs hp hP hD hS => ?_)
    obtain ⟨hg, hO1⟩ := hp
    have h28 := (hg.2 28 (by omega)).trans h28
    refine lv_aload_n hx hb dX5_prepare_15 rfl (lv_at hl 0 rfl) ?_
    refine lv_ldc2 (v := 1000000000001) hx hb hown (hts _ (hmc _ k_391)) dX5_prepare_16 ?_
    refine htopl (v := lN 1000000000001) (rfl) ?_
    refine va_put (v := .long (lN 1000000000001)) (ty := .long) (C := RX5) (T := TX5) (N := 4) hx hb hts (hin_X5 hmc) tyX5 tyX5_ok nmX5 hown E.1.1 hP hD hS 28 h28 rfl 2 (by decide) (hts _ (hmc _ k_128)) (fun _ h9 => h9) rfl (by decide +kernel) rfl rfl (Nat.le_of_ble_eq_true rfl) dX5_prepare_19 (fun H locs hP hD hS => ?_)
    obtain ⟨ws2, ews2⟩ : ∃ z, z = List.set ws1 28 ((ad 28), .inr (iN, [.ref (ad 29), .ref (ad 31), .long (lN 1000000000001), .int (nI 0)])) := ⟨_, rfl⟩
    have hP : va_P D vwCl ws2 H := by rw [ews2]; exact hP
    have hD : va_D A ws2 := by rw [ews2]; exact hD
    have h28 : ws2[28]? = some ((ad 28), .inr (iN, [.ref (ad 29), .ref (ad 31), .long (lN 1000000000001), .int (nI 0)])) := by rw [ews2]; exact hset_eq h28
    have hg1 : hAg 28 29 ws1 ws2 := by rw [ews2]; exact hAg.rf.set (by decide) (by decide)
    refine lv_aload_n hx hb dX5_prepare_22 rfl (lv_at hl 0 rfl) ?_
    refine lv_aload_n hx hb dX5_prepare_23 rfl (lv_at hl 1 rfl) ?_
    refine lv_iconst (v := nI 0) hx hb dX5_prepare_24 (by decide +kernel) ?_
    refine lv_iconst (v := nI 0) hx hb dX5_prepare_25 (by decide +kernel) ?_
    refine lv_lconst (v := lN 1) hx hb dX5_prepare_26 (by decide +kernel) ?_
    refine lv_lconst (v := lN 0) hx hb dX5_prepare_27 (by decide +kernel) ?_
    refine hc_v E hD hS (va_runS (As := [.ref (ad 28), .ref (ad 6), .int (nI 0), .int (nI 0), .long (lN 1), .long (lN 0)]) (rest := []) ⟨hx, hb, hml, hown, hts⟩ ((c0_search l D K tv ws2 ad ms 1000000000001 0 ((hl0.ag hg (by omega)).ag hg1 (by omega)) h28 (hO1.ag hg1 (by omega)) ((hO31.ag hg (by omega)).ag hg1 (by omega))) H.size) (va_cwS 6 hts (hGS hmc k_392 k_393 k_25 k_394) rfl rfl rfl (by decide +kernel) ⟨Nat.le_of_ble_eq_true rfl, Nat.le_of_ble_eq_true rfl⟩) (hpre E hP hD hS) rfl rfl hl.1 rfl (lv_room (Nat.le_of_ble_eq_true rfl)) dX5_prepare_28 ⟨(Nat.le_refl _), (Nat.le_refl _)⟩) (fun ws3 H locs hp hP hD hS => ?_)
    obtain ⟨hg2, h28, hO2⟩ := hp
    refine lv_aload_n hx hb dX5_prepare_31 rfl (lv_at hl 0 rfl) ?_
    refine lv_iconst (v := nI 1) hx hb dX5_prepare_32 (by decide +kernel) ?_
    refine va_put (v := .int (nI 1)) (ty := .boolean) (C := RX5) (T := TX5) (N := 4) hx hb hts (hin_X5 hmc) tyX5 tyX5_ok nmX5 hown E.1.1 hP hD hS 28 h28 rfl 3 (by decide) (hts _ (hmc _ k_130)) (fun _ h9 => h9) rfl (by decide +kernel) rfl rfl (Nat.le_of_ble_eq_true rfl) dX5_prepare_33 (fun H locs hP hD hS => ?_)
    obtain ⟨ws4, ews4⟩ : ∃ z, z = List.set ws3 28 ((ad 28), .inr (iN, [.ref (ad 29), .ref (ad 31), .long (lN 0), .int (nI 1)])) := ⟨_, rfl⟩
    have hP : va_P D vwCl ws4 H := by rw [ews4]; exact hP
    have hD : va_D A ws4 := by rw [ews4]; exact hD
    have h28 : ws4[28]? = some ((ad 28), .inr (iN, [.ref (ad 29), .ref (ad 31), .long (lN 0), .int (nI 1)])) := by rw [ews4]; exact hset_eq h28
    have hg3 : hAg 28 29 ws3 ws4 := by rw [ews4]; exact hAg.rf.set (by decide) (by decide)
    subst hAe
    exact W.vret hx hb hr (fun t ht _ => ⟨⟨ws4, rfl, ⟨(((hg.wide (by decide) (by decide)).tr (hg1.wide (by decide) (by decide))).tr hg2).tr (hg3.wide (by decide) (by decide)), h28, hO2.ag hg3 (by omega)⟩, by rw [ht]; exact hP, hD⟩, hS.F ht⟩) hS.2.2 dX5_prepare_36
  · exact absurd rfl c1


set_option maxHeartbeats 4000000 in
set_option maxRecDepth 100000 in
/-- bestOrder of a fresh object -/
theorem c_X0_bestOrder (l : Launch) (D : va_G) (K : Nat → ClassId) (tv : Nat) (ws : va_W) (ad : Nat → Nat) (hs0 : hSt0 K ad ws) : hR l D (hTy K) tv yX0_bestOrder cX0_bestOrder 1 (some (.object "JoinPlanner$Order")) ({ frames := 4, cells := 0, slots := 0, locals := 240 }) [.ref (ad 0)] ws (fun a ws1 => a = ad 31 ∧ hAg 6 33 ws ws1 ∧ (∀ k, 7 < k → k < 28 → ws1[k]? = ws[k]?) ∧ ws1[28]? = some (hNc ad 0 1) ∧ hOrd K ad ws1 31 [] ∧ hPl K ad ws1 0 1) := by
  intro sz
  refine Met.ofW (cc := cX0_bestOrder) (maxL := 1) (ret := (some (.object "JoinPlanner$Order"))) (by decide) rfl ?_
  intro p e s m args below meth c s₁ B hml hv0
  obtain ⟨rfl, rfl, E, hP, hD⟩ := hentry hv0
  have hx := B.exec
  have hb := B.bytes
  have hr := B.returns
  have hts := atoms_spec (ws := hC yX0_bestOrder cX0_bestOrder 1 (some (.object "JoinPlanner$Order"))) B.pre
  have hown : s.vm.findClass RX0 = some m.cls := findClass_of_methodNamed B.named
  have hlocks := B.notSynchronized
  generalize hAe : va_A ws s.heap.size = A at hD E ⊢
  have hl := lv_entry ([.ref (ad 0)]) (n := 1) (Nat.le_of_ble_eq_true rfl)
  rw [lg_entry_eq]
  generalize (lg_sl ([.ref (ad 0)]) ++ List.replicate (1 - (lg_sl ([.ref (ad 0)])).length) Slot.unset).toArray = ls at hl ⊢
  have hl : lv_has ls 1 [(0, .ref (ad 0))] := hl
  refine hat0 (fun H hHe => ?_)
  have hP : va_P D vwCl ws H := by rw [hHe]; exact hP
  have hS : va_S A s.heap H [] := by rw [hHe]; exact va_S.rf
  obtain ⟨h0, hTr0, hPl0, hPs0, hO26, h28, hO29, hO31, h33, ⟨fq34, h34, hf34⟩, h35, h36, h37, hSp0⟩ := id hs0
  have h1 := hTr0.1
  have h6 := hPl0.1
  obtain ⟨f26, u26, ⟨h26, -⟩, -⟩ := id hO26
  refine lv_aload_n hx hb dX0_bestOrder_0 rfl (lv_at hl 0 rfl) ?_
  refine va_get (v := .ref (ad 6)) (C := RX0) (T := TX0) (N := 6) hx hb hts (hin_X0 hmc) hown E.1.1 hP 0 h0 rfl 1 (by decide) (hts _ (hmc _ k_213)) (fun _ h9 => h9) rfl dX0_bestOrder_1 ?_
  refine lv_aload_n hx hb dX0_bestOrder_4 rfl (lv_at hl 0 rfl) ?_
  refine va_get (v := .ref (ad 1)) (C := RX0) (T := TX0) (N := 6) hx hb hts (hin_X0 hmc) hown E.1.1 hP 0 h0 rfl 0 (by decide) (hts _ (hmc _ k_212)) (fun _ h9 => h9) rfl dX0_bestOrder_5 ?_
  refine hc_v E hD hS (va_runV (As := [.ref (ad 1)]) (rest := []) ⟨hx, hb, hml, hown, hts⟩ ((c0_measure l D K tv ws ad hPl0) H.size) (cwV 1 hts (hGV hmc k_320 k_321 k_322 k_22 k_323) rfl rfl rfl (by decide +kernel) ⟨Nat.le_of_ble_eq_true rfl, Nat.le_of_ble_eq_true rfl⟩) (hpreV E hP hD hS h6 rfl) rfl rfl hl.1 rfl (lv_room (Nat.le_of_ble_eq_true rfl)) dX0_bestOrder_8 ⟨(Nat.le_refl _), (Nat.le_refl _)⟩) (fun ws1 H locs hp hP hD hS => ?_)
  obtain ⟨hg, hPl1⟩ := hp
  have h6 := hPl1.1
  have h0 := (hg.2 0 (by omega)).trans h0
  have h28 := (hg.2 28 (by omega)).trans h28
  refine lv_aload_n hx hb dX0_bestOrder_11 rfl (lv_at hl 0 rfl) ?_
  refine va_get (v := .ref (ad 28)) (C := RX0) (T := TX0) (N := 6) hx hb hts (hin_X0 hmc) hown E.1.1 hP 0 h0 rfl 3 (by decide) (hts _ (hmc _ k_215)) (fun _ h9 => h9) rfl dX0_bestOrder_12 ?_
  refine lv_aload_n hx hb dX0_bestOrder_15 rfl (lv_at hl 0 rfl) ?_
  refine va_get (v := .ref (ad 6)) (C := RX0) (T := TX0) (N := 6) hx hb hts (hin_X0 hmc) hown E.1.1 hP 0 h0 rfl 1 (by decide) (hts _ (hmc _ k_213)) (fun _ h9 => h9) rfl dX0_bestOrder_16 ?_
  refine hc_v E hD hS (va_runV (As := [.ref (ad 6)]) (rest := []) ⟨hx, hb, hml, hown, hts⟩ ((c0_prepare l D K tv ws1 ad 1 0 hPl1 h28 (hO29.ag hg (by omega)) (hO31.ag hg (by omega))) H.size) (cwV 1 hts (hGV hmc k_386 k_387 k_388 k_25 k_389) rfl rfl rfl (by decide +kernel) ⟨Nat.le_of_ble_eq_true rfl, Nat.le_of_ble_eq_true rfl⟩) (hpreV E hP hD hS h28 rfl) rfl rfl hl.1 rfl (lv_room (Nat.le_of_ble_eq_true rfl)) dX0_bestOrder_19 ⟨(Nat.le_refl _), (Nat.le_refl _)⟩) (fun ws2 H locs hp hP hD hS => ?_)
  obtain ⟨hg2, h28, hO2⟩ := hp
  have h0 := (hg2.2 0 (by omega)).trans h0
  refine lv_aload_n hx hb dX0_bestOrder_22 rfl (lv_at hl 0 rfl) ?_
  refine va_get (v := .ref (ad 28)) (C := RX0) (T := TX0) (N := 6) hx hb hts (hin_X0 hmc) hown E.1.1 hP 0 h0 rfl 3 (by decide) (hts _ (hmc _ k_215)) (fun _ h9 => h9) rfl dX0_bestOrder_23 ?_
  refine va_getN (v := .ref (ad 31)) (C := RX5) (T := TX5) (N := 4) hx hb hts (hin_X5 hmc) hown E.1.1 hP 28 h28 rfl 1 (by decide) (va_Nw.use rfl (E.1.2.1 _ k_127)) (fun _ h9 => h9) rfl dX0_bestOrder_26 ?_
  subst hAe
  exact W.aret (v := .ref (ad 31)) hx hb hr (Or.inl ⟨_, rfl⟩) (Or.inr ⟨_, rfl⟩) (fun t ht _ => ⟨⟨ws2, (ad 31), rfl, trivial, ⟨rfl, (hg.wide (by decide) (by decide)).tr (hg2.wide (by decide) (by decide)), fun k h1 h2 => (hg2.2 k (by omega)).trans (hg.2 k (by omega)), h28, hO2, hPl1.ag hg2 (by omega)⟩, by rw [ht]; exact hP, hD⟩, hS.F ht⟩) hS.2.2 dX0_bestOrder_29


set_option maxHeartbeats 4000000 in
set_option maxRecDepth 100000 in
/-- cost of a fresh object -/
theorem c_X0_cost (l : Launch) (D : va_G) (K : Nat → ClassId) (tv : Nat) (ws : va_W) (ad : Nat → Nat) (hs0 : hSt0 K ad ws) : hL l D (hTy K) tv yX0_cost cX0_cost 1 (some .long) ({ frames := 5, cells := 0, slots := 0, locals := 300 }) [.ref (ad 0)] ws (fun r _ => r = lN 0) := by
  intro sz
  refine Met.ofW (cc := cX0_cost) (maxL := 1) (ret := (some .long)) (by decide) rfl ?_
  intro p e s m args below meth c s₁ B hml hv0
  obtain ⟨rfl, rfl, E, hP, hD⟩ := hentry hv0
  have hx := B.exec
  have hb := B.bytes
  have hr := B.returns
  have hts := atoms_spec (ws := hC yX0_cost cX0_cost 1 (some .long)) B.pre
  have hown : s.vm.findClass RX0 = some m.cls := findClass_of_methodNamed B.named
  have hlocks := B.notSynchronized
  generalize hAe : va_A ws s.heap.size = A at hD E ⊢
  have hl := lv_entry ([.ref (ad 0)]) (n := 1) (Nat.le_of_ble_eq_true rfl)
  rw [lg_entry_eq]
  generalize (lg_sl ([.ref (ad 0)]) ++ List.replicate (1 - (lg_sl ([.ref (ad 0)])).length) Slot.unset).toArray = ls at hl ⊢
  have hl : lv_has ls 1 [(0, .ref (ad 0))] := hl
  refine hat0 (fun H hHe => ?_)
  have hP : va_P D vwCl ws H := by rw [hHe]; exact hP
  have hS : va_S A s.heap H [] := by rw [hHe]; exact va_S.rf
  obtain ⟨h0, hTr0, hPl0, hPs0, hO26, h28, hO29, hO31, h33, ⟨fq34, h34, hf34⟩, h35, h36, h37, hSp0⟩ := id hs0
  have h1 := hTr0.1
  have h6 := hPl0.1
  obtain ⟨f26, u26, ⟨h26, -⟩, -⟩ := id hO26
  refine lv_aload_n hx hb dX0_cost_0 rfl (lv_at hl 0 rfl) ?_
  refine hc_r E hD hS (va_runV (As := []) (rest := []) ⟨hx, hb, hml, hown, hts⟩ ((c_X0_bestOrder l D K tv ws ad hs0) H.size) (cwV 0 hts (hGV hmc k_382 k_384 k_1 k_20 k_385) rfl rfl rfl (by decide +kernel) ⟨Nat.le_of_ble_eq_true rfl, Nat.le_of_ble_eq_true rfl⟩) (hpreV E hP hD hS h0 rfl) rfl rfl hl.1 rfl (lv_room (Nat.le_of_ble_eq_true rfl)) dX0_cost_1 ⟨(Nat.le_refl _), (Nat.le_refl _)⟩) (fun r2 ws1 H locs hp hP hD hS => ?_)
  obtain ⟨-, hg, -, h28, -⟩ := hp
  have h0 := (hg.2 0 (by omega)).trans h0
  refine lv_pop hx hb dX0_cost_4 rfl ?_
  refine lv_aload_n hx hb dX0_cost_5 rfl (lv_at hl 0 rfl) ?_
  refine va_get (v := .ref (ad 28)) (C := RX0) (T := TX0) (N := 6) hx hb hts (hin_X0 hmc) hown E.1.1 hP 0 h0 rfl 3 (by decide) (hts _ (hmc _ k_215)) (fun _ h9 => h9) rfl dX0_cost_6 ?_
  refine va_getN (v := .long (lN 0)) (C := RX5) (T := TX5) (N := 4) hx hb hts (hin_X5 hmc) hown E.1.1 hP 28 h28 rfl 2 (by decide) (va_Nw.use rfl (E.1.2.1 _ k_129)) (fun _ h9 => h9) rfl dX0_cost_9 ?_
  subst hAe
  exact W.lret (v := lN 0) hx hb hr (fun t ht _ => ⟨⟨lN 0, ws1, rfl, rfl, by rw [ht]; exact hP, hD⟩, hS.F ht⟩) hS.2.2 dX0_cost_12


set_option maxHeartbeats 4000000 in
set_option maxRecDepth 100000 in
/-- makeEmpty of no solutions -/
theorem c0_soEmpty (l : Launch) (D : va_G) (K : Nat → ClassId) (tv : Nat) (ws : va_W) (ad : Nat → Nat) (h35 : ws[35]? = some (ad 35, .inr (iU, [.ref (ad 36), .ref (ad 37), .int (nI 0)]))) : hV l D (hTy K) tv yX8_makeEmpty cX8_makeEmpty 1 none ({ frames := 0, cells := 0, slots := 0, locals := 0 }) [.ref (ad 35)] ws (fun ws1 => ws = ws1) := by
  intro sz
  refine Met.ofW (cc := cX8_makeEmpty) (maxL := 1) (ret := none) (by decide) rfl ?_
  intro p e s m args below meth c s₁ B hml hv0
  obtain ⟨rfl, rfl, E, hP, hD⟩ := hentry hv0
  have hx := B.exec
  have hb := B.bytes
  have hr := B.returns
  have hts := atoms_spec (ws := hC yX8_makeEmpty cX8_makeEmpty 1 none) B.pre
  have hown : s.vm.findClass RX8 = some m.cls := findClass_of_methodNamed B.named
  have hlocks := B.notSynchronized
  generalize hAe : va_A ws s.heap.size = A at hD E ⊢
  have hl := lv_entry ([.ref (ad 35)]) (n := 1) (Nat.le_of_ble_eq_true rfl)
  rw [lg_entry_eq]
  generalize (lg_sl ([.ref (ad 35)]) ++ List.replicate (1 - (lg_sl ([.ref (ad 35)])).length) Slot.unset).toArray = ls at hl ⊢
  have hl : lv_has ls 1 [(0, .ref (ad 35))] := hl
  refine hat0 (fun H hHe => ?_)
  have hP : va_P D vwCl ws H := by rw [hHe]; exact hP
  have hS : va_S A s.heap H [] := by rw [hHe]; exact va_S.rf
  refine lv_aload_n hx hb dX8_makeEmpty_0 rfl (lv_at hl 0 rfl) ?_
  refine lv_iconst (v := nI 0) hx hb dX8_makeEmpty_1 (by decide +kernel) ?_
  refine va_put (v := .int (nI 0)) (ty := .int) (C := RX8) (T := TX8) (N := 3) hx hb hts (hin_X8 hmc) tyX8 tyX8_ok nmX8 hown E.1.1 hP hD hS 35 h35 rfl 2 (by decide) (hts _ (hmc _ k_157)) (fun _ h9 => h9) rfl (by decide +kernel) rfl rfl (Nat.le_of_ble_eq_true rfl) dX8_makeEmpty_2 (fun H locs hP hD hS => ?_)
  have hP : va_P D vwCl ws H := by rw [← hset_same h35]; exact hP
  have hD : va_D A ws := by rw [← hset_same h35]; exact hD
  subst hAe
  exact W.vret hx hb hr (fun t ht _ => ⟨⟨ws, rfl, rfl, by rw [ht]; exact hP, hD⟩, hS.F ht⟩) hS.2.2 dX8_makeEmpty_5


set_option maxHeartbeats 4000000 in
set_option maxRecDepth 100000 in
/-- keep of the first row -/
theorem c0_keep (l : Launch) (D : va_G) (K : Nat → ClassId) (tv : Nat) (ws : va_W) (ad : Nat → Nat) (h35 : ws[35]? = some (ad 35, .inr (iU, [.ref (ad 36), .ref (ad 37), .int (nI 0)]))) (h36 : ws[36]? = some (ad 36, .inl (K 1, 64, .inr (.inl (fun _ => 0))))) : hV l D (hTy K) tv yX8_keep cX8_keep 3 none ({ frames := 0, cells := 0, slots := 0, locals := 0 }) [.ref (ad 35), .long (lN 0)] ws (fun ws1 => hAg 35 37 ws ws1 ∧ ws1[35]? = some (ad 35, .inr (iU, [.ref (ad 36), .ref (ad 37), .int (nI 1)])) ∧ ∃ f, ws1[36]? = some (ad 36, .inl (K 1, 64, .inr (.inl f)))) := by
  intro sz
  refine Met.ofW (cc := cX8_keep) (maxL := 3) (ret := none) (by decide) rfl ?_
  intro p e s m args below meth c s₁ B hml hv0
  obtain ⟨rfl, rfl, E, hP, hD⟩ := hentry hv0
  have hx := B.exec
  have hb := B.bytes
  have hr := B.returns
  have hts := atoms_spec (ws := hC yX8_keep cX8_keep 3 none) B.pre
  have hown : s.vm.findClass RX8 = some m.cls := findClass_of_methodNamed B.named
  have hlocks := B.notSynchronized
  generalize hAe : va_A ws s.heap.size = A at hD E ⊢
  have hl := lv_entry ([.ref (ad 35), .long (lN 0)]) (n := 3) (Nat.le_of_ble_eq_true rfl)
  rw [lg_entry_eq]
  generalize (lg_sl ([.ref (ad 35), .long (lN 0)]) ++ List.replicate (3 - (lg_sl ([.ref (ad 35), .long (lN 0)])).length) Slot.unset).toArray = ls at hl ⊢
  have hl : lv_has ls 3 [(0, .ref (ad 35)), (1, .long (lN 0))] := hl
  refine hat0 (fun H hHe => ?_)
  have hP : va_P D vwCl ws H := by rw [hHe]; exact hP
  have hS : va_S A s.heap H [] := by rw [hHe]; exact va_S.rf
  refine lv_aload_n hx hb dX8_keep_0 rfl (lv_at hl 0 rfl) ?_
  refine va_get (v := .int (nI 0)) (C := RX8) (T := TX8) (N := 3) hx hb hts (hin_X8 hmc) hown E.1.1 hP 35 h35 rfl 2 (by decide) (hts _ (hmc _ k_157)) (fun _ h9 => h9) rfl dX8_keep_1 ?_
  refine lv_sipush (v := nI 20000) hx hb dX8_keep_4 (by decide +kernel) ?_
  refine lv_icmp_lt (tgt := 11) hx hb dX8_keep_7 (by decide) (fun c1 => ?_) (fun c1 => ?_)
  · refine lv_aload_n hx hb dX8_keep_11 rfl (lv_at hl 0 rfl) ?_
    refine va_get (v := .int (nI 0)) (C := RX8) (T := TX8) (N := 3) hx hb hts (hin_X8 hmc) hown E.1.1 hP 35 h35 rfl 2 (by decide) (hts _ (hmc _ k_157)) (fun _ h9 => h9) rfl dX8_keep_12 ?_
    refine lv_aload_n hx hb dX8_keep_15 rfl (lv_at hl 0 rfl) ?_
    refine va_get (v := .ref (ad 36)) (C := RX8) (T := TX8) (N := 3) hx hb hts (hin_X8 hmc) hown E.1.1 hP 35 h35 rfl 0 (by decide) (hts _ (hmc _ k_155)) (fun _ h9 => h9) rfl dX8_keep_16 ?_
    refine va_alen (v := nI 64) hx hb E.1.1 hP 36 1 h36 rfl rfl dX8_keep_19 ?_
    refine lv_icmp_lt (tgt := 47) hx hb dX8_keep_20 (by decide) (fun c2 => ?_) (fun c2 => ?_)
    · refine lv_aload_n hx hb dX8_keep_47 rfl (lv_at hl 0 rfl) ?_
      refine va_get (v := .ref (ad 36)) (C := RX8) (T := TX8) (N := 3) hx hb hts (hin_X8 hmc) hown E.1.1 hP 35 h35 rfl 0 (by decide) (hts _ (hmc _ k_155)) (fun _ h9 => h9) rfl dX8_keep_48 ?_
      refine lv_aload_n hx hb dX8_keep_51 rfl (lv_at hl 0 rfl) ?_
      refine va_get (v := .int (nI 0)) (C := RX8) (T := TX8) (N := 3) hx hb hts (hin_X8 hmc) hown E.1.1 hP 35 h35 rfl 2 (by decide) (hts _ (hmc _ k_157)) (fun _ h9 => h9) rfl dX8_keep_52 ?_
      refine lv_lload_n hx hb dX8_keep_55 rfl (lv_at hl 1 rfl) ?_
      refine va_last hx hb E.1.1 hP hD hS 36 1 h36 rfl (vp_in_nI (by omega) (by omega)) dX8_keep_56 (fun H locs hP hD hS => ?_)
      rw [nI_clamp (show 0 < 2 ^ 31 by omega)] at hP hD
      obtain ⟨ws1, ews1⟩ : ∃ z, z = List.set ws 36 ((ad 36), .inl (K 1, 64, .inr (.inl (vp_updL (fun _ => 0) 0 (lN 0))))) := ⟨_, rfl⟩
      have hP : va_P D vwCl ws1 H := by rw [ews1]; exact hP
      have hD : va_D A ws1 := by rw [ews1]; exact hD
      have h35 := (show ws1[35]? = _ from (by rw [ews1]; exact hset_ne (by omega))).trans h35
      have h36 : ws1[36]? = some ((ad 36), .inl (K 1, 64, .inr (.inl (vp_updL (fun _ => 0) 0 (lN 0))))) := by rw [ews1]; exact hset_eq h36
      refine lv_aload_n hx hb dX8_keep_57 rfl (lv_at hl 0 rfl) ?_
      refine lv_dup hx hb dX8_keep_58 rfl ?_
      refine va_get (v := .int (nI 0)) (C := RX8) (T := TX8) (N := 3) hx hb hts (hin_X8 hmc) hown E.1.1 hP 35 h35 rfl 2 (by decide) (hts _ (hmc _ k_157)) (fun _ h9 => h9) rfl dX8_keep_59 ?_
      refine lv_iconst (v := nI 1) hx hb dX8_keep_62 (by decide +kernel) ?_
      refine lv_iadd hx hb dX8_keep_63 ?_
      refine htopi (v := nI 1) (by decide +kernel) ?_
      refine va_put (v := .int (nI 1)) (ty := .int) (C := RX8) (T := TX8) (N := 3) hx hb hts (hin_X8 hmc) tyX8 tyX8_ok nmX8 hown E.1.1 hP hD hS 35 h35 rfl 2 (by decide) (hts _ (hmc _ k_157)) (fun _ h9 => h9) rfl (by decide +kernel) rfl rfl (Nat.le_of_ble_eq_true rfl) dX8_keep_64 (fun H locs hP hD hS => ?_)
      obtain ⟨ws2, ews2⟩ : ∃ z, z = List.set ws1 35 ((ad 35), .inr (iU, [.ref (ad 36), .ref (ad 37), .int (nI 1)])) := ⟨_, rfl⟩
      have hP : va_P D vwCl ws2 H := by rw [ews2]; exact hP
      have hD : va_D A ws2 := by rw [ews2]; exact hD
      have h35 : ws2[35]? = some ((ad 35), .inr (iU, [.ref (ad 36), .ref (ad 37), .int (nI 1)])) := by rw [ews2]; exact hset_eq h35
      have h36 := (show ws2[36]? = _ from (by rw [ews2]; exact hset_ne (by omega))).trans h36
      subst hAe
      exact W.vret hx hb hr (fun t ht _ => ⟨⟨ws2, rfl, ⟨by rw [ews2, ews1]; exact (hAg.rf.set (by decide) (by decide)).set (by decide) (by decide), h35, _, h36⟩, by rw [ht]; exact hP, hD⟩, hS.F ht⟩) hS.2.2 dX8_keep_67
    · exact absurd (by decide +kernel) c2
  · exact absurd (by decide +kernel) c1


set_option maxHeartbeats 4000000 in
set_option maxRecDepth 100000 in
/-- sort of one solution -/
theorem c0_sort (l : Launch) (D : va_G) (K : Nat → ClassId) (tv : Nat) (ws : va_W) (ad : Nat → Nat) (f g : Nat → Int64) (h35 : ws[35]? = some (ad 35, .inr (iU, [.ref (ad 36), .ref (ad 37), .int (nI 1)]))) (h36 : ws[36]? = some (ad 36, .inl (K 1, 64, .inr (.inl f)))) (h37 : ws[37]? = some (ad 37, .inl (K 1, 64, .inr (.inl g)))) : hV l D (hTy K) tv yX8_sort cX8_sort 3 none ({ frames := 0, cells := 0, slots := 0, locals := 0 }) [.ref (ad 35)] ws (fun ws1 => ws = ws1) := by
  intro sz
  refine Met.ofW (cc := cX8_sort) (maxL := 3) (ret := none) (by decide) rfl ?_
  intro p e s m args below meth c s₁ B hml hv0
  obtain ⟨rfl, rfl, E, hP, hD⟩ := hentry hv0
  have hx := B.exec
  have hb := B.bytes
  have hr := B.returns
  have hts := atoms_spec (ws := hC yX8_sort cX8_sort 3 none) B.pre
  have hown : s.vm.findClass RX8 = some m.cls := findClass_of_methodNamed B.named
  have hlocks := B.notSynchronized
  generalize hAe : va_A ws s.heap.size = A at hD E ⊢
  have hl := lv_entry ([.ref (ad 35)]) (n := 3) (Nat.le_of_ble_eq_true rfl)
  rw [lg_entry_eq]
  generalize (lg_sl ([.ref (ad 35)]) ++ List.replicate (3 - (lg_sl ([.ref (ad 35)])).length) Slot.unset).toArray = ls at hl ⊢
  have hl : lv_has ls 3 [(0, .ref (ad 35))] := hl
  refine hat0 (fun H hHe => ?_)
  have hP : va_P D vwCl ws H := by rw [hHe]; exact hP
  have hS : va_S A s.heap H [] := by rw [hHe]; exact va_S.rf
  refine lv_aload_n hx hb dX8_sort_0 rfl (lv_at hl 0 rfl) ?_
  refine va_get (v := .ref (ad 37)) (C := RX8) (T := TX8) (N := 3) hx hb hts (hin_X8 hmc) hown E.1.1 hP 35 h35 rfl 1 (by decide) (hts _ (hmc _ k_156)) (fun _ h9 => h9) rfl dX8_sort_1 ?_
  refine va_alen (v := nI 64) hx hb E.1.1 hP 37 1 h37 rfl rfl dX8_sort_4 ?_
  refine lv_aload_n hx hb dX8_sort_5 rfl (lv_at hl 0 rfl) ?_
  refine va_get (v := .ref (ad 36)) (C := RX8) (T := TX8) (N := 3) hx hb hts (hin_X8 hmc) hown E.1.1 hP 35 h35 rfl 0 (by decide) (hts _ (hmc _ k_155)) (fun _ h9 => h9) rfl dX8_sort_6 ?_
  refine va_alen (v := nI 64) hx hb E.1.1 hP 36 1 h36 rfl rfl dX8_sort_9 ?_
  refine lv_icmp_ge (tgt := 24) hx hb dX8_sort_10 (by decide) (fun c1 => ?_) (fun c1 => ?_)
  · refine lv_iconst (v := nI 1) hx hb dX8_sort_24 (by decide +kernel) ?_
    refine lv_istore_n (lv' := [(1, .int (nI 1)), (0, .ref (ad 35))]) hx hb dX8_sort_25 rfl hl (by decide) rfl (fun ls hl => ?_)
    refine lv_iload_n hx hb dX8_sort_26 rfl (lv_at hl 0 rfl) ?_
    refine lv_aload_n hx hb dX8_sort_27 rfl (lv_at hl 1 rfl) ?_
    refine va_get (v := .int (nI 1)) (C := RX8) (T := TX8) (N := 3) hx hb hts (hin_X8 hmc) hown E.1.1 hP 35 h35 rfl 2 (by decide) (hts _ (hmc _ k_157)) (fun _ h9 => h9) rfl dX8_sort_28 ?_
    refine lv_icmp_ge (tgt := 105) hx hb dX8_sort_31 (by decide) (fun c2 => ?_) (fun c2 => ?_)
    · subst hAe
      exact W.vret hx hb hr (fun t ht _ => ⟨⟨ws, rfl, rfl, by rw [ht]; exact hP, hD⟩, hS.F ht⟩) hS.2.2 dX8_sort_105
    · exact absurd (by decide +kernel) c2
  · exact absurd (by decide +kernel) c1


set_option maxHeartbeats 4000000 in
set_option maxRecDepth 100000 in
/-- extend: the end of an empty order -/
theorem c0_extend0 (l : Launch) (D : va_G) (K : Nat → ClassId) (tv : Nat) (ws : va_W) (ad : Nat → Nat) (tt : Nat) (h33 : ws[33]? = some (hKc ad 0 tt 0)) : hV l D (hTy K) tv yX7_extend cX7_extend 7 none ({ frames := 1, cells := 0, slots := 0, locals := 60 }) [.ref (ad 33), .int (nI 0), .long (lN 0)] ws (fun ws1 => ws = ws1) := by
  intro sz
  refine Met.ofW (cc := cX7_extend) (maxL := 7) (ret := none) (by decide) rfl ?_
  intro p e s m args below meth c s₁ B hml hv0
  obtain ⟨rfl, rfl, E, hP, hD⟩ := hentry hv0
  have hx := B.exec
  have hb := B.bytes
  have hr := B.returns
  have hts := atoms_spec (ws := hC yX7_extend cX7_extend 7 none) B.pre
  have hown : s.vm.findClass RX7 = some m.cls := findClass_of_methodNamed B.named
  have hlocks := B.notSynchronized
  generalize hAe : va_A ws s.heap.size = A at hD E ⊢
  have hl := lv_entry ([.ref (ad 33), .int (nI 0), .long (lN 0)]) (n := 7) (Nat.le_of_ble_eq_true rfl)
  rw [lg_entry_eq]
  generalize (lg_sl ([.ref (ad 33), .int (nI 0), .long (lN 0)]) ++ List.replicate (7 - (lg_sl ([.ref (ad 33), .int (nI 0), .long (lN 0)])).length) Slot.unset).toArray = ls at hl ⊢
  have hl : lv_has ls 7 [(0, .ref (ad 33)), (1, .int (nI 0)), (2, .long (lN 0))] := hl
  refine hat0 (fun H hHe => ?_)
  have hP : va_P D vwCl ws H := by rw [hHe]; exact hP
  have hS : va_S A s.heap H [] := by rw [hHe]; exact va_S.rf
  refine lv_iload_n hx hb dX7_extend_0 rfl (lv_at hl 1 rfl) ?_
  refine lv_aload_n hx hb dX7_extend_1 rfl (lv_at hl 0 rfl) ?_
  refine va_get (v := .int (nI 0)) (C := RX7) (T := TX7) (N := 5) hx hb hts (hin_X7 hmc) hown E.1.1 hP 33 h33 rfl 2 (by decide) (hts _ (hmc _ k_198)) (fun _ h9 => h9) rfl dX7_extend_2 ?_
  refine lv_icmp_lt (tgt := 24) hx hb dX7_extend_5 (by decide) (fun c1 => ?_) (fun c1 => ?_)
  · exact absurd c1 (by decide +kernel)
  · refine lv_aload_n hx hb dX7_extend_8 rfl (lv_at hl 0 rfl) ?_
    refine va_get (v := .int (nI 0)) (C := RX7) (T := TX7) (N := 5) hx hb hts (hin_X7 hmc) hown E.1.1 hP 33 h33 rfl 4 (by decide) (hts _ (hmc _ k_200)) (fun _ h9 => h9) rfl dX7_extend_9 ?_
    refine lv_if_eq (tgt := 23) hx hb dX7_extend_12 (by decide) (fun c2 => ?_) (fun c2 => ?_)
    · subst hAe
      exact W.vret hx hb hr (fun t ht _ => ⟨⟨ws, rfl, rfl, by rw [ht]; exact hP, hD⟩, hS.F ht⟩) hS.2.2 dX7_extend_23
    · exact absurd rfl c2

