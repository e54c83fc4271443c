set_option maxHeartbeats 4000000 in
set_option maxRecDepth 100000 in
/-- estimate -/
theorem c_X0_estimate (l : Launch) (D : va_G) (K : Nat → ClassId) (tv : Nat) (ws : va_W) (ad : Nat → Nat) (S : Nat → Nat → Nat → Prop) (cnt np : Nat) (o : List Nat) (I : Nat → Nat → Nat) (L Sp : Nat) (hcs : hCS K ad ws S cnt np o I L Sp) (x y : Int32) : hI l D (hTy K) tv yX0_estimate cX0_estimate 3 (some .int) ({ frames := 6, cells := 0, slots := 0, locals := 360 }) [.ref (ad 0), .int x, .int y] ws (fun r ws1 => hEstP S np I x y r ∧ hCS K ad ws1 S cnt np o I L Sp) := by
  intro sz
  refine Met.ofW (cc := cX0_estimate) (maxL := 3) (ret := (some .int)) (by decide) rfl ?_
  intro p e s m args below meth c s₁ B hml hv0
  obtain ⟨rfl, rfl, E, hP, hD⟩ := hentry hv0
  have hx := B.exec
  have hb := B.bytes
  have hr := B.returns
  have hts := atoms_spec (ws := hC yX0_estimate cX0_estimate 3 (some .int)) B.pre
  have hown : s.vm.findClass RX0 = some m.cls := findClass_of_methodNamed B.named
  have hlocks := B.notSynchronized
  generalize hAe : va_A ws s.heap.size = A at hD E ⊢
  have hl := lv_entry ([.ref (ad 0), .int x, .int y]) (n := 3) (Nat.le_of_ble_eq_true rfl)
  rw [lg_entry_eq]
  generalize (lg_sl ([.ref (ad 0), .int x, .int y]) ++ List.replicate (3 - (lg_sl ([.ref (ad 0), .int x, .int y])).length) Slot.unset).toArray = ls at hl ⊢
  have hl : lv_has ls 3 [(0, .ref (ad 0)), (1, .int x), (2, .int y)] := hl
  refine hat0 (fun H hHe => ?_)
  have hP : va_P D vwCl ws H := by rw [hHe]; exact hP
  have hS : va_S A s.heap H [] := by rw [hHe]; exact va_S.rf
  obtain ⟨F, g, dd, mm, ms, lc, rd, ob, fd, ln, tt, co, b, ra, sa, sc, hcx, hcb, hcz⟩ := id hcs
  obtain ⟨hfd, hVw1, hnp, hms, hbd, hnd, hon, hrd, hb1, hLL, hLS, hSL, hsL⟩ := id hcb
  obtain ⟨h0, hTr0, hPl0, hPs0, hO26, h28, hO29, hO31, h33, ⟨fq34, h34, hf34⟩, hSp0, hSo⟩ := id hcx
  have h1 := hTr0.1
  have h6 := hPl0.1
  obtain ⟨f26, u26, ⟨h26, -⟩, -⟩ := id hO26
  refine lv_aload_n hx hb dX0_estimate_0 rfl (lv_at hl 0 rfl) ?_
  refine va_get (v := .ref (ad 6)) (C := RX0) (T := TX0) (N := 6) hx hb hts (hin_X0 hmc) hown E.1.1 hP 0 h0 rfl 1 (by decide) (hts _ (hmc _ k_213)) (fun _ h9 => h9) rfl dX0_estimate_1 ?_
  refine lv_iload_n hx hb dX0_estimate_4 rfl (lv_at hl 1 rfl) ?_
  refine hc_i E hD hS (va_runV (As := [.int x]) (rest := []) ⟨hx, hb, hml, hown, hts⟩ ((c_X3_has l D K tv ws ad np ms hPl0 hnp x) H.size) (cwV 1 hts (hGV hmc k_316 k_317 k_318 k_22 k_319) rfl rfl rfl (by decide +kernel) ⟨Nat.le_of_ble_eq_true rfl, Nat.le_of_ble_eq_true rfl⟩) (hpreV E hP hD hS h6 rfl) rfl rfl hl.1 rfl (lv_room (Nat.le_of_ble_eq_true rfl)) dX0_estimate_5 ⟨(Nat.le_refl _), (Nat.le_refl _)⟩) (fun r2 ws1 H locs hh hP hD hS => ?_)
  obtain ⟨rfl, hh⟩ := hh
  refine lv_if_ne (tgt := 13) hx hb dX0_estimate_8 (by decide) (fun c1 => ?_) (fun c1 => ?_)
  · obtain ⟨i, hi, rfl⟩ := hh.t c1
    refine lv_aload_n hx hb dX0_estimate_13 rfl (lv_at hl 0 rfl) ?_
    refine va_get (v := .ref (ad 6)) (C := RX0) (T := TX0) (N := 6) hx hb hts (hin_X0 hmc) hown E.1.1 hP 0 h0 rfl 1 (by decide) (hts _ (hmc _ k_213)) (fun _ h9 => h9) rfl dX0_estimate_14 ?_
    refine lv_aload_n hx hb dX0_estimate_17 rfl (lv_at hl 0 rfl) ?_
    refine va_get (v := .ref (ad 1)) (C := RX0) (T := TX0) (N := 6) hx hb hts (hin_X0 hmc) hown E.1.1 hP 0 h0 rfl 0 (by decide) (hts _ (hmc _ k_212)) (fun _ h9 => h9) rfl dX0_estimate_18 ?_
    refine hc_v E hD hS (va_runV (As := [.ref (ad 1)]) (rest := []) ⟨hx, hb, hml, hown, hts⟩ ((c_X3_measure l D K tv ws ad np ms hPl0 hnp hms I dd mm hPs0 F g cnt (hXv S) hTr0 hVw1) H.size) (cwV 1 hts (hGV hmc k_320 k_321 k_322 k_22 k_323) rfl rfl rfl (by decide +kernel) ⟨Nat.le_of_ble_eq_true rfl, Nat.le_of_ble_eq_true rfl⟩) (hpreV E hP hD hS h6 rfl) rfl rfl hl.1 rfl (lv_room (Nat.le_of_ble_eq_true rfl)) dX0_estimate_21 ⟨(Nat.le_refl _), (Nat.le_refl _)⟩) (fun ws3 H locs hp hP hD hS => ?_)
    obtain ⟨hg, hPl1, hPs1⟩ := hp
    have h0 := (hg.2 0 (by omega)).trans h0
    have hTr0 := hTr0.ag hg (by omega)
    have hO26 := hO26.ag hg (by omega)
    have h28 := (hg.2 28 (by omega)).trans h28
    have hO29 := hO29.ag hg (by omega)
    have hO31 := hO31.ag hg (by omega)
    have h33 := (hg.2 33 (by omega)).trans h33
    have h34 := (hg.2 34 (by omega)).trans h34
    have hSo := hSo.ag hb1 hg (by omega)
    have hSp0 : ∀ i, i < 6 → ∃ fl It sh nk fx ob1, hStp K ad ws3 (38 + 4 * i) fl It sh nk fx ob1 := fun i hi => by
      obtain ⟨q1, q2, q3, q4, q5, q6, q7⟩ := hSp0 i hi
      exact ⟨q1, q2, q3, q4, q5, q6, q7.ag hg (by omega)⟩
    have hPl0 := hPl1
    have hPs0 := hPs1
    have hbd1 := hbd_meas (np := np) (ms := ms) hVw1 hbd
    have hcz := hcz.meas hVw1 hms
    have h6 := hPl0.1
    refine lv_aload_n hx hb dX0_estimate_24 rfl (lv_at hl 0 rfl) ?_
    refine va_get (v := .ref (ad 6)) (C := RX0) (T := TX0) (N := 6) hx hb hts (hin_X0 hmc) hown E.1.1 hP 0 h0 rfl 1 (by decide) (hts _ (hmc _ k_213)) (fun _ h9 => h9) rfl dX0_estimate_25 ?_
    refine lv_iload_n hx hb dX0_estimate_28 rfl (lv_at hl 1 rfl) ?_
    refine hc_r E hD hS (va_runV (As := [.int (nI i)]) (rest := []) ⟨hx, hb, hml, hown, hts⟩ ((c_X3_at l D K tv ws3 ad np 1 hPl0 hnp i (by omega)) H.size) (cwV 1 hts (hGV hmc k_370 k_371 k_372 k_22 k_373) rfl rfl rfl (by decide +kernel) ⟨Nat.le_of_ble_eq_true rfl, Nat.le_of_ble_eq_true rfl⟩) (hpreV E hP hD hS h6 rfl) rfl rfl hl.1 rfl (lv_room (Nat.le_of_ble_eq_true rfl)) dX0_estimate_29 ⟨(Nat.le_refl _), (Nat.le_refl _)⟩) (fun r5 ws4 H locs hp hP hD hS => ?_)
    obtain ⟨rfl, rfl⟩ := hp
    obtain ⟨fi9, fd9, hq1, -⟩ := id (hPs0 i (by omega))
    refine lv_iload_n hx hb dX0_estimate_32 rfl (lv_at hl 2 rfl) ?_
    refine hc_i E hD hS (va_runV (As := [.int y]) (rest := []) ⟨hx, hb, hml, hown, hts⟩ ((c_X2_estimated l D K tv ws3 ad (8 + 3 * i) (I i) _ _ (hPs0 i (by omega)) y (fun q hq => ((hbd1 i (by omega)).1 q hq).1) (hbd1 i (by omega)).2) H.size) (cwV 1 hts (hGV hmc k_374 k_375 k_376 k_23 k_377) rfl rfl rfl (by decide +kernel) ⟨Nat.le_of_ble_eq_true rfl, Nat.le_of_ble_eq_true rfl⟩) (hpreV E hP hD hS hq1 rfl) rfl rfl hl.1 rfl (lv_room (Nat.le_of_ble_eq_true rfl)) dX0_estimate_33 ⟨(Nat.le_refl _), (Nat.le_refl _)⟩) (fun r7 ws6 H locs hp hP hD hS => ?_)
    obtain ⟨rfl, hp⟩ := hp
    have hz9 := hcz.1 rfl i hi
    subst hAe
    exact W.iret (v := r7) hx hb hr (fun t ht _ => ⟨⟨r7, ws3, rfl, ⟨Or.inr ⟨i, hi, rfl, hp.trans (congrArg nI (hes_ext hz9.2 hz9.1))⟩, ⟨_, _, _, _, _, _, _, _, _, _, _, _, _, _, _, _, ⟨h0, hTr0, hPl0, hPs0, hO26, h28, hO29, hO31, h33, ⟨fq34, h34, hf34⟩, hSp0, hSo⟩, ⟨hfd, hVw1, hnp, Or.inr rfl, hbd1, hnd, hon, hrd, hb1, hLL, hLS, hSL, hsL⟩, hcz⟩⟩, by rw [ht]; exact hP, hD⟩, hS.F ht⟩) hS.2.2 dX0_estimate_36
  · refine lv_iconst (v := (-1)) hx hb dX0_estimate_11 (by decide +kernel) ?_
    subst hAe
    exact W.iret (v := (-1)) hx hb hr (fun t ht _ => ⟨⟨(-1), ws, rfl, ⟨Or.inl ⟨hh.f c1, rfl⟩, hcs⟩, by rw [ht]; exact hP, hD⟩, hS.F ht⟩) hS.2.2 dX0_estimate_12

set_option maxHeartbeats 4000000 in
set_option maxRecDepth 100000 in
/-- prepare -/
theorem c_X5_prepare (l : Launch) (D : va_G) (K : Nat → ClassId) (tv : Nat) (ws : va_W) (ad : Nat → Nat) (np ms : Nat) (I dd : Nat → Nat → Nat) (mm : Nat → Nat) (lc rd : Nat) (ob : List Nat) (hb0 : np ≤ 6 ∧ ∀ i, i < 6 → (∀ q, q < 3 → dd i q ≤ 127 ∧ I i q < 72) ∧ mm i ≤ 640) (hPl0 : hPl K ad ws np ms) (hPs0 : hPs K ad ws I dd mm) (h28 : ws[28]? = some (hNc ad lc rd)) (hrd : rd = 0 ∨ (rd = 1 ∧ ob.length = np)) (hO29 : hOrd K ad ws 29 []) (hO31 : hOrd K ad ws 31 ob) : hV l D (hTy K) tv yX5_prepare cX5_prepare 2 none ({ frames := 10, cells := 0, slots := 0, locals := 600 }) [.ref (ad 28), .ref (ad 6)] ws (fun ws1 => hAg 28 33 ws ws1 ∧ ws1[28]? = some (hNc ad (hLC np I dd mm rd lc ob) 1) ∧ hOrd K ad ws1 29 [] ∧ hOrd K ad ws1 31 (hOB np I dd mm rd ob) ∧ (hOB np I dd mm rd ob).length = np) := by
  intro sz
  refine Met.ofW (cc := cX5_prepare) (maxL := 2) (ret := none) (by decide) rfl ?_
  intro p e s m args below meth c s₁ B hml hv0
  obtain ⟨rfl, rfl, E, hP, hD⟩ := hentry hv0
  have hx := B.exec
  have hb := B.bytes
  have hr := B.returns
  have hts := atoms_spec (ws := hC yX5_prepare cX5_prepare 2 none) B.pre
  have hown : s.vm.findClass RX5 = some m.cls := findClass_of_methodNamed B.named
  have hlocks := B.notSynchronized
  generalize hAe : va_A ws s.heap.size = A at hD E ⊢
  have hl := lv_entry ([.ref (ad 28), .ref (ad 6)]) (n := 2) (Nat.le_of_ble_eq_true rfl)
  rw [lg_entry_eq]
  generalize (lg_sl ([.ref (ad 28), .ref (ad 6)]) ++ List.replicate (2 - (lg_sl ([.ref (ad 28), .ref (ad 6)])).length) Slot.unset).toArray = ls at hl ⊢
  have hl : lv_has ls 2 [(0, .ref (ad 28)), (1, .ref (ad 6))] := hl
  refine hat0 (fun H hHe => ?_)
  have hP : va_P D vwCl ws H := by rw [hHe]; exact hP
  have hS : va_S A s.heap H [] := by rw [hHe]; exact va_S.rf
  have hnp := hb0.1
  obtain ⟨f29, u29, ⟨h29, -⟩, -⟩ := id hO29
  refine lv_aload_n hx hb dX5_prepare_0 rfl (lv_at hl 0 rfl) ?_
  refine va_get (v := .int (nI rd)) (C := RX5) (T := TX5) (N := 4) hx hb hts (hin_X5 hmc) hown E.1.1 hP 28 h28 rfl 3 (by decide) (hts _ (hmc _ k_130)) (fun _ h9 => h9) rfl dX5_prepare_1 ?_
  refine lv_if_eq (tgt := 8) hx hb dX5_prepare_4 (by decide) (fun c1 => ?_) (fun c1 => ?_)
  · have hr0 : rd = 0 := by
      rcases hrd with z | z
      · exact z
      · rw [z.1] at c1; exact absurd c1 (by decide +kernel)
    subst hr0
    refine lv_aload_n hx hb dX5_prepare_8 rfl (lv_at hl 0 rfl) ?_
    refine va_get (v := .ref (ad 29)) (C := RX5) (T := TX5) (N := 4) hx hb hts (hin_X5 hmc) hown E.1.1 hP 28 h28 rfl 0 (by decide) (hts _ (hmc _ k_125)) (fun _ h9 => h9) rfl dX5_prepare_9 ?_
    refine hc_v E hD hS (va_runV (As := []) (rest := []) ⟨hx, hb, hml, hown, hts⟩ ((c_X4_makeEmpty l D K tv ws ad 29 [] hO29) H.size) (cwV 0 hts (hGV hmc k_390 k_301 k_302 k_24 k_303) rfl rfl rfl (by decide +kernel) ⟨Nat.le_of_ble_eq_true rfl, Nat.le_of_ble_eq_true rfl⟩) (hpreV E hP hD hS h29 rfl) rfl rfl hl.1 rfl (lv_room (Nat.le_of_ble_eq_true rfl)) dX5_prepare_12 ⟨(Nat.le_refl _), (Nat.le_refl _)⟩) (fun ws1 H locs hp hP hD hS => ?_)
    obtain ⟨hg, hOn⟩ := hp
    have h28 := (hg.2 28 (by omega)).trans h28
    have hPl0 := hPl0.ag hg (by omega)
    have hPs0 := hPs0.ag hg (by omega)
    have hO31 := hO31.ag hg (by omega)
    refine lv_aload_n hx hb dX5_prepare_15 rfl (lv_at hl 0 rfl) ?_
    refine lv_ldc2 (v := 1000000000001) hx hb hown (hts _ (hmc _ k_391)) dX5_prepare_16 ?_
    refine htopl (v := lN 1000000000001) (rfl) ?_
    refine va_put (v := .long (lN 1000000000001)) (ty := .long) (C := RX5) (T := TX5) (N := 4) hx hb hts (hin_X5 hmc) tyX5 tyX5_ok nmX5 hown E.1.1 hP hD hS 28 h28 rfl 2 (by decide) (hts _ (hmc _ k_128)) (fun _ h9 => h9) rfl (by decide +kernel) rfl rfl (Nat.le_of_ble_eq_true rfl) dX5_prepare_19 (fun H locs hP hD hS => ?_)
    obtain ⟨ws2, ews2⟩ : ∃ zw : va_W, zw = List.set ws1 28 ((ad 28), .inr (iN, [.ref (ad 29), .ref (ad 31), .long (lN 1000000000001), .int (nI 0)])) := ⟨_, rfl⟩
    have hP : va_P D vwCl ws2 H := by rw [ews2]; exact hP
    have hD : va_D A ws2 := by rw [ews2]; exact hD
    have h28 : ws2[28]? = some ((ad 28), .inr (iN, [.ref (ad 29), .ref (ad 31), .long (lN 1000000000001), .int (nI 0)])) := by rw [ews2]; exact hset_eq h28
    have hg1 : hAg 28 29 ws1 ws2 := by rw [ews2]; exact hAg.rf.set (by decide) (by decide)
    have hPl0 := hPl0.ag hg1 (by omega)
    have hPs0 := hPs0.ag hg1 (by omega)
    have hO31 := hO31.ag hg1 (by omega)
    have hOn := hOn.ag hg1 (by omega)
    refine lv_aload_n hx hb dX5_prepare_22 rfl (lv_at hl 0 rfl) ?_
    refine lv_aload_n hx hb dX5_prepare_23 rfl (lv_at hl 1 rfl) ?_
    refine lv_iconst (v := nI 0) hx hb dX5_prepare_24 (by decide +kernel) ?_
    refine lv_iconst (v := nI 0) hx hb dX5_prepare_25 (by decide +kernel) ?_
    refine lv_lconst (v := lN 1) hx hb dX5_prepare_26 (by decide +kernel) ?_
    refine lv_lconst (v := lN 0) hx hb dX5_prepare_27 (by decide +kernel) ?_
    refine hc_v E hD hS (va_runS (As := [.ref (ad 28), .ref (ad 6), .int (nI 0), .int (nI 0), .long (lN 1), .long (lN 0)]) (rest := []) ⟨hx, hb, hml, hown, hts⟩ ((c_X5_search l D K tv ad np ms I dd mm 0 hb0 np ws2 [] 0 1 0 (1000000000001, ob) ⟨hPl0, hPs0, h28, hOn, hO31⟩ List.nodup_nil (fun _ h => absurd h List.not_mem_nil) (Nat.zero_add _) (by decide) (by decide) (by decide) (show 0 < 1000000000001 by decide) (show 1000000000001 ≤ hMX + 1 by decide)) H.size) (va_cwS 6 hts (hGS hmc k_392 k_393 k_25 k_394) rfl rfl rfl (by decide +kernel) ⟨by show 3 + np + 1 ≤ 10; omega, by show 8 + (14 + 11) + 60 * (3 + np) ≤ 600; omega⟩) (hpre E hP hD hS) rfl rfl hl.1 rfl (lv_room (Nat.le_of_ble_eq_true rfl)) dX5_prepare_28 ⟨(Nat.le_refl _), (Nat.le_refl _)⟩) (fun ws3 H locs hp hP hD hS => ?_)
    obtain ⟨hg2, hPl2, hPs2, h28, hO29b, hO31b⟩ := hp
    have hok := hSe_ok np (hEs I dd mm) (hVs I) np [] 0 1 0 (1000000000001, ob) (by decide) (show 0 < 1000000000001 by decide) List.nodup_nil (fun _ h => absurd h List.not_mem_nil) (Nat.zero_add _) (fun q => absurd q (show ¬ 1000000000001 ≤ hMX by decide))
    refine lv_aload_n hx hb dX5_prepare_31 rfl (lv_at hl 0 rfl) ?_
    refine lv_iconst (v := nI 1) hx hb dX5_prepare_32 (by decide +kernel) ?_
    refine va_put (v := .int (nI 1)) (ty := .boolean) (C := RX5) (T := TX5) (N := 4) hx hb hts (hin_X5 hmc) tyX5 tyX5_ok nmX5 hown E.1.1 hP hD hS 28 h28 rfl 3 (by decide) (hts _ (hmc _ k_130)) (fun _ h9 => h9) rfl (by decide +kernel) rfl rfl (Nat.le_of_ble_eq_true rfl) dX5_prepare_33 (fun H locs hP hD hS => ?_)
    obtain ⟨ws4, ews4⟩ : ∃ zw : va_W, zw = List.set ws3 28 ((ad 28), .inr (iN, [.ref (ad 29), .ref (ad 31), .long (lN (hSe np (hEs I dd mm) (hVs I) np [] 0 1 0 (1000000000001, ob)).1), .int (nI 1)])) := ⟨_, rfl⟩
    have hP : va_P D vwCl ws4 H := by rw [ews4]; exact hP
    have hD : va_D A ws4 := by rw [ews4]; exact hD
    have h28 : ws4[28]? = some ((ad 28), .inr (iN, [.ref (ad 29), .ref (ad 31), .long (lN (hSe np (hEs I dd mm) (hVs I) np [] 0 1 0 (1000000000001, ob)).1), .int (nI 1)])) := by rw [ews4]; exact hset_eq h28
    have hg3 : hAg 28 29 ws3 ws4 := by rw [ews4]; exact hAg.rf.set (by decide) (by decide)
    subst hAe
    exact W.vret hx hb hr (fun t ht _ => ⟨⟨ws4, rfl, ⟨(((hg.wide (by decide) (by decide)).tr (hg1.wide (by decide) (by decide))).tr hg2).tr (hg3.wide (by decide) (by decide)), h28, hO29b.ag hg3 (by omega), hO31b.ag hg3 (by omega), hok.2⟩, by rw [ht]; exact hP, hD⟩, hS.F ht⟩) hS.2.2 dX5_prepare_36
  · have hr1 : rd = 1 ∧ ob.length = np := by
      rcases hrd with z | z
      · rw [z] at c1; exact absurd rfl c1
      · exact z
    have e1 : hLC np I dd mm rd lc ob = lc := if_neg (by omega)
    have e2 : hOB np I dd mm rd ob = ob := if_neg (by omega)
    rw [e1, e2]
    subst hAe
    exact W.vret hx hb hr (fun t ht _ => ⟨⟨ws, rfl, ⟨hAg.rf, by rw [← hr1.1]; exact h28, hO29, hO31, hr1.2⟩, by rw [ht]; exact hP, hD⟩, hS.F ht⟩) hS.2.2 dX5_prepare_7

set_option maxHeartbeats 4000000 in
set_option maxRecDepth 100000 in
/-- bestOrder -/
theorem c_X0_bestOrder (l : Launch) (D : va_G) (K : Nat → ClassId) (tv : Nat) (ws : va_W) (ad : Nat → Nat) (F : Nat → Nat → Int32) (cnt : Nat) (I dd : Nat → Nat → Nat) (mm : Nat → Nat) (np ms : Nat) (o : List Nat) (lc rd : Nat) (ob : List Nat) (fd : Int32) (ln tt co b ra sa sc L Sp : Nat) (hb1 : b ≤ 1) (hcx : hCX K ad ws F cnt I dd mm np ms o lc rd ob fd ln tt co b ra sa sc L Sp) (g : Nat → Nat → Nat) (S : Nat → Nat → Nat → Prop) (hcb : hCB F g S cnt I dd mm np ms o rd ob fd b sc L Sp) : hR l D (hTy K) tv yX0_bestOrder cX0_bestOrder 1 (some (.object "JoinPlanner$Order")) ({ frames := 11, cells := 0, slots := 0, locals := 660 }) [.ref (ad 0)] ws (fun a ws1 => a = ad 31 ∧ hCX K ad ws1 F cnt I (hD1 g cnt I dd np ms) (hM1 g cnt I mm np ms) np 1 o (hLC np I (hD1 g cnt I dd np ms) (hM1 g cnt I mm np ms) rd lc ob) 1 (hOB np I (hD1 g cnt I dd np ms) (hM1 g cnt I mm np ms) rd ob) fd ln tt co b ra sa sc L Sp ∧ (hOB np I (hD1 g cnt I dd np ms) (hM1 g cnt I mm np ms) rd ob).length = np) := by
  intro sz
  refine Met.ofW (cc := cX0_bestOrder) (maxL := 1) (ret := (some (.object "JoinPlanner$Order"))) (by decide) rfl ?_
  intro p e s m args below meth c s₁ B hml hv0
  obtain ⟨rfl, rfl, E, hP, hD⟩ := hentry hv0
  have hx := B.exec
  have hb := B.bytes
  have hr := B.returns
  have hts := atoms_spec (ws := hC yX0_bestOrder cX0_bestOrder 1 (some (.object "JoinPlanner$Order"))) B.pre
  have hown : s.vm.findClass RX0 = some m.cls := findClass_of_methodNamed B.named
  have hlocks := B.notSynchronized
  generalize hAe : va_A ws s.heap.size = A at hD E ⊢
  have hl := lv_entry ([.ref (ad 0)]) (n := 1) (Nat.le_of_ble_eq_true rfl)
  rw [lg_entry_eq]
  generalize (lg_sl ([.ref (ad 0)]) ++ List.replicate (1 - (lg_sl ([.ref (ad 0)])).length) Slot.unset).toArray = ls at hl ⊢
  have hl : lv_has ls 1 [(0, .ref (ad 0))] := hl
  refine hat0 (fun H hHe => ?_)
  have hP : va_P D vwCl ws H := by rw [hHe]; exact hP
  have hS : va_S A s.heap H [] := by rw [hHe]; exact va_S.rf
  obtain ⟨hfd, hVw1, hnp, hms, hbd, hnd, hon, hrd, hb1, hLL, hLS, hSL, hsL⟩ := id hcb
  obtain ⟨h0, hTr0, hPl0, hPs0, hO26, h28, hO29, hO31, h33, ⟨fq34, h34, hf34⟩, hSp0, hSo⟩ := id hcx
  have h1 := hTr0.1
  have h6 := hPl0.1
  obtain ⟨f26, u26, ⟨h26, -⟩, -⟩ := id hO26
  refine lv_aload_n hx hb dX0_bestOrder_0 rfl (lv_at hl 0 rfl) ?_
  refine va_get (v := .ref (ad 6)) (C := RX0) (T := TX0) (N := 6) hx hb hts (hin_X0 hmc) hown E.1.1 hP 0 h0 rfl 1 (by decide) (hts _ (hmc _ k_213)) (fun _ h9 => h9) rfl dX0_bestOrder_1 ?_
  refine lv_aload_n hx hb dX0_bestOrder_4 rfl (lv_at hl 0 rfl) ?_
  refine va_get (v := .ref (ad 1)) (C := RX0) (T := TX0) (N := 6) hx hb hts (hin_X0 hmc) hown E.1.1 hP 0 h0 rfl 0 (by decide) (hts _ (hmc _ k_212)) (fun _ h9 => h9) rfl dX0_bestOrder_5 ?_
  refine hc_v E hD hS (va_runV (As := [.ref (ad 1)]) (rest := []) ⟨hx, hb, hml, hown, hts⟩ ((c_X3_measure l D K tv ws ad np ms hPl0 hnp hms I dd mm hPs0 F g cnt (hXv S) hTr0 hVw1) H.size) (cwV 1 hts (hGV hmc k_320 k_321 k_322 k_22 k_323) rfl rfl rfl (by decide +kernel) ⟨Nat.le_of_ble_eq_true rfl, Nat.le_of_ble_eq_true rfl⟩) (hpreV E hP hD hS h6 rfl) rfl rfl hl.1 rfl (lv_room (Nat.le_of_ble_eq_true rfl)) dX0_bestOrder_8 ⟨(Nat.le_refl _), (Nat.le_refl _)⟩) (fun ws1 H locs hp hP hD hS => ?_)
  obtain ⟨hg, hPl1, hPs1⟩ := hp
  have h0 := (hg.2 0 (by omega)).trans h0
  have hTr0 := hTr0.ag hg (by omega)
  have hO26 := hO26.ag hg (by omega)
  have h28 := (hg.2 28 (by omega)).trans h28
  have hO29 := hO29.ag hg (by omega)
  have hO31 := hO31.ag hg (by omega)
  have h33 := (hg.2 33 (by omega)).trans h33
  have h34 := (hg.2 34 (by omega)).trans h34
  have hSo := hSo.ag hb1 hg (by omega)
  have hSp0 : ∀ i, i < 6 → ∃ fl It sh nk fx ob1, hStp K ad ws1 (38 + 4 * i) fl It sh nk fx ob1 := fun i hi => by
    obtain ⟨q1, q2, q3, q4, q5, q6, q7⟩ := hSp0 i hi
    exact ⟨q1, q2, q3, q4, q5, q6, q7.ag hg (by omega)⟩
  have hPl0 := hPl1
  have hPs0 := hPs1
  have hbd1 := hbd_meas (np := np) (ms := ms) hVw1 hbd
  have h1 := hTr0.1
  have h6 := hPl0.1
  obtain ⟨f26, u26, ⟨h26, -⟩, -⟩ := id hO26
  refine lv_aload_n hx hb dX0_bestOrder_11 rfl (lv_at hl 0 rfl) ?_
  refine va_get (v := .ref (ad 28)) (C := RX0) (T := TX0) (N := 6) hx hb hts (hin_X0 hmc) hown E.1.1 hP 0 h0 rfl 3 (by decide) (hts _ (hmc _ k_215)) (fun _ h9 => h9) rfl dX0_bestOrder_12 ?_
  refine lv_aload_n hx hb dX0_bestOrder_15 rfl (lv_at hl 0 rfl) ?_
  refine va_get (v := .ref (ad 6)) (C := RX0) (T := TX0) (N := 6) hx hb hts (hin_X0 hmc) hown E.1.1 hP 0 h0 rfl 1 (by decide) (hts _ (hmc _ k_213)) (fun _ h9 => h9) rfl dX0_bestOrder_16 ?_
  refine hc_v E hD hS (va_runV (As := [.ref (ad 6)]) (rest := []) ⟨hx, hb, hml, hown, hts⟩ ((c_X5_prepare l D K tv ws1 ad np 1 I (hD1 g cnt I dd np ms) (hM1 g cnt I mm np ms) lc rd ob ⟨hnp, hbd1⟩ hPl0 hPs0 h28 hrd hO29 hO31) H.size) (cwV 1 hts (hGV hmc k_386 k_387 k_388 k_25 k_389) rfl rfl rfl (by decide +kernel) ⟨Nat.le_of_ble_eq_true rfl, Nat.le_of_ble_eq_true rfl⟩) (hpreV E hP hD hS h28 rfl) rfl rfl hl.1 rfl (lv_room (Nat.le_of_ble_eq_true rfl)) dX0_bestOrder_19 ⟨(Nat.le_refl _), (Nat.le_refl _)⟩) (fun ws2 H locs hp hP hD hS => ?_)
  obtain ⟨hg2, k28, kO29, kO31, hob⟩ := hp
  have h0 := (hg2.2 0 (by omega)).trans h0
  have hTr0 := hTr0.ag hg2 (by omega)
  have hPl0 := hPl0.ag hg2 (by omega)
  have hPs0 := hPs0.ag hg2 (by omega)
  have hO26 := hO26.ag hg2 (by omega)
  have h33 := (hg2.2 33 (by omega)).trans h33
  have h34 := (hg2.2 34 (by omega)).trans h34
  have hSo := hSo.ag hb1 hg2 (by omega)
  have hSp0 : ∀ i, i < 6 → ∃ fl It sh nk fx ob1, hStp K ad ws2 (38 + 4 * i) fl It sh nk fx ob1 := fun i hi => by
    obtain ⟨q1, q2, q3, q4, q5, q6, q7⟩ := hSp0 i hi
    exact ⟨q1, q2, q3, q4, q5, q6, q7.ag hg2 (by omega)⟩
  have h28 := k28
  have hO29 := kO29
  have hO31 := kO31
  refine lv_aload_n hx hb dX0_bestOrder_22 rfl (lv_at hl 0 rfl) ?_
  refine va_get (v := .ref (ad 28)) (C := RX0) (T := TX0) (N := 6) hx hb hts (hin_X0 hmc) hown E.1.1 hP 0 h0 rfl 3 (by decide) (hts _ (hmc _ k_215)) (fun _ h9 => h9) rfl dX0_bestOrder_23 ?_
  refine va_getN (v := .ref (ad 31)) (C := RX5) (T := TX5) (N := 4) hx hb hts (hin_X5 hmc) hown E.1.1 hP 28 h28 rfl 1 (by decide) (va_Nw.use rfl (E.1.2.1 _ k_127)) (fun _ h9 => h9) rfl dX0_bestOrder_26 ?_
  subst hAe
  exact W.aret (v := .ref (ad 31)) hx hb hr (Or.inl ⟨_, rfl⟩) (Or.inr ⟨_, rfl⟩) (fun t ht _ => ⟨⟨ws2, (ad 31), rfl, trivial, ⟨rfl, ⟨h0, hTr0, hPl0, hPs0, hO26, h28, hO29, hO31, h33, ⟨fq34, h34, hf34⟩, hSp0, hSo⟩, hob⟩, by rw [ht]; exact hP, hD⟩, hS.F ht⟩) hS.2.2 dX0_bestOrder_29

set_option maxHeartbeats 4000000 in
set_option maxRecDepth 100000 in
/-- plan -/
theorem c_X0_plan (l : Launch) (D : va_G) (K : Nat → ClassId) (tv : Nat) (ws : va_W) (ad : Nat → Nat) (S : Nat → Nat → Nat → Prop) (cnt np : Nat) (o : List Nat) (I : Nat → Nat → Nat) (L Sp : Nat) (hcs : hCS K ad ws S cnt np o I L Sp) (x : Int32) : hI l D (hTy K) tv yX0_plan cX0_plan 2 (some .int) ({ frames := 12, cells := 0, slots := 0, locals := 720 }) [.ref (ad 0), .int x] ws (fun r ws1 => hPlnP S np I x r ∧ hCS K ad ws1 S cnt np o I L Sp) := by
  intro sz
  refine Met.ofW (cc := cX0_plan) (maxL := 2) (ret := (some .int)) (by decide) rfl ?_
  intro p e s m args below meth c s₁ B hml hv0
  obtain ⟨rfl, rfl, E, hP, hD⟩ := hentry hv0
  have hx := B.exec
  have hb := B.bytes
  have hr := B.returns
  have hts := atoms_spec (ws := hC yX0_plan cX0_plan 2 (some .int)) B.pre
  have hown : s.vm.findClass RX0 = some m.cls := findClass_of_methodNamed B.named
  have hlocks := B.notSynchronized
  generalize hAe : va_A ws s.heap.size = A at hD E ⊢
  have hl := lv_entry ([.ref (ad 0), .int x]) (n := 2) (Nat.le_of_ble_eq_true rfl)
  rw [lg_entry_eq]
  generalize (lg_sl ([.ref (ad 0), .int x]) ++ List.replicate (2 - (lg_sl ([.ref (ad 0), .int x])).length) Slot.unset).toArray = ls at hl ⊢
  have hl : lv_has ls 2 [(0, .ref (ad 0)), (1, .int x)] := hl
  refine hat0 (fun H hHe => ?_)
  have hP : va_P D vwCl ws H := by rw [hHe]; exact hP
  have hS : va_S A s.heap H [] := by rw [hHe]; exact va_S.rf
  obtain ⟨F, g, dd, mm, ms, lc, rd, ob, fd, ln, tt, co, b, ra, sa, sc, hcx, hcb, hcz⟩ := id hcs
  obtain ⟨hfd, hVw1, hnp, hms, hbd, hnd, hon, hrd, hb1, hLL, hLS, hSL, hsL⟩ := id hcb
  obtain ⟨h0, hTr0, hPl0, hPs0, hO26, h28, hO29, hO31, h33, ⟨fq34, h34, hf34⟩, hSp0, hSo⟩ := id hcx
  have h1 := hTr0.1
  have h6 := hPl0.1
  obtain ⟨f26, u26, ⟨h26, -⟩, -⟩ := id hO26
  refine lv_aload_n hx hb dX0_plan_0 rfl (lv_at hl 0 rfl) ?_
  refine va_get (v := .ref (ad 6)) (C := RX0) (T := TX0) (N := 6) hx hb hts (hin_X0 hmc) hown E.1.1 hP 0 h0 rfl 1 (by decide) (hts _ (hmc _ k_213)) (fun _ h9 => h9) rfl dX0_plan_1 ?_
  refine lv_iload_n hx hb dX0_plan_4 rfl (lv_at hl 1 rfl) ?_
  refine hc_i E hD hS (va_runV (As := [.int x]) (rest := []) ⟨hx, hb, hml, hown, hts⟩ ((c_X3_has l D K tv ws ad np ms hPl0 hnp x) H.size) (cwV 1 hts (hGV hmc k_316 k_317 k_318 k_22 k_319) rfl rfl rfl (by decide +kernel) ⟨Nat.le_of_ble_eq_true rfl, Nat.le_of_ble_eq_true rfl⟩) (hpreV E hP hD hS h6 rfl) rfl rfl hl.1 rfl (lv_room (Nat.le_of_ble_eq_true rfl)) dX0_plan_5 ⟨(Nat.le_refl _), (Nat.le_refl _)⟩) (fun r2 ws1 H locs hh hP hD hS => ?_)
  obtain ⟨rfl, hh⟩ := hh
  refine lv_if_ne (tgt := 13) hx hb dX0_plan_8 (by decide) (fun c1 => ?_) (fun c1 => ?_)
  · obtain ⟨i, hi, rfl⟩ := hh.t c1
    refine lv_aload_n hx hb dX0_plan_13 rfl (lv_at hl 0 rfl) ?_
    refine hc_r E hD hS (va_runV (As := []) (rest := []) ⟨hx, hb, hml, hown, hts⟩ ((c_X0_bestOrder l D K tv ws ad F cnt I dd mm np ms o lc rd ob fd ln tt co b ra sa sc L Sp hb1 hcx g S hcb) H.size) (cwV 0 hts (hGV hmc k_382 k_384 k_1 k_20 k_385) rfl rfl rfl (by decide +kernel) ⟨Nat.le_of_ble_eq_true rfl, Nat.le_of_ble_eq_true rfl⟩) (hpreV E hP hD hS h0 rfl) rfl rfl hl.1 rfl (lv_room (Nat.le_of_ble_eq_true rfl)) dX0_plan_14 ⟨(Nat.le_refl _), (Nat.le_refl _)⟩) (fun r4 ws3 H locs hp hP hD hS => ?_)
    obtain ⟨rfl, hcx, hobl⟩ := hp
    obtain ⟨h0, hTr0, hPl0, hPs0, hO26, h28, hO29, hO31, h33, ⟨fq34, h34, hf34⟩, hSp0, hSo⟩ := id hcx
    obtain ⟨f31, u31, ⟨h31, -⟩, -⟩ := id hO31
    refine lv_iload_n hx hb dX0_plan_17 rfl (lv_at hl 1 rfl) ?_
    refine hc_i E hD hS (va_runV (As := [.int (nI i)]) (rest := []) ⟨hx, hb, hml, hown, hts⟩ ((c_X4_at l D K tv ws3 ad 31 _ hO31 i (by omega)) H.size) (cwV 1 hts (hGV hmc k_427 k_428 k_429 k_24 k_430) rfl rfl rfl (by decide +kernel) ⟨Nat.le_of_ble_eq_true rfl, Nat.le_of_ble_eq_true rfl⟩) (hpreV E hP hD hS h31 rfl) rfl rfl hl.1 rfl (lv_room (Nat.le_of_ble_eq_true rfl)) dX0_plan_18 ⟨(Nat.le_refl _), (Nat.le_refl _)⟩) (fun r6 ws5 H locs hp hP hD hS => ?_)
    obtain ⟨rfl, hp⟩ := hp
    have hb9 := (hcz.best hVw1 hms hrd hnp).2.1 rfl
    subst hAe
    exact W.iret (v := r6) hx hb hr (fun t ht _ => ⟨⟨r6, ws3, rfl, ⟨Or.inr ⟨i, _, hi, rfl, hb9.1, hp⟩, ⟨_, _, _, _, _, _, _, _, _, _, _, _, _, _, _, _, ⟨h0, hTr0, hPl0, hPs0, hO26, h28, hO29, hO31, h33, ⟨fq34, h34, hf34⟩, hSp0, hSo⟩, ⟨hfd, hVw1, hnp, Or.inr rfl, hbd_meas hVw1 hbd, hnd, hon, Or.inr ⟨rfl, hobl⟩, hb1, hLL, hLS, hSL, hsL⟩, hcz.best hVw1 hms hrd hnp⟩⟩, by rw [ht]; exact hP, hD⟩, hS.F ht⟩) hS.2.2 dX0_plan_21
  · refine lv_iconst (v := (-1)) hx hb dX0_plan_11 (by decide +kernel) ?_
    subst hAe
    exact W.iret (v := (-1)) hx hb hr (fun t ht _ => ⟨⟨(-1), ws, rfl, ⟨Or.inl ⟨hh.f c1, rfl⟩, hcs⟩, by rw [ht]; exact hP, hD⟩, hS.F ht⟩) hS.2.2 dX0_plan_12

set_option maxHeartbeats 4000000 in
set_option maxRecDepth 100000 in
/-- cost -/
theorem c_X0_cost (l : Launch) (D : va_G) (K : Nat → ClassId) (tv : Nat) (ws : va_W) (ad : Nat → Nat) (S : Nat → Nat → Nat → Prop) (cnt np : Nat) (o : List Nat) (I : Nat → Nat → Nat) (L Sp : Nat) (hcs : hCS K ad ws S cnt np o I L Sp) : hL l D (hTy K) tv yX0_cost cX0_cost 1 (some .long) ({ frames := 12, cells := 0, slots := 0, locals := 720 }) [.ref (ad 0)] ws (fun r ws1 => hCosP S np I r ∧ hCS K ad ws1 S cnt np o I L Sp) := by
  intro sz
  refine Met.ofW (cc := cX0_cost) (maxL := 1) (ret := (some .long)) (by decide) rfl ?_
  intro p e s m args below meth c s₁ B hml hv0
  obtain ⟨rfl, rfl, E, hP, hD⟩ := hentry hv0
  have hx := B.exec
  have hb := B.bytes
  have hr := B.returns
  have hts := atoms_spec (ws := hC yX0_cost cX0_cost 1 (some .long)) B.pre
  have hown : s.vm.findClass RX0 = some m.cls := findClass_of_methodNamed B.named
  have hlocks := B.notSynchronized
  generalize hAe : va_A ws s.heap.size = A at hD E ⊢
  have hl := lv_entry ([.ref (ad 0)]) (n := 1) (Nat.le_of_ble_eq_true rfl)
  rw [lg_entry_eq]
  generalize (lg_sl ([.ref (ad 0)]) ++ List.replicate (1 - (lg_sl ([.ref (ad 0)])).length) Slot.unset).toArray = ls at hl ⊢
  have hl : lv_has ls 1 [(0, .ref (ad 0))] := hl
  refine hat0 (fun H hHe => ?_)
  have hP : va_P D vwCl ws H := by rw [hHe]; exact hP
  have hS : va_S A s.heap H [] := by rw [hHe]; exact va_S.rf
  obtain ⟨F, g, dd, mm, ms, lc, rd, ob, fd, ln, tt, co, b, ra, sa, sc, hcx, hcb, hcz⟩ := id hcs
  obtain ⟨hfd, hVw1, hnp, hms, hbd, hnd, hon, hrd, hb1, hLL, hLS, hSL, hsL⟩ := id hcb
  obtain ⟨h0, hTr0, hPl0, hPs0, hO26, h28, hO29, hO31, h33, ⟨fq34, h34, hf34⟩, hSp0, hSo⟩ := id hcx
  have h1 := hTr0.1
  have h6 := hPl0.1
  obtain ⟨f26, u26, ⟨h26, -⟩, -⟩ := id hO26
  refine lv_aload_n hx hb dX0_cost_0 rfl (lv_at hl 0 rfl) ?_
  refine hc_r E hD hS (va_runV (As := []) (rest := []) ⟨hx, hb, hml, hown, hts⟩ ((c_X0_bestOrder l D K tv ws ad F cnt I dd mm np ms o lc rd ob fd ln tt co b ra sa sc L Sp hb1 hcx g S hcb) H.size) (cwV 0 hts (hGV hmc k_382 k_384 k_1 k_20 k_385) rfl rfl rfl (by decide +kernel) ⟨Nat.le_of_ble_eq_true rfl, Nat.le_of_ble_eq_true rfl⟩) (hpreV E hP hD hS h0 rfl) rfl rfl hl.1 rfl (lv_room (Nat.le_of_ble_eq_true rfl)) dX0_cost_1 ⟨(Nat.le_refl _), (Nat.le_refl _)⟩) (fun r2 ws1 H locs hp hP hD hS => ?_)
  obtain ⟨rfl, hcx, hobl⟩ := hp
  obtain ⟨h0, hTr0, hPl0, hPs0, hO26, h28, hO29, hO31, h33, ⟨fq34, h34, hf34⟩, hSp0, hSo⟩ := id hcx
  refine lv_pop hx hb dX0_cost_4 rfl ?_
  refine lv_aload_n hx hb dX0_cost_5 rfl (lv_at hl 0 rfl) ?_
  refine va_get (v := .ref (ad 28)) (C := RX0) (T := TX0) (N := 6) hx hb hts (hin_X0 hmc) hown E.1.1 hP 0 h0 rfl 3 (by decide) (hts _ (hmc _ k_215)) (fun _ h9 => h9) rfl dX0_cost_6 ?_
  refine va_getN (v := .long (lN (hLC np I (hD1 g cnt I dd np ms) (hM1 g cnt I mm np ms) rd lc ob))) (C := RX5) (T := TX5) (N := 4) hx hb hts (hin_X5 hmc) hown E.1.1 hP 28 h28 rfl 2 (by decide) (va_Nw.use rfl (E.1.2.1 _ k_129)) (fun _ h9 => h9) rfl dX0_cost_9 ?_
  have hb9 := (hcz.best hVw1 hms hrd hnp).2.1 rfl
  subst hAe
  exact W.lret (v := lN (hLC np I (hD1 g cnt I dd np ms) (hM1 g cnt I mm np ms) rd lc ob)) hx hb hr (fun t ht _ => ⟨⟨lN (hLC np I (hD1 g cnt I dd np ms) (hM1 g cnt I mm np ms) rd lc ob), ws1, rfl, ⟨⟨_, hb9.1, congrArg lN hb9.2.2⟩, ⟨_, _, _, _, _, _, _, _, _, _, _, _, _, _, _, _, ⟨h0, hTr0, hPl0, hPs0, hO26, h28, hO29, hO31, h33, ⟨fq34, h34, hf34⟩, hSp0, hSo⟩, ⟨hfd, hVw1, hnp, Or.inr rfl, hbd_meas hVw1 hbd, hnd, hon, Or.inr ⟨rfl, hobl⟩, hb1, hLL, hLS, hSL, hsL⟩, hcz.best hVw1 hms hrd hnp⟩⟩, by rw [ht]; exact hP, hD⟩, hS.F ht⟩) hS.2.2 dX0_cost_12

set_option maxHeartbeats 4000000 in
set_option maxRecDepth 100000 in
/-- size -/
theorem c_X0_size (l : Launch) (D : va_G) (K : Nat → ClassId) (tv : Nat) (ws : va_W) (ad : Nat → Nat) (S : Nat → Nat → Nat → Prop) (cnt np : Nat) (o : List Nat) (I : Nat → Nat → Nat) (L Sp : Nat) (hcs : hCS K ad ws S cnt np o I L Sp) (x : Int32) : hL l D (hTy K) tv yX0_size cX0_size 7 (some .long) ({ frames := 6, cells := 0, slots := 0, locals := 360 }) [.ref (ad 0), .int x] ws (fun r ws1 => hSizP S I o x r ∧ hCS K ad ws1 S cnt np o I L Sp) := by
  intro sz
  refine Met.ofW (cc := cX0_size) (maxL := 7) (ret := (some .long)) (by decide) rfl ?_
  intro p e s m args below meth c s₁ B hml hv0
  obtain ⟨rfl, rfl, E, hP, hD⟩ := hentry hv0
  have hx := B.exec
  have hb := B.bytes
  have hr := B.returns
  have hts := atoms_spec (ws := hC yX0_size cX0_size 7 (some .long)) B.pre
  have hown : s.vm.findClass RX0 = some m.cls := findClass_of_methodNamed B.named
  have hlocks := B.notSynchronized
  generalize hAe : va_A ws s.heap.size = A at hD E ⊢
  have hl := lv_entry ([.ref (ad 0), .int x]) (n := 7) (Nat.le_of_ble_eq_true rfl)
  rw [lg_entry_eq]
  generalize (lg_sl ([.ref (ad 0), .int x]) ++ List.replicate (7 - (lg_sl ([.ref (ad 0), .int x])).length) Slot.unset).toArray = ls at hl ⊢
  have hl : lv_has ls 7 [(0, .ref (ad 0)), (1, .int x)] := hl
  refine hat0 (fun H hHe => ?_)
  have hP : va_P D vwCl ws H := by rw [hHe]; exact hP
  have hS : va_S A s.heap H [] := by rw [hHe]; exact va_S.rf
  obtain ⟨F, g, dd, mm, ms, lc, rd, ob, fd, ln, tt, co, b, ra, sa, sc, hcx, hcb, hcz⟩ := id hcs
  obtain ⟨hfd, hVw1, hnp, hms, hbd, hnd, hon, hrd, hb1, hLL, hLS, hSL, hsL⟩ := id hcb
  obtain ⟨h0, hTr0, hPl0, hPs0, hO26, h28, hO29, hO31, h33, ⟨fq34, h34, hf34⟩, hSp0, hSo⟩ := id hcx
  have hol : o.length ≤ np := hpig np o hnd hon
  have h1 := hTr0.1
  have h6 := hPl0.1
  obtain ⟨f26, u26, ⟨h26, -⟩, -⟩ := id hO26
  refine lv_iload_n hx hb dX0_size_0 rfl (lv_at hl 1 rfl) ?_
  refine lv_iconst (v := nI 1) hx hb dX0_size_1 (by decide +kernel) ?_
  refine lv_icmp_lt (tgt := 16) hx hb dX0_size_2 (by decide) (fun c1 => ?_) (fun c1 => ?_)
  · refine lv_ldc2 (v := (-1)) hx hb hown (hts _ (hmc _ k_449)) dX0_size_16 ?_
    subst hAe
    exact W.lret (v := (-1)) hx hb hr (fun t ht _ => ⟨⟨(-1), ws, rfl, ⟨Or.inl ⟨Or.inl c1, rfl⟩, hcs⟩, by rw [ht]; exact hP, hD⟩, hS.F ht⟩) hS.2.2 dX0_size_19
  · refine lv_iload_n hx hb dX0_size_5 rfl (lv_at hl 1 rfl) ?_
    refine lv_aload_n hx hb dX0_size_6 rfl (lv_at hl 0 rfl) ?_
    refine va_get (v := .ref (ad 26)) (C := RX0) (T := TX0) (N := 6) hx hb hts (hin_X0 hmc) hown E.1.1 hP 0 h0 rfl 2 (by decide) (hts _ (hmc _ k_214)) (fun _ h9 => h9) rfl dX0_size_7 ?_
    refine va_getN (v := .int (nI o.length)) (C := RX4) (T := TX4) (N := 3) hx hb hts (hin_X4 hmc) hown E.1.1 hP 26 h26 rfl 1 (by decide) (va_Nw.use rfl (E.1.2.1 _ k_108)) (fun _ h9 => h9) rfl dX0_size_10 ?_
    refine lv_icmp_le (tgt := 20) hx hb dX0_size_13 (by decide) (fun c2 => ?_) (fun c2 => ?_)
    · obtain ⟨k, hk, rfl⟩ := hk_of c1 c2 (by omega)
      refine lv_aload_n hx hb dX0_size_20 rfl (lv_at hl 0 rfl) ?_
      refine va_get (v := .ref (ad 6)) (C := RX0) (T := TX0) (N := 6) hx hb hts (hin_X0 hmc) hown E.1.1 hP 0 h0 rfl 1 (by decide) (hts _ (hmc _ k_213)) (fun _ h9 => h9) rfl dX0_size_21 ?_
      refine lv_aload_n hx hb dX0_size_24 rfl (lv_at hl 0 rfl) ?_
      refine va_get (v := .ref (ad 1)) (C := RX0) (T := TX0) (N := 6) hx hb hts (hin_X0 hmc) hown E.1.1 hP 0 h0 rfl 0 (by decide) (hts _ (hmc _ k_212)) (fun _ h9 => h9) rfl dX0_size_25 ?_
      refine hc_v E hD hS (va_runV (As := [.ref (ad 1)]) (rest := []) ⟨hx, hb, hml, hown, hts⟩ ((c_X3_measure l D K tv ws ad np ms hPl0 hnp hms I dd mm hPs0 F g cnt (hXv S) hTr0 hVw1) H.size) (cwV 1 hts (hGV hmc k_320 k_321 k_322 k_22 k_323) rfl rfl rfl (by decide +kernel) ⟨Nat.le_of_ble_eq_true rfl, Nat.le_of_ble_eq_true rfl⟩) (hpreV E hP hD hS h6 rfl) rfl rfl hl.1 rfl (lv_room (Nat.le_of_ble_eq_true rfl)) dX0_size_28 ⟨(Nat.le_refl _), (Nat.le_refl _)⟩) (fun ws1 H locs hp hP hD hS => ?_)
      obtain ⟨hg, hPl1, hPs1⟩ := hp
      have h0 := (hg.2 0 (by omega)).trans h0
      have hTr0 := hTr0.ag hg (by omega)
      have hO26 := hO26.ag hg (by omega)
      have h28 := (hg.2 28 (by omega)).trans h28
      have hO29 := hO29.ag hg (by omega)
      have hO31 := hO31.ag hg (by omega)
      have h33 := (hg.2 33 (by omega)).trans h33
      have h34 := (hg.2 34 (by omega)).trans h34
      have hSo := hSo.ag hb1 hg (by omega)
      have hSp0 : ∀ i, i < 6 → ∃ fl It sh nk fx ob1, hStp K ad ws1 (38 + 4 * i) fl It sh nk fx ob1 := fun i hi => by
        obtain ⟨q1, q2, q3, q4, q5, q6, q7⟩ := hSp0 i hi
        exact ⟨q1, q2, q3, q4, q5, q6, q7.ag hg (by omega)⟩
      have hPl0 := hPl1
      have hPs0 := hPs1
      have hbd1 := hbd_meas (np := np) (ms := ms) hVw1 hbd
      have hcz := hcz.meas hVw1 hms
      have h6 := hPl0.1
      obtain ⟨f26, u26, ⟨h26, -⟩, -⟩ := id hO26
      refine lv_lconst (v := lN 1) hx hb dX0_size_31 (by decide +kernel) ?_
      refine lv_lstore_n (lv' := [(2, .long (lN 1)), (0, .ref (ad 0)), (1, .int (nI k))]) hx hb dX0_size_32 rfl hl (by decide) rfl (fun ls hl => ?_)
      refine lv_iconst (v := nI 0) hx hb dX0_size_33 (by decide +kernel) ?_
      refine lv_istore (lv' := [(4, .int (nI 0)), (2, .long (lN 1)), (0, .ref (ad 0)), (1, .int (nI k))]) hx hb dX0_size_34 hl (by decide) rfl (fun ls hl => ?_)
      refine lv_iconst (v := nI 0) hx hb dX0_size_36 (by decide +kernel) ?_
      refine lv_istore (lv' := [(5, .int (nI 0)), (4, .int (nI 0)), (2, .long (lN 1)), (0, .ref (ad 0)), (1, .int (nI k))]) hx hb dX0_size_37 hl (by decide) rfl (fun ls hl => ?_)
      refine hloopW (α := Nat) 39 7 (fun j => [(5, .int (nI j)), (4, .int (nI (hSzK S I o j).2)), (2, .long (lN (hSzK S I o j).1)), (0, .ref (ad 0)), (1, .int (nI k))]) (fun j w9 => j ≤ k ∧ ws1 = w9) (fun j => k - j) (fun _ => 0) (fun _ => 0) ?_ 0 ⟨Nat.zero_le _, rfl⟩ hP hD hS (lv_sub hl [0, 1, 2, 3, 4] rfl)
      rintro j w9 H locs ls hI9 hP hD hS hl ih
      obtain ⟨hj, rfl⟩ := hI9
      have hsz := hSzK_le S I o j
      have hl : lv_has ls 7 [(5, .int (nI j)), (4, .int (nI (hSzK S I o j).2)), (2, .long (lN (hSzK S I o j).1)), (0, .ref (ad 0)), (1, .int (nI k))] := hl
      refine lv_iload hx hb dX0_size_39 (lv_at hl 0 rfl) ?_
      refine lv_iload_n hx hb dX0_size_41 rfl (lv_at hl 4 rfl) ?_
      refine lv_icmp_ge (tgt := 91) hx hb dX0_size_42 (by decide) (fun c3 => ?_) (fun c3 => ?_)
      · have hjk : j = k := by
          rcases Nat.lt_or_ge j k with z | z
          · exact absurd c3 (nI_ge z (by omega))
          · omega
        subst hjk
        refine lv_lload_n hx hb dX0_size_91 rfl (lv_at hl 2 rfl) ?_
        subst hAe
        exact W.lret (v := lN (hSzK S I o j).1) hx hb hr (fun t ht _ => ⟨⟨lN (hSzK S I o j).1, ws1, rfl, ⟨Or.inr ⟨c1, c2, j, hk, rfl, rfl⟩, ⟨_, _, _, _, _, _, _, _, _, _, _, _, _, _, _, _, ⟨h0, hTr0, hPl0, hPs0, hO26, h28, hO29, hO31, h33, ⟨fq34, h34, hf34⟩, hSp0, hSo⟩, ⟨hfd, hVw1, hnp, Or.inr rfl, hbd1, hnd, hon, hrd, hb1, hLL, hLS, hSL, hsL⟩, hcz⟩⟩, by rw [ht]; exact hP, hD⟩, hS.F ht⟩) hS.2.2 dX0_size_92
      · have c3 : ¬ nI k ≤ nI j := c3
        have hjk : j < k := Nat.not_le.mp (fun z => c3 (nI_le z (by omega)))
        have hxo : o.getD j 0 < np := hon _ (hgetD_mem (by omega))
        have hz9 := hcz.1 rfl _ hxo
        refine lv_aload_n hx hb dX0_size_45 rfl (lv_at hl 3 rfl) ?_
        refine va_get (v := .ref (ad 6)) (C := RX0) (T := TX0) (N := 6) hx hb hts (hin_X0 hmc) hown E.1.1 hP 0 h0 rfl 1 (by decide) (hts _ (hmc _ k_213)) (fun _ h9 => h9) rfl dX0_size_46 ?_
        refine lv_aload_n hx hb dX0_size_49 rfl (lv_at hl 3 rfl) ?_
        refine va_get (v := .ref (ad 26)) (C := RX0) (T := TX0) (N := 6) hx hb hts (hin_X0 hmc) hown E.1.1 hP 0 h0 rfl 2 (by decide) (hts _ (hmc _ k_214)) (fun _ h9 => h9) rfl dX0_size_50 ?_
        refine lv_iload hx hb dX0_size_53 (lv_at hl 0 rfl) ?_
        refine hc_i E hD hS (va_runV (As := [.int (nI j)]) (rest := [.ref (ad 6)]) ⟨hx, hb, hml, hown, hts⟩ ((c_X4_at l D K tv ws1 ad 26 o hO26 j (by omega)) H.size) (cwV 1 hts (hGV hmc k_427 k_428 k_429 k_24 k_430) rfl rfl rfl (by decide +kernel) ⟨Nat.le_of_ble_eq_true rfl, Nat.le_of_ble_eq_true rfl⟩) (hpreV E hP hD hS h26 rfl) rfl rfl hl.1 rfl (lv_room (Nat.le_of_ble_eq_true rfl)) dX0_size_55 ⟨(Nat.le_refl _), (Nat.le_refl _)⟩) (fun r3 ws2 H locs hp hP hD hS => ?_)
        obtain ⟨rfl, rfl⟩ := hp
        refine hc_r E hD hS (va_runV (As := [.int (nI (o.getD j 0))]) (rest := []) ⟨hx, hb, hml, hown, hts⟩ ((c_X3_at l D K tv ws1 ad np 1 hPl0 hnp (o.getD j 0) (by omega)) H.size) (cwV 1 hts (hGV hmc k_370 k_371 k_372 k_22 k_373) rfl rfl rfl (by decide +kernel) ⟨Nat.le_of_ble_eq_true rfl, Nat.le_of_ble_eq_true rfl⟩) (hpreV E hP hD hS h6 rfl) rfl rfl hl.1 rfl (lv_room (Nat.le_of_ble_eq_true rfl)) dX0_size_58 ⟨(Nat.le_refl _), (Nat.le_refl _)⟩) (fun r5 ws4 H locs hp hP hD hS => ?_)
        obtain ⟨rfl, rfl⟩ := hp
        obtain ⟨fi9, fd9, hq1, -⟩ := id (hPs0 (o.getD j 0) (by omega))
        refine lv_astore (lv' := [(6, .ref (ad (8 + 3 * o.getD j 0))), (5, .int (nI j)), (4, .int (nI (hSzK S I o j).2)), (2, .long (lN (hSzK S I o j).1)), (0, .ref (ad 0)), (1, .int (nI k))]) hx hb dX0_size_61 hl (by decide) rfl (fun ls hl => ?_)
        refine lv_lload_n hx hb dX0_size_63 rfl (lv_at hl 3 rfl) ?_
        refine lv_aload hx hb dX0_size_64 (lv_at hl 0 rfl) ?_
        refine lv_iload hx hb dX0_size_66 (lv_at hl 2 rfl) ?_
        refine hc_i E hD hS (va_runV (As := [.int (nI (hSzK S I o j).2)]) (rest := [.long (lN (hSzK S I o j).1)]) ⟨hx, hb, hml, hown, hts⟩ ((c_X2_estimated l D K tv ws1 ad (8 + 3 * o.getD j 0) (I (o.getD j 0)) _ _ (hPs0 (o.getD j 0) (by omega)) (nI (hSzK S I o j).2) (fun q hq => ((hbd1 (o.getD j 0) (by omega)).1 q hq).1) (hbd1 (o.getD j 0) (by omega)).2) H.size) (cwV 1 hts (hGV hmc k_374 k_375 k_376 k_23 k_377) rfl rfl rfl (by decide +kernel) ⟨Nat.le_of_ble_eq_true rfl, Nat.le_of_ble_eq_true rfl⟩) (hpreV E hP hD hS hq1 rfl) rfl rfl hl.1 rfl (lv_room (Nat.le_of_ble_eq_true rfl)) dX0_size_68 ⟨(Nat.le_refl _), (Nat.le_refl _)⟩) (fun r7 ws6 H locs hp hP hD hS => ?_)
        obtain ⟨rfl, hp⟩ := hp
        obtain ⟨e9, he9, hr9, hq9⟩ : ∃ e9, e9 ≤ 640 ∧ r7 = nI e9 ∧ e9 = hes (I (o.getD j 0)) (hNd S (I (o.getD j 0))) (hNN S (I (o.getD j 0))) (nI (hSzK S I o j).2) := ⟨_, hes_le (hbd1 (o.getD j 0) (by omega)).2, hp, hes_ext hz9.2 hz9.1⟩
        subst hr9
        refine hc_sl (va_runS (As := [.long (lN (hSzK S I o j).1), .int (nI e9)]) (rest := []) ⟨hx, hb, hml, hown, hts⟩ (c_X0_grown l (hSzK S I o j).1 e9 hsz he9) (va_cwS 2 hts (hGS hmc k_450 k_407 k_20 k_408) rfl rfl rfl (by decide +kernel) ⟨Nat.le_of_ble_eq_true rfl, Nat.le_of_ble_eq_true rfl⟩) hpre0 rfl rfl hl.1 rfl (lv_room (Nat.le_of_ble_eq_true rfl)) dX0_size_71 ⟨(Nat.le_refl _), (Nat.le_refl _)⟩) (fun r8 hp => ?_)
        subst hp
        refine htopl (v := lN (hSzK S I o (j + 1)).1) (by rw [hq9]; rfl) ?_
        refine lv_lstore_n (lv' := [(2, .long (lN (hSzK S I o (j + 1)).1)), (6, .ref (ad (8 + 3 * o.getD j 0))), (5, .int (nI j)), (4, .int (nI (hSzK S I o j).2)), (0, .ref (ad 0)), (1, .int (nI k))]) hx hb dX0_size_74 rfl hl (by decide) rfl (fun ls hl => ?_)
        refine lv_iload hx hb dX0_size_75 (lv_at hl 3 rfl) ?_
        refine lv_aload hx hb dX0_size_77 (lv_at hl 1 rfl) ?_
        refine hc_i E hD hS (va_runV (As := []) (rest := [.int (nI (hSzK S I o j).2)]) ⟨hx, hb, hml, hown, hts⟩ ((c_X2_variables l D K tv ws1 ad (8 + 3 * o.getD j 0) (I (o.getD j 0)) _ _ (hPs0 (o.getD j 0) (by omega))) H.size) (cwV 0 hts (hGV hmc k_451 k_420 k_421 k_23 k_422) rfl rfl rfl (by decide +kernel) ⟨Nat.le_of_ble_eq_true rfl, Nat.le_of_ble_eq_true rfl⟩) (hpreV E hP hD hS hq1 rfl) rfl rfl hl.1 rfl (lv_room (Nat.le_of_ble_eq_true rfl)) dX0_size_79 ⟨(Nat.le_refl _), (Nat.le_refl _)⟩) (fun r10 ws9 H locs hp hP hD hS => ?_)
        obtain ⟨rfl, rfl⟩ := hp
        refine lv_ior hx hb dX0_size_82 ?_
        refine htopi (v := nI (hSzK S I o (j + 1)).2) (hior _ _) ?_
        refine lv_istore (lv' := [(4, .int (nI (hSzK S I o (j + 1)).2)), (2, .long (lN (hSzK S I o (j + 1)).1)), (6, .ref (ad (8 + 3 * o.getD j 0))), (5, .int (nI j)), (0, .ref (ad 0)), (1, .int (nI k))]) hx hb dX0_size_83 hl (by decide) rfl (fun ls hl => ?_)
        refine lv_iinc (v := nI (j + 1)) (lv' := [(5, .int (nI (j + 1))), (4, .int (nI (hSzK S I o (j + 1)).2)), (2, .long (lN (hSzK S I o (j + 1)).1)), (6, .ref (ad (8 + 3 * o.getD j 0))), (0, .ref (ad 0)), (1, .int (nI k))]) hx hb dX0_size_85 hl (k := 3) rfl (nI_1 _) (by decide) rfl (fun ls hl => ?_)
        refine lv_goto (tgt := 39) hx hb dX0_size_88 (by decide) ?_
        exact ih (j + 1) _ H locs ls ⟨by omega, rfl⟩ (by omega) hP hD hS (lv_sub hl [0, 1, 2, 4, 5] rfl)
    · refine lv_ldc2 (v := (-1)) hx hb hown (hts _ (hmc _ k_449)) dX0_size_16 ?_
      subst hAe
      exact W.lret (v := (-1)) hx hb hr (fun t ht _ => ⟨⟨(-1), ws, rfl, ⟨Or.inl ⟨Or.inr c2, rfl⟩, hcs⟩, by rw [ht]; exact hP, hD⟩, hS.F ht⟩) hS.2.2 dX0_size_19
