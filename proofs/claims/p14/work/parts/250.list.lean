set_option maxHeartbeats 4000000 in
set_option maxRecDepth 100000 in
/-- PatternList.has -/
theorem c_X3_has (l : Launch) (D : va_G) (K : Nat → ClassId) (tv : Nat) (ws : va_W) (ad : Nat → Nat) (np ms : Nat) (hl0 : hPl K ad ws np ms) (hnp : np ≤ 6) (x : Int32) : hI l D (hTy K) tv yX3_has cX3_has 2 (some .boolean) ({ frames := 0, cells := 0, slots := 0, locals := 0 }) [.ref (ad 6), .int x] ws (fun r ws1 => ws = ws1 ∧ hBool r (∃ i, i < np ∧ x = nI i)) := by
  intro sz
  refine Met.ofW (cc := cX3_has) (maxL := 2) (ret := (some .boolean)) (by decide) rfl ?_
  intro p e s m args below meth c s₁ B hml hv0
  obtain ⟨rfl, rfl, E, hP, hD⟩ := hentry hv0
  have hx := B.exec
  have hb := B.bytes
  have hr := B.returns
  have hts := atoms_spec (ws := hC yX3_has cX3_has 2 (some .boolean)) B.pre
  have hown : s.vm.findClass RX3 = some m.cls := findClass_of_methodNamed B.named
  have hlocks := B.notSynchronized
  generalize hAe : va_A ws s.heap.size = A at hD E ⊢
  have hl := lv_entry ([.ref (ad 6), .int x]) (n := 2) (Nat.le_of_ble_eq_true rfl)
  rw [lg_entry_eq]
  generalize (lg_sl ([.ref (ad 6), .int x]) ++ List.replicate (2 - (lg_sl ([.ref (ad 6), .int x])).length) Slot.unset).toArray = ls at hl ⊢
  have hl : lv_has ls 2 [(0, .ref (ad 6)), (1, .int x)] := hl
  refine hat0 (fun H hHe => ?_)
  have hP : va_P D vwCl ws H := by rw [hHe]; exact hP
  have hS : va_S A s.heap H [] := by rw [hHe]; exact va_S.rf
  obtain ⟨h1, fq, h2, hfq⟩ := id hl0
  refine lv_iload_n hx hb dX3_has_0 rfl (lv_at hl 1 rfl) ?_
  refine lv_if_lt (tgt := 16) hx hb dX3_has_1 (by decide) (fun c1 => ?_) (fun c1 => ?_)
  · refine lv_iconst (v := nI 0) hx hb dX3_has_16 (by decide +kernel) ?_
    subst hAe
    exact W.zret (v := nI 0) hx hb hr (by decide +kernel) (fun t ht _ => ⟨⟨nI 0, ws, rfl, ⟨rfl, hBool.no (fun z => by obtain ⟨i, hi, rfl⟩ := z; exact nI_pos (by omega) c1)⟩, by rw [ht]; exact hP, hD⟩, hS.F ht⟩) hS.2.2 dX3_has_17
  · obtain ⟨i, hi31, rfl⟩ := nI_of c1
    refine lv_iload_n hx hb dX3_has_4 rfl (lv_at hl 1 rfl) ?_
    refine lv_aload_n hx hb dX3_has_5 rfl (lv_at hl 0 rfl) ?_
    refine va_get (v := .int (nI np)) (C := RX3) (T := TX3) (N := 3) hx hb hts (hin_X3 hmc) hown E.1.1 hP 6 h1 rfl 1 (by decide) (hts _ (hmc _ k_87)) (fun _ h9 => h9) rfl dX3_has_6 ?_
    refine lv_icmp_ge (tgt := 16) hx hb dX3_has_9 (by decide) (fun c2 => ?_) (fun c2 => ?_)
    · refine lv_iconst (v := nI 0) hx hb dX3_has_16 (by decide +kernel) ?_
      subst hAe
      exact W.zret (v := nI 0) hx hb hr (by decide +kernel) (fun t ht _ => ⟨⟨nI 0, ws, rfl, ⟨rfl, hBool.no (fun z => by obtain ⟨j, hj, e⟩ := z; have := (nI_eq hi31 (by omega)).mp e; have := (nI_leI (by omega) hi31).mp c2; omega)⟩, by rw [ht]; exact hP, hD⟩, hS.F ht⟩) hS.2.2 dX3_has_17
    · refine lv_iconst (v := nI 1) hx hb dX3_has_12 (by decide +kernel) ?_
      refine lv_goto (tgt := 17) hx hb dX3_has_13 (by decide) ?_
      subst hAe
      exact W.zret (v := nI 1) hx hb hr (by decide +kernel) (fun t ht _ => ⟨⟨nI 1, ws, rfl, ⟨rfl, hBool.yes ⟨i, Nat.not_le.mp (fun z => c2 (nI_le z hi31)), rfl⟩⟩, by rw [ht]; exact hP, hD⟩, hS.F ht⟩) hS.2.2 dX3_has_17

set_option maxHeartbeats 4000000 in
set_option maxRecDepth 100000 in
/-- PatternList.at -/
theorem c_X3_at (l : Launch) (D : va_G) (K : Nat → ClassId) (tv : Nat) (ws : va_W) (ad : Nat → Nat) (np ms : Nat) (hl0 : hPl K ad ws np ms) (hnp : np ≤ 6) (i : Nat) (hi : i < 6) : hR l D (hTy K) tv yX3_at cX3_at 2 (some (.object "JoinPlanner$Pattern")) ({ frames := 0, cells := 0, slots := 0, locals := 0 }) [.ref (ad 6), .int (nI i)] ws (fun a ws1 => ws = ws1 ∧ a = ad (8 + 3 * i)) := by
  intro sz
  refine Met.ofW (cc := cX3_at) (maxL := 2) (ret := (some (.object "JoinPlanner$Pattern"))) (by decide) rfl ?_
  intro p e s m args below meth c s₁ B hml hv0
  obtain ⟨rfl, rfl, E, hP, hD⟩ := hentry hv0
  have hx := B.exec
  have hb := B.bytes
  have hr := B.returns
  have hts := atoms_spec (ws := hC yX3_at cX3_at 2 (some (.object "JoinPlanner$Pattern"))) B.pre
  have hown : s.vm.findClass RX3 = some m.cls := findClass_of_methodNamed B.named
  have hlocks := B.notSynchronized
  generalize hAe : va_A ws s.heap.size = A at hD E ⊢
  have hl := lv_entry ([.ref (ad 6), .int (nI i)]) (n := 2) (Nat.le_of_ble_eq_true rfl)
  rw [lg_entry_eq]
  generalize (lg_sl ([.ref (ad 6), .int (nI i)]) ++ List.replicate (2 - (lg_sl ([.ref (ad 6), .int (nI i)])).length) Slot.unset).toArray = ls at hl ⊢
  have hl : lv_has ls 2 [(0, .ref (ad 6)), (1, .int (nI i))] := hl
  refine hat0 (fun H hHe => ?_)
  have hP : va_P D vwCl ws H := by rw [hHe]; exact hP
  have hS : va_S A s.heap H [] := by rw [hHe]; exact va_S.rf
  obtain ⟨h1, fq, h2, hfq⟩ := id hl0
  refine lv_aload_n hx hb dX3_at_0 rfl (lv_at hl 0 rfl) ?_
  refine va_get (v := .ref (ad 7)) (C := RX3) (T := TX3) (N := 3) hx hb hts (hin_X3 hmc) hown E.1.1 hP 6 h1 rfl 0 (by decide) (hts _ (hmc _ k_86)) (fun _ h9 => h9) rfl dX3_at_1 ?_
  refine lv_iload_n hx hb dX3_at_4 rfl (lv_at hl 1 rfl) ?_
  refine va_aldq hx hb E.1.1 hP 7 3 h2 rfl (vp_in_nI (by omega) (by omega)) dX3_at_5 ?_
  refine htopq (v := (ad (8 + 3 * i))) (by rw [nI_clamp (by omega)]; exact hfq i hi) ?_
  subst hAe
  exact W.aret (v := .ref (ad (8 + 3 * i))) hx hb hr (Or.inl ⟨_, rfl⟩) (Or.inr ⟨_, rfl⟩) (fun t ht _ => ⟨⟨ws, (ad (8 + 3 * i)), rfl, trivial, ⟨rfl, rfl⟩, by rw [ht]; exact hP, hD⟩, hS.F ht⟩) hS.2.2 dX3_at_6

set_option maxHeartbeats 4000000 in
set_option maxRecDepth 100000 in
/-- PatternList.makeEmpty -/
theorem c_X3_makeEmpty (l : Launch) (D : va_G) (K : Nat → ClassId) (tv : Nat) (ws : va_W) (ad : Nat → Nat) (np ms : Nat) (hl0 : hPl K ad ws np ms) (hnp : np ≤ 6) : hV l D (hTy K) tv yX3_makeEmpty cX3_makeEmpty 1 none ({ frames := 0, cells := 0, slots := 0, locals := 0 }) [.ref (ad 6)] ws (fun ws1 => hAg 6 7 ws ws1 ∧ hPl K ad ws1 0 ms) := by
  intro sz
  refine Met.ofW (cc := cX3_makeEmpty) (maxL := 1) (ret := none) (by decide) rfl ?_
  intro p e s m args below meth c s₁ B hml hv0
  obtain ⟨rfl, rfl, E, hP, hD⟩ := hentry hv0
  have hx := B.exec
  have hb := B.bytes
  have hr := B.returns
  have hts := atoms_spec (ws := hC yX3_makeEmpty cX3_makeEmpty 1 none) B.pre
  have hown : s.vm.findClass RX3 = some m.cls := findClass_of_methodNamed B.named
  have hlocks := B.notSynchronized
  generalize hAe : va_A ws s.heap.size = A at hD E ⊢
  have hl := lv_entry ([.ref (ad 6)]) (n := 1) (Nat.le_of_ble_eq_true rfl)
  rw [lg_entry_eq]
  generalize (lg_sl ([.ref (ad 6)]) ++ List.replicate (1 - (lg_sl ([.ref (ad 6)])).length) Slot.unset).toArray = ls at hl ⊢
  have hl : lv_has ls 1 [(0, .ref (ad 6))] := hl
  refine hat0 (fun H hHe => ?_)
  have hP : va_P D vwCl ws H := by rw [hHe]; exact hP
  have hS : va_S A s.heap H [] := by rw [hHe]; exact va_S.rf
  obtain ⟨h1, fq, h2, hfq⟩ := id hl0
  refine lv_aload_n hx hb dX3_makeEmpty_0 rfl (lv_at hl 0 rfl) ?_
  refine lv_iconst (v := nI 0) hx hb dX3_makeEmpty_1 (by decide +kernel) ?_
  refine va_put (v := .int (nI 0)) (ty := .int) (C := RX3) (T := TX3) (N := 3) hx hb hts (hin_X3 hmc) tyX3 tyX3_ok nmX3 hown E.1.1 hP hD hS 6 h1 rfl 1 (by decide) (hts _ (hmc _ k_87)) (fun _ h9 => h9) rfl (by decide +kernel) rfl rfl (Nat.le_of_ble_eq_true rfl) dX3_makeEmpty_2 (fun H locs hP hD hS => ?_)
  obtain ⟨ws1, ews1⟩ : ∃ zw : va_W, zw = List.set ws 6 ((ad 6), .inr (iL, [.ref (ad 7), .int (nI 0), .int (nI ms)])) := ⟨_, rfl⟩
  have hP : va_P D vwCl ws1 H := by rw [ews1]; exact hP
  have hD : va_D A ws1 := by rw [ews1]; exact hD
  have h1 : ws1[6]? = some ((ad 6), .inr (iL, [.ref (ad 7), .int (nI 0), .int (nI ms)])) := by rw [ews1]; exact hset_eq h1
  have h2 := (show ws1[7]? = _ from (by rw [ews1]; exact hset_ne (by omega))).trans h2
  subst hAe
  exact W.vret hx hb hr (fun t ht _ => ⟨⟨ws1, rfl, ⟨by rw [ews1]; exact hAg.rf.set (by decide) (by decide), h1, fq, h2, hfq⟩, by rw [ht]; exact hP, hD⟩, hS.F ht⟩) hS.2.2 dX3_makeEmpty_5

set_option maxHeartbeats 4000000 in
set_option maxRecDepth 100000 in
/-- PatternList.append -/
theorem c_X3_append (l : Launch) (D : va_G) (K : Nat → ClassId) (tv : Nat) (ws : va_W) (ad : Nat → Nat) (np ms : Nat) (hl0 : hPl K ad ws np ms) (hnp : np ≤ 6) (I dd : Nat → Nat → Nat) (mm : Nat → Nat) (hps : hPs K ad ws I dd mm) (h6 : np < 6) (x0 x1 x2 : Nat) (hx0 : x0 < 72) (hx1 : x1 < 72) (hx2 : x2 < 72) : hV l D (hTy K) tv yX3_append cX3_append 4 none ({ frames := 1, cells := 0, slots := 0, locals := 60 }) [.ref (ad 6), .int (hit x0), .int (hit x1), .int (hit x2)] ws (fun ws1 => hAg 6 26 ws ws1 ∧ hPl K ad ws1 (np + 1) ms ∧ hPs K ad ws1 (fun i => if i = np then (fun p => if p = 0 then x0 else if p = 1 then x1 else x2) else I i) dd mm) := by
  intro sz
  refine Met.ofW (cc := cX3_append) (maxL := 4) (ret := none) (by decide) rfl ?_
  intro p e s m args below meth c s₁ B hml hv0
  obtain ⟨rfl, rfl, E, hP, hD⟩ := hentry hv0
  have hx := B.exec
  have hb := B.bytes
  have hr := B.returns
  have hts := atoms_spec (ws := hC yX3_append cX3_append 4 none) B.pre
  have hown : s.vm.findClass RX3 = some m.cls := findClass_of_methodNamed B.named
  have hlocks := B.notSynchronized
  generalize hAe : va_A ws s.heap.size = A at hD E ⊢
  have hl := lv_entry ([.ref (ad 6), .int (hit x0), .int (hit x1), .int (hit x2)]) (n := 4) (Nat.le_of_ble_eq_true rfl)
  rw [lg_entry_eq]
  generalize (lg_sl ([.ref (ad 6), .int (hit x0), .int (hit x1), .int (hit x2)]) ++ List.replicate (4 - (lg_sl ([.ref (ad 6), .int (hit x0), .int (hit x1), .int (hit x2)])).length) Slot.unset).toArray = ls at hl ⊢
  have hl : lv_has ls 4 [(0, .ref (ad 6)), (1, .int (hit x0)), (2, .int (hit x1)), (3, .int (hit x2))] := hl
  refine hat0 (fun H hHe => ?_)
  have hP : va_P D vwCl ws H := by rw [hHe]; exact hP
  have hS : va_S A s.heap H [] := by rw [hHe]; exact va_S.rf
  obtain ⟨h1, fq, h2, hfq⟩ := id hl0
  refine lv_aload_n hx hb dX3_append_0 rfl (lv_at hl 0 rfl) ?_
  refine va_get (v := .int (nI np)) (C := RX3) (T := TX3) (N := 3) hx hb hts (hin_X3 hmc) hown E.1.1 hP 6 h1 rfl 1 (by decide) (hts _ (hmc _ k_87)) (fun _ h9 => h9) rfl dX3_append_1 ?_
  refine lv_bipush (v := nI 6) hx hb dX3_append_4 (by decide +kernel) ?_
  refine lv_icmp_ge (tgt := 34) hx hb dX3_append_6 (by decide) (fun c1 => ?_) (fun c1 => ?_)
  · exact absurd c1 (nI_ge h6 (by decide))
  · refine lv_aload_n hx hb dX3_append_9 rfl (lv_at hl 0 rfl) ?_
    refine va_get (v := .ref (ad 7)) (C := RX3) (T := TX3) (N := 3) hx hb hts (hin_X3 hmc) hown E.1.1 hP 6 h1 rfl 0 (by decide) (hts _ (hmc _ k_86)) (fun _ h9 => h9) rfl dX3_append_10 ?_
    refine lv_aload_n hx hb dX3_append_13 rfl (lv_at hl 0 rfl) ?_
    refine va_get (v := .int (nI np)) (C := RX3) (T := TX3) (N := 3) hx hb hts (hin_X3 hmc) hown E.1.1 hP 6 h1 rfl 1 (by decide) (hts _ (hmc _ k_87)) (fun _ h9 => h9) rfl dX3_append_14 ?_
    refine va_aldq hx hb E.1.1 hP 7 3 h2 rfl (vp_in_nI (by omega) (by omega)) dX3_append_17 ?_
    refine htopq (v := (ad (8 + 3 * np))) (by rw [nI_clamp (by omega)]; exact hfq np h6) ?_
    refine lv_iload_n hx hb dX3_append_18 rfl (lv_at hl 1 rfl) ?_
    refine lv_iload_n hx hb dX3_append_19 rfl (lv_at hl 2 rfl) ?_
    refine lv_iload_n hx hb dX3_append_20 rfl (lv_at hl 3 rfl) ?_
    obtain ⟨fi, fd, hq1, -⟩ := id (hps np h6)
    refine hc_v E hD hS (va_runV (As := [.int (hit x0), .int (hit x1), .int (hit x2)]) (rest := []) ⟨hx, hb, hml, hown, hts⟩ ((c_X2_become l D K tv ws ad (8 + 3 * np) (I np) (dd np) (mm np) (hps np h6) x0 x1 x2 hx0 hx1 hx2) H.size) (cwV 3 hts (hGV hmc k_296 k_297 k_298 k_23 k_299) rfl rfl rfl (by decide +kernel) ⟨Nat.le_of_ble_eq_true rfl, Nat.le_of_ble_eq_true rfl⟩) (hpreV E hP hD hS hq1 rfl) rfl rfl hl.1 rfl (lv_room (Nat.le_of_ble_eq_true rfl)) dX3_append_21 ⟨(Nat.le_refl _), (Nat.le_refl _)⟩) (fun ws1 H locs hp hP hD hS => ?_)
    obtain ⟨hg, hnew⟩ := hp
    have h1 := (hg.2 6 (by omega)).trans h1
    have h2 := (hg.2 7 (by omega)).trans h2
    refine lv_aload_n hx hb dX3_append_24 rfl (lv_at hl 0 rfl) ?_
    refine lv_dup hx hb dX3_append_25 rfl ?_
    refine va_get (v := .int (nI np)) (C := RX3) (T := TX3) (N := 3) hx hb hts (hin_X3 hmc) hown E.1.1 hP 6 h1 rfl 1 (by decide) (hts _ (hmc _ k_87)) (fun _ h9 => h9) rfl dX3_append_26 ?_
    refine lv_iconst (v := nI 1) hx hb dX3_append_29 (by decide +kernel) ?_
    refine lv_iadd hx hb dX3_append_30 ?_
    refine htopi (v := nI (np + 1)) (nI_add _ _) ?_
    refine va_put (v := .int (nI (np + 1))) (ty := .int) (C := RX3) (T := TX3) (N := 3) hx hb hts (hin_X3 hmc) tyX3 tyX3_ok nmX3 hown E.1.1 hP hD hS 6 h1 rfl 1 (by decide) (hts _ (hmc _ k_87)) (fun _ h9 => h9) rfl (by decide +kernel) rfl rfl (Nat.le_of_ble_eq_true rfl) dX3_append_31 (fun H locs hP hD hS => ?_)
    obtain ⟨ws2, ews2⟩ : ∃ zw : va_W, zw = List.set ws1 6 ((ad 6), .inr (iL, [.ref (ad 7), .int (nI (np + 1)), .int (nI ms)])) := ⟨_, rfl⟩
    have hP : va_P D vwCl ws2 H := by rw [ews2]; exact hP
    have hD : va_D A ws2 := by rw [ews2]; exact hD
    have h1 : ws2[6]? = some ((ad 6), .inr (iL, [.ref (ad 7), .int (nI (np + 1)), .int (nI ms)])) := by rw [ews2]; exact hset_eq h1
    have h2 := (show ws2[7]? = _ from (by rw [ews2]; exact hset_ne (by omega))).trans h2
    have hg2 : hAg 6 7 ws1 ws2 := by rw [ews2]; exact hAg.rf.set (by decide) (by decide)
    subst hAe
    exact W.vret hx hb hr (fun t ht _ => ⟨⟨ws2, rfl, ⟨(hg.wide (by omega) (by omega)).tr (hg2.wide (by omega) (by omega)), ⟨h1, fq, h2, hfq⟩, fun i hi => by
        by_cases z : i = np
        · subst z; dsimp only; rw [if_pos rfl]; exact hnew.ag hg2 (by omega)
        · dsimp only; rw [if_neg z]; exact ((hps i hi).ag hg (by omega)).ag hg2 (by omega)⟩, by rw [ht]; exact hP, hD⟩, hS.F ht⟩) hS.2.2 dX3_append_34

set_option maxHeartbeats 4000000 in
set_option maxRecDepth 100000 in
/-- PatternList.variables -/
theorem c_X3_variables (l : Launch) (D : va_G) (K : Nat → ClassId) (tv : Nat) (ws : va_W) (ad : Nat → Nat) (np ms : Nat) (hl0 : hPl K ad ws np ms) (hnp : np ≤ 6) (I dd : Nat → Nat → Nat) (mm : Nat → Nat) (hps : hPs K ad ws I dd mm) : hI l D (hTy K) tv yX3_variables cX3_variables 3 (some .int) ({ frames := 2, cells := 0, slots := 0, locals := 120 }) [.ref (ad 6)] ws (fun r ws1 => ws = ws1 ∧ r = nI (hVm I np)) := by
  intro sz
  refine Met.ofW (cc := cX3_variables) (maxL := 3) (ret := (some .int)) (by decide) rfl ?_
  intro p e s m args below meth c s₁ B hml hv0
  obtain ⟨rfl, rfl, E, hP, hD⟩ := hentry hv0
  have hx := B.exec
  have hb := B.bytes
  have hr := B.returns
  have hts := atoms_spec (ws := hC yX3_variables cX3_variables 3 (some .int)) B.pre
  have hown : s.vm.findClass RX3 = some m.cls := findClass_of_methodNamed B.named
  have hlocks := B.notSynchronized
  generalize hAe : va_A ws s.heap.size = A at hD E ⊢
  have hl := lv_entry ([.ref (ad 6)]) (n := 3) (Nat.le_of_ble_eq_true rfl)
  rw [lg_entry_eq]
  generalize (lg_sl ([.ref (ad 6)]) ++ List.replicate (3 - (lg_sl ([.ref (ad 6)])).length) Slot.unset).toArray = ls at hl ⊢
  have hl : lv_has ls 3 [(0, .ref (ad 6))] := hl
  refine hat0 (fun H hHe => ?_)
  have hP : va_P D vwCl ws H := by rw [hHe]; exact hP
  have hS : va_S A s.heap H [] := by rw [hHe]; exact va_S.rf
  obtain ⟨h1, fq, h2, hfq⟩ := id hl0
  refine lv_iconst (v := nI 0) hx hb dX3_variables_0 (by decide +kernel) ?_
  refine lv_istore_n (lv' := [(1, .int (nI 0)), (0, .ref (ad 6))]) hx hb dX3_variables_1 rfl hl (by decide) rfl (fun ls hl => ?_)
  refine lv_iconst (v := nI 0) hx hb dX3_variables_2 (by decide +kernel) ?_
  refine lv_istore_n (lv' := [(2, .int (nI 0)), (1, .int (nI 0)), (0, .ref (ad 6))]) hx hb dX3_variables_3 rfl hl (by decide) rfl (fun ls hl => ?_)
  refine hloopW (α := Nat) 4 3 (fun j => [(2, .int (nI j)), (1, .int (nI (hVm I j))), (0, .ref (ad 6))]) (fun j w1 => j ≤ np ∧ ws = w1) (fun j => np - j) (fun _ => 0) (fun _ => 0) ?_ 0 ⟨Nat.zero_le _, rfl⟩ hP hD hS (lv_sub hl [0, 1, 2] rfl)
  intro j w1 H locs ls hj hP hD hS hl ih
  obtain ⟨hj, rfl⟩ := hj
  have hl : lv_has ls 3 [(2, .int (nI j)), (1, .int (nI (hVm I j))), (0, .ref (ad 6))] := hl
  refine lv_iload_n hx hb dX3_variables_4 rfl (lv_at hl 0 rfl) ?_
  refine lv_aload_n hx hb dX3_variables_5 rfl (lv_at hl 2 rfl) ?_
  refine va_get (v := .int (nI np)) (C := RX3) (T := TX3) (N := 3) hx hb hts (hin_X3 hmc) hown E.1.1 hP 6 h1 rfl 1 (by decide) (hts _ (hmc _ k_87)) (fun _ h9 => h9) rfl dX3_variables_6 ?_
  refine lv_icmp_ge (tgt := 30) hx hb dX3_variables_9 (by decide) (fun c1 => ?_) (fun c1 => ?_)
  · have hj3 : j = np := by
      rcases Nat.lt_or_ge j np with z | z
      · exact absurd c1 (nI_ge z (by omega))
      · omega
    refine lv_iload_n hx hb dX3_variables_30 rfl (lv_at hl 1 rfl) ?_
    subst hAe
    exact W.iret (v := nI (hVm I j)) hx hb hr (fun t ht _ => ⟨⟨nI (hVm I j), ws, rfl, ⟨rfl, by rw [hj3]⟩, by rw [ht]; exact hP, hD⟩, hS.F ht⟩) hS.2.2 dX3_variables_31
  · have hj3 : j < np := Nat.not_le.mp (fun z => c1 (nI_le z (by omega)))
    obtain ⟨fi, fd, hq1, -⟩ := id (hps j (by omega))
    refine lv_iload_n hx hb dX3_variables_12 rfl (lv_at hl 1 rfl) ?_
    refine lv_aload_n hx hb dX3_variables_13 rfl (lv_at hl 2 rfl) ?_
    refine va_get (v := .ref (ad 7)) (C := RX3) (T := TX3) (N := 3) hx hb hts (hin_X3 hmc) hown E.1.1 hP 6 h1 rfl 0 (by decide) (hts _ (hmc _ k_86)) (fun _ h9 => h9) rfl dX3_variables_14 ?_
    refine lv_iload_n hx hb dX3_variables_17 rfl (lv_at hl 0 rfl) ?_
    refine va_aldq hx hb E.1.1 hP 7 3 h2 rfl (vp_in_nI (by omega) (by omega)) dX3_variables_18 ?_
    refine htopq (v := (ad (8 + 3 * j))) (by rw [nI_clamp (by omega)]; exact hfq j (by omega)) ?_
    refine hc_i E hD hS (va_runV (As := []) (rest := [.int (nI (hVm I j))]) ⟨hx, hb, hml, hown, hts⟩ ((c_X2_variables l D K tv ws ad (8 + 3 * j) (I j) (dd j) (mm j) (hps j (by omega))) H.size) (cwV 0 hts (hGV hmc k_555 k_420 k_421 k_23 k_422) rfl rfl rfl (by decide +kernel) ⟨Nat.le_of_ble_eq_true rfl, Nat.le_of_ble_eq_true rfl⟩) (hpreV E hP hD hS hq1 rfl) rfl rfl hl.1 rfl (lv_room (Nat.le_of_ble_eq_true rfl)) dX3_variables_19 ⟨(Nat.le_refl _), (Nat.le_refl _)⟩) (fun r2 ws1 H locs hp hP hD hS => ?_)
    obtain ⟨rfl, rfl⟩ := hp
    refine lv_ior hx hb dX3_variables_22 ?_
    refine htopi (v := nI (hVm I (j + 1))) (hior _ _) ?_
    refine lv_istore_n (lv' := [(1, .int (nI (hVm I (j + 1)))), (2, .int (nI j)), (0, .ref (ad 6))]) hx hb dX3_variables_23 rfl hl (by decide) rfl (fun ls hl => ?_)
    refine lv_iinc (v := nI (j + 1)) (lv' := [(2, .int (nI (j + 1))), (1, .int (nI (hVm I (j + 1)))), (0, .ref (ad 6))]) hx hb dX3_variables_24 hl (k := 1) rfl (nI_1 _) (by decide) rfl (fun ls hl => ?_)
    refine lv_goto (tgt := 4) hx hb dX3_variables_27 (by decide) ?_
    exact ih (j + 1) _ _ _ ls ⟨by omega, rfl⟩ (by omega) hP hD hS (lv_sub hl [0, 1, 2] rfl)
