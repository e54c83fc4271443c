set_option maxHeartbeats 4000000 in
set_option maxRecDepth 100000 in
/-- walk of an empty order -/
theorem c0_walk0 (l : Launch) (D : va_G) (K : Nat → ClassId) (tv : Nat) (ws : va_W) (ad : Nat → Nat) (n ln tt : Nat) (hn : n = 26 ∨ n = 31) (ho : hOrd K ad ws n []) (h33 : ws[33]? = some (hKc ad ln tt 0)) : hV l D (hTy K) tv yX7_walk cX7_walk 7 none ({ frames := 2, cells := 0, slots := 0, locals := 120 }) [.ref (ad 33), .ref (ad n), .ref (ad 6), .ref (ad 1)] ws (fun ws1 => hAg 33 34 ws ws1 ∧ ws1[33]? = some (hKc ad 0 0 0)) := by
  intro sz
  refine Met.ofW (cc := cX7_walk) (maxL := 7) (ret := none) (by decide) rfl ?_
  intro p e s m args below meth c s₁ B hml hv0
  obtain ⟨rfl, rfl, E, hP, hD⟩ := hentry hv0
  have hx := B.exec
  have hb := B.bytes
  have hr := B.returns
  have hts := atoms_spec (ws := hC yX7_walk cX7_walk 7 none) B.pre
  have hown : s.vm.findClass RX7 = some m.cls := findClass_of_methodNamed B.named
  have hlocks := B.notSynchronized
  generalize hAe : va_A ws s.heap.size = A at hD E ⊢
  have hl := lv_entry ([.ref (ad 33), .ref (ad n), .ref (ad 6), .ref (ad 1)]) (n := 7) (Nat.le_of_ble_eq_true rfl)
  rw [lg_entry_eq]
  generalize (lg_sl ([.ref (ad 33), .ref (ad n), .ref (ad 6), .ref (ad 1)]) ++ List.replicate (7 - (lg_sl ([.ref (ad 33), .ref (ad n), .ref (ad 6), .ref (ad 1)])).length) Slot.unset).toArray = ls at hl ⊢
  have hl : lv_has ls 7 [(0, .ref (ad 33)), (1, .ref (ad n)), (2, .ref (ad 6)), (3, .ref (ad 1))] := hl
  refine hat0 (fun H hHe => ?_)
  have hP : va_P D vwCl ws H := by rw [hHe]; exact hP
  have hS : va_S A s.heap H [] := by rw [hHe]; exact va_S.rf
  obtain ⟨fo, uo, ⟨hno, -⟩, -⟩ := id ho
  refine lv_iconst (v := nI 0) hx hb dX7_walk_0 (by decide +kernel) ?_
  refine lv_istore (lv' := [(4, .int (nI 0)), (0, .ref (ad 33)), (1, .ref (ad n)), (2, .ref (ad 6)), (3, .ref (ad 1))]) hx hb dX7_walk_1 hl (by decide) rfl (fun ls hl => ?_)
  refine lv_iconst (v := nI 0) hx hb dX7_walk_3 (by decide +kernel) ?_
  refine lv_istore (lv' := [(5, .int (nI 0)), (4, .int (nI 0)), (0, .ref (ad 33)), (1, .ref (ad n)), (2, .ref (ad 6)), (3, .ref (ad 1))]) hx hb dX7_walk_4 hl (by decide) rfl (fun ls hl => ?_)
  refine lv_iload hx hb dX7_walk_6 (lv_at hl 0 rfl) ?_
  refine lv_aload_n hx hb dX7_walk_8 rfl (lv_at hl 3 rfl) ?_
  refine va_getN (v := .int (nI ([] : List Nat).length)) (C := RX4) (T := TX4) (N := 3) hx hb hts (hin_X4 hmc) hown E.1.1 hP n hno rfl 1 (by decide) (va_Nw.use rfl (E.1.2.1 _ k_107)) (fun _ h9 => h9) rfl dX7_walk_9 ?_
  refine lv_icmp_ge (tgt := 58) hx hb dX7_walk_12 (by decide) (fun c1 => ?_) (fun c1 => ?_)
  · refine lv_aload_n hx hb dX7_walk_58 rfl (lv_at hl 2 rfl) ?_
    refine lv_aload_n hx hb dX7_walk_59 rfl (lv_at hl 3 rfl) ?_
    refine va_getN (v := .int (nI ([] : List Nat).length)) (C := RX4) (T := TX4) (N := 3) hx hb hts (hin_X4 hmc) hown E.1.1 hP n hno rfl 1 (by decide) (va_Nw.use rfl (E.1.2.1 _ k_107)) (fun _ h9 => h9) rfl dX7_walk_60 ?_
    refine va_put (v := .int (nI ([] : List Nat).length)) (ty := .int) (C := RX7) (T := TX7) (N := 5) hx hb hts (hin_X7 hmc) tyX7 tyX7_ok nmX7 hown E.1.1 hP hD hS 33 h33 rfl 2 (by decide) (hts _ (hmc _ k_198)) (fun _ h9 => h9) rfl (by decide +kernel) rfl rfl (Nat.le_of_ble_eq_true rfl) dX7_walk_63 (fun H locs hP hD hS => ?_)
    obtain ⟨ws1, ews1⟩ : ∃ z, z = List.set ws 33 ((ad 33), .inr (iN2, [.ref (ad 34), .ref (ad 35), .int (nI ([] : List Nat).length), .int (nI tt), .int (nI 0)])) := ⟨_, rfl⟩
    have hP : va_P D vwCl ws1 H := by rw [ews1]; exact hP
    have hD : va_D A ws1 := by rw [ews1]; exact hD
    have h33 : ws1[33]? = some ((ad 33), .inr (iN2, [.ref (ad 34), .ref (ad 35), .int (nI ([] : List Nat).length), .int (nI tt), .int (nI 0)])) := by rw [ews1]; exact hset_eq h33
    have hno := (show ws1[n]? = _ from (by rw [ews1]; exact hset_ne (by omega))).trans hno
    refine lv_aload_n hx hb dX7_walk_66 rfl (lv_at hl 2 rfl) ?_
    refine lv_iconst (v := nI 0) hx hb dX7_walk_67 (by decide +kernel) ?_
    refine va_put (v := .int (nI 0)) (ty := .int) (C := RX7) (T := TX7) (N := 5) hx hb hts (hin_X7 hmc) tyX7 tyX7_ok nmX7 hown E.1.1 hP hD hS 33 h33 rfl 3 (by decide) (hts _ (hmc _ k_199)) (fun _ h9 => h9) rfl (by decide +kernel) rfl rfl (Nat.le_of_ble_eq_true rfl) dX7_walk_68 (fun H locs hP hD hS => ?_)
    obtain ⟨ws2, ews2⟩ : ∃ z, z = List.set ws1 33 ((ad 33), .inr (iN2, [.ref (ad 34), .ref (ad 35), .int (nI ([] : List Nat).length), .int (nI 0), .int (nI 0)])) := ⟨_, rfl⟩
    have hP : va_P D vwCl ws2 H := by rw [ews2]; exact hP
    have hD : va_D A ws2 := by rw [ews2]; exact hD
    have h33 : ws2[33]? = some ((ad 33), .inr (iN2, [.ref (ad 34), .ref (ad 35), .int (nI ([] : List Nat).length), .int (nI 0), .int (nI 0)])) := by rw [ews2]; exact hset_eq h33
    have hno := (show ws2[n]? = _ from (by rw [ews2]; exact hset_ne (by omega))).trans hno
    refine lv_aload_n hx hb dX7_walk_71 rfl (lv_at hl 2 rfl) ?_
    refine lv_iconst (v := nI 0) hx hb dX7_walk_72 (by decide +kernel) ?_
    refine lv_lconst (v := lN 0) hx hb dX7_walk_73 (by decide +kernel) ?_
    have hg1 : hAg 33 34 ws ws2 := by rw [ews2, ews1]; exact (hAg.rf.set (by decide) (by decide)).set (by decide) (by decide)
    refine hc_v E hD hS (va_runS (As := [.ref (ad 33), .int (nI 0), .long (lN 0)]) (rest := []) ⟨hx, hb, hml, hown, hts⟩ ((c0_extend0 l D K tv ws2 ad 0 h33) H.size) (va_cwS 3 hts (hGS hmc k_481 k_482 k_26 k_483) rfl rfl rfl (by decide +kernel) ⟨Nat.le_of_ble_eq_true rfl, Nat.le_of_ble_eq_true rfl⟩) (hpre E hP hD hS) rfl rfl hl.1 rfl (lv_room (Nat.le_of_ble_eq_true rfl)) dX7_walk_74 ⟨(Nat.le_refl _), (Nat.le_refl _)⟩) (fun ws3 H locs hp hP hD hS => ?_)
    obtain rfl := hp
    subst hAe
    exact W.vret hx hb hr (fun t ht _ => ⟨⟨ws2, rfl, ⟨hg1, h33⟩, by rw [ht]; exact hP, hD⟩, hS.F ht⟩) hS.2.2 dX7_walk_77
  · exact absurd (by decide +kernel) c1


set_option maxHeartbeats 4000000 in
set_option maxRecDepth 100000 in
/-- extend: the end of an empty order -/
theorem c0_extend1 (l : Launch) (D : va_G) (K : Nat → ClassId) (tv : Nat) (ws : va_W) (ad : Nat → Nat) (tt : Nat) (h33 : ws[33]? = some (hKc ad 0 tt 1)) (h35 : ws[35]? = some (ad 35, .inr (iU, [.ref (ad 36), .ref (ad 37), .int (nI 0)]))) (h36 : ws[36]? = some (ad 36, .inl (K 1, 64, .inr (.inl (fun _ => 0))))) : hV l D (hTy K) tv yX7_extend cX7_extend 7 none ({ frames := 1, cells := 0, slots := 0, locals := 60 }) [.ref (ad 33), .int (nI 0), .long (lN 0)] ws (fun ws1 => hAg 35 37 ws ws1 ∧ ws1[35]? = some (ad 35, .inr (iU, [.ref (ad 36), .ref (ad 37), .int (nI 1)])) ∧ ∃ f, ws1[36]? = some (ad 36, .inl (K 1, 64, .inr (.inl f)))) := by
  intro sz
  refine Met.ofW (cc := cX7_extend) (maxL := 7) (ret := none) (by decide) rfl ?_
  intro p e s m args below meth c s₁ B hml hv0
  obtain ⟨rfl, rfl, E, hP, hD⟩ := hentry hv0
  have hx := B.exec
  have hb := B.bytes
  have hr := B.returns
  have hts := atoms_spec (ws := hC yX7_extend cX7_extend 7 none) B.pre
  have hown : s.vm.findClass RX7 = some m.cls := findClass_of_methodNamed B.named
  have hlocks := B.notSynchronized
  generalize hAe : va_A ws s.heap.size = A at hD E ⊢
  have hl := lv_entry ([.ref (ad 33), .int (nI 0), .long (lN 0)]) (n := 7) (Nat.le_of_ble_eq_true rfl)
  rw [lg_entry_eq]
  generalize (lg_sl ([.ref (ad 33), .int (nI 0), .long (lN 0)]) ++ List.replicate (7 - (lg_sl ([.ref (ad 33), .int (nI 0), .long (lN 0)])).length) Slot.unset).toArray = ls at hl ⊢
  have hl : lv_has ls 7 [(0, .ref (ad 33)), (1, .int (nI 0)), (2, .long (lN 0))] := hl
  refine hat0 (fun H hHe => ?_)
  have hP : va_P D vwCl ws H := by rw [hHe]; exact hP
  have hS : va_S A s.heap H [] := by rw [hHe]; exact va_S.rf
  refine lv_iload_n hx hb dX7_extend_0 rfl (lv_at hl 1 rfl) ?_
  refine lv_aload_n hx hb dX7_extend_1 rfl (lv_at hl 0 rfl) ?_
  refine va_get (v := .int (nI 0)) (C := RX7) (T := TX7) (N := 5) hx hb hts (hin_X7 hmc) hown E.1.1 hP 33 h33 rfl 2 (by decide) (hts _ (hmc _ k_198)) (fun _ h9 => h9) rfl dX7_extend_2 ?_
  refine lv_icmp_lt (tgt := 24) hx hb dX7_extend_5 (by decide) (fun c1 => ?_) (fun c1 => ?_)
  · exact absurd c1 (by decide +kernel)
  · refine lv_aload_n hx hb dX7_extend_8 rfl (lv_at hl 0 rfl) ?_
    refine va_get (v := .int (nI 1)) (C := RX7) (T := TX7) (N := 5) hx hb hts (hin_X7 hmc) hown E.1.1 hP 33 h33 rfl 4 (by decide) (hts _ (hmc _ k_200)) (fun _ h9 => h9) rfl dX7_extend_9 ?_
    refine lv_if_eq (tgt := 23) hx hb dX7_extend_12 (by decide) (fun c2 => ?_) (fun c2 => ?_)
    · exact absurd c2 (by decide +kernel)
    · refine lv_aload_n hx hb dX7_extend_15 rfl (lv_at hl 0 rfl) ?_
      refine va_get (v := .ref (ad 35)) (C := RX7) (T := TX7) (N := 5) hx hb hts (hin_X7 hmc) hown E.1.1 hP 33 h33 rfl 1 (by decide) (hts _ (hmc _ k_196)) (fun _ h9 => h9) rfl dX7_extend_16 ?_
      refine lv_lload_n hx hb dX7_extend_19 rfl (lv_at hl 2 rfl) ?_
      refine hc_v E hD hS (va_runV (As := [.long (lN 0)]) (rest := []) ⟨hx, hb, hml, hown, hts⟩ ((c0_keep l D K tv ws ad h35 h36) H.size) (cwV 1 hts (hGV hmc k_484 k_485 k_486 k_27 k_487) rfl rfl rfl (by decide +kernel) ⟨Nat.le_of_ble_eq_true rfl, Nat.le_of_ble_eq_true rfl⟩) (hpreV E hP hD hS h35 rfl) rfl rfl hl.1 rfl (lv_room (Nat.le_of_ble_eq_true rfl)) dX7_extend_20 ⟨(Nat.le_refl _), (Nat.le_refl _)⟩) (fun ws1 H locs hp hP hD hS => ?_)
      subst hAe
      exact W.vret hx hb hr (fun t ht _ => ⟨⟨ws1, rfl, hp, by rw [ht]; exact hP, hD⟩, hS.F ht⟩) hS.2.2 dX7_extend_23


set_option maxHeartbeats 4000000 in
set_option maxRecDepth 100000 in
/-- walk of an empty order -/
theorem c0_walk1 (l : Launch) (D : va_G) (K : Nat → ClassId) (tv : Nat) (ws : va_W) (ad : Nat → Nat) (n ln tt : Nat) (hn : n = 26 ∨ n = 31) (ho : hOrd K ad ws n []) (h33 : ws[33]? = some (hKc ad ln tt 1)) (h35 : ws[35]? = some (ad 35, .inr (iU, [.ref (ad 36), .ref (ad 37), .int (nI 0)]))) (h36 : ws[36]? = some (ad 36, .inl (K 1, 64, .inr (.inl (fun _ => 0))))) : hV l D (hTy K) tv yX7_walk cX7_walk 7 none ({ frames := 2, cells := 0, slots := 0, locals := 120 }) [.ref (ad 33), .ref (ad n), .ref (ad 6), .ref (ad 1)] ws (fun ws1 => hAg 33 37 ws ws1 ∧ ws1[33]? = some (hKc ad 0 0 1) ∧ ws1[35]? = some (ad 35, .inr (iU, [.ref (ad 36), .ref (ad 37), .int (nI 1)])) ∧ ∃ f, ws1[36]? = some (ad 36, .inl (K 1, 64, .inr (.inl f)))) := by
  intro sz
  refine Met.ofW (cc := cX7_walk) (maxL := 7) (ret := none) (by decide) rfl ?_
  intro p e s m args below meth c s₁ B hml hv0
  obtain ⟨rfl, rfl, E, hP, hD⟩ := hentry hv0
  have hx := B.exec
  have hb := B.bytes
  have hr := B.returns
  have hts := atoms_spec (ws := hC yX7_walk cX7_walk 7 none) B.pre
  have hown : s.vm.findClass RX7 = some m.cls := findClass_of_methodNamed B.named
  have hlocks := B.notSynchronized
  generalize hAe : va_A ws s.heap.size = A at hD E ⊢
  have hl := lv_entry ([.ref (ad 33), .ref (ad n), .ref (ad 6), .ref (ad 1)]) (n := 7) (Nat.le_of_ble_eq_true rfl)
  rw [lg_entry_eq]
  generalize (lg_sl ([.ref (ad 33), .ref (ad n), .ref (ad 6), .ref (ad 1)]) ++ List.replicate (7 - (lg_sl ([.ref (ad 33), .ref (ad n), .ref (ad 6), .ref (ad 1)])).length) Slot.unset).toArray = ls at hl ⊢
  have hl : lv_has ls 7 [(0, .ref (ad 33)), (1, .ref (ad n)), (2, .ref (ad 6)), (3, .ref (ad 1))] := hl
  refine hat0 (fun H hHe => ?_)
  have hP : va_P D vwCl ws H := by rw [hHe]; exact hP
  have hS : va_S A s.heap H [] := by rw [hHe]; exact va_S.rf
  obtain ⟨fo, uo, ⟨hno, -⟩, -⟩ := id ho
  refine lv_iconst (v := nI 0) hx hb dX7_walk_0 (by decide +kernel) ?_
  refine lv_istore (lv' := [(4, .int (nI 0)), (0, .ref (ad 33)), (1, .ref (ad n)), (2, .ref (ad 6)), (3, .ref (ad 1))]) hx hb dX7_walk_1 hl (by decide) rfl (fun ls hl => ?_)
  refine lv_iconst (v := nI 0) hx hb dX7_walk_3 (by decide +kernel) ?_
  refine lv_istore (lv' := [(5, .int (nI 0)), (4, .int (nI 0)), (0, .ref (ad 33)), (1, .ref (ad n)), (2, .ref (ad 6)), (3, .ref (ad 1))]) hx hb dX7_walk_4 hl (by decide) rfl (fun ls hl => ?_)
  refine lv_iload hx hb dX7_walk_6 (lv_at hl 0 rfl) ?_
  refine lv_aload_n hx hb dX7_walk_8 rfl (lv_at hl 3 rfl) ?_
  refine va_getN (v := .int (nI ([] : List Nat).length)) (C := RX4) (T := TX4) (N := 3) hx hb hts (hin_X4 hmc) hown E.1.1 hP n hno rfl 1 (by decide) (va_Nw.use rfl (E.1.2.1 _ k_107)) (fun _ h9 => h9) rfl dX7_walk_9 ?_
  refine lv_icmp_ge (tgt := 58) hx hb dX7_walk_12 (by decide) (fun c1 => ?_) (fun c1 => ?_)
  · refine lv_aload_n hx hb dX7_walk_58 rfl (lv_at hl 2 rfl) ?_
    refine lv_aload_n hx hb dX7_walk_59 rfl (lv_at hl 3 rfl) ?_
    refine va_getN (v := .int (nI ([] : List Nat).length)) (C := RX4) (T := TX4) (N := 3) hx hb hts (hin_X4 hmc) hown E.1.1 hP n hno rfl 1 (by decide) (va_Nw.use rfl (E.1.2.1 _ k_107)) (fun _ h9 => h9) rfl dX7_walk_60 ?_
    refine va_put (v := .int (nI ([] : List Nat).length)) (ty := .int) (C := RX7) (T := TX7) (N := 5) hx hb hts (hin_X7 hmc) tyX7 tyX7_ok nmX7 hown E.1.1 hP hD hS 33 h33 rfl 2 (by decide) (hts _ (hmc _ k_198)) (fun _ h9 => h9) rfl (by decide +kernel) rfl rfl (Nat.le_of_ble_eq_true rfl) dX7_walk_63 (fun H locs hP hD hS => ?_)
    obtain ⟨ws1, ews1⟩ : ∃ z, z = List.set ws 33 ((ad 33), .inr (iN2, [.ref (ad 34), .ref (ad 35), .int (nI ([] : List Nat).length), .int (nI tt), .int (nI 1)])) := ⟨_, rfl⟩
    have hP : va_P D vwCl ws1 H := by rw [ews1]; exact hP
    have hD : va_D A ws1 := by rw [ews1]; exact hD
    have h33 : ws1[33]? = some ((ad 33), .inr (iN2, [.ref (ad 34), .ref (ad 35), .int (nI ([] : List Nat).length), .int (nI tt), .int (nI 1)])) := by rw [ews1]; exact hset_eq h33
    have hno := (show ws1[n]? = _ from (by rw [ews1]; exact hset_ne (by omega))).trans hno
    have h35 := (show ws1[35]? = _ from (by rw [ews1]; exact hset_ne (by omega))).trans h35
    have h36 := (show ws1[36]? = _ from (by rw [ews1]; exact hset_ne (by omega))).trans h36
    refine lv_aload_n hx hb dX7_walk_66 rfl (lv_at hl 2 rfl) ?_
    refine lv_iconst (v := nI 0) hx hb dX7_walk_67 (by decide +kernel) ?_
    refine va_put (v := .int (nI 0)) (ty := .int) (C := RX7) (T := TX7) (N := 5) hx hb hts (hin_X7 hmc) tyX7 tyX7_ok nmX7 hown E.1.1 hP hD hS 33 h33 rfl 3 (by decide) (hts _ (hmc _ k_199)) (fun _ h9 => h9) rfl (by decide +kernel) rfl rfl (Nat.le_of_ble_eq_true rfl) dX7_walk_68 (fun H locs hP hD hS => ?_)
    obtain ⟨ws2, ews2⟩ : ∃ z, z = List.set ws1 33 ((ad 33), .inr (iN2, [.ref (ad 34), .ref (ad 35), .int (nI ([] : List Nat).length), .int (nI 0), .int (nI 1)])) := ⟨_, rfl⟩
    have hP : va_P D vwCl ws2 H := by rw [ews2]; exact hP
    have hD : va_D A ws2 := by rw [ews2]; exact hD
    have h33 : ws2[33]? = some ((ad 33), .inr (iN2, [.ref (ad 34), .ref (ad 35), .int (nI ([] : List Nat).length), .int (nI 0), .int (nI 1)])) := by rw [ews2]; exact hset_eq h33
    have hno := (show ws2[n]? = _ from (by rw [ews2]; exact hset_ne (by omega))).trans hno
    have h35 := (show ws2[35]? = _ from (by rw [ews2]; exact hset_ne (by omega))).trans h35
    have h36 := (show ws2[36]? = _ from (by rw [ews2]; exact hset_ne (by omega))).trans h36
    refine lv_aload_n hx hb dX7_walk_71 rfl (lv_at hl 2 rfl) ?_
    refine lv_iconst (v := nI 0) hx hb dX7_walk_72 (by decide +kernel) ?_
    refine lv_lconst (v := lN 0) hx hb dX7_walk_73 (by decide +kernel) ?_
    have hg1 : hAg 33 34 ws ws2 := by rw [ews2, ews1]; exact (hAg.rf.set (by decide) (by decide)).set (by decide) (by decide)
    refine hc_v E hD hS (va_runS (As := [.ref (ad 33), .int (nI 0), .long (lN 0)]) (rest := []) ⟨hx, hb, hml, hown, hts⟩ ((c0_extend1 l D K tv ws2 ad 0 h33 h35 h36) H.size) (va_cwS 3 hts (hGS hmc k_481 k_482 k_26 k_483) rfl rfl rfl (by decide +kernel) ⟨Nat.le_of_ble_eq_true rfl, Nat.le_of_ble_eq_true rfl⟩) (hpre E hP hD hS) rfl rfl hl.1 rfl (lv_room (Nat.le_of_ble_eq_true rfl)) dX7_walk_74 ⟨(Nat.le_refl _), (Nat.le_refl _)⟩) (fun ws3 H locs hp hP hD hS => ?_)
    obtain ⟨hg2, hq⟩ := hp
    subst hAe
    exact W.vret hx hb hr (fun t ht _ => ⟨⟨ws3, rfl, ⟨(hg1.wide (by decide) (by decide)).tr (hg2.wide (by decide) (by decide)), (hg2.2 33 (by omega)).trans h33, hq⟩, by rw [ht]; exact hP, hD⟩, hS.F ht⟩) hS.2.2 dX7_walk_77
  · exact absurd (by decide +kernel) c1


set_option maxHeartbeats 4000000 in
set_option maxRecDepth 100000 in
/-- countRows of an empty order -/
theorem c0_countRows (l : Launch) (D : va_G) (K : Nat → ClassId) (tv : Nat) (ws : va_W) (ad : Nat → Nat) (ho : hOrd K ad ws 26 []) (h33 : ws[33]? = some (hKc ad 0 0 0)) : hI l D (hTy K) tv yX7_countRows cX7_countRows 4 (some .int) ({ frames := 3, cells := 0, slots := 0, locals := 180 }) [.ref (ad 33), .ref (ad 26), .ref (ad 6), .ref (ad 1)] ws (fun r _ => r = nI 0) := by
  intro sz
  refine Met.ofW (cc := cX7_countRows) (maxL := 4) (ret := (some .int)) (by decide) rfl ?_
  intro p e s m args below meth c s₁ B hml hv0
  obtain ⟨rfl, rfl, E, hP, hD⟩ := hentry hv0
  have hx := B.exec
  have hb := B.bytes
  have hr := B.returns
  have hts := atoms_spec (ws := hC yX7_countRows cX7_countRows 4 (some .int)) B.pre
  have hown : s.vm.findClass RX7 = some m.cls := findClass_of_methodNamed B.named
  have hlocks := B.notSynchronized
  generalize hAe : va_A ws s.heap.size = A at hD E ⊢
  have hl := lv_entry ([.ref (ad 33), .ref (ad 26), .ref (ad 6), .ref (ad 1)]) (n := 4) (Nat.le_of_ble_eq_true rfl)
  rw [lg_entry_eq]
  generalize (lg_sl ([.ref (ad 33), .ref (ad 26), .ref (ad 6), .ref (ad 1)]) ++ List.replicate (4 - (lg_sl ([.ref (ad 33), .ref (ad 26), .ref (ad 6), .ref (ad 1)])).length) Slot.unset).toArray = ls at hl ⊢
  have hl : lv_has ls 4 [(0, .ref (ad 33)), (1, .ref (ad 26)), (2, .ref (ad 6)), (3, .ref (ad 1))] := hl
  refine hat0 (fun H hHe => ?_)
  have hP : va_P D vwCl ws H := by rw [hHe]; exact hP
  have hS : va_S A s.heap H [] := by rw [hHe]; exact va_S.rf
  refine lv_aload_n hx hb dX7_countRows_0 rfl (lv_at hl 0 rfl) ?_
  refine lv_iconst (v := nI 0) hx hb dX7_countRows_1 (by decide +kernel) ?_
  refine va_put (v := .int (nI 0)) (ty := .boolean) (C := RX7) (T := TX7) (N := 5) hx hb hts (hin_X7 hmc) tyX7 tyX7_ok nmX7 hown E.1.1 hP hD hS 33 h33 rfl 4 (by decide) (hts _ (hmc _ k_200)) (fun _ h9 => h9) rfl (by decide +kernel) rfl rfl (Nat.le_of_ble_eq_true rfl) dX7_countRows_2 (fun H locs hP hD hS => ?_)
  have hP : va_P D vwCl ws H := by rw [← hset_same h33]; exact hP
  have hD : va_D A ws := by rw [← hset_same h33]; exact hD
  refine lv_aload_n hx hb dX7_countRows_5 rfl (lv_at hl 0 rfl) ?_
  refine lv_aload_n hx hb dX7_countRows_6 rfl (lv_at hl 1 rfl) ?_
  refine lv_aload_n hx hb dX7_countRows_7 rfl (lv_at hl 2 rfl) ?_
  refine lv_aload_n hx hb dX7_countRows_8 rfl (lv_at hl 3 rfl) ?_
  refine hc_v E hD hS (va_runV (As := [.ref (ad 26), .ref (ad 6), .ref (ad 1)]) (rest := []) ⟨hx, hb, hml, hown, hts⟩ ((c0_walk0 l D K tv ws ad 26 0 0 (Or.inl rfl) ho h33) H.size) (cwV 3 hts (hGV hmc k_460 k_462 k_2 k_26 k_463) rfl rfl rfl (by decide +kernel) ⟨Nat.le_of_ble_eq_true rfl, Nat.le_of_ble_eq_true rfl⟩) (hpreV E hP hD hS h33 rfl) rfl rfl hl.1 rfl (lv_room (Nat.le_of_ble_eq_true rfl)) dX7_countRows_9 ⟨(Nat.le_refl _), (Nat.le_refl _)⟩) (fun ws1 H locs hp hP hD hS => ?_)
  obtain ⟨hg, h33⟩ := hp
  refine lv_aload_n hx hb dX7_countRows_12 rfl (lv_at hl 0 rfl) ?_
  refine va_get (v := .int (nI 0)) (C := RX7) (T := TX7) (N := 5) hx hb hts (hin_X7 hmc) hown E.1.1 hP 33 h33 rfl 3 (by decide) (hts _ (hmc _ k_199)) (fun _ h9 => h9) rfl dX7_countRows_13 ?_
  refine lv_sipush (v := nI 20000) hx hb dX7_countRows_16 (by decide +kernel) ?_
  refine lv_icmp_le (tgt := 27) hx hb dX7_countRows_19 (by decide) (fun c1 => ?_) (fun c1 => ?_)
  · refine lv_aload_n hx hb dX7_countRows_27 rfl (lv_at hl 0 rfl) ?_
    refine va_get (v := .int (nI 0)) (C := RX7) (T := TX7) (N := 5) hx hb hts (hin_X7 hmc) hown E.1.1 hP 33 h33 rfl 3 (by decide) (hts _ (hmc _ k_199)) (fun _ h9 => h9) rfl dX7_countRows_28 ?_
    subst hAe
    exact W.iret (v := nI 0) hx hb hr (fun t ht _ => ⟨⟨nI 0, ws1, rfl, rfl, by rw [ht]; exact hP, hD⟩, hS.F ht⟩) hS.2.2 dX7_countRows_31
  · exact absurd (by decide +kernel) c1


set_option maxHeartbeats 4000000 in
set_option maxRecDepth 100000 in
/-- rows of a fresh object -/
theorem c_X0_rows (l : Launch) (D : va_G) (K : Nat → ClassId) (tv : Nat) (ws : va_W) (ad : Nat → Nat) (hs0 : hSt0 K ad ws) : hI l D (hTy K) tv yX0_rows cX0_rows 1 (some .int) ({ frames := 4, cells := 0, slots := 0, locals := 240 }) [.ref (ad 0)] ws (fun r _ => r = nI 0) := by
  intro sz
  refine Met.ofW (cc := cX0_rows) (maxL := 1) (ret := (some .int)) (by decide) rfl ?_
  intro p e s m args below meth c s₁ B hml hv0
  obtain ⟨rfl, rfl, E, hP, hD⟩ := hentry hv0
  have hx := B.exec
  have hb := B.bytes
  have hr := B.returns
  have hts := atoms_spec (ws := hC yX0_rows cX0_rows 1 (some .int)) B.pre
  have hown : s.vm.findClass RX0 = some m.cls := findClass_of_methodNamed B.named
  have hlocks := B.notSynchronized
  generalize hAe : va_A ws s.heap.size = A at hD E ⊢
  have hl := lv_entry ([.ref (ad 0)]) (n := 1) (Nat.le_of_ble_eq_true rfl)
  rw [lg_entry_eq]
  generalize (lg_sl ([.ref (ad 0)]) ++ List.replicate (1 - (lg_sl ([.ref (ad 0)])).length) Slot.unset).toArray = ls at hl ⊢
  have hl : lv_has ls 1 [(0, .ref (ad 0))] := hl
  refine hat0 (fun H hHe => ?_)
  have hP : va_P D vwCl ws H := by rw [hHe]; exact hP
  have hS : va_S A s.heap H [] := by rw [hHe]; exact va_S.rf
  obtain ⟨h0, hTr0, hPl0, hPs0, hO26, h28, hO29, hO31, h33, ⟨fq34, h34, hf34⟩, h35, h36, h37, hSp0⟩ := id hs0
  have h1 := hTr0.1
  have h6 := hPl0.1
  obtain ⟨f26, u26, ⟨h26, -⟩, -⟩ := id hO26
  refine lv_aload_n hx hb dX0_rows_0 rfl (lv_at hl 0 rfl) ?_
  refine va_get (v := .ref (ad 33)) (C := RX0) (T := TX0) (N := 6) hx hb hts (hin_X0 hmc) hown E.1.1 hP 0 h0 rfl 4 (by decide) (hts _ (hmc _ k_216)) (fun _ h9 => h9) rfl dX0_rows_1 ?_
  refine lv_aload_n hx hb dX0_rows_4 rfl (lv_at hl 0 rfl) ?_
  refine va_get (v := .ref (ad 26)) (C := RX0) (T := TX0) (N := 6) hx hb hts (hin_X0 hmc) hown E.1.1 hP 0 h0 rfl 2 (by decide) (hts _ (hmc _ k_214)) (fun _ h9 => h9) rfl dX0_rows_5 ?_
  refine lv_aload_n hx hb dX0_rows_8 rfl (lv_at hl 0 rfl) ?_
  refine va_get (v := .ref (ad 6)) (C := RX0) (T := TX0) (N := 6) hx hb hts (hin_X0 hmc) hown E.1.1 hP 0 h0 rfl 1 (by decide) (hts _ (hmc _ k_213)) (fun _ h9 => h9) rfl dX0_rows_9 ?_
  refine lv_aload_n hx hb dX0_rows_12 rfl (lv_at hl 0 rfl) ?_
  refine va_get (v := .ref (ad 1)) (C := RX0) (T := TX0) (N := 6) hx hb hts (hin_X0 hmc) hown E.1.1 hP 0 h0 rfl 0 (by decide) (hts _ (hmc _ k_212)) (fun _ h9 => h9) rfl dX0_rows_13 ?_
  refine hc_i E hD hS (va_runV (As := [.ref (ad 26), .ref (ad 6), .ref (ad 1)]) (rest := []) ⟨hx, hb, hml, hown, hts⟩ ((c0_countRows l D K tv ws ad hO26 h33) H.size) (cwV 3 hts (hGV hmc k_456 k_457 k_458 k_26 k_459) rfl rfl rfl (by decide +kernel) ⟨Nat.le_of_ble_eq_true rfl, Nat.le_of_ble_eq_true rfl⟩) (hpreV E hP hD hS h33 rfl) rfl rfl hl.1 rfl (lv_room (Nat.le_of_ble_eq_true rfl)) dX0_rows_16 ⟨(Nat.le_refl _), (Nat.le_refl _)⟩) (fun r2 ws1 H locs hp hP hD hS => ?_)
  subst hAe
  exact W.iret (v := r2) hx hb hr (fun t ht _ => ⟨⟨r2, ws1, rfl, hp, by rw [ht]; exact hP, hD⟩, hS.F ht⟩) hS.2.2 dX0_rows_19


set_option maxHeartbeats 4000000 in
set_option maxRecDepth 100000 in
/-- collect of an empty order -/
theorem c0_collect (l : Launch) (D : va_G) (K : Nat → ClassId) (tv : Nat) (ws : va_W) (ad : Nat → Nat) (ho : hOrd K ad ws 31 []) (h33 : ws[33]? = some (hKc ad 0 0 0)) (h35 : ws[35]? = some (ad 35, .inr (iU, [.ref (ad 36), .ref (ad 37), .int (nI 0)]))) (h36 : ws[36]? = some (ad 36, .inl (K 1, 64, .inr (.inl (fun _ => 0))))) (h37 : ws[37]? = some (ad 37, .inl (K 1, 64, .inr (.inl (fun _ => 0))))) : hI l D (hTy K) tv yX7_collect cX7_collect 4 (some .int) ({ frames := 3, cells := 0, slots := 0, locals := 180 }) [.ref (ad 33), .ref (ad 31), .ref (ad 6), .ref (ad 1)] ws (fun r ws1 => r = nI 1 ∧ hAg 33 37 ws ws1) := by
  intro sz
  refine Met.ofW (cc := cX7_collect) (maxL := 4) (ret := (some .int)) (by decide) rfl ?_
  intro p e s m args below meth c s₁ B hml hv0
  obtain ⟨rfl, rfl, E, hP, hD⟩ := hentry hv0
  have hx := B.exec
  have hb := B.bytes
  have hr := B.returns
  have hts := atoms_spec (ws := hC yX7_collect cX7_collect 4 (some .int)) B.pre
  have hown : s.vm.findClass RX7 = some m.cls := findClass_of_methodNamed B.named
  have hlocks := B.notSynchronized
  generalize hAe : va_A ws s.heap.size = A at hD E ⊢
  have hl := lv_entry ([.ref (ad 33), .ref (ad 31), .ref (ad 6), .ref (ad 1)]) (n := 4) (Nat.le_of_ble_eq_true rfl)
  rw [lg_entry_eq]
  generalize (lg_sl ([.ref (ad 33), .ref (ad 31), .ref (ad 6), .ref (ad 1)]) ++ List.replicate (4 - (lg_sl ([.ref (ad 33), .ref (ad 31), .ref (ad 6), .ref (ad 1)])).length) Slot.unset).toArray = ls at hl ⊢
  have hl : lv_has ls 4 [(0, .ref (ad 33)), (1, .ref (ad 31)), (2, .ref (ad 6)), (3, .ref (ad 1))] := hl
  refine hat0 (fun H hHe => ?_)
  have hP : va_P D vwCl ws H := by rw [hHe]; exact hP
  have hS : va_S A s.heap H [] := by rw [hHe]; exact va_S.rf
  refine lv_aload_n hx hb dX7_collect_0 rfl (lv_at hl 0 rfl) ?_
  refine lv_iconst (v := nI 1) hx hb dX7_collect_1 (by decide +kernel) ?_
  refine va_put (v := .int (nI 1)) (ty := .boolean) (C := RX7) (T := TX7) (N := 5) hx hb hts (hin_X7 hmc) tyX7 tyX7_ok nmX7 hown E.1.1 hP hD hS 33 h33 rfl 4 (by decide) (hts _ (hmc _ k_200)) (fun _ h9 => h9) rfl (by decide +kernel) rfl rfl (Nat.le_of_ble_eq_true rfl) dX7_collect_2 (fun H locs hP hD hS => ?_)
  obtain ⟨ws1, ews1⟩ : ∃ z, z = List.set ws 33 ((ad 33), .inr (iN2, [.ref (ad 34), .ref (ad 35), .int (nI 0), .int (nI 0), .int (nI 1)])) := ⟨_, rfl⟩
  have hP : va_P D vwCl ws1 H := by rw [ews1]; exact hP
  have hD : va_D A ws1 := by rw [ews1]; exact hD
  have h33 : ws1[33]? = some ((ad 33), .inr (iN2, [.ref (ad 34), .ref (ad 35), .int (nI 0), .int (nI 0), .int (nI 1)])) := by rw [ews1]; exact hset_eq h33
  have h35 := (show ws1[35]? = _ from (by rw [ews1]; exact hset_ne (by omega))).trans h35
  have h36 := (show ws1[36]? = _ from (by rw [ews1]; exact hset_ne (by omega))).trans h36
  have h37 := (show ws1[37]? = _ from (by rw [ews1]; exact hset_ne (by omega))).trans h37
  have hg0 : hAg 33 34 ws ws1 := by rw [ews1]; exact hAg.rf.set (by decide) (by decide)
  refine lv_aload_n hx hb dX7_collect_5 rfl (lv_at hl 0 rfl) ?_
  refine va_get (v := .ref (ad 35)) (C := RX7) (T := TX7) (N := 5) hx hb hts (hin_X7 hmc) hown E.1.1 hP 33 h33 rfl 1 (by decide) (hts _ (hmc _ k_196)) (fun _ h9 => h9) rfl dX7_collect_6 ?_
  refine hc_v E hD hS (va_runV (As := []) (rest := []) ⟨hx, hb, hml, hown, hts⟩ ((c0_soEmpty l D K tv ws1 ad h35) H.size) (cwV 0 hts (hGV hmc k_535 k_536 k_537 k_27 k_538) rfl rfl rfl (by decide +kernel) ⟨Nat.le_of_ble_eq_true rfl, Nat.le_of_ble_eq_true rfl⟩) (hpreV E hP hD hS h35 rfl) rfl rfl hl.1 rfl (lv_room (Nat.le_of_ble_eq_true rfl)) dX7_collect_9 ⟨(Nat.le_refl _), (Nat.le_refl _)⟩) (fun ws2 H locs hp hP hD hS => ?_)
  obtain rfl := hp
  refine lv_aload_n hx hb dX7_collect_12 rfl (lv_at hl 0 rfl) ?_
  refine lv_aload_n hx hb dX7_collect_13 rfl (lv_at hl 1 rfl) ?_
  refine lv_aload_n hx hb dX7_collect_14 rfl (lv_at hl 2 rfl) ?_
  refine lv_aload_n hx hb dX7_collect_15 rfl (lv_at hl 3 rfl) ?_
  refine hc_v E hD hS (va_runV (As := [.ref (ad 31), .ref (ad 6), .ref (ad 1)]) (rest := []) ⟨hx, hb, hml, hown, hts⟩ ((c0_walk1 l D K tv ws1 ad 31 0 0 (Or.inr rfl) (ho.ag hg0 (by omega)) h33 h35 h36) H.size) (cwV 3 hts (hGV hmc k_460 k_462 k_2 k_26 k_463) rfl rfl rfl (by decide +kernel) ⟨Nat.le_of_ble_eq_true rfl, Nat.le_of_ble_eq_true rfl⟩) (hpreV E hP hD hS h33 rfl) rfl rfl hl.1 rfl (lv_room (Nat.le_of_ble_eq_true rfl)) dX7_collect_16 ⟨(Nat.le_refl _), (Nat.le_refl _)⟩) (fun ws3 H locs hp hP hD hS => ?_)
  obtain ⟨hg, h33, h35, f, h36⟩ := hp
  have h37 := (hg.2 37 (by omega)).trans h37
  refine lv_aload_n hx hb dX7_collect_19 rfl (lv_at hl 0 rfl) ?_
  refine va_get (v := .int (nI 0)) (C := RX7) (T := TX7) (N := 5) hx hb hts (hin_X7 hmc) hown E.1.1 hP 33 h33 rfl 3 (by decide) (hts _ (hmc _ k_199)) (fun _ h9 => h9) rfl dX7_collect_20 ?_
  refine lv_sipush (v := nI 20000) hx hb dX7_collect_23 (by decide +kernel) ?_
  refine lv_icmp_le (tgt := 32) hx hb dX7_collect_26 (by decide) (fun c1 => ?_) (fun c1 => ?_)
  · refine lv_aload_n hx hb dX7_collect_32 rfl (lv_at hl 0 rfl) ?_
    refine va_get (v := .ref (ad 35)) (C := RX7) (T := TX7) (N := 5) hx hb hts (hin_X7 hmc) hown E.1.1 hP 33 h33 rfl 1 (by decide) (hts _ (hmc _ k_196)) (fun _ h9 => h9) rfl dX7_collect_33 ?_
    refine hc_v E hD hS (va_runV (As := []) (rest := []) ⟨hx, hb, hml, hown, hts⟩ ((c0_sort l D K tv ws3 ad f (fun _ => 0) h35 h36 h37) H.size) (cwV 0 hts (hGV hmc k_539 k_540 k_541 k_27 k_542) rfl rfl rfl (by decide +kernel) ⟨Nat.le_of_ble_eq_true rfl, Nat.le_of_ble_eq_true rfl⟩) (hpreV E hP hD hS h35 rfl) rfl rfl hl.1 rfl (lv_room (Nat.le_of_ble_eq_true rfl)) dX7_collect_36 ⟨(Nat.le_refl _), (Nat.le_refl _)⟩) (fun ws4 H locs hp hP hD hS => ?_)
    obtain rfl := hp
    refine lv_aload_n hx hb dX7_collect_39 rfl (lv_at hl 0 rfl) ?_
    refine va_get (v := .ref (ad 35)) (C := RX7) (T := TX7) (N := 5) hx hb hts (hin_X7 hmc) hown E.1.1 hP 33 h33 rfl 1 (by decide) (hts _ (hmc _ k_196)) (fun _ h9 => h9) rfl dX7_collect_40 ?_
    refine va_getN (v := .int (nI 1)) (C := RX8) (T := TX8) (N := 3) hx hb hts (hin_X8 hmc) hown E.1.1 hP 35 h35 rfl 2 (by decide) (va_Nw.use rfl (E.1.2.1 _ k_158)) (fun _ h9 => h9) rfl dX7_collect_43 ?_
    subst hAe
    exact W.iret (v := nI 1) hx hb hr (fun t ht _ => ⟨⟨nI 1, ws3, rfl, ⟨rfl, (hg0.wide (by decide) (by decide)).tr hg⟩, by rw [ht]; exact hP, hD⟩, hS.F ht⟩) hS.2.2 dX7_collect_46
  · exact absurd (by decide +kernel) c1


set_option maxHeartbeats 4000000 in
set_option maxRecDepth 100000 in
/-- solutions of a fresh object -/
theorem c_X0_solutions (l : Launch) (D : va_G) (K : Nat → ClassId) (tv : Nat) (ws : va_W) (ad : Nat → Nat) (hs0 : hSt0 K ad ws) : hI l D (hTy K) tv yX0_solutions cX0_solutions 1 (some .int) ({ frames := 5, cells := 0, slots := 0, locals := 300 }) [.ref (ad 0)] ws (fun r _ => r = nI 1) := by
  intro sz
  refine Met.ofW (cc := cX0_solutions) (maxL := 1) (ret := (some .int)) (by decide) rfl ?_
  intro p e s m args below meth c s₁ B hml hv0
  obtain ⟨rfl, rfl, E, hP, hD⟩ := hentry hv0
  have hx := B.exec
  have hb := B.bytes
  have hr := B.returns
  have hts := atoms_spec (ws := hC yX0_solutions cX0_solutions 1 (some .int)) B.pre
  have hown : s.vm.findClass RX0 = some m.cls := findClass_of_methodNamed B.named
  have hlocks := B.notSynchronized
  generalize hAe : va_A ws s.heap.size = A at hD E ⊢
  have hl := lv_entry ([.ref (ad 0)]) (n := 1) (Nat.le_of_ble_eq_true rfl)
  rw [lg_entry_eq]
  generalize (lg_sl ([.ref (ad 0)]) ++ List.replicate (1 - (lg_sl ([.ref (ad 0)])).length) Slot.unset).toArray = ls at hl ⊢
  have hl : lv_has ls 1 [(0, .ref (ad 0))] := hl
  refine hat0 (fun H hHe => ?_)
  have hP : va_P D vwCl ws H := by rw [hHe]; exact hP
  have hS : va_S A s.heap H [] := by rw [hHe]; exact va_S.rf
  obtain ⟨h0, hTr0, hPl0, hPs0, hO26, h28, hO29, hO31, h33, ⟨fq34, h34, hf34⟩, h35, h36, h37, hSp0⟩ := id hs0
  have h1 := hTr0.1
  have h6 := hPl0.1
  obtain ⟨f26, u26, ⟨h26, -⟩, -⟩ := id hO26
  refine lv_aload_n hx hb dX0_solutions_0 rfl (lv_at hl 0 rfl) ?_
  refine va_get (v := .int (-4)) (C := RX0) (T := TX0) (N := 6) hx hb hts (hin_X0 hmc) hown E.1.1 hP 0 h0 rfl 5 (by decide) (hts _ (hmc _ k_217)) (fun _ h9 => h9) rfl dX0_solutions_1 ?_
  refine lv_bipush (v := (-4)) hx hb dX0_solutions_4 (by decide +kernel) ?_
  refine lv_icmp_ne (tgt := 32) hx hb dX0_solutions_6 (by decide) (fun c1 => ?_) (fun c1 => ?_)
  · exact absurd rfl c1
  · refine lv_aload_n hx hb dX0_solutions_9 rfl (lv_at hl 0 rfl) ?_
    refine lv_aload_n hx hb dX0_solutions_10 rfl (lv_at hl 0 rfl) ?_
    refine va_get (v := .ref (ad 33)) (C := RX0) (T := TX0) (N := 6) hx hb hts (hin_X0 hmc) hown E.1.1 hP 0 h0 rfl 4 (by decide) (hts _ (hmc _ k_216)) (fun _ h9 => h9) rfl dX0_solutions_11 ?_
    refine lv_aload_n hx hb dX0_solutions_14 rfl (lv_at hl 0 rfl) ?_
    refine hc_r E hD hS (va_runV (As := []) (rest := [.ref (ad 33), .ref (ad 0)]) ⟨hx, hb, hml, hown, hts⟩ ((c_X0_bestOrder l D K tv ws ad hs0) H.size) (cwV 0 hts (hGV hmc k_382 k_384 k_1 k_20 k_385) rfl rfl rfl (by decide +kernel) ⟨Nat.le_of_ble_eq_true rfl, Nat.le_of_ble_eq_true rfl⟩) (hpreV E hP hD hS h0 rfl) rfl rfl hl.1 rfl (lv_room (Nat.le_of_ble_eq_true rfl)) dX0_solutions_15 ⟨(Nat.le_refl _), (Nat.le_refl _)⟩) (fun r2 ws1 H locs hp hP hD hS => ?_)
    obtain ⟨rfl, hg, hgo, -, hO31, hPl1⟩ := hp
    have h0 := (hg.2 0 (by omega)).trans h0
    have h33 := (hg.2 33 (by omega)).trans h33
    have h35 := (hg.2 35 (by omega)).trans h35
    have h36 := (hg.2 36 (by omega)).trans h36
    have h37 := (hg.2 37 (by omega)).trans h37
    refine lv_aload_n hx hb dX0_solutions_18 rfl (lv_at hl 0 rfl) ?_
    refine va_get (v := .ref (ad 6)) (C := RX0) (T := TX0) (N := 6) hx hb hts (hin_X0 hmc) hown E.1.1 hP 0 h0 rfl 1 (by decide) (hts _ (hmc _ k_213)) (fun _ h9 => h9) rfl dX0_solutions_19 ?_
    refine lv_aload_n hx hb dX0_solutions_22 rfl (lv_at hl 0 rfl) ?_
    refine va_get (v := .ref (ad 1)) (C := RX0) (T := TX0) (N := 6) hx hb hts (hin_X0 hmc) hown E.1.1 hP 0 h0 rfl 0 (by decide) (hts _ (hmc _ k_212)) (fun _ h9 => h9) rfl dX0_solutions_23 ?_
    refine hc_i E hD hS (va_runV (As := [.ref (ad 31), .ref (ad 6), .ref (ad 1)]) (rest := [.ref (ad 0)]) ⟨hx, hb, hml, hown, hts⟩ ((c0_collect l D K tv ws1 ad hO31 h33 h35 h36 h37) H.size) (cwV 3 hts (hGV hmc k_531 k_532 k_533 k_26 k_534) rfl rfl rfl (by decide +kernel) ⟨Nat.le_of_ble_eq_true rfl, Nat.le_of_ble_eq_true rfl⟩) (hpreV E hP hD hS h33 rfl) rfl rfl hl.1 rfl (lv_room (Nat.le_of_ble_eq_true rfl)) dX0_solutions_26 ⟨(Nat.le_refl _), (Nat.le_refl _)⟩) (fun r4 ws3 H locs hp hP hD hS => ?_)
    obtain ⟨rfl, hg2⟩ := hp
    have h0 := (hg2.2 0 (by omega)).trans h0
    refine va_put (v := .int (nI 1)) (ty := .int) (C := RX0) (T := TX0) (N := 6) hx hb hts (hin_X0 hmc) tyX0 tyX0_ok nmX0 hown E.1.1 hP hD hS 0 h0 rfl 5 (by decide) (hts _ (hmc _ k_217)) (fun _ h9 => h9) rfl (by decide +kernel) rfl rfl (Nat.le_of_ble_eq_true rfl) dX0_solutions_29 (fun H locs hP hD hS => ?_)
    obtain ⟨ws5, ews5⟩ : ∃ z, z = List.set ws3 0 ((ad 0), .inr (iJ, [.ref (ad 1), .ref (ad 6), .ref (ad 26), .ref (ad 28), .ref (ad 33), .int (nI 1)])) := ⟨_, rfl⟩
    have hP : va_P D vwCl ws5 H := by rw [ews5]; exact hP
    have hD : va_D A ws5 := by rw [ews5]; exact hD
    have h0 : ws5[0]? = some ((ad 0), .inr (iJ, [.ref (ad 1), .ref (ad 6), .ref (ad 26), .ref (ad 28), .ref (ad 33), .int (nI 1)])) := by rw [ews5]; exact hset_eq h0
    refine lv_aload_n hx hb dX0_solutions_32 rfl (lv_at hl 0 rfl) ?_
    refine va_get (v := .int (nI 1)) (C := RX0) (T := TX0) (N := 6) hx hb hts (hin_X0 hmc) hown E.1.1 hP 0 h0 rfl 5 (by decide) (hts _ (hmc _ k_217)) (fun _ h9 => h9) rfl dX0_solutions_33 ?_
    subst hAe
    exact W.iret (v := nI 1) hx hb hr (fun t ht _ => ⟨⟨nI 1, ws5, rfl, rfl, by rw [ht]; exact hP, hD⟩, hS.F ht⟩) hS.2.2 dX0_solutions_36
