set_option maxHeartbeats 4000000 in
set_option maxRecDepth 100000 in
/-- plan of a fresh object -/
theorem c_X0_plan (l : Launch) (D : va_G) (K : Nat → ClassId) (tv : Nat) (ws : va_W) (ad : Nat → Nat) (hs0 : hSt0 K ad ws) (x : Int32) : hI l D (hTy K) tv yX0_plan cX0_plan 2 (some .int) ({ frames := 1, cells := 0, slots := 0, locals := 60 }) [.ref (ad 0), .int x] ws (fun r _ => r = (-1)) := by
  intro sz
  refine Met.ofW (cc := cX0_plan) (maxL := 2) (ret := (some .int)) (by decide) rfl ?_
  intro p e s m args below meth c s₁ B hml hv0
  obtain ⟨rfl, rfl, E, hP, hD⟩ := hentry hv0
  have hx := B.exec
  have hb := B.bytes
  have hr := B.returns
  have hts := atoms_spec (ws := hC yX0_plan cX0_plan 2 (some .int)) B.pre
  have hown : s.vm.findClass RX0 = some m.cls := findClass_of_methodNamed B.named
  have hlocks := B.notSynchronized
  generalize hAe : va_A ws s.heap.size = A at hD E ⊢
  have hl := lv_entry ([.ref (ad 0), .int x]) (n := 2) (Nat.le_of_ble_eq_true rfl)
  rw [lg_entry_eq]
  generalize (lg_sl ([.ref (ad 0), .int x]) ++ List.replicate (2 - (lg_sl ([.ref (ad 0), .int x])).length) Slot.unset).toArray = ls at hl ⊢
  have hl : lv_has ls 2 [(0, .ref (ad 0)), (1, .int x)] := hl
  refine hat0 (fun H hHe => ?_)
  have hP : va_P D vwCl ws H := by rw [hHe]; exact hP
  have hS : va_S A s.heap H [] := by rw [hHe]; exact va_S.rf
  obtain ⟨h0, hTr0, hPl0, hPs0, hO26, h28, hO29, hO31, h33, ⟨fq34, h34, hf34⟩, h35, h36, h37, hSp0⟩ := id hs0
  have h1 := hTr0.1
  have h6 := hPl0.1
  obtain ⟨f26, u26, ⟨h26, -⟩, -⟩ := id hO26
  refine lv_aload_n hx hb dX0_plan_0 rfl (lv_at hl 0 rfl) ?_
  refine va_get (v := .ref (ad 6)) (C := RX0) (T := TX0) (N := 6) hx hb hts (hin_X0 hmc) hown E.1.1 hP 0 h0 rfl 1 (by decide) (hts _ (hmc _ k_213)) (fun _ h9 => h9) rfl dX0_plan_1 ?_
  refine lv_iload_n hx hb dX0_plan_4 rfl (lv_at hl 1 rfl) ?_
  refine hc_i E hD hS (va_runV (As := [.int x]) (rest := []) ⟨hx, hb, hml, hown, hts⟩ ((c_X3_has l D K tv ws ad 0 0 hPl0 (by decide) x) H.size) (cwV 1 hts (hGV hmc k_316 k_317 k_318 k_22 k_319) rfl rfl rfl (by decide +kernel) ⟨Nat.le_of_ble_eq_true rfl, Nat.le_of_ble_eq_true rfl⟩) (hpreV E hP hD hS h6 rfl) rfl rfl hl.1 rfl (lv_room (Nat.le_of_ble_eq_true rfl)) dX0_plan_5 ⟨(Nat.le_refl _), (Nat.le_refl _)⟩) (fun r2 ws1 H locs hh hP hD hS => ?_)
  obtain ⟨rfl, hh⟩ := hh
  refine lv_if_ne (tgt := 13) hx hb dX0_plan_8 (by decide) (fun c1 => ?_) (fun c1 => ?_)
  · obtain ⟨i, hi, -⟩ := hh.t c1
    omega
  · refine lv_iconst (v := (-1)) hx hb dX0_plan_11 (by decide +kernel) ?_
    subst hAe
    exact W.iret (v := (-1)) hx hb hr (fun t ht _ => ⟨⟨(-1), ws, rfl, rfl, by rw [ht]; exact hP, hD⟩, hS.F ht⟩) hS.2.2 dX0_plan_12


set_option maxHeartbeats 4000000 in
set_option maxRecDepth 100000 in
/-- use of a fresh object -/
theorem c_X0_use (l : Launch) (D : va_G) (K : Nat → ClassId) (tv : Nat) (ws : va_W) (ad : Nat → Nat) (hs0 : hSt0 K ad ws) (x : Int32) : hI l D (hTy K) tv yX0_use cX0_use 2 (some .int) ({ frames := 1, cells := 0, slots := 0, locals := 60 }) [.ref (ad 0), .int x] ws (fun r _ => r = (-1)) := by
  intro sz
  refine Met.ofW (cc := cX0_use) (maxL := 2) (ret := (some .int)) (by decide) rfl ?_
  intro p e s m args below meth c s₁ B hml hv0
  obtain ⟨rfl, rfl, E, hP, hD⟩ := hentry hv0
  have hx := B.exec
  have hb := B.bytes
  have hr := B.returns
  have hts := atoms_spec (ws := hC yX0_use cX0_use 2 (some .int)) B.pre
  have hown : s.vm.findClass RX0 = some m.cls := findClass_of_methodNamed B.named
  have hlocks := B.notSynchronized
  generalize hAe : va_A ws s.heap.size = A at hD E ⊢
  have hl := lv_entry ([.ref (ad 0), .int x]) (n := 2) (Nat.le_of_ble_eq_true rfl)
  rw [lg_entry_eq]
  generalize (lg_sl ([.ref (ad 0), .int x]) ++ List.replicate (2 - (lg_sl ([.ref (ad 0), .int x])).length) Slot.unset).toArray = ls at hl ⊢
  have hl : lv_has ls 2 [(0, .ref (ad 0)), (1, .int x)] := hl
  refine hat0 (fun H hHe => ?_)
  have hP : va_P D vwCl ws H := by rw [hHe]; exact hP
  have hS : va_S A s.heap H [] := by rw [hHe]; exact va_S.rf
  obtain ⟨h0, hTr0, hPl0, hPs0, hO26, h28, hO29, hO31, h33, ⟨fq34, h34, hf34⟩, h35, h36, h37, hSp0⟩ := id hs0
  have h1 := hTr0.1
  have h6 := hPl0.1
  obtain ⟨f26, u26, ⟨h26, -⟩, -⟩ := id hO26
  refine lv_aload_n hx hb dX0_use_0 rfl (lv_at hl 0 rfl) ?_
  refine va_get (v := .ref (ad 6)) (C := RX0) (T := TX0) (N := 6) hx hb hts (hin_X0 hmc) hown E.1.1 hP 0 h0 rfl 1 (by decide) (hts _ (hmc _ k_213)) (fun _ h9 => h9) rfl dX0_use_1 ?_
  refine lv_iload_n hx hb dX0_use_4 rfl (lv_at hl 1 rfl) ?_
  refine hc_i E hD hS (va_runV (As := [.int x]) (rest := []) ⟨hx, hb, hml, hown, hts⟩ ((c_X3_has l D K tv ws ad 0 0 hPl0 (by decide) x) H.size) (cwV 1 hts (hGV hmc k_316 k_317 k_318 k_22 k_319) rfl rfl rfl (by decide +kernel) ⟨Nat.le_of_ble_eq_true rfl, Nat.le_of_ble_eq_true rfl⟩) (hpreV E hP hD hS h6 rfl) rfl rfl hl.1 rfl (lv_room (Nat.le_of_ble_eq_true rfl)) dX0_use_5 ⟨(Nat.le_refl _), (Nat.le_refl _)⟩) (fun r2 ws1 H locs hh hP hD hS => ?_)
  obtain ⟨rfl, hh⟩ := hh
  refine lv_if_eq (tgt := 22) hx hb dX0_use_8 (by decide) (fun c1 => ?_) (fun c1 => ?_)
  · refine lv_iconst (v := (-1)) hx hb dX0_use_22 (by decide +kernel) ?_
    subst hAe
    exact W.iret (v := (-1)) hx hb hr (fun t ht _ => ⟨⟨(-1), ws, rfl, rfl, by rw [ht]; exact hP, hD⟩, hS.F ht⟩) hS.2.2 dX0_use_23
  · obtain ⟨i, hi, -⟩ := hh.t c1
    omega


set_option maxHeartbeats 4000000 in
set_option maxRecDepth 100000 in
/-- drop of a fresh object -/
theorem c_X0_drop (l : Launch) (D : va_G) (K : Nat → ClassId) (tv : Nat) (ws : va_W) (ad : Nat → Nat) (hs0 : hSt0 K ad ws) : hI l D (hTy K) tv yX0_drop cX0_drop 2 (some .int) ({ frames := 1, cells := 0, slots := 0, locals := 60 }) [.ref (ad 0)] ws (fun r _ => r = nI 0) := by
  intro sz
  refine Met.ofW (cc := cX0_drop) (maxL := 2) (ret := (some .int)) (by decide) rfl ?_
  intro p e s m args below meth c s₁ B hml hv0
  obtain ⟨rfl, rfl, E, hP, hD⟩ := hentry hv0
  have hx := B.exec
  have hb := B.bytes
  have hr := B.returns
  have hts := atoms_spec (ws := hC yX0_drop cX0_drop 2 (some .int)) B.pre
  have hown : s.vm.findClass RX0 = some m.cls := findClass_of_methodNamed B.named
  have hlocks := B.notSynchronized
  generalize hAe : va_A ws s.heap.size = A at hD E ⊢
  have hl := lv_entry ([.ref (ad 0)]) (n := 2) (Nat.le_of_ble_eq_true rfl)
  rw [lg_entry_eq]
  generalize (lg_sl ([.ref (ad 0)]) ++ List.replicate (2 - (lg_sl ([.ref (ad 0)])).length) Slot.unset).toArray = ls at hl ⊢
  have hl : lv_has ls 2 [(0, .ref (ad 0))] := hl
  refine hat0 (fun H hHe => ?_)
  have hP : va_P D vwCl ws H := by rw [hHe]; exact hP
  have hS : va_S A s.heap H [] := by rw [hHe]; exact va_S.rf
  obtain ⟨h0, hTr0, hPl0, hPs0, hO26, h28, hO29, hO31, h33, ⟨fq34, h34, hf34⟩, h35, h36, h37, hSp0⟩ := id hs0
  have h1 := hTr0.1
  have h6 := hPl0.1
  obtain ⟨f26, u26, ⟨h26, -⟩, -⟩ := id hO26
  refine lv_aload_n hx hb dX0_drop_0 rfl (lv_at hl 0 rfl) ?_
  refine va_get (v := .ref (ad 26)) (C := RX0) (T := TX0) (N := 6) hx hb hts (hin_X0 hmc) hown E.1.1 hP 0 h0 rfl 2 (by decide) (hts _ (hmc _ k_214)) (fun _ h9 => h9) rfl dX0_drop_1 ?_
  refine va_getN (v := .int (nI ([] : List Nat).length)) (C := RX4) (T := TX4) (N := 3) hx hb hts (hin_X4 hmc) hown E.1.1 hP 26 h26 rfl 1 (by decide) (va_Nw.use rfl (E.1.2.1 _ k_108)) (fun _ h9 => h9) rfl dX0_drop_4 ?_
  refine lv_istore_n (lv' := [(1, .int (nI ([] : List Nat).length)), (0, .ref (ad 0))]) hx hb dX0_drop_7 rfl hl (by decide) rfl (fun ls hl => ?_)
  refine lv_aload_n hx hb dX0_drop_8 rfl (lv_at hl 1 rfl) ?_
  refine va_get (v := .ref (ad 26)) (C := RX0) (T := TX0) (N := 6) hx hb hts (hin_X0 hmc) hown E.1.1 hP 0 h0 rfl 2 (by decide) (hts _ (hmc _ k_214)) (fun _ h9 => h9) rfl dX0_drop_9 ?_
  refine hc_v E hD hS (va_runV (As := []) (rest := []) ⟨hx, hb, hml, hown, hts⟩ ((c_X4_makeEmpty l D K tv ws ad 26 [] hO26) H.size) (cwV 0 hts (hGV hmc k_300 k_301 k_302 k_24 k_303) rfl rfl rfl (by decide +kernel) ⟨Nat.le_of_ble_eq_true rfl, Nat.le_of_ble_eq_true rfl⟩) (hpreV E hP hD hS h26 rfl) rfl rfl hl.1 rfl (lv_room (Nat.le_of_ble_eq_true rfl)) dX0_drop_12 ⟨(Nat.le_refl _), (Nat.le_refl _)⟩) (fun ws1 H locs hp hP hD hS => ?_)
  refine lv_iload_n hx hb dX0_drop_15 rfl (lv_at hl 0 rfl) ?_
  subst hAe
  exact W.iret (v := nI ([] : List Nat).length) hx hb hr (fun t ht _ => ⟨⟨nI ([] : List Nat).length, ws1, rfl, rfl, by rw [ht]; exact hP, hD⟩, hS.F ht⟩) hS.2.2 dX0_drop_16


set_option maxHeartbeats 4000000 in
set_option maxRecDepth 100000 in
/-- size of a fresh object -/
theorem c_X0_size (l : Launch) (D : va_G) (K : Nat → ClassId) (tv : Nat) (ws : va_W) (ad : Nat → Nat) (hs0 : hSt0 K ad ws) (x : Int32) : hL l D (hTy K) tv yX0_size cX0_size 7 (some .long) ({ frames := 0, cells := 0, slots := 0, locals := 0 }) [.ref (ad 0), .int x] ws (fun r _ => r = (-1)) := by
  intro sz
  refine Met.ofW (cc := cX0_size) (maxL := 7) (ret := (some .long)) (by decide) rfl ?_
  intro p e s m args below meth c s₁ B hml hv0
  obtain ⟨rfl, rfl, E, hP, hD⟩ := hentry hv0
  have hx := B.exec
  have hb := B.bytes
  have hr := B.returns
  have hts := atoms_spec (ws := hC yX0_size cX0_size 7 (some .long)) B.pre
  have hown : s.vm.findClass RX0 = some m.cls := findClass_of_methodNamed B.named
  have hlocks := B.notSynchronized
  generalize hAe : va_A ws s.heap.size = A at hD E ⊢
  have hl := lv_entry ([.ref (ad 0), .int x]) (n := 7) (Nat.le_of_ble_eq_true rfl)
  rw [lg_entry_eq]
  generalize (lg_sl ([.ref (ad 0), .int x]) ++ List.replicate (7 - (lg_sl ([.ref (ad 0), .int x])).length) Slot.unset).toArray = ls at hl ⊢
  have hl : lv_has ls 7 [(0, .ref (ad 0)), (1, .int x)] := hl
  refine hat0 (fun H hHe => ?_)
  have hP : va_P D vwCl ws H := by rw [hHe]; exact hP
  have hS : va_S A s.heap H [] := by rw [hHe]; exact va_S.rf
  obtain ⟨h0, hTr0, hPl0, hPs0, hO26, h28, hO29, hO31, h33, ⟨fq34, h34, hf34⟩, h35, h36, h37, hSp0⟩ := id hs0
  have h1 := hTr0.1
  have h6 := hPl0.1
  obtain ⟨f26, u26, ⟨h26, -⟩, -⟩ := id hO26
  refine lv_iload_n hx hb dX0_size_0 rfl (lv_at hl 1 rfl) ?_
  refine lv_iconst (v := nI 1) hx hb dX0_size_1 (by decide +kernel) ?_
  refine lv_icmp_lt (tgt := 16) hx hb dX0_size_2 (by decide) (fun c1 => ?_) (fun c1 => ?_)
  · refine lv_ldc2 (v := (-1)) hx hb hown (hts _ (hmc _ k_449)) dX0_size_16 ?_
    subst hAe
    exact W.lret (v := (-1)) hx hb hr (fun t ht _ => ⟨⟨(-1), ws, rfl, rfl, by rw [ht]; exact hP, hD⟩, hS.F ht⟩) hS.2.2 dX0_size_19
  · refine lv_iload_n hx hb dX0_size_5 rfl (lv_at hl 1 rfl) ?_
    refine lv_aload_n hx hb dX0_size_6 rfl (lv_at hl 0 rfl) ?_
    refine va_get (v := .ref (ad 26)) (C := RX0) (T := TX0) (N := 6) hx hb hts (hin_X0 hmc) hown E.1.1 hP 0 h0 rfl 2 (by decide) (hts _ (hmc _ k_214)) (fun _ h9 => h9) rfl dX0_size_7 ?_
    refine va_getN (v := .int (nI ([] : List Nat).length)) (C := RX4) (T := TX4) (N := 3) hx hb hts (hin_X4 hmc) hown E.1.1 hP 26 h26 rfl 1 (by decide) (va_Nw.use rfl (E.1.2.1 _ k_108)) (fun _ h9 => h9) rfl dX0_size_10 ?_
    refine lv_icmp_le (tgt := 20) hx hb dX0_size_13 (by decide) (fun c2 => ?_) (fun c2 => ?_)
    · exact (hk01 c1 c2).elim
    · refine lv_ldc2 (v := (-1)) hx hb hown (hts _ (hmc _ k_449)) dX0_size_16 ?_
      subst hAe
      exact W.lret (v := (-1)) hx hb hr (fun t ht _ => ⟨⟨(-1), ws, rfl, rfl, by rw [ht]; exact hP, hD⟩, hS.F ht⟩) hS.2.2 dX0_size_19


set_option maxHeartbeats 4000000 in
set_option maxRecDepth 100000 in
/-- value of a fresh object -/
theorem c_X0_value (l : Launch) (D : va_G) (K : Nat → ClassId) (tv : Nat) (ws : va_W) (ad : Nat → Nat) (hs0 : hSt0 K ad ws) (x y : Int32) : hI l D (hTy K) tv yX0_value cX0_value 3 (some .int) ({ frames := 0, cells := 0, slots := 0, locals := 0 }) [.ref (ad 0), .int x, .int y] ws (fun r _ => r = (-1)) := by
  intro sz
  refine Met.ofW (cc := cX0_value) (maxL := 3) (ret := (some .int)) (by decide) rfl ?_
  intro p e s m args below meth c s₁ B hml hv0
  obtain ⟨rfl, rfl, E, hP, hD⟩ := hentry hv0
  have hx := B.exec
  have hb := B.bytes
  have hr := B.returns
  have hts := atoms_spec (ws := hC yX0_value cX0_value 3 (some .int)) B.pre
  have hown : s.vm.findClass RX0 = some m.cls := findClass_of_methodNamed B.named
  have hlocks := B.notSynchronized
  generalize hAe : va_A ws s.heap.size = A at hD E ⊢
  have hl := lv_entry ([.ref (ad 0), .int x, .int y]) (n := 3) (Nat.le_of_ble_eq_true rfl)
  rw [lg_entry_eq]
  generalize (lg_sl ([.ref (ad 0), .int x, .int y]) ++ List.replicate (3 - (lg_sl ([.ref (ad 0), .int x, .int y])).length) Slot.unset).toArray = ls at hl ⊢
  have hl : lv_has ls 3 [(0, .ref (ad 0)), (1, .int x), (2, .int y)] := hl
  refine hat0 (fun H hHe => ?_)
  have hP : va_P D vwCl ws H := by rw [hHe]; exact hP
  have hS : va_S A s.heap H [] := by rw [hHe]; exact va_S.rf
  obtain ⟨h0, hTr0, hPl0, hPs0, hO26, h28, hO29, hO31, h33, ⟨fq34, h34, hf34⟩, h35, h36, h37, hSp0⟩ := id hs0
  have h1 := hTr0.1
  have h6 := hPl0.1
  obtain ⟨f26, u26, ⟨h26, -⟩, -⟩ := id hO26
  refine lv_iload_n hx hb dX0_value_0 rfl (lv_at hl 1 rfl) ?_
  refine lv_if_lt (tgt := 19) hx hb dX0_value_1 (by decide) (fun c1 => ?_) (fun c1 => ?_)
  · refine lv_iconst (v := (-1)) hx hb dX0_value_19 (by decide +kernel) ?_
    subst hAe
    exact W.iret (v := (-1)) hx hb hr (fun t ht _ => ⟨⟨(-1), ws, rfl, rfl, by rw [ht]; exact hP, hD⟩, hS.F ht⟩) hS.2.2 dX0_value_20
  · refine lv_iload_n hx hb dX0_value_4 rfl (lv_at hl 1 rfl) ?_
    refine lv_aload_n hx hb dX0_value_5 rfl (lv_at hl 0 rfl) ?_
    refine va_get (v := .int (-4)) (C := RX0) (T := TX0) (N := 6) hx hb hts (hin_X0 hmc) hown E.1.1 hP 0 h0 rfl 5 (by decide) (hts _ (hmc _ k_217)) (fun _ h9 => h9) rfl dX0_value_6 ?_
    refine lv_icmp_ge (tgt := 19) hx hb dX0_value_9 (by decide) (fun c2 => ?_) (fun c2 => ?_)
    · refine lv_iconst (v := (-1)) hx hb dX0_value_19 (by decide +kernel) ?_
      subst hAe
      exact W.iret (v := (-1)) hx hb hr (fun t ht _ => ⟨⟨(-1), ws, rfl, rfl, by rw [ht]; exact hP, hD⟩, hS.F ht⟩) hS.2.2 dX0_value_20
    · exact (hk4 c1 c2).elim


set_option maxHeartbeats 4000000 in
set_option maxRecDepth 100000 in
/-- measure without patterns -/
theorem c0_measure (l : Launch) (D : va_G) (K : Nat → ClassId) (tv : Nat) (ws : va_W) (ad : Nat → Nat) (hl0 : hPl K ad ws 0 0) : hV l D (hTy K) tv yX3_measure cX3_measure 3 none ({ frames := 0, cells := 0, slots := 0, locals := 0 }) [.ref (ad 6), .ref (ad 1)] ws (fun ws1 => hAg 6 7 ws ws1 ∧ hPl K ad ws1 0 1) := by
  intro sz
  refine Met.ofW (cc := cX3_measure) (maxL := 3) (ret := none) (by decide) rfl ?_
  intro p e s m args below meth c s₁ B hml hv0
  obtain ⟨rfl, rfl, E, hP, hD⟩ := hentry hv0
  have hx := B.exec
  have hb := B.bytes
  have hr := B.returns
  have hts := atoms_spec (ws := hC yX3_measure cX3_measure 3 none) B.pre
  have hown : s.vm.findClass RX3 = some m.cls := findClass_of_methodNamed B.named
  have hlocks := B.notSynchronized
  generalize hAe : va_A ws s.heap.size = A at hD E ⊢
  have hl := lv_entry ([.ref (ad 6), .ref (ad 1)]) (n := 3) (Nat.le_of_ble_eq_true rfl)
  rw [lg_entry_eq]
  generalize (lg_sl ([.ref (ad 6), .ref (ad 1)]) ++ List.replicate (3 - (lg_sl ([.ref (ad 6), .ref (ad 1)])).length) Slot.unset).toArray = ls at hl ⊢
  have hl : lv_has ls 3 [(0, .ref (ad 6)), (1, .ref (ad 1))] := hl
  refine hat0 (fun H hHe => ?_)
  have hP : va_P D vwCl ws H := by rw [hHe]; exact hP
  have hS : va_S A s.heap H [] := by rw [hHe]; exact va_S.rf
  obtain ⟨h6, fq, h7, hfq⟩ := id hl0
  refine lv_aload_n hx hb dX3_measure_0 rfl (lv_at hl 0 rfl) ?_
  refine va_get (v := .int (nI 0)) (C := RX3) (T := TX3) (N := 3) hx hb hts (hin_X3 hmc) hown E.1.1 hP 6 h6 rfl 2 (by decide) (hts _ (hmc _ k_90)) (fun _ h9 => h9) rfl dX3_measure_1 ?_
  refine lv_if_eq (tgt := 8) hx hb dX3_measure_4 (by decide) (fun c1 => ?_) (fun c1 => ?_)
  · refine lv_iconst (v := nI 0) hx hb dX3_measure_8 (by decide +kernel) ?_
    refine lv_istore_n (lv' := [(2, .int (nI 0)), (0, .ref (ad 6)), (1, .ref (ad 1))]) hx hb dX3_measure_9 rfl hl (by decide) rfl (fun ls hl => ?_)
    refine lv_iload_n hx hb dX3_measure_10 rfl (lv_at hl 0 rfl) ?_
    refine lv_aload_n hx hb dX3_measure_11 rfl (lv_at hl 1 rfl) ?_
    refine va_get (v := .int (nI 0)) (C := RX3) (T := TX3) (N := 3) hx hb hts (hin_X3 hmc) hown E.1.1 hP 6 h6 rfl 1 (by decide) (hts _ (hmc _ k_87)) (fun _ h9 => h9) rfl dX3_measure_12 ?_
    refine lv_icmp_ge (tgt := 34) hx hb dX3_measure_15 (by decide) (fun c2 => ?_) (fun c2 => ?_)
    · refine lv_aload_n hx hb dX3_measure_34 rfl (lv_at hl 1 rfl) ?_
      refine lv_iconst (v := nI 1) hx hb dX3_measure_35 (by decide +kernel) ?_
      refine va_put (v := .int (nI 1)) (ty := .boolean) (C := RX3) (T := TX3) (N := 3) hx hb hts (hin_X3 hmc) tyX3 tyX3_ok nmX3 hown E.1.1 hP hD hS 6 h6 rfl 2 (by decide) (hts _ (hmc _ k_90)) (fun _ h9 => h9) rfl (by decide +kernel) rfl rfl (Nat.le_of_ble_eq_true rfl) dX3_measure_36 (fun H locs hP hD hS => ?_)
      obtain ⟨ws1, ews1⟩ : ∃ z, z = List.set ws 6 ((ad 6), .inr (iL, [.ref (ad 7), .int (nI 0), .int (nI 1)])) := ⟨_, rfl⟩
      have hP : va_P D vwCl ws1 H := by rw [ews1]; exact hP
      have hD : va_D A ws1 := by rw [ews1]; exact hD
      have h6 : ws1[6]? = some ((ad 6), .inr (iL, [.ref (ad 7), .int (nI 0), .int (nI 1)])) := by rw [ews1]; exact hset_eq h6
      have h7 := (show ws1[7]? = _ from (by rw [ews1]; exact hset_ne (by omega))).trans h7
      subst hAe
      exact W.vret hx hb hr (fun t ht _ => ⟨⟨ws1, rfl, ⟨by rw [ews1]; exact hAg.rf.set (by decide) (by decide), h6, fq, h7, hfq⟩, by rw [ht]; exact hP, hD⟩, hS.F ht⟩) hS.2.2 dX3_measure_39
    · exact absurd (by decide +kernel) c2
  · exact absurd rfl c1


set_option maxHeartbeats 4000000 in
set_option maxRecDepth 100000 in
/-- search without patterns -/
theorem c0_search (l : Launch) (D : va_G) (K : Nat → ClassId) (tv : Nat) (ws : va_W) (ad : Nat → Nat) (ms lc rd : Nat) (hl0 : hPl K ad ws 0 ms) (h28 : ws[28]? = some (hNc ad lc rd)) (hO29 : hOrd K ad ws 29 []) (hO31 : hOrd K ad ws 31 []) : hV l D (hTy K) tv yX5_search cX5_search 14 none ({ frames := 2, cells := 0, slots := 0, locals := 120 }) [.ref (ad 28), .ref (ad 6), .int (nI 0), .int (nI 0), .long (lN 1), .long (lN 0)] ws (fun ws1 => hAg 28 33 ws ws1 ∧ ws1[28]? = some (hNc ad 0 rd) ∧ hOrd K ad ws1 31 []) := by
  intro sz
  refine Met.ofW (cc := cX5_search) (maxL := 14) (ret := none) (by decide) rfl ?_
  intro p e s m args below meth c s₁ B hml hv0
  obtain ⟨rfl, rfl, E, hP, hD⟩ := hentry hv0
  have hx := B.exec
  have hb := B.bytes
  have hr := B.returns
  have hts := atoms_spec (ws := hC yX5_search cX5_search 14 none) B.pre
  have hown : s.vm.findClass RX5 = some m.cls := findClass_of_methodNamed B.named
  have hlocks := B.notSynchronized
  generalize hAe : va_A ws s.heap.size = A at hD E ⊢
  have hl := lv_entry ([.ref (ad 28), .ref (ad 6), .int (nI 0), .int (nI 0), .long (lN 1), .long (lN 0)]) (n := 14) (Nat.le_of_ble_eq_true rfl)
  rw [lg_entry_eq]
  generalize (lg_sl ([.ref (ad 28), .ref (ad 6), .int (nI 0), .int (nI 0), .long (lN 1), .long (lN 0)]) ++ List.replicate (14 - (lg_sl ([.ref (ad 28), .ref (ad 6), .int (nI 0), .int (nI 0), .long (lN 1), .long (lN 0)])).length) Slot.unset).toArray = ls at hl ⊢
  have hl : lv_has ls 14 [(0, .ref (ad 28)), (1, .ref (ad 6)), (2, .int (nI 0)), (3, .int (nI 0)), (4, .long (lN 1)), (6, .long (lN 0))] := hl
  refine hat0 (fun H hHe => ?_)
  have hP : va_P D vwCl ws H := by rw [hHe]; exact hP
  have hS : va_S A s.heap H [] := by rw [hHe]; exact va_S.rf
  have h6 := hl0.1
  obtain ⟨f29, u29, ⟨h29, -⟩, -⟩ := id hO29
  obtain ⟨f31, u31, ⟨h31, -⟩, -⟩ := id hO31
  refine lv_iload_n hx hb dX5_search_0 rfl (lv_at hl 2 rfl) ?_
  refine lv_aload_n hx hb dX5_search_1 rfl (lv_at hl 1 rfl) ?_
  refine va_getN (v := .int (nI 0)) (C := RX3) (T := TX3) (N := 3) hx hb hts (hin_X3 hmc) hown E.1.1 hP 6 h6 rfl 1 (by decide) (va_Nw.use rfl (E.1.2.1 _ k_88)) (fun _ h9 => h9) rfl dX5_search_2 ?_
  refine lv_icmp_lt (tgt := 26) hx hb dX5_search_5 (by decide) (fun c1 => ?_) (fun c1 => ?_)
  · exact absurd c1 (by decide +kernel)
  · refine lv_aload_n hx hb dX5_search_8 rfl (lv_at hl 0 rfl) ?_
    refine lv_lload hx hb dX5_search_9 (lv_at hl 5 rfl) ?_
    refine va_put (v := .long (lN 0)) (ty := .long) (C := RX5) (T := TX5) (N := 4) hx hb hts (hin_X5 hmc) tyX5 tyX5_ok nmX5 hown E.1.1 hP hD hS 28 h28 rfl 2 (by decide) (hts _ (hmc _ k_128)) (fun _ h9 => h9) rfl (by decide +kernel) rfl rfl (Nat.le_of_ble_eq_true rfl) dX5_search_11 (fun H locs hP hD hS => ?_)
    obtain ⟨ws1, ews1⟩ : ∃ z, z = List.set ws 28 ((ad 28), .inr (iN, [.ref (ad 29), .ref (ad 31), .long (lN 0), .int (nI rd)])) := ⟨_, rfl⟩
    have hP : va_P D vwCl ws1 H := by rw [ews1]; exact hP
    have hD : va_D A ws1 := by rw [ews1]; exact hD
    have h6 := (show ws1[6]? = _ from (by rw [ews1]; exact hset_ne (by omega))).trans h6
    have h28 : ws1[28]? = some ((ad 28), .inr (iN, [.ref (ad 29), .ref (ad 31), .long (lN 0), .int (nI rd)])) := by rw [ews1]; exact hset_eq h28
    have h29 := (show ws1[29]? = _ from (by rw [ews1]; exact hset_ne (by omega))).trans h29
    have h31 := (show ws1[31]? = _ from (by rw [ews1]; exact hset_ne (by omega))).trans h31
    have hg1 : hAg 28 29 ws ws1 := by rw [ews1]; exact hAg.rf.set (by decide) (by decide)
    refine lv_aload_n hx hb dX5_search_14 rfl (lv_at hl 0 rfl) ?_
    refine va_get (v := .ref (ad 31)) (C := RX5) (T := TX5) (N := 4) hx hb hts (hin_X5 hmc) hown E.1.1 hP 28 h28 rfl 1 (by decide) (hts _ (hmc _ k_126)) (fun _ h9 => h9) rfl dX5_search_15 ?_
    refine lv_aload_n hx hb dX5_search_18 rfl (lv_at hl 0 rfl) ?_
    refine va_get (v := .ref (ad 29)) (C := RX5) (T := TX5) (N := 4) hx hb hts (hin_X5 hmc) hown E.1.1 hP 28 h28 rfl 0 (by decide) (hts _ (hmc _ k_125)) (fun _ h9 => h9) rfl dX5_search_19 ?_
    refine hc_v E hD hS (va_runV (As := [.ref (ad 29)]) (rest := []) ⟨hx, hb, hml, hown, hts⟩ ((c_X4_copy l D K tv ws1 ad 31 [] (hO31.ag hg1 (by omega)) 29 [] (hO29.ag hg1 (by omega)) (by omega)) H.size) (cwV 1 hts (hGV hmc k_395 k_396 k_397 k_24 k_398) rfl rfl rfl (by decide +kernel) ⟨Nat.le_of_ble_eq_true rfl, Nat.le_of_ble_eq_true rfl⟩) (hpreV E hP hD hS h31 rfl) rfl rfl hl.1 rfl (lv_room (Nat.le_of_ble_eq_true rfl)) dX5_search_22 ⟨(Nat.le_refl _), (Nat.le_refl _)⟩) (fun ws2 H locs hp hP hD hS => ?_)
    obtain ⟨hg2, hO3⟩ := hp
    subst hAe
    exact W.vret hx hb hr (fun t ht _ => ⟨⟨ws2, rfl, ⟨(hg1.wide (by decide) (by decide)).tr (hg2.wide (by decide) (by decide)), (hg2.2 28 (by omega)).trans h28, hO3⟩, by rw [ht]; exact hP, hD⟩, hS.F ht⟩) hS.2.2 dX5_search_25

