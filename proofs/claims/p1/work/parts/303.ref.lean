set_option maxHeartbeats 4000000 in
set_option maxRecDepth 100000 in
/-- the reference, fresh: use -/
theorem c_X9_use (l : Launch) (D : va_G) (K : Nat → ClassId) (tv : Nat) (ws : va_W) (ad : Nat → Nat) (hm : hMs K ad ws 0 0 (-2)) (x : Int32) : hI l D (hTy K) tv yX9_use cX9_use 3 (some .int) ({ frames := 1, cells := 0, slots := 0, locals := 60 }) [.ref (ad 0), .int x] ws (fun r _ => r = (-1)) := by
  intro sz
  refine Met.ofW (cc := cX9_use) (maxL := 3) (ret := (some .int)) (by decide) rfl ?_
  intro p e s m args below meth c s₁ B hml hv0
  obtain ⟨rfl, rfl, E, hP, hD⟩ := hentry hv0
  have hx := B.exec
  have hb := B.bytes
  have hr := B.returns
  have hts := atoms_spec (ws := hC yX9_use cX9_use 3 (some .int)) B.pre
  have hown : s.vm.findClass RX9 = some m.cls := findClass_of_methodNamed B.named
  have hlocks := B.notSynchronized
  generalize hAe : va_A ws s.heap.size = A at hD E ⊢
  have hl := lv_entry ([.ref (ad 0), .int x]) (n := 3) (Nat.le_of_ble_eq_true rfl)
  rw [lg_entry_eq]
  generalize (lg_sl ([.ref (ad 0), .int x]) ++ List.replicate (3 - (lg_sl ([.ref (ad 0), .int x])).length) Slot.unset).toArray = ls at hl ⊢
  have hl : lv_has ls 3 [(0, .ref (ad 0)), (1, .int x)] := hl
  refine hat0 (fun H hHe => ?_)
  have hP : va_P D vwCl ws H := by rw [hHe]; exact hP
  have hS : va_S A s.heap H [] := by rw [hHe]; exact va_S.rf
  obtain ⟨g0, ⟨f1, g1⟩, ⟨f2, g2⟩, ⟨f3, g3⟩, ⟨f4, g4⟩, ⟨f5, g5⟩, ⟨f6, g6⟩, ⟨f7, g7⟩, ⟨f8, g8, z8⟩, ⟨f9, g9⟩, ⟨f10, g10⟩, ⟨f11, g11, z11⟩, ⟨f12, g12, z12⟩⟩ := id hm
  refine lv_aload_n hx hb dX9_use_0 rfl (lv_at hl 0 rfl) ?_
  refine lv_iload_n hx hb dX9_use_1 rfl (lv_at hl 1 rfl) ?_
  refine hc_i E hD hS (va_runV (As := [.int x]) (rest := []) ⟨hx, hb, hml, hown, hts⟩ ((c_X9_isPattern l D K tv ws ad hm x) H.size) (cwV 1 hts (hGV hmc k_658 k_660 k_5 k_29 k_661) rfl rfl rfl (by decide +kernel) ⟨Nat.le_of_ble_eq_true rfl, Nat.le_of_ble_eq_true rfl⟩) (hpreV E hP hD hS g0 rfl) rfl rfl hl.1 rfl (lv_room (Nat.le_of_ble_eq_true rfl)) dX9_use_2 ⟨(Nat.le_refl _), (Nat.le_refl _)⟩) (fun r2 ws1 H locs hh hP hD hS => ?_)
  obtain ⟨rfl, rfl⟩ := hh
  refine lv_if_ne (tgt := 10) hx hb dX9_use_5 (by decide) (fun c1 => ?_) (fun c1 => ?_)
  · first | exact absurd c1 (by decide +kernel) | exact absurd (by decide +kernel) c1
  · refine lv_iconst (v := (-1)) hx hb dX9_use_8 (by decide +kernel) ?_
    subst hAe
    exact W.iret (v := (-1)) hx hb hr (fun t ht _ => ⟨⟨(-1), ws, rfl, rfl, by rw [ht]; exact hP, hD⟩, hS.F ht⟩) hS.2.2 dX9_use_9


set_option maxHeartbeats 4000000 in
set_option maxRecDepth 100000 in
/-- the reference, fresh: drop -/
theorem c_X9_drop (l : Launch) (D : va_G) (K : Nat → ClassId) (tv : Nat) (ws : va_W) (ad : Nat → Nat) (hm : hMs K ad ws 0 0 (-2)) : hI l D (hTy K) tv yX9_drop cX9_drop 2 (some .int) ({ frames := 0, cells := 0, slots := 0, locals := 0 }) [.ref (ad 0)] ws (fun r _ => r = nI 0) := by
  intro sz
  refine Met.ofW (cc := cX9_drop) (maxL := 2) (ret := (some .int)) (by decide) rfl ?_
  intro p e s m args below meth c s₁ B hml hv0
  obtain ⟨rfl, rfl, E, hP, hD⟩ := hentry hv0
  have hx := B.exec
  have hb := B.bytes
  have hr := B.returns
  have hts := atoms_spec (ws := hC yX9_drop cX9_drop 2 (some .int)) B.pre
  have hown : s.vm.findClass RX9 = some m.cls := findClass_of_methodNamed B.named
  have hlocks := B.notSynchronized
  generalize hAe : va_A ws s.heap.size = A at hD E ⊢
  have hl := lv_entry ([.ref (ad 0)]) (n := 2) (Nat.le_of_ble_eq_true rfl)
  rw [lg_entry_eq]
  generalize (lg_sl ([.ref (ad 0)]) ++ List.replicate (2 - (lg_sl ([.ref (ad 0)])).length) Slot.unset).toArray = ls at hl ⊢
  have hl : lv_has ls 2 [(0, .ref (ad 0))] := hl
  refine hat0 (fun H hHe => ?_)
  have hP : va_P D vwCl ws H := by rw [hHe]; exact hP
  have hS : va_S A s.heap H [] := by rw [hHe]; exact va_S.rf
  obtain ⟨g0, ⟨f1, g1⟩, ⟨f2, g2⟩, ⟨f3, g3⟩, ⟨f4, g4⟩, ⟨f5, g5⟩, ⟨f6, g6⟩, ⟨f7, g7⟩, ⟨f8, g8, z8⟩, ⟨f9, g9⟩, ⟨f10, g10⟩, ⟨f11, g11, z11⟩, ⟨f12, g12, z12⟩⟩ := id hm
  refine lv_aload_n hx hb dX9_drop_0 rfl (lv_at hl 0 rfl) ?_
  refine va_get (v := .int (nI 0)) (C := RX9) (T := TX9) (N := 18) hx hb hts (hin_X9 hmc) hown E.1.1 hP 0 g0 rfl 5 (by decide) (hts _ (hmc _ k_574)) (fun _ h9 => h9) rfl dX9_drop_1 ?_
  refine lv_istore_n (lv' := [(1, .int (nI 0)), (0, .ref (ad 0))]) hx hb dX9_drop_4 rfl hl (by decide) rfl (fun ls hl => ?_)
  refine lv_aload_n hx hb dX9_drop_5 rfl (lv_at hl 1 rfl) ?_
  refine lv_iconst (v := nI 0) hx hb dX9_drop_6 (by decide +kernel) ?_
  refine va_put (v := .int (nI 0)) (ty := .int) (C := RX9) (T := TX9) (N := 18) hx hb hts (hin_X9 hmc) tyX9 tyX9_ok nmX9 hown E.1.1 hP hD hS 0 g0 rfl 5 (by decide) (hts _ (hmc _ k_574)) (fun _ h9 => h9) rfl (by decide +kernel) rfl rfl (Nat.le_of_ble_eq_true rfl) dX9_drop_7 (fun H locs hP hD hS => ?_)
  have hP : va_P D vwCl ws H := by rw [← hset_same g0]; exact hP
  have hD : va_D A ws := by rw [← hset_same g0]; exact hD
  refine lv_iload_n hx hb dX9_drop_10 rfl (lv_at hl 0 rfl) ?_
  subst hAe
  exact W.iret (v := nI 0) hx hb hr (fun t ht _ => ⟨⟨nI 0, ws, rfl, rfl, by rw [ht]; exact hP, hD⟩, hS.F ht⟩) hS.2.2 dX9_drop_11


set_option maxHeartbeats 4000000 in
set_option maxRecDepth 100000 in
/-- the reference, fresh: size -/
theorem c_X9_size (l : Launch) (D : va_G) (K : Nat → ClassId) (tv : Nat) (ws : va_W) (ad : Nat → Nat) (hm : hMs K ad ws 0 0 (-2)) (x : Int32) : hL l D (hTy K) tv yX9_size cX9_size 6 (some .long) ({ frames := 0, cells := 0, slots := 0, locals := 0 }) [.ref (ad 0), .int x] ws (fun r _ => r = (-1)) := by
  intro sz
  refine Met.ofW (cc := cX9_size) (maxL := 6) (ret := (some .long)) (by decide) rfl ?_
  intro p e s m args below meth c s₁ B hml hv0
  obtain ⟨rfl, rfl, E, hP, hD⟩ := hentry hv0
  have hx := B.exec
  have hb := B.bytes
  have hr := B.returns
  have hts := atoms_spec (ws := hC yX9_size cX9_size 6 (some .long)) B.pre
  have hown : s.vm.findClass RX9 = some m.cls := findClass_of_methodNamed B.named
  have hlocks := B.notSynchronized
  generalize hAe : va_A ws s.heap.size = A at hD E ⊢
  have hl := lv_entry ([.ref (ad 0), .int x]) (n := 6) (Nat.le_of_ble_eq_true rfl)
  rw [lg_entry_eq]
  generalize (lg_sl ([.ref (ad 0), .int x]) ++ List.replicate (6 - (lg_sl ([.ref (ad 0), .int x])).length) Slot.unset).toArray = ls at hl ⊢
  have hl : lv_has ls 6 [(0, .ref (ad 0)), (1, .int x)] := hl
  refine hat0 (fun H hHe => ?_)
  have hP : va_P D vwCl ws H := by rw [hHe]; exact hP
  have hS : va_S A s.heap H [] := by rw [hHe]; exact va_S.rf
  obtain ⟨g0, ⟨f1, g1⟩, ⟨f2, g2⟩, ⟨f3, g3⟩, ⟨f4, g4⟩, ⟨f5, g5⟩, ⟨f6, g6⟩, ⟨f7, g7⟩, ⟨f8, g8, z8⟩, ⟨f9, g9⟩, ⟨f10, g10⟩, ⟨f11, g11, z11⟩, ⟨f12, g12, z12⟩⟩ := id hm
  refine lv_iload_n hx hb dX9_size_0 rfl (lv_at hl 1 rfl) ?_
  refine lv_iconst (v := nI 1) hx hb dX9_size_1 (by decide +kernel) ?_
  refine lv_icmp_lt (tgt := 13) hx hb dX9_size_2 (by decide) (fun c1 => ?_) (fun c1 => ?_)
  · refine lv_ldc2 (v := (-1)) hx hb hown (hts _ (hmc _ k_681)) dX9_size_13 ?_
    subst hAe
    exact W.lret (v := (-1)) hx hb hr (fun t ht _ => ⟨⟨(-1), ws, rfl, rfl, by rw [ht]; exact hP, hD⟩, hS.F ht⟩) hS.2.2 dX9_size_16
  · refine lv_iload_n hx hb dX9_size_5 rfl (lv_at hl 1 rfl) ?_
    refine lv_aload_n hx hb dX9_size_6 rfl (lv_at hl 0 rfl) ?_
    refine va_get (v := .int (nI 0)) (C := RX9) (T := TX9) (N := 18) hx hb hts (hin_X9 hmc) hown E.1.1 hP 0 g0 rfl 5 (by decide) (hts _ (hmc _ k_574)) (fun _ h9 => h9) rfl dX9_size_7 ?_
    refine lv_icmp_le (tgt := 17) hx hb dX9_size_10 (by decide) (fun c2 => ?_) (fun c2 => ?_)
    · exact (hk01 c1 c2).elim
    · refine lv_ldc2 (v := (-1)) hx hb hown (hts _ (hmc _ k_681)) dX9_size_13 ?_
      subst hAe
      exact W.lret (v := (-1)) hx hb hr (fun t ht _ => ⟨⟨(-1), ws, rfl, rfl, by rw [ht]; exact hP, hD⟩, hS.F ht⟩) hS.2.2 dX9_size_16


set_option maxHeartbeats 4000000 in
set_option maxRecDepth 100000 in
/-- the reference, fresh: value -/
theorem c_X9_value (l : Launch) (D : va_G) (K : Nat → ClassId) (tv : Nat) (ws : va_W) (ad : Nat → Nat) (hm : hMs K ad ws 0 0 (-2)) (x y : Int32) : hI l D (hTy K) tv yX9_value cX9_value 5 (some .int) ({ frames := 0, cells := 0, slots := 0, locals := 0 }) [.ref (ad 0), .int x, .int y] ws (fun r _ => r = (-1)) := by
  intro sz
  refine Met.ofW (cc := cX9_value) (maxL := 5) (ret := (some .int)) (by decide) rfl ?_
  intro p e s m args below meth c s₁ B hml hv0
  obtain ⟨rfl, rfl, E, hP, hD⟩ := hentry hv0
  have hx := B.exec
  have hb := B.bytes
  have hr := B.returns
  have hts := atoms_spec (ws := hC yX9_value cX9_value 5 (some .int)) B.pre
  have hown : s.vm.findClass RX9 = some m.cls := findClass_of_methodNamed B.named
  have hlocks := B.notSynchronized
  generalize hAe : va_A ws s.heap.size = A at hD E ⊢
  have hl := lv_entry ([.ref (ad 0), .int x, .int y]) (n := 5) (Nat.le_of_ble_eq_true rfl)
  rw [lg_entry_eq]
  generalize (lg_sl ([.ref (ad 0), .int x, .int y]) ++ List.replicate (5 - (lg_sl ([.ref (ad 0), .int x, .int y])).length) Slot.unset).toArray = ls at hl ⊢
  have hl : lv_has ls 5 [(0, .ref (ad 0)), (1, .int x), (2, .int y)] := hl
  refine hat0 (fun H hHe => ?_)
  have hP : va_P D vwCl ws H := by rw [hHe]; exact hP
  have hS : va_S A s.heap H [] := by rw [hHe]; exact va_S.rf
  obtain ⟨g0, ⟨f1, g1⟩, ⟨f2, g2⟩, ⟨f3, g3⟩, ⟨f4, g4⟩, ⟨f5, g5⟩, ⟨f6, g6⟩, ⟨f7, g7⟩, ⟨f8, g8, z8⟩, ⟨f9, g9⟩, ⟨f10, g10⟩, ⟨f11, g11, z11⟩, ⟨f12, g12, z12⟩⟩ := id hm
  refine lv_iload_n hx hb dX9_value_0 rfl (lv_at hl 1 rfl) ?_
  refine lv_if_lt (tgt := 22) hx hb dX9_value_1 (by decide) (fun c1 => ?_) (fun c1 => ?_)
  · refine lv_iconst (v := (-1)) hx hb dX9_value_22 (by decide +kernel) ?_
    subst hAe
    exact W.iret (v := (-1)) hx hb hr (fun t ht _ => ⟨⟨(-1), ws, rfl, rfl, by rw [ht]; exact hP, hD⟩, hS.F ht⟩) hS.2.2 dX9_value_23
  · refine lv_iload_n hx hb dX9_value_4 rfl (lv_at hl 1 rfl) ?_
    refine lv_aload_n hx hb dX9_value_5 rfl (lv_at hl 0 rfl) ?_
    refine va_get (v := .int (-2)) (C := RX9) (T := TX9) (N := 18) hx hb hts (hin_X9 hmc) hown E.1.1 hP 0 g0 rfl 15 (by decide) (hts _ (hmc _ k_584)) (fun _ h9 => h9) rfl dX9_value_6 ?_
    refine lv_icmp_ge (tgt := 22) hx hb dX9_value_9 (by decide) (fun c2 => ?_) (fun c2 => ?_)
    · refine lv_iconst (v := (-1)) hx hb dX9_value_22 (by decide +kernel) ?_
      subst hAe
      exact W.iret (v := (-1)) hx hb hr (fun t ht _ => ⟨⟨(-1), ws, rfl, rfl, by rw [ht]; exact hP, hD⟩, hS.F ht⟩) hS.2.2 dX9_value_23
    · exact (hk2 c1 c2).elim


set_option maxHeartbeats 4000000 in
set_option maxRecDepth 100000 in
/-- the reference, fresh: costOf -/
theorem c_X9_costOf (l : Launch) (D : va_G) (K : Nat → ClassId) (tv : Nat) (ws : va_W) (ad : Nat → Nat) (lz : Int64) (kp : Nat) (fd : Int32) (hm : hMs K ad ws lz kp fd) : hL l D (hTy K) tv yX9_costOf cX9_costOf 8 (some .long) ({ frames := 0, cells := 0, slots := 0, locals := 0 }) [.ref (ad 0), .ref (ad 5)] ws (fun r ws1 => ws = ws1 ∧ r = lN 0) := by
  intro sz
  refine Met.ofW (cc := cX9_costOf) (maxL := 8) (ret := (some .long)) (by decide) rfl ?_
  intro p e s m args below meth c s₁ B hml hv0
  obtain ⟨rfl, rfl, E, hP, hD⟩ := hentry hv0
  have hx := B.exec
  have hb := B.bytes
  have hr := B.returns
  have hts := atoms_spec (ws := hC yX9_costOf cX9_costOf 8 (some .long)) B.pre
  have hown : s.vm.findClass RX9 = some m.cls := findClass_of_methodNamed B.named
  have hlocks := B.notSynchronized
  generalize hAe : va_A ws s.heap.size = A at hD E ⊢
  have hl := lv_entry ([.ref (ad 0), .ref (ad 5)]) (n := 8) (Nat.le_of_ble_eq_true rfl)
  rw [lg_entry_eq]
  generalize (lg_sl ([.ref (ad 0), .ref (ad 5)]) ++ List.replicate (8 - (lg_sl ([.ref (ad 0), .ref (ad 5)])).length) Slot.unset).toArray = ls at hl ⊢
  have hl : lv_has ls 8 [(0, .ref (ad 0)), (1, .ref (ad 5))] := hl
  refine hat0 (fun H hHe => ?_)
  have hP : va_P D vwCl ws H := by rw [hHe]; exact hP
  have hS : va_S A s.heap H [] := by rw [hHe]; exact va_S.rf
  obtain ⟨g0, ⟨f1, g1⟩, ⟨f2, g2⟩, ⟨f3, g3⟩, ⟨f4, g4⟩, ⟨f5, g5⟩, ⟨f6, g6⟩, ⟨f7, g7⟩, ⟨f8, g8, z8⟩, ⟨f9, g9⟩, ⟨f10, g10⟩, ⟨f11, g11, z11⟩, ⟨f12, g12, z12⟩⟩ := id hm
  refine lv_lconst (v := lN 1) hx hb dX9_costOf_0 (by decide +kernel) ?_
  refine lv_lstore_n (lv' := [(2, .long (lN 1)), (0, .ref (ad 0)), (1, .ref (ad 5))]) hx hb dX9_costOf_1 rfl hl (by decide) rfl (fun ls hl => ?_)
  refine lv_lconst (v := lN 0) hx hb dX9_costOf_2 (by decide +kernel) ?_
  refine lv_lstore (lv' := [(4, .long (lN 0)), (2, .long (lN 1)), (0, .ref (ad 0)), (1, .ref (ad 5))]) hx hb dX9_costOf_3 hl (by decide) rfl (fun ls hl => ?_)
  refine lv_iconst (v := nI 0) hx hb dX9_costOf_5 (by decide +kernel) ?_
  refine lv_istore (lv' := [(6, .int (nI 0)), (4, .long (lN 0)), (2, .long (lN 1)), (0, .ref (ad 0)), (1, .ref (ad 5))]) hx hb dX9_costOf_6 hl (by decide) rfl (fun ls hl => ?_)
  refine lv_iconst (v := nI 0) hx hb dX9_costOf_8 (by decide +kernel) ?_
  refine lv_istore (lv' := [(7, .int (nI 0)), (6, .int (nI 0)), (4, .long (lN 0)), (2, .long (lN 1)), (0, .ref (ad 0)), (1, .ref (ad 5))]) hx hb dX9_costOf_9 hl (by decide) rfl (fun ls hl => ?_)
  refine lv_iload hx hb dX9_costOf_11 (lv_at hl 0 rfl) ?_
  refine lv_aload_n hx hb dX9_costOf_13 rfl (lv_at hl 4 rfl) ?_
  refine va_get (v := .int (nI 0)) (C := RX9) (T := TX9) (N := 18) hx hb hts (hin_X9 hmc) hown E.1.1 hP 0 g0 rfl 3 (by decide) (hts _ (hmc _ k_572)) (fun _ h9 => h9) rfl dX9_costOf_14 ?_
  refine lv_icmp_ge (tgt := 78) hx hb dX9_costOf_17 (by decide) (fun c1 => ?_) (fun c1 => ?_)
  · refine lv_lload hx hb dX9_costOf_78 (lv_at hl 2 rfl) ?_
    subst hAe
    exact W.lret (v := lN 0) hx hb hr (fun t ht _ => ⟨⟨lN 0, ws, rfl, ⟨rfl, rfl⟩, by rw [ht]; exact hP, hD⟩, hS.F ht⟩) hS.2.2 dX9_costOf_80
  · first | exact absurd c1 (by decide +kernel) | exact absurd (by decide +kernel) c1


set_option maxHeartbeats 4000000 in
set_option maxRecDepth 100000 in
/-- the reference, fresh: turn -/
theorem c_X9_turn (l : Launch) (D : va_G) (K : Nat → ClassId) (tv : Nat) (ws : va_W) (ad : Nat → Nat) (lz : Int64) (kp : Nat) (fd : Int32) (hm : hMs K ad ws lz kp fd) : hI l D (hTy K) tv yX9_turn cX9_turn 4 (some .boolean) ({ frames := 0, cells := 0, slots := 0, locals := 0 }) [.ref (ad 0)] ws (fun r ws1 => ws = ws1 ∧ r = nI 0) := by
  intro sz
  refine Met.ofW (cc := cX9_turn) (maxL := 4) (ret := (some .boolean)) (by decide) rfl ?_
  intro p e s m args below meth c s₁ B hml hv0
  obtain ⟨rfl, rfl, E, hP, hD⟩ := hentry hv0
  have hx := B.exec
  have hb := B.bytes
  have hr := B.returns
  have hts := atoms_spec (ws := hC yX9_turn cX9_turn 4 (some .boolean)) B.pre
  have hown : s.vm.findClass RX9 = some m.cls := findClass_of_methodNamed B.named
  have hlocks := B.notSynchronized
  generalize hAe : va_A ws s.heap.size = A at hD E ⊢
  have hl := lv_entry ([.ref (ad 0)]) (n := 4) (Nat.le_of_ble_eq_true rfl)
  rw [lg_entry_eq]
  generalize (lg_sl ([.ref (ad 0)]) ++ List.replicate (4 - (lg_sl ([.ref (ad 0)])).length) Slot.unset).toArray = ls at hl ⊢
  have hl : lv_has ls 4 [(0, .ref (ad 0))] := hl
  refine hat0 (fun H hHe => ?_)
  have hP : va_P D vwCl ws H := by rw [hHe]; exact hP
  have hS : va_S A s.heap H [] := by rw [hHe]; exact va_S.rf
  obtain ⟨g0, ⟨f1, g1⟩, ⟨f2, g2⟩, ⟨f3, g3⟩, ⟨f4, g4⟩, ⟨f5, g5⟩, ⟨f6, g6⟩, ⟨f7, g7⟩, ⟨f8, g8, z8⟩, ⟨f9, g9⟩, ⟨f10, g10⟩, ⟨f11, g11, z11⟩, ⟨f12, g12, z12⟩⟩ := id hm
  refine lv_aload_n hx hb dX9_turn_0 rfl (lv_at hl 0 rfl) ?_
  refine va_get (v := .int (nI 0)) (C := RX9) (T := TX9) (N := 18) hx hb hts (hin_X9 hmc) hown E.1.1 hP 0 g0 rfl 3 (by decide) (hts _ (hmc _ k_572)) (fun _ h9 => h9) rfl dX9_turn_1 ?_
  refine lv_iconst (v := nI 2) hx hb dX9_turn_4 (by decide +kernel) ?_
  refine lv_isub hx hb dX9_turn_5 ?_
  refine htopi (v := (-2)) (by decide +kernel) ?_
  refine lv_istore_n (lv' := [(1, .int (-2)), (0, .ref (ad 0))]) hx hb dX9_turn_6 rfl hl (by decide) rfl (fun ls hl => ?_)
  refine lv_iload_n hx hb dX9_turn_7 rfl (lv_at hl 0 rfl) ?_
  refine lv_if_lt (tgt := 34) hx hb dX9_turn_8 (by decide) (fun c1 => ?_) (fun c1 => ?_)
  · refine lv_iload_n hx hb dX9_turn_34 rfl (lv_at hl 0 rfl) ?_
    refine lv_if_ge (tgt := 40) hx hb dX9_turn_35 (by decide) (fun c2 => ?_) (fun c2 => ?_)
    · first | exact absurd c2 (by decide +kernel) | exact absurd (by decide +kernel) c2
    · refine lv_iconst (v := nI 0) hx hb dX9_turn_38 (by decide +kernel) ?_
      subst hAe
      exact W.zret (v := nI 0) hx hb hr (by decide +kernel) (fun t ht _ => ⟨⟨nI 0, ws, rfl, ⟨rfl, rfl⟩, by rw [ht]; exact hP, hD⟩, hS.F ht⟩) hS.2.2 dX9_turn_39
  · first | exact absurd c1 (by decide +kernel) | exact absurd (by decide +kernel) c1

