set_option maxHeartbeats 4000000 in
set_option maxRecDepth 100000 in
/-- the reference, fresh: triples -/
theorem c_X9_triples (l : Launch) (D : va_G) (K : Nat → ClassId) (tv : Nat) (ws : va_W) (ad : Nat → Nat) (hm : hMs K ad ws 0 0 (-2)) : hI l D (hTy K) tv yX9_triples cX9_triples 1 (some .int) ({ frames := 0, cells := 0, slots := 0, locals := 0 }) [.ref (ad 0)] ws (fun r _ => r = nI 0) := by
  intro sz
  refine Met.ofW (cc := cX9_triples) (maxL := 1) (ret := (some .int)) (by decide) rfl ?_
  intro p e s m args below meth c s₁ B hml hv0
  obtain ⟨rfl, rfl, E, hP, hD⟩ := hentry hv0
  have hx := B.exec
  have hb := B.bytes
  have hr := B.returns
  have hts := atoms_spec (ws := hC yX9_triples cX9_triples 1 (some .int)) B.pre
  have hown : s.vm.findClass RX9 = some m.cls := findClass_of_methodNamed B.named
  have hlocks := B.notSynchronized
  generalize hAe : va_A ws s.heap.size = A at hD E ⊢
  have hl := lv_entry ([.ref (ad 0)]) (n := 1) (Nat.le_of_ble_eq_true rfl)
  rw [lg_entry_eq]
  generalize (lg_sl ([.ref (ad 0)]) ++ List.replicate (1 - (lg_sl ([.ref (ad 0)])).length) Slot.unset).toArray = ls at hl ⊢
  have hl : lv_has ls 1 [(0, .ref (ad 0))] := hl
  refine hat0 (fun H hHe => ?_)
  have hP : va_P D vwCl ws H := by rw [hHe]; exact hP
  have hS : va_S A s.heap H [] := by rw [hHe]; exact va_S.rf
  obtain ⟨g0, ⟨f1, g1⟩, ⟨f2, g2⟩, ⟨f3, g3⟩, ⟨f4, g4⟩, ⟨f5, g5⟩, ⟨f6, g6⟩, ⟨f7, g7⟩, ⟨f8, g8, z8⟩, ⟨f9, g9⟩, ⟨f10, g10⟩, ⟨f11, g11, z11⟩, ⟨f12, g12, z12⟩⟩ := id hm
  refine lv_aload_n hx hb dX9_triples_0 rfl (lv_at hl 0 rfl) ?_
  refine va_get (v := .int (nI 0)) (C := RX9) (T := TX9) (N := 18) hx hb hts (hin_X9 hmc) hown E.1.1 hP 0 g0 rfl 1 (by decide) (hts _ (hmc _ k_570)) (fun _ h9 => h9) rfl dX9_triples_1 ?_
  subst hAe
  exact W.iret (v := nI 0) hx hb hr (fun t ht _ => ⟨⟨nI 0, ws, rfl, rfl, by rw [ht]; exact hP, hD⟩, hS.F ht⟩) hS.2.2 dX9_triples_4


set_option maxHeartbeats 4000000 in
set_option maxRecDepth 100000 in
/-- the reference, fresh: pattern -/
theorem c_X9_pattern (l : Launch) (D : va_G) (K : Nat → ClassId) (tv : Nat) (ws : va_W) (ad : Nat → Nat) (hm : hMs K ad ws 0 0 (-2)) (x y z : Int32) : hI l D (hTy K) tv yX9_pattern cX9_pattern 4 (some .int) ({ frames := 1, cells := 0, slots := 0, locals := 60 }) [.ref (ad 0), .int x, .int y, .int z] ws (fun r _ => r = if (hOkN x ∨ hOkV x) ∧ (hOkN y ∨ hOkV y) ∧ (hOkN z ∨ hOkV z) then nI 0 else (-1)) := by
  intro sz
  refine Met.ofW (cc := cX9_pattern) (maxL := 4) (ret := (some .int)) (by decide) rfl ?_
  intro p e s m args below meth c s₁ B hml hv0
  obtain ⟨rfl, rfl, E, hP, hD⟩ := hentry hv0
  have hx := B.exec
  have hb := B.bytes
  have hr := B.returns
  have hts := atoms_spec (ws := hC yX9_pattern cX9_pattern 4 (some .int)) B.pre
  have hown : s.vm.findClass RX9 = some m.cls := findClass_of_methodNamed B.named
  have hlocks := B.notSynchronized
  generalize hAe : va_A ws s.heap.size = A at hD E ⊢
  have hl := lv_entry ([.ref (ad 0), .int x, .int y, .int z]) (n := 4) (Nat.le_of_ble_eq_true rfl)
  rw [lg_entry_eq]
  generalize (lg_sl ([.ref (ad 0), .int x, .int y, .int z]) ++ List.replicate (4 - (lg_sl ([.ref (ad 0), .int x, .int y, .int z])).length) Slot.unset).toArray = ls at hl ⊢
  have hl : lv_has ls 4 [(0, .ref (ad 0)), (1, .int x), (2, .int y), (3, .int z)] := hl
  refine hat0 (fun H hHe => ?_)
  have hP : va_P D vwCl ws H := by rw [hHe]; exact hP
  have hS : va_S A s.heap H [] := by rw [hHe]; exact va_S.rf
  obtain ⟨g0, ⟨f1, g1⟩, ⟨f2, g2⟩, ⟨f3, g3⟩, ⟨f4, g4⟩, ⟨f5, g5⟩, ⟨f6, g6⟩, ⟨f7, g7⟩, ⟨f8, g8, z8⟩, ⟨f9, g9⟩, ⟨f10, g10⟩, ⟨f11, g11, z11⟩, ⟨f12, g12, z12⟩⟩ := id hm
  refine lv_iload_n hx hb dX9_pattern_0 rfl (lv_at hl 1 rfl) ?_
  refine hc_si (va_runS (As := [.int x]) (rest := []) ⟨hx, hb, hml, hown, hts⟩ (c_X9_isItem l x) (va_cwS 1 hts (hGS hmc k_647 k_648 k_29 k_649) rfl rfl rfl (by decide +kernel) ⟨Nat.le_of_ble_eq_true rfl, Nat.le_of_ble_eq_true rfl⟩) hpre0 rfl rfl hl.1 rfl (lv_room (Nat.le_of_ble_eq_true rfl)) dX9_pattern_1 ⟨(Nat.le_refl _), (Nat.le_refl _)⟩) (fun r1 b1 => ?_)
  refine lv_if_eq (tgt := 21) hx hb dX9_pattern_4 (by decide) (fun c1 => ?_) (fun c1 => ?_)
  · refine lv_iconst (v := (-1)) hx hb dX9_pattern_21 (by decide +kernel) ?_
    subst hAe
    exact W.iret (v := (-1)) hx hb hr (fun t ht _ => ⟨⟨(-1), ws, rfl, (if_neg (fun q => b1.f c1 q.1)).symm, by rw [ht]; exact hP, hD⟩, hS.F ht⟩) hS.2.2 dX9_pattern_22
  · refine lv_iload_n hx hb dX9_pattern_7 rfl (lv_at hl 2 rfl) ?_
    refine hc_si (va_runS (As := [.int y]) (rest := []) ⟨hx, hb, hml, hown, hts⟩ (c_X9_isItem l y) (va_cwS 1 hts (hGS hmc k_647 k_648 k_29 k_649) rfl rfl rfl (by decide +kernel) ⟨Nat.le_of_ble_eq_true rfl, Nat.le_of_ble_eq_true rfl⟩) hpre0 rfl rfl hl.1 rfl (lv_room (Nat.le_of_ble_eq_true rfl)) dX9_pattern_8 ⟨(Nat.le_refl _), (Nat.le_refl _)⟩) (fun r2 b2 => ?_)
    refine lv_if_eq (tgt := 21) hx hb dX9_pattern_11 (by decide) (fun c2 => ?_) (fun c2 => ?_)
    · refine lv_iconst (v := (-1)) hx hb dX9_pattern_21 (by decide +kernel) ?_
      subst hAe
      exact W.iret (v := (-1)) hx hb hr (fun t ht _ => ⟨⟨(-1), ws, rfl, (if_neg (fun q => b2.f c2 q.2.1)).symm, by rw [ht]; exact hP, hD⟩, hS.F ht⟩) hS.2.2 dX9_pattern_22
    · refine lv_iload_n hx hb dX9_pattern_14 rfl (lv_at hl 3 rfl) ?_
      refine hc_si (va_runS (As := [.int z]) (rest := []) ⟨hx, hb, hml, hown, hts⟩ (c_X9_isItem l z) (va_cwS 1 hts (hGS hmc k_647 k_648 k_29 k_649) rfl rfl rfl (by decide +kernel) ⟨Nat.le_of_ble_eq_true rfl, Nat.le_of_ble_eq_true rfl⟩) hpre0 rfl rfl hl.1 rfl (lv_room (Nat.le_of_ble_eq_true rfl)) dX9_pattern_15 ⟨(Nat.le_refl _), (Nat.le_refl _)⟩) (fun r3 b3 => ?_)
      refine lv_if_ne (tgt := 23) hx hb dX9_pattern_18 (by decide) (fun c3 => ?_) (fun c3 => ?_)
      · refine lv_aload_n hx hb dX9_pattern_23 rfl (lv_at hl 0 rfl) ?_
        refine va_get (v := .int (nI 0)) (C := RX9) (T := TX9) (N := 18) hx hb hts (hin_X9 hmc) hown E.1.1 hP 0 g0 rfl 3 (by decide) (hts _ (hmc _ k_572)) (fun _ h9 => h9) rfl dX9_pattern_24 ?_
        refine lv_bipush (v := nI 6) hx hb dX9_pattern_27 (by decide +kernel) ?_
        refine lv_icmp_ne (tgt := 35) hx hb dX9_pattern_29 (by decide) (fun c5 => ?_) (fun c5 => ?_)
        · refine lv_aload_n hx hb dX9_pattern_35 rfl (lv_at hl 0 rfl) ?_
          refine va_get (v := .ref (ad 2)) (C := RX9) (T := TX9) (N := 18) hx hb hts (hin_X9 hmc) hown E.1.1 hP 0 g0 rfl 2 (by decide) (hts _ (hmc _ k_571)) (fun _ h9 => h9) rfl dX9_pattern_36 ?_
          refine lv_iconst (v := nI 3) hx hb dX9_pattern_39 (by decide +kernel) ?_
          refine lv_aload_n hx hb dX9_pattern_40 rfl (lv_at hl 0 rfl) ?_
          refine va_get (v := .int (nI 0)) (C := RX9) (T := TX9) (N := 18) hx hb hts (hin_X9 hmc) hown E.1.1 hP 0 g0 rfl 3 (by decide) (hts _ (hmc _ k_572)) (fun _ h9 => h9) rfl dX9_pattern_41 ?_
          refine lv_imul hx hb dX9_pattern_44 ?_
          refine htopi (v := nI (3 * 0)) (pk_mul _ _) ?_
          refine lv_iload_n hx hb dX9_pattern_45 rfl (lv_at hl 1 rfl) ?_
          refine va_iast hx hb E.1.1 hP hD hS 2 0 g2 rfl (vp_in_nI (by omega) (by omega)) dX9_pattern_46 (fun H locs hP hD hS => ?_)
          rw [nI_clamp (show (3 * 0) < 2 ^ 31 by omega)] at hP hD
          obtain ⟨ws4, ews4⟩ : ∃ zw : va_W, zw = List.set ws 2 ((ad 2), .inl (K 0, 18, .inl (upd f2 (3 * 0) x))) := ⟨_, rfl⟩
          have hP : va_P D vwCl ws4 H := by rw [ews4]; exact hP
          have hD : va_D A ws4 := by rw [ews4]; exact hD
          have g0 := (show ws4[0]? = _ from (by rw [ews4]; exact hset_ne (by omega))).trans g0
          have g1 := (show ws4[1]? = _ from (by rw [ews4]; exact hset_ne (by omega))).trans g1
          have g2 : ws4[2]? = some ((ad 2), .inl (K 0, 18, .inl (upd f2 (3 * 0) x))) := by rw [ews4]; exact hset_eq g2
          have g3 := (show ws4[3]? = _ from (by rw [ews4]; exact hset_ne (by omega))).trans g3
          have g4 := (show ws4[4]? = _ from (by rw [ews4]; exact hset_ne (by omega))).trans g4
          have g5 := (show ws4[5]? = _ from (by rw [ews4]; exact hset_ne (by omega))).trans g5
          have g6 := (show ws4[6]? = _ from (by rw [ews4]; exact hset_ne (by omega))).trans g6
          have g7 := (show ws4[7]? = _ from (by rw [ews4]; exact hset_ne (by omega))).trans g7
          have g8 := (show ws4[8]? = _ from (by rw [ews4]; exact hset_ne (by omega))).trans g8
          have g9 := (show ws4[9]? = _ from (by rw [ews4]; exact hset_ne (by omega))).trans g9
          have g10 := (show ws4[10]? = _ from (by rw [ews4]; exact hset_ne (by omega))).trans g10
          have g11 := (show ws4[11]? = _ from (by rw [ews4]; exact hset_ne (by omega))).trans g11
          have g12 := (show ws4[12]? = _ from (by rw [ews4]; exact hset_ne (by omega))).trans g12
          refine lv_aload_n hx hb dX9_pattern_47 rfl (lv_at hl 0 rfl) ?_
          refine va_get (v := .ref (ad 2)) (C := RX9) (T := TX9) (N := 18) hx hb hts (hin_X9 hmc) hown E.1.1 hP 0 g0 rfl 2 (by decide) (hts _ (hmc _ k_571)) (fun _ h9 => h9) rfl dX9_pattern_48 ?_
          refine lv_iconst (v := nI 3) hx hb dX9_pattern_51 (by decide +kernel) ?_
          refine lv_aload_n hx hb dX9_pattern_52 rfl (lv_at hl 0 rfl) ?_
          refine va_get (v := .int (nI 0)) (C := RX9) (T := TX9) (N := 18) hx hb hts (hin_X9 hmc) hown E.1.1 hP 0 g0 rfl 3 (by decide) (hts _ (hmc _ k_572)) (fun _ h9 => h9) rfl dX9_pattern_53 ?_
          refine lv_imul hx hb dX9_pattern_56 ?_
          refine htopi (v := nI (3 * 0)) (pk_mul _ _) ?_
          refine lv_iconst (v := nI 1) hx hb dX9_pattern_57 (by decide +kernel) ?_
          refine lv_iadd hx hb dX9_pattern_58 ?_
          refine htopi (v := nI ((3 * 0) + 1)) (nI_add _ _) ?_
          refine lv_iload_n hx hb dX9_pattern_59 rfl (lv_at hl 2 rfl) ?_
          refine va_iast hx hb E.1.1 hP hD hS 2 0 g2 rfl (vp_in_nI (by omega) (by omega)) dX9_pattern_60 (fun H locs hP hD hS => ?_)
          rw [nI_clamp (show ((3 * 0) + 1) < 2 ^ 31 by omega)] at hP hD
          obtain ⟨ws5, ews5⟩ : ∃ zw : va_W, zw = List.set ws4 2 ((ad 2), .inl (K 0, 18, .inl (upd (upd f2 (3 * 0) x) ((3 * 0) + 1) y))) := ⟨_, rfl⟩
          have hP : va_P D vwCl ws5 H := by rw [ews5]; exact hP
          have hD : va_D A ws5 := by rw [ews5]; exact hD
          have g0 := (show ws5[0]? = _ from (by rw [ews5]; exact hset_ne (by omega))).trans g0
          have g1 := (show ws5[1]? = _ from (by rw [ews5]; exact hset_ne (by omega))).trans g1
          have g2 : ws5[2]? = some ((ad 2), .inl (K 0, 18, .inl (upd (upd f2 (3 * 0) x) ((3 * 0) + 1) y))) := by rw [ews5]; exact hset_eq g2
          have g3 := (show ws5[3]? = _ from (by rw [ews5]; exact hset_ne (by omega))).trans g3
          have g4 := (show ws5[4]? = _ from (by rw [ews5]; exact hset_ne (by omega))).trans g4
          have g5 := (show ws5[5]? = _ from (by rw [ews5]; exact hset_ne (by omega))).trans g5
          have g6 := (show ws5[6]? = _ from (by rw [ews5]; exact hset_ne (by omega))).trans g6
          have g7 := (show ws5[7]? = _ from (by rw [ews5]; exact hset_ne (by omega))).trans g7
          have g8 := (show ws5[8]? = _ from (by rw [ews5]; exact hset_ne (by omega))).trans g8
          have g9 := (show ws5[9]? = _ from (by rw [ews5]; exact hset_ne (by omega))).trans g9
          have g10 := (show ws5[10]? = _ from (by rw [ews5]; exact hset_ne (by omega))).trans g10
          have g11 := (show ws5[11]? = _ from (by rw [ews5]; exact hset_ne (by omega))).trans g11
          have g12 := (show ws5[12]? = _ from (by rw [ews5]; exact hset_ne (by omega))).trans g12
          refine lv_aload_n hx hb dX9_pattern_61 rfl (lv_at hl 0 rfl) ?_
          refine va_get (v := .ref (ad 2)) (C := RX9) (T := TX9) (N := 18) hx hb hts (hin_X9 hmc) hown E.1.1 hP 0 g0 rfl 2 (by decide) (hts _ (hmc _ k_571)) (fun _ h9 => h9) rfl dX9_pattern_62 ?_
          refine lv_iconst (v := nI 3) hx hb dX9_pattern_65 (by decide +kernel) ?_
          refine lv_aload_n hx hb dX9_pattern_66 rfl (lv_at hl 0 rfl) ?_
          refine va_get (v := .int (nI 0)) (C := RX9) (T := TX9) (N := 18) hx hb hts (hin_X9 hmc) hown E.1.1 hP 0 g0 rfl 3 (by decide) (hts _ (hmc _ k_572)) (fun _ h9 => h9) rfl dX9_pattern_67 ?_
          refine lv_imul hx hb dX9_pattern_70 ?_
          refine htopi (v := nI (3 * 0)) (pk_mul _ _) ?_
          refine lv_iconst (v := nI 2) hx hb dX9_pattern_71 (by decide +kernel) ?_
          refine lv_iadd hx hb dX9_pattern_72 ?_
          refine htopi (v := nI ((3 * 0) + 2)) (nI_add _ _) ?_
          refine lv_iload_n hx hb dX9_pattern_73 rfl (lv_at hl 3 rfl) ?_
          refine va_iast hx hb E.1.1 hP hD hS 2 0 g2 rfl (vp_in_nI (by omega) (by omega)) dX9_pattern_74 (fun H locs hP hD hS => ?_)
          rw [nI_clamp (show ((3 * 0) + 2) < 2 ^ 31 by omega)] at hP hD
          obtain ⟨ws6, ews6⟩ : ∃ zw : va_W, zw = List.set ws5 2 ((ad 2), .inl (K 0, 18, .inl (upd (upd (upd f2 (3 * 0) x) ((3 * 0) + 1) y) ((3 * 0) + 2) z))) := ⟨_, rfl⟩
          have hP : va_P D vwCl ws6 H := by rw [ews6]; exact hP
          have hD : va_D A ws6 := by rw [ews6]; exact hD
          have g0 := (show ws6[0]? = _ from (by rw [ews6]; exact hset_ne (by omega))).trans g0
          have g1 := (show ws6[1]? = _ from (by rw [ews6]; exact hset_ne (by omega))).trans g1
          have g2 : ws6[2]? = some ((ad 2), .inl (K 0, 18, .inl (upd (upd (upd f2 (3 * 0) x) ((3 * 0) + 1) y) ((3 * 0) + 2) z))) := by rw [ews6]; exact hset_eq g2
          have g3 := (show ws6[3]? = _ from (by rw [ews6]; exact hset_ne (by omega))).trans g3
          have g4 := (show ws6[4]? = _ from (by rw [ews6]; exact hset_ne (by omega))).trans g4
          have g5 := (show ws6[5]? = _ from (by rw [ews6]; exact hset_ne (by omega))).trans g5
          have g6 := (show ws6[6]? = _ from (by rw [ews6]; exact hset_ne (by omega))).trans g6
          have g7 := (show ws6[7]? = _ from (by rw [ews6]; exact hset_ne (by omega))).trans g7
          have g8 := (show ws6[8]? = _ from (by rw [ews6]; exact hset_ne (by omega))).trans g8
          have g9 := (show ws6[9]? = _ from (by rw [ews6]; exact hset_ne (by omega))).trans g9
          have g10 := (show ws6[10]? = _ from (by rw [ews6]; exact hset_ne (by omega))).trans g10
          have g11 := (show ws6[11]? = _ from (by rw [ews6]; exact hset_ne (by omega))).trans g11
          have g12 := (show ws6[12]? = _ from (by rw [ews6]; exact hset_ne (by omega))).trans g12
          refine lv_aload_n hx hb dX9_pattern_75 rfl (lv_at hl 0 rfl) ?_
          refine lv_dup hx hb dX9_pattern_76 rfl ?_
          refine va_get (v := .int (nI 0)) (C := RX9) (T := TX9) (N := 18) hx hb hts (hin_X9 hmc) hown E.1.1 hP 0 g0 rfl 3 (by decide) (hts _ (hmc _ k_572)) (fun _ h9 => h9) rfl dX9_pattern_77 ?_
          refine lv_iconst (v := nI 1) hx hb dX9_pattern_80 (by decide +kernel) ?_
          refine lv_iadd hx hb dX9_pattern_81 ?_
          refine htopi (v := nI (0 + 1)) (nI_add _ _) ?_
          refine va_put (v := .int (nI (0 + 1))) (ty := .int) (C := RX9) (T := TX9) (N := 18) hx hb hts (hin_X9 hmc) tyX9 tyX9_ok nmX9 hown E.1.1 hP hD hS 0 g0 rfl 3 (by decide) (hts _ (hmc _ k_572)) (fun _ h9 => h9) rfl (by decide +kernel) rfl rfl (Nat.le_of_ble_eq_true rfl) dX9_pattern_82 (fun H locs hP hD hS => ?_)
          obtain ⟨ws7, ews7⟩ : ∃ zw : va_W, zw = List.set ws6 0 ((ad 0), .inr (iM, [.ref (ad 1), .int (nI 0), .ref (ad 2), .int (nI (0 + 1)), .ref (ad 3), .int (nI 0), .ref (ad 4), .ref (ad 5), .ref (ad 6), .long 0, .ref (ad 7), .ref (ad 8), .ref (ad 9), .ref (ad 10), .int (nI 0), .int (-2), .ref (ad 11), .ref (ad 12)])) := ⟨_, rfl⟩
          have hP : va_P D vwCl ws7 H := by rw [ews7]; exact hP
          have hD : va_D A ws7 := by rw [ews7]; exact hD
          have g0 : ws7[0]? = some ((ad 0), .inr (iM, [.ref (ad 1), .int (nI 0), .ref (ad 2), .int (nI (0 + 1)), .ref (ad 3), .int (nI 0), .ref (ad 4), .ref (ad 5), .ref (ad 6), .long 0, .ref (ad 7), .ref (ad 8), .ref (ad 9), .ref (ad 10), .int (nI 0), .int (-2), .ref (ad 11), .ref (ad 12)])) := by rw [ews7]; exact hset_eq g0
          have g1 := (show ws7[1]? = _ from (by rw [ews7]; exact hset_ne (by omega))).trans g1
          have g2 := (show ws7[2]? = _ from (by rw [ews7]; exact hset_ne (by omega))).trans g2
          have g3 := (show ws7[3]? = _ from (by rw [ews7]; exact hset_ne (by omega))).trans g3
          have g4 := (show ws7[4]? = _ from (by rw [ews7]; exact hset_ne (by omega))).trans g4
          have g5 := (show ws7[5]? = _ from (by rw [ews7]; exact hset_ne (by omega))).trans g5
          have g6 := (show ws7[6]? = _ from (by rw [ews7]; exact hset_ne (by omega))).trans g6
          have g7 := (show ws7[7]? = _ from (by rw [ews7]; exact hset_ne (by omega))).trans g7
          have g8 := (show ws7[8]? = _ from (by rw [ews7]; exact hset_ne (by omega))).trans g8
          have g9 := (show ws7[9]? = _ from (by rw [ews7]; exact hset_ne (by omega))).trans g9
          have g10 := (show ws7[10]? = _ from (by rw [ews7]; exact hset_ne (by omega))).trans g10
          have g11 := (show ws7[11]? = _ from (by rw [ews7]; exact hset_ne (by omega))).trans g11
          have g12 := (show ws7[12]? = _ from (by rw [ews7]; exact hset_ne (by omega))).trans g12
          refine lv_aload_n hx hb dX9_pattern_85 rfl (lv_at hl 0 rfl) ?_
          refine lv_iconst (v := nI 0) hx hb dX9_pattern_86 (by decide +kernel) ?_
          refine va_put (v := .int (nI 0)) (ty := .int) (C := RX9) (T := TX9) (N := 18) hx hb hts (hin_X9 hmc) tyX9 tyX9_ok nmX9 hown E.1.1 hP hD hS 0 g0 rfl 5 (by decide) (hts _ (hmc _ k_574)) (fun _ h9 => h9) rfl (by decide +kernel) rfl rfl (Nat.le_of_ble_eq_true rfl) dX9_pattern_87 (fun H locs hP hD hS => ?_)
          obtain ⟨ws8, ews8⟩ : ∃ zw : va_W, zw = List.set ws7 0 ((ad 0), .inr (iM, [.ref (ad 1), .int (nI 0), .ref (ad 2), .int (nI (0 + 1)), .ref (ad 3), .int (nI 0), .ref (ad 4), .ref (ad 5), .ref (ad 6), .long 0, .ref (ad 7), .ref (ad 8), .ref (ad 9), .ref (ad 10), .int (nI 0), .int (-2), .ref (ad 11), .ref (ad 12)])) := ⟨_, rfl⟩
          have hP : va_P D vwCl ws8 H := by rw [ews8]; exact hP
          have hD : va_D A ws8 := by rw [ews8]; exact hD
          have g0 : ws8[0]? = some ((ad 0), .inr (iM, [.ref (ad 1), .int (nI 0), .ref (ad 2), .int (nI (0 + 1)), .ref (ad 3), .int (nI 0), .ref (ad 4), .ref (ad 5), .ref (ad 6), .long 0, .ref (ad 7), .ref (ad 8), .ref (ad 9), .ref (ad 10), .int (nI 0), .int (-2), .ref (ad 11), .ref (ad 12)])) := by rw [ews8]; exact hset_eq g0
          have g1 := (show ws8[1]? = _ from (by rw [ews8]; exact hset_ne (by omega))).trans g1
          have g2 := (show ws8[2]? = _ from (by rw [ews8]; exact hset_ne (by omega))).trans g2
          have g3 := (show ws8[3]? = _ from (by rw [ews8]; exact hset_ne (by omega))).trans g3
          have g4 := (show ws8[4]? = _ from (by rw [ews8]; exact hset_ne (by omega))).trans g4
          have g5 := (show ws8[5]? = _ from (by rw [ews8]; exact hset_ne (by omega))).trans g5
          have g6 := (show ws8[6]? = _ from (by rw [ews8]; exact hset_ne (by omega))).trans g6
          have g7 := (show ws8[7]? = _ from (by rw [ews8]; exact hset_ne (by omega))).trans g7
          have g8 := (show ws8[8]? = _ from (by rw [ews8]; exact hset_ne (by omega))).trans g8
          have g9 := (show ws8[9]? = _ from (by rw [ews8]; exact hset_ne (by omega))).trans g9
          have g10 := (show ws8[10]? = _ from (by rw [ews8]; exact hset_ne (by omega))).trans g10
          have g11 := (show ws8[11]? = _ from (by rw [ews8]; exact hset_ne (by omega))).trans g11
          have g12 := (show ws8[12]? = _ from (by rw [ews8]; exact hset_ne (by omega))).trans g12
          refine lv_aload_n hx hb dX9_pattern_90 rfl (lv_at hl 0 rfl) ?_
          refine lv_bipush (v := (-2)) hx hb dX9_pattern_91 (by decide +kernel) ?_
          refine va_put (v := .int (-2)) (ty := .int) (C := RX9) (T := TX9) (N := 18) hx hb hts (hin_X9 hmc) tyX9 tyX9_ok nmX9 hown E.1.1 hP hD hS 0 g0 rfl 15 (by decide) (hts _ (hmc _ k_584)) (fun _ h9 => h9) rfl (by decide +kernel) rfl rfl (Nat.le_of_ble_eq_true rfl) dX9_pattern_93 (fun H locs hP hD hS => ?_)
          obtain ⟨ws9, ews9⟩ : ∃ zw : va_W, zw = List.set ws8 0 ((ad 0), .inr (iM, [.ref (ad 1), .int (nI 0), .ref (ad 2), .int (nI (0 + 1)), .ref (ad 3), .int (nI 0), .ref (ad 4), .ref (ad 5), .ref (ad 6), .long 0, .ref (ad 7), .ref (ad 8), .ref (ad 9), .ref (ad 10), .int (nI 0), .int (-2), .ref (ad 11), .ref (ad 12)])) := ⟨_, rfl⟩
          have hP : va_P D vwCl ws9 H := by rw [ews9]; exact hP
          have hD : va_D A ws9 := by rw [ews9]; exact hD
          have g0 : ws9[0]? = some ((ad 0), .inr (iM, [.ref (ad 1), .int (nI 0), .ref (ad 2), .int (nI (0 + 1)), .ref (ad 3), .int (nI 0), .ref (ad 4), .ref (ad 5), .ref (ad 6), .long 0, .ref (ad 7), .ref (ad 8), .ref (ad 9), .ref (ad 10), .int (nI 0), .int (-2), .ref (ad 11), .ref (ad 12)])) := by rw [ews9]; exact hset_eq g0
          have g1 := (show ws9[1]? = _ from (by rw [ews9]; exact hset_ne (by omega))).trans g1
          have g2 := (show ws9[2]? = _ from (by rw [ews9]; exact hset_ne (by omega))).trans g2
          have g3 := (show ws9[3]? = _ from (by rw [ews9]; exact hset_ne (by omega))).trans g3
          have g4 := (show ws9[4]? = _ from (by rw [ews9]; exact hset_ne (by omega))).trans g4
          have g5 := (show ws9[5]? = _ from (by rw [ews9]; exact hset_ne (by omega))).trans g5
          have g6 := (show ws9[6]? = _ from (by rw [ews9]; exact hset_ne (by omega))).trans g6
          have g7 := (show ws9[7]? = _ from (by rw [ews9]; exact hset_ne (by omega))).trans g7
          have g8 := (show ws9[8]? = _ from (by rw [ews9]; exact hset_ne (by omega))).trans g8
          have g9 := (show ws9[9]? = _ from (by rw [ews9]; exact hset_ne (by omega))).trans g9
          have g10 := (show ws9[10]? = _ from (by rw [ews9]; exact hset_ne (by omega))).trans g10
          have g11 := (show ws9[11]? = _ from (by rw [ews9]; exact hset_ne (by omega))).trans g11
          have g12 := (show ws9[12]? = _ from (by rw [ews9]; exact hset_ne (by omega))).trans g12
          refine lv_aload_n hx hb dX9_pattern_96 rfl (lv_at hl 0 rfl) ?_
          refine va_get (v := .int (nI (0 + 1))) (C := RX9) (T := TX9) (N := 18) hx hb hts (hin_X9 hmc) hown E.1.1 hP 0 g0 rfl 3 (by decide) (hts _ (hmc _ k_572)) (fun _ h9 => h9) rfl dX9_pattern_97 ?_
          refine lv_iconst (v := nI 1) hx hb dX9_pattern_100 (by decide +kernel) ?_
          refine lv_isub hx hb dX9_pattern_101 ?_
          refine htopi (v := nI 0) (by decide +kernel) ?_
          subst hAe
          exact W.iret (v := nI 0) hx hb hr (fun t ht _ => ⟨⟨nI 0, ws9, rfl, (if_pos ⟨b1.t c1, b2.t c2, b3.t c3⟩).symm, by rw [ht]; exact hP, hD⟩, hS.F ht⟩) hS.2.2 dX9_pattern_102
        · first | exact absurd c5 (by decide +kernel) | exact absurd (by decide +kernel) c5
      · refine lv_iconst (v := (-1)) hx hb dX9_pattern_21 (by decide +kernel) ?_
        subst hAe
        exact W.iret (v := (-1)) hx hb hr (fun t ht _ => ⟨⟨(-1), ws, rfl, (if_neg (fun q => b3.f c3 q.2.2)).symm, by rw [ht]; exact hP, hD⟩, hS.F ht⟩) hS.2.2 dX9_pattern_22


set_option maxHeartbeats 4000000 in
set_option maxRecDepth 100000 in
/-- the reference, fresh: clear -/
theorem c_X9_clear (l : Launch) (D : va_G) (K : Nat → ClassId) (tv : Nat) (ws : va_W) (ad : Nat → Nat) (hm : hMs K ad ws 0 0 (-2)) : hI l D (hTy K) tv yX9_clear cX9_clear 2 (some .int) ({ frames := 0, cells := 0, slots := 0, locals := 0 }) [.ref (ad 0)] ws (fun r _ => r = nI 0) := by
  intro sz
  refine Met.ofW (cc := cX9_clear) (maxL := 2) (ret := (some .int)) (by decide) rfl ?_
  intro p e s m args below meth c s₁ B hml hv0
  obtain ⟨rfl, rfl, E, hP, hD⟩ := hentry hv0
  have hx := B.exec
  have hb := B.bytes
  have hr := B.returns
  have hts := atoms_spec (ws := hC yX9_clear cX9_clear 2 (some .int)) B.pre
  have hown : s.vm.findClass RX9 = some m.cls := findClass_of_methodNamed B.named
  have hlocks := B.notSynchronized
  generalize hAe : va_A ws s.heap.size = A at hD E ⊢
  have hl := lv_entry ([.ref (ad 0)]) (n := 2) (Nat.le_of_ble_eq_true rfl)
  rw [lg_entry_eq]
  generalize (lg_sl ([.ref (ad 0)]) ++ List.replicate (2 - (lg_sl ([.ref (ad 0)])).length) Slot.unset).toArray = ls at hl ⊢
  have hl : lv_has ls 2 [(0, .ref (ad 0))] := hl
  refine hat0 (fun H hHe => ?_)
  have hP : va_P D vwCl ws H := by rw [hHe]; exact hP
  have hS : va_S A s.heap H [] := by rw [hHe]; exact va_S.rf
  obtain ⟨g0, ⟨f1, g1⟩, ⟨f2, g2⟩, ⟨f3, g3⟩, ⟨f4, g4⟩, ⟨f5, g5⟩, ⟨f6, g6⟩, ⟨f7, g7⟩, ⟨f8, g8, z8⟩, ⟨f9, g9⟩, ⟨f10, g10⟩, ⟨f11, g11, z11⟩, ⟨f12, g12, z12⟩⟩ := id hm
  refine lv_aload_n hx hb dX9_clear_0 rfl (lv_at hl 0 rfl) ?_
  refine va_get (v := .int (nI 0)) (C := RX9) (T := TX9) (N := 18) hx hb hts (hin_X9 hmc) hown E.1.1 hP 0 g0 rfl 3 (by decide) (hts _ (hmc _ k_572)) (fun _ h9 => h9) rfl dX9_clear_1 ?_
  refine lv_istore_n (lv' := [(1, .int (nI 0)), (0, .ref (ad 0))]) hx hb dX9_clear_4 rfl hl (by decide) rfl (fun ls hl => ?_)
  refine lv_aload_n hx hb dX9_clear_5 rfl (lv_at hl 1 rfl) ?_
  refine lv_iconst (v := nI 0) hx hb dX9_clear_6 (by decide +kernel) ?_
  refine va_put (v := .int (nI 0)) (ty := .int) (C := RX9) (T := TX9) (N := 18) hx hb hts (hin_X9 hmc) tyX9 tyX9_ok nmX9 hown E.1.1 hP hD hS 0 g0 rfl 3 (by decide) (hts _ (hmc _ k_572)) (fun _ h9 => h9) rfl (by decide +kernel) rfl rfl (Nat.le_of_ble_eq_true rfl) dX9_clear_7 (fun H locs hP hD hS => ?_)
  have hP : va_P D vwCl ws H := by rw [← hset_same g0]; exact hP
  have hD : va_D A ws := by rw [← hset_same g0]; exact hD
  refine lv_aload_n hx hb dX9_clear_10 rfl (lv_at hl 1 rfl) ?_
  refine lv_iconst (v := nI 0) hx hb dX9_clear_11 (by decide +kernel) ?_
  refine va_put (v := .int (nI 0)) (ty := .int) (C := RX9) (T := TX9) (N := 18) hx hb hts (hin_X9 hmc) tyX9 tyX9_ok nmX9 hown E.1.1 hP hD hS 0 g0 rfl 5 (by decide) (hts _ (hmc _ k_574)) (fun _ h9 => h9) rfl (by decide +kernel) rfl rfl (Nat.le_of_ble_eq_true rfl) dX9_clear_12 (fun H locs hP hD hS => ?_)
  have hP : va_P D vwCl ws H := by rw [← hset_same g0]; exact hP
  have hD : va_D A ws := by rw [← hset_same g0]; exact hD
  refine lv_aload_n hx hb dX9_clear_15 rfl (lv_at hl 1 rfl) ?_
  refine lv_bipush (v := (-2)) hx hb dX9_clear_16 (by decide +kernel) ?_
  refine va_put (v := .int (-2)) (ty := .int) (C := RX9) (T := TX9) (N := 18) hx hb hts (hin_X9 hmc) tyX9 tyX9_ok nmX9 hown E.1.1 hP hD hS 0 g0 rfl 15 (by decide) (hts _ (hmc _ k_584)) (fun _ h9 => h9) rfl (by decide +kernel) rfl rfl (Nat.le_of_ble_eq_true rfl) dX9_clear_18 (fun H locs hP hD hS => ?_)
  have hP : va_P D vwCl ws H := by rw [← hset_same g0]; exact hP
  have hD : va_D A ws := by rw [← hset_same g0]; exact hD
  refine lv_iload_n hx hb dX9_clear_21 rfl (lv_at hl 0 rfl) ?_
  subst hAe
  exact W.iret (v := nI 0) hx hb hr (fun t ht _ => ⟨⟨nI 0, ws, rfl, rfl, by rw [ht]; exact hP, hD⟩, hS.F ht⟩) hS.2.2 dX9_clear_22


set_option maxHeartbeats 4000000 in
set_option maxRecDepth 100000 in
/-- the reference, fresh: isPattern -/
theorem c_X9_isPattern (l : Launch) (D : va_G) (K : Nat → ClassId) (tv : Nat) (ws : va_W) (ad : Nat → Nat) (hm : hMs K ad ws 0 0 (-2)) (x : Int32) : hI l D (hTy K) tv yX9_isPattern cX9_isPattern 2 (some .boolean) ({ frames := 0, cells := 0, slots := 0, locals := 0 }) [.ref (ad 0), .int x] ws (fun r ws1 => ws = ws1 ∧ r = nI 0) := by
  intro sz
  refine Met.ofW (cc := cX9_isPattern) (maxL := 2) (ret := (some .boolean)) (by decide) rfl ?_
  intro p e s m args below meth c s₁ B hml hv0
  obtain ⟨rfl, rfl, E, hP, hD⟩ := hentry hv0
  have hx := B.exec
  have hb := B.bytes
  have hr := B.returns
  have hts := atoms_spec (ws := hC yX9_isPattern cX9_isPattern 2 (some .boolean)) B.pre
  have hown : s.vm.findClass RX9 = some m.cls := findClass_of_methodNamed B.named
  have hlocks := B.notSynchronized
  generalize hAe : va_A ws s.heap.size = A at hD E ⊢
  have hl := lv_entry ([.ref (ad 0), .int x]) (n := 2) (Nat.le_of_ble_eq_true rfl)
  rw [lg_entry_eq]
  generalize (lg_sl ([.ref (ad 0), .int x]) ++ List.replicate (2 - (lg_sl ([.ref (ad 0), .int x])).length) Slot.unset).toArray = ls at hl ⊢
  have hl : lv_has ls 2 [(0, .ref (ad 0)), (1, .int x)] := hl
  refine hat0 (fun H hHe => ?_)
  have hP : va_P D vwCl ws H := by rw [hHe]; exact hP
  have hS : va_S A s.heap H [] := by rw [hHe]; exact va_S.rf
  obtain ⟨g0, ⟨f1, g1⟩, ⟨f2, g2⟩, ⟨f3, g3⟩, ⟨f4, g4⟩, ⟨f5, g5⟩, ⟨f6, g6⟩, ⟨f7, g7⟩, ⟨f8, g8, z8⟩, ⟨f9, g9⟩, ⟨f10, g10⟩, ⟨f11, g11, z11⟩, ⟨f12, g12, z12⟩⟩ := id hm
  refine lv_iload_n hx hb dX9_isPattern_0 rfl (lv_at hl 1 rfl) ?_
  refine lv_if_lt (tgt := 16) hx hb dX9_isPattern_1 (by decide) (fun c1 => ?_) (fun c1 => ?_)
  · refine lv_iconst (v := nI 0) hx hb dX9_isPattern_16 (by decide +kernel) ?_
    subst hAe
    exact W.zret (v := nI 0) hx hb hr (by decide +kernel) (fun t ht _ => ⟨⟨nI 0, ws, rfl, ⟨rfl, rfl⟩, by rw [ht]; exact hP, hD⟩, hS.F ht⟩) hS.2.2 dX9_isPattern_17
  · refine lv_iload_n hx hb dX9_isPattern_4 rfl (lv_at hl 1 rfl) ?_
    refine lv_aload_n hx hb dX9_isPattern_5 rfl (lv_at hl 0 rfl) ?_
    refine va_get (v := .int (nI 0)) (C := RX9) (T := TX9) (N := 18) hx hb hts (hin_X9 hmc) hown E.1.1 hP 0 g0 rfl 3 (by decide) (hts _ (hmc _ k_572)) (fun _ h9 => h9) rfl dX9_isPattern_6 ?_
    refine lv_icmp_ge (tgt := 16) hx hb dX9_isPattern_9 (by decide) (fun c2 => ?_) (fun c2 => ?_)
    · refine lv_iconst (v := nI 0) hx hb dX9_isPattern_16 (by decide +kernel) ?_
      subst hAe
      exact W.zret (v := nI 0) hx hb hr (by decide +kernel) (fun t ht _ => ⟨⟨nI 0, ws, rfl, ⟨rfl, rfl⟩, by rw [ht]; exact hP, hD⟩, hS.F ht⟩) hS.2.2 dX9_isPattern_17
    · exact (hk00 c1 c2).elim


set_option maxHeartbeats 4000000 in
set_option maxRecDepth 100000 in
/-- the reference, fresh: estimate -/
theorem c_X9_estimate (l : Launch) (D : va_G) (K : Nat → ClassId) (tv : Nat) (ws : va_W) (ad : Nat → Nat) (hm : hMs K ad ws 0 0 (-2)) (x y : Int32) : hI l D (hTy K) tv yX9_estimate cX9_estimate 7 (some .int) ({ frames := 1, cells := 0, slots := 0, locals := 60 }) [.ref (ad 0), .int x, .int y] ws (fun r _ => r = (-1)) := by
  intro sz
  refine Met.ofW (cc := cX9_estimate) (maxL := 7) (ret := (some .int)) (by decide) rfl ?_
  intro p e s m args below meth c s₁ B hml hv0
  obtain ⟨rfl, rfl, E, hP, hD⟩ := hentry hv0
  have hx := B.exec
  have hb := B.bytes
  have hr := B.returns
  have hts := atoms_spec (ws := hC yX9_estimate cX9_estimate 7 (some .int)) B.pre
  have hown : s.vm.findClass RX9 = some m.cls := findClass_of_methodNamed B.named
  have hlocks := B.notSynchronized
  generalize hAe : va_A ws s.heap.size = A at hD E ⊢
  have hl := lv_entry ([.ref (ad 0), .int x, .int y]) (n := 7) (Nat.le_of_ble_eq_true rfl)
  rw [lg_entry_eq]
  generalize (lg_sl ([.ref (ad 0), .int x, .int y]) ++ List.replicate (7 - (lg_sl ([.ref (ad 0), .int x, .int y])).length) Slot.unset).toArray = ls at hl ⊢
  have hl : lv_has ls 7 [(0, .ref (ad 0)), (1, .int x), (2, .int y)] := hl
  refine hat0 (fun H hHe => ?_)
  have hP : va_P D vwCl ws H := by rw [hHe]; exact hP
  have hS : va_S A s.heap H [] := by rw [hHe]; exact va_S.rf
  obtain ⟨g0, ⟨f1, g1⟩, ⟨f2, g2⟩, ⟨f3, g3⟩, ⟨f4, g4⟩, ⟨f5, g5⟩, ⟨f6, g6⟩, ⟨f7, g7⟩, ⟨f8, g8, z8⟩, ⟨f9, g9⟩, ⟨f10, g10⟩, ⟨f11, g11, z11⟩, ⟨f12, g12, z12⟩⟩ := id hm
  refine lv_aload_n hx hb dX9_estimate_0 rfl (lv_at hl 0 rfl) ?_
  refine lv_iload_n hx hb dX9_estimate_1 rfl (lv_at hl 1 rfl) ?_
  refine hc_i E hD hS (va_runV (As := [.int x]) (rest := []) ⟨hx, hb, hml, hown, hts⟩ ((c_X9_isPattern l D K tv ws ad hm x) H.size) (cwV 1 hts (hGV hmc k_658 k_660 k_5 k_29 k_661) rfl rfl rfl (by decide +kernel) ⟨Nat.le_of_ble_eq_true rfl, Nat.le_of_ble_eq_true rfl⟩) (hpreV E hP hD hS g0 rfl) rfl rfl hl.1 rfl (lv_room (Nat.le_of_ble_eq_true rfl)) dX9_estimate_2 ⟨(Nat.le_refl _), (Nat.le_refl _)⟩) (fun r2 ws1 H locs hh hP hD hS => ?_)
  obtain ⟨rfl, rfl⟩ := hh
  refine lv_if_ne (tgt := 10) hx hb dX9_estimate_5 (by decide) (fun c1 => ?_) (fun c1 => ?_)
  · first | exact absurd c1 (by decide +kernel) | exact absurd (by decide +kernel) c1
  · refine lv_iconst (v := (-1)) hx hb dX9_estimate_8 (by decide +kernel) ?_
    subst hAe
    exact W.iret (v := (-1)) hx hb hr (fun t ht _ => ⟨⟨(-1), ws, rfl, rfl, by rw [ht]; exact hP, hD⟩, hS.F ht⟩) hS.2.2 dX9_estimate_9


set_option maxHeartbeats 4000000 in
set_option maxRecDepth 100000 in
/-- the reference, fresh: plan -/
theorem c_X9_plan (l : Launch) (D : va_G) (K : Nat → ClassId) (tv : Nat) (ws : va_W) (ad : Nat → Nat) (hm : hMs K ad ws 0 0 (-2)) (x : Int32) : hI l D (hTy K) tv yX9_plan cX9_plan 2 (some .int) ({ frames := 1, cells := 0, slots := 0, locals := 60 }) [.ref (ad 0), .int x] ws (fun r _ => r = (-1)) := by
  intro sz
  refine Met.ofW (cc := cX9_plan) (maxL := 2) (ret := (some .int)) (by decide) rfl ?_
  intro p e s m args below meth c s₁ B hml hv0
  obtain ⟨rfl, rfl, E, hP, hD⟩ := hentry hv0
  have hx := B.exec
  have hb := B.bytes
  have hr := B.returns
  have hts := atoms_spec (ws := hC yX9_plan cX9_plan 2 (some .int)) B.pre
  have hown : s.vm.findClass RX9 = some m.cls := findClass_of_methodNamed B.named
  have hlocks := B.notSynchronized
  generalize hAe : va_A ws s.heap.size = A at hD E ⊢
  have hl := lv_entry ([.ref (ad 0), .int x]) (n := 2) (Nat.le_of_ble_eq_true rfl)
  rw [lg_entry_eq]
  generalize (lg_sl ([.ref (ad 0), .int x]) ++ List.replicate (2 - (lg_sl ([.ref (ad 0), .int x])).length) Slot.unset).toArray = ls at hl ⊢
  have hl : lv_has ls 2 [(0, .ref (ad 0)), (1, .int x)] := hl
  refine hat0 (fun H hHe => ?_)
  have hP : va_P D vwCl ws H := by rw [hHe]; exact hP
  have hS : va_S A s.heap H [] := by rw [hHe]; exact va_S.rf
  obtain ⟨g0, ⟨f1, g1⟩, ⟨f2, g2⟩, ⟨f3, g3⟩, ⟨f4, g4⟩, ⟨f5, g5⟩, ⟨f6, g6⟩, ⟨f7, g7⟩, ⟨f8, g8, z8⟩, ⟨f9, g9⟩, ⟨f10, g10⟩, ⟨f11, g11, z11⟩, ⟨f12, g12, z12⟩⟩ := id hm
  refine lv_aload_n hx hb dX9_plan_0 rfl (lv_at hl 0 rfl) ?_
  refine lv_iload_n hx hb dX9_plan_1 rfl (lv_at hl 1 rfl) ?_
  refine hc_i E hD hS (va_runV (As := [.int x]) (rest := []) ⟨hx, hb, hml, hown, hts⟩ ((c_X9_isPattern l D K tv ws ad hm x) H.size) (cwV 1 hts (hGV hmc k_658 k_660 k_5 k_29 k_661) rfl rfl rfl (by decide +kernel) ⟨Nat.le_of_ble_eq_true rfl, Nat.le_of_ble_eq_true rfl⟩) (hpreV E hP hD hS g0 rfl) rfl rfl hl.1 rfl (lv_room (Nat.le_of_ble_eq_true rfl)) dX9_plan_2 ⟨(Nat.le_refl _), (Nat.le_refl _)⟩) (fun r2 ws1 H locs hh hP hD hS => ?_)
  obtain ⟨rfl, rfl⟩ := hh
  refine lv_if_ne (tgt := 10) hx hb dX9_plan_5 (by decide) (fun c1 => ?_) (fun c1 => ?_)
  · first | exact absurd c1 (by decide +kernel) | exact absurd (by decide +kernel) c1
  · refine lv_iconst (v := (-1)) hx hb dX9_plan_8 (by decide +kernel) ?_
    subst hAe
    exact W.iret (v := (-1)) hx hb hr (fun t ht _ => ⟨⟨(-1), ws, rfl, rfl, by rw [ht]; exact hP, hD⟩, hS.F ht⟩) hS.2.2 dX9_plan_9

