set_option maxHeartbeats 4000000 in
set_option maxRecDepth 100000 in
/-- forget of a fresh object -/
theorem c_X0_forget (l : Launch) (D : va_G) (K : Nat → ClassId) (tv : Nat) (ws : va_W) (ad : Nat → Nat) (hs0 : hSt0 K ad ws) : hV l D (hTy K) tv yX0_forget cX0_forget 1 none ({ frames := 0, cells := 0, slots := 0, locals := 0 }) [.ref (ad 0)] ws (fun ws1 => ws = ws1) := by
  intro sz
  refine Met.ofW (cc := cX0_forget) (maxL := 1) (ret := none) (by decide) rfl ?_
  intro p e s m args below meth c s₁ B hml hv0
  obtain ⟨rfl, rfl, E, hP, hD⟩ := hentry hv0
  have hx := B.exec
  have hb := B.bytes
  have hr := B.returns
  have hts := atoms_spec (ws := hC yX0_forget cX0_forget 1 none) B.pre
  have hown : s.vm.findClass RX0 = some m.cls := findClass_of_methodNamed B.named
  have hlocks := B.notSynchronized
  generalize hAe : va_A ws s.heap.size = A at hD E ⊢
  have hl := lv_entry ([.ref (ad 0)]) (n := 1) (Nat.le_of_ble_eq_true rfl)
  rw [lg_entry_eq]
  generalize (lg_sl ([.ref (ad 0)]) ++ List.replicate (1 - (lg_sl ([.ref (ad 0)])).length) Slot.unset).toArray = ls at hl ⊢
  have hl : lv_has ls 1 [(0, .ref (ad 0))] := hl
  refine hat0 (fun H hHe => ?_)
  have hP : va_P D vwCl ws H := by rw [hHe]; exact hP
  have hS : va_S A s.heap H [] := by rw [hHe]; exact va_S.rf
  obtain ⟨h0, hTr0, hPl0, hPs0, hO26, h28, hO29, hO31, h33, ⟨fq34, h34, hf34⟩, h35, h36, h37, hSp0⟩ := id hs0
  have h1 := hTr0.1
  have h6 := hPl0.1
  obtain ⟨f26, u26, ⟨h26, -⟩, -⟩ := id hO26
  refine lv_aload_n hx hb dX0_forget_0 rfl (lv_at hl 0 rfl) ?_
  refine lv_bipush (v := (-4)) hx hb dX0_forget_1 (by decide +kernel) ?_
  refine va_put (v := .int (-4)) (ty := .int) (C := RX0) (T := TX0) (N := 6) hx hb hts (hin_X0 hmc) tyX0 tyX0_ok nmX0 hown E.1.1 hP hD hS 0 h0 rfl 5 (by decide) (hts _ (hmc _ k_217)) (fun _ h9 => h9) rfl (by decide +kernel) rfl rfl (Nat.le_of_ble_eq_true rfl) dX0_forget_3 (fun H locs hP hD hS => ?_)
  have hP : va_P D vwCl ws H := by rw [← hset_same h0]; exact hP
  have hD : va_D A ws := by rw [← hset_same h0]; exact hD
  refine lv_aload_n hx hb dX0_forget_6 rfl (lv_at hl 0 rfl) ?_
  refine va_get (v := .ref (ad 6)) (C := RX0) (T := TX0) (N := 6) hx hb hts (hin_X0 hmc) hown E.1.1 hP 0 h0 rfl 1 (by decide) (hts _ (hmc _ k_213)) (fun _ h9 => h9) rfl dX0_forget_7 ?_
  refine lv_iconst (v := nI 0) hx hb dX0_forget_10 (by decide +kernel) ?_
  refine va_putN (v := .int (nI 0)) (ty := .boolean) (C := RX3) (T := TX3) (N := 3) hx hb hts (hin_X3 hmc) tyX3 tyX3_ok nmX3 hown E.1.1 hP hD hS 6 h6 rfl 2 (by decide) (va_Nw.use rfl (E.1.2.1 _ k_91)) (fun _ h9 => h9) rfl (by decide +kernel) rfl rfl (Nat.le_of_ble_eq_true rfl) dX0_forget_11 (fun H locs hP hD hS => ?_)
  have hP : va_P D vwCl ws H := by rw [← hset_same h6]; exact hP
  have hD : va_D A ws := by rw [← hset_same h6]; exact hD
  refine lv_aload_n hx hb dX0_forget_14 rfl (lv_at hl 0 rfl) ?_
  refine va_get (v := .ref (ad 28)) (C := RX0) (T := TX0) (N := 6) hx hb hts (hin_X0 hmc) hown E.1.1 hP 0 h0 rfl 3 (by decide) (hts _ (hmc _ k_215)) (fun _ h9 => h9) rfl dX0_forget_15 ?_
  refine lv_iconst (v := nI 0) hx hb dX0_forget_18 (by decide +kernel) ?_
  refine va_putN (v := .int (nI 0)) (ty := .boolean) (C := RX5) (T := TX5) (N := 4) hx hb hts (hin_X5 hmc) tyX5 tyX5_ok nmX5 hown E.1.1 hP hD hS 28 h28 rfl 3 (by decide) (va_Nw.use rfl (E.1.2.1 _ k_131)) (fun _ h9 => h9) rfl (by decide +kernel) rfl rfl (Nat.le_of_ble_eq_true rfl) dX0_forget_19 (fun H locs hP hD hS => ?_)
  have hP : va_P D vwCl ws H := by rw [← hset_same h28]; exact hP
  have hD : va_D A ws := by rw [← hset_same h28]; exact hD
  subst hAe
  exact W.vret hx hb hr (fun t ht _ => ⟨⟨ws, rfl, rfl, by rw [ht]; exact hP, hD⟩, hS.F ht⟩) hS.2.2 dX0_forget_22


set_option maxHeartbeats 4000000 in
set_option maxRecDepth 100000 in
/-- insert of a fresh object -/
theorem c_X0_insert (l : Launch) (D : va_G) (K : Nat → ClassId) (tv : Nat) (ws : va_W) (ad : Nat → Nat) (hs0 : hSt0 K ad ws) (x y z : Int32) : hI l D (hTy K) tv yX0_insert cX0_insert 4 (some .int) ({ frames := 4, cells := 0, slots := 0, locals := 240 }) [.ref (ad 0), .int x, .int y, .int z] ws (fun r _ => r = if hOkN x ∧ hOkN y ∧ hOkN z then nI 1 else (-1)) := by
  intro sz
  refine Met.ofW (cc := cX0_insert) (maxL := 4) (ret := (some .int)) (by decide) rfl ?_
  intro p e s m args below meth c s₁ B hml hv0
  obtain ⟨rfl, rfl, E, hP, hD⟩ := hentry hv0
  have hx := B.exec
  have hb := B.bytes
  have hr := B.returns
  have hts := atoms_spec (ws := hC yX0_insert cX0_insert 4 (some .int)) B.pre
  have hown : s.vm.findClass RX0 = some m.cls := findClass_of_methodNamed B.named
  have hlocks := B.notSynchronized
  generalize hAe : va_A ws s.heap.size = A at hD E ⊢
  have hl := lv_entry ([.ref (ad 0), .int x, .int y, .int z]) (n := 4) (Nat.le_of_ble_eq_true rfl)
  rw [lg_entry_eq]
  generalize (lg_sl ([.ref (ad 0), .int x, .int y, .int z]) ++ List.replicate (4 - (lg_sl ([.ref (ad 0), .int x, .int y, .int z])).length) Slot.unset).toArray = ls at hl ⊢
  have hl : lv_has ls 4 [(0, .ref (ad 0)), (1, .int x), (2, .int y), (3, .int z)] := hl
  refine hat0 (fun H hHe => ?_)
  have hP : va_P D vwCl ws H := by rw [hHe]; exact hP
  have hS : va_S A s.heap H [] := by rw [hHe]; exact va_S.rf
  obtain ⟨h0, hTr0, hPl0, hPs0, hO26, h28, hO29, hO31, h33, ⟨fq34, h34, hf34⟩, h35, h36, h37, hSp0⟩ := id hs0
  have h1 := hTr0.1
  have h6 := hPl0.1
  obtain ⟨f26, u26, ⟨h26, -⟩, -⟩ := id hO26
  refine lv_aload_n hx hb dX0_insert_0 rfl (lv_at hl 0 rfl) ?_
  refine hc_v E hD hS (va_runV (As := []) (rest := []) ⟨hx, hb, hml, hown, hts⟩ ((c_X0_forget l D K tv ws ad hs0) H.size) (cwV 0 hts (hGV hmc k_235 k_237 k_0 k_20 k_238) rfl rfl rfl (by decide +kernel) ⟨Nat.le_of_ble_eq_true rfl, Nat.le_of_ble_eq_true rfl⟩) (hpreV E hP hD hS h0 rfl) rfl rfl hl.1 rfl (lv_room (Nat.le_of_ble_eq_true rfl)) dX0_insert_1 ⟨(Nat.le_refl _), (Nat.le_refl _)⟩) (fun ws1 H locs hp hP hD hS => ?_)
  obtain rfl := hp
  refine lv_iload_n hx hb dX0_insert_4 rfl (lv_at hl 1 rfl) ?_
  refine hc_si (va_runS (As := [.int x]) (rest := []) ⟨hx, hb, hml, hown, hts⟩ (c_X0_isNumber l x) (va_cwS 1 hts (hGS hmc k_239 k_240 k_20 k_241) rfl rfl rfl (by decide +kernel) ⟨Nat.le_of_ble_eq_true rfl, Nat.le_of_ble_eq_true rfl⟩) hpre0 rfl rfl hl.1 rfl (lv_room (Nat.le_of_ble_eq_true rfl)) dX0_insert_5 ⟨(Nat.le_refl _), (Nat.le_refl _)⟩) (fun r2 b1 => ?_)
  refine lv_if_eq (tgt := 25) hx hb dX0_insert_8 (by decide) (fun c1 => ?_) (fun c1 => ?_)
  · refine lv_iconst (v := (-1)) hx hb dX0_insert_25 (by decide +kernel) ?_
    subst hAe
    exact W.iret (v := (-1)) hx hb hr (fun t ht _ => ⟨⟨(-1), ws, rfl, (if_neg (fun q => b1.f c1 q.1)).symm, by rw [ht]; exact hP, hD⟩, hS.F ht⟩) hS.2.2 dX0_insert_26
  · refine lv_iload_n hx hb dX0_insert_11 rfl (lv_at hl 2 rfl) ?_
    refine hc_si (va_runS (As := [.int y]) (rest := []) ⟨hx, hb, hml, hown, hts⟩ (c_X0_isNumber l y) (va_cwS 1 hts (hGS hmc k_239 k_240 k_20 k_241) rfl rfl rfl (by decide +kernel) ⟨Nat.le_of_ble_eq_true rfl, Nat.le_of_ble_eq_true rfl⟩) hpre0 rfl rfl hl.1 rfl (lv_room (Nat.le_of_ble_eq_true rfl)) dX0_insert_12 ⟨(Nat.le_refl _), (Nat.le_refl _)⟩) (fun r3 b2 => ?_)
    refine lv_if_eq (tgt := 25) hx hb dX0_insert_15 (by decide) (fun c2 => ?_) (fun c2 => ?_)
    · refine lv_iconst (v := (-1)) hx hb dX0_insert_25 (by decide +kernel) ?_
      subst hAe
      exact W.iret (v := (-1)) hx hb hr (fun t ht _ => ⟨⟨(-1), ws, rfl, (if_neg (fun q => b2.f c2 q.2.1)).symm, by rw [ht]; exact hP, hD⟩, hS.F ht⟩) hS.2.2 dX0_insert_26
    · refine lv_iload_n hx hb dX0_insert_18 rfl (lv_at hl 3 rfl) ?_
      refine hc_si (va_runS (As := [.int z]) (rest := []) ⟨hx, hb, hml, hown, hts⟩ (c_X0_isNumber l z) (va_cwS 1 hts (hGS hmc k_239 k_240 k_20 k_241) rfl rfl rfl (by decide +kernel) ⟨Nat.le_of_ble_eq_true rfl, Nat.le_of_ble_eq_true rfl⟩) hpre0 rfl rfl hl.1 rfl (lv_room (Nat.le_of_ble_eq_true rfl)) dX0_insert_19 ⟨(Nat.le_refl _), (Nat.le_refl _)⟩) (fun r4 b3 => ?_)
      refine lv_if_ne (tgt := 27) hx hb dX0_insert_22 (by decide) (fun c3 => ?_) (fun c3 => ?_)
      · obtain ⟨na, ha, rfl⟩ := hOkN_of (b1.t c1)
        obtain ⟨nb, hb6, rfl⟩ := hOkN_of (b2.t c2)
        obtain ⟨nc, hc6, rfl⟩ := hOkN_of (b3.t c3)
        refine lv_aload_n hx hb dX0_insert_27 rfl (lv_at hl 0 rfl) ?_
        refine va_get (v := .ref (ad 1)) (C := RX0) (T := TX0) (N := 6) hx hb hts (hin_X0 hmc) hown E.1.1 hP 0 h0 rfl 0 (by decide) (hts _ (hmc _ k_212)) (fun _ h9 => h9) rfl dX0_insert_28 ?_
        refine lv_iload_n hx hb dX0_insert_31 rfl (lv_at hl 1 rfl) ?_
        refine lv_iload_n hx hb dX0_insert_32 rfl (lv_at hl 2 rfl) ?_
        refine lv_iload_n hx hb dX0_insert_33 rfl (lv_at hl 3 rfl) ?_
        refine hc_i E hD hS (va_runV (As := [.int (nI na), .int (nI nb), .int (nI nc)]) (rest := []) ⟨hx, hb, hml, hown, hts⟩ ((c_X1_has l D K tv ws ad (fun _ _ => 0) (fun _ _ => 0) 0 (fun _ _ => False) hTr0 hVw0 na nb nc ha hb6 hc6) H.size) (cwV 3 hts (hGV hmc k_242 k_243 k_244 k_21 k_245) rfl rfl rfl (by decide +kernel) ⟨Nat.le_of_ble_eq_true rfl, Nat.le_of_ble_eq_true rfl⟩) (hpreV E hP hD hS h1 rfl) rfl rfl hl.1 rfl (lv_room (Nat.le_of_ble_eq_true rfl)) dX0_insert_34 ⟨(Nat.le_refl _), (Nat.le_refl _)⟩) (fun r6 ws5 H locs hh hP hD hS => ?_)
        obtain ⟨rfl, hh⟩ := hh
        refine lv_if_eq (tgt := 42) hx hb dX0_insert_37 (by decide) (fun c4 => ?_) (fun c4 => ?_)
        · refine lv_aload_n hx hb dX0_insert_42 rfl (lv_at hl 0 rfl) ?_
          refine va_get (v := .ref (ad 1)) (C := RX0) (T := TX0) (N := 6) hx hb hts (hin_X0 hmc) hown E.1.1 hP 0 h0 rfl 0 (by decide) (hts _ (hmc _ k_212)) (fun _ h9 => h9) rfl dX0_insert_43 ?_
          refine va_getN (v := .int (nI 0)) (C := RX1) (T := TX1) (N := 2) hx hb hts (hin_X1 hmc) hown E.1.1 hP 1 h1 rfl 1 (by decide) (va_Nw.use rfl (E.1.2.1 _ k_54)) (fun _ h9 => h9) rfl dX0_insert_46 ?_
          refine lv_sipush (v := nI 640) hx hb dX0_insert_49 (by decide +kernel) ?_
          refine lv_icmp_lt (tgt := 58) hx hb dX0_insert_52 (by decide) (fun c5 => ?_) (fun c5 => ?_)
          · refine lv_aload_n hx hb dX0_insert_58 rfl (lv_at hl 0 rfl) ?_
            refine va_get (v := .ref (ad 1)) (C := RX0) (T := TX0) (N := 6) hx hb hts (hin_X0 hmc) hown E.1.1 hP 0 h0 rfl 0 (by decide) (hts _ (hmc _ k_212)) (fun _ h9 => h9) rfl dX0_insert_59 ?_
            refine lv_iload_n hx hb dX0_insert_62 rfl (lv_at hl 1 rfl) ?_
            refine lv_iload_n hx hb dX0_insert_63 rfl (lv_at hl 2 rfl) ?_
            refine lv_iload_n hx hb dX0_insert_64 rfl (lv_at hl 3 rfl) ?_
            refine hc_v E hD hS (va_runV (As := [.int (nI na), .int (nI nb), .int (nI nc)]) (rest := []) ⟨hx, hb, hml, hown, hts⟩ ((c_X1_put l D K tv ws ad (fun _ _ => 0) (fun _ _ => 0) 0 (fun _ _ => False) hTr0 hVw0 na nb nc ha hb6 hc6 (by decide)) H.size) (cwV 3 hts (hGV hmc k_262 k_263 k_264 k_21 k_265) rfl rfl rfl (by decide +kernel) ⟨Nat.le_of_ble_eq_true rfl, Nat.le_of_ble_eq_true rfl⟩) (hpreV E hP hD hS h1 rfl) rfl rfl hl.1 rfl (lv_room (Nat.le_of_ble_eq_true rfl)) dX0_insert_65 ⟨(Nat.le_refl _), (Nat.le_refl _)⟩) (fun ws7 H locs hp hP hD hS => ?_)
            refine lv_iconst (v := nI 1) hx hb dX0_insert_68 (by decide +kernel) ?_
            subst hAe
            exact W.iret (v := nI 1) hx hb hr (fun t ht _ => ⟨⟨nI 1, ws7, rfl, (if_pos ⟨hOkN_nI ha, hOkN_nI hb6, hOkN_nI hc6⟩).symm, by rw [ht]; exact hP, hD⟩, hS.F ht⟩) hS.2.2 dX0_insert_69
          · exact absurd (by decide +kernel) c5
        · exact (hh.t c4).elim
      · refine lv_iconst (v := (-1)) hx hb dX0_insert_25 (by decide +kernel) ?_
        subst hAe
        exact W.iret (v := (-1)) hx hb hr (fun t ht _ => ⟨⟨(-1), ws, rfl, (if_neg (fun q => b3.f c3 q.2.2)).symm, by rw [ht]; exact hP, hD⟩, hS.F ht⟩) hS.2.2 dX0_insert_26


set_option maxHeartbeats 4000000 in
set_option maxRecDepth 100000 in
/-- remove of a fresh object -/
theorem c_X0_remove (l : Launch) (D : va_G) (K : Nat → ClassId) (tv : Nat) (ws : va_W) (ad : Nat → Nat) (hs0 : hSt0 K ad ws) (x y z : Int32) : hI l D (hTy K) tv yX0_remove cX0_remove 4 (some .int) ({ frames := 4, cells := 0, slots := 0, locals := 240 }) [.ref (ad 0), .int x, .int y, .int z] ws (fun r _ => r = if hOkN x ∧ hOkN y ∧ hOkN z then nI 0 else (-1)) := by
  intro sz
  refine Met.ofW (cc := cX0_remove) (maxL := 4) (ret := (some .int)) (by decide) rfl ?_
  intro p e s m args below meth c s₁ B hml hv0
  obtain ⟨rfl, rfl, E, hP, hD⟩ := hentry hv0
  have hx := B.exec
  have hb := B.bytes
  have hr := B.returns
  have hts := atoms_spec (ws := hC yX0_remove cX0_remove 4 (some .int)) B.pre
  have hown : s.vm.findClass RX0 = some m.cls := findClass_of_methodNamed B.named
  have hlocks := B.notSynchronized
  generalize hAe : va_A ws s.heap.size = A at hD E ⊢
  have hl := lv_entry ([.ref (ad 0), .int x, .int y, .int z]) (n := 4) (Nat.le_of_ble_eq_true rfl)
  rw [lg_entry_eq]
  generalize (lg_sl ([.ref (ad 0), .int x, .int y, .int z]) ++ List.replicate (4 - (lg_sl ([.ref (ad 0), .int x, .int y, .int z])).length) Slot.unset).toArray = ls at hl ⊢
  have hl : lv_has ls 4 [(0, .ref (ad 0)), (1, .int x), (2, .int y), (3, .int z)] := hl
  refine hat0 (fun H hHe => ?_)
  have hP : va_P D vwCl ws H := by rw [hHe]; exact hP
  have hS : va_S A s.heap H [] := by rw [hHe]; exact va_S.rf
  obtain ⟨h0, hTr0, hPl0, hPs0, hO26, h28, hO29, hO31, h33, ⟨fq34, h34, hf34⟩, h35, h36, h37, hSp0⟩ := id hs0
  have h1 := hTr0.1
  have h6 := hPl0.1
  obtain ⟨f26, u26, ⟨h26, -⟩, -⟩ := id hO26
  refine lv_aload_n hx hb dX0_remove_0 rfl (lv_at hl 0 rfl) ?_
  refine hc_v E hD hS (va_runV (As := []) (rest := []) ⟨hx, hb, hml, hown, hts⟩ ((c_X0_forget l D K tv ws ad hs0) H.size) (cwV 0 hts (hGV hmc k_235 k_237 k_0 k_20 k_238) rfl rfl rfl (by decide +kernel) ⟨Nat.le_of_ble_eq_true rfl, Nat.le_of_ble_eq_true rfl⟩) (hpreV E hP hD hS h0 rfl) rfl rfl hl.1 rfl (lv_room (Nat.le_of_ble_eq_true rfl)) dX0_remove_1 ⟨(Nat.le_refl _), (Nat.le_refl _)⟩) (fun ws1 H locs hp hP hD hS => ?_)
  obtain rfl := hp
  refine lv_iload_n hx hb dX0_remove_4 rfl (lv_at hl 1 rfl) ?_
  refine hc_si (va_runS (As := [.int x]) (rest := []) ⟨hx, hb, hml, hown, hts⟩ (c_X0_isNumber l x) (va_cwS 1 hts (hGS hmc k_239 k_240 k_20 k_241) rfl rfl rfl (by decide +kernel) ⟨Nat.le_of_ble_eq_true rfl, Nat.le_of_ble_eq_true rfl⟩) hpre0 rfl rfl hl.1 rfl (lv_room (Nat.le_of_ble_eq_true rfl)) dX0_remove_5 ⟨(Nat.le_refl _), (Nat.le_refl _)⟩) (fun r2 b1 => ?_)
  refine lv_if_eq (tgt := 25) hx hb dX0_remove_8 (by decide) (fun c1 => ?_) (fun c1 => ?_)
  · refine lv_iconst (v := (-1)) hx hb dX0_remove_25 (by decide +kernel) ?_
    subst hAe
    exact W.iret (v := (-1)) hx hb hr (fun t ht _ => ⟨⟨(-1), ws, rfl, (if_neg (fun q => b1.f c1 q.1)).symm, by rw [ht]; exact hP, hD⟩, hS.F ht⟩) hS.2.2 dX0_remove_26
  · refine lv_iload_n hx hb dX0_remove_11 rfl (lv_at hl 2 rfl) ?_
    refine hc_si (va_runS (As := [.int y]) (rest := []) ⟨hx, hb, hml, hown, hts⟩ (c_X0_isNumber l y) (va_cwS 1 hts (hGS hmc k_239 k_240 k_20 k_241) rfl rfl rfl (by decide +kernel) ⟨Nat.le_of_ble_eq_true rfl, Nat.le_of_ble_eq_true rfl⟩) hpre0 rfl rfl hl.1 rfl (lv_room (Nat.le_of_ble_eq_true rfl)) dX0_remove_12 ⟨(Nat.le_refl _), (Nat.le_refl _)⟩) (fun r3 b2 => ?_)
    refine lv_if_eq (tgt := 25) hx hb dX0_remove_15 (by decide) (fun c2 => ?_) (fun c2 => ?_)
    · refine lv_iconst (v := (-1)) hx hb dX0_remove_25 (by decide +kernel) ?_
      subst hAe
      exact W.iret (v := (-1)) hx hb hr (fun t ht _ => ⟨⟨(-1), ws, rfl, (if_neg (fun q => b2.f c2 q.2.1)).symm, by rw [ht]; exact hP, hD⟩, hS.F ht⟩) hS.2.2 dX0_remove_26
    · refine lv_iload_n hx hb dX0_remove_18 rfl (lv_at hl 3 rfl) ?_
      refine hc_si (va_runS (As := [.int z]) (rest := []) ⟨hx, hb, hml, hown, hts⟩ (c_X0_isNumber l z) (va_cwS 1 hts (hGS hmc k_239 k_240 k_20 k_241) rfl rfl rfl (by decide +kernel) ⟨Nat.le_of_ble_eq_true rfl, Nat.le_of_ble_eq_true rfl⟩) hpre0 rfl rfl hl.1 rfl (lv_room (Nat.le_of_ble_eq_true rfl)) dX0_remove_19 ⟨(Nat.le_refl _), (Nat.le_refl _)⟩) (fun r4 b3 => ?_)
      refine lv_if_ne (tgt := 27) hx hb dX0_remove_22 (by decide) (fun c3 => ?_) (fun c3 => ?_)
      · obtain ⟨na, ha, rfl⟩ := hOkN_of (b1.t c1)
        obtain ⟨nb, hb6, rfl⟩ := hOkN_of (b2.t c2)
        obtain ⟨nc, hc6, rfl⟩ := hOkN_of (b3.t c3)
        refine lv_aload_n hx hb dX0_remove_27 rfl (lv_at hl 0 rfl) ?_
        refine va_get (v := .ref (ad 1)) (C := RX0) (T := TX0) (N := 6) hx hb hts (hin_X0 hmc) hown E.1.1 hP 0 h0 rfl 0 (by decide) (hts _ (hmc _ k_212)) (fun _ h9 => h9) rfl dX0_remove_28 ?_
        refine lv_iload_n hx hb dX0_remove_31 rfl (lv_at hl 1 rfl) ?_
        refine lv_iload_n hx hb dX0_remove_32 rfl (lv_at hl 2 rfl) ?_
        refine lv_iload_n hx hb dX0_remove_33 rfl (lv_at hl 3 rfl) ?_
        refine hc_i E hD hS (va_runV (As := [.int (nI na), .int (nI nb), .int (nI nc)]) (rest := []) ⟨hx, hb, hml, hown, hts⟩ ((c_X1_has l D K tv ws ad (fun _ _ => 0) (fun _ _ => 0) 0 (fun _ _ => False) hTr0 hVw0 na nb nc ha hb6 hc6) H.size) (cwV 3 hts (hGV hmc k_242 k_243 k_244 k_21 k_245) rfl rfl rfl (by decide +kernel) ⟨Nat.le_of_ble_eq_true rfl, Nat.le_of_ble_eq_true rfl⟩) (hpreV E hP hD hS h1 rfl) rfl rfl hl.1 rfl (lv_room (Nat.le_of_ble_eq_true rfl)) dX0_remove_34 ⟨(Nat.le_refl _), (Nat.le_refl _)⟩) (fun r6 ws5 H locs hh hP hD hS => ?_)
        obtain ⟨rfl, hh⟩ := hh
        refine lv_if_ne (tgt := 42) hx hb dX0_remove_37 (by decide) (fun c4 => ?_) (fun c4 => ?_)
        · exact (hh.t c4).elim
        · refine lv_iconst (v := nI 0) hx hb dX0_remove_40 (by decide +kernel) ?_
          subst hAe
          exact W.iret (v := nI 0) hx hb hr (fun t ht _ => ⟨⟨nI 0, ws, rfl, (if_pos ⟨hOkN_nI ha, hOkN_nI hb6, hOkN_nI hc6⟩).symm, by rw [ht]; exact hP, hD⟩, hS.F ht⟩) hS.2.2 dX0_remove_41
      · refine lv_iconst (v := (-1)) hx hb dX0_remove_25 (by decide +kernel) ?_
        subst hAe
        exact W.iret (v := (-1)) hx hb hr (fun t ht _ => ⟨⟨(-1), ws, rfl, (if_neg (fun q => b3.f c3 q.2.2)).symm, by rw [ht]; exact hP, hD⟩, hS.F ht⟩) hS.2.2 dX0_remove_26


set_option maxHeartbeats 4000000 in
set_option maxRecDepth 100000 in
/-- triples of a fresh object -/
theorem c_X0_triples (l : Launch) (D : va_G) (K : Nat → ClassId) (tv : Nat) (ws : va_W) (ad : Nat → Nat) (hs0 : hSt0 K ad ws) : hI l D (hTy K) tv yX0_triples cX0_triples 1 (some .int) ({ frames := 0, cells := 0, slots := 0, locals := 0 }) [.ref (ad 0)] ws (fun r _ => r = nI 0) := by
  intro sz
  refine Met.ofW (cc := cX0_triples) (maxL := 1) (ret := (some .int)) (by decide) rfl ?_
  intro p e s m args below meth c s₁ B hml hv0
  obtain ⟨rfl, rfl, E, hP, hD⟩ := hentry hv0
  have hx := B.exec
  have hb := B.bytes
  have hr := B.returns
  have hts := atoms_spec (ws := hC yX0_triples cX0_triples 1 (some .int)) B.pre
  have hown : s.vm.findClass RX0 = some m.cls := findClass_of_methodNamed B.named
  have hlocks := B.notSynchronized
  generalize hAe : va_A ws s.heap.size = A at hD E ⊢
  have hl := lv_entry ([.ref (ad 0)]) (n := 1) (Nat.le_of_ble_eq_true rfl)
  rw [lg_entry_eq]
  generalize (lg_sl ([.ref (ad 0)]) ++ List.replicate (1 - (lg_sl ([.ref (ad 0)])).length) Slot.unset).toArray = ls at hl ⊢
  have hl : lv_has ls 1 [(0, .ref (ad 0))] := hl
  refine hat0 (fun H hHe => ?_)
  have hP : va_P D vwCl ws H := by rw [hHe]; exact hP
  have hS : va_S A s.heap H [] := by rw [hHe]; exact va_S.rf
  obtain ⟨h0, hTr0, hPl0, hPs0, hO26, h28, hO29, hO31, h33, ⟨fq34, h34, hf34⟩, h35, h36, h37, hSp0⟩ := id hs0
  have h1 := hTr0.1
  have h6 := hPl0.1
  obtain ⟨f26, u26, ⟨h26, -⟩, -⟩ := id hO26
  refine lv_aload_n hx hb dX0_triples_0 rfl (lv_at hl 0 rfl) ?_
  refine va_get (v := .ref (ad 1)) (C := RX0) (T := TX0) (N := 6) hx hb hts (hin_X0 hmc) hown E.1.1 hP 0 h0 rfl 0 (by decide) (hts _ (hmc _ k_212)) (fun _ h9 => h9) rfl dX0_triples_1 ?_
  refine va_getN (v := .int (nI 0)) (C := RX1) (T := TX1) (N := 2) hx hb hts (hin_X1 hmc) hown E.1.1 hP 1 h1 rfl 1 (by decide) (va_Nw.use rfl (E.1.2.1 _ k_54)) (fun _ h9 => h9) rfl dX0_triples_4 ?_
  subst hAe
  exact W.iret (v := nI 0) hx hb hr (fun t ht _ => ⟨⟨nI 0, ws, rfl, rfl, by rw [ht]; exact hP, hD⟩, hS.F ht⟩) hS.2.2 dX0_triples_7


set_option maxHeartbeats 4000000 in
set_option maxRecDepth 100000 in
/-- pattern of a fresh object -/
theorem c_X0_pattern (l : Launch) (D : va_G) (K : Nat → ClassId) (tv : Nat) (ws : va_W) (ad : Nat → Nat) (hs0 : hSt0 K ad ws) (x y z : Int32) : hI l D (hTy K) tv yX0_pattern cX0_pattern 4 (some .int) ({ frames := 3, cells := 0, slots := 0, locals := 180 }) [.ref (ad 0), .int x, .int y, .int z] ws (fun r _ => r = if (hOkN x ∨ hOkV x) ∧ (hOkN y ∨ hOkV y) ∧ (hOkN z ∨ hOkV z) then nI 0 else (-1)) := by
  intro sz
  refine Met.ofW (cc := cX0_pattern) (maxL := 4) (ret := (some .int)) (by decide) rfl ?_
  intro p e s m args below meth c s₁ B hml hv0
  obtain ⟨rfl, rfl, E, hP, hD⟩ := hentry hv0
  have hx := B.exec
  have hb := B.bytes
  have hr := B.returns
  have hts := atoms_spec (ws := hC yX0_pattern cX0_pattern 4 (some .int)) B.pre
  have hown : s.vm.findClass RX0 = some m.cls := findClass_of_methodNamed B.named
  have hlocks := B.notSynchronized
  generalize hAe : va_A ws s.heap.size = A at hD E ⊢
  have hl := lv_entry ([.ref (ad 0), .int x, .int y, .int z]) (n := 4) (Nat.le_of_ble_eq_true rfl)
  rw [lg_entry_eq]
  generalize (lg_sl ([.ref (ad 0), .int x, .int y, .int z]) ++ List.replicate (4 - (lg_sl ([.ref (ad 0), .int x, .int y, .int z])).length) Slot.unset).toArray = ls at hl ⊢
  have hl : lv_has ls 4 [(0, .ref (ad 0)), (1, .int x), (2, .int y), (3, .int z)] := hl
  refine hat0 (fun H hHe => ?_)
  have hP : va_P D vwCl ws H := by rw [hHe]; exact hP
  have hS : va_S A s.heap H [] := by rw [hHe]; exact va_S.rf
  obtain ⟨h0, hTr0, hPl0, hPs0, hO26, h28, hO29, hO31, h33, ⟨fq34, h34, hf34⟩, h35, h36, h37, hSp0⟩ := id hs0
  have h1 := hTr0.1
  have h6 := hPl0.1
  obtain ⟨f26, u26, ⟨h26, -⟩, -⟩ := id hO26
  refine lv_aload_n hx hb dX0_pattern_0 rfl (lv_at hl 0 rfl) ?_
  refine hc_v E hD hS (va_runV (As := []) (rest := []) ⟨hx, hb, hml, hown, hts⟩ ((c_X0_forget l D K tv ws ad hs0) H.size) (cwV 0 hts (hGV hmc k_235 k_237 k_0 k_20 k_238) rfl rfl rfl (by decide +kernel) ⟨Nat.le_of_ble_eq_true rfl, Nat.le_of_ble_eq_true rfl⟩) (hpreV E hP hD hS h0 rfl) rfl rfl hl.1 rfl (lv_room (Nat.le_of_ble_eq_true rfl)) dX0_pattern_1 ⟨(Nat.le_refl _), (Nat.le_refl _)⟩) (fun ws1 H locs hp hP hD hS => ?_)
  obtain rfl := hp
  refine lv_iload_n hx hb dX0_pattern_4 rfl (lv_at hl 1 rfl) ?_
  refine hc_si (va_runS (As := [.int x]) (rest := []) ⟨hx, hb, hml, hown, hts⟩ (c_X0_isItem l x) (va_cwS 1 hts (hGS hmc k_286 k_287 k_20 k_288) rfl rfl rfl (by decide +kernel) ⟨Nat.le_of_ble_eq_true rfl, Nat.le_of_ble_eq_true rfl⟩) hpre0 rfl rfl hl.1 rfl (lv_room (Nat.le_of_ble_eq_true rfl)) dX0_pattern_5 ⟨(Nat.le_refl _), (Nat.le_refl _)⟩) (fun r2 b1 => ?_)
  refine lv_if_eq (tgt := 25) hx hb dX0_pattern_8 (by decide) (fun c1 => ?_) (fun c1 => ?_)
  · refine lv_iconst (v := (-1)) hx hb dX0_pattern_25 (by decide +kernel) ?_
    subst hAe
    exact W.iret (v := (-1)) hx hb hr (fun t ht _ => ⟨⟨(-1), ws, rfl, (if_neg (fun q => b1.f c1 q.1)).symm, by rw [ht]; exact hP, hD⟩, hS.F ht⟩) hS.2.2 dX0_pattern_26
  · refine lv_iload_n hx hb dX0_pattern_11 rfl (lv_at hl 2 rfl) ?_
    refine hc_si (va_runS (As := [.int y]) (rest := []) ⟨hx, hb, hml, hown, hts⟩ (c_X0_isItem l y) (va_cwS 1 hts (hGS hmc k_286 k_287 k_20 k_288) rfl rfl rfl (by decide +kernel) ⟨Nat.le_of_ble_eq_true rfl, Nat.le_of_ble_eq_true rfl⟩) hpre0 rfl rfl hl.1 rfl (lv_room (Nat.le_of_ble_eq_true rfl)) dX0_pattern_12 ⟨(Nat.le_refl _), (Nat.le_refl _)⟩) (fun r3 b2 => ?_)
    refine lv_if_eq (tgt := 25) hx hb dX0_pattern_15 (by decide) (fun c2 => ?_) (fun c2 => ?_)
    · refine lv_iconst (v := (-1)) hx hb dX0_pattern_25 (by decide +kernel) ?_
      subst hAe
      exact W.iret (v := (-1)) hx hb hr (fun t ht _ => ⟨⟨(-1), ws, rfl, (if_neg (fun q => b2.f c2 q.2.1)).symm, by rw [ht]; exact hP, hD⟩, hS.F ht⟩) hS.2.2 dX0_pattern_26
    · refine lv_iload_n hx hb dX0_pattern_18 rfl (lv_at hl 3 rfl) ?_
      refine hc_si (va_runS (As := [.int z]) (rest := []) ⟨hx, hb, hml, hown, hts⟩ (c_X0_isItem l z) (va_cwS 1 hts (hGS hmc k_286 k_287 k_20 k_288) rfl rfl rfl (by decide +kernel) ⟨Nat.le_of_ble_eq_true rfl, Nat.le_of_ble_eq_true rfl⟩) hpre0 rfl rfl hl.1 rfl (lv_room (Nat.le_of_ble_eq_true rfl)) dX0_pattern_19 ⟨(Nat.le_refl _), (Nat.le_refl _)⟩) (fun r4 b3 => ?_)
      refine lv_if_ne (tgt := 27) hx hb dX0_pattern_22 (by decide) (fun c3 => ?_) (fun c3 => ?_)
      · have hall := And.intro (b1.t c1) (And.intro (b2.t c2) (b3.t c3))
        obtain ⟨x0, hx0, rfl⟩ := hOk_of (b1.t c1)
        obtain ⟨x1, hx1, rfl⟩ := hOk_of (b2.t c2)
        obtain ⟨x2, hx2, rfl⟩ := hOk_of (b3.t c3)
        refine lv_aload_n hx hb dX0_pattern_27 rfl (lv_at hl 0 rfl) ?_
        refine va_get (v := .ref (ad 6)) (C := RX0) (T := TX0) (N := 6) hx hb hts (hin_X0 hmc) hown E.1.1 hP 0 h0 rfl 1 (by decide) (hts _ (hmc _ k_213)) (fun _ h9 => h9) rfl dX0_pattern_28 ?_
        refine va_getN (v := .int (nI 0)) (C := RX3) (T := TX3) (N := 3) hx hb hts (hin_X3 hmc) hown E.1.1 hP 6 h6 rfl 1 (by decide) (va_Nw.use rfl (E.1.2.1 _ k_89)) (fun _ h9 => h9) rfl dX0_pattern_31 ?_
        refine lv_bipush (v := nI 6) hx hb dX0_pattern_34 (by decide +kernel) ?_
        refine lv_icmp_lt (tgt := 42) hx hb dX0_pattern_36 (by decide) (fun c5 => ?_) (fun c5 => ?_)
        · refine lv_aload_n hx hb dX0_pattern_42 rfl (lv_at hl 0 rfl) ?_
          refine va_get (v := .ref (ad 6)) (C := RX0) (T := TX0) (N := 6) hx hb hts (hin_X0 hmc) hown E.1.1 hP 0 h0 rfl 1 (by decide) (hts _ (hmc _ k_213)) (fun _ h9 => h9) rfl dX0_pattern_43 ?_
          refine lv_iload_n hx hb dX0_pattern_46 rfl (lv_at hl 1 rfl) ?_
          refine lv_iload_n hx hb dX0_pattern_47 rfl (lv_at hl 2 rfl) ?_
          refine lv_iload_n hx hb dX0_pattern_48 rfl (lv_at hl 3 rfl) ?_
          refine hc_v E hD hS (va_runV (As := [.int (hit x0), .int (hit x1), .int (hit x2)]) (rest := []) ⟨hx, hb, hml, hown, hts⟩ ((c_X3_append l D K tv ws ad 0 0 hPl0 (by decide) (fun _ _ => 0) (fun _ _ => 0) (fun _ => 0) hPs0 (by decide) x0 x1 x2 hx0 hx1 hx2) H.size) (cwV 3 hts (hGV hmc k_292 k_293 k_294 k_22 k_295) rfl rfl rfl (by decide +kernel) ⟨Nat.le_of_ble_eq_true rfl, Nat.le_of_ble_eq_true rfl⟩) (hpreV E hP hD hS h6 rfl) rfl rfl hl.1 rfl (lv_room (Nat.le_of_ble_eq_true rfl)) dX0_pattern_49 ⟨(Nat.le_refl _), (Nat.le_refl _)⟩) (fun ws5 H locs hp hP hD hS => ?_)
          obtain ⟨hg, hPl1, -⟩ := hp
          have h0 := (hg.2 0 (by omega)).trans h0
          have h26 := (hg.2 26 (by omega)).trans h26
          refine lv_aload_n hx hb dX0_pattern_52 rfl (lv_at hl 0 rfl) ?_
          refine va_get (v := .ref (ad 26)) (C := RX0) (T := TX0) (N := 6) hx hb hts (hin_X0 hmc) hown E.1.1 hP 0 h0 rfl 2 (by decide) (hts _ (hmc _ k_214)) (fun _ h9 => h9) rfl dX0_pattern_53 ?_
          refine hc_v E hD hS (va_runV (As := []) (rest := []) ⟨hx, hb, hml, hown, hts⟩ ((c_X4_makeEmpty l D K tv ws5 ad 26 [] (hO26.ag hg (by omega))) H.size) (cwV 0 hts (hGV hmc k_300 k_301 k_302 k_24 k_303) rfl rfl rfl (by decide +kernel) ⟨Nat.le_of_ble_eq_true rfl, Nat.le_of_ble_eq_true rfl⟩) (hpreV E hP hD hS h26 rfl) rfl rfl hl.1 rfl (lv_room (Nat.le_of_ble_eq_true rfl)) dX0_pattern_56 ⟨(Nat.le_refl _), (Nat.le_refl _)⟩) (fun ws6 H locs hp hP hD hS => ?_)
          obtain ⟨hg2, -⟩ := hp
          have h6 := (hPl1.ag hg2 (by omega)).1
          have h0 := (hg2.2 0 (by omega)).trans h0
          refine lv_aload_n hx hb dX0_pattern_59 rfl (lv_at hl 0 rfl) ?_
          refine va_get (v := .ref (ad 6)) (C := RX0) (T := TX0) (N := 6) hx hb hts (hin_X0 hmc) hown E.1.1 hP 0 h0 rfl 1 (by decide) (hts _ (hmc _ k_213)) (fun _ h9 => h9) rfl dX0_pattern_60 ?_
          refine va_getN (v := .int (nI (0 + 1))) (C := RX3) (T := TX3) (N := 3) hx hb hts (hin_X3 hmc) hown E.1.1 hP 6 h6 rfl 1 (by decide) (va_Nw.use rfl (E.1.2.1 _ k_89)) (fun _ h9 => h9) rfl dX0_pattern_63 ?_
          refine lv_iconst (v := nI 1) hx hb dX0_pattern_66 (by decide +kernel) ?_
          refine lv_isub hx hb dX0_pattern_67 ?_
          refine htopi (v := nI 0) (by decide +kernel) ?_
          subst hAe
          exact W.iret (v := nI 0) hx hb hr (fun t ht _ => ⟨⟨nI 0, ws6, rfl, (if_pos hall).symm, by rw [ht]; exact hP, hD⟩, hS.F ht⟩) hS.2.2 dX0_pattern_68
        · exact absurd (by decide +kernel) c5
      · refine lv_iconst (v := (-1)) hx hb dX0_pattern_25 (by decide +kernel) ?_
        subst hAe
        exact W.iret (v := (-1)) hx hb hr (fun t ht _ => ⟨⟨(-1), ws, rfl, (if_neg (fun q => b3.f c3 q.2.2)).symm, by rw [ht]; exact hP, hD⟩, hS.F ht⟩) hS.2.2 dX0_pattern_26


set_option maxHeartbeats 4000000 in
set_option maxRecDepth 100000 in
/-- clear of a fresh object -/
theorem c_X0_clear (l : Launch) (D : va_G) (K : Nat → ClassId) (tv : Nat) (ws : va_W) (ad : Nat → Nat) (hs0 : hSt0 K ad ws) : hI l D (hTy K) tv yX0_clear cX0_clear 2 (some .int) ({ frames := 2, cells := 0, slots := 0, locals := 120 }) [.ref (ad 0)] ws (fun r _ => r = nI 0) := by
  intro sz
  refine Met.ofW (cc := cX0_clear) (maxL := 2) (ret := (some .int)) (by decide) rfl ?_
  intro p e s m args below meth c s₁ B hml hv0
  obtain ⟨rfl, rfl, E, hP, hD⟩ := hentry hv0
  have hx := B.exec
  have hb := B.bytes
  have hr := B.returns
  have hts := atoms_spec (ws := hC yX0_clear cX0_clear 2 (some .int)) B.pre
  have hown : s.vm.findClass RX0 = some m.cls := findClass_of_methodNamed B.named
  have hlocks := B.notSynchronized
  generalize hAe : va_A ws s.heap.size = A at hD E ⊢
  have hl := lv_entry ([.ref (ad 0)]) (n := 2) (Nat.le_of_ble_eq_true rfl)
  rw [lg_entry_eq]
  generalize (lg_sl ([.ref (ad 0)]) ++ List.replicate (2 - (lg_sl ([.ref (ad 0)])).length) Slot.unset).toArray = ls at hl ⊢
  have hl : lv_has ls 2 [(0, .ref (ad 0))] := hl
  refine hat0 (fun H hHe => ?_)
  have hP : va_P D vwCl ws H := by rw [hHe]; exact hP
  have hS : va_S A s.heap H [] := by rw [hHe]; exact va_S.rf
  obtain ⟨h0, hTr0, hPl0, hPs0, hO26, h28, hO29, hO31, h33, ⟨fq34, h34, hf34⟩, h35, h36, h37, hSp0⟩ := id hs0
  have h1 := hTr0.1
  have h6 := hPl0.1
  obtain ⟨f26, u26, ⟨h26, -⟩, -⟩ := id hO26
  refine lv_aload_n hx hb dX0_clear_0 rfl (lv_at hl 0 rfl) ?_
  refine hc_v E hD hS (va_runV (As := []) (rest := []) ⟨hx, hb, hml, hown, hts⟩ ((c_X0_forget l D K tv ws ad hs0) H.size) (cwV 0 hts (hGV hmc k_235 k_237 k_0 k_20 k_238) rfl rfl rfl (by decide +kernel) ⟨Nat.le_of_ble_eq_true rfl, Nat.le_of_ble_eq_true rfl⟩) (hpreV E hP hD hS h0 rfl) rfl rfl hl.1 rfl (lv_room (Nat.le_of_ble_eq_true rfl)) dX0_clear_1 ⟨(Nat.le_refl _), (Nat.le_refl _)⟩) (fun ws1 H locs hp hP hD hS => ?_)
  obtain rfl := hp
  refine lv_aload_n hx hb dX0_clear_4 rfl (lv_at hl 0 rfl) ?_
  refine va_get (v := .ref (ad 6)) (C := RX0) (T := TX0) (N := 6) hx hb hts (hin_X0 hmc) hown E.1.1 hP 0 h0 rfl 1 (by decide) (hts _ (hmc _ k_213)) (fun _ h9 => h9) rfl dX0_clear_5 ?_
  refine va_getN (v := .int (nI 0)) (C := RX3) (T := TX3) (N := 3) hx hb hts (hin_X3 hmc) hown E.1.1 hP 6 h6 rfl 1 (by decide) (va_Nw.use rfl (E.1.2.1 _ k_89)) (fun _ h9 => h9) rfl dX0_clear_8 ?_
  refine lv_istore_n (lv' := [(1, .int (nI 0)), (0, .ref (ad 0))]) hx hb dX0_clear_11 rfl hl (by decide) rfl (fun ls hl => ?_)
  refine lv_aload_n hx hb dX0_clear_12 rfl (lv_at hl 1 rfl) ?_
  refine va_get (v := .ref (ad 6)) (C := RX0) (T := TX0) (N := 6) hx hb hts (hin_X0 hmc) hown E.1.1 hP 0 h0 rfl 1 (by decide) (hts _ (hmc _ k_213)) (fun _ h9 => h9) rfl dX0_clear_13 ?_
  refine hc_v E hD hS (va_runV (As := []) (rest := []) ⟨hx, hb, hml, hown, hts⟩ ((c_X3_makeEmpty l D K tv ws ad 0 0 hPl0 (by decide)) H.size) (cwV 0 hts (hGV hmc k_308 k_309 k_310 k_22 k_311) rfl rfl rfl (by decide +kernel) ⟨Nat.le_of_ble_eq_true rfl, Nat.le_of_ble_eq_true rfl⟩) (hpreV E hP hD hS h6 rfl) rfl rfl hl.1 rfl (lv_room (Nat.le_of_ble_eq_true rfl)) dX0_clear_16 ⟨(Nat.le_refl _), (Nat.le_refl _)⟩) (fun ws2 H locs hp hP hD hS => ?_)
  obtain ⟨hg, -⟩ := hp
  have h0 := (hg.2 0 (by omega)).trans h0
  have h26 := (hg.2 26 (by omega)).trans h26
  refine lv_aload_n hx hb dX0_clear_19 rfl (lv_at hl 1 rfl) ?_
  refine va_get (v := .ref (ad 26)) (C := RX0) (T := TX0) (N := 6) hx hb hts (hin_X0 hmc) hown E.1.1 hP 0 h0 rfl 2 (by decide) (hts _ (hmc _ k_214)) (fun _ h9 => h9) rfl dX0_clear_20 ?_
  refine hc_v E hD hS (va_runV (As := []) (rest := []) ⟨hx, hb, hml, hown, hts⟩ ((c_X4_makeEmpty l D K tv ws2 ad 26 [] (hO26.ag hg (by omega))) H.size) (cwV 0 hts (hGV hmc k_300 k_301 k_302 k_24 k_303) rfl rfl rfl (by decide +kernel) ⟨Nat.le_of_ble_eq_true rfl, Nat.le_of_ble_eq_true rfl⟩) (hpreV E hP hD hS h26 rfl) rfl rfl hl.1 rfl (lv_room (Nat.le_of_ble_eq_true rfl)) dX0_clear_23 ⟨(Nat.le_refl _), (Nat.le_refl _)⟩) (fun ws3 H locs hp hP hD hS => ?_)
  refine lv_iload_n hx hb dX0_clear_26 rfl (lv_at hl 0 rfl) ?_
  subst hAe
  exact W.iret (v := nI 0) hx hb hr (fun t ht _ => ⟨⟨nI 0, ws3, rfl, rfl, by rw [ht]; exact hP, hD⟩, hS.F ht⟩) hS.2.2 dX0_clear_27


set_option maxHeartbeats 4000000 in
set_option maxRecDepth 100000 in
/-- estimate of a fresh object -/
theorem c_X0_estimate (l : Launch) (D : va_G) (K : Nat → ClassId) (tv : Nat) (ws : va_W) (ad : Nat → Nat) (hs0 : hSt0 K ad ws) (x y : Int32) : hI l D (hTy K) tv yX0_estimate cX0_estimate 3 (some .int) ({ frames := 1, cells := 0, slots := 0, locals := 60 }) [.ref (ad 0), .int x, .int y] ws (fun r _ => r = (-1)) := by
  intro sz
  refine Met.ofW (cc := cX0_estimate) (maxL := 3) (ret := (some .int)) (by decide) rfl ?_
  intro p e s m args below meth c s₁ B hml hv0
  obtain ⟨rfl, rfl, E, hP, hD⟩ := hentry hv0
  have hx := B.exec
  have hb := B.bytes
  have hr := B.returns
  have hts := atoms_spec (ws := hC yX0_estimate cX0_estimate 3 (some .int)) B.pre
  have hown : s.vm.findClass RX0 = some m.cls := findClass_of_methodNamed B.named
  have hlocks := B.notSynchronized
  generalize hAe : va_A ws s.heap.size = A at hD E ⊢
  have hl := lv_entry ([.ref (ad 0), .int x, .int y]) (n := 3) (Nat.le_of_ble_eq_true rfl)
  rw [lg_entry_eq]
  generalize (lg_sl ([.ref (ad 0), .int x, .int y]) ++ List.replicate (3 - (lg_sl ([.ref (ad 0), .int x, .int y])).length) Slot.unset).toArray = ls at hl ⊢
  have hl : lv_has ls 3 [(0, .ref (ad 0)), (1, .int x), (2, .int y)] := hl
  refine hat0 (fun H hHe => ?_)
  have hP : va_P D vwCl ws H := by rw [hHe]; exact hP
  have hS : va_S A s.heap H [] := by rw [hHe]; exact va_S.rf
  obtain ⟨h0, hTr0, hPl0, hPs0, hO26, h28, hO29, hO31, h33, ⟨fq34, h34, hf34⟩, h35, h36, h37, hSp0⟩ := id hs0
  have h1 := hTr0.1
  have h6 := hPl0.1
  obtain ⟨f26, u26, ⟨h26, -⟩, -⟩ := id hO26
  refine lv_aload_n hx hb dX0_estimate_0 rfl (lv_at hl 0 rfl) ?_
  refine va_get (v := .ref (ad 6)) (C := RX0) (T := TX0) (N := 6) hx hb hts (hin_X0 hmc) hown E.1.1 hP 0 h0 rfl 1 (by decide) (hts _ (hmc _ k_213)) (fun _ h9 => h9) rfl dX0_estimate_1 ?_
  refine lv_iload_n hx hb dX0_estimate_4 rfl (lv_at hl 1 rfl) ?_
  refine hc_i E hD hS (va_runV (As := [.int x]) (rest := []) ⟨hx, hb, hml, hown, hts⟩ ((c_X3_has l D K tv ws ad 0 0 hPl0 (by decide) x) H.size) (cwV 1 hts (hGV hmc k_316 k_317 k_318 k_22 k_319) rfl rfl rfl (by decide +kernel) ⟨Nat.le_of_ble_eq_true rfl, Nat.le_of_ble_eq_true rfl⟩) (hpreV E hP hD hS h6 rfl) rfl rfl hl.1 rfl (lv_room (Nat.le_of_ble_eq_true rfl)) dX0_estimate_5 ⟨(Nat.le_refl _), (Nat.le_refl _)⟩) (fun r2 ws1 H locs hh hP hD hS => ?_)
  obtain ⟨rfl, hh⟩ := hh
  refine lv_if_ne (tgt := 13) hx hb dX0_estimate_8 (by decide) (fun c1 => ?_) (fun c1 => ?_)
  · obtain ⟨i, hi, -⟩ := hh.t c1
    omega
  · refine lv_iconst (v := (-1)) hx hb dX0_estimate_11 (by decide +kernel) ?_
    subst hAe
    exact W.iret (v := (-1)) hx hb hr (fun t ht _ => ⟨⟨(-1), ws, rfl, rfl, by rw [ht]; exact hP, hD⟩, hS.F ht⟩) hS.2.2 dX0_estimate_12

