set_option maxHeartbeats 4000000 in
set_option maxRecDepth 100000 in
/-- forget -/
theorem c_X0_forget (l : Launch) (D : va_G) (K : Nat → ClassId) (tv : Nat) (ws : va_W) (ad : Nat → Nat) (F : Nat → Nat → Int32) (cnt : Nat) (I dd : Nat → Nat → Nat) (mm : Nat → Nat) (np ms : Nat) (o : List Nat) (lc rd : Nat) (ob : List Nat) (fd : Int32) (ln tt co b ra sa sc L Sp : Nat) (hb1 : b ≤ 1) (hcx : hCX K ad ws F cnt I dd mm np ms o lc rd ob fd ln tt co b ra sa sc L Sp) : hV l D (hTy K) tv yX0_forget cX0_forget 1 none ({ frames := 0, cells := 0, slots := 0, locals := 0 }) [.ref (ad 0)] ws (fun ws1 => hCX K ad ws1 F cnt I dd mm np 0 o lc 0 ob (-4) ln tt co b ra sa sc L Sp) := by
  intro sz
  refine Met.ofW (cc := cX0_forget) (maxL := 1) (ret := none) (by decide) rfl ?_
  intro p e s m args below meth c s₁ B hml hv0
  obtain ⟨rfl, rfl, E, hP, hD⟩ := hentry hv0
  have hx := B.exec
  have hb := B.bytes
  have hr := B.returns
  have hts := atoms_spec (ws := hC yX0_forget cX0_forget 1 none) B.pre
  have hown : s.vm.findClass RX0 = some m.cls := findClass_of_methodNamed B.named
  have hlocks := B.notSynchronized
  generalize hAe : va_A ws s.heap.size = A at hD E ⊢
  have hl := lv_entry ([.ref (ad 0)]) (n := 1) (Nat.le_of_ble_eq_true rfl)
  rw [lg_entry_eq]
  generalize (lg_sl ([.ref (ad 0)]) ++ List.replicate (1 - (lg_sl ([.ref (ad 0)])).length) Slot.unset).toArray = ls at hl ⊢
  have hl : lv_has ls 1 [(0, .ref (ad 0))] := hl
  refine hat0 (fun H hHe => ?_)
  have hP : va_P D vwCl ws H := by rw [hHe]; exact hP
  have hS : va_S A s.heap H [] := by rw [hHe]; exact va_S.rf
  obtain ⟨h0, hTr0, hPl0, hPs0, hO26, h28, hO29, hO31, h33, ⟨fq34, h34, hf34⟩, hSp0, hSo⟩ := id hcx
  have h6 := hPl0.1
  refine lv_aload_n hx hb dX0_forget_0 rfl (lv_at hl 0 rfl) ?_
  refine lv_bipush (v := (-4)) hx hb dX0_forget_1 (by decide +kernel) ?_
  refine va_put (v := .int (-4)) (ty := .int) (C := RX0) (T := TX0) (N := 6) hx hb hts (hin_X0 hmc) tyX0 tyX0_ok nmX0 hown E.1.1 hP hD hS 0 h0 rfl 5 (by decide) (hts _ (hmc _ k_217)) (fun _ h9 => h9) rfl (by decide +kernel) rfl rfl (Nat.le_of_ble_eq_true rfl) dX0_forget_3 (fun H locs hP hD hS => ?_)
  obtain ⟨ws1, ews1⟩ : ∃ zw : va_W, zw = List.set ws 0 ((ad 0), .inr (iJ, [.ref (ad 1), .ref (ad 6), .ref (ad 26), .ref (ad 28), .ref (ad 33), .int (-4)])) := ⟨_, rfl⟩
  have hP : va_P D vwCl ws1 H := by rw [ews1]; exact hP
  have hD : va_D A ws1 := by rw [ews1]; exact hD
  have h0 : ws1[0]? = some ((ad 0), .inr (iJ, [.ref (ad 1), .ref (ad 6), .ref (ad 26), .ref (ad 28), .ref (ad 33), .int (-4)])) := by rw [ews1]; exact hset_eq h0
  have h6 := (show ws1[6]? = _ from (by rw [ews1]; exact hset_ne (by omega))).trans h6
  have h28 := (show ws1[28]? = _ from (by rw [ews1]; exact hset_ne (by omega))).trans h28
  refine lv_aload_n hx hb dX0_forget_6 rfl (lv_at hl 0 rfl) ?_
  refine va_get (v := .ref (ad 6)) (C := RX0) (T := TX0) (N := 6) hx hb hts (hin_X0 hmc) hown E.1.1 hP 0 h0 rfl 1 (by decide) (hts _ (hmc _ k_213)) (fun _ h9 => h9) rfl dX0_forget_7 ?_
  refine lv_iconst (v := nI 0) hx hb dX0_forget_10 (by decide +kernel) ?_
  refine va_putN (v := .int (nI 0)) (ty := .boolean) (C := RX3) (T := TX3) (N := 3) hx hb hts (hin_X3 hmc) tyX3 tyX3_ok nmX3 hown E.1.1 hP hD hS 6 h6 rfl 2 (by decide) (va_Nw.use rfl (E.1.2.1 _ k_91)) (fun _ h9 => h9) rfl (by decide +kernel) rfl rfl (Nat.le_of_ble_eq_true rfl) dX0_forget_11 (fun H locs hP hD hS => ?_)
  obtain ⟨ws2, ews2⟩ : ∃ zw : va_W, zw = List.set ws1 6 ((ad 6), .inr (iL, [.ref (ad 7), .int (nI np), .int (nI 0)])) := ⟨_, rfl⟩
  have hP : va_P D vwCl ws2 H := by rw [ews2]; exact hP
  have hD : va_D A ws2 := by rw [ews2]; exact hD
  have h0 := (show ws2[0]? = _ from (by rw [ews2]; exact hset_ne (by omega))).trans h0
  have h6 : ws2[6]? = some ((ad 6), .inr (iL, [.ref (ad 7), .int (nI np), .int (nI 0)])) := by rw [ews2]; exact hset_eq h6
  have h28 := (show ws2[28]? = _ from (by rw [ews2]; exact hset_ne (by omega))).trans h28
  refine lv_aload_n hx hb dX0_forget_14 rfl (lv_at hl 0 rfl) ?_
  refine va_get (v := .ref (ad 28)) (C := RX0) (T := TX0) (N := 6) hx hb hts (hin_X0 hmc) hown E.1.1 hP 0 h0 rfl 3 (by decide) (hts _ (hmc _ k_215)) (fun _ h9 => h9) rfl dX0_forget_15 ?_
  refine lv_iconst (v := nI 0) hx hb dX0_forget_18 (by decide +kernel) ?_
  refine va_putN (v := .int (nI 0)) (ty := .boolean) (C := RX5) (T := TX5) (N := 4) hx hb hts (hin_X5 hmc) tyX5 tyX5_ok nmX5 hown E.1.1 hP hD hS 28 h28 rfl 3 (by decide) (va_Nw.use rfl (E.1.2.1 _ k_131)) (fun _ h9 => h9) rfl (by decide +kernel) rfl rfl (Nat.le_of_ble_eq_true rfl) dX0_forget_19 (fun H locs hP hD hS => ?_)
  obtain ⟨ws3, ews3⟩ : ∃ zw : va_W, zw = List.set ws2 28 ((ad 28), .inr (iN, [.ref (ad 29), .ref (ad 31), .long (lN lc), .int (nI 0)])) := ⟨_, rfl⟩
  have hP : va_P D vwCl ws3 H := by rw [ews3]; exact hP
  have hD : va_D A ws3 := by rw [ews3]; exact hD
  have h0 := (show ws3[0]? = _ from (by rw [ews3]; exact hset_ne (by omega))).trans h0
  have h6 := (show ws3[6]? = _ from (by rw [ews3]; exact hset_ne (by omega))).trans h6
  have h28 : ws3[28]? = some ((ad 28), .inr (iN, [.ref (ad 29), .ref (ad 31), .long (lN lc), .int (nI 0)])) := by rw [ews3]; exact hset_eq h28
  have hg1 : hAg 0 1 ws ws1 := by rw [ews1]; exact hAg.rf.set (by decide) (by decide)
  have hg2 : hAg 6 7 ws1 ws2 := by rw [ews2]; exact hAg.rf.set (by decide) (by decide)
  have hg3 : hAg 28 29 ws2 ws3 := by rw [ews3]; exact hAg.rf.set (by decide) (by decide)
  have k0 := h0
  have k28 := h28
  obtain ⟨-, fq7, h7, hf7⟩ := id hPl0
  have h7 := (hg3.2 7 (by omega)).trans ((hg2.2 7 (by omega)).trans ((hg1.2 7 (by omega)).trans h7))
  have hTr0 := ((hTr0.ag hg1 (by omega)).ag hg2 (by omega)).ag hg3 (by omega)
  have hPs0 := ((hPs0.ag hg1 (by omega)).ag hg2 (by omega)).ag hg3 (by omega)
  have hO26 := ((hO26.ag hg1 (by omega)).ag hg2 (by omega)).ag hg3 (by omega)
  have hO29 := ((hO29.ag hg1 (by omega)).ag hg2 (by omega)).ag hg3 (by omega)
  have hO31 := ((hO31.ag hg1 (by omega)).ag hg2 (by omega)).ag hg3 (by omega)
  have h33 := (hg3.2 33 (by omega)).trans ((hg2.2 33 (by omega)).trans ((hg1.2 33 (by omega)).trans h33))
  have h34 := (hg3.2 34 (by omega)).trans ((hg2.2 34 (by omega)).trans ((hg1.2 34 (by omega)).trans h34))
  have hSo := ((hSo.ag hb1 hg1 (by omega)).ag hb1 hg2 (by omega)).ag hb1 hg3 (by omega)
  have hSp0 : ∀ i, i < 6 → ∃ fl It sh nk fx ob1, hStp K ad ws3 (38 + 4 * i) fl It sh nk fx ob1 := fun i hi => by
    obtain ⟨q1, q2, q3, q4, q5, q6, q7⟩ := hSp0 i hi
    exact ⟨q1, q2, q3, q4, q5, q6, ((q7.ag hg1 (by omega)).ag hg2 (by omega)).ag hg3 (by omega)⟩
  subst hAe
  exact W.vret hx hb hr (fun t ht _ => ⟨⟨ws3, rfl, ⟨k0, hTr0, ⟨h6, fq7, h7, hf7⟩, hPs0, hO26, k28, hO29, hO31, h33, ⟨fq34, h34, hf34⟩, hSp0, hSo⟩, by rw [ht]; exact hP, hD⟩, hS.F ht⟩) hS.2.2 dX0_forget_22

set_option maxHeartbeats 4000000 in
set_option maxRecDepth 100000 in
/-- insert -/
theorem c_X0_insert (l : Launch) (D : va_G) (K : Nat → ClassId) (tv : Nat) (ws : va_W) (ad : Nat → Nat) (S : Nat → Nat → Nat → Prop) (cnt np : Nat) (o : List Nat) (I : Nat → Nat → Nat) (L Sp : Nat) (hcs : hCS K ad ws S cnt np o I L Sp) (x y z : Int32) : hI l D (hTy K) tv yX0_insert cX0_insert 4 (some .int) ({ frames := 4, cells := 0, slots := 0, locals := 240 }) [.ref (ad 0), .int x, .int y, .int z] ws (fun r ws1 => ∃ S1 c1, hInsP S cnt x y z r S1 c1 ∧ hCS K ad ws1 S1 c1 np o I L Sp) := by
  intro sz
  refine Met.ofW (cc := cX0_insert) (maxL := 4) (ret := (some .int)) (by decide) rfl ?_
  intro p e s m args below meth c s₁ B hml hv0
  obtain ⟨rfl, rfl, E, hP, hD⟩ := hentry hv0
  have hx := B.exec
  have hb := B.bytes
  have hr := B.returns
  have hts := atoms_spec (ws := hC yX0_insert cX0_insert 4 (some .int)) B.pre
  have hown : s.vm.findClass RX0 = some m.cls := findClass_of_methodNamed B.named
  have hlocks := B.notSynchronized
  generalize hAe : va_A ws s.heap.size = A at hD E ⊢
  have hl := lv_entry ([.ref (ad 0), .int x, .int y, .int z]) (n := 4) (Nat.le_of_ble_eq_true rfl)
  rw [lg_entry_eq]
  generalize (lg_sl ([.ref (ad 0), .int x, .int y, .int z]) ++ List.replicate (4 - (lg_sl ([.ref (ad 0), .int x, .int y, .int z])).length) Slot.unset).toArray = ls at hl ⊢
  have hl : lv_has ls 4 [(0, .ref (ad 0)), (1, .int x), (2, .int y), (3, .int z)] := hl
  refine hat0 (fun H hHe => ?_)
  have hP : va_P D vwCl ws H := by rw [hHe]; exact hP
  have hS : va_S A s.heap H [] := by rw [hHe]; exact va_S.rf
  obtain ⟨F, g, dd, mm, ms, lc, rd, ob, fd, ln, tt, co, b, ra, sa, sc, hcx, hcb, hcz⟩ := id hcs
  obtain ⟨hfd, hVw1, hnp, hms, hbd, hnd, hon, hrd, hb1, hLL, hLS, hSL, hsL⟩ := id hcb
  obtain ⟨h0, hTr0, hPl0, hPs0, hO26, h28, hO29, hO31, h33, ⟨fq34, h34, hf34⟩, hSp0, hSo⟩ := id hcx
  have h1 := hTr0.1
  have h6 := hPl0.1
  obtain ⟨f26, u26, ⟨h26, -⟩, -⟩ := id hO26
  refine lv_aload_n hx hb dX0_insert_0 rfl (lv_at hl 0 rfl) ?_
  refine hc_v E hD hS (va_runV (As := []) (rest := []) ⟨hx, hb, hml, hown, hts⟩ ((c_X0_forget l D K tv ws ad F cnt I dd mm np ms o lc rd ob fd ln tt co b ra sa sc L Sp hb1 hcx) H.size) (cwV 0 hts (hGV hmc k_235 k_237 k_0 k_20 k_238) rfl rfl rfl (by decide +kernel) ⟨Nat.le_of_ble_eq_true rfl, Nat.le_of_ble_eq_true rfl⟩) (hpreV E hP hD hS h0 rfl) rfl rfl hl.1 rfl (lv_room (Nat.le_of_ble_eq_true rfl)) dX0_insert_1 ⟨(Nat.le_refl _), (Nat.le_refl _)⟩) (fun ws1 H locs hcx hP hD hS => ?_)
  obtain ⟨h0, hTr0, hPl0, hPs0, hO26, h28, hO29, hO31, h33, ⟨fq34, h34, hf34⟩, hSp0, hSo⟩ := id hcx
  have h1 := hTr0.1
  have h6 := hPl0.1
  obtain ⟨f26, u26, ⟨h26, -⟩, -⟩ := id hO26
  refine lv_iload_n hx hb dX0_insert_4 rfl (lv_at hl 1 rfl) ?_
  refine hc_si (va_runS (As := [.int x]) (rest := []) ⟨hx, hb, hml, hown, hts⟩ (c_X0_isNumber l x) (va_cwS 1 hts (hGS hmc k_239 k_240 k_20 k_241) rfl rfl rfl (by decide +kernel) ⟨Nat.le_of_ble_eq_true rfl, Nat.le_of_ble_eq_true rfl⟩) hpre0 rfl rfl hl.1 rfl (lv_room (Nat.le_of_ble_eq_true rfl)) dX0_insert_5 ⟨(Nat.le_refl _), (Nat.le_refl _)⟩) (fun r2 b1 => ?_)
  refine lv_if_eq (tgt := 25) hx hb dX0_insert_8 (by decide) (fun c1 => ?_) (fun c1 => ?_)
  · refine lv_iconst (v := (-1)) hx hb dX0_insert_25 (by decide +kernel) ?_
    subst hAe
    exact W.iret (v := (-1)) hx hb hr (fun t ht _ => ⟨⟨(-1), ws1, rfl, ⟨_, _, Or.inl ⟨fun q => b1.f c1 q.1, rfl, rfl, rfl⟩, ⟨_, _, _, _, _, _, _, _, _, _, _, _, _, _, _, _, ⟨h0, hTr0, hPl0, hPs0, hO26, h28, hO29, hO31, h33, ⟨fq34, h34, hf34⟩, hSp0, hSo⟩, ⟨Or.inl rfl, hVw1, hnp, Or.inl rfl, hbd, hnd, hon, Or.inl rfl, hb1, hLL, hLS, hSL, hsL⟩, hCZ0⟩⟩, by rw [ht]; exact hP, hD⟩, hS.F ht⟩) hS.2.2 dX0_insert_26
  · refine lv_iload_n hx hb dX0_insert_11 rfl (lv_at hl 2 rfl) ?_
    refine hc_si (va_runS (As := [.int y]) (rest := []) ⟨hx, hb, hml, hown, hts⟩ (c_X0_isNumber l y) (va_cwS 1 hts (hGS hmc k_239 k_240 k_20 k_241) rfl rfl rfl (by decide +kernel) ⟨Nat.le_of_ble_eq_true rfl, Nat.le_of_ble_eq_true rfl⟩) hpre0 rfl rfl hl.1 rfl (lv_room (Nat.le_of_ble_eq_true rfl)) dX0_insert_12 ⟨(Nat.le_refl _), (Nat.le_refl _)⟩) (fun r3 b2 => ?_)
    refine lv_if_eq (tgt := 25) hx hb dX0_insert_15 (by decide) (fun c2 => ?_) (fun c2 => ?_)
    · refine lv_iconst (v := (-1)) hx hb dX0_insert_25 (by decide +kernel) ?_
      subst hAe
      exact W.iret (v := (-1)) hx hb hr (fun t ht _ => ⟨⟨(-1), ws1, rfl, ⟨_, _, Or.inl ⟨fun q => b2.f c2 q.2.1, rfl, rfl, rfl⟩, ⟨_, _, _, _, _, _, _, _, _, _, _, _, _, _, _, _, ⟨h0, hTr0, hPl0, hPs0, hO26, h28, hO29, hO31, h33, ⟨fq34, h34, hf34⟩, hSp0, hSo⟩, ⟨Or.inl rfl, hVw1, hnp, Or.inl rfl, hbd, hnd, hon, Or.inl rfl, hb1, hLL, hLS, hSL, hsL⟩, hCZ0⟩⟩, by rw [ht]; exact hP, hD⟩, hS.F ht⟩) hS.2.2 dX0_insert_26
    · refine lv_iload_n hx hb dX0_insert_18 rfl (lv_at hl 3 rfl) ?_
      refine hc_si (va_runS (As := [.int z]) (rest := []) ⟨hx, hb, hml, hown, hts⟩ (c_X0_isNumber l z) (va_cwS 1 hts (hGS hmc k_239 k_240 k_20 k_241) rfl rfl rfl (by decide +kernel) ⟨Nat.le_of_ble_eq_true rfl, Nat.le_of_ble_eq_true rfl⟩) hpre0 rfl rfl hl.1 rfl (lv_room (Nat.le_of_ble_eq_true rfl)) dX0_insert_19 ⟨(Nat.le_refl _), (Nat.le_refl _)⟩) (fun r4 b3 => ?_)
      refine lv_if_ne (tgt := 27) hx hb dX0_insert_22 (by decide) (fun c3 => ?_) (fun c3 => ?_)
      · obtain ⟨na, ha, rfl⟩ := hOkN_of (b1.t c1)
        obtain ⟨nb, hb6, rfl⟩ := hOkN_of (b2.t c2)
        obtain ⟨nc, hc6, rfl⟩ := hOkN_of (b3.t c3)
        refine lv_aload_n hx hb dX0_insert_27 rfl (lv_at hl 0 rfl) ?_
        refine va_get (v := .ref (ad 1)) (C := RX0) (T := TX0) (N := 6) hx hb hts (hin_X0 hmc) hown E.1.1 hP 0 h0 rfl 0 (by decide) (hts _ (hmc _ k_212)) (fun _ h9 => h9) rfl dX0_insert_28 ?_
        refine lv_iload_n hx hb dX0_insert_31 rfl (lv_at hl 1 rfl) ?_
        refine lv_iload_n hx hb dX0_insert_32 rfl (lv_at hl 2 rfl) ?_
        refine lv_iload_n hx hb dX0_insert_33 rfl (lv_at hl 3 rfl) ?_
        refine hc_i E hD hS (va_runV (As := [.int (nI na), .int (nI nb), .int (nI nc)]) (rest := []) ⟨hx, hb, hml, hown, hts⟩ ((c_X1_has l D K tv ws1 ad F g cnt (hXv S) hTr0 hVw1 na nb nc ha hb6 hc6) H.size) (cwV 3 hts (hGV hmc k_242 k_243 k_244 k_21 k_245) rfl rfl rfl (by decide +kernel) ⟨Nat.le_of_ble_eq_true rfl, Nat.le_of_ble_eq_true rfl⟩) (hpreV E hP hD hS h1 rfl) rfl rfl hl.1 rfl (lv_room (Nat.le_of_ble_eq_true rfl)) dX0_insert_34 ⟨(Nat.le_refl _), (Nat.le_refl _)⟩) (fun r6 ws5 H locs hh hP hD hS => ?_)
        obtain ⟨rfl, hh⟩ := hh
        refine lv_if_eq (tgt := 42) hx hb dX0_insert_37 (by decide) (fun c4 => ?_) (fun c4 => ?_)
        · refine lv_aload_n hx hb dX0_insert_42 rfl (lv_at hl 0 rfl) ?_
          refine va_get (v := .ref (ad 1)) (C := RX0) (T := TX0) (N := 6) hx hb hts (hin_X0 hmc) hown E.1.1 hP 0 h0 rfl 0 (by decide) (hts _ (hmc _ k_212)) (fun _ h9 => h9) rfl dX0_insert_43 ?_
          refine va_getN (v := .int (nI cnt)) (C := RX1) (T := TX1) (N := 2) hx hb hts (hin_X1 hmc) hown E.1.1 hP 1 h1 rfl 1 (by decide) (va_Nw.use rfl (E.1.2.1 _ k_54)) (fun _ h9 => h9) rfl dX0_insert_46 ?_
          refine lv_sipush (v := nI 640) hx hb dX0_insert_49 (by decide +kernel) ?_
          refine lv_icmp_lt (tgt := 58) hx hb dX0_insert_52 (by decide) (fun c5 => ?_) (fun c5 => ?_)
          · have hlt : cnt < 640 := (nI_ltI (by have := hVw1.1; omega) (by decide)).mp c5
            have hnS : ¬ S na nb nc := fun q => hh.f c4 ((hXv_iff (by decide) ha hb6 hc6).mpr q)
            refine lv_aload_n hx hb dX0_insert_58 rfl (lv_at hl 0 rfl) ?_
            refine va_get (v := .ref (ad 1)) (C := RX0) (T := TX0) (N := 6) hx hb hts (hin_X0 hmc) hown E.1.1 hP 0 h0 rfl 0 (by decide) (hts _ (hmc _ k_212)) (fun _ h9 => h9) rfl dX0_insert_59 ?_
            refine lv_iload_n hx hb dX0_insert_62 rfl (lv_at hl 1 rfl) ?_
            refine lv_iload_n hx hb dX0_insert_63 rfl (lv_at hl 2 rfl) ?_
            refine lv_iload_n hx hb dX0_insert_64 rfl (lv_at hl 3 rfl) ?_
            refine hc_v E hD hS (va_runV (As := [.int (nI na), .int (nI nb), .int (nI nc)]) (rest := []) ⟨hx, hb, hml, hown, hts⟩ ((c_X1_put l D K tv ws1 ad F g cnt (hXv S) hTr0 hVw1 na nb nc ha hb6 hc6 hlt) H.size) (cwV 3 hts (hGV hmc k_262 k_263 k_264 k_21 k_265) rfl rfl rfl (by decide +kernel) ⟨Nat.le_of_ble_eq_true rfl, Nat.le_of_ble_eq_true rfl⟩) (hpreV E hP hD hS h1 rfl) rfl rfl hl.1 rfl (lv_room (Nat.le_of_ble_eq_true rfl)) dX0_insert_65 ⟨(Nat.le_refl _), (Nat.le_refl _)⟩) (fun ws7 H locs hp hP hD hS => ?_)
            obtain ⟨hg, F1, hT1, hF1⟩ := hp
            have h0 := (hg.2 0 (by omega)).trans h0
            have hPl0 := hPl0.ag hg (by omega)
            have hPs0 := hPs0.ag hg (by omega)
            have hO26 := hO26.ag hg (by omega)
            have h28 := (hg.2 28 (by omega)).trans h28
            have hO29 := hO29.ag hg (by omega)
            have hO31 := hO31.ag hg (by omega)
            have h33 := (hg.2 33 (by omega)).trans h33
            have h34 := (hg.2 34 (by omega)).trans h34
            have hSo := hSo.ag hb1 hg (by omega)
            have hSp0 : ∀ i, i < 6 → ∃ fl It sh nk fx ob1, hStp K ad ws7 (38 + 4 * i) fl It sh nk fx ob1 := fun i hi => by
              obtain ⟨q1, q2, q3, q4, q5, q6, q7⟩ := hSp0 i hi
              exact ⟨q1, q2, q3, q4, q5, q6, q7.ag hg (by omega)⟩
            have hTr0 := hT1
            have hVw1 := hVw1.put ha hb6 hc6 hnS hlt hF1
            refine lv_iconst (v := nI 1) hx hb dX0_insert_68 (by decide +kernel) ?_
            subst hAe
            exact W.iret (v := nI 1) hx hb hr (fun t ht _ => ⟨⟨nI 1, ws7, rfl, ⟨_, _, Or.inr ⟨na, nb, nc, ha, hb6, hc6, rfl, rfl, rfl, Or.inr (Or.inr ⟨hnS, hlt, rfl, rfl, rfl⟩)⟩, ⟨_, _, _, _, _, _, _, _, _, _, _, _, _, _, _, _, ⟨h0, hTr0, hPl0, hPs0, hO26, h28, hO29, hO31, h33, ⟨fq34, h34, hf34⟩, hSp0, hSo⟩, ⟨Or.inl rfl, hVw1, hnp, Or.inl rfl, hbd, hnd, hon, Or.inl rfl, hb1, hLL, hLS, hSL, hsL⟩, hCZ0⟩⟩, by rw [ht]; exact hP, hD⟩, hS.F ht⟩) hS.2.2 dX0_insert_69
          · have hge : 640 ≤ cnt := Nat.not_lt.mp (fun q => c5 (nI_lt q (by decide)))
            have hnS : ¬ S na nb nc := fun q => hh.f c4 ((hXv_iff (by decide) ha hb6 hc6).mpr q)
            refine lv_bipush (v := (-3)) hx hb dX0_insert_55 (by decide +kernel) ?_
            subst hAe
            exact W.iret (v := (-3)) hx hb hr (fun t ht _ => ⟨⟨(-3), ws1, rfl, ⟨_, _, Or.inr ⟨na, nb, nc, ha, hb6, hc6, rfl, rfl, rfl, Or.inr (Or.inl ⟨hnS, hge, rfl, rfl, rfl⟩)⟩, ⟨_, _, _, _, _, _, _, _, _, _, _, _, _, _, _, _, ⟨h0, hTr0, hPl0, hPs0, hO26, h28, hO29, hO31, h33, ⟨fq34, h34, hf34⟩, hSp0, hSo⟩, ⟨Or.inl rfl, hVw1, hnp, Or.inl rfl, hbd, hnd, hon, Or.inl rfl, hb1, hLL, hLS, hSL, hsL⟩, hCZ0⟩⟩, by rw [ht]; exact hP, hD⟩, hS.F ht⟩) hS.2.2 dX0_insert_57
        · refine lv_iconst (v := nI 0) hx hb dX0_insert_40 (by decide +kernel) ?_
          subst hAe
          exact W.iret (v := nI 0) hx hb hr (fun t ht _ => ⟨⟨nI 0, ws1, rfl, ⟨_, _, Or.inr ⟨na, nb, nc, ha, hb6, hc6, rfl, rfl, rfl, Or.inl ⟨(hXv_iff (by decide) ha hb6 hc6).mp (hh.t c4), rfl, rfl, rfl⟩⟩, ⟨_, _, _, _, _, _, _, _, _, _, _, _, _, _, _, _, ⟨h0, hTr0, hPl0, hPs0, hO26, h28, hO29, hO31, h33, ⟨fq34, h34, hf34⟩, hSp0, hSo⟩, ⟨Or.inl rfl, hVw1, hnp, Or.inl rfl, hbd, hnd, hon, Or.inl rfl, hb1, hLL, hLS, hSL, hsL⟩, hCZ0⟩⟩, by rw [ht]; exact hP, hD⟩, hS.F ht⟩) hS.2.2 dX0_insert_41
      · refine lv_iconst (v := (-1)) hx hb dX0_insert_25 (by decide +kernel) ?_
        subst hAe
        exact W.iret (v := (-1)) hx hb hr (fun t ht _ => ⟨⟨(-1), ws1, rfl, ⟨_, _, Or.inl ⟨fun q => b3.f c3 q.2.2, rfl, rfl, rfl⟩, ⟨_, _, _, _, _, _, _, _, _, _, _, _, _, _, _, _, ⟨h0, hTr0, hPl0, hPs0, hO26, h28, hO29, hO31, h33, ⟨fq34, h34, hf34⟩, hSp0, hSo⟩, ⟨Or.inl rfl, hVw1, hnp, Or.inl rfl, hbd, hnd, hon, Or.inl rfl, hb1, hLL, hLS, hSL, hsL⟩, hCZ0⟩⟩, by rw [ht]; exact hP, hD⟩, hS.F ht⟩) hS.2.2 dX0_insert_26

set_option maxHeartbeats 4000000 in
set_option maxRecDepth 100000 in
/-- remove -/
theorem c_X0_remove (l : Launch) (D : va_G) (K : Nat → ClassId) (tv : Nat) (ws : va_W) (ad : Nat → Nat) (S : Nat → Nat → Nat → Prop) (cnt np : Nat) (o : List Nat) (I : Nat → Nat → Nat) (L Sp : Nat) (hcs : hCS K ad ws S cnt np o I L Sp) (x y z : Int32) : hI l D (hTy K) tv yX0_remove cX0_remove 4 (some .int) ({ frames := 5, cells := 0, slots := 0, locals := 300 }) [.ref (ad 0), .int x, .int y, .int z] ws (fun r ws1 => ∃ S1 c1, hRemP S cnt x y z r S1 c1 ∧ hCS K ad ws1 S1 c1 np o I L Sp) := by
  intro sz
  refine Met.ofW (cc := cX0_remove) (maxL := 4) (ret := (some .int)) (by decide) rfl ?_
  intro p e s m args below meth c s₁ B hml hv0
  obtain ⟨rfl, rfl, E, hP, hD⟩ := hentry hv0
  have hx := B.exec
  have hb := B.bytes
  have hr := B.returns
  have hts := atoms_spec (ws := hC yX0_remove cX0_remove 4 (some .int)) B.pre
  have hown : s.vm.findClass RX0 = some m.cls := findClass_of_methodNamed B.named
  have hlocks := B.notSynchronized
  generalize hAe : va_A ws s.heap.size = A at hD E ⊢
  have hl := lv_entry ([.ref (ad 0), .int x, .int y, .int z]) (n := 4) (Nat.le_of_ble_eq_true rfl)
  rw [lg_entry_eq]
  generalize (lg_sl ([.ref (ad 0), .int x, .int y, .int z]) ++ List.replicate (4 - (lg_sl ([.ref (ad 0), .int x, .int y, .int z])).length) Slot.unset).toArray = ls at hl ⊢
  have hl : lv_has ls 4 [(0, .ref (ad 0)), (1, .int x), (2, .int y), (3, .int z)] := hl
  refine hat0 (fun H hHe => ?_)
  have hP : va_P D vwCl ws H := by rw [hHe]; exact hP
  have hS : va_S A s.heap H [] := by rw [hHe]; exact va_S.rf
  obtain ⟨F, g, dd, mm, ms, lc, rd, ob, fd, ln, tt, co, b, ra, sa, sc, hcx, hcb, hcz⟩ := id hcs
  obtain ⟨hfd, hVw1, hnp, hms, hbd, hnd, hon, hrd, hb1, hLL, hLS, hSL, hsL⟩ := id hcb
  obtain ⟨h0, hTr0, hPl0, hPs0, hO26, h28, hO29, hO31, h33, ⟨fq34, h34, hf34⟩, hSp0, hSo⟩ := id hcx
  have h1 := hTr0.1
  have h6 := hPl0.1
  obtain ⟨f26, u26, ⟨h26, -⟩, -⟩ := id hO26
  refine lv_aload_n hx hb dX0_remove_0 rfl (lv_at hl 0 rfl) ?_
  refine hc_v E hD hS (va_runV (As := []) (rest := []) ⟨hx, hb, hml, hown, hts⟩ ((c_X0_forget l D K tv ws ad F cnt I dd mm np ms o lc rd ob fd ln tt co b ra sa sc L Sp hb1 hcx) H.size) (cwV 0 hts (hGV hmc k_235 k_237 k_0 k_20 k_238) rfl rfl rfl (by decide +kernel) ⟨Nat.le_of_ble_eq_true rfl, Nat.le_of_ble_eq_true rfl⟩) (hpreV E hP hD hS h0 rfl) rfl rfl hl.1 rfl (lv_room (Nat.le_of_ble_eq_true rfl)) dX0_remove_1 ⟨(Nat.le_refl _), (Nat.le_refl _)⟩) (fun ws1 H locs hcx hP hD hS => ?_)
  obtain ⟨h0, hTr0, hPl0, hPs0, hO26, h28, hO29, hO31, h33, ⟨fq34, h34, hf34⟩, hSp0, hSo⟩ := id hcx
  have h1 := hTr0.1
  have h6 := hPl0.1
  obtain ⟨f26, u26, ⟨h26, -⟩, -⟩ := id hO26
  refine lv_iload_n hx hb dX0_remove_4 rfl (lv_at hl 1 rfl) ?_
  refine hc_si (va_runS (As := [.int x]) (rest := []) ⟨hx, hb, hml, hown, hts⟩ (c_X0_isNumber l x) (va_cwS 1 hts (hGS hmc k_239 k_240 k_20 k_241) rfl rfl rfl (by decide +kernel) ⟨Nat.le_of_ble_eq_true rfl, Nat.le_of_ble_eq_true rfl⟩) hpre0 rfl rfl hl.1 rfl (lv_room (Nat.le_of_ble_eq_true rfl)) dX0_remove_5 ⟨(Nat.le_refl _), (Nat.le_refl _)⟩) (fun r2 b1 => ?_)
  refine lv_if_eq (tgt := 25) hx hb dX0_remove_8 (by decide) (fun c1 => ?_) (fun c1 => ?_)
  · refine lv_iconst (v := (-1)) hx hb dX0_remove_25 (by decide +kernel) ?_
    subst hAe
    exact W.iret (v := (-1)) hx hb hr (fun t ht _ => ⟨⟨(-1), ws1, rfl, ⟨_, _, Or.inl ⟨fun q => b1.f c1 q.1, rfl, rfl, rfl⟩, ⟨_, _, _, _, _, _, _, _, _, _, _, _, _, _, _, _, ⟨h0, hTr0, hPl0, hPs0, hO26, h28, hO29, hO31, h33, ⟨fq34, h34, hf34⟩, hSp0, hSo⟩, ⟨Or.inl rfl, hVw1, hnp, Or.inl rfl, hbd, hnd, hon, Or.inl rfl, hb1, hLL, hLS, hSL, hsL⟩, hCZ0⟩⟩, by rw [ht]; exact hP, hD⟩, hS.F ht⟩) hS.2.2 dX0_remove_26
  · refine lv_iload_n hx hb dX0_remove_11 rfl (lv_at hl 2 rfl) ?_
    refine hc_si (va_runS (As := [.int y]) (rest := []) ⟨hx, hb, hml, hown, hts⟩ (c_X0_isNumber l y) (va_cwS 1 hts (hGS hmc k_239 k_240 k_20 k_241) rfl rfl rfl (by decide +kernel) ⟨Nat.le_of_ble_eq_true rfl, Nat.le_of_ble_eq_true rfl⟩) hpre0 rfl rfl hl.1 rfl (lv_room (Nat.le_of_ble_eq_true rfl)) dX0_remove_12 ⟨(Nat.le_refl _), (Nat.le_refl _)⟩) (fun r3 b2 => ?_)
    refine lv_if_eq (tgt := 25) hx hb dX0_remove_15 (by decide) (fun c2 => ?_) (fun c2 => ?_)
    · refine lv_iconst (v := (-1)) hx hb dX0_remove_25 (by decide +kernel) ?_
      subst hAe
      exact W.iret (v := (-1)) hx hb hr (fun t ht _ => ⟨⟨(-1), ws1, rfl, ⟨_, _, Or.inl ⟨fun q => b2.f c2 q.2.1, rfl, rfl, rfl⟩, ⟨_, _, _, _, _, _, _, _, _, _, _, _, _, _, _, _, ⟨h0, hTr0, hPl0, hPs0, hO26, h28, hO29, hO31, h33, ⟨fq34, h34, hf34⟩, hSp0, hSo⟩, ⟨Or.inl rfl, hVw1, hnp, Or.inl rfl, hbd, hnd, hon, Or.inl rfl, hb1, hLL, hLS, hSL, hsL⟩, hCZ0⟩⟩, by rw [ht]; exact hP, hD⟩, hS.F ht⟩) hS.2.2 dX0_remove_26
    · refine lv_iload_n hx hb dX0_remove_18 rfl (lv_at hl 3 rfl) ?_
      refine hc_si (va_runS (As := [.int z]) (rest := []) ⟨hx, hb, hml, hown, hts⟩ (c_X0_isNumber l z) (va_cwS 1 hts (hGS hmc k_239 k_240 k_20 k_241) rfl rfl rfl (by decide +kernel) ⟨Nat.le_of_ble_eq_true rfl, Nat.le_of_ble_eq_true rfl⟩) hpre0 rfl rfl hl.1 rfl (lv_room (Nat.le_of_ble_eq_true rfl)) dX0_remove_19 ⟨(Nat.le_refl _), (Nat.le_refl _)⟩) (fun r4 b3 => ?_)
      refine lv_if_ne (tgt := 27) hx hb dX0_remove_22 (by decide) (fun c3 => ?_) (fun c3 => ?_)
      · obtain ⟨na, ha, rfl⟩ := hOkN_of (b1.t c1)
        obtain ⟨nb, hb6, rfl⟩ := hOkN_of (b2.t c2)
        obtain ⟨nc, hc6, rfl⟩ := hOkN_of (b3.t c3)
        refine lv_aload_n hx hb dX0_remove_27 rfl (lv_at hl 0 rfl) ?_
        refine va_get (v := .ref (ad 1)) (C := RX0) (T := TX0) (N := 6) hx hb hts (hin_X0 hmc) hown E.1.1 hP 0 h0 rfl 0 (by decide) (hts _ (hmc _ k_212)) (fun _ h9 => h9) rfl dX0_remove_28 ?_
        refine lv_iload_n hx hb dX0_remove_31 rfl (lv_at hl 1 rfl) ?_
        refine lv_iload_n hx hb dX0_remove_32 rfl (lv_at hl 2 rfl) ?_
        refine lv_iload_n hx hb dX0_remove_33 rfl (lv_at hl 3 rfl) ?_
        refine hc_i E hD hS (va_runV (As := [.int (nI na), .int (nI nb), .int (nI nc)]) (rest := []) ⟨hx, hb, hml, hown, hts⟩ ((c_X1_has l D K tv ws1 ad F g cnt (hXv S) hTr0 hVw1 na nb nc ha hb6 hc6) H.size) (cwV 3 hts (hGV hmc k_242 k_243 k_244 k_21 k_245) rfl rfl rfl (by decide +kernel) ⟨Nat.le_of_ble_eq_true rfl, Nat.le_of_ble_eq_true rfl⟩) (hpreV E hP hD hS h1 rfl) rfl rfl hl.1 rfl (lv_room (Nat.le_of_ble_eq_true rfl)) dX0_remove_34 ⟨(Nat.le_refl _), (Nat.le_refl _)⟩) (fun r6 ws5 H locs hh hP hD hS => ?_)
        obtain ⟨rfl, hh⟩ := hh
        refine lv_if_ne (tgt := 42) hx hb dX0_remove_37 (by decide) (fun c4 => ?_) (fun c4 => ?_)
        · have hS9 : S na nb nc := (hXv_iff (by decide) ha hb6 hc6).mp (hh.t c4)
          refine lv_aload_n hx hb dX0_remove_42 rfl (lv_at hl 0 rfl) ?_
          refine va_get (v := .ref (ad 1)) (C := RX0) (T := TX0) (N := 6) hx hb hts (hin_X0 hmc) hown E.1.1 hP 0 h0 rfl 0 (by decide) (hts _ (hmc _ k_212)) (fun _ h9 => h9) rfl dX0_remove_43 ?_
          refine lv_iload_n hx hb dX0_remove_46 rfl (lv_at hl 1 rfl) ?_
          refine lv_iload_n hx hb dX0_remove_47 rfl (lv_at hl 2 rfl) ?_
          refine lv_iload_n hx hb dX0_remove_48 rfl (lv_at hl 3 rfl) ?_
          refine hc_v E hD hS (va_runV (As := [.int (nI na), .int (nI nb), .int (nI nc)]) (rest := []) ⟨hx, hb, hml, hown, hts⟩ ((c_X1_take l D K tv ws1 ad F g cnt (hXv S) hTr0 hVw1 na nb nc ha hb6 hc6 (fun v hv => (hXv_iff hv ha hb6 hc6).mpr hS9)) H.size) (cwV 3 hts (hGV hmc k_273 k_274 k_275 k_21 k_276) rfl rfl rfl (by decide +kernel) ⟨Nat.le_of_ble_eq_true rfl, Nat.le_of_ble_eq_true rfl⟩) (hpreV E hP hD hS h1 rfl) rfl rfl hl.1 rfl (lv_room (Nat.le_of_ble_eq_true rfl)) dX0_remove_49 ⟨(Nat.le_refl _), (Nat.le_refl _)⟩) (fun ws7 H locs hp hP hD hS => ?_)
          obtain ⟨hg, F1, hT1, hF1⟩ := hp
          have h0 := (hg.2 0 (by omega)).trans h0
          have hPl0 := hPl0.ag hg (by omega)
          have hPs0 := hPs0.ag hg (by omega)
          have hO26 := hO26.ag hg (by omega)
          have h28 := (hg.2 28 (by omega)).trans h28
          have hO29 := hO29.ag hg (by omega)
          have hO31 := hO31.ag hg (by omega)
          have h33 := (hg.2 33 (by omega)).trans h33
          have h34 := (hg.2 34 (by omega)).trans h34
          have hSo := hSo.ag hb1 hg (by omega)
          have hSp0 : ∀ i, i < 6 → ∃ fl It sh nk fx ob1, hStp K ad ws7 (38 + 4 * i) fl It sh nk fx ob1 := fun i hi => by
            obtain ⟨q1, q2, q3, q4, q5, q6, q7⟩ := hSp0 i hi
            exact ⟨q1, q2, q3, q4, q5, q6, q7.ag hg (by omega)⟩
          have hTr0 := hT1
          have hVw1 := hVw1.take ha hb6 hc6 hS9 hF1
          refine lv_iconst (v := nI 1) hx hb dX0_remove_52 (by decide +kernel) ?_
          subst hAe
          exact W.iret (v := nI 1) hx hb hr (fun t ht _ => ⟨⟨nI 1, ws7, rfl, ⟨_, _, Or.inr ⟨na, nb, nc, ha, hb6, hc6, rfl, rfl, rfl, Or.inr ⟨hS9, rfl, rfl, rfl⟩⟩, ⟨_, _, _, _, _, _, _, _, _, _, _, _, _, _, _, _, ⟨h0, hTr0, hPl0, hPs0, hO26, h28, hO29, hO31, h33, ⟨fq34, h34, hf34⟩, hSp0, hSo⟩, ⟨Or.inl rfl, hVw1, hnp, Or.inl rfl, hbd, hnd, hon, Or.inl rfl, hb1, hLL, hLS, hSL, hsL⟩, hCZ0⟩⟩, by rw [ht]; exact hP, hD⟩, hS.F ht⟩) hS.2.2 dX0_remove_53
        · refine lv_iconst (v := nI 0) hx hb dX0_remove_40 (by decide +kernel) ?_
          subst hAe
          exact W.iret (v := nI 0) hx hb hr (fun t ht _ => ⟨⟨nI 0, ws1, rfl, ⟨_, _, Or.inr ⟨na, nb, nc, ha, hb6, hc6, rfl, rfl, rfl, Or.inl ⟨fun q => hh.f c4 ((hXv_iff (by decide) ha hb6 hc6).mpr q), rfl, rfl, rfl⟩⟩, ⟨_, _, _, _, _, _, _, _, _, _, _, _, _, _, _, _, ⟨h0, hTr0, hPl0, hPs0, hO26, h28, hO29, hO31, h33, ⟨fq34, h34, hf34⟩, hSp0, hSo⟩, ⟨Or.inl rfl, hVw1, hnp, Or.inl rfl, hbd, hnd, hon, Or.inl rfl, hb1, hLL, hLS, hSL, hsL⟩, hCZ0⟩⟩, by rw [ht]; exact hP, hD⟩, hS.F ht⟩) hS.2.2 dX0_remove_41
      · refine lv_iconst (v := (-1)) hx hb dX0_remove_25 (by decide +kernel) ?_
        subst hAe
        exact W.iret (v := (-1)) hx hb hr (fun t ht _ => ⟨⟨(-1), ws1, rfl, ⟨_, _, Or.inl ⟨fun q => b3.f c3 q.2.2, rfl, rfl, rfl⟩, ⟨_, _, _, _, _, _, _, _, _, _, _, _, _, _, _, _, ⟨h0, hTr0, hPl0, hPs0, hO26, h28, hO29, hO31, h33, ⟨fq34, h34, hf34⟩, hSp0, hSo⟩, ⟨Or.inl rfl, hVw1, hnp, Or.inl rfl, hbd, hnd, hon, Or.inl rfl, hb1, hLL, hLS, hSL, hsL⟩, hCZ0⟩⟩, by rw [ht]; exact hP, hD⟩, hS.F ht⟩) hS.2.2 dX0_remove_26

set_option maxHeartbeats 4000000 in
set_option maxRecDepth 100000 in
/-- triples -/
theorem c_X0_triples (l : Launch) (D : va_G) (K : Nat → ClassId) (tv : Nat) (ws : va_W) (ad : Nat → Nat) (S : Nat → Nat → Nat → Prop) (cnt np : Nat) (o : List Nat) (I : Nat → Nat → Nat) (L Sp : Nat) (hcs : hCS K ad ws S cnt np o I L Sp) : hI l D (hTy K) tv yX0_triples cX0_triples 1 (some .int) ({ frames := 0, cells := 0, slots := 0, locals := 0 }) [.ref (ad 0)] ws (fun r ws1 => r = nI cnt ∧ hCS K ad ws1 S cnt np o I L Sp) := by
  intro sz
  refine Met.ofW (cc := cX0_triples) (maxL := 1) (ret := (some .int)) (by decide) rfl ?_
  intro p e s m args below meth c s₁ B hml hv0
  obtain ⟨rfl, rfl, E, hP, hD⟩ := hentry hv0
  have hx := B.exec
  have hb := B.bytes
  have hr := B.returns
  have hts := atoms_spec (ws := hC yX0_triples cX0_triples 1 (some .int)) B.pre
  have hown : s.vm.findClass RX0 = some m.cls := findClass_of_methodNamed B.named
  have hlocks := B.notSynchronized
  generalize hAe : va_A ws s.heap.size = A at hD E ⊢
  have hl := lv_entry ([.ref (ad 0)]) (n := 1) (Nat.le_of_ble_eq_true rfl)
  rw [lg_entry_eq]
  generalize (lg_sl ([.ref (ad 0)]) ++ List.replicate (1 - (lg_sl ([.ref (ad 0)])).length) Slot.unset).toArray = ls at hl ⊢
  have hl : lv_has ls 1 [(0, .ref (ad 0))] := hl
  refine hat0 (fun H hHe => ?_)
  have hP : va_P D vwCl ws H := by rw [hHe]; exact hP
  have hS : va_S A s.heap H [] := by rw [hHe]; exact va_S.rf
  obtain ⟨F, g, dd, mm, ms, lc, rd, ob, fd, ln, tt, co, b, ra, sa, sc, hcx, hcb, hcz⟩ := id hcs
  obtain ⟨hfd, hVw1, hnp, hms, hbd, hnd, hon, hrd, hb1, hLL, hLS, hSL, hsL⟩ := id hcb
  obtain ⟨h0, hTr0, hPl0, hPs0, hO26, h28, hO29, hO31, h33, ⟨fq34, h34, hf34⟩, hSp0, hSo⟩ := id hcx
  have h1 := hTr0.1
  refine lv_aload_n hx hb dX0_triples_0 rfl (lv_at hl 0 rfl) ?_
  refine va_get (v := .ref (ad 1)) (C := RX0) (T := TX0) (N := 6) hx hb hts (hin_X0 hmc) hown E.1.1 hP 0 h0 rfl 0 (by decide) (hts _ (hmc _ k_212)) (fun _ h9 => h9) rfl dX0_triples_1 ?_
  refine va_getN (v := .int (nI cnt)) (C := RX1) (T := TX1) (N := 2) hx hb hts (hin_X1 hmc) hown E.1.1 hP 1 h1 rfl 1 (by decide) (va_Nw.use rfl (E.1.2.1 _ k_54)) (fun _ h9 => h9) rfl dX0_triples_4 ?_
  subst hAe
  exact W.iret (v := nI cnt) hx hb hr (fun t ht _ => ⟨⟨nI cnt, ws, rfl, ⟨rfl, hcs⟩, by rw [ht]; exact hP, hD⟩, hS.F ht⟩) hS.2.2 dX0_triples_7
