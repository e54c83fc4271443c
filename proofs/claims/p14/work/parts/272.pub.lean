set_option maxHeartbeats 4000000 in
set_option maxRecDepth 100000 in
/-- pattern -/
theorem c_X0_pattern (l : Launch) (D : va_G) (K : Nat → ClassId) (tv : Nat) (ws : va_W) (ad : Nat → Nat) (S : Nat → Nat → Nat → Prop) (cnt np : Nat) (o : List Nat) (I : Nat → Nat → Nat) (L Sp : Nat) (hcs : hCS K ad ws S cnt np o I L Sp) (x y z : Int32) : hI l D (hTy K) tv yX0_pattern cX0_pattern 4 (some .int) ({ frames := 3, cells := 0, slots := 0, locals := 180 }) [.ref (ad 0), .int x, .int y, .int z] ws (fun r ws1 => ∃ n1 o1 I1, hPatQ np o I x y z r n1 o1 I1 ∧ hCS K ad ws1 S cnt n1 o1 I1 L Sp) := by
  intro sz
  refine Met.ofW (cc := cX0_pattern) (maxL := 4) (ret := (some .int)) (by decide) rfl ?_
  intro p e s m args below meth c s₁ B hml hv0
  obtain ⟨rfl, rfl, E, hP, hD⟩ := hentry hv0
  have hx := B.exec
  have hb := B.bytes
  have hr := B.returns
  have hts := atoms_spec (ws := hC yX0_pattern cX0_pattern 4 (some .int)) B.pre
  have hown : s.vm.findClass RX0 = some m.cls := findClass_of_methodNamed B.named
  have hlocks := B.notSynchronized
  generalize hAe : va_A ws s.heap.size = A at hD E ⊢
  have hl := lv_entry ([.ref (ad 0), .int x, .int y, .int z]) (n := 4) (Nat.le_of_ble_eq_true rfl)
  rw [lg_entry_eq]
  generalize (lg_sl ([.ref (ad 0), .int x, .int y, .int z]) ++ List.replicate (4 - (lg_sl ([.ref (ad 0), .int x, .int y, .int z])).length) Slot.unset).toArray = ls at hl ⊢
  have hl : lv_has ls 4 [(0, .ref (ad 0)), (1, .int x), (2, .int y), (3, .int z)] := hl
  refine hat0 (fun H hHe => ?_)
  have hP : va_P D vwCl ws H := by rw [hHe]; exact hP
  have hS : va_S A s.heap H [] := by rw [hHe]; exact va_S.rf
  obtain ⟨F, g, dd, mm, ms, lc, rd, ob, fd, ln, tt, co, b, ra, sa, sc, hcx, hcb, hcz⟩ := id hcs
  obtain ⟨hfd, hVw1, hnp, hms, hbd, hnd, hon, hrd, hb1, hLL, hLS, hSL, hsL⟩ := id hcb
  obtain ⟨h0, hTr0, hPl0, hPs0, hO26, h28, hO29, hO31, h33, ⟨fq34, h34, hf34⟩, hSp0, hSo⟩ := id hcx
  have h1 := hTr0.1
  have h6 := hPl0.1
  obtain ⟨f26, u26, ⟨h26, -⟩, -⟩ := id hO26
  refine lv_aload_n hx hb dX0_pattern_0 rfl (lv_at hl 0 rfl) ?_
  refine hc_v E hD hS (va_runV (As := []) (rest := []) ⟨hx, hb, hml, hown, hts⟩ ((c_X0_forget l D K tv ws ad F cnt I dd mm np ms o lc rd ob fd ln tt co b ra sa sc L Sp hb1 hcx) H.size) (cwV 0 hts (hGV hmc k_235 k_237 k_0 k_20 k_238) rfl rfl rfl (by decide +kernel) ⟨Nat.le_of_ble_eq_true rfl, Nat.le_of_ble_eq_true rfl⟩) (hpreV E hP hD hS h0 rfl) rfl rfl hl.1 rfl (lv_room (Nat.le_of_ble_eq_true rfl)) dX0_pattern_1 ⟨(Nat.le_refl _), (Nat.le_refl _)⟩) (fun ws1 H locs hcx hP hD hS => ?_)
  obtain ⟨h0, hTr0, hPl0, hPs0, hO26, h28, hO29, hO31, h33, ⟨fq34, h34, hf34⟩, hSp0, hSo⟩ := id hcx
  have h1 := hTr0.1
  have h6 := hPl0.1
  obtain ⟨f26, u26, ⟨h26, -⟩, -⟩ := id hO26
  refine lv_iload_n hx hb dX0_pattern_4 rfl (lv_at hl 1 rfl) ?_
  refine hc_si (va_runS (As := [.int x]) (rest := []) ⟨hx, hb, hml, hown, hts⟩ (c_X0_isItem l x) (va_cwS 1 hts (hGS hmc k_286 k_287 k_20 k_288) rfl rfl rfl (by decide +kernel) ⟨Nat.le_of_ble_eq_true rfl, Nat.le_of_ble_eq_true rfl⟩) hpre0 rfl rfl hl.1 rfl (lv_room (Nat.le_of_ble_eq_true rfl)) dX0_pattern_5 ⟨(Nat.le_refl _), (Nat.le_refl _)⟩) (fun r2 b1 => ?_)
  refine lv_if_eq (tgt := 25) hx hb dX0_pattern_8 (by decide) (fun c1 => ?_) (fun c1 => ?_)
  · refine lv_iconst (v := (-1)) hx hb dX0_pattern_25 (by decide +kernel) ?_
    subst hAe
    exact W.iret (v := (-1)) hx hb hr (fun t ht _ => ⟨⟨(-1), ws1, rfl, ⟨_, _, _, Or.inl ⟨fun q => b1.f c1 q.1, rfl, rfl, rfl, rfl⟩, ⟨_, _, _, _, _, _, _, _, _, _, _, _, _, _, _, _, ⟨h0, hTr0, hPl0, hPs0, hO26, h28, hO29, hO31, h33, ⟨fq34, h34, hf34⟩, hSp0, hSo⟩, ⟨Or.inl rfl, hVw1, hnp, Or.inl rfl, hbd, hnd, hon, Or.inl rfl, hb1, hLL, hLS, hSL, hsL⟩, hCZ0⟩⟩, by rw [ht]; exact hP, hD⟩, hS.F ht⟩) hS.2.2 dX0_pattern_26
  · refine lv_iload_n hx hb dX0_pattern_11 rfl (lv_at hl 2 rfl) ?_
    refine hc_si (va_runS (As := [.int y]) (rest := []) ⟨hx, hb, hml, hown, hts⟩ (c_X0_isItem l y) (va_cwS 1 hts (hGS hmc k_286 k_287 k_20 k_288) rfl rfl rfl (by decide +kernel) ⟨Nat.le_of_ble_eq_true rfl, Nat.le_of_ble_eq_true rfl⟩) hpre0 rfl rfl hl.1 rfl (lv_room (Nat.le_of_ble_eq_true rfl)) dX0_pattern_12 ⟨(Nat.le_refl _), (Nat.le_refl _)⟩) (fun r3 b2 => ?_)
    refine lv_if_eq (tgt := 25) hx hb dX0_pattern_15 (by decide) (fun c2 => ?_) (fun c2 => ?_)
    · refine lv_iconst (v := (-1)) hx hb dX0_pattern_25 (by decide +kernel) ?_
      subst hAe
      exact W.iret (v := (-1)) hx hb hr (fun t ht _ => ⟨⟨(-1), ws1, rfl, ⟨_, _, _, Or.inl ⟨fun q => b2.f c2 q.2.1, rfl, rfl, rfl, rfl⟩, ⟨_, _, _, _, _, _, _, _, _, _, _, _, _, _, _, _, ⟨h0, hTr0, hPl0, hPs0, hO26, h28, hO29, hO31, h33, ⟨fq34, h34, hf34⟩, hSp0, hSo⟩, ⟨Or.inl rfl, hVw1, hnp, Or.inl rfl, hbd, hnd, hon, Or.inl rfl, hb1, hLL, hLS, hSL, hsL⟩, hCZ0⟩⟩, by rw [ht]; exact hP, hD⟩, hS.F ht⟩) hS.2.2 dX0_pattern_26
    · refine lv_iload_n hx hb dX0_pattern_18 rfl (lv_at hl 3 rfl) ?_
      refine hc_si (va_runS (As := [.int z]) (rest := []) ⟨hx, hb, hml, hown, hts⟩ (c_X0_isItem l z) (va_cwS 1 hts (hGS hmc k_286 k_287 k_20 k_288) rfl rfl rfl (by decide +kernel) ⟨Nat.le_of_ble_eq_true rfl, Nat.le_of_ble_eq_true rfl⟩) hpre0 rfl rfl hl.1 rfl (lv_room (Nat.le_of_ble_eq_true rfl)) dX0_pattern_19 ⟨(Nat.le_refl _), (Nat.le_refl _)⟩) (fun r4 b3 => ?_)
      refine lv_if_ne (tgt := 27) hx hb dX0_pattern_22 (by decide) (fun c3 => ?_) (fun c3 => ?_)
      · have hall := And.intro (b1.t c1) (And.intro (b2.t c2) (b3.t c3))
        obtain ⟨x0, hx0, rfl⟩ := hOk_of (b1.t c1)
        obtain ⟨x1, hx1, rfl⟩ := hOk_of (b2.t c2)
        obtain ⟨x2, hx2, rfl⟩ := hOk_of (b3.t c3)
        refine lv_aload_n hx hb dX0_pattern_27 rfl (lv_at hl 0 rfl) ?_
        refine va_get (v := .ref (ad 6)) (C := RX0) (T := TX0) (N := 6) hx hb hts (hin_X0 hmc) hown E.1.1 hP 0 h0 rfl 1 (by decide) (hts _ (hmc _ k_213)) (fun _ h9 => h9) rfl dX0_pattern_28 ?_
        refine va_getN (v := .int (nI np)) (C := RX3) (T := TX3) (N := 3) hx hb hts (hin_X3 hmc) hown E.1.1 hP 6 h6 rfl 1 (by decide) (va_Nw.use rfl (E.1.2.1 _ k_89)) (fun _ h9 => h9) rfl dX0_pattern_31 ?_
        refine lv_bipush (v := nI 6) hx hb dX0_pattern_34 (by decide +kernel) ?_
        refine lv_icmp_lt (tgt := 42) hx hb dX0_pattern_36 (by decide) (fun c5 => ?_) (fun c5 => ?_)
        · have h66 : np < 6 := (nI_ltI (by omega) (by decide)).mp c5
          refine lv_aload_n hx hb dX0_pattern_42 rfl (lv_at hl 0 rfl) ?_
          refine va_get (v := .ref (ad 6)) (C := RX0) (T := TX0) (N := 6) hx hb hts (hin_X0 hmc) hown E.1.1 hP 0 h0 rfl 1 (by decide) (hts _ (hmc _ k_213)) (fun _ h9 => h9) rfl dX0_pattern_43 ?_
          refine lv_iload_n hx hb dX0_pattern_46 rfl (lv_at hl 1 rfl) ?_
          refine lv_iload_n hx hb dX0_pattern_47 rfl (lv_at hl 2 rfl) ?_
          refine lv_iload_n hx hb dX0_pattern_48 rfl (lv_at hl 3 rfl) ?_
          refine hc_v E hD hS (va_runV (As := [.int (hit x0), .int (hit x1), .int (hit x2)]) (rest := []) ⟨hx, hb, hml, hown, hts⟩ ((c_X3_append l D K tv ws1 ad np 0 hPl0 hnp I dd mm hPs0 h66 x0 x1 x2 hx0 hx1 hx2) H.size) (cwV 3 hts (hGV hmc k_292 k_293 k_294 k_22 k_295) rfl rfl rfl (by decide +kernel) ⟨Nat.le_of_ble_eq_true rfl, Nat.le_of_ble_eq_true rfl⟩) (hpreV E hP hD hS h6 rfl) rfl rfl hl.1 rfl (lv_room (Nat.le_of_ble_eq_true rfl)) dX0_pattern_49 ⟨(Nat.le_refl _), (Nat.le_refl _)⟩) (fun ws5 H locs hp hP hD hS => ?_)
          obtain ⟨hg, hPl1, hPs1⟩ := hp
          have h0 := (hg.2 0 (by omega)).trans h0
          have hTr0 := hTr0.ag hg (by omega)
          have hO26 := hO26.ag hg (by omega)
          have h28 := (hg.2 28 (by omega)).trans h28
          have hO29 := hO29.ag hg (by omega)
          have hO31 := hO31.ag hg (by omega)
          have h33 := (hg.2 33 (by omega)).trans h33
          have h34 := (hg.2 34 (by omega)).trans h34
          have hSo := hSo.ag hb1 hg (by omega)
          have hSp0 : ∀ i, i < 6 → ∃ fl It sh nk fx ob1, hStp K ad ws5 (38 + 4 * i) fl It sh nk fx ob1 := fun i hi => by
            obtain ⟨q1, q2, q3, q4, q5, q6, q7⟩ := hSp0 i hi
            exact ⟨q1, q2, q3, q4, q5, q6, q7.ag hg (by omega)⟩
          have hPl0 := hPl1
          have hPs0 := hPs1
          have h6 := hPl0.1
          obtain ⟨f26, u26, ⟨h26, -⟩, -⟩ := id hO26
          refine lv_aload_n hx hb dX0_pattern_52 rfl (lv_at hl 0 rfl) ?_
          refine va_get (v := .ref (ad 26)) (C := RX0) (T := TX0) (N := 6) hx hb hts (hin_X0 hmc) hown E.1.1 hP 0 h0 rfl 2 (by decide) (hts _ (hmc _ k_214)) (fun _ h9 => h9) rfl dX0_pattern_53 ?_
          refine hc_v E hD hS (va_runV (As := []) (rest := []) ⟨hx, hb, hml, hown, hts⟩ ((c_X4_makeEmpty l D K tv ws5 ad 26 o hO26) H.size) (cwV 0 hts (hGV hmc k_300 k_301 k_302 k_24 k_303) rfl rfl rfl (by decide +kernel) ⟨Nat.le_of_ble_eq_true rfl, Nat.le_of_ble_eq_true rfl⟩) (hpreV E hP hD hS h26 rfl) rfl rfl hl.1 rfl (lv_room (Nat.le_of_ble_eq_true rfl)) dX0_pattern_56 ⟨(Nat.le_refl _), (Nat.le_refl _)⟩) (fun ws6 H locs hp hP hD hS => ?_)
          obtain ⟨hg2, hOn⟩ := hp
          have h0 := (hg2.2 0 (by omega)).trans h0
          have hTr0 := hTr0.ag hg2 (by omega)
          have hPl0 := hPl0.ag hg2 (by omega)
          have hPs0 := hPs0.ag hg2 (by omega)
          have h28 := (hg2.2 28 (by omega)).trans h28
          have hO29 := hO29.ag hg2 (by omega)
          have hO31 := hO31.ag hg2 (by omega)
          have h33 := (hg2.2 33 (by omega)).trans h33
          have h34 := (hg2.2 34 (by omega)).trans h34
          have hSo := hSo.ag hb1 hg2 (by omega)
          have hSp0 : ∀ i, i < 6 → ∃ fl It sh nk fx ob1, hStp K ad ws6 (38 + 4 * i) fl It sh nk fx ob1 := fun i hi => by
            obtain ⟨q1, q2, q3, q4, q5, q6, q7⟩ := hSp0 i hi
            exact ⟨q1, q2, q3, q4, q5, q6, q7.ag hg2 (by omega)⟩
          have hO26 := hOn
          have h6 := hPl0.1
          refine lv_aload_n hx hb dX0_pattern_59 rfl (lv_at hl 0 rfl) ?_
          refine va_get (v := .ref (ad 6)) (C := RX0) (T := TX0) (N := 6) hx hb hts (hin_X0 hmc) hown E.1.1 hP 0 h0 rfl 1 (by decide) (hts _ (hmc _ k_213)) (fun _ h9 => h9) rfl dX0_pattern_60 ?_
          refine va_getN (v := .int (nI (np + 1))) (C := RX3) (T := TX3) (N := 3) hx hb hts (hin_X3 hmc) hown E.1.1 hP 6 h6 rfl 1 (by decide) (va_Nw.use rfl (E.1.2.1 _ k_89)) (fun _ h9 => h9) rfl dX0_pattern_63 ?_
          refine lv_iconst (v := nI 1) hx hb dX0_pattern_66 (by decide +kernel) ?_
          refine lv_isub hx hb dX0_pattern_67 ?_
          refine htopi (v := nI np) ((pk_sub (by omega)).trans (congrArg nI (Nat.add_sub_cancel _ _))) ?_
          subst hAe
          exact W.iret (v := nI np) hx hb hr (fun t ht _ => ⟨⟨nI np, ws6, rfl, ⟨_, _, _, Or.inr (Or.inr ⟨x0, x1, x2, hx0, hx1, hx2, rfl, rfl, rfl, h66, rfl, rfl, rfl, rfl⟩), ⟨_, _, _, _, _, _, _, _, _, _, _, _, _, _, _, _, ⟨h0, hTr0, hPl0, hPs0, hO26, h28, hO29, hO31, h33, ⟨fq34, h34, hf34⟩, hSp0, hSo⟩, ⟨Or.inl rfl, hVw1, h66, Or.inl rfl, hbd_new hbd hx0 hx1 hx2, List.nodup_nil, fun _ h => absurd h List.not_mem_nil, Or.inl rfl, hb1, hLL, hLS, hSL, hsL⟩, hCZ0⟩⟩, by rw [ht]; exact hP, hD⟩, hS.F ht⟩) hS.2.2 dX0_pattern_68
        · have h66 : 6 ≤ np := Nat.not_lt.mp (fun q => c5 (nI_lt q (by decide)))
          refine lv_bipush (v := (-3)) hx hb dX0_pattern_39 (by decide +kernel) ?_
          subst hAe
          exact W.iret (v := (-3)) hx hb hr (fun t ht _ => ⟨⟨(-3), ws1, rfl, ⟨_, _, _, Or.inr (Or.inl ⟨hall, h66, rfl, rfl, rfl, rfl⟩), ⟨_, _, _, _, _, _, _, _, _, _, _, _, _, _, _, _, ⟨h0, hTr0, hPl0, hPs0, hO26, h28, hO29, hO31, h33, ⟨fq34, h34, hf34⟩, hSp0, hSo⟩, ⟨Or.inl rfl, hVw1, hnp, Or.inl rfl, hbd, hnd, hon, Or.inl rfl, hb1, hLL, hLS, hSL, hsL⟩, hCZ0⟩⟩, by rw [ht]; exact hP, hD⟩, hS.F ht⟩) hS.2.2 dX0_pattern_41
      · refine lv_iconst (v := (-1)) hx hb dX0_pattern_25 (by decide +kernel) ?_
        subst hAe
        exact W.iret (v := (-1)) hx hb hr (fun t ht _ => ⟨⟨(-1), ws1, rfl, ⟨_, _, _, Or.inl ⟨fun q => b3.f c3 q.2.2, rfl, rfl, rfl, rfl⟩, ⟨_, _, _, _, _, _, _, _, _, _, _, _, _, _, _, _, ⟨h0, hTr0, hPl0, hPs0, hO26, h28, hO29, hO31, h33, ⟨fq34, h34, hf34⟩, hSp0, hSo⟩, ⟨Or.inl rfl, hVw1, hnp, Or.inl rfl, hbd, hnd, hon, Or.inl rfl, hb1, hLL, hLS, hSL, hsL⟩, hCZ0⟩⟩, by rw [ht]; exact hP, hD⟩, hS.F ht⟩) hS.2.2 dX0_pattern_26

set_option maxHeartbeats 4000000 in
set_option maxRecDepth 100000 in
/-- clear -/
theorem c_X0_clear (l : Launch) (D : va_G) (K : Nat → ClassId) (tv : Nat) (ws : va_W) (ad : Nat → Nat) (S : Nat → Nat → Nat → Prop) (cnt np : Nat) (o : List Nat) (I : Nat → Nat → Nat) (L Sp : Nat) (hcs : hCS K ad ws S cnt np o I L Sp) : hI l D (hTy K) tv yX0_clear cX0_clear 2 (some .int) ({ frames := 2, cells := 0, slots := 0, locals := 120 }) [.ref (ad 0)] ws (fun r ws1 => r = nI np ∧ hCS K ad ws1 S cnt 0 [] I L Sp) := by
  intro sz
  refine Met.ofW (cc := cX0_clear) (maxL := 2) (ret := (some .int)) (by decide) rfl ?_
  intro p e s m args below meth c s₁ B hml hv0
  obtain ⟨rfl, rfl, E, hP, hD⟩ := hentry hv0
  have hx := B.exec
  have hb := B.bytes
  have hr := B.returns
  have hts := atoms_spec (ws := hC yX0_clear cX0_clear 2 (some .int)) B.pre
  have hown : s.vm.findClass RX0 = some m.cls := findClass_of_methodNamed B.named
  have hlocks := B.notSynchronized
  generalize hAe : va_A ws s.heap.size = A at hD E ⊢
  have hl := lv_entry ([.ref (ad 0)]) (n := 2) (Nat.le_of_ble_eq_true rfl)
  rw [lg_entry_eq]
  generalize (lg_sl ([.ref (ad 0)]) ++ List.replicate (2 - (lg_sl ([.ref (ad 0)])).length) Slot.unset).toArray = ls at hl ⊢
  have hl : lv_has ls 2 [(0, .ref (ad 0))] := hl
  refine hat0 (fun H hHe => ?_)
  have hP : va_P D vwCl ws H := by rw [hHe]; exact hP
  have hS : va_S A s.heap H [] := by rw [hHe]; exact va_S.rf
  obtain ⟨F, g, dd, mm, ms, lc, rd, ob, fd, ln, tt, co, b, ra, sa, sc, hcx, hcb, hcz⟩ := id hcs
  obtain ⟨hfd, hVw1, hnp, hms, hbd, hnd, hon, hrd, hb1, hLL, hLS, hSL, hsL⟩ := id hcb
  obtain ⟨h0, hTr0, hPl0, hPs0, hO26, h28, hO29, hO31, h33, ⟨fq34, h34, hf34⟩, hSp0, hSo⟩ := id hcx
  have h1 := hTr0.1
  have h6 := hPl0.1
  obtain ⟨f26, u26, ⟨h26, -⟩, -⟩ := id hO26
  refine lv_aload_n hx hb dX0_clear_0 rfl (lv_at hl 0 rfl) ?_
  refine hc_v E hD hS (va_runV (As := []) (rest := []) ⟨hx, hb, hml, hown, hts⟩ ((c_X0_forget l D K tv ws ad F cnt I dd mm np ms o lc rd ob fd ln tt co b ra sa sc L Sp hb1 hcx) H.size) (cwV 0 hts (hGV hmc k_235 k_237 k_0 k_20 k_238) rfl rfl rfl (by decide +kernel) ⟨Nat.le_of_ble_eq_true rfl, Nat.le_of_ble_eq_true rfl⟩) (hpreV E hP hD hS h0 rfl) rfl rfl hl.1 rfl (lv_room (Nat.le_of_ble_eq_true rfl)) dX0_clear_1 ⟨(Nat.le_refl _), (Nat.le_refl _)⟩) (fun ws1 H locs hcx hP hD hS => ?_)
  obtain ⟨h0, hTr0, hPl0, hPs0, hO26, h28, hO29, hO31, h33, ⟨fq34, h34, hf34⟩, hSp0, hSo⟩ := id hcx
  have h1 := hTr0.1
  have h6 := hPl0.1
  obtain ⟨f26, u26, ⟨h26, -⟩, -⟩ := id hO26
  refine lv_aload_n hx hb dX0_clear_4 rfl (lv_at hl 0 rfl) ?_
  refine va_get (v := .ref (ad 6)) (C := RX0) (T := TX0) (N := 6) hx hb hts (hin_X0 hmc) hown E.1.1 hP 0 h0 rfl 1 (by decide) (hts _ (hmc _ k_213)) (fun _ h9 => h9) rfl dX0_clear_5 ?_
  refine va_getN (v := .int (nI np)) (C := RX3) (T := TX3) (N := 3) hx hb hts (hin_X3 hmc) hown E.1.1 hP 6 h6 rfl 1 (by decide) (va_Nw.use rfl (E.1.2.1 _ k_89)) (fun _ h9 => h9) rfl dX0_clear_8 ?_
  refine lv_istore_n (lv' := [(1, .int (nI np)), (0, .ref (ad 0))]) hx hb dX0_clear_11 rfl hl (by decide) rfl (fun ls hl => ?_)
  refine lv_aload_n hx hb dX0_clear_12 rfl (lv_at hl 1 rfl) ?_
  refine va_get (v := .ref (ad 6)) (C := RX0) (T := TX0) (N := 6) hx hb hts (hin_X0 hmc) hown E.1.1 hP 0 h0 rfl 1 (by decide) (hts _ (hmc _ k_213)) (fun _ h9 => h9) rfl dX0_clear_13 ?_
  refine hc_v E hD hS (va_runV (As := []) (rest := []) ⟨hx, hb, hml, hown, hts⟩ ((c_X3_makeEmpty l D K tv ws1 ad np 0 hPl0 hnp) H.size) (cwV 0 hts (hGV hmc k_308 k_309 k_310 k_22 k_311) rfl rfl rfl (by decide +kernel) ⟨Nat.le_of_ble_eq_true rfl, Nat.le_of_ble_eq_true rfl⟩) (hpreV E hP hD hS h6 rfl) rfl rfl hl.1 rfl (lv_room (Nat.le_of_ble_eq_true rfl)) dX0_clear_16 ⟨(Nat.le_refl _), (Nat.le_refl _)⟩) (fun ws2 H locs hp hP hD hS => ?_)
  obtain ⟨hg, hPl1⟩ := hp
  have h0 := (hg.2 0 (by omega)).trans h0
  have hTr0 := hTr0.ag hg (by omega)
  have hPs0 := hPs0.ag hg (by omega)
  have hO26 := hO26.ag hg (by omega)
  have h28 := (hg.2 28 (by omega)).trans h28
  have hO29 := hO29.ag hg (by omega)
  have hO31 := hO31.ag hg (by omega)
  have h33 := (hg.2 33 (by omega)).trans h33
  have h34 := (hg.2 34 (by omega)).trans h34
  have hSo := hSo.ag hb1 hg (by omega)
  have hSp0 : ∀ i, i < 6 → ∃ fl It sh nk fx ob1, hStp K ad ws2 (38 + 4 * i) fl It sh nk fx ob1 := fun i hi => by
    obtain ⟨q1, q2, q3, q4, q5, q6, q7⟩ := hSp0 i hi
    exact ⟨q1, q2, q3, q4, q5, q6, q7.ag hg (by omega)⟩
  have hPl0 := hPl1
  have h6 := hPl0.1
  obtain ⟨f26, u26, ⟨h26, -⟩, -⟩ := id hO26
  refine lv_aload_n hx hb dX0_clear_19 rfl (lv_at hl 1 rfl) ?_
  refine va_get (v := .ref (ad 26)) (C := RX0) (T := TX0) (N := 6) hx hb hts (hin_X0 hmc) hown E.1.1 hP 0 h0 rfl 2 (by decide) (hts _ (hmc _ k_214)) (fun _ h9 => h9) rfl dX0_clear_20 ?_
  refine hc_v E hD hS (va_runV (As := []) (rest := []) ⟨hx, hb, hml, hown, hts⟩ ((c_X4_makeEmpty l D K tv ws2 ad 26 o hO26) H.size) (cwV 0 hts (hGV hmc k_300 k_301 k_302 k_24 k_303) rfl rfl rfl (by decide +kernel) ⟨Nat.le_of_ble_eq_true rfl, Nat.le_of_ble_eq_true rfl⟩) (hpreV E hP hD hS h26 rfl) rfl rfl hl.1 rfl (lv_room (Nat.le_of_ble_eq_true rfl)) dX0_clear_23 ⟨(Nat.le_refl _), (Nat.le_refl _)⟩) (fun ws3 H locs hp hP hD hS => ?_)
  obtain ⟨hg2, hOn⟩ := hp
  have h0 := (hg2.2 0 (by omega)).trans h0
  have hTr0 := hTr0.ag hg2 (by omega)
  have hPl0 := hPl0.ag hg2 (by omega)
  have hPs0 := hPs0.ag hg2 (by omega)
  have h28 := (hg2.2 28 (by omega)).trans h28
  have hO29 := hO29.ag hg2 (by omega)
  have hO31 := hO31.ag hg2 (by omega)
  have h33 := (hg2.2 33 (by omega)).trans h33
  have h34 := (hg2.2 34 (by omega)).trans h34
  have hSo := hSo.ag hb1 hg2 (by omega)
  have hSp0 : ∀ i, i < 6 → ∃ fl It sh nk fx ob1, hStp K ad ws3 (38 + 4 * i) fl It sh nk fx ob1 := fun i hi => by
    obtain ⟨q1, q2, q3, q4, q5, q6, q7⟩ := hSp0 i hi
    exact ⟨q1, q2, q3, q4, q5, q6, q7.ag hg2 (by omega)⟩
  have hO26 := hOn
  refine lv_iload_n hx hb dX0_clear_26 rfl (lv_at hl 0 rfl) ?_
  subst hAe
  exact W.iret (v := nI np) hx hb hr (fun t ht _ => ⟨⟨nI np, ws3, rfl, ⟨rfl, ⟨_, _, _, _, _, _, _, _, _, _, _, _, _, _, _, _, ⟨h0, hTr0, hPl0, hPs0, hO26, h28, hO29, hO31, h33, ⟨fq34, h34, hf34⟩, hSp0, hSo⟩, ⟨Or.inl rfl, hVw1, Nat.zero_le _, Or.inl rfl, hbd, List.nodup_nil, fun _ h => absurd h List.not_mem_nil, Or.inl rfl, hb1, hLL, hLS, hSL, hsL⟩, hCZ0⟩⟩, by rw [ht]; exact hP, hD⟩, hS.F ht⟩) hS.2.2 dX0_clear_27

set_option maxHeartbeats 4000000 in
set_option maxRecDepth 100000 in
/-- use -/
theorem c_X0_use (l : Launch) (D : va_G) (K : Nat → ClassId) (tv : Nat) (ws : va_W) (ad : Nat → Nat) (S : Nat → Nat → Nat → Prop) (cnt np : Nat) (o : List Nat) (I : Nat → Nat → Nat) (L Sp : Nat) (hcs : hCS K ad ws S cnt np o I L Sp) (x : Int32) : hI l D (hTy K) tv yX0_use cX0_use 2 (some .int) ({ frames := 1, cells := 0, slots := 0, locals := 60 }) [.ref (ad 0), .int x] ws (fun r ws1 => ∃ o1, hUseP np o x r o1 ∧ hCS K ad ws1 S cnt np o1 I L Sp) := by
  intro sz
  refine Met.ofW (cc := cX0_use) (maxL := 2) (ret := (some .int)) (by decide) rfl ?_
  intro p e s m args below meth c s₁ B hml hv0
  obtain ⟨rfl, rfl, E, hP, hD⟩ := hentry hv0
  have hx := B.exec
  have hb := B.bytes
  have hr := B.returns
  have hts := atoms_spec (ws := hC yX0_use cX0_use 2 (some .int)) B.pre
  have hown : s.vm.findClass RX0 = some m.cls := findClass_of_methodNamed B.named
  have hlocks := B.notSynchronized
  generalize hAe : va_A ws s.heap.size = A at hD E ⊢
  have hl := lv_entry ([.ref (ad 0), .int x]) (n := 2) (Nat.le_of_ble_eq_true rfl)
  rw [lg_entry_eq]
  generalize (lg_sl ([.ref (ad 0), .int x]) ++ List.replicate (2 - (lg_sl ([.ref (ad 0), .int x])).length) Slot.unset).toArray = ls at hl ⊢
  have hl : lv_has ls 2 [(0, .ref (ad 0)), (1, .int x)] := hl
  refine hat0 (fun H hHe => ?_)
  have hP : va_P D vwCl ws H := by rw [hHe]; exact hP
  have hS : va_S A s.heap H [] := by rw [hHe]; exact va_S.rf
  obtain ⟨F, g, dd, mm, ms, lc, rd, ob, fd, ln, tt, co, b, ra, sa, sc, hcx, hcb, hcz⟩ := id hcs
  obtain ⟨hfd, hVw1, hnp, hms, hbd, hnd, hon, hrd, hb1, hLL, hLS, hSL, hsL⟩ := id hcb
  obtain ⟨h0, hTr0, hPl0, hPs0, hO26, h28, hO29, hO31, h33, ⟨fq34, h34, hf34⟩, hSp0, hSo⟩ := id hcx
  have h1 := hTr0.1
  have h6 := hPl0.1
  obtain ⟨f26, u26, ⟨h26, -⟩, -⟩ := id hO26
  refine lv_aload_n hx hb dX0_use_0 rfl (lv_at hl 0 rfl) ?_
  refine va_get (v := .ref (ad 6)) (C := RX0) (T := TX0) (N := 6) hx hb hts (hin_X0 hmc) hown E.1.1 hP 0 h0 rfl 1 (by decide) (hts _ (hmc _ k_213)) (fun _ h9 => h9) rfl dX0_use_1 ?_
  refine lv_iload_n hx hb dX0_use_4 rfl (lv_at hl 1 rfl) ?_
  refine hc_i E hD hS (va_runV (As := [.int x]) (rest := []) ⟨hx, hb, hml, hown, hts⟩ ((c_X3_has l D K tv ws ad np ms hPl0 hnp x) H.size) (cwV 1 hts (hGV hmc k_316 k_317 k_318 k_22 k_319) rfl rfl rfl (by decide +kernel) ⟨Nat.le_of_ble_eq_true rfl, Nat.le_of_ble_eq_true rfl⟩) (hpreV E hP hD hS h6 rfl) rfl rfl hl.1 rfl (lv_room (Nat.le_of_ble_eq_true rfl)) dX0_use_5 ⟨(Nat.le_refl _), (Nat.le_refl _)⟩) (fun r2 ws1 H locs hh hP hD hS => ?_)
  obtain ⟨rfl, hh⟩ := hh
  refine lv_if_eq (tgt := 22) hx hb dX0_use_8 (by decide) (fun c1 => ?_) (fun c1 => ?_)
  · refine lv_iconst (v := (-1)) hx hb dX0_use_22 (by decide +kernel) ?_
    subst hAe
    exact W.iret (v := (-1)) hx hb hr (fun t ht _ => ⟨⟨(-1), ws, rfl, ⟨_, Or.inl ⟨fun q => hh.f c1 (by obtain ⟨i, h1, h2, -⟩ := q; exact ⟨i, h1, h2⟩), rfl, rfl⟩, hcs⟩, by rw [ht]; exact hP, hD⟩, hS.F ht⟩) hS.2.2 dX0_use_23
  · obtain ⟨i, hi, rfl⟩ := hh.t c1
    refine lv_aload_n hx hb dX0_use_11 rfl (lv_at hl 0 rfl) ?_
    refine va_get (v := .ref (ad 26)) (C := RX0) (T := TX0) (N := 6) hx hb hts (hin_X0 hmc) hown E.1.1 hP 0 h0 rfl 2 (by decide) (hts _ (hmc _ k_214)) (fun _ h9 => h9) rfl dX0_use_12 ?_
    refine lv_iload_n hx hb dX0_use_15 rfl (lv_at hl 1 rfl) ?_
    refine hc_i E hD hS (va_runV (As := [.int (nI i)]) (rest := []) ⟨hx, hb, hml, hown, hts⟩ ((c_X4_has l D K tv ws ad 26 o hO26 i (by omega)) H.size) (cwV 1 hts (hGV hmc k_439 k_401 k_402 k_24 k_403) rfl rfl rfl (by decide +kernel) ⟨Nat.le_of_ble_eq_true rfl, Nat.le_of_ble_eq_true rfl⟩) (hpreV E hP hD hS h26 rfl) rfl rfl hl.1 rfl (lv_room (Nat.le_of_ble_eq_true rfl)) dX0_use_16 ⟨(Nat.le_refl _), (Nat.le_refl _)⟩) (fun r4 ws3 H locs h9 hP hD hS => ?_)
    obtain ⟨rfl, h9⟩ := h9
    refine lv_if_eq (tgt := 24) hx hb dX0_use_19 (by decide) (fun c2 => ?_) (fun c2 => ?_)
    · have hio := h9.f c2
      have hlt := hpig1 hnd hon hi hio
      refine lv_aload_n hx hb dX0_use_24 rfl (lv_at hl 0 rfl) ?_
      refine va_get (v := .ref (ad 26)) (C := RX0) (T := TX0) (N := 6) hx hb hts (hin_X0 hmc) hown E.1.1 hP 0 h0 rfl 2 (by decide) (hts _ (hmc _ k_214)) (fun _ h9 => h9) rfl dX0_use_25 ?_
      refine lv_iload_n hx hb dX0_use_28 rfl (lv_at hl 1 rfl) ?_
      refine hc_v E hD hS (va_runV (As := [.int (nI i)]) (rest := []) ⟨hx, hb, hml, hown, hts⟩ ((c_X4_append l D K tv ws ad 26 o hO26 i (by omega) (by omega)) H.size) (cwV 1 hts (hGV hmc k_440 k_416 k_417 k_24 k_418) rfl rfl rfl (by decide +kernel) ⟨Nat.le_of_ble_eq_true rfl, Nat.le_of_ble_eq_true rfl⟩) (hpreV E hP hD hS h26 rfl) rfl rfl hl.1 rfl (lv_room (Nat.le_of_ble_eq_true rfl)) dX0_use_29 ⟨(Nat.le_refl _), (Nat.le_refl _)⟩) (fun ws5 H locs hp hP hD hS => ?_)
      obtain ⟨hg, hOn⟩ := hp
      have h0 := (hg.2 0 (by omega)).trans h0
      have hTr0 := hTr0.ag hg (by omega)
      have hPl0 := hPl0.ag hg (by omega)
      have hPs0 := hPs0.ag hg (by omega)
      have h28 := (hg.2 28 (by omega)).trans h28
      have hO29 := hO29.ag hg (by omega)
      have hO31 := hO31.ag hg (by omega)
      have h33 := (hg.2 33 (by omega)).trans h33
      have h34 := (hg.2 34 (by omega)).trans h34
      have hSo := hSo.ag hb1 hg (by omega)
      have hSp0 : ∀ i, i < 6 → ∃ fl It sh nk fx ob1, hStp K ad ws5 (38 + 4 * i) fl It sh nk fx ob1 := fun i hi => by
        obtain ⟨q1, q2, q3, q4, q5, q6, q7⟩ := hSp0 i hi
        exact ⟨q1, q2, q3, q4, q5, q6, q7.ag hg (by omega)⟩
      have hO26 := hOn
      obtain ⟨f26, u26, ⟨h26, -⟩, -⟩ := id hO26
      refine lv_aload_n hx hb dX0_use_32 rfl (lv_at hl 0 rfl) ?_
      refine va_get (v := .ref (ad 26)) (C := RX0) (T := TX0) (N := 6) hx hb hts (hin_X0 hmc) hown E.1.1 hP 0 h0 rfl 2 (by decide) (hts _ (hmc _ k_214)) (fun _ h9 => h9) rfl dX0_use_33 ?_
      refine va_getN (v := .int (nI (o ++ [i]).length)) (C := RX4) (T := TX4) (N := 3) hx hb hts (hin_X4 hmc) hown E.1.1 hP 26 h26 rfl 1 (by decide) (va_Nw.use rfl (E.1.2.1 _ k_108)) (fun _ h9 => h9) rfl dX0_use_36 ?_
      subst hAe
      exact W.iret (v := nI (o ++ [i]).length) hx hb hr (fun t ht _ => ⟨⟨nI (o ++ [i]).length, ws5, rfl, ⟨_, Or.inr ⟨i, hi, rfl, hio, by rw [List.length_append]; rfl, rfl⟩, ⟨_, _, _, _, _, _, _, _, _, _, _, _, _, _, _, _, ⟨h0, hTr0, hPl0, hPs0, hO26, h28, hO29, hO31, h33, ⟨fq34, h34, hf34⟩, hSp0, hSo⟩, ⟨hfd, hVw1, hnp, hms, hbd, hnd_add hnd hio, hon_add hon hi, hrd, hb1, hLL, hLS, hSL, hsL⟩, hcz⟩⟩, by rw [ht]; exact hP, hD⟩, hS.F ht⟩) hS.2.2 dX0_use_39
    · refine lv_iconst (v := (-1)) hx hb dX0_use_22 (by decide +kernel) ?_
      subst hAe
      exact W.iret (v := (-1)) hx hb hr (fun t ht _ => ⟨⟨(-1), ws, rfl, ⟨_, Or.inl ⟨fun q => by obtain ⟨j, h1, h2, h3⟩ := q; have e := (nI_eq (by omega) (by omega)).mp h2; subst e; exact h3 (h9.t c2), rfl, rfl⟩, hcs⟩, by rw [ht]; exact hP, hD⟩, hS.F ht⟩) hS.2.2 dX0_use_23

set_option maxHeartbeats 4000000 in
set_option maxRecDepth 100000 in
/-- drop -/
theorem c_X0_drop (l : Launch) (D : va_G) (K : Nat → ClassId) (tv : Nat) (ws : va_W) (ad : Nat → Nat) (S : Nat → Nat → Nat → Prop) (cnt np : Nat) (o : List Nat) (I : Nat → Nat → Nat) (L Sp : Nat) (hcs : hCS K ad ws S cnt np o I L Sp) : hI l D (hTy K) tv yX0_drop cX0_drop 2 (some .int) ({ frames := 1, cells := 0, slots := 0, locals := 60 }) [.ref (ad 0)] ws (fun r ws1 => r = nI o.length ∧ hCS K ad ws1 S cnt np [] I L Sp) := by
  intro sz
  refine Met.ofW (cc := cX0_drop) (maxL := 2) (ret := (some .int)) (by decide) rfl ?_
  intro p e s m args below meth c s₁ B hml hv0
  obtain ⟨rfl, rfl, E, hP, hD⟩ := hentry hv0
  have hx := B.exec
  have hb := B.bytes
  have hr := B.returns
  have hts := atoms_spec (ws := hC yX0_drop cX0_drop 2 (some .int)) B.pre
  have hown : s.vm.findClass RX0 = some m.cls := findClass_of_methodNamed B.named
  have hlocks := B.notSynchronized
  generalize hAe : va_A ws s.heap.size = A at hD E ⊢
  have hl := lv_entry ([.ref (ad 0)]) (n := 2) (Nat.le_of_ble_eq_true rfl)
  rw [lg_entry_eq]
  generalize (lg_sl ([.ref (ad 0)]) ++ List.replicate (2 - (lg_sl ([.ref (ad 0)])).length) Slot.unset).toArray = ls at hl ⊢
  have hl : lv_has ls 2 [(0, .ref (ad 0))] := hl
  refine hat0 (fun H hHe => ?_)
  have hP : va_P D vwCl ws H := by rw [hHe]; exact hP
  have hS : va_S A s.heap H [] := by rw [hHe]; exact va_S.rf
  obtain ⟨F, g, dd, mm, ms, lc, rd, ob, fd, ln, tt, co, b, ra, sa, sc, hcx, hcb, hcz⟩ := id hcs
  obtain ⟨hfd, hVw1, hnp, hms, hbd, hnd, hon, hrd, hb1, hLL, hLS, hSL, hsL⟩ := id hcb
  obtain ⟨h0, hTr0, hPl0, hPs0, hO26, h28, hO29, hO31, h33, ⟨fq34, h34, hf34⟩, hSp0, hSo⟩ := id hcx
  obtain ⟨f26, u26, ⟨h26, -⟩, -⟩ := id hO26
  refine lv_aload_n hx hb dX0_drop_0 rfl (lv_at hl 0 rfl) ?_
  refine va_get (v := .ref (ad 26)) (C := RX0) (T := TX0) (N := 6) hx hb hts (hin_X0 hmc) hown E.1.1 hP 0 h0 rfl 2 (by decide) (hts _ (hmc _ k_214)) (fun _ h9 => h9) rfl dX0_drop_1 ?_
  refine va_getN (v := .int (nI o.length)) (C := RX4) (T := TX4) (N := 3) hx hb hts (hin_X4 hmc) hown E.1.1 hP 26 h26 rfl 1 (by decide) (va_Nw.use rfl (E.1.2.1 _ k_108)) (fun _ h9 => h9) rfl dX0_drop_4 ?_
  refine lv_istore_n (lv' := [(1, .int (nI o.length)), (0, .ref (ad 0))]) hx hb dX0_drop_7 rfl hl (by decide) rfl (fun ls hl => ?_)
  refine lv_aload_n hx hb dX0_drop_8 rfl (lv_at hl 1 rfl) ?_
  refine va_get (v := .ref (ad 26)) (C := RX0) (T := TX0) (N := 6) hx hb hts (hin_X0 hmc) hown E.1.1 hP 0 h0 rfl 2 (by decide) (hts _ (hmc _ k_214)) (fun _ h9 => h9) rfl dX0_drop_9 ?_
  refine hc_v E hD hS (va_runV (As := []) (rest := []) ⟨hx, hb, hml, hown, hts⟩ ((c_X4_makeEmpty l D K tv ws ad 26 o hO26) H.size) (cwV 0 hts (hGV hmc k_300 k_301 k_302 k_24 k_303) rfl rfl rfl (by decide +kernel) ⟨Nat.le_of_ble_eq_true rfl, Nat.le_of_ble_eq_true rfl⟩) (hpreV E hP hD hS h26 rfl) rfl rfl hl.1 rfl (lv_room (Nat.le_of_ble_eq_true rfl)) dX0_drop_12 ⟨(Nat.le_refl _), (Nat.le_refl _)⟩) (fun ws1 H locs hp hP hD hS => ?_)
  obtain ⟨hg2, hOn⟩ := hp
  have h0 := (hg2.2 0 (by omega)).trans h0
  have hTr0 := hTr0.ag hg2 (by omega)
  have hPl0 := hPl0.ag hg2 (by omega)
  have hPs0 := hPs0.ag hg2 (by omega)
  have h28 := (hg2.2 28 (by omega)).trans h28
  have hO29 := hO29.ag hg2 (by omega)
  have hO31 := hO31.ag hg2 (by omega)
  have h33 := (hg2.2 33 (by omega)).trans h33
  have h34 := (hg2.2 34 (by omega)).trans h34
  have hSo := hSo.ag hb1 hg2 (by omega)
  have hSp0 : ∀ i, i < 6 → ∃ fl It sh nk fx ob1, hStp K ad ws1 (38 + 4 * i) fl It sh nk fx ob1 := fun i hi => by
    obtain ⟨q1, q2, q3, q4, q5, q6, q7⟩ := hSp0 i hi
    exact ⟨q1, q2, q3, q4, q5, q6, q7.ag hg2 (by omega)⟩
  have hO26 := hOn
  refine lv_iload_n hx hb dX0_drop_15 rfl (lv_at hl 0 rfl) ?_
  subst hAe
  exact W.iret (v := nI o.length) hx hb hr (fun t ht _ => ⟨⟨nI o.length, ws1, rfl, ⟨rfl, ⟨_, _, _, _, _, _, _, _, _, _, _, _, _, _, _, _, ⟨h0, hTr0, hPl0, hPs0, hO26, h28, hO29, hO31, h33, ⟨fq34, h34, hf34⟩, hSp0, hSo⟩, ⟨hfd, hVw1, hnp, hms, hbd, List.nodup_nil, fun _ h => absurd h List.not_mem_nil, hrd, hb1, hLL, hLS, hSL, hsL⟩, hcz⟩⟩, by rw [ht]; exact hP, hD⟩, hS.F ht⟩) hS.2.2 dX0_drop_16
