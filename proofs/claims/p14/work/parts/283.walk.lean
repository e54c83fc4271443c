set_option maxHeartbeats 4000000 in
set_option maxRecDepth 100000 in
/-- rows -/
theorem c_X0_rows (l : Launch) (D : va_G) (K : Nat → ClassId) (tv : Nat) (ws : va_W) (ad : Nat → Nat) (S : Nat → Nat → Nat → Prop) (cnt np : Nat) (o : List Nat) (I : Nat → Nat → Nat) (L Sp : Nat) (hcs : hCS K ad ws S cnt np o I L Sp) : hI l D (hTy K) tv yX0_rows cX0_rows 1 (some .int) ({ frames := 13, cells := 0, slots := 0, locals := 780 }) [.ref (ad 0)] ws (fun r ws1 => hRowP S I (hLf9 o) o.length r ∧ hCS K ad ws1 S cnt np o I L Sp) := by
  intro sz
  refine Met.ofW (cc := cX0_rows) (maxL := 1) (ret := (some .int)) (by decide) rfl ?_
  intro p e s m args below meth c s₁ B hml hv0
  obtain ⟨rfl, rfl, E, hP, hD⟩ := hentry hv0
  have hx := B.exec
  have hb := B.bytes
  have hr := B.returns
  have hts := atoms_spec (ws := hC yX0_rows cX0_rows 1 (some .int)) B.pre
  have hown : s.vm.findClass RX0 = some m.cls := findClass_of_methodNamed B.named
  have hlocks := B.notSynchronized
  generalize hAe : va_A ws s.heap.size = A at hD E ⊢
  have hl := lv_entry ([.ref (ad 0)]) (n := 1) (Nat.le_of_ble_eq_true rfl)
  rw [lg_entry_eq]
  generalize (lg_sl ([.ref (ad 0)]) ++ List.replicate (1 - (lg_sl ([.ref (ad 0)])).length) Slot.unset).toArray = ls at hl ⊢
  have hl : lv_has ls 1 [(0, .ref (ad 0))] := hl
  refine hat0 (fun H hHe => ?_)
  have hP : va_P D vwCl ws H := by rw [hHe]; exact hP
  have hS : va_S A s.heap H [] := by rw [hHe]; exact va_S.rf
  obtain ⟨F, g, dd, mm, ms, lc, rd, ob, fd, ln, tt, co, b, ra, sa, sc, hcx, hcb, hcz⟩ := id hcs
  obtain ⟨hfd, hVw1, hnp, hms, hbd, hnd, hon, hrd, hb1, hLL, hLS, hSL, hsL⟩ := id hcb
  obtain ⟨h0, hTr0, hPl0, hPs0, hO26, h28, hO29, hO31, h33, ⟨fq34, h34, hf34⟩, hSp0, hSo⟩ := id hcx
  have h1 := hTr0.1
  have h6 := hPl0.1
  obtain ⟨f26, u26, ⟨h26, -⟩, -⟩ := id hO26
  refine lv_aload_n hx hb dX0_rows_0 rfl (lv_at hl 0 rfl) ?_
  refine va_get (v := .ref (ad 33)) (C := RX0) (T := TX0) (N := 6) hx hb hts (hin_X0 hmc) hown E.1.1 hP 0 h0 rfl 4 (by decide) (hts _ (hmc _ k_216)) (fun _ h9 => h9) rfl dX0_rows_1 ?_
  refine lv_aload_n hx hb dX0_rows_4 rfl (lv_at hl 0 rfl) ?_
  refine va_get (v := .ref (ad 26)) (C := RX0) (T := TX0) (N := 6) hx hb hts (hin_X0 hmc) hown E.1.1 hP 0 h0 rfl 2 (by decide) (hts _ (hmc _ k_214)) (fun _ h9 => h9) rfl dX0_rows_5 ?_
  refine lv_aload_n hx hb dX0_rows_8 rfl (lv_at hl 0 rfl) ?_
  refine va_get (v := .ref (ad 6)) (C := RX0) (T := TX0) (N := 6) hx hb hts (hin_X0 hmc) hown E.1.1 hP 0 h0 rfl 1 (by decide) (hts _ (hmc _ k_213)) (fun _ h9 => h9) rfl dX0_rows_9 ?_
  refine lv_aload_n hx hb dX0_rows_12 rfl (lv_at hl 0 rfl) ?_
  refine va_get (v := .ref (ad 1)) (C := RX0) (T := TX0) (N := 6) hx hb hts (hin_X0 hmc) hown E.1.1 hP 0 h0 rfl 0 (by decide) (hts _ (hmc _ k_212)) (fun _ h9 => h9) rfl dX0_rows_13 ?_
  refine hc_i E hD hS (va_runV (As := [.ref (ad 26), .ref (ad 6), .ref (ad 1)]) (rest := []) ⟨hx, hb, hml, hown, hts⟩ ((c_X7_countRows l D K tv ws ad 26 (Or.inl rfl) o hO26 np ms hPl0 hnp I dd mm hPs0 (fun i hi q hq => ((hbd i hi).1 q hq).2) F g cnt (hXv S) hTr0 hVw1 ln tt co b ra sa sc L Sp hb1 h33 ⟨fq34, h34, hf34⟩ hSp0 hSo hLL hsL) H.size) (cwV 3 hts (hGV hmc k_456 k_457 k_458 k_26 k_459) rfl rfl rfl (by decide +kernel) ⟨Nat.le_of_ble_eq_true rfl, Nat.le_of_ble_eq_true rfl⟩) (hpreV E hP hD hS h33 rfl) rfl rfl hl.1 rfl (lv_room (Nat.le_of_ble_eq_true rfl)) dX0_rows_16 ⟨(Nat.le_refl _), (Nat.le_refl _)⟩) (fun r2 ws1 H locs hp hP hD hS => ?_)
  obtain ⟨hr9, hg, ln1, tt1, ra1, k33, k34, kSp, kSo⟩ := hp
  have hrow : hRowP S I (hLf9 o) o.length _ := hRow_of (hEn_eq hVw1 (fun i hi q hq => ((hbd _ (Nat.lt_of_lt_of_le (hon _ (hgetD_mem hi)) hnp)).1 q hq).2) (Or.inl rfl) (by have := (hLv_le hLL).2; omega)) hr9
  have h0 := (hg.2 0 (by omega)).trans h0
  have hTr0 := hTr0.ag hg (by omega)
  have hPl0 := hPl0.ag hg (by omega)
  have hPs0 := hPs0.ag hg (by omega)
  have hO26 := hO26.ag hg (by omega)
  have h28 := (hg.2 28 (by omega)).trans h28
  have hO29 := hO29.ag hg (by omega)
  have hO31 := hO31.ag hg (by omega)
  have h33 := k33
  obtain ⟨fq34, h34, hf34⟩ := k34
  have hSp0 := kSp
  have hSo := kSo
  subst hAe
  exact W.iret (v := r2) hx hb hr (fun t ht _ => ⟨⟨r2, ws1, rfl, ⟨hrow, ⟨_, _, _, _, _, _, _, _, _, _, _, _, _, _, _, _, ⟨h0, hTr0, hPl0, hPs0, hO26, h28, hO29, hO31, h33, ⟨fq34, h34, hf34⟩, hSp0, hSo⟩, ⟨hfd, hVw1, hnp, hms, hbd, hnd, hon, hrd, hb1, hLL, hLS, hSL, hsL⟩, hcz⟩⟩, by rw [ht]; exact hP, hD⟩, hS.F ht⟩) hS.2.2 dX0_rows_19

set_option maxHeartbeats 4000000 in
set_option maxRecDepth 100000 in
/-- numberIn of any row -/
theorem c0_numberIn (l : Launch) (x : Int64) (k : Nat) (hk : k < 8) : hSi l yX0_numberIn cX0_numberIn 3 (some .int) ({ frames := 1, cells := 0, slots := 0, locals := 60 }) [.long x, .int (hvI k)] (fun _ => True) := by
  refine Met.ofW (cc := cX0_numberIn) (maxL := 3) (ret := (some .int)) (by decide) rfl ?_
  intro p e s m args below meth c s₁ B hml hv0
  obtain ⟨rfl, -⟩ := hv0
  have hx := B.exec
  have hb := B.bytes
  have hr := B.returns
  have hts := atoms_spec (ws := hC yX0_numberIn cX0_numberIn 3 (some .int)) B.pre
  have hown : s.vm.findClass RX0 = some m.cls := findClass_of_methodNamed B.named
  have hlocks := B.notSynchronized
  have hl := lv_entry ([.long x, .int (hvI k)]) (n := 3) (Nat.le_of_ble_eq_true rfl)
  rw [lg_entry_eq]
  generalize (lg_sl ([.long x, .int (hvI k)]) ++ List.replicate (3 - (lg_sl ([.long x, .int (hvI k)])).length) Slot.unset).toArray = ls at hl ⊢
  have hl : lv_has ls 3 [(0, .long x), (2, .int (hvI k))] := hl
  refine lv_lload_n hx hb dX0_numberIn_0 rfl (lv_at hl 0 rfl) ?_
  refine lv_iload_n hx hb dX0_numberIn_1 rfl (lv_at hl 1 rfl) ?_
  refine hc_si (va_runS (As := [.int (hvI k)]) (rest := [.long x]) ⟨hx, hb, hml, hown, hts⟩ (c_X0_rowShift l k hk) (va_cwS 1 hts (hGS hmc k_510 k_511 k_20 k_512) rfl rfl rfl (by decide +kernel) ⟨Nat.le_of_ble_eq_true rfl, Nat.le_of_ble_eq_true rfl⟩) hpre0 rfl rfl hl.1 rfl (lv_room (Nat.le_of_ble_eq_true rfl)) dX0_numberIn_2 ⟨(Nat.le_refl _), (Nat.le_refl _)⟩) (fun r1 hp => ?_)
  subst hp
  refine lv_lshr (v := (x >>> ((nI (6 * (7 - k))).toInt64 &&& 63))) hx hb dX0_numberIn_5 (rfl) ?_
  refine lv_l2i (v := ((x >>> ((nI (6 * (7 - k))).toInt64 &&& 63))).toInt32) hx hb dX0_numberIn_6 (rfl) ?_
  refine lv_bipush (v := nI 63) hx hb dX0_numberIn_7 (by decide +kernel) ?_
  refine lv_iand hx hb dX0_numberIn_9 ?_
  exact W.iret (v := ((((x >>> ((nI (6 * (7 - k))).toInt64 &&& 63))).toInt32) &&& (nI 63))) hx hb hr (fun t ht _ => ⟨((((x >>> ((nI (6 * (7 - k))).toInt64 &&& 63))).toInt32) &&& (nI 63)), rfl, trivial, ht⟩) (fun _ h => by cases h) dX0_numberIn_10

set_option maxHeartbeats 4000000 in
set_option maxRecDepth 100000 in
/-- value -/
theorem c_X0_value (l : Launch) (D : va_G) (K : Nat → ClassId) (tv : Nat) (ws : va_W) (ad : Nat → Nat) (S : Nat → Nat → Nat → Prop) (cnt np : Nat) (o : List Nat) (I : Nat → Nat → Nat) (L Sp : Nat) (hcs : hCS K ad ws S cnt np o I L Sp) (x y : Int32) : hI l D (hTy K) tv yX0_value cX0_value 3 (some .int) ({ frames := 3, cells := 0, slots := 0, locals := 180 }) [.ref (ad 0), .int x, .int y] ws (fun _ ws1 => hCS K ad ws1 S cnt np o I L Sp) := by
  intro sz
  refine Met.ofW (cc := cX0_value) (maxL := 3) (ret := (some .int)) (by decide) rfl ?_
  intro p e s m args below meth c s₁ B hml hv0
  obtain ⟨rfl, rfl, E, hP, hD⟩ := hentry hv0
  have hx := B.exec
  have hb := B.bytes
  have hr := B.returns
  have hts := atoms_spec (ws := hC yX0_value cX0_value 3 (some .int)) B.pre
  have hown : s.vm.findClass RX0 = some m.cls := findClass_of_methodNamed B.named
  have hlocks := B.notSynchronized
  generalize hAe : va_A ws s.heap.size = A at hD E ⊢
  have hl := lv_entry ([.ref (ad 0), .int x, .int y]) (n := 3) (Nat.le_of_ble_eq_true rfl)
  rw [lg_entry_eq]
  generalize (lg_sl ([.ref (ad 0), .int x, .int y]) ++ List.replicate (3 - (lg_sl ([.ref (ad 0), .int x, .int y])).length) Slot.unset).toArray = ls at hl ⊢
  have hl : lv_has ls 3 [(0, .ref (ad 0)), (1, .int x), (2, .int y)] := hl
  refine hat0 (fun H hHe => ?_)
  have hP : va_P D vwCl ws H := by rw [hHe]; exact hP
  have hS : va_S A s.heap H [] := by rw [hHe]; exact va_S.rf
  obtain ⟨F, g, dd, mm, ms, lc, rd, ob, fd, ln, tt, co, b, ra, sa, sc, hcx, hcb, hcz⟩ := id hcs
  obtain ⟨hfd, hVw1, hnp, hms, hbd, hnd, hon, hrd, hb1, hLL, hLS, hSL, hsL⟩ := id hcb
  obtain ⟨h0, hTr0, hPl0, hPs0, hO26, h28, hO29, hO31, h33, ⟨fq34, h34, hf34⟩, hSp0, hSo⟩ := id hcx
  have h1 := hTr0.1
  have h6 := hPl0.1
  obtain ⟨f26, u26, ⟨h26, -⟩, -⟩ := id hO26
  refine lv_iload_n hx hb dX0_value_0 rfl (lv_at hl 1 rfl) ?_
  refine lv_if_lt (tgt := 19) hx hb dX0_value_1 (by decide) (fun c1 => ?_) (fun c1 => ?_)
  · refine lv_iconst (v := (-1)) hx hb dX0_value_19 (by decide +kernel) ?_
    subst hAe
    exact W.iret (v := (-1)) hx hb hr (fun t ht _ => ⟨⟨(-1), ws, rfl, hcs, by rw [ht]; exact hP, hD⟩, hS.F ht⟩) hS.2.2 dX0_value_20
  · refine lv_iload_n hx hb dX0_value_4 rfl (lv_at hl 1 rfl) ?_
    refine lv_aload_n hx hb dX0_value_5 rfl (lv_at hl 0 rfl) ?_
    refine va_get (v := .int fd) (C := RX0) (T := TX0) (N := 6) hx hb hts (hin_X0 hmc) hown E.1.1 hP 0 h0 rfl 5 (by decide) (hts _ (hmc _ k_217)) (fun _ h9 => h9) rfl dX0_value_6 ?_
    refine lv_icmp_ge (tgt := 19) hx hb dX0_value_9 (by decide) (fun c2 => ?_) (fun c2 => ?_)
    · refine lv_iconst (v := (-1)) hx hb dX0_value_19 (by decide +kernel) ?_
      subst hAe
      exact W.iret (v := (-1)) hx hb hr (fun t ht _ => ⟨⟨(-1), ws, rfl, hcs, by rw [ht]; exact hP, hD⟩, hS.F ht⟩) hS.2.2 dX0_value_20
    · obtain ⟨i, hi, rfl⟩ := hval c1 c2 hfd (hLv_le hLL).2
      have hLb := hLv_le hLL
      refine lv_iload_n hx hb dX0_value_12 rfl (lv_at hl 2 rfl) ?_
      refine hc_si (va_runS (As := [.int y]) (rest := []) ⟨hx, hb, hml, hown, hts⟩ (c_X0_isVariable l y) (va_cwS 1 hts (hGS hmc k_289 k_290 k_20 k_291) rfl rfl rfl (by decide +kernel) ⟨Nat.le_of_ble_eq_true rfl, Nat.le_of_ble_eq_true rfl⟩) hpre0 rfl rfl hl.1 rfl (lv_room (Nat.le_of_ble_eq_true rfl)) dX0_value_13 ⟨(Nat.le_refl _), (Nat.le_refl _)⟩) (fun r1 b3 => ?_)
      refine lv_if_ne (tgt := 21) hx hb dX0_value_16 (by decide) (fun c3 => ?_) (fun c3 => ?_)
      · obtain ⟨k, hk, rfl⟩ := hOkV_of (b3.t c3)
        refine lv_aload_n hx hb dX0_value_21 rfl (lv_at hl 0 rfl) ?_
        refine va_get (v := .ref (ad 6)) (C := RX0) (T := TX0) (N := 6) hx hb hts (hin_X0 hmc) hown E.1.1 hP 0 h0 rfl 1 (by decide) (hts _ (hmc _ k_213)) (fun _ h9 => h9) rfl dX0_value_22 ?_
        refine hc_i E hD hS (va_runV (As := []) (rest := []) ⟨hx, hb, hml, hown, hts⟩ ((c_X3_variables l D K tv ws ad np ms hPl0 hnp I dd mm hPs0) H.size) (cwV 0 hts (hGV hmc k_551 k_552 k_553 k_22 k_554) rfl rfl rfl (by decide +kernel) ⟨Nat.le_of_ble_eq_true rfl, Nat.le_of_ble_eq_true rfl⟩) (hpreV E hP hD hS h6 rfl) rfl rfl hl.1 rfl (lv_room (Nat.le_of_ble_eq_true rfl)) dX0_value_25 ⟨(Nat.le_refl _), (Nat.le_refl _)⟩) (fun r3 ws2 H locs hp hP hD hS => ?_)
        obtain ⟨rfl, rfl⟩ := hp
        refine lv_iload_n hx hb dX0_value_28 rfl (lv_at hl 2 rfl) ?_
        refine hc_si (va_runS (As := [.int (hvI k)]) (rest := [.int (nI (hVm I np))]) ⟨hx, hb, hml, hown, hts⟩ (c_X0_bitOf l k hk) (va_cwS 1 hts (hGS hmc k_556 k_337 k_20 k_338) rfl rfl rfl (by decide +kernel) ⟨Nat.le_of_ble_eq_true rfl, Nat.le_of_ble_eq_true rfl⟩) hpre0 rfl rfl hl.1 rfl (lv_room (Nat.le_of_ble_eq_true rfl)) dX0_value_29 ⟨(Nat.le_refl _), (Nat.le_refl _)⟩) (fun r4 hp => ?_)
        subst hp
        refine lv_iand hx hb dX0_value_32 ?_
        refine lv_if_ne (tgt := 38) hx hb dX0_value_33 (by decide) (fun c4 => ?_) (fun c4 => ?_)
        · have h35 := hSo.1
          refine lv_aload_n hx hb dX0_value_38 rfl (lv_at hl 0 rfl) ?_
          refine va_get (v := .ref (ad 33)) (C := RX0) (T := TX0) (N := 6) hx hb hts (hin_X0 hmc) hown E.1.1 hP 0 h0 rfl 4 (by decide) (hts _ (hmc _ k_216)) (fun _ h9 => h9) rfl dX0_value_39 ?_
          refine va_getN (v := .ref (ad 35)) (C := RX7) (T := TX7) (N := 5) hx hb hts (hin_X7 hmc) hown E.1.1 hP 33 h33 rfl 1 (by decide) (va_Nw.use rfl (E.1.2.1 _ k_197)) (fun _ h9 => h9) rfl dX0_value_42 ?_
          refine lv_iload_n hx hb dX0_value_45 rfl (lv_at hl 1 rfl) ?_
          refine hc_l E hD hS (va_runV (As := [.int (nI i)]) (rest := []) ⟨hx, hb, hml, hown, hts⟩ ((c_X8_at l D K tv ws ad b ra sa L Sp sc hb1 hSo i hi (by omega)) H.size) (cwV 1 hts (hGV hmc k_557 k_558 k_559 k_27 k_560) rfl rfl rfl (by decide +kernel) ⟨Nat.le_of_ble_eq_true rfl, Nat.le_of_ble_eq_true rfl⟩) (hpreV E hP hD hS h35 rfl) rfl rfl hl.1 rfl (lv_room (Nat.le_of_ble_eq_true rfl)) dX0_value_46 ⟨(Nat.le_refl _), (Nat.le_refl _)⟩) (fun r6 ws5 H locs hp hP hD hS => ?_)
          obtain rfl := hp
          refine lv_iload_n hx hb dX0_value_49 rfl (lv_at hl 2 rfl) ?_
          refine hc_si (va_runS (As := [.long r6, .int (hvI k)]) (rest := []) ⟨hx, hb, hml, hown, hts⟩ (c0_numberIn l r6 k hk) (va_cwS 2 hts (hGS hmc k_561 k_508 k_20 k_509) rfl rfl rfl (by decide +kernel) ⟨Nat.le_of_ble_eq_true rfl, Nat.le_of_ble_eq_true rfl⟩) hpre0 rfl rfl hl.1 rfl (lv_room (Nat.le_of_ble_eq_true rfl)) dX0_value_50 ⟨(Nat.le_refl _), (Nat.le_refl _)⟩) (fun r7 hp => ?_)
          subst hAe
          exact W.iret (v := r7) hx hb hr (fun t ht _ => ⟨⟨r7, ws, rfl, hcs, by rw [ht]; exact hP, hD⟩, hS.F ht⟩) hS.2.2 dX0_value_53
        · refine lv_iconst (v := (-1)) hx hb dX0_value_36 (by decide +kernel) ?_
          subst hAe
          exact W.iret (v := (-1)) hx hb hr (fun t ht _ => ⟨⟨(-1), ws, rfl, hcs, by rw [ht]; exact hP, hD⟩, hS.F ht⟩) hS.2.2 dX0_value_37
      · refine lv_iconst (v := (-1)) hx hb dX0_value_19 (by decide +kernel) ?_
        subst hAe
        exact W.iret (v := (-1)) hx hb hr (fun t ht _ => ⟨⟨(-1), ws, rfl, hcs, by rw [ht]; exact hP, hD⟩, hS.F ht⟩) hS.2.2 dX0_value_20
