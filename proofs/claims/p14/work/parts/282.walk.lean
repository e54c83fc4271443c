set_option maxHeartbeats 4000000 in
set_option maxRecDepth 100000 in
/-- countRows -/
theorem c_X7_countRows (l : Launch) (D : va_G) (K : Nat → ClassId) (tv : Nat) (ws : va_W) (ad : Nat → Nat) (n : Nat) (hn : n = 26 ∨ n = 31) (o : List Nat) (ho : hOrd K ad ws n o) (np ms : Nat) (hPl0 : hPl K ad ws np ms) (hnp : np ≤ 6) (I dd : Nat → Nat → Nat) (mm : Nat → Nat) (hPs0 : hPs K ad ws I dd mm) (hI72 : ∀ i, i < 6 → ∀ q, q < 3 → I i q < 72) (F : Nat → Nat → Int32) (g : Nat → Nat → Nat) (cnt : Nat) (X : Nat → Nat → Prop) (ht : hTr K ad ws F cnt) (hw : hVw F g cnt X) (ln tt co b ra sa sc L Sp : Nat) (hb1 : b ≤ 1) (h33 : ws[33]? = some (hKc ad ln tt co)) (h34e : ∃ fq : Nat → Option Nat, ws[34]? = some (ad 34, .inl (K 4, 6, .inr (.inr (.inr (.inr fq))))) ∧ ∀ i, i < 6 → fq i = some (ad (38 + 4 * i))) (hSp0 : ∀ i, i < 6 → ∃ fl It sh nk fx ob1, hStp K ad ws (38 + 4 * i) fl It sh nk fx ob1) (hSo : hSol K ad ws b ra sa L Sp sc) (hLL : hLv L) (hcL : sc ≤ L) : hI l D (hTy K) tv yX7_countRows cX7_countRows 4 (some .int) ({ frames := 12, cells := 0, slots := 0, locals := 720 }) [.ref (ad 33), .ref (ad n), .ref (ad 6), .ref (ad 1)] ws (fun r ws1 => ((20000 < (hEn g cnt I o 0 sc).1 ∧ r = (-2)) ∨ ((hEn g cnt I o 0 sc).1 ≤ 20000 ∧ r = nI (hEn g cnt I o 0 sc).1)) ∧ hAg 33 62 ws ws1 ∧ ∃ ln1 tt1 ra1, ws1[33]? = some (hKc ad ln1 tt1 0) ∧ (∃ fq : Nat → Option Nat, ws1[34]? = some (ad 34, .inl (K 4, 6, .inr (.inr (.inr (.inr fq))))) ∧ ∀ i, i < 6 → fq i = some (ad (38 + 4 * i))) ∧ (∀ i, i < 6 → ∃ fl It sh nk fx ob1, hStp K ad ws1 (38 + 4 * i) fl It sh nk fx ob1) ∧ hSol K ad ws1 b ra1 sa L Sp sc) := by
  intro sz
  refine Met.ofW (cc := cX7_countRows) (maxL := 4) (ret := (some .int)) (by decide) rfl ?_
  intro p e s m args below meth c s₁ B hml hv0
  obtain ⟨rfl, rfl, E, hP, hD⟩ := hentry hv0
  have hx := B.exec
  have hb := B.bytes
  have hr := B.returns
  have hts := atoms_spec (ws := hC yX7_countRows cX7_countRows 4 (some .int)) B.pre
  have hown : s.vm.findClass RX7 = some m.cls := findClass_of_methodNamed B.named
  have hlocks := B.notSynchronized
  generalize hAe : va_A ws s.heap.size = A at hD E ⊢
  have hl := lv_entry ([.ref (ad 33), .ref (ad n), .ref (ad 6), .ref (ad 1)]) (n := 4) (Nat.le_of_ble_eq_true rfl)
  rw [lg_entry_eq]
  generalize (lg_sl ([.ref (ad 33), .ref (ad n), .ref (ad 6), .ref (ad 1)]) ++ List.replicate (4 - (lg_sl ([.ref (ad 33), .ref (ad n), .ref (ad 6), .ref (ad 1)])).length) Slot.unset).toArray = ls at hl ⊢
  have hl : lv_has ls 4 [(0, .ref (ad 33)), (1, .ref (ad n)), (2, .ref (ad 6)), (3, .ref (ad 1))] := hl
  refine hat0 (fun H hHe => ?_)
  have hP : va_P D vwCl ws H := by rw [hHe]; exact hP
  have hS : va_S A s.heap H [] := by rw [hHe]; exact va_S.rf
  obtain ⟨fq34, h34, hf34⟩ := h34e
  have hLb := hLv_le hLL
  have hz : (hEn g cnt I o 0 sc).2 = sc := hEx_2 _ _ _ _ _ _ _ _ _ _
  have hzl : hLf L sc = L := if_pos hcL
  obtain ⟨fo9, uo9, -, hok9⟩ := id ho
  have ho6 : o.length ≤ 6 := hok9.1
  have hbd9 := hEn_bd g cnt I o 0 sc (by omega)
  refine lv_aload_n hx hb dX7_countRows_0 rfl (lv_at hl 0 rfl) ?_
  refine lv_iconst (v := nI 0) hx hb dX7_countRows_1 (by decide +kernel) ?_
  refine va_put (v := .int (nI 0)) (ty := .boolean) (C := RX7) (T := TX7) (N := 5) hx hb hts (hin_X7 hmc) tyX7 tyX7_ok nmX7 hown E.1.1 hP hD hS 33 h33 rfl 4 (by decide) (hts _ (hmc _ k_200)) (fun _ h9 => h9) rfl (by decide +kernel) rfl rfl (Nat.le_of_ble_eq_true rfl) dX7_countRows_2 (fun H locs hP hD hS => ?_)
  obtain ⟨ws1, ews1⟩ : ∃ zw : va_W, zw = List.set ws 33 ((ad 33), .inr (iN2, [.ref (ad 34), .ref (ad 35), .int (nI ln), .int (nI tt), .int (nI 0)])) := ⟨_, rfl⟩
  have hP : va_P D vwCl ws1 H := by rw [ews1]; exact hP
  have hD : va_D A ws1 := by rw [ews1]; exact hD
  have h33 : ws1[33]? = some ((ad 33), .inr (iN2, [.ref (ad 34), .ref (ad 35), .int (nI ln), .int (nI tt), .int (nI 0)])) := by rw [ews1]; exact hset_eq h33
  have hg1 : hAg 33 34 ws ws1 := by rw [ews1]; exact hAg.rf.set (by decide) (by decide)
  have ho := ho.ag hg1 (by omega)
  have hPl0 := hPl0.ag hg1 (by omega)
  have hPs0 := hPs0.ag hg1 (by omega)
  have ht := ht.ag hg1 (by omega)
  have h34 := (hg1.2 34 (by omega)).trans h34
  have hSp0 : ∀ i, i < 6 → ∃ fl It sh nk fx ob1, hStp K ad ws1 (38 + 4 * i) fl It sh nk fx ob1 := fun i hi => by
    obtain ⟨q1, q2, q3, q4, q5, q6, q7⟩ := hSp0 i hi
    exact ⟨q1, q2, q3, q4, q5, q6, q7.ag hg1 (by omega)⟩
  have hSo := hSo.ag hb1 hg1 (by omega)
  refine lv_aload_n hx hb dX7_countRows_5 rfl (lv_at hl 0 rfl) ?_
  refine lv_aload_n hx hb dX7_countRows_6 rfl (lv_at hl 1 rfl) ?_
  refine lv_aload_n hx hb dX7_countRows_7 rfl (lv_at hl 2 rfl) ?_
  refine lv_aload_n hx hb dX7_countRows_8 rfl (lv_at hl 3 rfl) ?_
  refine hc_v E hD hS (va_runV (As := [.ref (ad n), .ref (ad 6), .ref (ad 1)]) (rest := []) ⟨hx, hb, hml, hown, hts⟩ ((c_X7_walk l D K tv ws1 ad n hn o ho np ms hPl0 hnp I dd mm hPs0 hI72 F g cnt X ht hw ln tt 0 b ra sa sc L Sp (Or.inl rfl) hb1 h33 ⟨fq34, h34, hf34⟩ hSp0 hSo hLL hcL (by omega)) H.size) (cwV 3 hts (hGV hmc k_460 k_462 k_2 k_26 k_463) rfl rfl rfl (by decide +kernel) ⟨Nat.le_of_ble_eq_true rfl, Nat.le_of_ble_eq_true rfl⟩) (hpreV E hP hD hS h33 rfl) rfl rfl hl.1 rfl (lv_room (Nat.le_of_ble_eq_true rfl)) dX7_countRows_9 ⟨(by show 0 + (hQc (hLf L (hEn g cnt I o 0 sc).2) - hQc L) ≤ 0; rw [hz, hzl]; omega), (by show 0 + (hQs (hLf L (hEn g cnt I o 0 sc).2) - hQs L) ≤ 0; rw [hz, hzl]; omega)⟩) (fun ws2 H locs hp hP hD hS => ?_)
  obtain ⟨hg2, ⟨ra1, h33, h34e, hSt, hSo⟩, hSp1⟩ := hp
  rw [hz, hzl] at hSo
  refine W.widen (k := 0) (n := 0) (by show 0 + (hQc (hLf L (hEn g cnt I o 0 sc).2) - hQc L) ≤ 0; rw [hz, hzl]; omega) (by show 0 + (hQs (hLf L (hEn g cnt I o 0 sc).2) - hQs L) ≤ 0; rw [hz, hzl]; omega) ?_
  refine lv_aload_n hx hb dX7_countRows_12 rfl (lv_at hl 0 rfl) ?_
  refine va_get (v := .int (nI (hEn g cnt I o 0 sc).1)) (C := RX7) (T := TX7) (N := 5) hx hb hts (hin_X7 hmc) hown E.1.1 hP 33 h33 rfl 3 (by decide) (hts _ (hmc _ k_199)) (fun _ h9 => h9) rfl dX7_countRows_13 ?_
  refine lv_sipush (v := nI 20000) hx hb dX7_countRows_16 (by decide +kernel) ?_
  refine lv_icmp_le (tgt := 27) hx hb dX7_countRows_19 (by decide) (fun c1 => ?_) (fun c1 => ?_)
  · refine lv_aload_n hx hb dX7_countRows_27 rfl (lv_at hl 0 rfl) ?_
    refine va_get (v := .int (nI (hEn g cnt I o 0 sc).1)) (C := RX7) (T := TX7) (N := 5) hx hb hts (hin_X7 hmc) hown E.1.1 hP 33 h33 rfl 3 (by decide) (hts _ (hmc _ k_199)) (fun _ h9 => h9) rfl dX7_countRows_28 ?_
    subst hAe
    exact W.iret (v := nI (hEn g cnt I o 0 sc).1) hx hb hr (fun t ht _ => ⟨⟨nI (hEn g cnt I o 0 sc).1, ws2, rfl, ⟨Or.inr ⟨(nI_leI (by omega) (by decide)).mp c1, rfl⟩, (hg1.wide (by decide) (by decide)).tr hg2, _, _, ra1, h33, h34e, hSp1, hSo⟩, by rw [ht]; exact hP, hD⟩, hS.F ht⟩) hS.2.2 dX7_countRows_31
  · refine lv_bipush (v := (-2)) hx hb dX7_countRows_22 (by decide +kernel) ?_
    refine lv_goto (tgt := 31) hx hb dX7_countRows_24 (by decide) ?_
    subst hAe
    exact W.iret (v := (-2)) hx hb hr (fun t ht _ => ⟨⟨(-2), ws2, rfl, ⟨Or.inl ⟨Nat.not_le.mp (fun z => c1 (nI_le z (by decide))), rfl⟩, (hg1.wide (by decide) (by decide)).tr hg2, _, _, ra1, h33, h34e, hSp1, hSo⟩, by rw [ht]; exact hP, hD⟩, hS.F ht⟩) hS.2.2 dX7_countRows_31

set_option maxHeartbeats 4000000 in
set_option maxRecDepth 100000 in
/-- collect -/
theorem c0_collectA (l : Launch) (D : va_G) (K : Nat → ClassId) (tv : Nat) (ws : va_W) (ad : Nat → Nat) (n : Nat) (hn : n = 26 ∨ n = 31) (o : List Nat) (ho : hOrd K ad ws n o) (np ms : Nat) (hPl0 : hPl K ad ws np ms) (hnp : np ≤ 6) (I dd : Nat → Nat → Nat) (mm : Nat → Nat) (hPs0 : hPs K ad ws I dd mm) (hI72 : ∀ i, i < 6 → ∀ q, q < 3 → I i q < 72) (F : Nat → Nat → Int32) (g : Nat → Nat → Nat) (cnt : Nat) (X : Nat → Nat → Prop) (ht : hTr K ad ws F cnt) (hw : hVw F g cnt X) (ln tt co b ra sa sc L Sp : Nat) (hb1 : b ≤ 1) (h33 : ws[33]? = some (hKc ad ln tt co)) (h34e : ∃ fq : Nat → Option Nat, ws[34]? = some (ad 34, .inl (K 4, 6, .inr (.inr (.inr (.inr fq))))) ∧ ∀ i, i < 6 → fq i = some (ad (38 + 4 * i))) (hSp0 : ∀ i, i < 6 → ∃ fl It sh nk fx ob1, hStp K ad ws (38 + 4 * i) fl It sh nk fx ob1) (hSo : hSol K ad ws b ra sa L Sp sc) (hLL : hLv L) (hSL : Sp ≤ L) (hbig : 20000 < (hEn g cnt I o 1 0).1) : hI l D (hTy K) tv yX7_collect cX7_collect 4 (some .int) ({ frames := 12, cells := (hQc (hLf L (hEn g cnt I o 1 0).2) - hQc L), slots := (hQs (hLf L (hEn g cnt I o 1 0).2) - hQs L), locals := 720 }) [.ref (ad 33), .ref (ad n), .ref (ad 6), .ref (ad 1)] ws (fun r ws1 => ((20000 < (hEn g cnt I o 1 0).1 ∧ r = (-2)) ∨ ((hEn g cnt I o 1 0).1 ≤ 20000 ∧ r = nI (hEn g cnt I o 1 0).2)) ∧ hAg 33 62 ws ws1 ∧ (r = (-2) ∨ ∃ n1, r = nI n1 ∧ n1 ≤ (hLf L (hEn g cnt I o 1 0).2)) ∧ ∃ ln1 tt1 b1 ra1 sa1 sc1, b1 ≤ 1 ∧ sc1 ≤ (hLf L (hEn g cnt I o 1 0).2) ∧ ws1[33]? = some (hKc ad ln1 tt1 1) ∧ (∃ fq : Nat → Option Nat, ws1[34]? = some (ad 34, .inl (K 4, 6, .inr (.inr (.inr (.inr fq))))) ∧ ∀ i, i < 6 → fq i = some (ad (38 + 4 * i))) ∧ (∀ i, i < 6 → ∃ fl It sh nk fx ob1, hStp K ad ws1 (38 + 4 * i) fl It sh nk fx ob1) ∧ hSol K ad ws1 b1 ra1 sa1 (hLf L (hEn g cnt I o 1 0).2) Sp sc1) := by
  intro sz
  refine Met.ofW (cc := cX7_collect) (maxL := 4) (ret := (some .int)) (by decide) rfl ?_
  intro p e s m args below meth c s₁ B hml hv0
  obtain ⟨rfl, rfl, E, hP, hD⟩ := hentry hv0
  have hx := B.exec
  have hb := B.bytes
  have hr := B.returns
  have hts := atoms_spec (ws := hC yX7_collect cX7_collect 4 (some .int)) B.pre
  have hown : s.vm.findClass RX7 = some m.cls := findClass_of_methodNamed B.named
  have hlocks := B.notSynchronized
  generalize hAe : va_A ws s.heap.size = A at hD E ⊢
  have hl := lv_entry ([.ref (ad 33), .ref (ad n), .ref (ad 6), .ref (ad 1)]) (n := 4) (Nat.le_of_ble_eq_true rfl)
  rw [lg_entry_eq]
  generalize (lg_sl ([.ref (ad 33), .ref (ad n), .ref (ad 6), .ref (ad 1)]) ++ List.replicate (4 - (lg_sl ([.ref (ad 33), .ref (ad n), .ref (ad 6), .ref (ad 1)])).length) Slot.unset).toArray = ls at hl ⊢
  have hl : lv_has ls 4 [(0, .ref (ad 33)), (1, .ref (ad n)), (2, .ref (ad 6)), (3, .ref (ad 1))] := hl
  refine hat0 (fun H hHe => ?_)
  have hP : va_P D vwCl ws H := by rw [hHe]; exact hP
  have hS : va_S A s.heap H [] := by rw [hHe]; exact va_S.rf
  obtain ⟨fq34, h34, hf34⟩ := h34e
  have hLb := hLv_le hLL
  obtain ⟨fo9, uo9, -, hok9⟩ := id ho
  have ho6 : o.length ≤ 6 := hok9.1
  have hbd9 := hEn_bd g cnt I o 1 0 (by omega)
  have hge9 := hLf_ge (L := L) hbd9.2.2
  have hlv9 := hLf_lv (c := (hEn g cnt I o 1 0).2) hLL
  have hle9 := hLv_le hlv9
  refine lv_aload_n hx hb dX7_collect_0 rfl (lv_at hl 0 rfl) ?_
  refine lv_iconst (v := nI 1) hx hb dX7_collect_1 (by decide +kernel) ?_
  refine va_put (v := .int (nI 1)) (ty := .boolean) (C := RX7) (T := TX7) (N := 5) hx hb hts (hin_X7 hmc) tyX7 tyX7_ok nmX7 hown E.1.1 hP hD hS 33 h33 rfl 4 (by decide) (hts _ (hmc _ k_200)) (fun _ h9 => h9) rfl (by decide +kernel) rfl rfl (Nat.le_of_ble_eq_true rfl) dX7_collect_2 (fun H locs hP hD hS => ?_)
  obtain ⟨ws1, ews1⟩ : ∃ zw : va_W, zw = List.set ws 33 ((ad 33), .inr (iN2, [.ref (ad 34), .ref (ad 35), .int (nI ln), .int (nI tt), .int (nI 1)])) := ⟨_, rfl⟩
  have hP : va_P D vwCl ws1 H := by rw [ews1]; exact hP
  have hD : va_D A ws1 := by rw [ews1]; exact hD
  have h33 : ws1[33]? = some ((ad 33), .inr (iN2, [.ref (ad 34), .ref (ad 35), .int (nI ln), .int (nI tt), .int (nI 1)])) := by rw [ews1]; exact hset_eq h33
  have hg1 : hAg 33 34 ws ws1 := by rw [ews1]; exact hAg.rf.set (by decide) (by decide)
  have ho := ho.ag hg1 (by omega)
  have hPl0 := hPl0.ag hg1 (by omega)
  have hPs0 := hPs0.ag hg1 (by omega)
  have ht := ht.ag hg1 (by omega)
  have h34 := (hg1.2 34 (by omega)).trans h34
  have hSp0 : ∀ i, i < 6 → ∃ fl It sh nk fx ob1, hStp K ad ws1 (38 + 4 * i) fl It sh nk fx ob1 := fun i hi => by
    obtain ⟨q1, q2, q3, q4, q5, q6, q7⟩ := hSp0 i hi
    exact ⟨q1, q2, q3, q4, q5, q6, q7.ag hg1 (by omega)⟩
  have hSo := hSo.ag hb1 hg1 (by omega)
  have h35 := hSo.1
  refine lv_aload_n hx hb dX7_collect_5 rfl (lv_at hl 0 rfl) ?_
  refine va_get (v := .ref (ad 35)) (C := RX7) (T := TX7) (N := 5) hx hb hts (hin_X7 hmc) hown E.1.1 hP 33 h33 rfl 1 (by decide) (hts _ (hmc _ k_196)) (fun _ h9 => h9) rfl dX7_collect_6 ?_
  refine hc_v E hD hS (va_runV (As := []) (rest := []) ⟨hx, hb, hml, hown, hts⟩ ((c_X8_makeEmpty l D K tv ws1 ad b ra sa L Sp sc hb1 hSo) H.size) (cwV 0 hts (hGV hmc k_535 k_536 k_537 k_27 k_538) rfl rfl rfl (by decide +kernel) ⟨Nat.le_of_ble_eq_true rfl, Nat.le_of_ble_eq_true rfl⟩) (hpreV E hP hD hS h35 rfl) rfl rfl hl.1 rfl (lv_room (Nat.le_of_ble_eq_true rfl)) dX7_collect_9 ⟨(Nat.zero_le _), (Nat.zero_le _)⟩) (fun ws2 H locs hp hP hD hS => ?_)
  obtain ⟨hg2, hSo⟩ := hp
  have h33 := (hg2.2 33 (by omega)).trans h33
  have ho := ho.ag hg2 (by omega)
  have hPl0 := hPl0.ag hg2 (by omega)
  have hPs0 := hPs0.ag hg2 (by omega)
  have ht := ht.ag hg2 (by omega)
  have h34 := (hg2.2 34 (by omega)).trans h34
  have hSp0 : ∀ i, i < 6 → ∃ fl It sh nk fx ob1, hStp K ad ws2 (38 + 4 * i) fl It sh nk fx ob1 := fun i hi => by
    obtain ⟨q1, q2, q3, q4, q5, q6, q7⟩ := hSp0 i hi
    exact ⟨q1, q2, q3, q4, q5, q6, q7.ag hg2 (by omega)⟩
  refine lv_aload_n hx hb dX7_collect_12 rfl (lv_at hl 0 rfl) ?_
  refine lv_aload_n hx hb dX7_collect_13 rfl (lv_at hl 1 rfl) ?_
  refine lv_aload_n hx hb dX7_collect_14 rfl (lv_at hl 2 rfl) ?_
  refine lv_aload_n hx hb dX7_collect_15 rfl (lv_at hl 3 rfl) ?_
  refine hc_v E hD hS (va_runV (As := [.ref (ad n), .ref (ad 6), .ref (ad 1)]) (rest := []) ⟨hx, hb, hml, hown, hts⟩ ((c_X7_walk l D K tv ws2 ad n hn o ho np ms hPl0 hnp I dd mm hPs0 hI72 F g cnt X ht hw ln tt 1 b ra sa 0 L Sp (Or.inr rfl) hb1 h33 ⟨fq34, h34, hf34⟩ hSp0 hSo hLL (Nat.zero_le _) (Nat.zero_le _)) H.size) (cwV 3 hts (hGV hmc k_460 k_462 k_2 k_26 k_463) rfl rfl rfl (by decide +kernel) ⟨Nat.le_of_ble_eq_true rfl, Nat.le_of_ble_eq_true rfl⟩) (hpreV E hP hD hS h33 rfl) rfl rfl hl.1 rfl (lv_room (Nat.le_of_ble_eq_true rfl)) dX7_collect_16 ⟨(by show 0 + 0 + (hQc (hLf L (hEn g cnt I o 1 0).2) - hQc L) ≤ (hQc (hLf L (hEn g cnt I o 1 0).2) - hQc L); omega), (by show 0 + 0 + (hQs (hLf L (hEn g cnt I o 1 0).2) - hQs L) ≤ (hQs (hLf L (hEn g cnt I o 1 0).2) - hQs L); omega)⟩) (fun ws3 H locs hp hP hD hS => ?_)
  obtain ⟨hg3, ⟨ra1, h33, h34e, hSt, hSo⟩, hSp1⟩ := hp
  refine W.widen (k := (hQc (hLf L (hEn g cnt I o 1 0).2) - hQc L)) (n := (hQs (hLf L (hEn g cnt I o 1 0).2) - hQs L)) (by show 0 + 0 + (hQc (hLf L (hEn g cnt I o 1 0).2) - hQc L) ≤ (hQc (hLf L (hEn g cnt I o 1 0).2) - hQc L); omega) (by show 0 + 0 + (hQs (hLf L (hEn g cnt I o 1 0).2) - hQs L) ≤ (hQs (hLf L (hEn g cnt I o 1 0).2) - hQs L); omega) ?_
  have h35 := hSo.1
  refine lv_aload_n hx hb dX7_collect_19 rfl (lv_at hl 0 rfl) ?_
  refine va_get (v := .int (nI (hEn g cnt I o 1 0).1)) (C := RX7) (T := TX7) (N := 5) hx hb hts (hin_X7 hmc) hown E.1.1 hP 33 h33 rfl 3 (by decide) (hts _ (hmc _ k_199)) (fun _ h9 => h9) rfl dX7_collect_20 ?_
  refine lv_sipush (v := nI 20000) hx hb dX7_collect_23 (by decide +kernel) ?_
  refine lv_icmp_le (tgt := 32) hx hb dX7_collect_26 (by decide) (fun c1 => ?_) (fun c1 => ?_)
  · exact absurd ((nI_leI (by omega) (by decide)).mp c1) (by omega)
  · refine lv_bipush (v := (-2)) hx hb dX7_collect_29 (by decide +kernel) ?_
    subst hAe
    exact W.iret (v := (-2)) hx hb hr (fun t ht _ => ⟨⟨(-2), ws3, rfl, ⟨Or.inl ⟨hbig, rfl⟩, ((hg1.wide (by decide) (by decide)).tr (hg2.wide (by decide) (by decide))).tr hg3, Or.inl rfl, _, _, b, ra1, sa, (hEn g cnt I o 1 0).2, hb1, hge9.2, h33, h34e, hSp1, hSo⟩, by rw [ht]; exact hP, hD⟩, hS.F ht⟩) hS.2.2 dX7_collect_31

set_option maxHeartbeats 4000000 in
set_option maxRecDepth 100000 in
/-- collect -/
theorem c0_collectB (l : Launch) (D : va_G) (K : Nat → ClassId) (tv : Nat) (ws : va_W) (ad : Nat → Nat) (n : Nat) (hn : n = 26 ∨ n = 31) (o : List Nat) (ho : hOrd K ad ws n o) (np ms : Nat) (hPl0 : hPl K ad ws np ms) (hnp : np ≤ 6) (I dd : Nat → Nat → Nat) (mm : Nat → Nat) (hPs0 : hPs K ad ws I dd mm) (hI72 : ∀ i, i < 6 → ∀ q, q < 3 → I i q < 72) (F : Nat → Nat → Int32) (g : Nat → Nat → Nat) (cnt : Nat) (X : Nat → Nat → Prop) (ht : hTr K ad ws F cnt) (hw : hVw F g cnt X) (ln tt co b ra sa sc L Sp : Nat) (hb1 : b ≤ 1) (h33 : ws[33]? = some (hKc ad ln tt co)) (h34e : ∃ fq : Nat → Option Nat, ws[34]? = some (ad 34, .inl (K 4, 6, .inr (.inr (.inr (.inr fq))))) ∧ ∀ i, i < 6 → fq i = some (ad (38 + 4 * i))) (hSp0 : ∀ i, i < 6 → ∃ fl It sh nk fx ob1, hStp K ad ws (38 + 4 * i) fl It sh nk fx ob1) (hSo : hSol K ad ws b ra sa L Sp sc) (hLL : hLv L) (hSL : Sp ≤ L) (hbig : ¬ 20000 < (hEn g cnt I o 1 0).1) : hI l D (hTy K) tv yX7_collect cX7_collect 4 (some .int) ({ frames := 12, cells := ((hQc (hLf L (hEn g cnt I o 1 0).2) - hQc L) + (if Sp < (hLf L (hEn g cnt I o 1 0).2) then 1 else 0)), slots := ((hQs (hLf L (hEn g cnt I o 1 0).2) - hQs L) + (if Sp < (hLf L (hEn g cnt I o 1 0).2) then (hLf L (hEn g cnt I o 1 0).2) else 0)), locals := 720 }) [.ref (ad 33), .ref (ad n), .ref (ad 6), .ref (ad 1)] ws (fun r ws1 => ((20000 < (hEn g cnt I o 1 0).1 ∧ r = (-2)) ∨ ((hEn g cnt I o 1 0).1 ≤ 20000 ∧ r = nI (hEn g cnt I o 1 0).2)) ∧ hAg 33 62 ws ws1 ∧ (r = (-2) ∨ ∃ n1, r = nI n1 ∧ n1 ≤ (hLf L (hEn g cnt I o 1 0).2)) ∧ ∃ ln1 tt1 b1 ra1 sa1 sc1, b1 ≤ 1 ∧ sc1 ≤ (hLf L (hEn g cnt I o 1 0).2) ∧ ws1[33]? = some (hKc ad ln1 tt1 1) ∧ (∃ fq : Nat → Option Nat, ws1[34]? = some (ad 34, .inl (K 4, 6, .inr (.inr (.inr (.inr fq))))) ∧ ∀ i, i < 6 → fq i = some (ad (38 + 4 * i))) ∧ (∀ i, i < 6 → ∃ fl It sh nk fx ob1, hStp K ad ws1 (38 + 4 * i) fl It sh nk fx ob1) ∧ hSol K ad ws1 b1 ra1 sa1 (hLf L (hEn g cnt I o 1 0).2) (hLf L (hEn g cnt I o 1 0).2) sc1) := by
  intro sz
  refine Met.ofW (cc := cX7_collect) (maxL := 4) (ret := (some .int)) (by decide) rfl ?_
  intro p e s m args below meth c s₁ B hml hv0
  obtain ⟨rfl, rfl, E, hP, hD⟩ := hentry hv0
  have hx := B.exec
  have hb := B.bytes
  have hr := B.returns
  have hts := atoms_spec (ws := hC yX7_collect cX7_collect 4 (some .int)) B.pre
  have hown : s.vm.findClass RX7 = some m.cls := findClass_of_methodNamed B.named
  have hlocks := B.notSynchronized
  generalize hAe : va_A ws s.heap.size = A at hD E ⊢
  have hl := lv_entry ([.ref (ad 33), .ref (ad n), .ref (ad 6), .ref (ad 1)]) (n := 4) (Nat.le_of_ble_eq_true rfl)
  rw [lg_entry_eq]
  generalize (lg_sl ([.ref (ad 33), .ref (ad n), .ref (ad 6), .ref (ad 1)]) ++ List.replicate (4 - (lg_sl ([.ref (ad 33), .ref (ad n), .ref (ad 6), .ref (ad 1)])).length) Slot.unset).toArray = ls at hl ⊢
  have hl : lv_has ls 4 [(0, .ref (ad 33)), (1, .ref (ad n)), (2, .ref (ad 6)), (3, .ref (ad 1))] := hl
  refine hat0 (fun H hHe => ?_)
  have hP : va_P D vwCl ws H := by rw [hHe]; exact hP
  have hS : va_S A s.heap H [] := by rw [hHe]; exact va_S.rf
  obtain ⟨fq34, h34, hf34⟩ := h34e
  have hLb := hLv_le hLL
  obtain ⟨fo9, uo9, -, hok9⟩ := id ho
  have ho6 : o.length ≤ 6 := hok9.1
  have hbd9 := hEn_bd g cnt I o 1 0 (by omega)
  have hge9 := hLf_ge (L := L) hbd9.2.2
  have hlv9 := hLf_lv (c := (hEn g cnt I o 1 0).2) hLL
  have hle9 := hLv_le hlv9
  refine lv_aload_n hx hb dX7_collect_0 rfl (lv_at hl 0 rfl) ?_
  refine lv_iconst (v := nI 1) hx hb dX7_collect_1 (by decide +kernel) ?_
  refine va_put (v := .int (nI 1)) (ty := .boolean) (C := RX7) (T := TX7) (N := 5) hx hb hts (hin_X7 hmc) tyX7 tyX7_ok nmX7 hown E.1.1 hP hD hS 33 h33 rfl 4 (by decide) (hts _ (hmc _ k_200)) (fun _ h9 => h9) rfl (by decide +kernel) rfl rfl (Nat.le_of_ble_eq_true rfl) dX7_collect_2 (fun H locs hP hD hS => ?_)
  obtain ⟨ws1, ews1⟩ : ∃ zw : va_W, zw = List.set ws 33 ((ad 33), .inr (iN2, [.ref (ad 34), .ref (ad 35), .int (nI ln), .int (nI tt), .int (nI 1)])) := ⟨_, rfl⟩
  have hP : va_P D vwCl ws1 H := by rw [ews1]; exact hP
  have hD : va_D A ws1 := by rw [ews1]; exact hD
  have h33 : ws1[33]? = some ((ad 33), .inr (iN2, [.ref (ad 34), .ref (ad 35), .int (nI ln), .int (nI tt), .int (nI 1)])) := by rw [ews1]; exact hset_eq h33
  have hg1 : hAg 33 34 ws ws1 := by rw [ews1]; exact hAg.rf.set (by decide) (by decide)
  have ho := ho.ag hg1 (by omega)
  have hPl0 := hPl0.ag hg1 (by omega)
  have hPs0 := hPs0.ag hg1 (by omega)
  have ht := ht.ag hg1 (by omega)
  have h34 := (hg1.2 34 (by omega)).trans h34
  have hSp0 : ∀ i, i < 6 → ∃ fl It sh nk fx ob1, hStp K ad ws1 (38 + 4 * i) fl It sh nk fx ob1 := fun i hi => by
    obtain ⟨q1, q2, q3, q4, q5, q6, q7⟩ := hSp0 i hi
    exact ⟨q1, q2, q3, q4, q5, q6, q7.ag hg1 (by omega)⟩
  have hSo := hSo.ag hb1 hg1 (by omega)
  have h35 := hSo.1
  refine lv_aload_n hx hb dX7_collect_5 rfl (lv_at hl 0 rfl) ?_
  refine va_get (v := .ref (ad 35)) (C := RX7) (T := TX7) (N := 5) hx hb hts (hin_X7 hmc) hown E.1.1 hP 33 h33 rfl 1 (by decide) (hts _ (hmc _ k_196)) (fun _ h9 => h9) rfl dX7_collect_6 ?_
  refine hc_v E hD hS (va_runV (As := []) (rest := []) ⟨hx, hb, hml, hown, hts⟩ ((c_X8_makeEmpty l D K tv ws1 ad b ra sa L Sp sc hb1 hSo) H.size) (cwV 0 hts (hGV hmc k_535 k_536 k_537 k_27 k_538) rfl rfl rfl (by decide +kernel) ⟨Nat.le_of_ble_eq_true rfl, Nat.le_of_ble_eq_true rfl⟩) (hpreV E hP hD hS h35 rfl) rfl rfl hl.1 rfl (lv_room (Nat.le_of_ble_eq_true rfl)) dX7_collect_9 ⟨(Nat.zero_le _), (Nat.zero_le _)⟩) (fun ws2 H locs hp hP hD hS => ?_)
  obtain ⟨hg2, hSo⟩ := hp
  have h33 := (hg2.2 33 (by omega)).trans h33
  have ho := ho.ag hg2 (by omega)
  have hPl0 := hPl0.ag hg2 (by omega)
  have hPs0 := hPs0.ag hg2 (by omega)
  have ht := ht.ag hg2 (by omega)
  have h34 := (hg2.2 34 (by omega)).trans h34
  have hSp0 : ∀ i, i < 6 → ∃ fl It sh nk fx ob1, hStp K ad ws2 (38 + 4 * i) fl It sh nk fx ob1 := fun i hi => by
    obtain ⟨q1, q2, q3, q4, q5, q6, q7⟩ := hSp0 i hi
    exact ⟨q1, q2, q3, q4, q5, q6, q7.ag hg2 (by omega)⟩
  refine lv_aload_n hx hb dX7_collect_12 rfl (lv_at hl 0 rfl) ?_
  refine lv_aload_n hx hb dX7_collect_13 rfl (lv_at hl 1 rfl) ?_
  refine lv_aload_n hx hb dX7_collect_14 rfl (lv_at hl 2 rfl) ?_
  refine lv_aload_n hx hb dX7_collect_15 rfl (lv_at hl 3 rfl) ?_
  refine hc_v E hD hS (va_runV (As := [.ref (ad n), .ref (ad 6), .ref (ad 1)]) (rest := []) ⟨hx, hb, hml, hown, hts⟩ ((c_X7_walk l D K tv ws2 ad n hn o ho np ms hPl0 hnp I dd mm hPs0 hI72 F g cnt X ht hw ln tt 1 b ra sa 0 L Sp (Or.inr rfl) hb1 h33 ⟨fq34, h34, hf34⟩ hSp0 hSo hLL (Nat.zero_le _) (Nat.zero_le _)) H.size) (cwV 3 hts (hGV hmc k_460 k_462 k_2 k_26 k_463) rfl rfl rfl (by decide +kernel) ⟨Nat.le_of_ble_eq_true rfl, Nat.le_of_ble_eq_true rfl⟩) (hpreV E hP hD hS h33 rfl) rfl rfl hl.1 rfl (lv_room (Nat.le_of_ble_eq_true rfl)) dX7_collect_16 ⟨(by show 0 + 0 + (hQc (hLf L (hEn g cnt I o 1 0).2) - hQc L) ≤ (hQc (hLf L (hEn g cnt I o 1 0).2) - hQc L) + _; omega), (by show 0 + 0 + (hQs (hLf L (hEn g cnt I o 1 0).2) - hQs L) ≤ (hQs (hLf L (hEn g cnt I o 1 0).2) - hQs L) + _; omega)⟩) (fun ws3 H locs hp hP hD hS => ?_)
  obtain ⟨hg3, ⟨ra1, h33, h34e, hSt, hSo⟩, hSp1⟩ := hp
  refine W.widen (k := (hQc (hLf L (hEn g cnt I o 1 0).2) - hQc L)) (n := (hQs (hLf L (hEn g cnt I o 1 0).2) - hQs L)) (by show 0 + 0 + (hQc (hLf L (hEn g cnt I o 1 0).2) - hQc L) ≤ (hQc (hLf L (hEn g cnt I o 1 0).2) - hQc L); omega) (by show 0 + 0 + (hQs (hLf L (hEn g cnt I o 1 0).2) - hQs L) ≤ (hQs (hLf L (hEn g cnt I o 1 0).2) - hQs L); omega) ?_
  have h35 := hSo.1
  refine lv_aload_n hx hb dX7_collect_19 rfl (lv_at hl 0 rfl) ?_
  refine va_get (v := .int (nI (hEn g cnt I o 1 0).1)) (C := RX7) (T := TX7) (N := 5) hx hb hts (hin_X7 hmc) hown E.1.1 hP 33 h33 rfl 3 (by decide) (hts _ (hmc _ k_199)) (fun _ h9 => h9) rfl dX7_collect_20 ?_
  refine lv_sipush (v := nI 20000) hx hb dX7_collect_23 (by decide +kernel) ?_
  refine lv_icmp_le (tgt := 32) hx hb dX7_collect_26 (by decide) (fun c1 => ?_) (fun c1 => ?_)
  · refine lv_aload_n hx hb dX7_collect_32 rfl (lv_at hl 0 rfl) ?_
    refine va_get (v := .ref (ad 35)) (C := RX7) (T := TX7) (N := 5) hx hb hts (hin_X7 hmc) hown E.1.1 hP 33 h33 rfl 1 (by decide) (hts _ (hmc _ k_196)) (fun _ h9 => h9) rfl dX7_collect_33 ?_
    refine hc_v E hD hS (va_runV (As := []) (rest := []) ⟨hx, hb, hml, hown, hts⟩ ((c_X8_sort l D K tv ws3 ad b ra1 sa (hLf L (hEn g cnt I o 1 0).2) Sp (hEn g cnt I o 1 0).2 hb1 hSo hge9.2 (by omega) (by omega)) H.size) (cwV 0 hts (hGV hmc k_539 k_540 k_541 k_27 k_542) rfl rfl rfl (by decide +kernel) ⟨Nat.le_of_ble_eq_true rfl, Nat.le_of_ble_eq_true rfl⟩) (hpreV E hP hD hS h35 rfl) rfl rfl hl.1 rfl (lv_room (Nat.le_of_ble_eq_true rfl)) dX7_collect_36 ⟨(by show (hQc (hLf L (hEn g cnt I o 1 0).2) - hQc L) + (if Sp < (hLf L (hEn g cnt I o 1 0).2) then 1 else 0) ≤ (hQc (hLf L (hEn g cnt I o 1 0).2) - hQc L) + (if Sp < (hLf L (hEn g cnt I o 1 0).2) then 1 else 0); omega), (by show (hQs (hLf L (hEn g cnt I o 1 0).2) - hQs L) + (if Sp < (hLf L (hEn g cnt I o 1 0).2) then (hLf L (hEn g cnt I o 1 0).2) else 0) ≤ (hQs (hLf L (hEn g cnt I o 1 0).2) - hQs L) + (if Sp < (hLf L (hEn g cnt I o 1 0).2) then (hLf L (hEn g cnt I o 1 0).2) else 0); omega)⟩) (fun ws4 H locs hp hP hD hS => ?_)
    obtain ⟨hg4, b1, ra2, sa2, hb2, hSo⟩ := hp
    have h33 := (hg4.2 33 (by omega)).trans h33
    have h35 := hSo.1
    obtain ⟨fq5, h345, hf5⟩ := h34e
    have h345 := (hg4.2 34 (by omega)).trans h345
    refine lv_aload_n hx hb dX7_collect_39 rfl (lv_at hl 0 rfl) ?_
    refine va_get (v := .ref (ad 35)) (C := RX7) (T := TX7) (N := 5) hx hb hts (hin_X7 hmc) hown E.1.1 hP 33 h33 rfl 1 (by decide) (hts _ (hmc _ k_196)) (fun _ h9 => h9) rfl dX7_collect_40 ?_
    refine va_getN (v := .int (nI (hEn g cnt I o 1 0).2)) (C := RX8) (T := TX8) (N := 3) hx hb hts (hin_X8 hmc) hown E.1.1 hP 35 h35 rfl 2 (by decide) (va_Nw.use rfl (E.1.2.1 _ k_158)) (fun _ h9 => h9) rfl dX7_collect_43 ?_
    subst hAe
    exact W.iret (v := nI (hEn g cnt I o 1 0).2) hx hb hr (fun t ht _ => ⟨⟨nI (hEn g cnt I o 1 0).2, ws4, rfl, ⟨Or.inr ⟨Nat.not_lt.mp hbig, rfl⟩, (((hg1.wide (by decide) (by decide)).tr (hg2.wide (by decide) (by decide))).tr hg3).tr (hg4.wide (by decide) (by decide)), Or.inr ⟨_, rfl, hge9.2⟩, _, _, b1, ra2, sa2, _, hb2, hge9.2, h33, ⟨fq5, h345, hf5⟩, fun i hi => by
        obtain ⟨r1, r2, r3, r4, r5, r6, r7⟩ := hSp1 i hi
        exact ⟨r1, r2, r3, r4, r5, r6, r7.ag hg4 (by omega)⟩, hSo⟩, by rw [ht]; exact hP, hD⟩, hS.F ht⟩) hS.2.2 dX7_collect_46
  · exact absurd (nI_le (show (hEn g cnt I o 1 0).1 ≤ 20000 by omega) (by decide)) c1
