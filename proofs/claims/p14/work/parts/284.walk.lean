set_option maxHeartbeats 4000000 in
set_option maxRecDepth 100000 in
/-- solutions, asked before -/
theorem c0_sol0 (l : Launch) (D : va_G) (K : Nat → ClassId) (tv : Nat) (ws : va_W) (ad : Nat → Nat) (F : Nat → Nat → Int32) (cnt : Nat) (I dd : Nat → Nat → Nat) (mm : Nat → Nat) (np ms : Nat) (o : List Nat) (lc rd : Nat) (ob : List Nat) (fd : Int32) (ln tt co b ra sa sc L Sp : Nat) (hb1 : b ≤ 1) (hcx : hCX K ad ws F cnt I dd mm np ms o lc rd ob fd ln tt co b ra sa sc L Sp) (g : Nat → Nat → Nat) (S : Nat → Nat → Nat → Prop) (hcb : hCB F g S cnt I dd mm np ms o rd ob fd b sc L Sp) (hcz : hCZ S I dd mm np ms lc rd ob fd) (hne : ¬ fd = (-4)) : hI l D (hTy K) tv yX0_solutions cX0_solutions 1 (some .int) ({ frames := 13, cells := 0, slots := 0, locals := 780 }) [.ref (ad 0)] ws (fun r ws1 => hSolP S I np r ∧ hCS K ad ws1 S cnt np o I L Sp) := by
  intro sz
  refine Met.ofW (cc := cX0_solutions) (maxL := 1) (ret := (some .int)) (by decide) rfl ?_
  intro p e s m args below meth c s₁ B hml hv0
  obtain ⟨rfl, rfl, E, hP, hD⟩ := hentry hv0
  have hx := B.exec
  have hb := B.bytes
  have hr := B.returns
  have hts := atoms_spec (ws := hC yX0_solutions cX0_solutions 1 (some .int)) B.pre
  have hown : s.vm.findClass RX0 = some m.cls := findClass_of_methodNamed B.named
  have hlocks := B.notSynchronized
  generalize hAe : va_A ws s.heap.size = A at hD E ⊢
  have hl := lv_entry ([.ref (ad 0)]) (n := 1) (Nat.le_of_ble_eq_true rfl)
  rw [lg_entry_eq]
  generalize (lg_sl ([.ref (ad 0)]) ++ List.replicate (1 - (lg_sl ([.ref (ad 0)])).length) Slot.unset).toArray = ls at hl ⊢
  have hl : lv_has ls 1 [(0, .ref (ad 0))] := hl
  refine hat0 (fun H hHe => ?_)
  have hP : va_P D vwCl ws H := by rw [hHe]; exact hP
  have hS : va_S A s.heap H [] := by rw [hHe]; exact va_S.rf
  obtain ⟨hfd, hVw1, hnp, hms, hbd, hnd, hon, hrd, hb1, hLL, hLS, hSL, hsL⟩ := id hcb
  obtain ⟨h0, hTr0, hPl0, hPs0, hO26, h28, hO29, hO31, h33, ⟨fq34, h34, hf34⟩, hSp0, hSo⟩ := id hcx
  have h1 := hTr0.1
  have h6 := hPl0.1
  obtain ⟨f26, u26, ⟨h26, -⟩, -⟩ := id hO26
  refine lv_aload_n hx hb dX0_solutions_0 rfl (lv_at hl 0 rfl) ?_
  refine va_get (v := .int fd) (C := RX0) (T := TX0) (N := 6) hx hb hts (hin_X0 hmc) hown E.1.1 hP 0 h0 rfl 5 (by decide) (hts _ (hmc _ k_217)) (fun _ h9 => h9) rfl dX0_solutions_1 ?_
  refine lv_bipush (v := (-4)) hx hb dX0_solutions_4 (by decide +kernel) ?_
  refine lv_icmp_ne (tgt := 32) hx hb dX0_solutions_6 (by decide) (fun c1 => ?_) (fun c1 => ?_)
  · refine lv_aload_n hx hb dX0_solutions_32 rfl (lv_at hl 0 rfl) ?_
    refine va_get (v := .int fd) (C := RX0) (T := TX0) (N := 6) hx hb hts (hin_X0 hmc) hown E.1.1 hP 0 h0 rfl 5 (by decide) (hts _ (hmc _ k_217)) (fun _ h9 => h9) rfl dX0_solutions_33 ?_
    subst hAe
    exact W.iret (v := fd) hx hb hr (fun t ht _ => ⟨⟨fd, ws, rfl, ⟨hcz.2.2.resolve_left hne, F, g, dd, mm, ms, lc, rd, ob, fd, ln, tt, co, b, ra, sa, sc, hcx, hcb, hcz⟩, by rw [ht]; exact hP, hD⟩, hS.F ht⟩) hS.2.2 dX0_solutions_36
  · first | exact absurd c1 hne | exact absurd hne c1

set_option maxHeartbeats 4000000 in
set_option maxRecDepth 100000 in
/-- solutions -/
theorem c0_solA (l : Launch) (D : va_G) (K : Nat → ClassId) (tv : Nat) (ws : va_W) (ad : Nat → Nat) (F : Nat → Nat → Int32) (cnt : Nat) (I dd : Nat → Nat → Nat) (mm : Nat → Nat) (np ms : Nat) (o : List Nat) (lc rd : Nat) (ob : List Nat) (fd : Int32) (ln tt co b ra sa sc L Sp : Nat) (hb1 : b ≤ 1) (hcx : hCX K ad ws F cnt I dd mm np ms o lc rd ob fd ln tt co b ra sa sc L Sp) (g : Nat → Nat → Nat) (S : Nat → Nat → Nat → Prop) (hcb : hCB F g S cnt I dd mm np ms o rd ob fd b sc L Sp) (hcz : hCZ S I dd mm np ms lc rd ob fd) (hf4 : fd = (-4)) (hbig : 20000 < (hEn g cnt I (hOB np I (hD1 g cnt I dd np ms) (hM1 g cnt I mm np ms) rd ob) 1 0).1) : hI l D (hTy K) tv yX0_solutions cX0_solutions 1 (some .int) ({ frames := 13, cells := (hQc (hLf L (hEn g cnt I (hOB np I (hD1 g cnt I dd np ms) (hM1 g cnt I mm np ms) rd ob) 1 0).2) - hQc L), slots := (hQs (hLf L (hEn g cnt I (hOB np I (hD1 g cnt I dd np ms) (hM1 g cnt I mm np ms) rd ob) 1 0).2) - hQs L), locals := 780 }) [.ref (ad 0)] ws (fun r ws1 => hSolP S I np r ∧ hCS K ad ws1 S cnt np o I (hLf L (hEn g cnt I (hOB np I (hD1 g cnt I dd np ms) (hM1 g cnt I mm np ms) rd ob) 1 0).2) Sp) := by
  intro sz
  refine Met.ofW (cc := cX0_solutions) (maxL := 1) (ret := (some .int)) (by decide) rfl ?_
  intro p e s m args below meth c s₁ B hml hv0
  obtain ⟨rfl, rfl, E, hP, hD⟩ := hentry hv0
  have hx := B.exec
  have hb := B.bytes
  have hr := B.returns
  have hts := atoms_spec (ws := hC yX0_solutions cX0_solutions 1 (some .int)) B.pre
  have hown : s.vm.findClass RX0 = some m.cls := findClass_of_methodNamed B.named
  have hlocks := B.notSynchronized
  generalize hAe : va_A ws s.heap.size = A at hD E ⊢
  have hl := lv_entry ([.ref (ad 0)]) (n := 1) (Nat.le_of_ble_eq_true rfl)
  rw [lg_entry_eq]
  generalize (lg_sl ([.ref (ad 0)]) ++ List.replicate (1 - (lg_sl ([.ref (ad 0)])).length) Slot.unset).toArray = ls at hl ⊢
  have hl : lv_has ls 1 [(0, .ref (ad 0))] := hl
  refine hat0 (fun H hHe => ?_)
  have hP : va_P D vwCl ws H := by rw [hHe]; exact hP
  have hS : va_S A s.heap H [] := by rw [hHe]; exact va_S.rf
  obtain ⟨hfd, hVw1, hnp, hms, hbd, hnd, hon, hrd, hb1, hLL, hLS, hSL, hsL⟩ := id hcb
  obtain ⟨h0, hTr0, hPl0, hPs0, hO26, h28, hO29, hO31, h33, ⟨fq34, h34, hf34⟩, hSp0, hSo⟩ := id hcx
  have hbd9 := hEn_bd g cnt I (hOB np I (hD1 g cnt I dd np ms) (hM1 g cnt I mm np ms) rd ob) 1 0 (by omega)
  have hge9 := hLf_ge (L := L) hbd9.2.2
  have hlv9 := hLf_lv (c := (hEn g cnt I (hOB np I (hD1 g cnt I dd np ms) (hM1 g cnt I mm np ms) rd ob) 1 0).2) hLL
  have h1 := hTr0.1
  have h6 := hPl0.1
  obtain ⟨f26, u26, ⟨h26, -⟩, -⟩ := id hO26
  refine lv_aload_n hx hb dX0_solutions_0 rfl (lv_at hl 0 rfl) ?_
  refine va_get (v := .int fd) (C := RX0) (T := TX0) (N := 6) hx hb hts (hin_X0 hmc) hown E.1.1 hP 0 h0 rfl 5 (by decide) (hts _ (hmc _ k_217)) (fun _ h9 => h9) rfl dX0_solutions_1 ?_
  refine lv_bipush (v := (-4)) hx hb dX0_solutions_4 (by decide +kernel) ?_
  refine lv_icmp_ne (tgt := 32) hx hb dX0_solutions_6 (by decide) (fun c1 => ?_) (fun c1 => ?_)
  · first | exact absurd hf4 c1 | exact absurd c1 hf4
  · refine lv_aload_n hx hb dX0_solutions_9 rfl (lv_at hl 0 rfl) ?_
    refine lv_aload_n hx hb dX0_solutions_10 rfl (lv_at hl 0 rfl) ?_
    refine va_get (v := .ref (ad 33)) (C := RX0) (T := TX0) (N := 6) hx hb hts (hin_X0 hmc) hown E.1.1 hP 0 h0 rfl 4 (by decide) (hts _ (hmc _ k_216)) (fun _ h9 => h9) rfl dX0_solutions_11 ?_
    refine lv_aload_n hx hb dX0_solutions_14 rfl (lv_at hl 0 rfl) ?_
    refine hc_r E hD hS (va_runV (As := []) (rest := [.ref (ad 33), .ref (ad 0)]) ⟨hx, hb, hml, hown, hts⟩ ((c_X0_bestOrder l D K tv ws ad F cnt I dd mm np ms o lc rd ob fd ln tt co b ra sa sc L Sp hb1 hcx g S hcb) H.size) (cwV 0 hts (hGV hmc k_382 k_384 k_1 k_20 k_385) rfl rfl rfl (by decide +kernel) ⟨Nat.le_of_ble_eq_true rfl, Nat.le_of_ble_eq_true rfl⟩) (hpreV E hP hD hS h0 rfl) rfl rfl hl.1 rfl (lv_room (Nat.le_of_ble_eq_true rfl)) dX0_solutions_15 ⟨(Nat.zero_le _), (Nat.zero_le _)⟩) (fun r2 ws1 H locs hp hP hD hS => ?_)
    obtain ⟨rfl, hcx, hobl⟩ := hp
    obtain ⟨h0, hTr0, hPl0, hPs0, hO26, h28, hO29, hO31, h33, ⟨fq34, h34, hf34⟩, hSp0, hSo⟩ := id hcx
    have h1 := hTr0.1
    have h6 := hPl0.1
    obtain ⟨f26, u26, ⟨h26, -⟩, -⟩ := id hO26
    refine lv_aload_n hx hb dX0_solutions_18 rfl (lv_at hl 0 rfl) ?_
    refine va_get (v := .ref (ad 6)) (C := RX0) (T := TX0) (N := 6) hx hb hts (hin_X0 hmc) hown E.1.1 hP 0 h0 rfl 1 (by decide) (hts _ (hmc _ k_213)) (fun _ h9 => h9) rfl dX0_solutions_19 ?_
    refine lv_aload_n hx hb dX0_solutions_22 rfl (lv_at hl 0 rfl) ?_
    refine va_get (v := .ref (ad 1)) (C := RX0) (T := TX0) (N := 6) hx hb hts (hin_X0 hmc) hown E.1.1 hP 0 h0 rfl 0 (by decide) (hts _ (hmc _ k_212)) (fun _ h9 => h9) rfl dX0_solutions_23 ?_
    refine hc_i E hD hS (va_runV (As := [.ref (ad 31), .ref (ad 6), .ref (ad 1)]) (rest := [.ref (ad 0)]) ⟨hx, hb, hml, hown, hts⟩ ((c0_collectA l D K tv ws1 ad 31 (Or.inr rfl) (hOB np I (hD1 g cnt I dd np ms) (hM1 g cnt I mm np ms) rd ob) hO31 np 1 hPl0 hnp I (hD1 g cnt I dd np ms) (hM1 g cnt I mm np ms) hPs0 (fun i hi q hq => ((hbd i hi).1 q hq).2) F g cnt (hXv S) hTr0 hVw1 ln tt co b ra sa sc L Sp hb1 h33 ⟨fq34, h34, hf34⟩ hSp0 hSo hLL hSL hbig) H.size) (cwV 3 hts (hGV hmc k_531 k_532 k_533 k_26 k_534) rfl rfl rfl (by decide +kernel) ⟨Nat.le_of_ble_eq_true rfl, Nat.le_of_ble_eq_true rfl⟩) (hpreV E hP hD hS h33 rfl) rfl rfl hl.1 rfl (lv_room (Nat.le_of_ble_eq_true rfl)) dX0_solutions_26 ⟨(by show 0 + 0 + (hQc (hLf L (hEn g cnt I (hOB np I (hD1 g cnt I dd np ms) (hM1 g cnt I mm np ms) rd ob) 1 0).2) - hQc L) ≤ (hQc (hLf L (hEn g cnt I (hOB np I (hD1 g cnt I dd np ms) (hM1 g cnt I mm np ms) rd ob) 1 0).2) - hQc L); omega), (by show 0 + 0 + (hQs (hLf L (hEn g cnt I (hOB np I (hD1 g cnt I dd np ms) (hM1 g cnt I mm np ms) rd ob) 1 0).2) - hQs L) ≤ (hQs (hLf L (hEn g cnt I (hOB np I (hD1 g cnt I dd np ms) (hM1 g cnt I mm np ms) rd ob) 1 0).2) - hQs L); omega)⟩) (fun r4 ws3 H locs hp hP hD hS => ?_)
    obtain ⟨hx9, hg, hr9, ln1, tt1, b1, ra1, sa1, sc1, hb1, hsc, k33, k34, kSp, kSo⟩ := hp
    have hb9 := (hcz.best hVw1 hms hrd hnp).2.1 rfl
    have hsol : hSolP S I np _ := ⟨_, hb9.1, by
      have q := hSol_of (hEn_eq hVw1 (fun i hi q hq => ((hbd _ (Nat.lt_of_lt_of_le (hb9.1.1.1 i (by rw [← hobl]; exact hi)) hnp)).1 q hq).2) (Or.inr rfl) (Nat.zero_le _)) hx9
      rw [hobl] at q
      exact q⟩
    have h0 := (hg.2 0 (by omega)).trans h0
    have hTr0 := hTr0.ag hg (by omega)
    have hPl0 := hPl0.ag hg (by omega)
    have hPs0 := hPs0.ag hg (by omega)
    have hO26 := hO26.ag hg (by omega)
    have h28 := (hg.2 28 (by omega)).trans h28
    have hO29 := hO29.ag hg (by omega)
    have hO31 := hO31.ag hg (by omega)
    have h33 := k33
    obtain ⟨fq34, h34, hf34⟩ := k34
    have hSp0 := kSp
    have hSo := kSo
    refine W.widen (k := (hQc (hLf L (hEn g cnt I (hOB np I (hD1 g cnt I dd np ms) (hM1 g cnt I mm np ms) rd ob) 1 0).2) - hQc L)) (n := (hQs (hLf L (hEn g cnt I (hOB np I (hD1 g cnt I dd np ms) (hM1 g cnt I mm np ms) rd ob) 1 0).2) - hQs L)) (by show 0 + 0 + (hQc (hLf L (hEn g cnt I (hOB np I (hD1 g cnt I dd np ms) (hM1 g cnt I mm np ms) rd ob) 1 0).2) - hQc L) ≤ (hQc (hLf L (hEn g cnt I (hOB np I (hD1 g cnt I dd np ms) (hM1 g cnt I mm np ms) rd ob) 1 0).2) - hQc L); omega) (by show 0 + 0 + (hQs (hLf L (hEn g cnt I (hOB np I (hD1 g cnt I dd np ms) (hM1 g cnt I mm np ms) rd ob) 1 0).2) - hQs L) ≤ (hQs (hLf L (hEn g cnt I (hOB np I (hD1 g cnt I dd np ms) (hM1 g cnt I mm np ms) rd ob) 1 0).2) - hQs L); omega) ?_
    refine va_put (v := .int r4) (ty := .int) (C := RX0) (T := TX0) (N := 6) hx hb hts (hin_X0 hmc) tyX0 tyX0_ok nmX0 hown E.1.1 hP hD hS 0 h0 rfl 5 (by decide) (hts _ (hmc _ k_217)) (fun _ h9 => h9) rfl (by decide +kernel) rfl rfl (Nat.le_of_ble_eq_true rfl) dX0_solutions_29 (fun H locs hP hD hS => ?_)
    obtain ⟨ws5, ews5⟩ : ∃ zw : va_W, zw = List.set ws3 0 ((ad 0), .inr (iJ, [.ref (ad 1), .ref (ad 6), .ref (ad 26), .ref (ad 28), .ref (ad 33), .int r4])) := ⟨_, rfl⟩
    have hP : va_P D vwCl ws5 H := by rw [ews5]; exact hP
    have hD : va_D A ws5 := by rw [ews5]; exact hD
    have h0 : ws5[0]? = some ((ad 0), .inr (iJ, [.ref (ad 1), .ref (ad 6), .ref (ad 26), .ref (ad 28), .ref (ad 33), .int r4])) := by rw [ews5]; exact hset_eq h0
    have hgf : hAg 0 1 ws3 ws5 := by rw [ews5]; exact hAg.rf.set (by decide) (by decide)
    have hTr0 := hTr0.ag hgf (by omega)
    have hPl0 := hPl0.ag hgf (by omega)
    have hPs0 := hPs0.ag hgf (by omega)
    have hO26 := hO26.ag hgf (by omega)
    have h28 := (hgf.2 28 (by omega)).trans h28
    have hO29 := hO29.ag hgf (by omega)
    have hO31 := hO31.ag hgf (by omega)
    have h33 := (hgf.2 33 (by omega)).trans h33
    have h34 := (hgf.2 34 (by omega)).trans h34
    have hSo := hSo.ag hb1 hgf (by omega)
    have hSp0 : ∀ i, i < 6 → ∃ fl It sh nk fx ob1, hStp K ad ws5 (38 + 4 * i) fl It sh nk fx ob1 := fun i hi => by
      obtain ⟨q1, q2, q3, q4, q5, q6, q7⟩ := hSp0 i hi
      exact ⟨q1, q2, q3, q4, q5, q6, q7.ag hgf (by omega)⟩
    refine lv_aload_n hx hb dX0_solutions_32 rfl (lv_at hl 0 rfl) ?_
    refine va_get (v := .int r4) (C := RX0) (T := TX0) (N := 6) hx hb hts (hin_X0 hmc) hown E.1.1 hP 0 h0 rfl 5 (by decide) (hts _ (hmc _ k_217)) (fun _ h9 => h9) rfl dX0_solutions_33 ?_
    subst hAe
    exact W.iret (v := r4) hx hb hr (fun t ht _ => ⟨⟨r4, ws5, rfl, ⟨hsol, ⟨_, _, _, _, _, _, _, _, _, _, _, _, _, _, _, _, ⟨h0, hTr0, hPl0, hPs0, hO26, h28, hO29, hO31, h33, ⟨fq34, h34, hf34⟩, hSp0, hSo⟩, ⟨Or.inr hr9, hVw1, hnp, Or.inr rfl, hbd_meas hVw1 hbd, hnd, hon, Or.inr ⟨rfl, hobl⟩, hb1, hlv9, hLS, Nat.le_trans hSL hge9.1, hsc⟩, hcz.sol hVw1 hms hrd hnp hsol⟩⟩, by rw [ht]; exact hP, hD⟩, hS.F ht⟩) hS.2.2 dX0_solutions_36

set_option maxHeartbeats 4000000 in
set_option maxRecDepth 100000 in
/-- solutions -/
theorem c0_solB (l : Launch) (D : va_G) (K : Nat → ClassId) (tv : Nat) (ws : va_W) (ad : Nat → Nat) (F : Nat → Nat → Int32) (cnt : Nat) (I dd : Nat → Nat → Nat) (mm : Nat → Nat) (np ms : Nat) (o : List Nat) (lc rd : Nat) (ob : List Nat) (fd : Int32) (ln tt co b ra sa sc L Sp : Nat) (hb1 : b ≤ 1) (hcx : hCX K ad ws F cnt I dd mm np ms o lc rd ob fd ln tt co b ra sa sc L Sp) (g : Nat → Nat → Nat) (S : Nat → Nat → Nat → Prop) (hcb : hCB F g S cnt I dd mm np ms o rd ob fd b sc L Sp) (hcz : hCZ S I dd mm np ms lc rd ob fd) (hf4 : fd = (-4)) (hbig : ¬ 20000 < (hEn g cnt I (hOB np I (hD1 g cnt I dd np ms) (hM1 g cnt I mm np ms) rd ob) 1 0).1) : hI l D (hTy K) tv yX0_solutions cX0_solutions 1 (some .int) ({ frames := 13, cells := ((hQc (hLf L (hEn g cnt I (hOB np I (hD1 g cnt I dd np ms) (hM1 g cnt I mm np ms) rd ob) 1 0).2) - hQc L) + (if Sp < (hLf L (hEn g cnt I (hOB np I (hD1 g cnt I dd np ms) (hM1 g cnt I mm np ms) rd ob) 1 0).2) then 1 else 0)), slots := ((hQs (hLf L (hEn g cnt I (hOB np I (hD1 g cnt I dd np ms) (hM1 g cnt I mm np ms) rd ob) 1 0).2) - hQs L) + (if Sp < (hLf L (hEn g cnt I (hOB np I (hD1 g cnt I dd np ms) (hM1 g cnt I mm np ms) rd ob) 1 0).2) then (hLf L (hEn g cnt I (hOB np I (hD1 g cnt I dd np ms) (hM1 g cnt I mm np ms) rd ob) 1 0).2) else 0)), locals := 780 }) [.ref (ad 0)] ws (fun r ws1 => hSolP S I np r ∧ hCS K ad ws1 S cnt np o I (hLf L (hEn g cnt I (hOB np I (hD1 g cnt I dd np ms) (hM1 g cnt I mm np ms) rd ob) 1 0).2) (hLf L (hEn g cnt I (hOB np I (hD1 g cnt I dd np ms) (hM1 g cnt I mm np ms) rd ob) 1 0).2)) := by
  intro sz
  refine Met.ofW (cc := cX0_solutions) (maxL := 1) (ret := (some .int)) (by decide) rfl ?_
  intro p e s m args below meth c s₁ B hml hv0
  obtain ⟨rfl, rfl, E, hP, hD⟩ := hentry hv0
  have hx := B.exec
  have hb := B.bytes
  have hr := B.returns
  have hts := atoms_spec (ws := hC yX0_solutions cX0_solutions 1 (some .int)) B.pre
  have hown : s.vm.findClass RX0 = some m.cls := findClass_of_methodNamed B.named
  have hlocks := B.notSynchronized
  generalize hAe : va_A ws s.heap.size = A at hD E ⊢
  have hl := lv_entry ([.ref (ad 0)]) (n := 1) (Nat.le_of_ble_eq_true rfl)
  rw [lg_entry_eq]
  generalize (lg_sl ([.ref (ad 0)]) ++ List.replicate (1 - (lg_sl ([.ref (ad 0)])).length) Slot.unset).toArray = ls at hl ⊢
  have hl : lv_has ls 1 [(0, .ref (ad 0))] := hl
  refine hat0 (fun H hHe => ?_)
  have hP : va_P D vwCl ws H := by rw [hHe]; exact hP
  have hS : va_S A s.heap H [] := by rw [hHe]; exact va_S.rf
  obtain ⟨hfd, hVw1, hnp, hms, hbd, hnd, hon, hrd, hb1, hLL, hLS, hSL, hsL⟩ := id hcb
  obtain ⟨h0, hTr0, hPl0, hPs0, hO26, h28, hO29, hO31, h33, ⟨fq34, h34, hf34⟩, hSp0, hSo⟩ := id hcx
  have hbd9 := hEn_bd g cnt I (hOB np I (hD1 g cnt I dd np ms) (hM1 g cnt I mm np ms) rd ob) 1 0 (by omega)
  have hge9 := hLf_ge (L := L) hbd9.2.2
  have hlv9 := hLf_lv (c := (hEn g cnt I (hOB np I (hD1 g cnt I dd np ms) (hM1 g cnt I mm np ms) rd ob) 1 0).2) hLL
  have h1 := hTr0.1
  have h6 := hPl0.1
  obtain ⟨f26, u26, ⟨h26, -⟩, -⟩ := id hO26
  refine lv_aload_n hx hb dX0_solutions_0 rfl (lv_at hl 0 rfl) ?_
  refine va_get (v := .int fd) (C := RX0) (T := TX0) (N := 6) hx hb hts (hin_X0 hmc) hown E.1.1 hP 0 h0 rfl 5 (by decide) (hts _ (hmc _ k_217)) (fun _ h9 => h9) rfl dX0_solutions_1 ?_
  refine lv_bipush (v := (-4)) hx hb dX0_solutions_4 (by decide +kernel) ?_
  refine lv_icmp_ne (tgt := 32) hx hb dX0_solutions_6 (by decide) (fun c1 => ?_) (fun c1 => ?_)
  · first | exact absurd hf4 c1 | exact absurd c1 hf4
  · refine lv_aload_n hx hb dX0_solutions_9 rfl (lv_at hl 0 rfl) ?_
    refine lv_aload_n hx hb dX0_solutions_10 rfl (lv_at hl 0 rfl) ?_
    refine va_get (v := .ref (ad 33)) (C := RX0) (T := TX0) (N := 6) hx hb hts (hin_X0 hmc) hown E.1.1 hP 0 h0 rfl 4 (by decide) (hts _ (hmc _ k_216)) (fun _ h9 => h9) rfl dX0_solutions_11 ?_
    refine lv_aload_n hx hb dX0_solutions_14 rfl (lv_at hl 0 rfl) ?_
    refine hc_r E hD hS (va_runV (As := []) (rest := [.ref (ad 33), .ref (ad 0)]) ⟨hx, hb, hml, hown, hts⟩ ((c_X0_bestOrder l D K tv ws ad F cnt I dd mm np ms o lc rd ob fd ln tt co b ra sa sc L Sp hb1 hcx g S hcb) H.size) (cwV 0 hts (hGV hmc k_382 k_384 k_1 k_20 k_385) rfl rfl rfl (by decide +kernel) ⟨Nat.le_of_ble_eq_true rfl, Nat.le_of_ble_eq_true rfl⟩) (hpreV E hP hD hS h0 rfl) rfl rfl hl.1 rfl (lv_room (Nat.le_of_ble_eq_true rfl)) dX0_solutions_15 ⟨(Nat.zero_le _), (Nat.zero_le _)⟩) (fun r2 ws1 H locs hp hP hD hS => ?_)
    obtain ⟨rfl, hcx, hobl⟩ := hp
    obtain ⟨h0, hTr0, hPl0, hPs0, hO26, h28, hO29, hO31, h33, ⟨fq34, h34, hf34⟩, hSp0, hSo⟩ := id hcx
    have h1 := hTr0.1
    have h6 := hPl0.1
    obtain ⟨f26, u26, ⟨h26, -⟩, -⟩ := id hO26
    refine lv_aload_n hx hb dX0_solutions_18 rfl (lv_at hl 0 rfl) ?_
    refine va_get (v := .ref (ad 6)) (C := RX0) (T := TX0) (N := 6) hx hb hts (hin_X0 hmc) hown E.1.1 hP 0 h0 rfl 1 (by decide) (hts _ (hmc _ k_213)) (fun _ h9 => h9) rfl dX0_solutions_19 ?_
    refine lv_aload_n hx hb dX0_solutions_22 rfl (lv_at hl 0 rfl) ?_
    refine va_get (v := .ref (ad 1)) (C := RX0) (T := TX0) (N := 6) hx hb hts (hin_X0 hmc) hown E.1.1 hP 0 h0 rfl 0 (by decide) (hts _ (hmc _ k_212)) (fun _ h9 => h9) rfl dX0_solutions_23 ?_
    refine hc_i E hD hS (va_runV (As := [.ref (ad 31), .ref (ad 6), .ref (ad 1)]) (rest := [.ref (ad 0)]) ⟨hx, hb, hml, hown, hts⟩ ((c0_collectB l D K tv ws1 ad 31 (Or.inr rfl) (hOB np I (hD1 g cnt I dd np ms) (hM1 g cnt I mm np ms) rd ob) hO31 np 1 hPl0 hnp I (hD1 g cnt I dd np ms) (hM1 g cnt I mm np ms) hPs0 (fun i hi q hq => ((hbd i hi).1 q hq).2) F g cnt (hXv S) hTr0 hVw1 ln tt co b ra sa sc L Sp hb1 h33 ⟨fq34, h34, hf34⟩ hSp0 hSo hLL hSL hbig) H.size) (cwV 3 hts (hGV hmc k_531 k_532 k_533 k_26 k_534) rfl rfl rfl (by decide +kernel) ⟨Nat.le_of_ble_eq_true rfl, Nat.le_of_ble_eq_true rfl⟩) (hpreV E hP hD hS h33 rfl) rfl rfl hl.1 rfl (lv_room (Nat.le_of_ble_eq_true rfl)) dX0_solutions_26 ⟨(by show 0 + 0 + ((hQc (hLf L (hEn g cnt I (hOB np I (hD1 g cnt I dd np ms) (hM1 g cnt I mm np ms) rd ob) 1 0).2) - hQc L) + (if Sp < (hLf L (hEn g cnt I (hOB np I (hD1 g cnt I dd np ms) (hM1 g cnt I mm np ms) rd ob) 1 0).2) then 1 else 0)) ≤ ((hQc (hLf L (hEn g cnt I (hOB np I (hD1 g cnt I dd np ms) (hM1 g cnt I mm np ms) rd ob) 1 0).2) - hQc L) + (if Sp < (hLf L (hEn g cnt I (hOB np I (hD1 g cnt I dd np ms) (hM1 g cnt I mm np ms) rd ob) 1 0).2) then 1 else 0)); omega), (by show 0 + 0 + ((hQs (hLf L (hEn g cnt I (hOB np I (hD1 g cnt I dd np ms) (hM1 g cnt I mm np ms) rd ob) 1 0).2) - hQs L) + (if Sp < (hLf L (hEn g cnt I (hOB np I (hD1 g cnt I dd np ms) (hM1 g cnt I mm np ms) rd ob) 1 0).2) then (hLf L (hEn g cnt I (hOB np I (hD1 g cnt I dd np ms) (hM1 g cnt I mm np ms) rd ob) 1 0).2) else 0)) ≤ ((hQs (hLf L (hEn g cnt I (hOB np I (hD1 g cnt I dd np ms) (hM1 g cnt I mm np ms) rd ob) 1 0).2) - hQs L) + (if Sp < (hLf L (hEn g cnt I (hOB np I (hD1 g cnt I dd np ms) (hM1 g cnt I mm np ms) rd ob) 1 0).2) then (hLf L (hEn g cnt I (hOB np I (hD1 g cnt I dd np ms) (hM1 g cnt I mm np ms) rd ob) 1 0).2) else 0)); omega)⟩) (fun r4 ws3 H locs hp hP hD hS => ?_)
    obtain ⟨hx9, hg, hr9, ln1, tt1, b1, ra1, sa1, sc1, hb1, hsc, k33, k34, kSp, kSo⟩ := hp
    have hb9 := (hcz.best hVw1 hms hrd hnp).2.1 rfl
    have hsol : hSolP S I np _ := ⟨_, hb9.1, by
      have q := hSol_of (hEn_eq hVw1 (fun i hi q hq => ((hbd _ (Nat.lt_of_lt_of_le (hb9.1.1.1 i (by rw [← hobl]; exact hi)) hnp)).1 q hq).2) (Or.inr rfl) (Nat.zero_le _)) hx9
      rw [hobl] at q
      exact q⟩
    have h0 := (hg.2 0 (by omega)).trans h0
    have hTr0 := hTr0.ag hg (by omega)
    have hPl0 := hPl0.ag hg (by omega)
    have hPs0 := hPs0.ag hg (by omega)
    have hO26 := hO26.ag hg (by omega)
    have h28 := (hg.2 28 (by omega)).trans h28
    have hO29 := hO29.ag hg (by omega)
    have hO31 := hO31.ag hg (by omega)
    have h33 := k33
    obtain ⟨fq34, h34, hf34⟩ := k34
    have hSp0 := kSp
    have hSo := kSo
    refine W.widen (k := ((hQc (hLf L (hEn g cnt I (hOB np I (hD1 g cnt I dd np ms) (hM1 g cnt I mm np ms) rd ob) 1 0).2) - hQc L) + (if Sp < (hLf L (hEn g cnt I (hOB np I (hD1 g cnt I dd np ms) (hM1 g cnt I mm np ms) rd ob) 1 0).2) then 1 else 0))) (n := ((hQs (hLf L (hEn g cnt I (hOB np I (hD1 g cnt I dd np ms) (hM1 g cnt I mm np ms) rd ob) 1 0).2) - hQs L) + (if Sp < (hLf L (hEn g cnt I (hOB np I (hD1 g cnt I dd np ms) (hM1 g cnt I mm np ms) rd ob) 1 0).2) then (hLf L (hEn g cnt I (hOB np I (hD1 g cnt I dd np ms) (hM1 g cnt I mm np ms) rd ob) 1 0).2) else 0))) (by show 0 + 0 + ((hQc (hLf L (hEn g cnt I (hOB np I (hD1 g cnt I dd np ms) (hM1 g cnt I mm np ms) rd ob) 1 0).2) - hQc L) + (if Sp < (hLf L (hEn g cnt I (hOB np I (hD1 g cnt I dd np ms) (hM1 g cnt I mm np ms) rd ob) 1 0).2) then 1 else 0)) ≤ ((hQc (hLf L (hEn g cnt I (hOB np I (hD1 g cnt I dd np ms) (hM1 g cnt I mm np ms) rd ob) 1 0).2) - hQc L) + (if Sp < (hLf L (hEn g cnt I (hOB np I (hD1 g cnt I dd np ms) (hM1 g cnt I mm np ms) rd ob) 1 0).2) then 1 else 0)); omega) (by show 0 + 0 + ((hQs (hLf L (hEn g cnt I (hOB np I (hD1 g cnt I dd np ms) (hM1 g cnt I mm np ms) rd ob) 1 0).2) - hQs L) + (if Sp < (hLf L (hEn g cnt I (hOB np I (hD1 g cnt I dd np ms) (hM1 g cnt I mm np ms) rd ob) 1 0).2) then (hLf L (hEn g cnt I (hOB np I (hD1 g cnt I dd np ms) (hM1 g cnt I mm np ms) rd ob) 1 0).2) else 0)) ≤ ((hQs (hLf L (hEn g cnt I (hOB np I (hD1 g cnt I dd np ms) (hM1 g cnt I mm np ms) rd ob) 1 0).2) - hQs L) + (if Sp < (hLf L (hEn g cnt I (hOB np I (hD1 g cnt I dd np ms) (hM1 g cnt I mm np ms) rd ob) 1 0).2) then (hLf L (hEn g cnt I (hOB np I (hD1 g cnt I dd np ms) (hM1 g cnt I mm np ms) rd ob) 1 0).2) else 0)); omega) ?_
    refine va_put (v := .int r4) (ty := .int) (C := RX0) (T := TX0) (N := 6) hx hb hts (hin_X0 hmc) tyX0 tyX0_ok nmX0 hown E.1.1 hP hD hS 0 h0 rfl 5 (by decide) (hts _ (hmc _ k_217)) (fun _ h9 => h9) rfl (by decide +kernel) rfl rfl (Nat.le_of_ble_eq_true rfl) dX0_solutions_29 (fun H locs hP hD hS => ?_)
    obtain ⟨ws5, ews5⟩ : ∃ zw : va_W, zw = List.set ws3 0 ((ad 0), .inr (iJ, [.ref (ad 1), .ref (ad 6), .ref (ad 26), .ref (ad 28), .ref (ad 33), .int r4])) := ⟨_, rfl⟩
    have hP : va_P D vwCl ws5 H := by rw [ews5]; exact hP
    have hD : va_D A ws5 := by rw [ews5]; exact hD
    have h0 : ws5[0]? = some ((ad 0), .inr (iJ, [.ref (ad 1), .ref (ad 6), .ref (ad 26), .ref (ad 28), .ref (ad 33), .int r4])) := by rw [ews5]; exact hset_eq h0
    have hgf : hAg 0 1 ws3 ws5 := by rw [ews5]; exact hAg.rf.set (by decide) (by decide)
    have hTr0 := hTr0.ag hgf (by omega)
    have hPl0 := hPl0.ag hgf (by omega)
    have hPs0 := hPs0.ag hgf (by omega)
    have hO26 := hO26.ag hgf (by omega)
    have h28 := (hgf.2 28 (by omega)).trans h28
    have hO29 := hO29.ag hgf (by omega)
    have hO31 := hO31.ag hgf (by omega)
    have h33 := (hgf.2 33 (by omega)).trans h33
    have h34 := (hgf.2 34 (by omega)).trans h34
    have hSo := hSo.ag hb1 hgf (by omega)
    have hSp0 : ∀ i, i < 6 → ∃ fl It sh nk fx ob1, hStp K ad ws5 (38 + 4 * i) fl It sh nk fx ob1 := fun i hi => by
      obtain ⟨q1, q2, q3, q4, q5, q6, q7⟩ := hSp0 i hi
      exact ⟨q1, q2, q3, q4, q5, q6, q7.ag hgf (by omega)⟩
    refine lv_aload_n hx hb dX0_solutions_32 rfl (lv_at hl 0 rfl) ?_
    refine va_get (v := .int r4) (C := RX0) (T := TX0) (N := 6) hx hb hts (hin_X0 hmc) hown E.1.1 hP 0 h0 rfl 5 (by decide) (hts _ (hmc _ k_217)) (fun _ h9 => h9) rfl dX0_solutions_33 ?_
    subst hAe
    exact W.iret (v := r4) hx hb hr (fun t ht _ => ⟨⟨r4, ws5, rfl, ⟨hsol, ⟨_, _, _, _, _, _, _, _, _, _, _, _, _, _, _, _, ⟨h0, hTr0, hPl0, hPs0, hO26, h28, hO29, hO31, h33, ⟨fq34, h34, hf34⟩, hSp0, hSo⟩, ⟨Or.inr hr9, hVw1, hnp, Or.inr rfl, hbd_meas hVw1 hbd, hnd, hon, Or.inr ⟨rfl, hobl⟩, hb1, hlv9, hlv9, Nat.le_refl _, hsc⟩, hcz.sol hVw1 hms hrd hnp hsol⟩⟩, by rw [ht]; exact hP, hD⟩, hS.F ht⟩) hS.2.2 dX0_solutions_36

set_option maxHeartbeats 4000000 in
set_option maxRecDepth 100000 in
/-- solutions -/
theorem c_solutions (l : Launch) (D : va_G) (K : Nat → ClassId) (tv : Nat) (ws : va_W) (ad : Nat → Nat) (S : Nat → Nat → Nat → Prop) (cnt np : Nat) (o : List Nat) (I : Nat → Nat → Nat) (L Sp : Nat) (hcs : hCS K ad ws S cnt np o I L Sp) : ∃ cc ss Ln Sn, (hLv Ln ∧ hLv Sn ∧ Sn ≤ Ln ∧ cc + hQc L + hQc Sp ≤ hQc Ln + hQc Sn ∧ ss + hQs L + hQs Sp ≤ hQs Ln + hQs Sn) ∧ hI l D (hTy K) tv yX0_solutions cX0_solutions 1 (some .int) ({ frames := 13, cells := cc, slots := ss, locals := 780 }) [.ref (ad 0)] ws (fun r ws1 => hSolP S I np r ∧ hCS K ad ws1 S cnt np o I Ln Sn) := by
  obtain ⟨F, g, dd, mm, ms, lc, rd, ob, fd, ln, tt, co, b, ra, sa, sc, hcx, hcb, hcz⟩ := id hcs
  obtain ⟨hfd, hVw1, hnp, hms, hbd, hnd, hon, hrd, hb1, hLL, hLS, hSL, hsL⟩ := id hcb
  by_cases hf : fd = (-4)
  · have hbd9 := hEn_bd g cnt I (hOB np I (hD1 g cnt I dd np ms) (hM1 g cnt I mm np ms) rd ob) 1 0 (by omega)
    have hge9 := hLf_ge (L := L) hbd9.2.2
    have hlv9 := hLf_lv (c := (hEn g cnt I (hOB np I (hD1 g cnt I dd np ms) (hM1 g cnt I mm np ms) rd ob) 1 0).2) hLL
    have m1 := hQ_mono hge9.1
    have m2 := hQs_mono hLL hlv9 hge9.1
    by_cases hbig : 20000 < (hEn g cnt I (hOB np I (hD1 g cnt I dd np ms) (hM1 g cnt I mm np ms) rd ob) 1 0).1
    · exact ⟨_, _, _, _, ⟨hlv9, hLS, Nat.le_trans hSL hge9.1, by omega, by omega⟩, c0_solA l D K tv ws ad F cnt I dd mm np ms o lc rd ob fd ln tt co b ra sa sc L Sp hb1 hcx g S hcb hcz hf hbig⟩
    · refine ⟨_, _, _, _, ⟨hlv9, hlv9, Nat.le_refl _, ?_, ?_⟩, c0_solB l D K tv ws ad F cnt I dd mm np ms o lc rd ob fd ln tt co b ra sa sc L Sp hb1 hcx g S hcb hcz hf hbig⟩
      · by_cases z : Sp < (hLf L (hEn g cnt I (hOB np I (hD1 g cnt I dd np ms) (hM1 g cnt I mm np ms) rd ob) 1 0).2)
        · have := hQ_step hLS hlv9 z
          rw [if_pos z]
          omega
        · rw [if_neg z]
          have := hQ_mono (Nat.le_trans hSL hge9.1)
          omega
      · by_cases z : Sp < (hLf L (hEn g cnt I (hOB np I (hD1 g cnt I dd np ms) (hM1 g cnt I mm np ms) rd ob) 1 0).2)
        · have := hQ_step hLS hlv9 z
          rw [if_pos z]
          omega
        · rw [if_neg z]
          have := hQs_mono hLS hlv9 (Nat.le_trans hSL hge9.1)
          omega
  · exact ⟨0, 0, L, Sp, ⟨hLL, hLS, hSL, by omega, by omega⟩, c0_sol0 l D K tv ws ad F cnt I dd mm np ms o lc rd ob fd ln tt co b ra sa sc L Sp hb1 hcx g S hcb hcz hf⟩
