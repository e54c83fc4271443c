set_option maxHeartbeats 4000000 in
set_option maxRecDepth 100000 in
theorem hcase_7 (l : Launch) {p : Program} {e : Env} {s : State} {m : MethodId} {below : List Frame} {meth : Method} {c : Code} {b n9 : Nat} {xs : Nat → Int32} {D : va_G} {K : Nat → ClassId} {tv : Nat} {A : Nat → Prop} {H : Heap} {locs : List Loc} {cells slots : Nat} {ls : Array Slot} (ax bx : Nat → Nat) (i : Nat) (hi : i + 4 ≤ n9) (wa wb : va_W) (S : Nat → Nat → Nat → Prop) (cnt np : Nat) (o : List Nat) (I : Nat → Nat → Nat) (L Sp : Nat) (hcell : cells ≤ 1000 + hQc L + hQc Sp) (hslot : slots ≤ 300000 + hQs L + hQs Sp) (C1 : hAtL (Jvm.Cond.initialized "JoinPlanner") p s m meth c b n9 xs D K tv A) (C2 : hTwo D K A s ax bx wa wb H locs S cnt np o I L Sp) (hl : lv_has ls 4 [(3, .int (nI i)), (2, .ref (bx 0)), (1, .ref (ax 0)), (0, .ref b)]) (kk : hGo l p e s m below meth c b D K A ax bx i) : W p l e room_1 s m #[Value.ref b] below meth c H locs cells slots (lw_Z below #[Value.ref b] s) (F0 m 315 ls []) := by
  obtain ⟨hx, hb, hr, hml, hown, hts, E, hX, hbl, hbA, hlocks, hAs, hn9⟩ := id C1
  obtain ⟨hcs, hms, hPa, hDa, hPb, hDb, hap, hS⟩ := C2
  obtain ⟨F, g, dd, mm, ms, lc, rd, ob, fd, ln, tt, co, b9, ra, sa, sc, hcx, hcb, hcz⟩ := id hcs
  have ha0 := hcx.1
  obtain ⟨f, lz, kp, fd9, hrx, hrb⟩ := id hms
  have hb0 := hrx.1
  have hroomC : cells ≤ 600000 := by have := hQc_bd L; have := hQc_bd Sp; omega
  have hroomS : slots ≤ 7302249 := by have := hQs_bd L; have := hQs_bd Sp; omega
  refine lv_aload_n hx hb dL_law_315 rfl (lv_at hl 2 rfl) ?_
  refine hf_l E hDa hPb hap hS (va_runV (As := []) (rest := []) ⟨hx, hb, hml, hown, hts⟩ (c_X0_cost l D K tv wa ax S cnt np o I L Sp hcs  H.size) (cwV 0 hts (hGV hmc k_431 k_432 k_433 k_20 k_434) rfl rfl rfl (by decide +kernel) ⟨Nat.le_of_ble_eq_true rfl, Nat.le_of_ble_eq_true rfl⟩) (hpreV E hPa hDa hS ha0 rfl) rfl rfl hl.1 rfl (lv_room (Nat.le_of_ble_eq_true rfl)) dL_law_316 ⟨hroomC, hroomS⟩) (fun r1 wa1 H locs h1 hPa hDa hPb hap hS => ?_)
  refine lv_pop2_2 hx hb dL_law_319 rfl ?_
  refine lv_aload_n hx hb dL_law_320 rfl (lv_at hl 1 rfl) ?_
  refine hf_l E hDb hPa hap.symm hS (va_runV (As := []) (rest := []) ⟨hx, hb, hml, hown, hts⟩ (c_X9_cost l D K tv wb bx S cnt np o I hms  H.size) (cwV 0 hts (hGV hmc k_707 k_708 k_709 k_29 k_710) rfl rfl rfl (by decide +kernel) ⟨Nat.le_of_ble_eq_true rfl, Nat.le_of_ble_eq_true rfl⟩) (hpreV E hPb hDb hS hb0 rfl) rfl rfl hl.1 rfl (lv_room (Nat.le_of_ble_eq_true rfl)) dL_law_321 ⟨hroomC, hroomS⟩) (fun r2 wb1 H locs h2 hPb hDb hPa hap9 hS => ?_)
  obtain ⟨q1, hcs1⟩ := h1
  obtain ⟨q2, hms1⟩ := h2
  have hre := q1.det hrb.2.1 q2
  refine lv_pop2_2 hx hb dL_law_324 rfl ?_
  refine lv_goto (tgt := 446) hx hb dL_law_325 (by decide) ?_
  exact kk H locs ls _ _ wa1 wb1 S cnt np o I L Sp ⟨hcs1, hms1, hPa, hDa, hPb, hDb, hap9.symm, hS⟩ hcell hslot hl

set_option maxHeartbeats 4000000 in
set_option maxRecDepth 100000 in
theorem hcase_8 (l : Launch) {p : Program} {e : Env} {s : State} {m : MethodId} {below : List Frame} {meth : Method} {c : Code} {b n9 : Nat} {xs : Nat → Int32} {D : va_G} {K : Nat → ClassId} {tv : Nat} {A : Nat → Prop} {H : Heap} {locs : List Loc} {cells slots : Nat} {ls : Array Slot} (ax bx : Nat → Nat) (i : Nat) (hi : i + 4 ≤ n9) (wa wb : va_W) (S : Nat → Nat → Nat → Prop) (cnt np : Nat) (o : List Nat) (I : Nat → Nat → Nat) (L Sp : Nat) (hcell : cells ≤ 1000 + hQc L + hQc Sp) (hslot : slots ≤ 300000 + hQs L + hQs Sp) (C1 : hAtL (Jvm.Cond.initialized "JoinPlanner") p s m meth c b n9 xs D K tv A) (C2 : hTwo D K A s ax bx wa wb H locs S cnt np o I L Sp) (hl : lv_has ls 4 [(3, .int (nI i)), (2, .ref (bx 0)), (1, .ref (ax 0)), (0, .ref b)]) (kk : hGo l p e s m below meth c b D K A ax bx i) : W p l e room_1 s m #[Value.ref b] below meth c H locs cells slots (lw_Z below #[Value.ref b] s) (F0 m 328 ls []) := by
  obtain ⟨hx, hb, hr, hml, hown, hts, E, hX, hbl, hbA, hlocks, hAs, hn9⟩ := id C1
  obtain ⟨hcs, hms, hPa, hDa, hPb, hDb, hap, hS⟩ := C2
  obtain ⟨F, g, dd, mm, ms, lc, rd, ob, fd, ln, tt, co, b9, ra, sa, sc, hcx, hcb, hcz⟩ := id hcs
  have ha0 := hcx.1
  obtain ⟨f, lz, kp, fd9, hrx, hrb⟩ := id hms
  have hb0 := hrx.1
  have hroomC : cells ≤ 600000 := by have := hQc_bd L; have := hQc_bd Sp; omega
  have hroomS : slots ≤ 7302249 := by have := hQs_bd L; have := hQs_bd Sp; omega
  refine lv_aload_n hx hb dL_law_328 rfl (lv_at hl 2 rfl) ?_
  refine lv_aload_n hx hb dL_law_329 rfl (lv_at hl 3 rfl) ?_
  refine lv_iload_n hx hb dL_law_330 rfl (lv_at hl 0 rfl) ?_
  refine lv_iconst (v := nI 1) hx hb dL_law_331 (by decide +kernel) ?_
  refine lv_iadd hx hb dL_law_332 ?_
  refine htopi (v := nI (i + 1)) (nI_add _ _) ?_
  refine va_sld hx hb hX hbl hbA hS (vp_in_nI (by omega) (by omega)) dL_law_333 ?_
  refine htopi (v := xs (i + 1)) (by rw [nI_clamp (by omega)]) ?_
  refine hf_i E hDa hPb hap hS (va_runV (As := [.int (xs (i + 1))]) (rest := []) ⟨hx, hb, hml, hown, hts⟩ (c_X0_use l D K tv wa ax S cnt np o I L Sp hcs (xs (i + 1)) H.size) (cwV 1 hts (hGV hmc k_435 k_436 k_437 k_20 k_438) rfl rfl rfl (by decide +kernel) ⟨Nat.le_of_ble_eq_true rfl, Nat.le_of_ble_eq_true rfl⟩) (hpreV E hPa hDa hS ha0 rfl) rfl rfl hl.1 rfl (lv_room (Nat.le_of_ble_eq_true rfl)) dL_law_334 ⟨hroomC, hroomS⟩) (fun r1 wa1 H locs h1 hPa hDa hPb hap hS => ?_)
  refine lv_pop hx hb dL_law_337 rfl ?_
  refine lv_aload_n hx hb dL_law_338 rfl (lv_at hl 1 rfl) ?_
  refine lv_aload_n hx hb dL_law_339 rfl (lv_at hl 3 rfl) ?_
  refine lv_iload_n hx hb dL_law_340 rfl (lv_at hl 0 rfl) ?_
  refine lv_iconst (v := nI 1) hx hb dL_law_341 (by decide +kernel) ?_
  refine lv_iadd hx hb dL_law_342 ?_
  refine htopi (v := nI (i + 1)) (nI_add _ _) ?_
  refine va_sld hx hb hX hbl hbA hS (vp_in_nI (by omega) (by omega)) dL_law_343 ?_
  refine htopi (v := xs (i + 1)) (by rw [nI_clamp (by omega)]) ?_
  refine hf_i E hDb hPa hap.symm hS (va_runV (As := [.int (xs (i + 1))]) (rest := []) ⟨hx, hb, hml, hown, hts⟩ (c_X9_use l D K tv wb bx S cnt np o I hms (xs (i + 1)) H.size) (cwV 1 hts (hGV hmc k_711 k_712 k_713 k_29 k_714) rfl rfl rfl (by decide +kernel) ⟨Nat.le_of_ble_eq_true rfl, Nat.le_of_ble_eq_true rfl⟩) (hpreV E hPb hDb hS hb0 rfl) rfl rfl hl.1 rfl (lv_room (Nat.le_of_ble_eq_true rfl)) dL_law_344 ⟨hroomC, hroomS⟩) (fun r2 wb1 H locs h2 hPb hDb hPa hap9 hS => ?_)
  obtain ⟨o1, q1, hcs1⟩ := h1
  obtain ⟨o2, q2, hms1⟩ := h2
  obtain ⟨hre, rfl⟩ := q1.det hrb.2.1 q2
  refine lv_pop hx hb dL_law_347 rfl ?_
  refine lv_goto (tgt := 446) hx hb dL_law_348 (by decide) ?_
  exact kk H locs ls _ _ wa1 wb1 S cnt np o1 I L Sp ⟨hcs1, hms1, hPa, hDa, hPb, hDb, hap9.symm, hS⟩ hcell hslot hl

set_option maxHeartbeats 4000000 in
set_option maxRecDepth 100000 in
theorem hcase_9 (l : Launch) {p : Program} {e : Env} {s : State} {m : MethodId} {below : List Frame} {meth : Method} {c : Code} {b n9 : Nat} {xs : Nat → Int32} {D : va_G} {K : Nat → ClassId} {tv : Nat} {A : Nat → Prop} {H : Heap} {locs : List Loc} {cells slots : Nat} {ls : Array Slot} (ax bx : Nat → Nat) (i : Nat) (hi : i + 4 ≤ n9) (wa wb : va_W) (S : Nat → Nat → Nat → Prop) (cnt np : Nat) (o : List Nat) (I : Nat → Nat → Nat) (L Sp : Nat) (hcell : cells ≤ 1000 + hQc L + hQc Sp) (hslot : slots ≤ 300000 + hQs L + hQs Sp) (C1 : hAtL (Jvm.Cond.initialized "JoinPlanner") p s m meth c b n9 xs D K tv A) (C2 : hTwo D K A s ax bx wa wb H locs S cnt np o I L Sp) (hl : lv_has ls 4 [(3, .int (nI i)), (2, .ref (bx 0)), (1, .ref (ax 0)), (0, .ref b)]) (kk : hGo l p e s m below meth c b D K A ax bx i) : W p l e room_1 s m #[Value.ref b] below meth c H locs cells slots (lw_Z below #[Value.ref b] s) (F0 m 351 ls []) := by
  obtain ⟨hx, hb, hr, hml, hown, hts, E, hX, hbl, hbA, hlocks, hAs, hn9⟩ := id C1
  obtain ⟨hcs, hms, hPa, hDa, hPb, hDb, hap, hS⟩ := C2
  obtain ⟨F, g, dd, mm, ms, lc, rd, ob, fd, ln, tt, co, b9, ra, sa, sc, hcx, hcb, hcz⟩ := id hcs
  have ha0 := hcx.1
  obtain ⟨f, lz, kp, fd9, hrx, hrb⟩ := id hms
  have hb0 := hrx.1
  have hroomC : cells ≤ 600000 := by have := hQc_bd L; have := hQc_bd Sp; omega
  have hroomS : slots ≤ 7302249 := by have := hQs_bd L; have := hQs_bd Sp; omega
  refine lv_aload_n hx hb dL_law_351 rfl (lv_at hl 2 rfl) ?_
  refine hf_i E hDa hPb hap hS (va_runV (As := []) (rest := []) ⟨hx, hb, hml, hown, hts⟩ (c_X0_drop l D K tv wa ax S cnt np o I L Sp hcs  H.size) (cwV 0 hts (hGV hmc k_441 k_442 k_443 k_20 k_444) rfl rfl rfl (by decide +kernel) ⟨Nat.le_of_ble_eq_true rfl, Nat.le_of_ble_eq_true rfl⟩) (hpreV E hPa hDa hS ha0 rfl) rfl rfl hl.1 rfl (lv_room (Nat.le_of_ble_eq_true rfl)) dL_law_352 ⟨hroomC, hroomS⟩) (fun r1 wa1 H locs h1 hPa hDa hPb hap hS => ?_)
  refine lv_pop hx hb dL_law_355 rfl ?_
  refine lv_aload_n hx hb dL_law_356 rfl (lv_at hl 1 rfl) ?_
  refine hf_i E hDb hPa hap.symm hS (va_runV (As := []) (rest := []) ⟨hx, hb, hml, hown, hts⟩ (c_X9_drop l D K tv wb bx S cnt np o I hms  H.size) (cwV 0 hts (hGV hmc k_715 k_716 k_717 k_29 k_718) rfl rfl rfl (by decide +kernel) ⟨Nat.le_of_ble_eq_true rfl, Nat.le_of_ble_eq_true rfl⟩) (hpreV E hPb hDb hS hb0 rfl) rfl rfl hl.1 rfl (lv_room (Nat.le_of_ble_eq_true rfl)) dL_law_357 ⟨hroomC, hroomS⟩) (fun r2 wb1 H locs h2 hPb hDb hPa hap9 hS => ?_)
  obtain ⟨q1, hcs1⟩ := h1
  obtain ⟨q2, hms1⟩ := h2
  have hre := q1.trans q2.symm
  refine lv_pop hx hb dL_law_360 rfl ?_
  refine lv_goto (tgt := 446) hx hb dL_law_361 (by decide) ?_
  exact kk H locs ls _ _ wa1 wb1 S cnt np [] I L Sp ⟨hcs1, hms1, hPa, hDa, hPb, hDb, hap9.symm, hS⟩ hcell hslot hl

set_option maxHeartbeats 4000000 in
set_option maxRecDepth 100000 in
theorem hcase_10 (l : Launch) {p : Program} {e : Env} {s : State} {m : MethodId} {below : List Frame} {meth : Method} {c : Code} {b n9 : Nat} {xs : Nat → Int32} {D : va_G} {K : Nat → ClassId} {tv : Nat} {A : Nat → Prop} {H : Heap} {locs : List Loc} {cells slots : Nat} {ls : Array Slot} (ax bx : Nat → Nat) (i : Nat) (hi : i + 4 ≤ n9) (wa wb : va_W) (S : Nat → Nat → Nat → Prop) (cnt np : Nat) (o : List Nat) (I : Nat → Nat → Nat) (L Sp : Nat) (hcell : cells ≤ 1000 + hQc L + hQc Sp) (hslot : slots ≤ 300000 + hQs L + hQs Sp) (C1 : hAtL (Jvm.Cond.initialized "JoinPlanner") p s m meth c b n9 xs D K tv A) (C2 : hTwo D K A s ax bx wa wb H locs S cnt np o I L Sp) (hl : lv_has ls 4 [(3, .int (nI i)), (2, .ref (bx 0)), (1, .ref (ax 0)), (0, .ref b)]) (kk : hGo l p e s m below meth c b D K A ax bx i) : W p l e room_1 s m #[Value.ref b] below meth c H locs cells slots (lw_Z below #[Value.ref b] s) (F0 m 364 ls []) := by
  obtain ⟨hx, hb, hr, hml, hown, hts, E, hX, hbl, hbA, hlocks, hAs, hn9⟩ := id C1
  obtain ⟨hcs, hms, hPa, hDa, hPb, hDb, hap, hS⟩ := C2
  obtain ⟨F, g, dd, mm, ms, lc, rd, ob, fd, ln, tt, co, b9, ra, sa, sc, hcx, hcb, hcz⟩ := id hcs
  have ha0 := hcx.1
  obtain ⟨f, lz, kp, fd9, hrx, hrb⟩ := id hms
  have hb0 := hrx.1
  have hroomC : cells ≤ 600000 := by have := hQc_bd L; have := hQc_bd Sp; omega
  have hroomS : slots ≤ 7302249 := by have := hQs_bd L; have := hQs_bd Sp; omega
  refine lv_aload_n hx hb dL_law_364 rfl (lv_at hl 2 rfl) ?_
  refine lv_aload_n hx hb dL_law_365 rfl (lv_at hl 3 rfl) ?_
  refine lv_iload_n hx hb dL_law_366 rfl (lv_at hl 0 rfl) ?_
  refine lv_iconst (v := nI 1) hx hb dL_law_367 (by decide +kernel) ?_
  refine lv_iadd hx hb dL_law_368 ?_
  refine htopi (v := nI (i + 1)) (nI_add _ _) ?_
  refine va_sld hx hb hX hbl hbA hS (vp_in_nI (by omega) (by omega)) dL_law_369 ?_
  refine htopi (v := xs (i + 1)) (by rw [nI_clamp (by omega)]) ?_
  refine hf_l E hDa hPb hap hS (va_runV (As := [.int (xs (i + 1))]) (rest := []) ⟨hx, hb, hml, hown, hts⟩ (c_X0_size l D K tv wa ax S cnt np o I L Sp hcs (xs (i + 1)) H.size) (cwV 1 hts (hGV hmc k_445 k_446 k_447 k_20 k_448) rfl rfl rfl (by decide +kernel) ⟨Nat.le_of_ble_eq_true rfl, Nat.le_of_ble_eq_true rfl⟩) (hpreV E hPa hDa hS ha0 rfl) rfl rfl hl.1 rfl (lv_room (Nat.le_of_ble_eq_true rfl)) dL_law_370 ⟨hroomC, hroomS⟩) (fun r1 wa1 H locs h1 hPa hDa hPb hap hS => ?_)
  refine lv_pop2_2 hx hb dL_law_373 rfl ?_
  refine lv_aload_n hx hb dL_law_374 rfl (lv_at hl 1 rfl) ?_
  refine lv_aload_n hx hb dL_law_375 rfl (lv_at hl 3 rfl) ?_
  refine lv_iload_n hx hb dL_law_376 rfl (lv_at hl 0 rfl) ?_
  refine lv_iconst (v := nI 1) hx hb dL_law_377 (by decide +kernel) ?_
  refine lv_iadd hx hb dL_law_378 ?_
  refine htopi (v := nI (i + 1)) (nI_add _ _) ?_
  refine va_sld hx hb hX hbl hbA hS (vp_in_nI (by omega) (by omega)) dL_law_379 ?_
  refine htopi (v := xs (i + 1)) (by rw [nI_clamp (by omega)]) ?_
  refine hf_l E hDb hPa hap.symm hS (va_runV (As := [.int (xs (i + 1))]) (rest := []) ⟨hx, hb, hml, hown, hts⟩ (c_X9_size l D K tv wb bx S cnt np o I hms (xs (i + 1)) H.size) (cwV 1 hts (hGV hmc k_719 k_720 k_721 k_29 k_722) rfl rfl rfl (by decide +kernel) ⟨Nat.le_of_ble_eq_true rfl, Nat.le_of_ble_eq_true rfl⟩) (hpreV E hPb hDb hS hb0 rfl) rfl rfl hl.1 rfl (lv_room (Nat.le_of_ble_eq_true rfl)) dL_law_380 ⟨hroomC, hroomS⟩) (fun r2 wb1 H locs h2 hPb hDb hPa hap9 hS => ?_)
  obtain ⟨q1, hcs1⟩ := h1
  obtain ⟨q2, hms1⟩ := h2
  have hre := q1.det (Nat.le_trans (hpig np o hrb.2.2.1 hrb.2.2.2.1) hrb.2.1) q2
  refine lv_pop2_2 hx hb dL_law_383 rfl ?_
  refine lv_goto (tgt := 446) hx hb dL_law_384 (by decide) ?_
  exact kk H locs ls _ _ wa1 wb1 S cnt np o I L Sp ⟨hcs1, hms1, hPa, hDa, hPb, hDb, hap9.symm, hS⟩ hcell hslot hl

set_option maxHeartbeats 4000000 in
set_option maxRecDepth 100000 in
theorem hcase_11 (l : Launch) {p : Program} {e : Env} {s : State} {m : MethodId} {below : List Frame} {meth : Method} {c : Code} {b n9 : Nat} {xs : Nat → Int32} {D : va_G} {K : Nat → ClassId} {tv : Nat} {A : Nat → Prop} {H : Heap} {locs : List Loc} {cells slots : Nat} {ls : Array Slot} (ax bx : Nat → Nat) (i : Nat) (hi : i + 4 ≤ n9) (wa wb : va_W) (S : Nat → Nat → Nat → Prop) (cnt np : Nat) (o : List Nat) (I : Nat → Nat → Nat) (L Sp : Nat) (hcell : cells ≤ 1000 + hQc L + hQc Sp) (hslot : slots ≤ 300000 + hQs L + hQs Sp) (C1 : hAtL (Jvm.Cond.initialized "JoinPlanner") p s m meth c b n9 xs D K tv A) (C2 : hTwo D K A s ax bx wa wb H locs S cnt np o I L Sp) (hl : lv_has ls 4 [(3, .int (nI i)), (2, .ref (bx 0)), (1, .ref (ax 0)), (0, .ref b)]) (kk : hGo l p e s m below meth c b D K A ax bx i) : W p l e room_1 s m #[Value.ref b] below meth c H locs cells slots (lw_Z below #[Value.ref b] s) (F0 m 387 ls []) := by
  obtain ⟨hx, hb, hr, hml, hown, hts, E, hX, hbl, hbA, hlocks, hAs, hn9⟩ := id C1
  obtain ⟨hcs, hms, hPa, hDa, hPb, hDb, hap, hS⟩ := C2
  obtain ⟨F, g, dd, mm, ms, lc, rd, ob, fd, ln, tt, co, b9, ra, sa, sc, hcx, hcb, hcz⟩ := id hcs
  have ha0 := hcx.1
  obtain ⟨f, lz, kp, fd9, hrx, hrb⟩ := id hms
  have hb0 := hrx.1
  have hroomC : cells ≤ 600000 := by have := hQc_bd L; have := hQc_bd Sp; omega
  have hroomS : slots ≤ 7302249 := by have := hQs_bd L; have := hQs_bd Sp; omega
  refine lv_aload_n hx hb dL_law_387 rfl (lv_at hl 2 rfl) ?_
  refine hf_i E hDa hPb hap hS (va_runV (As := []) (rest := []) ⟨hx, hb, hml, hown, hts⟩ (c_X0_rows l D K tv wa ax S cnt np o I L Sp hcs  H.size) (cwV 0 hts (hGV hmc k_452 k_453 k_454 k_20 k_455) rfl rfl rfl (by decide +kernel) ⟨Nat.le_of_ble_eq_true rfl, Nat.le_of_ble_eq_true rfl⟩) (hpreV E hPa hDa hS ha0 rfl) rfl rfl hl.1 rfl (lv_room (Nat.le_of_ble_eq_true rfl)) dL_law_388 ⟨hroomC, hroomS⟩) (fun r1 wa1 H locs h1 hPa hDa hPb hap hS => ?_)
  refine lv_pop hx hb dL_law_391 rfl ?_
  refine lv_aload_n hx hb dL_law_392 rfl (lv_at hl 1 rfl) ?_
  refine hf_i E hDb hPa hap.symm hS (va_runV (As := []) (rest := []) ⟨hx, hb, hml, hown, hts⟩ (c_X9_rows l D K tv wb bx S cnt np o I hms  H.size) (cwV 0 hts (hGV hmc k_723 k_724 k_725 k_29 k_726) rfl rfl rfl (by decide +kernel) ⟨Nat.le_of_ble_eq_true rfl, Nat.le_of_ble_eq_true rfl⟩) (hpreV E hPb hDb hS hb0 rfl) rfl rfl hl.1 rfl (lv_room (Nat.le_of_ble_eq_true rfl)) dL_law_393 ⟨hroomC, hroomS⟩) (fun r2 wb1 H locs h2 hPb hDb hPa hap9 hS => ?_)
  obtain ⟨q1, hcs1⟩ := h1
  obtain ⟨q2, hms1⟩ := h2
  have hre := q1.det q2
  refine lv_pop hx hb dL_law_396 rfl ?_
  refine lv_goto (tgt := 446) hx hb dL_law_397 (by decide) ?_
  exact kk H locs ls _ _ wa1 wb1 S cnt np o I L Sp ⟨hcs1, hms1, hPa, hDa, hPb, hDb, hap9.symm, hS⟩ hcell hslot hl

set_option maxHeartbeats 4000000 in
set_option maxRecDepth 100000 in
theorem hcase_12 (l : Launch) {p : Program} {e : Env} {s : State} {m : MethodId} {below : List Frame} {meth : Method} {c : Code} {b n9 : Nat} {xs : Nat → Int32} {D : va_G} {K : Nat → ClassId} {tv : Nat} {A : Nat → Prop} {H : Heap} {locs : List Loc} {cells slots : Nat} {ls : Array Slot} (ax bx : Nat → Nat) (i : Nat) (hi : i + 4 ≤ n9) (wa wb : va_W) (S : Nat → Nat → Nat → Prop) (cnt np : Nat) (o : List Nat) (I : Nat → Nat → Nat) (L Sp : Nat) (hcell : cells ≤ 1000 + hQc L + hQc Sp) (hslot : slots ≤ 300000 + hQs L + hQs Sp) (C1 : hAtL (Jvm.Cond.initialized "JoinPlanner") p s m meth c b n9 xs D K tv A) (C2 : hTwo D K A s ax bx wa wb H locs S cnt np o I L Sp) (hl : lv_has ls 4 [(3, .int (nI i)), (2, .ref (bx 0)), (1, .ref (ax 0)), (0, .ref b)]) (kk : hGo l p e s m below meth c b D K A ax bx i) : W p l e room_1 s m #[Value.ref b] below meth c H locs cells slots (lw_Z below #[Value.ref b] s) (F0 m 400 ls []) := by
  obtain ⟨hx, hb, hr, hml, hown, hts, E, hX, hbl, hbA, hlocks, hAs, hn9⟩ := id C1
  obtain ⟨hcs, hms, hPa, hDa, hPb, hDb, hap, hS⟩ := C2
  obtain ⟨F, g, dd, mm, ms, lc, rd, ob, fd, ln, tt, co, b9, ra, sa, sc, hcx, hcb, hcz⟩ := id hcs
  have ha0 := hcx.1
  obtain ⟨f, lz, kp, fd9, hrx, hrb⟩ := id hms
  have hb0 := hrx.1
  obtain ⟨cc, ss, Ln, Sn, ⟨hLn, hSn, hSL9, hqc, hqs⟩, hsol⟩ := c_solutions l D K tv wa ax S cnt np o I L Sp hcs
  have hroomC : cells + cc ≤ 600000 := by have := hQc_bd Ln; have := hQc_bd Sn; omega
  have hroomS : slots + ss ≤ 7302249 := by have := hQs_bd Ln; have := hQs_bd Sn; omega
  refine lv_aload_n hx hb dL_law_400 rfl (lv_at hl 2 rfl) ?_
  refine hf_i E hDa hPb hap hS (va_runV (As := []) (rest := []) ⟨hx, hb, hml, hown, hts⟩ (hsol H.size) (cwV 0 hts (hGV hmc k_527 k_528 k_529 k_20 k_530) rfl rfl rfl (by decide +kernel) ⟨Nat.le_of_ble_eq_true rfl, Nat.le_of_ble_eq_true rfl⟩) (hpreV E hPa hDa hS ha0 rfl) rfl rfl hl.1 rfl (lv_room (Nat.le_of_ble_eq_true rfl)) dL_law_401 ⟨hroomC, hroomS⟩) (fun r1 wa1 H locs h1 hPa hDa hPb hap hS => ?_)
  refine lv_aload_n hx hb dL_law_404 rfl (lv_at hl 1 rfl) ?_
  refine hf_i E hDb hPa hap.symm hS (va_runV (As := []) (rest := [.int r1]) ⟨hx, hb, hml, hown, hts⟩ (c_X9_solutions l D K tv wb bx S cnt np o I hms  H.size) (cwV 0 hts (hGV hmc k_743 k_744 k_745 k_29 k_746) rfl rfl rfl (by decide +kernel) ⟨Nat.le_of_ble_eq_true rfl, Nat.le_of_ble_eq_true rfl⟩) (hpreV E hPb hDb hS hb0 rfl) rfl rfl hl.1 rfl (lv_room (Nat.le_of_ble_eq_true rfl)) dL_law_405 ⟨hroomC, hroomS⟩) (fun r2 wb1 H locs h2 hPb hDb hPa hap9 hS => ?_)
  obtain ⟨q1, hcs1⟩ := h1
  obtain ⟨q2, hms1⟩ := h2
  have hre := q1.det hrb.2.1 q2
  refine lv_icmp_eq (tgt := 446) hx hb dL_law_408 (by decide) (fun c1 => ?_) (fun c1 => ?_)
  · exact kk H locs ls _ _ wa1 wb1 S cnt np o I Ln Sn ⟨hcs1, hms1, hPa, hDa, hPb, hDb, hap9.symm, hS⟩ (by show cells + cc + 0 ≤ _; omega) (by show slots + ss + 0 ≤ _; omega) hl
  · exact absurd hre c1

set_option maxHeartbeats 4000000 in
set_option maxRecDepth 100000 in
theorem hcase_13 (l : Launch) {p : Program} {e : Env} {s : State} {m : MethodId} {below : List Frame} {meth : Method} {c : Code} {b n9 : Nat} {xs : Nat → Int32} {D : va_G} {K : Nat → ClassId} {tv : Nat} {A : Nat → Prop} {H : Heap} {locs : List Loc} {cells slots : Nat} {ls : Array Slot} (ax bx : Nat → Nat) (i : Nat) (hi : i + 4 ≤ n9) (wa wb : va_W) (S : Nat → Nat → Nat → Prop) (cnt np : Nat) (o : List Nat) (I : Nat → Nat → Nat) (L Sp : Nat) (hcell : cells ≤ 1000 + hQc L + hQc Sp) (hslot : slots ≤ 300000 + hQs L + hQs Sp) (C1 : hAtL (Jvm.Cond.initialized "JoinPlanner") p s m meth c b n9 xs D K tv A) (C2 : hTwo D K A s ax bx wa wb H locs S cnt np o I L Sp) (hl : lv_has ls 4 [(3, .int (nI i)), (2, .ref (bx 0)), (1, .ref (ax 0)), (0, .ref b)]) (kk : hGo l p e s m below meth c b D K A ax bx i) : W p l e room_1 s m #[Value.ref b] below meth c H locs cells slots (lw_Z below #[Value.ref b] s) (F0 m 413 ls []) := by
  obtain ⟨hx, hb, hr, hml, hown, hts, E, hX, hbl, hbA, hlocks, hAs, hn9⟩ := id C1
  obtain ⟨hcs, hms, hPa, hDa, hPb, hDb, hap, hS⟩ := C2
  obtain ⟨F, g, dd, mm, ms, lc, rd, ob, fd, ln, tt, co, b9, ra, sa, sc, hcx, hcb, hcz⟩ := id hcs
  have ha0 := hcx.1
  obtain ⟨f, lz, kp, fd9, hrx, hrb⟩ := id hms
  have hb0 := hrx.1
  have hroomC : cells ≤ 600000 := by have := hQc_bd L; have := hQc_bd Sp; omega
  have hroomS : slots ≤ 7302249 := by have := hQs_bd L; have := hQs_bd Sp; omega
  refine lv_aload_n hx hb dL_law_413 rfl (lv_at hl 2 rfl) ?_
  refine lv_aload_n hx hb dL_law_414 rfl (lv_at hl 3 rfl) ?_
  refine lv_iload_n hx hb dL_law_415 rfl (lv_at hl 0 rfl) ?_
  refine lv_iconst (v := nI 1) hx hb dL_law_416 (by decide +kernel) ?_
  refine lv_iadd hx hb dL_law_417 ?_
  refine htopi (v := nI (i + 1)) (nI_add _ _) ?_
  refine va_sld hx hb hX hbl hbA hS (vp_in_nI (by omega) (by omega)) dL_law_418 ?_
  refine htopi (v := xs (i + 1)) (by rw [nI_clamp (by omega)]) ?_
  refine lv_aload_n hx hb dL_law_419 rfl (lv_at hl 3 rfl) ?_
  refine lv_iload_n hx hb dL_law_420 rfl (lv_at hl 0 rfl) ?_
  refine lv_iconst (v := nI 2) hx hb dL_law_421 (by decide +kernel) ?_
  refine lv_iadd hx hb dL_law_422 ?_
  refine htopi (v := nI (i + 2)) (nI_add _ _) ?_
  refine va_sld hx hb hX hbl hbA hS (vp_in_nI (by omega) (by omega)) dL_law_423 ?_
  refine htopi (v := xs (i + 2)) (by rw [nI_clamp (by omega)]) ?_
  refine hf_i E hDa hPb hap hS (va_runV (As := [.int (xs (i + 1)), .int (xs (i + 2))]) (rest := []) ⟨hx, hb, hml, hown, hts⟩ (c_X0_value l D K tv wa ax S cnt np o I L Sp hcs (xs (i + 1)) (xs (i + 2)) H.size) (cwV 2 hts (hGV hmc k_547 k_548 k_549 k_20 k_550) rfl rfl rfl (by decide +kernel) ⟨Nat.le_of_ble_eq_true rfl, Nat.le_of_ble_eq_true rfl⟩) (hpreV E hPa hDa hS ha0 rfl) rfl rfl hl.1 rfl (lv_room (Nat.le_of_ble_eq_true rfl)) dL_law_424 ⟨hroomC, hroomS⟩) (fun r1 wa1 H locs h1 hPa hDa hPb hap hS => ?_)
  refine lv_pop hx hb dL_law_427 rfl ?_
  refine lv_aload_n hx hb dL_law_428 rfl (lv_at hl 1 rfl) ?_
  refine lv_aload_n hx hb dL_law_429 rfl (lv_at hl 3 rfl) ?_
  refine lv_iload_n hx hb dL_law_430 rfl (lv_at hl 0 rfl) ?_
  refine lv_iconst (v := nI 1) hx hb dL_law_431 (by decide +kernel) ?_
  refine lv_iadd hx hb dL_law_432 ?_
  refine htopi (v := nI (i + 1)) (nI_add _ _) ?_
  refine va_sld hx hb hX hbl hbA hS (vp_in_nI (by omega) (by omega)) dL_law_433 ?_
  refine htopi (v := xs (i + 1)) (by rw [nI_clamp (by omega)]) ?_
  refine lv_aload_n hx hb dL_law_434 rfl (lv_at hl 3 rfl) ?_
  refine lv_iload_n hx hb dL_law_435 rfl (lv_at hl 0 rfl) ?_
  refine lv_iconst (v := nI 2) hx hb dL_law_436 (by decide +kernel) ?_
  refine lv_iadd hx hb dL_law_437 ?_
  refine htopi (v := nI (i + 2)) (nI_add _ _) ?_
  refine va_sld hx hb hX hbl hbA hS (vp_in_nI (by omega) (by omega)) dL_law_438 ?_
  refine htopi (v := xs (i + 2)) (by rw [nI_clamp (by omega)]) ?_
  refine hf_i E hDb hPa hap.symm hS (va_runV (As := [.int (xs (i + 1)), .int (xs (i + 2))]) (rest := []) ⟨hx, hb, hml, hown, hts⟩ (c_X9_value l D K tv wb bx S cnt np o I hms (xs (i + 1)) (xs (i + 2)) H.size) (cwV 2 hts (hGV hmc k_751 k_752 k_753 k_29 k_754) rfl rfl rfl (by decide +kernel) ⟨Nat.le_of_ble_eq_true rfl, Nat.le_of_ble_eq_true rfl⟩) (hpreV E hPb hDb hS hb0 rfl) rfl rfl hl.1 rfl (lv_room (Nat.le_of_ble_eq_true rfl)) dL_law_439 ⟨hroomC, hroomS⟩) (fun r2 wb1 H locs h2 hPb hDb hPa hap9 hS => ?_)
  have hcs1 := h1
  have hms1 := h2
  refine lv_pop hx hb dL_law_442 rfl ?_
  refine lv_goto (tgt := 446) hx hb dL_law_443 (by decide) ?_
  exact kk H locs ls _ _ wa1 wb1 S cnt np o I L Sp ⟨hcs1, hms1, hPa, hDa, hPb, hDb, hap9.symm, hS⟩ hcell hslot hl

set_option maxHeartbeats 4000000 in
set_option maxRecDepth 100000 in
theorem hlaw_loop (l : Launch) {p : Program} {e : Env} {s : State} {m : MethodId} {below : List Frame} {meth : Method} {c : Code} {b n9 : Nat} {xs : Nat → Int32} {D : va_G} {K : Nat → ClassId} {tv : Nat} {A : Nat → Prop} (ax bx : Nat → Nat) (C1 : hAtL (Jvm.Cond.initialized "JoinPlanner") p s m meth c b n9 xs D K tv A) : ∀ (n i : Nat), i ≤ n9 → n9 - i < n → ∀ (H : Heap) (locs : List Loc) (ls : Array Slot) (cells slots : Nat) (wa wb : va_W) (S : Nat → Nat → Nat → Prop) (cnt np : Nat) (o : List Nat) (I : Nat → Nat → Nat) (L Sp : Nat), hTwo D K A s ax bx wa wb H locs S cnt np o I L Sp → cells ≤ 1000 + hQc L + hQc Sp → slots ≤ 300000 + hQs L + hQs Sp → lv_has ls 4 [(3, .int (nI i)), (2, .ref (bx 0)), (1, .ref (ax 0)), (0, .ref b)] → W p l e room_1 s m #[Value.ref b] below meth c H locs cells slots (lw_Z below #[Value.ref b] s) (F0 m 18 ls []) := by
  obtain ⟨hx, hb, hr, hml, hown, hts, E, hX, hbl, hbA, hlocks, hAs, hn9⟩ := id C1
  intro n
  induction n with
  | zero => intro i _ h; omega
  | succ n ih =>
    intro i hi9 hn H locs ls cells slots wa wb S cnt np o I L Sp C2 hcell hslot hl
    obtain ⟨hcs, hms, hPa, hDa, hPb, hDb, hap, hS⟩ := id C2
    have hroomC : cells ≤ 600000 := by have := hQc_bd L; have := hQc_bd Sp; omega
    have hroomS : slots ≤ 7302249 := by have := hQs_bd L; have := hQs_bd Sp; omega
    refine lv_iload_n hx hb dL_law_18 rfl (lv_at hl 0 rfl) ?_
    refine lv_aload_n hx hb dL_law_19 rfl (lv_at hl 3 rfl) ?_
    refine va_slen hx hb hX hbl hbA hS dL_law_20 ?_
    refine lv_iconst (v := nI 4) hx hb dL_law_21 (by decide +kernel) ?_
    refine lv_isub hx hb dL_law_22 ?_
    rcases Nat.lt_or_ge n9 4 with hL4 | hL4
    · refine lv_icmp_gt (tgt := 452) hx hb dL_law_23 (by decide) (fun c1 => ?_) (fun c1 => ?_)
      · refine lv_iconst (v := nI 1) hx hb dL_law_452 (by decide +kernel) ?_
        refine va_forget (fun q hq => hAs _ (hS.2.2 q hq)) ?_
        refine W.widen (k := 600000) (n := 7302249) hroomC hroomS ?_
        exact lw_ret hx hb hr hlocks dL_law_453
      · exact absurd (Int32.lt_of_lt_of_le (hfour n9 hL4) (nI_le (Nat.zero_le i) (by omega))) c1
    · refine htopi (v := nI (n9 - 4)) ((show (nI n9 - nI 4 : Int32) = nI (n9 - 4) from pk_sub hL4)) ?_
      refine lv_icmp_gt (tgt := 452) hx hb dL_law_23 (by decide) (fun c1 => ?_) (fun c1 => ?_)
      · refine lv_iconst (v := nI 1) hx hb dL_law_452 (by decide +kernel) ?_
        refine va_forget (fun q hq => hAs _ (hS.2.2 q hq)) ?_
        refine W.widen (k := 600000) (n := 7302249) hroomC hroomS ?_
        exact lw_ret hx hb hr hlocks dL_law_453
      · have hi4 : i + 4 ≤ n9 := by
          rcases Nat.lt_or_ge (n9 - 4) i with z | z
          · exact absurd (nI_lt z (by omega)) c1
          · omega
        have kk : hGo l p e s m below meth c b D K A ax bx i := by
          intro H locs ls cells slots wa wb S cnt np o I L Sp C2 hcell hslot hl
          refine lv_iinc (v := nI (i + 4)) (lv' := [(3, .int (nI (i + 4))), (2, .ref (bx 0)), (1, .ref (ax 0)), (0, .ref b)]) hx hb dL_law_446 hl (k := 0) rfl (by rw [show Int32.ofInt 4 = nI 4 from by decide +kernel]; exact nI_add _ _) (by decide) rfl (fun ls hl => ?_)
          refine lv_goto (tgt := 18) hx hb dL_law_449 (by decide) ?_
          exact ih (i + 4) hi4 (by omega) H locs ls cells slots wa wb S cnt np o I L Sp C2 hcell hslot (lv_sub hl [0, 1, 2, 3] rfl)
        refine lv_aload_n hx hb dL_law_26 rfl (lv_at hl 3 rfl) ?_
        refine lv_iload_n hx hb dL_law_27 rfl (lv_at hl 0 rfl) ?_
        refine va_sld hx hb hX hbl hbA hS (vp_in_nI (by omega) (by omega)) dL_law_28 ?_
        refine htopi (v := xs i) (by rw [nI_clamp (by omega)]) ?_
        refine lv_bipush (v := nI 15) hx hb dL_law_29 (by decide +kernel) ?_
        refine lv_iand hx hb dL_law_31 ?_
        obtain ⟨j, hj, ej⟩ := hand15 (xs i)
        refine htopi (v := nI j) (ej) ?_
        rcases (show j = 0 ∨ j = 1 ∨ j = 2 ∨ j = 3 ∨ j = 4 ∨ j = 5 ∨ j = 6 ∨ j = 7 ∨ j = 8 ∨ j = 9 ∨ j = 10 ∨ j = 11 ∨ j = 12 ∨ j = 13 ∨ j = 14 ∨ j = 15 by omega) with rfl | rfl | rfl | rfl | rfl | rfl | rfl | rfl | rfl | rfl | rfl | rfl | rfl | rfl | rfl | rfl
        · refine lv_tableIn (off := 72) (tgt := 104) hx hb dL_law_32 (by decide +kernel) (by decide +kernel) (by decide +kernel) (by decide) ?_
          exact hcase_0 l ax bx i hi4 wa wb S cnt np o I L Sp hcell hslot C1 C2 (lv_sub hl [0, 1, 2, 3] rfl) kk
        · refine lv_tableIn (off := 115) (tgt := 147) hx hb dL_law_32 (by decide +kernel) (by decide +kernel) (by decide +kernel) (by decide) ?_
          exact hcase_1 l ax bx i hi4 wa wb S cnt np o I L Sp hcell hslot C1 C2 (lv_sub hl [0, 1, 2, 3] rfl) kk
        · refine lv_tableIn (off := 158) (tgt := 190) hx hb dL_law_32 (by decide +kernel) (by decide +kernel) (by decide +kernel) (by decide) ?_
          exact hcase_2 l ax bx i hi4 wa wb S cnt np o I L Sp hcell hslot C1 C2 (lv_sub hl [0, 1, 2, 3] rfl) kk
        · refine lv_tableIn (off := 171) (tgt := 203) hx hb dL_law_32 (by decide +kernel) (by decide +kernel) (by decide +kernel) (by decide) ?_
          exact hcase_3 l ax bx i hi4 wa wb S cnt np o I L Sp hcell hslot C1 C2 (lv_sub hl [0, 1, 2, 3] rfl) kk
        · refine lv_tableIn (off := 214) (tgt := 246) hx hb dL_law_32 (by decide +kernel) (by decide +kernel) (by decide +kernel) (by decide) ?_
          exact hcase_4 l ax bx i hi4 wa wb S cnt np o I L Sp hcell hslot C1 C2 (lv_sub hl [0, 1, 2, 3] rfl) kk
        · refine lv_tableIn (off := 227) (tgt := 259) hx hb dL_law_32 (by decide +kernel) (by decide +kernel) (by decide +kernel) (by decide) ?_
          exact hcase_5 l ax bx i hi4 wa wb S cnt np o I L Sp hcell hslot C1 C2 (lv_sub hl [0, 1, 2, 3] rfl) kk
        · refine lv_tableIn (off := 260) (tgt := 292) hx hb dL_law_32 (by decide +kernel) (by decide +kernel) (by decide +kernel) (by decide) ?_
          exact hcase_6 l ax bx i hi4 wa wb S cnt np o I L Sp hcell hslot C1 C2 (lv_sub hl [0, 1, 2, 3] rfl) kk
        · refine lv_tableIn (off := 283) (tgt := 315) hx hb dL_law_32 (by decide +kernel) (by decide +kernel) (by decide +kernel) (by decide) ?_
          exact hcase_7 l ax bx i hi4 wa wb S cnt np o I L Sp hcell hslot C1 C2 (lv_sub hl [0, 1, 2, 3] rfl) kk
        · refine lv_tableIn (off := 296) (tgt := 328) hx hb dL_law_32 (by decide +kernel) (by decide +kernel) (by decide +kernel) (by decide) ?_
          exact hcase_8 l ax bx i hi4 wa wb S cnt np o I L Sp hcell hslot C1 C2 (lv_sub hl [0, 1, 2, 3] rfl) kk
        · refine lv_tableIn (off := 319) (tgt := 351) hx hb dL_law_32 (by decide +kernel) (by decide +kernel) (by decide +kernel) (by decide) ?_
          exact hcase_9 l ax bx i hi4 wa wb S cnt np o I L Sp hcell hslot C1 C2 (lv_sub hl [0, 1, 2, 3] rfl) kk
        · refine lv_tableIn (off := 332) (tgt := 364) hx hb dL_law_32 (by decide +kernel) (by decide +kernel) (by decide +kernel) (by decide) ?_
          exact hcase_10 l ax bx i hi4 wa wb S cnt np o I L Sp hcell hslot C1 C2 (lv_sub hl [0, 1, 2, 3] rfl) kk
        · refine lv_tableIn (off := 355) (tgt := 387) hx hb dL_law_32 (by decide +kernel) (by decide +kernel) (by decide +kernel) (by decide) ?_
          exact hcase_11 l ax bx i hi4 wa wb S cnt np o I L Sp hcell hslot C1 C2 (lv_sub hl [0, 1, 2, 3] rfl) kk
        · refine lv_tableIn (off := 368) (tgt := 400) hx hb dL_law_32 (by decide +kernel) (by decide +kernel) (by decide +kernel) (by decide) ?_
          exact hcase_12 l ax bx i hi4 wa wb S cnt np o I L Sp hcell hslot C1 C2 (lv_sub hl [0, 1, 2, 3] rfl) kk
        · refine lv_tableIn (off := 381) (tgt := 413) hx hb dL_law_32 (by decide +kernel) (by decide +kernel) (by decide +kernel) (by decide) ?_
          exact hcase_13 l ax bx i hi4 wa wb S cnt np o I L Sp hcell hslot C1 C2 (lv_sub hl [0, 1, 2, 3] rfl) kk
        · refine lv_tableOut (tgt := 446) hx hb dL_law_32 (Or.inr (by decide +kernel)) (by decide) ?_
          exact kk H locs ls cells slots wa wb S cnt np o I L Sp C2 hcell hslot (lv_sub hl [0, 1, 2, 3] rfl)
        · refine lv_tableOut (tgt := 446) hx hb dL_law_32 (Or.inr (by decide +kernel)) (by decide) ?_
          exact kk H locs ls cells slots wa wb S cnt np o I L Sp C2 hcell hslot (lv_sub hl [0, 1, 2, 3] rfl)

set_option maxHeartbeats 4000000 in
set_option maxRecDepth 100000 in
/-- the tables at the law's entry -/
theorem hlaw_E {s : State} {b : Nat} (hts : ∀ w ∈ lw_tbl, w.before #[Value.ref b] s = true) (hgv : (Jvm.Cond.and given_1 narrow_1).before #[Value.ref b] s = true) : ∃ (D : va_G) (K : Nat → ClassId) (tv : Nat), hE D (hTy K) tv (fun q : Nat => s.heap.size ≤ q) s := by
  have hA : ∀ a : Nat, a < s.heap.size → ¬ (fun q : Nat => s.heap.size ≤ q) a := fun a h => Nat.not_le.mpr h
  have hc : ∀ k : Nat, ∃ x : ClassId × (Nat → Nat), ∀ q : vw_C, vwCl[k]? = some q → u_Kn s q.1 q.2.1 q.2.2 x.1 x.2 := by
    intro k
    match k with
    | 0 => obtain ⟨a, i, h⟩ := u_known (C := RX0) (T := TX0) (N := 6) (n := 6) hts inX0 (hts _ (hW0_in k_36)); exact ⟨(a, i), fun q hq => by cases hq; exact h⟩
    | 1 => obtain ⟨a, i, h⟩ := u_known (C := RX1) (T := TX1) (N := 2) (n := 2) hts inX1 (hts _ (hW0_in k_44)); exact ⟨(a, i), fun q hq => by cases hq; exact h⟩
    | 2 => obtain ⟨a, i, h⟩ := u_known (C := RX2) (T := TX2) (N := 3) (n := 3) hts inX2 (hts _ (hW0_in k_70)); exact ⟨(a, i), fun q hq => by cases hq; exact h⟩
    | 3 => obtain ⟨a, i, h⟩ := u_known (C := RX3) (T := TX3) (N := 3) (n := 3) hts inX3 (hts _ (hW0_in k_63)); exact ⟨(a, i), fun q hq => by cases hq; exact h⟩
    | 4 => obtain ⟨a, i, h⟩ := u_known (C := RX4) (T := TX4) (N := 3) (n := 3) hts inX4 (hts _ (hW0_in k_100)); exact ⟨(a, i), fun q hq => by cases hq; exact h⟩
    | 5 => obtain ⟨a, i, h⟩ := u_known (C := RX5) (T := TX5) (N := 4) (n := 4) hts inX5 (hts _ (hW0_in k_118)); exact ⟨(a, i), fun q hq => by cases hq; exact h⟩
    | 6 => obtain ⟨a, i, h⟩ := u_known (C := RX6) (T := TX6) (N := 7) (n := 7) hts inX6 (hts _ (hW0_in k_167)); exact ⟨(a, i), fun q hq => by cases hq; exact h⟩
    | 7 => obtain ⟨a, i, h⟩ := u_known (C := RX7) (T := TX7) (N := 5) (n := 5) hts inX7 (hts _ (hW0_in k_142)); exact ⟨(a, i), fun q hq => by cases hq; exact h⟩
    | 8 => obtain ⟨a, i, h⟩ := u_known (C := RX8) (T := TX8) (N := 3) (n := 3) hts inX8 (hts _ (hW0_in k_150)); exact ⟨(a, i), fun q hq => by cases hq; exact h⟩
    | 9 => obtain ⟨a, i, h⟩ := u_known (C := RX9) (T := TX9) (N := 18) (n := 18) hts inX9 (hts _ (hW0_in k_563)); exact ⟨(a, i), fun q hq => by cases hq; exact h⟩
    | k + 10 => exact ⟨(0, fun _ => 0), fun q hq => by simp [vwCl] at hq⟩
  obtain ⟨f, hf⟩ := Classical.axiomOfChoice hc
  obtain ⟨cI, kI, pI, i1, i2, i3⟩ := Cond.arrayClass_spec (type := .int) (hts _ (hW0_in k_61))
  obtain ⟨cL, kL, pL, l1, l2, l3⟩ := Cond.arrayClass_spec (type := .long) (hts _ (hW0_in k_166))
  have hAOA := hts (.arrayOver (.array .int)) (by decide +kernel)
  have hAOP := hts (.arrayOver (.object "JoinPlanner$Pattern")) (by decide +kernel)
  have hAOS := hts (.arrayOver (.object "JoinPlanner$Step")) (by decide +kernel)
  obtain ⟨pA, cA, kA, a1, -, a2, a3, a4⟩ := arrayOverA_spec hAOA
  obtain ⟨pP, cP, kP, p1, -, p2, p3, p4⟩ := Cond.arrayOver_spec hAOP
  obtain ⟨pS, cS, kS, s1, -, s2, s3, s4⟩ := Cond.arrayOver_spec hAOS
  have hs := flat_of_before _ hgv
  obtain ⟨tv, t1, t2⟩ := va_Tof (args := #[Value.ref b]) (s := s) (tm := .static "JoinPlanner" "VIEW_OF" "[I") (ty := .int) (N := 8) (f := hVf) (A := fun q : Nat => s.heap.size ≤ q) (by decide) (hs _ (by decide +kernel)) (va_eqt (hs (.eq (.length (.static "JoinPlanner" "VIEW_OF" "[I")) (.int 8)) (by decide +kernel))) (fun j hj => by
    rcases (show j = 0 ∨ j = 1 ∨ j = 2 ∨ j = 3 ∨ j = 4 ∨ j = 5 ∨ j = 6 ∨ j = 7 by omega) with rfl | rfl | rfl | rfl | rfl | rfl | rfl | rfl
    · exact va_eqt (hs (.eq (.elem (.static "JoinPlanner" "VIEW_OF" "[I") (.int 0)) (.int 0)) (by decide +kernel))
    · exact va_eqt (hs (.eq (.elem (.static "JoinPlanner" "VIEW_OF" "[I") (.int 1)) (.int 0)) (by decide +kernel))
    · exact va_eqt (hs (.eq (.elem (.static "JoinPlanner" "VIEW_OF" "[I") (.int 2)) (.int 1)) (by decide +kernel))
    · exact va_eqt (hs (.eq (.elem (.static "JoinPlanner" "VIEW_OF" "[I") (.int 3)) (.int 0)) (by decide +kernel))
    · exact va_eqt (hs (.eq (.elem (.static "JoinPlanner" "VIEW_OF" "[I") (.int 4)) (.int 2)) (by decide +kernel))
    · exact va_eqt (hs (.eq (.elem (.static "JoinPlanner" "VIEW_OF" "[I") (.int 5)) (.int 2)) (by decide +kernel))
    · exact va_eqt (hs (.eq (.elem (.static "JoinPlanner" "VIEW_OF" "[I") (.int 6)) (.int 1)) (by decide +kernel))
    · exact va_eqt (hs (.eq (.elem (.static "JoinPlanner" "VIEW_OF" "[I") (.int 7)) (.int 0)) (by decide +kernel))) hA
  have hz : va_Z "JoinPlanner" "VIEW_OF" "[I" (.ref tv) (fun q : Nat => s.heap.size ≤ q) s s.heap := va_Zof (args := #[Value.ref b]) (hts (.laysStatic "JoinPlanner" "VIEW_OF" "[I") (by decide +kernel)) (hts (.initialized "JoinPlanner") (by decide +kernel)) t1 hA
  refine ⟨(fun k => (f k).1, fun k => (f k).2), fun k => match k with | 0 => cI | 1 => cL | 2 => cA | 3 => cP | _ => cS, tv, ⟨⟨fun k q hq => hf k q hq, fun k q hq => ?_⟩, fun w hw => ?_, fun C hC => ?_, fun t0 t1 c0 c1 h0 h1 => ?_⟩, ⟨hz, t2⟩, fun q h => h⟩
  · have hk : k < 5 := (List.getElem?_eq_some_iff.mp hq).1
    rcases (show k = 0 ∨ k = 1 ∨ k = 2 ∨ k = 3 ∨ k = 4 by omega) with rfl | rfl | rfl | rfl | rfl <;> cases hq
    · exact ⟨fun n z => ⟨fun _ h => (by cases h), kI, i2, pI, i3⟩, i1⟩
    · exact ⟨fun n z => ⟨fun _ h => (by cases h), kL, l2, pL, l3⟩, l1⟩
    · exact ⟨fun n z => ⟨fun _ h => (by cases h), kA, a2, pA, a3⟩, a4⟩
    · exact ⟨fun n z => ⟨fun _ h => (by cases h), kP, p2, pP, p3⟩, kP, pP, p2, p3, p1, p4⟩
    · exact ⟨fun n z => ⟨fun _ h => (by cases h), kS, s2, pS, s3⟩, kS, pS, s2, s3, s1, s4⟩
  · obtain ⟨h1, h2⟩ := List.mem_filter.mp hw
    exact va_Nw.of (hIsN_tab h2) (hts w h1)
  · have hC2 : C = "JoinPlanner$Pattern" ∨ C = "JoinPlanner$Step" := (show ∀ C ∈ hAO, C = "JoinPlanner$Pattern" ∨ C = "JoinPlanner$Step" by decide +kernel) C hC
    rcases hC2 with rfl | rfl
    · exact va_AO.of hAOP
    · exact va_AO.of hAOS
  · have e0 : t0 = 2 := by
      have hk : t0 < 5 := (List.getElem?_eq_some_iff.mp h0).1
      rcases (show t0 = 0 ∨ t0 = 1 ∨ t0 = 2 ∨ t0 = 3 ∨ t0 = 4 by omega) with rfl | rfl | rfl | rfl | rfl <;> first | rfl | cases h0
    have e1 : t1 = 0 := by
      have hk : t1 < 5 := (List.getElem?_eq_some_iff.mp h1).1
      rcases (show t1 = 0 ∨ t1 = 1 ∨ t1 = 2 ∨ t1 = 3 ∨ t1 = 4 by omega) with rfl | rfl | rfl | rfl | rfl <;> first | rfl | cases h1
    subst e0
    subst e1
    cases h0
    cases h1
    have e : pA = cI := Option.some.inj (a1.symm.trans i1)
    rw [e] at a3
    exact ⟨kA, a2, a3⟩

set_option maxHeartbeats 4000000 in
set_option maxRecDepth 100000 in
theorem whole_start {p : Program} {e : Env} {s : State} {m : MethodId} {below : List Frame} {meth : Method} {c : Code} (l : Launch) {b L : Nat} {xs : Nat → Int32} (hL : L ≤ 2048) (C0 : lw_At p s m meth c b L xs) : W p l e room_1 s m #[Value.ref b] below meth c s.heap [] 0 0 (lw_Z below #[Value.ref b] s) (entryFrame m ([Value.ref b] : List Value).toArray 4) := by
  obtain ⟨hx, hb, hr, hml, hown, hts0, hX, hbl, hlocks, hgv⟩ := id C0
  obtain ⟨D, K, tv, E⟩ := hlaw_E hts0 hgv
  have hts := hlawts (w0 := (Jvm.Cond.initialized "JoinPlanner")) hts0 k_20
  generalize hAe : (fun q : Nat => s.heap.size ≤ q) = A at E
  have hAs : ∀ q : Nat, A q → s.heap.size ≤ q := fun q h => by rw [← hAe] at h; exact h
  have hbA : ¬ A b := fun h => Nat.not_le.mpr hbl (hAs b h)
  have hl := lv_entry ([.ref b]) (n := 4) (Nat.le_of_ble_eq_true rfl)
  rw [lg_entry_eq]
  generalize (lg_sl ([.ref b]) ++ List.replicate (4 - (lg_sl ([.ref b])).length) Slot.unset).toArray = ls at hl ⊢
  have hl : lv_has ls 4 [(0, .ref b)] := hl
  refine hat0 (fun H hHe => ?_)
  have hS : va_S A s.heap H [] := by rw [hHe]; exact va_S.rf
  have hP : va_P D vwCl [] H := fun k q h => by simp at h
  have hD : va_D A [] := ⟨fun i j p q h => by simp at h, fun k q h => by simp at h⟩
  refine va_new (ci := iJ) (fs := [.null, .null, .null, .null, .null, .int 0]) (C := RX0) (T := TX0) (N := 6) hx hb hts (hin_X0 hmc) tyX0 tyX0_ok hown (hts _ (hmc _ k_35)) (hts _ (hmc _ k_36)) (hts _ (hmc _ k_20)) E.1.1 hP hD hS E.2.2 rfl (fun j hj => by rcases (show j = 0 ∨ j = 1 ∨ j = 2 ∨ j = 3 ∨ j = 4 ∨ j = 5 by omega) with rfl | rfl | rfl | rfl | rfl | rfl <;> rfl) (Nat.le_of_ble_eq_true rfl) (Nat.le_of_ble_eq_true rfl) dL_law_0 (fun q0 H hP hD hS => ?_)
  have hP : va_P D vwCl ([] ++ [(q0, .inr (iJ, [.null, .null, .null, .null, .null, .int 0]))]) H := hP
  have hD : va_D A ([] ++ [(q0, .inr (iJ, [.null, .null, .null, .null, .null, .int 0]))]) := hD
  refine lv_dup hx hb dL_law_3 rfl ?_
  refine hc_new (ws := []) (x := (q0, .inr (iJ, [.null, .null, .null, .null, .null, .int 0]))) E hP hD hS (va_runI (As := []) (rest := [.ref q0]) ⟨hx, hb, hml, hown, hts⟩ (c_X0_init l D K tv q0 H.size) (cwI 0 hts (hGc hmc k_39) rfl rfl rfl (hts _ (hmc _ k_20)) (hts _ (hmc _ k_37)) (hts _ (hmc _ k_38)) rfl (by decide +kernel) ⟨Nat.le_of_ble_eq_true rfl, Nat.le_of_ble_eq_true rfl⟩) (hpre E (hlastP (ws := []) (x := (q0, .inr (iJ, [.null, .null, .null, .null, .null, .int 0]))) hP) (hlastD (ws := []) (x := (q0, .inr (iJ, [.null, .null, .null, .null, .null, .int 0]))) hD) hS) rfl rfl hl.1 rfl (lv_room (Nat.le_of_ble_eq_true rfl)) dL_law_4 ⟨Nat.le_of_ble_eq_true rfl, Nat.le_of_ble_eq_true rfl⟩) (fun wa Hwa locs hp hPn hDn hSn => ?_)
  obtain ⟨ax, hax, hs0⟩ := hp
  subst hax
  have hP : va_P D vwCl wa Hwa := hPn
  have hD : va_D A wa := hDn
  have hS := hSn
  refine lv_astore_n (lv' := [(1, .ref (ax 0)), (0, .ref b)]) hx hb dL_law_7 rfl hl (by decide) rfl (fun ls hl => ?_)
  refine va_new (ci := iM) (fs := [.null, .int 0, .null, .int 0, .null, .int 0, .null, .null, .null, .long 0, .null, .null, .null, .null, .int 0, .int 0, .null, .null]) (C := RX9) (T := TX9) (N := 18) hx hb hts (hin_X9 hmc) tyX9 tyX9_ok hown (hts _ (hmc _ k_562)) (hts _ (hmc _ k_563)) (hts _ (hmc _ k_29)) E.1.1 hP hD hS E.2.2 rfl (fun j hj => by rcases (show j = 0 ∨ j = 1 ∨ j = 2 ∨ j = 3 ∨ j = 4 ∨ j = 5 ∨ j = 6 ∨ j = 7 ∨ j = 8 ∨ j = 9 ∨ j = 10 ∨ j = 11 ∨ j = 12 ∨ j = 13 ∨ j = 14 ∨ j = 15 ∨ j = 16 ∨ j = 17 by omega) with rfl | rfl | rfl | rfl | rfl | rfl | rfl | rfl | rfl | rfl | rfl | rfl | rfl | rfl | rfl | rfl | rfl | rfl <;> rfl) (Nat.le_of_ble_eq_true rfl) (Nat.le_of_ble_eq_true rfl) dL_law_8 (fun q1 H hP hD hS => ?_)
  have hP : va_P D vwCl (wa ++ [(q1, .inr (iM, [.null, .int 0, .null, .int 0, .null, .int 0, .null, .null, .null, .long 0, .null, .null, .null, .null, .int 0, .int 0, .null, .null]))]) H := hP
  have hD : va_D A (wa ++ [(q1, .inr (iM, [.null, .int 0, .null, .int 0, .null, .int 0, .null, .null, .null, .long 0, .null, .null, .null, .null, .int 0, .int 0, .null, .null]))]) := hD
  refine lv_dup hx hb dL_law_11 rfl ?_
  refine hc_new (ws := wa) (x := (q1, .inr (iM, [.null, .int 0, .null, .int 0, .null, .int 0, .null, .null, .null, .long 0, .null, .null, .null, .null, .int 0, .int 0, .null, .null]))) E hP hD hS (va_runI (As := []) (rest := [.ref q1]) ⟨hx, hb, hml, hown, hts⟩ (c_X9_init l D K tv q1 H.size) (cwI 0 hts (hGc hmc k_566) rfl rfl rfl (hts _ (hmc _ k_29)) (hts _ (hmc _ k_564)) (hts _ (hmc _ k_565)) rfl (by decide +kernel) ⟨Nat.le_of_ble_eq_true rfl, Nat.le_of_ble_eq_true rfl⟩) (hpre E (hlastP (ws := wa) (x := (q1, .inr (iM, [.null, .int 0, .null, .int 0, .null, .int 0, .null, .null, .null, .long 0, .null, .null, .null, .null, .int 0, .int 0, .null, .null]))) hP) (hlastD (ws := wa) (x := (q1, .inr (iM, [.null, .int 0, .null, .int 0, .null, .int 0, .null, .null, .null, .long 0, .null, .null, .null, .null, .int 0, .int 0, .null, .null]))) hD) hS) rfl rfl hl.1 rfl (lv_room (Nat.le_of_ble_eq_true rfl)) dL_law_12 ⟨Nat.le_of_ble_eq_true rfl, Nat.le_of_ble_eq_true rfl⟩) (fun wb Hwb locs hp hPn hDn hSn => ?_)
  obtain ⟨bx, hbx, hm⟩ := hp
  subst hbx
  have hS := hSn
  refine lv_astore_n (lv' := [(2, .ref (bx 0)), (1, .ref (ax 0)), (0, .ref b)]) hx hb dL_law_15 rfl hl (by decide) rfl (fun ls hl => ?_)
  obtain ⟨hPa, hPb, hDa, hDb, hap⟩ := hsplit hPn hDn
  have C2 : hTwo D K A s ax bx wa wb Hwb locs (fun _ _ _ => False) 0 0 [] (fun _ _ => 0) 64 64 := ⟨hCS0 hs0, hMS0 hm, hPa, hDa, hPb, hDb, hap, hS⟩
  have C1 : hAtL (Jvm.Cond.initialized "JoinPlanner") p s m meth c b L xs D K tv A := ⟨hx, hb, hr, hml, hown, hts, E, hX, hbl, hbA, hlocks, hAs, hL⟩
  refine lv_iconst (v := nI 0) hx hb dL_law_16 (by decide +kernel) ?_
  refine lv_istore_n (lv' := [(3, .int (nI 0)), (2, .ref (bx 0)), (1, .ref (ax 0)), (0, .ref b)]) hx hb dL_law_17 rfl hl (by decide) rfl (fun ls hl => ?_)
  exact hlaw_loop l ax bx C1 (L - 0 + 1) 0 (Nat.zero_le _) (Nat.lt_succ_self _) Hwb locs ls _ _ wa wb _ 0 0 [] _ 64 64 C2 (Nat.le_of_ble_eq_true rfl) (Nat.le_of_ble_eq_true rfl) (lv_sub hl [0, 1, 2, 3] rfl)
