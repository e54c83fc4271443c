set_option maxHeartbeats 4000000 in
set_option maxRecDepth 100000 in
theorem hcase_7 (l : Launch) {p : Program} {e : Env} {s : State} {m : MethodId} {below : List Frame} {meth : Method} {c : Code} {b n9 : Nat} {xs : Nat → Int32} {D : va_G} {K : Nat → ClassId} {tv : Nat} {A : Nat → Prop} {H : Heap} {locs : List Loc} {cells slots : Nat} {ls : Array Slot} (ax bx : Nat → Nat) (i : Nat) (hi : i + 4 ≤ n9) (wa wb : va_W) (S : Nat → Nat → Nat → Prop) (cnt np : Nat) (o : List Nat) (L Sp : Nat) (hcell : cells ≤ 1000 + hQc L + hQc Sp) (hslot : slots ≤ 300000 + hQs L + hQs Sp) (C1 : hAtL (Jvm.Cond.initialized "JoinPlanner") p s m meth c b n9 xs D K tv A) (C2 : hTwo D K A s ax bx wa wb H locs S cnt np o L Sp) (hl : lv_has ls 4 [(3, .int (nI i)), (2, .ref (bx 0)), (1, .ref (ax 0)), (0, .ref b)]) (kk : hGo l p e s m below meth c b D K A ax bx i) : W p l e room_1 s m #[Value.ref b] below meth c H locs cells slots (lw_Z below #[Value.ref b] s) (F0 m 315 ls []) := by
  obtain ⟨hx, hb, hr, hml, hown, hts, E, hX, hbl, hbA, hlocks, hAs, hn9⟩ := id C1
  obtain ⟨hcs, hms, hPa, hDa, hPb, hDb, hap, hS⟩ := C2
  obtain ⟨F, g, I, dd, mm, ms, lc, rd, ob, fd, ln, tt, co, b9, ra, sa, sc, hcx, hcb⟩ := id hcs
  have ha0 := hcx.1
  obtain ⟨f, lz, kp, fd9, hrx, hrb⟩ := id hms
  have hb0 := hrx.1
  have hroomC : cells ≤ 600000 := by have := hQc_bd L; have := hQc_bd Sp; omega
  have hroomS : slots ≤ 7302249 := by have := hQs_bd L; have := hQs_bd Sp; omega
  refine lv_aload_n hx hb dL_law_315 rfl (lv_at hl 2 rfl) ?_
  refine hf_l E hDa hPb hap hS (va_runV (As := []) (rest := []) ⟨hx, hb, hml, hown, hts⟩ (c_X0_cost l D K tv wa ax S cnt np o L Sp hcs  H.size) (cwV 0 hts (hGV hmc k_431 k_432 k_433 k_20 k_434) rfl rfl rfl (by decide +kernel) ⟨Nat.le_of_ble_eq_true rfl, Nat.le_of_ble_eq_true rfl⟩) (hpreV E hPa hDa hS ha0 rfl) rfl rfl hl.1 rfl (lv_room (Nat.le_of_ble_eq_true rfl)) dL_law_316 ⟨hroomC, hroomS⟩) (fun r1 wa1 H locs h1 hPa hDa hPb hap hS => ?_)
  refine lv_pop2_2 hx hb dL_law_319 rfl ?_
  refine lv_aload_n hx hb dL_law_320 rfl (lv_at hl 1 rfl) ?_
  refine hf_l E hDb hPa hap.symm hS (va_runV (As := []) (rest := []) ⟨hx, hb, hml, hown, hts⟩ (c_X9_cost l D K tv wb bx S cnt np o hms  H.size) (cwV 0 hts (hGV hmc k_707 k_708 k_709 k_29 k_710) rfl rfl rfl (by decide +kernel) ⟨Nat.le_of_ble_eq_true rfl, Nat.le_of_ble_eq_true rfl⟩) (hpreV E hPb hDb hS hb0 rfl) rfl rfl hl.1 rfl (lv_room (Nat.le_of_ble_eq_true rfl)) dL_law_321 ⟨hroomC, hroomS⟩) (fun r2 wb1 H locs h2 hPb hDb hPa hap9 hS => ?_)
  have hcs1 := h1
  have hms1 := h2
  refine lv_pop2_2 hx hb dL_law_324 rfl ?_
  refine lv_goto (tgt := 446) hx hb dL_law_325 (by decide) ?_
  exact kk H locs ls _ _ wa1 wb1 S cnt np o L Sp ⟨hcs1, hms1, hPa, hDa, hPb, hDb, hap9.symm, hS⟩ hcell hslot hl

set_option maxHeartbeats 4000000 in
set_option maxRecDepth 100000 in
theorem hcase_8 (l : Launch) {p : Program} {e : Env} {s : State} {m : MethodId} {below : List Frame} {meth : Method} {c : Code} {b n9 : Nat} {xs : Nat → Int32} {D : va_G} {K : Nat → ClassId} {tv : Nat} {A : Nat → Prop} {H : Heap} {locs : List Loc} {cells slots : Nat} {ls : Array Slot} (ax bx : Nat → Nat) (i : Nat) (hi : i + 4 ≤ n9) (wa wb : va_W) (S : Nat → Nat → Nat → Prop) (cnt np : Nat) (o : List Nat) (L Sp : Nat) (hcell : cells ≤ 1000 + hQc L + hQc Sp) (hslot : slots ≤ 300000 + hQs L + hQs Sp) (C1 : hAtL (Jvm.Cond.initialized "JoinPlanner") p s m meth c b n9 xs D K tv A) (C2 : hTwo D K A s ax bx wa wb H locs S cnt np o L Sp) (hl : lv_has ls 4 [(3, .int (nI i)), (2, .ref (bx 0)), (1, .ref (ax 0)), (0, .ref b)]) (kk : hGo l p e s m below meth c b D K A ax bx i) : W p l e room_1 s m #[Value.ref b] below meth c H locs cells slots (lw_Z below #[Value.ref b] s) (F0 m 328 ls []) := by
  obtain ⟨hx, hb, hr, hml, hown, hts, E, hX, hbl, hbA, hlocks, hAs, hn9⟩ := id C1
  obtain ⟨hcs, hms, hPa, hDa, hPb, hDb, hap, hS⟩ := C2
  obtain ⟨F, g, I, dd, mm, ms, lc, rd, ob, fd, ln, tt, co, b9, ra, sa, sc, hcx, hcb⟩ := id hcs
  have ha0 := hcx.1
  obtain ⟨f, lz, kp, fd9, hrx, hrb⟩ := id hms
  have hb0 := hrx.1
  have hroomC : cells ≤ 600000 := by have := hQc_bd L; have := hQc_bd Sp; omega
  have hroomS : slots ≤ 7302249 := by have := hQs_bd L; have := hQs_bd Sp; omega
  refine lv_aload_n hx hb dL_law_328 rfl (lv_at hl 2 rfl) ?_
  refine lv_aload_n hx hb dL_law_329 rfl (lv_at hl 3 rfl) ?_
  refine lv_iload_n hx hb dL_law_330 rfl (lv_at hl 0 rfl) ?_
  refine lv_iconst (v := nI 1) hx hb dL_law_331 (by decide +kernel) ?_
  refine lv_iadd hx hb dL_law_332 ?_
  refine htopi (v := nI (i + 1)) (nI_add _ _) ?_
  refine va_sld hx hb hX hbl hbA hS (vp_in_nI (by omega) (by omega)) dL_law_333 ?_
  refine htopi (v := xs (i + 1)) (by rw [nI_clamp (by omega)]) ?_
  refine hf_i E hDa hPb hap hS (va_runV (As := [.int (xs (i + 1))]) (rest := []) ⟨hx, hb, hml, hown, hts⟩ (c_X0_use l D K tv wa ax S cnt np o L Sp hcs (xs (i + 1)) H.size) (cwV 1 hts (hGV hmc k_435 k_436 k_437 k_20 k_438) rfl rfl rfl (by decide +kernel) ⟨Nat.le_of_ble_eq_true rfl, Nat.le_of_ble_eq_true rfl⟩) (hpreV E hPa hDa hS ha0 rfl) rfl rfl hl.1 rfl (lv_room (Nat.le_of_ble_eq_true rfl)) dL_law_334 ⟨hroomC, hroomS⟩) (fun r1 wa1 H locs h1 hPa hDa hPb hap hS => ?_)
  refine lv_pop hx hb dL_law_337 rfl ?_
  refine lv_aload_n hx hb dL_law_338 rfl (lv_at hl 1 rfl) ?_
  refine lv_aload_n hx hb dL_law_339 rfl (lv_at hl 3 rfl) ?_
  refine lv_iload_n hx hb dL_law_340 rfl (lv_at hl 0 rfl) ?_
  refine lv_iconst (v := nI 1) hx hb dL_law_341 (by decide +kernel) ?_
  refine lv_iadd hx hb dL_law_342 ?_
  refine htopi (v := nI (i + 1)) (nI_add _ _) ?_
  refine va_sld hx hb hX hbl hbA hS (vp_in_nI (by omega) (by omega)) dL_law_343 ?_
  refine htopi (v := xs (i + 1)) (by rw [nI_clamp (by omega)]) ?_
  refine hf_i E hDb hPa hap.symm hS (va_runV (As := [.int (xs (i + 1))]) (rest := []) ⟨hx, hb, hml, hown, hts⟩ (c_X9_use l D K tv wb bx S cnt np o hms (xs (i + 1)) H.size) (cwV 1 hts (hGV hmc k_711 k_712 k_713 k_29 k_714) rfl rfl rfl (by decide +kernel) ⟨Nat.le_of_ble_eq_true rfl, Nat.le_of_ble_eq_true rfl⟩) (hpreV E hPb hDb hS hb0 rfl) rfl rfl hl.1 rfl (lv_room (Nat.le_of_ble_eq_true rfl)) dL_law_344 ⟨hroomC, hroomS⟩) (fun r2 wb1 H locs h2 hPb hDb hPa hap9 hS => ?_)
  obtain ⟨o1, q1, hcs1⟩ := h1
  obtain ⟨o2, q2, hms1⟩ := h2
  obtain ⟨hre, rfl⟩ := q1.det hrb.2.1 q2
  refine lv_pop hx hb dL_law_347 rfl ?_
  refine lv_goto (tgt := 446) hx hb dL_law_348 (by decide) ?_
  exact kk H locs ls _ _ wa1 wb1 S cnt np o1 L Sp ⟨hcs1, hms1, hPa, hDa, hPb, hDb, hap9.symm, hS⟩ hcell hslot hl

set_option maxHeartbeats 4000000 in
set_option maxRecDepth 100000 in
theorem hcase_9 (l : Launch) {p : Program} {e : Env} {s : State} {m : MethodId} {below : List Frame} {meth : Method} {c : Code} {b n9 : Nat} {xs : Nat → Int32} {D : va_G} {K : Nat → ClassId} {tv : Nat} {A : Nat → Prop} {H : Heap} {locs : List Loc} {cells slots : Nat} {ls : Array Slot} (ax bx : Nat → Nat) (i : Nat) (hi : i + 4 ≤ n9) (wa wb : va_W) (S : Nat → Nat → Nat → Prop) (cnt np : Nat) (o : List Nat) (L Sp : Nat) (hcell : cells ≤ 1000 + hQc L + hQc Sp) (hslot : slots ≤ 300000 + hQs L + hQs Sp) (C1 : hAtL (Jvm.Cond.initialized "JoinPlanner") p s m meth c b n9 xs D K tv A) (C2 : hTwo D K A s ax bx wa wb H locs S cnt np o L Sp) (hl : lv_has ls 4 [(3, .int (nI i)), (2, .ref (bx 0)), (1, .ref (ax 0)), (0, .ref b)]) (kk : hGo l p e s m below meth c b D K A ax bx i) : W p l e room_1 s m #[Value.ref b] below meth c H locs cells slots (lw_Z below #[Value.ref b] s) (F0 m 351 ls []) := by
  obtain ⟨hx, hb, hr, hml, hown, hts, E, hX, hbl, hbA, hlocks, hAs, hn9⟩ := id C1
  obtain ⟨hcs, hms, hPa, hDa, hPb, hDb, hap, hS⟩ := C2
  obtain ⟨F, g, I, dd, mm, ms, lc, rd, ob, fd, ln, tt, co, b9, ra, sa, sc, hcx, hcb⟩ := id hcs
  have ha0 := hcx.1
  obtain ⟨f, lz, kp, fd9, hrx, hrb⟩ := id hms
  have hb0 := hrx.1
  have hroomC : cells ≤ 600000 := by have := hQc_bd L; have := hQc_bd Sp; omega
  have hroomS : slots ≤ 7302249 := by have := hQs_bd L; have := hQs_bd Sp; omega
  refine lv_aload_n hx hb dL_law_351 rfl (lv_at hl 2 rfl) ?_
  refine hf_i E hDa hPb hap hS (va_runV (As := []) (rest := []) ⟨hx, hb, hml, hown, hts⟩ (c_X0_drop l D K tv wa ax S cnt np o L Sp hcs  H.size) (cwV 0 hts (hGV hmc k_441 k_442 k_443 k_20 k_444) rfl rfl rfl (by decide +kernel) ⟨Nat.le_of_ble_eq_true rfl, Nat.le_of_ble_eq_true rfl⟩) (hpreV E hPa hDa hS ha0 rfl) rfl rfl hl.1 rfl (lv_room (Nat.le_of_ble_eq_true rfl)) dL_law_352 ⟨hroomC, hroomS⟩) (fun r1 wa1 H locs h1 hPa hDa hPb hap hS => ?_)
  refine lv_pop hx hb dL_law_355 rfl ?_
  refine lv_aload_n hx hb dL_law_356 rfl (lv_at hl 1 rfl) ?_
  refine hf_i E hDb hPa hap.symm hS (va_runV (As := []) (rest := []) ⟨hx, hb, hml, hown, hts⟩ (c_X9_drop l D K tv wb bx S cnt np o hms  H.size) (cwV 0 hts (hGV hmc k_715 k_716 k_717 k_29 k_718) rfl rfl rfl (by decide +kernel) ⟨Nat.le_of_ble_eq_true rfl, Nat.le_of_ble_eq_true rfl⟩) (hpreV E hPb hDb hS hb0 rfl) rfl rfl hl.1 rfl (lv_room (Nat.le_of_ble_eq_true rfl)) dL_law_357 ⟨hroomC, hroomS⟩) (fun r2 wb1 H locs h2 hPb hDb hPa hap9 hS => ?_)
  obtain ⟨q1, hcs1⟩ := h1
  obtain ⟨q2, hms1⟩ := h2
  have hre := q1.trans q2.symm
  refine lv_pop hx hb dL_law_360 rfl ?_
  refine lv_goto (tgt := 446) hx hb dL_law_361 (by decide) ?_
  exact kk H locs ls _ _ wa1 wb1 S cnt np [] L Sp ⟨hcs1, hms1, hPa, hDa, hPb, hDb, hap9.symm, hS⟩ hcell hslot hl

set_option maxHeartbeats 4000000 in
set_option maxRecDepth 100000 in
theorem hcase_10 (l : Launch) {p : Program} {e : Env} {s : State} {m : MethodId} {below : List Frame} {meth : Method} {c : Code} {b n9 : Nat} {xs : Nat → Int32} {D : va_G} {K : Nat → ClassId} {tv : Nat} {A : Nat → Prop} {H : Heap} {locs : List Loc} {cells slots : Nat} {ls : Array Slot} (ax bx : Nat → Nat) (i : Nat) (hi : i + 4 ≤ n9) (wa wb : va_W) (S : Nat → Nat → Nat → Prop) (cnt np : Nat) (o : List Nat) (L Sp : Nat) (hcell : cells ≤ 1000 + hQc L + hQc Sp) (hslot : slots ≤ 300000 + hQs L + hQs Sp) (C1 : hAtL (Jvm.Cond.initialized "JoinPlanner") p s m meth c b n9 xs D K tv A) (C2 : hTwo D K A s ax bx wa wb H locs S cnt np o L Sp) (hl : lv_has ls 4 [(3, .int (nI i)), (2, .ref (bx 0)), (1, .ref (ax 0)), (0, .ref b)]) (kk : hGo l p e s m below meth c b D K A ax bx i) : W p l e room_1 s m #[Value.ref b] below meth c H locs cells slots (lw_Z below #[Value.ref b] s) (F0 m 364 ls []) := by
  obtain ⟨hx, hb, hr, hml, hown, hts, E, hX, hbl, hbA, hlocks, hAs, hn9⟩ := id C1
  obtain ⟨hcs, hms, hPa, hDa, hPb, hDb, hap, hS⟩ := C2
  obtain ⟨F, g, I, dd, mm, ms, lc, rd, ob, fd, ln, tt, co, b9, ra, sa, sc, hcx, hcb⟩ := id hcs
  have ha0 := hcx.1
  obtain ⟨f, lz, kp, fd9, hrx, hrb⟩ := id hms
  have hb0 := hrx.1
  have hroomC : cells ≤ 600000 := by have := hQc_bd L; have := hQc_bd Sp; omega
  have hroomS : slots ≤ 7302249 := by have := hQs_bd L; have := hQs_bd Sp; omega
  refine lv_aload_n hx hb dL_law_364 rfl (lv_at hl 2 rfl) ?_
  refine lv_aload_n hx hb dL_law_365 rfl (lv_at hl 3 rfl) ?_
  refine lv_iload_n hx hb dL_law_366 rfl (lv_at hl 0 rfl) ?_
  refine lv_iconst (v := nI 1) hx hb dL_law_367 (by decide +kernel) ?_
  refine lv_iadd hx hb dL_law_368 ?_
  refine htopi (v := nI (i + 1)) (nI_add _ _) ?_
  refine va_sld hx hb hX hbl hbA hS (vp_in_nI (by omega) (by omega)) dL_law_369 ?_
  refine htopi (v := xs (i + 1)) (by rw [nI_clamp (by omega)]) ?_
  refine hf_l E hDa hPb hap hS (va_runV (As := [.int (xs (i + 1))]) (rest := []) ⟨hx, hb, hml, hown, hts⟩ (c_X0_size l D K tv wa ax S cnt np o L Sp hcs (xs (i + 1)) H.size) (cwV 1 hts (hGV hmc k_445 k_446 k_447 k_20 k_448) rfl rfl rfl (by decide +kernel) ⟨Nat.le_of_ble_eq_true rfl, Nat.le_of_ble_eq_true rfl⟩) (hpreV E hPa hDa hS ha0 rfl) rfl rfl hl.1 rfl (lv_room (Nat.le_of_ble_eq_true rfl)) dL_law_370 ⟨hroomC, hroomS⟩) (fun r1 wa1 H locs h1 hPa hDa hPb hap hS => ?_)
  refine lv_pop2_2 hx hb dL_law_373 rfl ?_
  refine lv_aload_n hx hb dL_law_374 rfl (lv_at hl 1 rfl) ?_
  refine lv_aload_n hx hb dL_law_375 rfl (lv_at hl 3 rfl) ?_
  refine lv_iload_n hx hb dL_law_376 rfl (lv_at hl 0 rfl) ?_
  refine lv_iconst (v := nI 1) hx hb dL_law_377 (by decide +kernel) ?_
  refine lv_iadd hx hb dL_law_378 ?_
  refine htopi (v := nI (i + 1)) (nI_add _ _) ?_
  refine va_sld hx hb hX hbl hbA hS (vp_in_nI (by omega) (by omega)) dL_law_379 ?_
  refine htopi (v := xs (i + 1)) (by rw [nI_clamp (by omega)]) ?_
  refine hf_l E hDb hPa hap.symm hS (va_runV (As := [.int (xs (i + 1))]) (rest := []) ⟨hx, hb, hml, hown, hts⟩ (c_X9_size l D K tv wb bx S cnt np o hms (xs (i + 1)) H.size) (cwV 1 hts (hGV hmc k_719 k_720 k_721 k_29 k_722) rfl rfl rfl (by decide +kernel) ⟨Nat.le_of_ble_eq_true rfl, Nat.le_of_ble_eq_true rfl⟩) (hpreV E hPb hDb hS hb0 rfl) rfl rfl hl.1 rfl (lv_room (Nat.le_of_ble_eq_true rfl)) dL_law_380 ⟨hroomC, hroomS⟩) (fun r2 wb1 H locs h2 hPb hDb hPa hap9 hS => ?_)
  have hcs1 := h1
  have hms1 := h2
  refine lv_pop2_2 hx hb dL_law_383 rfl ?_
  refine lv_goto (tgt := 446) hx hb dL_law_384 (by decide) ?_
  exact kk H locs ls _ _ wa1 wb1 S cnt np o L Sp ⟨hcs1, hms1, hPa, hDa, hPb, hDb, hap9.symm, hS⟩ hcell hslot hl

set_option maxHeartbeats 4000000 in
set_option maxRecDepth 100000 in
theorem hcase_11 (l : Launch) {p : Program} {e : Env} {s : State} {m : MethodId} {below : List Frame} {meth : Method} {c : Code} {b n9 : Nat} {xs : Nat → Int32} {D : va_G} {K : Nat → ClassId} {tv : Nat} {A : Nat → Prop} {H : Heap} {locs : List Loc} {cells slots : Nat} {ls : Array Slot} (ax bx : Nat → Nat) (i : Nat) (hi : i + 4 ≤ n9) (wa wb : va_W) (S : Nat → Nat → Nat → Prop) (cnt np : Nat) (o : List Nat) (L Sp : Nat) (hcell : cells ≤ 1000 + hQc L + hQc Sp) (hslot : slots ≤ 300000 + hQs L + hQs Sp) (C1 : hAtL (Jvm.Cond.initialized "JoinPlanner") p s m meth c b n9 xs D K tv A) (C2 : hTwo D K A s ax bx wa wb H locs S cnt np o L Sp) (hl : lv_has ls 4 [(3, .int (nI i)), (2, .ref (bx 0)), (1, .ref (ax 0)), (0, .ref b)]) (kk : hGo l p e s m below meth c b D K A ax bx i) : W p l e room_1 s m #[Value.ref b] below meth c H locs cells slots (lw_Z below #[Value.ref b] s) (F0 m 387 ls []) := by
  obtain ⟨hx, hb, hr, hml, hown, hts, E, hX, hbl, hbA, hlocks, hAs, hn9⟩ := id C1
  obtain ⟨hcs, hms, hPa, hDa, hPb, hDb, hap, hS⟩ := C2
  obtain ⟨F, g, I, dd, mm, ms, lc, rd, ob, fd, ln, tt, co, b9, ra, sa, sc, hcx, hcb⟩ := id hcs
  have ha0 := hcx.1
  obtain ⟨f, lz, kp, fd9, hrx, hrb⟩ := id hms
  have hb0 := hrx.1
  have hroomC : cells ≤ 600000 := by have := hQc_bd L; have := hQc_bd Sp; omega
  have hroomS : slots ≤ 7302249 := by have := hQs_bd L; have := hQs_bd Sp; omega
  refine lv_aload_n hx hb dL_law_387 rfl (lv_at hl 2 rfl) ?_
  refine hf_i E hDa hPb hap hS (va_runV (As := []) (rest := []) ⟨hx, hb, hml, hown, hts⟩ (c_X0_rows l D K tv wa ax S cnt np o L Sp hcs  H.size) (cwV 0 hts (hGV hmc k_452 k_453 k_454 k_20 k_455) rfl rfl rfl (by decide +kernel) ⟨Nat.le_of_ble_eq_true rfl, Nat.le_of_ble_eq_true rfl⟩) (hpreV E hPa hDa hS ha0 rfl) rfl rfl hl.1 rfl (lv_room (Nat.le_of_ble_eq_true rfl)) dL_law_388 ⟨hroomC, hroomS⟩) (fun r1 wa1 H locs h1 hPa hDa hPb hap hS => ?_)
  refine lv_pop hx hb dL_law_391 rfl ?_
  refine lv_aload_n hx hb dL_law_392 rfl (lv_at hl 1 rfl) ?_
  refine hf_i E hDb hPa hap.symm hS (va_runV (As := []) (rest := []) ⟨hx, hb, hml, hown, hts⟩ (c_X9_rows l D K tv wb bx S cnt np o hms  H.size) (cwV 0 hts (hGV hmc k_723 k_724 k_725 k_29 k_726) rfl rfl rfl (by decide +kernel) ⟨Nat.le_of_ble_eq_true rfl, Nat.le_of_ble_eq_true rfl⟩) (hpreV E hPb hDb hS hb0 rfl) rfl rfl hl.1 rfl (lv_room (Nat.le_of_ble_eq_true rfl)) dL_law_393 ⟨hroomC, hroomS⟩) (fun r2 wb1 H locs h2 hPb hDb hPa hap9 hS => ?_)
  have hcs1 := h1
  have hms1 := h2
  refine lv_pop hx hb dL_law_396 rfl ?_
  refine lv_goto (tgt := 446) hx hb dL_law_397 (by decide) ?_
  exact kk H locs ls _ _ wa1 wb1 S cnt np o L Sp ⟨hcs1, hms1, hPa, hDa, hPb, hDb, hap9.symm, hS⟩ hcell hslot hl

set_option maxHeartbeats 4000000 in
set_option maxRecDepth 100000 in
theorem hcase_12 (l : Launch) {p : Program} {e : Env} {s : State} {m : MethodId} {below : List Frame} {meth : Method} {c : Code} {b n9 : Nat} {xs : Nat → Int32} {D : va_G} {K : Nat → ClassId} {tv : Nat} {A : Nat → Prop} {H : Heap} {locs : List Loc} {cells slots : Nat} {ls : Array Slot} (ax bx : Nat → Nat) (i : Nat) (hi : i + 4 ≤ n9) (wa wb : va_W) (S : Nat → Nat → Nat → Prop) (cnt np : Nat) (o : List Nat) (L Sp : Nat) (hcell : cells ≤ 1000 + hQc L + hQc Sp) (hslot : slots ≤ 300000 + hQs L + hQs Sp) (C1 : hAtL (Jvm.Cond.initialized "JoinPlanner") p s m meth c b n9 xs D K tv A) (C2 : hTwo D K A s ax bx wa wb H locs S cnt np o L Sp) (hl : lv_has ls 4 [(3, .int (nI i)), (2, .ref (bx 0)), (1, .ref (ax 0)), (0, .ref b)]) (kk : hGo l p e s m below meth c b D K A ax bx i) : W p l e room_1 s m #[Value.ref b] below meth c H locs cells slots (lw_Z below #[Value.ref b] s) (F0 m 400 ls []) := by
  obtain ⟨hx, hb, hr, hml, hown, hts, E, hX, hbl, hbA, hlocks, hAs, hn9⟩ := id C1
  obtain ⟨hcs, hms, hPa, hDa, hPb, hDb, hap, hS⟩ := C2
  obtain ⟨F, g, I, dd, mm, ms, lc, rd, ob, fd, ln, tt, co, b9, ra, sa, sc, hcx, hcb⟩ := id hcs
  have ha0 := hcx.1
  obtain ⟨f, lz, kp, fd9, hrx, hrb⟩ := id hms
  have hb0 := hrx.1
  obtain ⟨cc, ss, Ln, Sn, ⟨hLn, hSn, hSL9, hqc, hqs⟩, hsol⟩ := c_solutions l D K tv wa ax S cnt np o L Sp hcs
  have hroomC : cells + cc ≤ 600000 := by have := hQc_bd Ln; have := hQc_bd Sn; omega
  have hroomS : slots + ss ≤ 7302249 := by have := hQs_bd Ln; have := hQs_bd Sn; omega
  refine lv_aload_n hx hb dL_law_400 rfl (lv_at hl 2 rfl) ?_
  refine hf_i E hDa hPb hap hS (va_runV (As := []) (rest := []) ⟨hx, hb, hml, hown, hts⟩ (hsol H.size) (cwV 0 hts (hGV hmc k_527 k_528 k_529 k_20 k_530) rfl rfl rfl (by decide +kernel) ⟨Nat.le_of_ble_eq_true rfl, Nat.le_of_ble_eq_true rfl⟩) (hpreV E hPa hDa hS ha0 rfl) rfl rfl hl.1 rfl (lv_room (Nat.le_of_ble_eq_true rfl)) dL_law_401 ⟨hroomC, hroomS⟩) (fun r1 wa1 H locs h1 hPa hDa hPb hap hS => ?_)
  refine lv_pop hx hb dL_law_404 rfl ?_
  refine lv_aload_n hx hb dL_law_405 rfl (lv_at hl 1 rfl) ?_
  refine hf_i E hDb hPa hap.symm hS (va_runV (As := []) (rest := []) ⟨hx, hb, hml, hown, hts⟩ (c_X9_solutions l D K tv wb bx S cnt np o hms  H.size) (cwV 0 hts (hGV hmc k_743 k_744 k_745 k_29 k_746) rfl rfl rfl (by decide +kernel) ⟨Nat.le_of_ble_eq_true rfl, Nat.le_of_ble_eq_true rfl⟩) (hpreV E hPb hDb hS hb0 rfl) rfl rfl hl.1 rfl (lv_room (Nat.le_of_ble_eq_true rfl)) dL_law_406 ⟨hroomC, hroomS⟩) (fun r2 wb1 H locs h2 hPb hDb hPa hap9 hS => ?_)
  have hcs1 := h1
  have hms1 := h2
  refine lv_pop hx hb dL_law_409 rfl ?_
  refine lv_goto (tgt := 446) hx hb dL_law_410 (by decide) ?_
  exact kk H locs ls _ _ wa1 wb1 S cnt np o Ln Sn ⟨hcs1, hms1, hPa, hDa, hPb, hDb, hap9.symm, hS⟩ (by show cells + cc + 0 ≤ _; omega) (by show slots + ss + 0 ≤ _; omega) hl

set_option maxHeartbeats 4000000 in
set_option maxRecDepth 100000 in
theorem hcase_13 (l : Launch) {p : Program} {e : Env} {s : State} {m : MethodId} {below : List Frame} {meth : Method} {c : Code} {b n9 : Nat} {xs : Nat → Int32} {D : va_G} {K : Nat → ClassId} {tv : Nat} {A : Nat → Prop} {H : Heap} {locs : List Loc} {cells slots : Nat} {ls : Array Slot} (ax bx : Nat → Nat) (i : Nat) (hi : i + 4 ≤ n9) (wa wb : va_W) (S : Nat → Nat → Nat → Prop) (cnt np : Nat) (o : List Nat) (L Sp : Nat) (hcell : cells ≤ 1000 + hQc L + hQc Sp) (hslot : slots ≤ 300000 + hQs L + hQs Sp) (C1 : hAtL (Jvm.Cond.initialized "JoinPlanner") p s m meth c b n9 xs D K tv A) (C2 : hTwo D K A s ax bx wa wb H locs S cnt np o L Sp) (hl : lv_has ls 4 [(3, .int (nI i)), (2, .ref (bx 0)), (1, .ref (ax 0)), (0, .ref b)]) (kk : hGo l p e s m below meth c b D K A ax bx i) : W p l e room_1 s m #[Value.ref b] below meth c H locs cells slots (lw_Z below #[Value.ref b] s) (F0 m 413 ls []) := by
  obtain ⟨hx, hb, hr, hml, hown, hts, E, hX, hbl, hbA, hlocks, hAs, hn9⟩ := id C1
  obtain ⟨hcs, hms, hPa, hDa, hPb, hDb, hap, hS⟩ := C2
  obtain ⟨F, g, I, dd, mm, ms, lc, rd, ob, fd, ln, tt, co, b9, ra, sa, sc, hcx, hcb⟩ := id hcs
  have ha0 := hcx.1
  obtain ⟨f, lz, kp, fd9, hrx, hrb⟩ := id hms
  have hb0 := hrx.1
  have hroomC : cells ≤ 600000 := by have := hQc_bd L; have := hQc_bd Sp; omega
  have hroomS : slots ≤ 7302249 := by have := hQs_bd L; have := hQs_bd Sp; omega
  refine lv_aload_n hx hb dL_law_413 rfl (lv_at hl 2 rfl) ?_
  refine lv_aload_n hx hb dL_law_414 rfl (lv_at hl 3 rfl) ?_
  refine lv_iload_n hx hb dL_law_415 rfl (lv_at hl 0 rfl) ?_
  refine lv_iconst (v := nI 1) hx hb dL_law_416 (by decide +kernel) ?_
  refine lv_iadd hx hb dL_law_417 ?_
  refine htopi (v := nI (i + 1)) (nI_add _ _) ?_
  refine va_sld hx hb hX hbl hbA hS (vp_in_nI (by omega) (by omega)) dL_law_418 ?_
  refine htopi (v := xs (i + 1)) (by rw [nI_clamp (by omega)]) ?_
  refine lv_aload_n hx hb dL_law_419 rfl (lv_at hl 3 rfl) ?_
  refine lv_iload_n hx hb dL_law_420 rfl (lv_at hl 0 rfl) ?_
  refine lv_iconst (v := nI 2) hx hb dL_law_421 (by decide +kernel) ?_
  refine lv_iadd hx hb dL_law_422 ?_
  refine htopi (v := nI (i + 2)) (nI_add _ _) ?_
  refine va_sld hx hb hX hbl hbA hS (vp_in_nI (by omega) (by omega)) dL_law_423 ?_
  refine htopi (v := xs (i + 2)) (by rw [nI_clamp (by omega)]) ?_
  refine hf_i E hDa hPb hap hS (va_runV (As := [.int (xs (i + 1)), .int (xs (i + 2))]) (rest := []) ⟨hx, hb, hml, hown, hts⟩ (c_X0_value l D K tv wa ax S cnt np o L Sp hcs (xs (i + 1)) (xs (i + 2)) H.size) (cwV 2 hts (hGV hmc k_547 k_548 k_549 k_20 k_550) rfl rfl rfl (by decide +kernel) ⟨Nat.le_of_ble_eq_true rfl, Nat.le_of_ble_eq_true rfl⟩) (hpreV E hPa hDa hS ha0 rfl) rfl rfl hl.1 rfl (lv_room (Nat.le_of_ble_eq_true rfl)) dL_law_424 ⟨hroomC, hroomS⟩) (fun r1 wa1 H locs h1 hPa hDa hPb hap hS => ?_)
  refine lv_pop hx hb dL_law_427 rfl ?_
  refine lv_aload_n hx hb dL_law_428 rfl (lv_at hl 1 rfl) ?_
  refine lv_aload_n hx hb dL_law_429 rfl (lv_at hl 3 rfl) ?_
  refine lv_iload_n hx hb dL_law_430 rfl (lv_at hl 0 rfl) ?_
  refine lv_iconst (v := nI 1) hx hb dL_law_431 (by decide +kernel) ?_
  refine lv_iadd hx hb dL_law_432 ?_
  refine htopi (v := nI (i + 1)) (nI_add _ _) ?_
  refine va_sld hx hb hX hbl hbA hS (vp_in_nI (by omega) (by omega)) dL_law_433 ?_
  refine htopi (v := xs (i + 1)) (by rw [nI_clamp (by omega)]) ?_
  refine lv_aload_n hx hb dL_law_434 rfl (lv_at hl 3 rfl) ?_
  refine lv_iload_n hx hb dL_law_435 rfl (lv_at hl 0 rfl) ?_
  refine lv_iconst (v := nI 2) hx hb dL_law_436 (by decide +kernel) ?_
  refine lv_iadd hx hb dL_law_437 ?_
  refine htopi (v := nI (i + 2)) (nI_add _ _) ?_
  refine va_sld hx hb hX hbl hbA hS (vp_in_nI (by omega) (by omega)) dL_law_438 ?_
  refine htopi (v := xs (i + 2)) (by rw [nI_clamp (by omega)]) ?_
  refine hf_i E hDb hPa hap.symm hS (va_runV (As := [.int (xs (i + 1)), .int (xs (i + 2))]) (rest := []) ⟨hx, hb, hml, hown, hts⟩ (c_X9_value l D K tv wb bx S cnt np o hms (xs (i + 1)) (xs (i + 2)) H.size) (cwV 2 hts (hGV hmc k_751 k_752 k_753 k_29 k_754) rfl rfl rfl (by decide +kernel) ⟨Nat.le_of_ble_eq_true rfl, Nat.le_of_ble_eq_true rfl⟩) (hpreV E hPb hDb hS hb0 rfl) rfl rfl hl.1 rfl (lv_room (Nat.le_of_ble_eq_true rfl)) dL_law_439 ⟨hroomC, hroomS⟩) (fun r2 wb1 H locs h2 hPb hDb hPa hap9 hS => ?_)
  have hcs1 := h1
  have hms1 := h2
  refine lv_pop hx hb dL_law_442 rfl ?_
  refine lv_goto (tgt := 446) hx hb dL_law_443 (by decide) ?_
  exact kk H locs ls _ _ wa1 wb1 S cnt np o L Sp ⟨hcs1, hms1, hPa, hDa, hPb, hDb, hap9.symm, hS⟩ hcell hslot hl
