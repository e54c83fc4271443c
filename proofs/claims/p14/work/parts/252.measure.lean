set_option maxHeartbeats 4000000 in
set_option maxRecDepth 100000 in
/-- Pattern.measure -/
theorem c_X2_measure (l : Launch) (D : va_G) (K : Nat → ClassId) (tv : Nat) (ws : va_W) (ad : Nat → Nat) (n : Nat) (I dd : Nat → Nat) (mm : Nat) (hp0 : hPt K ad ws n I dd mm) (hn : 8 ≤ n) (F : Nat → Nat → Int32) (g : Nat → Nat → Nat) (cnt : Nat) (X : Nat → Nat → Prop) (ht : hTr K ad ws F cnt) (hw : hVw F g cnt X) : hV l D (hTy K) tv yX2_measure cX2_measure 8 none ({ frames := 4, cells := 0, slots := 0, locals := 240 }) [.ref (ad n), .ref (ad 1)] ws (fun ws1 => hAg n (n + 3) ws ws1 ∧ hPt K ad ws1 n I (hDd g cnt I) (hMm g cnt I)) := by
  intro sz
  refine Met.ofW (cc := cX2_measure) (maxL := 8) (ret := none) (by decide) rfl ?_
  intro p e s m args below meth c s₁ B hml hv0
  obtain ⟨rfl, rfl, E, hP, hD⟩ := hentry hv0
  have hx := B.exec
  have hb := B.bytes
  have hr := B.returns
  have hts := atoms_spec (ws := hC yX2_measure cX2_measure 8 none) B.pre
  have hown : s.vm.findClass RX2 = some m.cls := findClass_of_methodNamed B.named
  have hlocks := B.notSynchronized
  generalize hAe : va_A ws s.heap.size = A at hD E ⊢
  have hl := lv_entry ([.ref (ad n), .ref (ad 1)]) (n := 8) (Nat.le_of_ble_eq_true rfl)
  rw [lg_entry_eq]
  generalize (lg_sl ([.ref (ad n), .ref (ad 1)]) ++ List.replicate (8 - (lg_sl ([.ref (ad n), .ref (ad 1)])).length) Slot.unset).toArray = ls at hl ⊢
  have hl : lv_has ls 8 [(0, .ref (ad n)), (1, .ref (ad 1))] := hl
  refine hat0 (fun H hHe => ?_)
  have hP : va_P D vwCl ws H := by rw [hHe]; exact hP
  have hS : va_S A s.heap H [] := by rw [hHe]; exact va_S.rf
  obtain ⟨fi, fd, h1, h2, h3, hfi, hfd⟩ := id hp0
  have hT1 := ht.1
  refine lv_aload_n hx hb dX2_measure_0 rfl (lv_at hl 0 rfl) ?_
  refine lv_iconst (v := nI 0) hx hb dX2_measure_1 (by decide +kernel) ?_
  refine hc_i E hD hS (va_runV (As := [.int (nI 0)]) (rest := []) ⟨hx, hb, hml, hown, hts⟩ ((c_X2_fixedPlaces l D K tv ws ad n I dd mm hp0 (nI 0)) H.size) (cwV 1 hts (hGV hmc k_328 k_329 k_330 k_23 k_331) rfl rfl rfl (by decide +kernel) ⟨Nat.le_of_ble_eq_true rfl, Nat.le_of_ble_eq_true rfl⟩) (hpreV E hP hD hS h1 rfl) rfl rfl hl.1 rfl (lv_room (Nat.le_of_ble_eq_true rfl)) dX2_measure_2 ⟨(Nat.le_refl _), (Nat.le_refl _)⟩) (fun r2 ws1 H locs hp hP hD hS => ?_)
  obtain ⟨rfl, rfl⟩ := hp
  have h8 : hfx I (nI 0) 3 < 8 := hfx_lt I (nI 0) 3 (Nat.le_refl _)
  have hv := hview_lt _ h8
  have ho := hopen_le (hfx I (nI 0) 3)
  have hk := hnk_lt hv I 3 (Nat.le_refl _)
  refine lv_istore_n (lv' := [(2, .int (nI (hfx I (nI 0) 3))), (0, .ref (ad n)), (1, .ref (ad 1))]) hx hb dX2_measure_5 rfl hl (by decide) rfl (fun ls hl => ?_)
  refine va_getsN (v := .ref tv) hx hb E.2.1.1 hS hown (va_Nw.use rfl (E.1.2.1 _ k_339)) (fun _ h9 => h9) dX2_measure_6 ?_
  refine lv_iload_n hx hb dX2_measure_9 rfl (lv_at hl 0 rfl) ?_
  refine va_ti (v := .int (nI (hview (hfx I (nI 0) 3)))) hx hb E.2.1.2 hS (vp_in_nI h8 (by decide)) (by rw [nI_clamp (by omega)]; exact hVf_eq _ h8) dX2_measure_10 ?_
  refine lv_istore_n (lv' := [(3, .int (nI (hview (hfx I (nI 0) 3)))), (2, .int (nI (hfx I (nI 0) 3))), (0, .ref (ad n)), (1, .ref (ad 1))]) hx hb dX2_measure_11 rfl hl (by decide) rfl (fun ls hl => ?_)
  refine lv_aload_n hx hb dX2_measure_12 rfl (lv_at hl 2 rfl) ?_
  refine lv_iload_n hx hb dX2_measure_13 rfl (lv_at hl 0 rfl) ?_
  refine hc_i E hD hS (va_runV (As := [.int (nI (hview (hfx I (nI 0) 3)))]) (rest := []) ⟨hx, hb, hml, hown, hts⟩ ((c_X2_numberKey l D K tv ws ad n I dd mm hp0 (hview (hfx I (nI 0) 3)) hv) H.size) (cwV 1 hts (hGV hmc k_341 k_342 k_343 k_23 k_344) rfl rfl rfl (by decide +kernel) ⟨Nat.le_of_ble_eq_true rfl, Nat.le_of_ble_eq_true rfl⟩) (hpreV E hP hD hS h1 rfl) rfl rfl hl.1 rfl (lv_room (Nat.le_of_ble_eq_true rfl)) dX2_measure_14 ⟨(Nat.le_refl _), (Nat.le_refl _)⟩) (fun r4 ws3 H locs hp hP hD hS => ?_)
  obtain ⟨rfl, rfl⟩ := hp
  obtain ⟨hf, hs⟩ := hw.2 (hview (hfx I (nI 0) 3)) hv
  refine lv_istore (lv' := [(4, .int (nI (hnk (hview (hfx I (nI 0) 3)) I 3))), (3, .int (nI (hview (hfx I (nI 0) 3)))), (2, .int (nI (hfx I (nI 0) 3))), (0, .ref (ad n)), (1, .ref (ad 1))]) hx hb dX2_measure_17 hl (by decide) rfl (fun ls hl => ?_)
  refine lv_aload_n hx hb dX2_measure_19 rfl (lv_at hl 4 rfl) ?_
  refine lv_iload_n hx hb dX2_measure_20 rfl (lv_at hl 1 rfl) ?_
  refine lv_iload hx hb dX2_measure_21 (lv_at hl 0 rfl) ?_
  refine hc_i E hD hS (va_runV (As := [.int (nI (hview (hfx I (nI 0) 3))), .int (nI (hnk (hview (hfx I (nI 0) 3)) I 3))]) (rest := []) ⟨hx, hb, hml, hown, hts⟩ ((c_X1_firstIn l D K tv ws ad F cnt ht (hview (hfx I (nI 0) 3)) (hnk (hview (hfx I (nI 0) 3)) I 3) (g (hview (hfx I (nI 0) 3))) (X (hview (hfx I (nI 0) 3))) hw.1 hf hs hv (by omega)) H.size) (cwV 2 hts (hGV hmc k_346 k_256 k_257 k_21 k_258) rfl rfl rfl (by decide +kernel) ⟨Nat.le_of_ble_eq_true rfl, Nat.le_of_ble_eq_true rfl⟩) (hpreV E hP hD hS hT1 rfl) rfl rfl hl.1 rfl (lv_room (Nat.le_of_ble_eq_true rfl)) dX2_measure_23 ⟨(Nat.le_refl _), (Nat.le_refl _)⟩) (fun r6 ws5 H locs hp hP hD hS => ?_)
  obtain ⟨rfl, rfl⟩ := hp
  refine lv_istore (lv' := [(5, .int (nI (hlbf (g (hview (hfx I (nI 0) 3))) cnt (hnk (hview (hfx I (nI 0) 3)) I 3)))), (4, .int (nI (hnk (hview (hfx I (nI 0) 3)) I 3))), (3, .int (nI (hview (hfx I (nI 0) 3)))), (2, .int (nI (hfx I (nI 0) 3))), (0, .ref (ad n)), (1, .ref (ad 1))]) hx hb dX2_measure_26 hl (by decide) rfl (fun ls hl => ?_)
  refine lv_aload_n hx hb dX2_measure_28 rfl (lv_at hl 5 rfl) ?_
  refine lv_iload_n hx hb dX2_measure_29 rfl (lv_at hl 2 rfl) ?_
  refine lv_iload hx hb dX2_measure_30 (lv_at hl 1 rfl) ?_
  refine lv_iconst (v := nI 1) hx hb dX2_measure_32 (by decide +kernel) ?_
  refine lv_iload_n hx hb dX2_measure_33 rfl (lv_at hl 3 rfl) ?_
  refine hc_si (va_runSN (As := [.int (nI (hfx I (nI 0) 3))]) (rest := [.int (nI 1), .int (nI (hnk (hview (hfx I (nI 0) 3)) I 3)), .int (nI (hview (hfx I (nI 0) 3))), .ref (ad 1)]) ⟨hx, hb, hml, hown, hts⟩ (c_X0_openBits l (hfx I (nI 0) 3) h8) ⟨va_cnB 1 hts (hGc hmc k_349) rfl rfl rfl (E.1.2.1 _ k_347) (hts _ (hmc _ k_20)) (by decide +kernel) ⟨Nat.le_of_ble_eq_true rfl, Nat.le_of_ble_eq_true rfl⟩, (hts _ (hmc _ k_348)), trivial⟩ hpre0 rfl rfl hl.1 rfl (lv_room (Nat.le_of_ble_eq_true rfl)) dX2_measure_34 ⟨(Nat.le_refl _), (Nat.le_refl _)⟩) (fun r7 hp => ?_)
  subst hp
  have hpw : 1 * 2 ^ (hopen (hfx I (nI 0) 3)) ≤ 2 ^ 18 := by rw [Nat.one_mul]; exact Nat.pow_le_pow_right (by decide) ho
  have hpw2 : 2 ^ (hopen (hfx I (nI 0) 3)) ≤ 2 ^ 18 := by rw [← Nat.one_mul (2 ^ _)]; exact hpw
  refine lv_ishl hx hb dX2_measure_37 ?_
  refine htopi (v := nI (1 * 2 ^ (hopen (hfx I (nI 0) 3)))) (hshl (by omega) (by omega)) ?_
  refine lv_iadd hx hb dX2_measure_38 ?_
  refine htopi (v := nI ((hnk (hview (hfx I (nI 0) 3)) I 3) + 2 ^ (hopen (hfx I (nI 0) 3)))) (by rw [nI_add, Nat.one_mul]) ?_
  refine hc_i E hD hS (va_runV (As := [.int (nI (hview (hfx I (nI 0) 3))), .int (nI ((hnk (hview (hfx I (nI 0) 3)) I 3) + 2 ^ (hopen (hfx I (nI 0) 3))))]) (rest := []) ⟨hx, hb, hml, hown, hts⟩ ((c_X1_firstIn l D K tv ws ad F cnt ht (hview (hfx I (nI 0) 3)) ((hnk (hview (hfx I (nI 0) 3)) I 3) + 2 ^ (hopen (hfx I (nI 0) 3))) (g (hview (hfx I (nI 0) 3))) (X (hview (hfx I (nI 0) 3))) hw.1 hf hs hv (by omega)) H.size) (cwV 2 hts (hGV hmc k_346 k_256 k_257 k_21 k_258) rfl rfl rfl (by decide +kernel) ⟨Nat.le_of_ble_eq_true rfl, Nat.le_of_ble_eq_true rfl⟩) (hpreV E hP hD hS hT1 rfl) rfl rfl hl.1 rfl (lv_room (Nat.le_of_ble_eq_true rfl)) dX2_measure_39 ⟨(Nat.le_refl _), (Nat.le_refl _)⟩) (fun r9 ws8 H locs hp hP hD hS => ?_)
  obtain ⟨rfl, rfl⟩ := hp
  have hle : hlbf (g (hview (hfx I (nI 0) 3))) cnt (hnk (hview (hfx I (nI 0) 3)) I 3) ≤ hlbf (g (hview (hfx I (nI 0) 3))) cnt ((hnk (hview (hfx I (nI 0) 3)) I 3) + 2 ^ (hopen (hfx I (nI 0) 3))) := (hs.lb _).mono (hs.lb _) (by omega)
  have hhi : hlbf (g (hview (hfx I (nI 0) 3))) cnt ((hnk (hview (hfx I (nI 0) 3)) I 3) + 2 ^ (hopen (hfx I (nI 0) 3))) ≤ cnt := (hs.lb _).1
  have h640 := hw.1
  refine lv_istore (lv' := [(6, .int (nI (hlbf (g (hview (hfx I (nI 0) 3))) cnt ((hnk (hview (hfx I (nI 0) 3)) I 3) + 2 ^ (hopen (hfx I (nI 0) 3)))))), (5, .int (nI (hlbf (g (hview (hfx I (nI 0) 3))) cnt (hnk (hview (hfx I (nI 0) 3)) I 3)))), (4, .int (nI (hnk (hview (hfx I (nI 0) 3)) I 3))), (3, .int (nI (hview (hfx I (nI 0) 3)))), (2, .int (nI (hfx I (nI 0) 3))), (0, .ref (ad n)), (1, .ref (ad 1))]) hx hb dX2_measure_42 hl (by decide) rfl (fun ls hl => ?_)
  refine lv_aload_n hx hb dX2_measure_44 rfl (lv_at hl 5 rfl) ?_
  refine lv_iload hx hb dX2_measure_45 (lv_at hl 0 rfl) ?_
  refine lv_iload hx hb dX2_measure_47 (lv_at hl 1 rfl) ?_
  refine lv_isub hx hb dX2_measure_49 ?_
  refine htopi (v := nI (hlbf (g (hview (hfx I (nI 0) 3))) cnt ((hnk (hview (hfx I (nI 0) 3)) I 3) + 2 ^ (hopen (hfx I (nI 0) 3))) - hlbf (g (hview (hfx I (nI 0) 3))) cnt (hnk (hview (hfx I (nI 0) 3)) I 3))) (pk_sub hle) ?_
  refine va_put (v := .int (nI (hlbf (g (hview (hfx I (nI 0) 3))) cnt ((hnk (hview (hfx I (nI 0) 3)) I 3) + 2 ^ (hopen (hfx I (nI 0) 3))) - hlbf (g (hview (hfx I (nI 0) 3))) cnt (hnk (hview (hfx I (nI 0) 3)) I 3)))) (ty := .int) (C := RX2) (T := TX2) (N := 3) hx hb hts (hin_X2 hmc) tyX2 tyX2_ok nmX2 hown E.1.1 hP hD hS n h1 rfl 2 (by decide) (hts _ (hmc _ k_78)) (fun _ h9 => h9) rfl (by decide +kernel) rfl rfl (Nat.le_of_ble_eq_true rfl) dX2_measure_50 (fun H locs hP hD hS => ?_)
  obtain ⟨ws10, ews10⟩ : ∃ zw : va_W, zw = List.set ws n ((ad n), .inr (iP, [.ref (ad (n + 1)), .ref (ad (n + 2)), .int (nI (hlbf (g (hview (hfx I (nI 0) 3))) cnt ((hnk (hview (hfx I (nI 0) 3)) I 3) + 2 ^ (hopen (hfx I (nI 0) 3))) - hlbf (g (hview (hfx I (nI 0) 3))) cnt (hnk (hview (hfx I (nI 0) 3)) I 3)))])) := ⟨_, rfl⟩
  have hP : va_P D vwCl ws10 H := by rw [ews10]; exact hP
  have hD : va_D A ws10 := by rw [ews10]; exact hD
  have h1 : ws10[n]? = some ((ad n), .inr (iP, [.ref (ad (n + 1)), .ref (ad (n + 2)), .int (nI (hlbf (g (hview (hfx I (nI 0) 3))) cnt ((hnk (hview (hfx I (nI 0) 3)) I 3) + 2 ^ (hopen (hfx I (nI 0) 3))) - hlbf (g (hview (hfx I (nI 0) 3))) cnt (hnk (hview (hfx I (nI 0) 3)) I 3)))])) := by rw [ews10]; exact hset_eq h1
  have h2 := (show ws10[(n + 1)]? = _ from (by rw [ews10]; exact hset_ne (by omega))).trans h2
  have h3 := (show ws10[(n + 2)]? = _ from (by rw [ews10]; exact hset_ne (by omega))).trans h3
  have hT1 := (show ws10[1]? = _ from (by rw [ews10]; exact hset_ne (by omega))).trans hT1
  have hg1 : hAg n (n + 3) ws ws10 := by rw [ews10]; exact hAg.rf.set (by omega) (by omega)
  refine lv_iconst (v := nI 0) hx hb dX2_measure_53 (by decide +kernel) ?_
  refine lv_istore (lv' := [(7, .int (nI 0)), (6, .int (nI (hlbf (g (hview (hfx I (nI 0) 3))) cnt ((hnk (hview (hfx I (nI 0) 3)) I 3) + 2 ^ (hopen (hfx I (nI 0) 3)))))), (5, .int (nI (hlbf (g (hview (hfx I (nI 0) 3))) cnt (hnk (hview (hfx I (nI 0) 3)) I 3)))), (4, .int (nI (hnk (hview (hfx I (nI 0) 3)) I 3))), (3, .int (nI (hview (hfx I (nI 0) 3)))), (2, .int (nI (hfx I (nI 0) 3))), (0, .ref (ad n)), (1, .ref (ad 1))]) hx hb dX2_measure_54 hl (by decide) rfl (fun ls hl => ?_)
  refine hloopW (α := Nat) 56 8 (fun j => [(7, .int (nI j)), (0, .ref (ad n)), (1, .ref (ad 1)), (3, .int (nI (hview (hfx I (nI 0) 3)))), (5, .int (nI (hlbf (g (hview (hfx I (nI 0) 3))) cnt (hnk (hview (hfx I (nI 0) 3)) I 3)))), (6, .int (nI (hlbf (g (hview (hfx I (nI 0) 3))) cnt ((hnk (hview (hfx I (nI 0) 3)) I 3) + 2 ^ (hopen (hfx I (nI 0) 3))))))]) (fun j w1 => j ≤ 3 ∧ hAg n (n + 3) ws w1 ∧ ∃ fd1 : Nat → Int32, w1[n]? = some (ad n, .inr (iP, [.ref (ad (n + 1)), .ref (ad (n + 2)), .int (nI (hMm g cnt I))])) ∧ w1[n + 1]? = some (ad (n + 1), .inl (K 0, 3, .inl fi)) ∧ w1[n + 2]? = some (ad (n + 2), .inl (K 0, 3, .inl fd1)) ∧ ∀ q, q < j → fd1 q = nI (hDd g cnt I q)) (fun j => 3 - j) (fun _ => 0) (fun _ => 0) ?_ 0 ⟨by decide, hg1, fd, h1, h2, h3, fun q hq => absurd hq (Nat.not_lt_zero _)⟩ hP hD hS (lv_sub hl [0, 6, 7, 4, 2, 1] rfl)
  intro j w1 H locs ls hI1 hP hD hS hl ih
  obtain ⟨hj, hag, fd1, h1, h2, h3, hdone⟩ := hI1
  have hl : lv_has ls 8 [(7, .int (nI j)), (0, .ref (ad n)), (1, .ref (ad 1)), (3, .int (nI (hview (hfx I (nI 0) 3)))), (5, .int (nI (hlbf (g (hview (hfx I (nI 0) 3))) cnt (hnk (hview (hfx I (nI 0) 3)) I 3)))), (6, .int (nI (hlbf (g (hview (hfx I (nI 0) 3))) cnt ((hnk (hview (hfx I (nI 0) 3)) I 3) + 2 ^ (hopen (hfx I (nI 0) 3))))))] := hl
  have ht1 := ht.ag hag (by omega)
  have hT1 := ht1.1
  refine lv_iload hx hb dX2_measure_56 (lv_at hl 0 rfl) ?_
  refine lv_iconst (v := nI 3) hx hb dX2_measure_58 (by decide +kernel) ?_
  refine lv_icmp_ge (tgt := 86) hx hb dX2_measure_59 (by decide) (fun c1 => ?_) (fun c1 => ?_)
  · have hj3 : j = 3 := by
      rcases Nat.lt_or_ge j 3 with z | z
      · exact absurd c1 (nI_ge z (by decide))
      · omega
    subst hj3
    subst hAe
    exact W.vret hx hb hr (fun t ht _ => ⟨⟨w1, rfl, ⟨hag, fi, fd1, h1, h2, h3, hfi, hdone⟩, by rw [ht]; exact hP, hD⟩, hS.F ht⟩) hS.2.2 dX2_measure_86
  · have hj3 : j < 3 := Nat.not_le.mp (fun z => c1 (nI_le z (by omega)))
    refine lv_aload_n hx hb dX2_measure_62 rfl (lv_at hl 1 rfl) ?_
    refine va_get (v := .ref (ad (n + 2))) (C := RX2) (T := TX2) (N := 3) hx hb hts (hin_X2 hmc) hown E.1.1 hP n h1 rfl 1 (by decide) (hts _ (hmc _ k_77)) (fun _ h9 => h9) rfl dX2_measure_63 ?_
    refine lv_iload hx hb dX2_measure_66 (lv_at hl 0 rfl) ?_
    refine lv_aload_n hx hb dX2_measure_68 rfl (lv_at hl 2 rfl) ?_
    refine lv_iload_n hx hb dX2_measure_69 rfl (lv_at hl 3 rfl) ?_
    refine lv_iload hx hb dX2_measure_70 (lv_at hl 0 rfl) ?_
    refine lv_iload hx hb dX2_measure_72 (lv_at hl 4 rfl) ?_
    refine lv_iload hx hb dX2_measure_74 (lv_at hl 5 rfl) ?_
    refine hc_i E hD hS (va_runV (As := [.int (nI (hview (hfx I (nI 0) 3))), .int (nI j), .int (nI (hlbf (g (hview (hfx I (nI 0) 3))) cnt (hnk (hview (hfx I (nI 0) 3)) I 3))), .int (nI (hlbf (g (hview (hfx I (nI 0) 3))) cnt ((hnk (hview (hfx I (nI 0) 3)) I 3) + 2 ^ (hopen (hfx I (nI 0) 3)))))]) (rest := [.int (nI j), .ref (ad (n + 2))]) ⟨hx, hb, hml, hown, hts⟩ ((c_X1_countDifferent l D K tv w1 ad F cnt ht1 (hview (hfx I (nI 0) 3)) j (g (hview (hfx I (nI 0) 3))) h640 hf hv hj3 (hlbf (g (hview (hfx I (nI 0) 3))) cnt (hnk (hview (hfx I (nI 0) 3)) I 3)) (hlbf (g (hview (hfx I (nI 0) 3))) cnt ((hnk (hview (hfx I (nI 0) 3)) I 3) + 2 ^ (hopen (hfx I (nI 0) 3)))) hhi hle) H.size) (cwV 4 hts (hGV hmc k_356 k_357 k_358 k_21 k_359) rfl rfl rfl (by decide +kernel) ⟨Nat.le_of_ble_eq_true rfl, Nat.le_of_ble_eq_true rfl⟩) (hpreV E hP hD hS hT1 rfl) rfl rfl hl.1 rfl (lv_room (Nat.le_of_ble_eq_true rfl)) dX2_measure_76 ⟨(Nat.le_refl _), (Nat.le_refl _)⟩) (fun r12 ws11 H locs hp hP hD hS => ?_)
    obtain ⟨rfl, rfl⟩ := hp
    refine va_iast hx hb E.1.1 hP hD hS (n + 2) 0 h3 rfl (vp_in_nI (by omega) (by omega)) dX2_measure_79 (fun H locs hP hD hS => ?_)
    rw [nI_clamp (show j < 2 ^ 31 by omega)] at hP hD
    obtain ⟨ws13, ews13⟩ : ∃ zw : va_W, zw = List.set w1 (n + 2) ((ad (n + 2)), .inl (K 0, 3, .inl (upd fd1 j (nI (hDd g cnt I j))))) := ⟨_, rfl⟩
    have hP : va_P D vwCl ws13 H := by rw [ews13]; exact hP
    have hD : va_D A ws13 := by rw [ews13]; exact hD
    have h1 := (show ws13[n]? = _ from (by rw [ews13]; exact hset_ne (by omega))).trans h1
    have h2 := (show ws13[(n + 1)]? = _ from (by rw [ews13]; exact hset_ne (by omega))).trans h2
    have h3 : ws13[(n + 2)]? = some ((ad (n + 2)), .inl (K 0, 3, .inl (upd fd1 j (nI (hDd g cnt I j))))) := by rw [ews13]; exact hset_eq h3
    have hT1 := (show ws13[1]? = _ from (by rw [ews13]; exact hset_ne (by omega))).trans hT1
    refine lv_iinc (v := nI (j + 1)) (lv' := [(7, .int (nI (j + 1))), (0, .ref (ad n)), (1, .ref (ad 1)), (3, .int (nI (hview (hfx I (nI 0) 3)))), (5, .int (nI (hlbf (g (hview (hfx I (nI 0) 3))) cnt (hnk (hview (hfx I (nI 0) 3)) I 3)))), (6, .int (nI (hlbf (g (hview (hfx I (nI 0) 3))) cnt ((hnk (hview (hfx I (nI 0) 3)) I 3) + 2 ^ (hopen (hfx I (nI 0) 3))))))]) hx hb dX2_measure_80 hl (k := 0) rfl (nI_1 _) (by decide) rfl (fun ls hl => ?_)
    refine lv_goto (tgt := 56) hx hb dX2_measure_83 (by decide) ?_
    refine ih (j + 1) _ H locs ls ⟨by omega, by rw [ews13]; exact hag.set (by omega) (by omega), _, h1, h2, h3, fun q hq => ?_⟩ (by omega) hP hD hS (lv_sub hl [0, 1, 2, 3, 4, 5] rfl)
    by_cases z : q = j
    · subst z; rw [pk_us]
    · rw [pk_un z]; exact hdone q (by omega)

set_option maxHeartbeats 4000000 in
set_option maxRecDepth 100000 in
/-- PatternList.measure -/
theorem c_X3_measure (l : Launch) (D : va_G) (K : Nat → ClassId) (tv : Nat) (ws : va_W) (ad : Nat → Nat) (np ms : Nat) (hl0 : hPl K ad ws np ms) (hnp : np ≤ 6) (hms : ms = 0 ∨ ms = 1) (I dd : Nat → Nat → Nat) (mm : Nat → Nat) (hps : hPs K ad ws I dd mm) (F : Nat → Nat → Int32) (g : Nat → Nat → Nat) (cnt : Nat) (X : Nat → Nat → Prop) (ht : hTr K ad ws F cnt) (hw : hVw F g cnt X) : hV l D (hTy K) tv yX3_measure cX3_measure 3 none ({ frames := 5, cells := 0, slots := 0, locals := 300 }) [.ref (ad 6), .ref (ad 1)] ws (fun ws1 => hAg 6 26 ws ws1 ∧ hPl K ad ws1 np 1 ∧ hPs K ad ws1 I (fun i => if i < np ∧ ms = 0 then hDd g cnt (I i) else dd i) (fun i => if i < np ∧ ms = 0 then hMm g cnt (I i) else mm i)) := by
  intro sz
  refine Met.ofW (cc := cX3_measure) (maxL := 3) (ret := none) (by decide) rfl ?_
  intro p e s m args below meth c s₁ B hml hv0
  obtain ⟨rfl, rfl, E, hP, hD⟩ := hentry hv0
  have hx := B.exec
  have hb := B.bytes
  have hr := B.returns
  have hts := atoms_spec (ws := hC yX3_measure cX3_measure 3 none) B.pre
  have hown : s.vm.findClass RX3 = some m.cls := findClass_of_methodNamed B.named
  have hlocks := B.notSynchronized
  generalize hAe : va_A ws s.heap.size = A at hD E ⊢
  have hl := lv_entry ([.ref (ad 6), .ref (ad 1)]) (n := 3) (Nat.le_of_ble_eq_true rfl)
  rw [lg_entry_eq]
  generalize (lg_sl ([.ref (ad 6), .ref (ad 1)]) ++ List.replicate (3 - (lg_sl ([.ref (ad 6), .ref (ad 1)])).length) Slot.unset).toArray = ls at hl ⊢
  have hl : lv_has ls 3 [(0, .ref (ad 6)), (1, .ref (ad 1))] := hl
  refine hat0 (fun H hHe => ?_)
  have hP : va_P D vwCl ws H := by rw [hHe]; exact hP
  have hS : va_S A s.heap H [] := by rw [hHe]; exact va_S.rf
  obtain ⟨h6, fq, h7, hfq⟩ := id hl0
  refine lv_aload_n hx hb dX3_measure_0 rfl (lv_at hl 0 rfl) ?_
  refine va_get (v := .int (nI ms)) (C := RX3) (T := TX3) (N := 3) hx hb hts (hin_X3 hmc) hown E.1.1 hP 6 h6 rfl 2 (by decide) (hts _ (hmc _ k_90)) (fun _ h9 => h9) rfl dX3_measure_1 ?_
  refine lv_if_eq (tgt := 8) hx hb dX3_measure_4 (by decide) (fun c1 => ?_) (fun c1 => ?_)
  · have hm0 : ms = 0 := by
      rcases hms with z | z
      · exact z
      · rw [z] at c1; exact absurd c1 (by decide +kernel)
    subst hm0
    refine lv_iconst (v := nI 0) hx hb dX3_measure_8 (by decide +kernel) ?_
    refine lv_istore_n (lv' := [(2, .int (nI 0)), (0, .ref (ad 6)), (1, .ref (ad 1))]) hx hb dX3_measure_9 rfl hl (by decide) rfl (fun ls hl => ?_)
    refine hloopW (α := Nat) 10 3 (fun j => [(2, .int (nI j)), (0, .ref (ad 6)), (1, .ref (ad 1))]) (fun j w1 => j ≤ np ∧ hAg 6 26 ws w1 ∧ hPl K ad w1 np 0 ∧ hPs K ad w1 I (fun i => if i < j then hDd g cnt (I i) else dd i) (fun i => if i < j then hMm g cnt (I i) else mm i)) (fun j => np - j) (fun _ => 0) (fun _ => 0) ?_ 0 ⟨Nat.zero_le _, hAg.rf, hl0, fun i hi => by dsimp only; rw [if_neg (Nat.not_lt_zero _), if_neg (Nat.not_lt_zero _)]; exact hps i hi⟩ hP hD hS (lv_sub hl [0, 1, 2] rfl)
    intro j w1 H locs ls hI1 hP hD hS hl ih
    obtain ⟨hj, hag, hl1, hps1⟩ := hI1
    obtain ⟨h6, fq, h7, hfq⟩ := id hl1
    have hl : lv_has ls 3 [(2, .int (nI j)), (0, .ref (ad 6)), (1, .ref (ad 1))] := hl
    refine lv_iload_n hx hb dX3_measure_10 rfl (lv_at hl 0 rfl) ?_
    refine lv_aload_n hx hb dX3_measure_11 rfl (lv_at hl 1 rfl) ?_
    refine va_get (v := .int (nI np)) (C := RX3) (T := TX3) (N := 3) hx hb hts (hin_X3 hmc) hown E.1.1 hP 6 h6 rfl 1 (by decide) (hts _ (hmc _ k_87)) (fun _ h9 => h9) rfl dX3_measure_12 ?_
    refine lv_icmp_ge (tgt := 34) hx hb dX3_measure_15 (by decide) (fun c2 => ?_) (fun c2 => ?_)
    · have hj3 : j = np := by
        rcases Nat.lt_or_ge j np with z | z
        · exact absurd c2 (nI_ge z (by omega))
        · omega
      subst hj3
      refine lv_aload_n hx hb dX3_measure_34 rfl (lv_at hl 1 rfl) ?_
      refine lv_iconst (v := nI 1) hx hb dX3_measure_35 (by decide +kernel) ?_
      refine va_put (v := .int (nI 1)) (ty := .boolean) (C := RX3) (T := TX3) (N := 3) hx hb hts (hin_X3 hmc) tyX3 tyX3_ok nmX3 hown E.1.1 hP hD hS 6 h6 rfl 2 (by decide) (hts _ (hmc _ k_90)) (fun _ h9 => h9) rfl (by decide +kernel) rfl rfl (Nat.le_of_ble_eq_true rfl) dX3_measure_36 (fun H locs hP hD hS => ?_)
      obtain ⟨ws1, ews1⟩ : ∃ zw : va_W, zw = List.set w1 6 ((ad 6), .inr (iL, [.ref (ad 7), .int (nI j), .int (nI 1)])) := ⟨_, rfl⟩
      have hP : va_P D vwCl ws1 H := by rw [ews1]; exact hP
      have hD : va_D A ws1 := by rw [ews1]; exact hD
      have h6 : ws1[6]? = some ((ad 6), .inr (iL, [.ref (ad 7), .int (nI j), .int (nI 1)])) := by rw [ews1]; exact hset_eq h6
      have h7 := (show ws1[7]? = _ from (by rw [ews1]; exact hset_ne (by omega))).trans h7
      have hg2 : hAg 6 7 w1 ws1 := by rw [ews1]; exact hAg.rf.set (by decide) (by decide)
      subst hAe
      exact W.vret hx hb hr (fun t ht _ => ⟨⟨ws1, rfl, ⟨hag.tr (hg2.wide (by decide) (by decide)), ⟨h6, fq, h7, hfq⟩, fun i hi => by
          have q := (hps1 i hi).ag hg2 (by omega)
          dsimp only at q ⊢
          by_cases z : i < j
          · rw [if_pos z, if_pos z] at q; rw [if_pos ⟨z, rfl⟩, if_pos ⟨z, rfl⟩]; exact q
          · rw [if_neg z, if_neg z] at q; rw [if_neg (fun y => z y.1), if_neg (fun y => z y.1)]; exact q⟩, by rw [ht]; exact hP, hD⟩, hS.F ht⟩) hS.2.2 dX3_measure_39
    · have hj3 : j < np := Nat.not_le.mp (fun z => c2 (nI_le z (by omega)))
      obtain ⟨fi, fd, hq1, -⟩ := id (hps1 j (by omega))
      refine lv_aload_n hx hb dX3_measure_18 rfl (lv_at hl 1 rfl) ?_
      refine va_get (v := .ref (ad 7)) (C := RX3) (T := TX3) (N := 3) hx hb hts (hin_X3 hmc) hown E.1.1 hP 6 h6 rfl 0 (by decide) (hts _ (hmc _ k_86)) (fun _ h9 => h9) rfl dX3_measure_19 ?_
      refine lv_iload_n hx hb dX3_measure_22 rfl (lv_at hl 0 rfl) ?_
      refine va_aldq hx hb E.1.1 hP 7 3 h7 rfl (vp_in_nI (by omega) (by omega)) dX3_measure_23 ?_
      refine htopq (v := (ad (8 + 3 * j))) (by rw [nI_clamp (by omega)]; exact hfq j (by omega)) ?_
      refine lv_aload_n hx hb dX3_measure_24 rfl (lv_at hl 2 rfl) ?_
      refine hc_v E hD hS (va_runV (As := [.ref (ad 1)]) (rest := []) ⟨hx, hb, hml, hown, hts⟩ ((c_X2_measure l D K tv w1 ad (8 + 3 * j) (I j) _ _ (hps1 j (by omega)) (by omega) F g cnt X (ht.ag hag (by omega)) hw) H.size) (cwV 1 hts (hGV hmc k_324 k_325 k_326 k_23 k_327) rfl rfl rfl (by decide +kernel) ⟨Nat.le_of_ble_eq_true rfl, Nat.le_of_ble_eq_true rfl⟩) (hpreV E hP hD hS hq1 rfl) rfl rfl hl.1 rfl (lv_room (Nat.le_of_ble_eq_true rfl)) dX3_measure_25 ⟨(Nat.le_refl _), (Nat.le_refl _)⟩) (fun ws2 H locs hp hP hD hS => ?_)
      obtain ⟨hg, hnew⟩ := hp
      refine lv_iinc (v := nI (j + 1)) (lv' := [(2, .int (nI (j + 1))), (0, .ref (ad 6)), (1, .ref (ad 1))]) hx hb dX3_measure_28 hl (k := 0) rfl (nI_1 _) (by decide) rfl (fun ls hl => ?_)
      refine lv_goto (tgt := 10) hx hb dX3_measure_31 (by decide) ?_
      refine ih (j + 1) _ H locs ls ⟨by omega, hag.tr (hg.wide (by omega) (by omega)), hl1.ag hg (by omega), fun i hi => ?_⟩ (by omega) hP hD hS (lv_sub hl [0, 1, 2] rfl)
      by_cases z : i = j
      · subst z; dsimp only; rw [if_pos (Nat.lt_succ_self _), if_pos (Nat.lt_succ_self _)]; exact hnew
      · have q := (hps1 i hi).ag hg (by omega)
        dsimp only at q ⊢
        by_cases y : i < j
        · rw [if_pos y, if_pos y] at q; rw [if_pos (by omega), if_pos (by omega)]; exact q
        · rw [if_neg y, if_neg y] at q; rw [if_neg (by omega), if_neg (by omega)]; exact q
  · have hm1 : ms = 1 := by
      rcases hms with z | z
      · rw [z] at c1; exact absurd rfl c1
      · exact z
    subst hm1
    subst hAe
    exact W.vret hx hb hr (fun t ht _ => ⟨⟨ws, rfl, ⟨hAg.rf, hl0, fun i hi => by dsimp only; rw [if_neg (fun z => absurd z.2 (by decide)), if_neg (fun z => absurd z.2 (by decide))]; exact hps i hi⟩, by rw [ht]; exact hP, hD⟩, hS.F ht⟩) hS.2.2 dX3_measure_7
