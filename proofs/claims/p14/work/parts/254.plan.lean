set_option maxHeartbeats 4000000 in
set_option maxRecDepth 100000 in
/-- search, by how many patterns are left -/
theorem c_X5_search (l : Launch) (D : va_G) (K : Nat → ClassId) (tv : Nat) (ad : Nat → Nat) (np ms : Nat) (I dd : Nat → Nat → Nat) (mm : Nat → Nat) (rd : Nat) (hb0 : np ≤ 6 ∧ ∀ i, i < 6 → (∀ q, q < 3 → dd i q ≤ 127 ∧ I i q < 72) ∧ mm i ≤ 640) : ∀ (r : Nat) (ws : va_W) (o : List Nat) (kn s0 c0 : Nat) (st : Nat × List Nat) (hG : hPG K ad ws np ms I dd mm rd o st) (hnd : o.Nodup) (hon : ∀ x, x ∈ o → x < np) (hlen : o.length + r = np) (hkn : kn < 256) (hs0 : s0 ≤ hMX) (hc0 : c0 ≤ hMX) (hlt : c0 < st.1) (hst : st.1 ≤ hMX + 1), hV l D (hTy K) tv yX5_search cX5_search 14 none ({ frames := 3 + r, cells := 0, slots := 0, locals := 60 * (3 + r) }) [.ref (ad 28), .ref (ad 6), .int (nI o.length), .int (nI kn), .long (lN s0), .long (lN c0)] ws (fun ws1 => hAg 28 33 ws ws1 ∧ hPG K ad ws1 np ms I dd mm rd o (hSe np (hEs I dd mm) (hVs I) r o kn s0 c0 st)) := by
  intro r
  induction r with
  | zero =>
    intro ws o kn s0 c0 st hG hnd hon hlen hkn hs0 hc0 hlt hst sz
    refine Met.ofW (cc := cX5_search) (maxL := 14) (ret := none) (by decide) rfl ?_
    intro p e s m args below meth c s₁ B hml hv0
    obtain ⟨rfl, rfl, E, hP, hD⟩ := hentry hv0
    have hx := B.exec
    have hb := B.bytes
    have hr := B.returns
    have hts := atoms_spec (ws := hC yX5_search cX5_search 14 none) B.pre
    have hown : s.vm.findClass RX5 = some m.cls := findClass_of_methodNamed B.named
    have hlocks := B.notSynchronized
    generalize hAe : va_A ws s.heap.size = A at hD E ⊢
    have hl := lv_entry ([.ref (ad 28), .ref (ad 6), .int (nI o.length), .int (nI kn), .long (lN s0), .long (lN c0)]) (n := 14) (Nat.le_of_ble_eq_true rfl)
    rw [lg_entry_eq]
    generalize (lg_sl ([.ref (ad 28), .ref (ad 6), .int (nI o.length), .int (nI kn), .long (lN s0), .long (lN c0)]) ++ List.replicate (14 - (lg_sl ([.ref (ad 28), .ref (ad 6), .int (nI o.length), .int (nI kn), .long (lN s0), .long (lN c0)])).length) Slot.unset).toArray = ls at hl ⊢
    have hl : lv_has ls 14 [(0, .ref (ad 28)), (1, .ref (ad 6)), (2, .int (nI o.length)), (3, .int (nI kn)), (4, .long (lN s0)), (6, .long (lN c0))] := hl
    refine hat0 (fun H hHe => ?_)
    have hP : va_P D vwCl ws H := by rw [hHe]; exact hP
    have hS : va_S A s.heap H [] := by rw [hHe]; exact va_S.rf
    obtain ⟨hPL, hPS, h28, hO1, hO2⟩ := id hG
    obtain ⟨h6, fq, h7, hfq⟩ := id hPL
    obtain ⟨f29, u29, ⟨h29, -⟩, -⟩ := id hO1
    obtain ⟨f31, u31, ⟨h31, -⟩, -⟩ := id hO2
    have hnp := hb0.1
    refine lv_iload_n hx hb dX5_search_0 rfl (lv_at hl 2 rfl) ?_
    refine lv_aload_n hx hb dX5_search_1 rfl (lv_at hl 1 rfl) ?_
    refine va_getN (v := .int (nI np)) (C := RX3) (T := TX3) (N := 3) hx hb hts (hin_X3 hmc) hown E.1.1 hP 6 h6 rfl 1 (by decide) (va_Nw.use rfl (E.1.2.1 _ k_88)) (fun _ h9 => h9) rfl dX5_search_2 ?_
    refine lv_icmp_lt (tgt := 26) hx hb dX5_search_5 (by decide) (fun c1 => ?_) (fun c1 => ?_)
    · exact absurd ((nI_ltI (by omega) (by omega)).mp c1) (by omega)
    · refine lv_aload_n hx hb dX5_search_8 rfl (lv_at hl 0 rfl) ?_
      refine lv_lload hx hb dX5_search_9 (lv_at hl 5 rfl) ?_
      refine va_put (v := .long (lN c0)) (ty := .long) (C := RX5) (T := TX5) (N := 4) hx hb hts (hin_X5 hmc) tyX5 tyX5_ok nmX5 hown E.1.1 hP hD hS 28 h28 rfl 2 (by decide) (hts _ (hmc _ k_128)) (fun _ h9 => h9) rfl (by decide +kernel) rfl rfl (Nat.le_of_ble_eq_true rfl) dX5_search_11 (fun H locs hP hD hS => ?_)
      obtain ⟨ws1, ews1⟩ : ∃ zw : va_W, zw = List.set ws 28 ((ad 28), .inr (iN, [.ref (ad 29), .ref (ad 31), .long (lN c0), .int (nI rd)])) := ⟨_, rfl⟩
      have hP : va_P D vwCl ws1 H := by rw [ews1]; exact hP
      have hD : va_D A ws1 := by rw [ews1]; exact hD
      have h28 : ws1[28]? = some ((ad 28), .inr (iN, [.ref (ad 29), .ref (ad 31), .long (lN c0), .int (nI rd)])) := by rw [ews1]; exact hset_eq h28
      have h6 := (show ws1[6]? = _ from (by rw [ews1]; exact hset_ne (by omega))).trans h6
      have h29 := (show ws1[29]? = _ from (by rw [ews1]; exact hset_ne (by omega))).trans h29
      have h31 := (show ws1[31]? = _ from (by rw [ews1]; exact hset_ne (by omega))).trans h31
      have hg1 : hAg 28 29 ws ws1 := by rw [ews1]; exact hAg.rf.set (by decide) (by decide)
      refine lv_aload_n hx hb dX5_search_14 rfl (lv_at hl 0 rfl) ?_
      refine va_get (v := .ref (ad 31)) (C := RX5) (T := TX5) (N := 4) hx hb hts (hin_X5 hmc) hown E.1.1 hP 28 h28 rfl 1 (by decide) (hts _ (hmc _ k_126)) (fun _ h9 => h9) rfl dX5_search_15 ?_
      refine lv_aload_n hx hb dX5_search_18 rfl (lv_at hl 0 rfl) ?_
      refine va_get (v := .ref (ad 29)) (C := RX5) (T := TX5) (N := 4) hx hb hts (hin_X5 hmc) hown E.1.1 hP 28 h28 rfl 0 (by decide) (hts _ (hmc _ k_125)) (fun _ h9 => h9) rfl dX5_search_19 ?_
      refine hc_v E hD hS (va_runV (As := [.ref (ad 29)]) (rest := []) ⟨hx, hb, hml, hown, hts⟩ ((c_X4_copy l D K tv ws1 ad 31 st.2 (hO2.ag hg1 (by omega)) 29 o (hO1.ag hg1 (by omega)) (by omega)) H.size) (cwV 1 hts (hGV hmc k_395 k_396 k_397 k_24 k_398) rfl rfl rfl (by decide +kernel) ⟨by show 1 + 1 ≤ 3; omega, by show 8 + (2 + 11) + 60 ≤ 60 * (3); omega⟩) (hpreV E hP hD hS h31 rfl) rfl rfl hl.1 rfl (lv_room (Nat.le_of_ble_eq_true rfl)) dX5_search_22 ⟨(Nat.le_refl _), (Nat.le_refl _)⟩) (fun ws2 H locs hp hP hD hS => ?_)
      obtain ⟨hg2, hO3⟩ := hp
      subst hAe
      exact W.vret hx hb hr (fun t ht _ => ⟨⟨ws2, rfl, ⟨(hg1.wide (by decide) (by decide)).tr (hg2.wide (by decide) (by decide)), (hPL.ag hg1 (by omega)).ag hg2 (by omega), (hPS.ag hg1 (by omega)).ag hg2 (by omega), (hg2.2 28 (by omega)).trans h28, (hO1.ag hg1 (by omega)).ag hg2 (by omega), hO3⟩, by rw [ht]; exact hP, hD⟩, hS.F ht⟩) hS.2.2 dX5_search_25
  | succ r ih =>
    intro ws o kn s0 c0 st hG hnd hon hlen hkn hs0 hc0 hlt hst sz
    refine Met.ofW (cc := cX5_search) (maxL := 14) (ret := none) (by decide) rfl ?_
    intro p e s m args below meth c s₁ B hml hv0
    obtain ⟨rfl, rfl, E, hP, hD⟩ := hentry hv0
    have hx := B.exec
    have hb := B.bytes
    have hr := B.returns
    have hts := atoms_spec (ws := hC yX5_search cX5_search 14 none) B.pre
    have hown : s.vm.findClass RX5 = some m.cls := findClass_of_methodNamed B.named
    have hlocks := B.notSynchronized
    generalize hAe : va_A ws s.heap.size = A at hD E ⊢
    have hl := lv_entry ([.ref (ad 28), .ref (ad 6), .int (nI o.length), .int (nI kn), .long (lN s0), .long (lN c0)]) (n := 14) (Nat.le_of_ble_eq_true rfl)
    rw [lg_entry_eq]
    generalize (lg_sl ([.ref (ad 28), .ref (ad 6), .int (nI o.length), .int (nI kn), .long (lN s0), .long (lN c0)]) ++ List.replicate (14 - (lg_sl ([.ref (ad 28), .ref (ad 6), .int (nI o.length), .int (nI kn), .long (lN s0), .long (lN c0)])).length) Slot.unset).toArray = ls at hl ⊢
    have hl : lv_has ls 14 [(0, .ref (ad 28)), (1, .ref (ad 6)), (2, .int (nI o.length)), (3, .int (nI kn)), (4, .long (lN s0)), (6, .long (lN c0))] := hl
    refine hat0 (fun H hHe => ?_)
    have hP : va_P D vwCl ws H := by rw [hHe]; exact hP
    have hS : va_S A s.heap H [] := by rw [hHe]; exact va_S.rf
    obtain ⟨hPL, hPS, h28, hO1, hO2⟩ := id hG
    obtain ⟨h6, fq, h7, hfq⟩ := id hPL
    obtain ⟨f29, u29, ⟨h29, -⟩, -⟩ := id hO1
    obtain ⟨f31, u31, ⟨h31, -⟩, -⟩ := id hO2
    have hnp := hb0.1
    refine lv_iload_n hx hb dX5_search_0 rfl (lv_at hl 2 rfl) ?_
    refine lv_aload_n hx hb dX5_search_1 rfl (lv_at hl 1 rfl) ?_
    refine va_getN (v := .int (nI np)) (C := RX3) (T := TX3) (N := 3) hx hb hts (hin_X3 hmc) hown E.1.1 hP 6 h6 rfl 1 (by decide) (va_Nw.use rfl (E.1.2.1 _ k_88)) (fun _ h9 => h9) rfl dX5_search_2 ?_
    refine lv_icmp_lt (tgt := 26) hx hb dX5_search_5 (by decide) (fun c1 => ?_) (fun c1 => ?_)
    · refine lv_iconst (v := nI 0) hx hb dX5_search_26 (by decide +kernel) ?_
      refine lv_istore (lv' := [(8, .int (nI 0)), (0, .ref (ad 28)), (1, .ref (ad 6)), (2, .int (nI o.length)), (3, .int (nI kn)), (4, .long (lN s0)), (6, .long (lN c0))]) hx hb dX5_search_27 hl (by decide) rfl (fun ls hl => ?_)
      have hrs : ∀ j, (List.range (j + 1)).foldl (fun st x => if x ∈ o then st else if hct c0 (hsz (hEs I dd mm) x kn s0) < st.1 then hSe np (hEs I dd mm) (hVs I) r (o ++ [x]) (kn ||| hVs I x) (hsz (hEs I dd mm) x kn s0) (hct c0 (hsz (hEs I dd mm) x kn s0)) st else st) st = (fun st x => if x ∈ o then st else if hct c0 (hsz (hEs I dd mm) x kn s0) < st.1 then hSe np (hEs I dd mm) (hVs I) r (o ++ [x]) (kn ||| hVs I x) (hsz (hEs I dd mm) x kn s0) (hct c0 (hsz (hEs I dd mm) x kn s0)) st else st) ((List.range j).foldl (fun st x => if x ∈ o then st else if hct c0 (hsz (hEs I dd mm) x kn s0) < st.1 then hSe np (hEs I dd mm) (hVs I) r (o ++ [x]) (kn ||| hVs I x) (hsz (hEs I dd mm) x kn s0) (hct c0 (hsz (hEs I dd mm) x kn s0)) st else st) st) j := fun j => by rw [List.range_succ, List.foldl_append]; rfl
      have hend : hSe np (hEs I dd mm) (hVs I) (r + 1) o kn s0 c0 st = (List.range np).foldl (fun st x => if x ∈ o then st else if hct c0 (hsz (hEs I dd mm) x kn s0) < st.1 then hSe np (hEs I dd mm) (hVs I) r (o ++ [x]) (kn ||| hVs I x) (hsz (hEs I dd mm) x kn s0) (hct c0 (hsz (hEs I dd mm) x kn s0)) st else st) st := rfl
      generalize hFo : (fun j => (List.range j).foldl (fun st x => if x ∈ o then st else if hct c0 (hsz (hEs I dd mm) x kn s0) < st.1 then hSe np (hEs I dd mm) (hVs I) r (o ++ [x]) (kn ||| hVs I x) (hsz (hEs I dd mm) x kn s0) (hct c0 (hsz (hEs I dd mm) x kn s0)) st else st) st) = G
      have hG0 : G 0 = st := by rw [← hFo]; rfl
      have hGs : ∀ j, G (j + 1) = (fun st x => if x ∈ o then st else if hct c0 (hsz (hEs I dd mm) x kn s0) < st.1 then hSe np (hEs I dd mm) (hVs I) r (o ++ [x]) (kn ||| hVs I x) (hsz (hEs I dd mm) x kn s0) (hct c0 (hsz (hEs I dd mm) x kn s0)) st else st) (G j) j := fun j => by rw [← hFo]; exact hrs j
      have hGe : hSe np (hEs I dd mm) (hVs I) (r + 1) o kn s0 c0 st = G np := by rw [← hFo]; exact hend
      rw [hGe]
      refine hloopW (α := Nat) 29 14 (fun j => [(8, .int (nI j)), (0, .ref (ad 28)), (1, .ref (ad 6)), (2, .int (nI o.length)), (3, .int (nI kn)), (4, .long (lN s0)), (6, .long (lN c0))]) (fun j w1 => j ≤ np ∧ hAg 28 33 ws w1 ∧ hPG K ad w1 np ms I dd mm rd o (G j) ∧ (G j).1 ≤ hMX + 1) (fun j => np - j) (fun _ => 0) (fun _ => 0) ?_ 0 ⟨Nat.zero_le _, hAg.rf, by rw [hG0]; exact hG, by rw [hG0]; exact hst⟩ hP hD hS (lv_sub hl [0, 1, 2, 3, 4, 5, 6] rfl)
      intro j w1 H locs ls hI1 hP hD hS hl ih2
      obtain ⟨hj, hag, hGj, hst1⟩ := hI1
      have hl : lv_has ls 14 [(8, .int (nI j)), (0, .ref (ad 28)), (1, .ref (ad 6)), (2, .int (nI o.length)), (3, .int (nI kn)), (4, .long (lN s0)), (6, .long (lN c0))] := hl
      obtain ⟨hPL, hPS, h28, hO1, hO2⟩ := id hGj
      obtain ⟨h6, fq, h7, hfq⟩ := id hPL
      obtain ⟨f29, u29, ⟨h29, -⟩, -⟩ := id hO1
      refine lv_iload hx hb dX5_search_29 (lv_at hl 0 rfl) ?_
      refine lv_aload_n hx hb dX5_search_31 rfl (lv_at hl 2 rfl) ?_
      refine va_getN (v := .int (nI np)) (C := RX3) (T := TX3) (N := 3) hx hb hts (hin_X3 hmc) hown E.1.1 hP 6 h6 rfl 1 (by decide) (va_Nw.use rfl (E.1.2.1 _ k_88)) (fun _ h9 => h9) rfl dX5_search_32 ?_
      refine lv_icmp_ge (tgt := 138) hx hb dX5_search_35 (by decide) (fun c2 => ?_) (fun c2 => ?_)
      · have hj3 : j = np := by
          rcases Nat.lt_or_ge j np with z | z
          · exact absurd c2 (nI_ge z (by omega))
          · omega
        subst hj3
        subst hAe
        exact W.vret hx hb hr (fun t ht _ => ⟨⟨w1, rfl, ⟨hag, hGj⟩, by rw [ht]; exact hP, hD⟩, hS.F ht⟩) hS.2.2 dX5_search_138
      · have hjn : j < np := Nat.not_le.mp (fun z => c2 (nI_le z (by omega)))
        obtain ⟨hb1, hb2⟩ := hb0.2 j (by omega)
        obtain ⟨fi, fd, hq1, -⟩ := id (hPS j (by omega))
        refine lv_aload_n hx hb dX5_search_38 rfl (lv_at hl 1 rfl) ?_
        refine va_get (v := .ref (ad 29)) (C := RX5) (T := TX5) (N := 4) hx hb hts (hin_X5 hmc) hown E.1.1 hP 28 h28 rfl 0 (by decide) (hts _ (hmc _ k_125)) (fun _ h9 => h9) rfl dX5_search_39 ?_
        refine lv_iload hx hb dX5_search_42 (lv_at hl 0 rfl) ?_
        refine hc_i E hD hS (va_runV (As := [.int (nI j)]) (rest := []) ⟨hx, hb, hml, hown, hts⟩ ((c_X4_has l D K tv w1 ad 29 o hO1 j (by omega)) H.size) (cwV 1 hts (hGV hmc k_400 k_401 k_402 k_24 k_403) rfl rfl rfl (by decide +kernel) ⟨by show 0 + 1 ≤ 3 + (r + 1); omega, by show 8 + (2 + 11) + 0 ≤ 60 * (3 + (r + 1)); omega⟩) (hpreV E hP hD hS h29 rfl) rfl rfl hl.1 rfl (lv_room (Nat.le_of_ble_eq_true rfl)) dX5_search_44 ⟨(Nat.le_refl _), (Nat.le_refl _)⟩) (fun r2 ws1 H locs hh hP hD hS => ?_)
        obtain ⟨rfl, hh⟩ := hh
        refine lv_if_eq (tgt := 53) hx hb dX5_search_47 (by decide) (fun c3 => ?_) (fun c3 => ?_)
        · have hjo := hh.f c3
          refine lv_aload_n hx hb dX5_search_53 rfl (lv_at hl 2 rfl) ?_
          refine lv_iload hx hb dX5_search_54 (lv_at hl 0 rfl) ?_
          refine hc_r E hD hS (va_runV (As := [.int (nI j)]) (rest := []) ⟨hx, hb, hml, hown, hts⟩ ((c_X3_at l D K tv w1 ad np ms hPL hnp j (by omega)) H.size) (cwV 1 hts (hGV hmc k_404 k_371 k_372 k_22 k_373) rfl rfl rfl (by decide +kernel) ⟨by show 0 + 1 ≤ 3 + (r + 1); omega, by show 8 + (2 + 11) + 0 ≤ 60 * (3 + (r + 1)); omega⟩) (hpreV E hP hD hS h6 rfl) rfl rfl hl.1 rfl (lv_room (Nat.le_of_ble_eq_true rfl)) dX5_search_56 ⟨(Nat.le_refl _), (Nat.le_refl _)⟩) (fun r4 ws3 H locs hp hP hD hS => ?_)
          obtain ⟨rfl, rfl⟩ := hp
          refine lv_astore (lv' := [(9, .ref (ad (8 + 3 * j))), (8, .int (nI j)), (0, .ref (ad 28)), (1, .ref (ad 6)), (2, .int (nI o.length)), (3, .int (nI kn)), (4, .long (lN s0)), (6, .long (lN c0))]) hx hb dX5_search_59 hl (by decide) rfl (fun ls hl => ?_)
          refine lv_lload hx hb dX5_search_61 (lv_at hl 6 rfl) ?_
          refine lv_aload hx hb dX5_search_63 (lv_at hl 0 rfl) ?_
          refine lv_iload_n hx hb dX5_search_65 rfl (lv_at hl 5 rfl) ?_
          refine hc_i E hD hS (va_runV (As := [.int (nI kn)]) (rest := [.long (lN s0)]) ⟨hx, hb, hml, hown, hts⟩ ((c_X2_estimated l D K tv w1 ad (8 + 3 * j) (I j) (dd j) (mm j) (hPS j (by omega)) (nI kn) (fun q hq => (hb1 q hq).1) hb2) H.size) (cwV 1 hts (hGV hmc k_405 k_375 k_376 k_23 k_377) rfl rfl rfl (by decide +kernel) ⟨by show 2 + 1 ≤ 3 + (r + 1); omega, by show 8 + (4 + 11) + 120 ≤ 60 * (3 + (r + 1)); omega⟩) (hpreV E hP hD hS hq1 rfl) rfl rfl hl.1 rfl (lv_room (Nat.le_of_ble_eq_true rfl)) dX5_search_66 ⟨(Nat.le_refl _), (Nat.le_refl _)⟩) (fun r6 ws5 H locs hp hP hD hS => ?_)
          obtain ⟨rfl, rfl⟩ := hp
          have hE640 : hEs I dd mm j kn ≤ 640 := hes_le hb2
          refine hc_sl (va_runSN (As := [.long (lN s0), .int (nI (hEs I dd mm j kn))]) (rest := []) ⟨hx, hb, hml, hown, hts⟩ (c_X0_grown l s0 (hEs I dd mm j kn) hs0 hE640) ⟨va_cnB 2 hts (hGc hmc k_408) rfl rfl rfl (E.1.2.1 _ k_406) (hts _ (hmc _ k_20)) (by decide +kernel) ⟨by show 1 + 1 ≤ 3 + (r + 1); omega, by show 8 + (3 + 11) + 60 ≤ 60 * (3 + (r + 1)); omega⟩, (hts _ (hmc _ k_407)), trivial⟩ hpre0 rfl rfl hl.1 rfl (lv_room (Nat.le_of_ble_eq_true rfl)) dX5_search_69 ⟨(Nat.le_refl _), (Nat.le_refl _)⟩) (fun r7 hp => ?_)
          subst hp
          have hz0 : hsz (hEs I dd mm) j kn s0 ≤ 1000000000000 := Nat.min_le_right _ _
          have hc1 : c0 ≤ 1000000000000 := hc0
          have hst2 : (G j).1 ≤ 1000000000001 := hst1
          have hz1 : hct c0 (hsz (hEs I dd mm) j kn s0) ≤ 1000000000000 := Nat.min_le_right _ _
          refine lv_lstore (lv' := [(10, .long (lN (hsz (hEs I dd mm) j kn s0))), (9, .ref (ad (8 + 3 * j))), (8, .int (nI j)), (0, .ref (ad 28)), (1, .ref (ad 6)), (2, .int (nI o.length)), (3, .int (nI kn)), (4, .long (lN s0)), (6, .long (lN c0))]) hx hb dX5_search_72 hl (by decide) rfl (fun ls hl => ?_)
          refine lv_lload hx hb dX5_search_74 (lv_at hl 8 rfl) ?_
          refine lv_lload hx hb dX5_search_76 (lv_at hl 0 rfl) ?_
          refine lv_ladd hx hb dX5_search_78 ?_
          refine htopl (v := lN (c0 + hsz (hEs I dd mm) j kn s0)) (lN_add _ _) ?_
          refine lv_ldc2 (v := 1000000000000) hx hb hown (hts _ (hmc _ k_413)) dX5_search_79 ?_
          refine va_mmin_long hx hb (hml.trans hl.1.symm) hown (hts _ (hmc _ k_414)) (hts _ (hmc _ k_411)) (hts _ (hmc _ k_30)) (hts _ (hmc _ k_412)) (Nat.le_of_ble_eq_true rfl) (Nat.le_of_ble_eq_true rfl) (Nat.le_refl _) (Nat.le_refl _) dX5_search_82 ?_
          refine htopl (v := lN (hct c0 (hsz (hEs I dd mm) j kn s0))) (hminl (by omega)) ?_
          refine lv_lstore (lv' := [(12, .long (lN (hct c0 (hsz (hEs I dd mm) j kn s0)))), (10, .long (lN (hsz (hEs I dd mm) j kn s0))), (9, .ref (ad (8 + 3 * j))), (8, .int (nI j)), (0, .ref (ad 28)), (1, .ref (ad 6)), (2, .int (nI o.length)), (3, .int (nI kn)), (4, .long (lN s0)), (6, .long (lN c0))]) hx hb dX5_search_85 hl (by decide) rfl (fun ls hl => ?_)
          refine lv_lload hx hb dX5_search_87 (lv_at hl 0 rfl) ?_
          refine lv_aload_n hx hb dX5_search_89 rfl (lv_at hl 4 rfl) ?_
          refine va_get (v := .long (lN (G j).1)) (C := RX5) (T := TX5) (N := 4) hx hb hts (hin_X5 hmc) hown E.1.1 hP 28 h28 rfl 2 (by decide) (hts _ (hmc _ k_128)) (fun _ h9 => h9) rfl dX5_search_90 ?_
          refine W.lcmp hx hb dX5_search_93 ?_
          refine lv_if_ge (tgt := 132) hx hb dX5_search_94 (by decide) (fun c4 => ?_) (fun c4 => ?_)
          · have hGn : G (j + 1) = G j := by
              rw [hGs]
              show (if j ∈ o then _ else _) = _
              rw [if_neg hjo]
              exact if_neg (Nat.not_lt.mpr ((hlcmp (by omega) (by omega)).mp c4))
            refine lv_iinc (v := nI (j + 1)) (lv' := [(8, .int (nI (j + 1))), (12, .long (lN (hct c0 (hsz (hEs I dd mm) j kn s0)))), (10, .long (lN (hsz (hEs I dd mm) j kn s0))), (9, .ref (ad (8 + 3 * j))), (0, .ref (ad 28)), (1, .ref (ad 6)), (2, .int (nI o.length)), (3, .int (nI kn)), (4, .long (lN s0)), (6, .long (lN c0))]) hx hb dX5_search_132 hl (k := 3) rfl (nI_1 _) (by decide) rfl (fun ls hl => ?_)
            refine lv_goto (tgt := 29) hx hb dX5_search_135 (by decide) ?_
            exact ih2 (j + 1) _ H locs ls ⟨by omega, hag, by rw [hGn]; exact hGj, by rw [hGn]; exact hst1⟩ (by omega) hP hD hS (lv_sub hl [0, 4, 5, 6, 7, 8, 9] rfl)
          · have hlt2 : hct c0 (hsz (hEs I dd mm) j kn s0) < (G j).1 := Nat.not_le.mp (fun z => c4 ((hlcmp (by omega) (by omega)).mpr z))
            have hGn : G (j + 1) = hSe np (hEs I dd mm) (hVs I) r (o ++ [j]) (kn ||| hVs I j) (hsz (hEs I dd mm) j kn s0) (hct c0 (hsz (hEs I dd mm) j kn s0)) (G j) := by
              rw [hGs]
              show (if j ∈ o then _ else _) = _
              rw [if_neg hjo]
              exact if_pos hlt2
            have hV8 : hVs I j < 2 ^ 8 := hvm_lt (I j) (fun q hq => (hb1 q hq).2) 3 (Nat.le_refl _)
            have hkn2 : kn ||| hVs I j < 2 ^ 8 := Nat.or_lt_two_pow hkn hV8
            refine lv_aload_n hx hb dX5_search_97 rfl (lv_at hl 4 rfl) ?_
            refine va_get (v := .ref (ad 29)) (C := RX5) (T := TX5) (N := 4) hx hb hts (hin_X5 hmc) hown E.1.1 hP 28 h28 rfl 0 (by decide) (hts _ (hmc _ k_125)) (fun _ h9 => h9) rfl dX5_search_98 ?_
            refine lv_iload hx hb dX5_search_101 (lv_at hl 3 rfl) ?_
            refine hc_v E hD hS (va_runV (As := [.int (nI j)]) (rest := []) ⟨hx, hb, hml, hown, hts⟩ ((c_X4_append l D K tv w1 ad 29 o hO1 j (by omega) (by omega)) H.size) (cwV 1 hts (hGV hmc k_415 k_416 k_417 k_24 k_418) rfl rfl rfl (by decide +kernel) ⟨by show 0 + 1 ≤ 3 + (r + 1); omega, by show 8 + (2 + 11) + 0 ≤ 60 * (3 + (r + 1)); omega⟩) (hpreV E hP hD hS h29 rfl) rfl rfl hl.1 rfl (lv_room (Nat.le_of_ble_eq_true rfl)) dX5_search_103 ⟨(Nat.le_refl _), (Nat.le_refl _)⟩) (fun ws8 H locs hp hP hD hS => ?_)
            obtain ⟨hg1, hO3⟩ := hp
            have h28 := (hg1.2 28 (by omega)).trans h28
            have h6 := (hg1.2 6 (by omega)).trans h6
            have hq1 := (hg1.2 (8 + 3 * j) (by omega)).trans hq1
            have hPS1 := hPS.ag hg1 (by omega)
            have hPL1 := hPL.ag hg1 (by omega)
            have hO21 := hO2.ag hg1 (by omega)
            refine lv_aload_n hx hb dX5_search_106 rfl (lv_at hl 4 rfl) ?_
            refine lv_aload_n hx hb dX5_search_107 rfl (lv_at hl 5 rfl) ?_
            refine lv_iload_n hx hb dX5_search_108 rfl (lv_at hl 6 rfl) ?_
            refine lv_iconst (v := nI 1) hx hb dX5_search_109 (by decide +kernel) ?_
            refine lv_iadd hx hb dX5_search_110 ?_
            refine htopi (v := nI (o.length + 1)) (nI_add _ _) ?_
            refine lv_iload_n hx hb dX5_search_111 rfl (lv_at hl 7 rfl) ?_
            refine lv_aload hx hb dX5_search_112 (lv_at hl 2 rfl) ?_
            refine hc_i E hD hS (va_runV (As := []) (rest := [.int (nI kn), .int (nI (o.length + 1)), .ref (ad 6), .ref (ad 28)]) ⟨hx, hb, hml, hown, hts⟩ ((c_X2_variables l D K tv ws8 ad (8 + 3 * j) (I j) (dd j) (mm j) (hPS1 j (by omega))) H.size) (cwV 0 hts (hGV hmc k_419 k_420 k_421 k_23 k_422) rfl rfl rfl (by decide +kernel) ⟨by show 1 + 1 ≤ 3 + (r + 1); omega, by show 8 + (3 + 11) + 60 ≤ 60 * (3 + (r + 1)); omega⟩) (hpreV E hP hD hS hq1 rfl) rfl rfl hl.1 rfl (lv_room (Nat.le_of_ble_eq_true rfl)) dX5_search_114 ⟨(Nat.le_refl _), (Nat.le_refl _)⟩) (fun r10 ws9 H locs hp hP hD hS => ?_)
            obtain ⟨rfl, rfl⟩ := hp
            refine lv_ior hx hb dX5_search_117 ?_
            refine htopi (v := nI (kn ||| hVs I j)) (hior _ _) ?_
            refine lv_lload hx hb dX5_search_118 (lv_at hl 1 rfl) ?_
            refine lv_lload hx hb dX5_search_120 (lv_at hl 0 rfl) ?_
            rw [show nI (o.length + 1) = nI (o ++ [j]).length by rw [List.length_append]; rfl]
            refine hc_v E hD hS (va_runS (As := [.ref (ad 28), .ref (ad 6), .int (nI (o ++ [j]).length), .int (nI (kn ||| hVs I j)), .long (lN (hsz (hEs I dd mm) j kn s0)), .long (lN (hct c0 (hsz (hEs I dd mm) j kn s0)))]) (rest := []) ⟨hx, hb, hml, hown, hts⟩ ((ih ws8 (o ++ [j]) (kn ||| hVs I j) (hsz (hEs I dd mm) j kn s0) (hct c0 (hsz (hEs I dd mm) j kn s0)) (G j) ⟨hPL1, hPS1, h28, hO3, hO21⟩ (hnd_add hnd hjo) (hon_add hon hjn) (by rw [List.length_append]; show o.length + 1 + r = np; omega) hkn2 hz0 hz1 hlt2 hst1) H.size) (va_cwS 6 hts (hGS hmc k_392 k_393 k_25 k_394) rfl rfl rfl (by decide +kernel) ⟨by show 3 + r + 1 ≤ 3 + (r + 1); omega, by show 8 + (14 + 11) + 60 * (3 + r) ≤ 60 * (3 + (r + 1)); omega⟩) (hpre E hP hD hS) rfl rfl hl.1 rfl (lv_room (Nat.le_of_ble_eq_true rfl)) dX5_search_122 ⟨(Nat.le_refl _), (Nat.le_refl _)⟩) (fun ws11 H locs hp hP hD hS => ?_)
            obtain ⟨hg2, hGb⟩ := hp
            rw [← hGn] at hGb
            obtain ⟨hPL2, hPS2, h28b, hO4, hO5⟩ := id hGb
            obtain ⟨f29, u29, ⟨h29, -⟩, -⟩ := id hO4
            refine lv_aload_n hx hb dX5_search_125 rfl (lv_at hl 4 rfl) ?_
            refine va_get (v := .ref (ad 29)) (C := RX5) (T := TX5) (N := 4) hx hb hts (hin_X5 hmc) hown E.1.1 hP 28 h28b rfl 0 (by decide) (hts _ (hmc _ k_125)) (fun _ h9 => h9) rfl dX5_search_126 ?_
            refine hc_v E hD hS (va_runV (As := []) (rest := []) ⟨hx, hb, hml, hown, hts⟩ ((c_X4_shorten l D K tv ws11 ad 29 o j hO4 hjo) H.size) (cwV 0 hts (hGV hmc k_423 k_424 k_425 k_24 k_426) rfl rfl rfl (by decide +kernel) ⟨by show 0 + 1 ≤ 3 + (r + 1); omega, by show 8 + (1 + 11) + 0 ≤ 60 * (3 + (r + 1)); omega⟩) (hpreV E hP hD hS h29 rfl) rfl rfl hl.1 rfl (lv_room (Nat.le_of_ble_eq_true rfl)) dX5_search_129 ⟨(Nat.le_refl _), (Nat.le_refl _)⟩) (fun ws12 H locs hp hP hD hS => ?_)
            obtain ⟨hg3, hO6⟩ := hp
            refine lv_iinc (v := nI (j + 1)) (lv' := [(8, .int (nI (j + 1))), (12, .long (lN (hct c0 (hsz (hEs I dd mm) j kn s0)))), (10, .long (lN (hsz (hEs I dd mm) j kn s0))), (9, .ref (ad (8 + 3 * j))), (0, .ref (ad 28)), (1, .ref (ad 6)), (2, .int (nI o.length)), (3, .int (nI kn)), (4, .long (lN s0)), (6, .long (lN c0))]) hx hb dX5_search_132 hl (k := 3) rfl (nI_1 _) (by decide) rfl (fun ls hl => ?_)
            refine lv_goto (tgt := 29) hx hb dX5_search_135 (by decide) ?_
            have hst3 : (G (j + 1)).1 ≤ hMX + 1 := by rw [hGn]; exact hSe_le _ _ _ _ _ _ _ _ _ hz1 hst1
            exact ih2 (j + 1) _ H locs ls ⟨by omega, ((hag.tr (hg1.wide (by decide) (by decide))).tr hg2).tr (hg3.wide (by decide) (by decide)), ⟨hPL2.ag hg3 (by omega), hPS2.ag hg3 (by omega), (hg3.2 28 (by omega)).trans h28b, hO6, hO5.ag hg3 (by omega)⟩, hst3⟩ (by omega) hP hD hS (lv_sub hl [0, 4, 5, 6, 7, 8, 9] rfl)
        · have hjo := hh.t c3
          have hGn : G (j + 1) = G j := by rw [hGs]; exact if_pos hjo
          refine lv_goto (tgt := 132) hx hb dX5_search_50 (by decide) ?_
          refine lv_iinc (v := nI (j + 1)) (lv' := [(8, .int (nI (j + 1))), (0, .ref (ad 28)), (1, .ref (ad 6)), (2, .int (nI o.length)), (3, .int (nI kn)), (4, .long (lN s0)), (6, .long (lN c0))]) hx hb dX5_search_132 hl (k := 0) rfl (nI_1 _) (by decide) rfl (fun ls hl => ?_)
          refine lv_goto (tgt := 29) hx hb dX5_search_135 (by decide) ?_
          exact ih2 (j + 1) _ H locs ls ⟨by omega, hag, by rw [hGn]; exact hGj, by rw [hGn]; exact hst1⟩ (by omega) hP hD hS (lv_sub hl [0, 1, 2, 3, 4, 5, 6] rfl)
    · exact absurd (nI_lt (show o.length < np by omega) (by omega)) c1
