set_option maxHeartbeats 4000000 in
set_option maxRecDepth 100000 in
/-- walk -/
theorem c_X7_walk (l : Launch) (D : va_G) (K : Nat → ClassId) (tv : Nat) (ws : va_W) (ad : Nat → Nat) (n : Nat) (hn : n = 26 ∨ n = 31) (o : List Nat) (ho : hOrd K ad ws n o) (np ms : Nat) (hPl0 : hPl K ad ws np ms) (hnp : np ≤ 6) (I dd : Nat → Nat → Nat) (mm : Nat → Nat) (hPs0 : hPs K ad ws I dd mm) (hI72 : ∀ i, i < 6 → ∀ q, q < 3 → I i q < 72) (F : Nat → Nat → Int32) (g : Nat → Nat → Nat) (cnt : Nat) (X : Nat → Nat → Prop) (ht : hTr K ad ws F cnt) (hw : hVw F g cnt X) (ln tt co b ra sa sc L Sp : Nat) (hco : co = 0 ∨ co = 1) (hb1 : b ≤ 1) (h33 : ws[33]? = some (hKc ad ln tt co)) (h34e : ∃ fq : Nat → Option Nat, ws[34]? = some (ad 34, .inl (K 4, 6, .inr (.inr (.inr (.inr fq))))) ∧ ∀ i, i < 6 → fq i = some (ad (38 + 4 * i))) (hSp0 : ∀ i, i < 6 → ∃ fl It sh nk fx ob1, hStp K ad ws (38 + 4 * i) fl It sh nk fx ob1) (hSo : hSol K ad ws b ra sa L Sp sc) (hLL : hLv L) (hcL : sc ≤ L) (hc2 : sc ≤ 20000) : hV l D (hTy K) tv yX7_walk cX7_walk 7 none ({ frames := 11, cells := (hQc (hLf L (hEn g cnt I o co sc).2) - hQc L), slots := (hQs (hLf L (hEn g cnt I o co sc).2) - hQs L), locals := 660 }) [.ref (ad 33), .ref (ad n), .ref (ad 6), .ref (ad 1)] ws (fun ws1 => hAg 33 62 ws ws1 ∧ (∃ ra1, hJG K ad ws1 (hWF g cnt I o) (hWI I o) (hWs I o) (hWn I o) (hWx I o) (hWo I o) co o.length b ra1 sa (hLf L (hEn g cnt I o co sc).2) Sp (hEn g cnt I o co sc).1 (hEn g cnt I o co sc).2) ∧ ∀ i, i < 6 → ∃ fl It sh nk fx ob1, hStp K ad ws1 (38 + 4 * i) fl It sh nk fx ob1) := by
  intro sz
  refine Met.ofW (cc := cX7_walk) (maxL := 7) (ret := none) (by decide) rfl ?_
  intro p e s m args below meth c s₁ B hml hv0
  obtain ⟨rfl, rfl, E, hP, hD⟩ := hentry hv0
  have hx := B.exec
  have hb := B.bytes
  have hr := B.returns
  have hts := atoms_spec (ws := hC yX7_walk cX7_walk 7 none) B.pre
  have hown : s.vm.findClass RX7 = some m.cls := findClass_of_methodNamed B.named
  have hlocks := B.notSynchronized
  generalize hAe : va_A ws s.heap.size = A at hD E ⊢
  have hl := lv_entry ([.ref (ad 33), .ref (ad n), .ref (ad 6), .ref (ad 1)]) (n := 7) (Nat.le_of_ble_eq_true rfl)
  rw [lg_entry_eq]
  generalize (lg_sl ([.ref (ad 33), .ref (ad n), .ref (ad 6), .ref (ad 1)]) ++ List.replicate (7 - (lg_sl ([.ref (ad 33), .ref (ad n), .ref (ad 6), .ref (ad 1)])).length) Slot.unset).toArray = ls at hl ⊢
  have hl : lv_has ls 7 [(0, .ref (ad 33)), (1, .ref (ad n)), (2, .ref (ad 6)), (3, .ref (ad 1))] := hl
  refine hat0 (fun H hHe => ?_)
  have hP : va_P D vwCl ws H := by rw [hHe]; exact hP
  have hS : va_S A s.heap H [] := by rw [hHe]; exact va_S.rf
  obtain ⟨fo, uo, ⟨hno, -⟩, hok⟩ := id ho
  have ho6 : o.length ≤ 6 := hok.1
  obtain ⟨fq34, h34, hf34⟩ := h34e
  refine lv_iconst (v := nI 0) hx hb dX7_walk_0 (by decide +kernel) ?_
  refine lv_istore (lv' := [(4, .int (nI 0)), (0, .ref (ad 33)), (1, .ref (ad n)), (2, .ref (ad 6)), (3, .ref (ad 1))]) hx hb dX7_walk_1 hl (by decide) rfl (fun ls hl => ?_)
  refine lv_iconst (v := nI 0) hx hb dX7_walk_3 (by decide +kernel) ?_
  refine lv_istore (lv' := [(5, .int (nI 0)), (4, .int (nI 0)), (0, .ref (ad 33)), (1, .ref (ad n)), (2, .ref (ad 6)), (3, .ref (ad 1))]) hx hb dX7_walk_4 hl (by decide) rfl (fun ls hl => ?_)
  refine hloopW (α := Nat) 6 7 (fun j => [(5, .int (nI j)), (4, .int (nI (hKw I o j))), (0, .ref (ad 33)), (1, .ref (ad n)), (2, .ref (ad 6)), (3, .ref (ad 1))]) (fun j w1 => j ≤ o.length ∧ hAg 38 62 ws w1 ∧ (∀ i, i < j → hStp K ad w1 (38 + 4 * i) (hWF g cnt I o i) (hWI I o i) (hWs I o i) (hWn I o i) (hWx I o i) (hWo I o i)) ∧ ∀ i, i < 6 → ∃ fl It sh nk fx ob1, hStp K ad w1 (38 + 4 * i) fl It sh nk fx ob1) (fun j => o.length - j) (fun _ => 0) (fun _ => 0) ?_ 0 ⟨Nat.zero_le _, hAg.rf, fun i hi => absurd hi (Nat.not_lt_zero _), hSp0⟩ hP hD hS (lv_sub hl [0, 1, 2, 3, 4, 5] rfl)
  intro j w1 H locs ls hI1 hP hD hS hl ih
  obtain ⟨hj, hag, hdn, hSp1⟩ := hI1
  have hl : lv_has ls 7 [(5, .int (nI j)), (4, .int (nI (hKw I o j))), (0, .ref (ad 33)), (1, .ref (ad n)), (2, .ref (ad 6)), (3, .ref (ad 1))] := hl
  have hno1 := (hag.2 n (by omega)).trans hno
  have h331 := (hag.2 33 (by omega)).trans h33
  have h341 := (hag.2 34 (by omega)).trans h34
  have hPl1 := hPl0.ag hag (by omega)
  have hPs1 := hPs0.ag hag (by omega)
  have ho1 := ho.ag hag (by omega)
  have ht1 := ht.ag hag (by omega)
  have h61 := hPl1.1
  refine lv_iload hx hb dX7_walk_6 (lv_at hl 0 rfl) ?_
  refine lv_aload_n hx hb dX7_walk_8 rfl (lv_at hl 3 rfl) ?_
  refine va_getN (v := .int (nI o.length)) (C := RX4) (T := TX4) (N := 3) hx hb hts (hin_X4 hmc) hown E.1.1 hP n hno1 rfl 1 (by decide) (va_Nw.use rfl (E.1.2.1 _ k_107)) (fun _ h9 => h9) rfl dX7_walk_9 ?_
  refine lv_icmp_ge (tgt := 58) hx hb dX7_walk_12 (by decide) (fun c1 => ?_) (fun c1 => ?_)
  · have hjl : j = o.length := by
      rcases Nat.lt_or_ge j o.length with z | z
      · exact absurd c1 (nI_ge z (by omega))
      · omega
    refine lv_aload_n hx hb dX7_walk_58 rfl (lv_at hl 2 rfl) ?_
    refine lv_aload_n hx hb dX7_walk_59 rfl (lv_at hl 3 rfl) ?_
    refine va_getN (v := .int (nI o.length)) (C := RX4) (T := TX4) (N := 3) hx hb hts (hin_X4 hmc) hown E.1.1 hP n hno1 rfl 1 (by decide) (va_Nw.use rfl (E.1.2.1 _ k_107)) (fun _ h9 => h9) rfl dX7_walk_60 ?_
    refine va_put (v := .int (nI o.length)) (ty := .int) (C := RX7) (T := TX7) (N := 5) hx hb hts (hin_X7 hmc) tyX7 tyX7_ok nmX7 hown E.1.1 hP hD hS 33 h331 rfl 2 (by decide) (hts _ (hmc _ k_198)) (fun _ h9 => h9) rfl (by decide +kernel) rfl rfl (Nat.le_of_ble_eq_true rfl) dX7_walk_63 (fun H locs hP hD hS => ?_)
    obtain ⟨ws1, ews1⟩ : ∃ zw : va_W, zw = List.set w1 33 ((ad 33), .inr (iN2, [.ref (ad 34), .ref (ad 35), .int (nI o.length), .int (nI tt), .int (nI co)])) := ⟨_, rfl⟩
    have hP : va_P D vwCl ws1 H := by rw [ews1]; exact hP
    have hD : va_D A ws1 := by rw [ews1]; exact hD
    have hno1 := (show ws1[n]? = _ from (by rw [ews1]; exact hset_ne (by omega))).trans hno1
    have h331 : ws1[33]? = some ((ad 33), .inr (iN2, [.ref (ad 34), .ref (ad 35), .int (nI o.length), .int (nI tt), .int (nI co)])) := by rw [ews1]; exact hset_eq h331
    have h341 := (show ws1[34]? = _ from (by rw [ews1]; exact hset_ne (by omega))).trans h341
    have h61 := (show ws1[6]? = _ from (by rw [ews1]; exact hset_ne (by omega))).trans h61
    refine lv_aload_n hx hb dX7_walk_66 rfl (lv_at hl 2 rfl) ?_
    refine lv_iconst (v := nI 0) hx hb dX7_walk_67 (by decide +kernel) ?_
    refine va_put (v := .int (nI 0)) (ty := .int) (C := RX7) (T := TX7) (N := 5) hx hb hts (hin_X7 hmc) tyX7 tyX7_ok nmX7 hown E.1.1 hP hD hS 33 h331 rfl 3 (by decide) (hts _ (hmc _ k_199)) (fun _ h9 => h9) rfl (by decide +kernel) rfl rfl (Nat.le_of_ble_eq_true rfl) dX7_walk_68 (fun H locs hP hD hS => ?_)
    obtain ⟨ws2, ews2⟩ : ∃ zw : va_W, zw = List.set ws1 33 ((ad 33), .inr (iN2, [.ref (ad 34), .ref (ad 35), .int (nI o.length), .int (nI 0), .int (nI co)])) := ⟨_, rfl⟩
    have hP : va_P D vwCl ws2 H := by rw [ews2]; exact hP
    have hD : va_D A ws2 := by rw [ews2]; exact hD
    have hno1 := (show ws2[n]? = _ from (by rw [ews2]; exact hset_ne (by omega))).trans hno1
    have h331 : ws2[33]? = some ((ad 33), .inr (iN2, [.ref (ad 34), .ref (ad 35), .int (nI o.length), .int (nI 0), .int (nI co)])) := by rw [ews2]; exact hset_eq h331
    have h341 := (show ws2[34]? = _ from (by rw [ews2]; exact hset_ne (by omega))).trans h341
    have h61 := (show ws2[6]? = _ from (by rw [ews2]; exact hset_ne (by omega))).trans h61
    have hgp : hAg 33 34 w1 ws2 := by rw [ews2, ews1]; exact (hAg.rf.set (by decide) (by decide)).set (by decide) (by decide)
    have hS1 : ∀ i, i < o.length → hStp K ad ws2 (38 + 4 * i) (hWF g cnt I o i) (hWI I o i) (hWs I o i) (hWn I o i) (hWx I o i) (hWo I o i) := fun i hi => (hdn i (by omega)).ag hgp (by omega)
    have hSo1 := (hSo.ag hb1 hag (by omega)).ag hb1 hgp (by omega)
    refine lv_aload_n hx hb dX7_walk_71 rfl (lv_at hl 2 rfl) ?_
    refine lv_iconst (v := nI 0) hx hb dX7_walk_72 (by decide +kernel) ?_
    refine htopi (v := nI (o.length - o.length)) (by rw [Nat.sub_self]) ?_
    refine lv_lconst (v := lN 0) hx hb dX7_walk_73 (by decide +kernel) ?_
    refine hc_v E hD hS (va_runS (As := [.ref (ad 33), .int (nI (o.length - o.length)), .long (lN 0)]) (rest := []) ⟨hx, hb, hml, hown, hts⟩ ((c_X7_extend l D K tv ad (hWF g cnt I o) (hWI I o) (hWs I o) (hWn I o) (hWx I o) (hWo I o) co o.length b sa Sp hco ho6 hb1 (fun i hi => hStk_of hw (fun q hq => hI72 _ (hok.2.2.1 _ (hgetD_mem hi)) q hq) _) o.length ws2 0 0 sc ra L (Nat.le_refl _) ⟨h331, ⟨fq34, h341, hf34⟩, hS1, hSo1⟩ (by decide) (Nat.zero_le _) hc2 hcL hLL) H.size) (va_cwS 3 hts (hGS hmc k_481 k_482 k_26 k_483) rfl rfl rfl (by decide +kernel) ⟨by show 4 + o.length + 1 ≤ 11; omega, by show 8 + (7 + 11) + 60 * (4 + o.length) ≤ 660; omega⟩) (hpre E hP hD hS) rfl rfl hl.1 rfl (lv_room (Nat.le_of_ble_eq_true rfl)) dX7_walk_74 ⟨(by rw [Nat.zero_add]; exact Nat.le_refl _), (by rw [Nat.zero_add]; exact Nat.le_refl _)⟩) (fun ws3 H locs hp hP hD hS => ?_)
    obtain ⟨hg2, ra1, hG⟩ := hp
    refine W.widen (k := (hQc (hLf L (hEn g cnt I o co sc).2) - hQc L)) (n := (hQs (hLf L (hEn g cnt I o co sc).2) - hQs L)) (by rw [Nat.zero_add]; exact Nat.le_refl _) (by rw [Nat.zero_add]; exact Nat.le_refl _) ?_
    subst hAe
    exact W.vret hx hb hr (fun t ht _ => ⟨⟨ws3, rfl, ⟨((hag.wide (by decide) (by decide)).tr (hgp.wide (by decide) (by decide))).tr (hg2.wide (by decide) (by decide)), ⟨ra1, hG⟩, fun i hi => by
        obtain ⟨r1, r2, r3, r4, r5, r6, r7⟩ := hSp1 i hi
        exact ⟨r1, r2, r3, r4, r5, r6, (r7.ag hgp (by omega)).ag hg2 (by omega)⟩⟩, by rw [ht]; exact hP, hD⟩, hS.F ht⟩) hS.2.2 dX7_walk_77
  · have hjl : j < o.length := Nat.not_le.mp (fun z => c1 (nI_le z (by omega)))
    have hx6 : o.getD j 0 < 6 := hok.2.2.1 _ (hgetD_mem hjl)
    obtain ⟨q1, q2, q3, q4, q5, q6, hst⟩ := hSp1 j (by omega)
    obtain ⟨sf, si, ss, hst1, -⟩ := id hst
    obtain ⟨fi9, fd9, hq1, -⟩ := id (hPs1 (o.getD j 0) hx6)
    refine lv_aload_n hx hb dX7_walk_15 rfl (lv_at hl 4 rfl) ?_
    refine lv_aload_n hx hb dX7_walk_16 rfl (lv_at hl 3 rfl) ?_
    refine lv_iload hx hb dX7_walk_17 (lv_at hl 0 rfl) ?_
    refine hc_i E hD hS (va_runV (As := [.int (nI j)]) (rest := [.ref (ad 6)]) ⟨hx, hb, hml, hown, hts⟩ ((c_X4_at l D K tv w1 ad n o ho1 j hjl) H.size) (cwV 1 hts (hGV hmc k_464 k_428 k_429 k_24 k_430) rfl rfl rfl (by decide +kernel) ⟨Nat.le_of_ble_eq_true rfl, Nat.le_of_ble_eq_true rfl⟩) (hpreV E hP hD hS hno1 rfl) rfl rfl hl.1 rfl (lv_room (Nat.le_of_ble_eq_true rfl)) dX7_walk_19 ⟨(Nat.zero_le _), (Nat.zero_le _)⟩) (fun r5 ws4 H locs hp hP hD hS => ?_)
    obtain ⟨rfl, rfl⟩ := hp
    refine hc_r E hD hS (va_runV (As := [.int (nI (o.getD j 0))]) (rest := []) ⟨hx, hb, hml, hown, hts⟩ ((c_X3_at l D K tv w1 ad np ms hPl1 hnp (o.getD j 0) hx6) H.size) (cwV 1 hts (hGV hmc k_465 k_371 k_372 k_22 k_373) rfl rfl rfl (by decide +kernel) ⟨Nat.le_of_ble_eq_true rfl, Nat.le_of_ble_eq_true rfl⟩) (hpreV E hP hD hS h61 rfl) rfl rfl hl.1 rfl (lv_room (Nat.le_of_ble_eq_true rfl)) dX7_walk_22 ⟨(Nat.zero_le _), (Nat.zero_le _)⟩) (fun r7 ws6 H locs hp hP hD hS => ?_)
    obtain ⟨rfl, rfl⟩ := hp
    refine lv_astore (lv' := [(6, .ref (ad (8 + 3 * o.getD j 0))), (5, .int (nI j)), (4, .int (nI (hKw I o j))), (0, .ref (ad 33)), (1, .ref (ad n)), (2, .ref (ad 6)), (3, .ref (ad 1))]) hx hb dX7_walk_25 hl (by decide) rfl (fun ls hl => ?_)
    refine lv_aload_n hx hb dX7_walk_27 rfl (lv_at hl 3 rfl) ?_
    refine va_get (v := .ref (ad 34)) (C := RX7) (T := TX7) (N := 5) hx hb hts (hin_X7 hmc) hown E.1.1 hP 33 h331 rfl 0 (by decide) (hts _ (hmc _ k_195)) (fun _ h9 => h9) rfl dX7_walk_28 ?_
    refine lv_iload hx hb dX7_walk_31 (lv_at hl 1 rfl) ?_
    refine va_aldq hx hb E.1.1 hP 34 4 h341 rfl (vp_in_nI (by omega) (by omega)) dX7_walk_33 ?_
    refine htopq (v := (ad (38 + 4 * j))) (by rw [nI_clamp (by omega)]; exact hf34 j (by omega)) ?_
    refine lv_aload hx hb dX7_walk_34 (lv_at hl 0 rfl) ?_
    refine lv_iload hx hb dX7_walk_36 (lv_at hl 2 rfl) ?_
    refine lv_aload_n hx hb dX7_walk_38 rfl (lv_at hl 6 rfl) ?_
    refine hc_v E hD hS (va_runV (As := [.ref (ad (8 + 3 * o.getD j 0)), .int (nI (hKw I o j)), .ref (ad 1)]) (rest := []) ⟨hx, hb, hml, hown, hts⟩ ((c_X6_prepare l D K tv w1 ad (38 + 4 * j) q1 q2 q3 q4 q5 q6 hst (by omega) (8 + 3 * o.getD j 0) (I (o.getD j 0)) _ _ (hPs1 (o.getD j 0) hx6) (by omega) (by omega) (nI (hKw I o j)) F g cnt X ht1 hw) H.size) (cwV 3 hts (hGV hmc k_466 k_467 k_468 k_28 k_469) rfl rfl rfl (by decide +kernel) ⟨Nat.le_of_ble_eq_true rfl, Nat.le_of_ble_eq_true rfl⟩) (hpreV E hP hD hS hst1 rfl) rfl rfl hl.1 rfl (lv_room (Nat.le_of_ble_eq_true rfl)) dX7_walk_39 ⟨(Nat.zero_le _), (Nat.zero_le _)⟩) (fun ws8 H locs hp hP hD hS => ?_)
    obtain ⟨hg, hnew⟩ := hp
    have hPs2 := hPs1.ag hg (by omega)
    have hq1 := (hg.2 (8 + 3 * o.getD j 0) (by omega)).trans hq1
    refine lv_iload hx hb dX7_walk_42 (lv_at hl 2 rfl) ?_
    refine lv_aload hx hb dX7_walk_44 (lv_at hl 0 rfl) ?_
    refine hc_i E hD hS (va_runV (As := []) (rest := [.int (nI (hKw I o j))]) ⟨hx, hb, hml, hown, hts⟩ ((c_X2_variables l D K tv ws8 ad (8 + 3 * o.getD j 0) (I (o.getD j 0)) _ _ (hPs2 (o.getD j 0) hx6)) H.size) (cwV 0 hts (hGV hmc k_480 k_420 k_421 k_23 k_422) rfl rfl rfl (by decide +kernel) ⟨Nat.le_of_ble_eq_true rfl, Nat.le_of_ble_eq_true rfl⟩) (hpreV E hP hD hS hq1 rfl) rfl rfl hl.1 rfl (lv_room (Nat.le_of_ble_eq_true rfl)) dX7_walk_46 ⟨(Nat.zero_le _), (Nat.zero_le _)⟩) (fun r10 ws9 H locs hp hP hD hS => ?_)
    obtain ⟨rfl, rfl⟩ := hp
    refine lv_ior hx hb dX7_walk_49 ?_
    refine htopi (v := nI (hKw I o (j + 1))) (hior _ _) ?_
    refine lv_istore (lv' := [(4, .int (nI (hKw I o (j + 1)))), (6, .ref (ad (8 + 3 * o.getD j 0))), (5, .int (nI j)), (0, .ref (ad 33)), (1, .ref (ad n)), (2, .ref (ad 6)), (3, .ref (ad 1))]) hx hb dX7_walk_50 hl (by decide) rfl (fun ls hl => ?_)
    refine lv_iinc (v := nI (j + 1)) (lv' := [(5, .int (nI (j + 1))), (4, .int (nI (hKw I o (j + 1)))), (6, .ref (ad (8 + 3 * o.getD j 0))), (0, .ref (ad 33)), (1, .ref (ad n)), (2, .ref (ad 6)), (3, .ref (ad 1))]) hx hb dX7_walk_52 hl (k := 2) rfl (nI_1 _) (by decide) rfl (fun ls hl => ?_)
    refine lv_goto (tgt := 6) hx hb dX7_walk_55 (by decide) ?_
    refine ih (j + 1) _ H locs ls ⟨by omega, hag.tr (hg.wide (by omega) (by omega)), fun i hi => ?_, fun i hi => ?_⟩ (by omega) hP hD hS (lv_sub hl [0, 1, 3, 4, 5, 6] rfl)
    · by_cases z : i = j
      · subst z; exact hnew
      · exact (hdn i (by omega)).ag hg (by omega)
    · by_cases z : i = j
      · subst z; exact ⟨_, _, _, _, _, _, hnew⟩
      · obtain ⟨r1, r2, r3, r4, r5, r6, r7⟩ := hSp1 i hi
        exact ⟨r1, r2, r3, r4, r5, r6, r7.ag hg (by omega)⟩
