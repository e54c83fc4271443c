set_option maxHeartbeats 4000000 in
set_option maxRecDepth 100000 in
/-- the reference: choose -/
theorem c_X9_choose (l : Launch) (D : va_G) (K : Nat → ClassId) (tv : Nat) (ws : va_W) (ad : Nat → Nat) (f : Nat → Nat → Int32) (ct pt md : Nat) (lz : Int64) (kp : Nat) (fd : Int32) (hrx : hRX K ad ws f ct pt md lz kp fd) (hp6 : pt ≤ 6) (hc6 : ct ≤ 640) (S : Nat → Nat → Nat → Prop) (I : Nat → Nat → Nat) (hT : hRT (f 1) S ct) (hIt2 : hRI (f 2) pt I) : hV l D (hTy K) tv yX9_choose cX9_choose 5 none ({ frames := 5, cells := 0, slots := 0, locals := 300 }) [.ref (ad 0)] ws (fun ws1 => ∃ g lz1, hRX K ad ws1 g ct pt md lz1 kp fd ∧ (∀ k, k ≠ 4 → k ≠ 5 → k ≠ 6 → g k = f k) ∧ ∃ B, hBst (hCs S I pt) pt B ∧ (∀ k, k < pt → g 6 k = nI (B k)) ∧ lz1 = lN (hCs S I pt B)) := by
  intro sz
  refine Met.ofW (cc := cX9_choose) (maxL := 5) (ret := none) (by decide) rfl ?_
  intro p e s m args below meth c s₁ B hml hv0
  obtain ⟨rfl, rfl, E, hP, hD⟩ := hentry hv0
  have hx := B.exec
  have hb := B.bytes
  have hr := B.returns
  have hts := atoms_spec (ws := hC yX9_choose cX9_choose 5 none) B.pre
  have hown : s.vm.findClass RX9 = some m.cls := findClass_of_methodNamed B.named
  have hlocks := B.notSynchronized
  generalize hAe : va_A ws s.heap.size = A at hD E ⊢
  have hl := lv_entry ([.ref (ad 0)]) (n := 5) (Nat.le_of_ble_eq_true rfl)
  rw [lg_entry_eq]
  generalize (lg_sl ([.ref (ad 0)]) ++ List.replicate (5 - (lg_sl ([.ref (ad 0)])).length) Slot.unset).toArray = ls at hl ⊢
  have hl : lv_has ls 5 [(0, .ref (ad 0))] := hl
  refine hat0 (fun H hHe => ?_)
  have hP : va_P D vwCl ws H := by rw [hHe]; exact hP
  have hS : va_S A s.heap H [] := by rw [hHe]; exact va_S.rf
  refine lv_iconst (v := nI 0) hx hb dX9_choose_0 (by decide +kernel) ?_
  refine lv_istore_n (lv' := [(1, .int (nI 0)), (0, .ref (ad 0))]) hx hb dX9_choose_1 rfl hl (by decide) rfl (fun ls hl => ?_)
  refine hloopW (α := Nat) 2 5 (fun i => [(1, .int (nI i)), (0, .ref (ad 0))]) (fun i w9 => i ≤ 1536 ∧ ∃ a4, hRX K ad w9 (hup f 4 a4) ct pt md lz kp fd ∧ ∀ j, j < i → a4 j = (-1)) (fun i => 1536 - i) (fun _ => 0) (fun _ => 0) ?_ 0 ⟨Nat.zero_le _, f 4, by rw [hup_id]; exact hrx, fun j hj => absurd hj (Nat.not_lt_zero _)⟩ hP hD hS (lv_sub hl [0, 1] rfl)
  intro i w9 H locs ls hI9 hP hD hS hl ih
  obtain ⟨hi, a4, hrx, ha4⟩ := hI9
  have hl : lv_has ls 5 [(1, .int (nI i)), (0, .ref (ad 0))] := hl
  have g0 := hrx.1
  have g4 : w9[4]? = some (ad 4, .inl (K 0, 1536, .inl ((hup f 4 a4) 4))) := hrx.2 4 (by decide) (by decide)
  refine lv_iload_n hx hb dX9_choose_2 rfl (lv_at hl 0 rfl) ?_
  refine lv_sipush (v := nI 1536) hx hb dX9_choose_3 (by decide +kernel) ?_
  refine lv_icmp_ge (tgt := 22) hx hb dX9_choose_6 (by decide) (fun c1 => ?_) (fun c1 => ?_)
  · clear ih
    have hi9 := (nI_leI (by decide) (by omega)).mp c1
    have hca0 : hCa a4 S I pt := fun p hp v hv => Or.inl (by rw [ha4 (256 * p + v) (by omega)]; decide +kernel)
    refine lv_iconst (v := nI 0) hx hb dX9_choose_22 (by decide +kernel) ?_
    refine lv_istore_n (lv' := [(1, .int (nI 0)), (0, .ref (ad 0))]) hx hb dX9_choose_23 rfl hl (by decide) rfl (fun ls hl => ?_)
    refine hloopW (α := Nat) 24 5 (fun k => [(1, .int (nI k)), (0, .ref (ad 0))]) (fun k w9 => k ≤ pt ∧ ∃ a5, hRX K ad w9 (hup (hup f 4 a4) 5 a5) ct pt md lz kp fd ∧ ∀ j, j < k → a5 j = nI j) (fun k => pt - k) (fun _ => 0) (fun _ => 0) ?_ 0 ⟨Nat.zero_le _, (hup f 4 a4) 5, by rw [hup_id]; exact hrx, fun j hj => absurd hj (Nat.not_lt_zero _)⟩ hP hD hS (lv_sub hl [0, 1] rfl)
    intro k w9 H locs ls hI9 hP hD hS hl ih
    obtain ⟨hk, a5, hrx, ha5⟩ := hI9
    have hl : lv_has ls 5 [(1, .int (nI k)), (0, .ref (ad 0))] := hl
    have g0 := hrx.1
    have g5 : w9[5]? = some (ad 5, .inl (K 0, 6, .inl a5)) := hrx.2 5 (by decide) (by decide)
    refine lv_iload_n hx hb dX9_choose_24 rfl (lv_at hl 0 rfl) ?_
    refine lv_aload_n hx hb dX9_choose_25 rfl (lv_at hl 1 rfl) ?_
    refine va_get (v := .int (nI pt)) (C := RX9) (T := TX9) (N := 18) hx hb hts (hin_X9 hmc) hown E.1.1 hP 0 g0 rfl 3 (by decide) (hts _ (hmc _ k_572)) (fun _ h9 => h9) rfl dX9_choose_26 ?_
    refine lv_icmp_ge (tgt := 45) hx hb dX9_choose_29 (by decide) (fun c2 => ?_) (fun c2 => ?_)
    · clear ih
      have hkp : k = pt := by
        have := (nI_leI (by omega) (by omega)).mp c2
        omega
      refine lv_aload_n hx hb dX9_choose_45 rfl (lv_at hl 1 rfl) ?_
      refine lv_ldc2 (v := (-1)) hx hb hown (hts _ (hmc _ k_681)) dX9_choose_46 ?_
      refine va_put (v := .long (-1)) (ty := .long) (C := RX9) (T := TX9) (N := 18) hx hb hts (hin_X9 hmc) tyX9 tyX9_ok nmX9 hown E.1.1 hP hD hS 0 g0 rfl 9 (by decide) (hts _ (hmc _ k_578)) (fun _ h9 => h9) rfl (by decide +kernel) rfl rfl (Nat.le_of_ble_eq_true rfl) dX9_choose_49 (fun H locs hP hD hS => ?_)
      obtain ⟨ws1, ews1⟩ : ∃ zw : va_W, zw = List.set w9 0 ((ad 0), .inr (iM, [.ref (ad 1), .int (nI ct), .ref (ad 2), .int (nI pt), .ref (ad 3), .int (nI md), .ref (ad 4), .ref (ad 5), .ref (ad 6), .long (-1), .ref (ad 7), .ref (ad 8), .ref (ad 9), .ref (ad 10), .int (nI kp), .int fd, .ref (ad 11), .ref (ad 12)])) := ⟨_, rfl⟩
      have hP : va_P D vwCl ws1 H := by rw [ews1]; exact hP
      have hD : va_D A ws1 := by rw [ews1]; exact hD
      have g0 : ws1[0]? = some ((ad 0), .inr (iM, [.ref (ad 1), .int (nI ct), .ref (ad 2), .int (nI pt), .ref (ad 3), .int (nI md), .ref (ad 4), .ref (ad 5), .ref (ad 6), .long (-1), .ref (ad 7), .ref (ad 8), .ref (ad 9), .ref (ad 10), .int (nI kp), .int fd, .ref (ad 11), .ref (ad 12)])) := by rw [ews1]; exact hset_eq g0
      have g5 := (show ws1[5]? = _ from (by rw [ews1]; exact hset_ne (by omega))).trans g5
      have hrx : hRX K ad ws1 (hup (hup f 4 a4) 5 a5) ct pt md (-1) kp fd := by rw [ews1]; exact hrx.obj
      refine lv_iconst (v := nI 1) hx hb dX9_choose_52 (by decide +kernel) ?_
      refine lv_istore_n (lv' := [(1, .int (nI 1)), (0, .ref (ad 0))]) hx hb dX9_choose_53 rfl hl (by decide) rfl (fun ls hl => ?_)
      refine hloopW (α := Nat × Nat) 54 5 (fun y => [(1, .int (nI y.1)), (0, .ref (ad 0))]) (fun y w9 => ∃ g lz1 t, hRX K ad w9 g ct pt md lz1 kp fd ∧ (∀ k, k ≠ 4 → k ≠ 5 → k ≠ 6 → g k = f k) ∧ hCa (g 4) S I pt ∧ hAt5 (g 5) t pt ∧ hPm t pt ∧ y.2 = hVl t pt ∧ (y.1 = 0 ∨ y.1 = 1) ∧ (y.1 = 1 → (lz1 < 0 ∧ ∀ u, hPm u pt → hVl t pt ≤ hVl u pt) ∨ ∃ B, hBto (hCs S I pt) pt (hVl t pt) B ∧ (∀ k, k < pt → g 6 k = nI (B k)) ∧ lz1 = lN (hCs S I pt B)) ∧ (y.1 = 0 → ∃ B, hBst (hCs S I pt) pt B ∧ (∀ k, k < pt → g 6 k = nI (B k)) ∧ lz1 = lN (hCs S I pt B))) (fun y => y.1 + 2 * (50000 - y.2)) (fun _ => 0) (fun _ => 0) ?_ (1, hVl (fun k => k) pt) ⟨_, (-1), fun k => k, hrx, fun k h4 h5 h6 => (if_neg h5).trans (if_neg h4), hca0, fun k hk => ha5 k (by omega), ⟨fun _ h => h, fun _ _ _ _ h => h⟩, rfl, Or.inr rfl, fun _ => Or.inl ⟨by decide +kernel, fun u hu => hid_least hp6 hu⟩, fun q => absurd q (show ¬ (1 : Nat) = 0 by decide)⟩ hP hD hS (lv_sub hl [0, 1] rfl)
      rintro ⟨gs, V⟩ w9 H locs ls hI9 hP hD hS hl ih
      obtain ⟨g, lz1, t, hrx, hfr, hca, hat, hpm, hVe, hgs, hlv, hend⟩ := hI9
      dsimp only at hVe hgs hend ih
      have hl : lv_has ls 5 [(1, .int (nI gs)), (0, .ref (ad 0))] := hl
      have g0 := hrx.1
      have g5 : w9[5]? = some (ad 5, .inl (K 0, 6, .inl (g 5))) := hrx.2 5 (by decide) (by decide)
      refine lv_iload_n hx hb dX9_choose_54 rfl (lv_at hl 0 rfl) ?_
      refine lv_if_eq (tgt := 130) hx hb dX9_choose_55 (by decide) (fun c3 => ?_) (fun c3 => ?_)
      · have hg0 : gs = 0 := by
          rcases hgs with z | z
          · exact z
          · rw [z] at c3; exact absurd c3 (by decide +kernel)
        subst hAe
        exact W.vret hx hb hr (fun t ht _ => ⟨⟨w9, rfl, ⟨g, lz1, hrx, hfr, hend hg0⟩, by rw [ht]; exact hP, hD⟩, hS.F ht⟩) hS.2.2 dX9_choose_130
      · have hg1 : gs = 1 := by
          rcases hgs with z | z
          · rw [z] at c3; exact absurd rfl c3
          · exact z
        have hlv := hlv hg1
        refine lv_aload_n hx hb dX9_choose_58 rfl (lv_at hl 1 rfl) ?_
        refine lv_aload_n hx hb dX9_choose_59 rfl (lv_at hl 1 rfl) ?_
        refine va_get (v := .ref (ad 5)) (C := RX9) (T := TX9) (N := 18) hx hb hts (hin_X9 hmc) hown E.1.1 hP 0 g0 rfl 7 (by decide) (hts _ (hmc _ k_576)) (fun _ h9 => h9) rfl dX9_choose_60 ?_
        refine hc_l E hD hS (va_runV (As := [.ref (ad 5)]) (rest := []) ⟨hx, hb, hml, hown, hts⟩ ((c_X9_costOf l D K tv w9 ad g ct pt md lz1 kp fd hrx hp6 hc6 S I (by rw [hfr 1 (by decide) (by decide) (by decide)]; exact hT) (by rw [hfr 2 (by decide) (by decide) (by decide)]; exact hIt2) hca t (fun k hk => ⟨hpm.1 k hk, hat k hk⟩)) H.size) (cwV 1 hts (hGV hmc k_682 k_684 k_9 k_29 k_685) rfl rfl rfl (by decide +kernel) ⟨Nat.le_of_ble_eq_true rfl, Nat.le_of_ble_eq_true rfl⟩) (hpreV E hP hD hS g0 rfl) rfl rfl hl.1 rfl (lv_room (Nat.le_of_ble_eq_true rfl)) dX9_choose_63 ⟨(Nat.le_refl _), (Nat.le_refl _)⟩) (fun r3 ws2 H locs hp hP hD hS => ?_)
        obtain ⟨rfl, f4, hrx, hca4⟩ := hp
        have g0 := hrx.1
        have g5 : ws2[5]? = some (ad 5, .inl (K 0, 6, .inl ((hup g 4 f4) 5))) := hrx.2 5 (by decide) (by decide)
        have g6 : ws2[6]? = some (ad 6, .inl (K 0, 6, .inl ((hup g 4 f4) 6))) := hrx.2 6 (by decide) (by decide)
        have hcl : hCs S I pt t ≤ 1000000000000 := (hCk_le S I t pt).2
        refine lv_lstore_n (lv' := [(2, .long (lN (hCs S I pt t))), (1, .int (nI gs)), (0, .ref (ad 0))]) hx hb dX9_choose_66 rfl hl (by decide) rfl (fun ls hl => ?_)
        refine lv_aload_n hx hb dX9_choose_67 rfl (lv_at hl 2 rfl) ?_
        refine va_get (v := .long lz1) (C := RX9) (T := TX9) (N := 18) hx hb hts (hin_X9 hmc) hown E.1.1 hP 0 g0 rfl 9 (by decide) (hts _ (hmc _ k_578)) (fun _ h9 => h9) rfl dX9_choose_68 ?_
        refine lv_lconst (v := lN 0) hx hb dX9_choose_71 (by decide +kernel) ?_
        refine W.lcmp hx hb dX9_choose_72 ?_
        refine lv_if_lt (tgt := 85) hx hb dX9_choose_73 (by decide) (fun c4 => ?_) (fun c4 => ?_)
        · have hnew : hBto (hCs S I pt) pt (hVl t pt + 1) t := by
            rcases hlv with ⟨-, hm⟩ | ⟨B, -, -, hlB⟩
            · exact hBto.one hp6 (fun t u => hCs_ext t u) hpm hm
            · have hbl : hCs S I pt B ≤ 1000000000000 := (hCk_le S I B pt).2
              rw [hlB] at c4
              exact absurd ((pk_lLT (b := 0) (by omega) (by decide)).mp ((lg_cmp_lt _ _).mp c4)) (Nat.not_lt_zero _)
          refine lv_aload_n hx hb dX9_choose_85 rfl (lv_at hl 2 rfl) ?_
          refine lv_lload_n hx hb dX9_choose_86 rfl (lv_at hl 0 rfl) ?_
          refine va_put (v := .long (lN (hCs S I pt t))) (ty := .long) (C := RX9) (T := TX9) (N := 18) hx hb hts (hin_X9 hmc) tyX9 tyX9_ok nmX9 hown E.1.1 hP hD hS 0 g0 rfl 9 (by decide) (hts _ (hmc _ k_578)) (fun _ h9 => h9) rfl (by decide +kernel) rfl rfl (Nat.le_of_ble_eq_true rfl) dX9_choose_87 (fun H locs hP hD hS => ?_)
          obtain ⟨ws4, ews4⟩ : ∃ zw : va_W, zw = List.set ws2 0 ((ad 0), .inr (iM, [.ref (ad 1), .int (nI ct), .ref (ad 2), .int (nI pt), .ref (ad 3), .int (nI md), .ref (ad 4), .ref (ad 5), .ref (ad 6), .long (lN (hCs S I pt t)), .ref (ad 7), .ref (ad 8), .ref (ad 9), .ref (ad 10), .int (nI kp), .int fd, .ref (ad 11), .ref (ad 12)])) := ⟨_, rfl⟩
          have hP : va_P D vwCl ws4 H := by rw [ews4]; exact hP
          have hD : va_D A ws4 := by rw [ews4]; exact hD
          have g0 : ws4[0]? = some ((ad 0), .inr (iM, [.ref (ad 1), .int (nI ct), .ref (ad 2), .int (nI pt), .ref (ad 3), .int (nI md), .ref (ad 4), .ref (ad 5), .ref (ad 6), .long (lN (hCs S I pt t)), .ref (ad 7), .ref (ad 8), .ref (ad 9), .ref (ad 10), .int (nI kp), .int fd, .ref (ad 11), .ref (ad 12)])) := by rw [ews4]; exact hset_eq g0
          have g5 := (show ws4[5]? = _ from (by rw [ews4]; exact hset_ne (by omega))).trans g5
          have g6 := (show ws4[6]? = _ from (by rw [ews4]; exact hset_ne (by omega))).trans g6
          have hrx : hRX K ad ws4 (hup g 4 f4) ct pt md (lN (hCs S I pt t)) kp fd := by rw [ews4]; exact hrx.obj
          refine lv_iconst (v := nI 0) hx hb dX9_choose_90 (by decide +kernel) ?_
          refine lv_istore (lv' := [(4, .int (nI 0)), (2, .long (lN (hCs S I pt t))), (1, .int (nI gs)), (0, .ref (ad 0))]) hx hb dX9_choose_91 hl (by decide) rfl (fun ls hl => ?_)
          refine hloopW (α := Nat) 93 5 (fun k => [(4, .int (nI k)), (2, .long (lN (hCs S I pt t))), (1, .int (nI gs)), (0, .ref (ad 0))]) (fun k w9 => k ≤ pt ∧ ∃ a6, hRX K ad w9 (hup (hup g 4 f4) 6 a6) ct pt md (lN (hCs S I pt t)) kp fd ∧ ∀ j, j < k → a6 j = nI (t j)) (fun k => pt - k) (fun _ => 0) (fun _ => 0) ?_ 0 ⟨Nat.zero_le _, (hup g 4 f4) 6, by rw [hup_id]; exact hrx, fun j hj => absurd hj (Nat.not_lt_zero _)⟩ hP hD hS (lv_sub hl [0, 1, 2, 3] rfl)
          intro k w9 H locs ls hI9 hP hD hS hl ih4
          obtain ⟨hk, a6, hrx, ha6⟩ := hI9
          have hl : lv_has ls 5 [(4, .int (nI k)), (2, .long (lN (hCs S I pt t))), (1, .int (nI gs)), (0, .ref (ad 0))] := hl
          have g0 := hrx.1
          have g5 : w9[5]? = some (ad 5, .inl (K 0, 6, .inl (g 5))) := hrx.2 5 (by decide) (by decide)
          have g6 : w9[6]? = some (ad 6, .inl (K 0, 6, .inl a6)) := hrx.2 6 (by decide) (by decide)
          refine lv_iload hx hb dX9_choose_93 (lv_at hl 0 rfl) ?_
          refine lv_aload_n hx hb dX9_choose_95 rfl (lv_at hl 3 rfl) ?_
          refine va_get (v := .int (nI pt)) (C := RX9) (T := TX9) (N := 18) hx hb hts (hin_X9 hmc) hown E.1.1 hP 0 g0 rfl 3 (by decide) (hts _ (hmc _ k_572)) (fun _ h9 => h9) rfl dX9_choose_96 ?_
          refine lv_icmp_ge (tgt := 122) hx hb dX9_choose_99 (by decide) (fun c7 => ?_) (fun c7 => ?_)
          · have hkp : k = pt := by
              have := (nI_leI (by omega) (by omega)).mp c7
              omega
            refine lv_aload_n hx hb dX9_choose_122 rfl (lv_at hl 3 rfl) ?_
            refine hc_i E hD hS (va_runV (As := []) (rest := []) ⟨hx, hb, hml, hown, hts⟩ ((c_X9_turn l D K tv w9 ad (hup (hup g 4 f4) 6 a6) ct pt md (lN (hCs S I pt t)) kp fd hrx hp6 t hat hpm) H.size) (cwV 0 hts (hGV hmc k_699 k_701 k_12 k_29 k_702) rfl rfl rfl (by decide +kernel) ⟨Nat.le_of_ble_eq_true rfl, Nat.le_of_ble_eq_true rfl⟩) (hpreV E hP hD hS g0 rfl) rfl rfl hl.1 rfl (lv_room (Nat.le_of_ble_eq_true rfl)) dX9_choose_123 ⟨(Nat.le_refl _), (Nat.le_refl _)⟩) (fun r6 ws5 H locs hp hP hD hS => ?_)
            refine lv_istore_n (lv' := [(1, .int r6), (4, .int (nI k)), (2, .long (lN (hCs S I pt t))), (0, .ref (ad 0))]) hx hb dX9_choose_126 rfl hl (by decide) rfl (fun ls hl => ?_)
            refine lv_goto (tgt := 54) hx hb dX9_choose_127 (by decide) ?_
            rcases hp with ⟨rfl, rfl, hall⟩ | ⟨rfl, F1, t1, hrx, hat1, hpm1, hvl, hnx⟩
            · exact ih (0, V) _ H locs ls ⟨_, _, t, hrx, (fun k h4 h5 h6 => (show hup (hup g 4 f4) 6 a6 k = g k from (if_neg h6).trans (if_neg h4)).trans (hfr k h4 h5 h6)), hca4, hat, hpm, hVe, Or.inl rfl, fun q => absurd q (show ¬ (0 : Nat) = 1 by decide), fun _ => ⟨t, hnew.last hall, (fun q hq => ha6 q (by omega)), rfl⟩⟩ (by show 0 + 2 * (50000 - V) < gs + 2 * (50000 - V); omega) hP hD hS (lv_sub hl [0, 3] rfl)
            · have hv6 := hVl_le (t := t1) pt (fun j hj => by have := hpm1.1 j hj; omega)
              have hp7 : 6 ^ pt ≤ 6 ^ 6 := Nat.pow_le_pow_right (by decide) hp6
              have hp8 : (6 : Nat) ^ 6 = 46656 := by decide
              exact ih (1, hVl t1 pt) _ H locs ls ⟨_, _, t1, hrx, fun k h4 h5 h6 => (if_neg h5).trans ((fun k h4 h5 h6 => (show hup (hup g 4 f4) 6 a6 k = g k from (if_neg h6).trans (if_neg h4)).trans (hfr k h4 h5 h6)) k h4 h5 h6), hca4, hat1, hpm1, rfl, Or.inr rfl, fun _ => Or.inr ⟨t, hnew.next hvl hnx, (fun q hq => ha6 q (by omega)), rfl⟩, fun q => absurd q (show ¬ (1 : Nat) = 0 by decide)⟩ (by show 1 + 2 * (50000 - hVl t1 pt) < gs + 2 * (50000 - V); omega) hP hD hS (lv_sub hl [0, 3] rfl)
          · have hk2 : k < pt := Nat.not_le.mp (fun z => c7 (nI_le z (by omega)))
            refine lv_aload_n hx hb dX9_choose_102 rfl (lv_at hl 3 rfl) ?_
            refine va_get (v := .ref (ad 6)) (C := RX9) (T := TX9) (N := 18) hx hb hts (hin_X9 hmc) hown E.1.1 hP 0 g0 rfl 8 (by decide) (hts _ (hmc _ k_577)) (fun _ h9 => h9) rfl dX9_choose_103 ?_
            refine lv_iload hx hb dX9_choose_106 (lv_at hl 0 rfl) ?_
            refine lv_aload_n hx hb dX9_choose_108 rfl (lv_at hl 3 rfl) ?_
            refine va_get (v := .ref (ad 5)) (C := RX9) (T := TX9) (N := 18) hx hb hts (hin_X9 hmc) hown E.1.1 hP 0 g0 rfl 7 (by decide) (hts _ (hmc _ k_576)) (fun _ h9 => h9) rfl dX9_choose_109 ?_
            refine lv_iload hx hb dX9_choose_112 (lv_at hl 0 rfl) ?_
            refine va_iald hx hb E.1.1 hP 5 0 g5 rfl (vp_in_nI (by omega) (by omega)) dX9_choose_114 ?_
            refine htopi (v := (g 5) k) (by rw [nI_clamp (by omega)]) ?_
            refine htopi (v := nI (t k)) (hat k hk2) ?_
            refine va_iast hx hb E.1.1 hP hD hS 6 0 g6 rfl (vp_in_nI (by omega) (by omega)) dX9_choose_115 (fun H locs hP hD hS => ?_)
            rw [nI_clamp (show k < 2 ^ 31 by omega)] at hP hD
            obtain ⟨ws7, ews7⟩ : ∃ zw : va_W, zw = List.set w9 6 ((ad 6), .inl (K 0, 6, .inl (upd a6 k (nI (t k))))) := ⟨_, rfl⟩
            have hP : va_P D vwCl ws7 H := by rw [ews7]; exact hP
            have hD : va_D A ws7 := by rw [ews7]; exact hD
            have g0 := (show ws7[0]? = _ from (by rw [ews7]; exact hset_ne (by omega))).trans g0
            have g5 := (show ws7[5]? = _ from (by rw [ews7]; exact hset_ne (by omega))).trans g5
            have g6 : ws7[6]? = some ((ad 6), .inl (K 0, 6, .inl (upd a6 k (nI (t k))))) := by rw [ews7]; exact hset_eq g6
            have hrx : hRX K ad ws7 (hup (hup (hup g 4 f4) 6 a6) 6 (upd a6 k (nI (t k)))) ct pt md (lN (hCs S I pt t)) kp fd := by rw [ews7]; exact hrx.arr 6 (by decide) (by decide) _
            refine lv_iinc (v := nI (k + 1)) (lv' := [(4, .int (nI (k + 1))), (2, .long (lN (hCs S I pt t))), (1, .int (nI gs)), (0, .ref (ad 0))]) hx hb dX9_choose_116 hl (k := 0) rfl (nI_1 _) (by decide) rfl (fun ls hl => ?_)
            refine lv_goto (tgt := 93) hx hb dX9_choose_119 (by decide) ?_
            rw [hup_up] at hrx
            exact ih4 (k + 1) _ H locs ls ⟨by omega, _, hrx, fun j hj => by
                by_cases z : j = k
                · subst z; rw [pk_us]
                · rw [pk_un z]; exact ha6 j (by omega)⟩ (by omega) hP hD hS (lv_sub hl [0, 1, 2, 3] rfl)
        · obtain ⟨B, hB, hg6, hlB⟩ := hlv.resolve_left (fun q => c4 ((lg_cmp_lt _ _).mpr q.1))
          subst hlB
          have hbl : hCs S I pt B ≤ 1000000000000 := (hCk_le S I B pt).2
          have g0 := hrx.1
          have g5 : ws2[5]? = some (ad 5, .inl (K 0, 6, .inl ((hup g 4 f4) 5))) := hrx.2 5 (by decide) (by decide)
          have g6 : ws2[6]? = some (ad 6, .inl (K 0, 6, .inl ((hup g 4 f4) 6))) := hrx.2 6 (by decide) (by decide)
          refine lv_lload_n hx hb dX9_choose_76 rfl (lv_at hl 0 rfl) ?_
          refine lv_aload_n hx hb dX9_choose_77 rfl (lv_at hl 2 rfl) ?_
          refine va_get (v := .long (lN (hCs S I pt B))) (C := RX9) (T := TX9) (N := 18) hx hb hts (hin_X9 hmc) hown E.1.1 hP 0 g0 rfl 9 (by decide) (hts _ (hmc _ k_578)) (fun _ h9 => h9) rfl dX9_choose_78 ?_
          refine W.lcmp hx hb dX9_choose_81 ?_
          refine lv_if_ge (tgt := 122) hx hb dX9_choose_82 (by decide) (fun c5 => ?_) (fun c5 => ?_)
          · have hold : hBto (hCs S I pt) pt (hVl t pt + 1) B := hB.keep hp6 (fun t u => hCs_ext t u) hpm ((hlcmp (by omega) (by omega)).mp c5)
            refine lv_aload_n hx hb dX9_choose_122 rfl (lv_at hl 2 rfl) ?_
            refine hc_i E hD hS (va_runV (As := []) (rest := []) ⟨hx, hb, hml, hown, hts⟩ ((c_X9_turn l D K tv ws2 ad (hup g 4 f4) ct pt md (lN (hCs S I pt B)) kp fd hrx hp6 t hat hpm) H.size) (cwV 0 hts (hGV hmc k_699 k_701 k_12 k_29 k_702) rfl rfl rfl (by decide +kernel) ⟨Nat.le_of_ble_eq_true rfl, Nat.le_of_ble_eq_true rfl⟩) (hpreV E hP hD hS g0 rfl) rfl rfl hl.1 rfl (lv_room (Nat.le_of_ble_eq_true rfl)) dX9_choose_123 ⟨(Nat.le_refl _), (Nat.le_refl _)⟩) (fun r9 ws8 H locs hp hP hD hS => ?_)
            refine lv_istore_n (lv' := [(1, .int r9), (2, .long (lN (hCs S I pt t))), (0, .ref (ad 0))]) hx hb dX9_choose_126 rfl hl (by decide) rfl (fun ls hl => ?_)
            refine lv_goto (tgt := 54) hx hb dX9_choose_127 (by decide) ?_
            rcases hp with ⟨rfl, rfl, hall⟩ | ⟨rfl, F1, t1, hrx, hat1, hpm1, hvl, hnx⟩
            · exact ih (0, V) _ H locs ls ⟨_, _, t, hrx, (fun k h4 h5 h6 => (show hup g 4 f4 k = g k from if_neg h4).trans (hfr k h4 h5 h6)), hca4, hat, hpm, hVe, Or.inl rfl, fun q => absurd q (show ¬ (0 : Nat) = 1 by decide), fun _ => ⟨B, hold.last hall, (fun q hq => hg6 q hq), rfl⟩⟩ (by show 0 + 2 * (50000 - V) < gs + 2 * (50000 - V); omega) hP hD hS (lv_sub hl [0, 2] rfl)
            · have hv6 := hVl_le (t := t1) pt (fun j hj => by have := hpm1.1 j hj; omega)
              have hp7 : 6 ^ pt ≤ 6 ^ 6 := Nat.pow_le_pow_right (by decide) hp6
              have hp8 : (6 : Nat) ^ 6 = 46656 := by decide
              exact ih (1, hVl t1 pt) _ H locs ls ⟨_, _, t1, hrx, fun k h4 h5 h6 => (if_neg h5).trans ((fun k h4 h5 h6 => (show hup g 4 f4 k = g k from if_neg h4).trans (hfr k h4 h5 h6)) k h4 h5 h6), hca4, hat1, hpm1, rfl, Or.inr rfl, fun _ => Or.inr ⟨B, hold.next hvl hnx, (fun q hq => hg6 q hq), rfl⟩, fun q => absurd q (show ¬ (1 : Nat) = 0 by decide)⟩ (by show 1 + 2 * (50000 - hVl t1 pt) < gs + 2 * (50000 - V); omega) hP hD hS (lv_sub hl [0, 2] rfl)
          · have hnew : hBto (hCs S I pt) pt (hVl t pt + 1) t := hB.take hp6 (fun t u => hCs_ext t u) hpm (Nat.not_le.mp (fun q => c5 ((hlcmp (by omega) (by omega)).mpr q)))
            refine lv_aload_n hx hb dX9_choose_85 rfl (lv_at hl 2 rfl) ?_
            refine lv_lload_n hx hb dX9_choose_86 rfl (lv_at hl 0 rfl) ?_
            refine va_put (v := .long (lN (hCs S I pt t))) (ty := .long) (C := RX9) (T := TX9) (N := 18) hx hb hts (hin_X9 hmc) tyX9 tyX9_ok nmX9 hown E.1.1 hP hD hS 0 g0 rfl 9 (by decide) (hts _ (hmc _ k_578)) (fun _ h9 => h9) rfl (by decide +kernel) rfl rfl (Nat.le_of_ble_eq_true rfl) dX9_choose_87 (fun H locs hP hD hS => ?_)
            obtain ⟨ws10, ews10⟩ : ∃ zw : va_W, zw = List.set ws2 0 ((ad 0), .inr (iM, [.ref (ad 1), .int (nI ct), .ref (ad 2), .int (nI pt), .ref (ad 3), .int (nI md), .ref (ad 4), .ref (ad 5), .ref (ad 6), .long (lN (hCs S I pt t)), .ref (ad 7), .ref (ad 8), .ref (ad 9), .ref (ad 10), .int (nI kp), .int fd, .ref (ad 11), .ref (ad 12)])) := ⟨_, rfl⟩
            have hP : va_P D vwCl ws10 H := by rw [ews10]; exact hP
            have hD : va_D A ws10 := by rw [ews10]; exact hD
            have g0 : ws10[0]? = some ((ad 0), .inr (iM, [.ref (ad 1), .int (nI ct), .ref (ad 2), .int (nI pt), .ref (ad 3), .int (nI md), .ref (ad 4), .ref (ad 5), .ref (ad 6), .long (lN (hCs S I pt t)), .ref (ad 7), .ref (ad 8), .ref (ad 9), .ref (ad 10), .int (nI kp), .int fd, .ref (ad 11), .ref (ad 12)])) := by rw [ews10]; exact hset_eq g0
            have g5 := (show ws10[5]? = _ from (by rw [ews10]; exact hset_ne (by omega))).trans g5
            have g6 := (show ws10[6]? = _ from (by rw [ews10]; exact hset_ne (by omega))).trans g6
            have hrx : hRX K ad ws10 (hup g 4 f4) ct pt md (lN (hCs S I pt t)) kp fd := by rw [ews10]; exact hrx.obj
            refine lv_iconst (v := nI 0) hx hb dX9_choose_90 (by decide +kernel) ?_
            refine lv_istore (lv' := [(4, .int (nI 0)), (2, .long (lN (hCs S I pt t))), (1, .int (nI gs)), (0, .ref (ad 0))]) hx hb dX9_choose_91 hl (by decide) rfl (fun ls hl => ?_)
            refine hloopW (α := Nat) 93 5 (fun k => [(4, .int (nI k)), (2, .long (lN (hCs S I pt t))), (1, .int (nI gs)), (0, .ref (ad 0))]) (fun k w9 => k ≤ pt ∧ ∃ a6, hRX K ad w9 (hup (hup g 4 f4) 6 a6) ct pt md (lN (hCs S I pt t)) kp fd ∧ ∀ j, j < k → a6 j = nI (t j)) (fun k => pt - k) (fun _ => 0) (fun _ => 0) ?_ 0 ⟨Nat.zero_le _, (hup g 4 f4) 6, by rw [hup_id]; exact hrx, fun j hj => absurd hj (Nat.not_lt_zero _)⟩ hP hD hS (lv_sub hl [0, 1, 2, 3] rfl)
            intro k w9 H locs ls hI9 hP hD hS hl ih4
            obtain ⟨hk, a6, hrx, ha6⟩ := hI9
            have hl : lv_has ls 5 [(4, .int (nI k)), (2, .long (lN (hCs S I pt t))), (1, .int (nI gs)), (0, .ref (ad 0))] := hl
            have g0 := hrx.1
            have g5 : w9[5]? = some (ad 5, .inl (K 0, 6, .inl (g 5))) := hrx.2 5 (by decide) (by decide)
            have g6 : w9[6]? = some (ad 6, .inl (K 0, 6, .inl a6)) := hrx.2 6 (by decide) (by decide)
            refine lv_iload hx hb dX9_choose_93 (lv_at hl 0 rfl) ?_
            refine lv_aload_n hx hb dX9_choose_95 rfl (lv_at hl 3 rfl) ?_
            refine va_get (v := .int (nI pt)) (C := RX9) (T := TX9) (N := 18) hx hb hts (hin_X9 hmc) hown E.1.1 hP 0 g0 rfl 3 (by decide) (hts _ (hmc _ k_572)) (fun _ h9 => h9) rfl dX9_choose_96 ?_
            refine lv_icmp_ge (tgt := 122) hx hb dX9_choose_99 (by decide) (fun c7 => ?_) (fun c7 => ?_)
            · have hkp : k = pt := by
                have := (nI_leI (by omega) (by omega)).mp c7
                omega
              refine lv_aload_n hx hb dX9_choose_122 rfl (lv_at hl 3 rfl) ?_
              refine hc_i E hD hS (va_runV (As := []) (rest := []) ⟨hx, hb, hml, hown, hts⟩ ((c_X9_turn l D K tv w9 ad (hup (hup g 4 f4) 6 a6) ct pt md (lN (hCs S I pt t)) kp fd hrx hp6 t hat hpm) H.size) (cwV 0 hts (hGV hmc k_699 k_701 k_12 k_29 k_702) rfl rfl rfl (by decide +kernel) ⟨Nat.le_of_ble_eq_true rfl, Nat.le_of_ble_eq_true rfl⟩) (hpreV E hP hD hS g0 rfl) rfl rfl hl.1 rfl (lv_room (Nat.le_of_ble_eq_true rfl)) dX9_choose_123 ⟨(Nat.le_refl _), (Nat.le_refl _)⟩) (fun r12 ws11 H locs hp hP hD hS => ?_)
              refine lv_istore_n (lv' := [(1, .int r12), (4, .int (nI k)), (2, .long (lN (hCs S I pt t))), (0, .ref (ad 0))]) hx hb dX9_choose_126 rfl hl (by decide) rfl (fun ls hl => ?_)
              refine lv_goto (tgt := 54) hx hb dX9_choose_127 (by decide) ?_
              rcases hp with ⟨rfl, rfl, hall⟩ | ⟨rfl, F1, t1, hrx, hat1, hpm1, hvl, hnx⟩
              · exact ih (0, V) _ H locs ls ⟨_, _, t, hrx, (fun k h4 h5 h6 => (show hup (hup g 4 f4) 6 a6 k = g k from (if_neg h6).trans (if_neg h4)).trans (hfr k h4 h5 h6)), hca4, hat, hpm, hVe, Or.inl rfl, fun q => absurd q (show ¬ (0 : Nat) = 1 by decide), fun _ => ⟨t, hnew.last hall, (fun q hq => ha6 q (by omega)), rfl⟩⟩ (by show 0 + 2 * (50000 - V) < gs + 2 * (50000 - V); omega) hP hD hS (lv_sub hl [0, 3] rfl)
              · have hv6 := hVl_le (t := t1) pt (fun j hj => by have := hpm1.1 j hj; omega)
                have hp7 : 6 ^ pt ≤ 6 ^ 6 := Nat.pow_le_pow_right (by decide) hp6
                have hp8 : (6 : Nat) ^ 6 = 46656 := by decide
                exact ih (1, hVl t1 pt) _ H locs ls ⟨_, _, t1, hrx, fun k h4 h5 h6 => (if_neg h5).trans ((fun k h4 h5 h6 => (show hup (hup g 4 f4) 6 a6 k = g k from (if_neg h6).trans (if_neg h4)).trans (hfr k h4 h5 h6)) k h4 h5 h6), hca4, hat1, hpm1, rfl, Or.inr rfl, fun _ => Or.inr ⟨t, hnew.next hvl hnx, (fun q hq => ha6 q (by omega)), rfl⟩, fun q => absurd q (show ¬ (1 : Nat) = 0 by decide)⟩ (by show 1 + 2 * (50000 - hVl t1 pt) < gs + 2 * (50000 - V); omega) hP hD hS (lv_sub hl [0, 3] rfl)
            · have hk2 : k < pt := Nat.not_le.mp (fun z => c7 (nI_le z (by omega)))
              refine lv_aload_n hx hb dX9_choose_102 rfl (lv_at hl 3 rfl) ?_
              refine va_get (v := .ref (ad 6)) (C := RX9) (T := TX9) (N := 18) hx hb hts (hin_X9 hmc) hown E.1.1 hP 0 g0 rfl 8 (by decide) (hts _ (hmc _ k_577)) (fun _ h9 => h9) rfl dX9_choose_103 ?_
              refine lv_iload hx hb dX9_choose_106 (lv_at hl 0 rfl) ?_
              refine lv_aload_n hx hb dX9_choose_108 rfl (lv_at hl 3 rfl) ?_
              refine va_get (v := .ref (ad 5)) (C := RX9) (T := TX9) (N := 18) hx hb hts (hin_X9 hmc) hown E.1.1 hP 0 g0 rfl 7 (by decide) (hts _ (hmc _ k_576)) (fun _ h9 => h9) rfl dX9_choose_109 ?_
              refine lv_iload hx hb dX9_choose_112 (lv_at hl 0 rfl) ?_
              refine va_iald hx hb E.1.1 hP 5 0 g5 rfl (vp_in_nI (by omega) (by omega)) dX9_choose_114 ?_
              refine htopi (v := (g 5) k) (by rw [nI_clamp (by omega)]) ?_
              refine htopi (v := nI (t k)) (hat k hk2) ?_
              refine va_iast hx hb E.1.1 hP hD hS 6 0 g6 rfl (vp_in_nI (by omega) (by omega)) dX9_choose_115 (fun H locs hP hD hS => ?_)
              rw [nI_clamp (show k < 2 ^ 31 by omega)] at hP hD
              obtain ⟨ws13, ews13⟩ : ∃ zw : va_W, zw = List.set w9 6 ((ad 6), .inl (K 0, 6, .inl (upd a6 k (nI (t k))))) := ⟨_, rfl⟩
              have hP : va_P D vwCl ws13 H := by rw [ews13]; exact hP
              have hD : va_D A ws13 := by rw [ews13]; exact hD
              have g0 := (show ws13[0]? = _ from (by rw [ews13]; exact hset_ne (by omega))).trans g0
              have g5 := (show ws13[5]? = _ from (by rw [ews13]; exact hset_ne (by omega))).trans g5
              have g6 : ws13[6]? = some ((ad 6), .inl (K 0, 6, .inl (upd a6 k (nI (t k))))) := by rw [ews13]; exact hset_eq g6
              have hrx : hRX K ad ws13 (hup (hup (hup g 4 f4) 6 a6) 6 (upd a6 k (nI (t k)))) ct pt md (lN (hCs S I pt t)) kp fd := by rw [ews13]; exact hrx.arr 6 (by decide) (by decide) _
              refine lv_iinc (v := nI (k + 1)) (lv' := [(4, .int (nI (k + 1))), (2, .long (lN (hCs S I pt t))), (1, .int (nI gs)), (0, .ref (ad 0))]) hx hb dX9_choose_116 hl (k := 0) rfl (nI_1 _) (by decide) rfl (fun ls hl => ?_)
              refine lv_goto (tgt := 93) hx hb dX9_choose_119 (by decide) ?_
              rw [hup_up] at hrx
              exact ih4 (k + 1) _ H locs ls ⟨by omega, _, hrx, fun j hj => by
                  by_cases z : j = k
                  · subst z; rw [pk_us]
                  · rw [pk_un z]; exact ha6 j (by omega)⟩ (by omega) hP hD hS (lv_sub hl [0, 1, 2, 3] rfl)
    · have hk2 : k < pt := Nat.not_le.mp (fun z => c2 (nI_le z (by omega)))
      refine lv_aload_n hx hb dX9_choose_32 rfl (lv_at hl 1 rfl) ?_
      refine va_get (v := .ref (ad 5)) (C := RX9) (T := TX9) (N := 18) hx hb hts (hin_X9 hmc) hown E.1.1 hP 0 g0 rfl 7 (by decide) (hts _ (hmc _ k_576)) (fun _ h9 => h9) rfl dX9_choose_33 ?_
      refine lv_iload_n hx hb dX9_choose_36 rfl (lv_at hl 0 rfl) ?_
      refine lv_iload_n hx hb dX9_choose_37 rfl (lv_at hl 0 rfl) ?_
      refine va_iast hx hb E.1.1 hP hD hS 5 0 g5 rfl (vp_in_nI (by omega) (by omega)) dX9_choose_38 (fun H locs hP hD hS => ?_)
      rw [nI_clamp (show k < 2 ^ 31 by omega)] at hP hD
      obtain ⟨ws14, ews14⟩ : ∃ zw : va_W, zw = List.set w9 5 ((ad 5), .inl (K 0, 6, .inl (upd a5 k (nI k)))) := ⟨_, rfl⟩
      have hP : va_P D vwCl ws14 H := by rw [ews14]; exact hP
      have hD : va_D A ws14 := by rw [ews14]; exact hD
      have g0 := (show ws14[0]? = _ from (by rw [ews14]; exact hset_ne (by omega))).trans g0
      have g5 : ws14[5]? = some ((ad 5), .inl (K 0, 6, .inl (upd a5 k (nI k)))) := by rw [ews14]; exact hset_eq g5
      have hrx : hRX K ad ws14 (hup (hup (hup f 4 a4) 5 a5) 5 (upd a5 k (nI k))) ct pt md lz kp fd := by rw [ews14]; exact hrx.arr 5 (by decide) (by decide) _
      refine lv_iinc (v := nI (k + 1)) (lv' := [(1, .int (nI (k + 1))), (0, .ref (ad 0))]) hx hb dX9_choose_39 hl (k := 0) rfl (nI_1 _) (by decide) rfl (fun ls hl => ?_)
      refine lv_goto (tgt := 24) hx hb dX9_choose_42 (by decide) ?_
      rw [hup_up] at hrx
      exact ih (k + 1) _ H locs ls ⟨by omega, _, hrx, fun j hj => by
          by_cases z : j = k
          · subst z; rw [pk_us]
          · rw [pk_un z]; exact ha5 j (by omega)⟩ (by omega) hP hD hS (lv_sub hl [0, 1] rfl)
  · have hi2 : i < 1536 := Nat.not_le.mp (fun z => c1 (nI_le z (by omega)))
    refine lv_aload_n hx hb dX9_choose_9 rfl (lv_at hl 1 rfl) ?_
    refine va_get (v := .ref (ad 4)) (C := RX9) (T := TX9) (N := 18) hx hb hts (hin_X9 hmc) hown E.1.1 hP 0 g0 rfl 6 (by decide) (hts _ (hmc _ k_575)) (fun _ h9 => h9) rfl dX9_choose_10 ?_
    refine lv_iload_n hx hb dX9_choose_13 rfl (lv_at hl 0 rfl) ?_
    refine lv_iconst (v := (-1)) hx hb dX9_choose_14 (by decide +kernel) ?_
    refine va_iast hx hb E.1.1 hP hD hS 4 0 g4 rfl (vp_in_nI (by omega) (by omega)) dX9_choose_15 (fun H locs hP hD hS => ?_)
    rw [nI_clamp (show i < 2 ^ 31 by omega)] at hP hD
    obtain ⟨ws15, ews15⟩ : ∃ zw : va_W, zw = List.set w9 4 ((ad 4), .inl (K 0, 1536, .inl (upd ((hup f 4 a4) 4) i (-1)))) := ⟨_, rfl⟩
    have hP : va_P D vwCl ws15 H := by rw [ews15]; exact hP
    have hD : va_D A ws15 := by rw [ews15]; exact hD
    have g0 := (show ws15[0]? = _ from (by rw [ews15]; exact hset_ne (by omega))).trans g0
    have g4 : ws15[4]? = some ((ad 4), .inl (K 0, 1536, .inl (upd ((hup f 4 a4) 4) i (-1)))) := by rw [ews15]; exact hset_eq g4
    have hrx : hRX K ad ws15 (hup (hup f 4 a4) 4 (upd ((hup f 4 a4) 4) i (-1))) ct pt md lz kp fd := by rw [ews15]; exact hrx.arr 4 (by decide) (by decide) _
    refine lv_iinc (v := nI (i + 1)) (lv' := [(1, .int (nI (i + 1))), (0, .ref (ad 0))]) hx hb dX9_choose_16 hl (k := 0) rfl (nI_1 _) (by decide) rfl (fun ls hl => ?_)
    refine lv_goto (tgt := 2) hx hb dX9_choose_19 (by decide) ?_
    rw [hup_up] at hrx
    exact ih (i + 1) _ H locs ls ⟨by omega, _, hrx, fun j hj => by
        by_cases z : j = i
        · subst z; rw [pk_us]
        · rw [pk_un z]; exact ha4 j (by omega)⟩ (by omega) hP hD hS (lv_sub hl [0, 1] rfl)

theorem hneg_all : ∀ x, x < 72 → 64 ≤ x → -(hit x) = nI (x - 63) := by decide +kernel
theorem hneg_it {x : Nat} (h : 64 ≤ x) (h2 : x < 72) : -(hit x) = nI (x - 63) := hneg_all x h2 h
theorem hup_78 (f : Nat → Nat → Int32) (a b c d : Nat → Int32) : hup (hup (hup (hup f 7 a) 8 b) 7 c) 8 d = hup (hup f 7 c) 8 d := by
  funext j
  unfold hup
  by_cases z : j = 8
  · simp [z]
  · by_cases y : j = 7
    · simp [y]
    · simp [z, y]

-- THE JOIN OF THE REFERENCE
/-- how often a variable stands in the first places -/
def hoc (J : Nat → Nat) (x : Nat) : Nat → Nat
  | 0 => 0
  | q + 1 => hoc J x q + (if J q = 64 + x then 1 else 0)
theorem hoc_num {J : Nat → Nat} {q : Nat} (x : Nat) (h : ¬ J q = 64 + x) : hoc J x (q + 1) = hoc J x q := by
  show hoc J x q + (if J q = 64 + x then 1 else 0) = _
  rw [if_neg h, Nat.add_zero]
theorem hoc_var {J : Nat → Nat} {q : Nat} (x : Nat) (h : J q = 64 + x) : hoc J x (q + 1) = hoc J x q + 1 := by
  show hoc J x q + (if J q = 64 + x then 1 else 0) = _
  rw [if_pos h]
theorem hoc_mono (J : Nat → Nat) (x q : Nat) : ∀ d, hoc J x q ≤ hoc J x (q + d)
  | 0 => Nat.le_refl _
  | d + 1 => Nat.le_trans (hoc_mono J x q d) (Nat.le_add_right _ _)
theorem hoc_le (J : Nat → Nat) (x : Nat) : ∀ q, hoc J x q ≤ q
  | 0 => Nat.le_refl _
  | q + 1 => by
    have := hoc_le J x q
    show hoc J x q + (if J q = 64 + x then 1 else 0) ≤ q + 1
    split <;> omega
/-- the arrays values and bound -/
def hBV (f7 f8 : Nat → Int32) (cn e : Nat → Nat) : Prop := ∀ x, x < 8 → f8 (x + 1) = nI (cn x) ∧ (cn x = 0 ↔ e x = 0) ∧ e x ≤ 64 ∧ (¬ e x = 0 → f7 (x + 1) = nI (e x - 1))
theorem hXe_s {J e : Nat → Nat} {a b c q x : Nat} : (64 ≤ J q → x = J q - 64 → hXe J e a b c (q + 1) x = hpk q a b c + 1) ∧ ((J q < 64 ∨ ¬ x = J q - 64) → hXe J e a b c (q + 1) x = hXe J e a b c q x) := by
  have s : hXe J e a b c (q + 1) = if 64 ≤ J q then (fun x => if x = J q - 64 then hpk q a b c + 1 else hXe J e a b c q x) else hXe J e a b c q := rfl
  constructor
  · intro h1 h2
    rw [s, if_pos h1]
    exact if_pos h2
  · intro h
    rw [s]
    by_cases h1 : 64 ≤ J q
    · rw [if_pos h1]
      exact if_neg (h.resolve_left (Nat.not_lt.mpr h1))
    · rw [if_neg h1]
theorem hXe_keep {J e : Nat → Nat} {a b c x : Nat} (hx : ¬ e x = 0) : ∀ n, hCq J e a b c n → hXe J e a b c n x = e x
  | 0, _ => rfl
  | q + 1, h => by
    have ih := hXe_keep hx q h.1
    by_cases z : 64 ≤ J q ∧ x = J q - 64
    · rw [hXe_s.1 z.1 z.2]
      have := h.2.2 z.1
      rw [← z.2, ih] at this
      exact (this.resolve_left hx).symm
    · rw [hXe_s.2 (by omega)]
      exact ih
theorem hCq_mono {J e : Nat → Nat} {a b c m : Nat} : ∀ d, hCq J e a b c (m + d) → hCq J e a b c m
  | 0, h => h
  | d + 1, h => hCq_mono d h.1
theorem hXe_zero {J e : Nat → Nat} {a b c x : Nat} : ∀ n, hXe J e a b c n x = 0 ↔ (e x = 0 ∧ hoc J x n = 0)
  | 0 => ⟨fun h => ⟨h, rfl⟩, fun h => h.1⟩
  | q + 1 => by
    have ih := hXe_zero (J := J) (e := e) (a := a) (b := b) (c := c) (x := x) q
    by_cases z : 64 ≤ J q ∧ x = J q - 64
    · rw [hXe_s.1 z.1 z.2, hoc_var x (by omega)]
      exact ⟨fun h => absurd h (Nat.succ_ne_zero _), fun h => absurd h.2 (Nat.succ_ne_zero _)⟩
    · rw [hXe_s.2 (by omega), hoc_num x (by omega)]
      exact ih
theorem hXe_le {J e : Nat → Nat} {a b c x : Nat} (ha : a < 64) (hb : b < 64) (hc : c < 64) (he : e x ≤ 64) : ∀ n, hXe J e a b c n x ≤ 64
  | 0 => he
  | q + 1 => by
    have ih := hXe_le (J := J) ha hb hc he q
    by_cases z : 64 ≤ J q ∧ x = J q - 64
    · rw [hXe_s.1 z.1 z.2]
      exact hpk_lt ha hb hc
    · rw [hXe_s.2 (by omega)]
      exact ih
theorem hBV.num {f7 f8 : Nat → Int32} {cn J e : Nat → Nat} {a b c i : Nat} (h : hBV f7 f8 (fun x => cn x + hoc J x i) (hXe J e a b c i)) (hn : J i < 64) : hBV f7 f8 (fun x => cn x + hoc J x (i + 1)) (hXe J e a b c (i + 1)) := fun x hx => by
  have q := h x hx
  dsimp only at q ⊢
  rw [hoc_num x (by omega), hXe_s.2 (Or.inl hn)]
  exact q
theorem hBV.put {f7 f8 : Nat → Int32} {cn J e : Nat → Nat} {a b c i : Nat} (h : hBV f7 f8 (fun x => cn x + hoc J x i) (hXe J e a b c i)) (hv : 64 ≤ J i) (ha : a < 64) (hb : b < 64) (hc : c < 64) : hBV (upd f7 (J i - 63) (nI (hpk i a b c))) (upd f8 (J i - 63) (nI (cn (J i - 64) + hoc J (J i - 64) i + 1))) (fun x => cn x + hoc J x (i + 1)) (hXe J e a b c (i + 1)) := fun x hx => by
  have q := h x hx
  dsimp only at q ⊢
  by_cases z : x = J i - 64
  · rw [hoc_var x (by omega), hXe_s.1 hv z, show x + 1 = J i - 63 by omega, pk_us, pk_us, z]
    have := hpk_lt (q := i) ha hb hc
    exact ⟨by rw [Nat.add_assoc], ⟨fun w => by omega, fun w => by omega⟩, by omega, fun _ => by rw [Nat.add_sub_cancel]⟩
  · rw [hoc_num x (by omega), hXe_s.2 (Or.inr z), pk_un (by omega), pk_un (by omega)]
    exact q
theorem hBV.back {f7 f8 f9 : Nat → Int32} {cn J e : Nat → Nat} {a b c i : Nat} (h : hBV f7 f8 (fun x => cn x + hoc J x i) (hXe J e a b c i)) (hq : hCq J e a b c i) (hs : ∀ x, x < 8 → (cn x = 0 ↔ e x = 0) ∧ e x ≤ 64) (h9 : ∀ x, x < 8 → f9 (x + 1) = nI (cn x)) : hBV f7 f9 cn e := fun x hx => by
  refine ⟨h9 x hx, (hs x hx).1, (hs x hx).2, fun z => ?_⟩
  have k := hXe_keep (J := J) (a := a) (b := b) (c := c) z i hq
  have q := (h x hx).2.2.2
  rw [k] at q
  exact q z
/-- what is bound before level j, when level i has taken triple pl i -/
def hEv (Ps : Nat → Nat → Nat) (ta tb tc pl : Nat → Nat) : Nat → Nat → Nat
  | 0 => fun _ => 0
  | j + 1 => hXe (Ps j) (hEv Ps ta tb tc pl j) (ta (pl j)) (tb (pl j)) (tc (pl j)) 3
def hOS (Ps : Nat → Nat → Nat) (x : Nat) : Nat → Nat
  | 0 => 0
  | j + 1 => hOS Ps x j + hoc (Ps j) x 3
theorem hOS_le (Ps : Nat → Nat → Nat) (x : Nat) : ∀ j, hOS Ps x j ≤ 3 * j
  | 0 => Nat.le_refl _
  | j + 1 => by
    have h1 := hOS_le Ps x j
    have h2 := hoc_le (Ps j) x 3
    show hOS Ps x j + hoc (Ps j) x 3 ≤ 3 * (j + 1)
    omega
theorem hEv_str {Ps : Nat → Nat → Nat} {ta tb tc pl : Nat → Nat} {ct : Nat} (t64 : ∀ t, t < ct → ta t < 64 ∧ tb t < 64 ∧ tc t < 64) : ∀ j, (∀ i, i < j → pl i < ct) → ∀ x, x < 8 → (hOS Ps x j = 0 ↔ hEv Ps ta tb tc pl j x = 0) ∧ hEv Ps ta tb tc pl j x ≤ 64
  | 0, _, x, _ => ⟨⟨fun _ => rfl, fun _ => rfl⟩, Nat.zero_le _⟩
  | j + 1, h, x, hx => by
    obtain ⟨i1, i2⟩ := hEv_str (Ps := Ps) (pl := pl) t64 j (fun i hi => h i (by omega)) x hx
    obtain ⟨b1, b2, b3⟩ := t64 _ (h j (Nat.lt_succ_self _))
    refine ⟨?_, hXe_le b1 b2 b3 i2 3⟩
    show hOS Ps x j + hoc (Ps j) x 3 = 0 ↔ hXe (Ps j) (hEv Ps ta tb tc pl j) (ta (pl j)) (tb (pl j)) (tc (pl j)) 3 x = 0
    rw [hXe_zero, ← i1]
    exact ⟨fun w => ⟨by omega, by omega⟩, fun w => by omega⟩
theorem hEv_ext {Ps : Nat → Nat → Nat} {ta tb tc pl p2 : Nat → Nat} : ∀ j, (∀ i, i < j → pl i = p2 i) → hEv Ps ta tb tc pl j = hEv Ps ta tb tc p2 j
  | 0, _ => rfl
  | j + 1, h => by
    show hXe (Ps j) (hEv Ps ta tb tc pl j) (ta (pl j)) (tb (pl j)) (tc (pl j)) 3 = hXe (Ps j) (hEv Ps ta tb tc p2 j) (ta (p2 j)) (tb (p2 j)) (tc (p2 j)) 3
    rw [hEv_ext j (fun i hi => h i (by omega)), h j (Nat.lt_succ_self _)]
/-- what comes at level j from triple d on -/
noncomputable def hRm (w z : Nat) (S : Nat → Nat → Nat → Prop) (Ps : Nat → Nat → Nat) (n ct : Nat) (ta tb tc : Nat → Nat) (j : Nat) (e : Nat → Nat) (d : Nat) : Nat := hsm (fun t => d ≤ t ∧ hCq (Ps j) e (ta t) (tb t) (tc t) 3) (fun t => w + hCt w z S Ps n (n - (j + 1)) (hXe (Ps j) e (ta t) (tb t) (tc t) 3)) ct
/-- what comes at the levels below b -/
noncomputable def hRs (w z : Nat) (S : Nat → Nat → Nat → Prop) (Ps : Nat → Nat → Nat) (n ct : Nat) (ta tb tc pl : Nat → Nat) : Nat → Nat
  | 0 => 0
  | b + 1 => hRs w z S Ps n ct ta tb tc pl b + hRm w z S Ps n ct ta tb tc b (hEv Ps ta tb tc pl b) (pl b + 1)
theorem hRs_ext {w z n ct : Nat} {S : Nat → Nat → Nat → Prop} {Ps : Nat → Nat → Nat} {ta tb tc pl p2 : Nat → Nat} : ∀ j, (∀ i, i < j → pl i = p2 i) → hRs w z S Ps n ct ta tb tc pl j = hRs w z S Ps n ct ta tb tc p2 j
  | 0, _ => rfl
  | j + 1, h => by
    show hRs w z S Ps n ct ta tb tc pl j + hRm w z S Ps n ct ta tb tc j (hEv Ps ta tb tc pl j) (pl j + 1) = hRs w z S Ps n ct ta tb tc p2 j + hRm w z S Ps n ct ta tb tc j (hEv Ps ta tb tc p2 j) (p2 j + 1)
    rw [hRs_ext j (fun i hi => h i (by omega)), hEv_ext j (fun i hi => h i (by omega)), h j (Nat.lt_succ_self _)]
theorem hRm_skip {w z n ct j d : Nat} {S : Nat → Nat → Nat → Prop} {Ps : Nat → Nat → Nat} {ta tb tc e : Nat → Nat} (h : ¬ hCq (Ps j) e (ta d) (tb d) (tc d) 3) : hRm w z S Ps n ct ta tb tc j e d = hRm w z S Ps n ct ta tb tc j e (d + 1) := hsm_ext ct (fun t _ => ⟨fun q => ⟨by
  rcases Nat.lt_or_ge d t with y | y
  · exact y
  · have : t = d := by have := q.1; omega
    subst this
    exact absurd q.2 h, q.2⟩, fun q => ⟨by have := q.1; omega, q.2⟩⟩) (fun _ _ _ => rfl)
theorem hRm_take {w z n ct j d : Nat} {S : Nat → Nat → Nat → Prop} {Ps : Nat → Nat → Nat} {ta tb tc e : Nat → Nat} (hd : d < ct) (h : hCq (Ps j) e (ta d) (tb d) (tc d) 3) : hRm w z S Ps n ct ta tb tc j e d = hRm w z S Ps n ct ta tb tc j e (d + 1) + (w + hCt w z S Ps n (n - (j + 1)) (hXe (Ps j) e (ta d) (tb d) (tc d) 3)) := by
  unfold hRm
  rw [hsm_add (P := fun t => d + 1 ≤ t ∧ hCq (Ps j) e (ta t) (tb t) (tc t) 3) (Q := fun t => d ≤ t ∧ hCq (Ps j) e (ta t) (tb t) (tc t) 3) (x := d) (fun q => by have := q.1; omega) (fun y => ?_) ct, if_pos hd]
  constructor
  · intro q
    by_cases e9 : y = d
    · exact Or.inr e9
    · exact Or.inl ⟨by have := q.1; omega, q.2⟩
  · rintro (q | q)
    · exact ⟨by have := q.1; omega, q.2⟩
    · subst q; exact ⟨Nat.le_refl _, h⟩
theorem hRm_end {w z n ct j d : Nat} {S : Nat → Nat → Nat → Prop} {Ps : Nat → Nat → Nat} {ta tb tc e : Nat → Nat} (hd : ct ≤ d) : hRm w z S Ps n ct ta tb tc j e d = 0 := hsm_none ct (fun t ht q => by have := q.1; omega)
theorem hCt_lv {w z n ct j : Nat} {S : Nat → Nat → Nat → Prop} {Ps : Nat → Nat → Nat} {ta tb tc e : Nat → Nat} (t64 : ∀ t, t < ct → ta t < 64 ∧ tb t < 64 ∧ tc t < 64) (t2 : ∀ i j, i < j → j < ct → ¬ (ta i = ta j ∧ tb i = tb j ∧ tc i = tc j)) (t3 : ∀ a b c, S a b c ↔ ∃ i, i < ct ∧ ta i = a ∧ tb i = b ∧ tc i = c) (hj : j < n) : hCt w z S Ps n (n - j) e = hRm w z S Ps n ct ta tb tc j e 0 := by
  have e1 : n - (n - (j + 1) + 1) = j := by omega
  have key := hCt_en (w := w) (z := z) (n := n) (r := n - (j + 1)) (m := ct) (S := S) (Ps := Ps) (e := e) (A := fun t => 0 ≤ t ∧ hCq (Ps j) e (ta t) (tb t) (tc t) 3) (ta := ta) (tb := tb) (tc := tc) (fun t ht _ => t64 t ht) (fun u t h1 h2 _ _ => t2 u t h1 h2) (fun a b c _ _ _ => by
    rw [e1]
    constructor
    · rintro ⟨hS, hQ⟩
      obtain ⟨t, ht, rfl, rfl, rfl⟩ := (t3 _ _ _).mp hS
      exact ⟨t, ht, ⟨Nat.zero_le _, hQ⟩, rfl, rfl, rfl⟩
    · rintro ⟨t, ht, hA, rfl, rfl, rfl⟩
      exact ⟨(t3 _ _ _).mpr ⟨t, ht, rfl, rfl, rfl⟩, hA.2⟩)
  rw [e1] at key
  rw [show n - j = n - (j + 1) + 1 by omega, key]
  rfl
/-- the count so far and what is to come -/
def hJI (w z X : Nat) (S : Nat → Nat → Nat → Prop) (Ps : Nat → Nat → Nat) (n ct : Nat) (ta tb tc pl : Nat → Nat) (b d : Nat) : Prop := X + hRs w z S Ps n ct ta tb tc pl b + hRm w z S Ps n ct ta tb tc b (hEv Ps ta tb tc pl b) d = hCt w z S Ps n n (fun _ => 0)
/-- the levels below b have taken their triples -/
def hLvl (h : Nat → Int32) (Ps : Nat → Nat → Nat) (ct : Nat) (ta tb tc pl : Nat → Nat) (b : Nat) : Prop := ∀ j, j < b → pl j < ct ∧ h j = nI (pl j) ∧ hCq (Ps j) (hEv Ps ta tb tc pl j) (ta (pl j)) (tb (pl j)) (tc (pl j)) 3
/-- level b is open, or has taken a triple -/
def hCur (f7 f8 f9 : Nat → Int32) (Ps : Nat → Nat → Nat) (ct : Nat) (ta tb tc pl : Nat → Nat) (b d : Nat) : Prop := (f9 b = (-1) ∧ d = 0 ∧ hBV f7 f8 (fun x => hOS Ps x b) (hEv Ps ta tb tc pl b)) ∨ (pl b < ct ∧ f9 b = nI (pl b) ∧ d = pl b + 1 ∧ hCq (Ps b) (hEv Ps ta tb tc pl b) (ta (pl b)) (tb (pl b)) (tc (pl b)) 3 ∧ hBV f7 f8 (fun x => hOS Ps x (b + 1)) (hEv Ps ta tb tc pl (b + 1)))
def hpu (pl : Nat → Nat) (b t : Nat) : Nat → Nat := fun j => if j = b then t else pl j
theorem hpu_eq (pl : Nat → Nat) (b t : Nat) : hpu pl b t b = t := if_pos rfl
theorem hpu_ne {pl : Nat → Nat} {b t j : Nat} (h : ¬ j = b) : hpu pl b t j = pl j := if_neg h
theorem hpu_ev {Ps : Nat → Nat → Nat} {ta tb tc pl : Nat → Nat} {b t : Nat} : ∀ j, j ≤ b → hEv Ps ta tb tc (hpu pl b t) j = hEv Ps ta tb tc pl j := fun j hj => hEv_ext j (fun i hi => hpu_ne (by omega))
theorem hpu_ev1 {Ps : Nat → Nat → Nat} {ta tb tc pl : Nat → Nat} {b t : Nat} : hEv Ps ta tb tc (hpu pl b t) (b + 1) = hXe (Ps b) (hEv Ps ta tb tc pl b) (ta t) (tb t) (tc t) 3 := by
  show hXe (Ps b) (hEv Ps ta tb tc (hpu pl b t) b) (ta (hpu pl b t b)) (tb (hpu pl b t b)) (tc (hpu pl b t b)) 3 = _
  rw [hpu_ev b (Nat.le_refl _), hpu_eq]
theorem hLvl.put {h h2 : Nat → Int32} {Ps : Nat → Nat → Nat} {ct b t : Nat} {ta tb tc pl : Nat → Nat} (hl : hLvl h Ps ct ta tb tc pl b) (hh : ∀ j, j < b → h2 j = h j) (hb : h2 b = nI t) (ht : t < ct) (hq : hCq (Ps b) (hEv Ps ta tb tc pl b) (ta t) (tb t) (tc t) 3) : hLvl h2 Ps ct ta tb tc (hpu pl b t) (b + 1) := fun j hj => by
  by_cases z : j = b
  · subst z
    rw [hpu_eq, hpu_ev j (Nat.le_refl _)]
    exact ⟨ht, hb, hq⟩
  · rw [hpu_ne z, hpu_ev j (by omega), hh j (by omega)]
    exact hl j (by omega)
theorem hLvl.less {h h2 : Nat → Int32} {Ps : Nat → Nat → Nat} {ct b c : Nat} {ta tb tc pl : Nat → Nat} (hl : hLvl h Ps ct ta tb tc pl b) (hc : c ≤ b) (hh : ∀ j, j < c → h2 j = h j) : hLvl h2 Ps ct ta tb tc pl c := fun j hj => by
  rw [hh j hj]
  exact hl j (by omega)
theorem hJI.deep {w z X n ct b t : Nat} {S : Nat → Nat → Nat → Prop} {Ps : Nat → Nat → Nat} {ta tb tc pl : Nat → Nat} (h : hJI w z X S Ps n ct ta tb tc pl b t) (t64 : ∀ t, t < ct → ta t < 64 ∧ tb t < 64 ∧ tc t < 64) (t2 : ∀ i j, i < j → j < ct → ¬ (ta i = ta j ∧ tb i = tb j ∧ tc i = tc j)) (t3 : ∀ a b c, S a b c ↔ ∃ i, i < ct ∧ ta i = a ∧ tb i = b ∧ tc i = c) (hb : b + 1 < n) (ht : t < ct) (hq : hCq (Ps b) (hEv Ps ta tb tc pl b) (ta t) (tb t) (tc t) 3) : hJI w z (X + w) S Ps n ct ta tb tc (hpu pl b t) (b + 1) 0 := by
  unfold hJI at h ⊢
  rw [hRm_take ht hq] at h
  rw [← hCt_lv t64 t2 t3 hb, hpu_ev1]
  show X + w + (hRs w z S Ps n ct ta tb tc (hpu pl b t) b + hRm w z S Ps n ct ta tb tc b (hEv Ps ta tb tc (hpu pl b t) b) (hpu pl b t b + 1)) + _ = _
  rw [hRs_ext (p2 := pl) b (fun i hi => hpu_ne (by omega)), hpu_ev b (Nat.le_refl _), hpu_eq]
  omega
theorem hJI.last {w z X n ct b t : Nat} {S : Nat → Nat → Nat → Prop} {Ps : Nat → Nat → Nat} {ta tb tc pl : Nat → Nat} (h : hJI w z X S Ps n ct ta tb tc pl b t) (hb : b + 1 = n) (ht : t < ct) (hq : hCq (Ps b) (hEv Ps ta tb tc pl b) (ta t) (tb t) (tc t) 3) : hJI w z (X + (w + z)) S Ps n ct ta tb tc (hpu pl b t) b (t + 1) := by
  unfold hJI at h ⊢
  rw [hRm_take ht hq, show n - (b + 1) = 0 by omega] at h
  rw [hRs_ext (p2 := pl) b (fun i hi => hpu_ne (by omega)), hpu_ev b (Nat.le_refl _)]
  have e : hCt w z S Ps n 0 (hXe (Ps b) (hEv Ps ta tb tc pl b) (ta t) (tb t) (tc t) 3) = z := rfl
  rw [e] at h
  omega
theorem hJI.pop {w z X n ct b t : Nat} {S : Nat → Nat → Nat → Prop} {Ps : Nat → Nat → Nat} {ta tb tc pl : Nat → Nat} (h : hJI w z X S Ps n ct ta tb tc pl (b + 1) t) (ht : ct ≤ t) : hJI w z X S Ps n ct ta tb tc pl b (pl b + 1) := by
  unfold hJI at h ⊢
  rw [hRm_end ht] at h
  have e : hRs w z S Ps n ct ta tb tc pl (b + 1) = hRs w z S Ps n ct ta tb tc pl b + hRm w z S Ps n ct ta tb tc b (hEv Ps ta tb tc pl b) (pl b + 1) := rfl
  rw [e] at h
  omega
theorem hJI.done {w z X n ct t : Nat} {S : Nat → Nat → Nat → Prop} {Ps : Nat → Nat → Nat} {ta tb tc pl : Nat → Nat} (h : hJI w z X S Ps n ct ta tb tc pl 0 t) (ht : ct ≤ t) : X = hCt w z S Ps n n (fun _ => 0) := by
  unfold hJI at h
  rw [hRm_end ht] at h
  exact h
theorem hJI.skip {w z X n ct b t : Nat} {S : Nat → Nat → Nat → Prop} {Ps : Nat → Nat → Nat} {ta tb tc pl : Nat → Nat} (h : hJI w z X S Ps n ct ta tb tc pl b t) (hq : ¬ hCq (Ps b) (hEv Ps ta tb tc pl b) (ta t) (tb t) (tc t) 3) : hJI w z X S Ps n ct ta tb tc pl b (t + 1) := by
  unfold hJI at h ⊢
  rw [hRm_skip hq] at h
  exact h
theorem hJI.more {z X n ct b t : Nat} {S : Nat → Nat → Nat → Prop} {Ps : Nat → Nat → Nat} {ta tb tc pl : Nat → Nat} (h : hJI 1 z X S Ps n ct ta tb tc pl b t) (ht : t < ct) (hq : hCq (Ps b) (hEv Ps ta tb tc pl b) (ta t) (tb t) (tc t) 3) : X + 1 ≤ hCt 1 z S Ps n n (fun _ => 0) := by
  unfold hJI at h
  rw [hRm_take ht hq] at h
  omega
theorem hCur.put {f7 f8 f9 : Nat → Int32} {Ps : Nat → Nat → Nat} {ct b t : Nat} {ta tb tc pl : Nat → Nat} (hb : f9 b = nI t) (ht : t < ct) (hq : hCq (Ps b) (hEv Ps ta tb tc pl b) (ta t) (tb t) (tc t) 3) (hv : hBV f7 f8 (fun x => hOS Ps x b + hoc (Ps b) x 3) (hXe (Ps b) (hEv Ps ta tb tc pl b) (ta t) (tb t) (tc t) 3)) : hCur f7 f8 f9 Ps ct ta tb tc (hpu pl b t) b (t + 1) := by
  refine Or.inr ⟨?_, ?_, ?_, ?_, ?_⟩
  · rw [hpu_eq]; exact ht
  · rw [hpu_eq]; exact hb
  · rw [hpu_eq]
  · rw [hpu_eq, hpu_ev b (Nat.le_refl _)]; exact hq
  · rw [hpu_ev1]; exact hv
theorem hJI.start {w z n ct : Nat} {S : Nat → Nat → Nat → Prop} {Ps : Nat → Nat → Nat} {ta tb tc pl : Nat → Nat} (t64 : ∀ t, t < ct → ta t < 64 ∧ tb t < 64 ∧ tc t < 64) (t2 : ∀ i j, i < j → j < ct → ¬ (ta i = ta j ∧ tb i = tb j ∧ tc i = tc j)) (t3 : ∀ a b c, S a b c ↔ ∃ i, i < ct ∧ ta i = a ∧ tb i = b ∧ tc i = c) (hn : 0 < n) : hJI w z 0 S Ps n ct ta tb tc pl 0 0 := by
  have e := hCt_lv (w := w) (z := z) (e := fun _ => 0) t64 t2 t3 (Ps := Ps) hn
  rw [Nat.sub_zero] at e
  show 0 + 0 + hRm w z S Ps n ct ta tb tc 0 (fun _ => 0) 0 = _
  rw [e, Nat.zero_add]

set_option maxHeartbeats 4000000 in
set_option maxRecDepth 100000 in
/-- the reference: plan -/
theorem c_X9_plan (l : Launch) (D : va_G) (K : Nat → ClassId) (tv : Nat) (ws : va_W) (ad : Nat → Nat) (S : Nat → Nat → Nat → Prop) (cnt np : Nat) (o : List Nat) (I : Nat → Nat → Nat) (hms : hMS K ad ws S cnt np o I) (x : Int32) : hI l D (hTy K) tv yX9_plan cX9_plan 2 (some .int) ({ frames := 6, cells := 0, slots := 0, locals := 360 }) [.ref (ad 0), .int x] ws (fun r ws1 => hPlnP S np I x r ∧ hMS K ad ws1 S cnt np o I) := by
  intro sz
  refine Met.ofW (cc := cX9_plan) (maxL := 2) (ret := (some .int)) (by decide) rfl ?_
  intro p e s m args below meth c s₁ B hml hv0
  obtain ⟨rfl, rfl, E, hP, hD⟩ := hentry hv0
  have hx := B.exec
  have hb := B.bytes
  have hr := B.returns
  have hts := atoms_spec (ws := hC yX9_plan cX9_plan 2 (some .int)) B.pre
  have hown : s.vm.findClass RX9 = some m.cls := findClass_of_methodNamed B.named
  have hlocks := B.notSynchronized
  generalize hAe : va_A ws s.heap.size = A at hD E ⊢
  have hl := lv_entry ([.ref (ad 0), .int x]) (n := 2) (Nat.le_of_ble_eq_true rfl)
  rw [lg_entry_eq]
  generalize (lg_sl ([.ref (ad 0), .int x]) ++ List.replicate (2 - (lg_sl ([.ref (ad 0), .int x])).length) Slot.unset).toArray = ls at hl ⊢
  have hl : lv_has ls 2 [(0, .ref (ad 0)), (1, .int x)] := hl
  refine hat0 (fun H hHe => ?_)
  have hP : va_P D vwCl ws H := by rw [hHe]; exact hP
  have hS : va_S A s.heap H [] := by rw [hHe]; exact va_S.rf
  obtain ⟨f, lz, kp, fd, hrx, hrb⟩ := id hms
  obtain ⟨hct, hnp, hnd, hon, hT, hIt, hO, hF⟩ := id hrb
  have g0 := hrx.1
  have hIt2 := hIt
  refine lv_aload_n hx hb dX9_plan_0 rfl (lv_at hl 0 rfl) ?_
  refine lv_iload_n hx hb dX9_plan_1 rfl (lv_at hl 1 rfl) ?_
  refine hc_i E hD hS (va_runV (As := [.int x]) (rest := []) ⟨hx, hb, hml, hown, hts⟩ ((c_X9_isPattern l D K tv ws ad f cnt np o.length lz kp fd hrx hnp x) H.size) (cwV 1 hts (hGV hmc k_658 k_660 k_5 k_29 k_661) rfl rfl rfl (by decide +kernel) ⟨Nat.le_of_ble_eq_true rfl, Nat.le_of_ble_eq_true rfl⟩) (hpreV E hP hD hS g0 rfl) rfl rfl hl.1 rfl (lv_room (Nat.le_of_ble_eq_true rfl)) dX9_plan_2 ⟨(Nat.le_refl _), (Nat.le_refl _)⟩) (fun r2 ws1 H locs hh hP hD hS => ?_)
  obtain ⟨rfl, hh⟩ := hh
  refine lv_if_ne (tgt := 10) hx hb dX9_plan_5 (by decide) (fun c1 => ?_) (fun c1 => ?_)
  · obtain ⟨i, hi, rfl⟩ := hh.t c1
    refine lv_aload_n hx hb dX9_plan_10 rfl (lv_at hl 0 rfl) ?_
    refine hc_v E hD hS (va_runV (As := []) (rest := []) ⟨hx, hb, hml, hown, hts⟩ ((c_X9_choose l D K tv ws ad f cnt np o.length lz kp fd hrx hnp hct S I hT hIt2) H.size) (cwV 0 hts (hGV hmc k_677 k_679 k_8 k_29 k_680) rfl rfl rfl (by decide +kernel) ⟨Nat.le_of_ble_eq_true rfl, Nat.le_of_ble_eq_true rfl⟩) (hpreV E hP hD hS g0 rfl) rfl rfl hl.1 rfl (lv_room (Nat.le_of_ble_eq_true rfl)) dX9_plan_11 ⟨(Nat.le_refl _), (Nat.le_refl _)⟩) (fun ws3 H locs hp hP hD hS => ?_)
    obtain ⟨g, lz1, hrx, hfr, B, hB, hg6, hlz⟩ := hp
    have hval : ∀ k, k < np → ∃ q, q < np ∧ g 6 k = nI q := fun k hk => ⟨B k, hB.1.1 k hk, hg6 k hk⟩
    have hrb1 := hrb.frm (hfr 1 (by decide) (by decide) (by decide)) (hfr 2 (by decide) (by decide) (by decide)) (hfr 3 (by decide) (by decide) (by decide)) (hfr 11 (by decide) (by decide) (by decide)) (hfr 12 (by decide) (by decide) (by decide))
    have g0 := hrx.1
    have g6 : ws3[6]? = some (ad 6, .inl (K 0, 6, .inl (g 6))) := hrx.2 6 (by decide) (by decide)
    refine lv_aload_n hx hb dX9_plan_14 rfl (lv_at hl 0 rfl) ?_
    refine va_get (v := .ref (ad 6)) (C := RX9) (T := TX9) (N := 18) hx hb hts (hin_X9 hmc) hown E.1.1 hP 0 g0 rfl 8 (by decide) (hts _ (hmc _ k_577)) (fun _ h9 => h9) rfl dX9_plan_15 ?_
    refine lv_iload_n hx hb dX9_plan_18 rfl (lv_at hl 1 rfl) ?_
    refine va_iald hx hb E.1.1 hP 6 0 g6 rfl (vp_in_nI (by omega) (by omega)) dX9_plan_19 ?_
    refine htopi (v := (g 6) i) (by rw [nI_clamp (by omega)]) ?_
    subst hAe
    exact W.iret (v := (g 6) i) hx hb hr (fun t ht _ => ⟨⟨(g 6) i, ws3, rfl, ⟨Or.inr ⟨i, B, hi, rfl, hB, hg6 i hi⟩, _, _, _, _, hrx, hrb1⟩, by rw [ht]; exact hP, hD⟩, hS.F ht⟩) hS.2.2 dX9_plan_20
  · refine lv_iconst (v := (-1)) hx hb dX9_plan_8 (by decide +kernel) ?_
    subst hAe
    exact W.iret (v := (-1)) hx hb hr (fun t ht _ => ⟨⟨(-1), ws, rfl, ⟨Or.inl ⟨hh.f c1, rfl⟩, hms⟩, by rw [ht]; exact hP, hD⟩, hS.F ht⟩) hS.2.2 dX9_plan_9

set_option maxHeartbeats 4000000 in
set_option maxRecDepth 100000 in
/-- the reference: cost -/
theorem c_X9_cost (l : Launch) (D : va_G) (K : Nat → ClassId) (tv : Nat) (ws : va_W) (ad : Nat → Nat) (S : Nat → Nat → Nat → Prop) (cnt np : Nat) (o : List Nat) (I : Nat → Nat → Nat) (hms : hMS K ad ws S cnt np o I) : hL l D (hTy K) tv yX9_cost cX9_cost 1 (some .long) ({ frames := 6, cells := 0, slots := 0, locals := 360 }) [.ref (ad 0)] ws (fun r ws1 => hCosP S np I r ∧ hMS K ad ws1 S cnt np o I) := by
  intro sz
  refine Met.ofW (cc := cX9_cost) (maxL := 1) (ret := (some .long)) (by decide) rfl ?_
  intro p e s m args below meth c s₁ B hml hv0
  obtain ⟨rfl, rfl, E, hP, hD⟩ := hentry hv0
  have hx := B.exec
  have hb := B.bytes
  have hr := B.returns
  have hts := atoms_spec (ws := hC yX9_cost cX9_cost 1 (some .long)) B.pre
  have hown : s.vm.findClass RX9 = some m.cls := findClass_of_methodNamed B.named
  have hlocks := B.notSynchronized
  generalize hAe : va_A ws s.heap.size = A at hD E ⊢
  have hl := lv_entry ([.ref (ad 0)]) (n := 1) (Nat.le_of_ble_eq_true rfl)
  rw [lg_entry_eq]
  generalize (lg_sl ([.ref (ad 0)]) ++ List.replicate (1 - (lg_sl ([.ref (ad 0)])).length) Slot.unset).toArray = ls at hl ⊢
  have hl : lv_has ls 1 [(0, .ref (ad 0))] := hl
  refine hat0 (fun H hHe => ?_)
  have hP : va_P D vwCl ws H := by rw [hHe]; exact hP
  have hS : va_S A s.heap H [] := by rw [hHe]; exact va_S.rf
  obtain ⟨f, lz, kp, fd, hrx, hrb⟩ := id hms
  obtain ⟨hct, hnp, hnd, hon, hT, hIt, hO, hF⟩ := id hrb
  have g0 := hrx.1
  have hIt2 := hIt
  refine lv_aload_n hx hb dX9_cost_0 rfl (lv_at hl 0 rfl) ?_
  refine hc_v E hD hS (va_runV (As := []) (rest := []) ⟨hx, hb, hml, hown, hts⟩ ((c_X9_choose l D K tv ws ad f cnt np o.length lz kp fd hrx hnp hct S I hT hIt2) H.size) (cwV 0 hts (hGV hmc k_677 k_679 k_8 k_29 k_680) rfl rfl rfl (by decide +kernel) ⟨Nat.le_of_ble_eq_true rfl, Nat.le_of_ble_eq_true rfl⟩) (hpreV E hP hD hS g0 rfl) rfl rfl hl.1 rfl (lv_room (Nat.le_of_ble_eq_true rfl)) dX9_cost_1 ⟨(Nat.le_refl _), (Nat.le_refl _)⟩) (fun ws1 H locs hp hP hD hS => ?_)
  obtain ⟨g, lz1, hrx, hfr, B, hB, hg6, hlz⟩ := hp
  have hval : ∀ k, k < np → ∃ q, q < np ∧ g 6 k = nI q := fun k hk => ⟨B k, hB.1.1 k hk, hg6 k hk⟩
  have hrb1 := hrb.frm (hfr 1 (by decide) (by decide) (by decide)) (hfr 2 (by decide) (by decide) (by decide)) (hfr 3 (by decide) (by decide) (by decide)) (hfr 11 (by decide) (by decide) (by decide)) (hfr 12 (by decide) (by decide) (by decide))
  have g0 := hrx.1
  refine lv_aload_n hx hb dX9_cost_4 rfl (lv_at hl 0 rfl) ?_
  refine va_get (v := .long lz1) (C := RX9) (T := TX9) (N := 18) hx hb hts (hin_X9 hmc) hown E.1.1 hP 0 g0 rfl 9 (by decide) (hts _ (hmc _ k_578)) (fun _ h9 => h9) rfl dX9_cost_5 ?_
  subst hAe
  exact W.lret (v := lz1) hx hb hr (fun t ht _ => ⟨⟨lz1, ws1, rfl, ⟨⟨B, hB, hlz⟩, _, _, _, _, hrx, hrb1⟩, by rw [ht]; exact hP, hD⟩, hS.F ht⟩) hS.2.2 dX9_cost_8

set_option maxHeartbeats 4000000 in
set_option maxRecDepth 100000 in
/-- the reference: loosen -/
theorem c_X9_loosen (l : Launch) (D : va_G) (K : Nat → ClassId) (tv : Nat) (ws : va_W) (ad : Nat → Nat) (f : Nat → Nat → Int32) (ct pt md : Nat) (lz : Int64) (kp : Nat) (fd : Int32) (hrx : hRX K ad ws f ct pt md lz kp fd) (p9 : Nat) (hp6 : p9 < 6) (J : Nat → Nat) (hJt : ∀ i, i < 3 → f 2 (3 * p9 + i) = hit (J i) ∧ J i < 72) (n : Nat) (hn3 : n ≤ 3) (cn : Nat → Nat) (h89 : ∀ x, x < 8 → f 8 (x + 1) = nI (cn x + hoc J x n)) : hV l D (hTy K) tv yX9_loosen cX9_loosen 4 none ({ frames := 0, cells := 0, slots := 0, locals := 0 }) [.ref (ad 0), .int (nI p9), .int (nI n)] ws (fun ws1 => ∃ f8, hRX K ad ws1 (hup f 8 f8) ct pt md lz kp fd ∧ ∀ x, x < 8 → f8 (x + 1) = nI (cn x)) := by
  intro sz
  refine Met.ofW (cc := cX9_loosen) (maxL := 4) (ret := none) (by decide) rfl ?_
  intro p e s m args below meth c s₁ B hml hv0
  obtain ⟨rfl, rfl, E, hP, hD⟩ := hentry hv0
  have hx := B.exec
  have hb := B.bytes
  have hr := B.returns
  have hts := atoms_spec (ws := hC yX9_loosen cX9_loosen 4 none) B.pre
  have hown : s.vm.findClass RX9 = some m.cls := findClass_of_methodNamed B.named
  have hlocks := B.notSynchronized
  generalize hAe : va_A ws s.heap.size = A at hD E ⊢
  have hl := lv_entry ([.ref (ad 0), .int (nI p9), .int (nI n)]) (n := 4) (Nat.le_of_ble_eq_true rfl)
  rw [lg_entry_eq]
  generalize (lg_sl ([.ref (ad 0), .int (nI p9), .int (nI n)]) ++ List.replicate (4 - (lg_sl ([.ref (ad 0), .int (nI p9), .int (nI n)])).length) Slot.unset).toArray = ls at hl ⊢
  have hl : lv_has ls 4 [(0, .ref (ad 0)), (1, .int (nI p9)), (2, .int (nI n))] := hl
  refine hat0 (fun H hHe => ?_)
  have hP : va_P D vwCl ws H := by rw [hHe]; exact hP
  have hS : va_S A s.heap H [] := by rw [hHe]; exact va_S.rf
  refine lv_iconst (v := nI 0) hx hb dX9_loosen_0 (by decide +kernel) ?_
  refine lv_istore_n (lv' := [(3, .int (nI 0)), (0, .ref (ad 0)), (1, .int (nI p9)), (2, .int (nI n))]) hx hb dX9_loosen_1 rfl hl (by decide) rfl (fun ls hl => ?_)
  refine hloopW (α := Nat) 2 4 (fun i => [(3, .int (nI i)), (0, .ref (ad 0)), (1, .int (nI p9)), (2, .int (nI n))]) (fun i w9 => i ≤ n ∧ ∃ f8, hRX K ad w9 (hup f 8 f8) ct pt md lz kp fd ∧ ∀ x, x < 8 → f8 (x + 1) = nI (cn x + (hoc J x n - hoc J x i))) (fun i => n - i) (fun _ => 0) (fun _ => 0) ?_ 0 ⟨Nat.zero_le _, f 8, by rw [hup_id]; exact hrx, h89⟩ hP hD hS (lv_sub hl [0, 1, 2, 3] rfl)
  intro i w9 H locs ls hI9 hP hD hS hl ih
  obtain ⟨hi, f8, hrx, hb8⟩ := hI9
  have hl : lv_has ls 4 [(3, .int (nI i)), (0, .ref (ad 0)), (1, .int (nI p9)), (2, .int (nI n))] := hl
  have g0 := hrx.1
  have g2 : w9[2]? = some (ad 2, .inl (K 0, 18, .inl (f 2))) := hrx.2 2 (by decide) (by decide)
  have g8 : w9[8]? = some (ad 8, .inl (K 0, 9, .inl f8)) := hrx.2 8 (by decide) (by decide)
  refine lv_iload_n hx hb dX9_loosen_2 rfl (lv_at hl 0 rfl) ?_
  refine lv_iload_n hx hb dX9_loosen_3 rfl (lv_at hl 3 rfl) ?_
  refine lv_icmp_ge (tgt := 46) hx hb dX9_loosen_4 (by decide) (fun c1 => ?_) (fun c1 => ?_)
  · have hin : i = n := by
      have := (nI_leI (by omega) (by omega)).mp c1
      omega
    subst hin
    subst hAe
    exact W.vret hx hb hr (fun t ht _ => ⟨⟨w9, rfl, ⟨f8, hrx, fun x hx => by rw [hb8 x hx, Nat.sub_self, Nat.add_zero]⟩, by rw [ht]; exact hP, hD⟩, hS.F ht⟩) hS.2.2 dX9_loosen_46
  · have hi3 : i < n := Nat.not_le.mp (fun z => c1 (nI_le z (by omega)))
    obtain ⟨e1, e2⟩ := hJt i (by omega)
    refine lv_aload_n hx hb dX9_loosen_7 rfl (lv_at hl 1 rfl) ?_
    refine va_get (v := .ref (ad 2)) (C := RX9) (T := TX9) (N := 18) hx hb hts (hin_X9 hmc) hown E.1.1 hP 0 g0 rfl 2 (by decide) (hts _ (hmc _ k_571)) (fun _ h9 => h9) rfl dX9_loosen_8 ?_
    refine lv_iconst (v := nI 3) hx hb dX9_loosen_11 (by decide +kernel) ?_
    refine lv_iload_n hx hb dX9_loosen_12 rfl (lv_at hl 2 rfl) ?_
    refine lv_imul hx hb dX9_loosen_13 ?_
    refine htopi (v := nI (3 * p9)) (pk_mul _ _) ?_
    refine lv_iload_n hx hb dX9_loosen_14 rfl (lv_at hl 0 rfl) ?_
    refine lv_iadd hx hb dX9_loosen_15 ?_
    refine htopi (v := nI ((3 * p9) + i)) (nI_add _ _) ?_
    refine va_iald hx hb E.1.1 hP 2 0 g2 rfl (vp_in_nI (by omega) (by omega)) dX9_loosen_16 ?_
    refine htopi (v := (f 2) ((3 * p9) + i)) (by rw [nI_clamp (by omega)]) ?_
    refine htopi (v := hit (J i)) (e1) ?_
    refine lv_if_ge (tgt := 40) hx hb dX9_loosen_17 (by decide) (fun c2 => ?_) (fun c2 => ?_)
    · have hb9 : ∀ x, x < 8 → f8 (x + 1) = nI (cn x + (hoc J x n - hoc J x (i + 1))) := fun x hx => by
        have := (hit_ge e2).mp c2
        rw [hoc_num x (by omega)]; exact hb8 x hx
      refine lv_iinc (v := nI (i + 1)) (lv' := [(3, .int (nI (i + 1))), (0, .ref (ad 0)), (1, .int (nI p9)), (2, .int (nI n))]) hx hb dX9_loosen_40 hl (k := 0) rfl (nI_1 _) (by decide) rfl (fun ls hl => ?_)
      refine lv_goto (tgt := 2) hx hb dX9_loosen_43 (by decide) ?_
      exact ih (i + 1) _ H locs ls ⟨by omega, _, hrx, hb9⟩ (by omega) hP hD hS (lv_sub hl [0, 1, 2, 3] rfl)
    · have hv : 64 ≤ J i := (hit_lt e2).mp (Int32.not_le.mp c2)
      have hmo := hoc_mono J (J i - 64) (i + 1) (n - (i + 1))
      rw [show i + 1 + (n - (i + 1)) = n by omega] at hmo
      have hoc1 := hoc_var (J := J) (q := i) (J i - 64) (by omega)
      have hcur : f8 (J i - 63) = nI (cn (J i - 64) + (hoc J (J i - 64) n - hoc J (J i - 64) i)) := by
        have q := hb8 (J i - 64) (by omega)
        rw [show J i - 64 + 1 = J i - 63 by omega] at q
        exact q
      refine lv_aload_n hx hb dX9_loosen_20 rfl (lv_at hl 1 rfl) ?_
      refine va_get (v := .ref (ad 8)) (C := RX9) (T := TX9) (N := 18) hx hb hts (hin_X9 hmc) hown E.1.1 hP 0 g0 rfl 11 (by decide) (hts _ (hmc _ k_580)) (fun _ h9 => h9) rfl dX9_loosen_21 ?_
      refine lv_aload_n hx hb dX9_loosen_24 rfl (lv_at hl 1 rfl) ?_
      refine va_get (v := .ref (ad 2)) (C := RX9) (T := TX9) (N := 18) hx hb hts (hin_X9 hmc) hown E.1.1 hP 0 g0 rfl 2 (by decide) (hts _ (hmc _ k_571)) (fun _ h9 => h9) rfl dX9_loosen_25 ?_
      refine lv_iconst (v := nI 3) hx hb dX9_loosen_28 (by decide +kernel) ?_
      refine lv_iload_n hx hb dX9_loosen_29 rfl (lv_at hl 2 rfl) ?_
      refine lv_imul hx hb dX9_loosen_30 ?_
      refine htopi (v := nI (3 * p9)) (pk_mul _ _) ?_
      refine lv_iload_n hx hb dX9_loosen_31 rfl (lv_at hl 0 rfl) ?_
      refine lv_iadd hx hb dX9_loosen_32 ?_
      refine htopi (v := nI ((3 * p9) + i)) (nI_add _ _) ?_
      refine va_iald hx hb E.1.1 hP 2 0 g2 rfl (vp_in_nI (by omega) (by omega)) dX9_loosen_33 ?_
      refine htopi (v := (f 2) ((3 * p9) + i)) (by rw [nI_clamp (by omega)]) ?_
      refine htopi (v := hit (J i)) (e1) ?_
      refine lv_ineg hx hb dX9_loosen_34 ?_
      refine htopi (v := nI (J i - 63)) (hneg_it hv e2) ?_
      refine lv_dup2_11 hx hb dX9_loosen_35 rfl rfl ?_
      refine va_iald hx hb E.1.1 hP 8 0 g8 rfl (vp_in_nI (by omega) (by omega)) dX9_loosen_36 ?_
      refine htopi (v := f8 (J i - 63)) (by rw [nI_clamp (by omega)]) ?_
      refine htopi (v := nI (cn (J i - 64) + (hoc J (J i - 64) n - hoc J (J i - 64) i))) (hcur) ?_
      refine lv_iconst (v := nI 1) hx hb dX9_loosen_37 (by decide +kernel) ?_
      refine lv_isub hx hb dX9_loosen_38 ?_
      refine htopi (v := nI (cn (J i - 64) + (hoc J (J i - 64) n - hoc J (J i - 64) i) - 1)) (pk_sub (by omega)) ?_
      refine va_iast hx hb E.1.1 hP hD hS 8 0 g8 rfl (vp_in_nI (by omega) (by omega)) dX9_loosen_39 (fun H locs hP hD hS => ?_)
      rw [nI_clamp (show (J i - 63) < 2 ^ 31 by omega)] at hP hD
      obtain ⟨ws1, ews1⟩ : ∃ zw : va_W, zw = List.set w9 8 ((ad 8), .inl (K 0, 9, .inl (upd f8 (J i - 63) (nI (cn (J i - 64) + (hoc J (J i - 64) n - hoc J (J i - 64) i) - 1))))) := ⟨_, rfl⟩
      have hP : va_P D vwCl ws1 H := by rw [ews1]; exact hP
      have hD : va_D A ws1 := by rw [ews1]; exact hD
      have g0 := (show ws1[0]? = _ from (by rw [ews1]; exact hset_ne (by omega))).trans g0
      have g2 := (show ws1[2]? = _ from (by rw [ews1]; exact hset_ne (by omega))).trans g2
      have g8 : ws1[8]? = some ((ad 8), .inl (K 0, 9, .inl (upd f8 (J i - 63) (nI (cn (J i - 64) + (hoc J (J i - 64) n - hoc J (J i - 64) i) - 1))))) := by rw [ews1]; exact hset_eq g8
      have hrx : hRX K ad ws1 (hup (hup f 8 f8) 8 (upd f8 (J i - 63) (nI (cn (J i - 64) + (hoc J (J i - 64) n - hoc J (J i - 64) i) - 1)))) ct pt md lz kp fd := by rw [ews1]; exact hrx.arr 8 (by decide) (by decide) _
      rw [hup_up] at hrx
      refine lv_iinc (v := nI (i + 1)) (lv' := [(3, .int (nI (i + 1))), (0, .ref (ad 0)), (1, .int (nI p9)), (2, .int (nI n))]) hx hb dX9_loosen_40 hl (k := 0) rfl (nI_1 _) (by decide) rfl (fun ls hl => ?_)
      refine lv_goto (tgt := 2) hx hb dX9_loosen_43 (by decide) ?_
      exact ih (i + 1) _ H locs ls ⟨by omega, _, hrx, fun x hx => by
          by_cases z : x = J i - 64
          · subst z
            rw [show J i - 64 + 1 = J i - 63 by omega, pk_us]
            congr 1
            omega
          · rw [pk_un (by omega), hoc_num x (by omega)]
            exact hb8 x hx⟩ (by omega) hP hD hS (lv_sub hl [0, 1, 2, 3] rfl)

set_option maxHeartbeats 4000000 in
set_option maxRecDepth 100000 in
/-- the reference: bind -/
theorem c_X9_bind (l : Launch) (D : va_G) (K : Nat → ClassId) (tv : Nat) (ws : va_W) (ad : Nat → Nat) (f : Nat → Nat → Int32) (ct pt md : Nat) (lz : Int64) (kp : Nat) (fd : Int32) (hrx : hRX K ad ws f ct pt md lz kp fd) (p9 t9 : Nat) (hp6 : p9 < 6) (ht6 : t9 < 640) (J : Nat → Nat) (hJt : ∀ i, i < 3 → f 2 (3 * p9 + i) = hit (J i) ∧ J i < 72) (cn ev : Nat → Nat) (hbv0 : hBV (f 7) (f 8) cn ev) (hcn : ∀ x, cn x ≤ 18) (na nb nc : Nat) (ha6 : na < 64) (hb6 : nb < 64) (hc6 : nc < 64) (hta : ∀ i, i < 3 → f 1 (3 * t9 + i) = nI (hpk i na nb nc)) : hI l D (hTy K) tv yX9_bind cX9_bind 6 (some .boolean) ({ frames := 1, cells := 0, slots := 0, locals := 60 }) [.ref (ad 0), .int (nI p9), .int (nI t9)] ws (fun r ws1 => ∃ f7 f8, hRX K ad ws1 (hup (hup f 7 f7) 8 f8) ct pt md lz kp fd ∧ ((r = nI 1 ∧ hCq J ev na nb nc 3 ∧ hBV f7 f8 (fun x => cn x + hoc J x 3) (hXe J ev na nb nc 3)) ∨ (r = nI 0 ∧ ¬ hCq J ev na nb nc 3 ∧ hBV f7 f8 cn ev))) := by
  intro sz
  refine Met.ofW (cc := cX9_bind) (maxL := 6) (ret := (some .boolean)) (by decide) rfl ?_
  intro p e s m args below meth c s₁ B hml hv0
  obtain ⟨rfl, rfl, E, hP, hD⟩ := hentry hv0
  have hx := B.exec
  have hb := B.bytes
  have hr := B.returns
  have hts := atoms_spec (ws := hC yX9_bind cX9_bind 6 (some .boolean)) B.pre
  have hown : s.vm.findClass RX9 = some m.cls := findClass_of_methodNamed B.named
  have hlocks := B.notSynchronized
  generalize hAe : va_A ws s.heap.size = A at hD E ⊢
  have hl := lv_entry ([.ref (ad 0), .int (nI p9), .int (nI t9)]) (n := 6) (Nat.le_of_ble_eq_true rfl)
  rw [lg_entry_eq]
  generalize (lg_sl ([.ref (ad 0), .int (nI p9), .int (nI t9)]) ++ List.replicate (6 - (lg_sl ([.ref (ad 0), .int (nI p9), .int (nI t9)])).length) Slot.unset).toArray = ls at hl ⊢
  have hl : lv_has ls 6 [(0, .ref (ad 0)), (1, .int (nI p9)), (2, .int (nI t9))] := hl
  refine hat0 (fun H hHe => ?_)
  have hP : va_P D vwCl ws H := by rw [hHe]; exact hP
  have hS : va_S A s.heap H [] := by rw [hHe]; exact va_S.rf
  refine lv_iconst (v := nI 0) hx hb dX9_bind_0 (by decide +kernel) ?_
  refine lv_istore_n (lv' := [(3, .int (nI 0)), (0, .ref (ad 0)), (1, .int (nI p9)), (2, .int (nI t9))]) hx hb dX9_bind_1 rfl hl (by decide) rfl (fun ls hl => ?_)
  refine hloopW (α := Nat) 2 6 (fun i => [(3, .int (nI i)), (0, .ref (ad 0)), (1, .int (nI p9)), (2, .int (nI t9))]) (fun i w9 => i ≤ 3 ∧ hCq J ev na nb nc i ∧ ∃ f7 f8, hRX K ad w9 (hup (hup f 7 f7) 8 f8) ct pt md lz kp fd ∧ hBV f7 f8 (fun x => cn x + hoc J x i) (hXe J ev na nb nc i)) (fun i => 3 - i) (fun _ => 0) (fun _ => 0) ?_ 0 ⟨Nat.zero_le _, trivial, f 7, f 8, by rw [hup_id, hup_id]; exact hrx, hbv0⟩ hP hD hS (lv_sub hl [0, 1, 2, 3] rfl)
  intro i w9 H locs ls hI9 hP hD hS hl ih
  obtain ⟨hi, hqi, f7, f8, hrx, hbv⟩ := hI9
  have hl : lv_has ls 6 [(3, .int (nI i)), (0, .ref (ad 0)), (1, .int (nI p9)), (2, .int (nI t9))] := hl
  have g0 := hrx.1
  have g1 : w9[1]? = some (ad 1, .inl (K 0, 1920, .inl (f 1))) := hrx.2 1 (by decide) (by decide)
  have g2 : w9[2]? = some (ad 2, .inl (K 0, 18, .inl (f 2))) := hrx.2 2 (by decide) (by decide)
  have g7 : w9[7]? = some (ad 7, .inl (K 0, 9, .inl f7)) := hrx.2 7 (by decide) (by decide)
  have g8 : w9[8]? = some (ad 8, .inl (K 0, 9, .inl f8)) := hrx.2 8 (by decide) (by decide)
  refine lv_iload_n hx hb dX9_bind_2 rfl (lv_at hl 0 rfl) ?_
  refine lv_iconst (v := nI 3) hx hb dX9_bind_3 (by decide +kernel) ?_
  refine lv_icmp_ge (tgt := 111) hx hb dX9_bind_4 (by decide) (fun c1 => ?_) (fun c1 => ?_)
  · have hi3 : i = 3 := by
      have := (nI_leI (by decide) (by omega)).mp c1
      omega
    subst hi3
    refine lv_iconst (v := nI 1) hx hb dX9_bind_111 (by decide +kernel) ?_
    subst hAe
    exact W.zret (v := nI 1) hx hb hr (by decide +kernel) (fun t ht _ => ⟨⟨nI 1, w9, rfl, ⟨f7, f8, hrx, Or.inl ⟨rfl, hqi, hbv⟩⟩, by rw [ht]; exact hP, hD⟩, hS.F ht⟩) hS.2.2 dX9_bind_112
  · have hi3 : i < 3 := Nat.not_le.mp (fun z => c1 (nI_le z (by omega)))
    obtain ⟨e1, e2⟩ := hJt i (by omega)
    have e3 := hta i hi3
    have hpl : hpk i na nb nc < 64 := hpk_lt ha6 hb6 hc6
    refine lv_aload_n hx hb dX9_bind_7 rfl (lv_at hl 1 rfl) ?_
    refine va_get (v := .ref (ad 2)) (C := RX9) (T := TX9) (N := 18) hx hb hts (hin_X9 hmc) hown E.1.1 hP 0 g0 rfl 2 (by decide) (hts _ (hmc _ k_571)) (fun _ h9 => h9) rfl dX9_bind_8 ?_
    refine lv_iconst (v := nI 3) hx hb dX9_bind_11 (by decide +kernel) ?_
    refine lv_iload_n hx hb dX9_bind_12 rfl (lv_at hl 2 rfl) ?_
    refine lv_imul hx hb dX9_bind_13 ?_
    refine htopi (v := nI (3 * p9)) (pk_mul _ _) ?_
    refine lv_iload_n hx hb dX9_bind_14 rfl (lv_at hl 0 rfl) ?_
    refine lv_iadd hx hb dX9_bind_15 ?_
    refine htopi (v := nI ((3 * p9) + i)) (nI_add _ _) ?_
    refine va_iald hx hb E.1.1 hP 2 0 g2 rfl (vp_in_nI (by omega) (by omega)) dX9_bind_16 ?_
    refine htopi (v := (f 2) ((3 * p9) + i)) (by rw [nI_clamp (by omega)]) ?_
    refine htopi (v := hit (J i)) (e1) ?_
    refine lv_istore (lv' := [(4, .int (hit (J i))), (3, .int (nI i)), (0, .ref (ad 0)), (1, .int (nI p9)), (2, .int (nI t9))]) hx hb dX9_bind_17 hl (by decide) rfl (fun ls hl => ?_)
    refine lv_aload_n hx hb dX9_bind_19 rfl (lv_at hl 2 rfl) ?_
    refine va_get (v := .ref (ad 1)) (C := RX9) (T := TX9) (N := 18) hx hb hts (hin_X9 hmc) hown E.1.1 hP 0 g0 rfl 0 (by decide) (hts _ (hmc _ k_569)) (fun _ h9 => h9) rfl dX9_bind_20 ?_
    refine lv_iconst (v := nI 3) hx hb dX9_bind_23 (by decide +kernel) ?_
    refine lv_iload_n hx hb dX9_bind_24 rfl (lv_at hl 4 rfl) ?_
    refine lv_imul hx hb dX9_bind_25 ?_
    refine htopi (v := nI (3 * t9)) (pk_mul _ _) ?_
    refine lv_iload_n hx hb dX9_bind_26 rfl (lv_at hl 1 rfl) ?_
    refine lv_iadd hx hb dX9_bind_27 ?_
    refine htopi (v := nI ((3 * t9) + i)) (nI_add _ _) ?_
    refine va_iald hx hb E.1.1 hP 1 0 g1 rfl (vp_in_nI (by omega) (by omega)) dX9_bind_28 ?_
    refine htopi (v := (f 1) ((3 * t9) + i)) (by rw [nI_clamp (by omega)]) ?_
    refine htopi (v := nI (hpk i na nb nc)) (e3) ?_
    refine lv_istore (lv' := [(5, .int (nI (hpk i na nb nc))), (4, .int (hit (J i))), (3, .int (nI i)), (0, .ref (ad 0)), (1, .int (nI p9)), (2, .int (nI t9))]) hx hb dX9_bind_29 hl (by decide) rfl (fun ls hl => ?_)
    refine lv_iload hx hb dX9_bind_31 (lv_at hl 1 rfl) ?_
    refine lv_if_lt (tgt := 46) hx hb dX9_bind_33 (by decide) (fun c2 => ?_) (fun c2 => ?_)
    · have hv : 64 ≤ J i := (hit_lt e2).mp c2
      obtain ⟨hbc, hbz, hb64, hbe⟩ := hbv (J i - 64) (by omega)
      rw [show J i - 64 + 1 = J i - 63 by omega] at hbc hbe
      have hbc : f8 (J i - 63) = nI (cn (J i - 64) + hoc J (J i - 64) i) := hbc
      have hbz : cn (J i - 64) + hoc J (J i - 64) i = 0 ↔ hXe J ev na nb nc i (J i - 64) = 0 := hbz
      have hoc3 := hoc_le J (J i - 64) i
      have hcn9 := hcn (J i - 64)
      refine lv_aload_n hx hb dX9_bind_46 rfl (lv_at hl 3 rfl) ?_
      refine va_get (v := .ref (ad 8)) (C := RX9) (T := TX9) (N := 18) hx hb hts (hin_X9 hmc) hown E.1.1 hP 0 g0 rfl 11 (by decide) (hts _ (hmc _ k_580)) (fun _ h9 => h9) rfl dX9_bind_47 ?_
      refine lv_iload hx hb dX9_bind_50 (lv_at hl 1 rfl) ?_
      refine lv_ineg hx hb dX9_bind_52 ?_
      refine htopi (v := nI (J i - 63)) (hneg_it hv e2) ?_
      refine va_iald hx hb E.1.1 hP 8 0 g8 rfl (vp_in_nI (by omega) (by omega)) dX9_bind_53 ?_
      refine htopi (v := f8 (J i - 63)) (by rw [nI_clamp (by omega)]) ?_
      refine htopi (v := nI (cn (J i - 64) + hoc J (J i - 64) i)) (hbc) ?_
      refine lv_if_le (tgt := 78) hx hb dX9_bind_54 (by decide) (fun c3 => ?_) (fun c3 => ?_)
      · have hcond : hCq J ev na nb nc (i + 1) := ⟨hqi, fun z => by omega, fun _ => Or.inl (hbz.mp (hzero_of (by omega) c3))⟩
        refine lv_iload hx hb dX9_bind_78 (lv_at hl 1 rfl) ?_
        refine lv_if_ge (tgt := 105) hx hb dX9_bind_80 (by decide) (fun c9 => ?_) (fun c9 => ?_)
        · exact absurd ((hit_ge e2).mp c9) (by omega)
        · have hcur : f8 (J i - 63) = nI (cn (J i - 64) + hoc J (J i - 64) i) := by
            have q := (hbv (J i - 64) (by omega)).1
            rw [show J i - 64 + 1 = J i - 63 by omega] at q
            exact q
          refine lv_aload_n hx hb dX9_bind_83 rfl (lv_at hl 3 rfl) ?_
          refine va_get (v := .ref (ad 7)) (C := RX9) (T := TX9) (N := 18) hx hb hts (hin_X9 hmc) hown E.1.1 hP 0 g0 rfl 10 (by decide) (hts _ (hmc _ k_579)) (fun _ h9 => h9) rfl dX9_bind_84 ?_
          refine lv_iload hx hb dX9_bind_87 (lv_at hl 1 rfl) ?_
          refine lv_ineg hx hb dX9_bind_89 ?_
          refine htopi (v := nI (J i - 63)) (hneg_it hv e2) ?_
          refine lv_iload hx hb dX9_bind_90 (lv_at hl 0 rfl) ?_
          refine va_iast hx hb E.1.1 hP hD hS 7 0 g7 rfl (vp_in_nI (by omega) (by omega)) dX9_bind_92 (fun H locs hP hD hS => ?_)
          rw [nI_clamp (show (J i - 63) < 2 ^ 31 by omega)] at hP hD
          obtain ⟨ws1, ews1⟩ : ∃ zw : va_W, zw = List.set w9 7 ((ad 7), .inl (K 0, 9, .inl (upd f7 (J i - 63) (nI (hpk i na nb nc))))) := ⟨_, rfl⟩
          have hP : va_P D vwCl ws1 H := by rw [ews1]; exact hP
          have hD : va_D A ws1 := by rw [ews1]; exact hD
          have g0 := (show ws1[0]? = _ from (by rw [ews1]; exact hset_ne (by omega))).trans g0
          have g1 := (show ws1[1]? = _ from (by rw [ews1]; exact hset_ne (by omega))).trans g1
          have g2 := (show ws1[2]? = _ from (by rw [ews1]; exact hset_ne (by omega))).trans g2
          have g7 : ws1[7]? = some ((ad 7), .inl (K 0, 9, .inl (upd f7 (J i - 63) (nI (hpk i na nb nc))))) := by rw [ews1]; exact hset_eq g7
          have g8 := (show ws1[8]? = _ from (by rw [ews1]; exact hset_ne (by omega))).trans g8
          have hrx : hRX K ad ws1 (hup (hup (hup f 7 f7) 8 f8) 7 (upd f7 (J i - 63) (nI (hpk i na nb nc)))) ct pt md lz kp fd := by rw [ews1]; exact hrx.arr 7 (by decide) (by decide) _
          refine lv_aload_n hx hb dX9_bind_93 rfl (lv_at hl 3 rfl) ?_
          refine va_get (v := .ref (ad 8)) (C := RX9) (T := TX9) (N := 18) hx hb hts (hin_X9 hmc) hown E.1.1 hP 0 g0 rfl 11 (by decide) (hts _ (hmc _ k_580)) (fun _ h9 => h9) rfl dX9_bind_94 ?_
          refine lv_iload hx hb dX9_bind_97 (lv_at hl 1 rfl) ?_
          refine lv_ineg hx hb dX9_bind_99 ?_
          refine htopi (v := nI (J i - 63)) (hneg_it hv e2) ?_
          refine lv_dup2_11 hx hb dX9_bind_100 rfl rfl ?_
          refine va_iald hx hb E.1.1 hP 8 0 g8 rfl (vp_in_nI (by omega) (by omega)) dX9_bind_101 ?_
          refine htopi (v := f8 (J i - 63)) (by rw [nI_clamp (by omega)]) ?_
          refine htopi (v := nI (cn (J i - 64) + hoc J (J i - 64) i)) (hcur) ?_
          refine lv_iconst (v := nI 1) hx hb dX9_bind_102 (by decide +kernel) ?_
          refine lv_iadd hx hb dX9_bind_103 ?_
          refine htopi (v := nI (cn (J i - 64) + hoc J (J i - 64) i + 1)) (nI_add _ _) ?_
          refine va_iast hx hb E.1.1 hP hD hS 8 0 g8 rfl (vp_in_nI (by omega) (by omega)) dX9_bind_104 (fun H locs hP hD hS => ?_)
          rw [nI_clamp (show (J i - 63) < 2 ^ 31 by omega)] at hP hD
          obtain ⟨ws2, ews2⟩ : ∃ zw : va_W, zw = List.set ws1 8 ((ad 8), .inl (K 0, 9, .inl (upd f8 (J i - 63) (nI (cn (J i - 64) + hoc J (J i - 64) i + 1))))) := ⟨_, rfl⟩
          have hP : va_P D vwCl ws2 H := by rw [ews2]; exact hP
          have hD : va_D A ws2 := by rw [ews2]; exact hD
          have g0 := (show ws2[0]? = _ from (by rw [ews2]; exact hset_ne (by omega))).trans g0
          have g1 := (show ws2[1]? = _ from (by rw [ews2]; exact hset_ne (by omega))).trans g1
          have g2 := (show ws2[2]? = _ from (by rw [ews2]; exact hset_ne (by omega))).trans g2
          have g7 := (show ws2[7]? = _ from (by rw [ews2]; exact hset_ne (by omega))).trans g7
          have g8 : ws2[8]? = some ((ad 8), .inl (K 0, 9, .inl (upd f8 (J i - 63) (nI (cn (J i - 64) + hoc J (J i - 64) i + 1))))) := by rw [ews2]; exact hset_eq g8
          have hrx : hRX K ad ws2 (hup (hup (hup (hup f 7 f7) 8 f8) 7 (upd f7 (J i - 63) (nI (hpk i na nb nc)))) 8 (upd f8 (J i - 63) (nI (cn (J i - 64) + hoc J (J i - 64) i + 1)))) ct pt md lz kp fd := by rw [ews2]; exact hrx.arr 8 (by decide) (by decide) _
          rw [hup_78] at hrx
          refine lv_iinc (v := nI (i + 1)) (lv' := [(3, .int (nI (i + 1))), (5, .int (nI (hpk i na nb nc))), (4, .int (hit (J i))), (0, .ref (ad 0)), (1, .int (nI p9)), (2, .int (nI t9))]) hx hb dX9_bind_105 hl (k := 2) rfl (nI_1 _) (by decide) rfl (fun ls hl => ?_)
          refine lv_goto (tgt := 2) hx hb dX9_bind_108 (by decide) ?_
          exact ih (i + 1) _ H locs ls ⟨by omega, hcond, _, _, hrx, hbv.put hv ha6 hb6 hc6⟩ (by omega) hP hD hS (lv_sub hl [0, 3, 4, 5] rfl)
      · have hpos : 0 < cn (J i - 64) + hoc J (J i - 64) i := hpos_of (by omega) c3
        have hne : ¬ hXe J ev na nb nc i (J i - 64) = 0 := fun z => by have := hbz.mpr z; omega
        refine lv_aload_n hx hb dX9_bind_57 rfl (lv_at hl 3 rfl) ?_
        refine va_get (v := .ref (ad 7)) (C := RX9) (T := TX9) (N := 18) hx hb hts (hin_X9 hmc) hown E.1.1 hP 0 g0 rfl 10 (by decide) (hts _ (hmc _ k_579)) (fun _ h9 => h9) rfl dX9_bind_58 ?_
        refine lv_iload hx hb dX9_bind_61 (lv_at hl 1 rfl) ?_
        refine lv_ineg hx hb dX9_bind_63 ?_
        refine htopi (v := nI (J i - 63)) (hneg_it hv e2) ?_
        refine va_iald hx hb E.1.1 hP 7 0 g7 rfl (vp_in_nI (by omega) (by omega)) dX9_bind_64 ?_
        refine htopi (v := f7 (J i - 63)) (by rw [nI_clamp (by omega)]) ?_
        refine htopi (v := nI (hXe J ev na nb nc i (J i - 64) - 1)) (hbe hne) ?_
        refine lv_iload hx hb dX9_bind_65 (lv_at hl 0 rfl) ?_
        refine lv_icmp_eq (tgt := 78) hx hb dX9_bind_67 (by decide) (fun c4 => ?_) (fun c4 => ?_)
        · have hcond : hCq J ev na nb nc (i + 1) := ⟨hqi, fun z => by omega, fun _ => Or.inr (by have := (nI_eq (by omega) (by omega)).mp c4; omega)⟩
          refine lv_iload hx hb dX9_bind_78 (lv_at hl 1 rfl) ?_
          refine lv_if_ge (tgt := 105) hx hb dX9_bind_80 (by decide) (fun c9 => ?_) (fun c9 => ?_)
          · exact absurd ((hit_ge e2).mp c9) (by omega)
          · have hcur : f8 (J i - 63) = nI (cn (J i - 64) + hoc J (J i - 64) i) := by
              have q := (hbv (J i - 64) (by omega)).1
              rw [show J i - 64 + 1 = J i - 63 by omega] at q
              exact q
            refine lv_aload_n hx hb dX9_bind_83 rfl (lv_at hl 3 rfl) ?_
            refine va_get (v := .ref (ad 7)) (C := RX9) (T := TX9) (N := 18) hx hb hts (hin_X9 hmc) hown E.1.1 hP 0 g0 rfl 10 (by decide) (hts _ (hmc _ k_579)) (fun _ h9 => h9) rfl dX9_bind_84 ?_
            refine lv_iload hx hb dX9_bind_87 (lv_at hl 1 rfl) ?_
            refine lv_ineg hx hb dX9_bind_89 ?_
            refine htopi (v := nI (J i - 63)) (hneg_it hv e2) ?_
            refine lv_iload hx hb dX9_bind_90 (lv_at hl 0 rfl) ?_
            refine va_iast hx hb E.1.1 hP hD hS 7 0 g7 rfl (vp_in_nI (by omega) (by omega)) dX9_bind_92 (fun H locs hP hD hS => ?_)
            rw [nI_clamp (show (J i - 63) < 2 ^ 31 by omega)] at hP hD
            obtain ⟨ws3, ews3⟩ : ∃ zw : va_W, zw = List.set w9 7 ((ad 7), .inl (K 0, 9, .inl (upd f7 (J i - 63) (nI (hpk i na nb nc))))) := ⟨_, rfl⟩
            have hP : va_P D vwCl ws3 H := by rw [ews3]; exact hP
            have hD : va_D A ws3 := by rw [ews3]; exact hD
            have g0 := (show ws3[0]? = _ from (by rw [ews3]; exact hset_ne (by omega))).trans g0
            have g1 := (show ws3[1]? = _ from (by rw [ews3]; exact hset_ne (by omega))).trans g1
            have g2 := (show ws3[2]? = _ from (by rw [ews3]; exact hset_ne (by omega))).trans g2
            have g7 : ws3[7]? = some ((ad 7), .inl (K 0, 9, .inl (upd f7 (J i - 63) (nI (hpk i na nb nc))))) := by rw [ews3]; exact hset_eq g7
            have g8 := (show ws3[8]? = _ from (by rw [ews3]; exact hset_ne (by omega))).trans g8
            have hrx : hRX K ad ws3 (hup (hup (hup f 7 f7) 8 f8) 7 (upd f7 (J i - 63) (nI (hpk i na nb nc)))) ct pt md lz kp fd := by rw [ews3]; exact hrx.arr 7 (by decide) (by decide) _
            refine lv_aload_n hx hb dX9_bind_93 rfl (lv_at hl 3 rfl) ?_
            refine va_get (v := .ref (ad 8)) (C := RX9) (T := TX9) (N := 18) hx hb hts (hin_X9 hmc) hown E.1.1 hP 0 g0 rfl 11 (by decide) (hts _ (hmc _ k_580)) (fun _ h9 => h9) rfl dX9_bind_94 ?_
            refine lv_iload hx hb dX9_bind_97 (lv_at hl 1 rfl) ?_
            refine lv_ineg hx hb dX9_bind_99 ?_
            refine htopi (v := nI (J i - 63)) (hneg_it hv e2) ?_
            refine lv_dup2_11 hx hb dX9_bind_100 rfl rfl ?_
            refine va_iald hx hb E.1.1 hP 8 0 g8 rfl (vp_in_nI (by omega) (by omega)) dX9_bind_101 ?_
            refine htopi (v := f8 (J i - 63)) (by rw [nI_clamp (by omega)]) ?_
            refine htopi (v := nI (cn (J i - 64) + hoc J (J i - 64) i)) (hcur) ?_
            refine lv_iconst (v := nI 1) hx hb dX9_bind_102 (by decide +kernel) ?_
            refine lv_iadd hx hb dX9_bind_103 ?_
            refine htopi (v := nI (cn (J i - 64) + hoc J (J i - 64) i + 1)) (nI_add _ _) ?_
            refine va_iast hx hb E.1.1 hP hD hS 8 0 g8 rfl (vp_in_nI (by omega) (by omega)) dX9_bind_104 (fun H locs hP hD hS => ?_)
            rw [nI_clamp (show (J i - 63) < 2 ^ 31 by omega)] at hP hD
            obtain ⟨ws4, ews4⟩ : ∃ zw : va_W, zw = List.set ws3 8 ((ad 8), .inl (K 0, 9, .inl (upd f8 (J i - 63) (nI (cn (J i - 64) + hoc J (J i - 64) i + 1))))) := ⟨_, rfl⟩
            have hP : va_P D vwCl ws4 H := by rw [ews4]; exact hP
            have hD : va_D A ws4 := by rw [ews4]; exact hD
            have g0 := (show ws4[0]? = _ from (by rw [ews4]; exact hset_ne (by omega))).trans g0
            have g1 := (show ws4[1]? = _ from (by rw [ews4]; exact hset_ne (by omega))).trans g1
            have g2 := (show ws4[2]? = _ from (by rw [ews4]; exact hset_ne (by omega))).trans g2
            have g7 := (show ws4[7]? = _ from (by rw [ews4]; exact hset_ne (by omega))).trans g7
            have g8 : ws4[8]? = some ((ad 8), .inl (K 0, 9, .inl (upd f8 (J i - 63) (nI (cn (J i - 64) + hoc J (J i - 64) i + 1))))) := by rw [ews4]; exact hset_eq g8
            have hrx : hRX K ad ws4 (hup (hup (hup (hup f 7 f7) 8 f8) 7 (upd f7 (J i - 63) (nI (hpk i na nb nc)))) 8 (upd f8 (J i - 63) (nI (cn (J i - 64) + hoc J (J i - 64) i + 1)))) ct pt md lz kp fd := by rw [ews4]; exact hrx.arr 8 (by decide) (by decide) _
            rw [hup_78] at hrx
            refine lv_iinc (v := nI (i + 1)) (lv' := [(3, .int (nI (i + 1))), (5, .int (nI (hpk i na nb nc))), (4, .int (hit (J i))), (0, .ref (ad 0)), (1, .int (nI p9)), (2, .int (nI t9))]) hx hb dX9_bind_105 hl (k := 2) rfl (nI_1 _) (by decide) rfl (fun ls hl => ?_)
            refine lv_goto (tgt := 2) hx hb dX9_bind_108 (by decide) ?_
            exact ih (i + 1) _ H locs ls ⟨by omega, hcond, _, _, hrx, hbv.put hv ha6 hb6 hc6⟩ (by omega) hP hD hS (lv_sub hl [0, 3, 4, 5] rfl)
        · have hno : ¬ hCq J ev na nb nc 3 := fun z => by
            have z : hCq J ev na nb nc (i + 1 + (3 - (i + 1))) := by rw [show i + 1 + (3 - (i + 1)) = 3 by omega]; exact z
            have z := hCq_mono (3 - (i + 1)) z
            exact c4 (by have := (z.2.2 hv).resolve_left hne; rw [this, Nat.add_sub_cancel])
          refine lv_aload_n hx hb dX9_bind_70 rfl (lv_at hl 3 rfl) ?_
          refine lv_iload_n hx hb dX9_bind_71 rfl (lv_at hl 4 rfl) ?_
          refine lv_iload_n hx hb dX9_bind_72 rfl (lv_at hl 2 rfl) ?_
          refine hc_v E hD hS (va_runV (As := [.int (nI p9), .int (nI i)]) (rest := []) ⟨hx, hb, hml, hown, hts⟩ ((c_X9_loosen l D K tv w9 ad (hup (hup f 7 f7) 8 f8) ct pt md lz kp fd hrx p9 hp6 J hJt i (by omega) cn (fun x hx => (hbv x hx).1)) H.size) (cwV 2 hts (hGV hmc k_735 k_737 k_16 k_29 k_738) rfl rfl rfl (by decide +kernel) ⟨Nat.le_of_ble_eq_true rfl, Nat.le_of_ble_eq_true rfl⟩) (hpreV E hP hD hS g0 rfl) rfl rfl hl.1 rfl (lv_room (Nat.le_of_ble_eq_true rfl)) dX9_bind_73 ⟨(Nat.le_refl _), (Nat.le_refl _)⟩) (fun ws5 H locs hp hP hD hS => ?_)
          obtain ⟨f9, hrx, hf9⟩ := hp
          rw [hup_up] at hrx
          refine lv_iconst (v := nI 0) hx hb dX9_bind_76 (by decide +kernel) ?_
          subst hAe
          exact W.zret (v := nI 0) hx hb hr (by decide +kernel) (fun t ht _ => ⟨⟨nI 0, ws5, rfl, ⟨f7, f9, hrx, Or.inr ⟨rfl, hno, hbv.back hqi (fun x hx => ⟨(hbv0 x hx).2.1, (hbv0 x hx).2.2.1⟩) hf9⟩⟩, by rw [ht]; exact hP, hD⟩, hS.F ht⟩) hS.2.2 dX9_bind_77
    · have hnn : J i < 64 := (hit_ge e2).mp (Int32.not_lt.mp c2)
      have hin := hit_n hnn
      refine lv_iload hx hb dX9_bind_36 (lv_at hl 1 rfl) ?_
      refine lv_iload hx hb dX9_bind_38 (lv_at hl 0 rfl) ?_
      refine lv_icmp_eq (tgt := 78) hx hb dX9_bind_40 (by decide) (fun c3 => ?_) (fun c3 => ?_)
      · have hcond : hCq J ev na nb nc (i + 1) := ⟨hqi, fun _ => (nI_eq (by omega) (by omega)).mp (hin.symm.trans c3), fun z => by omega⟩
        refine lv_iload hx hb dX9_bind_78 (lv_at hl 1 rfl) ?_
        refine lv_if_ge (tgt := 105) hx hb dX9_bind_80 (by decide) (fun c9 => ?_) (fun c9 => ?_)
        · refine lv_iinc (v := nI (i + 1)) (lv' := [(3, .int (nI (i + 1))), (5, .int (nI (hpk i na nb nc))), (4, .int (hit (J i))), (0, .ref (ad 0)), (1, .int (nI p9)), (2, .int (nI t9))]) hx hb dX9_bind_105 hl (k := 2) rfl (nI_1 _) (by decide) rfl (fun ls hl => ?_)
          refine lv_goto (tgt := 2) hx hb dX9_bind_108 (by decide) ?_
          exact ih (i + 1) _ H locs ls ⟨by omega, hcond, _, _, hrx, hbv.num hnn⟩ (by omega) hP hD hS (lv_sub hl [0, 3, 4, 5] rfl)
        · exact absurd ((hit_ge e2).mpr hnn) c9
      · have hno : ¬ hCq J ev na nb nc 3 := fun z => by
          have z : hCq J ev na nb nc (i + 1 + (3 - (i + 1))) := by rw [show i + 1 + (3 - (i + 1)) = 3 by omega]; exact z
          have z := hCq_mono (3 - (i + 1)) z
          exact c3 (hin.trans (congrArg nI (z.2.1 hnn)))
        refine lv_goto (tgt := 70) hx hb dX9_bind_43 (by decide) ?_
        refine lv_aload_n hx hb dX9_bind_70 rfl (lv_at hl 3 rfl) ?_
        refine lv_iload_n hx hb dX9_bind_71 rfl (lv_at hl 4 rfl) ?_
        refine lv_iload_n hx hb dX9_bind_72 rfl (lv_at hl 2 rfl) ?_
        refine hc_v E hD hS (va_runV (As := [.int (nI p9), .int (nI i)]) (rest := []) ⟨hx, hb, hml, hown, hts⟩ ((c_X9_loosen l D K tv w9 ad (hup (hup f 7 f7) 8 f8) ct pt md lz kp fd hrx p9 hp6 J hJt i (by omega) cn (fun x hx => (hbv x hx).1)) H.size) (cwV 2 hts (hGV hmc k_735 k_737 k_16 k_29 k_738) rfl rfl rfl (by decide +kernel) ⟨Nat.le_of_ble_eq_true rfl, Nat.le_of_ble_eq_true rfl⟩) (hpreV E hP hD hS g0 rfl) rfl rfl hl.1 rfl (lv_room (Nat.le_of_ble_eq_true rfl)) dX9_bind_73 ⟨(Nat.le_refl _), (Nat.le_refl _)⟩) (fun ws6 H locs hp hP hD hS => ?_)
        obtain ⟨f9, hrx, hf9⟩ := hp
        rw [hup_up] at hrx
        refine lv_iconst (v := nI 0) hx hb dX9_bind_76 (by decide +kernel) ?_
        subst hAe
        exact W.zret (v := nI 0) hx hb hr (by decide +kernel) (fun t ht _ => ⟨⟨nI 0, ws6, rfl, ⟨f7, f9, hrx, Or.inr ⟨rfl, hno, hbv.back hqi (fun x hx => ⟨(hbv0 x hx).2.1, (hbv0 x hx).2.2.1⟩) hf9⟩⟩, by rw [ht]; exact hP, hD⟩, hS.F ht⟩) hS.2.2 dX9_bind_77

set_option maxHeartbeats 4000000 in
set_option maxRecDepth 100000 in
/-- the reference: keep -/
theorem c_X9_keep (l : Launch) (D : va_G) (K : Nat → ClassId) (tv : Nat) (ws : va_W) (ad : Nat → Nat) (f : Nat → Nat → Int32) (ct pt md : Nat) (lz : Int64) (kp : Nat) (fd : Int32) (hrx : hRX K ad ws f ct pt md lz kp fd) (hkp : kp < 20000) : hV l D (hTy K) tv yX9_keep cX9_keep 2 none ({ frames := 0, cells := 0, slots := 0, locals := 0 }) [.ref (ad 0)] ws (fun ws1 => ∃ f10, hRX K ad ws1 (hup f 10 f10) ct pt md lz (kp + 1) fd) := by
  intro sz
  refine Met.ofW (cc := cX9_keep) (maxL := 2) (ret := none) (by decide) rfl ?_
  intro p e s m args below meth c s₁ B hml hv0
  obtain ⟨rfl, rfl, E, hP, hD⟩ := hentry hv0
  have hx := B.exec
  have hb := B.bytes
  have hr := B.returns
  have hts := atoms_spec (ws := hC yX9_keep cX9_keep 2 none) B.pre
  have hown : s.vm.findClass RX9 = some m.cls := findClass_of_methodNamed B.named
  have hlocks := B.notSynchronized
  generalize hAe : va_A ws s.heap.size = A at hD E ⊢
  have hl := lv_entry ([.ref (ad 0)]) (n := 2) (Nat.le_of_ble_eq_true rfl)
  rw [lg_entry_eq]
  generalize (lg_sl ([.ref (ad 0)]) ++ List.replicate (2 - (lg_sl ([.ref (ad 0)])).length) Slot.unset).toArray = ls at hl ⊢
  have hl : lv_has ls 2 [(0, .ref (ad 0))] := hl
  refine hat0 (fun H hHe => ?_)
  have hP : va_P D vwCl ws H := by rw [hHe]; exact hP
  have hS : va_S A s.heap H [] := by rw [hHe]; exact va_S.rf
  refine lv_iconst (v := nI 1) hx hb dX9_keep_0 (by decide +kernel) ?_
  refine lv_istore_n (lv' := [(1, .int (nI 1)), (0, .ref (ad 0))]) hx hb dX9_keep_1 rfl hl (by decide) rfl (fun ls hl => ?_)
  refine hloopW (α := Nat) 2 2 (fun v => [(1, .int (nI v)), (0, .ref (ad 0))]) (fun v w9 => 1 ≤ v ∧ v ≤ 9 ∧ ∃ f10, hRX K ad w9 (hup f 10 f10) ct pt md lz kp fd) (fun v => 9 - v) (fun _ => 0) (fun _ => 0) ?_ 1 ⟨Nat.le_refl _, by decide, f 10, by rw [hup_id]; exact hrx⟩ hP hD hS (lv_sub hl [0, 1] rfl)
  intro v w9 H locs ls hI9 hP hD hS hl ih
  obtain ⟨hv1, hv9, f10, hrx⟩ := hI9
  have hl : lv_has ls 2 [(1, .int (nI v)), (0, .ref (ad 0))] := hl
  have g0 := hrx.1
  have g7 : w9[7]? = some (ad 7, .inl (K 0, 9, .inl (f 7))) := hrx.2 7 (by decide) (by decide)
  have g8 : w9[8]? = some (ad 8, .inl (K 0, 9, .inl (f 8))) := hrx.2 8 (by decide) (by decide)
  have g10 : w9[10]? = some (ad 10, .inl (K 0, 160000, .inl f10)) := hrx.2 10 (by decide) (by decide)
  refine lv_iload_n hx hb dX9_keep_2 rfl (lv_at hl 0 rfl) ?_
  refine lv_bipush (v := nI 8) hx hb dX9_keep_3 (by decide +kernel) ?_
  refine lv_icmp_gt (tgt := 49) hx hb dX9_keep_5 (by decide) (fun c1 => ?_) (fun c1 => ?_)
  · refine lv_aload_n hx hb dX9_keep_49 rfl (lv_at hl 1 rfl) ?_
    refine lv_dup hx hb dX9_keep_50 rfl ?_
    refine va_get (v := .int (nI kp)) (C := RX9) (T := TX9) (N := 18) hx hb hts (hin_X9 hmc) hown E.1.1 hP 0 g0 rfl 14 (by decide) (hts _ (hmc _ k_583)) (fun _ h9 => h9) rfl dX9_keep_51 ?_
    refine lv_iconst (v := nI 1) hx hb dX9_keep_54 (by decide +kernel) ?_
    refine lv_iadd hx hb dX9_keep_55 ?_
    refine htopi (v := nI (kp + 1)) (nI_add _ _) ?_
    refine va_put (v := .int (nI (kp + 1))) (ty := .int) (C := RX9) (T := TX9) (N := 18) hx hb hts (hin_X9 hmc) tyX9 tyX9_ok nmX9 hown E.1.1 hP hD hS 0 g0 rfl 14 (by decide) (hts _ (hmc _ k_583)) (fun _ h9 => h9) rfl (by decide +kernel) rfl rfl (Nat.le_of_ble_eq_true rfl) dX9_keep_56 (fun H locs hP hD hS => ?_)
    obtain ⟨ws1, ews1⟩ : ∃ zw : va_W, zw = List.set w9 0 ((ad 0), .inr (iM, [.ref (ad 1), .int (nI ct), .ref (ad 2), .int (nI pt), .ref (ad 3), .int (nI md), .ref (ad 4), .ref (ad 5), .ref (ad 6), .long lz, .ref (ad 7), .ref (ad 8), .ref (ad 9), .ref (ad 10), .int (nI (kp + 1)), .int fd, .ref (ad 11), .ref (ad 12)])) := ⟨_, rfl⟩
    have hP : va_P D vwCl ws1 H := by rw [ews1]; exact hP
    have hD : va_D A ws1 := by rw [ews1]; exact hD
    have g0 : ws1[0]? = some ((ad 0), .inr (iM, [.ref (ad 1), .int (nI ct), .ref (ad 2), .int (nI pt), .ref (ad 3), .int (nI md), .ref (ad 4), .ref (ad 5), .ref (ad 6), .long lz, .ref (ad 7), .ref (ad 8), .ref (ad 9), .ref (ad 10), .int (nI (kp + 1)), .int fd, .ref (ad 11), .ref (ad 12)])) := by rw [ews1]; exact hset_eq g0
    have g7 := (show ws1[7]? = _ from (by rw [ews1]; exact hset_ne (by omega))).trans g7
    have g8 := (show ws1[8]? = _ from (by rw [ews1]; exact hset_ne (by omega))).trans g8
    have g10 := (show ws1[10]? = _ from (by rw [ews1]; exact hset_ne (by omega))).trans g10
    have hrx : hRX K ad ws1 (hup f 10 f10) ct pt md lz (kp + 1) fd := by rw [ews1]; exact hrx.obj
    subst hAe
    exact W.vret hx hb hr (fun t ht _ => ⟨⟨ws1, rfl, ⟨f10, hrx⟩, by rw [ht]; exact hP, hD⟩, hS.F ht⟩) hS.2.2 dX9_keep_59
  · have hv8 : v ≤ 8 := by
      rcases Nat.lt_or_ge 8 v with z | z
      · exact absurd (nI_lt z (by omega)) c1
      · exact z
    refine lv_aload_n hx hb dX9_keep_8 rfl (lv_at hl 1 rfl) ?_
    refine va_get (v := .ref (ad 10)) (C := RX9) (T := TX9) (N := 18) hx hb hts (hin_X9 hmc) hown E.1.1 hP 0 g0 rfl 13 (by decide) (hts _ (hmc _ k_582)) (fun _ h9 => h9) rfl dX9_keep_9 ?_
    refine lv_bipush (v := nI 8) hx hb dX9_keep_12 (by decide +kernel) ?_
    refine lv_aload_n hx hb dX9_keep_14 rfl (lv_at hl 1 rfl) ?_
    refine va_get (v := .int (nI kp)) (C := RX9) (T := TX9) (N := 18) hx hb hts (hin_X9 hmc) hown E.1.1 hP 0 g0 rfl 14 (by decide) (hts _ (hmc _ k_583)) (fun _ h9 => h9) rfl dX9_keep_15 ?_
    refine lv_imul hx hb dX9_keep_18 ?_
    refine htopi (v := nI (8 * kp)) (pk_mul _ _) ?_
    refine lv_iload_n hx hb dX9_keep_19 rfl (lv_at hl 0 rfl) ?_
    refine lv_iadd hx hb dX9_keep_20 ?_
    refine htopi (v := nI ((8 * kp) + v)) (nI_add _ _) ?_
    refine lv_iconst (v := nI 1) hx hb dX9_keep_21 (by decide +kernel) ?_
    refine lv_isub hx hb dX9_keep_22 ?_
    refine htopi (v := nI (8 * kp + v - 1)) (pk_sub (by omega)) ?_
    refine lv_aload_n hx hb dX9_keep_23 rfl (lv_at hl 1 rfl) ?_
    refine va_get (v := .ref (ad 8)) (C := RX9) (T := TX9) (N := 18) hx hb hts (hin_X9 hmc) hown E.1.1 hP 0 g0 rfl 11 (by decide) (hts _ (hmc _ k_580)) (fun _ h9 => h9) rfl dX9_keep_24 ?_
    refine lv_iload_n hx hb dX9_keep_27 rfl (lv_at hl 0 rfl) ?_
    refine va_iald hx hb E.1.1 hP 8 0 g8 rfl (vp_in_nI (by omega) (by omega)) dX9_keep_28 ?_
    refine htopi (v := (f 8) v) (by rw [nI_clamp (by omega)]) ?_
    refine lv_if_le (tgt := 41) hx hb dX9_keep_29 (by decide) (fun c2 => ?_) (fun c2 => ?_)
    · refine lv_iconst (v := nI 0) hx hb dX9_keep_41 (by decide +kernel) ?_
      refine va_iast hx hb E.1.1 hP hD hS 10 0 g10 rfl (vp_in_nI (by omega) (by omega)) dX9_keep_42 (fun H locs hP hD hS => ?_)
      rw [nI_clamp (show (8 * kp + v - 1) < 2 ^ 31 by omega)] at hP hD
      obtain ⟨ws2, ews2⟩ : ∃ zw : va_W, zw = List.set w9 10 ((ad 10), .inl (K 0, 160000, .inl (upd f10 (8 * kp + v - 1) (nI 0)))) := ⟨_, rfl⟩
      have hP : va_P D vwCl ws2 H := by rw [ews2]; exact hP
      have hD : va_D A ws2 := by rw [ews2]; exact hD
      have g0 := (show ws2[0]? = _ from (by rw [ews2]; exact hset_ne (by omega))).trans g0
      have g7 := (show ws2[7]? = _ from (by rw [ews2]; exact hset_ne (by omega))).trans g7
      have g8 := (show ws2[8]? = _ from (by rw [ews2]; exact hset_ne (by omega))).trans g8
      have g10 : ws2[10]? = some ((ad 10), .inl (K 0, 160000, .inl (upd f10 (8 * kp + v - 1) (nI 0)))) := by rw [ews2]; exact hset_eq g10
      have hrx : hRX K ad ws2 (hup (hup f 10 f10) 10 (upd f10 (8 * kp + v - 1) (nI 0))) ct pt md lz kp fd := by rw [ews2]; exact hrx.arr 10 (by decide) (by decide) _
      rw [hup_up] at hrx
      refine lv_iinc (v := nI (v + 1)) (lv' := [(1, .int (nI (v + 1))), (0, .ref (ad 0))]) hx hb dX9_keep_43 hl (k := 0) rfl (nI_1 _) (by decide) rfl (fun ls hl => ?_)
      refine lv_goto (tgt := 2) hx hb dX9_keep_46 (by decide) ?_
      exact ih (v + 1) _ H locs ls ⟨by omega, by omega, _, hrx⟩ (by omega) hP hD hS (lv_sub hl [0, 1] rfl)
    · refine lv_aload_n hx hb dX9_keep_32 rfl (lv_at hl 1 rfl) ?_
      refine va_get (v := .ref (ad 7)) (C := RX9) (T := TX9) (N := 18) hx hb hts (hin_X9 hmc) hown E.1.1 hP 0 g0 rfl 10 (by decide) (hts _ (hmc _ k_579)) (fun _ h9 => h9) rfl dX9_keep_33 ?_
      refine lv_iload_n hx hb dX9_keep_36 rfl (lv_at hl 0 rfl) ?_
      refine va_iald hx hb E.1.1 hP 7 0 g7 rfl (vp_in_nI (by omega) (by omega)) dX9_keep_37 ?_
      refine htopi (v := (f 7) v) (by rw [nI_clamp (by omega)]) ?_
      refine lv_goto (tgt := 42) hx hb dX9_keep_38 (by decide) ?_
      refine va_iast hx hb E.1.1 hP hD hS 10 0 g10 rfl (vp_in_nI (by omega) (by omega)) dX9_keep_42 (fun H locs hP hD hS => ?_)
      rw [nI_clamp (show (8 * kp + v - 1) < 2 ^ 31 by omega)] at hP hD
      obtain ⟨ws3, ews3⟩ : ∃ zw : va_W, zw = List.set w9 10 ((ad 10), .inl (K 0, 160000, .inl (upd f10 (8 * kp + v - 1) ((f 7) v)))) := ⟨_, rfl⟩
      have hP : va_P D vwCl ws3 H := by rw [ews3]; exact hP
      have hD : va_D A ws3 := by rw [ews3]; exact hD
      have g0 := (show ws3[0]? = _ from (by rw [ews3]; exact hset_ne (by omega))).trans g0
      have g7 := (show ws3[7]? = _ from (by rw [ews3]; exact hset_ne (by omega))).trans g7
      have g8 := (show ws3[8]? = _ from (by rw [ews3]; exact hset_ne (by omega))).trans g8
      have g10 : ws3[10]? = some ((ad 10), .inl (K 0, 160000, .inl (upd f10 (8 * kp + v - 1) ((f 7) v)))) := by rw [ews3]; exact hset_eq g10
      have hrx : hRX K ad ws3 (hup (hup f 10 f10) 10 (upd f10 (8 * kp + v - 1) ((f 7) v))) ct pt md lz kp fd := by rw [ews3]; exact hrx.arr 10 (by decide) (by decide) _
      rw [hup_up] at hrx
      refine lv_iinc (v := nI (v + 1)) (lv' := [(1, .int (nI (v + 1))), (0, .ref (ad 0))]) hx hb dX9_keep_43 hl (k := 0) rfl (nI_1 _) (by decide) rfl (fun ls hl => ?_)
      refine lv_goto (tgt := 2) hx hb dX9_keep_46 (by decide) ?_
      exact ih (v + 1) _ H locs ls ⟨by omega, by omega, _, hrx⟩ (by omega) hP hD hS (lv_sub hl [0, 1] rfl)

theorem hRB.frm2 {f g : Nat → Nat → Int32} {S : Nat → Nat → Nat → Prop} {cnt np : Nat} {o : List Nat} {I : Nat → Nat → Nat} {fd fd1 : Int32} (h : hRB f S cnt np o I fd) (h1 : g 1 = f 1) (h2 : g 2 = f 2) (h3 : g 3 = f 3) (hF : hRF g fd1) : hRB g S cnt np o I fd1 := by
  obtain ⟨q1, q2, q3, q4, q5, q6, q7, -⟩ := h
  refine ⟨q1, q2, q3, q4, ?_, ?_, ?_, hF⟩
  · rw [h1]; exact q5
  · rw [h2]; exact q6
  · rw [h3]; exact q7
/-- how many of the first K stand before (q, k) -/
def hcn (s : Nat → Int) (q : Int) (k : Nat) : Nat → Nat
  | 0 => 0
  | K + 1 => hcn s q k K + (if s K < q ∨ (s K = q ∧ K < k) then 1 else 0)
theorem hcn_le (s : Nat → Int) (q : Int) (k : Nat) : ∀ K, hcn s q k K ≤ K
  | 0 => Nat.le_refl _
  | K + 1 => by
    have := hcn_le s q k K
    show hcn s q k K + _ ≤ K + 1
    split <;> omega
theorem hcn_skip {s : Nat → Int} {q : Int} {k : Nat} (h : s k ≠ q) : ∀ K, hcn s q (k + 1) K = hcn s q k K
  | 0 => rfl
  | K + 1 => by
    show hcn s q (k + 1) K + _ = hcn s q k K + _
    rw [hcn_skip h K]
    congr 1
    by_cases z : K = k
    · subst z
      have : ¬ (s K = q ∧ K < K + 1) := fun w => h w.1
      have : ¬ (s K = q ∧ K < K) := fun w => h w.1
      simp [h]
    · have : (K < k + 1) ↔ (K < k) := by omega
      simp only [this]
theorem hcn_step {s : Nat → Int} {q : Int} {k : Nat} (h : s k = q) : ∀ K, hcn s q (k + 1) K = hcn s q k K + (if k < K then 1 else 0)
  | 0 => rfl
  | K + 1 => by
    show hcn s q (k + 1) K + _ = hcn s q k K + _ + _
    rw [hcn_step h K]
    by_cases z : K = k
    · subst z
      simp [h]
    · have e : (K < k + 1) ↔ (K < k) := by omega
      have e2 : (k < K + 1) ↔ (k < K) := by omega
      simp only [e, e2]
      omega
theorem hcn_next (s : Nat → Int) (q : Int) (k : Nat) : ∀ K, K ≤ k → hcn s q k K = hcn s (q + 1) 0 K
  | 0, _ => rfl
  | K + 1, h => by
    show hcn s q k K + _ = hcn s (q + 1) 0 K + _
    rw [hcn_next s q k K (by omega)]
    congr 1
    have e : (s K < q ∨ (s K = q ∧ K < k)) ↔ (s K < q + 1 ∨ (s K = q + 1 ∧ K < 0)) := by
      constructor
      · rintro (a | a)
        · exact Or.inl (by omega)
        · exact Or.inl (by omega)
      · rintro (a | a)
        · rcases (show s K < q ∨ s K = q by omega) with b | b
          · exact Or.inl b
          · exact Or.inr ⟨b, by omega⟩
        · exact absurd a.2 (Nat.not_lt_zero _)
    simp only [e]
theorem hcn_lt {s : Nat → Int} {q : Int} {k K : Nat} (hk : k < K) (h : s k = q) : hcn s q k K + 1 ≤ K := by
  have e := hcn_step h K
  rw [if_pos hk] at e
  rw [← e]
  exact hcn_le _ _ _ _
theorem hIx.fn {h : Nat → Int32} (hx : hIx h) : ∃ m : Nat → Nat, ∀ i, i < 20000 → m i < 20000 ∧ h i = nI (m i) := by
  classical
  refine ⟨fun i => if z : i < 20000 then (hx i z).choose else 0, fun i hi => ?_⟩
  dsimp only
  rw [dif_pos hi]
  exact (hx i hi).choose_spec
theorem hIx.upd {h : Nat → Int32} (hx : hIx h) {k m : Nat} (hm : m < 20000) : hIx (upd h k (nI m)) := fun i hi => by
  by_cases z : i = k
  · subst z
    exact ⟨m, hm, by rw [pk_us]⟩
  · rw [pk_un z]
    exact hx i hi
theorem hval_ix0 : ∀ k, k < 8 → -(nI 1) + -(hvI k) = nI k := by decide +kernel
theorem hval_ix (a : Nat) {k : Nat} (hk : k < 8) : nI a - nI 1 - hvI k = nI (a + k) := by
  rw [Int32.sub_eq_add_neg, Int32.sub_eq_add_neg, Int32.add_assoc, hval_ix0 k hk, nI_add]
theorem hplace {x : Int32} {ct : Nat} (h : x = (-1) ∨ ∃ q, q < ct ∧ x = nI q) : ∃ d, d ≤ ct ∧ x + nI 1 = nI d := by
  rcases h with h | ⟨q, h1, h2⟩
  · exact ⟨0, Nat.zero_le _, by rw [h]; decide +kernel⟩
  · exact ⟨q + 1, h1, by rw [h2]; exact nI_add _ _⟩
