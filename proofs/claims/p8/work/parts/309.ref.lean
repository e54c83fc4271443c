set_option maxHeartbeats 4000000 in
set_option maxRecDepth 100000 in
/-- the reference: choose -/
theorem c_X9_choose (l : Launch) (D : va_G) (K : Nat → ClassId) (tv : Nat) (ws : va_W) (ad : Nat → Nat) (f : Nat → Nat → Int32) (ct pt md : Nat) (lz : Int64) (kp : Nat) (fd : Int32) (hrx : hRX K ad ws f ct pt md lz kp fd) (hp6 : pt ≤ 6) (hc6 : ct ≤ 640) (S : Nat → Nat → Nat → Prop) (I : Nat → Nat → Nat) (hT : hRT (f 1) S ct) (hIt2 : hRI (f 2) pt I) : hV l D (hTy K) tv yX9_choose cX9_choose 5 none ({ frames := 5, cells := 0, slots := 0, locals := 300 }) [.ref (ad 0)] ws (fun ws1 => ∃ g lz1, hRX K ad ws1 g ct pt md lz1 kp fd ∧ (∀ k, k ≠ 4 → k ≠ 5 → k ≠ 6 → g k = f k) ∧ ∃ B, hBst (hCs S I pt) pt B ∧ (∀ k, k < pt → g 6 k = nI (B k)) ∧ lz1 = lN (hCs S I pt B)) := by
  intro sz
  refine Met.ofW (cc := cX9_choose) (maxL := 5) (ret := none) (by decide) rfl ?_
  intro p e s m args below meth c s₁ B hml hv0
  obtain ⟨rfl, rfl, E, hP, hD⟩ := hentry hv0
  have hx := B.exec
  have hb := B.bytes
  have hr := B.returns
  have hts := atoms_spec (ws := hC yX9_choose cX9_choose 5 none) B.pre
  have hown : s.vm.findClass RX9 = some m.cls := findClass_of_methodNamed B.named
  have hlocks := B.notSynchronized
  generalize hAe : va_A ws s.heap.size = A at hD E ⊢
  have hl := lv_entry ([.ref (ad 0)]) (n := 5) (Nat.le_of_ble_eq_true rfl)
  rw [lg_entry_eq]
  generalize (lg_sl ([.ref (ad 0)]) ++ List.replicate (5 - (lg_sl ([.ref (ad 0)])).length) Slot.unset).toArray = ls at hl ⊢
  have hl : lv_has ls 5 [(0, .ref (ad 0))] := hl
  refine hat0 (fun H hHe => ?_)
  have hP : va_P D vwCl ws H := by rw [hHe]; exact hP
  have hS : va_S A s.heap H [] := by rw [hHe]; exact va_S.rf
  refine lv_iconst (v := nI 0) hx hb dX9_choose_0 (by decide +kernel) ?_
  refine lv_istore_n (lv' := [(1, .int (nI 0)), (0, .ref (ad 0))]) hx hb dX9_choose_1 rfl hl (by decide) rfl (fun ls hl => ?_)
  refine hloopW (α := Nat) 2 5 (fun i => [(1, .int (nI i)), (0, .ref (ad 0))]) (fun i w9 => i ≤ 1536 ∧ ∃ a4, hRX K ad w9 (hup f 4 a4) ct pt md lz kp fd ∧ ∀ j, j < i → a4 j = (-1)) (fun i => 1536 - i) (fun _ => 0) (fun _ => 0) ?_ 0 ⟨Nat.zero_le _, f 4, by rw [hup_id]; exact hrx, fun j hj => absurd hj (Nat.not_lt_zero _)⟩ hP hD hS (lv_sub hl [0, 1] rfl)
  intro i w9 H locs ls hI9 hP hD hS hl ih
  obtain ⟨hi, a4, hrx, ha4⟩ := hI9
  have hl : lv_has ls 5 [(1, .int (nI i)), (0, .ref (ad 0))] := hl
  have g0 := hrx.1
  have g4 : w9[4]? = some (ad 4, .inl (K 0, 1536, .inl ((hup f 4 a4) 4))) := hrx.2 4 (by decide) (by decide)
  refine lv_iload_n hx hb dX9_choose_2 rfl (lv_at hl 0 rfl) ?_
  refine lv_sipush (v := nI 1536) hx hb dX9_choose_3 (by decide +kernel) ?_
  refine lv_icmp_ge (tgt := 22) hx hb dX9_choose_6 (by decide) (fun c1 => ?_) (fun c1 => ?_)
  · clear ih
    have hi9 := (nI_leI (by decide) (by omega)).mp c1
    have hca0 : hCa a4 S I pt := fun p hp v hv => Or.inl (by rw [ha4 (256 * p + v) (by omega)]; decide +kernel)
    refine lv_iconst (v := nI 0) hx hb dX9_choose_22 (by decide +kernel) ?_
    refine lv_istore_n (lv' := [(1, .int (nI 0)), (0, .ref (ad 0))]) hx hb dX9_choose_23 rfl hl (by decide) rfl (fun ls hl => ?_)
    refine hloopW (α := Nat) 24 5 (fun k => [(1, .int (nI k)), (0, .ref (ad 0))]) (fun k w9 => k ≤ pt ∧ ∃ a5, hRX K ad w9 (hup (hup f 4 a4) 5 a5) ct pt md lz kp fd ∧ ∀ j, j < k → a5 j = nI j) (fun k => pt - k) (fun _ => 0) (fun _ => 0) ?_ 0 ⟨Nat.zero_le _, (hup f 4 a4) 5, by rw [hup_id]; exact hrx, fun j hj => absurd hj (Nat.not_lt_zero _)⟩ hP hD hS (lv_sub hl [0, 1] rfl)
    intro k w9 H locs ls hI9 hP hD hS hl ih
    obtain ⟨hk, a5, hrx, ha5⟩ := hI9
    have hl : lv_has ls 5 [(1, .int (nI k)), (0, .ref (ad 0))] := hl
    have g0 := hrx.1
    have g5 : w9[5]? = some (ad 5, .inl (K 0, 6, .inl a5)) := hrx.2 5 (by decide) (by decide)
    refine lv_iload_n hx hb dX9_choose_24 rfl (lv_at hl 0 rfl) ?_
    refine lv_aload_n hx hb dX9_choose_25 rfl (lv_at hl 1 rfl) ?_
    refine va_get (v := .int (nI pt)) (C := RX9) (T := TX9) (N := 18) hx hb hts (hin_X9 hmc) hown E.1.1 hP 0 g0 rfl 3 (by decide) (hts _ (hmc _ k_572)) (fun _ h9 => h9) rfl dX9_choose_26 ?_
    refine lv_icmp_ge (tgt := 45) hx hb dX9_choose_29 (by decide) (fun c2 => ?_) (fun c2 => ?_)
    · clear ih
      have hkp : k = pt := by
        have := (nI_leI (by omega) (by omega)).mp c2
        omega
      refine lv_aload_n hx hb dX9_choose_45 rfl (lv_at hl 1 rfl) ?_
      refine lv_ldc2 (v := (-1)) hx hb hown (hts _ (hmc _ k_681)) dX9_choose_46 ?_
      refine va_put (v := .long (-1)) (ty := .long) (C := RX9) (T := TX9) (N := 18) hx hb hts (hin_X9 hmc) tyX9 tyX9_ok nmX9 hown E.1.1 hP hD hS 0 g0 rfl 9 (by decide) (hts _ (hmc _ k_578)) (fun _ h9 => h9) rfl (by decide +kernel) rfl rfl (Nat.le_of_ble_eq_true rfl) dX9_choose_49 (fun H locs hP hD hS => ?_)
      obtain ⟨ws1, ews1⟩ : ∃ zw : va_W, zw = List.set w9 0 ((ad 0), .inr (iM, [.ref (ad 1), .int (nI ct), .ref (ad 2), .int (nI pt), .ref (ad 3), .int (nI md), .ref (ad 4), .ref (ad 5), .ref (ad 6), .long (-1), .ref (ad 7), .ref (ad 8), .ref (ad 9), .ref (ad 10), .int (nI kp), .int fd, .ref (ad 11), .ref (ad 12)])) := ⟨_, rfl⟩
      have hP : va_P D vwCl ws1 H := by rw [ews1]; exact hP
      have hD : va_D A ws1 := by rw [ews1]; exact hD
      have g0 : ws1[0]? = some ((ad 0), .inr (iM, [.ref (ad 1), .int (nI ct), .ref (ad 2), .int (nI pt), .ref (ad 3), .int (nI md), .ref (ad 4), .ref (ad 5), .ref (ad 6), .long (-1), .ref (ad 7), .ref (ad 8), .ref (ad 9), .ref (ad 10), .int (nI kp), .int fd, .ref (ad 11), .ref (ad 12)])) := by rw [ews1]; exact hset_eq g0
      have g5 := (show ws1[5]? = _ from (by rw [ews1]; exact hset_ne (by omega))).trans g5
      have hrx : hRX K ad ws1 (hup (hup f 4 a4) 5 a5) ct pt md (-1) kp fd := by rw [ews1]; exact hrx.obj
      refine lv_iconst (v := nI 1) hx hb dX9_choose_52 (by decide +kernel) ?_
      refine lv_istore_n (lv' := [(1, .int (nI 1)), (0, .ref (ad 0))]) hx hb dX9_choose_53 rfl hl (by decide) rfl (fun ls hl => ?_)
      refine hloopW (α := Nat × Nat) 54 5 (fun y => [(1, .int (nI y.1)), (0, .ref (ad 0))]) (fun y w9 => ∃ g lz1 t, hRX K ad w9 g ct pt md lz1 kp fd ∧ (∀ k, k ≠ 4 → k ≠ 5 → k ≠ 6 → g k = f k) ∧ hCa (g 4) S I pt ∧ hAt5 (g 5) t pt ∧ hPm t pt ∧ y.2 = hVl t pt ∧ (y.1 = 0 ∨ y.1 = 1) ∧ (y.1 = 1 → (lz1 < 0 ∧ ∀ u, hPm u pt → hVl t pt ≤ hVl u pt) ∨ ∃ B, hBto (hCs S I pt) pt (hVl t pt) B ∧ (∀ k, k < pt → g 6 k = nI (B k)) ∧ lz1 = lN (hCs S I pt B)) ∧ (y.1 = 0 → ∃ B, hBst (hCs S I pt) pt B ∧ (∀ k, k < pt → g 6 k = nI (B k)) ∧ lz1 = lN (hCs S I pt B))) (fun y => y.1 + 2 * (50000 - y.2)) (fun _ => 0) (fun _ => 0) ?_ (1, hVl (fun k => k) pt) ⟨_, (-1), fun k => k, hrx, fun k h4 h5 h6 => (if_neg h5).trans (if_neg h4), hca0, fun k hk => ha5 k (by omega), ⟨fun _ h => h, fun _ _ _ _ h => h⟩, rfl, Or.inr rfl, fun _ => Or.inl ⟨by decide +kernel, fun u hu => hid_least hp6 hu⟩, fun q => absurd q (show ¬ (1 : Nat) = 0 by decide)⟩ hP hD hS (lv_sub hl [0, 1] rfl)
      rintro ⟨gs, V⟩ w9 H locs ls hI9 hP hD hS hl ih
      obtain ⟨g, lz1, t, hrx, hfr, hca, hat, hpm, hVe, hgs, hlv, hend⟩ := hI9
      dsimp only at hVe hgs hend ih
      have hl : lv_has ls 5 [(1, .int (nI gs)), (0, .ref (ad 0))] := hl
      have g0 := hrx.1
      have g5 : w9[5]? = some (ad 5, .inl (K 0, 6, .inl (g 5))) := hrx.2 5 (by decide) (by decide)
      refine lv_iload_n hx hb dX9_choose_54 rfl (lv_at hl 0 rfl) ?_
      refine lv_if_eq (tgt := 130) hx hb dX9_choose_55 (by decide) (fun c3 => ?_) (fun c3 => ?_)
      · have hg0 : gs = 0 := by
          rcases hgs with z | z
          · exact z
          · rw [z] at c3; exact absurd c3 (by decide +kernel)
        subst hAe
        exact W.vret hx hb hr (fun t ht _ => ⟨⟨w9, rfl, ⟨g, lz1, hrx, hfr, hend hg0⟩, by rw [ht]; exact hP, hD⟩, hS.F ht⟩) hS.2.2 dX9_choose_130
      · have hg1 : gs = 1 := by
          rcases hgs with z | z
          · rw [z] at c3; exact absurd rfl c3
          · exact z
        have hlv := hlv hg1
        refine lv_aload_n hx hb dX9_choose_58 rfl (lv_at hl 1 rfl) ?_
        refine lv_aload_n hx hb dX9_choose_59 rfl (lv_at hl 1 rfl) ?_
        refine va_get (v := .ref (ad 5)) (C := RX9) (T := TX9) (N := 18) hx hb hts (hin_X9 hmc) hown E.1.1 hP 0 g0 rfl 7 (by decide) (hts _ (hmc _ k_576)) (fun _ h9 => h9) rfl dX9_choose_60 ?_
        refine hc_l E hD hS (va_runV (As := [.ref (ad 5)]) (rest := []) ⟨hx, hb, hml, hown, hts⟩ ((c_X9_costOf l D K tv w9 ad g ct pt md lz1 kp fd hrx hp6 hc6 S I (by rw [hfr 1 (by decide) (by decide) (by decide)]; exact hT) (by rw [hfr 2 (by decide) (by decide) (by decide)]; exact hIt2) hca t (fun k hk => ⟨hpm.1 k hk, hat k hk⟩)) H.size) (cwV 1 hts (hGV hmc k_682 k_684 k_9 k_29 k_685) rfl rfl rfl (by decide +kernel) ⟨Nat.le_of_ble_eq_true rfl, Nat.le_of_ble_eq_true rfl⟩) (hpreV E hP hD hS g0 rfl) rfl rfl hl.1 rfl (lv_room (Nat.le_of_ble_eq_true rfl)) dX9_choose_63 ⟨(Nat.le_refl _), (Nat.le_refl _)⟩) (fun r3 ws2 H locs hp hP hD hS => ?_)
        obtain ⟨rfl, f4, hrx, hca4⟩ := hp
        have g0 := hrx.1
        have g5 : ws2[5]? = some (ad 5, .inl (K 0, 6, .inl ((hup g 4 f4) 5))) := hrx.2 5 (by decide) (by decide)
        have g6 : ws2[6]? = some (ad 6, .inl (K 0, 6, .inl ((hup g 4 f4) 6))) := hrx.2 6 (by decide) (by decide)
        have hcl : hCs S I pt t ≤ 1000000000000 := (hCk_le S I t pt).2
        refine lv_lstore_n (lv' := [(2, .long (lN (hCs S I pt t))), (1, .int (nI gs)), (0, .ref (ad 0))]) hx hb dX9_choose_66 rfl hl (by decide) rfl (fun ls hl => ?_)
        refine lv_aload_n hx hb dX9_choose_67 rfl (lv_at hl 2 rfl) ?_
        refine va_get (v := .long lz1) (C := RX9) (T := TX9) (N := 18) hx hb hts (hin_X9 hmc) hown E.1.1 hP 0 g0 rfl 9 (by decide) (hts _ (hmc _ k_578)) (fun _ h9 => h9) rfl dX9_choose_68 ?_
        refine lv_lconst (v := lN 0) hx hb dX9_choose_71 (by decide +kernel) ?_
        refine W.lcmp hx hb dX9_choose_72 ?_
        refine lv_if_lt (tgt := 85) hx hb dX9_choose_73 (by decide) (fun c4 => ?_) (fun c4 => ?_)
        · have hnew : hBto (hCs S I pt) pt (hVl t pt + 1) t := by
            rcases hlv with ⟨-, hm⟩ | ⟨B, -, -, hlB⟩
            · exact hBto.one hp6 (fun t u => hCs_ext t u) hpm hm
            · have hbl : hCs S I pt B ≤ 1000000000000 := (hCk_le S I B pt).2
              rw [hlB] at c4
              exact absurd ((pk_lLT (b := 0) (by omega) (by decide)).mp ((lg_cmp_lt _ _).mp c4)) (Nat.not_lt_zero _)
          refine lv_aload_n hx hb dX9_choose_85 rfl (lv_at hl 2 rfl) ?_
          refine lv_lload_n hx hb dX9_choose_86 rfl (lv_at hl 0 rfl) ?_
          refine va_put (v := .long (lN (hCs S I pt t))) (ty := .long) (C := RX9) (T := TX9) (N := 18) hx hb hts (hin_X9 hmc) tyX9 tyX9_ok nmX9 hown E.1.1 hP hD hS 0 g0 rfl 9 (by decide) (hts _ (hmc _ k_578)) (fun _ h9 => h9) rfl (by decide +kernel) rfl rfl (Nat.le_of_ble_eq_true rfl) dX9_choose_87 (fun H locs hP hD hS => ?_)
          obtain ⟨ws4, ews4⟩ : ∃ zw : va_W, zw = List.set ws2 0 ((ad 0), .inr (iM, [.ref (ad 1), .int (nI ct), .ref (ad 2), .int (nI pt), .ref (ad 3), .int (nI md), .ref (ad 4), .ref (ad 5), .ref (ad 6), .long (lN (hCs S I pt t)), .ref (ad 7), .ref (ad 8), .ref (ad 9), .ref (ad 10), .int (nI kp), .int fd, .ref (ad 11), .ref (ad 12)])) := ⟨_, rfl⟩
          have hP : va_P D vwCl ws4 H := by rw [ews4]; exact hP
          have hD : va_D A ws4 := by rw [ews4]; exact hD
          have g0 : ws4[0]? = some ((ad 0), .inr (iM, [.ref (ad 1), .int (nI ct), .ref (ad 2), .int (nI pt), .ref (ad 3), .int (nI md), .ref (ad 4), .ref (ad 5), .ref (ad 6), .long (lN (hCs S I pt t)), .ref (ad 7), .ref (ad 8), .ref (ad 9), .ref (ad 10), .int (nI kp), .int fd, .ref (ad 11), .ref (ad 12)])) := by rw [ews4]; exact hset_eq g0
          have g5 := (show ws4[5]? = _ from (by rw [ews4]; exact hset_ne (by omega))).trans g5
          have g6 := (show ws4[6]? = _ from (by rw [ews4]; exact hset_ne (by omega))).trans g6
          have hrx : hRX K ad ws4 (hup g 4 f4) ct pt md (lN (hCs S I pt t)) kp fd := by rw [ews4]; exact hrx.obj
          refine lv_iconst (v := nI 0) hx hb dX9_choose_90 (by decide +kernel) ?_
          refine lv_istore (lv' := [(4, .int (nI 0)), (2, .long (lN (hCs S I pt t))), (1, .int (nI gs)), (0, .ref (ad 0))]) hx hb dX9_choose_91 hl (by decide) rfl (fun ls hl => ?_)
          refine hloopW (α := Nat) 93 5 (fun k => [(4, .int (nI k)), (2, .long (lN (hCs S I pt t))), (1, .int (nI gs)), (0, .ref (ad 0))]) (fun k w9 => k ≤ pt ∧ ∃ a6, hRX K ad w9 (hup (hup g 4 f4) 6 a6) ct pt md (lN (hCs S I pt t)) kp fd ∧ ∀ j, j < k → a6 j = nI (t j)) (fun k => pt - k) (fun _ => 0) (fun _ => 0) ?_ 0 ⟨Nat.zero_le _, (hup g 4 f4) 6, by rw [hup_id]; exact hrx, fun j hj => absurd hj (Nat.not_lt_zero _)⟩ hP hD hS (lv_sub hl [0, 1, 2, 3] rfl)
          intro k w9 H locs ls hI9 hP hD hS hl ih4
          obtain ⟨hk, a6, hrx, ha6⟩ := hI9
          have hl : lv_has ls 5 [(4, .int (nI k)), (2, .long (lN (hCs S I pt t))), (1, .int (nI gs)), (0, .ref (ad 0))] := hl
          have g0 := hrx.1
          have g5 : w9[5]? = some (ad 5, .inl (K 0, 6, .inl (g 5))) := hrx.2 5 (by decide) (by decide)
          have g6 : w9[6]? = some (ad 6, .inl (K 0, 6, .inl a6)) := hrx.2 6 (by decide) (by decide)
          refine lv_iload hx hb dX9_choose_93 (lv_at hl 0 rfl) ?_
          refine lv_aload_n hx hb dX9_choose_95 rfl (lv_at hl 3 rfl) ?_
          refine va_get (v := .int (nI pt)) (C := RX9) (T := TX9) (N := 18) hx hb hts (hin_X9 hmc) hown E.1.1 hP 0 g0 rfl 3 (by decide) (hts _ (hmc _ k_572)) (fun _ h9 => h9) rfl dX9_choose_96 ?_
          refine lv_icmp_ge (tgt := 122) hx hb dX9_choose_99 (by decide) (fun c7 => ?_) (fun c7 => ?_)
          · have hkp : k = pt := by
              have := (nI_leI (by omega) (by omega)).mp c7
              omega
            refine lv_aload_n hx hb dX9_choose_122 rfl (lv_at hl 3 rfl) ?_
            refine hc_i E hD hS (va_runV (As := []) (rest := []) ⟨hx, hb, hml, hown, hts⟩ ((c_X9_turn l D K tv w9 ad (hup (hup g 4 f4) 6 a6) ct pt md (lN (hCs S I pt t)) kp fd hrx hp6 t hat hpm) H.size) (cwV 0 hts (hGV hmc k_699 k_701 k_12 k_29 k_702) rfl rfl rfl (by decide +kernel) ⟨Nat.le_of_ble_eq_true rfl, Nat.le_of_ble_eq_true rfl⟩) (hpreV E hP hD hS g0 rfl) rfl rfl hl.1 rfl (lv_room (Nat.le_of_ble_eq_true rfl)) dX9_choose_123 ⟨(Nat.le_refl _), (Nat.le_refl _)⟩) (fun r6 ws5 H locs hp hP hD hS => ?_)
            refine lv_istore_n (lv' := [(1, .int r6), (4, .int (nI k)), (2, .long (lN (hCs S I pt t))), (0, .ref (ad 0))]) hx hb dX9_choose_126 rfl hl (by decide) rfl (fun ls hl => ?_)
            refine lv_goto (tgt := 54) hx hb dX9_choose_127 (by decide) ?_
            rcases hp with ⟨rfl, rfl, hall⟩ | ⟨rfl, F1, t1, hrx, hat1, hpm1, hvl, hnx⟩
            · exact ih (0, V) _ H locs ls ⟨_, _, t, hrx, (fun k h4 h5 h6 => (show hup (hup g 4 f4) 6 a6 k = g k from (if_neg h6).trans (if_neg h4)).trans (hfr k h4 h5 h6)), hca4, hat, hpm, hVe, Or.inl rfl, fun q => absurd q (show ¬ (0 : Nat) = 1 by decide), fun _ => ⟨t, hnew.last hall, (fun q hq => ha6 q (by omega)), rfl⟩⟩ (by show 0 + 2 * (50000 - V) < gs + 2 * (50000 - V); omega) hP hD hS (lv_sub hl [0, 3] rfl)
            · have hv6 := hVl_le (t := t1) pt (fun j hj => by have := hpm1.1 j hj; omega)
              have hp7 : 6 ^ pt ≤ 6 ^ 6 := Nat.pow_le_pow_right (by decide) hp6
              have hp8 : (6 : Nat) ^ 6 = 46656 := by decide
              exact ih (1, hVl t1 pt) _ H locs ls ⟨_, _, t1, hrx, fun k h4 h5 h6 => (if_neg h5).trans ((fun k h4 h5 h6 => (show hup (hup g 4 f4) 6 a6 k = g k from (if_neg h6).trans (if_neg h4)).trans (hfr k h4 h5 h6)) k h4 h5 h6), hca4, hat1, hpm1, rfl, Or.inr rfl, fun _ => Or.inr ⟨t, hnew.next hvl hnx, (fun q hq => ha6 q (by omega)), rfl⟩, fun q => absurd q (show ¬ (1 : Nat) = 0 by decide)⟩ (by show 1 + 2 * (50000 - hVl t1 pt) < gs + 2 * (50000 - V); omega) hP hD hS (lv_sub hl [0, 3] rfl)
          · have hk2 : k < pt := Nat.not_le.mp (fun z => c7 (nI_le z (by omega)))
            refine lv_aload_n hx hb dX9_choose_102 rfl (lv_at hl 3 rfl) ?_
            refine va_get (v := .ref (ad 6)) (C := RX9) (T := TX9) (N := 18) hx hb hts (hin_X9 hmc) hown E.1.1 hP 0 g0 rfl 8 (by decide) (hts _ (hmc _ k_577)) (fun _ h9 => h9) rfl dX9_choose_103 ?_
            refine lv_iload hx hb dX9_choose_106 (lv_at hl 0 rfl) ?_
            refine lv_aload_n hx hb dX9_choose_108 rfl (lv_at hl 3 rfl) ?_
            refine va_get (v := .ref (ad 5)) (C := RX9) (T := TX9) (N := 18) hx hb hts (hin_X9 hmc) hown E.1.1 hP 0 g0 rfl 7 (by decide) (hts _ (hmc _ k_576)) (fun _ h9 => h9) rfl dX9_choose_109 ?_
            refine lv_iload hx hb dX9_choose_112 (lv_at hl 0 rfl) ?_
            refine va_iald hx hb E.1.1 hP 5 0 g5 rfl (vp_in_nI (by omega) (by omega)) dX9_choose_114 ?_
            refine htopi (v := (g 5) k) (by rw [nI_clamp (by omega)]) ?_
            refine htopi (v := nI (t k)) (hat k hk2) ?_
            refine va_iast hx hb E.1.1 hP hD hS 6 0 g6 rfl (vp_in_nI (by omega) (by omega)) dX9_choose_115 (fun H locs hP hD hS => ?_)
            rw [nI_clamp (show k < 2 ^ 31 by omega)] at hP hD
            obtain ⟨ws7, ews7⟩ : ∃ zw : va_W, zw = List.set w9 6 ((ad 6), .inl (K 0, 6, .inl (upd a6 k (nI (t k))))) := ⟨_, rfl⟩
            have hP : va_P D vwCl ws7 H := by rw [ews7]; exact hP
            have hD : va_D A ws7 := by rw [ews7]; exact hD
            have g0 := (show ws7[0]? = _ from (by rw [ews7]; exact hset_ne (by omega))).trans g0
            have g5 := (show ws7[5]? = _ from (by rw [ews7]; exact hset_ne (by omega))).trans g5
            have g6 : ws7[6]? = some ((ad 6), .inl (K 0, 6, .inl (upd a6 k (nI (t k))))) := by rw [ews7]; exact hset_eq g6
            have hrx : hRX K ad ws7 (hup (hup (hup g 4 f4) 6 a6) 6 (upd a6 k (nI (t k)))) ct pt md (lN (hCs S I pt t)) kp fd := by rw [ews7]; exact hrx.arr 6 (by decide) (by decide) _
            refine lv_iinc (v := nI (k + 1)) (lv' := [(4, .int (nI (k + 1))), (2, .long (lN (hCs S I pt t))), (1, .int (nI gs)), (0, .ref (ad 0))]) hx hb dX9_choose_116 hl (k := 0) rfl (nI_1 _) (by decide) rfl (fun ls hl => ?_)
            refine lv_goto (tgt := 93) hx hb dX9_choose_119 (by decide) ?_
            rw [hup_up] at hrx
            exact ih4 (k + 1) _ H locs ls ⟨by omega, _, hrx, fun j hj => by
                by_cases z : j = k
                · subst z; rw [pk_us]
                · rw [pk_un z]; exact ha6 j (by omega)⟩ (by omega) hP hD hS (lv_sub hl [0, 1, 2, 3] rfl)
        · obtain ⟨B, hB, hg6, hlB⟩ := hlv.resolve_left (fun q => c4 ((lg_cmp_lt _ _).mpr q.1))
          subst hlB
          have hbl : hCs S I pt B ≤ 1000000000000 := (hCk_le S I B pt).2
          have g0 := hrx.1
          have g5 : ws2[5]? = some (ad 5, .inl (K 0, 6, .inl ((hup g 4 f4) 5))) := hrx.2 5 (by decide) (by decide)
          have g6 : ws2[6]? = some (ad 6, .inl (K 0, 6, .inl ((hup g 4 f4) 6))) := hrx.2 6 (by decide) (by decide)
          refine lv_lload_n hx hb dX9_choose_76 rfl (lv_at hl 0 rfl) ?_
          refine lv_aload_n hx hb dX9_choose_77 rfl (lv_at hl 2 rfl) ?_
          refine va_get (v := .long (lN (hCs S I pt B))) (C := RX9) (T := TX9) (N := 18) hx hb hts (hin_X9 hmc) hown E.1.1 hP 0 g0 rfl 9 (by decide) (hts _ (hmc _ k_578)) (fun _ h9 => h9) rfl dX9_choose_78 ?_
          refine W.lcmp hx hb dX9_choose_81 ?_
          refine lv_if_ge (tgt := 122) hx hb dX9_choose_82 (by decide) (fun c5 => ?_) (fun c5 => ?_)
          · have hold : hBto (hCs S I pt) pt (hVl t pt + 1) B := hB.keep hp6 (fun t u => hCs_ext t u) hpm ((hlcmp (by omega) (by omega)).mp c5)
            refine lv_aload_n hx hb dX9_choose_122 rfl (lv_at hl 2 rfl) ?_
            refine hc_i E hD hS (va_runV (As := []) (rest := []) ⟨hx, hb, hml, hown, hts⟩ ((c_X9_turn l D K tv ws2 ad (hup g 4 f4) ct pt md (lN (hCs S I pt B)) kp fd hrx hp6 t hat hpm) H.size) (cwV 0 hts (hGV hmc k_699 k_701 k_12 k_29 k_702) rfl rfl rfl (by decide +kernel) ⟨Nat.le_of_ble_eq_true rfl, Nat.le_of_ble_eq_true rfl⟩) (hpreV E hP hD hS g0 rfl) rfl rfl hl.1 rfl (lv_room (Nat.le_of_ble_eq_true rfl)) dX9_choose_123 ⟨(Nat.le_refl _), (Nat.le_refl _)⟩) (fun r9 ws8 H locs hp hP hD hS => ?_)
            refine lv_istore_n (lv' := [(1, .int r9), (2, .long (lN (hCs S I pt t))), (0, .ref (ad 0))]) hx hb dX9_choose_126 rfl hl (by decide) rfl (fun ls hl => ?_)
            refine lv_goto (tgt := 54) hx hb dX9_choose_127 (by decide) ?_
            rcases hp with ⟨rfl, rfl, hall⟩ | ⟨rfl, F1, t1, hrx, hat1, hpm1, hvl, hnx⟩
            · exact ih (0, V) _ H locs ls ⟨_, _, t, hrx, (fun k h4 h5 h6 => (show hup g 4 f4 k = g k from if_neg h4).trans (hfr k h4 h5 h6)), hca4, hat, hpm, hVe, Or.inl rfl, fun q => absurd q (show ¬ (0 : Nat) = 1 by decide), fun _ => ⟨B, hold.last hall, (fun q hq => hg6 q hq), rfl⟩⟩ (by show 0 + 2 * (50000 - V) < gs + 2 * (50000 - V); omega) hP hD hS (lv_sub hl [0, 2] rfl)
            · have hv6 := hVl_le (t := t1) pt (fun j hj => by have := hpm1.1 j hj; omega)
              have hp7 : 6 ^ pt ≤ 6 ^ 6 := Nat.pow_le_pow_right (by decide) hp6
              have hp8 : (6 : Nat) ^ 6 = 46656 := by decide
              exact ih (1, hVl t1 pt) _ H locs ls ⟨_, _, t1, hrx, fun k h4 h5 h6 => (if_neg h5).trans ((fun k h4 h5 h6 => (show hup g 4 f4 k = g k from if_neg h4).trans (hfr k h4 h5 h6)) k h4 h5 h6), hca4, hat1, hpm1, rfl, Or.inr rfl, fun _ => Or.inr ⟨B, hold.next hvl hnx, (fun q hq => hg6 q hq), rfl⟩, fun q => absurd q (show ¬ (1 : Nat) = 0 by decide)⟩ (by show 1 + 2 * (50000 - hVl t1 pt) < gs + 2 * (50000 - V); omega) hP hD hS (lv_sub hl [0, 2] rfl)
          · have hnew : hBto (hCs S I pt) pt (hVl t pt + 1) t := hB.take hp6 (fun t u => hCs_ext t u) hpm (Nat.not_le.mp (fun q => c5 ((hlcmp (by omega) (by omega)).mpr q)))
            refine lv_aload_n hx hb dX9_choose_85 rfl (lv_at hl 2 rfl) ?_
            refine lv_lload_n hx hb dX9_choose_86 rfl (lv_at hl 0 rfl) ?_
            refine va_put (v := .long (lN (hCs S I pt t))) (ty := .long) (C := RX9) (T := TX9) (N := 18) hx hb hts (hin_X9 hmc) tyX9 tyX9_ok nmX9 hown E.1.1 hP hD hS 0 g0 rfl 9 (by decide) (hts _ (hmc _ k_578)) (fun _ h9 => h9) rfl (by decide +kernel) rfl rfl (Nat.le_of_ble_eq_true rfl) dX9_choose_87 (fun H locs hP hD hS => ?_)
            obtain ⟨ws10, ews10⟩ : ∃ zw : va_W, zw = List.set ws2 0 ((ad 0), .inr (iM, [.ref (ad 1), .int (nI ct), .ref (ad 2), .int (nI pt), .ref (ad 3), .int (nI md), .ref (ad 4), .ref (ad 5), .ref (ad 6), .long (lN (hCs S I pt t)), .ref (ad 7), .ref (ad 8), .ref (ad 9), .ref (ad 10), .int (nI kp), .int fd, .ref (ad 11), .ref (ad 12)])) := ⟨_, rfl⟩
            have hP : va_P D vwCl ws10 H := by rw [ews10]; exact hP
            have hD : va_D A ws10 := by rw [ews10]; exact hD
            have g0 : ws10[0]? = some ((ad 0), .inr (iM, [.ref (ad 1), .int (nI ct), .ref (ad 2), .int (nI pt), .ref (ad 3), .int (nI md), .ref (ad 4), .ref (ad 5), .ref (ad 6), .long (lN (hCs S I pt t)), .ref (ad 7), .ref (ad 8), .ref (ad 9), .ref (ad 10), .int (nI kp), .int fd, .ref (ad 11), .ref (ad 12)])) := by rw [ews10]; exact hset_eq g0
            have g5 := (show ws10[5]? = _ from (by rw [ews10]; exact hset_ne (by omega))).trans g5
            have g6 := (show ws10[6]? = _ from (by rw [ews10]; exact hset_ne (by omega))).trans g6
            have hrx : hRX K ad ws10 (hup g 4 f4) ct pt md (lN (hCs S I pt t)) kp fd := by rw [ews10]; exact hrx.obj
            refine lv_iconst (v := nI 0) hx hb dX9_choose_90 (by decide +kernel) ?_
            refine lv_istore (lv' := [(4, .int (nI 0)), (2, .long (lN (hCs S I pt t))), (1, .int (nI gs)), (0, .ref (ad 0))]) hx hb dX9_choose_91 hl (by decide) rfl (fun ls hl => ?_)
            refine hloopW (α := Nat) 93 5 (fun k => [(4, .int (nI k)), (2, .long (lN (hCs S I pt t))), (1, .int (nI gs)), (0, .ref (ad 0))]) (fun k w9 => k ≤ pt ∧ ∃ a6, hRX K ad w9 (hup (hup g 4 f4) 6 a6) ct pt md (lN (hCs S I pt t)) kp fd ∧ ∀ j, j < k → a6 j = nI (t j)) (fun k => pt - k) (fun _ => 0) (fun _ => 0) ?_ 0 ⟨Nat.zero_le _, (hup g 4 f4) 6, by rw [hup_id]; exact hrx, fun j hj => absurd hj (Nat.not_lt_zero _)⟩ hP hD hS (lv_sub hl [0, 1, 2, 3] rfl)
            intro k w9 H locs ls hI9 hP hD hS hl ih4
            obtain ⟨hk, a6, hrx, ha6⟩ := hI9
            have hl : lv_has ls 5 [(4, .int (nI k)), (2, .long (lN (hCs S I pt t))), (1, .int (nI gs)), (0, .ref (ad 0))] := hl
            have g0 := hrx.1
            have g5 : w9[5]? = some (ad 5, .inl (K 0, 6, .inl (g 5))) := hrx.2 5 (by decide) (by decide)
            have g6 : w9[6]? = some (ad 6, .inl (K 0, 6, .inl a6)) := hrx.2 6 (by decide) (by decide)
            refine lv_iload hx hb dX9_choose_93 (lv_at hl 0 rfl) ?_
            refine lv_aload_n hx hb dX9_choose_95 rfl (lv_at hl 3 rfl) ?_
            refine va_get (v := .int (nI pt)) (C := RX9) (T := TX9) (N := 18) hx hb hts (hin_X9 hmc) hown E.1.1 hP 0 g0 rfl 3 (by decide) (hts _ (hmc _ k_572)) (fun _ h9 => h9) rfl dX9_choose_96 ?_
            refine lv_icmp_ge (tgt := 122) hx hb dX9_choose_99 (by decide) (fun c7 => ?_) (fun c7 => ?_)
            · have hkp : k = pt := by
                have := (nI_leI (by omega) (by omega)).mp c7
                omega
              refine lv_aload_n hx hb dX9_choose_122 rfl (lv_at hl 3 rfl) ?_
              refine hc_i E hD hS (va_runV (As := []) (rest := []) ⟨hx, hb, hml, hown, hts⟩ ((c_X9_turn l D K tv w9 ad (hup (hup g 4 f4) 6 a6) ct pt md (lN (hCs S I pt t)) kp fd hrx hp6 t hat hpm) H.size) (cwV 0 hts (hGV hmc k_699 k_701 k_12 k_29 k_702) rfl rfl rfl (by decide +kernel) ⟨Nat.le_of_ble_eq_true rfl, Nat.le_of_ble_eq_true rfl⟩) (hpreV E hP hD hS g0 rfl) rfl rfl hl.1 rfl (lv_room (Nat.le_of_ble_eq_true rfl)) dX9_choose_123 ⟨(Nat.le_refl _), (Nat.le_refl _)⟩) (fun r12 ws11 H locs hp hP hD hS => ?_)
              refine lv_istore_n (lv' := [(1, .int r12), (4, .int (nI k)), (2, .long (lN (hCs S I pt t))), (0, .ref (ad 0))]) hx hb dX9_choose_126 rfl hl (by decide) rfl (fun ls hl => ?_)
              refine lv_goto (tgt := 54) hx hb dX9_choose_127 (by decide) ?_
              rcases hp with ⟨rfl, rfl, hall⟩ | ⟨rfl, F1, t1, hrx, hat1, hpm1, hvl, hnx⟩
              · exact ih (0, V) _ H locs ls ⟨_, _, t, hrx, (fun k h4 h5 h6 => (show hup (hup g 4 f4) 6 a6 k = g k from (if_neg h6).trans (if_neg h4)).trans (hfr k h4 h5 h6)), hca4, hat, hpm, hVe, Or.inl rfl, fun q => absurd q (show ¬ (0 : Nat) = 1 by decide), fun _ => ⟨t, hnew.last hall, (fun q hq => ha6 q (by omega)), rfl⟩⟩ (by show 0 + 2 * (50000 - V) < gs + 2 * (50000 - V); omega) hP hD hS (lv_sub hl [0, 3] rfl)
              · have hv6 := hVl_le (t := t1) pt (fun j hj => by have := hpm1.1 j hj; omega)
                have hp7 : 6 ^ pt ≤ 6 ^ 6 := Nat.pow_le_pow_right (by decide) hp6
                have hp8 : (6 : Nat) ^ 6 = 46656 := by decide
                exact ih (1, hVl t1 pt) _ H locs ls ⟨_, _, t1, hrx, fun k h4 h5 h6 => (if_neg h5).trans ((fun k h4 h5 h6 => (show hup (hup g 4 f4) 6 a6 k = g k from (if_neg h6).trans (if_neg h4)).trans (hfr k h4 h5 h6)) k h4 h5 h6), hca4, hat1, hpm1, rfl, Or.inr rfl, fun _ => Or.inr ⟨t, hnew.next hvl hnx, (fun q hq => ha6 q (by omega)), rfl⟩, fun q => absurd q (show ¬ (1 : Nat) = 0 by decide)⟩ (by show 1 + 2 * (50000 - hVl t1 pt) < gs + 2 * (50000 - V); omega) hP hD hS (lv_sub hl [0, 3] rfl)
            · have hk2 : k < pt := Nat.not_le.mp (fun z => c7 (nI_le z (by omega)))
              refine lv_aload_n hx hb dX9_choose_102 rfl (lv_at hl 3 rfl) ?_
              refine va_get (v := .ref (ad 6)) (C := RX9) (T := TX9) (N := 18) hx hb hts (hin_X9 hmc) hown E.1.1 hP 0 g0 rfl 8 (by decide) (hts _ (hmc _ k_577)) (fun _ h9 => h9) rfl dX9_choose_103 ?_
              refine lv_iload hx hb dX9_choose_106 (lv_at hl 0 rfl) ?_
              refine lv_aload_n hx hb dX9_choose_108 rfl (lv_at hl 3 rfl) ?_
              refine va_get (v := .ref (ad 5)) (C := RX9) (T := TX9) (N := 18) hx hb hts (hin_X9 hmc) hown E.1.1 hP 0 g0 rfl 7 (by decide) (hts _ (hmc _ k_576)) (fun _ h9 => h9) rfl dX9_choose_109 ?_
              refine lv_iload hx hb dX9_choose_112 (lv_at hl 0 rfl) ?_
              refine va_iald hx hb E.1.1 hP 5 0 g5 rfl (vp_in_nI (by omega) (by omega)) dX9_choose_114 ?_
              refine htopi (v := (g 5) k) (by rw [nI_clamp (by omega)]) ?_
              refine htopi (v := nI (t k)) (hat k hk2) ?_
              refine va_iast hx hb E.1.1 hP hD hS 6 0 g6 rfl (vp_in_nI (by omega) (by omega)) dX9_choose_115 (fun H locs hP hD hS => ?_)
              rw [nI_clamp (show k < 2 ^ 31 by omega)] at hP hD
              obtain ⟨ws13, ews13⟩ : ∃ zw : va_W, zw = List.set w9 6 ((ad 6), .inl (K 0, 6, .inl (upd a6 k (nI (t k))))) := ⟨_, rfl⟩
              have hP : va_P D vwCl ws13 H := by rw [ews13]; exact hP
              have hD : va_D A ws13 := by rw [ews13]; exact hD
              have g0 := (show ws13[0]? = _ from (by rw [ews13]; exact hset_ne (by omega))).trans g0
              have g5 := (show ws13[5]? = _ from (by rw [ews13]; exact hset_ne (by omega))).trans g5
              have g6 : ws13[6]? = some ((ad 6), .inl (K 0, 6, .inl (upd a6 k (nI (t k))))) := by rw [ews13]; exact hset_eq g6
              have hrx : hRX K ad ws13 (hup (hup (hup g 4 f4) 6 a6) 6 (upd a6 k (nI (t k)))) ct pt md (lN (hCs S I pt t)) kp fd := by rw [ews13]; exact hrx.arr 6 (by decide) (by decide) _
              refine lv_iinc (v := nI (k + 1)) (lv' := [(4, .int (nI (k + 1))), (2, .long (lN (hCs S I pt t))), (1, .int (nI gs)), (0, .ref (ad 0))]) hx hb dX9_choose_116 hl (k := 0) rfl (nI_1 _) (by decide) rfl (fun ls hl => ?_)
              refine lv_goto (tgt := 93) hx hb dX9_choose_119 (by decide) ?_
              rw [hup_up] at hrx
              exact ih4 (k + 1) _ H locs ls ⟨by omega, _, hrx, fun j hj => by
                  by_cases z : j = k
                  · subst z; rw [pk_us]
                  · rw [pk_un z]; exact ha6 j (by omega)⟩ (by omega) hP hD hS (lv_sub hl [0, 1, 2, 3] rfl)
    · have hk2 : k < pt := Nat.not_le.mp (fun z => c2 (nI_le z (by omega)))
      refine lv_aload_n hx hb dX9_choose_32 rfl (lv_at hl 1 rfl) ?_
      refine va_get (v := .ref (ad 5)) (C := RX9) (T := TX9) (N := 18) hx hb hts (hin_X9 hmc) hown E.1.1 hP 0 g0 rfl 7 (by decide) (hts _ (hmc _ k_576)) (fun _ h9 => h9) rfl dX9_choose_33 ?_
      refine lv_iload_n hx hb dX9_choose_36 rfl (lv_at hl 0 rfl) ?_
      refine lv_iload_n hx hb dX9_choose_37 rfl (lv_at hl 0 rfl) ?_
      refine va_iast hx hb E.1.1 hP hD hS 5 0 g5 rfl (vp_in_nI (by omega) (by omega)) dX9_choose_38 (fun H locs hP hD hS => ?_)
      rw [nI_clamp (show k < 2 ^ 31 by omega)] at hP hD
      obtain ⟨ws14, ews14⟩ : ∃ zw : va_W, zw = List.set w9 5 ((ad 5), .inl (K 0, 6, .inl (upd a5 k (nI k)))) := ⟨_, rfl⟩
      have hP : va_P D vwCl ws14 H := by rw [ews14]; exact hP
      have hD : va_D A ws14 := by rw [ews14]; exact hD
      have g0 := (show ws14[0]? = _ from (by rw [ews14]; exact hset_ne (by omega))).trans g0
      have g5 : ws14[5]? = some ((ad 5), .inl (K 0, 6, .inl (upd a5 k (nI k)))) := by rw [ews14]; exact hset_eq g5
      have hrx : hRX K ad ws14 (hup (hup (hup f 4 a4) 5 a5) 5 (upd a5 k (nI k))) ct pt md lz kp fd := by rw [ews14]; exact hrx.arr 5 (by decide) (by decide) _
      refine lv_iinc (v := nI (k + 1)) (lv' := [(1, .int (nI (k + 1))), (0, .ref (ad 0))]) hx hb dX9_choose_39 hl (k := 0) rfl (nI_1 _) (by decide) rfl (fun ls hl => ?_)
      refine lv_goto (tgt := 24) hx hb dX9_choose_42 (by decide) ?_
      rw [hup_up] at hrx
      exact ih (k + 1) _ H locs ls ⟨by omega, _, hrx, fun j hj => by
          by_cases z : j = k
          · subst z; rw [pk_us]
          · rw [pk_un z]; exact ha5 j (by omega)⟩ (by omega) hP hD hS (lv_sub hl [0, 1] rfl)
  · have hi2 : i < 1536 := Nat.not_le.mp (fun z => c1 (nI_le z (by omega)))
    refine lv_aload_n hx hb dX9_choose_9 rfl (lv_at hl 1 rfl) ?_
    refine va_get (v := .ref (ad 4)) (C := RX9) (T := TX9) (N := 18) hx hb hts (hin_X9 hmc) hown E.1.1 hP 0 g0 rfl 6 (by decide) (hts _ (hmc _ k_575)) (fun _ h9 => h9) rfl dX9_choose_10 ?_
    refine lv_iload_n hx hb dX9_choose_13 rfl (lv_at hl 0 rfl) ?_
    refine lv_iconst (v := (-1)) hx hb dX9_choose_14 (by decide +kernel) ?_
    refine va_iast hx hb E.1.1 hP hD hS 4 0 g4 rfl (vp_in_nI (by omega) (by omega)) dX9_choose_15 (fun H locs hP hD hS => ?_)
    rw [nI_clamp (show i < 2 ^ 31 by omega)] at hP hD
    obtain ⟨ws15, ews15⟩ : ∃ zw : va_W, zw = List.set w9 4 ((ad 4), .inl (K 0, 1536, .inl (upd ((hup f 4 a4) 4) i (-1)))) := ⟨_, rfl⟩
    have hP : va_P D vwCl ws15 H := by rw [ews15]; exact hP
    have hD : va_D A ws15 := by rw [ews15]; exact hD
    have g0 := (show ws15[0]? = _ from (by rw [ews15]; exact hset_ne (by omega))).trans g0
    have g4 : ws15[4]? = some ((ad 4), .inl (K 0, 1536, .inl (upd ((hup f 4 a4) 4) i (-1)))) := by rw [ews15]; exact hset_eq g4
    have hrx : hRX K ad ws15 (hup (hup f 4 a4) 4 (upd ((hup f 4 a4) 4) i (-1))) ct pt md lz kp fd := by rw [ews15]; exact hrx.arr 4 (by decide) (by decide) _
    refine lv_iinc (v := nI (i + 1)) (lv' := [(1, .int (nI (i + 1))), (0, .ref (ad 0))]) hx hb dX9_choose_16 hl (k := 0) rfl (nI_1 _) (by decide) rfl (fun ls hl => ?_)
    refine lv_goto (tgt := 2) hx hb dX9_choose_19 (by decide) ?_
    rw [hup_up] at hrx
    exact ih (i + 1) _ H locs ls ⟨by omega, _, hrx, fun j hj => by
        by_cases z : j = i
        · subst z; rw [pk_us]
        · rw [pk_un z]; exact ha4 j (by omega)⟩ (by omega) hP hD hS (lv_sub hl [0, 1] rfl)

theorem hneg_all : ∀ x, x < 72 → 64 ≤ x → -(hit x) = nI (x - 63) := by decide +kernel
theorem hneg_it {x : Nat} (h : 64 ≤ x) (h2 : x < 72) : -(hit x) = nI (x - 63) := hneg_all x h2 h
theorem hup_78 (f : Nat → Nat → Int32) (a b c d : Nat → Int32) : hup (hup (hup (hup f 7 a) 8 b) 7 c) 8 d = hup (hup f 7 c) 8 d := by
  funext j
  unfold hup
  by_cases z : j = 8
  · simp [z]
  · by_cases y : j = 7
    · simp [y]
    · simp [z, y]

set_option maxHeartbeats 4000000 in
set_option maxRecDepth 100000 in
/-- the reference: plan -/
theorem c_X9_plan (l : Launch) (D : va_G) (K : Nat → ClassId) (tv : Nat) (ws : va_W) (ad : Nat → Nat) (S : Nat → Nat → Nat → Prop) (cnt np : Nat) (o : List Nat) (I : Nat → Nat → Nat) (hms : hMS K ad ws S cnt np o I) (x : Int32) : hI l D (hTy K) tv yX9_plan cX9_plan 2 (some .int) ({ frames := 6, cells := 0, slots := 0, locals := 360 }) [.ref (ad 0), .int x] ws (fun r ws1 => hPlnP S np I x r ∧ hMS K ad ws1 S cnt np o I) := by
  intro sz
  refine Met.ofW (cc := cX9_plan) (maxL := 2) (ret := (some .int)) (by decide) rfl ?_
  intro p e s m args below meth c s₁ B hml hv0
  obtain ⟨rfl, rfl, E, hP, hD⟩ := hentry hv0
  have hx := B.exec
  have hb := B.bytes
  have hr := B.returns
  have hts := atoms_spec (ws := hC yX9_plan cX9_plan 2 (some .int)) B.pre
  have hown : s.vm.findClass RX9 = some m.cls := findClass_of_methodNamed B.named
  have hlocks := B.notSynchronized
  generalize hAe : va_A ws s.heap.size = A at hD E ⊢
  have hl := lv_entry ([.ref (ad 0), .int x]) (n := 2) (Nat.le_of_ble_eq_true rfl)
  rw [lg_entry_eq]
  generalize (lg_sl ([.ref (ad 0), .int x]) ++ List.replicate (2 - (lg_sl ([.ref (ad 0), .int x])).length) Slot.unset).toArray = ls at hl ⊢
  have hl : lv_has ls 2 [(0, .ref (ad 0)), (1, .int x)] := hl
  refine hat0 (fun H hHe => ?_)
  have hP : va_P D vwCl ws H := by rw [hHe]; exact hP
  have hS : va_S A s.heap H [] := by rw [hHe]; exact va_S.rf
  obtain ⟨f, lz, kp, fd, hrx, hrb⟩ := id hms
  obtain ⟨hct, hnp, hnd, hon, hT, hIt, hO, hF⟩ := id hrb
  have g0 := hrx.1
  have hIt2 := hIt
  refine lv_aload_n hx hb dX9_plan_0 rfl (lv_at hl 0 rfl) ?_
  refine lv_iload_n hx hb dX9_plan_1 rfl (lv_at hl 1 rfl) ?_
  refine hc_i E hD hS (va_runV (As := [.int x]) (rest := []) ⟨hx, hb, hml, hown, hts⟩ ((c_X9_isPattern l D K tv ws ad f cnt np o.length lz kp fd hrx hnp x) H.size) (cwV 1 hts (hGV hmc k_658 k_660 k_5 k_29 k_661) rfl rfl rfl (by decide +kernel) ⟨Nat.le_of_ble_eq_true rfl, Nat.le_of_ble_eq_true rfl⟩) (hpreV E hP hD hS g0 rfl) rfl rfl hl.1 rfl (lv_room (Nat.le_of_ble_eq_true rfl)) dX9_plan_2 ⟨(Nat.le_refl _), (Nat.le_refl _)⟩) (fun r2 ws1 H locs hh hP hD hS => ?_)
  obtain ⟨rfl, hh⟩ := hh
  refine lv_if_ne (tgt := 10) hx hb dX9_plan_5 (by decide) (fun c1 => ?_) (fun c1 => ?_)
  · obtain ⟨i, hi, rfl⟩ := hh.t c1
    refine lv_aload_n hx hb dX9_plan_10 rfl (lv_at hl 0 rfl) ?_
    refine hc_v E hD hS (va_runV (As := []) (rest := []) ⟨hx, hb, hml, hown, hts⟩ ((c_X9_choose l D K tv ws ad f cnt np o.length lz kp fd hrx hnp hct S I hT hIt2) H.size) (cwV 0 hts (hGV hmc k_677 k_679 k_8 k_29 k_680) rfl rfl rfl (by decide +kernel) ⟨Nat.le_of_ble_eq_true rfl, Nat.le_of_ble_eq_true rfl⟩) (hpreV E hP hD hS g0 rfl) rfl rfl hl.1 rfl (lv_room (Nat.le_of_ble_eq_true rfl)) dX9_plan_11 ⟨(Nat.le_refl _), (Nat.le_refl _)⟩) (fun ws3 H locs hp hP hD hS => ?_)
    obtain ⟨g, lz1, hrx, hfr, B, hB, hg6, hlz⟩ := hp
    have hval : ∀ k, k < np → ∃ q, q < np ∧ g 6 k = nI q := fun k hk => ⟨B k, hB.1.1 k hk, hg6 k hk⟩
    have hrb1 := hrb.frm (hfr 1 (by decide) (by decide) (by decide)) (hfr 2 (by decide) (by decide) (by decide)) (hfr 3 (by decide) (by decide) (by decide)) (hfr 11 (by decide) (by decide) (by decide)) (hfr 12 (by decide) (by decide) (by decide))
    have g0 := hrx.1
    have g6 : ws3[6]? = some (ad 6, .inl (K 0, 6, .inl (g 6))) := hrx.2 6 (by decide) (by decide)
    refine lv_aload_n hx hb dX9_plan_14 rfl (lv_at hl 0 rfl) ?_
    refine va_get (v := .ref (ad 6)) (C := RX9) (T := TX9) (N := 18) hx hb hts (hin_X9 hmc) hown E.1.1 hP 0 g0 rfl 8 (by decide) (hts _ (hmc _ k_577)) (fun _ h9 => h9) rfl dX9_plan_15 ?_
    refine lv_iload_n hx hb dX9_plan_18 rfl (lv_at hl 1 rfl) ?_
    refine va_iald hx hb E.1.1 hP 6 0 g6 rfl (vp_in_nI (by omega) (by omega)) dX9_plan_19 ?_
    refine htopi (v := (g 6) i) (by rw [nI_clamp (by omega)]) ?_
    subst hAe
    exact W.iret (v := (g 6) i) hx hb hr (fun t ht _ => ⟨⟨(g 6) i, ws3, rfl, ⟨Or.inr ⟨i, B, hi, rfl, hB, hg6 i hi⟩, _, _, _, _, hrx, hrb1⟩, by rw [ht]; exact hP, hD⟩, hS.F ht⟩) hS.2.2 dX9_plan_20
  · refine lv_iconst (v := (-1)) hx hb dX9_plan_8 (by decide +kernel) ?_
    subst hAe
    exact W.iret (v := (-1)) hx hb hr (fun t ht _ => ⟨⟨(-1), ws, rfl, ⟨Or.inl ⟨hh.f c1, rfl⟩, hms⟩, by rw [ht]; exact hP, hD⟩, hS.F ht⟩) hS.2.2 dX9_plan_9

set_option maxHeartbeats 4000000 in
set_option maxRecDepth 100000 in
/-- the reference: cost -/
theorem c_X9_cost (l : Launch) (D : va_G) (K : Nat → ClassId) (tv : Nat) (ws : va_W) (ad : Nat → Nat) (S : Nat → Nat → Nat → Prop) (cnt np : Nat) (o : List Nat) (I : Nat → Nat → Nat) (hms : hMS K ad ws S cnt np o I) : hL l D (hTy K) tv yX9_cost cX9_cost 1 (some .long) ({ frames := 6, cells := 0, slots := 0, locals := 360 }) [.ref (ad 0)] ws (fun r ws1 => hCosP S np I r ∧ hMS K ad ws1 S cnt np o I) := by
  intro sz
  refine Met.ofW (cc := cX9_cost) (maxL := 1) (ret := (some .long)) (by decide) rfl ?_
  intro p e s m args below meth c s₁ B hml hv0
  obtain ⟨rfl, rfl, E, hP, hD⟩ := hentry hv0
  have hx := B.exec
  have hb := B.bytes
  have hr := B.returns
  have hts := atoms_spec (ws := hC yX9_cost cX9_cost 1 (some .long)) B.pre
  have hown : s.vm.findClass RX9 = some m.cls := findClass_of_methodNamed B.named
  have hlocks := B.notSynchronized
  generalize hAe : va_A ws s.heap.size = A at hD E ⊢
  have hl := lv_entry ([.ref (ad 0)]) (n := 1) (Nat.le_of_ble_eq_true rfl)
  rw [lg_entry_eq]
  generalize (lg_sl ([.ref (ad 0)]) ++ List.replicate (1 - (lg_sl ([.ref (ad 0)])).length) Slot.unset).toArray = ls at hl ⊢
  have hl : lv_has ls 1 [(0, .ref (ad 0))] := hl
  refine hat0 (fun H hHe => ?_)
  have hP : va_P D vwCl ws H := by rw [hHe]; exact hP
  have hS : va_S A s.heap H [] := by rw [hHe]; exact va_S.rf
  obtain ⟨f, lz, kp, fd, hrx, hrb⟩ := id hms
  obtain ⟨hct, hnp, hnd, hon, hT, hIt, hO, hF⟩ := id hrb
  have g0 := hrx.1
  have hIt2 := hIt
  refine lv_aload_n hx hb dX9_cost_0 rfl (lv_at hl 0 rfl) ?_
  refine hc_v E hD hS (va_runV (As := []) (rest := []) ⟨hx, hb, hml, hown, hts⟩ ((c_X9_choose l D K tv ws ad f cnt np o.length lz kp fd hrx hnp hct S I hT hIt2) H.size) (cwV 0 hts (hGV hmc k_677 k_679 k_8 k_29 k_680) rfl rfl rfl (by decide +kernel) ⟨Nat.le_of_ble_eq_true rfl, Nat.le_of_ble_eq_true rfl⟩) (hpreV E hP hD hS g0 rfl) rfl rfl hl.1 rfl (lv_room (Nat.le_of_ble_eq_true rfl)) dX9_cost_1 ⟨(Nat.le_refl _), (Nat.le_refl _)⟩) (fun ws1 H locs hp hP hD hS => ?_)
  obtain ⟨g, lz1, hrx, hfr, B, hB, hg6, hlz⟩ := hp
  have hval : ∀ k, k < np → ∃ q, q < np ∧ g 6 k = nI q := fun k hk => ⟨B k, hB.1.1 k hk, hg6 k hk⟩
  have hrb1 := hrb.frm (hfr 1 (by decide) (by decide) (by decide)) (hfr 2 (by decide) (by decide) (by decide)) (hfr 3 (by decide) (by decide) (by decide)) (hfr 11 (by decide) (by decide) (by decide)) (hfr 12 (by decide) (by decide) (by decide))
  have g0 := hrx.1
  refine lv_aload_n hx hb dX9_cost_4 rfl (lv_at hl 0 rfl) ?_
  refine va_get (v := .long lz1) (C := RX9) (T := TX9) (N := 18) hx hb hts (hin_X9 hmc) hown E.1.1 hP 0 g0 rfl 9 (by decide) (hts _ (hmc _ k_578)) (fun _ h9 => h9) rfl dX9_cost_5 ?_
  subst hAe
  exact W.lret (v := lz1) hx hb hr (fun t ht _ => ⟨⟨lz1, ws1, rfl, ⟨⟨B, hB, hlz⟩, _, _, _, _, hrx, hrb1⟩, by rw [ht]; exact hP, hD⟩, hS.F ht⟩) hS.2.2 dX9_cost_8

set_option maxHeartbeats 4000000 in
set_option maxRecDepth 100000 in
/-- the reference: loosen -/
theorem c_X9_loosen (l : Launch) (D : va_G) (K : Nat → ClassId) (tv : Nat) (ws : va_W) (ad : Nat → Nat) (f : Nat → Nat → Int32) (ct pt md : Nat) (lz : Int64) (kp : Nat) (fd : Int32) (hrx : hRX K ad ws f ct pt md lz kp fd) (p9 : Nat) (hp6 : p9 < 6) (J : Nat → Nat) (hJt : ∀ i, i < 3 → f 2 (3 * p9 + i) = hit (J i) ∧ J i < 72) (n : Nat) (hn3 : n ≤ 3) : hV l D (hTy K) tv yX9_loosen cX9_loosen 4 none ({ frames := 0, cells := 0, slots := 0, locals := 0 }) [.ref (ad 0), .int (nI p9), .int (nI n)] ws (fun ws1 => ∃ f8, hRX K ad ws1 (hup f 8 f8) ct pt md lz kp fd) := by
  intro sz
  refine Met.ofW (cc := cX9_loosen) (maxL := 4) (ret := none) (by decide) rfl ?_
  intro p e s m args below meth c s₁ B hml hv0
  obtain ⟨rfl, rfl, E, hP, hD⟩ := hentry hv0
  have hx := B.exec
  have hb := B.bytes
  have hr := B.returns
  have hts := atoms_spec (ws := hC yX9_loosen cX9_loosen 4 none) B.pre
  have hown : s.vm.findClass RX9 = some m.cls := findClass_of_methodNamed B.named
  have hlocks := B.notSynchronized
  generalize hAe : va_A ws s.heap.size = A at hD E ⊢
  have hl := lv_entry ([.ref (ad 0), .int (nI p9), .int (nI n)]) (n := 4) (Nat.le_of_ble_eq_true rfl)
  rw [lg_entry_eq]
  generalize (lg_sl ([.ref (ad 0), .int (nI p9), .int (nI n)]) ++ List.replicate (4 - (lg_sl ([.ref (ad 0), .int (nI p9), .int (nI n)])).length) Slot.unset).toArray = ls at hl ⊢
  have hl : lv_has ls 4 [(0, .ref (ad 0)), (1, .int (nI p9)), (2, .int (nI n))] := hl
  refine hat0 (fun H hHe => ?_)
  have hP : va_P D vwCl ws H := by rw [hHe]; exact hP
  have hS : va_S A s.heap H [] := by rw [hHe]; exact va_S.rf
  refine lv_iconst (v := nI 0) hx hb dX9_loosen_0 (by decide +kernel) ?_
  refine lv_istore_n (lv' := [(3, .int (nI 0)), (0, .ref (ad 0)), (1, .int (nI p9)), (2, .int (nI n))]) hx hb dX9_loosen_1 rfl hl (by decide) rfl (fun ls hl => ?_)
  refine hloopW (α := Nat) 2 4 (fun i => [(3, .int (nI i)), (0, .ref (ad 0)), (1, .int (nI p9)), (2, .int (nI n))]) (fun i w9 => i ≤ n ∧ ∃ f8, hRX K ad w9 (hup f 8 f8) ct pt md lz kp fd) (fun i => n - i) (fun _ => 0) (fun _ => 0) ?_ 0 ⟨Nat.zero_le _, f 8, by rw [hup_id]; exact hrx⟩ hP hD hS (lv_sub hl [0, 1, 2, 3] rfl)
  intro i w9 H locs ls hI9 hP hD hS hl ih
  obtain ⟨hi, f8, hrx⟩ := hI9
  have hl : lv_has ls 4 [(3, .int (nI i)), (0, .ref (ad 0)), (1, .int (nI p9)), (2, .int (nI n))] := hl
  have g0 := hrx.1
  have g2 : w9[2]? = some (ad 2, .inl (K 0, 18, .inl (f 2))) := hrx.2 2 (by decide) (by decide)
  have g8 : w9[8]? = some (ad 8, .inl (K 0, 9, .inl f8)) := hrx.2 8 (by decide) (by decide)
  refine lv_iload_n hx hb dX9_loosen_2 rfl (lv_at hl 0 rfl) ?_
  refine lv_iload_n hx hb dX9_loosen_3 rfl (lv_at hl 3 rfl) ?_
  refine lv_icmp_ge (tgt := 46) hx hb dX9_loosen_4 (by decide) (fun c1 => ?_) (fun c1 => ?_)
  · subst hAe
    exact W.vret hx hb hr (fun t ht _ => ⟨⟨w9, rfl, ⟨f8, hrx⟩, by rw [ht]; exact hP, hD⟩, hS.F ht⟩) hS.2.2 dX9_loosen_46
  · have hi3 : i < n := Nat.not_le.mp (fun z => c1 (nI_le z (by omega)))
    obtain ⟨e1, e2⟩ := hJt i (by omega)
    refine lv_aload_n hx hb dX9_loosen_7 rfl (lv_at hl 1 rfl) ?_
    refine va_get (v := .ref (ad 2)) (C := RX9) (T := TX9) (N := 18) hx hb hts (hin_X9 hmc) hown E.1.1 hP 0 g0 rfl 2 (by decide) (hts _ (hmc _ k_571)) (fun _ h9 => h9) rfl dX9_loosen_8 ?_
    refine lv_iconst (v := nI 3) hx hb dX9_loosen_11 (by decide +kernel) ?_
    refine lv_iload_n hx hb dX9_loosen_12 rfl (lv_at hl 2 rfl) ?_
    refine lv_imul hx hb dX9_loosen_13 ?_
    refine htopi (v := nI (3 * p9)) (pk_mul _ _) ?_
    refine lv_iload_n hx hb dX9_loosen_14 rfl (lv_at hl 0 rfl) ?_
    refine lv_iadd hx hb dX9_loosen_15 ?_
    refine htopi (v := nI ((3 * p9) + i)) (nI_add _ _) ?_
    refine va_iald hx hb E.1.1 hP 2 0 g2 rfl (vp_in_nI (by omega) (by omega)) dX9_loosen_16 ?_
    refine htopi (v := (f 2) ((3 * p9) + i)) (by rw [nI_clamp (by omega)]) ?_
    refine htopi (v := hit (J i)) (e1) ?_
    refine lv_if_ge (tgt := 40) hx hb dX9_loosen_17 (by decide) (fun c2 => ?_) (fun c2 => ?_)
    · refine lv_iinc (v := nI (i + 1)) (lv' := [(3, .int (nI (i + 1))), (0, .ref (ad 0)), (1, .int (nI p9)), (2, .int (nI n))]) hx hb dX9_loosen_40 hl (k := 0) rfl (nI_1 _) (by decide) rfl (fun ls hl => ?_)
      refine lv_goto (tgt := 2) hx hb dX9_loosen_43 (by decide) ?_
      exact ih (i + 1) _ H locs ls ⟨by omega, _, hrx⟩ (by omega) hP hD hS (lv_sub hl [0, 1, 2, 3] rfl)
    · have hv : 64 ≤ J i := (hit_lt e2).mp (Int32.not_le.mp c2)
      refine lv_aload_n hx hb dX9_loosen_20 rfl (lv_at hl 1 rfl) ?_
      refine va_get (v := .ref (ad 8)) (C := RX9) (T := TX9) (N := 18) hx hb hts (hin_X9 hmc) hown E.1.1 hP 0 g0 rfl 11 (by decide) (hts _ (hmc _ k_580)) (fun _ h9 => h9) rfl dX9_loosen_21 ?_
      refine lv_aload_n hx hb dX9_loosen_24 rfl (lv_at hl 1 rfl) ?_
      refine va_get (v := .ref (ad 2)) (C := RX9) (T := TX9) (N := 18) hx hb hts (hin_X9 hmc) hown E.1.1 hP 0 g0 rfl 2 (by decide) (hts _ (hmc _ k_571)) (fun _ h9 => h9) rfl dX9_loosen_25 ?_
      refine lv_iconst (v := nI 3) hx hb dX9_loosen_28 (by decide +kernel) ?_
      refine lv_iload_n hx hb dX9_loosen_29 rfl (lv_at hl 2 rfl) ?_
      refine lv_imul hx hb dX9_loosen_30 ?_
      refine htopi (v := nI (3 * p9)) (pk_mul _ _) ?_
      refine lv_iload_n hx hb dX9_loosen_31 rfl (lv_at hl 0 rfl) ?_
      refine lv_iadd hx hb dX9_loosen_32 ?_
      refine htopi (v := nI ((3 * p9) + i)) (nI_add _ _) ?_
      refine va_iald hx hb E.1.1 hP 2 0 g2 rfl (vp_in_nI (by omega) (by omega)) dX9_loosen_33 ?_
      refine htopi (v := (f 2) ((3 * p9) + i)) (by rw [nI_clamp (by omega)]) ?_
      refine htopi (v := hit (J i)) (e1) ?_
      refine lv_ineg hx hb dX9_loosen_34 ?_
      refine htopi (v := nI (J i - 63)) (hneg_it hv e2) ?_
      refine lv_dup2_11 hx hb dX9_loosen_35 rfl rfl ?_
      refine va_iald hx hb E.1.1 hP 8 0 g8 rfl (vp_in_nI (by omega) (by omega)) dX9_loosen_36 ?_
      refine htopi (v := f8 (J i - 63)) (by rw [nI_clamp (by omega)]) ?_
      refine lv_iconst (v := nI 1) hx hb dX9_loosen_37 (by decide +kernel) ?_
      refine lv_isub hx hb dX9_loosen_38 ?_
      refine va_iast hx hb E.1.1 hP hD hS 8 0 g8 rfl (vp_in_nI (by omega) (by omega)) dX9_loosen_39 (fun H locs hP hD hS => ?_)
      rw [nI_clamp (show (J i - 63) < 2 ^ 31 by omega)] at hP hD
      obtain ⟨ws1, ews1⟩ : ∃ zw : va_W, zw = List.set w9 8 ((ad 8), .inl (K 0, 9, .inl (upd f8 (J i - 63) ((f8 (J i - 63)) - (nI 1))))) := ⟨_, rfl⟩
      have hP : va_P D vwCl ws1 H := by rw [ews1]; exact hP
      have hD : va_D A ws1 := by rw [ews1]; exact hD
      have g0 := (show ws1[0]? = _ from (by rw [ews1]; exact hset_ne (by omega))).trans g0
      have g2 := (show ws1[2]? = _ from (by rw [ews1]; exact hset_ne (by omega))).trans g2
      have g8 : ws1[8]? = some ((ad 8), .inl (K 0, 9, .inl (upd f8 (J i - 63) ((f8 (J i - 63)) - (nI 1))))) := by rw [ews1]; exact hset_eq g8
      have hrx : hRX K ad ws1 (hup (hup f 8 f8) 8 (upd f8 (J i - 63) ((f8 (J i - 63)) - (nI 1)))) ct pt md lz kp fd := by rw [ews1]; exact hrx.arr 8 (by decide) (by decide) _
      rw [hup_up] at hrx
      refine lv_iinc (v := nI (i + 1)) (lv' := [(3, .int (nI (i + 1))), (0, .ref (ad 0)), (1, .int (nI p9)), (2, .int (nI n))]) hx hb dX9_loosen_40 hl (k := 0) rfl (nI_1 _) (by decide) rfl (fun ls hl => ?_)
      refine lv_goto (tgt := 2) hx hb dX9_loosen_43 (by decide) ?_
      exact ih (i + 1) _ H locs ls ⟨by omega, _, hrx⟩ (by omega) hP hD hS (lv_sub hl [0, 1, 2, 3] rfl)

set_option maxHeartbeats 4000000 in
set_option maxRecDepth 100000 in
/-- the reference: bind -/
theorem c_X9_bind (l : Launch) (D : va_G) (K : Nat → ClassId) (tv : Nat) (ws : va_W) (ad : Nat → Nat) (f : Nat → Nat → Int32) (ct pt md : Nat) (lz : Int64) (kp : Nat) (fd : Int32) (hrx : hRX K ad ws f ct pt md lz kp fd) (p9 t : Nat) (hp6 : p9 < 6) (ht6 : t < 640) (J : Nat → Nat) (hJt : ∀ i, i < 3 → f 2 (3 * p9 + i) = hit (J i) ∧ J i < 72) : hI l D (hTy K) tv yX9_bind cX9_bind 6 (some .boolean) ({ frames := 1, cells := 0, slots := 0, locals := 60 }) [.ref (ad 0), .int (nI p9), .int (nI t)] ws (fun _ ws1 => ∃ f7 f8, hRX K ad ws1 (hup (hup f 7 f7) 8 f8) ct pt md lz kp fd) := by
  intro sz
  refine Met.ofW (cc := cX9_bind) (maxL := 6) (ret := (some .boolean)) (by decide) rfl ?_
  intro p e s m args below meth c s₁ B hml hv0
  obtain ⟨rfl, rfl, E, hP, hD⟩ := hentry hv0
  have hx := B.exec
  have hb := B.bytes
  have hr := B.returns
  have hts := atoms_spec (ws := hC yX9_bind cX9_bind 6 (some .boolean)) B.pre
  have hown : s.vm.findClass RX9 = some m.cls := findClass_of_methodNamed B.named
  have hlocks := B.notSynchronized
  generalize hAe : va_A ws s.heap.size = A at hD E ⊢
  have hl := lv_entry ([.ref (ad 0), .int (nI p9), .int (nI t)]) (n := 6) (Nat.le_of_ble_eq_true rfl)
  rw [lg_entry_eq]
  generalize (lg_sl ([.ref (ad 0), .int (nI p9), .int (nI t)]) ++ List.replicate (6 - (lg_sl ([.ref (ad 0), .int (nI p9), .int (nI t)])).length) Slot.unset).toArray = ls at hl ⊢
  have hl : lv_has ls 6 [(0, .ref (ad 0)), (1, .int (nI p9)), (2, .int (nI t))] := hl
  refine hat0 (fun H hHe => ?_)
  have hP : va_P D vwCl ws H := by rw [hHe]; exact hP
  have hS : va_S A s.heap H [] := by rw [hHe]; exact va_S.rf
  refine lv_iconst (v := nI 0) hx hb dX9_bind_0 (by decide +kernel) ?_
  refine lv_istore_n (lv' := [(3, .int (nI 0)), (0, .ref (ad 0)), (1, .int (nI p9)), (2, .int (nI t))]) hx hb dX9_bind_1 rfl hl (by decide) rfl (fun ls hl => ?_)
  refine hloopW (α := Nat) 2 6 (fun i => [(3, .int (nI i)), (0, .ref (ad 0)), (1, .int (nI p9)), (2, .int (nI t))]) (fun i w9 => i ≤ 3 ∧ ∃ f7 f8, hRX K ad w9 (hup (hup f 7 f7) 8 f8) ct pt md lz kp fd) (fun i => 3 - i) (fun _ => 0) (fun _ => 0) ?_ 0 ⟨Nat.zero_le _, f 7, f 8, by rw [hup_id, hup_id]; exact hrx⟩ hP hD hS (lv_sub hl [0, 1, 2, 3] rfl)
  intro i w9 H locs ls hI9 hP hD hS hl ih
  obtain ⟨hi, f7, f8, hrx⟩ := hI9
  have hl : lv_has ls 6 [(3, .int (nI i)), (0, .ref (ad 0)), (1, .int (nI p9)), (2, .int (nI t))] := hl
  have g0 := hrx.1
  have g1 : w9[1]? = some (ad 1, .inl (K 0, 1920, .inl (f 1))) := hrx.2 1 (by decide) (by decide)
  have g2 : w9[2]? = some (ad 2, .inl (K 0, 18, .inl (f 2))) := hrx.2 2 (by decide) (by decide)
  have g7 : w9[7]? = some (ad 7, .inl (K 0, 9, .inl f7)) := hrx.2 7 (by decide) (by decide)
  have g8 : w9[8]? = some (ad 8, .inl (K 0, 9, .inl f8)) := hrx.2 8 (by decide) (by decide)
  refine lv_iload_n hx hb dX9_bind_2 rfl (lv_at hl 0 rfl) ?_
  refine lv_iconst (v := nI 3) hx hb dX9_bind_3 (by decide +kernel) ?_
  refine lv_icmp_ge (tgt := 111) hx hb dX9_bind_4 (by decide) (fun c1 => ?_) (fun c1 => ?_)
  · refine lv_iconst (v := nI 1) hx hb dX9_bind_111 (by decide +kernel) ?_
    subst hAe
    exact W.zret (v := nI 1) hx hb hr (by decide +kernel) (fun t ht _ => ⟨⟨nI 1, w9, rfl, ⟨f7, f8, hrx⟩, by rw [ht]; exact hP, hD⟩, hS.F ht⟩) hS.2.2 dX9_bind_112
  · have hi3 : i < 3 := Nat.not_le.mp (fun z => c1 (nI_le z (by omega)))
    obtain ⟨e1, e2⟩ := hJt i (by omega)
    refine lv_aload_n hx hb dX9_bind_7 rfl (lv_at hl 1 rfl) ?_
    refine va_get (v := .ref (ad 2)) (C := RX9) (T := TX9) (N := 18) hx hb hts (hin_X9 hmc) hown E.1.1 hP 0 g0 rfl 2 (by decide) (hts _ (hmc _ k_571)) (fun _ h9 => h9) rfl dX9_bind_8 ?_
    refine lv_iconst (v := nI 3) hx hb dX9_bind_11 (by decide +kernel) ?_
    refine lv_iload_n hx hb dX9_bind_12 rfl (lv_at hl 2 rfl) ?_
    refine lv_imul hx hb dX9_bind_13 ?_
    refine htopi (v := nI (3 * p9)) (pk_mul _ _) ?_
    refine lv_iload_n hx hb dX9_bind_14 rfl (lv_at hl 0 rfl) ?_
    refine lv_iadd hx hb dX9_bind_15 ?_
    refine htopi (v := nI ((3 * p9) + i)) (nI_add _ _) ?_
    refine va_iald hx hb E.1.1 hP 2 0 g2 rfl (vp_in_nI (by omega) (by omega)) dX9_bind_16 ?_
    refine htopi (v := (f 2) ((3 * p9) + i)) (by rw [nI_clamp (by omega)]) ?_
    refine htopi (v := hit (J i)) (e1) ?_
    refine lv_istore (lv' := [(4, .int (hit (J i))), (3, .int (nI i)), (0, .ref (ad 0)), (1, .int (nI p9)), (2, .int (nI t))]) hx hb dX9_bind_17 hl (by decide) rfl (fun ls hl => ?_)
    refine lv_aload_n hx hb dX9_bind_19 rfl (lv_at hl 2 rfl) ?_
    refine va_get (v := .ref (ad 1)) (C := RX9) (T := TX9) (N := 18) hx hb hts (hin_X9 hmc) hown E.1.1 hP 0 g0 rfl 0 (by decide) (hts _ (hmc _ k_569)) (fun _ h9 => h9) rfl dX9_bind_20 ?_
    refine lv_iconst (v := nI 3) hx hb dX9_bind_23 (by decide +kernel) ?_
    refine lv_iload_n hx hb dX9_bind_24 rfl (lv_at hl 4 rfl) ?_
    refine lv_imul hx hb dX9_bind_25 ?_
    refine htopi (v := nI (3 * t)) (pk_mul _ _) ?_
    refine lv_iload_n hx hb dX9_bind_26 rfl (lv_at hl 1 rfl) ?_
    refine lv_iadd hx hb dX9_bind_27 ?_
    refine htopi (v := nI ((3 * t) + i)) (nI_add _ _) ?_
    refine va_iald hx hb E.1.1 hP 1 0 g1 rfl (vp_in_nI (by omega) (by omega)) dX9_bind_28 ?_
    refine htopi (v := (f 1) ((3 * t) + i)) (by rw [nI_clamp (by omega)]) ?_
    refine lv_istore (lv' := [(5, .int ((f 1) ((3 * t) + i))), (4, .int (hit (J i))), (3, .int (nI i)), (0, .ref (ad 0)), (1, .int (nI p9)), (2, .int (nI t))]) hx hb dX9_bind_29 hl (by decide) rfl (fun ls hl => ?_)
    refine lv_iload hx hb dX9_bind_31 (lv_at hl 1 rfl) ?_
    refine lv_if_lt (tgt := 46) hx hb dX9_bind_33 (by decide) (fun c2 => ?_) (fun c2 => ?_)
    · have hv : 64 ≤ J i := (hit_lt e2).mp c2
      refine lv_aload_n hx hb dX9_bind_46 rfl (lv_at hl 3 rfl) ?_
      refine va_get (v := .ref (ad 8)) (C := RX9) (T := TX9) (N := 18) hx hb hts (hin_X9 hmc) hown E.1.1 hP 0 g0 rfl 11 (by decide) (hts _ (hmc _ k_580)) (fun _ h9 => h9) rfl dX9_bind_47 ?_
      refine lv_iload hx hb dX9_bind_50 (lv_at hl 1 rfl) ?_
      refine lv_ineg hx hb dX9_bind_52 ?_
      refine htopi (v := nI (J i - 63)) (hneg_it hv e2) ?_
      refine va_iald hx hb E.1.1 hP 8 0 g8 rfl (vp_in_nI (by omega) (by omega)) dX9_bind_53 ?_
      refine htopi (v := f8 (J i - 63)) (by rw [nI_clamp (by omega)]) ?_
      refine lv_if_le (tgt := 78) hx hb dX9_bind_54 (by decide) (fun c3 => ?_) (fun c3 => ?_)
      · refine lv_iload hx hb dX9_bind_78 (lv_at hl 1 rfl) ?_
        refine lv_if_ge (tgt := 105) hx hb dX9_bind_80 (by decide) (fun c9 => ?_) (fun c9 => ?_)
        · refine lv_iinc (v := nI (i + 1)) (lv' := [(3, .int (nI (i + 1))), (5, .int ((f 1) ((3 * t) + i))), (4, .int (hit (J i))), (0, .ref (ad 0)), (1, .int (nI p9)), (2, .int (nI t))]) hx hb dX9_bind_105 hl (k := 2) rfl (nI_1 _) (by decide) rfl (fun ls hl => ?_)
          refine lv_goto (tgt := 2) hx hb dX9_bind_108 (by decide) ?_
          exact ih (i + 1) _ H locs ls ⟨by omega, _, _, hrx⟩ (by omega) hP hD hS (lv_sub hl [0, 3, 4, 5] rfl)
        · have hv : 64 ≤ J i := (hit_lt e2).mp (Int32.not_le.mp c9)
          refine lv_aload_n hx hb dX9_bind_83 rfl (lv_at hl 3 rfl) ?_
          refine va_get (v := .ref (ad 7)) (C := RX9) (T := TX9) (N := 18) hx hb hts (hin_X9 hmc) hown E.1.1 hP 0 g0 rfl 10 (by decide) (hts _ (hmc _ k_579)) (fun _ h9 => h9) rfl dX9_bind_84 ?_
          refine lv_iload hx hb dX9_bind_87 (lv_at hl 1 rfl) ?_
          refine lv_ineg hx hb dX9_bind_89 ?_
          refine htopi (v := nI (J i - 63)) (hneg_it hv e2) ?_
          refine lv_iload hx hb dX9_bind_90 (lv_at hl 0 rfl) ?_
          refine va_iast hx hb E.1.1 hP hD hS 7 0 g7 rfl (vp_in_nI (by omega) (by omega)) dX9_bind_92 (fun H locs hP hD hS => ?_)
          rw [nI_clamp (show (J i - 63) < 2 ^ 31 by omega)] at hP hD
          obtain ⟨ws1, ews1⟩ : ∃ zw : va_W, zw = List.set w9 7 ((ad 7), .inl (K 0, 9, .inl (upd f7 (J i - 63) ((f 1) ((3 * t) + i))))) := ⟨_, rfl⟩
          have hP : va_P D vwCl ws1 H := by rw [ews1]; exact hP
          have hD : va_D A ws1 := by rw [ews1]; exact hD
          have g0 := (show ws1[0]? = _ from (by rw [ews1]; exact hset_ne (by omega))).trans g0
          have g1 := (show ws1[1]? = _ from (by rw [ews1]; exact hset_ne (by omega))).trans g1
          have g2 := (show ws1[2]? = _ from (by rw [ews1]; exact hset_ne (by omega))).trans g2
          have g7 : ws1[7]? = some ((ad 7), .inl (K 0, 9, .inl (upd f7 (J i - 63) ((f 1) ((3 * t) + i))))) := by rw [ews1]; exact hset_eq g7
          have g8 := (show ws1[8]? = _ from (by rw [ews1]; exact hset_ne (by omega))).trans g8
          have hrx : hRX K ad ws1 (hup (hup (hup f 7 f7) 8 f8) 7 (upd f7 (J i - 63) ((f 1) ((3 * t) + i)))) ct pt md lz kp fd := by rw [ews1]; exact hrx.arr 7 (by decide) (by decide) _
          refine lv_aload_n hx hb dX9_bind_93 rfl (lv_at hl 3 rfl) ?_
          refine va_get (v := .ref (ad 8)) (C := RX9) (T := TX9) (N := 18) hx hb hts (hin_X9 hmc) hown E.1.1 hP 0 g0 rfl 11 (by decide) (hts _ (hmc _ k_580)) (fun _ h9 => h9) rfl dX9_bind_94 ?_
          refine lv_iload hx hb dX9_bind_97 (lv_at hl 1 rfl) ?_
          refine lv_ineg hx hb dX9_bind_99 ?_
          refine htopi (v := nI (J i - 63)) (hneg_it hv e2) ?_
          refine lv_dup2_11 hx hb dX9_bind_100 rfl rfl ?_
          refine va_iald hx hb E.1.1 hP 8 0 g8 rfl (vp_in_nI (by omega) (by omega)) dX9_bind_101 ?_
          refine htopi (v := f8 (J i - 63)) (by rw [nI_clamp (by omega)]) ?_
          refine lv_iconst (v := nI 1) hx hb dX9_bind_102 (by decide +kernel) ?_
          refine lv_iadd hx hb dX9_bind_103 ?_
          refine va_iast hx hb E.1.1 hP hD hS 8 0 g8 rfl (vp_in_nI (by omega) (by omega)) dX9_bind_104 (fun H locs hP hD hS => ?_)
          rw [nI_clamp (show (J i - 63) < 2 ^ 31 by omega)] at hP hD
          obtain ⟨ws2, ews2⟩ : ∃ zw : va_W, zw = List.set ws1 8 ((ad 8), .inl (K 0, 9, .inl (upd f8 (J i - 63) ((f8 (J i - 63)) + (nI 1))))) := ⟨_, rfl⟩
          have hP : va_P D vwCl ws2 H := by rw [ews2]; exact hP
          have hD : va_D A ws2 := by rw [ews2]; exact hD
          have g0 := (show ws2[0]? = _ from (by rw [ews2]; exact hset_ne (by omega))).trans g0
          have g1 := (show ws2[1]? = _ from (by rw [ews2]; exact hset_ne (by omega))).trans g1
          have g2 := (show ws2[2]? = _ from (by rw [ews2]; exact hset_ne (by omega))).trans g2
          have g7 := (show ws2[7]? = _ from (by rw [ews2]; exact hset_ne (by omega))).trans g7
          have g8 : ws2[8]? = some ((ad 8), .inl (K 0, 9, .inl (upd f8 (J i - 63) ((f8 (J i - 63)) + (nI 1))))) := by rw [ews2]; exact hset_eq g8
          have hrx : hRX K ad ws2 (hup (hup (hup (hup f 7 f7) 8 f8) 7 (upd f7 (J i - 63) ((f 1) ((3 * t) + i)))) 8 (upd f8 (J i - 63) ((f8 (J i - 63)) + (nI 1)))) ct pt md lz kp fd := by rw [ews2]; exact hrx.arr 8 (by decide) (by decide) _
          rw [hup_78] at hrx
          refine lv_iinc (v := nI (i + 1)) (lv' := [(3, .int (nI (i + 1))), (5, .int ((f 1) ((3 * t) + i))), (4, .int (hit (J i))), (0, .ref (ad 0)), (1, .int (nI p9)), (2, .int (nI t))]) hx hb dX9_bind_105 hl (k := 2) rfl (nI_1 _) (by decide) rfl (fun ls hl => ?_)
          refine lv_goto (tgt := 2) hx hb dX9_bind_108 (by decide) ?_
          exact ih (i + 1) _ H locs ls ⟨by omega, _, _, hrx⟩ (by omega) hP hD hS (lv_sub hl [0, 3, 4, 5] rfl)
      · refine lv_aload_n hx hb dX9_bind_57 rfl (lv_at hl 3 rfl) ?_
        refine va_get (v := .ref (ad 7)) (C := RX9) (T := TX9) (N := 18) hx hb hts (hin_X9 hmc) hown E.1.1 hP 0 g0 rfl 10 (by decide) (hts _ (hmc _ k_579)) (fun _ h9 => h9) rfl dX9_bind_58 ?_
        refine lv_iload hx hb dX9_bind_61 (lv_at hl 1 rfl) ?_
        refine lv_ineg hx hb dX9_bind_63 ?_
        refine htopi (v := nI (J i - 63)) (hneg_it hv e2) ?_
        refine va_iald hx hb E.1.1 hP 7 0 g7 rfl (vp_in_nI (by omega) (by omega)) dX9_bind_64 ?_
        refine htopi (v := f7 (J i - 63)) (by rw [nI_clamp (by omega)]) ?_
        refine lv_iload hx hb dX9_bind_65 (lv_at hl 0 rfl) ?_
        refine lv_icmp_eq (tgt := 78) hx hb dX9_bind_67 (by decide) (fun c4 => ?_) (fun c4 => ?_)
        · refine lv_iload hx hb dX9_bind_78 (lv_at hl 1 rfl) ?_
          refine lv_if_ge (tgt := 105) hx hb dX9_bind_80 (by decide) (fun c9 => ?_) (fun c9 => ?_)
          · refine lv_iinc (v := nI (i + 1)) (lv' := [(3, .int (nI (i + 1))), (5, .int ((f 1) ((3 * t) + i))), (4, .int (hit (J i))), (0, .ref (ad 0)), (1, .int (nI p9)), (2, .int (nI t))]) hx hb dX9_bind_105 hl (k := 2) rfl (nI_1 _) (by decide) rfl (fun ls hl => ?_)
            refine lv_goto (tgt := 2) hx hb dX9_bind_108 (by decide) ?_
            exact ih (i + 1) _ H locs ls ⟨by omega, _, _, hrx⟩ (by omega) hP hD hS (lv_sub hl [0, 3, 4, 5] rfl)
          · have hv : 64 ≤ J i := (hit_lt e2).mp (Int32.not_le.mp c9)
            refine lv_aload_n hx hb dX9_bind_83 rfl (lv_at hl 3 rfl) ?_
            refine va_get (v := .ref (ad 7)) (C := RX9) (T := TX9) (N := 18) hx hb hts (hin_X9 hmc) hown E.1.1 hP 0 g0 rfl 10 (by decide) (hts _ (hmc _ k_579)) (fun _ h9 => h9) rfl dX9_bind_84 ?_
            refine lv_iload hx hb dX9_bind_87 (lv_at hl 1 rfl) ?_
            refine lv_ineg hx hb dX9_bind_89 ?_
            refine htopi (v := nI (J i - 63)) (hneg_it hv e2) ?_
            refine lv_iload hx hb dX9_bind_90 (lv_at hl 0 rfl) ?_
            refine va_iast hx hb E.1.1 hP hD hS 7 0 g7 rfl (vp_in_nI (by omega) (by omega)) dX9_bind_92 (fun H locs hP hD hS => ?_)
            rw [nI_clamp (show (J i - 63) < 2 ^ 31 by omega)] at hP hD
            obtain ⟨ws3, ews3⟩ : ∃ zw : va_W, zw = List.set w9 7 ((ad 7), .inl (K 0, 9, .inl (upd f7 (J i - 63) ((f 1) ((3 * t) + i))))) := ⟨_, rfl⟩
            have hP : va_P D vwCl ws3 H := by rw [ews3]; exact hP
            have hD : va_D A ws3 := by rw [ews3]; exact hD
            have g0 := (show ws3[0]? = _ from (by rw [ews3]; exact hset_ne (by omega))).trans g0
            have g1 := (show ws3[1]? = _ from (by rw [ews3]; exact hset_ne (by omega))).trans g1
            have g2 := (show ws3[2]? = _ from (by rw [ews3]; exact hset_ne (by omega))).trans g2
            have g7 : ws3[7]? = some ((ad 7), .inl (K 0, 9, .inl (upd f7 (J i - 63) ((f 1) ((3 * t) + i))))) := by rw [ews3]; exact hset_eq g7
            have g8 := (show ws3[8]? = _ from (by rw [ews3]; exact hset_ne (by omega))).trans g8
            have hrx : hRX K ad ws3 (hup (hup (hup f 7 f7) 8 f8) 7 (upd f7 (J i - 63) ((f 1) ((3 * t) + i)))) ct pt md lz kp fd := by rw [ews3]; exact hrx.arr 7 (by decide) (by decide) _
            refine lv_aload_n hx hb dX9_bind_93 rfl (lv_at hl 3 rfl) ?_
            refine va_get (v := .ref (ad 8)) (C := RX9) (T := TX9) (N := 18) hx hb hts (hin_X9 hmc) hown E.1.1 hP 0 g0 rfl 11 (by decide) (hts _ (hmc _ k_580)) (fun _ h9 => h9) rfl dX9_bind_94 ?_
            refine lv_iload hx hb dX9_bind_97 (lv_at hl 1 rfl) ?_
            refine lv_ineg hx hb dX9_bind_99 ?_
            refine htopi (v := nI (J i - 63)) (hneg_it hv e2) ?_
            refine lv_dup2_11 hx hb dX9_bind_100 rfl rfl ?_
            refine va_iald hx hb E.1.1 hP 8 0 g8 rfl (vp_in_nI (by omega) (by omega)) dX9_bind_101 ?_
            refine htopi (v := f8 (J i - 63)) (by rw [nI_clamp (by omega)]) ?_
            refine lv_iconst (v := nI 1) hx hb dX9_bind_102 (by decide +kernel) ?_
            refine lv_iadd hx hb dX9_bind_103 ?_
            refine va_iast hx hb E.1.1 hP hD hS 8 0 g8 rfl (vp_in_nI (by omega) (by omega)) dX9_bind_104 (fun H locs hP hD hS => ?_)
            rw [nI_clamp (show (J i - 63) < 2 ^ 31 by omega)] at hP hD
            obtain ⟨ws4, ews4⟩ : ∃ zw : va_W, zw = List.set ws3 8 ((ad 8), .inl (K 0, 9, .inl (upd f8 (J i - 63) ((f8 (J i - 63)) + (nI 1))))) := ⟨_, rfl⟩
            have hP : va_P D vwCl ws4 H := by rw [ews4]; exact hP
            have hD : va_D A ws4 := by rw [ews4]; exact hD
            have g0 := (show ws4[0]? = _ from (by rw [ews4]; exact hset_ne (by omega))).trans g0
            have g1 := (show ws4[1]? = _ from (by rw [ews4]; exact hset_ne (by omega))).trans g1
            have g2 := (show ws4[2]? = _ from (by rw [ews4]; exact hset_ne (by omega))).trans g2
            have g7 := (show ws4[7]? = _ from (by rw [ews4]; exact hset_ne (by omega))).trans g7
            have g8 : ws4[8]? = some ((ad 8), .inl (K 0, 9, .inl (upd f8 (J i - 63) ((f8 (J i - 63)) + (nI 1))))) := by rw [ews4]; exact hset_eq g8
            have hrx : hRX K ad ws4 (hup (hup (hup (hup f 7 f7) 8 f8) 7 (upd f7 (J i - 63) ((f 1) ((3 * t) + i)))) 8 (upd f8 (J i - 63) ((f8 (J i - 63)) + (nI 1)))) ct pt md lz kp fd := by rw [ews4]; exact hrx.arr 8 (by decide) (by decide) _
            rw [hup_78] at hrx
            refine lv_iinc (v := nI (i + 1)) (lv' := [(3, .int (nI (i + 1))), (5, .int ((f 1) ((3 * t) + i))), (4, .int (hit (J i))), (0, .ref (ad 0)), (1, .int (nI p9)), (2, .int (nI t))]) hx hb dX9_bind_105 hl (k := 2) rfl (nI_1 _) (by decide) rfl (fun ls hl => ?_)
            refine lv_goto (tgt := 2) hx hb dX9_bind_108 (by decide) ?_
            exact ih (i + 1) _ H locs ls ⟨by omega, _, _, hrx⟩ (by omega) hP hD hS (lv_sub hl [0, 3, 4, 5] rfl)
        · refine lv_aload_n hx hb dX9_bind_70 rfl (lv_at hl 3 rfl) ?_
          refine lv_iload_n hx hb dX9_bind_71 rfl (lv_at hl 4 rfl) ?_
          refine lv_iload_n hx hb dX9_bind_72 rfl (lv_at hl 2 rfl) ?_
          refine hc_v E hD hS (va_runV (As := [.int (nI p9), .int (nI i)]) (rest := []) ⟨hx, hb, hml, hown, hts⟩ ((c_X9_loosen l D K tv w9 ad (hup (hup f 7 f7) 8 f8) ct pt md lz kp fd hrx p9 hp6 J hJt i (by omega)) H.size) (cwV 2 hts (hGV hmc k_735 k_737 k_16 k_29 k_738) rfl rfl rfl (by decide +kernel) ⟨Nat.le_of_ble_eq_true rfl, Nat.le_of_ble_eq_true rfl⟩) (hpreV E hP hD hS g0 rfl) rfl rfl hl.1 rfl (lv_room (Nat.le_of_ble_eq_true rfl)) dX9_bind_73 ⟨(Nat.le_refl _), (Nat.le_refl _)⟩) (fun ws5 H locs hp hP hD hS => ?_)
          obtain ⟨f9, hrx⟩ := hp
          rw [hup_up] at hrx
          refine lv_iconst (v := nI 0) hx hb dX9_bind_76 (by decide +kernel) ?_
          subst hAe
          exact W.zret (v := nI 0) hx hb hr (by decide +kernel) (fun t ht _ => ⟨⟨nI 0, ws5, rfl, ⟨f7, f9, hrx⟩, by rw [ht]; exact hP, hD⟩, hS.F ht⟩) hS.2.2 dX9_bind_77
    · refine lv_iload hx hb dX9_bind_36 (lv_at hl 1 rfl) ?_
      refine lv_iload hx hb dX9_bind_38 (lv_at hl 0 rfl) ?_
      refine lv_icmp_eq (tgt := 78) hx hb dX9_bind_40 (by decide) (fun c3 => ?_) (fun c3 => ?_)
      · refine lv_iload hx hb dX9_bind_78 (lv_at hl 1 rfl) ?_
        refine lv_if_ge (tgt := 105) hx hb dX9_bind_80 (by decide) (fun c9 => ?_) (fun c9 => ?_)
        · refine lv_iinc (v := nI (i + 1)) (lv' := [(3, .int (nI (i + 1))), (5, .int ((f 1) ((3 * t) + i))), (4, .int (hit (J i))), (0, .ref (ad 0)), (1, .int (nI p9)), (2, .int (nI t))]) hx hb dX9_bind_105 hl (k := 2) rfl (nI_1 _) (by decide) rfl (fun ls hl => ?_)
          refine lv_goto (tgt := 2) hx hb dX9_bind_108 (by decide) ?_
          exact ih (i + 1) _ H locs ls ⟨by omega, _, _, hrx⟩ (by omega) hP hD hS (lv_sub hl [0, 3, 4, 5] rfl)
        · have hv : 64 ≤ J i := (hit_lt e2).mp (Int32.not_le.mp c9)
          refine lv_aload_n hx hb dX9_bind_83 rfl (lv_at hl 3 rfl) ?_
          refine va_get (v := .ref (ad 7)) (C := RX9) (T := TX9) (N := 18) hx hb hts (hin_X9 hmc) hown E.1.1 hP 0 g0 rfl 10 (by decide) (hts _ (hmc _ k_579)) (fun _ h9 => h9) rfl dX9_bind_84 ?_
          refine lv_iload hx hb dX9_bind_87 (lv_at hl 1 rfl) ?_
          refine lv_ineg hx hb dX9_bind_89 ?_
          refine htopi (v := nI (J i - 63)) (hneg_it hv e2) ?_
          refine lv_iload hx hb dX9_bind_90 (lv_at hl 0 rfl) ?_
          refine va_iast hx hb E.1.1 hP hD hS 7 0 g7 rfl (vp_in_nI (by omega) (by omega)) dX9_bind_92 (fun H locs hP hD hS => ?_)
          rw [nI_clamp (show (J i - 63) < 2 ^ 31 by omega)] at hP hD
          obtain ⟨ws6, ews6⟩ : ∃ zw : va_W, zw = List.set w9 7 ((ad 7), .inl (K 0, 9, .inl (upd f7 (J i - 63) ((f 1) ((3 * t) + i))))) := ⟨_, rfl⟩
          have hP : va_P D vwCl ws6 H := by rw [ews6]; exact hP
          have hD : va_D A ws6 := by rw [ews6]; exact hD
          have g0 := (show ws6[0]? = _ from (by rw [ews6]; exact hset_ne (by omega))).trans g0
          have g1 := (show ws6[1]? = _ from (by rw [ews6]; exact hset_ne (by omega))).trans g1
          have g2 := (show ws6[2]? = _ from (by rw [ews6]; exact hset_ne (by omega))).trans g2
          have g7 : ws6[7]? = some ((ad 7), .inl (K 0, 9, .inl (upd f7 (J i - 63) ((f 1) ((3 * t) + i))))) := by rw [ews6]; exact hset_eq g7
          have g8 := (show ws6[8]? = _ from (by rw [ews6]; exact hset_ne (by omega))).trans g8
          have hrx : hRX K ad ws6 (hup (hup (hup f 7 f7) 8 f8) 7 (upd f7 (J i - 63) ((f 1) ((3 * t) + i)))) ct pt md lz kp fd := by rw [ews6]; exact hrx.arr 7 (by decide) (by decide) _
          refine lv_aload_n hx hb dX9_bind_93 rfl (lv_at hl 3 rfl) ?_
          refine va_get (v := .ref (ad 8)) (C := RX9) (T := TX9) (N := 18) hx hb hts (hin_X9 hmc) hown E.1.1 hP 0 g0 rfl 11 (by decide) (hts _ (hmc _ k_580)) (fun _ h9 => h9) rfl dX9_bind_94 ?_
          refine lv_iload hx hb dX9_bind_97 (lv_at hl 1 rfl) ?_
          refine lv_ineg hx hb dX9_bind_99 ?_
          refine htopi (v := nI (J i - 63)) (hneg_it hv e2) ?_
          refine lv_dup2_11 hx hb dX9_bind_100 rfl rfl ?_
          refine va_iald hx hb E.1.1 hP 8 0 g8 rfl (vp_in_nI (by omega) (by omega)) dX9_bind_101 ?_
          refine htopi (v := f8 (J i - 63)) (by rw [nI_clamp (by omega)]) ?_
          refine lv_iconst (v := nI 1) hx hb dX9_bind_102 (by decide +kernel) ?_
          refine lv_iadd hx hb dX9_bind_103 ?_
          refine va_iast hx hb E.1.1 hP hD hS 8 0 g8 rfl (vp_in_nI (by omega) (by omega)) dX9_bind_104 (fun H locs hP hD hS => ?_)
          rw [nI_clamp (show (J i - 63) < 2 ^ 31 by omega)] at hP hD
          obtain ⟨ws7, ews7⟩ : ∃ zw : va_W, zw = List.set ws6 8 ((ad 8), .inl (K 0, 9, .inl (upd f8 (J i - 63) ((f8 (J i - 63)) + (nI 1))))) := ⟨_, rfl⟩
          have hP : va_P D vwCl ws7 H := by rw [ews7]; exact hP
          have hD : va_D A ws7 := by rw [ews7]; exact hD
          have g0 := (show ws7[0]? = _ from (by rw [ews7]; exact hset_ne (by omega))).trans g0
          have g1 := (show ws7[1]? = _ from (by rw [ews7]; exact hset_ne (by omega))).trans g1
          have g2 := (show ws7[2]? = _ from (by rw [ews7]; exact hset_ne (by omega))).trans g2
          have g7 := (show ws7[7]? = _ from (by rw [ews7]; exact hset_ne (by omega))).trans g7
          have g8 : ws7[8]? = some ((ad 8), .inl (K 0, 9, .inl (upd f8 (J i - 63) ((f8 (J i - 63)) + (nI 1))))) := by rw [ews7]; exact hset_eq g8
          have hrx : hRX K ad ws7 (hup (hup (hup (hup f 7 f7) 8 f8) 7 (upd f7 (J i - 63) ((f 1) ((3 * t) + i)))) 8 (upd f8 (J i - 63) ((f8 (J i - 63)) + (nI 1)))) ct pt md lz kp fd := by rw [ews7]; exact hrx.arr 8 (by decide) (by decide) _
          rw [hup_78] at hrx
          refine lv_iinc (v := nI (i + 1)) (lv' := [(3, .int (nI (i + 1))), (5, .int ((f 1) ((3 * t) + i))), (4, .int (hit (J i))), (0, .ref (ad 0)), (1, .int (nI p9)), (2, .int (nI t))]) hx hb dX9_bind_105 hl (k := 2) rfl (nI_1 _) (by decide) rfl (fun ls hl => ?_)
          refine lv_goto (tgt := 2) hx hb dX9_bind_108 (by decide) ?_
          exact ih (i + 1) _ H locs ls ⟨by omega, _, _, hrx⟩ (by omega) hP hD hS (lv_sub hl [0, 3, 4, 5] rfl)
      · refine lv_goto (tgt := 70) hx hb dX9_bind_43 (by decide) ?_
        refine lv_aload_n hx hb dX9_bind_70 rfl (lv_at hl 3 rfl) ?_
        refine lv_iload_n hx hb dX9_bind_71 rfl (lv_at hl 4 rfl) ?_
        refine lv_iload_n hx hb dX9_bind_72 rfl (lv_at hl 2 rfl) ?_
        refine hc_v E hD hS (va_runV (As := [.int (nI p9), .int (nI i)]) (rest := []) ⟨hx, hb, hml, hown, hts⟩ ((c_X9_loosen l D K tv w9 ad (hup (hup f 7 f7) 8 f8) ct pt md lz kp fd hrx p9 hp6 J hJt i (by omega)) H.size) (cwV 2 hts (hGV hmc k_735 k_737 k_16 k_29 k_738) rfl rfl rfl (by decide +kernel) ⟨Nat.le_of_ble_eq_true rfl, Nat.le_of_ble_eq_true rfl⟩) (hpreV E hP hD hS g0 rfl) rfl rfl hl.1 rfl (lv_room (Nat.le_of_ble_eq_true rfl)) dX9_bind_73 ⟨(Nat.le_refl _), (Nat.le_refl _)⟩) (fun ws8 H locs hp hP hD hS => ?_)
        obtain ⟨f9, hrx⟩ := hp
        rw [hup_up] at hrx
        refine lv_iconst (v := nI 0) hx hb dX9_bind_76 (by decide +kernel) ?_
        subst hAe
        exact W.zret (v := nI 0) hx hb hr (by decide +kernel) (fun t ht _ => ⟨⟨nI 0, ws8, rfl, ⟨f7, f9, hrx⟩, by rw [ht]; exact hP, hD⟩, hS.F ht⟩) hS.2.2 dX9_bind_77

set_option maxHeartbeats 4000000 in
set_option maxRecDepth 100000 in
/-- the reference: keep -/
theorem c_X9_keep (l : Launch) (D : va_G) (K : Nat → ClassId) (tv : Nat) (ws : va_W) (ad : Nat → Nat) (f : Nat → Nat → Int32) (ct pt md : Nat) (lz : Int64) (kp : Nat) (fd : Int32) (hrx : hRX K ad ws f ct pt md lz kp fd) (hkp : kp < 20000) : hV l D (hTy K) tv yX9_keep cX9_keep 2 none ({ frames := 0, cells := 0, slots := 0, locals := 0 }) [.ref (ad 0)] ws (fun ws1 => ∃ f10, hRX K ad ws1 (hup f 10 f10) ct pt md lz (kp + 1) fd) := by
  intro sz
  refine Met.ofW (cc := cX9_keep) (maxL := 2) (ret := none) (by decide) rfl ?_
  intro p e s m args below meth c s₁ B hml hv0
  obtain ⟨rfl, rfl, E, hP, hD⟩ := hentry hv0
  have hx := B.exec
  have hb := B.bytes
  have hr := B.returns
  have hts := atoms_spec (ws := hC yX9_keep cX9_keep 2 none) B.pre
  have hown : s.vm.findClass RX9 = some m.cls := findClass_of_methodNamed B.named
  have hlocks := B.notSynchronized
  generalize hAe : va_A ws s.heap.size = A at hD E ⊢
  have hl := lv_entry ([.ref (ad 0)]) (n := 2) (Nat.le_of_ble_eq_true rfl)
  rw [lg_entry_eq]
  generalize (lg_sl ([.ref (ad 0)]) ++ List.replicate (2 - (lg_sl ([.ref (ad 0)])).length) Slot.unset).toArray = ls at hl ⊢
  have hl : lv_has ls 2 [(0, .ref (ad 0))] := hl
  refine hat0 (fun H hHe => ?_)
  have hP : va_P D vwCl ws H := by rw [hHe]; exact hP
  have hS : va_S A s.heap H [] := by rw [hHe]; exact va_S.rf
  refine lv_iconst (v := nI 1) hx hb dX9_keep_0 (by decide +kernel) ?_
  refine lv_istore_n (lv' := [(1, .int (nI 1)), (0, .ref (ad 0))]) hx hb dX9_keep_1 rfl hl (by decide) rfl (fun ls hl => ?_)
  refine hloopW (α := Nat) 2 2 (fun v => [(1, .int (nI v)), (0, .ref (ad 0))]) (fun v w9 => 1 ≤ v ∧ v ≤ 9 ∧ ∃ f10, hRX K ad w9 (hup f 10 f10) ct pt md lz kp fd) (fun v => 9 - v) (fun _ => 0) (fun _ => 0) ?_ 1 ⟨Nat.le_refl _, by decide, f 10, by rw [hup_id]; exact hrx⟩ hP hD hS (lv_sub hl [0, 1] rfl)
  intro v w9 H locs ls hI9 hP hD hS hl ih
  obtain ⟨hv1, hv9, f10, hrx⟩ := hI9
  have hl : lv_has ls 2 [(1, .int (nI v)), (0, .ref (ad 0))] := hl
  have g0 := hrx.1
  have g7 : w9[7]? = some (ad 7, .inl (K 0, 9, .inl (f 7))) := hrx.2 7 (by decide) (by decide)
  have g8 : w9[8]? = some (ad 8, .inl (K 0, 9, .inl (f 8))) := hrx.2 8 (by decide) (by decide)
  have g10 : w9[10]? = some (ad 10, .inl (K 0, 160000, .inl f10)) := hrx.2 10 (by decide) (by decide)
  refine lv_iload_n hx hb dX9_keep_2 rfl (lv_at hl 0 rfl) ?_
  refine lv_bipush (v := nI 8) hx hb dX9_keep_3 (by decide +kernel) ?_
  refine lv_icmp_gt (tgt := 49) hx hb dX9_keep_5 (by decide) (fun c1 => ?_) (fun c1 => ?_)
  · refine lv_aload_n hx hb dX9_keep_49 rfl (lv_at hl 1 rfl) ?_
    refine lv_dup hx hb dX9_keep_50 rfl ?_
    refine va_get (v := .int (nI kp)) (C := RX9) (T := TX9) (N := 18) hx hb hts (hin_X9 hmc) hown E.1.1 hP 0 g0 rfl 14 (by decide) (hts _ (hmc _ k_583)) (fun _ h9 => h9) rfl dX9_keep_51 ?_
    refine lv_iconst (v := nI 1) hx hb dX9_keep_54 (by decide +kernel) ?_
    refine lv_iadd hx hb dX9_keep_55 ?_
    refine htopi (v := nI (kp + 1)) (nI_add _ _) ?_
    refine va_put (v := .int (nI (kp + 1))) (ty := .int) (C := RX9) (T := TX9) (N := 18) hx hb hts (hin_X9 hmc) tyX9 tyX9_ok nmX9 hown E.1.1 hP hD hS 0 g0 rfl 14 (by decide) (hts _ (hmc _ k_583)) (fun _ h9 => h9) rfl (by decide +kernel) rfl rfl (Nat.le_of_ble_eq_true rfl) dX9_keep_56 (fun H locs hP hD hS => ?_)
    obtain ⟨ws1, ews1⟩ : ∃ zw : va_W, zw = List.set w9 0 ((ad 0), .inr (iM, [.ref (ad 1), .int (nI ct), .ref (ad 2), .int (nI pt), .ref (ad 3), .int (nI md), .ref (ad 4), .ref (ad 5), .ref (ad 6), .long lz, .ref (ad 7), .ref (ad 8), .ref (ad 9), .ref (ad 10), .int (nI (kp + 1)), .int fd, .ref (ad 11), .ref (ad 12)])) := ⟨_, rfl⟩
    have hP : va_P D vwCl ws1 H := by rw [ews1]; exact hP
    have hD : va_D A ws1 := by rw [ews1]; exact hD
    have g0 : ws1[0]? = some ((ad 0), .inr (iM, [.ref (ad 1), .int (nI ct), .ref (ad 2), .int (nI pt), .ref (ad 3), .int (nI md), .ref (ad 4), .ref (ad 5), .ref (ad 6), .long lz, .ref (ad 7), .ref (ad 8), .ref (ad 9), .ref (ad 10), .int (nI (kp + 1)), .int fd, .ref (ad 11), .ref (ad 12)])) := by rw [ews1]; exact hset_eq g0
    have g7 := (show ws1[7]? = _ from (by rw [ews1]; exact hset_ne (by omega))).trans g7
    have g8 := (show ws1[8]? = _ from (by rw [ews1]; exact hset_ne (by omega))).trans g8
    have g10 := (show ws1[10]? = _ from (by rw [ews1]; exact hset_ne (by omega))).trans g10
    have hrx : hRX K ad ws1 (hup f 10 f10) ct pt md lz (kp + 1) fd := by rw [ews1]; exact hrx.obj
    subst hAe
    exact W.vret hx hb hr (fun t ht _ => ⟨⟨ws1, rfl, ⟨f10, hrx⟩, by rw [ht]; exact hP, hD⟩, hS.F ht⟩) hS.2.2 dX9_keep_59
  · have hv8 : v ≤ 8 := by
      rcases Nat.lt_or_ge 8 v with z | z
      · exact absurd (nI_lt z (by omega)) c1
      · exact z
    refine lv_aload_n hx hb dX9_keep_8 rfl (lv_at hl 1 rfl) ?_
    refine va_get (v := .ref (ad 10)) (C := RX9) (T := TX9) (N := 18) hx hb hts (hin_X9 hmc) hown E.1.1 hP 0 g0 rfl 13 (by decide) (hts _ (hmc _ k_582)) (fun _ h9 => h9) rfl dX9_keep_9 ?_
    refine lv_bipush (v := nI 8) hx hb dX9_keep_12 (by decide +kernel) ?_
    refine lv_aload_n hx hb dX9_keep_14 rfl (lv_at hl 1 rfl) ?_
    refine va_get (v := .int (nI kp)) (C := RX9) (T := TX9) (N := 18) hx hb hts (hin_X9 hmc) hown E.1.1 hP 0 g0 rfl 14 (by decide) (hts _ (hmc _ k_583)) (fun _ h9 => h9) rfl dX9_keep_15 ?_
    refine lv_imul hx hb dX9_keep_18 ?_
    refine htopi (v := nI (8 * kp)) (pk_mul _ _) ?_
    refine lv_iload_n hx hb dX9_keep_19 rfl (lv_at hl 0 rfl) ?_
    refine lv_iadd hx hb dX9_keep_20 ?_
    refine htopi (v := nI ((8 * kp) + v)) (nI_add _ _) ?_
    refine lv_iconst (v := nI 1) hx hb dX9_keep_21 (by decide +kernel) ?_
    refine lv_isub hx hb dX9_keep_22 ?_
    refine htopi (v := nI (8 * kp + v - 1)) (pk_sub (by omega)) ?_
    refine lv_aload_n hx hb dX9_keep_23 rfl (lv_at hl 1 rfl) ?_
    refine va_get (v := .ref (ad 8)) (C := RX9) (T := TX9) (N := 18) hx hb hts (hin_X9 hmc) hown E.1.1 hP 0 g0 rfl 11 (by decide) (hts _ (hmc _ k_580)) (fun _ h9 => h9) rfl dX9_keep_24 ?_
    refine lv_iload_n hx hb dX9_keep_27 rfl (lv_at hl 0 rfl) ?_
    refine va_iald hx hb E.1.1 hP 8 0 g8 rfl (vp_in_nI (by omega) (by omega)) dX9_keep_28 ?_
    refine htopi (v := (f 8) v) (by rw [nI_clamp (by omega)]) ?_
    refine lv_if_le (tgt := 41) hx hb dX9_keep_29 (by decide) (fun c2 => ?_) (fun c2 => ?_)
    · refine lv_iconst (v := nI 0) hx hb dX9_keep_41 (by decide +kernel) ?_
      refine va_iast hx hb E.1.1 hP hD hS 10 0 g10 rfl (vp_in_nI (by omega) (by omega)) dX9_keep_42 (fun H locs hP hD hS => ?_)
      rw [nI_clamp (show (8 * kp + v - 1) < 2 ^ 31 by omega)] at hP hD
      obtain ⟨ws2, ews2⟩ : ∃ zw : va_W, zw = List.set w9 10 ((ad 10), .inl (K 0, 160000, .inl (upd f10 (8 * kp + v - 1) (nI 0)))) := ⟨_, rfl⟩
      have hP : va_P D vwCl ws2 H := by rw [ews2]; exact hP
      have hD : va_D A ws2 := by rw [ews2]; exact hD
      have g0 := (show ws2[0]? = _ from (by rw [ews2]; exact hset_ne (by omega))).trans g0
      have g7 := (show ws2[7]? = _ from (by rw [ews2]; exact hset_ne (by omega))).trans g7
      have g8 := (show ws2[8]? = _ from (by rw [ews2]; exact hset_ne (by omega))).trans g8
      have g10 : ws2[10]? = some ((ad 10), .inl (K 0, 160000, .inl (upd f10 (8 * kp + v - 1) (nI 0)))) := by rw [ews2]; exact hset_eq g10
      have hrx : hRX K ad ws2 (hup (hup f 10 f10) 10 (upd f10 (8 * kp + v - 1) (nI 0))) ct pt md lz kp fd := by rw [ews2]; exact hrx.arr 10 (by decide) (by decide) _
      rw [hup_up] at hrx
      refine lv_iinc (v := nI (v + 1)) (lv' := [(1, .int (nI (v + 1))), (0, .ref (ad 0))]) hx hb dX9_keep_43 hl (k := 0) rfl (nI_1 _) (by decide) rfl (fun ls hl => ?_)
      refine lv_goto (tgt := 2) hx hb dX9_keep_46 (by decide) ?_
      exact ih (v + 1) _ H locs ls ⟨by omega, by omega, _, hrx⟩ (by omega) hP hD hS (lv_sub hl [0, 1] rfl)
    · refine lv_aload_n hx hb dX9_keep_32 rfl (lv_at hl 1 rfl) ?_
      refine va_get (v := .ref (ad 7)) (C := RX9) (T := TX9) (N := 18) hx hb hts (hin_X9 hmc) hown E.1.1 hP 0 g0 rfl 10 (by decide) (hts _ (hmc _ k_579)) (fun _ h9 => h9) rfl dX9_keep_33 ?_
      refine lv_iload_n hx hb dX9_keep_36 rfl (lv_at hl 0 rfl) ?_
      refine va_iald hx hb E.1.1 hP 7 0 g7 rfl (vp_in_nI (by omega) (by omega)) dX9_keep_37 ?_
      refine htopi (v := (f 7) v) (by rw [nI_clamp (by omega)]) ?_
      refine lv_goto (tgt := 42) hx hb dX9_keep_38 (by decide) ?_
      refine va_iast hx hb E.1.1 hP hD hS 10 0 g10 rfl (vp_in_nI (by omega) (by omega)) dX9_keep_42 (fun H locs hP hD hS => ?_)
      rw [nI_clamp (show (8 * kp + v - 1) < 2 ^ 31 by omega)] at hP hD
      obtain ⟨ws3, ews3⟩ : ∃ zw : va_W, zw = List.set w9 10 ((ad 10), .inl (K 0, 160000, .inl (upd f10 (8 * kp + v - 1) ((f 7) v)))) := ⟨_, rfl⟩
      have hP : va_P D vwCl ws3 H := by rw [ews3]; exact hP
      have hD : va_D A ws3 := by rw [ews3]; exact hD
      have g0 := (show ws3[0]? = _ from (by rw [ews3]; exact hset_ne (by omega))).trans g0
      have g7 := (show ws3[7]? = _ from (by rw [ews3]; exact hset_ne (by omega))).trans g7
      have g8 := (show ws3[8]? = _ from (by rw [ews3]; exact hset_ne (by omega))).trans g8
      have g10 : ws3[10]? = some ((ad 10), .inl (K 0, 160000, .inl (upd f10 (8 * kp + v - 1) ((f 7) v)))) := by rw [ews3]; exact hset_eq g10
      have hrx : hRX K ad ws3 (hup (hup f 10 f10) 10 (upd f10 (8 * kp + v - 1) ((f 7) v))) ct pt md lz kp fd := by rw [ews3]; exact hrx.arr 10 (by decide) (by decide) _
      rw [hup_up] at hrx
      refine lv_iinc (v := nI (v + 1)) (lv' := [(1, .int (nI (v + 1))), (0, .ref (ad 0))]) hx hb dX9_keep_43 hl (k := 0) rfl (nI_1 _) (by decide) rfl (fun ls hl => ?_)
      refine lv_goto (tgt := 2) hx hb dX9_keep_46 (by decide) ?_
      exact ih (v + 1) _ H locs ls ⟨by omega, by omega, _, hrx⟩ (by omega) hP hD hS (lv_sub hl [0, 1] rfl)

theorem hRB.frm2 {f g : Nat → Nat → Int32} {S : Nat → Nat → Nat → Prop} {cnt np : Nat} {o : List Nat} {I : Nat → Nat → Nat} {fd fd1 : Int32} (h : hRB f S cnt np o I fd) (h1 : g 1 = f 1) (h2 : g 2 = f 2) (h3 : g 3 = f 3) (hF : hRF g fd1) : hRB g S cnt np o I fd1 := by
  obtain ⟨q1, q2, q3, q4, q5, q6, q7, -⟩ := h
  refine ⟨q1, q2, q3, q4, ?_, ?_, ?_, hF⟩
  · rw [h1]; exact q5
  · rw [h2]; exact q6
  · rw [h3]; exact q7
/-- how many of the first K stand before (q, k) -/
def hcn (s : Nat → Int) (q : Int) (k : Nat) : Nat → Nat
  | 0 => 0
  | K + 1 => hcn s q k K + (if s K < q ∨ (s K = q ∧ K < k) then 1 else 0)
theorem hcn_le (s : Nat → Int) (q : Int) (k : Nat) : ∀ K, hcn s q k K ≤ K
  | 0 => Nat.le_refl _
  | K + 1 => by
    have := hcn_le s q k K
    show hcn s q k K + _ ≤ K + 1
    split <;> omega
theorem hcn_skip {s : Nat → Int} {q : Int} {k : Nat} (h : s k ≠ q) : ∀ K, hcn s q (k + 1) K = hcn s q k K
  | 0 => rfl
  | K + 1 => by
    show hcn s q (k + 1) K + _ = hcn s q k K + _
    rw [hcn_skip h K]
    congr 1
    by_cases z : K = k
    · subst z
      have : ¬ (s K = q ∧ K < K + 1) := fun w => h w.1
      have : ¬ (s K = q ∧ K < K) := fun w => h w.1
      simp [h]
    · have : (K < k + 1) ↔ (K < k) := by omega
      simp only [this]
theorem hcn_step {s : Nat → Int} {q : Int} {k : Nat} (h : s k = q) : ∀ K, hcn s q (k + 1) K = hcn s q k K + (if k < K then 1 else 0)
  | 0 => rfl
  | K + 1 => by
    show hcn s q (k + 1) K + _ = hcn s q k K + _ + _
    rw [hcn_step h K]
    by_cases z : K = k
    · subst z
      simp [h]
    · have e : (K < k + 1) ↔ (K < k) := by omega
      have e2 : (k < K + 1) ↔ (k < K) := by omega
      simp only [e, e2]
      omega
theorem hcn_next (s : Nat → Int) (q : Int) (k : Nat) : ∀ K, K ≤ k → hcn s q k K = hcn s (q + 1) 0 K
  | 0, _ => rfl
  | K + 1, h => by
    show hcn s q k K + _ = hcn s (q + 1) 0 K + _
    rw [hcn_next s q k K (by omega)]
    congr 1
    have e : (s K < q ∨ (s K = q ∧ K < k)) ↔ (s K < q + 1 ∨ (s K = q + 1 ∧ K < 0)) := by
      constructor
      · rintro (a | a)
        · exact Or.inl (by omega)
        · exact Or.inl (by omega)
      · rintro (a | a)
        · rcases (show s K < q ∨ s K = q by omega) with b | b
          · exact Or.inl b
          · exact Or.inr ⟨b, by omega⟩
        · exact absurd a.2 (Nat.not_lt_zero _)
    simp only [e]
theorem hcn_lt {s : Nat → Int} {q : Int} {k K : Nat} (hk : k < K) (h : s k = q) : hcn s q k K + 1 ≤ K := by
  have e := hcn_step h K
  rw [if_pos hk] at e
  rw [← e]
  exact hcn_le _ _ _ _
theorem hIx.fn {h : Nat → Int32} (hx : hIx h) : ∃ m : Nat → Nat, ∀ i, i < 20000 → m i < 20000 ∧ h i = nI (m i) := by
  classical
  refine ⟨fun i => if z : i < 20000 then (hx i z).choose else 0, fun i hi => ?_⟩
  dsimp only
  rw [dif_pos hi]
  exact (hx i hi).choose_spec
theorem hIx.upd {h : Nat → Int32} (hx : hIx h) {k m : Nat} (hm : m < 20000) : hIx (upd h k (nI m)) := fun i hi => by
  by_cases z : i = k
  · subst z
    exact ⟨m, hm, by rw [pk_us]⟩
  · rw [pk_un z]
    exact hx i hi
theorem hval_ix0 : ∀ k, k < 8 → -(nI 1) + -(hvI k) = nI k := by decide +kernel
theorem hval_ix (a : Nat) {k : Nat} (hk : k < 8) : nI a - nI 1 - hvI k = nI (a + k) := by
  rw [Int32.sub_eq_add_neg, Int32.sub_eq_add_neg, Int32.add_assoc, hval_ix0 k hk, nI_add]
theorem hplace {x : Int32} {ct : Nat} (h : x = (-1) ∨ ∃ q, q < ct ∧ x = nI q) : ∃ d, d ≤ ct ∧ x + nI 1 = nI d := by
  rcases h with h | ⟨q, h1, h2⟩
  · exact ⟨0, Nat.zero_le _, by rw [h]; decide +kernel⟩
  · exact ⟨q + 1, h1, by rw [h2]; exact nI_add _ _⟩
