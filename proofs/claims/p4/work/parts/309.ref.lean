set_option maxHeartbeats 4000000 in
set_option maxRecDepth 100000 in
/-- the reference: choose -/
theorem c_X9_choose (l : Launch) (D : va_G) (K : Nat → ClassId) (tv : Nat) (ws : va_W) (ad : Nat → Nat) (f : Nat → Nat → Int32) (ct pt md : Nat) (lz : Int64) (kp : Nat) (fd : Int32) (hrx : hRX K ad ws f ct pt md lz kp fd) (hp6 : pt ≤ 6) (hc6 : ct ≤ 640) (I : Nat → Nat → Nat) (hIt2 : ∀ p, p < pt → ∀ i, i < 3 → f 2 (3 * p + i) = hit (I p i) ∧ I p i < 72) : hV l D (hTy K) tv yX9_choose cX9_choose 5 none ({ frames := 5, cells := 0, slots := 0, locals := 300 }) [.ref (ad 0)] ws (fun ws1 => ∃ g lz1, hRX K ad ws1 g ct pt md lz1 kp fd ∧ (∀ k, k ≠ 4 → k ≠ 5 → k ≠ 6 → g k = f k) ∧ ∀ k, k < pt → ∃ q, q < pt ∧ g 6 k = nI q) := by
  intro sz
  refine Met.ofW (cc := cX9_choose) (maxL := 5) (ret := none) (by decide) rfl ?_
  intro p e s m args below meth c s₁ B hml hv0
  obtain ⟨rfl, rfl, E, hP, hD⟩ := hentry hv0
  have hx := B.exec
  have hb := B.bytes
  have hr := B.returns
  have hts := atoms_spec (ws := hC yX9_choose cX9_choose 5 none) B.pre
  have hown : s.vm.findClass RX9 = some m.cls := findClass_of_methodNamed B.named
  have hlocks := B.notSynchronized
  generalize hAe : va_A ws s.heap.size = A at hD E ⊢
  have hl := lv_entry ([.ref (ad 0)]) (n := 5) (Nat.le_of_ble_eq_true rfl)
  rw [lg_entry_eq]
  generalize (lg_sl ([.ref (ad 0)]) ++ List.replicate (5 - (lg_sl ([.ref (ad 0)])).length) Slot.unset).toArray = ls at hl ⊢
  have hl : lv_has ls 5 [(0, .ref (ad 0))] := hl
  refine hat0 (fun H hHe => ?_)
  have hP : va_P D vwCl ws H := by rw [hHe]; exact hP
  have hS : va_S A s.heap H [] := by rw [hHe]; exact va_S.rf
  refine lv_iconst (v := nI 0) hx hb dX9_choose_0 (by decide +kernel) ?_
  refine lv_istore_n (lv' := [(1, .int (nI 0)), (0, .ref (ad 0))]) hx hb dX9_choose_1 rfl hl (by decide) rfl (fun ls hl => ?_)
  refine hloopW (α := Nat) 2 5 (fun i => [(1, .int (nI i)), (0, .ref (ad 0))]) (fun i w9 => i ≤ 1536 ∧ ∃ a4, hRX K ad w9 (hup f 4 a4) ct pt md lz kp fd) (fun i => 1536 - i) (fun _ => 0) (fun _ => 0) ?_ 0 ⟨Nat.zero_le _, f 4, by rw [hup_id]; exact hrx⟩ hP hD hS (lv_sub hl [0, 1] rfl)
  intro i w9 H locs ls hI9 hP hD hS hl ih
  obtain ⟨hi, a4, hrx⟩ := hI9
  have hl : lv_has ls 5 [(1, .int (nI i)), (0, .ref (ad 0))] := hl
  have g0 := hrx.1
  have g4 : w9[4]? = some (ad 4, .inl (K 0, 1536, .inl ((hup f 4 a4) 4))) := hrx.2 4 (by decide) (by decide)
  refine lv_iload_n hx hb dX9_choose_2 rfl (lv_at hl 0 rfl) ?_
  refine lv_sipush (v := nI 1536) hx hb dX9_choose_3 (by decide +kernel) ?_
  refine lv_icmp_ge (tgt := 22) hx hb dX9_choose_6 (by decide) (fun c1 => ?_) (fun c1 => ?_)
  · clear ih
    refine lv_iconst (v := nI 0) hx hb dX9_choose_22 (by decide +kernel) ?_
    refine lv_istore_n (lv' := [(1, .int (nI 0)), (0, .ref (ad 0))]) hx hb dX9_choose_23 rfl hl (by decide) rfl (fun ls hl => ?_)
    refine hloopW (α := Nat) 24 5 (fun k => [(1, .int (nI k)), (0, .ref (ad 0))]) (fun k w9 => k ≤ pt ∧ ∃ a5, hRX K ad w9 (hup (hup f 4 a4) 5 a5) ct pt md lz kp fd ∧ ∀ j, j < k → a5 j = nI j) (fun k => pt - k) (fun _ => 0) (fun _ => 0) ?_ 0 ⟨Nat.zero_le _, (hup f 4 a4) 5, by rw [hup_id]; exact hrx, fun j hj => absurd hj (Nat.not_lt_zero _)⟩ hP hD hS (lv_sub hl [0, 1] rfl)
    intro k w9 H locs ls hI9 hP hD hS hl ih
    obtain ⟨hk, a5, hrx, ha5⟩ := hI9
    have hl : lv_has ls 5 [(1, .int (nI k)), (0, .ref (ad 0))] := hl
    have g0 := hrx.1
    have g5 : w9[5]? = some (ad 5, .inl (K 0, 6, .inl a5)) := hrx.2 5 (by decide) (by decide)
    refine lv_iload_n hx hb dX9_choose_24 rfl (lv_at hl 0 rfl) ?_
    refine lv_aload_n hx hb dX9_choose_25 rfl (lv_at hl 1 rfl) ?_
    refine va_get (v := .int (nI pt)) (C := RX9) (T := TX9) (N := 18) hx hb hts (hin_X9 hmc) hown E.1.1 hP 0 g0 rfl 3 (by decide) (hts _ (hmc _ k_572)) (fun _ h9 => h9) rfl dX9_choose_26 ?_
    refine lv_icmp_ge (tgt := 45) hx hb dX9_choose_29 (by decide) (fun c2 => ?_) (fun c2 => ?_)
    · clear ih
      have hkp : k = pt := by
        have := (nI_leI (by omega) (by omega)).mp c2
        omega
      refine lv_aload_n hx hb dX9_choose_45 rfl (lv_at hl 1 rfl) ?_
      refine lv_ldc2 (v := (-1)) hx hb hown (hts _ (hmc _ k_681)) dX9_choose_46 ?_
      refine va_put (v := .long (-1)) (ty := .long) (C := RX9) (T := TX9) (N := 18) hx hb hts (hin_X9 hmc) tyX9 tyX9_ok nmX9 hown E.1.1 hP hD hS 0 g0 rfl 9 (by decide) (hts _ (hmc _ k_578)) (fun _ h9 => h9) rfl (by decide +kernel) rfl rfl (Nat.le_of_ble_eq_true rfl) dX9_choose_49 (fun H locs hP hD hS => ?_)
      obtain ⟨ws1, ews1⟩ : ∃ zw : va_W, zw = List.set w9 0 ((ad 0), .inr (iM, [.ref (ad 1), .int (nI ct), .ref (ad 2), .int (nI pt), .ref (ad 3), .int (nI md), .ref (ad 4), .ref (ad 5), .ref (ad 6), .long (-1), .ref (ad 7), .ref (ad 8), .ref (ad 9), .ref (ad 10), .int (nI kp), .int fd, .ref (ad 11), .ref (ad 12)])) := ⟨_, rfl⟩
      have hP : va_P D vwCl ws1 H := by rw [ews1]; exact hP
      have hD : va_D A ws1 := by rw [ews1]; exact hD
      have g0 : ws1[0]? = some ((ad 0), .inr (iM, [.ref (ad 1), .int (nI ct), .ref (ad 2), .int (nI pt), .ref (ad 3), .int (nI md), .ref (ad 4), .ref (ad 5), .ref (ad 6), .long (-1), .ref (ad 7), .ref (ad 8), .ref (ad 9), .ref (ad 10), .int (nI kp), .int fd, .ref (ad 11), .ref (ad 12)])) := by rw [ews1]; exact hset_eq g0
      have g5 := (show ws1[5]? = _ from (by rw [ews1]; exact hset_ne (by omega))).trans g5
      have hrx : hRX K ad ws1 (hup (hup f 4 a4) 5 a5) ct pt md (-1) kp fd := by rw [ews1]; exact hrx.obj
      refine lv_iconst (v := nI 1) hx hb dX9_choose_52 (by decide +kernel) ?_
      refine lv_istore_n (lv' := [(1, .int (nI 1)), (0, .ref (ad 0))]) hx hb dX9_choose_53 rfl hl (by decide) rfl (fun ls hl => ?_)
      refine hloopW (α := Nat × Nat) 54 5 (fun y => [(1, .int (nI y.1)), (0, .ref (ad 0))]) (fun y w9 => ∃ g lz1 t, hRX K ad w9 g ct pt md lz1 kp fd ∧ (∀ k, k ≠ 4 → k ≠ 5 → k ≠ 6 → g k = f k) ∧ hAt5 (g 5) t pt ∧ hPm t pt ∧ y.2 = hVl t pt ∧ (y.1 = 0 ∨ y.1 = 1) ∧ (lz1 < 0 ∨ ∀ k, k < pt → ∃ q, q < pt ∧ g 6 k = nI q) ∧ (y.1 = 0 → ∀ k, k < pt → ∃ q, q < pt ∧ g 6 k = nI q)) (fun y => y.1 + 2 * (50000 - y.2)) (fun _ => 0) (fun _ => 0) ?_ (1, hVl (fun k => k) pt) ⟨_, (-1), fun k => k, hrx, fun k h4 h5 h6 => (if_neg h5).trans (if_neg h4), fun k hk => ha5 k (by omega), ⟨fun _ h => h, fun _ _ _ _ h => h⟩, rfl, Or.inr rfl, Or.inl (by decide +kernel), fun q => absurd q (show ¬ (1 : Nat) = 0 by decide)⟩ hP hD hS (lv_sub hl [0, 1] rfl)
      rintro ⟨gs, V⟩ w9 H locs ls hI9 hP hD hS hl ih
      obtain ⟨g, lz1, t, hrx, hfr, hat, hpm, hVe, hgs, hlv, hend⟩ := hI9
      dsimp only at hVe hgs hend ih
      have hl : lv_has ls 5 [(1, .int (nI gs)), (0, .ref (ad 0))] := hl
      have g0 := hrx.1
      have g5 : w9[5]? = some (ad 5, .inl (K 0, 6, .inl (g 5))) := hrx.2 5 (by decide) (by decide)
      refine lv_iload_n hx hb dX9_choose_54 rfl (lv_at hl 0 rfl) ?_
      refine lv_if_eq (tgt := 130) hx hb dX9_choose_55 (by decide) (fun c3 => ?_) (fun c3 => ?_)
      · have hg0 : gs = 0 := by
          rcases hgs with z | z
          · exact z
          · rw [z] at c3; exact absurd c3 (by decide +kernel)
        subst hAe
        exact W.vret hx hb hr (fun t ht _ => ⟨⟨w9, rfl, ⟨g, lz1, hrx, hfr, hend hg0⟩, by rw [ht]; exact hP, hD⟩, hS.F ht⟩) hS.2.2 dX9_choose_130
      · have hg1 : gs = 1 := by
          rcases hgs with z | z
          · rw [z] at c3; exact absurd rfl c3
          · exact z
        refine lv_aload_n hx hb dX9_choose_58 rfl (lv_at hl 1 rfl) ?_
        refine lv_aload_n hx hb dX9_choose_59 rfl (lv_at hl 1 rfl) ?_
        refine va_get (v := .ref (ad 5)) (C := RX9) (T := TX9) (N := 18) hx hb hts (hin_X9 hmc) hown E.1.1 hP 0 g0 rfl 7 (by decide) (hts _ (hmc _ k_576)) (fun _ h9 => h9) rfl dX9_choose_60 ?_
        refine hc_l E hD hS (va_runV (As := [.ref (ad 5)]) (rest := []) ⟨hx, hb, hml, hown, hts⟩ ((c_X9_costOf l D K tv w9 ad g ct pt md lz1 kp fd hrx hp6 hc6 I (fun p hp i hi => by rw [hfr 2 (by decide) (by decide) (by decide)]; exact hIt2 p hp i hi) (fun k hk => ⟨t k, hpm.1 k hk, hat k hk⟩)) H.size) (cwV 1 hts (hGV hmc k_682 k_684 k_9 k_29 k_685) rfl rfl rfl (by decide +kernel) ⟨Nat.le_of_ble_eq_true rfl, Nat.le_of_ble_eq_true rfl⟩) (hpreV E hP hD hS g0 rfl) rfl rfl hl.1 rfl (lv_room (Nat.le_of_ble_eq_true rfl)) dX9_choose_63 ⟨(Nat.le_refl _), (Nat.le_refl _)⟩) (fun r3 ws2 H locs hp hP hD hS => ?_)
        obtain ⟨f4, hrx⟩ := hp
        have g0 := hrx.1
        have g5 : ws2[5]? = some (ad 5, .inl (K 0, 6, .inl ((hup g 4 f4) 5))) := hrx.2 5 (by decide) (by decide)
        have g6 : ws2[6]? = some (ad 6, .inl (K 0, 6, .inl ((hup g 4 f4) 6))) := hrx.2 6 (by decide) (by decide)
        refine lv_lstore_n (lv' := [(2, .long r3), (1, .int (nI gs)), (0, .ref (ad 0))]) hx hb dX9_choose_66 rfl hl (by decide) rfl (fun ls hl => ?_)
        refine lv_aload_n hx hb dX9_choose_67 rfl (lv_at hl 2 rfl) ?_
        refine va_get (v := .long lz1) (C := RX9) (T := TX9) (N := 18) hx hb hts (hin_X9 hmc) hown E.1.1 hP 0 g0 rfl 9 (by decide) (hts _ (hmc _ k_578)) (fun _ h9 => h9) rfl dX9_choose_68 ?_
        refine lv_lconst (v := lN 0) hx hb dX9_choose_71 (by decide +kernel) ?_
        refine W.lcmp hx hb dX9_choose_72 ?_
        refine lv_if_lt (tgt := 85) hx hb dX9_choose_73 (by decide) (fun c4 => ?_) (fun c4 => ?_)
        · refine lv_aload_n hx hb dX9_choose_85 rfl (lv_at hl 2 rfl) ?_
          refine lv_lload_n hx hb dX9_choose_86 rfl (lv_at hl 0 rfl) ?_
          refine va_put (v := .long r3) (ty := .long) (C := RX9) (T := TX9) (N := 18) hx hb hts (hin_X9 hmc) tyX9 tyX9_ok nmX9 hown E.1.1 hP hD hS 0 g0 rfl 9 (by decide) (hts _ (hmc _ k_578)) (fun _ h9 => h9) rfl (by decide +kernel) rfl rfl (Nat.le_of_ble_eq_true rfl) dX9_choose_87 (fun H locs hP hD hS => ?_)
          obtain ⟨ws4, ews4⟩ : ∃ zw : va_W, zw = List.set ws2 0 ((ad 0), .inr (iM, [.ref (ad 1), .int (nI ct), .ref (ad 2), .int (nI pt), .ref (ad 3), .int (nI md), .ref (ad 4), .ref (ad 5), .ref (ad 6), .long r3, .ref (ad 7), .ref (ad 8), .ref (ad 9), .ref (ad 10), .int (nI kp), .int fd, .ref (ad 11), .ref (ad 12)])) := ⟨_, rfl⟩
          have hP : va_P D vwCl ws4 H := by rw [ews4]; exact hP
          have hD : va_D A ws4 := by rw [ews4]; exact hD
          have g0 : ws4[0]? = some ((ad 0), .inr (iM, [.ref (ad 1), .int (nI ct), .ref (ad 2), .int (nI pt), .ref (ad 3), .int (nI md), .ref (ad 4), .ref (ad 5), .ref (ad 6), .long r3, .ref (ad 7), .ref (ad 8), .ref (ad 9), .ref (ad 10), .int (nI kp), .int fd, .ref (ad 11), .ref (ad 12)])) := by rw [ews4]; exact hset_eq g0
          have g5 := (show ws4[5]? = _ from (by rw [ews4]; exact hset_ne (by omega))).trans g5
          have g6 := (show ws4[6]? = _ from (by rw [ews4]; exact hset_ne (by omega))).trans g6
          have hrx : hRX K ad ws4 (hup g 4 f4) ct pt md r3 kp fd := by rw [ews4]; exact hrx.obj
          refine lv_iconst (v := nI 0) hx hb dX9_choose_90 (by decide +kernel) ?_
          refine lv_istore (lv' := [(4, .int (nI 0)), (2, .long r3), (1, .int (nI gs)), (0, .ref (ad 0))]) hx hb dX9_choose_91 hl (by decide) rfl (fun ls hl => ?_)
          refine hloopW (α := Nat) 93 5 (fun k => [(4, .int (nI k)), (2, .long r3), (1, .int (nI gs)), (0, .ref (ad 0))]) (fun k w9 => k ≤ pt ∧ ∃ a6, hRX K ad w9 (hup (hup g 4 f4) 6 a6) ct pt md r3 kp fd ∧ ∀ j, j < k → a6 j = nI (t j)) (fun k => pt - k) (fun _ => 0) (fun _ => 0) ?_ 0 ⟨Nat.zero_le _, (hup g 4 f4) 6, by rw [hup_id]; exact hrx, fun j hj => absurd hj (Nat.not_lt_zero _)⟩ hP hD hS (lv_sub hl [0, 1, 2, 3] rfl)
          intro k w9 H locs ls hI9 hP hD hS hl ih4
          obtain ⟨hk, a6, hrx, ha6⟩ := hI9
          have hl : lv_has ls 5 [(4, .int (nI k)), (2, .long r3), (1, .int (nI gs)), (0, .ref (ad 0))] := hl
          have g0 := hrx.1
          have g5 : w9[5]? = some (ad 5, .inl (K 0, 6, .inl (g 5))) := hrx.2 5 (by decide) (by decide)
          have g6 : w9[6]? = some (ad 6, .inl (K 0, 6, .inl a6)) := hrx.2 6 (by decide) (by decide)
          refine lv_iload hx hb dX9_choose_93 (lv_at hl 0 rfl) ?_
          refine lv_aload_n hx hb dX9_choose_95 rfl (lv_at hl 3 rfl) ?_
          refine va_get (v := .int (nI pt)) (C := RX9) (T := TX9) (N := 18) hx hb hts (hin_X9 hmc) hown E.1.1 hP 0 g0 rfl 3 (by decide) (hts _ (hmc _ k_572)) (fun _ h9 => h9) rfl dX9_choose_96 ?_
          refine lv_icmp_ge (tgt := 122) hx hb dX9_choose_99 (by decide) (fun c7 => ?_) (fun c7 => ?_)
          · have hkp : k = pt := by
              have := (nI_leI (by omega) (by omega)).mp c7
              omega
            refine lv_aload_n hx hb dX9_choose_122 rfl (lv_at hl 3 rfl) ?_
            refine hc_i E hD hS (va_runV (As := []) (rest := []) ⟨hx, hb, hml, hown, hts⟩ ((c_X9_turn l D K tv w9 ad (hup (hup g 4 f4) 6 a6) ct pt md r3 kp fd hrx hp6 t hat hpm) H.size) (cwV 0 hts (hGV hmc k_699 k_701 k_12 k_29 k_702) rfl rfl rfl (by decide +kernel) ⟨Nat.le_of_ble_eq_true rfl, Nat.le_of_ble_eq_true rfl⟩) (hpreV E hP hD hS g0 rfl) rfl rfl hl.1 rfl (lv_room (Nat.le_of_ble_eq_true rfl)) dX9_choose_123 ⟨(Nat.le_refl _), (Nat.le_refl _)⟩) (fun r6 ws5 H locs hp hP hD hS => ?_)
            refine lv_istore_n (lv' := [(1, .int r6), (4, .int (nI k)), (2, .long r3), (0, .ref (ad 0))]) hx hb dX9_choose_126 rfl hl (by decide) rfl (fun ls hl => ?_)
            refine lv_goto (tgt := 54) hx hb dX9_choose_127 (by decide) ?_
            rcases hp with ⟨rfl, rfl⟩ | ⟨rfl, F1, t1, hrx, hat1, hpm1, hvl⟩
            · exact ih (0, V) _ H locs ls ⟨_, _, t, hrx, (fun k h4 h5 h6 => (show hup (hup g 4 f4) 6 a6 k = g k from (if_neg h6).trans (if_neg h4)).trans (hfr k h4 h5 h6)), hat, hpm, hVe, Or.inl rfl, Or.inr (fun q hq => ⟨t q, hpm.1 q hq, ha6 q (by omega)⟩), fun _ => (fun q hq => ⟨t q, hpm.1 q hq, ha6 q (by omega)⟩)⟩ (by show 0 + 2 * (50000 - V) < gs + 2 * (50000 - V); omega) hP hD hS (lv_sub hl [0, 3] rfl)
            · have hv6 := hVl_le (t := t1) pt (fun j hj => by have := hpm1.1 j hj; omega)
              have hp7 : 6 ^ pt ≤ 6 ^ 6 := Nat.pow_le_pow_right (by decide) hp6
              have hp8 : (6 : Nat) ^ 6 = 46656 := by decide
              exact ih (1, hVl t1 pt) _ H locs ls ⟨_, _, t1, hrx, fun k h4 h5 h6 => (if_neg h5).trans ((fun k h4 h5 h6 => (show hup (hup g 4 f4) 6 a6 k = g k from (if_neg h6).trans (if_neg h4)).trans (hfr k h4 h5 h6)) k h4 h5 h6), hat1, hpm1, rfl, Or.inr rfl, Or.inr (fun q hq => ⟨t q, hpm.1 q hq, ha6 q (by omega)⟩), fun _ => (fun q hq => ⟨t q, hpm.1 q hq, ha6 q (by omega)⟩)⟩ (by show 1 + 2 * (50000 - hVl t1 pt) < gs + 2 * (50000 - V); omega) hP hD hS (lv_sub hl [0, 3] rfl)
          · have hk2 : k < pt := Nat.not_le.mp (fun z => c7 (nI_le z (by omega)))
            refine lv_aload_n hx hb dX9_choose_102 rfl (lv_at hl 3 rfl) ?_
            refine va_get (v := .ref (ad 6)) (C := RX9) (T := TX9) (N := 18) hx hb hts (hin_X9 hmc) hown E.1.1 hP 0 g0 rfl 8 (by decide) (hts _ (hmc _ k_577)) (fun _ h9 => h9) rfl dX9_choose_103 ?_
            refine lv_iload hx hb dX9_choose_106 (lv_at hl 0 rfl) ?_
            refine lv_aload_n hx hb dX9_choose_108 rfl (lv_at hl 3 rfl) ?_
            refine va_get (v := .ref (ad 5)) (C := RX9) (T := TX9) (N := 18) hx hb hts (hin_X9 hmc) hown E.1.1 hP 0 g0 rfl 7 (by decide) (hts _ (hmc _ k_576)) (fun _ h9 => h9) rfl dX9_choose_109 ?_
            refine lv_iload hx hb dX9_choose_112 (lv_at hl 0 rfl) ?_
            refine va_iald hx hb E.1.1 hP 5 0 g5 rfl (vp_in_nI (by omega) (by omega)) dX9_choose_114 ?_
            refine htopi (v := (g 5) k) (by rw [nI_clamp (by omega)]) ?_
            refine htopi (v := nI (t k)) (hat k hk2) ?_
            refine va_iast hx hb E.1.1 hP hD hS 6 0 g6 rfl (vp_in_nI (by omega) (by omega)) dX9_choose_115 (fun H locs hP hD hS => ?_)
            rw [nI_clamp (show k < 2 ^ 31 by omega)] at hP hD
            obtain ⟨ws7, ews7⟩ : ∃ zw : va_W, zw = List.set w9 6 ((ad 6), .inl (K 0, 6, .inl (upd a6 k (nI (t k))))) := ⟨_, rfl⟩
            have hP : va_P D vwCl ws7 H := by rw [ews7]; exact hP
            have hD : va_D A ws7 := by rw [ews7]; exact hD
            have g0 := (show ws7[0]? = _ from (by rw [ews7]; exact hset_ne (by omega))).trans g0
            have g5 := (show ws7[5]? = _ from (by rw [ews7]; exact hset_ne (by omega))).trans g5
            have g6 : ws7[6]? = some ((ad 6), .inl (K 0, 6, .inl (upd a6 k (nI (t k))))) := by rw [ews7]; exact hset_eq g6
            have hrx : hRX K ad ws7 (hup (hup (hup g 4 f4) 6 a6) 6 (upd a6 k (nI (t k)))) ct pt md r3 kp fd := by rw [ews7]; exact hrx.arr 6 (by decide) (by decide) _
            refine lv_iinc (v := nI (k + 1)) (lv' := [(4, .int (nI (k + 1))), (2, .long r3), (1, .int (nI gs)), (0, .ref (ad 0))]) hx hb dX9_choose_116 hl (k := 0) rfl (nI_1 _) (by decide) rfl (fun ls hl => ?_)
            refine lv_goto (tgt := 93) hx hb dX9_choose_119 (by decide) ?_
            rw [hup_up] at hrx
            exact ih4 (k + 1) _ H locs ls ⟨by omega, _, hrx, fun j hj => by
                by_cases z : j = k
                · subst z; rw [pk_us]
                · rw [pk_un z]; exact ha6 j (by omega)⟩ (by omega) hP hD hS (lv_sub hl [0, 1, 2, 3] rfl)
        · have hval9 : ∀ k, k < pt → ∃ q, q < pt ∧ g 6 k = nI q := hlv.resolve_left (fun q => c4 ((lg_cmp_lt _ _).mpr q))
          refine lv_lload_n hx hb dX9_choose_76 rfl (lv_at hl 0 rfl) ?_
          refine lv_aload_n hx hb dX9_choose_77 rfl (lv_at hl 2 rfl) ?_
          refine va_get (v := .long lz1) (C := RX9) (T := TX9) (N := 18) hx hb hts (hin_X9 hmc) hown E.1.1 hP 0 g0 rfl 9 (by decide) (hts _ (hmc _ k_578)) (fun _ h9 => h9) rfl dX9_choose_78 ?_
          refine W.lcmp hx hb dX9_choose_81 ?_
          refine lv_if_ge (tgt := 122) hx hb dX9_choose_82 (by decide) (fun c5 => ?_) (fun c5 => ?_)
          · refine lv_aload_n hx hb dX9_choose_122 rfl (lv_at hl 2 rfl) ?_
            refine hc_i E hD hS (va_runV (As := []) (rest := []) ⟨hx, hb, hml, hown, hts⟩ ((c_X9_turn l D K tv ws2 ad (hup g 4 f4) ct pt md lz1 kp fd hrx hp6 t hat hpm) H.size) (cwV 0 hts (hGV hmc k_699 k_701 k_12 k_29 k_702) rfl rfl rfl (by decide +kernel) ⟨Nat.le_of_ble_eq_true rfl, Nat.le_of_ble_eq_true rfl⟩) (hpreV E hP hD hS g0 rfl) rfl rfl hl.1 rfl (lv_room (Nat.le_of_ble_eq_true rfl)) dX9_choose_123 ⟨(Nat.le_refl _), (Nat.le_refl _)⟩) (fun r9 ws8 H locs hp hP hD hS => ?_)
            refine lv_istore_n (lv' := [(1, .int r9), (2, .long r3), (0, .ref (ad 0))]) hx hb dX9_choose_126 rfl hl (by decide) rfl (fun ls hl => ?_)
            refine lv_goto (tgt := 54) hx hb dX9_choose_127 (by decide) ?_
            rcases hp with ⟨rfl, rfl⟩ | ⟨rfl, F1, t1, hrx, hat1, hpm1, hvl⟩
            · exact ih (0, V) _ H locs ls ⟨_, _, t, hrx, (fun k h4 h5 h6 => (show hup g 4 f4 k = g k from if_neg h4).trans (hfr k h4 h5 h6)), hat, hpm, hVe, Or.inl rfl, Or.inr (fun q hq => hval9 q hq), fun _ => (fun q hq => hval9 q hq)⟩ (by show 0 + 2 * (50000 - V) < gs + 2 * (50000 - V); omega) hP hD hS (lv_sub hl [0, 2] rfl)
            · have hv6 := hVl_le (t := t1) pt (fun j hj => by have := hpm1.1 j hj; omega)
              have hp7 : 6 ^ pt ≤ 6 ^ 6 := Nat.pow_le_pow_right (by decide) hp6
              have hp8 : (6 : Nat) ^ 6 = 46656 := by decide
              exact ih (1, hVl t1 pt) _ H locs ls ⟨_, _, t1, hrx, fun k h4 h5 h6 => (if_neg h5).trans ((fun k h4 h5 h6 => (show hup g 4 f4 k = g k from if_neg h4).trans (hfr k h4 h5 h6)) k h4 h5 h6), hat1, hpm1, rfl, Or.inr rfl, Or.inr (fun q hq => hval9 q hq), fun _ => (fun q hq => hval9 q hq)⟩ (by show 1 + 2 * (50000 - hVl t1 pt) < gs + 2 * (50000 - V); omega) hP hD hS (lv_sub hl [0, 2] rfl)
          · refine lv_aload_n hx hb dX9_choose_85 rfl (lv_at hl 2 rfl) ?_
            refine lv_lload_n hx hb dX9_choose_86 rfl (lv_at hl 0 rfl) ?_
            refine va_put (v := .long r3) (ty := .long) (C := RX9) (T := TX9) (N := 18) hx hb hts (hin_X9 hmc) tyX9 tyX9_ok nmX9 hown E.1.1 hP hD hS 0 g0 rfl 9 (by decide) (hts _ (hmc _ k_578)) (fun _ h9 => h9) rfl (by decide +kernel) rfl rfl (Nat.le_of_ble_eq_true rfl) dX9_choose_87 (fun H locs hP hD hS => ?_)
            obtain ⟨ws10, ews10⟩ : ∃ zw : va_W, zw = List.set ws2 0 ((ad 0), .inr (iM, [.ref (ad 1), .int (nI ct), .ref (ad 2), .int (nI pt), .ref (ad 3), .int (nI md), .ref (ad 4), .ref (ad 5), .ref (ad 6), .long r3, .ref (ad 7), .ref (ad 8), .ref (ad 9), .ref (ad 10), .int (nI kp), .int fd, .ref (ad 11), .ref (ad 12)])) := ⟨_, rfl⟩
            have hP : va_P D vwCl ws10 H := by rw [ews10]; exact hP
            have hD : va_D A ws10 := by rw [ews10]; exact hD
            have g0 : ws10[0]? = some ((ad 0), .inr (iM, [.ref (ad 1), .int (nI ct), .ref (ad 2), .int (nI pt), .ref (ad 3), .int (nI md), .ref (ad 4), .ref (ad 5), .ref (ad 6), .long r3, .ref (ad 7), .ref (ad 8), .ref (ad 9), .ref (ad 10), .int (nI kp), .int fd, .ref (ad 11), .ref (ad 12)])) := by rw [ews10]; exact hset_eq g0
            have g5 := (show ws10[5]? = _ from (by rw [ews10]; exact hset_ne (by omega))).trans g5
            have g6 := (show ws10[6]? = _ from (by rw [ews10]; exact hset_ne (by omega))).trans g6
            have hrx : hRX K ad ws10 (hup g 4 f4) ct pt md r3 kp fd := by rw [ews10]; exact hrx.obj
            refine lv_iconst (v := nI 0) hx hb dX9_choose_90 (by decide +kernel) ?_
            refine lv_istore (lv' := [(4, .int (nI 0)), (2, .long r3), (1, .int (nI gs)), (0, .ref (ad 0))]) hx hb dX9_choose_91 hl (by decide) rfl (fun ls hl => ?_)
            refine hloopW (α := Nat) 93 5 (fun k => [(4, .int (nI k)), (2, .long r3), (1, .int (nI gs)), (0, .ref (ad 0))]) (fun k w9 => k ≤ pt ∧ ∃ a6, hRX K ad w9 (hup (hup g 4 f4) 6 a6) ct pt md r3 kp fd ∧ ∀ j, j < k → a6 j = nI (t j)) (fun k => pt - k) (fun _ => 0) (fun _ => 0) ?_ 0 ⟨Nat.zero_le _, (hup g 4 f4) 6, by rw [hup_id]; exact hrx, fun j hj => absurd hj (Nat.not_lt_zero _)⟩ hP hD hS (lv_sub hl [0, 1, 2, 3] rfl)
            intro k w9 H locs ls hI9 hP hD hS hl ih4
            obtain ⟨hk, a6, hrx, ha6⟩ := hI9
            have hl : lv_has ls 5 [(4, .int (nI k)), (2, .long r3), (1, .int (nI gs)), (0, .ref (ad 0))] := hl
            have g0 := hrx.1
            have g5 : w9[5]? = some (ad 5, .inl (K 0, 6, .inl (g 5))) := hrx.2 5 (by decide) (by decide)
            have g6 : w9[6]? = some (ad 6, .inl (K 0, 6, .inl a6)) := hrx.2 6 (by decide) (by decide)
            refine lv_iload hx hb dX9_choose_93 (lv_at hl 0 rfl) ?_
            refine lv_aload_n hx hb dX9_choose_95 rfl (lv_at hl 3 rfl) ?_
            refine va_get (v := .int (nI pt)) (C := RX9) (T := TX9) (N := 18) hx hb hts (hin_X9 hmc) hown E.1.1 hP 0 g0 rfl 3 (by decide) (hts _ (hmc _ k_572)) (fun _ h9 => h9) rfl dX9_choose_96 ?_
            refine lv_icmp_ge (tgt := 122) hx hb dX9_choose_99 (by decide) (fun c7 => ?_) (fun c7 => ?_)
            · have hkp : k = pt := by
                have := (nI_leI (by omega) (by omega)).mp c7
                omega
              refine lv_aload_n hx hb dX9_choose_122 rfl (lv_at hl 3 rfl) ?_
              refine hc_i E hD hS (va_runV (As := []) (rest := []) ⟨hx, hb, hml, hown, hts⟩ ((c_X9_turn l D K tv w9 ad (hup (hup g 4 f4) 6 a6) ct pt md r3 kp fd hrx hp6 t hat hpm) H.size) (cwV 0 hts (hGV hmc k_699 k_701 k_12 k_29 k_702) rfl rfl rfl (by decide +kernel) ⟨Nat.le_of_ble_eq_true rfl, Nat.le_of_ble_eq_true rfl⟩) (hpreV E hP hD hS g0 rfl) rfl rfl hl.1 rfl (lv_room (Nat.le_of_ble_eq_true rfl)) dX9_choose_123 ⟨(Nat.le_refl _), (Nat.le_refl _)⟩) (fun r12 ws11 H locs hp hP hD hS => ?_)
              refine lv_istore_n (lv' := [(1, .int r12), (4, .int (nI k)), (2, .long r3), (0, .ref (ad 0))]) hx hb dX9_choose_126 rfl hl (by decide) rfl (fun ls hl => ?_)
              refine lv_goto (tgt := 54) hx hb dX9_choose_127 (by decide) ?_
              rcases hp with ⟨rfl, rfl⟩ | ⟨rfl, F1, t1, hrx, hat1, hpm1, hvl⟩
              · exact ih (0, V) _ H locs ls ⟨_, _, t, hrx, (fun k h4 h5 h6 => (show hup (hup g 4 f4) 6 a6 k = g k from (if_neg h6).trans (if_neg h4)).trans (hfr k h4 h5 h6)), hat, hpm, hVe, Or.inl rfl, Or.inr (fun q hq => ⟨t q, hpm.1 q hq, ha6 q (by omega)⟩), fun _ => (fun q hq => ⟨t q, hpm.1 q hq, ha6 q (by omega)⟩)⟩ (by show 0 + 2 * (50000 - V) < gs + 2 * (50000 - V); omega) hP hD hS (lv_sub hl [0, 3] rfl)
              · have hv6 := hVl_le (t := t1) pt (fun j hj => by have := hpm1.1 j hj; omega)
                have hp7 : 6 ^ pt ≤ 6 ^ 6 := Nat.pow_le_pow_right (by decide) hp6
                have hp8 : (6 : Nat) ^ 6 = 46656 := by decide
                exact ih (1, hVl t1 pt) _ H locs ls ⟨_, _, t1, hrx, fun k h4 h5 h6 => (if_neg h5).trans ((fun k h4 h5 h6 => (show hup (hup g 4 f4) 6 a6 k = g k from (if_neg h6).trans (if_neg h4)).trans (hfr k h4 h5 h6)) k h4 h5 h6), hat1, hpm1, rfl, Or.inr rfl, Or.inr (fun q hq => ⟨t q, hpm.1 q hq, ha6 q (by omega)⟩), fun _ => (fun q hq => ⟨t q, hpm.1 q hq, ha6 q (by omega)⟩)⟩ (by show 1 + 2 * (50000 - hVl t1 pt) < gs + 2 * (50000 - V); omega) hP hD hS (lv_sub hl [0, 3] rfl)
            · have hk2 : k < pt := Nat.not_le.mp (fun z => c7 (nI_le z (by omega)))
              refine lv_aload_n hx hb dX9_choose_102 rfl (lv_at hl 3 rfl) ?_
              refine va_get (v := .ref (ad 6)) (C := RX9) (T := TX9) (N := 18) hx hb hts (hin_X9 hmc) hown E.1.1 hP 0 g0 rfl 8 (by decide) (hts _ (hmc _ k_577)) (fun _ h9 => h9) rfl dX9_choose_103 ?_
              refine lv_iload hx hb dX9_choose_106 (lv_at hl 0 rfl) ?_
              refine lv_aload_n hx hb dX9_choose_108 rfl (lv_at hl 3 rfl) ?_
              refine va_get (v := .ref (ad 5)) (C := RX9) (T := TX9) (N := 18) hx hb hts (hin_X9 hmc) hown E.1.1 hP 0 g0 rfl 7 (by decide) (hts _ (hmc _ k_576)) (fun _ h9 => h9) rfl dX9_choose_109 ?_
              refine lv_iload hx hb dX9_choose_112 (lv_at hl 0 rfl) ?_
              refine va_iald hx hb E.1.1 hP 5 0 g5 rfl (vp_in_nI (by omega) (by omega)) dX9_choose_114 ?_
              refine htopi (v := (g 5) k) (by rw [nI_clamp (by omega)]) ?_
              refine htopi (v := nI (t k)) (hat k hk2) ?_
              refine va_iast hx hb E.1.1 hP hD hS 6 0 g6 rfl (vp_in_nI (by omega) (by omega)) dX9_choose_115 (fun H locs hP hD hS => ?_)
              rw [nI_clamp (show k < 2 ^ 31 by omega)] at hP hD
              obtain ⟨ws13, ews13⟩ : ∃ zw : va_W, zw = List.set w9 6 ((ad 6), .inl (K 0, 6, .inl (upd a6 k (nI (t k))))) := ⟨_, rfl⟩
              have hP : va_P D vwCl ws13 H := by rw [ews13]; exact hP
              have hD : va_D A ws13 := by rw [ews13]; exact hD
              have g0 := (show ws13[0]? = _ from (by rw [ews13]; exact hset_ne (by omega))).trans g0
              have g5 := (show ws13[5]? = _ from (by rw [ews13]; exact hset_ne (by omega))).trans g5
              have g6 : ws13[6]? = some ((ad 6), .inl (K 0, 6, .inl (upd a6 k (nI (t k))))) := by rw [ews13]; exact hset_eq g6
              have hrx : hRX K ad ws13 (hup (hup (hup g 4 f4) 6 a6) 6 (upd a6 k (nI (t k)))) ct pt md r3 kp fd := by rw [ews13]; exact hrx.arr 6 (by decide) (by decide) _
              refine lv_iinc (v := nI (k + 1)) (lv' := [(4, .int (nI (k + 1))), (2, .long r3), (1, .int (nI gs)), (0, .ref (ad 0))]) hx hb dX9_choose_116 hl (k := 0) rfl (nI_1 _) (by decide) rfl (fun ls hl => ?_)
              refine lv_goto (tgt := 93) hx hb dX9_choose_119 (by decide) ?_
              rw [hup_up] at hrx
              exact ih4 (k + 1) _ H locs ls ⟨by omega, _, hrx, fun j hj => by
                  by_cases z : j = k
                  · subst z; rw [pk_us]
                  · rw [pk_un z]; exact ha6 j (by omega)⟩ (by omega) hP hD hS (lv_sub hl [0, 1, 2, 3] rfl)
    · have hk2 : k < pt := Nat.not_le.mp (fun z => c2 (nI_le z (by omega)))
      refine lv_aload_n hx hb dX9_choose_32 rfl (lv_at hl 1 rfl) ?_
      refine va_get (v := .ref (ad 5)) (C := RX9) (T := TX9) (N := 18) hx hb hts (hin_X9 hmc) hown E.1.1 hP 0 g0 rfl 7 (by decide) (hts _ (hmc _ k_576)) (fun _ h9 => h9) rfl dX9_choose_33 ?_
      refine lv_iload_n hx hb dX9_choose_36 rfl (lv_at hl 0 rfl) ?_
      refine lv_iload_n hx hb dX9_choose_37 rfl (lv_at hl 0 rfl) ?_
      refine va_iast hx hb E.1.1 hP hD hS 5 0 g5 rfl (vp_in_nI (by omega) (by omega)) dX9_choose_38 (fun H locs hP hD hS => ?_)
      rw [nI_clamp (show k < 2 ^ 31 by omega)] at hP hD
      obtain ⟨ws14, ews14⟩ : ∃ zw : va_W, zw = List.set w9 5 ((ad 5), .inl (K 0, 6, .inl (upd a5 k (nI k)))) := ⟨_, rfl⟩
      have hP : va_P D vwCl ws14 H := by rw [ews14]; exact hP
      have hD : va_D A ws14 := by rw [ews14]; exact hD
      have g0 := (show ws14[0]? = _ from (by rw [ews14]; exact hset_ne (by omega))).trans g0
      have g5 : ws14[5]? = some ((ad 5), .inl (K 0, 6, .inl (upd a5 k (nI k)))) := by rw [ews14]; exact hset_eq g5
      have hrx : hRX K ad ws14 (hup (hup (hup f 4 a4) 5 a5) 5 (upd a5 k (nI k))) ct pt md lz kp fd := by rw [ews14]; exact hrx.arr 5 (by decide) (by decide) _
      refine lv_iinc (v := nI (k + 1)) (lv' := [(1, .int (nI (k + 1))), (0, .ref (ad 0))]) hx hb dX9_choose_39 hl (k := 0) rfl (nI_1 _) (by decide) rfl (fun ls hl => ?_)
      refine lv_goto (tgt := 24) hx hb dX9_choose_42 (by decide) ?_
      rw [hup_up] at hrx
      exact ih (k + 1) _ H locs ls ⟨by omega, _, hrx, fun j hj => by
          by_cases z : j = k
          · subst z; rw [pk_us]
          · rw [pk_un z]; exact ha5 j (by omega)⟩ (by omega) hP hD hS (lv_sub hl [0, 1] rfl)
  · have hi2 : i < 1536 := Nat.not_le.mp (fun z => c1 (nI_le z (by omega)))
    refine lv_aload_n hx hb dX9_choose_9 rfl (lv_at hl 1 rfl) ?_
    refine va_get (v := .ref (ad 4)) (C := RX9) (T := TX9) (N := 18) hx hb hts (hin_X9 hmc) hown E.1.1 hP 0 g0 rfl 6 (by decide) (hts _ (hmc _ k_575)) (fun _ h9 => h9) rfl dX9_choose_10 ?_
    refine lv_iload_n hx hb dX9_choose_13 rfl (lv_at hl 0 rfl) ?_
    refine lv_iconst (v := (-1)) hx hb dX9_choose_14 (by decide +kernel) ?_
    refine va_iast hx hb E.1.1 hP hD hS 4 0 g4 rfl (vp_in_nI (by omega) (by omega)) dX9_choose_15 (fun H locs hP hD hS => ?_)
    rw [nI_clamp (show i < 2 ^ 31 by omega)] at hP hD
    obtain ⟨ws15, ews15⟩ : ∃ zw : va_W, zw = List.set w9 4 ((ad 4), .inl (K 0, 1536, .inl (upd ((hup f 4 a4) 4) i (-1)))) := ⟨_, rfl⟩
    have hP : va_P D vwCl ws15 H := by rw [ews15]; exact hP
    have hD : va_D A ws15 := by rw [ews15]; exact hD
    have g0 := (show ws15[0]? = _ from (by rw [ews15]; exact hset_ne (by omega))).trans g0
    have g4 : ws15[4]? = some ((ad 4), .inl (K 0, 1536, .inl (upd ((hup f 4 a4) 4) i (-1)))) := by rw [ews15]; exact hset_eq g4
    have hrx : hRX K ad ws15 (hup (hup f 4 a4) 4 (upd ((hup f 4 a4) 4) i (-1))) ct pt md lz kp fd := by rw [ews15]; exact hrx.arr 4 (by decide) (by decide) _
    refine lv_iinc (v := nI (i + 1)) (lv' := [(1, .int (nI (i + 1))), (0, .ref (ad 0))]) hx hb dX9_choose_16 hl (k := 0) rfl (nI_1 _) (by decide) rfl (fun ls hl => ?_)
    refine lv_goto (tgt := 2) hx hb dX9_choose_19 (by decide) ?_
    rw [hup_up] at hrx
    exact ih (i + 1) _ H locs ls ⟨by omega, _, hrx⟩ (by omega) hP hD hS (lv_sub hl [0, 1] rfl)
