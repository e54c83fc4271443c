set_option maxHeartbeats 4000000 in
set_option maxRecDepth 100000 in
/-- the reference, fresh: choose -/
theorem c_X9_choose (l : Launch) (D : va_G) (K : Nat → ClassId) (tv : Nat) (ws : va_W) (ad : Nat → Nat) (lz : Int64) (kp : Nat) (fd : Int32) (hm : hMs K ad ws lz kp fd) : hV l D (hTy K) tv yX9_choose cX9_choose 5 none ({ frames := 1, cells := 0, slots := 0, locals := 60 }) [.ref (ad 0)] ws (fun ws1 => hMs K ad ws1 (lN 0) kp fd) := by
  intro sz
  refine Met.ofW (cc := cX9_choose) (maxL := 5) (ret := none) (by decide) rfl ?_
  intro p e s m args below meth c s₁ B hml hv0
  obtain ⟨rfl, rfl, E, hP, hD⟩ := hentry hv0
  have hx := B.exec
  have hb := B.bytes
  have hr := B.returns
  have hts := atoms_spec (ws := hC yX9_choose cX9_choose 5 none) B.pre
  have hown : s.vm.findClass RX9 = some m.cls := findClass_of_methodNamed B.named
  have hlocks := B.notSynchronized
  generalize hAe : va_A ws s.heap.size = A at hD E ⊢
  have hl := lv_entry ([.ref (ad 0)]) (n := 5) (Nat.le_of_ble_eq_true rfl)
  rw [lg_entry_eq]
  generalize (lg_sl ([.ref (ad 0)]) ++ List.replicate (5 - (lg_sl ([.ref (ad 0)])).length) Slot.unset).toArray = ls at hl ⊢
  have hl : lv_has ls 5 [(0, .ref (ad 0))] := hl
  refine hat0 (fun H hHe => ?_)
  have hP : va_P D vwCl ws H := by rw [hHe]; exact hP
  have hS : va_S A s.heap H [] := by rw [hHe]; exact va_S.rf
  obtain ⟨g0, ⟨f1, g1⟩, ⟨f2, g2⟩, ⟨f3, g3⟩, ⟨f4, g4⟩, ⟨f5, g5⟩, ⟨f6, g6⟩, ⟨f7, g7⟩, ⟨f8, g8, z8⟩, ⟨f9, g9⟩, ⟨f10, g10⟩, ⟨f11, g11, z11⟩, ⟨f12, g12, z12⟩⟩ := id hm
  refine lv_iconst (v := nI 0) hx hb dX9_choose_0 (by decide +kernel) ?_
  refine lv_istore_n (lv' := [(1, .int (nI 0)), (0, .ref (ad 0))]) hx hb dX9_choose_1 rfl hl (by decide) rfl (fun ls hl => ?_)
  refine hloopW (α := Nat) 2 5 (fun i => [(1, .int (nI i)), (0, .ref (ad 0))]) (fun i w1 => i ≤ 1536 ∧ hMs K ad w1 lz kp fd) (fun i => 1536 - i) (fun _ => 0) (fun _ => 0) ?_ 0 ⟨by decide, ⟨g0, ⟨_, g1⟩, ⟨_, g2⟩, ⟨_, g3⟩, ⟨_, g4⟩, ⟨_, g5⟩, ⟨_, g6⟩, ⟨_, g7⟩, ⟨_, g8, z8⟩, ⟨_, g9⟩, ⟨_, g10⟩, ⟨_, g11, z11⟩, ⟨_, g12, z12⟩⟩⟩ hP hD hS (lv_sub hl [0, 1] rfl)
  intro i w1 H locs ls hI1 hP hD hS hl ih
  obtain ⟨hi, hm1⟩ := hI1
  have hl : lv_has ls 5 [(1, .int (nI i)), (0, .ref (ad 0))] := hl
  obtain ⟨g0, ⟨f1, g1⟩, ⟨f2, g2⟩, ⟨f3, g3⟩, ⟨f4, g4⟩, ⟨f5, g5⟩, ⟨f6, g6⟩, ⟨f7, g7⟩, ⟨f8, g8, z8⟩, ⟨f9, g9⟩, ⟨f10, g10⟩, ⟨f11, g11, z11⟩, ⟨f12, g12, z12⟩⟩ := id hm1
  refine lv_iload_n hx hb dX9_choose_2 rfl (lv_at hl 0 rfl) ?_
  refine lv_sipush (v := nI 1536) hx hb dX9_choose_3 (by decide +kernel) ?_
  refine lv_icmp_ge (tgt := 22) hx hb dX9_choose_6 (by decide) (fun c1 => ?_) (fun c1 => ?_)
  · refine lv_iconst (v := nI 0) hx hb dX9_choose_22 (by decide +kernel) ?_
    refine lv_istore_n (lv' := [(1, .int (nI 0)), (0, .ref (ad 0))]) hx hb dX9_choose_23 rfl hl (by decide) rfl (fun ls hl => ?_)
    refine lv_iload_n hx hb dX9_choose_24 rfl (lv_at hl 0 rfl) ?_
    refine lv_aload_n hx hb dX9_choose_25 rfl (lv_at hl 1 rfl) ?_
    refine va_get (v := .int (nI 0)) (C := RX9) (T := TX9) (N := 18) hx hb hts (hin_X9 hmc) hown E.1.1 hP 0 g0 rfl 3 (by decide) (hts _ (hmc _ k_572)) (fun _ h9 => h9) rfl dX9_choose_26 ?_
    refine lv_icmp_ge (tgt := 45) hx hb dX9_choose_29 (by decide) (fun c2 => ?_) (fun c2 => ?_)
    · refine lv_aload_n hx hb dX9_choose_45 rfl (lv_at hl 1 rfl) ?_
      refine lv_ldc2 (v := (-1)) hx hb hown (hts _ (hmc _ k_681)) dX9_choose_46 ?_
      refine va_put (v := .long (-1)) (ty := .long) (C := RX9) (T := TX9) (N := 18) hx hb hts (hin_X9 hmc) tyX9 tyX9_ok nmX9 hown E.1.1 hP hD hS 0 g0 rfl 9 (by decide) (hts _ (hmc _ k_578)) (fun _ h9 => h9) rfl (by decide +kernel) rfl rfl (Nat.le_of_ble_eq_true rfl) dX9_choose_49 (fun H locs hP hD hS => ?_)
      obtain ⟨ws1, ews1⟩ : ∃ zw : va_W, zw = List.set w1 0 ((ad 0), .inr (iM, [.ref (ad 1), .int (nI 0), .ref (ad 2), .int (nI 0), .ref (ad 3), .int (nI 0), .ref (ad 4), .ref (ad 5), .ref (ad 6), .long (-1), .ref (ad 7), .ref (ad 8), .ref (ad 9), .ref (ad 10), .int (nI kp), .int fd, .ref (ad 11), .ref (ad 12)])) := ⟨_, rfl⟩
      have hP : va_P D vwCl ws1 H := by rw [ews1]; exact hP
      have hD : va_D A ws1 := by rw [ews1]; exact hD
      have g0 : ws1[0]? = some ((ad 0), .inr (iM, [.ref (ad 1), .int (nI 0), .ref (ad 2), .int (nI 0), .ref (ad 3), .int (nI 0), .ref (ad 4), .ref (ad 5), .ref (ad 6), .long (-1), .ref (ad 7), .ref (ad 8), .ref (ad 9), .ref (ad 10), .int (nI kp), .int fd, .ref (ad 11), .ref (ad 12)])) := by rw [ews1]; exact hset_eq g0
      have g1 := (show ws1[1]? = _ from (by rw [ews1]; exact hset_ne (by omega))).trans g1
      have g2 := (show ws1[2]? = _ from (by rw [ews1]; exact hset_ne (by omega))).trans g2
      have g3 := (show ws1[3]? = _ from (by rw [ews1]; exact hset_ne (by omega))).trans g3
      have g4 := (show ws1[4]? = _ from (by rw [ews1]; exact hset_ne (by omega))).trans g4
      have g5 := (show ws1[5]? = _ from (by rw [ews1]; exact hset_ne (by omega))).trans g5
      have g6 := (show ws1[6]? = _ from (by rw [ews1]; exact hset_ne (by omega))).trans g6
      have g7 := (show ws1[7]? = _ from (by rw [ews1]; exact hset_ne (by omega))).trans g7
      have g8 := (show ws1[8]? = _ from (by rw [ews1]; exact hset_ne (by omega))).trans g8
      have g9 := (show ws1[9]? = _ from (by rw [ews1]; exact hset_ne (by omega))).trans g9
      have g10 := (show ws1[10]? = _ from (by rw [ews1]; exact hset_ne (by omega))).trans g10
      have g11 := (show ws1[11]? = _ from (by rw [ews1]; exact hset_ne (by omega))).trans g11
      have g12 := (show ws1[12]? = _ from (by rw [ews1]; exact hset_ne (by omega))).trans g12
      refine lv_iconst (v := nI 1) hx hb dX9_choose_52 (by decide +kernel) ?_
      refine lv_istore_n (lv' := [(1, .int (nI 1)), (0, .ref (ad 0))]) hx hb dX9_choose_53 rfl hl (by decide) rfl (fun ls hl => ?_)
      refine lv_iload_n hx hb dX9_choose_54 rfl (lv_at hl 0 rfl) ?_
      refine lv_if_eq (tgt := 130) hx hb dX9_choose_55 (by decide) (fun c3 => ?_) (fun c3 => ?_)
      · first | exact absurd c3 (by decide +kernel) | exact absurd (by decide +kernel) c3
      · refine lv_aload_n hx hb dX9_choose_58 rfl (lv_at hl 1 rfl) ?_
        refine lv_aload_n hx hb dX9_choose_59 rfl (lv_at hl 1 rfl) ?_
        refine va_get (v := .ref (ad 5)) (C := RX9) (T := TX9) (N := 18) hx hb hts (hin_X9 hmc) hown E.1.1 hP 0 g0 rfl 7 (by decide) (hts _ (hmc _ k_576)) (fun _ h9 => h9) rfl dX9_choose_60 ?_
        have hm2 : hMs K ad ws1 (-1) kp fd := ⟨g0, ⟨_, g1⟩, ⟨_, g2⟩, ⟨_, g3⟩, ⟨_, g4⟩, ⟨_, g5⟩, ⟨_, g6⟩, ⟨_, g7⟩, ⟨_, g8, z8⟩, ⟨_, g9⟩, ⟨_, g10⟩, ⟨_, g11, z11⟩, ⟨_, g12, z12⟩⟩
        refine hc_l E hD hS (va_runV (As := [.ref (ad 5)]) (rest := []) ⟨hx, hb, hml, hown, hts⟩ ((c_X9_costOf l D K tv ws1 ad (-1) kp fd hm2) H.size) (cwV 1 hts (hGV hmc k_682 k_684 k_9 k_29 k_685) rfl rfl rfl (by decide +kernel) ⟨Nat.le_of_ble_eq_true rfl, Nat.le_of_ble_eq_true rfl⟩) (hpreV E hP hD hS g0 rfl) rfl rfl hl.1 rfl (lv_room (Nat.le_of_ble_eq_true rfl)) dX9_choose_63 ⟨(Nat.le_refl _), (Nat.le_refl _)⟩) (fun r3 ws2 H locs hp hP hD hS => ?_)
        obtain ⟨rfl, rfl⟩ := hp
        refine lv_lstore_n (lv' := [(2, .long (lN 0)), (1, .int (nI 1)), (0, .ref (ad 0))]) hx hb dX9_choose_66 rfl hl (by decide) rfl (fun ls hl => ?_)
        refine lv_aload_n hx hb dX9_choose_67 rfl (lv_at hl 2 rfl) ?_
        refine va_get (v := .long (-1)) (C := RX9) (T := TX9) (N := 18) hx hb hts (hin_X9 hmc) hown E.1.1 hP 0 g0 rfl 9 (by decide) (hts _ (hmc _ k_578)) (fun _ h9 => h9) rfl dX9_choose_68 ?_
        refine lv_lconst (v := lN 0) hx hb dX9_choose_71 (by decide +kernel) ?_
        refine W.lcmp hx hb dX9_choose_72 ?_
        refine lv_if_lt (tgt := 85) hx hb dX9_choose_73 (by decide) (fun c4 => ?_) (fun c4 => ?_)
        · refine lv_aload_n hx hb dX9_choose_85 rfl (lv_at hl 2 rfl) ?_
          refine lv_lload_n hx hb dX9_choose_86 rfl (lv_at hl 0 rfl) ?_
          refine va_put (v := .long (lN 0)) (ty := .long) (C := RX9) (T := TX9) (N := 18) hx hb hts (hin_X9 hmc) tyX9 tyX9_ok nmX9 hown E.1.1 hP hD hS 0 g0 rfl 9 (by decide) (hts _ (hmc _ k_578)) (fun _ h9 => h9) rfl (by decide +kernel) rfl rfl (Nat.le_of_ble_eq_true rfl) dX9_choose_87 (fun H locs hP hD hS => ?_)
          obtain ⟨ws4, ews4⟩ : ∃ zw : va_W, zw = List.set ws1 0 ((ad 0), .inr (iM, [.ref (ad 1), .int (nI 0), .ref (ad 2), .int (nI 0), .ref (ad 3), .int (nI 0), .ref (ad 4), .ref (ad 5), .ref (ad 6), .long (lN 0), .ref (ad 7), .ref (ad 8), .ref (ad 9), .ref (ad 10), .int (nI kp), .int fd, .ref (ad 11), .ref (ad 12)])) := ⟨_, rfl⟩
          have hP : va_P D vwCl ws4 H := by rw [ews4]; exact hP
          have hD : va_D A ws4 := by rw [ews4]; exact hD
          have g0 : ws4[0]? = some ((ad 0), .inr (iM, [.ref (ad 1), .int (nI 0), .ref (ad 2), .int (nI 0), .ref (ad 3), .int (nI 0), .ref (ad 4), .ref (ad 5), .ref (ad 6), .long (lN 0), .ref (ad 7), .ref (ad 8), .ref (ad 9), .ref (ad 10), .int (nI kp), .int fd, .ref (ad 11), .ref (ad 12)])) := by rw [ews4]; exact hset_eq g0
          have g1 := (show ws4[1]? = _ from (by rw [ews4]; exact hset_ne (by omega))).trans g1
          have g2 := (show ws4[2]? = _ from (by rw [ews4]; exact hset_ne (by omega))).trans g2
          have g3 := (show ws4[3]? = _ from (by rw [ews4]; exact hset_ne (by omega))).trans g3
          have g4 := (show ws4[4]? = _ from (by rw [ews4]; exact hset_ne (by omega))).trans g4
          have g5 := (show ws4[5]? = _ from (by rw [ews4]; exact hset_ne (by omega))).trans g5
          have g6 := (show ws4[6]? = _ from (by rw [ews4]; exact hset_ne (by omega))).trans g6
          have g7 := (show ws4[7]? = _ from (by rw [ews4]; exact hset_ne (by omega))).trans g7
          have g8 := (show ws4[8]? = _ from (by rw [ews4]; exact hset_ne (by omega))).trans g8
          have g9 := (show ws4[9]? = _ from (by rw [ews4]; exact hset_ne (by omega))).trans g9
          have g10 := (show ws4[10]? = _ from (by rw [ews4]; exact hset_ne (by omega))).trans g10
          have g11 := (show ws4[11]? = _ from (by rw [ews4]; exact hset_ne (by omega))).trans g11
          have g12 := (show ws4[12]? = _ from (by rw [ews4]; exact hset_ne (by omega))).trans g12
          refine lv_iconst (v := nI 0) hx hb dX9_choose_90 (by decide +kernel) ?_
          refine lv_istore (lv' := [(4, .int (nI 0)), (2, .long (lN 0)), (1, .int (nI 1)), (0, .ref (ad 0))]) hx hb dX9_choose_91 hl (by decide) rfl (fun ls hl => ?_)
          refine lv_iload hx hb dX9_choose_93 (lv_at hl 0 rfl) ?_
          refine lv_aload_n hx hb dX9_choose_95 rfl (lv_at hl 3 rfl) ?_
          refine va_get (v := .int (nI 0)) (C := RX9) (T := TX9) (N := 18) hx hb hts (hin_X9 hmc) hown E.1.1 hP 0 g0 rfl 3 (by decide) (hts _ (hmc _ k_572)) (fun _ h9 => h9) rfl dX9_choose_96 ?_
          refine lv_icmp_ge (tgt := 122) hx hb dX9_choose_99 (by decide) (fun c5 => ?_) (fun c5 => ?_)
          · refine lv_aload_n hx hb dX9_choose_122 rfl (lv_at hl 3 rfl) ?_
            have hm3 : hMs K ad ws4 (lN 0) kp fd := ⟨g0, ⟨_, g1⟩, ⟨_, g2⟩, ⟨_, g3⟩, ⟨_, g4⟩, ⟨_, g5⟩, ⟨_, g6⟩, ⟨_, g7⟩, ⟨_, g8, z8⟩, ⟨_, g9⟩, ⟨_, g10⟩, ⟨_, g11, z11⟩, ⟨_, g12, z12⟩⟩
            refine hc_i E hD hS (va_runV (As := []) (rest := []) ⟨hx, hb, hml, hown, hts⟩ ((c_X9_turn l D K tv ws4 ad (lN 0) kp fd hm3) H.size) (cwV 0 hts (hGV hmc k_699 k_701 k_12 k_29 k_702) rfl rfl rfl (by decide +kernel) ⟨Nat.le_of_ble_eq_true rfl, Nat.le_of_ble_eq_true rfl⟩) (hpreV E hP hD hS g0 rfl) rfl rfl hl.1 rfl (lv_room (Nat.le_of_ble_eq_true rfl)) dX9_choose_123 ⟨(Nat.le_refl _), (Nat.le_refl _)⟩) (fun r6 ws5 H locs hp hP hD hS => ?_)
            obtain ⟨rfl, rfl⟩ := hp
            refine lv_istore_n (lv' := [(1, .int (nI 0)), (4, .int (nI 0)), (2, .long (lN 0)), (0, .ref (ad 0))]) hx hb dX9_choose_126 rfl hl (by decide) rfl (fun ls hl => ?_)
            refine lv_goto (tgt := 54) hx hb dX9_choose_127 (by decide) ?_
            refine lv_iload_n hx hb dX9_choose_54 rfl (lv_at hl 0 rfl) ?_
            refine lv_if_eq (tgt := 130) hx hb dX9_choose_55 (by decide) (fun c6 => ?_) (fun c6 => ?_)
            · subst hAe
              exact W.vret hx hb hr (fun t ht _ => ⟨⟨ws4, rfl, ⟨g0, ⟨_, g1⟩, ⟨_, g2⟩, ⟨_, g3⟩, ⟨_, g4⟩, ⟨_, g5⟩, ⟨_, g6⟩, ⟨_, g7⟩, ⟨_, g8, z8⟩, ⟨_, g9⟩, ⟨_, g10⟩, ⟨_, g11, z11⟩, ⟨_, g12, z12⟩⟩, by rw [ht]; exact hP, hD⟩, hS.F ht⟩) hS.2.2 dX9_choose_130
            · first | exact absurd c6 (by decide +kernel) | exact absurd (by decide +kernel) c6
          · first | exact absurd c5 (by decide +kernel) | exact absurd (by decide +kernel) c5
        · first | exact absurd c4 (by decide +kernel) | exact absurd (by decide +kernel) c4
    · first | exact absurd c2 (by decide +kernel) | exact absurd (by decide +kernel) c2
  · have hi2 : i < 1536 := Nat.not_le.mp (fun z => c1 (nI_le z (by omega)))
    refine lv_aload_n hx hb dX9_choose_9 rfl (lv_at hl 1 rfl) ?_
    refine va_get (v := .ref (ad 4)) (C := RX9) (T := TX9) (N := 18) hx hb hts (hin_X9 hmc) hown E.1.1 hP 0 g0 rfl 6 (by decide) (hts _ (hmc _ k_575)) (fun _ h9 => h9) rfl dX9_choose_10 ?_
    refine lv_iload_n hx hb dX9_choose_13 rfl (lv_at hl 0 rfl) ?_
    refine lv_iconst (v := (-1)) hx hb dX9_choose_14 (by decide +kernel) ?_
    refine va_iast hx hb E.1.1 hP hD hS 4 0 g4 rfl (vp_in_nI (by omega) (by omega)) dX9_choose_15 (fun H locs hP hD hS => ?_)
    rw [nI_clamp (show i < 2 ^ 31 by omega)] at hP hD
    obtain ⟨ws7, ews7⟩ : ∃ zw : va_W, zw = List.set w1 4 ((ad 4), .inl (K 0, 1536, .inl (upd f4 i (-1)))) := ⟨_, rfl⟩
    have hP : va_P D vwCl ws7 H := by rw [ews7]; exact hP
    have hD : va_D A ws7 := by rw [ews7]; exact hD
    have g0 := (show ws7[0]? = _ from (by rw [ews7]; exact hset_ne (by omega))).trans g0
    have g1 := (show ws7[1]? = _ from (by rw [ews7]; exact hset_ne (by omega))).trans g1
    have g2 := (show ws7[2]? = _ from (by rw [ews7]; exact hset_ne (by omega))).trans g2
    have g3 := (show ws7[3]? = _ from (by rw [ews7]; exact hset_ne (by omega))).trans g3
    have g4 : ws7[4]? = some ((ad 4), .inl (K 0, 1536, .inl (upd f4 i (-1)))) := by rw [ews7]; exact hset_eq g4
    have g5 := (show ws7[5]? = _ from (by rw [ews7]; exact hset_ne (by omega))).trans g5
    have g6 := (show ws7[6]? = _ from (by rw [ews7]; exact hset_ne (by omega))).trans g6
    have g7 := (show ws7[7]? = _ from (by rw [ews7]; exact hset_ne (by omega))).trans g7
    have g8 := (show ws7[8]? = _ from (by rw [ews7]; exact hset_ne (by omega))).trans g8
    have g9 := (show ws7[9]? = _ from (by rw [ews7]; exact hset_ne (by omega))).trans g9
    have g10 := (show ws7[10]? = _ from (by rw [ews7]; exact hset_ne (by omega))).trans g10
    have g11 := (show ws7[11]? = _ from (by rw [ews7]; exact hset_ne (by omega))).trans g11
    have g12 := (show ws7[12]? = _ from (by rw [ews7]; exact hset_ne (by omega))).trans g12
    refine lv_iinc (v := nI (i + 1)) (lv' := [(1, .int (nI (i + 1))), (0, .ref (ad 0))]) hx hb dX9_choose_16 hl (k := 0) rfl (nI_1 _) (by decide) rfl (fun ls hl => ?_)
    refine lv_goto (tgt := 2) hx hb dX9_choose_19 (by decide) ?_
    exact ih (i + 1) _ H locs ls ⟨by omega, ⟨g0, ⟨_, g1⟩, ⟨_, g2⟩, ⟨_, g3⟩, ⟨_, g4⟩, ⟨_, g5⟩, ⟨_, g6⟩, ⟨_, g7⟩, ⟨_, g8, z8⟩, ⟨_, g9⟩, ⟨_, g10⟩, ⟨_, g11, z11⟩, ⟨_, g12, z12⟩⟩⟩ (by show 1536 - (i + 1) < 1536 - i; omega) hP hD hS (lv_sub hl [0, 1] rfl)


set_option maxHeartbeats 4000000 in
set_option maxRecDepth 100000 in
/-- the reference, fresh: cost -/
theorem c_X9_cost (l : Launch) (D : va_G) (K : Nat → ClassId) (tv : Nat) (ws : va_W) (ad : Nat → Nat) (hm : hMs K ad ws 0 0 (-2)) : hL l D (hTy K) tv yX9_cost cX9_cost 1 (some .long) ({ frames := 2, cells := 0, slots := 0, locals := 120 }) [.ref (ad 0)] ws (fun r _ => r = lN 0) := by
  intro sz
  refine Met.ofW (cc := cX9_cost) (maxL := 1) (ret := (some .long)) (by decide) rfl ?_
  intro p e s m args below meth c s₁ B hml hv0
  obtain ⟨rfl, rfl, E, hP, hD⟩ := hentry hv0
  have hx := B.exec
  have hb := B.bytes
  have hr := B.returns
  have hts := atoms_spec (ws := hC yX9_cost cX9_cost 1 (some .long)) B.pre
  have hown : s.vm.findClass RX9 = some m.cls := findClass_of_methodNamed B.named
  have hlocks := B.notSynchronized
  generalize hAe : va_A ws s.heap.size = A at hD E ⊢
  have hl := lv_entry ([.ref (ad 0)]) (n := 1) (Nat.le_of_ble_eq_true rfl)
  rw [lg_entry_eq]
  generalize (lg_sl ([.ref (ad 0)]) ++ List.replicate (1 - (lg_sl ([.ref (ad 0)])).length) Slot.unset).toArray = ls at hl ⊢
  have hl : lv_has ls 1 [(0, .ref (ad 0))] := hl
  refine hat0 (fun H hHe => ?_)
  have hP : va_P D vwCl ws H := by rw [hHe]; exact hP
  have hS : va_S A s.heap H [] := by rw [hHe]; exact va_S.rf
  obtain ⟨g0, ⟨f1, g1⟩, ⟨f2, g2⟩, ⟨f3, g3⟩, ⟨f4, g4⟩, ⟨f5, g5⟩, ⟨f6, g6⟩, ⟨f7, g7⟩, ⟨f8, g8, z8⟩, ⟨f9, g9⟩, ⟨f10, g10⟩, ⟨f11, g11, z11⟩, ⟨f12, g12, z12⟩⟩ := id hm
  refine lv_aload_n hx hb dX9_cost_0 rfl (lv_at hl 0 rfl) ?_
  refine hc_v E hD hS (va_runV (As := []) (rest := []) ⟨hx, hb, hml, hown, hts⟩ ((c_X9_choose l D K tv ws ad 0 0 (-2) hm) H.size) (cwV 0 hts (hGV hmc k_677 k_679 k_8 k_29 k_680) rfl rfl rfl (by decide +kernel) ⟨Nat.le_of_ble_eq_true rfl, Nat.le_of_ble_eq_true rfl⟩) (hpreV E hP hD hS g0 rfl) rfl rfl hl.1 rfl (lv_room (Nat.le_of_ble_eq_true rfl)) dX9_cost_1 ⟨(Nat.le_refl _), (Nat.le_refl _)⟩) (fun ws1 H locs hp hP hD hS => ?_)
  obtain ⟨g0, ⟨f1, g1⟩, ⟨f2, g2⟩, ⟨f3, g3⟩, ⟨f4, g4⟩, ⟨f5, g5⟩, ⟨f6, g6⟩, ⟨f7, g7⟩, ⟨f8, g8, z8⟩, ⟨f9, g9⟩, ⟨f10, g10⟩, ⟨f11, g11, z11⟩, ⟨f12, g12, z12⟩⟩ := hp
  refine lv_aload_n hx hb dX9_cost_4 rfl (lv_at hl 0 rfl) ?_
  refine va_get (v := .long (lN 0)) (C := RX9) (T := TX9) (N := 18) hx hb hts (hin_X9 hmc) hown E.1.1 hP 0 g0 rfl 9 (by decide) (hts _ (hmc _ k_578)) (fun _ h9 => h9) rfl dX9_cost_5 ?_
  subst hAe
  exact W.lret (v := lN 0) hx hb hr (fun t ht _ => ⟨⟨lN 0, ws1, rfl, rfl, by rw [ht]; exact hP, hD⟩, hS.F ht⟩) hS.2.2 dX9_cost_8


set_option maxHeartbeats 4000000 in
set_option maxRecDepth 100000 in
/-- the reference, fresh: keep -/
theorem c_X9_keep (l : Launch) (D : va_G) (K : Nat → ClassId) (tv : Nat) (ws : va_W) (ad : Nat → Nat) (lz : Int64) (fd : Int32) (hm : hMs K ad ws lz 0 fd) : hV l D (hTy K) tv yX9_keep cX9_keep 2 none ({ frames := 0, cells := 0, slots := 0, locals := 0 }) [.ref (ad 0)] ws (fun ws1 => hMs K ad ws1 lz 1 fd) := by
  intro sz
  refine Met.ofW (cc := cX9_keep) (maxL := 2) (ret := none) (by decide) rfl ?_
  intro p e s m args below meth c s₁ B hml hv0
  obtain ⟨rfl, rfl, E, hP, hD⟩ := hentry hv0
  have hx := B.exec
  have hb := B.bytes
  have hr := B.returns
  have hts := atoms_spec (ws := hC yX9_keep cX9_keep 2 none) B.pre
  have hown : s.vm.findClass RX9 = some m.cls := findClass_of_methodNamed B.named
  have hlocks := B.notSynchronized
  generalize hAe : va_A ws s.heap.size = A at hD E ⊢
  have hl := lv_entry ([.ref (ad 0)]) (n := 2) (Nat.le_of_ble_eq_true rfl)
  rw [lg_entry_eq]
  generalize (lg_sl ([.ref (ad 0)]) ++ List.replicate (2 - (lg_sl ([.ref (ad 0)])).length) Slot.unset).toArray = ls at hl ⊢
  have hl : lv_has ls 2 [(0, .ref (ad 0))] := hl
  refine hat0 (fun H hHe => ?_)
  have hP : va_P D vwCl ws H := by rw [hHe]; exact hP
  have hS : va_S A s.heap H [] := by rw [hHe]; exact va_S.rf
  obtain ⟨g0, ⟨f1, g1⟩, ⟨f2, g2⟩, ⟨f3, g3⟩, ⟨f4, g4⟩, ⟨f5, g5⟩, ⟨f6, g6⟩, ⟨f7, g7⟩, ⟨f8, g8, z8⟩, ⟨f9, g9⟩, ⟨f10, g10⟩, ⟨f11, g11, z11⟩, ⟨f12, g12, z12⟩⟩ := id hm
  refine lv_iconst (v := nI 1) hx hb dX9_keep_0 (by decide +kernel) ?_
  refine lv_istore_n (lv' := [(1, .int (nI 1)), (0, .ref (ad 0))]) hx hb dX9_keep_1 rfl hl (by decide) rfl (fun ls hl => ?_)
  refine hloopW (α := Nat) 2 2 (fun v => [(1, .int (nI v)), (0, .ref (ad 0))]) (fun v w1 => (1 ≤ v ∧ v ≤ 9) ∧ hMs K ad w1 lz 0 fd) (fun v => 9 - v) (fun _ => 0) (fun _ => 0) ?_ 1 ⟨by decide, ⟨g0, ⟨_, g1⟩, ⟨_, g2⟩, ⟨_, g3⟩, ⟨_, g4⟩, ⟨_, g5⟩, ⟨_, g6⟩, ⟨_, g7⟩, ⟨_, g8, z8⟩, ⟨_, g9⟩, ⟨_, g10⟩, ⟨_, g11, z11⟩, ⟨_, g12, z12⟩⟩⟩ hP hD hS (lv_sub hl [0, 1] rfl)
  intro v w1 H locs ls hI1 hP hD hS hl ih
  obtain ⟨⟨hv1, hv9⟩, hm1⟩ := hI1
  have hl : lv_has ls 2 [(1, .int (nI v)), (0, .ref (ad 0))] := hl
  obtain ⟨g0, ⟨f1, g1⟩, ⟨f2, g2⟩, ⟨f3, g3⟩, ⟨f4, g4⟩, ⟨f5, g5⟩, ⟨f6, g6⟩, ⟨f7, g7⟩, ⟨f8, g8, z8⟩, ⟨f9, g9⟩, ⟨f10, g10⟩, ⟨f11, g11, z11⟩, ⟨f12, g12, z12⟩⟩ := id hm1
  refine lv_iload_n hx hb dX9_keep_2 rfl (lv_at hl 0 rfl) ?_
  refine lv_bipush (v := nI 8) hx hb dX9_keep_3 (by decide +kernel) ?_
  refine lv_icmp_gt (tgt := 49) hx hb dX9_keep_5 (by decide) (fun c1 => ?_) (fun c1 => ?_)
  · refine lv_aload_n hx hb dX9_keep_49 rfl (lv_at hl 1 rfl) ?_
    refine lv_dup hx hb dX9_keep_50 rfl ?_
    refine va_get (v := .int (nI 0)) (C := RX9) (T := TX9) (N := 18) hx hb hts (hin_X9 hmc) hown E.1.1 hP 0 g0 rfl 14 (by decide) (hts _ (hmc _ k_583)) (fun _ h9 => h9) rfl dX9_keep_51 ?_
    refine lv_iconst (v := nI 1) hx hb dX9_keep_54 (by decide +kernel) ?_
    refine lv_iadd hx hb dX9_keep_55 ?_
    refine htopi (v := nI 1) (by decide +kernel) ?_
    refine va_put (v := .int (nI 1)) (ty := .int) (C := RX9) (T := TX9) (N := 18) hx hb hts (hin_X9 hmc) tyX9 tyX9_ok nmX9 hown E.1.1 hP hD hS 0 g0 rfl 14 (by decide) (hts _ (hmc _ k_583)) (fun _ h9 => h9) rfl (by decide +kernel) rfl rfl (Nat.le_of_ble_eq_true rfl) dX9_keep_56 (fun H locs hP hD hS => ?_)
    obtain ⟨ws1, ews1⟩ : ∃ zw : va_W, zw = List.set w1 0 ((ad 0), .inr (iM, [.ref (ad 1), .int (nI 0), .ref (ad 2), .int (nI 0), .ref (ad 3), .int (nI 0), .ref (ad 4), .ref (ad 5), .ref (ad 6), .long lz, .ref (ad 7), .ref (ad 8), .ref (ad 9), .ref (ad 10), .int (nI 1), .int fd, .ref (ad 11), .ref (ad 12)])) := ⟨_, rfl⟩
    have hP : va_P D vwCl ws1 H := by rw [ews1]; exact hP
    have hD : va_D A ws1 := by rw [ews1]; exact hD
    have g0 : ws1[0]? = some ((ad 0), .inr (iM, [.ref (ad 1), .int (nI 0), .ref (ad 2), .int (nI 0), .ref (ad 3), .int (nI 0), .ref (ad 4), .ref (ad 5), .ref (ad 6), .long lz, .ref (ad 7), .ref (ad 8), .ref (ad 9), .ref (ad 10), .int (nI 1), .int fd, .ref (ad 11), .ref (ad 12)])) := by rw [ews1]; exact hset_eq g0
    have g1 := (show ws1[1]? = _ from (by rw [ews1]; exact hset_ne (by omega))).trans g1
    have g2 := (show ws1[2]? = _ from (by rw [ews1]; exact hset_ne (by omega))).trans g2
    have g3 := (show ws1[3]? = _ from (by rw [ews1]; exact hset_ne (by omega))).trans g3
    have g4 := (show ws1[4]? = _ from (by rw [ews1]; exact hset_ne (by omega))).trans g4
    have g5 := (show ws1[5]? = _ from (by rw [ews1]; exact hset_ne (by omega))).trans g5
    have g6 := (show ws1[6]? = _ from (by rw [ews1]; exact hset_ne (by omega))).trans g6
    have g7 := (show ws1[7]? = _ from (by rw [ews1]; exact hset_ne (by omega))).trans g7
    have g8 := (show ws1[8]? = _ from (by rw [ews1]; exact hset_ne (by omega))).trans g8
    have g9 := (show ws1[9]? = _ from (by rw [ews1]; exact hset_ne (by omega))).trans g9
    have g10 := (show ws1[10]? = _ from (by rw [ews1]; exact hset_ne (by omega))).trans g10
    have g11 := (show ws1[11]? = _ from (by rw [ews1]; exact hset_ne (by omega))).trans g11
    have g12 := (show ws1[12]? = _ from (by rw [ews1]; exact hset_ne (by omega))).trans g12
    subst hAe
    exact W.vret hx hb hr (fun t ht _ => ⟨⟨ws1, rfl, ⟨g0, ⟨_, g1⟩, ⟨_, g2⟩, ⟨_, g3⟩, ⟨_, g4⟩, ⟨_, g5⟩, ⟨_, g6⟩, ⟨_, g7⟩, ⟨_, g8, z8⟩, ⟨_, g9⟩, ⟨_, g10⟩, ⟨_, g11, z11⟩, ⟨_, g12, z12⟩⟩, by rw [ht]; exact hP, hD⟩, hS.F ht⟩) hS.2.2 dX9_keep_59
  · have hv2 : v ≤ 8 := Nat.not_lt.mp (fun z => c1 (nI_lt z (by omega)))
    refine lv_aload_n hx hb dX9_keep_8 rfl (lv_at hl 1 rfl) ?_
    refine va_get (v := .ref (ad 10)) (C := RX9) (T := TX9) (N := 18) hx hb hts (hin_X9 hmc) hown E.1.1 hP 0 g0 rfl 13 (by decide) (hts _ (hmc _ k_582)) (fun _ h9 => h9) rfl dX9_keep_9 ?_
    refine lv_bipush (v := nI 8) hx hb dX9_keep_12 (by decide +kernel) ?_
    refine lv_aload_n hx hb dX9_keep_14 rfl (lv_at hl 1 rfl) ?_
    refine va_get (v := .int (nI 0)) (C := RX9) (T := TX9) (N := 18) hx hb hts (hin_X9 hmc) hown E.1.1 hP 0 g0 rfl 14 (by decide) (hts _ (hmc _ k_583)) (fun _ h9 => h9) rfl dX9_keep_15 ?_
    refine lv_imul hx hb dX9_keep_18 ?_
    refine htopi (v := nI (8 * 0)) (pk_mul _ _) ?_
    refine lv_iload_n hx hb dX9_keep_19 rfl (lv_at hl 0 rfl) ?_
    refine lv_iadd hx hb dX9_keep_20 ?_
    refine htopi (v := nI ((8 * 0) + v)) (nI_add _ _) ?_
    refine lv_iconst (v := nI 1) hx hb dX9_keep_21 (by decide +kernel) ?_
    refine lv_isub hx hb dX9_keep_22 ?_
    refine htopi (v := nI (8 * 0 + v - 1)) (pk_sub (by omega)) ?_
    refine lv_aload_n hx hb dX9_keep_23 rfl (lv_at hl 1 rfl) ?_
    refine va_get (v := .ref (ad 8)) (C := RX9) (T := TX9) (N := 18) hx hb hts (hin_X9 hmc) hown E.1.1 hP 0 g0 rfl 11 (by decide) (hts _ (hmc _ k_580)) (fun _ h9 => h9) rfl dX9_keep_24 ?_
    refine lv_iload_n hx hb dX9_keep_27 rfl (lv_at hl 0 rfl) ?_
    refine va_iald hx hb E.1.1 hP 8 0 g8 rfl (vp_in_nI (by omega) (by omega)) dX9_keep_28 ?_
    refine htopi (v := f8 v) (by rw [nI_clamp (by omega)]) ?_
    refine htopi (v := nI 0) (z8 _) ?_
    refine lv_if_le (tgt := 41) hx hb dX9_keep_29 (by decide) (fun c2 => ?_) (fun c2 => ?_)
    · refine lv_iconst (v := nI 0) hx hb dX9_keep_41 (by decide +kernel) ?_
      refine va_iast hx hb E.1.1 hP hD hS 10 0 g10 rfl (vp_in_nI (by omega) (by omega)) dX9_keep_42 (fun H locs hP hD hS => ?_)
      rw [nI_clamp (show (8 * 0 + v - 1) < 2 ^ 31 by omega)] at hP hD
      obtain ⟨ws2, ews2⟩ : ∃ zw : va_W, zw = List.set w1 10 ((ad 10), .inl (K 0, 160000, .inl (upd f10 (8 * 0 + v - 1) (nI 0)))) := ⟨_, rfl⟩
      have hP : va_P D vwCl ws2 H := by rw [ews2]; exact hP
      have hD : va_D A ws2 := by rw [ews2]; exact hD
      have g0 := (show ws2[0]? = _ from (by rw [ews2]; exact hset_ne (by omega))).trans g0
      have g1 := (show ws2[1]? = _ from (by rw [ews2]; exact hset_ne (by omega))).trans g1
      have g2 := (show ws2[2]? = _ from (by rw [ews2]; exact hset_ne (by omega))).trans g2
      have g3 := (show ws2[3]? = _ from (by rw [ews2]; exact hset_ne (by omega))).trans g3
      have g4 := (show ws2[4]? = _ from (by rw [ews2]; exact hset_ne (by omega))).trans g4
      have g5 := (show ws2[5]? = _ from (by rw [ews2]; exact hset_ne (by omega))).trans g5
      have g6 := (show ws2[6]? = _ from (by rw [ews2]; exact hset_ne (by omega))).trans g6
      have g7 := (show ws2[7]? = _ from (by rw [ews2]; exact hset_ne (by omega))).trans g7
      have g8 := (show ws2[8]? = _ from (by rw [ews2]; exact hset_ne (by omega))).trans g8
      have g9 := (show ws2[9]? = _ from (by rw [ews2]; exact hset_ne (by omega))).trans g9
      have g10 : ws2[10]? = some ((ad 10), .inl (K 0, 160000, .inl (upd f10 (8 * 0 + v - 1) (nI 0)))) := by rw [ews2]; exact hset_eq g10
      have g11 := (show ws2[11]? = _ from (by rw [ews2]; exact hset_ne (by omega))).trans g11
      have g12 := (show ws2[12]? = _ from (by rw [ews2]; exact hset_ne (by omega))).trans g12
      refine lv_iinc (v := nI (v + 1)) (lv' := [(1, .int (nI (v + 1))), (0, .ref (ad 0))]) hx hb dX9_keep_43 hl (k := 0) rfl (nI_1 _) (by decide) rfl (fun ls hl => ?_)
      refine lv_goto (tgt := 2) hx hb dX9_keep_46 (by decide) ?_
      exact ih (v + 1) _ H locs ls ⟨⟨by omega, by omega⟩, ⟨g0, ⟨_, g1⟩, ⟨_, g2⟩, ⟨_, g3⟩, ⟨_, g4⟩, ⟨_, g5⟩, ⟨_, g6⟩, ⟨_, g7⟩, ⟨_, g8, z8⟩, ⟨_, g9⟩, ⟨_, g10⟩, ⟨_, g11, z11⟩, ⟨_, g12, z12⟩⟩⟩ (by show 9 - (v + 1) < 9 - v; omega) hP hD hS (lv_sub hl [0, 1] rfl)
    · first | exact absurd c2 (by decide +kernel) | exact absurd (by decide +kernel) c2


set_option maxHeartbeats 4000000 in
set_option maxRecDepth 100000 in
/-- the reference, fresh: join -/
theorem m_join0 (l : Launch) (D : va_G) (K : Nat → ClassId) (tv : Nat) (ws : va_W) (ad : Nat → Nat) (lz : Int64) (kp : Nat) (fd : Int32) (hm : hMs K ad ws lz kp fd) (by0 : Nat) : hI l D (hTy K) tv yX9_join cX9_join 6 (some .int) ({ frames := 1, cells := 0, slots := 0, locals := 60 }) [.ref (ad 0), .ref by0, .int (nI 0), .int (nI 0)] ws (fun r ws1 => r = nI 0 ∧ hMs K ad ws1 lz 0 fd) := by
  intro sz
  refine Met.ofW (cc := cX9_join) (maxL := 6) (ret := (some .int)) (by decide) rfl ?_
  intro p e s m args below meth c s₁ B hml hv0
  obtain ⟨rfl, rfl, E, hP, hD⟩ := hentry hv0
  have hx := B.exec
  have hb := B.bytes
  have hr := B.returns
  have hts := atoms_spec (ws := hC yX9_join cX9_join 6 (some .int)) B.pre
  have hown : s.vm.findClass RX9 = some m.cls := findClass_of_methodNamed B.named
  have hlocks := B.notSynchronized
  generalize hAe : va_A ws s.heap.size = A at hD E ⊢
  have hl := lv_entry ([.ref (ad 0), .ref by0, .int (nI 0), .int (nI 0)]) (n := 6) (Nat.le_of_ble_eq_true rfl)
  rw [lg_entry_eq]
  generalize (lg_sl ([.ref (ad 0), .ref by0, .int (nI 0), .int (nI 0)]) ++ List.replicate (6 - (lg_sl ([.ref (ad 0), .ref by0, .int (nI 0), .int (nI 0)])).length) Slot.unset).toArray = ls at hl ⊢
  have hl : lv_has ls 6 [(0, .ref (ad 0)), (1, .ref by0), (2, .int (nI 0)), (3, .int (nI 0))] := hl
  refine hat0 (fun H hHe => ?_)
  have hP : va_P D vwCl ws H := by rw [hHe]; exact hP
  have hS : va_S A s.heap H [] := by rw [hHe]; exact va_S.rf
  obtain ⟨g0, ⟨f1, g1⟩, ⟨f2, g2⟩, ⟨f3, g3⟩, ⟨f4, g4⟩, ⟨f5, g5⟩, ⟨f6, g6⟩, ⟨f7, g7⟩, ⟨f8, g8, z8⟩, ⟨f9, g9⟩, ⟨f10, g10⟩, ⟨f11, g11, z11⟩, ⟨f12, g12, z12⟩⟩ := id hm
  refine lv_iconst (v := nI 0) hx hb dX9_join_0 (by decide +kernel) ?_
  refine lv_istore (lv' := [(4, .int (nI 0)), (0, .ref (ad 0)), (1, .ref by0), (2, .int (nI 0)), (3, .int (nI 0))]) hx hb dX9_join_1 hl (by decide) rfl (fun ls hl => ?_)
  refine lv_aload_n hx hb dX9_join_3 rfl (lv_at hl 1 rfl) ?_
  refine lv_iconst (v := nI 0) hx hb dX9_join_4 (by decide +kernel) ?_
  refine va_put (v := .int (nI 0)) (ty := .int) (C := RX9) (T := TX9) (N := 18) hx hb hts (hin_X9 hmc) tyX9 tyX9_ok nmX9 hown E.1.1 hP hD hS 0 g0 rfl 14 (by decide) (hts _ (hmc _ k_583)) (fun _ h9 => h9) rfl (by decide +kernel) rfl rfl (Nat.le_of_ble_eq_true rfl) dX9_join_5 (fun H locs hP hD hS => ?_)
  obtain ⟨ws1, ews1⟩ : ∃ zw : va_W, zw = List.set ws 0 ((ad 0), .inr (iM, [.ref (ad 1), .int (nI 0), .ref (ad 2), .int (nI 0), .ref (ad 3), .int (nI 0), .ref (ad 4), .ref (ad 5), .ref (ad 6), .long lz, .ref (ad 7), .ref (ad 8), .ref (ad 9), .ref (ad 10), .int (nI 0), .int fd, .ref (ad 11), .ref (ad 12)])) := ⟨_, rfl⟩
  have hP : va_P D vwCl ws1 H := by rw [ews1]; exact hP
  have hD : va_D A ws1 := by rw [ews1]; exact hD
  have g0 : ws1[0]? = some ((ad 0), .inr (iM, [.ref (ad 1), .int (nI 0), .ref (ad 2), .int (nI 0), .ref (ad 3), .int (nI 0), .ref (ad 4), .ref (ad 5), .ref (ad 6), .long lz, .ref (ad 7), .ref (ad 8), .ref (ad 9), .ref (ad 10), .int (nI 0), .int fd, .ref (ad 11), .ref (ad 12)])) := by rw [ews1]; exact hset_eq g0
  have g1 := (show ws1[1]? = _ from (by rw [ews1]; exact hset_ne (by omega))).trans g1
  have g2 := (show ws1[2]? = _ from (by rw [ews1]; exact hset_ne (by omega))).trans g2
  have g3 := (show ws1[3]? = _ from (by rw [ews1]; exact hset_ne (by omega))).trans g3
  have g4 := (show ws1[4]? = _ from (by rw [ews1]; exact hset_ne (by omega))).trans g4
  have g5 := (show ws1[5]? = _ from (by rw [ews1]; exact hset_ne (by omega))).trans g5
  have g6 := (show ws1[6]? = _ from (by rw [ews1]; exact hset_ne (by omega))).trans g6
  have g7 := (show ws1[7]? = _ from (by rw [ews1]; exact hset_ne (by omega))).trans g7
  have g8 := (show ws1[8]? = _ from (by rw [ews1]; exact hset_ne (by omega))).trans g8
  have g9 := (show ws1[9]? = _ from (by rw [ews1]; exact hset_ne (by omega))).trans g9
  have g10 := (show ws1[10]? = _ from (by rw [ews1]; exact hset_ne (by omega))).trans g10
  have g11 := (show ws1[11]? = _ from (by rw [ews1]; exact hset_ne (by omega))).trans g11
  have g12 := (show ws1[12]? = _ from (by rw [ews1]; exact hset_ne (by omega))).trans g12
  refine lv_iconst (v := nI 0) hx hb dX9_join_8 (by decide +kernel) ?_
  refine lv_istore (lv' := [(5, .int (nI 0)), (4, .int (nI 0)), (0, .ref (ad 0)), (1, .ref by0), (2, .int (nI 0)), (3, .int (nI 0))]) hx hb dX9_join_9 hl (by decide) rfl (fun ls hl => ?_)
  have hm0 : hMs K ad ws1 lz 0 fd := ⟨g0, ⟨_, g1⟩, ⟨_, g2⟩, ⟨_, g3⟩, ⟨_, g4⟩, ⟨_, g5⟩, ⟨_, g6⟩, ⟨_, g7⟩, ⟨_, g8, z8⟩, ⟨_, g9⟩, ⟨_, g10⟩, ⟨_, g11, z11⟩, ⟨_, g12, z12⟩⟩
  refine hloopW (α := Nat) 11 6 (fun i => [(5, .int (nI i)), (4, .int (nI 0)), (0, .ref (ad 0)), (1, .ref by0), (2, .int (nI 0)), (3, .int (nI 0))]) (fun i w1 => i ≤ 9 ∧ hMs K ad w1 lz 0 fd) (fun i => 9 - i) (fun _ => 0) (fun _ => 0) ?_ 0 ⟨by decide, hm0⟩ hP hD hS (lv_sub hl [0, 1, 2, 3, 4, 5] rfl)
  intro i w1 H locs ls hI1 hP hD hS hl ih
  obtain ⟨hi, hm1⟩ := hI1
  have hl : lv_has ls 6 [(5, .int (nI i)), (4, .int (nI 0)), (0, .ref (ad 0)), (1, .ref by0), (2, .int (nI 0)), (3, .int (nI 0))] := hl
  obtain ⟨g0, ⟨f1, g1⟩, ⟨f2, g2⟩, ⟨f3, g3⟩, ⟨f4, g4⟩, ⟨f5, g5⟩, ⟨f6, g6⟩, ⟨f7, g7⟩, ⟨f8, g8, z8⟩, ⟨f9, g9⟩, ⟨f10, g10⟩, ⟨f11, g11, z11⟩, ⟨f12, g12, z12⟩⟩ := id hm1
  refine lv_iload hx hb dX9_join_11 (lv_at hl 0 rfl) ?_
  refine lv_bipush (v := nI 9) hx hb dX9_join_13 (by decide +kernel) ?_
  refine lv_icmp_ge (tgt := 32) hx hb dX9_join_15 (by decide) (fun c1 => ?_) (fun c1 => ?_)
  · refine lv_iload_n hx hb dX9_join_32 rfl (lv_at hl 4 rfl) ?_
    refine lv_if_ne (tgt := 44) hx hb dX9_join_33 (by decide) (fun c2 => ?_) (fun c2 => ?_)
    · first | exact absurd c2 (by decide +kernel) | exact absurd (by decide +kernel) c2
    · refine lv_iload_n hx hb dX9_join_36 rfl (lv_at hl 5 rfl) ?_
      refine lv_if_eq (tgt := 44) hx hb dX9_join_37 (by decide) (fun c3 => ?_) (fun c3 => ?_)
      · refine lv_iload_n hx hb dX9_join_44 rfl (lv_at hl 4 rfl) ?_
        refine lv_if_ne (tgt := 52) hx hb dX9_join_45 (by decide) (fun c4 => ?_) (fun c4 => ?_)
        · first | exact absurd c4 (by decide +kernel) | exact absurd (by decide +kernel) c4
        · refine lv_iconst (v := (-1)) hx hb dX9_join_48 (by decide +kernel) ?_
          refine lv_goto (tgt := 53) hx hb dX9_join_49 (by decide) ?_
          refine lv_istore (lv' := [(5, .int (-1)), (4, .int (nI 0)), (0, .ref (ad 0)), (1, .ref by0), (2, .int (nI 0)), (3, .int (nI 0))]) hx hb dX9_join_53 hl (by decide) rfl (fun ls hl => ?_)
          refine lv_aload_n hx hb dX9_join_55 rfl (lv_at hl 2 rfl) ?_
          refine va_get (v := .ref (ad 9)) (C := RX9) (T := TX9) (N := 18) hx hb hts (hin_X9 hmc) hown E.1.1 hP 0 g0 rfl 12 (by decide) (hts _ (hmc _ k_581)) (fun _ h9 => h9) rfl dX9_join_56 ?_
          refine lv_iconst (v := nI 0) hx hb dX9_join_59 (by decide +kernel) ?_
          refine lv_iconst (v := (-1)) hx hb dX9_join_60 (by decide +kernel) ?_
          refine va_iast hx hb E.1.1 hP hD hS 9 0 g9 rfl (vp_in_nI (by omega) (by omega)) dX9_join_61 (fun H locs hP hD hS => ?_)
          rw [nI_clamp (show 0 < 2 ^ 31 by omega)] at hP hD
          obtain ⟨ws2, ews2⟩ : ∃ zw : va_W, zw = List.set w1 9 ((ad 9), .inl (K 0, 6, .inl (upd f9 0 (-1)))) := ⟨_, rfl⟩
          have hP : va_P D vwCl ws2 H := by rw [ews2]; exact hP
          have hD : va_D A ws2 := by rw [ews2]; exact hD
          have g0 := (show ws2[0]? = _ from (by rw [ews2]; exact hset_ne (by omega))).trans g0
          have g1 := (show ws2[1]? = _ from (by rw [ews2]; exact hset_ne (by omega))).trans g1
          have g2 := (show ws2[2]? = _ from (by rw [ews2]; exact hset_ne (by omega))).trans g2
          have g3 := (show ws2[3]? = _ from (by rw [ews2]; exact hset_ne (by omega))).trans g3
          have g4 := (show ws2[4]? = _ from (by rw [ews2]; exact hset_ne (by omega))).trans g4
          have g5 := (show ws2[5]? = _ from (by rw [ews2]; exact hset_ne (by omega))).trans g5
          have g6 := (show ws2[6]? = _ from (by rw [ews2]; exact hset_ne (by omega))).trans g6
          have g7 := (show ws2[7]? = _ from (by rw [ews2]; exact hset_ne (by omega))).trans g7
          have g8 := (show ws2[8]? = _ from (by rw [ews2]; exact hset_ne (by omega))).trans g8
          have g9 : ws2[9]? = some ((ad 9), .inl (K 0, 6, .inl (upd f9 0 (-1)))) := by rw [ews2]; exact hset_eq g9
          have g10 := (show ws2[10]? = _ from (by rw [ews2]; exact hset_ne (by omega))).trans g10
          have g11 := (show ws2[11]? = _ from (by rw [ews2]; exact hset_ne (by omega))).trans g11
          have g12 := (show ws2[12]? = _ from (by rw [ews2]; exact hset_ne (by omega))).trans g12
          refine lv_iload hx hb dX9_join_62 (lv_at hl 0 rfl) ?_
          refine lv_if_lt (tgt := 209) hx hb dX9_join_64 (by decide) (fun c5 => ?_) (fun c5 => ?_)
          · refine lv_iload hx hb dX9_join_209 (lv_at hl 1 rfl) ?_
            subst hAe
            exact W.iret (v := nI 0) hx hb hr (fun t ht _ => ⟨⟨nI 0, ws2, rfl, ⟨rfl, ⟨g0, ⟨_, g1⟩, ⟨_, g2⟩, ⟨_, g3⟩, ⟨_, g4⟩, ⟨_, g5⟩, ⟨_, g6⟩, ⟨_, g7⟩, ⟨_, g8, z8⟩, ⟨_, g9⟩, ⟨_, g10⟩, ⟨_, g11, z11⟩, ⟨_, g12, z12⟩⟩⟩, by rw [ht]; exact hP, hD⟩, hS.F ht⟩) hS.2.2 dX9_join_211
          · first | exact absurd c5 (by decide +kernel) | exact absurd (by decide +kernel) c5
      · first | exact absurd c3 (by decide +kernel) | exact absurd (by decide +kernel) c3
  · have hi2 : i < 9 := Nat.not_le.mp (fun z => c1 (nI_le z (by omega)))
    refine lv_aload_n hx hb dX9_join_18 rfl (lv_at hl 2 rfl) ?_
    refine va_get (v := .ref (ad 8)) (C := RX9) (T := TX9) (N := 18) hx hb hts (hin_X9 hmc) hown E.1.1 hP 0 g0 rfl 11 (by decide) (hts _ (hmc _ k_580)) (fun _ h9 => h9) rfl dX9_join_19 ?_
    refine lv_iload hx hb dX9_join_22 (lv_at hl 0 rfl) ?_
    refine lv_iconst (v := nI 0) hx hb dX9_join_24 (by decide +kernel) ?_
    refine va_iast hx hb E.1.1 hP hD hS 8 0 g8 rfl (vp_in_nI (by omega) (by omega)) dX9_join_25 (fun H locs hP hD hS => ?_)
    rw [nI_clamp (show i < 2 ^ 31 by omega)] at hP hD
    obtain ⟨ws3, ews3⟩ : ∃ zw : va_W, zw = List.set w1 8 ((ad 8), .inl (K 0, 9, .inl (upd f8 i (nI 0)))) := ⟨_, rfl⟩
    have hP : va_P D vwCl ws3 H := by rw [ews3]; exact hP
    have hD : va_D A ws3 := by rw [ews3]; exact hD
    have g0 := (show ws3[0]? = _ from (by rw [ews3]; exact hset_ne (by omega))).trans g0
    have g1 := (show ws3[1]? = _ from (by rw [ews3]; exact hset_ne (by omega))).trans g1
    have g2 := (show ws3[2]? = _ from (by rw [ews3]; exact hset_ne (by omega))).trans g2
    have g3 := (show ws3[3]? = _ from (by rw [ews3]; exact hset_ne (by omega))).trans g3
    have g4 := (show ws3[4]? = _ from (by rw [ews3]; exact hset_ne (by omega))).trans g4
    have g5 := (show ws3[5]? = _ from (by rw [ews3]; exact hset_ne (by omega))).trans g5
    have g6 := (show ws3[6]? = _ from (by rw [ews3]; exact hset_ne (by omega))).trans g6
    have g7 := (show ws3[7]? = _ from (by rw [ews3]; exact hset_ne (by omega))).trans g7
    have g8 : ws3[8]? = some ((ad 8), .inl (K 0, 9, .inl (upd f8 i (nI 0)))) := by rw [ews3]; exact hset_eq g8
    have g9 := (show ws3[9]? = _ from (by rw [ews3]; exact hset_ne (by omega))).trans g9
    have g10 := (show ws3[10]? = _ from (by rw [ews3]; exact hset_ne (by omega))).trans g10
    have g11 := (show ws3[11]? = _ from (by rw [ews3]; exact hset_ne (by omega))).trans g11
    have g12 := (show ws3[12]? = _ from (by rw [ews3]; exact hset_ne (by omega))).trans g12
    refine lv_iinc (v := nI (i + 1)) (lv' := [(5, .int (nI (i + 1))), (4, .int (nI 0)), (0, .ref (ad 0)), (1, .ref by0), (2, .int (nI 0)), (3, .int (nI 0))]) hx hb dX9_join_26 hl (k := 0) rfl (nI_1 _) (by decide) rfl (fun ls hl => ?_)
    refine lv_goto (tgt := 11) hx hb dX9_join_29 (by decide) ?_
    exact ih (i + 1) _ H locs ls ⟨by omega, ⟨g0, ⟨_, g1⟩, ⟨_, g2⟩, ⟨_, g3⟩, ⟨_, g4⟩, ⟨_, g5⟩, ⟨_, g6⟩, ⟨_, g7⟩, ⟨_, g8, hupdA _ z8⟩, ⟨_, g9⟩, ⟨_, g10⟩, ⟨_, g11, z11⟩, ⟨_, g12, z12⟩⟩⟩ (by show 9 - (i + 1) < 9 - i; omega) hP hD hS (lv_sub hl [0, 1, 2, 3, 4, 5] rfl)


set_option maxHeartbeats 4000000 in
set_option maxRecDepth 100000 in
/-- the reference, fresh: join -/
theorem m_join1 (l : Launch) (D : va_G) (K : Nat → ClassId) (tv : Nat) (ws : va_W) (ad : Nat → Nat) (lz : Int64) (kp : Nat) (fd : Int32) (hm : hMs K ad ws lz kp fd) (by0 : Nat) : hI l D (hTy K) tv yX9_join cX9_join 6 (some .int) ({ frames := 1, cells := 0, slots := 0, locals := 60 }) [.ref (ad 0), .ref by0, .int (nI 0), .int (nI 1)] ws (fun r ws1 => r = nI 0 ∧ hMs K ad ws1 lz 1 fd) := by
  intro sz
  refine Met.ofW (cc := cX9_join) (maxL := 6) (ret := (some .int)) (by decide) rfl ?_
  intro p e s m args below meth c s₁ B hml hv0
  obtain ⟨rfl, rfl, E, hP, hD⟩ := hentry hv0
  have hx := B.exec
  have hb := B.bytes
  have hr := B.returns
  have hts := atoms_spec (ws := hC yX9_join cX9_join 6 (some .int)) B.pre
  have hown : s.vm.findClass RX9 = some m.cls := findClass_of_methodNamed B.named
  have hlocks := B.notSynchronized
  generalize hAe : va_A ws s.heap.size = A at hD E ⊢
  have hl := lv_entry ([.ref (ad 0), .ref by0, .int (nI 0), .int (nI 1)]) (n := 6) (Nat.le_of_ble_eq_true rfl)
  rw [lg_entry_eq]
  generalize (lg_sl ([.ref (ad 0), .ref by0, .int (nI 0), .int (nI 1)]) ++ List.replicate (6 - (lg_sl ([.ref (ad 0), .ref by0, .int (nI 0), .int (nI 1)])).length) Slot.unset).toArray = ls at hl ⊢
  have hl : lv_has ls 6 [(0, .ref (ad 0)), (1, .ref by0), (2, .int (nI 0)), (3, .int (nI 1))] := hl
  refine hat0 (fun H hHe => ?_)
  have hP : va_P D vwCl ws H := by rw [hHe]; exact hP
  have hS : va_S A s.heap H [] := by rw [hHe]; exact va_S.rf
  obtain ⟨g0, ⟨f1, g1⟩, ⟨f2, g2⟩, ⟨f3, g3⟩, ⟨f4, g4⟩, ⟨f5, g5⟩, ⟨f6, g6⟩, ⟨f7, g7⟩, ⟨f8, g8, z8⟩, ⟨f9, g9⟩, ⟨f10, g10⟩, ⟨f11, g11, z11⟩, ⟨f12, g12, z12⟩⟩ := id hm
  refine lv_iconst (v := nI 0) hx hb dX9_join_0 (by decide +kernel) ?_
  refine lv_istore (lv' := [(4, .int (nI 0)), (0, .ref (ad 0)), (1, .ref by0), (2, .int (nI 0)), (3, .int (nI 1))]) hx hb dX9_join_1 hl (by decide) rfl (fun ls hl => ?_)
  refine lv_aload_n hx hb dX9_join_3 rfl (lv_at hl 1 rfl) ?_
  refine lv_iconst (v := nI 0) hx hb dX9_join_4 (by decide +kernel) ?_
  refine va_put (v := .int (nI 0)) (ty := .int) (C := RX9) (T := TX9) (N := 18) hx hb hts (hin_X9 hmc) tyX9 tyX9_ok nmX9 hown E.1.1 hP hD hS 0 g0 rfl 14 (by decide) (hts _ (hmc _ k_583)) (fun _ h9 => h9) rfl (by decide +kernel) rfl rfl (Nat.le_of_ble_eq_true rfl) dX9_join_5 (fun H locs hP hD hS => ?_)
  obtain ⟨ws1, ews1⟩ : ∃ zw : va_W, zw = List.set ws 0 ((ad 0), .inr (iM, [.ref (ad 1), .int (nI 0), .ref (ad 2), .int (nI 0), .ref (ad 3), .int (nI 0), .ref (ad 4), .ref (ad 5), .ref (ad 6), .long lz, .ref (ad 7), .ref (ad 8), .ref (ad 9), .ref (ad 10), .int (nI 0), .int fd, .ref (ad 11), .ref (ad 12)])) := ⟨_, rfl⟩
  have hP : va_P D vwCl ws1 H := by rw [ews1]; exact hP
  have hD : va_D A ws1 := by rw [ews1]; exact hD
  have g0 : ws1[0]? = some ((ad 0), .inr (iM, [.ref (ad 1), .int (nI 0), .ref (ad 2), .int (nI 0), .ref (ad 3), .int (nI 0), .ref (ad 4), .ref (ad 5), .ref (ad 6), .long lz, .ref (ad 7), .ref (ad 8), .ref (ad 9), .ref (ad 10), .int (nI 0), .int fd, .ref (ad 11), .ref (ad 12)])) := by rw [ews1]; exact hset_eq g0
  have g1 := (show ws1[1]? = _ from (by rw [ews1]; exact hset_ne (by omega))).trans g1
  have g2 := (show ws1[2]? = _ from (by rw [ews1]; exact hset_ne (by omega))).trans g2
  have g3 := (show ws1[3]? = _ from (by rw [ews1]; exact hset_ne (by omega))).trans g3
  have g4 := (show ws1[4]? = _ from (by rw [ews1]; exact hset_ne (by omega))).trans g4
  have g5 := (show ws1[5]? = _ from (by rw [ews1]; exact hset_ne (by omega))).trans g5
  have g6 := (show ws1[6]? = _ from (by rw [ews1]; exact hset_ne (by omega))).trans g6
  have g7 := (show ws1[7]? = _ from (by rw [ews1]; exact hset_ne (by omega))).trans g7
  have g8 := (show ws1[8]? = _ from (by rw [ews1]; exact hset_ne (by omega))).trans g8
  have g9 := (show ws1[9]? = _ from (by rw [ews1]; exact hset_ne (by omega))).trans g9
  have g10 := (show ws1[10]? = _ from (by rw [ews1]; exact hset_ne (by omega))).trans g10
  have g11 := (show ws1[11]? = _ from (by rw [ews1]; exact hset_ne (by omega))).trans g11
  have g12 := (show ws1[12]? = _ from (by rw [ews1]; exact hset_ne (by omega))).trans g12
  refine lv_iconst (v := nI 0) hx hb dX9_join_8 (by decide +kernel) ?_
  refine lv_istore (lv' := [(5, .int (nI 0)), (4, .int (nI 0)), (0, .ref (ad 0)), (1, .ref by0), (2, .int (nI 0)), (3, .int (nI 1))]) hx hb dX9_join_9 hl (by decide) rfl (fun ls hl => ?_)
  have hm0 : hMs K ad ws1 lz 0 fd := ⟨g0, ⟨_, g1⟩, ⟨_, g2⟩, ⟨_, g3⟩, ⟨_, g4⟩, ⟨_, g5⟩, ⟨_, g6⟩, ⟨_, g7⟩, ⟨_, g8, z8⟩, ⟨_, g9⟩, ⟨_, g10⟩, ⟨_, g11, z11⟩, ⟨_, g12, z12⟩⟩
  refine hloopW (α := Nat) 11 6 (fun i => [(5, .int (nI i)), (4, .int (nI 0)), (0, .ref (ad 0)), (1, .ref by0), (2, .int (nI 0)), (3, .int (nI 1))]) (fun i w1 => i ≤ 9 ∧ hMs K ad w1 lz 0 fd) (fun i => 9 - i) (fun _ => 0) (fun _ => 0) ?_ 0 ⟨by decide, hm0⟩ hP hD hS (lv_sub hl [0, 1, 2, 3, 4, 5] rfl)
  intro i w1 H locs ls hI1 hP hD hS hl ih
  obtain ⟨hi, hm1⟩ := hI1
  have hl : lv_has ls 6 [(5, .int (nI i)), (4, .int (nI 0)), (0, .ref (ad 0)), (1, .ref by0), (2, .int (nI 0)), (3, .int (nI 1))] := hl
  obtain ⟨g0, ⟨f1, g1⟩, ⟨f2, g2⟩, ⟨f3, g3⟩, ⟨f4, g4⟩, ⟨f5, g5⟩, ⟨f6, g6⟩, ⟨f7, g7⟩, ⟨f8, g8, z8⟩, ⟨f9, g9⟩, ⟨f10, g10⟩, ⟨f11, g11, z11⟩, ⟨f12, g12, z12⟩⟩ := id hm1
  refine lv_iload hx hb dX9_join_11 (lv_at hl 0 rfl) ?_
  refine lv_bipush (v := nI 9) hx hb dX9_join_13 (by decide +kernel) ?_
  refine lv_icmp_ge (tgt := 32) hx hb dX9_join_15 (by decide) (fun c1 => ?_) (fun c1 => ?_)
  · refine lv_iload_n hx hb dX9_join_32 rfl (lv_at hl 4 rfl) ?_
    refine lv_if_ne (tgt := 44) hx hb dX9_join_33 (by decide) (fun c2 => ?_) (fun c2 => ?_)
    · first | exact absurd c2 (by decide +kernel) | exact absurd (by decide +kernel) c2
    · refine lv_iload_n hx hb dX9_join_36 rfl (lv_at hl 5 rfl) ?_
      refine lv_if_eq (tgt := 44) hx hb dX9_join_37 (by decide) (fun c3 => ?_) (fun c3 => ?_)
      · first | exact absurd c3 (by decide +kernel) | exact absurd (by decide +kernel) c3
      · refine lv_aload_n hx hb dX9_join_40 rfl (lv_at hl 2 rfl) ?_
        refine hc_v E hD hS (va_runV (As := []) (rest := []) ⟨hx, hb, hml, hown, hts⟩ ((c_X9_keep l D K tv w1 ad lz fd hm1) H.size) (cwV 0 hts (hGV hmc k_731 k_733 k_15 k_29 k_734) rfl rfl rfl (by decide +kernel) ⟨Nat.le_of_ble_eq_true rfl, Nat.le_of_ble_eq_true rfl⟩) (hpreV E hP hD hS g0 rfl) rfl rfl hl.1 rfl (lv_room (Nat.le_of_ble_eq_true rfl)) dX9_join_41 ⟨(Nat.le_refl _), (Nat.le_refl _)⟩) (fun ws2 H locs hp hP hD hS => ?_)
        obtain ⟨g0, ⟨f1, g1⟩, ⟨f2, g2⟩, ⟨f3, g3⟩, ⟨f4, g4⟩, ⟨f5, g5⟩, ⟨f6, g6⟩, ⟨f7, g7⟩, ⟨f8, g8, z8⟩, ⟨f9, g9⟩, ⟨f10, g10⟩, ⟨f11, g11, z11⟩, ⟨f12, g12, z12⟩⟩ := hp
        refine lv_iload_n hx hb dX9_join_44 rfl (lv_at hl 4 rfl) ?_
        refine lv_if_ne (tgt := 52) hx hb dX9_join_45 (by decide) (fun c4 => ?_) (fun c4 => ?_)
        · first | exact absurd c4 (by decide +kernel) | exact absurd (by decide +kernel) c4
        · refine lv_iconst (v := (-1)) hx hb dX9_join_48 (by decide +kernel) ?_
          refine lv_goto (tgt := 53) hx hb dX9_join_49 (by decide) ?_
          refine lv_istore (lv' := [(5, .int (-1)), (4, .int (nI 0)), (0, .ref (ad 0)), (1, .ref by0), (2, .int (nI 0)), (3, .int (nI 1))]) hx hb dX9_join_53 hl (by decide) rfl (fun ls hl => ?_)
          refine lv_aload_n hx hb dX9_join_55 rfl (lv_at hl 2 rfl) ?_
          refine va_get (v := .ref (ad 9)) (C := RX9) (T := TX9) (N := 18) hx hb hts (hin_X9 hmc) hown E.1.1 hP 0 g0 rfl 12 (by decide) (hts _ (hmc _ k_581)) (fun _ h9 => h9) rfl dX9_join_56 ?_
          refine lv_iconst (v := nI 0) hx hb dX9_join_59 (by decide +kernel) ?_
          refine lv_iconst (v := (-1)) hx hb dX9_join_60 (by decide +kernel) ?_
          refine va_iast hx hb E.1.1 hP hD hS 9 0 g9 rfl (vp_in_nI (by omega) (by omega)) dX9_join_61 (fun H locs hP hD hS => ?_)
          rw [nI_clamp (show 0 < 2 ^ 31 by omega)] at hP hD
          obtain ⟨ws3, ews3⟩ : ∃ zw : va_W, zw = List.set ws2 9 ((ad 9), .inl (K 0, 6, .inl (upd f9 0 (-1)))) := ⟨_, rfl⟩
          have hP : va_P D vwCl ws3 H := by rw [ews3]; exact hP
          have hD : va_D A ws3 := by rw [ews3]; exact hD
          have g0 := (show ws3[0]? = _ from (by rw [ews3]; exact hset_ne (by omega))).trans g0
          have g1 := (show ws3[1]? = _ from (by rw [ews3]; exact hset_ne (by omega))).trans g1
          have g2 := (show ws3[2]? = _ from (by rw [ews3]; exact hset_ne (by omega))).trans g2
          have g3 := (show ws3[3]? = _ from (by rw [ews3]; exact hset_ne (by omega))).trans g3
          have g4 := (show ws3[4]? = _ from (by rw [ews3]; exact hset_ne (by omega))).trans g4
          have g5 := (show ws3[5]? = _ from (by rw [ews3]; exact hset_ne (by omega))).trans g5
          have g6 := (show ws3[6]? = _ from (by rw [ews3]; exact hset_ne (by omega))).trans g6
          have g7 := (show ws3[7]? = _ from (by rw [ews3]; exact hset_ne (by omega))).trans g7
          have g8 := (show ws3[8]? = _ from (by rw [ews3]; exact hset_ne (by omega))).trans g8
          have g9 : ws3[9]? = some ((ad 9), .inl (K 0, 6, .inl (upd f9 0 (-1)))) := by rw [ews3]; exact hset_eq g9
          have g10 := (show ws3[10]? = _ from (by rw [ews3]; exact hset_ne (by omega))).trans g10
          have g11 := (show ws3[11]? = _ from (by rw [ews3]; exact hset_ne (by omega))).trans g11
          have g12 := (show ws3[12]? = _ from (by rw [ews3]; exact hset_ne (by omega))).trans g12
          refine lv_iload hx hb dX9_join_62 (lv_at hl 0 rfl) ?_
          refine lv_if_lt (tgt := 209) hx hb dX9_join_64 (by decide) (fun c5 => ?_) (fun c5 => ?_)
          · refine lv_iload hx hb dX9_join_209 (lv_at hl 1 rfl) ?_
            subst hAe
            exact W.iret (v := nI 0) hx hb hr (fun t ht _ => ⟨⟨nI 0, ws3, rfl, ⟨rfl, ⟨g0, ⟨_, g1⟩, ⟨_, g2⟩, ⟨_, g3⟩, ⟨_, g4⟩, ⟨_, g5⟩, ⟨_, g6⟩, ⟨_, g7⟩, ⟨_, g8, z8⟩, ⟨_, g9⟩, ⟨_, g10⟩, ⟨_, g11, z11⟩, ⟨_, g12, z12⟩⟩⟩, by rw [ht]; exact hP, hD⟩, hS.F ht⟩) hS.2.2 dX9_join_211
          · first | exact absurd c5 (by decide +kernel) | exact absurd (by decide +kernel) c5
  · have hi2 : i < 9 := Nat.not_le.mp (fun z => c1 (nI_le z (by omega)))
    refine lv_aload_n hx hb dX9_join_18 rfl (lv_at hl 2 rfl) ?_
    refine va_get (v := .ref (ad 8)) (C := RX9) (T := TX9) (N := 18) hx hb hts (hin_X9 hmc) hown E.1.1 hP 0 g0 rfl 11 (by decide) (hts _ (hmc _ k_580)) (fun _ h9 => h9) rfl dX9_join_19 ?_
    refine lv_iload hx hb dX9_join_22 (lv_at hl 0 rfl) ?_
    refine lv_iconst (v := nI 0) hx hb dX9_join_24 (by decide +kernel) ?_
    refine va_iast hx hb E.1.1 hP hD hS 8 0 g8 rfl (vp_in_nI (by omega) (by omega)) dX9_join_25 (fun H locs hP hD hS => ?_)
    rw [nI_clamp (show i < 2 ^ 31 by omega)] at hP hD
    obtain ⟨ws4, ews4⟩ : ∃ zw : va_W, zw = List.set w1 8 ((ad 8), .inl (K 0, 9, .inl (upd f8 i (nI 0)))) := ⟨_, rfl⟩
    have hP : va_P D vwCl ws4 H := by rw [ews4]; exact hP
    have hD : va_D A ws4 := by rw [ews4]; exact hD
    have g0 := (show ws4[0]? = _ from (by rw [ews4]; exact hset_ne (by omega))).trans g0
    have g1 := (show ws4[1]? = _ from (by rw [ews4]; exact hset_ne (by omega))).trans g1
    have g2 := (show ws4[2]? = _ from (by rw [ews4]; exact hset_ne (by omega))).trans g2
    have g3 := (show ws4[3]? = _ from (by rw [ews4]; exact hset_ne (by omega))).trans g3
    have g4 := (show ws4[4]? = _ from (by rw [ews4]; exact hset_ne (by omega))).trans g4
    have g5 := (show ws4[5]? = _ from (by rw [ews4]; exact hset_ne (by omega))).trans g5
    have g6 := (show ws4[6]? = _ from (by rw [ews4]; exact hset_ne (by omega))).trans g6
    have g7 := (show ws4[7]? = _ from (by rw [ews4]; exact hset_ne (by omega))).trans g7
    have g8 : ws4[8]? = some ((ad 8), .inl (K 0, 9, .inl (upd f8 i (nI 0)))) := by rw [ews4]; exact hset_eq g8
    have g9 := (show ws4[9]? = _ from (by rw [ews4]; exact hset_ne (by omega))).trans g9
    have g10 := (show ws4[10]? = _ from (by rw [ews4]; exact hset_ne (by omega))).trans g10
    have g11 := (show ws4[11]? = _ from (by rw [ews4]; exact hset_ne (by omega))).trans g11
    have g12 := (show ws4[12]? = _ from (by rw [ews4]; exact hset_ne (by omega))).trans g12
    refine lv_iinc (v := nI (i + 1)) (lv' := [(5, .int (nI (i + 1))), (4, .int (nI 0)), (0, .ref (ad 0)), (1, .ref by0), (2, .int (nI 0)), (3, .int (nI 1))]) hx hb dX9_join_26 hl (k := 0) rfl (nI_1 _) (by decide) rfl (fun ls hl => ?_)
    refine lv_goto (tgt := 11) hx hb dX9_join_29 (by decide) ?_
    exact ih (i + 1) _ H locs ls ⟨by omega, ⟨g0, ⟨_, g1⟩, ⟨_, g2⟩, ⟨_, g3⟩, ⟨_, g4⟩, ⟨_, g5⟩, ⟨_, g6⟩, ⟨_, g7⟩, ⟨_, g8, hupdA _ z8⟩, ⟨_, g9⟩, ⟨_, g10⟩, ⟨_, g11, z11⟩, ⟨_, g12, z12⟩⟩⟩ (by show 9 - (i + 1) < 9 - i; omega) hP hD hS (lv_sub hl [0, 1, 2, 3, 4, 5] rfl)


set_option maxHeartbeats 4000000 in
set_option maxRecDepth 100000 in
/-- the reference, fresh: rows -/
theorem c_X9_rows (l : Launch) (D : va_G) (K : Nat → ClassId) (tv : Nat) (ws : va_W) (ad : Nat → Nat) (hm : hMs K ad ws 0 0 (-2)) : hI l D (hTy K) tv yX9_rows cX9_rows 2 (some .int) ({ frames := 2, cells := 0, slots := 0, locals := 120 }) [.ref (ad 0)] ws (fun r _ => r = nI 0) := by
  intro sz
  refine Met.ofW (cc := cX9_rows) (maxL := 2) (ret := (some .int)) (by decide) rfl ?_
  intro p e s m args below meth c s₁ B hml hv0
  obtain ⟨rfl, rfl, E, hP, hD⟩ := hentry hv0
  have hx := B.exec
  have hb := B.bytes
  have hr := B.returns
  have hts := atoms_spec (ws := hC yX9_rows cX9_rows 2 (some .int)) B.pre
  have hown : s.vm.findClass RX9 = some m.cls := findClass_of_methodNamed B.named
  have hlocks := B.notSynchronized
  generalize hAe : va_A ws s.heap.size = A at hD E ⊢
  have hl := lv_entry ([.ref (ad 0)]) (n := 2) (Nat.le_of_ble_eq_true rfl)
  rw [lg_entry_eq]
  generalize (lg_sl ([.ref (ad 0)]) ++ List.replicate (2 - (lg_sl ([.ref (ad 0)])).length) Slot.unset).toArray = ls at hl ⊢
  have hl : lv_has ls 2 [(0, .ref (ad 0))] := hl
  refine hat0 (fun H hHe => ?_)
  have hP : va_P D vwCl ws H := by rw [hHe]; exact hP
  have hS : va_S A s.heap H [] := by rw [hHe]; exact va_S.rf
  obtain ⟨g0, ⟨f1, g1⟩, ⟨f2, g2⟩, ⟨f3, g3⟩, ⟨f4, g4⟩, ⟨f5, g5⟩, ⟨f6, g6⟩, ⟨f7, g7⟩, ⟨f8, g8, z8⟩, ⟨f9, g9⟩, ⟨f10, g10⟩, ⟨f11, g11, z11⟩, ⟨f12, g12, z12⟩⟩ := id hm
  refine lv_aload_n hx hb dX9_rows_0 rfl (lv_at hl 0 rfl) ?_
  refine lv_aload_n hx hb dX9_rows_1 rfl (lv_at hl 0 rfl) ?_
  refine va_get (v := .ref (ad 3)) (C := RX9) (T := TX9) (N := 18) hx hb hts (hin_X9 hmc) hown E.1.1 hP 0 g0 rfl 4 (by decide) (hts _ (hmc _ k_573)) (fun _ h9 => h9) rfl dX9_rows_2 ?_
  refine lv_aload_n hx hb dX9_rows_5 rfl (lv_at hl 0 rfl) ?_
  refine va_get (v := .int (nI 0)) (C := RX9) (T := TX9) (N := 18) hx hb hts (hin_X9 hmc) hown E.1.1 hP 0 g0 rfl 5 (by decide) (hts _ (hmc _ k_574)) (fun _ h9 => h9) rfl dX9_rows_6 ?_
  refine lv_iconst (v := nI 0) hx hb dX9_rows_9 (by decide +kernel) ?_
  refine hc_i E hD hS (va_runV (As := [.ref (ad 3), .int (nI 0), .int (nI 0)]) (rest := []) ⟨hx, hb, hml, hown, hts⟩ ((m_join0 l D K tv ws ad 0 0 (-2) hm (ad 3)) H.size) (cwV 3 hts (hGV hmc k_727 k_729 k_14 k_29 k_730) rfl rfl rfl (by decide +kernel) ⟨Nat.le_of_ble_eq_true rfl, Nat.le_of_ble_eq_true rfl⟩) (hpreV E hP hD hS g0 rfl) rfl rfl hl.1 rfl (lv_room (Nat.le_of_ble_eq_true rfl)) dX9_rows_10 ⟨(Nat.le_refl _), (Nat.le_refl _)⟩) (fun r2 ws1 H locs hp hP hD hS => ?_)
  obtain ⟨rfl, hp⟩ := hp
  refine lv_istore_n (lv' := [(1, .int (nI 0)), (0, .ref (ad 0))]) hx hb dX9_rows_13 rfl hl (by decide) rfl (fun ls hl => ?_)
  refine lv_iload_n hx hb dX9_rows_14 rfl (lv_at hl 0 rfl) ?_
  refine lv_if_ge (tgt := 23) hx hb dX9_rows_15 (by decide) (fun c1 => ?_) (fun c1 => ?_)
  · refine lv_iload_n hx hb dX9_rows_23 rfl (lv_at hl 0 rfl) ?_
    subst hAe
    exact W.iret (v := nI 0) hx hb hr (fun t ht _ => ⟨⟨nI 0, ws1, rfl, rfl, by rw [ht]; exact hP, hD⟩, hS.F ht⟩) hS.2.2 dX9_rows_24
  · first | exact absurd c1 (by decide +kernel) | exact absurd (by decide +kernel) c1

