set_option maxHeartbeats 4000000 in
set_option maxRecDepth 100000 in
/-- the reference, fresh: sortBy -/
theorem c_X9_sortBy (l : Launch) (D : va_G) (K : Nat → ClassId) (tv : Nat) (ws : va_W) (ad : Nat → Nat) (lz : Int64) (fd : Int32) (hm : hMs K ad ws lz 1 fd) (v : Nat) (hv : v < 8) : hV l D (hTy K) tv yX9_sortBy cX9_sortBy 5 none ({ frames := 0, cells := 0, slots := 0, locals := 0 }) [.ref (ad 0), .int (nI v)] ws (fun ws1 => hMs K ad ws1 lz 1 fd) := by
  intro sz
  refine Met.ofW (cc := cX9_sortBy) (maxL := 5) (ret := none) (by decide) rfl ?_
  intro p e s m args below meth c s₁ B hml hv0
  obtain ⟨rfl, rfl, E, hP, hD⟩ := hentry hv0
  have hx := B.exec
  have hb := B.bytes
  have hr := B.returns
  have hts := atoms_spec (ws := hC yX9_sortBy cX9_sortBy 5 none) B.pre
  have hown : s.vm.findClass RX9 = some m.cls := findClass_of_methodNamed B.named
  have hlocks := B.notSynchronized
  generalize hAe : va_A ws s.heap.size = A at hD E ⊢
  have hl := lv_entry ([.ref (ad 0), .int (nI v)]) (n := 5) (Nat.le_of_ble_eq_true rfl)
  rw [lg_entry_eq]
  generalize (lg_sl ([.ref (ad 0), .int (nI v)]) ++ List.replicate (5 - (lg_sl ([.ref (ad 0), .int (nI v)])).length) Slot.unset).toArray = ls at hl ⊢
  have hl : lv_has ls 5 [(0, .ref (ad 0)), (1, .int (nI v))] := hl
  refine hat0 (fun H hHe => ?_)
  have hP : va_P D vwCl ws H := by rw [hHe]; exact hP
  have hS : va_S A s.heap H [] := by rw [hHe]; exact va_S.rf
  obtain ⟨g0, ⟨f1, g1⟩, ⟨f2, g2⟩, ⟨f3, g3⟩, ⟨f4, g4⟩, ⟨f5, g5⟩, ⟨f6, g6⟩, ⟨f7, g7⟩, ⟨f8, g8, z8⟩, ⟨f9, g9⟩, ⟨f10, g10⟩, ⟨f11, g11, z11⟩, ⟨f12, g12, z12⟩⟩ := id hm
  refine lv_iconst (v := nI 0) hx hb dX9_sortBy_0 (by decide +kernel) ?_
  refine lv_istore_n (lv' := [(2, .int (nI 0)), (0, .ref (ad 0)), (1, .int (nI v))]) hx hb dX9_sortBy_1 rfl hl (by decide) rfl (fun ls hl => ?_)
  refine lv_iconst (v := nI 0) hx hb dX9_sortBy_2 (by decide +kernel) ?_
  refine lv_istore_n (lv' := [(3, .int (nI 0)), (2, .int (nI 0)), (0, .ref (ad 0)), (1, .int (nI v))]) hx hb dX9_sortBy_3 rfl hl (by decide) rfl (fun ls hl => ?_)
  refine hloopW (α := Nat × Nat) 4 5 (fun y => [(3, .int (nI y.2)), (2, .int (nI y.1)), (0, .ref (ad 0)), (1, .int (nI v))]) (fun y w1 => (y.1 ≤ y.2 ∧ y.2 ≤ 64) ∧ hMs K ad w1 lz 1 fd) (fun y => 64 - y.2) (fun _ => 0) (fun _ => 0) ?_ (0, 0) ⟨⟨by decide, by decide⟩, ⟨g0, ⟨_, g1⟩, ⟨_, g2⟩, ⟨_, g3⟩, ⟨_, g4⟩, ⟨_, g5⟩, ⟨_, g6⟩, ⟨_, g7⟩, ⟨_, g8, z8⟩, ⟨_, g9⟩, ⟨_, g10⟩, ⟨_, g11, z11⟩, ⟨_, g12, z12⟩⟩⟩ hP hD hS (lv_sub hl [0, 1, 2, 3] rfl)
  rintro ⟨n, k⟩ w1 H locs ls hI1 hP hD hS hl ih
  dsimp only at hI1 ih
  obtain ⟨⟨hnk, hk⟩, hm1⟩ := hI1
  have hl : lv_has ls 5 [(3, .int (nI k)), (2, .int (nI n)), (0, .ref (ad 0)), (1, .int (nI v))] := hl
  obtain ⟨g0, ⟨f1, g1⟩, ⟨f2, g2⟩, ⟨f3, g3⟩, ⟨f4, g4⟩, ⟨f5, g5⟩, ⟨f6, g6⟩, ⟨f7, g7⟩, ⟨f8, g8, z8⟩, ⟨f9, g9⟩, ⟨f10, g10⟩, ⟨f11, g11, z11⟩, ⟨f12, g12, z12⟩⟩ := id hm1
  refine lv_iload_n hx hb dX9_sortBy_4 rfl (lv_at hl 0 rfl) ?_
  refine lv_bipush (v := nI 64) hx hb dX9_sortBy_5 (by decide +kernel) ?_
  refine lv_icmp_ge (tgt := 74) hx hb dX9_sortBy_7 (by decide) (fun c1 => ?_) (fun c1 => ?_)
  · refine lv_iconst (v := nI 0) hx hb dX9_sortBy_74 (by decide +kernel) ?_
    refine lv_istore_n (lv' := [(3, .int (nI 0)), (2, .int (nI n)), (0, .ref (ad 0)), (1, .int (nI v))]) hx hb dX9_sortBy_75 rfl hl (by decide) rfl (fun ls hl => ?_)
    refine lv_iload_n hx hb dX9_sortBy_76 rfl (lv_at hl 0 rfl) ?_
    refine lv_aload_n hx hb dX9_sortBy_77 rfl (lv_at hl 2 rfl) ?_
    refine va_get (v := .int (nI 1)) (C := RX9) (T := TX9) (N := 18) hx hb hts (hin_X9 hmc) hown E.1.1 hP 0 g0 rfl 14 (by decide) (hts _ (hmc _ k_583)) (fun _ h9 => h9) rfl dX9_sortBy_78 ?_
    refine lv_icmp_ge (tgt := 102) hx hb dX9_sortBy_81 (by decide) (fun c2 => ?_) (fun c2 => ?_)
    · first | exact absurd c2 (by decide +kernel) | exact absurd (by decide +kernel) c2
    · refine lv_aload_n hx hb dX9_sortBy_84 rfl (lv_at hl 2 rfl) ?_
      refine va_get (v := .ref (ad 11)) (C := RX9) (T := TX9) (N := 18) hx hb hts (hin_X9 hmc) hown E.1.1 hP 0 g0 rfl 16 (by decide) (hts _ (hmc _ k_585)) (fun _ h9 => h9) rfl dX9_sortBy_85 ?_
      refine lv_iload_n hx hb dX9_sortBy_88 rfl (lv_at hl 0 rfl) ?_
      refine lv_aload_n hx hb dX9_sortBy_89 rfl (lv_at hl 2 rfl) ?_
      refine va_get (v := .ref (ad 12)) (C := RX9) (T := TX9) (N := 18) hx hb hts (hin_X9 hmc) hown E.1.1 hP 0 g0 rfl 17 (by decide) (hts _ (hmc _ k_586)) (fun _ h9 => h9) rfl dX9_sortBy_90 ?_
      refine lv_iload_n hx hb dX9_sortBy_93 rfl (lv_at hl 0 rfl) ?_
      refine va_iald hx hb E.1.1 hP 12 0 g12 rfl (vp_in_nI (by omega) (by omega)) dX9_sortBy_94 ?_
      refine htopi (v := f12 0) (by rw [nI_clamp (by omega)]) ?_
      refine htopi (v := nI 0) (z12) ?_
      refine va_iast hx hb E.1.1 hP hD hS 11 0 g11 rfl (vp_in_nI (by omega) (by omega)) dX9_sortBy_95 (fun H locs hP hD hS => ?_)
      rw [nI_clamp (show 0 < 2 ^ 31 by omega)] at hP hD
      obtain ⟨ws1, ews1⟩ : ∃ zw : va_W, zw = List.set w1 11 ((ad 11), .inl (K 0, 20000, .inl (upd f11 0 (nI 0)))) := ⟨_, rfl⟩
      have hP : va_P D vwCl ws1 H := by rw [ews1]; exact hP
      have hD : va_D A ws1 := by rw [ews1]; exact hD
      have g0 := (show ws1[0]? = _ from (by rw [ews1]; exact hset_ne (by omega))).trans g0
      have g1 := (show ws1[1]? = _ from (by rw [ews1]; exact hset_ne (by omega))).trans g1
      have g2 := (show ws1[2]? = _ from (by rw [ews1]; exact hset_ne (by omega))).trans g2
      have g3 := (show ws1[3]? = _ from (by rw [ews1]; exact hset_ne (by omega))).trans g3
      have g4 := (show ws1[4]? = _ from (by rw [ews1]; exact hset_ne (by omega))).trans g4
      have g5 := (show ws1[5]? = _ from (by rw [ews1]; exact hset_ne (by omega))).trans g5
      have g6 := (show ws1[6]? = _ from (by rw [ews1]; exact hset_ne (by omega))).trans g6
      have g7 := (show ws1[7]? = _ from (by rw [ews1]; exact hset_ne (by omega))).trans g7
      have g8 := (show ws1[8]? = _ from (by rw [ews1]; exact hset_ne (by omega))).trans g8
      have g9 := (show ws1[9]? = _ from (by rw [ews1]; exact hset_ne (by omega))).trans g9
      have g10 := (show ws1[10]? = _ from (by rw [ews1]; exact hset_ne (by omega))).trans g10
      have g11 : ws1[11]? = some ((ad 11), .inl (K 0, 20000, .inl (upd f11 0 (nI 0)))) := by rw [ews1]; exact hset_eq g11
      have g12 := (show ws1[12]? = _ from (by rw [ews1]; exact hset_ne (by omega))).trans g12
      refine lv_iinc (v := nI (0 + 1)) (lv' := [(3, .int (nI (0 + 1))), (2, .int (nI n)), (0, .ref (ad 0)), (1, .int (nI v))]) hx hb dX9_sortBy_96 hl (k := 0) rfl (nI_1 _) (by decide) rfl (fun ls hl => ?_)
      refine lv_goto (tgt := 76) hx hb dX9_sortBy_99 (by decide) ?_
      refine lv_iload_n hx hb dX9_sortBy_76 rfl (lv_at hl 0 rfl) ?_
      refine lv_aload_n hx hb dX9_sortBy_77 rfl (lv_at hl 2 rfl) ?_
      refine va_get (v := .int (nI 1)) (C := RX9) (T := TX9) (N := 18) hx hb hts (hin_X9 hmc) hown E.1.1 hP 0 g0 rfl 14 (by decide) (hts _ (hmc _ k_583)) (fun _ h9 => h9) rfl dX9_sortBy_78 ?_
      refine lv_icmp_ge (tgt := 102) hx hb dX9_sortBy_81 (by decide) (fun c3 => ?_) (fun c3 => ?_)
      · subst hAe
        exact W.vret hx hb hr (fun t ht _ => ⟨⟨ws1, rfl, ⟨g0, ⟨_, g1⟩, ⟨_, g2⟩, ⟨_, g3⟩, ⟨_, g4⟩, ⟨_, g5⟩, ⟨_, g6⟩, ⟨_, g7⟩, ⟨_, g8, z8⟩, ⟨_, g9⟩, ⟨_, g10⟩, ⟨_, g11, hupd0 _ z11⟩, ⟨_, g12, z12⟩⟩, by rw [ht]; exact hP, hD⟩, hS.F ht⟩) hS.2.2 dX9_sortBy_102
      · first | exact absurd c3 (by decide +kernel) | exact absurd (by decide +kernel) c3
  · have hk2 : k < 64 := Nat.not_le.mp (fun z => c1 (nI_le z (by omega)))
    refine lv_iconst (v := nI 0) hx hb dX9_sortBy_10 (by decide +kernel) ?_
    refine lv_istore (lv' := [(4, .int (nI 0)), (3, .int (nI k)), (2, .int (nI n)), (0, .ref (ad 0)), (1, .int (nI v))]) hx hb dX9_sortBy_11 hl (by decide) rfl (fun ls hl => ?_)
    refine lv_iload hx hb dX9_sortBy_13 (lv_at hl 0 rfl) ?_
    refine lv_aload_n hx hb dX9_sortBy_15 rfl (lv_at hl 3 rfl) ?_
    refine va_get (v := .int (nI 1)) (C := RX9) (T := TX9) (N := 18) hx hb hts (hin_X9 hmc) hown E.1.1 hP 0 g0 rfl 14 (by decide) (hts _ (hmc _ k_583)) (fun _ h9 => h9) rfl dX9_sortBy_16 ?_
    refine lv_icmp_ge (tgt := 68) hx hb dX9_sortBy_19 (by decide) (fun c2 => ?_) (fun c2 => ?_)
    · first | exact absurd c2 (by decide +kernel) | exact absurd (by decide +kernel) c2
    · refine lv_aload_n hx hb dX9_sortBy_22 rfl (lv_at hl 3 rfl) ?_
      refine va_get (v := .ref (ad 10)) (C := RX9) (T := TX9) (N := 18) hx hb hts (hin_X9 hmc) hown E.1.1 hP 0 g0 rfl 13 (by decide) (hts _ (hmc _ k_582)) (fun _ h9 => h9) rfl dX9_sortBy_23 ?_
      refine lv_bipush (v := nI 8) hx hb dX9_sortBy_26 (by decide +kernel) ?_
      refine lv_aload_n hx hb dX9_sortBy_28 rfl (lv_at hl 3 rfl) ?_
      refine va_get (v := .ref (ad 11)) (C := RX9) (T := TX9) (N := 18) hx hb hts (hin_X9 hmc) hown E.1.1 hP 0 g0 rfl 16 (by decide) (hts _ (hmc _ k_585)) (fun _ h9 => h9) rfl dX9_sortBy_29 ?_
      refine lv_iload hx hb dX9_sortBy_32 (lv_at hl 0 rfl) ?_
      refine va_iald hx hb E.1.1 hP 11 0 g11 rfl (vp_in_nI (by omega) (by omega)) dX9_sortBy_34 ?_
      refine htopi (v := f11 0) (by rw [nI_clamp (by omega)]) ?_
      refine htopi (v := nI 0) (z11) ?_
      refine lv_imul hx hb dX9_sortBy_35 ?_
      refine htopi (v := nI (8 * 0)) (pk_mul _ _) ?_
      refine lv_iload_n hx hb dX9_sortBy_36 rfl (lv_at hl 4 rfl) ?_
      refine lv_iadd hx hb dX9_sortBy_37 ?_
      refine htopi (v := nI ((8 * 0) + v)) (nI_add _ _) ?_
      refine va_iald hx hb E.1.1 hP 10 0 g10 rfl (vp_in_nI (by omega) (by omega)) dX9_sortBy_38 ?_
      refine htopi (v := f10 ((8 * 0) + v)) (by rw [nI_clamp (by omega)]) ?_
      refine lv_iload_n hx hb dX9_sortBy_39 rfl (lv_at hl 1 rfl) ?_
      refine lv_icmp_eq (tgt := 46) hx hb dX9_sortBy_40 (by decide) (fun c3 => ?_) (fun c3 => ?_)
      · refine lv_aload_n hx hb dX9_sortBy_46 rfl (lv_at hl 3 rfl) ?_
        refine va_get (v := .ref (ad 12)) (C := RX9) (T := TX9) (N := 18) hx hb hts (hin_X9 hmc) hown E.1.1 hP 0 g0 rfl 17 (by decide) (hts _ (hmc _ k_586)) (fun _ h9 => h9) rfl dX9_sortBy_47 ?_
        refine lv_iload_n hx hb dX9_sortBy_50 rfl (lv_at hl 2 rfl) ?_
        refine lv_aload_n hx hb dX9_sortBy_51 rfl (lv_at hl 3 rfl) ?_
        refine va_get (v := .ref (ad 11)) (C := RX9) (T := TX9) (N := 18) hx hb hts (hin_X9 hmc) hown E.1.1 hP 0 g0 rfl 16 (by decide) (hts _ (hmc _ k_585)) (fun _ h9 => h9) rfl dX9_sortBy_52 ?_
        refine lv_iload hx hb dX9_sortBy_55 (lv_at hl 0 rfl) ?_
        refine va_iald hx hb E.1.1 hP 11 0 g11 rfl (vp_in_nI (by omega) (by omega)) dX9_sortBy_57 ?_
        refine htopi (v := f11 0) (by rw [nI_clamp (by omega)]) ?_
        refine htopi (v := nI 0) (z11) ?_
        refine va_iast hx hb E.1.1 hP hD hS 12 0 g12 rfl (vp_in_nI (by omega) (by omega)) dX9_sortBy_58 (fun H locs hP hD hS => ?_)
        rw [nI_clamp (show n < 2 ^ 31 by omega)] at hP hD
        obtain ⟨ws2, ews2⟩ : ∃ zw : va_W, zw = List.set w1 12 ((ad 12), .inl (K 0, 20000, .inl (upd f12 n (nI 0)))) := ⟨_, rfl⟩
        have hP : va_P D vwCl ws2 H := by rw [ews2]; exact hP
        have hD : va_D A ws2 := by rw [ews2]; exact hD
        have g0 := (show ws2[0]? = _ from (by rw [ews2]; exact hset_ne (by omega))).trans g0
        have g1 := (show ws2[1]? = _ from (by rw [ews2]; exact hset_ne (by omega))).trans g1
        have g2 := (show ws2[2]? = _ from (by rw [ews2]; exact hset_ne (by omega))).trans g2
        have g3 := (show ws2[3]? = _ from (by rw [ews2]; exact hset_ne (by omega))).trans g3
        have g4 := (show ws2[4]? = _ from (by rw [ews2]; exact hset_ne (by omega))).trans g4
        have g5 := (show ws2[5]? = _ from (by rw [ews2]; exact hset_ne (by omega))).trans g5
        have g6 := (show ws2[6]? = _ from (by rw [ews2]; exact hset_ne (by omega))).trans g6
        have g7 := (show ws2[7]? = _ from (by rw [ews2]; exact hset_ne (by omega))).trans g7
        have g8 := (show ws2[8]? = _ from (by rw [ews2]; exact hset_ne (by omega))).trans g8
        have g9 := (show ws2[9]? = _ from (by rw [ews2]; exact hset_ne (by omega))).trans g9
        have g10 := (show ws2[10]? = _ from (by rw [ews2]; exact hset_ne (by omega))).trans g10
        have g11 := (show ws2[11]? = _ from (by rw [ews2]; exact hset_ne (by omega))).trans g11
        have g12 : ws2[12]? = some ((ad 12), .inl (K 0, 20000, .inl (upd f12 n (nI 0)))) := by rw [ews2]; exact hset_eq g12
        refine lv_iinc (v := nI (n + 1)) (lv' := [(2, .int (nI (n + 1))), (4, .int (nI 0)), (3, .int (nI k)), (0, .ref (ad 0)), (1, .int (nI v))]) hx hb dX9_sortBy_59 hl (k := 2) rfl (nI_1 _) (by decide) rfl (fun ls hl => ?_)
        refine lv_iinc (v := nI (0 + 1)) (lv' := [(4, .int (nI (0 + 1))), (2, .int (nI (n + 1))), (3, .int (nI k)), (0, .ref (ad 0)), (1, .int (nI v))]) hx hb dX9_sortBy_62 hl (k := 1) rfl (nI_1 _) (by decide) rfl (fun ls hl => ?_)
        refine lv_goto (tgt := 13) hx hb dX9_sortBy_65 (by decide) ?_
        refine lv_iload hx hb dX9_sortBy_13 (lv_at hl 0 rfl) ?_
        refine lv_aload_n hx hb dX9_sortBy_15 rfl (lv_at hl 3 rfl) ?_
        refine va_get (v := .int (nI 1)) (C := RX9) (T := TX9) (N := 18) hx hb hts (hin_X9 hmc) hown E.1.1 hP 0 g0 rfl 14 (by decide) (hts _ (hmc _ k_583)) (fun _ h9 => h9) rfl dX9_sortBy_16 ?_
        refine lv_icmp_ge (tgt := 68) hx hb dX9_sortBy_19 (by decide) (fun c4 => ?_) (fun c4 => ?_)
        · refine lv_iinc (v := nI (k + 1)) (lv' := [(3, .int (nI (k + 1))), (4, .int (nI (0 + 1))), (2, .int (nI (n + 1))), (0, .ref (ad 0)), (1, .int (nI v))]) hx hb dX9_sortBy_68 hl (k := 2) rfl (nI_1 _) (by decide) rfl (fun ls hl => ?_)
          refine lv_goto (tgt := 4) hx hb dX9_sortBy_71 (by decide) ?_
          exact ih (n + 1, k + 1) _ H locs ls ⟨⟨by show n + 1 ≤ k + 1; omega, by show k + 1 ≤ 64; omega⟩, ⟨g0, ⟨_, g1⟩, ⟨_, g2⟩, ⟨_, g3⟩, ⟨_, g4⟩, ⟨_, g5⟩, ⟨_, g6⟩, ⟨_, g7⟩, ⟨_, g8, z8⟩, ⟨_, g9⟩, ⟨_, g10⟩, ⟨_, g11, z11⟩, ⟨_, g12, hupd0 _ z12⟩⟩⟩ (by show 64 - (k + 1) < 64 - k; omega) hP hD hS (lv_sub hl [0, 2, 3, 4] rfl)
        · first | exact absurd c4 (by decide +kernel) | exact absurd (by decide +kernel) c4
      · refine lv_goto (tgt := 62) hx hb dX9_sortBy_43 (by decide) ?_
        refine lv_iinc (v := nI (0 + 1)) (lv' := [(4, .int (nI (0 + 1))), (3, .int (nI k)), (2, .int (nI n)), (0, .ref (ad 0)), (1, .int (nI v))]) hx hb dX9_sortBy_62 hl (k := 0) rfl (nI_1 _) (by decide) rfl (fun ls hl => ?_)
        refine lv_goto (tgt := 13) hx hb dX9_sortBy_65 (by decide) ?_
        refine lv_iload hx hb dX9_sortBy_13 (lv_at hl 0 rfl) ?_
        refine lv_aload_n hx hb dX9_sortBy_15 rfl (lv_at hl 3 rfl) ?_
        refine va_get (v := .int (nI 1)) (C := RX9) (T := TX9) (N := 18) hx hb hts (hin_X9 hmc) hown E.1.1 hP 0 g0 rfl 14 (by decide) (hts _ (hmc _ k_583)) (fun _ h9 => h9) rfl dX9_sortBy_16 ?_
        refine lv_icmp_ge (tgt := 68) hx hb dX9_sortBy_19 (by decide) (fun c4 => ?_) (fun c4 => ?_)
        · refine lv_iinc (v := nI (k + 1)) (lv' := [(3, .int (nI (k + 1))), (4, .int (nI (0 + 1))), (2, .int (nI n)), (0, .ref (ad 0)), (1, .int (nI v))]) hx hb dX9_sortBy_68 hl (k := 1) rfl (nI_1 _) (by decide) rfl (fun ls hl => ?_)
          refine lv_goto (tgt := 4) hx hb dX9_sortBy_71 (by decide) ?_
          exact ih (n, k + 1) _ H locs ls ⟨⟨by show n ≤ k + 1; omega, by show k + 1 ≤ 64; omega⟩, ⟨g0, ⟨_, g1⟩, ⟨_, g2⟩, ⟨_, g3⟩, ⟨_, g4⟩, ⟨_, g5⟩, ⟨_, g6⟩, ⟨_, g7⟩, ⟨_, g8, z8⟩, ⟨_, g9⟩, ⟨_, g10⟩, ⟨_, g11, z11⟩, ⟨_, g12, z12⟩⟩⟩ (by show 64 - (k + 1) < 64 - k; omega) hP hD hS (lv_sub hl [0, 2, 3, 4] rfl)
        · first | exact absurd c4 (by decide +kernel) | exact absurd (by decide +kernel) c4


set_option maxHeartbeats 4000000 in
set_option maxRecDepth 100000 in
/-- the reference, fresh: solutions -/
theorem c_X9_solutions (l : Launch) (D : va_G) (K : Nat → ClassId) (tv : Nat) (ws : va_W) (ad : Nat → Nat) (hm : hMs K ad ws 0 0 (-2)) : hI l D (hTy K) tv yX9_solutions cX9_solutions 2 (some .int) ({ frames := 2, cells := 0, slots := 0, locals := 120 }) [.ref (ad 0)] ws (fun r _ => r = nI 1) := by
  intro sz
  refine Met.ofW (cc := cX9_solutions) (maxL := 2) (ret := (some .int)) (by decide) rfl ?_
  intro p e s m args below meth c s₁ B hml hv0
  obtain ⟨rfl, rfl, E, hP, hD⟩ := hentry hv0
  have hx := B.exec
  have hb := B.bytes
  have hr := B.returns
  have hts := atoms_spec (ws := hC yX9_solutions cX9_solutions 2 (some .int)) B.pre
  have hown : s.vm.findClass RX9 = some m.cls := findClass_of_methodNamed B.named
  have hlocks := B.notSynchronized
  generalize hAe : va_A ws s.heap.size = A at hD E ⊢
  have hl := lv_entry ([.ref (ad 0)]) (n := 2) (Nat.le_of_ble_eq_true rfl)
  rw [lg_entry_eq]
  generalize (lg_sl ([.ref (ad 0)]) ++ List.replicate (2 - (lg_sl ([.ref (ad 0)])).length) Slot.unset).toArray = ls at hl ⊢
  have hl : lv_has ls 2 [(0, .ref (ad 0))] := hl
  refine hat0 (fun H hHe => ?_)
  have hP : va_P D vwCl ws H := by rw [hHe]; exact hP
  have hS : va_S A s.heap H [] := by rw [hHe]; exact va_S.rf
  obtain ⟨g0, ⟨f1, g1⟩, ⟨f2, g2⟩, ⟨f3, g3⟩, ⟨f4, g4⟩, ⟨f5, g5⟩, ⟨f6, g6⟩, ⟨f7, g7⟩, ⟨f8, g8, z8⟩, ⟨f9, g9⟩, ⟨f10, g10⟩, ⟨f11, g11, z11⟩, ⟨f12, g12, z12⟩⟩ := id hm
  refine lv_aload_n hx hb dX9_solutions_0 rfl (lv_at hl 0 rfl) ?_
  refine hc_v E hD hS (va_runV (As := []) (rest := []) ⟨hx, hb, hml, hown, hts⟩ ((c_X9_choose l D K tv ws ad 0 0 (-2) hm) H.size) (cwV 0 hts (hGV hmc k_677 k_679 k_8 k_29 k_680) rfl rfl rfl (by decide +kernel) ⟨Nat.le_of_ble_eq_true rfl, Nat.le_of_ble_eq_true rfl⟩) (hpreV E hP hD hS g0 rfl) rfl rfl hl.1 rfl (lv_room (Nat.le_of_ble_eq_true rfl)) dX9_solutions_1 ⟨(Nat.le_refl _), (Nat.le_refl _)⟩) (fun ws1 H locs hp hP hD hS => ?_)
  have hm1 := hp
  obtain ⟨g0, ⟨f1, g1⟩, ⟨f2, g2⟩, ⟨f3, g3⟩, ⟨f4, g4⟩, ⟨f5, g5⟩, ⟨f6, g6⟩, ⟨f7, g7⟩, ⟨f8, g8, z8⟩, ⟨f9, g9⟩, ⟨f10, g10⟩, ⟨f11, g11, z11⟩, ⟨f12, g12, z12⟩⟩ := hp
  refine lv_aload_n hx hb dX9_solutions_4 rfl (lv_at hl 0 rfl) ?_
  refine lv_bipush (v := (-2)) hx hb dX9_solutions_5 (by decide +kernel) ?_
  refine va_put (v := .int (-2)) (ty := .int) (C := RX9) (T := TX9) (N := 18) hx hb hts (hin_X9 hmc) tyX9 tyX9_ok nmX9 hown E.1.1 hP hD hS 0 g0 rfl 15 (by decide) (hts _ (hmc _ k_584)) (fun _ h9 => h9) rfl (by decide +kernel) rfl rfl (Nat.le_of_ble_eq_true rfl) dX9_solutions_7 (fun H locs hP hD hS => ?_)
  have hP : va_P D vwCl ws1 H := by rw [← hset_same g0]; exact hP
  have hD : va_D A ws1 := by rw [← hset_same g0]; exact hD
  refine lv_aload_n hx hb dX9_solutions_10 rfl (lv_at hl 0 rfl) ?_
  refine lv_aload_n hx hb dX9_solutions_11 rfl (lv_at hl 0 rfl) ?_
  refine va_get (v := .ref (ad 6)) (C := RX9) (T := TX9) (N := 18) hx hb hts (hin_X9 hmc) hown E.1.1 hP 0 g0 rfl 8 (by decide) (hts _ (hmc _ k_577)) (fun _ h9 => h9) rfl dX9_solutions_12 ?_
  refine lv_aload_n hx hb dX9_solutions_15 rfl (lv_at hl 0 rfl) ?_
  refine va_get (v := .int (nI 0)) (C := RX9) (T := TX9) (N := 18) hx hb hts (hin_X9 hmc) hown E.1.1 hP 0 g0 rfl 3 (by decide) (hts _ (hmc _ k_572)) (fun _ h9 => h9) rfl dX9_solutions_16 ?_
  refine lv_iconst (v := nI 1) hx hb dX9_solutions_19 (by decide +kernel) ?_
  refine hc_i E hD hS (va_runV (As := [.ref (ad 6), .int (nI 0), .int (nI 1)]) (rest := []) ⟨hx, hb, hml, hown, hts⟩ ((m_join1 l D K tv ws1 ad (lN 0) 0 (-2) hm1 (ad 6)) H.size) (cwV 3 hts (hGV hmc k_727 k_729 k_14 k_29 k_730) rfl rfl rfl (by decide +kernel) ⟨Nat.le_of_ble_eq_true rfl, Nat.le_of_ble_eq_true rfl⟩) (hpreV E hP hD hS g0 rfl) rfl rfl hl.1 rfl (lv_room (Nat.le_of_ble_eq_true rfl)) dX9_solutions_20 ⟨(Nat.le_refl _), (Nat.le_refl _)⟩) (fun r3 ws2 H locs hp hP hD hS => ?_)
  obtain ⟨rfl, hp⟩ := hp
  obtain ⟨g0, ⟨f1, g1⟩, ⟨f2, g2⟩, ⟨f3, g3⟩, ⟨f4, g4⟩, ⟨f5, g5⟩, ⟨f6, g6⟩, ⟨f7, g7⟩, ⟨f8, g8, z8⟩, ⟨f9, g9⟩, ⟨f10, g10⟩, ⟨f11, g11, z11⟩, ⟨f12, g12, z12⟩⟩ := hp
  refine lv_if_ge (tgt := 29) hx hb dX9_solutions_23 (by decide) (fun c1 => ?_) (fun c1 => ?_)
  · refine lv_iconst (v := nI 0) hx hb dX9_solutions_29 (by decide +kernel) ?_
    refine lv_istore_n (lv' := [(1, .int (nI 0)), (0, .ref (ad 0))]) hx hb dX9_solutions_30 rfl hl (by decide) rfl (fun ls hl => ?_)
    refine lv_iload_n hx hb dX9_solutions_31 rfl (lv_at hl 0 rfl) ?_
    refine lv_aload_n hx hb dX9_solutions_32 rfl (lv_at hl 1 rfl) ?_
    refine va_get (v := .int (nI 1)) (C := RX9) (T := TX9) (N := 18) hx hb hts (hin_X9 hmc) hown E.1.1 hP 0 g0 rfl 14 (by decide) (hts _ (hmc _ k_583)) (fun _ h9 => h9) rfl dX9_solutions_33 ?_
    refine lv_icmp_ge (tgt := 52) hx hb dX9_solutions_36 (by decide) (fun c2 => ?_) (fun c2 => ?_)
    · first | exact absurd c2 (by decide +kernel) | exact absurd (by decide +kernel) c2
    · refine lv_aload_n hx hb dX9_solutions_39 rfl (lv_at hl 1 rfl) ?_
      refine va_get (v := .ref (ad 11)) (C := RX9) (T := TX9) (N := 18) hx hb hts (hin_X9 hmc) hown E.1.1 hP 0 g0 rfl 16 (by decide) (hts _ (hmc _ k_585)) (fun _ h9 => h9) rfl dX9_solutions_40 ?_
      refine lv_iload_n hx hb dX9_solutions_43 rfl (lv_at hl 0 rfl) ?_
      refine lv_iload_n hx hb dX9_solutions_44 rfl (lv_at hl 0 rfl) ?_
      refine va_iast hx hb E.1.1 hP hD hS 11 0 g11 rfl (vp_in_nI (by omega) (by omega)) dX9_solutions_45 (fun H locs hP hD hS => ?_)
      rw [nI_clamp (show 0 < 2 ^ 31 by omega)] at hP hD
      obtain ⟨ws4, ews4⟩ : ∃ zw : va_W, zw = List.set ws2 11 ((ad 11), .inl (K 0, 20000, .inl (upd f11 0 (nI 0)))) := ⟨_, rfl⟩
      have hP : va_P D vwCl ws4 H := by rw [ews4]; exact hP
      have hD : va_D A ws4 := by rw [ews4]; exact hD
      have g0 := (show ws4[0]? = _ from (by rw [ews4]; exact hset_ne (by omega))).trans g0
      have g1 := (show ws4[1]? = _ from (by rw [ews4]; exact hset_ne (by omega))).trans g1
      have g2 := (show ws4[2]? = _ from (by rw [ews4]; exact hset_ne (by omega))).trans g2
      have g3 := (show ws4[3]? = _ from (by rw [ews4]; exact hset_ne (by omega))).trans g3
      have g4 := (show ws4[4]? = _ from (by rw [ews4]; exact hset_ne (by omega))).trans g4
      have g5 := (show ws4[5]? = _ from (by rw [ews4]; exact hset_ne (by omega))).trans g5
      have g6 := (show ws4[6]? = _ from (by rw [ews4]; exact hset_ne (by omega))).trans g6
      have g7 := (show ws4[7]? = _ from (by rw [ews4]; exact hset_ne (by omega))).trans g7
      have g8 := (show ws4[8]? = _ from (by rw [ews4]; exact hset_ne (by omega))).trans g8
      have g9 := (show ws4[9]? = _ from (by rw [ews4]; exact hset_ne (by omega))).trans g9
      have g10 := (show ws4[10]? = _ from (by rw [ews4]; exact hset_ne (by omega))).trans g10
      have g11 : ws4[11]? = some ((ad 11), .inl (K 0, 20000, .inl (upd f11 0 (nI 0)))) := by rw [ews4]; exact hset_eq g11
      have g12 := (show ws4[12]? = _ from (by rw [ews4]; exact hset_ne (by omega))).trans g12
      refine lv_iinc (v := nI (0 + 1)) (lv' := [(1, .int (nI (0 + 1))), (0, .ref (ad 0))]) hx hb dX9_solutions_46 hl (k := 0) rfl (nI_1 _) (by decide) rfl (fun ls hl => ?_)
      refine lv_goto (tgt := 31) hx hb dX9_solutions_49 (by decide) ?_
      refine lv_iload_n hx hb dX9_solutions_31 rfl (lv_at hl 0 rfl) ?_
      refine lv_aload_n hx hb dX9_solutions_32 rfl (lv_at hl 1 rfl) ?_
      refine va_get (v := .int (nI 1)) (C := RX9) (T := TX9) (N := 18) hx hb hts (hin_X9 hmc) hown E.1.1 hP 0 g0 rfl 14 (by decide) (hts _ (hmc _ k_583)) (fun _ h9 => h9) rfl dX9_solutions_33 ?_
      refine lv_icmp_ge (tgt := 52) hx hb dX9_solutions_36 (by decide) (fun c3 => ?_) (fun c3 => ?_)
      · refine lv_bipush (v := nI 7) hx hb dX9_solutions_52 (by decide +kernel) ?_
        refine lv_istore_n (lv' := [(1, .int (nI 7)), (0, .ref (ad 0))]) hx hb dX9_solutions_54 rfl hl (by decide) rfl (fun ls hl => ?_)
        have hm2 : hMs K ad ws4 (lN 0) 1 (-2) := ⟨g0, ⟨_, g1⟩, ⟨_, g2⟩, ⟨_, g3⟩, ⟨_, g4⟩, ⟨_, g5⟩, ⟨_, g6⟩, ⟨_, g7⟩, ⟨_, g8, z8⟩, ⟨_, g9⟩, ⟨_, g10⟩, ⟨_, g11, hupd0 _ z11⟩, ⟨_, g12, z12⟩⟩
        refine lv_iload_n hx hb dX9_solutions_55 rfl (lv_at hl 0 rfl) ?_
        refine lv_if_lt (tgt := 70) hx hb dX9_solutions_56 (by decide) (fun d8 => ?_) (fun d8 => ?_)
        · first | exact absurd d8 (by decide +kernel) | exact absurd (by decide +kernel) d8
        · refine lv_aload_n hx hb dX9_solutions_59 rfl (lv_at hl 1 rfl) ?_
          refine lv_iload_n hx hb dX9_solutions_60 rfl (lv_at hl 0 rfl) ?_
          refine hc_v E hD hS (va_runV (As := [.int (nI 7)]) (rest := []) ⟨hx, hb, hml, hown, hts⟩ ((c_X9_sortBy l D K tv ws4 ad (lN 0) (-2) hm2 7 (by decide)) H.size) (cwV 1 hts (hGV hmc k_747 k_749 k_18 k_29 k_750) rfl rfl rfl (by decide +kernel) ⟨Nat.le_of_ble_eq_true rfl, Nat.le_of_ble_eq_true rfl⟩) (hpreV E hP hD hS g0 rfl) rfl rfl hl.1 rfl (lv_room (Nat.le_of_ble_eq_true rfl)) dX9_solutions_61 ⟨(Nat.le_refl _), (Nat.le_refl _)⟩) (fun ws5 H locs hm2 hP hD hS => ?_)
          refine lv_iinc (v := nI 6) (lv' := [(1, .int (nI 6)), (0, .ref (ad 0))]) hx hb dX9_solutions_64 hl (k := 0) rfl (by decide +kernel) (by decide) rfl (fun ls hl => ?_)
          obtain ⟨g0, ⟨f1, g1⟩, ⟨f2, g2⟩, ⟨f3, g3⟩, ⟨f4, g4⟩, ⟨f5, g5⟩, ⟨f6, g6⟩, ⟨f7, g7⟩, ⟨f8, g8, z8⟩, ⟨f9, g9⟩, ⟨f10, g10⟩, ⟨f11, g11, z11⟩, ⟨f12, g12, z12⟩⟩ := id hm2
          refine lv_goto (tgt := 55) hx hb dX9_solutions_67 (by decide) ?_
          refine lv_iload_n hx hb dX9_solutions_55 rfl (lv_at hl 0 rfl) ?_
          refine lv_if_lt (tgt := 70) hx hb dX9_solutions_56 (by decide) (fun d7 => ?_) (fun d7 => ?_)
          · first | exact absurd d7 (by decide +kernel) | exact absurd (by decide +kernel) d7
          · refine lv_aload_n hx hb dX9_solutions_59 rfl (lv_at hl 1 rfl) ?_
            refine lv_iload_n hx hb dX9_solutions_60 rfl (lv_at hl 0 rfl) ?_
            refine hc_v E hD hS (va_runV (As := [.int (nI 6)]) (rest := []) ⟨hx, hb, hml, hown, hts⟩ ((c_X9_sortBy l D K tv ws5 ad (lN 0) (-2) hm2 6 (by decide)) H.size) (cwV 1 hts (hGV hmc k_747 k_749 k_18 k_29 k_750) rfl rfl rfl (by decide +kernel) ⟨Nat.le_of_ble_eq_true rfl, Nat.le_of_ble_eq_true rfl⟩) (hpreV E hP hD hS g0 rfl) rfl rfl hl.1 rfl (lv_room (Nat.le_of_ble_eq_true rfl)) dX9_solutions_61 ⟨(Nat.le_refl _), (Nat.le_refl _)⟩) (fun ws6 H locs hm2 hP hD hS => ?_)
            refine lv_iinc (v := nI 5) (lv' := [(1, .int (nI 5)), (0, .ref (ad 0))]) hx hb dX9_solutions_64 hl (k := 0) rfl (by decide +kernel) (by decide) rfl (fun ls hl => ?_)
            obtain ⟨g0, ⟨f1, g1⟩, ⟨f2, g2⟩, ⟨f3, g3⟩, ⟨f4, g4⟩, ⟨f5, g5⟩, ⟨f6, g6⟩, ⟨f7, g7⟩, ⟨f8, g8, z8⟩, ⟨f9, g9⟩, ⟨f10, g10⟩, ⟨f11, g11, z11⟩, ⟨f12, g12, z12⟩⟩ := id hm2
            refine lv_goto (tgt := 55) hx hb dX9_solutions_67 (by decide) ?_
            refine lv_iload_n hx hb dX9_solutions_55 rfl (lv_at hl 0 rfl) ?_
            refine lv_if_lt (tgt := 70) hx hb dX9_solutions_56 (by decide) (fun d6 => ?_) (fun d6 => ?_)
            · first | exact absurd d6 (by decide +kernel) | exact absurd (by decide +kernel) d6
            · refine lv_aload_n hx hb dX9_solutions_59 rfl (lv_at hl 1 rfl) ?_
              refine lv_iload_n hx hb dX9_solutions_60 rfl (lv_at hl 0 rfl) ?_
              refine hc_v E hD hS (va_runV (As := [.int (nI 5)]) (rest := []) ⟨hx, hb, hml, hown, hts⟩ ((c_X9_sortBy l D K tv ws6 ad (lN 0) (-2) hm2 5 (by decide)) H.size) (cwV 1 hts (hGV hmc k_747 k_749 k_18 k_29 k_750) rfl rfl rfl (by decide +kernel) ⟨Nat.le_of_ble_eq_true rfl, Nat.le_of_ble_eq_true rfl⟩) (hpreV E hP hD hS g0 rfl) rfl rfl hl.1 rfl (lv_room (Nat.le_of_ble_eq_true rfl)) dX9_solutions_61 ⟨(Nat.le_refl _), (Nat.le_refl _)⟩) (fun ws7 H locs hm2 hP hD hS => ?_)
              refine lv_iinc (v := nI 4) (lv' := [(1, .int (nI 4)), (0, .ref (ad 0))]) hx hb dX9_solutions_64 hl (k := 0) rfl (by decide +kernel) (by decide) rfl (fun ls hl => ?_)
              obtain ⟨g0, ⟨f1, g1⟩, ⟨f2, g2⟩, ⟨f3, g3⟩, ⟨f4, g4⟩, ⟨f5, g5⟩, ⟨f6, g6⟩, ⟨f7, g7⟩, ⟨f8, g8, z8⟩, ⟨f9, g9⟩, ⟨f10, g10⟩, ⟨f11, g11, z11⟩, ⟨f12, g12, z12⟩⟩ := id hm2
              refine lv_goto (tgt := 55) hx hb dX9_solutions_67 (by decide) ?_
              refine lv_iload_n hx hb dX9_solutions_55 rfl (lv_at hl 0 rfl) ?_
              refine lv_if_lt (tgt := 70) hx hb dX9_solutions_56 (by decide) (fun d5 => ?_) (fun d5 => ?_)
              · first | exact absurd d5 (by decide +kernel) | exact absurd (by decide +kernel) d5
              · refine lv_aload_n hx hb dX9_solutions_59 rfl (lv_at hl 1 rfl) ?_
                refine lv_iload_n hx hb dX9_solutions_60 rfl (lv_at hl 0 rfl) ?_
                refine hc_v E hD hS (va_runV (As := [.int (nI 4)]) (rest := []) ⟨hx, hb, hml, hown, hts⟩ ((c_X9_sortBy l D K tv ws7 ad (lN 0) (-2) hm2 4 (by decide)) H.size) (cwV 1 hts (hGV hmc k_747 k_749 k_18 k_29 k_750) rfl rfl rfl (by decide +kernel) ⟨Nat.le_of_ble_eq_true rfl, Nat.le_of_ble_eq_true rfl⟩) (hpreV E hP hD hS g0 rfl) rfl rfl hl.1 rfl (lv_room (Nat.le_of_ble_eq_true rfl)) dX9_solutions_61 ⟨(Nat.le_refl _), (Nat.le_refl _)⟩) (fun ws8 H locs hm2 hP hD hS => ?_)
                refine lv_iinc (v := nI 3) (lv' := [(1, .int (nI 3)), (0, .ref (ad 0))]) hx hb dX9_solutions_64 hl (k := 0) rfl (by decide +kernel) (by decide) rfl (fun ls hl => ?_)
                obtain ⟨g0, ⟨f1, g1⟩, ⟨f2, g2⟩, ⟨f3, g3⟩, ⟨f4, g4⟩, ⟨f5, g5⟩, ⟨f6, g6⟩, ⟨f7, g7⟩, ⟨f8, g8, z8⟩, ⟨f9, g9⟩, ⟨f10, g10⟩, ⟨f11, g11, z11⟩, ⟨f12, g12, z12⟩⟩ := id hm2
                refine lv_goto (tgt := 55) hx hb dX9_solutions_67 (by decide) ?_
                refine lv_iload_n hx hb dX9_solutions_55 rfl (lv_at hl 0 rfl) ?_
                refine lv_if_lt (tgt := 70) hx hb dX9_solutions_56 (by decide) (fun d4 => ?_) (fun d4 => ?_)
                · first | exact absurd d4 (by decide +kernel) | exact absurd (by decide +kernel) d4
                · refine lv_aload_n hx hb dX9_solutions_59 rfl (lv_at hl 1 rfl) ?_
                  refine lv_iload_n hx hb dX9_solutions_60 rfl (lv_at hl 0 rfl) ?_
                  refine hc_v E hD hS (va_runV (As := [.int (nI 3)]) (rest := []) ⟨hx, hb, hml, hown, hts⟩ ((c_X9_sortBy l D K tv ws8 ad (lN 0) (-2) hm2 3 (by decide)) H.size) (cwV 1 hts (hGV hmc k_747 k_749 k_18 k_29 k_750) rfl rfl rfl (by decide +kernel) ⟨Nat.le_of_ble_eq_true rfl, Nat.le_of_ble_eq_true rfl⟩) (hpreV E hP hD hS g0 rfl) rfl rfl hl.1 rfl (lv_room (Nat.le_of_ble_eq_true rfl)) dX9_solutions_61 ⟨(Nat.le_refl _), (Nat.le_refl _)⟩) (fun ws9 H locs hm2 hP hD hS => ?_)
                  refine lv_iinc (v := nI 2) (lv' := [(1, .int (nI 2)), (0, .ref (ad 0))]) hx hb dX9_solutions_64 hl (k := 0) rfl (by decide +kernel) (by decide) rfl (fun ls hl => ?_)
                  obtain ⟨g0, ⟨f1, g1⟩, ⟨f2, g2⟩, ⟨f3, g3⟩, ⟨f4, g4⟩, ⟨f5, g5⟩, ⟨f6, g6⟩, ⟨f7, g7⟩, ⟨f8, g8, z8⟩, ⟨f9, g9⟩, ⟨f10, g10⟩, ⟨f11, g11, z11⟩, ⟨f12, g12, z12⟩⟩ := id hm2
                  refine lv_goto (tgt := 55) hx hb dX9_solutions_67 (by decide) ?_
                  refine lv_iload_n hx hb dX9_solutions_55 rfl (lv_at hl 0 rfl) ?_
                  refine lv_if_lt (tgt := 70) hx hb dX9_solutions_56 (by decide) (fun d3 => ?_) (fun d3 => ?_)
                  · first | exact absurd d3 (by decide +kernel) | exact absurd (by decide +kernel) d3
                  · refine lv_aload_n hx hb dX9_solutions_59 rfl (lv_at hl 1 rfl) ?_
                    refine lv_iload_n hx hb dX9_solutions_60 rfl (lv_at hl 0 rfl) ?_
                    refine hc_v E hD hS (va_runV (As := [.int (nI 2)]) (rest := []) ⟨hx, hb, hml, hown, hts⟩ ((c_X9_sortBy l D K tv ws9 ad (lN 0) (-2) hm2 2 (by decide)) H.size) (cwV 1 hts (hGV hmc k_747 k_749 k_18 k_29 k_750) rfl rfl rfl (by decide +kernel) ⟨Nat.le_of_ble_eq_true rfl, Nat.le_of_ble_eq_true rfl⟩) (hpreV E hP hD hS g0 rfl) rfl rfl hl.1 rfl (lv_room (Nat.le_of_ble_eq_true rfl)) dX9_solutions_61 ⟨(Nat.le_refl _), (Nat.le_refl _)⟩) (fun ws10 H locs hm2 hP hD hS => ?_)
                    refine lv_iinc (v := nI 1) (lv' := [(1, .int (nI 1)), (0, .ref (ad 0))]) hx hb dX9_solutions_64 hl (k := 0) rfl (by decide +kernel) (by decide) rfl (fun ls hl => ?_)
                    obtain ⟨g0, ⟨f1, g1⟩, ⟨f2, g2⟩, ⟨f3, g3⟩, ⟨f4, g4⟩, ⟨f5, g5⟩, ⟨f6, g6⟩, ⟨f7, g7⟩, ⟨f8, g8, z8⟩, ⟨f9, g9⟩, ⟨f10, g10⟩, ⟨f11, g11, z11⟩, ⟨f12, g12, z12⟩⟩ := id hm2
                    refine lv_goto (tgt := 55) hx hb dX9_solutions_67 (by decide) ?_
                    refine lv_iload_n hx hb dX9_solutions_55 rfl (lv_at hl 0 rfl) ?_
                    refine lv_if_lt (tgt := 70) hx hb dX9_solutions_56 (by decide) (fun d2 => ?_) (fun d2 => ?_)
                    · first | exact absurd d2 (by decide +kernel) | exact absurd (by decide +kernel) d2
                    · refine lv_aload_n hx hb dX9_solutions_59 rfl (lv_at hl 1 rfl) ?_
                      refine lv_iload_n hx hb dX9_solutions_60 rfl (lv_at hl 0 rfl) ?_
                      refine hc_v E hD hS (va_runV (As := [.int (nI 1)]) (rest := []) ⟨hx, hb, hml, hown, hts⟩ ((c_X9_sortBy l D K tv ws10 ad (lN 0) (-2) hm2 1 (by decide)) H.size) (cwV 1 hts (hGV hmc k_747 k_749 k_18 k_29 k_750) rfl rfl rfl (by decide +kernel) ⟨Nat.le_of_ble_eq_true rfl, Nat.le_of_ble_eq_true rfl⟩) (hpreV E hP hD hS g0 rfl) rfl rfl hl.1 rfl (lv_room (Nat.le_of_ble_eq_true rfl)) dX9_solutions_61 ⟨(Nat.le_refl _), (Nat.le_refl _)⟩) (fun ws11 H locs hm2 hP hD hS => ?_)
                      refine lv_iinc (v := nI 0) (lv' := [(1, .int (nI 0)), (0, .ref (ad 0))]) hx hb dX9_solutions_64 hl (k := 0) rfl (by decide +kernel) (by decide) rfl (fun ls hl => ?_)
                      obtain ⟨g0, ⟨f1, g1⟩, ⟨f2, g2⟩, ⟨f3, g3⟩, ⟨f4, g4⟩, ⟨f5, g5⟩, ⟨f6, g6⟩, ⟨f7, g7⟩, ⟨f8, g8, z8⟩, ⟨f9, g9⟩, ⟨f10, g10⟩, ⟨f11, g11, z11⟩, ⟨f12, g12, z12⟩⟩ := id hm2
                      refine lv_goto (tgt := 55) hx hb dX9_solutions_67 (by decide) ?_
                      refine lv_iload_n hx hb dX9_solutions_55 rfl (lv_at hl 0 rfl) ?_
                      refine lv_if_lt (tgt := 70) hx hb dX9_solutions_56 (by decide) (fun d1 => ?_) (fun d1 => ?_)
                      · first | exact absurd d1 (by decide +kernel) | exact absurd (by decide +kernel) d1
                      · refine lv_aload_n hx hb dX9_solutions_59 rfl (lv_at hl 1 rfl) ?_
                        refine lv_iload_n hx hb dX9_solutions_60 rfl (lv_at hl 0 rfl) ?_
                        refine hc_v E hD hS (va_runV (As := [.int (nI 0)]) (rest := []) ⟨hx, hb, hml, hown, hts⟩ ((c_X9_sortBy l D K tv ws11 ad (lN 0) (-2) hm2 0 (by decide)) H.size) (cwV 1 hts (hGV hmc k_747 k_749 k_18 k_29 k_750) rfl rfl rfl (by decide +kernel) ⟨Nat.le_of_ble_eq_true rfl, Nat.le_of_ble_eq_true rfl⟩) (hpreV E hP hD hS g0 rfl) rfl rfl hl.1 rfl (lv_room (Nat.le_of_ble_eq_true rfl)) dX9_solutions_61 ⟨(Nat.le_refl _), (Nat.le_refl _)⟩) (fun ws12 H locs hm2 hP hD hS => ?_)
                        refine lv_iinc (v := (-1)) (lv' := [(1, .int (-1)), (0, .ref (ad 0))]) hx hb dX9_solutions_64 hl (k := 0) rfl (by decide +kernel) (by decide) rfl (fun ls hl => ?_)
                        obtain ⟨g0, ⟨f1, g1⟩, ⟨f2, g2⟩, ⟨f3, g3⟩, ⟨f4, g4⟩, ⟨f5, g5⟩, ⟨f6, g6⟩, ⟨f7, g7⟩, ⟨f8, g8, z8⟩, ⟨f9, g9⟩, ⟨f10, g10⟩, ⟨f11, g11, z11⟩, ⟨f12, g12, z12⟩⟩ := id hm2
                        refine lv_goto (tgt := 55) hx hb dX9_solutions_67 (by decide) ?_
                        refine lv_iload_n hx hb dX9_solutions_55 rfl (lv_at hl 0 rfl) ?_
                        refine lv_if_lt (tgt := 70) hx hb dX9_solutions_56 (by decide) (fun d0 => ?_) (fun d0 => ?_)
                        · refine lv_aload_n hx hb dX9_solutions_70 rfl (lv_at hl 1 rfl) ?_
                          refine lv_aload_n hx hb dX9_solutions_71 rfl (lv_at hl 1 rfl) ?_
                          refine va_get (v := .int (nI 1)) (C := RX9) (T := TX9) (N := 18) hx hb hts (hin_X9 hmc) hown E.1.1 hP 0 g0 rfl 14 (by decide) (hts _ (hmc _ k_583)) (fun _ h9 => h9) rfl dX9_solutions_72 ?_
                          refine va_put (v := .int (nI 1)) (ty := .int) (C := RX9) (T := TX9) (N := 18) hx hb hts (hin_X9 hmc) tyX9 tyX9_ok nmX9 hown E.1.1 hP hD hS 0 g0 rfl 15 (by decide) (hts _ (hmc _ k_584)) (fun _ h9 => h9) rfl (by decide +kernel) rfl rfl (Nat.le_of_ble_eq_true rfl) dX9_solutions_75 (fun H locs hP hD hS => ?_)
                          obtain ⟨ws13, ews13⟩ : ∃ zw : va_W, zw = List.set ws12 0 ((ad 0), .inr (iM, [.ref (ad 1), .int (nI 0), .ref (ad 2), .int (nI 0), .ref (ad 3), .int (nI 0), .ref (ad 4), .ref (ad 5), .ref (ad 6), .long (lN 0), .ref (ad 7), .ref (ad 8), .ref (ad 9), .ref (ad 10), .int (nI 1), .int (nI 1), .ref (ad 11), .ref (ad 12)])) := ⟨_, rfl⟩
                          have hP : va_P D vwCl ws13 H := by rw [ews13]; exact hP
                          have hD : va_D A ws13 := by rw [ews13]; exact hD
                          have g0 : ws13[0]? = some ((ad 0), .inr (iM, [.ref (ad 1), .int (nI 0), .ref (ad 2), .int (nI 0), .ref (ad 3), .int (nI 0), .ref (ad 4), .ref (ad 5), .ref (ad 6), .long (lN 0), .ref (ad 7), .ref (ad 8), .ref (ad 9), .ref (ad 10), .int (nI 1), .int (nI 1), .ref (ad 11), .ref (ad 12)])) := by rw [ews13]; exact hset_eq g0
                          have g1 := (show ws13[1]? = _ from (by rw [ews13]; exact hset_ne (by omega))).trans g1
                          have g2 := (show ws13[2]? = _ from (by rw [ews13]; exact hset_ne (by omega))).trans g2
                          have g3 := (show ws13[3]? = _ from (by rw [ews13]; exact hset_ne (by omega))).trans g3
                          have g4 := (show ws13[4]? = _ from (by rw [ews13]; exact hset_ne (by omega))).trans g4
                          have g5 := (show ws13[5]? = _ from (by rw [ews13]; exact hset_ne (by omega))).trans g5
                          have g6 := (show ws13[6]? = _ from (by rw [ews13]; exact hset_ne (by omega))).trans g6
                          have g7 := (show ws13[7]? = _ from (by rw [ews13]; exact hset_ne (by omega))).trans g7
                          have g8 := (show ws13[8]? = _ from (by rw [ews13]; exact hset_ne (by omega))).trans g8
                          have g9 := (show ws13[9]? = _ from (by rw [ews13]; exact hset_ne (by omega))).trans g9
                          have g10 := (show ws13[10]? = _ from (by rw [ews13]; exact hset_ne (by omega))).trans g10
                          have g11 := (show ws13[11]? = _ from (by rw [ews13]; exact hset_ne (by omega))).trans g11
                          have g12 := (show ws13[12]? = _ from (by rw [ews13]; exact hset_ne (by omega))).trans g12
                          refine lv_aload_n hx hb dX9_solutions_78 rfl (lv_at hl 1 rfl) ?_
                          refine va_get (v := .int (nI 1)) (C := RX9) (T := TX9) (N := 18) hx hb hts (hin_X9 hmc) hown E.1.1 hP 0 g0 rfl 15 (by decide) (hts _ (hmc _ k_584)) (fun _ h9 => h9) rfl dX9_solutions_79 ?_
                          subst hAe
                          exact W.iret (v := nI 1) hx hb hr (fun t ht _ => ⟨⟨nI 1, ws13, rfl, rfl, by rw [ht]; exact hP, hD⟩, hS.F ht⟩) hS.2.2 dX9_solutions_82
                        · first | exact absurd d0 (by decide +kernel) | exact absurd (by decide +kernel) d0
      · first | exact absurd c3 (by decide +kernel) | exact absurd (by decide +kernel) c3
  · first | exact absurd c1 (by decide +kernel) | exact absurd (by decide +kernel) c1
