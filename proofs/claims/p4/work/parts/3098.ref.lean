set_option maxHeartbeats 4000000 in
set_option maxRecDepth 100000 in
/-- the reference: rows -/
theorem c_X9_rows (l : Launch) (D : va_G) (K : Nat → ClassId) (tv : Nat) (ws : va_W) (ad : Nat → Nat) (S : Nat → Nat → Nat → Prop) (cnt np : Nat) (o : List Nat) (hms : hMS K ad ws S cnt np o) : hI l D (hTy K) tv yX9_rows cX9_rows 2 (some .int) ({ frames := 3, cells := 0, slots := 0, locals := 180 }) [.ref (ad 0)] ws (fun _ ws1 => hMS K ad ws1 S cnt np o) := by
  intro sz
  refine Met.ofW (cc := cX9_rows) (maxL := 2) (ret := (some .int)) (by decide) rfl ?_
  intro p e s m args below meth c s₁ B hml hv0
  obtain ⟨rfl, rfl, E, hP, hD⟩ := hentry hv0
  have hx := B.exec
  have hb := B.bytes
  have hr := B.returns
  have hts := atoms_spec (ws := hC yX9_rows cX9_rows 2 (some .int)) B.pre
  have hown : s.vm.findClass RX9 = some m.cls := findClass_of_methodNamed B.named
  have hlocks := B.notSynchronized
  generalize hAe : va_A ws s.heap.size = A at hD E ⊢
  have hl := lv_entry ([.ref (ad 0)]) (n := 2) (Nat.le_of_ble_eq_true rfl)
  rw [lg_entry_eq]
  generalize (lg_sl ([.ref (ad 0)]) ++ List.replicate (2 - (lg_sl ([.ref (ad 0)])).length) Slot.unset).toArray = ls at hl ⊢
  have hl : lv_has ls 2 [(0, .ref (ad 0))] := hl
  refine hat0 (fun H hHe => ?_)
  have hP : va_P D vwCl ws H := by rw [hHe]; exact hP
  have hS : va_S A s.heap H [] := by rw [hHe]; exact va_S.rf
  obtain ⟨f, lz, kp, fd, hrx, hrb⟩ := id hms
  obtain ⟨hct, hnp, hnd, hon, hT, hIt, hO, hF⟩ := id hrb
  have g0 := hrx.1
  obtain ⟨I, hIt2⟩ := id hIt
  have hol : o.length ≤ np := hpig np o hnd hon
  refine lv_aload_n hx hb dX9_rows_0 rfl (lv_at hl 0 rfl) ?_
  refine lv_aload_n hx hb dX9_rows_1 rfl (lv_at hl 0 rfl) ?_
  refine va_get (v := .ref (ad 3)) (C := RX9) (T := TX9) (N := 18) hx hb hts (hin_X9 hmc) hown E.1.1 hP 0 g0 rfl 4 (by decide) (hts _ (hmc _ k_573)) (fun _ h9 => h9) rfl dX9_rows_2 ?_
  refine lv_aload_n hx hb dX9_rows_5 rfl (lv_at hl 0 rfl) ?_
  refine va_get (v := .int (nI o.length)) (C := RX9) (T := TX9) (N := 18) hx hb hts (hin_X9 hmc) hown E.1.1 hP 0 g0 rfl 5 (by decide) (hts _ (hmc _ k_574)) (fun _ h9 => h9) rfl dX9_rows_6 ?_
  refine lv_iconst (v := nI 0) hx hb dX9_rows_9 (by decide +kernel) ?_
  refine hc_i E hD hS (va_runV (As := [.ref (ad 3), .int (nI o.length), .int (nI 0)]) (rest := []) ⟨hx, hb, hml, hown, hts⟩ ((c3_join l D K tv ws ad f cnt np o.length lz kp fd hrx hnp hct I hIt2 o.length (by omega) (fun k hk => ⟨o.getD k 0, hon _ (hgetD_mem hk), hO k hk⟩)) H.size) (cwV 3 hts (hGV hmc k_727 k_729 k_14 k_29 k_730) rfl rfl rfl (by decide +kernel) ⟨Nat.le_of_ble_eq_true rfl, Nat.le_of_ble_eq_true rfl⟩) (hpreV E hP hD hS g0 rfl) rfl rfl hl.1 rfl (lv_room (Nat.le_of_ble_eq_true rfl)) dX9_rows_10 ⟨(Nat.le_refl _), (Nat.le_refl _)⟩) (fun r2 ws1 H locs hp hP hD hS => ?_)
  obtain ⟨g, kp1, hrx, hfr, hkp1⟩ := hp
  have hrb1 := hrb.frm (hfr 1 (by decide) (by decide) (by decide) (by decide)) (hfr 2 (by decide) (by decide) (by decide) (by decide)) (hfr 3 (by decide) (by decide) (by decide) (by decide)) (hfr 11 (by decide) (by decide) (by decide) (by decide)) (hfr 12 (by decide) (by decide) (by decide) (by decide))
  have g0 := hrx.1
  refine lv_istore_n (lv' := [(1, .int r2), (0, .ref (ad 0))]) hx hb dX9_rows_13 rfl hl (by decide) rfl (fun ls hl => ?_)
  refine lv_iload_n hx hb dX9_rows_14 rfl (lv_at hl 0 rfl) ?_
  refine lv_if_ge (tgt := 23) hx hb dX9_rows_15 (by decide) (fun c1 => ?_) (fun c1 => ?_)
  · refine lv_iload_n hx hb dX9_rows_23 rfl (lv_at hl 0 rfl) ?_
    subst hAe
    exact W.iret (v := r2) hx hb hr (fun t ht _ => ⟨⟨r2, ws1, rfl, ⟨_, _, _, _, hrx, hrb1⟩, by rw [ht]; exact hP, hD⟩, hS.F ht⟩) hS.2.2 dX9_rows_24
  · refine lv_bipush (v := (-2)) hx hb dX9_rows_18 (by decide +kernel) ?_
    refine lv_goto (tgt := 24) hx hb dX9_rows_20 (by decide) ?_
    subst hAe
    exact W.iret (v := (-2)) hx hb hr (fun t ht _ => ⟨⟨(-2), ws1, rfl, ⟨_, _, _, _, hrx, hrb1⟩, by rw [ht]; exact hP, hD⟩, hS.F ht⟩) hS.2.2 dX9_rows_24

set_option maxHeartbeats 4000000 in
set_option maxRecDepth 100000 in
/-- the reference: sortBy -/
theorem c_X9_sortBy (l : Launch) (D : va_G) (K : Nat → ClassId) (tv : Nat) (ws : va_W) (ad : Nat → Nat) (f : Nat → Nat → Int32) (ct pt md : Nat) (lz : Int64) (kp : Nat) (fd : Int32) (hrx : hRX K ad ws f ct pt md lz kp fd) (hkp : kp ≤ 20000) (v : Nat) (hv8 : v < 8) (hx11 : hIx (f 11)) (hx12 : hIx (f 12)) : hV l D (hTy K) tv yX9_sortBy cX9_sortBy 5 none ({ frames := 0, cells := 0, slots := 0, locals := 0 }) [.ref (ad 0), .int (nI v)] ws (fun ws1 => ∃ f11 f12, hRX K ad ws1 (hup (hup f 12 f12) 11 f11) ct pt md lz kp fd ∧ hIx f11 ∧ hIx f12) := by
  intro sz
  refine Met.ofW (cc := cX9_sortBy) (maxL := 5) (ret := none) (by decide) rfl ?_
  intro p e s m args below meth c s₁ B hml hv0
  obtain ⟨rfl, rfl, E, hP, hD⟩ := hentry hv0
  have hx := B.exec
  have hb := B.bytes
  have hr := B.returns
  have hts := atoms_spec (ws := hC yX9_sortBy cX9_sortBy 5 none) B.pre
  have hown : s.vm.findClass RX9 = some m.cls := findClass_of_methodNamed B.named
  have hlocks := B.notSynchronized
  generalize hAe : va_A ws s.heap.size = A at hD E ⊢
  have hl := lv_entry ([.ref (ad 0), .int (nI v)]) (n := 5) (Nat.le_of_ble_eq_true rfl)
  rw [lg_entry_eq]
  generalize (lg_sl ([.ref (ad 0), .int (nI v)]) ++ List.replicate (5 - (lg_sl ([.ref (ad 0), .int (nI v)])).length) Slot.unset).toArray = ls at hl ⊢
  have hl : lv_has ls 5 [(0, .ref (ad 0)), (1, .int (nI v))] := hl
  refine hat0 (fun H hHe => ?_)
  have hP : va_P D vwCl ws H := by rw [hHe]; exact hP
  have hS : va_S A s.heap H [] := by rw [hHe]; exact va_S.rf
  obtain ⟨m9, hm9⟩ := hx11.fn
  obtain ⟨s9, hs9⟩ : ∃ s9 : Nat → Int, ∀ k, s9 k = (f 10 (8 * m9 k + v)).toInt := ⟨fun k => (f 10 (8 * m9 k + v)).toInt, fun _ => rfl⟩
  have hz : hcn s9 0 0 kp = hcn s9 ((0 : Nat) : Int) 0 kp := rfl
  have hn0 : hcn s9 ((0 : Nat) : Int) 0 kp ≤ kp := hcn_le _ _ _ _
  refine lv_iconst (v := nI 0) hx hb dX9_sortBy_0 (by decide +kernel) ?_
  refine lv_istore_n (lv' := [(2, .int (nI 0)), (0, .ref (ad 0)), (1, .int (nI v))]) hx hb dX9_sortBy_1 rfl hl (by decide) rfl (fun ls hl => ?_)
  refine lv_iconst (v := nI 0) hx hb dX9_sortBy_2 (by decide +kernel) ?_
  refine lv_istore_n (lv' := [(3, .int (nI 0)), (2, .int (nI 0)), (0, .ref (ad 0)), (1, .int (nI v))]) hx hb dX9_sortBy_3 rfl hl (by decide) rfl (fun ls hl => ?_)
  refine hloopW (α := Nat × Nat) 4 5 (fun y => [(3, .int (nI y.1)), (2, .int (nI y.2)), (0, .ref (ad 0)), (1, .int (nI v))]) (fun y w9 => y.1 ≤ 64 ∧ y.2 ≤ hcn s9 (y.1 : Int) 0 kp ∧ ∃ f12, hRX K ad w9 (hup f 12 f12) ct pt md lz kp fd ∧ hIx f12) (fun y => 64 - y.1) (fun _ => 0) (fun _ => 0) ?_ (0, 0) ⟨Nat.zero_le _, Nat.zero_le _, f 12, by rw [hup_id]; exact hrx, hx12⟩ hP hD hS (lv_sub hl [0, 1, 2, 3] rfl)
  rintro ⟨q, n⟩ w9 H locs ls hI9 hP hD hS hl ih
  obtain ⟨hq, hn, f12, hrx, hx12⟩ := hI9
  dsimp only at hq hn ih
  have hl : lv_has ls 5 [(3, .int (nI q)), (2, .int (nI n)), (0, .ref (ad 0)), (1, .int (nI v))] := hl
  have hnk := hcn_le s9 (q : Int) 0 kp
  have g0 := hrx.1
  refine lv_iload_n hx hb dX9_sortBy_4 rfl (lv_at hl 0 rfl) ?_
  refine lv_bipush (v := nI 64) hx hb dX9_sortBy_5 (by decide +kernel) ?_
  refine lv_icmp_ge (tgt := 74) hx hb dX9_sortBy_7 (by decide) (fun c1 => ?_) (fun c1 => ?_)
  · clear ih
    refine lv_iconst (v := nI 0) hx hb dX9_sortBy_74 (by decide +kernel) ?_
    refine lv_istore_n (lv' := [(3, .int (nI 0)), (2, .int (nI n)), (0, .ref (ad 0)), (1, .int (nI v))]) hx hb dX9_sortBy_75 rfl hl (by decide) rfl (fun ls hl => ?_)
    refine hloopW (α := Nat) 76 5 (fun k => [(3, .int (nI k)), (0, .ref (ad 0)), (1, .int (nI v))]) (fun k w9 => k ≤ kp ∧ ∃ f11, hRX K ad w9 (hup (hup f 12 f12) 11 f11) ct pt md lz kp fd ∧ hIx f11) (fun k => kp - k) (fun _ => 0) (fun _ => 0) ?_ 0 ⟨Nat.zero_le _, (hup f 12 f12) 11, by rw [hup_id]; exact hrx, hx11⟩ hP hD hS (lv_sub hl [0, 2, 3] rfl)
    intro k w9 H locs ls hI9 hP hD hS hl ih
    obtain ⟨hk, f11, hrx, hx11⟩ := hI9
    have hl : lv_has ls 5 [(3, .int (nI k)), (0, .ref (ad 0)), (1, .int (nI v))] := hl
    have g0 := hrx.1
    have g11 : w9[11]? = some (ad 11, .inl (K 0, 20000, .inl f11)) := hrx.2 11 (by decide) (by decide)
    have g12 : w9[12]? = some (ad 12, .inl (K 0, 20000, .inl f12)) := hrx.2 12 (by decide) (by decide)
    refine lv_iload_n hx hb dX9_sortBy_76 rfl (lv_at hl 0 rfl) ?_
    refine lv_aload_n hx hb dX9_sortBy_77 rfl (lv_at hl 1 rfl) ?_
    refine va_get (v := .int (nI kp)) (C := RX9) (T := TX9) (N := 18) hx hb hts (hin_X9 hmc) hown E.1.1 hP 0 g0 rfl 14 (by decide) (hts _ (hmc _ k_583)) (fun _ h9 => h9) rfl dX9_sortBy_78 ?_
    refine lv_icmp_ge (tgt := 102) hx hb dX9_sortBy_81 (by decide) (fun c2 => ?_) (fun c2 => ?_)
    · subst hAe
      exact W.vret hx hb hr (fun t ht _ => ⟨⟨w9, rfl, ⟨f11, f12, hrx, hx11, hx12⟩, by rw [ht]; exact hP, hD⟩, hS.F ht⟩) hS.2.2 dX9_sortBy_102
    · have hk2 : k < kp := Nat.not_le.mp (fun z => c2 (nI_le z (by omega)))
      obtain ⟨m8, hm1, hm2⟩ := hx12 k (by omega)
      refine lv_aload_n hx hb dX9_sortBy_84 rfl (lv_at hl 1 rfl) ?_
      refine va_get (v := .ref (ad 11)) (C := RX9) (T := TX9) (N := 18) hx hb hts (hin_X9 hmc) hown E.1.1 hP 0 g0 rfl 16 (by decide) (hts _ (hmc _ k_585)) (fun _ h9 => h9) rfl dX9_sortBy_85 ?_
      refine lv_iload_n hx hb dX9_sortBy_88 rfl (lv_at hl 0 rfl) ?_
      refine lv_aload_n hx hb dX9_sortBy_89 rfl (lv_at hl 1 rfl) ?_
      refine va_get (v := .ref (ad 12)) (C := RX9) (T := TX9) (N := 18) hx hb hts (hin_X9 hmc) hown E.1.1 hP 0 g0 rfl 17 (by decide) (hts _ (hmc _ k_586)) (fun _ h9 => h9) rfl dX9_sortBy_90 ?_
      refine lv_iload_n hx hb dX9_sortBy_93 rfl (lv_at hl 0 rfl) ?_
      refine va_iald hx hb E.1.1 hP 12 0 g12 rfl (vp_in_nI (by omega) (by omega)) dX9_sortBy_94 ?_
      refine htopi (v := f12 k) (by rw [nI_clamp (by omega)]) ?_
      refine htopi (v := nI m8) (hm2) ?_
      refine va_iast hx hb E.1.1 hP hD hS 11 0 g11 rfl (vp_in_nI (by omega) (by omega)) dX9_sortBy_95 (fun H locs hP hD hS => ?_)
      rw [nI_clamp (show k < 2 ^ 31 by omega)] at hP hD
      obtain ⟨ws1, ews1⟩ : ∃ zw : va_W, zw = List.set w9 11 ((ad 11), .inl (K 0, 20000, .inl (upd f11 k (nI m8)))) := ⟨_, rfl⟩
      have hP : va_P D vwCl ws1 H := by rw [ews1]; exact hP
      have hD : va_D A ws1 := by rw [ews1]; exact hD
      have g0 := (show ws1[0]? = _ from (by rw [ews1]; exact hset_ne (by omega))).trans g0
      have g11 : ws1[11]? = some ((ad 11), .inl (K 0, 20000, .inl (upd f11 k (nI m8)))) := by rw [ews1]; exact hset_eq g11
      have g12 := (show ws1[12]? = _ from (by rw [ews1]; exact hset_ne (by omega))).trans g12
      have hrx : hRX K ad ws1 (hup (hup (hup f 12 f12) 11 f11) 11 (upd f11 k (nI m8))) ct pt md lz kp fd := by rw [ews1]; exact hrx.arr 11 (by decide) (by decide) _
      rw [hup_up] at hrx
      refine lv_iinc (v := nI (k + 1)) (lv' := [(3, .int (nI (k + 1))), (0, .ref (ad 0)), (1, .int (nI v))]) hx hb dX9_sortBy_96 hl (k := 0) rfl (nI_1 _) (by decide) rfl (fun ls hl => ?_)
      refine lv_goto (tgt := 76) hx hb dX9_sortBy_99 (by decide) ?_
      exact ih (k + 1) _ H locs ls ⟨by omega, _, hrx, hx11.upd hm1⟩ (by omega) hP hD hS (lv_sub hl [0, 1, 2] rfl)
  · have hq2 : q < 64 := Nat.not_le.mp (fun z => c1 (nI_le z (by omega)))
    refine lv_iconst (v := nI 0) hx hb dX9_sortBy_10 (by decide +kernel) ?_
    refine lv_istore (lv' := [(4, .int (nI 0)), (3, .int (nI q)), (2, .int (nI n)), (0, .ref (ad 0)), (1, .int (nI v))]) hx hb dX9_sortBy_11 hl (by decide) rfl (fun ls hl => ?_)
    refine hloopW (α := Nat × Nat) 13 5 (fun y => [(4, .int (nI y.1)), (3, .int (nI q)), (2, .int (nI y.2)), (0, .ref (ad 0)), (1, .int (nI v))]) (fun y w9 => y.1 ≤ kp ∧ y.2 ≤ hcn s9 (q : Int) y.1 kp ∧ ∃ f12, hRX K ad w9 (hup f 12 f12) ct pt md lz kp fd ∧ hIx f12) (fun y => kp - y.1) (fun _ => 0) (fun _ => 0) ?_ (0, n) ⟨Nat.zero_le _, hn, f12, hrx, hx12⟩ hP hD hS (lv_sub hl [0, 1, 2, 3, 4] rfl)
    clear hn hrx hx12 f12
    rintro ⟨k, n⟩ w9 H locs ls hI9 hP hD hS hl ih2
    obtain ⟨hk, hn, f12, hrx, hx12⟩ := hI9
    dsimp only at hk hn ih2
    have hl : lv_has ls 5 [(4, .int (nI k)), (3, .int (nI q)), (2, .int (nI n)), (0, .ref (ad 0)), (1, .int (nI v))] := hl
    have hnk := hcn_le s9 (q : Int) k kp
    have g0 := hrx.1
    have g10 : w9[10]? = some (ad 10, .inl (K 0, 160000, .inl (f 10))) := hrx.2 10 (by decide) (by decide)
    have g11 : w9[11]? = some (ad 11, .inl (K 0, 20000, .inl (f 11))) := hrx.2 11 (by decide) (by decide)
    have g12 : w9[12]? = some (ad 12, .inl (K 0, 20000, .inl f12)) := hrx.2 12 (by decide) (by decide)
    refine lv_iload hx hb dX9_sortBy_13 (lv_at hl 0 rfl) ?_
    refine lv_aload_n hx hb dX9_sortBy_15 rfl (lv_at hl 3 rfl) ?_
    refine va_get (v := .int (nI kp)) (C := RX9) (T := TX9) (N := 18) hx hb hts (hin_X9 hmc) hown E.1.1 hP 0 g0 rfl 14 (by decide) (hts _ (hmc _ k_583)) (fun _ h9 => h9) rfl dX9_sortBy_16 ?_
    refine lv_icmp_ge (tgt := 68) hx hb dX9_sortBy_19 (by decide) (fun c2 => ?_) (fun c2 => ?_)
    · have hkk : k = kp := by
        have := (nI_leI (by omega) (by omega)).mp c2
        omega
      refine lv_iinc (v := nI (q + 1)) (lv' := [(3, .int (nI (q + 1))), (4, .int (nI k)), (2, .int (nI n)), (0, .ref (ad 0)), (1, .int (nI v))]) hx hb dX9_sortBy_68 hl (k := 1) rfl (nI_1 _) (by decide) rfl (fun ls hl => ?_)
      refine lv_goto (tgt := 4) hx hb dX9_sortBy_71 (by decide) ?_
      exact ih (q + 1, n) _ H locs ls ⟨by show q + 1 ≤ 64; omega, by
          show n ≤ hcn s9 ((q + 1 : Nat) : Int) 0 kp
          have e := hcn_next s9 (q : Int) kp kp (Nat.le_refl _)
          rw [hkk] at hn
          rw [e] at hn
          exact hn, f12, hrx, hx12⟩ (by show 64 - (q + 1) < 64 - q; omega) hP hD hS (lv_sub hl [0, 2, 3, 4] rfl)
    · have hk2 : k < kp := Nat.not_le.mp (fun z => c2 (nI_le z (by omega)))
      obtain ⟨hm1, hm2⟩ := hm9 k (by omega)
      have hsk := hs9 k
      refine lv_aload_n hx hb dX9_sortBy_22 rfl (lv_at hl 3 rfl) ?_
      refine va_get (v := .ref (ad 10)) (C := RX9) (T := TX9) (N := 18) hx hb hts (hin_X9 hmc) hown E.1.1 hP 0 g0 rfl 13 (by decide) (hts _ (hmc _ k_582)) (fun _ h9 => h9) rfl dX9_sortBy_23 ?_
      refine lv_bipush (v := nI 8) hx hb dX9_sortBy_26 (by decide +kernel) ?_
      refine lv_aload_n hx hb dX9_sortBy_28 rfl (lv_at hl 3 rfl) ?_
      refine va_get (v := .ref (ad 11)) (C := RX9) (T := TX9) (N := 18) hx hb hts (hin_X9 hmc) hown E.1.1 hP 0 g0 rfl 16 (by decide) (hts _ (hmc _ k_585)) (fun _ h9 => h9) rfl dX9_sortBy_29 ?_
      refine lv_iload hx hb dX9_sortBy_32 (lv_at hl 0 rfl) ?_
      refine va_iald hx hb E.1.1 hP 11 0 g11 rfl (vp_in_nI (by omega) (by omega)) dX9_sortBy_34 ?_
      refine htopi (v := (f 11) k) (by rw [nI_clamp (by omega)]) ?_
      refine htopi (v := nI (m9 k)) (hm2) ?_
      refine lv_imul hx hb dX9_sortBy_35 ?_
      refine htopi (v := nI (8 * (m9 k))) (pk_mul _ _) ?_
      refine lv_iload_n hx hb dX9_sortBy_36 rfl (lv_at hl 4 rfl) ?_
      refine lv_iadd hx hb dX9_sortBy_37 ?_
      refine htopi (v := nI ((8 * (m9 k)) + v)) (nI_add _ _) ?_
      refine va_iald hx hb E.1.1 hP 10 0 g10 rfl (vp_in_nI (by omega) (by omega)) dX9_sortBy_38 ?_
      refine htopi (v := (f 10) ((8 * (m9 k)) + v)) (by rw [nI_clamp (by omega)]) ?_
      refine lv_iload_n hx hb dX9_sortBy_39 rfl (lv_at hl 1 rfl) ?_
      refine lv_icmp_eq (tgt := 46) hx hb dX9_sortBy_40 (by decide) (fun c3 => ?_) (fun c3 => ?_)
      · have hsq : s9 k = (q : Int) := by
          rw [hsk, c3]
          exact nI_toInt (by omega)
        have hlt := hcn_lt hk2 hsq
        have hst := hcn_step hsq kp
        rw [if_pos hk2] at hst
        refine lv_aload_n hx hb dX9_sortBy_46 rfl (lv_at hl 3 rfl) ?_
        refine va_get (v := .ref (ad 12)) (C := RX9) (T := TX9) (N := 18) hx hb hts (hin_X9 hmc) hown E.1.1 hP 0 g0 rfl 17 (by decide) (hts _ (hmc _ k_586)) (fun _ h9 => h9) rfl dX9_sortBy_47 ?_
        refine lv_iload_n hx hb dX9_sortBy_50 rfl (lv_at hl 2 rfl) ?_
        refine lv_aload_n hx hb dX9_sortBy_51 rfl (lv_at hl 3 rfl) ?_
        refine va_get (v := .ref (ad 11)) (C := RX9) (T := TX9) (N := 18) hx hb hts (hin_X9 hmc) hown E.1.1 hP 0 g0 rfl 16 (by decide) (hts _ (hmc _ k_585)) (fun _ h9 => h9) rfl dX9_sortBy_52 ?_
        refine lv_iload hx hb dX9_sortBy_55 (lv_at hl 0 rfl) ?_
        refine va_iald hx hb E.1.1 hP 11 0 g11 rfl (vp_in_nI (by omega) (by omega)) dX9_sortBy_57 ?_
        refine htopi (v := (f 11) k) (by rw [nI_clamp (by omega)]) ?_
        refine htopi (v := nI (m9 k)) (hm2) ?_
        refine va_iast hx hb E.1.1 hP hD hS 12 0 g12 rfl (vp_in_nI (by omega) (by omega)) dX9_sortBy_58 (fun H locs hP hD hS => ?_)
        rw [nI_clamp (show n < 2 ^ 31 by omega)] at hP hD
        obtain ⟨ws2, ews2⟩ : ∃ zw : va_W, zw = List.set w9 12 ((ad 12), .inl (K 0, 20000, .inl (upd f12 n (nI (m9 k))))) := ⟨_, rfl⟩
        have hP : va_P D vwCl ws2 H := by rw [ews2]; exact hP
        have hD : va_D A ws2 := by rw [ews2]; exact hD
        have g0 := (show ws2[0]? = _ from (by rw [ews2]; exact hset_ne (by omega))).trans g0
        have g10 := (show ws2[10]? = _ from (by rw [ews2]; exact hset_ne (by omega))).trans g10
        have g11 := (show ws2[11]? = _ from (by rw [ews2]; exact hset_ne (by omega))).trans g11
        have g12 : ws2[12]? = some ((ad 12), .inl (K 0, 20000, .inl (upd f12 n (nI (m9 k))))) := by rw [ews2]; exact hset_eq g12
        have hrx : hRX K ad ws2 (hup (hup f 12 f12) 12 (upd f12 n (nI (m9 k)))) ct pt md lz kp fd := by rw [ews2]; exact hrx.arr 12 (by decide) (by decide) _
        rw [hup_up] at hrx
        refine lv_iinc (v := nI (n + 1)) (lv' := [(2, .int (nI (n + 1))), (4, .int (nI k)), (3, .int (nI q)), (0, .ref (ad 0)), (1, .int (nI v))]) hx hb dX9_sortBy_59 hl (k := 2) rfl (nI_1 _) (by decide) rfl (fun ls hl => ?_)
        refine lv_iinc (v := nI (k + 1)) (lv' := [(4, .int (nI (k + 1))), (2, .int (nI (n + 1))), (3, .int (nI q)), (0, .ref (ad 0)), (1, .int (nI v))]) hx hb dX9_sortBy_62 hl (k := 1) rfl (nI_1 _) (by decide) rfl (fun ls hl => ?_)
        refine lv_goto (tgt := 13) hx hb dX9_sortBy_65 (by decide) ?_
        exact ih2 (k + 1, n + 1) _ H locs ls ⟨by show k + 1 ≤ kp; omega, by show n + 1 ≤ hcn s9 (q : Int) (k + 1) kp; omega, _, hrx, hx12.upd hm1⟩ (by show kp - (k + 1) < kp - k; omega) hP hD hS (lv_sub hl [0, 2, 1, 3, 4] rfl)
      · have hsq : s9 k ≠ (q : Int) := fun z => c3 (Int32.toInt_inj.mp (by
          rw [← hsk, z]
          exact (nI_toInt (by omega)).symm))
        have hst := hcn_skip hsq kp
        refine lv_goto (tgt := 62) hx hb dX9_sortBy_43 (by decide) ?_
        refine lv_iinc (v := nI (k + 1)) (lv' := [(4, .int (nI (k + 1))), (3, .int (nI q)), (2, .int (nI n)), (0, .ref (ad 0)), (1, .int (nI v))]) hx hb dX9_sortBy_62 hl (k := 0) rfl (nI_1 _) (by decide) rfl (fun ls hl => ?_)
        refine lv_goto (tgt := 13) hx hb dX9_sortBy_65 (by decide) ?_
        exact ih2 (k + 1, n) _ H locs ls ⟨by show k + 1 ≤ kp; omega, by show n ≤ hcn s9 (q : Int) (k + 1) kp; omega, _, hrx, hx12⟩ (by show kp - (k + 1) < kp - k; omega) hP hD hS (lv_sub hl [0, 1, 2, 3, 4] rfl)
