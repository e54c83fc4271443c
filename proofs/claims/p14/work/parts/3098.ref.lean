set_option maxHeartbeats 4000000 in
set_option maxRecDepth 100000 in
/-- the reference: rows -/
theorem c_X9_rows (l : Launch) (D : va_G) (K : Nat → ClassId) (tv : Nat) (ws : va_W) (ad : Nat → Nat) (S : Nat → Nat → Nat → Prop) (cnt np : Nat) (o : List Nat) (I : Nat → Nat → Nat) (hms : hMS K ad ws S cnt np o I) : hI l D (hTy K) tv yX9_rows cX9_rows 2 (some .int) ({ frames := 3, cells := 0, slots := 0, locals := 180 }) [.ref (ad 0)] ws (fun r ws1 => hRowP S I (hLf9 o) o.length r ∧ hMS K ad ws1 S cnt np o I) := by
  intro sz
  refine Met.ofW (cc := cX9_rows) (maxL := 2) (ret := (some .int)) (by decide) rfl ?_
  intro p e s m args below meth c s₁ B hml hv0
  obtain ⟨rfl, rfl, E, hP, hD⟩ := hentry hv0
  have hx := B.exec
  have hb := B.bytes
  have hr := B.returns
  have hts := atoms_spec (ws := hC yX9_rows cX9_rows 2 (some .int)) B.pre
  have hown : s.vm.findClass RX9 = some m.cls := findClass_of_methodNamed B.named
  have hlocks := B.notSynchronized
  generalize hAe : va_A ws s.heap.size = A at hD E ⊢
  have hl := lv_entry ([.ref (ad 0)]) (n := 2) (Nat.le_of_ble_eq_true rfl)
  rw [lg_entry_eq]
  generalize (lg_sl ([.ref (ad 0)]) ++ List.replicate (2 - (lg_sl ([.ref (ad 0)])).length) Slot.unset).toArray = ls at hl ⊢
  have hl : lv_has ls 2 [(0, .ref (ad 0))] := hl
  refine hat0 (fun H hHe => ?_)
  have hP : va_P D vwCl ws H := by rw [hHe]; exact hP
  have hS : va_S A s.heap H [] := by rw [hHe]; exact va_S.rf
  obtain ⟨f, lz, kp, fd, hrx, hrb⟩ := id hms
  obtain ⟨hct, hnp, hnd, hon, hT, hIt, hO, hF⟩ := id hrb
  have g0 := hrx.1
  have hIt2 := hIt
  have hol : o.length ≤ np := hpig np o hnd hon
  refine lv_aload_n hx hb dX9_rows_0 rfl (lv_at hl 0 rfl) ?_
  refine lv_aload_n hx hb dX9_rows_1 rfl (lv_at hl 0 rfl) ?_
  refine va_get (v := .ref (ad 3)) (C := RX9) (T := TX9) (N := 18) hx hb hts (hin_X9 hmc) hown E.1.1 hP 0 g0 rfl 4 (by decide) (hts _ (hmc _ k_573)) (fun _ h9 => h9) rfl dX9_rows_2 ?_
  refine lv_aload_n hx hb dX9_rows_5 rfl (lv_at hl 0 rfl) ?_
  refine va_get (v := .int (nI o.length)) (C := RX9) (T := TX9) (N := 18) hx hb hts (hin_X9 hmc) hown E.1.1 hP 0 g0 rfl 5 (by decide) (hts _ (hmc _ k_574)) (fun _ h9 => h9) rfl dX9_rows_6 ?_
  refine lv_iconst (v := nI 0) hx hb dX9_rows_9 (by decide +kernel) ?_
  refine hc_i E hD hS (va_runV (As := [.ref (ad 3), .int (nI o.length), .int (nI 0)]) (rest := []) ⟨hx, hb, hml, hown, hts⟩ ((c3_join l D K tv ws ad f cnt np o.length lz kp fd hrx hnp hct S hT o.length (by omega) (hLf9 o) (fun k => I (hLf9 o k)) (fun k hk => ⟨hon _ (hgetD_mem hk), hO k hk⟩) (fun k hk i hi => hIt2 _ (hon _ (hgetD_mem hk)) i hi)) H.size) (cwV 3 hts (hGV hmc k_727 k_729 k_14 k_29 k_730) rfl rfl rfl (by decide +kernel) ⟨Nat.le_of_ble_eq_true rfl, Nat.le_of_ble_eq_true rfl⟩) (hpreV E hP hD hS g0 rfl) rfl rfl hl.1 rfl (lv_room (Nat.le_of_ble_eq_true rfl)) dX9_rows_10 ⟨(Nat.le_refl _), (Nat.le_refl _)⟩) (fun r2 ws1 H locs hp hP hD hS => ?_)
  obtain ⟨g, kp1, hrx, hfr, hkp1, hj9⟩ := hp
  have hrb1 := hrb.frm (hfr 1 (by decide) (by decide) (by decide) (by decide)) (hfr 2 (by decide) (by decide) (by decide) (by decide)) (hfr 3 (by decide) (by decide) (by decide) (by decide)) (hfr 11 (by decide) (by decide) (by decide) (by decide)) (hfr 12 (by decide) (by decide) (by decide) (by decide))
  have g0 := hrx.1
  refine lv_istore_n (lv' := [(1, .int r2), (0, .ref (ad 0))]) hx hb dX9_rows_13 rfl hl (by decide) rfl (fun ls hl => ?_)
  refine lv_iload_n hx hb dX9_rows_14 rfl (lv_at hl 0 rfl) ?_
  refine lv_if_ge (tgt := 23) hx hb dX9_rows_15 (by decide) (fun c1 => ?_) (fun c1 => ?_)
  · have hrow : hRowP S I (hLf9 o) o.length r2 := by
      rcases hj9 with ⟨-, q⟩ | ⟨q1, q2⟩
      · rw [q] at c1; exact absurd c1 (by decide +kernel)
      · exact Or.inr ⟨q1, q2⟩
    refine lv_iload_n hx hb dX9_rows_23 rfl (lv_at hl 0 rfl) ?_
    subst hAe
    exact W.iret (v := r2) hx hb hr (fun t ht _ => ⟨⟨r2, ws1, rfl, ⟨hrow, _, _, _, _, hrx, hrb1⟩, by rw [ht]; exact hP, hD⟩, hS.F ht⟩) hS.2.2 dX9_rows_24
  · have hrow : hRowP S I (hLf9 o) o.length (-2) := by
      rcases hj9 with ⟨q, -⟩ | ⟨q1, q2⟩
      · exact Or.inl ⟨q, rfl⟩
      · rw [q2] at c1; exact absurd (Int32.not_lt.mp (nI_pos (by omega))) c1
    refine lv_bipush (v := (-2)) hx hb dX9_rows_18 (by decide +kernel) ?_
    refine lv_goto (tgt := 24) hx hb dX9_rows_20 (by decide) ?_
    subst hAe
    exact W.iret (v := (-2)) hx hb hr (fun t ht _ => ⟨⟨(-2), ws1, rfl, ⟨hrow, _, _, _, _, hrx, hrb1⟩, by rw [ht]; exact hP, hD⟩, hS.F ht⟩) hS.2.2 dX9_rows_24

set_option maxHeartbeats 4000000 in
set_option maxRecDepth 100000 in
/-- the reference: sortBy -/
theorem c_X9_sortBy (l : Launch) (D : va_G) (K : Nat → ClassId) (tv : Nat) (ws : va_W) (ad : Nat → Nat) (f : Nat → Nat → Int32) (ct pt md : Nat) (lz : Int64) (kp : Nat) (fd : Int32) (hrx : hRX K ad ws f ct pt md lz kp fd) (hkp : kp ≤ 20000) (v : Nat) (hv8 : v < 8) (hx11 : hIx (f 11)) (hx12 : hIx (f 12)) : hV l D (hTy K) tv yX9_sortBy cX9_sortBy 5 none ({ frames := 0, cells := 0, slots := 0, locals := 0 }) [.ref (ad 0), .int (nI v)] ws (fun ws1 => ∃ f11 f12, hRX K ad ws1 (hup (hup f 12 f12) 11 f11) ct pt md lz kp fd ∧ hIx f11 ∧ hIx f12) := by
  intro sz
  refine Met.ofW (cc := cX9_sortBy) (maxL := 5) (ret := none) (by decide) rfl ?_
  intro p e s m args below meth c s₁ B hml hv0
  obtain ⟨rfl, rfl, E, hP, hD⟩ := hentry hv0
  have hx := B.exec
  have hb := B.bytes
  have hr := B.returns
  have hts := atoms_spec (ws := hC yX9_sortBy cX9_sortBy 5 none) B.pre
  have hown : s.vm.findClass RX9 = some m.cls := findClass_of_methodNamed B.named
  have hlocks := B.notSynchronized
  generalize hAe : va_A ws s.heap.size = A at hD E ⊢
  have hl := lv_entry ([.ref (ad 0), .int (nI v)]) (n := 5) (Nat.le_of_ble_eq_true rfl)
  rw [lg_entry_eq]
  generalize (lg_sl ([.ref (ad 0), .int (nI v)]) ++ List.replicate (5 - (lg_sl ([.ref (ad 0), .int (nI v)])).length) Slot.unset).toArray = ls at hl ⊢
  have hl : lv_has ls 5 [(0, .ref (ad 0)), (1, .int (nI v))] := hl
  refine hat0 (fun H hHe => ?_)
  have hP : va_P D vwCl ws H := by rw [hHe]; exact hP
  have hS : va_S A s.heap H [] := by rw [hHe]; exact va_S.rf
  obtain ⟨m9, hm9⟩ := hx11.fn
  obtain ⟨s9, hs9⟩ : ∃ s9 : Nat → Int, ∀ k, s9 k = (f 10 (8 * m9 k + v)).toInt := ⟨fun k => (f 10 (8 * m9 k + v)).toInt, fun _ => rfl⟩
  have hz : hcn s9 0 0 kp = hcn s9 ((0 : Nat) : Int) 0 kp := rfl
  have hn0 : hcn s9 ((0 : Nat) : Int) 0 kp ≤ kp := hcn_le _ _ _ _
  refine lv_iconst (v := nI 0) hx hb dX9_sortBy_0 (by decide +kernel) ?_
  refine lv_istore_n (lv' := [(2, .int (nI 0)), (0, .ref (ad 0)), (1, .int (nI v))]) hx hb dX9_sortBy_1 rfl hl (by decide) rfl (fun ls hl => ?_)
  refine lv_iconst (v := nI 0) hx hb dX9_sortBy_2 (by decide +kernel) ?_
  refine lv_istore_n (lv' := [(3, .int (nI 0)), (2, .int (nI 0)), (0, .ref (ad 0)), (1, .int (nI v))]) hx hb dX9_sortBy_3 rfl hl (by decide) rfl (fun ls hl => ?_)
  refine hloopW (α := Nat × Nat) 4 5 (fun y => [(3, .int (nI y.1)), (2, .int (nI y.2)), (0, .ref (ad 0)), (1, .int (nI v))]) (fun y w9 => y.1 ≤ 64 ∧ y.2 ≤ hcn s9 (y.1 : Int) 0 kp ∧ ∃ f12, hRX K ad w9 (hup f 12 f12) ct pt md lz kp fd ∧ hIx f12) (fun y => 64 - y.1) (fun _ => 0) (fun _ => 0) ?_ (0, 0) ⟨Nat.zero_le _, Nat.zero_le _, f 12, by rw [hup_id]; exact hrx, hx12⟩ hP hD hS (lv_sub hl [0, 1, 2, 3] rfl)
  rintro ⟨q, n⟩ w9 H locs ls hI9 hP hD hS hl ih
  obtain ⟨hq, hn, f12, hrx, hx12⟩ := hI9
  dsimp only at hq hn ih
  have hl : lv_has ls 5 [(3, .int (nI q)), (2, .int (nI n)), (0, .ref (ad 0)), (1, .int (nI v))] := hl
  have hnk := hcn_le s9 (q : Int) 0 kp
  have g0 := hrx.1
  refine lv_iload_n hx hb dX9_sortBy_4 rfl (lv_at hl 0 rfl) ?_
  refine lv_bipush (v := nI 64) hx hb dX9_sortBy_5 (by decide +kernel) ?_
  refine lv_icmp_ge (tgt := 74) hx hb dX9_sortBy_7 (by decide) (fun c1 => ?_) (fun c1 => ?_)
  · clear ih
    refine lv_iconst (v := nI 0) hx hb dX9_sortBy_74 (by decide +kernel) ?_
    refine lv_istore_n (lv' := [(3, .int (nI 0)), (2, .int (nI n)), (0, .ref (ad 0)), (1, .int (nI v))]) hx hb dX9_sortBy_75 rfl hl (by decide) rfl (fun ls hl => ?_)
    refine hloopW (α := Nat) 76 5 (fun k => [(3, .int (nI k)), (0, .ref (ad 0)), (1, .int (nI v))]) (fun k w9 => k ≤ kp ∧ ∃ f11, hRX K ad w9 (hup (hup f 12 f12) 11 f11) ct pt md lz kp fd ∧ hIx f11) (fun k => kp - k) (fun _ => 0) (fun _ => 0) ?_ 0 ⟨Nat.zero_le _, (hup f 12 f12) 11, by rw [hup_id]; exact hrx, hx11⟩ hP hD hS (lv_sub hl [0, 2, 3] rfl)
    intro k w9 H locs ls hI9 hP hD hS hl ih
    obtain ⟨hk, f11, hrx, hx11⟩ := hI9
    have hl : lv_has ls 5 [(3, .int (nI k)), (0, .ref (ad 0)), (1, .int (nI v))] := hl
    have g0 := hrx.1
    have g11 : w9[11]? = some (ad 11, .inl (K 0, 20000, .inl f11)) := hrx.2 11 (by decide) (by decide)
    have g12 : w9[12]? = some (ad 12, .inl (K 0, 20000, .inl f12)) := hrx.2 12 (by decide) (by decide)
    refine lv_iload_n hx hb dX9_sortBy_76 rfl (lv_at hl 0 rfl) ?_
    refine lv_aload_n hx hb dX9_sortBy_77 rfl (lv_at hl 1 rfl) ?_
    refine va_get (v := .int (nI kp)) (C := RX9) (T := TX9) (N := 18) hx hb hts (hin_X9 hmc) hown E.1.1 hP 0 g0 rfl 14 (by decide) (hts _ (hmc _ k_583)) (fun _ h9 => h9) rfl dX9_sortBy_78 ?_
    refine lv_icmp_ge (tgt := 102) hx hb dX9_sortBy_81 (by decide) (fun c2 => ?_) (fun c2 => ?_)
    · subst hAe
      exact W.vret hx hb hr (fun t ht _ => ⟨⟨w9, rfl, ⟨f11, f12, hrx, hx11, hx12⟩, by rw [ht]; exact hP, hD⟩, hS.F ht⟩) hS.2.2 dX9_sortBy_102
    · have hk2 : k < kp := Nat.not_le.mp (fun z => c2 (nI_le z (by omega)))
      obtain ⟨m8, hm1, hm2⟩ := hx12 k (by omega)
      refine lv_aload_n hx hb dX9_sortBy_84 rfl (lv_at hl 1 rfl) ?_
      refine va_get (v := .ref (ad 11)) (C := RX9) (T := TX9) (N := 18) hx hb hts (hin_X9 hmc) hown E.1.1 hP 0 g0 rfl 16 (by decide) (hts _ (hmc _ k_585)) (fun _ h9 => h9) rfl dX9_sortBy_85 ?_
      refine lv_iload_n hx hb dX9_sortBy_88 rfl (lv_at hl 0 rfl) ?_
      refine lv_aload_n hx hb dX9_sortBy_89 rfl (lv_at hl 1 rfl) ?_
      refine va_get (v := .ref (ad 12)) (C := RX9) (T := TX9) (N := 18) hx hb hts (hin_X9 hmc) hown E.1.1 hP 0 g0 rfl 17 (by decide) (hts _ (hmc _ k_586)) (fun _ h9 => h9) rfl dX9_sortBy_90 ?_
      refine lv_iload_n hx hb dX9_sortBy_93 rfl (lv_at hl 0 rfl) ?_
      refine va_iald hx hb E.1.1 hP 12 0 g12 rfl (vp_in_nI (by omega) (by omega)) dX9_sortBy_94 ?_
      refine htopi (v := f12 k) (by rw [nI_clamp (by omega)]) ?_
      refine htopi (v := nI m8) (hm2) ?_
      refine va_iast hx hb E.1.1 hP hD hS 11 0 g11 rfl (vp_in_nI (by omega) (by omega)) dX9_sortBy_95 (fun H locs hP hD hS => ?_)
      rw [nI_clamp (show k < 2 ^ 31 by omega)] at hP hD
      obtain ⟨ws1, ews1⟩ : ∃ zw : va_W, zw = List.set w9 11 ((ad 11), .inl (K 0, 20000, .inl (upd f11 k (nI m8)))) := ⟨_, rfl⟩
      have hP : va_P D vwCl ws1 H := by rw [ews1]; exact hP
      have hD : va_D A ws1 := by rw [ews1]; exact hD
      have g0 := (show ws1[0]? = _ from (by rw [ews1]; exact hset_ne (by omega))).trans g0
      have g11 : ws1[11]? = some ((ad 11), .inl (K 0, 20000, .inl (upd f11 k (nI m8)))) := by rw [ews1]; exact hset_eq g11
      have g12 := (show ws1[12]? = _ from (by rw [ews1]; exact hset_ne (by omega))).trans g12
      have hrx : hRX K ad ws1 (hup (hup (hup f 12 f12) 11 f11) 11 (upd f11 k (nI m8))) ct pt md lz kp fd := by rw [ews1]; exact hrx.arr 11 (by decide) (by decide) _
      rw [hup_up] at hrx
      refine lv_iinc (v := nI (k + 1)) (lv' := [(3, .int (nI (k + 1))), (0, .ref (ad 0)), (1, .int (nI v))]) hx hb dX9_sortBy_96 hl (k := 0) rfl (nI_1 _) (by decide) rfl (fun ls hl => ?_)
      refine lv_goto (tgt := 76) hx hb dX9_sortBy_99 (by decide) ?_
      exact ih (k + 1) _ H locs ls ⟨by omega, _, hrx, hx11.upd hm1⟩ (by omega) hP hD hS (lv_sub hl [0, 1, 2] rfl)
  · have hq2 : q < 64 := Nat.not_le.mp (fun z => c1 (nI_le z (by omega)))
    refine lv_iconst (v := nI 0) hx hb dX9_sortBy_10 (by decide +kernel) ?_
    refine lv_istore (lv' := [(4, .int (nI 0)), (3, .int (nI q)), (2, .int (nI n)), (0, .ref (ad 0)), (1, .int (nI v))]) hx hb dX9_sortBy_11 hl (by decide) rfl (fun ls hl => ?_)
    refine hloopW (α := Nat × Nat) 13 5 (fun y => [(4, .int (nI y.1)), (3, .int (nI q)), (2, .int (nI y.2)), (0, .ref (ad 0)), (1, .int (nI v))]) (fun y w9 => y.1 ≤ kp ∧ y.2 ≤ hcn s9 (q : Int) y.1 kp ∧ ∃ f12, hRX K ad w9 (hup f 12 f12) ct pt md lz kp fd ∧ hIx f12) (fun y => kp - y.1) (fun _ => 0) (fun _ => 0) ?_ (0, n) ⟨Nat.zero_le _, hn, f12, hrx, hx12⟩ hP hD hS (lv_sub hl [0, 1, 2, 3, 4] rfl)
    clear hn hrx hx12 f12
    rintro ⟨k, n⟩ w9 H locs ls hI9 hP hD hS hl ih2
    obtain ⟨hk, hn, f12, hrx, hx12⟩ := hI9
    dsimp only at hk hn ih2
    have hl : lv_has ls 5 [(4, .int (nI k)), (3, .int (nI q)), (2, .int (nI n)), (0, .ref (ad 0)), (1, .int (nI v))] := hl
    have hnk := hcn_le s9 (q : Int) k kp
    have g0 := hrx.1
    have g10 : w9[10]? = some (ad 10, .inl (K 0, 160000, .inl (f 10))) := hrx.2 10 (by decide) (by decide)
    have g11 : w9[11]? = some (ad 11, .inl (K 0, 20000, .inl (f 11))) := hrx.2 11 (by decide) (by decide)
    have g12 : w9[12]? = some (ad 12, .inl (K 0, 20000, .inl f12)) := hrx.2 12 (by decide) (by decide)
    refine lv_iload hx hb dX9_sortBy_13 (lv_at hl 0 rfl) ?_
    refine lv_aload_n hx hb dX9_sortBy_15 rfl (lv_at hl 3 rfl) ?_
    refine va_get (v := .int (nI kp)) (C := RX9) (T := TX9) (N := 18) hx hb hts (hin_X9 hmc) hown E.1.1 hP 0 g0 rfl 14 (by decide) (hts _ (hmc _ k_583)) (fun _ h9 => h9) rfl dX9_sortBy_16 ?_
    refine lv_icmp_ge (tgt := 68) hx hb dX9_sortBy_19 (by decide) (fun c2 => ?_) (fun c2 => ?_)
    · have hkk : k = kp := by
        have := (nI_leI (by omega) (by omega)).mp c2
        omega
      refine lv_iinc (v := nI (q + 1)) (lv' := [(3, .int (nI (q + 1))), (4, .int (nI k)), (2, .int (nI n)), (0, .ref (ad 0)), (1, .int (nI v))]) hx hb dX9_sortBy_68 hl (k := 1) rfl (nI_1 _) (by decide) rfl (fun ls hl => ?_)
      refine lv_goto (tgt := 4) hx hb dX9_sortBy_71 (by decide) ?_
      exact ih (q + 1, n) _ H locs ls ⟨by show q + 1 ≤ 64; omega, by
          show n ≤ hcn s9 ((q + 1 : Nat) : Int) 0 kp
          have e := hcn_next s9 (q : Int) kp kp (Nat.le_refl _)
          rw [hkk] at hn
          rw [e] at hn
          exact hn, f12, hrx, hx12⟩ (by show 64 - (q + 1) < 64 - q; omega) hP hD hS (lv_sub hl [0, 2, 3, 4] rfl)
    · have hk2 : k < kp := Nat.not_le.mp (fun z => c2 (nI_le z (by omega)))
      obtain ⟨hm1, hm2⟩ := hm9 k (by omega)
      have hsk := hs9 k
      refine lv_aload_n hx hb dX9_sortBy_22 rfl (lv_at hl 3 rfl) ?_
      refine va_get (v := .ref (ad 10)) (C := RX9) (T := TX9) (N := 18) hx hb hts (hin_X9 hmc) hown E.1.1 hP 0 g0 rfl 13 (by decide) (hts _ (hmc _ k_582)) (fun _ h9 => h9) rfl dX9_sortBy_23 ?_
      refine lv_bipush (v := nI 8) hx hb dX9_sortBy_26 (by decide +kernel) ?_
      refine lv_aload_n hx hb dX9_sortBy_28 rfl (lv_at hl 3 rfl) ?_
      refine va_get (v := .ref (ad 11)) (C := RX9) (T := TX9) (N := 18) hx hb hts (hin_X9 hmc) hown E.1.1 hP 0 g0 rfl 16 (by decide) (hts _ (hmc _ k_585)) (fun _ h9 => h9) rfl dX9_sortBy_29 ?_
      refine lv_iload hx hb dX9_sortBy_32 (lv_at hl 0 rfl) ?_
      refine va_iald hx hb E.1.1 hP 11 0 g11 rfl (vp_in_nI (by omega) (by omega)) dX9_sortBy_34 ?_
      refine htopi (v := (f 11) k) (by rw [nI_clamp (by omega)]) ?_
      refine htopi (v := nI (m9 k)) (hm2) ?_
      refine lv_imul hx hb dX9_sortBy_35 ?_
      refine htopi (v := nI (8 * (m9 k))) (pk_mul _ _) ?_
      refine lv_iload_n hx hb dX9_sortBy_36 rfl (lv_at hl 4 rfl) ?_
      refine lv_iadd hx hb dX9_sortBy_37 ?_
      refine htopi (v := nI ((8 * (m9 k)) + v)) (nI_add _ _) ?_
      refine va_iald hx hb E.1.1 hP 10 0 g10 rfl (vp_in_nI (by omega) (by omega)) dX9_sortBy_38 ?_
      refine htopi (v := (f 10) ((8 * (m9 k)) + v)) (by rw [nI_clamp (by omega)]) ?_
      refine lv_iload_n hx hb dX9_sortBy_39 rfl (lv_at hl 1 rfl) ?_
      refine lv_icmp_eq (tgt := 46) hx hb dX9_sortBy_40 (by decide) (fun c3 => ?_) (fun c3 => ?_)
      · have hsq : s9 k = (q : Int) := by
          rw [hsk, c3]
          exact nI_toInt (by omega)
        have hlt := hcn_lt hk2 hsq
        have hst := hcn_step hsq kp
        rw [if_pos hk2] at hst
        refine lv_aload_n hx hb dX9_sortBy_46 rfl (lv_at hl 3 rfl) ?_
        refine va_get (v := .ref (ad 12)) (C := RX9) (T := TX9) (N := 18) hx hb hts (hin_X9 hmc) hown E.1.1 hP 0 g0 rfl 17 (by decide) (hts _ (hmc _ k_586)) (fun _ h9 => h9) rfl dX9_sortBy_47 ?_
        refine lv_iload_n hx hb dX9_sortBy_50 rfl (lv_at hl 2 rfl) ?_
        refine lv_aload_n hx hb dX9_sortBy_51 rfl (lv_at hl 3 rfl) ?_
        refine va_get (v := .ref (ad 11)) (C := RX9) (T := TX9) (N := 18) hx hb hts (hin_X9 hmc) hown E.1.1 hP 0 g0 rfl 16 (by decide) (hts _ (hmc _ k_585)) (fun _ h9 => h9) rfl dX9_sortBy_52 ?_
        refine lv_iload hx hb dX9_sortBy_55 (lv_at hl 0 rfl) ?_
        refine va_iald hx hb E.1.1 hP 11 0 g11 rfl (vp_in_nI (by omega) (by omega)) dX9_sortBy_57 ?_
        refine htopi (v := (f 11) k) (by rw [nI_clamp (by omega)]) ?_
        refine htopi (v := nI (m9 k)) (hm2) ?_
        refine va_iast hx hb E.1.1 hP hD hS 12 0 g12 rfl (vp_in_nI (by omega) (by omega)) dX9_sortBy_58 (fun H locs hP hD hS => ?_)
        rw [nI_clamp (show n < 2 ^ 31 by omega)] at hP hD
        obtain ⟨ws2, ews2⟩ : ∃ zw : va_W, zw = List.set w9 12 ((ad 12), .inl (K 0, 20000, .inl (upd f12 n (nI (m9 k))))) := ⟨_, rfl⟩
        have hP : va_P D vwCl ws2 H := by rw [ews2]; exact hP
        have hD : va_D A ws2 := by rw [ews2]; exact hD
        have g0 := (show ws2[0]? = _ from (by rw [ews2]; exact hset_ne (by omega))).trans g0
        have g10 := (show ws2[10]? = _ from (by rw [ews2]; exact hset_ne (by omega))).trans g10
        have g11 := (show ws2[11]? = _ from (by rw [ews2]; exact hset_ne (by omega))).trans g11
        have g12 : ws2[12]? = some ((ad 12), .inl (K 0, 20000, .inl (upd f12 n (nI (m9 k))))) := by rw [ews2]; exact hset_eq g12
        have hrx : hRX K ad ws2 (hup (hup f 12 f12) 12 (upd f12 n (nI (m9 k)))) ct pt md lz kp fd := by rw [ews2]; exact hrx.arr 12 (by decide) (by decide) _
        rw [hup_up] at hrx
        refine lv_iinc (v := nI (n + 1)) (lv' := [(2, .int (nI (n + 1))), (4, .int (nI k)), (3, .int (nI q)), (0, .ref (ad 0)), (1, .int (nI v))]) hx hb dX9_sortBy_59 hl (k := 2) rfl (nI_1 _) (by decide) rfl (fun ls hl => ?_)
        refine lv_iinc (v := nI (k + 1)) (lv' := [(4, .int (nI (k + 1))), (2, .int (nI (n + 1))), (3, .int (nI q)), (0, .ref (ad 0)), (1, .int (nI v))]) hx hb dX9_sortBy_62 hl (k := 1) rfl (nI_1 _) (by decide) rfl (fun ls hl => ?_)
        refine lv_goto (tgt := 13) hx hb dX9_sortBy_65 (by decide) ?_
        exact ih2 (k + 1, n + 1) _ H locs ls ⟨by show k + 1 ≤ kp; omega, by show n + 1 ≤ hcn s9 (q : Int) (k + 1) kp; omega, _, hrx, hx12.upd hm1⟩ (by show kp - (k + 1) < kp - k; omega) hP hD hS (lv_sub hl [0, 2, 1, 3, 4] rfl)
      · have hsq : s9 k ≠ (q : Int) := fun z => c3 (Int32.toInt_inj.mp (by
          rw [← hsk, z]
          exact (nI_toInt (by omega)).symm))
        have hst := hcn_skip hsq kp
        refine lv_goto (tgt := 62) hx hb dX9_sortBy_43 (by decide) ?_
        refine lv_iinc (v := nI (k + 1)) (lv' := [(4, .int (nI (k + 1))), (3, .int (nI q)), (2, .int (nI n)), (0, .ref (ad 0)), (1, .int (nI v))]) hx hb dX9_sortBy_62 hl (k := 0) rfl (nI_1 _) (by decide) rfl (fun ls hl => ?_)
        refine lv_goto (tgt := 13) hx hb dX9_sortBy_65 (by decide) ?_
        exact ih2 (k + 1, n) _ H locs ls ⟨by show k + 1 ≤ kp; omega, by show n ≤ hcn s9 (q : Int) (k + 1) kp; omega, _, hrx, hx12⟩ (by show kp - (k + 1) < kp - k; omega) hP hD hS (lv_sub hl [0, 1, 2, 3, 4] rfl)

set_option maxHeartbeats 4000000 in
set_option maxRecDepth 100000 in
/-- the reference: solutions -/
theorem c_X9_solutions (l : Launch) (D : va_G) (K : Nat → ClassId) (tv : Nat) (ws : va_W) (ad : Nat → Nat) (S : Nat → Nat → Nat → Prop) (cnt np : Nat) (o : List Nat) (I : Nat → Nat → Nat) (hms : hMS K ad ws S cnt np o I) : hI l D (hTy K) tv yX9_solutions cX9_solutions 2 (some .int) ({ frames := 6, cells := 0, slots := 0, locals := 360 }) [.ref (ad 0)] ws (fun r ws1 => hSolP S I np r ∧ hMS K ad ws1 S cnt np o I) := by
  intro sz
  refine Met.ofW (cc := cX9_solutions) (maxL := 2) (ret := (some .int)) (by decide) rfl ?_
  intro p e s m args below meth c s₁ B hml hv0
  obtain ⟨rfl, rfl, E, hP, hD⟩ := hentry hv0
  have hx := B.exec
  have hb := B.bytes
  have hr := B.returns
  have hts := atoms_spec (ws := hC yX9_solutions cX9_solutions 2 (some .int)) B.pre
  have hown : s.vm.findClass RX9 = some m.cls := findClass_of_methodNamed B.named
  have hlocks := B.notSynchronized
  generalize hAe : va_A ws s.heap.size = A at hD E ⊢
  have hl := lv_entry ([.ref (ad 0)]) (n := 2) (Nat.le_of_ble_eq_true rfl)
  rw [lg_entry_eq]
  generalize (lg_sl ([.ref (ad 0)]) ++ List.replicate (2 - (lg_sl ([.ref (ad 0)])).length) Slot.unset).toArray = ls at hl ⊢
  have hl : lv_has ls 2 [(0, .ref (ad 0))] := hl
  refine hat0 (fun H hHe => ?_)
  have hP : va_P D vwCl ws H := by rw [hHe]; exact hP
  have hS : va_S A s.heap H [] := by rw [hHe]; exact va_S.rf
  obtain ⟨f, lz, kp, fd, hrx, hrb⟩ := id hms
  obtain ⟨hct, hnp, hnd, hon, hT, hIt, hO, hF⟩ := id hrb
  have g0 := hrx.1
  have hIt2 := hIt
  refine lv_aload_n hx hb dX9_solutions_0 rfl (lv_at hl 0 rfl) ?_
  refine hc_v E hD hS (va_runV (As := []) (rest := []) ⟨hx, hb, hml, hown, hts⟩ ((c_X9_choose l D K tv ws ad f cnt np o.length lz kp fd hrx hnp hct S I hT hIt2) H.size) (cwV 0 hts (hGV hmc k_677 k_679 k_8 k_29 k_680) rfl rfl rfl (by decide +kernel) ⟨Nat.le_of_ble_eq_true rfl, Nat.le_of_ble_eq_true rfl⟩) (hpreV E hP hD hS g0 rfl) rfl rfl hl.1 rfl (lv_room (Nat.le_of_ble_eq_true rfl)) dX9_solutions_1 ⟨(Nat.le_refl _), (Nat.le_refl _)⟩) (fun ws1 H locs hp hP hD hS => ?_)
  obtain ⟨g, lz1, hrx, hfr, B, hB, hg6, hlz⟩ := hp
  have hval : ∀ k, k < np → ∃ q, q < np ∧ g 6 k = nI q := fun k hk => ⟨B k, hB.1.1 k hk, hg6 k hk⟩
  have hrb1 := hrb.frm (hfr 1 (by decide) (by decide) (by decide)) (hfr 2 (by decide) (by decide) (by decide)) (hfr 3 (by decide) (by decide) (by decide)) (hfr 11 (by decide) (by decide) (by decide)) (hfr 12 (by decide) (by decide) (by decide))
  have g0 := hrx.1
  refine lv_aload_n hx hb dX9_solutions_4 rfl (lv_at hl 0 rfl) ?_
  refine lv_bipush (v := (-2)) hx hb dX9_solutions_5 (by decide +kernel) ?_
  refine va_put (v := .int (-2)) (ty := .int) (C := RX9) (T := TX9) (N := 18) hx hb hts (hin_X9 hmc) tyX9 tyX9_ok nmX9 hown E.1.1 hP hD hS 0 g0 rfl 15 (by decide) (hts _ (hmc _ k_584)) (fun _ h9 => h9) rfl (by decide +kernel) rfl rfl (Nat.le_of_ble_eq_true rfl) dX9_solutions_7 (fun H locs hP hD hS => ?_)
  obtain ⟨ws2, ews2⟩ : ∃ zw : va_W, zw = List.set ws1 0 ((ad 0), .inr (iM, [.ref (ad 1), .int (nI cnt), .ref (ad 2), .int (nI np), .ref (ad 3), .int (nI o.length), .ref (ad 4), .ref (ad 5), .ref (ad 6), .long lz1, .ref (ad 7), .ref (ad 8), .ref (ad 9), .ref (ad 10), .int (nI kp), .int (-2), .ref (ad 11), .ref (ad 12)])) := ⟨_, rfl⟩
  have hP : va_P D vwCl ws2 H := by rw [ews2]; exact hP
  have hD : va_D A ws2 := by rw [ews2]; exact hD
  have g0 : ws2[0]? = some ((ad 0), .inr (iM, [.ref (ad 1), .int (nI cnt), .ref (ad 2), .int (nI np), .ref (ad 3), .int (nI o.length), .ref (ad 4), .ref (ad 5), .ref (ad 6), .long lz1, .ref (ad 7), .ref (ad 8), .ref (ad 9), .ref (ad 10), .int (nI kp), .int (-2), .ref (ad 11), .ref (ad 12)])) := by rw [ews2]; exact hset_eq g0
  have hrx : hRX K ad ws2 g cnt np o.length lz1 kp (-2) := by rw [ews2]; exact hrx.obj
  refine lv_aload_n hx hb dX9_solutions_10 rfl (lv_at hl 0 rfl) ?_
  refine lv_aload_n hx hb dX9_solutions_11 rfl (lv_at hl 0 rfl) ?_
  refine va_get (v := .ref (ad 6)) (C := RX9) (T := TX9) (N := 18) hx hb hts (hin_X9 hmc) hown E.1.1 hP 0 g0 rfl 8 (by decide) (hts _ (hmc _ k_577)) (fun _ h9 => h9) rfl dX9_solutions_12 ?_
  refine lv_aload_n hx hb dX9_solutions_15 rfl (lv_at hl 0 rfl) ?_
  refine va_get (v := .int (nI np)) (C := RX9) (T := TX9) (N := 18) hx hb hts (hin_X9 hmc) hown E.1.1 hP 0 g0 rfl 3 (by decide) (hts _ (hmc _ k_572)) (fun _ h9 => h9) rfl dX9_solutions_16 ?_
  refine lv_iconst (v := nI 1) hx hb dX9_solutions_19 (by decide +kernel) ?_
  refine hc_i E hD hS (va_runV (As := [.ref (ad 6), .int (nI np), .int (nI 1)]) (rest := []) ⟨hx, hb, hml, hown, hts⟩ ((c6_join l D K tv ws2 ad g cnt np o.length lz1 kp (-2) hrx hnp hct S (by rw [hfr 1 (by decide) (by decide) (by decide)]; exact hT) np hnp B (fun k => I (B k)) (fun k hk => ⟨hB.1.1 k hk, hg6 k hk⟩) (fun k hk i hi => by rw [hfr 2 (by decide) (by decide) (by decide)]; exact hIt2 _ (hB.1.1 k hk) i hi)) H.size) (cwV 3 hts (hGV hmc k_727 k_729 k_14 k_29 k_730) rfl rfl rfl (by decide +kernel) ⟨Nat.le_of_ble_eq_true rfl, Nat.le_of_ble_eq_true rfl⟩) (hpreV E hP hD hS g0 rfl) rfl rfl hl.1 rfl (lv_room (Nat.le_of_ble_eq_true rfl)) dX9_solutions_20 ⟨(Nat.le_refl _), (Nat.le_refl _)⟩) (fun r4 ws3 H locs hp hP hD hS => ?_)
  obtain ⟨g2, kp1, hrx, hfr2, hkp1, hj9⟩ := hp
  obtain ⟨q1, q2, q3, q4, q5, q6, q7, q8⟩ := id hrb1
  have hrb2 : hRB g2 S cnt np o I (-2) := hrb1.frm2 (hfr2 1 (by decide) (by decide) (by decide) (by decide)) (hfr2 2 (by decide) (by decide) (by decide) (by decide)) (hfr2 3 (by decide) (by decide) (by decide) (by decide)) ⟨Or.inl rfl, by rw [hfr2 11 (by decide) (by decide) (by decide) (by decide)]; exact q8.2.1, by rw [hfr2 12 (by decide) (by decide) (by decide) (by decide)]; exact q8.2.2⟩
  have g0 := hrx.1
  refine lv_if_ge (tgt := 29) hx hb dX9_solutions_23 (by decide) (fun c1 => ?_) (fun c1 => ?_)
  · have hsol : hSolP S I np (nI kp1) := ⟨B, hB, by
      rcases hj9 with ⟨-, q⟩ | ⟨q1, -, q3⟩
      · rw [q] at c1; exact absurd c1 (by decide +kernel)
      · exact Or.inr ⟨q1, by rw [Nat.min_eq_left (Nat.le_trans (Nat.le_of_eq q3.symm) hkp1), q3]⟩⟩
    refine lv_iconst (v := nI 0) hx hb dX9_solutions_29 (by decide +kernel) ?_
    refine lv_istore_n (lv' := [(1, .int (nI 0)), (0, .ref (ad 0))]) hx hb dX9_solutions_30 rfl hl (by decide) rfl (fun ls hl => ?_)
    refine hloopW (α := Nat) 31 2 (fun k => [(1, .int (nI k)), (0, .ref (ad 0))]) (fun k w9 => k ≤ kp1 ∧ ∃ f11, hRX K ad w9 (hup g2 11 f11) cnt np o.length lz1 kp1 (-2) ∧ hIx f11) (fun k => kp1 - k) (fun _ => 0) (fun _ => 0) ?_ 0 ⟨Nat.zero_le _, g2 11, by rw [hup_id]; exact hrx, hrb2.2.2.2.2.2.2.2.2.1⟩ hP hD hS (lv_sub hl [0, 1] rfl)
    intro k w9 H locs ls hI9 hP hD hS hl ih
    obtain ⟨hk, f11, hrx, hx11⟩ := hI9
    have hl : lv_has ls 2 [(1, .int (nI k)), (0, .ref (ad 0))] := hl
    have g0 := hrx.1
    have g11 : w9[11]? = some (ad 11, .inl (K 0, 20000, .inl f11)) := hrx.2 11 (by decide) (by decide)
    refine lv_iload_n hx hb dX9_solutions_31 rfl (lv_at hl 0 rfl) ?_
    refine lv_aload_n hx hb dX9_solutions_32 rfl (lv_at hl 1 rfl) ?_
    refine va_get (v := .int (nI kp1)) (C := RX9) (T := TX9) (N := 18) hx hb hts (hin_X9 hmc) hown E.1.1 hP 0 g0 rfl 14 (by decide) (hts _ (hmc _ k_583)) (fun _ h9 => h9) rfl dX9_solutions_33 ?_
    refine lv_icmp_ge (tgt := 52) hx hb dX9_solutions_36 (by decide) (fun c2 => ?_) (fun c2 => ?_)
    · clear ih
      have hx12 : hIx (g2 12) := hrb2.2.2.2.2.2.2.2.2.2
      refine lv_bipush (v := nI 7) hx hb dX9_solutions_52 (by decide +kernel) ?_
      refine htopi (v := (hkv 8)) (by decide +kernel) ?_
      refine lv_istore_n (lv' := [(1, .int (hkv 8)), (0, .ref (ad 0))]) hx hb dX9_solutions_54 rfl hl (by decide) rfl (fun ls hl => ?_)
      refine hloopW (α := Nat) 55 2 (fun a => [(1, .int (hkv a)), (0, .ref (ad 0))]) (fun a w9 => a ≤ 8 ∧ ∃ g3, hRX K ad w9 g3 cnt np o.length lz1 kp1 (-2) ∧ g3 1 = g2 1 ∧ g3 2 = g2 2 ∧ g3 3 = g2 3 ∧ hIx (g3 11) ∧ hIx (g3 12)) (fun a => a) (fun _ => 0) (fun _ => 0) ?_ 8 ⟨Nat.le_refl _, _, hrx, rfl, rfl, rfl, hx11, hx12⟩ hP hD hS (lv_sub hl [0, 1] rfl)
      intro a w9 H locs ls hI9 hP hD hS hl ih
      obtain ⟨ha, g3, hrx, hg1, hg2, hg3, hx11, hx12⟩ := hI9
      have hl : lv_has ls 2 [(1, .int (hkv a)), (0, .ref (ad 0))] := hl
      by_cases ha0 : a = 0
      · rw [show hkv a = (-1) from if_pos ha0] at hl
        have g0 := hrx.1
        refine lv_iload_n hx hb dX9_solutions_55 rfl (lv_at hl 0 rfl) ?_
        refine lv_if_lt (tgt := 70) hx hb dX9_solutions_56 (by decide) (fun c3 => ?_) (fun c3 => ?_)
        · refine lv_aload_n hx hb dX9_solutions_70 rfl (lv_at hl 1 rfl) ?_
          refine lv_aload_n hx hb dX9_solutions_71 rfl (lv_at hl 1 rfl) ?_
          refine va_get (v := .int (nI kp1)) (C := RX9) (T := TX9) (N := 18) hx hb hts (hin_X9 hmc) hown E.1.1 hP 0 g0 rfl 14 (by decide) (hts _ (hmc _ k_583)) (fun _ h9 => h9) rfl dX9_solutions_72 ?_
          refine va_put (v := .int (nI kp1)) (ty := .int) (C := RX9) (T := TX9) (N := 18) hx hb hts (hin_X9 hmc) tyX9 tyX9_ok nmX9 hown E.1.1 hP hD hS 0 g0 rfl 15 (by decide) (hts _ (hmc _ k_584)) (fun _ h9 => h9) rfl (by decide +kernel) rfl rfl (Nat.le_of_ble_eq_true rfl) dX9_solutions_75 (fun H locs hP hD hS => ?_)
          obtain ⟨ws5, ews5⟩ : ∃ zw : va_W, zw = List.set w9 0 ((ad 0), .inr (iM, [.ref (ad 1), .int (nI cnt), .ref (ad 2), .int (nI np), .ref (ad 3), .int (nI o.length), .ref (ad 4), .ref (ad 5), .ref (ad 6), .long lz1, .ref (ad 7), .ref (ad 8), .ref (ad 9), .ref (ad 10), .int (nI kp1), .int (nI kp1), .ref (ad 11), .ref (ad 12)])) := ⟨_, rfl⟩
          have hP : va_P D vwCl ws5 H := by rw [ews5]; exact hP
          have hD : va_D A ws5 := by rw [ews5]; exact hD
          have g0 : ws5[0]? = some ((ad 0), .inr (iM, [.ref (ad 1), .int (nI cnt), .ref (ad 2), .int (nI np), .ref (ad 3), .int (nI o.length), .ref (ad 4), .ref (ad 5), .ref (ad 6), .long lz1, .ref (ad 7), .ref (ad 8), .ref (ad 9), .ref (ad 10), .int (nI kp1), .int (nI kp1), .ref (ad 11), .ref (ad 12)])) := by rw [ews5]; exact hset_eq g0
          have hrx : hRX K ad ws5 g3 cnt np o.length lz1 kp1 (nI kp1) := by rw [ews5]; exact hrx.obj
          refine lv_aload_n hx hb dX9_solutions_78 rfl (lv_at hl 1 rfl) ?_
          refine va_get (v := .int (nI kp1)) (C := RX9) (T := TX9) (N := 18) hx hb hts (hin_X9 hmc) hown E.1.1 hP 0 g0 rfl 15 (by decide) (hts _ (hmc _ k_584)) (fun _ h9 => h9) rfl dX9_solutions_79 ?_
          subst hAe
          exact W.iret (v := nI kp1) hx hb hr (fun t ht _ => ⟨⟨nI kp1, ws5, rfl, ⟨hsol, _, _, _, _, hrx, hrb2.frm2 hg1 hg2 hg3 ⟨Or.inr ⟨kp1, rfl, hkp1⟩, hx11, hx12⟩⟩, by rw [ht]; exact hP, hD⟩, hS.F ht⟩) hS.2.2 dX9_solutions_82
        · exact absurd (by decide +kernel) c3
      · obtain ⟨b, rfl⟩ : ∃ b, a = b + 1 := ⟨a - 1, by omega⟩
        rw [show hkv (b + 1) = nI b from if_neg (by omega)] at hl
        have g0 := hrx.1
        refine lv_iload_n hx hb dX9_solutions_55 rfl (lv_at hl 0 rfl) ?_
        refine lv_if_lt (tgt := 70) hx hb dX9_solutions_56 (by decide) (fun c3 => ?_) (fun c3 => ?_)
        · exact absurd c3 (nI_pos (by omega))
        · refine lv_aload_n hx hb dX9_solutions_59 rfl (lv_at hl 1 rfl) ?_
          refine lv_iload_n hx hb dX9_solutions_60 rfl (lv_at hl 0 rfl) ?_
          refine hc_v E hD hS (va_runV (As := [.int (nI b)]) (rest := []) ⟨hx, hb, hml, hown, hts⟩ ((c_X9_sortBy l D K tv w9 ad g3 cnt np o.length lz1 kp1 (-2) hrx hkp1 b (by omega) hx11 hx12) H.size) (cwV 1 hts (hGV hmc k_747 k_749 k_18 k_29 k_750) rfl rfl rfl (by decide +kernel) ⟨Nat.le_of_ble_eq_true rfl, Nat.le_of_ble_eq_true rfl⟩) (hpreV E hP hD hS g0 rfl) rfl rfl hl.1 rfl (lv_room (Nat.le_of_ble_eq_true rfl)) dX9_solutions_61 ⟨(Nat.le_refl _), (Nat.le_refl _)⟩) (fun ws6 H locs hp hP hD hS => ?_)
          obtain ⟨f11, f12, hrx, hx11, hx12⟩ := hp
          refine lv_iinc (v := (hkv b)) (lv' := [(1, .int (hkv b)), (0, .ref (ad 0))]) hx hb dX9_solutions_64 hl (k := 0) rfl (hkv_dec b) (by decide) rfl (fun ls hl => ?_)
          refine lv_goto (tgt := 55) hx hb dX9_solutions_67 (by decide) ?_
          exact ih b _ H locs ls ⟨by omega, _, hrx, hg1, hg2, hg3, hx11, hx12⟩ (Nat.lt_succ_self _) hP hD hS (lv_sub hl [0, 1] rfl)
    · have hk2 : k < kp1 := Nat.not_le.mp (fun z => c2 (nI_le z (by omega)))
      refine lv_aload_n hx hb dX9_solutions_39 rfl (lv_at hl 1 rfl) ?_
      refine va_get (v := .ref (ad 11)) (C := RX9) (T := TX9) (N := 18) hx hb hts (hin_X9 hmc) hown E.1.1 hP 0 g0 rfl 16 (by decide) (hts _ (hmc _ k_585)) (fun _ h9 => h9) rfl dX9_solutions_40 ?_
      refine lv_iload_n hx hb dX9_solutions_43 rfl (lv_at hl 0 rfl) ?_
      refine lv_iload_n hx hb dX9_solutions_44 rfl (lv_at hl 0 rfl) ?_
      refine va_iast hx hb E.1.1 hP hD hS 11 0 g11 rfl (vp_in_nI (by omega) (by omega)) dX9_solutions_45 (fun H locs hP hD hS => ?_)
      rw [nI_clamp (show k < 2 ^ 31 by omega)] at hP hD
      obtain ⟨ws7, ews7⟩ : ∃ zw : va_W, zw = List.set w9 11 ((ad 11), .inl (K 0, 20000, .inl (upd f11 k (nI k)))) := ⟨_, rfl⟩
      have hP : va_P D vwCl ws7 H := by rw [ews7]; exact hP
      have hD : va_D A ws7 := by rw [ews7]; exact hD
      have g0 := (show ws7[0]? = _ from (by rw [ews7]; exact hset_ne (by omega))).trans g0
      have g11 : ws7[11]? = some ((ad 11), .inl (K 0, 20000, .inl (upd f11 k (nI k)))) := by rw [ews7]; exact hset_eq g11
      have hrx : hRX K ad ws7 (hup (hup g2 11 f11) 11 (upd f11 k (nI k))) cnt np o.length lz1 kp1 (-2) := by rw [ews7]; exact hrx.arr 11 (by decide) (by decide) _
      rw [hup_up] at hrx
      refine lv_iinc (v := nI (k + 1)) (lv' := [(1, .int (nI (k + 1))), (0, .ref (ad 0))]) hx hb dX9_solutions_46 hl (k := 0) rfl (nI_1 _) (by decide) rfl (fun ls hl => ?_)
      refine lv_goto (tgt := 31) hx hb dX9_solutions_49 (by decide) ?_
      exact ih (k + 1) _ H locs ls ⟨by omega, _, hrx, hx11.upd (by omega)⟩ (by omega) hP hD hS (lv_sub hl [0, 1] rfl)
  · have hsol : hSolP S I np (-2) := ⟨B, hB, by
      rcases hj9 with ⟨q, -⟩ | ⟨q1, q2, -⟩
      · exact Or.inl ⟨q, rfl⟩
      · rw [q2] at c1; exact absurd (Int32.not_lt.mp (nI_pos (by omega))) c1⟩
    refine lv_bipush (v := (-2)) hx hb dX9_solutions_26 (by decide +kernel) ?_
    subst hAe
    exact W.iret (v := (-2)) hx hb hr (fun t ht _ => ⟨⟨(-2), ws3, rfl, ⟨hsol, _, _, _, _, hrx, hrb2⟩, by rw [ht]; exact hP, hD⟩, hS.F ht⟩) hS.2.2 dX9_solutions_28

set_option maxHeartbeats 4000000 in
set_option maxRecDepth 100000 in
/-- the reference: value -/
theorem c_X9_value (l : Launch) (D : va_G) (K : Nat → ClassId) (tv : Nat) (ws : va_W) (ad : Nat → Nat) (S : Nat → Nat → Nat → Prop) (cnt np : Nat) (o : List Nat) (I : Nat → Nat → Nat) (hms : hMS K ad ws S cnt np o I) (x y : Int32) : hI l D (hTy K) tv yX9_value cX9_value 5 (some .int) ({ frames := 2, cells := 0, slots := 0, locals := 120 }) [.ref (ad 0), .int x, .int y] ws (fun _ ws1 => hMS K ad ws1 S cnt np o I) := by
  intro sz
  refine Met.ofW (cc := cX9_value) (maxL := 5) (ret := (some .int)) (by decide) rfl ?_
  intro p e s m args below meth c s₁ B hml hv0
  obtain ⟨rfl, rfl, E, hP, hD⟩ := hentry hv0
  have hx := B.exec
  have hb := B.bytes
  have hr := B.returns
  have hts := atoms_spec (ws := hC yX9_value cX9_value 5 (some .int)) B.pre
  have hown : s.vm.findClass RX9 = some m.cls := findClass_of_methodNamed B.named
  have hlocks := B.notSynchronized
  generalize hAe : va_A ws s.heap.size = A at hD E ⊢
  have hl := lv_entry ([.ref (ad 0), .int x, .int y]) (n := 5) (Nat.le_of_ble_eq_true rfl)
  rw [lg_entry_eq]
  generalize (lg_sl ([.ref (ad 0), .int x, .int y]) ++ List.replicate (5 - (lg_sl ([.ref (ad 0), .int x, .int y])).length) Slot.unset).toArray = ls at hl ⊢
  have hl : lv_has ls 5 [(0, .ref (ad 0)), (1, .int x), (2, .int y)] := hl
  refine hat0 (fun H hHe => ?_)
  have hP : va_P D vwCl ws H := by rw [hHe]; exact hP
  have hS : va_S A s.heap H [] := by rw [hHe]; exact va_S.rf
  obtain ⟨f, lz, kp, fd, hrx, hrb⟩ := id hms
  obtain ⟨hct, hnp, hnd, hon, hT, hIt, hO, hF⟩ := id hrb
  have g0 := hrx.1
  have g10 : ws[10]? = some (ad 10, .inl (K 0, 160000, .inl (f 10))) := hrx.2 10 (by decide) (by decide)
  have g11 : ws[11]? = some (ad 11, .inl (K 0, 20000, .inl (f 11))) := hrx.2 11 (by decide) (by decide)
  refine lv_iload_n hx hb dX9_value_0 rfl (lv_at hl 1 rfl) ?_
  refine lv_if_lt (tgt := 22) hx hb dX9_value_1 (by decide) (fun c1 => ?_) (fun c1 => ?_)
  · refine lv_iconst (v := (-1)) hx hb dX9_value_22 (by decide +kernel) ?_
    subst hAe
    exact W.iret (v := (-1)) hx hb hr (fun t ht _ => ⟨⟨(-1), ws, rfl, hms, by rw [ht]; exact hP, hD⟩, hS.F ht⟩) hS.2.2 dX9_value_23
  · refine lv_iload_n hx hb dX9_value_4 rfl (lv_at hl 1 rfl) ?_
    refine lv_aload_n hx hb dX9_value_5 rfl (lv_at hl 0 rfl) ?_
    refine va_get (v := .int fd) (C := RX9) (T := TX9) (N := 18) hx hb hts (hin_X9 hmc) hown E.1.1 hP 0 g0 rfl 15 (by decide) (hts _ (hmc _ k_584)) (fun _ h9 => h9) rfl dX9_value_6 ?_
    refine lv_icmp_ge (tgt := 22) hx hb dX9_value_9 (by decide) (fun c2 => ?_) (fun c2 => ?_)
    · refine lv_iconst (v := (-1)) hx hb dX9_value_22 (by decide +kernel) ?_
      subst hAe
      exact W.iret (v := (-1)) hx hb hr (fun t ht _ => ⟨⟨(-1), ws, rfl, hms, by rw [ht]; exact hP, hD⟩, hS.F ht⟩) hS.2.2 dX9_value_23
    · refine lv_iload_n hx hb dX9_value_12 rfl (lv_at hl 2 rfl) ?_
      refine lv_if_ge (tgt := 22) hx hb dX9_value_13 (by decide) (fun c3 => ?_) (fun c3 => ?_)
      · refine lv_iconst (v := (-1)) hx hb dX9_value_22 (by decide +kernel) ?_
        subst hAe
        exact W.iret (v := (-1)) hx hb hr (fun t ht _ => ⟨⟨(-1), ws, rfl, hms, by rw [ht]; exact hP, hD⟩, hS.F ht⟩) hS.2.2 dX9_value_23
      · refine lv_iload_n hx hb dX9_value_16 rfl (lv_at hl 2 rfl) ?_
        refine lv_bipush (v := (-8)) hx hb dX9_value_17 (by decide +kernel) ?_
        refine lv_icmp_ge (tgt := 24) hx hb dX9_value_19 (by decide) (fun c4 => ?_) (fun c4 => ?_)
        · obtain ⟨k8, hk8, rfl⟩ := hOkV_of (hOkV_pos c3 (Int32.not_lt.mpr c4))
          obtain ⟨i, hi, rfl⟩ : ∃ i, i < 20000 ∧ x = nI i := by
            obtain ⟨i, hi, rfl⟩ := nI_of c1
            rcases hF.1 with q | ⟨n, q, hn⟩
            · rw [q] at c2
              exact absurd (Int32.le_trans (by decide +kernel) (Int32.not_lt.mp (nI_pos hi))) c2
            · rw [q] at c2
              exact ⟨i, by have : i < n := Nat.not_le.mp (fun z => c2 (nI_le z hi)); omega, rfl⟩
          obtain ⟨m8, hm1, hm2⟩ := hF.2.1 i hi
          refine lv_iconst (v := nI 0) hx hb dX9_value_24 (by decide +kernel) ?_
          refine lv_istore_n (lv' := [(3, .int (nI 0)), (0, .ref (ad 0)), (1, .int (nI i)), (2, .int (hvI k8))]) hx hb dX9_value_25 rfl hl (by decide) rfl (fun ls hl => ?_)
          refine lv_iconst (v := nI 0) hx hb dX9_value_26 (by decide +kernel) ?_
          refine lv_istore (lv' := [(4, .int (nI 0)), (3, .int (nI 0)), (0, .ref (ad 0)), (1, .int (nI i)), (2, .int (hvI k8))]) hx hb dX9_value_27 hl (by decide) rfl (fun ls hl => ?_)
          refine hloopW (α := Nat × Int32) 29 5 (fun y9 => [(4, .int (nI y9.1)), (3, .int y9.2), (0, .ref (ad 0)), (1, .int (nI i)), (2, .int (hvI k8))]) (fun y9 w9 => y9.1 ≤ np ∧ ws = w9) (fun y9 => np - y9.1) (fun _ => 0) (fun _ => 0) ?_ (0, nI 0) ⟨Nat.zero_le _, rfl⟩ hP hD hS (lv_sub hl [0, 1, 2, 3, 4] rfl)
          rintro ⟨j, bs⟩ w9 H locs ls hI9 hP hD hS hl ih
          obtain ⟨hj, rfl⟩ := hI9
          dsimp only at hj ih
          have hl : lv_has ls 5 [(4, .int (nI j)), (3, .int bs), (0, .ref (ad 0)), (1, .int (nI i)), (2, .int (hvI k8))] := hl
          refine lv_iload hx hb dX9_value_29 (lv_at hl 0 rfl) ?_
          refine lv_aload_n hx hb dX9_value_31 rfl (lv_at hl 2 rfl) ?_
          refine va_get (v := .int (nI np)) (C := RX9) (T := TX9) (N := 18) hx hb hts (hin_X9 hmc) hown E.1.1 hP 0 g0 rfl 3 (by decide) (hts _ (hmc _ k_572)) (fun _ h9 => h9) rfl dX9_value_32 ?_
          refine lv_icmp_ge (tgt := 53) hx hb dX9_value_35 (by decide) (fun c5 => ?_) (fun c5 => ?_)
          · refine lv_iload_n hx hb dX9_value_53 rfl (lv_at hl 1 rfl) ?_
            refine lv_iload_n hx hb dX9_value_54 rfl (lv_at hl 4 rfl) ?_
            refine hc_si (va_runS (As := [.int (hvI k8)]) (rest := [.int bs]) ⟨hx, hb, hml, hown, hts⟩ (c_X9_bit l (hvI k8)) (va_cwS 1 hts (hGS hmc k_670 k_671 k_29 k_672) rfl rfl rfl (by decide +kernel) ⟨Nat.le_of_ble_eq_true rfl, Nat.le_of_ble_eq_true rfl⟩) hpre0 rfl rfl hl.1 rfl (lv_room (Nat.le_of_ble_eq_true rfl)) dX9_value_55 ⟨(Nat.le_refl _), (Nat.le_refl _)⟩) (fun r1 hp9 => ?_)
            refine lv_iand hx hb dX9_value_58 ?_
            refine lv_if_ne (tgt := 66) hx hb dX9_value_59 (by decide) (fun c6 => ?_) (fun c6 => ?_)
            · refine lv_aload_n hx hb dX9_value_66 rfl (lv_at hl 2 rfl) ?_
              refine va_get (v := .ref (ad 10)) (C := RX9) (T := TX9) (N := 18) hx hb hts (hin_X9 hmc) hown E.1.1 hP 0 g0 rfl 13 (by decide) (hts _ (hmc _ k_582)) (fun _ h9 => h9) rfl dX9_value_67 ?_
              refine lv_bipush (v := nI 8) hx hb dX9_value_70 (by decide +kernel) ?_
              refine lv_aload_n hx hb dX9_value_72 rfl (lv_at hl 2 rfl) ?_
              refine va_get (v := .ref (ad 11)) (C := RX9) (T := TX9) (N := 18) hx hb hts (hin_X9 hmc) hown E.1.1 hP 0 g0 rfl 16 (by decide) (hts _ (hmc _ k_585)) (fun _ h9 => h9) rfl dX9_value_73 ?_
              refine lv_iload_n hx hb dX9_value_76 rfl (lv_at hl 3 rfl) ?_
              refine va_iald hx hb E.1.1 hP 11 0 g11 rfl (vp_in_nI (by omega) (by omega)) dX9_value_77 ?_
              refine htopi (v := (f 11) i) (by rw [nI_clamp (by omega)]) ?_
              refine htopi (v := nI m8) (hm2) ?_
              refine lv_imul hx hb dX9_value_78 ?_
              refine htopi (v := nI (8 * m8)) (pk_mul _ _) ?_
              refine lv_iconst (v := nI 1) hx hb dX9_value_79 (by decide +kernel) ?_
              refine lv_isub hx hb dX9_value_80 ?_
              refine lv_iload_n hx hb dX9_value_81 rfl (lv_at hl 4 rfl) ?_
              refine lv_isub hx hb dX9_value_82 ?_
              refine htopi (v := nI (8 * m8 + k8)) (hval_ix _ hk8) ?_
              refine va_iald hx hb E.1.1 hP 10 0 g10 rfl (vp_in_nI (by omega) (by omega)) dX9_value_83 ?_
              refine htopi (v := (f 10) (8 * m8 + k8)) (by rw [nI_clamp (by omega)]) ?_
              subst hAe
              exact W.iret (v := (f 10) (8 * m8 + k8)) hx hb hr (fun t ht _ => ⟨⟨(f 10) (8 * m8 + k8), ws, rfl, hms, by rw [ht]; exact hP, hD⟩, hS.F ht⟩) hS.2.2 dX9_value_84
            · refine lv_iconst (v := (-1)) hx hb dX9_value_62 (by decide +kernel) ?_
              refine lv_goto (tgt := 84) hx hb dX9_value_63 (by decide) ?_
              subst hAe
              exact W.iret (v := (-1)) hx hb hr (fun t ht _ => ⟨⟨(-1), ws, rfl, hms, by rw [ht]; exact hP, hD⟩, hS.F ht⟩) hS.2.2 dX9_value_84
          · have hjn : j < np := Nat.not_le.mp (fun z => c5 (nI_le z (by omega)))
            refine lv_iload_n hx hb dX9_value_38 rfl (lv_at hl 1 rfl) ?_
            refine lv_aload_n hx hb dX9_value_39 rfl (lv_at hl 2 rfl) ?_
            refine lv_iload hx hb dX9_value_40 (lv_at hl 0 rfl) ?_
            refine hc_i E hD hS (va_runV (As := [.int (nI j)]) (rest := [.int bs]) ⟨hx, hb, hml, hown, hts⟩ ((c_X9_variables l D K tv ws ad f cnt np o.length lz kp fd hrx j (by omega)) H.size) (cwV 1 hts (hGV hmc k_690 k_692 k_11 k_29 k_693) rfl rfl rfl (by decide +kernel) ⟨Nat.le_of_ble_eq_true rfl, Nat.le_of_ble_eq_true rfl⟩) (hpreV E hP hD hS g0 rfl) rfl rfl hl.1 rfl (lv_room (Nat.le_of_ble_eq_true rfl)) dX9_value_42 ⟨(Nat.le_refl _), (Nat.le_refl _)⟩) (fun r3 ws2 H locs hp hP hD hS => ?_)
            obtain rfl := hp
            refine lv_ior hx hb dX9_value_45 ?_
            refine lv_istore_n (lv' := [(3, .int (bs ||| r3)), (4, .int (nI j)), (0, .ref (ad 0)), (1, .int (nI i)), (2, .int (hvI k8))]) hx hb dX9_value_46 rfl hl (by decide) rfl (fun ls hl => ?_)
            refine lv_iinc (v := nI (j + 1)) (lv' := [(4, .int (nI (j + 1))), (3, .int (bs ||| r3)), (0, .ref (ad 0)), (1, .int (nI i)), (2, .int (hvI k8))]) hx hb dX9_value_47 hl (k := 1) rfl (nI_1 _) (by decide) rfl (fun ls hl => ?_)
            refine lv_goto (tgt := 29) hx hb dX9_value_50 (by decide) ?_
            exact ih (j + 1, _) _ H locs ls ⟨by show j + 1 ≤ np; omega, rfl⟩ (by show np - (j + 1) < np - j; omega) hP hD hS (lv_sub hl [0, 1, 2, 3, 4] rfl)
        · refine lv_iconst (v := (-1)) hx hb dX9_value_22 (by decide +kernel) ?_
          subst hAe
          exact W.iret (v := (-1)) hx hb hr (fun t ht _ => ⟨⟨(-1), ws, rfl, hms, by rw [ht]; exact hP, hD⟩, hS.F ht⟩) hS.2.2 dX9_value_23

set_option maxHeartbeats 4000000 in
set_option maxRecDepth 100000 in
/-- new JoinPlannerModel -/
theorem c_X9_init (l : Launch) (D : va_G) (K : Nat → ClassId) (tv : Nat) (h : Nat) : hV l D (hTy K) tv yX9_init cX9_init 1 none ({ frames := 1, cells := 12, slots := 203516, locals := 60 }) [.ref h] [(h, .inr (iM, [.null, .int 0, .null, .int 0, .null, .int 0, .null, .null, .null, .long 0, .null, .null, .null, .null, .int 0, .int 0, .null, .null]))] (fun ws1 => ∃ ad : Nat → Nat, ad 0 = h ∧ hRX K ad ws1 (fun _ _ => 0) 0 0 0 0 0 (-2)) := by
  intro sz
  refine Met.ofW (cc := cX9_init) (maxL := 1) (ret := none) (by decide) rfl ?_
  intro p e s m args below meth c s₁ B hml hv0
  obtain ⟨rfl, rfl, E, hP, hD⟩ := hentry hv0
  have hx := B.exec
  have hb := B.bytes
  have hr := B.returns
  have hts := atoms_spec (ws := hC yX9_init cX9_init 1 none) B.pre
  have hown : s.vm.findClass RX9 = some m.cls := findClass_of_methodNamed B.named
  have hlocks := B.notSynchronized
  have hin : meth.name = "<init>" := (name_of_methodNamed B.named B.method).1
  generalize hAe : va_A [(h, .inr (iM, [.null, .int 0, .null, .int 0, .null, .int 0, .null, .null, .null, .long 0, .null, .null, .null, .null, .int 0, .int 0, .null, .null]))] s.heap.size = A at hD E ⊢
  have hl := lv_entry ([.ref h]) (n := 1) (Nat.le_of_ble_eq_true rfl)
  rw [lg_entry_eq]
  generalize (lg_sl ([.ref h]) ++ List.replicate (1 - (lg_sl ([.ref h])).length) Slot.unset).toArray = ls at hl ⊢
  have hl : lv_has ls 1 [(0, .ref h)] := hl
  refine hat0 (fun H hHe => ?_)
  have hP : va_P D vwCl [(h, .inr (iM, [.null, .int 0, .null, .int 0, .null, .int 0, .null, .null, .null, .long 0, .null, .null, .null, .null, .int 0, .int 0, .null, .null]))] H := by rw [hHe]; exact hP
  have hS : va_S A s.heap H [] := by rw [hHe]; exact va_S.rf
  have hP : va_P D vwCl [(h, .inr (iM, [.null, .int 0, .null, .int 0, .null, .int 0, .null, .null, .null, .long 0, .null, .null, .null, .null, .int 0, .int 0, .null, .null]))] H := hP
  have hD : va_D A [(h, .inr (iM, [.null, .int 0, .null, .int 0, .null, .int 0, .null, .null, .null, .long 0, .null, .null, .null, .null, .int 0, .int 0, .null, .null]))] := hD
  refine lv_aload_n hx hb dX9_init_0 rfl (lv_at hl 0 rfl) ?_
  refine W.objInit hx hb hown (hts _ (hmc _ k_567)) (hts _ (hmc _ k_41)) (hts _ (hmc _ k_42)) rfl (by rw [hml]; exact hl.1) rfl dX9_init_1 (Nat.le_of_ble_eq_true rfl) (Nat.le_of_ble_eq_true rfl) ?_
  refine W.eq (g2 := F0 m 4 ls []) rfl ?_
  refine lv_aload_n hx hb dX9_init_4 rfl (lv_at hl 0 rfl) ?_
  refine lv_sipush (v := nI 1920) hx hb dX9_init_5 (by decide +kernel) ?_
  refine va_newa (atype := .int) (ty := .int) (N' := 1920) (a0 := (1920, .inl (fun _ => 0))) hx hb (hts _ (hmc _ k_61)) rfl E.1.1 hP hD hS E.2.2 (fun _ => rfl) (nI_pos (by decide)) (nI_clamp (by decide)) (by decide) (Nat.le_of_ble_eq_true rfl) (Nat.le_of_ble_eq_true rfl) dX9_init_8 (fun q1 cA H hK1 hP hD hS => ?_)
  obtain rfl : cA = K 0 := hRA (hK1.2 (hTy K).length _ rfl).2 (E.1.1.2 0 _ rfl).2
  have hP : va_P D vwCl [(h, .inr (iM, [.null, .int 0, .null, .int 0, .null, .int 0, .null, .null, .null, .long 0, .null, .null, .null, .null, .int 0, .int 0, .null, .null])), (q1, .inl (K 0, 1920, .inl (fun _ => 0)))] H := hP
  have hD : va_D A [(h, .inr (iM, [.null, .int 0, .null, .int 0, .null, .int 0, .null, .null, .null, .long 0, .null, .null, .null, .null, .int 0, .int 0, .null, .null])), (q1, .inl (K 0, 1920, .inl (fun _ => 0)))] := hD
  refine va_putF (v := .ref q1) (ty := .array .int) (C := RX9) (T := TX9) (N := 18) hx hb hts (hin_X9 hmc) tyX9 tyX9_ok nmX9 hown E.1.1 hP hD hS 0 rfl rfl 0 (by decide) (hts _ (hmc _ k_569)) (fun _ h9 => h9) rfl hin rfl (by decide +kernel) rfl rfl (Nat.le_of_ble_eq_true rfl) dX9_init_10 (fun H locs hP hD hS => ?_)
  have hP : va_P D vwCl [(h, .inr (iM, [.ref q1, .int 0, .null, .int 0, .null, .int 0, .null, .null, .null, .long 0, .null, .null, .null, .null, .int 0, .int 0, .null, .null])), (q1, .inl (K 0, 1920, .inl (fun _ => 0)))] H := hP
  have hD : va_D A [(h, .inr (iM, [.ref q1, .int 0, .null, .int 0, .null, .int 0, .null, .null, .null, .long 0, .null, .null, .null, .null, .int 0, .int 0, .null, .null])), (q1, .inl (K 0, 1920, .inl (fun _ => 0)))] := hD
  refine lv_aload_n hx hb dX9_init_13 rfl (lv_at hl 0 rfl) ?_
  refine lv_bipush (v := nI 18) hx hb dX9_init_14 (by decide +kernel) ?_
  refine va_newa (atype := .int) (ty := .int) (N' := 18) (a0 := (18, .inl (fun _ => 0))) hx hb (hts _ (hmc _ k_61)) rfl E.1.1 hP hD hS E.2.2 (fun _ => rfl) (nI_pos (by decide)) (nI_clamp (by decide)) (by decide) (Nat.le_of_ble_eq_true rfl) (Nat.le_of_ble_eq_true rfl) dX9_init_16 (fun q2 cA H hK1 hP hD hS => ?_)
  obtain rfl : cA = K 0 := hRA (hK1.2 (hTy K).length _ rfl).2 (E.1.1.2 0 _ rfl).2
  have hP : va_P D vwCl [(h, .inr (iM, [.ref q1, .int 0, .null, .int 0, .null, .int 0, .null, .null, .null, .long 0, .null, .null, .null, .null, .int 0, .int 0, .null, .null])), (q1, .inl (K 0, 1920, .inl (fun _ => 0))), (q2, .inl (K 0, 18, .inl (fun _ => 0)))] H := hP
  have hD : va_D A [(h, .inr (iM, [.ref q1, .int 0, .null, .int 0, .null, .int 0, .null, .null, .null, .long 0, .null, .null, .null, .null, .int 0, .int 0, .null, .null])), (q1, .inl (K 0, 1920, .inl (fun _ => 0))), (q2, .inl (K 0, 18, .inl (fun _ => 0)))] := hD
  refine va_putF (v := .ref q2) (ty := .array .int) (C := RX9) (T := TX9) (N := 18) hx hb hts (hin_X9 hmc) tyX9 tyX9_ok nmX9 hown E.1.1 hP hD hS 0 rfl rfl 2 (by decide) (hts _ (hmc _ k_571)) (fun _ h9 => h9) rfl hin rfl (by decide +kernel) rfl rfl (Nat.le_of_ble_eq_true rfl) dX9_init_18 (fun H locs hP hD hS => ?_)
  have hP : va_P D vwCl [(h, .inr (iM, [.ref q1, .int 0, .ref q2, .int 0, .null, .int 0, .null, .null, .null, .long 0, .null, .null, .null, .null, .int 0, .int 0, .null, .null])), (q1, .inl (K 0, 1920, .inl (fun _ => 0))), (q2, .inl (K 0, 18, .inl (fun _ => 0)))] H := hP
  have hD : va_D A [(h, .inr (iM, [.ref q1, .int 0, .ref q2, .int 0, .null, .int 0, .null, .null, .null, .long 0, .null, .null, .null, .null, .int 0, .int 0, .null, .null])), (q1, .inl (K 0, 1920, .inl (fun _ => 0))), (q2, .inl (K 0, 18, .inl (fun _ => 0)))] := hD
  refine lv_aload_n hx hb dX9_init_21 rfl (lv_at hl 0 rfl) ?_
  refine lv_bipush (v := nI 6) hx hb dX9_init_22 (by decide +kernel) ?_
  refine va_newa (atype := .int) (ty := .int) (N' := 6) (a0 := (6, .inl (fun _ => 0))) hx hb (hts _ (hmc _ k_61)) rfl E.1.1 hP hD hS E.2.2 (fun _ => rfl) (nI_pos (by decide)) (nI_clamp (by decide)) (by decide) (Nat.le_of_ble_eq_true rfl) (Nat.le_of_ble_eq_true rfl) dX9_init_24 (fun q3 cA H hK1 hP hD hS => ?_)
  obtain rfl : cA = K 0 := hRA (hK1.2 (hTy K).length _ rfl).2 (E.1.1.2 0 _ rfl).2
  have hP : va_P D vwCl [(h, .inr (iM, [.ref q1, .int 0, .ref q2, .int 0, .null, .int 0, .null, .null, .null, .long 0, .null, .null, .null, .null, .int 0, .int 0, .null, .null])), (q1, .inl (K 0, 1920, .inl (fun _ => 0))), (q2, .inl (K 0, 18, .inl (fun _ => 0))), (q3, .inl (K 0, 6, .inl (fun _ => 0)))] H := hP
  have hD : va_D A [(h, .inr (iM, [.ref q1, .int 0, .ref q2, .int 0, .null, .int 0, .null, .null, .null, .long 0, .null, .null, .null, .null, .int 0, .int 0, .null, .null])), (q1, .inl (K 0, 1920, .inl (fun _ => 0))), (q2, .inl (K 0, 18, .inl (fun _ => 0))), (q3, .inl (K 0, 6, .inl (fun _ => 0)))] := hD
  refine va_putF (v := .ref q3) (ty := .array .int) (C := RX9) (T := TX9) (N := 18) hx hb hts (hin_X9 hmc) tyX9 tyX9_ok nmX9 hown E.1.1 hP hD hS 0 rfl rfl 4 (by decide) (hts _ (hmc _ k_573)) (fun _ h9 => h9) rfl hin rfl (by decide +kernel) rfl rfl (Nat.le_of_ble_eq_true rfl) dX9_init_26 (fun H locs hP hD hS => ?_)
  have hP : va_P D vwCl [(h, .inr (iM, [.ref q1, .int 0, .ref q2, .int 0, .ref q3, .int 0, .null, .null, .null, .long 0, .null, .null, .null, .null, .int 0, .int 0, .null, .null])), (q1, .inl (K 0, 1920, .inl (fun _ => 0))), (q2, .inl (K 0, 18, .inl (fun _ => 0))), (q3, .inl (K 0, 6, .inl (fun _ => 0)))] H := hP
  have hD : va_D A [(h, .inr (iM, [.ref q1, .int 0, .ref q2, .int 0, .ref q3, .int 0, .null, .null, .null, .long 0, .null, .null, .null, .null, .int 0, .int 0, .null, .null])), (q1, .inl (K 0, 1920, .inl (fun _ => 0))), (q2, .inl (K 0, 18, .inl (fun _ => 0))), (q3, .inl (K 0, 6, .inl (fun _ => 0)))] := hD
  refine lv_aload_n hx hb dX9_init_29 rfl (lv_at hl 0 rfl) ?_
  refine lv_sipush (v := nI 1536) hx hb dX9_init_30 (by decide +kernel) ?_
  refine va_newa (atype := .int) (ty := .int) (N' := 1536) (a0 := (1536, .inl (fun _ => 0))) hx hb (hts _ (hmc _ k_61)) rfl E.1.1 hP hD hS E.2.2 (fun _ => rfl) (nI_pos (by decide)) (nI_clamp (by decide)) (by decide) (Nat.le_of_ble_eq_true rfl) (Nat.le_of_ble_eq_true rfl) dX9_init_33 (fun q4 cA H hK1 hP hD hS => ?_)
  obtain rfl : cA = K 0 := hRA (hK1.2 (hTy K).length _ rfl).2 (E.1.1.2 0 _ rfl).2
  have hP : va_P D vwCl [(h, .inr (iM, [.ref q1, .int 0, .ref q2, .int 0, .ref q3, .int 0, .null, .null, .null, .long 0, .null, .null, .null, .null, .int 0, .int 0, .null, .null])), (q1, .inl (K 0, 1920, .inl (fun _ => 0))), (q2, .inl (K 0, 18, .inl (fun _ => 0))), (q3, .inl (K 0, 6, .inl (fun _ => 0))), (q4, .inl (K 0, 1536, .inl (fun _ => 0)))] H := hP
  have hD : va_D A [(h, .inr (iM, [.ref q1, .int 0, .ref q2, .int 0, .ref q3, .int 0, .null, .null, .null, .long 0, .null, .null, .null, .null, .int 0, .int 0, .null, .null])), (q1, .inl (K 0, 1920, .inl (fun _ => 0))), (q2, .inl (K 0, 18, .inl (fun _ => 0))), (q3, .inl (K 0, 6, .inl (fun _ => 0))), (q4, .inl (K 0, 1536, .inl (fun _ => 0)))] := hD
  refine va_putF (v := .ref q4) (ty := .array .int) (C := RX9) (T := TX9) (N := 18) hx hb hts (hin_X9 hmc) tyX9 tyX9_ok nmX9 hown E.1.1 hP hD hS 0 rfl rfl 6 (by decide) (hts _ (hmc _ k_575)) (fun _ h9 => h9) rfl hin rfl (by decide +kernel) rfl rfl (Nat.le_of_ble_eq_true rfl) dX9_init_35 (fun H locs hP hD hS => ?_)
  have hP : va_P D vwCl [(h, .inr (iM, [.ref q1, .int 0, .ref q2, .int 0, .ref q3, .int 0, .ref q4, .null, .null, .long 0, .null, .null, .null, .null, .int 0, .int 0, .null, .null])), (q1, .inl (K 0, 1920, .inl (fun _ => 0))), (q2, .inl (K 0, 18, .inl (fun _ => 0))), (q3, .inl (K 0, 6, .inl (fun _ => 0))), (q4, .inl (K 0, 1536, .inl (fun _ => 0)))] H := hP
  have hD : va_D A [(h, .inr (iM, [.ref q1, .int 0, .ref q2, .int 0, .ref q3, .int 0, .ref q4, .null, .null, .long 0, .null, .null, .null, .null, .int 0, .int 0, .null, .null])), (q1, .inl (K 0, 1920, .inl (fun _ => 0))), (q2, .inl (K 0, 18, .inl (fun _ => 0))), (q3, .inl (K 0, 6, .inl (fun _ => 0))), (q4, .inl (K 0, 1536, .inl (fun _ => 0)))] := hD
  refine lv_aload_n hx hb dX9_init_38 rfl (lv_at hl 0 rfl) ?_
  refine lv_bipush (v := nI 6) hx hb dX9_init_39 (by decide +kernel) ?_
  refine va_newa (atype := .int) (ty := .int) (N' := 6) (a0 := (6, .inl (fun _ => 0))) hx hb (hts _ (hmc _ k_61)) rfl E.1.1 hP hD hS E.2.2 (fun _ => rfl) (nI_pos (by decide)) (nI_clamp (by decide)) (by decide) (Nat.le_of_ble_eq_true rfl) (Nat.le_of_ble_eq_true rfl) dX9_init_41 (fun q5 cA H hK1 hP hD hS => ?_)
  obtain rfl : cA = K 0 := hRA (hK1.2 (hTy K).length _ rfl).2 (E.1.1.2 0 _ rfl).2
  have hP : va_P D vwCl [(h, .inr (iM, [.ref q1, .int 0, .ref q2, .int 0, .ref q3, .int 0, .ref q4, .null, .null, .long 0, .null, .null, .null, .null, .int 0, .int 0, .null, .null])), (q1, .inl (K 0, 1920, .inl (fun _ => 0))), (q2, .inl (K 0, 18, .inl (fun _ => 0))), (q3, .inl (K 0, 6, .inl (fun _ => 0))), (q4, .inl (K 0, 1536, .inl (fun _ => 0))), (q5, .inl (K 0, 6, .inl (fun _ => 0)))] H := hP
  have hD : va_D A [(h, .inr (iM, [.ref q1, .int 0, .ref q2, .int 0, .ref q3, .int 0, .ref q4, .null, .null, .long 0, .null, .null, .null, .null, .int 0, .int 0, .null, .null])), (q1, .inl (K 0, 1920, .inl (fun _ => 0))), (q2, .inl (K 0, 18, .inl (fun _ => 0))), (q3, .inl (K 0, 6, .inl (fun _ => 0))), (q4, .inl (K 0, 1536, .inl (fun _ => 0))), (q5, .inl (K 0, 6, .inl (fun _ => 0)))] := hD
  refine va_putF (v := .ref q5) (ty := .array .int) (C := RX9) (T := TX9) (N := 18) hx hb hts (hin_X9 hmc) tyX9 tyX9_ok nmX9 hown E.1.1 hP hD hS 0 rfl rfl 7 (by decide) (hts _ (hmc _ k_576)) (fun _ h9 => h9) rfl hin rfl (by decide +kernel) rfl rfl (Nat.le_of_ble_eq_true rfl) dX9_init_43 (fun H locs hP hD hS => ?_)
  have hP : va_P D vwCl [(h, .inr (iM, [.ref q1, .int 0, .ref q2, .int 0, .ref q3, .int 0, .ref q4, .ref q5, .null, .long 0, .null, .null, .null, .null, .int 0, .int 0, .null, .null])), (q1, .inl (K 0, 1920, .inl (fun _ => 0))), (q2, .inl (K 0, 18, .inl (fun _ => 0))), (q3, .inl (K 0, 6, .inl (fun _ => 0))), (q4, .inl (K 0, 1536, .inl (fun _ => 0))), (q5, .inl (K 0, 6, .inl (fun _ => 0)))] H := hP
  have hD : va_D A [(h, .inr (iM, [.ref q1, .int 0, .ref q2, .int 0, .ref q3, .int 0, .ref q4, .ref q5, .null, .long 0, .null, .null, .null, .null, .int 0, .int 0, .null, .null])), (q1, .inl (K 0, 1920, .inl (fun _ => 0))), (q2, .inl (K 0, 18, .inl (fun _ => 0))), (q3, .inl (K 0, 6, .inl (fun _ => 0))), (q4, .inl (K 0, 1536, .inl (fun _ => 0))), (q5, .inl (K 0, 6, .inl (fun _ => 0)))] := hD
  refine lv_aload_n hx hb dX9_init_46 rfl (lv_at hl 0 rfl) ?_
  refine lv_bipush (v := nI 6) hx hb dX9_init_47 (by decide +kernel) ?_
  refine va_newa (atype := .int) (ty := .int) (N' := 6) (a0 := (6, .inl (fun _ => 0))) hx hb (hts _ (hmc _ k_61)) rfl E.1.1 hP hD hS E.2.2 (fun _ => rfl) (nI_pos (by decide)) (nI_clamp (by decide)) (by decide) (Nat.le_of_ble_eq_true rfl) (Nat.le_of_ble_eq_true rfl) dX9_init_49 (fun q6 cA H hK1 hP hD hS => ?_)
  obtain rfl : cA = K 0 := hRA (hK1.2 (hTy K).length _ rfl).2 (E.1.1.2 0 _ rfl).2
  have hP : va_P D vwCl [(h, .inr (iM, [.ref q1, .int 0, .ref q2, .int 0, .ref q3, .int 0, .ref q4, .ref q5, .null, .long 0, .null, .null, .null, .null, .int 0, .int 0, .null, .null])), (q1, .inl (K 0, 1920, .inl (fun _ => 0))), (q2, .inl (K 0, 18, .inl (fun _ => 0))), (q3, .inl (K 0, 6, .inl (fun _ => 0))), (q4, .inl (K 0, 1536, .inl (fun _ => 0))), (q5, .inl (K 0, 6, .inl (fun _ => 0))), (q6, .inl (K 0, 6, .inl (fun _ => 0)))] H := hP
  have hD : va_D A [(h, .inr (iM, [.ref q1, .int 0, .ref q2, .int 0, .ref q3, .int 0, .ref q4, .ref q5, .null, .long 0, .null, .null, .null, .null, .int 0, .int 0, .null, .null])), (q1, .inl (K 0, 1920, .inl (fun _ => 0))), (q2, .inl (K 0, 18, .inl (fun _ => 0))), (q3, .inl (K 0, 6, .inl (fun _ => 0))), (q4, .inl (K 0, 1536, .inl (fun _ => 0))), (q5, .inl (K 0, 6, .inl (fun _ => 0))), (q6, .inl (K 0, 6, .inl (fun _ => 0)))] := hD
  refine va_putF (v := .ref q6) (ty := .array .int) (C := RX9) (T := TX9) (N := 18) hx hb hts (hin_X9 hmc) tyX9 tyX9_ok nmX9 hown E.1.1 hP hD hS 0 rfl rfl 8 (by decide) (hts _ (hmc _ k_577)) (fun _ h9 => h9) rfl hin rfl (by decide +kernel) rfl rfl (Nat.le_of_ble_eq_true rfl) dX9_init_51 (fun H locs hP hD hS => ?_)
  have hP : va_P D vwCl [(h, .inr (iM, [.ref q1, .int 0, .ref q2, .int 0, .ref q3, .int 0, .ref q4, .ref q5, .ref q6, .long 0, .null, .null, .null, .null, .int 0, .int 0, .null, .null])), (q1, .inl (K 0, 1920, .inl (fun _ => 0))), (q2, .inl (K 0, 18, .inl (fun _ => 0))), (q3, .inl (K 0, 6, .inl (fun _ => 0))), (q4, .inl (K 0, 1536, .inl (fun _ => 0))), (q5, .inl (K 0, 6, .inl (fun _ => 0))), (q6, .inl (K 0, 6, .inl (fun _ => 0)))] H := hP
  have hD : va_D A [(h, .inr (iM, [.ref q1, .int 0, .ref q2, .int 0, .ref q3, .int 0, .ref q4, .ref q5, .ref q6, .long 0, .null, .null, .null, .null, .int 0, .int 0, .null, .null])), (q1, .inl (K 0, 1920, .inl (fun _ => 0))), (q2, .inl (K 0, 18, .inl (fun _ => 0))), (q3, .inl (K 0, 6, .inl (fun _ => 0))), (q4, .inl (K 0, 1536, .inl (fun _ => 0))), (q5, .inl (K 0, 6, .inl (fun _ => 0))), (q6, .inl (K 0, 6, .inl (fun _ => 0)))] := hD
  refine lv_aload_n hx hb dX9_init_54 rfl (lv_at hl 0 rfl) ?_
  refine lv_bipush (v := nI 9) hx hb dX9_init_55 (by decide +kernel) ?_
  refine va_newa (atype := .int) (ty := .int) (N' := 9) (a0 := (9, .inl (fun _ => 0))) hx hb (hts _ (hmc _ k_61)) rfl E.1.1 hP hD hS E.2.2 (fun _ => rfl) (nI_pos (by decide)) (nI_clamp (by decide)) (by decide) (Nat.le_of_ble_eq_true rfl) (Nat.le_of_ble_eq_true rfl) dX9_init_57 (fun q7 cA H hK1 hP hD hS => ?_)
  obtain rfl : cA = K 0 := hRA (hK1.2 (hTy K).length _ rfl).2 (E.1.1.2 0 _ rfl).2
  have hP : va_P D vwCl [(h, .inr (iM, [.ref q1, .int 0, .ref q2, .int 0, .ref q3, .int 0, .ref q4, .ref q5, .ref q6, .long 0, .null, .null, .null, .null, .int 0, .int 0, .null, .null])), (q1, .inl (K 0, 1920, .inl (fun _ => 0))), (q2, .inl (K 0, 18, .inl (fun _ => 0))), (q3, .inl (K 0, 6, .inl (fun _ => 0))), (q4, .inl (K 0, 1536, .inl (fun _ => 0))), (q5, .inl (K 0, 6, .inl (fun _ => 0))), (q6, .inl (K 0, 6, .inl (fun _ => 0))), (q7, .inl (K 0, 9, .inl (fun _ => 0)))] H := hP
  have hD : va_D A [(h, .inr (iM, [.ref q1, .int 0, .ref q2, .int 0, .ref q3, .int 0, .ref q4, .ref q5, .ref q6, .long 0, .null, .null, .null, .null, .int 0, .int 0, .null, .null])), (q1, .inl (K 0, 1920, .inl (fun _ => 0))), (q2, .inl (K 0, 18, .inl (fun _ => 0))), (q3, .inl (K 0, 6, .inl (fun _ => 0))), (q4, .inl (K 0, 1536, .inl (fun _ => 0))), (q5, .inl (K 0, 6, .inl (fun _ => 0))), (q6, .inl (K 0, 6, .inl (fun _ => 0))), (q7, .inl (K 0, 9, .inl (fun _ => 0)))] := hD
  refine va_putF (v := .ref q7) (ty := .array .int) (C := RX9) (T := TX9) (N := 18) hx hb hts (hin_X9 hmc) tyX9 tyX9_ok nmX9 hown E.1.1 hP hD hS 0 rfl rfl 10 (by decide) (hts _ (hmc _ k_579)) (fun _ h9 => h9) rfl hin rfl (by decide +kernel) rfl rfl (Nat.le_of_ble_eq_true rfl) dX9_init_59 (fun H locs hP hD hS => ?_)
  have hP : va_P D vwCl [(h, .inr (iM, [.ref q1, .int 0, .ref q2, .int 0, .ref q3, .int 0, .ref q4, .ref q5, .ref q6, .long 0, .ref q7, .null, .null, .null, .int 0, .int 0, .null, .null])), (q1, .inl (K 0, 1920, .inl (fun _ => 0))), (q2, .inl (K 0, 18, .inl (fun _ => 0))), (q3, .inl (K 0, 6, .inl (fun _ => 0))), (q4, .inl (K 0, 1536, .inl (fun _ => 0))), (q5, .inl (K 0, 6, .inl (fun _ => 0))), (q6, .inl (K 0, 6, .inl (fun _ => 0))), (q7, .inl (K 0, 9, .inl (fun _ => 0)))] H := hP
  have hD : va_D A [(h, .inr (iM, [.ref q1, .int 0, .ref q2, .int 0, .ref q3, .int 0, .ref q4, .ref q5, .ref q6, .long 0, .ref q7, .null, .null, .null, .int 0, .int 0, .null, .null])), (q1, .inl (K 0, 1920, .inl (fun _ => 0))), (q2, .inl (K 0, 18, .inl (fun _ => 0))), (q3, .inl (K 0, 6, .inl (fun _ => 0))), (q4, .inl (K 0, 1536, .inl (fun _ => 0))), (q5, .inl (K 0, 6, .inl (fun _ => 0))), (q6, .inl (K 0, 6, .inl (fun _ => 0))), (q7, .inl (K 0, 9, .inl (fun _ => 0)))] := hD
  refine lv_aload_n hx hb dX9_init_62 rfl (lv_at hl 0 rfl) ?_
  refine lv_bipush (v := nI 9) hx hb dX9_init_63 (by decide +kernel) ?_
  refine va_newa (atype := .int) (ty := .int) (N' := 9) (a0 := (9, .inl (fun _ => 0))) hx hb (hts _ (hmc _ k_61)) rfl E.1.1 hP hD hS E.2.2 (fun _ => rfl) (nI_pos (by decide)) (nI_clamp (by decide)) (by decide) (Nat.le_of_ble_eq_true rfl) (Nat.le_of_ble_eq_true rfl) dX9_init_65 (fun q8 cA H hK1 hP hD hS => ?_)
  obtain rfl : cA = K 0 := hRA (hK1.2 (hTy K).length _ rfl).2 (E.1.1.2 0 _ rfl).2
  have hP : va_P D vwCl [(h, .inr (iM, [.ref q1, .int 0, .ref q2, .int 0, .ref q3, .int 0, .ref q4, .ref q5, .ref q6, .long 0, .ref q7, .null, .null, .null, .int 0, .int 0, .null, .null])), (q1, .inl (K 0, 1920, .inl (fun _ => 0))), (q2, .inl (K 0, 18, .inl (fun _ => 0))), (q3, .inl (K 0, 6, .inl (fun _ => 0))), (q4, .inl (K 0, 1536, .inl (fun _ => 0))), (q5, .inl (K 0, 6, .inl (fun _ => 0))), (q6, .inl (K 0, 6, .inl (fun _ => 0))), (q7, .inl (K 0, 9, .inl (fun _ => 0))), (q8, .inl (K 0, 9, .inl (fun _ => 0)))] H := hP
  have hD : va_D A [(h, .inr (iM, [.ref q1, .int 0, .ref q2, .int 0, .ref q3, .int 0, .ref q4, .ref q5, .ref q6, .long 0, .ref q7, .null, .null, .null, .int 0, .int 0, .null, .null])), (q1, .inl (K 0, 1920, .inl (fun _ => 0))), (q2, .inl (K 0, 18, .inl (fun _ => 0))), (q3, .inl (K 0, 6, .inl (fun _ => 0))), (q4, .inl (K 0, 1536, .inl (fun _ => 0))), (q5, .inl (K 0, 6, .inl (fun _ => 0))), (q6, .inl (K 0, 6, .inl (fun _ => 0))), (q7, .inl (K 0, 9, .inl (fun _ => 0))), (q8, .inl (K 0, 9, .inl (fun _ => 0)))] := hD
  refine va_putF (v := .ref q8) (ty := .array .int) (C := RX9) (T := TX9) (N := 18) hx hb hts (hin_X9 hmc) tyX9 tyX9_ok nmX9 hown E.1.1 hP hD hS 0 rfl rfl 11 (by decide) (hts _ (hmc _ k_580)) (fun _ h9 => h9) rfl hin rfl (by decide +kernel) rfl rfl (Nat.le_of_ble_eq_true rfl) dX9_init_67 (fun H locs hP hD hS => ?_)
  have hP : va_P D vwCl [(h, .inr (iM, [.ref q1, .int 0, .ref q2, .int 0, .ref q3, .int 0, .ref q4, .ref q5, .ref q6, .long 0, .ref q7, .ref q8, .null, .null, .int 0, .int 0, .null, .null])), (q1, .inl (K 0, 1920, .inl (fun _ => 0))), (q2, .inl (K 0, 18, .inl (fun _ => 0))), (q3, .inl (K 0, 6, .inl (fun _ => 0))), (q4, .inl (K 0, 1536, .inl (fun _ => 0))), (q5, .inl (K 0, 6, .inl (fun _ => 0))), (q6, .inl (K 0, 6, .inl (fun _ => 0))), (q7, .inl (K 0, 9, .inl (fun _ => 0))), (q8, .inl (K 0, 9, .inl (fun _ => 0)))] H := hP
  have hD : va_D A [(h, .inr (iM, [.ref q1, .int 0, .ref q2, .int 0, .ref q3, .int 0, .ref q4, .ref q5, .ref q6, .long 0, .ref q7, .ref q8, .null, .null, .int 0, .int 0, .null, .null])), (q1, .inl (K 0, 1920, .inl (fun _ => 0))), (q2, .inl (K 0, 18, .inl (fun _ => 0))), (q3, .inl (K 0, 6, .inl (fun _ => 0))), (q4, .inl (K 0, 1536, .inl (fun _ => 0))), (q5, .inl (K 0, 6, .inl (fun _ => 0))), (q6, .inl (K 0, 6, .inl (fun _ => 0))), (q7, .inl (K 0, 9, .inl (fun _ => 0))), (q8, .inl (K 0, 9, .inl (fun _ => 0)))] := hD
  refine lv_aload_n hx hb dX9_init_70 rfl (lv_at hl 0 rfl) ?_
  refine lv_bipush (v := nI 6) hx hb dX9_init_71 (by decide +kernel) ?_
  refine va_newa (atype := .int) (ty := .int) (N' := 6) (a0 := (6, .inl (fun _ => 0))) hx hb (hts _ (hmc _ k_61)) rfl E.1.1 hP hD hS E.2.2 (fun _ => rfl) (nI_pos (by decide)) (nI_clamp (by decide)) (by decide) (Nat.le_of_ble_eq_true rfl) (Nat.le_of_ble_eq_true rfl) dX9_init_73 (fun q9 cA H hK1 hP hD hS => ?_)
  obtain rfl : cA = K 0 := hRA (hK1.2 (hTy K).length _ rfl).2 (E.1.1.2 0 _ rfl).2
  have hP : va_P D vwCl [(h, .inr (iM, [.ref q1, .int 0, .ref q2, .int 0, .ref q3, .int 0, .ref q4, .ref q5, .ref q6, .long 0, .ref q7, .ref q8, .null, .null, .int 0, .int 0, .null, .null])), (q1, .inl (K 0, 1920, .inl (fun _ => 0))), (q2, .inl (K 0, 18, .inl (fun _ => 0))), (q3, .inl (K 0, 6, .inl (fun _ => 0))), (q4, .inl (K 0, 1536, .inl (fun _ => 0))), (q5, .inl (K 0, 6, .inl (fun _ => 0))), (q6, .inl (K 0, 6, .inl (fun _ => 0))), (q7, .inl (K 0, 9, .inl (fun _ => 0))), (q8, .inl (K 0, 9, .inl (fun _ => 0))), (q9, .inl (K 0, 6, .inl (fun _ => 0)))] H := hP
  have hD : va_D A [(h, .inr (iM, [.ref q1, .int 0, .ref q2, .int 0, .ref q3, .int 0, .ref q4, .ref q5, .ref q6, .long 0, .ref q7, .ref q8, .null, .null, .int 0, .int 0, .null, .null])), (q1, .inl (K 0, 1920, .inl (fun _ => 0))), (q2, .inl (K 0, 18, .inl (fun _ => 0))), (q3, .inl (K 0, 6, .inl (fun _ => 0))), (q4, .inl (K 0, 1536, .inl (fun _ => 0))), (q5, .inl (K 0, 6, .inl (fun _ => 0))), (q6, .inl (K 0, 6, .inl (fun _ => 0))), (q7, .inl (K 0, 9, .inl (fun _ => 0))), (q8, .inl (K 0, 9, .inl (fun _ => 0))), (q9, .inl (K 0, 6, .inl (fun _ => 0)))] := hD
  refine va_putF (v := .ref q9) (ty := .array .int) (C := RX9) (T := TX9) (N := 18) hx hb hts (hin_X9 hmc) tyX9 tyX9_ok nmX9 hown E.1.1 hP hD hS 0 rfl rfl 12 (by decide) (hts _ (hmc _ k_581)) (fun _ h9 => h9) rfl hin rfl (by decide +kernel) rfl rfl (Nat.le_of_ble_eq_true rfl) dX9_init_75 (fun H locs hP hD hS => ?_)
  have hP : va_P D vwCl [(h, .inr (iM, [.ref q1, .int 0, .ref q2, .int 0, .ref q3, .int 0, .ref q4, .ref q5, .ref q6, .long 0, .ref q7, .ref q8, .ref q9, .null, .int 0, .int 0, .null, .null])), (q1, .inl (K 0, 1920, .inl (fun _ => 0))), (q2, .inl (K 0, 18, .inl (fun _ => 0))), (q3, .inl (K 0, 6, .inl (fun _ => 0))), (q4, .inl (K 0, 1536, .inl (fun _ => 0))), (q5, .inl (K 0, 6, .inl (fun _ => 0))), (q6, .inl (K 0, 6, .inl (fun _ => 0))), (q7, .inl (K 0, 9, .inl (fun _ => 0))), (q8, .inl (K 0, 9, .inl (fun _ => 0))), (q9, .inl (K 0, 6, .inl (fun _ => 0)))] H := hP
  have hD : va_D A [(h, .inr (iM, [.ref q1, .int 0, .ref q2, .int 0, .ref q3, .int 0, .ref q4, .ref q5, .ref q6, .long 0, .ref q7, .ref q8, .ref q9, .null, .int 0, .int 0, .null, .null])), (q1, .inl (K 0, 1920, .inl (fun _ => 0))), (q2, .inl (K 0, 18, .inl (fun _ => 0))), (q3, .inl (K 0, 6, .inl (fun _ => 0))), (q4, .inl (K 0, 1536, .inl (fun _ => 0))), (q5, .inl (K 0, 6, .inl (fun _ => 0))), (q6, .inl (K 0, 6, .inl (fun _ => 0))), (q7, .inl (K 0, 9, .inl (fun _ => 0))), (q8, .inl (K 0, 9, .inl (fun _ => 0))), (q9, .inl (K 0, 6, .inl (fun _ => 0)))] := hD
  refine lv_aload_n hx hb dX9_init_78 rfl (lv_at hl 0 rfl) ?_
  refine lv_ldc (v := 160000) hx hb hown (hts _ (hmc _ k_568)) dX9_init_79 ?_
  refine htopi (v := nI 160000) (by decide +kernel) ?_
  refine va_newa (atype := .int) (ty := .int) (N' := 160000) (a0 := (160000, .inl (fun _ => 0))) hx hb (hts _ (hmc _ k_61)) rfl E.1.1 hP hD hS E.2.2 (fun _ => rfl) (nI_pos (by decide)) (nI_clamp (by decide)) (by decide) (Nat.le_of_ble_eq_true rfl) (Nat.le_of_ble_eq_true rfl) dX9_init_81 (fun q10 cA H hK1 hP hD hS => ?_)
  obtain rfl : cA = K 0 := hRA (hK1.2 (hTy K).length _ rfl).2 (E.1.1.2 0 _ rfl).2
  have hP : va_P D vwCl [(h, .inr (iM, [.ref q1, .int 0, .ref q2, .int 0, .ref q3, .int 0, .ref q4, .ref q5, .ref q6, .long 0, .ref q7, .ref q8, .ref q9, .null, .int 0, .int 0, .null, .null])), (q1, .inl (K 0, 1920, .inl (fun _ => 0))), (q2, .inl (K 0, 18, .inl (fun _ => 0))), (q3, .inl (K 0, 6, .inl (fun _ => 0))), (q4, .inl (K 0, 1536, .inl (fun _ => 0))), (q5, .inl (K 0, 6, .inl (fun _ => 0))), (q6, .inl (K 0, 6, .inl (fun _ => 0))), (q7, .inl (K 0, 9, .inl (fun _ => 0))), (q8, .inl (K 0, 9, .inl (fun _ => 0))), (q9, .inl (K 0, 6, .inl (fun _ => 0))), (q10, .inl (K 0, 160000, .inl (fun _ => 0)))] H := hP
  have hD : va_D A [(h, .inr (iM, [.ref q1, .int 0, .ref q2, .int 0, .ref q3, .int 0, .ref q4, .ref q5, .ref q6, .long 0, .ref q7, .ref q8, .ref q9, .null, .int 0, .int 0, .null, .null])), (q1, .inl (K 0, 1920, .inl (fun _ => 0))), (q2, .inl (K 0, 18, .inl (fun _ => 0))), (q3, .inl (K 0, 6, .inl (fun _ => 0))), (q4, .inl (K 0, 1536, .inl (fun _ => 0))), (q5, .inl (K 0, 6, .inl (fun _ => 0))), (q6, .inl (K 0, 6, .inl (fun _ => 0))), (q7, .inl (K 0, 9, .inl (fun _ => 0))), (q8, .inl (K 0, 9, .inl (fun _ => 0))), (q9, .inl (K 0, 6, .inl (fun _ => 0))), (q10, .inl (K 0, 160000, .inl (fun _ => 0)))] := hD
  refine va_putF (v := .ref q10) (ty := .array .int) (C := RX9) (T := TX9) (N := 18) hx hb hts (hin_X9 hmc) tyX9 tyX9_ok nmX9 hown E.1.1 hP hD hS 0 rfl rfl 13 (by decide) (hts _ (hmc _ k_582)) (fun _ h9 => h9) rfl hin rfl (by decide +kernel) rfl rfl (Nat.le_of_ble_eq_true rfl) dX9_init_83 (fun H locs hP hD hS => ?_)
  have hP : va_P D vwCl [(h, .inr (iM, [.ref q1, .int 0, .ref q2, .int 0, .ref q3, .int 0, .ref q4, .ref q5, .ref q6, .long 0, .ref q7, .ref q8, .ref q9, .ref q10, .int 0, .int 0, .null, .null])), (q1, .inl (K 0, 1920, .inl (fun _ => 0))), (q2, .inl (K 0, 18, .inl (fun _ => 0))), (q3, .inl (K 0, 6, .inl (fun _ => 0))), (q4, .inl (K 0, 1536, .inl (fun _ => 0))), (q5, .inl (K 0, 6, .inl (fun _ => 0))), (q6, .inl (K 0, 6, .inl (fun _ => 0))), (q7, .inl (K 0, 9, .inl (fun _ => 0))), (q8, .inl (K 0, 9, .inl (fun _ => 0))), (q9, .inl (K 0, 6, .inl (fun _ => 0))), (q10, .inl (K 0, 160000, .inl (fun _ => 0)))] H := hP
  have hD : va_D A [(h, .inr (iM, [.ref q1, .int 0, .ref q2, .int 0, .ref q3, .int 0, .ref q4, .ref q5, .ref q6, .long 0, .ref q7, .ref q8, .ref q9, .ref q10, .int 0, .int 0, .null, .null])), (q1, .inl (K 0, 1920, .inl (fun _ => 0))), (q2, .inl (K 0, 18, .inl (fun _ => 0))), (q3, .inl (K 0, 6, .inl (fun _ => 0))), (q4, .inl (K 0, 1536, .inl (fun _ => 0))), (q5, .inl (K 0, 6, .inl (fun _ => 0))), (q6, .inl (K 0, 6, .inl (fun _ => 0))), (q7, .inl (K 0, 9, .inl (fun _ => 0))), (q8, .inl (K 0, 9, .inl (fun _ => 0))), (q9, .inl (K 0, 6, .inl (fun _ => 0))), (q10, .inl (K 0, 160000, .inl (fun _ => 0)))] := hD
  refine lv_aload_n hx hb dX9_init_86 rfl (lv_at hl 0 rfl) ?_
  refine lv_bipush (v := (-2)) hx hb dX9_init_87 (by decide +kernel) ?_
  refine va_put (v := .int (-2)) (ty := .int) (C := RX9) (T := TX9) (N := 18) hx hb hts (hin_X9 hmc) tyX9 tyX9_ok nmX9 hown E.1.1 hP hD hS 0 rfl rfl 15 (by decide) (hts _ (hmc _ k_584)) (fun _ h9 => h9) rfl (by decide +kernel) rfl rfl (Nat.le_of_ble_eq_true rfl) dX9_init_89 (fun H locs hP hD hS => ?_)
  have hP : va_P D vwCl [(h, .inr (iM, [.ref q1, .int 0, .ref q2, .int 0, .ref q3, .int 0, .ref q4, .ref q5, .ref q6, .long 0, .ref q7, .ref q8, .ref q9, .ref q10, .int 0, .int (-2), .null, .null])), (q1, .inl (K 0, 1920, .inl (fun _ => 0))), (q2, .inl (K 0, 18, .inl (fun _ => 0))), (q3, .inl (K 0, 6, .inl (fun _ => 0))), (q4, .inl (K 0, 1536, .inl (fun _ => 0))), (q5, .inl (K 0, 6, .inl (fun _ => 0))), (q6, .inl (K 0, 6, .inl (fun _ => 0))), (q7, .inl (K 0, 9, .inl (fun _ => 0))), (q8, .inl (K 0, 9, .inl (fun _ => 0))), (q9, .inl (K 0, 6, .inl (fun _ => 0))), (q10, .inl (K 0, 160000, .inl (fun _ => 0)))] H := hP
  have hD : va_D A [(h, .inr (iM, [.ref q1, .int 0, .ref q2, .int 0, .ref q3, .int 0, .ref q4, .ref q5, .ref q6, .long 0, .ref q7, .ref q8, .ref q9, .ref q10, .int 0, .int (-2), .null, .null])), (q1, .inl (K 0, 1920, .inl (fun _ => 0))), (q2, .inl (K 0, 18, .inl (fun _ => 0))), (q3, .inl (K 0, 6, .inl (fun _ => 0))), (q4, .inl (K 0, 1536, .inl (fun _ => 0))), (q5, .inl (K 0, 6, .inl (fun _ => 0))), (q6, .inl (K 0, 6, .inl (fun _ => 0))), (q7, .inl (K 0, 9, .inl (fun _ => 0))), (q8, .inl (K 0, 9, .inl (fun _ => 0))), (q9, .inl (K 0, 6, .inl (fun _ => 0))), (q10, .inl (K 0, 160000, .inl (fun _ => 0)))] := hD
  refine lv_aload_n hx hb dX9_init_92 rfl (lv_at hl 0 rfl) ?_
  refine lv_sipush (v := nI 20000) hx hb dX9_init_93 (by decide +kernel) ?_
  refine va_newa (atype := .int) (ty := .int) (N' := 20000) (a0 := (20000, .inl (fun _ => 0))) hx hb (hts _ (hmc _ k_61)) rfl E.1.1 hP hD hS E.2.2 (fun _ => rfl) (nI_pos (by decide)) (nI_clamp (by decide)) (by decide) (Nat.le_of_ble_eq_true rfl) (Nat.le_of_ble_eq_true rfl) dX9_init_96 (fun q11 cA H hK1 hP hD hS => ?_)
  obtain rfl : cA = K 0 := hRA (hK1.2 (hTy K).length _ rfl).2 (E.1.1.2 0 _ rfl).2
  have hP : va_P D vwCl [(h, .inr (iM, [.ref q1, .int 0, .ref q2, .int 0, .ref q3, .int 0, .ref q4, .ref q5, .ref q6, .long 0, .ref q7, .ref q8, .ref q9, .ref q10, .int 0, .int (-2), .null, .null])), (q1, .inl (K 0, 1920, .inl (fun _ => 0))), (q2, .inl (K 0, 18, .inl (fun _ => 0))), (q3, .inl (K 0, 6, .inl (fun _ => 0))), (q4, .inl (K 0, 1536, .inl (fun _ => 0))), (q5, .inl (K 0, 6, .inl (fun _ => 0))), (q6, .inl (K 0, 6, .inl (fun _ => 0))), (q7, .inl (K 0, 9, .inl (fun _ => 0))), (q8, .inl (K 0, 9, .inl (fun _ => 0))), (q9, .inl (K 0, 6, .inl (fun _ => 0))), (q10, .inl (K 0, 160000, .inl (fun _ => 0))), (q11, .inl (K 0, 20000, .inl (fun _ => 0)))] H := hP
  have hD : va_D A [(h, .inr (iM, [.ref q1, .int 0, .ref q2, .int 0, .ref q3, .int 0, .ref q4, .ref q5, .ref q6, .long 0, .ref q7, .ref q8, .ref q9, .ref q10, .int 0, .int (-2), .null, .null])), (q1, .inl (K 0, 1920, .inl (fun _ => 0))), (q2, .inl (K 0, 18, .inl (fun _ => 0))), (q3, .inl (K 0, 6, .inl (fun _ => 0))), (q4, .inl (K 0, 1536, .inl (fun _ => 0))), (q5, .inl (K 0, 6, .inl (fun _ => 0))), (q6, .inl (K 0, 6, .inl (fun _ => 0))), (q7, .inl (K 0, 9, .inl (fun _ => 0))), (q8, .inl (K 0, 9, .inl (fun _ => 0))), (q9, .inl (K 0, 6, .inl (fun _ => 0))), (q10, .inl (K 0, 160000, .inl (fun _ => 0))), (q11, .inl (K 0, 20000, .inl (fun _ => 0)))] := hD
  refine va_putF (v := .ref q11) (ty := .array .int) (C := RX9) (T := TX9) (N := 18) hx hb hts (hin_X9 hmc) tyX9 tyX9_ok nmX9 hown E.1.1 hP hD hS 0 rfl rfl 16 (by decide) (hts _ (hmc _ k_585)) (fun _ h9 => h9) rfl hin rfl (by decide +kernel) rfl rfl (Nat.le_of_ble_eq_true rfl) dX9_init_98 (fun H locs hP hD hS => ?_)
  have hP : va_P D vwCl [(h, .inr (iM, [.ref q1, .int 0, .ref q2, .int 0, .ref q3, .int 0, .ref q4, .ref q5, .ref q6, .long 0, .ref q7, .ref q8, .ref q9, .ref q10, .int 0, .int (-2), .ref q11, .null])), (q1, .inl (K 0, 1920, .inl (fun _ => 0))), (q2, .inl (K 0, 18, .inl (fun _ => 0))), (q3, .inl (K 0, 6, .inl (fun _ => 0))), (q4, .inl (K 0, 1536, .inl (fun _ => 0))), (q5, .inl (K 0, 6, .inl (fun _ => 0))), (q6, .inl (K 0, 6, .inl (fun _ => 0))), (q7, .inl (K 0, 9, .inl (fun _ => 0))), (q8, .inl (K 0, 9, .inl (fun _ => 0))), (q9, .inl (K 0, 6, .inl (fun _ => 0))), (q10, .inl (K 0, 160000, .inl (fun _ => 0))), (q11, .inl (K 0, 20000, .inl (fun _ => 0)))] H := hP
  have hD : va_D A [(h, .inr (iM, [.ref q1, .int 0, .ref q2, .int 0, .ref q3, .int 0, .ref q4, .ref q5, .ref q6, .long 0, .ref q7, .ref q8, .ref q9, .ref q10, .int 0, .int (-2), .ref q11, .null])), (q1, .inl (K 0, 1920, .inl (fun _ => 0))), (q2, .inl (K 0, 18, .inl (fun _ => 0))), (q3, .inl (K 0, 6, .inl (fun _ => 0))), (q4, .inl (K 0, 1536, .inl (fun _ => 0))), (q5, .inl (K 0, 6, .inl (fun _ => 0))), (q6, .inl (K 0, 6, .inl (fun _ => 0))), (q7, .inl (K 0, 9, .inl (fun _ => 0))), (q8, .inl (K 0, 9, .inl (fun _ => 0))), (q9, .inl (K 0, 6, .inl (fun _ => 0))), (q10, .inl (K 0, 160000, .inl (fun _ => 0))), (q11, .inl (K 0, 20000, .inl (fun _ => 0)))] := hD
  refine lv_aload_n hx hb dX9_init_101 rfl (lv_at hl 0 rfl) ?_
  refine lv_sipush (v := nI 20000) hx hb dX9_init_102 (by decide +kernel) ?_
  refine va_newa (atype := .int) (ty := .int) (N' := 20000) (a0 := (20000, .inl (fun _ => 0))) hx hb (hts _ (hmc _ k_61)) rfl E.1.1 hP hD hS E.2.2 (fun _ => rfl) (nI_pos (by decide)) (nI_clamp (by decide)) (by decide) (Nat.le_of_ble_eq_true rfl) (Nat.le_of_ble_eq_true rfl) dX9_init_105 (fun q12 cA H hK1 hP hD hS => ?_)
  obtain rfl : cA = K 0 := hRA (hK1.2 (hTy K).length _ rfl).2 (E.1.1.2 0 _ rfl).2
  have hP : va_P D vwCl [(h, .inr (iM, [.ref q1, .int 0, .ref q2, .int 0, .ref q3, .int 0, .ref q4, .ref q5, .ref q6, .long 0, .ref q7, .ref q8, .ref q9, .ref q10, .int 0, .int (-2), .ref q11, .null])), (q1, .inl (K 0, 1920, .inl (fun _ => 0))), (q2, .inl (K 0, 18, .inl (fun _ => 0))), (q3, .inl (K 0, 6, .inl (fun _ => 0))), (q4, .inl (K 0, 1536, .inl (fun _ => 0))), (q5, .inl (K 0, 6, .inl (fun _ => 0))), (q6, .inl (K 0, 6, .inl (fun _ => 0))), (q7, .inl (K 0, 9, .inl (fun _ => 0))), (q8, .inl (K 0, 9, .inl (fun _ => 0))), (q9, .inl (K 0, 6, .inl (fun _ => 0))), (q10, .inl (K 0, 160000, .inl (fun _ => 0))), (q11, .inl (K 0, 20000, .inl (fun _ => 0))), (q12, .inl (K 0, 20000, .inl (fun _ => 0)))] H := hP
  have hD : va_D A [(h, .inr (iM, [.ref q1, .int 0, .ref q2, .int 0, .ref q3, .int 0, .ref q4, .ref q5, .ref q6, .long 0, .ref q7, .ref q8, .ref q9, .ref q10, .int 0, .int (-2), .ref q11, .null])), (q1, .inl (K 0, 1920, .inl (fun _ => 0))), (q2, .inl (K 0, 18, .inl (fun _ => 0))), (q3, .inl (K 0, 6, .inl (fun _ => 0))), (q4, .inl (K 0, 1536, .inl (fun _ => 0))), (q5, .inl (K 0, 6, .inl (fun _ => 0))), (q6, .inl (K 0, 6, .inl (fun _ => 0))), (q7, .inl (K 0, 9, .inl (fun _ => 0))), (q8, .inl (K 0, 9, .inl (fun _ => 0))), (q9, .inl (K 0, 6, .inl (fun _ => 0))), (q10, .inl (K 0, 160000, .inl (fun _ => 0))), (q11, .inl (K 0, 20000, .inl (fun _ => 0))), (q12, .inl (K 0, 20000, .inl (fun _ => 0)))] := hD
  refine va_putF (v := .ref q12) (ty := .array .int) (C := RX9) (T := TX9) (N := 18) hx hb hts (hin_X9 hmc) tyX9 tyX9_ok nmX9 hown E.1.1 hP hD hS 0 rfl rfl 17 (by decide) (hts _ (hmc _ k_586)) (fun _ h9 => h9) rfl hin rfl (by decide +kernel) rfl rfl (Nat.le_of_ble_eq_true rfl) dX9_init_107 (fun H locs hP hD hS => ?_)
  have hP : va_P D vwCl [(h, .inr (iM, [.ref q1, .int 0, .ref q2, .int 0, .ref q3, .int 0, .ref q4, .ref q5, .ref q6, .long 0, .ref q7, .ref q8, .ref q9, .ref q10, .int 0, .int (-2), .ref q11, .ref q12])), (q1, .inl (K 0, 1920, .inl (fun _ => 0))), (q2, .inl (K 0, 18, .inl (fun _ => 0))), (q3, .inl (K 0, 6, .inl (fun _ => 0))), (q4, .inl (K 0, 1536, .inl (fun _ => 0))), (q5, .inl (K 0, 6, .inl (fun _ => 0))), (q6, .inl (K 0, 6, .inl (fun _ => 0))), (q7, .inl (K 0, 9, .inl (fun _ => 0))), (q8, .inl (K 0, 9, .inl (fun _ => 0))), (q9, .inl (K 0, 6, .inl (fun _ => 0))), (q10, .inl (K 0, 160000, .inl (fun _ => 0))), (q11, .inl (K 0, 20000, .inl (fun _ => 0))), (q12, .inl (K 0, 20000, .inl (fun _ => 0)))] H := hP
  have hD : va_D A [(h, .inr (iM, [.ref q1, .int 0, .ref q2, .int 0, .ref q3, .int 0, .ref q4, .ref q5, .ref q6, .long 0, .ref q7, .ref q8, .ref q9, .ref q10, .int 0, .int (-2), .ref q11, .ref q12])), (q1, .inl (K 0, 1920, .inl (fun _ => 0))), (q2, .inl (K 0, 18, .inl (fun _ => 0))), (q3, .inl (K 0, 6, .inl (fun _ => 0))), (q4, .inl (K 0, 1536, .inl (fun _ => 0))), (q5, .inl (K 0, 6, .inl (fun _ => 0))), (q6, .inl (K 0, 6, .inl (fun _ => 0))), (q7, .inl (K 0, 9, .inl (fun _ => 0))), (q8, .inl (K 0, 9, .inl (fun _ => 0))), (q9, .inl (K 0, 6, .inl (fun _ => 0))), (q10, .inl (K 0, 160000, .inl (fun _ => 0))), (q11, .inl (K 0, 20000, .inl (fun _ => 0))), (q12, .inl (K 0, 20000, .inl (fun _ => 0)))] := hD
  subst hAe
  exact W.vret hx hb hr (fun t ht _ => ⟨⟨_, rfl, ⟨fun k => [h, q1, q2, q3, q4, q5, q6, q7, q8, q9, q10, q11, q12].getD k 0, rfl, rfl, fun k h1 h2 => by rcases (show k = 1 ∨ k = 2 ∨ k = 3 ∨ k = 4 ∨ k = 5 ∨ k = 6 ∨ k = 7 ∨ k = 8 ∨ k = 9 ∨ k = 10 ∨ k = 11 ∨ k = 12 by omega) with rfl | rfl | rfl | rfl | rfl | rfl | rfl | rfl | rfl | rfl | rfl | rfl <;> rfl⟩, by rw [ht]; exact hP, hD⟩, hS.F ht⟩) hS.2.2 dX9_init_110
