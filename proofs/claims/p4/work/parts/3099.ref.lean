set_option maxHeartbeats 4000000 in
set_option maxRecDepth 100000 in
/-- the reference: solutions -/
theorem c_X9_solutions (l : Launch) (D : va_G) (K : Nat → ClassId) (tv : Nat) (ws : va_W) (ad : Nat → Nat) (S : Nat → Nat → Nat → Prop) (cnt np : Nat) (o : List Nat) (hms : hMS K ad ws S cnt np o) : hI l D (hTy K) tv yX9_solutions cX9_solutions 2 (some .int) ({ frames := 6, cells := 0, slots := 0, locals := 360 }) [.ref (ad 0)] ws (fun _ ws1 => hMS K ad ws1 S cnt np o) := by
  intro sz
  refine Met.ofW (cc := cX9_solutions) (maxL := 2) (ret := (some .int)) (by decide) rfl ?_
  intro p e s m args below meth c s₁ B hml hv0
  obtain ⟨rfl, rfl, E, hP, hD⟩ := hentry hv0
  have hx := B.exec
  have hb := B.bytes
  have hr := B.returns
  have hts := atoms_spec (ws := hC yX9_solutions cX9_solutions 2 (some .int)) B.pre
  have hown : s.vm.findClass RX9 = some m.cls := findClass_of_methodNamed B.named
  have hlocks := B.notSynchronized
  generalize hAe : va_A ws s.heap.size = A at hD E ⊢
  have hl := lv_entry ([.ref (ad 0)]) (n := 2) (Nat.le_of_ble_eq_true rfl)
  rw [lg_entry_eq]
  generalize (lg_sl ([.ref (ad 0)]) ++ List.replicate (2 - (lg_sl ([.ref (ad 0)])).length) Slot.unset).toArray = ls at hl ⊢
  have hl : lv_has ls 2 [(0, .ref (ad 0))] := hl
  refine hat0 (fun H hHe => ?_)
  have hP : va_P D vwCl ws H := by rw [hHe]; exact hP
  have hS : va_S A s.heap H [] := by rw [hHe]; exact va_S.rf
  obtain ⟨f, lz, kp, fd, hrx, hrb⟩ := id hms
  obtain ⟨hct, hnp, hnd, hon, hT, hIt, hO, hF⟩ := id hrb
  have g0 := hrx.1
  obtain ⟨I, hIt2⟩ := id hIt
  refine lv_aload_n hx hb dX9_solutions_0 rfl (lv_at hl 0 rfl) ?_
  refine hc_v E hD hS (va_runV (As := []) (rest := []) ⟨hx, hb, hml, hown, hts⟩ ((c_X9_choose l D K tv ws ad f cnt np o.length lz kp fd hrx hnp hct I hIt2) H.size) (cwV 0 hts (hGV hmc k_677 k_679 k_8 k_29 k_680) rfl rfl rfl (by decide +kernel) ⟨Nat.le_of_ble_eq_true rfl, Nat.le_of_ble_eq_true rfl⟩) (hpreV E hP hD hS g0 rfl) rfl rfl hl.1 rfl (lv_room (Nat.le_of_ble_eq_true rfl)) dX9_solutions_1 ⟨(Nat.le_refl _), (Nat.le_refl _)⟩) (fun ws1 H locs hp hP hD hS => ?_)
  obtain ⟨g, lz1, hrx, hfr, hval⟩ := hp
  have hrb1 := hrb.frm (hfr 1 (by decide) (by decide) (by decide)) (hfr 2 (by decide) (by decide) (by decide)) (hfr 3 (by decide) (by decide) (by decide)) (hfr 11 (by decide) (by decide) (by decide)) (hfr 12 (by decide) (by decide) (by decide))
  have g0 := hrx.1
  refine lv_aload_n hx hb dX9_solutions_4 rfl (lv_at hl 0 rfl) ?_
  refine lv_bipush (v := (-2)) hx hb dX9_solutions_5 (by decide +kernel) ?_
  refine va_put (v := .int (-2)) (ty := .int) (C := RX9) (T := TX9) (N := 18) hx hb hts (hin_X9 hmc) tyX9 tyX9_ok nmX9 hown E.1.1 hP hD hS 0 g0 rfl 15 (by decide) (hts _ (hmc _ k_584)) (fun _ h9 => h9) rfl (by decide +kernel) rfl rfl (Nat.le_of_ble_eq_true rfl) dX9_solutions_7 (fun H locs hP hD hS => ?_)
  obtain ⟨ws2, ews2⟩ : ∃ zw : va_W, zw = List.set ws1 0 ((ad 0), .inr (iM, [.ref (ad 1), .int (nI cnt), .ref (ad 2), .int (nI np), .ref (ad 3), .int (nI o.length), .ref (ad 4), .ref (ad 5), .ref (ad 6), .long lz1, .ref (ad 7), .ref (ad 8), .ref (ad 9), .ref (ad 10), .int (nI kp), .int (-2), .ref (ad 11), .ref (ad 12)])) := ⟨_, rfl⟩
  have hP : va_P D vwCl ws2 H := by rw [ews2]; exact hP
  have hD : va_D A ws2 := by rw [ews2]; exact hD
  have g0 : ws2[0]? = some ((ad 0), .inr (iM, [.ref (ad 1), .int (nI cnt), .ref (ad 2), .int (nI np), .ref (ad 3), .int (nI o.length), .ref (ad 4), .ref (ad 5), .ref (ad 6), .long lz1, .ref (ad 7), .ref (ad 8), .ref (ad 9), .ref (ad 10), .int (nI kp), .int (-2), .ref (ad 11), .ref (ad 12)])) := by rw [ews2]; exact hset_eq g0
  have hrx : hRX K ad ws2 g cnt np o.length lz1 kp (-2) := by rw [ews2]; exact hrx.obj
  refine lv_aload_n hx hb dX9_solutions_10 rfl (lv_at hl 0 rfl) ?_
  refine lv_aload_n hx hb dX9_solutions_11 rfl (lv_at hl 0 rfl) ?_
  refine va_get (v := .ref (ad 6)) (C := RX9) (T := TX9) (N := 18) hx hb hts (hin_X9 hmc) hown E.1.1 hP 0 g0 rfl 8 (by decide) (hts _ (hmc _ k_577)) (fun _ h9 => h9) rfl dX9_solutions_12 ?_
  refine lv_aload_n hx hb dX9_solutions_15 rfl (lv_at hl 0 rfl) ?_
  refine va_get (v := .int (nI np)) (C := RX9) (T := TX9) (N := 18) hx hb hts (hin_X9 hmc) hown E.1.1 hP 0 g0 rfl 3 (by decide) (hts _ (hmc _ k_572)) (fun _ h9 => h9) rfl dX9_solutions_16 ?_
  refine lv_iconst (v := nI 1) hx hb dX9_solutions_19 (by decide +kernel) ?_
  refine hc_i E hD hS (va_runV (As := [.ref (ad 6), .int (nI np), .int (nI 1)]) (rest := []) ⟨hx, hb, hml, hown, hts⟩ ((c6_join l D K tv ws2 ad g cnt np o.length lz1 kp (-2) hrx hnp hct I (fun p hp i hi => by rw [hfr 2 (by decide) (by decide) (by decide)]; exact hIt2 p hp i hi) np hnp (fun k hk => hval k hk)) H.size) (cwV 3 hts (hGV hmc k_727 k_729 k_14 k_29 k_730) rfl rfl rfl (by decide +kernel) ⟨Nat.le_of_ble_eq_true rfl, Nat.le_of_ble_eq_true rfl⟩) (hpreV E hP hD hS g0 rfl) rfl rfl hl.1 rfl (lv_room (Nat.le_of_ble_eq_true rfl)) dX9_solutions_20 ⟨(Nat.le_refl _), (Nat.le_refl _)⟩) (fun r4 ws3 H locs hp hP hD hS => ?_)
  obtain ⟨g2, kp1, hrx, hfr2, hkp1⟩ := hp
  obtain ⟨q1, q2, q3, q4, q5, q6, q7, q8⟩ := id hrb1
  have hrb2 : hRB g2 S cnt np o (-2) := hrb1.frm2 (hfr2 1 (by decide) (by decide) (by decide) (by decide)) (hfr2 2 (by decide) (by decide) (by decide) (by decide)) (hfr2 3 (by decide) (by decide) (by decide) (by decide)) ⟨Or.inl rfl, by rw [hfr2 11 (by decide) (by decide) (by decide) (by decide)]; exact q8.2.1, by rw [hfr2 12 (by decide) (by decide) (by decide) (by decide)]; exact q8.2.2⟩
  have g0 := hrx.1
  refine lv_if_ge (tgt := 29) hx hb dX9_solutions_23 (by decide) (fun c1 => ?_) (fun c1 => ?_)
  · refine lv_iconst (v := nI 0) hx hb dX9_solutions_29 (by decide +kernel) ?_
    refine lv_istore_n (lv' := [(1, .int (nI 0)), (0, .ref (ad 0))]) hx hb dX9_solutions_30 rfl hl (by decide) rfl (fun ls hl => ?_)
    refine hloopW (α := Nat) 31 2 (fun k => [(1, .int (nI k)), (0, .ref (ad 0))]) (fun k w9 => k ≤ kp1 ∧ ∃ f11, hRX K ad w9 (hup g2 11 f11) cnt np o.length lz1 kp1 (-2) ∧ hIx f11) (fun k => kp1 - k) (fun _ => 0) (fun _ => 0) ?_ 0 ⟨Nat.zero_le _, g2 11, by rw [hup_id]; exact hrx, hrb2.2.2.2.2.2.2.2.2.1⟩ hP hD hS (lv_sub hl [0, 1] rfl)
    intro k w9 H locs ls hI9 hP hD hS hl ih
    obtain ⟨hk, f11, hrx, hx11⟩ := hI9
    have hl : lv_has ls 2 [(1, .int (nI k)), (0, .ref (ad 0))] := hl
    have g0 := hrx.1
    have g11 : w9[11]? = some (ad 11, .inl (K 0, 20000, .inl f11)) := hrx.2 11 (by decide) (by decide)
    refine lv_iload_n hx hb dX9_solutions_31 rfl (lv_at hl 0 rfl) ?_
    refine lv_aload_n hx hb dX9_solutions_32 rfl (lv_at hl 1 rfl) ?_
    refine va_get (v := .int (nI kp1)) (C := RX9) (T := TX9) (N := 18) hx hb hts (hin_X9 hmc) hown E.1.1 hP 0 g0 rfl 14 (by decide) (hts _ (hmc _ k_583)) (fun _ h9 => h9) rfl dX9_solutions_33 ?_
    refine lv_icmp_ge (tgt := 52) hx hb dX9_solutions_36 (by decide) (fun c2 => ?_) (fun c2 => ?_)
    · clear ih
      have hx12 : hIx (g2 12) := hrb2.2.2.2.2.2.2.2.2.2
      refine lv_bipush (v := nI 7) hx hb dX9_solutions_52 (by decide +kernel) ?_
      refine htopi (v := (hkv 8)) (by decide +kernel) ?_
      refine lv_istore_n (lv' := [(1, .int (hkv 8)), (0, .ref (ad 0))]) hx hb dX9_solutions_54 rfl hl (by decide) rfl (fun ls hl => ?_)
      refine hloopW (α := Nat) 55 2 (fun a => [(1, .int (hkv a)), (0, .ref (ad 0))]) (fun a w9 => a ≤ 8 ∧ ∃ g3, hRX K ad w9 g3 cnt np o.length lz1 kp1 (-2) ∧ g3 1 = g2 1 ∧ g3 2 = g2 2 ∧ g3 3 = g2 3 ∧ hIx (g3 11) ∧ hIx (g3 12)) (fun a => a) (fun _ => 0) (fun _ => 0) ?_ 8 ⟨Nat.le_refl _, _, hrx, rfl, rfl, rfl, hx11, hx12⟩ hP hD hS (lv_sub hl [0, 1] rfl)
      intro a w9 H locs ls hI9 hP hD hS hl ih
      obtain ⟨ha, g3, hrx, hg1, hg2, hg3, hx11, hx12⟩ := hI9
      have hl : lv_has ls 2 [(1, .int (hkv a)), (0, .ref (ad 0))] := hl
      by_cases ha0 : a = 0
      · rw [show hkv a = (-1) from if_pos ha0] at hl
        have g0 := hrx.1
        refine lv_iload_n hx hb dX9_solutions_55 rfl (lv_at hl 0 rfl) ?_
        refine lv_if_lt (tgt := 70) hx hb dX9_solutions_56 (by decide) (fun c3 => ?_) (fun c3 => ?_)
        · refine lv_aload_n hx hb dX9_solutions_70 rfl (lv_at hl 1 rfl) ?_
          refine lv_aload_n hx hb dX9_solutions_71 rfl (lv_at hl 1 rfl) ?_
          refine va_get (v := .int (nI kp1)) (C := RX9) (T := TX9) (N := 18) hx hb hts (hin_X9 hmc) hown E.1.1 hP 0 g0 rfl 14 (by decide) (hts _ (hmc _ k_583)) (fun _ h9 => h9) rfl dX9_solutions_72 ?_
          refine va_put (v := .int (nI kp1)) (ty := .int) (C := RX9) (T := TX9) (N := 18) hx hb hts (hin_X9 hmc) tyX9 tyX9_ok nmX9 hown E.1.1 hP hD hS 0 g0 rfl 15 (by decide) (hts _ (hmc _ k_584)) (fun _ h9 => h9) rfl (by decide +kernel) rfl rfl (Nat.le_of_ble_eq_true rfl) dX9_solutions_75 (fun H locs hP hD hS => ?_)
          obtain ⟨ws5, ews5⟩ : ∃ zw : va_W, zw = List.set w9 0 ((ad 0), .inr (iM, [.ref (ad 1), .int (nI cnt), .ref (ad 2), .int (nI np), .ref (ad 3), .int (nI o.length), .ref (ad 4), .ref (ad 5), .ref (ad 6), .long lz1, .ref (ad 7), .ref (ad 8), .ref (ad 9), .ref (ad 10), .int (nI kp1), .int (nI kp1), .ref (ad 11), .ref (ad 12)])) := ⟨_, rfl⟩
          have hP : va_P D vwCl ws5 H := by rw [ews5]; exact hP
          have hD : va_D A ws5 := by rw [ews5]; exact hD
          have g0 : ws5[0]? = some ((ad 0), .inr (iM, [.ref (ad 1), .int (nI cnt), .ref (ad 2), .int (nI np), .ref (ad 3), .int (nI o.length), .ref (ad 4), .ref (ad 5), .ref (ad 6), .long lz1, .ref (ad 7), .ref (ad 8), .ref (ad 9), .ref (ad 10), .int (nI kp1), .int (nI kp1), .ref (ad 11), .ref (ad 12)])) := by rw [ews5]; exact hset_eq g0
          have hrx : hRX K ad ws5 g3 cnt np o.length lz1 kp1 (nI kp1) := by rw [ews5]; exact hrx.obj
          refine lv_aload_n hx hb dX9_solutions_78 rfl (lv_at hl 1 rfl) ?_
          refine va_get (v := .int (nI kp1)) (C := RX9) (T := TX9) (N := 18) hx hb hts (hin_X9 hmc) hown E.1.1 hP 0 g0 rfl 15 (by decide) (hts _ (hmc _ k_584)) (fun _ h9 => h9) rfl dX9_solutions_79 ?_
          subst hAe
          exact W.iret (v := nI kp1) hx hb hr (fun t ht _ => ⟨⟨nI kp1, ws5, rfl, ⟨_, _, _, _, hrx, hrb2.frm2 hg1 hg2 hg3 ⟨Or.inr ⟨kp1, rfl, hkp1⟩, hx11, hx12⟩⟩, by rw [ht]; exact hP, hD⟩, hS.F ht⟩) hS.2.2 dX9_solutions_82
        · exact absurd (by decide +kernel) c3
      · obtain ⟨b, rfl⟩ : ∃ b, a = b + 1 := ⟨a - 1, by omega⟩
        rw [show hkv (b + 1) = nI b from if_neg (by omega)] at hl
        have g0 := hrx.1
        refine lv_iload_n hx hb dX9_solutions_55 rfl (lv_at hl 0 rfl) ?_
        refine lv_if_lt (tgt := 70) hx hb dX9_solutions_56 (by decide) (fun c3 => ?_) (fun c3 => ?_)
        · exact absurd c3 (nI_pos (by omega))
        · refine lv_aload_n hx hb dX9_solutions_59 rfl (lv_at hl 1 rfl) ?_
          refine lv_iload_n hx hb dX9_solutions_60 rfl (lv_at hl 0 rfl) ?_
          refine hc_v E hD hS (va_runV (As := [.int (nI b)]) (rest := []) ⟨hx, hb, hml, hown, hts⟩ ((c_X9_sortBy l D K tv w9 ad g3 cnt np o.length lz1 kp1 (-2) hrx hkp1 b (by omega) hx11 hx12) H.size) (cwV 1 hts (hGV hmc k_747 k_749 k_18 k_29 k_750) rfl rfl rfl (by decide +kernel) ⟨Nat.le_of_ble_eq_true rfl, Nat.le_of_ble_eq_true rfl⟩) (hpreV E hP hD hS g0 rfl) rfl rfl hl.1 rfl (lv_room (Nat.le_of_ble_eq_true rfl)) dX9_solutions_61 ⟨(Nat.le_refl _), (Nat.le_refl _)⟩) (fun ws6 H locs hp hP hD hS => ?_)
          obtain ⟨f11, f12, hrx, hx11, hx12⟩ := hp
          refine lv_iinc (v := (hkv b)) (lv' := [(1, .int (hkv b)), (0, .ref (ad 0))]) hx hb dX9_solutions_64 hl (k := 0) rfl (hkv_dec b) (by decide) rfl (fun ls hl => ?_)
          refine lv_goto (tgt := 55) hx hb dX9_solutions_67 (by decide) ?_
          exact ih b _ H locs ls ⟨by omega, _, hrx, hg1, hg2, hg3, hx11, hx12⟩ (Nat.lt_succ_self _) hP hD hS (lv_sub hl [0, 1] rfl)
    · have hk2 : k < kp1 := Nat.not_le.mp (fun z => c2 (nI_le z (by omega)))
      refine lv_aload_n hx hb dX9_solutions_39 rfl (lv_at hl 1 rfl) ?_
      refine va_get (v := .ref (ad 11)) (C := RX9) (T := TX9) (N := 18) hx hb hts (hin_X9 hmc) hown E.1.1 hP 0 g0 rfl 16 (by decide) (hts _ (hmc _ k_585)) (fun _ h9 => h9) rfl dX9_solutions_40 ?_
      refine lv_iload_n hx hb dX9_solutions_43 rfl (lv_at hl 0 rfl) ?_
      refine lv_iload_n hx hb dX9_solutions_44 rfl (lv_at hl 0 rfl) ?_
      refine va_iast hx hb E.1.1 hP hD hS 11 0 g11 rfl (vp_in_nI (by omega) (by omega)) dX9_solutions_45 (fun H locs hP hD hS => ?_)
      rw [nI_clamp (show k < 2 ^ 31 by omega)] at hP hD
      obtain ⟨ws7, ews7⟩ : ∃ zw : va_W, zw = List.set w9 11 ((ad 11), .inl (K 0, 20000, .inl (upd f11 k (nI k)))) := ⟨_, rfl⟩
      have hP : va_P D vwCl ws7 H := by rw [ews7]; exact hP
      have hD : va_D A ws7 := by rw [ews7]; exact hD
      have g0 := (show ws7[0]? = _ from (by rw [ews7]; exact hset_ne (by omega))).trans g0
      have g11 : ws7[11]? = some ((ad 11), .inl (K 0, 20000, .inl (upd f11 k (nI k)))) := by rw [ews7]; exact hset_eq g11
      have hrx : hRX K ad ws7 (hup (hup g2 11 f11) 11 (upd f11 k (nI k))) cnt np o.length lz1 kp1 (-2) := by rw [ews7]; exact hrx.arr 11 (by decide) (by decide) _
      rw [hup_up] at hrx
      refine lv_iinc (v := nI (k + 1)) (lv' := [(1, .int (nI (k + 1))), (0, .ref (ad 0))]) hx hb dX9_solutions_46 hl (k := 0) rfl (nI_1 _) (by decide) rfl (fun ls hl => ?_)
      refine lv_goto (tgt := 31) hx hb dX9_solutions_49 (by decide) ?_
      exact ih (k + 1) _ H locs ls ⟨by omega, _, hrx, hx11.upd (by omega)⟩ (by omega) hP hD hS (lv_sub hl [0, 1] rfl)
  · refine lv_bipush (v := (-2)) hx hb dX9_solutions_26 (by decide +kernel) ?_
    subst hAe
    exact W.iret (v := (-2)) hx hb hr (fun t ht _ => ⟨⟨(-2), ws3, rfl, ⟨_, _, _, _, hrx, hrb2⟩, by rw [ht]; exact hP, hD⟩, hS.F ht⟩) hS.2.2 dX9_solutions_28

set_option maxHeartbeats 4000000 in
set_option maxRecDepth 100000 in
/-- the reference: value -/
theorem c_X9_value (l : Launch) (D : va_G) (K : Nat → ClassId) (tv : Nat) (ws : va_W) (ad : Nat → Nat) (S : Nat → Nat → Nat → Prop) (cnt np : Nat) (o : List Nat) (hms : hMS K ad ws S cnt np o) (x y : Int32) : hI l D (hTy K) tv yX9_value cX9_value 5 (some .int) ({ frames := 2, cells := 0, slots := 0, locals := 120 }) [.ref (ad 0), .int x, .int y] ws (fun _ ws1 => hMS K ad ws1 S cnt np o) := by
  intro sz
  refine Met.ofW (cc := cX9_value) (maxL := 5) (ret := (some .int)) (by decide) rfl ?_
  intro p e s m args below meth c s₁ B hml hv0
  obtain ⟨rfl, rfl, E, hP, hD⟩ := hentry hv0
  have hx := B.exec
  have hb := B.bytes
  have hr := B.returns
  have hts := atoms_spec (ws := hC yX9_value cX9_value 5 (some .int)) B.pre
  have hown : s.vm.findClass RX9 = some m.cls := findClass_of_methodNamed B.named
  have hlocks := B.notSynchronized
  generalize hAe : va_A ws s.heap.size = A at hD E ⊢
  have hl := lv_entry ([.ref (ad 0), .int x, .int y]) (n := 5) (Nat.le_of_ble_eq_true rfl)
  rw [lg_entry_eq]
  generalize (lg_sl ([.ref (ad 0), .int x, .int y]) ++ List.replicate (5 - (lg_sl ([.ref (ad 0), .int x, .int y])).length) Slot.unset).toArray = ls at hl ⊢
  have hl : lv_has ls 5 [(0, .ref (ad 0)), (1, .int x), (2, .int y)] := hl
  refine hat0 (fun H hHe => ?_)
  have hP : va_P D vwCl ws H := by rw [hHe]; exact hP
  have hS : va_S A s.heap H [] := by rw [hHe]; exact va_S.rf
  obtain ⟨f, lz, kp, fd, hrx, hrb⟩ := id hms
  obtain ⟨hct, hnp, hnd, hon, hT, hIt, hO, hF⟩ := id hrb
  have g0 := hrx.1
  have g10 : ws[10]? = some (ad 10, .inl (K 0, 160000, .inl (f 10))) := hrx.2 10 (by decide) (by decide)
  have g11 : ws[11]? = some (ad 11, .inl (K 0, 20000, .inl (f 11))) := hrx.2 11 (by decide) (by decide)
  refine lv_iload_n hx hb dX9_value_0 rfl (lv_at hl 1 rfl) ?_
  refine lv_if_lt (tgt := 22) hx hb dX9_value_1 (by decide) (fun c1 => ?_) (fun c1 => ?_)
  · refine lv_iconst (v := (-1)) hx hb dX9_value_22 (by decide +kernel) ?_
    subst hAe
    exact W.iret (v := (-1)) hx hb hr (fun t ht _ => ⟨⟨(-1), ws, rfl, hms, by rw [ht]; exact hP, hD⟩, hS.F ht⟩) hS.2.2 dX9_value_23
  · refine lv_iload_n hx hb dX9_value_4 rfl (lv_at hl 1 rfl) ?_
    refine lv_aload_n hx hb dX9_value_5 rfl (lv_at hl 0 rfl) ?_
    refine va_get (v := .int fd) (C := RX9) (T := TX9) (N := 18) hx hb hts (hin_X9 hmc) hown E.1.1 hP 0 g0 rfl 15 (by decide) (hts _ (hmc _ k_584)) (fun _ h9 => h9) rfl dX9_value_6 ?_
    refine lv_icmp_ge (tgt := 22) hx hb dX9_value_9 (by decide) (fun c2 => ?_) (fun c2 => ?_)
    · refine lv_iconst (v := (-1)) hx hb dX9_value_22 (by decide +kernel) ?_
      subst hAe
      exact W.iret (v := (-1)) hx hb hr (fun t ht _ => ⟨⟨(-1), ws, rfl, hms, by rw [ht]; exact hP, hD⟩, hS.F ht⟩) hS.2.2 dX9_value_23
    · refine lv_iload_n hx hb dX9_value_12 rfl (lv_at hl 2 rfl) ?_
      refine lv_if_ge (tgt := 22) hx hb dX9_value_13 (by decide) (fun c3 => ?_) (fun c3 => ?_)
      · refine lv_iconst (v := (-1)) hx hb dX9_value_22 (by decide +kernel) ?_
        subst hAe
        exact W.iret (v := (-1)) hx hb hr (fun t ht _ => ⟨⟨(-1), ws, rfl, hms, by rw [ht]; exact hP, hD⟩, hS.F ht⟩) hS.2.2 dX9_value_23
      · refine lv_iload_n hx hb dX9_value_16 rfl (lv_at hl 2 rfl) ?_
        refine lv_bipush (v := (-8)) hx hb dX9_value_17 (by decide +kernel) ?_
        refine lv_icmp_ge (tgt := 24) hx hb dX9_value_19 (by decide) (fun c4 => ?_) (fun c4 => ?_)
        · obtain ⟨k8, hk8, rfl⟩ := hOkV_of (hOkV_pos c3 (Int32.not_lt.mpr c4))
          obtain ⟨i, hi, rfl⟩ : ∃ i, i < 20000 ∧ x = nI i := by
            obtain ⟨i, hi, rfl⟩ := nI_of c1
            rcases hF.1 with q | ⟨n, q, hn⟩
            · rw [q] at c2
              exact absurd (Int32.le_trans (by decide +kernel) (Int32.not_lt.mp (nI_pos hi))) c2
            · rw [q] at c2
              exact ⟨i, by have : i < n := Nat.not_le.mp (fun z => c2 (nI_le z hi)); omega, rfl⟩
          obtain ⟨m8, hm1, hm2⟩ := hF.2.1 i hi
          refine lv_iconst (v := nI 0) hx hb dX9_value_24 (by decide +kernel) ?_
          refine lv_istore_n (lv' := [(3, .int (nI 0)), (0, .ref (ad 0)), (1, .int (nI i)), (2, .int (hvI k8))]) hx hb dX9_value_25 rfl hl (by decide) rfl (fun ls hl => ?_)
          refine lv_iconst (v := nI 0) hx hb dX9_value_26 (by decide +kernel) ?_
          refine lv_istore (lv' := [(4, .int (nI 0)), (3, .int (nI 0)), (0, .ref (ad 0)), (1, .int (nI i)), (2, .int (hvI k8))]) hx hb dX9_value_27 hl (by decide) rfl (fun ls hl => ?_)
          refine hloopW (α := Nat × Int32) 29 5 (fun y9 => [(4, .int (nI y9.1)), (3, .int y9.2), (0, .ref (ad 0)), (1, .int (nI i)), (2, .int (hvI k8))]) (fun y9 w9 => y9.1 ≤ np ∧ ws = w9) (fun y9 => np - y9.1) (fun _ => 0) (fun _ => 0) ?_ (0, nI 0) ⟨Nat.zero_le _, rfl⟩ hP hD hS (lv_sub hl [0, 1, 2, 3, 4] rfl)
          rintro ⟨j, bs⟩ w9 H locs ls hI9 hP hD hS hl ih
          obtain ⟨hj, rfl⟩ := hI9
          dsimp only at hj ih
          have hl : lv_has ls 5 [(4, .int (nI j)), (3, .int bs), (0, .ref (ad 0)), (1, .int (nI i)), (2, .int (hvI k8))] := hl
          refine lv_iload hx hb dX9_value_29 (lv_at hl 0 rfl) ?_
          refine lv_aload_n hx hb dX9_value_31 rfl (lv_at hl 2 rfl) ?_
          refine va_get (v := .int (nI np)) (C := RX9) (T := TX9) (N := 18) hx hb hts (hin_X9 hmc) hown E.1.1 hP 0 g0 rfl 3 (by decide) (hts _ (hmc _ k_572)) (fun _ h9 => h9) rfl dX9_value_32 ?_
          refine lv_icmp_ge (tgt := 53) hx hb dX9_value_35 (by decide) (fun c5 => ?_) (fun c5 => ?_)
          · refine lv_iload_n hx hb dX9_value_53 rfl (lv_at hl 1 rfl) ?_
            refine lv_iload_n hx hb dX9_value_54 rfl (lv_at hl 4 rfl) ?_
            refine hc_si (va_runS (As := [.int (hvI k8)]) (rest := [.int bs]) ⟨hx, hb, hml, hown, hts⟩ (c_X9_bit l (hvI k8)) (va_cwS 1 hts (hGS hmc k_670 k_671 k_29 k_672) rfl rfl rfl (by decide +kernel) ⟨Nat.le_of_ble_eq_true rfl, Nat.le_of_ble_eq_true rfl⟩) hpre0 rfl rfl hl.1 rfl (lv_room (Nat.le_of_ble_eq_true rfl)) dX9_value_55 ⟨(Nat.le_refl _), (Nat.le_refl _)⟩) (fun r1 hp9 => ?_)
            refine lv_iand hx hb dX9_value_58 ?_
            refine lv_if_ne (tgt := 66) hx hb dX9_value_59 (by decide) (fun c6 => ?_) (fun c6 => ?_)
            · refine lv_aload_n hx hb dX9_value_66 rfl (lv_at hl 2 rfl) ?_
              refine va_get (v := .ref (ad 10)) (C := RX9) (T := TX9) (N := 18) hx hb hts (hin_X9 hmc) hown E.1.1 hP 0 g0 rfl 13 (by decide) (hts _ (hmc _ k_582)) (fun _ h9 => h9) rfl dX9_value_67 ?_
              refine lv_bipush (v := nI 8) hx hb dX9_value_70 (by decide +kernel) ?_
              refine lv_aload_n hx hb dX9_value_72 rfl (lv_at hl 2 rfl) ?_
              refine va_get (v := .ref (ad 11)) (C := RX9) (T := TX9) (N := 18) hx hb hts (hin_X9 hmc) hown E.1.1 hP 0 g0 rfl 16 (by decide) (hts _ (hmc _ k_585)) (fun _ h9 => h9) rfl dX9_value_73 ?_
              refine lv_iload_n hx hb dX9_value_76 rfl (lv_at hl 3 rfl) ?_
              refine va_iald hx hb E.1.1 hP 11 0 g11 rfl (vp_in_nI (by omega) (by omega)) dX9_value_77 ?_
              refine htopi (v := (f 11) i) (by rw [nI_clamp (by omega)]) ?_
              refine htopi (v := nI m8) (hm2) ?_
              refine lv_imul hx hb dX9_value_78 ?_
              refine htopi (v := nI (8 * m8)) (pk_mul _ _) ?_
              refine lv_iconst (v := nI 1) hx hb dX9_value_79 (by decide +kernel) ?_
              refine lv_isub hx hb dX9_value_80 ?_
              refine lv_iload_n hx hb dX9_value_81 rfl (lv_at hl 4 rfl) ?_
              refine lv_isub hx hb dX9_value_82 ?_
              refine htopi (v := nI (8 * m8 + k8)) (hval_ix _ hk8) ?_
              refine va_iald hx hb E.1.1 hP 10 0 g10 rfl (vp_in_nI (by omega) (by omega)) dX9_value_83 ?_
              refine htopi (v := (f 10) (8 * m8 + k8)) (by rw [nI_clamp (by omega)]) ?_
              subst hAe
              exact W.iret (v := (f 10) (8 * m8 + k8)) hx hb hr (fun t ht _ => ⟨⟨(f 10) (8 * m8 + k8), ws, rfl, hms, by rw [ht]; exact hP, hD⟩, hS.F ht⟩) hS.2.2 dX9_value_84
            · refine lv_iconst (v := (-1)) hx hb dX9_value_62 (by decide +kernel) ?_
              refine lv_goto (tgt := 84) hx hb dX9_value_63 (by decide) ?_
              subst hAe
              exact W.iret (v := (-1)) hx hb hr (fun t ht _ => ⟨⟨(-1), ws, rfl, hms, by rw [ht]; exact hP, hD⟩, hS.F ht⟩) hS.2.2 dX9_value_84
          · have hjn : j < np := Nat.not_le.mp (fun z => c5 (nI_le z (by omega)))
            refine lv_iload_n hx hb dX9_value_38 rfl (lv_at hl 1 rfl) ?_
            refine lv_aload_n hx hb dX9_value_39 rfl (lv_at hl 2 rfl) ?_
            refine lv_iload hx hb dX9_value_40 (lv_at hl 0 rfl) ?_
            refine hc_i E hD hS (va_runV (As := [.int (nI j)]) (rest := [.int bs]) ⟨hx, hb, hml, hown, hts⟩ ((c_X9_variables l D K tv ws ad f cnt np o.length lz kp fd hrx j (by omega)) H.size) (cwV 1 hts (hGV hmc k_690 k_692 k_11 k_29 k_693) rfl rfl rfl (by decide +kernel) ⟨Nat.le_of_ble_eq_true rfl, Nat.le_of_ble_eq_true rfl⟩) (hpreV E hP hD hS g0 rfl) rfl rfl hl.1 rfl (lv_room (Nat.le_of_ble_eq_true rfl)) dX9_value_42 ⟨(Nat.le_refl _), (Nat.le_refl _)⟩) (fun r3 ws2 H locs hp hP hD hS => ?_)
            obtain rfl := hp
            refine lv_ior hx hb dX9_value_45 ?_
            refine lv_istore_n (lv' := [(3, .int (bs ||| r3)), (4, .int (nI j)), (0, .ref (ad 0)), (1, .int (nI i)), (2, .int (hvI k8))]) hx hb dX9_value_46 rfl hl (by decide) rfl (fun ls hl => ?_)
            refine lv_iinc (v := nI (j + 1)) (lv' := [(4, .int (nI (j + 1))), (3, .int (bs ||| r3)), (0, .ref (ad 0)), (1, .int (nI i)), (2, .int (hvI k8))]) hx hb dX9_value_47 hl (k := 1) rfl (nI_1 _) (by decide) rfl (fun ls hl => ?_)
            refine lv_goto (tgt := 29) hx hb dX9_value_50 (by decide) ?_
            exact ih (j + 1, _) _ H locs ls ⟨by show j + 1 ≤ np; omega, rfl⟩ (by show np - (j + 1) < np - j; omega) hP hD hS (lv_sub hl [0, 1, 2, 3, 4] rfl)
        · refine lv_iconst (v := (-1)) hx hb dX9_value_22 (by decide +kernel) ?_
          subst hAe
          exact W.iret (v := (-1)) hx hb hr (fun t ht _ => ⟨⟨(-1), ws, rfl, hms, by rw [ht]; exact hP, hD⟩, hS.F ht⟩) hS.2.2 dX9_value_23
