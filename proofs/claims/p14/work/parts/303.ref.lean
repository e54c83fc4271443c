set_option maxHeartbeats 4000000 in
set_option maxRecDepth 100000 in
/-- the reference: remove -/
theorem c_X9_remove (l : Launch) (D : va_G) (K : Nat → ClassId) (tv : Nat) (ws : va_W) (ad : Nat → Nat) (S : Nat → Nat → Nat → Prop) (cnt np : Nat) (o : List Nat) (I : Nat → Nat → Nat) (hms : hMS K ad ws S cnt np o I) (x y z : Int32) : hI l D (hTy K) tv yX9_remove cX9_remove 6 (some .int) ({ frames := 1, cells := 0, slots := 0, locals := 60 }) [.ref (ad 0), .int x, .int y, .int z] ws (fun r ws1 => ∃ S1 c1, hRemP S cnt x y z r S1 c1 ∧ hMS K ad ws1 S1 c1 np o I) := by
  intro sz
  refine Met.ofW (cc := cX9_remove) (maxL := 6) (ret := (some .int)) (by decide) rfl ?_
  intro p e s m args below meth c s₁ B hml hv0
  obtain ⟨rfl, rfl, E, hP, hD⟩ := hentry hv0
  have hx := B.exec
  have hb := B.bytes
  have hr := B.returns
  have hts := atoms_spec (ws := hC yX9_remove cX9_remove 6 (some .int)) B.pre
  have hown : s.vm.findClass RX9 = some m.cls := findClass_of_methodNamed B.named
  have hlocks := B.notSynchronized
  generalize hAe : va_A ws s.heap.size = A at hD E ⊢
  have hl := lv_entry ([.ref (ad 0), .int x, .int y, .int z]) (n := 6) (Nat.le_of_ble_eq_true rfl)
  rw [lg_entry_eq]
  generalize (lg_sl ([.ref (ad 0), .int x, .int y, .int z]) ++ List.replicate (6 - (lg_sl ([.ref (ad 0), .int x, .int y, .int z])).length) Slot.unset).toArray = ls at hl ⊢
  have hl : lv_has ls 6 [(0, .ref (ad 0)), (1, .int x), (2, .int y), (3, .int z)] := hl
  refine hat0 (fun H hHe => ?_)
  have hP : va_P D vwCl ws H := by rw [hHe]; exact hP
  have hS : va_S A s.heap H [] := by rw [hHe]; exact va_S.rf
  obtain ⟨f, lz, kp, fd, hrx, hrb⟩ := id hms
  obtain ⟨hct, hnp, hnd, hon, hT, hIt, hO, hF⟩ := id hrb
  have g0 := hrx.1
  have g1 : ws[1]? = some (ad 1, .inl (K 0, 1920, .inl (f 1))) := hrx.2 1 (by decide) (by decide)
  refine lv_iload_n hx hb dX9_remove_0 rfl (lv_at hl 1 rfl) ?_
  refine hc_si (va_runS (As := [.int x]) (rest := []) ⟨hx, hb, hml, hown, hts⟩ (c_X9_isNumber l x) (va_cwS 1 hts (hGS hmc k_628 k_629 k_29 k_630) rfl rfl rfl (by decide +kernel) ⟨Nat.le_of_ble_eq_true rfl, Nat.le_of_ble_eq_true rfl⟩) hpre0 rfl rfl hl.1 rfl (lv_room (Nat.le_of_ble_eq_true rfl)) dX9_remove_1 ⟨(Nat.le_refl _), (Nat.le_refl _)⟩) (fun r1 b1 => ?_)
  refine lv_if_eq (tgt := 21) hx hb dX9_remove_4 (by decide) (fun c1 => ?_) (fun c1 => ?_)
  · refine lv_iconst (v := (-1)) hx hb dX9_remove_21 (by decide +kernel) ?_
    subst hAe
    exact W.iret (v := (-1)) hx hb hr (fun t ht _ => ⟨⟨(-1), ws, rfl, ⟨_, _, Or.inl ⟨fun q => b1.f c1 q.1, rfl, rfl, rfl⟩, hms⟩, by rw [ht]; exact hP, hD⟩, hS.F ht⟩) hS.2.2 dX9_remove_22
  · refine lv_iload_n hx hb dX9_remove_7 rfl (lv_at hl 2 rfl) ?_
    refine hc_si (va_runS (As := [.int y]) (rest := []) ⟨hx, hb, hml, hown, hts⟩ (c_X9_isNumber l y) (va_cwS 1 hts (hGS hmc k_628 k_629 k_29 k_630) rfl rfl rfl (by decide +kernel) ⟨Nat.le_of_ble_eq_true rfl, Nat.le_of_ble_eq_true rfl⟩) hpre0 rfl rfl hl.1 rfl (lv_room (Nat.le_of_ble_eq_true rfl)) dX9_remove_8 ⟨(Nat.le_refl _), (Nat.le_refl _)⟩) (fun r2 b2 => ?_)
    refine lv_if_eq (tgt := 21) hx hb dX9_remove_11 (by decide) (fun c2 => ?_) (fun c2 => ?_)
    · refine lv_iconst (v := (-1)) hx hb dX9_remove_21 (by decide +kernel) ?_
      subst hAe
      exact W.iret (v := (-1)) hx hb hr (fun t ht _ => ⟨⟨(-1), ws, rfl, ⟨_, _, Or.inl ⟨fun q => b2.f c2 q.2.1, rfl, rfl, rfl⟩, hms⟩, by rw [ht]; exact hP, hD⟩, hS.F ht⟩) hS.2.2 dX9_remove_22
    · refine lv_iload_n hx hb dX9_remove_14 rfl (lv_at hl 3 rfl) ?_
      refine hc_si (va_runS (As := [.int z]) (rest := []) ⟨hx, hb, hml, hown, hts⟩ (c_X9_isNumber l z) (va_cwS 1 hts (hGS hmc k_628 k_629 k_29 k_630) rfl rfl rfl (by decide +kernel) ⟨Nat.le_of_ble_eq_true rfl, Nat.le_of_ble_eq_true rfl⟩) hpre0 rfl rfl hl.1 rfl (lv_room (Nat.le_of_ble_eq_true rfl)) dX9_remove_15 ⟨(Nat.le_refl _), (Nat.le_refl _)⟩) (fun r3 b3 => ?_)
      refine lv_if_ne (tgt := 23) hx hb dX9_remove_18 (by decide) (fun c3 => ?_) (fun c3 => ?_)
      · obtain ⟨na, ha, rfl⟩ := hOkN_of (b1.t c1)
        obtain ⟨nb, hb6, rfl⟩ := hOkN_of (b2.t c2)
        obtain ⟨nc, hc6, rfl⟩ := hOkN_of (b3.t c3)
        obtain ⟨ta, tb, tc, t1, t2, t3⟩ := id hT
        refine lv_aload_n hx hb dX9_remove_23 rfl (lv_at hl 0 rfl) ?_
        refine lv_iload_n hx hb dX9_remove_24 rfl (lv_at hl 1 rfl) ?_
        refine lv_iload_n hx hb dX9_remove_25 rfl (lv_at hl 2 rfl) ?_
        refine lv_iload_n hx hb dX9_remove_26 rfl (lv_at hl 3 rfl) ?_
        refine hc_i E hD hS (va_runV (As := [.int (nI na), .int (nI nb), .int (nI nc)]) (rest := []) ⟨hx, hb, hml, hown, hts⟩ ((c_X9_find l D K tv ws ad f cnt np o.length lz kp fd hrx S hct na nb nc ha hb6 hc6 ta tb tc t1) H.size) (cwV 3 hts (hGV hmc k_631 k_633 k_4 k_29 k_634) rfl rfl rfl (by decide +kernel) ⟨Nat.le_of_ble_eq_true rfl, Nat.le_of_ble_eq_true rfl⟩) (hpreV E hP hD hS g0 rfl) rfl rfl hl.1 rfl (lv_room (Nat.le_of_ble_eq_true rfl)) dX9_remove_27 ⟨(Nat.le_refl _), (Nat.le_refl _)⟩) (fun r5 ws4 H locs hh hP hD hS => ?_)
        obtain ⟨rfl, hh⟩ := hh
        refine lv_istore (lv' := [(4, .int r5), (0, .ref (ad 0)), (1, .int (nI na)), (2, .int (nI nb)), (3, .int (nI nc))]) hx hb dX9_remove_30 hl (by decide) rfl (fun ls hl => ?_)
        refine lv_iload hx hb dX9_remove_32 (lv_at hl 0 rfl) ?_
        refine lv_if_ge (tgt := 39) hx hb dX9_remove_34 (by decide) (fun c4 => ?_) (fun c4 => ?_)
        · obtain ⟨i, hi, hri, ea, eb, ec⟩ : ∃ i, i < cnt ∧ r5 = nI i ∧ ta i = na ∧ tb i = nb ∧ tc i = nc := by
            rcases hh with q | ⟨q, -⟩
            · exact q
            · rw [q] at c4; exact absurd c4 (by decide +kernel)
          have hS9 : S na nb nc := (t3 _ _ _).mpr ⟨i, hi, ea, eb, ec⟩
          subst hri
          refine lv_aload_n hx hb dX9_remove_39 rfl (lv_at hl 1 rfl) ?_
          refine lv_dup hx hb dX9_remove_40 rfl ?_
          refine va_get (v := .int (nI cnt)) (C := RX9) (T := TX9) (N := 18) hx hb hts (hin_X9 hmc) hown E.1.1 hP 0 g0 rfl 1 (by decide) (hts _ (hmc _ k_570)) (fun _ h9 => h9) rfl dX9_remove_41 ?_
          refine lv_iconst (v := nI 1) hx hb dX9_remove_44 (by decide +kernel) ?_
          refine lv_isub hx hb dX9_remove_45 ?_
          refine htopi (v := nI (cnt - 1)) (pk_sub (by omega)) ?_
          refine va_put (v := .int (nI (cnt - 1))) (ty := .int) (C := RX9) (T := TX9) (N := 18) hx hb hts (hin_X9 hmc) tyX9 tyX9_ok nmX9 hown E.1.1 hP hD hS 0 g0 rfl 1 (by decide) (hts _ (hmc _ k_570)) (fun _ h9 => h9) rfl (by decide +kernel) rfl rfl (Nat.le_of_ble_eq_true rfl) dX9_remove_46 (fun H locs hP hD hS => ?_)
          obtain ⟨ws6, ews6⟩ : ∃ zw : va_W, zw = List.set ws 0 ((ad 0), .inr (iM, [.ref (ad 1), .int (nI (cnt - 1)), .ref (ad 2), .int (nI np), .ref (ad 3), .int (nI o.length), .ref (ad 4), .ref (ad 5), .ref (ad 6), .long lz, .ref (ad 7), .ref (ad 8), .ref (ad 9), .ref (ad 10), .int (nI kp), .int fd, .ref (ad 11), .ref (ad 12)])) := ⟨_, rfl⟩
          have hP : va_P D vwCl ws6 H := by rw [ews6]; exact hP
          have hD : va_D A ws6 := by rw [ews6]; exact hD
          have g0 : ws6[0]? = some ((ad 0), .inr (iM, [.ref (ad 1), .int (nI (cnt - 1)), .ref (ad 2), .int (nI np), .ref (ad 3), .int (nI o.length), .ref (ad 4), .ref (ad 5), .ref (ad 6), .long lz, .ref (ad 7), .ref (ad 8), .ref (ad 9), .ref (ad 10), .int (nI kp), .int fd, .ref (ad 11), .ref (ad 12)])) := by rw [ews6]; exact hset_eq g0
          have g1 := (show ws6[1]? = _ from (by rw [ews6]; exact hset_ne (by omega))).trans g1
          have hrx : hRX K ad ws6 f (cnt - 1) np o.length lz kp fd := by rw [ews6]; exact hrx.obj
          refine lv_iconst (v := nI 0) hx hb dX9_remove_49 (by decide +kernel) ?_
          refine lv_istore (lv' := [(5, .int (nI 0)), (4, .int (nI i)), (0, .ref (ad 0)), (1, .int (nI na)), (2, .int (nI nb)), (3, .int (nI nc))]) hx hb dX9_remove_50 hl (by decide) rfl (fun ls hl => ?_)
          refine lv_iload hx hb dX9_remove_52 (lv_at hl 0 rfl) ?_
          refine lv_iconst (v := nI 3) hx hb dX9_remove_54 (by decide +kernel) ?_
          refine lv_icmp_ge (tgt := 90) hx hb dX9_remove_55 (by decide) (fun c9 => absurd c9 (by decide +kernel)) (fun _ => ?_)
          refine lv_aload_n hx hb dX9_remove_58 rfl (lv_at hl 2 rfl) ?_
          refine va_get (v := .ref (ad 1)) (C := RX9) (T := TX9) (N := 18) hx hb hts (hin_X9 hmc) hown E.1.1 hP 0 g0 rfl 0 (by decide) (hts _ (hmc _ k_569)) (fun _ h9 => h9) rfl dX9_remove_59 ?_
          refine lv_iconst (v := nI 3) hx hb dX9_remove_62 (by decide +kernel) ?_
          refine lv_iload hx hb dX9_remove_63 (lv_at hl 1 rfl) ?_
          refine lv_imul hx hb dX9_remove_65 ?_
          refine htopi (v := nI (3 * i)) (pk_mul _ _) ?_
          refine lv_iload hx hb dX9_remove_66 (lv_at hl 0 rfl) ?_
          refine lv_iadd hx hb dX9_remove_68 ?_
          refine htopi (v := nI ((3 * i) + 0)) (nI_add _ _) ?_
          refine lv_aload_n hx hb dX9_remove_69 rfl (lv_at hl 2 rfl) ?_
          refine va_get (v := .ref (ad 1)) (C := RX9) (T := TX9) (N := 18) hx hb hts (hin_X9 hmc) hown E.1.1 hP 0 g0 rfl 0 (by decide) (hts _ (hmc _ k_569)) (fun _ h9 => h9) rfl dX9_remove_70 ?_
          refine lv_iconst (v := nI 3) hx hb dX9_remove_73 (by decide +kernel) ?_
          refine lv_aload_n hx hb dX9_remove_74 rfl (lv_at hl 2 rfl) ?_
          refine va_get (v := .int (nI (cnt - 1))) (C := RX9) (T := TX9) (N := 18) hx hb hts (hin_X9 hmc) hown E.1.1 hP 0 g0 rfl 1 (by decide) (hts _ (hmc _ k_570)) (fun _ h9 => h9) rfl dX9_remove_75 ?_
          refine lv_imul hx hb dX9_remove_78 ?_
          refine htopi (v := nI (3 * (cnt - 1))) (pk_mul _ _) ?_
          refine lv_iload hx hb dX9_remove_79 (lv_at hl 0 rfl) ?_
          refine lv_iadd hx hb dX9_remove_81 ?_
          refine htopi (v := nI ((3 * (cnt - 1)) + 0)) (nI_add _ _) ?_
          refine va_iald hx hb E.1.1 hP 1 0 g1 rfl (vp_in_nI (by omega) (by omega)) dX9_remove_82 ?_
          refine htopi (v := (f 1) ((3 * (cnt - 1)) + 0)) (by rw [nI_clamp (by omega)]) ?_
          refine htopi (v := f 1 (3 * (cnt - 1) + 0)) (rfl) ?_
          refine va_iast hx hb E.1.1 hP hD hS 1 0 g1 rfl (vp_in_nI (by omega) (by omega)) dX9_remove_83 (fun H locs hP hD hS => ?_)
          rw [nI_clamp (show ((3 * i) + 0) < 2 ^ 31 by omega)] at hP hD
          obtain ⟨ws7, ews7⟩ : ∃ zw : va_W, zw = List.set ws6 1 ((ad 1), .inl (K 0, 1920, .inl (upd (f 1) ((3 * i) + 0) (f 1 (3 * (cnt - 1) + 0))))) := ⟨_, rfl⟩
          have hP : va_P D vwCl ws7 H := by rw [ews7]; exact hP
          have hD : va_D A ws7 := by rw [ews7]; exact hD
          have g0 := (show ws7[0]? = _ from (by rw [ews7]; exact hset_ne (by omega))).trans g0
          have g1 : ws7[1]? = some ((ad 1), .inl (K 0, 1920, .inl (upd (f 1) ((3 * i) + 0) (f 1 (3 * (cnt - 1) + 0))))) := by rw [ews7]; exact hset_eq g1
          have hrx : hRX K ad ws7 (hup f 1 (upd (f 1) ((3 * i) + 0) (f 1 (3 * (cnt - 1) + 0)))) (cnt - 1) np o.length lz kp fd := by rw [ews7]; exact hrx.arr 1 (by decide) (by decide) _
          refine lv_iinc (v := nI (0 + 1)) (lv' := [(5, .int (nI (0 + 1))), (4, .int (nI i)), (0, .ref (ad 0)), (1, .int (nI na)), (2, .int (nI nb)), (3, .int (nI nc))]) hx hb dX9_remove_84 hl (k := 0) rfl (nI_1 _) (by decide) rfl (fun ls hl => ?_)
          refine lv_goto (tgt := 52) hx hb dX9_remove_87 (by decide) ?_
          refine lv_iload hx hb dX9_remove_52 (lv_at hl 0 rfl) ?_
          refine lv_iconst (v := nI 3) hx hb dX9_remove_54 (by decide +kernel) ?_
          refine lv_icmp_ge (tgt := 90) hx hb dX9_remove_55 (by decide) (fun c9 => absurd c9 (by decide +kernel)) (fun _ => ?_)
          refine lv_aload_n hx hb dX9_remove_58 rfl (lv_at hl 2 rfl) ?_
          refine va_get (v := .ref (ad 1)) (C := RX9) (T := TX9) (N := 18) hx hb hts (hin_X9 hmc) hown E.1.1 hP 0 g0 rfl 0 (by decide) (hts _ (hmc _ k_569)) (fun _ h9 => h9) rfl dX9_remove_59 ?_
          refine lv_iconst (v := nI 3) hx hb dX9_remove_62 (by decide +kernel) ?_
          refine lv_iload hx hb dX9_remove_63 (lv_at hl 1 rfl) ?_
          refine lv_imul hx hb dX9_remove_65 ?_
          refine htopi (v := nI (3 * i)) (pk_mul _ _) ?_
          refine lv_iload hx hb dX9_remove_66 (lv_at hl 0 rfl) ?_
          refine lv_iadd hx hb dX9_remove_68 ?_
          refine htopi (v := nI ((3 * i) + (0 + 1))) (nI_add _ _) ?_
          refine lv_aload_n hx hb dX9_remove_69 rfl (lv_at hl 2 rfl) ?_
          refine va_get (v := .ref (ad 1)) (C := RX9) (T := TX9) (N := 18) hx hb hts (hin_X9 hmc) hown E.1.1 hP 0 g0 rfl 0 (by decide) (hts _ (hmc _ k_569)) (fun _ h9 => h9) rfl dX9_remove_70 ?_
          refine lv_iconst (v := nI 3) hx hb dX9_remove_73 (by decide +kernel) ?_
          refine lv_aload_n hx hb dX9_remove_74 rfl (lv_at hl 2 rfl) ?_
          refine va_get (v := .int (nI (cnt - 1))) (C := RX9) (T := TX9) (N := 18) hx hb hts (hin_X9 hmc) hown E.1.1 hP 0 g0 rfl 1 (by decide) (hts _ (hmc _ k_570)) (fun _ h9 => h9) rfl dX9_remove_75 ?_
          refine lv_imul hx hb dX9_remove_78 ?_
          refine htopi (v := nI (3 * (cnt - 1))) (pk_mul _ _) ?_
          refine lv_iload hx hb dX9_remove_79 (lv_at hl 0 rfl) ?_
          refine lv_iadd hx hb dX9_remove_81 ?_
          refine htopi (v := nI ((3 * (cnt - 1)) + (0 + 1))) (nI_add _ _) ?_
          refine va_iald hx hb E.1.1 hP 1 0 g1 rfl (vp_in_nI (by omega) (by omega)) dX9_remove_82 ?_
          refine htopi (v := (upd (f 1) ((3 * i) + 0) (f 1 (3 * (cnt - 1) + 0))) ((3 * (cnt - 1)) + (0 + 1))) (by rw [nI_clamp (by omega)]) ?_
          refine htopi (v := f 1 (3 * (cnt - 1) + (0 + 1))) (by rw [pk_un (by omega)]) ?_
          refine va_iast hx hb E.1.1 hP hD hS 1 0 g1 rfl (vp_in_nI (by omega) (by omega)) dX9_remove_83 (fun H locs hP hD hS => ?_)
          rw [nI_clamp (show ((3 * i) + (0 + 1)) < 2 ^ 31 by omega)] at hP hD
          obtain ⟨ws8, ews8⟩ : ∃ zw : va_W, zw = List.set ws7 1 ((ad 1), .inl (K 0, 1920, .inl (upd (upd (f 1) ((3 * i) + 0) (f 1 (3 * (cnt - 1) + 0))) ((3 * i) + (0 + 1)) (f 1 (3 * (cnt - 1) + (0 + 1)))))) := ⟨_, rfl⟩
          have hP : va_P D vwCl ws8 H := by rw [ews8]; exact hP
          have hD : va_D A ws8 := by rw [ews8]; exact hD
          have g0 := (show ws8[0]? = _ from (by rw [ews8]; exact hset_ne (by omega))).trans g0
          have g1 : ws8[1]? = some ((ad 1), .inl (K 0, 1920, .inl (upd (upd (f 1) ((3 * i) + 0) (f 1 (3 * (cnt - 1) + 0))) ((3 * i) + (0 + 1)) (f 1 (3 * (cnt - 1) + (0 + 1)))))) := by rw [ews8]; exact hset_eq g1
          have hrx : hRX K ad ws8 (hup (hup f 1 (upd (f 1) ((3 * i) + 0) (f 1 (3 * (cnt - 1) + 0)))) 1 (upd (upd (f 1) ((3 * i) + 0) (f 1 (3 * (cnt - 1) + 0))) ((3 * i) + (0 + 1)) (f 1 (3 * (cnt - 1) + (0 + 1))))) (cnt - 1) np o.length lz kp fd := by rw [ews8]; exact hrx.arr 1 (by decide) (by decide) _
          refine lv_iinc (v := nI ((0 + 1) + 1)) (lv' := [(5, .int (nI ((0 + 1) + 1))), (4, .int (nI i)), (0, .ref (ad 0)), (1, .int (nI na)), (2, .int (nI nb)), (3, .int (nI nc))]) hx hb dX9_remove_84 hl (k := 0) rfl (nI_1 _) (by decide) rfl (fun ls hl => ?_)
          refine lv_goto (tgt := 52) hx hb dX9_remove_87 (by decide) ?_
          refine lv_iload hx hb dX9_remove_52 (lv_at hl 0 rfl) ?_
          refine lv_iconst (v := nI 3) hx hb dX9_remove_54 (by decide +kernel) ?_
          refine lv_icmp_ge (tgt := 90) hx hb dX9_remove_55 (by decide) (fun c9 => absurd c9 (by decide +kernel)) (fun _ => ?_)
          refine lv_aload_n hx hb dX9_remove_58 rfl (lv_at hl 2 rfl) ?_
          refine va_get (v := .ref (ad 1)) (C := RX9) (T := TX9) (N := 18) hx hb hts (hin_X9 hmc) hown E.1.1 hP 0 g0 rfl 0 (by decide) (hts _ (hmc _ k_569)) (fun _ h9 => h9) rfl dX9_remove_59 ?_
          refine lv_iconst (v := nI 3) hx hb dX9_remove_62 (by decide +kernel) ?_
          refine lv_iload hx hb dX9_remove_63 (lv_at hl 1 rfl) ?_
          refine lv_imul hx hb dX9_remove_65 ?_
          refine htopi (v := nI (3 * i)) (pk_mul _ _) ?_
          refine lv_iload hx hb dX9_remove_66 (lv_at hl 0 rfl) ?_
          refine lv_iadd hx hb dX9_remove_68 ?_
          refine htopi (v := nI ((3 * i) + ((0 + 1) + 1))) (nI_add _ _) ?_
          refine lv_aload_n hx hb dX9_remove_69 rfl (lv_at hl 2 rfl) ?_
          refine va_get (v := .ref (ad 1)) (C := RX9) (T := TX9) (N := 18) hx hb hts (hin_X9 hmc) hown E.1.1 hP 0 g0 rfl 0 (by decide) (hts _ (hmc _ k_569)) (fun _ h9 => h9) rfl dX9_remove_70 ?_
          refine lv_iconst (v := nI 3) hx hb dX9_remove_73 (by decide +kernel) ?_
          refine lv_aload_n hx hb dX9_remove_74 rfl (lv_at hl 2 rfl) ?_
          refine va_get (v := .int (nI (cnt - 1))) (C := RX9) (T := TX9) (N := 18) hx hb hts (hin_X9 hmc) hown E.1.1 hP 0 g0 rfl 1 (by decide) (hts _ (hmc _ k_570)) (fun _ h9 => h9) rfl dX9_remove_75 ?_
          refine lv_imul hx hb dX9_remove_78 ?_
          refine htopi (v := nI (3 * (cnt - 1))) (pk_mul _ _) ?_
          refine lv_iload hx hb dX9_remove_79 (lv_at hl 0 rfl) ?_
          refine lv_iadd hx hb dX9_remove_81 ?_
          refine htopi (v := nI ((3 * (cnt - 1)) + ((0 + 1) + 1))) (nI_add _ _) ?_
          refine va_iald hx hb E.1.1 hP 1 0 g1 rfl (vp_in_nI (by omega) (by omega)) dX9_remove_82 ?_
          refine htopi (v := (upd (upd (f 1) ((3 * i) + 0) (f 1 (3 * (cnt - 1) + 0))) ((3 * i) + (0 + 1)) (f 1 (3 * (cnt - 1) + (0 + 1)))) ((3 * (cnt - 1)) + ((0 + 1) + 1))) (by rw [nI_clamp (by omega)]) ?_
          refine htopi (v := f 1 (3 * (cnt - 1) + (0 + 1 + 1))) (by rw [pk_un (by omega), pk_un (by omega)]) ?_
          refine va_iast hx hb E.1.1 hP hD hS 1 0 g1 rfl (vp_in_nI (by omega) (by omega)) dX9_remove_83 (fun H locs hP hD hS => ?_)
          rw [nI_clamp (show ((3 * i) + ((0 + 1) + 1)) < 2 ^ 31 by omega)] at hP hD
          obtain ⟨ws9, ews9⟩ : ∃ zw : va_W, zw = List.set ws8 1 ((ad 1), .inl (K 0, 1920, .inl (upd (upd (upd (f 1) ((3 * i) + 0) (f 1 (3 * (cnt - 1) + 0))) ((3 * i) + (0 + 1)) (f 1 (3 * (cnt - 1) + (0 + 1)))) ((3 * i) + ((0 + 1) + 1)) (f 1 (3 * (cnt - 1) + (0 + 1 + 1)))))) := ⟨_, rfl⟩
          have hP : va_P D vwCl ws9 H := by rw [ews9]; exact hP
          have hD : va_D A ws9 := by rw [ews9]; exact hD
          have g0 := (show ws9[0]? = _ from (by rw [ews9]; exact hset_ne (by omega))).trans g0
          have g1 : ws9[1]? = some ((ad 1), .inl (K 0, 1920, .inl (upd (upd (upd (f 1) ((3 * i) + 0) (f 1 (3 * (cnt - 1) + 0))) ((3 * i) + (0 + 1)) (f 1 (3 * (cnt - 1) + (0 + 1)))) ((3 * i) + ((0 + 1) + 1)) (f 1 (3 * (cnt - 1) + (0 + 1 + 1)))))) := by rw [ews9]; exact hset_eq g1
          have hrx : hRX K ad ws9 (hup (hup (hup f 1 (upd (f 1) ((3 * i) + 0) (f 1 (3 * (cnt - 1) + 0)))) 1 (upd (upd (f 1) ((3 * i) + 0) (f 1 (3 * (cnt - 1) + 0))) ((3 * i) + (0 + 1)) (f 1 (3 * (cnt - 1) + (0 + 1))))) 1 (upd (upd (upd (f 1) ((3 * i) + 0) (f 1 (3 * (cnt - 1) + 0))) ((3 * i) + (0 + 1)) (f 1 (3 * (cnt - 1) + (0 + 1)))) ((3 * i) + ((0 + 1) + 1)) (f 1 (3 * (cnt - 1) + (0 + 1 + 1))))) (cnt - 1) np o.length lz kp fd := by rw [ews9]; exact hrx.arr 1 (by decide) (by decide) _
          refine lv_iinc (v := nI (((0 + 1) + 1) + 1)) (lv' := [(5, .int (nI (((0 + 1) + 1) + 1))), (4, .int (nI i)), (0, .ref (ad 0)), (1, .int (nI na)), (2, .int (nI nb)), (3, .int (nI nc))]) hx hb dX9_remove_84 hl (k := 0) rfl (nI_1 _) (by decide) rfl (fun ls hl => ?_)
          refine lv_goto (tgt := 52) hx hb dX9_remove_87 (by decide) ?_
          refine lv_iload hx hb dX9_remove_52 (lv_at hl 0 rfl) ?_
          refine lv_iconst (v := nI 3) hx hb dX9_remove_54 (by decide +kernel) ?_
          refine lv_icmp_ge (tgt := 90) hx hb dX9_remove_55 (by decide) (fun _ => ?_) (fun c9 => absurd (by decide +kernel) c9)
          refine lv_aload_n hx hb dX9_remove_90 rfl (lv_at hl 2 rfl) ?_
          refine lv_bipush (v := (-2)) hx hb dX9_remove_91 (by decide +kernel) ?_
          refine va_put (v := .int (-2)) (ty := .int) (C := RX9) (T := TX9) (N := 18) hx hb hts (hin_X9 hmc) tyX9 tyX9_ok nmX9 hown E.1.1 hP hD hS 0 g0 rfl 15 (by decide) (hts _ (hmc _ k_584)) (fun _ h9 => h9) rfl (by decide +kernel) rfl rfl (Nat.le_of_ble_eq_true rfl) dX9_remove_93 (fun H locs hP hD hS => ?_)
          obtain ⟨ws10, ews10⟩ : ∃ zw : va_W, zw = List.set ws9 0 ((ad 0), .inr (iM, [.ref (ad 1), .int (nI (cnt - 1)), .ref (ad 2), .int (nI np), .ref (ad 3), .int (nI o.length), .ref (ad 4), .ref (ad 5), .ref (ad 6), .long lz, .ref (ad 7), .ref (ad 8), .ref (ad 9), .ref (ad 10), .int (nI kp), .int (-2), .ref (ad 11), .ref (ad 12)])) := ⟨_, rfl⟩
          have hP : va_P D vwCl ws10 H := by rw [ews10]; exact hP
          have hD : va_D A ws10 := by rw [ews10]; exact hD
          have g0 : ws10[0]? = some ((ad 0), .inr (iM, [.ref (ad 1), .int (nI (cnt - 1)), .ref (ad 2), .int (nI np), .ref (ad 3), .int (nI o.length), .ref (ad 4), .ref (ad 5), .ref (ad 6), .long lz, .ref (ad 7), .ref (ad 8), .ref (ad 9), .ref (ad 10), .int (nI kp), .int (-2), .ref (ad 11), .ref (ad 12)])) := by rw [ews10]; exact hset_eq g0
          have g1 := (show ws10[1]? = _ from (by rw [ews10]; exact hset_ne (by omega))).trans g1
          have hrx : hRX K ad ws10 (hup (hup (hup f 1 (upd (f 1) ((3 * i) + 0) (f 1 (3 * (cnt - 1) + 0)))) 1 (upd (upd (f 1) ((3 * i) + 0) (f 1 (3 * (cnt - 1) + 0))) ((3 * i) + (0 + 1)) (f 1 (3 * (cnt - 1) + (0 + 1))))) 1 (upd (upd (upd (f 1) ((3 * i) + 0) (f 1 (3 * (cnt - 1) + 0))) ((3 * i) + (0 + 1)) (f 1 (3 * (cnt - 1) + (0 + 1)))) ((3 * i) + ((0 + 1) + 1)) (f 1 (3 * (cnt - 1) + (0 + 1 + 1))))) (cnt - 1) np o.length lz kp (-2) := by rw [ews10]; exact hrx.obj
          refine lv_iconst (v := nI 1) hx hb dX9_remove_96 (by decide +kernel) ?_
          subst hAe
          exact W.iret (v := nI 1) hx hb hr (fun t ht _ => ⟨⟨nI 1, ws10, rfl, ⟨_, _, Or.inr ⟨na, nb, nc, ha, hb6, hc6, rfl, rfl, rfl, Or.inr ⟨hS9, rfl, rfl, rfl⟩⟩, ⟨_, _, _, _, hrx, ⟨(by omega), hnp, hnd, hon, hRT.del t1 t2 t3 hi ea eb ec, hIt, hO, ⟨Or.inl rfl, hF.2⟩⟩⟩⟩, by rw [ht]; exact hP, hD⟩, hS.F ht⟩) hS.2.2 dX9_remove_97
        · have hnS : ¬ S na nb nc := by
            rcases hh with ⟨i, hi, q, -⟩ | ⟨-, hno⟩
            · rw [q] at c4; exact absurd (Int32.not_lt.mp (nI_pos (by omega))) c4
            · intro q
              obtain ⟨i, hi, e⟩ := (t3 _ _ _).mp q
              exact hno i hi e
          refine lv_iconst (v := nI 0) hx hb dX9_remove_37 (by decide +kernel) ?_
          subst hAe
          exact W.iret (v := nI 0) hx hb hr (fun t ht _ => ⟨⟨nI 0, ws, rfl, ⟨_, _, Or.inr ⟨na, nb, nc, ha, hb6, hc6, rfl, rfl, rfl, Or.inl ⟨hnS, rfl, rfl, rfl⟩⟩, hms⟩, by rw [ht]; exact hP, hD⟩, hS.F ht⟩) hS.2.2 dX9_remove_38
      · refine lv_iconst (v := (-1)) hx hb dX9_remove_21 (by decide +kernel) ?_
        subst hAe
        exact W.iret (v := (-1)) hx hb hr (fun t ht _ => ⟨⟨(-1), ws, rfl, ⟨_, _, Or.inl ⟨fun q => b3.f c3 q.2.2, rfl, rfl, rfl⟩, hms⟩, by rw [ht]; exact hP, hD⟩, hS.F ht⟩) hS.2.2 dX9_remove_22

set_option maxHeartbeats 4000000 in
set_option maxRecDepth 100000 in
/-- the reference: pattern -/
theorem c_X9_pattern (l : Launch) (D : va_G) (K : Nat → ClassId) (tv : Nat) (ws : va_W) (ad : Nat → Nat) (S : Nat → Nat → Nat → Prop) (cnt np : Nat) (o : List Nat) (I : Nat → Nat → Nat) (hms : hMS K ad ws S cnt np o I) (x y z : Int32) : hI l D (hTy K) tv yX9_pattern cX9_pattern 4 (some .int) ({ frames := 1, cells := 0, slots := 0, locals := 60 }) [.ref (ad 0), .int x, .int y, .int z] ws (fun r ws1 => ∃ n1 o1 I1, hPatQ np o I x y z r n1 o1 I1 ∧ hMS K ad ws1 S cnt n1 o1 I1) := by
  intro sz
  refine Met.ofW (cc := cX9_pattern) (maxL := 4) (ret := (some .int)) (by decide) rfl ?_
  intro p e s m args below meth c s₁ B hml hv0
  obtain ⟨rfl, rfl, E, hP, hD⟩ := hentry hv0
  have hx := B.exec
  have hb := B.bytes
  have hr := B.returns
  have hts := atoms_spec (ws := hC yX9_pattern cX9_pattern 4 (some .int)) B.pre
  have hown : s.vm.findClass RX9 = some m.cls := findClass_of_methodNamed B.named
  have hlocks := B.notSynchronized
  generalize hAe : va_A ws s.heap.size = A at hD E ⊢
  have hl := lv_entry ([.ref (ad 0), .int x, .int y, .int z]) (n := 4) (Nat.le_of_ble_eq_true rfl)
  rw [lg_entry_eq]
  generalize (lg_sl ([.ref (ad 0), .int x, .int y, .int z]) ++ List.replicate (4 - (lg_sl ([.ref (ad 0), .int x, .int y, .int z])).length) Slot.unset).toArray = ls at hl ⊢
  have hl : lv_has ls 4 [(0, .ref (ad 0)), (1, .int x), (2, .int y), (3, .int z)] := hl
  refine hat0 (fun H hHe => ?_)
  have hP : va_P D vwCl ws H := by rw [hHe]; exact hP
  have hS : va_S A s.heap H [] := by rw [hHe]; exact va_S.rf
  obtain ⟨f, lz, kp, fd, hrx, hrb⟩ := id hms
  obtain ⟨hct, hnp, hnd, hon, hT, hIt, hO, hF⟩ := id hrb
  have g0 := hrx.1
  have g2 : ws[2]? = some (ad 2, .inl (K 0, 18, .inl (f 2))) := hrx.2 2 (by decide) (by decide)
  refine lv_iload_n hx hb dX9_pattern_0 rfl (lv_at hl 1 rfl) ?_
  refine hc_si (va_runS (As := [.int x]) (rest := []) ⟨hx, hb, hml, hown, hts⟩ (c_X9_isItem l x) (va_cwS 1 hts (hGS hmc k_647 k_648 k_29 k_649) rfl rfl rfl (by decide +kernel) ⟨Nat.le_of_ble_eq_true rfl, Nat.le_of_ble_eq_true rfl⟩) hpre0 rfl rfl hl.1 rfl (lv_room (Nat.le_of_ble_eq_true rfl)) dX9_pattern_1 ⟨(Nat.le_refl _), (Nat.le_refl _)⟩) (fun r1 b1 => ?_)
  refine lv_if_eq (tgt := 21) hx hb dX9_pattern_4 (by decide) (fun c1 => ?_) (fun c1 => ?_)
  · refine lv_iconst (v := (-1)) hx hb dX9_pattern_21 (by decide +kernel) ?_
    subst hAe
    exact W.iret (v := (-1)) hx hb hr (fun t ht _ => ⟨⟨(-1), ws, rfl, ⟨_, _, _, Or.inl ⟨fun q => b1.f c1 q.1, rfl, rfl, rfl, rfl⟩, hms⟩, by rw [ht]; exact hP, hD⟩, hS.F ht⟩) hS.2.2 dX9_pattern_22
  · refine lv_iload_n hx hb dX9_pattern_7 rfl (lv_at hl 2 rfl) ?_
    refine hc_si (va_runS (As := [.int y]) (rest := []) ⟨hx, hb, hml, hown, hts⟩ (c_X9_isItem l y) (va_cwS 1 hts (hGS hmc k_647 k_648 k_29 k_649) rfl rfl rfl (by decide +kernel) ⟨Nat.le_of_ble_eq_true rfl, Nat.le_of_ble_eq_true rfl⟩) hpre0 rfl rfl hl.1 rfl (lv_room (Nat.le_of_ble_eq_true rfl)) dX9_pattern_8 ⟨(Nat.le_refl _), (Nat.le_refl _)⟩) (fun r2 b2 => ?_)
    refine lv_if_eq (tgt := 21) hx hb dX9_pattern_11 (by decide) (fun c2 => ?_) (fun c2 => ?_)
    · refine lv_iconst (v := (-1)) hx hb dX9_pattern_21 (by decide +kernel) ?_
      subst hAe
      exact W.iret (v := (-1)) hx hb hr (fun t ht _ => ⟨⟨(-1), ws, rfl, ⟨_, _, _, Or.inl ⟨fun q => b2.f c2 q.2.1, rfl, rfl, rfl, rfl⟩, hms⟩, by rw [ht]; exact hP, hD⟩, hS.F ht⟩) hS.2.2 dX9_pattern_22
    · refine lv_iload_n hx hb dX9_pattern_14 rfl (lv_at hl 3 rfl) ?_
      refine hc_si (va_runS (As := [.int z]) (rest := []) ⟨hx, hb, hml, hown, hts⟩ (c_X9_isItem l z) (va_cwS 1 hts (hGS hmc k_647 k_648 k_29 k_649) rfl rfl rfl (by decide +kernel) ⟨Nat.le_of_ble_eq_true rfl, Nat.le_of_ble_eq_true rfl⟩) hpre0 rfl rfl hl.1 rfl (lv_room (Nat.le_of_ble_eq_true rfl)) dX9_pattern_15 ⟨(Nat.le_refl _), (Nat.le_refl _)⟩) (fun r3 b3 => ?_)
      refine lv_if_ne (tgt := 23) hx hb dX9_pattern_18 (by decide) (fun c3 => ?_) (fun c3 => ?_)
      · have hall := And.intro (b1.t c1) (And.intro (b2.t c2) (b3.t c3))
        obtain ⟨x0, hx0, rfl⟩ := hOk_of (b1.t c1)
        obtain ⟨x1, hx1, rfl⟩ := hOk_of (b2.t c2)
        obtain ⟨x2, hx2, rfl⟩ := hOk_of (b3.t c3)
        refine lv_aload_n hx hb dX9_pattern_23 rfl (lv_at hl 0 rfl) ?_
        refine va_get (v := .int (nI np)) (C := RX9) (T := TX9) (N := 18) hx hb hts (hin_X9 hmc) hown E.1.1 hP 0 g0 rfl 3 (by decide) (hts _ (hmc _ k_572)) (fun _ h9 => h9) rfl dX9_pattern_24 ?_
        refine lv_bipush (v := nI 6) hx hb dX9_pattern_27 (by decide +kernel) ?_
        refine lv_icmp_ne (tgt := 35) hx hb dX9_pattern_29 (by decide) (fun c5 => ?_) (fun c5 => ?_)
        · have h66 : np < 6 := by
            rcases Nat.lt_or_ge np 6 with z | z
            · exact z
            · have e : np = 6 := by omega
              rw [e] at c5
              first | exact absurd rfl c5 | exact absurd c5 (fun q => q rfl)
          refine lv_aload_n hx hb dX9_pattern_35 rfl (lv_at hl 0 rfl) ?_
          refine va_get (v := .ref (ad 2)) (C := RX9) (T := TX9) (N := 18) hx hb hts (hin_X9 hmc) hown E.1.1 hP 0 g0 rfl 2 (by decide) (hts _ (hmc _ k_571)) (fun _ h9 => h9) rfl dX9_pattern_36 ?_
          refine lv_iconst (v := nI 3) hx hb dX9_pattern_39 (by decide +kernel) ?_
          refine lv_aload_n hx hb dX9_pattern_40 rfl (lv_at hl 0 rfl) ?_
          refine va_get (v := .int (nI np)) (C := RX9) (T := TX9) (N := 18) hx hb hts (hin_X9 hmc) hown E.1.1 hP 0 g0 rfl 3 (by decide) (hts _ (hmc _ k_572)) (fun _ h9 => h9) rfl dX9_pattern_41 ?_
          refine lv_imul hx hb dX9_pattern_44 ?_
          refine htopi (v := nI (3 * np)) (pk_mul _ _) ?_
          refine lv_iload_n hx hb dX9_pattern_45 rfl (lv_at hl 1 rfl) ?_
          refine va_iast hx hb E.1.1 hP hD hS 2 0 g2 rfl (vp_in_nI (by omega) (by omega)) dX9_pattern_46 (fun H locs hP hD hS => ?_)
          rw [nI_clamp (show (3 * np) < 2 ^ 31 by omega)] at hP hD
          obtain ⟨ws4, ews4⟩ : ∃ zw : va_W, zw = List.set ws 2 ((ad 2), .inl (K 0, 18, .inl (upd (f 2) (3 * np) (hit x0)))) := ⟨_, rfl⟩
          have hP : va_P D vwCl ws4 H := by rw [ews4]; exact hP
          have hD : va_D A ws4 := by rw [ews4]; exact hD
          have g0 := (show ws4[0]? = _ from (by rw [ews4]; exact hset_ne (by omega))).trans g0
          have g2 : ws4[2]? = some ((ad 2), .inl (K 0, 18, .inl (upd (f 2) (3 * np) (hit x0)))) := by rw [ews4]; exact hset_eq g2
          have hrx : hRX K ad ws4 (hup f 2 (upd (f 2) (3 * np) (hit x0))) cnt np o.length lz kp fd := by rw [ews4]; exact hrx.arr 2 (by decide) (by decide) _
          refine lv_aload_n hx hb dX9_pattern_47 rfl (lv_at hl 0 rfl) ?_
          refine va_get (v := .ref (ad 2)) (C := RX9) (T := TX9) (N := 18) hx hb hts (hin_X9 hmc) hown E.1.1 hP 0 g0 rfl 2 (by decide) (hts _ (hmc _ k_571)) (fun _ h9 => h9) rfl dX9_pattern_48 ?_
          refine lv_iconst (v := nI 3) hx hb dX9_pattern_51 (by decide +kernel) ?_
          refine lv_aload_n hx hb dX9_pattern_52 rfl (lv_at hl 0 rfl) ?_
          refine va_get (v := .int (nI np)) (C := RX9) (T := TX9) (N := 18) hx hb hts (hin_X9 hmc) hown E.1.1 hP 0 g0 rfl 3 (by decide) (hts _ (hmc _ k_572)) (fun _ h9 => h9) rfl dX9_pattern_53 ?_
          refine lv_imul hx hb dX9_pattern_56 ?_
          refine htopi (v := nI (3 * np)) (pk_mul _ _) ?_
          refine lv_iconst (v := nI 1) hx hb dX9_pattern_57 (by decide +kernel) ?_
          refine lv_iadd hx hb dX9_pattern_58 ?_
          refine htopi (v := nI ((3 * np) + 1)) (nI_add _ _) ?_
          refine lv_iload_n hx hb dX9_pattern_59 rfl (lv_at hl 2 rfl) ?_
          refine va_iast hx hb E.1.1 hP hD hS 2 0 g2 rfl (vp_in_nI (by omega) (by omega)) dX9_pattern_60 (fun H locs hP hD hS => ?_)
          rw [nI_clamp (show ((3 * np) + 1) < 2 ^ 31 by omega)] at hP hD
          obtain ⟨ws5, ews5⟩ : ∃ zw : va_W, zw = List.set ws4 2 ((ad 2), .inl (K 0, 18, .inl (upd (upd (f 2) (3 * np) (hit x0)) ((3 * np) + 1) (hit x1)))) := ⟨_, rfl⟩
          have hP : va_P D vwCl ws5 H := by rw [ews5]; exact hP
          have hD : va_D A ws5 := by rw [ews5]; exact hD
          have g0 := (show ws5[0]? = _ from (by rw [ews5]; exact hset_ne (by omega))).trans g0
          have g2 : ws5[2]? = some ((ad 2), .inl (K 0, 18, .inl (upd (upd (f 2) (3 * np) (hit x0)) ((3 * np) + 1) (hit x1)))) := by rw [ews5]; exact hset_eq g2
          have hrx : hRX K ad ws5 (hup (hup f 2 (upd (f 2) (3 * np) (hit x0))) 2 (upd (upd (f 2) (3 * np) (hit x0)) ((3 * np) + 1) (hit x1))) cnt np o.length lz kp fd := by rw [ews5]; exact hrx.arr 2 (by decide) (by decide) _
          refine lv_aload_n hx hb dX9_pattern_61 rfl (lv_at hl 0 rfl) ?_
          refine va_get (v := .ref (ad 2)) (C := RX9) (T := TX9) (N := 18) hx hb hts (hin_X9 hmc) hown E.1.1 hP 0 g0 rfl 2 (by decide) (hts _ (hmc _ k_571)) (fun _ h9 => h9) rfl dX9_pattern_62 ?_
          refine lv_iconst (v := nI 3) hx hb dX9_pattern_65 (by decide +kernel) ?_
          refine lv_aload_n hx hb dX9_pattern_66 rfl (lv_at hl 0 rfl) ?_
          refine va_get (v := .int (nI np)) (C := RX9) (T := TX9) (N := 18) hx hb hts (hin_X9 hmc) hown E.1.1 hP 0 g0 rfl 3 (by decide) (hts _ (hmc _ k_572)) (fun _ h9 => h9) rfl dX9_pattern_67 ?_
          refine lv_imul hx hb dX9_pattern_70 ?_
          refine htopi (v := nI (3 * np)) (pk_mul _ _) ?_
          refine lv_iconst (v := nI 2) hx hb dX9_pattern_71 (by decide +kernel) ?_
          refine lv_iadd hx hb dX9_pattern_72 ?_
          refine htopi (v := nI ((3 * np) + 2)) (nI_add _ _) ?_
          refine lv_iload_n hx hb dX9_pattern_73 rfl (lv_at hl 3 rfl) ?_
          refine va_iast hx hb E.1.1 hP hD hS 2 0 g2 rfl (vp_in_nI (by omega) (by omega)) dX9_pattern_74 (fun H locs hP hD hS => ?_)
          rw [nI_clamp (show ((3 * np) + 2) < 2 ^ 31 by omega)] at hP hD
          obtain ⟨ws6, ews6⟩ : ∃ zw : va_W, zw = List.set ws5 2 ((ad 2), .inl (K 0, 18, .inl (upd (upd (upd (f 2) (3 * np) (hit x0)) ((3 * np) + 1) (hit x1)) ((3 * np) + 2) (hit x2)))) := ⟨_, rfl⟩
          have hP : va_P D vwCl ws6 H := by rw [ews6]; exact hP
          have hD : va_D A ws6 := by rw [ews6]; exact hD
          have g0 := (show ws6[0]? = _ from (by rw [ews6]; exact hset_ne (by omega))).trans g0
          have g2 : ws6[2]? = some ((ad 2), .inl (K 0, 18, .inl (upd (upd (upd (f 2) (3 * np) (hit x0)) ((3 * np) + 1) (hit x1)) ((3 * np) + 2) (hit x2)))) := by rw [ews6]; exact hset_eq g2
          have hrx : hRX K ad ws6 (hup (hup (hup f 2 (upd (f 2) (3 * np) (hit x0))) 2 (upd (upd (f 2) (3 * np) (hit x0)) ((3 * np) + 1) (hit x1))) 2 (upd (upd (upd (f 2) (3 * np) (hit x0)) ((3 * np) + 1) (hit x1)) ((3 * np) + 2) (hit x2))) cnt np o.length lz kp fd := by rw [ews6]; exact hrx.arr 2 (by decide) (by decide) _
          refine lv_aload_n hx hb dX9_pattern_75 rfl (lv_at hl 0 rfl) ?_
          refine lv_dup hx hb dX9_pattern_76 rfl ?_
          refine va_get (v := .int (nI np)) (C := RX9) (T := TX9) (N := 18) hx hb hts (hin_X9 hmc) hown E.1.1 hP 0 g0 rfl 3 (by decide) (hts _ (hmc _ k_572)) (fun _ h9 => h9) rfl dX9_pattern_77 ?_
          refine lv_iconst (v := nI 1) hx hb dX9_pattern_80 (by decide +kernel) ?_
          refine lv_iadd hx hb dX9_pattern_81 ?_
          refine htopi (v := nI (np + 1)) (nI_add _ _) ?_
          refine va_put (v := .int (nI (np + 1))) (ty := .int) (C := RX9) (T := TX9) (N := 18) hx hb hts (hin_X9 hmc) tyX9 tyX9_ok nmX9 hown E.1.1 hP hD hS 0 g0 rfl 3 (by decide) (hts _ (hmc _ k_572)) (fun _ h9 => h9) rfl (by decide +kernel) rfl rfl (Nat.le_of_ble_eq_true rfl) dX9_pattern_82 (fun H locs hP hD hS => ?_)
          obtain ⟨ws7, ews7⟩ : ∃ zw : va_W, zw = List.set ws6 0 ((ad 0), .inr (iM, [.ref (ad 1), .int (nI cnt), .ref (ad 2), .int (nI (np + 1)), .ref (ad 3), .int (nI o.length), .ref (ad 4), .ref (ad 5), .ref (ad 6), .long lz, .ref (ad 7), .ref (ad 8), .ref (ad 9), .ref (ad 10), .int (nI kp), .int fd, .ref (ad 11), .ref (ad 12)])) := ⟨_, rfl⟩
          have hP : va_P D vwCl ws7 H := by rw [ews7]; exact hP
          have hD : va_D A ws7 := by rw [ews7]; exact hD
          have g0 : ws7[0]? = some ((ad 0), .inr (iM, [.ref (ad 1), .int (nI cnt), .ref (ad 2), .int (nI (np + 1)), .ref (ad 3), .int (nI o.length), .ref (ad 4), .ref (ad 5), .ref (ad 6), .long lz, .ref (ad 7), .ref (ad 8), .ref (ad 9), .ref (ad 10), .int (nI kp), .int fd, .ref (ad 11), .ref (ad 12)])) := by rw [ews7]; exact hset_eq g0
          have g2 := (show ws7[2]? = _ from (by rw [ews7]; exact hset_ne (by omega))).trans g2
          have hrx : hRX K ad ws7 (hup (hup (hup f 2 (upd (f 2) (3 * np) (hit x0))) 2 (upd (upd (f 2) (3 * np) (hit x0)) ((3 * np) + 1) (hit x1))) 2 (upd (upd (upd (f 2) (3 * np) (hit x0)) ((3 * np) + 1) (hit x1)) ((3 * np) + 2) (hit x2))) cnt (np + 1) o.length lz kp fd := by rw [ews7]; exact hrx.obj
          refine lv_aload_n hx hb dX9_pattern_85 rfl (lv_at hl 0 rfl) ?_
          refine lv_iconst (v := nI 0) hx hb dX9_pattern_86 (by decide +kernel) ?_
          refine va_put (v := .int (nI 0)) (ty := .int) (C := RX9) (T := TX9) (N := 18) hx hb hts (hin_X9 hmc) tyX9 tyX9_ok nmX9 hown E.1.1 hP hD hS 0 g0 rfl 5 (by decide) (hts _ (hmc _ k_574)) (fun _ h9 => h9) rfl (by decide +kernel) rfl rfl (Nat.le_of_ble_eq_true rfl) dX9_pattern_87 (fun H locs hP hD hS => ?_)
          obtain ⟨ws8, ews8⟩ : ∃ zw : va_W, zw = List.set ws7 0 ((ad 0), .inr (iM, [.ref (ad 1), .int (nI cnt), .ref (ad 2), .int (nI (np + 1)), .ref (ad 3), .int (nI 0), .ref (ad 4), .ref (ad 5), .ref (ad 6), .long lz, .ref (ad 7), .ref (ad 8), .ref (ad 9), .ref (ad 10), .int (nI kp), .int fd, .ref (ad 11), .ref (ad 12)])) := ⟨_, rfl⟩
          have hP : va_P D vwCl ws8 H := by rw [ews8]; exact hP
          have hD : va_D A ws8 := by rw [ews8]; exact hD
          have g0 : ws8[0]? = some ((ad 0), .inr (iM, [.ref (ad 1), .int (nI cnt), .ref (ad 2), .int (nI (np + 1)), .ref (ad 3), .int (nI 0), .ref (ad 4), .ref (ad 5), .ref (ad 6), .long lz, .ref (ad 7), .ref (ad 8), .ref (ad 9), .ref (ad 10), .int (nI kp), .int fd, .ref (ad 11), .ref (ad 12)])) := by rw [ews8]; exact hset_eq g0
          have g2 := (show ws8[2]? = _ from (by rw [ews8]; exact hset_ne (by omega))).trans g2
          have hrx : hRX K ad ws8 (hup (hup (hup f 2 (upd (f 2) (3 * np) (hit x0))) 2 (upd (upd (f 2) (3 * np) (hit x0)) ((3 * np) + 1) (hit x1))) 2 (upd (upd (upd (f 2) (3 * np) (hit x0)) ((3 * np) + 1) (hit x1)) ((3 * np) + 2) (hit x2))) cnt (np + 1) 0 lz kp fd := by rw [ews8]; exact hrx.obj
          refine lv_aload_n hx hb dX9_pattern_90 rfl (lv_at hl 0 rfl) ?_
          refine lv_bipush (v := (-2)) hx hb dX9_pattern_91 (by decide +kernel) ?_
          refine va_put (v := .int (-2)) (ty := .int) (C := RX9) (T := TX9) (N := 18) hx hb hts (hin_X9 hmc) tyX9 tyX9_ok nmX9 hown E.1.1 hP hD hS 0 g0 rfl 15 (by decide) (hts _ (hmc _ k_584)) (fun _ h9 => h9) rfl (by decide +kernel) rfl rfl (Nat.le_of_ble_eq_true rfl) dX9_pattern_93 (fun H locs hP hD hS => ?_)
          obtain ⟨ws9, ews9⟩ : ∃ zw : va_W, zw = List.set ws8 0 ((ad 0), .inr (iM, [.ref (ad 1), .int (nI cnt), .ref (ad 2), .int (nI (np + 1)), .ref (ad 3), .int (nI 0), .ref (ad 4), .ref (ad 5), .ref (ad 6), .long lz, .ref (ad 7), .ref (ad 8), .ref (ad 9), .ref (ad 10), .int (nI kp), .int (-2), .ref (ad 11), .ref (ad 12)])) := ⟨_, rfl⟩
          have hP : va_P D vwCl ws9 H := by rw [ews9]; exact hP
          have hD : va_D A ws9 := by rw [ews9]; exact hD
          have g0 : ws9[0]? = some ((ad 0), .inr (iM, [.ref (ad 1), .int (nI cnt), .ref (ad 2), .int (nI (np + 1)), .ref (ad 3), .int (nI 0), .ref (ad 4), .ref (ad 5), .ref (ad 6), .long lz, .ref (ad 7), .ref (ad 8), .ref (ad 9), .ref (ad 10), .int (nI kp), .int (-2), .ref (ad 11), .ref (ad 12)])) := by rw [ews9]; exact hset_eq g0
          have g2 := (show ws9[2]? = _ from (by rw [ews9]; exact hset_ne (by omega))).trans g2
          have hrx : hRX K ad ws9 (hup (hup (hup f 2 (upd (f 2) (3 * np) (hit x0))) 2 (upd (upd (f 2) (3 * np) (hit x0)) ((3 * np) + 1) (hit x1))) 2 (upd (upd (upd (f 2) (3 * np) (hit x0)) ((3 * np) + 1) (hit x1)) ((3 * np) + 2) (hit x2))) cnt (np + 1) 0 lz kp (-2) := by rw [ews9]; exact hrx.obj
          refine lv_aload_n hx hb dX9_pattern_96 rfl (lv_at hl 0 rfl) ?_
          refine va_get (v := .int (nI (np + 1))) (C := RX9) (T := TX9) (N := 18) hx hb hts (hin_X9 hmc) hown E.1.1 hP 0 g0 rfl 3 (by decide) (hts _ (hmc _ k_572)) (fun _ h9 => h9) rfl dX9_pattern_97 ?_
          refine lv_iconst (v := nI 1) hx hb dX9_pattern_100 (by decide +kernel) ?_
          refine lv_isub hx hb dX9_pattern_101 ?_
          refine htopi (v := nI np) ((pk_sub (by omega)).trans (congrArg nI (Nat.add_sub_cancel _ _))) ?_
          subst hAe
          exact W.iret (v := nI np) hx hb hr (fun t ht _ => ⟨⟨nI np, ws9, rfl, ⟨_, _, _, Or.inr (Or.inr ⟨x0, x1, x2, hx0, hx1, hx2, rfl, rfl, rfl, h66, rfl, rfl, rfl, rfl⟩), ⟨_, _, _, _, hrx, ⟨hct, h66, List.nodup_nil, fun _ h => absurd h List.not_mem_nil, hT, hIt.add hx0 hx1 hx2, fun _ h => absurd h (Nat.not_lt_zero _), ⟨Or.inl rfl, hF.2⟩⟩⟩⟩, by rw [ht]; exact hP, hD⟩, hS.F ht⟩) hS.2.2 dX9_pattern_102
        · have h66 : 6 ≤ np := by
            have e : nI np = nI 6 := by first | exact c5 | exact Classical.not_not.mp c5
            have := (nI_eq (by omega) (by omega)).mp e
            omega
          refine lv_bipush (v := (-3)) hx hb dX9_pattern_32 (by decide +kernel) ?_
          subst hAe
          exact W.iret (v := (-3)) hx hb hr (fun t ht _ => ⟨⟨(-3), ws, rfl, ⟨_, _, _, Or.inr (Or.inl ⟨hall, h66, rfl, rfl, rfl, rfl⟩), hms⟩, by rw [ht]; exact hP, hD⟩, hS.F ht⟩) hS.2.2 dX9_pattern_34
      · refine lv_iconst (v := (-1)) hx hb dX9_pattern_21 (by decide +kernel) ?_
        subst hAe
        exact W.iret (v := (-1)) hx hb hr (fun t ht _ => ⟨⟨(-1), ws, rfl, ⟨_, _, _, Or.inl ⟨fun q => b3.f c3 q.2.2, rfl, rfl, rfl, rfl⟩, hms⟩, by rw [ht]; exact hP, hD⟩, hS.F ht⟩) hS.2.2 dX9_pattern_22

set_option maxHeartbeats 4000000 in
set_option maxRecDepth 100000 in
/-- the reference: isPattern -/
theorem c_X9_isPattern (l : Launch) (D : va_G) (K : Nat → ClassId) (tv : Nat) (ws : va_W) (ad : Nat → Nat) (f : Nat → Nat → Int32) (ct pt md : Nat) (lz : Int64) (kp : Nat) (fd : Int32) (hrx : hRX K ad ws f ct pt md lz kp fd) (hp6 : pt ≤ 6) (x : Int32) : hI l D (hTy K) tv yX9_isPattern cX9_isPattern 2 (some .boolean) ({ frames := 0, cells := 0, slots := 0, locals := 0 }) [.ref (ad 0), .int x] ws (fun r ws1 => ws = ws1 ∧ hBool r (∃ i, i < pt ∧ x = nI i)) := by
  intro sz
  refine Met.ofW (cc := cX9_isPattern) (maxL := 2) (ret := (some .boolean)) (by decide) rfl ?_
  intro p e s m args below meth c s₁ B hml hv0
  obtain ⟨rfl, rfl, E, hP, hD⟩ := hentry hv0
  have hx := B.exec
  have hb := B.bytes
  have hr := B.returns
  have hts := atoms_spec (ws := hC yX9_isPattern cX9_isPattern 2 (some .boolean)) B.pre
  have hown : s.vm.findClass RX9 = some m.cls := findClass_of_methodNamed B.named
  have hlocks := B.notSynchronized
  generalize hAe : va_A ws s.heap.size = A at hD E ⊢
  have hl := lv_entry ([.ref (ad 0), .int x]) (n := 2) (Nat.le_of_ble_eq_true rfl)
  rw [lg_entry_eq]
  generalize (lg_sl ([.ref (ad 0), .int x]) ++ List.replicate (2 - (lg_sl ([.ref (ad 0), .int x])).length) Slot.unset).toArray = ls at hl ⊢
  have hl : lv_has ls 2 [(0, .ref (ad 0)), (1, .int x)] := hl
  refine hat0 (fun H hHe => ?_)
  have hP : va_P D vwCl ws H := by rw [hHe]; exact hP
  have hS : va_S A s.heap H [] := by rw [hHe]; exact va_S.rf
  have g0 := hrx.1
  refine lv_iload_n hx hb dX9_isPattern_0 rfl (lv_at hl 1 rfl) ?_
  refine lv_if_lt (tgt := 16) hx hb dX9_isPattern_1 (by decide) (fun c1 => ?_) (fun c1 => ?_)
  · refine lv_iconst (v := nI 0) hx hb dX9_isPattern_16 (by decide +kernel) ?_
    subst hAe
    exact W.zret (v := nI 0) hx hb hr (by decide +kernel) (fun t ht _ => ⟨⟨nI 0, ws, rfl, ⟨rfl, hBool.no (fun z => by obtain ⟨i, hi, rfl⟩ := z; exact nI_pos (by omega) c1)⟩, by rw [ht]; exact hP, hD⟩, hS.F ht⟩) hS.2.2 dX9_isPattern_17
  · obtain ⟨i, hi31, rfl⟩ := nI_of c1
    refine lv_iload_n hx hb dX9_isPattern_4 rfl (lv_at hl 1 rfl) ?_
    refine lv_aload_n hx hb dX9_isPattern_5 rfl (lv_at hl 0 rfl) ?_
    refine va_get (v := .int (nI pt)) (C := RX9) (T := TX9) (N := 18) hx hb hts (hin_X9 hmc) hown E.1.1 hP 0 g0 rfl 3 (by decide) (hts _ (hmc _ k_572)) (fun _ h9 => h9) rfl dX9_isPattern_6 ?_
    refine lv_icmp_ge (tgt := 16) hx hb dX9_isPattern_9 (by decide) (fun c2 => ?_) (fun c2 => ?_)
    · refine lv_iconst (v := nI 0) hx hb dX9_isPattern_16 (by decide +kernel) ?_
      subst hAe
      exact W.zret (v := nI 0) hx hb hr (by decide +kernel) (fun t ht _ => ⟨⟨nI 0, ws, rfl, ⟨rfl, hBool.no (fun z => by obtain ⟨j, hj, e⟩ := z; have := (nI_eq hi31 (by omega)).mp e; have := (nI_leI (by omega) hi31).mp c2; omega)⟩, by rw [ht]; exact hP, hD⟩, hS.F ht⟩) hS.2.2 dX9_isPattern_17
    · refine lv_iconst (v := nI 1) hx hb dX9_isPattern_12 (by decide +kernel) ?_
      refine lv_goto (tgt := 17) hx hb dX9_isPattern_13 (by decide) ?_
      subst hAe
      exact W.zret (v := nI 1) hx hb hr (by decide +kernel) (fun t ht _ => ⟨⟨nI 1, ws, rfl, ⟨rfl, hBool.yes ⟨i, Nat.not_le.mp (fun z => c2 (nI_le z hi31)), rfl⟩⟩, by rw [ht]; exact hP, hD⟩, hS.F ht⟩) hS.2.2 dX9_isPattern_17

set_option maxHeartbeats 4000000 in
set_option maxRecDepth 100000 in
/-- the reference: use -/
theorem c_X9_use (l : Launch) (D : va_G) (K : Nat → ClassId) (tv : Nat) (ws : va_W) (ad : Nat → Nat) (S : Nat → Nat → Nat → Prop) (cnt np : Nat) (o : List Nat) (I : Nat → Nat → Nat) (hms : hMS K ad ws S cnt np o I) (x : Int32) : hI l D (hTy K) tv yX9_use cX9_use 3 (some .int) ({ frames := 1, cells := 0, slots := 0, locals := 60 }) [.ref (ad 0), .int x] ws (fun r ws1 => ∃ o1, hUseP np o x r o1 ∧ hMS K ad ws1 S cnt np o1 I) := by
  intro sz
  refine Met.ofW (cc := cX9_use) (maxL := 3) (ret := (some .int)) (by decide) rfl ?_
  intro p e s m args below meth c s₁ B hml hv0
  obtain ⟨rfl, rfl, E, hP, hD⟩ := hentry hv0
  have hx := B.exec
  have hb := B.bytes
  have hr := B.returns
  have hts := atoms_spec (ws := hC yX9_use cX9_use 3 (some .int)) B.pre
  have hown : s.vm.findClass RX9 = some m.cls := findClass_of_methodNamed B.named
  have hlocks := B.notSynchronized
  generalize hAe : va_A ws s.heap.size = A at hD E ⊢
  have hl := lv_entry ([.ref (ad 0), .int x]) (n := 3) (Nat.le_of_ble_eq_true rfl)
  rw [lg_entry_eq]
  generalize (lg_sl ([.ref (ad 0), .int x]) ++ List.replicate (3 - (lg_sl ([.ref (ad 0), .int x])).length) Slot.unset).toArray = ls at hl ⊢
  have hl : lv_has ls 3 [(0, .ref (ad 0)), (1, .int x)] := hl
  refine hat0 (fun H hHe => ?_)
  have hP : va_P D vwCl ws H := by rw [hHe]; exact hP
  have hS : va_S A s.heap H [] := by rw [hHe]; exact va_S.rf
  obtain ⟨f, lz, kp, fd, hrx, hrb⟩ := id hms
  obtain ⟨hct, hnp, hnd, hon, hT, hIt, hO, hF⟩ := id hrb
  have g0 := hrx.1
  have g3 : ws[3]? = some (ad 3, .inl (K 0, 6, .inl (f 3))) := hrx.2 3 (by decide) (by decide)
  have hol : o.length ≤ np := hpig np o hnd hon
  refine lv_aload_n hx hb dX9_use_0 rfl (lv_at hl 0 rfl) ?_
  refine lv_iload_n hx hb dX9_use_1 rfl (lv_at hl 1 rfl) ?_
  refine hc_i E hD hS (va_runV (As := [.int x]) (rest := []) ⟨hx, hb, hml, hown, hts⟩ ((c_X9_isPattern l D K tv ws ad f cnt np o.length lz kp fd hrx hnp x) H.size) (cwV 1 hts (hGV hmc k_658 k_660 k_5 k_29 k_661) rfl rfl rfl (by decide +kernel) ⟨Nat.le_of_ble_eq_true rfl, Nat.le_of_ble_eq_true rfl⟩) (hpreV E hP hD hS g0 rfl) rfl rfl hl.1 rfl (lv_room (Nat.le_of_ble_eq_true rfl)) dX9_use_2 ⟨(Nat.le_refl _), (Nat.le_refl _)⟩) (fun r2 ws1 H locs hh hP hD hS => ?_)
  obtain ⟨rfl, hh⟩ := hh
  refine lv_if_ne (tgt := 10) hx hb dX9_use_5 (by decide) (fun c1 => ?_) (fun c1 => ?_)
  · obtain ⟨i, hi, rfl⟩ := hh.t c1
    refine lv_iconst (v := nI 0) hx hb dX9_use_10 (by decide +kernel) ?_
    refine lv_istore_n (lv' := [(2, .int (nI 0)), (0, .ref (ad 0)), (1, .int (nI i))]) hx hb dX9_use_11 rfl hl (by decide) rfl (fun ls hl => ?_)
    refine hloop0 (α := Nat) 12 3 (fun k => [(2, .int (nI k)), (0, .ref (ad 0)), (1, .int (nI i))]) (fun k => k ≤ o.length ∧ ∀ j, j < k → ¬ o.getD j 0 = i) (fun k => o.length - k) ?_ 0 ls ⟨Nat.zero_le _, fun j hj => absurd hj (Nat.not_lt_zero _)⟩ (lv_sub hl [0, 1, 2] rfl)
    rintro k ls ⟨hk, hno⟩ hl ih
    have hl : lv_has ls 3 [(2, .int (nI k)), (0, .ref (ad 0)), (1, .int (nI i))] := hl
    refine lv_iload_n hx hb dX9_use_12 rfl (lv_at hl 0 rfl) ?_
    refine lv_aload_n hx hb dX9_use_13 rfl (lv_at hl 1 rfl) ?_
    refine va_get (v := .int (nI o.length)) (C := RX9) (T := TX9) (N := 18) hx hb hts (hin_X9 hmc) hown E.1.1 hP 0 g0 rfl 5 (by decide) (hts _ (hmc _ k_574)) (fun _ h9 => h9) rfl dX9_use_14 ?_
    refine lv_icmp_ge (tgt := 38) hx hb dX9_use_17 (by decide) (fun c2 => ?_) (fun c2 => ?_)
    · have hkl : k = o.length := by
        rcases Nat.lt_or_ge k o.length with z | z
        · exact absurd c2 (nI_ge z (by omega))
        · omega
      have hio : i ∉ o := fun q => by
        obtain ⟨j, h1, h2⟩ := hmem_get q
        exact hno j (by omega) h2
      have hlt := hpig1 hnd hon hi hio
      refine lv_aload_n hx hb dX9_use_38 rfl (lv_at hl 1 rfl) ?_
      refine va_get (v := .ref (ad 3)) (C := RX9) (T := TX9) (N := 18) hx hb hts (hin_X9 hmc) hown E.1.1 hP 0 g0 rfl 4 (by decide) (hts _ (hmc _ k_573)) (fun _ h9 => h9) rfl dX9_use_39 ?_
      refine lv_aload_n hx hb dX9_use_42 rfl (lv_at hl 1 rfl) ?_
      refine va_get (v := .int (nI o.length)) (C := RX9) (T := TX9) (N := 18) hx hb hts (hin_X9 hmc) hown E.1.1 hP 0 g0 rfl 5 (by decide) (hts _ (hmc _ k_574)) (fun _ h9 => h9) rfl dX9_use_43 ?_
      refine lv_iload_n hx hb dX9_use_46 rfl (lv_at hl 2 rfl) ?_
      refine va_iast hx hb E.1.1 hP hD hS 3 0 g3 rfl (vp_in_nI (by omega) (by omega)) dX9_use_47 (fun H locs hP hD hS => ?_)
      rw [nI_clamp (show o.length < 2 ^ 31 by omega)] at hP hD
      obtain ⟨ws3, ews3⟩ : ∃ zw : va_W, zw = List.set ws 3 ((ad 3), .inl (K 0, 6, .inl (upd (f 3) o.length (nI i)))) := ⟨_, rfl⟩
      have hP : va_P D vwCl ws3 H := by rw [ews3]; exact hP
      have hD : va_D A ws3 := by rw [ews3]; exact hD
      have g0 := (show ws3[0]? = _ from (by rw [ews3]; exact hset_ne (by omega))).trans g0
      have g3 : ws3[3]? = some ((ad 3), .inl (K 0, 6, .inl (upd (f 3) o.length (nI i)))) := by rw [ews3]; exact hset_eq g3
      have hrx : hRX K ad ws3 (hup f 3 (upd (f 3) o.length (nI i))) cnt np o.length lz kp fd := by rw [ews3]; exact hrx.arr 3 (by decide) (by decide) _
      refine lv_aload_n hx hb dX9_use_48 rfl (lv_at hl 1 rfl) ?_
      refine lv_dup hx hb dX9_use_49 rfl ?_
      refine va_get (v := .int (nI o.length)) (C := RX9) (T := TX9) (N := 18) hx hb hts (hin_X9 hmc) hown E.1.1 hP 0 g0 rfl 5 (by decide) (hts _ (hmc _ k_574)) (fun _ h9 => h9) rfl dX9_use_50 ?_
      refine lv_iconst (v := nI 1) hx hb dX9_use_53 (by decide +kernel) ?_
      refine lv_iadd hx hb dX9_use_54 ?_
      refine htopi (v := nI (o.length + 1)) (nI_add _ _) ?_
      refine va_put (v := .int (nI (o.length + 1))) (ty := .int) (C := RX9) (T := TX9) (N := 18) hx hb hts (hin_X9 hmc) tyX9 tyX9_ok nmX9 hown E.1.1 hP hD hS 0 g0 rfl 5 (by decide) (hts _ (hmc _ k_574)) (fun _ h9 => h9) rfl (by decide +kernel) rfl rfl (Nat.le_of_ble_eq_true rfl) dX9_use_55 (fun H locs hP hD hS => ?_)
      obtain ⟨ws4, ews4⟩ : ∃ zw : va_W, zw = List.set ws3 0 ((ad 0), .inr (iM, [.ref (ad 1), .int (nI cnt), .ref (ad 2), .int (nI np), .ref (ad 3), .int (nI (o.length + 1)), .ref (ad 4), .ref (ad 5), .ref (ad 6), .long lz, .ref (ad 7), .ref (ad 8), .ref (ad 9), .ref (ad 10), .int (nI kp), .int fd, .ref (ad 11), .ref (ad 12)])) := ⟨_, rfl⟩
      have hP : va_P D vwCl ws4 H := by rw [ews4]; exact hP
      have hD : va_D A ws4 := by rw [ews4]; exact hD
      have g0 : ws4[0]? = some ((ad 0), .inr (iM, [.ref (ad 1), .int (nI cnt), .ref (ad 2), .int (nI np), .ref (ad 3), .int (nI (o.length + 1)), .ref (ad 4), .ref (ad 5), .ref (ad 6), .long lz, .ref (ad 7), .ref (ad 8), .ref (ad 9), .ref (ad 10), .int (nI kp), .int fd, .ref (ad 11), .ref (ad 12)])) := by rw [ews4]; exact hset_eq g0
      have g3 := (show ws4[3]? = _ from (by rw [ews4]; exact hset_ne (by omega))).trans g3
      have hrx : hRX K ad ws4 (hup f 3 (upd (f 3) o.length (nI i))) cnt np (o.length + 1) lz kp fd := by rw [ews4]; exact hrx.obj
      refine lv_aload_n hx hb dX9_use_58 rfl (lv_at hl 1 rfl) ?_
      refine va_get (v := .int (nI (o.length + 1))) (C := RX9) (T := TX9) (N := 18) hx hb hts (hin_X9 hmc) hown E.1.1 hP 0 g0 rfl 5 (by decide) (hts _ (hmc _ k_574)) (fun _ h9 => h9) rfl dX9_use_59 ?_
      have hln : o.length + 1 = (o ++ [i]).length := by rw [List.length_append]; rfl
      rw [hln] at hrx
      subst hAe
      exact W.iret (v := nI (o.length + 1)) hx hb hr (fun t ht _ => ⟨⟨nI (o.length + 1), ws4, rfl, ⟨_, Or.inr ⟨i, hi, rfl, hio, rfl, rfl⟩, ⟨_, _, _, _, hrx, ⟨hct, hnp, hnd_add hnd hio, hon_add hon hi, hT, hIt, hO_add hO, hF⟩⟩⟩, by rw [ht]; exact hP, hD⟩, hS.F ht⟩) hS.2.2 dX9_use_62
    · have hk2 : k < o.length := Nat.not_le.mp (fun z => c2 (nI_le z (by omega)))
      have hx6 := hon _ (hgetD_mem hk2)
      refine lv_aload_n hx hb dX9_use_20 rfl (lv_at hl 1 rfl) ?_
      refine va_get (v := .ref (ad 3)) (C := RX9) (T := TX9) (N := 18) hx hb hts (hin_X9 hmc) hown E.1.1 hP 0 g0 rfl 4 (by decide) (hts _ (hmc _ k_573)) (fun _ h9 => h9) rfl dX9_use_21 ?_
      refine lv_iload_n hx hb dX9_use_24 rfl (lv_at hl 0 rfl) ?_
      refine va_iald hx hb E.1.1 hP 3 0 g3 rfl (vp_in_nI (by omega) (by omega)) dX9_use_25 ?_
      refine htopi (v := (f 3) k) (by rw [nI_clamp (by omega)]) ?_
      refine htopi (v := nI (o.getD k 0)) (hO k hk2) ?_
      refine lv_iload_n hx hb dX9_use_26 rfl (lv_at hl 2 rfl) ?_
      refine lv_icmp_ne (tgt := 32) hx hb dX9_use_27 (by decide) (fun c3 => ?_) (fun c3 => ?_)
      · refine lv_iinc (v := nI (k + 1)) (lv' := [(2, .int (nI (k + 1))), (0, .ref (ad 0)), (1, .int (nI i))]) hx hb dX9_use_32 hl (k := 0) rfl (nI_1 _) (by decide) rfl (fun ls hl => ?_)
        refine lv_goto (tgt := 12) hx hb dX9_use_35 (by decide) ?_
        exact ih (k + 1) ls ⟨by omega, fun j hj => by
            by_cases z : j = k
            · subst z; exact fun q => c3 (by rw [q])
            · exact hno j (by omega)⟩ (by omega) (lv_sub hl [0, 1, 2] rfl)
      · refine lv_iconst (v := (-1)) hx hb dX9_use_30 (by decide +kernel) ?_
        subst hAe
        exact W.iret (v := (-1)) hx hb hr (fun t ht _ => ⟨⟨(-1), ws, rfl, ⟨_, Or.inl ⟨fun q => by
            obtain ⟨j, h1, h2, h3⟩ := q
            have e := (nI_eq (by omega) (by omega)).mp h2
            subst e
            exact h3 ((nI_eq (by omega) (by omega)).mp c3 ▸ hgetD_mem hk2), rfl, rfl⟩, hms⟩, by rw [ht]; exact hP, hD⟩, hS.F ht⟩) hS.2.2 dX9_use_31
  · refine lv_iconst (v := (-1)) hx hb dX9_use_8 (by decide +kernel) ?_
    subst hAe
    exact W.iret (v := (-1)) hx hb hr (fun t ht _ => ⟨⟨(-1), ws, rfl, ⟨_, Or.inl ⟨fun q => hh.f c1 (by obtain ⟨i, h1, h2, -⟩ := q; exact ⟨i, h1, h2⟩), rfl, rfl⟩, hms⟩, by rw [ht]; exact hP, hD⟩, hS.F ht⟩) hS.2.2 dX9_use_9

/-- triple t has the numbers of pattern p -/
def hHN (f : Nat → Nat → Int32) (t p : Nat) : Prop := ∀ i, i < 3 → f 2 (3 * p + i) < 0 ∨ f 2 (3 * p + i) = f 1 (3 * t + i)

-- THE REFERENCE COUNTS THE SAME
theorem hHN_iff {f : Nat → Nat → Int32} {p ct : Nat} {J ta tb tc : Nat → Nat} (hJt : ∀ i, i < 3 → f 2 (3 * p + i) = hit (J i) ∧ J i < 72) (t1 : ∀ i, i < ct → f 1 (3 * i) = nI (ta i) ∧ f 1 (3 * i + 1) = nI (tb i) ∧ f 1 (3 * i + 2) = nI (tc i) ∧ ta i < 64 ∧ tb i < 64 ∧ tc i < 64) : ∀ t, t < ct → (hHN f t p ↔ hNm J (ta t) (tb t) (tc t)) := fun t ht => by
  obtain ⟨a1, a2, a3, b1, b2, b3⟩ := t1 t ht
  have key : ∀ i n, i < 3 → n < 64 → f 1 (3 * t + i) = nI n → ((f 2 (3 * p + i) < 0 ∨ f 2 (3 * p + i) = f 1 (3 * t + i)) ↔ (J i < 64 → J i = n)) := fun i n hi hn e => by
    obtain ⟨e1, e2⟩ := hJt i hi
    rw [e1, e, hit_lt e2]
    constructor
    · rintro (q | q) z
      · omega
      · rw [hit_n z] at q
        exact (nI_eq (by omega) (by omega)).mp q
    · intro q
      rcases Nat.lt_or_ge (J i) 64 with z | z
      · exact Or.inr (by rw [hit_n z, q z])
      · exact Or.inl z
  constructor
  · exact fun h => ⟨(key 0 _ (by decide) b1 a1).mp (h 0 (by decide)), (key 1 _ (by decide) b2 a2).mp (h 1 (by decide)), (key 2 _ (by decide) b3 a3).mp (h 2 (by decide))⟩
  · rintro ⟨h0, h1, h2⟩ i hi
    rcases (show i = 0 ∨ i = 1 ∨ i = 2 by omega) with rfl | rfl | rfl
    · exact (key 0 _ (by decide) b1 a1).mpr h0
    · exact (key 1 _ (by decide) b2 a2).mpr h1
    · exact (key 2 _ (by decide) b3 a3).mpr h2
theorem hkey_inj {h : Nat → Int32} {ct v : Nat} {ta tb tc : Nat → Nat} (t1 : ∀ i, i < ct → h (3 * i) = nI (ta i) ∧ h (3 * i + 1) = nI (tb i) ∧ h (3 * i + 2) = nI (tc i) ∧ ta i < 64 ∧ tb i < 64 ∧ tc i < 64) (t2 : ∀ i j, i < j → j < ct → ¬ (ta i = ta j ∧ tb i = tb j ∧ tc i = tc j)) (hv : v < 3) : ∀ u t, u < t → t < ct → (fun t => hvc v (ta t) (tb t) (tc t)) u ≠ (fun t => hvc v (ta t) (tb t) (tc t)) t := fun u t hu ht e => by
  obtain ⟨-, -, -, b1, b2, b3⟩ := t1 u (by omega)
  obtain ⟨-, -, -, d1, d2, d3⟩ := t1 t ht
  exact t2 u t hu ht (hvc_inj hv b1 b2 b3 d1 d2 d3 e)
theorem hkey_at {h : Nat → Int32} {ct i : Nat} {ta tb tc : Nat → Nat} (t1 : ∀ i, i < ct → h (3 * i) = nI (ta i) ∧ h (3 * i + 1) = nI (tb i) ∧ h (3 * i + 2) = nI (tc i) ∧ ta i < 64 ∧ tb i < 64 ∧ tc i < 64) (hi : i < 3) : ∀ t, t < ct → h (3 * t + i) = nI ((fun t => hpk i (ta t) (tb t) (tc t)) t) ∧ (fun t => hpk i (ta t) (tb t) (tc t)) t < 64 := fun t ht => by
  obtain ⟨a1, a2, a3, b1, b2, b3⟩ := t1 t ht
  rcases (show i = 0 ∨ i = 1 ∨ i = 2 by omega) with rfl | rfl | rfl
  · exact ⟨a1, b1⟩
  · exact ⟨a2, b2⟩
  · exact ⟨a3, b3⟩
theorem hsm_ref {f : Nat → Nat → Int32} {S : Nat → Nat → Nat → Prop} {p ct : Nat} {J ta tb tc : Nat → Nat} (h9 : ∀ t, t < ct → (hHN f t p ↔ hNm J (ta t) (tb t) (tc t))) (t1 : ∀ i, i < ct → f 1 (3 * i) = nI (ta i) ∧ f 1 (3 * i + 1) = nI (tb i) ∧ f 1 (3 * i + 2) = nI (tc i) ∧ ta i < 64 ∧ tb i < 64 ∧ tc i < 64) (t3 : ∀ a b c, S a b c ↔ ∃ i, i < ct ∧ ta i = a ∧ tb i = b ∧ tc i = c) (k : Nat → Nat → Nat → Nat) (x : Nat) : (∃ t, t < ct ∧ hHN f t p ∧ k (ta t) (tb t) (tc t) = x) ↔ ∃ a b c, hSm S J a b c ∧ x = k a b c := by
  constructor
  · rintro ⟨t, ht, h1, h2⟩
    obtain ⟨-, -, -, b1, b2, b3⟩ := t1 t ht
    exact ⟨ta t, tb t, tc t, ⟨b1, b2, b3, (t3 _ _ _).mpr ⟨t, ht, rfl, rfl, rfl⟩, (h9 t ht).mp h1⟩, h2.symm⟩
  · rintro ⟨a, b, c, ⟨-, -, -, h4, h5⟩, h6⟩
    obtain ⟨t, ht, rfl, rfl, rfl⟩ := (t3 _ _ _).mp h4
    exact ⟨t, ht, (h9 t ht).mpr h5, h6.symm⟩
theorem hNN_ref {f : Nat → Nat → Int32} {S : Nat → Nat → Nat → Prop} {p ct : Nat} {J ta tb tc : Nat → Nat} (h9 : ∀ t, t < ct → (hHN f t p ↔ hNm J (ta t) (tb t) (tc t))) (t1 : ∀ i, i < ct → f 1 (3 * i) = nI (ta i) ∧ f 1 (3 * i + 1) = nI (tb i) ∧ f 1 (3 * i + 2) = nI (tc i) ∧ ta i < 64 ∧ tb i < 64 ∧ tc i < 64) (t3 : ∀ a b c, S a b c ↔ ∃ i, i < ct ∧ ta i = a ∧ tb i = b ∧ tc i = c) : hmy (fun t => hHN f t p) (fun t => hvc (hview (hfx J (nI 0) 3)) (ta t) (tb t) (tc t)) ct = hNN S J := by
  rw [hmy_cd (N := 262144) ct (fun t ht => ?_)]
  · exact hcd_ext _ (fun x _ => hsm_ref h9 t1 t3 (fun a b c => hvc (hview (hfx J (nI 0) 3)) a b c) x)
  · obtain ⟨-, -, -, b1, b2, b3⟩ := t1 t ht
    exact hvc_lt (hview_lt _ (hfx_lt _ _ 3 (Nat.le_refl _))) b1 b2 b3
theorem hNd_ref {f : Nat → Nat → Int32} {S : Nat → Nat → Nat → Prop} {p ct q : Nat} {J ta tb tc : Nat → Nat} (h9 : ∀ t, t < ct → (hHN f t p ↔ hNm J (ta t) (tb t) (tc t))) (t1 : ∀ i, i < ct → f 1 (3 * i) = nI (ta i) ∧ f 1 (3 * i + 1) = nI (tb i) ∧ f 1 (3 * i + 2) = nI (tc i) ∧ ta i < 64 ∧ tb i < 64 ∧ tc i < 64) (t3 : ∀ a b c, S a b c ↔ ∃ i, i < ct ∧ ta i = a ∧ tb i = b ∧ tc i = c) : hmy (fun t => hHN f t p) (fun t => hpk q (ta t) (tb t) (tc t)) ct = hNd S J q := by
  rw [hmy_cd (N := 64) ct (fun t ht => ?_)]
  · exact hcd_ext _ (fun x _ => hsm_ref h9 t1 t3 (hpk q) x)
  · obtain ⟨-, -, -, b1, b2, b3⟩ := t1 t ht
    exact hpk_lt b1 b2 b3
theorem hNN_le {f : Nat → Nat → Int32} {S : Nat → Nat → Nat → Prop} {p ct : Nat} {J : Nat → Nat} (hT : hRT (f 1) S ct) (hJt : ∀ i, i < 3 → f 2 (3 * p + i) = hit (J i) ∧ J i < 72) (hct : ct ≤ 640) : hNN S J ≤ 640 := by
  obtain ⟨ta, tb, tc, t1, t2, t3⟩ := hT
  rw [← hNN_ref (hHN_iff hJt t1) t1 t3]
  exact Nat.le_trans (hmy_le _ _ _) hct
theorem hdv_pos {J dd : Nat → Nat} {y : Int32} (h : ∀ p, 1 ≤ dd p) : ∀ i, 1 ≤ hdv J dd y i
  | 0 => Nat.le_refl _
  | p + 1 => by
    show 1 ≤ (if hkn y (J p) then hdv J dd y p * dd p else hdv J dd y p)
    split
    · exact Nat.mul_le_mul (hdv_pos h p) (h p)
    · exact hdv_pos h p
theorem hes_ceil {J dd : Nat → Nat} {n : Nat} {y : Int32} (h : 1 ≤ hdv J dd y 3) : hes J dd n y = n / hdv J dd y 3 + (if 0 < n % hdv J dd y 3 then 1 else 0) := by
  unfold hes
  generalize hdv J dd y 3 = d at h
  have e := Nat.div_add_mod n d
  have hm := Nat.mod_lt n (show 0 < d by omega)
  by_cases z : n < 1
  · have : n = 0 := by omega
    subst this
    rw [if_pos (Or.inl (by decide)), Nat.zero_div, Nat.zero_mod, if_neg (by decide)]
  · rw [if_neg (by omega)]
    generalize hq : n / d = q at e
    generalize hr : n % d = r at e hm
    by_cases y : 0 < r
    · rw [if_pos y]
      have : n + d - 1 = (r - 1) + d * (q + 1) := by rw [Nat.mul_add]; omega
      rw [this, Nat.add_mul_div_left _ _ (by omega), Nat.div_eq_of_lt (by omega)]
      omega
    · rw [if_neg y]
      have : n + d - 1 = (d - 1) + d * q := by omega
      rw [this, Nat.add_mul_div_left _ _ (by omega), Nat.div_eq_of_lt (by omega)]
      omega
theorem hes_none {J dd : Nat → Nat} {d : Nat} {y : Int32} (_ : 1 ≤ d) : hes J dd 0 y = 0 / d + (if 0 < 0 % d then 1 else 0) := by
  unfold hes
  rw [if_pos (Or.inl (by decide)), Nat.zero_div, Nat.zero_mod, if_neg (by decide)]
theorem hzero_of {n : Nat} (h : n < 2 ^ 31) (c : nI n ≤ 0) : n = 0 := by
  rw [Int32.le_iff_toInt_le, Int32.toInt_zero, nI_toInt h] at c
  omega
theorem hpos_not {n : Nat} (h : n < 2 ^ 31) (c : nI n ≤ 0) : ¬ 0 < n := by
  have := hzero_of h c
  omega
theorem hpos_of {n : Nat} (_ : n < 2 ^ 31) (c : ¬ nI n ≤ 0) : 0 < n := by
  rcases Nat.eq_zero_or_pos n with z | z
  · rw [z] at c
    exact absurd (by decide +kernel) c
  · exact z
theorem hlcmp0 {a b : Nat} (ha : a < 2 ^ 63) (hb : b < 2 ^ 63) : lg_cmp (lN a) (lN b) ≤ 0 ↔ a ≤ b := by
  unfold lg_cmp
  by_cases h1 : b < a
  · rw [if_pos ((pk_lLT hb ha).mpr h1)]
    exact ⟨fun z => absurd z (by decide), fun z => by omega⟩
  · rw [if_neg (fun z => h1 ((pk_lLT hb ha).mp z))]
    exact ⟨fun _ => by omega, fun _ => by split <;> decide⟩
theorem hes_own {J dd : Nat → Nat} {mm kn : Nat} (hJ : ∀ q, q < 3 → J q < 72) : hes J dd mm (nI (kn &&& hvm J 3)) = hes J dd mm (nI kn) := by
  have hb : ∀ p, p < 3 → 64 ≤ J p → hvm J 3 &&& 2 ^ (J p - 64) = 2 ^ (J p - 64) := fun p hp h64 => by
    apply Nat.eq_of_testBit_eq
    intro i
    rw [Nat.testBit_and, Nat.testBit_two_pow]
    by_cases z : J p - 64 = i
    · rw [decide_eq_true z, Bool.and_true, ← z]
      have s : ∀ n, p < n → (hvm J n).testBit (J p - 64) = true := fun n => by
        induction n with
        | zero => intro h; exact absurd h (Nat.not_lt_zero _)
        | succ n ih =>
          intro h
          show (if J n < 64 then hvm J n else hvm J n ||| 2 ^ (J n - 64)).testBit _ = true
          by_cases y : p = n
          · subst y
            rw [if_neg (by omega), Nat.testBit_or, Nat.testBit_two_pow, decide_eq_true rfl, Bool.or_true]
          · split
            · exact ih (by omega)
            · rw [Nat.testBit_or, ih (by omega), Bool.true_or]
      exact s 3 hp
    · rw [decide_eq_false z, Bool.and_false]
  have hk : ∀ p, p < 3 → (hkn (nI (kn &&& hvm J 3)) (J p) ↔ hkn (nI kn) (J p)) := fun p hp => by
    constructor
    · rintro ⟨h1, h2⟩
      refine ⟨h1, fun z => h2 ?_⟩
      rw [hiand] at z ⊢
      rw [Nat.and_assoc, hb p hp h1]
      exact z
    · rintro ⟨h1, h2⟩
      refine ⟨h1, fun z => h2 ?_⟩
      rw [hiand] at z ⊢
      rw [Nat.and_assoc, hb p hp h1] at z
      exact z
  have hd : ∀ p, p ≤ 3 → hdv J dd (nI (kn &&& hvm J 3)) p = hdv J dd (nI kn) p := fun p => by
    induction p with
    | zero => intro _; rfl
    | succ p ih =>
      intro hp
      show (if hkn (nI (kn &&& hvm J 3)) (J p) then _ else _) = (if hkn (nI kn) (J p) then _ else _)
      rw [ih (by omega)]
      by_cases z : hkn (nI kn) (J p)
      · rw [if_pos z, if_pos ((hk p (by omega)).mpr z)]
      · rw [if_neg z, if_neg (fun y => z ((hk p (by omega)).mp y))]
  unfold hes
  rw [hd 3 (Nat.le_refl _)]
/-- what the reference has kept of estimates -/
def hCa (h : Nat → Int32) (S : Nat → Nat → Nat → Prop) (I : Nat → Nat → Nat) (pt : Nat) : Prop := ∀ p, p < pt → ∀ v, v < 256 → h (256 * p + v) < 0 ∨ h (256 * p + v) = nI (hes (I p) (hNd S (I p)) (hNN S (I p)) (nI v))
theorem hCa.set {h : Nat → Int32} {S : Nat → Nat → Nat → Prop} {I : Nat → Nat → Nat} {pt p v : Nat} {r : Int32} (hc : hCa h S I pt) (hv : v < 256) (e : r = nI (hes (I p) (hNd S (I p)) (hNN S (I p)) (nI v))) : hCa (upd h (256 * p + v) r) S I pt := fun q hq w hw => by
  by_cases z : 256 * q + w = 256 * p + v
  · have h1 : q = p := by omega
    have h2 : w = v := by omega
    subst h1
    subst h2
    rw [pk_us]
    exact Or.inr e
  · rw [pk_un z]
    exact hc q hq w hw

set_option maxHeartbeats 4000000 in
set_option maxRecDepth 100000 in
/-- the reference: bit -/
theorem c_X9_bit (l : Launch) (x : Int32) : hSi l yX9_bit cX9_bit 1 (some .int) ({ frames := 0, cells := 0, slots := 0, locals := 0 }) [.int x] (fun _ => True) := by
  refine Met.ofW (cc := cX9_bit) (maxL := 1) (ret := (some .int)) (by decide) rfl ?_
  intro p e s m args below meth c s₁ B hml hv0
  obtain ⟨rfl, -⟩ := hv0
  have hx := B.exec
  have hb := B.bytes
  have hr := B.returns
  have hts := atoms_spec (ws := hC yX9_bit cX9_bit 1 (some .int)) B.pre
  have hown : s.vm.findClass RX9 = some m.cls := findClass_of_methodNamed B.named
  have hlocks := B.notSynchronized
  have hl := lv_entry ([.int x]) (n := 1) (Nat.le_of_ble_eq_true rfl)
  rw [lg_entry_eq]
  generalize (lg_sl ([.int x]) ++ List.replicate (1 - (lg_sl ([.int x])).length) Slot.unset).toArray = ls at hl ⊢
  have hl : lv_has ls 1 [(0, .int x)] := hl
  refine lv_iconst (v := nI 1) hx hb dX9_bit_0 (by decide +kernel) ?_
  refine lv_iconst (v := (-1)) hx hb dX9_bit_1 (by decide +kernel) ?_
  refine lv_iload_n hx hb dX9_bit_2 rfl (lv_at hl 0 rfl) ?_
  refine lv_isub hx hb dX9_bit_3 ?_
  refine lv_ishl hx hb dX9_bit_4 ?_
  exact W.iret (v := ((nI 1) <<< (((-1) - x) &&& 31))) hx hb hr (fun t ht _ => ⟨((nI 1) <<< (((-1) - x) &&& 31)), rfl, trivial, ht⟩) (fun _ h => by cases h) dX9_bit_5

set_option maxHeartbeats 4000000 in
set_option maxRecDepth 100000 in
/-- the reference: product -/
theorem c_X9_product (l : Launch) (s9 e9 : Nat) (hs9 : s9 ≤ 1000000000000) (he9 : e9 ≤ 640) : hSl l yX9_product cX9_product 4 (some .long) ({ frames := 0, cells := 0, slots := 0, locals := 0 }) [.long (lN s9), .long (lN e9)] (fun r => r = lN (min (s9 * e9) 1000000000000)) := by
  refine Met.ofW (cc := cX9_product) (maxL := 4) (ret := (some .long)) (by decide) rfl ?_
  intro p e s m args below meth c s₁ B hml hv0
  obtain ⟨rfl, -⟩ := hv0
  have hx := B.exec
  have hb := B.bytes
  have hr := B.returns
  have hts := atoms_spec (ws := hC yX9_product cX9_product 4 (some .long)) B.pre
  have hown : s.vm.findClass RX9 = some m.cls := findClass_of_methodNamed B.named
  have hlocks := B.notSynchronized
  have hl := lv_entry ([.long (lN s9), .long (lN e9)]) (n := 4) (Nat.le_of_ble_eq_true rfl)
  rw [lg_entry_eq]
  generalize (lg_sl ([.long (lN s9), .long (lN e9)]) ++ List.replicate (4 - (lg_sl ([.long (lN s9), .long (lN e9)])).length) Slot.unset).toArray = ls at hl ⊢
  have hl : lv_has ls 4 [(0, .long (lN s9)), (2, .long (lN e9))] := hl
  refine lv_lload_n hx hb dX9_product_0 rfl (lv_at hl 1 rfl) ?_
  refine lv_lconst (v := lN 0) hx hb dX9_product_1 (by decide +kernel) ?_
  refine W.lcmp hx hb dX9_product_2 ?_
  refine lv_if_ne (tgt := 8) hx hb dX9_product_3 (by decide) (fun c1 => ?_) (fun c1 => ?_)
  · have hz : ¬ e9 = 0 := fun q => c1 (by rw [q]; decide +kernel)
    refine lv_lload_n hx hb dX9_product_8 rfl (lv_at hl 0 rfl) ?_
    refine lv_ldc2 (v := 1000000000000) hx hb hown (hts _ (hmc _ k_698)) dX9_product_9 ?_
    refine lv_lload_n hx hb dX9_product_12 rfl (lv_at hl 1 rfl) ?_
    refine lv_ldiv hx hb dX9_product_13 (fun q => c1 ((lg_cmp_eq _ _).mpr q)) ?_
    refine htopl (v := lN (1000000000000 / e9)) (pk_lDiv (a := 1000000000000) (by decide) (by omega) (by omega)) ?_
    refine W.lcmp hx hb dX9_product_14 ?_
    have hmul : s9 * e9 ≤ 1000000000000 * 640 := Nat.mul_le_mul hs9 he9
    have hdl : 1000000000000 / e9 ≤ 1000000000000 := Nat.div_le_self _ _
    have hdi : 1000000000000 / e9 < s9 ↔ 1000000000000 < s9 * e9 := Nat.div_lt_iff_lt_mul (by omega)
    refine lv_if_le (tgt := 24) hx hb dX9_product_15 (by decide) (fun c2 => ?_) (fun c2 => ?_)
    · refine lv_lload_n hx hb dX9_product_24 rfl (lv_at hl 0 rfl) ?_
      refine lv_lload_n hx hb dX9_product_25 rfl (lv_at hl 1 rfl) ?_
      refine lv_lmul hx hb dX9_product_26 ?_
      refine htopl (v := lN (s9 * e9)) (lN_mul _ _) ?_
      exact W.lret (v := lN (s9 * e9)) hx hb hr (fun t ht _ => ⟨lN (s9 * e9), rfl, by rw [Nat.min_eq_left (Nat.not_lt.mp (fun q => absurd (hdi.mpr q) (Nat.not_lt.mpr ((hlcmp0 (by omega) (by omega)).mp c2))))], ht⟩) (fun _ h => by cases h) dX9_product_27
    · refine lv_ldc2 (v := 1000000000000) hx hb hown (hts _ (hmc _ k_698)) dX9_product_18 ?_
      refine lv_goto (tgt := 27) hx hb dX9_product_21 (by decide) ?_
      exact W.lret (v := 1000000000000) hx hb hr (fun t ht _ => ⟨1000000000000, rfl, by rw [Nat.min_eq_right (Nat.le_of_lt (hdi.mp (Nat.not_le.mp (fun q => c2 ((hlcmp0 (by omega) (by omega)).mpr q)))))]; rfl, ht⟩) (fun _ h => by cases h) dX9_product_27
  · have hz : e9 = 0 := (pk_lEQ (by omega) (by decide)).mp ((lg_cmp_eq _ _).mp c1)
    refine lv_lconst (v := lN 0) hx hb dX9_product_6 (by decide +kernel) ?_
    exact W.lret (v := lN 0) hx hb hr (fun t ht _ => ⟨lN 0, rfl, by rw [hz, Nat.mul_zero]; rfl, ht⟩) (fun _ h => by cases h) dX9_product_7

set_option maxHeartbeats 4000000 in
set_option maxRecDepth 100000 in
/-- the reference: hasNumbers -/
theorem c_X9_hasNumbers (l : Launch) (D : va_G) (K : Nat → ClassId) (tv : Nat) (ws : va_W) (ad : Nat → Nat) (f : Nat → Nat → Int32) (ct pt md : Nat) (lz : Int64) (kp : Nat) (fd : Int32) (hrx : hRX K ad ws f ct pt md lz kp fd) (t p9 : Nat) (ht6 : t < 640) (hp6 : p9 < 6) : hI l D (hTy K) tv yX9_hasNumbers cX9_hasNumbers 5 (some .boolean) ({ frames := 0, cells := 0, slots := 0, locals := 0 }) [.ref (ad 0), .int (nI t), .int (nI p9)] ws (fun r ws1 => ws = ws1 ∧ hBool r (hHN f t p9)) := by
  intro sz
  refine Met.ofW (cc := cX9_hasNumbers) (maxL := 5) (ret := (some .boolean)) (by decide) rfl ?_
  intro p e s m args below meth c s₁ B hml hv0
  obtain ⟨rfl, rfl, E, hP, hD⟩ := hentry hv0
  have hx := B.exec
  have hb := B.bytes
  have hr := B.returns
  have hts := atoms_spec (ws := hC yX9_hasNumbers cX9_hasNumbers 5 (some .boolean)) B.pre
  have hown : s.vm.findClass RX9 = some m.cls := findClass_of_methodNamed B.named
  have hlocks := B.notSynchronized
  generalize hAe : va_A ws s.heap.size = A at hD E ⊢
  have hl := lv_entry ([.ref (ad 0), .int (nI t), .int (nI p9)]) (n := 5) (Nat.le_of_ble_eq_true rfl)
  rw [lg_entry_eq]
  generalize (lg_sl ([.ref (ad 0), .int (nI t), .int (nI p9)]) ++ List.replicate (5 - (lg_sl ([.ref (ad 0), .int (nI t), .int (nI p9)])).length) Slot.unset).toArray = ls at hl ⊢
  have hl : lv_has ls 5 [(0, .ref (ad 0)), (1, .int (nI t)), (2, .int (nI p9))] := hl
  refine hat0 (fun H hHe => ?_)
  have hP : va_P D vwCl ws H := by rw [hHe]; exact hP
  have hS : va_S A s.heap H [] := by rw [hHe]; exact va_S.rf
  have g0 := hrx.1
  have g1 : ws[1]? = some (ad 1, .inl (K 0, 1920, .inl (f 1))) := hrx.2 1 (by decide) (by decide)
  have g2 : ws[2]? = some (ad 2, .inl (K 0, 18, .inl (f 2))) := hrx.2 2 (by decide) (by decide)
  refine lv_iconst (v := nI 1) hx hb dX9_hasNumbers_0 (by decide +kernel) ?_
  refine lv_istore_n (lv' := [(3, .int (nI 1)), (0, .ref (ad 0)), (1, .int (nI t)), (2, .int (nI p9))]) hx hb dX9_hasNumbers_1 rfl hl (by decide) rfl (fun ls hl => ?_)
  refine lv_iconst (v := nI 0) hx hb dX9_hasNumbers_2 (by decide +kernel) ?_
  refine lv_istore (lv' := [(4, .int (nI 0)), (3, .int (nI 1)), (0, .ref (ad 0)), (1, .int (nI t)), (2, .int (nI p9))]) hx hb dX9_hasNumbers_3 hl (by decide) rfl (fun ls hl => ?_)
  refine hloop0 (α := Nat × Nat) 5 5 (fun y => [(4, .int (nI y.1)), (3, .int (nI y.2)), (0, .ref (ad 0)), (1, .int (nI t)), (2, .int (nI p9))]) (fun y => y.1 ≤ 3 ∧ ((y.2 = 1 ∧ ∀ j, j < y.1 → f 2 (3 * p9 + j) < 0 ∨ f 2 (3 * p9 + j) = f 1 (3 * t + j)) ∨ (y.2 = 0 ∧ ¬ hHN f t p9))) (fun y => 3 - y.1) ?_ (0, 1) ls ⟨Nat.zero_le _, Or.inl ⟨rfl, fun j hj => absurd hj (Nat.not_lt_zero _)⟩⟩ (lv_sub hl [0, 1, 2, 3, 4] rfl)
  rintro ⟨i, h9⟩ ls ⟨hi, hst⟩ hl ih
  dsimp only at hi hst ih
  have hl : lv_has ls 5 [(4, .int (nI i)), (3, .int (nI h9)), (0, .ref (ad 0)), (1, .int (nI t)), (2, .int (nI p9))] := hl
  refine lv_iload hx hb dX9_hasNumbers_5 (lv_at hl 0 rfl) ?_
  refine lv_iconst (v := nI 3) hx hb dX9_hasNumbers_7 (by decide +kernel) ?_
  refine lv_icmp_ge (tgt := 66) hx hb dX9_hasNumbers_8 (by decide) (fun c1 => ?_) (fun c1 => ?_)
  · have c1 : nI 3 ≤ nI i := c1
    have hi3 : i = 3 := by
      have := (nI_leI (by decide) (by omega)).mp c1
      omega
    rcases hst with ⟨hy, hq⟩ | ⟨hy, hq⟩
    · subst hy
      refine lv_iload_n hx hb dX9_hasNumbers_66 rfl (lv_at hl 1 rfl) ?_
      subst hAe
      exact W.zret (v := nI 1) hx hb hr (by decide +kernel) (fun t ht _ => ⟨⟨nI 1, ws, rfl, ⟨rfl, hBool.yes (fun j hj => hq j (by omega))⟩, by rw [ht]; exact hP, hD⟩, hS.F ht⟩) hS.2.2 dX9_hasNumbers_67
    · subst hy
      refine lv_iload_n hx hb dX9_hasNumbers_66 rfl (lv_at hl 1 rfl) ?_
      subst hAe
      exact W.zret (v := nI 0) hx hb hr (by decide +kernel) (fun t ht _ => ⟨⟨nI 0, ws, rfl, ⟨rfl, hBool.no hq⟩, by rw [ht]; exact hP, hD⟩, hS.F ht⟩) hS.2.2 dX9_hasNumbers_67
  · have c1 : ¬ nI 3 ≤ nI i := c1
    have hi3 : i < 3 := Nat.not_le.mp (fun z => c1 (nI_le z (by omega)))
    refine lv_iload_n hx hb dX9_hasNumbers_11 rfl (lv_at hl 1 rfl) ?_
    refine lv_if_eq (tgt := 58) hx hb dX9_hasNumbers_12 (by decide) (fun c2 => ?_) (fun c2 => ?_)
    · have hz : h9 = 0 := by
        rcases hst with ⟨hy, -⟩ | ⟨hy, -⟩
        · rw [hy] at c2; exact absurd c2 (by decide +kernel)
        · exact hy
      have hn : ¬ hHN f t p9 := by
        rcases hst with ⟨hy, -⟩ | ⟨-, hq⟩
        · omega
        · exact hq
      refine lv_iconst (v := nI 0) hx hb dX9_hasNumbers_58 (by decide +kernel) ?_
      refine lv_istore_n (lv' := [(3, .int (nI 0)), (4, .int (nI i)), (0, .ref (ad 0)), (1, .int (nI t)), (2, .int (nI p9))]) hx hb dX9_hasNumbers_59 rfl hl (by decide) rfl (fun ls hl => ?_)
      refine lv_iinc (v := nI (i + 1)) (lv' := [(4, .int (nI (i + 1))), (3, .int (nI 0)), (0, .ref (ad 0)), (1, .int (nI t)), (2, .int (nI p9))]) hx hb dX9_hasNumbers_60 hl (k := 1) rfl (nI_1 _) (by decide) rfl (fun ls hl => ?_)
      refine lv_goto (tgt := 5) hx hb dX9_hasNumbers_63 (by decide) ?_
      exact ih (i + 1, 0) ls ⟨by show i + 1 ≤ 3; omega, Or.inr ⟨rfl, hn⟩⟩ (by show 3 - (i + 1) < 3 - i; omega) (lv_sub hl [0, 1, 2, 3, 4] rfl)
    · have hq : ∀ j, j < i → f 2 (3 * p9 + j) < 0 ∨ f 2 (3 * p9 + j) = f 1 (3 * t + j) := by
        rcases hst with ⟨-, hq⟩ | ⟨hy, -⟩
        · exact hq
        · rw [hy] at c2; exact absurd rfl c2
      refine lv_aload_n hx hb dX9_hasNumbers_15 rfl (lv_at hl 2 rfl) ?_
      refine va_get (v := .ref (ad 2)) (C := RX9) (T := TX9) (N := 18) hx hb hts (hin_X9 hmc) hown E.1.1 hP 0 g0 rfl 2 (by decide) (hts _ (hmc _ k_571)) (fun _ h9 => h9) rfl dX9_hasNumbers_16 ?_
      refine lv_iconst (v := nI 3) hx hb dX9_hasNumbers_19 (by decide +kernel) ?_
      refine lv_iload_n hx hb dX9_hasNumbers_20 rfl (lv_at hl 4 rfl) ?_
      refine lv_imul hx hb dX9_hasNumbers_21 ?_
      refine htopi (v := nI (3 * p9)) (pk_mul _ _) ?_
      refine lv_iload hx hb dX9_hasNumbers_22 (lv_at hl 0 rfl) ?_
      refine lv_iadd hx hb dX9_hasNumbers_24 ?_
      refine htopi (v := nI ((3 * p9) + i)) (nI_add _ _) ?_
      refine va_iald hx hb E.1.1 hP 2 0 g2 rfl (vp_in_nI (by omega) (by omega)) dX9_hasNumbers_25 ?_
      refine htopi (v := (f 2) ((3 * p9) + i)) (by rw [nI_clamp (by omega)]) ?_
      refine lv_if_lt (tgt := 54) hx hb dX9_hasNumbers_26 (by decide) (fun c3 => ?_) (fun c3 => ?_)
      · refine lv_iconst (v := nI 1) hx hb dX9_hasNumbers_54 (by decide +kernel) ?_
        refine lv_goto (tgt := 59) hx hb dX9_hasNumbers_55 (by decide) ?_
        refine lv_istore_n (lv' := [(3, .int (nI 1)), (4, .int (nI i)), (0, .ref (ad 0)), (1, .int (nI t)), (2, .int (nI p9))]) hx hb dX9_hasNumbers_59 rfl hl (by decide) rfl (fun ls hl => ?_)
        refine lv_iinc (v := nI (i + 1)) (lv' := [(4, .int (nI (i + 1))), (3, .int (nI 1)), (0, .ref (ad 0)), (1, .int (nI t)), (2, .int (nI p9))]) hx hb dX9_hasNumbers_60 hl (k := 1) rfl (nI_1 _) (by decide) rfl (fun ls hl => ?_)
        refine lv_goto (tgt := 5) hx hb dX9_hasNumbers_63 (by decide) ?_
        exact ih (i + 1, 1) ls ⟨by show i + 1 ≤ 3; omega, Or.inl ⟨rfl, fun j hj => by
            by_cases z : j = i
            · subst z; exact Or.inl c3
            · exact hq j (by have : j < i + 1 := hj; omega)⟩⟩ (by show 3 - (i + 1) < 3 - i; omega) (lv_sub hl [0, 1, 2, 3, 4] rfl)
      · refine lv_aload_n hx hb dX9_hasNumbers_29 rfl (lv_at hl 2 rfl) ?_
        refine va_get (v := .ref (ad 2)) (C := RX9) (T := TX9) (N := 18) hx hb hts (hin_X9 hmc) hown E.1.1 hP 0 g0 rfl 2 (by decide) (hts _ (hmc _ k_571)) (fun _ h9 => h9) rfl dX9_hasNumbers_30 ?_
        refine lv_iconst (v := nI 3) hx hb dX9_hasNumbers_33 (by decide +kernel) ?_
        refine lv_iload_n hx hb dX9_hasNumbers_34 rfl (lv_at hl 4 rfl) ?_
        refine lv_imul hx hb dX9_hasNumbers_35 ?_
        refine htopi (v := nI (3 * p9)) (pk_mul _ _) ?_
        refine lv_iload hx hb dX9_hasNumbers_36 (lv_at hl 0 rfl) ?_
        refine lv_iadd hx hb dX9_hasNumbers_38 ?_
        refine htopi (v := nI ((3 * p9) + i)) (nI_add _ _) ?_
        refine va_iald hx hb E.1.1 hP 2 0 g2 rfl (vp_in_nI (by omega) (by omega)) dX9_hasNumbers_39 ?_
        refine htopi (v := (f 2) ((3 * p9) + i)) (by rw [nI_clamp (by omega)]) ?_
        refine lv_aload_n hx hb dX9_hasNumbers_40 rfl (lv_at hl 2 rfl) ?_
        refine va_get (v := .ref (ad 1)) (C := RX9) (T := TX9) (N := 18) hx hb hts (hin_X9 hmc) hown E.1.1 hP 0 g0 rfl 0 (by decide) (hts _ (hmc _ k_569)) (fun _ h9 => h9) rfl dX9_hasNumbers_41 ?_
        refine lv_iconst (v := nI 3) hx hb dX9_hasNumbers_44 (by decide +kernel) ?_
        refine lv_iload_n hx hb dX9_hasNumbers_45 rfl (lv_at hl 3 rfl) ?_
        refine lv_imul hx hb dX9_hasNumbers_46 ?_
        refine htopi (v := nI (3 * t)) (pk_mul _ _) ?_
        refine lv_iload hx hb dX9_hasNumbers_47 (lv_at hl 0 rfl) ?_
        refine lv_iadd hx hb dX9_hasNumbers_49 ?_
        refine htopi (v := nI ((3 * t) + i)) (nI_add _ _) ?_
        refine va_iald hx hb E.1.1 hP 1 0 g1 rfl (vp_in_nI (by omega) (by omega)) dX9_hasNumbers_50 ?_
        refine htopi (v := (f 1) ((3 * t) + i)) (by rw [nI_clamp (by omega)]) ?_
        refine lv_icmp_ne (tgt := 58) hx hb dX9_hasNumbers_51 (by decide) (fun c4 => ?_) (fun c4 => ?_)
        · refine lv_iconst (v := nI 0) hx hb dX9_hasNumbers_58 (by decide +kernel) ?_
          refine lv_istore_n (lv' := [(3, .int (nI 0)), (4, .int (nI i)), (0, .ref (ad 0)), (1, .int (nI t)), (2, .int (nI p9))]) hx hb dX9_hasNumbers_59 rfl hl (by decide) rfl (fun ls hl => ?_)
          refine lv_iinc (v := nI (i + 1)) (lv' := [(4, .int (nI (i + 1))), (3, .int (nI 0)), (0, .ref (ad 0)), (1, .int (nI t)), (2, .int (nI p9))]) hx hb dX9_hasNumbers_60 hl (k := 1) rfl (nI_1 _) (by decide) rfl (fun ls hl => ?_)
          refine lv_goto (tgt := 5) hx hb dX9_hasNumbers_63 (by decide) ?_
          exact ih (i + 1, 0) ls ⟨by show i + 1 ≤ 3; omega, Or.inr ⟨rfl, fun q => (q i hi3).elim c3 c4⟩⟩ (by show 3 - (i + 1) < 3 - i; omega) (lv_sub hl [0, 1, 2, 3, 4] rfl)
        · refine lv_iconst (v := nI 1) hx hb dX9_hasNumbers_54 (by decide +kernel) ?_
          refine lv_goto (tgt := 59) hx hb dX9_hasNumbers_55 (by decide) ?_
          refine lv_istore_n (lv' := [(3, .int (nI 1)), (4, .int (nI i)), (0, .ref (ad 0)), (1, .int (nI t)), (2, .int (nI p9))]) hx hb dX9_hasNumbers_59 rfl hl (by decide) rfl (fun ls hl => ?_)
          refine lv_iinc (v := nI (i + 1)) (lv' := [(4, .int (nI (i + 1))), (3, .int (nI 1)), (0, .ref (ad 0)), (1, .int (nI t)), (2, .int (nI p9))]) hx hb dX9_hasNumbers_60 hl (k := 1) rfl (nI_1 _) (by decide) rfl (fun ls hl => ?_)
          refine lv_goto (tgt := 5) hx hb dX9_hasNumbers_63 (by decide) ?_
          exact ih (i + 1, 1) ls ⟨by show i + 1 ≤ 3; omega, Or.inl ⟨rfl, fun j hj => by
              by_cases z : j = i
              · subst z; exact Or.inr c4
              · exact hq j (by have : j < i + 1 := hj; omega)⟩⟩ (by show 3 - (i + 1) < 3 - i; omega) (lv_sub hl [0, 1, 2, 3, 4] rfl)

set_option maxHeartbeats 4000000 in
set_option maxRecDepth 100000 in
/-- the reference: variables -/
theorem c_X9_variables (l : Launch) (D : va_G) (K : Nat → ClassId) (tv : Nat) (ws : va_W) (ad : Nat → Nat) (f : Nat → Nat → Int32) (ct pt md : Nat) (lz : Int64) (kp : Nat) (fd : Int32) (hrx : hRX K ad ws f ct pt md lz kp fd) (p9 : Nat) (hp6 : p9 < 6) : hI l D (hTy K) tv yX9_variables cX9_variables 4 (some .int) ({ frames := 1, cells := 0, slots := 0, locals := 60 }) [.ref (ad 0), .int (nI p9)] ws (fun _ ws1 => ws = ws1) := by
  intro sz
  refine Met.ofW (cc := cX9_variables) (maxL := 4) (ret := (some .int)) (by decide) rfl ?_
  intro p e s m args below meth c s₁ B hml hv0
  obtain ⟨rfl, rfl, E, hP, hD⟩ := hentry hv0
  have hx := B.exec
  have hb := B.bytes
  have hr := B.returns
  have hts := atoms_spec (ws := hC yX9_variables cX9_variables 4 (some .int)) B.pre
  have hown : s.vm.findClass RX9 = some m.cls := findClass_of_methodNamed B.named
  have hlocks := B.notSynchronized
  generalize hAe : va_A ws s.heap.size = A at hD E ⊢
  have hl := lv_entry ([.ref (ad 0), .int (nI p9)]) (n := 4) (Nat.le_of_ble_eq_true rfl)
  rw [lg_entry_eq]
  generalize (lg_sl ([.ref (ad 0), .int (nI p9)]) ++ List.replicate (4 - (lg_sl ([.ref (ad 0), .int (nI p9)])).length) Slot.unset).toArray = ls at hl ⊢
  have hl : lv_has ls 4 [(0, .ref (ad 0)), (1, .int (nI p9))] := hl
  refine hat0 (fun H hHe => ?_)
  have hP : va_P D vwCl ws H := by rw [hHe]; exact hP
  have hS : va_S A s.heap H [] := by rw [hHe]; exact va_S.rf
  have g0 := hrx.1
  have g2 : ws[2]? = some (ad 2, .inl (K 0, 18, .inl (f 2))) := hrx.2 2 (by decide) (by decide)
  refine lv_iconst (v := nI 0) hx hb dX9_variables_0 (by decide +kernel) ?_
  refine lv_istore_n (lv' := [(2, .int (nI 0)), (0, .ref (ad 0)), (1, .int (nI p9))]) hx hb dX9_variables_1 rfl hl (by decide) rfl (fun ls hl => ?_)
  refine lv_iconst (v := nI 0) hx hb dX9_variables_2 (by decide +kernel) ?_
  refine lv_istore_n (lv' := [(3, .int (nI 0)), (2, .int (nI 0)), (0, .ref (ad 0)), (1, .int (nI p9))]) hx hb dX9_variables_3 rfl hl (by decide) rfl (fun ls hl => ?_)
  refine hloopW (α := Nat × Int32) 4 4 (fun y => [(3, .int (nI y.1)), (2, .int y.2), (0, .ref (ad 0)), (1, .int (nI p9))]) (fun y w9 => y.1 ≤ 3 ∧ ws = w9) (fun y => 3 - y.1) (fun _ => 0) (fun _ => 0) ?_ (0, nI 0) ⟨Nat.zero_le _, rfl⟩ hP hD hS (lv_sub hl [0, 1, 2, 3] rfl)
  rintro ⟨i, bs⟩ w9 H locs ls hI9 hP hD hS hl ih
  obtain ⟨hi, rfl⟩ := hI9
  dsimp only at hi ih
  have hl : lv_has ls 4 [(3, .int (nI i)), (2, .int bs), (0, .ref (ad 0)), (1, .int (nI p9))] := hl
  refine lv_iload_n hx hb dX9_variables_4 rfl (lv_at hl 0 rfl) ?_
  refine lv_iconst (v := nI 3) hx hb dX9_variables_5 (by decide +kernel) ?_
  refine lv_icmp_ge (tgt := 48) hx hb dX9_variables_6 (by decide) (fun c1 => ?_) (fun c1 => ?_)
  · refine lv_iload_n hx hb dX9_variables_48 rfl (lv_at hl 1 rfl) ?_
    subst hAe
    exact W.iret (v := bs) hx hb hr (fun t ht _ => ⟨⟨bs, ws, rfl, rfl, by rw [ht]; exact hP, hD⟩, hS.F ht⟩) hS.2.2 dX9_variables_49
  · have c1 : ¬ nI 3 ≤ nI i := c1
    have hi3 : i < 3 := Nat.not_le.mp (fun z => c1 (nI_le z (by omega)))
    refine lv_iload_n hx hb dX9_variables_9 rfl (lv_at hl 1 rfl) ?_
    refine lv_aload_n hx hb dX9_variables_10 rfl (lv_at hl 2 rfl) ?_
    refine va_get (v := .ref (ad 2)) (C := RX9) (T := TX9) (N := 18) hx hb hts (hin_X9 hmc) hown E.1.1 hP 0 g0 rfl 2 (by decide) (hts _ (hmc _ k_571)) (fun _ h9 => h9) rfl dX9_variables_11 ?_
    refine lv_iconst (v := nI 3) hx hb dX9_variables_14 (by decide +kernel) ?_
    refine lv_iload_n hx hb dX9_variables_15 rfl (lv_at hl 3 rfl) ?_
    refine lv_imul hx hb dX9_variables_16 ?_
    refine htopi (v := nI (3 * p9)) (pk_mul _ _) ?_
    refine lv_iload_n hx hb dX9_variables_17 rfl (lv_at hl 0 rfl) ?_
    refine lv_iadd hx hb dX9_variables_18 ?_
    refine htopi (v := nI ((3 * p9) + i)) (nI_add _ _) ?_
    refine va_iald hx hb E.1.1 hP 2 0 g2 rfl (vp_in_nI (by omega) (by omega)) dX9_variables_19 ?_
    refine htopi (v := (f 2) ((3 * p9) + i)) (by rw [nI_clamp (by omega)]) ?_
    refine lv_if_ge (tgt := 39) hx hb dX9_variables_20 (by decide) (fun c2 => ?_) (fun c2 => ?_)
    · refine lv_iconst (v := nI 0) hx hb dX9_variables_39 (by decide +kernel) ?_
      refine lv_ior hx hb dX9_variables_40 ?_
      refine lv_istore_n (lv' := [(2, .int (bs ||| (nI 0))), (3, .int (nI i)), (0, .ref (ad 0)), (1, .int (nI p9))]) hx hb dX9_variables_41 rfl hl (by decide) rfl (fun ls hl => ?_)
      refine lv_iinc (v := nI (i + 1)) (lv' := [(3, .int (nI (i + 1))), (2, .int (bs ||| (nI 0))), (0, .ref (ad 0)), (1, .int (nI p9))]) hx hb dX9_variables_42 hl (k := 1) rfl (nI_1 _) (by decide) rfl (fun ls hl => ?_)
      refine lv_goto (tgt := 4) hx hb dX9_variables_45 (by decide) ?_
      exact ih (i + 1, _) _ H locs ls ⟨by show i + 1 ≤ 3; omega, rfl⟩ (by show 3 - (i + 1) < 3 - i; omega) hP hD hS (lv_sub hl [0, 1, 2, 3] rfl)
    · refine lv_aload_n hx hb dX9_variables_23 rfl (lv_at hl 2 rfl) ?_
      refine va_get (v := .ref (ad 2)) (C := RX9) (T := TX9) (N := 18) hx hb hts (hin_X9 hmc) hown E.1.1 hP 0 g0 rfl 2 (by decide) (hts _ (hmc _ k_571)) (fun _ h9 => h9) rfl dX9_variables_24 ?_
      refine lv_iconst (v := nI 3) hx hb dX9_variables_27 (by decide +kernel) ?_
      refine lv_iload_n hx hb dX9_variables_28 rfl (lv_at hl 3 rfl) ?_
      refine lv_imul hx hb dX9_variables_29 ?_
      refine htopi (v := nI (3 * p9)) (pk_mul _ _) ?_
      refine lv_iload_n hx hb dX9_variables_30 rfl (lv_at hl 0 rfl) ?_
      refine lv_iadd hx hb dX9_variables_31 ?_
      refine htopi (v := nI ((3 * p9) + i)) (nI_add _ _) ?_
      refine va_iald hx hb E.1.1 hP 2 0 g2 rfl (vp_in_nI (by omega) (by omega)) dX9_variables_32 ?_
      refine htopi (v := (f 2) ((3 * p9) + i)) (by rw [nI_clamp (by omega)]) ?_
      refine hc_si (va_runS (As := [.int ((f 2) ((3 * p9) + i))]) (rest := [.int bs]) ⟨hx, hb, hml, hown, hts⟩ (c_X9_bit l ((f 2) ((3 * p9) + i))) (va_cwS 1 hts (hGS hmc k_670 k_671 k_29 k_672) rfl rfl rfl (by decide +kernel) ⟨Nat.le_of_ble_eq_true rfl, Nat.le_of_ble_eq_true rfl⟩) hpre0 rfl rfl hl.1 rfl (lv_room (Nat.le_of_ble_eq_true rfl)) dX9_variables_33 ⟨(Nat.le_refl _), (Nat.le_refl _)⟩) (fun r1 hp => ?_)
      refine lv_goto (tgt := 40) hx hb dX9_variables_36 (by decide) ?_
      refine lv_ior hx hb dX9_variables_40 ?_
      refine lv_istore_n (lv' := [(2, .int (bs ||| r1)), (3, .int (nI i)), (0, .ref (ad 0)), (1, .int (nI p9))]) hx hb dX9_variables_41 rfl hl (by decide) rfl (fun ls hl => ?_)
      refine lv_iinc (v := nI (i + 1)) (lv' := [(3, .int (nI (i + 1))), (2, .int (bs ||| r1)), (0, .ref (ad 0)), (1, .int (nI p9))]) hx hb dX9_variables_42 hl (k := 1) rfl (nI_1 _) (by decide) rfl (fun ls hl => ?_)
      refine lv_goto (tgt := 4) hx hb dX9_variables_45 (by decide) ?_
      exact ih (i + 1, _) _ H locs ls ⟨by show i + 1 ≤ 3; omega, rfl⟩ (by show 3 - (i + 1) < 3 - i; omega) hP hD hS (lv_sub hl [0, 1, 2, 3] rfl)
