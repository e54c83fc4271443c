set_option maxHeartbeats 4000000 in
set_option maxRecDepth 100000 in
/-- the reference: turn -/
theorem c_X9_turn (l : Launch) (D : va_G) (K : Nat → ClassId) (tv : Nat) (ws : va_W) (ad : Nat → Nat) (f : Nat → Nat → Int32) (ct pt md : Nat) (lz : Int64) (kp : Nat) (fd : Int32) (hrx : hRX K ad ws f ct pt md lz kp fd) (hp6 : pt ≤ 6) (t : Nat → Nat) (hat : hAt5 (f 5) t pt) (hpm : hPm t pt) : hI l D (hTy K) tv yX9_turn cX9_turn 4 (some .boolean) ({ frames := 1, cells := 0, slots := 0, locals := 60 }) [.ref (ad 0)] ws (fun r ws1 => (r = nI 0 ∧ ws = ws1) ∨ (r = nI 1 ∧ ∃ F1 t1, hRX K ad ws1 (hup f 5 F1) ct pt md lz kp fd ∧ hAt5 F1 t1 pt ∧ hPm t1 pt ∧ hVl t pt < hVl t1 pt)) := by
  intro sz
  refine Met.ofW (cc := cX9_turn) (maxL := 4) (ret := (some .boolean)) (by decide) rfl ?_
  intro p e s m args below meth c s₁ B hml hv0
  obtain ⟨rfl, rfl, E, hP, hD⟩ := hentry hv0
  have hx := B.exec
  have hb := B.bytes
  have hr := B.returns
  have hts := atoms_spec (ws := hC yX9_turn cX9_turn 4 (some .boolean)) B.pre
  have hown : s.vm.findClass RX9 = some m.cls := findClass_of_methodNamed B.named
  have hlocks := B.notSynchronized
  generalize hAe : va_A ws s.heap.size = A at hD E ⊢
  have hl := lv_entry ([.ref (ad 0)]) (n := 4) (Nat.le_of_ble_eq_true rfl)
  rw [lg_entry_eq]
  generalize (lg_sl ([.ref (ad 0)]) ++ List.replicate (4 - (lg_sl ([.ref (ad 0)])).length) Slot.unset).toArray = ls at hl ⊢
  have hl : lv_has ls 4 [(0, .ref (ad 0))] := hl
  refine hat0 (fun H hHe => ?_)
  have hP : va_P D vwCl ws H := by rw [hHe]; exact hP
  have hS : va_S A s.heap H [] := by rw [hHe]; exact va_S.rf
  have g0 := hrx.1
  have g5 : ws[5]? = some (ad 5, .inl (K 0, 6, .inl (f 5))) := hrx.2 5 (by decide) (by decide)
  refine lv_aload_n hx hb dX9_turn_0 rfl (lv_at hl 0 rfl) ?_
  refine va_get (v := .int (nI pt)) (C := RX9) (T := TX9) (N := 18) hx hb hts (hin_X9 hmc) hown E.1.1 hP 0 g0 rfl 3 (by decide) (hts _ (hmc _ k_572)) (fun _ h9 => h9) rfl dX9_turn_1 ?_
  refine lv_iconst (v := nI 2) hx hb dX9_turn_4 (by decide +kernel) ?_
  have hk0 : nI pt - nI 2 = (if pt = 0 then (-2) else hkv (pt - 1)) := by
    rcases (show pt = 0 ∨ pt = 1 ∨ pt = 2 ∨ pt = 3 ∨ pt = 4 ∨ pt = 5 ∨ pt = 6 by omega) with h | h | h | h | h | h | h <;> rw [h] <;> decide +kernel
  refine lv_isub hx hb dX9_turn_5 ?_
  refine htopi (v := (if pt = 0 then (-2) else hkv (pt - 1))) (hk0) ?_
  by_cases hp0 : pt = 0
  · rw [if_pos hp0]
    refine lv_istore_n (lv' := [(1, .int (-2)), (0, .ref (ad 0))]) hx hb dX9_turn_6 rfl hl (by decide) rfl (fun ls hl => ?_)
    refine lv_iload_n hx hb dX9_turn_7 rfl (lv_at hl 0 rfl) ?_
    refine lv_if_lt (tgt := 34) hx hb dX9_turn_8 (by decide) (fun c1 => ?_) (fun c1 => ?_)
    · refine lv_iload_n hx hb dX9_turn_34 rfl (lv_at hl 0 rfl) ?_
      refine lv_if_ge (tgt := 40) hx hb dX9_turn_35 (by decide) (fun c2 => ?_) (fun c2 => ?_)
      · exact absurd c2 (by decide +kernel)
      · refine lv_iconst (v := nI 0) hx hb dX9_turn_38 (by decide +kernel) ?_
        subst hAe
        exact W.zret (v := nI 0) hx hb hr (by decide +kernel) (fun t ht _ => ⟨⟨nI 0, ws, rfl, Or.inl ⟨rfl, rfl⟩, by rw [ht]; exact hP, hD⟩, hS.F ht⟩) hS.2.2 dX9_turn_39
    · exact absurd (by decide +kernel) c1
  · rw [if_neg hp0]
    refine lv_istore_n (lv' := [(1, .int (hkv (pt - 1))), (0, .ref (ad 0))]) hx hb dX9_turn_6 rfl hl (by decide) rfl (fun ls hl => ?_)
    refine hloop0 (α := Nat) 7 4 (fun a => [(1, .int (hkv a)), (0, .ref (ad 0))]) (fun a => a ≤ pt - 1) (fun a => a) ?_ (pt - 1) ls (Nat.le_refl _) (lv_sub hl [0, 1] rfl)
    intro a ls ha hl ih
    have hl : lv_has ls 4 [(1, .int (hkv a)), (0, .ref (ad 0))] := hl
    by_cases ha0 : a = 0
    · rw [show hkv a = (-1) from if_pos ha0] at hl
      refine lv_iload_n hx hb dX9_turn_7 rfl (lv_at hl 0 rfl) ?_
      refine lv_if_lt (tgt := 34) hx hb dX9_turn_8 (by decide) (fun c1 => ?_) (fun c1 => ?_)
      · refine lv_iload_n hx hb dX9_turn_34 rfl (lv_at hl 0 rfl) ?_
        refine lv_if_ge (tgt := 40) hx hb dX9_turn_35 (by decide) (fun c2 => ?_) (fun c2 => ?_)
        · exact absurd c2 (by decide +kernel)
        · refine lv_iconst (v := nI 0) hx hb dX9_turn_38 (by decide +kernel) ?_
          subst hAe
          exact W.zret (v := nI 0) hx hb hr (by decide +kernel) (fun t ht _ => ⟨⟨nI 0, ws, rfl, Or.inl ⟨rfl, rfl⟩, by rw [ht]; exact hP, hD⟩, hS.F ht⟩) hS.2.2 dX9_turn_39
      · exact absurd (by decide +kernel) c1
    · obtain ⟨b, rfl⟩ : ∃ b, a = b + 1 := ⟨a - 1, by omega⟩
      rw [show hkv (b + 1) = nI b from if_neg (by omega)] at hl
      have hb1 : b + 1 < pt := by omega
      have e1 := hat b (by omega)
      have e2 := hat (b + 1) hb1
      have l1 := hpm.1 b (by omega)
      have l2 := hpm.1 (b + 1) hb1
      refine lv_iload_n hx hb dX9_turn_7 rfl (lv_at hl 0 rfl) ?_
      refine lv_if_lt (tgt := 34) hx hb dX9_turn_8 (by decide) (fun c1 => ?_) (fun c1 => ?_)
      · exact absurd c1 (nI_pos (by omega))
      · refine lv_aload_n hx hb dX9_turn_11 rfl (lv_at hl 1 rfl) ?_
        refine va_get (v := .ref (ad 5)) (C := RX9) (T := TX9) (N := 18) hx hb hts (hin_X9 hmc) hown E.1.1 hP 0 g0 rfl 7 (by decide) (hts _ (hmc _ k_576)) (fun _ h9 => h9) rfl dX9_turn_12 ?_
        refine lv_iload_n hx hb dX9_turn_15 rfl (lv_at hl 0 rfl) ?_
        refine va_iald hx hb E.1.1 hP 5 0 g5 rfl (vp_in_nI (by omega) (by omega)) dX9_turn_16 ?_
        refine htopi (v := (f 5) b) (by rw [nI_clamp (by omega)]) ?_
        refine htopi (v := nI (t b)) (e1) ?_
        refine lv_aload_n hx hb dX9_turn_17 rfl (lv_at hl 1 rfl) ?_
        refine va_get (v := .ref (ad 5)) (C := RX9) (T := TX9) (N := 18) hx hb hts (hin_X9 hmc) hown E.1.1 hP 0 g0 rfl 7 (by decide) (hts _ (hmc _ k_576)) (fun _ h9 => h9) rfl dX9_turn_18 ?_
        refine lv_iload_n hx hb dX9_turn_21 rfl (lv_at hl 0 rfl) ?_
        refine lv_iconst (v := nI 1) hx hb dX9_turn_22 (by decide +kernel) ?_
        refine lv_iadd hx hb dX9_turn_23 ?_
        refine htopi (v := nI (b + 1)) (nI_add _ _) ?_
        refine va_iald hx hb E.1.1 hP 5 0 g5 rfl (vp_in_nI (by omega) (by omega)) dX9_turn_24 ?_
        refine htopi (v := (f 5) (b + 1)) (by rw [nI_clamp (by omega)]) ?_
        refine htopi (v := nI (t (b + 1))) (e2) ?_
        refine lv_icmp_le (tgt := 34) hx hb dX9_turn_25 (by decide) (fun c2 => ?_) (fun c2 => ?_)
        · have hlt1 : t b < t (b + 1) := by
            have := (nI_leI (by omega) (by omega)).mp c2
            rcases Nat.lt_or_ge (t b) (t (b + 1)) with z | z
            · exact z
            · have := hpm.2 b (b + 1) (by omega) hb1 (by omega)
              omega
          refine lv_iload_n hx hb dX9_turn_34 rfl (lv_at hl 0 rfl) ?_
          refine lv_if_ge (tgt := 40) hx hb dX9_turn_35 (by decide) (fun c3 => ?_) (fun c3 => ?_)
          · refine lv_aload_n hx hb dX9_turn_40 rfl (lv_at hl 1 rfl) ?_
            refine va_get (v := .int (nI pt)) (C := RX9) (T := TX9) (N := 18) hx hb hts (hin_X9 hmc) hown E.1.1 hP 0 g0 rfl 3 (by decide) (hts _ (hmc _ k_572)) (fun _ h9 => h9) rfl dX9_turn_41 ?_
            refine lv_iconst (v := nI 1) hx hb dX9_turn_44 (by decide +kernel) ?_
            refine lv_isub hx hb dX9_turn_45 ?_
            refine htopi (v := nI (pt - 1)) (pk_sub (by omega)) ?_
            refine lv_istore_n (lv' := [(2, .int (nI (pt - 1))), (1, .int (nI b)), (0, .ref (ad 0))]) hx hb dX9_turn_46 rfl hl (by decide) rfl (fun ls hl => ?_)
            refine hloop0 (α := Nat) 47 4 (fun j => [(2, .int (nI j)), (1, .int (nI b)), (0, .ref (ad 0))]) (fun j => b + 1 ≤ j ∧ j < pt) (fun j => j) ?_ (pt - 1) ls ⟨by omega, by omega⟩ (lv_sub hl [0, 1, 2] rfl)
            rintro j ls ⟨hj1, hj2⟩ hl ih2
            have hl : lv_has ls 4 [(2, .int (nI j)), (1, .int (nI b)), (0, .ref (ad 0))] := hl
            have e3 := hat j hj2
            have l3 := hpm.1 j hj2
            refine lv_aload_n hx hb dX9_turn_47 rfl (lv_at hl 2 rfl) ?_
            refine va_get (v := .ref (ad 5)) (C := RX9) (T := TX9) (N := 18) hx hb hts (hin_X9 hmc) hown E.1.1 hP 0 g0 rfl 7 (by decide) (hts _ (hmc _ k_576)) (fun _ h9 => h9) rfl dX9_turn_48 ?_
            refine lv_iload_n hx hb dX9_turn_51 rfl (lv_at hl 0 rfl) ?_
            refine va_iald hx hb E.1.1 hP 5 0 g5 rfl (vp_in_nI (by omega) (by omega)) dX9_turn_52 ?_
            refine htopi (v := (f 5) j) (by rw [nI_clamp (by omega)]) ?_
            refine htopi (v := nI (t j)) (e3) ?_
            refine lv_aload_n hx hb dX9_turn_53 rfl (lv_at hl 2 rfl) ?_
            refine va_get (v := .ref (ad 5)) (C := RX9) (T := TX9) (N := 18) hx hb hts (hin_X9 hmc) hown E.1.1 hP 0 g0 rfl 7 (by decide) (hts _ (hmc _ k_576)) (fun _ h9 => h9) rfl dX9_turn_54 ?_
            refine lv_iload_n hx hb dX9_turn_57 rfl (lv_at hl 1 rfl) ?_
            refine va_iald hx hb E.1.1 hP 5 0 g5 rfl (vp_in_nI (by omega) (by omega)) dX9_turn_58 ?_
            refine htopi (v := (f 5) b) (by rw [nI_clamp (by omega)]) ?_
            refine htopi (v := nI (t b)) (e1) ?_
            refine lv_icmp_ge (tgt := 68) hx hb dX9_turn_59 (by decide) (fun c4 => ?_) (fun c4 => ?_)
            · have hlt2 : t b < t j := by
                have := (nI_leI (by omega) (by omega)).mp c4
                rcases Nat.lt_or_ge (t b) (t j) with z | z
                · exact z
                · have := hpm.2 b j (by omega) hj2 (by omega)
                  omega
              refine lv_aload_n hx hb dX9_turn_68 rfl (lv_at hl 2 rfl) ?_
              refine lv_iload_n hx hb dX9_turn_69 rfl (lv_at hl 1 rfl) ?_
              refine lv_iload_n hx hb dX9_turn_70 rfl (lv_at hl 0 rfl) ?_
              refine hc_v E hD hS (va_runV (As := [.int (nI b), .int (nI j)]) (rest := []) ⟨hx, hb, hml, hown, hts⟩ ((c_X9_change l D K tv ws ad f ct pt md lz kp fd hrx b j (by omega) (by omega)) H.size) (cwV 2 hts (hGV hmc k_703 k_705 k_13 k_29 k_706) rfl rfl rfl (by decide +kernel) ⟨Nat.le_of_ble_eq_true rfl, Nat.le_of_ble_eq_true rfl⟩) (hpreV E hP hD hS g0 rfl) rfl rfl hl.1 rfl (lv_room (Nat.le_of_ble_eq_true rfl)) dX9_turn_71 ⟨(Nat.le_refl _), (Nat.le_refl _)⟩) (fun ws1 H locs hrx hP hD hS => ?_)
              refine lv_iconst (v := nI 1) hx hb dX9_turn_74 (by decide +kernel) ?_
              refine lv_istore_n (lv' := [(3, .int (nI 1)), (2, .int (nI j)), (1, .int (nI b)), (0, .ref (ad 0))]) hx hb dX9_turn_75 rfl hl (by decide) rfl (fun ls hl => ?_)
              refine hloopW (α := Nat) 76 4 (fun i => [(3, .int (nI i)), (1, .int (nI b)), (0, .ref (ad 0))]) (fun i w9 => 1 ≤ i ∧ i ≤ pt ∧ ∃ F1 t1, hRX K ad w9 (hup f 5 F1) ct pt md lz kp fd ∧ hAt5 F1 t1 pt ∧ hPm t1 pt ∧ (∀ q, q < b → t1 q = t q) ∧ t b < t1 b) (fun i => pt - i) (fun _ => 0) (fun _ => 0) ?_ 1 ⟨Nat.le_refl _, by omega, _, hsw t b j, hrx, hsw_at hat (by omega) hj2, hsw_pm hpm (by omega) hj2, fun q hq => (if_neg (by omega)).trans (if_neg (by omega)), by rw [show hsw t b j b = t j from (if_neg (by omega)).trans (if_pos rfl)]; exact hlt2⟩ hP hD hS (lv_sub hl [0, 2, 3] rfl)
              intro i w9 H locs ls hI9 hP hD hS hl ih3
              obtain ⟨hi1, hip, F1, t1, hrx, hat1, hpm1, hpre, hgt⟩ := hI9
              have hl : lv_has ls 4 [(3, .int (nI i)), (1, .int (nI b)), (0, .ref (ad 0))] := hl
              have g0 := hrx.1
              refine lv_iload_n hx hb dX9_turn_76 rfl (lv_at hl 1 rfl) ?_
              refine lv_iload_n hx hb dX9_turn_77 rfl (lv_at hl 0 rfl) ?_
              refine lv_iadd hx hb dX9_turn_78 ?_
              refine htopi (v := nI (b + i)) (nI_add _ _) ?_
              refine lv_aload_n hx hb dX9_turn_79 rfl (lv_at hl 2 rfl) ?_
              refine va_get (v := .int (nI pt)) (C := RX9) (T := TX9) (N := 18) hx hb hts (hin_X9 hmc) hown E.1.1 hP 0 g0 rfl 3 (by decide) (hts _ (hmc _ k_572)) (fun _ h9 => h9) rfl dX9_turn_80 ?_
              refine lv_iload_n hx hb dX9_turn_83 rfl (lv_at hl 0 rfl) ?_
              refine lv_isub hx hb dX9_turn_84 ?_
              refine htopi (v := nI (pt - i)) (pk_sub (by omega)) ?_
              refine lv_icmp_ge (tgt := 107) hx hb dX9_turn_85 (by decide) (fun c5 => ?_) (fun c5 => ?_)
              · have hvl := hVl_lt hpre hgt (pt - (b + 1)) (fun q hq => by have := hpm.1 q (by omega); omega)
                rw [show b + 1 + (pt - (b + 1)) = pt by omega] at hvl
                refine lv_iconst (v := nI 1) hx hb dX9_turn_107 (by decide +kernel) ?_
                subst hAe
                exact W.zret (v := nI 1) hx hb hr (by decide +kernel) (fun t ht _ => ⟨⟨nI 1, w9, rfl, Or.inr ⟨rfl, F1, t1, hrx, hat1, hpm1, hvl⟩, by rw [ht]; exact hP, hD⟩, hS.F ht⟩) hS.2.2 dX9_turn_108
              · have hbi : b + i < pt - i := Nat.not_le.mp (fun z => c5 (nI_le z (by omega)))
                refine lv_aload_n hx hb dX9_turn_88 rfl (lv_at hl 2 rfl) ?_
                refine lv_iload_n hx hb dX9_turn_89 rfl (lv_at hl 1 rfl) ?_
                refine lv_iload_n hx hb dX9_turn_90 rfl (lv_at hl 0 rfl) ?_
                refine lv_iadd hx hb dX9_turn_91 ?_
                refine htopi (v := nI (b + i)) (nI_add _ _) ?_
                refine lv_aload_n hx hb dX9_turn_92 rfl (lv_at hl 2 rfl) ?_
                refine va_get (v := .int (nI pt)) (C := RX9) (T := TX9) (N := 18) hx hb hts (hin_X9 hmc) hown E.1.1 hP 0 g0 rfl 3 (by decide) (hts _ (hmc _ k_572)) (fun _ h9 => h9) rfl dX9_turn_93 ?_
                refine lv_iload_n hx hb dX9_turn_96 rfl (lv_at hl 0 rfl) ?_
                refine lv_isub hx hb dX9_turn_97 ?_
                refine htopi (v := nI (pt - i)) (pk_sub (by omega)) ?_
                refine hc_v E hD hS (va_runV (As := [.int (nI (b + i)), .int (nI (pt - i))]) (rest := []) ⟨hx, hb, hml, hown, hts⟩ ((c_X9_change l D K tv w9 ad (hup f 5 F1) ct pt md lz kp fd hrx (b + i) (pt - i) (by omega) (by omega)) H.size) (cwV 2 hts (hGV hmc k_703 k_705 k_13 k_29 k_706) rfl rfl rfl (by decide +kernel) ⟨Nat.le_of_ble_eq_true rfl, Nat.le_of_ble_eq_true rfl⟩) (hpreV E hP hD hS g0 rfl) rfl rfl hl.1 rfl (lv_room (Nat.le_of_ble_eq_true rfl)) dX9_turn_98 ⟨(Nat.le_refl _), (Nat.le_refl _)⟩) (fun ws2 H locs hrx hP hD hS => ?_)
                rw [hup_up] at hrx
                refine lv_iinc (v := nI (i + 1)) (lv' := [(3, .int (nI (i + 1))), (1, .int (nI b)), (0, .ref (ad 0))]) hx hb dX9_turn_101 hl (k := 0) rfl (nI_1 _) (by decide) rfl (fun ls hl => ?_)
                refine lv_goto (tgt := 76) hx hb dX9_turn_104 (by decide) ?_
                exact ih3 (i + 1) _ H locs ls ⟨by omega, by omega, _, hsw t1 (b + i) (pt - i), hrx, hsw_at hat1 (by omega) (by omega), hsw_pm hpm1 (by omega) (by omega), fun q hq => by rw [show hsw t1 (b + i) (pt - i) q = t1 q from (if_neg (by omega)).trans (if_neg (by omega))]; exact hpre q hq, by rw [show hsw t1 (b + i) (pt - i) b = t1 b from (if_neg (by omega)).trans (if_neg (by omega))]; exact hgt⟩ (by omega) hP hD hS (lv_sub hl [0, 1, 2] rfl)
            · have hlt2 : t j < t b := Nat.not_le.mp (fun z => c4 (nI_le z (by omega)))
              have hjb : b + 1 < j := by
                rcases Nat.lt_or_ge (b + 1) j with z | z
                · exact z
                · have e : j = b + 1 := by omega
                  rw [e] at hlt2
                  omega
              refine lv_iinc (v := nI (j - 1)) (lv' := [(2, .int (nI (j - 1))), (1, .int (nI b)), (0, .ref (ad 0))]) hx hb dX9_turn_62 hl (k := 0) rfl (hnI_dec (by omega)) (by decide) rfl (fun ls hl => ?_)
              refine lv_goto (tgt := 47) hx hb dX9_turn_65 (by decide) ?_
              exact ih2 (j - 1) ls ⟨by omega, by omega⟩ (by omega) (lv_sub hl [0, 1, 2] rfl)
          · exact absurd (Int32.not_lt.mp (nI_pos (by omega))) c3
        · refine lv_iinc (v := (hkv b)) (lv' := [(1, .int (hkv b)), (0, .ref (ad 0))]) hx hb dX9_turn_28 hl (k := 0) rfl (hkv_dec b) (by decide) rfl (fun ls hl => ?_)
          refine lv_goto (tgt := 7) hx hb dX9_turn_31 (by decide) ?_
          exact ih b ls (by omega) (Nat.lt_succ_self _) (lv_sub hl [0, 1] rfl)
