set_option maxHeartbeats 4000000 in
set_option maxRecDepth 100000 in
/-- firstIn -/
theorem c_X1_firstIn (l : Launch) (D : va_G) (K : Nat → ClassId) (tv : Nat) (ws : va_W) (ad : Nat → Nat) (F : Nat → Nat → Int32) (cnt : Nat) (ht : hTr K ad ws F cnt) (v code : Nat) (g : Nat → Nat) (X : Nat → Prop) (h640 : cnt ≤ 640) (hf : ∀ i, i < cnt → F v i = nI (g i) ∧ g i < 262144) (hs : hSor g cnt X) (hv : v < 3) (hcode : code < 2 ^ 31) : hI l D (hTy K) tv yX1_firstIn cX1_firstIn 3 (some .int) ({ frames := 1, cells := 0, slots := 0, locals := 60 }) [.ref (ad 1), .int (nI v), .int (nI code)] ws (fun r ws1 => ws = ws1 ∧ r = nI (hlbf g cnt code)) := by
  intro sz
  refine Met.ofW (cc := cX1_firstIn) (maxL := 3) (ret := (some .int)) (by decide) rfl ?_
  intro p e s m args below meth c s₁ B hml hv0
  obtain ⟨rfl, rfl, E, hP, hD⟩ := hentry hv0
  have hx := B.exec
  have hb := B.bytes
  have hr := B.returns
  have hts := atoms_spec (ws := hC yX1_firstIn cX1_firstIn 3 (some .int)) B.pre
  have hown : s.vm.findClass RX1 = some m.cls := findClass_of_methodNamed B.named
  have hlocks := B.notSynchronized
  generalize hAe : va_A ws s.heap.size = A at hD E ⊢
  have hl := lv_entry ([.ref (ad 1), .int (nI v), .int (nI code)]) (n := 3) (Nat.le_of_ble_eq_true rfl)
  rw [lg_entry_eq]
  generalize (lg_sl ([.ref (ad 1), .int (nI v), .int (nI code)]) ++ List.replicate (3 - (lg_sl ([.ref (ad 1), .int (nI v), .int (nI code)])).length) Slot.unset).toArray = ls at hl ⊢
  have hl : lv_has ls 3 [(0, .ref (ad 1)), (1, .int (nI v)), (2, .int (nI code))] := hl
  refine hat0 (fun H hHe => ?_)
  have hP : va_P D vwCl ws H := by rw [hHe]; exact hP
  have hS : va_S A s.heap H [] := by rw [hHe]; exact va_S.rf
  obtain ⟨h1, ⟨fq, h2, hfq⟩, h3⟩ := ht
  have hv3 := h3 v hv
  refine lv_aload_n hx hb dX1_firstIn_0 rfl (lv_at hl 0 rfl) ?_
  refine va_get (v := .ref (ad 2)) (C := RX1) (T := TX1) (N := 2) hx hb hts (hin_X1 hmc) hown E.1.1 hP 1 h1 rfl 0 (by decide) (hts _ (hmc _ k_51)) (fun _ h9 => h9) rfl dX1_firstIn_1 ?_
  refine lv_iload_n hx hb dX1_firstIn_4 rfl (lv_at hl 1 rfl) ?_
  refine hald2 hx hb E.1.1 hP 2 2 h2 rfl (vp_in_nI (by omega) (by omega)) dX1_firstIn_5 ?_
  refine htopq (v := (ad (3 + v))) (by rw [nI_clamp (by omega)]; exact hfq v hv) ?_
  refine lv_aload_n hx hb dX1_firstIn_6 rfl (lv_at hl 0 rfl) ?_
  refine va_get (v := .int (nI cnt)) (C := RX1) (T := TX1) (N := 2) hx hb hts (hin_X1 hmc) hown E.1.1 hP 1 h1 rfl 1 (by decide) (hts _ (hmc _ k_53)) (fun _ h9 => h9) rfl dX1_firstIn_7 ?_
  refine lv_iload_n hx hb dX1_firstIn_10 rfl (lv_at hl 2 rfl) ?_
  refine hc_i E hD hS (va_runSN (As := [.ref (ad (3 + v)), .int (nI cnt), .int (nI code)]) (rest := []) ⟨hx, hb, hml, hown, hts⟩ ((c_X0_firstFrom l D K tv ws (3 + v) (ad (3 + v)) cnt code (F v) g X hv3 (fun i hi => ⟨(hf i hi).1, by have := (hf i hi).2; omega⟩) hs h640 hcode) H.size) ⟨va_cnB 3 hts (hGc hmc k_261) rfl rfl rfl (E.1.2.1 _ k_259) (hts _ (hmc _ k_20)) (by decide +kernel) ⟨Nat.le_of_ble_eq_true rfl, Nat.le_of_ble_eq_true rfl⟩, (hts _ (hmc _ k_260)), trivial⟩ (hpre E hP hD hS) rfl rfl hl.1 rfl (lv_room (Nat.le_of_ble_eq_true rfl)) dX1_firstIn_11 ⟨(Nat.le_refl _), (Nat.le_refl _)⟩) (fun r2 ws1 H locs hp hP hD hS => ?_)
  obtain ⟨rfl, rfl⟩ := hp
  subst hAe
  exact W.iret (v := (nI (hlbf g cnt code))) hx hb hr (fun t ht _ => ⟨⟨(nI (hlbf g cnt code)), ws, rfl, ⟨rfl, rfl⟩, by rw [ht]; exact hP, hD⟩, hS.F ht⟩) hS.2.2 dX1_firstIn_14

set_option maxHeartbeats 4000000 in
set_option maxRecDepth 100000 in
/-- has -/
theorem c_X1_has (l : Launch) (D : va_G) (K : Nat → ClassId) (tv : Nat) (ws : va_W) (ad : Nat → Nat) (F : Nat → Nat → Int32) (g : Nat → Nat → Nat) (cnt : Nat) (X : Nat → Nat → Prop) (ht : hTr K ad ws F cnt) (hw : hVw F g cnt X) (na nb nc : Nat) (ha : na < 64) (hb6 : nb < 64) (hc : nc < 64) : hI l D (hTy K) tv yX1_has cX1_has 6 (some .boolean) ({ frames := 3, cells := 0, slots := 0, locals := 180 }) [.ref (ad 1), .int (nI na), .int (nI nb), .int (nI nc)] ws (fun r ws1 => ws = ws1 ∧ hBool r (X 0 (hvc 0 na nb nc))) := by
  intro sz
  refine Met.ofW (cc := cX1_has) (maxL := 6) (ret := (some .boolean)) (by decide) rfl ?_
  intro p e s m args below meth c s₁ B hml hv0
  obtain ⟨rfl, rfl, E, hP, hD⟩ := hentry hv0
  have hx := B.exec
  have hb := B.bytes
  have hr := B.returns
  have hts := atoms_spec (ws := hC yX1_has cX1_has 6 (some .boolean)) B.pre
  have hown : s.vm.findClass RX1 = some m.cls := findClass_of_methodNamed B.named
  have hlocks := B.notSynchronized
  generalize hAe : va_A ws s.heap.size = A at hD E ⊢
  have hl := lv_entry ([.ref (ad 1), .int (nI na), .int (nI nb), .int (nI nc)]) (n := 6) (Nat.le_of_ble_eq_true rfl)
  rw [lg_entry_eq]
  generalize (lg_sl ([.ref (ad 1), .int (nI na), .int (nI nb), .int (nI nc)]) ++ List.replicate (6 - (lg_sl ([.ref (ad 1), .int (nI na), .int (nI nb), .int (nI nc)])).length) Slot.unset).toArray = ls at hl ⊢
  have hl : lv_has ls 6 [(0, .ref (ad 1)), (1, .int (nI na)), (2, .int (nI nb)), (3, .int (nI nc))] := hl
  refine hat0 (fun H hHe => ?_)
  have hP : va_P D vwCl ws H := by rw [hHe]; exact hP
  have hS : va_S A s.heap H [] := by rw [hHe]; exact va_S.rf
  obtain ⟨h1, ⟨fq, h2, hfq⟩, h3⟩ := id ht
  have h640 := hw.1
  have hv3 := h3 0 (by decide)
  obtain ⟨hf, hs⟩ := hw.2 0 (by decide)
  have hcl := hvc_lt (v := 0) (by decide) ha hb6 hc
  have hlb := hs.lb (hvc 0 na nb nc)
  have hln := hlb.1
  refine lv_iconst (v := nI 0) hx hb dX1_has_0 (by decide +kernel) ?_
  refine lv_iload_n hx hb dX1_has_1 rfl (lv_at hl 1 rfl) ?_
  refine lv_iload_n hx hb dX1_has_2 rfl (lv_at hl 2 rfl) ?_
  refine lv_iload_n hx hb dX1_has_3 rfl (lv_at hl 3 rfl) ?_
  refine hc_si (va_runSN (As := [.int (nI 0), .int (nI na), .int (nI nb), .int (nI nc)]) (rest := []) ⟨hx, hb, hml, hown, hts⟩ (c_X0_codeOf l 0 na nb nc (by decide) ha hb6 hc) ⟨va_cnB 4 hts (hGc hmc k_248) rfl rfl rfl (E.1.2.1 _ k_246) (hts _ (hmc _ k_20)) (by decide +kernel) ⟨Nat.le_of_ble_eq_true rfl, Nat.le_of_ble_eq_true rfl⟩, (hts _ (hmc _ k_247)), trivial⟩ hpre0 rfl rfl hl.1 rfl (lv_room (Nat.le_of_ble_eq_true rfl)) dX1_has_4 ⟨(Nat.le_refl _), (Nat.le_refl _)⟩) (fun r1 hp => ?_)
  subst hp
  refine lv_istore (lv' := [(4, .int (nI (hvc 0 na nb nc))), (0, .ref (ad 1)), (1, .int (nI na)), (2, .int (nI nb)), (3, .int (nI nc))]) hx hb dX1_has_7 hl (by decide) rfl (fun ls hl => ?_)
  refine lv_aload_n hx hb dX1_has_9 rfl (lv_at hl 1 rfl) ?_
  refine lv_iconst (v := nI 0) hx hb dX1_has_10 (by decide +kernel) ?_
  refine lv_iload hx hb dX1_has_11 (lv_at hl 0 rfl) ?_
  refine hc_i E hD hS (va_runV (As := [.int (nI 0), .int (nI (hvc 0 na nb nc))]) (rest := []) ⟨hx, hb, hml, hown, hts⟩ ((c_X1_firstIn l D K tv ws ad F cnt ht 0 (hvc 0 na nb nc) (g 0) (X 0) h640 hf hs (by decide) (by omega)) H.size) (cwV 2 hts (hGV hmc k_255 k_256 k_257 k_21 k_258) rfl rfl rfl (by decide +kernel) ⟨Nat.le_of_ble_eq_true rfl, Nat.le_of_ble_eq_true rfl⟩) (hpreV E hP hD hS h1 rfl) rfl rfl hl.1 rfl (lv_room (Nat.le_of_ble_eq_true rfl)) dX1_has_13 ⟨(Nat.le_refl _), (Nat.le_refl _)⟩) (fun r3 ws2 H locs hp hP hD hS => ?_)
  obtain ⟨rfl, rfl⟩ := hp
  generalize hlbf (g 0) cnt (hvc 0 na nb nc) = k at hlb hln ⊢
  refine lv_istore (lv' := [(5, .int (nI k)), (4, .int (nI (hvc 0 na nb nc))), (0, .ref (ad 1)), (1, .int (nI na)), (2, .int (nI nb)), (3, .int (nI nc))]) hx hb dX1_has_16 hl (by decide) rfl (fun ls hl => ?_)
  refine lv_iload hx hb dX1_has_18 (lv_at hl 0 rfl) ?_
  refine lv_aload_n hx hb dX1_has_20 rfl (lv_at hl 2 rfl) ?_
  refine va_get (v := .int (nI cnt)) (C := RX1) (T := TX1) (N := 2) hx hb hts (hin_X1 hmc) hown E.1.1 hP 1 h1 rfl 1 (by decide) (hts _ (hmc _ k_53)) (fun _ h9 => h9) rfl dX1_has_21 ?_
  refine lv_icmp_ge (tgt := 45) hx hb dX1_has_24 (by decide) (fun c1 => ?_) (fun c1 => ?_)
  · refine lv_iconst (v := nI 0) hx hb dX1_has_45 (by decide +kernel) ?_
    subst hAe
    exact W.zret (v := nI 0) hx hb hr (by decide +kernel) (fun t ht _ => ⟨⟨nI 0, ws, rfl, ⟨rfl, hBool.no (fun z => absurd ((nI_leI (by omega) (by omega)).mp c1) (Nat.not_le.mpr ((hs.has hlb).mp z).1))⟩, by rw [ht]; exact hP, hD⟩, hS.F ht⟩) hS.2.2 dX1_has_46
  · have hk : k < cnt := Nat.not_le.mp (fun z => c1 (nI_le z (by omega)))
    obtain ⟨e1, e2⟩ := hf k hk
    refine lv_aload_n hx hb dX1_has_27 rfl (lv_at hl 2 rfl) ?_
    refine va_get (v := .ref (ad 2)) (C := RX1) (T := TX1) (N := 2) hx hb hts (hin_X1 hmc) hown E.1.1 hP 1 h1 rfl 0 (by decide) (hts _ (hmc _ k_51)) (fun _ h9 => h9) rfl dX1_has_28 ?_
    refine lv_iconst (v := nI 0) hx hb dX1_has_31 (by decide +kernel) ?_
    refine hald2 hx hb E.1.1 hP 2 2 h2 rfl (vp_in_nI (by omega) (by omega)) dX1_has_32 ?_
    refine htopq (v := (ad (3 + 0))) (by rw [nI_clamp (by omega)]; exact hfq 0 (by decide)) ?_
    refine lv_iload hx hb dX1_has_33 (lv_at hl 0 rfl) ?_
    refine va_iald hx hb E.1.1 hP (3 + 0) 0 hv3 rfl (vp_in_nI (by omega) (by omega)) dX1_has_35 ?_
    refine htopi (v := (F 0) k) (by rw [nI_clamp (by omega)]) ?_
    refine htopi (v := nI (g 0 k)) (e1) ?_
    refine lv_iload hx hb dX1_has_36 (lv_at hl 1 rfl) ?_
    refine lv_icmp_ne (tgt := 45) hx hb dX1_has_38 (by decide) (fun c2 => ?_) (fun c2 => ?_)
    · refine lv_iconst (v := nI 0) hx hb dX1_has_45 (by decide +kernel) ?_
      subst hAe
      exact W.zret (v := nI 0) hx hb hr (by decide +kernel) (fun t ht _ => ⟨⟨nI 0, ws, rfl, ⟨rfl, hBool.no (fun z => c2 (by rw [((hs.has hlb).mp z).2]))⟩, by rw [ht]; exact hP, hD⟩, hS.F ht⟩) hS.2.2 dX1_has_46
    · refine lv_iconst (v := nI 1) hx hb dX1_has_41 (by decide +kernel) ?_
      refine lv_goto (tgt := 46) hx hb dX1_has_42 (by decide) ?_
      subst hAe
      exact W.zret (v := nI 1) hx hb hr (by decide +kernel) (fun t ht _ => ⟨⟨nI 1, ws, rfl, ⟨rfl, hBool.yes ((hs.has hlb).mpr ⟨hk, (nI_eq (by omega) (by omega)).mp c2⟩)⟩, by rw [ht]; exact hP, hD⟩, hS.F ht⟩) hS.2.2 dX1_has_46

set_option maxHeartbeats 4000000 in
set_option maxRecDepth 100000 in
/-- put -/
theorem c_X1_put (l : Launch) (D : va_G) (K : Nat → ClassId) (tv : Nat) (ws : va_W) (ad : Nat → Nat) (F : Nat → Nat → Int32) (g : Nat → Nat → Nat) (cnt : Nat) (X : Nat → Nat → Prop) (ht : hTr K ad ws F cnt) (hw : hVw F g cnt X) (na nb nc : Nat) (ha : na < 64) (hb6 : nb < 64) (hc : nc < 64) (hcn : cnt < 640) : hV l D (hTy K) tv yX1_put cX1_put 8 none ({ frames := 3, cells := 0, slots := 0, locals := 180 }) [.ref (ad 1), .int (nI na), .int (nI nb), .int (nI nc)] ws (fun ws1 => hAg 1 6 ws ws1 ∧ ∃ F1, hTr K ad ws1 F1 (cnt + 1) ∧ ∀ v, v < 3 → ∀ i, i < cnt + 1 → F1 v i = nI (hIns (g v) (hlbf (g v) cnt (hvc v na nb nc)) (hvc v na nb nc) i)) := by
  intro sz
  refine Met.ofW (cc := cX1_put) (maxL := 8) (ret := none) (by decide) rfl ?_
  intro p e s m args below meth c s₁ B hml hv0
  obtain ⟨rfl, rfl, E, hP, hD⟩ := hentry hv0
  have hx := B.exec
  have hb := B.bytes
  have hr := B.returns
  have hts := atoms_spec (ws := hC yX1_put cX1_put 8 none) B.pre
  have hown : s.vm.findClass RX1 = some m.cls := findClass_of_methodNamed B.named
  have hlocks := B.notSynchronized
  generalize hAe : va_A ws s.heap.size = A at hD E ⊢
  have hl := lv_entry ([.ref (ad 1), .int (nI na), .int (nI nb), .int (nI nc)]) (n := 8) (Nat.le_of_ble_eq_true rfl)
  rw [lg_entry_eq]
  generalize (lg_sl ([.ref (ad 1), .int (nI na), .int (nI nb), .int (nI nc)]) ++ List.replicate (8 - (lg_sl ([.ref (ad 1), .int (nI na), .int (nI nb), .int (nI nc)])).length) Slot.unset).toArray = ls at hl ⊢
  have hl : lv_has ls 8 [(0, .ref (ad 1)), (1, .int (nI na)), (2, .int (nI nb)), (3, .int (nI nc))] := hl
  refine hat0 (fun H hHe => ?_)
  have hP : va_P D vwCl ws H := by rw [hHe]; exact hP
  have hS : va_S A s.heap H [] := by rw [hHe]; exact va_S.rf
  obtain ⟨h1, ⟨fq, h2, hfq⟩, h3⟩ := id ht
  have h640 := hw.1
  refine lv_aload_n hx hb dX1_put_0 rfl (lv_at hl 0 rfl) ?_
  refine va_get (v := .int (nI cnt)) (C := RX1) (T := TX1) (N := 2) hx hb hts (hin_X1 hmc) hown E.1.1 hP 1 h1 rfl 1 (by decide) (hts _ (hmc _ k_53)) (fun _ h9 => h9) rfl dX1_put_1 ?_
  refine lv_sipush (v := nI 640) hx hb dX1_put_4 (by decide +kernel) ?_
  refine lv_icmp_lt (tgt := 11) hx hb dX1_put_7 (by decide) (fun c1 => ?_) (fun c1 => ?_)
  · refine lv_iconst (v := nI 0) hx hb dX1_put_11 (by decide +kernel) ?_
    refine lv_istore (lv' := [(4, .int (nI 0)), (0, .ref (ad 1)), (1, .int (nI na)), (2, .int (nI nb)), (3, .int (nI nc))]) hx hb dX1_put_12 hl (by decide) rfl (fun ls hl => ?_)
    refine hloopW (α := Nat) 14 8 (fun v => [(4, .int (nI v)), (0, .ref (ad 1)), (1, .int (nI na)), (2, .int (nI nb)), (3, .int (nI nc))]) (fun v w1 => v ≤ 3 ∧ hAg 1 6 ws w1 ∧ ∃ F1, hTr K ad w1 F1 cnt ∧ (∀ u, v ≤ u → u < 3 → F1 u = F u) ∧ ∀ u, u < v → ∀ i, i < cnt + 1 → F1 u i = nI (hIns (g u) (hlbf (g u) cnt (hvc u na nb nc)) (hvc u na nb nc) i)) (fun v => 3 - v) (fun _ => 0) (fun _ => 0) ?_ 0 ⟨by decide, hAg.rf, F, ht, fun _ _ _ => rfl, fun u hu => by omega⟩ hP hD hS (lv_sub hl [0, 1, 2, 3, 4] rfl)
    intro v w1 H locs ls hI1 hP hD hS hl ih
    obtain ⟨hv3, hag, F1, ht1, hold, hnew⟩ := hI1
    obtain ⟨h1, ⟨fq, h2, hfq⟩, h3⟩ := id ht1
    have hl : lv_has ls 8 [(4, .int (nI v)), (0, .ref (ad 1)), (1, .int (nI na)), (2, .int (nI nb)), (3, .int (nI nc))] := hl
    refine lv_iload hx hb dX1_put_14 (lv_at hl 0 rfl) ?_
    refine lv_iconst (v := nI 3) hx hb dX1_put_16 (by decide +kernel) ?_
    refine lv_icmp_ge (tgt := 82) hx hb dX1_put_17 (by decide) (fun c2 => ?_) (fun c2 => ?_)
    · have hv : v = 3 := by
        rcases Nat.lt_or_ge v 3 with z | z
        · exact absurd c2 (nI_ge z (by decide))
        · omega
      refine lv_aload_n hx hb dX1_put_82 rfl (lv_at hl 1 rfl) ?_
      refine lv_dup hx hb dX1_put_83 rfl ?_
      refine va_get (v := .int (nI cnt)) (C := RX1) (T := TX1) (N := 2) hx hb hts (hin_X1 hmc) hown E.1.1 hP 1 h1 rfl 1 (by decide) (hts _ (hmc _ k_53)) (fun _ h9 => h9) rfl dX1_put_84 ?_
      refine lv_iconst (v := nI 1) hx hb dX1_put_87 (by decide +kernel) ?_
      refine lv_iadd hx hb dX1_put_88 ?_
      refine htopi (v := nI (cnt + 1)) (nI_add _ _) ?_
      refine va_put (v := .int (nI (cnt + 1))) (ty := .int) (C := RX1) (T := TX1) (N := 2) hx hb hts (hin_X1 hmc) tyX1 tyX1_ok nmX1 hown E.1.1 hP hD hS 1 h1 rfl 1 (by decide) (hts _ (hmc _ k_53)) (fun _ h9 => h9) rfl (by decide +kernel) rfl rfl (Nat.le_of_ble_eq_true rfl) dX1_put_89 (fun H locs hP hD hS => ?_)
      obtain ⟨ws1, ews1⟩ : ∃ zw : va_W, zw = List.set w1 1 ((ad 1), .inr (iT, [.ref (ad 2), .int (nI (cnt + 1))])) := ⟨_, rfl⟩
      have hP : va_P D vwCl ws1 H := by rw [ews1]; exact hP
      have hD : va_D A ws1 := by rw [ews1]; exact hD
      have h1 : ws1[1]? = some ((ad 1), .inr (iT, [.ref (ad 2), .int (nI (cnt + 1))])) := by rw [ews1]; exact hset_eq h1
      have h2 := (show ws1[2]? = _ from (by rw [ews1]; exact hset_ne (by omega))).trans h2
      subst hAe
      exact W.vret hx hb hr (fun t ht _ => ⟨⟨ws1, rfl, ⟨by rw [ews1]; exact (hag.set (by decide) (by decide)), F1, ⟨h1, ⟨fq, h2, hfq⟩, fun u hu => by rw [ews1, hset_ne (by omega)]; exact h3 u hu⟩, fun u hu => hnew u (by omega)⟩, by rw [ht]; exact hP, hD⟩, hS.F ht⟩) hS.2.2 dX1_put_92
    · have hv : v < 3 := Nat.not_le.mp (fun z => c2 (nI_le z (by omega)))
      have hv3 := h3 v hv
      have eF : F1 v = F v := hold v (Nat.le_refl _) hv
      obtain ⟨hf, hs⟩ := hw.2 v hv
      have hf1 : ∀ i, i < cnt → F1 v i = nI (g v i) ∧ g v i < 262144 := fun i hi => by rw [eF]; exact hf i hi
      have hcl := hvc_lt hv ha hb6 hc
      have hlb := hs.lb (hvc v na nb nc)
      have hln := hlb.1
      refine lv_aload_n hx hb dX1_put_20 rfl (lv_at hl 1 rfl) ?_
      refine va_get (v := .ref (ad 2)) (C := RX1) (T := TX1) (N := 2) hx hb hts (hin_X1 hmc) hown E.1.1 hP 1 h1 rfl 0 (by decide) (hts _ (hmc _ k_51)) (fun _ h9 => h9) rfl dX1_put_21 ?_
      refine lv_iload hx hb dX1_put_24 (lv_at hl 0 rfl) ?_
      refine hald2 hx hb E.1.1 hP 2 2 h2 rfl (vp_in_nI (by omega) (by omega)) dX1_put_26 ?_
      refine htopq (v := (ad (3 + v))) (by rw [nI_clamp (by omega)]; exact hfq v hv) ?_
      refine lv_astore (lv' := [(5, .ref (ad (3 + v))), (4, .int (nI v)), (0, .ref (ad 1)), (1, .int (nI na)), (2, .int (nI nb)), (3, .int (nI nc))]) hx hb dX1_put_27 hl (by decide) rfl (fun ls hl => ?_)
      refine lv_iload hx hb dX1_put_29 (lv_at hl 1 rfl) ?_
      refine lv_iload_n hx hb dX1_put_31 rfl (lv_at hl 3 rfl) ?_
      refine lv_iload_n hx hb dX1_put_32 rfl (lv_at hl 4 rfl) ?_
      refine lv_iload_n hx hb dX1_put_33 rfl (lv_at hl 5 rfl) ?_
      refine hc_si (va_runSN (As := [.int (nI v), .int (nI na), .int (nI nb), .int (nI nc)]) (rest := []) ⟨hx, hb, hml, hown, hts⟩ (c_X0_codeOf l v na nb nc hv ha hb6 hc) ⟨va_cnB 4 hts (hGc hmc k_248) rfl rfl rfl (E.1.2.1 _ k_246) (hts _ (hmc _ k_20)) (by decide +kernel) ⟨Nat.le_of_ble_eq_true rfl, Nat.le_of_ble_eq_true rfl⟩, (hts _ (hmc _ k_247)), trivial⟩ hpre0 rfl rfl hl.1 rfl (lv_room (Nat.le_of_ble_eq_true rfl)) dX1_put_34 ⟨(Nat.le_refl _), (Nat.le_refl _)⟩) (fun r2 hp => ?_)
      subst hp
      refine lv_istore (lv' := [(6, .int (nI (hvc v na nb nc))), (5, .ref (ad (3 + v))), (4, .int (nI v)), (0, .ref (ad 1)), (1, .int (nI na)), (2, .int (nI nb)), (3, .int (nI nc))]) hx hb dX1_put_37 hl (by decide) rfl (fun ls hl => ?_)
      refine lv_aload_n hx hb dX1_put_39 rfl (lv_at hl 3 rfl) ?_
      refine lv_iload hx hb dX1_put_40 (lv_at hl 2 rfl) ?_
      refine lv_iload hx hb dX1_put_42 (lv_at hl 0 rfl) ?_
      refine hc_i E hD hS (va_runV (As := [.int (nI v), .int (nI (hvc v na nb nc))]) (rest := []) ⟨hx, hb, hml, hown, hts⟩ ((c_X1_firstIn l D K tv w1 ad F1 cnt ht1 v (hvc v na nb nc) (g v) (X v) h640 hf1 hs hv (by omega)) H.size) (cwV 2 hts (hGV hmc k_255 k_256 k_257 k_21 k_258) rfl rfl rfl (by decide +kernel) ⟨Nat.le_of_ble_eq_true rfl, Nat.le_of_ble_eq_true rfl⟩) (hpreV E hP hD hS h1 rfl) rfl rfl hl.1 rfl (lv_room (Nat.le_of_ble_eq_true rfl)) dX1_put_44 ⟨(Nat.le_refl _), (Nat.le_refl _)⟩) (fun r4 ws3 H locs hp hP hD hS => ?_)
      obtain ⟨rfl, rfl⟩ := hp
      have hkk : ∀ i, i < cnt + 1 → upd (va_cpy (F1 v) (F1 v) (hlbf (g v) cnt (hvc v na nb nc)) (hlbf (g v) cnt (hvc v na nb nc) + 1) (cnt - hlbf (g v) cnt (hvc v na nb nc))) (hlbf (g v) cnt (hvc v na nb nc)) (nI (hvc v na nb nc)) i = nI (hIns (g v) (hlbf (g v) cnt (hvc v na nb nc)) (hvc v na nb nc) i) := hIns_arr hln (fun i hi => (hf1 i hi).1)
      generalize hkv : hlbf (g v) cnt (hvc v na nb nc) = k at hlb hln hkk ⊢
      refine lv_istore (lv' := [(7, .int (nI k)), (6, .int (nI (hvc v na nb nc))), (5, .ref (ad (3 + v))), (4, .int (nI v)), (0, .ref (ad 1)), (1, .int (nI na)), (2, .int (nI nb)), (3, .int (nI nc))]) hx hb dX1_put_47 hl (by decide) rfl (fun ls hl => ?_)
      refine lv_aload hx hb dX1_put_49 (lv_at hl 2 rfl) ?_
      refine lv_iload hx hb dX1_put_51 (lv_at hl 0 rfl) ?_
      refine lv_aload hx hb dX1_put_53 (lv_at hl 2 rfl) ?_
      refine lv_iload hx hb dX1_put_55 (lv_at hl 0 rfl) ?_
      refine lv_iconst (v := nI 1) hx hb dX1_put_57 (by decide +kernel) ?_
      refine lv_iadd hx hb dX1_put_58 ?_
      refine htopi (v := nI (k + 1)) (nI_add _ _) ?_
      refine lv_aload_n hx hb dX1_put_59 rfl (lv_at hl 4 rfl) ?_
      refine va_get (v := .int (nI cnt)) (C := RX1) (T := TX1) (N := 2) hx hb hts (hin_X1 hmc) hown E.1.1 hP 1 h1 rfl 1 (by decide) (hts _ (hmc _ k_53)) (fun _ h9 => h9) rfl dX1_put_60 ?_
      refine lv_iload hx hb dX1_put_63 (lv_at hl 0 rfl) ?_
      refine lv_isub hx hb dX1_put_65 ?_
      refine htopi (v := nI (cnt - k)) (pk_sub (by omega)) ?_
      have zn : (nI (cnt - k)).toNatClampNeg = (cnt - k) := nI_clamp (by omega)
      have zd : (nI (k + 1)).toNatClampNeg = (k + 1) := nI_clamp (by omega)
      have zs : (nI k).toNatClampNeg = k := nI_clamp (by omega)
      refine va_copyi (ty := .int) hx hb (hml.trans hl.1.symm) hown (hts _ (hmc _ k_266)) (hts _ (hmc _ k_268)) (hts _ (hmc _ k_267)) (hts _ (hmc _ k_31)) E.1.1 hP hD hS (3 + v) (3 + v) 0 0 hv3 hv3 rfl rfl rfl (nI_pos (by omega)) (nI_pos (by omega)) (nI_pos (by omega)) (by rw [zs, zn]; omega) (by rw [zd, zn]; omega) (fun _ _ => rfl) (Nat.le_of_ble_eq_true rfl) (Nat.le_of_ble_eq_true rfl) dX1_put_66 (fun H locs hP hD hS => ?_)
      simp only [zn, zd, zs] at hP hD
      obtain ⟨ws5, ews5⟩ : ∃ zw : va_W, zw = List.set w1 (3 + v) ((ad (3 + v)), .inl (K 0, 640, .inl (va_cpy (F1 v) (F1 v) k (k + 1) (cnt - k)))) := ⟨_, rfl⟩
      have hP : va_P D vwCl ws5 H := by rw [ews5]; exact hP
      have hD : va_D A ws5 := by rw [ews5]; exact hD
      have h1 := (show ws5[1]? = _ from (by rw [ews5]; exact hset_ne (by omega))).trans h1
      have h2 := (show ws5[2]? = _ from (by rw [ews5]; exact hset_ne (by omega))).trans h2
      have hv3 : ws5[(3 + v)]? = some ((ad (3 + v)), .inl (K 0, 640, .inl (va_cpy (F1 v) (F1 v) k (k + 1) (cnt - k)))) := by rw [ews5]; exact hset_eq hv3
      refine lv_aload hx hb dX1_put_69 (lv_at hl 2 rfl) ?_
      refine lv_iload hx hb dX1_put_71 (lv_at hl 0 rfl) ?_
      refine lv_iload hx hb dX1_put_73 (lv_at hl 1 rfl) ?_
      refine va_iast hx hb E.1.1 hP hD hS (3 + v) 0 hv3 rfl (vp_in_nI (by omega) (by omega)) dX1_put_75 (fun H locs hP hD hS => ?_)
      rw [nI_clamp (show k < 2 ^ 31 by omega)] at hP hD
      obtain ⟨ws6, ews6⟩ : ∃ zw : va_W, zw = List.set ws5 (3 + v) ((ad (3 + v)), .inl (K 0, 640, .inl (upd (va_cpy (F1 v) (F1 v) k (k + 1) (cnt - k)) k (nI (hvc v na nb nc))))) := ⟨_, rfl⟩
      have hP : va_P D vwCl ws6 H := by rw [ews6]; exact hP
      have hD : va_D A ws6 := by rw [ews6]; exact hD
      have h1 := (show ws6[1]? = _ from (by rw [ews6]; exact hset_ne (by omega))).trans h1
      have h2 := (show ws6[2]? = _ from (by rw [ews6]; exact hset_ne (by omega))).trans h2
      have hv3 : ws6[(3 + v)]? = some ((ad (3 + v)), .inl (K 0, 640, .inl (upd (va_cpy (F1 v) (F1 v) k (k + 1) (cnt - k)) k (nI (hvc v na nb nc))))) := by rw [ews6]; exact hset_eq hv3
      refine lv_iinc (v := nI (v + 1)) (lv' := [(4, .int (nI (v + 1))), (7, .int (nI k)), (6, .int (nI (hvc v na nb nc))), (5, .ref (ad (3 + v))), (0, .ref (ad 1)), (1, .int (nI na)), (2, .int (nI nb)), (3, .int (nI nc))]) hx hb dX1_put_76 hl (k := 3) rfl (nI_1 _) (by decide) rfl (fun ls hl => ?_)
      refine lv_goto (tgt := 14) hx hb dX1_put_79 (by decide) ?_
      refine ih (v + 1) _ H locs ls ⟨by omega, ?_, fun u => if u = v then upd (va_cpy (F1 v) (F1 v) k (k + 1) (cnt - k)) k (nI (hvc v na nb nc)) else F1 u, ⟨h1, ⟨fq, h2, hfq⟩, ?_⟩, ?_, ?_⟩ (by show 3 - (v + 1) < 3 - v; omega) hP hD hS (lv_sub hl [0, 4, 5, 6, 7] rfl)
      · rw [ews6, ews5]; exact (hag.set (by omega) (by omega)).set (by omega) (by omega)
      · intro u hu
        dsimp only
        by_cases z : u = v
        · subst z; rw [if_pos rfl]; exact hv3
        · rw [if_neg z, ews6, hset_ne (by omega), ews5, hset_ne (by omega)]; exact h3 u hu
      · intro u h1 h2; dsimp only; rw [if_neg (by omega)]; exact hold u (by omega) h2
      · intro u hu i hi
        dsimp only
        by_cases z : u = v
        · subst z; rw [if_pos rfl, hkv]; exact hkk i hi
        · rw [if_neg z]; exact hnew u (by omega) i hi
  · exact absurd (nI_lt hcn (by decide)) c1

set_option maxHeartbeats 4000000 in
set_option maxRecDepth 100000 in
/-- take -/
theorem c_X1_take (l : Launch) (D : va_G) (K : Nat → ClassId) (tv : Nat) (ws : va_W) (ad : Nat → Nat) (F : Nat → Nat → Int32) (g : Nat → Nat → Nat) (cnt : Nat) (X : Nat → Nat → Prop) (ht : hTr K ad ws F cnt) (hw : hVw F g cnt X) (na nb nc : Nat) (ha : na < 64) (hb6 : nb < 64) (hc : nc < 64) (hX : ∀ v, v < 3 → X v (hvc v na nb nc)) : hV l D (hTy K) tv yX1_take cX1_take 7 none ({ frames := 4, cells := 0, slots := 0, locals := 240 }) [.ref (ad 1), .int (nI na), .int (nI nb), .int (nI nc)] ws (fun ws1 => hAg 1 6 ws ws1 ∧ ∃ F1, hTr K ad ws1 F1 (cnt - 1) ∧ ∀ v, v < 3 → ∀ i, i < cnt - 1 → F1 v i = nI (hDel (g v) (hlbf (g v) cnt (hvc v na nb nc)) i)) := by
  intro sz
  refine Met.ofW (cc := cX1_take) (maxL := 7) (ret := none) (by decide) rfl ?_
  intro p e s m args below meth c s₁ B hml hv0
  obtain ⟨rfl, rfl, E, hP, hD⟩ := hentry hv0
  have hx := B.exec
  have hb := B.bytes
  have hr := B.returns
  have hts := atoms_spec (ws := hC yX1_take cX1_take 7 none) B.pre
  have hown : s.vm.findClass RX1 = some m.cls := findClass_of_methodNamed B.named
  have hlocks := B.notSynchronized
  generalize hAe : va_A ws s.heap.size = A at hD E ⊢
  have hl := lv_entry ([.ref (ad 1), .int (nI na), .int (nI nb), .int (nI nc)]) (n := 7) (Nat.le_of_ble_eq_true rfl)
  rw [lg_entry_eq]
  generalize (lg_sl ([.ref (ad 1), .int (nI na), .int (nI nb), .int (nI nc)]) ++ List.replicate (7 - (lg_sl ([.ref (ad 1), .int (nI na), .int (nI nb), .int (nI nc)])).length) Slot.unset).toArray = ls at hl ⊢
  have hl : lv_has ls 7 [(0, .ref (ad 1)), (1, .int (nI na)), (2, .int (nI nb)), (3, .int (nI nc))] := hl
  refine hat0 (fun H hHe => ?_)
  have hP : va_P D vwCl ws H := by rw [hHe]; exact hP
  have hS : va_S A s.heap H [] := by rw [hHe]; exact va_S.rf
  obtain ⟨h1, ⟨fq, h2, hfq⟩, h3⟩ := id ht
  have h640 := hw.1
  refine lv_aload_n hx hb dX1_take_0 rfl (lv_at hl 0 rfl) ?_
  refine lv_iload_n hx hb dX1_take_1 rfl (lv_at hl 1 rfl) ?_
  refine lv_iload_n hx hb dX1_take_2 rfl (lv_at hl 2 rfl) ?_
  refine lv_iload_n hx hb dX1_take_3 rfl (lv_at hl 3 rfl) ?_
  refine hc_i E hD hS (va_runV (As := [.int (nI na), .int (nI nb), .int (nI nc)]) (rest := []) ⟨hx, hb, hml, hown, hts⟩ ((c_X1_has l D K tv ws ad F g cnt X ht hw na nb nc ha hb6 hc) H.size) (cwV 3 hts (hGV hmc k_277 k_243 k_244 k_21 k_245) rfl rfl rfl (by decide +kernel) ⟨Nat.le_of_ble_eq_true rfl, Nat.le_of_ble_eq_true rfl⟩) (hpreV E hP hD hS h1 rfl) rfl rfl hl.1 rfl (lv_room (Nat.le_of_ble_eq_true rfl)) dX1_take_4 ⟨(Nat.le_refl _), (Nat.le_refl _)⟩) (fun r2 ws1 H locs hp hP hD hS => ?_)
  obtain ⟨rfl, hp⟩ := hp
  refine lv_if_ne (tgt := 11) hx hb dX1_take_7 (by decide) (fun c1 => ?_) (fun c1 => ?_)
  · refine lv_iconst (v := nI 0) hx hb dX1_take_11 (by decide +kernel) ?_
    refine lv_istore (lv' := [(4, .int (nI 0)), (0, .ref (ad 1)), (1, .int (nI na)), (2, .int (nI nb)), (3, .int (nI nc))]) hx hb dX1_take_12 hl (by decide) rfl (fun ls hl => ?_)
    refine hloopW (α := Nat) 14 7 (fun v => [(4, .int (nI v)), (0, .ref (ad 1)), (1, .int (nI na)), (2, .int (nI nb)), (3, .int (nI nc))]) (fun v w1 => v ≤ 3 ∧ hAg 1 6 ws w1 ∧ ∃ F1, hTr K ad w1 F1 cnt ∧ (∀ u, v ≤ u → u < 3 → F1 u = F u) ∧ ∀ u, u < v → ∀ i, i < cnt - 1 → F1 u i = nI (hDel (g u) (hlbf (g u) cnt (hvc u na nb nc)) i)) (fun v => 3 - v) (fun _ => 0) (fun _ => 0) ?_ 0 ⟨by decide, hAg.rf, F, ht, fun _ _ _ => rfl, fun u hu => by omega⟩ hP hD hS (lv_sub hl [0, 1, 2, 3, 4] rfl)
    intro v w1 H locs ls hI1 hP hD hS hl ih
    obtain ⟨hv3, hag, F1, ht1, hold, hnew⟩ := hI1
    obtain ⟨h1, ⟨fq, h2, hfq⟩, h3⟩ := id ht1
    have hl : lv_has ls 7 [(4, .int (nI v)), (0, .ref (ad 1)), (1, .int (nI na)), (2, .int (nI nb)), (3, .int (nI nc))] := hl
    refine lv_iload hx hb dX1_take_14 (lv_at hl 0 rfl) ?_
    refine lv_iconst (v := nI 3) hx hb dX1_take_16 (by decide +kernel) ?_
    refine lv_icmp_ge (tgt := 73) hx hb dX1_take_17 (by decide) (fun c2 => ?_) (fun c2 => ?_)
    · have hv : v = 3 := by
        rcases Nat.lt_or_ge v 3 with z | z
        · exact absurd c2 (nI_ge z (by decide))
        · omega
      have hc0 : 0 < cnt := by
        have h5 := ((hw.2 0 (by decide)).2.2 _).mp (hX 0 (by decide))
        obtain ⟨i, hi, -⟩ := h5
        omega
      refine lv_aload_n hx hb dX1_take_73 rfl (lv_at hl 1 rfl) ?_
      refine lv_dup hx hb dX1_take_74 rfl ?_
      refine va_get (v := .int (nI cnt)) (C := RX1) (T := TX1) (N := 2) hx hb hts (hin_X1 hmc) hown E.1.1 hP 1 h1 rfl 1 (by decide) (hts _ (hmc _ k_53)) (fun _ h9 => h9) rfl dX1_take_75 ?_
      refine lv_iconst (v := nI 1) hx hb dX1_take_78 (by decide +kernel) ?_
      refine lv_isub hx hb dX1_take_79 ?_
      refine htopi (v := nI (cnt - 1)) (pk_sub (by omega)) ?_
      refine va_put (v := .int (nI (cnt - 1))) (ty := .int) (C := RX1) (T := TX1) (N := 2) hx hb hts (hin_X1 hmc) tyX1 tyX1_ok nmX1 hown E.1.1 hP hD hS 1 h1 rfl 1 (by decide) (hts _ (hmc _ k_53)) (fun _ h9 => h9) rfl (by decide +kernel) rfl rfl (Nat.le_of_ble_eq_true rfl) dX1_take_80 (fun H locs hP hD hS => ?_)
      obtain ⟨ws3, ews3⟩ : ∃ zw : va_W, zw = List.set w1 1 ((ad 1), .inr (iT, [.ref (ad 2), .int (nI (cnt - 1))])) := ⟨_, rfl⟩
      have hP : va_P D vwCl ws3 H := by rw [ews3]; exact hP
      have hD : va_D A ws3 := by rw [ews3]; exact hD
      have h1 : ws3[1]? = some ((ad 1), .inr (iT, [.ref (ad 2), .int (nI (cnt - 1))])) := by rw [ews3]; exact hset_eq h1
      have h2 := (show ws3[2]? = _ from (by rw [ews3]; exact hset_ne (by omega))).trans h2
      subst hAe
      exact W.vret hx hb hr (fun t ht _ => ⟨⟨ws3, rfl, ⟨by rw [ews3]; exact (hag.set (by decide) (by decide)), F1, ⟨h1, ⟨fq, h2, hfq⟩, fun u hu => by rw [ews3, hset_ne (by omega)]; exact h3 u hu⟩, fun u hu => hnew u (by omega)⟩, by rw [ht]; exact hP, hD⟩, hS.F ht⟩) hS.2.2 dX1_take_83
    · have hv : v < 3 := Nat.not_le.mp (fun z => c2 (nI_le z (by omega)))
      have hv3 := h3 v hv
      have eF : F1 v = F v := hold v (Nat.le_refl _) hv
      obtain ⟨hf, hs⟩ := hw.2 v hv
      have hf1 : ∀ i, i < cnt → F1 v i = nI (g v i) ∧ g v i < 262144 := fun i hi => by rw [eF]; exact hf i hi
      have hcl := hvc_lt hv ha hb6 hc
      have hlb := hs.lb (hvc v na nb nc)
      have hln := hlb.1
      obtain ⟨hkl, hke⟩ := (hs.has hlb).mp (hX v hv)
      refine lv_aload_n hx hb dX1_take_20 rfl (lv_at hl 1 rfl) ?_
      refine va_get (v := .ref (ad 2)) (C := RX1) (T := TX1) (N := 2) hx hb hts (hin_X1 hmc) hown E.1.1 hP 1 h1 rfl 0 (by decide) (hts _ (hmc _ k_51)) (fun _ h9 => h9) rfl dX1_take_21 ?_
      refine lv_iload hx hb dX1_take_24 (lv_at hl 0 rfl) ?_
      refine hald2 hx hb E.1.1 hP 2 2 h2 rfl (vp_in_nI (by omega) (by omega)) dX1_take_26 ?_
      refine htopq (v := (ad (3 + v))) (by rw [nI_clamp (by omega)]; exact hfq v hv) ?_
      refine lv_astore (lv' := [(5, .ref (ad (3 + v))), (4, .int (nI v)), (0, .ref (ad 1)), (1, .int (nI na)), (2, .int (nI nb)), (3, .int (nI nc))]) hx hb dX1_take_27 hl (by decide) rfl (fun ls hl => ?_)
      refine lv_aload_n hx hb dX1_take_29 rfl (lv_at hl 2 rfl) ?_
      refine lv_iload hx hb dX1_take_30 (lv_at hl 1 rfl) ?_
      refine lv_iload hx hb dX1_take_32 (lv_at hl 1 rfl) ?_
      refine lv_iload_n hx hb dX1_take_34 rfl (lv_at hl 3 rfl) ?_
      refine lv_iload_n hx hb dX1_take_35 rfl (lv_at hl 4 rfl) ?_
      refine lv_iload_n hx hb dX1_take_36 rfl (lv_at hl 5 rfl) ?_
      refine hc_si (va_runSN (As := [.int (nI v), .int (nI na), .int (nI nb), .int (nI nc)]) (rest := [.int (nI v), .ref (ad 1)]) ⟨hx, hb, hml, hown, hts⟩ (c_X0_codeOf l v na nb nc hv ha hb6 hc) ⟨va_cnB 4 hts (hGc hmc k_248) rfl rfl rfl (E.1.2.1 _ k_246) (hts _ (hmc _ k_20)) (by decide +kernel) ⟨Nat.le_of_ble_eq_true rfl, Nat.le_of_ble_eq_true rfl⟩, (hts _ (hmc _ k_247)), trivial⟩ hpre0 rfl rfl hl.1 rfl (lv_room (Nat.le_of_ble_eq_true rfl)) dX1_take_37 ⟨(Nat.le_refl _), (Nat.le_refl _)⟩) (fun r4 hp => ?_)
      subst hp
      refine hc_i E hD hS (va_runV (As := [.int (nI v), .int (nI (hvc v na nb nc))]) (rest := []) ⟨hx, hb, hml, hown, hts⟩ ((c_X1_firstIn l D K tv w1 ad F1 cnt ht1 v (hvc v na nb nc) (g v) (X v) h640 hf1 hs hv (by omega)) H.size) (cwV 2 hts (hGV hmc k_255 k_256 k_257 k_21 k_258) rfl rfl rfl (by decide +kernel) ⟨Nat.le_of_ble_eq_true rfl, Nat.le_of_ble_eq_true rfl⟩) (hpreV E hP hD hS h1 rfl) rfl rfl hl.1 rfl (lv_room (Nat.le_of_ble_eq_true rfl)) dX1_take_40 ⟨(Nat.le_refl _), (Nat.le_refl _)⟩) (fun r6 ws5 H locs hp hP hD hS => ?_)
      obtain ⟨rfl, rfl⟩ := hp
      have hkk : ∀ i, i < cnt - 1 → va_cpy (F1 v) (F1 v) (hlbf (g v) cnt (hvc v na nb nc) + 1) (hlbf (g v) cnt (hvc v na nb nc)) (cnt - hlbf (g v) cnt (hvc v na nb nc) - 1) i = nI (hDel (g v) (hlbf (g v) cnt (hvc v na nb nc)) i) := hDel_arr hkl (fun i hi => (hf1 i hi).1)
      generalize hkv : hlbf (g v) cnt (hvc v na nb nc) = k at hlb hln hkl hke hkk ⊢
      refine lv_istore (lv' := [(6, .int (nI k)), (5, .ref (ad (3 + v))), (4, .int (nI v)), (0, .ref (ad 1)), (1, .int (nI na)), (2, .int (nI nb)), (3, .int (nI nc))]) hx hb dX1_take_43 hl (by decide) rfl (fun ls hl => ?_)
      refine lv_aload hx hb dX1_take_45 (lv_at hl 1 rfl) ?_
      refine lv_iload hx hb dX1_take_47 (lv_at hl 0 rfl) ?_
      refine lv_iconst (v := nI 1) hx hb dX1_take_49 (by decide +kernel) ?_
      refine lv_iadd hx hb dX1_take_50 ?_
      refine htopi (v := nI (k + 1)) (nI_add _ _) ?_
      refine lv_aload hx hb dX1_take_51 (lv_at hl 1 rfl) ?_
      refine lv_iload hx hb dX1_take_53 (lv_at hl 0 rfl) ?_
      refine lv_aload_n hx hb dX1_take_55 rfl (lv_at hl 3 rfl) ?_
      refine va_get (v := .int (nI cnt)) (C := RX1) (T := TX1) (N := 2) hx hb hts (hin_X1 hmc) hown E.1.1 hP 1 h1 rfl 1 (by decide) (hts _ (hmc _ k_53)) (fun _ h9 => h9) rfl dX1_take_56 ?_
      refine lv_iload hx hb dX1_take_59 (lv_at hl 0 rfl) ?_
      refine lv_isub hx hb dX1_take_61 ?_
      refine htopi (v := nI (cnt - k)) (pk_sub (by omega)) ?_
      refine lv_iconst (v := nI 1) hx hb dX1_take_62 (by decide +kernel) ?_
      refine lv_isub hx hb dX1_take_63 ?_
      refine htopi (v := nI (cnt - k - 1)) (pk_sub (by omega)) ?_
      have zn : (nI (cnt - k - 1)).toNatClampNeg = (cnt - k - 1) := nI_clamp (by omega)
      have zd : (nI k).toNatClampNeg = k := nI_clamp (by omega)
      have zs : (nI (k + 1)).toNatClampNeg = (k + 1) := nI_clamp (by omega)
      refine va_copyi (ty := .int) hx hb (hml.trans hl.1.symm) hown (hts _ (hmc _ k_266)) (hts _ (hmc _ k_268)) (hts _ (hmc _ k_267)) (hts _ (hmc _ k_31)) E.1.1 hP hD hS (3 + v) (3 + v) 0 0 hv3 hv3 rfl rfl rfl (nI_pos (by omega)) (nI_pos (by omega)) (nI_pos (by omega)) (by rw [zs, zn]; omega) (by rw [zd, zn]; omega) (fun _ _ => rfl) (Nat.le_of_ble_eq_true rfl) (Nat.le_of_ble_eq_true rfl) dX1_take_64 (fun H locs hP hD hS => ?_)
      simp only [zn, zd, zs] at hP hD
      obtain ⟨ws7, ews7⟩ : ∃ zw : va_W, zw = List.set w1 (3 + v) ((ad (3 + v)), .inl (K 0, 640, .inl (va_cpy (F1 v) (F1 v) (k + 1) k (cnt - k - 1)))) := ⟨_, rfl⟩
      have hP : va_P D vwCl ws7 H := by rw [ews7]; exact hP
      have hD : va_D A ws7 := by rw [ews7]; exact hD
      have h1 := (show ws7[1]? = _ from (by rw [ews7]; exact hset_ne (by omega))).trans h1
      have h2 := (show ws7[2]? = _ from (by rw [ews7]; exact hset_ne (by omega))).trans h2
      have hv3 : ws7[(3 + v)]? = some ((ad (3 + v)), .inl (K 0, 640, .inl (va_cpy (F1 v) (F1 v) (k + 1) k (cnt - k - 1)))) := by rw [ews7]; exact hset_eq hv3
      refine lv_iinc (v := nI (v + 1)) (lv' := [(4, .int (nI (v + 1))), (6, .int (nI k)), (5, .ref (ad (3 + v))), (0, .ref (ad 1)), (1, .int (nI na)), (2, .int (nI nb)), (3, .int (nI nc))]) hx hb dX1_take_67 hl (k := 2) rfl (nI_1 _) (by decide) rfl (fun ls hl => ?_)
      refine lv_goto (tgt := 14) hx hb dX1_take_70 (by decide) ?_
      refine ih (v + 1) _ H locs ls ⟨by omega, ?_, fun u => if u = v then va_cpy (F1 v) (F1 v) (k + 1) k (cnt - k - 1) else F1 u, ⟨h1, ⟨fq, h2, hfq⟩, ?_⟩, ?_, ?_⟩ (by show 3 - (v + 1) < 3 - v; omega) hP hD hS (lv_sub hl [0, 3, 4, 5, 6] rfl)
      · rw [ews7]; exact hag.set (by omega) (by omega)
      · intro u hu
        dsimp only
        by_cases z : u = v
        · subst z; rw [if_pos rfl]; exact hv3
        · rw [if_neg z, ews7, hset_ne (by omega)]; exact h3 u hu
      · intro u h1 h2; dsimp only; rw [if_neg (by omega)]; exact hold u (by omega) h2
      · intro u hu i hi
        dsimp only
        by_cases z : u = v
        · subst z; rw [if_pos rfl, hkv]; exact hkk i hi
        · rw [if_neg z]; exact hnew u (by omega) i hi
  · exact absurd (hX 0 (by decide)) (hp.f c1)
