set_option maxHeartbeats 4000000 in
set_option maxRecDepth 100000 in
/-- Order.has -/
theorem c_X4_has (l : Launch) (D : va_G) (K : Nat → ClassId) (tv : Nat) (ws : va_W) (ad : Nat → Nat) (n : Nat) (o : List Nat) (ho : hOrd K ad ws n o) (x : Nat) (hx6 : x < 6) : hI l D (hTy K) tv yX4_has cX4_has 2 (some .boolean) ({ frames := 0, cells := 0, slots := 0, locals := 0 }) [.ref (ad n), .int (nI x)] ws (fun r ws1 => ws = ws1 ∧ hBool r (x ∈ o)) := by
  intro sz
  refine Met.ofW (cc := cX4_has) (maxL := 2) (ret := (some .boolean)) (by decide) rfl ?_
  intro p e s m args below meth c s₁ B hml hv0
  obtain ⟨rfl, rfl, E, hP, hD⟩ := hentry hv0
  have hx := B.exec
  have hb := B.bytes
  have hr := B.returns
  have hts := atoms_spec (ws := hC yX4_has cX4_has 2 (some .boolean)) B.pre
  have hown : s.vm.findClass RX4 = some m.cls := findClass_of_methodNamed B.named
  have hlocks := B.notSynchronized
  generalize hAe : va_A ws s.heap.size = A at hD E ⊢
  have hl := lv_entry ([.ref (ad n), .int (nI x)]) (n := 2) (Nat.le_of_ble_eq_true rfl)
  rw [lg_entry_eq]
  generalize (lg_sl ([.ref (ad n), .int (nI x)]) ++ List.replicate (2 - (lg_sl ([.ref (ad n), .int (nI x)])).length) Slot.unset).toArray = ls at hl ⊢
  have hl : lv_has ls 2 [(0, .ref (ad n)), (1, .int (nI x))] := hl
  refine hat0 (fun H hHe => ?_)
  have hP : va_P D vwCl ws H := by rw [hHe]; exact hP
  have hS : va_S A s.heap H [] := by rw [hHe]; exact va_S.rf
  obtain ⟨f, u, ⟨h1, h2⟩, hk⟩ := ho
  have hl6 := hk.1
  have hu := hk.2.2.2.1
  refine lv_aload_n hx hb dX4_has_0 rfl (lv_at hl 0 rfl) ?_
  refine va_get (v := .int (nI u)) (C := RX4) (T := TX4) (N := 3) hx hb hts (hin_X4 hmc) hown E.1.1 hP n h1 rfl 2 (by decide) (hts _ (hmc _ k_109)) (fun _ h9 => h9) rfl dX4_has_1 ?_
  refine lv_iconst (v := nI 1) hx hb dX4_has_4 (by decide +kernel) ?_
  refine lv_iload_n hx hb dX4_has_5 rfl (lv_at hl 1 rfl) ?_
  refine lv_ishl hx hb dX4_has_6 ?_
  refine htopi (v := nI (1 * 2 ^ x)) (hshl (by omega) (hp6 hx6)) ?_
  refine lv_iand hx hb dX4_has_7 ?_
  refine lv_if_eq (tgt := 15) hx hb dX4_has_8 (by decide) (fun c1 => ?_) (fun c1 => ?_)
  · refine lv_iconst (v := nI 0) hx hb dX4_has_15 (by decide +kernel) ?_
    subst hAe
    exact W.zret (v := nI 0) hx hb hr (by decide +kernel) (fun t ht _ => ⟨⟨nI 0, ws, rfl, ⟨rfl, hBool.no (fun z => (hbit_eq u hu x hx6).mp c1 ((hk.2.2.2.2 x hx6).mpr z))⟩, by rw [ht]; exact hP, hD⟩, hS.F ht⟩) hS.2.2 dX4_has_16
  · refine lv_iconst (v := nI 1) hx hb dX4_has_11 (by decide +kernel) ?_
    refine lv_goto (tgt := 16) hx hb dX4_has_12 (by decide) ?_
    subst hAe
    exact W.zret (v := nI 1) hx hb hr (by decide +kernel) (fun t ht _ => ⟨⟨nI 1, ws, rfl, ⟨rfl, hBool.yes ((hk.2.2.2.2 x hx6).mp (Classical.not_not.mp (fun z => c1 ((hbit_eq u hu x hx6).mpr z))))⟩, by rw [ht]; exact hP, hD⟩, hS.F ht⟩) hS.2.2 dX4_has_16

set_option maxHeartbeats 4000000 in
set_option maxRecDepth 100000 in
/-- Order.at -/
theorem c_X4_at (l : Launch) (D : va_G) (K : Nat → ClassId) (tv : Nat) (ws : va_W) (ad : Nat → Nat) (n : Nat) (o : List Nat) (ho : hOrd K ad ws n o) (i : Nat) (hi : i < o.length) : hI l D (hTy K) tv yX4_at cX4_at 2 (some .int) ({ frames := 0, cells := 0, slots := 0, locals := 0 }) [.ref (ad n), .int (nI i)] ws (fun r ws1 => ws = ws1 ∧ r = nI (o.getD i 0)) := by
  intro sz
  refine Met.ofW (cc := cX4_at) (maxL := 2) (ret := (some .int)) (by decide) rfl ?_
  intro p e s m args below meth c s₁ B hml hv0
  obtain ⟨rfl, rfl, E, hP, hD⟩ := hentry hv0
  have hx := B.exec
  have hb := B.bytes
  have hr := B.returns
  have hts := atoms_spec (ws := hC yX4_at cX4_at 2 (some .int)) B.pre
  have hown : s.vm.findClass RX4 = some m.cls := findClass_of_methodNamed B.named
  have hlocks := B.notSynchronized
  generalize hAe : va_A ws s.heap.size = A at hD E ⊢
  have hl := lv_entry ([.ref (ad n), .int (nI i)]) (n := 2) (Nat.le_of_ble_eq_true rfl)
  rw [lg_entry_eq]
  generalize (lg_sl ([.ref (ad n), .int (nI i)]) ++ List.replicate (2 - (lg_sl ([.ref (ad n), .int (nI i)])).length) Slot.unset).toArray = ls at hl ⊢
  have hl : lv_has ls 2 [(0, .ref (ad n)), (1, .int (nI i))] := hl
  refine hat0 (fun H hHe => ?_)
  have hP : va_P D vwCl ws H := by rw [hHe]; exact hP
  have hS : va_S A s.heap H [] := by rw [hHe]; exact va_S.rf
  obtain ⟨f, u, ⟨h1, h2⟩, hk⟩ := ho
  have hl6 := hk.1
  have hu := hk.2.2.2.1
  refine lv_aload_n hx hb dX4_at_0 rfl (lv_at hl 0 rfl) ?_
  refine va_get (v := .ref (ad (n + 1))) (C := RX4) (T := TX4) (N := 3) hx hb hts (hin_X4 hmc) hown E.1.1 hP n h1 rfl 0 (by decide) (hts _ (hmc _ k_105)) (fun _ h9 => h9) rfl dX4_at_1 ?_
  refine lv_iload_n hx hb dX4_at_4 rfl (lv_at hl 1 rfl) ?_
  refine va_iald hx hb E.1.1 hP (n + 1) 0 h2 rfl (vp_in_nI (by omega) (by omega)) dX4_at_5 ?_
  refine htopi (v := f i) (by rw [nI_clamp (by omega)]) ?_
  subst hAe
  exact W.iret (v := f i) hx hb hr (fun t ht _ => ⟨⟨f i, ws, rfl, ⟨rfl, hk.2.1 i hi⟩, by rw [ht]; exact hP, hD⟩, hS.F ht⟩) hS.2.2 dX4_at_6

set_option maxHeartbeats 4000000 in
set_option maxRecDepth 100000 in
/-- Order.append -/
theorem c_X4_append (l : Launch) (D : va_G) (K : Nat → ClassId) (tv : Nat) (ws : va_W) (ad : Nat → Nat) (n : Nat) (o : List Nat) (ho : hOrd K ad ws n o) (x : Nat) (hx6 : x < 6) (hlt : o.length < 6) : hV l D (hTy K) tv yX4_append cX4_append 2 none ({ frames := 0, cells := 0, slots := 0, locals := 0 }) [.ref (ad n), .int (nI x)] ws (fun ws1 => hAg n (n + 2) ws ws1 ∧ hOrd K ad ws1 n (o ++ [x])) := by
  intro sz
  refine Met.ofW (cc := cX4_append) (maxL := 2) (ret := none) (by decide) rfl ?_
  intro p e s m args below meth c s₁ B hml hv0
  obtain ⟨rfl, rfl, E, hP, hD⟩ := hentry hv0
  have hx := B.exec
  have hb := B.bytes
  have hr := B.returns
  have hts := atoms_spec (ws := hC yX4_append cX4_append 2 none) B.pre
  have hown : s.vm.findClass RX4 = some m.cls := findClass_of_methodNamed B.named
  have hlocks := B.notSynchronized
  generalize hAe : va_A ws s.heap.size = A at hD E ⊢
  have hl := lv_entry ([.ref (ad n), .int (nI x)]) (n := 2) (Nat.le_of_ble_eq_true rfl)
  rw [lg_entry_eq]
  generalize (lg_sl ([.ref (ad n), .int (nI x)]) ++ List.replicate (2 - (lg_sl ([.ref (ad n), .int (nI x)])).length) Slot.unset).toArray = ls at hl ⊢
  have hl : lv_has ls 2 [(0, .ref (ad n)), (1, .int (nI x))] := hl
  refine hat0 (fun H hHe => ?_)
  have hP : va_P D vwCl ws H := by rw [hHe]; exact hP
  have hS : va_S A s.heap H [] := by rw [hHe]; exact va_S.rf
  obtain ⟨f, u, ⟨h1, h2⟩, hk⟩ := ho
  have hl6 := hk.1
  have hu := hk.2.2.2.1
  refine lv_aload_n hx hb dX4_append_0 rfl (lv_at hl 0 rfl) ?_
  refine va_get (v := .int (nI o.length)) (C := RX4) (T := TX4) (N := 3) hx hb hts (hin_X4 hmc) hown E.1.1 hP n h1 rfl 1 (by decide) (hts _ (hmc _ k_106)) (fun _ h9 => h9) rfl dX4_append_1 ?_
  refine lv_bipush (v := nI 6) hx hb dX4_append_4 (by decide +kernel) ?_
  refine lv_icmp_ge (tgt := 41) hx hb dX4_append_6 (by decide) (fun c1 => ?_) (fun c1 => ?_)
  · exact absurd c1 (nI_ge hlt (by decide))
  · refine lv_aload_n hx hb dX4_append_9 rfl (lv_at hl 0 rfl) ?_
    refine va_get (v := .ref (ad (n + 1))) (C := RX4) (T := TX4) (N := 3) hx hb hts (hin_X4 hmc) hown E.1.1 hP n h1 rfl 0 (by decide) (hts _ (hmc _ k_105)) (fun _ h9 => h9) rfl dX4_append_10 ?_
    refine lv_aload_n hx hb dX4_append_13 rfl (lv_at hl 0 rfl) ?_
    refine va_get (v := .int (nI o.length)) (C := RX4) (T := TX4) (N := 3) hx hb hts (hin_X4 hmc) hown E.1.1 hP n h1 rfl 1 (by decide) (hts _ (hmc _ k_106)) (fun _ h9 => h9) rfl dX4_append_14 ?_
    refine lv_iload_n hx hb dX4_append_17 rfl (lv_at hl 1 rfl) ?_
    refine va_iast hx hb E.1.1 hP hD hS (n + 1) 0 h2 rfl (vp_in_nI (by omega) (by omega)) dX4_append_18 (fun H locs hP hD hS => ?_)
    rw [nI_clamp (show o.length < 2 ^ 31 by omega)] at hP hD
    obtain ⟨ws1, ews1⟩ : ∃ zw : va_W, zw = List.set ws (n + 1) ((ad (n + 1)), .inl (K 0, 6, .inl (upd f o.length (nI x)))) := ⟨_, rfl⟩
    have hP : va_P D vwCl ws1 H := by rw [ews1]; exact hP
    have hD : va_D A ws1 := by rw [ews1]; exact hD
    have h1 := (show ws1[n]? = _ from (by rw [ews1]; exact hset_ne (by omega))).trans h1
    have h2 : ws1[(n + 1)]? = some ((ad (n + 1)), .inl (K 0, 6, .inl (upd f o.length (nI x)))) := by rw [ews1]; exact hset_eq h2
    refine lv_aload_n hx hb dX4_append_19 rfl (lv_at hl 0 rfl) ?_
    refine lv_dup hx hb dX4_append_20 rfl ?_
    refine va_get (v := .int (nI u)) (C := RX4) (T := TX4) (N := 3) hx hb hts (hin_X4 hmc) hown E.1.1 hP n h1 rfl 2 (by decide) (hts _ (hmc _ k_109)) (fun _ h9 => h9) rfl dX4_append_21 ?_
    refine lv_iconst (v := nI 1) hx hb dX4_append_24 (by decide +kernel) ?_
    refine lv_iload_n hx hb dX4_append_25 rfl (lv_at hl 1 rfl) ?_
    refine lv_ishl hx hb dX4_append_26 ?_
    refine htopi (v := nI (1 * 2 ^ x)) (hshl (by omega) (hp6 hx6)) ?_
    refine lv_ior hx hb dX4_append_27 ?_
    refine htopi (v := nI (u ||| 2 ^ x)) (by rw [hior, Nat.one_mul]) ?_
    refine va_put (v := .int (nI (u ||| 2 ^ x))) (ty := .int) (C := RX4) (T := TX4) (N := 3) hx hb hts (hin_X4 hmc) tyX4 tyX4_ok nmX4 hown E.1.1 hP hD hS n h1 rfl 2 (by decide) (hts _ (hmc _ k_109)) (fun _ h9 => h9) rfl (by decide +kernel) rfl rfl (Nat.le_of_ble_eq_true rfl) dX4_append_28 (fun H locs hP hD hS => ?_)
    obtain ⟨ws2, ews2⟩ : ∃ zw : va_W, zw = List.set ws1 n ((ad n), .inr (iO, [.ref (ad (n + 1)), .int (nI o.length), .int (nI (u ||| 2 ^ x))])) := ⟨_, rfl⟩
    have hP : va_P D vwCl ws2 H := by rw [ews2]; exact hP
    have hD : va_D A ws2 := by rw [ews2]; exact hD
    have h1 : ws2[n]? = some ((ad n), .inr (iO, [.ref (ad (n + 1)), .int (nI o.length), .int (nI (u ||| 2 ^ x))])) := by rw [ews2]; exact hset_eq h1
    have h2 := (show ws2[(n + 1)]? = _ from (by rw [ews2]; exact hset_ne (by omega))).trans h2
    refine lv_aload_n hx hb dX4_append_31 rfl (lv_at hl 0 rfl) ?_
    refine lv_dup hx hb dX4_append_32 rfl ?_
    refine va_get (v := .int (nI o.length)) (C := RX4) (T := TX4) (N := 3) hx hb hts (hin_X4 hmc) hown E.1.1 hP n h1 rfl 1 (by decide) (hts _ (hmc _ k_106)) (fun _ h9 => h9) rfl dX4_append_33 ?_
    refine lv_iconst (v := nI 1) hx hb dX4_append_36 (by decide +kernel) ?_
    refine lv_iadd hx hb dX4_append_37 ?_
    refine htopi (v := nI (o.length + 1)) (nI_add _ _) ?_
    refine va_put (v := .int (nI (o.length + 1))) (ty := .int) (C := RX4) (T := TX4) (N := 3) hx hb hts (hin_X4 hmc) tyX4 tyX4_ok nmX4 hown E.1.1 hP hD hS n h1 rfl 1 (by decide) (hts _ (hmc _ k_106)) (fun _ h9 => h9) rfl (by decide +kernel) rfl rfl (Nat.le_of_ble_eq_true rfl) dX4_append_38 (fun H locs hP hD hS => ?_)
    obtain ⟨ws3, ews3⟩ : ∃ zw : va_W, zw = List.set ws2 n ((ad n), .inr (iO, [.ref (ad (n + 1)), .int (nI (o.length + 1)), .int (nI (u ||| 2 ^ x))])) := ⟨_, rfl⟩
    have hP : va_P D vwCl ws3 H := by rw [ews3]; exact hP
    have hD : va_D A ws3 := by rw [ews3]; exact hD
    have h1 : ws3[n]? = some ((ad n), .inr (iO, [.ref (ad (n + 1)), .int (nI (o.length + 1)), .int (nI (u ||| 2 ^ x))])) := by rw [ews3]; exact hset_eq h1
    have h2 := (show ws3[(n + 1)]? = _ from (by rw [ews3]; exact hset_ne (by omega))).trans h2
    subst hAe
    exact W.vret hx hb hr (fun t ht _ => ⟨⟨ws3, rfl, ⟨by rw [ews3, ews2, ews1]; exact ((hAg.rf.set (by omega) (by omega)).set (by omega) (by omega)).set (by omega) (by omega), _, _, ⟨by rw [List.length_append]; exact h1, h2⟩, hk.add hlt hx6⟩, by rw [ht]; exact hP, hD⟩, hS.F ht⟩) hS.2.2 dX4_append_41

set_option maxHeartbeats 4000000 in
set_option maxRecDepth 100000 in
/-- Order.shorten -/
theorem c_X4_shorten (l : Launch) (D : va_G) (K : Nat → ClassId) (tv : Nat) (ws : va_W) (ad : Nat → Nat) (n : Nat) (o : List Nat) (x : Nat) (ho : hOrd K ad ws n (o ++ [x])) (hn : x ∉ o) : hV l D (hTy K) tv yX4_shorten cX4_shorten 1 none ({ frames := 0, cells := 0, slots := 0, locals := 0 }) [.ref (ad n)] ws (fun ws1 => hAg n (n + 2) ws ws1 ∧ hOrd K ad ws1 n o) := by
  intro sz
  refine Met.ofW (cc := cX4_shorten) (maxL := 1) (ret := none) (by decide) rfl ?_
  intro p e s m args below meth c s₁ B hml hv0
  obtain ⟨rfl, rfl, E, hP, hD⟩ := hentry hv0
  have hx := B.exec
  have hb := B.bytes
  have hr := B.returns
  have hts := atoms_spec (ws := hC yX4_shorten cX4_shorten 1 none) B.pre
  have hown : s.vm.findClass RX4 = some m.cls := findClass_of_methodNamed B.named
  have hlocks := B.notSynchronized
  generalize hAe : va_A ws s.heap.size = A at hD E ⊢
  have hl := lv_entry ([.ref (ad n)]) (n := 1) (Nat.le_of_ble_eq_true rfl)
  rw [lg_entry_eq]
  generalize (lg_sl ([.ref (ad n)]) ++ List.replicate (1 - (lg_sl ([.ref (ad n)])).length) Slot.unset).toArray = ls at hl ⊢
  have hl : lv_has ls 1 [(0, .ref (ad n))] := hl
  refine hat0 (fun H hHe => ?_)
  have hP : va_P D vwCl ws H := by rw [hHe]; exact hP
  have hS : va_S A s.heap H [] := by rw [hHe]; exact va_S.rf
  obtain ⟨f, u, ⟨h1, h2⟩, hk⟩ := ho
  have hl6 := hk.1
  have hu := hk.2.2.2.1
  obtain ⟨hfx, hx6, hk2⟩ := hk.pop hn
  rw [List.length_append] at h1 hl6
  have hl6 : o.length + 1 ≤ 6 := hl6
  have h1 : ws[n]? = some (ad n, .inr (iO, [.ref (ad (n + 1)), .int (nI (o.length + 1)), .int (nI u)])) := h1
  refine lv_aload_n hx hb dX4_shorten_0 rfl (lv_at hl 0 rfl) ?_
  refine va_get (v := .int (nI (o.length + 1))) (C := RX4) (T := TX4) (N := 3) hx hb hts (hin_X4 hmc) hown E.1.1 hP n h1 rfl 1 (by decide) (hts _ (hmc _ k_106)) (fun _ h9 => h9) rfl dX4_shorten_1 ?_
  refine lv_if_le (tgt := 39) hx hb dX4_shorten_4 (by decide) (fun c1 => ?_) (fun c1 => ?_)
  · exact absurd c1 (nI_nle (by omega) (by omega))
  · refine lv_aload_n hx hb dX4_shorten_7 rfl (lv_at hl 0 rfl) ?_
    refine lv_dup hx hb dX4_shorten_8 rfl ?_
    refine va_get (v := .int (nI (o.length + 1))) (C := RX4) (T := TX4) (N := 3) hx hb hts (hin_X4 hmc) hown E.1.1 hP n h1 rfl 1 (by decide) (hts _ (hmc _ k_106)) (fun _ h9 => h9) rfl dX4_shorten_9 ?_
    refine lv_iconst (v := nI 1) hx hb dX4_shorten_12 (by decide +kernel) ?_
    refine lv_isub hx hb dX4_shorten_13 ?_
    refine htopi (v := nI o.length) (nI_pred _) ?_
    refine va_put (v := .int (nI o.length)) (ty := .int) (C := RX4) (T := TX4) (N := 3) hx hb hts (hin_X4 hmc) tyX4 tyX4_ok nmX4 hown E.1.1 hP hD hS n h1 rfl 1 (by decide) (hts _ (hmc _ k_106)) (fun _ h9 => h9) rfl (by decide +kernel) rfl rfl (Nat.le_of_ble_eq_true rfl) dX4_shorten_14 (fun H locs hP hD hS => ?_)
    obtain ⟨ws1, ews1⟩ : ∃ zw : va_W, zw = List.set ws n ((ad n), .inr (iO, [.ref (ad (n + 1)), .int (nI o.length), .int (nI u)])) := ⟨_, rfl⟩
    have hP : va_P D vwCl ws1 H := by rw [ews1]; exact hP
    have hD : va_D A ws1 := by rw [ews1]; exact hD
    have h1 : ws1[n]? = some ((ad n), .inr (iO, [.ref (ad (n + 1)), .int (nI o.length), .int (nI u)])) := by rw [ews1]; exact hset_eq h1
    have h2 := (show ws1[(n + 1)]? = _ from (by rw [ews1]; exact hset_ne (by omega))).trans h2
    refine lv_aload_n hx hb dX4_shorten_17 rfl (lv_at hl 0 rfl) ?_
    refine lv_dup hx hb dX4_shorten_18 rfl ?_
    refine va_get (v := .int (nI u)) (C := RX4) (T := TX4) (N := 3) hx hb hts (hin_X4 hmc) hown E.1.1 hP n h1 rfl 2 (by decide) (hts _ (hmc _ k_109)) (fun _ h9 => h9) rfl dX4_shorten_19 ?_
    refine lv_iconst (v := nI 1) hx hb dX4_shorten_22 (by decide +kernel) ?_
    refine lv_aload_n hx hb dX4_shorten_23 rfl (lv_at hl 0 rfl) ?_
    refine va_get (v := .ref (ad (n + 1))) (C := RX4) (T := TX4) (N := 3) hx hb hts (hin_X4 hmc) hown E.1.1 hP n h1 rfl 0 (by decide) (hts _ (hmc _ k_105)) (fun _ h9 => h9) rfl dX4_shorten_24 ?_
    refine lv_aload_n hx hb dX4_shorten_27 rfl (lv_at hl 0 rfl) ?_
    refine va_get (v := .int (nI o.length)) (C := RX4) (T := TX4) (N := 3) hx hb hts (hin_X4 hmc) hown E.1.1 hP n h1 rfl 1 (by decide) (hts _ (hmc _ k_106)) (fun _ h9 => h9) rfl dX4_shorten_28 ?_
    refine va_iald hx hb E.1.1 hP (n + 1) 0 h2 rfl (vp_in_nI (by omega) (by omega)) dX4_shorten_31 ?_
    refine htopi (v := f o.length) (by rw [nI_clamp (by omega)]) ?_
    refine htopi (v := nI x) (hfx) ?_
    refine lv_ishl hx hb dX4_shorten_32 ?_
    refine htopi (v := nI (1 * 2 ^ x)) (hshl (by omega) (hp6 hx6)) ?_
    refine lv_iconst (v := (-1)) hx hb dX4_shorten_33 (by decide +kernel) ?_
    refine lv_ixor hx hb dX4_shorten_34 ?_
    refine lv_iand hx hb dX4_shorten_35 ?_
    refine htopi (v := nI (hclr u x)) (by rw [Nat.one_mul]; exact hclr_i u hu x hx6) ?_
    refine va_put (v := .int (nI (hclr u x))) (ty := .int) (C := RX4) (T := TX4) (N := 3) hx hb hts (hin_X4 hmc) tyX4 tyX4_ok nmX4 hown E.1.1 hP hD hS n h1 rfl 2 (by decide) (hts _ (hmc _ k_109)) (fun _ h9 => h9) rfl (by decide +kernel) rfl rfl (Nat.le_of_ble_eq_true rfl) dX4_shorten_36 (fun H locs hP hD hS => ?_)
    obtain ⟨ws2, ews2⟩ : ∃ zw : va_W, zw = List.set ws1 n ((ad n), .inr (iO, [.ref (ad (n + 1)), .int (nI o.length), .int (nI (hclr u x))])) := ⟨_, rfl⟩
    have hP : va_P D vwCl ws2 H := by rw [ews2]; exact hP
    have hD : va_D A ws2 := by rw [ews2]; exact hD
    have h1 : ws2[n]? = some ((ad n), .inr (iO, [.ref (ad (n + 1)), .int (nI o.length), .int (nI (hclr u x))])) := by rw [ews2]; exact hset_eq h1
    have h2 := (show ws2[(n + 1)]? = _ from (by rw [ews2]; exact hset_ne (by omega))).trans h2
    subst hAe
    exact W.vret hx hb hr (fun t ht _ => ⟨⟨ws2, rfl, ⟨by rw [ews2, ews1]; exact (hAg.rf.set (by omega) (by omega)).set (by omega) (by omega), _, _, ⟨h1, h2⟩, hk2⟩, by rw [ht]; exact hP, hD⟩, hS.F ht⟩) hS.2.2 dX4_shorten_39

set_option maxHeartbeats 4000000 in
set_option maxRecDepth 100000 in
/-- Order.makeEmpty -/
theorem c_X4_makeEmpty (l : Launch) (D : va_G) (K : Nat → ClassId) (tv : Nat) (ws : va_W) (ad : Nat → Nat) (n : Nat) (o : List Nat) (ho : hOrd K ad ws n o) : hV l D (hTy K) tv yX4_makeEmpty cX4_makeEmpty 1 none ({ frames := 0, cells := 0, slots := 0, locals := 0 }) [.ref (ad n)] ws (fun ws1 => hAg n (n + 2) ws ws1 ∧ hOrd K ad ws1 n []) := by
  intro sz
  refine Met.ofW (cc := cX4_makeEmpty) (maxL := 1) (ret := none) (by decide) rfl ?_
  intro p e s m args below meth c s₁ B hml hv0
  obtain ⟨rfl, rfl, E, hP, hD⟩ := hentry hv0
  have hx := B.exec
  have hb := B.bytes
  have hr := B.returns
  have hts := atoms_spec (ws := hC yX4_makeEmpty cX4_makeEmpty 1 none) B.pre
  have hown : s.vm.findClass RX4 = some m.cls := findClass_of_methodNamed B.named
  have hlocks := B.notSynchronized
  generalize hAe : va_A ws s.heap.size = A at hD E ⊢
  have hl := lv_entry ([.ref (ad n)]) (n := 1) (Nat.le_of_ble_eq_true rfl)
  rw [lg_entry_eq]
  generalize (lg_sl ([.ref (ad n)]) ++ List.replicate (1 - (lg_sl ([.ref (ad n)])).length) Slot.unset).toArray = ls at hl ⊢
  have hl : lv_has ls 1 [(0, .ref (ad n))] := hl
  refine hat0 (fun H hHe => ?_)
  have hP : va_P D vwCl ws H := by rw [hHe]; exact hP
  have hS : va_S A s.heap H [] := by rw [hHe]; exact va_S.rf
  obtain ⟨f, u, ⟨h1, h2⟩, hk⟩ := ho
  have hl6 := hk.1
  have hu := hk.2.2.2.1
  refine lv_aload_n hx hb dX4_makeEmpty_0 rfl (lv_at hl 0 rfl) ?_
  refine lv_iconst (v := nI 0) hx hb dX4_makeEmpty_1 (by decide +kernel) ?_
  refine va_put (v := .int (nI 0)) (ty := .int) (C := RX4) (T := TX4) (N := 3) hx hb hts (hin_X4 hmc) tyX4 tyX4_ok nmX4 hown E.1.1 hP hD hS n h1 rfl 1 (by decide) (hts _ (hmc _ k_106)) (fun _ h9 => h9) rfl (by decide +kernel) rfl rfl (Nat.le_of_ble_eq_true rfl) dX4_makeEmpty_2 (fun H locs hP hD hS => ?_)
  obtain ⟨ws1, ews1⟩ : ∃ zw : va_W, zw = List.set ws n ((ad n), .inr (iO, [.ref (ad (n + 1)), .int (nI 0), .int (nI u)])) := ⟨_, rfl⟩
  have hP : va_P D vwCl ws1 H := by rw [ews1]; exact hP
  have hD : va_D A ws1 := by rw [ews1]; exact hD
  have h1 : ws1[n]? = some ((ad n), .inr (iO, [.ref (ad (n + 1)), .int (nI 0), .int (nI u)])) := by rw [ews1]; exact hset_eq h1
  have h2 := (show ws1[(n + 1)]? = _ from (by rw [ews1]; exact hset_ne (by omega))).trans h2
  refine lv_aload_n hx hb dX4_makeEmpty_5 rfl (lv_at hl 0 rfl) ?_
  refine lv_iconst (v := nI 0) hx hb dX4_makeEmpty_6 (by decide +kernel) ?_
  refine va_put (v := .int (nI 0)) (ty := .int) (C := RX4) (T := TX4) (N := 3) hx hb hts (hin_X4 hmc) tyX4 tyX4_ok nmX4 hown E.1.1 hP hD hS n h1 rfl 2 (by decide) (hts _ (hmc _ k_109)) (fun _ h9 => h9) rfl (by decide +kernel) rfl rfl (Nat.le_of_ble_eq_true rfl) dX4_makeEmpty_7 (fun H locs hP hD hS => ?_)
  obtain ⟨ws2, ews2⟩ : ∃ zw : va_W, zw = List.set ws1 n ((ad n), .inr (iO, [.ref (ad (n + 1)), .int (nI 0), .int (nI 0)])) := ⟨_, rfl⟩
  have hP : va_P D vwCl ws2 H := by rw [ews2]; exact hP
  have hD : va_D A ws2 := by rw [ews2]; exact hD
  have h1 : ws2[n]? = some ((ad n), .inr (iO, [.ref (ad (n + 1)), .int (nI 0), .int (nI 0)])) := by rw [ews2]; exact hset_eq h1
  have h2 := (show ws2[(n + 1)]? = _ from (by rw [ews2]; exact hset_ne (by omega))).trans h2
  subst hAe
  exact W.vret hx hb hr (fun t ht _ => ⟨⟨ws2, rfl, ⟨by rw [ews2, ews1]; exact (hAg.rf.set (by omega) (by omega)).set (by omega) (by omega), f, 0, ⟨h1, h2⟩, hOk_nil f⟩, by rw [ht]; exact hP, hD⟩, hS.F ht⟩) hS.2.2 dX4_makeEmpty_10

set_option maxHeartbeats 4000000 in
set_option maxRecDepth 100000 in
/-- Order.copy -/
theorem c_X4_copy (l : Launch) (D : va_G) (K : Nat → ClassId) (tv : Nat) (ws : va_W) (ad : Nat → Nat) (n : Nat) (o : List Nat) (ho : hOrd K ad ws n o) (n2 : Nat) (o2 : List Nat) (ho2 : hOrd K ad ws n2 o2) (hne : n + 1 < n2 ∨ n2 + 1 < n) : hV l D (hTy K) tv yX4_copy cX4_copy 2 none ({ frames := 1, cells := 0, slots := 0, locals := 60 }) [.ref (ad n), .ref (ad n2)] ws (fun ws1 => hAg n (n + 2) ws ws1 ∧ hOrd K ad ws1 n o2) := by
  intro sz
  refine Met.ofW (cc := cX4_copy) (maxL := 2) (ret := none) (by decide) rfl ?_
  intro p e s m args below meth c s₁ B hml hv0
  obtain ⟨rfl, rfl, E, hP, hD⟩ := hentry hv0
  have hx := B.exec
  have hb := B.bytes
  have hr := B.returns
  have hts := atoms_spec (ws := hC yX4_copy cX4_copy 2 none) B.pre
  have hown : s.vm.findClass RX4 = some m.cls := findClass_of_methodNamed B.named
  have hlocks := B.notSynchronized
  generalize hAe : va_A ws s.heap.size = A at hD E ⊢
  have hl := lv_entry ([.ref (ad n), .ref (ad n2)]) (n := 2) (Nat.le_of_ble_eq_true rfl)
  rw [lg_entry_eq]
  generalize (lg_sl ([.ref (ad n), .ref (ad n2)]) ++ List.replicate (2 - (lg_sl ([.ref (ad n), .ref (ad n2)])).length) Slot.unset).toArray = ls at hl ⊢
  have hl : lv_has ls 2 [(0, .ref (ad n)), (1, .ref (ad n2))] := hl
  refine hat0 (fun H hHe => ?_)
  have hP : va_P D vwCl ws H := by rw [hHe]; exact hP
  have hS : va_S A s.heap H [] := by rw [hHe]; exact va_S.rf
  obtain ⟨f, u, ⟨h1, h2⟩, hk⟩ := ho
  have hl6 := hk.1
  have hu := hk.2.2.2.1
  obtain ⟨f2, u2, ⟨h3, h4⟩, hk2⟩ := ho2
  have hl62 := hk2.1
  refine lv_aload_n hx hb dX4_copy_0 rfl (lv_at hl 1 rfl) ?_
  refine va_get (v := .ref (ad (n2 + 1))) (C := RX4) (T := TX4) (N := 3) hx hb hts (hin_X4 hmc) hown E.1.1 hP n2 h3 rfl 0 (by decide) (hts _ (hmc _ k_105)) (fun _ h9 => h9) rfl dX4_copy_1 ?_
  refine lv_iconst (v := nI 0) hx hb dX4_copy_4 (by decide +kernel) ?_
  refine lv_aload_n hx hb dX4_copy_5 rfl (lv_at hl 0 rfl) ?_
  refine va_get (v := .ref (ad (n + 1))) (C := RX4) (T := TX4) (N := 3) hx hb hts (hin_X4 hmc) hown E.1.1 hP n h1 rfl 0 (by decide) (hts _ (hmc _ k_105)) (fun _ h9 => h9) rfl dX4_copy_6 ?_
  refine lv_iconst (v := nI 0) hx hb dX4_copy_9 (by decide +kernel) ?_
  refine lv_bipush (v := nI 6) hx hb dX4_copy_10 (by decide +kernel) ?_
  have zn : (nI 6).toNatClampNeg = 6 := nI_clamp (by omega)
  have zd : (nI 0).toNatClampNeg = 0 := nI_clamp (by omega)
  have zs : (nI 0).toNatClampNeg = 0 := nI_clamp (by omega)
  refine va_copyi (ty := .int) hx hb (hml.trans hl.1.symm) hown (hts _ (hmc _ k_399)) (hts _ (hmc _ k_268)) (hts _ (hmc _ k_267)) (hts _ (hmc _ k_31)) E.1.1 hP hD hS (n2 + 1) (n + 1) 0 0 h4 h2 rfl rfl rfl (nI_pos (by omega)) (nI_pos (by omega)) (nI_pos (by omega)) (by rw [zs, zn]; omega) (by rw [zd, zn]; omega) (fun _ _ => rfl) (Nat.le_of_ble_eq_true rfl) (Nat.le_of_ble_eq_true rfl) dX4_copy_12 (fun H locs hP hD hS => ?_)
  simp only [zn, zd, zs] at hP hD
  obtain ⟨ws1, ews1⟩ : ∃ zw : va_W, zw = List.set ws (n + 1) ((ad (n + 1)), .inl (K 0, 6, .inl (va_cpy f2 f 0 0 6))) := ⟨_, rfl⟩
  have hP : va_P D vwCl ws1 H := by rw [ews1]; exact hP
  have hD : va_D A ws1 := by rw [ews1]; exact hD
  have h1 := (show ws1[n]? = _ from (by rw [ews1]; exact hset_ne (by omega))).trans h1
  have h2 : ws1[(n + 1)]? = some ((ad (n + 1)), .inl (K 0, 6, .inl (va_cpy f2 f 0 0 6))) := by rw [ews1]; exact hset_eq h2
  have h3 := (show ws1[n2]? = _ from (by rw [ews1]; exact hset_ne (by omega))).trans h3
  have h4 := (show ws1[(n2 + 1)]? = _ from (by rw [ews1]; exact hset_ne (by omega))).trans h4
  refine lv_aload_n hx hb dX4_copy_15 rfl (lv_at hl 0 rfl) ?_
  refine lv_aload_n hx hb dX4_copy_16 rfl (lv_at hl 1 rfl) ?_
  refine va_get (v := .int (nI o2.length)) (C := RX4) (T := TX4) (N := 3) hx hb hts (hin_X4 hmc) hown E.1.1 hP n2 h3 rfl 1 (by decide) (hts _ (hmc _ k_106)) (fun _ h9 => h9) rfl dX4_copy_17 ?_
  refine va_put (v := .int (nI o2.length)) (ty := .int) (C := RX4) (T := TX4) (N := 3) hx hb hts (hin_X4 hmc) tyX4 tyX4_ok nmX4 hown E.1.1 hP hD hS n h1 rfl 1 (by decide) (hts _ (hmc _ k_106)) (fun _ h9 => h9) rfl (by decide +kernel) rfl rfl (Nat.le_of_ble_eq_true rfl) dX4_copy_20 (fun H locs hP hD hS => ?_)
  obtain ⟨ws2, ews2⟩ : ∃ zw : va_W, zw = List.set ws1 n ((ad n), .inr (iO, [.ref (ad (n + 1)), .int (nI o2.length), .int (nI u)])) := ⟨_, rfl⟩
  have hP : va_P D vwCl ws2 H := by rw [ews2]; exact hP
  have hD : va_D A ws2 := by rw [ews2]; exact hD
  have h1 : ws2[n]? = some ((ad n), .inr (iO, [.ref (ad (n + 1)), .int (nI o2.length), .int (nI u)])) := by rw [ews2]; exact hset_eq h1
  have h2 := (show ws2[(n + 1)]? = _ from (by rw [ews2]; exact hset_ne (by omega))).trans h2
  have h3 := (show ws2[n2]? = _ from (by rw [ews2]; exact hset_ne (by omega))).trans h3
  have h4 := (show ws2[(n2 + 1)]? = _ from (by rw [ews2]; exact hset_ne (by omega))).trans h4
  refine lv_aload_n hx hb dX4_copy_23 rfl (lv_at hl 0 rfl) ?_
  refine lv_aload_n hx hb dX4_copy_24 rfl (lv_at hl 1 rfl) ?_
  refine va_get (v := .int (nI u2)) (C := RX4) (T := TX4) (N := 3) hx hb hts (hin_X4 hmc) hown E.1.1 hP n2 h3 rfl 2 (by decide) (hts _ (hmc _ k_109)) (fun _ h9 => h9) rfl dX4_copy_25 ?_
  refine va_put (v := .int (nI u2)) (ty := .int) (C := RX4) (T := TX4) (N := 3) hx hb hts (hin_X4 hmc) tyX4 tyX4_ok nmX4 hown E.1.1 hP hD hS n h1 rfl 2 (by decide) (hts _ (hmc _ k_109)) (fun _ h9 => h9) rfl (by decide +kernel) rfl rfl (Nat.le_of_ble_eq_true rfl) dX4_copy_28 (fun H locs hP hD hS => ?_)
  obtain ⟨ws3, ews3⟩ : ∃ zw : va_W, zw = List.set ws2 n ((ad n), .inr (iO, [.ref (ad (n + 1)), .int (nI o2.length), .int (nI u2)])) := ⟨_, rfl⟩
  have hP : va_P D vwCl ws3 H := by rw [ews3]; exact hP
  have hD : va_D A ws3 := by rw [ews3]; exact hD
  have h1 : ws3[n]? = some ((ad n), .inr (iO, [.ref (ad (n + 1)), .int (nI o2.length), .int (nI u2)])) := by rw [ews3]; exact hset_eq h1
  have h2 := (show ws3[(n + 1)]? = _ from (by rw [ews3]; exact hset_ne (by omega))).trans h2
  have h3 := (show ws3[n2]? = _ from (by rw [ews3]; exact hset_ne (by omega))).trans h3
  have h4 := (show ws3[(n2 + 1)]? = _ from (by rw [ews3]; exact hset_ne (by omega))).trans h4
  subst hAe
  exact W.vret hx hb hr (fun t ht _ => ⟨⟨ws3, rfl, ⟨by rw [ews3, ews2, ews1]; exact ((hAg.rf.set (by omega) (by omega)).set (by omega) (by omega)).set (by omega) (by omega), _, _, ⟨h1, h2⟩, hk2.1, fun i hi => by rw [pk_cpy_in (Nat.zero_le _) (by omega), show 0 + (i - 0) = i by omega]; exact hk2.2.1 i hi, hk2.2.2⟩, by rw [ht]; exact hP, hD⟩, hS.F ht⟩) hS.2.2 dX4_copy_31
