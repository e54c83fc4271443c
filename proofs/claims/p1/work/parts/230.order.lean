set_option maxHeartbeats 4000000 in
set_option maxRecDepth 100000 in
/-- Order.makeEmpty -/
theorem c_X4_makeEmpty (l : Launch) (D : va_G) (K : Nat → ClassId) (tv : Nat) (ws : va_W) (ad : Nat → Nat) (n : Nat) (o : List Nat) (ho : hOrd K ad ws n o) : hV l D (hTy K) tv yX4_makeEmpty cX4_makeEmpty 1 none ({ frames := 0, cells := 0, slots := 0, locals := 0 }) [.ref (ad n)] ws (fun ws1 => hAg n (n + 2) ws ws1 ∧ hOrd K ad ws1 n []) := by
  intro sz
  refine Met.ofW (cc := cX4_makeEmpty) (maxL := 1) (ret := none) (by decide) rfl ?_
  intro p e s m args below meth c s₁ B hml hv0
  obtain ⟨rfl, rfl, E, hP, hD⟩ := hentry hv0
  have hx := B.exec
  have hb := B.bytes
  have hr := B.returns
  have hts := atoms_spec (ws := hC yX4_makeEmpty cX4_makeEmpty 1 none) B.pre
  have hown : s.vm.findClass RX4 = some m.cls := findClass_of_methodNamed B.named
  have hlocks := B.notSynchronized
  generalize hAe : va_A ws s.heap.size = A at hD E ⊢
  have hl := lv_entry ([.ref (ad n)]) (n := 1) (Nat.le_of_ble_eq_true rfl)
  rw [lg_entry_eq]
  generalize (lg_sl ([.ref (ad n)]) ++ List.replicate (1 - (lg_sl ([.ref (ad n)])).length) Slot.unset).toArray = ls at hl ⊢
  have hl : lv_has ls 1 [(0, .ref (ad n))] := hl
  refine hat0 (fun H hHe => ?_)
  have hP : va_P D vwCl ws H := by rw [hHe]; exact hP
  have hS : va_S A s.heap H [] := by rw [hHe]; exact va_S.rf
  obtain ⟨f, u, ⟨h1, h2⟩, hk⟩ := ho
  have hl6 := hk.1
  have hu := hk.2.2.2.1
  refine lv_aload_n hx hb dX4_makeEmpty_0 rfl (lv_at hl 0 rfl) ?_
  refine lv_iconst (v := nI 0) hx hb dX4_makeEmpty_1 (by decide +kernel) ?_
  refine va_put (v := .int (nI 0)) (ty := .int) (C := RX4) (T := TX4) (N := 3) hx hb hts (hin_X4 hmc) tyX4 tyX4_ok nmX4 hown E.1.1 hP hD hS n h1 rfl 1 (by decide) (hts _ (hmc _ k_106)) (fun _ h9 => h9) rfl (by decide +kernel) rfl rfl (Nat.le_of_ble_eq_true rfl) dX4_makeEmpty_2 (fun H locs hP hD hS => ?_)
  obtain ⟨ws1, ews1⟩ : ∃ z, z = List.set ws n ((ad n), .inr (iO, [.ref (ad (n + 1)), .int (nI 0), .int (nI u)])) := ⟨_, rfl⟩
  have hP : va_P D vwCl ws1 H := by rw [ews1]; exact hP
  have hD : va_D A ws1 := by rw [ews1]; exact hD
  have h1 : ws1[n]? = some ((ad n), .inr (iO, [.ref (ad (n + 1)), .int (nI 0), .int (nI u)])) := by rw [ews1]; exact hset_eq h1
  have h2 := (show ws1[(n + 1)]? = _ from (by rw [ews1]; exact hset_ne (by omega))).trans h2
  refine lv_aload_n hx hb dX4_makeEmpty_5 rfl (lv_at hl 0 rfl) ?_
  refine lv_iconst (v := nI 0) hx hb dX4_makeEmpty_6 (by decide +kernel) ?_
  refine va_put (v := .int (nI 0)) (ty := .int) (C := RX4) (T := TX4) (N := 3) hx hb hts (hin_X4 hmc) tyX4 tyX4_ok nmX4 hown E.1.1 hP hD hS n h1 rfl 2 (by decide) (hts _ (hmc _ k_109)) (fun _ h9 => h9) rfl (by decide +kernel) rfl rfl (Nat.le_of_ble_eq_true rfl) dX4_makeEmpty_7 (fun H locs hP hD hS => ?_)
  obtain ⟨ws2, ews2⟩ : ∃ z, z = List.set ws1 n ((ad n), .inr (iO, [.ref (ad (n + 1)), .int (nI 0), .int (nI 0)])) := ⟨_, rfl⟩
  have hP : va_P D vwCl ws2 H := by rw [ews2]; exact hP
  have hD : va_D A ws2 := by rw [ews2]; exact hD
  have h1 : ws2[n]? = some ((ad n), .inr (iO, [.ref (ad (n + 1)), .int (nI 0), .int (nI 0)])) := by rw [ews2]; exact hset_eq h1
  have h2 := (show ws2[(n + 1)]? = _ from (by rw [ews2]; exact hset_ne (by omega))).trans h2
  subst hAe
  exact W.vret hx hb hr (fun t ht _ => ⟨⟨ws2, rfl, ⟨by rw [ews2, ews1]; exact (hAg.rf.set (by omega) (by omega)).set (by omega) (by omega), f, 0, ⟨h1, h2⟩, hOk_nil f⟩, by rw [ht]; exact hP, hD⟩, hS.F ht⟩) hS.2.2 dX4_makeEmpty_10


set_option maxHeartbeats 4000000 in
set_option maxRecDepth 100000 in
/-- Order.copy -/
theorem c_X4_copy (l : Launch) (D : va_G) (K : Nat → ClassId) (tv : Nat) (ws : va_W) (ad : Nat → Nat) (n : Nat) (o : List Nat) (ho : hOrd K ad ws n o) (n2 : Nat) (o2 : List Nat) (ho2 : hOrd K ad ws n2 o2) (hne : n + 1 < n2 ∨ n2 + 1 < n) : hV l D (hTy K) tv yX4_copy cX4_copy 2 none ({ frames := 1, cells := 0, slots := 0, locals := 60 }) [.ref (ad n), .ref (ad n2)] ws (fun ws1 => hAg n (n + 2) ws ws1 ∧ hOrd K ad ws1 n o2) := by
  intro sz
  refine Met.ofW (cc := cX4_copy) (maxL := 2) (ret := none) (by decide) rfl ?_
  intro p e s m args below meth c s₁ B hml hv0
  obtain ⟨rfl, rfl, E, hP, hD⟩ := hentry hv0
  have hx := B.exec
  have hb := B.bytes
  have hr := B.returns
  have hts := atoms_spec (ws := hC yX4_copy cX4_copy 2 none) B.pre
  have hown : s.vm.findClass RX4 = some m.cls := findClass_of_methodNamed B.named
  have hlocks := B.notSynchronized
  generalize hAe : va_A ws s.heap.size = A at hD E ⊢
  have hl := lv_entry ([.ref (ad n), .ref (ad n2)]) (n := 2) (Nat.le_of_ble_eq_true rfl)
  rw [lg_entry_eq]
  generalize (lg_sl ([.ref (ad n), .ref (ad n2)]) ++ List.replicate (2 - (lg_sl ([.ref (ad n), .ref (ad n2)])).length) Slot.unset).toArray = ls at hl ⊢
  have hl : lv_has ls 2 [(0, .ref (ad n)), (1, .ref (ad n2))] := hl
  refine hat0 (fun H hHe => ?_)
  have hP : va_P D vwCl ws H := by rw [hHe]; exact hP
  have hS : va_S A s.heap H [] := by rw [hHe]; exact va_S.rf
  obtain ⟨f, u, ⟨h1, h2⟩, hk⟩ := ho
  have hl6 := hk.1
  have hu := hk.2.2.2.1
  obtain ⟨f2, u2, ⟨h3, h4⟩, hk2⟩ := ho2
  have hl62 := hk2.1
  refine lv_aload_n hx hb dX4_copy_0 rfl (lv_at hl 1 rfl) ?_
  refine va_get (v := .ref (ad (n2 + 1))) (C := RX4) (T := TX4) (N := 3) hx hb hts (hin_X4 hmc) hown E.1.1 hP n2 h3 rfl 0 (by decide) (hts _ (hmc _ k_105)) (fun _ h9 => h9) rfl dX4_copy_1 ?_
  refine lv_iconst (v := nI 0) hx hb dX4_copy_4 (by decide +kernel) ?_
  refine lv_aload_n hx hb dX4_copy_5 rfl (lv_at hl 0 rfl) ?_
  refine va_get (v := .ref (ad (n + 1))) (C := RX4) (T := TX4) (N := 3) hx hb hts (hin_X4 hmc) hown E.1.1 hP n h1 rfl 0 (by decide) (hts _ (hmc _ k_105)) (fun _ h9 => h9) rfl dX4_copy_6 ?_
  refine lv_iconst (v := nI 0) hx hb dX4_copy_9 (by decide +kernel) ?_
  refine lv_bipush (v := nI 6) hx hb dX4_copy_10 (by decide +kernel) ?_
  have zn : (nI 6).toNatClampNeg = 6 := nI_clamp (by omega)
  have zd : (nI 0).toNatClampNeg = 0 := nI_clamp (by omega)
  have zs : (nI 0).toNatClampNeg = 0 := nI_clamp (by omega)
  refine va_copyi (ty := .int) hx hb (hml.trans hl.1.symm) hown (hts _ (hmc _ k_399)) (hts _ (hmc _ k_268)) (hts _ (hmc _ k_267)) (hts _ (hmc _ k_31)) E.1.1 hP hD hS (n2 + 1) (n + 1) 0 0 h4 h2 rfl rfl rfl (nI_pos (by omega)) (nI_pos (by omega)) (nI_pos (by omega)) (by rw [zs, zn]; omega) (by rw [zd, zn]; omega) (fun _ _ => rfl) (Nat.le_of_ble_eq_true rfl) (Nat.le_of_ble_eq_true rfl) dX4_copy_12 (fun H locs hP hD hS => ?_)
  simp only [zn, zd, zs] at hP hD
  obtain ⟨ws1, ews1⟩ : ∃ z, z = List.set ws (n + 1) ((ad (n + 1)), .inl (K 0, 6, .inl (va_cpy f2 f 0 0 6))) := ⟨_, rfl⟩
  have hP : va_P D vwCl ws1 H := by rw [ews1]; exact hP
  have hD : va_D A ws1 := by rw [ews1]; exact hD
  have h1 := (show ws1[n]? = _ from (by rw [ews1]; exact hset_ne (by omega))).trans h1
  have h2 : ws1[(n + 1)]? = some ((ad (n + 1)), .inl (K 0, 6, .inl (va_cpy f2 f 0 0 6))) := by rw [ews1]; exact hset_eq h2
  have h3 := (show ws1[n2]? = _ from (by rw [ews1]; exact hset_ne (by omega))).trans h3
  have h4 := (show ws1[(n2 + 1)]? = _ from (by rw [ews1]; exact hset_ne (by omega))).trans h4
  refine lv_aload_n hx hb dX4_copy_15 rfl (lv_at hl 0 rfl) ?_
  refine lv_aload_n hx hb dX4_copy_16 rfl (lv_at hl 1 rfl) ?_
  refine va_get (v := .int (nI o2.length)) (C := RX4) (T := TX4) (N := 3) hx hb hts (hin_X4 hmc) hown E.1.1 hP n2 h3 rfl 1 (by decide) (hts _ (hmc _ k_106)) (fun _ h9 => h9) rfl dX4_copy_17 ?_
  refine va_put (v := .int (nI o2.length)) (ty := .int) (C := RX4) (T := TX4) (N := 3) hx hb hts (hin_X4 hmc) tyX4 tyX4_ok nmX4 hown E.1.1 hP hD hS n h1 rfl 1 (by decide) (hts _ (hmc _ k_106)) (fun _ h9 => h9) rfl (by decide +kernel) rfl rfl (Nat.le_of_ble_eq_true rfl) dX4_copy_20 (fun H locs hP hD hS => ?_)
  obtain ⟨ws2, ews2⟩ : ∃ z, z = List.set ws1 n ((ad n), .inr (iO, [.ref (ad (n + 1)), .int (nI o2.length), .int (nI u)])) := ⟨_, rfl⟩
  have hP : va_P D vwCl ws2 H := by rw [ews2]; exact hP
  have hD : va_D A ws2 := by rw [ews2]; exact hD
  have h1 : ws2[n]? = some ((ad n), .inr (iO, [.ref (ad (n + 1)), .int (nI o2.length), .int (nI u)])) := by rw [ews2]; exact hset_eq h1
  have h2 := (show ws2[(n + 1)]? = _ from (by rw [ews2]; exact hset_ne (by omega))).trans h2
  have h3 := (show ws2[n2]? = _ from (by rw [ews2]; exact hset_ne (by omega))).trans h3
  have h4 := (show ws2[(n2 + 1)]? = _ from (by rw [ews2]; exact hset_ne (by omega))).trans h4
  refine lv_aload_n hx hb dX4_copy_23 rfl (lv_at hl 0 rfl) ?_
  refine lv_aload_n hx hb dX4_copy_24 rfl (lv_at hl 1 rfl) ?_
  refine va_get (v := .int (nI u2)) (C := RX4) (T := TX4) (N := 3) hx hb hts (hin_X4 hmc) hown E.1.1 hP n2 h3 rfl 2 (by decide) (hts _ (hmc _ k_109)) (fun _ h9 => h9) rfl dX4_copy_25 ?_
  refine va_put (v := .int (nI u2)) (ty := .int) (C := RX4) (T := TX4) (N := 3) hx hb hts (hin_X4 hmc) tyX4 tyX4_ok nmX4 hown E.1.1 hP hD hS n h1 rfl 2 (by decide) (hts _ (hmc _ k_109)) (fun _ h9 => h9) rfl (by decide +kernel) rfl rfl (Nat.le_of_ble_eq_true rfl) dX4_copy_28 (fun H locs hP hD hS => ?_)
  obtain ⟨ws3, ews3⟩ : ∃ z, z = List.set ws2 n ((ad n), .inr (iO, [.ref (ad (n + 1)), .int (nI o2.length), .int (nI u2)])) := ⟨_, rfl⟩
  have hP : va_P D vwCl ws3 H := by rw [ews3]; exact hP
  have hD : va_D A ws3 := by rw [ews3]; exact hD
  have h1 : ws3[n]? = some ((ad n), .inr (iO, [.ref (ad (n + 1)), .int (nI o2.length), .int (nI u2)])) := by rw [ews3]; exact hset_eq h1
  have h2 := (show ws3[(n + 1)]? = _ from (by rw [ews3]; exact hset_ne (by omega))).trans h2
  have h3 := (show ws3[n2]? = _ from (by rw [ews3]; exact hset_ne (by omega))).trans h3
  have h4 := (show ws3[(n2 + 1)]? = _ from (by rw [ews3]; exact hset_ne (by omega))).trans h4
  subst hAe
  exact W.vret hx hb hr (fun t ht _ => ⟨⟨ws3, rfl, ⟨by rw [ews3, ews2, ews1]; exact ((hAg.rf.set (by omega) (by omega)).set (by omega) (by omega)).set (by omega) (by omega), _, _, ⟨h1, h2⟩, hk2.1, fun i hi => by rw [pk_cpy_in (Nat.zero_le _) (by omega), show 0 + (i - 0) = i by omega]; exact hk2.2.1 i hi, hk2.2.2⟩, by rw [ht]; exact hP, hD⟩, hS.F ht⟩) hS.2.2 dX4_copy_31
