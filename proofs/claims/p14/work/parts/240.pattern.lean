set_option maxHeartbeats 4000000 in
set_option maxRecDepth 100000 in
/-- become -/
theorem c_X2_become (l : Launch) (D : va_G) (K : Nat → ClassId) (tv : Nat) (ws : va_W) (ad : Nat → Nat) (n : Nat) (I dd : Nat → Nat) (mm : Nat) (hp0 : hPt K ad ws n I dd mm) (x0 x1 x2 : Nat) (hx0 : x0 < 72) (hx1 : x1 < 72) (hx2 : x2 < 72) : hV l D (hTy K) tv yX2_become cX2_become 4 none ({ frames := 0, cells := 0, slots := 0, locals := 0 }) [.ref (ad n), .int (hit x0), .int (hit x1), .int (hit x2)] ws (fun ws1 => hAg n (n + 3) ws ws1 ∧ hPt K ad ws1 n (fun p => if p = 0 then x0 else if p = 1 then x1 else x2) dd mm) := by
  intro sz
  refine Met.ofW (cc := cX2_become) (maxL := 4) (ret := none) (by decide) rfl ?_
  intro p e s m args below meth c s₁ B hml hv0
  obtain ⟨rfl, rfl, E, hP, hD⟩ := hentry hv0
  have hx := B.exec
  have hb := B.bytes
  have hr := B.returns
  have hts := atoms_spec (ws := hC yX2_become cX2_become 4 none) B.pre
  have hown : s.vm.findClass RX2 = some m.cls := findClass_of_methodNamed B.named
  have hlocks := B.notSynchronized
  generalize hAe : va_A ws s.heap.size = A at hD E ⊢
  have hl := lv_entry ([.ref (ad n), .int (hit x0), .int (hit x1), .int (hit x2)]) (n := 4) (Nat.le_of_ble_eq_true rfl)
  rw [lg_entry_eq]
  generalize (lg_sl ([.ref (ad n), .int (hit x0), .int (hit x1), .int (hit x2)]) ++ List.replicate (4 - (lg_sl ([.ref (ad n), .int (hit x0), .int (hit x1), .int (hit x2)])).length) Slot.unset).toArray = ls at hl ⊢
  have hl : lv_has ls 4 [(0, .ref (ad n)), (1, .int (hit x0)), (2, .int (hit x1)), (3, .int (hit x2))] := hl
  refine hat0 (fun H hHe => ?_)
  have hP : va_P D vwCl ws H := by rw [hHe]; exact hP
  have hS : va_S A s.heap H [] := by rw [hHe]; exact va_S.rf
  obtain ⟨fi, fd, h1, h2, h3, hfi, hfd⟩ := id hp0
  refine lv_aload_n hx hb dX2_become_0 rfl (lv_at hl 0 rfl) ?_
  refine va_get (v := .ref (ad (n + 1))) (C := RX2) (T := TX2) (N := 3) hx hb hts (hin_X2 hmc) hown E.1.1 hP n h1 rfl 0 (by decide) (hts _ (hmc _ k_75)) (fun _ h9 => h9) rfl dX2_become_1 ?_
  refine lv_iconst (v := nI 0) hx hb dX2_become_4 (by decide +kernel) ?_
  refine lv_iload_n hx hb dX2_become_5 rfl (lv_at hl 1 rfl) ?_
  refine va_iast hx hb E.1.1 hP hD hS (n + 1) 0 h2 rfl (vp_in_nI (by omega) (by omega)) dX2_become_6 (fun H locs hP hD hS => ?_)
  rw [nI_clamp (show 0 < 2 ^ 31 by omega)] at hP hD
  obtain ⟨ws1, ews1⟩ : ∃ zw : va_W, zw = List.set ws (n + 1) ((ad (n + 1)), .inl (K 0, 3, .inl (upd fi 0 (hit x0)))) := ⟨_, rfl⟩
  have hP : va_P D vwCl ws1 H := by rw [ews1]; exact hP
  have hD : va_D A ws1 := by rw [ews1]; exact hD
  have h1 := (show ws1[n]? = _ from (by rw [ews1]; exact hset_ne (by omega))).trans h1
  have h2 : ws1[(n + 1)]? = some ((ad (n + 1)), .inl (K 0, 3, .inl (upd fi 0 (hit x0)))) := by rw [ews1]; exact hset_eq h2
  have h3 := (show ws1[(n + 2)]? = _ from (by rw [ews1]; exact hset_ne (by omega))).trans h3
  refine lv_aload_n hx hb dX2_become_7 rfl (lv_at hl 0 rfl) ?_
  refine va_get (v := .ref (ad (n + 1))) (C := RX2) (T := TX2) (N := 3) hx hb hts (hin_X2 hmc) hown E.1.1 hP n h1 rfl 0 (by decide) (hts _ (hmc _ k_75)) (fun _ h9 => h9) rfl dX2_become_8 ?_
  refine lv_iconst (v := nI 1) hx hb dX2_become_11 (by decide +kernel) ?_
  refine lv_iload_n hx hb dX2_become_12 rfl (lv_at hl 2 rfl) ?_
  refine va_iast hx hb E.1.1 hP hD hS (n + 1) 0 h2 rfl (vp_in_nI (by omega) (by omega)) dX2_become_13 (fun H locs hP hD hS => ?_)
  rw [nI_clamp (show 1 < 2 ^ 31 by omega)] at hP hD
  obtain ⟨ws2, ews2⟩ : ∃ zw : va_W, zw = List.set ws1 (n + 1) ((ad (n + 1)), .inl (K 0, 3, .inl (upd (upd fi 0 (hit x0)) 1 (hit x1)))) := ⟨_, rfl⟩
  have hP : va_P D vwCl ws2 H := by rw [ews2]; exact hP
  have hD : va_D A ws2 := by rw [ews2]; exact hD
  have h1 := (show ws2[n]? = _ from (by rw [ews2]; exact hset_ne (by omega))).trans h1
  have h2 : ws2[(n + 1)]? = some ((ad (n + 1)), .inl (K 0, 3, .inl (upd (upd fi 0 (hit x0)) 1 (hit x1)))) := by rw [ews2]; exact hset_eq h2
  have h3 := (show ws2[(n + 2)]? = _ from (by rw [ews2]; exact hset_ne (by omega))).trans h3
  refine lv_aload_n hx hb dX2_become_14 rfl (lv_at hl 0 rfl) ?_
  refine va_get (v := .ref (ad (n + 1))) (C := RX2) (T := TX2) (N := 3) hx hb hts (hin_X2 hmc) hown E.1.1 hP n h1 rfl 0 (by decide) (hts _ (hmc _ k_75)) (fun _ h9 => h9) rfl dX2_become_15 ?_
  refine lv_iconst (v := nI 2) hx hb dX2_become_18 (by decide +kernel) ?_
  refine lv_iload_n hx hb dX2_become_19 rfl (lv_at hl 3 rfl) ?_
  refine va_iast hx hb E.1.1 hP hD hS (n + 1) 0 h2 rfl (vp_in_nI (by omega) (by omega)) dX2_become_20 (fun H locs hP hD hS => ?_)
  rw [nI_clamp (show 2 < 2 ^ 31 by omega)] at hP hD
  obtain ⟨ws3, ews3⟩ : ∃ zw : va_W, zw = List.set ws2 (n + 1) ((ad (n + 1)), .inl (K 0, 3, .inl (upd (upd (upd fi 0 (hit x0)) 1 (hit x1)) 2 (hit x2)))) := ⟨_, rfl⟩
  have hP : va_P D vwCl ws3 H := by rw [ews3]; exact hP
  have hD : va_D A ws3 := by rw [ews3]; exact hD
  have h1 := (show ws3[n]? = _ from (by rw [ews3]; exact hset_ne (by omega))).trans h1
  have h2 : ws3[(n + 1)]? = some ((ad (n + 1)), .inl (K 0, 3, .inl (upd (upd (upd fi 0 (hit x0)) 1 (hit x1)) 2 (hit x2)))) := by rw [ews3]; exact hset_eq h2
  have h3 := (show ws3[(n + 2)]? = _ from (by rw [ews3]; exact hset_ne (by omega))).trans h3
  subst hAe
  exact W.vret hx hb hr (fun t ht _ => ⟨⟨ws3, rfl, ⟨by rw [ews3, ews2, ews1]; exact ((hAg.rf.set (by omega) (by omega)).set (by omega) (by omega)).set (by omega) (by omega), _, fd, h1, h2, h3, fun p hp => by rcases (show p = 0 ∨ p = 1 ∨ p = 2 by omega) with rfl | rfl | rfl <;> simp [upd, hx0, hx1, hx2], hfd⟩, by rw [ht]; exact hP, hD⟩, hS.F ht⟩) hS.2.2 dX2_become_21

set_option maxHeartbeats 4000000 in
set_option maxRecDepth 100000 in
/-- variables -/
theorem c_X2_variables (l : Launch) (D : va_G) (K : Nat → ClassId) (tv : Nat) (ws : va_W) (ad : Nat → Nat) (n : Nat) (I dd : Nat → Nat) (mm : Nat) (hp0 : hPt K ad ws n I dd mm) : hI l D (hTy K) tv yX2_variables cX2_variables 3 (some .int) ({ frames := 1, cells := 0, slots := 0, locals := 60 }) [.ref (ad n)] ws (fun r ws1 => ws = ws1 ∧ r = nI (hvm I 3)) := by
  intro sz
  refine Met.ofW (cc := cX2_variables) (maxL := 3) (ret := (some .int)) (by decide) rfl ?_
  intro p e s m args below meth c s₁ B hml hv0
  obtain ⟨rfl, rfl, E, hP, hD⟩ := hentry hv0
  have hx := B.exec
  have hb := B.bytes
  have hr := B.returns
  have hts := atoms_spec (ws := hC yX2_variables cX2_variables 3 (some .int)) B.pre
  have hown : s.vm.findClass RX2 = some m.cls := findClass_of_methodNamed B.named
  have hlocks := B.notSynchronized
  generalize hAe : va_A ws s.heap.size = A at hD E ⊢
  have hl := lv_entry ([.ref (ad n)]) (n := 3) (Nat.le_of_ble_eq_true rfl)
  rw [lg_entry_eq]
  generalize (lg_sl ([.ref (ad n)]) ++ List.replicate (3 - (lg_sl ([.ref (ad n)])).length) Slot.unset).toArray = ls at hl ⊢
  have hl : lv_has ls 3 [(0, .ref (ad n))] := hl
  refine hat0 (fun H hHe => ?_)
  have hP : va_P D vwCl ws H := by rw [hHe]; exact hP
  have hS : va_S A s.heap H [] := by rw [hHe]; exact va_S.rf
  obtain ⟨fi, fd, h1, h2, h3, hfi, hfd⟩ := id hp0
  refine lv_iconst (v := nI 0) hx hb dX2_variables_0 (by decide +kernel) ?_
  refine lv_istore_n (lv' := [(1, .int (nI 0)), (0, .ref (ad n))]) hx hb dX2_variables_1 rfl hl (by decide) rfl (fun ls hl => ?_)
  refine lv_iconst (v := nI 0) hx hb dX2_variables_2 (by decide +kernel) ?_
  refine lv_istore_n (lv' := [(2, .int (nI 0)), (1, .int (nI 0)), (0, .ref (ad n))]) hx hb dX2_variables_3 rfl hl (by decide) rfl (fun ls hl => ?_)
  refine hloop0 (α := Nat) 4 3 (fun j => [(2, .int (nI j)), (1, .int (nI (hvm I j))), (0, .ref (ad n))]) (fun j => j ≤ 3) (fun j => 3 - j) ?_ 0 ls (by decide) (lv_sub hl [0, 1, 2] rfl)
  intro j ls hj hl ih
  have hl : lv_has ls 3 [(2, .int (nI j)), (1, .int (nI (hvm I j))), (0, .ref (ad n))] := hl
  refine lv_iload_n hx hb dX2_variables_4 rfl (lv_at hl 0 rfl) ?_
  refine lv_iconst (v := nI 3) hx hb dX2_variables_5 (by decide +kernel) ?_
  refine lv_icmp_ge (tgt := 36) hx hb dX2_variables_6 (by decide) (fun c1 => ?_) (fun c1 => ?_)
  · have hj3 : j = 3 := by
      rcases Nat.lt_or_ge j 3 with z | z
      · exact absurd c1 (nI_ge z (by decide))
      · omega
    subst hj3
    refine lv_iload_n hx hb dX2_variables_36 rfl (lv_at hl 1 rfl) ?_
    subst hAe
    exact W.iret (v := nI (hvm I 3)) hx hb hr (fun t ht _ => ⟨⟨nI (hvm I 3), ws, rfl, ⟨rfl, rfl⟩, by rw [ht]; exact hP, hD⟩, hS.F ht⟩) hS.2.2 dX2_variables_37
  · have hj3 : j < 3 := Nat.not_le.mp (fun z => c1 (nI_le z (by omega)))
    obtain ⟨e1, e2⟩ := hfi j hj3
    refine lv_aload_n hx hb dX2_variables_9 rfl (lv_at hl 2 rfl) ?_
    refine va_get (v := .ref (ad (n + 1))) (C := RX2) (T := TX2) (N := 3) hx hb hts (hin_X2 hmc) hown E.1.1 hP n h1 rfl 0 (by decide) (hts _ (hmc _ k_75)) (fun _ h9 => h9) rfl dX2_variables_10 ?_
    refine lv_iload_n hx hb dX2_variables_13 rfl (lv_at hl 0 rfl) ?_
    refine va_iald hx hb E.1.1 hP (n + 1) 0 h2 rfl (vp_in_nI (by omega) (by omega)) dX2_variables_14 ?_
    refine htopi (v := fi j) (by rw [nI_clamp (by omega)]) ?_
    refine htopi (v := hit (I j)) (e1) ?_
    refine lv_if_ge (tgt := 30) hx hb dX2_variables_15 (by decide) (fun c2 => ?_) (fun c2 => ?_)
    · have hn : I j < 64 := (hit_ge e2).mp c2
      have hs : hvm I (j + 1) = hvm I j := if_pos hn
      refine lv_iinc (v := nI (j + 1)) (lv' := [(2, .int (nI (j + 1))), (1, .int (nI (hvm I j))), (0, .ref (ad n))]) hx hb dX2_variables_30 hl (k := 0) rfl (nI_1 _) (by decide) rfl (fun ls hl => ?_)
      refine lv_goto (tgt := 4) hx hb dX2_variables_33 (by decide) ?_
      exact ih (j + 1) ls (by omega) (by omega) (by rw [hs]; exact lv_sub hl [0, 1, 2] rfl)
    · have hn : 64 ≤ I j := Nat.not_lt.mp (fun z => c2 ((hit_ge e2).mpr z))
      have hs : hvm I (j + 1) = hvm I j ||| 2 ^ (I j - 64) := if_neg (by omega)
      refine lv_iload_n hx hb dX2_variables_18 rfl (lv_at hl 1 rfl) ?_
      refine lv_aload_n hx hb dX2_variables_19 rfl (lv_at hl 2 rfl) ?_
      refine va_get (v := .ref (ad (n + 1))) (C := RX2) (T := TX2) (N := 3) hx hb hts (hin_X2 hmc) hown E.1.1 hP n h1 rfl 0 (by decide) (hts _ (hmc _ k_75)) (fun _ h9 => h9) rfl dX2_variables_20 ?_
      refine lv_iload_n hx hb dX2_variables_23 rfl (lv_at hl 0 rfl) ?_
      refine va_iald hx hb E.1.1 hP (n + 1) 0 h2 rfl (vp_in_nI (by omega) (by omega)) dX2_variables_24 ?_
      refine htopi (v := fi j) (by rw [nI_clamp (by omega)]) ?_
      refine htopi (v := hvI (I j - 64)) (e1.trans (hit_vv hn)) ?_
      refine hc_si (va_runSN (As := [.int (hvI (I j - 64))]) (rest := [.int (nI (hvm I j))]) ⟨hx, hb, hml, hown, hts⟩ (c_X0_bitOf l (I j - 64) (by omega)) ⟨va_cnB 1 hts (hGc hmc k_338) rfl rfl rfl (E.1.2.1 _ k_336) (hts _ (hmc _ k_20)) (by decide +kernel) ⟨Nat.le_of_ble_eq_true rfl, Nat.le_of_ble_eq_true rfl⟩, (hts _ (hmc _ k_337)), trivial⟩ hpre0 rfl rfl hl.1 rfl (lv_room (Nat.le_of_ble_eq_true rfl)) dX2_variables_25 ⟨(Nat.le_refl _), (Nat.le_refl _)⟩) (fun r1 hp => ?_)
      subst hp
      refine lv_ior hx hb dX2_variables_28 ?_
      refine htopi (v := nI (hvm I (j + 1))) (by rw [hs]; exact hior _ _) ?_
      refine lv_istore_n (lv' := [(1, .int (nI (hvm I (j + 1)))), (2, .int (nI j)), (0, .ref (ad n))]) hx hb dX2_variables_29 rfl hl (by decide) rfl (fun ls hl => ?_)
      refine lv_iinc (v := nI (j + 1)) (lv' := [(2, .int (nI (j + 1))), (1, .int (nI (hvm I (j + 1)))), (0, .ref (ad n))]) hx hb dX2_variables_30 hl (k := 1) rfl (nI_1 _) (by decide) rfl (fun ls hl => ?_)
      refine lv_goto (tgt := 4) hx hb dX2_variables_33 (by decide) ?_
      exact ih (j + 1) ls (by omega) (by omega) (lv_sub hl [0, 1, 2] rfl)

set_option maxHeartbeats 4000000 in
set_option maxRecDepth 100000 in
/-- isKnown -/
theorem c_X2_isKnown (l : Launch) (D : va_G) (K : Nat → ClassId) (tv : Nat) (ws : va_W) (ad : Nat → Nat) (n : Nat) (I dd : Nat → Nat) (mm : Nat) (hp0 : hPt K ad ws n I dd mm) (kn : Int32) (j : Nat) (hj : j < 3) : hI l D (hTy K) tv yX2_isKnown cX2_isKnown 3 (some .boolean) ({ frames := 1, cells := 0, slots := 0, locals := 60 }) [.ref (ad n), .int (nI j), .int kn] ws (fun r ws1 => ws = ws1 ∧ hBool r (hkn kn (I j))) := by
  intro sz
  refine Met.ofW (cc := cX2_isKnown) (maxL := 3) (ret := (some .boolean)) (by decide) rfl ?_
  intro p e s m args below meth c s₁ B hml hv0
  obtain ⟨rfl, rfl, E, hP, hD⟩ := hentry hv0
  have hx := B.exec
  have hb := B.bytes
  have hr := B.returns
  have hts := atoms_spec (ws := hC yX2_isKnown cX2_isKnown 3 (some .boolean)) B.pre
  have hown : s.vm.findClass RX2 = some m.cls := findClass_of_methodNamed B.named
  have hlocks := B.notSynchronized
  generalize hAe : va_A ws s.heap.size = A at hD E ⊢
  have hl := lv_entry ([.ref (ad n), .int (nI j), .int kn]) (n := 3) (Nat.le_of_ble_eq_true rfl)
  rw [lg_entry_eq]
  generalize (lg_sl ([.ref (ad n), .int (nI j), .int kn]) ++ List.replicate (3 - (lg_sl ([.ref (ad n), .int (nI j), .int kn])).length) Slot.unset).toArray = ls at hl ⊢
  have hl : lv_has ls 3 [(0, .ref (ad n)), (1, .int (nI j)), (2, .int kn)] := hl
  refine hat0 (fun H hHe => ?_)
  have hP : va_P D vwCl ws H := by rw [hHe]; exact hP
  have hS : va_S A s.heap H [] := by rw [hHe]; exact va_S.rf
  obtain ⟨fi, fd, h1, h2, h3, hfi, hfd⟩ := id hp0
  obtain ⟨e1, e2⟩ := hfi j hj
  refine lv_aload_n hx hb dX2_isKnown_0 rfl (lv_at hl 0 rfl) ?_
  refine va_get (v := .ref (ad (n + 1))) (C := RX2) (T := TX2) (N := 3) hx hb hts (hin_X2 hmc) hown E.1.1 hP n h1 rfl 0 (by decide) (hts _ (hmc _ k_75)) (fun _ h9 => h9) rfl dX2_isKnown_1 ?_
  refine lv_iload_n hx hb dX2_isKnown_4 rfl (lv_at hl 1 rfl) ?_
  refine va_iald hx hb E.1.1 hP (n + 1) 0 h2 rfl (vp_in_nI (by omega) (by omega)) dX2_isKnown_5 ?_
  refine htopi (v := fi j) (by rw [nI_clamp (by omega)]) ?_
  refine htopi (v := hit (I j)) (e1) ?_
  refine lv_if_ge (tgt := 27) hx hb dX2_isKnown_6 (by decide) (fun c1 => ?_) (fun c1 => ?_)
  · refine lv_iconst (v := nI 0) hx hb dX2_isKnown_27 (by decide +kernel) ?_
    subst hAe
    exact W.zret (v := nI 0) hx hb hr (by decide +kernel) (fun t ht _ => ⟨⟨nI 0, ws, rfl, ⟨rfl, hBool.no (fun z => absurd ((hit_ge e2).mp c1) (Nat.not_lt.mpr z.1))⟩, by rw [ht]; exact hP, hD⟩, hS.F ht⟩) hS.2.2 dX2_isKnown_28
  · have hn : 64 ≤ I j := Nat.not_lt.mp (fun z => c1 ((hit_ge e2).mpr z))
    refine lv_iload_n hx hb dX2_isKnown_9 rfl (lv_at hl 2 rfl) ?_
    refine lv_aload_n hx hb dX2_isKnown_10 rfl (lv_at hl 0 rfl) ?_
    refine va_get (v := .ref (ad (n + 1))) (C := RX2) (T := TX2) (N := 3) hx hb hts (hin_X2 hmc) hown E.1.1 hP n h1 rfl 0 (by decide) (hts _ (hmc _ k_75)) (fun _ h9 => h9) rfl dX2_isKnown_11 ?_
    refine lv_iload_n hx hb dX2_isKnown_14 rfl (lv_at hl 1 rfl) ?_
    refine va_iald hx hb E.1.1 hP (n + 1) 0 h2 rfl (vp_in_nI (by omega) (by omega)) dX2_isKnown_15 ?_
    refine htopi (v := fi j) (by rw [nI_clamp (by omega)]) ?_
    refine htopi (v := hvI (I j - 64)) (e1.trans (hit_vv hn)) ?_
    refine hc_si (va_runSN (As := [.int (hvI (I j - 64))]) (rest := [.int kn]) ⟨hx, hb, hml, hown, hts⟩ (c_X0_bitOf l (I j - 64) (by omega)) ⟨va_cnB 1 hts (hGc hmc k_338) rfl rfl rfl (E.1.2.1 _ k_336) (hts _ (hmc _ k_20)) (by decide +kernel) ⟨Nat.le_of_ble_eq_true rfl, Nat.le_of_ble_eq_true rfl⟩, (hts _ (hmc _ k_337)), trivial⟩ hpre0 rfl rfl hl.1 rfl (lv_room (Nat.le_of_ble_eq_true rfl)) dX2_isKnown_16 ⟨(Nat.le_refl _), (Nat.le_refl _)⟩) (fun r1 hp => ?_)
    subst hp
    refine lv_iand hx hb dX2_isKnown_19 ?_
    refine lv_if_eq (tgt := 27) hx hb dX2_isKnown_20 (by decide) (fun c2 => ?_) (fun c2 => ?_)
    · refine lv_iconst (v := nI 0) hx hb dX2_isKnown_27 (by decide +kernel) ?_
      subst hAe
      exact W.zret (v := nI 0) hx hb hr (by decide +kernel) (fun t ht _ => ⟨⟨nI 0, ws, rfl, ⟨rfl, hBool.no (fun z => z.2 c2)⟩, by rw [ht]; exact hP, hD⟩, hS.F ht⟩) hS.2.2 dX2_isKnown_28
    · refine lv_iconst (v := nI 1) hx hb dX2_isKnown_23 (by decide +kernel) ?_
      refine lv_goto (tgt := 28) hx hb dX2_isKnown_24 (by decide) ?_
      subst hAe
      exact W.zret (v := nI 1) hx hb hr (by decide +kernel) (fun t ht _ => ⟨⟨nI 1, ws, rfl, ⟨rfl, hBool.yes ⟨hn, c2⟩⟩, by rw [ht]; exact hP, hD⟩, hS.F ht⟩) hS.2.2 dX2_isKnown_28

set_option maxHeartbeats 4000000 in
set_option maxRecDepth 100000 in
/-- fixedPlaces -/
theorem c_X2_fixedPlaces (l : Launch) (D : va_G) (K : Nat → ClassId) (tv : Nat) (ws : va_W) (ad : Nat → Nat) (n : Nat) (I dd : Nat → Nat) (mm : Nat) (hp0 : hPt K ad ws n I dd mm) (kn : Int32) : hI l D (hTy K) tv yX2_fixedPlaces cX2_fixedPlaces 4 (some .int) ({ frames := 2, cells := 0, slots := 0, locals := 120 }) [.ref (ad n), .int kn] ws (fun r ws1 => ws = ws1 ∧ r = nI (hfx I kn 3)) := by
  intro sz
  refine Met.ofW (cc := cX2_fixedPlaces) (maxL := 4) (ret := (some .int)) (by decide) rfl ?_
  intro p e s m args below meth c s₁ B hml hv0
  obtain ⟨rfl, rfl, E, hP, hD⟩ := hentry hv0
  have hx := B.exec
  have hb := B.bytes
  have hr := B.returns
  have hts := atoms_spec (ws := hC yX2_fixedPlaces cX2_fixedPlaces 4 (some .int)) B.pre
  have hown : s.vm.findClass RX2 = some m.cls := findClass_of_methodNamed B.named
  have hlocks := B.notSynchronized
  generalize hAe : va_A ws s.heap.size = A at hD E ⊢
  have hl := lv_entry ([.ref (ad n), .int kn]) (n := 4) (Nat.le_of_ble_eq_true rfl)
  rw [lg_entry_eq]
  generalize (lg_sl ([.ref (ad n), .int kn]) ++ List.replicate (4 - (lg_sl ([.ref (ad n), .int kn])).length) Slot.unset).toArray = ls at hl ⊢
  have hl : lv_has ls 4 [(0, .ref (ad n)), (1, .int kn)] := hl
  refine hat0 (fun H hHe => ?_)
  have hP : va_P D vwCl ws H := by rw [hHe]; exact hP
  have hS : va_S A s.heap H [] := by rw [hHe]; exact va_S.rf
  obtain ⟨fi, fd, h1, h2, h3, hfi, hfd⟩ := id hp0
  refine lv_iconst (v := nI 0) hx hb dX2_fixedPlaces_0 (by decide +kernel) ?_
  refine lv_istore_n (lv' := [(2, .int (nI 0)), (0, .ref (ad n)), (1, .int kn)]) hx hb dX2_fixedPlaces_1 rfl hl (by decide) rfl (fun ls hl => ?_)
  refine lv_iconst (v := nI 0) hx hb dX2_fixedPlaces_2 (by decide +kernel) ?_
  refine lv_istore_n (lv' := [(3, .int (nI 0)), (2, .int (nI 0)), (0, .ref (ad n)), (1, .int kn)]) hx hb dX2_fixedPlaces_3 rfl hl (by decide) rfl (fun ls hl => ?_)
  refine hloopW (α := Nat) 4 4 (fun j => [(3, .int (nI j)), (2, .int (nI (hfx I kn j))), (0, .ref (ad n)), (1, .int kn)]) (fun j w1 => j ≤ 3 ∧ ws = w1) (fun j => 3 - j) (fun _ => 0) (fun _ => 0) ?_ 0 ⟨by decide, rfl⟩ hP hD hS (lv_sub hl [0, 1, 2, 3] rfl)
  intro j w1 H locs ls hj hP hD hS hl ih
  obtain ⟨hj, rfl⟩ := hj
  have hl : lv_has ls 4 [(3, .int (nI j)), (2, .int (nI (hfx I kn j))), (0, .ref (ad n)), (1, .int kn)] := hl
  refine lv_iload_n hx hb dX2_fixedPlaces_4 rfl (lv_at hl 0 rfl) ?_
  refine lv_iconst (v := nI 3) hx hb dX2_fixedPlaces_5 (by decide +kernel) ?_
  refine lv_icmp_ge (tgt := 39) hx hb dX2_fixedPlaces_6 (by decide) (fun c1 => ?_) (fun c1 => ?_)
  · have hj3 : j = 3 := by
      rcases Nat.lt_or_ge j 3 with z | z
      · exact absurd c1 (nI_ge z (by decide))
      · omega
    subst hj3
    refine lv_iload_n hx hb dX2_fixedPlaces_39 rfl (lv_at hl 1 rfl) ?_
    subst hAe
    exact W.iret (v := nI (hfx I kn 3)) hx hb hr (fun t ht _ => ⟨⟨nI (hfx I kn 3), ws, rfl, ⟨rfl, rfl⟩, by rw [ht]; exact hP, hD⟩, hS.F ht⟩) hS.2.2 dX2_fixedPlaces_40
  · have hj3 : j < 3 := Nat.not_le.mp (fun z => c1 (nI_le z (by omega)))
    obtain ⟨e1, e2⟩ := hfi j hj3
    refine lv_aload_n hx hb dX2_fixedPlaces_9 rfl (lv_at hl 2 rfl) ?_
    refine va_get (v := .ref (ad (n + 1))) (C := RX2) (T := TX2) (N := 3) hx hb hts (hin_X2 hmc) hown E.1.1 hP n h1 rfl 0 (by decide) (hts _ (hmc _ k_75)) (fun _ h9 => h9) rfl dX2_fixedPlaces_10 ?_
    refine lv_iload_n hx hb dX2_fixedPlaces_13 rfl (lv_at hl 0 rfl) ?_
    refine va_iald hx hb E.1.1 hP (n + 1) 0 h2 rfl (vp_in_nI (by omega) (by omega)) dX2_fixedPlaces_14 ?_
    refine htopi (v := fi j) (by rw [nI_clamp (by omega)]) ?_
    refine htopi (v := hit (I j)) (e1) ?_
    refine lv_if_ge (tgt := 27) hx hb dX2_fixedPlaces_15 (by decide) (fun c2 => ?_) (fun c2 => ?_)
    · have hs : hfx I kn (j + 1) = hfx I kn j ||| 2 ^ j := if_pos (Or.inl ((hit_ge e2).mp c2))
      refine lv_iload_n hx hb dX2_fixedPlaces_27 rfl (lv_at hl 1 rfl) ?_
      refine lv_iconst (v := nI 1) hx hb dX2_fixedPlaces_28 (by decide +kernel) ?_
      refine lv_iload_n hx hb dX2_fixedPlaces_29 rfl (lv_at hl 0 rfl) ?_
      refine lv_ishl hx hb dX2_fixedPlaces_30 ?_
      refine htopi (v := nI (1 * 2 ^ j)) (hshl (by omega) (hp6 (by omega))) ?_
      refine lv_ior hx hb dX2_fixedPlaces_31 ?_
      refine htopi (v := nI (hfx I kn (j + 1))) (by rw [hs, Nat.one_mul]; exact hior _ _) ?_
      refine lv_istore_n (lv' := [(2, .int (nI (hfx I kn (j + 1)))), (3, .int (nI j)), (0, .ref (ad n)), (1, .int kn)]) hx hb dX2_fixedPlaces_32 rfl hl (by decide) rfl (fun ls hl => ?_)
      refine lv_iinc (v := nI (j + 1)) (lv' := [(3, .int (nI (j + 1))), (2, .int (nI (hfx I kn (j + 1)))), (0, .ref (ad n)), (1, .int kn)]) hx hb dX2_fixedPlaces_33 hl (k := 1) rfl (nI_1 _) (by decide) rfl (fun ls hl => ?_)
      refine lv_goto (tgt := 4) hx hb dX2_fixedPlaces_36 (by decide) ?_
      exact ih (j + 1) _ _ _ ls ⟨by omega, rfl⟩ (by omega) hP hD hS (lv_sub hl [0, 1, 2, 3] rfl)
    · have hn : ¬ I j < 64 := fun z => c2 ((hit_ge e2).mpr z)
      refine lv_aload_n hx hb dX2_fixedPlaces_18 rfl (lv_at hl 2 rfl) ?_
      refine lv_iload_n hx hb dX2_fixedPlaces_19 rfl (lv_at hl 0 rfl) ?_
      refine lv_iload_n hx hb dX2_fixedPlaces_20 rfl (lv_at hl 3 rfl) ?_
      refine hc_i E hD hS (va_runV (As := [.int (nI j), .int kn]) (rest := []) ⟨hx, hb, hml, hown, hts⟩ ((c_X2_isKnown l D K tv ws ad n I dd mm hp0 kn j hj3) H.size) (cwV 2 hts (hGV hmc k_332 k_333 k_334 k_23 k_335) rfl rfl rfl (by decide +kernel) ⟨Nat.le_of_ble_eq_true rfl, Nat.le_of_ble_eq_true rfl⟩) (hpreV E hP hD hS h1 rfl) rfl rfl hl.1 rfl (lv_room (Nat.le_of_ble_eq_true rfl)) dX2_fixedPlaces_21 ⟨(Nat.le_refl _), (Nat.le_refl _)⟩) (fun r2 ws1 H locs hp hP hD hS => ?_)
      obtain ⟨rfl, hp⟩ := hp
      refine lv_if_eq (tgt := 33) hx hb dX2_fixedPlaces_24 (by decide) (fun c3 => ?_) (fun c3 => ?_)
      · have hs : hfx I kn (j + 1) = hfx I kn j := if_neg (fun z => z.elim hn (hp.f c3))
        refine lv_iinc (v := nI (j + 1)) (lv' := [(3, .int (nI (j + 1))), (2, .int (nI (hfx I kn j))), (0, .ref (ad n)), (1, .int kn)]) hx hb dX2_fixedPlaces_33 hl (k := 0) rfl (nI_1 _) (by decide) rfl (fun ls hl => ?_)
        refine lv_goto (tgt := 4) hx hb dX2_fixedPlaces_36 (by decide) ?_
        exact ih (j + 1) _ _ _ ls ⟨by omega, rfl⟩ (by omega) hP hD hS (by rw [hs]; exact lv_sub hl [0, 1, 2, 3] rfl)
      · have hs : hfx I kn (j + 1) = hfx I kn j ||| 2 ^ j := if_pos (Or.inr (hp.t c3))
        refine lv_iload_n hx hb dX2_fixedPlaces_27 rfl (lv_at hl 1 rfl) ?_
        refine lv_iconst (v := nI 1) hx hb dX2_fixedPlaces_28 (by decide +kernel) ?_
        refine lv_iload_n hx hb dX2_fixedPlaces_29 rfl (lv_at hl 0 rfl) ?_
        refine lv_ishl hx hb dX2_fixedPlaces_30 ?_
        refine htopi (v := nI (1 * 2 ^ j)) (hshl (by omega) (hp6 (by omega))) ?_
        refine lv_ior hx hb dX2_fixedPlaces_31 ?_
        refine htopi (v := nI (hfx I kn (j + 1))) (by rw [hs, Nat.one_mul]; exact hior _ _) ?_
        refine lv_istore_n (lv' := [(2, .int (nI (hfx I kn (j + 1)))), (3, .int (nI j)), (0, .ref (ad n)), (1, .int kn)]) hx hb dX2_fixedPlaces_32 rfl hl (by decide) rfl (fun ls hl => ?_)
        refine lv_iinc (v := nI (j + 1)) (lv' := [(3, .int (nI (j + 1))), (2, .int (nI (hfx I kn (j + 1)))), (0, .ref (ad n)), (1, .int kn)]) hx hb dX2_fixedPlaces_33 hl (k := 1) rfl (nI_1 _) (by decide) rfl (fun ls hl => ?_)
        refine lv_goto (tgt := 4) hx hb dX2_fixedPlaces_36 (by decide) ?_
        exact ih (j + 1) _ _ _ ls ⟨by omega, rfl⟩ (by omega) hP hD hS (lv_sub hl [0, 1, 2, 3] rfl)

set_option maxHeartbeats 4000000 in
set_option maxRecDepth 100000 in
/-- numberKey -/
theorem c_X2_numberKey (l : Launch) (D : va_G) (K : Nat → ClassId) (tv : Nat) (ws : va_W) (ad : Nat → Nat) (n : Nat) (I dd : Nat → Nat) (mm : Nat) (hp0 : hPt K ad ws n I dd mm) (v : Nat) (hv : v < 3) : hI l D (hTy K) tv yX2_numberKey cX2_numberKey 4 (some .int) ({ frames := 2, cells := 0, slots := 0, locals := 120 }) [.ref (ad n), .int (nI v)] ws (fun r ws1 => ws = ws1 ∧ r = nI (hnk v I 3)) := by
  intro sz
  refine Met.ofW (cc := cX2_numberKey) (maxL := 4) (ret := (some .int)) (by decide) rfl ?_
  intro p e s m args below meth c s₁ B hml hv0
  obtain ⟨rfl, rfl, E, hP, hD⟩ := hentry hv0
  have hx := B.exec
  have hb := B.bytes
  have hr := B.returns
  have hts := atoms_spec (ws := hC yX2_numberKey cX2_numberKey 4 (some .int)) B.pre
  have hown : s.vm.findClass RX2 = some m.cls := findClass_of_methodNamed B.named
  have hlocks := B.notSynchronized
  generalize hAe : va_A ws s.heap.size = A at hD E ⊢
  have hl := lv_entry ([.ref (ad n), .int (nI v)]) (n := 4) (Nat.le_of_ble_eq_true rfl)
  rw [lg_entry_eq]
  generalize (lg_sl ([.ref (ad n), .int (nI v)]) ++ List.replicate (4 - (lg_sl ([.ref (ad n), .int (nI v)])).length) Slot.unset).toArray = ls at hl ⊢
  have hl : lv_has ls 4 [(0, .ref (ad n)), (1, .int (nI v))] := hl
  refine hat0 (fun H hHe => ?_)
  have hP : va_P D vwCl ws H := by rw [hHe]; exact hP
  have hS : va_S A s.heap H [] := by rw [hHe]; exact va_S.rf
  obtain ⟨fi, fd, h1, h2, h3, hfi, hfd⟩ := id hp0
  refine lv_iconst (v := nI 0) hx hb dX2_numberKey_0 (by decide +kernel) ?_
  refine lv_istore_n (lv' := [(2, .int (nI 0)), (0, .ref (ad n)), (1, .int (nI v))]) hx hb dX2_numberKey_1 rfl hl (by decide) rfl (fun ls hl => ?_)
  refine lv_iconst (v := nI 0) hx hb dX2_numberKey_2 (by decide +kernel) ?_
  refine lv_istore_n (lv' := [(3, .int (nI 0)), (2, .int (nI 0)), (0, .ref (ad n)), (1, .int (nI v))]) hx hb dX2_numberKey_3 rfl hl (by decide) rfl (fun ls hl => ?_)
  refine hloop0 (α := Nat) 4 4 (fun j => [(3, .int (nI j)), (2, .int (nI (hnk v I j))), (0, .ref (ad n)), (1, .int (nI v))]) (fun j => j ≤ 3) (fun j => 3 - j) ?_ 0 ls (by decide) (lv_sub hl [0, 1, 2, 3] rfl)
  intro j ls hj hl ih
  have hl : lv_has ls 4 [(3, .int (nI j)), (2, .int (nI (hnk v I j))), (0, .ref (ad n)), (1, .int (nI v))] := hl
  refine lv_iload_n hx hb dX2_numberKey_4 rfl (lv_at hl 0 rfl) ?_
  refine lv_iconst (v := nI 3) hx hb dX2_numberKey_5 (by decide +kernel) ?_
  refine lv_icmp_ge (tgt := 39) hx hb dX2_numberKey_6 (by decide) (fun c1 => ?_) (fun c1 => ?_)
  · have hj3 : j = 3 := by
      rcases Nat.lt_or_ge j 3 with z | z
      · exact absurd c1 (nI_ge z (by decide))
      · omega
    subst hj3
    refine lv_iload_n hx hb dX2_numberKey_39 rfl (lv_at hl 1 rfl) ?_
    subst hAe
    exact W.iret (v := nI (hnk v I 3)) hx hb hr (fun t ht _ => ⟨⟨nI (hnk v I 3), ws, rfl, ⟨rfl, rfl⟩, by rw [ht]; exact hP, hD⟩, hS.F ht⟩) hS.2.2 dX2_numberKey_40
  · have hj3 : j < 3 := Nat.not_le.mp (fun z => c1 (nI_le z (by omega)))
    obtain ⟨e1, e2⟩ := hfi j hj3
    refine lv_aload_n hx hb dX2_numberKey_9 rfl (lv_at hl 2 rfl) ?_
    refine va_get (v := .ref (ad (n + 1))) (C := RX2) (T := TX2) (N := 3) hx hb hts (hin_X2 hmc) hown E.1.1 hP n h1 rfl 0 (by decide) (hts _ (hmc _ k_75)) (fun _ h9 => h9) rfl dX2_numberKey_10 ?_
    refine lv_iload_n hx hb dX2_numberKey_13 rfl (lv_at hl 0 rfl) ?_
    refine va_iald hx hb E.1.1 hP (n + 1) 0 h2 rfl (vp_in_nI (by omega) (by omega)) dX2_numberKey_14 ?_
    refine htopi (v := fi j) (by rw [nI_clamp (by omega)]) ?_
    refine htopi (v := hit (I j)) (e1) ?_
    refine lv_if_lt (tgt := 33) hx hb dX2_numberKey_15 (by decide) (fun c2 => ?_) (fun c2 => ?_)
    · have hn : ¬ I j < 64 := Nat.not_lt.mpr ((hit_lt e2).mp c2)
      have hs : hnk v I (j + 1) = hnk v I j := by
        show hnk v I j ||| hnum (I j) * 2 ^ hsh v j = _
        rw [show hnum (I j) = 0 from if_neg hn, Nat.zero_mul, Nat.or_zero]
      refine lv_iinc (v := nI (j + 1)) (lv' := [(3, .int (nI (j + 1))), (2, .int (nI (hnk v I j))), (0, .ref (ad n)), (1, .int (nI v))]) hx hb dX2_numberKey_33 hl (k := 0) rfl (nI_1 _) (by decide) rfl (fun ls hl => ?_)
      refine lv_goto (tgt := 4) hx hb dX2_numberKey_36 (by decide) ?_
      exact ih (j + 1) ls (by omega) (by omega) (by rw [hs]; exact lv_sub hl [0, 1, 2, 3] rfl)
    · have hn : I j < 64 := Nat.not_le.mp (fun z => c2 ((hit_lt e2).mpr z))
      have hs : hnk v I (j + 1) = hnk v I j ||| I j * 2 ^ hsh v j := by
        show hnk v I j ||| hnum (I j) * 2 ^ hsh v j = _
        rw [show hnum (I j) = I j from if_pos hn]
      refine lv_iload_n hx hb dX2_numberKey_18 rfl (lv_at hl 1 rfl) ?_
      refine lv_aload_n hx hb dX2_numberKey_19 rfl (lv_at hl 2 rfl) ?_
      refine va_get (v := .ref (ad (n + 1))) (C := RX2) (T := TX2) (N := 3) hx hb hts (hin_X2 hmc) hown E.1.1 hP n h1 rfl 0 (by decide) (hts _ (hmc _ k_75)) (fun _ h9 => h9) rfl dX2_numberKey_20 ?_
      refine lv_iload_n hx hb dX2_numberKey_23 rfl (lv_at hl 0 rfl) ?_
      refine va_iald hx hb E.1.1 hP (n + 1) 0 h2 rfl (vp_in_nI (by omega) (by omega)) dX2_numberKey_24 ?_
      refine htopi (v := fi j) (by rw [nI_clamp (by omega)]) ?_
      refine htopi (v := nI (I j)) (e1.trans (hit_n hn)) ?_
      refine lv_iload_n hx hb dX2_numberKey_25 rfl (lv_at hl 3 rfl) ?_
      refine lv_iload_n hx hb dX2_numberKey_26 rfl (lv_at hl 0 rfl) ?_
      refine hc_si (va_runSN (As := [.int (nI v), .int (nI j)]) (rest := [.int (nI (I j)), .int (nI (hnk v I j))]) ⟨hx, hb, hml, hown, hts⟩ (c_X0_codeShift l v j hv hj3) ⟨va_cnB 2 hts (hGc hmc k_251) rfl rfl rfl (E.1.2.1 _ k_345) (hts _ (hmc _ k_20)) (by decide +kernel) ⟨Nat.le_of_ble_eq_true rfl, Nat.le_of_ble_eq_true rfl⟩, (hts _ (hmc _ k_250)), trivial⟩ hpre0 rfl rfl hl.1 rfl (lv_room (Nat.le_of_ble_eq_true rfl)) dX2_numberKey_27 ⟨(Nat.le_refl _), (Nat.le_refl _)⟩) (fun r1 hp => ?_)
      subst hp
      refine lv_ishl hx hb dX2_numberKey_30 ?_
      refine htopi (v := nI (I j * 2 ^ hsh v j)) (hshl (by have := hsh_lt v hv j hj3; omega) (hsh_mul hv hj3 hn)) ?_
      refine lv_ior hx hb dX2_numberKey_31 ?_
      refine htopi (v := nI (hnk v I (j + 1))) (by rw [hs]; exact hior _ _) ?_
      refine lv_istore_n (lv' := [(2, .int (nI (hnk v I (j + 1)))), (3, .int (nI j)), (0, .ref (ad n)), (1, .int (nI v))]) hx hb dX2_numberKey_32 rfl hl (by decide) rfl (fun ls hl => ?_)
      refine lv_iinc (v := nI (j + 1)) (lv' := [(3, .int (nI (j + 1))), (2, .int (nI (hnk v I (j + 1)))), (0, .ref (ad n)), (1, .int (nI v))]) hx hb dX2_numberKey_33 hl (k := 1) rfl (nI_1 _) (by decide) rfl (fun ls hl => ?_)
      refine lv_goto (tgt := 4) hx hb dX2_numberKey_36 (by decide) ?_
      exact ih (j + 1) ls (by omega) (by omega) (lv_sub hl [0, 1, 2, 3] rfl)

set_option maxHeartbeats 4000000 in
set_option maxRecDepth 100000 in
/-- estimated -/
theorem c_X2_estimated (l : Launch) (D : va_G) (K : Nat → ClassId) (tv : Nat) (ws : va_W) (ad : Nat → Nat) (n : Nat) (I dd : Nat → Nat) (mm : Nat) (hp0 : hPt K ad ws n I dd mm) (kn : Int32) (hdd : ∀ p, p < 3 → dd p ≤ 127) (hmm : mm ≤ 640) : hI l D (hTy K) tv yX2_estimated cX2_estimated 4 (some .int) ({ frames := 2, cells := 0, slots := 0, locals := 120 }) [.ref (ad n), .int kn] ws (fun r ws1 => ws = ws1 ∧ r = nI (hes I dd mm kn)) := by
  intro sz
  refine Met.ofW (cc := cX2_estimated) (maxL := 4) (ret := (some .int)) (by decide) rfl ?_
  intro p e s m args below meth c s₁ B hml hv0
  obtain ⟨rfl, rfl, E, hP, hD⟩ := hentry hv0
  have hx := B.exec
  have hb := B.bytes
  have hr := B.returns
  have hts := atoms_spec (ws := hC yX2_estimated cX2_estimated 4 (some .int)) B.pre
  have hown : s.vm.findClass RX2 = some m.cls := findClass_of_methodNamed B.named
  have hlocks := B.notSynchronized
  generalize hAe : va_A ws s.heap.size = A at hD E ⊢
  have hl := lv_entry ([.ref (ad n), .int kn]) (n := 4) (Nat.le_of_ble_eq_true rfl)
  rw [lg_entry_eq]
  generalize (lg_sl ([.ref (ad n), .int kn]) ++ List.replicate (4 - (lg_sl ([.ref (ad n), .int kn])).length) Slot.unset).toArray = ls at hl ⊢
  have hl : lv_has ls 4 [(0, .ref (ad n)), (1, .int kn)] := hl
  refine hat0 (fun H hHe => ?_)
  have hP : va_P D vwCl ws H := by rw [hHe]; exact hP
  have hS : va_S A s.heap H [] := by rw [hHe]; exact va_S.rf
  obtain ⟨fi, fd, h1, h2, h3, hfi, hfd⟩ := id hp0
  refine lv_iconst (v := nI 1) hx hb dX2_estimated_0 (by decide +kernel) ?_
  refine lv_istore_n (lv' := [(2, .int (nI 1)), (0, .ref (ad n)), (1, .int kn)]) hx hb dX2_estimated_1 rfl hl (by decide) rfl (fun ls hl => ?_)
  refine lv_iconst (v := nI 0) hx hb dX2_estimated_2 (by decide +kernel) ?_
  refine lv_istore_n (lv' := [(3, .int (nI 0)), (2, .int (nI 1)), (0, .ref (ad n)), (1, .int kn)]) hx hb dX2_estimated_3 rfl hl (by decide) rfl (fun ls hl => ?_)
  refine hloopW (α := Nat) 4 4 (fun j => [(3, .int (nI j)), (2, .int (nI (hdv I dd kn j))), (0, .ref (ad n)), (1, .int kn)]) (fun j w1 => j ≤ 3 ∧ ws = w1) (fun j => 3 - j) (fun _ => 0) (fun _ => 0) ?_ 0 ⟨by decide, rfl⟩ hP hD hS (lv_sub hl [0, 1, 2, 3] rfl)
  intro j w1 H locs ls hj hP hD hS hl ih
  obtain ⟨hj, rfl⟩ := hj
  have hl : lv_has ls 4 [(3, .int (nI j)), (2, .int (nI (hdv I dd kn j))), (0, .ref (ad n)), (1, .int kn)] := hl
  refine lv_iload_n hx hb dX2_estimated_4 rfl (lv_at hl 0 rfl) ?_
  refine lv_iconst (v := nI 3) hx hb dX2_estimated_5 (by decide +kernel) ?_
  refine lv_icmp_ge (tgt := 33) hx hb dX2_estimated_6 (by decide) (fun c1 => ?_) (fun c1 => ?_)
  · have hj3 : j = 3 := by
      rcases Nat.lt_or_ge j 3 with z | z
      · exact absurd c1 (nI_ge z (by decide))
      · omega
    subst hj3
    have hd3 : hdv I dd kn 3 ≤ 2048383 := hdv_le I dd kn hdd 3 (Nat.le_refl _)
    refine lv_aload_n hx hb dX2_estimated_33 rfl (lv_at hl 2 rfl) ?_
    refine va_get (v := .int (nI mm)) (C := RX2) (T := TX2) (N := 3) hx hb hts (hin_X2 hmc) hown E.1.1 hP n h1 rfl 2 (by decide) (hts _ (hmc _ k_78)) (fun _ h9 => h9) rfl dX2_estimated_34 ?_
    refine lv_iconst (v := nI 1) hx hb dX2_estimated_37 (by decide +kernel) ?_
    refine lv_icmp_lt (tgt := 46) hx hb dX2_estimated_38 (by decide) (fun c2 => ?_) (fun c2 => ?_)
    · have hz : mm < 1 := by
        rcases Nat.lt_or_ge mm 1 with z | z
        · exact z
        · exact absurd c2 (nI_nlt z (by omega))
      refine lv_iconst (v := nI 0) hx hb dX2_estimated_46 (by decide +kernel) ?_
      subst hAe
      exact W.iret (v := nI 0) hx hb hr (fun t ht _ => ⟨⟨nI 0, ws, rfl, ⟨rfl, congrArg nI (if_pos (Or.inl hz)).symm⟩, by rw [ht]; exact hP, hD⟩, hS.F ht⟩) hS.2.2 dX2_estimated_47
    · have hm1 : ¬ mm < 1 := fun z => c2 (nI_lt z (by decide))
      refine lv_iload_n hx hb dX2_estimated_41 rfl (lv_at hl 1 rfl) ?_
      refine lv_iconst (v := nI 1) hx hb dX2_estimated_42 (by decide +kernel) ?_
      refine lv_icmp_ge (tgt := 48) hx hb dX2_estimated_43 (by decide) (fun c3 => ?_) (fun c3 => ?_)
      · have hd1 : ¬ hdv I dd kn 3 < 1 := fun z => absurd c3 (nI_ge z (by decide))
        refine lv_aload_n hx hb dX2_estimated_48 rfl (lv_at hl 2 rfl) ?_
        refine va_get (v := .int (nI mm)) (C := RX2) (T := TX2) (N := 3) hx hb hts (hin_X2 hmc) hown E.1.1 hP n h1 rfl 2 (by decide) (hts _ (hmc _ k_78)) (fun _ h9 => h9) rfl dX2_estimated_49 ?_
        refine lv_iload_n hx hb dX2_estimated_52 rfl (lv_at hl 1 rfl) ?_
        refine lv_iadd hx hb dX2_estimated_53 ?_
        refine htopi (v := nI (mm + (hdv I dd kn 3))) (nI_add _ _) ?_
        refine lv_iconst (v := nI 1) hx hb dX2_estimated_54 (by decide +kernel) ?_
        refine lv_isub hx hb dX2_estimated_55 ?_
        refine htopi (v := nI (mm + hdv I dd kn 3 - 1)) (pk_sub (by omega)) ?_
        refine lv_iload_n hx hb dX2_estimated_56 rfl (lv_at hl 1 rfl) ?_
        refine lv_idiv hx hb dX2_estimated_57 (nI_ne0 (by omega) (by omega)) ?_
        refine htopi (v := nI ((mm + hdv I dd kn 3 - 1) / hdv I dd kn 3)) (pk_div (by omega) (by omega) (by omega)) ?_
        subst hAe
        exact W.iret (v := nI ((mm + hdv I dd kn 3 - 1) / hdv I dd kn 3)) hx hb hr (fun t ht _ => ⟨⟨nI ((mm + hdv I dd kn 3 - 1) / hdv I dd kn 3), ws, rfl, ⟨rfl, congrArg nI (if_neg (fun z => z.elim hm1 hd1)).symm⟩, by rw [ht]; exact hP, hD⟩, hS.F ht⟩) hS.2.2 dX2_estimated_58
      · have hd1 : hdv I dd kn 3 < 1 := Nat.not_le.mp (fun z => c3 (nI_le z (by omega)))
        refine lv_iconst (v := nI 0) hx hb dX2_estimated_46 (by decide +kernel) ?_
        subst hAe
        exact W.iret (v := nI 0) hx hb hr (fun t ht _ => ⟨⟨nI 0, ws, rfl, ⟨rfl, congrArg nI (if_pos (Or.inr hd1)).symm⟩, by rw [ht]; exact hP, hD⟩, hS.F ht⟩) hS.2.2 dX2_estimated_47
  · have hj3 : j < 3 := Nat.not_le.mp (fun z => c1 (nI_le z (by omega)))
    have e1 := hfd j hj3
    refine lv_aload_n hx hb dX2_estimated_9 rfl (lv_at hl 2 rfl) ?_
    refine lv_iload_n hx hb dX2_estimated_10 rfl (lv_at hl 0 rfl) ?_
    refine lv_iload_n hx hb dX2_estimated_11 rfl (lv_at hl 3 rfl) ?_
    refine hc_i E hD hS (va_runV (As := [.int (nI j), .int kn]) (rest := []) ⟨hx, hb, hml, hown, hts⟩ ((c_X2_isKnown l D K tv ws ad n I dd mm hp0 kn j hj3) H.size) (cwV 2 hts (hGV hmc k_332 k_333 k_334 k_23 k_335) rfl rfl rfl (by decide +kernel) ⟨Nat.le_of_ble_eq_true rfl, Nat.le_of_ble_eq_true rfl⟩) (hpreV E hP hD hS h1 rfl) rfl rfl hl.1 rfl (lv_room (Nat.le_of_ble_eq_true rfl)) dX2_estimated_12 ⟨(Nat.le_refl _), (Nat.le_refl _)⟩) (fun r2 ws1 H locs hp hP hD hS => ?_)
    obtain ⟨rfl, hp⟩ := hp
    refine lv_if_eq (tgt := 27) hx hb dX2_estimated_15 (by decide) (fun c3 => ?_) (fun c3 => ?_)
    · have hs : hdv I dd kn (j + 1) = hdv I dd kn j := if_neg (hp.f c3)
      refine lv_iinc (v := nI (j + 1)) (lv' := [(3, .int (nI (j + 1))), (2, .int (nI (hdv I dd kn j))), (0, .ref (ad n)), (1, .int kn)]) hx hb dX2_estimated_27 hl (k := 0) rfl (nI_1 _) (by decide) rfl (fun ls hl => ?_)
      refine lv_goto (tgt := 4) hx hb dX2_estimated_30 (by decide) ?_
      exact ih (j + 1) _ _ _ ls ⟨by omega, rfl⟩ (by omega) hP hD hS (by rw [hs]; exact lv_sub hl [0, 1, 2, 3] rfl)
    · have hs : hdv I dd kn (j + 1) = hdv I dd kn j * dd j := if_pos (hp.t c3)
      refine lv_iload_n hx hb dX2_estimated_18 rfl (lv_at hl 1 rfl) ?_
      refine lv_aload_n hx hb dX2_estimated_19 rfl (lv_at hl 2 rfl) ?_
      refine va_get (v := .ref (ad (n + 2))) (C := RX2) (T := TX2) (N := 3) hx hb hts (hin_X2 hmc) hown E.1.1 hP n h1 rfl 1 (by decide) (hts _ (hmc _ k_77)) (fun _ h9 => h9) rfl dX2_estimated_20 ?_
      refine lv_iload_n hx hb dX2_estimated_23 rfl (lv_at hl 0 rfl) ?_
      refine va_iald hx hb E.1.1 hP (n + 2) 0 h3 rfl (vp_in_nI (by omega) (by omega)) dX2_estimated_24 ?_
      refine htopi (v := fd j) (by rw [nI_clamp (by omega)]) ?_
      refine htopi (v := nI (dd j)) (e1) ?_
      refine lv_imul hx hb dX2_estimated_25 ?_
      refine htopi (v := nI (hdv I dd kn (j + 1))) (by rw [hs]; exact pk_mul _ _) ?_
      refine lv_istore_n (lv' := [(2, .int (nI (hdv I dd kn (j + 1)))), (3, .int (nI j)), (0, .ref (ad n)), (1, .int kn)]) hx hb dX2_estimated_26 rfl hl (by decide) rfl (fun ls hl => ?_)
      refine lv_iinc (v := nI (j + 1)) (lv' := [(3, .int (nI (j + 1))), (2, .int (nI (hdv I dd kn (j + 1)))), (0, .ref (ad n)), (1, .int kn)]) hx hb dX2_estimated_27 hl (k := 1) rfl (nI_1 _) (by decide) rfl (fun ls hl => ?_)
      refine lv_goto (tgt := 4) hx hb dX2_estimated_30 (by decide) ?_
      exact ih (j + 1) _ _ _ ls ⟨by omega, rfl⟩ (by omega) hP hD hS (lv_sub hl [0, 1, 2, 3] rfl)

set_option maxHeartbeats 4000000 in
set_option maxRecDepth 100000 in
/-- fits -/
theorem c_X2_fits (l : Launch) (D : va_G) (K : Nat → ClassId) (tv : Nat) (ws : va_W) (ad : Nat → Nat) (n : Nat) (I dd : Nat → Nat) (mm : Nat) (hp0 : hPt K ad ws n I dd mm) (na nb nc : Nat) (ha : na < 64) (hb6 : nb < 64) (hc : nc < 64) : hI l D (hTy K) tv yX2_fits cX2_fits 4 (some .boolean) ({ frames := 0, cells := 0, slots := 0, locals := 0 }) [.ref (ad n), .int (nI na), .int (nI nb), .int (nI nc)] ws (fun r ws1 => ws = ws1 ∧ hBool r (hFit I na nb nc)) := by
  intro sz
  refine Met.ofW (cc := cX2_fits) (maxL := 4) (ret := (some .boolean)) (by decide) rfl ?_
  intro p e s m args below meth c s₁ B hml hv0
  obtain ⟨rfl, rfl, E, hP, hD⟩ := hentry hv0
  have hx := B.exec
  have hb := B.bytes
  have hr := B.returns
  have hts := atoms_spec (ws := hC yX2_fits cX2_fits 4 (some .boolean)) B.pre
  have hown : s.vm.findClass RX2 = some m.cls := findClass_of_methodNamed B.named
  have hlocks := B.notSynchronized
  generalize hAe : va_A ws s.heap.size = A at hD E ⊢
  have hl := lv_entry ([.ref (ad n), .int (nI na), .int (nI nb), .int (nI nc)]) (n := 4) (Nat.le_of_ble_eq_true rfl)
  rw [lg_entry_eq]
  generalize (lg_sl ([.ref (ad n), .int (nI na), .int (nI nb), .int (nI nc)]) ++ List.replicate (4 - (lg_sl ([.ref (ad n), .int (nI na), .int (nI nb), .int (nI nc)])).length) Slot.unset).toArray = ls at hl ⊢
  have hl : lv_has ls 4 [(0, .ref (ad n)), (1, .int (nI na)), (2, .int (nI nb)), (3, .int (nI nc))] := hl
  refine hat0 (fun H hHe => ?_)
  have hP : va_P D vwCl ws H := by rw [hHe]; exact hP
  have hS : va_S A s.heap H [] := by rw [hHe]; exact va_S.rf
  obtain ⟨fi, fd, h1, h2, h3, hfi, hfd⟩ := id hp0
  obtain ⟨e0, f0⟩ := hfi 0 (by decide)
  obtain ⟨e1, f1⟩ := hfi 1 (by decide)
  obtain ⟨e2, f2⟩ := hfi 2 (by decide)
  refine hcut (pc2 := 121) (P := ¬ hFit I na nb nc) (fun hnf => ?_) (fun kf => ?_)
  · refine lv_iconst (v := nI 0) hx hb dX2_fits_121 (by decide +kernel) ?_
    subst hAe
    exact W.zret (v := nI 0) hx hb hr (by decide +kernel) (fun t ht _ => ⟨⟨nI 0, ws, rfl, ⟨rfl, hBool.no hnf⟩, by rw [ht]; exact hP, hD⟩, hS.F ht⟩) hS.2.2 dX2_fits_122
  · refine hcut (pc2 := 19) (P := 64 ≤ I 0 ∨ I 0 = na) (fun q0 => ?_) (fun k0 => ?_)
    · refine hcut (pc2 := 38) (P := 64 ≤ I 1 ∨ I 1 = nb) (fun q1 => ?_) (fun k1 => ?_)
      · refine hcut (pc2 := 57) (P := 64 ≤ I 2 ∨ I 2 = nc) (fun q2 => ?_) (fun k2 => ?_)
        · refine hcut (pc2 := 77) (P := ¬ I 0 = I 1 ∨ na = nb) (fun q3 => ?_) (fun k3 => ?_)
          · refine hcut (pc2 := 97) (P := ¬ I 1 = I 2 ∨ nb = nc) (fun q4 => ?_) (fun k4 => ?_)
            · refine hcut (pc2 := 117) (P := ¬ I 0 = I 2 ∨ na = nc) (fun q5 => ?_) (fun k5 => ?_)
              · refine lv_iconst (v := nI 1) hx hb dX2_fits_117 (by decide +kernel) ?_
                refine lv_goto (tgt := 122) hx hb dX2_fits_118 (by decide) ?_
                subst hAe
                exact W.zret (v := nI 1) hx hb hr (by decide +kernel) (fun t ht _ => ⟨⟨nI 1, ws, rfl, ⟨rfl, hBool.yes ⟨q0, q1, q2, q3, q4, q5⟩⟩, by rw [ht]; exact hP, hD⟩, hS.F ht⟩) hS.2.2 dX2_fits_122
              · refine lv_aload_n hx hb dX2_fits_97 rfl (lv_at hl 0 rfl) ?_
                refine va_get (v := .ref (ad (n + 1))) (C := RX2) (T := TX2) (N := 3) hx hb hts (hin_X2 hmc) hown E.1.1 hP n h1 rfl 0 (by decide) (hts _ (hmc _ k_75)) (fun _ h9 => h9) rfl dX2_fits_98 ?_
                refine lv_iconst (v := nI 0) hx hb dX2_fits_101 (by decide +kernel) ?_
                refine va_iald hx hb E.1.1 hP (n + 1) 0 h2 rfl (vp_in_nI (by omega) (by omega)) dX2_fits_102 ?_
                refine htopi (v := fi 0) (by rw [nI_clamp (by omega)]) ?_
                refine htopi (v := hit (I 0)) (e0) ?_
                refine lv_aload_n hx hb dX2_fits_103 rfl (lv_at hl 0 rfl) ?_
                refine va_get (v := .ref (ad (n + 1))) (C := RX2) (T := TX2) (N := 3) hx hb hts (hin_X2 hmc) hown E.1.1 hP n h1 rfl 0 (by decide) (hts _ (hmc _ k_75)) (fun _ h9 => h9) rfl dX2_fits_104 ?_
                refine lv_iconst (v := nI 2) hx hb dX2_fits_107 (by decide +kernel) ?_
                refine va_iald hx hb E.1.1 hP (n + 1) 0 h2 rfl (vp_in_nI (by omega) (by omega)) dX2_fits_108 ?_
                refine htopi (v := fi 2) (by rw [nI_clamp (by omega)]) ?_
                refine htopi (v := hit (I 2)) (e2) ?_
                refine lv_icmp_ne (tgt := 117) hx hb dX2_fits_109 (by decide) (fun c1 => ?_) (fun c1 => ?_)
                · exact k5 (Or.inl (fun z => c1 (by rw [z])))
                · have hq := hit_inj f0 f2 c1
                  refine lv_iload_n hx hb dX2_fits_112 rfl (lv_at hl 1 rfl) ?_
                  refine lv_iload_n hx hb dX2_fits_113 rfl (lv_at hl 3 rfl) ?_
                  refine lv_icmp_ne (tgt := 121) hx hb dX2_fits_114 (by decide) (fun c2 => ?_) (fun c2 => ?_)
                  · exact kf (fun z => z.2.2.2.2.2.elim (fun q => q hq) (fun q => c2 (by rw [q])))
                  · exact k5 (Or.inr ((nI_eq (by omega) (by omega)).mp c2))
            · refine lv_aload_n hx hb dX2_fits_77 rfl (lv_at hl 0 rfl) ?_
              refine va_get (v := .ref (ad (n + 1))) (C := RX2) (T := TX2) (N := 3) hx hb hts (hin_X2 hmc) hown E.1.1 hP n h1 rfl 0 (by decide) (hts _ (hmc _ k_75)) (fun _ h9 => h9) rfl dX2_fits_78 ?_
              refine lv_iconst (v := nI 1) hx hb dX2_fits_81 (by decide +kernel) ?_
              refine va_iald hx hb E.1.1 hP (n + 1) 0 h2 rfl (vp_in_nI (by omega) (by omega)) dX2_fits_82 ?_
              refine htopi (v := fi 1) (by rw [nI_clamp (by omega)]) ?_
              refine htopi (v := hit (I 1)) (e1) ?_
              refine lv_aload_n hx hb dX2_fits_83 rfl (lv_at hl 0 rfl) ?_
              refine va_get (v := .ref (ad (n + 1))) (C := RX2) (T := TX2) (N := 3) hx hb hts (hin_X2 hmc) hown E.1.1 hP n h1 rfl 0 (by decide) (hts _ (hmc _ k_75)) (fun _ h9 => h9) rfl dX2_fits_84 ?_
              refine lv_iconst (v := nI 2) hx hb dX2_fits_87 (by decide +kernel) ?_
              refine va_iald hx hb E.1.1 hP (n + 1) 0 h2 rfl (vp_in_nI (by omega) (by omega)) dX2_fits_88 ?_
              refine htopi (v := fi 2) (by rw [nI_clamp (by omega)]) ?_
              refine htopi (v := hit (I 2)) (e2) ?_
              refine lv_icmp_ne (tgt := 97) hx hb dX2_fits_89 (by decide) (fun c1 => ?_) (fun c1 => ?_)
              · exact k4 (Or.inl (fun z => c1 (by rw [z])))
              · have hq := hit_inj f1 f2 c1
                refine lv_iload_n hx hb dX2_fits_92 rfl (lv_at hl 2 rfl) ?_
                refine lv_iload_n hx hb dX2_fits_93 rfl (lv_at hl 3 rfl) ?_
                refine lv_icmp_ne (tgt := 121) hx hb dX2_fits_94 (by decide) (fun c2 => ?_) (fun c2 => ?_)
                · exact kf (fun z => z.2.2.2.2.1.elim (fun q => q hq) (fun q => c2 (by rw [q])))
                · exact k4 (Or.inr ((nI_eq (by omega) (by omega)).mp c2))
          · refine lv_aload_n hx hb dX2_fits_57 rfl (lv_at hl 0 rfl) ?_
            refine va_get (v := .ref (ad (n + 1))) (C := RX2) (T := TX2) (N := 3) hx hb hts (hin_X2 hmc) hown E.1.1 hP n h1 rfl 0 (by decide) (hts _ (hmc _ k_75)) (fun _ h9 => h9) rfl dX2_fits_58 ?_
            refine lv_iconst (v := nI 0) hx hb dX2_fits_61 (by decide +kernel) ?_
            refine va_iald hx hb E.1.1 hP (n + 1) 0 h2 rfl (vp_in_nI (by omega) (by omega)) dX2_fits_62 ?_
            refine htopi (v := fi 0) (by rw [nI_clamp (by omega)]) ?_
            refine htopi (v := hit (I 0)) (e0) ?_
            refine lv_aload_n hx hb dX2_fits_63 rfl (lv_at hl 0 rfl) ?_
            refine va_get (v := .ref (ad (n + 1))) (C := RX2) (T := TX2) (N := 3) hx hb hts (hin_X2 hmc) hown E.1.1 hP n h1 rfl 0 (by decide) (hts _ (hmc _ k_75)) (fun _ h9 => h9) rfl dX2_fits_64 ?_
            refine lv_iconst (v := nI 1) hx hb dX2_fits_67 (by decide +kernel) ?_
            refine va_iald hx hb E.1.1 hP (n + 1) 0 h2 rfl (vp_in_nI (by omega) (by omega)) dX2_fits_68 ?_
            refine htopi (v := fi 1) (by rw [nI_clamp (by omega)]) ?_
            refine htopi (v := hit (I 1)) (e1) ?_
            refine lv_icmp_ne (tgt := 77) hx hb dX2_fits_69 (by decide) (fun c1 => ?_) (fun c1 => ?_)
            · exact k3 (Or.inl (fun z => c1 (by rw [z])))
            · have hq := hit_inj f0 f1 c1
              refine lv_iload_n hx hb dX2_fits_72 rfl (lv_at hl 1 rfl) ?_
              refine lv_iload_n hx hb dX2_fits_73 rfl (lv_at hl 2 rfl) ?_
              refine lv_icmp_ne (tgt := 121) hx hb dX2_fits_74 (by decide) (fun c2 => ?_) (fun c2 => ?_)
              · exact kf (fun z => z.2.2.2.1.elim (fun q => q hq) (fun q => c2 (by rw [q])))
              · exact k3 (Or.inr ((nI_eq (by omega) (by omega)).mp c2))
        · refine lv_aload_n hx hb dX2_fits_38 rfl (lv_at hl 0 rfl) ?_
          refine va_get (v := .ref (ad (n + 1))) (C := RX2) (T := TX2) (N := 3) hx hb hts (hin_X2 hmc) hown E.1.1 hP n h1 rfl 0 (by decide) (hts _ (hmc _ k_75)) (fun _ h9 => h9) rfl dX2_fits_39 ?_
          refine lv_iconst (v := nI 2) hx hb dX2_fits_42 (by decide +kernel) ?_
          refine va_iald hx hb E.1.1 hP (n + 1) 0 h2 rfl (vp_in_nI (by omega) (by omega)) dX2_fits_43 ?_
          refine htopi (v := fi 2) (by rw [nI_clamp (by omega)]) ?_
          refine htopi (v := hit (I 2)) (e2) ?_
          refine lv_if_lt (tgt := 57) hx hb dX2_fits_44 (by decide) (fun c1 => ?_) (fun c1 => ?_)
          · exact k2 (Or.inl ((hit_lt f2).mp c1))
          · have hn : I 2 < 64 := Nat.not_le.mp (fun z => c1 ((hit_lt f2).mpr z))
            refine lv_aload_n hx hb dX2_fits_47 rfl (lv_at hl 0 rfl) ?_
            refine va_get (v := .ref (ad (n + 1))) (C := RX2) (T := TX2) (N := 3) hx hb hts (hin_X2 hmc) hown E.1.1 hP n h1 rfl 0 (by decide) (hts _ (hmc _ k_75)) (fun _ h9 => h9) rfl dX2_fits_48 ?_
            refine lv_iconst (v := nI 2) hx hb dX2_fits_51 (by decide +kernel) ?_
            refine va_iald hx hb E.1.1 hP (n + 1) 0 h2 rfl (vp_in_nI (by omega) (by omega)) dX2_fits_52 ?_
            refine htopi (v := fi 2) (by rw [nI_clamp (by omega)]) ?_
            refine htopi (v := nI (I 2)) (e2.trans (hit_n hn)) ?_
            refine lv_iload_n hx hb dX2_fits_53 rfl (lv_at hl 3 rfl) ?_
            refine lv_icmp_ne (tgt := 121) hx hb dX2_fits_54 (by decide) (fun c2 => ?_) (fun c2 => ?_)
            · exact kf (fun z => z.2.2.1.elim (fun q => absurd hn (Nat.not_lt.mpr q)) (fun q => c2 (by rw [q])))
            · exact k2 (Or.inr ((nI_eq (by omega) (by omega)).mp c2))
      · refine lv_aload_n hx hb dX2_fits_19 rfl (lv_at hl 0 rfl) ?_
        refine va_get (v := .ref (ad (n + 1))) (C := RX2) (T := TX2) (N := 3) hx hb hts (hin_X2 hmc) hown E.1.1 hP n h1 rfl 0 (by decide) (hts _ (hmc _ k_75)) (fun _ h9 => h9) rfl dX2_fits_20 ?_
        refine lv_iconst (v := nI 1) hx hb dX2_fits_23 (by decide +kernel) ?_
        refine va_iald hx hb E.1.1 hP (n + 1) 0 h2 rfl (vp_in_nI (by omega) (by omega)) dX2_fits_24 ?_
        refine htopi (v := fi 1) (by rw [nI_clamp (by omega)]) ?_
        refine htopi (v := hit (I 1)) (e1) ?_
        refine lv_if_lt (tgt := 38) hx hb dX2_fits_25 (by decide) (fun c1 => ?_) (fun c1 => ?_)
        · exact k1 (Or.inl ((hit_lt f1).mp c1))
        · have hn : I 1 < 64 := Nat.not_le.mp (fun z => c1 ((hit_lt f1).mpr z))
          refine lv_aload_n hx hb dX2_fits_28 rfl (lv_at hl 0 rfl) ?_
          refine va_get (v := .ref (ad (n + 1))) (C := RX2) (T := TX2) (N := 3) hx hb hts (hin_X2 hmc) hown E.1.1 hP n h1 rfl 0 (by decide) (hts _ (hmc _ k_75)) (fun _ h9 => h9) rfl dX2_fits_29 ?_
          refine lv_iconst (v := nI 1) hx hb dX2_fits_32 (by decide +kernel) ?_
          refine va_iald hx hb E.1.1 hP (n + 1) 0 h2 rfl (vp_in_nI (by omega) (by omega)) dX2_fits_33 ?_
          refine htopi (v := fi 1) (by rw [nI_clamp (by omega)]) ?_
          refine htopi (v := nI (I 1)) (e1.trans (hit_n hn)) ?_
          refine lv_iload_n hx hb dX2_fits_34 rfl (lv_at hl 2 rfl) ?_
          refine lv_icmp_ne (tgt := 121) hx hb dX2_fits_35 (by decide) (fun c2 => ?_) (fun c2 => ?_)
          · exact kf (fun z => z.2.1.elim (fun q => absurd hn (Nat.not_lt.mpr q)) (fun q => c2 (by rw [q])))
          · exact k1 (Or.inr ((nI_eq (by omega) (by omega)).mp c2))
    · refine lv_aload_n hx hb dX2_fits_0 rfl (lv_at hl 0 rfl) ?_
      refine va_get (v := .ref (ad (n + 1))) (C := RX2) (T := TX2) (N := 3) hx hb hts (hin_X2 hmc) hown E.1.1 hP n h1 rfl 0 (by decide) (hts _ (hmc _ k_75)) (fun _ h9 => h9) rfl dX2_fits_1 ?_
      refine lv_iconst (v := nI 0) hx hb dX2_fits_4 (by decide +kernel) ?_
      refine va_iald hx hb E.1.1 hP (n + 1) 0 h2 rfl (vp_in_nI (by omega) (by omega)) dX2_fits_5 ?_
      refine htopi (v := fi 0) (by rw [nI_clamp (by omega)]) ?_
      refine htopi (v := hit (I 0)) (e0) ?_
      refine lv_if_lt (tgt := 19) hx hb dX2_fits_6 (by decide) (fun c1 => ?_) (fun c1 => ?_)
      · exact k0 (Or.inl ((hit_lt f0).mp c1))
      · have hn : I 0 < 64 := Nat.not_le.mp (fun z => c1 ((hit_lt f0).mpr z))
        refine lv_aload_n hx hb dX2_fits_9 rfl (lv_at hl 0 rfl) ?_
        refine va_get (v := .ref (ad (n + 1))) (C := RX2) (T := TX2) (N := 3) hx hb hts (hin_X2 hmc) hown E.1.1 hP n h1 rfl 0 (by decide) (hts _ (hmc _ k_75)) (fun _ h9 => h9) rfl dX2_fits_10 ?_
        refine lv_iconst (v := nI 0) hx hb dX2_fits_13 (by decide +kernel) ?_
        refine va_iald hx hb E.1.1 hP (n + 1) 0 h2 rfl (vp_in_nI (by omega) (by omega)) dX2_fits_14 ?_
        refine htopi (v := fi 0) (by rw [nI_clamp (by omega)]) ?_
        refine htopi (v := nI (I 0)) (e0.trans (hit_n hn)) ?_
        refine lv_iload_n hx hb dX2_fits_15 rfl (lv_at hl 1 rfl) ?_
        refine lv_icmp_ne (tgt := 121) hx hb dX2_fits_16 (by decide) (fun c2 => ?_) (fun c2 => ?_)
        · exact kf (fun z => z.1.elim (fun q => absurd hn (Nat.not_lt.mpr q)) (fun q => c2 (by rw [q])))
        · exact k0 (Or.inr ((nI_eq (by omega) (by omega)).mp c2))
