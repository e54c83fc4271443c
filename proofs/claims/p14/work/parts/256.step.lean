set_option maxHeartbeats 4000000 in
set_option maxRecDepth 100000 in
/-- agrees -/
theorem c_X6_agrees (l : Launch) (D : va_G) (K : Nat → ClassId) (tv : Nat) (ws : va_W) (ad : Nat → Nat) (n : Nat) (fl : List Nat) (It sh : Nat → Nat) (nk fx ob : Nat) (hst : hStp K ad ws n fl It sh nk fx ob) (hk : hStk fl It sh nk fx ob) (i key : Nat) (hi : i < fl.length) (hkey : key < 262144) : hI l D (hTy K) tv yX6_agrees cX6_agrees 3 (some .boolean) ({ frames := 0, cells := 0, slots := 0, locals := 0 }) [.ref (ad n), .int (nI i), .int (nI key)] ws (fun r ws1 => ws = ws1 ∧ hBool r (fl.getD i 0 / 2 ^ ob = key / 2 ^ ob)) := by
  intro sz
  refine Met.ofW (cc := cX6_agrees) (maxL := 3) (ret := (some .boolean)) (by decide) rfl ?_
  intro p e s m args below meth c s₁ B hml hv0
  obtain ⟨rfl, rfl, E, hP, hD⟩ := hentry hv0
  have hx := B.exec
  have hb := B.bytes
  have hr := B.returns
  have hts := atoms_spec (ws := hC yX6_agrees cX6_agrees 3 (some .boolean)) B.pre
  have hown : s.vm.findClass RX6 = some m.cls := findClass_of_methodNamed B.named
  have hlocks := B.notSynchronized
  generalize hAe : va_A ws s.heap.size = A at hD E ⊢
  have hl := lv_entry ([.ref (ad n), .int (nI i), .int (nI key)]) (n := 3) (Nat.le_of_ble_eq_true rfl)
  rw [lg_entry_eq]
  generalize (lg_sl ([.ref (ad n), .int (nI i), .int (nI key)]) ++ List.replicate (3 - (lg_sl ([.ref (ad n), .int (nI i), .int (nI key)])).length) Slot.unset).toArray = ls at hl ⊢
  have hl : lv_has ls 3 [(0, .ref (ad n)), (1, .int (nI i)), (2, .int (nI key))] := hl
  refine hat0 (fun H hHe => ?_)
  have hP : va_P D vwCl ws H := by rw [hHe]; exact hP
  have hS : va_S A s.heap H [] := by rw [hHe]; exact va_S.rf
  obtain ⟨f, fi, fs, h1, h2, h3, h4, hf, hfi, hfs⟩ := id hst
  obtain ⟨hl640, hfl, hup, hI72, hs13, hnk, hfx8, hob⟩ := hk
  have hx18 := hfl _ (hgetD_mem hi)
  have d1 : fl.getD i 0 / 2 ^ ob ≤ fl.getD i 0 := Nat.div_le_self _ _
  have d2 : key / 2 ^ ob ≤ key := Nat.div_le_self _ _
  refine lv_aload_n hx hb dX6_agrees_0 rfl (lv_at hl 0 rfl) ?_
  refine va_get (v := .ref (ad (n + 1))) (C := RX6) (T := TX6) (N := 7) hx hb hts (hin_X6 hmc) hown E.1.1 hP n h1 rfl 0 (by decide) (hts _ (hmc _ k_172)) (fun _ h9 => h9) rfl dX6_agrees_1 ?_
  refine lv_iload_n hx hb dX6_agrees_4 rfl (lv_at hl 1 rfl) ?_
  refine va_iald hx hb E.1.1 hP (n + 1) 0 h2 rfl (vp_in_nI (by omega) (by omega)) dX6_agrees_5 ?_
  refine htopi (v := f i) (by rw [nI_clamp (by omega)]) ?_
  refine htopi (v := nI (fl.getD i 0)) (hf i hi) ?_
  refine lv_aload_n hx hb dX6_agrees_6 rfl (lv_at hl 0 rfl) ?_
  refine va_get (v := .int (nI ob)) (C := RX6) (T := TX6) (N := 7) hx hb hts (hin_X6 hmc) hown E.1.1 hP n h1 rfl 6 (by decide) (hts _ (hmc _ k_179)) (fun _ h9 => h9) rfl dX6_agrees_7 ?_
  refine lv_ishr hx hb dX6_agrees_10 ?_
  refine htopi (v := nI (fl.getD i 0 / 2 ^ ob)) (hshr (by omega) (by omega)) ?_
  refine lv_iload_n hx hb dX6_agrees_11 rfl (lv_at hl 2 rfl) ?_
  refine lv_aload_n hx hb dX6_agrees_12 rfl (lv_at hl 0 rfl) ?_
  refine va_get (v := .int (nI ob)) (C := RX6) (T := TX6) (N := 7) hx hb hts (hin_X6 hmc) hown E.1.1 hP n h1 rfl 6 (by decide) (hts _ (hmc _ k_179)) (fun _ h9 => h9) rfl dX6_agrees_13 ?_
  refine lv_ishr hx hb dX6_agrees_16 ?_
  refine htopi (v := nI (key / 2 ^ ob)) (hshr (by omega) (by omega)) ?_
  refine lv_icmp_ne (tgt := 24) hx hb dX6_agrees_17 (by decide) (fun c1 => ?_) (fun c1 => ?_)
  · refine lv_iconst (v := nI 0) hx hb dX6_agrees_24 (by decide +kernel) ?_
    subst hAe
    exact W.zret (v := nI 0) hx hb hr (by decide +kernel) (fun t ht _ => ⟨⟨nI 0, ws, rfl, ⟨rfl, hBool.no (fun z => c1 (by rw [z]))⟩, by rw [ht]; exact hP, hD⟩, hS.F ht⟩) hS.2.2 dX6_agrees_25
  · refine lv_iconst (v := nI 1) hx hb dX6_agrees_20 (by decide +kernel) ?_
    refine lv_goto (tgt := 25) hx hb dX6_agrees_21 (by decide) ?_
    subst hAe
    exact W.zret (v := nI 1) hx hb hr (by decide +kernel) (fun t ht _ => ⟨⟨nI 1, ws, rfl, ⟨rfl, hBool.yes ((nI_eq (by omega) (by omega)).mp c1)⟩, by rw [ht]; exact hP, hD⟩, hS.F ht⟩) hS.2.2 dX6_agrees_25

set_option maxHeartbeats 4000000 in
set_option maxRecDepth 100000 in
/-- firstFor -/
theorem c_X6_firstFor (l : Launch) (D : va_G) (K : Nat → ClassId) (tv : Nat) (ws : va_W) (ad : Nat → Nat) (n : Nat) (fl : List Nat) (It sh : Nat → Nat) (nk fx ob : Nat) (hst : hStp K ad ws n fl It sh nk fx ob) (hk : hStk fl It sh nk fx ob) (key : Nat) (hkey : key < 262144) : hI l D (hTy K) tv yX6_firstFor cX6_firstFor 2 (some .int) ({ frames := 1, cells := 0, slots := 0, locals := 60 }) [.ref (ad n), .int (nI key)] ws (fun r ws1 => ws = ws1 ∧ r = nI (hlbf (fun i => fl.getD i 0) fl.length key)) := by
  intro sz
  refine Met.ofW (cc := cX6_firstFor) (maxL := 2) (ret := (some .int)) (by decide) rfl ?_
  intro p e s m args below meth c s₁ B hml hv0
  obtain ⟨rfl, rfl, E, hP, hD⟩ := hentry hv0
  have hx := B.exec
  have hb := B.bytes
  have hr := B.returns
  have hts := atoms_spec (ws := hC yX6_firstFor cX6_firstFor 2 (some .int)) B.pre
  have hown : s.vm.findClass RX6 = some m.cls := findClass_of_methodNamed B.named
  have hlocks := B.notSynchronized
  generalize hAe : va_A ws s.heap.size = A at hD E ⊢
  have hl := lv_entry ([.ref (ad n), .int (nI key)]) (n := 2) (Nat.le_of_ble_eq_true rfl)
  rw [lg_entry_eq]
  generalize (lg_sl ([.ref (ad n), .int (nI key)]) ++ List.replicate (2 - (lg_sl ([.ref (ad n), .int (nI key)])).length) Slot.unset).toArray = ls at hl ⊢
  have hl : lv_has ls 2 [(0, .ref (ad n)), (1, .int (nI key))] := hl
  refine hat0 (fun H hHe => ?_)
  have hP : va_P D vwCl ws H := by rw [hHe]; exact hP
  have hS : va_S A s.heap H [] := by rw [hHe]; exact va_S.rf
  obtain ⟨f, fi, fs, h1, h2, h3, h4, hf, hfi, hfs⟩ := id hst
  obtain ⟨hl640, hfl, hup, hI72, hs13, hnk, hfx8, hob⟩ := hk
  refine lv_aload_n hx hb dX6_firstFor_0 rfl (lv_at hl 0 rfl) ?_
  refine va_get (v := .ref (ad (n + 1))) (C := RX6) (T := TX6) (N := 7) hx hb hts (hin_X6 hmc) hown E.1.1 hP n h1 rfl 0 (by decide) (hts _ (hmc _ k_172)) (fun _ h9 => h9) rfl dX6_firstFor_1 ?_
  refine lv_aload_n hx hb dX6_firstFor_4 rfl (lv_at hl 0 rfl) ?_
  refine va_get (v := .int (nI fl.length)) (C := RX6) (T := TX6) (N := 7) hx hb hts (hin_X6 hmc) hown E.1.1 hP n h1 rfl 3 (by decide) (hts _ (hmc _ k_175)) (fun _ h9 => h9) rfl dX6_firstFor_5 ?_
  refine lv_iload_n hx hb dX6_firstFor_8 rfl (lv_at hl 1 rfl) ?_
  refine hc_i E hD hS (va_runSN (As := [.ref (ad (n + 1)), .int (nI fl.length), .int (nI key)]) (rest := []) ⟨hx, hb, hml, hown, hts⟩ ((c_X0_firstFrom l D K tv ws (n + 1) (ad (n + 1)) fl.length key f (fun i => fl.getD i 0) _ h2 (fun i hi => ⟨hf i hi, by have := hfl _ (hgetD_mem hi); omega⟩) hup.sor hl640 (by omega)) H.size) ⟨va_cnB 3 hts (hGc hmc k_261) rfl rfl rfl (E.1.2.1 _ k_517) (hts _ (hmc _ k_20)) (by decide +kernel) ⟨Nat.le_of_ble_eq_true rfl, Nat.le_of_ble_eq_true rfl⟩, (hts _ (hmc _ k_260)), trivial⟩ (hpre E hP hD hS) rfl rfl hl.1 rfl (lv_room (Nat.le_of_ble_eq_true rfl)) dX6_firstFor_9 ⟨(Nat.le_refl _), (Nat.le_refl _)⟩) (fun r2 ws1 H locs hp hP hD hS => ?_)
  obtain ⟨rfl, rfl⟩ := hp
  subst hAe
  exact W.iret (v := (nI (hlbf (fun i => fl.getD i 0) fl.length key))) hx hb hr (fun t ht _ => ⟨⟨(nI (hlbf (fun i => fl.getD i 0) fl.length key)), ws, rfl, ⟨rfl, rfl⟩, by rw [ht]; exact hP, hD⟩, hS.F ht⟩) hS.2.2 dX6_firstFor_12

set_option maxHeartbeats 4000000 in
set_option maxRecDepth 100000 in
/-- keyFor -/
theorem c_X6_keyFor (l : Launch) (D : va_G) (K : Nat → ClassId) (tv : Nat) (ws : va_W) (ad : Nat → Nat) (n : Nat) (fl : List Nat) (It sh : Nat → Nat) (nk fx ob : Nat) (hst : hStp K ad ws n fl It sh nk fx ob) (hk : hStk fl It sh nk fx ob) (row : Nat) (hrow : row < 2 ^ 48) : hI l D (hTy K) tv yX6_keyFor cX6_keyFor 5 (some .int) ({ frames := 2, cells := 0, slots := 0, locals := 120 }) [.ref (ad n), .long (lN row)] ws (fun r ws1 => ws = ws1 ∧ r = nI (hKf It sh nk fx row 3)) := by
  intro sz
  refine Met.ofW (cc := cX6_keyFor) (maxL := 5) (ret := (some .int)) (by decide) rfl ?_
  intro p e s m args below meth c s₁ B hml hv0
  obtain ⟨rfl, rfl, E, hP, hD⟩ := hentry hv0
  have hx := B.exec
  have hb := B.bytes
  have hr := B.returns
  have hts := atoms_spec (ws := hC yX6_keyFor cX6_keyFor 5 (some .int)) B.pre
  have hown : s.vm.findClass RX6 = some m.cls := findClass_of_methodNamed B.named
  have hlocks := B.notSynchronized
  generalize hAe : va_A ws s.heap.size = A at hD E ⊢
  have hl := lv_entry ([.ref (ad n), .long (lN row)]) (n := 5) (Nat.le_of_ble_eq_true rfl)
  rw [lg_entry_eq]
  generalize (lg_sl ([.ref (ad n), .long (lN row)]) ++ List.replicate (5 - (lg_sl ([.ref (ad n), .long (lN row)])).length) Slot.unset).toArray = ls at hl ⊢
  have hl : lv_has ls 5 [(0, .ref (ad n)), (1, .long (lN row))] := hl
  refine hat0 (fun H hHe => ?_)
  have hP : va_P D vwCl ws H := by rw [hHe]; exact hP
  have hS : va_S A s.heap H [] := by rw [hHe]; exact va_S.rf
  obtain ⟨f, fi, fs, h1, h2, h3, h4, hf, hfi, hfs⟩ := id hst
  obtain ⟨hl640, hfl, hup, hI72, hs13, hnk, hfx8, hob⟩ := hk
  refine lv_aload_n hx hb dX6_keyFor_0 rfl (lv_at hl 0 rfl) ?_
  refine va_get (v := .int (nI nk)) (C := RX6) (T := TX6) (N := 7) hx hb hts (hin_X6 hmc) hown E.1.1 hP n h1 rfl 4 (by decide) (hts _ (hmc _ k_177)) (fun _ h9 => h9) rfl dX6_keyFor_1 ?_
  refine lv_istore_n (lv' := [(3, .int (nI nk)), (0, .ref (ad n)), (1, .long (lN row))]) hx hb dX6_keyFor_4 rfl hl (by decide) rfl (fun ls hl => ?_)
  refine lv_iconst (v := nI 0) hx hb dX6_keyFor_5 (by decide +kernel) ?_
  refine lv_istore (lv' := [(4, .int (nI 0)), (3, .int (nI nk)), (0, .ref (ad n)), (1, .long (lN row))]) hx hb dX6_keyFor_6 hl (by decide) rfl (fun ls hl => ?_)
  refine hloop0 (α := Nat) 8 5 (fun j => [(4, .int (nI j)), (3, .int (nI (hKf It sh nk fx row j))), (0, .ref (ad n)), (1, .long (lN row))]) (fun j => j ≤ 3) (fun j => 3 - j) ?_ 0 ls (by decide) (lv_sub hl [0, 1, 2, 3] rfl)
  intro j ls hj hl ih
  have hl : lv_has ls 5 [(4, .int (nI j)), (3, .int (nI (hKf It sh nk fx row j))), (0, .ref (ad n)), (1, .long (lN row))] := hl
  refine lv_iload hx hb dX6_keyFor_8 (lv_at hl 0 rfl) ?_
  refine lv_iconst (v := nI 3) hx hb dX6_keyFor_10 (by decide +kernel) ?_
  refine lv_icmp_ge (tgt := 64) hx hb dX6_keyFor_11 (by decide) (fun c1 => ?_) (fun c1 => ?_)
  · have hj3 : j = 3 := by
      rcases Nat.lt_or_ge j 3 with z | z
      · exact absurd c1 (nI_ge z (by decide))
      · omega
    subst hj3
    refine lv_iload_n hx hb dX6_keyFor_64 rfl (lv_at hl 1 rfl) ?_
    subst hAe
    exact W.iret (v := nI (hKf It sh nk fx row 3)) hx hb hr (fun t ht _ => ⟨⟨nI (hKf It sh nk fx row 3), ws, rfl, ⟨rfl, rfl⟩, by rw [ht]; exact hP, hD⟩, hS.F ht⟩) hS.2.2 dX6_keyFor_65
  · have hj3 : j < 3 := Nat.not_le.mp (fun z => c1 (nI_le z (by omega)))
    have e1 := hfi j hj3
    have e2 := hI72 j hj3
    have e3 := hfs j hj3
    have e4 := hs13 j hj3
    refine lv_aload_n hx hb dX6_keyFor_14 rfl (lv_at hl 2 rfl) ?_
    refine va_get (v := .ref (ad (n + 2))) (C := RX6) (T := TX6) (N := 7) hx hb hts (hin_X6 hmc) hown E.1.1 hP n h1 rfl 1 (by decide) (hts _ (hmc _ k_173)) (fun _ h9 => h9) rfl dX6_keyFor_15 ?_
    refine lv_iload hx hb dX6_keyFor_18 (lv_at hl 0 rfl) ?_
    refine va_iald hx hb E.1.1 hP (n + 2) 0 h3 rfl (vp_in_nI (by omega) (by omega)) dX6_keyFor_20 ?_
    refine htopi (v := fi j) (by rw [nI_clamp (by omega)]) ?_
    refine htopi (v := hit (It j)) (e1) ?_
    refine lv_if_ge (tgt := 58) hx hb dX6_keyFor_21 (by decide) (fun c2 => ?_) (fun c2 => ?_)
    · have hs : hKf It sh nk fx row (j + 1) = hKf It sh nk fx row j := if_neg (fun z => absurd ((hit_ge e2).mp c2) (Nat.not_lt.mpr z.1))
      refine lv_iinc (v := nI (j + 1)) (lv' := [(4, .int (nI (j + 1))), (3, .int (nI (hKf It sh nk fx row j))), (0, .ref (ad n)), (1, .long (lN row))]) hx hb dX6_keyFor_58 hl (k := 0) rfl (nI_1 _) (by decide) rfl (fun ls hl => ?_)
      refine lv_goto (tgt := 8) hx hb dX6_keyFor_61 (by decide) ?_
      exact ih (j + 1) ls (by omega) (by omega) (by rw [hs]; exact lv_sub hl [0, 1, 2, 3] rfl)
    · have hv : 64 ≤ It j := (hit_lt e2).mp (Int32.not_le.mp c2)
      refine lv_aload_n hx hb dX6_keyFor_24 rfl (lv_at hl 2 rfl) ?_
      refine va_get (v := .int (nI fx)) (C := RX6) (T := TX6) (N := 7) hx hb hts (hin_X6 hmc) hown E.1.1 hP n h1 rfl 5 (by decide) (hts _ (hmc _ k_178)) (fun _ h9 => h9) rfl dX6_keyFor_25 ?_
      refine lv_iconst (v := nI 1) hx hb dX6_keyFor_28 (by decide +kernel) ?_
      refine lv_iload hx hb dX6_keyFor_29 (lv_at hl 0 rfl) ?_
      refine lv_ishl hx hb dX6_keyFor_31 ?_
      refine htopi (v := nI (1 * 2 ^ j)) (hshl (by omega) (hp6 (by omega))) ?_
      refine lv_iand hx hb dX6_keyFor_32 ?_
      refine lv_if_eq (tgt := 58) hx hb dX6_keyFor_33 (by decide) (fun c3 => ?_) (fun c3 => ?_)
      · have hs : hKf It sh nk fx row (j + 1) = hKf It sh nk fx row j := if_neg (fun z => (hbit_eq fx (by omega) j (by omega)).mp c3 z.2)
        refine lv_iinc (v := nI (j + 1)) (lv' := [(4, .int (nI (j + 1))), (3, .int (nI (hKf It sh nk fx row j))), (0, .ref (ad n)), (1, .long (lN row))]) hx hb dX6_keyFor_58 hl (k := 0) rfl (nI_1 _) (by decide) rfl (fun ls hl => ?_)
        refine lv_goto (tgt := 8) hx hb dX6_keyFor_61 (by decide) ?_
        exact ih (j + 1) ls (by omega) (by omega) (by rw [hs]; exact lv_sub hl [0, 1, 2, 3] rfl)
      · have hb1 : fx.testBit j = true := Classical.not_not.mp (fun z => c3 ((hbit_eq fx (by omega) j (by omega)).mpr z))
        have hs : hKf It sh nk fx row (j + 1) = hKf It sh nk fx row j ||| (row / 2 ^ (6 * (7 - (It j - 64))) % 64) * 2 ^ sh j := if_pos ⟨hv, hb1⟩
        refine lv_iload_n hx hb dX6_keyFor_36 rfl (lv_at hl 1 rfl) ?_
        refine lv_lload_n hx hb dX6_keyFor_37 rfl (lv_at hl 3 rfl) ?_
        refine lv_aload_n hx hb dX6_keyFor_38 rfl (lv_at hl 2 rfl) ?_
        refine va_get (v := .ref (ad (n + 2))) (C := RX6) (T := TX6) (N := 7) hx hb hts (hin_X6 hmc) hown E.1.1 hP n h1 rfl 1 (by decide) (hts _ (hmc _ k_173)) (fun _ h9 => h9) rfl dX6_keyFor_39 ?_
        refine lv_iload hx hb dX6_keyFor_42 (lv_at hl 0 rfl) ?_
        refine va_iald hx hb E.1.1 hP (n + 2) 0 h3 rfl (vp_in_nI (by omega) (by omega)) dX6_keyFor_44 ?_
        refine htopi (v := fi j) (by rw [nI_clamp (by omega)]) ?_
        refine htopi (v := hvI (It j - 64)) (e1.trans (hit_vv hv)) ?_
        refine hc_si (va_runSN (As := [.long (lN row), .int (hvI (It j - 64))]) (rest := [.int (nI (hKf It sh nk fx row j))]) ⟨hx, hb, hml, hown, hts⟩ (c_X0_numberIn l row (It j - 64) (by omega) hrow) ⟨va_cnB 2 hts (hGc hmc k_509) rfl rfl rfl (E.1.2.1 _ k_507) (hts _ (hmc _ k_20)) (by decide +kernel) ⟨Nat.le_of_ble_eq_true rfl, Nat.le_of_ble_eq_true rfl⟩, (hts _ (hmc _ k_508)), trivial⟩ hpre0 rfl rfl hl.1 rfl (lv_room (Nat.le_of_ble_eq_true rfl)) dX6_keyFor_45 ⟨(Nat.le_refl _), (Nat.le_refl _)⟩) (fun r1 hp => ?_)
        subst hp
        refine lv_aload_n hx hb dX6_keyFor_48 rfl (lv_at hl 2 rfl) ?_
        refine va_get (v := .ref (ad (n + 3))) (C := RX6) (T := TX6) (N := 7) hx hb hts (hin_X6 hmc) hown E.1.1 hP n h1 rfl 2 (by decide) (hts _ (hmc _ k_174)) (fun _ h9 => h9) rfl dX6_keyFor_49 ?_
        refine lv_iload hx hb dX6_keyFor_52 (lv_at hl 0 rfl) ?_
        refine va_iald hx hb E.1.1 hP (n + 3) 0 h4 rfl (vp_in_nI (by omega) (by omega)) dX6_keyFor_54 ?_
        refine htopi (v := fs j) (by rw [nI_clamp (by omega)]) ?_
        refine htopi (v := nI (sh j)) (e3) ?_
        refine lv_ishl hx hb dX6_keyFor_55 ?_
        refine htopi (v := nI ((row / 2 ^ (6 * (7 - (It j - 64))) % 64) * 2 ^ sh j)) (hshl (by omega) (hmod_mul (by omega))) ?_
        refine lv_ior hx hb dX6_keyFor_56 ?_
        refine htopi (v := nI (hKf It sh nk fx row (j + 1))) (by rw [hs]; exact hior _ _) ?_
        refine lv_istore_n (lv' := [(3, .int (nI (hKf It sh nk fx row (j + 1)))), (4, .int (nI j)), (0, .ref (ad n)), (1, .long (lN row))]) hx hb dX6_keyFor_57 rfl hl (by decide) rfl (fun ls hl => ?_)
        refine lv_iinc (v := nI (j + 1)) (lv' := [(4, .int (nI (j + 1))), (3, .int (nI (hKf It sh nk fx row (j + 1)))), (0, .ref (ad n)), (1, .long (lN row))]) hx hb dX6_keyFor_58 hl (k := 1) rfl (nI_1 _) (by decide) rfl (fun ls hl => ?_)
        refine lv_goto (tgt := 8) hx hb dX6_keyFor_61 (by decide) ?_
        exact ih (j + 1) ls (by omega) (by omega) (lv_sub hl [0, 1, 2, 3] rfl)

set_option maxHeartbeats 4000000 in
set_option maxRecDepth 100000 in
/-- extended -/
theorem c_X6_extended (l : Launch) (D : va_G) (K : Nat → ClassId) (tv : Nat) (ws : va_W) (ad : Nat → Nat) (n : Nat) (fl : List Nat) (It sh : Nat → Nat) (nk fx ob : Nat) (hst : hStp K ad ws n fl It sh nk fx ob) (hk : hStk fl It sh nk fx ob) (row i : Nat) (hi : i < fl.length) : hL l D (hTy K) tv yX6_extended cX6_extended 7 (some .long) ({ frames := 1, cells := 0, slots := 0, locals := 60 }) [.ref (ad n), .long (lN row), .int (nI i)] ws (fun r ws1 => ws = ws1 ∧ r = lN (hXt It sh (fl.getD i 0) row 3)) := by
  intro sz
  refine Met.ofW (cc := cX6_extended) (maxL := 7) (ret := (some .long)) (by decide) rfl ?_
  intro p e s m args below meth c s₁ B hml hv0
  obtain ⟨rfl, rfl, E, hP, hD⟩ := hentry hv0
  have hx := B.exec
  have hb := B.bytes
  have hr := B.returns
  have hts := atoms_spec (ws := hC yX6_extended cX6_extended 7 (some .long)) B.pre
  have hown : s.vm.findClass RX6 = some m.cls := findClass_of_methodNamed B.named
  have hlocks := B.notSynchronized
  generalize hAe : va_A ws s.heap.size = A at hD E ⊢
  have hl := lv_entry ([.ref (ad n), .long (lN row), .int (nI i)]) (n := 7) (Nat.le_of_ble_eq_true rfl)
  rw [lg_entry_eq]
  generalize (lg_sl ([.ref (ad n), .long (lN row), .int (nI i)]) ++ List.replicate (7 - (lg_sl ([.ref (ad n), .long (lN row), .int (nI i)])).length) Slot.unset).toArray = ls at hl ⊢
  have hl : lv_has ls 7 [(0, .ref (ad n)), (1, .long (lN row)), (3, .int (nI i))] := hl
  refine hat0 (fun H hHe => ?_)
  have hP : va_P D vwCl ws H := by rw [hHe]; exact hP
  have hS : va_S A s.heap H [] := by rw [hHe]; exact va_S.rf
  obtain ⟨f, fi, fs, h1, h2, h3, h4, hf, hfi, hfs⟩ := id hst
  obtain ⟨hl640, hfl, hup, hI72, hs13, hnk, hfx8, hob⟩ := hk
  have hx18 := hfl _ (hgetD_mem hi)
  refine lv_lload_n hx hb dX6_extended_0 rfl (lv_at hl 1 rfl) ?_
  refine lv_lstore (lv' := [(4, .long (lN row)), (0, .ref (ad n)), (1, .long (lN row)), (3, .int (nI i))]) hx hb dX6_extended_1 hl (by decide) rfl (fun ls hl => ?_)
  refine lv_iconst (v := nI 0) hx hb dX6_extended_3 (by decide +kernel) ?_
  refine lv_istore (lv' := [(6, .int (nI 0)), (4, .long (lN row)), (0, .ref (ad n)), (1, .long (lN row)), (3, .int (nI i))]) hx hb dX6_extended_4 hl (by decide) rfl (fun ls hl => ?_)
  refine hloop0 (α := Nat) 6 7 (fun j => [(6, .int (nI j)), (4, .long (lN (hXt It sh (fl.getD i 0) row j))), (0, .ref (ad n)), (1, .long (lN row)), (3, .int (nI i))]) (fun j => j ≤ 3) (fun j => 3 - j) ?_ 0 ls (by decide) (lv_sub hl [0, 1, 2, 3, 4] rfl)
  intro j ls hj hl ih
  have hl : lv_has ls 7 [(6, .int (nI j)), (4, .long (lN (hXt It sh (fl.getD i 0) row j))), (0, .ref (ad n)), (1, .long (lN row)), (3, .int (nI i))] := hl
  refine lv_iload hx hb dX6_extended_6 (lv_at hl 0 rfl) ?_
  refine lv_iconst (v := nI 3) hx hb dX6_extended_8 (by decide +kernel) ?_
  refine lv_icmp_ge (tgt := 61) hx hb dX6_extended_9 (by decide) (fun c1 => ?_) (fun c1 => ?_)
  · have hj3 : j = 3 := by
      rcases Nat.lt_or_ge j 3 with z | z
      · exact absurd c1 (nI_ge z (by decide))
      · omega
    subst hj3
    refine lv_lload hx hb dX6_extended_61 (lv_at hl 1 rfl) ?_
    subst hAe
    exact W.lret (v := lN (hXt It sh (fl.getD i 0) row 3)) hx hb hr (fun t ht _ => ⟨⟨lN (hXt It sh (fl.getD i 0) row 3), ws, rfl, ⟨rfl, rfl⟩, by rw [ht]; exact hP, hD⟩, hS.F ht⟩) hS.2.2 dX6_extended_63
  · have hj3 : j < 3 := Nat.not_le.mp (fun z => c1 (nI_le z (by omega)))
    have e1 := hfi j hj3
    have e2 := hI72 j hj3
    have e3 := hfs j hj3
    have e4 := hs13 j hj3
    refine lv_aload_n hx hb dX6_extended_12 rfl (lv_at hl 2 rfl) ?_
    refine va_get (v := .ref (ad (n + 2))) (C := RX6) (T := TX6) (N := 7) hx hb hts (hin_X6 hmc) hown E.1.1 hP n h1 rfl 1 (by decide) (hts _ (hmc _ k_173)) (fun _ h9 => h9) rfl dX6_extended_13 ?_
    refine lv_iload hx hb dX6_extended_16 (lv_at hl 0 rfl) ?_
    refine va_iald hx hb E.1.1 hP (n + 2) 0 h3 rfl (vp_in_nI (by omega) (by omega)) dX6_extended_18 ?_
    refine htopi (v := fi j) (by rw [nI_clamp (by omega)]) ?_
    refine htopi (v := hit (It j)) (e1) ?_
    refine lv_if_ge (tgt := 55) hx hb dX6_extended_19 (by decide) (fun c2 => ?_) (fun c2 => ?_)
    · have hs : hXt It sh (fl.getD i 0) row (j + 1) = hXt It sh (fl.getD i 0) row j := if_neg (fun z => absurd ((hit_ge e2).mp c2) (Nat.not_lt.mpr z))
      refine lv_iinc (v := nI (j + 1)) (lv' := [(6, .int (nI (j + 1))), (4, .long (lN (hXt It sh (fl.getD i 0) row j))), (0, .ref (ad n)), (1, .long (lN row)), (3, .int (nI i))]) hx hb dX6_extended_55 hl (k := 0) rfl (nI_1 _) (by decide) rfl (fun ls hl => ?_)
      refine lv_goto (tgt := 6) hx hb dX6_extended_58 (by decide) ?_
      exact ih (j + 1) ls (by omega) (by omega) (by rw [hs]; exact lv_sub hl [0, 1, 2, 3, 4] rfl)
    · have hv : 64 ≤ It j := (hit_lt e2).mp (Int32.not_le.mp c2)
      have hs : hXt It sh (fl.getD i 0) row (j + 1) = hXt It sh (fl.getD i 0) row j ||| (fl.getD i 0 / 2 ^ sh j % 64) * 2 ^ (6 * (7 - (It j - 64))) := if_pos hv
      refine lv_lload hx hb dX6_extended_22 (lv_at hl 1 rfl) ?_
      refine lv_aload_n hx hb dX6_extended_24 rfl (lv_at hl 2 rfl) ?_
      refine va_get (v := .ref (ad (n + 1))) (C := RX6) (T := TX6) (N := 7) hx hb hts (hin_X6 hmc) hown E.1.1 hP n h1 rfl 0 (by decide) (hts _ (hmc _ k_172)) (fun _ h9 => h9) rfl dX6_extended_25 ?_
      refine lv_iload_n hx hb dX6_extended_28 rfl (lv_at hl 4 rfl) ?_
      refine va_iald hx hb E.1.1 hP (n + 1) 0 h2 rfl (vp_in_nI (by omega) (by omega)) dX6_extended_29 ?_
      refine htopi (v := f i) (by rw [nI_clamp (by omega)]) ?_
      refine htopi (v := nI (fl.getD i 0)) (hf i hi) ?_
      refine lv_aload_n hx hb dX6_extended_30 rfl (lv_at hl 2 rfl) ?_
      refine va_get (v := .ref (ad (n + 3))) (C := RX6) (T := TX6) (N := 7) hx hb hts (hin_X6 hmc) hown E.1.1 hP n h1 rfl 2 (by decide) (hts _ (hmc _ k_174)) (fun _ h9 => h9) rfl dX6_extended_31 ?_
      refine lv_iload hx hb dX6_extended_34 (lv_at hl 0 rfl) ?_
      refine va_iald hx hb E.1.1 hP (n + 3) 0 h4 rfl (vp_in_nI (by omega) (by omega)) dX6_extended_36 ?_
      refine htopi (v := fs j) (by rw [nI_clamp (by omega)]) ?_
      refine htopi (v := nI (sh j)) (e3) ?_
      refine hc_si (va_runSN (As := [.int (nI (fl.getD i 0)), .int (nI (sh j))]) (rest := [.long (lN (hXt It sh (fl.getD i 0) row j))]) ⟨hx, hb, hml, hown, hts⟩ (c_X0_numberAt l (fl.getD i 0) (sh j) (by omega) (by omega)) ⟨va_cnB 2 hts (hGc hmc k_363) rfl rfl rfl (E.1.2.1 _ k_475) (hts _ (hmc _ k_20)) (by decide +kernel) ⟨Nat.le_of_ble_eq_true rfl, Nat.le_of_ble_eq_true rfl⟩, (hts _ (hmc _ k_362)), trivial⟩ hpre0 rfl rfl hl.1 rfl (lv_room (Nat.le_of_ble_eq_true rfl)) dX6_extended_37 ⟨(Nat.le_refl _), (Nat.le_refl _)⟩) (fun r1 hp => ?_)
      subst hp
      refine lv_i2l (v := lN (fl.getD i 0 / 2 ^ sh j % 64)) hx hb dX6_extended_40 (nI_l (by omega)) ?_
      refine lv_aload_n hx hb dX6_extended_41 rfl (lv_at hl 2 rfl) ?_
      refine va_get (v := .ref (ad (n + 2))) (C := RX6) (T := TX6) (N := 7) hx hb hts (hin_X6 hmc) hown E.1.1 hP n h1 rfl 1 (by decide) (hts _ (hmc _ k_173)) (fun _ h9 => h9) rfl dX6_extended_42 ?_
      refine lv_iload hx hb dX6_extended_45 (lv_at hl 0 rfl) ?_
      refine va_iald hx hb E.1.1 hP (n + 2) 0 h3 rfl (vp_in_nI (by omega) (by omega)) dX6_extended_47 ?_
      refine htopi (v := fi j) (by rw [nI_clamp (by omega)]) ?_
      refine htopi (v := hvI (It j - 64)) (e1.trans (hit_vv hv)) ?_
      refine hc_si (va_runSN (As := [.int (hvI (It j - 64))]) (rest := [.long (lN (fl.getD i 0 / 2 ^ sh j % 64)), .long (lN (hXt It sh (fl.getD i 0) row j))]) ⟨hx, hb, hml, hown, hts⟩ (c_X0_rowShift l (It j - 64) (by omega)) ⟨va_cnB 1 hts (hGc hmc k_512) rfl rfl rfl (E.1.2.1 _ k_526) (hts _ (hmc _ k_20)) (by decide +kernel) ⟨Nat.le_of_ble_eq_true rfl, Nat.le_of_ble_eq_true rfl⟩, (hts _ (hmc _ k_511)), trivial⟩ hpre0 rfl rfl hl.1 rfl (lv_room (Nat.le_of_ble_eq_true rfl)) dX6_extended_48 ⟨(Nat.le_refl _), (Nat.le_refl _)⟩) (fun r2 hp => ?_)
      subst hp
      refine lv_lshl (v := lN ((fl.getD i 0 / 2 ^ sh j % 64) * 2 ^ (6 * (7 - (It j - 64))))) hx hb dX6_extended_51 (hlshl (by omega)) ?_
      refine lv_lor hx hb dX6_extended_52 ?_
      refine htopl (v := lN (hXt It sh (fl.getD i 0) row (j + 1))) (by rw [hs]; exact hlor _ _) ?_
      refine lv_lstore (lv' := [(4, .long (lN (hXt It sh (fl.getD i 0) row (j + 1)))), (6, .int (nI j)), (0, .ref (ad n)), (1, .long (lN row)), (3, .int (nI i))]) hx hb dX6_extended_53 hl (by decide) rfl (fun ls hl => ?_)
      refine lv_iinc (v := nI (j + 1)) (lv' := [(6, .int (nI (j + 1))), (4, .long (lN (hXt It sh (fl.getD i 0) row (j + 1)))), (0, .ref (ad n)), (1, .long (lN row)), (3, .int (nI i))]) hx hb dX6_extended_55 hl (k := 1) rfl (nI_1 _) (by decide) rfl (fun ls hl => ?_)
      refine lv_goto (tgt := 6) hx hb dX6_extended_58 (by decide) ?_
      exact ih (j + 1) ls (by omega) (by omega) (lv_sub hl [0, 1, 2, 3, 4] rfl)

set_option maxHeartbeats 4000000 in
set_option maxRecDepth 100000 in
/-- prepare -/
theorem c_X6_prepare (l : Launch) (D : va_G) (K : Nat → ClassId) (tv : Nat) (ws : va_W) (ad : Nat → Nat) (n : Nat) (fl0 : List Nat) (It0 sh0 : Nat → Nat) (nk0 fx0 ob0 : Nat) (hst : hStp K ad ws n fl0 It0 sh0 nk0 fx0 ob0) (hn : 38 ≤ n) (k : Nat) (I dd : Nat → Nat) (mm : Nat) (hp0 : hPt K ad ws k I dd mm) (hk : k + 2 < n) (hk6 : 6 ≤ k) (kn : Int32) (F : Nat → Nat → Int32) (g : Nat → Nat → Nat) (cnt : Nat) (X : Nat → Nat → Prop) (ht : hTr K ad ws F cnt) (hw : hVw F g cnt X) : hV l D (hTy K) tv yX6_prepare cX6_prepare 7 none ({ frames := 3, cells := 0, slots := 0, locals := 180 }) [.ref (ad n), .ref (ad k), .int kn, .ref (ad 1)] ws (fun ws1 => hAg n (n + 4) ws ws1 ∧ hStp K ad ws1 n (hFl (hview (hfx I kn 3)) I (g (hview (hfx I kn 3))) cnt) I (hsh (hview (hfx I kn 3))) (hnk (hview (hfx I kn 3)) I 3) (hfx I kn 3) (hopen (hfx I kn 3))) := by
  intro sz
  refine Met.ofW (cc := cX6_prepare) (maxL := 7) (ret := none) (by decide) rfl ?_
  intro p e s m args below meth c s₁ B hml hv0
  obtain ⟨rfl, rfl, E, hP, hD⟩ := hentry hv0
  have hx := B.exec
  have hb := B.bytes
  have hr := B.returns
  have hts := atoms_spec (ws := hC yX6_prepare cX6_prepare 7 none) B.pre
  have hown : s.vm.findClass RX6 = some m.cls := findClass_of_methodNamed B.named
  have hlocks := B.notSynchronized
  generalize hAe : va_A ws s.heap.size = A at hD E ⊢
  have hl := lv_entry ([.ref (ad n), .ref (ad k), .int kn, .ref (ad 1)]) (n := 7) (Nat.le_of_ble_eq_true rfl)
  rw [lg_entry_eq]
  generalize (lg_sl ([.ref (ad n), .ref (ad k), .int kn, .ref (ad 1)]) ++ List.replicate (7 - (lg_sl ([.ref (ad n), .ref (ad k), .int kn, .ref (ad 1)])).length) Slot.unset).toArray = ls at hl ⊢
  have hl : lv_has ls 7 [(0, .ref (ad n)), (1, .ref (ad k)), (2, .int kn), (3, .ref (ad 1))] := hl
  refine hat0 (fun H hHe => ?_)
  have hP : va_P D vwCl ws H := by rw [hHe]; exact hP
  have hS : va_S A s.heap H [] := by rw [hHe]; exact va_S.rf
  obtain ⟨f, fi, fs, h1, h2, h3, h4, -, -, -⟩ := id hst
  obtain ⟨pi, pd, hq1, hq2, -, hpi, -⟩ := id hp0
  obtain ⟨ht1, ⟨fq, ht2, hfq⟩, ht3⟩ := id ht
  have h8 : (hfx I kn 3) < 8 := hfx_lt I kn 3 (Nat.le_refl _)
  have hv := hview_lt _ h8
  have ho := hopen_le (hfx I kn 3)
  have hnkl := hnk_lt hv I 3 (Nat.le_refl _)
  have h640 := hw.1
  obtain ⟨hgf, hgs⟩ := hw.2 (hview (hfx I kn 3)) hv
  have hv3 := ht3 (hview (hfx I kn 3)) hv
  have hq1o := hq1
  have hq2o := hq2
  have ht1o := ht1
  have ht2o := ht2
  have hv3o := hv3
  refine lv_aload_n hx hb dX6_prepare_0 rfl (lv_at hl 0 rfl) ?_
  refine lv_aload_n hx hb dX6_prepare_1 rfl (lv_at hl 1 rfl) ?_
  refine lv_iload_n hx hb dX6_prepare_2 rfl (lv_at hl 2 rfl) ?_
  refine hc_i E hD hS (va_runV (As := [.int kn]) (rest := [.ref (ad n)]) ⟨hx, hb, hml, hown, hts⟩ ((c_X2_fixedPlaces l D K tv ws ad k I dd mm hp0 kn) H.size) (cwV 1 hts (hGV hmc k_470 k_329 k_330 k_23 k_331) rfl rfl rfl (by decide +kernel) ⟨Nat.le_of_ble_eq_true rfl, Nat.le_of_ble_eq_true rfl⟩) (hpreV E hP hD hS hq1 rfl) rfl rfl hl.1 rfl (lv_room (Nat.le_of_ble_eq_true rfl)) dX6_prepare_3 ⟨(Nat.le_refl _), (Nat.le_refl _)⟩) (fun r2 ws1 H locs hp hP hD hS => ?_)
  obtain ⟨rfl, rfl⟩ := hp
  refine va_put (v := .int (nI (hfx I kn 3))) (ty := .int) (C := RX6) (T := TX6) (N := 7) hx hb hts (hin_X6 hmc) tyX6 tyX6_ok nmX6 hown E.1.1 hP hD hS n h1 rfl 5 (by decide) (hts _ (hmc _ k_178)) (fun _ h9 => h9) rfl (by decide +kernel) rfl rfl (Nat.le_of_ble_eq_true rfl) dX6_prepare_6 (fun H locs hP hD hS => ?_)
  obtain ⟨ws3, ews3⟩ : ∃ zw : va_W, zw = List.set ws n ((ad n), .inr (iS, [.ref (ad (n + 1)), .ref (ad (n + 2)), .ref (ad (n + 3)), .int (nI fl0.length), .int (nI nk0), .int (nI (hfx I kn 3)), .int (nI ob0)])) := ⟨_, rfl⟩
  have hP : va_P D vwCl ws3 H := by rw [ews3]; exact hP
  have hD : va_D A ws3 := by rw [ews3]; exact hD
  have h1 : ws3[n]? = some ((ad n), .inr (iS, [.ref (ad (n + 1)), .ref (ad (n + 2)), .ref (ad (n + 3)), .int (nI fl0.length), .int (nI nk0), .int (nI (hfx I kn 3)), .int (nI ob0)])) := by rw [ews3]; exact hset_eq h1
  have h2 := (show ws3[(n + 1)]? = _ from (by rw [ews3]; exact hset_ne (by omega))).trans h2
  have h3 := (show ws3[(n + 2)]? = _ from (by rw [ews3]; exact hset_ne (by omega))).trans h3
  have h4 := (show ws3[(n + 3)]? = _ from (by rw [ews3]; exact hset_ne (by omega))).trans h4
  have hq1 := (show ws3[k]? = _ from (by rw [ews3]; exact hset_ne (by omega))).trans hq1
  have hq2 := (show ws3[(k + 1)]? = _ from (by rw [ews3]; exact hset_ne (by omega))).trans hq2
  have ht1 := (show ws3[1]? = _ from (by rw [ews3]; exact hset_ne (by omega))).trans ht1
  have ht2 := (show ws3[2]? = _ from (by rw [ews3]; exact hset_ne (by omega))).trans ht2
  have hv3 := (show ws3[(3 + (hview (hfx I kn 3)))]? = _ from (by rw [ews3]; exact hset_ne (by omega))).trans hv3
  refine lv_aload_n hx hb dX6_prepare_9 rfl (lv_at hl 0 rfl) ?_
  refine lv_aload_n hx hb dX6_prepare_10 rfl (lv_at hl 0 rfl) ?_
  refine va_get (v := .int (nI (hfx I kn 3))) (C := RX6) (T := TX6) (N := 7) hx hb hts (hin_X6 hmc) hown E.1.1 hP n h1 rfl 5 (by decide) (hts _ (hmc _ k_178)) (fun _ h9 => h9) rfl dX6_prepare_11 ?_
  refine hc_si (va_runSN (As := [.int (nI (hfx I kn 3))]) (rest := [.ref (ad n)]) ⟨hx, hb, hml, hown, hts⟩ (c_X0_openBits l (hfx I kn 3) h8) ⟨va_cnB 1 hts (hGc hmc k_349) rfl rfl rfl (E.1.2.1 _ k_471) (hts _ (hmc _ k_20)) (by decide +kernel) ⟨Nat.le_of_ble_eq_true rfl, Nat.le_of_ble_eq_true rfl⟩, (hts _ (hmc _ k_348)), trivial⟩ hpre0 rfl rfl hl.1 rfl (lv_room (Nat.le_of_ble_eq_true rfl)) dX6_prepare_14 ⟨(Nat.le_refl _), (Nat.le_refl _)⟩) (fun r4 hp => ?_)
  subst hp
  refine va_put (v := .int (nI (hopen (hfx I kn 3)))) (ty := .int) (C := RX6) (T := TX6) (N := 7) hx hb hts (hin_X6 hmc) tyX6 tyX6_ok nmX6 hown E.1.1 hP hD hS n h1 rfl 6 (by decide) (hts _ (hmc _ k_179)) (fun _ h9 => h9) rfl (by decide +kernel) rfl rfl (Nat.le_of_ble_eq_true rfl) dX6_prepare_17 (fun H locs hP hD hS => ?_)
  obtain ⟨ws5, ews5⟩ : ∃ zw : va_W, zw = List.set ws3 n ((ad n), .inr (iS, [.ref (ad (n + 1)), .ref (ad (n + 2)), .ref (ad (n + 3)), .int (nI fl0.length), .int (nI nk0), .int (nI (hfx I kn 3)), .int (nI (hopen (hfx I kn 3)))])) := ⟨_, rfl⟩
  have hP : va_P D vwCl ws5 H := by rw [ews5]; exact hP
  have hD : va_D A ws5 := by rw [ews5]; exact hD
  have h1 : ws5[n]? = some ((ad n), .inr (iS, [.ref (ad (n + 1)), .ref (ad (n + 2)), .ref (ad (n + 3)), .int (nI fl0.length), .int (nI nk0), .int (nI (hfx I kn 3)), .int (nI (hopen (hfx I kn 3)))])) := by rw [ews5]; exact hset_eq h1
  have h2 := (show ws5[(n + 1)]? = _ from (by rw [ews5]; exact hset_ne (by omega))).trans h2
  have h3 := (show ws5[(n + 2)]? = _ from (by rw [ews5]; exact hset_ne (by omega))).trans h3
  have h4 := (show ws5[(n + 3)]? = _ from (by rw [ews5]; exact hset_ne (by omega))).trans h4
  have hq1 := (show ws5[k]? = _ from (by rw [ews5]; exact hset_ne (by omega))).trans hq1
  have hq2 := (show ws5[(k + 1)]? = _ from (by rw [ews5]; exact hset_ne (by omega))).trans hq2
  have ht1 := (show ws5[1]? = _ from (by rw [ews5]; exact hset_ne (by omega))).trans ht1
  have ht2 := (show ws5[2]? = _ from (by rw [ews5]; exact hset_ne (by omega))).trans ht2
  have hv3 := (show ws5[(3 + (hview (hfx I kn 3)))]? = _ from (by rw [ews5]; exact hset_ne (by omega))).trans hv3
  refine va_getsN (v := .ref tv) hx hb E.2.1.1 hS hown (va_Nw.use rfl (E.1.2.1 _ k_472)) (fun _ h9 => h9) dX6_prepare_20 ?_
  refine lv_aload_n hx hb dX6_prepare_23 rfl (lv_at hl 0 rfl) ?_
  refine va_get (v := .int (nI (hfx I kn 3))) (C := RX6) (T := TX6) (N := 7) hx hb hts (hin_X6 hmc) hown E.1.1 hP n h1 rfl 5 (by decide) (hts _ (hmc _ k_178)) (fun _ h9 => h9) rfl dX6_prepare_24 ?_
  refine va_ti (v := .int (nI (hview (hfx I kn 3)))) hx hb E.2.1.2 hS (vp_in_nI h8 (by decide)) (by rw [nI_clamp (by omega)]; exact hVf_eq _ h8) dX6_prepare_27 ?_
  refine lv_istore (lv' := [(4, .int (nI (hview (hfx I kn 3)))), (0, .ref (ad n)), (1, .ref (ad k)), (2, .int kn), (3, .ref (ad 1))]) hx hb dX6_prepare_28 hl (by decide) rfl (fun ls hl => ?_)
  refine lv_aload_n hx hb dX6_prepare_30 rfl (lv_at hl 1 rfl) ?_
  refine lv_aload_n hx hb dX6_prepare_31 rfl (lv_at hl 2 rfl) ?_
  refine lv_iload hx hb dX6_prepare_32 (lv_at hl 0 rfl) ?_
  have hga : hAg n (n + 4) ws ws5 := by rw [ews5, ews3]; exact (hAg.rf.set (by omega) (by omega)).set (by omega) (by omega)
  refine hc_i E hD hS (va_runV (As := [.int (nI (hview (hfx I kn 3)))]) (rest := [.ref (ad n)]) ⟨hx, hb, hml, hown, hts⟩ ((c_X2_numberKey l D K tv ws5 ad k I dd mm (hp0.ag hga (by omega)) (hview (hfx I kn 3)) hv) H.size) (cwV 1 hts (hGV hmc k_473 k_342 k_343 k_23 k_344) rfl rfl rfl (by decide +kernel) ⟨Nat.le_of_ble_eq_true rfl, Nat.le_of_ble_eq_true rfl⟩) (hpreV E hP hD hS hq1 rfl) rfl rfl hl.1 rfl (lv_room (Nat.le_of_ble_eq_true rfl)) dX6_prepare_34 ⟨(Nat.le_refl _), (Nat.le_refl _)⟩) (fun r7 ws6 H locs hp hP hD hS => ?_)
  obtain ⟨rfl, rfl⟩ := hp
  refine va_put (v := .int (nI (hnk (hview (hfx I kn 3)) I 3))) (ty := .int) (C := RX6) (T := TX6) (N := 7) hx hb hts (hin_X6 hmc) tyX6 tyX6_ok nmX6 hown E.1.1 hP hD hS n h1 rfl 4 (by decide) (hts _ (hmc _ k_177)) (fun _ h9 => h9) rfl (by decide +kernel) rfl rfl (Nat.le_of_ble_eq_true rfl) dX6_prepare_37 (fun H locs hP hD hS => ?_)
  obtain ⟨ws8, ews8⟩ : ∃ zw : va_W, zw = List.set ws5 n ((ad n), .inr (iS, [.ref (ad (n + 1)), .ref (ad (n + 2)), .ref (ad (n + 3)), .int (nI fl0.length), .int (nI (hnk (hview (hfx I kn 3)) I 3)), .int (nI (hfx I kn 3)), .int (nI (hopen (hfx I kn 3)))])) := ⟨_, rfl⟩
  have hP : va_P D vwCl ws8 H := by rw [ews8]; exact hP
  have hD : va_D A ws8 := by rw [ews8]; exact hD
  have h1 : ws8[n]? = some ((ad n), .inr (iS, [.ref (ad (n + 1)), .ref (ad (n + 2)), .ref (ad (n + 3)), .int (nI fl0.length), .int (nI (hnk (hview (hfx I kn 3)) I 3)), .int (nI (hfx I kn 3)), .int (nI (hopen (hfx I kn 3)))])) := by rw [ews8]; exact hset_eq h1
  have h2 := (show ws8[(n + 1)]? = _ from (by rw [ews8]; exact hset_ne (by omega))).trans h2
  have h3 := (show ws8[(n + 2)]? = _ from (by rw [ews8]; exact hset_ne (by omega))).trans h3
  have h4 := (show ws8[(n + 3)]? = _ from (by rw [ews8]; exact hset_ne (by omega))).trans h4
  have hq1 := (show ws8[k]? = _ from (by rw [ews8]; exact hset_ne (by omega))).trans hq1
  have hq2 := (show ws8[(k + 1)]? = _ from (by rw [ews8]; exact hset_ne (by omega))).trans hq2
  have ht1 := (show ws8[1]? = _ from (by rw [ews8]; exact hset_ne (by omega))).trans ht1
  have ht2 := (show ws8[2]? = _ from (by rw [ews8]; exact hset_ne (by omega))).trans ht2
  have hv3 := (show ws8[(3 + (hview (hfx I kn 3)))]? = _ from (by rw [ews8]; exact hset_ne (by omega))).trans hv3
  have hgb : hAg n (n + 4) ws ws8 := by rw [ews8]; exact hga.set (by omega) (by omega)
  refine lv_iconst (v := nI 0) hx hb dX6_prepare_40 (by decide +kernel) ?_
  refine lv_istore (lv' := [(5, .int (nI 0)), (4, .int (nI (hview (hfx I kn 3)))), (0, .ref (ad n)), (1, .ref (ad k)), (2, .int kn), (3, .ref (ad 1))]) hx hb dX6_prepare_41 hl (by decide) rfl (fun ls hl => ?_)
  refine hloopW (α := Nat) 43 7 (fun j => [(5, .int (nI j)), (4, .int (nI (hview (hfx I kn 3)))), (0, .ref (ad n)), (1, .ref (ad k)), (2, .int kn), (3, .ref (ad 1))]) (fun j w1 => j ≤ 3 ∧ hAg n (n + 4) ws w1 ∧ ∃ fi1 fs1 : Nat → Int32, w1[n]? = some (hSc ad n (nI fl0.length) (nI (hnk (hview (hfx I kn 3)) I 3)) (nI (hfx I kn 3)) (nI (hopen (hfx I kn 3)))) ∧ w1[n + 1]? = some (ad (n + 1), .inl (K 0, 640, .inl f)) ∧ w1[n + 2]? = some (ad (n + 2), .inl (K 0, 3, .inl fi1)) ∧ w1[n + 3]? = some (ad (n + 3), .inl (K 0, 3, .inl fs1)) ∧ (∀ q, q < j → fi1 q = hit (I q)) ∧ ∀ q, q < j → fs1 q = nI (hsh (hview (hfx I kn 3)) q)) (fun j => 3 - j) (fun _ => 0) (fun _ => 0) ?_ 0 ⟨by decide, hgb, fi, fs, h1, h2, h3, h4, fun q hq => absurd hq (Nat.not_lt_zero _), fun q hq => absurd hq (Nat.not_lt_zero _)⟩ hP hD hS (lv_sub hl [0, 1, 2, 3, 4, 5] rfl)
  intro j w1 H locs ls hI1 hP hD hS hl ih
  obtain ⟨hj, hag, fi1, fs1, h1, h2, h3, h4, hdi, hds⟩ := hI1
  have hl : lv_has ls 7 [(5, .int (nI j)), (4, .int (nI (hview (hfx I kn 3)))), (0, .ref (ad n)), (1, .ref (ad k)), (2, .int kn), (3, .ref (ad 1))] := hl
  have hq1 := (hag.2 k (by omega)).trans hq1o
  have hq2 := (hag.2 (k + 1) (by omega)).trans hq2o
  have ht1 := (hag.2 1 (by omega)).trans ht1o
  have ht2 := (hag.2 2 (by omega)).trans ht2o
  have hv3 := (hag.2 (3 + (hview (hfx I kn 3))) (by omega)).trans hv3o
  refine lv_iload hx hb dX6_prepare_43 (lv_at hl 0 rfl) ?_
  refine lv_iconst (v := nI 3) hx hb dX6_prepare_45 (by decide +kernel) ?_
  refine lv_icmp_ge (tgt := 83) hx hb dX6_prepare_46 (by decide) (fun c1 => ?_) (fun c1 => ?_)
  · have hj3 : j = 3 := by
      rcases Nat.lt_or_ge j 3 with z | z
      · exact absurd c1 (nI_ge z (by decide))
      · omega
    subst hj3
    refine lv_aload_n hx hb dX6_prepare_83 rfl (lv_at hl 2 rfl) ?_
    refine lv_iconst (v := nI 0) hx hb dX6_prepare_84 (by decide +kernel) ?_
    refine va_put (v := .int (nI 0)) (ty := .int) (C := RX6) (T := TX6) (N := 7) hx hb hts (hin_X6 hmc) tyX6 tyX6_ok nmX6 hown E.1.1 hP hD hS n h1 rfl 3 (by decide) (hts _ (hmc _ k_175)) (fun _ h9 => h9) rfl (by decide +kernel) rfl rfl (Nat.le_of_ble_eq_true rfl) dX6_prepare_85 (fun H locs hP hD hS => ?_)
    obtain ⟨ws9, ews9⟩ : ∃ zw : va_W, zw = List.set w1 n ((ad n), .inr (iS, [.ref (ad (n + 1)), .ref (ad (n + 2)), .ref (ad (n + 3)), .int (nI 0), .int (nI (hnk (hview (hfx I kn 3)) I 3)), .int (nI (hfx I kn 3)), .int (nI (hopen (hfx I kn 3)))])) := ⟨_, rfl⟩
    have hP : va_P D vwCl ws9 H := by rw [ews9]; exact hP
    have hD : va_D A ws9 := by rw [ews9]; exact hD
    have h1 : ws9[n]? = some ((ad n), .inr (iS, [.ref (ad (n + 1)), .ref (ad (n + 2)), .ref (ad (n + 3)), .int (nI 0), .int (nI (hnk (hview (hfx I kn 3)) I 3)), .int (nI (hfx I kn 3)), .int (nI (hopen (hfx I kn 3)))])) := by rw [ews9]; exact hset_eq h1
    have h2 := (show ws9[(n + 1)]? = _ from (by rw [ews9]; exact hset_ne (by omega))).trans h2
    have h3 := (show ws9[(n + 2)]? = _ from (by rw [ews9]; exact hset_ne (by omega))).trans h3
    have h4 := (show ws9[(n + 3)]? = _ from (by rw [ews9]; exact hset_ne (by omega))).trans h4
    have hq1 := (show ws9[k]? = _ from (by rw [ews9]; exact hset_ne (by omega))).trans hq1
    have hq2 := (show ws9[(k + 1)]? = _ from (by rw [ews9]; exact hset_ne (by omega))).trans hq2
    have ht1 := (show ws9[1]? = _ from (by rw [ews9]; exact hset_ne (by omega))).trans ht1
    have ht2 := (show ws9[2]? = _ from (by rw [ews9]; exact hset_ne (by omega))).trans ht2
    have hv3 := (show ws9[(3 + (hview (hfx I kn 3)))]? = _ from (by rw [ews9]; exact hset_ne (by omega))).trans hv3
    refine lv_iconst (v := nI 0) hx hb dX6_prepare_88 (by decide +kernel) ?_
    refine lv_istore (lv' := [(5, .int (nI 0)), (4, .int (nI (hview (hfx I kn 3)))), (0, .ref (ad n)), (1, .ref (ad k)), (2, .int kn), (3, .ref (ad 1))]) hx hb dX6_prepare_89 hl (by decide) rfl (fun ls hl => ?_)
    have hgc : hAg n (n + 4) ws ws9 := by rw [ews9]; exact hag.set (by omega) (by omega)
    refine hloopW (α := Nat) 91 7 (fun j => [(5, .int (nI j)), (4, .int (nI (hview (hfx I kn 3)))), (0, .ref (ad n)), (1, .ref (ad k)), (2, .int kn), (3, .ref (ad 1))]) (fun j w1 => j ≤ cnt ∧ hAg n (n + 4) ws w1 ∧ ∃ f1 : Nat → Int32, w1[n]? = some (hSc ad n (nI (hFl (hview (hfx I kn 3)) I (g (hview (hfx I kn 3))) j).length) (nI (hnk (hview (hfx I kn 3)) I 3)) (nI (hfx I kn 3)) (nI (hopen (hfx I kn 3)))) ∧ w1[n + 1]? = some (ad (n + 1), .inl (K 0, 640, .inl f1)) ∧ w1[n + 2]? = some (ad (n + 2), .inl (K 0, 3, .inl fi1)) ∧ w1[n + 3]? = some (ad (n + 3), .inl (K 0, 3, .inl fs1)) ∧ ∀ i, i < (hFl (hview (hfx I kn 3)) I (g (hview (hfx I kn 3))) j).length → f1 i = nI ((hFl (hview (hfx I kn 3)) I (g (hview (hfx I kn 3))) j).getD i 0)) (fun j => cnt - j) (fun _ => 0) (fun _ => 0) ?_ 0 ⟨Nat.zero_le _, hgc, f, h1, h2, h3, h4, fun q hq => absurd hq (Nat.not_lt_zero _)⟩ hP hD hS (lv_sub hl [0, 1, 2, 3, 4, 5] rfl)
    clear hag ih
    intro j w1 H locs ls hI1 hP hD hS hl ih
    obtain ⟨hj, hag, f1, h1, h2, h3, h4, hdf⟩ := hI1
    have hl : lv_has ls 7 [(5, .int (nI j)), (4, .int (nI (hview (hfx I kn 3)))), (0, .ref (ad n)), (1, .ref (ad k)), (2, .int kn), (3, .ref (ad 1))] := hl
    have hp1 := hp0.ag hag (by omega)
    have hfle := hFl_len (v := (hview (hfx I kn 3))) (I := I) (g := g (hview (hfx I kn 3))) j
    obtain ⟨pi2, pd2, hq1, -⟩ := id hp1
    obtain ⟨ht1, ⟨fq, ht2, hfq⟩, ht3⟩ := id (ht.ag hag (by omega))
    have hv3 := ht3 (hview (hfx I kn 3)) hv
    refine lv_iload hx hb dX6_prepare_91 (lv_at hl 0 rfl) ?_
    refine lv_aload_n hx hb dX6_prepare_93 rfl (lv_at hl 5 rfl) ?_
    refine va_getN (v := .int (nI cnt)) (C := RX1) (T := TX1) (N := 2) hx hb hts (hin_X1 hmc) hown E.1.1 hP 1 ht1 rfl 1 (by decide) (va_Nw.use rfl (E.1.2.1 _ k_55)) (fun _ h9 => h9) rfl dX6_prepare_94 ?_
    refine lv_icmp_ge (tgt := 179) hx hb dX6_prepare_97 (by decide) (fun c2 => ?_) (fun c2 => ?_)
    · have hjc : j = cnt := by
        rcases Nat.lt_or_ge j cnt with z | z
        · exact absurd c2 (nI_ge z (by omega))
        · omega
      subst hjc
      subst hAe
      exact W.vret hx hb hr (fun t ht _ => ⟨⟨w1, rfl, ⟨hag, f1, fi1, fs1, h1, h2, h3, h4, hdf, hdi, hds⟩, by rw [ht]; exact hP, hD⟩, hS.F ht⟩) hS.2.2 dX6_prepare_179
    · have hjc : j < cnt := Nat.not_le.mp (fun z => c2 (nI_le z (by omega)))
      obtain ⟨eg, eg2⟩ := hgf j hjc
      have s0 := hsh_lt (hview (hfx I kn 3)) hv 0 (by decide)
      have s1 := hsh_lt (hview (hfx I kn 3)) hv 1 (by decide)
      have s2 := hsh_lt (hview (hfx I kn 3)) hv 2 (by decide)
      refine lv_aload_n hx hb dX6_prepare_100 rfl (lv_at hl 5 rfl) ?_
      refine va_getN (v := .ref (ad 2)) (C := RX1) (T := TX1) (N := 2) hx hb hts (hin_X1 hmc) hown E.1.1 hP 1 ht1 rfl 0 (by decide) (va_Nw.use rfl (E.1.2.1 _ k_52)) (fun _ h9 => h9) rfl dX6_prepare_101 ?_
      refine lv_iload hx hb dX6_prepare_104 (lv_at hl 1 rfl) ?_
      refine hald2 hx hb E.1.1 hP 2 2 ht2 rfl (vp_in_nI (by omega) (by omega)) dX6_prepare_106 ?_
      refine htopq (v := (ad (3 + (hview (hfx I kn 3))))) (by rw [nI_clamp (by omega)]; exact hfq (hview (hfx I kn 3)) hv) ?_
      refine lv_iload hx hb dX6_prepare_107 (lv_at hl 0 rfl) ?_
      refine va_iald hx hb E.1.1 hP (3 + (hview (hfx I kn 3))) 0 hv3 rfl (vp_in_nI (by omega) (by omega)) dX6_prepare_109 ?_
      refine htopi (v := (F (hview (hfx I kn 3))) j) (by rw [nI_clamp (by omega)]) ?_
      refine htopi (v := nI (g (hview (hfx I kn 3)) j)) (eg) ?_
      refine lv_istore (lv' := [(6, .int (nI (g (hview (hfx I kn 3)) j))), (5, .int (nI j)), (4, .int (nI (hview (hfx I kn 3)))), (0, .ref (ad n)), (1, .ref (ad k)), (2, .int kn), (3, .ref (ad 1))]) hx hb dX6_prepare_110 hl (by decide) rfl (fun ls hl => ?_)
      refine lv_aload_n hx hb dX6_prepare_112 rfl (lv_at hl 4 rfl) ?_
      refine lv_iload hx hb dX6_prepare_113 (lv_at hl 0 rfl) ?_
      refine lv_aload_n hx hb dX6_prepare_115 rfl (lv_at hl 3 rfl) ?_
      refine va_get (v := .ref (ad (n + 3))) (C := RX6) (T := TX6) (N := 7) hx hb hts (hin_X6 hmc) hown E.1.1 hP n h1 rfl 2 (by decide) (hts _ (hmc _ k_174)) (fun _ h9 => h9) rfl dX6_prepare_116 ?_
      refine lv_iconst (v := nI 0) hx hb dX6_prepare_119 (by decide +kernel) ?_
      refine va_iald hx hb E.1.1 hP (n + 3) 0 h4 rfl (vp_in_nI (by omega) (by omega)) dX6_prepare_120 ?_
      refine htopi (v := fs1 0) (by rw [nI_clamp (by omega)]) ?_
      refine htopi (v := nI (hsh (hview (hfx I kn 3)) 0)) (hds 0 (by decide)) ?_
      refine hc_si (va_runSN (As := [.int (nI (g (hview (hfx I kn 3)) j)), .int (nI (hsh (hview (hfx I kn 3)) 0))]) (rest := [.ref (ad k)]) ⟨hx, hb, hml, hown, hts⟩ (c_X0_numberAt l (g (hview (hfx I kn 3)) j) (hsh (hview (hfx I kn 3)) 0) (by omega) (by omega)) ⟨va_cnB 2 hts (hGc hmc k_363) rfl rfl rfl (E.1.2.1 _ k_475) (hts _ (hmc _ k_20)) (by decide +kernel) ⟨Nat.le_of_ble_eq_true rfl, Nat.le_of_ble_eq_true rfl⟩, (hts _ (hmc _ k_362)), trivial⟩ hpre0 rfl rfl hl.1 rfl (lv_room (Nat.le_of_ble_eq_true rfl)) dX6_prepare_121 ⟨(Nat.le_refl _), (Nat.le_refl _)⟩) (fun r10 hp => ?_)
      subst hp
      refine lv_iload hx hb dX6_prepare_124 (lv_at hl 0 rfl) ?_
      refine lv_aload_n hx hb dX6_prepare_126 rfl (lv_at hl 3 rfl) ?_
      refine va_get (v := .ref (ad (n + 3))) (C := RX6) (T := TX6) (N := 7) hx hb hts (hin_X6 hmc) hown E.1.1 hP n h1 rfl 2 (by decide) (hts _ (hmc _ k_174)) (fun _ h9 => h9) rfl dX6_prepare_127 ?_
      refine lv_iconst (v := nI 1) hx hb dX6_prepare_130 (by decide +kernel) ?_
      refine va_iald hx hb E.1.1 hP (n + 3) 0 h4 rfl (vp_in_nI (by omega) (by omega)) dX6_prepare_131 ?_
      refine htopi (v := fs1 1) (by rw [nI_clamp (by omega)]) ?_
      refine htopi (v := nI (hsh (hview (hfx I kn 3)) 1)) (hds 1 (by decide)) ?_
      refine hc_si (va_runSN (As := [.int (nI (g (hview (hfx I kn 3)) j)), .int (nI (hsh (hview (hfx I kn 3)) 1))]) (rest := [.int (nI (hpn (hview (hfx I kn 3)) 0 (g (hview (hfx I kn 3)) j))), .ref (ad k)]) ⟨hx, hb, hml, hown, hts⟩ (c_X0_numberAt l (g (hview (hfx I kn 3)) j) (hsh (hview (hfx I kn 3)) 1) (by omega) (by omega)) ⟨va_cnB 2 hts (hGc hmc k_363) rfl rfl rfl (E.1.2.1 _ k_475) (hts _ (hmc _ k_20)) (by decide +kernel) ⟨Nat.le_of_ble_eq_true rfl, Nat.le_of_ble_eq_true rfl⟩, (hts _ (hmc _ k_362)), trivial⟩ hpre0 rfl rfl hl.1 rfl (lv_room (Nat.le_of_ble_eq_true rfl)) dX6_prepare_132 ⟨(Nat.le_refl _), (Nat.le_refl _)⟩) (fun r11 hp => ?_)
      subst hp
      refine lv_iload hx hb dX6_prepare_135 (lv_at hl 0 rfl) ?_
      refine lv_aload_n hx hb dX6_prepare_137 rfl (lv_at hl 3 rfl) ?_
      refine va_get (v := .ref (ad (n + 3))) (C := RX6) (T := TX6) (N := 7) hx hb hts (hin_X6 hmc) hown E.1.1 hP n h1 rfl 2 (by decide) (hts _ (hmc _ k_174)) (fun _ h9 => h9) rfl dX6_prepare_138 ?_
      refine lv_iconst (v := nI 2) hx hb dX6_prepare_141 (by decide +kernel) ?_
      refine va_iald hx hb E.1.1 hP (n + 3) 0 h4 rfl (vp_in_nI (by omega) (by omega)) dX6_prepare_142 ?_
      refine htopi (v := fs1 2) (by rw [nI_clamp (by omega)]) ?_
      refine htopi (v := nI (hsh (hview (hfx I kn 3)) 2)) (hds 2 (by decide)) ?_
      refine hc_si (va_runSN (As := [.int (nI (g (hview (hfx I kn 3)) j)), .int (nI (hsh (hview (hfx I kn 3)) 2))]) (rest := [.int (nI (hpn (hview (hfx I kn 3)) 1 (g (hview (hfx I kn 3)) j))), .int (nI (hpn (hview (hfx I kn 3)) 0 (g (hview (hfx I kn 3)) j))), .ref (ad k)]) ⟨hx, hb, hml, hown, hts⟩ (c_X0_numberAt l (g (hview (hfx I kn 3)) j) (hsh (hview (hfx I kn 3)) 2) (by omega) (by omega)) ⟨va_cnB 2 hts (hGc hmc k_363) rfl rfl rfl (E.1.2.1 _ k_475) (hts _ (hmc _ k_20)) (by decide +kernel) ⟨Nat.le_of_ble_eq_true rfl, Nat.le_of_ble_eq_true rfl⟩, (hts _ (hmc _ k_362)), trivial⟩ hpre0 rfl rfl hl.1 rfl (lv_room (Nat.le_of_ble_eq_true rfl)) dX6_prepare_143 ⟨(Nat.le_refl _), (Nat.le_refl _)⟩) (fun r12 hp => ?_)
      subst hp
      refine hc_i E hD hS (va_runV (As := [.int (nI (hpn (hview (hfx I kn 3)) 0 (g (hview (hfx I kn 3)) j))), .int (nI (hpn (hview (hfx I kn 3)) 1 (g (hview (hfx I kn 3)) j))), .int (nI (hpn (hview (hfx I kn 3)) 2 (g (hview (hfx I kn 3)) j)))]) (rest := []) ⟨hx, hb, hml, hown, hts⟩ ((c_X2_fits l D K tv w1 ad k I dd mm hp1 (hpn (hview (hfx I kn 3)) 0 (g (hview (hfx I kn 3)) j)) (hpn (hview (hfx I kn 3)) 1 (g (hview (hfx I kn 3)) j)) (hpn (hview (hfx I kn 3)) 2 (g (hview (hfx I kn 3)) j)) (hpn_lt _ _ _) (hpn_lt _ _ _) (hpn_lt _ _ _)) H.size) (cwV 3 hts (hGV hmc k_476 k_477 k_478 k_23 k_479) rfl rfl rfl (by decide +kernel) ⟨Nat.le_of_ble_eq_true rfl, Nat.le_of_ble_eq_true rfl⟩) (hpreV E hP hD hS hq1 rfl) rfl rfl hl.1 rfl (lv_room (Nat.le_of_ble_eq_true rfl)) dX6_prepare_146 ⟨(Nat.le_refl _), (Nat.le_refl _)⟩) (fun r14 ws13 H locs hh hP hD hS => ?_)
      obtain ⟨rfl, hh⟩ := hh
      refine lv_if_eq (tgt := 173) hx hb dX6_prepare_149 (by decide) (fun c3 => ?_) (fun c3 => ?_)
      · have hs : hFl (hview (hfx I kn 3)) I (g (hview (hfx I kn 3))) (j + 1) = (hFl (hview (hfx I kn 3)) I (g (hview (hfx I kn 3))) j) := if_neg (hh.f c3)
        refine lv_iinc (v := nI (j + 1)) (lv' := [(5, .int (nI (j + 1))), (6, .int (nI (g (hview (hfx I kn 3)) j))), (4, .int (nI (hview (hfx I kn 3)))), (0, .ref (ad n)), (1, .ref (ad k)), (2, .int kn), (3, .ref (ad 1))]) hx hb dX6_prepare_173 hl (k := 1) rfl (nI_1 _) (by decide) rfl (fun ls hl => ?_)
        refine lv_goto (tgt := 91) hx hb dX6_prepare_176 (by decide) ?_
        exact ih (j + 1) _ H locs ls ⟨by omega, hag, f1, by rw [hs]; exact h1, h2, h3, h4, by rw [hs]; exact hdf⟩ (by omega) hP hD hS (lv_sub hl [0, 2, 3, 4, 5, 6] rfl)
      · have hs : hFl (hview (hfx I kn 3)) I (g (hview (hfx I kn 3))) (j + 1) = (hFl (hview (hfx I kn 3)) I (g (hview (hfx I kn 3))) j) ++ [(g (hview (hfx I kn 3)) j)] := if_pos (hh.t c3)
        refine lv_aload_n hx hb dX6_prepare_152 rfl (lv_at hl 3 rfl) ?_
        refine va_get (v := .ref (ad (n + 1))) (C := RX6) (T := TX6) (N := 7) hx hb hts (hin_X6 hmc) hown E.1.1 hP n h1 rfl 0 (by decide) (hts _ (hmc _ k_172)) (fun _ h9 => h9) rfl dX6_prepare_153 ?_
        refine lv_aload_n hx hb dX6_prepare_156 rfl (lv_at hl 3 rfl) ?_
        refine va_get (v := .int (nI (hFl (hview (hfx I kn 3)) I (g (hview (hfx I kn 3))) j).length)) (C := RX6) (T := TX6) (N := 7) hx hb hts (hin_X6 hmc) hown E.1.1 hP n h1 rfl 3 (by decide) (hts _ (hmc _ k_175)) (fun _ h9 => h9) rfl dX6_prepare_157 ?_
        refine lv_iload hx hb dX6_prepare_160 (lv_at hl 0 rfl) ?_
        refine va_iast hx hb E.1.1 hP hD hS (n + 1) 0 h2 rfl (vp_in_nI (by omega) (by omega)) dX6_prepare_162 (fun H locs hP hD hS => ?_)
        rw [nI_clamp (show (hFl (hview (hfx I kn 3)) I (g (hview (hfx I kn 3))) j).length < 2 ^ 31 by omega)] at hP hD
        obtain ⟨ws15, ews15⟩ : ∃ zw : va_W, zw = List.set w1 (n + 1) ((ad (n + 1)), .inl (K 0, 640, .inl (upd f1 ((hFl (hview (hfx I kn 3)) I (g (hview (hfx I kn 3))) j).length) (nI (g (hview (hfx I kn 3)) j))))) := ⟨_, rfl⟩
        have hP : va_P D vwCl ws15 H := by rw [ews15]; exact hP
        have hD : va_D A ws15 := by rw [ews15]; exact hD
        have h1 := (show ws15[n]? = _ from (by rw [ews15]; exact hset_ne (by omega))).trans h1
        have h2 : ws15[(n + 1)]? = some ((ad (n + 1)), .inl (K 0, 640, .inl (upd f1 ((hFl (hview (hfx I kn 3)) I (g (hview (hfx I kn 3))) j).length) (nI (g (hview (hfx I kn 3)) j))))) := by rw [ews15]; exact hset_eq h2
        have h3 := (show ws15[(n + 2)]? = _ from (by rw [ews15]; exact hset_ne (by omega))).trans h3
        have h4 := (show ws15[(n + 3)]? = _ from (by rw [ews15]; exact hset_ne (by omega))).trans h4
        have ht1 := (show ws15[1]? = _ from (by rw [ews15]; exact hset_ne (by omega))).trans ht1
        have ht2 := (show ws15[2]? = _ from (by rw [ews15]; exact hset_ne (by omega))).trans ht2
        have hv3 := (show ws15[(3 + (hview (hfx I kn 3)))]? = _ from (by rw [ews15]; exact hset_ne (by omega))).trans hv3
        have hq1 := (show ws15[k]? = _ from (by rw [ews15]; exact hset_ne (by omega))).trans hq1
        refine lv_aload_n hx hb dX6_prepare_163 rfl (lv_at hl 3 rfl) ?_
        refine lv_dup hx hb dX6_prepare_164 rfl ?_
        refine va_get (v := .int (nI (hFl (hview (hfx I kn 3)) I (g (hview (hfx I kn 3))) j).length)) (C := RX6) (T := TX6) (N := 7) hx hb hts (hin_X6 hmc) hown E.1.1 hP n h1 rfl 3 (by decide) (hts _ (hmc _ k_175)) (fun _ h9 => h9) rfl dX6_prepare_165 ?_
        refine lv_iconst (v := nI 1) hx hb dX6_prepare_168 (by decide +kernel) ?_
        refine lv_iadd hx hb dX6_prepare_169 ?_
        refine htopi (v := nI (((hFl (hview (hfx I kn 3)) I (g (hview (hfx I kn 3))) j).length) + 1)) (nI_add _ _) ?_
        refine va_put (v := .int (nI (((hFl (hview (hfx I kn 3)) I (g (hview (hfx I kn 3))) j).length) + 1))) (ty := .int) (C := RX6) (T := TX6) (N := 7) hx hb hts (hin_X6 hmc) tyX6 tyX6_ok nmX6 hown E.1.1 hP hD hS n h1 rfl 3 (by decide) (hts _ (hmc _ k_175)) (fun _ h9 => h9) rfl (by decide +kernel) rfl rfl (Nat.le_of_ble_eq_true rfl) dX6_prepare_170 (fun H locs hP hD hS => ?_)
        obtain ⟨ws16, ews16⟩ : ∃ zw : va_W, zw = List.set ws15 n ((ad n), .inr (iS, [.ref (ad (n + 1)), .ref (ad (n + 2)), .ref (ad (n + 3)), .int (nI (((hFl (hview (hfx I kn 3)) I (g (hview (hfx I kn 3))) j).length) + 1)), .int (nI (hnk (hview (hfx I kn 3)) I 3)), .int (nI (hfx I kn 3)), .int (nI (hopen (hfx I kn 3)))])) := ⟨_, rfl⟩
        have hP : va_P D vwCl ws16 H := by rw [ews16]; exact hP
        have hD : va_D A ws16 := by rw [ews16]; exact hD
        have h1 : ws16[n]? = some ((ad n), .inr (iS, [.ref (ad (n + 1)), .ref (ad (n + 2)), .ref (ad (n + 3)), .int (nI (((hFl (hview (hfx I kn 3)) I (g (hview (hfx I kn 3))) j).length) + 1)), .int (nI (hnk (hview (hfx I kn 3)) I 3)), .int (nI (hfx I kn 3)), .int (nI (hopen (hfx I kn 3)))])) := by rw [ews16]; exact hset_eq h1
        have h2 := (show ws16[(n + 1)]? = _ from (by rw [ews16]; exact hset_ne (by omega))).trans h2
        have h3 := (show ws16[(n + 2)]? = _ from (by rw [ews16]; exact hset_ne (by omega))).trans h3
        have h4 := (show ws16[(n + 3)]? = _ from (by rw [ews16]; exact hset_ne (by omega))).trans h4
        have ht1 := (show ws16[1]? = _ from (by rw [ews16]; exact hset_ne (by omega))).trans ht1
        have ht2 := (show ws16[2]? = _ from (by rw [ews16]; exact hset_ne (by omega))).trans ht2
        have hv3 := (show ws16[(3 + (hview (hfx I kn 3)))]? = _ from (by rw [ews16]; exact hset_ne (by omega))).trans hv3
        have hq1 := (show ws16[k]? = _ from (by rw [ews16]; exact hset_ne (by omega))).trans hq1
        refine lv_iinc (v := nI (j + 1)) (lv' := [(5, .int (nI (j + 1))), (6, .int (nI (g (hview (hfx I kn 3)) j))), (4, .int (nI (hview (hfx I kn 3)))), (0, .ref (ad n)), (1, .ref (ad k)), (2, .int kn), (3, .ref (ad 1))]) hx hb dX6_prepare_173 hl (k := 1) rfl (nI_1 _) (by decide) rfl (fun ls hl => ?_)
        refine lv_goto (tgt := 91) hx hb dX6_prepare_176 (by decide) ?_
        refine ih (j + 1) _ H locs ls ⟨by omega, by rw [ews16, ews15]; exact (hag.set (by omega) (by omega)).set (by omega) (by omega), _, by rw [hs, List.length_append]; exact h1, h2, h3, h4, fun i hi => ?_⟩ (by omega) hP hD hS (lv_sub hl [0, 2, 3, 4, 5, 6] rfl)
        rw [hs]
        rw [hs, List.length_append] at hi
        have hi : i < (hFl (hview (hfx I kn 3)) I (g (hview (hfx I kn 3))) j).length + 1 := hi
        by_cases z : i = (hFl (hview (hfx I kn 3)) I (g (hview (hfx I kn 3))) j).length
        · subst z; rw [pk_us, hgetD_last]
        · rw [pk_un z, hgetD (by omega)]; exact hdf i (by omega)
  · have hj3 : j < 3 := Nat.not_le.mp (fun z => c1 (nI_le z (by omega)))
    obtain ⟨e1, e2⟩ := hpi j hj3
    refine lv_aload_n hx hb dX6_prepare_49 rfl (lv_at hl 2 rfl) ?_
    refine va_get (v := .ref (ad (n + 2))) (C := RX6) (T := TX6) (N := 7) hx hb hts (hin_X6 hmc) hown E.1.1 hP n h1 rfl 1 (by decide) (hts _ (hmc _ k_173)) (fun _ h9 => h9) rfl dX6_prepare_50 ?_
    refine lv_iload hx hb dX6_prepare_53 (lv_at hl 0 rfl) ?_
    refine lv_aload_n hx hb dX6_prepare_55 rfl (lv_at hl 3 rfl) ?_
    refine va_getN (v := .ref (ad (k + 1))) (C := RX2) (T := TX2) (N := 3) hx hb hts (hin_X2 hmc) hown E.1.1 hP k hq1 rfl 0 (by decide) (va_Nw.use rfl (E.1.2.1 _ k_76)) (fun _ h9 => h9) rfl dX6_prepare_56 ?_
    refine lv_iload hx hb dX6_prepare_59 (lv_at hl 0 rfl) ?_
    refine va_iald hx hb E.1.1 hP (k + 1) 0 hq2 rfl (vp_in_nI (by omega) (by omega)) dX6_prepare_61 ?_
    refine htopi (v := pi j) (by rw [nI_clamp (by omega)]) ?_
    refine htopi (v := hit (I j)) (e1) ?_
    refine va_iast hx hb E.1.1 hP hD hS (n + 2) 0 h3 rfl (vp_in_nI (by omega) (by omega)) dX6_prepare_62 (fun H locs hP hD hS => ?_)
    rw [nI_clamp (show j < 2 ^ 31 by omega)] at hP hD
    obtain ⟨ws17, ews17⟩ : ∃ zw : va_W, zw = List.set w1 (n + 2) ((ad (n + 2)), .inl (K 0, 3, .inl (upd fi1 j (hit (I j))))) := ⟨_, rfl⟩
    have hP : va_P D vwCl ws17 H := by rw [ews17]; exact hP
    have hD : va_D A ws17 := by rw [ews17]; exact hD
    have h1 := (show ws17[n]? = _ from (by rw [ews17]; exact hset_ne (by omega))).trans h1
    have h2 := (show ws17[(n + 1)]? = _ from (by rw [ews17]; exact hset_ne (by omega))).trans h2
    have h3 : ws17[(n + 2)]? = some ((ad (n + 2)), .inl (K 0, 3, .inl (upd fi1 j (hit (I j))))) := by rw [ews17]; exact hset_eq h3
    have h4 := (show ws17[(n + 3)]? = _ from (by rw [ews17]; exact hset_ne (by omega))).trans h4
    have hq1 := (show ws17[k]? = _ from (by rw [ews17]; exact hset_ne (by omega))).trans hq1
    have hq2 := (show ws17[(k + 1)]? = _ from (by rw [ews17]; exact hset_ne (by omega))).trans hq2
    have ht1 := (show ws17[1]? = _ from (by rw [ews17]; exact hset_ne (by omega))).trans ht1
    have ht2 := (show ws17[2]? = _ from (by rw [ews17]; exact hset_ne (by omega))).trans ht2
    have hv3 := (show ws17[(3 + (hview (hfx I kn 3)))]? = _ from (by rw [ews17]; exact hset_ne (by omega))).trans hv3
    refine lv_aload_n hx hb dX6_prepare_63 rfl (lv_at hl 2 rfl) ?_
    refine va_get (v := .ref (ad (n + 3))) (C := RX6) (T := TX6) (N := 7) hx hb hts (hin_X6 hmc) hown E.1.1 hP n h1 rfl 2 (by decide) (hts _ (hmc _ k_174)) (fun _ h9 => h9) rfl dX6_prepare_64 ?_
    refine lv_iload hx hb dX6_prepare_67 (lv_at hl 0 rfl) ?_
    refine lv_iload hx hb dX6_prepare_69 (lv_at hl 1 rfl) ?_
    refine lv_iload hx hb dX6_prepare_71 (lv_at hl 0 rfl) ?_
    refine hc_si (va_runSN (As := [.int (nI (hview (hfx I kn 3))), .int (nI j)]) (rest := [.int (nI j), .ref (ad (n + 3))]) ⟨hx, hb, hml, hown, hts⟩ (c_X0_codeShift l (hview (hfx I kn 3)) j hv hj3) ⟨va_cnB 2 hts (hGc hmc k_251) rfl rfl rfl (E.1.2.1 _ k_474) (hts _ (hmc _ k_20)) (by decide +kernel) ⟨Nat.le_of_ble_eq_true rfl, Nat.le_of_ble_eq_true rfl⟩, (hts _ (hmc _ k_250)), trivial⟩ hpre0 rfl rfl hl.1 rfl (lv_room (Nat.le_of_ble_eq_true rfl)) dX6_prepare_73 ⟨(Nat.le_refl _), (Nat.le_refl _)⟩) (fun r18 hp => ?_)
    subst hp
    refine va_iast hx hb E.1.1 hP hD hS (n + 3) 0 h4 rfl (vp_in_nI (by omega) (by omega)) dX6_prepare_76 (fun H locs hP hD hS => ?_)
    rw [nI_clamp (show j < 2 ^ 31 by omega)] at hP hD
    obtain ⟨ws19, ews19⟩ : ∃ zw : va_W, zw = List.set ws17 (n + 3) ((ad (n + 3)), .inl (K 0, 3, .inl (upd fs1 j (nI (hsh (hview (hfx I kn 3)) j))))) := ⟨_, rfl⟩
    have hP : va_P D vwCl ws19 H := by rw [ews19]; exact hP
    have hD : va_D A ws19 := by rw [ews19]; exact hD
    have h1 := (show ws19[n]? = _ from (by rw [ews19]; exact hset_ne (by omega))).trans h1
    have h2 := (show ws19[(n + 1)]? = _ from (by rw [ews19]; exact hset_ne (by omega))).trans h2
    have h3 := (show ws19[(n + 2)]? = _ from (by rw [ews19]; exact hset_ne (by omega))).trans h3
    have h4 : ws19[(n + 3)]? = some ((ad (n + 3)), .inl (K 0, 3, .inl (upd fs1 j (nI (hsh (hview (hfx I kn 3)) j))))) := by rw [ews19]; exact hset_eq h4
    have hq1 := (show ws19[k]? = _ from (by rw [ews19]; exact hset_ne (by omega))).trans hq1
    have hq2 := (show ws19[(k + 1)]? = _ from (by rw [ews19]; exact hset_ne (by omega))).trans hq2
    have ht1 := (show ws19[1]? = _ from (by rw [ews19]; exact hset_ne (by omega))).trans ht1
    have ht2 := (show ws19[2]? = _ from (by rw [ews19]; exact hset_ne (by omega))).trans ht2
    have hv3 := (show ws19[(3 + (hview (hfx I kn 3)))]? = _ from (by rw [ews19]; exact hset_ne (by omega))).trans hv3
    refine lv_iinc (v := nI (j + 1)) (lv' := [(5, .int (nI (j + 1))), (4, .int (nI (hview (hfx I kn 3)))), (0, .ref (ad n)), (1, .ref (ad k)), (2, .int kn), (3, .ref (ad 1))]) hx hb dX6_prepare_77 hl (k := 0) rfl (nI_1 _) (by decide) rfl (fun ls hl => ?_)
    refine lv_goto (tgt := 43) hx hb dX6_prepare_80 (by decide) ?_
    refine ih (j + 1) _ H locs ls ⟨by omega, by rw [ews19, ews17]; exact (hag.set (by omega) (by omega)).set (by omega) (by omega), _, _, h1, h2, h3, h4, fun q hq => ?_, fun q hq => ?_⟩ (by omega) hP hD hS (lv_sub hl [0, 1, 2, 3, 4, 5] rfl)
    · by_cases z : q = j
      · subst z; rw [pk_us]
      · rw [pk_un z]; exact hdi q (by omega)
    · by_cases z : q = j
      · subst z; rw [pk_us]
      · rw [pk_un z]; exact hds q (by omega)
