set_option maxHeartbeats 4000000 in
set_option maxRecDepth 100000 in
/-- Arrays.copyOf of a longer array -/
theorem c_JA_copyOf (l : Launch) (D : va_G) (K : Nat → ClassId) (tv : Nat) (ws : va_W) (p0 ra L n : Nat) (f : Nat → Int64) (hra : ws[p0]? = some (ra, .inl (K 1, L, .inr (.inl f)))) (hLn : L < n) (hn : n ≤ 20000) : hR l D (hTy K) tv yJA_copyOf cJA_copyOf 3 (some (.array .long)) ({ frames := 1, cells := 1, slots := n, locals := 60 }) [.ref ra, .int (nI n)] ws (fun a ws1 => ∃ f1 : Nat → Int64, ws1 = ws ++ [(a, .inl (K 1, n, .inr (.inl f1)))]) := by
  intro sz
  refine hMetW (cc := cJA_copyOf) (maxL := 3) (ret := (some (.array .long))) (by decide +kernel) rfl ?_
  intro p e s m args below meth c s₁ B hml hv0
  obtain ⟨rfl, rfl, E, hP, hD⟩ := hentry hv0
  have hx := B.exec
  have hb := B.bytes
  have hr := B.returns
  have hts := atoms_spec (ws := hC yJA_copyOf cJA_copyOf 3 (some (.array .long))) B.pre
  have hown : s.vm.findClass RJA = some m.cls := findClass_of_methodNamed B.named
  have hlocks := B.notSynchronized
  generalize hAe : va_A ws s.heap.size = A at hD E ⊢
  have hl := lv_entry ([.ref ra, .int (nI n)]) (n := 3) (Nat.le_of_ble_eq_true rfl)
  rw [lg_entry_eq]
  generalize (lg_sl ([.ref ra, .int (nI n)]) ++ List.replicate (3 - (lg_sl ([.ref ra, .int (nI n)])).length) Slot.unset).toArray = ls at hl ⊢
  have hl : lv_has ls 3 [(0, .ref ra), (1, .int (nI n))] := hl
  refine hat0 (fun H hHe => ?_)
  have hP : va_P D vwCl ws H := by rw [hHe]; exact hP
  have hS : va_S A s.heap H [] := by rw [hHe]; exact va_S.rf
  refine lv_iload_n hx hb dJA_copyOf_0 rfl (lv_at hl 1 rfl) ?_
  refine lv_aload_n hx hb dJA_copyOf_1 rfl (lv_at hl 0 rfl) ?_
  refine va_alen (v := nI L) hx hb E.1.1 hP p0 1 hra rfl rfl dJA_copyOf_2 ?_
  refine lv_icmp_ne (tgt := 14) hx hb dJA_copyOf_3 (by decide) (fun c1 => ?_) (fun c1 => ?_)
  · refine lv_iload_n hx hb dJA_copyOf_14 rfl (lv_at hl 1 rfl) ?_
    refine va_newa (atype := .long) (ty := .long) (N' := n) (a0 := (n, .inr (.inl (fun _ => 0)))) hx hb (hts _ (hmc _ k_166)) rfl E.1.1 hP hD hS E.2.2 (fun _ => rfl) (nI_pos (by omega)) (nI_clamp (by omega)) (by show n * 8 ≤ _; omega) (by show 0 + 1 ≤ 1; omega) (by show 0 + n ≤ n; omega) dJA_copyOf_15 (fun q cA H hK1 hP hD hS => ?_)
    obtain rfl : cA = K 1 := hRA (hK1.2 (hTy K).length _ rfl).2 (E.1.1.2 1 _ rfl).2
    obtain ⟨wsn, ewsn⟩ : ∃ zw : va_W, zw = ws ++ [(q, .inl (K 1, n, .inr (.inl (fun _ => 0))))] := ⟨_, rfl⟩
    have hP : va_P D vwCl wsn H := by rw [ewsn]; exact hP
    have hD : va_D A wsn := by rw [ewsn]; exact hD
    have hpl : p0 < ws.length := (List.getElem?_eq_some_iff.mp hra).1
    have hra : wsn[p0]? = some (ra, .inl (K 1, L, .inr (.inl f))) := by rw [ewsn]; exact hinit_at hra
    have hq : wsn[ws.length]? = some (q, .inl (K 1, n, .inr (.inl (fun _ => 0)))) := by rw [ewsn]; exact hlast_at
    refine lv_astore_n (lv' := [(2, .ref q), (0, .ref ra), (1, .int (nI n))]) hx hb dJA_copyOf_17 rfl hl (by decide) rfl (fun ls hl => ?_)
    refine lv_aload_n hx hb dJA_copyOf_18 rfl (lv_at hl 1 rfl) ?_
    refine lv_iconst (v := nI 0) hx hb dJA_copyOf_19 (by decide +kernel) ?_
    refine lv_aload_n hx hb dJA_copyOf_20 rfl (lv_at hl 0 rfl) ?_
    refine lv_iconst (v := nI 0) hx hb dJA_copyOf_21 (by decide +kernel) ?_
    refine lv_aload_n hx hb dJA_copyOf_22 rfl (lv_at hl 1 rfl) ?_
    refine va_alen (v := nI L) hx hb E.1.1 hP p0 1 hra rfl rfl dJA_copyOf_23 ?_
    refine lv_iload_n hx hb dJA_copyOf_24 rfl (lv_at hl 2 rfl) ?_
    refine va_mmin hx hb (hml.trans hl.1.symm) hown (hts _ (hmc _ k_501)) (hts _ (hmc _ k_489)) (hts _ (hmc _ k_30)) (hts _ (hmc _ k_490)) (Nat.le_of_ble_eq_true rfl) (Nat.le_of_ble_eq_true rfl) (by show 0 + 1 ≤ 1; omega) (by show 0 + n ≤ n; omega) dJA_copyOf_25 ?_
    refine htopi (v := nI L) (if_neg (nI_nlt (by omega) (by omega))) ?_
    have zn : (nI L).toNatClampNeg = L := nI_clamp (by omega)
    have zd : (nI 0).toNatClampNeg = 0 := nI_clamp (by omega)
    have zs : (nI 0).toNatClampNeg = 0 := nI_clamp (by omega)
    refine va_copyl (ty := .long) hx hb (hml.trans hl.1.symm) hown (hts _ (hmc _ k_502)) (hts _ (hmc _ k_268)) (hts _ (hmc _ k_267)) (hts _ (hmc _ k_31)) E.1.1 hP hD hS p0 ws.length 1 1 hra hq rfl rfl rfl (nI_pos (by omega)) (nI_pos (by omega)) (nI_pos (by omega)) (by rw [zs, zn]; omega) (by rw [zd, zn]; omega) (fun _ _ => rfl) (Nat.le_of_ble_eq_true rfl) (Nat.le_of_ble_eq_true rfl) dJA_copyOf_28 (fun H locs hP hD hS => ?_)
    simp only [zn, zd, zs] at hP hD
    obtain ⟨ws1, ews1⟩ : ∃ zw : va_W, zw = List.set wsn ws.length (q, .inl (K 1, n, .inr (.inl (va_cpy f (fun _ => 0) 0 0 L)))) := ⟨_, rfl⟩
    have hP : va_P D vwCl ws1 H := by rw [ews1]; exact hP
    have hD : va_D A ws1 := by rw [ews1]; exact hD
    have hra := (show ws1[p0]? = _ from (by rw [ews1]; exact hset_ne (by omega))).trans hra
    have hq : ws1[ws.length]? = some (q, .inl (K 1, n, .inr (.inl (va_cpy f (fun _ => 0) 0 0 L)))) := by rw [ews1]; exact hset_eq hq
    refine lv_aload_n hx hb dJA_copyOf_31 rfl (lv_at hl 0 rfl) ?_
    refine W.widen (k := 1) (n := n) (by omega) (by omega) ?_
    subst hAe
    exact W.aret (v := .ref q) hx hb hr (Or.inr ⟨_, rfl⟩) (Or.inr ⟨_, rfl⟩) (fun t ht _ => ⟨⟨ws1, q, rfl, trivial, ⟨_, by rw [ews1, ewsn]; exact hset_last⟩, by rw [ht]; exact hP, hD⟩, hS.F ht⟩) hS.2.2 dJA_copyOf_32
  · first | exact absurd c1 (fun z => by have := (nI_eq (by omega) (by omega)).mp z; omega) | exact absurd (fun z => by have := (nI_eq (by omega) (by omega)).mp z; omega) c1

set_option maxHeartbeats 4000000 in
set_option maxRecDepth 100000 in
/-- keep -/
theorem c_X8_keep (l : Launch) (D : va_G) (K : Nat → ClassId) (tv : Nat) (ws : va_W) (ad : Nat → Nat) (b ra sa L S cnt : Nat) (hb1 : b ≤ 1) (hso : hSol K ad ws b ra sa L S cnt) (hLL : hLv L) (hcL : cnt ≤ L) (hcnt : cnt ≤ 20000) (x : Int64) : hV l D (hTy K) tv yX8_keep cX8_keep 3 none ({ frames := 2, cells := (hQc (hLf L (min (cnt + 1) 20000)) - hQc L), slots := (hQs (hLf L (min (cnt + 1) 20000)) - hQs L), locals := 120 }) [.ref (ad 35), .long x] ws (fun ws1 => hAg 35 38 ws ws1 ∧ ∃ ra1, hSol K ad ws1 b ra1 sa (hLf L (min (cnt + 1) 20000)) S (min (cnt + 1) 20000)) := by
  intro sz
  refine Met.ofW (cc := cX8_keep) (maxL := 3) (ret := none) (by decide) rfl ?_
  intro p e s m args below meth c s₁ B hml hv0
  obtain ⟨rfl, rfl, E, hP, hD⟩ := hentry hv0
  have hx := B.exec
  have hb := B.bytes
  have hr := B.returns
  have hts := atoms_spec (ws := hC yX8_keep cX8_keep 3 none) B.pre
  have hown : s.vm.findClass RX8 = some m.cls := findClass_of_methodNamed B.named
  have hlocks := B.notSynchronized
  generalize hAe : va_A ws s.heap.size = A at hD E ⊢
  have hl := lv_entry ([.ref (ad 35), .long x]) (n := 3) (Nat.le_of_ble_eq_true rfl)
  rw [lg_entry_eq]
  generalize (lg_sl ([.ref (ad 35), .long x]) ++ List.replicate (3 - (lg_sl ([.ref (ad 35), .long x])).length) Slot.unset).toArray = ls at hl ⊢
  have hl : lv_has ls 3 [(0, .ref (ad 35)), (1, .long x)] := hl
  refine hat0 (fun H hHe => ?_)
  have hP : va_P D vwCl ws H := by rw [hHe]; exact hP
  have hS : va_S A s.heap H [] := by rw [hHe]; exact va_S.rf
  obtain ⟨h35, ⟨fr, hra⟩, fs, hsa⟩ := id hso
  have hLb := hLv_le hLL
  refine lv_aload_n hx hb dX8_keep_0 rfl (lv_at hl 0 rfl) ?_
  refine va_get (v := .int (nI cnt)) (C := RX8) (T := TX8) (N := 3) hx hb hts (hin_X8 hmc) hown E.1.1 hP 35 h35 rfl 2 (by decide) (hts _ (hmc _ k_157)) (fun _ h9 => h9) rfl dX8_keep_1 ?_
  refine lv_sipush (v := nI 20000) hx hb dX8_keep_4 (by decide +kernel) ?_
  refine lv_icmp_lt (tgt := 11) hx hb dX8_keep_7 (by decide) (fun c1 => ?_) (fun c1 => ?_)
  · have hc2 : cnt < 20000 := (nI_ltI (by omega) (by decide)).mp c1
    have e1 : (min (cnt + 1) 20000) = cnt + 1 := by omega
    refine lv_aload_n hx hb dX8_keep_11 rfl (lv_at hl 0 rfl) ?_
    refine va_get (v := .int (nI cnt)) (C := RX8) (T := TX8) (N := 3) hx hb hts (hin_X8 hmc) hown E.1.1 hP 35 h35 rfl 2 (by decide) (hts _ (hmc _ k_157)) (fun _ h9 => h9) rfl dX8_keep_12 ?_
    refine lv_aload_n hx hb dX8_keep_15 rfl (lv_at hl 0 rfl) ?_
    refine va_get (v := .ref ra) (C := RX8) (T := TX8) (N := 3) hx hb hts (hin_X8 hmc) hown E.1.1 hP 35 h35 rfl 0 (by decide) (hts _ (hmc _ k_155)) (fun _ h9 => h9) rfl dX8_keep_16 ?_
    refine va_alen (v := nI L) hx hb E.1.1 hP (36 + b) 1 hra rfl rfl dX8_keep_19 ?_
    refine lv_icmp_lt (tgt := 47) hx hb dX8_keep_20 (by decide) (fun c2 => ?_) (fun c2 => ?_)
    · have hc3 : cnt < L := (nI_ltI (by omega) (by omega)).mp c2
      have eL : hLf L (cnt + 1) = L := if_pos (by omega)
      refine lv_aload_n hx hb dX8_keep_47 rfl (lv_at hl 0 rfl) ?_
      refine va_get (v := .ref ra) (C := RX8) (T := TX8) (N := 3) hx hb hts (hin_X8 hmc) hown E.1.1 hP 35 h35 rfl 0 (by decide) (hts _ (hmc _ k_155)) (fun _ h9 => h9) rfl dX8_keep_48 ?_
      refine lv_aload_n hx hb dX8_keep_51 rfl (lv_at hl 0 rfl) ?_
      refine va_get (v := .int (nI cnt)) (C := RX8) (T := TX8) (N := 3) hx hb hts (hin_X8 hmc) hown E.1.1 hP 35 h35 rfl 2 (by decide) (hts _ (hmc _ k_157)) (fun _ h9 => h9) rfl dX8_keep_52 ?_
      refine lv_lload_n hx hb dX8_keep_55 rfl (lv_at hl 1 rfl) ?_
      refine va_last hx hb E.1.1 hP hD hS (36 + b) 1 hra rfl (vp_in_nI (by omega) (by omega)) dX8_keep_56 (fun H locs hP hD hS => ?_)
      rw [nI_clamp (show cnt < 2 ^ 31 by omega)] at hP hD
      obtain ⟨ws1, ews1⟩ : ∃ zw : va_W, zw = List.set ws (36 + b) (ra, .inl (K 1, L, .inr (.inl (vp_updL fr cnt x)))) := ⟨_, rfl⟩
      have hP : va_P D vwCl ws1 H := by rw [ews1]; exact hP
      have hD : va_D A ws1 := by rw [ews1]; exact hD
      have h35 := (show ws1[35]? = _ from (by rw [ews1]; exact hset_ne (by omega))).trans h35
      have hra : ws1[(36 + b)]? = some (ra, .inl (K 1, L, .inr (.inl (vp_updL fr cnt x)))) := by rw [ews1]; exact hset_eq hra
      have hsa := (show ws1[(37 - b)]? = _ from (by rw [ews1]; exact hset_ne (by omega))).trans hsa
      refine lv_aload_n hx hb dX8_keep_57 rfl (lv_at hl 0 rfl) ?_
      refine lv_dup hx hb dX8_keep_58 rfl ?_
      refine va_get (v := .int (nI cnt)) (C := RX8) (T := TX8) (N := 3) hx hb hts (hin_X8 hmc) hown E.1.1 hP 35 h35 rfl 2 (by decide) (hts _ (hmc _ k_157)) (fun _ h9 => h9) rfl dX8_keep_59 ?_
      refine lv_iconst (v := nI 1) hx hb dX8_keep_62 (by decide +kernel) ?_
      refine lv_iadd hx hb dX8_keep_63 ?_
      refine htopi (v := nI (cnt + 1)) (nI_add _ _) ?_
      refine va_put (v := .int (nI (cnt + 1))) (ty := .int) (C := RX8) (T := TX8) (N := 3) hx hb hts (hin_X8 hmc) tyX8 tyX8_ok nmX8 hown E.1.1 hP hD hS 35 h35 rfl 2 (by decide) (hts _ (hmc _ k_157)) (fun _ h9 => h9) rfl (by decide +kernel) rfl rfl (Nat.le_of_ble_eq_true rfl) dX8_keep_64 (fun H locs hP hD hS => ?_)
      obtain ⟨ws2, ews2⟩ : ∃ zw : va_W, zw = List.set ws1 35 ((ad 35), .inr (iU, [.ref ra, .ref sa, .int (nI (cnt + 1))])) := ⟨_, rfl⟩
      have hP : va_P D vwCl ws2 H := by rw [ews2]; exact hP
      have hD : va_D A ws2 := by rw [ews2]; exact hD
      have h35 : ws2[35]? = some ((ad 35), .inr (iU, [.ref ra, .ref sa, .int (nI (cnt + 1))])) := by rw [ews2]; exact hset_eq h35
      have hra := (show ws2[(36 + b)]? = _ from (by rw [ews2]; exact hset_ne (by omega))).trans hra
      have hsa := (show ws2[(37 - b)]? = _ from (by rw [ews2]; exact hset_ne (by omega))).trans hsa
      refine W.widen (k := (hQc (hLf L (min (cnt + 1) 20000)) - hQc L)) (n := (hQs (hLf L (min (cnt + 1) 20000)) - hQs L)) (Nat.zero_le _) (Nat.zero_le _) ?_
      subst hAe
      exact W.vret hx hb hr (fun t ht _ => ⟨⟨ws2, rfl, ⟨by rw [ews2, ews1]; exact (hAg.rf.set (by omega) (by omega)).set (by omega) (by omega), ra, by rw [e1, eL]; exact ⟨h35, ⟨_, hra⟩, _, hsa⟩⟩, by rw [ht]; exact hP, hD⟩, hS.F ht⟩) hS.2.2 dX8_keep_67
    · have hc3 : L = cnt := by
        rcases Nat.lt_or_ge cnt L with z | z
        · exact absurd (nI_lt z (by omega)) c2
        · omega
      subst hc3
      obtain ⟨hn1, hn2, hn3, hn4⟩ := hLv_nx hLL hc2
      have hn5 : hNx L ≤ 20000 := Nat.min_le_right _ _
      have eL : hLf L (L + 1) = hNx L := (if_neg (by omega)).trans (hLw_nx hLL hc2)
      have hq1 : hQc (hLf L (min (L + 1) 20000)) - hQc L = 1 := by rw [e1, eL]; omega
      have hq2 : hQs (hLf L (min (L + 1) 20000)) - hQs L = hNx L := by rw [e1, eL]; omega
      refine lv_aload_n hx hb dX8_keep_23 rfl (lv_at hl 0 rfl) ?_
      refine lv_aload_n hx hb dX8_keep_24 rfl (lv_at hl 0 rfl) ?_
      refine va_get (v := .ref ra) (C := RX8) (T := TX8) (N := 3) hx hb hts (hin_X8 hmc) hown E.1.1 hP 35 h35 rfl 0 (by decide) (hts _ (hmc _ k_155)) (fun _ h9 => h9) rfl dX8_keep_25 ?_
      refine lv_iconst (v := nI 2) hx hb dX8_keep_28 (by decide +kernel) ?_
      refine lv_aload_n hx hb dX8_keep_29 rfl (lv_at hl 0 rfl) ?_
      refine va_get (v := .ref ra) (C := RX8) (T := TX8) (N := 3) hx hb hts (hin_X8 hmc) hown E.1.1 hP 35 h35 rfl 0 (by decide) (hts _ (hmc _ k_155)) (fun _ h9 => h9) rfl dX8_keep_30 ?_
      refine va_alen (v := nI L) hx hb E.1.1 hP (36 + b) 1 hra rfl rfl dX8_keep_33 ?_
      refine lv_imul hx hb dX8_keep_34 ?_
      refine htopi (v := nI (2 * L)) (pk_mul _ _) ?_
      refine lv_sipush (v := nI 20000) hx hb dX8_keep_35 (by decide +kernel) ?_
      refine va_mmin hx hb (hml.trans hl.1.symm) hown (hts _ (hmc _ k_488)) (hts _ (hmc _ k_489)) (hts _ (hmc _ k_30)) (hts _ (hmc _ k_490)) (Nat.le_of_ble_eq_true rfl) (Nat.le_of_ble_eq_true rfl) (Nat.zero_le _) (Nat.zero_le _) dX8_keep_38 ?_
      refine htopi (v := nI (hNx L)) (hmini (by omega) (by omega)) ?_
      refine hc_r E hD hS (va_runS (As := [.ref ra, .int (nI (hNx L))]) (rest := [.ref (ad 35)]) ⟨hx, hb, hml, hown, hts⟩ ((c_JA_copyOf l D K tv ws (36 + b) ra L (hNx L) fr hra hn2 hn5) H.size) (va_cwS 2 hts (hGS hmc k_491 k_492 k_34 k_493) rfl rfl rfl (by decide +kernel) ⟨Nat.le_of_ble_eq_true rfl, Nat.le_of_ble_eq_true rfl⟩) (hpre E hP hD hS) rfl rfl hl.1 rfl (lv_room (Nat.le_of_ble_eq_true rfl)) dX8_keep_41 ⟨(by show 0 + 1 ≤ hQc _ - _; rw [hq1]; omega), (by show 0 + hNx L ≤ hQs _ - _; rw [hq2]; omega)⟩) (fun r4 ws3 H locs hp hP hD hS => ?_)
      obtain ⟨f1, ews⟩ := hp
      rw [ews] at hP hD
      obtain ⟨hP, hD⟩ := hrepl (36 + b) hP hD
      obtain ⟨wsn, ewsn⟩ : ∃ zw : va_W, zw = List.set ws (36 + b) (r4, .inl (K 1, hNx L, .inr (.inl f1))) := ⟨_, rfl⟩
      have hP : va_P D vwCl wsn H := by rw [ewsn]; exact hP
      have hD : va_D A wsn := by rw [ewsn]; exact hD
      have h35 : wsn[35]? = _ := (show wsn[35]? = ws[35]? by rw [ewsn]; exact hset_ne (by omega)).trans h35
      have hsa : wsn[37 - b]? = _ := (show wsn[37 - b]? = ws[37 - b]? by rw [ewsn]; exact hset_ne (by omega)).trans hsa
      have hra : wsn[36 + b]? = some (r4, .inl (K 1, hNx L, .inr (.inl f1))) := by rw [ewsn]; exact hset_eq hra
      refine va_put (v := .ref r4) (ty := .array .long) (C := RX8) (T := TX8) (N := 3) hx hb hts (hin_X8 hmc) tyX8 tyX8_ok nmX8 hown E.1.1 hP hD hS 35 h35 rfl 0 (by decide) (hts _ (hmc _ k_155)) (fun _ h9 => h9) rfl (by decide +kernel) rfl rfl (Nat.le_of_ble_eq_true rfl) dX8_keep_44 (fun H locs hP hD hS => ?_)
      obtain ⟨ws5, ews5⟩ : ∃ zw : va_W, zw = List.set wsn 35 ((ad 35), .inr (iU, [.ref r4, .ref sa, .int (nI L)])) := ⟨_, rfl⟩
      have hP : va_P D vwCl ws5 H := by rw [ews5]; exact hP
      have hD : va_D A ws5 := by rw [ews5]; exact hD
      have h35 : ws5[35]? = some ((ad 35), .inr (iU, [.ref r4, .ref sa, .int (nI L)])) := by rw [ews5]; exact hset_eq h35
      have hsa := (show ws5[(37 - b)]? = _ from (by rw [ews5]; exact hset_ne (by omega))).trans hsa
      have hra := (show ws5[(36 + b)]? = _ from (by rw [ews5]; exact hset_ne (by omega))).trans hra
      have hagn : hAg 35 38 ws ws5 := by rw [ews5, ewsn]; exact (hAg.rf.set (by omega) (by omega)).set (by omega) (by omega)
      refine lv_aload_n hx hb dX8_keep_47 rfl (lv_at hl 0 rfl) ?_
      refine va_get (v := .ref r4) (C := RX8) (T := TX8) (N := 3) hx hb hts (hin_X8 hmc) hown E.1.1 hP 35 h35 rfl 0 (by decide) (hts _ (hmc _ k_155)) (fun _ h9 => h9) rfl dX8_keep_48 ?_
      refine lv_aload_n hx hb dX8_keep_51 rfl (lv_at hl 0 rfl) ?_
      refine va_get (v := .int (nI L)) (C := RX8) (T := TX8) (N := 3) hx hb hts (hin_X8 hmc) hown E.1.1 hP 35 h35 rfl 2 (by decide) (hts _ (hmc _ k_157)) (fun _ h9 => h9) rfl dX8_keep_52 ?_
      refine lv_lload_n hx hb dX8_keep_55 rfl (lv_at hl 1 rfl) ?_
      refine va_last hx hb E.1.1 hP hD hS (36 + b) 1 hra rfl (vp_in_nI (by omega) (by omega)) dX8_keep_56 (fun H locs hP hD hS => ?_)
      rw [nI_clamp (show L < 2 ^ 31 by omega)] at hP hD
      obtain ⟨ws6, ews6⟩ : ∃ zw : va_W, zw = List.set ws5 (36 + b) (r4, .inl (K 1, (hNx L), .inr (.inl (vp_updL f1 L x)))) := ⟨_, rfl⟩
      have hP : va_P D vwCl ws6 H := by rw [ews6]; exact hP
      have hD : va_D A ws6 := by rw [ews6]; exact hD
      have h35 := (show ws6[35]? = _ from (by rw [ews6]; exact hset_ne (by omega))).trans h35
      have hsa := (show ws6[(37 - b)]? = _ from (by rw [ews6]; exact hset_ne (by omega))).trans hsa
      have hra : ws6[(36 + b)]? = some (r4, .inl (K 1, (hNx L), .inr (.inl (vp_updL f1 L x)))) := by rw [ews6]; exact hset_eq hra
      refine lv_aload_n hx hb dX8_keep_57 rfl (lv_at hl 0 rfl) ?_
      refine lv_dup hx hb dX8_keep_58 rfl ?_
      refine va_get (v := .int (nI L)) (C := RX8) (T := TX8) (N := 3) hx hb hts (hin_X8 hmc) hown E.1.1 hP 35 h35 rfl 2 (by decide) (hts _ (hmc _ k_157)) (fun _ h9 => h9) rfl dX8_keep_59 ?_
      refine lv_iconst (v := nI 1) hx hb dX8_keep_62 (by decide +kernel) ?_
      refine lv_iadd hx hb dX8_keep_63 ?_
      refine htopi (v := nI (L + 1)) (nI_add _ _) ?_
      refine va_put (v := .int (nI (L + 1))) (ty := .int) (C := RX8) (T := TX8) (N := 3) hx hb hts (hin_X8 hmc) tyX8 tyX8_ok nmX8 hown E.1.1 hP hD hS 35 h35 rfl 2 (by decide) (hts _ (hmc _ k_157)) (fun _ h9 => h9) rfl (by decide +kernel) rfl rfl (Nat.le_of_ble_eq_true rfl) dX8_keep_64 (fun H locs hP hD hS => ?_)
      obtain ⟨ws7, ews7⟩ : ∃ zw : va_W, zw = List.set ws6 35 ((ad 35), .inr (iU, [.ref r4, .ref sa, .int (nI (L + 1))])) := ⟨_, rfl⟩
      have hP : va_P D vwCl ws7 H := by rw [ews7]; exact hP
      have hD : va_D A ws7 := by rw [ews7]; exact hD
      have h35 : ws7[35]? = some ((ad 35), .inr (iU, [.ref r4, .ref sa, .int (nI (L + 1))])) := by rw [ews7]; exact hset_eq h35
      have hsa := (show ws7[(37 - b)]? = _ from (by rw [ews7]; exact hset_ne (by omega))).trans hsa
      have hra := (show ws7[(36 + b)]? = _ from (by rw [ews7]; exact hset_ne (by omega))).trans hra
      refine W.widen (k := hQc (hLf L (min (L + 1) 20000)) - hQc L) (n := hQs (hLf L (min (L + 1) 20000)) - hQs L) (by show 0 + 1 ≤ _; rw [hq1]; omega) (by show 0 + hNx L ≤ _; rw [hq2]; omega) ?_
      subst hAe
      exact W.vret hx hb hr (fun t ht _ => ⟨⟨ws7, rfl, ⟨by rw [ews7, ews6]; exact (hagn.set (by omega) (by omega)).set (by omega) (by omega), r4, by rw [e1, eL]; exact ⟨h35, ⟨_, hra⟩, _, hsa⟩⟩, by rw [ht]; exact hP, hD⟩, hS.F ht⟩) hS.2.2 dX8_keep_67
  · have hc2 : cnt = 20000 := by
      rcases Nat.lt_or_ge cnt 20000 with z | z
      · exact absurd (nI_lt z (by decide)) c1
      · omega
    have e1 : (min (cnt + 1) 20000) = cnt := by omega
    have eL : hLf L cnt = L := if_pos hcL
    refine W.widen (k := (hQc (hLf L (min (cnt + 1) 20000)) - hQc L)) (n := (hQs (hLf L (min (cnt + 1) 20000)) - hQs L)) (Nat.zero_le _) (Nat.zero_le _) ?_
    subst hAe
    exact W.vret hx hb hr (fun t ht _ => ⟨⟨ws, rfl, ⟨hAg.rf, ra, by rw [e1, eL]; exact hso⟩, by rw [ht]; exact hP, hD⟩, hS.F ht⟩) hS.2.2 dX8_keep_10
