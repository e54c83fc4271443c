set_option maxHeartbeats 4000000 in
set_option maxRecDepth 100000 in
/-- the reference: estimated -/
theorem c_X9_estimated (l : Launch) (D : va_G) (K : Nat → ClassId) (tv : Nat) (ws : va_W) (ad : Nat → Nat) (f : Nat → Nat → Int32) (ct pt md : Nat) (lz : Int64) (kp : Nat) (fd : Int32) (hrx : hRX K ad ws f ct pt md lz kp fd) (hp6 : pt ≤ 6) (hc6 : ct ≤ 640) (S : Nat → Nat → Nat → Prop) (I : Nat → Nat → Nat) (hT : hRT (f 1) S ct) (hIt : hRI (f 2) pt I) (hca : hCa (f 4) S I pt) (p9 : Nat) (hp9 : p9 < pt) (kn : Nat) : hI l D (hTy K) tv yX9_estimated cX9_estimated 5 (some .int) ({ frames := 3, cells := 0, slots := 0, locals := 180 }) [.ref (ad 0), .int (nI p9), .int (nI kn)] ws (fun r ws1 => r = nI (hes (I p9) (hNd S (I p9)) (hNN S (I p9)) (nI kn)) ∧ ∃ f4, hRX K ad ws1 (hup f 4 f4) ct pt md lz kp fd ∧ hCa f4 S I pt) := by
  intro sz
  refine Met.ofW (cc := cX9_estimated) (maxL := 5) (ret := (some .int)) (by decide) rfl ?_
  intro p e s m args below meth c s₁ B hml hv0
  obtain ⟨rfl, rfl, E, hP, hD⟩ := hentry hv0
  have hx := B.exec
  have hb := B.bytes
  have hr := B.returns
  have hts := atoms_spec (ws := hC yX9_estimated cX9_estimated 5 (some .int)) B.pre
  have hown : s.vm.findClass RX9 = some m.cls := findClass_of_methodNamed B.named
  have hlocks := B.notSynchronized
  generalize hAe : va_A ws s.heap.size = A at hD E ⊢
  have hl := lv_entry ([.ref (ad 0), .int (nI p9), .int (nI kn)]) (n := 5) (Nat.le_of_ble_eq_true rfl)
  rw [lg_entry_eq]
  generalize (lg_sl ([.ref (ad 0), .int (nI p9), .int (nI kn)]) ++ List.replicate (5 - (lg_sl ([.ref (ad 0), .int (nI p9), .int (nI kn)])).length) Slot.unset).toArray = ls at hl ⊢
  have hl : lv_has ls 5 [(0, .ref (ad 0)), (1, .int (nI p9)), (2, .int (nI kn))] := hl
  refine hat0 (fun H hHe => ?_)
  have hP : va_P D vwCl ws H := by rw [hHe]; exact hP
  have hS : va_S A s.heap H [] := by rw [hHe]; exact va_S.rf
  have g0 := hrx.1
  have g4 : ws[4]? = some (ad 4, .inl (K 0, 1536, .inl (f 4))) := hrx.2 4 (by decide) (by decide)
  have hJt := hIt p9 hp9
  have hJ72 : ∀ q, q < 3 → I p9 q < 72 := fun q hq => (hJt q hq).2
  refine lv_iload_n hx hb dX9_estimated_0 rfl (lv_at hl 2 rfl) ?_
  refine lv_aload_n hx hb dX9_estimated_1 rfl (lv_at hl 0 rfl) ?_
  refine lv_iload_n hx hb dX9_estimated_2 rfl (lv_at hl 1 rfl) ?_
  refine hc_i E hD hS (va_runV (As := [.int (nI p9)]) (rest := [.int (nI kn)]) ⟨hx, hb, hml, hown, hts⟩ ((c1_variables l D K tv ws ad f ct pt md lz kp fd hrx p9 (by omega) (I p9) hJt) H.size) (cwV 1 hts (hGV hmc k_690 k_692 k_11 k_29 k_693) rfl rfl rfl (by decide +kernel) ⟨Nat.le_of_ble_eq_true rfl, Nat.le_of_ble_eq_true rfl⟩) (hpreV E hP hD hS g0 rfl) rfl rfl hl.1 rfl (lv_room (Nat.le_of_ble_eq_true rfl)) dX9_estimated_3 ⟨(Nat.le_refl _), (Nat.le_refl _)⟩) (fun r2 ws1 H locs hp hP hD hS => ?_)
  obtain ⟨rfl, rfl⟩ := hp
  obtain ⟨v, hv, hve⟩ : ∃ v, v < 256 ∧ v = kn &&& hvm (I p9) 3 := ⟨_, Nat.lt_of_le_of_lt Nat.and_le_right (hvm_lt (I p9) hJ72 3 (Nat.le_refl _)), rfl⟩
  have hown9 : hes (I p9) (hNd S (I p9)) (hNN S (I p9)) (nI v) = hes (I p9) (hNd S (I p9)) (hNN S (I p9)) (nI kn) := by rw [hve]; exact hes_own hJ72
  refine lv_iand hx hb dX9_estimated_6 ?_
  refine htopi (v := nI v) (by rw [hve]; exact hiand _ _) ?_
  refine lv_istore_n (lv' := [(3, .int (nI v)), (0, .ref (ad 0)), (1, .int (nI p9)), (2, .int (nI kn))]) hx hb dX9_estimated_7 rfl hl (by decide) rfl (fun ls hl => ?_)
  refine lv_sipush (v := nI 256) hx hb dX9_estimated_8 (by decide +kernel) ?_
  refine lv_iload_n hx hb dX9_estimated_11 rfl (lv_at hl 2 rfl) ?_
  refine lv_imul hx hb dX9_estimated_12 ?_
  refine htopi (v := nI (256 * p9)) (pk_mul _ _) ?_
  refine lv_iload_n hx hb dX9_estimated_13 rfl (lv_at hl 0 rfl) ?_
  refine lv_iadd hx hb dX9_estimated_14 ?_
  refine htopi (v := nI ((256 * p9) + v)) (nI_add _ _) ?_
  refine lv_istore (lv' := [(4, .int (nI ((256 * p9) + v))), (3, .int (nI v)), (0, .ref (ad 0)), (1, .int (nI p9)), (2, .int (nI kn))]) hx hb dX9_estimated_15 hl (by decide) rfl (fun ls hl => ?_)
  refine lv_aload_n hx hb dX9_estimated_17 rfl (lv_at hl 2 rfl) ?_
  refine va_get (v := .ref (ad 4)) (C := RX9) (T := TX9) (N := 18) hx hb hts (hin_X9 hmc) hown E.1.1 hP 0 g0 rfl 6 (by decide) (hts _ (hmc _ k_575)) (fun _ h9 => h9) rfl dX9_estimated_18 ?_
  refine lv_iload hx hb dX9_estimated_21 (lv_at hl 0 rfl) ?_
  refine va_iald hx hb E.1.1 hP 4 0 g4 rfl (vp_in_nI (by omega) (by omega)) dX9_estimated_23 ?_
  refine htopi (v := (f 4) ((256 * p9) + v)) (by rw [nI_clamp (by omega)]) ?_
  refine lv_if_ge (tgt := 40) hx hb dX9_estimated_24 (by decide) (fun c1 => ?_) (fun c1 => ?_)
  · refine lv_aload_n hx hb dX9_estimated_40 rfl (lv_at hl 2 rfl) ?_
    refine va_get (v := .ref (ad 4)) (C := RX9) (T := TX9) (N := 18) hx hb hts (hin_X9 hmc) hown E.1.1 hP 0 g0 rfl 6 (by decide) (hts _ (hmc _ k_575)) (fun _ h9 => h9) rfl dX9_estimated_41 ?_
    refine lv_iload hx hb dX9_estimated_44 (lv_at hl 0 rfl) ?_
    refine va_iald hx hb E.1.1 hP 4 0 g4 rfl (vp_in_nI (by omega) (by omega)) dX9_estimated_46 ?_
    refine htopi (v := (f 4) ((256 * p9) + v)) (by rw [nI_clamp (by omega)]) ?_
    subst hAe
    exact W.iret (v := (f 4) ((256 * p9) + v)) hx hb hr (fun t ht _ => ⟨⟨(f 4) ((256 * p9) + v), ws, rfl, ⟨by rw [← hown9]; exact (hca p9 hp9 v hv).resolve_left (fun z => absurd z (Int32.not_lt.mpr c1)), f 4, by rw [hup_id]; exact hrx, hca⟩, by rw [ht]; exact hP, hD⟩, hS.F ht⟩) hS.2.2 dX9_estimated_47
  · refine lv_aload_n hx hb dX9_estimated_27 rfl (lv_at hl 2 rfl) ?_
    refine va_get (v := .ref (ad 4)) (C := RX9) (T := TX9) (N := 18) hx hb hts (hin_X9 hmc) hown E.1.1 hP 0 g0 rfl 6 (by decide) (hts _ (hmc _ k_575)) (fun _ h9 => h9) rfl dX9_estimated_28 ?_
    refine lv_iload hx hb dX9_estimated_31 (lv_at hl 0 rfl) ?_
    refine lv_aload_n hx hb dX9_estimated_33 rfl (lv_at hl 2 rfl) ?_
    refine lv_iload_n hx hb dX9_estimated_34 rfl (lv_at hl 3 rfl) ?_
    refine lv_iload_n hx hb dX9_estimated_35 rfl (lv_at hl 1 rfl) ?_
    refine hc_i E hD hS (va_runV (As := [.int (nI p9), .int (nI v)]) (rest := [.int (nI ((256 * p9) + v)), .ref (ad 4)]) ⟨hx, hb, hml, hown, hts⟩ ((c0_estimate l D K tv ws ad f ct pt md lz kp fd hrx hp6 hc6 S I hT hIt (nI p9) (nI v)) H.size) (cwV 2 hts (hGV hmc k_694 k_655 k_656 k_29 k_657) rfl rfl rfl (by decide +kernel) ⟨Nat.le_of_ble_eq_true rfl, Nat.le_of_ble_eq_true rfl⟩) (hpreV E hP hD hS g0 rfl) rfl rfl hl.1 rfl (lv_room (Nat.le_of_ble_eq_true rfl)) dX9_estimated_36 ⟨(Nat.le_refl _), (Nat.le_refl _)⟩) (fun r4 ws3 H locs hp hP hD hS => ?_)
    obtain ⟨rfl, hp⟩ := hp
    have hr9 : r4 = nI (hes (I p9) (hNd S (I p9)) (hNN S (I p9)) (nI v)) := by
      rcases hp with ⟨z, -⟩ | ⟨i9, hi9, e, hr⟩
      · exact absurd ⟨_, hp9, rfl⟩ z
      · obtain rfl := (nI_eq (by omega) (by omega)).mp e
        exact hr
    refine va_iast hx hb E.1.1 hP hD hS 4 0 g4 rfl (vp_in_nI (by omega) (by omega)) dX9_estimated_39 (fun H locs hP hD hS => ?_)
    rw [nI_clamp (show ((256 * p9) + v) < 2 ^ 31 by omega)] at hP hD
    obtain ⟨ws5, ews5⟩ : ∃ zw : va_W, zw = List.set ws 4 ((ad 4), .inl (K 0, 1536, .inl (upd (f 4) ((256 * p9) + v) r4))) := ⟨_, rfl⟩
    have hP : va_P D vwCl ws5 H := by rw [ews5]; exact hP
    have hD : va_D A ws5 := by rw [ews5]; exact hD
    have g0 := (show ws5[0]? = _ from (by rw [ews5]; exact hset_ne (by omega))).trans g0
    have g4 : ws5[4]? = some ((ad 4), .inl (K 0, 1536, .inl (upd (f 4) ((256 * p9) + v) r4))) := by rw [ews5]; exact hset_eq g4
    have hrx : hRX K ad ws5 (hup f 4 (upd (f 4) ((256 * p9) + v) r4)) ct pt md lz kp fd := by rw [ews5]; exact hrx.arr 4 (by decide) (by decide) _
    refine lv_aload_n hx hb dX9_estimated_40 rfl (lv_at hl 2 rfl) ?_
    refine va_get (v := .ref (ad 4)) (C := RX9) (T := TX9) (N := 18) hx hb hts (hin_X9 hmc) hown E.1.1 hP 0 g0 rfl 6 (by decide) (hts _ (hmc _ k_575)) (fun _ h9 => h9) rfl dX9_estimated_41 ?_
    refine lv_iload hx hb dX9_estimated_44 (lv_at hl 0 rfl) ?_
    refine va_iald hx hb E.1.1 hP 4 0 g4 rfl (vp_in_nI (by omega) (by omega)) dX9_estimated_46 ?_
    refine htopi (v := (upd (f 4) ((256 * p9) + v) r4) ((256 * p9) + v)) (by rw [nI_clamp (by omega)]) ?_
    subst hAe
    exact W.iret (v := (upd (f 4) ((256 * p9) + v) r4) ((256 * p9) + v)) hx hb hr (fun t ht _ => ⟨⟨(upd (f 4) ((256 * p9) + v) r4) ((256 * p9) + v), ws5, rfl, ⟨by rw [pk_us, hr9, hown9], _, hrx, hca.set hv hr9⟩, by rw [ht]; exact hP, hD⟩, hS.F ht⟩) hS.2.2 dX9_estimated_47

set_option maxHeartbeats 4000000 in
set_option maxRecDepth 100000 in
/-- the reference: costOf -/
theorem c_X9_costOf (l : Launch) (D : va_G) (K : Nat → ClassId) (tv : Nat) (ws : va_W) (ad : Nat → Nat) (f : Nat → Nat → Int32) (ct pt md : Nat) (lz : Int64) (kp : Nat) (fd : Int32) (hrx : hRX K ad ws f ct pt md lz kp fd) (hp6 : pt ≤ 6) (hc6 : ct ≤ 640) (S : Nat → Nat → Nat → Prop) (I : Nat → Nat → Nat) (hT : hRT (f 1) S ct) (hIt : hRI (f 2) pt I) (hca : hCa (f 4) S I pt) (tq : Nat → Nat) (hr5 : ∀ k, k < pt → tq k < pt ∧ f 5 k = nI (tq k)) : hL l D (hTy K) tv yX9_costOf cX9_costOf 8 (some .long) ({ frames := 4, cells := 0, slots := 0, locals := 240 }) [.ref (ad 0), .ref (ad 5)] ws (fun r ws1 => r = lN (hCk S I tq pt).2.1 ∧ ∃ f4, hRX K ad ws1 (hup f 4 f4) ct pt md lz kp fd ∧ hCa f4 S I pt) := by
  intro sz
  refine Met.ofW (cc := cX9_costOf) (maxL := 8) (ret := (some .long)) (by decide) rfl ?_
  intro p e s m args below meth c s₁ B hml hv0
  obtain ⟨rfl, rfl, E, hP, hD⟩ := hentry hv0
  have hx := B.exec
  have hb := B.bytes
  have hr := B.returns
  have hts := atoms_spec (ws := hC yX9_costOf cX9_costOf 8 (some .long)) B.pre
  have hown : s.vm.findClass RX9 = some m.cls := findClass_of_methodNamed B.named
  have hlocks := B.notSynchronized
  generalize hAe : va_A ws s.heap.size = A at hD E ⊢
  have hl := lv_entry ([.ref (ad 0), .ref (ad 5)]) (n := 8) (Nat.le_of_ble_eq_true rfl)
  rw [lg_entry_eq]
  generalize (lg_sl ([.ref (ad 0), .ref (ad 5)]) ++ List.replicate (8 - (lg_sl ([.ref (ad 0), .ref (ad 5)])).length) Slot.unset).toArray = ls at hl ⊢
  have hl : lv_has ls 8 [(0, .ref (ad 0)), (1, .ref (ad 5))] := hl
  refine hat0 (fun H hHe => ?_)
  have hP : va_P D vwCl ws H := by rw [hHe]; exact hP
  have hS : va_S A s.heap H [] := by rw [hHe]; exact va_S.rf
  refine lv_lconst (v := lN 1) hx hb dX9_costOf_0 (by decide +kernel) ?_
  refine lv_lstore_n (lv' := [(2, .long (lN 1)), (0, .ref (ad 0)), (1, .ref (ad 5))]) hx hb dX9_costOf_1 rfl hl (by decide) rfl (fun ls hl => ?_)
  refine lv_lconst (v := lN 0) hx hb dX9_costOf_2 (by decide +kernel) ?_
  refine lv_lstore (lv' := [(4, .long (lN 0)), (2, .long (lN 1)), (0, .ref (ad 0)), (1, .ref (ad 5))]) hx hb dX9_costOf_3 hl (by decide) rfl (fun ls hl => ?_)
  refine lv_iconst (v := nI 0) hx hb dX9_costOf_5 (by decide +kernel) ?_
  refine lv_istore (lv' := [(6, .int (nI 0)), (4, .long (lN 0)), (2, .long (lN 1)), (0, .ref (ad 0)), (1, .ref (ad 5))]) hx hb dX9_costOf_6 hl (by decide) rfl (fun ls hl => ?_)
  refine lv_iconst (v := nI 0) hx hb dX9_costOf_8 (by decide +kernel) ?_
  refine lv_istore (lv' := [(7, .int (nI 0)), (6, .int (nI 0)), (4, .long (lN 0)), (2, .long (lN 1)), (0, .ref (ad 0)), (1, .ref (ad 5))]) hx hb dX9_costOf_9 hl (by decide) rfl (fun ls hl => ?_)
  refine hloopW (α := Nat) 11 8 (fun k => [(7, .int (nI k)), (6, .int (nI (hCk S I tq k).2.2)), (4, .long (lN (hCk S I tq k).2.1)), (2, .long (lN (hCk S I tq k).1)), (0, .ref (ad 0)), (1, .ref (ad 5))]) (fun k w9 => k ≤ pt ∧ ∃ f4, hRX K ad w9 (hup f 4 f4) ct pt md lz kp fd ∧ hCa f4 S I pt) (fun k => pt - k) (fun _ => 0) (fun _ => 0) ?_ 0 ⟨Nat.zero_le _, f 4, by rw [hup_id]; exact hrx, hca⟩ hP hD hS (lv_sub hl [0, 1, 2, 3, 4, 5] rfl)
  rintro k w9 H locs ls hI9 hP hD hS hl ih
  obtain ⟨hk, f4, hrx, hca4⟩ := hI9
  have hl : lv_has ls 8 [(7, .int (nI k)), (6, .int (nI (hCk S I tq k).2.2)), (4, .long (lN (hCk S I tq k).2.1)), (2, .long (lN (hCk S I tq k).1)), (0, .ref (ad 0)), (1, .ref (ad 5))] := hl
  have hsz := hCk_le S I tq k
  have g0 := hrx.1
  have g5 : w9[5]? = some (ad 5, .inl (K 0, 6, .inl ((hup f 4 f4) 5))) := hrx.2 5 (by decide) (by decide)
  refine lv_iload hx hb dX9_costOf_11 (lv_at hl 0 rfl) ?_
  refine lv_aload_n hx hb dX9_costOf_13 rfl (lv_at hl 4 rfl) ?_
  refine va_get (v := .int (nI pt)) (C := RX9) (T := TX9) (N := 18) hx hb hts (hin_X9 hmc) hown E.1.1 hP 0 g0 rfl 3 (by decide) (hts _ (hmc _ k_572)) (fun _ h9 => h9) rfl dX9_costOf_14 ?_
  refine lv_icmp_ge (tgt := 78) hx hb dX9_costOf_17 (by decide) (fun c1 => ?_) (fun c1 => ?_)
  · have hkp : k = pt := by
      have := (nI_leI (by omega) (by omega)).mp c1
      omega
    refine lv_lload hx hb dX9_costOf_78 (lv_at hl 2 rfl) ?_
    subst hAe
    exact W.lret (v := lN (hCk S I tq k).2.1) hx hb hr (fun t ht _ => ⟨⟨lN (hCk S I tq k).2.1, w9, rfl, ⟨by rw [hkp], f4, hrx, hca4⟩, by rw [ht]; exact hP, hD⟩, hS.F ht⟩) hS.2.2 dX9_costOf_80
  · have hk2 : k < pt := Nat.not_le.mp (fun z => c1 (nI_le z (by omega)))
    obtain ⟨hq, eq⟩ := hr5 k hk2
    have eq : (hup f 4 f4) 5 k = nI (tq k) := eq
    refine lv_lload_n hx hb dX9_costOf_20 rfl (lv_at hl 3 rfl) ?_
    refine lv_aload_n hx hb dX9_costOf_21 rfl (lv_at hl 4 rfl) ?_
    refine lv_aload_n hx hb dX9_costOf_22 rfl (lv_at hl 5 rfl) ?_
    refine lv_iload hx hb dX9_costOf_23 (lv_at hl 0 rfl) ?_
    refine va_iald hx hb E.1.1 hP 5 0 g5 rfl (vp_in_nI (by omega) (by omega)) dX9_costOf_25 ?_
    refine htopi (v := ((hup f 4 f4) 5) k) (by rw [nI_clamp (by omega)]) ?_
    refine htopi (v := nI (tq k)) (eq) ?_
    refine lv_iload hx hb dX9_costOf_26 (lv_at hl 1 rfl) ?_
    refine hc_i E hD hS (va_runV (As := [.int (nI (tq k)), .int (nI (hCk S I tq k).2.2)]) (rest := [.long (lN (hCk S I tq k).1)]) ⟨hx, hb, hml, hown, hts⟩ ((c_X9_estimated l D K tv w9 ad (hup f 4 f4) ct pt md lz kp fd hrx hp6 hc6 S I hT hIt hca4 (tq k) hq (hCk S I tq k).2.2) H.size) (cwV 2 hts (hGV hmc k_686 k_688 k_10 k_29 k_689) rfl rfl rfl (by decide +kernel) ⟨Nat.le_of_ble_eq_true rfl, Nat.le_of_ble_eq_true rfl⟩) (hpreV E hP hD hS g0 rfl) rfl rfl hl.1 rfl (lv_room (Nat.le_of_ble_eq_true rfl)) dX9_costOf_28 ⟨(Nat.le_refl _), (Nat.le_refl _)⟩) (fun r2 ws1 H locs hp hP hD hS => ?_)
    obtain ⟨hr9, f5, hrx, hca5⟩ := hp
    rw [hup_up] at hrx
    obtain ⟨e9, he9, hq9, hr9⟩ : ∃ e9, e9 ≤ 640 ∧ e9 = hes (I (tq k)) (hNd S (I (tq k))) (hNN S (I (tq k))) (nI (hCk S I tq k).2.2) ∧ r2 = nI e9 := ⟨_, hes_le (hNN_le hT (fun i hi => hIt _ hq i hi) hc6), rfl, hr9⟩
    subst hr9
    have g0 := hrx.1
    have g5 : ws1[5]? = some (ad 5, .inl (K 0, 6, .inl ((hup f 4 f5) 5))) := hrx.2 5 (by decide) (by decide)
    have eq : (hup f 4 f5) 5 k = nI (tq k) := eq
    refine lv_i2l (v := lN e9) hx hb dX9_costOf_31 (nI_l (by omega)) ?_
    refine hc_sl (va_runS (As := [.long (lN (hCk S I tq k).1), .long (lN e9)]) (rest := []) ⟨hx, hb, hml, hown, hts⟩ (c_X9_product l (hCk S I tq k).1 e9 hsz.1 he9) (va_cwS 2 hts (hGS hmc k_695 k_696 k_29 k_697) rfl rfl rfl (by decide +kernel) ⟨Nat.le_of_ble_eq_true rfl, Nat.le_of_ble_eq_true rfl⟩) hpre0 rfl rfl hl.1 rfl (lv_room (Nat.le_of_ble_eq_true rfl)) dX9_costOf_32 ⟨(Nat.le_refl _), (Nat.le_refl _)⟩) (fun r3 hp9 => ?_)
    subst hp9
    refine htopl (v := lN (hCk S I tq (k + 1)).1) (by rw [hq9]; rfl) ?_
    have hs1 := (hCk_le S I tq (k + 1)).1
    have hcs : (hCk S I tq (k + 1)).2.1 = min ((hCk S I tq k).2.1 + (hCk S I tq (k + 1)).1) 1000000000000 := rfl
    refine lv_lstore_n (lv' := [(2, .long (lN (hCk S I tq (k + 1)).1)), (7, .int (nI k)), (6, .int (nI (hCk S I tq k).2.2)), (4, .long (lN (hCk S I tq k).2.1)), (0, .ref (ad 0)), (1, .ref (ad 5))]) hx hb dX9_costOf_35 rfl hl (by decide) rfl (fun ls hl => ?_)
    refine lv_lload hx hb dX9_costOf_36 (lv_at hl 3 rfl) ?_
    refine lv_lload_n hx hb dX9_costOf_38 rfl (lv_at hl 0 rfl) ?_
    refine lv_ladd hx hb dX9_costOf_39 ?_
    refine htopl (v := lN ((hCk S I tq k).2.1 + (hCk S I tq (k + 1)).1)) (lN_add _ _) ?_
    refine lv_ldc2 (v := 1000000000000) hx hb hown (hts _ (hmc _ k_698)) dX9_costOf_40 ?_
    refine W.lcmp hx hb dX9_costOf_43 ?_
    refine lv_if_le (tgt := 53) hx hb dX9_costOf_44 (by decide) (fun c2 => ?_) (fun c2 => ?_)
    · refine lv_lload hx hb dX9_costOf_53 (lv_at hl 3 rfl) ?_
      refine lv_lload_n hx hb dX9_costOf_55 rfl (lv_at hl 0 rfl) ?_
      refine lv_ladd hx hb dX9_costOf_56 ?_
      refine htopl (v := lN ((hCk S I tq k).2.1 + (hCk S I tq (k + 1)).1)) (lN_add _ _) ?_
      refine htopl (v := lN (hCk S I tq (k + 1)).2.1) (by rw [hcs, Nat.min_eq_left ((hlcmp0 (b := 1000000000000) (by omega) (by decide)).mp c2)]) ?_
      refine lv_lstore (lv' := [(4, .long (lN (hCk S I tq (k + 1)).2.1)), (2, .long (lN (hCk S I tq (k + 1)).1)), (7, .int (nI k)), (6, .int (nI (hCk S I tq k).2.2)), (0, .ref (ad 0)), (1, .ref (ad 5))]) hx hb dX9_costOf_57 hl (by decide) rfl (fun ls hl => ?_)
      refine lv_iload hx hb dX9_costOf_59 (lv_at hl 3 rfl) ?_
      refine lv_aload_n hx hb dX9_costOf_61 rfl (lv_at hl 4 rfl) ?_
      refine lv_aload_n hx hb dX9_costOf_62 rfl (lv_at hl 5 rfl) ?_
      refine lv_iload hx hb dX9_costOf_63 (lv_at hl 2 rfl) ?_
      refine va_iald hx hb E.1.1 hP 5 0 g5 rfl (vp_in_nI (by omega) (by omega)) dX9_costOf_65 ?_
      refine htopi (v := ((hup f 4 f5) 5) k) (by rw [nI_clamp (by omega)]) ?_
      refine htopi (v := nI (tq k)) (eq) ?_
      refine hc_i E hD hS (va_runV (As := [.int (nI (tq k))]) (rest := [.int (nI (hCk S I tq k).2.2)]) ⟨hx, hb, hml, hown, hts⟩ ((c1_variables l D K tv ws1 ad (hup f 4 f5) ct pt md lz kp fd hrx (tq k) (by omega) (I (tq k)) (fun i hi => hIt (tq k) hq i hi)) H.size) (cwV 1 hts (hGV hmc k_690 k_692 k_11 k_29 k_693) rfl rfl rfl (by decide +kernel) ⟨Nat.le_of_ble_eq_true rfl, Nat.le_of_ble_eq_true rfl⟩) (hpreV E hP hD hS g0 rfl) rfl rfl hl.1 rfl (lv_room (Nat.le_of_ble_eq_true rfl)) dX9_costOf_66 ⟨(Nat.le_refl _), (Nat.le_refl _)⟩) (fun r5 ws4 H locs hp hP hD hS => ?_)
      obtain ⟨rfl, rfl⟩ := hp
      refine lv_ior hx hb dX9_costOf_69 ?_
      refine htopi (v := nI (hCk S I tq (k + 1)).2.2) (hior _ _) ?_
      refine lv_istore (lv' := [(6, .int (nI (hCk S I tq (k + 1)).2.2)), (4, .long (lN (hCk S I tq (k + 1)).2.1)), (2, .long (lN (hCk S I tq (k + 1)).1)), (7, .int (nI k)), (0, .ref (ad 0)), (1, .ref (ad 5))]) hx hb dX9_costOf_70 hl (by decide) rfl (fun ls hl => ?_)
      refine lv_iinc (v := nI (k + 1)) (lv' := [(7, .int (nI (k + 1))), (6, .int (nI (hCk S I tq (k + 1)).2.2)), (4, .long (lN (hCk S I tq (k + 1)).2.1)), (2, .long (lN (hCk S I tq (k + 1)).1)), (0, .ref (ad 0)), (1, .ref (ad 5))]) hx hb dX9_costOf_72 hl (k := 3) rfl (nI_1 _) (by decide) rfl (fun ls hl => ?_)
      refine lv_goto (tgt := 11) hx hb dX9_costOf_75 (by decide) ?_
      exact ih (k + 1) _ H locs ls ⟨by omega, f5, hrx, hca5⟩ (by omega) hP hD hS (lv_sub hl [0, 1, 2, 3, 4, 5] rfl)
    · refine lv_ldc2 (v := 1000000000000) hx hb hown (hts _ (hmc _ k_698)) dX9_costOf_47 ?_
      refine lv_goto (tgt := 57) hx hb dX9_costOf_50 (by decide) ?_
      refine htopl (v := lN (hCk S I tq (k + 1)).2.1) (by rw [hcs, Nat.min_eq_right (Nat.le_of_lt (Nat.not_le.mp (fun q => c2 ((hlcmp0 (b := 1000000000000) (by omega) (by decide)).mpr q))))]; rfl) ?_
      refine lv_lstore (lv' := [(4, .long (lN (hCk S I tq (k + 1)).2.1)), (2, .long (lN (hCk S I tq (k + 1)).1)), (7, .int (nI k)), (6, .int (nI (hCk S I tq k).2.2)), (0, .ref (ad 0)), (1, .ref (ad 5))]) hx hb dX9_costOf_57 hl (by decide) rfl (fun ls hl => ?_)
      refine lv_iload hx hb dX9_costOf_59 (lv_at hl 3 rfl) ?_
      refine lv_aload_n hx hb dX9_costOf_61 rfl (lv_at hl 4 rfl) ?_
      refine lv_aload_n hx hb dX9_costOf_62 rfl (lv_at hl 5 rfl) ?_
      refine lv_iload hx hb dX9_costOf_63 (lv_at hl 2 rfl) ?_
      refine va_iald hx hb E.1.1 hP 5 0 g5 rfl (vp_in_nI (by omega) (by omega)) dX9_costOf_65 ?_
      refine htopi (v := ((hup f 4 f5) 5) k) (by rw [nI_clamp (by omega)]) ?_
      refine htopi (v := nI (tq k)) (eq) ?_
      refine hc_i E hD hS (va_runV (As := [.int (nI (tq k))]) (rest := [.int (nI (hCk S I tq k).2.2)]) ⟨hx, hb, hml, hown, hts⟩ ((c1_variables l D K tv ws1 ad (hup f 4 f5) ct pt md lz kp fd hrx (tq k) (by omega) (I (tq k)) (fun i hi => hIt (tq k) hq i hi)) H.size) (cwV 1 hts (hGV hmc k_690 k_692 k_11 k_29 k_693) rfl rfl rfl (by decide +kernel) ⟨Nat.le_of_ble_eq_true rfl, Nat.le_of_ble_eq_true rfl⟩) (hpreV E hP hD hS g0 rfl) rfl rfl hl.1 rfl (lv_room (Nat.le_of_ble_eq_true rfl)) dX9_costOf_66 ⟨(Nat.le_refl _), (Nat.le_refl _)⟩) (fun r7 ws6 H locs hp hP hD hS => ?_)
      obtain ⟨rfl, rfl⟩ := hp
      refine lv_ior hx hb dX9_costOf_69 ?_
      refine htopi (v := nI (hCk S I tq (k + 1)).2.2) (hior _ _) ?_
      refine lv_istore (lv' := [(6, .int (nI (hCk S I tq (k + 1)).2.2)), (4, .long (lN (hCk S I tq (k + 1)).2.1)), (2, .long (lN (hCk S I tq (k + 1)).1)), (7, .int (nI k)), (0, .ref (ad 0)), (1, .ref (ad 5))]) hx hb dX9_costOf_70 hl (by decide) rfl (fun ls hl => ?_)
      refine lv_iinc (v := nI (k + 1)) (lv' := [(7, .int (nI (k + 1))), (6, .int (nI (hCk S I tq (k + 1)).2.2)), (4, .long (lN (hCk S I tq (k + 1)).2.1)), (2, .long (lN (hCk S I tq (k + 1)).1)), (0, .ref (ad 0)), (1, .ref (ad 5))]) hx hb dX9_costOf_72 hl (k := 3) rfl (nI_1 _) (by decide) rfl (fun ls hl => ?_)
      refine lv_goto (tgt := 11) hx hb dX9_costOf_75 (by decide) ?_
      exact ih (k + 1) _ H locs ls ⟨by omega, f5, hrx, hca5⟩ (by omega) hP hD hS (lv_sub hl [0, 1, 2, 3, 4, 5] rfl)

set_option maxHeartbeats 4000000 in
set_option maxRecDepth 100000 in
/-- the reference: change -/
theorem c_X9_change (l : Launch) (D : va_G) (K : Nat → ClassId) (tv : Nat) (ws : va_W) (ad : Nat → Nat) (f : Nat → Nat → Int32) (ct pt md : Nat) (lz : Int64) (kp : Nat) (fd : Int32) (hrx : hRX K ad ws f ct pt md lz kp fd) (i j : Nat) (hi6 : i < 6) (hj6 : j < 6) : hV l D (hTy K) tv yX9_change cX9_change 4 none ({ frames := 0, cells := 0, slots := 0, locals := 0 }) [.ref (ad 0), .int (nI i), .int (nI j)] ws (fun ws1 => hRX K ad ws1 (hup f 5 (upd (upd (f 5) i (f 5 j)) j (f 5 i))) ct pt md lz kp fd) := by
  intro sz
  refine Met.ofW (cc := cX9_change) (maxL := 4) (ret := none) (by decide) rfl ?_
  intro p e s m args below meth c s₁ B hml hv0
  obtain ⟨rfl, rfl, E, hP, hD⟩ := hentry hv0
  have hx := B.exec
  have hb := B.bytes
  have hr := B.returns
  have hts := atoms_spec (ws := hC yX9_change cX9_change 4 none) B.pre
  have hown : s.vm.findClass RX9 = some m.cls := findClass_of_methodNamed B.named
  have hlocks := B.notSynchronized
  generalize hAe : va_A ws s.heap.size = A at hD E ⊢
  have hl := lv_entry ([.ref (ad 0), .int (nI i), .int (nI j)]) (n := 4) (Nat.le_of_ble_eq_true rfl)
  rw [lg_entry_eq]
  generalize (lg_sl ([.ref (ad 0), .int (nI i), .int (nI j)]) ++ List.replicate (4 - (lg_sl ([.ref (ad 0), .int (nI i), .int (nI j)])).length) Slot.unset).toArray = ls at hl ⊢
  have hl : lv_has ls 4 [(0, .ref (ad 0)), (1, .int (nI i)), (2, .int (nI j))] := hl
  refine hat0 (fun H hHe => ?_)
  have hP : va_P D vwCl ws H := by rw [hHe]; exact hP
  have hS : va_S A s.heap H [] := by rw [hHe]; exact va_S.rf
  have g0 := hrx.1
  have g5 : ws[5]? = some (ad 5, .inl (K 0, 6, .inl (f 5))) := hrx.2 5 (by decide) (by decide)
  refine lv_aload_n hx hb dX9_change_0 rfl (lv_at hl 0 rfl) ?_
  refine va_get (v := .ref (ad 5)) (C := RX9) (T := TX9) (N := 18) hx hb hts (hin_X9 hmc) hown E.1.1 hP 0 g0 rfl 7 (by decide) (hts _ (hmc _ k_576)) (fun _ h9 => h9) rfl dX9_change_1 ?_
  refine lv_iload_n hx hb dX9_change_4 rfl (lv_at hl 1 rfl) ?_
  refine va_iald hx hb E.1.1 hP 5 0 g5 rfl (vp_in_nI (by omega) (by omega)) dX9_change_5 ?_
  refine htopi (v := (f 5) i) (by rw [nI_clamp (by omega)]) ?_
  refine lv_istore_n (lv' := [(3, .int ((f 5) i)), (0, .ref (ad 0)), (1, .int (nI i)), (2, .int (nI j))]) hx hb dX9_change_6 rfl hl (by decide) rfl (fun ls hl => ?_)
  refine lv_aload_n hx hb dX9_change_7 rfl (lv_at hl 1 rfl) ?_
  refine va_get (v := .ref (ad 5)) (C := RX9) (T := TX9) (N := 18) hx hb hts (hin_X9 hmc) hown E.1.1 hP 0 g0 rfl 7 (by decide) (hts _ (hmc _ k_576)) (fun _ h9 => h9) rfl dX9_change_8 ?_
  refine lv_iload_n hx hb dX9_change_11 rfl (lv_at hl 2 rfl) ?_
  refine lv_aload_n hx hb dX9_change_12 rfl (lv_at hl 1 rfl) ?_
  refine va_get (v := .ref (ad 5)) (C := RX9) (T := TX9) (N := 18) hx hb hts (hin_X9 hmc) hown E.1.1 hP 0 g0 rfl 7 (by decide) (hts _ (hmc _ k_576)) (fun _ h9 => h9) rfl dX9_change_13 ?_
  refine lv_iload_n hx hb dX9_change_16 rfl (lv_at hl 3 rfl) ?_
  refine va_iald hx hb E.1.1 hP 5 0 g5 rfl (vp_in_nI (by omega) (by omega)) dX9_change_17 ?_
  refine htopi (v := (f 5) j) (by rw [nI_clamp (by omega)]) ?_
  refine va_iast hx hb E.1.1 hP hD hS 5 0 g5 rfl (vp_in_nI (by omega) (by omega)) dX9_change_18 (fun H locs hP hD hS => ?_)
  rw [nI_clamp (show i < 2 ^ 31 by omega)] at hP hD
  obtain ⟨ws1, ews1⟩ : ∃ zw : va_W, zw = List.set ws 5 ((ad 5), .inl (K 0, 6, .inl (upd (f 5) i ((f 5) j)))) := ⟨_, rfl⟩
  have hP : va_P D vwCl ws1 H := by rw [ews1]; exact hP
  have hD : va_D A ws1 := by rw [ews1]; exact hD
  have g0 := (show ws1[0]? = _ from (by rw [ews1]; exact hset_ne (by omega))).trans g0
  have g5 : ws1[5]? = some ((ad 5), .inl (K 0, 6, .inl (upd (f 5) i ((f 5) j)))) := by rw [ews1]; exact hset_eq g5
  have hrx : hRX K ad ws1 (hup f 5 (upd (f 5) i ((f 5) j))) ct pt md lz kp fd := by rw [ews1]; exact hrx.arr 5 (by decide) (by decide) _
  refine lv_aload_n hx hb dX9_change_19 rfl (lv_at hl 1 rfl) ?_
  refine va_get (v := .ref (ad 5)) (C := RX9) (T := TX9) (N := 18) hx hb hts (hin_X9 hmc) hown E.1.1 hP 0 g0 rfl 7 (by decide) (hts _ (hmc _ k_576)) (fun _ h9 => h9) rfl dX9_change_20 ?_
  refine lv_iload_n hx hb dX9_change_23 rfl (lv_at hl 3 rfl) ?_
  refine lv_iload_n hx hb dX9_change_24 rfl (lv_at hl 0 rfl) ?_
  refine va_iast hx hb E.1.1 hP hD hS 5 0 g5 rfl (vp_in_nI (by omega) (by omega)) dX9_change_25 (fun H locs hP hD hS => ?_)
  rw [nI_clamp (show j < 2 ^ 31 by omega)] at hP hD
  obtain ⟨ws2, ews2⟩ : ∃ zw : va_W, zw = List.set ws1 5 ((ad 5), .inl (K 0, 6, .inl (upd (upd (f 5) i ((f 5) j)) j ((f 5) i)))) := ⟨_, rfl⟩
  have hP : va_P D vwCl ws2 H := by rw [ews2]; exact hP
  have hD : va_D A ws2 := by rw [ews2]; exact hD
  have g0 := (show ws2[0]? = _ from (by rw [ews2]; exact hset_ne (by omega))).trans g0
  have g5 : ws2[5]? = some ((ad 5), .inl (K 0, 6, .inl (upd (upd (f 5) i ((f 5) j)) j ((f 5) i)))) := by rw [ews2]; exact hset_eq g5
  have hrx : hRX K ad ws2 (hup (hup f 5 (upd (f 5) i ((f 5) j))) 5 (upd (upd (f 5) i ((f 5) j)) j ((f 5) i))) ct pt md lz kp fd := by rw [ews2]; exact hrx.arr 5 (by decide) (by decide) _
  rw [hup_up] at hrx
  subst hAe
  exact W.vret hx hb hr (fun t ht _ => ⟨⟨ws2, rfl, hrx, by rw [ht]; exact hP, hD⟩, hS.F ht⟩) hS.2.2 dX9_change_26

set_option maxHeartbeats 4000000 in
set_option maxRecDepth 100000 in
/-- the reference: turn -/
theorem c_X9_turn (l : Launch) (D : va_G) (K : Nat → ClassId) (tv : Nat) (ws : va_W) (ad : Nat → Nat) (f : Nat → Nat → Int32) (ct pt md : Nat) (lz : Int64) (kp : Nat) (fd : Int32) (hrx : hRX K ad ws f ct pt md lz kp fd) (hp6 : pt ≤ 6) (t : Nat → Nat) (hat : hAt5 (f 5) t pt) (hpm : hPm t pt) : hI l D (hTy K) tv yX9_turn cX9_turn 4 (some .boolean) ({ frames := 1, cells := 0, slots := 0, locals := 60 }) [.ref (ad 0)] ws (fun r ws1 => (r = nI 0 ∧ ws = ws1 ∧ ∀ u, hPm u pt → hVl u pt ≤ hVl t pt) ∨ (r = nI 1 ∧ ∃ F1 t1, hRX K ad ws1 (hup f 5 F1) ct pt md lz kp fd ∧ hAt5 F1 t1 pt ∧ hPm t1 pt ∧ hVl t pt < hVl t1 pt ∧ ∀ u, hPm u pt → hVl t pt < hVl u pt → hVl t1 pt ≤ hVl u pt)) := by
  intro sz
  refine Met.ofW (cc := cX9_turn) (maxL := 4) (ret := (some .boolean)) (by decide) rfl ?_
  intro p e s m args below meth c s₁ B hml hv0
  obtain ⟨rfl, rfl, E, hP, hD⟩ := hentry hv0
  have hx := B.exec
  have hb := B.bytes
  have hr := B.returns
  have hts := atoms_spec (ws := hC yX9_turn cX9_turn 4 (some .boolean)) B.pre
  have hown : s.vm.findClass RX9 = some m.cls := findClass_of_methodNamed B.named
  have hlocks := B.notSynchronized
  generalize hAe : va_A ws s.heap.size = A at hD E ⊢
  have hl := lv_entry ([.ref (ad 0)]) (n := 4) (Nat.le_of_ble_eq_true rfl)
  rw [lg_entry_eq]
  generalize (lg_sl ([.ref (ad 0)]) ++ List.replicate (4 - (lg_sl ([.ref (ad 0)])).length) Slot.unset).toArray = ls at hl ⊢
  have hl : lv_has ls 4 [(0, .ref (ad 0))] := hl
  refine hat0 (fun H hHe => ?_)
  have hP : va_P D vwCl ws H := by rw [hHe]; exact hP
  have hS : va_S A s.heap H [] := by rw [hHe]; exact va_S.rf
  have g0 := hrx.1
  have g5 : ws[5]? = some (ad 5, .inl (K 0, 6, .inl (f 5))) := hrx.2 5 (by decide) (by decide)
  refine lv_aload_n hx hb dX9_turn_0 rfl (lv_at hl 0 rfl) ?_
  refine va_get (v := .int (nI pt)) (C := RX9) (T := TX9) (N := 18) hx hb hts (hin_X9 hmc) hown E.1.1 hP 0 g0 rfl 3 (by decide) (hts _ (hmc _ k_572)) (fun _ h9 => h9) rfl dX9_turn_1 ?_
  refine lv_iconst (v := nI 2) hx hb dX9_turn_4 (by decide +kernel) ?_
  have hk0 : nI pt - nI 2 = (if pt = 0 then (-2) else hkv (pt - 1)) := by
    rcases (show pt = 0 ∨ pt = 1 ∨ pt = 2 ∨ pt = 3 ∨ pt = 4 ∨ pt = 5 ∨ pt = 6 by omega) with h | h | h | h | h | h | h <;> rw [h] <;> decide +kernel
  refine lv_isub hx hb dX9_turn_5 ?_
  refine htopi (v := (if pt = 0 then (-2) else hkv (pt - 1))) (hk0) ?_
  by_cases hp0 : pt = 0
  · rw [if_pos hp0]
    refine lv_istore_n (lv' := [(1, .int (-2)), (0, .ref (ad 0))]) hx hb dX9_turn_6 rfl hl (by decide) rfl (fun ls hl => ?_)
    refine lv_iload_n hx hb dX9_turn_7 rfl (lv_at hl 0 rfl) ?_
    refine lv_if_lt (tgt := 34) hx hb dX9_turn_8 (by decide) (fun c1 => ?_) (fun c1 => ?_)
    · refine lv_iload_n hx hb dX9_turn_34 rfl (lv_at hl 0 rfl) ?_
      refine lv_if_ge (tgt := 40) hx hb dX9_turn_35 (by decide) (fun c2 => ?_) (fun c2 => ?_)
      · exact absurd c2 (by decide +kernel)
      · refine lv_iconst (v := nI 0) hx hb dX9_turn_38 (by decide +kernel) ?_
        subst hAe
        exact W.zret (v := nI 0) hx hb hr (by decide +kernel) (fun t ht _ => ⟨⟨nI 0, ws, rfl, Or.inl ⟨rfl, rfl, fun u hu => by rw [hp0]; exact Nat.le_refl 0⟩, by rw [ht]; exact hP, hD⟩, hS.F ht⟩) hS.2.2 dX9_turn_39
    · exact absurd (by decide +kernel) c1
  · rw [if_neg hp0]
    refine lv_istore_n (lv' := [(1, .int (hkv (pt - 1))), (0, .ref (ad 0))]) hx hb dX9_turn_6 rfl hl (by decide) rfl (fun ls hl => ?_)
    refine hloop0 (α := Nat) 7 4 (fun a => [(1, .int (hkv a)), (0, .ref (ad 0))]) (fun a => a ≤ pt - 1 ∧ ∀ m, a ≤ m → m + 1 < pt → t (m + 1) < t m) (fun a => a) ?_ (pt - 1) ls ⟨Nat.le_refl _, fun m h1 h2 => by omega⟩ (lv_sub hl [0, 1] rfl)
    rintro a ls ⟨ha, hdc⟩ hl ih
    have hl : lv_has ls 4 [(1, .int (hkv a)), (0, .ref (ad 0))] := hl
    by_cases ha0 : a = 0
    · rw [show hkv a = (-1) from if_pos ha0] at hl
      refine lv_iload_n hx hb dX9_turn_7 rfl (lv_at hl 0 rfl) ?_
      refine lv_if_lt (tgt := 34) hx hb dX9_turn_8 (by decide) (fun c1 => ?_) (fun c1 => ?_)
      · refine lv_iload_n hx hb dX9_turn_34 rfl (lv_at hl 0 rfl) ?_
        refine lv_if_ge (tgt := 40) hx hb dX9_turn_35 (by decide) (fun c2 => ?_) (fun c2 => ?_)
        · exact absurd c2 (by decide +kernel)
        · refine lv_iconst (v := nI 0) hx hb dX9_turn_38 (by decide +kernel) ?_
          subst hAe
          exact W.zret (v := nI 0) hx hb hr (by decide +kernel) (fun t ht _ => ⟨⟨nI 0, ws, rfl, Or.inl ⟨rfl, rfl, fun u hu => hlast hp6 hpm hu (fun m hm => hdc m (by omega) hm)⟩, by rw [ht]; exact hP, hD⟩, hS.F ht⟩) hS.2.2 dX9_turn_39
      · exact absurd (by decide +kernel) c1
    · obtain ⟨b, rfl⟩ : ∃ b, a = b + 1 := ⟨a - 1, by omega⟩
      rw [show hkv (b + 1) = nI b from if_neg (by omega)] at hl
      have hb1 : b + 1 < pt := by omega
      have e1 := hat b (by omega)
      have e2 := hat (b + 1) hb1
      have l1 := hpm.1 b (by omega)
      have l2 := hpm.1 (b + 1) hb1
      refine lv_iload_n hx hb dX9_turn_7 rfl (lv_at hl 0 rfl) ?_
      refine lv_if_lt (tgt := 34) hx hb dX9_turn_8 (by decide) (fun c1 => ?_) (fun c1 => ?_)
      · exact absurd c1 (nI_pos (by omega))
      · refine lv_aload_n hx hb dX9_turn_11 rfl (lv_at hl 1 rfl) ?_
        refine va_get (v := .ref (ad 5)) (C := RX9) (T := TX9) (N := 18) hx hb hts (hin_X9 hmc) hown E.1.1 hP 0 g0 rfl 7 (by decide) (hts _ (hmc _ k_576)) (fun _ h9 => h9) rfl dX9_turn_12 ?_
        refine lv_iload_n hx hb dX9_turn_15 rfl (lv_at hl 0 rfl) ?_
        refine va_iald hx hb E.1.1 hP 5 0 g5 rfl (vp_in_nI (by omega) (by omega)) dX9_turn_16 ?_
        refine htopi (v := (f 5) b) (by rw [nI_clamp (by omega)]) ?_
        refine htopi (v := nI (t b)) (e1) ?_
        refine lv_aload_n hx hb dX9_turn_17 rfl (lv_at hl 1 rfl) ?_
        refine va_get (v := .ref (ad 5)) (C := RX9) (T := TX9) (N := 18) hx hb hts (hin_X9 hmc) hown E.1.1 hP 0 g0 rfl 7 (by decide) (hts _ (hmc _ k_576)) (fun _ h9 => h9) rfl dX9_turn_18 ?_
        refine lv_iload_n hx hb dX9_turn_21 rfl (lv_at hl 0 rfl) ?_
        refine lv_iconst (v := nI 1) hx hb dX9_turn_22 (by decide +kernel) ?_
        refine lv_iadd hx hb dX9_turn_23 ?_
        refine htopi (v := nI (b + 1)) (nI_add _ _) ?_
        refine va_iald hx hb E.1.1 hP 5 0 g5 rfl (vp_in_nI (by omega) (by omega)) dX9_turn_24 ?_
        refine htopi (v := (f 5) (b + 1)) (by rw [nI_clamp (by omega)]) ?_
        refine htopi (v := nI (t (b + 1))) (e2) ?_
        refine lv_icmp_le (tgt := 34) hx hb dX9_turn_25 (by decide) (fun c2 => ?_) (fun c2 => ?_)
        · have hlt1 : t b < t (b + 1) := by
            have := (nI_leI (by omega) (by omega)).mp c2
            rcases Nat.lt_or_ge (t b) (t (b + 1)) with z | z
            · exact z
            · have := hpm.2 b (b + 1) (by omega) hb1 (by omega)
              omega
          refine lv_iload_n hx hb dX9_turn_34 rfl (lv_at hl 0 rfl) ?_
          refine lv_if_ge (tgt := 40) hx hb dX9_turn_35 (by decide) (fun c3 => ?_) (fun c3 => ?_)
          · refine lv_aload_n hx hb dX9_turn_40 rfl (lv_at hl 1 rfl) ?_
            refine va_get (v := .int (nI pt)) (C := RX9) (T := TX9) (N := 18) hx hb hts (hin_X9 hmc) hown E.1.1 hP 0 g0 rfl 3 (by decide) (hts _ (hmc _ k_572)) (fun _ h9 => h9) rfl dX9_turn_41 ?_
            refine lv_iconst (v := nI 1) hx hb dX9_turn_44 (by decide +kernel) ?_
            refine lv_isub hx hb dX9_turn_45 ?_
            refine htopi (v := nI (pt - 1)) (pk_sub (by omega)) ?_
            refine lv_istore_n (lv' := [(2, .int (nI (pt - 1))), (1, .int (nI b)), (0, .ref (ad 0))]) hx hb dX9_turn_46 rfl hl (by decide) rfl (fun ls hl => ?_)
            refine hloop0 (α := Nat) 47 4 (fun j => [(2, .int (nI j)), (1, .int (nI b)), (0, .ref (ad 0))]) (fun j => b + 1 ≤ j ∧ j < pt ∧ ∀ m, j < m → m < pt → t m < t b) (fun j => j) ?_ (pt - 1) ls ⟨by omega, by omega, fun m h1 h2 => by omega⟩ (lv_sub hl [0, 1, 2] rfl)
            rintro j ls ⟨hj1, hj2, hjm⟩ hl ih2
            have hl : lv_has ls 4 [(2, .int (nI j)), (1, .int (nI b)), (0, .ref (ad 0))] := hl
            have e3 := hat j hj2
            have l3 := hpm.1 j hj2
            refine lv_aload_n hx hb dX9_turn_47 rfl (lv_at hl 2 rfl) ?_
            refine va_get (v := .ref (ad 5)) (C := RX9) (T := TX9) (N := 18) hx hb hts (hin_X9 hmc) hown E.1.1 hP 0 g0 rfl 7 (by decide) (hts _ (hmc _ k_576)) (fun _ h9 => h9) rfl dX9_turn_48 ?_
            refine lv_iload_n hx hb dX9_turn_51 rfl (lv_at hl 0 rfl) ?_
            refine va_iald hx hb E.1.1 hP 5 0 g5 rfl (vp_in_nI (by omega) (by omega)) dX9_turn_52 ?_
            refine htopi (v := (f 5) j) (by rw [nI_clamp (by omega)]) ?_
            refine htopi (v := nI (t j)) (e3) ?_
            refine lv_aload_n hx hb dX9_turn_53 rfl (lv_at hl 2 rfl) ?_
            refine va_get (v := .ref (ad 5)) (C := RX9) (T := TX9) (N := 18) hx hb hts (hin_X9 hmc) hown E.1.1 hP 0 g0 rfl 7 (by decide) (hts _ (hmc _ k_576)) (fun _ h9 => h9) rfl dX9_turn_54 ?_
            refine lv_iload_n hx hb dX9_turn_57 rfl (lv_at hl 1 rfl) ?_
            refine va_iald hx hb E.1.1 hP 5 0 g5 rfl (vp_in_nI (by omega) (by omega)) dX9_turn_58 ?_
            refine htopi (v := (f 5) b) (by rw [nI_clamp (by omega)]) ?_
            refine htopi (v := nI (t b)) (e1) ?_
            refine lv_icmp_ge (tgt := 68) hx hb dX9_turn_59 (by decide) (fun c4 => ?_) (fun c4 => ?_)
            · have hlt2 : t b < t j := by
                have := (nI_leI (by omega) (by omega)).mp c4
                rcases Nat.lt_or_ge (t b) (t j) with z | z
                · exact z
                · have := hpm.2 b j (by omega) hj2 (by omega)
                  omega
              refine lv_aload_n hx hb dX9_turn_68 rfl (lv_at hl 2 rfl) ?_
              refine lv_iload_n hx hb dX9_turn_69 rfl (lv_at hl 1 rfl) ?_
              refine lv_iload_n hx hb dX9_turn_70 rfl (lv_at hl 0 rfl) ?_
              refine hc_v E hD hS (va_runV (As := [.int (nI b), .int (nI j)]) (rest := []) ⟨hx, hb, hml, hown, hts⟩ ((c_X9_change l D K tv ws ad f ct pt md lz kp fd hrx b j (by omega) (by omega)) H.size) (cwV 2 hts (hGV hmc k_703 k_705 k_13 k_29 k_706) rfl rfl rfl (by decide +kernel) ⟨Nat.le_of_ble_eq_true rfl, Nat.le_of_ble_eq_true rfl⟩) (hpreV E hP hD hS g0 rfl) rfl rfl hl.1 rfl (lv_room (Nat.le_of_ble_eq_true rfl)) dX9_turn_71 ⟨(Nat.le_refl _), (Nat.le_refl _)⟩) (fun ws1 H locs hrx hP hD hS => ?_)
              refine lv_iconst (v := nI 1) hx hb dX9_turn_74 (by decide +kernel) ?_
              refine lv_istore_n (lv' := [(3, .int (nI 1)), (2, .int (nI j)), (1, .int (nI b)), (0, .ref (ad 0))]) hx hb dX9_turn_75 rfl hl (by decide) rfl (fun ls hl => ?_)
              refine hloopW (α := Nat) 76 4 (fun i => [(3, .int (nI i)), (1, .int (nI b)), (0, .ref (ad 0))]) (fun i w9 => 1 ≤ i ∧ i ≤ pt ∧ ∃ F1 t1, hRX K ad w9 (hup f 5 F1) ct pt md lz kp fd ∧ hAt5 F1 t1 pt ∧ hPm t1 pt ∧ (∀ q, q < b → t1 q = t q) ∧ t1 b = t j ∧ hRv t1 (hsw t b j) b pt i) (fun i => pt - i) (fun _ => 0) (fun _ => 0) ?_ 1 ⟨Nat.le_refl _, by omega, _, hsw t b j, hrx, hsw_at hat (by omega) hj2, hsw_pm hpm (by omega) hj2, fun q hq => (if_neg (by omega)).trans (if_neg (by omega)), (if_neg (by omega)).trans (if_pos rfl), fun q h1 h2 => (if_neg (by omega)).symm⟩ hP hD hS (lv_sub hl [0, 2, 3] rfl)
              intro i w9 H locs ls hI9 hP hD hS hl ih3
              obtain ⟨hi1, hip, F1, t1, hrx, hat1, hpm1, hpre, h1b, hrv⟩ := hI9
              have hl : lv_has ls 4 [(3, .int (nI i)), (1, .int (nI b)), (0, .ref (ad 0))] := hl
              have g0 := hrx.1
              refine lv_iload_n hx hb dX9_turn_76 rfl (lv_at hl 1 rfl) ?_
              refine lv_iload_n hx hb dX9_turn_77 rfl (lv_at hl 0 rfl) ?_
              refine lv_iadd hx hb dX9_turn_78 ?_
              refine htopi (v := nI (b + i)) (nI_add _ _) ?_
              refine lv_aload_n hx hb dX9_turn_79 rfl (lv_at hl 2 rfl) ?_
              refine va_get (v := .int (nI pt)) (C := RX9) (T := TX9) (N := 18) hx hb hts (hin_X9 hmc) hown E.1.1 hP 0 g0 rfl 3 (by decide) (hts _ (hmc _ k_572)) (fun _ h9 => h9) rfl dX9_turn_80 ?_
              refine lv_iload_n hx hb dX9_turn_83 rfl (lv_at hl 0 rfl) ?_
              refine lv_isub hx hb dX9_turn_84 ?_
              refine htopi (v := nI (pt - i)) (pk_sub (by omega)) ?_
              refine lv_icmp_ge (tgt := 107) hx hb dX9_turn_85 (by decide) (fun c5 => ?_) (fun c5 => ?_)
              · have hvl := hVl_lt hpre (by rw [h1b]; exact hlt2) (pt - (b + 1)) (fun q hq => by have := hpm.1 q (by omega); omega)
                rw [show b + 1 + (pt - (b + 1)) = pt by omega] at hvl
                have hrf := hrv.fin ((nI_leI (by omega) (by omega)).mp c5) (by omega)
                refine lv_iconst (v := nI 1) hx hb dX9_turn_107 (by decide +kernel) ?_
                subst hAe
                exact W.zret (v := nI 1) hx hb hr (by decide +kernel) (fun t ht _ => ⟨⟨nI 1, w9, rfl, Or.inr ⟨rfl, F1, t1, hrx, hat1, hpm1, hvl, fun u hu hv => hnext hp6 hpm hpm1 hu (fun m h1 h2 => hdc m h1 h2) hj1 hj2 hlt2 hjm hpre h1b hrf hv⟩, by rw [ht]; exact hP, hD⟩, hS.F ht⟩) hS.2.2 dX9_turn_108
              · have hbi : b + i < pt - i := Nat.not_le.mp (fun z => c5 (nI_le z (by omega)))
                refine lv_aload_n hx hb dX9_turn_88 rfl (lv_at hl 2 rfl) ?_
                refine lv_iload_n hx hb dX9_turn_89 rfl (lv_at hl 1 rfl) ?_
                refine lv_iload_n hx hb dX9_turn_90 rfl (lv_at hl 0 rfl) ?_
                refine lv_iadd hx hb dX9_turn_91 ?_
                refine htopi (v := nI (b + i)) (nI_add _ _) ?_
                refine lv_aload_n hx hb dX9_turn_92 rfl (lv_at hl 2 rfl) ?_
                refine va_get (v := .int (nI pt)) (C := RX9) (T := TX9) (N := 18) hx hb hts (hin_X9 hmc) hown E.1.1 hP 0 g0 rfl 3 (by decide) (hts _ (hmc _ k_572)) (fun _ h9 => h9) rfl dX9_turn_93 ?_
                refine lv_iload_n hx hb dX9_turn_96 rfl (lv_at hl 0 rfl) ?_
                refine lv_isub hx hb dX9_turn_97 ?_
                refine htopi (v := nI (pt - i)) (pk_sub (by omega)) ?_
                refine hc_v E hD hS (va_runV (As := [.int (nI (b + i)), .int (nI (pt - i))]) (rest := []) ⟨hx, hb, hml, hown, hts⟩ ((c_X9_change l D K tv w9 ad (hup f 5 F1) ct pt md lz kp fd hrx (b + i) (pt - i) (by omega) (by omega)) H.size) (cwV 2 hts (hGV hmc k_703 k_705 k_13 k_29 k_706) rfl rfl rfl (by decide +kernel) ⟨Nat.le_of_ble_eq_true rfl, Nat.le_of_ble_eq_true rfl⟩) (hpreV E hP hD hS g0 rfl) rfl rfl hl.1 rfl (lv_room (Nat.le_of_ble_eq_true rfl)) dX9_turn_98 ⟨(Nat.le_refl _), (Nat.le_refl _)⟩) (fun ws2 H locs hrx hP hD hS => ?_)
                rw [hup_up] at hrx
                refine lv_iinc (v := nI (i + 1)) (lv' := [(3, .int (nI (i + 1))), (1, .int (nI b)), (0, .ref (ad 0))]) hx hb dX9_turn_101 hl (k := 0) rfl (nI_1 _) (by decide) rfl (fun ls hl => ?_)
                refine lv_goto (tgt := 76) hx hb dX9_turn_104 (by decide) ?_
                exact ih3 (i + 1) _ H locs ls ⟨by omega, by omega, _, hsw t1 (b + i) (pt - i), hrx, hsw_at hat1 (by omega) (by omega), hsw_pm hpm1 (by omega) (by omega), fun q hq => by rw [show hsw t1 (b + i) (pt - i) q = t1 q from (if_neg (by omega)).trans (if_neg (by omega))]; exact hpre q hq, by rw [show hsw t1 (b + i) (pt - i) b = t1 b from (if_neg (by omega)).trans (if_neg (by omega))]; exact h1b, hrv.step hi1 hbi⟩ (by omega) hP hD hS (lv_sub hl [0, 1, 2] rfl)
            · have hlt2 : t j < t b := Nat.not_le.mp (fun z => c4 (nI_le z (by omega)))
              have hjb : b + 1 < j := by
                rcases Nat.lt_or_ge (b + 1) j with z | z
                · exact z
                · have e : j = b + 1 := by omega
                  rw [e] at hlt2
                  omega
              refine lv_iinc (v := nI (j - 1)) (lv' := [(2, .int (nI (j - 1))), (1, .int (nI b)), (0, .ref (ad 0))]) hx hb dX9_turn_62 hl (k := 0) rfl (hnI_dec (by omega)) (by decide) rfl (fun ls hl => ?_)
              refine lv_goto (tgt := 47) hx hb dX9_turn_65 (by decide) ?_
              exact ih2 (j - 1) ls ⟨by omega, by omega, fun m h1 h2 => by
                  by_cases z : m = j
                  · subst z; exact hlt2
                  · exact hjm m (by omega) h2⟩ (by omega) (lv_sub hl [0, 1, 2] rfl)
          · exact absurd (Int32.not_lt.mp (nI_pos (by omega))) c3
        · refine lv_iinc (v := (hkv b)) (lv' := [(1, .int (hkv b)), (0, .ref (ad 0))]) hx hb dX9_turn_28 hl (k := 0) rfl (hkv_dec b) (by decide) rfl (fun ls hl => ?_)
          refine lv_goto (tgt := 7) hx hb dX9_turn_31 (by decide) ?_
          have hgt9 : t (b + 1) < t b := Nat.not_le.mp (fun z => c2 (nI_le z (by omega)))
          exact ih b ls ⟨by omega, fun m h1 h2 => by
              by_cases z : m = b
              · subst z; exact hgt9
              · exact hdc m (by omega) h2⟩ (Nat.lt_succ_self _) (lv_sub hl [0, 1] rfl)
