set_option maxHeartbeats 4000000 in
set_option maxRecDepth 100000 in
/-- Solutions.makeEmpty -/
theorem c_X8_makeEmpty (l : Launch) (D : va_G) (K : Nat → ClassId) (tv : Nat) (ws : va_W) (ad : Nat → Nat) (b ra sa L S cnt : Nat) (hb1 : b ≤ 1) (hso : hSol K ad ws b ra sa L S cnt) : hV l D (hTy K) tv yX8_makeEmpty cX8_makeEmpty 1 none ({ frames := 0, cells := 0, slots := 0, locals := 0 }) [.ref (ad 35)] ws (fun ws1 => hAg 35 38 ws ws1 ∧ hSol K ad ws1 b ra sa L S 0) := by
  intro sz
  refine Met.ofW (cc := cX8_makeEmpty) (maxL := 1) (ret := none) (by decide) rfl ?_
  intro p e s m args below meth c s₁ B hml hv0
  obtain ⟨rfl, rfl, E, hP, hD⟩ := hentry hv0
  have hx := B.exec
  have hb := B.bytes
  have hr := B.returns
  have hts := atoms_spec (ws := hC yX8_makeEmpty cX8_makeEmpty 1 none) B.pre
  have hown : s.vm.findClass RX8 = some m.cls := findClass_of_methodNamed B.named
  have hlocks := B.notSynchronized
  generalize hAe : va_A ws s.heap.size = A at hD E ⊢
  have hl := lv_entry ([.ref (ad 35)]) (n := 1) (Nat.le_of_ble_eq_true rfl)
  rw [lg_entry_eq]
  generalize (lg_sl ([.ref (ad 35)]) ++ List.replicate (1 - (lg_sl ([.ref (ad 35)])).length) Slot.unset).toArray = ls at hl ⊢
  have hl : lv_has ls 1 [(0, .ref (ad 35))] := hl
  refine hat0 (fun H hHe => ?_)
  have hP : va_P D vwCl ws H := by rw [hHe]; exact hP
  have hS : va_S A s.heap H [] := by rw [hHe]; exact va_S.rf
  obtain ⟨h35, ⟨fr, hra⟩, fs, hsa⟩ := id hso
  refine lv_aload_n hx hb dX8_makeEmpty_0 rfl (lv_at hl 0 rfl) ?_
  refine lv_iconst (v := nI 0) hx hb dX8_makeEmpty_1 (by decide +kernel) ?_
  refine va_put (v := .int (nI 0)) (ty := .int) (C := RX8) (T := TX8) (N := 3) hx hb hts (hin_X8 hmc) tyX8 tyX8_ok nmX8 hown E.1.1 hP hD hS 35 h35 rfl 2 (by decide) (hts _ (hmc _ k_157)) (fun _ h9 => h9) rfl (by decide +kernel) rfl rfl (Nat.le_of_ble_eq_true rfl) dX8_makeEmpty_2 (fun H locs hP hD hS => ?_)
  obtain ⟨ws1, ews1⟩ : ∃ zw : va_W, zw = List.set ws 35 ((ad 35), .inr (iU, [.ref ra, .ref sa, .int (nI 0)])) := ⟨_, rfl⟩
  have hP : va_P D vwCl ws1 H := by rw [ews1]; exact hP
  have hD : va_D A ws1 := by rw [ews1]; exact hD
  have h35 : ws1[35]? = some ((ad 35), .inr (iU, [.ref ra, .ref sa, .int (nI 0)])) := by rw [ews1]; exact hset_eq h35
  have hra := (show ws1[(36 + b)]? = _ from (by rw [ews1]; exact hset_ne (by omega))).trans hra
  have hsa := (show ws1[(37 - b)]? = _ from (by rw [ews1]; exact hset_ne (by omega))).trans hsa
  subst hAe
  exact W.vret hx hb hr (fun t ht _ => ⟨⟨ws1, rfl, ⟨by rw [ews1]; exact hAg.rf.set (by decide) (by decide), h35, ⟨fr, hra⟩, fs, hsa⟩, by rw [ht]; exact hP, hD⟩, hS.F ht⟩) hS.2.2 dX8_makeEmpty_5

set_option maxHeartbeats 4000000 in
set_option maxRecDepth 100000 in
/-- Solutions.at -/
theorem c_X8_at (l : Launch) (D : va_G) (K : Nat → ClassId) (tv : Nat) (ws : va_W) (ad : Nat → Nat) (b ra sa L S cnt : Nat) (hb1 : b ≤ 1) (hso : hSol K ad ws b ra sa L S cnt) (i : Nat) (hi : i < L) (hL20 : L < 2 ^ 20) : hL l D (hTy K) tv yX8_at cX8_at 2 (some .long) ({ frames := 0, cells := 0, slots := 0, locals := 0 }) [.ref (ad 35), .int (nI i)] ws (fun _ ws1 => ws = ws1) := by
  intro sz
  refine Met.ofW (cc := cX8_at) (maxL := 2) (ret := (some .long)) (by decide) rfl ?_
  intro p e s m args below meth c s₁ B hml hv0
  obtain ⟨rfl, rfl, E, hP, hD⟩ := hentry hv0
  have hx := B.exec
  have hb := B.bytes
  have hr := B.returns
  have hts := atoms_spec (ws := hC yX8_at cX8_at 2 (some .long)) B.pre
  have hown : s.vm.findClass RX8 = some m.cls := findClass_of_methodNamed B.named
  have hlocks := B.notSynchronized
  generalize hAe : va_A ws s.heap.size = A at hD E ⊢
  have hl := lv_entry ([.ref (ad 35), .int (nI i)]) (n := 2) (Nat.le_of_ble_eq_true rfl)
  rw [lg_entry_eq]
  generalize (lg_sl ([.ref (ad 35), .int (nI i)]) ++ List.replicate (2 - (lg_sl ([.ref (ad 35), .int (nI i)])).length) Slot.unset).toArray = ls at hl ⊢
  have hl : lv_has ls 2 [(0, .ref (ad 35)), (1, .int (nI i))] := hl
  refine hat0 (fun H hHe => ?_)
  have hP : va_P D vwCl ws H := by rw [hHe]; exact hP
  have hS : va_S A s.heap H [] := by rw [hHe]; exact va_S.rf
  obtain ⟨h35, ⟨fr, hra⟩, fs, hsa⟩ := id hso
  refine lv_aload_n hx hb dX8_at_0 rfl (lv_at hl 0 rfl) ?_
  refine va_get (v := .ref ra) (C := RX8) (T := TX8) (N := 3) hx hb hts (hin_X8 hmc) hown E.1.1 hP 35 h35 rfl 0 (by decide) (hts _ (hmc _ k_155)) (fun _ h9 => h9) rfl dX8_at_1 ?_
  refine lv_iload_n hx hb dX8_at_4 rfl (lv_at hl 1 rfl) ?_
  refine va_lald hx hb E.1.1 hP (36 + b) 1 hra rfl (vp_in_nI (by omega) (by omega)) dX8_at_5 ?_
  refine htopl (v := fr i) (by rw [nI_clamp (by omega)]) ?_
  subst hAe
  exact W.lret (v := fr i) hx hb hr (fun t ht _ => ⟨⟨fr i, ws, rfl, rfl, by rw [ht]; exact hP, hD⟩, hS.F ht⟩) hS.2.2 dX8_at_6

set_option maxHeartbeats 4000000 in
set_option maxRecDepth 100000 in
/-- merge -/
theorem c_X8_merge (l : Launch) (D : va_G) (K : Nat → ClassId) (tv : Nat) (ws : va_W) (ad : Nat → Nat) (b ra sa L S cnt : Nat) (hb1 : b ≤ 1) (hso : hSol K ad ws b ra sa L S cnt) (fr0 mid to : Nat) (h1 : fr0 ≤ mid) (h2 : mid ≤ to) (h3 : to ≤ L) (h4 : to ≤ S) (hL : L < 2 ^ 20) (hS2 : S < 2 ^ 20) : hV l D (hTy K) tv yX8_merge cX8_merge 7 none ({ frames := 0, cells := 0, slots := 0, locals := 0 }) [.ref (ad 35), .int (nI fr0), .int (nI mid), .int (nI to)] ws (fun ws1 => hAg 35 38 ws ws1 ∧ hSol K ad ws1 b ra sa L S cnt) := by
  intro sz
  refine Met.ofW (cc := cX8_merge) (maxL := 7) (ret := none) (by decide) rfl ?_
  intro p e s m args below meth c s₁ B hml hv0
  obtain ⟨rfl, rfl, E, hP, hD⟩ := hentry hv0
  have hx := B.exec
  have hb := B.bytes
  have hr := B.returns
  have hts := atoms_spec (ws := hC yX8_merge cX8_merge 7 none) B.pre
  have hown : s.vm.findClass RX8 = some m.cls := findClass_of_methodNamed B.named
  have hlocks := B.notSynchronized
  generalize hAe : va_A ws s.heap.size = A at hD E ⊢
  have hl := lv_entry ([.ref (ad 35), .int (nI fr0), .int (nI mid), .int (nI to)]) (n := 7) (Nat.le_of_ble_eq_true rfl)
  rw [lg_entry_eq]
  generalize (lg_sl ([.ref (ad 35), .int (nI fr0), .int (nI mid), .int (nI to)]) ++ List.replicate (7 - (lg_sl ([.ref (ad 35), .int (nI fr0), .int (nI mid), .int (nI to)])).length) Slot.unset).toArray = ls at hl ⊢
  have hl : lv_has ls 7 [(0, .ref (ad 35)), (1, .int (nI fr0)), (2, .int (nI mid)), (3, .int (nI to))] := hl
  refine hat0 (fun H hHe => ?_)
  have hP : va_P D vwCl ws H := by rw [hHe]; exact hP
  have hS : va_S A s.heap H [] := by rw [hHe]; exact va_S.rf
  refine lv_iload_n hx hb dX8_merge_0 rfl (lv_at hl 1 rfl) ?_
  refine lv_istore (lv' := [(4, .int (nI fr0)), (0, .ref (ad 35)), (1, .int (nI fr0)), (2, .int (nI mid)), (3, .int (nI to))]) hx hb dX8_merge_1 hl (by decide) rfl (fun ls hl => ?_)
  refine lv_iload_n hx hb dX8_merge_3 rfl (lv_at hl 3 rfl) ?_
  refine lv_istore (lv' := [(5, .int (nI mid)), (4, .int (nI fr0)), (0, .ref (ad 35)), (1, .int (nI fr0)), (2, .int (nI mid)), (3, .int (nI to))]) hx hb dX8_merge_4 hl (by decide) rfl (fun ls hl => ?_)
  refine lv_iload_n hx hb dX8_merge_6 rfl (lv_at hl 3 rfl) ?_
  refine lv_istore (lv' := [(6, .int (nI fr0)), (5, .int (nI mid)), (4, .int (nI fr0)), (0, .ref (ad 35)), (1, .int (nI fr0)), (2, .int (nI mid)), (3, .int (nI to))]) hx hb dX8_merge_7 hl (by decide) rfl (fun ls hl => ?_)
  refine hloopW (α := Nat × Nat × Nat) 9 7 (fun x => [(6, .int (nI x.2.2)), (5, .int (nI x.2.1)), (4, .int (nI x.1)), (0, .ref (ad 35)), (1, .int (nI fr0)), (2, .int (nI mid)), (3, .int (nI to))]) (fun x w1 => x.1 ≤ mid ∧ mid ≤ x.2.1 ∧ x.2.1 ≤ to ∧ x.2.2 + mid = x.1 + x.2.1 ∧ hAg 35 38 ws w1 ∧ hSol K ad w1 b ra sa L S cnt) (fun x => to - x.2.2) (fun _ => 0) (fun _ => 0) ?_ (fr0, mid, fr0) ⟨h1, Nat.le_refl _, h2, rfl, hAg.rf, hso⟩ hP hD hS (lv_sub hl [0, 1, 2, 3, 4, 5, 6] rfl)
  rintro ⟨lf, r, i⟩ w1 H locs ls ⟨q1, q2, q3, q4, hag, hso1⟩ hP hD hS hl ih
  dsimp only at q1 q2 q3 q4 ih
  have hl : lv_has ls 7 [(6, .int (nI i)), (5, .int (nI r)), (4, .int (nI lf)), (0, .ref (ad 35)), (1, .int (nI fr0)), (2, .int (nI mid)), (3, .int (nI to))] := hl
  obtain ⟨h35, ⟨fr, hra⟩, fs, hsa⟩ := id hso1
  refine lv_iload hx hb dX8_merge_9 (lv_at hl 0 rfl) ?_
  refine lv_iload_n hx hb dX8_merge_11 rfl (lv_at hl 6 rfl) ?_
  refine lv_icmp_ge (tgt := 88) hx hb dX8_merge_12 (by decide) (fun c1 => ?_) (fun c1 => ?_)
  · subst hAe
    exact W.vret hx hb hr (fun t ht _ => ⟨⟨w1, rfl, ⟨hag, hso1⟩, by rw [ht]; exact hP, hD⟩, hS.F ht⟩) hS.2.2 dX8_merge_88
  · have hi : i < to := Nat.not_le.mp (fun z => c1 (nI_le z (by omega)))
    refine lv_iload hx hb dX8_merge_15 (lv_at hl 2 rfl) ?_
    refine lv_iload_n hx hb dX8_merge_17 rfl (lv_at hl 5 rfl) ?_
    refine lv_icmp_ge (tgt := 65) hx hb dX8_merge_18 (by decide) (fun c2 => ?_) (fun c2 => ?_)
    · have hlm : mid ≤ lf := (nI_leI (by omega) (by omega)).mp c2
      refine lv_aload_n hx hb dX8_merge_65 rfl (lv_at hl 3 rfl) ?_
      refine va_get (v := .ref sa) (C := RX8) (T := TX8) (N := 3) hx hb hts (hin_X8 hmc) hown E.1.1 hP 35 h35 rfl 1 (by decide) (hts _ (hmc _ k_156)) (fun _ h9 => h9) rfl dX8_merge_66 ?_
      refine lv_iload hx hb dX8_merge_69 (lv_at hl 0 rfl) ?_
      refine lv_aload_n hx hb dX8_merge_71 rfl (lv_at hl 3 rfl) ?_
      refine va_get (v := .ref ra) (C := RX8) (T := TX8) (N := 3) hx hb hts (hin_X8 hmc) hown E.1.1 hP 35 h35 rfl 0 (by decide) (hts _ (hmc _ k_155)) (fun _ h9 => h9) rfl dX8_merge_72 ?_
      refine lv_iload hx hb dX8_merge_75 (lv_at hl 1 rfl) ?_
      refine va_lald hx hb E.1.1 hP (36 + b) 1 hra rfl (vp_in_nI (by omega) (by omega)) dX8_merge_77 ?_
      refine htopl (v := fr r) (by rw [nI_clamp (by omega)]) ?_
      refine va_last hx hb E.1.1 hP hD hS (37 - b) 1 hsa rfl (vp_in_nI (by omega) (by omega)) dX8_merge_78 (fun H locs hP hD hS => ?_)
      rw [nI_clamp (show i < 2 ^ 31 by omega)] at hP hD
      obtain ⟨ws1, ews1⟩ : ∃ zw : va_W, zw = List.set w1 (37 - b) (sa, .inl (K 1, S, .inr (.inl (vp_updL fs i (fr r))))) := ⟨_, rfl⟩
      have hP : va_P D vwCl ws1 H := by rw [ews1]; exact hP
      have hD : va_D A ws1 := by rw [ews1]; exact hD
      have h35 := (show ws1[35]? = _ from (by rw [ews1]; exact hset_ne (by omega))).trans h35
      have hra := (show ws1[(36 + b)]? = _ from (by rw [ews1]; exact hset_ne (by omega))).trans hra
      have hsa : ws1[(37 - b)]? = some (sa, .inl (K 1, S, .inr (.inl (vp_updL fs i (fr r))))) := by rw [ews1]; exact hset_eq hsa
      refine lv_iinc (v := nI (r + 1)) (lv' := [(5, .int (nI (r + 1))), (6, .int (nI i)), (4, .int (nI lf)), (0, .ref (ad 35)), (1, .int (nI fr0)), (2, .int (nI mid)), (3, .int (nI to))]) hx hb dX8_merge_79 hl (k := 1) rfl (nI_1 _) (by decide) rfl (fun ls hl => ?_)
      refine lv_iinc (v := nI (i + 1)) (lv' := [(6, .int (nI (i + 1))), (5, .int (nI (r + 1))), (4, .int (nI lf)), (0, .ref (ad 35)), (1, .int (nI fr0)), (2, .int (nI mid)), (3, .int (nI to))]) hx hb dX8_merge_82 hl (k := 1) rfl (nI_1 _) (by decide) rfl (fun ls hl => ?_)
      refine lv_goto (tgt := 9) hx hb dX8_merge_85 (by decide) ?_
      exact ih (lf, r + 1, i + 1) _ H locs ls ⟨by show lf ≤ mid; omega, by show mid ≤ r + 1; omega, by show r + 1 ≤ to; omega, by show i + 1 + mid = lf + (r + 1); omega, by rw [ews1]; exact hag.set (by omega) (by omega), h35, ⟨fr, hra⟩, _, hsa⟩ (by show to - (i + 1) < to - i; omega) hP hD hS (lv_sub hl [0, 1, 2, 3, 4, 5, 6] rfl)
    · have hlm : lf < mid := Nat.not_le.mp (fun z => c2 (nI_le z (by omega)))
      refine lv_iload hx hb dX8_merge_21 (lv_at hl 1 rfl) ?_
      refine lv_iload_n hx hb dX8_merge_23 rfl (lv_at hl 6 rfl) ?_
      refine lv_icmp_ge (tgt := 45) hx hb dX8_merge_24 (by decide) (fun c3 => ?_) (fun c3 => ?_)
      · refine lv_aload_n hx hb dX8_merge_45 rfl (lv_at hl 3 rfl) ?_
        refine va_get (v := .ref sa) (C := RX8) (T := TX8) (N := 3) hx hb hts (hin_X8 hmc) hown E.1.1 hP 35 h35 rfl 1 (by decide) (hts _ (hmc _ k_156)) (fun _ h9 => h9) rfl dX8_merge_46 ?_
        refine lv_iload hx hb dX8_merge_49 (lv_at hl 0 rfl) ?_
        refine lv_aload_n hx hb dX8_merge_51 rfl (lv_at hl 3 rfl) ?_
        refine va_get (v := .ref ra) (C := RX8) (T := TX8) (N := 3) hx hb hts (hin_X8 hmc) hown E.1.1 hP 35 h35 rfl 0 (by decide) (hts _ (hmc _ k_155)) (fun _ h9 => h9) rfl dX8_merge_52 ?_
        refine lv_iload hx hb dX8_merge_55 (lv_at hl 2 rfl) ?_
        refine va_lald hx hb E.1.1 hP (36 + b) 1 hra rfl (vp_in_nI (by omega) (by omega)) dX8_merge_57 ?_
        refine htopl (v := fr lf) (by rw [nI_clamp (by omega)]) ?_
        refine va_last hx hb E.1.1 hP hD hS (37 - b) 1 hsa rfl (vp_in_nI (by omega) (by omega)) dX8_merge_58 (fun H locs hP hD hS => ?_)
        rw [nI_clamp (show i < 2 ^ 31 by omega)] at hP hD
        obtain ⟨ws2, ews2⟩ : ∃ zw : va_W, zw = List.set w1 (37 - b) (sa, .inl (K 1, S, .inr (.inl (vp_updL fs i (fr lf))))) := ⟨_, rfl⟩
        have hP : va_P D vwCl ws2 H := by rw [ews2]; exact hP
        have hD : va_D A ws2 := by rw [ews2]; exact hD
        have h35 := (show ws2[35]? = _ from (by rw [ews2]; exact hset_ne (by omega))).trans h35
        have hra := (show ws2[(36 + b)]? = _ from (by rw [ews2]; exact hset_ne (by omega))).trans hra
        have hsa : ws2[(37 - b)]? = some (sa, .inl (K 1, S, .inr (.inl (vp_updL fs i (fr lf))))) := by rw [ews2]; exact hset_eq hsa
        refine lv_iinc (v := nI (lf + 1)) (lv' := [(4, .int (nI (lf + 1))), (6, .int (nI i)), (5, .int (nI r)), (0, .ref (ad 35)), (1, .int (nI fr0)), (2, .int (nI mid)), (3, .int (nI to))]) hx hb dX8_merge_59 hl (k := 2) rfl (nI_1 _) (by decide) rfl (fun ls hl => ?_)
        refine lv_goto (tgt := 82) hx hb dX8_merge_62 (by decide) ?_
        refine lv_iinc (v := nI (i + 1)) (lv' := [(6, .int (nI (i + 1))), (4, .int (nI (lf + 1))), (5, .int (nI r)), (0, .ref (ad 35)), (1, .int (nI fr0)), (2, .int (nI mid)), (3, .int (nI to))]) hx hb dX8_merge_82 hl (k := 1) rfl (nI_1 _) (by decide) rfl (fun ls hl => ?_)
        refine lv_goto (tgt := 9) hx hb dX8_merge_85 (by decide) ?_
        exact ih (lf + 1, r, i + 1) _ H locs ls ⟨by show lf + 1 ≤ mid; omega, by show mid ≤ r; omega, by show r ≤ to; omega, by show i + 1 + mid = lf + 1 + (r); omega, by rw [ews2]; exact hag.set (by omega) (by omega), h35, ⟨fr, hra⟩, _, hsa⟩ (by show to - (i + 1) < to - i; omega) hP hD hS (lv_sub hl [0, 2, 1, 3, 4, 5, 6] rfl)
      · have hrt : r < to := Nat.not_le.mp (fun z => c3 (nI_le z (by omega)))
        refine lv_aload_n hx hb dX8_merge_27 rfl (lv_at hl 3 rfl) ?_
        refine va_get (v := .ref ra) (C := RX8) (T := TX8) (N := 3) hx hb hts (hin_X8 hmc) hown E.1.1 hP 35 h35 rfl 0 (by decide) (hts _ (hmc _ k_155)) (fun _ h9 => h9) rfl dX8_merge_28 ?_
        refine lv_iload hx hb dX8_merge_31 (lv_at hl 2 rfl) ?_
        refine va_lald hx hb E.1.1 hP (36 + b) 1 hra rfl (vp_in_nI (by omega) (by omega)) dX8_merge_33 ?_
        refine htopl (v := fr lf) (by rw [nI_clamp (by omega)]) ?_
        refine lv_aload_n hx hb dX8_merge_34 rfl (lv_at hl 3 rfl) ?_
        refine va_get (v := .ref ra) (C := RX8) (T := TX8) (N := 3) hx hb hts (hin_X8 hmc) hown E.1.1 hP 35 h35 rfl 0 (by decide) (hts _ (hmc _ k_155)) (fun _ h9 => h9) rfl dX8_merge_35 ?_
        refine lv_iload hx hb dX8_merge_38 (lv_at hl 1 rfl) ?_
        refine va_lald hx hb E.1.1 hP (36 + b) 1 hra rfl (vp_in_nI (by omega) (by omega)) dX8_merge_40 ?_
        refine htopl (v := fr r) (by rw [nI_clamp (by omega)]) ?_
        refine W.lcmp hx hb dX8_merge_41 ?_
        refine lv_if_gt (tgt := 65) hx hb dX8_merge_42 (by decide) (fun c4 => ?_) (fun c4 => ?_)
        · refine lv_aload_n hx hb dX8_merge_65 rfl (lv_at hl 3 rfl) ?_
          refine va_get (v := .ref sa) (C := RX8) (T := TX8) (N := 3) hx hb hts (hin_X8 hmc) hown E.1.1 hP 35 h35 rfl 1 (by decide) (hts _ (hmc _ k_156)) (fun _ h9 => h9) rfl dX8_merge_66 ?_
          refine lv_iload hx hb dX8_merge_69 (lv_at hl 0 rfl) ?_
          refine lv_aload_n hx hb dX8_merge_71 rfl (lv_at hl 3 rfl) ?_
          refine va_get (v := .ref ra) (C := RX8) (T := TX8) (N := 3) hx hb hts (hin_X8 hmc) hown E.1.1 hP 35 h35 rfl 0 (by decide) (hts _ (hmc _ k_155)) (fun _ h9 => h9) rfl dX8_merge_72 ?_
          refine lv_iload hx hb dX8_merge_75 (lv_at hl 1 rfl) ?_
          refine va_lald hx hb E.1.1 hP (36 + b) 1 hra rfl (vp_in_nI (by omega) (by omega)) dX8_merge_77 ?_
          refine htopl (v := fr r) (by rw [nI_clamp (by omega)]) ?_
          refine va_last hx hb E.1.1 hP hD hS (37 - b) 1 hsa rfl (vp_in_nI (by omega) (by omega)) dX8_merge_78 (fun H locs hP hD hS => ?_)
          rw [nI_clamp (show i < 2 ^ 31 by omega)] at hP hD
          obtain ⟨ws3, ews3⟩ : ∃ zw : va_W, zw = List.set w1 (37 - b) (sa, .inl (K 1, S, .inr (.inl (vp_updL fs i (fr r))))) := ⟨_, rfl⟩
          have hP : va_P D vwCl ws3 H := by rw [ews3]; exact hP
          have hD : va_D A ws3 := by rw [ews3]; exact hD
          have h35 := (show ws3[35]? = _ from (by rw [ews3]; exact hset_ne (by omega))).trans h35
          have hra := (show ws3[(36 + b)]? = _ from (by rw [ews3]; exact hset_ne (by omega))).trans hra
          have hsa : ws3[(37 - b)]? = some (sa, .inl (K 1, S, .inr (.inl (vp_updL fs i (fr r))))) := by rw [ews3]; exact hset_eq hsa
          refine lv_iinc (v := nI (r + 1)) (lv' := [(5, .int (nI (r + 1))), (6, .int (nI i)), (4, .int (nI lf)), (0, .ref (ad 35)), (1, .int (nI fr0)), (2, .int (nI mid)), (3, .int (nI to))]) hx hb dX8_merge_79 hl (k := 1) rfl (nI_1 _) (by decide) rfl (fun ls hl => ?_)
          refine lv_iinc (v := nI (i + 1)) (lv' := [(6, .int (nI (i + 1))), (5, .int (nI (r + 1))), (4, .int (nI lf)), (0, .ref (ad 35)), (1, .int (nI fr0)), (2, .int (nI mid)), (3, .int (nI to))]) hx hb dX8_merge_82 hl (k := 1) rfl (nI_1 _) (by decide) rfl (fun ls hl => ?_)
          refine lv_goto (tgt := 9) hx hb dX8_merge_85 (by decide) ?_
          exact ih (lf, r + 1, i + 1) _ H locs ls ⟨by show lf ≤ mid; omega, by show mid ≤ r + 1; omega, by show r + 1 ≤ to; omega, by show i + 1 + mid = lf + (r + 1); omega, by rw [ews3]; exact hag.set (by omega) (by omega), h35, ⟨fr, hra⟩, _, hsa⟩ (by show to - (i + 1) < to - i; omega) hP hD hS (lv_sub hl [0, 1, 2, 3, 4, 5, 6] rfl)
        · refine lv_aload_n hx hb dX8_merge_45 rfl (lv_at hl 3 rfl) ?_
          refine va_get (v := .ref sa) (C := RX8) (T := TX8) (N := 3) hx hb hts (hin_X8 hmc) hown E.1.1 hP 35 h35 rfl 1 (by decide) (hts _ (hmc _ k_156)) (fun _ h9 => h9) rfl dX8_merge_46 ?_
          refine lv_iload hx hb dX8_merge_49 (lv_at hl 0 rfl) ?_
          refine lv_aload_n hx hb dX8_merge_51 rfl (lv_at hl 3 rfl) ?_
          refine va_get (v := .ref ra) (C := RX8) (T := TX8) (N := 3) hx hb hts (hin_X8 hmc) hown E.1.1 hP 35 h35 rfl 0 (by decide) (hts _ (hmc _ k_155)) (fun _ h9 => h9) rfl dX8_merge_52 ?_
          refine lv_iload hx hb dX8_merge_55 (lv_at hl 2 rfl) ?_
          refine va_lald hx hb E.1.1 hP (36 + b) 1 hra rfl (vp_in_nI (by omega) (by omega)) dX8_merge_57 ?_
          refine htopl (v := fr lf) (by rw [nI_clamp (by omega)]) ?_
          refine va_last hx hb E.1.1 hP hD hS (37 - b) 1 hsa rfl (vp_in_nI (by omega) (by omega)) dX8_merge_58 (fun H locs hP hD hS => ?_)
          rw [nI_clamp (show i < 2 ^ 31 by omega)] at hP hD
          obtain ⟨ws4, ews4⟩ : ∃ zw : va_W, zw = List.set w1 (37 - b) (sa, .inl (K 1, S, .inr (.inl (vp_updL fs i (fr lf))))) := ⟨_, rfl⟩
          have hP : va_P D vwCl ws4 H := by rw [ews4]; exact hP
          have hD : va_D A ws4 := by rw [ews4]; exact hD
          have h35 := (show ws4[35]? = _ from (by rw [ews4]; exact hset_ne (by omega))).trans h35
          have hra := (show ws4[(36 + b)]? = _ from (by rw [ews4]; exact hset_ne (by omega))).trans hra
          have hsa : ws4[(37 - b)]? = some (sa, .inl (K 1, S, .inr (.inl (vp_updL fs i (fr lf))))) := by rw [ews4]; exact hset_eq hsa
          refine lv_iinc (v := nI (lf + 1)) (lv' := [(4, .int (nI (lf + 1))), (6, .int (nI i)), (5, .int (nI r)), (0, .ref (ad 35)), (1, .int (nI fr0)), (2, .int (nI mid)), (3, .int (nI to))]) hx hb dX8_merge_59 hl (k := 2) rfl (nI_1 _) (by decide) rfl (fun ls hl => ?_)
          refine lv_goto (tgt := 82) hx hb dX8_merge_62 (by decide) ?_
          refine lv_iinc (v := nI (i + 1)) (lv' := [(6, .int (nI (i + 1))), (4, .int (nI (lf + 1))), (5, .int (nI r)), (0, .ref (ad 35)), (1, .int (nI fr0)), (2, .int (nI mid)), (3, .int (nI to))]) hx hb dX8_merge_82 hl (k := 1) rfl (nI_1 _) (by decide) rfl (fun ls hl => ?_)
          refine lv_goto (tgt := 9) hx hb dX8_merge_85 (by decide) ?_
          exact ih (lf + 1, r, i + 1) _ H locs ls ⟨by show lf + 1 ≤ mid; omega, by show mid ≤ r; omega, by show r ≤ to; omega, by show i + 1 + mid = lf + 1 + (r); omega, by rw [ews4]; exact hag.set (by omega) (by omega), h35, ⟨fr, hra⟩, _, hsa⟩ (by show to - (i + 1) < to - i; omega) hP hD hS (lv_sub hl [0, 2, 1, 3, 4, 5, 6] rfl)

set_option maxHeartbeats 4000000 in
set_option maxRecDepth 100000 in
/-- sort -/
theorem c_X8_sort (l : Launch) (D : va_G) (K : Nat → ClassId) (tv : Nat) (ws : va_W) (ad : Nat → Nat) (b ra sa L S cnt : Nat) (hb1 : b ≤ 1) (hso : hSol K ad ws b ra sa L S cnt) (hcl : cnt ≤ L) (hSL : S ≤ L) (hL : L ≤ 20000) : hV l D (hTy K) tv yX8_sort cX8_sort 3 none ({ frames := 1, cells := (if S < L then 1 else 0), slots := (if S < L then L else 0), locals := 60 }) [.ref (ad 35)] ws (fun ws1 => hAg 35 38 ws ws1 ∧ ∃ b1 ra1 sa1, b1 ≤ 1 ∧ hSol K ad ws1 b1 ra1 sa1 L L cnt) := by
  intro sz
  refine Met.ofW (cc := cX8_sort) (maxL := 3) (ret := none) (by decide) rfl ?_
  intro p e s m args below meth c s₁ B hml hv0
  obtain ⟨rfl, rfl, E, hP, hD⟩ := hentry hv0
  have hx := B.exec
  have hb := B.bytes
  have hr := B.returns
  have hts := atoms_spec (ws := hC yX8_sort cX8_sort 3 none) B.pre
  have hown : s.vm.findClass RX8 = some m.cls := findClass_of_methodNamed B.named
  have hlocks := B.notSynchronized
  generalize hAe : va_A ws s.heap.size = A at hD E ⊢
  have hl := lv_entry ([.ref (ad 35)]) (n := 3) (Nat.le_of_ble_eq_true rfl)
  rw [lg_entry_eq]
  generalize (lg_sl ([.ref (ad 35)]) ++ List.replicate (3 - (lg_sl ([.ref (ad 35)])).length) Slot.unset).toArray = ls at hl ⊢
  have hl : lv_has ls 3 [(0, .ref (ad 35))] := hl
  refine hat0 (fun H hHe => ?_)
  have hP : va_P D vwCl ws H := by rw [hHe]; exact hP
  have hS : va_S A s.heap H [] := by rw [hHe]; exact va_S.rf
  obtain ⟨h35, ⟨fr, hra⟩, fs, hsa⟩ := id hso
  refine lv_aload_n hx hb dX8_sort_0 rfl (lv_at hl 0 rfl) ?_
  refine va_get (v := .ref sa) (C := RX8) (T := TX8) (N := 3) hx hb hts (hin_X8 hmc) hown E.1.1 hP 35 h35 rfl 1 (by decide) (hts _ (hmc _ k_156)) (fun _ h9 => h9) rfl dX8_sort_1 ?_
  refine va_alen (v := nI S) hx hb E.1.1 hP (37 - b) 1 hsa rfl rfl dX8_sort_4 ?_
  refine lv_aload_n hx hb dX8_sort_5 rfl (lv_at hl 0 rfl) ?_
  refine va_get (v := .ref ra) (C := RX8) (T := TX8) (N := 3) hx hb hts (hin_X8 hmc) hown E.1.1 hP 35 h35 rfl 0 (by decide) (hts _ (hmc _ k_155)) (fun _ h9 => h9) rfl dX8_sort_6 ?_
  refine va_alen (v := nI L) hx hb E.1.1 hP (36 + b) 1 hra rfl rfl dX8_sort_9 ?_
  refine lv_icmp_ge (tgt := 24) hx hb dX8_sort_10 (by decide) (fun c1 => ?_) (fun c1 => ?_)
  · have hz : S = L := by have := (nI_leI (by omega) (by omega)).mp c1; omega
    refine W.widen (k := (if S < L then 1 else 0)) (n := (if S < L then L else 0)) (Nat.zero_le _) (Nat.zero_le _) ?_
    have hso0 : hSol K ad ws b ra sa L L cnt := by
      have h9 := hso
      rw [hz] at h9
      exact h9
    have hag0 : hAg 35 38 ws ws := hAg.rf
    refine lv_iconst (v := nI 1) hx hb dX8_sort_24 (by decide +kernel) ?_
    refine lv_istore_n (lv' := [(1, .int (nI 1)), (0, .ref (ad 35))]) hx hb dX8_sort_25 rfl hl (by decide) rfl (fun ls hl => ?_)
    refine hloopW (α := Nat) 26 3 (fun wd => [(1, .int (nI wd)), (0, .ref (ad 35))]) (fun wd w1 => 1 ≤ wd ∧ wd ≤ 40000 ∧ hAg 35 38 ws w1 ∧ ∃ b ra sa, b ≤ 1 ∧ hSol K ad w1 b ra sa L L cnt) (fun wd => cnt - wd) (fun _ => (if S < L then 1 else 0)) (fun _ => (if S < L then L else 0)) ?_ 1 ⟨by decide, by decide, hag0, _, _, _, hb1, hso0⟩ hP hD hS (lv_sub hl [0, 1] rfl)
    clear hso0 hag0
    intro wd w1 H locs ls hI1 hP hD hS hl ih
    obtain ⟨hw1, hw2, hag, b, ra, sa, hb1, hso1⟩ := hI1
    have hl : lv_has ls 3 [(1, .int (nI wd)), (0, .ref (ad 35))] := hl
    obtain ⟨h35, ⟨fr, hra⟩, fs, hsa⟩ := id hso1
    refine lv_iload_n hx hb dX8_sort_26 rfl (lv_at hl 0 rfl) ?_
    refine lv_aload_n hx hb dX8_sort_27 rfl (lv_at hl 1 rfl) ?_
    refine va_get (v := .int (nI cnt)) (C := RX8) (T := TX8) (N := 3) hx hb hts (hin_X8 hmc) hown E.1.1 hP 35 h35 rfl 2 (by decide) (hts _ (hmc _ k_157)) (fun _ h9 => h9) rfl dX8_sort_28 ?_
    refine lv_icmp_ge (tgt := 105) hx hb dX8_sort_31 (by decide) (fun c2 => ?_) (fun c2 => ?_)
    · subst hAe
      exact W.vret hx hb hr (fun t ht _ => ⟨⟨w1, rfl, ⟨hag, b, ra, sa, hb1, hso1⟩, by rw [ht]; exact hP, hD⟩, hS.F ht⟩) hS.2.2 dX8_sort_105
    · have hwc : wd < cnt := Nat.not_le.mp (fun z => c2 (nI_le z (by omega)))
      refine lv_iconst (v := nI 0) hx hb dX8_sort_34 (by decide +kernel) ?_
      refine lv_istore_n (lv' := [(2, .int (nI 0)), (1, .int (nI wd)), (0, .ref (ad 35))]) hx hb dX8_sort_35 rfl hl (by decide) rfl (fun ls hl => ?_)
      refine hloopW (α := Nat) 36 3 (fun fm => [(2, .int (nI fm)), (1, .int (nI wd)), (0, .ref (ad 35))]) (fun fm w2 => fm ≤ 100000 ∧ hAg 35 38 ws w2 ∧ hSol K ad w2 b ra sa L L cnt) (fun fm => cnt - fm) (fun _ => (if S < L then 1 else 0)) (fun _ => (if S < L then L else 0)) ?_ 0 ⟨by decide, hag, hso1⟩ hP hD hS (lv_sub hl [0, 1, 2] rfl)
      clear hso1 hag
      intro fm w2 H locs ls hI2 hP hD hS hl ih2
      obtain ⟨hfm, hag, hso1⟩ := hI2
      have hl : lv_has ls 3 [(2, .int (nI fm)), (1, .int (nI wd)), (0, .ref (ad 35))] := hl
      obtain ⟨h35, ⟨fr, hra⟩, fs, hsa⟩ := id hso1
      refine lv_iload_n hx hb dX8_sort_36 rfl (lv_at hl 0 rfl) ?_
      refine lv_aload_n hx hb dX8_sort_37 rfl (lv_at hl 2 rfl) ?_
      refine va_get (v := .int (nI cnt)) (C := RX8) (T := TX8) (N := 3) hx hb hts (hin_X8 hmc) hown E.1.1 hP 35 h35 rfl 2 (by decide) (hts _ (hmc _ k_157)) (fun _ h9 => h9) rfl dX8_sort_38 ?_
      refine lv_icmp_ge (tgt := 80) hx hb dX8_sort_41 (by decide) (fun c3 => ?_) (fun c3 => ?_)
      · have hsw1 : w2[36 + (1 - b)]? = some (sa, .inl (K 1, L, .inr (.inl fs))) := by rw [show 36 + (1 - b) = 37 - b by omega]; exact hsa
        have hsw2 : w2[37 - (1 - b)]? = some (ra, .inl (K 1, L, .inr (.inl fr))) := by rw [show 37 - (1 - b) = 36 + b by omega]; exact hra
        refine lv_aload_n hx hb dX8_sort_80 rfl (lv_at hl 2 rfl) ?_
        refine va_get (v := .ref sa) (C := RX8) (T := TX8) (N := 3) hx hb hts (hin_X8 hmc) hown E.1.1 hP 35 h35 rfl 1 (by decide) (hts _ (hmc _ k_156)) (fun _ h9 => h9) rfl dX8_sort_81 ?_
        refine lv_astore_n (lv' := [(2, .ref sa), (1, .int (nI wd)), (0, .ref (ad 35))]) hx hb dX8_sort_84 rfl hl (by decide) rfl (fun ls hl => ?_)
        refine lv_aload_n hx hb dX8_sort_85 rfl (lv_at hl 2 rfl) ?_
        refine lv_aload_n hx hb dX8_sort_86 rfl (lv_at hl 2 rfl) ?_
        refine va_get (v := .ref ra) (C := RX8) (T := TX8) (N := 3) hx hb hts (hin_X8 hmc) hown E.1.1 hP 35 h35 rfl 0 (by decide) (hts _ (hmc _ k_155)) (fun _ h9 => h9) rfl dX8_sort_87 ?_
        refine va_put (v := .ref ra) (ty := .array .long) (C := RX8) (T := TX8) (N := 3) hx hb hts (hin_X8 hmc) tyX8 tyX8_ok nmX8 hown E.1.1 hP hD hS 35 h35 rfl 1 (by decide) (hts _ (hmc _ k_156)) (fun _ h9 => h9) rfl (by decide +kernel) rfl rfl (Nat.le_of_ble_eq_true rfl) dX8_sort_90 (fun H locs hP hD hS => ?_)
        obtain ⟨ws1, ews1⟩ : ∃ zw : va_W, zw = List.set w2 35 ((ad 35), .inr (iU, [.ref ra, .ref ra, .int (nI cnt)])) := ⟨_, rfl⟩
        have hP : va_P D vwCl ws1 H := by rw [ews1]; exact hP
        have hD : va_D A ws1 := by rw [ews1]; exact hD
        have h35 : ws1[35]? = some ((ad 35), .inr (iU, [.ref ra, .ref ra, .int (nI cnt)])) := by rw [ews1]; exact hset_eq h35
        refine lv_aload_n hx hb dX8_sort_93 rfl (lv_at hl 2 rfl) ?_
        refine lv_aload_n hx hb dX8_sort_94 rfl (lv_at hl 0 rfl) ?_
        refine va_put (v := .ref sa) (ty := .array .long) (C := RX8) (T := TX8) (N := 3) hx hb hts (hin_X8 hmc) tyX8 tyX8_ok nmX8 hown E.1.1 hP hD hS 35 h35 rfl 0 (by decide) (hts _ (hmc _ k_155)) (fun _ h9 => h9) rfl (by decide +kernel) rfl rfl (Nat.le_of_ble_eq_true rfl) dX8_sort_95 (fun H locs hP hD hS => ?_)
        obtain ⟨ws2, ews2⟩ : ∃ zw : va_W, zw = List.set ws1 35 ((ad 35), .inr (iU, [.ref sa, .ref ra, .int (nI cnt)])) := ⟨_, rfl⟩
        have hP : va_P D vwCl ws2 H := by rw [ews2]; exact hP
        have hD : va_D A ws2 := by rw [ews2]; exact hD
        have h35 : ws2[35]? = some ((ad 35), .inr (iU, [.ref sa, .ref ra, .int (nI cnt)])) := by rw [ews2]; exact hset_eq h35
        refine lv_iload_n hx hb dX8_sort_98 rfl (lv_at hl 1 rfl) ?_
        refine lv_iconst (v := nI 2) hx hb dX8_sort_99 (by decide +kernel) ?_
        refine lv_imul hx hb dX8_sort_100 ?_
        refine htopi (v := nI (wd * 2)) (pk_mul _ _) ?_
        refine lv_istore_n (lv' := [(1, .int (nI (wd * 2))), (2, .ref sa), (0, .ref (ad 35))]) hx hb dX8_sort_101 rfl hl (by decide) rfl (fun ls hl => ?_)
        refine lv_goto (tgt := 26) hx hb dX8_sort_102 (by decide) ?_
        exact ih (wd * 2) _ H locs ls ⟨by omega, by omega, by rw [ews2, ews1]; exact (hag.set (by decide) (by decide)).set (by decide) (by decide), 1 - b, sa, ra, by omega, h35, ⟨fs, by rw [ews2, ews1, hset_ne (by omega), hset_ne (by omega)]; exact hsw1⟩, fr, by rw [ews2, ews1, hset_ne (by omega), hset_ne (by omega)]; exact hsw2⟩ (by omega) hP hD hS (lv_sub hl [0, 2] rfl)
      · have hfc : fm < cnt := Nat.not_le.mp (fun z => c3 (nI_le z (by omega)))
        refine lv_aload_n hx hb dX8_sort_44 rfl (lv_at hl 2 rfl) ?_
        refine lv_iload_n hx hb dX8_sort_45 rfl (lv_at hl 0 rfl) ?_
        refine lv_iload_n hx hb dX8_sort_46 rfl (lv_at hl 0 rfl) ?_
        refine lv_iload_n hx hb dX8_sort_47 rfl (lv_at hl 1 rfl) ?_
        refine lv_iadd hx hb dX8_sort_48 ?_
        refine htopi (v := nI (fm + wd)) (nI_add _ _) ?_
        refine lv_aload_n hx hb dX8_sort_49 rfl (lv_at hl 2 rfl) ?_
        refine va_get (v := .int (nI cnt)) (C := RX8) (T := TX8) (N := 3) hx hb hts (hin_X8 hmc) hown E.1.1 hP 35 h35 rfl 2 (by decide) (hts _ (hmc _ k_157)) (fun _ h9 => h9) rfl dX8_sort_50 ?_
        refine va_mmin hx hb (hml.trans hl.1.symm) hown (hts _ (hmc _ k_488)) (hts _ (hmc _ k_489)) (hts _ (hmc _ k_30)) (hts _ (hmc _ k_490)) (Nat.le_of_ble_eq_true rfl) (Nat.le_of_ble_eq_true rfl) (Nat.le_refl _) (Nat.le_refl _) dX8_sort_53 ?_
        refine htopi (v := nI (min (fm + wd) cnt)) (hmini (by omega) (by omega)) ?_
        refine lv_iload_n hx hb dX8_sort_56 rfl (lv_at hl 0 rfl) ?_
        refine lv_iconst (v := nI 2) hx hb dX8_sort_57 (by decide +kernel) ?_
        refine lv_iload_n hx hb dX8_sort_58 rfl (lv_at hl 1 rfl) ?_
        refine lv_imul hx hb dX8_sort_59 ?_
        refine htopi (v := nI (2 * wd)) (pk_mul _ _) ?_
        refine lv_iadd hx hb dX8_sort_60 ?_
        refine htopi (v := nI (fm + (2 * wd))) (nI_add _ _) ?_
        refine lv_aload_n hx hb dX8_sort_61 rfl (lv_at hl 2 rfl) ?_
        refine va_get (v := .int (nI cnt)) (C := RX8) (T := TX8) (N := 3) hx hb hts (hin_X8 hmc) hown E.1.1 hP 35 h35 rfl 2 (by decide) (hts _ (hmc _ k_157)) (fun _ h9 => h9) rfl dX8_sort_62 ?_
        refine va_mmin hx hb (hml.trans hl.1.symm) hown (hts _ (hmc _ k_488)) (hts _ (hmc _ k_489)) (hts _ (hmc _ k_30)) (hts _ (hmc _ k_490)) (Nat.le_of_ble_eq_true rfl) (Nat.le_of_ble_eq_true rfl) (Nat.le_refl _) (Nat.le_refl _) dX8_sort_65 ?_
        refine htopi (v := nI (min (fm + 2 * wd) cnt)) (hmini (by omega) (by omega)) ?_
        refine hc_v E hD hS (va_runV (As := [.int (nI fm), .int (nI (min (fm + wd) cnt)), .int (nI (min (fm + 2 * wd) cnt))]) (rest := []) ⟨hx, hb, hml, hown, hts⟩ ((c_X8_merge l D K tv w2 ad b ra sa L L cnt hb1 hso1 fm (min (fm + wd) cnt) (min (fm + 2 * wd) cnt) (by omega) (by omega) (by omega) (by omega) (by omega) (by omega)) H.size) (cwV 3 hts (hGV hmc k_543 k_545 k_3 k_27 k_546) rfl rfl rfl (by decide +kernel) ⟨Nat.le_of_ble_eq_true rfl, Nat.le_of_ble_eq_true rfl⟩) (hpreV E hP hD hS h35 rfl) rfl rfl hl.1 rfl (lv_room (Nat.le_of_ble_eq_true rfl)) dX8_sort_68 ⟨(Nat.le_refl _), (Nat.le_refl _)⟩) (fun ws3 H locs hp hP hD hS => ?_)
        obtain ⟨hg, hso2⟩ := hp
        refine lv_iload_n hx hb dX8_sort_71 rfl (lv_at hl 0 rfl) ?_
        refine lv_iconst (v := nI 2) hx hb dX8_sort_72 (by decide +kernel) ?_
        refine lv_iload_n hx hb dX8_sort_73 rfl (lv_at hl 1 rfl) ?_
        refine lv_imul hx hb dX8_sort_74 ?_
        refine htopi (v := nI (2 * wd)) (pk_mul _ _) ?_
        refine lv_iadd hx hb dX8_sort_75 ?_
        refine htopi (v := nI (fm + (2 * wd))) (nI_add _ _) ?_
        refine lv_istore_n (lv' := [(2, .int (nI (fm + (2 * wd)))), (1, .int (nI wd)), (0, .ref (ad 35))]) hx hb dX8_sort_76 rfl hl (by decide) rfl (fun ls hl => ?_)
        refine lv_goto (tgt := 36) hx hb dX8_sort_77 (by decide) ?_
        exact ih2 (fm + 2 * wd) _ H locs ls ⟨by omega, hag.tr hg, hso2⟩ (by omega) hP hD hS (lv_sub hl [0, 1, 2] rfl)
  · have hz : S < L := Nat.not_le.mp (fun z => c1 (nI_le z (by omega)))
    have hc1 : (if S < L then 1 else 0) = 1 := if_pos hz
    have hc2 : (if S < L then L else 0) = L := if_pos hz
    refine lv_aload_n hx hb dX8_sort_13 rfl (lv_at hl 0 rfl) ?_
    refine lv_aload_n hx hb dX8_sort_14 rfl (lv_at hl 0 rfl) ?_
    refine va_get (v := .ref ra) (C := RX8) (T := TX8) (N := 3) hx hb hts (hin_X8 hmc) hown E.1.1 hP 35 h35 rfl 0 (by decide) (hts _ (hmc _ k_155)) (fun _ h9 => h9) rfl dX8_sort_15 ?_
    refine va_alen (v := nI L) hx hb E.1.1 hP (36 + b) 1 hra rfl rfl dX8_sort_18 ?_
    refine va_newa (atype := .long) (ty := .long) (N' := L) (a0 := (L, .inr (.inl (fun _ => 0)))) hx hb (hts _ (hmc _ k_166)) rfl E.1.1 hP hD hS E.2.2 (fun _ => rfl) (nI_pos (by omega)) (nI_clamp (by omega)) (by show L * 8 ≤ _; omega) (by show 0 + 1 ≤ (if S < L then 1 else 0); omega) (by show 0 + L ≤ (if S < L then L else 0); omega) dX8_sort_19 (fun q cA H hK1 hP hD hS => ?_)
    obtain rfl : cA = K 1 := hRA (hK1.2 (hTy K).length _ rfl).2 (E.1.1.2 1 _ rfl).2
    obtain ⟨hP, hD⟩ := hrepl (37 - b) hP hD
    obtain ⟨wsn, ewsn⟩ : ∃ z, z = List.set ws (37 - b) (q, .inl (K 1, L, .inr (.inl (fun _ => 0)))) := ⟨_, rfl⟩
    have hP : va_P D vwCl wsn H := by rw [ewsn]; exact hP
    have hD : va_D A wsn := by rw [ewsn]; exact hD
    have h35 : wsn[35]? = _ := (show wsn[35]? = ws[35]? by rw [ewsn]; exact hset_ne (by omega)).trans h35
    have hra : wsn[36 + b]? = _ := (show wsn[36 + b]? = ws[36 + b]? by rw [ewsn]; exact hset_ne (by omega)).trans hra
    have hsq : wsn[37 - b]? = some (q, .inl (K 1, L, .inr (.inl (fun _ => 0)))) := by rw [ewsn]; exact hset_eq hsa
    refine va_put (v := .ref q) (ty := .array .long) (C := RX8) (T := TX8) (N := 3) hx hb hts (hin_X8 hmc) tyX8 tyX8_ok nmX8 hown E.1.1 hP hD hS 35 h35 rfl 1 (by decide) (hts _ (hmc _ k_156)) (fun _ h9 => h9) rfl (by decide +kernel) rfl rfl (Nat.le_of_ble_eq_true rfl) dX8_sort_21 (fun H locs hP hD hS => ?_)
    obtain ⟨ws4, ews4⟩ : ∃ zw : va_W, zw = List.set wsn 35 ((ad 35), .inr (iU, [.ref ra, .ref q, .int (nI cnt)])) := ⟨_, rfl⟩
    have hP : va_P D vwCl ws4 H := by rw [ews4]; exact hP
    have hD : va_D A ws4 := by rw [ews4]; exact hD
    have h35 : ws4[35]? = some ((ad 35), .inr (iU, [.ref ra, .ref q, .int (nI cnt)])) := by rw [ews4]; exact hset_eq h35
    have hra := (show ws4[(36 + b)]? = _ from (by rw [ews4]; exact hset_ne (by omega))).trans hra
    have hsq := (show ws4[(37 - b)]? = _ from (by rw [ews4]; exact hset_ne (by omega))).trans hsq
    refine W.widen (k := (if S < L then 1 else 0)) (n := (if S < L then L else 0)) (by omega) (by omega) ?_
    have hso0 : hSol K ad ws4 b ra q L L cnt := ⟨h35, ⟨fr, hra⟩, _, hsq⟩
    have hag0 : hAg 35 38 ws ws4 := by rw [ews4, ewsn]; exact (hAg.rf.set (by omega) (by omega)).set (by omega) (by omega)
    refine lv_iconst (v := nI 1) hx hb dX8_sort_24 (by decide +kernel) ?_
    refine lv_istore_n (lv' := [(1, .int (nI 1)), (0, .ref (ad 35))]) hx hb dX8_sort_25 rfl hl (by decide) rfl (fun ls hl => ?_)
    refine hloopW (α := Nat) 26 3 (fun wd => [(1, .int (nI wd)), (0, .ref (ad 35))]) (fun wd w1 => 1 ≤ wd ∧ wd ≤ 40000 ∧ hAg 35 38 ws w1 ∧ ∃ b ra sa, b ≤ 1 ∧ hSol K ad w1 b ra sa L L cnt) (fun wd => cnt - wd) (fun _ => (if S < L then 1 else 0)) (fun _ => (if S < L then L else 0)) ?_ 1 ⟨by decide, by decide, hag0, _, _, _, hb1, hso0⟩ hP hD hS (lv_sub hl [0, 1] rfl)
    clear hso0 hag0
    intro wd w1 H locs ls hI1 hP hD hS hl ih
    obtain ⟨hw1, hw2, hag, b, ra, sa, hb1, hso1⟩ := hI1
    have hl : lv_has ls 3 [(1, .int (nI wd)), (0, .ref (ad 35))] := hl
    obtain ⟨h35, ⟨fr, hra⟩, fs, hsa⟩ := id hso1
    refine lv_iload_n hx hb dX8_sort_26 rfl (lv_at hl 0 rfl) ?_
    refine lv_aload_n hx hb dX8_sort_27 rfl (lv_at hl 1 rfl) ?_
    refine va_get (v := .int (nI cnt)) (C := RX8) (T := TX8) (N := 3) hx hb hts (hin_X8 hmc) hown E.1.1 hP 35 h35 rfl 2 (by decide) (hts _ (hmc _ k_157)) (fun _ h9 => h9) rfl dX8_sort_28 ?_
    refine lv_icmp_ge (tgt := 105) hx hb dX8_sort_31 (by decide) (fun c2 => ?_) (fun c2 => ?_)
    · subst hAe
      exact W.vret hx hb hr (fun t ht _ => ⟨⟨w1, rfl, ⟨hag, b, ra, sa, hb1, hso1⟩, by rw [ht]; exact hP, hD⟩, hS.F ht⟩) hS.2.2 dX8_sort_105
    · have hwc : wd < cnt := Nat.not_le.mp (fun z => c2 (nI_le z (by omega)))
      refine lv_iconst (v := nI 0) hx hb dX8_sort_34 (by decide +kernel) ?_
      refine lv_istore_n (lv' := [(2, .int (nI 0)), (1, .int (nI wd)), (0, .ref (ad 35))]) hx hb dX8_sort_35 rfl hl (by decide) rfl (fun ls hl => ?_)
      refine hloopW (α := Nat) 36 3 (fun fm => [(2, .int (nI fm)), (1, .int (nI wd)), (0, .ref (ad 35))]) (fun fm w2 => fm ≤ 100000 ∧ hAg 35 38 ws w2 ∧ hSol K ad w2 b ra sa L L cnt) (fun fm => cnt - fm) (fun _ => (if S < L then 1 else 0)) (fun _ => (if S < L then L else 0)) ?_ 0 ⟨by decide, hag, hso1⟩ hP hD hS (lv_sub hl [0, 1, 2] rfl)
      clear hso1 hag
      intro fm w2 H locs ls hI2 hP hD hS hl ih2
      obtain ⟨hfm, hag, hso1⟩ := hI2
      have hl : lv_has ls 3 [(2, .int (nI fm)), (1, .int (nI wd)), (0, .ref (ad 35))] := hl
      obtain ⟨h35, ⟨fr, hra⟩, fs, hsa⟩ := id hso1
      refine lv_iload_n hx hb dX8_sort_36 rfl (lv_at hl 0 rfl) ?_
      refine lv_aload_n hx hb dX8_sort_37 rfl (lv_at hl 2 rfl) ?_
      refine va_get (v := .int (nI cnt)) (C := RX8) (T := TX8) (N := 3) hx hb hts (hin_X8 hmc) hown E.1.1 hP 35 h35 rfl 2 (by decide) (hts _ (hmc _ k_157)) (fun _ h9 => h9) rfl dX8_sort_38 ?_
      refine lv_icmp_ge (tgt := 80) hx hb dX8_sort_41 (by decide) (fun c3 => ?_) (fun c3 => ?_)
      · have hsw1 : w2[36 + (1 - b)]? = some (sa, .inl (K 1, L, .inr (.inl fs))) := by rw [show 36 + (1 - b) = 37 - b by omega]; exact hsa
        have hsw2 : w2[37 - (1 - b)]? = some (ra, .inl (K 1, L, .inr (.inl fr))) := by rw [show 37 - (1 - b) = 36 + b by omega]; exact hra
        refine lv_aload_n hx hb dX8_sort_80 rfl (lv_at hl 2 rfl) ?_
        refine va_get (v := .ref sa) (C := RX8) (T := TX8) (N := 3) hx hb hts (hin_X8 hmc) hown E.1.1 hP 35 h35 rfl 1 (by decide) (hts _ (hmc _ k_156)) (fun _ h9 => h9) rfl dX8_sort_81 ?_
        refine lv_astore_n (lv' := [(2, .ref sa), (1, .int (nI wd)), (0, .ref (ad 35))]) hx hb dX8_sort_84 rfl hl (by decide) rfl (fun ls hl => ?_)
        refine lv_aload_n hx hb dX8_sort_85 rfl (lv_at hl 2 rfl) ?_
        refine lv_aload_n hx hb dX8_sort_86 rfl (lv_at hl 2 rfl) ?_
        refine va_get (v := .ref ra) (C := RX8) (T := TX8) (N := 3) hx hb hts (hin_X8 hmc) hown E.1.1 hP 35 h35 rfl 0 (by decide) (hts _ (hmc _ k_155)) (fun _ h9 => h9) rfl dX8_sort_87 ?_
        refine va_put (v := .ref ra) (ty := .array .long) (C := RX8) (T := TX8) (N := 3) hx hb hts (hin_X8 hmc) tyX8 tyX8_ok nmX8 hown E.1.1 hP hD hS 35 h35 rfl 1 (by decide) (hts _ (hmc _ k_156)) (fun _ h9 => h9) rfl (by decide +kernel) rfl rfl (Nat.le_of_ble_eq_true rfl) dX8_sort_90 (fun H locs hP hD hS => ?_)
        obtain ⟨ws5, ews5⟩ : ∃ zw : va_W, zw = List.set w2 35 ((ad 35), .inr (iU, [.ref ra, .ref ra, .int (nI cnt)])) := ⟨_, rfl⟩
        have hP : va_P D vwCl ws5 H := by rw [ews5]; exact hP
        have hD : va_D A ws5 := by rw [ews5]; exact hD
        have h35 : ws5[35]? = some ((ad 35), .inr (iU, [.ref ra, .ref ra, .int (nI cnt)])) := by rw [ews5]; exact hset_eq h35
        refine lv_aload_n hx hb dX8_sort_93 rfl (lv_at hl 2 rfl) ?_
        refine lv_aload_n hx hb dX8_sort_94 rfl (lv_at hl 0 rfl) ?_
        refine va_put (v := .ref sa) (ty := .array .long) (C := RX8) (T := TX8) (N := 3) hx hb hts (hin_X8 hmc) tyX8 tyX8_ok nmX8 hown E.1.1 hP hD hS 35 h35 rfl 0 (by decide) (hts _ (hmc _ k_155)) (fun _ h9 => h9) rfl (by decide +kernel) rfl rfl (Nat.le_of_ble_eq_true rfl) dX8_sort_95 (fun H locs hP hD hS => ?_)
        obtain ⟨ws6, ews6⟩ : ∃ zw : va_W, zw = List.set ws5 35 ((ad 35), .inr (iU, [.ref sa, .ref ra, .int (nI cnt)])) := ⟨_, rfl⟩
        have hP : va_P D vwCl ws6 H := by rw [ews6]; exact hP
        have hD : va_D A ws6 := by rw [ews6]; exact hD
        have h35 : ws6[35]? = some ((ad 35), .inr (iU, [.ref sa, .ref ra, .int (nI cnt)])) := by rw [ews6]; exact hset_eq h35
        refine lv_iload_n hx hb dX8_sort_98 rfl (lv_at hl 1 rfl) ?_
        refine lv_iconst (v := nI 2) hx hb dX8_sort_99 (by decide +kernel) ?_
        refine lv_imul hx hb dX8_sort_100 ?_
        refine htopi (v := nI (wd * 2)) (pk_mul _ _) ?_
        refine lv_istore_n (lv' := [(1, .int (nI (wd * 2))), (2, .ref sa), (0, .ref (ad 35))]) hx hb dX8_sort_101 rfl hl (by decide) rfl (fun ls hl => ?_)
        refine lv_goto (tgt := 26) hx hb dX8_sort_102 (by decide) ?_
        exact ih (wd * 2) _ H locs ls ⟨by omega, by omega, by rw [ews6, ews5]; exact (hag.set (by decide) (by decide)).set (by decide) (by decide), 1 - b, sa, ra, by omega, h35, ⟨fs, by rw [ews6, ews5, hset_ne (by omega), hset_ne (by omega)]; exact hsw1⟩, fr, by rw [ews6, ews5, hset_ne (by omega), hset_ne (by omega)]; exact hsw2⟩ (by omega) hP hD hS (lv_sub hl [0, 2] rfl)
      · have hfc : fm < cnt := Nat.not_le.mp (fun z => c3 (nI_le z (by omega)))
        refine lv_aload_n hx hb dX8_sort_44 rfl (lv_at hl 2 rfl) ?_
        refine lv_iload_n hx hb dX8_sort_45 rfl (lv_at hl 0 rfl) ?_
        refine lv_iload_n hx hb dX8_sort_46 rfl (lv_at hl 0 rfl) ?_
        refine lv_iload_n hx hb dX8_sort_47 rfl (lv_at hl 1 rfl) ?_
        refine lv_iadd hx hb dX8_sort_48 ?_
        refine htopi (v := nI (fm + wd)) (nI_add _ _) ?_
        refine lv_aload_n hx hb dX8_sort_49 rfl (lv_at hl 2 rfl) ?_
        refine va_get (v := .int (nI cnt)) (C := RX8) (T := TX8) (N := 3) hx hb hts (hin_X8 hmc) hown E.1.1 hP 35 h35 rfl 2 (by decide) (hts _ (hmc _ k_157)) (fun _ h9 => h9) rfl dX8_sort_50 ?_
        refine va_mmin hx hb (hml.trans hl.1.symm) hown (hts _ (hmc _ k_488)) (hts _ (hmc _ k_489)) (hts _ (hmc _ k_30)) (hts _ (hmc _ k_490)) (Nat.le_of_ble_eq_true rfl) (Nat.le_of_ble_eq_true rfl) (Nat.le_refl _) (Nat.le_refl _) dX8_sort_53 ?_
        refine htopi (v := nI (min (fm + wd) cnt)) (hmini (by omega) (by omega)) ?_
        refine lv_iload_n hx hb dX8_sort_56 rfl (lv_at hl 0 rfl) ?_
        refine lv_iconst (v := nI 2) hx hb dX8_sort_57 (by decide +kernel) ?_
        refine lv_iload_n hx hb dX8_sort_58 rfl (lv_at hl 1 rfl) ?_
        refine lv_imul hx hb dX8_sort_59 ?_
        refine htopi (v := nI (2 * wd)) (pk_mul _ _) ?_
        refine lv_iadd hx hb dX8_sort_60 ?_
        refine htopi (v := nI (fm + (2 * wd))) (nI_add _ _) ?_
        refine lv_aload_n hx hb dX8_sort_61 rfl (lv_at hl 2 rfl) ?_
        refine va_get (v := .int (nI cnt)) (C := RX8) (T := TX8) (N := 3) hx hb hts (hin_X8 hmc) hown E.1.1 hP 35 h35 rfl 2 (by decide) (hts _ (hmc _ k_157)) (fun _ h9 => h9) rfl dX8_sort_62 ?_
        refine va_mmin hx hb (hml.trans hl.1.symm) hown (hts _ (hmc _ k_488)) (hts _ (hmc _ k_489)) (hts _ (hmc _ k_30)) (hts _ (hmc _ k_490)) (Nat.le_of_ble_eq_true rfl) (Nat.le_of_ble_eq_true rfl) (Nat.le_refl _) (Nat.le_refl _) dX8_sort_65 ?_
        refine htopi (v := nI (min (fm + 2 * wd) cnt)) (hmini (by omega) (by omega)) ?_
        refine hc_v E hD hS (va_runV (As := [.int (nI fm), .int (nI (min (fm + wd) cnt)), .int (nI (min (fm + 2 * wd) cnt))]) (rest := []) ⟨hx, hb, hml, hown, hts⟩ ((c_X8_merge l D K tv w2 ad b ra sa L L cnt hb1 hso1 fm (min (fm + wd) cnt) (min (fm + 2 * wd) cnt) (by omega) (by omega) (by omega) (by omega) (by omega) (by omega)) H.size) (cwV 3 hts (hGV hmc k_543 k_545 k_3 k_27 k_546) rfl rfl rfl (by decide +kernel) ⟨Nat.le_of_ble_eq_true rfl, Nat.le_of_ble_eq_true rfl⟩) (hpreV E hP hD hS h35 rfl) rfl rfl hl.1 rfl (lv_room (Nat.le_of_ble_eq_true rfl)) dX8_sort_68 ⟨(Nat.le_refl _), (Nat.le_refl _)⟩) (fun ws7 H locs hp hP hD hS => ?_)
        obtain ⟨hg, hso2⟩ := hp
        refine lv_iload_n hx hb dX8_sort_71 rfl (lv_at hl 0 rfl) ?_
        refine lv_iconst (v := nI 2) hx hb dX8_sort_72 (by decide +kernel) ?_
        refine lv_iload_n hx hb dX8_sort_73 rfl (lv_at hl 1 rfl) ?_
        refine lv_imul hx hb dX8_sort_74 ?_
        refine htopi (v := nI (2 * wd)) (pk_mul _ _) ?_
        refine lv_iadd hx hb dX8_sort_75 ?_
        refine htopi (v := nI (fm + (2 * wd))) (nI_add _ _) ?_
        refine lv_istore_n (lv' := [(2, .int (nI (fm + (2 * wd)))), (1, .int (nI wd)), (0, .ref (ad 35))]) hx hb dX8_sort_76 rfl hl (by decide) rfl (fun ls hl => ?_)
        refine lv_goto (tgt := 36) hx hb dX8_sort_77 (by decide) ?_
        exact ih2 (fm + 2 * wd) _ H locs ls ⟨by omega, hag.tr hg, hso2⟩ (by omega) hP hD hS (lv_sub hl [0, 1, 2] rfl)
