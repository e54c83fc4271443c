set_option maxHeartbeats 4000000 in
set_option maxRecDepth 100000 in
/-- the reference: join -/
theorem c3_join (l : Launch) (D : va_G) (K : Nat → ClassId) (tv : Nat) (ws : va_W) (ad : Nat → Nat) (f : Nat → Nat → Int32) (ct pt md : Nat) (lz : Int64) (kp : Nat) (fd : Int32) (hrx : hRX K ad ws f ct pt md lz kp fd) (hp6 : pt ≤ 6) (hc6 : ct ≤ 640) (S : Nat → Nat → Nat → Prop) (hT : hRT (f 1) S ct) (n : Nat) (hn6 : n ≤ 6) (od : Nat → Nat) (Ps : Nat → Nat → Nat) (hod : ∀ k, k < n → od k < pt ∧ f 3 k = nI (od k)) (hPs : ∀ k, k < n → ∀ i, i < 3 → f 2 (3 * od k + i) = hit (Ps k i) ∧ Ps k i < 72) : hI l D (hTy K) tv yX9_join cX9_join 6 (some .int) ({ frames := 2, cells := 0, slots := 0, locals := 120 }) [.ref (ad 0), .ref (ad 3), .int (nI n), .int (nI 0)] ws (fun r ws1 => ∃ g kp1, hRX K ad ws1 g ct pt md lz kp1 fd ∧ (∀ k, k ≠ 7 → k ≠ 8 → k ≠ 9 → k ≠ 10 → g k = f k) ∧ kp1 ≤ 20000 ∧ ((20000 < hCt 1 0 S Ps n n (fun _ => 0) ∧ r = (-1)) ∨ (hCt 1 0 S Ps n n (fun _ => 0) ≤ 20000 ∧ r = nI (hCt 1 0 S Ps n n (fun _ => 0))))) := by
  intro sz
  refine Met.ofW (cc := cX9_join) (maxL := 6) (ret := (some .int)) (by decide) rfl ?_
  intro p e s m args below meth c s₁ B hml hv0
  obtain ⟨rfl, rfl, E, hP, hD⟩ := hentry hv0
  have hx := B.exec
  have hb := B.bytes
  have hr := B.returns
  have hts := atoms_spec (ws := hC yX9_join cX9_join 6 (some .int)) B.pre
  have hown : s.vm.findClass RX9 = some m.cls := findClass_of_methodNamed B.named
  have hlocks := B.notSynchronized
  generalize hAe : va_A ws s.heap.size = A at hD E ⊢
  have hl := lv_entry ([.ref (ad 0), .ref (ad 3), .int (nI n), .int (nI 0)]) (n := 6) (Nat.le_of_ble_eq_true rfl)
  rw [lg_entry_eq]
  generalize (lg_sl ([.ref (ad 0), .ref (ad 3), .int (nI n), .int (nI 0)]) ++ List.replicate (6 - (lg_sl ([.ref (ad 0), .ref (ad 3), .int (nI n), .int (nI 0)])).length) Slot.unset).toArray = ls at hl ⊢
  have hl : lv_has ls 6 [(0, .ref (ad 0)), (1, .ref (ad 3)), (2, .int (nI n)), (3, .int (nI 0))] := hl
  refine hat0 (fun H hHe => ?_)
  have hP : va_P D vwCl ws H := by rw [hHe]; exact hP
  have hS : va_S A s.heap H [] := by rw [hHe]; exact va_S.rf
  obtain ⟨ta, tb, tc, t1, t2, t3⟩ := id hT
  have t64 : ∀ t, t < ct → ta t < 64 ∧ tb t < 64 ∧ tc t < 64 := fun t ht => (t1 t ht).2.2.2
  have htr : ∀ t, t < ct → ∀ i, i < 3 → f 1 (3 * t + i) = nI (hpk i (ta t) (tb t) (tc t)) := fun t ht i hi => (hkey_at t1 hi t ht).1
  have g0 := hrx.1
  refine lv_iconst (v := nI 0) hx hb dX9_join_0 (by decide +kernel) ?_
  refine lv_istore (lv' := [(4, .int (nI 0)), (0, .ref (ad 0)), (1, .ref (ad 3)), (2, .int (nI n)), (3, .int (nI 0))]) hx hb dX9_join_1 hl (by decide) rfl (fun ls hl => ?_)
  refine lv_aload_n hx hb dX9_join_3 rfl (lv_at hl 1 rfl) ?_
  refine lv_iconst (v := nI 0) hx hb dX9_join_4 (by decide +kernel) ?_
  refine va_put (v := .int (nI 0)) (ty := .int) (C := RX9) (T := TX9) (N := 18) hx hb hts (hin_X9 hmc) tyX9 tyX9_ok nmX9 hown E.1.1 hP hD hS 0 g0 rfl 14 (by decide) (hts _ (hmc _ k_583)) (fun _ h9 => h9) rfl (by decide +kernel) rfl rfl (Nat.le_of_ble_eq_true rfl) dX9_join_5 (fun H locs hP hD hS => ?_)
  obtain ⟨ws1, ews1⟩ : ∃ zw : va_W, zw = List.set ws 0 ((ad 0), .inr (iM, [.ref (ad 1), .int (nI ct), .ref (ad 2), .int (nI pt), .ref (ad 3), .int (nI md), .ref (ad 4), .ref (ad 5), .ref (ad 6), .long lz, .ref (ad 7), .ref (ad 8), .ref (ad 9), .ref (ad 10), .int (nI 0), .int fd, .ref (ad 11), .ref (ad 12)])) := ⟨_, rfl⟩
  have hP : va_P D vwCl ws1 H := by rw [ews1]; exact hP
  have hD : va_D A ws1 := by rw [ews1]; exact hD
  have g0 : ws1[0]? = some ((ad 0), .inr (iM, [.ref (ad 1), .int (nI ct), .ref (ad 2), .int (nI pt), .ref (ad 3), .int (nI md), .ref (ad 4), .ref (ad 5), .ref (ad 6), .long lz, .ref (ad 7), .ref (ad 8), .ref (ad 9), .ref (ad 10), .int (nI 0), .int fd, .ref (ad 11), .ref (ad 12)])) := by rw [ews1]; exact hset_eq g0
  have hrx : hRX K ad ws1 f ct pt md lz 0 fd := by rw [ews1]; exact hrx.obj
  refine lv_iconst (v := nI 0) hx hb dX9_join_8 (by decide +kernel) ?_
  refine lv_istore (lv' := [(5, .int (nI 0)), (4, .int (nI 0)), (0, .ref (ad 0)), (1, .ref (ad 3)), (2, .int (nI n)), (3, .int (nI 0))]) hx hb dX9_join_9 hl (by decide) rfl (fun ls hl => ?_)
  refine hloopW (α := Nat) 11 6 (fun v => [(5, .int (nI v)), (4, .int (nI 0)), (0, .ref (ad 0)), (1, .ref (ad 3)), (2, .int (nI n)), (3, .int (nI 0))]) (fun v w9 => v ≤ 9 ∧ ∃ f8, hRX K ad w9 (hup f 8 f8) ct pt md lz 0 fd ∧ ∀ x, x < v → f8 x = nI 0) (fun v => 9 - v) (fun _ => 0) (fun _ => 0) ?_ 0 ⟨Nat.zero_le _, f 8, by rw [hup_id]; exact hrx, fun x hx => absurd hx (Nat.not_lt_zero _)⟩ hP hD hS (lv_sub hl [0, 1, 2, 3, 4, 5] rfl)
  intro v w9 H locs ls hI9 hP hD hS hl ih
  obtain ⟨hv, f8, hrx, hz8⟩ := hI9
  have hl : lv_has ls 6 [(5, .int (nI v)), (4, .int (nI 0)), (0, .ref (ad 0)), (1, .ref (ad 3)), (2, .int (nI n)), (3, .int (nI 0))] := hl
  have g0 := hrx.1
  have g8 : w9[8]? = some (ad 8, .inl (K 0, 9, .inl f8)) := hrx.2 8 (by decide) (by decide)
  refine lv_iload hx hb dX9_join_11 (lv_at hl 0 rfl) ?_
  refine lv_bipush (v := nI 9) hx hb dX9_join_13 (by decide +kernel) ?_
  refine lv_icmp_ge (tgt := 32) hx hb dX9_join_15 (by decide) (fun c1 => ?_) (fun c1 => ?_)
  · clear ih
    have hv9 := (nI_leI (by decide) (by omega)).mp c1
    have g9 : w9[9]? = some (ad 9, .inl (K 0, 6, .inl (f 9))) := hrx.2 9 (by decide) (by decide)
    refine lv_iload_n hx hb dX9_join_32 rfl (lv_at hl 4 rfl) ?_
    refine lv_if_ne (tgt := 44) hx hb dX9_join_33 (by decide) (fun c2 => ?_) (fun c2 => ?_)
    · have hn1 : 1 ≤ n := by
        rcases Nat.eq_zero_or_pos n with z | z
        · rw [z] at c2; exact absurd rfl c2
        · exact z
      refine lv_iload_n hx hb dX9_join_44 rfl (lv_at hl 4 rfl) ?_
      refine lv_if_ne (tgt := 52) hx hb dX9_join_45 (by decide) (fun c4 => ?_) (fun c4 => ?_)
      · refine lv_iconst (v := nI 0) hx hb dX9_join_52 (by decide +kernel) ?_
        refine htopi (v := (hkv 1)) (rfl) ?_
        refine lv_istore (lv' := [(5, .int (hkv 1)), (4, .int (nI 0)), (0, .ref (ad 0)), (1, .ref (ad 3)), (2, .int (nI n)), (3, .int (nI 0))]) hx hb dX9_join_53 hl (by decide) rfl (fun ls hl => ?_)
        refine lv_aload_n hx hb dX9_join_55 rfl (lv_at hl 2 rfl) ?_
        refine va_get (v := .ref (ad 9)) (C := RX9) (T := TX9) (N := 18) hx hb hts (hin_X9 hmc) hown E.1.1 hP 0 g0 rfl 12 (by decide) (hts _ (hmc _ k_581)) (fun _ h9 => h9) rfl dX9_join_56 ?_
        refine lv_iconst (v := nI 0) hx hb dX9_join_59 (by decide +kernel) ?_
        refine lv_iconst (v := (-1)) hx hb dX9_join_60 (by decide +kernel) ?_
        refine va_iast hx hb E.1.1 hP hD hS 9 0 g9 rfl (vp_in_nI (by omega) (by omega)) dX9_join_61 (fun H locs hP hD hS => ?_)
        rw [nI_clamp (show 0 < 2 ^ 31 by omega)] at hP hD
        obtain ⟨ws2, ews2⟩ : ∃ zw : va_W, zw = List.set w9 9 ((ad 9), .inl (K 0, 6, .inl (upd (f 9) 0 (-1)))) := ⟨_, rfl⟩
        have hP : va_P D vwCl ws2 H := by rw [ews2]; exact hP
        have hD : va_D A ws2 := by rw [ews2]; exact hD
        have g0 := (show ws2[0]? = _ from (by rw [ews2]; exact hset_ne (by omega))).trans g0
        have g8 := (show ws2[8]? = _ from (by rw [ews2]; exact hset_ne (by omega))).trans g8
        have g9 : ws2[9]? = some ((ad 9), .inl (K 0, 6, .inl (upd (f 9) 0 (-1)))) := by rw [ews2]; exact hset_eq g9
        have hrx : hRX K ad ws2 (hup (hup f 8 f8) 9 (upd (f 9) 0 (-1))) ct pt md lz 0 fd := by rw [ews2]; exact hrx.arr 9 (by decide) (by decide) _
        refine hloopW (α := Nat × Nat) 62 6 (fun y => [(5, .int (hkv y.2)), (4, .int (nI y.1)), (0, .ref (ad 0)), (1, .ref (ad 3)), (2, .int (nI n)), (3, .int (nI 0))]) (fun y w9 => ∃ g kp1, hRX K ad w9 g ct pt md lz kp1 fd ∧ (∀ k, k ≠ 7 → k ≠ 8 → k ≠ 9 → k ≠ 10 → g k = f k) ∧ y.1 ≤ 20000 ∧ kp1 ≤ y.1 ∧ y.2 ≤ n ∧ ((y.2 = 0 ∧ y.1 = hCt 1 0 S Ps n n (fun _ => 0)) ∨ ∃ b d pl, y.2 = b + 1 ∧ hLvl (g 9) Ps ct ta tb tc pl b ∧ hCur (g 7) (g 8) (g 9) Ps ct ta tb tc pl b d ∧ hJI 1 0 y.1 S Ps n ct ta tb tc pl b d)) (fun y => 8 * (20000 - y.1) + y.2) (fun _ => 0) (fun _ => 0) ?_ (0, 1) ⟨_, 0, hrx, (fun k h7 h8 h9 h10 => by simp only [hup, if_neg h7, if_neg h8, if_neg h9, if_neg h10]), Nat.zero_le _, Nat.le_refl _, hn1, Or.inr ⟨0, 0, fun _ => 0, rfl, fun j hj => absurd hj (Nat.not_lt_zero _), Or.inl ⟨by
            show upd (f 9) 0 (-1) 0 = (-1)
            rw [pk_us], rfl, fun x hx => ⟨hz8 (x + 1) (by omega), Iff.rfl, Nat.zero_le _, fun z => absurd rfl z⟩⟩, hJI.start t64 t2 t3 hn1⟩⟩ hP hD hS (lv_sub hl [0, 1, 2, 3, 4, 5] rfl)
        rintro ⟨R, a⟩ w9 H locs ls hI9 hP hD hS hl ih
        obtain ⟨g, kp1, hrx, hfr, hR, hkR, han, hst⟩ := hI9
        dsimp only at hR hkR han hst ih
        have hl : lv_has ls 6 [(5, .int (hkv a)), (4, .int (nI R)), (0, .ref (ad 0)), (1, .ref (ad 3)), (2, .int (nI n)), (3, .int (nI 0))] := hl
        by_cases ha0 : a = 0
        · rw [show hkv a = (-1) from if_pos ha0] at hl
          have hfin : R = hCt 1 0 S Ps n n (fun _ => 0) := by
            rcases hst with ⟨-, q⟩ | ⟨b, d, pl, q, -⟩
            · exact q
            · omega
          have g0 := hrx.1
          refine lv_iload hx hb dX9_join_62 (lv_at hl 0 rfl) ?_
          refine lv_if_lt (tgt := 209) hx hb dX9_join_64 (by decide) (fun c5 => ?_) (fun c5 => ?_)
          · refine lv_iload hx hb dX9_join_209 (lv_at hl 1 rfl) ?_
            subst hAe
            exact W.iret (v := nI R) hx hb hr (fun t ht _ => ⟨⟨nI R, w9, rfl, ⟨g, kp1, hrx, hfr, by omega, Or.inr ⟨by have := hfin; omega, by rw [hfin]⟩⟩, by rw [ht]; exact hP, hD⟩, hS.F ht⟩) hS.2.2 dX9_join_211
          · exact absurd (by decide +kernel) c5
        · obtain ⟨b, d, pl, rfl, hlv, hcur, hji⟩ := hst.resolve_left (fun q => ha0 q.1)
          rw [show hkv (b + 1) = nI b from if_neg (by omega)] at hl
          have hbn : b < n := by omega
          obtain ⟨hq, eq0⟩ := hod b hbn
          have eq : g 3 b = nI (od b) := by rw [hfr 3 (by decide) (by decide) (by decide) (by decide)]; exact eq0
          have g0 := hrx.1
          have g3 : w9[3]? = some (ad 3, .inl (K 0, 6, .inl (g 3))) := hrx.2 3 (by decide) (by decide)
          have g9 : w9[9]? = some (ad 9, .inl (K 0, 6, .inl (g 9))) := hrx.2 9 (by decide) (by decide)
          refine lv_iload hx hb dX9_join_62 (lv_at hl 0 rfl) ?_
          refine lv_if_lt (tgt := 209) hx hb dX9_join_64 (by decide) (fun c5 => ?_) (fun c5 => ?_)
          · exact absurd c5 (nI_pos (by omega))
          · refine lv_aload_n hx hb dX9_join_67 rfl (lv_at hl 2 rfl) ?_
            refine va_get (v := .ref (ad 9)) (C := RX9) (T := TX9) (N := 18) hx hb hts (hin_X9 hmc) hown E.1.1 hP 0 g0 rfl 12 (by decide) (hts _ (hmc _ k_581)) (fun _ h9 => h9) rfl dX9_join_68 ?_
            refine lv_iload hx hb dX9_join_71 (lv_at hl 0 rfl) ?_
            refine va_iald hx hb E.1.1 hP 9 0 g9 rfl (vp_in_nI (by omega) (by omega)) dX9_join_73 ?_
            refine htopi (v := (g 9) b) (by rw [nI_clamp (by omega)]) ?_
            refine lv_if_lt (tgt := 86) hx hb dX9_join_74 (by decide) (fun c6 => ?_) (fun c6 => ?_)
            · obtain ⟨h9b, hd0, hbv⟩ : g 9 b = (-1) ∧ d = 0 ∧ hBV (g 7) (g 8) (fun x => hOS Ps x b) (hEv Ps ta tb tc pl b) := by
                rcases hcur with q | ⟨q0, q, -⟩
                · exact q
                · rw [q] at c6; exact absurd c6 (nI_pos (by omega))
              have ed : g 9 b + nI 1 = nI d := by rw [h9b, hd0]; decide +kernel
              have hd : d ≤ ct := by omega
              refine lv_aload_n hx hb dX9_join_86 rfl (lv_at hl 2 rfl) ?_
              refine va_get (v := .ref (ad 9)) (C := RX9) (T := TX9) (N := 18) hx hb hts (hin_X9 hmc) hown E.1.1 hP 0 g0 rfl 12 (by decide) (hts _ (hmc _ k_581)) (fun _ h9 => h9) rfl dX9_join_87 ?_
              refine lv_iload hx hb dX9_join_90 (lv_at hl 0 rfl) ?_
              refine lv_dup2_11 hx hb dX9_join_92 rfl rfl ?_
              refine va_iald hx hb E.1.1 hP 9 0 g9 rfl (vp_in_nI (by omega) (by omega)) dX9_join_93 ?_
              refine htopi (v := (g 9) b) (by rw [nI_clamp (by omega)]) ?_
              refine lv_iconst (v := nI 1) hx hb dX9_join_94 (by decide +kernel) ?_
              refine lv_iadd hx hb dX9_join_95 ?_
              refine htopi (v := nI d) (ed) ?_
              refine va_iast hx hb E.1.1 hP hD hS 9 0 g9 rfl (vp_in_nI (by omega) (by omega)) dX9_join_96 (fun H locs hP hD hS => ?_)
              rw [nI_clamp (show b < 2 ^ 31 by omega)] at hP hD
              obtain ⟨ws3, ews3⟩ : ∃ zw : va_W, zw = List.set w9 9 ((ad 9), .inl (K 0, 6, .inl (upd (g 9) b (nI d)))) := ⟨_, rfl⟩
              have hP : va_P D vwCl ws3 H := by rw [ews3]; exact hP
              have hD : va_D A ws3 := by rw [ews3]; exact hD
              have g0 := (show ws3[0]? = _ from (by rw [ews3]; exact hset_ne (by omega))).trans g0
              have g3 := (show ws3[3]? = _ from (by rw [ews3]; exact hset_ne (by omega))).trans g3
              have g9 : ws3[9]? = some ((ad 9), .inl (K 0, 6, .inl (upd (g 9) b (nI d)))) := by rw [ews3]; exact hset_eq g9
              have hrx : hRX K ad ws3 (hup g 9 (upd (g 9) b (nI d))) ct pt md lz kp1 fd := by rw [ews3]; exact hrx.arr 9 (by decide) (by decide) _
              refine hloopW (α := Nat) 97 6 (fun _ => [(5, .int (nI b)), (4, .int (nI R)), (0, .ref (ad 0)), (1, .ref (ad 3)), (2, .int (nI n)), (3, .int (nI 0))]) (fun e9 w9 => e9 ≤ ct ∧ ∃ g2, hRX K ad w9 g2 ct pt md lz kp1 fd ∧ (∀ k, k ≠ 7 → k ≠ 8 → k ≠ 9 → k ≠ 10 → g2 k = f k) ∧ g2 9 b = nI e9 ∧ (∀ j, j < b → g2 9 j = g 9 j) ∧ hBV (g2 7) (g2 8) (fun x => hOS Ps x b) (hEv Ps ta tb tc pl b) ∧ hJI 1 0 R S Ps n ct ta tb tc pl b e9) (fun e9 => ct - e9) (fun _ => 0) (fun _ => 0) ?_ d ⟨hd, _, hrx, (fun k h7 h8 h9 h10 => by simp only [hup, if_neg h7, if_neg h8, if_neg h9, if_neg h10]; exact hfr k h7 h8 h9 h10), by show upd (g 9) b (nI d) b = nI d; rw [pk_us], fun j hj => by show upd (g 9) b (nI d) j = g 9 j; rw [pk_un (by omega)], hbv, hji⟩ hP hD hS (lv_sub hl [0, 1, 2, 3, 4, 5] rfl)
              intro e9 w9 H locs ls hI9 hP hD hS hl ih2
              obtain ⟨he9, g2, hrx, hfr2, hge, hgo, hbv2, hji2⟩ := hI9
              have hl : lv_has ls 6 [(5, .int (nI b)), (4, .int (nI R)), (0, .ref (ad 0)), (1, .ref (ad 3)), (2, .int (nI n)), (3, .int (nI 0))] := hl
              have eq2 : g2 3 b = nI (od b) := by rw [hfr2 3 (by decide) (by decide) (by decide) (by decide)]; exact eq0
              have g0 := hrx.1
              have g3 : w9[3]? = some (ad 3, .inl (K 0, 6, .inl (g2 3))) := hrx.2 3 (by decide) (by decide)
              have g9 : w9[9]? = some (ad 9, .inl (K 0, 6, .inl (g2 9))) := hrx.2 9 (by decide) (by decide)
              refine lv_aload_n hx hb dX9_join_97 rfl (lv_at hl 2 rfl) ?_
              refine va_get (v := .ref (ad 9)) (C := RX9) (T := TX9) (N := 18) hx hb hts (hin_X9 hmc) hown E.1.1 hP 0 g0 rfl 12 (by decide) (hts _ (hmc _ k_581)) (fun _ h9 => h9) rfl dX9_join_98 ?_
              refine lv_iload hx hb dX9_join_101 (lv_at hl 0 rfl) ?_
              refine va_iald hx hb E.1.1 hP 9 0 g9 rfl (vp_in_nI (by omega) (by omega)) dX9_join_103 ?_
              refine htopi (v := (g2 9) b) (by rw [nI_clamp (by omega)]) ?_
              refine htopi (v := nI e9) (hge) ?_
              refine lv_aload_n hx hb dX9_join_104 rfl (lv_at hl 2 rfl) ?_
              refine va_get (v := .int (nI ct)) (C := RX9) (T := TX9) (N := 18) hx hb hts (hin_X9 hmc) hown E.1.1 hP 0 g0 rfl 1 (by decide) (hts _ (hmc _ k_570)) (fun _ h9 => h9) rfl dX9_join_105 ?_
              refine lv_icmp_ge (tgt := 143) hx hb dX9_join_108 (by decide) (fun c7 => ?_) (fun c7 => ?_)
              · have hec : e9 = ct := by
                  have := (nI_leI (by omega) (by omega)).mp c7
                  omega
                refine lv_aload_n hx hb dX9_join_143 rfl (lv_at hl 2 rfl) ?_
                refine va_get (v := .ref (ad 9)) (C := RX9) (T := TX9) (N := 18) hx hb hts (hin_X9 hmc) hown E.1.1 hP 0 g0 rfl 12 (by decide) (hts _ (hmc _ k_581)) (fun _ h9 => h9) rfl dX9_join_144 ?_
                refine lv_iload hx hb dX9_join_147 (lv_at hl 0 rfl) ?_
                refine va_iald hx hb E.1.1 hP 9 0 g9 rfl (vp_in_nI (by omega) (by omega)) dX9_join_149 ?_
                refine htopi (v := (g2 9) b) (by rw [nI_clamp (by omega)]) ?_
                refine htopi (v := nI e9) (hge) ?_
                refine lv_aload_n hx hb dX9_join_150 rfl (lv_at hl 2 rfl) ?_
                refine va_get (v := .int (nI ct)) (C := RX9) (T := TX9) (N := 18) hx hb hts (hin_X9 hmc) hown E.1.1 hP 0 g0 rfl 1 (by decide) (hts _ (hmc _ k_570)) (fun _ h9 => h9) rfl dX9_join_151 ?_
                refine lv_icmp_ne (tgt := 163) hx hb dX9_join_154 (by decide) (fun c8 => ?_) (fun c8 => ?_)
                · first | exact absurd (by rw [hec]) c8 | exact c8 (by rw [hec]) | exact absurd (congrArg nI hec) c8
                · refine lv_iinc (v := (hkv b)) (lv' := [(5, .int (hkv b)), (4, .int (nI R)), (0, .ref (ad 0)), (1, .ref (ad 3)), (2, .int (nI n)), (3, .int (nI 0))]) hx hb dX9_join_157 hl (k := 0) rfl (hkv_dec b) (by decide) rfl (fun ls hl => ?_)
                  refine lv_goto (tgt := 62) hx hb dX9_join_160 (by decide) ?_
                  exact ih (R, b) _ H locs ls ⟨_, _, hrx, hfr2, hR, hkR, by show b ≤ n; omega, by
                      show (b = 0 ∧ _) ∨ _
                      by_cases z : b = 0
                      · subst z; exact Or.inl ⟨rfl, hji2.done (by omega)⟩
                      · obtain ⟨b1, rfl⟩ : ∃ b1, b = b1 + 1 := ⟨b - 1, by omega⟩
                        obtain ⟨k1, k2, k3⟩ := hlv b1 (by omega)
                        exact Or.inr ⟨b1, pl b1 + 1, pl, rfl, hlv.less (by omega) (fun j hj => hgo j (by omega)), Or.inr ⟨k1, (hgo b1 (by omega)).trans k2, rfl, k3, hbv2⟩, hji2.pop (by omega)⟩⟩ (by show 8 * (20000 - R) + b < 8 * (20000 - R) + (b + 1); omega) hP hD hS (lv_sub hl [0, 1, 2, 3, 4, 5] rfl)
              · have hlt : e9 < ct := Nat.not_le.mp (fun z => c7 (nI_le z (by omega)))
                obtain ⟨b64, c64, d64⟩ := t64 e9 hlt
                refine lv_aload_n hx hb dX9_join_111 rfl (lv_at hl 2 rfl) ?_
                refine lv_aload_n hx hb dX9_join_112 rfl (lv_at hl 3 rfl) ?_
                refine lv_iload hx hb dX9_join_113 (lv_at hl 0 rfl) ?_
                refine va_iald hx hb E.1.1 hP 3 0 g3 rfl (vp_in_nI (by omega) (by omega)) dX9_join_115 ?_
                refine htopi (v := (g2 3) b) (by rw [nI_clamp (by omega)]) ?_
                refine htopi (v := nI (od b)) (eq2) ?_
                refine lv_aload_n hx hb dX9_join_116 rfl (lv_at hl 2 rfl) ?_
                refine va_get (v := .ref (ad 9)) (C := RX9) (T := TX9) (N := 18) hx hb hts (hin_X9 hmc) hown E.1.1 hP 0 g0 rfl 12 (by decide) (hts _ (hmc _ k_581)) (fun _ h9 => h9) rfl dX9_join_117 ?_
                refine lv_iload hx hb dX9_join_120 (lv_at hl 0 rfl) ?_
                refine va_iald hx hb E.1.1 hP 9 0 g9 rfl (vp_in_nI (by omega) (by omega)) dX9_join_122 ?_
                refine htopi (v := (g2 9) b) (by rw [nI_clamp (by omega)]) ?_
                refine htopi (v := nI e9) (hge) ?_
                refine hc_i E hD hS (va_runV (As := [.int (nI (od b)), .int (nI e9)]) (rest := []) ⟨hx, hb, hml, hown, hts⟩ ((c_X9_bind l D K tv w9 ad g2 ct pt md lz kp1 fd hrx (od b) e9 (by omega) (by omega) (Ps b) (fun i hi => by rw [hfr2 2 (by decide) (by decide) (by decide) (by decide)]; exact hPs b hbn i hi) (fun x => hOS Ps x b) (hEv Ps ta tb tc pl b) hbv2 (fun x => Nat.le_trans (hOS_le Ps x b) (by omega)) (ta e9) (tb e9) (tc e9) b64 c64 d64 (fun i hi => by rw [hfr2 1 (by decide) (by decide) (by decide) (by decide)]; exact htr e9 hlt i hi)) H.size) (cwV 2 hts (hGV hmc k_739 k_741 k_17 k_29 k_742) rfl rfl rfl (by decide +kernel) ⟨Nat.le_of_ble_eq_true rfl, Nat.le_of_ble_eq_true rfl⟩) (hpreV E hP hD hS g0 rfl) rfl rfl hl.1 rfl (lv_room (Nat.le_of_ble_eq_true rfl)) dX9_join_123 ⟨(Nat.le_refl _), (Nat.le_refl _)⟩) (fun r5 ws4 H locs hp hP hD hS => ?_)
                obtain ⟨f7, f8, hrx, hbd⟩ := hp
                have g0 := hrx.1
                have g9 : ws4[9]? = some (ad 9, .inl (K 0, 6, .inl (g2 9))) := hrx.2 9 (by decide) (by decide)
                refine lv_if_ne (tgt := 143) hx hb dX9_join_126 (by decide) (fun c12 => ?_) (fun c12 => ?_)
                · obtain ⟨hq9, hbv3⟩ : hCq (Ps b) (hEv Ps ta tb tc pl b) (ta e9) (tb e9) (tc e9) 3 ∧ hBV f7 f8 (fun x => hOS Ps x b + hoc (Ps b) x 3) (hXe (Ps b) (hEv Ps ta tb tc pl b) (ta e9) (tb e9) (tc e9) 3) := by
                    rcases hbd with ⟨-, q1, q2⟩ | ⟨q0, -⟩
                    · exact ⟨q1, q2⟩
                    · exact absurd q0 c12
                  refine lv_aload_n hx hb dX9_join_143 rfl (lv_at hl 2 rfl) ?_
                  refine va_get (v := .ref (ad 9)) (C := RX9) (T := TX9) (N := 18) hx hb hts (hin_X9 hmc) hown E.1.1 hP 0 g0 rfl 12 (by decide) (hts _ (hmc _ k_581)) (fun _ h9 => h9) rfl dX9_join_144 ?_
                  refine lv_iload hx hb dX9_join_147 (lv_at hl 0 rfl) ?_
                  refine va_iald hx hb E.1.1 hP 9 0 g9 rfl (vp_in_nI (by omega) (by omega)) dX9_join_149 ?_
                  refine htopi (v := (g2 9) b) (by rw [nI_clamp (by omega)]) ?_
                  refine htopi (v := nI e9) (hge) ?_
                  refine lv_aload_n hx hb dX9_join_150 rfl (lv_at hl 2 rfl) ?_
                  refine va_get (v := .int (nI ct)) (C := RX9) (T := TX9) (N := 18) hx hb hts (hin_X9 hmc) hown E.1.1 hP 0 g0 rfl 1 (by decide) (hts _ (hmc _ k_570)) (fun _ h9 => h9) rfl dX9_join_151 ?_
                  refine lv_icmp_ne (tgt := 163) hx hb dX9_join_154 (by decide) (fun c8 => ?_) (fun c8 => ?_)
                  · refine lv_iinc (v := nI (R + 1)) (lv' := [(4, .int (nI (R + 1))), (5, .int (nI b)), (0, .ref (ad 0)), (1, .ref (ad 3)), (2, .int (nI n)), (3, .int (nI 0))]) hx hb dX9_join_163 hl (k := 1) rfl (nI_1 _) (by decide) rfl (fun ls hl => ?_)
                    refine lv_iload hx hb dX9_join_166 (lv_at hl 0 rfl) ?_
                    refine lv_sipush (v := nI 20000) hx hb dX9_join_168 (by decide +kernel) ?_
                    refine lv_icmp_le (tgt := 176) hx hb dX9_join_171 (by decide) (fun c9 => ?_) (fun c9 => ?_)
                    · have hR2 : R + 1 ≤ 20000 := by
                        have := (nI_leI (by omega) (by decide)).mp c9
                        omega
                      refine lv_iload hx hb dX9_join_176 (lv_at hl 1 rfl) ?_
                      refine lv_iconst (v := nI 1) hx hb dX9_join_178 (by decide +kernel) ?_
                      refine lv_iadd hx hb dX9_join_179 ?_
                      refine htopi (v := nI (b + 1)) (nI_add _ _) ?_
                      refine lv_iload_n hx hb dX9_join_180 rfl (lv_at hl 4 rfl) ?_
                      refine lv_icmp_ge (tgt := 198) hx hb dX9_join_181 (by decide) (fun c10 => ?_) (fun c10 => ?_)
                      · have hbl : b + 1 = n := by
                          have := (nI_leI (by omega) (by omega)).mp c10
                          omega
                        refine lv_iload_n hx hb dX9_join_198 rfl (lv_at hl 5 rfl) ?_
                        refine lv_if_eq (tgt := 62) hx hb dX9_join_199 (by decide) (fun c11 => ?_) (fun c11 => ?_)
                        · rw [show nI b = hkv (b + 1) from (if_neg (show ¬ (b + 1) = 0 by omega)).symm] at hl
                          exact ih (R + 1, (b + 1)) _ H locs ls ⟨_, _, hrx, (fun k h7 h8 h9 h10 => by simp only [hup, if_neg h7, if_neg h8, if_neg h9, if_neg h10]; exact hfr2 k h7 h8 h9 h10), hR2, by show kp1 ≤ R + 1; omega, by show b + 1 ≤ n; omega, Or.inr ⟨b, e9 + 1, hpu pl b e9, rfl, (hlv.put (h2 := g2 9) hgo hge hlt hq9).less (by omega) (fun _ _ => rfl), hCur.put hge hlt hq9 hbv3, hji2.last hbl hlt hq9⟩⟩ (by show 8 * (20000 - (R + 1)) + (b + 1) < 8 * (20000 - R) + (b + 1); omega) hP hD hS (lv_sub hl [1, 0, 2, 3, 4, 5] rfl)
                        · first | exact absurd rfl c11 | exact absurd c11 (by decide +kernel) | exact absurd (by decide +kernel) c11
                      · have hb1 : b + 1 < n := Nat.not_le.mp (fun z => c10 (nI_le z (by omega)))
                        refine lv_iinc (v := nI (b + 1)) (lv' := [(5, .int (nI (b + 1))), (4, .int (nI (R + 1))), (0, .ref (ad 0)), (1, .ref (ad 3)), (2, .int (nI n)), (3, .int (nI 0))]) hx hb dX9_join_184 hl (k := 1) rfl (nI_1 _) (by decide) rfl (fun ls hl => ?_)
                        refine lv_aload_n hx hb dX9_join_187 rfl (lv_at hl 2 rfl) ?_
                        refine va_get (v := .ref (ad 9)) (C := RX9) (T := TX9) (N := 18) hx hb hts (hin_X9 hmc) hown E.1.1 hP 0 g0 rfl 12 (by decide) (hts _ (hmc _ k_581)) (fun _ h9 => h9) rfl dX9_join_188 ?_
                        refine lv_iload hx hb dX9_join_191 (lv_at hl 0 rfl) ?_
                        refine lv_iconst (v := (-1)) hx hb dX9_join_193 (by decide +kernel) ?_
                        refine va_iast hx hb E.1.1 hP hD hS 9 0 g9 rfl (vp_in_nI (by omega) (by omega)) dX9_join_194 (fun H locs hP hD hS => ?_)
                        rw [nI_clamp (show (b + 1) < 2 ^ 31 by omega)] at hP hD
                        obtain ⟨ws6, ews6⟩ : ∃ zw : va_W, zw = List.set ws4 9 ((ad 9), .inl (K 0, 6, .inl (upd (g2 9) (b + 1) (-1)))) := ⟨_, rfl⟩
                        have hP : va_P D vwCl ws6 H := by rw [ews6]; exact hP
                        have hD : va_D A ws6 := by rw [ews6]; exact hD
                        have g0 := (show ws6[0]? = _ from (by rw [ews6]; exact hset_ne (by omega))).trans g0
                        have g9 : ws6[9]? = some ((ad 9), .inl (K 0, 6, .inl (upd (g2 9) (b + 1) (-1)))) := by rw [ews6]; exact hset_eq g9
                        have hrx : hRX K ad ws6 (hup (hup (hup g2 7 f7) 8 f8) 9 (upd (g2 9) (b + 1) (-1))) ct pt md lz kp1 fd := by rw [ews6]; exact hrx.arr 9 (by decide) (by decide) _
                        refine lv_goto (tgt := 62) hx hb dX9_join_195 (by decide) ?_
                        rw [show nI (b + 1) = hkv (b + 1 + 1) from (if_neg (show ¬ (b + 1 + 1) = 0 by omega)).symm] at hl
                        exact ih (R + 1, (b + 1 + 1)) _ H locs ls ⟨_, _, hrx, (fun k h7 h8 h9 h10 => by simp only [hup, if_neg h7, if_neg h8, if_neg h9, if_neg h10]; exact hfr2 k h7 h8 h9 h10), hR2, by show kp1 ≤ R + 1; omega, by show b + 1 + 1 ≤ n; omega, Or.inr ⟨b + 1, 0, hpu pl b e9, rfl, hlv.put (h2 := upd (g2 9) (b + 1) (-1)) (fun j hj => (pk_un (by omega)).trans (hgo j hj)) ((pk_un (by omega)).trans hge) hlt hq9, Or.inl ⟨by
                            show upd (g2 9) (b + 1) (-1) (b + 1) = (-1)
                            rw [pk_us], rfl, by
                            rw [hpu_ev1]; exact hbv3⟩, hji2.deep t64 t2 t3 hb1 hlt hq9⟩⟩ (by show 8 * (20000 - (R + 1)) + (b + 1 + 1) < 8 * (20000 - R) + (b + 1); omega) hP hD hS (lv_sub hl [0, 1, 2, 3, 4, 5] rfl)
                    · have hov : 20000 < hCt 1 0 S Ps n n (fun _ => 0) := by
                        have h1 := hji2.more hlt hq9
                        have h2 : 20000 < R + 1 := Nat.not_le.mp (fun z => c9 (nI_le z (by decide)))
                        omega
                      refine lv_iconst (v := (-1)) hx hb dX9_join_174 (by decide +kernel) ?_
                      subst hAe
                      exact W.iret (v := (-1)) hx hb hr (fun t ht _ => ⟨⟨(-1), ws4, rfl, ⟨_, kp1, hrx, (fun k h7 h8 h9 h10 => by simp only [hup, if_neg h7, if_neg h8, if_neg h9, if_neg h10]; exact hfr2 k h7 h8 h9 h10), by omega, Or.inl ⟨hov, rfl⟩⟩, by rw [ht]; exact hP, hD⟩, hS.F ht⟩) hS.2.2 dX9_join_175
                  · have e8 : nI e9 = nI ct := by first | exact c8 | exact Classical.not_not.mp c8
                    have := (nI_eq (by omega) (by omega)).mp e8
                    omega
                · obtain ⟨hq9, hbv3⟩ : ¬ hCq (Ps b) (hEv Ps ta tb tc pl b) (ta e9) (tb e9) (tc e9) 3 ∧ hBV f7 f8 (fun x => hOS Ps x b) (hEv Ps ta tb tc pl b) := by
                    rcases hbd with ⟨q0, -⟩ | ⟨-, q1, q2⟩
                    · rw [q0] at c12; exact absurd c12 (by decide +kernel)
                    · exact ⟨q1, q2⟩
                  refine lv_aload_n hx hb dX9_join_129 rfl (lv_at hl 2 rfl) ?_
                  refine va_get (v := .ref (ad 9)) (C := RX9) (T := TX9) (N := 18) hx hb hts (hin_X9 hmc) hown E.1.1 hP 0 g0 rfl 12 (by decide) (hts _ (hmc _ k_581)) (fun _ h9 => h9) rfl dX9_join_130 ?_
                  refine lv_iload hx hb dX9_join_133 (lv_at hl 0 rfl) ?_
                  refine lv_dup2_11 hx hb dX9_join_135 rfl rfl ?_
                  refine va_iald hx hb E.1.1 hP 9 0 g9 rfl (vp_in_nI (by omega) (by omega)) dX9_join_136 ?_
                  refine htopi (v := (g2 9) b) (by rw [nI_clamp (by omega)]) ?_
                  refine htopi (v := nI e9) (hge) ?_
                  refine lv_iconst (v := nI 1) hx hb dX9_join_137 (by decide +kernel) ?_
                  refine lv_iadd hx hb dX9_join_138 ?_
                  refine htopi (v := nI (e9 + 1)) (nI_add _ _) ?_
                  refine va_iast hx hb E.1.1 hP hD hS 9 0 g9 rfl (vp_in_nI (by omega) (by omega)) dX9_join_139 (fun H locs hP hD hS => ?_)
                  rw [nI_clamp (show b < 2 ^ 31 by omega)] at hP hD
                  obtain ⟨ws7, ews7⟩ : ∃ zw : va_W, zw = List.set ws4 9 ((ad 9), .inl (K 0, 6, .inl (upd (g2 9) b (nI (e9 + 1))))) := ⟨_, rfl⟩
                  have hP : va_P D vwCl ws7 H := by rw [ews7]; exact hP
                  have hD : va_D A ws7 := by rw [ews7]; exact hD
                  have g0 := (show ws7[0]? = _ from (by rw [ews7]; exact hset_ne (by omega))).trans g0
                  have g9 : ws7[9]? = some ((ad 9), .inl (K 0, 6, .inl (upd (g2 9) b (nI (e9 + 1))))) := by rw [ews7]; exact hset_eq g9
                  have hrx : hRX K ad ws7 (hup (hup (hup g2 7 f7) 8 f8) 9 (upd (g2 9) b (nI (e9 + 1)))) ct pt md lz kp1 fd := by rw [ews7]; exact hrx.arr 9 (by decide) (by decide) _
                  refine lv_goto (tgt := 97) hx hb dX9_join_140 (by decide) ?_
                  exact ih2 (e9 + 1) _ H locs ls ⟨by omega, _, hrx, (fun k h7 h8 h9 h10 => by simp only [hup, if_neg h7, if_neg h8, if_neg h9, if_neg h10]; exact hfr2 k h7 h8 h9 h10), by show upd (g2 9) b (nI (e9 + 1)) b = _; rw [pk_us], fun j hj => by show upd (g2 9) b (nI (e9 + 1)) j = g 9 j; rw [pk_un (by omega)]; exact hgo j hj, hbv3, hji2.skip hq9⟩ (by omega) hP hD hS (lv_sub hl [0, 1, 2, 3, 4, 5] rfl)
            · obtain ⟨hplb, h9b, hd0, hq9, hbv1⟩ : pl b < ct ∧ g 9 b = nI (pl b) ∧ d = pl b + 1 ∧ hCq (Ps b) (hEv Ps ta tb tc pl b) (ta (pl b)) (tb (pl b)) (tc (pl b)) 3 ∧ hBV (g 7) (g 8) (fun x => hOS Ps x (b + 1)) (hEv Ps ta tb tc pl (b + 1)) := by
                rcases hcur with ⟨q, -⟩ | q
                · rw [q] at c6; exact absurd (by decide +kernel) c6
                · exact q
              have ed : g 9 b + nI 1 = nI d := by rw [h9b, hd0]; exact nI_add _ _
              have hd : d ≤ ct := by omega
              refine lv_aload_n hx hb dX9_join_77 rfl (lv_at hl 2 rfl) ?_
              refine lv_aload_n hx hb dX9_join_78 rfl (lv_at hl 3 rfl) ?_
              refine lv_iload hx hb dX9_join_79 (lv_at hl 0 rfl) ?_
              refine va_iald hx hb E.1.1 hP 3 0 g3 rfl (vp_in_nI (by omega) (by omega)) dX9_join_81 ?_
              refine htopi (v := (g 3) b) (by rw [nI_clamp (by omega)]) ?_
              refine htopi (v := nI (od b)) (eq) ?_
              refine lv_iconst (v := nI 3) hx hb dX9_join_82 (by decide +kernel) ?_
              refine hc_v E hD hS (va_runV (As := [.int (nI (od b)), .int (nI 3)]) (rest := []) ⟨hx, hb, hml, hown, hts⟩ ((c_X9_loosen l D K tv w9 ad g ct pt md lz kp1 fd hrx (od b) (by omega) (Ps b) (fun i hi => by rw [hfr 2 (by decide) (by decide) (by decide) (by decide)]; exact hPs b hbn i hi) 3 (by decide) (fun x => hOS Ps x b) (fun x hx => (hbv1 x hx).1)) H.size) (cwV 2 hts (hGV hmc k_735 k_737 k_16 k_29 k_738) rfl rfl rfl (by decide +kernel) ⟨Nat.le_of_ble_eq_true rfl, Nat.le_of_ble_eq_true rfl⟩) (hpreV E hP hD hS g0 rfl) rfl rfl hl.1 rfl (lv_room (Nat.le_of_ble_eq_true rfl)) dX9_join_83 ⟨(Nat.le_refl _), (Nat.le_refl _)⟩) (fun ws8 H locs hp hP hD hS => ?_)
              obtain ⟨f8, hrx, hf8⟩ := hp
              have hbv : hBV (g 7) f8 (fun x => hOS Ps x b) (hEv Ps ta tb tc pl b) := hBV.back (cn := fun x => hOS Ps x b) (J := Ps b) (e := (hEv Ps ta tb tc pl b)) (a := ta (pl b)) (b := tb (pl b)) (c := tc (pl b)) (i := 3) hbv1 hq9 (fun x hx => hEv_str t64 b (fun i hi => (hlv i hi).1) x hx) hf8
              have g0 := hrx.1
              have g9 : ws8[9]? = some (ad 9, .inl (K 0, 6, .inl (g 9))) := hrx.2 9 (by decide) (by decide)
              refine lv_aload_n hx hb dX9_join_86 rfl (lv_at hl 2 rfl) ?_
              refine va_get (v := .ref (ad 9)) (C := RX9) (T := TX9) (N := 18) hx hb hts (hin_X9 hmc) hown E.1.1 hP 0 g0 rfl 12 (by decide) (hts _ (hmc _ k_581)) (fun _ h9 => h9) rfl dX9_join_87 ?_
              refine lv_iload hx hb dX9_join_90 (lv_at hl 0 rfl) ?_
              refine lv_dup2_11 hx hb dX9_join_92 rfl rfl ?_
              refine va_iald hx hb E.1.1 hP 9 0 g9 rfl (vp_in_nI (by omega) (by omega)) dX9_join_93 ?_
              refine htopi (v := (g 9) b) (by rw [nI_clamp (by omega)]) ?_
              refine lv_iconst (v := nI 1) hx hb dX9_join_94 (by decide +kernel) ?_
              refine lv_iadd hx hb dX9_join_95 ?_
              refine htopi (v := nI d) (ed) ?_
              refine va_iast hx hb E.1.1 hP hD hS 9 0 g9 rfl (vp_in_nI (by omega) (by omega)) dX9_join_96 (fun H locs hP hD hS => ?_)
              rw [nI_clamp (show b < 2 ^ 31 by omega)] at hP hD
              obtain ⟨ws9, ews9⟩ : ∃ zw : va_W, zw = List.set ws8 9 ((ad 9), .inl (K 0, 6, .inl (upd (g 9) b (nI d)))) := ⟨_, rfl⟩
              have hP : va_P D vwCl ws9 H := by rw [ews9]; exact hP
              have hD : va_D A ws9 := by rw [ews9]; exact hD
              have g0 := (show ws9[0]? = _ from (by rw [ews9]; exact hset_ne (by omega))).trans g0
              have g9 : ws9[9]? = some ((ad 9), .inl (K 0, 6, .inl (upd (g 9) b (nI d)))) := by rw [ews9]; exact hset_eq g9
              have hrx : hRX K ad ws9 (hup (hup g 8 f8) 9 (upd (g 9) b (nI d))) ct pt md lz kp1 fd := by rw [ews9]; exact hrx.arr 9 (by decide) (by decide) _
              refine hloopW (α := Nat) 97 6 (fun _ => [(5, .int (nI b)), (4, .int (nI R)), (0, .ref (ad 0)), (1, .ref (ad 3)), (2, .int (nI n)), (3, .int (nI 0))]) (fun e9 w9 => e9 ≤ ct ∧ ∃ g2, hRX K ad w9 g2 ct pt md lz kp1 fd ∧ (∀ k, k ≠ 7 → k ≠ 8 → k ≠ 9 → k ≠ 10 → g2 k = f k) ∧ g2 9 b = nI e9 ∧ (∀ j, j < b → g2 9 j = g 9 j) ∧ hBV (g2 7) (g2 8) (fun x => hOS Ps x b) (hEv Ps ta tb tc pl b) ∧ hJI 1 0 R S Ps n ct ta tb tc pl b e9) (fun e9 => ct - e9) (fun _ => 0) (fun _ => 0) ?_ d ⟨hd, _, hrx, (fun k h7 h8 h9 h10 => by simp only [hup, if_neg h7, if_neg h8, if_neg h9, if_neg h10]; exact hfr k h7 h8 h9 h10), by show upd (g 9) b (nI d) b = nI d; rw [pk_us], fun j hj => by show upd (g 9) b (nI d) j = g 9 j; rw [pk_un (by omega)], hbv, hji⟩ hP hD hS (lv_sub hl [0, 1, 2, 3, 4, 5] rfl)
              intro e9 w9 H locs ls hI9 hP hD hS hl ih2
              obtain ⟨he9, g2, hrx, hfr2, hge, hgo, hbv2, hji2⟩ := hI9
              have hl : lv_has ls 6 [(5, .int (nI b)), (4, .int (nI R)), (0, .ref (ad 0)), (1, .ref (ad 3)), (2, .int (nI n)), (3, .int (nI 0))] := hl
              have eq2 : g2 3 b = nI (od b) := by rw [hfr2 3 (by decide) (by decide) (by decide) (by decide)]; exact eq0
              have g0 := hrx.1
              have g3 : w9[3]? = some (ad 3, .inl (K 0, 6, .inl (g2 3))) := hrx.2 3 (by decide) (by decide)
              have g9 : w9[9]? = some (ad 9, .inl (K 0, 6, .inl (g2 9))) := hrx.2 9 (by decide) (by decide)
              refine lv_aload_n hx hb dX9_join_97 rfl (lv_at hl 2 rfl) ?_
              refine va_get (v := .ref (ad 9)) (C := RX9) (T := TX9) (N := 18) hx hb hts (hin_X9 hmc) hown E.1.1 hP 0 g0 rfl 12 (by decide) (hts _ (hmc _ k_581)) (fun _ h9 => h9) rfl dX9_join_98 ?_
              refine lv_iload hx hb dX9_join_101 (lv_at hl 0 rfl) ?_
              refine va_iald hx hb E.1.1 hP 9 0 g9 rfl (vp_in_nI (by omega) (by omega)) dX9_join_103 ?_
              refine htopi (v := (g2 9) b) (by rw [nI_clamp (by omega)]) ?_
              refine htopi (v := nI e9) (hge) ?_
              refine lv_aload_n hx hb dX9_join_104 rfl (lv_at hl 2 rfl) ?_
              refine va_get (v := .int (nI ct)) (C := RX9) (T := TX9) (N := 18) hx hb hts (hin_X9 hmc) hown E.1.1 hP 0 g0 rfl 1 (by decide) (hts _ (hmc _ k_570)) (fun _ h9 => h9) rfl dX9_join_105 ?_
              refine lv_icmp_ge (tgt := 143) hx hb dX9_join_108 (by decide) (fun c7 => ?_) (fun c7 => ?_)
              · have hec : e9 = ct := by
                  have := (nI_leI (by omega) (by omega)).mp c7
                  omega
                refine lv_aload_n hx hb dX9_join_143 rfl (lv_at hl 2 rfl) ?_
                refine va_get (v := .ref (ad 9)) (C := RX9) (T := TX9) (N := 18) hx hb hts (hin_X9 hmc) hown E.1.1 hP 0 g0 rfl 12 (by decide) (hts _ (hmc _ k_581)) (fun _ h9 => h9) rfl dX9_join_144 ?_
                refine lv_iload hx hb dX9_join_147 (lv_at hl 0 rfl) ?_
                refine va_iald hx hb E.1.1 hP 9 0 g9 rfl (vp_in_nI (by omega) (by omega)) dX9_join_149 ?_
                refine htopi (v := (g2 9) b) (by rw [nI_clamp (by omega)]) ?_
                refine htopi (v := nI e9) (hge) ?_
                refine lv_aload_n hx hb dX9_join_150 rfl (lv_at hl 2 rfl) ?_
                refine va_get (v := .int (nI ct)) (C := RX9) (T := TX9) (N := 18) hx hb hts (hin_X9 hmc) hown E.1.1 hP 0 g0 rfl 1 (by decide) (hts _ (hmc _ k_570)) (fun _ h9 => h9) rfl dX9_join_151 ?_
                refine lv_icmp_ne (tgt := 163) hx hb dX9_join_154 (by decide) (fun c8 => ?_) (fun c8 => ?_)
                · first | exact absurd (by rw [hec]) c8 | exact c8 (by rw [hec]) | exact absurd (congrArg nI hec) c8
                · refine lv_iinc (v := (hkv b)) (lv' := [(5, .int (hkv b)), (4, .int (nI R)), (0, .ref (ad 0)), (1, .ref (ad 3)), (2, .int (nI n)), (3, .int (nI 0))]) hx hb dX9_join_157 hl (k := 0) rfl (hkv_dec b) (by decide) rfl (fun ls hl => ?_)
                  refine lv_goto (tgt := 62) hx hb dX9_join_160 (by decide) ?_
                  exact ih (R, b) _ H locs ls ⟨_, _, hrx, hfr2, hR, hkR, by show b ≤ n; omega, by
                      show (b = 0 ∧ _) ∨ _
                      by_cases z : b = 0
                      · subst z; exact Or.inl ⟨rfl, hji2.done (by omega)⟩
                      · obtain ⟨b1, rfl⟩ : ∃ b1, b = b1 + 1 := ⟨b - 1, by omega⟩
                        obtain ⟨k1, k2, k3⟩ := hlv b1 (by omega)
                        exact Or.inr ⟨b1, pl b1 + 1, pl, rfl, hlv.less (by omega) (fun j hj => hgo j (by omega)), Or.inr ⟨k1, (hgo b1 (by omega)).trans k2, rfl, k3, hbv2⟩, hji2.pop (by omega)⟩⟩ (by show 8 * (20000 - R) + b < 8 * (20000 - R) + (b + 1); omega) hP hD hS (lv_sub hl [0, 1, 2, 3, 4, 5] rfl)
              · have hlt : e9 < ct := Nat.not_le.mp (fun z => c7 (nI_le z (by omega)))
                obtain ⟨b64, c64, d64⟩ := t64 e9 hlt
                refine lv_aload_n hx hb dX9_join_111 rfl (lv_at hl 2 rfl) ?_
                refine lv_aload_n hx hb dX9_join_112 rfl (lv_at hl 3 rfl) ?_
                refine lv_iload hx hb dX9_join_113 (lv_at hl 0 rfl) ?_
                refine va_iald hx hb E.1.1 hP 3 0 g3 rfl (vp_in_nI (by omega) (by omega)) dX9_join_115 ?_
                refine htopi (v := (g2 3) b) (by rw [nI_clamp (by omega)]) ?_
                refine htopi (v := nI (od b)) (eq2) ?_
                refine lv_aload_n hx hb dX9_join_116 rfl (lv_at hl 2 rfl) ?_
                refine va_get (v := .ref (ad 9)) (C := RX9) (T := TX9) (N := 18) hx hb hts (hin_X9 hmc) hown E.1.1 hP 0 g0 rfl 12 (by decide) (hts _ (hmc _ k_581)) (fun _ h9 => h9) rfl dX9_join_117 ?_
                refine lv_iload hx hb dX9_join_120 (lv_at hl 0 rfl) ?_
                refine va_iald hx hb E.1.1 hP 9 0 g9 rfl (vp_in_nI (by omega) (by omega)) dX9_join_122 ?_
                refine htopi (v := (g2 9) b) (by rw [nI_clamp (by omega)]) ?_
                refine htopi (v := nI e9) (hge) ?_
                refine hc_i E hD hS (va_runV (As := [.int (nI (od b)), .int (nI e9)]) (rest := []) ⟨hx, hb, hml, hown, hts⟩ ((c_X9_bind l D K tv w9 ad g2 ct pt md lz kp1 fd hrx (od b) e9 (by omega) (by omega) (Ps b) (fun i hi => by rw [hfr2 2 (by decide) (by decide) (by decide) (by decide)]; exact hPs b hbn i hi) (fun x => hOS Ps x b) (hEv Ps ta tb tc pl b) hbv2 (fun x => Nat.le_trans (hOS_le Ps x b) (by omega)) (ta e9) (tb e9) (tc e9) b64 c64 d64 (fun i hi => by rw [hfr2 1 (by decide) (by decide) (by decide) (by decide)]; exact htr e9 hlt i hi)) H.size) (cwV 2 hts (hGV hmc k_739 k_741 k_17 k_29 k_742) rfl rfl rfl (by decide +kernel) ⟨Nat.le_of_ble_eq_true rfl, Nat.le_of_ble_eq_true rfl⟩) (hpreV E hP hD hS g0 rfl) rfl rfl hl.1 rfl (lv_room (Nat.le_of_ble_eq_true rfl)) dX9_join_123 ⟨(Nat.le_refl _), (Nat.le_refl _)⟩) (fun r11 ws10 H locs hp hP hD hS => ?_)
                obtain ⟨f7, f8, hrx, hbd⟩ := hp
                have g0 := hrx.1
                have g9 : ws10[9]? = some (ad 9, .inl (K 0, 6, .inl (g2 9))) := hrx.2 9 (by decide) (by decide)
                refine lv_if_ne (tgt := 143) hx hb dX9_join_126 (by decide) (fun c12 => ?_) (fun c12 => ?_)
                · obtain ⟨hq9, hbv3⟩ : hCq (Ps b) (hEv Ps ta tb tc pl b) (ta e9) (tb e9) (tc e9) 3 ∧ hBV f7 f8 (fun x => hOS Ps x b + hoc (Ps b) x 3) (hXe (Ps b) (hEv Ps ta tb tc pl b) (ta e9) (tb e9) (tc e9) 3) := by
                    rcases hbd with ⟨-, q1, q2⟩ | ⟨q0, -⟩
                    · exact ⟨q1, q2⟩
                    · exact absurd q0 c12
                  refine lv_aload_n hx hb dX9_join_143 rfl (lv_at hl 2 rfl) ?_
                  refine va_get (v := .ref (ad 9)) (C := RX9) (T := TX9) (N := 18) hx hb hts (hin_X9 hmc) hown E.1.1 hP 0 g0 rfl 12 (by decide) (hts _ (hmc _ k_581)) (fun _ h9 => h9) rfl dX9_join_144 ?_
                  refine lv_iload hx hb dX9_join_147 (lv_at hl 0 rfl) ?_
                  refine va_iald hx hb E.1.1 hP 9 0 g9 rfl (vp_in_nI (by omega) (by omega)) dX9_join_149 ?_
                  refine htopi (v := (g2 9) b) (by rw [nI_clamp (by omega)]) ?_
                  refine htopi (v := nI e9) (hge) ?_
                  refine lv_aload_n hx hb dX9_join_150 rfl (lv_at hl 2 rfl) ?_
                  refine va_get (v := .int (nI ct)) (C := RX9) (T := TX9) (N := 18) hx hb hts (hin_X9 hmc) hown E.1.1 hP 0 g0 rfl 1 (by decide) (hts _ (hmc _ k_570)) (fun _ h9 => h9) rfl dX9_join_151 ?_
                  refine lv_icmp_ne (tgt := 163) hx hb dX9_join_154 (by decide) (fun c8 => ?_) (fun c8 => ?_)
                  · refine lv_iinc (v := nI (R + 1)) (lv' := [(4, .int (nI (R + 1))), (5, .int (nI b)), (0, .ref (ad 0)), (1, .ref (ad 3)), (2, .int (nI n)), (3, .int (nI 0))]) hx hb dX9_join_163 hl (k := 1) rfl (nI_1 _) (by decide) rfl (fun ls hl => ?_)
                    refine lv_iload hx hb dX9_join_166 (lv_at hl 0 rfl) ?_
                    refine lv_sipush (v := nI 20000) hx hb dX9_join_168 (by decide +kernel) ?_
                    refine lv_icmp_le (tgt := 176) hx hb dX9_join_171 (by decide) (fun c9 => ?_) (fun c9 => ?_)
                    · have hR2 : R + 1 ≤ 20000 := by
                        have := (nI_leI (by omega) (by decide)).mp c9
                        omega
                      refine lv_iload hx hb dX9_join_176 (lv_at hl 1 rfl) ?_
                      refine lv_iconst (v := nI 1) hx hb dX9_join_178 (by decide +kernel) ?_
                      refine lv_iadd hx hb dX9_join_179 ?_
                      refine htopi (v := nI (b + 1)) (nI_add _ _) ?_
                      refine lv_iload_n hx hb dX9_join_180 rfl (lv_at hl 4 rfl) ?_
                      refine lv_icmp_ge (tgt := 198) hx hb dX9_join_181 (by decide) (fun c10 => ?_) (fun c10 => ?_)
                      · have hbl : b + 1 = n := by
                          have := (nI_leI (by omega) (by omega)).mp c10
                          omega
                        refine lv_iload_n hx hb dX9_join_198 rfl (lv_at hl 5 rfl) ?_
                        refine lv_if_eq (tgt := 62) hx hb dX9_join_199 (by decide) (fun c11 => ?_) (fun c11 => ?_)
                        · rw [show nI b = hkv (b + 1) from (if_neg (show ¬ (b + 1) = 0 by omega)).symm] at hl
                          exact ih (R + 1, (b + 1)) _ H locs ls ⟨_, _, hrx, (fun k h7 h8 h9 h10 => by simp only [hup, if_neg h7, if_neg h8, if_neg h9, if_neg h10]; exact hfr2 k h7 h8 h9 h10), hR2, by show kp1 ≤ R + 1; omega, by show b + 1 ≤ n; omega, Or.inr ⟨b, e9 + 1, hpu pl b e9, rfl, (hlv.put (h2 := g2 9) hgo hge hlt hq9).less (by omega) (fun _ _ => rfl), hCur.put hge hlt hq9 hbv3, hji2.last hbl hlt hq9⟩⟩ (by show 8 * (20000 - (R + 1)) + (b + 1) < 8 * (20000 - R) + (b + 1); omega) hP hD hS (lv_sub hl [1, 0, 2, 3, 4, 5] rfl)
                        · first | exact absurd rfl c11 | exact absurd c11 (by decide +kernel) | exact absurd (by decide +kernel) c11
                      · have hb1 : b + 1 < n := Nat.not_le.mp (fun z => c10 (nI_le z (by omega)))
                        refine lv_iinc (v := nI (b + 1)) (lv' := [(5, .int (nI (b + 1))), (4, .int (nI (R + 1))), (0, .ref (ad 0)), (1, .ref (ad 3)), (2, .int (nI n)), (3, .int (nI 0))]) hx hb dX9_join_184 hl (k := 1) rfl (nI_1 _) (by decide) rfl (fun ls hl => ?_)
                        refine lv_aload_n hx hb dX9_join_187 rfl (lv_at hl 2 rfl) ?_
                        refine va_get (v := .ref (ad 9)) (C := RX9) (T := TX9) (N := 18) hx hb hts (hin_X9 hmc) hown E.1.1 hP 0 g0 rfl 12 (by decide) (hts _ (hmc _ k_581)) (fun _ h9 => h9) rfl dX9_join_188 ?_
                        refine lv_iload hx hb dX9_join_191 (lv_at hl 0 rfl) ?_
                        refine lv_iconst (v := (-1)) hx hb dX9_join_193 (by decide +kernel) ?_
                        refine va_iast hx hb E.1.1 hP hD hS 9 0 g9 rfl (vp_in_nI (by omega) (by omega)) dX9_join_194 (fun H locs hP hD hS => ?_)
                        rw [nI_clamp (show (b + 1) < 2 ^ 31 by omega)] at hP hD
                        obtain ⟨ws12, ews12⟩ : ∃ zw : va_W, zw = List.set ws10 9 ((ad 9), .inl (K 0, 6, .inl (upd (g2 9) (b + 1) (-1)))) := ⟨_, rfl⟩
                        have hP : va_P D vwCl ws12 H := by rw [ews12]; exact hP
                        have hD : va_D A ws12 := by rw [ews12]; exact hD
                        have g0 := (show ws12[0]? = _ from (by rw [ews12]; exact hset_ne (by omega))).trans g0
                        have g9 : ws12[9]? = some ((ad 9), .inl (K 0, 6, .inl (upd (g2 9) (b + 1) (-1)))) := by rw [ews12]; exact hset_eq g9
                        have hrx : hRX K ad ws12 (hup (hup (hup g2 7 f7) 8 f8) 9 (upd (g2 9) (b + 1) (-1))) ct pt md lz kp1 fd := by rw [ews12]; exact hrx.arr 9 (by decide) (by decide) _
                        refine lv_goto (tgt := 62) hx hb dX9_join_195 (by decide) ?_
                        rw [show nI (b + 1) = hkv (b + 1 + 1) from (if_neg (show ¬ (b + 1 + 1) = 0 by omega)).symm] at hl
                        exact ih (R + 1, (b + 1 + 1)) _ H locs ls ⟨_, _, hrx, (fun k h7 h8 h9 h10 => by simp only [hup, if_neg h7, if_neg h8, if_neg h9, if_neg h10]; exact hfr2 k h7 h8 h9 h10), hR2, by show kp1 ≤ R + 1; omega, by show b + 1 + 1 ≤ n; omega, Or.inr ⟨b + 1, 0, hpu pl b e9, rfl, hlv.put (h2 := upd (g2 9) (b + 1) (-1)) (fun j hj => (pk_un (by omega)).trans (hgo j hj)) ((pk_un (by omega)).trans hge) hlt hq9, Or.inl ⟨by
                            show upd (g2 9) (b + 1) (-1) (b + 1) = (-1)
                            rw [pk_us], rfl, by
                            rw [hpu_ev1]; exact hbv3⟩, hji2.deep t64 t2 t3 hb1 hlt hq9⟩⟩ (by show 8 * (20000 - (R + 1)) + (b + 1 + 1) < 8 * (20000 - R) + (b + 1); omega) hP hD hS (lv_sub hl [0, 1, 2, 3, 4, 5] rfl)
                    · have hov : 20000 < hCt 1 0 S Ps n n (fun _ => 0) := by
                        have h1 := hji2.more hlt hq9
                        have h2 : 20000 < R + 1 := Nat.not_le.mp (fun z => c9 (nI_le z (by decide)))
                        omega
                      refine lv_iconst (v := (-1)) hx hb dX9_join_174 (by decide +kernel) ?_
                      subst hAe
                      exact W.iret (v := (-1)) hx hb hr (fun t ht _ => ⟨⟨(-1), ws10, rfl, ⟨_, kp1, hrx, (fun k h7 h8 h9 h10 => by simp only [hup, if_neg h7, if_neg h8, if_neg h9, if_neg h10]; exact hfr2 k h7 h8 h9 h10), by omega, Or.inl ⟨hov, rfl⟩⟩, by rw [ht]; exact hP, hD⟩, hS.F ht⟩) hS.2.2 dX9_join_175
                  · have e8 : nI e9 = nI ct := by first | exact c8 | exact Classical.not_not.mp c8
                    have := (nI_eq (by omega) (by omega)).mp e8
                    omega
                · obtain ⟨hq9, hbv3⟩ : ¬ hCq (Ps b) (hEv Ps ta tb tc pl b) (ta e9) (tb e9) (tc e9) 3 ∧ hBV f7 f8 (fun x => hOS Ps x b) (hEv Ps ta tb tc pl b) := by
                    rcases hbd with ⟨q0, -⟩ | ⟨-, q1, q2⟩
                    · rw [q0] at c12; exact absurd c12 (by decide +kernel)
                    · exact ⟨q1, q2⟩
                  refine lv_aload_n hx hb dX9_join_129 rfl (lv_at hl 2 rfl) ?_
                  refine va_get (v := .ref (ad 9)) (C := RX9) (T := TX9) (N := 18) hx hb hts (hin_X9 hmc) hown E.1.1 hP 0 g0 rfl 12 (by decide) (hts _ (hmc _ k_581)) (fun _ h9 => h9) rfl dX9_join_130 ?_
                  refine lv_iload hx hb dX9_join_133 (lv_at hl 0 rfl) ?_
                  refine lv_dup2_11 hx hb dX9_join_135 rfl rfl ?_
                  refine va_iald hx hb E.1.1 hP 9 0 g9 rfl (vp_in_nI (by omega) (by omega)) dX9_join_136 ?_
                  refine htopi (v := (g2 9) b) (by rw [nI_clamp (by omega)]) ?_
                  refine htopi (v := nI e9) (hge) ?_
                  refine lv_iconst (v := nI 1) hx hb dX9_join_137 (by decide +kernel) ?_
                  refine lv_iadd hx hb dX9_join_138 ?_
                  refine htopi (v := nI (e9 + 1)) (nI_add _ _) ?_
                  refine va_iast hx hb E.1.1 hP hD hS 9 0 g9 rfl (vp_in_nI (by omega) (by omega)) dX9_join_139 (fun H locs hP hD hS => ?_)
                  rw [nI_clamp (show b < 2 ^ 31 by omega)] at hP hD
                  obtain ⟨ws13, ews13⟩ : ∃ zw : va_W, zw = List.set ws10 9 ((ad 9), .inl (K 0, 6, .inl (upd (g2 9) b (nI (e9 + 1))))) := ⟨_, rfl⟩
                  have hP : va_P D vwCl ws13 H := by rw [ews13]; exact hP
                  have hD : va_D A ws13 := by rw [ews13]; exact hD
                  have g0 := (show ws13[0]? = _ from (by rw [ews13]; exact hset_ne (by omega))).trans g0
                  have g9 : ws13[9]? = some ((ad 9), .inl (K 0, 6, .inl (upd (g2 9) b (nI (e9 + 1))))) := by rw [ews13]; exact hset_eq g9
                  have hrx : hRX K ad ws13 (hup (hup (hup g2 7 f7) 8 f8) 9 (upd (g2 9) b (nI (e9 + 1)))) ct pt md lz kp1 fd := by rw [ews13]; exact hrx.arr 9 (by decide) (by decide) _
                  refine lv_goto (tgt := 97) hx hb dX9_join_140 (by decide) ?_
                  exact ih2 (e9 + 1) _ H locs ls ⟨by omega, _, hrx, (fun k h7 h8 h9 h10 => by simp only [hup, if_neg h7, if_neg h8, if_neg h9, if_neg h10]; exact hfr2 k h7 h8 h9 h10), by show upd (g2 9) b (nI (e9 + 1)) b = _; rw [pk_us], fun j hj => by show upd (g2 9) b (nI (e9 + 1)) j = g 9 j; rw [pk_un (by omega)]; exact hgo j hj, hbv3, hji2.skip hq9⟩ (by omega) hP hD hS (lv_sub hl [0, 1, 2, 3, 4, 5] rfl)
      · first | exact absurd c4 c2 | exact absurd c2 c4
    · have hn0 : n = 0 := by
        have e : nI n = nI 0 := by first | exact c2 | exact Classical.not_not.mp c2
        exact (nI_eq (by omega) (by omega)).mp e
      subst hn0
      refine lv_iload_n hx hb dX9_join_36 rfl (lv_at hl 5 rfl) ?_
      refine lv_if_eq (tgt := 44) hx hb dX9_join_37 (by decide) (fun c3 => ?_) (fun c3 => ?_)
      · refine lv_iload_n hx hb dX9_join_44 rfl (lv_at hl 4 rfl) ?_
        refine lv_if_ne (tgt := 52) hx hb dX9_join_45 (by decide) (fun c4 => ?_) (fun c4 => ?_)
        · first | exact absurd rfl c4 | exact absurd c4 (by decide +kernel)
        · refine lv_iconst (v := (-1)) hx hb dX9_join_48 (by decide +kernel) ?_
          refine lv_goto (tgt := 53) hx hb dX9_join_49 (by decide) ?_
          refine lv_istore (lv' := [(5, .int (-1)), (4, .int (nI 0)), (0, .ref (ad 0)), (1, .ref (ad 3)), (2, .int (nI 0)), (3, .int (nI 0))]) hx hb dX9_join_53 hl (by decide) rfl (fun ls hl => ?_)
          refine lv_aload_n hx hb dX9_join_55 rfl (lv_at hl 2 rfl) ?_
          refine va_get (v := .ref (ad 9)) (C := RX9) (T := TX9) (N := 18) hx hb hts (hin_X9 hmc) hown E.1.1 hP 0 g0 rfl 12 (by decide) (hts _ (hmc _ k_581)) (fun _ h9 => h9) rfl dX9_join_56 ?_
          refine lv_iconst (v := nI 0) hx hb dX9_join_59 (by decide +kernel) ?_
          refine lv_iconst (v := (-1)) hx hb dX9_join_60 (by decide +kernel) ?_
          refine va_iast hx hb E.1.1 hP hD hS 9 0 g9 rfl (vp_in_nI (by omega) (by omega)) dX9_join_61 (fun H locs hP hD hS => ?_)
          rw [nI_clamp (show 0 < 2 ^ 31 by omega)] at hP hD
          obtain ⟨ws14, ews14⟩ : ∃ zw : va_W, zw = List.set w9 9 ((ad 9), .inl (K 0, 6, .inl (upd (f 9) 0 (-1)))) := ⟨_, rfl⟩
          have hP : va_P D vwCl ws14 H := by rw [ews14]; exact hP
          have hD : va_D A ws14 := by rw [ews14]; exact hD
          have g0 := (show ws14[0]? = _ from (by rw [ews14]; exact hset_ne (by omega))).trans g0
          have g8 := (show ws14[8]? = _ from (by rw [ews14]; exact hset_ne (by omega))).trans g8
          have g9 : ws14[9]? = some ((ad 9), .inl (K 0, 6, .inl (upd (f 9) 0 (-1)))) := by rw [ews14]; exact hset_eq g9
          have hrx : hRX K ad ws14 (hup (hup f 8 f8) 9 (upd (f 9) 0 (-1))) ct pt md lz 0 fd := by rw [ews14]; exact hrx.arr 9 (by decide) (by decide) _
          refine lv_iload hx hb dX9_join_62 (lv_at hl 0 rfl) ?_
          refine lv_if_lt (tgt := 209) hx hb dX9_join_64 (by decide) (fun c5 => ?_) (fun c5 => ?_)
          · refine lv_iload hx hb dX9_join_209 (lv_at hl 1 rfl) ?_
            subst hAe
            exact W.iret (v := nI 0) hx hb hr (fun t ht _ => ⟨⟨nI 0, ws14, rfl, ⟨_, _, hrx, (fun k h7 h8 h9 h10 => by simp only [hup, if_neg h7, if_neg h8, if_neg h9, if_neg h10]), by omega, Or.inr ⟨Nat.zero_le _, rfl⟩⟩, by rw [ht]; exact hP, hD⟩, hS.F ht⟩) hS.2.2 dX9_join_211
          · exact absurd (by decide +kernel) c5
      · first | exact absurd rfl c3 | exact absurd c3 (by decide +kernel) | exact absurd (by decide +kernel) c3
  · have hv2 : v < 9 := Nat.not_le.mp (fun z => c1 (nI_le z (by omega)))
    refine lv_aload_n hx hb dX9_join_18 rfl (lv_at hl 2 rfl) ?_
    refine va_get (v := .ref (ad 8)) (C := RX9) (T := TX9) (N := 18) hx hb hts (hin_X9 hmc) hown E.1.1 hP 0 g0 rfl 11 (by decide) (hts _ (hmc _ k_580)) (fun _ h9 => h9) rfl dX9_join_19 ?_
    refine lv_iload hx hb dX9_join_22 (lv_at hl 0 rfl) ?_
    refine lv_iconst (v := nI 0) hx hb dX9_join_24 (by decide +kernel) ?_
    refine va_iast hx hb E.1.1 hP hD hS 8 0 g8 rfl (vp_in_nI (by omega) (by omega)) dX9_join_25 (fun H locs hP hD hS => ?_)
    rw [nI_clamp (show v < 2 ^ 31 by omega)] at hP hD
    obtain ⟨ws15, ews15⟩ : ∃ zw : va_W, zw = List.set w9 8 ((ad 8), .inl (K 0, 9, .inl (upd f8 v (nI 0)))) := ⟨_, rfl⟩
    have hP : va_P D vwCl ws15 H := by rw [ews15]; exact hP
    have hD : va_D A ws15 := by rw [ews15]; exact hD
    have g0 := (show ws15[0]? = _ from (by rw [ews15]; exact hset_ne (by omega))).trans g0
    have g8 : ws15[8]? = some ((ad 8), .inl (K 0, 9, .inl (upd f8 v (nI 0)))) := by rw [ews15]; exact hset_eq g8
    have hrx : hRX K ad ws15 (hup (hup f 8 f8) 8 (upd f8 v (nI 0))) ct pt md lz 0 fd := by rw [ews15]; exact hrx.arr 8 (by decide) (by decide) _
    refine lv_iinc (v := nI (v + 1)) (lv' := [(5, .int (nI (v + 1))), (4, .int (nI 0)), (0, .ref (ad 0)), (1, .ref (ad 3)), (2, .int (nI n)), (3, .int (nI 0))]) hx hb dX9_join_26 hl (k := 0) rfl (nI_1 _) (by decide) rfl (fun ls hl => ?_)
    refine lv_goto (tgt := 11) hx hb dX9_join_29 (by decide) ?_
    rw [hup_up] at hrx
    exact ih (v + 1) _ H locs ls ⟨by omega, _, hrx, fun x hx => by
        by_cases z : x = v
        · subst z; rw [pk_us]
        · rw [pk_un z]; exact hz8 x (by omega)⟩ (by omega) hP hD hS (lv_sub hl [0, 1, 2, 3, 4, 5] rfl)

set_option maxHeartbeats 4000000 in
set_option maxRecDepth 100000 in
/-- the reference: join -/
theorem c6_join (l : Launch) (D : va_G) (K : Nat → ClassId) (tv : Nat) (ws : va_W) (ad : Nat → Nat) (f : Nat → Nat → Int32) (ct pt md : Nat) (lz : Int64) (kp : Nat) (fd : Int32) (hrx : hRX K ad ws f ct pt md lz kp fd) (hp6 : pt ≤ 6) (hc6 : ct ≤ 640) (S : Nat → Nat → Nat → Prop) (hT : hRT (f 1) S ct) (n : Nat) (hn6 : n ≤ 6) (od : Nat → Nat) (Ps : Nat → Nat → Nat) (hod : ∀ k, k < n → od k < pt ∧ f 6 k = nI (od k)) (hPs : ∀ k, k < n → ∀ i, i < 3 → f 2 (3 * od k + i) = hit (Ps k i) ∧ Ps k i < 72) : hI l D (hTy K) tv yX9_join cX9_join 6 (some .int) ({ frames := 2, cells := 0, slots := 0, locals := 120 }) [.ref (ad 0), .ref (ad 6), .int (nI n), .int (nI 1)] ws (fun r ws1 => ∃ g kp1, hRX K ad ws1 g ct pt md lz kp1 fd ∧ (∀ k, k ≠ 7 → k ≠ 8 → k ≠ 9 → k ≠ 10 → g k = f k) ∧ kp1 ≤ 20000 ∧ ((20000 < hCt 1 0 S Ps n n (fun _ => 0) ∧ r = (-1)) ∨ (hCt 1 0 S Ps n n (fun _ => 0) ≤ 20000 ∧ r = nI (hCt 1 0 S Ps n n (fun _ => 0)) ∧ kp1 = hCt 0 1 S Ps n n (fun _ => 0)))) := by
  intro sz
  refine Met.ofW (cc := cX9_join) (maxL := 6) (ret := (some .int)) (by decide) rfl ?_
  intro p e s m args below meth c s₁ B hml hv0
  obtain ⟨rfl, rfl, E, hP, hD⟩ := hentry hv0
  have hx := B.exec
  have hb := B.bytes
  have hr := B.returns
  have hts := atoms_spec (ws := hC yX9_join cX9_join 6 (some .int)) B.pre
  have hown : s.vm.findClass RX9 = some m.cls := findClass_of_methodNamed B.named
  have hlocks := B.notSynchronized
  generalize hAe : va_A ws s.heap.size = A at hD E ⊢
  have hl := lv_entry ([.ref (ad 0), .ref (ad 6), .int (nI n), .int (nI 1)]) (n := 6) (Nat.le_of_ble_eq_true rfl)
  rw [lg_entry_eq]
  generalize (lg_sl ([.ref (ad 0), .ref (ad 6), .int (nI n), .int (nI 1)]) ++ List.replicate (6 - (lg_sl ([.ref (ad 0), .ref (ad 6), .int (nI n), .int (nI 1)])).length) Slot.unset).toArray = ls at hl ⊢
  have hl : lv_has ls 6 [(0, .ref (ad 0)), (1, .ref (ad 6)), (2, .int (nI n)), (3, .int (nI 1))] := hl
  refine hat0 (fun H hHe => ?_)
  have hP : va_P D vwCl ws H := by rw [hHe]; exact hP
  have hS : va_S A s.heap H [] := by rw [hHe]; exact va_S.rf
  obtain ⟨ta, tb, tc, t1, t2, t3⟩ := id hT
  have t64 : ∀ t, t < ct → ta t < 64 ∧ tb t < 64 ∧ tc t < 64 := fun t ht => (t1 t ht).2.2.2
  have htr : ∀ t, t < ct → ∀ i, i < 3 → f 1 (3 * t + i) = nI (hpk i (ta t) (tb t) (tc t)) := fun t ht i hi => (hkey_at t1 hi t ht).1
  have g0 := hrx.1
  refine lv_iconst (v := nI 0) hx hb dX9_join_0 (by decide +kernel) ?_
  refine lv_istore (lv' := [(4, .int (nI 0)), (0, .ref (ad 0)), (1, .ref (ad 6)), (2, .int (nI n)), (3, .int (nI 1))]) hx hb dX9_join_1 hl (by decide) rfl (fun ls hl => ?_)
  refine lv_aload_n hx hb dX9_join_3 rfl (lv_at hl 1 rfl) ?_
  refine lv_iconst (v := nI 0) hx hb dX9_join_4 (by decide +kernel) ?_
  refine va_put (v := .int (nI 0)) (ty := .int) (C := RX9) (T := TX9) (N := 18) hx hb hts (hin_X9 hmc) tyX9 tyX9_ok nmX9 hown E.1.1 hP hD hS 0 g0 rfl 14 (by decide) (hts _ (hmc _ k_583)) (fun _ h9 => h9) rfl (by decide +kernel) rfl rfl (Nat.le_of_ble_eq_true rfl) dX9_join_5 (fun H locs hP hD hS => ?_)
  obtain ⟨ws1, ews1⟩ : ∃ zw : va_W, zw = List.set ws 0 ((ad 0), .inr (iM, [.ref (ad 1), .int (nI ct), .ref (ad 2), .int (nI pt), .ref (ad 3), .int (nI md), .ref (ad 4), .ref (ad 5), .ref (ad 6), .long lz, .ref (ad 7), .ref (ad 8), .ref (ad 9), .ref (ad 10), .int (nI 0), .int fd, .ref (ad 11), .ref (ad 12)])) := ⟨_, rfl⟩
  have hP : va_P D vwCl ws1 H := by rw [ews1]; exact hP
  have hD : va_D A ws1 := by rw [ews1]; exact hD
  have g0 : ws1[0]? = some ((ad 0), .inr (iM, [.ref (ad 1), .int (nI ct), .ref (ad 2), .int (nI pt), .ref (ad 3), .int (nI md), .ref (ad 4), .ref (ad 5), .ref (ad 6), .long lz, .ref (ad 7), .ref (ad 8), .ref (ad 9), .ref (ad 10), .int (nI 0), .int fd, .ref (ad 11), .ref (ad 12)])) := by rw [ews1]; exact hset_eq g0
  have hrx : hRX K ad ws1 f ct pt md lz 0 fd := by rw [ews1]; exact hrx.obj
  refine lv_iconst (v := nI 0) hx hb dX9_join_8 (by decide +kernel) ?_
  refine lv_istore (lv' := [(5, .int (nI 0)), (4, .int (nI 0)), (0, .ref (ad 0)), (1, .ref (ad 6)), (2, .int (nI n)), (3, .int (nI 1))]) hx hb dX9_join_9 hl (by decide) rfl (fun ls hl => ?_)
  refine hloopW (α := Nat) 11 6 (fun v => [(5, .int (nI v)), (4, .int (nI 0)), (0, .ref (ad 0)), (1, .ref (ad 6)), (2, .int (nI n)), (3, .int (nI 1))]) (fun v w9 => v ≤ 9 ∧ ∃ f8, hRX K ad w9 (hup f 8 f8) ct pt md lz 0 fd ∧ ∀ x, x < v → f8 x = nI 0) (fun v => 9 - v) (fun _ => 0) (fun _ => 0) ?_ 0 ⟨Nat.zero_le _, f 8, by rw [hup_id]; exact hrx, fun x hx => absurd hx (Nat.not_lt_zero _)⟩ hP hD hS (lv_sub hl [0, 1, 2, 3, 4, 5] rfl)
  intro v w9 H locs ls hI9 hP hD hS hl ih
  obtain ⟨hv, f8, hrx, hz8⟩ := hI9
  have hl : lv_has ls 6 [(5, .int (nI v)), (4, .int (nI 0)), (0, .ref (ad 0)), (1, .ref (ad 6)), (2, .int (nI n)), (3, .int (nI 1))] := hl
  have g0 := hrx.1
  have g8 : w9[8]? = some (ad 8, .inl (K 0, 9, .inl f8)) := hrx.2 8 (by decide) (by decide)
  refine lv_iload hx hb dX9_join_11 (lv_at hl 0 rfl) ?_
  refine lv_bipush (v := nI 9) hx hb dX9_join_13 (by decide +kernel) ?_
  refine lv_icmp_ge (tgt := 32) hx hb dX9_join_15 (by decide) (fun c1 => ?_) (fun c1 => ?_)
  · clear ih
    have hv9 := (nI_leI (by decide) (by omega)).mp c1
    have g9 : w9[9]? = some (ad 9, .inl (K 0, 6, .inl (f 9))) := hrx.2 9 (by decide) (by decide)
    refine lv_iload_n hx hb dX9_join_32 rfl (lv_at hl 4 rfl) ?_
    refine lv_if_ne (tgt := 44) hx hb dX9_join_33 (by decide) (fun c2 => ?_) (fun c2 => ?_)
    · have hn1 : 1 ≤ n := by
        rcases Nat.eq_zero_or_pos n with z | z
        · rw [z] at c2; exact absurd rfl c2
        · exact z
      refine lv_iload_n hx hb dX9_join_44 rfl (lv_at hl 4 rfl) ?_
      refine lv_if_ne (tgt := 52) hx hb dX9_join_45 (by decide) (fun c4 => ?_) (fun c4 => ?_)
      · refine lv_iconst (v := nI 0) hx hb dX9_join_52 (by decide +kernel) ?_
        refine htopi (v := (hkv 1)) (rfl) ?_
        refine lv_istore (lv' := [(5, .int (hkv 1)), (4, .int (nI 0)), (0, .ref (ad 0)), (1, .ref (ad 6)), (2, .int (nI n)), (3, .int (nI 1))]) hx hb dX9_join_53 hl (by decide) rfl (fun ls hl => ?_)
        refine lv_aload_n hx hb dX9_join_55 rfl (lv_at hl 2 rfl) ?_
        refine va_get (v := .ref (ad 9)) (C := RX9) (T := TX9) (N := 18) hx hb hts (hin_X9 hmc) hown E.1.1 hP 0 g0 rfl 12 (by decide) (hts _ (hmc _ k_581)) (fun _ h9 => h9) rfl dX9_join_56 ?_
        refine lv_iconst (v := nI 0) hx hb dX9_join_59 (by decide +kernel) ?_
        refine lv_iconst (v := (-1)) hx hb dX9_join_60 (by decide +kernel) ?_
        refine va_iast hx hb E.1.1 hP hD hS 9 0 g9 rfl (vp_in_nI (by omega) (by omega)) dX9_join_61 (fun H locs hP hD hS => ?_)
        rw [nI_clamp (show 0 < 2 ^ 31 by omega)] at hP hD
        obtain ⟨ws2, ews2⟩ : ∃ zw : va_W, zw = List.set w9 9 ((ad 9), .inl (K 0, 6, .inl (upd (f 9) 0 (-1)))) := ⟨_, rfl⟩
        have hP : va_P D vwCl ws2 H := by rw [ews2]; exact hP
        have hD : va_D A ws2 := by rw [ews2]; exact hD
        have g0 := (show ws2[0]? = _ from (by rw [ews2]; exact hset_ne (by omega))).trans g0
        have g8 := (show ws2[8]? = _ from (by rw [ews2]; exact hset_ne (by omega))).trans g8
        have g9 : ws2[9]? = some ((ad 9), .inl (K 0, 6, .inl (upd (f 9) 0 (-1)))) := by rw [ews2]; exact hset_eq g9
        have hrx : hRX K ad ws2 (hup (hup f 8 f8) 9 (upd (f 9) 0 (-1))) ct pt md lz 0 fd := by rw [ews2]; exact hrx.arr 9 (by decide) (by decide) _
        refine hloopW (α := Nat × Nat) 62 6 (fun y => [(5, .int (hkv y.2)), (4, .int (nI y.1)), (0, .ref (ad 0)), (1, .ref (ad 6)), (2, .int (nI n)), (3, .int (nI 1))]) (fun y w9 => ∃ g kp1, hRX K ad w9 g ct pt md lz kp1 fd ∧ (∀ k, k ≠ 7 → k ≠ 8 → k ≠ 9 → k ≠ 10 → g k = f k) ∧ y.1 ≤ 20000 ∧ kp1 ≤ y.1 ∧ y.2 ≤ n ∧ ((y.2 = 0 ∧ y.1 = hCt 1 0 S Ps n n (fun _ => 0) ∧ kp1 = hCt 0 1 S Ps n n (fun _ => 0)) ∨ ∃ b d pl, y.2 = b + 1 ∧ hLvl (g 9) Ps ct ta tb tc pl b ∧ hCur (g 7) (g 8) (g 9) Ps ct ta tb tc pl b d ∧ hJI 1 0 y.1 S Ps n ct ta tb tc pl b d ∧ hJI 0 1 kp1 S Ps n ct ta tb tc pl b d)) (fun y => 8 * (20000 - y.1) + y.2) (fun _ => 0) (fun _ => 0) ?_ (0, 1) ⟨_, 0, hrx, (fun k h7 h8 h9 h10 => by simp only [hup, if_neg h7, if_neg h8, if_neg h9, if_neg h10]), Nat.zero_le _, Nat.le_refl _, hn1, Or.inr ⟨0, 0, fun _ => 0, rfl, fun j hj => absurd hj (Nat.not_lt_zero _), Or.inl ⟨by
            show upd (f 9) 0 (-1) 0 = (-1)
            rw [pk_us], rfl, fun x hx => ⟨hz8 (x + 1) (by omega), Iff.rfl, Nat.zero_le _, fun z => absurd rfl z⟩⟩, hJI.start t64 t2 t3 hn1, hJI.start t64 t2 t3 hn1⟩⟩ hP hD hS (lv_sub hl [0, 1, 2, 3, 4, 5] rfl)
        rintro ⟨R, a⟩ w9 H locs ls hI9 hP hD hS hl ih
        obtain ⟨g, kp1, hrx, hfr, hR, hkR, han, hst⟩ := hI9
        dsimp only at hR hkR han hst ih
        have hl : lv_has ls 6 [(5, .int (hkv a)), (4, .int (nI R)), (0, .ref (ad 0)), (1, .ref (ad 6)), (2, .int (nI n)), (3, .int (nI 1))] := hl
        by_cases ha0 : a = 0
        · rw [show hkv a = (-1) from if_pos ha0] at hl
          have hfin : R = hCt 1 0 S Ps n n (fun _ => 0) ∧ kp1 = hCt 0 1 S Ps n n (fun _ => 0) := by
            rcases hst with ⟨-, q⟩ | ⟨b, d, pl, q, -⟩
            · exact q
            · omega
          have g0 := hrx.1
          refine lv_iload hx hb dX9_join_62 (lv_at hl 0 rfl) ?_
          refine lv_if_lt (tgt := 209) hx hb dX9_join_64 (by decide) (fun c5 => ?_) (fun c5 => ?_)
          · refine lv_iload hx hb dX9_join_209 (lv_at hl 1 rfl) ?_
            subst hAe
            exact W.iret (v := nI R) hx hb hr (fun t ht _ => ⟨⟨nI R, w9, rfl, ⟨g, kp1, hrx, hfr, by omega, Or.inr ⟨by have := hfin; omega, by rw [hfin.1], hfin.2⟩⟩, by rw [ht]; exact hP, hD⟩, hS.F ht⟩) hS.2.2 dX9_join_211
          · exact absurd (by decide +kernel) c5
        · obtain ⟨b, d, pl, rfl, hlv, hcur, hji, hki⟩ := hst.resolve_left (fun q => ha0 q.1)
          rw [show hkv (b + 1) = nI b from if_neg (by omega)] at hl
          have hbn : b < n := by omega
          obtain ⟨hq, eq0⟩ := hod b hbn
          have eq : g 6 b = nI (od b) := by rw [hfr 6 (by decide) (by decide) (by decide) (by decide)]; exact eq0
          have g0 := hrx.1
          have g6 : w9[6]? = some (ad 6, .inl (K 0, 6, .inl (g 6))) := hrx.2 6 (by decide) (by decide)
          have g9 : w9[9]? = some (ad 9, .inl (K 0, 6, .inl (g 9))) := hrx.2 9 (by decide) (by decide)
          refine lv_iload hx hb dX9_join_62 (lv_at hl 0 rfl) ?_
          refine lv_if_lt (tgt := 209) hx hb dX9_join_64 (by decide) (fun c5 => ?_) (fun c5 => ?_)
          · exact absurd c5 (nI_pos (by omega))
          · refine lv_aload_n hx hb dX9_join_67 rfl (lv_at hl 2 rfl) ?_
            refine va_get (v := .ref (ad 9)) (C := RX9) (T := TX9) (N := 18) hx hb hts (hin_X9 hmc) hown E.1.1 hP 0 g0 rfl 12 (by decide) (hts _ (hmc _ k_581)) (fun _ h9 => h9) rfl dX9_join_68 ?_
            refine lv_iload hx hb dX9_join_71 (lv_at hl 0 rfl) ?_
            refine va_iald hx hb E.1.1 hP 9 0 g9 rfl (vp_in_nI (by omega) (by omega)) dX9_join_73 ?_
            refine htopi (v := (g 9) b) (by rw [nI_clamp (by omega)]) ?_
            refine lv_if_lt (tgt := 86) hx hb dX9_join_74 (by decide) (fun c6 => ?_) (fun c6 => ?_)
            · obtain ⟨h9b, hd0, hbv⟩ : g 9 b = (-1) ∧ d = 0 ∧ hBV (g 7) (g 8) (fun x => hOS Ps x b) (hEv Ps ta tb tc pl b) := by
                rcases hcur with q | ⟨q0, q, -⟩
                · exact q
                · rw [q] at c6; exact absurd c6 (nI_pos (by omega))
              have ed : g 9 b + nI 1 = nI d := by rw [h9b, hd0]; decide +kernel
              have hd : d ≤ ct := by omega
              refine lv_aload_n hx hb dX9_join_86 rfl (lv_at hl 2 rfl) ?_
              refine va_get (v := .ref (ad 9)) (C := RX9) (T := TX9) (N := 18) hx hb hts (hin_X9 hmc) hown E.1.1 hP 0 g0 rfl 12 (by decide) (hts _ (hmc _ k_581)) (fun _ h9 => h9) rfl dX9_join_87 ?_
              refine lv_iload hx hb dX9_join_90 (lv_at hl 0 rfl) ?_
              refine lv_dup2_11 hx hb dX9_join_92 rfl rfl ?_
              refine va_iald hx hb E.1.1 hP 9 0 g9 rfl (vp_in_nI (by omega) (by omega)) dX9_join_93 ?_
              refine htopi (v := (g 9) b) (by rw [nI_clamp (by omega)]) ?_
              refine lv_iconst (v := nI 1) hx hb dX9_join_94 (by decide +kernel) ?_
              refine lv_iadd hx hb dX9_join_95 ?_
              refine htopi (v := nI d) (ed) ?_
              refine va_iast hx hb E.1.1 hP hD hS 9 0 g9 rfl (vp_in_nI (by omega) (by omega)) dX9_join_96 (fun H locs hP hD hS => ?_)
              rw [nI_clamp (show b < 2 ^ 31 by omega)] at hP hD
              obtain ⟨ws3, ews3⟩ : ∃ zw : va_W, zw = List.set w9 9 ((ad 9), .inl (K 0, 6, .inl (upd (g 9) b (nI d)))) := ⟨_, rfl⟩
              have hP : va_P D vwCl ws3 H := by rw [ews3]; exact hP
              have hD : va_D A ws3 := by rw [ews3]; exact hD
              have g0 := (show ws3[0]? = _ from (by rw [ews3]; exact hset_ne (by omega))).trans g0
              have g6 := (show ws3[6]? = _ from (by rw [ews3]; exact hset_ne (by omega))).trans g6
              have g9 : ws3[9]? = some ((ad 9), .inl (K 0, 6, .inl (upd (g 9) b (nI d)))) := by rw [ews3]; exact hset_eq g9
              have hrx : hRX K ad ws3 (hup g 9 (upd (g 9) b (nI d))) ct pt md lz kp1 fd := by rw [ews3]; exact hrx.arr 9 (by decide) (by decide) _
              refine hloopW (α := Nat) 97 6 (fun _ => [(5, .int (nI b)), (4, .int (nI R)), (0, .ref (ad 0)), (1, .ref (ad 6)), (2, .int (nI n)), (3, .int (nI 1))]) (fun e9 w9 => e9 ≤ ct ∧ ∃ g2, hRX K ad w9 g2 ct pt md lz kp1 fd ∧ (∀ k, k ≠ 7 → k ≠ 8 → k ≠ 9 → k ≠ 10 → g2 k = f k) ∧ g2 9 b = nI e9 ∧ (∀ j, j < b → g2 9 j = g 9 j) ∧ hBV (g2 7) (g2 8) (fun x => hOS Ps x b) (hEv Ps ta tb tc pl b) ∧ hJI 1 0 R S Ps n ct ta tb tc pl b e9 ∧ hJI 0 1 kp1 S Ps n ct ta tb tc pl b e9) (fun e9 => ct - e9) (fun _ => 0) (fun _ => 0) ?_ d ⟨hd, _, hrx, (fun k h7 h8 h9 h10 => by simp only [hup, if_neg h7, if_neg h8, if_neg h9, if_neg h10]; exact hfr k h7 h8 h9 h10), by show upd (g 9) b (nI d) b = nI d; rw [pk_us], fun j hj => by show upd (g 9) b (nI d) j = g 9 j; rw [pk_un (by omega)], hbv, hji, hki⟩ hP hD hS (lv_sub hl [0, 1, 2, 3, 4, 5] rfl)
              intro e9 w9 H locs ls hI9 hP hD hS hl ih2
              obtain ⟨he9, g2, hrx, hfr2, hge, hgo, hbv2, hji2, hki2⟩ := hI9
              have hl : lv_has ls 6 [(5, .int (nI b)), (4, .int (nI R)), (0, .ref (ad 0)), (1, .ref (ad 6)), (2, .int (nI n)), (3, .int (nI 1))] := hl
              have eq2 : g2 6 b = nI (od b) := by rw [hfr2 6 (by decide) (by decide) (by decide) (by decide)]; exact eq0
              have g0 := hrx.1
              have g6 : w9[6]? = some (ad 6, .inl (K 0, 6, .inl (g2 6))) := hrx.2 6 (by decide) (by decide)
              have g9 : w9[9]? = some (ad 9, .inl (K 0, 6, .inl (g2 9))) := hrx.2 9 (by decide) (by decide)
              refine lv_aload_n hx hb dX9_join_97 rfl (lv_at hl 2 rfl) ?_
              refine va_get (v := .ref (ad 9)) (C := RX9) (T := TX9) (N := 18) hx hb hts (hin_X9 hmc) hown E.1.1 hP 0 g0 rfl 12 (by decide) (hts _ (hmc _ k_581)) (fun _ h9 => h9) rfl dX9_join_98 ?_
              refine lv_iload hx hb dX9_join_101 (lv_at hl 0 rfl) ?_
              refine va_iald hx hb E.1.1 hP 9 0 g9 rfl (vp_in_nI (by omega) (by omega)) dX9_join_103 ?_
              refine htopi (v := (g2 9) b) (by rw [nI_clamp (by omega)]) ?_
              refine htopi (v := nI e9) (hge) ?_
              refine lv_aload_n hx hb dX9_join_104 rfl (lv_at hl 2 rfl) ?_
              refine va_get (v := .int (nI ct)) (C := RX9) (T := TX9) (N := 18) hx hb hts (hin_X9 hmc) hown E.1.1 hP 0 g0 rfl 1 (by decide) (hts _ (hmc _ k_570)) (fun _ h9 => h9) rfl dX9_join_105 ?_
              refine lv_icmp_ge (tgt := 143) hx hb dX9_join_108 (by decide) (fun c7 => ?_) (fun c7 => ?_)
              · have hec : e9 = ct := by
                  have := (nI_leI (by omega) (by omega)).mp c7
                  omega
                refine lv_aload_n hx hb dX9_join_143 rfl (lv_at hl 2 rfl) ?_
                refine va_get (v := .ref (ad 9)) (C := RX9) (T := TX9) (N := 18) hx hb hts (hin_X9 hmc) hown E.1.1 hP 0 g0 rfl 12 (by decide) (hts _ (hmc _ k_581)) (fun _ h9 => h9) rfl dX9_join_144 ?_
                refine lv_iload hx hb dX9_join_147 (lv_at hl 0 rfl) ?_
                refine va_iald hx hb E.1.1 hP 9 0 g9 rfl (vp_in_nI (by omega) (by omega)) dX9_join_149 ?_
                refine htopi (v := (g2 9) b) (by rw [nI_clamp (by omega)]) ?_
                refine htopi (v := nI e9) (hge) ?_
                refine lv_aload_n hx hb dX9_join_150 rfl (lv_at hl 2 rfl) ?_
                refine va_get (v := .int (nI ct)) (C := RX9) (T := TX9) (N := 18) hx hb hts (hin_X9 hmc) hown E.1.1 hP 0 g0 rfl 1 (by decide) (hts _ (hmc _ k_570)) (fun _ h9 => h9) rfl dX9_join_151 ?_
                refine lv_icmp_ne (tgt := 163) hx hb dX9_join_154 (by decide) (fun c8 => ?_) (fun c8 => ?_)
                · first | exact absurd (by rw [hec]) c8 | exact c8 (by rw [hec]) | exact absurd (congrArg nI hec) c8
                · refine lv_iinc (v := (hkv b)) (lv' := [(5, .int (hkv b)), (4, .int (nI R)), (0, .ref (ad 0)), (1, .ref (ad 6)), (2, .int (nI n)), (3, .int (nI 1))]) hx hb dX9_join_157 hl (k := 0) rfl (hkv_dec b) (by decide) rfl (fun ls hl => ?_)
                  refine lv_goto (tgt := 62) hx hb dX9_join_160 (by decide) ?_
                  exact ih (R, b) _ H locs ls ⟨_, _, hrx, hfr2, hR, hkR, by show b ≤ n; omega, by
                      show (b = 0 ∧ _) ∨ _
                      by_cases z : b = 0
                      · subst z; exact Or.inl ⟨rfl, hji2.done (by omega), hki2.done (by omega)⟩
                      · obtain ⟨b1, rfl⟩ : ∃ b1, b = b1 + 1 := ⟨b - 1, by omega⟩
                        obtain ⟨k1, k2, k3⟩ := hlv b1 (by omega)
                        exact Or.inr ⟨b1, pl b1 + 1, pl, rfl, hlv.less (by omega) (fun j hj => hgo j (by omega)), Or.inr ⟨k1, (hgo b1 (by omega)).trans k2, rfl, k3, hbv2⟩, hji2.pop (by omega), hki2.pop (by omega)⟩⟩ (by show 8 * (20000 - R) + b < 8 * (20000 - R) + (b + 1); omega) hP hD hS (lv_sub hl [0, 1, 2, 3, 4, 5] rfl)
              · have hlt : e9 < ct := Nat.not_le.mp (fun z => c7 (nI_le z (by omega)))
                obtain ⟨b64, c64, d64⟩ := t64 e9 hlt
                refine lv_aload_n hx hb dX9_join_111 rfl (lv_at hl 2 rfl) ?_
                refine lv_aload_n hx hb dX9_join_112 rfl (lv_at hl 3 rfl) ?_
                refine lv_iload hx hb dX9_join_113 (lv_at hl 0 rfl) ?_
                refine va_iald hx hb E.1.1 hP 6 0 g6 rfl (vp_in_nI (by omega) (by omega)) dX9_join_115 ?_
                refine htopi (v := (g2 6) b) (by rw [nI_clamp (by omega)]) ?_
                refine htopi (v := nI (od b)) (eq2) ?_
                refine lv_aload_n hx hb dX9_join_116 rfl (lv_at hl 2 rfl) ?_
                refine va_get (v := .ref (ad 9)) (C := RX9) (T := TX9) (N := 18) hx hb hts (hin_X9 hmc) hown E.1.1 hP 0 g0 rfl 12 (by decide) (hts _ (hmc _ k_581)) (fun _ h9 => h9) rfl dX9_join_117 ?_
                refine lv_iload hx hb dX9_join_120 (lv_at hl 0 rfl) ?_
                refine va_iald hx hb E.1.1 hP 9 0 g9 rfl (vp_in_nI (by omega) (by omega)) dX9_join_122 ?_
                refine htopi (v := (g2 9) b) (by rw [nI_clamp (by omega)]) ?_
                refine htopi (v := nI e9) (hge) ?_
                refine hc_i E hD hS (va_runV (As := [.int (nI (od b)), .int (nI e9)]) (rest := []) ⟨hx, hb, hml, hown, hts⟩ ((c_X9_bind l D K tv w9 ad g2 ct pt md lz kp1 fd hrx (od b) e9 (by omega) (by omega) (Ps b) (fun i hi => by rw [hfr2 2 (by decide) (by decide) (by decide) (by decide)]; exact hPs b hbn i hi) (fun x => hOS Ps x b) (hEv Ps ta tb tc pl b) hbv2 (fun x => Nat.le_trans (hOS_le Ps x b) (by omega)) (ta e9) (tb e9) (tc e9) b64 c64 d64 (fun i hi => by rw [hfr2 1 (by decide) (by decide) (by decide) (by decide)]; exact htr e9 hlt i hi)) H.size) (cwV 2 hts (hGV hmc k_739 k_741 k_17 k_29 k_742) rfl rfl rfl (by decide +kernel) ⟨Nat.le_of_ble_eq_true rfl, Nat.le_of_ble_eq_true rfl⟩) (hpreV E hP hD hS g0 rfl) rfl rfl hl.1 rfl (lv_room (Nat.le_of_ble_eq_true rfl)) dX9_join_123 ⟨(Nat.le_refl _), (Nat.le_refl _)⟩) (fun r5 ws4 H locs hp hP hD hS => ?_)
                obtain ⟨f7, f8, hrx, hbd⟩ := hp
                have g0 := hrx.1
                have g9 : ws4[9]? = some (ad 9, .inl (K 0, 6, .inl (g2 9))) := hrx.2 9 (by decide) (by decide)
                refine lv_if_ne (tgt := 143) hx hb dX9_join_126 (by decide) (fun c12 => ?_) (fun c12 => ?_)
                · obtain ⟨hq9, hbv3⟩ : hCq (Ps b) (hEv Ps ta tb tc pl b) (ta e9) (tb e9) (tc e9) 3 ∧ hBV f7 f8 (fun x => hOS Ps x b + hoc (Ps b) x 3) (hXe (Ps b) (hEv Ps ta tb tc pl b) (ta e9) (tb e9) (tc e9) 3) := by
                    rcases hbd with ⟨-, q1, q2⟩ | ⟨q0, -⟩
                    · exact ⟨q1, q2⟩
                    · exact absurd q0 c12
                  refine lv_aload_n hx hb dX9_join_143 rfl (lv_at hl 2 rfl) ?_
                  refine va_get (v := .ref (ad 9)) (C := RX9) (T := TX9) (N := 18) hx hb hts (hin_X9 hmc) hown E.1.1 hP 0 g0 rfl 12 (by decide) (hts _ (hmc _ k_581)) (fun _ h9 => h9) rfl dX9_join_144 ?_
                  refine lv_iload hx hb dX9_join_147 (lv_at hl 0 rfl) ?_
                  refine va_iald hx hb E.1.1 hP 9 0 g9 rfl (vp_in_nI (by omega) (by omega)) dX9_join_149 ?_
                  refine htopi (v := (g2 9) b) (by rw [nI_clamp (by omega)]) ?_
                  refine htopi (v := nI e9) (hge) ?_
                  refine lv_aload_n hx hb dX9_join_150 rfl (lv_at hl 2 rfl) ?_
                  refine va_get (v := .int (nI ct)) (C := RX9) (T := TX9) (N := 18) hx hb hts (hin_X9 hmc) hown E.1.1 hP 0 g0 rfl 1 (by decide) (hts _ (hmc _ k_570)) (fun _ h9 => h9) rfl dX9_join_151 ?_
                  refine lv_icmp_ne (tgt := 163) hx hb dX9_join_154 (by decide) (fun c8 => ?_) (fun c8 => ?_)
                  · refine lv_iinc (v := nI (R + 1)) (lv' := [(4, .int (nI (R + 1))), (5, .int (nI b)), (0, .ref (ad 0)), (1, .ref (ad 6)), (2, .int (nI n)), (3, .int (nI 1))]) hx hb dX9_join_163 hl (k := 1) rfl (nI_1 _) (by decide) rfl (fun ls hl => ?_)
                    refine lv_iload hx hb dX9_join_166 (lv_at hl 0 rfl) ?_
                    refine lv_sipush (v := nI 20000) hx hb dX9_join_168 (by decide +kernel) ?_
                    refine lv_icmp_le (tgt := 176) hx hb dX9_join_171 (by decide) (fun c9 => ?_) (fun c9 => ?_)
                    · have hR2 : R + 1 ≤ 20000 := by
                        have := (nI_leI (by omega) (by decide)).mp c9
                        omega
                      refine lv_iload hx hb dX9_join_176 (lv_at hl 1 rfl) ?_
                      refine lv_iconst (v := nI 1) hx hb dX9_join_178 (by decide +kernel) ?_
                      refine lv_iadd hx hb dX9_join_179 ?_
                      refine htopi (v := nI (b + 1)) (nI_add _ _) ?_
                      refine lv_iload_n hx hb dX9_join_180 rfl (lv_at hl 4 rfl) ?_
                      refine lv_icmp_ge (tgt := 198) hx hb dX9_join_181 (by decide) (fun c10 => ?_) (fun c10 => ?_)
                      · have hbl : b + 1 = n := by
                          have := (nI_leI (by omega) (by omega)).mp c10
                          omega
                        refine lv_iload_n hx hb dX9_join_198 rfl (lv_at hl 5 rfl) ?_
                        refine lv_if_eq (tgt := 62) hx hb dX9_join_199 (by decide) (fun c11 => ?_) (fun c11 => ?_)
                        · first | exact absurd rfl c11 | exact absurd c11 (by decide +kernel) | exact absurd (by decide +kernel) c11
                        · refine lv_aload_n hx hb dX9_join_202 rfl (lv_at hl 2 rfl) ?_
                          refine hc_v E hD hS (va_runV (As := []) (rest := []) ⟨hx, hb, hml, hown, hts⟩ ((c_X9_keep l D K tv ws4 ad (hup (hup g2 7 f7) 8 f8) ct pt md lz kp1 fd hrx (by omega)) H.size) (cwV 0 hts (hGV hmc k_731 k_733 k_15 k_29 k_734) rfl rfl rfl (by decide +kernel) ⟨Nat.le_of_ble_eq_true rfl, Nat.le_of_ble_eq_true rfl⟩) (hpreV E hP hD hS g0 rfl) rfl rfl hl.1 rfl (lv_room (Nat.le_of_ble_eq_true rfl)) dX9_join_203 ⟨(Nat.le_refl _), (Nat.le_refl _)⟩) (fun ws6 H locs hp hP hD hS => ?_)
                          obtain ⟨f10, hrx⟩ := hp
                          refine lv_goto (tgt := 62) hx hb dX9_join_206 (by decide) ?_
                          rw [show nI b = hkv (b + 1) from (if_neg (show ¬ (b + 1) = 0 by omega)).symm] at hl
                          exact ih (R + 1, (b + 1)) _ H locs ls ⟨_, _, hrx, (fun k h7 h8 h9 h10 => by simp only [hup, if_neg h7, if_neg h8, if_neg h9, if_neg h10]; exact hfr2 k h7 h8 h9 h10), hR2, by show kp1 + 1 ≤ R + 1; omega, by show b + 1 ≤ n; omega, Or.inr ⟨b, e9 + 1, hpu pl b e9, rfl, (hlv.put (h2 := g2 9) hgo hge hlt hq9).less (by omega) (fun _ _ => rfl), hCur.put hge hlt hq9 hbv3, hji2.last hbl hlt hq9, hki2.last hbl hlt hq9⟩⟩ (by show 8 * (20000 - (R + 1)) + (b + 1) < 8 * (20000 - R) + (b + 1); omega) hP hD hS (lv_sub hl [1, 0, 2, 3, 4, 5] rfl)
                      · have hb1 : b + 1 < n := Nat.not_le.mp (fun z => c10 (nI_le z (by omega)))
                        refine lv_iinc (v := nI (b + 1)) (lv' := [(5, .int (nI (b + 1))), (4, .int (nI (R + 1))), (0, .ref (ad 0)), (1, .ref (ad 6)), (2, .int (nI n)), (3, .int (nI 1))]) hx hb dX9_join_184 hl (k := 1) rfl (nI_1 _) (by decide) rfl (fun ls hl => ?_)
                        refine lv_aload_n hx hb dX9_join_187 rfl (lv_at hl 2 rfl) ?_
                        refine va_get (v := .ref (ad 9)) (C := RX9) (T := TX9) (N := 18) hx hb hts (hin_X9 hmc) hown E.1.1 hP 0 g0 rfl 12 (by decide) (hts _ (hmc _ k_581)) (fun _ h9 => h9) rfl dX9_join_188 ?_
                        refine lv_iload hx hb dX9_join_191 (lv_at hl 0 rfl) ?_
                        refine lv_iconst (v := (-1)) hx hb dX9_join_193 (by decide +kernel) ?_
                        refine va_iast hx hb E.1.1 hP hD hS 9 0 g9 rfl (vp_in_nI (by omega) (by omega)) dX9_join_194 (fun H locs hP hD hS => ?_)
                        rw [nI_clamp (show (b + 1) < 2 ^ 31 by omega)] at hP hD
                        obtain ⟨ws7, ews7⟩ : ∃ zw : va_W, zw = List.set ws4 9 ((ad 9), .inl (K 0, 6, .inl (upd (g2 9) (b + 1) (-1)))) := ⟨_, rfl⟩
                        have hP : va_P D vwCl ws7 H := by rw [ews7]; exact hP
                        have hD : va_D A ws7 := by rw [ews7]; exact hD
                        have g0 := (show ws7[0]? = _ from (by rw [ews7]; exact hset_ne (by omega))).trans g0
                        have g9 : ws7[9]? = some ((ad 9), .inl (K 0, 6, .inl (upd (g2 9) (b + 1) (-1)))) := by rw [ews7]; exact hset_eq g9
                        have hrx : hRX K ad ws7 (hup (hup (hup g2 7 f7) 8 f8) 9 (upd (g2 9) (b + 1) (-1))) ct pt md lz kp1 fd := by rw [ews7]; exact hrx.arr 9 (by decide) (by decide) _
                        refine lv_goto (tgt := 62) hx hb dX9_join_195 (by decide) ?_
                        rw [show nI (b + 1) = hkv (b + 1 + 1) from (if_neg (show ¬ (b + 1 + 1) = 0 by omega)).symm] at hl
                        exact ih (R + 1, (b + 1 + 1)) _ H locs ls ⟨_, _, hrx, (fun k h7 h8 h9 h10 => by simp only [hup, if_neg h7, if_neg h8, if_neg h9, if_neg h10]; exact hfr2 k h7 h8 h9 h10), hR2, by show kp1 ≤ R + 1; omega, by show b + 1 + 1 ≤ n; omega, Or.inr ⟨b + 1, 0, hpu pl b e9, rfl, hlv.put (h2 := upd (g2 9) (b + 1) (-1)) (fun j hj => (pk_un (by omega)).trans (hgo j hj)) ((pk_un (by omega)).trans hge) hlt hq9, Or.inl ⟨by
                            show upd (g2 9) (b + 1) (-1) (b + 1) = (-1)
                            rw [pk_us], rfl, by
                            rw [hpu_ev1]; exact hbv3⟩, hji2.deep t64 t2 t3 hb1 hlt hq9, hki2.deep t64 t2 t3 hb1 hlt hq9⟩⟩ (by show 8 * (20000 - (R + 1)) + (b + 1 + 1) < 8 * (20000 - R) + (b + 1); omega) hP hD hS (lv_sub hl [0, 1, 2, 3, 4, 5] rfl)
                    · have hov : 20000 < hCt 1 0 S Ps n n (fun _ => 0) := by
                        have h1 := hji2.more hlt hq9
                        have h2 : 20000 < R + 1 := Nat.not_le.mp (fun z => c9 (nI_le z (by decide)))
                        omega
                      refine lv_iconst (v := (-1)) hx hb dX9_join_174 (by decide +kernel) ?_
                      subst hAe
                      exact W.iret (v := (-1)) hx hb hr (fun t ht _ => ⟨⟨(-1), ws4, rfl, ⟨_, kp1, hrx, (fun k h7 h8 h9 h10 => by simp only [hup, if_neg h7, if_neg h8, if_neg h9, if_neg h10]; exact hfr2 k h7 h8 h9 h10), by omega, Or.inl ⟨hov, rfl⟩⟩, by rw [ht]; exact hP, hD⟩, hS.F ht⟩) hS.2.2 dX9_join_175
                  · have e8 : nI e9 = nI ct := by first | exact c8 | exact Classical.not_not.mp c8
                    have := (nI_eq (by omega) (by omega)).mp e8
                    omega
                · obtain ⟨hq9, hbv3⟩ : ¬ hCq (Ps b) (hEv Ps ta tb tc pl b) (ta e9) (tb e9) (tc e9) 3 ∧ hBV f7 f8 (fun x => hOS Ps x b) (hEv Ps ta tb tc pl b) := by
                    rcases hbd with ⟨q0, -⟩ | ⟨-, q1, q2⟩
                    · rw [q0] at c12; exact absurd c12 (by decide +kernel)
                    · exact ⟨q1, q2⟩
                  refine lv_aload_n hx hb dX9_join_129 rfl (lv_at hl 2 rfl) ?_
                  refine va_get (v := .ref (ad 9)) (C := RX9) (T := TX9) (N := 18) hx hb hts (hin_X9 hmc) hown E.1.1 hP 0 g0 rfl 12 (by decide) (hts _ (hmc _ k_581)) (fun _ h9 => h9) rfl dX9_join_130 ?_
                  refine lv_iload hx hb dX9_join_133 (lv_at hl 0 rfl) ?_
                  refine lv_dup2_11 hx hb dX9_join_135 rfl rfl ?_
                  refine va_iald hx hb E.1.1 hP 9 0 g9 rfl (vp_in_nI (by omega) (by omega)) dX9_join_136 ?_
                  refine htopi (v := (g2 9) b) (by rw [nI_clamp (by omega)]) ?_
                  refine htopi (v := nI e9) (hge) ?_
                  refine lv_iconst (v := nI 1) hx hb dX9_join_137 (by decide +kernel) ?_
                  refine lv_iadd hx hb dX9_join_138 ?_
                  refine htopi (v := nI (e9 + 1)) (nI_add _ _) ?_
                  refine va_iast hx hb E.1.1 hP hD hS 9 0 g9 rfl (vp_in_nI (by omega) (by omega)) dX9_join_139 (fun H locs hP hD hS => ?_)
                  rw [nI_clamp (show b < 2 ^ 31 by omega)] at hP hD
                  obtain ⟨ws8, ews8⟩ : ∃ zw : va_W, zw = List.set ws4 9 ((ad 9), .inl (K 0, 6, .inl (upd (g2 9) b (nI (e9 + 1))))) := ⟨_, rfl⟩
                  have hP : va_P D vwCl ws8 H := by rw [ews8]; exact hP
                  have hD : va_D A ws8 := by rw [ews8]; exact hD
                  have g0 := (show ws8[0]? = _ from (by rw [ews8]; exact hset_ne (by omega))).trans g0
                  have g9 : ws8[9]? = some ((ad 9), .inl (K 0, 6, .inl (upd (g2 9) b (nI (e9 + 1))))) := by rw [ews8]; exact hset_eq g9
                  have hrx : hRX K ad ws8 (hup (hup (hup g2 7 f7) 8 f8) 9 (upd (g2 9) b (nI (e9 + 1)))) ct pt md lz kp1 fd := by rw [ews8]; exact hrx.arr 9 (by decide) (by decide) _
                  refine lv_goto (tgt := 97) hx hb dX9_join_140 (by decide) ?_
                  exact ih2 (e9 + 1) _ H locs ls ⟨by omega, _, hrx, (fun k h7 h8 h9 h10 => by simp only [hup, if_neg h7, if_neg h8, if_neg h9, if_neg h10]; exact hfr2 k h7 h8 h9 h10), by show upd (g2 9) b (nI (e9 + 1)) b = _; rw [pk_us], fun j hj => by show upd (g2 9) b (nI (e9 + 1)) j = g 9 j; rw [pk_un (by omega)]; exact hgo j hj, hbv3, hji2.skip hq9, hki2.skip hq9⟩ (by omega) hP hD hS (lv_sub hl [0, 1, 2, 3, 4, 5] rfl)
            · obtain ⟨hplb, h9b, hd0, hq9, hbv1⟩ : pl b < ct ∧ g 9 b = nI (pl b) ∧ d = pl b + 1 ∧ hCq (Ps b) (hEv Ps ta tb tc pl b) (ta (pl b)) (tb (pl b)) (tc (pl b)) 3 ∧ hBV (g 7) (g 8) (fun x => hOS Ps x (b + 1)) (hEv Ps ta tb tc pl (b + 1)) := by
                rcases hcur with ⟨q, -⟩ | q
                · rw [q] at c6; exact absurd (by decide +kernel) c6
                · exact q
              have ed : g 9 b + nI 1 = nI d := by rw [h9b, hd0]; exact nI_add _ _
              have hd : d ≤ ct := by omega
              refine lv_aload_n hx hb dX9_join_77 rfl (lv_at hl 2 rfl) ?_
              refine lv_aload_n hx hb dX9_join_78 rfl (lv_at hl 3 rfl) ?_
              refine lv_iload hx hb dX9_join_79 (lv_at hl 0 rfl) ?_
              refine va_iald hx hb E.1.1 hP 6 0 g6 rfl (vp_in_nI (by omega) (by omega)) dX9_join_81 ?_
              refine htopi (v := (g 6) b) (by rw [nI_clamp (by omega)]) ?_
              refine htopi (v := nI (od b)) (eq) ?_
              refine lv_iconst (v := nI 3) hx hb dX9_join_82 (by decide +kernel) ?_
              refine hc_v E hD hS (va_runV (As := [.int (nI (od b)), .int (nI 3)]) (rest := []) ⟨hx, hb, hml, hown, hts⟩ ((c_X9_loosen l D K tv w9 ad g ct pt md lz kp1 fd hrx (od b) (by omega) (Ps b) (fun i hi => by rw [hfr 2 (by decide) (by decide) (by decide) (by decide)]; exact hPs b hbn i hi) 3 (by decide) (fun x => hOS Ps x b) (fun x hx => (hbv1 x hx).1)) H.size) (cwV 2 hts (hGV hmc k_735 k_737 k_16 k_29 k_738) rfl rfl rfl (by decide +kernel) ⟨Nat.le_of_ble_eq_true rfl, Nat.le_of_ble_eq_true rfl⟩) (hpreV E hP hD hS g0 rfl) rfl rfl hl.1 rfl (lv_room (Nat.le_of_ble_eq_true rfl)) dX9_join_83 ⟨(Nat.le_refl _), (Nat.le_refl _)⟩) (fun ws9 H locs hp hP hD hS => ?_)
              obtain ⟨f8, hrx, hf8⟩ := hp
              have hbv : hBV (g 7) f8 (fun x => hOS Ps x b) (hEv Ps ta tb tc pl b) := hBV.back (cn := fun x => hOS Ps x b) (J := Ps b) (e := (hEv Ps ta tb tc pl b)) (a := ta (pl b)) (b := tb (pl b)) (c := tc (pl b)) (i := 3) hbv1 hq9 (fun x hx => hEv_str t64 b (fun i hi => (hlv i hi).1) x hx) hf8
              have g0 := hrx.1
              have g9 : ws9[9]? = some (ad 9, .inl (K 0, 6, .inl (g 9))) := hrx.2 9 (by decide) (by decide)
              refine lv_aload_n hx hb dX9_join_86 rfl (lv_at hl 2 rfl) ?_
              refine va_get (v := .ref (ad 9)) (C := RX9) (T := TX9) (N := 18) hx hb hts (hin_X9 hmc) hown E.1.1 hP 0 g0 rfl 12 (by decide) (hts _ (hmc _ k_581)) (fun _ h9 => h9) rfl dX9_join_87 ?_
              refine lv_iload hx hb dX9_join_90 (lv_at hl 0 rfl) ?_
              refine lv_dup2_11 hx hb dX9_join_92 rfl rfl ?_
              refine va_iald hx hb E.1.1 hP 9 0 g9 rfl (vp_in_nI (by omega) (by omega)) dX9_join_93 ?_
              refine htopi (v := (g 9) b) (by rw [nI_clamp (by omega)]) ?_
              refine lv_iconst (v := nI 1) hx hb dX9_join_94 (by decide +kernel) ?_
              refine lv_iadd hx hb dX9_join_95 ?_
              refine htopi (v := nI d) (ed) ?_
              refine va_iast hx hb E.1.1 hP hD hS 9 0 g9 rfl (vp_in_nI (by omega) (by omega)) dX9_join_96 (fun H locs hP hD hS => ?_)
              rw [nI_clamp (show b < 2 ^ 31 by omega)] at hP hD
              obtain ⟨ws10, ews10⟩ : ∃ zw : va_W, zw = List.set ws9 9 ((ad 9), .inl (K 0, 6, .inl (upd (g 9) b (nI d)))) := ⟨_, rfl⟩
              have hP : va_P D vwCl ws10 H := by rw [ews10]; exact hP
              have hD : va_D A ws10 := by rw [ews10]; exact hD
              have g0 := (show ws10[0]? = _ from (by rw [ews10]; exact hset_ne (by omega))).trans g0
              have g9 : ws10[9]? = some ((ad 9), .inl (K 0, 6, .inl (upd (g 9) b (nI d)))) := by rw [ews10]; exact hset_eq g9
              have hrx : hRX K ad ws10 (hup (hup g 8 f8) 9 (upd (g 9) b (nI d))) ct pt md lz kp1 fd := by rw [ews10]; exact hrx.arr 9 (by decide) (by decide) _
              refine hloopW (α := Nat) 97 6 (fun _ => [(5, .int (nI b)), (4, .int (nI R)), (0, .ref (ad 0)), (1, .ref (ad 6)), (2, .int (nI n)), (3, .int (nI 1))]) (fun e9 w9 => e9 ≤ ct ∧ ∃ g2, hRX K ad w9 g2 ct pt md lz kp1 fd ∧ (∀ k, k ≠ 7 → k ≠ 8 → k ≠ 9 → k ≠ 10 → g2 k = f k) ∧ g2 9 b = nI e9 ∧ (∀ j, j < b → g2 9 j = g 9 j) ∧ hBV (g2 7) (g2 8) (fun x => hOS Ps x b) (hEv Ps ta tb tc pl b) ∧ hJI 1 0 R S Ps n ct ta tb tc pl b e9 ∧ hJI 0 1 kp1 S Ps n ct ta tb tc pl b e9) (fun e9 => ct - e9) (fun _ => 0) (fun _ => 0) ?_ d ⟨hd, _, hrx, (fun k h7 h8 h9 h10 => by simp only [hup, if_neg h7, if_neg h8, if_neg h9, if_neg h10]; exact hfr k h7 h8 h9 h10), by show upd (g 9) b (nI d) b = nI d; rw [pk_us], fun j hj => by show upd (g 9) b (nI d) j = g 9 j; rw [pk_un (by omega)], hbv, hji, hki⟩ hP hD hS (lv_sub hl [0, 1, 2, 3, 4, 5] rfl)
              intro e9 w9 H locs ls hI9 hP hD hS hl ih2
              obtain ⟨he9, g2, hrx, hfr2, hge, hgo, hbv2, hji2, hki2⟩ := hI9
              have hl : lv_has ls 6 [(5, .int (nI b)), (4, .int (nI R)), (0, .ref (ad 0)), (1, .ref (ad 6)), (2, .int (nI n)), (3, .int (nI 1))] := hl
              have eq2 : g2 6 b = nI (od b) := by rw [hfr2 6 (by decide) (by decide) (by decide) (by decide)]; exact eq0
              have g0 := hrx.1
              have g6 : w9[6]? = some (ad 6, .inl (K 0, 6, .inl (g2 6))) := hrx.2 6 (by decide) (by decide)
              have g9 : w9[9]? = some (ad 9, .inl (K 0, 6, .inl (g2 9))) := hrx.2 9 (by decide) (by decide)
              refine lv_aload_n hx hb dX9_join_97 rfl (lv_at hl 2 rfl) ?_
              refine va_get (v := .ref (ad 9)) (C := RX9) (T := TX9) (N := 18) hx hb hts (hin_X9 hmc) hown E.1.1 hP 0 g0 rfl 12 (by decide) (hts _ (hmc _ k_581)) (fun _ h9 => h9) rfl dX9_join_98 ?_
              refine lv_iload hx hb dX9_join_101 (lv_at hl 0 rfl) ?_
              refine va_iald hx hb E.1.1 hP 9 0 g9 rfl (vp_in_nI (by omega) (by omega)) dX9_join_103 ?_
              refine htopi (v := (g2 9) b) (by rw [nI_clamp (by omega)]) ?_
              refine htopi (v := nI e9) (hge) ?_
              refine lv_aload_n hx hb dX9_join_104 rfl (lv_at hl 2 rfl) ?_
              refine va_get (v := .int (nI ct)) (C := RX9) (T := TX9) (N := 18) hx hb hts (hin_X9 hmc) hown E.1.1 hP 0 g0 rfl 1 (by decide) (hts _ (hmc _ k_570)) (fun _ h9 => h9) rfl dX9_join_105 ?_
              refine lv_icmp_ge (tgt := 143) hx hb dX9_join_108 (by decide) (fun c7 => ?_) (fun c7 => ?_)
              · have hec : e9 = ct := by
                  have := (nI_leI (by omega) (by omega)).mp c7
                  omega
                refine lv_aload_n hx hb dX9_join_143 rfl (lv_at hl 2 rfl) ?_
                refine va_get (v := .ref (ad 9)) (C := RX9) (T := TX9) (N := 18) hx hb hts (hin_X9 hmc) hown E.1.1 hP 0 g0 rfl 12 (by decide) (hts _ (hmc _ k_581)) (fun _ h9 => h9) rfl dX9_join_144 ?_
                refine lv_iload hx hb dX9_join_147 (lv_at hl 0 rfl) ?_
                refine va_iald hx hb E.1.1 hP 9 0 g9 rfl (vp_in_nI (by omega) (by omega)) dX9_join_149 ?_
                refine htopi (v := (g2 9) b) (by rw [nI_clamp (by omega)]) ?_
                refine htopi (v := nI e9) (hge) ?_
                refine lv_aload_n hx hb dX9_join_150 rfl (lv_at hl 2 rfl) ?_
                refine va_get (v := .int (nI ct)) (C := RX9) (T := TX9) (N := 18) hx hb hts (hin_X9 hmc) hown E.1.1 hP 0 g0 rfl 1 (by decide) (hts _ (hmc _ k_570)) (fun _ h9 => h9) rfl dX9_join_151 ?_
                refine lv_icmp_ne (tgt := 163) hx hb dX9_join_154 (by decide) (fun c8 => ?_) (fun c8 => ?_)
                · first | exact absurd (by rw [hec]) c8 | exact c8 (by rw [hec]) | exact absurd (congrArg nI hec) c8
                · refine lv_iinc (v := (hkv b)) (lv' := [(5, .int (hkv b)), (4, .int (nI R)), (0, .ref (ad 0)), (1, .ref (ad 6)), (2, .int (nI n)), (3, .int (nI 1))]) hx hb dX9_join_157 hl (k := 0) rfl (hkv_dec b) (by decide) rfl (fun ls hl => ?_)
                  refine lv_goto (tgt := 62) hx hb dX9_join_160 (by decide) ?_
                  exact ih (R, b) _ H locs ls ⟨_, _, hrx, hfr2, hR, hkR, by show b ≤ n; omega, by
                      show (b = 0 ∧ _) ∨ _
                      by_cases z : b = 0
                      · subst z; exact Or.inl ⟨rfl, hji2.done (by omega), hki2.done (by omega)⟩
                      · obtain ⟨b1, rfl⟩ : ∃ b1, b = b1 + 1 := ⟨b - 1, by omega⟩
                        obtain ⟨k1, k2, k3⟩ := hlv b1 (by omega)
                        exact Or.inr ⟨b1, pl b1 + 1, pl, rfl, hlv.less (by omega) (fun j hj => hgo j (by omega)), Or.inr ⟨k1, (hgo b1 (by omega)).trans k2, rfl, k3, hbv2⟩, hji2.pop (by omega), hki2.pop (by omega)⟩⟩ (by show 8 * (20000 - R) + b < 8 * (20000 - R) + (b + 1); omega) hP hD hS (lv_sub hl [0, 1, 2, 3, 4, 5] rfl)
              · have hlt : e9 < ct := Nat.not_le.mp (fun z => c7 (nI_le z (by omega)))
                obtain ⟨b64, c64, d64⟩ := t64 e9 hlt
                refine lv_aload_n hx hb dX9_join_111 rfl (lv_at hl 2 rfl) ?_
                refine lv_aload_n hx hb dX9_join_112 rfl (lv_at hl 3 rfl) ?_
                refine lv_iload hx hb dX9_join_113 (lv_at hl 0 rfl) ?_
                refine va_iald hx hb E.1.1 hP 6 0 g6 rfl (vp_in_nI (by omega) (by omega)) dX9_join_115 ?_
                refine htopi (v := (g2 6) b) (by rw [nI_clamp (by omega)]) ?_
                refine htopi (v := nI (od b)) (eq2) ?_
                refine lv_aload_n hx hb dX9_join_116 rfl (lv_at hl 2 rfl) ?_
                refine va_get (v := .ref (ad 9)) (C := RX9) (T := TX9) (N := 18) hx hb hts (hin_X9 hmc) hown E.1.1 hP 0 g0 rfl 12 (by decide) (hts _ (hmc _ k_581)) (fun _ h9 => h9) rfl dX9_join_117 ?_
                refine lv_iload hx hb dX9_join_120 (lv_at hl 0 rfl) ?_
                refine va_iald hx hb E.1.1 hP 9 0 g9 rfl (vp_in_nI (by omega) (by omega)) dX9_join_122 ?_
                refine htopi (v := (g2 9) b) (by rw [nI_clamp (by omega)]) ?_
                refine htopi (v := nI e9) (hge) ?_
                refine hc_i E hD hS (va_runV (As := [.int (nI (od b)), .int (nI e9)]) (rest := []) ⟨hx, hb, hml, hown, hts⟩ ((c_X9_bind l D K tv w9 ad g2 ct pt md lz kp1 fd hrx (od b) e9 (by omega) (by omega) (Ps b) (fun i hi => by rw [hfr2 2 (by decide) (by decide) (by decide) (by decide)]; exact hPs b hbn i hi) (fun x => hOS Ps x b) (hEv Ps ta tb tc pl b) hbv2 (fun x => Nat.le_trans (hOS_le Ps x b) (by omega)) (ta e9) (tb e9) (tc e9) b64 c64 d64 (fun i hi => by rw [hfr2 1 (by decide) (by decide) (by decide) (by decide)]; exact htr e9 hlt i hi)) H.size) (cwV 2 hts (hGV hmc k_739 k_741 k_17 k_29 k_742) rfl rfl rfl (by decide +kernel) ⟨Nat.le_of_ble_eq_true rfl, Nat.le_of_ble_eq_true rfl⟩) (hpreV E hP hD hS g0 rfl) rfl rfl hl.1 rfl (lv_room (Nat.le_of_ble_eq_true rfl)) dX9_join_123 ⟨(Nat.le_refl _), (Nat.le_refl _)⟩) (fun r12 ws11 H locs hp hP hD hS => ?_)
                obtain ⟨f7, f8, hrx, hbd⟩ := hp
                have g0 := hrx.1
                have g9 : ws11[9]? = some (ad 9, .inl (K 0, 6, .inl (g2 9))) := hrx.2 9 (by decide) (by decide)
                refine lv_if_ne (tgt := 143) hx hb dX9_join_126 (by decide) (fun c12 => ?_) (fun c12 => ?_)
                · obtain ⟨hq9, hbv3⟩ : hCq (Ps b) (hEv Ps ta tb tc pl b) (ta e9) (tb e9) (tc e9) 3 ∧ hBV f7 f8 (fun x => hOS Ps x b + hoc (Ps b) x 3) (hXe (Ps b) (hEv Ps ta tb tc pl b) (ta e9) (tb e9) (tc e9) 3) := by
                    rcases hbd with ⟨-, q1, q2⟩ | ⟨q0, -⟩
                    · exact ⟨q1, q2⟩
                    · exact absurd q0 c12
                  refine lv_aload_n hx hb dX9_join_143 rfl (lv_at hl 2 rfl) ?_
                  refine va_get (v := .ref (ad 9)) (C := RX9) (T := TX9) (N := 18) hx hb hts (hin_X9 hmc) hown E.1.1 hP 0 g0 rfl 12 (by decide) (hts _ (hmc _ k_581)) (fun _ h9 => h9) rfl dX9_join_144 ?_
                  refine lv_iload hx hb dX9_join_147 (lv_at hl 0 rfl) ?_
                  refine va_iald hx hb E.1.1 hP 9 0 g9 rfl (vp_in_nI (by omega) (by omega)) dX9_join_149 ?_
                  refine htopi (v := (g2 9) b) (by rw [nI_clamp (by omega)]) ?_
                  refine htopi (v := nI e9) (hge) ?_
                  refine lv_aload_n hx hb dX9_join_150 rfl (lv_at hl 2 rfl) ?_
                  refine va_get (v := .int (nI ct)) (C := RX9) (T := TX9) (N := 18) hx hb hts (hin_X9 hmc) hown E.1.1 hP 0 g0 rfl 1 (by decide) (hts _ (hmc _ k_570)) (fun _ h9 => h9) rfl dX9_join_151 ?_
                  refine lv_icmp_ne (tgt := 163) hx hb dX9_join_154 (by decide) (fun c8 => ?_) (fun c8 => ?_)
                  · refine lv_iinc (v := nI (R + 1)) (lv' := [(4, .int (nI (R + 1))), (5, .int (nI b)), (0, .ref (ad 0)), (1, .ref (ad 6)), (2, .int (nI n)), (3, .int (nI 1))]) hx hb dX9_join_163 hl (k := 1) rfl (nI_1 _) (by decide) rfl (fun ls hl => ?_)
                    refine lv_iload hx hb dX9_join_166 (lv_at hl 0 rfl) ?_
                    refine lv_sipush (v := nI 20000) hx hb dX9_join_168 (by decide +kernel) ?_
                    refine lv_icmp_le (tgt := 176) hx hb dX9_join_171 (by decide) (fun c9 => ?_) (fun c9 => ?_)
                    · have hR2 : R + 1 ≤ 20000 := by
                        have := (nI_leI (by omega) (by decide)).mp c9
                        omega
                      refine lv_iload hx hb dX9_join_176 (lv_at hl 1 rfl) ?_
                      refine lv_iconst (v := nI 1) hx hb dX9_join_178 (by decide +kernel) ?_
                      refine lv_iadd hx hb dX9_join_179 ?_
                      refine htopi (v := nI (b + 1)) (nI_add _ _) ?_
                      refine lv_iload_n hx hb dX9_join_180 rfl (lv_at hl 4 rfl) ?_
                      refine lv_icmp_ge (tgt := 198) hx hb dX9_join_181 (by decide) (fun c10 => ?_) (fun c10 => ?_)
                      · have hbl : b + 1 = n := by
                          have := (nI_leI (by omega) (by omega)).mp c10
                          omega
                        refine lv_iload_n hx hb dX9_join_198 rfl (lv_at hl 5 rfl) ?_
                        refine lv_if_eq (tgt := 62) hx hb dX9_join_199 (by decide) (fun c11 => ?_) (fun c11 => ?_)
                        · first | exact absurd rfl c11 | exact absurd c11 (by decide +kernel) | exact absurd (by decide +kernel) c11
                        · refine lv_aload_n hx hb dX9_join_202 rfl (lv_at hl 2 rfl) ?_
                          refine hc_v E hD hS (va_runV (As := []) (rest := []) ⟨hx, hb, hml, hown, hts⟩ ((c_X9_keep l D K tv ws11 ad (hup (hup g2 7 f7) 8 f8) ct pt md lz kp1 fd hrx (by omega)) H.size) (cwV 0 hts (hGV hmc k_731 k_733 k_15 k_29 k_734) rfl rfl rfl (by decide +kernel) ⟨Nat.le_of_ble_eq_true rfl, Nat.le_of_ble_eq_true rfl⟩) (hpreV E hP hD hS g0 rfl) rfl rfl hl.1 rfl (lv_room (Nat.le_of_ble_eq_true rfl)) dX9_join_203 ⟨(Nat.le_refl _), (Nat.le_refl _)⟩) (fun ws13 H locs hp hP hD hS => ?_)
                          obtain ⟨f10, hrx⟩ := hp
                          refine lv_goto (tgt := 62) hx hb dX9_join_206 (by decide) ?_
                          rw [show nI b = hkv (b + 1) from (if_neg (show ¬ (b + 1) = 0 by omega)).symm] at hl
                          exact ih (R + 1, (b + 1)) _ H locs ls ⟨_, _, hrx, (fun k h7 h8 h9 h10 => by simp only [hup, if_neg h7, if_neg h8, if_neg h9, if_neg h10]; exact hfr2 k h7 h8 h9 h10), hR2, by show kp1 + 1 ≤ R + 1; omega, by show b + 1 ≤ n; omega, Or.inr ⟨b, e9 + 1, hpu pl b e9, rfl, (hlv.put (h2 := g2 9) hgo hge hlt hq9).less (by omega) (fun _ _ => rfl), hCur.put hge hlt hq9 hbv3, hji2.last hbl hlt hq9, hki2.last hbl hlt hq9⟩⟩ (by show 8 * (20000 - (R + 1)) + (b + 1) < 8 * (20000 - R) + (b + 1); omega) hP hD hS (lv_sub hl [1, 0, 2, 3, 4, 5] rfl)
                      · have hb1 : b + 1 < n := Nat.not_le.mp (fun z => c10 (nI_le z (by omega)))
                        refine lv_iinc (v := nI (b + 1)) (lv' := [(5, .int (nI (b + 1))), (4, .int (nI (R + 1))), (0, .ref (ad 0)), (1, .ref (ad 6)), (2, .int (nI n)), (3, .int (nI 1))]) hx hb dX9_join_184 hl (k := 1) rfl (nI_1 _) (by decide) rfl (fun ls hl => ?_)
                        refine lv_aload_n hx hb dX9_join_187 rfl (lv_at hl 2 rfl) ?_
                        refine va_get (v := .ref (ad 9)) (C := RX9) (T := TX9) (N := 18) hx hb hts (hin_X9 hmc) hown E.1.1 hP 0 g0 rfl 12 (by decide) (hts _ (hmc _ k_581)) (fun _ h9 => h9) rfl dX9_join_188 ?_
                        refine lv_iload hx hb dX9_join_191 (lv_at hl 0 rfl) ?_
                        refine lv_iconst (v := (-1)) hx hb dX9_join_193 (by decide +kernel) ?_
                        refine va_iast hx hb E.1.1 hP hD hS 9 0 g9 rfl (vp_in_nI (by omega) (by omega)) dX9_join_194 (fun H locs hP hD hS => ?_)
                        rw [nI_clamp (show (b + 1) < 2 ^ 31 by omega)] at hP hD
                        obtain ⟨ws14, ews14⟩ : ∃ zw : va_W, zw = List.set ws11 9 ((ad 9), .inl (K 0, 6, .inl (upd (g2 9) (b + 1) (-1)))) := ⟨_, rfl⟩
                        have hP : va_P D vwCl ws14 H := by rw [ews14]; exact hP
                        have hD : va_D A ws14 := by rw [ews14]; exact hD
                        have g0 := (show ws14[0]? = _ from (by rw [ews14]; exact hset_ne (by omega))).trans g0
                        have g9 : ws14[9]? = some ((ad 9), .inl (K 0, 6, .inl (upd (g2 9) (b + 1) (-1)))) := by rw [ews14]; exact hset_eq g9
                        have hrx : hRX K ad ws14 (hup (hup (hup g2 7 f7) 8 f8) 9 (upd (g2 9) (b + 1) (-1))) ct pt md lz kp1 fd := by rw [ews14]; exact hrx.arr 9 (by decide) (by decide) _
                        refine lv_goto (tgt := 62) hx hb dX9_join_195 (by decide) ?_
                        rw [show nI (b + 1) = hkv (b + 1 + 1) from (if_neg (show ¬ (b + 1 + 1) = 0 by omega)).symm] at hl
                        exact ih (R + 1, (b + 1 + 1)) _ H locs ls ⟨_, _, hrx, (fun k h7 h8 h9 h10 => by simp only [hup, if_neg h7, if_neg h8, if_neg h9, if_neg h10]; exact hfr2 k h7 h8 h9 h10), hR2, by show kp1 ≤ R + 1; omega, by show b + 1 + 1 ≤ n; omega, Or.inr ⟨b + 1, 0, hpu pl b e9, rfl, hlv.put (h2 := upd (g2 9) (b + 1) (-1)) (fun j hj => (pk_un (by omega)).trans (hgo j hj)) ((pk_un (by omega)).trans hge) hlt hq9, Or.inl ⟨by
                            show upd (g2 9) (b + 1) (-1) (b + 1) = (-1)
                            rw [pk_us], rfl, by
                            rw [hpu_ev1]; exact hbv3⟩, hji2.deep t64 t2 t3 hb1 hlt hq9, hki2.deep t64 t2 t3 hb1 hlt hq9⟩⟩ (by show 8 * (20000 - (R + 1)) + (b + 1 + 1) < 8 * (20000 - R) + (b + 1); omega) hP hD hS (lv_sub hl [0, 1, 2, 3, 4, 5] rfl)
                    · have hov : 20000 < hCt 1 0 S Ps n n (fun _ => 0) := by
                        have h1 := hji2.more hlt hq9
                        have h2 : 20000 < R + 1 := Nat.not_le.mp (fun z => c9 (nI_le z (by decide)))
                        omega
                      refine lv_iconst (v := (-1)) hx hb dX9_join_174 (by decide +kernel) ?_
                      subst hAe
                      exact W.iret (v := (-1)) hx hb hr (fun t ht _ => ⟨⟨(-1), ws11, rfl, ⟨_, kp1, hrx, (fun k h7 h8 h9 h10 => by simp only [hup, if_neg h7, if_neg h8, if_neg h9, if_neg h10]; exact hfr2 k h7 h8 h9 h10), by omega, Or.inl ⟨hov, rfl⟩⟩, by rw [ht]; exact hP, hD⟩, hS.F ht⟩) hS.2.2 dX9_join_175
                  · have e8 : nI e9 = nI ct := by first | exact c8 | exact Classical.not_not.mp c8
                    have := (nI_eq (by omega) (by omega)).mp e8
                    omega
                · obtain ⟨hq9, hbv3⟩ : ¬ hCq (Ps b) (hEv Ps ta tb tc pl b) (ta e9) (tb e9) (tc e9) 3 ∧ hBV f7 f8 (fun x => hOS Ps x b) (hEv Ps ta tb tc pl b) := by
                    rcases hbd with ⟨q0, -⟩ | ⟨-, q1, q2⟩
                    · rw [q0] at c12; exact absurd c12 (by decide +kernel)
                    · exact ⟨q1, q2⟩
                  refine lv_aload_n hx hb dX9_join_129 rfl (lv_at hl 2 rfl) ?_
                  refine va_get (v := .ref (ad 9)) (C := RX9) (T := TX9) (N := 18) hx hb hts (hin_X9 hmc) hown E.1.1 hP 0 g0 rfl 12 (by decide) (hts _ (hmc _ k_581)) (fun _ h9 => h9) rfl dX9_join_130 ?_
                  refine lv_iload hx hb dX9_join_133 (lv_at hl 0 rfl) ?_
                  refine lv_dup2_11 hx hb dX9_join_135 rfl rfl ?_
                  refine va_iald hx hb E.1.1 hP 9 0 g9 rfl (vp_in_nI (by omega) (by omega)) dX9_join_136 ?_
                  refine htopi (v := (g2 9) b) (by rw [nI_clamp (by omega)]) ?_
                  refine htopi (v := nI e9) (hge) ?_
                  refine lv_iconst (v := nI 1) hx hb dX9_join_137 (by decide +kernel) ?_
                  refine lv_iadd hx hb dX9_join_138 ?_
                  refine htopi (v := nI (e9 + 1)) (nI_add _ _) ?_
                  refine va_iast hx hb E.1.1 hP hD hS 9 0 g9 rfl (vp_in_nI (by omega) (by omega)) dX9_join_139 (fun H locs hP hD hS => ?_)
                  rw [nI_clamp (show b < 2 ^ 31 by omega)] at hP hD
                  obtain ⟨ws15, ews15⟩ : ∃ zw : va_W, zw = List.set ws11 9 ((ad 9), .inl (K 0, 6, .inl (upd (g2 9) b (nI (e9 + 1))))) := ⟨_, rfl⟩
                  have hP : va_P D vwCl ws15 H := by rw [ews15]; exact hP
                  have hD : va_D A ws15 := by rw [ews15]; exact hD
                  have g0 := (show ws15[0]? = _ from (by rw [ews15]; exact hset_ne (by omega))).trans g0
                  have g9 : ws15[9]? = some ((ad 9), .inl (K 0, 6, .inl (upd (g2 9) b (nI (e9 + 1))))) := by rw [ews15]; exact hset_eq g9
                  have hrx : hRX K ad ws15 (hup (hup (hup g2 7 f7) 8 f8) 9 (upd (g2 9) b (nI (e9 + 1)))) ct pt md lz kp1 fd := by rw [ews15]; exact hrx.arr 9 (by decide) (by decide) _
                  refine lv_goto (tgt := 97) hx hb dX9_join_140 (by decide) ?_
                  exact ih2 (e9 + 1) _ H locs ls ⟨by omega, _, hrx, (fun k h7 h8 h9 h10 => by simp only [hup, if_neg h7, if_neg h8, if_neg h9, if_neg h10]; exact hfr2 k h7 h8 h9 h10), by show upd (g2 9) b (nI (e9 + 1)) b = _; rw [pk_us], fun j hj => by show upd (g2 9) b (nI (e9 + 1)) j = g 9 j; rw [pk_un (by omega)]; exact hgo j hj, hbv3, hji2.skip hq9, hki2.skip hq9⟩ (by omega) hP hD hS (lv_sub hl [0, 1, 2, 3, 4, 5] rfl)
      · first | exact absurd c4 c2 | exact absurd c2 c4
    · have hn0 : n = 0 := by
        have e : nI n = nI 0 := by first | exact c2 | exact Classical.not_not.mp c2
        exact (nI_eq (by omega) (by omega)).mp e
      subst hn0
      refine lv_iload_n hx hb dX9_join_36 rfl (lv_at hl 5 rfl) ?_
      refine lv_if_eq (tgt := 44) hx hb dX9_join_37 (by decide) (fun c3 => ?_) (fun c3 => ?_)
      · first | exact absurd rfl c3 | exact absurd c3 (by decide +kernel) | exact absurd (by decide +kernel) c3
      · refine lv_aload_n hx hb dX9_join_40 rfl (lv_at hl 2 rfl) ?_
        refine hc_v E hD hS (va_runV (As := []) (rest := []) ⟨hx, hb, hml, hown, hts⟩ ((c_X9_keep l D K tv w9 ad (hup f 8 f8) ct pt md lz 0 fd hrx (by decide)) H.size) (cwV 0 hts (hGV hmc k_731 k_733 k_15 k_29 k_734) rfl rfl rfl (by decide +kernel) ⟨Nat.le_of_ble_eq_true rfl, Nat.le_of_ble_eq_true rfl⟩) (hpreV E hP hD hS g0 rfl) rfl rfl hl.1 rfl (lv_room (Nat.le_of_ble_eq_true rfl)) dX9_join_41 ⟨(Nat.le_refl _), (Nat.le_refl _)⟩) (fun ws16 H locs hp hP hD hS => ?_)
        obtain ⟨f10, hrx⟩ := hp
        have g0 := hrx.1
        have g9 : ws16[9]? = some (ad 9, .inl (K 0, 6, .inl (f 9))) := hrx.2 9 (by decide) (by decide)
        refine lv_iload_n hx hb dX9_join_44 rfl (lv_at hl 4 rfl) ?_
        refine lv_if_ne (tgt := 52) hx hb dX9_join_45 (by decide) (fun c4 => ?_) (fun c4 => ?_)
        · first | exact absurd rfl c4 | exact absurd c4 (by decide +kernel)
        · refine lv_iconst (v := (-1)) hx hb dX9_join_48 (by decide +kernel) ?_
          refine lv_goto (tgt := 53) hx hb dX9_join_49 (by decide) ?_
          refine lv_istore (lv' := [(5, .int (-1)), (4, .int (nI 0)), (0, .ref (ad 0)), (1, .ref (ad 6)), (2, .int (nI 0)), (3, .int (nI 1))]) hx hb dX9_join_53 hl (by decide) rfl (fun ls hl => ?_)
          refine lv_aload_n hx hb dX9_join_55 rfl (lv_at hl 2 rfl) ?_
          refine va_get (v := .ref (ad 9)) (C := RX9) (T := TX9) (N := 18) hx hb hts (hin_X9 hmc) hown E.1.1 hP 0 g0 rfl 12 (by decide) (hts _ (hmc _ k_581)) (fun _ h9 => h9) rfl dX9_join_56 ?_
          refine lv_iconst (v := nI 0) hx hb dX9_join_59 (by decide +kernel) ?_
          refine lv_iconst (v := (-1)) hx hb dX9_join_60 (by decide +kernel) ?_
          refine va_iast hx hb E.1.1 hP hD hS 9 0 g9 rfl (vp_in_nI (by omega) (by omega)) dX9_join_61 (fun H locs hP hD hS => ?_)
          rw [nI_clamp (show 0 < 2 ^ 31 by omega)] at hP hD
          obtain ⟨ws17, ews17⟩ : ∃ zw : va_W, zw = List.set ws16 9 ((ad 9), .inl (K 0, 6, .inl (upd (f 9) 0 (-1)))) := ⟨_, rfl⟩
          have hP : va_P D vwCl ws17 H := by rw [ews17]; exact hP
          have hD : va_D A ws17 := by rw [ews17]; exact hD
          have g0 := (show ws17[0]? = _ from (by rw [ews17]; exact hset_ne (by omega))).trans g0
          have g9 : ws17[9]? = some ((ad 9), .inl (K 0, 6, .inl (upd (f 9) 0 (-1)))) := by rw [ews17]; exact hset_eq g9
          have hrx : hRX K ad ws17 (hup (hup (hup f 8 f8) 10 f10) 9 (upd (f 9) 0 (-1))) ct pt md lz 1 fd := by rw [ews17]; exact hrx.arr 9 (by decide) (by decide) _
          refine lv_iload hx hb dX9_join_62 (lv_at hl 0 rfl) ?_
          refine lv_if_lt (tgt := 209) hx hb dX9_join_64 (by decide) (fun c5 => ?_) (fun c5 => ?_)
          · refine lv_iload hx hb dX9_join_209 (lv_at hl 1 rfl) ?_
            subst hAe
            exact W.iret (v := nI 0) hx hb hr (fun t ht _ => ⟨⟨nI 0, ws17, rfl, ⟨_, _, hrx, (fun k h7 h8 h9 h10 => by simp only [hup, if_neg h7, if_neg h8, if_neg h9, if_neg h10]), by omega, Or.inr ⟨Nat.zero_le _, rfl, rfl⟩⟩, by rw [ht]; exact hP, hD⟩, hS.F ht⟩) hS.2.2 dX9_join_211
          · exact absurd (by decide +kernel) c5
  · have hv2 : v < 9 := Nat.not_le.mp (fun z => c1 (nI_le z (by omega)))
    refine lv_aload_n hx hb dX9_join_18 rfl (lv_at hl 2 rfl) ?_
    refine va_get (v := .ref (ad 8)) (C := RX9) (T := TX9) (N := 18) hx hb hts (hin_X9 hmc) hown E.1.1 hP 0 g0 rfl 11 (by decide) (hts _ (hmc _ k_580)) (fun _ h9 => h9) rfl dX9_join_19 ?_
    refine lv_iload hx hb dX9_join_22 (lv_at hl 0 rfl) ?_
    refine lv_iconst (v := nI 0) hx hb dX9_join_24 (by decide +kernel) ?_
    refine va_iast hx hb E.1.1 hP hD hS 8 0 g8 rfl (vp_in_nI (by omega) (by omega)) dX9_join_25 (fun H locs hP hD hS => ?_)
    rw [nI_clamp (show v < 2 ^ 31 by omega)] at hP hD
    obtain ⟨ws18, ews18⟩ : ∃ zw : va_W, zw = List.set w9 8 ((ad 8), .inl (K 0, 9, .inl (upd f8 v (nI 0)))) := ⟨_, rfl⟩
    have hP : va_P D vwCl ws18 H := by rw [ews18]; exact hP
    have hD : va_D A ws18 := by rw [ews18]; exact hD
    have g0 := (show ws18[0]? = _ from (by rw [ews18]; exact hset_ne (by omega))).trans g0
    have g8 : ws18[8]? = some ((ad 8), .inl (K 0, 9, .inl (upd f8 v (nI 0)))) := by rw [ews18]; exact hset_eq g8
    have hrx : hRX K ad ws18 (hup (hup f 8 f8) 8 (upd f8 v (nI 0))) ct pt md lz 0 fd := by rw [ews18]; exact hrx.arr 8 (by decide) (by decide) _
    refine lv_iinc (v := nI (v + 1)) (lv' := [(5, .int (nI (v + 1))), (4, .int (nI 0)), (0, .ref (ad 0)), (1, .ref (ad 6)), (2, .int (nI n)), (3, .int (nI 1))]) hx hb dX9_join_26 hl (k := 0) rfl (nI_1 _) (by decide) rfl (fun ls hl => ?_)
    refine lv_goto (tgt := 11) hx hb dX9_join_29 (by decide) ?_
    rw [hup_up] at hrx
    exact ih (v + 1) _ H locs ls ⟨by omega, _, hrx, fun x hx => by
        by_cases z : x = v
        · subst z; rw [pk_us]
        · rw [pk_un z]; exact hz8 x (by omega)⟩ (by omega) hP hD hS (lv_sub hl [0, 1, 2, 3, 4, 5] rfl)
