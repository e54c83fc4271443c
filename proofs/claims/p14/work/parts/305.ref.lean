set_option maxHeartbeats 4000000 in
set_option maxRecDepth 100000 in
/-- the reference: many -/
theorem c_X9_many (l : Launch) (D : va_G) (K : Nat → ClassId) (tv : Nat) (ws : va_W) (ad : Nat → Nat) (f : Nat → Nat → Int32) (ct pt md : Nat) (lz : Int64) (kp : Nat) (fd : Int32) (hrx : hRX K ad ws f ct pt md lz kp fd) (hc6 : ct ≤ 640) (p9 : Nat) (hp6 : p9 < 6) (x : Int32) (key : Nat → Nat) (hk9 : (x < 0 ∧ ∀ u t, u < t → t < ct → key u ≠ key t) ∨ ∃ q, q < 3 ∧ x = nI q ∧ ∀ t, t < ct → f 1 (3 * t + q) = nI (key t) ∧ key t < 64) : hI l D (hTy K) tv yX9_many cX9_many 7 (some .int) ({ frames := 1, cells := 0, slots := 0, locals := 60 }) [.ref (ad 0), .int (nI p9), .int x] ws (fun r ws1 => ws = ws1 ∧ r = nI (hmy (fun t => hHN f t p9) key ct)) := by
  intro sz
  refine Met.ofW (cc := cX9_many) (maxL := 7) (ret := (some .int)) (by decide) rfl ?_
  intro p e s m args below meth c s₁ B hml hv0
  obtain ⟨rfl, rfl, E, hP, hD⟩ := hentry hv0
  have hx := B.exec
  have hb := B.bytes
  have hr := B.returns
  have hts := atoms_spec (ws := hC yX9_many cX9_many 7 (some .int)) B.pre
  have hown : s.vm.findClass RX9 = some m.cls := findClass_of_methodNamed B.named
  have hlocks := B.notSynchronized
  generalize hAe : va_A ws s.heap.size = A at hD E ⊢
  have hl := lv_entry ([.ref (ad 0), .int (nI p9), .int x]) (n := 7) (Nat.le_of_ble_eq_true rfl)
  rw [lg_entry_eq]
  generalize (lg_sl ([.ref (ad 0), .int (nI p9), .int x]) ++ List.replicate (7 - (lg_sl ([.ref (ad 0), .int (nI p9), .int x])).length) Slot.unset).toArray = ls at hl ⊢
  have hl : lv_has ls 7 [(0, .ref (ad 0)), (1, .int (nI p9)), (2, .int x)] := hl
  refine hat0 (fun H hHe => ?_)
  have hP : va_P D vwCl ws H := by rw [hHe]; exact hP
  have hS : va_S A s.heap H [] := by rw [hHe]; exact va_S.rf
  have g0 := hrx.1
  have g1 : ws[1]? = some (ad 1, .inl (K 0, 1920, .inl (f 1))) := hrx.2 1 (by decide) (by decide)
  refine lv_iconst (v := nI 0) hx hb dX9_many_0 (by decide +kernel) ?_
  refine lv_istore_n (lv' := [(3, .int (nI 0)), (0, .ref (ad 0)), (1, .int (nI p9)), (2, .int x)]) hx hb dX9_many_1 rfl hl (by decide) rfl (fun ls hl => ?_)
  refine lv_iconst (v := nI 0) hx hb dX9_many_2 (by decide +kernel) ?_
  refine lv_istore (lv' := [(4, .int (nI 0)), (3, .int (nI 0)), (0, .ref (ad 0)), (1, .int (nI p9)), (2, .int x)]) hx hb dX9_many_3 hl (by decide) rfl (fun ls hl => ?_)
  refine hloopW (α := Nat × Nat) 5 7 (fun y => [(4, .int (nI y.1)), (3, .int (nI y.2)), (0, .ref (ad 0)), (1, .int (nI p9)), (2, .int x)]) (fun y w9 => y.1 ≤ ct ∧ y.2 = hmy (fun t => hHN f t p9) key y.1 ∧ ws = w9) (fun y => ct - y.1) (fun _ => 0) (fun _ => 0) ?_ (0, 0) ⟨Nat.zero_le _, rfl, rfl⟩ hP hD hS (lv_sub hl [0, 1, 2, 3, 4] rfl)
  rintro ⟨t, n⟩ w9 H locs ls hI9 hP hD hS hl ih
  obtain ⟨ht, hne, rfl⟩ := hI9
  dsimp only at ht hne ih
  have hn : n ≤ t := by rw [hne]; exact hmy_le _ _ _
  have hl : lv_has ls 7 [(4, .int (nI t)), (3, .int (nI n)), (0, .ref (ad 0)), (1, .int (nI p9)), (2, .int x)] := hl
  refine lv_iload hx hb dX9_many_5 (lv_at hl 0 rfl) ?_
  refine lv_aload_n hx hb dX9_many_7 rfl (lv_at hl 2 rfl) ?_
  refine va_get (v := .int (nI ct)) (C := RX9) (T := TX9) (N := 18) hx hb hts (hin_X9 hmc) hown E.1.1 hP 0 g0 rfl 1 (by decide) (hts _ (hmc _ k_570)) (fun _ h9 => h9) rfl dX9_many_8 ?_
  refine lv_icmp_ge (tgt := 116) hx hb dX9_many_11 (by decide) (fun c1 => ?_) (fun c1 => ?_)
  · have c1 : nI ct ≤ nI t := c1
    have htc : t = ct := by
      have := (nI_leI (by omega) (by omega)).mp c1
      omega
    refine lv_iload_n hx hb dX9_many_116 rfl (lv_at hl 1 rfl) ?_
    subst hAe
    exact W.iret (v := nI n) hx hb hr (fun t ht _ => ⟨⟨nI n, ws, rfl, ⟨rfl, by rw [hne, htc]⟩, by rw [ht]; exact hP, hD⟩, hS.F ht⟩) hS.2.2 dX9_many_117
  · have c1 : ¬ nI ct ≤ nI t := c1
    have ht2 : t < ct := Nat.not_le.mp (fun z => c1 (nI_le z (by omega)))
    refine lv_aload_n hx hb dX9_many_14 rfl (lv_at hl 2 rfl) ?_
    refine lv_iload hx hb dX9_many_15 (lv_at hl 0 rfl) ?_
    refine lv_iload_n hx hb dX9_many_17 rfl (lv_at hl 3 rfl) ?_
    refine hc_i E hD hS (va_runV (As := [.int (nI t), .int (nI p9)]) (rest := []) ⟨hx, hb, hml, hown, hts⟩ ((c_X9_hasNumbers l D K tv ws ad f ct pt md lz kp fd hrx t p9 (by omega) hp6) H.size) (cwV 2 hts (hGV hmc k_666 k_668 k_7 k_29 k_669) rfl rfl rfl (by decide +kernel) ⟨Nat.le_of_ble_eq_true rfl, Nat.le_of_ble_eq_true rfl⟩) (hpreV E hP hD hS g0 rfl) rfl rfl hl.1 rfl (lv_room (Nat.le_of_ble_eq_true rfl)) dX9_many_18 ⟨(Nat.le_refl _), (Nat.le_refl _)⟩) (fun r2 ws1 H locs hh hP hD hS => ?_)
    obtain ⟨rfl, hh⟩ := hh
    refine lv_if_ne (tgt := 27) hx hb dX9_many_21 (by decide) (fun c2 => ?_) (fun c2 => ?_)
    · have hyes := hh.t c2
      refine lv_iconst (v := nI 1) hx hb dX9_many_27 (by decide +kernel) ?_
      refine lv_istore (lv' := [(5, .int (nI 1)), (4, .int (nI t)), (3, .int (nI n)), (0, .ref (ad 0)), (1, .int (nI p9)), (2, .int x)]) hx hb dX9_many_28 hl (by decide) rfl (fun ls hl => ?_)
      refine lv_iconst (v := nI 0) hx hb dX9_many_30 (by decide +kernel) ?_
      refine lv_istore (lv' := [(6, .int (nI 0)), (5, .int (nI 1)), (4, .int (nI t)), (3, .int (nI n)), (0, .ref (ad 0)), (1, .int (nI p9)), (2, .int x)]) hx hb dX9_many_31 hl (by decide) rfl (fun ls hl => ?_)
      refine hloopW (α := Nat × Nat) 33 7 (fun y => [(6, .int (nI y.1)), (5, .int (nI y.2)), (4, .int (nI t)), (3, .int (nI n)), (0, .ref (ad 0)), (1, .int (nI p9)), (2, .int x)]) (fun y w9 => y.1 ≤ t ∧ ((y.2 = 1 ∧ (¬ x < 0 → ∀ v, v < y.1 → ¬ (hHN f v p9 ∧ key v = key t))) ∨ (y.2 = 0 ∧ ∃ v, v < t ∧ hHN f v p9 ∧ key v = key t)) ∧ ws = w9) (fun y => t - y.1) (fun _ => 0) (fun _ => 0) ?_ (0, 1) ⟨Nat.zero_le _, Or.inl ⟨rfl, fun _ v hv => absurd hv (Nat.not_lt_zero _)⟩, rfl⟩ hP hD hS (lv_sub hl [0, 1, 2, 3, 4, 5, 6] rfl)
      rintro ⟨u, fr9⟩ w9 H locs ls hI9 hP hD hS hl ih2
      obtain ⟨hu, hfr, rfl⟩ := hI9
      dsimp only at hu hfr ih2
      have hl : lv_has ls 7 [(6, .int (nI u)), (5, .int (nI fr9)), (4, .int (nI t)), (3, .int (nI n)), (0, .ref (ad 0)), (1, .int (nI p9)), (2, .int x)] := hl
      refine lv_iload hx hb dX9_many_33 (lv_at hl 0 rfl) ?_
      refine lv_iload hx hb dX9_many_35 (lv_at hl 2 rfl) ?_
      refine lv_icmp_ge (tgt := 97) hx hb dX9_many_37 (by decide) (fun c3 => ?_) (fun c3 => ?_)
      · rcases hfr with ⟨hy, hv⟩ | ⟨hy, v9, hv1, hv2⟩
        · subst hy
          have hfresh : ∀ u, u < t → ¬ (hHN f u p9 ∧ key u = key t) := by
            by_cases z : x < 0
            · rcases hk9 with ⟨-, hj⟩ | ⟨q, hq, rfl, -⟩
              · exact fun u hu w => hj u t hu ht2 w.2
              · exact absurd z (nI_pos (by omega))
            · exact fun u9 hu9 => hv z u9 (by have := (nI_leI (by omega) (by omega)).mp c3; omega)
          refine lv_iload_n hx hb dX9_many_97 rfl (lv_at hl 3 rfl) ?_
          refine lv_iload hx hb dX9_many_98 (lv_at hl 1 rfl) ?_
          refine lv_if_eq (tgt := 107) hx hb dX9_many_100 (by decide) (fun c6 => ?_) (fun c6 => ?_)
          · exact absurd c6 (by decide +kernel)
          · refine lv_iconst (v := nI 1) hx hb dX9_many_103 (by decide +kernel) ?_
            refine lv_goto (tgt := 108) hx hb dX9_many_104 (by decide) ?_
            refine lv_iadd hx hb dX9_many_108 ?_
            refine htopi (v := nI (n + 1)) (nI_add _ _) ?_
            refine lv_istore_n (lv' := [(3, .int (nI (n + 1))), (6, .int (nI u)), (5, .int (nI 1)), (4, .int (nI t)), (0, .ref (ad 0)), (1, .int (nI p9)), (2, .int x)]) hx hb dX9_many_109 rfl hl (by decide) rfl (fun ls hl => ?_)
            refine lv_iinc (v := nI (t + 1)) (lv' := [(4, .int (nI (t + 1))), (3, .int (nI (n + 1))), (6, .int (nI u)), (5, .int (nI 1)), (0, .ref (ad 0)), (1, .int (nI p9)), (2, .int x)]) hx hb dX9_many_110 hl (k := 3) rfl (nI_1 _) (by decide) rfl (fun ls hl => ?_)
            refine lv_goto (tgt := 5) hx hb dX9_many_113 (by decide) ?_
            exact ih (t + 1, n + 1) _ H locs ls ⟨by show t + 1 ≤ ct; omega, by show n + 1 = _; rw [(hmy_s _ key t).1 ⟨hyes, hfresh⟩, hne], rfl⟩ (by show ct - (t + 1) < ct - t; omega) hP hD hS (lv_sub hl [0, 1, 4, 5, 6] rfl)
        · subst hy
          refine lv_iload_n hx hb dX9_many_97 rfl (lv_at hl 3 rfl) ?_
          refine lv_iload hx hb dX9_many_98 (lv_at hl 1 rfl) ?_
          refine lv_if_eq (tgt := 107) hx hb dX9_many_100 (by decide) (fun c6 => ?_) (fun c6 => ?_)
          · refine lv_iconst (v := nI 0) hx hb dX9_many_107 (by decide +kernel) ?_
            refine lv_iadd hx hb dX9_many_108 ?_
            refine htopi (v := nI (n + 0)) (nI_add _ _) ?_
            refine lv_istore_n (lv' := [(3, .int (nI (n + 0))), (6, .int (nI u)), (5, .int (nI 0)), (4, .int (nI t)), (0, .ref (ad 0)), (1, .int (nI p9)), (2, .int x)]) hx hb dX9_many_109 rfl hl (by decide) rfl (fun ls hl => ?_)
            refine lv_iinc (v := nI (t + 1)) (lv' := [(4, .int (nI (t + 1))), (3, .int (nI (n + 0))), (6, .int (nI u)), (5, .int (nI 0)), (0, .ref (ad 0)), (1, .int (nI p9)), (2, .int x)]) hx hb dX9_many_110 hl (k := 3) rfl (nI_1 _) (by decide) rfl (fun ls hl => ?_)
            refine lv_goto (tgt := 5) hx hb dX9_many_113 (by decide) ?_
            exact ih (t + 1, n + 0) _ H locs ls ⟨by show t + 1 ≤ ct; omega, by show n = _; rw [(hmy_s _ key t).2 (fun z => z.2 v9 hv1 hv2)]; exact hne, rfl⟩ (by show ct - (t + 1) < ct - t; omega) hP hD hS (lv_sub hl [0, 1, 4, 5, 6] rfl)
          · exact absurd rfl c6
      · refine lv_iload hx hb dX9_many_40 (lv_at hl 1 rfl) ?_
        refine lv_if_eq (tgt := 97) hx hb dX9_many_42 (by decide) (fun c4 => ?_) (fun c4 => ?_)
        · rcases hfr with ⟨hy, hv⟩ | ⟨hy, v9, hv1, hv2⟩
          · subst hy
            exact absurd c4 (by decide +kernel)
          · subst hy
            refine lv_iload_n hx hb dX9_many_97 rfl (lv_at hl 3 rfl) ?_
            refine lv_iload hx hb dX9_many_98 (lv_at hl 1 rfl) ?_
            refine lv_if_eq (tgt := 107) hx hb dX9_many_100 (by decide) (fun c6 => ?_) (fun c6 => ?_)
            · refine lv_iconst (v := nI 0) hx hb dX9_many_107 (by decide +kernel) ?_
              refine lv_iadd hx hb dX9_many_108 ?_
              refine htopi (v := nI (n + 0)) (nI_add _ _) ?_
              refine lv_istore_n (lv' := [(3, .int (nI (n + 0))), (6, .int (nI u)), (5, .int (nI 0)), (4, .int (nI t)), (0, .ref (ad 0)), (1, .int (nI p9)), (2, .int x)]) hx hb dX9_many_109 rfl hl (by decide) rfl (fun ls hl => ?_)
              refine lv_iinc (v := nI (t + 1)) (lv' := [(4, .int (nI (t + 1))), (3, .int (nI (n + 0))), (6, .int (nI u)), (5, .int (nI 0)), (0, .ref (ad 0)), (1, .int (nI p9)), (2, .int x)]) hx hb dX9_many_110 hl (k := 3) rfl (nI_1 _) (by decide) rfl (fun ls hl => ?_)
              refine lv_goto (tgt := 5) hx hb dX9_many_113 (by decide) ?_
              exact ih (t + 1, n + 0) _ H locs ls ⟨by show t + 1 ≤ ct; omega, by show n = _; rw [(hmy_s _ key t).2 (fun z => z.2 v9 hv1 hv2)]; exact hne, rfl⟩ (by show ct - (t + 1) < ct - t; omega) hP hD hS (lv_sub hl [0, 1, 4, 5, 6] rfl)
            · exact absurd rfl c6
        · refine lv_iload_n hx hb dX9_many_45 rfl (lv_at hl 6 rfl) ?_
          refine lv_if_lt (tgt := 97) hx hb dX9_many_46 (by decide) (fun c5 => ?_) (fun c5 => ?_)
          · rcases hfr with ⟨hy, hv⟩ | ⟨hy, v9, hv1, hv2⟩
            · subst hy
              have hfresh : ∀ u, u < t → ¬ (hHN f u p9 ∧ key u = key t) := by
                rcases hk9 with ⟨z, hj⟩ | ⟨q, hq, rfl, -⟩
                · exact fun u hu w => hj u t hu ht2 w.2
                · exact absurd c5 (nI_pos (by omega))
              refine lv_iload_n hx hb dX9_many_97 rfl (lv_at hl 3 rfl) ?_
              refine lv_iload hx hb dX9_many_98 (lv_at hl 1 rfl) ?_
              refine lv_if_eq (tgt := 107) hx hb dX9_many_100 (by decide) (fun c6 => ?_) (fun c6 => ?_)
              · exact absurd c6 (by decide +kernel)
              · refine lv_iconst (v := nI 1) hx hb dX9_many_103 (by decide +kernel) ?_
                refine lv_goto (tgt := 108) hx hb dX9_many_104 (by decide) ?_
                refine lv_iadd hx hb dX9_many_108 ?_
                refine htopi (v := nI (n + 1)) (nI_add _ _) ?_
                refine lv_istore_n (lv' := [(3, .int (nI (n + 1))), (6, .int (nI u)), (5, .int (nI 1)), (4, .int (nI t)), (0, .ref (ad 0)), (1, .int (nI p9)), (2, .int x)]) hx hb dX9_many_109 rfl hl (by decide) rfl (fun ls hl => ?_)
                refine lv_iinc (v := nI (t + 1)) (lv' := [(4, .int (nI (t + 1))), (3, .int (nI (n + 1))), (6, .int (nI u)), (5, .int (nI 1)), (0, .ref (ad 0)), (1, .int (nI p9)), (2, .int x)]) hx hb dX9_many_110 hl (k := 3) rfl (nI_1 _) (by decide) rfl (fun ls hl => ?_)
                refine lv_goto (tgt := 5) hx hb dX9_many_113 (by decide) ?_
                exact ih (t + 1, n + 1) _ H locs ls ⟨by show t + 1 ≤ ct; omega, by show n + 1 = _; rw [(hmy_s _ key t).1 ⟨hyes, hfresh⟩, hne], rfl⟩ (by show ct - (t + 1) < ct - t; omega) hP hD hS (lv_sub hl [0, 1, 4, 5, 6] rfl)
            · subst hy
              refine lv_iload_n hx hb dX9_many_97 rfl (lv_at hl 3 rfl) ?_
              refine lv_iload hx hb dX9_many_98 (lv_at hl 1 rfl) ?_
              refine lv_if_eq (tgt := 107) hx hb dX9_many_100 (by decide) (fun c6 => ?_) (fun c6 => ?_)
              · refine lv_iconst (v := nI 0) hx hb dX9_many_107 (by decide +kernel) ?_
                refine lv_iadd hx hb dX9_many_108 ?_
                refine htopi (v := nI (n + 0)) (nI_add _ _) ?_
                refine lv_istore_n (lv' := [(3, .int (nI (n + 0))), (6, .int (nI u)), (5, .int (nI 0)), (4, .int (nI t)), (0, .ref (ad 0)), (1, .int (nI p9)), (2, .int x)]) hx hb dX9_many_109 rfl hl (by decide) rfl (fun ls hl => ?_)
                refine lv_iinc (v := nI (t + 1)) (lv' := [(4, .int (nI (t + 1))), (3, .int (nI (n + 0))), (6, .int (nI u)), (5, .int (nI 0)), (0, .ref (ad 0)), (1, .int (nI p9)), (2, .int x)]) hx hb dX9_many_110 hl (k := 3) rfl (nI_1 _) (by decide) rfl (fun ls hl => ?_)
                refine lv_goto (tgt := 5) hx hb dX9_many_113 (by decide) ?_
                exact ih (t + 1, n + 0) _ H locs ls ⟨by show t + 1 ≤ ct; omega, by show n = _; rw [(hmy_s _ key t).2 (fun z => z.2 v9 hv1 hv2)]; exact hne, rfl⟩ (by show ct - (t + 1) < ct - t; omega) hP hD hS (lv_sub hl [0, 1, 4, 5, 6] rfl)
              · exact absurd rfl c6
          · have c3 : ¬ nI t ≤ nI u := c3
            have hu2 : u < t := Nat.not_le.mp (fun z => c3 (nI_le z (by omega)))
            obtain ⟨q, hq, rfl, hky⟩ := hk9.resolve_left (fun z => c5 z.1)
            have hku := hky u (by omega)
            have hkt := hky t ht2
            refine lv_aload_n hx hb dX9_many_49 rfl (lv_at hl 4 rfl) ?_
            refine lv_iload hx hb dX9_many_50 (lv_at hl 0 rfl) ?_
            refine lv_iload_n hx hb dX9_many_52 rfl (lv_at hl 5 rfl) ?_
            refine hc_i E hD hS (va_runV (As := [.int (nI u), .int (nI p9)]) (rest := []) ⟨hx, hb, hml, hown, hts⟩ ((c_X9_hasNumbers l D K tv ws ad f ct pt md lz kp fd hrx u p9 (by omega) hp6) H.size) (cwV 2 hts (hGV hmc k_666 k_668 k_7 k_29 k_669) rfl rfl rfl (by decide +kernel) ⟨Nat.le_of_ble_eq_true rfl, Nat.le_of_ble_eq_true rfl⟩) (hpreV E hP hD hS g0 rfl) rfl rfl hl.1 rfl (lv_room (Nat.le_of_ble_eq_true rfl)) dX9_many_53 ⟨(Nat.le_refl _), (Nat.le_refl _)⟩) (fun r4 ws3 H locs h8 hP hD hS => ?_)
            obtain ⟨rfl, h8⟩ := h8
            refine lv_if_eq (tgt := 84) hx hb dX9_many_56 (by decide) (fun c7 => ?_) (fun c7 => ?_)
            · have hnu : ¬ (hHN f u p9 ∧ key u = key t) := fun z => h8.f c7 z.1
              refine lv_iconst (v := nI 1) hx hb dX9_many_84 (by decide +kernel) ?_
              refine lv_goto (tgt := 89) hx hb dX9_many_85 (by decide) ?_
              refine lv_istore (lv' := [(5, .int (nI 1)), (6, .int (nI u)), (4, .int (nI t)), (3, .int (nI n)), (0, .ref (ad 0)), (1, .int (nI p9)), (2, .int (nI q))]) hx hb dX9_many_89 hl (by decide) rfl (fun ls hl => ?_)
              refine lv_iinc (v := nI (u + 1)) (lv' := [(6, .int (nI (u + 1))), (5, .int (nI 1)), (4, .int (nI t)), (3, .int (nI n)), (0, .ref (ad 0)), (1, .int (nI p9)), (2, .int (nI q))]) hx hb dX9_many_91 hl (k := 1) rfl (nI_1 _) (by decide) rfl (fun ls hl => ?_)
              refine lv_goto (tgt := 33) hx hb dX9_many_94 (by decide) ?_
              exact ih2 (u + 1, 1) _ H locs ls ⟨by show u + 1 ≤ t; omega, Or.inl ⟨rfl, fun hx9 v hv => by
                  have hv : v < u + 1 := hv
                  rcases hfr with ⟨-, hv9⟩ | ⟨hy, -⟩
                  · by_cases z : v = u
                    · subst z; exact hnu
                    · exact hv9 hx9 v (by omega)
                  · rw [hy] at c4; exact absurd rfl c4⟩, rfl⟩ (by show t - (u + 1) < t - u; omega) hP hD hS (lv_sub hl [0, 1, 2, 3, 4, 5, 6] rfl)
            · have hv9 := h8.t c7
              refine lv_aload_n hx hb dX9_many_59 rfl (lv_at hl 4 rfl) ?_
              refine va_get (v := .ref (ad 1)) (C := RX9) (T := TX9) (N := 18) hx hb hts (hin_X9 hmc) hown E.1.1 hP 0 g0 rfl 0 (by decide) (hts _ (hmc _ k_569)) (fun _ h9 => h9) rfl dX9_many_60 ?_
              refine lv_iconst (v := nI 3) hx hb dX9_many_63 (by decide +kernel) ?_
              refine lv_iload hx hb dX9_many_64 (lv_at hl 0 rfl) ?_
              refine lv_imul hx hb dX9_many_66 ?_
              refine htopi (v := nI (3 * u)) (pk_mul _ _) ?_
              refine lv_iload_n hx hb dX9_many_67 rfl (lv_at hl 6 rfl) ?_
              refine lv_iadd hx hb dX9_many_68 ?_
              refine htopi (v := nI ((3 * u) + q)) (nI_add _ _) ?_
              refine va_iald hx hb E.1.1 hP 1 0 g1 rfl (vp_in_nI (by omega) (by omega)) dX9_many_69 ?_
              refine htopi (v := (f 1) ((3 * u) + q)) (by rw [nI_clamp (by omega)]) ?_
              refine lv_aload_n hx hb dX9_many_70 rfl (lv_at hl 4 rfl) ?_
              refine va_get (v := .ref (ad 1)) (C := RX9) (T := TX9) (N := 18) hx hb hts (hin_X9 hmc) hown E.1.1 hP 0 g0 rfl 0 (by decide) (hts _ (hmc _ k_569)) (fun _ h9 => h9) rfl dX9_many_71 ?_
              refine lv_iconst (v := nI 3) hx hb dX9_many_74 (by decide +kernel) ?_
              refine lv_iload hx hb dX9_many_75 (lv_at hl 2 rfl) ?_
              refine lv_imul hx hb dX9_many_77 ?_
              refine htopi (v := nI (3 * t)) (pk_mul _ _) ?_
              refine lv_iload_n hx hb dX9_many_78 rfl (lv_at hl 6 rfl) ?_
              refine lv_iadd hx hb dX9_many_79 ?_
              refine htopi (v := nI ((3 * t) + q)) (nI_add _ _) ?_
              refine va_iald hx hb E.1.1 hP 1 0 g1 rfl (vp_in_nI (by omega) (by omega)) dX9_many_80 ?_
              refine htopi (v := (f 1) ((3 * t) + q)) (by rw [nI_clamp (by omega)]) ?_
              refine lv_icmp_eq (tgt := 88) hx hb dX9_many_81 (by decide) (fun c8 => ?_) (fun c8 => ?_)
              · refine lv_iconst (v := nI 0) hx hb dX9_many_88 (by decide +kernel) ?_
                refine lv_istore (lv' := [(5, .int (nI 0)), (6, .int (nI u)), (4, .int (nI t)), (3, .int (nI n)), (0, .ref (ad 0)), (1, .int (nI p9)), (2, .int (nI q))]) hx hb dX9_many_89 hl (by decide) rfl (fun ls hl => ?_)
                refine lv_iinc (v := nI (u + 1)) (lv' := [(6, .int (nI (u + 1))), (5, .int (nI 0)), (4, .int (nI t)), (3, .int (nI n)), (0, .ref (ad 0)), (1, .int (nI p9)), (2, .int (nI q))]) hx hb dX9_many_91 hl (k := 1) rfl (nI_1 _) (by decide) rfl (fun ls hl => ?_)
                refine lv_goto (tgt := 33) hx hb dX9_many_94 (by decide) ?_
                exact ih2 (u + 1, 0) _ H locs ls ⟨by show u + 1 ≤ t; omega, Or.inr ⟨rfl, u, hu2, hv9, (nI_eq (by omega) (by omega)).mp (hku.1.symm.trans (c8.trans hkt.1))⟩, rfl⟩ (by show t - (u + 1) < t - u; omega) hP hD hS (lv_sub hl [0, 1, 2, 3, 4, 5, 6] rfl)
              · have hnu : ¬ (hHN f u p9 ∧ key u = key t) := fun z => c8 (by rw [hku.1, hkt.1, z.2])
                refine lv_iconst (v := nI 1) hx hb dX9_many_84 (by decide +kernel) ?_
                refine lv_goto (tgt := 89) hx hb dX9_many_85 (by decide) ?_
                refine lv_istore (lv' := [(5, .int (nI 1)), (6, .int (nI u)), (4, .int (nI t)), (3, .int (nI n)), (0, .ref (ad 0)), (1, .int (nI p9)), (2, .int (nI q))]) hx hb dX9_many_89 hl (by decide) rfl (fun ls hl => ?_)
                refine lv_iinc (v := nI (u + 1)) (lv' := [(6, .int (nI (u + 1))), (5, .int (nI 1)), (4, .int (nI t)), (3, .int (nI n)), (0, .ref (ad 0)), (1, .int (nI p9)), (2, .int (nI q))]) hx hb dX9_many_91 hl (k := 1) rfl (nI_1 _) (by decide) rfl (fun ls hl => ?_)
                refine lv_goto (tgt := 33) hx hb dX9_many_94 (by decide) ?_
                exact ih2 (u + 1, 1) _ H locs ls ⟨by show u + 1 ≤ t; omega, Or.inl ⟨rfl, fun hx9 v hv => by
                    have hv : v < u + 1 := hv
                    rcases hfr with ⟨-, hv9⟩ | ⟨hy, -⟩
                    · by_cases z : v = u
                      · subst z; exact hnu
                      · exact hv9 hx9 v (by omega)
                    · rw [hy] at c4; exact absurd rfl c4⟩, rfl⟩ (by show t - (u + 1) < t - u; omega) hP hD hS (lv_sub hl [0, 1, 2, 3, 4, 5, 6] rfl)
    · have hno := hh.f c2
      refine lv_goto (tgt := 110) hx hb dX9_many_24 (by decide) ?_
      refine lv_iinc (v := nI (t + 1)) (lv' := [(4, .int (nI (t + 1))), (3, .int (nI n)), (0, .ref (ad 0)), (1, .int (nI p9)), (2, .int x)]) hx hb dX9_many_110 hl (k := 0) rfl (nI_1 _) (by decide) rfl (fun ls hl => ?_)
      refine lv_goto (tgt := 5) hx hb dX9_many_113 (by decide) ?_
      exact ih (t + 1, n) _ H locs ls ⟨by show t + 1 ≤ ct; omega, by show n = _; rw [(hmy_s _ key t).2 (fun z => hno z.1)]; exact hne, rfl⟩ (by show ct - (t + 1) < ct - t; omega) hP hD hS (lv_sub hl [0, 1, 2, 3, 4] rfl)

set_option maxHeartbeats 4000000 in
set_option maxRecDepth 100000 in
/-- the reference: bit of a variable -/
theorem c1_bit (l : Launch) (k : Nat) (hk : k < 8) : hSi l yX9_bit cX9_bit 1 (some .int) ({ frames := 0, cells := 0, slots := 0, locals := 0 }) [.int (hvI k)] (fun r => r = nI (2 ^ k)) := by
  refine Met.ofW (cc := cX9_bit) (maxL := 1) (ret := (some .int)) (by decide) rfl ?_
  intro p e s m args below meth c s₁ B hml hv0
  obtain ⟨rfl, -⟩ := hv0
  have hx := B.exec
  have hb := B.bytes
  have hr := B.returns
  have hts := atoms_spec (ws := hC yX9_bit cX9_bit 1 (some .int)) B.pre
  have hown : s.vm.findClass RX9 = some m.cls := findClass_of_methodNamed B.named
  have hlocks := B.notSynchronized
  have hl := lv_entry ([.int (hvI k)]) (n := 1) (Nat.le_of_ble_eq_true rfl)
  rw [lg_entry_eq]
  generalize (lg_sl ([.int (hvI k)]) ++ List.replicate (1 - (lg_sl ([.int (hvI k)])).length) Slot.unset).toArray = ls at hl ⊢
  have hl : lv_has ls 1 [(0, .int (hvI k))] := hl
  refine lv_iconst (v := nI 1) hx hb dX9_bit_0 (by decide +kernel) ?_
  refine lv_iconst (v := (-1)) hx hb dX9_bit_1 (by decide +kernel) ?_
  refine lv_iload_n hx hb dX9_bit_2 rfl (lv_at hl 0 rfl) ?_
  refine lv_isub hx hb dX9_bit_3 ?_
  refine lv_ishl hx hb dX9_bit_4 ?_
  exact W.iret (v := ((nI 1) <<< (((-1) - (hvI k)) &&& 31))) hx hb hr (fun t ht _ => ⟨((nI 1) <<< (((-1) - (hvI k)) &&& 31)), rfl, hbitOf k hk, ht⟩) (fun _ h => by cases h) dX9_bit_5

set_option maxHeartbeats 4000000 in
set_option maxRecDepth 100000 in
/-- the reference: variables of a pattern -/
theorem c1_variables (l : Launch) (D : va_G) (K : Nat → ClassId) (tv : Nat) (ws : va_W) (ad : Nat → Nat) (f : Nat → Nat → Int32) (ct pt md : Nat) (lz : Int64) (kp : Nat) (fd : Int32) (hrx : hRX K ad ws f ct pt md lz kp fd) (p9 : Nat) (hp6 : p9 < 6) (I : Nat → Nat) (hJt : ∀ i, i < 3 → f 2 (3 * p9 + i) = hit (I i) ∧ I i < 72) : hI l D (hTy K) tv yX9_variables cX9_variables 4 (some .int) ({ frames := 1, cells := 0, slots := 0, locals := 60 }) [.ref (ad 0), .int (nI p9)] ws (fun r ws1 => ws = ws1 ∧ r = nI (hvm I 3)) := by
  intro sz
  refine Met.ofW (cc := cX9_variables) (maxL := 4) (ret := (some .int)) (by decide) rfl ?_
  intro p e s m args below meth c s₁ B hml hv0
  obtain ⟨rfl, rfl, E, hP, hD⟩ := hentry hv0
  have hx := B.exec
  have hb := B.bytes
  have hr := B.returns
  have hts := atoms_spec (ws := hC yX9_variables cX9_variables 4 (some .int)) B.pre
  have hown : s.vm.findClass RX9 = some m.cls := findClass_of_methodNamed B.named
  have hlocks := B.notSynchronized
  generalize hAe : va_A ws s.heap.size = A at hD E ⊢
  have hl := lv_entry ([.ref (ad 0), .int (nI p9)]) (n := 4) (Nat.le_of_ble_eq_true rfl)
  rw [lg_entry_eq]
  generalize (lg_sl ([.ref (ad 0), .int (nI p9)]) ++ List.replicate (4 - (lg_sl ([.ref (ad 0), .int (nI p9)])).length) Slot.unset).toArray = ls at hl ⊢
  have hl : lv_has ls 4 [(0, .ref (ad 0)), (1, .int (nI p9))] := hl
  refine hat0 (fun H hHe => ?_)
  have hP : va_P D vwCl ws H := by rw [hHe]; exact hP
  have hS : va_S A s.heap H [] := by rw [hHe]; exact va_S.rf
  have g0 := hrx.1
  have g2 : ws[2]? = some (ad 2, .inl (K 0, 18, .inl (f 2))) := hrx.2 2 (by decide) (by decide)
  refine lv_iconst (v := nI 0) hx hb dX9_variables_0 (by decide +kernel) ?_
  refine lv_istore_n (lv' := [(2, .int (nI 0)), (0, .ref (ad 0)), (1, .int (nI p9))]) hx hb dX9_variables_1 rfl hl (by decide) rfl (fun ls hl => ?_)
  refine lv_iconst (v := nI 0) hx hb dX9_variables_2 (by decide +kernel) ?_
  refine lv_istore_n (lv' := [(3, .int (nI 0)), (2, .int (nI 0)), (0, .ref (ad 0)), (1, .int (nI p9))]) hx hb dX9_variables_3 rfl hl (by decide) rfl (fun ls hl => ?_)
  refine hloopW (α := Nat) 4 4 (fun i => [(3, .int (nI i)), (2, .int (nI (hvm I i))), (0, .ref (ad 0)), (1, .int (nI p9))]) (fun i w9 => i ≤ 3 ∧ ws = w9) (fun i => 3 - i) (fun _ => 0) (fun _ => 0) ?_ 0 ⟨Nat.zero_le _, rfl⟩ hP hD hS (lv_sub hl [0, 1, 2, 3] rfl)
  intro i w9 H locs ls hI9 hP hD hS hl ih
  obtain ⟨hi, rfl⟩ := hI9
  have hl : lv_has ls 4 [(3, .int (nI i)), (2, .int (nI (hvm I i))), (0, .ref (ad 0)), (1, .int (nI p9))] := hl
  refine lv_iload_n hx hb dX9_variables_4 rfl (lv_at hl 0 rfl) ?_
  refine lv_iconst (v := nI 3) hx hb dX9_variables_5 (by decide +kernel) ?_
  refine lv_icmp_ge (tgt := 48) hx hb dX9_variables_6 (by decide) (fun c1 => ?_) (fun c1 => ?_)
  · have hi3 : i = 3 := by
      have := (nI_leI (by decide) (by omega)).mp c1
      omega
    refine lv_iload_n hx hb dX9_variables_48 rfl (lv_at hl 1 rfl) ?_
    subst hAe
    exact W.iret (v := nI (hvm I i)) hx hb hr (fun t ht _ => ⟨⟨nI (hvm I i), ws, rfl, ⟨rfl, by rw [hi3]⟩, by rw [ht]; exact hP, hD⟩, hS.F ht⟩) hS.2.2 dX9_variables_49
  · have hi3 : i < 3 := Nat.not_le.mp (fun z => c1 (nI_le z (by omega)))
    obtain ⟨e1, e2⟩ := hJt i hi3
    refine lv_iload_n hx hb dX9_variables_9 rfl (lv_at hl 1 rfl) ?_
    refine lv_aload_n hx hb dX9_variables_10 rfl (lv_at hl 2 rfl) ?_
    refine va_get (v := .ref (ad 2)) (C := RX9) (T := TX9) (N := 18) hx hb hts (hin_X9 hmc) hown E.1.1 hP 0 g0 rfl 2 (by decide) (hts _ (hmc _ k_571)) (fun _ h9 => h9) rfl dX9_variables_11 ?_
    refine lv_iconst (v := nI 3) hx hb dX9_variables_14 (by decide +kernel) ?_
    refine lv_iload_n hx hb dX9_variables_15 rfl (lv_at hl 3 rfl) ?_
    refine lv_imul hx hb dX9_variables_16 ?_
    refine htopi (v := nI (3 * p9)) (pk_mul _ _) ?_
    refine lv_iload_n hx hb dX9_variables_17 rfl (lv_at hl 0 rfl) ?_
    refine lv_iadd hx hb dX9_variables_18 ?_
    refine htopi (v := nI ((3 * p9) + i)) (nI_add _ _) ?_
    refine va_iald hx hb E.1.1 hP 2 0 g2 rfl (vp_in_nI (by omega) (by omega)) dX9_variables_19 ?_
    refine htopi (v := (f 2) ((3 * p9) + i)) (by rw [nI_clamp (by omega)]) ?_
    refine htopi (v := hit (I i)) (e1) ?_
    refine lv_if_ge (tgt := 39) hx hb dX9_variables_20 (by decide) (fun c2 => ?_) (fun c2 => ?_)
    · have hs : hvm I (i + 1) = hvm I i := if_pos ((hit_ge e2).mp c2)
      refine lv_iconst (v := nI 0) hx hb dX9_variables_39 (by decide +kernel) ?_
      refine lv_ior hx hb dX9_variables_40 ?_
      refine htopi (v := nI (hvm I (i + 1))) (by rw [hs]; exact (hior _ _).trans (congrArg nI (Nat.or_zero _))) ?_
      refine lv_istore_n (lv' := [(2, .int (nI (hvm I (i + 1)))), (3, .int (nI i)), (0, .ref (ad 0)), (1, .int (nI p9))]) hx hb dX9_variables_41 rfl hl (by decide) rfl (fun ls hl => ?_)
      refine lv_iinc (v := nI (i + 1)) (lv' := [(3, .int (nI (i + 1))), (2, .int (nI (hvm I (i + 1)))), (0, .ref (ad 0)), (1, .int (nI p9))]) hx hb dX9_variables_42 hl (k := 1) rfl (nI_1 _) (by decide) rfl (fun ls hl => ?_)
      refine lv_goto (tgt := 4) hx hb dX9_variables_45 (by decide) ?_
      exact ih (i + 1) _ H locs ls ⟨by omega, rfl⟩ (by omega) hP hD hS (lv_sub hl [0, 1, 2, 3] rfl)
    · have hv : 64 ≤ I i := (hit_lt e2).mp (Int32.not_le.mp c2)
      have hs : hvm I (i + 1) = hvm I i ||| 2 ^ (I i - 64) := if_neg (by omega)
      refine lv_aload_n hx hb dX9_variables_23 rfl (lv_at hl 2 rfl) ?_
      refine va_get (v := .ref (ad 2)) (C := RX9) (T := TX9) (N := 18) hx hb hts (hin_X9 hmc) hown E.1.1 hP 0 g0 rfl 2 (by decide) (hts _ (hmc _ k_571)) (fun _ h9 => h9) rfl dX9_variables_24 ?_
      refine lv_iconst (v := nI 3) hx hb dX9_variables_27 (by decide +kernel) ?_
      refine lv_iload_n hx hb dX9_variables_28 rfl (lv_at hl 3 rfl) ?_
      refine lv_imul hx hb dX9_variables_29 ?_
      refine htopi (v := nI (3 * p9)) (pk_mul _ _) ?_
      refine lv_iload_n hx hb dX9_variables_30 rfl (lv_at hl 0 rfl) ?_
      refine lv_iadd hx hb dX9_variables_31 ?_
      refine htopi (v := nI ((3 * p9) + i)) (nI_add _ _) ?_
      refine va_iald hx hb E.1.1 hP 2 0 g2 rfl (vp_in_nI (by omega) (by omega)) dX9_variables_32 ?_
      refine htopi (v := (f 2) ((3 * p9) + i)) (by rw [nI_clamp (by omega)]) ?_
      refine htopi (v := hvI (I i - 64)) (e1.trans (hit_vv hv)) ?_
      refine hc_si (va_runS (As := [.int (hvI (I i - 64))]) (rest := [.int (nI (hvm I i))]) ⟨hx, hb, hml, hown, hts⟩ (c1_bit l (I i - 64) (by omega)) (va_cwS 1 hts (hGS hmc k_670 k_671 k_29 k_672) rfl rfl rfl (by decide +kernel) ⟨Nat.le_of_ble_eq_true rfl, Nat.le_of_ble_eq_true rfl⟩) hpre0 rfl rfl hl.1 rfl (lv_room (Nat.le_of_ble_eq_true rfl)) dX9_variables_33 ⟨(Nat.le_refl _), (Nat.le_refl _)⟩) (fun r1 hp => ?_)
      subst hp
      refine lv_goto (tgt := 40) hx hb dX9_variables_36 (by decide) ?_
      refine lv_ior hx hb dX9_variables_40 ?_
      refine htopi (v := nI (hvm I (i + 1))) (by rw [hs]; exact hior _ _) ?_
      refine lv_istore_n (lv' := [(2, .int (nI (hvm I (i + 1)))), (3, .int (nI i)), (0, .ref (ad 0)), (1, .int (nI p9))]) hx hb dX9_variables_41 rfl hl (by decide) rfl (fun ls hl => ?_)
      refine lv_iinc (v := nI (i + 1)) (lv' := [(3, .int (nI (i + 1))), (2, .int (nI (hvm I (i + 1)))), (0, .ref (ad 0)), (1, .int (nI p9))]) hx hb dX9_variables_42 hl (k := 1) rfl (nI_1 _) (by decide) rfl (fun ls hl => ?_)
      refine lv_goto (tgt := 4) hx hb dX9_variables_45 (by decide) ?_
      exact ih (i + 1) _ H locs ls ⟨by omega, rfl⟩ (by omega) hP hD hS (lv_sub hl [0, 1, 2, 3] rfl)

set_option maxHeartbeats 4000000 in
set_option maxRecDepth 100000 in
/-- the reference: estimate -/
theorem c0_estimate (l : Launch) (D : va_G) (K : Nat → ClassId) (tv : Nat) (ws : va_W) (ad : Nat → Nat) (f : Nat → Nat → Int32) (ct pt md : Nat) (lz : Int64) (kp : Nat) (fd : Int32) (hrx : hRX K ad ws f ct pt md lz kp fd) (hp6 : pt ≤ 6) (hc6 : ct ≤ 640) (S : Nat → Nat → Nat → Prop) (I : Nat → Nat → Nat) (hT : hRT (f 1) S ct) (hIt : hRI (f 2) pt I) (x y : Int32) : hI l D (hTy K) tv yX9_estimate cX9_estimate 7 (some .int) ({ frames := 2, cells := 0, slots := 0, locals := 120 }) [.ref (ad 0), .int x, .int y] ws (fun r ws1 => ws = ws1 ∧ hEstP S pt I x y r) := by
  intro sz
  refine Met.ofW (cc := cX9_estimate) (maxL := 7) (ret := (some .int)) (by decide) rfl ?_
  intro p e s m args below meth c s₁ B hml hv0
  obtain ⟨rfl, rfl, E, hP, hD⟩ := hentry hv0
  have hx := B.exec
  have hb := B.bytes
  have hr := B.returns
  have hts := atoms_spec (ws := hC yX9_estimate cX9_estimate 7 (some .int)) B.pre
  have hown : s.vm.findClass RX9 = some m.cls := findClass_of_methodNamed B.named
  have hlocks := B.notSynchronized
  generalize hAe : va_A ws s.heap.size = A at hD E ⊢
  have hl := lv_entry ([.ref (ad 0), .int x, .int y]) (n := 7) (Nat.le_of_ble_eq_true rfl)
  rw [lg_entry_eq]
  generalize (lg_sl ([.ref (ad 0), .int x, .int y]) ++ List.replicate (7 - (lg_sl ([.ref (ad 0), .int x, .int y])).length) Slot.unset).toArray = ls at hl ⊢
  have hl : lv_has ls 7 [(0, .ref (ad 0)), (1, .int x), (2, .int y)] := hl
  refine hat0 (fun H hHe => ?_)
  have hP : va_P D vwCl ws H := by rw [hHe]; exact hP
  have hS : va_S A s.heap H [] := by rw [hHe]; exact va_S.rf
  have g0 := hrx.1
  have g2 : ws[2]? = some (ad 2, .inl (K 0, 18, .inl (f 2))) := hrx.2 2 (by decide) (by decide)
  refine lv_aload_n hx hb dX9_estimate_0 rfl (lv_at hl 0 rfl) ?_
  refine lv_iload_n hx hb dX9_estimate_1 rfl (lv_at hl 1 rfl) ?_
  refine hc_i E hD hS (va_runV (As := [.int x]) (rest := []) ⟨hx, hb, hml, hown, hts⟩ ((c_X9_isPattern l D K tv ws ad f ct pt md lz kp fd hrx hp6 x) H.size) (cwV 1 hts (hGV hmc k_658 k_660 k_5 k_29 k_661) rfl rfl rfl (by decide +kernel) ⟨Nat.le_of_ble_eq_true rfl, Nat.le_of_ble_eq_true rfl⟩) (hpreV E hP hD hS g0 rfl) rfl rfl hl.1 rfl (lv_room (Nat.le_of_ble_eq_true rfl)) dX9_estimate_2 ⟨(Nat.le_refl _), (Nat.le_refl _)⟩) (fun r2 ws1 H locs hh hP hD hS => ?_)
  obtain ⟨rfl, hh⟩ := hh
  refine lv_if_ne (tgt := 10) hx hb dX9_estimate_5 (by decide) (fun c1 => ?_) (fun c1 => ?_)
  · obtain ⟨p9, hp9, rfl⟩ := hh.t c1
    obtain ⟨ta, tb, tc, t1, t2, t3⟩ := id hT
    have hJt := hIt p9 hp9
    have hHN9 := hHN_iff (p := p9) hJt (fun t ht => t1 t ht)
    refine lv_aload_n hx hb dX9_estimate_10 rfl (lv_at hl 0 rfl) ?_
    refine lv_iload_n hx hb dX9_estimate_11 rfl (lv_at hl 1 rfl) ?_
    refine lv_iconst (v := (-1)) hx hb dX9_estimate_12 (by decide +kernel) ?_
    refine hc_i E hD hS (va_runV (As := [.int (nI p9), .int (-1)]) (rest := []) ⟨hx, hb, hml, hown, hts⟩ ((c_X9_many l D K tv ws ad f ct pt md lz kp fd hrx hc6 p9 (by omega) (-1) (fun t => hvc (hview (hfx (I p9) (nI 0) 3)) (ta t) (tb t) (tc t)) (Or.inl ⟨by decide +kernel, hkey_inj t1 t2 (hview_lt _ (hfx_lt _ _ 3 (Nat.le_refl _)))⟩)) H.size) (cwV 2 hts (hGV hmc k_662 k_664 k_6 k_29 k_665) rfl rfl rfl (by decide +kernel) ⟨Nat.le_of_ble_eq_true rfl, Nat.le_of_ble_eq_true rfl⟩) (hpreV E hP hD hS g0 rfl) rfl rfl hl.1 rfl (lv_room (Nat.le_of_ble_eq_true rfl)) dX9_estimate_13 ⟨(Nat.le_refl _), (Nat.le_refl _)⟩) (fun r4 ws3 H locs hp hP hD hS => ?_)
    obtain ⟨rfl, hp⟩ := hp
    obtain ⟨n, hn9, rfl⟩ : ∃ n, n = hNN S (I p9) ∧ r4 = nI n := ⟨_, hNN_ref hHN9 t1 t3, hp⟩
    have hn : n ≤ 640 := by rw [hn9, ← hNN_ref hHN9 t1 t3]; exact Nat.le_trans (hmy_le _ _ _) hc6
    refine lv_istore_n (lv' := [(3, .int (nI n)), (0, .ref (ad 0)), (1, .int (nI p9)), (2, .int y)]) hx hb dX9_estimate_16 rfl hl (by decide) rfl (fun ls hl => ?_)
    refine lv_iconst (v := nI 1) hx hb dX9_estimate_17 (by decide +kernel) ?_
    refine lv_istore (lv' := [(4, .int (nI 1)), (3, .int (nI n)), (0, .ref (ad 0)), (1, .int (nI p9)), (2, .int y)]) hx hb dX9_estimate_18 hl (by decide) rfl (fun ls hl => ?_)
    refine lv_iconst (v := nI 0) hx hb dX9_estimate_20 (by decide +kernel) ?_
    refine lv_istore (lv' := [(5, .int (nI 0)), (4, .int (nI 1)), (3, .int (nI n)), (0, .ref (ad 0)), (1, .int (nI p9)), (2, .int y)]) hx hb dX9_estimate_21 hl (by decide) rfl (fun ls hl => ?_)
    refine hloopW (α := Nat) 23 7 (fun i => [(5, .int (nI i)), (4, .int (nI (hdv (I p9) (hNd S (I p9)) y i))), (3, .int (nI n)), (0, .ref (ad 0)), (1, .int (nI p9)), (2, .int y)]) (fun i w9 => i ≤ 3 ∧ (1 ≤ n ∨ i = 0) ∧ ws = w9) (fun i => 3 - i) (fun _ => 0) (fun _ => 0) ?_ 0 ⟨Nat.zero_le _, Or.inr rfl, rfl⟩ hP hD hS (lv_sub hl [0, 1, 2, 3, 4, 5] rfl)
    rintro i w9 H locs ls hI9 hP hD hS hl ih
    obtain ⟨hi, hn0, rfl⟩ := hI9
    have hl : lv_has ls 7 [(5, .int (nI i)), (4, .int (nI (hdv (I p9) (hNd S (I p9)) y i))), (3, .int (nI n)), (0, .ref (ad 0)), (1, .int (nI p9)), (2, .int y)] := hl
    have hb9 : hdv (I p9) (hNd S (I p9)) y i ≤ 2048383 := Nat.le_trans (hdv_le (I p9) (hNd S (I p9)) y (fun p _ => Nat.le_trans (hNd_le _ _ _) (by decide)) i hi) (Nat.le_trans (Nat.pow_le_pow_right (by decide) hi) (by decide))
    have hb1 : 1 ≤ hdv (I p9) (hNd S (I p9)) y i := by
      rcases hn0 with z | z
      · exact hdv_pos (fun p => hNd_pos (by rw [← hn9]; exact z) p) i
      · rw [z]; exact Nat.le_refl _
    refine lv_iload hx hb dX9_estimate_23 (lv_at hl 0 rfl) ?_
    refine lv_iconst (v := nI 3) hx hb dX9_estimate_25 (by decide +kernel) ?_
    refine lv_icmp_ge (tgt := 79) hx hb dX9_estimate_26 (by decide) (fun c2 => ?_) (fun c2 => ?_)
    · have hfin : hes (I p9) (hNd S (I p9)) (hNN S (I p9)) y = n / hdv (I p9) (hNd S (I p9)) y i + (if 0 < n % hdv (I p9) (hNd S (I p9)) y i then 1 else 0) := by
        have hi3 : i = 3 := by
          have := (nI_leI (by decide) (by omega)).mp c2
          omega
        subst hi3
        rw [← hn9]
        exact hes_ceil hb1
      refine lv_iload_n hx hb dX9_estimate_79 rfl (lv_at hl 2 rfl) ?_
      refine lv_iload hx hb dX9_estimate_80 (lv_at hl 1 rfl) ?_
      refine lv_idiv hx hb dX9_estimate_82 (nI_ne0 (by omega) (by omega)) ?_
      refine htopi (v := nI (n / hdv (I p9) (hNd S (I p9)) y i)) (pk_div (by omega) (by omega) (by omega)) ?_
      refine lv_iload_n hx hb dX9_estimate_83 rfl (lv_at hl 2 rfl) ?_
      refine lv_iload hx hb dX9_estimate_84 (lv_at hl 1 rfl) ?_
      refine lv_irem hx hb dX9_estimate_86 (nI_ne0 (by omega) (by omega)) ?_
      refine htopi (v := nI (n % hdv (I p9) (hNd S (I p9)) y i)) (pk_rem (by omega) (by omega) (by omega)) ?_
      have hmd : n % hdv (I p9) (hNd S (I p9)) y i < 2 ^ 31 := Nat.lt_of_le_of_lt (Nat.mod_le _ _) (by omega)
      refine lv_if_le (tgt := 94) hx hb dX9_estimate_87 (by decide) (fun c9 => ?_) (fun c9 => ?_)
      · refine lv_iconst (v := nI 0) hx hb dX9_estimate_94 (by decide +kernel) ?_
        refine lv_iadd hx hb dX9_estimate_95 ?_
        refine htopi (v := nI ((n / hdv (I p9) (hNd S (I p9)) y i) + 0)) (nI_add _ _) ?_
        subst hAe
        exact W.iret (v := nI ((n / hdv (I p9) (hNd S (I p9)) y i) + 0)) hx hb hr (fun t ht _ => ⟨⟨nI ((n / hdv (I p9) (hNd S (I p9)) y i) + 0), ws, rfl, ⟨rfl, Or.inr ⟨p9, hp9, rfl, by rw [hfin, if_neg (hpos_not hmd c9)]⟩⟩, by rw [ht]; exact hP, hD⟩, hS.F ht⟩) hS.2.2 dX9_estimate_96
      · refine lv_iconst (v := nI 1) hx hb dX9_estimate_90 (by decide +kernel) ?_
        refine lv_goto (tgt := 95) hx hb dX9_estimate_91 (by decide) ?_
        refine lv_iadd hx hb dX9_estimate_95 ?_
        refine htopi (v := nI ((n / hdv (I p9) (hNd S (I p9)) y i) + 1)) (nI_add _ _) ?_
        subst hAe
        exact W.iret (v := nI ((n / hdv (I p9) (hNd S (I p9)) y i) + 1)) hx hb hr (fun t ht _ => ⟨⟨nI ((n / hdv (I p9) (hNd S (I p9)) y i) + 1), ws, rfl, ⟨rfl, Or.inr ⟨p9, hp9, rfl, by rw [hfin, if_pos (hpos_of hmd c9)]⟩⟩, by rw [ht]; exact hP, hD⟩, hS.F ht⟩) hS.2.2 dX9_estimate_96
    · have hi3 : i < 3 := Nat.not_le.mp (fun z => c2 (nI_le z (by omega)))
      obtain ⟨e1, e2⟩ := hJt i hi3
      refine lv_iload_n hx hb dX9_estimate_29 rfl (lv_at hl 2 rfl) ?_
      refine lv_if_le (tgt := 79) hx hb dX9_estimate_30 (by decide) (fun c3 => ?_) (fun c3 => ?_)
      · have hfin : hes (I p9) (hNd S (I p9)) (hNN S (I p9)) y = n / hdv (I p9) (hNd S (I p9)) y i + (if 0 < n % hdv (I p9) (hNd S (I p9)) y i then 1 else 0) := by
          have hnz : n = 0 := hzero_of (by omega) c3
          rw [← hn9]
          subst hnz
          exact hes_none hb1
        refine lv_iload_n hx hb dX9_estimate_79 rfl (lv_at hl 2 rfl) ?_
        refine lv_iload hx hb dX9_estimate_80 (lv_at hl 1 rfl) ?_
        refine lv_idiv hx hb dX9_estimate_82 (nI_ne0 (by omega) (by omega)) ?_
        refine htopi (v := nI (n / hdv (I p9) (hNd S (I p9)) y i)) (pk_div (by omega) (by omega) (by omega)) ?_
        refine lv_iload_n hx hb dX9_estimate_83 rfl (lv_at hl 2 rfl) ?_
        refine lv_iload hx hb dX9_estimate_84 (lv_at hl 1 rfl) ?_
        refine lv_irem hx hb dX9_estimate_86 (nI_ne0 (by omega) (by omega)) ?_
        refine htopi (v := nI (n % hdv (I p9) (hNd S (I p9)) y i)) (pk_rem (by omega) (by omega) (by omega)) ?_
        have hmd : n % hdv (I p9) (hNd S (I p9)) y i < 2 ^ 31 := Nat.lt_of_le_of_lt (Nat.mod_le _ _) (by omega)
        refine lv_if_le (tgt := 94) hx hb dX9_estimate_87 (by decide) (fun c9 => ?_) (fun c9 => ?_)
        · refine lv_iconst (v := nI 0) hx hb dX9_estimate_94 (by decide +kernel) ?_
          refine lv_iadd hx hb dX9_estimate_95 ?_
          refine htopi (v := nI ((n / hdv (I p9) (hNd S (I p9)) y i) + 0)) (nI_add _ _) ?_
          subst hAe
          exact W.iret (v := nI ((n / hdv (I p9) (hNd S (I p9)) y i) + 0)) hx hb hr (fun t ht _ => ⟨⟨nI ((n / hdv (I p9) (hNd S (I p9)) y i) + 0), ws, rfl, ⟨rfl, Or.inr ⟨p9, hp9, rfl, by rw [hfin, if_neg (hpos_not hmd c9)]⟩⟩, by rw [ht]; exact hP, hD⟩, hS.F ht⟩) hS.2.2 dX9_estimate_96
        · refine lv_iconst (v := nI 1) hx hb dX9_estimate_90 (by decide +kernel) ?_
          refine lv_goto (tgt := 95) hx hb dX9_estimate_91 (by decide) ?_
          refine lv_iadd hx hb dX9_estimate_95 ?_
          refine htopi (v := nI ((n / hdv (I p9) (hNd S (I p9)) y i) + 1)) (nI_add _ _) ?_
          subst hAe
          exact W.iret (v := nI ((n / hdv (I p9) (hNd S (I p9)) y i) + 1)) hx hb hr (fun t ht _ => ⟨⟨nI ((n / hdv (I p9) (hNd S (I p9)) y i) + 1), ws, rfl, ⟨rfl, Or.inr ⟨p9, hp9, rfl, by rw [hfin, if_pos (hpos_of hmd c9)]⟩⟩, by rw [ht]; exact hP, hD⟩, hS.F ht⟩) hS.2.2 dX9_estimate_96
      · have hn1 : 1 ≤ n := by
          rcases Nat.eq_zero_or_pos n with z | z
          · rw [z] at c3; exact absurd (by decide +kernel) c3
          · exact z
        refine lv_aload_n hx hb dX9_estimate_33 rfl (lv_at hl 3 rfl) ?_
        refine va_get (v := .ref (ad 2)) (C := RX9) (T := TX9) (N := 18) hx hb hts (hin_X9 hmc) hown E.1.1 hP 0 g0 rfl 2 (by decide) (hts _ (hmc _ k_571)) (fun _ h9 => h9) rfl dX9_estimate_34 ?_
        refine lv_iconst (v := nI 3) hx hb dX9_estimate_37 (by decide +kernel) ?_
        refine lv_iload_n hx hb dX9_estimate_38 rfl (lv_at hl 4 rfl) ?_
        refine lv_imul hx hb dX9_estimate_39 ?_
        refine htopi (v := nI (3 * p9)) (pk_mul _ _) ?_
        refine lv_iload hx hb dX9_estimate_40 (lv_at hl 0 rfl) ?_
        refine lv_iadd hx hb dX9_estimate_42 ?_
        refine htopi (v := nI ((3 * p9) + i)) (nI_add _ _) ?_
        refine va_iald hx hb E.1.1 hP 2 0 g2 rfl (vp_in_nI (by omega) (by omega)) dX9_estimate_43 ?_
        refine htopi (v := (f 2) ((3 * p9) + i)) (by rw [nI_clamp (by omega)]) ?_
        refine htopi (v := hit (I p9 i)) (e1) ?_
        refine lv_istore (lv' := [(6, .int (hit (I p9 i))), (5, .int (nI i)), (4, .int (nI (hdv (I p9) (hNd S (I p9)) y i))), (3, .int (nI n)), (0, .ref (ad 0)), (1, .int (nI p9)), (2, .int y)]) hx hb dX9_estimate_44 hl (by decide) rfl (fun ls hl => ?_)
        refine lv_iload hx hb dX9_estimate_46 (lv_at hl 0 rfl) ?_
        refine lv_if_ge (tgt := 73) hx hb dX9_estimate_48 (by decide) (fun c4 => ?_) (fun c4 => ?_)
        · have hs9 : hdv (I p9) (hNd S (I p9)) y i = hdv (I p9) (hNd S (I p9)) y (i + 1) := (if_neg (fun z => by have := (hit_ge e2).mp c4; have := z.1; omega)).symm
          rw [hs9] at hl
          refine lv_iinc (v := nI (i + 1)) (lv' := [(5, .int (nI (i + 1))), (6, .int (hit (I p9 i))), (4, .int (nI (hdv (I p9) (hNd S (I p9)) y (i + 1)))), (3, .int (nI n)), (0, .ref (ad 0)), (1, .int (nI p9)), (2, .int y)]) hx hb dX9_estimate_73 hl (k := 1) rfl (nI_1 _) (by decide) rfl (fun ls hl => ?_)
          refine lv_goto (tgt := 23) hx hb dX9_estimate_76 (by decide) ?_
          exact ih (i + 1) _ H locs ls ⟨by omega, Or.inl hn1, rfl⟩ (by omega) hP hD hS (lv_sub hl [0, 2, 3, 4, 5, 6] rfl)
        · have hv : 64 ≤ I p9 i := (hit_lt e2).mp (Int32.not_le.mp c4)
          refine lv_iload_n hx hb dX9_estimate_51 rfl (lv_at hl 6 rfl) ?_
          refine lv_iload hx hb dX9_estimate_52 (lv_at hl 0 rfl) ?_
          refine htopi (v := hvI (I p9 i - 64)) (hit_vv hv) ?_
          refine hc_si (va_runS (As := [.int (hvI (I p9 i - 64))]) (rest := [.int y]) ⟨hx, hb, hml, hown, hts⟩ (c1_bit l (I p9 i - 64) (by omega)) (va_cwS 1 hts (hGS hmc k_670 k_671 k_29 k_672) rfl rfl rfl (by decide +kernel) ⟨Nat.le_of_ble_eq_true rfl, Nat.le_of_ble_eq_true rfl⟩) hpre0 rfl rfl hl.1 rfl (lv_room (Nat.le_of_ble_eq_true rfl)) dX9_estimate_54 ⟨(Nat.le_refl _), (Nat.le_refl _)⟩) (fun r5 hp9 => ?_)
          subst hp9
          refine lv_iand hx hb dX9_estimate_57 ?_
          refine lv_if_eq (tgt := 73) hx hb dX9_estimate_58 (by decide) (fun c5 => ?_) (fun c5 => ?_)
          · have hs9 : hdv (I p9) (hNd S (I p9)) y i = hdv (I p9) (hNd S (I p9)) y (i + 1) := (if_neg (fun z => z.2 c5)).symm
            rw [hs9] at hl
            refine lv_iinc (v := nI (i + 1)) (lv' := [(5, .int (nI (i + 1))), (6, .int (hit (I p9 i))), (4, .int (nI (hdv (I p9) (hNd S (I p9)) y (i + 1)))), (3, .int (nI n)), (0, .ref (ad 0)), (1, .int (nI p9)), (2, .int y)]) hx hb dX9_estimate_73 hl (k := 1) rfl (nI_1 _) (by decide) rfl (fun ls hl => ?_)
            refine lv_goto (tgt := 23) hx hb dX9_estimate_76 (by decide) ?_
            exact ih (i + 1) _ H locs ls ⟨by omega, Or.inl hn1, rfl⟩ (by omega) hP hD hS (lv_sub hl [0, 2, 3, 4, 5, 6] rfl)
          · have hs9 : hdv (I p9) (hNd S (I p9)) y (i + 1) = hdv (I p9) (hNd S (I p9)) y i * hNd S (I p9) i := if_pos ⟨hv, c5⟩
            refine lv_iload hx hb dX9_estimate_61 (lv_at hl 2 rfl) ?_
            refine lv_aload_n hx hb dX9_estimate_63 rfl (lv_at hl 4 rfl) ?_
            refine lv_iload_n hx hb dX9_estimate_64 rfl (lv_at hl 5 rfl) ?_
            refine lv_iload hx hb dX9_estimate_65 (lv_at hl 1 rfl) ?_
            refine hc_i E hD hS (va_runV (As := [.int (nI p9), .int (nI i)]) (rest := [.int (nI (hdv (I p9) (hNd S (I p9)) y i))]) ⟨hx, hb, hml, hown, hts⟩ ((c_X9_many l D K tv ws ad f ct pt md lz kp fd hrx hc6 p9 (by omega) (nI i) (fun t => hpk i (ta t) (tb t) (tc t)) (Or.inr ⟨i, hi3, rfl, hkey_at t1 hi3⟩)) H.size) (cwV 2 hts (hGV hmc k_662 k_664 k_6 k_29 k_665) rfl rfl rfl (by decide +kernel) ⟨Nat.le_of_ble_eq_true rfl, Nat.le_of_ble_eq_true rfl⟩) (hpreV E hP hD hS g0 rfl) rfl rfl hl.1 rfl (lv_room (Nat.le_of_ble_eq_true rfl)) dX9_estimate_67 ⟨(Nat.le_refl _), (Nat.le_refl _)⟩) (fun r7 ws6 H locs hp hP hD hS => ?_)
            obtain ⟨rfl, hp⟩ := hp
            have hp := hp.trans (congrArg nI (hNd_ref hHN9 t1 t3))
            subst hp
            refine lv_imul hx hb dX9_estimate_70 ?_
            refine htopi (v := nI (hdv (I p9) (hNd S (I p9)) y (i + 1))) (by rw [hs9]; exact pk_mul _ _) ?_
            refine lv_istore (lv' := [(4, .int (nI (hdv (I p9) (hNd S (I p9)) y (i + 1)))), (6, .int (hit (I p9 i))), (5, .int (nI i)), (3, .int (nI n)), (0, .ref (ad 0)), (1, .int (nI p9)), (2, .int y)]) hx hb dX9_estimate_71 hl (by decide) rfl (fun ls hl => ?_)
            refine lv_iinc (v := nI (i + 1)) (lv' := [(5, .int (nI (i + 1))), (4, .int (nI (hdv (I p9) (hNd S (I p9)) y (i + 1)))), (6, .int (hit (I p9 i))), (3, .int (nI n)), (0, .ref (ad 0)), (1, .int (nI p9)), (2, .int y)]) hx hb dX9_estimate_73 hl (k := 2) rfl (nI_1 _) (by decide) rfl (fun ls hl => ?_)
            refine lv_goto (tgt := 23) hx hb dX9_estimate_76 (by decide) ?_
            exact ih (i + 1) _ H locs ls ⟨by omega, Or.inl hn1, rfl⟩ (by omega) hP hD hS (lv_sub hl [0, 1, 3, 4, 5, 6] rfl)
  · refine lv_iconst (v := (-1)) hx hb dX9_estimate_8 (by decide +kernel) ?_
    subst hAe
    exact W.iret (v := (-1)) hx hb hr (fun t ht _ => ⟨⟨(-1), ws, rfl, ⟨rfl, Or.inl ⟨hh.f c1, rfl⟩⟩, by rw [ht]; exact hP, hD⟩, hS.F ht⟩) hS.2.2 dX9_estimate_9

set_option maxHeartbeats 4000000 in
set_option maxRecDepth 100000 in
/-- the reference: size -/
theorem c_X9_size (l : Launch) (D : va_G) (K : Nat → ClassId) (tv : Nat) (ws : va_W) (ad : Nat → Nat) (S : Nat → Nat → Nat → Prop) (cnt np : Nat) (o : List Nat) (I : Nat → Nat → Nat) (hms : hMS K ad ws S cnt np o I) (x : Int32) : hL l D (hTy K) tv yX9_size cX9_size 6 (some .long) ({ frames := 3, cells := 0, slots := 0, locals := 180 }) [.ref (ad 0), .int x] ws (fun r ws1 => hSizP S I o x r ∧ hMS K ad ws1 S cnt np o I) := by
  intro sz
  refine Met.ofW (cc := cX9_size) (maxL := 6) (ret := (some .long)) (by decide) rfl ?_
  intro p e s m args below meth c s₁ B hml hv0
  obtain ⟨rfl, rfl, E, hP, hD⟩ := hentry hv0
  have hx := B.exec
  have hb := B.bytes
  have hr := B.returns
  have hts := atoms_spec (ws := hC yX9_size cX9_size 6 (some .long)) B.pre
  have hown : s.vm.findClass RX9 = some m.cls := findClass_of_methodNamed B.named
  have hlocks := B.notSynchronized
  generalize hAe : va_A ws s.heap.size = A at hD E ⊢
  have hl := lv_entry ([.ref (ad 0), .int x]) (n := 6) (Nat.le_of_ble_eq_true rfl)
  rw [lg_entry_eq]
  generalize (lg_sl ([.ref (ad 0), .int x]) ++ List.replicate (6 - (lg_sl ([.ref (ad 0), .int x])).length) Slot.unset).toArray = ls at hl ⊢
  have hl : lv_has ls 6 [(0, .ref (ad 0)), (1, .int x)] := hl
  refine hat0 (fun H hHe => ?_)
  have hP : va_P D vwCl ws H := by rw [hHe]; exact hP
  have hS : va_S A s.heap H [] := by rw [hHe]; exact va_S.rf
  obtain ⟨f, lz, kp, fd, hrx, hrb⟩ := id hms
  obtain ⟨hct, hnp, hnd, hon, hT, hIt, hO, hF⟩ := id hrb
  have g0 := hrx.1
  have g3 : ws[3]? = some (ad 3, .inl (K 0, 6, .inl (f 3))) := hrx.2 3 (by decide) (by decide)
  have hol : o.length ≤ np := hpig np o hnd hon
  have hIt2 := hIt
  refine lv_iload_n hx hb dX9_size_0 rfl (lv_at hl 1 rfl) ?_
  refine lv_iconst (v := nI 1) hx hb dX9_size_1 (by decide +kernel) ?_
  refine lv_icmp_lt (tgt := 13) hx hb dX9_size_2 (by decide) (fun c1 => ?_) (fun c1 => ?_)
  · refine lv_ldc2 (v := (-1)) hx hb hown (hts _ (hmc _ k_681)) dX9_size_13 ?_
    subst hAe
    exact W.lret (v := (-1)) hx hb hr (fun t ht _ => ⟨⟨(-1), ws, rfl, ⟨Or.inl ⟨Or.inl c1, rfl⟩, hms⟩, by rw [ht]; exact hP, hD⟩, hS.F ht⟩) hS.2.2 dX9_size_16
  · refine lv_iload_n hx hb dX9_size_5 rfl (lv_at hl 1 rfl) ?_
    refine lv_aload_n hx hb dX9_size_6 rfl (lv_at hl 0 rfl) ?_
    refine va_get (v := .int (nI o.length)) (C := RX9) (T := TX9) (N := 18) hx hb hts (hin_X9 hmc) hown E.1.1 hP 0 g0 rfl 5 (by decide) (hts _ (hmc _ k_574)) (fun _ h9 => h9) rfl dX9_size_7 ?_
    refine lv_icmp_le (tgt := 17) hx hb dX9_size_10 (by decide) (fun c2 => ?_) (fun c2 => ?_)
    · obtain ⟨k, hk, rfl⟩ := hk_of c1 c2 (by omega)
      refine lv_lconst (v := lN 1) hx hb dX9_size_17 (by decide +kernel) ?_
      refine lv_lstore_n (lv' := [(2, .long (lN 1)), (0, .ref (ad 0)), (1, .int (nI k))]) hx hb dX9_size_18 rfl hl (by decide) rfl (fun ls hl => ?_)
      refine lv_iconst (v := nI 0) hx hb dX9_size_19 (by decide +kernel) ?_
      refine lv_istore (lv' := [(4, .int (nI 0)), (2, .long (lN 1)), (0, .ref (ad 0)), (1, .int (nI k))]) hx hb dX9_size_20 hl (by decide) rfl (fun ls hl => ?_)
      refine lv_iconst (v := nI 0) hx hb dX9_size_22 (by decide +kernel) ?_
      refine lv_istore (lv' := [(5, .int (nI 0)), (4, .int (nI 0)), (2, .long (lN 1)), (0, .ref (ad 0)), (1, .int (nI k))]) hx hb dX9_size_23 hl (by decide) rfl (fun ls hl => ?_)
      refine hloopW (α := Nat) 25 6 (fun j => [(5, .int (nI j)), (4, .int (nI (hSzK S I o j).2)), (2, .long (lN (hSzK S I o j).1)), (0, .ref (ad 0)), (1, .int (nI k))]) (fun j w9 => j ≤ k ∧ ws = w9) (fun j => k - j) (fun _ => 0) (fun _ => 0) ?_ 0 ⟨Nat.zero_le _, rfl⟩ hP hD hS (lv_sub hl [0, 1, 2, 3, 4] rfl)
      rintro j w9 H locs ls hI9 hP hD hS hl ih
      obtain ⟨hj, rfl⟩ := hI9
      have hsz := hSzK_le S I o j
      have hl : lv_has ls 6 [(5, .int (nI j)), (4, .int (nI (hSzK S I o j).2)), (2, .long (lN (hSzK S I o j).1)), (0, .ref (ad 0)), (1, .int (nI k))] := hl
      refine lv_iload hx hb dX9_size_25 (lv_at hl 0 rfl) ?_
      refine lv_iload_n hx hb dX9_size_27 rfl (lv_at hl 4 rfl) ?_
      refine lv_icmp_ge (tgt := 72) hx hb dX9_size_28 (by decide) (fun c3 => ?_) (fun c3 => ?_)
      · have hjk : j = k := by
          rcases Nat.lt_or_ge j k with z | z
          · exact absurd c3 (nI_ge z (by omega))
          · omega
        subst hjk
        refine lv_lload_n hx hb dX9_size_72 rfl (lv_at hl 2 rfl) ?_
        subst hAe
        exact W.lret (v := lN (hSzK S I o j).1) hx hb hr (fun t ht _ => ⟨⟨lN (hSzK S I o j).1, ws, rfl, ⟨Or.inr ⟨c1, c2, j, hk, rfl, rfl⟩, hms⟩, by rw [ht]; exact hP, hD⟩, hS.F ht⟩) hS.2.2 dX9_size_73
      · have c3 : ¬ nI k ≤ nI j := c3
        have hjk : j < k := Nat.not_le.mp (fun z => c3 (nI_le z (by omega)))
        have hxo : o.getD j 0 < np := hon _ (hgetD_mem (by omega))
        refine lv_lload_n hx hb dX9_size_31 rfl (lv_at hl 2 rfl) ?_
        refine lv_aload_n hx hb dX9_size_32 rfl (lv_at hl 3 rfl) ?_
        refine lv_aload_n hx hb dX9_size_33 rfl (lv_at hl 3 rfl) ?_
        refine va_get (v := .ref (ad 3)) (C := RX9) (T := TX9) (N := 18) hx hb hts (hin_X9 hmc) hown E.1.1 hP 0 g0 rfl 4 (by decide) (hts _ (hmc _ k_573)) (fun _ h9 => h9) rfl dX9_size_34 ?_
        refine lv_iload hx hb dX9_size_37 (lv_at hl 0 rfl) ?_
        refine va_iald hx hb E.1.1 hP 3 0 g3 rfl (vp_in_nI (by omega) (by omega)) dX9_size_39 ?_
        refine htopi (v := (f 3) j) (by rw [nI_clamp (by omega)]) ?_
        refine htopi (v := nI (o.getD j 0)) (hO j (by omega)) ?_
        refine lv_iload hx hb dX9_size_40 (lv_at hl 1 rfl) ?_
        refine hc_i E hD hS (va_runV (As := [.int (nI (o.getD j 0)), .int (nI (hSzK S I o j).2)]) (rest := [.long (lN (hSzK S I o j).1)]) ⟨hx, hb, hml, hown, hts⟩ ((c0_estimate l D K tv ws ad f cnt np o.length lz kp fd hrx hnp hct S I hT hIt (nI (o.getD j 0)) (nI (hSzK S I o j).2)) H.size) (cwV 2 hts (hGV hmc k_694 k_655 k_656 k_29 k_657) rfl rfl rfl (by decide +kernel) ⟨Nat.le_of_ble_eq_true rfl, Nat.le_of_ble_eq_true rfl⟩) (hpreV E hP hD hS g0 rfl) rfl rfl hl.1 rfl (lv_room (Nat.le_of_ble_eq_true rfl)) dX9_size_42 ⟨(Nat.le_refl _), (Nat.le_refl _)⟩) (fun r2 ws1 H locs hp hP hD hS => ?_)
        obtain ⟨rfl, hp⟩ := hp
        obtain ⟨e9, he9, rfl, hq9⟩ : ∃ e9, e9 ≤ 640 ∧ r2 = nI e9 ∧ e9 = hes (I (o.getD j 0)) (hNd S (I (o.getD j 0))) (hNN S (I (o.getD j 0))) (nI (hSzK S I o j).2) := by
          rcases hp with ⟨z, -⟩ | ⟨i9, hi9, e, hr⟩
          · exact absurd ⟨_, hxo, rfl⟩ z
          · obtain rfl := (nI_eq (by omega) (by omega)).mp e
            exact ⟨_, hes_le (hNN_le hT (fun i hi => hIt2 _ hxo i hi) hct), hr, rfl⟩
        refine lv_i2l (v := lN e9) hx hb dX9_size_45 (nI_l (by omega)) ?_
        refine hc_sl (va_runS (As := [.long (lN (hSzK S I o j).1), .long (lN e9)]) (rest := []) ⟨hx, hb, hml, hown, hts⟩ (c_X9_product l (hSzK S I o j).1 e9 hsz he9) (va_cwS 2 hts (hGS hmc k_695 k_696 k_29 k_697) rfl rfl rfl (by decide +kernel) ⟨Nat.le_of_ble_eq_true rfl, Nat.le_of_ble_eq_true rfl⟩) hpre0 rfl rfl hl.1 rfl (lv_room (Nat.le_of_ble_eq_true rfl)) dX9_size_46 ⟨(Nat.le_refl _), (Nat.le_refl _)⟩) (fun r3 hp9 => ?_)
        subst hp9
        refine htopl (v := lN (hSzK S I o (j + 1)).1) (by rw [hq9]; rfl) ?_
        refine lv_lstore_n (lv' := [(2, .long (lN (hSzK S I o (j + 1)).1)), (5, .int (nI j)), (4, .int (nI (hSzK S I o j).2)), (0, .ref (ad 0)), (1, .int (nI k))]) hx hb dX9_size_49 rfl hl (by decide) rfl (fun ls hl => ?_)
        refine lv_iload hx hb dX9_size_50 (lv_at hl 2 rfl) ?_
        refine lv_aload_n hx hb dX9_size_52 rfl (lv_at hl 3 rfl) ?_
        refine lv_aload_n hx hb dX9_size_53 rfl (lv_at hl 3 rfl) ?_
        refine va_get (v := .ref (ad 3)) (C := RX9) (T := TX9) (N := 18) hx hb hts (hin_X9 hmc) hown E.1.1 hP 0 g0 rfl 4 (by decide) (hts _ (hmc _ k_573)) (fun _ h9 => h9) rfl dX9_size_54 ?_
        refine lv_iload hx hb dX9_size_57 (lv_at hl 1 rfl) ?_
        refine va_iald hx hb E.1.1 hP 3 0 g3 rfl (vp_in_nI (by omega) (by omega)) dX9_size_59 ?_
        refine htopi (v := (f 3) j) (by rw [nI_clamp (by omega)]) ?_
        refine htopi (v := nI (o.getD j 0)) (hO j (by omega)) ?_
        refine hc_i E hD hS (va_runV (As := [.int (nI (o.getD j 0))]) (rest := [.int (nI (hSzK S I o j).2)]) ⟨hx, hb, hml, hown, hts⟩ ((c1_variables l D K tv ws ad f cnt np o.length lz kp fd hrx (o.getD j 0) (by omega) (I (o.getD j 0)) (fun i hi => hIt2 _ hxo i hi)) H.size) (cwV 1 hts (hGV hmc k_690 k_692 k_11 k_29 k_693) rfl rfl rfl (by decide +kernel) ⟨Nat.le_of_ble_eq_true rfl, Nat.le_of_ble_eq_true rfl⟩) (hpreV E hP hD hS g0 rfl) rfl rfl hl.1 rfl (lv_room (Nat.le_of_ble_eq_true rfl)) dX9_size_60 ⟨(Nat.le_refl _), (Nat.le_refl _)⟩) (fun r5 ws4 H locs hp hP hD hS => ?_)
        obtain ⟨rfl, rfl⟩ := hp
        refine lv_ior hx hb dX9_size_63 ?_
        refine htopi (v := nI (hSzK S I o (j + 1)).2) (hior _ _) ?_
        refine lv_istore (lv' := [(4, .int (nI (hSzK S I o (j + 1)).2)), (2, .long (lN (hSzK S I o (j + 1)).1)), (5, .int (nI j)), (0, .ref (ad 0)), (1, .int (nI k))]) hx hb dX9_size_64 hl (by decide) rfl (fun ls hl => ?_)
        refine lv_iinc (v := nI (j + 1)) (lv' := [(5, .int (nI (j + 1))), (4, .int (nI (hSzK S I o (j + 1)).2)), (2, .long (lN (hSzK S I o (j + 1)).1)), (0, .ref (ad 0)), (1, .int (nI k))]) hx hb dX9_size_66 hl (k := 2) rfl (nI_1 _) (by decide) rfl (fun ls hl => ?_)
        refine lv_goto (tgt := 25) hx hb dX9_size_69 (by decide) ?_
        exact ih (j + 1) _ H locs ls ⟨by omega, rfl⟩ (by omega) hP hD hS (lv_sub hl [0, 1, 2, 3, 4] rfl)
    · refine lv_ldc2 (v := (-1)) hx hb hown (hts _ (hmc _ k_681)) dX9_size_13 ?_
      subst hAe
      exact W.lret (v := (-1)) hx hb hr (fun t ht _ => ⟨⟨(-1), ws, rfl, ⟨Or.inl ⟨Or.inr c2, rfl⟩, hms⟩, by rw [ht]; exact hP, hD⟩, hS.F ht⟩) hS.2.2 dX9_size_16

theorem hand255 (y : Int32) : ∃ v, v < 256 ∧ y &&& nI 255 = nI v := ⟨_, Nat.mod_lt _ (by decide), pk_and y (m := nI 255) 8 (by decide +kernel)⟩
theorem hand_lt (x : Int32) {m : Nat} (h : m < 256) : ∃ v, v < 256 ∧ x &&& nI m = nI v := by
  obtain ⟨v, hv, e⟩ := hand255 (x &&& nI m)
  rw [Int32.and_assoc, hiand, show m &&& 255 = m from (Nat.and_two_pow_sub_one_eq_mod m 8).trans (Nat.mod_eq_of_lt h)] at e
  exact ⟨v, hv, e⟩
theorem hup_up (f : Nat → Nat → Int32) (k : Nat) (a b : Nat → Int32) : hup (hup f k a) k b = hup f k b := by
  funext j
  unfold hup
  by_cases z : j = k
  · rw [if_pos z, if_pos z]
  · rw [if_neg z, if_neg z, if_neg z]
theorem hup_id (f : Nat → Nat → Int32) (k : Nat) : hup f k (f k) = f := by
  funext j
  unfold hup
  by_cases z : j = k
  · rw [if_pos z, z]
  · rw [if_neg z]
