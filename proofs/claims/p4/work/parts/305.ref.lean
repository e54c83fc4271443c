set_option maxHeartbeats 4000000 in
set_option maxRecDepth 100000 in
/-- the reference: many -/
theorem c_X9_many (l : Launch) (D : va_G) (K : Nat → ClassId) (tv : Nat) (ws : va_W) (ad : Nat → Nat) (f : Nat → Nat → Int32) (ct pt md : Nat) (lz : Int64) (kp : Nat) (fd : Int32) (hrx : hRX K ad ws f ct pt md lz kp fd) (hc6 : ct ≤ 640) (p9 : Nat) (hp6 : p9 < 6) (x : Int32) (hx3 : x < 0 ∨ ∃ q, q < 3 ∧ x = nI q) : hI l D (hTy K) tv yX9_many cX9_many 7 (some .int) ({ frames := 1, cells := 0, slots := 0, locals := 60 }) [.ref (ad 0), .int (nI p9), .int x] ws (fun r ws1 => ws = ws1 ∧ ∃ n, r = nI n ∧ n ≤ ct ∧ ((∃ t, t < ct ∧ hHN f t p9) ↔ 1 ≤ n)) := by
  intro sz
  refine Met.ofW (cc := cX9_many) (maxL := 7) (ret := (some .int)) (by decide) rfl ?_
  intro p e s m args below meth c s₁ B hml hv0
  obtain ⟨rfl, rfl, E, hP, hD⟩ := hentry hv0
  have hx := B.exec
  have hb := B.bytes
  have hr := B.returns
  have hts := atoms_spec (ws := hC yX9_many cX9_many 7 (some .int)) B.pre
  have hown : s.vm.findClass RX9 = some m.cls := findClass_of_methodNamed B.named
  have hlocks := B.notSynchronized
  generalize hAe : va_A ws s.heap.size = A at hD E ⊢
  have hl := lv_entry ([.ref (ad 0), .int (nI p9), .int x]) (n := 7) (Nat.le_of_ble_eq_true rfl)
  rw [lg_entry_eq]
  generalize (lg_sl ([.ref (ad 0), .int (nI p9), .int x]) ++ List.replicate (7 - (lg_sl ([.ref (ad 0), .int (nI p9), .int x])).length) Slot.unset).toArray = ls at hl ⊢
  have hl : lv_has ls 7 [(0, .ref (ad 0)), (1, .int (nI p9)), (2, .int x)] := hl
  refine hat0 (fun H hHe => ?_)
  have hP : va_P D vwCl ws H := by rw [hHe]; exact hP
  have hS : va_S A s.heap H [] := by rw [hHe]; exact va_S.rf
  have g0 := hrx.1
  have g1 : ws[1]? = some (ad 1, .inl (K 0, 1920, .inl (f 1))) := hrx.2 1 (by decide) (by decide)
  refine lv_iconst (v := nI 0) hx hb dX9_many_0 (by decide +kernel) ?_
  refine lv_istore_n (lv' := [(3, .int (nI 0)), (0, .ref (ad 0)), (1, .int (nI p9)), (2, .int x)]) hx hb dX9_many_1 rfl hl (by decide) rfl (fun ls hl => ?_)
  refine lv_iconst (v := nI 0) hx hb dX9_many_2 (by decide +kernel) ?_
  refine lv_istore (lv' := [(4, .int (nI 0)), (3, .int (nI 0)), (0, .ref (ad 0)), (1, .int (nI p9)), (2, .int x)]) hx hb dX9_many_3 hl (by decide) rfl (fun ls hl => ?_)
  refine hloopW (α := Nat × Nat) 5 7 (fun y => [(4, .int (nI y.1)), (3, .int (nI y.2)), (0, .ref (ad 0)), (1, .int (nI p9)), (2, .int x)]) (fun y w9 => y.1 ≤ ct ∧ y.2 ≤ y.1 ∧ ((∃ u, u < y.1 ∧ hHN f u p9) ↔ 1 ≤ y.2) ∧ ws = w9) (fun y => ct - y.1) (fun _ => 0) (fun _ => 0) ?_ (0, 0) ⟨Nat.zero_le _, Nat.le_refl _, ⟨fun ⟨u, hu, _⟩ => absurd hu (Nat.not_lt_zero _), fun q => absurd q (by decide)⟩, rfl⟩ hP hD hS (lv_sub hl [0, 1, 2, 3, 4] rfl)
  rintro ⟨t, n⟩ w9 H locs ls hI9 hP hD hS hl ih
  obtain ⟨ht, hn, hiff, rfl⟩ := hI9
  dsimp only at ht hn hiff ih
  have hl : lv_has ls 7 [(4, .int (nI t)), (3, .int (nI n)), (0, .ref (ad 0)), (1, .int (nI p9)), (2, .int x)] := hl
  refine lv_iload hx hb dX9_many_5 (lv_at hl 0 rfl) ?_
  refine lv_aload_n hx hb dX9_many_7 rfl (lv_at hl 2 rfl) ?_
  refine va_get (v := .int (nI ct)) (C := RX9) (T := TX9) (N := 18) hx hb hts (hin_X9 hmc) hown E.1.1 hP 0 g0 rfl 1 (by decide) (hts _ (hmc _ k_570)) (fun _ h9 => h9) rfl dX9_many_8 ?_
  refine lv_icmp_ge (tgt := 116) hx hb dX9_many_11 (by decide) (fun c1 => ?_) (fun c1 => ?_)
  · have c1 : nI ct ≤ nI t := c1
    have htc : t = ct := by
      have := (nI_leI (by omega) (by omega)).mp c1
      omega
    refine lv_iload_n hx hb dX9_many_116 rfl (lv_at hl 1 rfl) ?_
    subst hAe
    exact W.iret (v := nI n) hx hb hr (fun t ht _ => ⟨⟨nI n, ws, rfl, ⟨rfl, n, rfl, by omega, by rw [← htc]; exact hiff⟩, by rw [ht]; exact hP, hD⟩, hS.F ht⟩) hS.2.2 dX9_many_117
  · have c1 : ¬ nI ct ≤ nI t := c1
    have ht2 : t < ct := Nat.not_le.mp (fun z => c1 (nI_le z (by omega)))
    refine lv_aload_n hx hb dX9_many_14 rfl (lv_at hl 2 rfl) ?_
    refine lv_iload hx hb dX9_many_15 (lv_at hl 0 rfl) ?_
    refine lv_iload_n hx hb dX9_many_17 rfl (lv_at hl 3 rfl) ?_
    refine hc_i E hD hS (va_runV (As := [.int (nI t), .int (nI p9)]) (rest := []) ⟨hx, hb, hml, hown, hts⟩ ((c_X9_hasNumbers l D K tv ws ad f ct pt md lz kp fd hrx t p9 (by omega) hp6) H.size) (cwV 2 hts (hGV hmc k_666 k_668 k_7 k_29 k_669) rfl rfl rfl (by decide +kernel) ⟨Nat.le_of_ble_eq_true rfl, Nat.le_of_ble_eq_true rfl⟩) (hpreV E hP hD hS g0 rfl) rfl rfl hl.1 rfl (lv_room (Nat.le_of_ble_eq_true rfl)) dX9_many_18 ⟨(Nat.le_refl _), (Nat.le_refl _)⟩) (fun r2 ws1 H locs hh hP hD hS => ?_)
    obtain ⟨rfl, hh⟩ := hh
    refine lv_if_ne (tgt := 27) hx hb dX9_many_21 (by decide) (fun c2 => ?_) (fun c2 => ?_)
    · have hyes := hh.t c2
      refine lv_iconst (v := nI 1) hx hb dX9_many_27 (by decide +kernel) ?_
      refine lv_istore (lv' := [(5, .int (nI 1)), (4, .int (nI t)), (3, .int (nI n)), (0, .ref (ad 0)), (1, .int (nI p9)), (2, .int x)]) hx hb dX9_many_28 hl (by decide) rfl (fun ls hl => ?_)
      refine lv_iconst (v := nI 0) hx hb dX9_many_30 (by decide +kernel) ?_
      refine lv_istore (lv' := [(6, .int (nI 0)), (5, .int (nI 1)), (4, .int (nI t)), (3, .int (nI n)), (0, .ref (ad 0)), (1, .int (nI p9)), (2, .int x)]) hx hb dX9_many_31 hl (by decide) rfl (fun ls hl => ?_)
      refine hloopW (α := Nat × Nat) 33 7 (fun y => [(6, .int (nI y.1)), (5, .int (nI y.2)), (4, .int (nI t)), (3, .int (nI n)), (0, .ref (ad 0)), (1, .int (nI p9)), (2, .int x)]) (fun y w9 => y.1 ≤ t ∧ (y.2 = 1 ∨ (y.2 = 0 ∧ ∃ v, v < t ∧ hHN f v p9)) ∧ ws = w9) (fun y => t - y.1) (fun _ => 0) (fun _ => 0) ?_ (0, 1) ⟨Nat.zero_le _, Or.inl rfl, rfl⟩ hP hD hS (lv_sub hl [0, 1, 2, 3, 4, 5, 6] rfl)
      rintro ⟨u, fr9⟩ w9 H locs ls hI9 hP hD hS hl ih2
      obtain ⟨hu, hfr, rfl⟩ := hI9
      dsimp only at hu hfr ih2
      have hl : lv_has ls 7 [(6, .int (nI u)), (5, .int (nI fr9)), (4, .int (nI t)), (3, .int (nI n)), (0, .ref (ad 0)), (1, .int (nI p9)), (2, .int x)] := hl
      refine lv_iload hx hb dX9_many_33 (lv_at hl 0 rfl) ?_
      refine lv_iload hx hb dX9_many_35 (lv_at hl 2 rfl) ?_
      refine lv_icmp_ge (tgt := 97) hx hb dX9_many_37 (by decide) (fun c3 => ?_) (fun c3 => ?_)
      · rcases hfr with hy | ⟨hy, hv⟩
        · subst hy
          refine lv_iload_n hx hb dX9_many_97 rfl (lv_at hl 3 rfl) ?_
          refine lv_iload hx hb dX9_many_98 (lv_at hl 1 rfl) ?_
          refine lv_if_eq (tgt := 107) hx hb dX9_many_100 (by decide) (fun c6 => ?_) (fun c6 => ?_)
          · exact absurd c6 (by decide +kernel)
          · refine lv_iconst (v := nI 1) hx hb dX9_many_103 (by decide +kernel) ?_
            refine lv_goto (tgt := 108) hx hb dX9_many_104 (by decide) ?_
            refine lv_iadd hx hb dX9_many_108 ?_
            refine htopi (v := nI (n + 1)) (nI_add _ _) ?_
            refine lv_istore_n (lv' := [(3, .int (nI (n + 1))), (6, .int (nI u)), (5, .int (nI 1)), (4, .int (nI t)), (0, .ref (ad 0)), (1, .int (nI p9)), (2, .int x)]) hx hb dX9_many_109 rfl hl (by decide) rfl (fun ls hl => ?_)
            refine lv_iinc (v := nI (t + 1)) (lv' := [(4, .int (nI (t + 1))), (3, .int (nI (n + 1))), (6, .int (nI u)), (5, .int (nI 1)), (0, .ref (ad 0)), (1, .int (nI p9)), (2, .int x)]) hx hb dX9_many_110 hl (k := 3) rfl (nI_1 _) (by decide) rfl (fun ls hl => ?_)
            refine lv_goto (tgt := 5) hx hb dX9_many_113 (by decide) ?_
            exact ih (t + 1, n + 1) _ H locs ls ⟨by show t + 1 ≤ ct; omega, by show n + 1 ≤ t + 1; omega, ⟨fun _ => Nat.succ_le_succ (Nat.zero_le _), fun _ => ⟨t, by show t < t + 1; omega, hyes⟩⟩, rfl⟩ (by show ct - (t + 1) < ct - t; omega) hP hD hS (lv_sub hl [0, 1, 4, 5, 6] rfl)
        · subst hy
          refine lv_iload_n hx hb dX9_many_97 rfl (lv_at hl 3 rfl) ?_
          refine lv_iload hx hb dX9_many_98 (lv_at hl 1 rfl) ?_
          refine lv_if_eq (tgt := 107) hx hb dX9_many_100 (by decide) (fun c6 => ?_) (fun c6 => ?_)
          · refine lv_iconst (v := nI 0) hx hb dX9_many_107 (by decide +kernel) ?_
            refine lv_iadd hx hb dX9_many_108 ?_
            refine htopi (v := nI (n + 0)) (nI_add _ _) ?_
            refine lv_istore_n (lv' := [(3, .int (nI (n + 0))), (6, .int (nI u)), (5, .int (nI 0)), (4, .int (nI t)), (0, .ref (ad 0)), (1, .int (nI p9)), (2, .int x)]) hx hb dX9_many_109 rfl hl (by decide) rfl (fun ls hl => ?_)
            refine lv_iinc (v := nI (t + 1)) (lv' := [(4, .int (nI (t + 1))), (3, .int (nI (n + 0))), (6, .int (nI u)), (5, .int (nI 0)), (0, .ref (ad 0)), (1, .int (nI p9)), (2, .int x)]) hx hb dX9_many_110 hl (k := 3) rfl (nI_1 _) (by decide) rfl (fun ls hl => ?_)
            refine lv_goto (tgt := 5) hx hb dX9_many_113 (by decide) ?_
            exact ih (t + 1, n + 0) _ H locs ls ⟨by show t + 1 ≤ ct; omega, by show n + 0 ≤ t + 1; omega, ⟨fun _ => hiff.mp hv, fun _ => ⟨t, by show t < t + 1; omega, hyes⟩⟩, rfl⟩ (by show ct - (t + 1) < ct - t; omega) hP hD hS (lv_sub hl [0, 1, 4, 5, 6] rfl)
          · exact absurd rfl c6
      · refine lv_iload hx hb dX9_many_40 (lv_at hl 1 rfl) ?_
        refine lv_if_eq (tgt := 97) hx hb dX9_many_42 (by decide) (fun c4 => ?_) (fun c4 => ?_)
        · rcases hfr with hy | ⟨hy, hv⟩
          · subst hy
            refine lv_iload_n hx hb dX9_many_97 rfl (lv_at hl 3 rfl) ?_
            refine lv_iload hx hb dX9_many_98 (lv_at hl 1 rfl) ?_
            refine lv_if_eq (tgt := 107) hx hb dX9_many_100 (by decide) (fun c6 => ?_) (fun c6 => ?_)
            · exact absurd c6 (by decide +kernel)
            · refine lv_iconst (v := nI 1) hx hb dX9_many_103 (by decide +kernel) ?_
              refine lv_goto (tgt := 108) hx hb dX9_many_104 (by decide) ?_
              refine lv_iadd hx hb dX9_many_108 ?_
              refine htopi (v := nI (n + 1)) (nI_add _ _) ?_
              refine lv_istore_n (lv' := [(3, .int (nI (n + 1))), (6, .int (nI u)), (5, .int (nI 1)), (4, .int (nI t)), (0, .ref (ad 0)), (1, .int (nI p9)), (2, .int x)]) hx hb dX9_many_109 rfl hl (by decide) rfl (fun ls hl => ?_)
              refine lv_iinc (v := nI (t + 1)) (lv' := [(4, .int (nI (t + 1))), (3, .int (nI (n + 1))), (6, .int (nI u)), (5, .int (nI 1)), (0, .ref (ad 0)), (1, .int (nI p9)), (2, .int x)]) hx hb dX9_many_110 hl (k := 3) rfl (nI_1 _) (by decide) rfl (fun ls hl => ?_)
              refine lv_goto (tgt := 5) hx hb dX9_many_113 (by decide) ?_
              exact ih (t + 1, n + 1) _ H locs ls ⟨by show t + 1 ≤ ct; omega, by show n + 1 ≤ t + 1; omega, ⟨fun _ => Nat.succ_le_succ (Nat.zero_le _), fun _ => ⟨t, by show t < t + 1; omega, hyes⟩⟩, rfl⟩ (by show ct - (t + 1) < ct - t; omega) hP hD hS (lv_sub hl [0, 1, 4, 5, 6] rfl)
          · subst hy
            refine lv_iload_n hx hb dX9_many_97 rfl (lv_at hl 3 rfl) ?_
            refine lv_iload hx hb dX9_many_98 (lv_at hl 1 rfl) ?_
            refine lv_if_eq (tgt := 107) hx hb dX9_many_100 (by decide) (fun c6 => ?_) (fun c6 => ?_)
            · refine lv_iconst (v := nI 0) hx hb dX9_many_107 (by decide +kernel) ?_
              refine lv_iadd hx hb dX9_many_108 ?_
              refine htopi (v := nI (n + 0)) (nI_add _ _) ?_
              refine lv_istore_n (lv' := [(3, .int (nI (n + 0))), (6, .int (nI u)), (5, .int (nI 0)), (4, .int (nI t)), (0, .ref (ad 0)), (1, .int (nI p9)), (2, .int x)]) hx hb dX9_many_109 rfl hl (by decide) rfl (fun ls hl => ?_)
              refine lv_iinc (v := nI (t + 1)) (lv' := [(4, .int (nI (t + 1))), (3, .int (nI (n + 0))), (6, .int (nI u)), (5, .int (nI 0)), (0, .ref (ad 0)), (1, .int (nI p9)), (2, .int x)]) hx hb dX9_many_110 hl (k := 3) rfl (nI_1 _) (by decide) rfl (fun ls hl => ?_)
              refine lv_goto (tgt := 5) hx hb dX9_many_113 (by decide) ?_
              exact ih (t + 1, n + 0) _ H locs ls ⟨by show t + 1 ≤ ct; omega, by show n + 0 ≤ t + 1; omega, ⟨fun _ => hiff.mp hv, fun _ => ⟨t, by show t < t + 1; omega, hyes⟩⟩, rfl⟩ (by show ct - (t + 1) < ct - t; omega) hP hD hS (lv_sub hl [0, 1, 4, 5, 6] rfl)
            · exact absurd rfl c6
        · refine lv_iload_n hx hb dX9_many_45 rfl (lv_at hl 6 rfl) ?_
          refine lv_if_lt (tgt := 97) hx hb dX9_many_46 (by decide) (fun c5 => ?_) (fun c5 => ?_)
          · rcases hfr with hy | ⟨hy, hv⟩
            · subst hy
              refine lv_iload_n hx hb dX9_many_97 rfl (lv_at hl 3 rfl) ?_
              refine lv_iload hx hb dX9_many_98 (lv_at hl 1 rfl) ?_
              refine lv_if_eq (tgt := 107) hx hb dX9_many_100 (by decide) (fun c6 => ?_) (fun c6 => ?_)
              · exact absurd c6 (by decide +kernel)
              · refine lv_iconst (v := nI 1) hx hb dX9_many_103 (by decide +kernel) ?_
                refine lv_goto (tgt := 108) hx hb dX9_many_104 (by decide) ?_
                refine lv_iadd hx hb dX9_many_108 ?_
                refine htopi (v := nI (n + 1)) (nI_add _ _) ?_
                refine lv_istore_n (lv' := [(3, .int (nI (n + 1))), (6, .int (nI u)), (5, .int (nI 1)), (4, .int (nI t)), (0, .ref (ad 0)), (1, .int (nI p9)), (2, .int x)]) hx hb dX9_many_109 rfl hl (by decide) rfl (fun ls hl => ?_)
                refine lv_iinc (v := nI (t + 1)) (lv' := [(4, .int (nI (t + 1))), (3, .int (nI (n + 1))), (6, .int (nI u)), (5, .int (nI 1)), (0, .ref (ad 0)), (1, .int (nI p9)), (2, .int x)]) hx hb dX9_many_110 hl (k := 3) rfl (nI_1 _) (by decide) rfl (fun ls hl => ?_)
                refine lv_goto (tgt := 5) hx hb dX9_many_113 (by decide) ?_
                exact ih (t + 1, n + 1) _ H locs ls ⟨by show t + 1 ≤ ct; omega, by show n + 1 ≤ t + 1; omega, ⟨fun _ => Nat.succ_le_succ (Nat.zero_le _), fun _ => ⟨t, by show t < t + 1; omega, hyes⟩⟩, rfl⟩ (by show ct - (t + 1) < ct - t; omega) hP hD hS (lv_sub hl [0, 1, 4, 5, 6] rfl)
            · subst hy
              refine lv_iload_n hx hb dX9_many_97 rfl (lv_at hl 3 rfl) ?_
              refine lv_iload hx hb dX9_many_98 (lv_at hl 1 rfl) ?_
              refine lv_if_eq (tgt := 107) hx hb dX9_many_100 (by decide) (fun c6 => ?_) (fun c6 => ?_)
              · refine lv_iconst (v := nI 0) hx hb dX9_many_107 (by decide +kernel) ?_
                refine lv_iadd hx hb dX9_many_108 ?_
                refine htopi (v := nI (n + 0)) (nI_add _ _) ?_
                refine lv_istore_n (lv' := [(3, .int (nI (n + 0))), (6, .int (nI u)), (5, .int (nI 0)), (4, .int (nI t)), (0, .ref (ad 0)), (1, .int (nI p9)), (2, .int x)]) hx hb dX9_many_109 rfl hl (by decide) rfl (fun ls hl => ?_)
                refine lv_iinc (v := nI (t + 1)) (lv' := [(4, .int (nI (t + 1))), (3, .int (nI (n + 0))), (6, .int (nI u)), (5, .int (nI 0)), (0, .ref (ad 0)), (1, .int (nI p9)), (2, .int x)]) hx hb dX9_many_110 hl (k := 3) rfl (nI_1 _) (by decide) rfl (fun ls hl => ?_)
                refine lv_goto (tgt := 5) hx hb dX9_many_113 (by decide) ?_
                exact ih (t + 1, n + 0) _ H locs ls ⟨by show t + 1 ≤ ct; omega, by show n + 0 ≤ t + 1; omega, ⟨fun _ => hiff.mp hv, fun _ => ⟨t, by show t < t + 1; omega, hyes⟩⟩, rfl⟩ (by show ct - (t + 1) < ct - t; omega) hP hD hS (lv_sub hl [0, 1, 4, 5, 6] rfl)
              · exact absurd rfl c6
          · have c3 : ¬ nI t ≤ nI u := c3
            have hu2 : u < t := Nat.not_le.mp (fun z => c3 (nI_le z (by omega)))
            obtain ⟨q, hq, rfl⟩ : ∃ q, q < 3 ∧ x = nI q := hx3.resolve_left c5
            refine lv_aload_n hx hb dX9_many_49 rfl (lv_at hl 4 rfl) ?_
            refine lv_iload hx hb dX9_many_50 (lv_at hl 0 rfl) ?_
            refine lv_iload_n hx hb dX9_many_52 rfl (lv_at hl 5 rfl) ?_
            refine hc_i E hD hS (va_runV (As := [.int (nI u), .int (nI p9)]) (rest := []) ⟨hx, hb, hml, hown, hts⟩ ((c_X9_hasNumbers l D K tv ws ad f ct pt md lz kp fd hrx u p9 (by omega) hp6) H.size) (cwV 2 hts (hGV hmc k_666 k_668 k_7 k_29 k_669) rfl rfl rfl (by decide +kernel) ⟨Nat.le_of_ble_eq_true rfl, Nat.le_of_ble_eq_true rfl⟩) (hpreV E hP hD hS g0 rfl) rfl rfl hl.1 rfl (lv_room (Nat.le_of_ble_eq_true rfl)) dX9_many_53 ⟨(Nat.le_refl _), (Nat.le_refl _)⟩) (fun r4 ws3 H locs h8 hP hD hS => ?_)
            obtain ⟨rfl, h8⟩ := h8
            refine lv_if_eq (tgt := 84) hx hb dX9_many_56 (by decide) (fun c7 => ?_) (fun c7 => ?_)
            · refine lv_iconst (v := nI 1) hx hb dX9_many_84 (by decide +kernel) ?_
              refine lv_goto (tgt := 89) hx hb dX9_many_85 (by decide) ?_
              refine lv_istore (lv' := [(5, .int (nI 1)), (6, .int (nI u)), (4, .int (nI t)), (3, .int (nI n)), (0, .ref (ad 0)), (1, .int (nI p9)), (2, .int (nI q))]) hx hb dX9_many_89 hl (by decide) rfl (fun ls hl => ?_)
              refine lv_iinc (v := nI (u + 1)) (lv' := [(6, .int (nI (u + 1))), (5, .int (nI 1)), (4, .int (nI t)), (3, .int (nI n)), (0, .ref (ad 0)), (1, .int (nI p9)), (2, .int (nI q))]) hx hb dX9_many_91 hl (k := 1) rfl (nI_1 _) (by decide) rfl (fun ls hl => ?_)
              refine lv_goto (tgt := 33) hx hb dX9_many_94 (by decide) ?_
              exact ih2 (u + 1, 1) _ H locs ls ⟨by show u + 1 ≤ t; omega, Or.inl rfl, rfl⟩ (by show t - (u + 1) < t - u; omega) hP hD hS (lv_sub hl [0, 1, 2, 3, 4, 5, 6] rfl)
            · have hv9 := h8.t c7
              refine lv_aload_n hx hb dX9_many_59 rfl (lv_at hl 4 rfl) ?_
              refine va_get (v := .ref (ad 1)) (C := RX9) (T := TX9) (N := 18) hx hb hts (hin_X9 hmc) hown E.1.1 hP 0 g0 rfl 0 (by decide) (hts _ (hmc _ k_569)) (fun _ h9 => h9) rfl dX9_many_60 ?_
              refine lv_iconst (v := nI 3) hx hb dX9_many_63 (by decide +kernel) ?_
              refine lv_iload hx hb dX9_many_64 (lv_at hl 0 rfl) ?_
              refine lv_imul hx hb dX9_many_66 ?_
              refine htopi (v := nI (3 * u)) (pk_mul _ _) ?_
              refine lv_iload_n hx hb dX9_many_67 rfl (lv_at hl 6 rfl) ?_
              refine lv_iadd hx hb dX9_many_68 ?_
              refine htopi (v := nI ((3 * u) + q)) (nI_add _ _) ?_
              refine va_iald hx hb E.1.1 hP 1 0 g1 rfl (vp_in_nI (by omega) (by omega)) dX9_many_69 ?_
              refine htopi (v := (f 1) ((3 * u) + q)) (by rw [nI_clamp (by omega)]) ?_
              refine lv_aload_n hx hb dX9_many_70 rfl (lv_at hl 4 rfl) ?_
              refine va_get (v := .ref (ad 1)) (C := RX9) (T := TX9) (N := 18) hx hb hts (hin_X9 hmc) hown E.1.1 hP 0 g0 rfl 0 (by decide) (hts _ (hmc _ k_569)) (fun _ h9 => h9) rfl dX9_many_71 ?_
              refine lv_iconst (v := nI 3) hx hb dX9_many_74 (by decide +kernel) ?_
              refine lv_iload hx hb dX9_many_75 (lv_at hl 2 rfl) ?_
              refine lv_imul hx hb dX9_many_77 ?_
              refine htopi (v := nI (3 * t)) (pk_mul _ _) ?_
              refine lv_iload_n hx hb dX9_many_78 rfl (lv_at hl 6 rfl) ?_
              refine lv_iadd hx hb dX9_many_79 ?_
              refine htopi (v := nI ((3 * t) + q)) (nI_add _ _) ?_
              refine va_iald hx hb E.1.1 hP 1 0 g1 rfl (vp_in_nI (by omega) (by omega)) dX9_many_80 ?_
              refine htopi (v := (f 1) ((3 * t) + q)) (by rw [nI_clamp (by omega)]) ?_
              refine lv_icmp_eq (tgt := 88) hx hb dX9_many_81 (by decide) (fun c8 => ?_) (fun c8 => ?_)
              · refine lv_iconst (v := nI 0) hx hb dX9_many_88 (by decide +kernel) ?_
                refine lv_istore (lv' := [(5, .int (nI 0)), (6, .int (nI u)), (4, .int (nI t)), (3, .int (nI n)), (0, .ref (ad 0)), (1, .int (nI p9)), (2, .int (nI q))]) hx hb dX9_many_89 hl (by decide) rfl (fun ls hl => ?_)
                refine lv_iinc (v := nI (u + 1)) (lv' := [(6, .int (nI (u + 1))), (5, .int (nI 0)), (4, .int (nI t)), (3, .int (nI n)), (0, .ref (ad 0)), (1, .int (nI p9)), (2, .int (nI q))]) hx hb dX9_many_91 hl (k := 1) rfl (nI_1 _) (by decide) rfl (fun ls hl => ?_)
                refine lv_goto (tgt := 33) hx hb dX9_many_94 (by decide) ?_
                exact ih2 (u + 1, 0) _ H locs ls ⟨by show u + 1 ≤ t; omega, Or.inr ⟨rfl, u, hu2, hv9⟩, rfl⟩ (by show t - (u + 1) < t - u; omega) hP hD hS (lv_sub hl [0, 1, 2, 3, 4, 5, 6] rfl)
              · refine lv_iconst (v := nI 1) hx hb dX9_many_84 (by decide +kernel) ?_
                refine lv_goto (tgt := 89) hx hb dX9_many_85 (by decide) ?_
                refine lv_istore (lv' := [(5, .int (nI 1)), (6, .int (nI u)), (4, .int (nI t)), (3, .int (nI n)), (0, .ref (ad 0)), (1, .int (nI p9)), (2, .int (nI q))]) hx hb dX9_many_89 hl (by decide) rfl (fun ls hl => ?_)
                refine lv_iinc (v := nI (u + 1)) (lv' := [(6, .int (nI (u + 1))), (5, .int (nI 1)), (4, .int (nI t)), (3, .int (nI n)), (0, .ref (ad 0)), (1, .int (nI p9)), (2, .int (nI q))]) hx hb dX9_many_91 hl (k := 1) rfl (nI_1 _) (by decide) rfl (fun ls hl => ?_)
                refine lv_goto (tgt := 33) hx hb dX9_many_94 (by decide) ?_
                exact ih2 (u + 1, 1) _ H locs ls ⟨by show u + 1 ≤ t; omega, Or.inl rfl, rfl⟩ (by show t - (u + 1) < t - u; omega) hP hD hS (lv_sub hl [0, 1, 2, 3, 4, 5, 6] rfl)
    · have hno := hh.f c2
      refine lv_goto (tgt := 110) hx hb dX9_many_24 (by decide) ?_
      refine lv_iinc (v := nI (t + 1)) (lv' := [(4, .int (nI (t + 1))), (3, .int (nI n)), (0, .ref (ad 0)), (1, .int (nI p9)), (2, .int x)]) hx hb dX9_many_110 hl (k := 0) rfl (nI_1 _) (by decide) rfl (fun ls hl => ?_)
      refine lv_goto (tgt := 5) hx hb dX9_many_113 (by decide) ?_
      exact ih (t + 1, n) _ H locs ls ⟨by show t + 1 ≤ ct; omega, by show n ≤ t + 1; omega, ⟨fun ⟨u, hu, q⟩ => hiff.mp ⟨u, by
          have hu : u < t + 1 := hu
          by_cases z : u = t
          · subst z; exact absurd q hno
          · omega, q⟩, fun q => by obtain ⟨u, hu, r⟩ := hiff.mpr q; exact ⟨u, by show u < t + 1; omega, r⟩⟩, rfl⟩ (by show ct - (t + 1) < ct - t; omega) hP hD hS (lv_sub hl [0, 1, 2, 3, 4] rfl)
