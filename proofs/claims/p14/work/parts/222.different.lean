set_option maxHeartbeats 4000000 in
set_option maxRecDepth 100000 in
/-- countDifferent -/
theorem c_X1_countDifferent (l : Launch) (D : va_G) (K : Nat → ClassId) (tv : Nat) (ws : va_W) (ad : Nat → Nat) (F : Nat → Nat → Int32) (cnt : Nat) (ht : hTr K ad ws F cnt) (v pl : Nat) (g : Nat → Nat) (h640 : cnt ≤ 640) (hf : ∀ i, i < cnt → F v i = nI (g i) ∧ g i < 262144) (hv : v < 3) (hpl : pl < 3) (fr to : Nat) (hto : to ≤ cnt) (hft : fr ≤ to) : hI l D (hTy K) tv yX1_countDifferent cX1_countDifferent 9 (some .int) ({ frames := 3, cells := 0, slots := 0, locals := 180 }) [.ref (ad 1), .int (nI v), .int (nI pl), .int (nI fr), .int (nI to)] ws (fun r ws1 => ws = ws1 ∧ r = nI (hbc (hsn (fun i => hpn v pl (g i)) fr (to - fr)))) := by
  intro sz
  refine Met.ofW (cc := cX1_countDifferent) (maxL := 9) (ret := (some .int)) (by decide) rfl ?_
  intro p e s m args below meth c s₁ B hml hv0
  obtain ⟨rfl, rfl, E, hP, hD⟩ := hentry hv0
  have hx := B.exec
  have hb := B.bytes
  have hr := B.returns
  have hts := atoms_spec (ws := hC yX1_countDifferent cX1_countDifferent 9 (some .int)) B.pre
  have hown : s.vm.findClass RX1 = some m.cls := findClass_of_methodNamed B.named
  have hlocks := B.notSynchronized
  generalize hAe : va_A ws s.heap.size = A at hD E ⊢
  have hl := lv_entry ([.ref (ad 1), .int (nI v), .int (nI pl), .int (nI fr), .int (nI to)]) (n := 9) (Nat.le_of_ble_eq_true rfl)
  rw [lg_entry_eq]
  generalize (lg_sl ([.ref (ad 1), .int (nI v), .int (nI pl), .int (nI fr), .int (nI to)]) ++ List.replicate (9 - (lg_sl ([.ref (ad 1), .int (nI v), .int (nI pl), .int (nI fr), .int (nI to)])).length) Slot.unset).toArray = ls at hl ⊢
  have hl : lv_has ls 9 [(0, .ref (ad 1)), (1, .int (nI v)), (2, .int (nI pl)), (3, .int (nI fr)), (4, .int (nI to))] := hl
  refine hat0 (fun H hHe => ?_)
  have hP : va_P D vwCl ws H := by rw [hHe]; exact hP
  have hS : va_S A s.heap H [] := by rw [hHe]; exact va_S.rf
  obtain ⟨h1, ⟨fq, h2, hfq⟩, h3⟩ := ht
  have hv3 := h3 v hv
  have hsl := hsh_lt v hv pl hpl
  have hslt : ∀ k, hsn (fun i => hpn v pl (g i)) fr k < 2 ^ 64 := hsn_lt (fun i => hpn_lt _ _ _)
  refine lv_iload_n hx hb dX1_countDifferent_0 rfl (lv_at hl 1 rfl) ?_
  refine lv_iload_n hx hb dX1_countDifferent_1 rfl (lv_at hl 2 rfl) ?_
  refine hc_si (va_runSN (As := [.int (nI v), .int (nI pl)]) (rest := []) ⟨hx, hb, hml, hown, hts⟩ (c_X0_codeShift l v pl hv hpl) ⟨va_cnB 2 hts (hGc hmc k_251) rfl rfl rfl (E.1.2.1 _ k_360) (hts _ (hmc _ k_20)) (by decide +kernel) ⟨Nat.le_of_ble_eq_true rfl, Nat.le_of_ble_eq_true rfl⟩, (hts _ (hmc _ k_250)), trivial⟩ hpre0 rfl rfl hl.1 rfl (lv_room (Nat.le_of_ble_eq_true rfl)) dX1_countDifferent_2 ⟨(Nat.le_refl _), (Nat.le_refl _)⟩) (fun r1 hp => ?_)
  subst hp
  refine lv_istore (lv' := [(5, .int (nI (hsh v pl))), (0, .ref (ad 1)), (1, .int (nI v)), (2, .int (nI pl)), (3, .int (nI fr)), (4, .int (nI to))]) hx hb dX1_countDifferent_5 hl (by decide) rfl (fun ls hl => ?_)
  refine lv_lconst (v := lN 0) hx hb dX1_countDifferent_7 (by decide +kernel) ?_
  refine lv_lstore (lv' := [(6, .long (lN 0)), (5, .int (nI (hsh v pl))), (0, .ref (ad 1)), (1, .int (nI v)), (2, .int (nI pl)), (3, .int (nI fr)), (4, .int (nI to))]) hx hb dX1_countDifferent_8 hl (by decide) rfl (fun ls hl => ?_)
  refine lv_iload_n hx hb dX1_countDifferent_10 rfl (lv_at hl 5 rfl) ?_
  refine lv_istore (lv' := [(8, .int (nI fr)), (6, .long (lN 0)), (5, .int (nI (hsh v pl))), (0, .ref (ad 1)), (1, .int (nI v)), (2, .int (nI pl)), (3, .int (nI fr)), (4, .int (nI to))]) hx hb dX1_countDifferent_11 hl (by decide) rfl (fun ls hl => ?_)
  refine hloop0 (α := Nat) 13 9 (fun j => [(8, .int (nI (fr + j))), (6, .long (lN (hsn (fun i => hpn v pl (g i)) fr j))), (5, .int (nI (hsh v pl))), (0, .ref (ad 1)), (1, .int (nI v)), (2, .int (nI pl)), (3, .int (nI fr)), (4, .int (nI to))]) (fun j => fr + j ≤ to) (fun j => to - fr - j) ?_ 0 ls hft (lv_sub hl [0, 1, 2, 3, 4, 5, 6, 7] rfl)
  intro j ls hj hl ih
  have hl : lv_has ls 9 [(8, .int (nI (fr + j))), (6, .long (lN (hsn (fun i => hpn v pl (g i)) fr j))), (5, .int (nI (hsh v pl))), (0, .ref (ad 1)), (1, .int (nI v)), (2, .int (nI pl)), (3, .int (nI fr)), (4, .int (nI to))] := hl
  refine lv_iload hx hb dX1_countDifferent_13 (lv_at hl 0 rfl) ?_
  refine lv_iload hx hb dX1_countDifferent_15 (lv_at hl 7 rfl) ?_
  refine lv_icmp_ge (tgt := 47) hx hb dX1_countDifferent_17 (by decide) (fun c1 => ?_) (fun c1 => ?_)
  · have hj3 : j = to - fr := by
      rcases Nat.lt_or_ge (fr + j) to with z | z
      · exact absurd c1 (nI_ge z (by omega))
      · omega
    refine lv_lload hx hb dX1_countDifferent_47 (lv_at hl 1 rfl) ?_
    refine hc_si (va_runS (As := [.long (lN (hsn (fun i => hpn v pl (g i)) fr j))]) (rest := []) ⟨hx, hb, hml, hown, hts⟩ (c_JL_bitCount l (hsn (fun i => hpn v pl (g i)) fr j) (hslt j)) (va_cwS 1 hts (hGS hmc k_364 k_365 k_33 k_366) rfl rfl rfl (by decide +kernel) ⟨Nat.le_of_ble_eq_true rfl, Nat.le_of_ble_eq_true rfl⟩) hpre0 rfl rfl hl.1 rfl (lv_room (Nat.le_of_ble_eq_true rfl)) dX1_countDifferent_49 ⟨(Nat.le_refl _), (Nat.le_refl _)⟩) (fun r2 hp => ?_)
    subst hp
    subst hAe
    exact W.iret (v := nI (hbc (hsn (fun i => hpn v pl (g i)) fr j))) hx hb hr (fun t ht _ => ⟨⟨nI (hbc (hsn (fun i => hpn v pl (g i)) fr j)), ws, rfl, ⟨rfl, by rw [hj3]⟩, by rw [ht]; exact hP, hD⟩, hS.F ht⟩) hS.2.2 dX1_countDifferent_52
  · have hj3 : fr + j < to := Nat.not_le.mp (fun z => c1 (nI_le z (by omega)))
    obtain ⟨e1, e2⟩ := hf (fr + j) (by omega)
    refine lv_lload hx hb dX1_countDifferent_20 (lv_at hl 1 rfl) ?_
    refine lv_lconst (v := lN 1) hx hb dX1_countDifferent_22 (by decide +kernel) ?_
    refine lv_aload_n hx hb dX1_countDifferent_23 rfl (lv_at hl 3 rfl) ?_
    refine va_get (v := .ref (ad 2)) (C := RX1) (T := TX1) (N := 2) hx hb hts (hin_X1 hmc) hown E.1.1 hP 1 h1 rfl 0 (by decide) (hts _ (hmc _ k_51)) (fun _ h9 => h9) rfl dX1_countDifferent_24 ?_
    refine lv_iload_n hx hb dX1_countDifferent_27 rfl (lv_at hl 4 rfl) ?_
    refine hald2 hx hb E.1.1 hP 2 2 h2 rfl (vp_in_nI (by omega) (by omega)) dX1_countDifferent_28 ?_
    refine htopq (v := (ad (3 + v))) (by rw [nI_clamp (by omega)]; exact hfq v hv) ?_
    refine lv_iload hx hb dX1_countDifferent_29 (lv_at hl 0 rfl) ?_
    refine va_iald hx hb E.1.1 hP (3 + v) 0 hv3 rfl (vp_in_nI (by omega) (by omega)) dX1_countDifferent_31 ?_
    refine htopi (v := (F v) (fr + j)) (by rw [nI_clamp (by omega)]) ?_
    refine htopi (v := nI (g (fr + j))) (e1) ?_
    refine lv_iload hx hb dX1_countDifferent_32 (lv_at hl 2 rfl) ?_
    refine hc_si (va_runSN (As := [.int (nI (g (fr + j))), .int (nI (hsh v pl))]) (rest := [.long (lN 1), .long (lN (hsn (fun i => hpn v pl (g i)) fr j))]) ⟨hx, hb, hml, hown, hts⟩ (c_X0_numberAt l (g (fr + j)) (hsh v pl) (by omega) (by omega)) ⟨va_cnB 2 hts (hGc hmc k_363) rfl rfl rfl (E.1.2.1 _ k_361) (hts _ (hmc _ k_20)) (by decide +kernel) ⟨Nat.le_of_ble_eq_true rfl, Nat.le_of_ble_eq_true rfl⟩, (hts _ (hmc _ k_362)), trivial⟩ hpre0 rfl rfl hl.1 rfl (lv_room (Nat.le_of_ble_eq_true rfl)) dX1_countDifferent_34 ⟨(Nat.le_refl _), (Nat.le_refl _)⟩) (fun r3 hp => ?_)
    subst hp
    refine lv_lshl (v := lN (2 ^ hpn v pl (g (fr + j)))) hx hb dX1_countDifferent_37 (hlshl1 (hpn_lt _ _ _)) ?_
    refine lv_lor hx hb dX1_countDifferent_38 ?_
    refine htopl (v := lN (hsn (fun i => hpn v pl (g i)) fr (j + 1))) (wb_or (hslt j) (Nat.pow_lt_pow_right (by decide) (hpn_lt _ _ _))) ?_
    refine lv_lstore (lv' := [(6, .long (lN (hsn (fun i => hpn v pl (g i)) fr (j + 1)))), (8, .int (nI (fr + j))), (5, .int (nI (hsh v pl))), (0, .ref (ad 1)), (1, .int (nI v)), (2, .int (nI pl)), (3, .int (nI fr)), (4, .int (nI to))]) hx hb dX1_countDifferent_39 hl (by decide) rfl (fun ls hl => ?_)
    refine lv_iinc (v := nI ((fr + j) + 1)) (lv' := [(8, .int (nI ((fr + j) + 1))), (6, .long (lN (hsn (fun i => hpn v pl (g i)) fr (j + 1)))), (5, .int (nI (hsh v pl))), (0, .ref (ad 1)), (1, .int (nI v)), (2, .int (nI pl)), (3, .int (nI fr)), (4, .int (nI to))]) hx hb dX1_countDifferent_41 hl (k := 1) rfl (nI_1 _) (by decide) rfl (fun ls hl => ?_)
    refine lv_goto (tgt := 13) hx hb dX1_countDifferent_44 (by decide) ?_
    exact ih (j + 1) ls (by show fr + (j + 1) ≤ to; omega) (by omega) (lv_sub hl [0, 1, 2, 3, 4, 5, 6, 7] rfl)
