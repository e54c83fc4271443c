set_option maxHeartbeats 4000000 in
set_option maxRecDepth 100000 in
/-- Long.bitCount -/
theorem c_JL_bitCount (l : Launch) (n : Nat) (h64 : n < 2 ^ 64) : hSi l yJL_bitCount cJL_bitCount 2 (some .int) ({ frames := 0, cells := 0, slots := 0, locals := 0 }) [.long (lN n)] (fun r => r = nI (hbc n)) := by
  refine hMetW (cc := cJL_bitCount) (maxL := 2) (ret := (some .int)) (by decide +kernel) rfl ?_
  intro p e s m args below meth c s₁ B hml hv0
  obtain ⟨rfl, -⟩ := hv0
  have hx := B.exec
  have hb := B.bytes
  have hr := B.returns
  have hts := atoms_spec (ws := hC yJL_bitCount cJL_bitCount 2 (some .int)) B.pre
  have hown : s.vm.findClass RJL = some m.cls := findClass_of_methodNamed B.named
  have hlocks := B.notSynchronized
  have hl := lv_entry ([.long (lN n)]) (n := 2) (Nat.le_of_ble_eq_true rfl)
  rw [lg_entry_eq]
  generalize (lg_sl ([.long (lN n)]) ++ List.replicate (2 - (lg_sl ([.long (lN n)])).length) Slot.unset).toArray = ls at hl ⊢
  have hl : lv_has ls 2 [(0, .long (lN n))] := hl
  have a1 := hb1_sub n
  have a3 := hb1_le n
  have b2 := hb2_le n
  have c2 := hb3_le n
  have d1 : (hb3 n + hb3 n / 256 + (hb3 n + hb3 n / 256) / 65536 + (hb3 n + hb3 n / 256 + (hb3 n + hb3 n / 256) / 65536) / 4294967296) % 128 = hbc n := rfl
  refine lv_lload_n hx hb dJL_bitCount_0 rfl (lv_at hl 0 rfl) ?_
  refine lv_lload_n hx hb dJL_bitCount_1 rfl (lv_at hl 0 rfl) ?_
  refine lv_iconst (v := nI 1) hx hb dJL_bitCount_2 (by decide +kernel) ?_
  refine lv_lushr (v := lN (n / 2 ^ 1)) hx hb dJL_bitCount_3 (wb_shr (by omega) (by decide)) ?_
  refine lv_ldc2 (v := 6148914691236517205) hx hb hown (hts _ (hmc _ k_367)) dJL_bitCount_4 ?_
  refine htopl (v := lN 6148914691236517205) (rfl) ?_
  refine lv_land hx hb dJL_bitCount_7 ?_
  refine htopl (v := lN (n / 2 ^ 1 &&& 6148914691236517205)) (wb_and (by omega) (by decide)) ?_
  refine lv_lsub hx hb dJL_bitCount_8 ?_
  refine htopl (v := lN (hb1 n)) (lN_sub a1) ?_
  refine lv_lstore_n (lv' := [(0, .long (lN (hb1 n)))]) hx hb dJL_bitCount_9 rfl hl (by decide) rfl (fun ls hl => ?_)
  refine lv_lload_n hx hb dJL_bitCount_10 rfl (lv_at hl 0 rfl) ?_
  refine lv_ldc2 (v := 3689348814741910323) hx hb hown (hts _ (hmc _ k_368)) dJL_bitCount_11 ?_
  refine htopl (v := lN 3689348814741910323) (rfl) ?_
  refine lv_land hx hb dJL_bitCount_14 ?_
  refine htopl (v := lN (hb1 n &&& 3689348814741910323)) (wb_and (by omega) (by decide)) ?_
  refine lv_lload_n hx hb dJL_bitCount_15 rfl (lv_at hl 0 rfl) ?_
  refine lv_iconst (v := nI 2) hx hb dJL_bitCount_16 (by decide +kernel) ?_
  refine lv_lushr (v := lN (hb1 n / 2 ^ 2)) hx hb dJL_bitCount_17 (wb_shr (by omega) (by decide)) ?_
  refine lv_ldc2 (v := 3689348814741910323) hx hb hown (hts _ (hmc _ k_368)) dJL_bitCount_18 ?_
  refine htopl (v := lN 3689348814741910323) (rfl) ?_
  refine lv_land hx hb dJL_bitCount_21 ?_
  refine htopl (v := lN (hb1 n / 2 ^ 2 &&& 3689348814741910323)) (wb_and (by omega) (by decide)) ?_
  refine lv_ladd hx hb dJL_bitCount_22 ?_
  refine htopl (v := lN (hb2 n)) (lN_add _ _) ?_
  refine lv_lstore_n (lv' := [(0, .long (lN (hb2 n)))]) hx hb dJL_bitCount_23 rfl hl (by decide) rfl (fun ls hl => ?_)
  refine lv_lload_n hx hb dJL_bitCount_24 rfl (lv_at hl 0 rfl) ?_
  refine lv_lload_n hx hb dJL_bitCount_25 rfl (lv_at hl 0 rfl) ?_
  refine lv_iconst (v := nI 4) hx hb dJL_bitCount_26 (by decide +kernel) ?_
  refine lv_lushr (v := lN (hb2 n / 2 ^ 4)) hx hb dJL_bitCount_27 (wb_shr (by omega) (by decide)) ?_
  refine lv_ladd hx hb dJL_bitCount_28 ?_
  refine htopl (v := lN (hb2 n + hb2 n / 2 ^ 4)) (lN_add _ _) ?_
  refine lv_ldc2 (v := 1085102592571150095) hx hb hown (hts _ (hmc _ k_369)) dJL_bitCount_29 ?_
  refine htopl (v := lN 1085102592571150095) (rfl) ?_
  refine lv_land hx hb dJL_bitCount_32 ?_
  refine htopl (v := lN (hb3 n)) (wb_and (by omega) (by decide)) ?_
  refine lv_lstore_n (lv' := [(0, .long (lN (hb3 n)))]) hx hb dJL_bitCount_33 rfl hl (by decide) rfl (fun ls hl => ?_)
  generalize hb3 n = y at c2 d1 hl ⊢
  refine lv_lload_n hx hb dJL_bitCount_34 rfl (lv_at hl 0 rfl) ?_
  refine lv_lload_n hx hb dJL_bitCount_35 rfl (lv_at hl 0 rfl) ?_
  refine lv_bipush (v := nI 8) hx hb dJL_bitCount_36 (by decide +kernel) ?_
  refine lv_lushr (v := lN (y / 2 ^ 8)) hx hb dJL_bitCount_38 (wb_shr (by omega) (by decide)) ?_
  refine lv_ladd hx hb dJL_bitCount_39 ?_
  refine htopl (v := lN (y + y / 256)) (lN_add _ _) ?_
  refine lv_lstore_n (lv' := [(0, .long (lN (y + y / 256)))]) hx hb dJL_bitCount_40 rfl hl (by decide) rfl (fun ls hl => ?_)
  refine lv_lload_n hx hb dJL_bitCount_41 rfl (lv_at hl 0 rfl) ?_
  refine lv_lload_n hx hb dJL_bitCount_42 rfl (lv_at hl 0 rfl) ?_
  refine lv_bipush (v := nI 16) hx hb dJL_bitCount_43 (by decide +kernel) ?_
  refine lv_lushr (v := lN ((y + y / 256) / 2 ^ 16)) hx hb dJL_bitCount_45 (wb_shr (by omega) (by decide)) ?_
  refine lv_ladd hx hb dJL_bitCount_46 ?_
  refine htopl (v := lN (y + y / 256 + (y + y / 256) / 65536)) (lN_add _ _) ?_
  refine lv_lstore_n (lv' := [(0, .long (lN (y + y / 256 + (y + y / 256) / 65536)))]) hx hb dJL_bitCount_47 rfl hl (by decide) rfl (fun ls hl => ?_)
  refine lv_lload_n hx hb dJL_bitCount_48 rfl (lv_at hl 0 rfl) ?_
  refine lv_lload_n hx hb dJL_bitCount_49 rfl (lv_at hl 0 rfl) ?_
  refine lv_bipush (v := nI 32) hx hb dJL_bitCount_50 (by decide +kernel) ?_
  refine lv_lushr (v := lN ((y + y / 256 + (y + y / 256) / 65536) / 2 ^ 32)) hx hb dJL_bitCount_52 (wb_shr (by omega) (by decide)) ?_
  refine lv_ladd hx hb dJL_bitCount_53 ?_
  refine htopl (v := lN (y + y / 256 + (y + y / 256) / 65536 + (y + y / 256 + (y + y / 256) / 65536) / 4294967296)) (lN_add _ _) ?_
  refine lv_lstore_n (lv' := [(0, .long (lN (y + y / 256 + (y + y / 256) / 65536 + (y + y / 256 + (y + y / 256) / 65536) / 4294967296)))]) hx hb dJL_bitCount_54 rfl hl (by decide) rfl (fun ls hl => ?_)
  refine lv_lload_n hx hb dJL_bitCount_55 rfl (lv_at hl 0 rfl) ?_
  refine lv_l2i (v := nI (y + y / 256 + (y + y / 256) / 65536 + (y + y / 256 + (y + y / 256) / 65536) / 4294967296)) hx hb dJL_bitCount_56 (lN_i _) ?_
  refine lv_bipush (v := nI 127) hx hb dJL_bitCount_57 (by decide +kernel) ?_
  refine lv_iand hx hb dJL_bitCount_59 ?_
  exact W.iret (v := ((nI (y + y / 256 + (y + y / 256) / 65536 + (y + y / 256 + (y + y / 256) / 65536) / 4294967296)) &&& (nI 127))) hx hb hr (fun t ht _ => ⟨((nI (y + y / 256 + (y + y / 256) / 65536 + (y + y / 256 + (y + y / 256) / 65536) / 4294967296)) &&& (nI 127)), rfl, by rw [← d1]; exact hand127 _, ht⟩) (fun _ h => by cases h) dJL_bitCount_60

set_option maxHeartbeats 4000000 in
set_option maxRecDepth 100000 in
/-- Integer.bitCount -/
theorem c_JI_bitCount (l : Launch) (n : Nat) (h8 : n < 8) : hSi l yJI_bitCount cJI_bitCount 1 (some .int) ({ frames := 0, cells := 0, slots := 0, locals := 0 }) [.int (nI n)] (fun r => r = nI (hpc 3 n)) := by
  refine hMetW (cc := cJI_bitCount) (maxL := 1) (ret := (some .int)) (by decide +kernel) rfl ?_
  intro p e s m args below meth c s₁ B hml hv0
  obtain ⟨rfl, -⟩ := hv0
  have hx := B.exec
  have hb := B.bytes
  have hr := B.returns
  have hts := atoms_spec (ws := hC yJI_bitCount cJI_bitCount 1 (some .int)) B.pre
  have hown : s.vm.findClass RJI = some m.cls := findClass_of_methodNamed B.named
  have hlocks := B.notSynchronized
  have hl := lv_entry ([.int (nI n)]) (n := 1) (Nat.le_of_ble_eq_true rfl)
  rw [lg_entry_eq]
  generalize (lg_sl ([.int (nI n)]) ++ List.replicate (1 - (lg_sl ([.int (nI n)])).length) Slot.unset).toArray = ls at hl ⊢
  have hl : lv_has ls 1 [(0, .int (nI n))] := hl
  refine lv_iload_n hx hb dJI_bitCount_0 rfl (lv_at hl 0 rfl) ?_
  refine lv_iload_n hx hb dJI_bitCount_1 rfl (lv_at hl 0 rfl) ?_
  refine lv_iconst (v := nI 1) hx hb dJI_bitCount_2 (by decide +kernel) ?_
  refine lv_iushr (v := hib1 n) hx hb dJI_bitCount_3 (rfl) ?_
  refine lv_ldcw (v := 1431655765) hx hb hown (hts _ (hmc _ k_353)) dJI_bitCount_4 ?_
  refine lv_iand hx hb dJI_bitCount_7 ?_
  refine lv_isub hx hb dJI_bitCount_8 ?_
  refine htopi (v := (hib2 n)) (rfl) ?_
  refine lv_istore_n (lv' := [(0, .int (hib2 n))]) hx hb dJI_bitCount_9 rfl hl (by decide) rfl (fun ls hl => ?_)
  refine lv_iload_n hx hb dJI_bitCount_10 rfl (lv_at hl 0 rfl) ?_
  refine lv_ldcw (v := 858993459) hx hb hown (hts _ (hmc _ k_354)) dJI_bitCount_11 ?_
  refine lv_iand hx hb dJI_bitCount_14 ?_
  refine lv_iload_n hx hb dJI_bitCount_15 rfl (lv_at hl 0 rfl) ?_
  refine lv_iconst (v := nI 2) hx hb dJI_bitCount_16 (by decide +kernel) ?_
  refine lv_iushr (v := hib3 n) hx hb dJI_bitCount_17 (rfl) ?_
  refine lv_ldcw (v := 858993459) hx hb hown (hts _ (hmc _ k_354)) dJI_bitCount_18 ?_
  refine lv_iand hx hb dJI_bitCount_21 ?_
  refine lv_iadd hx hb dJI_bitCount_22 ?_
  refine htopi (v := (hib4 n)) (rfl) ?_
  refine lv_istore_n (lv' := [(0, .int (hib4 n))]) hx hb dJI_bitCount_23 rfl hl (by decide) rfl (fun ls hl => ?_)
  refine lv_iload_n hx hb dJI_bitCount_24 rfl (lv_at hl 0 rfl) ?_
  refine lv_iload_n hx hb dJI_bitCount_25 rfl (lv_at hl 0 rfl) ?_
  refine lv_iconst (v := nI 4) hx hb dJI_bitCount_26 (by decide +kernel) ?_
  refine lv_iushr (v := hib5 n) hx hb dJI_bitCount_27 (rfl) ?_
  refine lv_iadd hx hb dJI_bitCount_28 ?_
  refine lv_ldcw (v := 252645135) hx hb hown (hts _ (hmc _ k_355)) dJI_bitCount_29 ?_
  refine lv_iand hx hb dJI_bitCount_32 ?_
  refine htopi (v := (hib6 n)) (rfl) ?_
  refine lv_istore_n (lv' := [(0, .int (hib6 n))]) hx hb dJI_bitCount_33 rfl hl (by decide) rfl (fun ls hl => ?_)
  refine lv_iload_n hx hb dJI_bitCount_34 rfl (lv_at hl 0 rfl) ?_
  refine lv_iload_n hx hb dJI_bitCount_35 rfl (lv_at hl 0 rfl) ?_
  refine lv_bipush (v := nI 8) hx hb dJI_bitCount_36 (by decide +kernel) ?_
  refine lv_iushr (v := hib7 n) hx hb dJI_bitCount_38 (rfl) ?_
  refine lv_iadd hx hb dJI_bitCount_39 ?_
  refine htopi (v := (hib8 n)) (rfl) ?_
  refine lv_istore_n (lv' := [(0, .int (hib8 n))]) hx hb dJI_bitCount_40 rfl hl (by decide) rfl (fun ls hl => ?_)
  refine lv_iload_n hx hb dJI_bitCount_41 rfl (lv_at hl 0 rfl) ?_
  refine lv_iload_n hx hb dJI_bitCount_42 rfl (lv_at hl 0 rfl) ?_
  refine lv_bipush (v := nI 16) hx hb dJI_bitCount_43 (by decide +kernel) ?_
  refine lv_iushr (v := hib9 n) hx hb dJI_bitCount_45 (rfl) ?_
  refine lv_iadd hx hb dJI_bitCount_46 ?_
  refine htopi (v := (hib10 n)) (rfl) ?_
  refine lv_istore_n (lv' := [(0, .int (hib10 n))]) hx hb dJI_bitCount_47 rfl hl (by decide) rfl (fun ls hl => ?_)
  refine lv_iload_n hx hb dJI_bitCount_48 rfl (lv_at hl 0 rfl) ?_
  refine lv_bipush (v := nI 63) hx hb dJI_bitCount_49 (by decide +kernel) ?_
  refine lv_iand hx hb dJI_bitCount_51 ?_
  exact W.iret (v := ((hib10 n) &&& (nI 63))) hx hb hr (fun t ht _ => ⟨((hib10 n) &&& (nI 63)), rfl, hib_ok n h8, ht⟩) (fun _ h => by cases h) dJI_bitCount_52

set_option maxHeartbeats 4000000 in
set_option maxRecDepth 100000 in
/-- openBits -/
theorem c_X0_openBits (l : Launch) (n : Nat) (h8 : n < 8) : hSi l yX0_openBits cX0_openBits 1 (some .int) ({ frames := 1, cells := 0, slots := 0, locals := 60 }) [.int (nI n)] (fun r => r = nI (hopen n)) := by
  refine Met.ofW (cc := cX0_openBits) (maxL := 1) (ret := (some .int)) (by decide) rfl ?_
  intro p e s m args below meth c s₁ B hml hv0
  obtain ⟨rfl, -⟩ := hv0
  have hx := B.exec
  have hb := B.bytes
  have hr := B.returns
  have hts := atoms_spec (ws := hC yX0_openBits cX0_openBits 1 (some .int)) B.pre
  have hown : s.vm.findClass RX0 = some m.cls := findClass_of_methodNamed B.named
  have hlocks := B.notSynchronized
  have hl := lv_entry ([.int (nI n)]) (n := 1) (Nat.le_of_ble_eq_true rfl)
  rw [lg_entry_eq]
  generalize (lg_sl ([.int (nI n)]) ++ List.replicate (1 - (lg_sl ([.int (nI n)])).length) Slot.unset).toArray = ls at hl ⊢
  have hl : lv_has ls 1 [(0, .int (nI n))] := hl
  refine lv_bipush (v := nI 6) hx hb dX0_openBits_0 (by decide +kernel) ?_
  refine lv_iconst (v := nI 3) hx hb dX0_openBits_2 (by decide +kernel) ?_
  refine lv_iload_n hx hb dX0_openBits_3 rfl (lv_at hl 0 rfl) ?_
  refine hc_si (va_runS (As := [.int (nI n)]) (rest := [.int (nI 3), .int (nI 6)]) ⟨hx, hb, hml, hown, hts⟩ (c_JI_bitCount l n h8) (va_cwS 1 hts (hGS hmc k_350 k_351 k_32 k_352) rfl rfl rfl (by decide +kernel) ⟨Nat.le_of_ble_eq_true rfl, Nat.le_of_ble_eq_true rfl⟩) hpre0 rfl rfl hl.1 rfl (lv_room (Nat.le_of_ble_eq_true rfl)) dX0_openBits_4 ⟨(Nat.le_refl _), (Nat.le_refl _)⟩) (fun r1 hp => ?_)
  subst hp
  refine lv_isub hx hb dX0_openBits_7 ?_
  refine lv_imul hx hb dX0_openBits_8 ?_
  exact W.iret (v := ((nI 6) * ((nI 3) - (nI (hpc 3 n))))) hx hb hr (fun t ht _ => ⟨((nI 6) * ((nI 3) - (nI (hpc 3 n)))), rfl, hopen_ok n h8, ht⟩) (fun _ h => by cases h) dX0_openBits_9
