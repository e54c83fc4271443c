set_option maxHeartbeats 4000000 in
set_option maxRecDepth 100000 in
/-- new JoinPlannerModel -/
theorem c_X9_init (l : Launch) (D : va_G) (K : Nat → ClassId) (tv : Nat) (h : Nat) : hV l D (hTy K) tv yX9_init cX9_init 1 none ({ frames := 1, cells := 12, slots := 203516, locals := 60 }) [.ref h] [(h, .inr (iM, [.null, .int 0, .null, .int 0, .null, .int 0, .null, .null, .null, .long 0, .null, .null, .null, .null, .int 0, .int 0, .null, .null]))] (fun ws1 => ∃ ad : Nat → Nat, ad 0 = h ∧ hMs K ad ws1 0 0 (-2)) := by
  intro sz
  refine Met.ofW (cc := cX9_init) (maxL := 1) (ret := none) (by decide) rfl ?_
  intro p e s m args below meth c s₁ B hml hv0
  obtain ⟨rfl, rfl, E, hP, hD⟩ := hentry hv0
  have hx := B.exec
  have hb := B.bytes
  have hr := B.returns
  have hts := atoms_spec (ws := hC yX9_init cX9_init 1 none) B.pre
  have hown : s.vm.findClass RX9 = some m.cls := findClass_of_methodNamed B.named
  have hlocks := B.notSynchronized
  have hin : meth.name = "<init>" := (name_of_methodNamed B.named B.method).1
  generalize hAe : va_A [(h, .inr (iM, [.null, .int 0, .null, .int 0, .null, .int 0, .null, .null, .null, .long 0, .null, .null, .null, .null, .int 0, .int 0, .null, .null]))] s.heap.size = A at hD E ⊢
  have hl := lv_entry ([.ref h]) (n := 1) (Nat.le_of_ble_eq_true rfl)
  rw [lg_entry_eq]
  generalize (lg_sl ([.ref h]) ++ List.replicate (1 - (lg_sl ([.ref h])).length) Slot.unset).toArray = ls at hl ⊢
  have hl : lv_has ls 1 [(0, .ref h)] := hl
  refine hat0 (fun H hHe => ?_)
  have hP : va_P D vwCl [(h, .inr (iM, [.null, .int 0, .null, .int 0, .null, .int 0, .null, .null, .null, .long 0, .null, .null, .null, .null, .int 0, .int 0, .null, .null]))] H := by rw [hHe]; exact hP
  have hS : va_S A s.heap H [] := by rw [hHe]; exact va_S.rf
  have hP : va_P D vwCl [(h, .inr (iM, [.null, .int 0, .null, .int 0, .null, .int 0, .null, .null, .null, .long 0, .null, .null, .null, .null, .int 0, .int 0, .null, .null]))] H := hP
  have hD : va_D A [(h, .inr (iM, [.null, .int 0, .null, .int 0, .null, .int 0, .null, .null, .null, .long 0, .null, .null, .null, .null, .int 0, .int 0, .null, .null]))] := hD
  refine lv_aload_n hx hb dX9_init_0 rfl (lv_at hl 0 rfl) ?_
  refine W.objInit hx hb hown (hts _ (hmc _ k_567)) (hts _ (hmc _ k_41)) (hts _ (hmc _ k_42)) rfl (by rw [hml]; exact hl.1) rfl dX9_init_1 (Nat.le_of_ble_eq_true rfl) (Nat.le_of_ble_eq_true rfl) ?_
  refine W.eq (g2 := F0 m 4 ls []) rfl ?_
  refine lv_aload_n hx hb dX9_init_4 rfl (lv_at hl 0 rfl) ?_
  refine lv_sipush (v := nI 1920) hx hb dX9_init_5 (by decide +kernel) ?_
  refine va_newa (atype := .int) (ty := .int) (N' := 1920) (a0 := (1920, .inl (fun _ => 0))) hx hb (hts _ (hmc _ k_61)) rfl E.1.1 hP hD hS E.2.2 (fun _ => rfl) (nI_pos (by decide)) (nI_clamp (by decide)) (by decide) (Nat.le_of_ble_eq_true rfl) (Nat.le_of_ble_eq_true rfl) dX9_init_8 (fun q1 cA H hK1 hP hD hS => ?_)
  obtain rfl : cA = K 0 := hRA (hK1.2 (hTy K).length _ rfl).2 (E.1.1.2 0 _ rfl).2
  have hP : va_P D vwCl [(h, .inr (iM, [.null, .int 0, .null, .int 0, .null, .int 0, .null, .null, .null, .long 0, .null, .null, .null, .null, .int 0, .int 0, .null, .null])), (q1, .inl (K 0, 1920, .inl (fun _ => 0)))] H := hP
  have hD : va_D A [(h, .inr (iM, [.null, .int 0, .null, .int 0, .null, .int 0, .null, .null, .null, .long 0, .null, .null, .null, .null, .int 0, .int 0, .null, .null])), (q1, .inl (K 0, 1920, .inl (fun _ => 0)))] := hD
  refine va_putF (v := .ref q1) (ty := .array .int) (C := RX9) (T := TX9) (N := 18) hx hb hts (hin_X9 hmc) tyX9 tyX9_ok nmX9 hown E.1.1 hP hD hS 0 rfl rfl 0 (by decide) (hts _ (hmc _ k_569)) (fun _ h9 => h9) rfl hin rfl (by decide +kernel) rfl rfl (Nat.le_of_ble_eq_true rfl) dX9_init_10 (fun H locs hP hD hS => ?_)
  have hP : va_P D vwCl [(h, .inr (iM, [.ref q1, .int 0, .null, .int 0, .null, .int 0, .null, .null, .null, .long 0, .null, .null, .null, .null, .int 0, .int 0, .null, .null])), (q1, .inl (K 0, 1920, .inl (fun _ => 0)))] H := hP
  have hD : va_D A [(h, .inr (iM, [.ref q1, .int 0, .null, .int 0, .null, .int 0, .null, .null, .null, .long 0, .null, .null, .null, .null, .int 0, .int 0, .null, .null])), (q1, .inl (K 0, 1920, .inl (fun _ => 0)))] := hD
  refine lv_aload_n hx hb dX9_init_13 rfl (lv_at hl 0 rfl) ?_
  refine lv_bipush (v := nI 18) hx hb dX9_init_14 (by decide +kernel) ?_
  refine va_newa (atype := .int) (ty := .int) (N' := 18) (a0 := (18, .inl (fun _ => 0))) hx hb (hts _ (hmc _ k_61)) rfl E.1.1 hP hD hS E.2.2 (fun _ => rfl) (nI_pos (by decide)) (nI_clamp (by decide)) (by decide) (Nat.le_of_ble_eq_true rfl) (Nat.le_of_ble_eq_true rfl) dX9_init_16 (fun q2 cA H hK1 hP hD hS => ?_)
  obtain rfl : cA = K 0 := hRA (hK1.2 (hTy K).length _ rfl).2 (E.1.1.2 0 _ rfl).2
  have hP : va_P D vwCl [(h, .inr (iM, [.ref q1, .int 0, .null, .int 0, .null, .int 0, .null, .null, .null, .long 0, .null, .null, .null, .null, .int 0, .int 0, .null, .null])), (q1, .inl (K 0, 1920, .inl (fun _ => 0))), (q2, .inl (K 0, 18, .inl (fun _ => 0)))] H := hP
  have hD : va_D A [(h, .inr (iM, [.ref q1, .int 0, .null, .int 0, .null, .int 0, .null, .null, .null, .long 0, .null, .null, .null, .null, .int 0, .int 0, .null, .null])), (q1, .inl (K 0, 1920, .inl (fun _ => 0))), (q2, .inl (K 0, 18, .inl (fun _ => 0)))] := hD
  refine va_putF (v := .ref q2) (ty := .array .int) (C := RX9) (T := TX9) (N := 18) hx hb hts (hin_X9 hmc) tyX9 tyX9_ok nmX9 hown E.1.1 hP hD hS 0 rfl rfl 2 (by decide) (hts _ (hmc _ k_571)) (fun _ h9 => h9) rfl hin rfl (by decide +kernel) rfl rfl (Nat.le_of_ble_eq_true rfl) dX9_init_18 (fun H locs hP hD hS => ?_)
  have hP : va_P D vwCl [(h, .inr (iM, [.ref q1, .int 0, .ref q2, .int 0, .null, .int 0, .null, .null, .null, .long 0, .null, .null, .null, .null, .int 0, .int 0, .null, .null])), (q1, .inl (K 0, 1920, .inl (fun _ => 0))), (q2, .inl (K 0, 18, .inl (fun _ => 0)))] H := hP
  have hD : va_D A [(h, .inr (iM, [.ref q1, .int 0, .ref q2, .int 0, .null, .int 0, .null, .null, .null, .long 0, .null, .null, .null, .null, .int 0, .int 0, .null, .null])), (q1, .inl (K 0, 1920, .inl (fun _ => 0))), (q2, .inl (K 0, 18, .inl (fun _ => 0)))] := hD
  refine lv_aload_n hx hb dX9_init_21 rfl (lv_at hl 0 rfl) ?_
  refine lv_bipush (v := nI 6) hx hb dX9_init_22 (by decide +kernel) ?_
  refine va_newa (atype := .int) (ty := .int) (N' := 6) (a0 := (6, .inl (fun _ => 0))) hx hb (hts _ (hmc _ k_61)) rfl E.1.1 hP hD hS E.2.2 (fun _ => rfl) (nI_pos (by decide)) (nI_clamp (by decide)) (by decide) (Nat.le_of_ble_eq_true rfl) (Nat.le_of_ble_eq_true rfl) dX9_init_24 (fun q3 cA H hK1 hP hD hS => ?_)
  obtain rfl : cA = K 0 := hRA (hK1.2 (hTy K).length _ rfl).2 (E.1.1.2 0 _ rfl).2
  have hP : va_P D vwCl [(h, .inr (iM, [.ref q1, .int 0, .ref q2, .int 0, .null, .int 0, .null, .null, .null, .long 0, .null, .null, .null, .null, .int 0, .int 0, .null, .null])), (q1, .inl (K 0, 1920, .inl (fun _ => 0))), (q2, .inl (K 0, 18, .inl (fun _ => 0))), (q3, .inl (K 0, 6, .inl (fun _ => 0)))] H := hP
  have hD : va_D A [(h, .inr (iM, [.ref q1, .int 0, .ref q2, .int 0, .null, .int 0, .null, .null, .null, .long 0, .null, .null, .null, .null, .int 0, .int 0, .null, .null])), (q1, .inl (K 0, 1920, .inl (fun _ => 0))), (q2, .inl (K 0, 18, .inl (fun _ => 0))), (q3, .inl (K 0, 6, .inl (fun _ => 0)))] := hD
  refine va_putF (v := .ref q3) (ty := .array .int) (C := RX9) (T := TX9) (N := 18) hx hb hts (hin_X9 hmc) tyX9 tyX9_ok nmX9 hown E.1.1 hP hD hS 0 rfl rfl 4 (by decide) (hts _ (hmc _ k_573)) (fun _ h9 => h9) rfl hin rfl (by decide +kernel) rfl rfl (Nat.le_of_ble_eq_true rfl) dX9_init_26 (fun H locs hP hD hS => ?_)
  have hP : va_P D vwCl [(h, .inr (iM, [.ref q1, .int 0, .ref q2, .int 0, .ref q3, .int 0, .null, .null, .null, .long 0, .null, .null, .null, .null, .int 0, .int 0, .null, .null])), (q1, .inl (K 0, 1920, .inl (fun _ => 0))), (q2, .inl (K 0, 18, .inl (fun _ => 0))), (q3, .inl (K 0, 6, .inl (fun _ => 0)))] H := hP
  have hD : va_D A [(h, .inr (iM, [.ref q1, .int 0, .ref q2, .int 0, .ref q3, .int 0, .null, .null, .null, .long 0, .null, .null, .null, .null, .int 0, .int 0, .null, .null])), (q1, .inl (K 0, 1920, .inl (fun _ => 0))), (q2, .inl (K 0, 18, .inl (fun _ => 0))), (q3, .inl (K 0, 6, .inl (fun _ => 0)))] := hD
  refine lv_aload_n hx hb dX9_init_29 rfl (lv_at hl 0 rfl) ?_
  refine lv_sipush (v := nI 1536) hx hb dX9_init_30 (by decide +kernel) ?_
  refine va_newa (atype := .int) (ty := .int) (N' := 1536) (a0 := (1536, .inl (fun _ => 0))) hx hb (hts _ (hmc _ k_61)) rfl E.1.1 hP hD hS E.2.2 (fun _ => rfl) (nI_pos (by decide)) (nI_clamp (by decide)) (by decide) (Nat.le_of_ble_eq_true rfl) (Nat.le_of_ble_eq_true rfl) dX9_init_33 (fun q4 cA H hK1 hP hD hS => ?_)
  obtain rfl : cA = K 0 := hRA (hK1.2 (hTy K).length _ rfl).2 (E.1.1.2 0 _ rfl).2
  have hP : va_P D vwCl [(h, .inr (iM, [.ref q1, .int 0, .ref q2, .int 0, .ref q3, .int 0, .null, .null, .null, .long 0, .null, .null, .null, .null, .int 0, .int 0, .null, .null])), (q1, .inl (K 0, 1920, .inl (fun _ => 0))), (q2, .inl (K 0, 18, .inl (fun _ => 0))), (q3, .inl (K 0, 6, .inl (fun _ => 0))), (q4, .inl (K 0, 1536, .inl (fun _ => 0)))] H := hP
  have hD : va_D A [(h, .inr (iM, [.ref q1, .int 0, .ref q2, .int 0, .ref q3, .int 0, .null, .null, .null, .long 0, .null, .null, .null, .null, .int 0, .int 0, .null, .null])), (q1, .inl (K 0, 1920, .inl (fun _ => 0))), (q2, .inl (K 0, 18, .inl (fun _ => 0))), (q3, .inl (K 0, 6, .inl (fun _ => 0))), (q4, .inl (K 0, 1536, .inl (fun _ => 0)))] := hD
  refine va_putF (v := .ref q4) (ty := .array .int) (C := RX9) (T := TX9) (N := 18) hx hb hts (hin_X9 hmc) tyX9 tyX9_ok nmX9 hown E.1.1 hP hD hS 0 rfl rfl 6 (by decide) (hts _ (hmc _ k_575)) (fun _ h9 => h9) rfl hin rfl (by decide +kernel) rfl rfl (Nat.le_of_ble_eq_true rfl) dX9_init_35 (fun H locs hP hD hS => ?_)
  have hP : va_P D vwCl [(h, .inr (iM, [.ref q1, .int 0, .ref q2, .int 0, .ref q3, .int 0, .ref q4, .null, .null, .long 0, .null, .null, .null, .null, .int 0, .int 0, .null, .null])), (q1, .inl (K 0, 1920, .inl (fun _ => 0))), (q2, .inl (K 0, 18, .inl (fun _ => 0))), (q3, .inl (K 0, 6, .inl (fun _ => 0))), (q4, .inl (K 0, 1536, .inl (fun _ => 0)))] H := hP
  have hD : va_D A [(h, .inr (iM, [.ref q1, .int 0, .ref q2, .int 0, .ref q3, .int 0, .ref q4, .null, .null, .long 0, .null, .null, .null, .null, .int 0, .int 0, .null, .null])), (q1, .inl (K 0, 1920, .inl (fun _ => 0))), (q2, .inl (K 0, 18, .inl (fun _ => 0))), (q3, .inl (K 0, 6, .inl (fun _ => 0))), (q4, .inl (K 0, 1536, .inl (fun _ => 0)))] := hD
  refine lv_aload_n hx hb dX9_init_38 rfl (lv_at hl 0 rfl) ?_
  refine lv_bipush (v := nI 6) hx hb dX9_init_39 (by decide +kernel) ?_
  refine va_newa (atype := .int) (ty := .int) (N' := 6) (a0 := (6, .inl (fun _ => 0))) hx hb (hts _ (hmc _ k_61)) rfl E.1.1 hP hD hS E.2.2 (fun _ => rfl) (nI_pos (by decide)) (nI_clamp (by decide)) (by decide) (Nat.le_of_ble_eq_true rfl) (Nat.le_of_ble_eq_true rfl) dX9_init_41 (fun q5 cA H hK1 hP hD hS => ?_)
  obtain rfl : cA = K 0 := hRA (hK1.2 (hTy K).length _ rfl).2 (E.1.1.2 0 _ rfl).2
  have hP : va_P D vwCl [(h, .inr (iM, [.ref q1, .int 0, .ref q2, .int 0, .ref q3, .int 0, .ref q4, .null, .null, .long 0, .null, .null, .null, .null, .int 0, .int 0, .null, .null])), (q1, .inl (K 0, 1920, .inl (fun _ => 0))), (q2, .inl (K 0, 18, .inl (fun _ => 0))), (q3, .inl (K 0, 6, .inl (fun _ => 0))), (q4, .inl (K 0, 1536, .inl (fun _ => 0))), (q5, .inl (K 0, 6, .inl (fun _ => 0)))] H := hP
  have hD : va_D A [(h, .inr (iM, [.ref q1, .int 0, .ref q2, .int 0, .ref q3, .int 0, .ref q4, .null, .null, .long 0, .null, .null, .null, .null, .int 0, .int 0, .null, .null])), (q1, .inl (K 0, 1920, .inl (fun _ => 0))), (q2, .inl (K 0, 18, .inl (fun _ => 0))), (q3, .inl (K 0, 6, .inl (fun _ => 0))), (q4, .inl (K 0, 1536, .inl (fun _ => 0))), (q5, .inl (K 0, 6, .inl (fun _ => 0)))] := hD
  refine va_putF (v := .ref q5) (ty := .array .int) (C := RX9) (T := TX9) (N := 18) hx hb hts (hin_X9 hmc) tyX9 tyX9_ok nmX9 hown E.1.1 hP hD hS 0 rfl rfl 7 (by decide) (hts _ (hmc _ k_576)) (fun _ h9 => h9) rfl hin rfl (by decide +kernel) rfl rfl (Nat.le_of_ble_eq_true rfl) dX9_init_43 (fun H locs hP hD hS => ?_)
  have hP : va_P D vwCl [(h, .inr (iM, [.ref q1, .int 0, .ref q2, .int 0, .ref q3, .int 0, .ref q4, .ref q5, .null, .long 0, .null, .null, .null, .null, .int 0, .int 0, .null, .null])), (q1, .inl (K 0, 1920, .inl (fun _ => 0))), (q2, .inl (K 0, 18, .inl (fun _ => 0))), (q3, .inl (K 0, 6, .inl (fun _ => 0))), (q4, .inl (K 0, 1536, .inl (fun _ => 0))), (q5, .inl (K 0, 6, .inl (fun _ => 0)))] H := hP
  have hD : va_D A [(h, .inr (iM, [.ref q1, .int 0, .ref q2, .int 0, .ref q3, .int 0, .ref q4, .ref q5, .null, .long 0, .null, .null, .null, .null, .int 0, .int 0, .null, .null])), (q1, .inl (K 0, 1920, .inl (fun _ => 0))), (q2, .inl (K 0, 18, .inl (fun _ => 0))), (q3, .inl (K 0, 6, .inl (fun _ => 0))), (q4, .inl (K 0, 1536, .inl (fun _ => 0))), (q5, .inl (K 0, 6, .inl (fun _ => 0)))] := hD
  refine lv_aload_n hx hb dX9_init_46 rfl (lv_at hl 0 rfl) ?_
  refine lv_bipush (v := nI 6) hx hb dX9_init_47 (by decide +kernel) ?_
  refine va_newa (atype := .int) (ty := .int) (N' := 6) (a0 := (6, .inl (fun _ => 0))) hx hb (hts _ (hmc _ k_61)) rfl E.1.1 hP hD hS E.2.2 (fun _ => rfl) (nI_pos (by decide)) (nI_clamp (by decide)) (by decide) (Nat.le_of_ble_eq_true rfl) (Nat.le_of_ble_eq_true rfl) dX9_init_49 (fun q6 cA H hK1 hP hD hS => ?_)
  obtain rfl : cA = K 0 := hRA (hK1.2 (hTy K).length _ rfl).2 (E.1.1.2 0 _ rfl).2
  have hP : va_P D vwCl [(h, .inr (iM, [.ref q1, .int 0, .ref q2, .int 0, .ref q3, .int 0, .ref q4, .ref q5, .null, .long 0, .null, .null, .null, .null, .int 0, .int 0, .null, .null])), (q1, .inl (K 0, 1920, .inl (fun _ => 0))), (q2, .inl (K 0, 18, .inl (fun _ => 0))), (q3, .inl (K 0, 6, .inl (fun _ => 0))), (q4, .inl (K 0, 1536, .inl (fun _ => 0))), (q5, .inl (K 0, 6, .inl (fun _ => 0))), (q6, .inl (K 0, 6, .inl (fun _ => 0)))] H := hP
  have hD : va_D A [(h, .inr (iM, [.ref q1, .int 0, .ref q2, .int 0, .ref q3, .int 0, .ref q4, .ref q5, .null, .long 0, .null, .null, .null, .null, .int 0, .int 0, .null, .null])), (q1, .inl (K 0, 1920, .inl (fun _ => 0))), (q2, .inl (K 0, 18, .inl (fun _ => 0))), (q3, .inl (K 0, 6, .inl (fun _ => 0))), (q4, .inl (K 0, 1536, .inl (fun _ => 0))), (q5, .inl (K 0, 6, .inl (fun _ => 0))), (q6, .inl (K 0, 6, .inl (fun _ => 0)))] := hD
  refine va_putF (v := .ref q6) (ty := .array .int) (C := RX9) (T := TX9) (N := 18) hx hb hts (hin_X9 hmc) tyX9 tyX9_ok nmX9 hown E.1.1 hP hD hS 0 rfl rfl 8 (by decide) (hts _ (hmc _ k_577)) (fun _ h9 => h9) rfl hin rfl (by decide +kernel) rfl rfl (Nat.le_of_ble_eq_true rfl) dX9_init_51 (fun H locs hP hD hS => ?_)
  have hP : va_P D vwCl [(h, .inr (iM, [.ref q1, .int 0, .ref q2, .int 0, .ref q3, .int 0, .ref q4, .ref q5, .ref q6, .long 0, .null, .null, .null, .null, .int 0, .int 0, .null, .null])), (q1, .inl (K 0, 1920, .inl (fun _ => 0))), (q2, .inl (K 0, 18, .inl (fun _ => 0))), (q3, .inl (K 0, 6, .inl (fun _ => 0))), (q4, .inl (K 0, 1536, .inl (fun _ => 0))), (q5, .inl (K 0, 6, .inl (fun _ => 0))), (q6, .inl (K 0, 6, .inl (fun _ => 0)))] H := hP
  have hD : va_D A [(h, .inr (iM, [.ref q1, .int 0, .ref q2, .int 0, .ref q3, .int 0, .ref q4, .ref q5, .ref q6, .long 0, .null, .null, .null, .null, .int 0, .int 0, .null, .null])), (q1, .inl (K 0, 1920, .inl (fun _ => 0))), (q2, .inl (K 0, 18, .inl (fun _ => 0))), (q3, .inl (K 0, 6, .inl (fun _ => 0))), (q4, .inl (K 0, 1536, .inl (fun _ => 0))), (q5, .inl (K 0, 6, .inl (fun _ => 0))), (q6, .inl (K 0, 6, .inl (fun _ => 0)))] := hD
  refine lv_aload_n hx hb dX9_init_54 rfl (lv_at hl 0 rfl) ?_
  refine lv_bipush (v := nI 9) hx hb dX9_init_55 (by decide +kernel) ?_
  refine va_newa (atype := .int) (ty := .int) (N' := 9) (a0 := (9, .inl (fun _ => 0))) hx hb (hts _ (hmc _ k_61)) rfl E.1.1 hP hD hS E.2.2 (fun _ => rfl) (nI_pos (by decide)) (nI_clamp (by decide)) (by decide) (Nat.le_of_ble_eq_true rfl) (Nat.le_of_ble_eq_true rfl) dX9_init_57 (fun q7 cA H hK1 hP hD hS => ?_)
  obtain rfl : cA = K 0 := hRA (hK1.2 (hTy K).length _ rfl).2 (E.1.1.2 0 _ rfl).2
  have hP : va_P D vwCl [(h, .inr (iM, [.ref q1, .int 0, .ref q2, .int 0, .ref q3, .int 0, .ref q4, .ref q5, .ref q6, .long 0, .null, .null, .null, .null, .int 0, .int 0, .null, .null])), (q1, .inl (K 0, 1920, .inl (fun _ => 0))), (q2, .inl (K 0, 18, .inl (fun _ => 0))), (q3, .inl (K 0, 6, .inl (fun _ => 0))), (q4, .inl (K 0, 1536, .inl (fun _ => 0))), (q5, .inl (K 0, 6, .inl (fun _ => 0))), (q6, .inl (K 0, 6, .inl (fun _ => 0))), (q7, .inl (K 0, 9, .inl (fun _ => 0)))] H := hP
  have hD : va_D A [(h, .inr (iM, [.ref q1, .int 0, .ref q2, .int 0, .ref q3, .int 0, .ref q4, .ref q5, .ref q6, .long 0, .null, .null, .null, .null, .int 0, .int 0, .null, .null])), (q1, .inl (K 0, 1920, .inl (fun _ => 0))), (q2, .inl (K 0, 18, .inl (fun _ => 0))), (q3, .inl (K 0, 6, .inl (fun _ => 0))), (q4, .inl (K 0, 1536, .inl (fun _ => 0))), (q5, .inl (K 0, 6, .inl (fun _ => 0))), (q6, .inl (K 0, 6, .inl (fun _ => 0))), (q7, .inl (K 0, 9, .inl (fun _ => 0)))] := hD
  refine va_putF (v := .ref q7) (ty := .array .int) (C := RX9) (T := TX9) (N := 18) hx hb hts (hin_X9 hmc) tyX9 tyX9_ok nmX9 hown E.1.1 hP hD hS 0 rfl rfl 10 (by decide) (hts _ (hmc _ k_579)) (fun _ h9 => h9) rfl hin rfl (by decide +kernel) rfl rfl (Nat.le_of_ble_eq_true rfl) dX9_init_59 (fun H locs hP hD hS => ?_)
  have hP : va_P D vwCl [(h, .inr (iM, [.ref q1, .int 0, .ref q2, .int 0, .ref q3, .int 0, .ref q4, .ref q5, .ref q6, .long 0, .ref q7, .null, .null, .null, .int 0, .int 0, .null, .null])), (q1, .inl (K 0, 1920, .inl (fun _ => 0))), (q2, .inl (K 0, 18, .inl (fun _ => 0))), (q3, .inl (K 0, 6, .inl (fun _ => 0))), (q4, .inl (K 0, 1536, .inl (fun _ => 0))), (q5, .inl (K 0, 6, .inl (fun _ => 0))), (q6, .inl (K 0, 6, .inl (fun _ => 0))), (q7, .inl (K 0, 9, .inl (fun _ => 0)))] H := hP
  have hD : va_D A [(h, .inr (iM, [.ref q1, .int 0, .ref q2, .int 0, .ref q3, .int 0, .ref q4, .ref q5, .ref q6, .long 0, .ref q7, .null, .null, .null, .int 0, .int 0, .null, .null])), (q1, .inl (K 0, 1920, .inl (fun _ => 0))), (q2, .inl (K 0, 18, .inl (fun _ => 0))), (q3, .inl (K 0, 6, .inl (fun _ => 0))), (q4, .inl (K 0, 1536, .inl (fun _ => 0))), (q5, .inl (K 0, 6, .inl (fun _ => 0))), (q6, .inl (K 0, 6, .inl (fun _ => 0))), (q7, .inl (K 0, 9, .inl (fun _ => 0)))] := hD
  refine lv_aload_n hx hb dX9_init_62 rfl (lv_at hl 0 rfl) ?_
  refine lv_bipush (v := nI 9) hx hb dX9_init_63 (by decide +kernel) ?_
  refine va_newa (atype := .int) (ty := .int) (N' := 9) (a0 := (9, .inl (fun _ => 0))) hx hb (hts _ (hmc _ k_61)) rfl E.1.1 hP hD hS E.2.2 (fun _ => rfl) (nI_pos (by decide)) (nI_clamp (by decide)) (by decide) (Nat.le_of_ble_eq_true rfl) (Nat.le_of_ble_eq_true rfl) dX9_init_65 (fun q8 cA H hK1 hP hD hS => ?_)
  obtain rfl : cA = K 0 := hRA (hK1.2 (hTy K).length _ rfl).2 (E.1.1.2 0 _ rfl).2
  have hP : va_P D vwCl [(h, .inr (iM, [.ref q1, .int 0, .ref q2, .int 0, .ref q3, .int 0, .ref q4, .ref q5, .ref q6, .long 0, .ref q7, .null, .null, .null, .int 0, .int 0, .null, .null])), (q1, .inl (K 0, 1920, .inl (fun _ => 0))), (q2, .inl (K 0, 18, .inl (fun _ => 0))), (q3, .inl (K 0, 6, .inl (fun _ => 0))), (q4, .inl (K 0, 1536, .inl (fun _ => 0))), (q5, .inl (K 0, 6, .inl (fun _ => 0))), (q6, .inl (K 0, 6, .inl (fun _ => 0))), (q7, .inl (K 0, 9, .inl (fun _ => 0))), (q8, .inl (K 0, 9, .inl (fun _ => 0)))] H := hP
  have hD : va_D A [(h, .inr (iM, [.ref q1, .int 0, .ref q2, .int 0, .ref q3, .int 0, .ref q4, .ref q5, .ref q6, .long 0, .ref q7, .null, .null, .null, .int 0, .int 0, .null, .null])), (q1, .inl (K 0, 1920, .inl (fun _ => 0))), (q2, .inl (K 0, 18, .inl (fun _ => 0))), (q3, .inl (K 0, 6, .inl (fun _ => 0))), (q4, .inl (K 0, 1536, .inl (fun _ => 0))), (q5, .inl (K 0, 6, .inl (fun _ => 0))), (q6, .inl (K 0, 6, .inl (fun _ => 0))), (q7, .inl (K 0, 9, .inl (fun _ => 0))), (q8, .inl (K 0, 9, .inl (fun _ => 0)))] := hD
  refine va_putF (v := .ref q8) (ty := .array .int) (C := RX9) (T := TX9) (N := 18) hx hb hts (hin_X9 hmc) tyX9 tyX9_ok nmX9 hown E.1.1 hP hD hS 0 rfl rfl 11 (by decide) (hts _ (hmc _ k_580)) (fun _ h9 => h9) rfl hin rfl (by decide +kernel) rfl rfl (Nat.le_of_ble_eq_true rfl) dX9_init_67 (fun H locs hP hD hS => ?_)
  have hP : va_P D vwCl [(h, .inr (iM, [.ref q1, .int 0, .ref q2, .int 0, .ref q3, .int 0, .ref q4, .ref q5, .ref q6, .long 0, .ref q7, .ref q8, .null, .null, .int 0, .int 0, .null, .null])), (q1, .inl (K 0, 1920, .inl (fun _ => 0))), (q2, .inl (K 0, 18, .inl (fun _ => 0))), (q3, .inl (K 0, 6, .inl (fun _ => 0))), (q4, .inl (K 0, 1536, .inl (fun _ => 0))), (q5, .inl (K 0, 6, .inl (fun _ => 0))), (q6, .inl (K 0, 6, .inl (fun _ => 0))), (q7, .inl (K 0, 9, .inl (fun _ => 0))), (q8, .inl (K 0, 9, .inl (fun _ => 0)))] H := hP
  have hD : va_D A [(h, .inr (iM, [.ref q1, .int 0, .ref q2, .int 0, .ref q3, .int 0, .ref q4, .ref q5, .ref q6, .long 0, .ref q7, .ref q8, .null, .null, .int 0, .int 0, .null, .null])), (q1, .inl (K 0, 1920, .inl (fun _ => 0))), (q2, .inl (K 0, 18, .inl (fun _ => 0))), (q3, .inl (K 0, 6, .inl (fun _ => 0))), (q4, .inl (K 0, 1536, .inl (fun _ => 0))), (q5, .inl (K 0, 6, .inl (fun _ => 0))), (q6, .inl (K 0, 6, .inl (fun _ => 0))), (q7, .inl (K 0, 9, .inl (fun _ => 0))), (q8, .inl (K 0, 9, .inl (fun _ => 0)))] := hD
  refine lv_aload_n hx hb dX9_init_70 rfl (lv_at hl 0 rfl) ?_
  refine lv_bipush (v := nI 6) hx hb dX9_init_71 (by decide +kernel) ?_
  refine va_newa (atype := .int) (ty := .int) (N' := 6) (a0 := (6, .inl (fun _ => 0))) hx hb (hts _ (hmc _ k_61)) rfl E.1.1 hP hD hS E.2.2 (fun _ => rfl) (nI_pos (by decide)) (nI_clamp (by decide)) (by decide) (Nat.le_of_ble_eq_true rfl) (Nat.le_of_ble_eq_true rfl) dX9_init_73 (fun q9 cA H hK1 hP hD hS => ?_)
  obtain rfl : cA = K 0 := hRA (hK1.2 (hTy K).length _ rfl).2 (E.1.1.2 0 _ rfl).2
  have hP : va_P D vwCl [(h, .inr (iM, [.ref q1, .int 0, .ref q2, .int 0, .ref q3, .int 0, .ref q4, .ref q5, .ref q6, .long 0, .ref q7, .ref q8, .null, .null, .int 0, .int 0, .null, .null])), (q1, .inl (K 0, 1920, .inl (fun _ => 0))), (q2, .inl (K 0, 18, .inl (fun _ => 0))), (q3, .inl (K 0, 6, .inl (fun _ => 0))), (q4, .inl (K 0, 1536, .inl (fun _ => 0))), (q5, .inl (K 0, 6, .inl (fun _ => 0))), (q6, .inl (K 0, 6, .inl (fun _ => 0))), (q7, .inl (K 0, 9, .inl (fun _ => 0))), (q8, .inl (K 0, 9, .inl (fun _ => 0))), (q9, .inl (K 0, 6, .inl (fun _ => 0)))] H := hP
  have hD : va_D A [(h, .inr (iM, [.ref q1, .int 0, .ref q2, .int 0, .ref q3, .int 0, .ref q4, .ref q5, .ref q6, .long 0, .ref q7, .ref q8, .null, .null, .int 0, .int 0, .null, .null])), (q1, .inl (K 0, 1920, .inl (fun _ => 0))), (q2, .inl (K 0, 18, .inl (fun _ => 0))), (q3, .inl (K 0, 6, .inl (fun _ => 0))), (q4, .inl (K 0, 1536, .inl (fun _ => 0))), (q5, .inl (K 0, 6, .inl (fun _ => 0))), (q6, .inl (K 0, 6, .inl (fun _ => 0))), (q7, .inl (K 0, 9, .inl (fun _ => 0))), (q8, .inl (K 0, 9, .inl (fun _ => 0))), (q9, .inl (K 0, 6, .inl (fun _ => 0)))] := hD
  refine va_putF (v := .ref q9) (ty := .array .int) (C := RX9) (T := TX9) (N := 18) hx hb hts (hin_X9 hmc) tyX9 tyX9_ok nmX9 hown E.1.1 hP hD hS 0 rfl rfl 12 (by decide) (hts _ (hmc _ k_581)) (fun _ h9 => h9) rfl hin rfl (by decide +kernel) rfl rfl (Nat.le_of_ble_eq_true rfl) dX9_init_75 (fun H locs hP hD hS => ?_)
  have hP : va_P D vwCl [(h, .inr (iM, [.ref q1, .int 0, .ref q2, .int 0, .ref q3, .int 0, .ref q4, .ref q5, .ref q6, .long 0, .ref q7, .ref q8, .ref q9, .null, .int 0, .int 0, .null, .null])), (q1, .inl (K 0, 1920, .inl (fun _ => 0))), (q2, .inl (K 0, 18, .inl (fun _ => 0))), (q3, .inl (K 0, 6, .inl (fun _ => 0))), (q4, .inl (K 0, 1536, .inl (fun _ => 0))), (q5, .inl (K 0, 6, .inl (fun _ => 0))), (q6, .inl (K 0, 6, .inl (fun _ => 0))), (q7, .inl (K 0, 9, .inl (fun _ => 0))), (q8, .inl (K 0, 9, .inl (fun _ => 0))), (q9, .inl (K 0, 6, .inl (fun _ => 0)))] H := hP
  have hD : va_D A [(h, .inr (iM, [.ref q1, .int 0, .ref q2, .int 0, .ref q3, .int 0, .ref q4, .ref q5, .ref q6, .long 0, .ref q7, .ref q8, .ref q9, .null, .int 0, .int 0, .null, .null])), (q1, .inl (K 0, 1920, .inl (fun _ => 0))), (q2, .inl (K 0, 18, .inl (fun _ => 0))), (q3, .inl (K 0, 6, .inl (fun _ => 0))), (q4, .inl (K 0, 1536, .inl (fun _ => 0))), (q5, .inl (K 0, 6, .inl (fun _ => 0))), (q6, .inl (K 0, 6, .inl (fun _ => 0))), (q7, .inl (K 0, 9, .inl (fun _ => 0))), (q8, .inl (K 0, 9, .inl (fun _ => 0))), (q9, .inl (K 0, 6, .inl (fun _ => 0)))] := hD
  refine lv_aload_n hx hb dX9_init_78 rfl (lv_at hl 0 rfl) ?_
  refine lv_ldc (v := 160000) hx hb hown (hts _ (hmc _ k_568)) dX9_init_79 ?_
  refine htopi (v := nI 160000) (by decide +kernel) ?_
  refine va_newa (atype := .int) (ty := .int) (N' := 160000) (a0 := (160000, .inl (fun _ => 0))) hx hb (hts _ (hmc _ k_61)) rfl E.1.1 hP hD hS E.2.2 (fun _ => rfl) (nI_pos (by decide)) (nI_clamp (by decide)) (by decide) (Nat.le_of_ble_eq_true rfl) (Nat.le_of_ble_eq_true rfl) dX9_init_81 (fun q10 cA H hK1 hP hD hS => ?_)
  obtain rfl : cA = K 0 := hRA (hK1.2 (hTy K).length _ rfl).2 (E.1.1.2 0 _ rfl).2
  have hP : va_P D vwCl [(h, .inr (iM, [.ref q1, .int 0, .ref q2, .int 0, .ref q3, .int 0, .ref q4, .ref q5, .ref q6, .long 0, .ref q7, .ref q8, .ref q9, .null, .int 0, .int 0, .null, .null])), (q1, .inl (K 0, 1920, .inl (fun _ => 0))), (q2, .inl (K 0, 18, .inl (fun _ => 0))), (q3, .inl (K 0, 6, .inl (fun _ => 0))), (q4, .inl (K 0, 1536, .inl (fun _ => 0))), (q5, .inl (K 0, 6, .inl (fun _ => 0))), (q6, .inl (K 0, 6, .inl (fun _ => 0))), (q7, .inl (K 0, 9, .inl (fun _ => 0))), (q8, .inl (K 0, 9, .inl (fun _ => 0))), (q9, .inl (K 0, 6, .inl (fun _ => 0))), (q10, .inl (K 0, 160000, .inl (fun _ => 0)))] H := hP
  have hD : va_D A [(h, .inr (iM, [.ref q1, .int 0, .ref q2, .int 0, .ref q3, .int 0, .ref q4, .ref q5, .ref q6, .long 0, .ref q7, .ref q8, .ref q9, .null, .int 0, .int 0, .null, .null])), (q1, .inl (K 0, 1920, .inl (fun _ => 0))), (q2, .inl (K 0, 18, .inl (fun _ => 0))), (q3, .inl (K 0, 6, .inl (fun _ => 0))), (q4, .inl (K 0, 1536, .inl (fun _ => 0))), (q5, .inl (K 0, 6, .inl (fun _ => 0))), (q6, .inl (K 0, 6, .inl (fun _ => 0))), (q7, .inl (K 0, 9, .inl (fun _ => 0))), (q8, .inl (K 0, 9, .inl (fun _ => 0))), (q9, .inl (K 0, 6, .inl (fun _ => 0))), (q10, .inl (K 0, 160000, .inl (fun _ => 0)))] := hD
  refine va_putF (v := .ref q10) (ty := .array .int) (C := RX9) (T := TX9) (N := 18) hx hb hts (hin_X9 hmc) tyX9 tyX9_ok nmX9 hown E.1.1 hP hD hS 0 rfl rfl 13 (by decide) (hts _ (hmc _ k_582)) (fun _ h9 => h9) rfl hin rfl (by decide +kernel) rfl rfl (Nat.le_of_ble_eq_true rfl) dX9_init_83 (fun H locs hP hD hS => ?_)
  have hP : va_P D vwCl [(h, .inr (iM, [.ref q1, .int 0, .ref q2, .int 0, .ref q3, .int 0, .ref q4, .ref q5, .ref q6, .long 0, .ref q7, .ref q8, .ref q9, .ref q10, .int 0, .int 0, .null, .null])), (q1, .inl (K 0, 1920, .inl (fun _ => 0))), (q2, .inl (K 0, 18, .inl (fun _ => 0))), (q3, .inl (K 0, 6, .inl (fun _ => 0))), (q4, .inl (K 0, 1536, .inl (fun _ => 0))), (q5, .inl (K 0, 6, .inl (fun _ => 0))), (q6, .inl (K 0, 6, .inl (fun _ => 0))), (q7, .inl (K 0, 9, .inl (fun _ => 0))), (q8, .inl (K 0, 9, .inl (fun _ => 0))), (q9, .inl (K 0, 6, .inl (fun _ => 0))), (q10, .inl (K 0, 160000, .inl (fun _ => 0)))] H := hP
  have hD : va_D A [(h, .inr (iM, [.ref q1, .int 0, .ref q2, .int 0, .ref q3, .int 0, .ref q4, .ref q5, .ref q6, .long 0, .ref q7, .ref q8, .ref q9, .ref q10, .int 0, .int 0, .null, .null])), (q1, .inl (K 0, 1920, .inl (fun _ => 0))), (q2, .inl (K 0, 18, .inl (fun _ => 0))), (q3, .inl (K 0, 6, .inl (fun _ => 0))), (q4, .inl (K 0, 1536, .inl (fun _ => 0))), (q5, .inl (K 0, 6, .inl (fun _ => 0))), (q6, .inl (K 0, 6, .inl (fun _ => 0))), (q7, .inl (K 0, 9, .inl (fun _ => 0))), (q8, .inl (K 0, 9, .inl (fun _ => 0))), (q9, .inl (K 0, 6, .inl (fun _ => 0))), (q10, .inl (K 0, 160000, .inl (fun _ => 0)))] := hD
  refine lv_aload_n hx hb dX9_init_86 rfl (lv_at hl 0 rfl) ?_
  refine lv_bipush (v := (-2)) hx hb dX9_init_87 (by decide +kernel) ?_
  refine va_put (v := .int (-2)) (ty := .int) (C := RX9) (T := TX9) (N := 18) hx hb hts (hin_X9 hmc) tyX9 tyX9_ok nmX9 hown E.1.1 hP hD hS 0 rfl rfl 15 (by decide) (hts _ (hmc _ k_584)) (fun _ h9 => h9) rfl (by decide +kernel) rfl rfl (Nat.le_of_ble_eq_true rfl) dX9_init_89 (fun H locs hP hD hS => ?_)
  have hP : va_P D vwCl [(h, .inr (iM, [.ref q1, .int 0, .ref q2, .int 0, .ref q3, .int 0, .ref q4, .ref q5, .ref q6, .long 0, .ref q7, .ref q8, .ref q9, .ref q10, .int 0, .int (-2), .null, .null])), (q1, .inl (K 0, 1920, .inl (fun _ => 0))), (q2, .inl (K 0, 18, .inl (fun _ => 0))), (q3, .inl (K 0, 6, .inl (fun _ => 0))), (q4, .inl (K 0, 1536, .inl (fun _ => 0))), (q5, .inl (K 0, 6, .inl (fun _ => 0))), (q6, .inl (K 0, 6, .inl (fun _ => 0))), (q7, .inl (K 0, 9, .inl (fun _ => 0))), (q8, .inl (K 0, 9, .inl (fun _ => 0))), (q9, .inl (K 0, 6, .inl (fun _ => 0))), (q10, .inl (K 0, 160000, .inl (fun _ => 0)))] H := hP
  have hD : va_D A [(h, .inr (iM, [.ref q1, .int 0, .ref q2, .int 0, .ref q3, .int 0, .ref q4, .ref q5, .ref q6, .long 0, .ref q7, .ref q8, .ref q9, .ref q10, .int 0, .int (-2), .null, .null])), (q1, .inl (K 0, 1920, .inl (fun _ => 0))), (q2, .inl (K 0, 18, .inl (fun _ => 0))), (q3, .inl (K 0, 6, .inl (fun _ => 0))), (q4, .inl (K 0, 1536, .inl (fun _ => 0))), (q5, .inl (K 0, 6, .inl (fun _ => 0))), (q6, .inl (K 0, 6, .inl (fun _ => 0))), (q7, .inl (K 0, 9, .inl (fun _ => 0))), (q8, .inl (K 0, 9, .inl (fun _ => 0))), (q9, .inl (K 0, 6, .inl (fun _ => 0))), (q10, .inl (K 0, 160000, .inl (fun _ => 0)))] := hD
  refine lv_aload_n hx hb dX9_init_92 rfl (lv_at hl 0 rfl) ?_
  refine lv_sipush (v := nI 20000) hx hb dX9_init_93 (by decide +kernel) ?_
  refine va_newa (atype := .int) (ty := .int) (N' := 20000) (a0 := (20000, .inl (fun _ => 0))) hx hb (hts _ (hmc _ k_61)) rfl E.1.1 hP hD hS E.2.2 (fun _ => rfl) (nI_pos (by decide)) (nI_clamp (by decide)) (by decide) (Nat.le_of_ble_eq_true rfl) (Nat.le_of_ble_eq_true rfl) dX9_init_96 (fun q11 cA H hK1 hP hD hS => ?_)
  obtain rfl : cA = K 0 := hRA (hK1.2 (hTy K).length _ rfl).2 (E.1.1.2 0 _ rfl).2
  have hP : va_P D vwCl [(h, .inr (iM, [.ref q1, .int 0, .ref q2, .int 0, .ref q3, .int 0, .ref q4, .ref q5, .ref q6, .long 0, .ref q7, .ref q8, .ref q9, .ref q10, .int 0, .int (-2), .null, .null])), (q1, .inl (K 0, 1920, .inl (fun _ => 0))), (q2, .inl (K 0, 18, .inl (fun _ => 0))), (q3, .inl (K 0, 6, .inl (fun _ => 0))), (q4, .inl (K 0, 1536, .inl (fun _ => 0))), (q5, .inl (K 0, 6, .inl (fun _ => 0))), (q6, .inl (K 0, 6, .inl (fun _ => 0))), (q7, .inl (K 0, 9, .inl (fun _ => 0))), (q8, .inl (K 0, 9, .inl (fun _ => 0))), (q9, .inl (K 0, 6, .inl (fun _ => 0))), (q10, .inl (K 0, 160000, .inl (fun _ => 0))), (q11, .inl (K 0, 20000, .inl (fun _ => 0)))] H := hP
  have hD : va_D A [(h, .inr (iM, [.ref q1, .int 0, .ref q2, .int 0, .ref q3, .int 0, .ref q4, .ref q5, .ref q6, .long 0, .ref q7, .ref q8, .ref q9, .ref q10, .int 0, .int (-2), .null, .null])), (q1, .inl (K 0, 1920, .inl (fun _ => 0))), (q2, .inl (K 0, 18, .inl (fun _ => 0))), (q3, .inl (K 0, 6, .inl (fun _ => 0))), (q4, .inl (K 0, 1536, .inl (fun _ => 0))), (q5, .inl (K 0, 6, .inl (fun _ => 0))), (q6, .inl (K 0, 6, .inl (fun _ => 0))), (q7, .inl (K 0, 9, .inl (fun _ => 0))), (q8, .inl (K 0, 9, .inl (fun _ => 0))), (q9, .inl (K 0, 6, .inl (fun _ => 0))), (q10, .inl (K 0, 160000, .inl (fun _ => 0))), (q11, .inl (K 0, 20000, .inl (fun _ => 0)))] := hD
  refine va_putF (v := .ref q11) (ty := .array .int) (C := RX9) (T := TX9) (N := 18) hx hb hts (hin_X9 hmc) tyX9 tyX9_ok nmX9 hown E.1.1 hP hD hS 0 rfl rfl 16 (by decide) (hts _ (hmc _ k_585)) (fun _ h9 => h9) rfl hin rfl (by decide +kernel) rfl rfl (Nat.le_of_ble_eq_true rfl) dX9_init_98 (fun H locs hP hD hS => ?_)
  have hP : va_P D vwCl [(h, .inr (iM, [.ref q1, .int 0, .ref q2, .int 0, .ref q3, .int 0, .ref q4, .ref q5, .ref q6, .long 0, .ref q7, .ref q8, .ref q9, .ref q10, .int 0, .int (-2), .ref q11, .null])), (q1, .inl (K 0, 1920, .inl (fun _ => 0))), (q2, .inl (K 0, 18, .inl (fun _ => 0))), (q3, .inl (K 0, 6, .inl (fun _ => 0))), (q4, .inl (K 0, 1536, .inl (fun _ => 0))), (q5, .inl (K 0, 6, .inl (fun _ => 0))), (q6, .inl (K 0, 6, .inl (fun _ => 0))), (q7, .inl (K 0, 9, .inl (fun _ => 0))), (q8, .inl (K 0, 9, .inl (fun _ => 0))), (q9, .inl (K 0, 6, .inl (fun _ => 0))), (q10, .inl (K 0, 160000, .inl (fun _ => 0))), (q11, .inl (K 0, 20000, .inl (fun _ => 0)))] H := hP
  have hD : va_D A [(h, .inr (iM, [.ref q1, .int 0, .ref q2, .int 0, .ref q3, .int 0, .ref q4, .ref q5, .ref q6, .long 0, .ref q7, .ref q8, .ref q9, .ref q10, .int 0, .int (-2), .ref q11, .null])), (q1, .inl (K 0, 1920, .inl (fun _ => 0))), (q2, .inl (K 0, 18, .inl (fun _ => 0))), (q3, .inl (K 0, 6, .inl (fun _ => 0))), (q4, .inl (K 0, 1536, .inl (fun _ => 0))), (q5, .inl (K 0, 6, .inl (fun _ => 0))), (q6, .inl (K 0, 6, .inl (fun _ => 0))), (q7, .inl (K 0, 9, .inl (fun _ => 0))), (q8, .inl (K 0, 9, .inl (fun _ => 0))), (q9, .inl (K 0, 6, .inl (fun _ => 0))), (q10, .inl (K 0, 160000, .inl (fun _ => 0))), (q11, .inl (K 0, 20000, .inl (fun _ => 0)))] := hD
  refine lv_aload_n hx hb dX9_init_101 rfl (lv_at hl 0 rfl) ?_
  refine lv_sipush (v := nI 20000) hx hb dX9_init_102 (by decide +kernel) ?_
  refine va_newa (atype := .int) (ty := .int) (N' := 20000) (a0 := (20000, .inl (fun _ => 0))) hx hb (hts _ (hmc _ k_61)) rfl E.1.1 hP hD hS E.2.2 (fun _ => rfl) (nI_pos (by decide)) (nI_clamp (by decide)) (by decide) (Nat.le_of_ble_eq_true rfl) (Nat.le_of_ble_eq_true rfl) dX9_init_105 (fun q12 cA H hK1 hP hD hS => ?_)
  obtain rfl : cA = K 0 := hRA (hK1.2 (hTy K).length _ rfl).2 (E.1.1.2 0 _ rfl).2
  have hP : va_P D vwCl [(h, .inr (iM, [.ref q1, .int 0, .ref q2, .int 0, .ref q3, .int 0, .ref q4, .ref q5, .ref q6, .long 0, .ref q7, .ref q8, .ref q9, .ref q10, .int 0, .int (-2), .ref q11, .null])), (q1, .inl (K 0, 1920, .inl (fun _ => 0))), (q2, .inl (K 0, 18, .inl (fun _ => 0))), (q3, .inl (K 0, 6, .inl (fun _ => 0))), (q4, .inl (K 0, 1536, .inl (fun _ => 0))), (q5, .inl (K 0, 6, .inl (fun _ => 0))), (q6, .inl (K 0, 6, .inl (fun _ => 0))), (q7, .inl (K 0, 9, .inl (fun _ => 0))), (q8, .inl (K 0, 9, .inl (fun _ => 0))), (q9, .inl (K 0, 6, .inl (fun _ => 0))), (q10, .inl (K 0, 160000, .inl (fun _ => 0))), (q11, .inl (K 0, 20000, .inl (fun _ => 0))), (q12, .inl (K 0, 20000, .inl (fun _ => 0)))] H := hP
  have hD : va_D A [(h, .inr (iM, [.ref q1, .int 0, .ref q2, .int 0, .ref q3, .int 0, .ref q4, .ref q5, .ref q6, .long 0, .ref q7, .ref q8, .ref q9, .ref q10, .int 0, .int (-2), .ref q11, .null])), (q1, .inl (K 0, 1920, .inl (fun _ => 0))), (q2, .inl (K 0, 18, .inl (fun _ => 0))), (q3, .inl (K 0, 6, .inl (fun _ => 0))), (q4, .inl (K 0, 1536, .inl (fun _ => 0))), (q5, .inl (K 0, 6, .inl (fun _ => 0))), (q6, .inl (K 0, 6, .inl (fun _ => 0))), (q7, .inl (K 0, 9, .inl (fun _ => 0))), (q8, .inl (K 0, 9, .inl (fun _ => 0))), (q9, .inl (K 0, 6, .inl (fun _ => 0))), (q10, .inl (K 0, 160000, .inl (fun _ => 0))), (q11, .inl (K 0, 20000, .inl (fun _ => 0))), (q12, .inl (K 0, 20000, .inl (fun _ => 0)))] := hD
  refine va_putF (v := .ref q12) (ty := .array .int) (C := RX9) (T := TX9) (N := 18) hx hb hts (hin_X9 hmc) tyX9 tyX9_ok nmX9 hown E.1.1 hP hD hS 0 rfl rfl 17 (by decide) (hts _ (hmc _ k_586)) (fun _ h9 => h9) rfl hin rfl (by decide +kernel) rfl rfl (Nat.le_of_ble_eq_true rfl) dX9_init_107 (fun H locs hP hD hS => ?_)
  have hP : va_P D vwCl [(h, .inr (iM, [.ref q1, .int 0, .ref q2, .int 0, .ref q3, .int 0, .ref q4, .ref q5, .ref q6, .long 0, .ref q7, .ref q8, .ref q9, .ref q10, .int 0, .int (-2), .ref q11, .ref q12])), (q1, .inl (K 0, 1920, .inl (fun _ => 0))), (q2, .inl (K 0, 18, .inl (fun _ => 0))), (q3, .inl (K 0, 6, .inl (fun _ => 0))), (q4, .inl (K 0, 1536, .inl (fun _ => 0))), (q5, .inl (K 0, 6, .inl (fun _ => 0))), (q6, .inl (K 0, 6, .inl (fun _ => 0))), (q7, .inl (K 0, 9, .inl (fun _ => 0))), (q8, .inl (K 0, 9, .inl (fun _ => 0))), (q9, .inl (K 0, 6, .inl (fun _ => 0))), (q10, .inl (K 0, 160000, .inl (fun _ => 0))), (q11, .inl (K 0, 20000, .inl (fun _ => 0))), (q12, .inl (K 0, 20000, .inl (fun _ => 0)))] H := hP
  have hD : va_D A [(h, .inr (iM, [.ref q1, .int 0, .ref q2, .int 0, .ref q3, .int 0, .ref q4, .ref q5, .ref q6, .long 0, .ref q7, .ref q8, .ref q9, .ref q10, .int 0, .int (-2), .ref q11, .ref q12])), (q1, .inl (K 0, 1920, .inl (fun _ => 0))), (q2, .inl (K 0, 18, .inl (fun _ => 0))), (q3, .inl (K 0, 6, .inl (fun _ => 0))), (q4, .inl (K 0, 1536, .inl (fun _ => 0))), (q5, .inl (K 0, 6, .inl (fun _ => 0))), (q6, .inl (K 0, 6, .inl (fun _ => 0))), (q7, .inl (K 0, 9, .inl (fun _ => 0))), (q8, .inl (K 0, 9, .inl (fun _ => 0))), (q9, .inl (K 0, 6, .inl (fun _ => 0))), (q10, .inl (K 0, 160000, .inl (fun _ => 0))), (q11, .inl (K 0, 20000, .inl (fun _ => 0))), (q12, .inl (K 0, 20000, .inl (fun _ => 0)))] := hD
  subst hAe
  exact W.vret hx hb hr (fun t ht _ => ⟨⟨_, rfl, ⟨fun k => [h, q1, q2, q3, q4, q5, q6, q7, q8, q9, q10, q11, q12].getD k 0, rfl, ⟨rfl, ⟨_, rfl⟩, ⟨_, rfl⟩, ⟨_, rfl⟩, ⟨_, rfl⟩, ⟨_, rfl⟩, ⟨_, rfl⟩, ⟨_, rfl⟩, ⟨_, rfl, fun _ => rfl⟩, ⟨_, rfl⟩, ⟨_, rfl⟩, ⟨_, rfl, rfl⟩, ⟨_, rfl, rfl⟩⟩⟩, by rw [ht]; exact hP, hD⟩, hS.F ht⟩) hS.2.2 dX9_init_110


set_option maxHeartbeats 4000000 in
set_option maxRecDepth 100000 in
/-- the reference: isNumber -/
theorem c_X9_isNumber (l : Launch) (x : Int32) : hSi l yX9_isNumber cX9_isNumber 1 (some .boolean) ({ frames := 0, cells := 0, slots := 0, locals := 0 }) [.int x] (fun r => hBool r (hOkN x)) := by
  refine Met.ofW (cc := cX9_isNumber) (maxL := 1) (ret := (some .boolean)) (by decide) rfl ?_
  intro p e s m args below meth c s₁ B hml hv0
  obtain ⟨rfl, -⟩ := hv0
  have hx := B.exec
  have hb := B.bytes
  have hr := B.returns
  have hts := atoms_spec (ws := hC yX9_isNumber cX9_isNumber 1 (some .boolean)) B.pre
  have hown : s.vm.findClass RX9 = some m.cls := findClass_of_methodNamed B.named
  have hlocks := B.notSynchronized
  have hl := lv_entry ([.int x]) (n := 1) (Nat.le_of_ble_eq_true rfl)
  rw [lg_entry_eq]
  generalize (lg_sl ([.int x]) ++ List.replicate (1 - (lg_sl ([.int x])).length) Slot.unset).toArray = ls at hl ⊢
  have hl : lv_has ls 1 [(0, .int x)] := hl
  refine lv_iload_n hx hb dX9_isNumber_0 rfl (lv_at hl 0 rfl) ?_
  refine lv_if_lt (tgt := 14) hx hb dX9_isNumber_1 (by decide) (fun c1 => ?_) (fun c1 => ?_)
  · refine lv_iconst (v := nI 0) hx hb dX9_isNumber_14 (by decide +kernel) ?_
    exact W.zret (v := nI 0) hx hb hr (by decide +kernel) (fun t ht _ => ⟨nI 0, rfl, hBool.no (hOkN_neg3 (Or.inl c1)), ht⟩) (fun _ h => by cases h) dX9_isNumber_15
  · refine lv_iload_n hx hb dX9_isNumber_4 rfl (lv_at hl 0 rfl) ?_
    refine lv_bipush (v := nI 63) hx hb dX9_isNumber_5 (by decide +kernel) ?_
    refine lv_icmp_gt (tgt := 14) hx hb dX9_isNumber_7 (by decide) (fun c2 => ?_) (fun c2 => ?_)
    · refine lv_iconst (v := nI 0) hx hb dX9_isNumber_14 (by decide +kernel) ?_
      exact W.zret (v := nI 0) hx hb hr (by decide +kernel) (fun t ht _ => ⟨nI 0, rfl, hBool.no (hOkN_neg3 (Or.inr c2)), ht⟩) (fun _ h => by cases h) dX9_isNumber_15
    · refine lv_iconst (v := nI 1) hx hb dX9_isNumber_10 (by decide +kernel) ?_
      refine lv_goto (tgt := 15) hx hb dX9_isNumber_11 (by decide) ?_
      exact W.zret (v := nI 1) hx hb hr (by decide +kernel) (fun t ht _ => ⟨nI 1, rfl, hBool.yes (hOkN_pos3 c1 c2), ht⟩) (fun _ h => by cases h) dX9_isNumber_15


set_option maxHeartbeats 4000000 in
set_option maxRecDepth 100000 in
/-- the reference: isItem -/
theorem c_X9_isItem (l : Launch) (x : Int32) : hSi l yX9_isItem cX9_isItem 1 (some .boolean) ({ frames := 0, cells := 0, slots := 0, locals := 0 }) [.int x] (fun r => hBool r (hOkN x ∨ hOkV x)) := by
  refine Met.ofW (cc := cX9_isItem) (maxL := 1) (ret := (some .boolean)) (by decide) rfl ?_
  intro p e s m args below meth c s₁ B hml hv0
  obtain ⟨rfl, -⟩ := hv0
  have hx := B.exec
  have hb := B.bytes
  have hr := B.returns
  have hts := atoms_spec (ws := hC yX9_isItem cX9_isItem 1 (some .boolean)) B.pre
  have hown : s.vm.findClass RX9 = some m.cls := findClass_of_methodNamed B.named
  have hlocks := B.notSynchronized
  have hl := lv_entry ([.int x]) (n := 1) (Nat.le_of_ble_eq_true rfl)
  rw [lg_entry_eq]
  generalize (lg_sl ([.int x]) ++ List.replicate (1 - (lg_sl ([.int x])).length) Slot.unset).toArray = ls at hl ⊢
  have hl : lv_has ls 1 [(0, .int x)] := hl
  refine lv_iload_n hx hb dX9_isItem_0 rfl (lv_at hl 0 rfl) ?_
  refine lv_bipush (v := (-8)) hx hb dX9_isItem_1 (by decide +kernel) ?_
  refine lv_icmp_lt (tgt := 16) hx hb dX9_isItem_3 (by decide) (fun c1 => ?_) (fun c1 => ?_)
  · refine lv_iconst (v := nI 0) hx hb dX9_isItem_16 (by decide +kernel) ?_
    exact W.zret (v := nI 0) hx hb hr (by decide +kernel) (fun t ht _ => ⟨nI 0, rfl, hBool.no (hOkI_neg (Or.inl c1)), ht⟩) (fun _ h => by cases h) dX9_isItem_17
  · refine lv_iload_n hx hb dX9_isItem_6 rfl (lv_at hl 0 rfl) ?_
    refine lv_bipush (v := nI 63) hx hb dX9_isItem_7 (by decide +kernel) ?_
    refine lv_icmp_gt (tgt := 16) hx hb dX9_isItem_9 (by decide) (fun c2 => ?_) (fun c2 => ?_)
    · refine lv_iconst (v := nI 0) hx hb dX9_isItem_16 (by decide +kernel) ?_
      exact W.zret (v := nI 0) hx hb hr (by decide +kernel) (fun t ht _ => ⟨nI 0, rfl, hBool.no (hOkI_neg (Or.inr c2)), ht⟩) (fun _ h => by cases h) dX9_isItem_17
    · refine lv_iconst (v := nI 1) hx hb dX9_isItem_12 (by decide +kernel) ?_
      refine lv_goto (tgt := 17) hx hb dX9_isItem_13 (by decide) ?_
      exact W.zret (v := nI 1) hx hb hr (by decide +kernel) (fun t ht _ => ⟨nI 1, rfl, hBool.yes (hOkI_pos c1 c2), ht⟩) (fun _ h => by cases h) dX9_isItem_17


set_option maxHeartbeats 4000000 in
set_option maxRecDepth 100000 in
/-- the reference, fresh: find -/
theorem c_X9_find (l : Launch) (D : va_G) (K : Nat → ClassId) (tv : Nat) (ws : va_W) (ad : Nat → Nat) (hm : hMs K ad ws 0 0 (-2)) (x y z : Int32) : hI l D (hTy K) tv yX9_find cX9_find 5 (some .int) ({ frames := 0, cells := 0, slots := 0, locals := 0 }) [.ref (ad 0), .int x, .int y, .int z] ws (fun r ws1 => ws = ws1 ∧ r = (-1)) := by
  intro sz
  refine Met.ofW (cc := cX9_find) (maxL := 5) (ret := (some .int)) (by decide) rfl ?_
  intro p e s m args below meth c s₁ B hml hv0
  obtain ⟨rfl, rfl, E, hP, hD⟩ := hentry hv0
  have hx := B.exec
  have hb := B.bytes
  have hr := B.returns
  have hts := atoms_spec (ws := hC yX9_find cX9_find 5 (some .int)) B.pre
  have hown : s.vm.findClass RX9 = some m.cls := findClass_of_methodNamed B.named
  have hlocks := B.notSynchronized
  generalize hAe : va_A ws s.heap.size = A at hD E ⊢
  have hl := lv_entry ([.ref (ad 0), .int x, .int y, .int z]) (n := 5) (Nat.le_of_ble_eq_true rfl)
  rw [lg_entry_eq]
  generalize (lg_sl ([.ref (ad 0), .int x, .int y, .int z]) ++ List.replicate (5 - (lg_sl ([.ref (ad 0), .int x, .int y, .int z])).length) Slot.unset).toArray = ls at hl ⊢
  have hl : lv_has ls 5 [(0, .ref (ad 0)), (1, .int x), (2, .int y), (3, .int z)] := hl
  refine hat0 (fun H hHe => ?_)
  have hP : va_P D vwCl ws H := by rw [hHe]; exact hP
  have hS : va_S A s.heap H [] := by rw [hHe]; exact va_S.rf
  obtain ⟨g0, ⟨f1, g1⟩, ⟨f2, g2⟩, ⟨f3, g3⟩, ⟨f4, g4⟩, ⟨f5, g5⟩, ⟨f6, g6⟩, ⟨f7, g7⟩, ⟨f8, g8, z8⟩, ⟨f9, g9⟩, ⟨f10, g10⟩, ⟨f11, g11, z11⟩, ⟨f12, g12, z12⟩⟩ := id hm
  refine lv_iconst (v := nI 0) hx hb dX9_find_0 (by decide +kernel) ?_
  refine lv_istore (lv' := [(4, .int (nI 0)), (0, .ref (ad 0)), (1, .int x), (2, .int y), (3, .int z)]) hx hb dX9_find_1 hl (by decide) rfl (fun ls hl => ?_)
  refine lv_iload hx hb dX9_find_3 (lv_at hl 0 rfl) ?_
  refine lv_aload_n hx hb dX9_find_5 rfl (lv_at hl 1 rfl) ?_
  refine va_get (v := .int (nI 0)) (C := RX9) (T := TX9) (N := 18) hx hb hts (hin_X9 hmc) hown E.1.1 hP 0 g0 rfl 1 (by decide) (hts _ (hmc _ k_570)) (fun _ h9 => h9) rfl dX9_find_6 ?_
  refine lv_icmp_ge (tgt := 64) hx hb dX9_find_9 (by decide) (fun c1 => ?_) (fun c1 => ?_)
  · refine lv_iconst (v := (-1)) hx hb dX9_find_64 (by decide +kernel) ?_
    subst hAe
    exact W.iret (v := (-1)) hx hb hr (fun t ht _ => ⟨⟨(-1), ws, rfl, ⟨rfl, rfl⟩, by rw [ht]; exact hP, hD⟩, hS.F ht⟩) hS.2.2 dX9_find_65
  · first | exact absurd c1 (by decide +kernel) | exact absurd (by decide +kernel) c1


set_option maxHeartbeats 4000000 in
set_option maxRecDepth 100000 in
/-- the reference, fresh: insert -/
theorem c_X9_insert (l : Launch) (D : va_G) (K : Nat → ClassId) (tv : Nat) (ws : va_W) (ad : Nat → Nat) (hm : hMs K ad ws 0 0 (-2)) (x y z : Int32) : hI l D (hTy K) tv yX9_insert cX9_insert 4 (some .int) ({ frames := 1, cells := 0, slots := 0, locals := 60 }) [.ref (ad 0), .int x, .int y, .int z] ws (fun r _ => r = if hOkN x ∧ hOkN y ∧ hOkN z then nI 1 else (-1)) := by
  intro sz
  refine Met.ofW (cc := cX9_insert) (maxL := 4) (ret := (some .int)) (by decide) rfl ?_
  intro p e s m args below meth c s₁ B hml hv0
  obtain ⟨rfl, rfl, E, hP, hD⟩ := hentry hv0
  have hx := B.exec
  have hb := B.bytes
  have hr := B.returns
  have hts := atoms_spec (ws := hC yX9_insert cX9_insert 4 (some .int)) B.pre
  have hown : s.vm.findClass RX9 = some m.cls := findClass_of_methodNamed B.named
  have hlocks := B.notSynchronized
  generalize hAe : va_A ws s.heap.size = A at hD E ⊢
  have hl := lv_entry ([.ref (ad 0), .int x, .int y, .int z]) (n := 4) (Nat.le_of_ble_eq_true rfl)
  rw [lg_entry_eq]
  generalize (lg_sl ([.ref (ad 0), .int x, .int y, .int z]) ++ List.replicate (4 - (lg_sl ([.ref (ad 0), .int x, .int y, .int z])).length) Slot.unset).toArray = ls at hl ⊢
  have hl : lv_has ls 4 [(0, .ref (ad 0)), (1, .int x), (2, .int y), (3, .int z)] := hl
  refine hat0 (fun H hHe => ?_)
  have hP : va_P D vwCl ws H := by rw [hHe]; exact hP
  have hS : va_S A s.heap H [] := by rw [hHe]; exact va_S.rf
  obtain ⟨g0, ⟨f1, g1⟩, ⟨f2, g2⟩, ⟨f3, g3⟩, ⟨f4, g4⟩, ⟨f5, g5⟩, ⟨f6, g6⟩, ⟨f7, g7⟩, ⟨f8, g8, z8⟩, ⟨f9, g9⟩, ⟨f10, g10⟩, ⟨f11, g11, z11⟩, ⟨f12, g12, z12⟩⟩ := id hm
  refine lv_iload_n hx hb dX9_insert_0 rfl (lv_at hl 1 rfl) ?_
  refine hc_si (va_runS (As := [.int x]) (rest := []) ⟨hx, hb, hml, hown, hts⟩ (c_X9_isNumber l x) (va_cwS 1 hts (hGS hmc k_628 k_629 k_29 k_630) rfl rfl rfl (by decide +kernel) ⟨Nat.le_of_ble_eq_true rfl, Nat.le_of_ble_eq_true rfl⟩) hpre0 rfl rfl hl.1 rfl (lv_room (Nat.le_of_ble_eq_true rfl)) dX9_insert_1 ⟨(Nat.le_refl _), (Nat.le_refl _)⟩) (fun r1 b1 => ?_)
  refine lv_if_eq (tgt := 21) hx hb dX9_insert_4 (by decide) (fun c1 => ?_) (fun c1 => ?_)
  · refine lv_iconst (v := (-1)) hx hb dX9_insert_21 (by decide +kernel) ?_
    subst hAe
    exact W.iret (v := (-1)) hx hb hr (fun t ht _ => ⟨⟨(-1), ws, rfl, (if_neg (fun q => b1.f c1 q.1)).symm, by rw [ht]; exact hP, hD⟩, hS.F ht⟩) hS.2.2 dX9_insert_22
  · refine lv_iload_n hx hb dX9_insert_7 rfl (lv_at hl 2 rfl) ?_
    refine hc_si (va_runS (As := [.int y]) (rest := []) ⟨hx, hb, hml, hown, hts⟩ (c_X9_isNumber l y) (va_cwS 1 hts (hGS hmc k_628 k_629 k_29 k_630) rfl rfl rfl (by decide +kernel) ⟨Nat.le_of_ble_eq_true rfl, Nat.le_of_ble_eq_true rfl⟩) hpre0 rfl rfl hl.1 rfl (lv_room (Nat.le_of_ble_eq_true rfl)) dX9_insert_8 ⟨(Nat.le_refl _), (Nat.le_refl _)⟩) (fun r2 b2 => ?_)
    refine lv_if_eq (tgt := 21) hx hb dX9_insert_11 (by decide) (fun c2 => ?_) (fun c2 => ?_)
    · refine lv_iconst (v := (-1)) hx hb dX9_insert_21 (by decide +kernel) ?_
      subst hAe
      exact W.iret (v := (-1)) hx hb hr (fun t ht _ => ⟨⟨(-1), ws, rfl, (if_neg (fun q => b2.f c2 q.2.1)).symm, by rw [ht]; exact hP, hD⟩, hS.F ht⟩) hS.2.2 dX9_insert_22
    · refine lv_iload_n hx hb dX9_insert_14 rfl (lv_at hl 3 rfl) ?_
      refine hc_si (va_runS (As := [.int z]) (rest := []) ⟨hx, hb, hml, hown, hts⟩ (c_X9_isNumber l z) (va_cwS 1 hts (hGS hmc k_628 k_629 k_29 k_630) rfl rfl rfl (by decide +kernel) ⟨Nat.le_of_ble_eq_true rfl, Nat.le_of_ble_eq_true rfl⟩) hpre0 rfl rfl hl.1 rfl (lv_room (Nat.le_of_ble_eq_true rfl)) dX9_insert_15 ⟨(Nat.le_refl _), (Nat.le_refl _)⟩) (fun r3 b3 => ?_)
      refine lv_if_ne (tgt := 23) hx hb dX9_insert_18 (by decide) (fun c3 => ?_) (fun c3 => ?_)
      · refine lv_aload_n hx hb dX9_insert_23 rfl (lv_at hl 0 rfl) ?_
        refine lv_iload_n hx hb dX9_insert_24 rfl (lv_at hl 1 rfl) ?_
        refine lv_iload_n hx hb dX9_insert_25 rfl (lv_at hl 2 rfl) ?_
        refine lv_iload_n hx hb dX9_insert_26 rfl (lv_at hl 3 rfl) ?_
        refine hc_i E hD hS (va_runV (As := [.int x, .int y, .int z]) (rest := []) ⟨hx, hb, hml, hown, hts⟩ ((c_X9_find l D K tv ws ad hm x y z) H.size) (cwV 3 hts (hGV hmc k_631 k_633 k_4 k_29 k_634) rfl rfl rfl (by decide +kernel) ⟨Nat.le_of_ble_eq_true rfl, Nat.le_of_ble_eq_true rfl⟩) (hpreV E hP hD hS g0 rfl) rfl rfl hl.1 rfl (lv_room (Nat.le_of_ble_eq_true rfl)) dX9_insert_27 ⟨(Nat.le_refl _), (Nat.le_refl _)⟩) (fun r5 ws4 H locs hh hP hD hS => ?_)
        obtain ⟨rfl, rfl⟩ := hh
        refine lv_if_lt (tgt := 35) hx hb dX9_insert_30 (by decide) (fun c4 => ?_) (fun c4 => ?_)
        · refine lv_aload_n hx hb dX9_insert_35 rfl (lv_at hl 0 rfl) ?_
          refine va_get (v := .int (nI 0)) (C := RX9) (T := TX9) (N := 18) hx hb hts (hin_X9 hmc) hown E.1.1 hP 0 g0 rfl 1 (by decide) (hts _ (hmc _ k_570)) (fun _ h9 => h9) rfl dX9_insert_36 ?_
          refine lv_sipush (v := nI 640) hx hb dX9_insert_39 (by decide +kernel) ?_
          refine lv_icmp_ne (tgt := 48) hx hb dX9_insert_42 (by decide) (fun c5 => ?_) (fun c5 => ?_)
          · refine lv_aload_n hx hb dX9_insert_48 rfl (lv_at hl 0 rfl) ?_
            refine va_get (v := .ref (ad 1)) (C := RX9) (T := TX9) (N := 18) hx hb hts (hin_X9 hmc) hown E.1.1 hP 0 g0 rfl 0 (by decide) (hts _ (hmc _ k_569)) (fun _ h9 => h9) rfl dX9_insert_49 ?_
            refine lv_iconst (v := nI 3) hx hb dX9_insert_52 (by decide +kernel) ?_
            refine lv_aload_n hx hb dX9_insert_53 rfl (lv_at hl 0 rfl) ?_
            refine va_get (v := .int (nI 0)) (C := RX9) (T := TX9) (N := 18) hx hb hts (hin_X9 hmc) hown E.1.1 hP 0 g0 rfl 1 (by decide) (hts _ (hmc _ k_570)) (fun _ h9 => h9) rfl dX9_insert_54 ?_
            refine lv_imul hx hb dX9_insert_57 ?_
            refine htopi (v := nI (3 * 0)) (pk_mul _ _) ?_
            refine lv_iload_n hx hb dX9_insert_58 rfl (lv_at hl 1 rfl) ?_
            refine va_iast hx hb E.1.1 hP hD hS 1 0 g1 rfl (vp_in_nI (by omega) (by omega)) dX9_insert_59 (fun H locs hP hD hS => ?_)
            rw [nI_clamp (show (3 * 0) < 2 ^ 31 by omega)] at hP hD
            obtain ⟨ws6, ews6⟩ : ∃ zw : va_W, zw = List.set ws 1 ((ad 1), .inl (K 0, 1920, .inl (upd f1 (3 * 0) x))) := ⟨_, rfl⟩
            have hP : va_P D vwCl ws6 H := by rw [ews6]; exact hP
            have hD : va_D A ws6 := by rw [ews6]; exact hD
            have g0 := (show ws6[0]? = _ from (by rw [ews6]; exact hset_ne (by omega))).trans g0
            have g1 : ws6[1]? = some ((ad 1), .inl (K 0, 1920, .inl (upd f1 (3 * 0) x))) := by rw [ews6]; exact hset_eq g1
            have g2 := (show ws6[2]? = _ from (by rw [ews6]; exact hset_ne (by omega))).trans g2
            have g3 := (show ws6[3]? = _ from (by rw [ews6]; exact hset_ne (by omega))).trans g3
            have g4 := (show ws6[4]? = _ from (by rw [ews6]; exact hset_ne (by omega))).trans g4
            have g5 := (show ws6[5]? = _ from (by rw [ews6]; exact hset_ne (by omega))).trans g5
            have g6 := (show ws6[6]? = _ from (by rw [ews6]; exact hset_ne (by omega))).trans g6
            have g7 := (show ws6[7]? = _ from (by rw [ews6]; exact hset_ne (by omega))).trans g7
            have g8 := (show ws6[8]? = _ from (by rw [ews6]; exact hset_ne (by omega))).trans g8
            have g9 := (show ws6[9]? = _ from (by rw [ews6]; exact hset_ne (by omega))).trans g9
            have g10 := (show ws6[10]? = _ from (by rw [ews6]; exact hset_ne (by omega))).trans g10
            have g11 := (show ws6[11]? = _ from (by rw [ews6]; exact hset_ne (by omega))).trans g11
            have g12 := (show ws6[12]? = _ from (by rw [ews6]; exact hset_ne (by omega))).trans g12
            refine lv_aload_n hx hb dX9_insert_60 rfl (lv_at hl 0 rfl) ?_
            refine va_get (v := .ref (ad 1)) (C := RX9) (T := TX9) (N := 18) hx hb hts (hin_X9 hmc) hown E.1.1 hP 0 g0 rfl 0 (by decide) (hts _ (hmc _ k_569)) (fun _ h9 => h9) rfl dX9_insert_61 ?_
            refine lv_iconst (v := nI 3) hx hb dX9_insert_64 (by decide +kernel) ?_
            refine lv_aload_n hx hb dX9_insert_65 rfl (lv_at hl 0 rfl) ?_
            refine va_get (v := .int (nI 0)) (C := RX9) (T := TX9) (N := 18) hx hb hts (hin_X9 hmc) hown E.1.1 hP 0 g0 rfl 1 (by decide) (hts _ (hmc _ k_570)) (fun _ h9 => h9) rfl dX9_insert_66 ?_
            refine lv_imul hx hb dX9_insert_69 ?_
            refine htopi (v := nI (3 * 0)) (pk_mul _ _) ?_
            refine lv_iconst (v := nI 1) hx hb dX9_insert_70 (by decide +kernel) ?_
            refine lv_iadd hx hb dX9_insert_71 ?_
            refine htopi (v := nI ((3 * 0) + 1)) (nI_add _ _) ?_
            refine lv_iload_n hx hb dX9_insert_72 rfl (lv_at hl 2 rfl) ?_
            refine va_iast hx hb E.1.1 hP hD hS 1 0 g1 rfl (vp_in_nI (by omega) (by omega)) dX9_insert_73 (fun H locs hP hD hS => ?_)
            rw [nI_clamp (show ((3 * 0) + 1) < 2 ^ 31 by omega)] at hP hD
            obtain ⟨ws7, ews7⟩ : ∃ zw : va_W, zw = List.set ws6 1 ((ad 1), .inl (K 0, 1920, .inl (upd (upd f1 (3 * 0) x) ((3 * 0) + 1) y))) := ⟨_, rfl⟩
            have hP : va_P D vwCl ws7 H := by rw [ews7]; exact hP
            have hD : va_D A ws7 := by rw [ews7]; exact hD
            have g0 := (show ws7[0]? = _ from (by rw [ews7]; exact hset_ne (by omega))).trans g0
            have g1 : ws7[1]? = some ((ad 1), .inl (K 0, 1920, .inl (upd (upd f1 (3 * 0) x) ((3 * 0) + 1) y))) := by rw [ews7]; exact hset_eq g1
            have g2 := (show ws7[2]? = _ from (by rw [ews7]; exact hset_ne (by omega))).trans g2
            have g3 := (show ws7[3]? = _ from (by rw [ews7]; exact hset_ne (by omega))).trans g3
            have g4 := (show ws7[4]? = _ from (by rw [ews7]; exact hset_ne (by omega))).trans g4
            have g5 := (show ws7[5]? = _ from (by rw [ews7]; exact hset_ne (by omega))).trans g5
            have g6 := (show ws7[6]? = _ from (by rw [ews7]; exact hset_ne (by omega))).trans g6
            have g7 := (show ws7[7]? = _ from (by rw [ews7]; exact hset_ne (by omega))).trans g7
            have g8 := (show ws7[8]? = _ from (by rw [ews7]; exact hset_ne (by omega))).trans g8
            have g9 := (show ws7[9]? = _ from (by rw [ews7]; exact hset_ne (by omega))).trans g9
            have g10 := (show ws7[10]? = _ from (by rw [ews7]; exact hset_ne (by omega))).trans g10
            have g11 := (show ws7[11]? = _ from (by rw [ews7]; exact hset_ne (by omega))).trans g11
            have g12 := (show ws7[12]? = _ from (by rw [ews7]; exact hset_ne (by omega))).trans g12
            refine lv_aload_n hx hb dX9_insert_74 rfl (lv_at hl 0 rfl) ?_
            refine va_get (v := .ref (ad 1)) (C := RX9) (T := TX9) (N := 18) hx hb hts (hin_X9 hmc) hown E.1.1 hP 0 g0 rfl 0 (by decide) (hts _ (hmc _ k_569)) (fun _ h9 => h9) rfl dX9_insert_75 ?_
            refine lv_iconst (v := nI 3) hx hb dX9_insert_78 (by decide +kernel) ?_
            refine lv_aload_n hx hb dX9_insert_79 rfl (lv_at hl 0 rfl) ?_
            refine va_get (v := .int (nI 0)) (C := RX9) (T := TX9) (N := 18) hx hb hts (hin_X9 hmc) hown E.1.1 hP 0 g0 rfl 1 (by decide) (hts _ (hmc _ k_570)) (fun _ h9 => h9) rfl dX9_insert_80 ?_
            refine lv_imul hx hb dX9_insert_83 ?_
            refine htopi (v := nI (3 * 0)) (pk_mul _ _) ?_
            refine lv_iconst (v := nI 2) hx hb dX9_insert_84 (by decide +kernel) ?_
            refine lv_iadd hx hb dX9_insert_85 ?_
            refine htopi (v := nI ((3 * 0) + 2)) (nI_add _ _) ?_
            refine lv_iload_n hx hb dX9_insert_86 rfl (lv_at hl 3 rfl) ?_
            refine va_iast hx hb E.1.1 hP hD hS 1 0 g1 rfl (vp_in_nI (by omega) (by omega)) dX9_insert_87 (fun H locs hP hD hS => ?_)
            rw [nI_clamp (show ((3 * 0) + 2) < 2 ^ 31 by omega)] at hP hD
            obtain ⟨ws8, ews8⟩ : ∃ zw : va_W, zw = List.set ws7 1 ((ad 1), .inl (K 0, 1920, .inl (upd (upd (upd f1 (3 * 0) x) ((3 * 0) + 1) y) ((3 * 0) + 2) z))) := ⟨_, rfl⟩
            have hP : va_P D vwCl ws8 H := by rw [ews8]; exact hP
            have hD : va_D A ws8 := by rw [ews8]; exact hD
            have g0 := (show ws8[0]? = _ from (by rw [ews8]; exact hset_ne (by omega))).trans g0
            have g1 : ws8[1]? = some ((ad 1), .inl (K 0, 1920, .inl (upd (upd (upd f1 (3 * 0) x) ((3 * 0) + 1) y) ((3 * 0) + 2) z))) := by rw [ews8]; exact hset_eq g1
            have g2 := (show ws8[2]? = _ from (by rw [ews8]; exact hset_ne (by omega))).trans g2
            have g3 := (show ws8[3]? = _ from (by rw [ews8]; exact hset_ne (by omega))).trans g3
            have g4 := (show ws8[4]? = _ from (by rw [ews8]; exact hset_ne (by omega))).trans g4
            have g5 := (show ws8[5]? = _ from (by rw [ews8]; exact hset_ne (by omega))).trans g5
            have g6 := (show ws8[6]? = _ from (by rw [ews8]; exact hset_ne (by omega))).trans g6
            have g7 := (show ws8[7]? = _ from (by rw [ews8]; exact hset_ne (by omega))).trans g7
            have g8 := (show ws8[8]? = _ from (by rw [ews8]; exact hset_ne (by omega))).trans g8
            have g9 := (show ws8[9]? = _ from (by rw [ews8]; exact hset_ne (by omega))).trans g9
            have g10 := (show ws8[10]? = _ from (by rw [ews8]; exact hset_ne (by omega))).trans g10
            have g11 := (show ws8[11]? = _ from (by rw [ews8]; exact hset_ne (by omega))).trans g11
            have g12 := (show ws8[12]? = _ from (by rw [ews8]; exact hset_ne (by omega))).trans g12
            refine lv_aload_n hx hb dX9_insert_88 rfl (lv_at hl 0 rfl) ?_
            refine lv_dup hx hb dX9_insert_89 rfl ?_
            refine va_get (v := .int (nI 0)) (C := RX9) (T := TX9) (N := 18) hx hb hts (hin_X9 hmc) hown E.1.1 hP 0 g0 rfl 1 (by decide) (hts _ (hmc _ k_570)) (fun _ h9 => h9) rfl dX9_insert_90 ?_
            refine lv_iconst (v := nI 1) hx hb dX9_insert_93 (by decide +kernel) ?_
            refine lv_iadd hx hb dX9_insert_94 ?_
            refine htopi (v := nI (0 + 1)) (nI_add _ _) ?_
            refine va_put (v := .int (nI (0 + 1))) (ty := .int) (C := RX9) (T := TX9) (N := 18) hx hb hts (hin_X9 hmc) tyX9 tyX9_ok nmX9 hown E.1.1 hP hD hS 0 g0 rfl 1 (by decide) (hts _ (hmc _ k_570)) (fun _ h9 => h9) rfl (by decide +kernel) rfl rfl (Nat.le_of_ble_eq_true rfl) dX9_insert_95 (fun H locs hP hD hS => ?_)
            obtain ⟨ws9, ews9⟩ : ∃ zw : va_W, zw = List.set ws8 0 ((ad 0), .inr (iM, [.ref (ad 1), .int (nI (0 + 1)), .ref (ad 2), .int (nI 0), .ref (ad 3), .int (nI 0), .ref (ad 4), .ref (ad 5), .ref (ad 6), .long 0, .ref (ad 7), .ref (ad 8), .ref (ad 9), .ref (ad 10), .int (nI 0), .int (-2), .ref (ad 11), .ref (ad 12)])) := ⟨_, rfl⟩
            have hP : va_P D vwCl ws9 H := by rw [ews9]; exact hP
            have hD : va_D A ws9 := by rw [ews9]; exact hD
            have g0 : ws9[0]? = some ((ad 0), .inr (iM, [.ref (ad 1), .int (nI (0 + 1)), .ref (ad 2), .int (nI 0), .ref (ad 3), .int (nI 0), .ref (ad 4), .ref (ad 5), .ref (ad 6), .long 0, .ref (ad 7), .ref (ad 8), .ref (ad 9), .ref (ad 10), .int (nI 0), .int (-2), .ref (ad 11), .ref (ad 12)])) := by rw [ews9]; exact hset_eq g0
            have g1 := (show ws9[1]? = _ from (by rw [ews9]; exact hset_ne (by omega))).trans g1
            have g2 := (show ws9[2]? = _ from (by rw [ews9]; exact hset_ne (by omega))).trans g2
            have g3 := (show ws9[3]? = _ from (by rw [ews9]; exact hset_ne (by omega))).trans g3
            have g4 := (show ws9[4]? = _ from (by rw [ews9]; exact hset_ne (by omega))).trans g4
            have g5 := (show ws9[5]? = _ from (by rw [ews9]; exact hset_ne (by omega))).trans g5
            have g6 := (show ws9[6]? = _ from (by rw [ews9]; exact hset_ne (by omega))).trans g6
            have g7 := (show ws9[7]? = _ from (by rw [ews9]; exact hset_ne (by omega))).trans g7
            have g8 := (show ws9[8]? = _ from (by rw [ews9]; exact hset_ne (by omega))).trans g8
            have g9 := (show ws9[9]? = _ from (by rw [ews9]; exact hset_ne (by omega))).trans g9
            have g10 := (show ws9[10]? = _ from (by rw [ews9]; exact hset_ne (by omega))).trans g10
            have g11 := (show ws9[11]? = _ from (by rw [ews9]; exact hset_ne (by omega))).trans g11
            have g12 := (show ws9[12]? = _ from (by rw [ews9]; exact hset_ne (by omega))).trans g12
            refine lv_aload_n hx hb dX9_insert_98 rfl (lv_at hl 0 rfl) ?_
            refine lv_bipush (v := (-2)) hx hb dX9_insert_99 (by decide +kernel) ?_
            refine va_put (v := .int (-2)) (ty := .int) (C := RX9) (T := TX9) (N := 18) hx hb hts (hin_X9 hmc) tyX9 tyX9_ok nmX9 hown E.1.1 hP hD hS 0 g0 rfl 15 (by decide) (hts _ (hmc _ k_584)) (fun _ h9 => h9) rfl (by decide +kernel) rfl rfl (Nat.le_of_ble_eq_true rfl) dX9_insert_101 (fun H locs hP hD hS => ?_)
            obtain ⟨ws10, ews10⟩ : ∃ zw : va_W, zw = List.set ws9 0 ((ad 0), .inr (iM, [.ref (ad 1), .int (nI (0 + 1)), .ref (ad 2), .int (nI 0), .ref (ad 3), .int (nI 0), .ref (ad 4), .ref (ad 5), .ref (ad 6), .long 0, .ref (ad 7), .ref (ad 8), .ref (ad 9), .ref (ad 10), .int (nI 0), .int (-2), .ref (ad 11), .ref (ad 12)])) := ⟨_, rfl⟩
            have hP : va_P D vwCl ws10 H := by rw [ews10]; exact hP
            have hD : va_D A ws10 := by rw [ews10]; exact hD
            have g0 : ws10[0]? = some ((ad 0), .inr (iM, [.ref (ad 1), .int (nI (0 + 1)), .ref (ad 2), .int (nI 0), .ref (ad 3), .int (nI 0), .ref (ad 4), .ref (ad 5), .ref (ad 6), .long 0, .ref (ad 7), .ref (ad 8), .ref (ad 9), .ref (ad 10), .int (nI 0), .int (-2), .ref (ad 11), .ref (ad 12)])) := by rw [ews10]; exact hset_eq g0
            have g1 := (show ws10[1]? = _ from (by rw [ews10]; exact hset_ne (by omega))).trans g1
            have g2 := (show ws10[2]? = _ from (by rw [ews10]; exact hset_ne (by omega))).trans g2
            have g3 := (show ws10[3]? = _ from (by rw [ews10]; exact hset_ne (by omega))).trans g3
            have g4 := (show ws10[4]? = _ from (by rw [ews10]; exact hset_ne (by omega))).trans g4
            have g5 := (show ws10[5]? = _ from (by rw [ews10]; exact hset_ne (by omega))).trans g5
            have g6 := (show ws10[6]? = _ from (by rw [ews10]; exact hset_ne (by omega))).trans g6
            have g7 := (show ws10[7]? = _ from (by rw [ews10]; exact hset_ne (by omega))).trans g7
            have g8 := (show ws10[8]? = _ from (by rw [ews10]; exact hset_ne (by omega))).trans g8
            have g9 := (show ws10[9]? = _ from (by rw [ews10]; exact hset_ne (by omega))).trans g9
            have g10 := (show ws10[10]? = _ from (by rw [ews10]; exact hset_ne (by omega))).trans g10
            have g11 := (show ws10[11]? = _ from (by rw [ews10]; exact hset_ne (by omega))).trans g11
            have g12 := (show ws10[12]? = _ from (by rw [ews10]; exact hset_ne (by omega))).trans g12
            refine lv_iconst (v := nI 1) hx hb dX9_insert_104 (by decide +kernel) ?_
            subst hAe
            exact W.iret (v := nI 1) hx hb hr (fun t ht _ => ⟨⟨nI 1, ws10, rfl, (if_pos ⟨b1.t c1, b2.t c2, b3.t c3⟩).symm, by rw [ht]; exact hP, hD⟩, hS.F ht⟩) hS.2.2 dX9_insert_105
          · first | exact absurd c5 (by decide +kernel) | exact absurd (by decide +kernel) c5
        · first | exact absurd c4 (by decide +kernel) | exact absurd (by decide +kernel) c4
      · refine lv_iconst (v := (-1)) hx hb dX9_insert_21 (by decide +kernel) ?_
        subst hAe
        exact W.iret (v := (-1)) hx hb hr (fun t ht _ => ⟨⟨(-1), ws, rfl, (if_neg (fun q => b3.f c3 q.2.2)).symm, by rw [ht]; exact hP, hD⟩, hS.F ht⟩) hS.2.2 dX9_insert_22


set_option maxHeartbeats 4000000 in
set_option maxRecDepth 100000 in
/-- the reference, fresh: remove -/
theorem c_X9_remove (l : Launch) (D : va_G) (K : Nat → ClassId) (tv : Nat) (ws : va_W) (ad : Nat → Nat) (hm : hMs K ad ws 0 0 (-2)) (x y z : Int32) : hI l D (hTy K) tv yX9_remove cX9_remove 6 (some .int) ({ frames := 1, cells := 0, slots := 0, locals := 60 }) [.ref (ad 0), .int x, .int y, .int z] ws (fun r _ => r = if hOkN x ∧ hOkN y ∧ hOkN z then nI 0 else (-1)) := by
  intro sz
  refine Met.ofW (cc := cX9_remove) (maxL := 6) (ret := (some .int)) (by decide) rfl ?_
  intro p e s m args below meth c s₁ B hml hv0
  obtain ⟨rfl, rfl, E, hP, hD⟩ := hentry hv0
  have hx := B.exec
  have hb := B.bytes
  have hr := B.returns
  have hts := atoms_spec (ws := hC yX9_remove cX9_remove 6 (some .int)) B.pre
  have hown : s.vm.findClass RX9 = some m.cls := findClass_of_methodNamed B.named
  have hlocks := B.notSynchronized
  generalize hAe : va_A ws s.heap.size = A at hD E ⊢
  have hl := lv_entry ([.ref (ad 0), .int x, .int y, .int z]) (n := 6) (Nat.le_of_ble_eq_true rfl)
  rw [lg_entry_eq]
  generalize (lg_sl ([.ref (ad 0), .int x, .int y, .int z]) ++ List.replicate (6 - (lg_sl ([.ref (ad 0), .int x, .int y, .int z])).length) Slot.unset).toArray = ls at hl ⊢
  have hl : lv_has ls 6 [(0, .ref (ad 0)), (1, .int x), (2, .int y), (3, .int z)] := hl
  refine hat0 (fun H hHe => ?_)
  have hP : va_P D vwCl ws H := by rw [hHe]; exact hP
  have hS : va_S A s.heap H [] := by rw [hHe]; exact va_S.rf
  obtain ⟨g0, ⟨f1, g1⟩, ⟨f2, g2⟩, ⟨f3, g3⟩, ⟨f4, g4⟩, ⟨f5, g5⟩, ⟨f6, g6⟩, ⟨f7, g7⟩, ⟨f8, g8, z8⟩, ⟨f9, g9⟩, ⟨f10, g10⟩, ⟨f11, g11, z11⟩, ⟨f12, g12, z12⟩⟩ := id hm
  refine lv_iload_n hx hb dX9_remove_0 rfl (lv_at hl 1 rfl) ?_
  refine hc_si (va_runS (As := [.int x]) (rest := []) ⟨hx, hb, hml, hown, hts⟩ (c_X9_isNumber l x) (va_cwS 1 hts (hGS hmc k_628 k_629 k_29 k_630) rfl rfl rfl (by decide +kernel) ⟨Nat.le_of_ble_eq_true rfl, Nat.le_of_ble_eq_true rfl⟩) hpre0 rfl rfl hl.1 rfl (lv_room (Nat.le_of_ble_eq_true rfl)) dX9_remove_1 ⟨(Nat.le_refl _), (Nat.le_refl _)⟩) (fun r1 b1 => ?_)
  refine lv_if_eq (tgt := 21) hx hb dX9_remove_4 (by decide) (fun c1 => ?_) (fun c1 => ?_)
  · refine lv_iconst (v := (-1)) hx hb dX9_remove_21 (by decide +kernel) ?_
    subst hAe
    exact W.iret (v := (-1)) hx hb hr (fun t ht _ => ⟨⟨(-1), ws, rfl, (if_neg (fun q => b1.f c1 q.1)).symm, by rw [ht]; exact hP, hD⟩, hS.F ht⟩) hS.2.2 dX9_remove_22
  · refine lv_iload_n hx hb dX9_remove_7 rfl (lv_at hl 2 rfl) ?_
    refine hc_si (va_runS (As := [.int y]) (rest := []) ⟨hx, hb, hml, hown, hts⟩ (c_X9_isNumber l y) (va_cwS 1 hts (hGS hmc k_628 k_629 k_29 k_630) rfl rfl rfl (by decide +kernel) ⟨Nat.le_of_ble_eq_true rfl, Nat.le_of_ble_eq_true rfl⟩) hpre0 rfl rfl hl.1 rfl (lv_room (Nat.le_of_ble_eq_true rfl)) dX9_remove_8 ⟨(Nat.le_refl _), (Nat.le_refl _)⟩) (fun r2 b2 => ?_)
    refine lv_if_eq (tgt := 21) hx hb dX9_remove_11 (by decide) (fun c2 => ?_) (fun c2 => ?_)
    · refine lv_iconst (v := (-1)) hx hb dX9_remove_21 (by decide +kernel) ?_
      subst hAe
      exact W.iret (v := (-1)) hx hb hr (fun t ht _ => ⟨⟨(-1), ws, rfl, (if_neg (fun q => b2.f c2 q.2.1)).symm, by rw [ht]; exact hP, hD⟩, hS.F ht⟩) hS.2.2 dX9_remove_22
    · refine lv_iload_n hx hb dX9_remove_14 rfl (lv_at hl 3 rfl) ?_
      refine hc_si (va_runS (As := [.int z]) (rest := []) ⟨hx, hb, hml, hown, hts⟩ (c_X9_isNumber l z) (va_cwS 1 hts (hGS hmc k_628 k_629 k_29 k_630) rfl rfl rfl (by decide +kernel) ⟨Nat.le_of_ble_eq_true rfl, Nat.le_of_ble_eq_true rfl⟩) hpre0 rfl rfl hl.1 rfl (lv_room (Nat.le_of_ble_eq_true rfl)) dX9_remove_15 ⟨(Nat.le_refl _), (Nat.le_refl _)⟩) (fun r3 b3 => ?_)
      refine lv_if_ne (tgt := 23) hx hb dX9_remove_18 (by decide) (fun c3 => ?_) (fun c3 => ?_)
      · refine lv_aload_n hx hb dX9_remove_23 rfl (lv_at hl 0 rfl) ?_
        refine lv_iload_n hx hb dX9_remove_24 rfl (lv_at hl 1 rfl) ?_
        refine lv_iload_n hx hb dX9_remove_25 rfl (lv_at hl 2 rfl) ?_
        refine lv_iload_n hx hb dX9_remove_26 rfl (lv_at hl 3 rfl) ?_
        refine hc_i E hD hS (va_runV (As := [.int x, .int y, .int z]) (rest := []) ⟨hx, hb, hml, hown, hts⟩ ((c_X9_find l D K tv ws ad hm x y z) H.size) (cwV 3 hts (hGV hmc k_631 k_633 k_4 k_29 k_634) rfl rfl rfl (by decide +kernel) ⟨Nat.le_of_ble_eq_true rfl, Nat.le_of_ble_eq_true rfl⟩) (hpreV E hP hD hS g0 rfl) rfl rfl hl.1 rfl (lv_room (Nat.le_of_ble_eq_true rfl)) dX9_remove_27 ⟨(Nat.le_refl _), (Nat.le_refl _)⟩) (fun r5 ws4 H locs hh hP hD hS => ?_)
        obtain ⟨rfl, rfl⟩ := hh
        refine lv_istore (lv' := [(4, .int (-1)), (0, .ref (ad 0)), (1, .int x), (2, .int y), (3, .int z)]) hx hb dX9_remove_30 hl (by decide) rfl (fun ls hl => ?_)
        refine lv_iload hx hb dX9_remove_32 (lv_at hl 0 rfl) ?_
        refine lv_if_ge (tgt := 39) hx hb dX9_remove_34 (by decide) (fun c4 => ?_) (fun c4 => ?_)
        · first | exact absurd c4 (by decide +kernel) | exact absurd (by decide +kernel) c4
        · refine lv_iconst (v := nI 0) hx hb dX9_remove_37 (by decide +kernel) ?_
          subst hAe
          exact W.iret (v := nI 0) hx hb hr (fun t ht _ => ⟨⟨nI 0, ws, rfl, (if_pos ⟨b1.t c1, b2.t c2, b3.t c3⟩).symm, by rw [ht]; exact hP, hD⟩, hS.F ht⟩) hS.2.2 dX9_remove_38
      · refine lv_iconst (v := (-1)) hx hb dX9_remove_21 (by decide +kernel) ?_
        subst hAe
        exact W.iret (v := (-1)) hx hb hr (fun t ht _ => ⟨⟨(-1), ws, rfl, (if_neg (fun q => b3.f c3 q.2.2)).symm, by rw [ht]; exact hP, hD⟩, hS.F ht⟩) hS.2.2 dX9_remove_22

