set_option maxHeartbeats 4000000 in
set_option maxRecDepth 100000 in
/-- new Solutions -/
theorem c_X8_init (l : Launch) (D : va_G) (K : Nat → ClassId) (tv : Nat) (h : Nat) : hV l D (hTy K) tv yX8_init cX8_init 1 none ({ frames := 1, cells := 2, slots := 128, locals := 60 }) [.ref h] [(h, .inr (iU, [.null, .null, .int 0]))] (fun ws1 => ∃ q1 q2 : Nat, ws1 = [(h, .inr (iU, [.ref q1, .ref q2, .int 0])), (q1, .inl (K 1, 64, .inr (.inl (fun _ => 0)))), (q2, .inl (K 1, 64, .inr (.inl (fun _ => 0))))]) := by
  intro sz
  refine Met.ofW (cc := cX8_init) (maxL := 1) (ret := none) (by decide) rfl ?_
  intro p e s m args below meth c s₁ B hml hv0
  obtain ⟨rfl, rfl, E, hP, hD⟩ := hentry hv0
  have hx := B.exec
  have hb := B.bytes
  have hr := B.returns
  have hts := atoms_spec (ws := hC yX8_init cX8_init 1 none) B.pre
  have hown : s.vm.findClass RX8 = some m.cls := findClass_of_methodNamed B.named
  have hlocks := B.notSynchronized
  have hin : meth.name = "<init>" := (name_of_methodNamed B.named B.method).1
  generalize hAe : va_A [(h, .inr (iU, [.null, .null, .int 0]))] s.heap.size = A at hD E ⊢
  have hl := lv_entry ([.ref h]) (n := 1) (Nat.le_of_ble_eq_true rfl)
  rw [lg_entry_eq]
  generalize (lg_sl ([.ref h]) ++ List.replicate (1 - (lg_sl ([.ref h])).length) Slot.unset).toArray = ls at hl ⊢
  have hl : lv_has ls 1 [(0, .ref h)] := hl
  refine hat0 (fun H hHe => ?_)
  have hP : va_P D vwCl [(h, .inr (iU, [.null, .null, .int 0]))] H := by rw [hHe]; exact hP
  have hS : va_S A s.heap H [] := by rw [hHe]; exact va_S.rf
  have hP : va_P D vwCl [(h, .inr (iU, [.null, .null, .int 0]))] H := hP
  have hD : va_D A [(h, .inr (iU, [.null, .null, .int 0]))] := hD
  refine lv_aload_n hx hb dX8_init_0 rfl (lv_at hl 0 rfl) ?_
  refine W.objInit hx hb hown (hts _ (hmc _ k_154)) (hts _ (hmc _ k_41)) (hts _ (hmc _ k_42)) rfl (by rw [hml]; exact hl.1) rfl dX8_init_1 (Nat.le_of_ble_eq_true rfl) (Nat.le_of_ble_eq_true rfl) ?_
  refine W.eq (g2 := F0 m 4 ls []) rfl ?_
  refine lv_aload_n hx hb dX8_init_4 rfl (lv_at hl 0 rfl) ?_
  refine lv_bipush (v := nI 64) hx hb dX8_init_5 (by decide +kernel) ?_
  refine va_newa (atype := .long) (ty := .long) (N' := 64) (a0 := (64, .inr (.inl (fun _ => 0)))) hx hb (hts _ (hmc _ k_166)) rfl E.1.1 hP hD hS E.2.2 (fun _ => rfl) (nI_pos (by decide)) (nI_clamp (by decide)) (by decide) (Nat.le_of_ble_eq_true rfl) (Nat.le_of_ble_eq_true rfl) dX8_init_7 (fun q1 cA H hK1 hP hD hS => ?_)
  obtain rfl : cA = K 1 := hRA (hK1.2 (hTy K).length _ rfl).2 (E.1.1.2 1 _ rfl).2
  have hP : va_P D vwCl [(h, .inr (iU, [.null, .null, .int 0])), (q1, .inl (K 1, 64, .inr (.inl (fun _ => 0))))] H := hP
  have hD : va_D A [(h, .inr (iU, [.null, .null, .int 0])), (q1, .inl (K 1, 64, .inr (.inl (fun _ => 0))))] := hD
  refine va_put (v := .ref q1) (ty := .array .long) (C := RX8) (T := TX8) (N := 3) hx hb hts (hin_X8 hmc) tyX8 tyX8_ok nmX8 hown E.1.1 hP hD hS 0 rfl rfl 0 (by decide) (hts _ (hmc _ k_155)) (fun _ h9 => h9) rfl (by decide +kernel) rfl rfl (Nat.le_of_ble_eq_true rfl) dX8_init_9 (fun H locs hP hD hS => ?_)
  have hP : va_P D vwCl [(h, .inr (iU, [.ref q1, .null, .int 0])), (q1, .inl (K 1, 64, .inr (.inl (fun _ => 0))))] H := hP
  have hD : va_D A [(h, .inr (iU, [.ref q1, .null, .int 0])), (q1, .inl (K 1, 64, .inr (.inl (fun _ => 0))))] := hD
  refine lv_aload_n hx hb dX8_init_12 rfl (lv_at hl 0 rfl) ?_
  refine lv_bipush (v := nI 64) hx hb dX8_init_13 (by decide +kernel) ?_
  refine va_newa (atype := .long) (ty := .long) (N' := 64) (a0 := (64, .inr (.inl (fun _ => 0)))) hx hb (hts _ (hmc _ k_166)) rfl E.1.1 hP hD hS E.2.2 (fun _ => rfl) (nI_pos (by decide)) (nI_clamp (by decide)) (by decide) (Nat.le_of_ble_eq_true rfl) (Nat.le_of_ble_eq_true rfl) dX8_init_15 (fun q2 cA H hK1 hP hD hS => ?_)
  obtain rfl : cA = K 1 := hRA (hK1.2 (hTy K).length _ rfl).2 (E.1.1.2 1 _ rfl).2
  have hP : va_P D vwCl [(h, .inr (iU, [.ref q1, .null, .int 0])), (q1, .inl (K 1, 64, .inr (.inl (fun _ => 0)))), (q2, .inl (K 1, 64, .inr (.inl (fun _ => 0))))] H := hP
  have hD : va_D A [(h, .inr (iU, [.ref q1, .null, .int 0])), (q1, .inl (K 1, 64, .inr (.inl (fun _ => 0)))), (q2, .inl (K 1, 64, .inr (.inl (fun _ => 0))))] := hD
  refine va_put (v := .ref q2) (ty := .array .long) (C := RX8) (T := TX8) (N := 3) hx hb hts (hin_X8 hmc) tyX8 tyX8_ok nmX8 hown E.1.1 hP hD hS 0 rfl rfl 1 (by decide) (hts _ (hmc _ k_156)) (fun _ h9 => h9) rfl (by decide +kernel) rfl rfl (Nat.le_of_ble_eq_true rfl) dX8_init_17 (fun H locs hP hD hS => ?_)
  have hP : va_P D vwCl [(h, .inr (iU, [.ref q1, .ref q2, .int 0])), (q1, .inl (K 1, 64, .inr (.inl (fun _ => 0)))), (q2, .inl (K 1, 64, .inr (.inl (fun _ => 0))))] H := hP
  have hD : va_D A [(h, .inr (iU, [.ref q1, .ref q2, .int 0])), (q1, .inl (K 1, 64, .inr (.inl (fun _ => 0)))), (q2, .inl (K 1, 64, .inr (.inl (fun _ => 0))))] := hD
  subst hAe
  exact W.vret hx hb hr (fun t ht _ => ⟨⟨_, rfl, ⟨q1, q2, rfl⟩, by rw [ht]; exact hP, hD⟩, hS.F ht⟩) hS.2.2 dX8_init_20

