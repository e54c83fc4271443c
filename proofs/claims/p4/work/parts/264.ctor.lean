set_option maxHeartbeats 4000000 in
set_option maxRecDepth 100000 in
/-- new Triples -/
theorem c_X1_init (l : Launch) (D : va_G) (K : Nat → ClassId) (tv : Nat) (h : Nat) : hV l D (hTy K) tv yX1_init cX1_init 1 none ({ frames := 1, cells := 4, slots := 1923, locals := 60 }) [.ref h] [(h, .inr (iT, [.null, .int 0]))] (fun ws1 => ∃ q1 : Nat, ws1 = [(h, .inr (iT, [.ref q1, .int 0])), (q1, .inl (K 2, 3, .inr (.inr (.inr (.inr (fun j => some (q1 + 1 + j))))))), (q1 + 1 + 0, .inl (K 0, 640, .inl (fun _ => 0))), (q1 + 1 + 1, .inl (K 0, 640, .inl (fun _ => 0))), (q1 + 1 + 2, .inl (K 0, 640, .inl (fun _ => 0)))]) := by
  intro sz
  refine Met.ofW (cc := cX1_init) (maxL := 1) (ret := none) (by decide) rfl ?_
  intro p e s m args below meth c s₁ B hml hv0
  obtain ⟨rfl, rfl, E, hP, hD⟩ := hentry hv0
  have hx := B.exec
  have hb := B.bytes
  have hr := B.returns
  have hts := atoms_spec (ws := hC yX1_init cX1_init 1 none) B.pre
  have hown : s.vm.findClass RX1 = some m.cls := findClass_of_methodNamed B.named
  have hlocks := B.notSynchronized
  have hin : meth.name = "<init>" := (name_of_methodNamed B.named B.method).1
  generalize hAe : va_A [(h, .inr (iT, [.null, .int 0]))] s.heap.size = A at hD E ⊢
  have hl := lv_entry ([.ref h]) (n := 1) (Nat.le_of_ble_eq_true rfl)
  rw [lg_entry_eq]
  generalize (lg_sl ([.ref h]) ++ List.replicate (1 - (lg_sl ([.ref h])).length) Slot.unset).toArray = ls at hl ⊢
  have hl : lv_has ls 1 [(0, .ref h)] := hl
  refine hat0 (fun H hHe => ?_)
  have hP : va_P D vwCl [(h, .inr (iT, [.null, .int 0]))] H := by rw [hHe]; exact hP
  have hS : va_S A s.heap H [] := by rw [hHe]; exact va_S.rf
  have hP : va_P D vwCl [(h, .inr (iT, [.null, .int 0]))] H := hP
  have hD : va_D A [(h, .inr (iT, [.null, .int 0]))] := hD
  refine lv_aload_n hx hb dX1_init_0 rfl (lv_at hl 0 rfl) ?_
  refine W.objInit hx hb hown (hts _ (hmc _ k_48)) (hts _ (hmc _ k_41)) (hts _ (hmc _ k_42)) rfl (by rw [hml]; exact hl.1) rfl dX1_init_1 (Nat.le_of_ble_eq_true rfl) (Nat.le_of_ble_eq_true rfl) ?_
  refine W.eq (g2 := F0 m 4 ls []) rfl ?_
  refine lv_aload_n hx hb dX1_init_4 rfl (lv_at hl 0 rfl) ?_
  refine lv_iconst (v := nI 3) hx hb dX1_init_5 (by decide +kernel) ?_
  refine lv_sipush (v := nI 640) hx hb dX1_init_6 (by decide +kernel) ?_
  refine hmana (M := 640) hx hb hown (hts _ (hmc _ k_49)) E.1.1 E.1.2.2.2 2 0 rfl rfl hP hD hS E.2.2 (nI_pos (by decide)) (nI_pos (by decide)) (nI_clamp (by decide)) (nI_clamp (by decide)) (by decide) (Nat.le_of_ble_eq_true rfl) (Nat.le_of_ble_eq_true rfl) dX1_init_9 (fun q1 H locs hP hD hS => ?_)
  have hP : va_P D vwCl [(h, .inr (iT, [.null, .int 0])), (q1, .inl (K 2, 3, .inr (.inr (.inr (.inr (fun j => some (q1 + 1 + j))))))), (q1 + 1 + 0, .inl (K 0, 640, .inl (fun _ => 0))), (q1 + 1 + 1, .inl (K 0, 640, .inl (fun _ => 0))), (q1 + 1 + 2, .inl (K 0, 640, .inl (fun _ => 0)))] H := hP
  have hD : va_D A [(h, .inr (iT, [.null, .int 0])), (q1, .inl (K 2, 3, .inr (.inr (.inr (.inr (fun j => some (q1 + 1 + j))))))), (q1 + 1 + 0, .inl (K 0, 640, .inl (fun _ => 0))), (q1 + 1 + 1, .inl (K 0, 640, .inl (fun _ => 0))), (q1 + 1 + 2, .inl (K 0, 640, .inl (fun _ => 0)))] := hD
  refine va_putF (v := .ref q1) (ty := .array (.array .int)) (C := RX1) (T := TX1) (N := 2) hx hb hts (hin_X1 hmc) tyX1 tyX1_ok nmX1 hown E.1.1 hP hD hS 0 rfl rfl 0 (by decide) (hts _ (hmc _ k_51)) (fun _ h9 => h9) rfl hin rfl (by decide +kernel) rfl rfl (Nat.le_of_ble_eq_true rfl) dX1_init_13 (fun H locs hP hD hS => ?_)
  have hP : va_P D vwCl [(h, .inr (iT, [.ref q1, .int 0])), (q1, .inl (K 2, 3, .inr (.inr (.inr (.inr (fun j => some (q1 + 1 + j))))))), (q1 + 1 + 0, .inl (K 0, 640, .inl (fun _ => 0))), (q1 + 1 + 1, .inl (K 0, 640, .inl (fun _ => 0))), (q1 + 1 + 2, .inl (K 0, 640, .inl (fun _ => 0)))] H := hP
  have hD : va_D A [(h, .inr (iT, [.ref q1, .int 0])), (q1, .inl (K 2, 3, .inr (.inr (.inr (.inr (fun j => some (q1 + 1 + j))))))), (q1 + 1 + 0, .inl (K 0, 640, .inl (fun _ => 0))), (q1 + 1 + 1, .inl (K 0, 640, .inl (fun _ => 0))), (q1 + 1 + 2, .inl (K 0, 640, .inl (fun _ => 0)))] := hD
  subst hAe
  exact W.vret hx hb hr (fun t ht _ => ⟨⟨_, rfl, ⟨q1, rfl⟩, by rw [ht]; exact hP, hD⟩, hS.F ht⟩) hS.2.2 dX1_init_16

