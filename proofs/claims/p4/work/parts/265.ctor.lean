set_option maxHeartbeats 4000000 in
set_option maxRecDepth 100000 in
/-- new Planner -/
theorem c_X5_init (l : Launch) (D : va_G) (K : Nat → ClassId) (tv : Nat) (h : Nat) : hV l D (hTy K) tv yX5_init cX5_init 1 none ({ frames := 2, cells := 4, slots := 18, locals := 120 }) [.ref h] [(h, .inr (iN, [.null, .null, .long 0, .int 0]))] (fun ws1 => ∃ q1 q2 q3 q4 : Nat, ws1 = [(h, .inr (iN, [.ref q1, .ref q3, .long 0, .int 0])), (q1, .inr (iO, [.ref q2, .int 0, .int 0])), (q2, .inl (K 0, 6, .inl (fun _ => 0))), (q3, .inr (iO, [.ref q4, .int 0, .int 0])), (q4, .inl (K 0, 6, .inl (fun _ => 0)))]) := by
  intro sz
  refine Met.ofW (cc := cX5_init) (maxL := 1) (ret := none) (by decide) rfl ?_
  intro p e s m args below meth c s₁ B hml hv0
  obtain ⟨rfl, rfl, E, hP, hD⟩ := hentry hv0
  have hx := B.exec
  have hb := B.bytes
  have hr := B.returns
  have hts := atoms_spec (ws := hC yX5_init cX5_init 1 none) B.pre
  have hown : s.vm.findClass RX5 = some m.cls := findClass_of_methodNamed B.named
  have hlocks := B.notSynchronized
  have hin : meth.name = "<init>" := (name_of_methodNamed B.named B.method).1
  generalize hAe : va_A [(h, .inr (iN, [.null, .null, .long 0, .int 0]))] s.heap.size = A at hD E ⊢
  have hl := lv_entry ([.ref h]) (n := 1) (Nat.le_of_ble_eq_true rfl)
  rw [lg_entry_eq]
  generalize (lg_sl ([.ref h]) ++ List.replicate (1 - (lg_sl ([.ref h])).length) Slot.unset).toArray = ls at hl ⊢
  have hl : lv_has ls 1 [(0, .ref h)] := hl
  refine hat0 (fun H hHe => ?_)
  have hP : va_P D vwCl [(h, .inr (iN, [.null, .null, .long 0, .int 0]))] H := by rw [hHe]; exact hP
  have hS : va_S A s.heap H [] := by rw [hHe]; exact va_S.rf
  have hP : va_P D vwCl [(h, .inr (iN, [.null, .null, .long 0, .int 0]))] H := hP
  have hD : va_D A [(h, .inr (iN, [.null, .null, .long 0, .int 0]))] := hD
  refine lv_aload_n hx hb dX5_init_0 rfl (lv_at hl 0 rfl) ?_
  refine W.objInit hx hb hown (hts _ (hmc _ k_122)) (hts _ (hmc _ k_41)) (hts _ (hmc _ k_42)) rfl (by rw [hml]; exact hl.1) rfl dX5_init_1 (Nat.le_of_ble_eq_true rfl) (Nat.le_of_ble_eq_true rfl) ?_
  refine W.eq (g2 := F0 m 4 ls []) rfl ?_
  refine lv_aload_n hx hb dX5_init_4 rfl (lv_at hl 0 rfl) ?_
  refine va_new (ci := iO) (fs := [.null, .int 0, .int 0]) (C := RX4) (T := TX4) (N := 3) hx hb hts (hin_X4 hmc) tyX4 tyX4_ok hown (hts _ (hmc _ k_123)) (hts _ (hmc _ k_100)) (hts _ (hmc _ k_24)) E.1.1 hP hD hS E.2.2 rfl (fun j hj => by rcases (show j = 0 ∨ j = 1 ∨ j = 2 by omega) with rfl | rfl | rfl <;> rfl) (Nat.le_of_ble_eq_true rfl) (Nat.le_of_ble_eq_true rfl) dX5_init_5 (fun q1 H hP hD hS => ?_)
  have hP : va_P D vwCl [(h, .inr (iN, [.null, .null, .long 0, .int 0])), (q1, .inr (iO, [.null, .int 0, .int 0]))] H := hP
  have hD : va_D A [(h, .inr (iN, [.null, .null, .long 0, .int 0])), (q1, .inr (iO, [.null, .int 0, .int 0]))] := hD
  refine lv_dup hx hb dX5_init_8 rfl ?_
  refine hc_new (ws := [(h, .inr (iN, [.null, .null, .long 0, .int 0]))]) (x := (q1, .inr (iO, [.null, .int 0, .int 0]))) E hP hD hS (va_runIN (As := []) (rest := [.ref q1, .ref h]) ⟨hx, hb, hml, hown, hts⟩ (c_X4_init l D K tv q1 H.size) ⟨va_cnB 0 hts (hGc hmc k_103) rfl rfl rfl (E.1.2.1 _ k_124) (hts _ (hmc _ k_24)) (by decide +kernel) ⟨Nat.le_of_ble_eq_true rfl, Nat.le_of_ble_eq_true rfl⟩, rfl, (hts _ (hmc _ k_102))⟩ (hpre E (hlastP (ws := [(h, .inr (iN, [.null, .null, .long 0, .int 0]))]) (x := (q1, .inr (iO, [.null, .int 0, .int 0]))) hP) (hlastD (ws := [(h, .inr (iN, [.null, .null, .long 0, .int 0]))]) (x := (q1, .inr (iO, [.null, .int 0, .int 0]))) hD) hS) rfl rfl hl.1 rfl (lv_room (Nat.le_of_ble_eq_true rfl)) dX5_init_9 ⟨Nat.le_of_ble_eq_true rfl, Nat.le_of_ble_eq_true rfl⟩) (fun _ H locs hp hP hD hS => ?_)
  obtain ⟨q2, rfl⟩ := hp
  have hP : va_P D vwCl [(h, .inr (iN, [.null, .null, .long 0, .int 0])), (q1, .inr (iO, [.ref q2, .int 0, .int 0])), (q2, .inl (K 0, 6, .inl (fun _ => 0)))] H := hP
  have hD : va_D A [(h, .inr (iN, [.null, .null, .long 0, .int 0])), (q1, .inr (iO, [.ref q2, .int 0, .int 0])), (q2, .inl (K 0, 6, .inl (fun _ => 0)))] := hD
  refine va_putF (v := .ref q1) (ty := .object "JoinPlanner$Order") (C := RX5) (T := TX5) (N := 4) hx hb hts (hin_X5 hmc) tyX5 tyX5_ok nmX5 hown E.1.1 hP hD hS 0 rfl rfl 0 (by decide) (hts _ (hmc _ k_125)) (fun _ h9 => h9) rfl hin rfl (by decide +kernel) rfl rfl (Nat.le_of_ble_eq_true rfl) dX5_init_12 (fun H locs hP hD hS => ?_)
  have hP : va_P D vwCl [(h, .inr (iN, [.ref q1, .null, .long 0, .int 0])), (q1, .inr (iO, [.ref q2, .int 0, .int 0])), (q2, .inl (K 0, 6, .inl (fun _ => 0)))] H := hP
  have hD : va_D A [(h, .inr (iN, [.ref q1, .null, .long 0, .int 0])), (q1, .inr (iO, [.ref q2, .int 0, .int 0])), (q2, .inl (K 0, 6, .inl (fun _ => 0)))] := hD
  refine lv_aload_n hx hb dX5_init_15 rfl (lv_at hl 0 rfl) ?_
  refine va_new (ci := iO) (fs := [.null, .int 0, .int 0]) (C := RX4) (T := TX4) (N := 3) hx hb hts (hin_X4 hmc) tyX4 tyX4_ok hown (hts _ (hmc _ k_123)) (hts _ (hmc _ k_100)) (hts _ (hmc _ k_24)) E.1.1 hP hD hS E.2.2 rfl (fun j hj => by rcases (show j = 0 ∨ j = 1 ∨ j = 2 by omega) with rfl | rfl | rfl <;> rfl) (Nat.le_of_ble_eq_true rfl) (Nat.le_of_ble_eq_true rfl) dX5_init_16 (fun q3 H hP hD hS => ?_)
  have hP : va_P D vwCl [(h, .inr (iN, [.ref q1, .null, .long 0, .int 0])), (q1, .inr (iO, [.ref q2, .int 0, .int 0])), (q2, .inl (K 0, 6, .inl (fun _ => 0))), (q3, .inr (iO, [.null, .int 0, .int 0]))] H := hP
  have hD : va_D A [(h, .inr (iN, [.ref q1, .null, .long 0, .int 0])), (q1, .inr (iO, [.ref q2, .int 0, .int 0])), (q2, .inl (K 0, 6, .inl (fun _ => 0))), (q3, .inr (iO, [.null, .int 0, .int 0]))] := hD
  refine lv_dup hx hb dX5_init_19 rfl ?_
  refine hc_new (ws := [(h, .inr (iN, [.ref q1, .null, .long 0, .int 0])), (q1, .inr (iO, [.ref q2, .int 0, .int 0])), (q2, .inl (K 0, 6, .inl (fun _ => 0)))]) (x := (q3, .inr (iO, [.null, .int 0, .int 0]))) E hP hD hS (va_runIN (As := []) (rest := [.ref q3, .ref h]) ⟨hx, hb, hml, hown, hts⟩ (c_X4_init l D K tv q3 H.size) ⟨va_cnB 0 hts (hGc hmc k_103) rfl rfl rfl (E.1.2.1 _ k_124) (hts _ (hmc _ k_24)) (by decide +kernel) ⟨Nat.le_of_ble_eq_true rfl, Nat.le_of_ble_eq_true rfl⟩, rfl, (hts _ (hmc _ k_102))⟩ (hpre E (hlastP (ws := [(h, .inr (iN, [.ref q1, .null, .long 0, .int 0])), (q1, .inr (iO, [.ref q2, .int 0, .int 0])), (q2, .inl (K 0, 6, .inl (fun _ => 0)))]) (x := (q3, .inr (iO, [.null, .int 0, .int 0]))) hP) (hlastD (ws := [(h, .inr (iN, [.ref q1, .null, .long 0, .int 0])), (q1, .inr (iO, [.ref q2, .int 0, .int 0])), (q2, .inl (K 0, 6, .inl (fun _ => 0)))]) (x := (q3, .inr (iO, [.null, .int 0, .int 0]))) hD) hS) rfl rfl hl.1 rfl (lv_room (Nat.le_of_ble_eq_true rfl)) dX5_init_20 ⟨Nat.le_of_ble_eq_true rfl, Nat.le_of_ble_eq_true rfl⟩) (fun _ H locs hp hP hD hS => ?_)
  obtain ⟨q4, rfl⟩ := hp
  have hP : va_P D vwCl [(h, .inr (iN, [.ref q1, .null, .long 0, .int 0])), (q1, .inr (iO, [.ref q2, .int 0, .int 0])), (q2, .inl (K 0, 6, .inl (fun _ => 0))), (q3, .inr (iO, [.ref q4, .int 0, .int 0])), (q4, .inl (K 0, 6, .inl (fun _ => 0)))] H := hP
  have hD : va_D A [(h, .inr (iN, [.ref q1, .null, .long 0, .int 0])), (q1, .inr (iO, [.ref q2, .int 0, .int 0])), (q2, .inl (K 0, 6, .inl (fun _ => 0))), (q3, .inr (iO, [.ref q4, .int 0, .int 0])), (q4, .inl (K 0, 6, .inl (fun _ => 0)))] := hD
  refine va_putF (v := .ref q3) (ty := .object "JoinPlanner$Order") (C := RX5) (T := TX5) (N := 4) hx hb hts (hin_X5 hmc) tyX5 tyX5_ok nmX5 hown E.1.1 hP hD hS 0 rfl rfl 1 (by decide) (hts _ (hmc _ k_126)) (fun _ h9 => h9) rfl hin rfl (by decide +kernel) rfl rfl (Nat.le_of_ble_eq_true rfl) dX5_init_23 (fun H locs hP hD hS => ?_)
  have hP : va_P D vwCl [(h, .inr (iN, [.ref q1, .ref q3, .long 0, .int 0])), (q1, .inr (iO, [.ref q2, .int 0, .int 0])), (q2, .inl (K 0, 6, .inl (fun _ => 0))), (q3, .inr (iO, [.ref q4, .int 0, .int 0])), (q4, .inl (K 0, 6, .inl (fun _ => 0)))] H := hP
  have hD : va_D A [(h, .inr (iN, [.ref q1, .ref q3, .long 0, .int 0])), (q1, .inr (iO, [.ref q2, .int 0, .int 0])), (q2, .inl (K 0, 6, .inl (fun _ => 0))), (q3, .inr (iO, [.ref q4, .int 0, .int 0])), (q4, .inl (K 0, 6, .inl (fun _ => 0)))] := hD
  subst hAe
  exact W.vret hx hb hr (fun t ht _ => ⟨⟨_, rfl, ⟨q1, q2, q3, q4, rfl⟩, by rw [ht]; exact hP, hD⟩, hS.F ht⟩) hS.2.2 dX5_init_26

