set_option maxHeartbeats 4000000 in
set_option maxRecDepth 100000 in
theorem whole_start {p : Program} {e : Env} {s : State} {m : MethodId} {below : List Frame} {meth : Method} {c : Code} (l : Launch) {b L : Nat} {xs : Nat → Int32} (hL : L ≤ 2048) (C0 : lw_At p s m meth c b L xs) : W p l e room_1 s m #[Value.ref b] below meth c s.heap [] 0 0 (lw_Z below #[Value.ref b] s) (entryFrame m ([Value.ref b] : List Value).toArray 4) := by
  obtain ⟨hx, hb, hr, hml, hown, hts0, hX, hbl, hlocks, hgv⟩ := id C0
  obtain ⟨D, K, tv, E⟩ := hlaw_E hts0 hgv
  have hts := hlawts (w0 := (Jvm.Cond.initialized "JoinPlanner")) hts0 k_20
  generalize hAe : (fun q : Nat => s.heap.size ≤ q) = A at E
  have hAs : ∀ q : Nat, A q → s.heap.size ≤ q := fun q h => by rw [← hAe] at h; exact h
  have hbA : ¬ A b := fun h => Nat.not_le.mpr hbl (hAs b h)
  have hl := lv_entry ([.ref b]) (n := 4) (Nat.le_of_ble_eq_true rfl)
  rw [lg_entry_eq]
  generalize (lg_sl ([.ref b]) ++ List.replicate (4 - (lg_sl ([.ref b])).length) Slot.unset).toArray = ls at hl ⊢
  have hl : lv_has ls 4 [(0, .ref b)] := hl
  refine hat0 (fun H hHe => ?_)
  have hS : va_S A s.heap H [] := by rw [hHe]; exact va_S.rf
  have hP : va_P D vwCl [] H := fun k q h => by simp at h
  have hD : va_D A [] := ⟨fun i j p q h => by simp at h, fun k q h => by simp at h⟩
  refine va_new (ci := iJ) (fs := [.null, .null, .null, .null, .null, .int 0]) (C := RX0) (T := TX0) (N := 6) hx hb hts (hin_X0 hmc) tyX0 tyX0_ok hown (hts _ (hmc _ k_35)) (hts _ (hmc _ k_36)) (hts _ (hmc _ k_20)) E.1.1 hP hD hS E.2.2 rfl (fun j hj => by rcases (show j = 0 ∨ j = 1 ∨ j = 2 ∨ j = 3 ∨ j = 4 ∨ j = 5 by omega) with rfl | rfl | rfl | rfl | rfl | rfl <;> rfl) (Nat.le_of_ble_eq_true rfl) (Nat.le_of_ble_eq_true rfl) dL_law_0 (fun q0 H hP hD hS => ?_)
  have hP : va_P D vwCl ([] ++ [(q0, .inr (iJ, [.null, .null, .null, .null, .null, .int 0]))]) H := hP
  have hD : va_D A ([] ++ [(q0, .inr (iJ, [.null, .null, .null, .null, .null, .int 0]))]) := hD
  refine lv_dup hx hb dL_law_3 rfl ?_
  refine hc_new (ws := []) (x := (q0, .inr (iJ, [.null, .null, .null, .null, .null, .int 0]))) E hP hD hS (va_runI (As := []) (rest := [.ref q0]) ⟨hx, hb, hml, hown, hts⟩ (c_X0_init l D K tv q0 H.size) (cwI 0 hts (hGc hmc k_39) rfl rfl rfl (hts _ (hmc _ k_20)) (hts _ (hmc _ k_37)) (hts _ (hmc _ k_38)) rfl (by decide +kernel) ⟨Nat.le_of_ble_eq_true rfl, Nat.le_of_ble_eq_true rfl⟩) (hpre E (hlastP (ws := []) (x := (q0, .inr (iJ, [.null, .null, .null, .null, .null, .int 0]))) hP) (hlastD (ws := []) (x := (q0, .inr (iJ, [.null, .null, .null, .null, .null, .int 0]))) hD) hS) rfl rfl hl.1 rfl (lv_room (Nat.le_of_ble_eq_true rfl)) dL_law_4 ⟨Nat.le_of_ble_eq_true rfl, Nat.le_of_ble_eq_true rfl⟩) (fun wa Hwa locs hp hPn hDn hSn => ?_)
  obtain ⟨ax, hax, hs0⟩ := hp
  subst hax
  have hP : va_P D vwCl wa Hwa := hPn
  have hD : va_D A wa := hDn
  have hS := hSn
  refine lv_astore_n (lv' := [(1, .ref (ax 0)), (0, .ref b)]) hx hb dL_law_7 rfl hl (by decide) rfl (fun ls hl => ?_)
  refine va_new (ci := iM) (fs := [.null, .int 0, .null, .int 0, .null, .int 0, .null, .null, .null, .long 0, .null, .null, .null, .null, .int 0, .int 0, .null, .null]) (C := RX9) (T := TX9) (N := 18) hx hb hts (hin_X9 hmc) tyX9 tyX9_ok hown (hts _ (hmc _ k_562)) (hts _ (hmc _ k_563)) (hts _ (hmc _ k_29)) E.1.1 hP hD hS E.2.2 rfl (fun j hj => by rcases (show j = 0 ∨ j = 1 ∨ j = 2 ∨ j = 3 ∨ j = 4 ∨ j = 5 ∨ j = 6 ∨ j = 7 ∨ j = 8 ∨ j = 9 ∨ j = 10 ∨ j = 11 ∨ j = 12 ∨ j = 13 ∨ j = 14 ∨ j = 15 ∨ j = 16 ∨ j = 17 by omega) with rfl | rfl | rfl | rfl | rfl | rfl | rfl | rfl | rfl | rfl | rfl | rfl | rfl | rfl | rfl | rfl | rfl | rfl <;> rfl) (Nat.le_of_ble_eq_true rfl) (Nat.le_of_ble_eq_true rfl) dL_law_8 (fun q1 H hP hD hS => ?_)
  have hP : va_P D vwCl (wa ++ [(q1, .inr (iM, [.null, .int 0, .null, .int 0, .null, .int 0, .null, .null, .null, .long 0, .null, .null, .null, .null, .int 0, .int 0, .null, .null]))]) H := hP
  have hD : va_D A (wa ++ [(q1, .inr (iM, [.null, .int 0, .null, .int 0, .null, .int 0, .null, .null, .null, .long 0, .null, .null, .null, .null, .int 0, .int 0, .null, .null]))]) := hD
  refine lv_dup hx hb dL_law_11 rfl ?_
  refine hc_new (ws := wa) (x := (q1, .inr (iM, [.null, .int 0, .null, .int 0, .null, .int 0, .null, .null, .null, .long 0, .null, .null, .null, .null, .int 0, .int 0, .null, .null]))) E hP hD hS (va_runI (As := []) (rest := [.ref q1]) ⟨hx, hb, hml, hown, hts⟩ (c_X9_init l D K tv q1 H.size) (cwI 0 hts (hGc hmc k_566) rfl rfl rfl (hts _ (hmc _ k_29)) (hts _ (hmc _ k_564)) (hts _ (hmc _ k_565)) rfl (by decide +kernel) ⟨Nat.le_of_ble_eq_true rfl, Nat.le_of_ble_eq_true rfl⟩) (hpre E (hlastP (ws := wa) (x := (q1, .inr (iM, [.null, .int 0, .null, .int 0, .null, .int 0, .null, .null, .null, .long 0, .null, .null, .null, .null, .int 0, .int 0, .null, .null]))) hP) (hlastD (ws := wa) (x := (q1, .inr (iM, [.null, .int 0, .null, .int 0, .null, .int 0, .null, .null, .null, .long 0, .null, .null, .null, .null, .int 0, .int 0, .null, .null]))) hD) hS) rfl rfl hl.1 rfl (lv_room (Nat.le_of_ble_eq_true rfl)) dL_law_12 ⟨Nat.le_of_ble_eq_true rfl, Nat.le_of_ble_eq_true rfl⟩) (fun wb Hwb locs hp hPn hDn hSn => ?_)
  obtain ⟨bx, hbx, hm⟩ := hp
  subst hbx
  have hS := hSn
  refine lv_astore_n (lv' := [(2, .ref (bx 0)), (1, .ref (ax 0)), (0, .ref b)]) hx hb dL_law_15 rfl hl (by decide) rfl (fun ls hl => ?_)
  obtain ⟨hPa, hPb, hDa, hDb, hap⟩ := hsplit hPn hDn
  have C2 : hTwo D K A s ax bx wa wb Hwb locs (fun _ _ _ => False) 0 0 [] 64 64 := ⟨hCS0 hs0, hMS0 hm, hPa, hDa, hPb, hDb, hap, hS⟩
  have C1 : hAtL (Jvm.Cond.initialized "JoinPlanner") p s m meth c b L xs D K tv A := ⟨hx, hb, hr, hml, hown, hts, E, hX, hbl, hbA, hlocks, hAs, hL⟩
  refine lv_iconst (v := nI 0) hx hb dL_law_16 (by decide +kernel) ?_
  refine lv_istore_n (lv' := [(3, .int (nI 0)), (2, .ref (bx 0)), (1, .ref (ax 0)), (0, .ref b)]) hx hb dL_law_17 rfl hl (by decide) rfl (fun ls hl => ?_)
  exact hlaw_loop l ax bx C1 (L - 0 + 1) 0 (Nat.zero_le _) (Nat.lt_succ_self _) Hwb locs ls _ _ wa wb _ 0 0 [] 64 64 C2 (Nat.le_of_ble_eq_true rfl) (Nat.le_of_ble_eq_true rfl) (lv_sub hl [0, 1, 2, 3] rfl)
