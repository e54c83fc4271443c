set_option maxHeartbeats 4000000 in
set_option maxRecDepth 100000 in
theorem whole_start {p : Program} {e : Env} {s : State} {m : MethodId} {below : List Frame} {meth : Method} {c : Code} (l : Launch) {b L : Nat} {xs : Nat → Int32} (hL : L ≤ 4) (C0 : lw_At p s m meth c b L xs) : W p l e room_1 s m #[Value.ref b] below meth c s.heap [] 0 0 (lw_Z below #[Value.ref b] s) (entryFrame m ([Value.ref b] : List Value).toArray 4) := by
  obtain ⟨hx, hb, hr, hml, hown, hts0, hX, hbl, hlocks, hgv⟩ := id C0
  obtain ⟨D, K, tv, E⟩ := hlaw_E hts0 hgv
  have hts := hlawts (w0 := (Jvm.Cond.initialized "JoinPlanner")) hts0 k_20
  generalize hAe : (fun q : Nat => s.heap.size ≤ q) = A at E
  have hAs : ∀ q : Nat, A q → s.heap.size ≤ q := fun q h => by rw [← hAe] at h; exact h
  have hbA : ¬ A b := fun h => Nat.not_le.mpr hbl (hAs b h)
  have hl := lv_entry ([.ref b]) (n := 4) (Nat.le_of_ble_eq_true rfl)
  rw [lg_entry_eq]
  generalize (lg_sl ([.ref b]) ++ List.replicate (4 - (lg_sl ([.ref b])).length) Slot.unset).toArray = ls at hl ⊢
  have hl : lv_has ls 4 [(0, .ref b)] := hl
  refine hat0 (fun H hHe => ?_)
  have hS : va_S A s.heap H [] := by rw [hHe]; exact va_S.rf
  have hP : va_P D vwCl [] H := fun k q h => by simp at h
  have hD : va_D A [] := ⟨fun i j p q h => by simp at h, fun k q h => by simp at h⟩
  refine va_new (ci := iJ) (fs := [.null, .null, .null, .null, .null, .int 0]) (C := RX0) (T := TX0) (N := 6) hx hb hts (hin_X0 hmc) tyX0 tyX0_ok hown (hts _ (hmc _ k_35)) (hts _ (hmc _ k_36)) (hts _ (hmc _ k_20)) E.1.1 hP hD hS E.2.2 rfl (fun j hj => by rcases (show j = 0 ∨ j = 1 ∨ j = 2 ∨ j = 3 ∨ j = 4 ∨ j = 5 by omega) with rfl | rfl | rfl | rfl | rfl | rfl <;> rfl) (Nat.le_of_ble_eq_true rfl) (Nat.le_of_ble_eq_true rfl) dL_law_0 (fun q0 H hP hD hS => ?_)
  have hP : va_P D vwCl ([] ++ [(q0, .inr (iJ, [.null, .null, .null, .null, .null, .int 0]))]) H := hP
  have hD : va_D A ([] ++ [(q0, .inr (iJ, [.null, .null, .null, .null, .null, .int 0]))]) := hD
  refine lv_dup hx hb dL_law_3 rfl ?_
  refine hc_new (ws := []) (x := (q0, .inr (iJ, [.null, .null, .null, .null, .null, .int 0]))) E hP hD hS (va_runI (As := []) (rest := [.ref q0]) ⟨hx, hb, hml, hown, hts⟩ (c_X0_init l D K tv q0 H.size) (cwI 0 hts (hGc hmc k_39) rfl rfl rfl (hts _ (hmc _ k_20)) (hts _ (hmc _ k_37)) (hts _ (hmc _ k_38)) rfl (by decide +kernel) ⟨Nat.le_of_ble_eq_true rfl, Nat.le_of_ble_eq_true rfl⟩) (hpre E (hlastP (ws := []) (x := (q0, .inr (iJ, [.null, .null, .null, .null, .null, .int 0]))) hP) (hlastD (ws := []) (x := (q0, .inr (iJ, [.null, .null, .null, .null, .null, .int 0]))) hD) hS) rfl rfl hl.1 rfl (lv_room (Nat.le_of_ble_eq_true rfl)) dL_law_4 ⟨Nat.le_of_ble_eq_true rfl, Nat.le_of_ble_eq_true rfl⟩) (fun wa Hwa locs hp hPn hDn hSn => ?_)
  obtain ⟨ax, hax, hs0⟩ := hp
  subst hax
  have hP : va_P D vwCl wa Hwa := hPn
  have hD : va_D A wa := hDn
  have hS := hSn
  refine lv_astore_n (lv' := [(1, .ref (ax 0)), (0, .ref b)]) hx hb dL_law_7 rfl hl (by decide) rfl (fun ls hl => ?_)
  refine va_new (ci := iM) (fs := [.null, .int 0, .null, .int 0, .null, .int 0, .null, .null, .null, .long 0, .null, .null, .null, .null, .int 0, .int 0, .null, .null]) (C := RX9) (T := TX9) (N := 18) hx hb hts (hin_X9 hmc) tyX9 tyX9_ok hown (hts _ (hmc _ k_562)) (hts _ (hmc _ k_563)) (hts _ (hmc _ k_29)) E.1.1 hP hD hS E.2.2 rfl (fun j hj => by rcases (show j = 0 ∨ j = 1 ∨ j = 2 ∨ j = 3 ∨ j = 4 ∨ j = 5 ∨ j = 6 ∨ j = 7 ∨ j = 8 ∨ j = 9 ∨ j = 10 ∨ j = 11 ∨ j = 12 ∨ j = 13 ∨ j = 14 ∨ j = 15 ∨ j = 16 ∨ j = 17 by omega) with rfl | rfl | rfl | rfl | rfl | rfl | rfl | rfl | rfl | rfl | rfl | rfl | rfl | rfl | rfl | rfl | rfl | rfl <;> rfl) (Nat.le_of_ble_eq_true rfl) (Nat.le_of_ble_eq_true rfl) dL_law_8 (fun q1 H hP hD hS => ?_)
  have hP : va_P D vwCl (wa ++ [(q1, .inr (iM, [.null, .int 0, .null, .int 0, .null, .int 0, .null, .null, .null, .long 0, .null, .null, .null, .null, .int 0, .int 0, .null, .null]))]) H := hP
  have hD : va_D A (wa ++ [(q1, .inr (iM, [.null, .int 0, .null, .int 0, .null, .int 0, .null, .null, .null, .long 0, .null, .null, .null, .null, .int 0, .int 0, .null, .null]))]) := hD
  refine lv_dup hx hb dL_law_11 rfl ?_
  refine hc_new (ws := wa) (x := (q1, .inr (iM, [.null, .int 0, .null, .int 0, .null, .int 0, .null, .null, .null, .long 0, .null, .null, .null, .null, .int 0, .int 0, .null, .null]))) E hP hD hS (va_runI (As := []) (rest := [.ref q1]) ⟨hx, hb, hml, hown, hts⟩ (c_X9_init l D K tv q1 H.size) (cwI 0 hts (hGc hmc k_566) rfl rfl rfl (hts _ (hmc _ k_29)) (hts _ (hmc _ k_564)) (hts _ (hmc _ k_565)) rfl (by decide +kernel) ⟨Nat.le_of_ble_eq_true rfl, Nat.le_of_ble_eq_true rfl⟩) (hpre E (hlastP (ws := wa) (x := (q1, .inr (iM, [.null, .int 0, .null, .int 0, .null, .int 0, .null, .null, .null, .long 0, .null, .null, .null, .null, .int 0, .int 0, .null, .null]))) hP) (hlastD (ws := wa) (x := (q1, .inr (iM, [.null, .int 0, .null, .int 0, .null, .int 0, .null, .null, .null, .long 0, .null, .null, .null, .null, .int 0, .int 0, .null, .null]))) hD) hS) rfl rfl hl.1 rfl (lv_room (Nat.le_of_ble_eq_true rfl)) dL_law_12 ⟨Nat.le_of_ble_eq_true rfl, Nat.le_of_ble_eq_true rfl⟩) (fun wb Hwb locs hp hPn hDn hSn => ?_)
  obtain ⟨bx, hbx, hm⟩ := hp
  subst hbx
  have hS := hSn
  refine lv_astore_n (lv' := [(2, .ref (bx 0)), (1, .ref (ax 0)), (0, .ref b)]) hx hb dL_law_15 rfl hl (by decide) rfl (fun ls hl => ?_)
  obtain ⟨hPa, hPb, hDa, hDb, hap⟩ := hsplit hPn hDn
  have C2 : hTwo D K A s ax bx wa wb Hwb locs := ⟨hs0, hm, hPa, hDa, hPb, hDb, hap, hS⟩
  refine lv_iconst (v := nI 0) hx hb dL_law_16 (by decide +kernel) ?_
  refine lv_istore_n (lv' := [(3, .int (nI 0)), (2, .ref (bx 0)), (1, .ref (ax 0)), (0, .ref b)]) hx hb dL_law_17 rfl hl (by decide) rfl (fun ls hl => ?_)
  refine lv_iload_n hx hb dL_law_18 rfl (lv_at hl 0 rfl) ?_
  refine lv_aload_n hx hb dL_law_19 rfl (lv_at hl 3 rfl) ?_
  refine va_slen hx hb hX hbl hbA hS dL_law_20 ?_
  refine lv_iconst (v := nI 4) hx hb dL_law_21 (by decide +kernel) ?_
  refine lv_isub hx hb dL_law_22 ?_
  rcases Nat.lt_or_ge L 4 with hL4 | hL4
  · refine lv_icmp_gt (tgt := 454) hx hb dL_law_23 (by decide) (fun c1 => ?_) (fun c1 => ?_)
    · refine lv_iconst (v := nI 1) hx hb dL_law_454 (by decide +kernel) ?_
      refine va_forget (fun q hq => hAs _ (hS.2.2 q hq)) ?_
      refine W.widen (k := 600000) (n := 7302249) (Nat.le_of_ble_eq_true rfl) (Nat.le_of_ble_eq_true rfl) ?_
      exact lw_ret hx hb hr hlocks dL_law_455
    · exact absurd (hfour L hL4) c1
  · obtain rfl : L = 4 := by omega
    have C1 : hAtL (Jvm.Cond.initialized "JoinPlanner") p s m meth c b xs D K tv A := ⟨hx, hb, hr, hml, hown, hts, E, hX, hbl, hbA, hlocks, hAs⟩
    refine htopi (v := nI 0) (by decide +kernel) ?_
    refine lv_icmp_gt (tgt := 454) hx hb dL_law_23 (by decide) (fun c1 => ?_) (fun c1 => ?_)
    · exact absurd c1 (by decide +kernel)
    · refine lv_aload_n hx hb dL_law_26 rfl (lv_at hl 3 rfl) ?_
      refine lv_iload_n hx hb dL_law_27 rfl (lv_at hl 0 rfl) ?_
      refine va_sld hx hb hX hbl hbA hS (vp_in_nI (by omega) (by omega)) dL_law_28 ?_
      refine htopi (v := xs 0) (by rw [nI_clamp (by omega)]) ?_
      refine lv_bipush (v := nI 15) hx hb dL_law_29 (by decide +kernel) ?_
      refine lv_iand hx hb dL_law_31 ?_
      obtain ⟨j, hj, ej⟩ := hand15 (xs 0)
      refine htopi (v := nI j) (ej) ?_
      rcases (show j = 0 ∨ j = 1 ∨ j = 2 ∨ j = 3 ∨ j = 4 ∨ j = 5 ∨ j = 6 ∨ j = 7 ∨ j = 8 ∨ j = 9 ∨ j = 10 ∨ j = 11 ∨ j = 12 ∨ j = 13 ∨ j = 14 ∨ j = 15 by omega) with rfl | rfl | rfl | rfl | rfl | rfl | rfl | rfl | rfl | rfl | rfl | rfl | rfl | rfl | rfl | rfl
      · refine lv_tableIn (off := 72) (tgt := 104) hx hb dL_law_32 (by decide +kernel) (by decide +kernel) (by decide +kernel) (by decide) ?_
        exact hcase_0 l ax bx wa wb (Nat.le_of_ble_eq_true rfl) (Nat.le_of_ble_eq_true rfl) C1 C2 (lv_sub hl [0, 1, 2, 3] rfl)
      · refine lv_tableIn (off := 115) (tgt := 147) hx hb dL_law_32 (by decide +kernel) (by decide +kernel) (by decide +kernel) (by decide) ?_
        exact hcase_1 l ax bx wa wb (Nat.le_of_ble_eq_true rfl) (Nat.le_of_ble_eq_true rfl) C1 C2 (lv_sub hl [0, 1, 2, 3] rfl)
      · refine lv_tableIn (off := 158) (tgt := 190) hx hb dL_law_32 (by decide +kernel) (by decide +kernel) (by decide +kernel) (by decide) ?_
        exact hcase_2 l ax bx wa wb (Nat.le_of_ble_eq_true rfl) (Nat.le_of_ble_eq_true rfl) C1 C2 (lv_sub hl [0, 1, 2, 3] rfl)
      · refine lv_tableIn (off := 171) (tgt := 203) hx hb dL_law_32 (by decide +kernel) (by decide +kernel) (by decide +kernel) (by decide) ?_
        exact hcase_3 l ax bx wa wb (Nat.le_of_ble_eq_true rfl) (Nat.le_of_ble_eq_true rfl) C1 C2 (lv_sub hl [0, 1, 2, 3] rfl)
      · refine lv_tableIn (off := 214) (tgt := 246) hx hb dL_law_32 (by decide +kernel) (by decide +kernel) (by decide +kernel) (by decide) ?_
        exact hcase_4 l ax bx wa wb (Nat.le_of_ble_eq_true rfl) (Nat.le_of_ble_eq_true rfl) C1 C2 (lv_sub hl [0, 1, 2, 3] rfl)
      · refine lv_tableIn (off := 227) (tgt := 259) hx hb dL_law_32 (by decide +kernel) (by decide +kernel) (by decide +kernel) (by decide) ?_
        exact hcase_5 l ax bx wa wb (Nat.le_of_ble_eq_true rfl) (Nat.le_of_ble_eq_true rfl) C1 C2 (lv_sub hl [0, 1, 2, 3] rfl)
      · refine lv_tableIn (off := 260) (tgt := 292) hx hb dL_law_32 (by decide +kernel) (by decide +kernel) (by decide +kernel) (by decide) ?_
        exact hcase_6 l ax bx wa wb (Nat.le_of_ble_eq_true rfl) (Nat.le_of_ble_eq_true rfl) C1 C2 (lv_sub hl [0, 1, 2, 3] rfl)
      · refine lv_tableIn (off := 283) (tgt := 315) hx hb dL_law_32 (by decide +kernel) (by decide +kernel) (by decide +kernel) (by decide) ?_
        exact hcase_7 l ax bx wa wb (Nat.le_of_ble_eq_true rfl) (Nat.le_of_ble_eq_true rfl) C1 C2 (lv_sub hl [0, 1, 2, 3] rfl)
      · refine lv_tableIn (off := 297) (tgt := 329) hx hb dL_law_32 (by decide +kernel) (by decide +kernel) (by decide +kernel) (by decide) ?_
        exact hcase_8 l ax bx wa wb (Nat.le_of_ble_eq_true rfl) (Nat.le_of_ble_eq_true rfl) C1 C2 (lv_sub hl [0, 1, 2, 3] rfl)
      · refine lv_tableIn (off := 320) (tgt := 352) hx hb dL_law_32 (by decide +kernel) (by decide +kernel) (by decide +kernel) (by decide) ?_
        exact hcase_9 l ax bx wa wb (Nat.le_of_ble_eq_true rfl) (Nat.le_of_ble_eq_true rfl) C1 C2 (lv_sub hl [0, 1, 2, 3] rfl)
      · refine lv_tableIn (off := 333) (tgt := 365) hx hb dL_law_32 (by decide +kernel) (by decide +kernel) (by decide +kernel) (by decide) ?_
        exact hcase_10 l ax bx wa wb (Nat.le_of_ble_eq_true rfl) (Nat.le_of_ble_eq_true rfl) C1 C2 (lv_sub hl [0, 1, 2, 3] rfl)
      · refine lv_tableIn (off := 357) (tgt := 389) hx hb dL_law_32 (by decide +kernel) (by decide +kernel) (by decide +kernel) (by decide) ?_
        exact hcase_11 l ax bx wa wb (Nat.le_of_ble_eq_true rfl) (Nat.le_of_ble_eq_true rfl) C1 C2 (lv_sub hl [0, 1, 2, 3] rfl)
      · refine lv_tableIn (off := 370) (tgt := 402) hx hb dL_law_32 (by decide +kernel) (by decide +kernel) (by decide +kernel) (by decide) ?_
        exact hcase_12 l ax bx wa wb (Nat.le_of_ble_eq_true rfl) (Nat.le_of_ble_eq_true rfl) C1 C2 (lv_sub hl [0, 1, 2, 3] rfl)
      · refine lv_tableIn (off := 383) (tgt := 415) hx hb dL_law_32 (by decide +kernel) (by decide +kernel) (by decide +kernel) (by decide) ?_
        exact hcase_13 l ax bx wa wb (Nat.le_of_ble_eq_true rfl) (Nat.le_of_ble_eq_true rfl) C1 C2 (lv_sub hl [0, 1, 2, 3] rfl)
      · refine lv_tableOut (tgt := 448) hx hb dL_law_32 (Or.inr (by decide +kernel)) (by decide) ?_
        exact hlaw_end l (Nat.le_of_ble_eq_true rfl) (Nat.le_of_ble_eq_true rfl) C1 hS (lv_sub hl [0, 3] rfl)
      · refine lv_tableOut (tgt := 448) hx hb dL_law_32 (Or.inr (by decide +kernel)) (by decide) ?_
        exact hlaw_end l (Nat.le_of_ble_eq_true rfl) (Nat.le_of_ble_eq_true rfl) C1 hS (lv_sub hl [0, 3] rfl)
