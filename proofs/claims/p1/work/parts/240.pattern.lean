set_option maxHeartbeats 4000000 in
set_option maxRecDepth 100000 in
/-- become -/
theorem c_X2_become (l : Launch) (D : va_G) (K : Nat → ClassId) (tv : Nat) (ws : va_W) (ad : Nat → Nat) (n : Nat) (I dd : Nat → Nat) (mm : Nat) (hp0 : hPt K ad ws n I dd mm) (x0 x1 x2 : Nat) (hx0 : x0 < 72) (hx1 : x1 < 72) (hx2 : x2 < 72) : hV l D (hTy K) tv yX2_become cX2_become 4 none ({ frames := 0, cells := 0, slots := 0, locals := 0 }) [.ref (ad n), .int (hit x0), .int (hit x1), .int (hit x2)] ws (fun ws1 => hAg n (n + 3) ws ws1 ∧ hPt K ad ws1 n (fun p => if p = 0 then x0 else if p = 1 then x1 else x2) dd mm) := by
  intro sz
  refine Met.ofW (cc := cX2_become) (maxL := 4) (ret := none) (by decide) rfl ?_
  intro p e s m args below meth c s₁ B hml hv0
  obtain ⟨rfl, rfl, E, hP, hD⟩ := hentry hv0
  have hx := B.exec
  have hb := B.bytes
  have hr := B.returns
  have hts := atoms_spec (ws := hC yX2_become cX2_become 4 none) B.pre
  have hown : s.vm.findClass RX2 = some m.cls := findClass_of_methodNamed B.named
  have hlocks := B.notSynchronized
  generalize hAe : va_A ws s.heap.size = A at hD E ⊢
  have hl := lv_entry ([.ref (ad n), .int (hit x0), .int (hit x1), .int (hit x2)]) (n := 4) (Nat.le_of_ble_eq_true rfl)
  rw [lg_entry_eq]
  generalize (lg_sl ([.ref (ad n), .int (hit x0), .int (hit x1), .int (hit x2)]) ++ List.replicate (4 - (lg_sl ([.ref (ad n), .int (hit x0), .int (hit x1), .int (hit x2)])).length) Slot.unset).toArray = ls at hl ⊢
  have hl : lv_has ls 4 [(0, .ref (ad n)), (1, .int (hit x0)), (2, .int (hit x1)), (3, .int (hit x2))] := hl
  refine hat0 (fun H hHe => ?_)
  have hP : va_P D vwCl ws H := by rw [hHe]; exact hP
  have hS : va_S A s.heap H [] := by rw [hHe]; exact va_S.rf
  obtain ⟨fi, fd, h1, h2, h3, hfi, hfd⟩ := id hp0
  refine lv_aload_n hx hb dX2_become_0 rfl (lv_at hl 0 rfl) ?_
  refine va_get (v := .ref (ad (n + 1))) (C := RX2) (T := TX2) (N := 3) hx hb hts (hin_X2 hmc) hown E.1.1 hP n h1 rfl 0 (by decide) (hts _ (hmc _ k_75)) (fun _ h9 => h9) rfl dX2_become_1 ?_
  refine lv_iconst (v := nI 0) hx hb dX2_become_4 (by decide +kernel) ?_
  refine lv_iload_n hx hb dX2_become_5 rfl (lv_at hl 1 rfl) ?_
  refine va_iast hx hb E.1.1 hP hD hS (n + 1) 0 h2 rfl (vp_in_nI (by omega) (by omega)) dX2_become_6 (fun H locs hP hD hS => ?_)
  rw [nI_clamp (show 0 < 2 ^ 31 by omega)] at hP hD
  obtain ⟨ws1, ews1⟩ : ∃ z, z = List.set ws (n + 1) ((ad (n + 1)), .inl (K 0, 3, .inl (upd fi 0 (hit x0)))) := ⟨_, rfl⟩
  have hP : va_P D vwCl ws1 H := by rw [ews1]; exact hP
  have hD : va_D A ws1 := by rw [ews1]; exact hD
  have h1 := (show ws1[n]? = _ from (by rw [ews1]; exact hset_ne (by omega))).trans h1
  have h2 : ws1[(n + 1)]? = some ((ad (n + 1)), .inl (K 0, 3, .inl (upd fi 0 (hit x0)))) := by rw [ews1]; exact hset_eq h2
  have h3 := (show ws1[(n + 2)]? = _ from (by rw [ews1]; exact hset_ne (by omega))).trans h3
  refine lv_aload_n hx hb dX2_become_7 rfl (lv_at hl 0 rfl) ?_
  refine va_get (v := .ref (ad (n + 1))) (C := RX2) (T := TX2) (N := 3) hx hb hts (hin_X2 hmc) hown E.1.1 hP n h1 rfl 0 (by decide) (hts _ (hmc _ k_75)) (fun _ h9 => h9) rfl dX2_become_8 ?_
  refine lv_iconst (v := nI 1) hx hb dX2_become_11 (by decide +kernel) ?_
  refine lv_iload_n hx hb dX2_become_12 rfl (lv_at hl 2 rfl) ?_
  refine va_iast hx hb E.1.1 hP hD hS (n + 1) 0 h2 rfl (vp_in_nI (by omega) (by omega)) dX2_become_13 (fun H locs hP hD hS => ?_)
  rw [nI_clamp (show 1 < 2 ^ 31 by omega)] at hP hD
  obtain ⟨ws2, ews2⟩ : ∃ z, z = List.set ws1 (n + 1) ((ad (n + 1)), .inl (K 0, 3, .inl (upd (upd fi 0 (hit x0)) 1 (hit x1)))) := ⟨_, rfl⟩
  have hP : va_P D vwCl ws2 H := by rw [ews2]; exact hP
  have hD : va_D A ws2 := by rw [ews2]; exact hD
  have h1 := (show ws2[n]? = _ from (by rw [ews2]; exact hset_ne (by omega))).trans h1
  have h2 : ws2[(n + 1)]? = some ((ad (n + 1)), .inl (K 0, 3, .inl (upd (upd fi 0 (hit x0)) 1 (hit x1)))) := by rw [ews2]; exact hset_eq h2
  have h3 := (show ws2[(n + 2)]? = _ from (by rw [ews2]; exact hset_ne (by omega))).trans h3
  refine lv_aload_n hx hb dX2_become_14 rfl (lv_at hl 0 rfl) ?_
  refine va_get (v := .ref (ad (n + 1))) (C := RX2) (T := TX2) (N := 3) hx hb hts (hin_X2 hmc) hown E.1.1 hP n h1 rfl 0 (by decide) (hts _ (hmc _ k_75)) (fun _ h9 => h9) rfl dX2_become_15 ?_
  refine lv_iconst (v := nI 2) hx hb dX2_become_18 (by decide +kernel) ?_
  refine lv_iload_n hx hb dX2_become_19 rfl (lv_at hl 3 rfl) ?_
  refine va_iast hx hb E.1.1 hP hD hS (n + 1) 0 h2 rfl (vp_in_nI (by omega) (by omega)) dX2_become_20 (fun H locs hP hD hS => ?_)
  rw [nI_clamp (show 2 < 2 ^ 31 by omega)] at hP hD
  obtain ⟨ws3, ews3⟩ : ∃ z, z = List.set ws2 (n + 1) ((ad (n + 1)), .inl (K 0, 3, .inl (upd (upd (upd fi 0 (hit x0)) 1 (hit x1)) 2 (hit x2)))) := ⟨_, rfl⟩
  have hP : va_P D vwCl ws3 H := by rw [ews3]; exact hP
  have hD : va_D A ws3 := by rw [ews3]; exact hD
  have h1 := (show ws3[n]? = _ from (by rw [ews3]; exact hset_ne (by omega))).trans h1
  have h2 : ws3[(n + 1)]? = some ((ad (n + 1)), .inl (K 0, 3, .inl (upd (upd (upd fi 0 (hit x0)) 1 (hit x1)) 2 (hit x2)))) := by rw [ews3]; exact hset_eq h2
  have h3 := (show ws3[(n + 2)]? = _ from (by rw [ews3]; exact hset_ne (by omega))).trans h3
  subst hAe
  exact W.vret hx hb hr (fun t ht _ => ⟨⟨ws3, rfl, ⟨by rw [ews3, ews2, ews1]; exact ((hAg.rf.set (by omega) (by omega)).set (by omega) (by omega)).set (by omega) (by omega), _, fd, h1, h2, h3, fun p hp => by rcases (show p = 0 ∨ p = 1 ∨ p = 2 by omega) with rfl | rfl | rfl <;> simp [upd, hx0, hx1, hx2], hfd⟩, by rw [ht]; exact hP, hD⟩, hS.F ht⟩) hS.2.2 dX2_become_21

