set_option maxHeartbeats 4000000 in
set_option maxRecDepth 100000 in
/-- firstFrom: where code belongs -/
theorem c_X0_firstFrom (l : Launch) (D : va_G) (K : Nat → ClassId) (tv : Nat) (ws : va_W) (q a cnt code : Nat) (f : Nat → Int32) (g : Nat → Nat) (X : Nat → Prop) (hq : ws[q]? = some (a, .inl (K 0, 640, .inl f))) (hf : ∀ i, i < cnt → f i = nI (g i) ∧ g i < 2 ^ 31) (hs : hSor g cnt X) (hc : cnt ≤ 640) (hcode : code < 2 ^ 31) : hI l D (hTy K) tv yX0_firstFrom cX0_firstFrom 5 (some .int) ({ frames := 0, cells := 0, slots := 0, locals := 0 }) [.ref a, .int (nI cnt), .int (nI code)] ws (fun r ws1 => ws = ws1 ∧ r = nI (hlbf g cnt code)) := by
  intro sz
  refine Met.ofW (cc := cX0_firstFrom) (maxL := 5) (ret := (some .int)) (by decide) rfl ?_
  intro p e s m args below meth c s₁ B hml hv0
  obtain ⟨rfl, rfl, E, hP, hD⟩ := hentry hv0
  have hx := B.exec
  have hb := B.bytes
  have hr := B.returns
  have hts := atoms_spec (ws := hC yX0_firstFrom cX0_firstFrom 5 (some .int)) B.pre
  have hown : s.vm.findClass RX0 = some m.cls := findClass_of_methodNamed B.named
  have hlocks := B.notSynchronized
  generalize hAe : va_A ws s.heap.size = A at hD E ⊢
  have hl := lv_entry ([.ref a, .int (nI cnt), .int (nI code)]) (n := 5) (Nat.le_of_ble_eq_true rfl)
  rw [lg_entry_eq]
  generalize (lg_sl ([.ref a, .int (nI cnt), .int (nI code)]) ++ List.replicate (5 - (lg_sl ([.ref a, .int (nI cnt), .int (nI code)])).length) Slot.unset).toArray = ls at hl ⊢
  have hl : lv_has ls 5 [(0, .ref a), (1, .int (nI cnt)), (2, .int (nI code))] := hl
  refine hat0 (fun H hHe => ?_)
  have hP : va_P D vwCl ws H := by rw [hHe]; exact hP
  have hS : va_S A s.heap H [] := by rw [hHe]; exact va_S.rf
  refine lv_iconst (v := nI 0) hx hb dX0_firstFrom_0 (by decide +kernel) ?_
  refine lv_istore_n (lv' := [(3, .int (nI 0)), (0, .ref a), (1, .int (nI cnt)), (2, .int (nI code))]) hx hb dX0_firstFrom_1 rfl hl (by decide) rfl (fun ls hl => ?_)
  refine lv_sipush (v := nI 512) hx hb dX0_firstFrom_2 (by decide +kernel) ?_
  refine lv_istore (lv' := [(4, .int (nI 512)), (3, .int (nI 0)), (0, .ref a), (1, .int (nI cnt)), (2, .int (nI code))]) hx hb dX0_firstFrom_5 hl (by decide) rfl (fun ls hl => ?_)
  refine hloop0 (α := Nat × Nat) 7 5 (fun x => [(4, .int (nI x.2)), (3, .int (nI x.1)), (0, .ref a), (1, .int (nI cnt)), (2, .int (nI code))]) (fun x => (x.2 = 0 ∨ ∃ j, x.2 = 2 ^ j) ∧ x.2 ≤ 512 ∧ hSt g cnt code x.1 x.2) (fun x => x.2) ?_ (0, 512) ls ⟨Or.inr ⟨9, rfl⟩, Nat.le_refl _, hSt.start (by omega)⟩ (lv_sub hl [0, 1, 2, 3, 4] rfl)
  rintro ⟨b, st⟩ ls ⟨hp2, h512, hinv⟩ hl ih
  dsimp only at hp2 h512 hinv ih
  have hl : lv_has ls 5 [(4, .int (nI st)), (3, .int (nI b)), (0, .ref a), (1, .int (nI cnt)), (2, .int (nI code))] := hl
  have hbn := hinv.1
  refine lv_iload hx hb dX0_firstFrom_7 (lv_at hl 0 rfl) ?_
  refine lv_if_le (tgt := 46) hx hb dX0_firstFrom_9 (by decide) (fun c1 => ?_) (fun c1 => ?_)
  · have hz : st = 0 := by
      rcases Nat.eq_zero_or_pos st with z | z
      · exact z
      · exact absurd c1 (nI_nle z (by omega))
    subst hz
    refine lv_iload_n hx hb dX0_firstFrom_46 rfl (lv_at hl 1 rfl) ?_
    subst hAe
    exact W.iret (v := nI b) hx hb hr (fun t ht _ => ⟨⟨nI b, ws, rfl, ⟨rfl, by rw [hinv.end_.uniq (hs.lb code)]⟩, by rw [ht]; exact hP, hD⟩, hS.F ht⟩) hS.2.2 dX0_firstFrom_47
  · have hpos : 0 < st := Nat.pos_of_ne_zero (fun z => c1 (by rw [z]; decide))
    have hev : st = 1 ∨ st % 2 = 0 := hpow_ev hp2
    have hnx : (st / 2 = 0 ∨ ∃ j, st / 2 = 2 ^ j) := hpow_half hp2
    refine lv_iload_n hx hb dX0_firstFrom_12 rfl (lv_at hl 1 rfl) ?_
    refine lv_iload hx hb dX0_firstFrom_13 (lv_at hl 0 rfl) ?_
    refine lv_iadd hx hb dX0_firstFrom_15 ?_
    refine htopi (v := nI (b + st)) (nI_add _ _) ?_
    refine lv_iload_n hx hb dX0_firstFrom_16 rfl (lv_at hl 3 rfl) ?_
    refine lv_icmp_gt (tgt := 37) hx hb dX0_firstFrom_17 (by decide) (fun c2 => ?_) (fun c2 => ?_)
    · have hi2 := hinv.no hs hpos hev (Or.inl (Nat.not_le.mp (fun z => absurd c2 (nI_nlt z (by omega)))))
      refine lv_iload hx hb dX0_firstFrom_37 (lv_at hl 0 rfl) ?_
      refine lv_iconst (v := nI 2) hx hb dX0_firstFrom_39 (by decide +kernel) ?_
      refine lv_idiv hx hb dX0_firstFrom_40 (by decide +kernel) ?_
      refine htopi (v := nI (st / 2)) (pk_div (by omega) (by decide) (by decide)) ?_
      refine lv_istore (lv' := [(4, .int (nI (st / 2))), (3, .int (nI b)), (0, .ref a), (1, .int (nI cnt)), (2, .int (nI code))]) hx hb dX0_firstFrom_41 hl (by decide) rfl (fun ls hl => ?_)
      refine lv_goto (tgt := 7) hx hb dX0_firstFrom_43 (by decide) ?_
      exact ih (b, st / 2) ls ⟨hnx, by show st / 2 ≤ 512; omega, hi2⟩ (by show st / 2 < st; omega) (lv_sub hl [0, 1, 2, 3, 4] rfl)
    · have hle : b + st ≤ cnt := by
        rcases Nat.lt_or_ge cnt (b + st) with z | z
        · exact absurd (nI_lt z (by omega)) c2
        · exact z
      obtain ⟨hfi, hgi⟩ := hf (b + st - 1) (by omega)
      refine lv_aload_n hx hb dX0_firstFrom_20 rfl (lv_at hl 2 rfl) ?_
      refine lv_iload_n hx hb dX0_firstFrom_21 rfl (lv_at hl 1 rfl) ?_
      refine lv_iload hx hb dX0_firstFrom_22 (lv_at hl 0 rfl) ?_
      refine lv_iadd hx hb dX0_firstFrom_24 ?_
      refine htopi (v := nI (b + st)) (nI_add _ _) ?_
      refine lv_iconst (v := nI 1) hx hb dX0_firstFrom_25 (by decide +kernel) ?_
      refine lv_isub hx hb dX0_firstFrom_26 ?_
      refine htopi (v := nI (b + st - 1)) (pk_sub (by omega)) ?_
      refine va_iald hx hb E.1.1 hP q 0 hq rfl (vp_in_nI (by omega) (by omega)) dX0_firstFrom_27 ?_
      refine htopi (v := f (b + st - 1)) (by rw [nI_clamp (by omega)]) ?_
      refine htopi (v := nI (g (b + st - 1))) (hfi) ?_
      refine lv_iload_n hx hb dX0_firstFrom_28 rfl (lv_at hl 4 rfl) ?_
      refine lv_icmp_ge (tgt := 37) hx hb dX0_firstFrom_29 (by decide) (fun c3 => ?_) (fun c3 => ?_)
      · have hi2 := hinv.no hs hpos hev (Or.inr ((nI_leI hcode hgi).mp c3))
        refine lv_iload hx hb dX0_firstFrom_37 (lv_at hl 0 rfl) ?_
        refine lv_iconst (v := nI 2) hx hb dX0_firstFrom_39 (by decide +kernel) ?_
        refine lv_idiv hx hb dX0_firstFrom_40 (by decide +kernel) ?_
        refine htopi (v := nI (st / 2)) (pk_div (by omega) (by decide) (by decide)) ?_
        refine lv_istore (lv' := [(4, .int (nI (st / 2))), (3, .int (nI b)), (0, .ref a), (1, .int (nI cnt)), (2, .int (nI code))]) hx hb dX0_firstFrom_41 hl (by decide) rfl (fun ls hl => ?_)
        refine lv_goto (tgt := 7) hx hb dX0_firstFrom_43 (by decide) ?_
        exact ih (b, st / 2) ls ⟨hnx, by show st / 2 ≤ 512; omega, hi2⟩ (by show st / 2 < st; omega) (lv_sub hl [0, 1, 2, 3, 4] rfl)
      · have hlt : g (b + st - 1) < code := Nat.not_le.mp (fun z => c3 ((nI_leI hcode hgi).mpr z))
        have hi2 := hinv.yes hs hpos hev hle hlt
        refine lv_iload_n hx hb dX0_firstFrom_32 rfl (lv_at hl 1 rfl) ?_
        refine lv_iload hx hb dX0_firstFrom_33 (lv_at hl 0 rfl) ?_
        refine lv_iadd hx hb dX0_firstFrom_35 ?_
        refine htopi (v := nI (b + st)) (nI_add _ _) ?_
        refine lv_istore_n (lv' := [(3, .int (nI (b + st))), (4, .int (nI st)), (0, .ref a), (1, .int (nI cnt)), (2, .int (nI code))]) hx hb dX0_firstFrom_36 rfl hl (by decide) rfl (fun ls hl => ?_)
        refine lv_iload hx hb dX0_firstFrom_37 (lv_at hl 1 rfl) ?_
        refine lv_iconst (v := nI 2) hx hb dX0_firstFrom_39 (by decide +kernel) ?_
        refine lv_idiv hx hb dX0_firstFrom_40 (by decide +kernel) ?_
        refine htopi (v := nI (st / 2)) (pk_div (by omega) (by decide) (by decide)) ?_
        refine lv_istore (lv' := [(4, .int (nI (st / 2))), (3, .int (nI (b + st))), (0, .ref a), (1, .int (nI cnt)), (2, .int (nI code))]) hx hb dX0_firstFrom_41 hl (by decide) rfl (fun ls hl => ?_)
        refine lv_goto (tgt := 7) hx hb dX0_firstFrom_43 (by decide) ?_
        exact ih (b + st, st / 2) ls ⟨hnx, by show st / 2 ≤ 512; omega, hi2⟩ (by show st / 2 < st; omega) (lv_sub hl [0, 1, 2, 3, 4] rfl)
