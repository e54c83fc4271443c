set_option maxHeartbeats 4000000 in
set_option maxRecDepth 100000 in
/-- the reference: bit -/
theorem c_X9_bit (l : Launch) (x : Int32) : hSi l yX9_bit cX9_bit 1 (some .int) ({ frames := 0, cells := 0, slots := 0, locals := 0 }) [.int x] (fun _ => True) := by
  refine Met.ofW (cc := cX9_bit) (maxL := 1) (ret := (some .int)) (by decide) rfl ?_
  intro p e s m args below meth c s₁ B hml hv0
  obtain ⟨rfl, -⟩ := hv0
  have hx := B.exec
  have hb := B.bytes
  have hr := B.returns
  have hts := atoms_spec (ws := hC yX9_bit cX9_bit 1 (some .int)) B.pre
  have hown : s.vm.findClass RX9 = some m.cls := findClass_of_methodNamed B.named
  have hlocks := B.notSynchronized
  have hl := lv_entry ([.int x]) (n := 1) (Nat.le_of_ble_eq_true rfl)
  rw [lg_entry_eq]
  generalize (lg_sl ([.int x]) ++ List.replicate (1 - (lg_sl ([.int x])).length) Slot.unset).toArray = ls at hl ⊢
  have hl : lv_has ls 1 [(0, .int x)] := hl
  refine lv_iconst (v := nI 1) hx hb dX9_bit_0 (by decide +kernel) ?_
  refine lv_iconst (v := (-1)) hx hb dX9_bit_1 (by decide +kernel) ?_
  refine lv_iload_n hx hb dX9_bit_2 rfl (lv_at hl 0 rfl) ?_
  refine lv_isub hx hb dX9_bit_3 ?_
  refine lv_ishl hx hb dX9_bit_4 ?_
  exact W.iret (v := ((nI 1) <<< (((-1) - x) &&& 31))) hx hb hr (fun t ht _ => ⟨((nI 1) <<< (((-1) - x) &&& 31)), rfl, trivial, ht⟩) (fun _ h => by cases h) dX9_bit_5

set_option maxHeartbeats 4000000 in
set_option maxRecDepth 100000 in
/-- the reference: product -/
theorem c_X9_product (l : Launch) (x y : Int64) : hSl l yX9_product cX9_product 4 (some .long) ({ frames := 0, cells := 0, slots := 0, locals := 0 }) [.long x, .long y] (fun _ => True) := by
  refine Met.ofW (cc := cX9_product) (maxL := 4) (ret := (some .long)) (by decide) rfl ?_
  intro p e s m args below meth c s₁ B hml hv0
  obtain ⟨rfl, -⟩ := hv0
  have hx := B.exec
  have hb := B.bytes
  have hr := B.returns
  have hts := atoms_spec (ws := hC yX9_product cX9_product 4 (some .long)) B.pre
  have hown : s.vm.findClass RX9 = some m.cls := findClass_of_methodNamed B.named
  have hlocks := B.notSynchronized
  have hl := lv_entry ([.long x, .long y]) (n := 4) (Nat.le_of_ble_eq_true rfl)
  rw [lg_entry_eq]
  generalize (lg_sl ([.long x, .long y]) ++ List.replicate (4 - (lg_sl ([.long x, .long y])).length) Slot.unset).toArray = ls at hl ⊢
  have hl : lv_has ls 4 [(0, .long x), (2, .long y)] := hl
  refine lv_lload_n hx hb dX9_product_0 rfl (lv_at hl 1 rfl) ?_
  refine lv_lconst (v := lN 0) hx hb dX9_product_1 (by decide +kernel) ?_
  refine W.lcmp hx hb dX9_product_2 ?_
  refine lv_if_ne (tgt := 8) hx hb dX9_product_3 (by decide) (fun c1 => ?_) (fun c1 => ?_)
  · refine lv_lload_n hx hb dX9_product_8 rfl (lv_at hl 0 rfl) ?_
    refine lv_ldc2 (v := 1000000000000) hx hb hown (hts _ (hmc _ k_698)) dX9_product_9 ?_
    refine lv_lload_n hx hb dX9_product_12 rfl (lv_at hl 1 rfl) ?_
    refine lv_ldiv hx hb dX9_product_13 (fun q => c1 ((lg_cmp_eq _ _).mpr q)) ?_
    refine W.lcmp hx hb dX9_product_14 ?_
    refine lv_if_le (tgt := 24) hx hb dX9_product_15 (by decide) (fun c2 => ?_) (fun c2 => ?_)
    · refine lv_lload_n hx hb dX9_product_24 rfl (lv_at hl 0 rfl) ?_
      refine lv_lload_n hx hb dX9_product_25 rfl (lv_at hl 1 rfl) ?_
      refine lv_lmul hx hb dX9_product_26 ?_
      exact W.lret (v := (x * y)) hx hb hr (fun t ht _ => ⟨(x * y), rfl, trivial, ht⟩) (fun _ h => by cases h) dX9_product_27
    · refine lv_ldc2 (v := 1000000000000) hx hb hown (hts _ (hmc _ k_698)) dX9_product_18 ?_
      refine lv_goto (tgt := 27) hx hb dX9_product_21 (by decide) ?_
      exact W.lret (v := 1000000000000) hx hb hr (fun t ht _ => ⟨1000000000000, rfl, trivial, ht⟩) (fun _ h => by cases h) dX9_product_27
  · refine lv_lconst (v := lN 0) hx hb dX9_product_6 (by decide +kernel) ?_
    exact W.lret (v := lN 0) hx hb hr (fun t ht _ => ⟨lN 0, rfl, trivial, ht⟩) (fun _ h => by cases h) dX9_product_7

set_option maxHeartbeats 4000000 in
set_option maxRecDepth 100000 in
/-- the reference: hasNumbers -/
theorem c_X9_hasNumbers (l : Launch) (D : va_G) (K : Nat → ClassId) (tv : Nat) (ws : va_W) (ad : Nat → Nat) (f : Nat → Nat → Int32) (ct pt md : Nat) (lz : Int64) (kp : Nat) (fd : Int32) (hrx : hRX K ad ws f ct pt md lz kp fd) (t p9 : Nat) (ht6 : t < 640) (hp6 : p9 < 6) : hI l D (hTy K) tv yX9_hasNumbers cX9_hasNumbers 5 (some .boolean) ({ frames := 0, cells := 0, slots := 0, locals := 0 }) [.ref (ad 0), .int (nI t), .int (nI p9)] ws (fun r ws1 => ws = ws1 ∧ hBool r (hHN f t p9)) := by
  intro sz
  refine Met.ofW (cc := cX9_hasNumbers) (maxL := 5) (ret := (some .boolean)) (by decide) rfl ?_
  intro p e s m args below meth c s₁ B hml hv0
  obtain ⟨rfl, rfl, E, hP, hD⟩ := hentry hv0
  have hx := B.exec
  have hb := B.bytes
  have hr := B.returns
  have hts := atoms_spec (ws := hC yX9_hasNumbers cX9_hasNumbers 5 (some .boolean)) B.pre
  have hown : s.vm.findClass RX9 = some m.cls := findClass_of_methodNamed B.named
  have hlocks := B.notSynchronized
  generalize hAe : va_A ws s.heap.size = A at hD E ⊢
  have hl := lv_entry ([.ref (ad 0), .int (nI t), .int (nI p9)]) (n := 5) (Nat.le_of_ble_eq_true rfl)
  rw [lg_entry_eq]
  generalize (lg_sl ([.ref (ad 0), .int (nI t), .int (nI p9)]) ++ List.replicate (5 - (lg_sl ([.ref (ad 0), .int (nI t), .int (nI p9)])).length) Slot.unset).toArray = ls at hl ⊢
  have hl : lv_has ls 5 [(0, .ref (ad 0)), (1, .int (nI t)), (2, .int (nI p9))] := hl
  refine hat0 (fun H hHe => ?_)
  have hP : va_P D vwCl ws H := by rw [hHe]; exact hP
  have hS : va_S A s.heap H [] := by rw [hHe]; exact va_S.rf
  have g0 := hrx.1
  have g1 : ws[1]? = some (ad 1, .inl (K 0, 1920, .inl (f 1))) := hrx.2 1 (by decide) (by decide)
  have g2 : ws[2]? = some (ad 2, .inl (K 0, 18, .inl (f 2))) := hrx.2 2 (by decide) (by decide)
  refine lv_iconst (v := nI 1) hx hb dX9_hasNumbers_0 (by decide +kernel) ?_
  refine lv_istore_n (lv' := [(3, .int (nI 1)), (0, .ref (ad 0)), (1, .int (nI t)), (2, .int (nI p9))]) hx hb dX9_hasNumbers_1 rfl hl (by decide) rfl (fun ls hl => ?_)
  refine lv_iconst (v := nI 0) hx hb dX9_hasNumbers_2 (by decide +kernel) ?_
  refine lv_istore (lv' := [(4, .int (nI 0)), (3, .int (nI 1)), (0, .ref (ad 0)), (1, .int (nI t)), (2, .int (nI p9))]) hx hb dX9_hasNumbers_3 hl (by decide) rfl (fun ls hl => ?_)
  refine hloop0 (α := Nat × Nat) 5 5 (fun y => [(4, .int (nI y.1)), (3, .int (nI y.2)), (0, .ref (ad 0)), (1, .int (nI t)), (2, .int (nI p9))]) (fun y => y.1 ≤ 3 ∧ ((y.2 = 1 ∧ ∀ j, j < y.1 → f 2 (3 * p9 + j) < 0 ∨ f 2 (3 * p9 + j) = f 1 (3 * t + j)) ∨ (y.2 = 0 ∧ ¬ hHN f t p9))) (fun y => 3 - y.1) ?_ (0, 1) ls ⟨Nat.zero_le _, Or.inl ⟨rfl, fun j hj => absurd hj (Nat.not_lt_zero _)⟩⟩ (lv_sub hl [0, 1, 2, 3, 4] rfl)
  rintro ⟨i, h9⟩ ls ⟨hi, hst⟩ hl ih
  dsimp only at hi hst ih
  have hl : lv_has ls 5 [(4, .int (nI i)), (3, .int (nI h9)), (0, .ref (ad 0)), (1, .int (nI t)), (2, .int (nI p9))] := hl
  refine lv_iload hx hb dX9_hasNumbers_5 (lv_at hl 0 rfl) ?_
  refine lv_iconst (v := nI 3) hx hb dX9_hasNumbers_7 (by decide +kernel) ?_
  refine lv_icmp_ge (tgt := 66) hx hb dX9_hasNumbers_8 (by decide) (fun c1 => ?_) (fun c1 => ?_)
  · have c1 : nI 3 ≤ nI i := c1
    have hi3 : i = 3 := by
      have := (nI_leI (by decide) (by omega)).mp c1
      omega
    rcases hst with ⟨hy, hq⟩ | ⟨hy, hq⟩
    · subst hy
      refine lv_iload_n hx hb dX9_hasNumbers_66 rfl (lv_at hl 1 rfl) ?_
      subst hAe
      exact W.zret (v := nI 1) hx hb hr (by decide +kernel) (fun t ht _ => ⟨⟨nI 1, ws, rfl, ⟨rfl, hBool.yes (fun j hj => hq j (by omega))⟩, by rw [ht]; exact hP, hD⟩, hS.F ht⟩) hS.2.2 dX9_hasNumbers_67
    · subst hy
      refine lv_iload_n hx hb dX9_hasNumbers_66 rfl (lv_at hl 1 rfl) ?_
      subst hAe
      exact W.zret (v := nI 0) hx hb hr (by decide +kernel) (fun t ht _ => ⟨⟨nI 0, ws, rfl, ⟨rfl, hBool.no hq⟩, by rw [ht]; exact hP, hD⟩, hS.F ht⟩) hS.2.2 dX9_hasNumbers_67
  · have c1 : ¬ nI 3 ≤ nI i := c1
    have hi3 : i < 3 := Nat.not_le.mp (fun z => c1 (nI_le z (by omega)))
    refine lv_iload_n hx hb dX9_hasNumbers_11 rfl (lv_at hl 1 rfl) ?_
    refine lv_if_eq (tgt := 58) hx hb dX9_hasNumbers_12 (by decide) (fun c2 => ?_) (fun c2 => ?_)
    · have hz : h9 = 0 := by
        rcases hst with ⟨hy, -⟩ | ⟨hy, -⟩
        · rw [hy] at c2; exact absurd c2 (by decide +kernel)
        · exact hy
      have hn : ¬ hHN f t p9 := by
        rcases hst with ⟨hy, -⟩ | ⟨-, hq⟩
        · omega
        · exact hq
      refine lv_iconst (v := nI 0) hx hb dX9_hasNumbers_58 (by decide +kernel) ?_
      refine lv_istore_n (lv' := [(3, .int (nI 0)), (4, .int (nI i)), (0, .ref (ad 0)), (1, .int (nI t)), (2, .int (nI p9))]) hx hb dX9_hasNumbers_59 rfl hl (by decide) rfl (fun ls hl => ?_)
      refine lv_iinc (v := nI (i + 1)) (lv' := [(4, .int (nI (i + 1))), (3, .int (nI 0)), (0, .ref (ad 0)), (1, .int (nI t)), (2, .int (nI p9))]) hx hb dX9_hasNumbers_60 hl (k := 1) rfl (nI_1 _) (by decide) rfl (fun ls hl => ?_)
      refine lv_goto (tgt := 5) hx hb dX9_hasNumbers_63 (by decide) ?_
      exact ih (i + 1, 0) ls ⟨by show i + 1 ≤ 3; omega, Or.inr ⟨rfl, hn⟩⟩ (by show 3 - (i + 1) < 3 - i; omega) (lv_sub hl [0, 1, 2, 3, 4] rfl)
    · have hq : ∀ j, j < i → f 2 (3 * p9 + j) < 0 ∨ f 2 (3 * p9 + j) = f 1 (3 * t + j) := by
        rcases hst with ⟨-, hq⟩ | ⟨hy, -⟩
        · exact hq
        · rw [hy] at c2; exact absurd rfl c2
      refine lv_aload_n hx hb dX9_hasNumbers_15 rfl (lv_at hl 2 rfl) ?_
      refine va_get (v := .ref (ad 2)) (C := RX9) (T := TX9) (N := 18) hx hb hts (hin_X9 hmc) hown E.1.1 hP 0 g0 rfl 2 (by decide) (hts _ (hmc _ k_571)) (fun _ h9 => h9) rfl dX9_hasNumbers_16 ?_
      refine lv_iconst (v := nI 3) hx hb dX9_hasNumbers_19 (by decide +kernel) ?_
      refine lv_iload_n hx hb dX9_hasNumbers_20 rfl (lv_at hl 4 rfl) ?_
      refine lv_imul hx hb dX9_hasNumbers_21 ?_
      refine htopi (v := nI (3 * p9)) (pk_mul _ _) ?_
      refine lv_iload hx hb dX9_hasNumbers_22 (lv_at hl 0 rfl) ?_
      refine lv_iadd hx hb dX9_hasNumbers_24 ?_
      refine htopi (v := nI ((3 * p9) + i)) (nI_add _ _) ?_
      refine va_iald hx hb E.1.1 hP 2 0 g2 rfl (vp_in_nI (by omega) (by omega)) dX9_hasNumbers_25 ?_
      refine htopi (v := (f 2) ((3 * p9) + i)) (by rw [nI_clamp (by omega)]) ?_
      refine lv_if_lt (tgt := 54) hx hb dX9_hasNumbers_26 (by decide) (fun c3 => ?_) (fun c3 => ?_)
      · refine lv_iconst (v := nI 1) hx hb dX9_hasNumbers_54 (by decide +kernel) ?_
        refine lv_goto (tgt := 59) hx hb dX9_hasNumbers_55 (by decide) ?_
        refine lv_istore_n (lv' := [(3, .int (nI 1)), (4, .int (nI i)), (0, .ref (ad 0)), (1, .int (nI t)), (2, .int (nI p9))]) hx hb dX9_hasNumbers_59 rfl hl (by decide) rfl (fun ls hl => ?_)
        refine lv_iinc (v := nI (i + 1)) (lv' := [(4, .int (nI (i + 1))), (3, .int (nI 1)), (0, .ref (ad 0)), (1, .int (nI t)), (2, .int (nI p9))]) hx hb dX9_hasNumbers_60 hl (k := 1) rfl (nI_1 _) (by decide) rfl (fun ls hl => ?_)
        refine lv_goto (tgt := 5) hx hb dX9_hasNumbers_63 (by decide) ?_
        exact ih (i + 1, 1) ls ⟨by show i + 1 ≤ 3; omega, Or.inl ⟨rfl, fun j hj => by
            by_cases z : j = i
            · subst z; exact Or.inl c3
            · exact hq j (by have : j < i + 1 := hj; omega)⟩⟩ (by show 3 - (i + 1) < 3 - i; omega) (lv_sub hl [0, 1, 2, 3, 4] rfl)
      · refine lv_aload_n hx hb dX9_hasNumbers_29 rfl (lv_at hl 2 rfl) ?_
        refine va_get (v := .ref (ad 2)) (C := RX9) (T := TX9) (N := 18) hx hb hts (hin_X9 hmc) hown E.1.1 hP 0 g0 rfl 2 (by decide) (hts _ (hmc _ k_571)) (fun _ h9 => h9) rfl dX9_hasNumbers_30 ?_
        refine lv_iconst (v := nI 3) hx hb dX9_hasNumbers_33 (by decide +kernel) ?_
        refine lv_iload_n hx hb dX9_hasNumbers_34 rfl (lv_at hl 4 rfl) ?_
        refine lv_imul hx hb dX9_hasNumbers_35 ?_
        refine htopi (v := nI (3 * p9)) (pk_mul _ _) ?_
        refine lv_iload hx hb dX9_hasNumbers_36 (lv_at hl 0 rfl) ?_
        refine lv_iadd hx hb dX9_hasNumbers_38 ?_
        refine htopi (v := nI ((3 * p9) + i)) (nI_add _ _) ?_
        refine va_iald hx hb E.1.1 hP 2 0 g2 rfl (vp_in_nI (by omega) (by omega)) dX9_hasNumbers_39 ?_
        refine htopi (v := (f 2) ((3 * p9) + i)) (by rw [nI_clamp (by omega)]) ?_
        refine lv_aload_n hx hb dX9_hasNumbers_40 rfl (lv_at hl 2 rfl) ?_
        refine va_get (v := .ref (ad 1)) (C := RX9) (T := TX9) (N := 18) hx hb hts (hin_X9 hmc) hown E.1.1 hP 0 g0 rfl 0 (by decide) (hts _ (hmc _ k_569)) (fun _ h9 => h9) rfl dX9_hasNumbers_41 ?_
        refine lv_iconst (v := nI 3) hx hb dX9_hasNumbers_44 (by decide +kernel) ?_
        refine lv_iload_n hx hb dX9_hasNumbers_45 rfl (lv_at hl 3 rfl) ?_
        refine lv_imul hx hb dX9_hasNumbers_46 ?_
        refine htopi (v := nI (3 * t)) (pk_mul _ _) ?_
        refine lv_iload hx hb dX9_hasNumbers_47 (lv_at hl 0 rfl) ?_
        refine lv_iadd hx hb dX9_hasNumbers_49 ?_
        refine htopi (v := nI ((3 * t) + i)) (nI_add _ _) ?_
        refine va_iald hx hb E.1.1 hP 1 0 g1 rfl (vp_in_nI (by omega) (by omega)) dX9_hasNumbers_50 ?_
        refine htopi (v := (f 1) ((3 * t) + i)) (by rw [nI_clamp (by omega)]) ?_
        refine lv_icmp_ne (tgt := 58) hx hb dX9_hasNumbers_51 (by decide) (fun c4 => ?_) (fun c4 => ?_)
        · refine lv_iconst (v := nI 0) hx hb dX9_hasNumbers_58 (by decide +kernel) ?_
          refine lv_istore_n (lv' := [(3, .int (nI 0)), (4, .int (nI i)), (0, .ref (ad 0)), (1, .int (nI t)), (2, .int (nI p9))]) hx hb dX9_hasNumbers_59 rfl hl (by decide) rfl (fun ls hl => ?_)
          refine lv_iinc (v := nI (i + 1)) (lv' := [(4, .int (nI (i + 1))), (3, .int (nI 0)), (0, .ref (ad 0)), (1, .int (nI t)), (2, .int (nI p9))]) hx hb dX9_hasNumbers_60 hl (k := 1) rfl (nI_1 _) (by decide) rfl (fun ls hl => ?_)
          refine lv_goto (tgt := 5) hx hb dX9_hasNumbers_63 (by decide) ?_
          exact ih (i + 1, 0) ls ⟨by show i + 1 ≤ 3; omega, Or.inr ⟨rfl, fun q => (q i hi3).elim c3 c4⟩⟩ (by show 3 - (i + 1) < 3 - i; omega) (lv_sub hl [0, 1, 2, 3, 4] rfl)
        · refine lv_iconst (v := nI 1) hx hb dX9_hasNumbers_54 (by decide +kernel) ?_
          refine lv_goto (tgt := 59) hx hb dX9_hasNumbers_55 (by decide) ?_
          refine lv_istore_n (lv' := [(3, .int (nI 1)), (4, .int (nI i)), (0, .ref (ad 0)), (1, .int (nI t)), (2, .int (nI p9))]) hx hb dX9_hasNumbers_59 rfl hl (by decide) rfl (fun ls hl => ?_)
          refine lv_iinc (v := nI (i + 1)) (lv' := [(4, .int (nI (i + 1))), (3, .int (nI 1)), (0, .ref (ad 0)), (1, .int (nI t)), (2, .int (nI p9))]) hx hb dX9_hasNumbers_60 hl (k := 1) rfl (nI_1 _) (by decide) rfl (fun ls hl => ?_)
          refine lv_goto (tgt := 5) hx hb dX9_hasNumbers_63 (by decide) ?_
          exact ih (i + 1, 1) ls ⟨by show i + 1 ≤ 3; omega, Or.inl ⟨rfl, fun j hj => by
              by_cases z : j = i
              · subst z; exact Or.inr c4
              · exact hq j (by have : j < i + 1 := hj; omega)⟩⟩ (by show 3 - (i + 1) < 3 - i; omega) (lv_sub hl [0, 1, 2, 3, 4] rfl)

set_option maxHeartbeats 4000000 in
set_option maxRecDepth 100000 in
/-- the reference: variables -/
theorem c_X9_variables (l : Launch) (D : va_G) (K : Nat → ClassId) (tv : Nat) (ws : va_W) (ad : Nat → Nat) (f : Nat → Nat → Int32) (ct pt md : Nat) (lz : Int64) (kp : Nat) (fd : Int32) (hrx : hRX K ad ws f ct pt md lz kp fd) (p9 : Nat) (hp6 : p9 < 6) : hI l D (hTy K) tv yX9_variables cX9_variables 4 (some .int) ({ frames := 1, cells := 0, slots := 0, locals := 60 }) [.ref (ad 0), .int (nI p9)] ws (fun _ ws1 => ws = ws1) := by
  intro sz
  refine Met.ofW (cc := cX9_variables) (maxL := 4) (ret := (some .int)) (by decide) rfl ?_
  intro p e s m args below meth c s₁ B hml hv0
  obtain ⟨rfl, rfl, E, hP, hD⟩ := hentry hv0
  have hx := B.exec
  have hb := B.bytes
  have hr := B.returns
  have hts := atoms_spec (ws := hC yX9_variables cX9_variables 4 (some .int)) B.pre
  have hown : s.vm.findClass RX9 = some m.cls := findClass_of_methodNamed B.named
  have hlocks := B.notSynchronized
  generalize hAe : va_A ws s.heap.size = A at hD E ⊢
  have hl := lv_entry ([.ref (ad 0), .int (nI p9)]) (n := 4) (Nat.le_of_ble_eq_true rfl)
  rw [lg_entry_eq]
  generalize (lg_sl ([.ref (ad 0), .int (nI p9)]) ++ List.replicate (4 - (lg_sl ([.ref (ad 0), .int (nI p9)])).length) Slot.unset).toArray = ls at hl ⊢
  have hl : lv_has ls 4 [(0, .ref (ad 0)), (1, .int (nI p9))] := hl
  refine hat0 (fun H hHe => ?_)
  have hP : va_P D vwCl ws H := by rw [hHe]; exact hP
  have hS : va_S A s.heap H [] := by rw [hHe]; exact va_S.rf
  have g0 := hrx.1
  have g2 : ws[2]? = some (ad 2, .inl (K 0, 18, .inl (f 2))) := hrx.2 2 (by decide) (by decide)
  refine lv_iconst (v := nI 0) hx hb dX9_variables_0 (by decide +kernel) ?_
  refine lv_istore_n (lv' := [(2, .int (nI 0)), (0, .ref (ad 0)), (1, .int (nI p9))]) hx hb dX9_variables_1 rfl hl (by decide) rfl (fun ls hl => ?_)
  refine lv_iconst (v := nI 0) hx hb dX9_variables_2 (by decide +kernel) ?_
  refine lv_istore_n (lv' := [(3, .int (nI 0)), (2, .int (nI 0)), (0, .ref (ad 0)), (1, .int (nI p9))]) hx hb dX9_variables_3 rfl hl (by decide) rfl (fun ls hl => ?_)
  refine hloopW (α := Nat × Int32) 4 4 (fun y => [(3, .int (nI y.1)), (2, .int y.2), (0, .ref (ad 0)), (1, .int (nI p9))]) (fun y w9 => y.1 ≤ 3 ∧ ws = w9) (fun y => 3 - y.1) (fun _ => 0) (fun _ => 0) ?_ (0, nI 0) ⟨Nat.zero_le _, rfl⟩ hP hD hS (lv_sub hl [0, 1, 2, 3] rfl)
  rintro ⟨i, bs⟩ w9 H locs ls hI9 hP hD hS hl ih
  obtain ⟨hi, rfl⟩ := hI9
  dsimp only at hi ih
  have hl : lv_has ls 4 [(3, .int (nI i)), (2, .int bs), (0, .ref (ad 0)), (1, .int (nI p9))] := hl
  refine lv_iload_n hx hb dX9_variables_4 rfl (lv_at hl 0 rfl) ?_
  refine lv_iconst (v := nI 3) hx hb dX9_variables_5 (by decide +kernel) ?_
  refine lv_icmp_ge (tgt := 48) hx hb dX9_variables_6 (by decide) (fun c1 => ?_) (fun c1 => ?_)
  · refine lv_iload_n hx hb dX9_variables_48 rfl (lv_at hl 1 rfl) ?_
    subst hAe
    exact W.iret (v := bs) hx hb hr (fun t ht _ => ⟨⟨bs, ws, rfl, rfl, by rw [ht]; exact hP, hD⟩, hS.F ht⟩) hS.2.2 dX9_variables_49
  · have c1 : ¬ nI 3 ≤ nI i := c1
    have hi3 : i < 3 := Nat.not_le.mp (fun z => c1 (nI_le z (by omega)))
    refine lv_iload_n hx hb dX9_variables_9 rfl (lv_at hl 1 rfl) ?_
    refine lv_aload_n hx hb dX9_variables_10 rfl (lv_at hl 2 rfl) ?_
    refine va_get (v := .ref (ad 2)) (C := RX9) (T := TX9) (N := 18) hx hb hts (hin_X9 hmc) hown E.1.1 hP 0 g0 rfl 2 (by decide) (hts _ (hmc _ k_571)) (fun _ h9 => h9) rfl dX9_variables_11 ?_
    refine lv_iconst (v := nI 3) hx hb dX9_variables_14 (by decide +kernel) ?_
    refine lv_iload_n hx hb dX9_variables_15 rfl (lv_at hl 3 rfl) ?_
    refine lv_imul hx hb dX9_variables_16 ?_
    refine htopi (v := nI (3 * p9)) (pk_mul _ _) ?_
    refine lv_iload_n hx hb dX9_variables_17 rfl (lv_at hl 0 rfl) ?_
    refine lv_iadd hx hb dX9_variables_18 ?_
    refine htopi (v := nI ((3 * p9) + i)) (nI_add _ _) ?_
    refine va_iald hx hb E.1.1 hP 2 0 g2 rfl (vp_in_nI (by omega) (by omega)) dX9_variables_19 ?_
    refine htopi (v := (f 2) ((3 * p9) + i)) (by rw [nI_clamp (by omega)]) ?_
    refine lv_if_ge (tgt := 39) hx hb dX9_variables_20 (by decide) (fun c2 => ?_) (fun c2 => ?_)
    · refine lv_iconst (v := nI 0) hx hb dX9_variables_39 (by decide +kernel) ?_
      refine lv_ior hx hb dX9_variables_40 ?_
      refine lv_istore_n (lv' := [(2, .int (bs ||| (nI 0))), (3, .int (nI i)), (0, .ref (ad 0)), (1, .int (nI p9))]) hx hb dX9_variables_41 rfl hl (by decide) rfl (fun ls hl => ?_)
      refine lv_iinc (v := nI (i + 1)) (lv' := [(3, .int (nI (i + 1))), (2, .int (bs ||| (nI 0))), (0, .ref (ad 0)), (1, .int (nI p9))]) hx hb dX9_variables_42 hl (k := 1) rfl (nI_1 _) (by decide) rfl (fun ls hl => ?_)
      refine lv_goto (tgt := 4) hx hb dX9_variables_45 (by decide) ?_
      exact ih (i + 1, _) _ H locs ls ⟨by show i + 1 ≤ 3; omega, rfl⟩ (by show 3 - (i + 1) < 3 - i; omega) hP hD hS (lv_sub hl [0, 1, 2, 3] rfl)
    · refine lv_aload_n hx hb dX9_variables_23 rfl (lv_at hl 2 rfl) ?_
      refine va_get (v := .ref (ad 2)) (C := RX9) (T := TX9) (N := 18) hx hb hts (hin_X9 hmc) hown E.1.1 hP 0 g0 rfl 2 (by decide) (hts _ (hmc _ k_571)) (fun _ h9 => h9) rfl dX9_variables_24 ?_
      refine lv_iconst (v := nI 3) hx hb dX9_variables_27 (by decide +kernel) ?_
      refine lv_iload_n hx hb dX9_variables_28 rfl (lv_at hl 3 rfl) ?_
      refine lv_imul hx hb dX9_variables_29 ?_
      refine htopi (v := nI (3 * p9)) (pk_mul _ _) ?_
      refine lv_iload_n hx hb dX9_variables_30 rfl (lv_at hl 0 rfl) ?_
      refine lv_iadd hx hb dX9_variables_31 ?_
      refine htopi (v := nI ((3 * p9) + i)) (nI_add _ _) ?_
      refine va_iald hx hb E.1.1 hP 2 0 g2 rfl (vp_in_nI (by omega) (by omega)) dX9_variables_32 ?_
      refine htopi (v := (f 2) ((3 * p9) + i)) (by rw [nI_clamp (by omega)]) ?_
      refine hc_si (va_runS (As := [.int ((f 2) ((3 * p9) + i))]) (rest := [.int bs]) ⟨hx, hb, hml, hown, hts⟩ (c_X9_bit l ((f 2) ((3 * p9) + i))) (va_cwS 1 hts (hGS hmc k_670 k_671 k_29 k_672) rfl rfl rfl (by decide +kernel) ⟨Nat.le_of_ble_eq_true rfl, Nat.le_of_ble_eq_true rfl⟩) hpre0 rfl rfl hl.1 rfl (lv_room (Nat.le_of_ble_eq_true rfl)) dX9_variables_33 ⟨(Nat.le_refl _), (Nat.le_refl _)⟩) (fun r1 hp => ?_)
      refine lv_goto (tgt := 40) hx hb dX9_variables_36 (by decide) ?_
      refine lv_ior hx hb dX9_variables_40 ?_
      refine lv_istore_n (lv' := [(2, .int (bs ||| r1)), (3, .int (nI i)), (0, .ref (ad 0)), (1, .int (nI p9))]) hx hb dX9_variables_41 rfl hl (by decide) rfl (fun ls hl => ?_)
      refine lv_iinc (v := nI (i + 1)) (lv' := [(3, .int (nI (i + 1))), (2, .int (bs ||| r1)), (0, .ref (ad 0)), (1, .int (nI p9))]) hx hb dX9_variables_42 hl (k := 1) rfl (nI_1 _) (by decide) rfl (fun ls hl => ?_)
      refine lv_goto (tgt := 4) hx hb dX9_variables_45 (by decide) ?_
      exact ih (i + 1, _) _ H locs ls ⟨by show i + 1 ≤ 3; omega, rfl⟩ (by show 3 - (i + 1) < 3 - i; omega) hP hD hS (lv_sub hl [0, 1, 2, 3] rfl)
