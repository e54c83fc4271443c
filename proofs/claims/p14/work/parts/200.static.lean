set_option maxHeartbeats 4000000 in
set_option maxRecDepth 100000 in
/-- isNumber -/
theorem c_X0_isNumber (l : Launch) (x : Int32) : hSi l yX0_isNumber cX0_isNumber 1 (some .boolean) ({ frames := 0, cells := 0, slots := 0, locals := 0 }) [.int x] (fun r => hBool r (hOkN x)) := by
  refine Met.ofW (cc := cX0_isNumber) (maxL := 1) (ret := (some .boolean)) (by decide) rfl ?_
  intro p e s m args below meth c s₁ B hml hv0
  obtain ⟨rfl, -⟩ := hv0
  have hx := B.exec
  have hb := B.bytes
  have hr := B.returns
  have hts := atoms_spec (ws := hC yX0_isNumber cX0_isNumber 1 (some .boolean)) B.pre
  have hown : s.vm.findClass RX0 = some m.cls := findClass_of_methodNamed B.named
  have hlocks := B.notSynchronized
  have hl := lv_entry ([.int x]) (n := 1) (Nat.le_of_ble_eq_true rfl)
  rw [lg_entry_eq]
  generalize (lg_sl ([.int x]) ++ List.replicate (1 - (lg_sl ([.int x])).length) Slot.unset).toArray = ls at hl ⊢
  have hl : lv_has ls 1 [(0, .int x)] := hl
  refine lv_iload_n hx hb dX0_isNumber_0 rfl (lv_at hl 0 rfl) ?_
  refine lv_if_lt (tgt := 14) hx hb dX0_isNumber_1 (by decide) (fun c1 => ?_) (fun c1 => ?_)
  · refine lv_iconst (v := nI 0) hx hb dX0_isNumber_14 (by decide +kernel) ?_
    exact W.zret (v := nI 0) hx hb hr (by decide +kernel) (fun t ht _ => ⟨nI 0, rfl, hBool.no (hOkN_neg (Or.inl c1)), ht⟩) (fun _ h => by cases h) dX0_isNumber_15
  · refine lv_iload_n hx hb dX0_isNumber_4 rfl (lv_at hl 0 rfl) ?_
    refine lv_bipush (v := nI 64) hx hb dX0_isNumber_5 (by decide +kernel) ?_
    refine lv_icmp_ge (tgt := 14) hx hb dX0_isNumber_7 (by decide) (fun c2 => ?_) (fun c2 => ?_)
    · refine lv_iconst (v := nI 0) hx hb dX0_isNumber_14 (by decide +kernel) ?_
      exact W.zret (v := nI 0) hx hb hr (by decide +kernel) (fun t ht _ => ⟨nI 0, rfl, hBool.no (hOkN_neg (Or.inr c2)), ht⟩) (fun _ h => by cases h) dX0_isNumber_15
    · refine lv_iconst (v := nI 1) hx hb dX0_isNumber_10 (by decide +kernel) ?_
      refine lv_goto (tgt := 15) hx hb dX0_isNumber_11 (by decide) ?_
      exact W.zret (v := nI 1) hx hb hr (by decide +kernel) (fun t ht _ => ⟨nI 1, rfl, hBool.yes (hOkN_pos c1 c2), ht⟩) (fun _ h => by cases h) dX0_isNumber_15

set_option maxHeartbeats 4000000 in
set_option maxRecDepth 100000 in
/-- isVariable -/
theorem c_X0_isVariable (l : Launch) (x : Int32) : hSi l yX0_isVariable cX0_isVariable 1 (some .boolean) ({ frames := 0, cells := 0, slots := 0, locals := 0 }) [.int x] (fun r => hBool r (hOkV x)) := by
  refine Met.ofW (cc := cX0_isVariable) (maxL := 1) (ret := (some .boolean)) (by decide) rfl ?_
  intro p e s m args below meth c s₁ B hml hv0
  obtain ⟨rfl, -⟩ := hv0
  have hx := B.exec
  have hb := B.bytes
  have hr := B.returns
  have hts := atoms_spec (ws := hC yX0_isVariable cX0_isVariable 1 (some .boolean)) B.pre
  have hown : s.vm.findClass RX0 = some m.cls := findClass_of_methodNamed B.named
  have hlocks := B.notSynchronized
  have hl := lv_entry ([.int x]) (n := 1) (Nat.le_of_ble_eq_true rfl)
  rw [lg_entry_eq]
  generalize (lg_sl ([.int x]) ++ List.replicate (1 - (lg_sl ([.int x])).length) Slot.unset).toArray = ls at hl ⊢
  have hl : lv_has ls 1 [(0, .int x)] := hl
  refine lv_iload_n hx hb dX0_isVariable_0 rfl (lv_at hl 0 rfl) ?_
  refine lv_if_ge (tgt := 14) hx hb dX0_isVariable_1 (by decide) (fun c1 => ?_) (fun c1 => ?_)
  · refine lv_iconst (v := nI 0) hx hb dX0_isVariable_14 (by decide +kernel) ?_
    exact W.zret (v := nI 0) hx hb hr (by decide +kernel) (fun t ht _ => ⟨nI 0, rfl, hBool.no (hOkV_neg (Or.inl c1)), ht⟩) (fun _ h => by cases h) dX0_isVariable_15
  · refine lv_iload_n hx hb dX0_isVariable_4 rfl (lv_at hl 0 rfl) ?_
    refine lv_bipush (v := (-8)) hx hb dX0_isVariable_5 (by decide +kernel) ?_
    refine lv_icmp_lt (tgt := 14) hx hb dX0_isVariable_7 (by decide) (fun c2 => ?_) (fun c2 => ?_)
    · refine lv_iconst (v := nI 0) hx hb dX0_isVariable_14 (by decide +kernel) ?_
      exact W.zret (v := nI 0) hx hb hr (by decide +kernel) (fun t ht _ => ⟨nI 0, rfl, hBool.no (hOkV_neg (Or.inr c2)), ht⟩) (fun _ h => by cases h) dX0_isVariable_15
    · refine lv_iconst (v := nI 1) hx hb dX0_isVariable_10 (by decide +kernel) ?_
      refine lv_goto (tgt := 15) hx hb dX0_isVariable_11 (by decide) ?_
      exact W.zret (v := nI 1) hx hb hr (by decide +kernel) (fun t ht _ => ⟨nI 1, rfl, hBool.yes (hOkV_pos c1 c2), ht⟩) (fun _ h => by cases h) dX0_isVariable_15

set_option maxHeartbeats 4000000 in
set_option maxRecDepth 100000 in
/-- isItem -/
theorem c_X0_isItem (l : Launch) (x : Int32) : hSi l yX0_isItem cX0_isItem 1 (some .boolean) ({ frames := 1, cells := 0, slots := 0, locals := 60 }) [.int x] (fun r => hBool r (hOkN x ∨ hOkV x)) := by
  refine Met.ofW (cc := cX0_isItem) (maxL := 1) (ret := (some .boolean)) (by decide) rfl ?_
  intro p e s m args below meth c s₁ B hml hv0
  obtain ⟨rfl, -⟩ := hv0
  have hx := B.exec
  have hb := B.bytes
  have hr := B.returns
  have hts := atoms_spec (ws := hC yX0_isItem cX0_isItem 1 (some .boolean)) B.pre
  have hown : s.vm.findClass RX0 = some m.cls := findClass_of_methodNamed B.named
  have hlocks := B.notSynchronized
  have hl := lv_entry ([.int x]) (n := 1) (Nat.le_of_ble_eq_true rfl)
  rw [lg_entry_eq]
  generalize (lg_sl ([.int x]) ++ List.replicate (1 - (lg_sl ([.int x])).length) Slot.unset).toArray = ls at hl ⊢
  have hl : lv_has ls 1 [(0, .int x)] := hl
  refine lv_iload_n hx hb dX0_isItem_0 rfl (lv_at hl 0 rfl) ?_
  refine hc_si (va_runS (As := [.int x]) (rest := []) ⟨hx, hb, hml, hown, hts⟩ (c_X0_isNumber l x) (va_cwS 1 hts (hGS hmc k_239 k_240 k_20 k_241) rfl rfl rfl (by decide +kernel) ⟨Nat.le_of_ble_eq_true rfl, Nat.le_of_ble_eq_true rfl⟩) hpre0 rfl rfl hl.1 rfl (lv_room (Nat.le_of_ble_eq_true rfl)) dX0_isItem_1 ⟨(Nat.le_refl _), (Nat.le_refl _)⟩) (fun r1 h1 => ?_)
  refine lv_if_ne (tgt := 14) hx hb dX0_isItem_4 (by decide) (fun c1 => ?_) (fun c1 => ?_)
  · refine lv_iconst (v := nI 1) hx hb dX0_isItem_14 (by decide +kernel) ?_
    refine lv_goto (tgt := 19) hx hb dX0_isItem_15 (by decide) ?_
    exact W.zret (v := nI 1) hx hb hr (by decide +kernel) (fun t ht _ => ⟨nI 1, rfl, hBool.yes (Or.inl (h1.t c1)), ht⟩) (fun _ h => by cases h) dX0_isItem_19
  · refine lv_iload_n hx hb dX0_isItem_7 rfl (lv_at hl 0 rfl) ?_
    refine hc_si (va_runS (As := [.int x]) (rest := []) ⟨hx, hb, hml, hown, hts⟩ (c_X0_isVariable l x) (va_cwS 1 hts (hGS hmc k_289 k_290 k_20 k_291) rfl rfl rfl (by decide +kernel) ⟨Nat.le_of_ble_eq_true rfl, Nat.le_of_ble_eq_true rfl⟩) hpre0 rfl rfl hl.1 rfl (lv_room (Nat.le_of_ble_eq_true rfl)) dX0_isItem_8 ⟨(Nat.le_refl _), (Nat.le_refl _)⟩) (fun r2 h2 => ?_)
    refine lv_if_eq (tgt := 18) hx hb dX0_isItem_11 (by decide) (fun c2 => ?_) (fun c2 => ?_)
    · refine lv_iconst (v := nI 0) hx hb dX0_isItem_18 (by decide +kernel) ?_
      exact W.zret (v := nI 0) hx hb hr (by decide +kernel) (fun t ht _ => ⟨nI 0, rfl, hBool.no (fun q => q.elim (h1.f c1) (h2.f c2)), ht⟩) (fun _ h => by cases h) dX0_isItem_19
    · refine lv_iconst (v := nI 1) hx hb dX0_isItem_14 (by decide +kernel) ?_
      refine lv_goto (tgt := 19) hx hb dX0_isItem_15 (by decide) ?_
      exact W.zret (v := nI 1) hx hb hr (by decide +kernel) (fun t ht _ => ⟨nI 1, rfl, hBool.yes (Or.inr (h2.t c2)), ht⟩) (fun _ h => by cases h) dX0_isItem_19

set_option maxHeartbeats 4000000 in
set_option maxRecDepth 100000 in
/-- bitOf -/
theorem c_X0_bitOf (l : Launch) (k : Nat) (hk : k < 8) : hSi l yX0_bitOf cX0_bitOf 1 (some .int) ({ frames := 0, cells := 0, slots := 0, locals := 0 }) [.int (hvI k)] (fun r => r = nI (2 ^ k)) := by
  refine Met.ofW (cc := cX0_bitOf) (maxL := 1) (ret := (some .int)) (by decide) rfl ?_
  intro p e s m args below meth c s₁ B hml hv0
  obtain ⟨rfl, -⟩ := hv0
  have hx := B.exec
  have hb := B.bytes
  have hr := B.returns
  have hts := atoms_spec (ws := hC yX0_bitOf cX0_bitOf 1 (some .int)) B.pre
  have hown : s.vm.findClass RX0 = some m.cls := findClass_of_methodNamed B.named
  have hlocks := B.notSynchronized
  have hl := lv_entry ([.int (hvI k)]) (n := 1) (Nat.le_of_ble_eq_true rfl)
  rw [lg_entry_eq]
  generalize (lg_sl ([.int (hvI k)]) ++ List.replicate (1 - (lg_sl ([.int (hvI k)])).length) Slot.unset).toArray = ls at hl ⊢
  have hl : lv_has ls 1 [(0, .int (hvI k))] := hl
  refine lv_iconst (v := nI 1) hx hb dX0_bitOf_0 (by decide +kernel) ?_
  refine lv_iconst (v := (-1)) hx hb dX0_bitOf_1 (by decide +kernel) ?_
  refine lv_iload_n hx hb dX0_bitOf_2 rfl (lv_at hl 0 rfl) ?_
  refine lv_isub hx hb dX0_bitOf_3 ?_
  refine lv_ishl hx hb dX0_bitOf_4 ?_
  exact W.iret (v := ((nI 1) <<< (((-1) - (hvI k)) &&& 31))) hx hb hr (fun t ht _ => ⟨((nI 1) <<< (((-1) - (hvI k)) &&& 31)), rfl, hbitOf k hk, ht⟩) (fun _ h => by cases h) dX0_bitOf_5

set_option maxHeartbeats 4000000 in
set_option maxRecDepth 100000 in
/-- rowShift -/
theorem c_X0_rowShift (l : Launch) (k : Nat) (hk : k < 8) : hSi l yX0_rowShift cX0_rowShift 1 (some .int) ({ frames := 0, cells := 0, slots := 0, locals := 0 }) [.int (hvI k)] (fun r => r = nI (6 * (7 - k))) := by
  refine Met.ofW (cc := cX0_rowShift) (maxL := 1) (ret := (some .int)) (by decide) rfl ?_
  intro p e s m args below meth c s₁ B hml hv0
  obtain ⟨rfl, -⟩ := hv0
  have hx := B.exec
  have hb := B.bytes
  have hr := B.returns
  have hts := atoms_spec (ws := hC yX0_rowShift cX0_rowShift 1 (some .int)) B.pre
  have hown : s.vm.findClass RX0 = some m.cls := findClass_of_methodNamed B.named
  have hlocks := B.notSynchronized
  have hl := lv_entry ([.int (hvI k)]) (n := 1) (Nat.le_of_ble_eq_true rfl)
  rw [lg_entry_eq]
  generalize (lg_sl ([.int (hvI k)]) ++ List.replicate (1 - (lg_sl ([.int (hvI k)])).length) Slot.unset).toArray = ls at hl ⊢
  have hl : lv_has ls 1 [(0, .int (hvI k))] := hl
  refine lv_bipush (v := nI 6) hx hb dX0_rowShift_0 (by decide +kernel) ?_
  refine lv_bipush (v := nI 8) hx hb dX0_rowShift_2 (by decide +kernel) ?_
  refine lv_iload_n hx hb dX0_rowShift_4 rfl (lv_at hl 0 rfl) ?_
  refine lv_iadd hx hb dX0_rowShift_5 ?_
  refine lv_imul hx hb dX0_rowShift_6 ?_
  exact W.iret (v := ((nI 6) * ((nI 8) + (hvI k)))) hx hb hr (fun t ht _ => ⟨((nI 6) * ((nI 8) + (hvI k))), rfl, hrowSh k hk, ht⟩) (fun _ h => by cases h) dX0_rowShift_7

set_option maxHeartbeats 4000000 in
set_option maxRecDepth 100000 in
/-- numberAt -/
theorem c_X0_numberAt (l : Launch) (n k : Nat) (hk : k < 32) (h : n < 2 ^ 31) : hSi l yX0_numberAt cX0_numberAt 2 (some .int) ({ frames := 0, cells := 0, slots := 0, locals := 0 }) [.int (nI n), .int (nI k)] (fun r => r = nI (n / 2 ^ k % 64)) := by
  refine Met.ofW (cc := cX0_numberAt) (maxL := 2) (ret := (some .int)) (by decide) rfl ?_
  intro p e s m args below meth c s₁ B hml hv0
  obtain ⟨rfl, -⟩ := hv0
  have hx := B.exec
  have hb := B.bytes
  have hr := B.returns
  have hts := atoms_spec (ws := hC yX0_numberAt cX0_numberAt 2 (some .int)) B.pre
  have hown : s.vm.findClass RX0 = some m.cls := findClass_of_methodNamed B.named
  have hlocks := B.notSynchronized
  have hl := lv_entry ([.int (nI n), .int (nI k)]) (n := 2) (Nat.le_of_ble_eq_true rfl)
  rw [lg_entry_eq]
  generalize (lg_sl ([.int (nI n), .int (nI k)]) ++ List.replicate (2 - (lg_sl ([.int (nI n), .int (nI k)])).length) Slot.unset).toArray = ls at hl ⊢
  have hl : lv_has ls 2 [(0, .int (nI n)), (1, .int (nI k))] := hl
  refine lv_iload_n hx hb dX0_numberAt_0 rfl (lv_at hl 0 rfl) ?_
  refine lv_iload_n hx hb dX0_numberAt_1 rfl (lv_at hl 1 rfl) ?_
  refine lv_ishr hx hb dX0_numberAt_2 ?_
  refine lv_bipush (v := nI 63) hx hb dX0_numberAt_3 (by decide +kernel) ?_
  refine lv_iand hx hb dX0_numberAt_5 ?_
  exact W.iret (v := (((nI n) >>> ((nI k) &&& 31)) &&& (nI 63))) hx hb hr (fun t ht _ => ⟨(((nI n) >>> ((nI k) &&& 31)) &&& (nI 63)), rfl, hnumAt hk h, ht⟩) (fun _ h => by cases h) dX0_numberAt_6

set_option maxHeartbeats 4000000 in
set_option maxRecDepth 100000 in
/-- Math.floorMod -/
theorem c_JM_floorMod (l : Launch) (x y : Int32) (hy : ¬ y = 0) : hSi l yJM_floorMod cJM_floorMod 3 (some .int) ({ frames := 0, cells := 0, slots := 0, locals := 0 }) [.int x, .int y] (fun r => r = hfm x y) := by
  refine hMetW (cc := cJM_floorMod) (maxL := 3) (ret := (some .int)) (by decide +kernel) rfl ?_
  intro p e s m args below meth c s₁ B hml hv0
  obtain ⟨rfl, -⟩ := hv0
  have hx := B.exec
  have hb := B.bytes
  have hr := B.returns
  have hts := atoms_spec (ws := hC yJM_floorMod cJM_floorMod 3 (some .int)) B.pre
  have hown : s.vm.findClass RJM = some m.cls := findClass_of_methodNamed B.named
  have hlocks := B.notSynchronized
  have hl := lv_entry ([.int x, .int y]) (n := 3) (Nat.le_of_ble_eq_true rfl)
  rw [lg_entry_eq]
  generalize (lg_sl ([.int x, .int y]) ++ List.replicate (3 - (lg_sl ([.int x, .int y])).length) Slot.unset).toArray = ls at hl ⊢
  have hl : lv_has ls 3 [(0, .int x), (1, .int y)] := hl
  refine lv_iload_n hx hb dJM_floorMod_0 rfl (lv_at hl 0 rfl) ?_
  refine lv_iload_n hx hb dJM_floorMod_1 rfl (lv_at hl 1 rfl) ?_
  refine lv_irem hx hb dJM_floorMod_2 hy ?_
  refine lv_istore_n (lv' := [(2, .int (x - x / y * y)), (0, .int x), (1, .int y)]) hx hb dJM_floorMod_3 rfl hl (by decide) rfl (fun ls hl => ?_)
  refine lv_iload_n hx hb dJM_floorMod_4 rfl (lv_at hl 1 rfl) ?_
  refine lv_iload_n hx hb dJM_floorMod_5 rfl (lv_at hl 2 rfl) ?_
  refine lv_ixor hx hb dJM_floorMod_6 ?_
  refine lv_if_ge (tgt := 18) hx hb dJM_floorMod_7 (by decide) (fun c1 => ?_) (fun c1 => ?_)
  · refine lv_iload_n hx hb dJM_floorMod_18 rfl (lv_at hl 0 rfl) ?_
    exact W.iret (v := (x - x / y * y)) hx hb hr (fun t ht _ => ⟨(x - x / y * y), rfl, (if_neg (fun z => absurd z.1 (Int32.not_lt.mpr c1))).symm, ht⟩) (fun _ h => by cases h) dJM_floorMod_19
  · refine lv_iload_n hx hb dJM_floorMod_10 rfl (lv_at hl 0 rfl) ?_
    refine lv_if_eq (tgt := 18) hx hb dJM_floorMod_11 (by decide) (fun c2 => ?_) (fun c2 => ?_)
    · refine lv_iload_n hx hb dJM_floorMod_18 rfl (lv_at hl 0 rfl) ?_
      exact W.iret (v := (x - x / y * y)) hx hb hr (fun t ht _ => ⟨(x - x / y * y), rfl, (if_neg (fun z => z.2 c2)).symm, ht⟩) (fun _ h => by cases h) dJM_floorMod_19
    · refine lv_iload_n hx hb dJM_floorMod_14 rfl (lv_at hl 0 rfl) ?_
      refine lv_iload_n hx hb dJM_floorMod_15 rfl (lv_at hl 2 rfl) ?_
      refine lv_iadd hx hb dJM_floorMod_16 ?_
      exact W.iret (v := ((x - x / y * y) + y)) hx hb hr (fun t ht _ => ⟨((x - x / y * y) + y), rfl, (if_pos ⟨Int32.not_le.mp c1, c2⟩).symm, ht⟩) (fun _ h => by cases h) dJM_floorMod_17

set_option maxHeartbeats 4000000 in
set_option maxRecDepth 100000 in
/-- codeShift -/
theorem c_X0_codeShift (l : Launch) (v pl : Nat) (hv : v < 3) (hpl : pl < 3) : hSi l yX0_codeShift cX0_codeShift 2 (some .int) ({ frames := 1, cells := 0, slots := 0, locals := 60 }) [.int (nI v), .int (nI pl)] (fun r => r = nI (hsh v pl)) := by
  refine Met.ofW (cc := cX0_codeShift) (maxL := 2) (ret := (some .int)) (by decide) rfl ?_
  intro p e s m args below meth c s₁ B hml hv0
  obtain ⟨rfl, -⟩ := hv0
  have hx := B.exec
  have hb := B.bytes
  have hr := B.returns
  have hts := atoms_spec (ws := hC yX0_codeShift cX0_codeShift 2 (some .int)) B.pre
  have hown : s.vm.findClass RX0 = some m.cls := findClass_of_methodNamed B.named
  have hlocks := B.notSynchronized
  have hl := lv_entry ([.int (nI v), .int (nI pl)]) (n := 2) (Nat.le_of_ble_eq_true rfl)
  rw [lg_entry_eq]
  generalize (lg_sl ([.int (nI v), .int (nI pl)]) ++ List.replicate (2 - (lg_sl ([.int (nI v), .int (nI pl)])).length) Slot.unset).toArray = ls at hl ⊢
  have hl : lv_has ls 2 [(0, .int (nI v)), (1, .int (nI pl))] := hl
  refine lv_bipush (v := nI 6) hx hb dX0_codeShift_0 (by decide +kernel) ?_
  refine lv_iconst (v := nI 2) hx hb dX0_codeShift_2 (by decide +kernel) ?_
  refine lv_iload_n hx hb dX0_codeShift_3 rfl (lv_at hl 1 rfl) ?_
  refine lv_iload_n hx hb dX0_codeShift_4 rfl (lv_at hl 0 rfl) ?_
  refine lv_isub hx hb dX0_codeShift_5 ?_
  refine lv_iconst (v := nI 3) hx hb dX0_codeShift_6 (by decide +kernel) ?_
  refine hc_si (va_runS (As := [.int ((nI pl) - (nI v)), .int (nI 3)]) (rest := [.int (nI 2), .int (nI 6)]) ⟨hx, hb, hml, hown, hts⟩ (c_JM_floorMod l (nI pl - nI v) (nI 3) (by decide +kernel)) (va_cwS 2 hts (hGS hmc k_252 k_253 k_30 k_254) rfl rfl rfl (by decide +kernel) ⟨Nat.le_of_ble_eq_true rfl, Nat.le_of_ble_eq_true rfl⟩) hpre0 rfl rfl hl.1 rfl (lv_room (Nat.le_of_ble_eq_true rfl)) dX0_codeShift_7 ⟨(Nat.le_refl _), (Nat.le_refl _)⟩) (fun r1 hp => ?_)
  subst hp
  refine lv_isub hx hb dX0_codeShift_10 ?_
  refine lv_imul hx hb dX0_codeShift_11 ?_
  exact W.iret (v := ((nI 6) * ((nI 2) - (hfm (nI pl - nI v) (nI 3))))) hx hb hr (fun t ht _ => ⟨((nI 6) * ((nI 2) - (hfm (nI pl - nI v) (nI 3)))), rfl, hcsh v hv pl hpl, ht⟩) (fun _ h => by cases h) dX0_codeShift_12

set_option maxHeartbeats 4000000 in
set_option maxRecDepth 100000 in
/-- codeOf -/
theorem c_X0_codeOf (l : Launch) (v na nb nc : Nat) (hv : v < 3) (ha : na < 64) (hb6 : nb < 64) (hc : nc < 64) : hSi l yX0_codeOf cX0_codeOf 4 (some .int) ({ frames := 2, cells := 0, slots := 0, locals := 120 }) [.int (nI v), .int (nI na), .int (nI nb), .int (nI nc)] (fun r => r = nI (hvc v na nb nc)) := by
  refine Met.ofW (cc := cX0_codeOf) (maxL := 4) (ret := (some .int)) (by decide) rfl ?_
  intro p e s m args below meth c s₁ B hml hv0
  obtain ⟨rfl, -⟩ := hv0
  have hx := B.exec
  have hb := B.bytes
  have hr := B.returns
  have hts := atoms_spec (ws := hC yX0_codeOf cX0_codeOf 4 (some .int)) B.pre
  have hown : s.vm.findClass RX0 = some m.cls := findClass_of_methodNamed B.named
  have hlocks := B.notSynchronized
  have hl := lv_entry ([.int (nI v), .int (nI na), .int (nI nb), .int (nI nc)]) (n := 4) (Nat.le_of_ble_eq_true rfl)
  rw [lg_entry_eq]
  generalize (lg_sl ([.int (nI v), .int (nI na), .int (nI nb), .int (nI nc)]) ++ List.replicate (4 - (lg_sl ([.int (nI v), .int (nI na), .int (nI nb), .int (nI nc)])).length) Slot.unset).toArray = ls at hl ⊢
  have hl : lv_has ls 4 [(0, .int (nI v)), (1, .int (nI na)), (2, .int (nI nb)), (3, .int (nI nc))] := hl
  have s0 := hsh_lt v hv 0 (by decide)
  have s1 := hsh_lt v hv 1 (by decide)
  have s2 := hsh_lt v hv 2 (by decide)
  refine lv_iload_n hx hb dX0_codeOf_0 rfl (lv_at hl 1 rfl) ?_
  refine lv_iload_n hx hb dX0_codeOf_1 rfl (lv_at hl 0 rfl) ?_
  refine lv_iconst (v := nI 0) hx hb dX0_codeOf_2 (by decide +kernel) ?_
  refine hc_si (va_runS (As := [.int (nI v), .int (nI 0)]) (rest := [.int (nI na)]) ⟨hx, hb, hml, hown, hts⟩ (c_X0_codeShift l v 0 hv (by decide)) (va_cwS 2 hts (hGS hmc k_249 k_250 k_20 k_251) rfl rfl rfl (by decide +kernel) ⟨Nat.le_of_ble_eq_true rfl, Nat.le_of_ble_eq_true rfl⟩) hpre0 rfl rfl hl.1 rfl (lv_room (Nat.le_of_ble_eq_true rfl)) dX0_codeOf_3 ⟨(Nat.le_refl _), (Nat.le_refl _)⟩) (fun r1 hp => ?_)
  subst hp
  refine lv_ishl hx hb dX0_codeOf_6 ?_
  refine htopi (v := nI (na * 2 ^ hsh v 0)) (hshl (by omega) (hsh_mul hv (by decide) ha)) ?_
  refine lv_iload_n hx hb dX0_codeOf_7 rfl (lv_at hl 2 rfl) ?_
  refine lv_iload_n hx hb dX0_codeOf_8 rfl (lv_at hl 0 rfl) ?_
  refine lv_iconst (v := nI 1) hx hb dX0_codeOf_9 (by decide +kernel) ?_
  refine hc_si (va_runS (As := [.int (nI v), .int (nI 1)]) (rest := [.int (nI nb), .int (nI (na * 2 ^ hsh v 0))]) ⟨hx, hb, hml, hown, hts⟩ (c_X0_codeShift l v 1 hv (by decide)) (va_cwS 2 hts (hGS hmc k_249 k_250 k_20 k_251) rfl rfl rfl (by decide +kernel) ⟨Nat.le_of_ble_eq_true rfl, Nat.le_of_ble_eq_true rfl⟩) hpre0 rfl rfl hl.1 rfl (lv_room (Nat.le_of_ble_eq_true rfl)) dX0_codeOf_10 ⟨(Nat.le_refl _), (Nat.le_refl _)⟩) (fun r2 hp => ?_)
  subst hp
  refine lv_ishl hx hb dX0_codeOf_13 ?_
  refine htopi (v := nI (nb * 2 ^ hsh v 1)) (hshl (by omega) (hsh_mul hv (by decide) hb6)) ?_
  refine lv_ior hx hb dX0_codeOf_14 ?_
  refine htopi (v := nI (na * 2 ^ hsh v 0 ||| nb * 2 ^ hsh v 1)) (hior _ _) ?_
  refine lv_iload_n hx hb dX0_codeOf_15 rfl (lv_at hl 3 rfl) ?_
  refine lv_iload_n hx hb dX0_codeOf_16 rfl (lv_at hl 0 rfl) ?_
  refine lv_iconst (v := nI 2) hx hb dX0_codeOf_17 (by decide +kernel) ?_
  refine hc_si (va_runS (As := [.int (nI v), .int (nI 2)]) (rest := [.int (nI nc), .int (nI (na * 2 ^ hsh v 0 ||| nb * 2 ^ hsh v 1))]) ⟨hx, hb, hml, hown, hts⟩ (c_X0_codeShift l v 2 hv (by decide)) (va_cwS 2 hts (hGS hmc k_249 k_250 k_20 k_251) rfl rfl rfl (by decide +kernel) ⟨Nat.le_of_ble_eq_true rfl, Nat.le_of_ble_eq_true rfl⟩) hpre0 rfl rfl hl.1 rfl (lv_room (Nat.le_of_ble_eq_true rfl)) dX0_codeOf_18 ⟨(Nat.le_refl _), (Nat.le_refl _)⟩) (fun r3 hp => ?_)
  subst hp
  refine lv_ishl hx hb dX0_codeOf_21 ?_
  refine htopi (v := nI (nc * 2 ^ hsh v 2)) (hshl (by omega) (hsh_mul hv (by decide) hc)) ?_
  refine lv_ior hx hb dX0_codeOf_22 ?_
  refine htopi (v := nI (na * 2 ^ hsh v 0 ||| nb * 2 ^ hsh v 1 ||| nc * 2 ^ hsh v 2)) (hior _ _) ?_
  exact W.iret (v := nI (na * 2 ^ hsh v 0 ||| nb * 2 ^ hsh v 1 ||| nc * 2 ^ hsh v 2)) hx hb hr (fun t ht _ => ⟨nI (na * 2 ^ hsh v 0 ||| nb * 2 ^ hsh v 1 ||| nc * 2 ^ hsh v 2), rfl, by rw [hcode hv ha hb6 hc], ht⟩) (fun _ h => by cases h) dX0_codeOf_23

set_option maxHeartbeats 4000000 in
set_option maxRecDepth 100000 in
/-- numberIn -/
theorem c_X0_numberIn (l : Launch) (x k : Nat) (hk : k < 8) (hx48 : x < 2 ^ 48) : hSi l yX0_numberIn cX0_numberIn 3 (some .int) ({ frames := 1, cells := 0, slots := 0, locals := 60 }) [.long (lN x), .int (hvI k)] (fun r => r = nI (x / 2 ^ (6 * (7 - k)) % 64)) := by
  refine Met.ofW (cc := cX0_numberIn) (maxL := 3) (ret := (some .int)) (by decide) rfl ?_
  intro p e s m args below meth c s₁ B hml hv0
  obtain ⟨rfl, -⟩ := hv0
  have hx := B.exec
  have hb := B.bytes
  have hr := B.returns
  have hts := atoms_spec (ws := hC yX0_numberIn cX0_numberIn 3 (some .int)) B.pre
  have hown : s.vm.findClass RX0 = some m.cls := findClass_of_methodNamed B.named
  have hlocks := B.notSynchronized
  have hl := lv_entry ([.long (lN x), .int (hvI k)]) (n := 3) (Nat.le_of_ble_eq_true rfl)
  rw [lg_entry_eq]
  generalize (lg_sl ([.long (lN x), .int (hvI k)]) ++ List.replicate (3 - (lg_sl ([.long (lN x), .int (hvI k)])).length) Slot.unset).toArray = ls at hl ⊢
  have hl : lv_has ls 3 [(0, .long (lN x)), (2, .int (hvI k))] := hl
  refine lv_lload_n hx hb dX0_numberIn_0 rfl (lv_at hl 0 rfl) ?_
  refine lv_iload_n hx hb dX0_numberIn_1 rfl (lv_at hl 1 rfl) ?_
  refine hc_si (va_runS (As := [.int (hvI k)]) (rest := [.long (lN x)]) ⟨hx, hb, hml, hown, hts⟩ (c_X0_rowShift l k hk) (va_cwS 1 hts (hGS hmc k_510 k_511 k_20 k_512) rfl rfl rfl (by decide +kernel) ⟨Nat.le_of_ble_eq_true rfl, Nat.le_of_ble_eq_true rfl⟩) hpre0 rfl rfl hl.1 rfl (lv_room (Nat.le_of_ble_eq_true rfl)) dX0_numberIn_2 ⟨(Nat.le_refl _), (Nat.le_refl _)⟩) (fun r1 hp => ?_)
  subst hp
  refine lv_lshr (v := lN (x / 2 ^ (6 * (7 - k)))) hx hb dX0_numberIn_5 (hlshr (by omega) (by omega)) ?_
  refine lv_l2i (v := nI (x / 2 ^ (6 * (7 - k)))) hx hb dX0_numberIn_6 (lN_i _) ?_
  refine lv_bipush (v := nI 63) hx hb dX0_numberIn_7 (by decide +kernel) ?_
  refine lv_iand hx hb dX0_numberIn_9 ?_
  exact W.iret (v := ((nI (x / 2 ^ (6 * (7 - k)))) &&& (nI 63))) hx hb hr (fun t ht _ => ⟨((nI (x / 2 ^ (6 * (7 - k)))) &&& (nI 63)), rfl, hand63' _, ht⟩) (fun _ h => by cases h) dX0_numberIn_10

set_option maxHeartbeats 4000000 in
set_option maxRecDepth 100000 in
/-- grown -/
theorem c_X0_grown (l : Launch) (x y : Nat) (hx12 : x ≤ 1000000000000) (hy : y ≤ 640) : hSl l yX0_grown cX0_grown 3 (some .long) ({ frames := 1, cells := 0, slots := 0, locals := 60 }) [.long (lN x), .int (nI y)] (fun r => r = lN (min (x * y) 1000000000000)) := by
  refine Met.ofW (cc := cX0_grown) (maxL := 3) (ret := (some .long)) (by decide) rfl ?_
  intro p e s m args below meth c s₁ B hml hv0
  obtain ⟨rfl, -⟩ := hv0
  have hx := B.exec
  have hb := B.bytes
  have hr := B.returns
  have hts := atoms_spec (ws := hC yX0_grown cX0_grown 3 (some .long)) B.pre
  have hown : s.vm.findClass RX0 = some m.cls := findClass_of_methodNamed B.named
  have hlocks := B.notSynchronized
  have hl := lv_entry ([.long (lN x), .int (nI y)]) (n := 3) (Nat.le_of_ble_eq_true rfl)
  rw [lg_entry_eq]
  generalize (lg_sl ([.long (lN x), .int (nI y)]) ++ List.replicate (3 - (lg_sl ([.long (lN x), .int (nI y)])).length) Slot.unset).toArray = ls at hl ⊢
  have hl : lv_has ls 3 [(0, .long (lN x)), (2, .int (nI y))] := hl
  have hxy : x * y ≤ 1000000000000 * 640 := Nat.mul_le_mul hx12 hy
  refine lv_lload_n hx hb dX0_grown_0 rfl (lv_at hl 0 rfl) ?_
  refine lv_iload_n hx hb dX0_grown_1 rfl (lv_at hl 1 rfl) ?_
  refine lv_i2l (v := lN y) hx hb dX0_grown_2 (nI_l (by omega)) ?_
  refine lv_lmul hx hb dX0_grown_3 ?_
  refine htopl (v := lN (x * y)) (lN_mul _ _) ?_
  refine lv_ldc2 (v := 1000000000000) hx hb hown (hts _ (hmc _ k_409)) dX0_grown_4 ?_
  refine va_mmin_long hx hb (hml.trans hl.1.symm) hown (hts _ (hmc _ k_410)) (hts _ (hmc _ k_411)) (hts _ (hmc _ k_30)) (hts _ (hmc _ k_412)) (Nat.le_of_ble_eq_true rfl) (Nat.le_of_ble_eq_true rfl) (Nat.le_refl _) (Nat.le_refl _) dX0_grown_7 ?_
  exact W.lret (v := (if 1000000000000 < lN (x * y) then 1000000000000 else lN (x * y))) hx hb hr (fun t ht _ => ⟨(if 1000000000000 < lN (x * y) then 1000000000000 else lN (x * y)), rfl, hminl (by omega), ht⟩) (fun _ h => by cases h) dX0_grown_10
