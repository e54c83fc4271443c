set_option maxHeartbeats 4000000 in
set_option maxRecDepth 100000 in
/-- the reference: isNumber -/
theorem c_X9_isNumber (l : Launch) (x : Int32) : hSi l yX9_isNumber cX9_isNumber 1 (some .boolean) ({ frames := 0, cells := 0, slots := 0, locals := 0 }) [.int x] (fun r => hBool r (hOkN x)) := by
  refine Met.ofW (cc := cX9_isNumber) (maxL := 1) (ret := (some .boolean)) (by decide) rfl ?_
  intro p e s m args below meth c s₁ B hml hv0
  obtain ⟨rfl, -⟩ := hv0
  have hx := B.exec
  have hb := B.bytes
  have hr := B.returns
  have hts := atoms_spec (ws := hC yX9_isNumber cX9_isNumber 1 (some .boolean)) B.pre
  have hown : s.vm.findClass RX9 = some m.cls := findClass_of_methodNamed B.named
  have hlocks := B.notSynchronized
  have hl := lv_entry ([.int x]) (n := 1) (Nat.le_of_ble_eq_true rfl)
  rw [lg_entry_eq]
  generalize (lg_sl ([.int x]) ++ List.replicate (1 - (lg_sl ([.int x])).length) Slot.unset).toArray = ls at hl ⊢
  have hl : lv_has ls 1 [(0, .int x)] := hl
  refine lv_iload_n hx hb dX9_isNumber_0 rfl (lv_at hl 0 rfl) ?_
  refine lv_if_lt (tgt := 14) hx hb dX9_isNumber_1 (by decide) (fun c1 => ?_) (fun c1 => ?_)
  · refine lv_iconst (v := nI 0) hx hb dX9_isNumber_14 (by decide +kernel) ?_
    exact W.zret (v := nI 0) hx hb hr (by decide +kernel) (fun t ht _ => ⟨nI 0, rfl, hBool.no (hOkN_neg3 (Or.inl c1)), ht⟩) (fun _ h => by cases h) dX9_isNumber_15
  · refine lv_iload_n hx hb dX9_isNumber_4 rfl (lv_at hl 0 rfl) ?_
    refine lv_bipush (v := nI 63) hx hb dX9_isNumber_5 (by decide +kernel) ?_
    refine lv_icmp_gt (tgt := 14) hx hb dX9_isNumber_7 (by decide) (fun c2 => ?_) (fun c2 => ?_)
    · refine lv_iconst (v := nI 0) hx hb dX9_isNumber_14 (by decide +kernel) ?_
      exact W.zret (v := nI 0) hx hb hr (by decide +kernel) (fun t ht _ => ⟨nI 0, rfl, hBool.no (hOkN_neg3 (Or.inr c2)), ht⟩) (fun _ h => by cases h) dX9_isNumber_15
    · refine lv_iconst (v := nI 1) hx hb dX9_isNumber_10 (by decide +kernel) ?_
      refine lv_goto (tgt := 15) hx hb dX9_isNumber_11 (by decide) ?_
      exact W.zret (v := nI 1) hx hb hr (by decide +kernel) (fun t ht _ => ⟨nI 1, rfl, hBool.yes (hOkN_pos3 c1 c2), ht⟩) (fun _ h => by cases h) dX9_isNumber_15


set_option maxHeartbeats 4000000 in
set_option maxRecDepth 100000 in
/-- the reference: isItem -/
theorem c_X9_isItem (l : Launch) (x : Int32) : hSi l yX9_isItem cX9_isItem 1 (some .boolean) ({ frames := 0, cells := 0, slots := 0, locals := 0 }) [.int x] (fun r => hBool r (hOkN x ∨ hOkV x)) := by
  refine Met.ofW (cc := cX9_isItem) (maxL := 1) (ret := (some .boolean)) (by decide) rfl ?_
  intro p e s m args below meth c s₁ B hml hv0
  obtain ⟨rfl, -⟩ := hv0
  have hx := B.exec
  have hb := B.bytes
  have hr := B.returns
  have hts := atoms_spec (ws := hC yX9_isItem cX9_isItem 1 (some .boolean)) B.pre
  have hown : s.vm.findClass RX9 = some m.cls := findClass_of_methodNamed B.named
  have hlocks := B.notSynchronized
  have hl := lv_entry ([.int x]) (n := 1) (Nat.le_of_ble_eq_true rfl)
  rw [lg_entry_eq]
  generalize (lg_sl ([.int x]) ++ List.replicate (1 - (lg_sl ([.int x])).length) Slot.unset).toArray = ls at hl ⊢
  have hl : lv_has ls 1 [(0, .int x)] := hl
  refine lv_iload_n hx hb dX9_isItem_0 rfl (lv_at hl 0 rfl) ?_
  refine lv_bipush (v := (-8)) hx hb dX9_isItem_1 (by decide +kernel) ?_
  refine lv_icmp_lt (tgt := 16) hx hb dX9_isItem_3 (by decide) (fun c1 => ?_) (fun c1 => ?_)
  · refine lv_iconst (v := nI 0) hx hb dX9_isItem_16 (by decide +kernel) ?_
    exact W.zret (v := nI 0) hx hb hr (by decide +kernel) (fun t ht _ => ⟨nI 0, rfl, hBool.no (hOkI_neg (Or.inl c1)), ht⟩) (fun _ h => by cases h) dX9_isItem_17
  · refine lv_iload_n hx hb dX9_isItem_6 rfl (lv_at hl 0 rfl) ?_
    refine lv_bipush (v := nI 63) hx hb dX9_isItem_7 (by decide +kernel) ?_
    refine lv_icmp_gt (tgt := 16) hx hb dX9_isItem_9 (by decide) (fun c2 => ?_) (fun c2 => ?_)
    · refine lv_iconst (v := nI 0) hx hb dX9_isItem_16 (by decide +kernel) ?_
      exact W.zret (v := nI 0) hx hb hr (by decide +kernel) (fun t ht _ => ⟨nI 0, rfl, hBool.no (hOkI_neg (Or.inr c2)), ht⟩) (fun _ h => by cases h) dX9_isItem_17
    · refine lv_iconst (v := nI 1) hx hb dX9_isItem_12 (by decide +kernel) ?_
      refine lv_goto (tgt := 17) hx hb dX9_isItem_13 (by decide) ?_
      exact W.zret (v := nI 1) hx hb hr (by decide +kernel) (fun t ht _ => ⟨nI 1, rfl, hBool.yes (hOkI_pos c1 c2), ht⟩) (fun _ h => by cases h) dX9_isItem_17

