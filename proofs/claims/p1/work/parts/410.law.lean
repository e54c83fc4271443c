/-- the law's frame, at its calls -/
def hAtL (w0 : Cond) (p : Program) (s : State) (m : MethodId) (meth : Method) (c : Code) (b : Nat) (xs : Nat → Int32) (D : va_G) (K : Nat → ClassId) (tv : Nat) (A : Nat → Prop) : Prop := p.tables.exec = Jvm.exec ∧ c.code = code ∧ meth.sig.returnType = ret ∧ c.maxLocals = 4 ∧ s.vm.findClass R_law = some m.cls ∧ (∀ w ∈ (w0 :: hW0), w.before #[Value.ref b] s = true) ∧ hE D (hTy K) tv A s ∧ va_X b 4 xs s s.heap ∧ b < s.heap.size ∧ ¬ A b ∧ meth.locks = false ∧ ∀ q : Nat, A q → s.heap.size ≤ q
/-- the class's world and the reference's, both fresh -/
def hTwo (D : va_G) (K : Nat → ClassId) (A : Nat → Prop) (s : State) (ax bx : Nat → Nat) (wa wb : va_W) (H : Heap) (locs : List Loc) : Prop := hSt0 K ax wa ∧ hMs K bx wb 0 0 (-2) ∧ va_P D vwCl wa H ∧ va_D A wa ∧ va_P D vwCl wb H ∧ va_D A wb ∧ hApart wa wb ∧ va_S A s.heap H locs
theorem hsplit {D : va_G} {cl : List vw_C} {A : Nat → Prop} {wa wb : va_W} {H : Heap} (hP : va_P D cl (wa ++ wb) H) (hD : va_D A (wa ++ wb)) : va_P D cl wa H ∧ va_P D cl wb H ∧ va_D A wa ∧ va_D A wb ∧ hApart wa wb := by
  have hr : ∀ (j : Nat) (x : Nat × va_E), wb[j]? = some x → (wa ++ wb)[wa.length + j]? = some x := fun j x h => by
    rw [List.getElem?_append_right (Nat.le_add_right _ _), Nat.add_sub_cancel_left]
    exact h
  refine ⟨fun k q h => hP k q (hinit_at h), fun k q h => hP _ q (hr k q h), ⟨fun i j x y h1 h2 e => hD.1 i j x y (hinit_at h1) (hinit_at h2) e, fun k q h => hD.2 k q (hinit_at h)⟩, ⟨fun i j x y h1 h2 e => ?_, fun k q h => hD.2 _ q (hr k q h)⟩, fun i j x y h1 h2 e => ?_⟩
  · have := hD.1 _ _ x y (hr i x h1) (hr j y h2) e
    omega
  · have := hD.1 _ _ x y (hinit_at h1) (hr j y h2) e
    have := (List.getElem?_eq_some_iff.mp h1).1
    omega
theorem hlawts {w0 : Cond} {args : Array Value} {s : State} (hts : ∀ w ∈ lw_tbl, w.before args s = true) (h0 : w0 ∈ hW0) : ∀ w ∈ (w0 :: hW0), w.before args s = true := fun w hw => by
  rcases List.mem_cons.mp hw with rfl | h
  · exact hts _ (hW0_in h0)
  · exact hts w (hW0_in h)
theorem hfour : ∀ L, L < 4 → (nI L - nI 4 : Int32) < nI 0 := by decide +kernel
theorem hand15 (x : Int32) : ∃ j, j < 16 ∧ x &&& nI 15 = nI j := ⟨_, Nat.mod_lt _ (by decide), pk_and x (m := nI 15) 4 (by decide +kernel)⟩

set_option maxHeartbeats 4000000 in
set_option maxRecDepth 100000 in
theorem hlaw_end (l : Launch) {p : Program} {e : Env} {s : State} {m : MethodId} {below : List Frame} {meth : Method} {c : Code} {b : Nat} {xs : Nat → Int32} {D : va_G} {K : Nat → ClassId} {tv : Nat} {A : Nat → Prop} {H : Heap} {locs : List Loc} {cells slots : Nat} {ls : Array Slot} (hcell : cells ≤ 600000) (hslot : slots ≤ 7302249) (C1 : hAtL (Jvm.Cond.initialized "JoinPlanner") p s m meth c b xs D K tv A) (hS : va_S A s.heap H locs) (hl : lv_has ls 4 [(3, .int (nI 0)), (0, .ref b)]) : W p l e room_1 s m #[Value.ref b] below meth c H locs cells slots (lw_Z below #[Value.ref b] s) (F0 m 448 ls []) := by
  obtain ⟨hx, hb, hr, hml, hown, hts, E, hX, hbl, hbA, hlocks, hAs⟩ := C1
  refine lv_iinc (v := nI 4) (lv' := [(3, .int (nI 4)), (0, .ref b)]) hx hb dL_law_448 hl (k := 0) rfl (by decide +kernel) (by decide) rfl (fun ls hl => ?_)
  refine lv_goto (tgt := 18) hx hb dL_law_451 (by decide) ?_
  refine lv_iload_n hx hb dL_law_18 rfl (lv_at hl 0 rfl) ?_
  refine lv_aload_n hx hb dL_law_19 rfl (lv_at hl 1 rfl) ?_
  refine va_slen hx hb hX hbl hbA hS dL_law_20 ?_
  refine lv_iconst (v := nI 4) hx hb dL_law_21 (by decide +kernel) ?_
  refine lv_isub hx hb dL_law_22 ?_
  refine htopi (v := nI 0) (by decide +kernel) ?_
  refine lv_icmp_gt (tgt := 454) hx hb dL_law_23 (by decide) (fun c1 => ?_) (fun c1 => ?_)
  · refine lv_iconst (v := nI 1) hx hb dL_law_454 (by decide +kernel) ?_
    refine va_forget (fun q hq => hAs _ (hS.2.2 q hq)) ?_
    refine W.widen (k := 600000) (n := 7302249) hcell hslot ?_
    exact lw_ret hx hb hr hlocks dL_law_455
  · exact absurd (by decide +kernel) c1

set_option maxHeartbeats 4000000 in
set_option maxRecDepth 100000 in
theorem hcase_0 (l : Launch) {p : Program} {e : Env} {s : State} {m : MethodId} {below : List Frame} {meth : Method} {c : Code} {b : Nat} {xs : Nat → Int32} {D : va_G} {K : Nat → ClassId} {tv : Nat} {A : Nat → Prop} {H : Heap} {locs : List Loc} {cells slots : Nat} {ls : Array Slot} (ax bx : Nat → Nat) (wa wb : va_W) (hcell : cells ≤ 600000) (hslot : slots ≤ 7302249) (C1 : hAtL (Jvm.Cond.initialized "JoinPlanner") p s m meth c b xs D K tv A) (C2 : hTwo D K A s ax bx wa wb H locs) (hl : lv_has ls 4 [(3, .int (nI 0)), (2, .ref (bx 0)), (1, .ref (ax 0)), (0, .ref b)]) : W p l e room_1 s m #[Value.ref b] below meth c H locs cells slots (lw_Z below #[Value.ref b] s) (F0 m 104 ls []) := by
  obtain ⟨hx, hb, hr, hml, hown, hts, E, hX, hbl, hbA, hlocks, hAs⟩ := id C1
  obtain ⟨hs0, hm, hPa, hDa, hPb, hDb, hap, hS⟩ := C2
  have ha0 := hs0.1
  have hb0 := hm.1
  refine lv_aload_n hx hb dL_law_104 rfl (lv_at hl 2 rfl) ?_
  refine lv_aload_n hx hb dL_law_105 rfl (lv_at hl 3 rfl) ?_
  refine lv_iload_n hx hb dL_law_106 rfl (lv_at hl 0 rfl) ?_
  refine lv_iconst (v := nI 1) hx hb dL_law_107 (by decide +kernel) ?_
  refine lv_iadd hx hb dL_law_108 ?_
  refine htopi (v := nI (0 + 1)) (nI_add _ _) ?_
  refine va_sld hx hb hX hbl hbA hS (vp_in_nI (by omega) (by omega)) dL_law_109 ?_
  refine htopi (v := xs (0 + 1)) (by rw [nI_clamp (by omega)]) ?_
  refine lv_aload_n hx hb dL_law_110 rfl (lv_at hl 3 rfl) ?_
  refine lv_iload_n hx hb dL_law_111 rfl (lv_at hl 0 rfl) ?_
  refine lv_iconst (v := nI 2) hx hb dL_law_112 (by decide +kernel) ?_
  refine lv_iadd hx hb dL_law_113 ?_
  refine htopi (v := nI (0 + 2)) (nI_add _ _) ?_
  refine va_sld hx hb hX hbl hbA hS (vp_in_nI (by omega) (by omega)) dL_law_114 ?_
  refine htopi (v := xs (0 + 2)) (by rw [nI_clamp (by omega)]) ?_
  refine lv_aload_n hx hb dL_law_115 rfl (lv_at hl 3 rfl) ?_
  refine lv_iload_n hx hb dL_law_116 rfl (lv_at hl 0 rfl) ?_
  refine lv_iconst (v := nI 3) hx hb dL_law_117 (by decide +kernel) ?_
  refine lv_iadd hx hb dL_law_118 ?_
  refine htopi (v := nI (0 + 3)) (nI_add _ _) ?_
  refine va_sld hx hb hX hbl hbA hS (vp_in_nI (by omega) (by omega)) dL_law_119 ?_
  refine htopi (v := xs (0 + 3)) (by rw [nI_clamp (by omega)]) ?_
  refine hf_i E hDa hPb hap hS (va_runV (As := [.int (xs (0 + 1)), .int (xs (0 + 2)), .int (xs (0 + 3))]) (rest := []) ⟨hx, hb, hml, hown, hts⟩ (c_X0_insert l D K tv wa ax hs0 (xs (0 + 1)) (xs (0 + 2)) (xs (0 + 3)) H.size) (cwV 3 hts (hGV hmc k_231 k_232 k_233 k_20 k_234) rfl rfl rfl (by decide +kernel) ⟨Nat.le_of_ble_eq_true rfl, Nat.le_of_ble_eq_true rfl⟩) (hpreV E hPa hDa hS ha0 rfl) rfl rfl hl.1 rfl (lv_room (Nat.le_of_ble_eq_true rfl)) dL_law_120 ⟨hcell, hslot⟩) (fun r1 wa1 H locs h1 hPa hDa hPb hap hS => ?_)
  refine lv_aload_n hx hb dL_law_123 rfl (lv_at hl 1 rfl) ?_
  refine lv_aload_n hx hb dL_law_124 rfl (lv_at hl 3 rfl) ?_
  refine lv_iload_n hx hb dL_law_125 rfl (lv_at hl 0 rfl) ?_
  refine lv_iconst (v := nI 1) hx hb dL_law_126 (by decide +kernel) ?_
  refine lv_iadd hx hb dL_law_127 ?_
  refine htopi (v := nI (0 + 1)) (nI_add _ _) ?_
  refine va_sld hx hb hX hbl hbA hS (vp_in_nI (by omega) (by omega)) dL_law_128 ?_
  refine htopi (v := xs (0 + 1)) (by rw [nI_clamp (by omega)]) ?_
  refine lv_aload_n hx hb dL_law_129 rfl (lv_at hl 3 rfl) ?_
  refine lv_iload_n hx hb dL_law_130 rfl (lv_at hl 0 rfl) ?_
  refine lv_iconst (v := nI 2) hx hb dL_law_131 (by decide +kernel) ?_
  refine lv_iadd hx hb dL_law_132 ?_
  refine htopi (v := nI (0 + 2)) (nI_add _ _) ?_
  refine va_sld hx hb hX hbl hbA hS (vp_in_nI (by omega) (by omega)) dL_law_133 ?_
  refine htopi (v := xs (0 + 2)) (by rw [nI_clamp (by omega)]) ?_
  refine lv_aload_n hx hb dL_law_134 rfl (lv_at hl 3 rfl) ?_
  refine lv_iload_n hx hb dL_law_135 rfl (lv_at hl 0 rfl) ?_
  refine lv_iconst (v := nI 3) hx hb dL_law_136 (by decide +kernel) ?_
  refine lv_iadd hx hb dL_law_137 ?_
  refine htopi (v := nI (0 + 3)) (nI_add _ _) ?_
  refine va_sld hx hb hX hbl hbA hS (vp_in_nI (by omega) (by omega)) dL_law_138 ?_
  refine htopi (v := xs (0 + 3)) (by rw [nI_clamp (by omega)]) ?_
  refine hf_i E hDb hPa hap.symm hS (va_runV (As := [.int (xs (0 + 1)), .int (xs (0 + 2)), .int (xs (0 + 3))]) (rest := [.int r1]) ⟨hx, hb, hml, hown, hts⟩ (c_X9_insert l D K tv wb bx hm (xs (0 + 1)) (xs (0 + 2)) (xs (0 + 3)) H.size) (cwV 3 hts (hGV hmc k_624 k_625 k_626 k_29 k_627) rfl rfl rfl (by decide +kernel) ⟨Nat.le_of_ble_eq_true rfl, Nat.le_of_ble_eq_true rfl⟩) (hpreV E hPb hDb hS hb0 rfl) rfl rfl hl.1 rfl (lv_room (Nat.le_of_ble_eq_true rfl)) dL_law_139 ⟨hcell, hslot⟩) (fun r2 wb1 H locs h2 hPb hDb hPa hap9 hS => ?_)
  refine lv_icmp_eq (tgt := 448) hx hb dL_law_142 (by decide) (fun c1 => ?_) (fun c1 => ?_)
  · exact hlaw_end l hcell hslot C1 hS (lv_sub hl [0, 3] rfl)
  · exact absurd (h1.trans h2.symm) c1

set_option maxHeartbeats 4000000 in
set_option maxRecDepth 100000 in
theorem hcase_1 (l : Launch) {p : Program} {e : Env} {s : State} {m : MethodId} {below : List Frame} {meth : Method} {c : Code} {b : Nat} {xs : Nat → Int32} {D : va_G} {K : Nat → ClassId} {tv : Nat} {A : Nat → Prop} {H : Heap} {locs : List Loc} {cells slots : Nat} {ls : Array Slot} (ax bx : Nat → Nat) (wa wb : va_W) (hcell : cells ≤ 600000) (hslot : slots ≤ 7302249) (C1 : hAtL (Jvm.Cond.initialized "JoinPlanner") p s m meth c b xs D K tv A) (C2 : hTwo D K A s ax bx wa wb H locs) (hl : lv_has ls 4 [(3, .int (nI 0)), (2, .ref (bx 0)), (1, .ref (ax 0)), (0, .ref b)]) : W p l e room_1 s m #[Value.ref b] below meth c H locs cells slots (lw_Z below #[Value.ref b] s) (F0 m 147 ls []) := by
  obtain ⟨hx, hb, hr, hml, hown, hts, E, hX, hbl, hbA, hlocks, hAs⟩ := id C1
  obtain ⟨hs0, hm, hPa, hDa, hPb, hDb, hap, hS⟩ := C2
  have ha0 := hs0.1
  have hb0 := hm.1
  refine lv_aload_n hx hb dL_law_147 rfl (lv_at hl 2 rfl) ?_
  refine lv_aload_n hx hb dL_law_148 rfl (lv_at hl 3 rfl) ?_
  refine lv_iload_n hx hb dL_law_149 rfl (lv_at hl 0 rfl) ?_
  refine lv_iconst (v := nI 1) hx hb dL_law_150 (by decide +kernel) ?_
  refine lv_iadd hx hb dL_law_151 ?_
  refine htopi (v := nI (0 + 1)) (nI_add _ _) ?_
  refine va_sld hx hb hX hbl hbA hS (vp_in_nI (by omega) (by omega)) dL_law_152 ?_
  refine htopi (v := xs (0 + 1)) (by rw [nI_clamp (by omega)]) ?_
  refine lv_aload_n hx hb dL_law_153 rfl (lv_at hl 3 rfl) ?_
  refine lv_iload_n hx hb dL_law_154 rfl (lv_at hl 0 rfl) ?_
  refine lv_iconst (v := nI 2) hx hb dL_law_155 (by decide +kernel) ?_
  refine lv_iadd hx hb dL_law_156 ?_
  refine htopi (v := nI (0 + 2)) (nI_add _ _) ?_
  refine va_sld hx hb hX hbl hbA hS (vp_in_nI (by omega) (by omega)) dL_law_157 ?_
  refine htopi (v := xs (0 + 2)) (by rw [nI_clamp (by omega)]) ?_
  refine lv_aload_n hx hb dL_law_158 rfl (lv_at hl 3 rfl) ?_
  refine lv_iload_n hx hb dL_law_159 rfl (lv_at hl 0 rfl) ?_
  refine lv_iconst (v := nI 3) hx hb dL_law_160 (by decide +kernel) ?_
  refine lv_iadd hx hb dL_law_161 ?_
  refine htopi (v := nI (0 + 3)) (nI_add _ _) ?_
  refine va_sld hx hb hX hbl hbA hS (vp_in_nI (by omega) (by omega)) dL_law_162 ?_
  refine htopi (v := xs (0 + 3)) (by rw [nI_clamp (by omega)]) ?_
  refine hf_i E hDa hPb hap hS (va_runV (As := [.int (xs (0 + 1)), .int (xs (0 + 2)), .int (xs (0 + 3))]) (rest := []) ⟨hx, hb, hml, hown, hts⟩ (c_X0_remove l D K tv wa ax hs0 (xs (0 + 1)) (xs (0 + 2)) (xs (0 + 3)) H.size) (cwV 3 hts (hGV hmc k_269 k_270 k_271 k_20 k_272) rfl rfl rfl (by decide +kernel) ⟨Nat.le_of_ble_eq_true rfl, Nat.le_of_ble_eq_true rfl⟩) (hpreV E hPa hDa hS ha0 rfl) rfl rfl hl.1 rfl (lv_room (Nat.le_of_ble_eq_true rfl)) dL_law_163 ⟨hcell, hslot⟩) (fun r1 wa1 H locs h1 hPa hDa hPb hap hS => ?_)
  refine lv_aload_n hx hb dL_law_166 rfl (lv_at hl 1 rfl) ?_
  refine lv_aload_n hx hb dL_law_167 rfl (lv_at hl 3 rfl) ?_
  refine lv_iload_n hx hb dL_law_168 rfl (lv_at hl 0 rfl) ?_
  refine lv_iconst (v := nI 1) hx hb dL_law_169 (by decide +kernel) ?_
  refine lv_iadd hx hb dL_law_170 ?_
  refine htopi (v := nI (0 + 1)) (nI_add _ _) ?_
  refine va_sld hx hb hX hbl hbA hS (vp_in_nI (by omega) (by omega)) dL_law_171 ?_
  refine htopi (v := xs (0 + 1)) (by rw [nI_clamp (by omega)]) ?_
  refine lv_aload_n hx hb dL_law_172 rfl (lv_at hl 3 rfl) ?_
  refine lv_iload_n hx hb dL_law_173 rfl (lv_at hl 0 rfl) ?_
  refine lv_iconst (v := nI 2) hx hb dL_law_174 (by decide +kernel) ?_
  refine lv_iadd hx hb dL_law_175 ?_
  refine htopi (v := nI (0 + 2)) (nI_add _ _) ?_
  refine va_sld hx hb hX hbl hbA hS (vp_in_nI (by omega) (by omega)) dL_law_176 ?_
  refine htopi (v := xs (0 + 2)) (by rw [nI_clamp (by omega)]) ?_
  refine lv_aload_n hx hb dL_law_177 rfl (lv_at hl 3 rfl) ?_
  refine lv_iload_n hx hb dL_law_178 rfl (lv_at hl 0 rfl) ?_
  refine lv_iconst (v := nI 3) hx hb dL_law_179 (by decide +kernel) ?_
  refine lv_iadd hx hb dL_law_180 ?_
  refine htopi (v := nI (0 + 3)) (nI_add _ _) ?_
  refine va_sld hx hb hX hbl hbA hS (vp_in_nI (by omega) (by omega)) dL_law_181 ?_
  refine htopi (v := xs (0 + 3)) (by rw [nI_clamp (by omega)]) ?_
  refine hf_i E hDb hPa hap.symm hS (va_runV (As := [.int (xs (0 + 1)), .int (xs (0 + 2)), .int (xs (0 + 3))]) (rest := [.int r1]) ⟨hx, hb, hml, hown, hts⟩ (c_X9_remove l D K tv wb bx hm (xs (0 + 1)) (xs (0 + 2)) (xs (0 + 3)) H.size) (cwV 3 hts (hGV hmc k_635 k_636 k_637 k_29 k_638) rfl rfl rfl (by decide +kernel) ⟨Nat.le_of_ble_eq_true rfl, Nat.le_of_ble_eq_true rfl⟩) (hpreV E hPb hDb hS hb0 rfl) rfl rfl hl.1 rfl (lv_room (Nat.le_of_ble_eq_true rfl)) dL_law_182 ⟨hcell, hslot⟩) (fun r2 wb1 H locs h2 hPb hDb hPa hap9 hS => ?_)
  refine lv_icmp_eq (tgt := 448) hx hb dL_law_185 (by decide) (fun c1 => ?_) (fun c1 => ?_)
  · exact hlaw_end l hcell hslot C1 hS (lv_sub hl [0, 3] rfl)
  · exact absurd (h1.trans h2.symm) c1

set_option maxHeartbeats 4000000 in
set_option maxRecDepth 100000 in
theorem hcase_2 (l : Launch) {p : Program} {e : Env} {s : State} {m : MethodId} {below : List Frame} {meth : Method} {c : Code} {b : Nat} {xs : Nat → Int32} {D : va_G} {K : Nat → ClassId} {tv : Nat} {A : Nat → Prop} {H : Heap} {locs : List Loc} {cells slots : Nat} {ls : Array Slot} (ax bx : Nat → Nat) (wa wb : va_W) (hcell : cells ≤ 600000) (hslot : slots ≤ 7302249) (C1 : hAtL (Jvm.Cond.initialized "JoinPlanner") p s m meth c b xs D K tv A) (C2 : hTwo D K A s ax bx wa wb H locs) (hl : lv_has ls 4 [(3, .int (nI 0)), (2, .ref (bx 0)), (1, .ref (ax 0)), (0, .ref b)]) : W p l e room_1 s m #[Value.ref b] below meth c H locs cells slots (lw_Z below #[Value.ref b] s) (F0 m 190 ls []) := by
  obtain ⟨hx, hb, hr, hml, hown, hts, E, hX, hbl, hbA, hlocks, hAs⟩ := id C1
  obtain ⟨hs0, hm, hPa, hDa, hPb, hDb, hap, hS⟩ := C2
  have ha0 := hs0.1
  have hb0 := hm.1
  refine lv_aload_n hx hb dL_law_190 rfl (lv_at hl 2 rfl) ?_
  refine hf_i E hDa hPb hap hS (va_runV (As := []) (rest := []) ⟨hx, hb, hml, hown, hts⟩ (c_X0_triples l D K tv wa ax hs0  H.size) (cwV 0 hts (hGV hmc k_278 k_279 k_280 k_20 k_281) rfl rfl rfl (by decide +kernel) ⟨Nat.le_of_ble_eq_true rfl, Nat.le_of_ble_eq_true rfl⟩) (hpreV E hPa hDa hS ha0 rfl) rfl rfl hl.1 rfl (lv_room (Nat.le_of_ble_eq_true rfl)) dL_law_191 ⟨hcell, hslot⟩) (fun r1 wa1 H locs h1 hPa hDa hPb hap hS => ?_)
  refine lv_aload_n hx hb dL_law_194 rfl (lv_at hl 1 rfl) ?_
  refine hf_i E hDb hPa hap.symm hS (va_runV (As := []) (rest := [.int r1]) ⟨hx, hb, hml, hown, hts⟩ (c_X9_triples l D K tv wb bx hm  H.size) (cwV 0 hts (hGV hmc k_639 k_640 k_641 k_29 k_642) rfl rfl rfl (by decide +kernel) ⟨Nat.le_of_ble_eq_true rfl, Nat.le_of_ble_eq_true rfl⟩) (hpreV E hPb hDb hS hb0 rfl) rfl rfl hl.1 rfl (lv_room (Nat.le_of_ble_eq_true rfl)) dL_law_195 ⟨hcell, hslot⟩) (fun r2 wb1 H locs h2 hPb hDb hPa hap9 hS => ?_)
  refine lv_icmp_eq (tgt := 448) hx hb dL_law_198 (by decide) (fun c1 => ?_) (fun c1 => ?_)
  · exact hlaw_end l hcell hslot C1 hS (lv_sub hl [0, 3] rfl)
  · exact absurd (h1.trans h2.symm) c1

set_option maxHeartbeats 4000000 in
set_option maxRecDepth 100000 in
theorem hcase_3 (l : Launch) {p : Program} {e : Env} {s : State} {m : MethodId} {below : List Frame} {meth : Method} {c : Code} {b : Nat} {xs : Nat → Int32} {D : va_G} {K : Nat → ClassId} {tv : Nat} {A : Nat → Prop} {H : Heap} {locs : List Loc} {cells slots : Nat} {ls : Array Slot} (ax bx : Nat → Nat) (wa wb : va_W) (hcell : cells ≤ 600000) (hslot : slots ≤ 7302249) (C1 : hAtL (Jvm.Cond.initialized "JoinPlanner") p s m meth c b xs D K tv A) (C2 : hTwo D K A s ax bx wa wb H locs) (hl : lv_has ls 4 [(3, .int (nI 0)), (2, .ref (bx 0)), (1, .ref (ax 0)), (0, .ref b)]) : W p l e room_1 s m #[Value.ref b] below meth c H locs cells slots (lw_Z below #[Value.ref b] s) (F0 m 203 ls []) := by
  obtain ⟨hx, hb, hr, hml, hown, hts, E, hX, hbl, hbA, hlocks, hAs⟩ := id C1
  obtain ⟨hs0, hm, hPa, hDa, hPb, hDb, hap, hS⟩ := C2
  have ha0 := hs0.1
  have hb0 := hm.1
  refine lv_aload_n hx hb dL_law_203 rfl (lv_at hl 2 rfl) ?_
  refine lv_aload_n hx hb dL_law_204 rfl (lv_at hl 3 rfl) ?_
  refine lv_iload_n hx hb dL_law_205 rfl (lv_at hl 0 rfl) ?_
  refine lv_iconst (v := nI 1) hx hb dL_law_206 (by decide +kernel) ?_
  refine lv_iadd hx hb dL_law_207 ?_
  refine htopi (v := nI (0 + 1)) (nI_add _ _) ?_
  refine va_sld hx hb hX hbl hbA hS (vp_in_nI (by omega) (by omega)) dL_law_208 ?_
  refine htopi (v := xs (0 + 1)) (by rw [nI_clamp (by omega)]) ?_
  refine lv_aload_n hx hb dL_law_209 rfl (lv_at hl 3 rfl) ?_
  refine lv_iload_n hx hb dL_law_210 rfl (lv_at hl 0 rfl) ?_
  refine lv_iconst (v := nI 2) hx hb dL_law_211 (by decide +kernel) ?_
  refine lv_iadd hx hb dL_law_212 ?_
  refine htopi (v := nI (0 + 2)) (nI_add _ _) ?_
  refine va_sld hx hb hX hbl hbA hS (vp_in_nI (by omega) (by omega)) dL_law_213 ?_
  refine htopi (v := xs (0 + 2)) (by rw [nI_clamp (by omega)]) ?_
  refine lv_aload_n hx hb dL_law_214 rfl (lv_at hl 3 rfl) ?_
  refine lv_iload_n hx hb dL_law_215 rfl (lv_at hl 0 rfl) ?_
  refine lv_iconst (v := nI 3) hx hb dL_law_216 (by decide +kernel) ?_
  refine lv_iadd hx hb dL_law_217 ?_
  refine htopi (v := nI (0 + 3)) (nI_add _ _) ?_
  refine va_sld hx hb hX hbl hbA hS (vp_in_nI (by omega) (by omega)) dL_law_218 ?_
  refine htopi (v := xs (0 + 3)) (by rw [nI_clamp (by omega)]) ?_
  refine hf_i E hDa hPb hap hS (va_runV (As := [.int (xs (0 + 1)), .int (xs (0 + 2)), .int (xs (0 + 3))]) (rest := []) ⟨hx, hb, hml, hown, hts⟩ (c_X0_pattern l D K tv wa ax hs0 (xs (0 + 1)) (xs (0 + 2)) (xs (0 + 3)) H.size) (cwV 3 hts (hGV hmc k_282 k_283 k_284 k_20 k_285) rfl rfl rfl (by decide +kernel) ⟨Nat.le_of_ble_eq_true rfl, Nat.le_of_ble_eq_true rfl⟩) (hpreV E hPa hDa hS ha0 rfl) rfl rfl hl.1 rfl (lv_room (Nat.le_of_ble_eq_true rfl)) dL_law_219 ⟨hcell, hslot⟩) (fun r1 wa1 H locs h1 hPa hDa hPb hap hS => ?_)
  refine lv_aload_n hx hb dL_law_222 rfl (lv_at hl 1 rfl) ?_
  refine lv_aload_n hx hb dL_law_223 rfl (lv_at hl 3 rfl) ?_
  refine lv_iload_n hx hb dL_law_224 rfl (lv_at hl 0 rfl) ?_
  refine lv_iconst (v := nI 1) hx hb dL_law_225 (by decide +kernel) ?_
  refine lv_iadd hx hb dL_law_226 ?_
  refine htopi (v := nI (0 + 1)) (nI_add _ _) ?_
  refine va_sld hx hb hX hbl hbA hS (vp_in_nI (by omega) (by omega)) dL_law_227 ?_
  refine htopi (v := xs (0 + 1)) (by rw [nI_clamp (by omega)]) ?_
  refine lv_aload_n hx hb dL_law_228 rfl (lv_at hl 3 rfl) ?_
  refine lv_iload_n hx hb dL_law_229 rfl (lv_at hl 0 rfl) ?_
  refine lv_iconst (v := nI 2) hx hb dL_law_230 (by decide +kernel) ?_
  refine lv_iadd hx hb dL_law_231 ?_
  refine htopi (v := nI (0 + 2)) (nI_add _ _) ?_
  refine va_sld hx hb hX hbl hbA hS (vp_in_nI (by omega) (by omega)) dL_law_232 ?_
  refine htopi (v := xs (0 + 2)) (by rw [nI_clamp (by omega)]) ?_
  refine lv_aload_n hx hb dL_law_233 rfl (lv_at hl 3 rfl) ?_
  refine lv_iload_n hx hb dL_law_234 rfl (lv_at hl 0 rfl) ?_
  refine lv_iconst (v := nI 3) hx hb dL_law_235 (by decide +kernel) ?_
  refine lv_iadd hx hb dL_law_236 ?_
  refine htopi (v := nI (0 + 3)) (nI_add _ _) ?_
  refine va_sld hx hb hX hbl hbA hS (vp_in_nI (by omega) (by omega)) dL_law_237 ?_
  refine htopi (v := xs (0 + 3)) (by rw [nI_clamp (by omega)]) ?_
  refine hf_i E hDb hPa hap.symm hS (va_runV (As := [.int (xs (0 + 1)), .int (xs (0 + 2)), .int (xs (0 + 3))]) (rest := [.int r1]) ⟨hx, hb, hml, hown, hts⟩ (c_X9_pattern l D K tv wb bx hm (xs (0 + 1)) (xs (0 + 2)) (xs (0 + 3)) H.size) (cwV 3 hts (hGV hmc k_643 k_644 k_645 k_29 k_646) rfl rfl rfl (by decide +kernel) ⟨Nat.le_of_ble_eq_true rfl, Nat.le_of_ble_eq_true rfl⟩) (hpreV E hPb hDb hS hb0 rfl) rfl rfl hl.1 rfl (lv_room (Nat.le_of_ble_eq_true rfl)) dL_law_238 ⟨hcell, hslot⟩) (fun r2 wb1 H locs h2 hPb hDb hPa hap9 hS => ?_)
  refine lv_icmp_eq (tgt := 448) hx hb dL_law_241 (by decide) (fun c1 => ?_) (fun c1 => ?_)
  · exact hlaw_end l hcell hslot C1 hS (lv_sub hl [0, 3] rfl)
  · exact absurd (h1.trans h2.symm) c1

set_option maxHeartbeats 4000000 in
set_option maxRecDepth 100000 in
theorem hcase_4 (l : Launch) {p : Program} {e : Env} {s : State} {m : MethodId} {below : List Frame} {meth : Method} {c : Code} {b : Nat} {xs : Nat → Int32} {D : va_G} {K : Nat → ClassId} {tv : Nat} {A : Nat → Prop} {H : Heap} {locs : List Loc} {cells slots : Nat} {ls : Array Slot} (ax bx : Nat → Nat) (wa wb : va_W) (hcell : cells ≤ 600000) (hslot : slots ≤ 7302249) (C1 : hAtL (Jvm.Cond.initialized "JoinPlanner") p s m meth c b xs D K tv A) (C2 : hTwo D K A s ax bx wa wb H locs) (hl : lv_has ls 4 [(3, .int (nI 0)), (2, .ref (bx 0)), (1, .ref (ax 0)), (0, .ref b)]) : W p l e room_1 s m #[Value.ref b] below meth c H locs cells slots (lw_Z below #[Value.ref b] s) (F0 m 246 ls []) := by
  obtain ⟨hx, hb, hr, hml, hown, hts, E, hX, hbl, hbA, hlocks, hAs⟩ := id C1
  obtain ⟨hs0, hm, hPa, hDa, hPb, hDb, hap, hS⟩ := C2
  have ha0 := hs0.1
  have hb0 := hm.1
  refine lv_aload_n hx hb dL_law_246 rfl (lv_at hl 2 rfl) ?_
  refine hf_i E hDa hPb hap hS (va_runV (As := []) (rest := []) ⟨hx, hb, hml, hown, hts⟩ (c_X0_clear l D K tv wa ax hs0  H.size) (cwV 0 hts (hGV hmc k_304 k_305 k_306 k_20 k_307) rfl rfl rfl (by decide +kernel) ⟨Nat.le_of_ble_eq_true rfl, Nat.le_of_ble_eq_true rfl⟩) (hpreV E hPa hDa hS ha0 rfl) rfl rfl hl.1 rfl (lv_room (Nat.le_of_ble_eq_true rfl)) dL_law_247 ⟨hcell, hslot⟩) (fun r1 wa1 H locs h1 hPa hDa hPb hap hS => ?_)
  refine lv_aload_n hx hb dL_law_250 rfl (lv_at hl 1 rfl) ?_
  refine hf_i E hDb hPa hap.symm hS (va_runV (As := []) (rest := [.int r1]) ⟨hx, hb, hml, hown, hts⟩ (c_X9_clear l D K tv wb bx hm  H.size) (cwV 0 hts (hGV hmc k_650 k_651 k_652 k_29 k_653) rfl rfl rfl (by decide +kernel) ⟨Nat.le_of_ble_eq_true rfl, Nat.le_of_ble_eq_true rfl⟩) (hpreV E hPb hDb hS hb0 rfl) rfl rfl hl.1 rfl (lv_room (Nat.le_of_ble_eq_true rfl)) dL_law_251 ⟨hcell, hslot⟩) (fun r2 wb1 H locs h2 hPb hDb hPa hap9 hS => ?_)
  refine lv_icmp_eq (tgt := 448) hx hb dL_law_254 (by decide) (fun c1 => ?_) (fun c1 => ?_)
  · exact hlaw_end l hcell hslot C1 hS (lv_sub hl [0, 3] rfl)
  · exact absurd (h1.trans h2.symm) c1

set_option maxHeartbeats 4000000 in
set_option maxRecDepth 100000 in
theorem hcase_5 (l : Launch) {p : Program} {e : Env} {s : State} {m : MethodId} {below : List Frame} {meth : Method} {c : Code} {b : Nat} {xs : Nat → Int32} {D : va_G} {K : Nat → ClassId} {tv : Nat} {A : Nat → Prop} {H : Heap} {locs : List Loc} {cells slots : Nat} {ls : Array Slot} (ax bx : Nat → Nat) (wa wb : va_W) (hcell : cells ≤ 600000) (hslot : slots ≤ 7302249) (C1 : hAtL (Jvm.Cond.initialized "JoinPlanner") p s m meth c b xs D K tv A) (C2 : hTwo D K A s ax bx wa wb H locs) (hl : lv_has ls 4 [(3, .int (nI 0)), (2, .ref (bx 0)), (1, .ref (ax 0)), (0, .ref b)]) : W p l e room_1 s m #[Value.ref b] below meth c H locs cells slots (lw_Z below #[Value.ref b] s) (F0 m 259 ls []) := by
  obtain ⟨hx, hb, hr, hml, hown, hts, E, hX, hbl, hbA, hlocks, hAs⟩ := id C1
  obtain ⟨hs0, hm, hPa, hDa, hPb, hDb, hap, hS⟩ := C2
  have ha0 := hs0.1
  have hb0 := hm.1
  refine lv_aload_n hx hb dL_law_259 rfl (lv_at hl 2 rfl) ?_
  refine lv_aload_n hx hb dL_law_260 rfl (lv_at hl 3 rfl) ?_
  refine lv_iload_n hx hb dL_law_261 rfl (lv_at hl 0 rfl) ?_
  refine lv_iconst (v := nI 1) hx hb dL_law_262 (by decide +kernel) ?_
  refine lv_iadd hx hb dL_law_263 ?_
  refine htopi (v := nI (0 + 1)) (nI_add _ _) ?_
  refine va_sld hx hb hX hbl hbA hS (vp_in_nI (by omega) (by omega)) dL_law_264 ?_
  refine htopi (v := xs (0 + 1)) (by rw [nI_clamp (by omega)]) ?_
  refine lv_aload_n hx hb dL_law_265 rfl (lv_at hl 3 rfl) ?_
  refine lv_iload_n hx hb dL_law_266 rfl (lv_at hl 0 rfl) ?_
  refine lv_iconst (v := nI 2) hx hb dL_law_267 (by decide +kernel) ?_
  refine lv_iadd hx hb dL_law_268 ?_
  refine htopi (v := nI (0 + 2)) (nI_add _ _) ?_
  refine va_sld hx hb hX hbl hbA hS (vp_in_nI (by omega) (by omega)) dL_law_269 ?_
  refine htopi (v := xs (0 + 2)) (by rw [nI_clamp (by omega)]) ?_
  refine hf_i E hDa hPb hap hS (va_runV (As := [.int (xs (0 + 1)), .int (xs (0 + 2))]) (rest := []) ⟨hx, hb, hml, hown, hts⟩ (c_X0_estimate l D K tv wa ax hs0 (xs (0 + 1)) (xs (0 + 2)) H.size) (cwV 2 hts (hGV hmc k_312 k_313 k_314 k_20 k_315) rfl rfl rfl (by decide +kernel) ⟨Nat.le_of_ble_eq_true rfl, Nat.le_of_ble_eq_true rfl⟩) (hpreV E hPa hDa hS ha0 rfl) rfl rfl hl.1 rfl (lv_room (Nat.le_of_ble_eq_true rfl)) dL_law_270 ⟨hcell, hslot⟩) (fun r1 wa1 H locs h1 hPa hDa hPb hap hS => ?_)
  refine lv_aload_n hx hb dL_law_273 rfl (lv_at hl 1 rfl) ?_
  refine lv_aload_n hx hb dL_law_274 rfl (lv_at hl 3 rfl) ?_
  refine lv_iload_n hx hb dL_law_275 rfl (lv_at hl 0 rfl) ?_
  refine lv_iconst (v := nI 1) hx hb dL_law_276 (by decide +kernel) ?_
  refine lv_iadd hx hb dL_law_277 ?_
  refine htopi (v := nI (0 + 1)) (nI_add _ _) ?_
  refine va_sld hx hb hX hbl hbA hS (vp_in_nI (by omega) (by omega)) dL_law_278 ?_
  refine htopi (v := xs (0 + 1)) (by rw [nI_clamp (by omega)]) ?_
  refine lv_aload_n hx hb dL_law_279 rfl (lv_at hl 3 rfl) ?_
  refine lv_iload_n hx hb dL_law_280 rfl (lv_at hl 0 rfl) ?_
  refine lv_iconst (v := nI 2) hx hb dL_law_281 (by decide +kernel) ?_
  refine lv_iadd hx hb dL_law_282 ?_
  refine htopi (v := nI (0 + 2)) (nI_add _ _) ?_
  refine va_sld hx hb hX hbl hbA hS (vp_in_nI (by omega) (by omega)) dL_law_283 ?_
  refine htopi (v := xs (0 + 2)) (by rw [nI_clamp (by omega)]) ?_
  refine hf_i E hDb hPa hap.symm hS (va_runV (As := [.int (xs (0 + 1)), .int (xs (0 + 2))]) (rest := [.int r1]) ⟨hx, hb, hml, hown, hts⟩ (c_X9_estimate l D K tv wb bx hm (xs (0 + 1)) (xs (0 + 2)) H.size) (cwV 2 hts (hGV hmc k_654 k_655 k_656 k_29 k_657) rfl rfl rfl (by decide +kernel) ⟨Nat.le_of_ble_eq_true rfl, Nat.le_of_ble_eq_true rfl⟩) (hpreV E hPb hDb hS hb0 rfl) rfl rfl hl.1 rfl (lv_room (Nat.le_of_ble_eq_true rfl)) dL_law_284 ⟨hcell, hslot⟩) (fun r2 wb1 H locs h2 hPb hDb hPa hap9 hS => ?_)
  refine lv_icmp_eq (tgt := 448) hx hb dL_law_287 (by decide) (fun c1 => ?_) (fun c1 => ?_)
  · exact hlaw_end l hcell hslot C1 hS (lv_sub hl [0, 3] rfl)
  · exact absurd (h1.trans h2.symm) c1

set_option maxHeartbeats 4000000 in
set_option maxRecDepth 100000 in
theorem hcase_6 (l : Launch) {p : Program} {e : Env} {s : State} {m : MethodId} {below : List Frame} {meth : Method} {c : Code} {b : Nat} {xs : Nat → Int32} {D : va_G} {K : Nat → ClassId} {tv : Nat} {A : Nat → Prop} {H : Heap} {locs : List Loc} {cells slots : Nat} {ls : Array Slot} (ax bx : Nat → Nat) (wa wb : va_W) (hcell : cells ≤ 600000) (hslot : slots ≤ 7302249) (C1 : hAtL (Jvm.Cond.initialized "JoinPlanner") p s m meth c b xs D K tv A) (C2 : hTwo D K A s ax bx wa wb H locs) (hl : lv_has ls 4 [(3, .int (nI 0)), (2, .ref (bx 0)), (1, .ref (ax 0)), (0, .ref b)]) : W p l e room_1 s m #[Value.ref b] below meth c H locs cells slots (lw_Z below #[Value.ref b] s) (F0 m 292 ls []) := by
  obtain ⟨hx, hb, hr, hml, hown, hts, E, hX, hbl, hbA, hlocks, hAs⟩ := id C1
  obtain ⟨hs0, hm, hPa, hDa, hPb, hDb, hap, hS⟩ := C2
  have ha0 := hs0.1
  have hb0 := hm.1
  refine lv_aload_n hx hb dL_law_292 rfl (lv_at hl 2 rfl) ?_
  refine lv_aload_n hx hb dL_law_293 rfl (lv_at hl 3 rfl) ?_
  refine lv_iload_n hx hb dL_law_294 rfl (lv_at hl 0 rfl) ?_
  refine lv_iconst (v := nI 1) hx hb dL_law_295 (by decide +kernel) ?_
  refine lv_iadd hx hb dL_law_296 ?_
  refine htopi (v := nI (0 + 1)) (nI_add _ _) ?_
  refine va_sld hx hb hX hbl hbA hS (vp_in_nI (by omega) (by omega)) dL_law_297 ?_
  refine htopi (v := xs (0 + 1)) (by rw [nI_clamp (by omega)]) ?_
  refine hf_i E hDa hPb hap hS (va_runV (As := [.int (xs (0 + 1))]) (rest := []) ⟨hx, hb, hml, hown, hts⟩ (c_X0_plan l D K tv wa ax hs0 (xs (0 + 1)) H.size) (cwV 1 hts (hGV hmc k_378 k_379 k_380 k_20 k_381) rfl rfl rfl (by decide +kernel) ⟨Nat.le_of_ble_eq_true rfl, Nat.le_of_ble_eq_true rfl⟩) (hpreV E hPa hDa hS ha0 rfl) rfl rfl hl.1 rfl (lv_room (Nat.le_of_ble_eq_true rfl)) dL_law_298 ⟨hcell, hslot⟩) (fun r1 wa1 H locs h1 hPa hDa hPb hap hS => ?_)
  refine lv_aload_n hx hb dL_law_301 rfl (lv_at hl 1 rfl) ?_
  refine lv_aload_n hx hb dL_law_302 rfl (lv_at hl 3 rfl) ?_
  refine lv_iload_n hx hb dL_law_303 rfl (lv_at hl 0 rfl) ?_
  refine lv_iconst (v := nI 1) hx hb dL_law_304 (by decide +kernel) ?_
  refine lv_iadd hx hb dL_law_305 ?_
  refine htopi (v := nI (0 + 1)) (nI_add _ _) ?_
  refine va_sld hx hb hX hbl hbA hS (vp_in_nI (by omega) (by omega)) dL_law_306 ?_
  refine htopi (v := xs (0 + 1)) (by rw [nI_clamp (by omega)]) ?_
  refine hf_i E hDb hPa hap.symm hS (va_runV (As := [.int (xs (0 + 1))]) (rest := [.int r1]) ⟨hx, hb, hml, hown, hts⟩ (c_X9_plan l D K tv wb bx hm (xs (0 + 1)) H.size) (cwV 1 hts (hGV hmc k_673 k_674 k_675 k_29 k_676) rfl rfl rfl (by decide +kernel) ⟨Nat.le_of_ble_eq_true rfl, Nat.le_of_ble_eq_true rfl⟩) (hpreV E hPb hDb hS hb0 rfl) rfl rfl hl.1 rfl (lv_room (Nat.le_of_ble_eq_true rfl)) dL_law_307 ⟨hcell, hslot⟩) (fun r2 wb1 H locs h2 hPb hDb hPa hap9 hS => ?_)
  refine lv_icmp_eq (tgt := 448) hx hb dL_law_310 (by decide) (fun c1 => ?_) (fun c1 => ?_)
  · exact hlaw_end l hcell hslot C1 hS (lv_sub hl [0, 3] rfl)
  · exact absurd (h1.trans h2.symm) c1

set_option maxHeartbeats 4000000 in
set_option maxRecDepth 100000 in
theorem hcase_7 (l : Launch) {p : Program} {e : Env} {s : State} {m : MethodId} {below : List Frame} {meth : Method} {c : Code} {b : Nat} {xs : Nat → Int32} {D : va_G} {K : Nat → ClassId} {tv : Nat} {A : Nat → Prop} {H : Heap} {locs : List Loc} {cells slots : Nat} {ls : Array Slot} (ax bx : Nat → Nat) (wa wb : va_W) (hcell : cells ≤ 600000) (hslot : slots ≤ 7302249) (C1 : hAtL (Jvm.Cond.initialized "JoinPlanner") p s m meth c b xs D K tv A) (C2 : hTwo D K A s ax bx wa wb H locs) (hl : lv_has ls 4 [(3, .int (nI 0)), (2, .ref (bx 0)), (1, .ref (ax 0)), (0, .ref b)]) : W p l e room_1 s m #[Value.ref b] below meth c H locs cells slots (lw_Z below #[Value.ref b] s) (F0 m 315 ls []) := by
  obtain ⟨hx, hb, hr, hml, hown, hts, E, hX, hbl, hbA, hlocks, hAs⟩ := id C1
  obtain ⟨hs0, hm, hPa, hDa, hPb, hDb, hap, hS⟩ := C2
  have ha0 := hs0.1
  have hb0 := hm.1
  refine lv_aload_n hx hb dL_law_315 rfl (lv_at hl 2 rfl) ?_
  refine hf_l E hDa hPb hap hS (va_runV (As := []) (rest := []) ⟨hx, hb, hml, hown, hts⟩ (c_X0_cost l D K tv wa ax hs0  H.size) (cwV 0 hts (hGV hmc k_431 k_432 k_433 k_20 k_434) rfl rfl rfl (by decide +kernel) ⟨Nat.le_of_ble_eq_true rfl, Nat.le_of_ble_eq_true rfl⟩) (hpreV E hPa hDa hS ha0 rfl) rfl rfl hl.1 rfl (lv_room (Nat.le_of_ble_eq_true rfl)) dL_law_316 ⟨hcell, hslot⟩) (fun r1 wa1 H locs h1 hPa hDa hPb hap hS => ?_)
  refine lv_aload_n hx hb dL_law_319 rfl (lv_at hl 1 rfl) ?_
  refine hf_l E hDb hPa hap.symm hS (va_runV (As := []) (rest := [.long r1]) ⟨hx, hb, hml, hown, hts⟩ (c_X9_cost l D K tv wb bx hm  H.size) (cwV 0 hts (hGV hmc k_707 k_708 k_709 k_29 k_710) rfl rfl rfl (by decide +kernel) ⟨Nat.le_of_ble_eq_true rfl, Nat.le_of_ble_eq_true rfl⟩) (hpreV E hPb hDb hS hb0 rfl) rfl rfl hl.1 rfl (lv_room (Nat.le_of_ble_eq_true rfl)) dL_law_320 ⟨hcell, hslot⟩) (fun r2 wb1 H locs h2 hPb hDb hPa hap9 hS => ?_)
  subst h1
  subst h2
  refine W.lcmp hx hb dL_law_323 ?_
  refine lv_if_eq (tgt := 448) hx hb dL_law_324 (by decide) (fun c1 => ?_) (fun c1 => ?_)
  · exact hlaw_end l hcell hslot C1 hS (lv_sub hl [0, 3] rfl)
  · exact absurd (by decide +kernel) c1

set_option maxHeartbeats 4000000 in
set_option maxRecDepth 100000 in
theorem hcase_8 (l : Launch) {p : Program} {e : Env} {s : State} {m : MethodId} {below : List Frame} {meth : Method} {c : Code} {b : Nat} {xs : Nat → Int32} {D : va_G} {K : Nat → ClassId} {tv : Nat} {A : Nat → Prop} {H : Heap} {locs : List Loc} {cells slots : Nat} {ls : Array Slot} (ax bx : Nat → Nat) (wa wb : va_W) (hcell : cells ≤ 600000) (hslot : slots ≤ 7302249) (C1 : hAtL (Jvm.Cond.initialized "JoinPlanner") p s m meth c b xs D K tv A) (C2 : hTwo D K A s ax bx wa wb H locs) (hl : lv_has ls 4 [(3, .int (nI 0)), (2, .ref (bx 0)), (1, .ref (ax 0)), (0, .ref b)]) : W p l e room_1 s m #[Value.ref b] below meth c H locs cells slots (lw_Z below #[Value.ref b] s) (F0 m 329 ls []) := by
  obtain ⟨hx, hb, hr, hml, hown, hts, E, hX, hbl, hbA, hlocks, hAs⟩ := id C1
  obtain ⟨hs0, hm, hPa, hDa, hPb, hDb, hap, hS⟩ := C2
  have ha0 := hs0.1
  have hb0 := hm.1
  refine lv_aload_n hx hb dL_law_329 rfl (lv_at hl 2 rfl) ?_
  refine lv_aload_n hx hb dL_law_330 rfl (lv_at hl 3 rfl) ?_
  refine lv_iload_n hx hb dL_law_331 rfl (lv_at hl 0 rfl) ?_
  refine lv_iconst (v := nI 1) hx hb dL_law_332 (by decide +kernel) ?_
  refine lv_iadd hx hb dL_law_333 ?_
  refine htopi (v := nI (0 + 1)) (nI_add _ _) ?_
  refine va_sld hx hb hX hbl hbA hS (vp_in_nI (by omega) (by omega)) dL_law_334 ?_
  refine htopi (v := xs (0 + 1)) (by rw [nI_clamp (by omega)]) ?_
  refine hf_i E hDa hPb hap hS (va_runV (As := [.int (xs (0 + 1))]) (rest := []) ⟨hx, hb, hml, hown, hts⟩ (c_X0_use l D K tv wa ax hs0 (xs (0 + 1)) H.size) (cwV 1 hts (hGV hmc k_435 k_436 k_437 k_20 k_438) rfl rfl rfl (by decide +kernel) ⟨Nat.le_of_ble_eq_true rfl, Nat.le_of_ble_eq_true rfl⟩) (hpreV E hPa hDa hS ha0 rfl) rfl rfl hl.1 rfl (lv_room (Nat.le_of_ble_eq_true rfl)) dL_law_335 ⟨hcell, hslot⟩) (fun r1 wa1 H locs h1 hPa hDa hPb hap hS => ?_)
  refine lv_aload_n hx hb dL_law_338 rfl (lv_at hl 1 rfl) ?_
  refine lv_aload_n hx hb dL_law_339 rfl (lv_at hl 3 rfl) ?_
  refine lv_iload_n hx hb dL_law_340 rfl (lv_at hl 0 rfl) ?_
  refine lv_iconst (v := nI 1) hx hb dL_law_341 (by decide +kernel) ?_
  refine lv_iadd hx hb dL_law_342 ?_
  refine htopi (v := nI (0 + 1)) (nI_add _ _) ?_
  refine va_sld hx hb hX hbl hbA hS (vp_in_nI (by omega) (by omega)) dL_law_343 ?_
  refine htopi (v := xs (0 + 1)) (by rw [nI_clamp (by omega)]) ?_
  refine hf_i E hDb hPa hap.symm hS (va_runV (As := [.int (xs (0 + 1))]) (rest := [.int r1]) ⟨hx, hb, hml, hown, hts⟩ (c_X9_use l D K tv wb bx hm (xs (0 + 1)) H.size) (cwV 1 hts (hGV hmc k_711 k_712 k_713 k_29 k_714) rfl rfl rfl (by decide +kernel) ⟨Nat.le_of_ble_eq_true rfl, Nat.le_of_ble_eq_true rfl⟩) (hpreV E hPb hDb hS hb0 rfl) rfl rfl hl.1 rfl (lv_room (Nat.le_of_ble_eq_true rfl)) dL_law_344 ⟨hcell, hslot⟩) (fun r2 wb1 H locs h2 hPb hDb hPa hap9 hS => ?_)
  refine lv_icmp_eq (tgt := 448) hx hb dL_law_347 (by decide) (fun c1 => ?_) (fun c1 => ?_)
  · exact hlaw_end l hcell hslot C1 hS (lv_sub hl [0, 3] rfl)
  · exact absurd (h1.trans h2.symm) c1

set_option maxHeartbeats 4000000 in
set_option maxRecDepth 100000 in
theorem hcase_9 (l : Launch) {p : Program} {e : Env} {s : State} {m : MethodId} {below : List Frame} {meth : Method} {c : Code} {b : Nat} {xs : Nat → Int32} {D : va_G} {K : Nat → ClassId} {tv : Nat} {A : Nat → Prop} {H : Heap} {locs : List Loc} {cells slots : Nat} {ls : Array Slot} (ax bx : Nat → Nat) (wa wb : va_W) (hcell : cells ≤ 600000) (hslot : slots ≤ 7302249) (C1 : hAtL (Jvm.Cond.initialized "JoinPlanner") p s m meth c b xs D K tv A) (C2 : hTwo D K A s ax bx wa wb H locs) (hl : lv_has ls 4 [(3, .int (nI 0)), (2, .ref (bx 0)), (1, .ref (ax 0)), (0, .ref b)]) : W p l e room_1 s m #[Value.ref b] below meth c H locs cells slots (lw_Z below #[Value.ref b] s) (F0 m 352 ls []) := by
  obtain ⟨hx, hb, hr, hml, hown, hts, E, hX, hbl, hbA, hlocks, hAs⟩ := id C1
  obtain ⟨hs0, hm, hPa, hDa, hPb, hDb, hap, hS⟩ := C2
  have ha0 := hs0.1
  have hb0 := hm.1
  refine lv_aload_n hx hb dL_law_352 rfl (lv_at hl 2 rfl) ?_
  refine hf_i E hDa hPb hap hS (va_runV (As := []) (rest := []) ⟨hx, hb, hml, hown, hts⟩ (c_X0_drop l D K tv wa ax hs0  H.size) (cwV 0 hts (hGV hmc k_441 k_442 k_443 k_20 k_444) rfl rfl rfl (by decide +kernel) ⟨Nat.le_of_ble_eq_true rfl, Nat.le_of_ble_eq_true rfl⟩) (hpreV E hPa hDa hS ha0 rfl) rfl rfl hl.1 rfl (lv_room (Nat.le_of_ble_eq_true rfl)) dL_law_353 ⟨hcell, hslot⟩) (fun r1 wa1 H locs h1 hPa hDa hPb hap hS => ?_)
  refine lv_aload_n hx hb dL_law_356 rfl (lv_at hl 1 rfl) ?_
  refine hf_i E hDb hPa hap.symm hS (va_runV (As := []) (rest := [.int r1]) ⟨hx, hb, hml, hown, hts⟩ (c_X9_drop l D K tv wb bx hm  H.size) (cwV 0 hts (hGV hmc k_715 k_716 k_717 k_29 k_718) rfl rfl rfl (by decide +kernel) ⟨Nat.le_of_ble_eq_true rfl, Nat.le_of_ble_eq_true rfl⟩) (hpreV E hPb hDb hS hb0 rfl) rfl rfl hl.1 rfl (lv_room (Nat.le_of_ble_eq_true rfl)) dL_law_357 ⟨hcell, hslot⟩) (fun r2 wb1 H locs h2 hPb hDb hPa hap9 hS => ?_)
  refine lv_icmp_eq (tgt := 448) hx hb dL_law_360 (by decide) (fun c1 => ?_) (fun c1 => ?_)
  · exact hlaw_end l hcell hslot C1 hS (lv_sub hl [0, 3] rfl)
  · exact absurd (h1.trans h2.symm) c1

set_option maxHeartbeats 4000000 in
set_option maxRecDepth 100000 in
theorem hcase_10 (l : Launch) {p : Program} {e : Env} {s : State} {m : MethodId} {below : List Frame} {meth : Method} {c : Code} {b : Nat} {xs : Nat → Int32} {D : va_G} {K : Nat → ClassId} {tv : Nat} {A : Nat → Prop} {H : Heap} {locs : List Loc} {cells slots : Nat} {ls : Array Slot} (ax bx : Nat → Nat) (wa wb : va_W) (hcell : cells ≤ 600000) (hslot : slots ≤ 7302249) (C1 : hAtL (Jvm.Cond.initialized "JoinPlanner") p s m meth c b xs D K tv A) (C2 : hTwo D K A s ax bx wa wb H locs) (hl : lv_has ls 4 [(3, .int (nI 0)), (2, .ref (bx 0)), (1, .ref (ax 0)), (0, .ref b)]) : W p l e room_1 s m #[Value.ref b] below meth c H locs cells slots (lw_Z below #[Value.ref b] s) (F0 m 365 ls []) := by
  obtain ⟨hx, hb, hr, hml, hown, hts, E, hX, hbl, hbA, hlocks, hAs⟩ := id C1
  obtain ⟨hs0, hm, hPa, hDa, hPb, hDb, hap, hS⟩ := C2
  have ha0 := hs0.1
  have hb0 := hm.1
  refine lv_aload_n hx hb dL_law_365 rfl (lv_at hl 2 rfl) ?_
  refine lv_aload_n hx hb dL_law_366 rfl (lv_at hl 3 rfl) ?_
  refine lv_iload_n hx hb dL_law_367 rfl (lv_at hl 0 rfl) ?_
  refine lv_iconst (v := nI 1) hx hb dL_law_368 (by decide +kernel) ?_
  refine lv_iadd hx hb dL_law_369 ?_
  refine htopi (v := nI (0 + 1)) (nI_add _ _) ?_
  refine va_sld hx hb hX hbl hbA hS (vp_in_nI (by omega) (by omega)) dL_law_370 ?_
  refine htopi (v := xs (0 + 1)) (by rw [nI_clamp (by omega)]) ?_
  refine hf_l E hDa hPb hap hS (va_runV (As := [.int (xs (0 + 1))]) (rest := []) ⟨hx, hb, hml, hown, hts⟩ (c_X0_size l D K tv wa ax hs0 (xs (0 + 1)) H.size) (cwV 1 hts (hGV hmc k_445 k_446 k_447 k_20 k_448) rfl rfl rfl (by decide +kernel) ⟨Nat.le_of_ble_eq_true rfl, Nat.le_of_ble_eq_true rfl⟩) (hpreV E hPa hDa hS ha0 rfl) rfl rfl hl.1 rfl (lv_room (Nat.le_of_ble_eq_true rfl)) dL_law_371 ⟨hcell, hslot⟩) (fun r1 wa1 H locs h1 hPa hDa hPb hap hS => ?_)
  refine lv_aload_n hx hb dL_law_374 rfl (lv_at hl 1 rfl) ?_
  refine lv_aload_n hx hb dL_law_375 rfl (lv_at hl 3 rfl) ?_
  refine lv_iload_n hx hb dL_law_376 rfl (lv_at hl 0 rfl) ?_
  refine lv_iconst (v := nI 1) hx hb dL_law_377 (by decide +kernel) ?_
  refine lv_iadd hx hb dL_law_378 ?_
  refine htopi (v := nI (0 + 1)) (nI_add _ _) ?_
  refine va_sld hx hb hX hbl hbA hS (vp_in_nI (by omega) (by omega)) dL_law_379 ?_
  refine htopi (v := xs (0 + 1)) (by rw [nI_clamp (by omega)]) ?_
  refine hf_l E hDb hPa hap.symm hS (va_runV (As := [.int (xs (0 + 1))]) (rest := [.long r1]) ⟨hx, hb, hml, hown, hts⟩ (c_X9_size l D K tv wb bx hm (xs (0 + 1)) H.size) (cwV 1 hts (hGV hmc k_719 k_720 k_721 k_29 k_722) rfl rfl rfl (by decide +kernel) ⟨Nat.le_of_ble_eq_true rfl, Nat.le_of_ble_eq_true rfl⟩) (hpreV E hPb hDb hS hb0 rfl) rfl rfl hl.1 rfl (lv_room (Nat.le_of_ble_eq_true rfl)) dL_law_380 ⟨hcell, hslot⟩) (fun r2 wb1 H locs h2 hPb hDb hPa hap9 hS => ?_)
  subst h1
  subst h2
  refine W.lcmp hx hb dL_law_383 ?_
  refine lv_if_eq (tgt := 448) hx hb dL_law_384 (by decide) (fun c1 => ?_) (fun c1 => ?_)
  · exact hlaw_end l hcell hslot C1 hS (lv_sub hl [0, 3] rfl)
  · exact absurd (by decide +kernel) c1

set_option maxHeartbeats 4000000 in
set_option maxRecDepth 100000 in
theorem hcase_11 (l : Launch) {p : Program} {e : Env} {s : State} {m : MethodId} {below : List Frame} {meth : Method} {c : Code} {b : Nat} {xs : Nat → Int32} {D : va_G} {K : Nat → ClassId} {tv : Nat} {A : Nat → Prop} {H : Heap} {locs : List Loc} {cells slots : Nat} {ls : Array Slot} (ax bx : Nat → Nat) (wa wb : va_W) (hcell : cells ≤ 600000) (hslot : slots ≤ 7302249) (C1 : hAtL (Jvm.Cond.initialized "JoinPlanner") p s m meth c b xs D K tv A) (C2 : hTwo D K A s ax bx wa wb H locs) (hl : lv_has ls 4 [(3, .int (nI 0)), (2, .ref (bx 0)), (1, .ref (ax 0)), (0, .ref b)]) : W p l e room_1 s m #[Value.ref b] below meth c H locs cells slots (lw_Z below #[Value.ref b] s) (F0 m 389 ls []) := by
  obtain ⟨hx, hb, hr, hml, hown, hts, E, hX, hbl, hbA, hlocks, hAs⟩ := id C1
  obtain ⟨hs0, hm, hPa, hDa, hPb, hDb, hap, hS⟩ := C2
  have ha0 := hs0.1
  have hb0 := hm.1
  refine lv_aload_n hx hb dL_law_389 rfl (lv_at hl 2 rfl) ?_
  refine hf_i E hDa hPb hap hS (va_runV (As := []) (rest := []) ⟨hx, hb, hml, hown, hts⟩ (c_X0_rows l D K tv wa ax hs0  H.size) (cwV 0 hts (hGV hmc k_452 k_453 k_454 k_20 k_455) rfl rfl rfl (by decide +kernel) ⟨Nat.le_of_ble_eq_true rfl, Nat.le_of_ble_eq_true rfl⟩) (hpreV E hPa hDa hS ha0 rfl) rfl rfl hl.1 rfl (lv_room (Nat.le_of_ble_eq_true rfl)) dL_law_390 ⟨hcell, hslot⟩) (fun r1 wa1 H locs h1 hPa hDa hPb hap hS => ?_)
  refine lv_aload_n hx hb dL_law_393 rfl (lv_at hl 1 rfl) ?_
  refine hf_i E hDb hPa hap.symm hS (va_runV (As := []) (rest := [.int r1]) ⟨hx, hb, hml, hown, hts⟩ (c_X9_rows l D K tv wb bx hm  H.size) (cwV 0 hts (hGV hmc k_723 k_724 k_725 k_29 k_726) rfl rfl rfl (by decide +kernel) ⟨Nat.le_of_ble_eq_true rfl, Nat.le_of_ble_eq_true rfl⟩) (hpreV E hPb hDb hS hb0 rfl) rfl rfl hl.1 rfl (lv_room (Nat.le_of_ble_eq_true rfl)) dL_law_394 ⟨hcell, hslot⟩) (fun r2 wb1 H locs h2 hPb hDb hPa hap9 hS => ?_)
  refine lv_icmp_eq (tgt := 448) hx hb dL_law_397 (by decide) (fun c1 => ?_) (fun c1 => ?_)
  · exact hlaw_end l hcell hslot C1 hS (lv_sub hl [0, 3] rfl)
  · exact absurd (h1.trans h2.symm) c1

set_option maxHeartbeats 4000000 in
set_option maxRecDepth 100000 in
theorem hcase_12 (l : Launch) {p : Program} {e : Env} {s : State} {m : MethodId} {below : List Frame} {meth : Method} {c : Code} {b : Nat} {xs : Nat → Int32} {D : va_G} {K : Nat → ClassId} {tv : Nat} {A : Nat → Prop} {H : Heap} {locs : List Loc} {cells slots : Nat} {ls : Array Slot} (ax bx : Nat → Nat) (wa wb : va_W) (hcell : cells ≤ 600000) (hslot : slots ≤ 7302249) (C1 : hAtL (Jvm.Cond.initialized "JoinPlanner") p s m meth c b xs D K tv A) (C2 : hTwo D K A s ax bx wa wb H locs) (hl : lv_has ls 4 [(3, .int (nI 0)), (2, .ref (bx 0)), (1, .ref (ax 0)), (0, .ref b)]) : W p l e room_1 s m #[Value.ref b] below meth c H locs cells slots (lw_Z below #[Value.ref b] s) (F0 m 402 ls []) := by
  obtain ⟨hx, hb, hr, hml, hown, hts, E, hX, hbl, hbA, hlocks, hAs⟩ := id C1
  obtain ⟨hs0, hm, hPa, hDa, hPb, hDb, hap, hS⟩ := C2
  have ha0 := hs0.1
  have hb0 := hm.1
  refine lv_aload_n hx hb dL_law_402 rfl (lv_at hl 2 rfl) ?_
  refine hf_i E hDa hPb hap hS (va_runV (As := []) (rest := []) ⟨hx, hb, hml, hown, hts⟩ (c_X0_solutions l D K tv wa ax hs0  H.size) (cwV 0 hts (hGV hmc k_527 k_528 k_529 k_20 k_530) rfl rfl rfl (by decide +kernel) ⟨Nat.le_of_ble_eq_true rfl, Nat.le_of_ble_eq_true rfl⟩) (hpreV E hPa hDa hS ha0 rfl) rfl rfl hl.1 rfl (lv_room (Nat.le_of_ble_eq_true rfl)) dL_law_403 ⟨hcell, hslot⟩) (fun r1 wa1 H locs h1 hPa hDa hPb hap hS => ?_)
  refine lv_aload_n hx hb dL_law_406 rfl (lv_at hl 1 rfl) ?_
  refine hf_i E hDb hPa hap.symm hS (va_runV (As := []) (rest := [.int r1]) ⟨hx, hb, hml, hown, hts⟩ (c_X9_solutions l D K tv wb bx hm  H.size) (cwV 0 hts (hGV hmc k_743 k_744 k_745 k_29 k_746) rfl rfl rfl (by decide +kernel) ⟨Nat.le_of_ble_eq_true rfl, Nat.le_of_ble_eq_true rfl⟩) (hpreV E hPb hDb hS hb0 rfl) rfl rfl hl.1 rfl (lv_room (Nat.le_of_ble_eq_true rfl)) dL_law_407 ⟨hcell, hslot⟩) (fun r2 wb1 H locs h2 hPb hDb hPa hap9 hS => ?_)
  refine lv_icmp_eq (tgt := 448) hx hb dL_law_410 (by decide) (fun c1 => ?_) (fun c1 => ?_)
  · exact hlaw_end l hcell hslot C1 hS (lv_sub hl [0, 3] rfl)
  · exact absurd (h1.trans h2.symm) c1

set_option maxHeartbeats 4000000 in
set_option maxRecDepth 100000 in
theorem hcase_13 (l : Launch) {p : Program} {e : Env} {s : State} {m : MethodId} {below : List Frame} {meth : Method} {c : Code} {b : Nat} {xs : Nat → Int32} {D : va_G} {K : Nat → ClassId} {tv : Nat} {A : Nat → Prop} {H : Heap} {locs : List Loc} {cells slots : Nat} {ls : Array Slot} (ax bx : Nat → Nat) (wa wb : va_W) (hcell : cells ≤ 600000) (hslot : slots ≤ 7302249) (C1 : hAtL (Jvm.Cond.initialized "JoinPlanner") p s m meth c b xs D K tv A) (C2 : hTwo D K A s ax bx wa wb H locs) (hl : lv_has ls 4 [(3, .int (nI 0)), (2, .ref (bx 0)), (1, .ref (ax 0)), (0, .ref b)]) : W p l e room_1 s m #[Value.ref b] below meth c H locs cells slots (lw_Z below #[Value.ref b] s) (F0 m 415 ls []) := by
  obtain ⟨hx, hb, hr, hml, hown, hts, E, hX, hbl, hbA, hlocks, hAs⟩ := id C1
  obtain ⟨hs0, hm, hPa, hDa, hPb, hDb, hap, hS⟩ := C2
  have ha0 := hs0.1
  have hb0 := hm.1
  refine lv_aload_n hx hb dL_law_415 rfl (lv_at hl 2 rfl) ?_
  refine lv_aload_n hx hb dL_law_416 rfl (lv_at hl 3 rfl) ?_
  refine lv_iload_n hx hb dL_law_417 rfl (lv_at hl 0 rfl) ?_
  refine lv_iconst (v := nI 1) hx hb dL_law_418 (by decide +kernel) ?_
  refine lv_iadd hx hb dL_law_419 ?_
  refine htopi (v := nI (0 + 1)) (nI_add _ _) ?_
  refine va_sld hx hb hX hbl hbA hS (vp_in_nI (by omega) (by omega)) dL_law_420 ?_
  refine htopi (v := xs (0 + 1)) (by rw [nI_clamp (by omega)]) ?_
  refine lv_aload_n hx hb dL_law_421 rfl (lv_at hl 3 rfl) ?_
  refine lv_iload_n hx hb dL_law_422 rfl (lv_at hl 0 rfl) ?_
  refine lv_iconst (v := nI 2) hx hb dL_law_423 (by decide +kernel) ?_
  refine lv_iadd hx hb dL_law_424 ?_
  refine htopi (v := nI (0 + 2)) (nI_add _ _) ?_
  refine va_sld hx hb hX hbl hbA hS (vp_in_nI (by omega) (by omega)) dL_law_425 ?_
  refine htopi (v := xs (0 + 2)) (by rw [nI_clamp (by omega)]) ?_
  refine hf_i E hDa hPb hap hS (va_runV (As := [.int (xs (0 + 1)), .int (xs (0 + 2))]) (rest := []) ⟨hx, hb, hml, hown, hts⟩ (c_X0_value l D K tv wa ax hs0 (xs (0 + 1)) (xs (0 + 2)) H.size) (cwV 2 hts (hGV hmc k_547 k_548 k_549 k_20 k_550) rfl rfl rfl (by decide +kernel) ⟨Nat.le_of_ble_eq_true rfl, Nat.le_of_ble_eq_true rfl⟩) (hpreV E hPa hDa hS ha0 rfl) rfl rfl hl.1 rfl (lv_room (Nat.le_of_ble_eq_true rfl)) dL_law_426 ⟨hcell, hslot⟩) (fun r1 wa1 H locs h1 hPa hDa hPb hap hS => ?_)
  refine lv_aload_n hx hb dL_law_429 rfl (lv_at hl 1 rfl) ?_
  refine lv_aload_n hx hb dL_law_430 rfl (lv_at hl 3 rfl) ?_
  refine lv_iload_n hx hb dL_law_431 rfl (lv_at hl 0 rfl) ?_
  refine lv_iconst (v := nI 1) hx hb dL_law_432 (by decide +kernel) ?_
  refine lv_iadd hx hb dL_law_433 ?_
  refine htopi (v := nI (0 + 1)) (nI_add _ _) ?_
  refine va_sld hx hb hX hbl hbA hS (vp_in_nI (by omega) (by omega)) dL_law_434 ?_
  refine htopi (v := xs (0 + 1)) (by rw [nI_clamp (by omega)]) ?_
  refine lv_aload_n hx hb dL_law_435 rfl (lv_at hl 3 rfl) ?_
  refine lv_iload_n hx hb dL_law_436 rfl (lv_at hl 0 rfl) ?_
  refine lv_iconst (v := nI 2) hx hb dL_law_437 (by decide +kernel) ?_
  refine lv_iadd hx hb dL_law_438 ?_
  refine htopi (v := nI (0 + 2)) (nI_add _ _) ?_
  refine va_sld hx hb hX hbl hbA hS (vp_in_nI (by omega) (by omega)) dL_law_439 ?_
  refine htopi (v := xs (0 + 2)) (by rw [nI_clamp (by omega)]) ?_
  refine hf_i E hDb hPa hap.symm hS (va_runV (As := [.int (xs (0 + 1)), .int (xs (0 + 2))]) (rest := [.int r1]) ⟨hx, hb, hml, hown, hts⟩ (c_X9_value l D K tv wb bx hm (xs (0 + 1)) (xs (0 + 2)) H.size) (cwV 2 hts (hGV hmc k_751 k_752 k_753 k_29 k_754) rfl rfl rfl (by decide +kernel) ⟨Nat.le_of_ble_eq_true rfl, Nat.le_of_ble_eq_true rfl⟩) (hpreV E hPb hDb hS hb0 rfl) rfl rfl hl.1 rfl (lv_room (Nat.le_of_ble_eq_true rfl)) dL_law_440 ⟨hcell, hslot⟩) (fun r2 wb1 H locs h2 hPb hDb hPa hap9 hS => ?_)
  refine lv_icmp_eq (tgt := 448) hx hb dL_law_443 (by decide) (fun c1 => ?_) (fun c1 => ?_)
  · exact hlaw_end l hcell hslot C1 hS (lv_sub hl [0, 3] rfl)
  · exact absurd (h1.trans h2.symm) c1
