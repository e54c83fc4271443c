/-- the law's frame, at its calls -/
def hAtL (w0 : Cond) (p : Program) (s : State) (m : MethodId) (meth : Method) (c : Code) (b n9 : Nat) (xs : Nat → Int32) (D : va_G) (K : Nat → ClassId) (tv : Nat) (A : Nat → Prop) : Prop := p.tables.exec = Jvm.exec ∧ c.code = code ∧ meth.sig.returnType = ret ∧ c.maxLocals = 4 ∧ s.vm.findClass R_law = some m.cls ∧ (∀ w ∈ (w0 :: hW0), w.before #[Value.ref b] s = true) ∧ hE D (hTy K) tv A s ∧ va_X b n9 xs s s.heap ∧ b < s.heap.size ∧ ¬ A b ∧ meth.locks = false ∧ (∀ q : Nat, A q → s.heap.size ≤ q) ∧ n9 ≤ 2048
/-- the class's world and the reference's: one state -/
def hTwo (D : va_G) (K : Nat → ClassId) (A : Nat → Prop) (s : State) (ax bx : Nat → Nat) (wa wb : va_W) (H : Heap) (locs : List Loc) (S : Nat → Nat → Nat → Prop) (cnt np : Nat) (o : List Nat) (I : Nat → Nat → Nat) (L Sp : Nat) : Prop := hCS K ax wa S cnt np o I L Sp ∧ hMS K bx wb S cnt np o I ∧ va_P D vwCl wa H ∧ va_D A wa ∧ va_P D vwCl wb H ∧ va_D A wb ∧ hApart wa wb ∧ va_S A s.heap H locs
theorem hQc_bd (L : Nat) : hQc L ≤ 9 := by
  unfold hQc
  repeat' split
  all_goals omega
theorem hQs_bd (L : Nat) : hQs L ≤ 52640 := by
  unfold hQs
  split <;> omega
theorem hInsP.det {S S1 S2 : Nat → Nat → Nat → Prop} {cnt c1 c2 : Nat} {x y z r1 r2 : Int32} (h1 : hInsP S cnt x y z r1 S1 c1) (h2 : hInsP S cnt x y z r2 S2 c2) : r1 = r2 ∧ S1 = S2 ∧ c1 = c2 := by
  rcases h1 with ⟨n1, rfl, rfl, rfl⟩ | ⟨a, b, c, ha, hb, hc, rfl, rfl, rfl, h1⟩
  · rcases h2 with ⟨n2, rfl, rfl, rfl⟩ | ⟨a, b, c, ha, hb, hc, rfl, rfl, rfl, h2⟩
    · exact ⟨rfl, rfl, rfl⟩
    · exact absurd ⟨hOkN_nI ha, hOkN_nI hb, hOkN_nI hc⟩ n1
  · rcases h2 with ⟨n2, rfl, rfl, rfl⟩ | ⟨a', b', c', ha', hb', hc', ea, eb, ec, h2⟩
    · exact absurd ⟨hOkN_nI ha, hOkN_nI hb, hOkN_nI hc⟩ n2
    · obtain rfl := (nI_eq (by omega) (by omega)).mp ea
      obtain rfl := (nI_eq (by omega) (by omega)).mp eb
      obtain rfl := (nI_eq (by omega) (by omega)).mp ec
      rcases h1 with ⟨u, rfl, rfl, rfl⟩ | ⟨u, v, rfl, rfl, rfl⟩ | ⟨u, v, rfl, rfl, rfl⟩ <;> rcases h2 with ⟨u', rfl, rfl, rfl⟩ | ⟨u', v', rfl, rfl, rfl⟩ | ⟨u', v', rfl, rfl, rfl⟩ <;> first | exact ⟨rfl, rfl, rfl⟩ | exact absurd u u' | exact absurd u' u | omega
theorem hRemP.det {S S1 S2 : Nat → Nat → Nat → Prop} {cnt c1 c2 : Nat} {x y z r1 r2 : Int32} (h1 : hRemP S cnt x y z r1 S1 c1) (h2 : hRemP S cnt x y z r2 S2 c2) : r1 = r2 ∧ S1 = S2 ∧ c1 = c2 := by
  rcases h1 with ⟨n1, rfl, rfl, rfl⟩ | ⟨a, b, c, ha, hb, hc, rfl, rfl, rfl, h1⟩
  · rcases h2 with ⟨n2, rfl, rfl, rfl⟩ | ⟨a, b, c, ha, hb, hc, rfl, rfl, rfl, h2⟩
    · exact ⟨rfl, rfl, rfl⟩
    · exact absurd ⟨hOkN_nI ha, hOkN_nI hb, hOkN_nI hc⟩ n1
  · rcases h2 with ⟨n2, rfl, rfl, rfl⟩ | ⟨a', b', c', ha', hb', hc', ea, eb, ec, h2⟩
    · exact absurd ⟨hOkN_nI ha, hOkN_nI hb, hOkN_nI hc⟩ n2
    · obtain rfl := (nI_eq (by omega) (by omega)).mp ea
      obtain rfl := (nI_eq (by omega) (by omega)).mp eb
      obtain rfl := (nI_eq (by omega) (by omega)).mp ec
      rcases h1 with ⟨u, rfl, rfl, rfl⟩ | ⟨u, rfl, rfl, rfl⟩ <;> rcases h2 with ⟨u', rfl, rfl, rfl⟩ | ⟨u', rfl, rfl, rfl⟩ <;> first | exact ⟨rfl, rfl, rfl⟩ | exact absurd u u' | exact absurd u' u
theorem hUseP.det {np : Nat} {o o1 o2 : List Nat} {x r1 r2 : Int32} (hnp : np ≤ 6) (h1 : hUseP np o x r1 o1) (h2 : hUseP np o x r2 o2) : r1 = r2 ∧ o1 = o2 := by
  rcases h1 with ⟨u, rfl, rfl⟩ | ⟨i, hi, rfl, hn, rfl, rfl⟩ <;> rcases h2 with ⟨u', rfl, rfl⟩ | ⟨j, hj, ej, hn', rfl, rfl⟩
  · exact ⟨rfl, rfl⟩
  · exact absurd ⟨j, hj, ej, hn'⟩ u
  · exact absurd ⟨i, hi, rfl, hn⟩ u'
  · obtain rfl := (nI_eq (by omega) (by omega)).mp ej
    exact ⟨rfl, rfl⟩
/-- the reference's new object is a state without triples and patterns -/
theorem hMS0 {K : Nat → ClassId} {ad : Nat → Nat} {ws : va_W} (h : hRX K ad ws (fun _ _ => 0) 0 0 0 0 0 (-2)) : hMS K ad ws (fun _ _ _ => False) 0 0 [] (fun _ _ => 0) := ⟨_, _, _, _, h, Nat.zero_le _, Nat.zero_le _, List.nodup_nil, fun _ h => absurd h List.not_mem_nil, ⟨fun _ => 0, fun _ => 0, fun _ => 0, fun i h => absurd h (Nat.not_lt_zero _), fun i j _ h => absurd h (Nat.not_lt_zero _), fun a b c => ⟨fun h => h.elim, fun ⟨i, h, _⟩ => absurd h (Nat.not_lt_zero _)⟩⟩, fun p h => absurd h (Nat.not_lt_zero _), fun k h => absurd h (Nat.not_lt_zero _), Or.inl rfl, fun i _ => ⟨0, by decide, rfl⟩, fun i _ => ⟨0, by decide, rfl⟩⟩

theorem hsplit {D : va_G} {cl : List vw_C} {A : Nat → Prop} {wa wb : va_W} {H : Heap} (hP : va_P D cl (wa ++ wb) H) (hD : va_D A (wa ++ wb)) : va_P D cl wa H ∧ va_P D cl wb H ∧ va_D A wa ∧ va_D A wb ∧ hApart wa wb := by
  have hr : ∀ (j : Nat) (x : Nat × va_E), wb[j]? = some x → (wa ++ wb)[wa.length + j]? = some x := fun j x h => by
    rw [List.getElem?_append_right (Nat.le_add_right _ _), Nat.add_sub_cancel_left]
    exact h
  refine ⟨fun k q h => hP k q (hinit_at h), fun k q h => hP _ q (hr k q h), ⟨fun i j x y h1 h2 e => hD.1 i j x y (hinit_at h1) (hinit_at h2) e, fun k q h => hD.2 k q (hinit_at h)⟩, ⟨fun i j x y h1 h2 e => ?_, fun k q h => hD.2 _ q (hr k q h)⟩, fun i j x y h1 h2 e => ?_⟩
  · have := hD.1 _ _ x y (hr i x h1) (hr j y h2) e
    omega
  · have := hD.1 _ _ x y (hinit_at h1) (hr j y h2) e
    have := (List.getElem?_eq_some_iff.mp h1).1
    omega
theorem hlawts {w0 : Cond} {args : Array Value} {s : State} (hts : ∀ w ∈ lw_tbl, w.before args s = true) (h0 : w0 ∈ hW0) : ∀ w ∈ (w0 :: hW0), w.before args s = true := fun w hw => by
  rcases List.mem_cons.mp hw with rfl | h
  · exact hts _ (hW0_in h0)
  · exact hts w (hW0_in h)
theorem hfour : ∀ L, L < 4 → (nI L - nI 4 : Int32) < nI 0 := by decide +kernel
theorem hand15 (x : Int32) : ∃ j, j < 16 ∧ x &&& nI 15 = nI j := ⟨_, Nat.mod_lt _ (by decide), pk_and x (m := nI 15) 4 (by decide +kernel)⟩

/-- what is left of the law from the end of a turn -/
def hGo (l : Launch) (p : Program) (e : Env) (s : State) (m : MethodId) (below : List Frame) (meth : Method) (c : Code) (b : Nat) (D : va_G) (K : Nat → ClassId) (A : Nat → Prop) (ax bx : Nat → Nat) (i : Nat) : Prop := ∀ (H : Heap) (locs : List Loc) (ls : Array Slot) (cells slots : Nat) (wa wb : va_W) (S : Nat → Nat → Nat → Prop) (cnt np : Nat) (o : List Nat) (I : Nat → Nat → Nat) (L Sp : Nat), hTwo D K A s ax bx wa wb H locs S cnt np o I L Sp → cells ≤ 1000 + hQc L + hQc Sp → slots ≤ 300000 + hQs L + hQs Sp → lv_has ls 4 [(3, .int (nI i)), (2, .ref (bx 0)), (1, .ref (ax 0)), (0, .ref b)] → W p l e room_1 s m #[Value.ref b] below meth c H locs cells slots (lw_Z below #[Value.ref b] s) (F0 m 446 ls [])

set_option maxHeartbeats 4000000 in
set_option maxRecDepth 100000 in
theorem hcase_0 (l : Launch) {p : Program} {e : Env} {s : State} {m : MethodId} {below : List Frame} {meth : Method} {c : Code} {b n9 : Nat} {xs : Nat → Int32} {D : va_G} {K : Nat → ClassId} {tv : Nat} {A : Nat → Prop} {H : Heap} {locs : List Loc} {cells slots : Nat} {ls : Array Slot} (ax bx : Nat → Nat) (i : Nat) (hi : i + 4 ≤ n9) (wa wb : va_W) (S : Nat → Nat → Nat → Prop) (cnt np : Nat) (o : List Nat) (I : Nat → Nat → Nat) (L Sp : Nat) (hcell : cells ≤ 1000 + hQc L + hQc Sp) (hslot : slots ≤ 300000 + hQs L + hQs Sp) (C1 : hAtL (Jvm.Cond.initialized "JoinPlanner") p s m meth c b n9 xs D K tv A) (C2 : hTwo D K A s ax bx wa wb H locs S cnt np o I L Sp) (hl : lv_has ls 4 [(3, .int (nI i)), (2, .ref (bx 0)), (1, .ref (ax 0)), (0, .ref b)]) (kk : hGo l p e s m below meth c b D K A ax bx i) : W p l e room_1 s m #[Value.ref b] below meth c H locs cells slots (lw_Z below #[Value.ref b] s) (F0 m 104 ls []) := by
  obtain ⟨hx, hb, hr, hml, hown, hts, E, hX, hbl, hbA, hlocks, hAs, hn9⟩ := id C1
  obtain ⟨hcs, hms, hPa, hDa, hPb, hDb, hap, hS⟩ := C2
  obtain ⟨F, g, dd, mm, ms, lc, rd, ob, fd, ln, tt, co, b9, ra, sa, sc, hcx, hcb, hcz⟩ := id hcs
  have ha0 := hcx.1
  obtain ⟨f, lz, kp, fd9, hrx, hrb⟩ := id hms
  have hb0 := hrx.1
  have hroomC : cells ≤ 600000 := by have := hQc_bd L; have := hQc_bd Sp; omega
  have hroomS : slots ≤ 7302249 := by have := hQs_bd L; have := hQs_bd Sp; omega
  refine lv_aload_n hx hb dL_law_104 rfl (lv_at hl 2 rfl) ?_
  refine lv_aload_n hx hb dL_law_105 rfl (lv_at hl 3 rfl) ?_
  refine lv_iload_n hx hb dL_law_106 rfl (lv_at hl 0 rfl) ?_
  refine lv_iconst (v := nI 1) hx hb dL_law_107 (by decide +kernel) ?_
  refine lv_iadd hx hb dL_law_108 ?_
  refine htopi (v := nI (i + 1)) (nI_add _ _) ?_
  refine va_sld hx hb hX hbl hbA hS (vp_in_nI (by omega) (by omega)) dL_law_109 ?_
  refine htopi (v := xs (i + 1)) (by rw [nI_clamp (by omega)]) ?_
  refine lv_aload_n hx hb dL_law_110 rfl (lv_at hl 3 rfl) ?_
  refine lv_iload_n hx hb dL_law_111 rfl (lv_at hl 0 rfl) ?_
  refine lv_iconst (v := nI 2) hx hb dL_law_112 (by decide +kernel) ?_
  refine lv_iadd hx hb dL_law_113 ?_
  refine htopi (v := nI (i + 2)) (nI_add _ _) ?_
  refine va_sld hx hb hX hbl hbA hS (vp_in_nI (by omega) (by omega)) dL_law_114 ?_
  refine htopi (v := xs (i + 2)) (by rw [nI_clamp (by omega)]) ?_
  refine lv_aload_n hx hb dL_law_115 rfl (lv_at hl 3 rfl) ?_
  refine lv_iload_n hx hb dL_law_116 rfl (lv_at hl 0 rfl) ?_
  refine lv_iconst (v := nI 3) hx hb dL_law_117 (by decide +kernel) ?_
  refine lv_iadd hx hb dL_law_118 ?_
  refine htopi (v := nI (i + 3)) (nI_add _ _) ?_
  refine va_sld hx hb hX hbl hbA hS (vp_in_nI (by omega) (by omega)) dL_law_119 ?_
  refine htopi (v := xs (i + 3)) (by rw [nI_clamp (by omega)]) ?_
  refine hf_i E hDa hPb hap hS (va_runV (As := [.int (xs (i + 1)), .int (xs (i + 2)), .int (xs (i + 3))]) (rest := []) ⟨hx, hb, hml, hown, hts⟩ (c_X0_insert l D K tv wa ax S cnt np o I L Sp hcs (xs (i + 1)) (xs (i + 2)) (xs (i + 3)) H.size) (cwV 3 hts (hGV hmc k_231 k_232 k_233 k_20 k_234) rfl rfl rfl (by decide +kernel) ⟨Nat.le_of_ble_eq_true rfl, Nat.le_of_ble_eq_true rfl⟩) (hpreV E hPa hDa hS ha0 rfl) rfl rfl hl.1 rfl (lv_room (Nat.le_of_ble_eq_true rfl)) dL_law_120 ⟨hroomC, hroomS⟩) (fun r1 wa1 H locs h1 hPa hDa hPb hap hS => ?_)
  refine lv_pop hx hb dL_law_123 rfl ?_
  refine lv_aload_n hx hb dL_law_124 rfl (lv_at hl 1 rfl) ?_
  refine lv_aload_n hx hb dL_law_125 rfl (lv_at hl 3 rfl) ?_
  refine lv_iload_n hx hb dL_law_126 rfl (lv_at hl 0 rfl) ?_
  refine lv_iconst (v := nI 1) hx hb dL_law_127 (by decide +kernel) ?_
  refine lv_iadd hx hb dL_law_128 ?_
  refine htopi (v := nI (i + 1)) (nI_add _ _) ?_
  refine va_sld hx hb hX hbl hbA hS (vp_in_nI (by omega) (by omega)) dL_law_129 ?_
  refine htopi (v := xs (i + 1)) (by rw [nI_clamp (by omega)]) ?_
  refine lv_aload_n hx hb dL_law_130 rfl (lv_at hl 3 rfl) ?_
  refine lv_iload_n hx hb dL_law_131 rfl (lv_at hl 0 rfl) ?_
  refine lv_iconst (v := nI 2) hx hb dL_law_132 (by decide +kernel) ?_
  refine lv_iadd hx hb dL_law_133 ?_
  refine htopi (v := nI (i + 2)) (nI_add _ _) ?_
  refine va_sld hx hb hX hbl hbA hS (vp_in_nI (by omega) (by omega)) dL_law_134 ?_
  refine htopi (v := xs (i + 2)) (by rw [nI_clamp (by omega)]) ?_
  refine lv_aload_n hx hb dL_law_135 rfl (lv_at hl 3 rfl) ?_
  refine lv_iload_n hx hb dL_law_136 rfl (lv_at hl 0 rfl) ?_
  refine lv_iconst (v := nI 3) hx hb dL_law_137 (by decide +kernel) ?_
  refine lv_iadd hx hb dL_law_138 ?_
  refine htopi (v := nI (i + 3)) (nI_add _ _) ?_
  refine va_sld hx hb hX hbl hbA hS (vp_in_nI (by omega) (by omega)) dL_law_139 ?_
  refine htopi (v := xs (i + 3)) (by rw [nI_clamp (by omega)]) ?_
  refine hf_i E hDb hPa hap.symm hS (va_runV (As := [.int (xs (i + 1)), .int (xs (i + 2)), .int (xs (i + 3))]) (rest := []) ⟨hx, hb, hml, hown, hts⟩ (c_X9_insert l D K tv wb bx S cnt np o I hms (xs (i + 1)) (xs (i + 2)) (xs (i + 3)) H.size) (cwV 3 hts (hGV hmc k_624 k_625 k_626 k_29 k_627) rfl rfl rfl (by decide +kernel) ⟨Nat.le_of_ble_eq_true rfl, Nat.le_of_ble_eq_true rfl⟩) (hpreV E hPb hDb hS hb0 rfl) rfl rfl hl.1 rfl (lv_room (Nat.le_of_ble_eq_true rfl)) dL_law_140 ⟨hroomC, hroomS⟩) (fun r2 wb1 H locs h2 hPb hDb hPa hap9 hS => ?_)
  obtain ⟨S1, k1, q1, hcs1⟩ := h1
  obtain ⟨S2, k2, q2, hms1⟩ := h2
  obtain ⟨hre, rfl, rfl⟩ := q1.det q2
  refine lv_pop hx hb dL_law_143 rfl ?_
  refine lv_goto (tgt := 446) hx hb dL_law_144 (by decide) ?_
  exact kk H locs ls _ _ wa1 wb1 S1 k1 np o I L Sp ⟨hcs1, hms1, hPa, hDa, hPb, hDb, hap9.symm, hS⟩ hcell hslot hl

set_option maxHeartbeats 4000000 in
set_option maxRecDepth 100000 in
theorem hcase_1 (l : Launch) {p : Program} {e : Env} {s : State} {m : MethodId} {below : List Frame} {meth : Method} {c : Code} {b n9 : Nat} {xs : Nat → Int32} {D : va_G} {K : Nat → ClassId} {tv : Nat} {A : Nat → Prop} {H : Heap} {locs : List Loc} {cells slots : Nat} {ls : Array Slot} (ax bx : Nat → Nat) (i : Nat) (hi : i + 4 ≤ n9) (wa wb : va_W) (S : Nat → Nat → Nat → Prop) (cnt np : Nat) (o : List Nat) (I : Nat → Nat → Nat) (L Sp : Nat) (hcell : cells ≤ 1000 + hQc L + hQc Sp) (hslot : slots ≤ 300000 + hQs L + hQs Sp) (C1 : hAtL (Jvm.Cond.initialized "JoinPlanner") p s m meth c b n9 xs D K tv A) (C2 : hTwo D K A s ax bx wa wb H locs S cnt np o I L Sp) (hl : lv_has ls 4 [(3, .int (nI i)), (2, .ref (bx 0)), (1, .ref (ax 0)), (0, .ref b)]) (kk : hGo l p e s m below meth c b D K A ax bx i) : W p l e room_1 s m #[Value.ref b] below meth c H locs cells slots (lw_Z below #[Value.ref b] s) (F0 m 147 ls []) := by
  obtain ⟨hx, hb, hr, hml, hown, hts, E, hX, hbl, hbA, hlocks, hAs, hn9⟩ := id C1
  obtain ⟨hcs, hms, hPa, hDa, hPb, hDb, hap, hS⟩ := C2
  obtain ⟨F, g, dd, mm, ms, lc, rd, ob, fd, ln, tt, co, b9, ra, sa, sc, hcx, hcb, hcz⟩ := id hcs
  have ha0 := hcx.1
  obtain ⟨f, lz, kp, fd9, hrx, hrb⟩ := id hms
  have hb0 := hrx.1
  have hroomC : cells ≤ 600000 := by have := hQc_bd L; have := hQc_bd Sp; omega
  have hroomS : slots ≤ 7302249 := by have := hQs_bd L; have := hQs_bd Sp; omega
  refine lv_aload_n hx hb dL_law_147 rfl (lv_at hl 2 rfl) ?_
  refine lv_aload_n hx hb dL_law_148 rfl (lv_at hl 3 rfl) ?_
  refine lv_iload_n hx hb dL_law_149 rfl (lv_at hl 0 rfl) ?_
  refine lv_iconst (v := nI 1) hx hb dL_law_150 (by decide +kernel) ?_
  refine lv_iadd hx hb dL_law_151 ?_
  refine htopi (v := nI (i + 1)) (nI_add _ _) ?_
  refine va_sld hx hb hX hbl hbA hS (vp_in_nI (by omega) (by omega)) dL_law_152 ?_
  refine htopi (v := xs (i + 1)) (by rw [nI_clamp (by omega)]) ?_
  refine lv_aload_n hx hb dL_law_153 rfl (lv_at hl 3 rfl) ?_
  refine lv_iload_n hx hb dL_law_154 rfl (lv_at hl 0 rfl) ?_
  refine lv_iconst (v := nI 2) hx hb dL_law_155 (by decide +kernel) ?_
  refine lv_iadd hx hb dL_law_156 ?_
  refine htopi (v := nI (i + 2)) (nI_add _ _) ?_
  refine va_sld hx hb hX hbl hbA hS (vp_in_nI (by omega) (by omega)) dL_law_157 ?_
  refine htopi (v := xs (i + 2)) (by rw [nI_clamp (by omega)]) ?_
  refine lv_aload_n hx hb dL_law_158 rfl (lv_at hl 3 rfl) ?_
  refine lv_iload_n hx hb dL_law_159 rfl (lv_at hl 0 rfl) ?_
  refine lv_iconst (v := nI 3) hx hb dL_law_160 (by decide +kernel) ?_
  refine lv_iadd hx hb dL_law_161 ?_
  refine htopi (v := nI (i + 3)) (nI_add _ _) ?_
  refine va_sld hx hb hX hbl hbA hS (vp_in_nI (by omega) (by omega)) dL_law_162 ?_
  refine htopi (v := xs (i + 3)) (by rw [nI_clamp (by omega)]) ?_
  refine hf_i E hDa hPb hap hS (va_runV (As := [.int (xs (i + 1)), .int (xs (i + 2)), .int (xs (i + 3))]) (rest := []) ⟨hx, hb, hml, hown, hts⟩ (c_X0_remove l D K tv wa ax S cnt np o I L Sp hcs (xs (i + 1)) (xs (i + 2)) (xs (i + 3)) H.size) (cwV 3 hts (hGV hmc k_269 k_270 k_271 k_20 k_272) rfl rfl rfl (by decide +kernel) ⟨Nat.le_of_ble_eq_true rfl, Nat.le_of_ble_eq_true rfl⟩) (hpreV E hPa hDa hS ha0 rfl) rfl rfl hl.1 rfl (lv_room (Nat.le_of_ble_eq_true rfl)) dL_law_163 ⟨hroomC, hroomS⟩) (fun r1 wa1 H locs h1 hPa hDa hPb hap hS => ?_)
  refine lv_pop hx hb dL_law_166 rfl ?_
  refine lv_aload_n hx hb dL_law_167 rfl (lv_at hl 1 rfl) ?_
  refine lv_aload_n hx hb dL_law_168 rfl (lv_at hl 3 rfl) ?_
  refine lv_iload_n hx hb dL_law_169 rfl (lv_at hl 0 rfl) ?_
  refine lv_iconst (v := nI 1) hx hb dL_law_170 (by decide +kernel) ?_
  refine lv_iadd hx hb dL_law_171 ?_
  refine htopi (v := nI (i + 1)) (nI_add _ _) ?_
  refine va_sld hx hb hX hbl hbA hS (vp_in_nI (by omega) (by omega)) dL_law_172 ?_
  refine htopi (v := xs (i + 1)) (by rw [nI_clamp (by omega)]) ?_
  refine lv_aload_n hx hb dL_law_173 rfl (lv_at hl 3 rfl) ?_
  refine lv_iload_n hx hb dL_law_174 rfl (lv_at hl 0 rfl) ?_
  refine lv_iconst (v := nI 2) hx hb dL_law_175 (by decide +kernel) ?_
  refine lv_iadd hx hb dL_law_176 ?_
  refine htopi (v := nI (i + 2)) (nI_add _ _) ?_
  refine va_sld hx hb hX hbl hbA hS (vp_in_nI (by omega) (by omega)) dL_law_177 ?_
  refine htopi (v := xs (i + 2)) (by rw [nI_clamp (by omega)]) ?_
  refine lv_aload_n hx hb dL_law_178 rfl (lv_at hl 3 rfl) ?_
  refine lv_iload_n hx hb dL_law_179 rfl (lv_at hl 0 rfl) ?_
  refine lv_iconst (v := nI 3) hx hb dL_law_180 (by decide +kernel) ?_
  refine lv_iadd hx hb dL_law_181 ?_
  refine htopi (v := nI (i + 3)) (nI_add _ _) ?_
  refine va_sld hx hb hX hbl hbA hS (vp_in_nI (by omega) (by omega)) dL_law_182 ?_
  refine htopi (v := xs (i + 3)) (by rw [nI_clamp (by omega)]) ?_
  refine hf_i E hDb hPa hap.symm hS (va_runV (As := [.int (xs (i + 1)), .int (xs (i + 2)), .int (xs (i + 3))]) (rest := []) ⟨hx, hb, hml, hown, hts⟩ (c_X9_remove l D K tv wb bx S cnt np o I hms (xs (i + 1)) (xs (i + 2)) (xs (i + 3)) H.size) (cwV 3 hts (hGV hmc k_635 k_636 k_637 k_29 k_638) rfl rfl rfl (by decide +kernel) ⟨Nat.le_of_ble_eq_true rfl, Nat.le_of_ble_eq_true rfl⟩) (hpreV E hPb hDb hS hb0 rfl) rfl rfl hl.1 rfl (lv_room (Nat.le_of_ble_eq_true rfl)) dL_law_183 ⟨hroomC, hroomS⟩) (fun r2 wb1 H locs h2 hPb hDb hPa hap9 hS => ?_)
  obtain ⟨S1, k1, q1, hcs1⟩ := h1
  obtain ⟨S2, k2, q2, hms1⟩ := h2
  obtain ⟨hre, rfl, rfl⟩ := q1.det q2
  refine lv_pop hx hb dL_law_186 rfl ?_
  refine lv_goto (tgt := 446) hx hb dL_law_187 (by decide) ?_
  exact kk H locs ls _ _ wa1 wb1 S1 k1 np o I L Sp ⟨hcs1, hms1, hPa, hDa, hPb, hDb, hap9.symm, hS⟩ hcell hslot hl

set_option maxHeartbeats 4000000 in
set_option maxRecDepth 100000 in
theorem hcase_2 (l : Launch) {p : Program} {e : Env} {s : State} {m : MethodId} {below : List Frame} {meth : Method} {c : Code} {b n9 : Nat} {xs : Nat → Int32} {D : va_G} {K : Nat → ClassId} {tv : Nat} {A : Nat → Prop} {H : Heap} {locs : List Loc} {cells slots : Nat} {ls : Array Slot} (ax bx : Nat → Nat) (i : Nat) (hi : i + 4 ≤ n9) (wa wb : va_W) (S : Nat → Nat → Nat → Prop) (cnt np : Nat) (o : List Nat) (I : Nat → Nat → Nat) (L Sp : Nat) (hcell : cells ≤ 1000 + hQc L + hQc Sp) (hslot : slots ≤ 300000 + hQs L + hQs Sp) (C1 : hAtL (Jvm.Cond.initialized "JoinPlanner") p s m meth c b n9 xs D K tv A) (C2 : hTwo D K A s ax bx wa wb H locs S cnt np o I L Sp) (hl : lv_has ls 4 [(3, .int (nI i)), (2, .ref (bx 0)), (1, .ref (ax 0)), (0, .ref b)]) (kk : hGo l p e s m below meth c b D K A ax bx i) : W p l e room_1 s m #[Value.ref b] below meth c H locs cells slots (lw_Z below #[Value.ref b] s) (F0 m 190 ls []) := by
  obtain ⟨hx, hb, hr, hml, hown, hts, E, hX, hbl, hbA, hlocks, hAs, hn9⟩ := id C1
  obtain ⟨hcs, hms, hPa, hDa, hPb, hDb, hap, hS⟩ := C2
  obtain ⟨F, g, dd, mm, ms, lc, rd, ob, fd, ln, tt, co, b9, ra, sa, sc, hcx, hcb, hcz⟩ := id hcs
  have ha0 := hcx.1
  obtain ⟨f, lz, kp, fd9, hrx, hrb⟩ := id hms
  have hb0 := hrx.1
  have hroomC : cells ≤ 600000 := by have := hQc_bd L; have := hQc_bd Sp; omega
  have hroomS : slots ≤ 7302249 := by have := hQs_bd L; have := hQs_bd Sp; omega
  refine lv_aload_n hx hb dL_law_190 rfl (lv_at hl 2 rfl) ?_
  refine hf_i E hDa hPb hap hS (va_runV (As := []) (rest := []) ⟨hx, hb, hml, hown, hts⟩ (c_X0_triples l D K tv wa ax S cnt np o I L Sp hcs  H.size) (cwV 0 hts (hGV hmc k_278 k_279 k_280 k_20 k_281) rfl rfl rfl (by decide +kernel) ⟨Nat.le_of_ble_eq_true rfl, Nat.le_of_ble_eq_true rfl⟩) (hpreV E hPa hDa hS ha0 rfl) rfl rfl hl.1 rfl (lv_room (Nat.le_of_ble_eq_true rfl)) dL_law_191 ⟨hroomC, hroomS⟩) (fun r1 wa1 H locs h1 hPa hDa hPb hap hS => ?_)
  refine lv_pop hx hb dL_law_194 rfl ?_
  refine lv_aload_n hx hb dL_law_195 rfl (lv_at hl 1 rfl) ?_
  refine hf_i E hDb hPa hap.symm hS (va_runV (As := []) (rest := []) ⟨hx, hb, hml, hown, hts⟩ (c_X9_triples l D K tv wb bx S cnt np o I hms  H.size) (cwV 0 hts (hGV hmc k_639 k_640 k_641 k_29 k_642) rfl rfl rfl (by decide +kernel) ⟨Nat.le_of_ble_eq_true rfl, Nat.le_of_ble_eq_true rfl⟩) (hpreV E hPb hDb hS hb0 rfl) rfl rfl hl.1 rfl (lv_room (Nat.le_of_ble_eq_true rfl)) dL_law_196 ⟨hroomC, hroomS⟩) (fun r2 wb1 H locs h2 hPb hDb hPa hap9 hS => ?_)
  obtain ⟨q1, hcs1⟩ := h1
  obtain ⟨q2, hms1⟩ := h2
  have hre := q1.trans q2.symm
  refine lv_pop hx hb dL_law_199 rfl ?_
  refine lv_goto (tgt := 446) hx hb dL_law_200 (by decide) ?_
  exact kk H locs ls _ _ wa1 wb1 S cnt np o I L Sp ⟨hcs1, hms1, hPa, hDa, hPb, hDb, hap9.symm, hS⟩ hcell hslot hl

set_option maxHeartbeats 4000000 in
set_option maxRecDepth 100000 in
theorem hcase_3 (l : Launch) {p : Program} {e : Env} {s : State} {m : MethodId} {below : List Frame} {meth : Method} {c : Code} {b n9 : Nat} {xs : Nat → Int32} {D : va_G} {K : Nat → ClassId} {tv : Nat} {A : Nat → Prop} {H : Heap} {locs : List Loc} {cells slots : Nat} {ls : Array Slot} (ax bx : Nat → Nat) (i : Nat) (hi : i + 4 ≤ n9) (wa wb : va_W) (S : Nat → Nat → Nat → Prop) (cnt np : Nat) (o : List Nat) (I : Nat → Nat → Nat) (L Sp : Nat) (hcell : cells ≤ 1000 + hQc L + hQc Sp) (hslot : slots ≤ 300000 + hQs L + hQs Sp) (C1 : hAtL (Jvm.Cond.initialized "JoinPlanner") p s m meth c b n9 xs D K tv A) (C2 : hTwo D K A s ax bx wa wb H locs S cnt np o I L Sp) (hl : lv_has ls 4 [(3, .int (nI i)), (2, .ref (bx 0)), (1, .ref (ax 0)), (0, .ref b)]) (kk : hGo l p e s m below meth c b D K A ax bx i) : W p l e room_1 s m #[Value.ref b] below meth c H locs cells slots (lw_Z below #[Value.ref b] s) (F0 m 203 ls []) := by
  obtain ⟨hx, hb, hr, hml, hown, hts, E, hX, hbl, hbA, hlocks, hAs, hn9⟩ := id C1
  obtain ⟨hcs, hms, hPa, hDa, hPb, hDb, hap, hS⟩ := C2
  obtain ⟨F, g, dd, mm, ms, lc, rd, ob, fd, ln, tt, co, b9, ra, sa, sc, hcx, hcb, hcz⟩ := id hcs
  have ha0 := hcx.1
  obtain ⟨f, lz, kp, fd9, hrx, hrb⟩ := id hms
  have hb0 := hrx.1
  have hroomC : cells ≤ 600000 := by have := hQc_bd L; have := hQc_bd Sp; omega
  have hroomS : slots ≤ 7302249 := by have := hQs_bd L; have := hQs_bd Sp; omega
  refine lv_aload_n hx hb dL_law_203 rfl (lv_at hl 2 rfl) ?_
  refine lv_aload_n hx hb dL_law_204 rfl (lv_at hl 3 rfl) ?_
  refine lv_iload_n hx hb dL_law_205 rfl (lv_at hl 0 rfl) ?_
  refine lv_iconst (v := nI 1) hx hb dL_law_206 (by decide +kernel) ?_
  refine lv_iadd hx hb dL_law_207 ?_
  refine htopi (v := nI (i + 1)) (nI_add _ _) ?_
  refine va_sld hx hb hX hbl hbA hS (vp_in_nI (by omega) (by omega)) dL_law_208 ?_
  refine htopi (v := xs (i + 1)) (by rw [nI_clamp (by omega)]) ?_
  refine lv_aload_n hx hb dL_law_209 rfl (lv_at hl 3 rfl) ?_
  refine lv_iload_n hx hb dL_law_210 rfl (lv_at hl 0 rfl) ?_
  refine lv_iconst (v := nI 2) hx hb dL_law_211 (by decide +kernel) ?_
  refine lv_iadd hx hb dL_law_212 ?_
  refine htopi (v := nI (i + 2)) (nI_add _ _) ?_
  refine va_sld hx hb hX hbl hbA hS (vp_in_nI (by omega) (by omega)) dL_law_213 ?_
  refine htopi (v := xs (i + 2)) (by rw [nI_clamp (by omega)]) ?_
  refine lv_aload_n hx hb dL_law_214 rfl (lv_at hl 3 rfl) ?_
  refine lv_iload_n hx hb dL_law_215 rfl (lv_at hl 0 rfl) ?_
  refine lv_iconst (v := nI 3) hx hb dL_law_216 (by decide +kernel) ?_
  refine lv_iadd hx hb dL_law_217 ?_
  refine htopi (v := nI (i + 3)) (nI_add _ _) ?_
  refine va_sld hx hb hX hbl hbA hS (vp_in_nI (by omega) (by omega)) dL_law_218 ?_
  refine htopi (v := xs (i + 3)) (by rw [nI_clamp (by omega)]) ?_
  refine hf_i E hDa hPb hap hS (va_runV (As := [.int (xs (i + 1)), .int (xs (i + 2)), .int (xs (i + 3))]) (rest := []) ⟨hx, hb, hml, hown, hts⟩ (c_X0_pattern l D K tv wa ax S cnt np o I L Sp hcs (xs (i + 1)) (xs (i + 2)) (xs (i + 3)) H.size) (cwV 3 hts (hGV hmc k_282 k_283 k_284 k_20 k_285) rfl rfl rfl (by decide +kernel) ⟨Nat.le_of_ble_eq_true rfl, Nat.le_of_ble_eq_true rfl⟩) (hpreV E hPa hDa hS ha0 rfl) rfl rfl hl.1 rfl (lv_room (Nat.le_of_ble_eq_true rfl)) dL_law_219 ⟨hroomC, hroomS⟩) (fun r1 wa1 H locs h1 hPa hDa hPb hap hS => ?_)
  refine lv_pop hx hb dL_law_222 rfl ?_
  refine lv_aload_n hx hb dL_law_223 rfl (lv_at hl 1 rfl) ?_
  refine lv_aload_n hx hb dL_law_224 rfl (lv_at hl 3 rfl) ?_
  refine lv_iload_n hx hb dL_law_225 rfl (lv_at hl 0 rfl) ?_
  refine lv_iconst (v := nI 1) hx hb dL_law_226 (by decide +kernel) ?_
  refine lv_iadd hx hb dL_law_227 ?_
  refine htopi (v := nI (i + 1)) (nI_add _ _) ?_
  refine va_sld hx hb hX hbl hbA hS (vp_in_nI (by omega) (by omega)) dL_law_228 ?_
  refine htopi (v := xs (i + 1)) (by rw [nI_clamp (by omega)]) ?_
  refine lv_aload_n hx hb dL_law_229 rfl (lv_at hl 3 rfl) ?_
  refine lv_iload_n hx hb dL_law_230 rfl (lv_at hl 0 rfl) ?_
  refine lv_iconst (v := nI 2) hx hb dL_law_231 (by decide +kernel) ?_
  refine lv_iadd hx hb dL_law_232 ?_
  refine htopi (v := nI (i + 2)) (nI_add _ _) ?_
  refine va_sld hx hb hX hbl hbA hS (vp_in_nI (by omega) (by omega)) dL_law_233 ?_
  refine htopi (v := xs (i + 2)) (by rw [nI_clamp (by omega)]) ?_
  refine lv_aload_n hx hb dL_law_234 rfl (lv_at hl 3 rfl) ?_
  refine lv_iload_n hx hb dL_law_235 rfl (lv_at hl 0 rfl) ?_
  refine lv_iconst (v := nI 3) hx hb dL_law_236 (by decide +kernel) ?_
  refine lv_iadd hx hb dL_law_237 ?_
  refine htopi (v := nI (i + 3)) (nI_add _ _) ?_
  refine va_sld hx hb hX hbl hbA hS (vp_in_nI (by omega) (by omega)) dL_law_238 ?_
  refine htopi (v := xs (i + 3)) (by rw [nI_clamp (by omega)]) ?_
  refine hf_i E hDb hPa hap.symm hS (va_runV (As := [.int (xs (i + 1)), .int (xs (i + 2)), .int (xs (i + 3))]) (rest := []) ⟨hx, hb, hml, hown, hts⟩ (c_X9_pattern l D K tv wb bx S cnt np o I hms (xs (i + 1)) (xs (i + 2)) (xs (i + 3)) H.size) (cwV 3 hts (hGV hmc k_643 k_644 k_645 k_29 k_646) rfl rfl rfl (by decide +kernel) ⟨Nat.le_of_ble_eq_true rfl, Nat.le_of_ble_eq_true rfl⟩) (hpreV E hPb hDb hS hb0 rfl) rfl rfl hl.1 rfl (lv_room (Nat.le_of_ble_eq_true rfl)) dL_law_239 ⟨hroomC, hroomS⟩) (fun r2 wb1 H locs h2 hPb hDb hPa hap9 hS => ?_)
  obtain ⟨n1, o1, I1, q1, hcs1⟩ := h1
  obtain ⟨n2, o2, I2, q2, hms1⟩ := h2
  obtain ⟨hre, rfl, rfl, rfl⟩ := q1.det q2
  refine lv_pop hx hb dL_law_242 rfl ?_
  refine lv_goto (tgt := 446) hx hb dL_law_243 (by decide) ?_
  exact kk H locs ls _ _ wa1 wb1 S cnt n1 o1 I1 L Sp ⟨hcs1, hms1, hPa, hDa, hPb, hDb, hap9.symm, hS⟩ hcell hslot hl

set_option maxHeartbeats 4000000 in
set_option maxRecDepth 100000 in
theorem hcase_4 (l : Launch) {p : Program} {e : Env} {s : State} {m : MethodId} {below : List Frame} {meth : Method} {c : Code} {b n9 : Nat} {xs : Nat → Int32} {D : va_G} {K : Nat → ClassId} {tv : Nat} {A : Nat → Prop} {H : Heap} {locs : List Loc} {cells slots : Nat} {ls : Array Slot} (ax bx : Nat → Nat) (i : Nat) (hi : i + 4 ≤ n9) (wa wb : va_W) (S : Nat → Nat → Nat → Prop) (cnt np : Nat) (o : List Nat) (I : Nat → Nat → Nat) (L Sp : Nat) (hcell : cells ≤ 1000 + hQc L + hQc Sp) (hslot : slots ≤ 300000 + hQs L + hQs Sp) (C1 : hAtL (Jvm.Cond.initialized "JoinPlanner") p s m meth c b n9 xs D K tv A) (C2 : hTwo D K A s ax bx wa wb H locs S cnt np o I L Sp) (hl : lv_has ls 4 [(3, .int (nI i)), (2, .ref (bx 0)), (1, .ref (ax 0)), (0, .ref b)]) (kk : hGo l p e s m below meth c b D K A ax bx i) : W p l e room_1 s m #[Value.ref b] below meth c H locs cells slots (lw_Z below #[Value.ref b] s) (F0 m 246 ls []) := by
  obtain ⟨hx, hb, hr, hml, hown, hts, E, hX, hbl, hbA, hlocks, hAs, hn9⟩ := id C1
  obtain ⟨hcs, hms, hPa, hDa, hPb, hDb, hap, hS⟩ := C2
  obtain ⟨F, g, dd, mm, ms, lc, rd, ob, fd, ln, tt, co, b9, ra, sa, sc, hcx, hcb, hcz⟩ := id hcs
  have ha0 := hcx.1
  obtain ⟨f, lz, kp, fd9, hrx, hrb⟩ := id hms
  have hb0 := hrx.1
  have hroomC : cells ≤ 600000 := by have := hQc_bd L; have := hQc_bd Sp; omega
  have hroomS : slots ≤ 7302249 := by have := hQs_bd L; have := hQs_bd Sp; omega
  refine lv_aload_n hx hb dL_law_246 rfl (lv_at hl 2 rfl) ?_
  refine hf_i E hDa hPb hap hS (va_runV (As := []) (rest := []) ⟨hx, hb, hml, hown, hts⟩ (c_X0_clear l D K tv wa ax S cnt np o I L Sp hcs  H.size) (cwV 0 hts (hGV hmc k_304 k_305 k_306 k_20 k_307) rfl rfl rfl (by decide +kernel) ⟨Nat.le_of_ble_eq_true rfl, Nat.le_of_ble_eq_true rfl⟩) (hpreV E hPa hDa hS ha0 rfl) rfl rfl hl.1 rfl (lv_room (Nat.le_of_ble_eq_true rfl)) dL_law_247 ⟨hroomC, hroomS⟩) (fun r1 wa1 H locs h1 hPa hDa hPb hap hS => ?_)
  refine lv_pop hx hb dL_law_250 rfl ?_
  refine lv_aload_n hx hb dL_law_251 rfl (lv_at hl 1 rfl) ?_
  refine hf_i E hDb hPa hap.symm hS (va_runV (As := []) (rest := []) ⟨hx, hb, hml, hown, hts⟩ (c_X9_clear l D K tv wb bx S cnt np o I hms  H.size) (cwV 0 hts (hGV hmc k_650 k_651 k_652 k_29 k_653) rfl rfl rfl (by decide +kernel) ⟨Nat.le_of_ble_eq_true rfl, Nat.le_of_ble_eq_true rfl⟩) (hpreV E hPb hDb hS hb0 rfl) rfl rfl hl.1 rfl (lv_room (Nat.le_of_ble_eq_true rfl)) dL_law_252 ⟨hroomC, hroomS⟩) (fun r2 wb1 H locs h2 hPb hDb hPa hap9 hS => ?_)
  obtain ⟨q1, hcs1⟩ := h1
  obtain ⟨q2, hms1⟩ := h2
  have hre := q1.trans q2.symm
  refine lv_pop hx hb dL_law_255 rfl ?_
  refine lv_goto (tgt := 446) hx hb dL_law_256 (by decide) ?_
  exact kk H locs ls _ _ wa1 wb1 S cnt 0 [] I L Sp ⟨hcs1, hms1, hPa, hDa, hPb, hDb, hap9.symm, hS⟩ hcell hslot hl

set_option maxHeartbeats 4000000 in
set_option maxRecDepth 100000 in
theorem hcase_5 (l : Launch) {p : Program} {e : Env} {s : State} {m : MethodId} {below : List Frame} {meth : Method} {c : Code} {b n9 : Nat} {xs : Nat → Int32} {D : va_G} {K : Nat → ClassId} {tv : Nat} {A : Nat → Prop} {H : Heap} {locs : List Loc} {cells slots : Nat} {ls : Array Slot} (ax bx : Nat → Nat) (i : Nat) (hi : i + 4 ≤ n9) (wa wb : va_W) (S : Nat → Nat → Nat → Prop) (cnt np : Nat) (o : List Nat) (I : Nat → Nat → Nat) (L Sp : Nat) (hcell : cells ≤ 1000 + hQc L + hQc Sp) (hslot : slots ≤ 300000 + hQs L + hQs Sp) (C1 : hAtL (Jvm.Cond.initialized "JoinPlanner") p s m meth c b n9 xs D K tv A) (C2 : hTwo D K A s ax bx wa wb H locs S cnt np o I L Sp) (hl : lv_has ls 4 [(3, .int (nI i)), (2, .ref (bx 0)), (1, .ref (ax 0)), (0, .ref b)]) (kk : hGo l p e s m below meth c b D K A ax bx i) : W p l e room_1 s m #[Value.ref b] below meth c H locs cells slots (lw_Z below #[Value.ref b] s) (F0 m 259 ls []) := by
  obtain ⟨hx, hb, hr, hml, hown, hts, E, hX, hbl, hbA, hlocks, hAs, hn9⟩ := id C1
  obtain ⟨hcs, hms, hPa, hDa, hPb, hDb, hap, hS⟩ := C2
  obtain ⟨F, g, dd, mm, ms, lc, rd, ob, fd, ln, tt, co, b9, ra, sa, sc, hcx, hcb, hcz⟩ := id hcs
  have ha0 := hcx.1
  obtain ⟨f, lz, kp, fd9, hrx, hrb⟩ := id hms
  have hb0 := hrx.1
  have hroomC : cells ≤ 600000 := by have := hQc_bd L; have := hQc_bd Sp; omega
  have hroomS : slots ≤ 7302249 := by have := hQs_bd L; have := hQs_bd Sp; omega
  refine lv_aload_n hx hb dL_law_259 rfl (lv_at hl 2 rfl) ?_
  refine lv_aload_n hx hb dL_law_260 rfl (lv_at hl 3 rfl) ?_
  refine lv_iload_n hx hb dL_law_261 rfl (lv_at hl 0 rfl) ?_
  refine lv_iconst (v := nI 1) hx hb dL_law_262 (by decide +kernel) ?_
  refine lv_iadd hx hb dL_law_263 ?_
  refine htopi (v := nI (i + 1)) (nI_add _ _) ?_
  refine va_sld hx hb hX hbl hbA hS (vp_in_nI (by omega) (by omega)) dL_law_264 ?_
  refine htopi (v := xs (i + 1)) (by rw [nI_clamp (by omega)]) ?_
  refine lv_aload_n hx hb dL_law_265 rfl (lv_at hl 3 rfl) ?_
  refine lv_iload_n hx hb dL_law_266 rfl (lv_at hl 0 rfl) ?_
  refine lv_iconst (v := nI 2) hx hb dL_law_267 (by decide +kernel) ?_
  refine lv_iadd hx hb dL_law_268 ?_
  refine htopi (v := nI (i + 2)) (nI_add _ _) ?_
  refine va_sld hx hb hX hbl hbA hS (vp_in_nI (by omega) (by omega)) dL_law_269 ?_
  refine htopi (v := xs (i + 2)) (by rw [nI_clamp (by omega)]) ?_
  refine hf_i E hDa hPb hap hS (va_runV (As := [.int (xs (i + 1)), .int (xs (i + 2))]) (rest := []) ⟨hx, hb, hml, hown, hts⟩ (c_X0_estimate l D K tv wa ax S cnt np o I L Sp hcs (xs (i + 1)) (xs (i + 2)) H.size) (cwV 2 hts (hGV hmc k_312 k_313 k_314 k_20 k_315) rfl rfl rfl (by decide +kernel) ⟨Nat.le_of_ble_eq_true rfl, Nat.le_of_ble_eq_true rfl⟩) (hpreV E hPa hDa hS ha0 rfl) rfl rfl hl.1 rfl (lv_room (Nat.le_of_ble_eq_true rfl)) dL_law_270 ⟨hroomC, hroomS⟩) (fun r1 wa1 H locs h1 hPa hDa hPb hap hS => ?_)
  refine lv_pop hx hb dL_law_273 rfl ?_
  refine lv_aload_n hx hb dL_law_274 rfl (lv_at hl 1 rfl) ?_
  refine lv_aload_n hx hb dL_law_275 rfl (lv_at hl 3 rfl) ?_
  refine lv_iload_n hx hb dL_law_276 rfl (lv_at hl 0 rfl) ?_
  refine lv_iconst (v := nI 1) hx hb dL_law_277 (by decide +kernel) ?_
  refine lv_iadd hx hb dL_law_278 ?_
  refine htopi (v := nI (i + 1)) (nI_add _ _) ?_
  refine va_sld hx hb hX hbl hbA hS (vp_in_nI (by omega) (by omega)) dL_law_279 ?_
  refine htopi (v := xs (i + 1)) (by rw [nI_clamp (by omega)]) ?_
  refine lv_aload_n hx hb dL_law_280 rfl (lv_at hl 3 rfl) ?_
  refine lv_iload_n hx hb dL_law_281 rfl (lv_at hl 0 rfl) ?_
  refine lv_iconst (v := nI 2) hx hb dL_law_282 (by decide +kernel) ?_
  refine lv_iadd hx hb dL_law_283 ?_
  refine htopi (v := nI (i + 2)) (nI_add _ _) ?_
  refine va_sld hx hb hX hbl hbA hS (vp_in_nI (by omega) (by omega)) dL_law_284 ?_
  refine htopi (v := xs (i + 2)) (by rw [nI_clamp (by omega)]) ?_
  refine hf_i E hDb hPa hap.symm hS (va_runV (As := [.int (xs (i + 1)), .int (xs (i + 2))]) (rest := []) ⟨hx, hb, hml, hown, hts⟩ (c0_estimate l D K tv wb bx f cnt np o.length lz kp fd9 hrx hrb.2.1 hrb.1 S I hrb.2.2.2.2.1 hrb.2.2.2.2.2.1 (xs (i + 1)) (xs (i + 2)) H.size) (cwV 2 hts (hGV hmc k_654 k_655 k_656 k_29 k_657) rfl rfl rfl (by decide +kernel) ⟨Nat.le_of_ble_eq_true rfl, Nat.le_of_ble_eq_true rfl⟩) (hpreV E hPb hDb hS hb0 rfl) rfl rfl hl.1 rfl (lv_room (Nat.le_of_ble_eq_true rfl)) dL_law_285 ⟨hroomC, hroomS⟩) (fun r2 wb1 H locs h2 hPb hDb hPa hap9 hS => ?_)
  obtain ⟨q1, hcs1⟩ := h1
  obtain ⟨q0, q2⟩ := h2
  have hre := q1.det hrb.2.1 q2
  have hms1 : hMS K bx wb1 S cnt np o I := q0 ▸ hms
  refine lv_pop hx hb dL_law_288 rfl ?_
  refine lv_goto (tgt := 446) hx hb dL_law_289 (by decide) ?_
  exact kk H locs ls _ _ wa1 wb1 S cnt np o I L Sp ⟨hcs1, hms1, hPa, hDa, hPb, hDb, hap9.symm, hS⟩ hcell hslot hl

set_option maxHeartbeats 4000000 in
set_option maxRecDepth 100000 in
theorem hcase_6 (l : Launch) {p : Program} {e : Env} {s : State} {m : MethodId} {below : List Frame} {meth : Method} {c : Code} {b n9 : Nat} {xs : Nat → Int32} {D : va_G} {K : Nat → ClassId} {tv : Nat} {A : Nat → Prop} {H : Heap} {locs : List Loc} {cells slots : Nat} {ls : Array Slot} (ax bx : Nat → Nat) (i : Nat) (hi : i + 4 ≤ n9) (wa wb : va_W) (S : Nat → Nat → Nat → Prop) (cnt np : Nat) (o : List Nat) (I : Nat → Nat → Nat) (L Sp : Nat) (hcell : cells ≤ 1000 + hQc L + hQc Sp) (hslot : slots ≤ 300000 + hQs L + hQs Sp) (C1 : hAtL (Jvm.Cond.initialized "JoinPlanner") p s m meth c b n9 xs D K tv A) (C2 : hTwo D K A s ax bx wa wb H locs S cnt np o I L Sp) (hl : lv_has ls 4 [(3, .int (nI i)), (2, .ref (bx 0)), (1, .ref (ax 0)), (0, .ref b)]) (kk : hGo l p e s m below meth c b D K A ax bx i) : W p l e room_1 s m #[Value.ref b] below meth c H locs cells slots (lw_Z below #[Value.ref b] s) (F0 m 292 ls []) := by
  obtain ⟨hx, hb, hr, hml, hown, hts, E, hX, hbl, hbA, hlocks, hAs, hn9⟩ := id C1
  obtain ⟨hcs, hms, hPa, hDa, hPb, hDb, hap, hS⟩ := C2
  obtain ⟨F, g, dd, mm, ms, lc, rd, ob, fd, ln, tt, co, b9, ra, sa, sc, hcx, hcb, hcz⟩ := id hcs
  have ha0 := hcx.1
  obtain ⟨f, lz, kp, fd9, hrx, hrb⟩ := id hms
  have hb0 := hrx.1
  have hroomC : cells ≤ 600000 := by have := hQc_bd L; have := hQc_bd Sp; omega
  have hroomS : slots ≤ 7302249 := by have := hQs_bd L; have := hQs_bd Sp; omega
  refine lv_aload_n hx hb dL_law_292 rfl (lv_at hl 2 rfl) ?_
  refine lv_aload_n hx hb dL_law_293 rfl (lv_at hl 3 rfl) ?_
  refine lv_iload_n hx hb dL_law_294 rfl (lv_at hl 0 rfl) ?_
  refine lv_iconst (v := nI 1) hx hb dL_law_295 (by decide +kernel) ?_
  refine lv_iadd hx hb dL_law_296 ?_
  refine htopi (v := nI (i + 1)) (nI_add _ _) ?_
  refine va_sld hx hb hX hbl hbA hS (vp_in_nI (by omega) (by omega)) dL_law_297 ?_
  refine htopi (v := xs (i + 1)) (by rw [nI_clamp (by omega)]) ?_
  refine hf_i E hDa hPb hap hS (va_runV (As := [.int (xs (i + 1))]) (rest := []) ⟨hx, hb, hml, hown, hts⟩ (c_X0_plan l D K tv wa ax S cnt np o I L Sp hcs (xs (i + 1)) H.size) (cwV 1 hts (hGV hmc k_378 k_379 k_380 k_20 k_381) rfl rfl rfl (by decide +kernel) ⟨Nat.le_of_ble_eq_true rfl, Nat.le_of_ble_eq_true rfl⟩) (hpreV E hPa hDa hS ha0 rfl) rfl rfl hl.1 rfl (lv_room (Nat.le_of_ble_eq_true rfl)) dL_law_298 ⟨hroomC, hroomS⟩) (fun r1 wa1 H locs h1 hPa hDa hPb hap hS => ?_)
  refine lv_pop hx hb dL_law_301 rfl ?_
  refine lv_aload_n hx hb dL_law_302 rfl (lv_at hl 1 rfl) ?_
  refine lv_aload_n hx hb dL_law_303 rfl (lv_at hl 3 rfl) ?_
  refine lv_iload_n hx hb dL_law_304 rfl (lv_at hl 0 rfl) ?_
  refine lv_iconst (v := nI 1) hx hb dL_law_305 (by decide +kernel) ?_
  refine lv_iadd hx hb dL_law_306 ?_
  refine htopi (v := nI (i + 1)) (nI_add _ _) ?_
  refine va_sld hx hb hX hbl hbA hS (vp_in_nI (by omega) (by omega)) dL_law_307 ?_
  refine htopi (v := xs (i + 1)) (by rw [nI_clamp (by omega)]) ?_
  refine hf_i E hDb hPa hap.symm hS (va_runV (As := [.int (xs (i + 1))]) (rest := []) ⟨hx, hb, hml, hown, hts⟩ (c_X9_plan l D K tv wb bx S cnt np o I hms (xs (i + 1)) H.size) (cwV 1 hts (hGV hmc k_673 k_674 k_675 k_29 k_676) rfl rfl rfl (by decide +kernel) ⟨Nat.le_of_ble_eq_true rfl, Nat.le_of_ble_eq_true rfl⟩) (hpreV E hPb hDb hS hb0 rfl) rfl rfl hl.1 rfl (lv_room (Nat.le_of_ble_eq_true rfl)) dL_law_308 ⟨hroomC, hroomS⟩) (fun r2 wb1 H locs h2 hPb hDb hPa hap9 hS => ?_)
  obtain ⟨q1, hcs1⟩ := h1
  obtain ⟨q2, hms1⟩ := h2
  have hre := q1.det hrb.2.1 q2
  refine lv_pop hx hb dL_law_311 rfl ?_
  refine lv_goto (tgt := 446) hx hb dL_law_312 (by decide) ?_
  exact kk H locs ls _ _ wa1 wb1 S cnt np o I L Sp ⟨hcs1, hms1, hPa, hDa, hPb, hDb, hap9.symm, hS⟩ hcell hslot hl
