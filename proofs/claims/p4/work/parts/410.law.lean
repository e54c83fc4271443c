/-- the law's frame, at its calls -/
def hAtL (w0 : Cond) (p : Program) (s : State) (m : MethodId) (meth : Method) (c : Code) (b n9 : Nat) (xs : Nat → Int32) (D : va_G) (K : Nat → ClassId) (tv : Nat) (A : Nat → Prop) : Prop := p.tables.exec = Jvm.exec ∧ c.code = code ∧ meth.sig.returnType = ret ∧ c.maxLocals = 4 ∧ s.vm.findClass R_law = some m.cls ∧ (∀ w ∈ (w0 :: hW0), w.before #[Value.ref b] s = true) ∧ hE D (hTy K) tv A s ∧ va_X b n9 xs s s.heap ∧ b < s.heap.size ∧ ¬ A b ∧ meth.locks = false ∧ (∀ q : Nat, A q → s.heap.size ≤ q) ∧ n9 ≤ 2048
/-- the class's world and the reference's: one state -/
def hTwo (D : va_G) (K : Nat → ClassId) (A : Nat → Prop) (s : State) (ax bx : Nat → Nat) (wa wb : va_W) (H : Heap) (locs : List Loc) (S : Nat → Nat → Nat → Prop) (cnt np : Nat) (o : List Nat) (L Sp : Nat) : Prop := hCS K ax wa S cnt np o L Sp ∧ hMS K bx wb S cnt np o ∧ va_P D vwCl wa H ∧ va_D A wa ∧ va_P D vwCl wb H ∧ va_D A wb ∧ hApart wa wb ∧ va_S A s.heap H locs
theorem hQc_bd (L : Nat) : hQc L ≤ 9 := by
  unfold hQc
  repeat' split
  all_goals omega
theorem hQs_bd (L : Nat) : hQs L ≤ 52640 := by
  unfold hQs
  split <;> omega
theorem hInsP.det {S S1 S2 : Nat → Nat → Nat → Prop} {cnt c1 c2 : Nat} {x y z r1 r2 : Int32} (h1 : hInsP S cnt x y z r1 S1 c1) (h2 : hInsP S cnt x y z r2 S2 c2) : r1 = r2 ∧ S1 = S2 ∧ c1 = c2 := by
  rcases h1 with ⟨n1, rfl, rfl, rfl⟩ | ⟨a, b, c, ha, hb, hc, rfl, rfl, rfl, h1⟩
  · rcases h2 with ⟨n2, rfl, rfl, rfl⟩ | ⟨a, b, c, ha, hb, hc, rfl, rfl, rfl, h2⟩
    · exact ⟨rfl, rfl, rfl⟩
    · exact absurd ⟨hOkN_nI ha, hOkN_nI hb, hOkN_nI hc⟩ n1
  · rcases h2 with ⟨n2, rfl, rfl, rfl⟩ | ⟨a', b', c', ha', hb', hc', ea, eb, ec, h2⟩
    · exact absurd ⟨hOkN_nI ha, hOkN_nI hb, hOkN_nI hc⟩ n2
    · obtain rfl := (nI_eq (by omega) (by omega)).mp ea
      obtain rfl := (nI_eq (by omega) (by omega)).mp eb
      obtain rfl := (nI_eq (by omega) (by omega)).mp ec
      rcases h1 with ⟨u, rfl, rfl, rfl⟩ | ⟨u, v, rfl, rfl, rfl⟩ | ⟨u, v, rfl, rfl, rfl⟩ <;> rcases h2 with ⟨u', rfl, rfl, rfl⟩ | ⟨u', v', rfl, rfl, rfl⟩ | ⟨u', v', rfl, rfl, rfl⟩ <;> first | exact ⟨rfl, rfl, rfl⟩ | exact absurd u u' | exact absurd u' u | omega
theorem hRemP.det {S S1 S2 : Nat → Nat → Nat → Prop} {cnt c1 c2 : Nat} {x y z r1 r2 : Int32} (h1 : hRemP S cnt x y z r1 S1 c1) (h2 : hRemP S cnt x y z r2 S2 c2) : r1 = r2 ∧ S1 = S2 ∧ c1 = c2 := by
  rcases h1 with ⟨n1, rfl, rfl, rfl⟩ | ⟨a, b, c, ha, hb, hc, rfl, rfl, rfl, h1⟩
  · rcases h2 with ⟨n2, rfl, rfl, rfl⟩ | ⟨a, b, c, ha, hb, hc, rfl, rfl, rfl, h2⟩
    · exact ⟨rfl, rfl, rfl⟩
    · exact absurd ⟨hOkN_nI ha, hOkN_nI hb, hOkN_nI hc⟩ n1
  · rcases h2 with ⟨n2, rfl, rfl, rfl⟩ | ⟨a', b', c', ha', hb', hc', ea, eb, ec, h2⟩
    · exact absurd ⟨hOkN_nI ha, hOkN_nI hb, hOkN_nI hc⟩ n2
    · obtain rfl := (nI_eq (by omega) (by omega)).mp ea
      obtain rfl := (nI_eq (by omega) (by omega)).mp eb
      obtain rfl := (nI_eq (by omega) (by omega)).mp ec
      rcases h1 with ⟨u, rfl, rfl, rfl⟩ | ⟨u, rfl, rfl, rfl⟩ <;> rcases h2 with ⟨u', rfl, rfl, rfl⟩ | ⟨u', rfl, rfl, rfl⟩ <;> first | exact ⟨rfl, rfl, rfl⟩ | exact absurd u u' | exact absurd u' u
theorem hPatP.det {np n1 n2 : Nat} {o o1 o2 : List Nat} {x y z r1 r2 : Int32} (h1 : hPatP np o x y z r1 n1 o1) (h2 : hPatP np o x y z r2 n2 o2) : r1 = r2 ∧ n1 = n2 ∧ o1 = o2 := by
  rcases h1 with ⟨u, rfl, rfl, rfl⟩ | ⟨u, ⟨v, rfl, rfl, rfl⟩ | ⟨v, rfl, rfl, rfl⟩⟩ <;> rcases h2 with ⟨u', rfl, rfl, rfl⟩ | ⟨u', ⟨v', rfl, rfl, rfl⟩ | ⟨v', rfl, rfl, rfl⟩⟩ <;> first | exact ⟨rfl, rfl, rfl⟩ | exact absurd u u' | exact absurd u' u | omega
theorem hUseP.det {np : Nat} {o o1 o2 : List Nat} {x r1 r2 : Int32} (hnp : np ≤ 6) (h1 : hUseP np o x r1 o1) (h2 : hUseP np o x r2 o2) : r1 = r2 ∧ o1 = o2 := by
  rcases h1 with ⟨u, rfl, rfl⟩ | ⟨i, hi, rfl, hn, rfl, rfl⟩ <;> rcases h2 with ⟨u', rfl, rfl⟩ | ⟨j, hj, ej, hn', rfl, rfl⟩
  · exact ⟨rfl, rfl⟩
  · exact absurd ⟨j, hj, ej, hn'⟩ u
  · exact absurd ⟨i, hi, rfl, hn⟩ u'
  · obtain rfl := (nI_eq (by omega) (by omega)).mp ej
    exact ⟨rfl, rfl⟩
/-- the reference's new object is a state without triples and patterns -/
theorem hMS0 {K : Nat → ClassId} {ad : Nat → Nat} {ws : va_W} (h : hRX K ad ws (fun _ _ => 0) 0 0 0 0 0 (-2)) : hMS K ad ws (fun _ _ _ => False) 0 0 [] := ⟨_, _, _, _, h, Nat.zero_le _, Nat.zero_le _, List.nodup_nil, fun _ h => absurd h List.not_mem_nil, ⟨fun _ => 0, fun _ => 0, fun _ => 0, fun i h => absurd h (Nat.not_lt_zero _), fun i j _ h => absurd h (Nat.not_lt_zero _), fun a b c => ⟨fun h => h.elim, fun ⟨i, h, _⟩ => absurd h (Nat.not_lt_zero _)⟩⟩, ⟨fun _ _ => 0, fun p h => absurd h (Nat.not_lt_zero _)⟩, fun k h => absurd h (Nat.not_lt_zero _), Or.inl rfl, fun i _ => ⟨0, by decide, rfl⟩, fun i _ => ⟨0, by decide, rfl⟩⟩

theorem hsplit {D : va_G} {cl : List vw_C} {A : Nat → Prop} {wa wb : va_W} {H : Heap} (hP : va_P D cl (wa ++ wb) H) (hD : va_D A (wa ++ wb)) : va_P D cl wa H ∧ va_P D cl wb H ∧ va_D A wa ∧ va_D A wb ∧ hApart wa wb := by
  have hr : ∀ (j : Nat) (x : Nat × va_E), wb[j]? = some x → (wa ++ wb)[wa.length + j]? = some x := fun j x h => by
    rw [List.getElem?_append_right (Nat.le_add_right _ _), Nat.add_sub_cancel_left]
    exact h
  refine ⟨fun k q h => hP k q (hinit_at h), fun k q h => hP _ q (hr k q h), ⟨fun i j x y h1 h2 e => hD.1 i j x y (hinit_at h1) (hinit_at h2) e, fun k q h => hD.2 k q (hinit_at h)⟩, ⟨fun i j x y h1 h2 e => ?_, fun k q h => hD.2 _ q (hr k q h)⟩, fun i j x y h1 h2 e => ?_⟩
  · have := hD.1 _ _ x y (hr i x h1) (hr j y h2) e
    omega
  · have := hD.1 _ _ x y (hinit_at h1) (hr j y h2) e
    have := (List.getElem?_eq_some_iff.mp h1).1
    omega
theorem hlawts {w0 : Cond} {args : Array Value} {s : State} (hts : ∀ w ∈ lw_tbl, w.before args s = true) (h0 : w0 ∈ hW0) : ∀ w ∈ (w0 :: hW0), w.before args s = true := fun w hw => by
  rcases List.mem_cons.mp hw with rfl | h
  · exact hts _ (hW0_in h0)
  · exact hts w (hW0_in h)
theorem hfour : ∀ L, L < 4 → (nI L - nI 4 : Int32) < nI 0 := by decide +kernel
theorem hand15 (x : Int32) : ∃ j, j < 16 ∧ x &&& nI 15 = nI j := ⟨_, Nat.mod_lt _ (by decide), pk_and x (m := nI 15) 4 (by decide +kernel)⟩

/-- what is left of the law from the end of a turn -/
def hGo (l : Launch) (p : Program) (e : Env) (s : State) (m : MethodId) (below : List Frame) (meth : Method) (c : Code) (b : Nat) (D : va_G) (K : Nat → ClassId) (A : Nat → Prop) (ax bx : Nat → Nat) (i : Nat) : Prop := ∀ (H : Heap) (locs : List Loc) (ls : Array Slot) (cells slots : Nat) (wa wb : va_W) (S : Nat → Nat → Nat → Prop) (cnt np : Nat) (o : List Nat) (L Sp : Nat), hTwo D K A s ax bx wa wb H locs S cnt np o L Sp → cells ≤ 1000 + hQc L + hQc Sp → slots ≤ 300000 + hQs L + hQs Sp → lv_has ls 4 [(3, .int (nI i)), (2, .ref (bx 0)), (1, .ref (ax 0)), (0, .ref b)] → W p l e room_1 s m #[Value.ref b] below meth c H locs cells slots (lw_Z below #[Value.ref b] s) (F0 m 446 ls [])
