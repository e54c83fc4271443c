-- FRAME: one list of words for every method; one world for the whole state (positions in the list are the names); contracts over it
/-- the words that may be carried into any call -/
def hW0 : List Cond := lw_tbl.filter goodWord
def hIsN : Cond → Bool
  | .fieldLinkNest .. => true
  | .methodLinkNest .. => true
  | _ => false
/-- links to private members of nest mates: carried beside the words -/
def hN : List Cond := lw_tbl.filter hIsN
abbrev hC (y : MethodName) (cc : ByteArray) (n : Nat) (r : Option FieldType) : List Cond := Cond.code y cc n r :: hW0
theorem hW0_in {w : Cond} (h : w ∈ hW0) : w ∈ lw_tbl := (List.mem_filter.mp h).1
theorem hgood : ∀ w ∈ hW0, (w.onTables && w.keeps) = true ∨ ∃ ty, w = .arrayClass ty := fun _ h => good_of_word (List.mem_filter.mp h).2
theorem hG {big ws : List Cond} (hb : ∀ w ∈ hW0, w ∈ big) (h : ∀ w ∈ ws, w ∈ hW0) : GoodIn big ws := fun w hw => ⟨hb w (h w hw), hgood w (h w hw)⟩
theorem hGc {big : List Cond} {y : MethodName} {cc : ByteArray} {n : Nat} {r : Option FieldType} (hb : ∀ w ∈ hW0, w ∈ big) (hc : Cond.code y cc n r ∈ hW0) : GoodIn big (hC y cc n r) := hG hb (fun w hw => by
  rcases List.mem_cons.mp hw with rfl | h
  · exact hc
  · exact h)
theorem hGV {big : List Cond} {own C : String} {idx : Nat} {y : MethodName} {cc : ByteArray} {n : Nat} {r : Option FieldType} (hb : ∀ w ∈ hW0, w ∈ big) (h1 : Cond.methodLink own idx y ∈ hW0) (h2 : Cond.instanceMethod y ∈ hW0) (h3 : Cond.selects C y y ∈ hW0) (h4 : Cond.initialized C ∈ hW0) (hc : Cond.code y cc n r ∈ hW0) : GoodIn big (wsV own idx C y (hC y cc n r)) := hG hb (fun w hw => by
  simp only [wsV, List.cons_append, List.nil_append, List.mem_cons] at hw
  rcases hw with rfl | rfl | rfl | rfl | rfl | h
  · exact h1
  · exact h2
  · exact h3
  · exact h4
  · exact hc
  · exact h)
theorem hGS {big : List Cond} {own : String} {idx : Nat} {y : MethodName} {cc : ByteArray} {n : Nat} {r : Option FieldType} (hb : ∀ w ∈ hW0, w ∈ big) (h1 : Cond.methodLink own idx y ∈ hW0) (h2 : Cond.static y ∈ hW0) (h3 : Cond.initialized y.cls ∈ hW0) (hc : Cond.code y cc n r ∈ hW0) : GoodIn big (va_wsS own idx y (hC y cc n r)) := hG hb (fun w hw => by
  simp only [va_wsS, List.cons_append, List.nil_append, List.mem_cons] at hw
  rcases hw with rfl | rfl | rfl | rfl | h
  · exact h1
  · exact h2
  · exact h3
  · exact hc
  · exact h)
theorem hmc {x : Cond} : ∀ w ∈ hW0, w ∈ x :: hW0 := fun _ h => List.mem_cons_of_mem _ h
theorem hIsN_tab {w : Cond} (h : hIsN w = true) : w.onTables = true := by
  cases w <;> first | rfl | (simp [hIsN] at h; done)
theorem hNw_warm {w : Cond} (h : hIsN w = true) {s U : State} (hW : s.WarmedH U.vm) (hZ : va_Nw w s) : va_Nw w U := by
  cases w <;> first | exact va_Nw.warmF hW hZ | exact va_Nw.warmM hW hZ | (simp [hIsN] at h; done)
/-- the array classes, by their places: int[], long[], int[][], Pattern[], Step[] -/
abbrev hTy (K : Nat → ClassId) : List (ClassId × FieldType) := [(K 0, .int), (K 1, .long), (K 2, .array .int), (K 3, .object "JoinPlanner$Pattern"), (K 4, .object "JoinPlanner$Step")]
/-- the classes of whose objects arrays are made -/
def hAO : List String := lw_tbl.filterMap (fun w => match w with | .arrayOver (.object C) => some C | _ => none)
/-- the component of int[][] is int[] -/
def hMul (tys : List (ClassId × FieldType)) (U : State) : Prop := ∀ (t0 t1 : Nat) (cA cB : ClassId), tys[t0]? = some (cA, .array .int) → tys[t1]? = some (cB, .int) → ∃ kA : Class, U.vm.classes[cA]? = some kA ∧ kA.kind = .array cB (.array .int)
theorem hMul.moved {tys : List (ClassId × FieldType)} {u U : State} (hvm : u.vm.Alike U.vm) (h : hMul tys u) : hMul tys U := fun t0 t1 cA cB h0 h1 => by
  obtain ⟨kA, e1, e2⟩ := h t0 t1 cA cB h0 h1
  obtain ⟨k', hk', he⟩ := hvm.2.2 _ _ e1
  exact ⟨k', hk', by rw [he]; exact e2⟩
def hcx (D : va_G) (tys : List (ClassId × FieldType)) (U : State) : Prop := va_K D vwCl tys U ∧ (∀ w ∈ hN, va_Nw w U) ∧ (∀ C ∈ hAO, va_AO C U) ∧ hMul tys U
theorem hcx.warm {D : va_G} {tys : List (ClassId × FieldType)} {s U : State} (h : hcx D tys s) (hW : s.WarmedH U.vm) : hcx D tys U :=
  ⟨va_K.moved hW.alike h.1, fun w hw => hNw_warm (List.mem_filter.mp hw).2 hW (h.2.1 w hw), fun C hC => va_AO.moved hW.alike (h.2.2.1 C hC), h.2.2.2.moved hW.alike⟩
theorem hcx.call {D : va_G} {tys : List (ClassId × FieldType)} {U : State} {g : JFrame} {mk : MethodId} {a : Array Value} (h : hcx D tys U) : hcx D tys (U.calling g mk a) :=
  ⟨va_K.moved (u := U) (U := U.calling g mk a) (Vm.Alike.refl U.vm) h.1, fun w hw => va_Nw.same (hIsN_tab (List.mem_filter.mp hw).2) (u := U) rfl (h.2.1 w hw), fun C hC => va_AO.moved (u := U) (U := U.calling g mk a) (Vm.Alike.refl U.vm) (h.2.2.1 C hC), hMul.moved (u := U) (U := U.calling g mk a) (Vm.Alike.refl U.vm) h.2.2.2⟩
/-- the table VIEW_OF -/
def hVf : Nat → Value := fun j => .int (match j with | 2 => 1 | 4 => 2 | 5 => 2 | 6 => 1 | _ => 0)
def hT (A : Nat → Prop) (tv : Nat) (U : State) (H : Heap) : Prop := va_Z "JoinPlanner" "VIEW_OF" "[I" (.ref tv) A U H ∧ va_T .int tv 8 hVf A U H
theorem hT.warm {A : Nat → Prop} {tv : Nat} {s U : State} {H : Heap} (h : hT A tv s H) (hvm : s.vm.Alike U.vm) : hT A tv U H := ⟨h.1.moved hvm, h.2.moved hvm⟩
theorem hT.go {A B : Nat → Prop} {tv : Nat} {s : State} {H : Heap} {locs : List Loc} (h : hT A tv s s.heap) (hS : va_S A s.heap H locs) (hAB : ∀ q, B q → A q) : hT B tv s H :=
  ⟨(h.1.kept (fun a h1 h2 => hS.2.1 a h1 h2)).narrow hAB, (h.2.kept (fun a h1 h2 => hS.2.1 a h1 h2)).narrow hAB⟩
/-- the start of a contract over the world ws -/
def hPre (D : va_G) (tys : List (ClassId × FieldType)) (tv : Nat) (ws : va_W) (sz : Nat) (U : State) : Prop := U.heap.size = sz ∧ va_P D vwCl ws U.heap ∧ va_D (fun _ => True) ws ∧ hcx D tys U ∧ hT (va_A ws sz) tv U U.heap
/-- its end: a world ws' -/
def hB (D : va_G) (ws : va_W) (sz : Nat) (ws' : va_W) (t : State) : Prop := va_P D vwCl ws' t.heap ∧ va_D (va_A ws sz) ws'
theorem hblind {D : va_G} {tys : List (ClassId × FieldType)} {tv : Nat} {ws : va_W} {sz : Nat} {av : List Value} : FrameBlind (va_Pc av (hPre D tys tv ws sz)) := by
  intro a U g mk h
  obtain ⟨h0, h1, h2, h3, h4, h5⟩ := h
  exact ⟨h0, h1, h2, h3, h4.call, h5.warm (s := U) (U := U.calling g mk a) (Vm.Alike.refl U.vm)⟩
/-- what a walk keeps from its method's entry -/
def hE (D : va_G) (tys : List (ClassId × FieldType)) (tv : Nat) (A : Nat → Prop) (s : State) : Prop := hcx D tys s ∧ hT A tv s s.heap ∧ ∀ q : Nat, s.heap.size ≤ q → A q
theorem hfree {A : Nat → Prop} {ws : va_W} {H0 H : Heap} {locs : List Loc} (hD : va_D A ws) (hS : va_S A H0 H locs) (hA : ∀ q : Nat, H0.size ≤ q → A q) : ∀ q, va_A ws H.size q → A q := by
  intro q h
  rcases h with ⟨k, e, h⟩ | h
  · exact hD.2 k _ h
  · exact hA q (Nat.le_trans hS.1 h)
theorem hpre {D : va_G} {tys : List (ClassId × FieldType)} {tv : Nat} {A : Nat → Prop} {s : State} {ws : va_W} {H : Heap} {locs : List Loc} {As : List Value} (E : hE D tys tv A s) (hP : va_P D vwCl ws H) (hD : va_D A ws) (hS : va_S A s.heap H locs) : PreS s H (va_Pc As (hPre D tys tv ws H.size)) As :=
  ⟨hblind, fun U hU hW => ⟨rfl, by rw [hU], by rw [hU]; exact hP, hD.weaken (fun _ _ _ _ => trivial), E.1.warm hW, by rw [hU]; exact (E.2.1.go hS (hfree hD hS E.2.2)).warm hW.alike⟩⟩
theorem hpreV {D : va_G} {tys : List (ClassId × FieldType)} {tv : Nat} {A : Nat → Prop} {s : State} {ws : va_W} {H : Heap} {locs : List Loc} {As : List Value} {b q0 ci : Nat} {fs : List Value} {C : vw_C} (E : hE D tys tv A s) (hP : va_P D vwCl ws H) (hD : va_D A ws) (hS : va_S A s.heap H locs) (he : ws[q0]? = some (b, .inr (ci, fs))) (hc : vwCl[ci]? = some C) : PreV s H C.1 b (va_Pc (.ref b :: As) (hPre D tys tv ws H.size)) As :=
  ⟨hblind, va_recv E.1.1 hP hc he, (hpre (As := .ref b :: As) E hP hD hS).2⟩
/-- at a method's entry -/
theorem hentry {D : va_G} {tys : List (ClassId × FieldType)} {tv : Nat} {ws : va_W} {sz : Nat} {av : List Value} {args : Array Value} {s : State} (h : va_Pc av (hPre D tys tv ws sz) args s) : args = av.toArray ∧ sz = s.heap.size ∧ hE D tys tv (va_A ws s.heap.size) s ∧ va_P D vwCl ws s.heap ∧ va_D (va_A ws s.heap.size) ws := by
  obtain ⟨h0, h1, h2, h3, h4, h5⟩ := h
  subst h1
  exact ⟨h0, rfl, ⟨h4, h5, fun q hq => Or.inr hq⟩, h2, h3.self⟩
def hI (l : Launch) (D : va_G) (tys : List (ClassId × FieldType)) (tv : Nat) (y : MethodName) (cc : ByteArray) (n : Nat) (r : Option FieldType) (rm : Room) (av : List Value) (ws : va_W) (post : Int32 → va_W → Prop) : Prop := ∀ sz, Met l y (hC y cc n r) rm (va_Pc av (hPre D tys tv ws sz)) (va_Qi post (hB D ws sz) (va_A ws sz)) rm.cells rm.slots (va_A ws sz)
def hL (l : Launch) (D : va_G) (tys : List (ClassId × FieldType)) (tv : Nat) (y : MethodName) (cc : ByteArray) (n : Nat) (r : Option FieldType) (rm : Room) (av : List Value) (ws : va_W) (post : Int64 → va_W → Prop) : Prop := ∀ sz, Met l y (hC y cc n r) rm (va_Pc av (hPre D tys tv ws sz)) (va_Ql post (hB D ws sz) (va_A ws sz)) rm.cells rm.slots (va_A ws sz)
def hV (l : Launch) (D : va_G) (tys : List (ClassId × FieldType)) (tv : Nat) (y : MethodName) (cc : ByteArray) (n : Nat) (r : Option FieldType) (rm : Room) (av : List Value) (ws : va_W) (post : va_W → Prop) : Prop := ∀ sz, Met l y (hC y cc n r) rm (va_Pc av (hPre D tys tv ws sz)) (va_Qv post (hB D ws sz) (va_A ws sz)) rm.cells rm.slots (va_A ws sz)
def hR (l : Launch) (D : va_G) (tys : List (ClassId × FieldType)) (tv : Nat) (y : MethodName) (cc : ByteArray) (n : Nat) (r : Option FieldType) (rm : Room) (av : List Value) (ws : va_W) (post : Nat → va_W → Prop) : Prop := ∀ sz, Met l y (hC y cc n r) rm (va_Pc av (hPre D tys tv ws sz)) (va_Qr (fun _ => True) (fun ws' a t => post a ws' ∧ hB D ws sz ws' t) (va_A ws sz)) rm.cells rm.slots (va_A ws sz)
/-- a static method over numbers alone -/
def hSi (l : Launch) (y : MethodName) (cc : ByteArray) (n : Nat) (r : Option FieldType) (rm : Room) (av : List Value) (post : Int32 → Prop) : Prop := Met l y (hC y cc n r) rm (va_Pc av (fun _ => True)) (vp_Si post) 0 0 (fun _ => False)
def hSl (l : Launch) (y : MethodName) (cc : ByteArray) (n : Nat) (r : Option FieldType) (rm : Room) (av : List Value) (post : Int64 → Prop) : Prop := Met l y (hC y cc n r) rm (va_Pc av (fun _ => True)) (vp_Sl post) 0 0 (fun _ => False)
theorem hpre0 {s : State} {H : Heap} {As : List Value} : PreS s H (va_Pc As (fun _ => True)) As := ⟨fun _ _ _ _ q => ⟨q.1, trivial⟩, fun _ _ _ => ⟨rfl, trivial⟩⟩
section HC
variable {p : Program} {l : Launch} {e : Env} {R : Room} {s : State} {m : MethodId} {args : Array Value} {below : List Frame} {meth : Method} {c : Code} {H : Heap} {locs : List Loc} {cells slots : Nat} {Q : State → Prop}
variable {pc : Nat} {ls : Array Slot} {rest st0 : List Value} {a : Array Value} {A : Nat → Prop} {mc ms : Nat} {D : va_G} {tys : List (ClassId × FieldType)} {tv : Nat} {ws : va_W}
theorem hc_i {post : Int32 → va_W → Prop} (E : hE D tys tv A s) (hD : va_D A ws) (hS : va_S A s.heap H locs) (hr : va_Run p l e R s m args below meth c H locs cells slots mc ms (F0 m pc ls st0) rest (va_Qi post (hB D ws H.size) (va_A ws H.size) a) (va_A ws H.size))
    (kk : ∀ (r : Int32) (ws1 : va_W) (H1 : Heap) (locs1 : List Loc), post r ws1 → va_P D vwCl ws1 H1 → va_D A ws1 → va_S A s.heap H1 locs1 → W p l e R s m args below meth c H1 locs1 (cells + mc) (slots + ms) Q (F0 m (pc + 3) ls (.int r :: rest))) : W p l e R s m args below meth c H locs cells slots Q (F0 m pc ls st0) :=
  va_calli hr hS (fun q _ h => hfree hD hS E.2.2 q h) (hfree hD hS E.2.2) (fun r u _ H1 locs1 ht _ hp hB _ _ hS1 => kk r u H1 locs1 hp (by rw [← ht]; exact hB.1) (hB.2.weaken (fun _ _ _ h => hfree hD hS E.2.2 _ h)) hS1)
theorem hc_l {post : Int64 → va_W → Prop} (E : hE D tys tv A s) (hD : va_D A ws) (hS : va_S A s.heap H locs) (hr : va_Run p l e R s m args below meth c H locs cells slots mc ms (F0 m pc ls st0) rest (va_Ql post (hB D ws H.size) (va_A ws H.size) a) (va_A ws H.size))
    (kk : ∀ (r : Int64) (ws1 : va_W) (H1 : Heap) (locs1 : List Loc), post r ws1 → va_P D vwCl ws1 H1 → va_D A ws1 → va_S A s.heap H1 locs1 → W p l e R s m args below meth c H1 locs1 (cells + mc) (slots + ms) Q (F0 m (pc + 3) ls (.long r :: rest))) : W p l e R s m args below meth c H locs cells slots Q (F0 m pc ls st0) :=
  va_calll hr hS (fun q _ h => hfree hD hS E.2.2 q h) (hfree hD hS E.2.2) (fun r u _ H1 locs1 ht _ hp hB _ _ hS1 => kk r u H1 locs1 hp (by rw [← ht]; exact hB.1) (hB.2.weaken (fun _ _ _ h => hfree hD hS E.2.2 _ h)) hS1)
theorem hc_v {post : va_W → Prop} (E : hE D tys tv A s) (hD : va_D A ws) (hS : va_S A s.heap H locs) (hr : va_Run p l e R s m args below meth c H locs cells slots mc ms (F0 m pc ls st0) rest (va_Qv post (hB D ws H.size) (va_A ws H.size) a) (va_A ws H.size))
    (kk : ∀ (ws1 : va_W) (H1 : Heap) (locs1 : List Loc), post ws1 → va_P D vwCl ws1 H1 → va_D A ws1 → va_S A s.heap H1 locs1 → W p l e R s m args below meth c H1 locs1 (cells + mc) (slots + ms) Q (F0 m (pc + 3) ls (rest))) : W p l e R s m args below meth c H locs cells slots Q (F0 m pc ls st0) :=
  va_callv hr hS (fun q _ h => hfree hD hS E.2.2 q h) (hfree hD hS E.2.2) (fun u _ H1 locs1 ht _ hp hB _ _ hS1 => kk u H1 locs1 hp (by rw [← ht]; exact hB.1) (hB.2.weaken (fun _ _ _ h => hfree hD hS E.2.2 _ h)) hS1)
theorem hc_r {post : Nat → va_W → Prop} (E : hE D tys tv A s) (hD : va_D A ws) (hS : va_S A s.heap H locs) (hr : va_Run p l e R s m args below meth c H locs cells slots mc ms (F0 m pc ls st0) rest (va_Qr (fun _ => True) (fun ws' a t => post a ws' ∧ hB D ws H.size ws' t) (va_A ws H.size) a) (va_A ws H.size))
    (kk : ∀ (r : Nat) (ws1 : va_W) (H1 : Heap) (locs1 : List Loc), post r ws1 → va_P D vwCl ws1 H1 → va_D A ws1 → va_S A s.heap H1 locs1 → W p l e R s m args below meth c H1 locs1 (cells + mc) (slots + ms) Q (F0 m (pc + 3) ls (.ref r :: rest))) : W p l e R s m args below meth c H locs cells slots Q (F0 m pc ls st0) :=
  va_callr hr hS (fun q _ h => hfree hD hS E.2.2 q h) (hfree hD hS E.2.2) (fun u r _ H1 locs1 ht _ _ hB _ _ hS1 => kk r u H1 locs1 hB.1 (by rw [← ht]; exact hB.2.1) (hB.2.2.weaken (fun _ _ _ h => hfree hD hS E.2.2 _ h)) hS1)
theorem hc_si {post : Int32 → Prop} (hr : va_Run p l e R s m args below meth c H locs cells slots 0 0 (F0 m pc ls st0) rest (vp_Si post a) (fun _ => False))
    (kk : ∀ r : Int32, post r → W p l e R s m args below meth c H locs cells slots Q (F0 m (pc + 3) ls (.int r :: rest))) : W p l e R s m args below meth c H locs cells slots Q (F0 m pc ls st0) := vp_callSi hr.run kk
theorem hc_sl {post : Int64 → Prop} (hr : va_Run p l e R s m args below meth c H locs cells slots 0 0 (F0 m pc ls st0) rest (vp_Sl post a) (fun _ => False))
    (kk : ∀ r : Int64, post r → W p l e R s m args below meth c H locs cells slots Q (F0 m (pc + 3) ls (.long r :: rest))) : W p l e R s m args below meth c H locs cells slots Q (F0 m pc ls st0) := vp_callSl hr.run kk
theorem htopi {x v : Int32} (h : x = v) (k : W p l e R s m args below meth c H locs cells slots Q (F0 m pc ls (.int v :: rest))) : W p l e R s m args below meth c H locs cells slots Q (F0 m pc ls (.int x :: rest)) := h ▸ k
theorem htopl {x v : Int64} (h : x = v) (k : W p l e R s m args below meth c H locs cells slots Q (F0 m pc ls (.long v :: rest))) : W p l e R s m args below meth c H locs cells slots Q (F0 m pc ls (.long x :: rest)) := h ▸ k
theorem htopq {x : Option Nat} {v : Nat} (h : x = some v) (k : W p l e R s m args below meth c H locs cells slots Q (F0 m pc ls (.ref v :: rest))) : W p l e R s m args below meth c H locs cells slots Q (F0 m pc ls (va_rf x :: rest)) := by
  subst h; exact k
/-- a loop that changes its locals alone -/
theorem hloop0 {α : Type} (pc nL : Nat) (lv : α → List (Nat × Value)) (I : α → Prop) (μ : α → Nat)
    (step : ∀ (x : α) (ls : Array Slot), I x → lv_has ls nL (lv x) → (∀ (y : α) (ls : Array Slot), I y → μ y < μ x → lv_has ls nL (lv y) → W p l e R s m args below meth c H locs cells slots Q (F0 m pc ls [])) → W p l e R s m args below meth c H locs cells slots Q (F0 m pc ls []))
    (x : α) (ls : Array Slot) (h : I x) (hl : lv_has ls nL (lv x)) : W p l e R s m args below meth c H locs cells slots Q (F0 m pc ls []) := by
  have key : ∀ (n : Nat) (x : α) (ls : Array Slot), μ x < n → I x → lv_has ls nL (lv x) → W p l e R s m args below meth c H locs cells slots Q (F0 m pc ls []) := by
    intro n
    induction n with
    | zero => intro x ls h; omega
    | succ n ih => intro x ls hn h hl; exact step x ls h hl (fun y ls hy hm hl => ih y ls (by omega) hy hl)
  exact key (μ x + 1) x ls (Nat.lt_succ_self _) h hl
/-- a loop that changes the world -/
theorem hloopW {α : Type} (pc nL : Nat) (lv : α → List (Nat × Value)) (I : α → va_W → Prop) (μ : α → Nat) (fc fs : α → Nat)
    (step : ∀ (x : α) (ws : va_W) (H : Heap) (locs : List Loc) (ls : Array Slot), I x ws → va_P D vwCl ws H → va_D A ws → va_S A s.heap H locs → lv_has ls nL (lv x) → (∀ (y : α) (ws : va_W) (H : Heap) (locs : List Loc) (ls : Array Slot), I y ws → μ y < μ x → va_P D vwCl ws H → va_D A ws → va_S A s.heap H locs → lv_has ls nL (lv y) → W p l e R s m args below meth c H locs (fc y) (fs y) Q (F0 m pc ls [])) → W p l e R s m args below meth c H locs (fc x) (fs x) Q (F0 m pc ls []))
    (x : α) (h : I x ws) (hP : va_P D vwCl ws H) (hD : va_D A ws) (hS : va_S A s.heap H locs) (hl : lv_has ls nL (lv x)) : W p l e R s m args below meth c H locs (fc x) (fs x) Q (F0 m pc ls []) := by
  have key : ∀ (n : Nat) (x : α) (ws : va_W) (H : Heap) (locs : List Loc) (ls : Array Slot), μ x < n → I x ws → va_P D vwCl ws H → va_D A ws → va_S A s.heap H locs → lv_has ls nL (lv x) → W p l e R s m args below meth c H locs (fc x) (fs x) Q (F0 m pc ls []) := by
    intro n
    induction n with
    | zero => intro x ws H locs ls h; omega
    | succ n ih => intro x ws H locs ls hn h hP hD hS hl; exact step x ws H locs ls h hP hD hS hl (fun y ws H locs ls hy hm hP hD hS hl => ih y ws H locs ls (by omega) hy hP hD hS hl)
  exact key (μ x + 1) x ws H locs ls (Nat.lt_succ_self _) h hP hD hS hl
theorem hat0 {g : JFrame} (k : ∀ H0 : Heap, H0 = s.heap → W p l e R s m args below meth c H0 locs cells slots Q g) : W p l e R s m args below meth c s.heap locs cells slots Q g := k _ rfl
theorem hcut {pc2 : Nat} (P : Prop) (k : P → W p l e R s m args below meth c H locs cells slots Q (F0 m pc2 ls [])) (kk : (P → W p l e R s m args below meth c H locs cells slots Q (F0 m pc2 ls [])) → W p l e R s m args below meth c H locs cells slots Q (F0 m pc ls rest)) : W p l e R s m args below meth c H locs cells slots Q (F0 m pc ls rest) := kk k
/-- a place of an array of arrays of ints -/
theorem hald2 {cc : ByteArray} {cl : List vw_C} {a0 : Nat} (hexec : p.tables.exec = Jvm.exec) (hb : c.code = cc) (hK : va_K D cl tys s) (hP : va_P D cl ws H) (q0 t0 : Nat) {cA : ClassId} {n : Nat} {f : Nat → Option Nat} (ha : ws[q0]? = some (a0, .inl (cA, n, .inr (.inr (.inr (.inr f)))))) (ht : tys[t0]? = some (cA, .array .int)) {i : Int32} (hin : vp_in i n) (hdg : decode cc pc = .ok (.aaload, 1))
    (kk : W p l e R s m args below meth c H locs cells slots Q (F0 m (pc + 1) ls (va_rf (f i.toNatClampNeg) :: rest))) : W p l e R s m args below meth c H locs cells slots Q (F0 m pc ls (.int i :: .ref a0 :: rest)) := by
  have hlt : i.toNatClampNeg < n := Nat.not_le.mp fun q => hin (Or.inr q)
  exact W.aald (v := va_rf (f i.toNatClampNeg)) (ty := .array .int) hexec hb (hP q0 _ ha) ((hK.2 t0 _ ht).1 n (fun j => va_rf (f j))) rfl (fun q => by cases q) (by show ¬ (i < 0 ∨ (arrV _ _ _).slots.size ≤ _); rw [arrV_size]; exact hin) (by show (arrV _ _ _).slots[_]? = _; rw [arrV_read _ _ hlt]) rfl rfl hdg kk
end HC
/-- worlds that agree outside a stretch of names -/
def hAg (lo hi : Nat) (ws ws' : va_W) : Prop := ws'.length = ws.length ∧ ∀ k : Nat, (k < lo ∨ hi ≤ k) → ws'[k]? = ws[k]?
theorem hAg.rf {lo hi : Nat} {ws : va_W} : hAg lo hi ws ws := ⟨rfl, fun _ _ => rfl⟩
theorem hAg.tr {lo hi : Nat} {a b c : va_W} (h : hAg lo hi a b) (h2 : hAg lo hi b c) : hAg lo hi a c := ⟨h2.1.trans h.1, fun k hk => (h2.2 k hk).trans (h.2 k hk)⟩
theorem hAg.wide {lo hi lo' hi' : Nat} {a b : va_W} (h : hAg lo hi a b) (h1 : lo' ≤ lo) (h2 : hi ≤ hi') : hAg lo' hi' a b := ⟨h.1, fun k hk => h.2 k (by omega)⟩
theorem hAg.set {lo hi k : Nat} {a b : va_W} {x : Nat × va_E} (h : hAg lo hi a b) (h1 : lo ≤ k) (h2 : k < hi) : hAg lo hi a (b.set k x) := ⟨by rw [List.length_set]; exact h.1, fun j hj => by rw [List.getElem?_set_ne (by omega)]; exact h.2 j hj⟩
theorem hset_eq {ws : va_W} {k : Nat} {x y : Nat × va_E} (h : ws[k]? = some y) : (ws.set k x)[k]? = some x := List.getElem?_set_self (List.getElem?_eq_some_iff.mp h).1
theorem hset_ne {ws : va_W} {k j : Nat} {x : Nat × va_E} (h : k ≠ j) : (ws.set k x)[j]? = ws[j]? := List.getElem?_set_ne h
theorem hset_same {ws : va_W} {k : Nat} {x : Nat × va_E} (h : ws[k]? = some x) : ws.set k x = ws := by
  apply List.ext_getElem?
  intro j
  by_cases z : k = j
  · subst z
    rw [hset_eq h, h]
  · rw [hset_ne z]
