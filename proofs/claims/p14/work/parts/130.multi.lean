-- new int[3][M]: the machine makes the outer array, then each row, and stores it
section HM
variable {E : CtlPost} {e : Env} {d : Bool} {acts : List Action} {s : State}
/-- an array of default values is made -/
theorem hwp_arr {k1 comp : ClassId} {k : Class} {ty : FieldType} {n : Nat} {v : Value} (hk : s.vm.classes[k1]? = some k) (hki : k.kind = .array comp ty) (h1 : n ≤ e.platform.arrayLengthLimit) (h2 : n * componentBytes ty ≤ e.platform.maxHeapBytes) (hf : fits ty v = true) (hd : v.isDefault = true) (h3 : s.heap.size < e.platform.maxCells) (h4 : s.slotsUsed + n ≤ e.platform.maxSlots) {Q : Addr → Pre} (hq : Q s.heap.size d acts (s.pushCell { cls := k1, slots := Array.replicate n v, vm := .none })) : wp (Jvm.newArray k1 n v) Q E e d acts s := by
  have g1 : ¬ n > e.platform.arrayLengthLimit := Nat.not_lt.mpr h1
  have g2 : ¬ n * componentBytes ty > e.platform.maxHeapBytes := Nat.not_lt.mpr h2
  have g3 : ¬ n > e.platform.maxSlots := by omega
  have g4 : ∀ (i : Nat) (w : Value), (Array.replicate n v)[i]? = some w → s.fitsSlot k1 .none i w = true := fun i w hw => by
    rw [Array.getElem?_replicate] at hw
    split at hw
    · cases hw
      simp [State.fitsSlot, State.slotType?, hk, hki, hf]
    · cases hw
  have g5 : allocActs (Array.replicate n v) s.heap.size acts = acts := by
    unfold allocActs
    rw [if_pos]
    rw [Array.all_replicate]
    split <;> simp [hd]
  simp only [Jvm.newArray, Jvm.arrayFits, wp_bind', W.ask, W.ite, g1, if_false, wp_pure', W.theClass, hk, hki, g2, g3, W.alloc, W.stop, Option.some.injEq, exists_eq_left', Array.size_replicate, g5]
  exact ⟨h3, h4, g4, hq⟩
end HM
theorem hD4 {A : Nat → Prop} {ws : va_W} {h : Nat} {e0 e1 e2 e3 : va_E} (hD : va_D A ws) (hlt : ∀ (k : Nat) (q : Nat × va_E), ws[k]? = some q → q.1 < h) (h4 : ∀ j : Nat, A (h + j)) : va_D A (ws ++ [(h, e0), (h + 1 + 0, e1), (h + 1 + 1, e2), (h + 1 + 2, e3)]) := by
  have at4 : ∀ (i : Nat) (x : Nat × va_E), ([(h, e0), (h + 1 + 0, e1), (h + 1 + 1, e2), (h + 1 + 2, e3)] : va_W)[i]? = some x → x.1 = h + i := by
    intro i x hi
    have hi4 : i < 4 := (List.getElem?_eq_some_iff.mp hi).1
    rcases (show i = 0 ∨ i = 1 ∨ i = 2 ∨ i = 3 by omega) with rfl | rfl | rfl | rfl <;> cases hi <;> show _ = _ <;> omega
  refine va_D.app hD ⟨fun i j x y hi hj e => ?_, fun k q hq => ?_⟩ (fun i j x y hi hj e => ?_)
  · have := at4 i x hi
    have := at4 j y hj
    omega
  · rw [at4 k q hq]
    exact h4 k
  · have := hlt i x hi
    have := at4 j y hj
    omega
/-- one row more: it is made, and stored at its place of the outer array -/
def hRow (cB : ClassId) (M : Nat) : Cell := { cls := cB, slots := Array.replicate M (.int 0), vm := .none }
def hAdd (T : State) (h : Nat) (oc : Cell) (cB : ClassId) (M i : Nat) : State := (T.pushCell (hRow cB M)).setCell h (oc.setSlot i (.ref T.heap.size))
section HAD
variable {T : State} {h : Nat} {oc : Cell} {cB : ClassId} {M i : Nat}
theorem hAdd_size : (hAdd T h oc cB M i).heap.size = T.heap.size + 1 := by
  simp [hAdd, State.setCell]
theorem hAdd_mid (hc : T.heap[h]? = some oc) : (T.pushCell (hRow cB M)).heap[h]? = some oc := by
  have hl : h < T.heap.size := (Array.getElem?_eq_some_iff.mp hc).1
  rw [State.heap_pushCell_of_lt (h := hl)]
  exact hc
theorem hAdd_self (hc : T.heap[h]? = some oc) : (hAdd T h oc cB M i).heap[h]? = some (oc.setSlot i (.ref T.heap.size)) := State.heap_setCell_self (hAdd_mid hc)
theorem hAdd_old {a : Nat} (ha : a < T.heap.size) (hne : h ≠ a) : (hAdd T h oc cB M i).heap[a]? = T.heap[a]? := by
  show ((T.pushCell (hRow cB M)).setCell h _).heap[a]? = _
  rw [State.heap_setCell_other hne, State.heap_pushCell_of_lt (h := ha)]
theorem hAdd_row (hne : h ≠ T.heap.size) : (hAdd T h oc cB M i).heap[T.heap.size]? = some (hRow cB M) := by
  show ((T.pushCell (hRow cB M)).setCell h _).heap[T.heap.size]? = _
  rw [State.heap_setCell_other hne]
  exact State.heap_pushCell_size _ _
theorem hAdd_used : (hAdd T h oc cB M i).slotsUsed = T.slotsUsed + M := by
  show T.slotsUsed + (hRow cB M).slots.size = _
  simp [hRow]
end HAD
section HAS
variable {p : Program} {l : Launch} {e : Env} {R : Room} {s : State} {m : MethodId} {args : Array Value} {below : List Frame} {meth : Method} {c : Code} {T : State} {locs : List Loc} {cells slots : Nat}
theorem hAdd_stand {h : Nat} {oc : Cell} (cB : ClassId) (M i : Nat) (X : Stand p l e R s m args below meth c T locs cells slots) (hc : T.heap[h]? = some oc) : Stand p l e R s m args below meth c (hAdd T h oc cB M i) (locs ++ [⟨h, i⟩]) (cells + 1) (slots + M) := by
  have h1 := (X.pushed (hRow cB M)).stored (hAdd_mid (cB := cB) (M := M) hc) i (.ref T.heap.size)
  rw [show (hRow cB M).slots.size = M by simp [hRow]] at h1
  exact h1
end HAS
/-- the outer array with its first rows -/
def hO0 (cA : ClassId) : Cell := { cls := cA, slots := Array.replicate 3 .null, vm := .none }
def hO1 (cA : ClassId) (h : Nat) : Cell := (hO0 cA).setSlot 0 (.ref (h + 1))
def hO2 (cA : ClassId) (h : Nat) : Cell := (hO1 cA h).setSlot 1 (.ref (h + 2))
def hO3 (cA : ClassId) (h : Nat) : Cell := (hO2 cA h).setSlot 2 (.ref (h + 3))
def hS0 (T : State) (cA : ClassId) : State := T.pushCell (hO0 cA)
def hS1 (T : State) (cA cB : ClassId) (M : Nat) : State := hAdd (hS0 T cA) T.heap.size (hO0 cA) cB M 0
def hS2 (T : State) (cA cB : ClassId) (M : Nat) : State := hAdd (hS1 T cA cB M) T.heap.size (hO1 cA T.heap.size) cB M 1
def hS3 (T : State) (cA cB : ClassId) (M : Nat) : State := hAdd (hS2 T cA cB M) T.heap.size (hO2 cA T.heap.size) cB M 2
section HSF
variable {T : State} {cA cB : ClassId} {M : Nat}
theorem hS0_size : (hS0 T cA).heap.size = T.heap.size + 1 := by simp [hS0]
theorem hS1_size : (hS1 T cA cB M).heap.size = T.heap.size + 2 := by rw [hS1, hAdd_size, hS0_size]
theorem hS2_size : (hS2 T cA cB M).heap.size = T.heap.size + 3 := by rw [hS2, hAdd_size, hS1_size]
theorem hS3_size : (hS3 T cA cB M).heap.size = T.heap.size + 4 := by rw [hS3, hAdd_size, hS2_size]
theorem hS0_out : (hS0 T cA).heap[T.heap.size]? = some (hO0 cA) := State.heap_pushCell_size _ _
theorem hS1_out : (hS1 T cA cB M).heap[T.heap.size]? = some (hO1 cA T.heap.size) := by
  have h := hAdd_self (cB := cB) (M := M) (i := 0) (hS0_out (T := T) (cA := cA))
  rw [hS0_size] at h
  exact h
theorem hS2_out : (hS2 T cA cB M).heap[T.heap.size]? = some (hO2 cA T.heap.size) := by
  have h := hAdd_self (cB := cB) (M := M) (i := 1) (hS1_out (T := T) (cA := cA) (cB := cB) (M := M))
  rw [hS1_size] at h
  exact h
theorem hS3_out : (hS3 T cA cB M).heap[T.heap.size]? = some (hO3 cA T.heap.size) := by
  have h := hAdd_self (cB := cB) (M := M) (i := 2) (hS2_out (T := T) (cA := cA) (cB := cB) (M := M))
  rw [hS2_size] at h
  exact h
theorem hS3_old {a : Nat} (ha : a < T.heap.size) : (hS3 T cA cB M).heap[a]? = T.heap[a]? := by
  rw [hS3, hAdd_old (by rw [hS2_size]; omega) (Nat.ne_of_gt ha), hS2, hAdd_old (by rw [hS1_size]; omega) (Nat.ne_of_gt ha), hS1, hAdd_old (by rw [hS0_size]; omega) (Nat.ne_of_gt ha)]
  exact State.heap_pushCell_of_lt _ _ ha
theorem hS3_r0 : (hS3 T cA cB M).heap[T.heap.size + 1]? = some (hRow cB M) := by
  rw [hS3, hAdd_old (by rw [hS2_size]; omega) (by omega), hS2, hAdd_old (by rw [hS1_size]; omega) (by omega), hS1, ← hS0_size (cA := cA)]
  exact hAdd_row (by rw [hS0_size]; omega)
theorem hS3_r1 : (hS3 T cA cB M).heap[T.heap.size + 2]? = some (hRow cB M) := by
  rw [hS3, hAdd_old (by rw [hS2_size]; omega) (by omega), hS2, ← hS1_size (cA := cA) (cB := cB) (M := M)]
  exact hAdd_row (by rw [hS1_size]; omega)
theorem hS3_r2 : (hS3 T cA cB M).heap[T.heap.size + 3]? = some (hRow cB M) := by
  rw [hS3, ← hS2_size (cA := cA) (cB := cB) (M := M)]
  exact hAdd_row (by rw [hS2_size]; omega)
theorem hAdd_top (f : JFrame) (h : Nat) (oc : Cell) (i : Nat) : hAdd (T.setTop f) h oc cB M i = (hAdd T h oc cB M i).setTop f := rfl
theorem hS0_top (f : JFrame) : hS0 (T.setTop f) cA = (hS0 T cA).setTop f := rfl
theorem hS1_top (f : JFrame) : hS1 (T.setTop f) cA cB M = (hS1 T cA cB M).setTop f := by
  show hAdd (hS0 (T.setTop f) cA) T.heap.size (hO0 cA) cB M 0 = _
  rw [hS0_top, hAdd_top]
  rfl
theorem hS2_top (f : JFrame) : hS2 (T.setTop f) cA cB M = (hS2 T cA cB M).setTop f := by
  show hAdd (hS1 (T.setTop f) cA cB M) T.heap.size (hO1 cA T.heap.size) cB M 1 = _
  rw [hS1_top, hAdd_top]
  rfl
theorem hS3_top (f : JFrame) : hS3 (T.setTop f) cA cB M = (hS3 T cA cB M).setTop f := by
  show hAdd (hS2 (T.setTop f) cA cB M) T.heap.size (hO2 cA T.heap.size) cB M 2 = _
  rw [hS2_top, hAdd_top]
  rfl
end HSF
theorem hO3_arr (cA : ClassId) (h : Nat) : hO3 cA h = arrV cA 3 (fun j => va_rf (some (h + 1 + j))) := by
  unfold hO3 hO2 hO1 hO0
  rw [arrV_new, arrV_store, arrV_store, arrV_store]
  unfold arrV
  congr 1
section HWM
variable {E : CtlPost} {e : Env} {d : Bool} {acts : List Action} {s : State}
theorem hwp_row {cB cc : ClassId} {kB : Class} {k : Int32} {M : Nat} (hkB : s.vm.classes[cB]? = some kB) (hiB : kB.kind = .array cc .int) (hk : ¬ k < 0) (ek : k.toNatClampNeg = M) (l1 : M ≤ e.platform.arrayLengthLimit) (b1 : M * componentBytes .int ≤ e.platform.maxHeapBytes) (c1 : s.heap.size < e.platform.maxCells) (c2 : s.slotsUsed + M ≤ e.platform.maxSlots) {Q : Addr → Pre} (hq : Q s.heap.size d acts (s.pushCell (hRow cB M))) : wp (Op.multianewarray.make cB [k]) Q E e d acts s := by
  rw [Op.multianewarray.make]
  simp only [wp_bind', W.ite, hk, if_false, wp_pure', W.theClass, hkB, hiB, Option.some.injEq, exists_eq_left', ek]
  exact hwp_arr hkB hiB l1 b1 rfl rfl c1 c2 hq
theorem hwp_add {h i : Nat} {oc : Cell} {cA cB cc : ClassId} {kA kB : Class} {k : Int32} {M : Nat} (hc : s.heap[h]? = some oc) (ho : oc.cls = cA ∧ oc.vm = .none ∧ oc.slots.size = 3) (hi : i < 3) (hkA : s.vm.classes[cA]? = some kA) (hiA : kA.kind = .array cB (.array .int)) (hkB : s.vm.classes[cB]? = some kB) (hiB : kB.kind = .array cc .int) (hk : ¬ k < 0) (ek : k.toNatClampNeg = M) (l1 : M ≤ e.platform.arrayLengthLimit) (b1 : M * componentBytes .int ≤ e.platform.maxHeapBytes) (c1 : s.heap.size < e.platform.maxCells) (c2 : s.slotsUsed + M ≤ e.platform.maxSlots) {Q : Unit → Pre} (hq : ∀ d acts, Q () d acts (hAdd s h oc cB M i)) : wp (do let r ← Op.multianewarray.make cB [k]; writeLoc h i (.ref r)) Q E e d acts s := by
  simp only [wp_bind']
  refine hwp_row hkB hiB hk ek l1 b1 c1 c2 ?_
  simp only [W.writeLoc]
  refine ⟨oc, hAdd_mid hc, by rw [ho.2.1]; simp, by rw [ho.2.2]; exact hi, ?_, hq _ _⟩
  rw [ho.1, ho.2.1]
  simp [State.fitsSlot, State.slotType?, hkA, hiA, fits]
theorem hwp_make {cA cB cc : ClassId} {kA kB : Class} {n k : Int32} {M : Nat} (hkA : s.vm.classes[cA]? = some kA) (hiA : kA.kind = .array cB (.array .int)) (hkB : s.vm.classes[cB]? = some kB) (hiB : kB.kind = .array cc .int) (hn : ¬ n < 0) (hk : ¬ k < 0) (en : n.toNatClampNeg = 3) (ek : k.toNatClampNeg = M) (l0 : 3 ≤ e.platform.arrayLengthLimit) (b0 : 3 * componentBytes (.array .int) ≤ e.platform.maxHeapBytes) (l1 : M ≤ e.platform.arrayLengthLimit) (b1 : M * componentBytes .int ≤ e.platform.maxHeapBytes) (c1 : s.heap.size + 4 ≤ e.platform.maxCells) (c2 : s.slotsUsed + (3 + 3 * M) ≤ e.platform.maxSlots) {Q : Addr → Pre} (hq : ∀ d acts, Q s.heap.size d acts (hS3 s cA cB M)) : wp (Op.multianewarray.make cA [n, k]) Q E e d acts s := by
  have hfind : ([k].find? (· < 0)) = none := by simp [hk]
  rw [Op.multianewarray.make]
  simp only [wp_bind', W.ite, hn, if_false, wp_pure', W.theClass, hkA, hiA, Option.some.injEq, exists_eq_left', en]
  refine hwp_arr hkA hiA l0 b0 rfl rfl (by omega) (by omega) ?_
  simp only [hfind]
  rw [ite_self, wp_bind', Std.Legacy.Range.forIn_eq_forIn_range']
  show wp (forIn [0, 1, 2] PUnit.unit _) _ E e _ _ _
  have u1 : (hS1 s cA cB M).slotsUsed = s.slotsUsed + 3 + M := by rw [hS1, hAdd_used]; simp [hS0, hO0]
  have u2 : (hS2 s cA cB M).slotsUsed = s.slotsUsed + 3 + M + M := by rw [hS2, hAdd_used, u1]
  simp only [List.forIn_cons, List.forIn_nil, wp_bind', wp_pure']
  refine hwp_row (s := hS0 s cA) hkB hiB hk ek l1 b1 (by rw [hS0_size]; omega) (by show s.slotsUsed + (Array.replicate 3 Value.null).size + M ≤ _; simp; omega) ?_
  simp only [wp_bind', W.writeLoc, wp_pure']
  refine ⟨hO0 cA, hAdd_mid hS0_out, by simp [hO0], by simp [hO0], by simp [State.fitsSlot, State.slotType?, hS0, hO0, hkA, hiA, fits], ?_⟩
  refine hwp_row (s := hS1 s cA cB M) hkB hiB hk ek l1 b1 (by rw [hS1_size]; omega) (by rw [u1]; omega) ?_
  simp only [wp_bind', W.writeLoc, wp_pure']
  refine ⟨hO1 cA s.heap.size, hAdd_mid hS1_out, by simp [hO1, hO0, Cell.setSlot], by simp [hO1, hO0, Cell.setSlot], by simp [State.fitsSlot, State.slotType?, hS1, hAdd, hS0, hO1, hO0, Cell.setSlot, hkA, hiA, fits], ?_⟩
  refine hwp_row (s := hS2 s cA cB M) hkB hiB hk ek l1 b1 (by rw [hS2_size]; omega) (by rw [u2]; omega) ?_
  simp only [wp_bind', W.writeLoc, wp_pure']
  refine ⟨hO2 cA s.heap.size, hAdd_mid hS2_out, by simp [hO2, hO1, hO0, Cell.setSlot], by simp [hO2, hO1, hO0, Cell.setSlot], by simp [State.fitsSlot, State.slotType?, hS2, hS1, hAdd, hS0, hO2, hO1, hO0, Cell.setSlot, hkA, hiA, fits], ?_⟩
  exact hq _ _
end HWM
section HMW
variable {p : Program} {l : Launch} {e : Env} {R : Room} {s : State} {m : MethodId} {args : Array Value} {below : List Frame} {meth : Method} {c : Code} {H : Heap} {locs : List Loc} {cells slots : Nat} {Q : State → Prop}
variable {pc : Nat} {ls : Array Slot} {rest : List Value} {A : Nat → Prop} {D : va_G} {cl : List vw_C} {tys : List (ClassId × FieldType)} {ws : va_W} {H0 : Heap} {cc : ByteArray}
theorem hmana {own : String} {index M : Nat} (hexec : p.tables.exec = Jvm.exec) (hb : c.code = cc) (hown : s.vm.findClass own = some m.cls) (hcl : (Cond.classLink own index "[[I").before args s = true) (hK : va_K D cl tys s) (hMu : hMul tys s) (t0 t1 : Nat) {cA cB : ClassId} (ht0 : tys[t0]? = some (cA, .array .int)) (ht1 : tys[t1]? = some (cB, .int)) (hP : va_P D cl ws H) (hD : va_D A ws) (hS : va_S A H0 H locs) (hA : ∀ q : Nat, H0.size ≤ q → A q) {n k : Int32} (hn : ¬ n < 0) (hk : ¬ k < 0) (en : n.toNatClampNeg = 3) (ek : k.toNatClampNeg = M) (hM : M ≤ 100000) (hcells : cells + 4 ≤ R.cells) (hslots : slots + (3 + 3 * M) ≤ R.slots) (hdg : decode cc pc = .ok (.multianewarray index 2, 4))
    (kk : ∀ (q : Nat) (H1 : Heap) (locs1 : List Loc), va_P D cl (ws ++ [(q, .inl (cA, 3, .inr (.inr (.inr (.inr (fun j => some (q + 1 + j))))))), (q + 1 + 0, .inl (cB, M, .inl (fun _ => 0))), (q + 1 + 1, .inl (cB, M, .inl (fun _ => 0))), (q + 1 + 2, .inl (cB, M, .inl (fun _ => 0)))]) H1 → va_D A (ws ++ [(q, .inl (cA, 3, .inr (.inr (.inr (.inr (fun j => some (q + 1 + j))))))), (q + 1 + 0, .inl (cB, M, .inl (fun _ => 0))), (q + 1 + 1, .inl (cB, M, .inl (fun _ => 0))), (q + 1 + 2, .inl (cB, M, .inl (fun _ => 0)))]) → va_S A H0 H1 locs1 →
      W p l e R s m args below meth c H1 locs1 (cells + 4) (slots + (3 + 3 * M)) Q (F0 m (pc + 4) ls (.ref q :: rest))) : W p l e R s m args below meth c H locs cells slots Q (F0 m pc ls (.int k :: .int n :: rest)) := by
  intro T hT X
  subst hT; subst hb
  have hpl : e.platform.magicAccessors = ({} : Platform).magicAccessors := by rw [X.admits.platform]
  obtain ⟨kA, hkA, hiA⟩ := hMu t0 t1 cA cB ht0 ht1
  obtain ⟨-, kB, hkB, cc1, hiB⟩ := (hK.2 t1 _ ht1).1 0 (fun _ => .null)
  have hkB : s.vm.classes[cB]? = some kB := hkB
  have hfA : s.vm.findClass "[[I" = some cA := (hK.2 t0 _ ht0).2
  obtain ⟨c0, hf0, hcl⟩ := Cond.classLink_spec hown hcl e.platform hpl
  cases hfA.symm.trans hf0
  obtain ⟨hg1, hw1, hr1⟩ := State.classEntry (e := e) X.warmed hcl
  generalize T.vm.noted m.cls index (.cls cA) = vm1 at hg1 hw1 hr1
  obtain ⟨kA1, hkA1, heA⟩ := hw1.alike.2.2 _ _ hkA
  obtain ⟨kB1, hkB1, heB⟩ := hw1.alike.2.2 _ _ hkB
  have hiA1 : kA1.kind = .array cB (.array .int) := by rw [heA]; exact hiA
  have hiB1 : kB1.kind = .array cc1 .int := by rw [heB]; exact hiB
  have X1 := X.noted hw1
  have Y0 : Stand p l e R s m args below meth c (hS0 (T.setVm vm1) cA) locs (cells + 1) (slots + 3) := by
    have h := X1.pushed (hO0 cA)
    rw [show (hO0 cA).slots.size = 3 by simp [hO0]] at h
    exact h
  have Y1 := hAdd_stand cB M 0 Y0 hS0_out
  have Y2 := hAdd_stand cB M 1 Y1 (hS1_out (T := T.setVm vm1) (cA := cA) (cB := cB) (M := M))
  have Y3 := hAdd_stand cB M 2 Y2 (hS2_out (T := T.setVm vm1) (cA := cA) (cB := cB) (M := M))
  obtain ⟨hr2, hr3⟩ := X.roomAbove hcells hslots
  have hold : ∀ a : Nat, a < T.heap.size → (hS3 (T.setVm vm1) cA cB M).heap[a]? = T.heap[a]? := fun a ha => hS3_old (T := T.setVm vm1) ha
  have hAh : ∀ j : Nat, A (T.heap.size + j) := fun j => hA _ (Nat.le_trans hS.1 (Nat.le_add_right _ _))
  have hP4 : va_P D cl (ws ++ [(T.heap.size, .inl (cA, 3, .inr (.inr (.inr (.inr (fun j => some (T.heap.size + 1 + j))))))), (T.heap.size + 1 + 0, .inl (cB, M, .inl (fun _ => 0))), (T.heap.size + 1 + 1, .inl (cB, M, .inl (fun _ => 0))), (T.heap.size + 1 + 2, .inl (cB, M, .inl (fun _ => 0)))]) (hS3 (T.setVm vm1) cA cB M).heap := by
    refine (hP.kept (fun k x hx => hold x.1 (hP k x hx).lt)).app (fun k x hx => ?_)
    have hk4 : k < 4 := (List.getElem?_eq_some_iff.mp hx).1
    have hrow : some (hRow cB M) = some (vp_cell cB (M, .inl (fun _ => 0))) := by rw [vp_cell_i, ← arrV_new]; rfl
    rcases (show k = 0 ∨ k = 1 ∨ k = 2 ∨ k = 3 by omega) with rfl | rfl | rfl | rfl <;> cases hx
    · show (hS3 (T.setVm vm1) cA cB M).heap[T.heap.size]? = some (vp_cell _ _)
      rw [vp_cell_q, ← hO3_arr]
      exact hS3_out (T := T.setVm vm1)
    · exact (hS3_r0 (T := T.setVm vm1)).trans hrow
    · exact (hS3_r1 (T := T.setVm vm1)).trans hrow
    · exact (hS3_r2 (T := T.setVm vm1)).trans hrow
  have hS4 : va_S A H0 (hS3 (T.setVm vm1) cA cB M).heap (((locs ++ [⟨T.heap.size, 0⟩]) ++ [⟨T.heap.size, 1⟩]) ++ [⟨T.heap.size, 2⟩]) := by
    refine ⟨Nat.le_trans hS.1 (by rw [hS3_size]; exact Nat.le_add_right _ _), fun a h1 h2 => (hold a (Nat.lt_of_lt_of_le h1 hS.1)).trans (hS.2.1 a h1 h2), fun q hq => ?_⟩
    simp only [List.mem_append, List.mem_singleton] at hq
    rcases hq with ((hq | rfl) | rfl) | rfl
    · exact hS.2.2 q hq
    · exact hAh 0
    · exact hAh 0
    · exact hAh 0
  obtain ⟨t, a1, b1⟩ := kk T.heap.size _ _ hP4 (hD4 hD (fun k q hq => (hP k q hq).lt) hAh) hS4 (hS3 (T.setVm vm1) cA cB M) rfl (by
    rw [show slots + (3 + 3 * M) = slots + 3 + M + M + M by omega]
    exact Y3)
  refine ⟨t, ?_, b1⟩
  have l0 : 3 ≤ e.platform.arrayLengthLimit := by rw [Launch.admits_arrayLengthLimit X.admits]; omega
  have b0 : 3 * componentBytes (.array .int) ≤ e.platform.maxHeapBytes := by rw [Launch.admits_maxHeapBytes X.admits]; show 3 * 4 ≤ 536870912; omega
  have l1 : M ≤ e.platform.arrayLengthLimit := by rw [Launch.admits_arrayLengthLimit X.admits]; omega
  have b2 : M * componentBytes .int ≤ e.platform.maxHeapBytes := by rw [Launch.admits_maxHeapBytes X.admits]; show M * 4 ≤ 536870912; omega
  jvm_step X.here [hexec, hdg]
  simp only [Op.multianewarray.sem, wp_bind', W.resolveClassAt_links (vm' := vm1) (State.method?_setTop (F0 m pc ls (.int k :: .int n :: rest)) X.here.top) hg1]
  rw [W.popN, if_neg (by decide)]
  refine ⟨F0 m pc ls (.int k :: .int n :: rest), State.topJava?_setTop' (s := T.setVm vm1) _ X.here.top, [.int n, .int k], rest, rfl, rfl, ?_⟩
  simp only [List.mapM_cons, List.mapM_nil, wp_bind', wp_pure']
  refine hwp_make hkA1 hiA1 hkB1 hiB1 hn hk en ek l0 b0 l1 b2 (by show T.heap.size + 4 ≤ _; exact hr2) (by show T.slotsUsed + _ ≤ _; exact hr3) (fun d' acts' => ?_)
  have XF : Stand p l e R s m args below meth c (hS3 (T.setVm vm1) cA cB M) (((locs ++ [⟨T.heap.size, 0⟩]) ++ [⟨T.heap.size, 1⟩]) ++ [⟨T.heap.size, 2⟩]) (cells + 1 + 1 + 1 + 1) (slots + 3 + M + M + M) := Y3
  have eS : ((T.setTop (F0 m pc ls (.int k :: .int n :: rest))).setVm vm1).setTop (F0 m pc ls rest) = (T.setVm vm1).setTop (F0 m pc ls rest) := by
    show ((T.setVm vm1).setTop (F0 m pc ls (.int k :: .int n :: rest))).setTop _ = _
    rw [State.setTop_setTop]
  show wp (do mark "op.multianewarray"; pushRef T.heap.size) _ _ e d' acts' (hS3 (((T.setTop (F0 m pc ls (.int k :: .int n :: rest))).setVm vm1).setTop (F0 m pc ls rest)) cA cB M)
  rw [eS, hS3_top]
  simp only [wp_bind', W.mark, W.pushRef, State.topJava?_setTop' _ XF.here.top, Option.some.injEq, exists_eq_left', State.setTop_setTop]
  intro acts
  simp [jvm, XF.here.top]
  exact a1
end HMW
