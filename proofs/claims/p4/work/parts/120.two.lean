-- TWO WORLDS: the class's and the reference's, apart
def hApart (wa wb : va_W) : Prop := ∀ (i j : Nat) (x y : Nat × va_E), wa[i]? = some x → wb[j]? = some y → x.1 ≠ y.1
theorem hApart.symm {wa wb : va_W} (h : hApart wa wb) : hApart wb wa := fun i j x y hx hy e => h j i y x hy hx e.symm
theorem hApart.out {D : va_G} {cl : List vw_C} {wa wb : va_W} {H : Heap} (h : hApart wa wb) (hP : va_P D cl wb H) {k : Nat} {q : Nat × va_E} (hq : wb[k]? = some q) : ¬ va_A wa H.size q.1 := by
  rintro (⟨i, e, hi⟩ | hi)
  · exact h i k (q.1, e) q hi hq rfl
  · have := (hP k q hq).lt
    omega
theorem hApart.kept {D : va_G} {cl : List vw_C} {wa wb : va_W} {H H1 : Heap} (h : hApart wa wb) (hP : va_P D cl wb H) (hk : ∀ q : Nat, q < H.size → ¬ va_A wa H.size q → H1[q]? = H[q]?) : va_P D cl wb H1 := fun k q hq => (hP k q hq).kept (hk q.1 (hP k q hq).lt (h.out hP hq))
theorem hApart.next {D : va_G} {cl : List vw_C} {wa wb w1 : va_W} {H : Heap} (h : hApart wa wb) (hP : va_P D cl wb H) (hD : va_D (va_A wa H.size) w1) : hApart w1 wb := fun i j x y hx hy e => h.out hP hy (by rw [← e]; exact hD.2 i x hx)
section HT
variable {p : Program} {l : Launch} {e : Env} {R : Room} {s : State} {m : MethodId} {args : Array Value} {below : List Frame} {meth : Method} {c : Code} {H : Heap} {locs : List Loc} {cells slots : Nat} {Q : State → Prop}
variable {pc : Nat} {ls : Array Slot} {rest st0 : List Value} {a : Array Value} {A : Nat → Prop} {mc ms : Nat} {D : va_G} {tys : List (ClassId × FieldType)} {tv : Nat} {wa wb : va_W}
theorem hf_i {post : Int32 → va_W → Prop} (E : hE D tys tv A s) (hD : va_D A wa) (hPb : va_P D vwCl wb H) (hap : hApart wa wb) (hS : va_S A s.heap H locs) (hr : va_Run p l e R s m args below meth c H locs cells slots mc ms (F0 m pc ls st0) rest (va_Qi post (hB D wa H.size) (va_A wa H.size) a) (va_A wa H.size))
    (kk : ∀ (r : Int32) (w1 : va_W) (H1 : Heap) (locs1 : List Loc), post r w1 → va_P D vwCl w1 H1 → va_D A w1 → va_P D vwCl wb H1 → hApart w1 wb → va_S A s.heap H1 locs1 → W p l e R s m args below meth c H1 locs1 (cells + mc) (slots + ms) Q (F0 m (pc + 3) ls (.int r :: rest))) : W p l e R s m args below meth c H locs cells slots Q (F0 m pc ls st0) :=
  va_calli hr hS (fun q _ h => hfree hD hS E.2.2 q h) (hfree hD hS E.2.2) (fun r u _ H1 locs1 ht _ hp hB1 _ hk1 hS1 => kk r u H1 locs1 hp (by rw [← ht]; exact hB1.1) (hB1.2.weaken (fun _ _ _ h => hfree hD hS E.2.2 _ h)) (hap.kept hPb hk1) (hap.next hPb hB1.2) hS1)
theorem hf_l {post : Int64 → va_W → Prop} (E : hE D tys tv A s) (hD : va_D A wa) (hPb : va_P D vwCl wb H) (hap : hApart wa wb) (hS : va_S A s.heap H locs) (hr : va_Run p l e R s m args below meth c H locs cells slots mc ms (F0 m pc ls st0) rest (va_Ql post (hB D wa H.size) (va_A wa H.size) a) (va_A wa H.size))
    (kk : ∀ (r : Int64) (w1 : va_W) (H1 : Heap) (locs1 : List Loc), post r w1 → va_P D vwCl w1 H1 → va_D A w1 → va_P D vwCl wb H1 → hApart w1 wb → va_S A s.heap H1 locs1 → W p l e R s m args below meth c H1 locs1 (cells + mc) (slots + ms) Q (F0 m (pc + 3) ls (.long r :: rest))) : W p l e R s m args below meth c H locs cells slots Q (F0 m pc ls st0) :=
  va_calll hr hS (fun q _ h => hfree hD hS E.2.2 q h) (hfree hD hS E.2.2) (fun r u _ H1 locs1 ht _ hp hB1 _ hk1 hS1 => kk r u H1 locs1 hp (by rw [← ht]; exact hB1.1) (hB1.2.weaken (fun _ _ _ h => hfree hD hS E.2.2 _ h)) (hap.kept hPb hk1) (hap.next hPb hB1.2) hS1)
end HT
/-- a world that is there already, and an object that is made beside it -/
theorem hApart.push {D : va_G} {cl : List vw_C} {wa : va_W} {H : Heap} {x : Nat × va_E} (hP : va_P D cl wa H) (hx : H.size ≤ x.1) : hApart wa [x] := fun i j y z hy hz e => by
  have hj : j < 1 := (List.getElem?_eq_some_iff.mp hz).1
  rw [show j = 0 by omega] at hz
  cases hz
  have := (hP i y hy).lt
  omega
