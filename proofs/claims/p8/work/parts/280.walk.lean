-- THE JOIN OF AN ORDER: its steps
def hKw (I : Nat → Nat → Nat) (o : List Nat) : Nat → Nat
  | 0 => 0
  | j + 1 => hKw I o j ||| hvm (I (o.getD j 0)) 3
abbrev hWx (I : Nat → Nat → Nat) (o : List Nat) (j : Nat) : Nat := hfx (I (o.getD j 0)) (nI (hKw I o j)) 3
abbrev hWv (I : Nat → Nat → Nat) (o : List Nat) (j : Nat) : Nat := hview (hWx I o j)
abbrev hWF (g : Nat → Nat → Nat) (cnt : Nat) (I : Nat → Nat → Nat) (o : List Nat) (j : Nat) : List Nat := hFl (hWv I o j) (I (o.getD j 0)) (g (hWv I o j)) cnt
abbrev hWI (I : Nat → Nat → Nat) (o : List Nat) (j : Nat) : Nat → Nat := I (o.getD j 0)
abbrev hWs (I : Nat → Nat → Nat) (o : List Nat) (j : Nat) : Nat → Nat := hsh (hWv I o j)
abbrev hWn (I : Nat → Nat → Nat) (o : List Nat) (j : Nat) : Nat := hnk (hWv I o j) (I (o.getD j 0)) 3
abbrev hWo (I : Nat → Nat → Nat) (o : List Nat) (j : Nat) : Nat := hopen (hWx I o j)
/-- what the walk comes to: (total, count) -/
def hEn (g : Nat → Nat → Nat) (cnt : Nat) (I : Nat → Nat → Nat) (o : List Nat) (co sc : Nat) : Nat × Nat := hEx (hWF g cnt I o) (hWI I o) (hWs I o) (hWn I o) (hWx I o) (hWo I o) co o.length o.length 0 (0, sc)
theorem hStk_of {F : Nat → Nat → Int32} {g : Nat → Nat → Nat} {cnt : Nat} {X : Nat → Nat → Prop} (hw : hVw F g cnt X) {J : Nat → Nat} (hJ : ∀ q, q < 3 → J q < 72) (kn : Int32) : hStk (hFl (hview (hfx J kn 3)) J (g (hview (hfx J kn 3))) cnt) J (hsh (hview (hfx J kn 3))) (hnk (hview (hfx J kn 3)) J 3) (hfx J kn 3) (hopen (hfx J kn 3)) := by
  have h8 : hfx J kn 3 < 8 := hfx_lt J kn 3 (Nat.le_refl _)
  have hv := hview_lt _ h8
  obtain ⟨hf, hs⟩ := hw.2 _ hv
  refine ⟨Nat.le_trans (hFl_len cnt) hw.1, fun x hx => ?_, hFl_up cnt (fun i j hij hj => hs.1 i j hij hj), hJ, fun q hq => hsh_lt _ hv q hq, hnk_lt hv J 3 (Nat.le_refl _), h8, hopen_le _⟩
  obtain ⟨i, hi, rfl⟩ := hFl_mem cnt x hx
  exact (hf i hi).2
theorem hEn_bd (g : Nat → Nat → Nat) (cnt : Nat) (I : Nat → Nat → Nat) (o : List Nat) (co sc : Nat) (h : sc ≤ 20000) : (hEn g cnt I o co sc).1 ≤ 20000 + o.length ∧ sc ≤ (hEn g cnt I o co sc).2 ∧ (hEn g cnt I o co sc).2 ≤ 20000 := by
  have q := hEx_bd (hWF g cnt I o) (hWI I o) (hWs I o) (hWn I o) (hWx I o) (hWo I o) co o.length o.length 0 (0, sc) (Nat.zero_le _)
  exact ⟨q.1, q.2 h⟩
