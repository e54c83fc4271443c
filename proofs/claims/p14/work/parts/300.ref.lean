abbrev hRc (ad : Nat → Nat) (ct pt md : Nat) (lz : Int64) (kp : Nat) (fd : Int32) : Nat × va_E := (ad 0, .inr (iM, [.ref (ad 1), .int (nI ct), .ref (ad 2), .int (nI pt), .ref (ad 3), .int (nI md), .ref (ad 4), .ref (ad 5), .ref (ad 6), .long lz, .ref (ad 7), .ref (ad 8), .ref (ad 9), .ref (ad 10), .int (nI kp), .int fd, .ref (ad 11), .ref (ad 12)]))
-- THE REFERENCE: one object (name 0), twelve arrays (names 1 .. 12); f k is what array k holds
def hRl : Nat → Nat := fun k => match k with | 1 => 1920 | 2 => 18 | 3 => 6 | 4 => 1536 | 5 => 6 | 6 => 6 | 7 => 9 | 8 => 9 | 9 => 6 | 10 => 160000 | _ => 20000
def hRX (K : Nat → ClassId) (ad : Nat → Nat) (ws : va_W) (f : Nat → Nat → Int32) (ct pt md : Nat) (lz : Int64) (kp : Nat) (fd : Int32) : Prop := ws[0]? = some (hRc ad ct pt md lz kp fd) ∧ ∀ k, 1 ≤ k → k ≤ 12 → ws[k]? = some (ad k, .inl (K 0, hRl k, .inl (f k)))
def hup (f : Nat → Nat → Int32) (k : Nat) (h : Nat → Int32) : Nat → Nat → Int32 := fun j => if j = k then h else f j
theorem hRX.obj {K : Nat → ClassId} {ad : Nat → Nat} {ws : va_W} {f : Nat → Nat → Int32} {ct pt md kp ct' pt' md' kp' : Nat} {lz lz' : Int64} {fd fd' : Int32} (h : hRX K ad ws f ct pt md lz kp fd) : hRX K ad (List.set ws 0 (hRc ad ct' pt' md' lz' kp' fd')) f ct' pt' md' lz' kp' fd' := ⟨hset_eq h.1, fun k h1 h2 => (hset_ne (by omega)).trans (h.2 k h1 h2)⟩
theorem hRX.arr {K : Nat → ClassId} {ad : Nat → Nat} {ws : va_W} {f : Nat → Nat → Int32} {ct pt md kp : Nat} {lz : Int64} {fd : Int32} (h : hRX K ad ws f ct pt md lz kp fd) (k : Nat) (h1 : 1 ≤ k) (h2 : k ≤ 12) (g : Nat → Int32) : hRX K ad (List.set ws k (ad k, .inl (K 0, hRl k, .inl g))) (hup f k g) ct pt md lz kp fd := by
  refine ⟨(hset_ne (by omega)).trans h.1, fun j j1 j2 => ?_⟩
  by_cases z : j = k
  · subst z
    rw [hset_eq (h.2 j j1 j2)]
    rw [show hup f j g j = g from if_pos rfl]
  · rw [hset_ne (fun q => z q.symm), h.2 j j1 j2]
    rw [show hup f k g j = f j from if_neg z]
/-- the triples of the reference -/
def hRT (h : Nat → Int32) (S : Nat → Nat → Nat → Prop) (cnt : Nat) : Prop := ∃ ta tb tc : Nat → Nat, (∀ i, i < cnt → h (3 * i) = nI (ta i) ∧ h (3 * i + 1) = nI (tb i) ∧ h (3 * i + 2) = nI (tc i) ∧ ta i < 64 ∧ tb i < 64 ∧ tc i < 64) ∧ (∀ i j, i < j → j < cnt → ¬ (ta i = ta j ∧ tb i = tb j ∧ tc i = tc j)) ∧ ∀ a b c, S a b c ↔ ∃ i, i < cnt ∧ ta i = a ∧ tb i = b ∧ tc i = c
def hRI (h : Nat → Int32) (np : Nat) (I : Nat → Nat → Nat) : Prop := ∀ p, p < np → ∀ i, i < 3 → h (3 * p + i) = hit (I p i) ∧ I p i < 72
def hIx (h : Nat → Int32) : Prop := ∀ i, i < 20000 → ∃ m, m < 20000 ∧ h i = nI m
def hRF (f : Nat → Nat → Int32) (fd : Int32) : Prop := (fd = (-2) ∨ ∃ n, fd = nI n ∧ n ≤ 20000) ∧ hIx (f 11) ∧ hIx (f 12)
def hRB (f : Nat → Nat → Int32) (S : Nat → Nat → Nat → Prop) (cnt np : Nat) (o : List Nat) (I : Nat → Nat → Nat) (fd : Int32) : Prop := cnt ≤ 640 ∧ np ≤ 6 ∧ o.Nodup ∧ (∀ x, x ∈ o → x < np) ∧ hRT (f 1) S cnt ∧ hRI (f 2) np I ∧ (∀ k, k < o.length → f 3 k = nI (o.getD k 0)) ∧ hRF f fd
def hMS (K : Nat → ClassId) (ad : Nat → Nat) (ws : va_W) (S : Nat → Nat → Nat → Prop) (cnt np : Nat) (o : List Nat) (I : Nat → Nat → Nat) : Prop := ∃ (f : Nat → Nat → Int32) (lz : Int64) (kp : Nat) (fd : Int32), hRX K ad ws f cnt np o.length lz kp fd ∧ hRB f S cnt np o I fd
theorem hRB.frm {f g : Nat → Nat → Int32} {S : Nat → Nat → Nat → Prop} {cnt np : Nat} {o : List Nat} {I : Nat → Nat → Nat} {fd : Int32} (h : hRB f S cnt np o I fd) (h1 : g 1 = f 1) (h2 : g 2 = f 2) (h3 : g 3 = f 3) (h11 : g 11 = f 11) (h12 : g 12 = f 12) : hRB g S cnt np o I fd := by
  unfold hRB hRF
  rw [h1, h2, h3, h11, h12]
  exact h
theorem hRT.add {h : Nat → Int32} {S : Nat → Nat → Nat → Prop} {cnt a b c : Nat} (hT : hRT h S cnt) (ha : a < 64) (hb : b < 64) (hc : c < 64) (hn : ¬ S a b c) : hRT (upd (upd (upd h (3 * cnt) (nI a)) (3 * cnt + 1) (nI b)) (3 * cnt + 2) (nI c)) (hAddT S a b c) (cnt + 1) := by
  obtain ⟨ta, tb, tc, h1, h2, h3⟩ := hT
  refine ⟨fun i => if i = cnt then a else ta i, fun i => if i = cnt then b else tb i, fun i => if i = cnt then c else tc i, fun i hi => ?_, fun i j hij hj => ?_, fun x y z => ?_⟩
  · dsimp only
    by_cases q : i = cnt
    · subst q
      rw [if_pos rfl, if_pos rfl, if_pos rfl]
      refine ⟨?_, ?_, ?_, ha, hb, hc⟩
      · rw [pk_un (by omega), pk_un (by omega), pk_us]
      · rw [pk_un (by omega), pk_us]
      · rw [pk_us]
    · obtain ⟨e1, e2, e3, e4⟩ := h1 i (by omega)
      rw [if_neg q, if_neg q, if_neg q]
      refine ⟨?_, ?_, ?_, e4⟩
      · rw [pk_un (by omega), pk_un (by omega), pk_un (by omega)]; exact e1
      · rw [pk_un (by omega), pk_un (by omega), pk_un (by omega)]; exact e2
      · rw [pk_un (by omega), pk_un (by omega), pk_un (by omega)]; exact e3
  · dsimp only
    rw [if_neg (show ¬ i = cnt by omega), if_neg (show ¬ i = cnt by omega), if_neg (show ¬ i = cnt by omega)]
    by_cases q : j = cnt
    · rw [if_pos q, if_pos q, if_pos q]
      exact fun z => hn ((h3 a b c).mpr ⟨i, by omega, z⟩)
    · rw [if_neg q, if_neg q, if_neg q]
      exact h2 i j hij (by omega)
  · dsimp only
    constructor
    · rintro (q | ⟨rfl, rfl, rfl⟩)
      · obtain ⟨i, hi, e⟩ := (h3 x y z).mp q
        refine ⟨i, by omega, ?_⟩
        rw [if_neg (show ¬ i = cnt by omega), if_neg (show ¬ i = cnt by omega), if_neg (show ¬ i = cnt by omega)]
        exact e
      · exact ⟨cnt, by omega, if_pos rfl, if_pos rfl, if_pos rfl⟩
    · rintro ⟨i, hi, e1, e2, e3⟩
      by_cases q : i = cnt
      · rw [if_pos q] at e1 e2 e3
        exact Or.inr ⟨e1.symm, e2.symm, e3.symm⟩
      · rw [if_neg q] at e1 e2 e3
        exact Or.inl ((h3 x y z).mpr ⟨i, by omega, e1, e2, e3⟩)
theorem hI63 : (nI 63).toInt = 63 := by decide +kernel
theorem hOkN_neg3 {x : Int32} (h : x < 0 ∨ nI 63 < x) : ¬ hOkN x := by
  rw [Int32.lt_iff_toInt_lt, Int32.lt_iff_toInt_lt, hI63, Int32.toInt_zero] at h
  intro q
  have := q.1
  have := q.2
  omega
theorem hOkN_pos3 {x : Int32} (h1 : ¬ x < 0) (h2 : ¬ nI 63 < x) : hOkN x := by
  rw [Int32.lt_iff_toInt_lt, Int32.toInt_zero] at h1
  rw [Int32.lt_iff_toInt_lt, hI63] at h2
  exact ⟨by omega, by omega⟩
theorem hOkI_neg {x : Int32} (h : x < (-8) ∨ nI 63 < x) : ¬ (hOkN x ∨ hOkV x) := by
  rw [Int32.lt_iff_toInt_lt, Int32.lt_iff_toInt_lt, hI63, hIm8] at h
  rintro (q | q) <;> (have := q.1; have := q.2; omega)
theorem hOkI_pos {x : Int32} (h1 : ¬ x < (-8)) (h2 : ¬ nI 63 < x) : hOkN x ∨ hOkV x := by
  rw [Int32.lt_iff_toInt_lt, hIm8] at h1
  rw [Int32.lt_iff_toInt_lt, hI63] at h2
  by_cases q : 0 ≤ x.toInt
  · exact Or.inl ⟨by omega, by omega⟩
  · exact Or.inr ⟨by omega, by omega⟩
theorem hk00 {k : Int32} (h1 : ¬ k < 0) (h2 : ¬ nI 0 ≤ k) : False := by
  rw [Int32.lt_iff_toInt_lt, Int32.toInt_zero] at h1
  rw [Int32.le_iff_toInt_le, nI_toInt (by decide)] at h2
  omega
theorem hIm2 : (-2 : Int32).toInt = -2 := by decide +kernel
theorem hk2 {k : Int32} (h1 : ¬ k < 0) (h2 : ¬ (-2) ≤ k) : False := by
  rw [Int32.lt_iff_toInt_lt, Int32.toInt_zero] at h1
  rw [Int32.le_iff_toInt_le, hIm2] at h2
  omega
theorem hupd0 {f : Nat → Int32} (i : Nat) (h : f 0 = 0) : upd f i (nI 0) 0 = 0 := by
  by_cases z : 0 = i
  · subst z; rw [pk_us]; rfl
  · rw [pk_un z]; exact h
theorem hupdA {f : Nat → Int32} (i : Nat) (h : ∀ j, f j = 0) : ∀ j, upd f i (nI 0) j = 0 := fun j => by
  by_cases z : j = i
  · subst z; rw [pk_us]; rfl
  · rw [pk_un z]; exact h j

set_option maxHeartbeats 4000000 in
set_option maxRecDepth 100000 in
/-- the reference: isNumber -/
theorem c_X9_isNumber (l : Launch) (x : Int32) : hSi l yX9_isNumber cX9_isNumber 1 (some .boolean) ({ frames := 0, cells := 0, slots := 0, locals := 0 }) [.int x] (fun r => hBool r (hOkN x)) := by
  refine Met.ofW (cc := cX9_isNumber) (maxL := 1) (ret := (some .boolean)) (by decide) rfl ?_
  intro p e s m args below meth c s₁ B hml hv0
  obtain ⟨rfl, -⟩ := hv0
  have hx := B.exec
  have hb := B.bytes
  have hr := B.returns
  have hts := atoms_spec (ws := hC yX9_isNumber cX9_isNumber 1 (some .boolean)) B.pre
  have hown : s.vm.findClass RX9 = some m.cls := findClass_of_methodNamed B.named
  have hlocks := B.notSynchronized
  have hl := lv_entry ([.int x]) (n := 1) (Nat.le_of_ble_eq_true rfl)
  rw [lg_entry_eq]
  generalize (lg_sl ([.int x]) ++ List.replicate (1 - (lg_sl ([.int x])).length) Slot.unset).toArray = ls at hl ⊢
  have hl : lv_has ls 1 [(0, .int x)] := hl
  refine lv_iload_n hx hb dX9_isNumber_0 rfl (lv_at hl 0 rfl) ?_
  refine lv_if_lt (tgt := 14) hx hb dX9_isNumber_1 (by decide) (fun c1 => ?_) (fun c1 => ?_)
  · refine lv_iconst (v := nI 0) hx hb dX9_isNumber_14 (by decide +kernel) ?_
    exact W.zret (v := nI 0) hx hb hr (by decide +kernel) (fun t ht _ => ⟨nI 0, rfl, hBool.no (hOkN_neg3 (Or.inl c1)), ht⟩) (fun _ h => by cases h) dX9_isNumber_15
  · refine lv_iload_n hx hb dX9_isNumber_4 rfl (lv_at hl 0 rfl) ?_
    refine lv_bipush (v := nI 63) hx hb dX9_isNumber_5 (by decide +kernel) ?_
    refine lv_icmp_gt (tgt := 14) hx hb dX9_isNumber_7 (by decide) (fun c2 => ?_) (fun c2 => ?_)
    · refine lv_iconst (v := nI 0) hx hb dX9_isNumber_14 (by decide +kernel) ?_
      exact W.zret (v := nI 0) hx hb hr (by decide +kernel) (fun t ht _ => ⟨nI 0, rfl, hBool.no (hOkN_neg3 (Or.inr c2)), ht⟩) (fun _ h => by cases h) dX9_isNumber_15
    · refine lv_iconst (v := nI 1) hx hb dX9_isNumber_10 (by decide +kernel) ?_
      refine lv_goto (tgt := 15) hx hb dX9_isNumber_11 (by decide) ?_
      exact W.zret (v := nI 1) hx hb hr (by decide +kernel) (fun t ht _ => ⟨nI 1, rfl, hBool.yes (hOkN_pos3 c1 c2), ht⟩) (fun _ h => by cases h) dX9_isNumber_15


set_option maxHeartbeats 4000000 in
set_option maxRecDepth 100000 in
/-- the reference: isItem -/
theorem c_X9_isItem (l : Launch) (x : Int32) : hSi l yX9_isItem cX9_isItem 1 (some .boolean) ({ frames := 0, cells := 0, slots := 0, locals := 0 }) [.int x] (fun r => hBool r (hOkN x ∨ hOkV x)) := by
  refine Met.ofW (cc := cX9_isItem) (maxL := 1) (ret := (some .boolean)) (by decide) rfl ?_
  intro p e s m args below meth c s₁ B hml hv0
  obtain ⟨rfl, -⟩ := hv0
  have hx := B.exec
  have hb := B.bytes
  have hr := B.returns
  have hts := atoms_spec (ws := hC yX9_isItem cX9_isItem 1 (some .boolean)) B.pre
  have hown : s.vm.findClass RX9 = some m.cls := findClass_of_methodNamed B.named
  have hlocks := B.notSynchronized
  have hl := lv_entry ([.int x]) (n := 1) (Nat.le_of_ble_eq_true rfl)
  rw [lg_entry_eq]
  generalize (lg_sl ([.int x]) ++ List.replicate (1 - (lg_sl ([.int x])).length) Slot.unset).toArray = ls at hl ⊢
  have hl : lv_has ls 1 [(0, .int x)] := hl
  refine lv_iload_n hx hb dX9_isItem_0 rfl (lv_at hl 0 rfl) ?_
  refine lv_bipush (v := (-8)) hx hb dX9_isItem_1 (by decide +kernel) ?_
  refine lv_icmp_lt (tgt := 16) hx hb dX9_isItem_3 (by decide) (fun c1 => ?_) (fun c1 => ?_)
  · refine lv_iconst (v := nI 0) hx hb dX9_isItem_16 (by decide +kernel) ?_
    exact W.zret (v := nI 0) hx hb hr (by decide +kernel) (fun t ht _ => ⟨nI 0, rfl, hBool.no (hOkI_neg (Or.inl c1)), ht⟩) (fun _ h => by cases h) dX9_isItem_17
  · refine lv_iload_n hx hb dX9_isItem_6 rfl (lv_at hl 0 rfl) ?_
    refine lv_bipush (v := nI 63) hx hb dX9_isItem_7 (by decide +kernel) ?_
    refine lv_icmp_gt (tgt := 16) hx hb dX9_isItem_9 (by decide) (fun c2 => ?_) (fun c2 => ?_)
    · refine lv_iconst (v := nI 0) hx hb dX9_isItem_16 (by decide +kernel) ?_
      exact W.zret (v := nI 0) hx hb hr (by decide +kernel) (fun t ht _ => ⟨nI 0, rfl, hBool.no (hOkI_neg (Or.inr c2)), ht⟩) (fun _ h => by cases h) dX9_isItem_17
    · refine lv_iconst (v := nI 1) hx hb dX9_isItem_12 (by decide +kernel) ?_
      refine lv_goto (tgt := 17) hx hb dX9_isItem_13 (by decide) ?_
      exact W.zret (v := nI 1) hx hb hr (by decide +kernel) (fun t ht _ => ⟨nI 1, rfl, hBool.yes (hOkI_pos c1 c2), ht⟩) (fun _ h => by cases h) dX9_isItem_17


set_option maxHeartbeats 4000000 in
set_option maxRecDepth 100000 in
/-- the reference: find -/
theorem c_X9_find (l : Launch) (D : va_G) (K : Nat → ClassId) (tv : Nat) (ws : va_W) (ad : Nat → Nat) (f : Nat → Nat → Int32) (ct pt md : Nat) (lz : Int64) (kp : Nat) (fd : Int32) (hrx : hRX K ad ws f ct pt md lz kp fd) (S : Nat → Nat → Nat → Prop) (hc6 : ct ≤ 640) (a b d : Nat) (ha : a < 64) (hb6 : b < 64) (hd6 : d < 64) (ta tb tc : Nat → Nat) (h1 : ∀ i, i < ct → f 1 (3 * i) = nI (ta i) ∧ f 1 (3 * i + 1) = nI (tb i) ∧ f 1 (3 * i + 2) = nI (tc i) ∧ ta i < 64 ∧ tb i < 64 ∧ tc i < 64) : hI l D (hTy K) tv yX9_find cX9_find 5 (some .int) ({ frames := 0, cells := 0, slots := 0, locals := 0 }) [.ref (ad 0), .int (nI a), .int (nI b), .int (nI d)] ws (fun r ws1 => ws = ws1 ∧ ((∃ i, i < ct ∧ r = nI i ∧ ta i = a ∧ tb i = b ∧ tc i = d) ∨ (r = (-1) ∧ ∀ i, i < ct → ¬ (ta i = a ∧ tb i = b ∧ tc i = d)))) := by
  intro sz
  refine Met.ofW (cc := cX9_find) (maxL := 5) (ret := (some .int)) (by decide) rfl ?_
  intro p e s m args below meth c s₁ B hml hv0
  obtain ⟨rfl, rfl, E, hP, hD⟩ := hentry hv0
  have hx := B.exec
  have hb := B.bytes
  have hr := B.returns
  have hts := atoms_spec (ws := hC yX9_find cX9_find 5 (some .int)) B.pre
  have hown : s.vm.findClass RX9 = some m.cls := findClass_of_methodNamed B.named
  have hlocks := B.notSynchronized
  generalize hAe : va_A ws s.heap.size = A at hD E ⊢
  have hl := lv_entry ([.ref (ad 0), .int (nI a), .int (nI b), .int (nI d)]) (n := 5) (Nat.le_of_ble_eq_true rfl)
  rw [lg_entry_eq]
  generalize (lg_sl ([.ref (ad 0), .int (nI a), .int (nI b), .int (nI d)]) ++ List.replicate (5 - (lg_sl ([.ref (ad 0), .int (nI a), .int (nI b), .int (nI d)])).length) Slot.unset).toArray = ls at hl ⊢
  have hl : lv_has ls 5 [(0, .ref (ad 0)), (1, .int (nI a)), (2, .int (nI b)), (3, .int (nI d))] := hl
  refine hat0 (fun H hHe => ?_)
  have hP : va_P D vwCl ws H := by rw [hHe]; exact hP
  have hS : va_S A s.heap H [] := by rw [hHe]; exact va_S.rf
  have g0 := hrx.1
  have g1 : ws[1]? = some (ad 1, .inl (K 0, 1920, .inl (f 1))) := hrx.2 1 (by decide) (by decide)
  refine lv_iconst (v := nI 0) hx hb dX9_find_0 (by decide +kernel) ?_
  refine lv_istore (lv' := [(4, .int (nI 0)), (0, .ref (ad 0)), (1, .int (nI a)), (2, .int (nI b)), (3, .int (nI d))]) hx hb dX9_find_1 hl (by decide) rfl (fun ls hl => ?_)
  refine hloop0 (α := Nat) 3 5 (fun i => [(4, .int (nI i)), (0, .ref (ad 0)), (1, .int (nI a)), (2, .int (nI b)), (3, .int (nI d))]) (fun i => i ≤ ct ∧ ∀ j, j < i → ¬ (ta j = a ∧ tb j = b ∧ tc j = d)) (fun i => ct - i) ?_ 0 ls ⟨Nat.zero_le _, fun j hj => absurd hj (Nat.not_lt_zero _)⟩ (lv_sub hl [0, 1, 2, 3, 4] rfl)
  rintro i ls ⟨hi, hno⟩ hl ih
  have hl : lv_has ls 5 [(4, .int (nI i)), (0, .ref (ad 0)), (1, .int (nI a)), (2, .int (nI b)), (3, .int (nI d))] := hl
  refine lv_iload hx hb dX9_find_3 (lv_at hl 0 rfl) ?_
  refine lv_aload_n hx hb dX9_find_5 rfl (lv_at hl 1 rfl) ?_
  refine va_get (v := .int (nI ct)) (C := RX9) (T := TX9) (N := 18) hx hb hts (hin_X9 hmc) hown E.1.1 hP 0 g0 rfl 1 (by decide) (hts _ (hmc _ k_570)) (fun _ h9 => h9) rfl dX9_find_6 ?_
  refine lv_icmp_ge (tgt := 64) hx hb dX9_find_9 (by decide) (fun c1 => ?_) (fun c1 => ?_)
  · have hic : i = ct := by
      rcases Nat.lt_or_ge i ct with z | z
      · exact absurd c1 (nI_ge z (by omega))
      · omega
    refine lv_iconst (v := (-1)) hx hb dX9_find_64 (by decide +kernel) ?_
    subst hAe
    exact W.iret (v := (-1)) hx hb hr (fun t ht _ => ⟨⟨(-1), ws, rfl, ⟨rfl, Or.inr ⟨rfl, fun j hj => hno j (by omega)⟩⟩, by rw [ht]; exact hP, hD⟩, hS.F ht⟩) hS.2.2 dX9_find_65
  · have hi2 : i < ct := Nat.not_le.mp (fun z => c1 (nI_le z (by omega)))
    obtain ⟨e1, e2, e3, e4, e5, e6⟩ := h1 i hi2
    refine lv_aload_n hx hb dX9_find_12 rfl (lv_at hl 1 rfl) ?_
    refine va_get (v := .ref (ad 1)) (C := RX9) (T := TX9) (N := 18) hx hb hts (hin_X9 hmc) hown E.1.1 hP 0 g0 rfl 0 (by decide) (hts _ (hmc _ k_569)) (fun _ h9 => h9) rfl dX9_find_13 ?_
    refine lv_iconst (v := nI 3) hx hb dX9_find_16 (by decide +kernel) ?_
    refine lv_iload hx hb dX9_find_17 (lv_at hl 0 rfl) ?_
    refine lv_imul hx hb dX9_find_19 ?_
    refine htopi (v := nI (3 * i)) (pk_mul _ _) ?_
    refine va_iald hx hb E.1.1 hP 1 0 g1 rfl (vp_in_nI (by omega) (by omega)) dX9_find_20 ?_
    refine htopi (v := (f 1) (3 * i)) (by rw [nI_clamp (by omega)]) ?_
    refine htopi (v := nI (ta i)) (e1) ?_
    refine lv_iload_n hx hb dX9_find_21 rfl (lv_at hl 2 rfl) ?_
    refine lv_icmp_ne (tgt := 58) hx hb dX9_find_22 (by decide) (fun c2 => ?_) (fun c2 => ?_)
    · refine lv_iinc (v := nI (i + 1)) (lv' := [(4, .int (nI (i + 1))), (0, .ref (ad 0)), (1, .int (nI a)), (2, .int (nI b)), (3, .int (nI d))]) hx hb dX9_find_58 hl (k := 0) rfl (nI_1 _) (by decide) rfl (fun ls hl => ?_)
      refine lv_goto (tgt := 3) hx hb dX9_find_61 (by decide) ?_
      exact ih (i + 1) ls ⟨by omega, fun j hj => by
          by_cases z : j = i
          · subst z; exact fun q => c2 (by rw [q.1])
          · exact hno j (by omega)⟩ (by omega) (lv_sub hl [0, 1, 2, 3, 4] rfl)
    · refine lv_aload_n hx hb dX9_find_25 rfl (lv_at hl 1 rfl) ?_
      refine va_get (v := .ref (ad 1)) (C := RX9) (T := TX9) (N := 18) hx hb hts (hin_X9 hmc) hown E.1.1 hP 0 g0 rfl 0 (by decide) (hts _ (hmc _ k_569)) (fun _ h9 => h9) rfl dX9_find_26 ?_
      refine lv_iconst (v := nI 3) hx hb dX9_find_29 (by decide +kernel) ?_
      refine lv_iload hx hb dX9_find_30 (lv_at hl 0 rfl) ?_
      refine lv_imul hx hb dX9_find_32 ?_
      refine htopi (v := nI (3 * i)) (pk_mul _ _) ?_
      refine lv_iconst (v := nI 1) hx hb dX9_find_33 (by decide +kernel) ?_
      refine lv_iadd hx hb dX9_find_34 ?_
      refine htopi (v := nI ((3 * i) + 1)) (nI_add _ _) ?_
      refine va_iald hx hb E.1.1 hP 1 0 g1 rfl (vp_in_nI (by omega) (by omega)) dX9_find_35 ?_
      refine htopi (v := (f 1) ((3 * i) + 1)) (by rw [nI_clamp (by omega)]) ?_
      refine htopi (v := nI (tb i)) (e2) ?_
      refine lv_iload_n hx hb dX9_find_36 rfl (lv_at hl 3 rfl) ?_
      refine lv_icmp_ne (tgt := 58) hx hb dX9_find_37 (by decide) (fun c3 => ?_) (fun c3 => ?_)
      · refine lv_iinc (v := nI (i + 1)) (lv' := [(4, .int (nI (i + 1))), (0, .ref (ad 0)), (1, .int (nI a)), (2, .int (nI b)), (3, .int (nI d))]) hx hb dX9_find_58 hl (k := 0) rfl (nI_1 _) (by decide) rfl (fun ls hl => ?_)
        refine lv_goto (tgt := 3) hx hb dX9_find_61 (by decide) ?_
        exact ih (i + 1) ls ⟨by omega, fun j hj => by
            by_cases z : j = i
            · subst z; exact fun q => c3 (by rw [q.2.1])
            · exact hno j (by omega)⟩ (by omega) (lv_sub hl [0, 1, 2, 3, 4] rfl)
      · refine lv_aload_n hx hb dX9_find_40 rfl (lv_at hl 1 rfl) ?_
        refine va_get (v := .ref (ad 1)) (C := RX9) (T := TX9) (N := 18) hx hb hts (hin_X9 hmc) hown E.1.1 hP 0 g0 rfl 0 (by decide) (hts _ (hmc _ k_569)) (fun _ h9 => h9) rfl dX9_find_41 ?_
        refine lv_iconst (v := nI 3) hx hb dX9_find_44 (by decide +kernel) ?_
        refine lv_iload hx hb dX9_find_45 (lv_at hl 0 rfl) ?_
        refine lv_imul hx hb dX9_find_47 ?_
        refine htopi (v := nI (3 * i)) (pk_mul _ _) ?_
        refine lv_iconst (v := nI 2) hx hb dX9_find_48 (by decide +kernel) ?_
        refine lv_iadd hx hb dX9_find_49 ?_
        refine htopi (v := nI ((3 * i) + 2)) (nI_add _ _) ?_
        refine va_iald hx hb E.1.1 hP 1 0 g1 rfl (vp_in_nI (by omega) (by omega)) dX9_find_50 ?_
        refine htopi (v := (f 1) ((3 * i) + 2)) (by rw [nI_clamp (by omega)]) ?_
        refine htopi (v := nI (tc i)) (e3) ?_
        refine lv_iload_n hx hb dX9_find_51 rfl (lv_at hl 4 rfl) ?_
        refine lv_icmp_ne (tgt := 58) hx hb dX9_find_52 (by decide) (fun c4 => ?_) (fun c4 => ?_)
        · refine lv_iinc (v := nI (i + 1)) (lv' := [(4, .int (nI (i + 1))), (0, .ref (ad 0)), (1, .int (nI a)), (2, .int (nI b)), (3, .int (nI d))]) hx hb dX9_find_58 hl (k := 0) rfl (nI_1 _) (by decide) rfl (fun ls hl => ?_)
          refine lv_goto (tgt := 3) hx hb dX9_find_61 (by decide) ?_
          exact ih (i + 1) ls ⟨by omega, fun j hj => by
              by_cases z : j = i
              · subst z; exact fun q => c4 (by rw [q.2.2])
              · exact hno j (by omega)⟩ (by omega) (lv_sub hl [0, 1, 2, 3, 4] rfl)
        · refine lv_iload hx hb dX9_find_55 (lv_at hl 0 rfl) ?_
          subst hAe
          exact W.iret (v := nI i) hx hb hr (fun t ht _ => ⟨⟨nI i, ws, rfl, ⟨rfl, Or.inl ⟨i, hi2, rfl, (nI_eq (by omega) (by omega)).mp c2, (nI_eq (by omega) (by omega)).mp c3, (nI_eq (by omega) (by omega)).mp c4⟩⟩, by rw [ht]; exact hP, hD⟩, hS.F ht⟩) hS.2.2 dX9_find_57

set_option maxHeartbeats 4000000 in
set_option maxRecDepth 100000 in
/-- the reference: insert -/
theorem c_X9_insert (l : Launch) (D : va_G) (K : Nat → ClassId) (tv : Nat) (ws : va_W) (ad : Nat → Nat) (S : Nat → Nat → Nat → Prop) (cnt np : Nat) (o : List Nat) (I : Nat → Nat → Nat) (hms : hMS K ad ws S cnt np o I) (x y z : Int32) : hI l D (hTy K) tv yX9_insert cX9_insert 4 (some .int) ({ frames := 1, cells := 0, slots := 0, locals := 60 }) [.ref (ad 0), .int x, .int y, .int z] ws (fun r ws1 => ∃ S1 c1, hInsP S cnt x y z r S1 c1 ∧ hMS K ad ws1 S1 c1 np o I) := by
  intro sz
  refine Met.ofW (cc := cX9_insert) (maxL := 4) (ret := (some .int)) (by decide) rfl ?_
  intro p e s m args below meth c s₁ B hml hv0
  obtain ⟨rfl, rfl, E, hP, hD⟩ := hentry hv0
  have hx := B.exec
  have hb := B.bytes
  have hr := B.returns
  have hts := atoms_spec (ws := hC yX9_insert cX9_insert 4 (some .int)) B.pre
  have hown : s.vm.findClass RX9 = some m.cls := findClass_of_methodNamed B.named
  have hlocks := B.notSynchronized
  generalize hAe : va_A ws s.heap.size = A at hD E ⊢
  have hl := lv_entry ([.ref (ad 0), .int x, .int y, .int z]) (n := 4) (Nat.le_of_ble_eq_true rfl)
  rw [lg_entry_eq]
  generalize (lg_sl ([.ref (ad 0), .int x, .int y, .int z]) ++ List.replicate (4 - (lg_sl ([.ref (ad 0), .int x, .int y, .int z])).length) Slot.unset).toArray = ls at hl ⊢
  have hl : lv_has ls 4 [(0, .ref (ad 0)), (1, .int x), (2, .int y), (3, .int z)] := hl
  refine hat0 (fun H hHe => ?_)
  have hP : va_P D vwCl ws H := by rw [hHe]; exact hP
  have hS : va_S A s.heap H [] := by rw [hHe]; exact va_S.rf
  obtain ⟨f, lz, kp, fd, hrx, hrb⟩ := id hms
  obtain ⟨hct, hnp, hnd, hon, hT, hIt, hO, hF⟩ := id hrb
  have g0 := hrx.1
  have g1 : ws[1]? = some (ad 1, .inl (K 0, 1920, .inl (f 1))) := hrx.2 1 (by decide) (by decide)
  refine lv_iload_n hx hb dX9_insert_0 rfl (lv_at hl 1 rfl) ?_
  refine hc_si (va_runS (As := [.int x]) (rest := []) ⟨hx, hb, hml, hown, hts⟩ (c_X9_isNumber l x) (va_cwS 1 hts (hGS hmc k_628 k_629 k_29 k_630) rfl rfl rfl (by decide +kernel) ⟨Nat.le_of_ble_eq_true rfl, Nat.le_of_ble_eq_true rfl⟩) hpre0 rfl rfl hl.1 rfl (lv_room (Nat.le_of_ble_eq_true rfl)) dX9_insert_1 ⟨(Nat.le_refl _), (Nat.le_refl _)⟩) (fun r1 b1 => ?_)
  refine lv_if_eq (tgt := 21) hx hb dX9_insert_4 (by decide) (fun c1 => ?_) (fun c1 => ?_)
  · refine lv_iconst (v := (-1)) hx hb dX9_insert_21 (by decide +kernel) ?_
    subst hAe
    exact W.iret (v := (-1)) hx hb hr (fun t ht _ => ⟨⟨(-1), ws, rfl, ⟨_, _, Or.inl ⟨fun q => b1.f c1 q.1, rfl, rfl, rfl⟩, hms⟩, by rw [ht]; exact hP, hD⟩, hS.F ht⟩) hS.2.2 dX9_insert_22
  · refine lv_iload_n hx hb dX9_insert_7 rfl (lv_at hl 2 rfl) ?_
    refine hc_si (va_runS (As := [.int y]) (rest := []) ⟨hx, hb, hml, hown, hts⟩ (c_X9_isNumber l y) (va_cwS 1 hts (hGS hmc k_628 k_629 k_29 k_630) rfl rfl rfl (by decide +kernel) ⟨Nat.le_of_ble_eq_true rfl, Nat.le_of_ble_eq_true rfl⟩) hpre0 rfl rfl hl.1 rfl (lv_room (Nat.le_of_ble_eq_true rfl)) dX9_insert_8 ⟨(Nat.le_refl _), (Nat.le_refl _)⟩) (fun r2 b2 => ?_)
    refine lv_if_eq (tgt := 21) hx hb dX9_insert_11 (by decide) (fun c2 => ?_) (fun c2 => ?_)
    · refine lv_iconst (v := (-1)) hx hb dX9_insert_21 (by decide +kernel) ?_
      subst hAe
      exact W.iret (v := (-1)) hx hb hr (fun t ht _ => ⟨⟨(-1), ws, rfl, ⟨_, _, Or.inl ⟨fun q => b2.f c2 q.2.1, rfl, rfl, rfl⟩, hms⟩, by rw [ht]; exact hP, hD⟩, hS.F ht⟩) hS.2.2 dX9_insert_22
    · refine lv_iload_n hx hb dX9_insert_14 rfl (lv_at hl 3 rfl) ?_
      refine hc_si (va_runS (As := [.int z]) (rest := []) ⟨hx, hb, hml, hown, hts⟩ (c_X9_isNumber l z) (va_cwS 1 hts (hGS hmc k_628 k_629 k_29 k_630) rfl rfl rfl (by decide +kernel) ⟨Nat.le_of_ble_eq_true rfl, Nat.le_of_ble_eq_true rfl⟩) hpre0 rfl rfl hl.1 rfl (lv_room (Nat.le_of_ble_eq_true rfl)) dX9_insert_15 ⟨(Nat.le_refl _), (Nat.le_refl _)⟩) (fun r3 b3 => ?_)
      refine lv_if_ne (tgt := 23) hx hb dX9_insert_18 (by decide) (fun c3 => ?_) (fun c3 => ?_)
      · obtain ⟨na, ha, rfl⟩ := hOkN_of (b1.t c1)
        obtain ⟨nb, hb6, rfl⟩ := hOkN_of (b2.t c2)
        obtain ⟨nc, hc6, rfl⟩ := hOkN_of (b3.t c3)
        obtain ⟨ta, tb, tc, t1, t2, t3⟩ := id hT
        refine lv_aload_n hx hb dX9_insert_23 rfl (lv_at hl 0 rfl) ?_
        refine lv_iload_n hx hb dX9_insert_24 rfl (lv_at hl 1 rfl) ?_
        refine lv_iload_n hx hb dX9_insert_25 rfl (lv_at hl 2 rfl) ?_
        refine lv_iload_n hx hb dX9_insert_26 rfl (lv_at hl 3 rfl) ?_
        refine hc_i E hD hS (va_runV (As := [.int (nI na), .int (nI nb), .int (nI nc)]) (rest := []) ⟨hx, hb, hml, hown, hts⟩ ((c_X9_find l D K tv ws ad f cnt np o.length lz kp fd hrx S hct na nb nc ha hb6 hc6 ta tb tc t1) H.size) (cwV 3 hts (hGV hmc k_631 k_633 k_4 k_29 k_634) rfl rfl rfl (by decide +kernel) ⟨Nat.le_of_ble_eq_true rfl, Nat.le_of_ble_eq_true rfl⟩) (hpreV E hP hD hS g0 rfl) rfl rfl hl.1 rfl (lv_room (Nat.le_of_ble_eq_true rfl)) dX9_insert_27 ⟨(Nat.le_refl _), (Nat.le_refl _)⟩) (fun r5 ws4 H locs hh hP hD hS => ?_)
        obtain ⟨rfl, hh⟩ := hh
        refine lv_if_lt (tgt := 35) hx hb dX9_insert_30 (by decide) (fun c4 => ?_) (fun c4 => ?_)
        · have hnS : ¬ S na nb nc := by
            rcases hh with ⟨i, hi, rfl, -⟩ | ⟨-, hno⟩
            · exact absurd c4 (nI_pos (by omega))
            · intro q
              obtain ⟨i, hi, e⟩ := (t3 _ _ _).mp q
              exact hno i hi e
          refine lv_aload_n hx hb dX9_insert_35 rfl (lv_at hl 0 rfl) ?_
          refine va_get (v := .int (nI cnt)) (C := RX9) (T := TX9) (N := 18) hx hb hts (hin_X9 hmc) hown E.1.1 hP 0 g0 rfl 1 (by decide) (hts _ (hmc _ k_570)) (fun _ h9 => h9) rfl dX9_insert_36 ?_
          refine lv_sipush (v := nI 640) hx hb dX9_insert_39 (by decide +kernel) ?_
          refine lv_icmp_ne (tgt := 48) hx hb dX9_insert_42 (by decide) (fun c5 => ?_) (fun c5 => ?_)
          · have hlt : cnt < 640 := by
              rcases Nat.lt_or_ge cnt 640 with z | z
              · exact z
              · have e : cnt = 640 := by omega
                subst e
                first | exact absurd rfl c5 | exact absurd c5 (fun q => q rfl)
            refine lv_aload_n hx hb dX9_insert_48 rfl (lv_at hl 0 rfl) ?_
            refine va_get (v := .ref (ad 1)) (C := RX9) (T := TX9) (N := 18) hx hb hts (hin_X9 hmc) hown E.1.1 hP 0 g0 rfl 0 (by decide) (hts _ (hmc _ k_569)) (fun _ h9 => h9) rfl dX9_insert_49 ?_
            refine lv_iconst (v := nI 3) hx hb dX9_insert_52 (by decide +kernel) ?_
            refine lv_aload_n hx hb dX9_insert_53 rfl (lv_at hl 0 rfl) ?_
            refine va_get (v := .int (nI cnt)) (C := RX9) (T := TX9) (N := 18) hx hb hts (hin_X9 hmc) hown E.1.1 hP 0 g0 rfl 1 (by decide) (hts _ (hmc _ k_570)) (fun _ h9 => h9) rfl dX9_insert_54 ?_
            refine lv_imul hx hb dX9_insert_57 ?_
            refine htopi (v := nI (3 * cnt)) (pk_mul _ _) ?_
            refine lv_iload_n hx hb dX9_insert_58 rfl (lv_at hl 1 rfl) ?_
            refine va_iast hx hb E.1.1 hP hD hS 1 0 g1 rfl (vp_in_nI (by omega) (by omega)) dX9_insert_59 (fun H locs hP hD hS => ?_)
            rw [nI_clamp (show (3 * cnt) < 2 ^ 31 by omega)] at hP hD
            obtain ⟨ws6, ews6⟩ : ∃ zw : va_W, zw = List.set ws 1 ((ad 1), .inl (K 0, 1920, .inl (upd (f 1) (3 * cnt) (nI na)))) := ⟨_, rfl⟩
            have hP : va_P D vwCl ws6 H := by rw [ews6]; exact hP
            have hD : va_D A ws6 := by rw [ews6]; exact hD
            have g0 := (show ws6[0]? = _ from (by rw [ews6]; exact hset_ne (by omega))).trans g0
            have g1 : ws6[1]? = some ((ad 1), .inl (K 0, 1920, .inl (upd (f 1) (3 * cnt) (nI na)))) := by rw [ews6]; exact hset_eq g1
            have hrx : hRX K ad ws6 (hup f 1 (upd (f 1) (3 * cnt) (nI na))) cnt np o.length lz kp fd := by rw [ews6]; exact hrx.arr 1 (by decide) (by decide) _
            refine lv_aload_n hx hb dX9_insert_60 rfl (lv_at hl 0 rfl) ?_
            refine va_get (v := .ref (ad 1)) (C := RX9) (T := TX9) (N := 18) hx hb hts (hin_X9 hmc) hown E.1.1 hP 0 g0 rfl 0 (by decide) (hts _ (hmc _ k_569)) (fun _ h9 => h9) rfl dX9_insert_61 ?_
            refine lv_iconst (v := nI 3) hx hb dX9_insert_64 (by decide +kernel) ?_
            refine lv_aload_n hx hb dX9_insert_65 rfl (lv_at hl 0 rfl) ?_
            refine va_get (v := .int (nI cnt)) (C := RX9) (T := TX9) (N := 18) hx hb hts (hin_X9 hmc) hown E.1.1 hP 0 g0 rfl 1 (by decide) (hts _ (hmc _ k_570)) (fun _ h9 => h9) rfl dX9_insert_66 ?_
            refine lv_imul hx hb dX9_insert_69 ?_
            refine htopi (v := nI (3 * cnt)) (pk_mul _ _) ?_
            refine lv_iconst (v := nI 1) hx hb dX9_insert_70 (by decide +kernel) ?_
            refine lv_iadd hx hb dX9_insert_71 ?_
            refine htopi (v := nI ((3 * cnt) + 1)) (nI_add _ _) ?_
            refine lv_iload_n hx hb dX9_insert_72 rfl (lv_at hl 2 rfl) ?_
            refine va_iast hx hb E.1.1 hP hD hS 1 0 g1 rfl (vp_in_nI (by omega) (by omega)) dX9_insert_73 (fun H locs hP hD hS => ?_)
            rw [nI_clamp (show ((3 * cnt) + 1) < 2 ^ 31 by omega)] at hP hD
            obtain ⟨ws7, ews7⟩ : ∃ zw : va_W, zw = List.set ws6 1 ((ad 1), .inl (K 0, 1920, .inl (upd (upd (f 1) (3 * cnt) (nI na)) ((3 * cnt) + 1) (nI nb)))) := ⟨_, rfl⟩
            have hP : va_P D vwCl ws7 H := by rw [ews7]; exact hP
            have hD : va_D A ws7 := by rw [ews7]; exact hD
            have g0 := (show ws7[0]? = _ from (by rw [ews7]; exact hset_ne (by omega))).trans g0
            have g1 : ws7[1]? = some ((ad 1), .inl (K 0, 1920, .inl (upd (upd (f 1) (3 * cnt) (nI na)) ((3 * cnt) + 1) (nI nb)))) := by rw [ews7]; exact hset_eq g1
            have hrx : hRX K ad ws7 (hup (hup f 1 (upd (f 1) (3 * cnt) (nI na))) 1 (upd (upd (f 1) (3 * cnt) (nI na)) ((3 * cnt) + 1) (nI nb))) cnt np o.length lz kp fd := by rw [ews7]; exact hrx.arr 1 (by decide) (by decide) _
            refine lv_aload_n hx hb dX9_insert_74 rfl (lv_at hl 0 rfl) ?_
            refine va_get (v := .ref (ad 1)) (C := RX9) (T := TX9) (N := 18) hx hb hts (hin_X9 hmc) hown E.1.1 hP 0 g0 rfl 0 (by decide) (hts _ (hmc _ k_569)) (fun _ h9 => h9) rfl dX9_insert_75 ?_
            refine lv_iconst (v := nI 3) hx hb dX9_insert_78 (by decide +kernel) ?_
            refine lv_aload_n hx hb dX9_insert_79 rfl (lv_at hl 0 rfl) ?_
            refine va_get (v := .int (nI cnt)) (C := RX9) (T := TX9) (N := 18) hx hb hts (hin_X9 hmc) hown E.1.1 hP 0 g0 rfl 1 (by decide) (hts _ (hmc _ k_570)) (fun _ h9 => h9) rfl dX9_insert_80 ?_
            refine lv_imul hx hb dX9_insert_83 ?_
            refine htopi (v := nI (3 * cnt)) (pk_mul _ _) ?_
            refine lv_iconst (v := nI 2) hx hb dX9_insert_84 (by decide +kernel) ?_
            refine lv_iadd hx hb dX9_insert_85 ?_
            refine htopi (v := nI ((3 * cnt) + 2)) (nI_add _ _) ?_
            refine lv_iload_n hx hb dX9_insert_86 rfl (lv_at hl 3 rfl) ?_
            refine va_iast hx hb E.1.1 hP hD hS 1 0 g1 rfl (vp_in_nI (by omega) (by omega)) dX9_insert_87 (fun H locs hP hD hS => ?_)
            rw [nI_clamp (show ((3 * cnt) + 2) < 2 ^ 31 by omega)] at hP hD
            obtain ⟨ws8, ews8⟩ : ∃ zw : va_W, zw = List.set ws7 1 ((ad 1), .inl (K 0, 1920, .inl (upd (upd (upd (f 1) (3 * cnt) (nI na)) ((3 * cnt) + 1) (nI nb)) ((3 * cnt) + 2) (nI nc)))) := ⟨_, rfl⟩
            have hP : va_P D vwCl ws8 H := by rw [ews8]; exact hP
            have hD : va_D A ws8 := by rw [ews8]; exact hD
            have g0 := (show ws8[0]? = _ from (by rw [ews8]; exact hset_ne (by omega))).trans g0
            have g1 : ws8[1]? = some ((ad 1), .inl (K 0, 1920, .inl (upd (upd (upd (f 1) (3 * cnt) (nI na)) ((3 * cnt) + 1) (nI nb)) ((3 * cnt) + 2) (nI nc)))) := by rw [ews8]; exact hset_eq g1
            have hrx : hRX K ad ws8 (hup (hup (hup f 1 (upd (f 1) (3 * cnt) (nI na))) 1 (upd (upd (f 1) (3 * cnt) (nI na)) ((3 * cnt) + 1) (nI nb))) 1 (upd (upd (upd (f 1) (3 * cnt) (nI na)) ((3 * cnt) + 1) (nI nb)) ((3 * cnt) + 2) (nI nc))) cnt np o.length lz kp fd := by rw [ews8]; exact hrx.arr 1 (by decide) (by decide) _
            refine lv_aload_n hx hb dX9_insert_88 rfl (lv_at hl 0 rfl) ?_
            refine lv_dup hx hb dX9_insert_89 rfl ?_
            refine va_get (v := .int (nI cnt)) (C := RX9) (T := TX9) (N := 18) hx hb hts (hin_X9 hmc) hown E.1.1 hP 0 g0 rfl 1 (by decide) (hts _ (hmc _ k_570)) (fun _ h9 => h9) rfl dX9_insert_90 ?_
            refine lv_iconst (v := nI 1) hx hb dX9_insert_93 (by decide +kernel) ?_
            refine lv_iadd hx hb dX9_insert_94 ?_
            refine htopi (v := nI (cnt + 1)) (nI_add _ _) ?_
            refine va_put (v := .int (nI (cnt + 1))) (ty := .int) (C := RX9) (T := TX9) (N := 18) hx hb hts (hin_X9 hmc) tyX9 tyX9_ok nmX9 hown E.1.1 hP hD hS 0 g0 rfl 1 (by decide) (hts _ (hmc _ k_570)) (fun _ h9 => h9) rfl (by decide +kernel) rfl rfl (Nat.le_of_ble_eq_true rfl) dX9_insert_95 (fun H locs hP hD hS => ?_)
            obtain ⟨ws9, ews9⟩ : ∃ zw : va_W, zw = List.set ws8 0 ((ad 0), .inr (iM, [.ref (ad 1), .int (nI (cnt + 1)), .ref (ad 2), .int (nI np), .ref (ad 3), .int (nI o.length), .ref (ad 4), .ref (ad 5), .ref (ad 6), .long lz, .ref (ad 7), .ref (ad 8), .ref (ad 9), .ref (ad 10), .int (nI kp), .int fd, .ref (ad 11), .ref (ad 12)])) := ⟨_, rfl⟩
            have hP : va_P D vwCl ws9 H := by rw [ews9]; exact hP
            have hD : va_D A ws9 := by rw [ews9]; exact hD
            have g0 : ws9[0]? = some ((ad 0), .inr (iM, [.ref (ad 1), .int (nI (cnt + 1)), .ref (ad 2), .int (nI np), .ref (ad 3), .int (nI o.length), .ref (ad 4), .ref (ad 5), .ref (ad 6), .long lz, .ref (ad 7), .ref (ad 8), .ref (ad 9), .ref (ad 10), .int (nI kp), .int fd, .ref (ad 11), .ref (ad 12)])) := by rw [ews9]; exact hset_eq g0
            have g1 := (show ws9[1]? = _ from (by rw [ews9]; exact hset_ne (by omega))).trans g1
            have hrx : hRX K ad ws9 (hup (hup (hup f 1 (upd (f 1) (3 * cnt) (nI na))) 1 (upd (upd (f 1) (3 * cnt) (nI na)) ((3 * cnt) + 1) (nI nb))) 1 (upd (upd (upd (f 1) (3 * cnt) (nI na)) ((3 * cnt) + 1) (nI nb)) ((3 * cnt) + 2) (nI nc))) (cnt + 1) np o.length lz kp fd := by rw [ews9]; exact hrx.obj
            refine lv_aload_n hx hb dX9_insert_98 rfl (lv_at hl 0 rfl) ?_
            refine lv_bipush (v := (-2)) hx hb dX9_insert_99 (by decide +kernel) ?_
            refine va_put (v := .int (-2)) (ty := .int) (C := RX9) (T := TX9) (N := 18) hx hb hts (hin_X9 hmc) tyX9 tyX9_ok nmX9 hown E.1.1 hP hD hS 0 g0 rfl 15 (by decide) (hts _ (hmc _ k_584)) (fun _ h9 => h9) rfl (by decide +kernel) rfl rfl (Nat.le_of_ble_eq_true rfl) dX9_insert_101 (fun H locs hP hD hS => ?_)
            obtain ⟨ws10, ews10⟩ : ∃ zw : va_W, zw = List.set ws9 0 ((ad 0), .inr (iM, [.ref (ad 1), .int (nI (cnt + 1)), .ref (ad 2), .int (nI np), .ref (ad 3), .int (nI o.length), .ref (ad 4), .ref (ad 5), .ref (ad 6), .long lz, .ref (ad 7), .ref (ad 8), .ref (ad 9), .ref (ad 10), .int (nI kp), .int (-2), .ref (ad 11), .ref (ad 12)])) := ⟨_, rfl⟩
            have hP : va_P D vwCl ws10 H := by rw [ews10]; exact hP
            have hD : va_D A ws10 := by rw [ews10]; exact hD
            have g0 : ws10[0]? = some ((ad 0), .inr (iM, [.ref (ad 1), .int (nI (cnt + 1)), .ref (ad 2), .int (nI np), .ref (ad 3), .int (nI o.length), .ref (ad 4), .ref (ad 5), .ref (ad 6), .long lz, .ref (ad 7), .ref (ad 8), .ref (ad 9), .ref (ad 10), .int (nI kp), .int (-2), .ref (ad 11), .ref (ad 12)])) := by rw [ews10]; exact hset_eq g0
            have g1 := (show ws10[1]? = _ from (by rw [ews10]; exact hset_ne (by omega))).trans g1
            have hrx : hRX K ad ws10 (hup (hup (hup f 1 (upd (f 1) (3 * cnt) (nI na))) 1 (upd (upd (f 1) (3 * cnt) (nI na)) ((3 * cnt) + 1) (nI nb))) 1 (upd (upd (upd (f 1) (3 * cnt) (nI na)) ((3 * cnt) + 1) (nI nb)) ((3 * cnt) + 2) (nI nc))) (cnt + 1) np o.length lz kp (-2) := by rw [ews10]; exact hrx.obj
            refine lv_iconst (v := nI 1) hx hb dX9_insert_104 (by decide +kernel) ?_
            subst hAe
            exact W.iret (v := nI 1) hx hb hr (fun t ht _ => ⟨⟨nI 1, ws10, rfl, ⟨_, _, Or.inr ⟨na, nb, nc, ha, hb6, hc6, rfl, rfl, rfl, Or.inr (Or.inr ⟨hnS, hlt, rfl, rfl, rfl⟩)⟩, ⟨_, _, _, _, hrx, ⟨hlt, hnp, hnd, hon, hT.add ha hb6 hc6 hnS, hIt, hO, ⟨Or.inl rfl, hF.2⟩⟩⟩⟩, by rw [ht]; exact hP, hD⟩, hS.F ht⟩) hS.2.2 dX9_insert_105
          · have hge : 640 ≤ cnt := by
              have e : nI cnt = nI 640 := by first | exact c5 | exact Classical.not_not.mp c5
              have := (nI_eq (by omega) (by omega)).mp e
              omega
            refine lv_bipush (v := (-3)) hx hb dX9_insert_45 (by decide +kernel) ?_
            subst hAe
            exact W.iret (v := (-3)) hx hb hr (fun t ht _ => ⟨⟨(-3), ws, rfl, ⟨_, _, Or.inr ⟨na, nb, nc, ha, hb6, hc6, rfl, rfl, rfl, Or.inr (Or.inl ⟨hnS, hge, rfl, rfl, rfl⟩)⟩, hms⟩, by rw [ht]; exact hP, hD⟩, hS.F ht⟩) hS.2.2 dX9_insert_47
        · have hS9 : S na nb nc := by
            rcases hh with ⟨i, hi, -, e⟩ | ⟨rfl, -⟩
            · exact (t3 _ _ _).mpr ⟨i, hi, e⟩
            · exact absurd (by decide +kernel) c4
          refine lv_iconst (v := nI 0) hx hb dX9_insert_33 (by decide +kernel) ?_
          subst hAe
          exact W.iret (v := nI 0) hx hb hr (fun t ht _ => ⟨⟨nI 0, ws, rfl, ⟨_, _, Or.inr ⟨na, nb, nc, ha, hb6, hc6, rfl, rfl, rfl, Or.inl ⟨hS9, rfl, rfl, rfl⟩⟩, hms⟩, by rw [ht]; exact hP, hD⟩, hS.F ht⟩) hS.2.2 dX9_insert_34
      · refine lv_iconst (v := (-1)) hx hb dX9_insert_21 (by decide +kernel) ?_
        subst hAe
        exact W.iret (v := (-1)) hx hb hr (fun t ht _ => ⟨⟨(-1), ws, rfl, ⟨_, _, Or.inl ⟨fun q => b3.f c3 q.2.2, rfl, rfl, rfl⟩, hms⟩, by rw [ht]; exact hP, hD⟩, hS.F ht⟩) hS.2.2 dX9_insert_22

set_option maxHeartbeats 4000000 in
set_option maxRecDepth 100000 in
/-- the reference: triples -/
theorem c_X9_triples (l : Launch) (D : va_G) (K : Nat → ClassId) (tv : Nat) (ws : va_W) (ad : Nat → Nat) (S : Nat → Nat → Nat → Prop) (cnt np : Nat) (o : List Nat) (I : Nat → Nat → Nat) (hms : hMS K ad ws S cnt np o I) : hI l D (hTy K) tv yX9_triples cX9_triples 1 (some .int) ({ frames := 0, cells := 0, slots := 0, locals := 0 }) [.ref (ad 0)] ws (fun r ws1 => r = nI cnt ∧ hMS K ad ws1 S cnt np o I) := by
  intro sz
  refine Met.ofW (cc := cX9_triples) (maxL := 1) (ret := (some .int)) (by decide) rfl ?_
  intro p e s m args below meth c s₁ B hml hv0
  obtain ⟨rfl, rfl, E, hP, hD⟩ := hentry hv0
  have hx := B.exec
  have hb := B.bytes
  have hr := B.returns
  have hts := atoms_spec (ws := hC yX9_triples cX9_triples 1 (some .int)) B.pre
  have hown : s.vm.findClass RX9 = some m.cls := findClass_of_methodNamed B.named
  have hlocks := B.notSynchronized
  generalize hAe : va_A ws s.heap.size = A at hD E ⊢
  have hl := lv_entry ([.ref (ad 0)]) (n := 1) (Nat.le_of_ble_eq_true rfl)
  rw [lg_entry_eq]
  generalize (lg_sl ([.ref (ad 0)]) ++ List.replicate (1 - (lg_sl ([.ref (ad 0)])).length) Slot.unset).toArray = ls at hl ⊢
  have hl : lv_has ls 1 [(0, .ref (ad 0))] := hl
  refine hat0 (fun H hHe => ?_)
  have hP : va_P D vwCl ws H := by rw [hHe]; exact hP
  have hS : va_S A s.heap H [] := by rw [hHe]; exact va_S.rf
  obtain ⟨f, lz, kp, fd, hrx, hrb⟩ := id hms
  obtain ⟨hct, hnp, hnd, hon, hT, hIt, hO, hF⟩ := id hrb
  have g0 := hrx.1
  refine lv_aload_n hx hb dX9_triples_0 rfl (lv_at hl 0 rfl) ?_
  refine va_get (v := .int (nI cnt)) (C := RX9) (T := TX9) (N := 18) hx hb hts (hin_X9 hmc) hown E.1.1 hP 0 g0 rfl 1 (by decide) (hts _ (hmc _ k_570)) (fun _ h9 => h9) rfl dX9_triples_1 ?_
  subst hAe
  exact W.iret (v := nI cnt) hx hb hr (fun t ht _ => ⟨⟨nI cnt, ws, rfl, ⟨rfl, hms⟩, by rw [ht]; exact hP, hD⟩, hS.F ht⟩) hS.2.2 dX9_triples_4

set_option maxHeartbeats 4000000 in
set_option maxRecDepth 100000 in
/-- the reference: drop -/
theorem c_X9_drop (l : Launch) (D : va_G) (K : Nat → ClassId) (tv : Nat) (ws : va_W) (ad : Nat → Nat) (S : Nat → Nat → Nat → Prop) (cnt np : Nat) (o : List Nat) (I : Nat → Nat → Nat) (hms : hMS K ad ws S cnt np o I) : hI l D (hTy K) tv yX9_drop cX9_drop 2 (some .int) ({ frames := 0, cells := 0, slots := 0, locals := 0 }) [.ref (ad 0)] ws (fun r ws1 => r = nI o.length ∧ hMS K ad ws1 S cnt np [] I) := by
  intro sz
  refine Met.ofW (cc := cX9_drop) (maxL := 2) (ret := (some .int)) (by decide) rfl ?_
  intro p e s m args below meth c s₁ B hml hv0
  obtain ⟨rfl, rfl, E, hP, hD⟩ := hentry hv0
  have hx := B.exec
  have hb := B.bytes
  have hr := B.returns
  have hts := atoms_spec (ws := hC yX9_drop cX9_drop 2 (some .int)) B.pre
  have hown : s.vm.findClass RX9 = some m.cls := findClass_of_methodNamed B.named
  have hlocks := B.notSynchronized
  generalize hAe : va_A ws s.heap.size = A at hD E ⊢
  have hl := lv_entry ([.ref (ad 0)]) (n := 2) (Nat.le_of_ble_eq_true rfl)
  rw [lg_entry_eq]
  generalize (lg_sl ([.ref (ad 0)]) ++ List.replicate (2 - (lg_sl ([.ref (ad 0)])).length) Slot.unset).toArray = ls at hl ⊢
  have hl : lv_has ls 2 [(0, .ref (ad 0))] := hl
  refine hat0 (fun H hHe => ?_)
  have hP : va_P D vwCl ws H := by rw [hHe]; exact hP
  have hS : va_S A s.heap H [] := by rw [hHe]; exact va_S.rf
  obtain ⟨f, lz, kp, fd, hrx, hrb⟩ := id hms
  obtain ⟨hct, hnp, hnd, hon, hT, hIt, hO, hF⟩ := id hrb
  have g0 := hrx.1
  refine lv_aload_n hx hb dX9_drop_0 rfl (lv_at hl 0 rfl) ?_
  refine va_get (v := .int (nI o.length)) (C := RX9) (T := TX9) (N := 18) hx hb hts (hin_X9 hmc) hown E.1.1 hP 0 g0 rfl 5 (by decide) (hts _ (hmc _ k_574)) (fun _ h9 => h9) rfl dX9_drop_1 ?_
  refine lv_istore_n (lv' := [(1, .int (nI o.length)), (0, .ref (ad 0))]) hx hb dX9_drop_4 rfl hl (by decide) rfl (fun ls hl => ?_)
  refine lv_aload_n hx hb dX9_drop_5 rfl (lv_at hl 1 rfl) ?_
  refine lv_iconst (v := nI 0) hx hb dX9_drop_6 (by decide +kernel) ?_
  refine va_put (v := .int (nI 0)) (ty := .int) (C := RX9) (T := TX9) (N := 18) hx hb hts (hin_X9 hmc) tyX9 tyX9_ok nmX9 hown E.1.1 hP hD hS 0 g0 rfl 5 (by decide) (hts _ (hmc _ k_574)) (fun _ h9 => h9) rfl (by decide +kernel) rfl rfl (Nat.le_of_ble_eq_true rfl) dX9_drop_7 (fun H locs hP hD hS => ?_)
  obtain ⟨ws1, ews1⟩ : ∃ zw : va_W, zw = List.set ws 0 ((ad 0), .inr (iM, [.ref (ad 1), .int (nI cnt), .ref (ad 2), .int (nI np), .ref (ad 3), .int (nI 0), .ref (ad 4), .ref (ad 5), .ref (ad 6), .long lz, .ref (ad 7), .ref (ad 8), .ref (ad 9), .ref (ad 10), .int (nI kp), .int fd, .ref (ad 11), .ref (ad 12)])) := ⟨_, rfl⟩
  have hP : va_P D vwCl ws1 H := by rw [ews1]; exact hP
  have hD : va_D A ws1 := by rw [ews1]; exact hD
  have g0 : ws1[0]? = some ((ad 0), .inr (iM, [.ref (ad 1), .int (nI cnt), .ref (ad 2), .int (nI np), .ref (ad 3), .int (nI 0), .ref (ad 4), .ref (ad 5), .ref (ad 6), .long lz, .ref (ad 7), .ref (ad 8), .ref (ad 9), .ref (ad 10), .int (nI kp), .int fd, .ref (ad 11), .ref (ad 12)])) := by rw [ews1]; exact hset_eq g0
  have hrx : hRX K ad ws1 f cnt np 0 lz kp fd := by rw [ews1]; exact hrx.obj
  refine lv_iload_n hx hb dX9_drop_10 rfl (lv_at hl 0 rfl) ?_
  subst hAe
  exact W.iret (v := nI o.length) hx hb hr (fun t ht _ => ⟨⟨nI o.length, ws1, rfl, ⟨rfl, ⟨_, _, _, _, hrx, ⟨hct, hnp, List.nodup_nil, fun _ h => absurd h List.not_mem_nil, hT, hIt, fun _ h => absurd h (Nat.not_lt_zero _), hF⟩⟩⟩, by rw [ht]; exact hP, hD⟩, hS.F ht⟩) hS.2.2 dX9_drop_11

set_option maxHeartbeats 4000000 in
set_option maxRecDepth 100000 in
/-- the reference: clear -/
theorem c_X9_clear (l : Launch) (D : va_G) (K : Nat → ClassId) (tv : Nat) (ws : va_W) (ad : Nat → Nat) (S : Nat → Nat → Nat → Prop) (cnt np : Nat) (o : List Nat) (I : Nat → Nat → Nat) (hms : hMS K ad ws S cnt np o I) : hI l D (hTy K) tv yX9_clear cX9_clear 2 (some .int) ({ frames := 0, cells := 0, slots := 0, locals := 0 }) [.ref (ad 0)] ws (fun r ws1 => r = nI np ∧ hMS K ad ws1 S cnt 0 [] I) := by
  intro sz
  refine Met.ofW (cc := cX9_clear) (maxL := 2) (ret := (some .int)) (by decide) rfl ?_
  intro p e s m args below meth c s₁ B hml hv0
  obtain ⟨rfl, rfl, E, hP, hD⟩ := hentry hv0
  have hx := B.exec
  have hb := B.bytes
  have hr := B.returns
  have hts := atoms_spec (ws := hC yX9_clear cX9_clear 2 (some .int)) B.pre
  have hown : s.vm.findClass RX9 = some m.cls := findClass_of_methodNamed B.named
  have hlocks := B.notSynchronized
  generalize hAe : va_A ws s.heap.size = A at hD E ⊢
  have hl := lv_entry ([.ref (ad 0)]) (n := 2) (Nat.le_of_ble_eq_true rfl)
  rw [lg_entry_eq]
  generalize (lg_sl ([.ref (ad 0)]) ++ List.replicate (2 - (lg_sl ([.ref (ad 0)])).length) Slot.unset).toArray = ls at hl ⊢
  have hl : lv_has ls 2 [(0, .ref (ad 0))] := hl
  refine hat0 (fun H hHe => ?_)
  have hP : va_P D vwCl ws H := by rw [hHe]; exact hP
  have hS : va_S A s.heap H [] := by rw [hHe]; exact va_S.rf
  obtain ⟨f, lz, kp, fd, hrx, hrb⟩ := id hms
  obtain ⟨hct, hnp, hnd, hon, hT, hIt, hO, hF⟩ := id hrb
  have g0 := hrx.1
  refine lv_aload_n hx hb dX9_clear_0 rfl (lv_at hl 0 rfl) ?_
  refine va_get (v := .int (nI np)) (C := RX9) (T := TX9) (N := 18) hx hb hts (hin_X9 hmc) hown E.1.1 hP 0 g0 rfl 3 (by decide) (hts _ (hmc _ k_572)) (fun _ h9 => h9) rfl dX9_clear_1 ?_
  refine lv_istore_n (lv' := [(1, .int (nI np)), (0, .ref (ad 0))]) hx hb dX9_clear_4 rfl hl (by decide) rfl (fun ls hl => ?_)
  refine lv_aload_n hx hb dX9_clear_5 rfl (lv_at hl 1 rfl) ?_
  refine lv_iconst (v := nI 0) hx hb dX9_clear_6 (by decide +kernel) ?_
  refine va_put (v := .int (nI 0)) (ty := .int) (C := RX9) (T := TX9) (N := 18) hx hb hts (hin_X9 hmc) tyX9 tyX9_ok nmX9 hown E.1.1 hP hD hS 0 g0 rfl 3 (by decide) (hts _ (hmc _ k_572)) (fun _ h9 => h9) rfl (by decide +kernel) rfl rfl (Nat.le_of_ble_eq_true rfl) dX9_clear_7 (fun H locs hP hD hS => ?_)
  obtain ⟨ws1, ews1⟩ : ∃ zw : va_W, zw = List.set ws 0 ((ad 0), .inr (iM, [.ref (ad 1), .int (nI cnt), .ref (ad 2), .int (nI 0), .ref (ad 3), .int (nI o.length), .ref (ad 4), .ref (ad 5), .ref (ad 6), .long lz, .ref (ad 7), .ref (ad 8), .ref (ad 9), .ref (ad 10), .int (nI kp), .int fd, .ref (ad 11), .ref (ad 12)])) := ⟨_, rfl⟩
  have hP : va_P D vwCl ws1 H := by rw [ews1]; exact hP
  have hD : va_D A ws1 := by rw [ews1]; exact hD
  have g0 : ws1[0]? = some ((ad 0), .inr (iM, [.ref (ad 1), .int (nI cnt), .ref (ad 2), .int (nI 0), .ref (ad 3), .int (nI o.length), .ref (ad 4), .ref (ad 5), .ref (ad 6), .long lz, .ref (ad 7), .ref (ad 8), .ref (ad 9), .ref (ad 10), .int (nI kp), .int fd, .ref (ad 11), .ref (ad 12)])) := by rw [ews1]; exact hset_eq g0
  have hrx : hRX K ad ws1 f cnt 0 o.length lz kp fd := by rw [ews1]; exact hrx.obj
  refine lv_aload_n hx hb dX9_clear_10 rfl (lv_at hl 1 rfl) ?_
  refine lv_iconst (v := nI 0) hx hb dX9_clear_11 (by decide +kernel) ?_
  refine va_put (v := .int (nI 0)) (ty := .int) (C := RX9) (T := TX9) (N := 18) hx hb hts (hin_X9 hmc) tyX9 tyX9_ok nmX9 hown E.1.1 hP hD hS 0 g0 rfl 5 (by decide) (hts _ (hmc _ k_574)) (fun _ h9 => h9) rfl (by decide +kernel) rfl rfl (Nat.le_of_ble_eq_true rfl) dX9_clear_12 (fun H locs hP hD hS => ?_)
  obtain ⟨ws2, ews2⟩ : ∃ zw : va_W, zw = List.set ws1 0 ((ad 0), .inr (iM, [.ref (ad 1), .int (nI cnt), .ref (ad 2), .int (nI 0), .ref (ad 3), .int (nI 0), .ref (ad 4), .ref (ad 5), .ref (ad 6), .long lz, .ref (ad 7), .ref (ad 8), .ref (ad 9), .ref (ad 10), .int (nI kp), .int fd, .ref (ad 11), .ref (ad 12)])) := ⟨_, rfl⟩
  have hP : va_P D vwCl ws2 H := by rw [ews2]; exact hP
  have hD : va_D A ws2 := by rw [ews2]; exact hD
  have g0 : ws2[0]? = some ((ad 0), .inr (iM, [.ref (ad 1), .int (nI cnt), .ref (ad 2), .int (nI 0), .ref (ad 3), .int (nI 0), .ref (ad 4), .ref (ad 5), .ref (ad 6), .long lz, .ref (ad 7), .ref (ad 8), .ref (ad 9), .ref (ad 10), .int (nI kp), .int fd, .ref (ad 11), .ref (ad 12)])) := by rw [ews2]; exact hset_eq g0
  have hrx : hRX K ad ws2 f cnt 0 0 lz kp fd := by rw [ews2]; exact hrx.obj
  refine lv_aload_n hx hb dX9_clear_15 rfl (lv_at hl 1 rfl) ?_
  refine lv_bipush (v := (-2)) hx hb dX9_clear_16 (by decide +kernel) ?_
  refine va_put (v := .int (-2)) (ty := .int) (C := RX9) (T := TX9) (N := 18) hx hb hts (hin_X9 hmc) tyX9 tyX9_ok nmX9 hown E.1.1 hP hD hS 0 g0 rfl 15 (by decide) (hts _ (hmc _ k_584)) (fun _ h9 => h9) rfl (by decide +kernel) rfl rfl (Nat.le_of_ble_eq_true rfl) dX9_clear_18 (fun H locs hP hD hS => ?_)
  obtain ⟨ws3, ews3⟩ : ∃ zw : va_W, zw = List.set ws2 0 ((ad 0), .inr (iM, [.ref (ad 1), .int (nI cnt), .ref (ad 2), .int (nI 0), .ref (ad 3), .int (nI 0), .ref (ad 4), .ref (ad 5), .ref (ad 6), .long lz, .ref (ad 7), .ref (ad 8), .ref (ad 9), .ref (ad 10), .int (nI kp), .int (-2), .ref (ad 11), .ref (ad 12)])) := ⟨_, rfl⟩
  have hP : va_P D vwCl ws3 H := by rw [ews3]; exact hP
  have hD : va_D A ws3 := by rw [ews3]; exact hD
  have g0 : ws3[0]? = some ((ad 0), .inr (iM, [.ref (ad 1), .int (nI cnt), .ref (ad 2), .int (nI 0), .ref (ad 3), .int (nI 0), .ref (ad 4), .ref (ad 5), .ref (ad 6), .long lz, .ref (ad 7), .ref (ad 8), .ref (ad 9), .ref (ad 10), .int (nI kp), .int (-2), .ref (ad 11), .ref (ad 12)])) := by rw [ews3]; exact hset_eq g0
  have hrx : hRX K ad ws3 f cnt 0 0 lz kp (-2) := by rw [ews3]; exact hrx.obj
  refine lv_iload_n hx hb dX9_clear_21 rfl (lv_at hl 0 rfl) ?_
  subst hAe
  exact W.iret (v := nI np) hx hb hr (fun t ht _ => ⟨⟨nI np, ws3, rfl, ⟨rfl, ⟨_, _, _, _, hrx, ⟨hct, Nat.zero_le _, List.nodup_nil, fun _ h => absurd h List.not_mem_nil, hT, fun _ h => absurd h (Nat.not_lt_zero _), fun _ h => absurd h (Nat.not_lt_zero _), ⟨Or.inl rfl, hF.2⟩⟩⟩⟩, by rw [ht]; exact hP, hD⟩, hS.F ht⟩) hS.2.2 dX9_clear_22

theorem hRT.del {h : Nat → Int32} {S : Nat → Nat → Nat → Prop} {cnt i a b c : Nat} {ta tb tc : Nat → Nat} (h1 : ∀ i, i < cnt → h (3 * i) = nI (ta i) ∧ h (3 * i + 1) = nI (tb i) ∧ h (3 * i + 2) = nI (tc i) ∧ ta i < 64 ∧ tb i < 64 ∧ tc i < 64) (h2 : ∀ i j, i < j → j < cnt → ¬ (ta i = ta j ∧ tb i = tb j ∧ tc i = tc j)) (h3 : ∀ a b c, S a b c ↔ ∃ i, i < cnt ∧ ta i = a ∧ tb i = b ∧ tc i = c) (hi : i < cnt) (ea : ta i = a) (eb : tb i = b) (ec : tc i = c) : hRT (upd (upd (upd h (3 * i) (h (3 * (cnt - 1)))) (3 * i + 1) (h (3 * (cnt - 1) + 1))) (3 * i + 2) (h (3 * (cnt - 1) + 2))) (hDelT S a b c) (cnt - 1) := by
  obtain ⟨l1, l2, l3, l4⟩ := h1 (cnt - 1) (by omega)
  have hd : ∀ j k, j < cnt → k < cnt → j ≠ k → ¬ (ta j = ta k ∧ tb j = tb k ∧ tc j = tc k) := fun j k hj hk hn q => by
    rcases Nat.lt_or_ge j k with z | z
    · exact h2 j k z hk q
    · exact h2 k j (by omega) hj ⟨q.1.symm, q.2.1.symm, q.2.2.symm⟩
  refine ⟨fun j => if j = i then ta (cnt - 1) else ta j, fun j => if j = i then tb (cnt - 1) else tb j, fun j => if j = i then tc (cnt - 1) else tc j, fun j hj => ?_, fun j k hjk hk => ?_, fun x y z => ?_⟩
  · dsimp only
    by_cases q : j = i
    · subst q
      rw [if_pos rfl, if_pos rfl, if_pos rfl]
      refine ⟨?_, ?_, ?_, l4⟩
      · rw [pk_un (by omega), pk_un (by omega), pk_us]; exact l1
      · rw [pk_un (by omega), pk_us]; exact l2
      · rw [pk_us]; exact l3
    · obtain ⟨e1, e2, e3, e4⟩ := h1 j (by omega)
      rw [if_neg q, if_neg q, if_neg q]
      refine ⟨?_, ?_, ?_, e4⟩
      · rw [pk_un (by omega), pk_un (by omega), pk_un (by omega)]; exact e1
      · rw [pk_un (by omega), pk_un (by omega), pk_un (by omega)]; exact e2
      · rw [pk_un (by omega), pk_un (by omega), pk_un (by omega)]; exact e3
  · dsimp only
    by_cases q : j = i
    · rw [if_pos q, if_pos q, if_pos q, if_neg (show ¬ k = i by omega), if_neg (show ¬ k = i by omega), if_neg (show ¬ k = i by omega)]
      exact hd _ _ (by omega) (by omega) (by omega)
    · rw [if_neg q, if_neg q, if_neg q]
      by_cases q2 : k = i
      · rw [if_pos q2, if_pos q2, if_pos q2]
        exact hd _ _ (by omega) (by omega) (by omega)
      · rw [if_neg q2, if_neg q2, if_neg q2]
        exact hd _ _ (by omega) (by omega) (by omega)
  · dsimp only
    constructor
    · rintro ⟨q, hn⟩
      obtain ⟨j, hj, e1, e2, e3⟩ := (h3 x y z).mp q
      have hji : j ≠ i := fun w => hn ⟨by rw [← e1, w, ea], by rw [← e2, w, eb], by rw [← e3, w, ec]⟩
      by_cases w : j = cnt - 1
      · refine ⟨i, by omega, ?_⟩
        rw [if_pos rfl, if_pos rfl, if_pos rfl, ← w]
        exact ⟨e1, e2, e3⟩
      · refine ⟨j, by omega, ?_⟩
        rw [if_neg hji, if_neg hji, if_neg hji]
        exact ⟨e1, e2, e3⟩
    · rintro ⟨j, hj, e1, e2, e3⟩
      by_cases w : j = i
      · rw [if_pos w] at e1 e2 e3
        refine ⟨(h3 x y z).mpr ⟨cnt - 1, by omega, e1, e2, e3⟩, fun v => ?_⟩
        exact hd (cnt - 1) i (by omega) hi (by omega) ⟨by rw [e1, ea, v.1], by rw [e2, eb, v.2.1], by rw [e3, ec, v.2.2]⟩
      · rw [if_neg w] at e1 e2 e3
        refine ⟨(h3 x y z).mpr ⟨j, by omega, e1, e2, e3⟩, fun v => ?_⟩
        exact hd j i (by omega) hi w ⟨by rw [e1, ea, v.1], by rw [e2, eb, v.2.1], by rw [e3, ec, v.2.2]⟩
theorem hRI.add {h : Nat → Int32} {np x0 x1 x2 : Nat} {I : Nat → Nat → Nat} (h9 : hRI h np I) (h0 : x0 < 72) (h1 : x1 < 72) (h2 : x2 < 72) : hRI (upd (upd (upd h (3 * np) (hit x0)) (3 * np + 1) (hit x1)) (3 * np + 2) (hit x2)) (np + 1) (hAI I np x0 x1 x2) := by
  intro p hp i hi
  unfold hAI
  by_cases q : p = np
  · subst q
    rw [if_pos rfl]
    rcases (show i = 0 ∨ i = 1 ∨ i = 2 by omega) with rfl | rfl | rfl
    · exact ⟨by rw [pk_un (by omega), pk_un (by omega), Nat.add_zero, pk_us]; rfl, h0⟩
    · exact ⟨by rw [pk_un (by omega), pk_us]; rfl, h1⟩
    · exact ⟨by rw [pk_us]; rfl, h2⟩
  · rw [if_neg q]
    obtain ⟨e1, e2⟩ := h9 p (by omega) i hi
    exact ⟨by rw [pk_un (by omega), pk_un (by omega), pk_un (by omega)]; exact e1, e2⟩
theorem hmem_get {o : List Nat} {x : Nat} (h : x ∈ o) : ∃ j, j < o.length ∧ o.getD j 0 = x := by
  obtain ⟨j, hj, e⟩ := List.getElem_of_mem h
  exact ⟨j, hj, by rw [List.getD_eq_getElem?_getD, List.getElem?_eq_getElem hj]; exact e⟩
theorem hO_add {h : Nat → Int32} {o : List Nat} {i : Nat} (hO : ∀ k, k < o.length → h k = nI (o.getD k 0)) : ∀ k, k < (o ++ [i]).length → upd h o.length (nI i) k = nI ((o ++ [i]).getD k 0) := fun k hk => by
  rw [List.length_append] at hk
  have hk : k < o.length + 1 := hk
  by_cases z : k = o.length
  · subst z
    rw [pk_us, hgetDr]
    rfl
  · rw [pk_un z, hgetD (by omega)]
    exact hO k (by omega)
