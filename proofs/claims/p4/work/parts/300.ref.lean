abbrev hRc (ad : Nat → Nat) (ct pt md : Nat) (lz : Int64) (kp : Nat) (fd : Int32) : Nat × va_E := (ad 0, .inr (iM, [.ref (ad 1), .int (nI ct), .ref (ad 2), .int (nI pt), .ref (ad 3), .int (nI md), .ref (ad 4), .ref (ad 5), .ref (ad 6), .long lz, .ref (ad 7), .ref (ad 8), .ref (ad 9), .ref (ad 10), .int (nI kp), .int fd, .ref (ad 11), .ref (ad 12)]))
-- THE REFERENCE: one object (name 0), twelve arrays (names 1 .. 12); f k is what array k holds
def hRl : Nat → Nat := fun k => match k with | 1 => 1920 | 2 => 18 | 3 => 6 | 4 => 1536 | 5 => 6 | 6 => 6 | 7 => 9 | 8 => 9 | 9 => 6 | 10 => 160000 | _ => 20000
def hRX (K : Nat → ClassId) (ad : Nat → Nat) (ws : va_W) (f : Nat → Nat → Int32) (ct pt md : Nat) (lz : Int64) (kp : Nat) (fd : Int32) : Prop := ws[0]? = some (hRc ad ct pt md lz kp fd) ∧ ∀ k, 1 ≤ k → k ≤ 12 → ws[k]? = some (ad k, .inl (K 0, hRl k, .inl (f k)))
def hup (f : Nat → Nat → Int32) (k : Nat) (h : Nat → Int32) : Nat → Nat → Int32 := fun j => if j = k then h else f j
theorem hRX.obj {K : Nat → ClassId} {ad : Nat → Nat} {ws : va_W} {f : Nat → Nat → Int32} {ct pt md kp ct' pt' md' kp' : Nat} {lz lz' : Int64} {fd fd' : Int32} (h : hRX K ad ws f ct pt md lz kp fd) : hRX K ad (List.set ws 0 (hRc ad ct' pt' md' lz' kp' fd')) f ct' pt' md' lz' kp' fd' := ⟨hset_eq h.1, fun k h1 h2 => (hset_ne (by omega)).trans (h.2 k h1 h2)⟩
theorem hRX.arr {K : Nat → ClassId} {ad : Nat → Nat} {ws : va_W} {f : Nat → Nat → Int32} {ct pt md kp : Nat} {lz : Int64} {fd : Int32} (h : hRX K ad ws f ct pt md lz kp fd) (k : Nat) (h1 : 1 ≤ k) (h2 : k ≤ 12) (g : Nat → Int32) : hRX K ad (List.set ws k (ad k, .inl (K 0, hRl k, .inl g))) (hup f k g) ct pt md lz kp fd := by
  refine ⟨(hset_ne (by omega)).trans h.1, fun j j1 j2 => ?_⟩
  by_cases z : j = k
  · subst z
    rw [hset_eq (h.2 j j1 j2)]
    rw [show hup f j g j = g from if_pos rfl]
  · rw [hset_ne (fun q => z q.symm), h.2 j j1 j2]
    rw [show hup f k g j = f j from if_neg z]
/-- the triples of the reference -/
def hRT (h : Nat → Int32) (S : Nat → Nat → Nat → Prop) (cnt : Nat) : Prop := ∃ ta tb tc : Nat → Nat, (∀ i, i < cnt → h (3 * i) = nI (ta i) ∧ h (3 * i + 1) = nI (tb i) ∧ h (3 * i + 2) = nI (tc i) ∧ ta i < 64 ∧ tb i < 64 ∧ tc i < 64) ∧ (∀ i j, i < j → j < cnt → ¬ (ta i = ta j ∧ tb i = tb j ∧ tc i = tc j)) ∧ ∀ a b c, S a b c ↔ ∃ i, i < cnt ∧ ta i = a ∧ tb i = b ∧ tc i = c
def hRI (h : Nat → Int32) (np : Nat) : Prop := ∃ I : Nat → Nat → Nat, ∀ p, p < np → ∀ i, i < 3 → h (3 * p + i) = hit (I p i) ∧ I p i < 72
def hIx (h : Nat → Int32) : Prop := ∀ i, i < 20000 → ∃ m, m < 20000 ∧ h i = nI m
def hRF (f : Nat → Nat → Int32) (fd : Int32) : Prop := (fd = (-2) ∨ ∃ n, fd = nI n ∧ n ≤ 20000) ∧ hIx (f 11) ∧ hIx (f 12)
def hRB (f : Nat → Nat → Int32) (S : Nat → Nat → Nat → Prop) (cnt np : Nat) (o : List Nat) (fd : Int32) : Prop := cnt ≤ 640 ∧ np ≤ 6 ∧ o.Nodup ∧ (∀ x, x ∈ o → x < np) ∧ hRT (f 1) S cnt ∧ hRI (f 2) np ∧ (∀ k, k < o.length → f 3 k = nI (o.getD k 0)) ∧ hRF f fd
def hMS (K : Nat → ClassId) (ad : Nat → Nat) (ws : va_W) (S : Nat → Nat → Nat → Prop) (cnt np : Nat) (o : List Nat) : Prop := ∃ (f : Nat → Nat → Int32) (lz : Int64) (kp : Nat) (fd : Int32), hRX K ad ws f cnt np o.length lz kp fd ∧ hRB f S cnt np o fd
theorem hRB.frm {f g : Nat → Nat → Int32} {S : Nat → Nat → Nat → Prop} {cnt np : Nat} {o : List Nat} {fd : Int32} (h : hRB f S cnt np o fd) (h1 : g 1 = f 1) (h2 : g 2 = f 2) (h3 : g 3 = f 3) (h11 : g 11 = f 11) (h12 : g 12 = f 12) : hRB g S cnt np o fd := by
  unfold hRB hRF
  rw [h1, h2, h3, h11, h12]
  exact h
theorem hRT.add {h : Nat → Int32} {S : Nat → Nat → Nat → Prop} {cnt a b c : Nat} (hT : hRT h S cnt) (ha : a < 64) (hb : b < 64) (hc : c < 64) (hn : ¬ S a b c) : hRT (upd (upd (upd h (3 * cnt) (nI a)) (3 * cnt + 1) (nI b)) (3 * cnt + 2) (nI c)) (hAddT S a b c) (cnt + 1) := by
  obtain ⟨ta, tb, tc, h1, h2, h3⟩ := hT
  refine ⟨fun i => if i = cnt then a else ta i, fun i => if i = cnt then b else tb i, fun i => if i = cnt then c else tc i, fun i hi => ?_, fun i j hij hj => ?_, fun x y z => ?_⟩
  · dsimp only
    by_cases q : i = cnt
    · subst q
      rw [if_pos rfl, if_pos rfl, if_pos rfl]
      refine ⟨?_, ?_, ?_, ha, hb, hc⟩
      · rw [pk_un (by omega), pk_un (by omega), pk_us]
      · rw [pk_un (by omega), pk_us]
      · rw [pk_us]
    · obtain ⟨e1, e2, e3, e4⟩ := h1 i (by omega)
      rw [if_neg q, if_neg q, if_neg q]
      refine ⟨?_, ?_, ?_, e4⟩
      · rw [pk_un (by omega), pk_un (by omega), pk_un (by omega)]; exact e1
      · rw [pk_un (by omega), pk_un (by omega), pk_un (by omega)]; exact e2
      · rw [pk_un (by omega), pk_un (by omega), pk_un (by omega)]; exact e3
  · dsimp only
    rw [if_neg (show ¬ i = cnt by omega), if_neg (show ¬ i = cnt by omega), if_neg (show ¬ i = cnt by omega)]
    by_cases q : j = cnt
    · rw [if_pos q, if_pos q, if_pos q]
      exact fun z => hn ((h3 a b c).mpr ⟨i, by omega, z⟩)
    · rw [if_neg q, if_neg q, if_neg q]
      exact h2 i j hij (by omega)
  · dsimp only
    constructor
    · rintro (q | ⟨rfl, rfl, rfl⟩)
      · obtain ⟨i, hi, e⟩ := (h3 x y z).mp q
        refine ⟨i, by omega, ?_⟩
        rw [if_neg (show ¬ i = cnt by omega), if_neg (show ¬ i = cnt by omega), if_neg (show ¬ i = cnt by omega)]
        exact e
      · exact ⟨cnt, by omega, if_pos rfl, if_pos rfl, if_pos rfl⟩
    · rintro ⟨i, hi, e1, e2, e3⟩
      by_cases q : i = cnt
      · rw [if_pos q] at e1 e2 e3
        exact Or.inr ⟨e1.symm, e2.symm, e3.symm⟩
      · rw [if_neg q] at e1 e2 e3
        exact Or.inl ((h3 x y z).mpr ⟨i, by omega, e1, e2, e3⟩)
theorem hI63 : (nI 63).toInt = 63 := by decide +kernel
theorem hOkN_neg3 {x : Int32} (h : x < 0 ∨ nI 63 < x) : ¬ hOkN x := by
  rw [Int32.lt_iff_toInt_lt, Int32.lt_iff_toInt_lt, hI63, Int32.toInt_zero] at h
  intro q
  have := q.1
  have := q.2
  omega
theorem hOkN_pos3 {x : Int32} (h1 : ¬ x < 0) (h2 : ¬ nI 63 < x) : hOkN x := by
  rw [Int32.lt_iff_toInt_lt, Int32.toInt_zero] at h1
  rw [Int32.lt_iff_toInt_lt, hI63] at h2
  exact ⟨by omega, by omega⟩
theorem hOkI_neg {x : Int32} (h : x < (-8) ∨ nI 63 < x) : ¬ (hOkN x ∨ hOkV x) := by
  rw [Int32.lt_iff_toInt_lt, Int32.lt_iff_toInt_lt, hI63, hIm8] at h
  rintro (q | q) <;> (have := q.1; have := q.2; omega)
theorem hOkI_pos {x : Int32} (h1 : ¬ x < (-8)) (h2 : ¬ nI 63 < x) : hOkN x ∨ hOkV x := by
  rw [Int32.lt_iff_toInt_lt, hIm8] at h1
  rw [Int32.lt_iff_toInt_lt, hI63] at h2
  by_cases q : 0 ≤ x.toInt
  · exact Or.inl ⟨by omega, by omega⟩
  · exact Or.inr ⟨by omega, by omega⟩
theorem hk00 {k : Int32} (h1 : ¬ k < 0) (h2 : ¬ nI 0 ≤ k) : False := by
  rw [Int32.lt_iff_toInt_lt, Int32.toInt_zero] at h1
  rw [Int32.le_iff_toInt_le, nI_toInt (by decide)] at h2
  omega
theorem hIm2 : (-2 : Int32).toInt = -2 := by decide +kernel
theorem hk2 {k : Int32} (h1 : ¬ k < 0) (h2 : ¬ (-2) ≤ k) : False := by
  rw [Int32.lt_iff_toInt_lt, Int32.toInt_zero] at h1
  rw [Int32.le_iff_toInt_le, hIm2] at h2
  omega
theorem hupd0 {f : Nat → Int32} (i : Nat) (h : f 0 = 0) : upd f i (nI 0) 0 = 0 := by
  by_cases z : 0 = i
  · subst z; rw [pk_us]; rfl
  · rw [pk_un z]; exact h
theorem hupdA {f : Nat → Int32} (i : Nat) (h : ∀ j, f j = 0) : ∀ j, upd f i (nI 0) j = 0 := fun j => by
  by_cases z : j = i
  · subst z; rw [pk_us]; rfl
  · rw [pk_un z]; exact h j
