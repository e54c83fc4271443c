-- THE STATE BETWEEN CALLS: the triples S (cnt of them), np patterns, the order o; rows L long, spare Sp
def hXv (S : Nat → Nat → Nat → Prop) (v x : Nat) : Prop := ∃ a b c, a < 64 ∧ b < 64 ∧ c < 64 ∧ S a b c ∧ x = hvc v a b c
theorem hvc_inj {v a b c a' b' c' : Nat} (hv : v < 3) (ha : a < 64) (hb : b < 64) (hc : c < 64) (ha' : a' < 64) (hb' : b' < 64) (hc' : c' < 64) (h : hvc v a b c = hvc v a' b' c') : a = a' ∧ b = b' ∧ c = c' := by
  rcases (show v = 0 ∨ v = 1 ∨ v = 2 by omega) with rfl | rfl | rfl
  · have h : a * 2 ^ 12 + b * 2 ^ 6 + c * 2 ^ 0 = a' * 2 ^ 12 + b' * 2 ^ 6 + c' * 2 ^ 0 := h
    omega
  · have h : a * 2 ^ 0 + b * 2 ^ 12 + c * 2 ^ 6 = a' * 2 ^ 0 + b' * 2 ^ 12 + c' * 2 ^ 6 := h
    omega
  · have h : a * 2 ^ 6 + b * 2 ^ 0 + c * 2 ^ 12 = a' * 2 ^ 6 + b' * 2 ^ 0 + c' * 2 ^ 12 := h
    omega
theorem hXv_iff {S : Nat → Nat → Nat → Prop} {v a b c : Nat} (hv : v < 3) (ha : a < 64) (hb : b < 64) (hc : c < 64) : hXv S v (hvc v a b c) ↔ S a b c := by
  constructor
  · rintro ⟨a', b', c', h1, h2, h3, h4, h5⟩
    obtain ⟨rfl, rfl, rfl⟩ := hvc_inj hv ha hb hc h1 h2 h3 h5
    exact h4
  · exact fun h => ⟨a, b, c, ha, hb, hc, h, rfl⟩
def hAddT (S : Nat → Nat → Nat → Prop) (a b c : Nat) : Nat → Nat → Nat → Prop := fun x y z => S x y z ∨ (x = a ∧ y = b ∧ z = c)
def hDelT (S : Nat → Nat → Nat → Prop) (a b c : Nat) : Nat → Nat → Nat → Prop := fun x y z => S x y z ∧ ¬ (x = a ∧ y = b ∧ z = c)
theorem hVw.put {F F1 : Nat → Nat → Int32} {g : Nat → Nat → Nat} {cnt a b c : Nat} {S : Nat → Nat → Nat → Prop} (h : hVw F g cnt (hXv S)) (ha : a < 64) (hb : b < 64) (hc : c < 64) (hn : ¬ S a b c) (hlt : cnt < 640) (hF : ∀ v, v < 3 → ∀ i, i < cnt + 1 → F1 v i = nI (hIns (g v) (hlbf (g v) cnt (hvc v a b c)) (hvc v a b c) i)) : hVw F1 (fun v => hIns (g v) (hlbf (g v) cnt (hvc v a b c)) (hvc v a b c)) (cnt + 1) (hXv (hAddT S a b c)) := by
  refine ⟨by omega, fun v hv => ?_⟩
  obtain ⟨-, hs⟩ := h.2 v hv
  have hs2 := hs.ins (hs.lb (hvc v a b c)) (fun q => hn ((hXv_iff hv ha hb hc).mp q))
  refine ⟨fun i hi => ⟨hF v hv i hi, ?_⟩, hs2.1, fun x => ?_⟩
  · show hIns (g v) (hlbf (g v) cnt (hvc v a b c)) (hvc v a b c) i < 262144
    rcases (hs2.2 _).mpr ⟨i, hi, rfl⟩ with ⟨p, q, r, h1, h2, h3, -, h5⟩ | q
    · rw [h5]; exact hvc_lt hv h1 h2 h3
    · rw [q]; exact hvc_lt hv ha hb hc
  · rw [← hs2.2 x]
    constructor
    · rintro ⟨p, q, r, h1, h2, h3, h4 | ⟨rfl, rfl, rfl⟩, h5⟩
      · exact Or.inl ⟨p, q, r, h1, h2, h3, h4, h5⟩
      · exact Or.inr h5
    · rintro (⟨p, q, r, h1, h2, h3, h4, h5⟩ | q)
      · exact ⟨p, q, r, h1, h2, h3, Or.inl h4, h5⟩
      · exact ⟨a, b, c, ha, hb, hc, Or.inr ⟨rfl, rfl, rfl⟩, q⟩
theorem hVw.take {F F1 : Nat → Nat → Int32} {g : Nat → Nat → Nat} {cnt a b c : Nat} {S : Nat → Nat → Nat → Prop} (h : hVw F g cnt (hXv S)) (ha : a < 64) (hb : b < 64) (hc : c < 64) (hn : S a b c) (hF : ∀ v, v < 3 → ∀ i, i < cnt - 1 → F1 v i = nI (hDel (g v) (hlbf (g v) cnt (hvc v a b c)) i)) : hVw F1 (fun v => hDel (g v) (hlbf (g v) cnt (hvc v a b c))) (cnt - 1) (hXv (hDelT S a b c)) := by
  refine ⟨by have := h.1; omega, fun v hv => ?_⟩
  obtain ⟨-, hs⟩ := h.2 v hv
  obtain ⟨hk, hg⟩ := (hs.has (hs.lb (hvc v a b c))).mp ((hXv_iff hv ha hb hc).mpr hn)
  have hs2 := hs.del hk hg
  refine ⟨fun i hi => ⟨hF v hv i hi, ?_⟩, hs2.1, fun x => ?_⟩
  · show hDel (g v) (hlbf (g v) cnt (hvc v a b c)) i < 262144
    obtain ⟨⟨p, q, r, h1, h2, h3, -, h5⟩, -⟩ := (hs2.2 _).mpr ⟨i, hi, rfl⟩
    rw [h5]; exact hvc_lt hv h1 h2 h3
  · rw [← hs2.2 x]
    constructor
    · rintro ⟨p, q, r, h1, h2, h3, ⟨h4, h6⟩, h5⟩
      exact ⟨⟨p, q, r, h1, h2, h3, h4, h5⟩, fun z => h6 (by rw [h5] at z; exact hvc_inj hv h1 h2 h3 ha hb hc z)⟩
    · rintro ⟨⟨p, q, r, h1, h2, h3, h4, h5⟩, z⟩
      exact ⟨p, q, r, h1, h2, h3, ⟨h4, fun y => z (by rw [h5, y.1, y.2.1, y.2.2])⟩, h5⟩
/-- what the cells hold -/
def hCX (K : Nat → ClassId) (ad : Nat → Nat) (ws : va_W) (F : Nat → Nat → Int32) (cnt : Nat) (I dd : Nat → Nat → Nat) (mm : Nat → Nat) (np ms : Nat) (o : List Nat) (lc rd : Nat) (ob : List Nat) (fd : Int32) (ln tt co b ra sa sc L Sp : Nat) : Prop :=
  ws[0]? = some (hJc ad fd) ∧ hTr K ad ws F cnt ∧ hPl K ad ws np ms ∧ hPs K ad ws I dd mm ∧ hOrd K ad ws 26 o ∧ ws[28]? = some (hNc ad lc rd) ∧ hOrd K ad ws 29 [] ∧ hOrd K ad ws 31 ob ∧ ws[33]? = some (hKc ad ln tt co) ∧ (∃ fq : Nat → Option Nat, ws[34]? = some (ad 34, .inl (K 4, 6, .inr (.inr (.inr (.inr fq))))) ∧ ∀ i, i < 6 → fq i = some (ad (38 + 4 * i))) ∧ (∀ i, i < 6 → ∃ fl It sh nk fx ob1, hStp K ad ws (38 + 4 * i) fl It sh nk fx ob1) ∧ hSol K ad ws b ra sa L Sp sc
/-- what is bounded -/
def hCB (F : Nat → Nat → Int32) (g : Nat → Nat → Nat) (S : Nat → Nat → Nat → Prop) (cnt : Nat) (I dd : Nat → Nat → Nat) (mm : Nat → Nat) (np ms : Nat) (o : List Nat) (rd : Nat) (ob : List Nat) (fd : Int32) (b sc L Sp : Nat) : Prop :=
  (fd = (-4) ∨ fd = (-2) ∨ ∃ n, fd = nI n ∧ n ≤ L) ∧ hVw F g cnt (hXv S) ∧ np ≤ 6 ∧ (ms = 0 ∨ ms = 1) ∧ (∀ i, i < 6 → (∀ q, q < 3 → dd i q ≤ 127 ∧ I i q < 72) ∧ mm i ≤ 640) ∧ o.Nodup ∧ (∀ x, x ∈ o → x < np) ∧ (rd = 0 ∨ (rd = 1 ∧ ob.length = np)) ∧ b ≤ 1 ∧ hLv L ∧ hLv Sp ∧ Sp ≤ L ∧ sc ≤ L
def hCS (K : Nat → ClassId) (ad : Nat → Nat) (ws : va_W) (S : Nat → Nat → Nat → Prop) (cnt np : Nat) (o : List Nat) (L Sp : Nat) : Prop :=
  ∃ (F : Nat → Nat → Int32) (g I dd : Nat → Nat → Nat) (mm : Nat → Nat) (ms lc rd : Nat) (ob : List Nat) (fd : Int32) (ln tt co b ra sa sc : Nat), hCX K ad ws F cnt I dd mm np ms o lc rd ob fd ln tt co b ra sa sc L Sp ∧ hCB F g S cnt I dd mm np ms o rd ob fd b sc L Sp
/-- what each call answers, and what it leaves -/
abbrev hOk3 (x y z : Int32) : Prop := hOkN x ∧ hOkN y ∧ hOkN z
abbrev hOkI (x : Int32) : Prop := hOkN x ∨ hOkV x
def hInsP (S : Nat → Nat → Nat → Prop) (cnt : Nat) (x y z r : Int32) (S1 : Nat → Nat → Nat → Prop) (c1 : Nat) : Prop :=
  (¬ hOk3 x y z ∧ r = (-1) ∧ S1 = S ∧ c1 = cnt) ∨ ∃ a b c, a < 64 ∧ b < 64 ∧ c < 64 ∧ x = nI a ∧ y = nI b ∧ z = nI c ∧ ((S a b c ∧ r = nI 0 ∧ S1 = S ∧ c1 = cnt) ∨ (¬ S a b c ∧ 640 ≤ cnt ∧ r = (-3) ∧ S1 = S ∧ c1 = cnt) ∨ (¬ S a b c ∧ cnt < 640 ∧ r = nI 1 ∧ S1 = hAddT S a b c ∧ c1 = cnt + 1))
def hRemP (S : Nat → Nat → Nat → Prop) (cnt : Nat) (x y z r : Int32) (S1 : Nat → Nat → Nat → Prop) (c1 : Nat) : Prop :=
  (¬ hOk3 x y z ∧ r = (-1) ∧ S1 = S ∧ c1 = cnt) ∨ ∃ a b c, a < 64 ∧ b < 64 ∧ c < 64 ∧ x = nI a ∧ y = nI b ∧ z = nI c ∧ ((¬ S a b c ∧ r = nI 0 ∧ S1 = S ∧ c1 = cnt) ∨ (S a b c ∧ r = nI 1 ∧ S1 = hDelT S a b c ∧ c1 = cnt - 1))
def hPatP (np : Nat) (o : List Nat) (x y z r : Int32) (n1 : Nat) (o1 : List Nat) : Prop :=
  (¬ (hOkI x ∧ hOkI y ∧ hOkI z) ∧ r = (-1) ∧ n1 = np ∧ o1 = o) ∨ ((hOkI x ∧ hOkI y ∧ hOkI z) ∧ ((6 ≤ np ∧ r = (-3) ∧ n1 = np ∧ o1 = o) ∨ (np < 6 ∧ r = nI np ∧ n1 = np + 1 ∧ o1 = [])))
def hUseP (np : Nat) (o : List Nat) (x r : Int32) (o1 : List Nat) : Prop :=
  (¬ (∃ i, i < np ∧ x = nI i ∧ i ∉ o) ∧ r = (-1) ∧ o1 = o) ∨ ∃ i, i < np ∧ x = nI i ∧ i ∉ o ∧ r = nI (o.length + 1) ∧ o1 = o ++ [i]
