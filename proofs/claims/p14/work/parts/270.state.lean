-- THE STATE BETWEEN CALLS: the triples S (cnt of them), np patterns, the order o; rows L long, spare Sp
def hAddT (S : Nat → Nat → Nat → Prop) (a b c : Nat) : Nat → Nat → Nat → Prop := fun x y z => S x y z ∨ (x = a ∧ y = b ∧ z = c)
def hDelT (S : Nat → Nat → Nat → Prop) (a b c : Nat) : Nat → Nat → Nat → Prop := fun x y z => S x y z ∧ ¬ (x = a ∧ y = b ∧ z = c)
theorem hVw.put {F F1 : Nat → Nat → Int32} {g : Nat → Nat → Nat} {cnt a b c : Nat} {S : Nat → Nat → Nat → Prop} (h : hVw F g cnt (hXv S)) (ha : a < 64) (hb : b < 64) (hc : c < 64) (hn : ¬ S a b c) (hlt : cnt < 640) (hF : ∀ v, v < 3 → ∀ i, i < cnt + 1 → F1 v i = nI (hIns (g v) (hlbf (g v) cnt (hvc v a b c)) (hvc v a b c) i)) : hVw F1 (fun v => hIns (g v) (hlbf (g v) cnt (hvc v a b c)) (hvc v a b c)) (cnt + 1) (hXv (hAddT S a b c)) := by
  refine ⟨by omega, fun v hv => ?_⟩
  obtain ⟨-, hs⟩ := h.2 v hv
  have hs2 := hs.ins (hs.lb (hvc v a b c)) (fun q => hn ((hXv_iff hv ha hb hc).mp q))
  refine ⟨fun i hi => ⟨hF v hv i hi, ?_⟩, hs2.1, fun x => ?_⟩
  · show hIns (g v) (hlbf (g v) cnt (hvc v a b c)) (hvc v a b c) i < 262144
    rcases (hs2.2 _).mpr ⟨i, hi, rfl⟩ with ⟨p, q, r, h1, h2, h3, -, h5⟩ | q
    · rw [h5]; exact hvc_lt hv h1 h2 h3
    · rw [q]; exact hvc_lt hv ha hb hc
  · rw [← hs2.2 x]
    constructor
    · rintro ⟨p, q, r, h1, h2, h3, h4 | ⟨rfl, rfl, rfl⟩, h5⟩
      · exact Or.inl ⟨p, q, r, h1, h2, h3, h4, h5⟩
      · exact Or.inr h5
    · rintro (⟨p, q, r, h1, h2, h3, h4, h5⟩ | q)
      · exact ⟨p, q, r, h1, h2, h3, Or.inl h4, h5⟩
      · exact ⟨a, b, c, ha, hb, hc, Or.inr ⟨rfl, rfl, rfl⟩, q⟩
theorem hVw.take {F F1 : Nat → Nat → Int32} {g : Nat → Nat → Nat} {cnt a b c : Nat} {S : Nat → Nat → Nat → Prop} (h : hVw F g cnt (hXv S)) (ha : a < 64) (hb : b < 64) (hc : c < 64) (hn : S a b c) (hF : ∀ v, v < 3 → ∀ i, i < cnt - 1 → F1 v i = nI (hDel (g v) (hlbf (g v) cnt (hvc v a b c)) i)) : hVw F1 (fun v => hDel (g v) (hlbf (g v) cnt (hvc v a b c))) (cnt - 1) (hXv (hDelT S a b c)) := by
  refine ⟨by have := h.1; omega, fun v hv => ?_⟩
  obtain ⟨-, hs⟩ := h.2 v hv
  obtain ⟨hk, hg⟩ := (hs.has (hs.lb (hvc v a b c))).mp ((hXv_iff hv ha hb hc).mpr hn)
  have hs2 := hs.del hk hg
  refine ⟨fun i hi => ⟨hF v hv i hi, ?_⟩, hs2.1, fun x => ?_⟩
  · show hDel (g v) (hlbf (g v) cnt (hvc v a b c)) i < 262144
    obtain ⟨⟨p, q, r, h1, h2, h3, -, h5⟩, -⟩ := (hs2.2 _).mpr ⟨i, hi, rfl⟩
    rw [h5]; exact hvc_lt hv h1 h2 h3
  · rw [← hs2.2 x]
    constructor
    · rintro ⟨p, q, r, h1, h2, h3, ⟨h4, h6⟩, h5⟩
      exact ⟨⟨p, q, r, h1, h2, h3, h4, h5⟩, fun z => h6 (by rw [h5] at z; exact hvc_inj hv h1 h2 h3 ha hb hc z)⟩
    · rintro ⟨⟨p, q, r, h1, h2, h3, h4, h5⟩, z⟩
      exact ⟨p, q, r, h1, h2, h3, ⟨h4, fun y => z (by rw [h5, y.1, y.2.1, y.2.2])⟩, h5⟩
/-- what the cells hold -/
def hCX (K : Nat → ClassId) (ad : Nat → Nat) (ws : va_W) (F : Nat → Nat → Int32) (cnt : Nat) (I dd : Nat → Nat → Nat) (mm : Nat → Nat) (np ms : Nat) (o : List Nat) (lc rd : Nat) (ob : List Nat) (fd : Int32) (ln tt co b ra sa sc L Sp : Nat) : Prop :=
  ws[0]? = some (hJc ad fd) ∧ hTr K ad ws F cnt ∧ hPl K ad ws np ms ∧ hPs K ad ws I dd mm ∧ hOrd K ad ws 26 o ∧ ws[28]? = some (hNc ad lc rd) ∧ hOrd K ad ws 29 [] ∧ hOrd K ad ws 31 ob ∧ ws[33]? = some (hKc ad ln tt co) ∧ (∃ fq : Nat → Option Nat, ws[34]? = some (ad 34, .inl (K 4, 6, .inr (.inr (.inr (.inr fq))))) ∧ ∀ i, i < 6 → fq i = some (ad (38 + 4 * i))) ∧ (∀ i, i < 6 → ∃ fl It sh nk fx ob1, hStp K ad ws (38 + 4 * i) fl It sh nk fx ob1) ∧ hSol K ad ws b ra sa L Sp sc
/-- what is bounded -/
def hCB (F : Nat → Nat → Int32) (g : Nat → Nat → Nat) (S : Nat → Nat → Nat → Prop) (cnt : Nat) (I dd : Nat → Nat → Nat) (mm : Nat → Nat) (np ms : Nat) (o : List Nat) (rd : Nat) (ob : List Nat) (fd : Int32) (b sc L Sp : Nat) : Prop :=
  (fd = (-4) ∨ fd = (-2) ∨ ∃ n, fd = nI n ∧ n ≤ L) ∧ hVw F g cnt (hXv S) ∧ np ≤ 6 ∧ (ms = 0 ∨ ms = 1) ∧ (∀ i, i < 6 → (∀ q, q < 3 → dd i q ≤ 127 ∧ I i q < 72) ∧ mm i ≤ 640) ∧ o.Nodup ∧ (∀ x, x ∈ o → x < np) ∧ (rd = 0 ∨ (rd = 1 ∧ ob.length = np)) ∧ b ≤ 1 ∧ hLv L ∧ hLv Sp ∧ Sp ≤ L ∧ sc ≤ L
/-- what was counted, what was planned, what was found, as far as it is kept -/
def hCZ (S : Nat → Nat → Nat → Prop) (I dd : Nat → Nat → Nat) (mm : Nat → Nat) (np ms lc rd : Nat) (ob : List Nat) (fd : Int32) : Prop :=
  (ms = 1 → ∀ i, i < np → mm i = hNN S (I i) ∧ ∀ q, q < 3 → dd i q = hNd S (I i) q) ∧ (rd = 1 → hBst (hCs S I np) np (hLf9 ob) ∧ ob.length = np ∧ lc = hCs S I np (hLf9 ob)) ∧ (fd = (-4) ∨ hSolP S I np fd)
def hCS (K : Nat → ClassId) (ad : Nat → Nat) (ws : va_W) (S : Nat → Nat → Nat → Prop) (cnt np : Nat) (o : List Nat) (I : Nat → Nat → Nat) (L Sp : Nat) : Prop :=
  ∃ (F : Nat → Nat → Int32) (g dd : Nat → Nat → Nat) (mm : Nat → Nat) (ms lc rd : Nat) (ob : List Nat) (fd : Int32) (ln tt co b ra sa sc : Nat), hCX K ad ws F cnt I dd mm np ms o lc rd ob fd ln tt co b ra sa sc L Sp ∧ hCB F g S cnt I dd mm np ms o rd ob fd b sc L Sp ∧ hCZ S I dd mm np ms lc rd ob fd
/-- one pattern more -/
def hAI (I : Nat → Nat → Nat) (np x0 x1 x2 : Nat) : Nat → Nat → Nat := fun i => if i = np then (fun p => if p = 0 then x0 else if p = 1 then x1 else x2) else I i
/-- what each call answers, and what it leaves -/
abbrev hOk3 (x y z : Int32) : Prop := hOkN x ∧ hOkN y ∧ hOkN z
abbrev hOkI (x : Int32) : Prop := hOkN x ∨ hOkV x
def hInsP (S : Nat → Nat → Nat → Prop) (cnt : Nat) (x y z r : Int32) (S1 : Nat → Nat → Nat → Prop) (c1 : Nat) : Prop :=
  (¬ hOk3 x y z ∧ r = (-1) ∧ S1 = S ∧ c1 = cnt) ∨ ∃ a b c, a < 64 ∧ b < 64 ∧ c < 64 ∧ x = nI a ∧ y = nI b ∧ z = nI c ∧ ((S a b c ∧ r = nI 0 ∧ S1 = S ∧ c1 = cnt) ∨ (¬ S a b c ∧ 640 ≤ cnt ∧ r = (-3) ∧ S1 = S ∧ c1 = cnt) ∨ (¬ S a b c ∧ cnt < 640 ∧ r = nI 1 ∧ S1 = hAddT S a b c ∧ c1 = cnt + 1))
def hRemP (S : Nat → Nat → Nat → Prop) (cnt : Nat) (x y z r : Int32) (S1 : Nat → Nat → Nat → Prop) (c1 : Nat) : Prop :=
  (¬ hOk3 x y z ∧ r = (-1) ∧ S1 = S ∧ c1 = cnt) ∨ ∃ a b c, a < 64 ∧ b < 64 ∧ c < 64 ∧ x = nI a ∧ y = nI b ∧ z = nI c ∧ ((¬ S a b c ∧ r = nI 0 ∧ S1 = S ∧ c1 = cnt) ∨ (S a b c ∧ r = nI 1 ∧ S1 = hDelT S a b c ∧ c1 = cnt - 1))
def hPatP (np : Nat) (o : List Nat) (x y z r : Int32) (n1 : Nat) (o1 : List Nat) : Prop :=
  (¬ (hOkI x ∧ hOkI y ∧ hOkI z) ∧ r = (-1) ∧ n1 = np ∧ o1 = o) ∨ ((hOkI x ∧ hOkI y ∧ hOkI z) ∧ ((6 ≤ np ∧ r = (-3) ∧ n1 = np ∧ o1 = o) ∨ (np < 6 ∧ r = nI np ∧ n1 = np + 1 ∧ o1 = [])))
def hUseP (np : Nat) (o : List Nat) (x r : Int32) (o1 : List Nat) : Prop :=
  (¬ (∃ i, i < np ∧ x = nI i ∧ i ∉ o) ∧ r = (-1) ∧ o1 = o) ∨ ∃ i, i < np ∧ x = nI i ∧ i ∉ o ∧ r = nI (o.length + 1) ∧ o1 = o ++ [i]
/-- pattern, with the items that it leaves -/
def hPatQ (np : Nat) (o : List Nat) (I : Nat → Nat → Nat) (x y z r : Int32) (n1 : Nat) (o1 : List Nat) (I1 : Nat → Nat → Nat) : Prop :=
  (¬ (hOkI x ∧ hOkI y ∧ hOkI z) ∧ r = (-1) ∧ n1 = np ∧ o1 = o ∧ I1 = I) ∨ ((hOkI x ∧ hOkI y ∧ hOkI z) ∧ 6 ≤ np ∧ r = (-3) ∧ n1 = np ∧ o1 = o ∧ I1 = I) ∨ ∃ x0 x1 x2, x0 < 72 ∧ x1 < 72 ∧ x2 < 72 ∧ x = hit x0 ∧ y = hit x1 ∧ z = hit x2 ∧ np < 6 ∧ r = nI np ∧ n1 = np + 1 ∧ o1 = [] ∧ I1 = hAI I np x0 x1 x2
theorem hOk_it {x : Nat} (h : x < 72) : hOkI (hit x) := by
  rcases Nat.lt_or_ge x 64 with q | q
  · rw [hit_n q]; exact Or.inl (hOkN_nI q)
  · rw [hit_vv q]; exact Or.inr (hOkV_vI (by omega))
theorem hPatQ.det {np n1 n2 : Nat} {o o1 o2 : List Nat} {I I1 I2 : Nat → Nat → Nat} {x y z r1 r2 : Int32} (h1 : hPatQ np o I x y z r1 n1 o1 I1) (h2 : hPatQ np o I x y z r2 n2 o2 I2) : r1 = r2 ∧ n1 = n2 ∧ o1 = o2 ∧ I1 = I2 := by
  rcases h1 with ⟨u, rfl, rfl, rfl, rfl⟩ | ⟨u, v, rfl, rfl, rfl, rfl⟩ | ⟨x0, x1, x2, k0, k1, k2, e0, e1, e2, v, rfl, rfl, rfl, rfl⟩ <;> rcases h2 with ⟨u', rfl, rfl, rfl, rfl⟩ | ⟨u', v', rfl, rfl, rfl, rfl⟩ | ⟨y0, y1, y2, l0, l1, l2, f0, f1, f2, v', rfl, rfl, rfl, rfl⟩
  · exact ⟨rfl, rfl, rfl, rfl⟩
  · exact absurd u' u
  · exact absurd ⟨f0 ▸ hOk_it l0, f1 ▸ hOk_it l1, f2 ▸ hOk_it l2⟩ u
  · exact absurd u u'
  · exact ⟨rfl, rfl, rfl, rfl⟩
  · omega
  · exact absurd ⟨e0 ▸ hOk_it k0, e1 ▸ hOk_it k1, e2 ▸ hOk_it k2⟩ u'
  · omega
  · obtain rfl := hit_inj k0 l0 (e0.symm.trans f0)
    obtain rfl := hit_inj k1 l1 (e1.symm.trans f1)
    obtain rfl := hit_inj k2 l2 (e2.symm.trans f2)
    exact ⟨rfl, rfl, rfl, rfl⟩
theorem hCZ0 {S : Nat → Nat → Nat → Prop} {I dd : Nat → Nat → Nat} {mm : Nat → Nat} {np lc : Nat} {ob : List Nat} : hCZ S I dd mm np 0 lc 0 ob (-4) := ⟨fun h => absurd h (by decide), fun h => absurd h (by decide), Or.inl rfl⟩
theorem hCZ.meas {S : Nat → Nat → Nat → Prop} {F : Nat → Nat → Int32} {g I dd : Nat → Nat → Nat} {mm : Nat → Nat} {cnt np ms lc rd : Nat} {ob : List Nat} {fd : Int32} (hw : hVw F g cnt (hXv S)) (hms : ms = 0 ∨ ms = 1) (h : hCZ S I dd mm np ms lc rd ob fd) : hCZ S I (fun i => if i < np ∧ ms = 0 then hDd g cnt (I i) else dd i) (fun i => if i < np ∧ ms = 0 then hMm g cnt (I i) else mm i) np 1 lc rd ob fd := ⟨fun _ i hi => by
  have hs : ∀ v, v < 3 → hSor (g v) cnt (hXv S v) := fun v hv => (hw.2 v hv).2
  dsimp only
  rcases hms with z | z
  · rw [if_pos ⟨hi, z⟩, if_pos ⟨hi, z⟩]
    exact ⟨hMm_cd hs (I i), fun q hq => hDd_cd hs (I i) hq⟩
  · rw [if_neg (fun y => absurd (z.symm.trans y.2) (by decide)), if_neg (fun y => absurd (z.symm.trans y.2) (by decide))]
    exact h.1 z i hi, h.2⟩
theorem hCZ.best {S : Nat → Nat → Nat → Prop} {F : Nat → Nat → Int32} {g I dd : Nat → Nat → Nat} {mm : Nat → Nat} {cnt np ms lc rd : Nat} {ob : List Nat} {fd : Int32} (hw : hVw F g cnt (hXv S)) (hms : ms = 0 ∨ ms = 1) (hrd : rd = 0 ∨ (rd = 1 ∧ ob.length = np)) (hnp : np ≤ 6) (h : hCZ S I dd mm np ms lc rd ob fd) : hCZ S I (hD1 g cnt I dd np ms) (hM1 g cnt I mm np ms) np 1 (hLC np I (hD1 g cnt I dd np ms) (hM1 g cnt I mm np ms) rd lc ob) 1 (hOB np I (hD1 g cnt I dd np ms) (hM1 g cnt I mm np ms) rd ob) fd := by
  have h1 := h.meas hw hms
  refine ⟨h1.1, fun _ => ?_, h.2.2⟩
  unfold hLC hOB
  rcases hrd with z | ⟨z, -⟩
  · rw [if_pos z, if_pos z]
    obtain ⟨q1, q2, q3⟩ := hSR_best (ob := ob) hnp (h1.1 rfl)
    exact ⟨q1, q3, q2⟩
  · rw [if_neg (by omega), if_neg (by omega)]
    exact h.2.1 z
theorem hCZ.sol {S : Nat → Nat → Nat → Prop} {F : Nat → Nat → Int32} {g I dd : Nat → Nat → Nat} {mm : Nat → Nat} {cnt np ms lc rd : Nat} {ob : List Nat} {fd f1 : Int32} (hw : hVw F g cnt (hXv S)) (hms : ms = 0 ∨ ms = 1) (hrd : rd = 0 ∨ (rd = 1 ∧ ob.length = np)) (hnp : np ≤ 6) (h : hCZ S I dd mm np ms lc rd ob fd) (hs : hSolP S I np f1) : hCZ S I (hD1 g cnt I dd np ms) (hM1 g cnt I mm np ms) np 1 (hLC np I (hD1 g cnt I dd np ms) (hM1 g cnt I mm np ms) rd lc ob) 1 (hOB np I (hD1 g cnt I dd np ms) (hM1 g cnt I mm np ms) rd ob) f1 := ⟨(h.best hw hms hrd hnp).1, (h.best hw hms hrd hnp).2.1, Or.inr hs⟩
/-- what estimate answers -/
def hEstP (S : Nat → Nat → Nat → Prop) (np : Nat) (I : Nat → Nat → Nat) (x y r : Int32) : Prop := (¬ (∃ i, i < np ∧ x = nI i) ∧ r = (-1)) ∨ ∃ i, i < np ∧ x = nI i ∧ r = nI (hes (I i) (hNd S (I i)) (hNN S (I i)) y)
theorem hEstP.det {S : Nat → Nat → Nat → Prop} {np : Nat} {I : Nat → Nat → Nat} {x y r1 r2 : Int32} (hnp : np ≤ 6) (h1 : hEstP S np I x y r1) (h2 : hEstP S np I x y r2) : r1 = r2 := by
  rcases h1 with ⟨u, rfl⟩ | ⟨i, hi, rfl, rfl⟩ <;> rcases h2 with ⟨u', rfl⟩ | ⟨j, hj, ej, rfl⟩
  · rfl
  · exact absurd ⟨j, hj, ej⟩ u
  · exact absurd ⟨i, hi, rfl⟩ u'
  · obtain rfl := (nI_eq (by omega) (by omega)).mp ej
    rfl
/-- sizes by THE RULE: (size, known) behind the first j of o -/
noncomputable def hSzK (S : Nat → Nat → Nat → Prop) (I : Nat → Nat → Nat) (o : List Nat) : Nat → Nat × Nat
  | 0 => (1, 0)
  | j + 1 => (min ((hSzK S I o j).1 * hes (I (o.getD j 0)) (hNd S (I (o.getD j 0))) (hNN S (I (o.getD j 0))) (nI (hSzK S I o j).2)) 1000000000000, (hSzK S I o j).2 ||| hvm (I (o.getD j 0)) 3)
theorem hSzK_le (S : Nat → Nat → Nat → Prop) (I : Nat → Nat → Nat) (o : List Nat) : ∀ j, (hSzK S I o j).1 ≤ 1000000000000
  | 0 => by show 1 ≤ 1000000000000; decide
  | j + 1 => Nat.min_le_right _ _
/-- what size answers -/
def hSizP (S : Nat → Nat → Nat → Prop) (I : Nat → Nat → Nat) (o : List Nat) (x : Int32) (r : Int64) : Prop := ((x < nI 1 ∨ ¬ x ≤ nI o.length) ∧ r = (-1)) ∨ (¬ x < nI 1 ∧ x ≤ nI o.length ∧ ∃ k, k ≤ o.length ∧ x = nI k ∧ r = lN (hSzK S I o k).1)
theorem hSizP.det {S : Nat → Nat → Nat → Prop} {I : Nat → Nat → Nat} {o : List Nat} {x : Int32} {r1 r2 : Int64} (ho : o.length ≤ 6) (h1 : hSizP S I o x r1) (h2 : hSizP S I o x r2) : r1 = r2 := by
  rcases h1 with ⟨u, rfl⟩ | ⟨a, b, k, hk, rfl, rfl⟩ <;> rcases h2 with ⟨u', rfl⟩ | ⟨a', b', k', hk', ek, rfl⟩
  · rfl
  · exact (u.elim a' (fun z => z b')).elim
  · exact (u'.elim a (fun z => z b)).elim
  · obtain rfl := (nI_eq (by omega) (by omega)).mp ek
    rfl
