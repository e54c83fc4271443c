theorem hpig : ∀ (n : Nat) (o : List Nat), o.Nodup → (∀ x, x ∈ o → x < n) → o.length ≤ n
  | 0, o, _, h => by
    cases o with
    | nil => exact Nat.le_refl _
    | cons x l => exact absurd (h x List.mem_cons_self) (Nat.not_lt_zero _)
  | n + 1, o, hn, h => by
    have ih := hpig n (o.erase n) (hn.erase n) (fun x hx => by
      have h1 := h x (List.mem_of_mem_erase hx)
      have h2 : x ≠ n := (hn.mem_erase_iff.mp hx).1
      omega)
    by_cases q : n ∈ o
    · rw [List.length_erase_of_mem q] at ih
      omega
    · rw [List.erase_of_not_mem q] at ih
      omega
theorem hpig1 {o : List Nat} {np i : Nat} (hn : o.Nodup) (h : ∀ x, x ∈ o → x < np) (hi : i < np) (ho : i ∉ o) : o.length < np := by
  have := hpig np (o ++ [i]) (hnd_add hn ho) (hon_add h hi)
  rw [List.length_append] at this
  exact this
theorem hbd_new {I dd : Nat → Nat → Nat} {mm : Nat → Nat} {np x0 x1 x2 : Nat} (h : ∀ i, i < 6 → (∀ q, q < 3 → dd i q ≤ 127 ∧ I i q < 72) ∧ mm i ≤ 640) (h0 : x0 < 72) (h1 : x1 < 72) (h2 : x2 < 72) : ∀ i, i < 6 → (∀ q, q < 3 → dd i q ≤ 127 ∧ (fun i => if i = np then (fun p => if p = 0 then x0 else if p = 1 then x1 else x2) else I i) i q < 72) ∧ mm i ≤ 640 := fun i hi => by
  refine ⟨fun q hq => ⟨((h i hi).1 q hq).1, ?_⟩, (h i hi).2⟩
  dsimp only
  by_cases z : i = np
  · rw [if_pos z]
    show (if q = 0 then x0 else if q = 1 then x1 else x2) < 72
    split
    · exact h0
    · split
      · exact h1
      · exact h2
  · rw [if_neg z]
    exact ((h i hi).1 q hq).2

-- ORDERS OF THE REFERENCE: a trial is t; the next one is greater, read as digits
def hkv (a : Nat) : Int32 := if a = 0 then (-1) else nI (a - 1)
theorem hkv_dec (b : Nat) : nI b + Int32.ofInt (-1) = hkv b := by
  unfold hkv
  by_cases z : b = 0
  · subst z
    rw [if_pos rfl]
    decide +kernel
  · rw [if_neg z]
    obtain ⟨c, rfl⟩ : ∃ c, b = c + 1 := ⟨b - 1, by omega⟩
    rw [← nI_1, Int32.add_assoc, show (1 : Int32) + Int32.ofInt (-1) = 0 from by decide +kernel, Int32.add_zero]
    rfl
theorem hnI_dec {j : Nat} (h : 1 ≤ j) : nI j + Int32.ofInt (-1) = nI (j - 1) := (hkv_dec j).trans (if_neg (by omega))
def hVl (t : Nat → Nat) : Nat → Nat
  | 0 => 0
  | k + 1 => hVl t k * 6 + t k
theorem hVl_eq {t t1 : Nat → Nat} : ∀ k, (∀ j, j < k → t1 j = t j) → hVl t1 k = hVl t k
  | 0, _ => rfl
  | k + 1, h => by
    show hVl t1 k * 6 + t1 k = hVl t k * 6 + t k
    rw [hVl_eq k (fun j hj => h j (by omega)), h k (Nat.lt_succ_self _)]
theorem hVl_lt {t t1 : Nat → Nat} {b : Nat} (h1 : ∀ j, j < b → t1 j = t j) (h2 : t b < t1 b) : ∀ m, (∀ j, j < b + 1 + m → t j < 6) → hVl t (b + 1 + m) < hVl t1 (b + 1 + m)
  | 0, _ => by
    show hVl t b * 6 + t b < hVl t1 b * 6 + t1 b
    rw [hVl_eq b h1]
    omega
  | m + 1, h => by
    have ih := hVl_lt h1 h2 m (fun j hj => h j (by omega))
    have h6 := h (b + 1 + m) (by omega)
    show hVl t (b + 1 + m) * 6 + t (b + 1 + m) < hVl t1 (b + 1 + m) * 6 + t1 (b + 1 + m)
    omega
theorem hVl_le {t : Nat → Nat} : ∀ k, (∀ j, j < k → t j < 6) → hVl t k < 6 ^ k
  | 0, _ => by show 0 < 1; decide
  | k + 1, h => by
    have ih := hVl_le k (fun j hj => h j (by omega))
    have h6 := h k (Nat.lt_succ_self _)
    show hVl t k * 6 + t k < 6 ^ (k + 1)
    rw [Nat.pow_succ]
    omega
/-- t is an order of the first n -/
def hPm (t : Nat → Nat) (n : Nat) : Prop := (∀ k, k < n → t k < n) ∧ ∀ i j, i < n → j < n → t i = t j → i = j
def hAt5 (F : Nat → Int32) (t : Nat → Nat) (n : Nat) : Prop := ∀ k, k < n → F k = nI (t k)
def hsw (t : Nat → Nat) (i j : Nat) : Nat → Nat := fun k => if k = j then t i else if k = i then t j else t k
theorem hsw_at {F : Nat → Int32} {t : Nat → Nat} {n i j : Nat} (h : hAt5 F t n) (hi : i < n) (hj : j < n) : hAt5 (upd (upd F i (F j)) j (F i)) (hsw t i j) n := fun k hk => by
  unfold hsw
  by_cases q : k = j
  · subst q
    rw [pk_us, if_pos rfl]; exact h i hi
  · rw [pk_un q, if_neg q]
    by_cases q2 : k = i
    · subst q2
      rw [pk_us, if_pos rfl]; exact h j hj
    · rw [pk_un q2, if_neg q2]; exact h k hk
theorem hsw_pm {t : Nat → Nat} {n i j : Nat} (h : hPm t n) (hi : i < n) (hj : j < n) : hPm (hsw t i j) n := by
  have v : ∀ k, k < n → ∃ m, m < n ∧ hsw t i j k = t m ∧ (k = j → m = i) ∧ (k ≠ j → k = i → m = j) ∧ (k ≠ j → k ≠ i → m = k) := fun k hk => by
    unfold hsw
    by_cases q : k = j
    · exact ⟨i, hi, if_pos q, fun _ => rfl, fun z => absurd q z, fun z => absurd q z⟩
    · by_cases q2 : k = i
      · exact ⟨j, hj, by rw [if_neg q, if_pos q2], fun z => absurd z q, fun _ _ => rfl, fun _ z => absurd q2 z⟩
      · exact ⟨k, hk, by rw [if_neg q, if_neg q2], fun z => absurd z q, fun _ z => absurd z q2, fun _ _ => rfl⟩
  refine ⟨fun k hk => ?_, fun a b ha hb e => ?_⟩
  · obtain ⟨m, hm, e, -⟩ := v k hk
    rw [e]; exact h.1 m hm
  · obtain ⟨m, hm, e1, a1, a2, a3⟩ := v a ha
    obtain ⟨m', hm', e2, b1, b2, b3⟩ := v b hb
    have hmm : m = m' := h.2 m m' hm hm' (by rw [← e1, ← e2]; exact e)
    by_cases q1 : a = j <;> by_cases q2 : b = j
    · omega
    · have := a1 q1
      by_cases q3 : b = i
      · have := b2 q2 q3; omega
      · have := b3 q2 q3; omega
    · have := b1 q2
      by_cases q3 : a = i
      · have := a2 q1 q3; omega
      · have := a3 q1 q3; omega
    · by_cases q3 : a = i <;> by_cases q4 : b = i
      · omega
      · have := a2 q1 q3; have := b3 q2 q4; omega
      · have := a3 q1 q3; have := b2 q2 q4; omega
      · have := a3 q1 q3; have := b3 q2 q4; omega

theorem hbd_meas {F : Nat → Nat → Int32} {g I dd : Nat → Nat → Nat} {mm : Nat → Nat} {np ms cnt : Nat} {X : Nat → Nat → Prop} (hw : hVw F g cnt X) (h : ∀ i, i < 6 → (∀ q, q < 3 → dd i q ≤ 127 ∧ I i q < 72) ∧ mm i ≤ 640) : ∀ i, i < 6 → (∀ q, q < 3 → (fun i => if i < np ∧ ms = 0 then hDd g cnt (I i) else dd i) i q ≤ 127 ∧ I i q < 72) ∧ (fun i => if i < np ∧ ms = 0 then hMm g cnt (I i) else mm i) i ≤ 640 := fun i hi => by
  have h640 := hw.1
  have h1 := hMm_le g cnt (I i)
  refine ⟨fun q hq => ⟨?_, ((h i hi).1 q hq).2⟩, ?_⟩
  · dsimp only
    by_cases z : i < np ∧ ms = 0
    · rw [if_pos z]; exact hDd_le _ _ _ _
    · rw [if_neg z]; exact ((h i hi).1 q hq).1
  · dsimp only
    by_cases z : i < np ∧ ms = 0
    · rw [if_pos z]; omega
    · rw [if_neg z]; exact (h i hi).2
theorem hpig2 : ∀ (n : Nat) (o : List Nat), (∀ y, y < n → y ∈ o) → n ≤ o.length
  | 0, _, _ => Nat.zero_le _
  | n + 1, o, h => by
    have hn := h n (Nat.lt_succ_self n)
    have ih := hpig2 n (o.erase n) (fun y hy => (List.mem_erase_of_ne (Nat.ne_of_lt hy)).mpr (h y (by omega)))
    rw [List.length_erase_of_mem hn] at ih
    have : 0 < o.length := List.length_pos_of_mem hn
    omega
theorem hfold_mem {α β : Type} {f : α → β → α} {P : α → Prop} : ∀ (l : List β) (st : α), (∀ st x, x ∈ l → P st → P (f st x)) → P st → P (l.foldl f st)
  | [], _, _, h => h
  | x :: l, st, hs, h => hfold_mem l (f st x) (fun st y hy => hs st y (List.mem_cons_of_mem _ hy)) (hs st x List.mem_cons_self h)
theorem hfold_inv9 {α β : Type} {f : α → β → α} {P Q : α → Prop} : ∀ {l : List β}, (∀ st x, x ∈ l → P st → P (f st x)) → (∀ st x, x ∈ l → P st → Q st → Q (f st x)) → ∀ {y : β}, (∀ st, P st → Q (f st y)) → y ∈ l → ∀ st, P st → P (l.foldl f st) ∧ Q (l.foldl f st)
  | x :: l, hP, hQ, y, hy, hm, st, hp => by
    rcases List.mem_cons.mp hm with rfl | hm
    · exact hfold_mem (P := fun st => P st ∧ Q st) l _ (fun st z hz h => ⟨hP st z (List.mem_cons_of_mem _ hz) h.1, hQ st z (List.mem_cons_of_mem _ hz) h.1 h.2⟩) ⟨hP st _ List.mem_cons_self hp, hy st hp⟩
    · exact hfold_inv9 (fun st z hz => hP st z (List.mem_cons_of_mem _ hz)) (fun st z hz => hQ st z (List.mem_cons_of_mem _ hz)) hy hm (f st x) (hP st x List.mem_cons_self hp)
theorem hSe_ok (np : Nat) (E : Nat → Nat → Nat) (V : Nat → Nat) : ∀ (r : Nat) (o : List Nat) (kn s c : Nat) (st : Nat × List Nat), c ≤ hMX → c < st.1 → o.Nodup → (∀ x, x ∈ o → x < np) → o.length + r = np → (st.1 ≤ hMX → st.2.length = np) → (hSe np E V r o kn s c st).1 ≤ hMX ∧ (hSe np E V r o kn s c st).2.length = np
  | 0, o, _, _, c, _, hc, _, _, _, hl, _ => ⟨hc, hl⟩
  | r + 1, o, kn, s, c, st, hc, hlt, hnd, hon, hl, hst => by
    have step : ∀ (st : Nat × List Nat) (x : Nat), (st.1 ≤ hMX → st.2.length = np) → x < np → ((if x ∈ o then st else if hct c (hsz E x kn s) < st.1 then hSe np E V r (o ++ [x]) (kn ||| V x) (hsz E x kn s) (hct c (hsz E x kn s)) st else st).1 ≤ hMX → (if x ∈ o then st else if hct c (hsz E x kn s) < st.1 then hSe np E V r (o ++ [x]) (kn ||| V x) (hsz E x kn s) (hct c (hsz E x kn s)) st else st).2.length = np) ∧ (x ∉ o → (if x ∈ o then st else if hct c (hsz E x kn s) < st.1 then hSe np E V r (o ++ [x]) (kn ||| V x) (hsz E x kn s) (hct c (hsz E x kn s)) st else st).1 ≤ hMX) := by
      intro st x hp hx
      have hm : hct c (hsz E x kn s) ≤ hMX := Nat.min_le_right _ _
      by_cases h1 : x ∈ o
      · rw [if_pos h1]; exact ⟨hp, fun q => absurd h1 q⟩
      · rw [if_neg h1]
        by_cases h2 : hct c (hsz E x kn s) < st.1
        · rw [if_pos h2]
          have ih := hSe_ok np E V r (o ++ [x]) (kn ||| V x) (hsz E x kn s) (hct c (hsz E x kn s)) st hm h2 (hnd_add hnd h1) (hon_add hon hx) (by rw [List.length_append]; show o.length + 1 + r = np; omega) hp
          exact ⟨fun _ => ih.2, fun _ => ih.1⟩
        · rw [if_neg h2]
          exact ⟨hp, fun _ => by omega⟩
    obtain ⟨y, hy1, hy2⟩ : ∃ y, y < np ∧ y ∉ o := Classical.byContradiction (fun q => by
      have := hpig2 np o (fun y hy => Classical.byContradiction (fun z => q ⟨y, hy, z⟩))
      omega)
    have key := hfold_inv9 (l := List.range np) (f := fun (st : Nat × List Nat) x => if x ∈ o then st else if hct c (hsz E x kn s) < st.1 then hSe np E V r (o ++ [x]) (kn ||| V x) (hsz E x kn s) (hct c (hsz E x kn s)) st else st) (P := fun st => st.1 ≤ hMX → st.2.length = np) (Q := fun st => st.1 ≤ hMX) (fun st x hx hp => (step st x hp (List.mem_range.mp hx)).1) (fun st x hx hp hq => by
      by_cases h1 : x ∈ o
      · show (if x ∈ o then st else _).1 ≤ hMX
        rw [if_pos h1]; exact hq
      · exact (step st x hp (List.mem_range.mp hx)).2 h1) (y := y) (fun st hp => (step st y hp hy1).2 hy2) (List.mem_range.mpr hy1) st hst
    exact ⟨key.2, key.1 key.2⟩
theorem hk_of {x : Int32} {n : Nat} (h1 : ¬ x < nI 1) (h2 : x ≤ nI n) (hn : n ≤ 100) : ∃ k, k ≤ n ∧ x = nI k := by
  rw [Int32.lt_iff_toInt_lt, nI_toInt (by decide)] at h1
  rw [Int32.le_iff_toInt_le, nI_toInt (by omega)] at h2
  refine ⟨x.toInt.toNat, by omega, Int32.toInt_inj.mp ?_⟩
  rw [nI_toInt (by omega)]
  omega

-- the plan that is kept, or searched
def hSR (np : Nat) (I dd : Nat → Nat → Nat) (mm : Nat → Nat) (ob : List Nat) : Nat × List Nat := hSe np (hEs I dd mm) (hVs I) np [] 0 1 0 (1000000000001, ob)
def hOB (np : Nat) (I dd : Nat → Nat → Nat) (mm : Nat → Nat) (rd : Nat) (ob : List Nat) : List Nat := if rd = 0 then (hSR np I dd mm ob).2 else ob
def hLC (np : Nat) (I dd : Nat → Nat → Nat) (mm : Nat → Nat) (rd lc : Nat) (ob : List Nat) : Nat := if rd = 0 then (hSR np I dd mm ob).1 else lc
abbrev hD1 (g : Nat → Nat → Nat) (cnt : Nat) (I dd : Nat → Nat → Nat) (np ms : Nat) : Nat → Nat → Nat := fun i => if i < np ∧ ms = 0 then hDd g cnt (I i) else dd i
abbrev hM1 (g : Nat → Nat → Nat) (cnt : Nat) (I : Nat → Nat → Nat) (mm : Nat → Nat) (np ms : Nat) : Nat → Nat := fun i => if i < np ∧ ms = 0 then hMm g cnt (I i) else mm i
theorem hLp_2 {fl : List Nat} {ob key : Nat} {sub : Nat → Nat × Nat → Nat × Nat} (hs : ∀ i st, (sub i st).2 = st.2) : ∀ k i st, (hLp fl ob key sub k i st).2 = st.2
  | 0, _, _ => rfl
  | k + 1, i, st => by
    show (if i < fl.length ∧ fl.getD i 0 / 2 ^ ob = key / 2 ^ ob then (if 20000 < st.1 + 1 then (st.1 + 1, st.2) else hLp fl ob key sub k (i + 1) (sub i (st.1 + 1, st.2))) else st).2 = st.2
    split
    · split
      · rfl
      · rw [hLp_2 hs k, hs]
    · rfl
theorem hEx_2 (FL : Nat → List Nat) (It sh : Nat → Nat → Nat) (nk fx ob : Nat → Nat) (len : Nat) : ∀ r row st, (hEx FL It sh nk fx ob 0 len r row st).2 = st.2
  | 0, _, _ => rfl
  | r + 1, row, st => hLp_2 (fun i st => hEx_2 FL It sh nk fx ob len r _ st) _ _ st

-- THE NEXT ORDER: none lies between t and what turn makes of it
theorem hPm.sur {t : Nat → Nat} {n y : Nat} (h : hPm t n) (hy : y < n) : ∃ m, m < n ∧ t m = y := by
  refine Classical.byContradiction (fun hno => ?_)
  have hnd : ∀ k, k ≤ n → ((List.range k).map t).Nodup := fun k => by
    induction k with
    | zero => intro _; exact List.nodup_nil
    | succ k ih =>
      intro hk
      rw [List.range_succ, List.map_append]
      refine hnd_add (ih (by omega)) (fun hm => ?_)
      obtain ⟨m, h1, h2⟩ := List.mem_map.mp hm
      have h1 := List.mem_range.mp h1
      have := h.2 m k (by omega) (by omega) h2
      omega
  have hlt : ∀ x, x ∈ (List.range n).map t → x < n := fun x hx => by
    obtain ⟨m, h1, h2⟩ := List.mem_map.mp hx
    rw [← h2]
    exact h.1 m (List.mem_range.mp h1)
  have := hpig1 (hnd n (Nat.le_refl _)) hlt hy (fun hm => by
    obtain ⟨m, h1, h2⟩ := List.mem_map.mp hm
    exact hno ⟨m, List.mem_range.mp h1, h2⟩)
  rw [List.length_map, List.length_range] at this
  omega
theorem hfirst {t u : Nat → Nat} {n : Nat} (ht : ∀ k, k < n → t k < 6) (hu : ∀ k, k < n → u k < 6) (h : hVl t n < hVl u n) : ∃ d, d < n ∧ (∀ j, j < d → u j = t j) ∧ t d < u d := by
  have hex : ∃ d, d < n ∧ ¬ u d = t d := Classical.byContradiction (fun hno => by
    have := hVl_eq (t := t) (t1 := u) n (fun j hj => Classical.byContradiction (fun q => hno ⟨j, hj, q⟩))
    omega)
  obtain ⟨d, ⟨h1, h2⟩, h3⟩ := pk_least (fun d => d < n ∧ ¬ u d = t d) hex
  have hp : ∀ j, j < d → u j = t j := fun j hj => Classical.byContradiction (fun q => h3 j hj ⟨by omega, q⟩)
  refine ⟨d, h1, hp, ?_⟩
  rcases Nat.lt_or_ge (t d) (u d) with z | z
  · exact z
  · have e := hVl_lt (t := u) (t1 := t) (b := d) (fun j hj => (hp j hj).symm) (by omega) (n - (d + 1)) (fun j hj => hu j (by omega))
    rw [show d + 1 + (n - (d + 1)) = n by omega] at e
    omega
theorem hdecr {s : Nat → Nat} {lo n : Nat} (h : ∀ m, lo ≤ m → m + 1 < n → s (m + 1) < s m) : ∀ k p, lo ≤ p → p + k + 1 < n → s (p + k + 1) < s p
  | 0, p, h1, h2 => h p h1 h2
  | k + 1, p, h1, h2 => by
    have a := hdecr h k p h1 (by omega)
    have b := h (p + k + 1) (by omega) (by omega)
    rw [show p + (k + 1) + 1 = p + k + 1 + 1 by omega]
    omega
theorem hlast {t u : Nat → Nat} {n : Nat} (hn : n ≤ 6) (ht : hPm t n) (hu : hPm u n) (hd : ∀ m, m + 1 < n → t (m + 1) < t m) : hVl u n ≤ hVl t n := by
  rcases Nat.lt_or_ge (hVl t n) (hVl u n) with z | z
  · obtain ⟨d, h1, h2, h3⟩ := hfirst (fun k hk => by have := ht.1 k hk; omega) (fun k hk => by have := hu.1 k hk; omega) z
    obtain ⟨m, hm, e⟩ := ht.sur (hu.1 d h1)
    rcases Nat.lt_trichotomy m d with q | q | q
    · have := hu.2 m d (by omega) h1 (by rw [h2 m q]; exact e)
      omega
    · subst q; omega
    · have := hdecr (s := t) (lo := 0) (n := n) (fun m _ hm => hd m hm) (m - d - 1) d (Nat.zero_le _) (by omega)
      rw [show d + (m - d - 1) + 1 = m by omega] at this
      omega
  · exact z
theorem hnext {t t1 u : Nat → Nat} {n b j : Nat} (hn : n ≤ 6) (ht : hPm t n) (ht1 : hPm t1 n) (hu : hPm u n) (hdec : ∀ m, b + 1 ≤ m → m + 1 < n → t (m + 1) < t m) (hj1 : b + 1 ≤ j) (hj2 : j < n) (hbj : t b < t j) (hjm : ∀ m, j < m → m < n → t m < t b) (hpre : ∀ q, q < b → t1 q = t q) (h1b : t1 b = t j) (hrev : ∀ q, b < q → q < n → t1 q = hsw t b j (b + n - q)) (h : hVl t n < hVl u n) : hVl t1 n ≤ hVl u n := by
  have ht6 : ∀ k, k < n → t k < 6 := fun k hk => by have := ht.1 k hk; omega
  have hu6 : ∀ k, k < n → u k < 6 := fun k hk => by have := hu.1 k hk; omega
  have h16 : ∀ k, k < n → t1 k < 6 := fun k hk => by have := ht1.1 k hk; omega
  have hdd : ∀ p q, b + 1 ≤ p → p < q → q < n → t q < t p := fun p q h1 h2 h3 => by
    have := hdecr (lo := b + 1) hdec (q - p - 1) p h1 (by omega)
    rw [show p + (q - p - 1) + 1 = q by omega] at this
    exact this
  have less : ∀ d, d < n → (∀ i, i < d → u i = t1 i) → t1 d < u d → hVl t1 n < hVl u n := fun d h1 h2 h3 => by
    have e := hVl_lt (t := t1) (t1 := u) (b := d) h2 h3 (n - (d + 1)) (fun i hi => h16 i (by omega))
    rw [show d + 1 + (n - (d + 1)) = n by omega] at e
    exact e
  obtain ⟨d, d1, d2, d3⟩ := hfirst ht6 hu6 h
  obtain ⟨m, hm, e⟩ := ht.sur (hu.1 d d1)
  have hmd : d < m := by
    rcases Nat.lt_trichotomy m d with q | q | q
    · have := hu.2 m d (by omega) d1 (by rw [d2 m q]; exact e)
      omega
    · subst q; omega
    · exact q
  rcases Nat.lt_trichotomy d b with q | q | q
  · exact Nat.le_of_lt (less d d1 (fun i hi => by rw [d2 i hi, hpre i (by omega)]) (by rw [hpre d q]; exact d3))
  · subst q
    have hmj : m ≤ j := Nat.not_lt.mp (fun z => by have := hjm m z hm; omega)
    by_cases z : m = j
    · subst z
      rcases Nat.lt_or_ge (hVl u n) (hVl t1 n) with w | w
      · obtain ⟨x, x1, x2, x3⟩ := hfirst hu6 h16 w
        have hxd : d < x := by
          rcases Nat.lt_trichotomy x d with y | y | y
          · rw [hpre x y, d2 x y] at x3; omega
          · subst y; rw [h1b] at x3; omega
          · exact y
        obtain ⟨m', hm', e'⟩ := ht1.sur (hu.1 x x1)
        have hmx : x < m' := by
          rcases Nat.lt_trichotomy m' x with y | y | y
          · have := hu.2 m' x (by omega) x1 (by rw [← x2 m' y]; exact e')
            omega
          · subst y; omega
          · exact y
        have hup : t1 x < t1 m' := by
          rw [hrev x hxd x1, hrev m' (by omega) hm']
          unfold hsw
          by_cases y1 : d + n - x = m
          · rw [if_pos y1, if_neg (show ¬ d + n - m' = m by omega), if_neg (show ¬ d + n - m' = d by omega)]
            have := hdd (d + n - m') m (by omega) (by omega) hj2
            omega
          · rw [if_neg y1, if_neg (show ¬ d + n - x = d by omega)]
            by_cases y2 : d + n - m' = m
            · rw [if_pos y2]
              exact hjm (d + n - x) (by omega) (by omega)
            · rw [if_neg y2, if_neg (show ¬ d + n - m' = d by omega)]
              exact hdd (d + n - m') (d + n - x) (by omega) (by omega) (by omega)
        omega
      · exact w
    · have := hdd m j (by omega) (by omega) hj2
      exact Nat.le_of_lt (less d d1 (fun i hi => by rw [d2 i hi, hpre i hi]) (by rw [h1b]; omega))
  · have := hdd d m (by omega) hmd hm
    omega
/-- the reversal of what stands behind b, as far as i -/
def hRv (t1 s : Nat → Nat) (b n i : Nat) : Prop := ∀ q, b < q → q < n → t1 q = if q < b + i ∨ n - i < q then s (b + n - q) else s q
theorem hRv.step {t1 s : Nat → Nat} {b n i : Nat} (h : hRv t1 s b n i) (hi : 1 ≤ i) (hbi : b + i < n - i) : hRv (hsw t1 (b + i) (n - i)) s b n (i + 1) := fun q h1 h2 => by
  have a1 := h (b + i) (by omega) (by omega)
  rw [if_neg (by omega)] at a1
  have a2 := h (n - i) (by omega) (by omega)
  rw [if_neg (by omega)] at a2
  unfold hsw
  by_cases z : q = n - i
  · rw [if_pos z, if_pos (by omega), a1]
    congr 1
    omega
  · rw [if_neg z]
    by_cases y : q = b + i
    · rw [if_pos y, if_pos (by omega), a2]
      congr 1
      omega
    · rw [if_neg y, h q h1 h2]
      by_cases x : q < b + i ∨ n - i < q
      · rw [if_pos x, if_pos (by omega)]
      · rw [if_neg x, if_neg (by omega)]
theorem hRv.fin {t1 s : Nat → Nat} {b n i : Nat} (h : hRv t1 s b n i) (hbi : n - i ≤ b + i) (hin : i ≤ n) : ∀ q, b < q → q < n → t1 q = s (b + n - q) := fun q h1 h2 => by
  rw [h q h1 h2]
  by_cases x : q < b + i ∨ n - i < q
  · rw [if_pos x]
  · rw [if_neg x]
    congr 1
    omega

-- THE CODES OF A VIEW
def hXv (S : Nat → Nat → Nat → Prop) (v x : Nat) : Prop := ∃ a b c, a < 64 ∧ b < 64 ∧ c < 64 ∧ S a b c ∧ x = hvc v a b c
theorem hvc_inj {v a b c a' b' c' : Nat} (hv : v < 3) (ha : a < 64) (hb : b < 64) (hc : c < 64) (ha' : a' < 64) (hb' : b' < 64) (hc' : c' < 64) (h : hvc v a b c = hvc v a' b' c') : a = a' ∧ b = b' ∧ c = c' := by
  rcases (show v = 0 ∨ v = 1 ∨ v = 2 by omega) with rfl | rfl | rfl
  · have h : a * 2 ^ 12 + b * 2 ^ 6 + c * 2 ^ 0 = a' * 2 ^ 12 + b' * 2 ^ 6 + c' * 2 ^ 0 := h
    omega
  · have h : a * 2 ^ 0 + b * 2 ^ 12 + c * 2 ^ 6 = a' * 2 ^ 0 + b' * 2 ^ 12 + c' * 2 ^ 6 := h
    omega
  · have h : a * 2 ^ 6 + b * 2 ^ 0 + c * 2 ^ 12 = a' * 2 ^ 6 + b' * 2 ^ 0 + c' * 2 ^ 12 := h
    omega
theorem hXv_iff {S : Nat → Nat → Nat → Prop} {v a b c : Nat} (hv : v < 3) (ha : a < 64) (hb : b < 64) (hc : c < 64) : hXv S v (hvc v a b c) ↔ S a b c := by
  constructor
  · rintro ⟨a', b', c', h1, h2, h3, h4, h5⟩
    obtain ⟨rfl, rfl, rfl⟩ := hvc_inj hv ha hb hc h1 h2 h3 h5
    exact h4
  · exact fun h => ⟨a, b, c, ha, hb, hc, h, rfl⟩

-- HOW MANY BITS: the sum by fields of 2, 4, 8 bits
theorem hand_split {a r M : Nat} (hr : r < 4) : a &&& (r + 4 * M) = (a % 4 &&& r) + 4 * (a / 4 &&& M) := by
  have h1 : (a &&& (r + 4 * M)) % 2 ^ 2 = (a % 4 &&& r) := by
    rw [Nat.and_mod_two_pow, show (r + 4 * M) % 2 ^ 2 = r by omega]
  have h2 : (a &&& (r + 4 * M)) / 2 ^ 2 = (a / 4 &&& M) := by
    rw [← Nat.shiftRight_eq_div_pow, Nat.shiftRight_and_distrib, Nat.shiftRight_eq_div_pow, Nat.shiftRight_eq_div_pow, show (r + 4 * M) / 2 ^ 2 = M by omega]
  have h3 := Nat.div_add_mod (a &&& (r + 4 * M)) (2 ^ 2)
  rw [h1, h2] at h3
  omega
theorem hand_split16 {a r M : Nat} (hr : r < 16) : a &&& (r + 16 * M) = (a % 16 &&& r) + 16 * (a / 16 &&& M) := by
  have h1 : (a &&& (r + 16 * M)) % 2 ^ 4 = (a % 16 &&& r) := by
    rw [Nat.and_mod_two_pow, show (r + 16 * M) % 2 ^ 4 = r by omega]
  have h2 : (a &&& (r + 16 * M)) / 2 ^ 4 = (a / 16 &&& M) := by
    rw [← Nat.shiftRight_eq_div_pow, Nat.shiftRight_and_distrib, Nat.shiftRight_eq_div_pow, Nat.shiftRight_eq_div_pow, show (r + 16 * M) / 2 ^ 4 = M by omega]
  have h3 := Nat.div_add_mod (a &&& (r + 16 * M)) (2 ^ 4)
  rw [h1, h2] at h3
  omega
theorem hand_split256 {a r M : Nat} (hr : r < 256) : a &&& (r + 256 * M) = (a % 256 &&& r) + 256 * (a / 256 &&& M) := by
  have h1 : (a &&& (r + 256 * M)) % 2 ^ 8 = (a % 256 &&& r) := by
    rw [Nat.and_mod_two_pow, show (r + 256 * M) % 2 ^ 8 = r by omega]
  have h2 : (a &&& (r + 256 * M)) / 2 ^ 8 = (a / 256 &&& M) := by
    rw [← Nat.shiftRight_eq_div_pow, Nat.shiftRight_and_distrib, Nat.shiftRight_eq_div_pow, Nat.shiftRight_eq_div_pow, show (r + 256 * M) / 2 ^ 8 = M by omega]
  have h3 := Nat.div_add_mod (a &&& (r + 256 * M)) (2 ^ 8)
  rw [h1, h2] at h3
  omega
def hM5 : Nat → Nat
  | 0 => 0
  | n + 1 => 1 + 4 * hM5 n
def hM3 : Nat → Nat
  | 0 => 0
  | n + 1 => 3 + 16 * hM3 n
def hMf : Nat → Nat
  | 0 => 0
  | n + 1 => 15 + 256 * hMf n
def hP4 : Nat → Nat → Nat
  | 0, _ => 0
  | n + 1, x => (x % 2 + x / 2 % 2) + 4 * hP4 n (x / 4)
def hP16 : Nat → Nat → Nat
  | 0, _ => 0
  | n + 1, x => (x % 2 + x / 2 % 2 + x / 4 % 2 + x / 8 % 2) + 16 * hP16 n (x / 16)
def hP256 : Nat → Nat → Nat
  | 0, _ => 0
  | n + 1, x => (x % 2 + x / 2 % 2 + x / 4 % 2 + x / 8 % 2 + x / 16 % 2 + x / 32 % 2 + x / 64 % 2 + x / 128 % 2) + 256 * hP256 n (x / 256)
theorem hand1 : ∀ a, a < 4 → a &&& 1 = a % 2 := by decide
theorem hand3 : ∀ a, a < 16 → a &&& 3 = a % 4 := by decide
theorem hand15n (a : Nat) : a &&& 15 = a % 16 := Nat.and_two_pow_sub_one_eq_mod a 4
theorem hpop1 : ∀ n x, x < 4 ^ n → (x / 2 &&& hM5 n) ≤ x ∧ x - (x / 2 &&& hM5 n) = hP4 n x := by
  intro n
  induction n with
  | zero =>
    intro x h
    have h0 : x = 0 := by omega
    subst h0
    decide
  | succ n ih =>
    intro x h
    have h4 : x / 4 < 4 ^ n := by rw [Nat.pow_succ] at h; omega
    obtain ⟨i1, i2⟩ := ih (x / 4) h4
    have e : (x / 2 &&& hM5 (n + 1)) = x / 2 % 2 + 4 * (x / 4 / 2 &&& hM5 n) := by
      show (x / 2 &&& (1 + 4 * hM5 n)) = _
      rw [hand_split (by decide), hand1 _ (Nat.mod_lt _ (by decide)), show x / 2 / 4 = x / 4 / 2 by omega]
      omega
    rw [e]
    show _ ∧ _ = (x % 2 + x / 2 % 2) + 4 * hP4 n (x / 4)
    omega
theorem hP4_s (n x : Nat) : hP4 (n + 1) x = (x % 2 + x / 2 % 2) + 4 * hP4 n (x / 4) := rfl
theorem hpop2 : ∀ m x, (hP4 (2 * m) x &&& hM3 m) + (hP4 (2 * m) x / 4 &&& hM3 m) = hP16 m x := by
  intro m
  induction m with
  | zero => intro x; show (0 &&& 0) + (0 / 4 &&& 0) = 0; decide
  | succ m ih =>
    intro x
    have i := ih (x / 16)
    have e1 : hP4 (2 * (m + 1)) x = (x % 2 + x / 2 % 2) + 4 * ((x / 4 % 2 + x / 8 % 2) + 4 * hP4 (2 * m) (x / 16)) := by
      rw [show 2 * (m + 1) = 2 * m + 1 + 1 by omega, hP4_s, hP4_s, Nat.div_div_eq_div_mul, Nat.div_div_eq_div_mul]
    rw [e1]
    generalize hP4 (2 * m) (x / 16) = y at i ⊢
    have h0 : x % 2 ≤ 1 := by omega
    have h1 : x / 2 % 2 ≤ 1 := by omega
    have h2 : x / 4 % 2 ≤ 1 := by omega
    have h3 : x / 8 % 2 ≤ 1 := by omega
    show (_ &&& (3 + 16 * hM3 m)) + (_ &&& (3 + 16 * hM3 m)) = (x % 2 + x / 2 % 2 + x / 4 % 2 + x / 8 % 2) + 16 * hP16 m (x / 16)
    rw [hand_split16 (by decide), hand_split16 (by decide), hand3 _ (Nat.mod_lt _ (by decide)), hand3 _ (Nat.mod_lt _ (by decide)), ← i]
    generalize x % 2 = a0 at h0 ⊢
    generalize x / 2 % 2 = a1 at h1 ⊢
    generalize x / 4 % 2 = a2 at h2 ⊢
    generalize x / 8 % 2 = a3 at h3 ⊢
    have b1 : ((a0 + a1) + 4 * ((a2 + a3) + 4 * y)) / 16 = y := by omega
    have b2 : ((a0 + a1) + 4 * ((a2 + a3) + 4 * y)) / 4 / 16 = y / 4 := by omega
    rw [b1, b2]
    have b3 : ((a0 + a1) + 4 * ((a2 + a3) + 4 * y)) % 16 % 4 = a0 + a1 := by omega
    have b4 : ((a0 + a1) + 4 * ((a2 + a3) + 4 * y)) / 4 % 16 % 4 = a2 + a3 := by omega
    rw [b3, b4]
    omega
theorem hP16_s (n x : Nat) : hP16 (n + 1) x = (x % 2 + x / 2 % 2 + x / 4 % 2 + x / 8 % 2) + 16 * hP16 n (x / 16) := rfl
theorem hP16_mod (n x : Nat) : hP16 n x % 16 ≤ 4 := by
  cases n with
  | zero => show 0 % 16 ≤ 4; decide
  | succ n =>
    rw [hP16_s]
    have h0 : x % 2 ≤ 1 := by omega
    have h1 : x / 2 % 2 ≤ 1 := by omega
    have h2 : x / 4 % 2 ≤ 1 := by omega
    have h3 : x / 8 % 2 ≤ 1 := by omega
    generalize x % 2 = a0 at h0 ⊢
    generalize x / 2 % 2 = a1 at h1 ⊢
    generalize x / 4 % 2 = a2 at h2 ⊢
    generalize x / 8 % 2 = a3 at h3 ⊢
    omega
theorem hP256_s2 (n x : Nat) : hP256 (n + 1) x = (x % 2 + x / 2 % 2 + x / 4 % 2 + x / 8 % 2) + (x / 16 % 2 + x / 32 % 2 + x / 64 % 2 + x / 128 % 2) + 256 * hP256 n (x / 256) := by
  show (x % 2 + x / 2 % 2 + x / 4 % 2 + x / 8 % 2 + x / 16 % 2 + x / 32 % 2 + x / 64 % 2 + x / 128 % 2) + 256 * hP256 n (x / 256) = _
  simp only [Nat.add_assoc]
theorem hf4_le (x : Nat) : x % 2 + x / 2 % 2 + x / 4 % 2 + x / 8 % 2 ≤ 4 := by
  have h0 : x % 2 ≤ 1 := by omega
  have h1 : x / 2 % 2 ≤ 1 := by omega
  have h2 : x / 4 % 2 ≤ 1 := by omega
  have h3 : x / 8 % 2 ≤ 1 := by omega
  omega
theorem hpop3 : ∀ k x, ((hP16 (2 * k) x + hP16 (2 * k) x / 16) &&& hMf k) = hP256 k x := by
  intro k
  induction k with
  | zero => intro x; exact Nat.and_zero _
  | succ k ih =>
    intro x
    have i := ih (x / 256)
    have hm := hP16_mod (2 * k) (x / 256)
    have e1 : hP16 (2 * (k + 1)) x = (x % 2 + x / 2 % 2 + x / 4 % 2 + x / 8 % 2) + 16 * ((x / 16 % 2 + x / 32 % 2 + x / 64 % 2 + x / 128 % 2) + 16 * hP16 (2 * k) (x / 256)) := by
      rw [show 2 * (k + 1) = 2 * k + 1 + 1 by omega, hP16_s, hP16_s]
      simp only [Nat.div_div_eq_div_mul]
    have hB4 : x / 16 % 2 + x / 32 % 2 + x / 64 % 2 + x / 128 % 2 ≤ 4 := by
      have q := hf4_le (x / 16)
      simp only [Nat.div_div_eq_div_mul] at q
      exact q
    have hA4 := hf4_le x
    rw [e1, hP256_s2]
    generalize hP16 (2 * k) (x / 256) = y at i hm ⊢
    generalize x % 2 + x / 2 % 2 + x / 4 % 2 + x / 8 % 2 = A at hA4 ⊢
    generalize x / 16 % 2 + x / 32 % 2 + x / 64 % 2 + x / 128 % 2 = B at hB4 ⊢
    show (_ &&& (15 + 256 * hMf k)) = _
    rw [hand_split256 (by decide), hand15n, ← i]
    have b0 : (A + 16 * (B + 16 * y)) / 16 = B + 16 * y := by omega
    rw [b0]
    have b1 : (A + 16 * (B + 16 * y) + (B + 16 * y)) / 256 = y + y / 16 := by omega
    have b2 : (A + 16 * (B + 16 * y) + (B + 16 * y)) % 256 % 16 = A + B := by omega
    rw [b1, b2]
def hby (x : Nat) : Nat := x % 2 + x / 2 % 2 + x / 4 % 2 + x / 8 % 2 + x / 16 % 2 + x / 32 % 2 + x / 64 % 2 + x / 128 % 2
theorem hby_le (x : Nat) : hby x ≤ 8 := by
  have h1 := hf4_le x
  have h2 := hf4_le (x / 16)
  simp only [Nat.div_div_eq_div_mul] at h2
  unfold hby
  omega
theorem hpc_8 (n x : Nat) : hpc (n + 8) x = hby x + hpc n (x / 256) := by
  show x % 2 + (x / 2 % 2 + (x / 2 / 2 % 2 + (x / 2 / 2 / 2 % 2 + (x / 2 / 2 / 2 / 2 % 2 + (x / 2 / 2 / 2 / 2 / 2 % 2 + (x / 2 / 2 / 2 / 2 / 2 / 2 % 2 + (x / 2 / 2 / 2 / 2 / 2 / 2 / 2 % 2 + hpc n (x / 2 / 2 / 2 / 2 / 2 / 2 / 2 / 2)))))))) = _
  unfold hby
  simp only [Nat.div_div_eq_div_mul, Nat.add_assoc]
theorem hP256_s (n x : Nat) : hP256 (n + 1) x = hby x + 256 * hP256 n (x / 256) := rfl
theorem hq2 {W0 W1 W2 W3 d0 d1 d2 : Nat} (w0 : W0 = d0 + 256 * W1) (w1 : W1 = d1 + 256 * W2) (w2 : W2 = d2 + 256 * W3) (b0 : d0 ≤ 8) (b1 : d1 ≤ 8) (b2 : d2 ≤ 8) : (W0 + W1) / 65536 = W2 + W3 := by
  subst w2
  subst w1
  subst w0
  omega
theorem hq4 {W4 W5 W6 W7 d0 d1 d2 d3 d4 d5 d6 : Nat} (b0 : d0 ≤ 8) (b1 : d1 ≤ 8) (b2 : d2 ≤ 8) (b3 : d3 ≤ 8) (b4 : d4 ≤ 8) (b5 : d5 ≤ 8) (b6 : d6 ≤ 8) : (d0 + 256 * (d1 + 256 * (d2 + 256 * (d3 + 256 * W4))) + (d1 + 256 * (d2 + 256 * (d3 + 256 * (d4 + 256 * W5)))) + (d2 + 256 * (d3 + 256 * (d4 + 256 * (d5 + 256 * W6))) + (d3 + 256 * (d4 + 256 * (d5 + 256 * (d6 + 256 * W7)))))) / 4294967296 = W4 + W5 + W6 + W7 := by
  have e : d0 + 256 * (d1 + 256 * (d2 + 256 * (d3 + 256 * W4))) + (d1 + 256 * (d2 + 256 * (d3 + 256 * (d4 + 256 * W5)))) + (d2 + 256 * (d3 + 256 * (d4 + 256 * (d5 + 256 * W6))) + (d3 + 256 * (d4 + 256 * (d5 + 256 * (d6 + 256 * W7))))) = (d0 + 257 * d1 + 65793 * d2 + 16843009 * d3 + 16843008 * d4 + 16842752 * d5 + 16777216 * d6) + 4294967296 * (W4 + W5 + W6 + W7) := by omega
  rw [e, Nat.add_mul_div_left _ _ (by decide), Nat.div_eq_of_lt (by omega), Nat.zero_add]
theorem hpop4 (x : Nat) : (hP256 8 x + hP256 8 x / 256 + (hP256 8 x + hP256 8 x / 256) / 65536 + (hP256 8 x + hP256 8 x / 256 + (hP256 8 x + hP256 8 x / 256) / 65536) / 4294967296) % 128 = hpc 64 x := by
  rw [show (64 : Nat) = 0 + 8 + 8 + 8 + 8 + 8 + 8 + 8 + 8 from rfl]
  simp only [hpc_8]
  have b0 := hby_le x
  have b1 := hby_le (x / 256)
  have b2 := hby_le (x / 256 / 256)
  have b3 := hby_le (x / 256 / 256 / 256)
  have b4 := hby_le (x / 256 / 256 / 256 / 256)
  have b5 := hby_le (x / 256 / 256 / 256 / 256 / 256)
  have b6 := hby_le (x / 256 / 256 / 256 / 256 / 256 / 256)
  have b7 := hby_le (x / 256 / 256 / 256 / 256 / 256 / 256 / 256)
  have w0 := hP256_s 7 x
  have w1 := hP256_s 6 (x / 256)
  have w2 := hP256_s 5 (x / 256 / 256)
  have w3 := hP256_s 4 (x / 256 / 256 / 256)
  have w4 := hP256_s 3 (x / 256 / 256 / 256 / 256)
  have w5 := hP256_s 2 (x / 256 / 256 / 256 / 256 / 256)
  have w6 := hP256_s 1 (x / 256 / 256 / 256 / 256 / 256 / 256)
  have w7 := hP256_s 0 (x / 256 / 256 / 256 / 256 / 256 / 256 / 256)
  have w8 : hP256 0 (x / 256 / 256 / 256 / 256 / 256 / 256 / 256 / 256) = 0 := rfl
  have z8 : hpc 0 (x / 256 / 256 / 256 / 256 / 256 / 256 / 256 / 256) = 0 := rfl
  rw [z8]
  simp only [show 0 + 1 = 1 from rfl, show 1 + 1 = 2 from rfl, show 2 + 1 = 3 from rfl, show 3 + 1 = 4 from rfl, show 4 + 1 = 5 from rfl, show 5 + 1 = 6 from rfl, show 6 + 1 = 7 from rfl, show 7 + 1 = 8 from rfl] at w0 w1 w2 w3 w4 w5 w6 w7
  rw [w8] at w7
  generalize hP256 8 x = W0 at *
  generalize hP256 7 (x / 256) = W1 at *
  generalize hP256 6 (x / 256 / 256) = W2 at *
  generalize hP256 5 (x / 256 / 256 / 256) = W3 at *
  generalize hP256 4 (x / 256 / 256 / 256 / 256) = W4 at *
  generalize hP256 3 (x / 256 / 256 / 256 / 256 / 256) = W5 at *
  generalize hP256 2 (x / 256 / 256 / 256 / 256 / 256 / 256) = W6 at *
  generalize hP256 1 (x / 256 / 256 / 256 / 256 / 256 / 256 / 256) = W7 at *
  generalize hby x = d0 at *
  generalize hby (x / 256) = d1 at *
  generalize hby (x / 256 / 256) = d2 at *
  generalize hby (x / 256 / 256 / 256) = d3 at *
  generalize hby (x / 256 / 256 / 256 / 256) = d4 at *
  generalize hby (x / 256 / 256 / 256 / 256 / 256) = d5 at *
  generalize hby (x / 256 / 256 / 256 / 256 / 256 / 256) = d6 at *
  generalize hby (x / 256 / 256 / 256 / 256 / 256 / 256 / 256) = d7 at *
  have e1 : W0 / 256 = W1 := by rw [w0]; omega
  rw [e1, hq2 w0 w1 w2 b0 b1 b2]
  have e8 : (W0 + W1 + (W2 + W3)) / 4294967296 = W4 + W5 + W6 + W7 := by
    have q := hq4 (W4 := W4) (W5 := W5) (W6 := W6) (W7 := W7) b0 b1 b2 b3 b4 b5 b6
    rw [← w6, ← w5, ← w4, ← w3, ← w2, ← w1, ← w0] at q
    exact q
  rw [e8]
  clear e1 e8
  rw [w0, w1, w2, w3, w4, w5, w6, w7]
  omega
theorem hM5_32 : hM5 32 = 6148914691236517205 := by decide +kernel
theorem hM3_16 : hM3 16 = 3689348814741910323 := by decide +kernel
theorem hMf_8 : hMf 8 = 1085102592571150095 := by decide +kernel
/-- the three sums of Long.bitCount, by numbers -/
theorem hpopA {n : Nat} (h : n < 2 ^ 64) : (n / 2 ^ 1 &&& 6148914691236517205) ≤ n ∧ n - (n / 2 ^ 1 &&& 6148914691236517205) = hP4 32 n := by
  have := hpop1 32 n h
  rw [hM5_32] at this
  exact this
theorem hpopB (n : Nat) : (hP4 32 n &&& 3689348814741910323) + (hP4 32 n / 2 ^ 2 &&& 3689348814741910323) = hP16 16 n := by
  have := hpop2 16 n
  rw [hM3_16] at this
  exact this
theorem hpopC (n : Nat) : ((hP16 16 n + hP16 16 n / 2 ^ 4) &&& 1085102592571150095) = hP256 8 n := by
  have := hpop3 8 n
  rw [hMf_8] at this
  exact this
theorem hP16_le9 (n : Nat) : hP16 16 n ≤ 7378697629483820646 := by
  rw [← hpopB]
  have h1 := Nat.and_le_right (n := hP4 32 n) (m := 3689348814741910323)
  have h2 := Nat.and_le_right (n := hP4 32 n / 2 ^ 2) (m := 3689348814741910323)
  omega
theorem hP256_le9 (n : Nat) : hP256 8 n ≤ 1085102592571150095 := by
  rw [← hpopC]
  exact Nat.and_le_right
theorem hbc_pc {n : Nat} (h : n < 2 ^ 64) : hbc n = hpc 64 n := by
  have e1 : hb1 n = hP4 32 n := (hpopA h).2
  have e2 : hb2 n = hP16 16 n := by unfold hb2; rw [e1]; exact hpopB n
  have e3 : hb3 n = hP256 8 n := by unfold hb3; rw [e2]; exact hpopC n
  unfold hbc
  rw [e3]
  exact hpop4 n

-- COUNTING A SET OF NUMBERS
/-- how many x below n are in P -/
noncomputable def hcd (P : Nat → Prop) : Nat → Nat
  | 0 => 0
  | n + 1 => hcd P n + @ite Nat (P n) (Classical.propDecidable (P n)) 1 0
theorem hcd_s (P : Nat → Prop) (n : Nat) : (P n → hcd P (n + 1) = hcd P n + 1) ∧ (¬ P n → hcd P (n + 1) = hcd P n) :=
  ⟨fun h => by show hcd P n + @ite Nat (P n) (Classical.propDecidable (P n)) 1 0 = _; rw [if_pos h], fun h => by show hcd P n + @ite Nat (P n) (Classical.propDecidable (P n)) 1 0 = _; rw [if_neg h, Nat.add_zero]⟩
theorem hcd_ext {P Q : Nat → Prop} : ∀ n, (∀ x, x < n → (P x ↔ Q x)) → hcd P n = hcd Q n
  | 0, _ => rfl
  | n + 1, h => by
    have ih := hcd_ext n (fun x hx => h x (by omega))
    by_cases q : P n
    · rw [(hcd_s P n).1 q, (hcd_s Q n).1 ((h n (Nat.lt_succ_self _)).mp q), ih]
    · rw [(hcd_s P n).2 q, (hcd_s Q n).2 (fun z => q ((h n (Nat.lt_succ_self _)).mpr z)), ih]
theorem hcd_none {P : Nat → Prop} : ∀ n, (∀ x, x < n → ¬ P x) → hcd P n = 0
  | 0, _ => rfl
  | n + 1, h => by rw [(hcd_s P n).2 (h n (Nat.lt_succ_self _)), hcd_none n (fun x hx => h x (by omega))]
theorem hcd_pos {P : Nat → Prop} {x : Nat} (hp : P x) : ∀ n, x < n → 1 ≤ hcd P n
  | 0, h => absurd h (Nat.not_lt_zero _)
  | n + 1, h => by
    by_cases q : P n
    · rw [(hcd_s P n).1 q]; omega
    · rw [(hcd_s P n).2 q]
      exact hcd_pos hp n (by rcases Nat.lt_or_ge x n with z | z; exact z; exact absurd (show P n by rw [show n = x by omega]; exact hp) q)
theorem hcd_le (P : Nat → Prop) : ∀ n, hcd P n ≤ n
  | 0 => Nat.le_refl _
  | n + 1 => by
    have ih := hcd_le P n
    by_cases q : P n
    · rw [(hcd_s P n).1 q]; omega
    · rw [(hcd_s P n).2 q]; omega
theorem hcd_add {P Q : Nat → Prop} {x : Nat} (hn : ¬ P x) (hQ : ∀ y, Q y ↔ (P y ∨ y = x)) : ∀ n, hcd Q n = hcd P n + (if x < n then 1 else 0)
  | 0 => rfl
  | n + 1 => by
    have ih := hcd_add hn hQ n
    by_cases z : x = n
    · subst z
      rw [(hcd_s Q x).1 ((hQ x).mpr (Or.inr rfl)), (hcd_s P x).2 hn, ih, if_neg (Nat.lt_irrefl _), if_pos (Nat.lt_succ_self _)]
    · have e : (if x < n + 1 then 1 else 0) = (if x < n then 1 else 0) := by
        by_cases y : x < n
        · rw [if_pos y, if_pos (by omega)]
        · rw [if_neg y, if_neg (by omega)]
      rw [e]
      by_cases q : P n
      · rw [(hcd_s Q n).1 ((hQ n).mpr (Or.inl q)), (hcd_s P n).1 q, ih]; omega
      · rw [(hcd_s Q n).2 (fun w => ((hQ n).mp w).elim q (fun y => z y.symm)), (hcd_s P n).2 q, ih]
/-- how many t below n are in A with a key that no earlier one has -/
noncomputable def hmy (A : Nat → Prop) (key : Nat → Nat) : Nat → Nat
  | 0 => 0
  | n + 1 => hmy A key n + @ite Nat (A n ∧ ∀ u, u < n → ¬ (A u ∧ key u = key n)) (Classical.propDecidable _) 1 0
theorem hmy_s (A : Nat → Prop) (key : Nat → Nat) (n : Nat) : ((A n ∧ ∀ u, u < n → ¬ (A u ∧ key u = key n)) → hmy A key (n + 1) = hmy A key n + 1) ∧ (¬ (A n ∧ ∀ u, u < n → ¬ (A u ∧ key u = key n)) → hmy A key (n + 1) = hmy A key n) :=
  ⟨fun h => by show hmy A key n + @ite Nat (A n ∧ ∀ u, u < n → ¬ (A u ∧ key u = key n)) (Classical.propDecidable _) 1 0 = _; rw [if_pos h], fun h => by show hmy A key n + @ite Nat (A n ∧ ∀ u, u < n → ¬ (A u ∧ key u = key n)) (Classical.propDecidable _) 1 0 = _; rw [if_neg h, Nat.add_zero]⟩
theorem hmy_le (A : Nat → Prop) (key : Nat → Nat) : ∀ n, hmy A key n ≤ n
  | 0 => Nat.le_refl _
  | n + 1 => by
    have ih := hmy_le A key n
    by_cases q : A n ∧ ∀ u, u < n → ¬ (A u ∧ key u = key n)
    · rw [(hmy_s A key n).1 q]; omega
    · rw [(hmy_s A key n).2 q]; omega
theorem hmy_cd {A : Nat → Prop} {key : Nat → Nat} {N : Nat} : ∀ n, (∀ t, t < n → key t < N) → hmy A key n = hcd (fun x => ∃ t, t < n ∧ A t ∧ key t = x) N
  | 0, _ => (hcd_none N (fun x _ ⟨t, h, _⟩ => absurd h (Nat.not_lt_zero _))).symm
  | n + 1, h => by
    have ih := hmy_cd (A := A) n (fun t ht => h t (by omega))
    by_cases q : A n ∧ ∀ u, u < n → ¬ (A u ∧ key u = key n)
    · rw [(hmy_s A key n).1 q, ih, hcd_add (P := fun x => ∃ t, t < n ∧ A t ∧ key t = x) (Q := fun x => ∃ t, t < n + 1 ∧ A t ∧ key t = x) (x := key n) (fun ⟨t, h1, h2, h3⟩ => q.2 t h1 ⟨h2, h3⟩) (fun y => ?_) N, if_pos (h n (Nat.lt_succ_self _))]
      constructor
      · rintro ⟨t, h1, h2, h3⟩
        by_cases z : t = n
        · subst z; exact Or.inr h3.symm
        · exact Or.inl ⟨t, by omega, h2, h3⟩
      · rintro (⟨t, h1, h2, h3⟩ | z)
        · exact ⟨t, by omega, h2, h3⟩
        · exact ⟨n, Nat.lt_succ_self _, q.1, z.symm⟩
    · rw [(hmy_s A key n).2 q, ih]
      refine hcd_ext N (fun x _ => ⟨fun ⟨t, h1, h2⟩ => ⟨t, by omega, h2⟩, fun ⟨t, h1, h2, h3⟩ => ?_⟩)
      by_cases z : t = n
      · subst z
        have : ∃ u, u < t ∧ A u ∧ key u = key t := Classical.byContradiction (fun w => q ⟨h2, fun u hu y => w ⟨u, hu, y⟩⟩)
        obtain ⟨u, h4, h5, h6⟩ := this
        exact ⟨u, h4, h5, h6.trans h3⟩
      · exact ⟨t, by omega, h2, h3⟩
theorem hpc_s : ∀ n m, hpc (n + 1) m = hpc n m + (if m.testBit n = true then 1 else 0)
  | 0, m => by
    show m % 2 + 0 = 0 + _
    rw [Nat.testBit_zero]
    rcases Nat.mod_two_eq_zero_or_one m with q | q <;> rw [q] <;> rfl
  | n + 1, m => by
    show m % 2 + hpc (n + 1) (m / 2) = (m % 2 + hpc n (m / 2)) + _
    rw [hpc_s n (m / 2), Nat.testBit_succ]
    omega
theorem hpc_cd (m : Nat) : ∀ n, hpc n m = hcd (fun x => m.testBit x = true) n
  | 0 => rfl
  | n + 1 => by
    rw [hpc_s]
    by_cases q : m.testBit n = true
    · rw [if_pos q, (hcd_s (fun x => m.testBit x = true) n).1 q, hpc_cd m n]
    · rw [if_neg q, (hcd_s (fun x => m.testBit x = true) n).2 q, hpc_cd m n]; rfl
-- WHAT A PATTERN'S NUMBERS LEAVE
/-- a b c has the numbers of J -/
def hNm (J : Nat → Nat) (a b c : Nat) : Prop := (J 0 < 64 → J 0 = a) ∧ (J 1 < 64 → J 1 = b) ∧ (J 2 < 64 → J 2 = c)
theorem hkn0 (x : Nat) : ¬ hkn (nI 0) x := fun h => h.2 (Int32.zero_and)
theorem hfx0 (J : Nat → Nat) (p : Nat) : hfx J (nI 0) (p + 1) = if J p < 64 then hfx J (nI 0) p ||| 2 ^ p else hfx J (nI 0) p := by
  show (if J p < 64 ∨ hkn (nI 0) (J p) then _ else _) = _
  by_cases h : J p < 64
  · rw [if_pos (Or.inl h), if_pos h]
  · rw [if_neg (fun z => z.elim h (hkn0 _)), if_neg h]
/-- the codes that agree with a key in the fixed places -/
theorem hagr {m a b c x y z : Nat} (hm : m < 8) (ha : a < 64) (hb : b < 64) (hc : c < 64) (hx : x < 64) (hy : y < 64) (hz : z < 64) (h0 : m % 2 = 0 → x = 0) (h1 : m / 2 % 2 = 0 → y = 0) (h2 : m / 4 % 2 = 0 → z = 0) : ((hvc (hview m) x y z ≤ hvc (hview m) a b c ∧ hvc (hview m) a b c < hvc (hview m) x y z + 2 ^ hopen m) ↔ ((m % 2 = 1 → x = a) ∧ (m / 2 % 2 = 1 → y = b) ∧ (m / 4 % 2 = 1 → z = c))) ∧ (hvc (hview m) a b c / 2 ^ hopen m = hvc (hview m) x y z / 2 ^ hopen m ↔ ((m % 2 = 1 → x = a) ∧ (m / 2 % 2 = 1 → y = b) ∧ (m / 4 % 2 = 1 → z = c))) := by
  rcases (show m = 0 ∨ m = 1 ∨ m = 2 ∨ m = 3 ∨ m = 4 ∨ m = 5 ∨ m = 6 ∨ m = 7 by omega) with rfl | rfl | rfl | rfl | rfl | rfl | rfl | rfl
  · show (((x * 2 ^ 12 + y * 2 ^ 6 + z * 2 ^ 0) ≤ (a * 2 ^ 12 + b * 2 ^ 6 + c * 2 ^ 0) ∧ (a * 2 ^ 12 + b * 2 ^ 6 + c * 2 ^ 0) < (x * 2 ^ 12 + y * 2 ^ 6 + z * 2 ^ 0) + 2 ^ 18) ↔ ((0 % 2 = 1 → x = a) ∧ (0 / 2 % 2 = 1 → y = b) ∧ (0 / 4 % 2 = 1 → z = c))) ∧ ((a * 2 ^ 12 + b * 2 ^ 6 + c * 2 ^ 0) / 2 ^ 18 = (x * 2 ^ 12 + y * 2 ^ 6 + z * 2 ^ 0) / 2 ^ 18 ↔ ((0 % 2 = 1 → x = a) ∧ (0 / 2 % 2 = 1 → y = b) ∧ (0 / 4 % 2 = 1 → z = c)))
    omega
  · show (((x * 2 ^ 12 + y * 2 ^ 6 + z * 2 ^ 0) ≤ (a * 2 ^ 12 + b * 2 ^ 6 + c * 2 ^ 0) ∧ (a * 2 ^ 12 + b * 2 ^ 6 + c * 2 ^ 0) < (x * 2 ^ 12 + y * 2 ^ 6 + z * 2 ^ 0) + 2 ^ 12) ↔ ((1 % 2 = 1 → x = a) ∧ (1 / 2 % 2 = 1 → y = b) ∧ (1 / 4 % 2 = 1 → z = c))) ∧ ((a * 2 ^ 12 + b * 2 ^ 6 + c * 2 ^ 0) / 2 ^ 12 = (x * 2 ^ 12 + y * 2 ^ 6 + z * 2 ^ 0) / 2 ^ 12 ↔ ((1 % 2 = 1 → x = a) ∧ (1 / 2 % 2 = 1 → y = b) ∧ (1 / 4 % 2 = 1 → z = c)))
    omega
  · show (((x * 2 ^ 0 + y * 2 ^ 12 + z * 2 ^ 6) ≤ (a * 2 ^ 0 + b * 2 ^ 12 + c * 2 ^ 6) ∧ (a * 2 ^ 0 + b * 2 ^ 12 + c * 2 ^ 6) < (x * 2 ^ 0 + y * 2 ^ 12 + z * 2 ^ 6) + 2 ^ 12) ↔ ((2 % 2 = 1 → x = a) ∧ (2 / 2 % 2 = 1 → y = b) ∧ (2 / 4 % 2 = 1 → z = c))) ∧ ((a * 2 ^ 0 + b * 2 ^ 12 + c * 2 ^ 6) / 2 ^ 12 = (x * 2 ^ 0 + y * 2 ^ 12 + z * 2 ^ 6) / 2 ^ 12 ↔ ((2 % 2 = 1 → x = a) ∧ (2 / 2 % 2 = 1 → y = b) ∧ (2 / 4 % 2 = 1 → z = c)))
    omega
  · show (((x * 2 ^ 12 + y * 2 ^ 6 + z * 2 ^ 0) ≤ (a * 2 ^ 12 + b * 2 ^ 6 + c * 2 ^ 0) ∧ (a * 2 ^ 12 + b * 2 ^ 6 + c * 2 ^ 0) < (x * 2 ^ 12 + y * 2 ^ 6 + z * 2 ^ 0) + 2 ^ 6) ↔ ((3 % 2 = 1 → x = a) ∧ (3 / 2 % 2 = 1 → y = b) ∧ (3 / 4 % 2 = 1 → z = c))) ∧ ((a * 2 ^ 12 + b * 2 ^ 6 + c * 2 ^ 0) / 2 ^ 6 = (x * 2 ^ 12 + y * 2 ^ 6 + z * 2 ^ 0) / 2 ^ 6 ↔ ((3 % 2 = 1 → x = a) ∧ (3 / 2 % 2 = 1 → y = b) ∧ (3 / 4 % 2 = 1 → z = c)))
    omega
  · show (((x * 2 ^ 6 + y * 2 ^ 0 + z * 2 ^ 12) ≤ (a * 2 ^ 6 + b * 2 ^ 0 + c * 2 ^ 12) ∧ (a * 2 ^ 6 + b * 2 ^ 0 + c * 2 ^ 12) < (x * 2 ^ 6 + y * 2 ^ 0 + z * 2 ^ 12) + 2 ^ 12) ↔ ((4 % 2 = 1 → x = a) ∧ (4 / 2 % 2 = 1 → y = b) ∧ (4 / 4 % 2 = 1 → z = c))) ∧ ((a * 2 ^ 6 + b * 2 ^ 0 + c * 2 ^ 12) / 2 ^ 12 = (x * 2 ^ 6 + y * 2 ^ 0 + z * 2 ^ 12) / 2 ^ 12 ↔ ((4 % 2 = 1 → x = a) ∧ (4 / 2 % 2 = 1 → y = b) ∧ (4 / 4 % 2 = 1 → z = c)))
    omega
  · show (((x * 2 ^ 6 + y * 2 ^ 0 + z * 2 ^ 12) ≤ (a * 2 ^ 6 + b * 2 ^ 0 + c * 2 ^ 12) ∧ (a * 2 ^ 6 + b * 2 ^ 0 + c * 2 ^ 12) < (x * 2 ^ 6 + y * 2 ^ 0 + z * 2 ^ 12) + 2 ^ 6) ↔ ((5 % 2 = 1 → x = a) ∧ (5 / 2 % 2 = 1 → y = b) ∧ (5 / 4 % 2 = 1 → z = c))) ∧ ((a * 2 ^ 6 + b * 2 ^ 0 + c * 2 ^ 12) / 2 ^ 6 = (x * 2 ^ 6 + y * 2 ^ 0 + z * 2 ^ 12) / 2 ^ 6 ↔ ((5 % 2 = 1 → x = a) ∧ (5 / 2 % 2 = 1 → y = b) ∧ (5 / 4 % 2 = 1 → z = c)))
    omega
  · show (((x * 2 ^ 0 + y * 2 ^ 12 + z * 2 ^ 6) ≤ (a * 2 ^ 0 + b * 2 ^ 12 + c * 2 ^ 6) ∧ (a * 2 ^ 0 + b * 2 ^ 12 + c * 2 ^ 6) < (x * 2 ^ 0 + y * 2 ^ 12 + z * 2 ^ 6) + 2 ^ 6) ↔ ((6 % 2 = 1 → x = a) ∧ (6 / 2 % 2 = 1 → y = b) ∧ (6 / 4 % 2 = 1 → z = c))) ∧ ((a * 2 ^ 0 + b * 2 ^ 12 + c * 2 ^ 6) / 2 ^ 6 = (x * 2 ^ 0 + y * 2 ^ 12 + z * 2 ^ 6) / 2 ^ 6 ↔ ((6 % 2 = 1 → x = a) ∧ (6 / 2 % 2 = 1 → y = b) ∧ (6 / 4 % 2 = 1 → z = c)))
    omega
  · show (((x * 2 ^ 12 + y * 2 ^ 6 + z * 2 ^ 0) ≤ (a * 2 ^ 12 + b * 2 ^ 6 + c * 2 ^ 0) ∧ (a * 2 ^ 12 + b * 2 ^ 6 + c * 2 ^ 0) < (x * 2 ^ 12 + y * 2 ^ 6 + z * 2 ^ 0) + 2 ^ 0) ↔ ((7 % 2 = 1 → x = a) ∧ (7 / 2 % 2 = 1 → y = b) ∧ (7 / 4 % 2 = 1 → z = c))) ∧ ((a * 2 ^ 12 + b * 2 ^ 6 + c * 2 ^ 0) / 2 ^ 0 = (x * 2 ^ 12 + y * 2 ^ 6 + z * 2 ^ 0) / 2 ^ 0 ↔ ((7 % 2 = 1 → x = a) ∧ (7 / 2 % 2 = 1 → y = b) ∧ (7 / 4 % 2 = 1 → z = c)))
    omega
/-- what the numbers of J leave, in the view that measure takes -/
theorem hmat {J : Nat → Nat} {a b c : Nat} (ha : a < 64) (hb : b < 64) (hc : c < 64) : (hnk (hview (hfx J (nI 0) 3)) J 3 ≤ hvc (hview (hfx J (nI 0) 3)) a b c ∧ hvc (hview (hfx J (nI 0) 3)) a b c < hnk (hview (hfx J (nI 0) 3)) J 3 + 2 ^ hopen (hfx J (nI 0) 3)) ↔ hNm J a b c := by
  have h8 : hfx J (nI 0) 3 < 8 := hfx_lt J (nI 0) 3 (Nat.le_refl _)
  rw [hnk_3 (hview_lt _ h8)]
  have e : (hfx J (nI 0) 3 % 2 = if J 0 < 64 then 1 else 0) ∧ (hfx J (nI 0) 3 / 2 % 2 = if J 1 < 64 then 1 else 0) ∧ (hfx J (nI 0) 3 / 4 % 2 = if J 2 < 64 then 1 else 0) := by
    rw [hfx0, hfx0, hfx0]
    show ((if J 2 < 64 then (if J 1 < 64 then (if J 0 < 64 then 0 ||| 2 ^ 0 else 0) ||| 2 ^ 1 else (if J 0 < 64 then 0 ||| 2 ^ 0 else 0)) ||| 2 ^ 2 else (if J 1 < 64 then (if J 0 < 64 then 0 ||| 2 ^ 0 else 0) ||| 2 ^ 1 else (if J 0 < 64 then 0 ||| 2 ^ 0 else 0))) % 2 = _) ∧ ((if J 2 < 64 then (if J 1 < 64 then (if J 0 < 64 then 0 ||| 2 ^ 0 else 0) ||| 2 ^ 1 else (if J 0 < 64 then 0 ||| 2 ^ 0 else 0)) ||| 2 ^ 2 else (if J 1 < 64 then (if J 0 < 64 then 0 ||| 2 ^ 0 else 0) ||| 2 ^ 1 else (if J 0 < 64 then 0 ||| 2 ^ 0 else 0))) / 2 % 2 = _) ∧ ((if J 2 < 64 then (if J 1 < 64 then (if J 0 < 64 then 0 ||| 2 ^ 0 else 0) ||| 2 ^ 1 else (if J 0 < 64 then 0 ||| 2 ^ 0 else 0)) ||| 2 ^ 2 else (if J 1 < 64 then (if J 0 < 64 then 0 ||| 2 ^ 0 else 0) ||| 2 ^ 1 else (if J 0 < 64 then 0 ||| 2 ^ 0 else 0))) / 4 % 2 = _)
    by_cases q0 : J 0 < 64 <;> by_cases q1 : J 1 < 64 <;> by_cases q2 : J 2 < 64 <;> simp only [q0, q1, q2, ↓reduceIte] <;> decide
  obtain ⟨e0, e1, e2⟩ := e
  rw [(hagr h8 ha hb hc (hnum_lt _) (hnum_lt _) (hnum_lt _) (fun h => ?_) (fun h => ?_) (fun h => ?_)).1]
  · unfold hNm hnum
    rw [e0, e1, e2]
    by_cases q0 : J 0 < 64 <;> by_cases q1 : J 1 < 64 <;> by_cases q2 : J 2 < 64 <;> simp [q0, q1, q2]
  · rw [e0] at h; unfold hnum; split at h
    · omega
    · rw [if_neg (by assumption)]
  · rw [e1] at h; unfold hnum; split at h
    · omega
    · rw [if_neg (by assumption)]
  · rw [e2] at h; unfold hnum; split at h
    · omega
    · rw [if_neg (by assumption)]

theorem hmy_all {A : Nat → Prop} {key : Nat → Nat} : ∀ n, (∀ t, t < n → A t) → (∀ u t, u < t → t < n → key u ≠ key t) → hmy A key n = n
  | 0, _, _ => rfl
  | n + 1, h1, h2 => by
    rw [(hmy_s A key n).1 ⟨h1 n (Nat.lt_succ_self _), fun u hu z => h2 u n hu (Nat.lt_succ_self _) z.2⟩, hmy_all n (fun t ht => h1 t (by omega)) (fun u t h3 h4 => h2 u t h3 (by omega))]
/-- the number at place q -/
def hpk (q a b c : Nat) : Nat := if q = 0 then a else if q = 1 then b else c
theorem hpk_lt {q a b c : Nat} (ha : a < 64) (hb : b < 64) (hc : c < 64) : hpk q a b c < 64 := by
  unfold hpk
  split
  · exact ha
  · split
    · exact hb
    · exact hc
theorem hpn_vc {v q a b c : Nat} (hv : v < 3) (hq : q < 3) (ha : a < 64) (hb : b < 64) (hc : c < 64) : hpn v q (hvc v a b c) = hpk q a b c := by
  rcases (show v = 0 ∨ v = 1 ∨ v = 2 by omega) with rfl | rfl | rfl <;> rcases (show q = 0 ∨ q = 1 ∨ q = 2 by omega) with rfl | rfl | rfl
  · show (a * 2 ^ 12 + b * 2 ^ 6 + c * 2 ^ 0) / 2 ^ 12 % 64 = a
    omega
  · show (a * 2 ^ 12 + b * 2 ^ 6 + c * 2 ^ 0) / 2 ^ 6 % 64 = b
    omega
  · show (a * 2 ^ 12 + b * 2 ^ 6 + c * 2 ^ 0) / 2 ^ 0 % 64 = c
    omega
  · show (a * 2 ^ 0 + b * 2 ^ 12 + c * 2 ^ 6) / 2 ^ 0 % 64 = a
    omega
  · show (a * 2 ^ 0 + b * 2 ^ 12 + c * 2 ^ 6) / 2 ^ 12 % 64 = b
    omega
  · show (a * 2 ^ 0 + b * 2 ^ 12 + c * 2 ^ 6) / 2 ^ 6 % 64 = c
    omega
  · show (a * 2 ^ 6 + b * 2 ^ 0 + c * 2 ^ 12) / 2 ^ 6 % 64 = a
    omega
  · show (a * 2 ^ 6 + b * 2 ^ 0 + c * 2 ^ 12) / 2 ^ 0 % 64 = b
    omega
  · show (a * 2 ^ 6 + b * 2 ^ 0 + c * 2 ^ 12) / 2 ^ 12 % 64 = c
    omega
/-- the triples of S that have the numbers of J -/
def hSm (S : Nat → Nat → Nat → Prop) (J : Nat → Nat) (a b c : Nat) : Prop := a < 64 ∧ b < 64 ∧ c < 64 ∧ S a b c ∧ hNm J a b c
theorem hrange {S : Nat → Nat → Nat → Prop} {g : Nat → Nat → Nat} {cnt : Nat} (hs : ∀ v, v < 3 → hSor (g v) cnt (hXv S v)) (J : Nat → Nat) (i : Nat) : (hlbf (g (hview (hfx J (nI 0) 3))) cnt (hnk (hview (hfx J (nI 0) 3)) J 3) ≤ i ∧ i < hlbf (g (hview (hfx J (nI 0) 3))) cnt (hnk (hview (hfx J (nI 0) 3)) J 3) + hMm g cnt J) ↔ (i < cnt ∧ ∃ a b c, hSm S J a b c ∧ g (hview (hfx J (nI 0) 3)) i = hvc (hview (hfx J (nI 0) 3)) a b c) := by
  have h8 : hfx J (nI 0) 3 < 8 := hfx_lt J (nI 0) 3 (Nat.le_refl _)
  have hv := hview_lt _ h8
  have h1 := (hs _ hv).lb (hnk (hview (hfx J (nI 0) 3)) J 3)
  have h2 := (hs _ hv).lb (hnk (hview (hfx J (nI 0) 3)) J 3 + 2 ^ hopen (hfx J (nI 0) 3))
  have hm := h1.mono h2 (Nat.le_add_right _ _)
  unfold hMm
  have key : i < cnt → ((∃ a b c, hSm S J a b c ∧ g (hview (hfx J (nI 0) 3)) i = hvc (hview (hfx J (nI 0) 3)) a b c) ↔ (hnk (hview (hfx J (nI 0) 3)) J 3 ≤ g (hview (hfx J (nI 0) 3)) i ∧ g (hview (hfx J (nI 0) 3)) i < hnk (hview (hfx J (nI 0) 3)) J 3 + 2 ^ hopen (hfx J (nI 0) 3))) := fun hi => by
    obtain ⟨a, b, c, ha, hb, hc, hS, e⟩ := ((hs _ hv).2 _).mpr ⟨i, hi, rfl⟩
    rw [e]
    rw [hmat ha hb hc]
    constructor
    · rintro ⟨a', b', c', ⟨h1, h2, h3, -, h5⟩, h6⟩
      obtain ⟨rfl, rfl, rfl⟩ := hvc_inj hv ha hb hc h1 h2 h3 h6
      exact h5
    · exact fun h => ⟨a, b, c, ⟨ha, hb, hc, hS, h⟩, rfl⟩
  constructor
  · rintro ⟨a1, a2⟩
    have hc : i < cnt := by have := h2.1; omega
    refine ⟨hc, (key hc).mpr ⟨h1.2.2 i a1 hc, h2.2.1 i (by omega)⟩⟩
  · rintro ⟨hc, h⟩
    obtain ⟨k1, k2⟩ := (key hc).mp h
    refine ⟨?_, ?_⟩
    · rcases Nat.lt_or_ge i (hlbf (g (hview (hfx J (nI 0) 3))) cnt (hnk (hview (hfx J (nI 0) 3)) J 3)) with z | z
      · have := h1.2.1 i z; omega
      · exact z
    · rcases Nat.lt_or_ge i (hlbf (g (hview (hfx J (nI 0) 3))) cnt (hnk (hview (hfx J (nI 0) 3)) J 3 + 2 ^ hopen (hfx J (nI 0) 3))) with z | z
      · omega
      · have := h2.2.2 i z hc; omega
theorem hMm_cd {S : Nat → Nat → Nat → Prop} {g : Nat → Nat → Nat} {cnt : Nat} (hs : ∀ v, v < 3 → hSor (g v) cnt (hXv S v)) (J : Nat → Nat) : hMm g cnt J = hcd (fun x => ∃ a b c, hSm S J a b c ∧ x = hvc (hview (hfx J (nI 0) 3)) a b c) 262144 := by
  have h8 : hfx J (nI 0) 3 < 8 := hfx_lt J (nI 0) 3 (Nat.le_refl _)
  have hv := hview_lt _ h8
  have hr := hrange hs J
  generalize hlbf (g (hview (hfx J (nI 0) 3))) cnt (hnk (hview (hfx J (nI 0) 3)) J 3) = lo at hr
  generalize hMm g cnt J = n at hr
  generalize hview (hfx J (nI 0) 3) = v at hr hv
  have hin : ∀ t, t < n → lo + t < cnt := fun t ht => ((hr (lo + t)).mp ⟨by omega, by omega⟩).1
  have e := hmy_all (A := fun _ => True) (key := fun t => g v (lo + t)) n (fun _ _ => trivial) (fun u t h1 h2 => Nat.ne_of_lt ((hs v hv).1 _ _ (by omega) (hin t h2)))
  rw [hmy_cd (N := 262144) n (fun t ht => ?_)] at e
  · rw [← e]
    refine hcd_ext _ (fun x _ => ?_)
    constructor
    · rintro ⟨t, h1, -, h2⟩
      obtain ⟨-, a, b, c, h3, h4⟩ := (hr (lo + t)).mp ⟨by omega, by omega⟩
      exact ⟨a, b, c, h3, h2.symm.trans h4⟩
    · rintro ⟨a, b, c, h1, rfl⟩
      obtain ⟨i, hi, h2⟩ := ((hs v hv).2 _).mp ⟨a, b, c, h1.1, h1.2.1, h1.2.2.1, h1.2.2.2.1, rfl⟩
      obtain ⟨h3, h4⟩ := (hr i).mpr ⟨hi, a, b, c, h1, h2⟩
      exact ⟨i - lo, by omega, trivial, by rw [show lo + (i - lo) = i by omega]; exact h2⟩
  · obtain ⟨a, b, c, h1, h2, h3, -, h5⟩ := ((hs v hv).2 _).mpr ⟨lo + t, hin t ht, rfl⟩
    show g v (lo + t) < _
    rw [h5]
    exact hvc_lt hv h1 h2 h3
theorem hDd_cd {S : Nat → Nat → Nat → Prop} {g : Nat → Nat → Nat} {cnt : Nat} (hs : ∀ v, v < 3 → hSor (g v) cnt (hXv S v)) (J : Nat → Nat) {q : Nat} (hq : q < 3) : hDd g cnt J q = hcd (fun x => ∃ a b c, hSm S J a b c ∧ x = hpk q a b c) 64 := by
  have h8 : hfx J (nI 0) 3 < 8 := hfx_lt J (nI 0) 3 (Nat.le_refl _)
  have hv := hview_lt _ h8
  have hr := hrange hs J
  unfold hDd
  rw [hbc_pc (hsn_lt (fun i => hpn_lt _ _ _) _), hpc_cd]
  generalize hlbf (g (hview (hfx J (nI 0) 3))) cnt (hnk (hview (hfx J (nI 0) 3)) J 3) = lo at hr ⊢
  generalize hMm g cnt J = n at hr ⊢
  generalize hview (hfx J (nI 0) 3) = v at hr hv ⊢
  refine hcd_ext _ (fun x _ => ?_)
  rw [hsn_bit]
  constructor
  · rintro ⟨i, h1, h2, h3⟩
    obtain ⟨-, a, b, c, h4, h5⟩ := (hr i).mp ⟨h1, h2⟩
    exact ⟨a, b, c, h4, by rw [← h3]; rw [h5, hpn_vc hv hq h4.1 h4.2.1 h4.2.2.1]⟩
  · rintro ⟨a, b, c, h1, rfl⟩
    obtain ⟨i, hi, h2⟩ := ((hs v hv).2 _).mp ⟨a, b, c, h1.1, h1.2.1, h1.2.2.1, h1.2.2.2.1, rfl⟩
    obtain ⟨h3, h4⟩ := (hr i).mpr ⟨hi, a, b, c, h1, h2⟩
    exact ⟨i, h3, h4, by rw [h2, hpn_vc hv hq h1.1 h1.2.1 h1.2.2.1]⟩
/-- how many triples of S have the numbers of J; how many numbers stand at place q of these -/
noncomputable def hNN (S : Nat → Nat → Nat → Prop) (J : Nat → Nat) : Nat := hcd (fun x => ∃ a b c, hSm S J a b c ∧ x = hvc (hview (hfx J (nI 0) 3)) a b c) 262144
noncomputable def hNd (S : Nat → Nat → Nat → Prop) (J : Nat → Nat) (q : Nat) : Nat := hcd (fun x => ∃ a b c, hSm S J a b c ∧ x = hpk q a b c) 64
theorem hNd_le (S : Nat → Nat → Nat → Prop) (J : Nat → Nat) (q : Nat) : hNd S J q ≤ 64 := hcd_le _ _
theorem hNd_pos {S : Nat → Nat → Nat → Prop} {J : Nat → Nat} (h : 1 ≤ hNN S J) (q : Nat) : 1 ≤ hNd S J q := by
  rcases Nat.eq_zero_or_pos (hNd S J q) with z | z
  · have hno : ∀ a b c, ¬ hSm S J a b c := fun a b c w => by
      have := hcd_pos (P := fun x => ∃ a b c, hSm S J a b c ∧ x = hpk q a b c) (x := hpk q a b c) ⟨a, b, c, w, rfl⟩ 64 (hpk_lt w.1 w.2.1 w.2.2.1)
      have z : hcd (fun x => ∃ a b c, hSm S J a b c ∧ x = hpk q a b c) 64 = 0 := z
      omega
    have : hNN S J = 0 := hcd_none _ (fun x _ ⟨a, b, c, w, _⟩ => hno a b c w)
    omega
  · exact z

-- THE BEST ORDER: the first of the least
theorem hVl_cons (x : Nat) (t : Nat → Nat) : ∀ k, hVl (fun i => if i = 0 then x else t (i - 1)) (k + 1) = x * 6 ^ k + hVl t k
  | 0 => by
    show 0 * 6 + x = x * 1 + 0
    omega
  | k + 1 => by
    have ih := hVl_cons x t k
    show hVl (fun i => if i = 0 then x else t (i - 1)) (k + 1) * 6 + (if k + 1 = 0 then x else t (k + 1 - 1)) = x * 6 ^ (k + 1) + (hVl t k * 6 + t k)
    rw [ih, if_neg (by omega), Nat.add_sub_cancel, Nat.pow_succ, Nat.add_mul, Nat.mul_assoc]
    omega
abbrev hLf9 (q : List Nat) : Nat → Nat := fun k => q.getD k 0
theorem hVl_list (x : Nat) (q : List Nat) (k : Nat) : hVl (hLf9 (x :: q)) (k + 1) = x * 6 ^ k + hVl (hLf9 q) k := by
  rw [← hVl_cons]
  refine hVl_eq _ (fun j _ => ?_)
  cases j with
  | zero => rfl
  | succ j => rfl
theorem hcmp_mem (np : Nat) : ∀ (r : Nat) (o q : List Nat), q ∈ hcmp np r o → q.length = r ∧ (∀ x, x ∈ q → x < np) ∧ (o.Nodup → (o ++ q).Nodup)
  | 0, o, q, h => by
    have e : q = [] := List.mem_singleton.mp h
    subst e
    exact ⟨rfl, fun x hx => absurd hx List.not_mem_nil, fun ho => by rw [List.append_nil]; exact ho⟩
  | r + 1, o, q, h => by
    obtain ⟨x, hx, h⟩ := List.mem_flatMap.mp h
    by_cases z : x ∈ o
    · rw [if_pos z] at h; exact absurd h List.not_mem_nil
    · rw [if_neg z] at h
      obtain ⟨q1, h1, rfl⟩ := List.mem_map.mp h
      obtain ⟨i1, i2, i3⟩ := hcmp_mem np r (o ++ [x]) q1 h1
      refine ⟨by rw [List.length_cons, i1], fun y hy => ?_, fun ho => ?_⟩
      · rcases List.mem_cons.mp hy with rfl | hy
        · exact List.mem_range.mp hx
        · exact i2 y hy
      · have := i3 (hnd_add ho z)
        rw [List.append_assoc] at this
        exact this
theorem hcmp_all (np : Nat) : ∀ (r : Nat) (o q : List Nat), q.length = r → (∀ x, x ∈ q → x < np) → (o ++ q).Nodup → q ∈ hcmp np r o
  | 0, o, q, h, _, _ => by
    rw [List.length_eq_zero_iff.mp h]
    exact List.mem_singleton.mpr rfl
  | r + 1, o, [], h, _, _ => absurd h (by simp)
  | r + 1, o, x :: q, h, hx, hn => by
    refine List.mem_flatMap.mpr ⟨x, List.mem_range.mpr (hx x List.mem_cons_self), ?_⟩
    have hxo : x ∉ o := fun z => by
      rw [List.nodup_append] at hn
      exact hn.2.2 x z x List.mem_cons_self rfl
    rw [if_neg hxo]
    refine List.mem_map.mpr ⟨q, hcmp_all np r (o ++ [x]) q (by simpa using h) (fun y hy => hx y (List.mem_cons_of_mem _ hy)) ?_, rfl⟩
    rw [List.append_assoc]
    exact hn
theorem hpw_flat {β : Type} {R : β → β → Prop} {g : Nat → List β} : ∀ n, (∀ x, x < n → (g x).Pairwise R) → (∀ x y, x < y → y < n → ∀ p, p ∈ g x → ∀ q, q ∈ g y → R p q) → ((List.range n).flatMap g).Pairwise R
  | 0, _, _ => List.Pairwise.nil
  | n + 1, h1, h2 => by
    rw [List.range_succ, List.flatMap_append, List.pairwise_append]
    refine ⟨hpw_flat n (fun x hx => h1 x (by omega)) (fun x y hx hy => h2 x y hx (by omega)), ?_, fun p hp q hq => ?_⟩
    · rw [List.flatMap_singleton]; exact h1 n (Nat.lt_succ_self _)
    · rw [List.flatMap_singleton] at hq
      obtain ⟨x, hx, hp⟩ := List.mem_flatMap.mp hp
      exact h2 x n (List.mem_range.mp hx) (Nat.lt_succ_self _) p hp q hq
theorem hcmp_up (np : Nat) (hnp : np ≤ 6) : ∀ (r : Nat) (o : List Nat), (hcmp np r o).Pairwise (fun p q => hVl (hLf9 p) r < hVl (hLf9 q) r)
  | 0, _ => List.pairwise_singleton _ _
  | r + 1, o => by
    refine hpw_flat np (fun x hx => ?_) (fun x y hxy hy p hp q hq => ?_)
    · by_cases z : x ∈ o
      · rw [if_pos z]; exact List.Pairwise.nil
      · rw [if_neg z, List.pairwise_map]
        refine (hcmp_up np hnp r (o ++ [x])).imp (fun {p q} h => ?_)
        rw [hVl_list, hVl_list]
        omega
    · by_cases z : x ∈ o
      · rw [if_pos z] at hp; exact absurd hp List.not_mem_nil
      · rw [if_neg z] at hp
        by_cases w : y ∈ o
        · rw [if_pos w] at hq; exact absurd hq List.not_mem_nil
        · rw [if_neg w] at hq
          obtain ⟨p1, hp1, rfl⟩ := List.mem_map.mp hp
          obtain ⟨q1, hq1, rfl⟩ := List.mem_map.mp hq
          obtain ⟨i1, i2, -⟩ := hcmp_mem np r _ p1 hp1
          rw [hVl_list, hVl_list]
          have hb : hVl (hLf9 p1) r < 6 ^ r := hVl_le r (fun j hj => by
            have := i2 ((hLf9 p1) j) (by
              show p1.getD j 0 ∈ p1
              rw [List.getD_eq_getElem?_getD, List.getElem?_eq_getElem (by omega)]
              exact List.getElem_mem _)
            omega)
          have : (x + 1) * 6 ^ r ≤ y * 6 ^ r := Nat.mul_le_mul_right _ hxy
          rw [Nat.add_mul, Nat.one_mul] at this
          omega
theorem hmin_fold (E : Nat → Nat → Nat) (V : Nat → Nat) (kn s c : Nat) : ∀ (l : List (List Nat)) (st : Nat × List Nat), (l.foldl (hTk E V [] kn s c) st = st ∧ ∀ q, q ∈ l → st.1 ≤ hcst E V q kn s c) ∨ ∃ l1 q l2, l = l1 ++ q :: l2 ∧ l.foldl (hTk E V [] kn s c) st = (hcst E V q kn s c, q) ∧ (∀ p, p ∈ l1 → hcst E V q kn s c < hcst E V p kn s c) ∧ (∀ p, p ∈ l2 → hcst E V q kn s c ≤ hcst E V p kn s c) ∧ hcst E V q kn s c < st.1
  | [], st => Or.inl ⟨rfl, fun q h => absurd h List.not_mem_nil⟩
  | x :: l, st => by
    by_cases z : hcst E V x kn s c < st.1
    · have e : (x :: l).foldl (hTk E V [] kn s c) st = l.foldl (hTk E V [] kn s c) (hcst E V x kn s c, x) := by
        show l.foldl _ (if hcst E V x kn s c < st.1 then (hcst E V x kn s c, [] ++ x) else st) = _
        rw [if_pos z]; rfl
      rw [e]
      rcases hmin_fold E V kn s c l (hcst E V x kn s c, x) with ⟨h1, h2⟩ | ⟨l1, q, l2, h1, h2, h3, h4, h5⟩
      · exact Or.inr ⟨[], x, l, rfl, h1, fun p hp => absurd hp List.not_mem_nil, h2, z⟩
      · exact Or.inr ⟨x :: l1, q, l2, by rw [h1]; rfl, h2, fun p hp => by
          rcases List.mem_cons.mp hp with rfl | hp
          · exact h5
          · exact h3 p hp, h4, Nat.lt_trans h5 z⟩
    · have e : (x :: l).foldl (hTk E V [] kn s c) st = l.foldl (hTk E V [] kn s c) st := by
        show l.foldl _ (if hcst E V x kn s c < st.1 then (hcst E V x kn s c, [] ++ x) else st) = _
        rw [if_neg z]
      rw [e]
      rcases hmin_fold E V kn s c l st with ⟨h1, h2⟩ | ⟨l1, q, l2, h1, h2, h3, h4, h5⟩
      · refine Or.inl ⟨h1, fun q hq => ?_⟩
        rcases List.mem_cons.mp hq with rfl | hq
        · omega
        · exact h2 q hq
      · refine Or.inr ⟨x :: l1, q, l2, by rw [h1]; rfl, h2, fun p hp => ?_, h4, h5⟩
        rcases List.mem_cons.mp hp with rfl | hp
        · omega
        · exact h3 p hp
/-- the order B costs least, and stands before all that cost as much -/
def hBst (C : (Nat → Nat) → Nat) (np : Nat) (B : Nat → Nat) : Prop := hPm B np ∧ ∀ u, hPm u np → C B < C u ∨ (C B = C u ∧ hVl B np ≤ hVl u np)
theorem hBst.uniq {C : (Nat → Nat) → Nat} {np : Nat} {B B' : Nat → Nat} (hnp : np ≤ 6) (h : hBst C np B) (h' : hBst C np B') : C B = C B' ∧ ∀ k, k < np → B k = B' k := by
  have h1 := h.2 B' h'.1
  have h2 := h'.2 B h.1
  refine ⟨by omega, ?_⟩
  have e : hVl B np = hVl B' np := by omega
  have b6 : ∀ k, k < np → B k < 6 := fun k hk => by have := h.1.1 k hk; omega
  have b6' : ∀ k, k < np → B' k < 6 := fun k hk => by have := h'.1.1 k hk; omega
  refine fun k hk => Classical.byContradiction (fun hne => ?_)
  obtain ⟨d, ⟨k1, k2⟩, k3⟩ := pk_least (fun d => d < np ∧ ¬ B d = B' d) ⟨k, hk, hne⟩
  have hp : ∀ j, j < d → B j = B' j := fun j hj => Classical.byContradiction (fun q => k3 j hj ⟨by omega, q⟩)
  rcases Nat.lt_trichotomy (B d) (B' d) with z | z | z
  · have e2 := hVl_lt (t := B) (t1 := B') (b := d) (fun j hj => (hp j hj).symm) z (np - (d + 1)) (fun j hj => b6 j (by omega))
    rw [show d + 1 + (np - (d + 1)) = np by omega] at e2
    omega
  · exact k2 z
  · have e2 := hVl_lt (t := B') (t1 := B) (b := d) hp z (np - (d + 1)) (fun j hj => b6' j (by omega))
    rw [show d + 1 + (np - (d + 1)) = np by omega] at e2
    omega
theorem hPm_list {q : List Nat} {np : Nat} (h1 : q.length = np) (h2 : ∀ x, x ∈ q → x < np) (h3 : q.Nodup) : hPm (hLf9 q) np := by
  have g : ∀ j, (hj : j < np) → hLf9 q j = q[j]'(by omega) := fun j hj => by
    show q.getD j 0 = _
    rw [List.getD_eq_getElem?_getD, List.getElem?_eq_getElem (by omega)]
    rfl
  refine ⟨fun k hk => ?_, fun i j hi hj e => ?_⟩
  · rw [g k hk]; exact h2 _ (List.getElem_mem _)
  · rw [g i hi, g j hj] at e
    exact (List.getElem?_inj (i := i) (j := j) (by omega) h3).mp (by rw [List.getElem?_eq_getElem (by omega), List.getElem?_eq_getElem (by omega), e])
theorem hPm.list {t : Nat → Nat} {n : Nat} (h : hPm t n) : ((List.range n).map t).length = n ∧ (∀ x, x ∈ (List.range n).map t → x < n) ∧ ((List.range n).map t).Nodup := by
  refine ⟨by rw [List.length_map, List.length_range], fun x hx => ?_, ?_⟩
  · obtain ⟨m, h1, h2⟩ := List.mem_map.mp hx
    rw [← h2]
    exact h.1 m (List.mem_range.mp h1)
  · have hnd : ∀ k, k ≤ n → ((List.range k).map t).Nodup := fun k => by
      induction k with
      | zero => intro _; exact List.nodup_nil
      | succ k ih =>
        intro hk
        rw [List.range_succ, List.map_append]
        refine hnd_add (ih (by omega)) (fun hm => ?_)
        obtain ⟨m, h1, h2⟩ := List.mem_map.mp hm
        have h1 := List.mem_range.mp h1
        have := h.2 m k (by omega) (by omega) h2
        omega
    exact hnd n (Nat.le_refl _)
theorem hmap_get {t : Nat → Nat} {n k : Nat} (hk : k < n) : hLf9 ((List.range n).map t) k = t k := by
  show ((List.range n).map t).getD k 0 = t k
  rw [List.getD_eq_getElem?_getD, List.getElem?_map, List.getElem?_range hk]
  rfl
/-- the search's answer is the best order -/
theorem hSe_best {np : Nat} {E : Nat → Nat → Nat} {V : Nat → Nat} {C : (Nat → Nat) → Nat} {ob : List Nat} (hnp : np ≤ 6) (hC : ∀ q : List Nat, q.length = np → (∀ x, x ∈ q → x < np) → hcst E V q 0 1 0 = C (hLf9 q)) (hCe : ∀ t u : Nat → Nat, (∀ k, k < np → t k = u k) → C t = C u) : hBst C np (hLf9 (hSe np E V np [] 0 1 0 (1000000000001, ob)).2) ∧ (hSe np E V np [] 0 1 0 (1000000000001, ob)).1 = C (hLf9 (hSe np E V np [] 0 1 0 (1000000000001, ob)).2) ∧ (hSe np E V np [] 0 1 0 (1000000000001, ob)).2.length = np := by
  rw [hSe_fold np E V np [] 0 1 0 (1000000000001, ob) (by decide) (by show 0 < 1000000000001; decide)]
  have hpm := hcmp_up np hnp np []
  have hin : ∀ u, hPm u np → (List.range np).map u ∈ hcmp np np [] := fun u hu => hcmp_all np np [] _ hu.list.1 hu.list.2.1 (by rw [List.nil_append]; exact hu.list.2.2)
  rcases hmin_fold E V 0 1 0 (hcmp np np []) (1000000000001, ob) with ⟨-, h2⟩ | ⟨l1, q, l2, h1, h2, h3, h4, -⟩
  · have hid : hPm (fun k => k) np := ⟨fun _ h => h, fun _ _ _ _ h => h⟩
    have a := h2 _ (hin _ hid)
    have b := (hcst_ge E V ((List.range np).map (fun k => k)) 0 1 0 (by decide)).2
    have e : hMX = 1000000000000 := rfl
    have a : 1000000000001 ≤ hcst E V ((List.range np).map (fun k => k)) 0 1 0 := a
    omega
  · rw [h2]
    have hq : q ∈ hcmp np np [] := by rw [h1]; exact List.mem_append_right _ List.mem_cons_self
    obtain ⟨q1, q2, q3⟩ := hcmp_mem np np [] q hq
    have q3 := q3 List.nodup_nil
    rw [List.nil_append] at q3
    refine ⟨⟨hPm_list q1 q2 q3, fun u hu => ?_⟩, hC q q1 q2, q1⟩
    have hu1 := hin u hu
    have eu : hcst E V ((List.range np).map u) 0 1 0 = C u := (hC _ hu.list.1 hu.list.2.1).trans (hCe _ _ (fun k hk => hmap_get hk))
    have vu : hVl (hLf9 ((List.range np).map u)) np = hVl u np := hVl_eq _ (fun k hk => hmap_get hk)
    show C (hLf9 q) < C u ∨ _
    rw [← hC q q1 q2, ← eu, ← vu]
    rw [h1] at hu1 hpm
    rcases List.mem_append.mp hu1 with z | z
    · exact Or.inl (h3 _ z)
    · rcases List.mem_cons.mp z with z | z
      · rw [z]; exact Or.inr ⟨rfl, Nat.le_refl _⟩
      · have a := h4 _ z
        rw [List.pairwise_append] at hpm
        have b := (List.pairwise_cons.mp hpm.2.1).1 _ z
        rcases Nat.lt_or_ge (hcst E V q 0 1 0) (hcst E V ((List.range np).map u) 0 1 0) with w | w
        · exact Or.inl w
        · exact Or.inr ⟨by omega, Nat.le_of_lt b⟩
theorem hcst_ext {E E2 : Nat → Nat → Nat} {V : Nat → Nat} : ∀ (q : List Nat) (kn s c : Nat), (∀ x, x ∈ q → ∀ k, E x k = E2 x k) → hcst E V q kn s c = hcst E2 V q kn s c
  | [], _, _, _, _ => rfl
  | x :: q, kn, s, c, h => by
    show hcst E V q (kn ||| V x) (hsz E x kn s) (hct c (hsz E x kn s)) = hcst E2 V q (kn ||| V x) (hsz E2 x kn s) (hct c (hsz E2 x kn s))
    rw [hcst_ext q _ _ _ (fun y hy => h y (List.mem_cons_of_mem _ hy))]
    unfold hsz
    rw [h x List.mem_cons_self]
theorem hid_least {u : Nat → Nat} {n : Nat} (hn : n ≤ 6) (hu : hPm u n) : hVl (fun k => k) n ≤ hVl u n := by
  rcases Nat.lt_or_ge (hVl u n) (hVl (fun k => k) n) with z | z
  · obtain ⟨d, h1, h2, h3⟩ := hfirst (t := u) (u := fun k => k) (fun k hk => by have := hu.1 k hk; omega) (fun k hk => by show k < 6; omega) z
    have h3 : u d < d := h3
    have e : u (u d) = u d := (h2 (u d) h3).symm
    have := hu.2 (u d) d (by omega) h1 e
    omega
  · exact z
theorem hVl_inj {t u : Nat → Nat} {n : Nat} (ht : ∀ k, k < n → t k < 6) (hu : ∀ k, k < n → u k < 6) (e : hVl t n = hVl u n) : ∀ k, k < n → t k = u k := fun k hk => Classical.byContradiction (fun hne => by
  obtain ⟨d, ⟨k1, k2⟩, k3⟩ := pk_least (fun d => d < n ∧ ¬ t d = u d) ⟨k, hk, hne⟩
  have hp : ∀ j, j < d → t j = u j := fun j hj => Classical.byContradiction (fun q => k3 j hj ⟨by omega, q⟩)
  rcases Nat.lt_trichotomy (t d) (u d) with z | z | z
  · have e2 := hVl_lt (t := t) (t1 := u) (b := d) (fun j hj => (hp j hj).symm) z (n - (d + 1)) (fun j hj => ht j (by omega))
    rw [show d + 1 + (n - (d + 1)) = n by omega] at e2
    omega
  · exact k2 z
  · have e2 := hVl_lt (t := u) (t1 := t) (b := d) hp z (n - (d + 1)) (fun j hj => hu j (by omega))
    rw [show d + 1 + (n - (d + 1)) = n by omega] at e2
    omega)
/-- B is the best of those before t -/
def hBto (C : (Nat → Nat) → Nat) (np : Nat) (v : Nat) (B : Nat → Nat) : Prop := hPm B np ∧ hVl B np < v ∧ ∀ u, hPm u np → hVl u np < v → C B < C u ∨ (C B = C u ∧ hVl B np ≤ hVl u np)
theorem hBto.keep {C : (Nat → Nat) → Nat} {np : Nat} {B t : Nat → Nat} (hnp : np ≤ 6) (hCe : ∀ t u : Nat → Nat, (∀ k, k < np → t k = u k) → C t = C u) (ht : hPm t np) (h : hBto C np (hVl t np) B) (hc : C B ≤ C t) : hBto C np (hVl t np + 1) B := by
  refine ⟨h.1, by have := h.2.1; omega, fun u hu hv => ?_⟩
  rcases Nat.lt_or_ge (hVl u np) (hVl t np) with z | z
  · exact h.2.2 u hu z
  · have e : C u = C t := hCe u t (hVl_inj (fun k hk => by have := hu.1 k hk; omega) (fun k hk => by have := ht.1 k hk; omega) (by omega))
    have := h.2.1
    omega
theorem hBto.take {C : (Nat → Nat) → Nat} {np : Nat} {B t : Nat → Nat} (hnp : np ≤ 6) (hCe : ∀ t u : Nat → Nat, (∀ k, k < np → t k = u k) → C t = C u) (ht : hPm t np) (h : hBto C np (hVl t np) B) (hc : C t < C B) : hBto C np (hVl t np + 1) t := by
  refine ⟨ht, by omega, fun u hu hv => ?_⟩
  rcases Nat.lt_or_ge (hVl u np) (hVl t np) with z | z
  · have := h.2.2 u hu z
    omega
  · have e : C u = C t := hCe u t (hVl_inj (fun k hk => by have := hu.1 k hk; omega) (fun k hk => by have := ht.1 k hk; omega) (by omega))
    omega
theorem hBto.one {C : (Nat → Nat) → Nat} {np : Nat} {t : Nat → Nat} (hnp : np ≤ 6) (hCe : ∀ t u : Nat → Nat, (∀ k, k < np → t k = u k) → C t = C u) (ht : hPm t np) (h : ∀ u, hPm u np → hVl t np ≤ hVl u np) : hBto C np (hVl t np + 1) t := by
  refine ⟨ht, by omega, fun u hu hv => ?_⟩
  have := h u hu
  have e : C u = C t := hCe u t (hVl_inj (fun k hk => by have := hu.1 k hk; omega) (fun k hk => by have := ht.1 k hk; omega) (by omega))
  omega
theorem hBto.next {C : (Nat → Nat) → Nat} {np v v1 : Nat} {B : Nat → Nat} (h : hBto C np (v + 1) B) (hv : v < v1) (hn : ∀ u, hPm u np → v < hVl u np → v1 ≤ hVl u np) : hBto C np v1 B := by
  refine ⟨h.1, by have := h.2.1; omega, fun u hu hq => h.2.2 u hu ?_⟩
  rcases Nat.lt_or_ge v (hVl u np) with z | z
  · have := hn u hu z
    omega
  · omega
theorem hBto.last {C : (Nat → Nat) → Nat} {np v : Nat} {B : Nat → Nat} (h : hBto C np (v + 1) B) (hn : ∀ u, hPm u np → hVl u np ≤ v) : hBst C np B := ⟨h.1, fun u hu => h.2.2 u hu (by have := hn u hu; omega)⟩

-- WHAT AN ORDER COSTS, on both sides
/-- (size, cost, known) behind the first k of the order t -/
noncomputable def hCk (S : Nat → Nat → Nat → Prop) (I : Nat → Nat → Nat) (t : Nat → Nat) : Nat → Nat × Nat × Nat
  | 0 => (1, 0, 0)
  | k + 1 => (min ((hCk S I t k).1 * hes (I (t k)) (hNd S (I (t k))) (hNN S (I (t k))) (nI (hCk S I t k).2.2)) 1000000000000, min ((hCk S I t k).2.1 + min ((hCk S I t k).1 * hes (I (t k)) (hNd S (I (t k))) (hNN S (I (t k))) (nI (hCk S I t k).2.2)) 1000000000000) 1000000000000, (hCk S I t k).2.2 ||| hvm (I (t k)) 3)
theorem hCk_le (S : Nat → Nat → Nat → Prop) (I : Nat → Nat → Nat) (t : Nat → Nat) : ∀ k, (hCk S I t k).1 ≤ 1000000000000 ∧ (hCk S I t k).2.1 ≤ 1000000000000
  | 0 => ⟨by show 1 ≤ 1000000000000; decide, by show 0 ≤ 1000000000000; decide⟩
  | k + 1 => ⟨Nat.min_le_right _ _, Nat.min_le_right _ _⟩
noncomputable def hCs (S : Nat → Nat → Nat → Prop) (I : Nat → Nat → Nat) (np : Nat) (t : Nat → Nat) : Nat := (hCk S I t np).2.1
theorem hCk_ext {S : Nat → Nat → Nat → Prop} {I : Nat → Nat → Nat} {t u : Nat → Nat} : ∀ n, (∀ k, k < n → t k = u k) → hCk S I t n = hCk S I u n
  | 0, _ => rfl
  | n + 1, h => by
    unfold hCk
    rw [hCk_ext n (fun k hk => h k (by omega)), h n (Nat.lt_succ_self _)]
theorem hCs_ext {S : Nat → Nat → Nat → Prop} {I : Nat → Nat → Nat} {np : Nat} (t u : Nat → Nat) (h : ∀ k, k < np → t k = u k) : hCs S I np t = hCs S I np u := by
  unfold hCs
  rw [hCk_ext np h]
noncomputable abbrev hEc (S : Nat → Nat → Nat → Prop) (I : Nat → Nat → Nat) : Nat → Nat → Nat := fun x kn => hes (I x) (hNd S (I x)) (hNN S (I x)) (nI kn)
theorem hcst_cons (E : Nat → Nat → Nat) (V : Nat → Nat) (x : Nat) (q : List Nat) (kn s c : Nat) : hcst E V (x :: q) kn s c = hcst E V q (kn ||| V x) (hsz E x kn s) (hct c (hsz E x kn s)) := rfl
theorem hcst_ck {S : Nat → Nat → Nat → Prop} {I : Nat → Nat → Nat} {t : Nat → Nat} : ∀ (q : List Nat) (k : Nat), (∀ j, j < q.length → t (k + j) = q.getD j 0) → hcst (hEc S I) (hVs I) q (hCk S I t k).2.2 (hCk S I t k).1 (hCk S I t k).2.1 = (hCk S I t (k + q.length)).2.1
  | [], k, _ => rfl
  | x :: q, k, h => by
    have e0 : t k = x := h 0 (by rw [List.length_cons]; omega)
    have ih := hcst_ck (S := S) (I := I) (t := t) q (k + 1) (fun j hj => by
      rw [show k + 1 + j = k + (j + 1) by omega]
      exact h (j + 1) (by rw [List.length_cons]; omega))
    rw [List.length_cons, show k + (q.length + 1) = k + 1 + q.length by omega, ← ih]
    have es : hCk S I t (k + 1) = (hsz (hEc S I) (t k) (hCk S I t k).2.2 (hCk S I t k).1, hct (hCk S I t k).2.1 (hsz (hEc S I) (t k) (hCk S I t k).2.2 (hCk S I t k).1), (hCk S I t k).2.2 ||| hVs I (t k)) := rfl
    rw [e0] at es
    rw [hcst_cons, es]
theorem hdv_ext {I dd d2 : Nat → Nat} {kn : Int32} (h : ∀ q, q < 3 → dd q = d2 q) : ∀ p, p ≤ 3 → hdv I dd kn p = hdv I d2 kn p
  | 0, _ => rfl
  | p + 1, hp => by
    show (if hkn kn (I p) then hdv I dd kn p * dd p else hdv I dd kn p) = (if hkn kn (I p) then hdv I d2 kn p * d2 p else hdv I d2 kn p)
    rw [hdv_ext h p (by omega), h p (by omega)]
theorem hes_ext {I dd d2 : Nat → Nat} {mm m2 : Nat} {kn : Int32} (h : ∀ q, q < 3 → dd q = d2 q) (hm : mm = m2) : hes I dd mm kn = hes I d2 m2 kn := by
  unfold hes
  rw [hdv_ext h 3 (Nat.le_refl _), hm]
theorem hEs_cost {S : Nat → Nat → Nat → Prop} {I dd : Nat → Nat → Nat} {mm : Nat → Nat} {np : Nat} (h : ∀ i, i < np → mm i = hNN S (I i) ∧ ∀ q, q < 3 → dd i q = hNd S (I i) q) (q : List Nat) (hl : q.length = np) (hx : ∀ x, x ∈ q → x < np) : hcst (hEs I dd mm) (hVs I) q 0 1 0 = hCs S I np (hLf9 q) := by
  rw [hcst_ext (E := hEs I dd mm) (E2 := hEc S I) q 0 1 0 (fun x hq k => hes_ext (h x (hx x hq)).2 (h x (hx x hq)).1)]
  have e := hcst_ck (S := S) (I := I) (t := hLf9 q) q 0 (fun j _ => by rw [Nat.zero_add])
  rw [Nat.zero_add, hl] at e
  exact e
theorem hSR_best {S : Nat → Nat → Nat → Prop} {I dd : Nat → Nat → Nat} {mm : Nat → Nat} {np : Nat} {ob : List Nat} (hnp : np ≤ 6) (h : ∀ i, i < np → mm i = hNN S (I i) ∧ ∀ q, q < 3 → dd i q = hNd S (I i) q) : hBst (hCs S I np) np (hLf9 (hSR np I dd mm ob).2) ∧ (hSR np I dd mm ob).1 = hCs S I np (hLf9 (hSR np I dd mm ob).2) ∧ (hSR np I dd mm ob).2.length = np := hSe_best hnp (hEs_cost h) (fun t u => hCs_ext t u)
/-- what plan and cost answer -/
def hPlnP (S : Nat → Nat → Nat → Prop) (np : Nat) (I : Nat → Nat → Nat) (x r : Int32) : Prop := (¬ (∃ i, i < np ∧ x = nI i) ∧ r = (-1)) ∨ ∃ i B, i < np ∧ x = nI i ∧ hBst (hCs S I np) np B ∧ r = nI (B i)
def hCosP (S : Nat → Nat → Nat → Prop) (np : Nat) (I : Nat → Nat → Nat) (r : Int64) : Prop := ∃ B, hBst (hCs S I np) np B ∧ r = lN (hCs S I np B)
theorem hPlnP.det {S : Nat → Nat → Nat → Prop} {np : Nat} {I : Nat → Nat → Nat} {x r1 r2 : Int32} (hnp : np ≤ 6) (h1 : hPlnP S np I x r1) (h2 : hPlnP S np I x r2) : r1 = r2 := by
  rcases h1 with ⟨u, rfl⟩ | ⟨i, B, hi, rfl, hB, rfl⟩ <;> rcases h2 with ⟨u', rfl⟩ | ⟨j, B', hj, ej, hB', rfl⟩
  · rfl
  · exact absurd ⟨j, hj, ej⟩ u
  · exact absurd ⟨i, hi, rfl⟩ u'
  · obtain rfl := (nI_eq (by omega) (by omega)).mp ej
    rw [(hB.uniq hnp hB').2 i hi]
theorem hCosP.det {S : Nat → Nat → Nat → Prop} {np : Nat} {I : Nat → Nat → Nat} {r1 r2 : Int64} (hnp : np ≤ 6) (h1 : hCosP S np I r1) (h2 : hCosP S np I r2) : r1 = r2 := by
  obtain ⟨B, hB, rfl⟩ := h1
  obtain ⟨B', hB', rfl⟩ := h2
  rw [(hB.uniq hnp hB').1]

-- THE JOIN OF AN ORDER: its steps
def hKw (I : Nat → Nat → Nat) (o : List Nat) : Nat → Nat
  | 0 => 0
  | j + 1 => hKw I o j ||| hvm (I (o.getD j 0)) 3
abbrev hWx (I : Nat → Nat → Nat) (o : List Nat) (j : Nat) : Nat := hfx (I (o.getD j 0)) (nI (hKw I o j)) 3
abbrev hWv (I : Nat → Nat → Nat) (o : List Nat) (j : Nat) : Nat := hview (hWx I o j)
abbrev hWF (g : Nat → Nat → Nat) (cnt : Nat) (I : Nat → Nat → Nat) (o : List Nat) (j : Nat) : List Nat := hFl (hWv I o j) (I (o.getD j 0)) (g (hWv I o j)) cnt
abbrev hWI (I : Nat → Nat → Nat) (o : List Nat) (j : Nat) : Nat → Nat := I (o.getD j 0)
abbrev hWs (I : Nat → Nat → Nat) (o : List Nat) (j : Nat) : Nat → Nat := hsh (hWv I o j)
abbrev hWn (I : Nat → Nat → Nat) (o : List Nat) (j : Nat) : Nat := hnk (hWv I o j) (I (o.getD j 0)) 3
abbrev hWo (I : Nat → Nat → Nat) (o : List Nat) (j : Nat) : Nat := hopen (hWx I o j)
/-- what the walk comes to: (total, count) -/
def hEn (g : Nat → Nat → Nat) (cnt : Nat) (I : Nat → Nat → Nat) (o : List Nat) (co sc : Nat) : Nat × Nat := hEx (hWF g cnt I o) (hWI I o) (hWs I o) (hWn I o) (hWx I o) (hWo I o) co o.length o.length 0 (0, sc)
theorem hStk_of {F : Nat → Nat → Int32} {g : Nat → Nat → Nat} {cnt : Nat} {X : Nat → Nat → Prop} (hw : hVw F g cnt X) {J : Nat → Nat} (hJ : ∀ q, q < 3 → J q < 72) (kn : Int32) : hStk (hFl (hview (hfx J kn 3)) J (g (hview (hfx J kn 3))) cnt) J (hsh (hview (hfx J kn 3))) (hnk (hview (hfx J kn 3)) J 3) (hfx J kn 3) (hopen (hfx J kn 3)) := by
  have h8 : hfx J kn 3 < 8 := hfx_lt J kn 3 (Nat.le_refl _)
  have hv := hview_lt _ h8
  obtain ⟨hf, hs⟩ := hw.2 _ hv
  refine ⟨Nat.le_trans (hFl_len cnt) hw.1, fun x hx => ?_, hFl_up cnt (fun i j hij hj => hs.1 i j hij hj), hJ, fun q hq => hsh_lt _ hv q hq, hnk_lt hv J 3 (Nat.le_refl _), h8, hopen_le _⟩
  obtain ⟨i, hi, rfl⟩ := hFl_mem cnt x hx
  exact (hf i hi).2
theorem hEn_bd (g : Nat → Nat → Nat) (cnt : Nat) (I : Nat → Nat → Nat) (o : List Nat) (co sc : Nat) (h : sc ≤ 20000) : (hEn g cnt I o co sc).1 ≤ 20000 + o.length ∧ sc ≤ (hEn g cnt I o co sc).2 ∧ (hEn g cnt I o co sc).2 ≤ 20000 := by
  have q := hEx_bd (hWF g cnt I o) (hWI I o) (hWs I o) (hWn I o) (hWx I o) (hWo I o) co o.length o.length 0 (0, sc) (Nat.zero_le _)
  exact ⟨q.1, q.2 h⟩

-- SUMS OVER A SET OF NUMBERS
noncomputable def hsm (P : Nat → Prop) (f : Nat → Nat) : Nat → Nat
  | 0 => 0
  | n + 1 => hsm P f n + @ite Nat (P n) (Classical.propDecidable (P n)) (f n) 0
theorem hsm_s (P : Nat → Prop) (f : Nat → Nat) (n : Nat) : (P n → hsm P f (n + 1) = hsm P f n + f n) ∧ (¬ P n → hsm P f (n + 1) = hsm P f n) :=
  ⟨fun h => by show hsm P f n + @ite Nat (P n) (Classical.propDecidable (P n)) (f n) 0 = _; rw [if_pos h], fun h => by show hsm P f n + @ite Nat (P n) (Classical.propDecidable (P n)) (f n) 0 = _; rw [if_neg h, Nat.add_zero]⟩
theorem hsm_ext {P Q : Nat → Prop} {f g : Nat → Nat} : ∀ n, (∀ x, x < n → (P x ↔ Q x)) → (∀ x, x < n → P x → f x = g x) → hsm P f n = hsm Q g n
  | 0, _, _ => rfl
  | n + 1, h, k => by
    have ih := hsm_ext n (fun x hx => h x (by omega)) (fun x hx => k x (by omega))
    by_cases q : P n
    · rw [(hsm_s P f n).1 q, (hsm_s Q g n).1 ((h n (Nat.lt_succ_self _)).mp q), ih, k n (Nat.lt_succ_self _) q]
    · rw [(hsm_s P f n).2 q, (hsm_s Q g n).2 (fun z => q ((h n (Nat.lt_succ_self _)).mpr z)), ih]
theorem hsm_none {P : Nat → Prop} {f : Nat → Nat} : ∀ n, (∀ x, x < n → ¬ P x) → hsm P f n = 0
  | 0, _ => rfl
  | n + 1, h => by rw [(hsm_s P f n).2 (h n (Nat.lt_succ_self _)), hsm_none n (fun x hx => h x (by omega))]
theorem hsm_add {P Q : Nat → Prop} {f : Nat → Nat} {x : Nat} (hn : ¬ P x) (hQ : ∀ y, Q y ↔ (P y ∨ y = x)) : ∀ n, hsm Q f n = hsm P f n + (if x < n then f x else 0)
  | 0 => rfl
  | n + 1 => by
    have ih := hsm_add (f := f) hn hQ n
    by_cases z : x = n
    · subst z
      rw [(hsm_s Q f x).1 ((hQ x).mpr (Or.inr rfl)), (hsm_s P f x).2 hn, ih, if_neg (Nat.lt_irrefl _), if_pos (Nat.lt_succ_self _)]
      omega
    · have e : (if x < n + 1 then f x else 0) = (if x < n then f x else 0) := by
        by_cases y : x < n
        · rw [if_pos y, if_pos (by omega)]
        · rw [if_neg y, if_neg (by omega)]
      rw [e]
      by_cases q : P n
      · rw [(hsm_s Q f n).1 ((hQ n).mpr (Or.inl q)), (hsm_s P f n).1 q, ih]; omega
      · rw [(hsm_s Q f n).2 (fun w => ((hQ n).mp w).elim q (fun y => z y.symm)), (hsm_s P f n).2 q, ih]
/-- a sum over what an enumeration gives is a sum over the set -/
theorem hsm_en {A : Nat → Prop} {key F : Nat → Nat} {N : Nat} : ∀ n, (∀ t, t < n → A t → key t < N) → (∀ u t, u < t → t < n → A u → A t → key u ≠ key t) → hsm A (fun t => F (key t)) n = hsm (fun x => ∃ t, t < n ∧ A t ∧ key t = x) F N
  | 0, _, _ => (hsm_none N (fun x _ ⟨t, h, _⟩ => absurd h (Nat.not_lt_zero _))).symm
  | n + 1, h, hi => by
    have ih := hsm_en (A := A) (F := F) n (fun t ht => h t (by omega)) (fun u t h1 h2 => hi u t h1 (by omega))
    by_cases q : A n
    · rw [(hsm_s A _ n).1 q, ih, hsm_add (P := fun x => ∃ t, t < n ∧ A t ∧ key t = x) (Q := fun x => ∃ t, t < n + 1 ∧ A t ∧ key t = x) (f := F) (x := key n) (fun ⟨t, h1, h2, h3⟩ => hi t n h1 (Nat.lt_succ_self _) h2 q h3) (fun y => ?_) N, if_pos (h n (Nat.lt_succ_self _) q)]
      constructor
      · rintro ⟨t, h1, h2, h3⟩
        by_cases z : t = n
        · subst z; exact Or.inr h3.symm
        · exact Or.inl ⟨t, by omega, h2, h3⟩
      · rintro (⟨t, h1, h2, h3⟩ | z)
        · exact ⟨t, by omega, h2, h3⟩
        · exact ⟨n, Nat.lt_succ_self _, q, z.symm⟩
    · rw [(hsm_s A _ n).2 q, ih]
      refine hsm_ext N (fun x _ => ⟨fun ⟨t, h1, h2⟩ => ⟨t, by omega, h2⟩, fun ⟨t, h1, h2, h3⟩ => ?_⟩) (fun _ _ _ => rfl)
      by_cases z : t = n
      · subst z; exact absurd h2 q
      · exact ⟨t, by omega, h2, h3⟩
-- ROWS: a row is what the variables are bound to: e x = 0 where x is open, the number and 1 where it is bound
/-- what is bound when the first q places are -/
def hXe (J e : Nat → Nat) (a b c : Nat) : Nat → Nat → Nat
  | 0 => e
  | q + 1 => if 64 ≤ J q then (fun x => if x = J q - 64 then hpk q a b c + 1 else hXe J e a b c q x) else hXe J e a b c q
/-- the first q places agree with the triple and with what is bound -/
def hCq (J e : Nat → Nat) (a b c : Nat) : Nat → Prop
  | 0 => True
  | q + 1 => hCq J e a b c q ∧ (J q < 64 → J q = hpk q a b c) ∧ (64 ≤ J q → hXe J e a b c q (J q - 64) = 0 ∨ hXe J e a b c q (J q - 64) = hpk q a b c + 1)
/-- how much comes from here on: w for each row, z for each whole one -/
noncomputable def hCt (w z : Nat) (S : Nat → Nat → Nat → Prop) (Ps : Nat → Nat → Nat) (n : Nat) : Nat → (Nat → Nat) → Nat
  | 0, _ => z
  | r + 1, e => hsm (fun x => S (hpn 0 0 x) (hpn 0 1 x) (hpn 0 2 x) ∧ hCq (Ps (n - (r + 1))) e (hpn 0 0 x) (hpn 0 1 x) (hpn 0 2 x) 3) (fun x => w + hCt w z S Ps n r (hXe (Ps (n - (r + 1))) e (hpn 0 0 x) (hpn 0 1 x) (hpn 0 2 x) 3)) 262144
theorem hcode0 {x : Nat} (h : x < 262144) : hvc 0 (hpn 0 0 x) (hpn 0 1 x) (hpn 0 2 x) = x := by
  show (x / 2 ^ 12 % 64) * 2 ^ 12 + (x / 2 ^ 6 % 64) * 2 ^ 6 + (x / 2 ^ 0 % 64) * 2 ^ 0 = x
  omega
/-- the sum of a level over any enumeration of the triples -/
theorem hCt_en {w z n r m : Nat} {S : Nat → Nat → Nat → Prop} {Ps : Nat → Nat → Nat} {e : Nat → Nat} {A : Nat → Prop} {ta tb tc : Nat → Nat} (h64 : ∀ t, t < m → A t → ta t < 64 ∧ tb t < 64 ∧ tc t < 64) (hinj : ∀ u t, u < t → t < m → A u → A t → ¬ (ta u = ta t ∧ tb u = tb t ∧ tc u = tc t)) (hA : ∀ a b c, a < 64 → b < 64 → c < 64 → ((S a b c ∧ hCq (Ps (n - (r + 1))) e a b c 3) ↔ ∃ t, t < m ∧ A t ∧ ta t = a ∧ tb t = b ∧ tc t = c)) : hCt w z S Ps n (r + 1) e = hsm A (fun t => w + hCt w z S Ps n r (hXe (Ps (n - (r + 1))) e (ta t) (tb t) (tc t) 3)) m := by
  have hk := hsm_en (A := A) (key := fun t => hvc 0 (ta t) (tb t) (tc t)) (F := fun x => w + hCt w z S Ps n r (hXe (Ps (n - (r + 1))) e (hpn 0 0 x) (hpn 0 1 x) (hpn 0 2 x) 3)) (N := 262144) m (fun t ht hAt => by
    obtain ⟨b1, b2, b3⟩ := h64 t ht hAt
    exact hvc_lt (by decide) b1 b2 b3) (fun u t h1 h2 a1 a2 q => by
    obtain ⟨b1, b2, b3⟩ := h64 u (by omega) a1
    obtain ⟨d1, d2, d3⟩ := h64 t h2 a2
    exact hinj u t h1 h2 a1 a2 (hvc_inj (by decide) b1 b2 b3 d1 d2 d3 q))
  have e1 : hsm A (fun t => w + hCt w z S Ps n r (hXe (Ps (n - (r + 1))) e (ta t) (tb t) (tc t) 3)) m = hsm A (fun t => (fun x => w + hCt w z S Ps n r (hXe (Ps (n - (r + 1))) e (hpn 0 0 x) (hpn 0 1 x) (hpn 0 2 x) 3)) ((fun t => hvc 0 (ta t) (tb t) (tc t)) t)) m := by
    refine hsm_ext m (fun _ _ => Iff.rfl) (fun t ht hAt => ?_)
    obtain ⟨b1, b2, b3⟩ := h64 t ht hAt
    dsimp only
    rw [hpn_vc (v := 0) (q := 0) (by decide) (by decide) b1 b2 b3, hpn_vc (v := 0) (q := 1) (by decide) (by decide) b1 b2 b3, hpn_vc (v := 0) (q := 2) (by decide) (by decide) b1 b2 b3]
    rfl
  rw [e1, hk]
  show hsm _ _ 262144 = _
  refine hsm_ext 262144 (fun x hx => ?_) (fun _ _ _ => rfl)
  rw [hA _ _ _ (hpn_lt _ _ _) (hpn_lt _ _ _) (hpn_lt _ _ _)]
  constructor
  · rintro ⟨t, h1, h2, h3, h4, h5⟩
    exact ⟨t, h1, h2, by rw [h3, h4, h5, hcode0 hx]⟩
  · rintro ⟨t, h1, h2, h3⟩
    obtain ⟨b1, b2, b3⟩ := h64 t h1 h2
    refine ⟨t, h1, h2, ?_, ?_, ?_⟩
    · rw [← h3, hpn_vc (v := 0) (q := 0) (by decide) (by decide) b1 b2 b3]; rfl
    · rw [← h3, hpn_vc (v := 0) (q := 1) (by decide) (by decide) b1 b2 b3]; rfl
    · rw [← h3, hpn_vc (v := 0) (q := 2) (by decide) (by decide) b1 b2 b3]; rfl

-- THE WALK OF THE CLASS, without its stop
/-- count on, as far as it is kept -/
def hcc (co c k : Nat) : Nat := if co = 0 then c else min (c + k) 20000
theorem hcc_add (co c k m : Nat) : hcc co (hcc co c k) m = hcc co c (k + m) := by
  unfold hcc
  by_cases h : co = 0
  · rw [if_pos h, if_pos h, if_pos h]
  · rw [if_neg h, if_neg h, if_neg h]
    omega
theorem hcc_0 {co c : Nat} (h : c ≤ 20000) : hcc co c 0 = c := by
  unfold hcc
  split
  · rfl
  · omega
def hLs (a : Nat → Nat) (x m : Nat) (f : Nat → Nat) : Nat → Nat → Nat
  | 0, _ => 0
  | k + 1, i => if i < m ∧ a i = x then f i + hLs a x m f k (i + 1) else 0
theorem hLp_ge {fl : List Nat} {ob key : Nat} {sub : Nat → Nat × Nat → Nat × Nat} : ∀ k i st, 20000 < st.1 → 20000 < (hLp fl ob key sub k i st).1
  | 0, _, st, h => h
  | k + 1, i, st, h => by
    show 20000 < (if i < fl.length ∧ fl.getD i 0 / 2 ^ ob = key / 2 ^ ob then (if 20000 < st.1 + 1 then (st.1 + 1, st.2) else hLp fl ob key sub k (i + 1) (sub i (st.1 + 1, st.2))) else st).1
    split
    · rw [if_pos (by omega)]
      show 20000 < st.1 + 1
      omega
    · exact h
/-- u more rows, v more whole ones: as far as 20000 -/
def hUV (co u v : Nat) (s t : Nat × Nat) : Prop := (s.1 + u ≤ 20000 → t.1 = s.1 + u ∧ t.2 = hcc co s.2 v) ∧ (20000 < s.1 + u → 20000 < t.1)
theorem hLp_U {fl : List Nat} {ob key co : Nat} {sub : Nat → Nat × Nat → Nat × Nat} {u v : Nat → Nat} (hs : ∀ i st, st.1 ≤ 20000 → st.2 ≤ 20000 → hUV co (u i) (v i) st (sub i st) ∧ (sub i st).2 ≤ 20000) : ∀ k i st, st.1 ≤ 20000 → st.2 ≤ 20000 → hUV co (hLs (fun j => fl.getD j 0 / 2 ^ ob) (key / 2 ^ ob) fl.length (fun j => 1 + u j) k i) (hLs (fun j => fl.getD j 0 / 2 ^ ob) (key / 2 ^ ob) fl.length v k i) st (hLp fl ob key sub k i st)
  | 0, i, st, h, h2 => ⟨fun _ => ⟨rfl, (hcc_0 h2).symm⟩, fun q => by have q : 20000 < st.1 + 0 := q; omega⟩
  | k + 1, i, st, h, h2 => by
    show hUV co (if i < fl.length ∧ fl.getD i 0 / 2 ^ ob = key / 2 ^ ob then (1 + u i) + hLs _ _ _ _ k (i + 1) else 0) (if i < fl.length ∧ fl.getD i 0 / 2 ^ ob = key / 2 ^ ob then v i + hLs _ _ _ _ k (i + 1) else 0) st (if i < fl.length ∧ fl.getD i 0 / 2 ^ ob = key / 2 ^ ob then (if 20000 < st.1 + 1 then (st.1 + 1, st.2) else hLp fl ob key sub k (i + 1) (sub i (st.1 + 1, st.2))) else st)
    by_cases hc : i < fl.length ∧ fl.getD i 0 / 2 ^ ob = key / 2 ^ ob
    · rw [if_pos hc, if_pos hc, if_pos hc]
      by_cases hb : 20000 < st.1 + 1
      · rw [if_pos hb]
        exact ⟨fun q => by omega, fun _ => hb⟩
      · rw [if_neg hb]
        obtain ⟨⟨s1, s2⟩, s3⟩ := hs i (st.1 + 1, st.2) (by show st.1 + 1 ≤ 20000; omega) h2
        have s1 : st.1 + 1 + u i ≤ 20000 → (sub i (st.1 + 1, st.2)).1 = st.1 + 1 + u i ∧ (sub i (st.1 + 1, st.2)).2 = hcc co st.2 (v i) := s1
        have s2 : 20000 < st.1 + 1 + u i → 20000 < (sub i (st.1 + 1, st.2)).1 := s2
        rcases Nat.lt_or_ge 20000 (st.1 + 1 + u i) with z | z
        · exact ⟨fun q => by omega, fun _ => hLp_ge k (i + 1) _ (s2 z)⟩
        · obtain ⟨e1, e2⟩ := s1 z
          obtain ⟨i1, i2⟩ := hLp_U (fl := fl) (ob := ob) (key := key) hs k (i + 1) (sub i (st.1 + 1, st.2)) (by omega) s3
          rw [e1, e2] at i1
          rw [e1] at i2
          refine ⟨fun q => ?_, fun q => i2 (by omega)⟩
          obtain ⟨a1, a2⟩ := i1 (by omega)
          refine ⟨by rw [a1]; omega, ?_⟩
          rw [a2, hcc_add]
    · rw [if_neg hc, if_neg hc, if_neg hc]
      exact ⟨fun _ => ⟨rfl, (hcc_0 h2).symm⟩, fun q => by omega⟩
theorem hLs_sm {a f : Nat → Nat} {x m : Nat} : ∀ k i, i ≤ m → m < i + k → (∀ j j', i ≤ j → j ≤ j' → j' < m → a j ≠ x → a j' ≠ x) → hsm (fun j => a j = x) f m = hsm (fun j => a j = x) f i + hLs a x m f k i
  | 0, i, h1, h2, _ => by omega
  | k + 1, i, h1, h2, h3 => by
    show _ = _ + (if i < m ∧ a i = x then f i + hLs a x m f k (i + 1) else 0)
    by_cases hc : i < m ∧ a i = x
    · rw [if_pos hc, hLs_sm k (i + 1) (by omega) (by omega) (fun j j' q1 q2 => h3 j j' (by omega) q2), (hsm_s (fun j => a j = x) f i).1 hc.2]
      omega
    · rw [if_neg hc, Nat.add_zero]
      have none : ∀ d, i + d ≤ m → hsm (fun j => a j = x) f (i + d) = hsm (fun j => a j = x) f i := fun d => by
        induction d with
        | zero => intro _; rfl
        | succ d ih =>
          intro hd
          have hne : a i ≠ x := fun z => hc ⟨by omega, z⟩
          rw [show i + (d + 1) = (i + d) + 1 by omega, (hsm_s (fun j => a j = x) f (i + d)).2 (h3 i (i + d) (Nat.le_refl _) (by omega) (by omega) hne), ih (by omega)]
      have := none (m - i) (by omega)
      rw [show i + (m - i) = m by omega] at this
      exact this
/-- all that comes, as the class walks -/
noncomputable def hUx (w z : Nat) (FL : Nat → List Nat) (It sh : Nat → Nat → Nat) (nk fx ob : Nat → Nat) (len : Nat) : Nat → Nat → Nat
  | 0, _ => z
  | r + 1, row => hsm (fun j => (FL (len - (r + 1))).getD j 0 / 2 ^ ob (len - (r + 1)) = hKf (It (len - (r + 1))) (sh (len - (r + 1))) (nk (len - (r + 1))) (fx (len - (r + 1))) row 3 / 2 ^ ob (len - (r + 1))) (fun j => w + hUx w z FL It sh nk fx ob len r (hXt (It (len - (r + 1))) (sh (len - (r + 1))) ((FL (len - (r + 1))).getD j 0) row 3)) (FL (len - (r + 1))).length
/-- the codes that agree stand side by side, from where the key belongs -/
theorem hrun {fl : List Nat} {ob key : Nat} (hu : hUp fl) (hk : key % 2 ^ ob = 0) : (∀ j, j < hlbf (fun i => fl.getD i 0) fl.length key → ¬ fl.getD j 0 / 2 ^ ob = key / 2 ^ ob) ∧ ∀ j j', hlbf (fun i => fl.getD i 0) fl.length key ≤ j → j ≤ j' → j' < fl.length → ¬ fl.getD j 0 / 2 ^ ob = key / 2 ^ ob → ¬ fl.getD j' 0 / 2 ^ ob = key / 2 ^ ob := by
  have hlb := hu.sor.lb key
  have hp : 0 < 2 ^ ob := Nat.two_pow_pos _
  have hke : key = 2 ^ ob * (key / 2 ^ ob) := by have := Nat.div_add_mod key (2 ^ ob); omega
  refine ⟨fun j hj e => ?_, fun j j' h1 h2 h3 hne e => ?_⟩
  · have a1 : fl.getD j 0 < key := hlb.2.1 j hj
    have a2 := Nat.mul_div_le (fl.getD j 0) (2 ^ ob)
    rw [e, ← hke] at a2
    omega
  · have a1 : key ≤ fl.getD j 0 := hlb.2.2 j h1 (by omega)
    have a2 : fl.getD j 0 ≤ fl.getD j' 0 := hu.sor.le h2 h3
    have b1 := Nat.div_le_div_right (c := 2 ^ ob) a1
    have b2 := Nat.div_le_div_right (c := 2 ^ ob) a2
    omega
theorem hEx_U {FL : Nat → List Nat} {It sh : Nat → Nat → Nat} {nk fx ob : Nat → Nat} {co len : Nat} (hco : co = 0 ∨ co = 1) (hup : ∀ d, d < len → hUp (FL d)) (hkey : ∀ d row, d < len → hKf (It d) (sh d) (nk d) (fx d) row 3 % 2 ^ ob d = 0) : ∀ r row st, r ≤ len → st.1 ≤ 20000 → st.2 ≤ 20000 → hUV co (hUx 1 0 FL It sh nk fx ob len r row) (hUx 0 1 FL It sh nk fx ob len r row) st (hEx FL It sh nk fx ob co len r row st)
  | 0, row, st, _, h1, h2 => by
    show hUV co 0 1 st (if co = 0 then st else (st.1, min (st.2 + 1) 20000))
    rcases hco with z | z
    · rw [if_pos z]
      exact ⟨fun _ => ⟨rfl, by unfold hcc; rw [if_pos z]⟩, fun q => by omega⟩
    · rw [if_neg (by omega)]
      exact ⟨fun _ => ⟨rfl, by unfold hcc; rw [if_neg (by omega)]⟩, fun q => by omega⟩
  | r + 1, row, st, hr, h1, h2 => by
    have hd : len - (r + 1) < len := by omega
    have hrn := hrun (fl := FL (len - (r + 1))) (ob := ob (len - (r + 1))) (key := hKf (It (len - (r + 1))) (sh (len - (r + 1))) (nk (len - (r + 1))) (fx (len - (r + 1))) row 3) (hup _ hd) (hkey _ row hd)
    have hlo := hlbf_le (fun i => (FL (len - (r + 1))).getD i 0) (hKf (It (len - (r + 1))) (sh (len - (r + 1))) (nk (len - (r + 1))) (fx (len - (r + 1))) row 3) (FL (len - (r + 1))).length
    have key := hLp_U (fl := FL (len - (r + 1))) (ob := ob (len - (r + 1))) (key := hKf (It (len - (r + 1))) (sh (len - (r + 1))) (nk (len - (r + 1))) (fx (len - (r + 1))) row 3) (co := co) (sub := fun i st => hEx FL It sh nk fx ob co len r (hXt (It (len - (r + 1))) (sh (len - (r + 1))) ((FL (len - (r + 1))).getD i 0) row 3) st) (u := fun i => hUx 1 0 FL It sh nk fx ob len r (hXt (It (len - (r + 1))) (sh (len - (r + 1))) ((FL (len - (r + 1))).getD i 0) row 3)) (v := fun i => hUx 0 1 FL It sh nk fx ob len r (hXt (It (len - (r + 1))) (sh (len - (r + 1))) ((FL (len - (r + 1))).getD i 0) row 3)) (fun i st hst hs2 => ⟨?_, ?_⟩) ((FL (len - (r + 1))).length + 1) (hlbf (fun i => (FL (len - (r + 1))).getD i 0) (FL (len - (r + 1))).length (hKf (It (len - (r + 1))) (sh (len - (r + 1))) (nk (len - (r + 1))) (fx (len - (r + 1))) row 3)) st h1 h2
    · have e1 := hLs_sm (a := fun j => (FL (len - (r + 1))).getD j 0 / 2 ^ ob (len - (r + 1))) (x := hKf (It (len - (r + 1))) (sh (len - (r + 1))) (nk (len - (r + 1))) (fx (len - (r + 1))) row 3 / 2 ^ ob (len - (r + 1))) (m := (FL (len - (r + 1))).length) (f := fun i => 1 + hUx 1 0 FL It sh nk fx ob len r (hXt (It (len - (r + 1))) (sh (len - (r + 1))) ((FL (len - (r + 1))).getD i 0) row 3)) ((FL (len - (r + 1))).length + 1) _ hlo (by omega) (fun j j' q1 q2 q3 q4 => hrn.2 j j' q1 q2 q3 q4)
      have e2 := hLs_sm (a := fun j => (FL (len - (r + 1))).getD j 0 / 2 ^ ob (len - (r + 1))) (x := hKf (It (len - (r + 1))) (sh (len - (r + 1))) (nk (len - (r + 1))) (fx (len - (r + 1))) row 3 / 2 ^ ob (len - (r + 1))) (m := (FL (len - (r + 1))).length) (f := fun i => hUx 0 1 FL It sh nk fx ob len r (hXt (It (len - (r + 1))) (sh (len - (r + 1))) ((FL (len - (r + 1))).getD i 0) row 3)) ((FL (len - (r + 1))).length + 1) _ hlo (by omega) (fun j j' q1 q2 q3 q4 => hrn.2 j j' q1 q2 q3 q4)
      rw [hsm_none _ (fun j hj => hrn.1 j hj), Nat.zero_add] at e1 e2
      rw [← e1, ← e2] at key
      have z2 : hUx 0 1 FL It sh nk fx ob len (r + 1) row = hsm (fun j => (FL (len - (r + 1))).getD j 0 / 2 ^ ob (len - (r + 1)) = hKf (It (len - (r + 1))) (sh (len - (r + 1))) (nk (len - (r + 1))) (fx (len - (r + 1))) row 3 / 2 ^ ob (len - (r + 1))) (fun i => hUx 0 1 FL It sh nk fx ob len r (hXt (It (len - (r + 1))) (sh (len - (r + 1))) ((FL (len - (r + 1))).getD i 0) row 3)) (FL (len - (r + 1))).length := hsm_ext _ (fun _ _ => Iff.rfl) (fun i _ _ => Nat.zero_add _)
      rw [z2]
      exact key
    · exact hEx_U hco hup hkey r _ st (by omega) hst hs2
    · exact ((hEx_bd FL It sh nk fx ob co len r _ st hst).2 hs2).2

-- WHAT A STEP TAKES: the triples that agree with the row
theorem hfx_bits (J : Nat → Nat) (kn : Int32) : (hfx J kn 3 % 2 = 1 ↔ (J 0 < 64 ∨ hkn kn (J 0))) ∧ (hfx J kn 3 / 2 % 2 = 1 ↔ (J 1 < 64 ∨ hkn kn (J 1))) ∧ (hfx J kn 3 / 4 % 2 = 1 ↔ (J 2 < 64 ∨ hkn kn (J 2))) := by
  have e : hfx J kn 3 = (if J 2 < 64 ∨ hkn kn (J 2) then (if J 1 < 64 ∨ hkn kn (J 1) then (if J 0 < 64 ∨ hkn kn (J 0) then 0 ||| 2 ^ 0 else 0) ||| 2 ^ 1 else (if J 0 < 64 ∨ hkn kn (J 0) then 0 ||| 2 ^ 0 else 0)) ||| 2 ^ 2 else (if J 1 < 64 ∨ hkn kn (J 1) then (if J 0 < 64 ∨ hkn kn (J 0) then 0 ||| 2 ^ 0 else 0) ||| 2 ^ 1 else (if J 0 < 64 ∨ hkn kn (J 0) then 0 ||| 2 ^ 0 else 0))) := rfl
  by_cases q0 : J 0 < 64 ∨ hkn kn (J 0)
  · by_cases q1 : J 1 < 64 ∨ hkn kn (J 1)
    · by_cases q2 : J 2 < 64 ∨ hkn kn (J 2)
      · rw [if_pos q2, if_pos q1, if_pos q0] at e; rw [e]; exact ⟨⟨fun _ => q0, fun _ => by decide⟩, ⟨fun _ => q1, fun _ => by decide⟩, ⟨fun _ => q2, fun _ => by decide⟩⟩
      · rw [if_neg q2, if_pos q1, if_pos q0] at e; rw [e]; exact ⟨⟨fun _ => q0, fun _ => by decide⟩, ⟨fun _ => q1, fun _ => by decide⟩, ⟨fun z => absurd z (by decide), fun z => absurd z q2⟩⟩
    · by_cases q2 : J 2 < 64 ∨ hkn kn (J 2)
      · rw [if_pos q2, if_neg q1, if_pos q0] at e; rw [e]; exact ⟨⟨fun _ => q0, fun _ => by decide⟩, ⟨fun z => absurd z (by decide), fun z => absurd z q1⟩, ⟨fun _ => q2, fun _ => by decide⟩⟩
      · rw [if_neg q2, if_neg q1, if_pos q0] at e; rw [e]; exact ⟨⟨fun _ => q0, fun _ => by decide⟩, ⟨fun z => absurd z (by decide), fun z => absurd z q1⟩, ⟨fun z => absurd z (by decide), fun z => absurd z q2⟩⟩
  · by_cases q1 : J 1 < 64 ∨ hkn kn (J 1)
    · by_cases q2 : J 2 < 64 ∨ hkn kn (J 2)
      · rw [if_pos q2, if_pos q1, if_neg q0] at e; rw [e]; exact ⟨⟨fun z => absurd z (by decide), fun z => absurd z q0⟩, ⟨fun _ => q1, fun _ => by decide⟩, ⟨fun _ => q2, fun _ => by decide⟩⟩
      · rw [if_neg q2, if_pos q1, if_neg q0] at e; rw [e]; exact ⟨⟨fun z => absurd z (by decide), fun z => absurd z q0⟩, ⟨fun _ => q1, fun _ => by decide⟩, ⟨fun z => absurd z (by decide), fun z => absurd z q2⟩⟩
    · by_cases q2 : J 2 < 64 ∨ hkn kn (J 2)
      · rw [if_pos q2, if_neg q1, if_neg q0] at e; rw [e]; exact ⟨⟨fun z => absurd z (by decide), fun z => absurd z q0⟩, ⟨fun z => absurd z (by decide), fun z => absurd z q1⟩, ⟨fun _ => q2, fun _ => by decide⟩⟩
      · rw [if_neg q2, if_neg q1, if_neg q0] at e; rw [e]; exact ⟨⟨fun z => absurd z (by decide), fun z => absurd z q0⟩, ⟨fun z => absurd z (by decide), fun z => absurd z q1⟩, ⟨fun z => absurd z (by decide), fun z => absurd z q2⟩⟩
theorem htb (m : Nat) : (m.testBit 0 = true ↔ m % 2 = 1) ∧ (m.testBit 1 = true ↔ m / 2 % 2 = 1) ∧ (m.testBit 2 = true ↔ m / 4 % 2 = 1) := by
  refine ⟨by rw [Nat.testBit_zero, decide_eq_true_eq], ?_, ?_⟩
  · rw [Nat.testBit_succ, Nat.testBit_zero, decide_eq_true_eq]
  · rw [Nat.testBit_succ, Nat.testBit_succ, Nat.testBit_zero, decide_eq_true_eq, Nat.div_div_eq_div_mul]
theorem hkn_bit {kn x : Nat} (hk : kn < 256) (h1 : 64 ≤ x) (h2 : x < 72) : hkn (nI kn) x ↔ kn.testBit (x - 64) = true := by
  have hp : 2 ^ (x - 64) ≤ 2 ^ 7 := Nat.pow_le_pow_right (by decide) (by omega)
  have ha : kn &&& 2 ^ (x - 64) ≤ kn := Nat.and_le_left
  have key : kn &&& 2 ^ (x - 64) = 0 ↔ ¬ kn.testBit (x - 64) = true := by
    constructor
    · intro h z
      have e := congrArg (fun y => Nat.testBit y (x - 64)) h
      rw [Nat.testBit_and, z, Nat.testBit_two_pow, decide_eq_true rfl, Nat.zero_testBit] at e
      exact absurd e (by decide)
    · intro h
      apply Nat.eq_of_testBit_eq
      intro i
      rw [Nat.testBit_and, Nat.testBit_two_pow, Nat.zero_testBit]
      by_cases z : x - 64 = i
      · rw [← z, Bool.eq_false_iff.mpr h, Bool.false_and]
      · rw [decide_eq_false z, Bool.and_false]
  constructor
  · rintro ⟨-, h⟩
    refine Classical.byContradiction (fun z => h ?_)
    rw [hiand, key.mpr z]
    rfl
  · intro h
    refine ⟨h1, fun z => ?_⟩
    rw [hiand] at z
    exact key.mp ((nI_eq (by omega) (by decide)).mp z) h
/-- what the key holds at a place -/
def hkq (J : Nat → Nat) (m row q : Nat) : Nat := if J q < 64 then J q else if m.testBit q = true then row / 2 ^ (6 * (7 - (J q - 64))) % 64 else 0
theorem hkq_lt (J : Nat → Nat) (m row q : Nat) : hkq J m row q < 64 := by
  unfold hkq
  split
  · assumption
  · split
    · exact Nat.mod_lt _ (by decide)
    · decide
theorem hor6 (a0 a1 a2 b0 b1 b2 : Nat) : a0 ||| a1 ||| a2 ||| b0 ||| b1 ||| b2 = (a0 ||| b0) ||| (a1 ||| b1) ||| (a2 ||| b2) := by ac_rfl
theorem hKf_vc {v m row : Nat} {J : Nat → Nat} (hv : v < 3) : hKf J (hsh v) (hnk v J 3) m row 3 = hvc v (hkq J m row 0) (hkq J m row 1) (hkq J m row 2) := by
  have st : ∀ q x, (if 64 ≤ J q ∧ m.testBit q = true then x ||| (row / 2 ^ (6 * (7 - (J q - 64))) % 64) * 2 ^ hsh v q else x) = x ||| (if 64 ≤ J q ∧ m.testBit q = true then row / 2 ^ (6 * (7 - (J q - 64))) % 64 else 0) * 2 ^ hsh v q := fun q x => by
    by_cases h : 64 ≤ J q ∧ m.testBit q = true
    · rw [if_pos h, if_pos h]
    · rw [if_neg h, if_neg h, Nat.zero_mul, Nat.or_zero]
  have jn : ∀ q, hnum (J q) * 2 ^ hsh v q ||| (if 64 ≤ J q ∧ m.testBit q = true then row / 2 ^ (6 * (7 - (J q - 64))) % 64 else 0) * 2 ^ hsh v q = hkq J m row q * 2 ^ hsh v q := fun q => by
    unfold hkq hnum
    by_cases h : J q < 64
    · rw [if_pos h, if_pos h, if_neg (fun z => by omega), Nat.zero_mul, Nat.or_zero]
    · rw [if_neg h, if_neg h, Nat.zero_mul, Nat.zero_or]
      by_cases y : m.testBit q = true
      · rw [if_pos ⟨by omega, y⟩, if_pos y]
      · rw [if_neg (fun z => y z.2), if_neg y]
  have e : hKf J (hsh v) (hnk v J 3) m row 3 = hnk v J 3 ||| (if 64 ≤ J 0 ∧ m.testBit 0 = true then row / 2 ^ (6 * (7 - (J 0 - 64))) % 64 else 0) * 2 ^ hsh v 0 ||| (if 64 ≤ J 1 ∧ m.testBit 1 = true then row / 2 ^ (6 * (7 - (J 1 - 64))) % 64 else 0) * 2 ^ hsh v 1 ||| (if 64 ≤ J 2 ∧ m.testBit 2 = true then row / 2 ^ (6 * (7 - (J 2 - 64))) % 64 else 0) * 2 ^ hsh v 2 := by
    rw [← st 0, ← st 1, ← st 2]
    rfl
  rw [e, hnk_3 hv, ← hcode hv (hnum_lt _) (hnum_lt _) (hnum_lt _), hor6, jn, jn, jn, hcode hv (hkq_lt _ _ _ _) (hkq_lt _ _ _ _) (hkq_lt _ _ _ _)]
/-- a row of the class, the variables that it binds, and what is bound -/
def hRE (row kn : Nat) (e : Nat → Nat) : Prop := row < 2 ^ 48 ∧ kn < 256 ∧ ∀ x, x < 8 → (kn.testBit x = true → e x = row / 2 ^ (6 * (7 - x)) % 64 + 1) ∧ (¬ kn.testBit x = true → e x = 0 ∧ row / 2 ^ (6 * (7 - x)) % 64 = 0)
theorem hXe_1 (J e : Nat → Nat) (a b c x : Nat) : hXe J e a b c 1 x = if 64 ≤ J 0 ∧ x = J 0 - 64 then a + 1 else e x := by
  show (if 64 ≤ J 0 then (fun x => if x = J 0 - 64 then hpk 0 a b c + 1 else e x) else e) x = _
  by_cases h : 64 ≤ J 0
  · rw [if_pos h]
    by_cases y : x = J 0 - 64
    · rw [if_pos y, if_pos ⟨h, y⟩]; rfl
    · rw [if_neg y, if_neg (fun z => y z.2)]
  · rw [if_neg h, if_neg (fun z => h z.1)]
theorem hXe_2 (J e : Nat → Nat) (a b c x : Nat) : hXe J e a b c 2 x = if 64 ≤ J 1 ∧ x = J 1 - 64 then b + 1 else hXe J e a b c 1 x := by
  show (if 64 ≤ J 1 then (fun x => if x = J 1 - 64 then hpk 1 a b c + 1 else hXe J e a b c 1 x) else hXe J e a b c 1) x = _
  by_cases h : 64 ≤ J 1
  · rw [if_pos h]
    by_cases y : x = J 1 - 64
    · rw [if_pos y, if_pos ⟨h, y⟩]; rfl
    · rw [if_neg y, if_neg (fun z => y z.2)]
  · rw [if_neg h, if_neg (fun z => h z.1)]
theorem hq_eq {a b x : Nat} (h : x = a + 1) (k : x = 0 ∨ x = b + 1) : a = b := by omega
theorem hq_mv {a b x y : Nat} (h : x = y) (e : a = b) (k : x = 0 ∨ x = a + 1) : y = 0 ∨ y = b + 1 := by
  subst h
  subst e
  exact k
theorem hCq_iff (J e : Nat → Nat) (a b c : Nat) : hCq J e a b c 3 ↔ hFit J a b c ∧ (64 ≤ J 0 → e (J 0 - 64) = 0 ∨ e (J 0 - 64) = a + 1) ∧ (64 ≤ J 1 → e (J 1 - 64) = 0 ∨ e (J 1 - 64) = b + 1) ∧ (64 ≤ J 2 → e (J 2 - 64) = 0 ∨ e (J 2 - 64) = c + 1) := by
  have u : hCq J e a b c 3 ↔ (((True ∧ (J 0 < 64 → J 0 = a) ∧ (64 ≤ J 0 → e (J 0 - 64) = 0 ∨ e (J 0 - 64) = a + 1)) ∧ (J 1 < 64 → J 1 = b) ∧ (64 ≤ J 1 → hXe J e a b c 1 (J 1 - 64) = 0 ∨ hXe J e a b c 1 (J 1 - 64) = b + 1)) ∧ (J 2 < 64 → J 2 = c) ∧ (64 ≤ J 2 → hXe J e a b c 2 (J 2 - 64) = 0 ∨ hXe J e a b c 2 (J 2 - 64) = c + 1)) := Iff.rfl
  have f1 : 64 ≤ J 1 → ((J 0 = J 1 → hXe J e a b c 1 (J 1 - 64) = a + 1) ∧ (¬ J 0 = J 1 → hXe J e a b c 1 (J 1 - 64) = e (J 1 - 64))) := fun h => by
    rw [hXe_1]
    exact ⟨fun z => if_pos ⟨by omega, by omega⟩, fun z => if_neg (fun y => z (by omega))⟩
  have f2 : 64 ≤ J 2 → ((J 1 = J 2 → hXe J e a b c 2 (J 2 - 64) = b + 1) ∧ (¬ J 1 = J 2 → J 0 = J 2 → hXe J e a b c 2 (J 2 - 64) = a + 1) ∧ (¬ J 1 = J 2 → ¬ J 0 = J 2 → hXe J e a b c 2 (J 2 - 64) = e (J 2 - 64))) := fun h => by
    rw [hXe_2, hXe_1]
    exact ⟨fun z => if_pos ⟨by omega, by omega⟩, fun z y => (if_neg (fun w => z (by omega))).trans (if_pos ⟨by omega, by omega⟩), fun z y => (if_neg (fun w => z (by omega))).trans (if_neg (fun w => y (by omega)))⟩
  have g01 : J 0 = J 1 → e (J 0 - 64) = e (J 1 - 64) := fun h => by rw [h]
  have g12 : J 1 = J 2 → e (J 1 - 64) = e (J 2 - 64) := fun h => by rw [h]
  have g02 : J 0 = J 2 → e (J 0 - 64) = e (J 2 - 64) := fun h => by rw [h]
  rw [u]
  unfold hFit
  constructor
  · rintro ⟨⟨⟨-, n0, v0⟩, n1, v1⟩, n2, v2⟩
    have k01 : ¬ J 0 = J 1 ∨ a = b := by
      by_cases h : J 0 = J 1
      · right
        rcases Nat.lt_or_ge (J 1) 64 with y | y
        · exact (n0 (h ▸ y)).symm.trans (h.trans (n1 y))
        · exact hq_eq ((f1 y).1 h) (v1 y)
      · exact Or.inl h
    have k12 : ¬ J 1 = J 2 ∨ b = c := by
      by_cases h : J 1 = J 2
      · right
        rcases Nat.lt_or_ge (J 2) 64 with y | y
        · exact (n1 (h ▸ y)).symm.trans (h.trans (n2 y))
        · exact hq_eq ((f2 y).1 h) (v2 y)
      · exact Or.inl h
    have k02 : ¬ J 0 = J 2 ∨ a = c := by
      by_cases h : J 0 = J 2
      · right
        by_cases h1 : J 1 = J 2
        · exact (k01.resolve_left (fun z => z (h.trans h1.symm))).trans (k12.resolve_left (fun z => z h1))
        · rcases Nat.lt_or_ge (J 2) 64 with y | y
          · exact (n0 (h ▸ y)).symm.trans (h.trans (n2 y))
          · exact hq_eq ((f2 y).2.1 h1 h) (v2 y)
      · exact Or.inl h
    have m1 : 64 ≤ J 1 → e (J 1 - 64) = 0 ∨ e (J 1 - 64) = b + 1 := fun y => by
      by_cases h : J 0 = J 1
      · exact hq_mv (g01 h) (k01.resolve_left (fun z => z h)) (v0 (h ▸ y))
      · rw [← (f1 y).2 h]; exact v1 y
    have m2 : 64 ≤ J 2 → e (J 2 - 64) = 0 ∨ e (J 2 - 64) = c + 1 := fun y => by
      by_cases h1 : J 1 = J 2
      · exact hq_mv (g12 h1) (k12.resolve_left (fun z => z h1)) (m1 (h1 ▸ y))
      · by_cases h0 : J 0 = J 2
        · exact hq_mv (g02 h0) (k02.resolve_left (fun z => z h0)) (v0 (h0 ▸ y))
        · rw [← (f2 y).2.2 h1 h0]; exact v2 y
    have o : ∀ {q x : Nat}, (q < 64 → q = x) → 64 ≤ q ∨ q = x := fun {q x} h => (Nat.lt_or_ge q 64).elim (fun y => Or.inr (h y)) Or.inl
    exact ⟨⟨o n0, o n1, o n2, k01, k12, k02⟩, v0, m1, m2⟩
  · rintro ⟨⟨p0, p1, p2, k01, k12, k02⟩, v0, m1, m2⟩
    have o : ∀ {q x : Nat}, (64 ≤ q ∨ q = x) → q < 64 → q = x := fun {q x} h y => h.resolve_left (Nat.not_le.mpr y)
    refine ⟨⟨⟨trivial, o p0, v0⟩, o p1, fun y => ?_⟩, o p2, fun y => ?_⟩
    · by_cases h : J 0 = J 1
      · rw [(f1 y).1 h, k01.resolve_left (fun z => z h)]; exact Or.inr rfl
      · rw [(f1 y).2 h]; exact m1 y
    · by_cases h1 : J 1 = J 2
      · rw [(f2 y).1 h1, k12.resolve_left (fun z => z h1)]; exact Or.inr rfl
      · by_cases h0 : J 0 = J 2
        · rw [(f2 y).2.1 h1 h0, k02.resolve_left (fun z => z h0)]; exact Or.inr rfl
        · rw [(f2 y).2.2 h1 h0]; exact m2 y

-- THE WALK COUNTS THE ROWS
theorem hfld {row val x v : Nat} (hx : x < 8) (hv : v < 8) (hval : val < 64) : (row ||| val * 2 ^ (6 * (7 - v))) / 2 ^ (6 * (7 - x)) % 64 = if x = v then (row / 2 ^ (6 * (7 - x)) % 64) ||| val else row / 2 ^ (6 * (7 - x)) % 64 := by
  apply Nat.eq_of_testBit_eq
  intro i
  have hb : ∀ k, 6 ≤ k → val.testBit k = false := fun k hk => Nat.testBit_lt_two_pow (Nat.lt_of_lt_of_le (show val < 2 ^ 6 from hval) (Nat.pow_le_pow_right (by decide) hk))
  have e1 : ∀ y : Nat, (y / 2 ^ (6 * (7 - x)) % 64).testBit i = (decide (i < 6) && y.testBit (i + 6 * (7 - x))) := fun y => by
    rw [show (64 : Nat) = 2 ^ 6 from rfl, Nat.testBit_mod_two_pow, Nat.testBit_div_two_pow]
  rw [e1, Nat.testBit_or, Nat.testBit_mul_two_pow]
  by_cases z : x = v
  · rw [if_pos z, Nat.testBit_or, e1, z]
    by_cases h6 : i < 6
    · rw [decide_eq_true h6, decide_eq_true (show 6 * (7 - v) ≤ i + 6 * (7 - v) by omega), Nat.add_sub_cancel]
      simp
    · rw [decide_eq_false h6, hb i (by omega)]
      simp
  · rw [if_neg z, e1]
    by_cases h6 : i < 6
    · rw [decide_eq_true h6]
      have : (decide (6 * (7 - v) ≤ i + 6 * (7 - x)) && val.testBit (i + 6 * (7 - x) - 6 * (7 - v))) = false := by
        by_cases y : 6 * (7 - v) ≤ i + 6 * (7 - x)
        · rw [hb _ (by omega)]
          simp
        · rw [decide_eq_false y]
          simp
      rw [this]
      simp
    · rw [decide_eq_false h6]
      simp
theorem hRE.step {row kn : Nat} {e J : Nat → Nat} {v a b c : Nat} (h : hRE row kn e) (hv : v < 3) (hJ : ∀ q, q < 3 → J q < 72) (ha : a < 64) (hb : b < 64) (hc : c < 64) (hq : hCq J e a b c 3) : ∀ q, q ≤ 3 → hRE (hXt J (hsh v) (hvc v a b c) row q) (kn ||| hvm J q) (hXe J e a b c q) := by
  have hqs : ∀ q, q < 3 → (64 ≤ J q → hXe J e a b c q (J q - 64) = 0 ∨ hXe J e a b c q (J q - 64) = hpk q a b c + 1) := fun q hq3 => by
    obtain ⟨⟨⟨-, -, v0⟩, -, v1⟩, -, v2⟩ := hq
    rcases (show q = 0 ∨ q = 1 ∨ q = 2 by omega) with rfl | rfl | rfl
    · exact v0
    · exact v1
    · exact v2
  intro q
  induction q with
  | zero =>
    intro _
    show hRE row (kn ||| 0) e
    rw [Nat.or_zero]
    exact h
  | succ q ih =>
    intro hq3
    have ih := ih (by omega)
    have hval : hvc v a b c / 2 ^ hsh v q % 64 = hpk q a b c := hpn_vc hv (by omega) ha hb hc
    have hpl : hpk q a b c < 64 := hpk_lt ha hb hc
    have h48 := hXt_lt (It := J) (sh := hsh v) (code := hvc v a b c) h.1 hJ (q + 1) hq3
    have h256 : kn ||| hvm J (q + 1) < 2 ^ 8 := Nat.or_lt_two_pow h.2.1 (hvm_lt J hJ (q + 1) hq3)
    refine ⟨h48, h256, fun x hx => ?_⟩
    obtain ⟨-, -, i3⟩ := ih
    obtain ⟨p1, p2⟩ := i3 x hx
    by_cases y : 64 ≤ J q
    · have hJq := hJ q (by omega)
      have er : hXt J (hsh v) (hvc v a b c) row (q + 1) = hXt J (hsh v) (hvc v a b c) row q ||| hpk q a b c * 2 ^ (6 * (7 - (J q - 64))) := by
        show (if 64 ≤ J q then hXt J (hsh v) (hvc v a b c) row q ||| (hvc v a b c / 2 ^ hsh v q % 64) * 2 ^ (6 * (7 - (J q - 64))) else hXt J (hsh v) (hvc v a b c) row q) = _
        rw [if_pos y, hval]
      have em : hvm J (q + 1) = hvm J q ||| 2 ^ (J q - 64) := if_neg (by omega)
      have ee : hXe J e a b c (q + 1) x = if x = J q - 64 then hpk q a b c + 1 else hXe J e a b c q x := by
        show (if 64 ≤ J q then (fun x => if x = J q - 64 then hpk q a b c + 1 else hXe J e a b c q x) else hXe J e a b c q) x = _
        rw [if_pos y]
      rw [er, em, ee, hfld hx (by omega) hpl, ← Nat.or_assoc, Nat.testBit_or, Nat.testBit_two_pow]
      by_cases z : x = J q - 64
      · rw [if_pos z, if_pos z, decide_eq_true z.symm, Bool.or_true]
        refine ⟨fun _ => ?_, fun w => absurd rfl w⟩
        have hc9 := hqs q (by omega) y
        rw [← z] at hc9
        by_cases t : (kn ||| hvm J q).testBit x = true
        · have e1 := p1 t
          rcases hc9 with w | w
          · omega
          · rw [show hXt J (hsh v) (hvc v a b c) row q / 2 ^ (6 * (7 - x)) % 64 = hpk q a b c by omega, Nat.or_self]
        · rw [(p2 t).2, Nat.zero_or]
      · rw [if_neg z, if_neg z, decide_eq_false (fun w => z w.symm), Bool.or_false]
        exact ⟨p1, p2⟩
    · have er : hXt J (hsh v) (hvc v a b c) row (q + 1) = hXt J (hsh v) (hvc v a b c) row q := if_neg y
      have em : hvm J (q + 1) = hvm J q := if_pos (by omega)
      have ee : hXe J e a b c (q + 1) = hXe J e a b c q := if_neg y
      rw [er, em, ee]
      exact ⟨p1, p2⟩
theorem hfit_e {J : Nat → Nat} {m kn row q val : Nat} {e : Nat → Nat} (hr : hRE row kn e) (hJ : J q < 72) (hbit : m.testBit q = true ↔ (J q < 64 ∨ hkn (nI kn) (J q))) (hf : 64 ≤ J q ∨ J q = val) : (m.testBit q = true → hkq J m row q = val) ↔ (64 ≤ J q → e (J q - 64) = 0 ∨ e (J q - 64) = val + 1) := by
  rcases Nat.lt_or_ge (J q) 64 with y | y
  · have e1 : hkq J m row q = J q := if_pos y
    have e2 : J q = val := hf.resolve_left (Nat.not_le.mpr y)
    exact ⟨fun _ z => absurd z (Nat.not_le.mpr y), fun _ _ => e1.trans e2⟩
  · obtain ⟨p1, p2⟩ := hr.2.2 (J q - 64) (by omega)
    by_cases t : kn.testBit (J q - 64) = true
    · have hb : m.testBit q = true := hbit.mpr (Or.inr ((hkn_bit hr.2.1 y hJ).mpr t))
      have e1 : hkq J m row q = row / 2 ^ (6 * (7 - (J q - 64))) % 64 := (if_neg (Nat.not_lt.mpr y)).trans (if_pos hb)
      have e2 := p1 t
      rw [e1, e2]
      constructor
      · exact fun h _ => Or.inr (by rw [h hb])
      · intro h _
        rcases h y with w | w
        · exact absurd w (Nat.succ_ne_zero _)
        · exact Nat.succ.inj w
    · have hb : ¬ m.testBit q = true := fun z => by
        rcases hbit.mp z with w | w
        · omega
        · exact t ((hkn_bit hr.2.1 y hJ).mp w)
      exact ⟨fun _ _ => Or.inl (p2 t).1, fun _ z => absurd z hb⟩
theorem hagree {J : Nat → Nat} {kn row a b c : Nat} {e : Nat → Nat} (hr : hRE row kn e) (hJ : ∀ q, q < 3 → J q < 72) (ha : a < 64) (hb : b < 64) (hc : c < 64) (hf : hFit J a b c) : hvc (hview (hfx J (nI kn) 3)) a b c / 2 ^ hopen (hfx J (nI kn) 3) = hKf J (hsh (hview (hfx J (nI kn) 3))) (hnk (hview (hfx J (nI kn) 3)) J 3) (hfx J (nI kn) 3) row 3 / 2 ^ hopen (hfx J (nI kn) 3) ↔ hCq J e a b c 3 := by
  have h8 : hfx J (nI kn) 3 < 8 := hfx_lt J (nI kn) 3 (Nat.le_refl _)
  obtain ⟨b0, b1, b2⟩ := hfx_bits J (nI kn)
  generalize hm : hfx J (nI kn) 3 = m at *
  obtain ⟨t0, t1, t2⟩ := htb m
  have z0 : ∀ q, ¬ m.testBit q = true → J q < 64 ∨ hkq J m row q = 0 := fun q h => by
    rcases Nat.lt_or_ge (J q) 64 with y | y
    · exact Or.inl y
    · exact Or.inr ((if_neg (Nat.not_lt.mpr y)).trans (if_neg h))
  have zz : ∀ q, (m.testBit q = true ↔ (J q < 64 ∨ hkn (nI kn) (J q))) → ¬ m.testBit q = true → hkq J m row q = 0 := fun q hb9 h => (z0 q h).resolve_left (fun y => h (hb9.mpr (Or.inl y)))
  rw [hKf_vc (hview_lt _ h8), (hagr h8 ha hb hc (hkq_lt _ _ _ _) (hkq_lt _ _ _ _) (hkq_lt _ _ _ _) (fun h => zz 0 (t0.trans b0) (fun w => by have := t0.mp w; omega)) (fun h => zz 1 (t1.trans b1) (fun w => by have := t1.mp w; omega)) (fun h => zz 2 (t2.trans b2) (fun w => by have := t2.mp w; omega))).2, ← t0, ← t1, ← t2]
  rw [hCq_iff, hfit_e hr (hJ 0 (by decide)) (t0.trans b0) hf.1, hfit_e hr (hJ 1 (by decide)) (t1.trans b1) hf.2.1, hfit_e hr (hJ 2 (by decide)) (t2.trans b2) hf.2.2.1]
  exact ⟨fun h => ⟨hf, h⟩, fun h => h.2⟩
theorem hFl_iff {v : Nat} {J g : Nat → Nat} (x : Nat) : ∀ k, x ∈ hFl v J g k ↔ ∃ i, i < k ∧ x = g i ∧ hFit J (hpn v 0 (g i)) (hpn v 1 (g i)) (hpn v 2 (g i))
  | 0 => ⟨fun h => absurd h List.not_mem_nil, fun ⟨i, h, _⟩ => absurd h (Nat.not_lt_zero _)⟩
  | k + 1 => by
    have ih := hFl_iff (v := v) (J := J) (g := g) x k
    show x ∈ (if hFit J (hpn v 0 (g k)) (hpn v 1 (g k)) (hpn v 2 (g k)) then hFl v J g k ++ [g k] else hFl v J g k) ↔ _
    by_cases h : hFit J (hpn v 0 (g k)) (hpn v 1 (g k)) (hpn v 2 (g k))
    · rw [if_pos h, List.mem_append, List.mem_singleton, ih]
      constructor
      · rintro (⟨i, h1, h2⟩ | rfl)
        · exact ⟨i, by omega, h2⟩
        · exact ⟨k, Nat.lt_succ_self _, rfl, h⟩
      · rintro ⟨i, h1, h2, h3⟩
        by_cases z : i = k
        · subst z; exact Or.inr h2
        · exact Or.inl ⟨i, by omega, h2, h3⟩
    · rw [if_neg h, ih]
      constructor
      · rintro ⟨i, h1, h2⟩
        exact ⟨i, by omega, h2⟩
      · rintro ⟨i, h1, h2, h3⟩
        by_cases z : i = k
        · subst z; exact absurd h3 h
        · exact ⟨i, by omega, h2, h3⟩
/-- the fitting codes are the triples that the pattern is -/
theorem hFl_tr {S : Nat → Nat → Nat → Prop} {g J : Nat → Nat} {cnt v : Nat} (hv : v < 3) (hs : hSor g cnt (hXv S v)) (x : Nat) : x ∈ hFl v J g cnt ↔ ∃ a b c, a < 64 ∧ b < 64 ∧ c < 64 ∧ S a b c ∧ hFit J a b c ∧ x = hvc v a b c := by
  rw [hFl_iff]
  constructor
  · rintro ⟨i, h1, h2, h3⟩
    obtain ⟨a, b, c, ha, hb, hc, hS, e⟩ := (hs.2 _).mpr ⟨i, h1, rfl⟩
    rw [e, hpn_vc (q := 0) hv (by decide) ha hb hc, hpn_vc (q := 1) hv (by decide) ha hb hc, hpn_vc (q := 2) hv (by decide) ha hb hc] at h3
    exact ⟨a, b, c, ha, hb, hc, hS, h3, h2.trans e⟩
  · rintro ⟨a, b, c, ha, hb, hc, hS, hF, rfl⟩
    obtain ⟨i, h1, h2⟩ := (hs.2 _).mp ⟨a, b, c, ha, hb, hc, hS, rfl⟩
    refine ⟨i, h1, h2.symm, ?_⟩
    rw [h2, hpn_vc (q := 0) hv (by decide) ha hb hc, hpn_vc (q := 1) hv (by decide) ha hb hc, hpn_vc (q := 2) hv (by decide) ha hb hc]
    exact hF
theorem hKw_lt {I : Nat → Nat → Nat} {o : List Nat} (hI : ∀ i, i < o.length → ∀ q, q < 3 → I (o.getD i 0) q < 72) : ∀ j, j ≤ o.length → hKw I o j < 2 ^ 8
  | 0, _ => by show 0 < 2 ^ 8; decide
  | j + 1, h => Nat.or_lt_two_pow (hKw_lt hI j (by omega)) (hvm_lt _ (hI j (by omega)) 3 (Nat.le_refl _))
theorem hUx_Ct {w z cnt : Nat} {S : Nat → Nat → Nat → Prop} {g I : Nat → Nat → Nat} {o : List Nat} (hs : ∀ v, v < 3 → hSor (g v) cnt (hXv S v)) (hI : ∀ i, i < o.length → ∀ q, q < 3 → I (o.getD i 0) q < 72) : ∀ r row e, r ≤ o.length → hRE row (hKw I o (o.length - r)) e → hUx w z (hWF g cnt I o) (hWI I o) (hWs I o) (hWn I o) (hWx I o) (hWo I o) o.length r row = hCt w z S (fun k => I (o.getD k 0)) o.length r e
  | 0, _, _, _, _ => rfl
  | r + 1, row, e, hr, hre => by
    have hd : o.length - (r + 1) < o.length := by omega
    have hJ := hI _ hd
    have hnx : o.length - r = o.length - (r + 1) + 1 := by omega
    have ih := hUx_Ct (w := w) (z := z) (cnt := cnt) (S := S) (g := g) (I := I) (o := o) hs hI r
    rw [hnx] at ih
    have hkw : hKw I o (o.length - (r + 1) + 1) = hKw I o (o.length - (r + 1)) ||| hvm (I (o.getD (o.length - (r + 1)) 0)) 3 := rfl
    rw [hkw] at ih
    show hsm (fun j => (hFl (hview (hfx (I (o.getD (o.length - (r + 1)) 0)) (nI (hKw I o (o.length - (r + 1)))) 3)) (I (o.getD (o.length - (r + 1)) 0)) (g (hview (hfx (I (o.getD (o.length - (r + 1)) 0)) (nI (hKw I o (o.length - (r + 1)))) 3))) cnt).getD j 0 / 2 ^ hopen (hfx (I (o.getD (o.length - (r + 1)) 0)) (nI (hKw I o (o.length - (r + 1)))) 3) = hKf (I (o.getD (o.length - (r + 1)) 0)) (hsh (hview (hfx (I (o.getD (o.length - (r + 1)) 0)) (nI (hKw I o (o.length - (r + 1)))) 3))) (hnk (hview (hfx (I (o.getD (o.length - (r + 1)) 0)) (nI (hKw I o (o.length - (r + 1)))) 3)) (I (o.getD (o.length - (r + 1)) 0)) 3) (hfx (I (o.getD (o.length - (r + 1)) 0)) (nI (hKw I o (o.length - (r + 1)))) 3) row 3 / 2 ^ hopen (hfx (I (o.getD (o.length - (r + 1)) 0)) (nI (hKw I o (o.length - (r + 1)))) 3)) (fun j => w + hUx w z (hWF g cnt I o) (hWI I o) (hWs I o) (hWn I o) (hWx I o) (hWo I o) o.length r (hXt (I (o.getD (o.length - (r + 1)) 0)) (hsh (hview (hfx (I (o.getD (o.length - (r + 1)) 0)) (nI (hKw I o (o.length - (r + 1)))) 3))) ((hFl (hview (hfx (I (o.getD (o.length - (r + 1)) 0)) (nI (hKw I o (o.length - (r + 1)))) 3)) (I (o.getD (o.length - (r + 1)) 0)) (g (hview (hfx (I (o.getD (o.length - (r + 1)) 0)) (nI (hKw I o (o.length - (r + 1)))) 3))) cnt).getD j 0) row 3)) (hFl (hview (hfx (I (o.getD (o.length - (r + 1)) 0)) (nI (hKw I o (o.length - (r + 1)))) 3)) (I (o.getD (o.length - (r + 1)) 0)) (g (hview (hfx (I (o.getD (o.length - (r + 1)) 0)) (nI (hKw I o (o.length - (r + 1)))) 3))) cnt).length = _
    have key := fun (A : Nat → Prop) (m9 : Nat) (ta tb tc : Nat → Nat) => hCt_en (w := w) (z := z) (n := o.length) (r := r) (m := m9) (S := S) (Ps := fun k => I (o.getD k 0)) (e := e) (A := A) (ta := ta) (tb := tb) (tc := tc)
    generalize I (o.getD (o.length - (r + 1)) 0) = J at *
    generalize hKw I o (o.length - (r + 1)) = kn at *
    have h8 : hfx J (nI kn) 3 < 8 := hfx_lt J (nI kn) 3 (Nat.le_refl _)
    have hv := hview_lt _ h8
    have hsv := hs _ hv
    have htr := fun x => hFl_tr (J := J) hv hsv x
    have hup : hUp (hFl (hview (hfx J (nI kn) 3)) J (g (hview (hfx J (nI kn) 3))) cnt) := hFl_up cnt (fun i j hij hj => hsv.1 i j hij hj)
    generalize hFl (hview (hfx J (nI kn) 3)) J (g (hview (hfx J (nI kn) 3))) cnt = fl at *
    have hmem : ∀ i, i < fl.length → ∃ a b c, a < 64 ∧ b < 64 ∧ c < 64 ∧ S a b c ∧ hFit J a b c ∧ fl.getD i 0 = hvc (hview (hfx J (nI kn) 3)) a b c := fun i hi => (htr _).mp (hgetD_mem hi)
    have hag := fun (a b c : Nat) (ha : a < 64) (hb : b < 64) (hc : c < 64) (hf : hFit J a b c) => hagree hre hJ ha hb hc hf
    have hstep := fun (a b c : Nat) (ha : a < 64) (hb : b < 64) (hc : c < 64) (hq : hCq J e a b c 3) => hre.step (v := hview (hfx J (nI kn) 3)) hv hJ ha hb hc hq 3 (Nat.le_refl _)
    generalize hview (hfx J (nI kn) 3) = v at *
    have pk : ∀ {a b c : Nat}, a < 64 → b < 64 → c < 64 → hpn v 0 (hvc v a b c) = a ∧ hpn v 1 (hvc v a b c) = b ∧ hpn v 2 (hvc v a b c) = c := fun ha hb hc => ⟨hpn_vc (q := 0) hv (by decide) ha hb hc, hpn_vc (q := 1) hv (by decide) ha hb hc, hpn_vc (q := 2) hv (by decide) ha hb hc⟩
    rw [key (fun j => fl.getD j 0 / 2 ^ hopen (hfx J (nI kn) 3) = hKf J (hsh v) (hnk v J 3) (hfx J (nI kn) 3) row 3 / 2 ^ hopen (hfx J (nI kn) 3)) fl.length (fun j => hpn v 0 (fl.getD j 0)) (fun j => hpn v 1 (fl.getD j 0)) (fun j => hpn v 2 (fl.getD j 0)) (fun t _ _ => ⟨hpn_lt _ _ _, hpn_lt _ _ _, hpn_lt _ _ _⟩) (fun u t h1 h2 _ _ q => ?_) (fun a b c ha hb hc => ?_)]
    · refine hsm_ext _ (fun _ _ => Iff.rfl) (fun j hj hAj => ?_)
      obtain ⟨a, b, c, ha, hb, hc, hS, hF, e9⟩ := hmem j hj
      rw [e9] at hAj ⊢
      obtain ⟨k1, k2, k3⟩ := pk ha hb hc
      rw [k1, k2, k3]
      congr 1
      exact ih _ _ (by omega) (hstep a b c ha hb hc ((hag a b c ha hb hc hF).mp hAj))
    · obtain ⟨a, b, c, ha, hb, hc, -, -, e1⟩ := hmem u (by omega)
      obtain ⟨a', b', c', ha', hb', hc', -, -, e2⟩ := hmem t h2
      obtain ⟨k1, k2, k3⟩ := pk ha hb hc
      obtain ⟨l1, l2, l3⟩ := pk ha' hb' hc'
      rw [e1, e2, k1, k2, k3, l1, l2, l3] at q
      have := hup u t h1 h2
      rw [e1, e2, q.1, q.2.1, q.2.2] at this
      exact absurd this (Nat.lt_irrefl _)
    · constructor
      · rintro ⟨hS, hQ⟩
        have hF := ((hCq_iff J e a b c).mp hQ).1
        have hx := (htr (hvc v a b c)).mpr ⟨a, b, c, ha, hb, hc, hS, hF, rfl⟩
        obtain ⟨t, ht, et⟩ := List.getElem_of_mem hx
        have et : fl.getD t 0 = hvc v a b c := by rw [List.getD_eq_getElem?_getD, List.getElem?_eq_getElem ht]; exact et
        obtain ⟨k1, k2, k3⟩ := pk ha hb hc
        refine ⟨t, ht, ?_, ?_, ?_, ?_⟩
        · show fl.getD t 0 / _ = _
          rw [et]; exact (hag a b c ha hb hc hF).mpr hQ
        · show hpn v 0 (fl.getD t 0) = a
          rw [et, k1]
        · show hpn v 1 (fl.getD t 0) = b
          rw [et, k2]
        · show hpn v 2 (fl.getD t 0) = c
          rw [et, k3]
      · rintro ⟨t, ht, hA, h1, h2, h3⟩
        obtain ⟨a', b', c', ha', hb', hc', hS, hF, e9⟩ := hmem t ht
        have hA : fl.getD t 0 / 2 ^ hopen (hfx J (nI kn) 3) = hKf J (hsh v) (hnk v J 3) (hfx J (nI kn) 3) row 3 / 2 ^ hopen (hfx J (nI kn) 3) := hA
        have h1 : hpn v 0 (fl.getD t 0) = a := h1
        have h2 : hpn v 1 (fl.getD t 0) = b := h2
        have h3 : hpn v 2 (fl.getD t 0) = c := h3
        obtain ⟨k1, k2, k3⟩ := pk ha' hb' hc'
        rw [e9] at hA h1 h2 h3
        rw [k1] at h1
        rw [k2] at h2
        rw [k3] at h3
        subst h1
        subst h2
        subst h3
        exact ⟨hS, (hag _ _ _ ha' hb' hc' hF).mp hA⟩
theorem hkey_mod {I : Nat → Nat → Nat} {o : List Nat} (hI : ∀ i, i < o.length → ∀ q, q < 3 → I (o.getD i 0) q < 72) (d row : Nat) (_ : d < o.length) : hKf (hWI I o d) (hWs I o d) (hWn I o d) (hWx I o d) row 3 % 2 ^ hWo I o d = 0 := by
  show hKf (I (o.getD d 0)) (hsh (hview (hfx (I (o.getD d 0)) (nI (hKw I o d)) 3))) (hnk (hview (hfx (I (o.getD d 0)) (nI (hKw I o d)) 3)) (I (o.getD d 0)) 3) (hfx (I (o.getD d 0)) (nI (hKw I o d)) 3) row 3 % 2 ^ hopen (hfx (I (o.getD d 0)) (nI (hKw I o d)) 3) = 0
  generalize I (o.getD d 0) = J
  generalize nI (hKw I o d) = kn
  have h8 : hfx J kn 3 < 8 := hfx_lt J kn 3 (Nat.le_refl _)
  obtain ⟨b0, b1, b2⟩ := hfx_bits J kn
  generalize hfx J kn 3 = m at *
  obtain ⟨t0, t1, t2⟩ := htb m
  have zz : ∀ q, (m.testBit q = true ↔ (J q < 64 ∨ hkn kn (J q))) → ¬ m.testBit q = true → hkq J m row q = 0 := fun q hb9 h => by
    rcases Nat.lt_or_ge (J q) 64 with y | y
    · exact absurd (hb9.mpr (Or.inl y)) h
    · exact (if_neg (Nat.not_lt.mpr y)).trans (if_neg h)
  rw [hKf_vc (hview_lt _ h8)]
  have z0 := fun h : m % 2 = 0 => zz 0 (t0.trans b0) (fun w => by have := t0.mp w; omega)
  have z1 := fun h : m / 2 % 2 = 0 => zz 1 (t1.trans b1) (fun w => by have := t1.mp w; omega)
  have z2 := fun h : m / 4 % 2 = 0 => zz 2 (t2.trans b2) (fun w => by have := t2.mp w; omega)
  generalize hkq J m row 0 = x at *
  generalize hkq J m row 1 = y at *
  generalize hkq J m row 2 = z at *
  clear b0 b1 b2 t0 t1 t2 zz
  rcases (show m = 0 ∨ m = 1 ∨ m = 2 ∨ m = 3 ∨ m = 4 ∨ m = 5 ∨ m = 6 ∨ m = 7 by omega) with rfl | rfl | rfl | rfl | rfl | rfl | rfl | rfl
  · rw [z0 rfl, z1 rfl, z2 rfl]; decide
  · rw [z1 rfl, z2 rfl]
    show (x * 2 ^ 12 + 0 * 2 ^ 6 + 0 * 2 ^ 0) % 2 ^ 12 = 0
    omega
  · rw [z0 rfl, z2 rfl]
    show (0 * 2 ^ 0 + y * 2 ^ 12 + 0 * 2 ^ 6) % 2 ^ 12 = 0
    omega
  · rw [z2 rfl]
    show (x * 2 ^ 12 + y * 2 ^ 6 + 0 * 2 ^ 0) % 2 ^ 6 = 0
    omega
  · rw [z0 rfl, z1 rfl]
    show (0 * 2 ^ 6 + 0 * 2 ^ 0 + z * 2 ^ 12) % 2 ^ 12 = 0
    omega
  · rw [z1 rfl]
    show (x * 2 ^ 6 + 0 * 2 ^ 0 + z * 2 ^ 12) % 2 ^ 6 = 0
    omega
  · rw [z0 rfl]
    show (0 * 2 ^ 0 + y * 2 ^ 12 + z * 2 ^ 6) % 2 ^ 6 = 0
    omega
  · show _ % 1 = 0
    omega
/-- rows and whole rows of an order, as all triples give them -/
noncomputable abbrev hRw (S : Nat → Nat → Nat → Prop) (I : Nat → Nat → Nat) (o : Nat → Nat) (n : Nat) : Nat := hCt 1 0 S (fun k => I (o k)) n n (fun _ => 0)
noncomputable abbrev hWh (S : Nat → Nat → Nat → Prop) (I : Nat → Nat → Nat) (o : Nat → Nat) (n : Nat) : Nat := hCt 0 1 S (fun k => I (o k)) n n (fun _ => 0)
theorem hEn_eq {F : Nat → Nat → Int32} {cnt co sc : Nat} {S : Nat → Nat → Nat → Prop} {g I : Nat → Nat → Nat} {o : List Nat} (hw : hVw F g cnt (hXv S)) (hI : ∀ i, i < o.length → ∀ q, q < 3 → I (o.getD i 0) q < 72) (hco : co = 0 ∨ co = 1) (hsc : sc ≤ 20000) : hUV co (hRw S I (hLf9 o) o.length) (hWh S I (hLf9 o) o.length) (0, sc) (hEn g cnt I o co sc) := by
  have hs : ∀ v, v < 3 → hSor (g v) cnt (hXv S v) := fun v hv => (hw.2 v hv).2
  have h0 : hRE 0 (hKw I o (o.length - o.length)) (fun _ => 0) := by
    rw [Nat.sub_self]
    refine ⟨by decide, by show 0 < 256; decide, fun x _ => ⟨fun h => ?_, fun _ => ⟨rfl, by rw [Nat.zero_div]⟩⟩⟩
    have h : (0 : Nat).testBit x = true := h
    rw [Nat.zero_testBit] at h
    exact absurd h (by decide)
  have key := hEx_U (FL := hWF g cnt I o) (It := hWI I o) (sh := hWs I o) (nk := hWn I o) (fx := hWx I o) (ob := hWo I o) (len := o.length) hco (fun d hd => hFl_up cnt (fun i j hij hj => (hs _ (hview_lt _ (hfx_lt _ _ 3 (Nat.le_refl _)))).1 i j hij hj)) (fun d row hd => hkey_mod hI d row hd) o.length 0 (0, sc) (Nat.le_refl _) (Nat.zero_le _) hsc
  rw [hUx_Ct hs hI o.length 0 _ (Nat.le_refl _) h0, hUx_Ct hs hI o.length 0 _ (Nat.le_refl _) h0] at key
  exact key

-- WHAT rows AND solutions ANSWER
/-- how many rows, or -2 -/
def hRowP (S : Nat → Nat → Nat → Prop) (I : Nat → Nat → Nat) (o : Nat → Nat) (n : Nat) (r : Int32) : Prop := (20000 < hRw S I o n ∧ r = (-2)) ∨ (hRw S I o n ≤ 20000 ∧ r = nI (hRw S I o n))
def hSolP (S : Nat → Nat → Nat → Prop) (I : Nat → Nat → Nat) (np : Nat) (r : Int32) : Prop := ∃ B, hBst (hCs S I np) np B ∧ ((20000 < hRw S I B np ∧ r = (-2)) ∨ (hRw S I B np ≤ 20000 ∧ r = nI (min (hWh S I B np) 20000)))
theorem hCt_ext {w z n : Nat} {S : Nat → Nat → Nat → Prop} {P Q : Nat → Nat → Nat} (h : ∀ k, k < n → P k = Q k) : ∀ r e, r ≤ n → hCt w z S P n r e = hCt w z S Q n r e
  | 0, _, _ => rfl
  | r + 1, e, hr => by
    have e1 := h (n - (r + 1)) (by omega)
    show hsm (fun x => S (hpn 0 0 x) (hpn 0 1 x) (hpn 0 2 x) ∧ hCq (P (n - (r + 1))) e (hpn 0 0 x) (hpn 0 1 x) (hpn 0 2 x) 3) (fun x => w + hCt w z S P n r (hXe (P (n - (r + 1))) e (hpn 0 0 x) (hpn 0 1 x) (hpn 0 2 x) 3)) 262144 = hsm (fun x => S (hpn 0 0 x) (hpn 0 1 x) (hpn 0 2 x) ∧ hCq (Q (n - (r + 1))) e (hpn 0 0 x) (hpn 0 1 x) (hpn 0 2 x) 3) (fun x => w + hCt w z S Q n r (hXe (Q (n - (r + 1))) e (hpn 0 0 x) (hpn 0 1 x) (hpn 0 2 x) 3)) 262144
    rw [e1]
    refine hsm_ext _ (fun _ _ => Iff.rfl) (fun x _ _ => ?_)
    rw [hCt_ext h r _ (by omega)]
theorem hRowP.det {S : Nat → Nat → Nat → Prop} {I : Nat → Nat → Nat} {o : Nat → Nat} {n : Nat} {r1 r2 : Int32} (h1 : hRowP S I o n r1) (h2 : hRowP S I o n r2) : r1 = r2 := by
  rcases h1 with ⟨u, rfl⟩ | ⟨u, rfl⟩ <;> rcases h2 with ⟨u', rfl⟩ | ⟨u', rfl⟩
  · rfl
  · omega
  · omega
  · rfl
theorem hSolP.det {S : Nat → Nat → Nat → Prop} {I : Nat → Nat → Nat} {np : Nat} {r1 r2 : Int32} (hnp : np ≤ 6) (h1 : hSolP S I np r1) (h2 : hSolP S I np r2) : r1 = r2 := by
  obtain ⟨B, hB, h1⟩ := h1
  obtain ⟨B', hB', h2⟩ := h2
  have e := (hB.uniq hnp hB').2
  have e1 : hRw S I B np = hRw S I B' np := hCt_ext (fun k hk => by rw [e k hk]) np _ (Nat.le_refl _)
  have e2 : hWh S I B np = hWh S I B' np := hCt_ext (fun k hk => by rw [e k hk]) np _ (Nat.le_refl _)
  rw [e1, e2] at h1
  rcases h1 with ⟨u, rfl⟩ | ⟨u, rfl⟩ <;> rcases h2 with ⟨u', rfl⟩ | ⟨u', rfl⟩
  · rfl
  · omega
  · omega
  · rfl
theorem hRow_of {co U V sc : Nat} {E : Nat × Nat} {r : Int32} (h : hUV co U V (0, sc) E) (hr : (20000 < E.1 ∧ r = (-2)) ∨ (E.1 ≤ 20000 ∧ r = nI E.1)) : (20000 < U ∧ r = (-2)) ∨ (U ≤ 20000 ∧ r = nI U) := by
  obtain ⟨h1, h2⟩ := h
  have h1 : 0 + U ≤ 20000 → E.1 = 0 + U ∧ E.2 = hcc co sc V := h1
  have h2 : 20000 < 0 + U → 20000 < E.1 := h2
  rcases Nat.lt_or_ge 20000 U with z | z
  · have := h2 (by omega)
    rcases hr with ⟨-, e⟩ | ⟨q, -⟩
    · exact Or.inl ⟨z, e⟩
    · omega
  · obtain ⟨e1, -⟩ := h1 (by omega)
    rcases hr with ⟨q, -⟩ | ⟨-, e⟩
    · omega
    · exact Or.inr ⟨z, by rw [e, e1, Nat.zero_add]⟩
theorem hSol_of {U V : Nat} {E : Nat × Nat} {r : Int32} (h : hUV 1 U V (0, 0) E) (hr : (20000 < E.1 ∧ r = (-2)) ∨ (E.1 ≤ 20000 ∧ r = nI E.2)) : (20000 < U ∧ r = (-2)) ∨ (U ≤ 20000 ∧ r = nI (min V 20000)) := by
  obtain ⟨h1, h2⟩ := h
  have h1 : 0 + U ≤ 20000 → E.1 = 0 + U ∧ E.2 = hcc 1 0 V := h1
  have h2 : 20000 < 0 + U → 20000 < E.1 := h2
  rcases Nat.lt_or_ge 20000 U with z | z
  · have := h2 (by omega)
    rcases hr with ⟨-, e⟩ | ⟨q, -⟩
    · exact Or.inl ⟨z, e⟩
    · omega
  · obtain ⟨e1, e2⟩ := h1 (by omega)
    rcases hr with ⟨q, -⟩ | ⟨-, e⟩
    · omega
    · refine Or.inr ⟨z, ?_⟩
      rw [e, e2]
      unfold hcc
      rw [if_neg (by decide), Nat.zero_add]
