theorem hbd_meas {F : Nat → Nat → Int32} {g I dd : Nat → Nat → Nat} {mm : Nat → Nat} {np ms cnt : Nat} {X : Nat → Nat → Prop} (hw : hVw F g cnt X) (h : ∀ i, i < 6 → (∀ q, q < 3 → dd i q ≤ 127 ∧ I i q < 72) ∧ mm i ≤ 640) : ∀ i, i < 6 → (∀ q, q < 3 → (fun i => if i < np ∧ ms = 0 then hDd g cnt (I i) else dd i) i q ≤ 127 ∧ I i q < 72) ∧ (fun i => if i < np ∧ ms = 0 then hMm g cnt (I i) else mm i) i ≤ 640 := fun i hi => by
  have h640 := hw.1
  have h1 := hMm_le g cnt (I i)
  refine ⟨fun q hq => ⟨?_, ((h i hi).1 q hq).2⟩, ?_⟩
  · dsimp only
    by_cases z : i < np ∧ ms = 0
    · rw [if_pos z]; exact hDd_le _ _ _ _
    · rw [if_neg z]; exact ((h i hi).1 q hq).1
  · dsimp only
    by_cases z : i < np ∧ ms = 0
    · rw [if_pos z]; omega
    · rw [if_neg z]; exact (h i hi).2
theorem hpig2 : ∀ (n : Nat) (o : List Nat), (∀ y, y < n → y ∈ o) → n ≤ o.length
  | 0, _, _ => Nat.zero_le _
  | n + 1, o, h => by
    have hn := h n (Nat.lt_succ_self n)
    have ih := hpig2 n (o.erase n) (fun y hy => (List.mem_erase_of_ne (Nat.ne_of_lt hy)).mpr (h y (by omega)))
    rw [List.length_erase_of_mem hn] at ih
    have : 0 < o.length := List.length_pos_of_mem hn
    omega
theorem hfold_mem {α β : Type} {f : α → β → α} {P : α → Prop} : ∀ (l : List β) (st : α), (∀ st x, x ∈ l → P st → P (f st x)) → P st → P (l.foldl f st)
  | [], _, _, h => h
  | x :: l, st, hs, h => hfold_mem l (f st x) (fun st y hy => hs st y (List.mem_cons_of_mem _ hy)) (hs st x List.mem_cons_self h)
theorem hfold_inv9 {α β : Type} {f : α → β → α} {P Q : α → Prop} : ∀ {l : List β}, (∀ st x, x ∈ l → P st → P (f st x)) → (∀ st x, x ∈ l → P st → Q st → Q (f st x)) → ∀ {y : β}, (∀ st, P st → Q (f st y)) → y ∈ l → ∀ st, P st → P (l.foldl f st) ∧ Q (l.foldl f st)
  | x :: l, hP, hQ, y, hy, hm, st, hp => by
    rcases List.mem_cons.mp hm with rfl | hm
    · exact hfold_mem (P := fun st => P st ∧ Q st) l _ (fun st z hz h => ⟨hP st z (List.mem_cons_of_mem _ hz) h.1, hQ st z (List.mem_cons_of_mem _ hz) h.1 h.2⟩) ⟨hP st _ List.mem_cons_self hp, hy st hp⟩
    · exact hfold_inv9 (fun st z hz => hP st z (List.mem_cons_of_mem _ hz)) (fun st z hz => hQ st z (List.mem_cons_of_mem _ hz)) hy hm (f st x) (hP st x List.mem_cons_self hp)
theorem hSe_ok (np : Nat) (E : Nat → Nat → Nat) (V : Nat → Nat) : ∀ (r : Nat) (o : List Nat) (kn s c : Nat) (st : Nat × List Nat), c ≤ hMX → c < st.1 → o.Nodup → (∀ x, x ∈ o → x < np) → o.length + r = np → (st.1 ≤ hMX → st.2.length = np) → (hSe np E V r o kn s c st).1 ≤ hMX ∧ (hSe np E V r o kn s c st).2.length = np
  | 0, o, _, _, c, _, hc, _, _, _, hl, _ => ⟨hc, hl⟩
  | r + 1, o, kn, s, c, st, hc, hlt, hnd, hon, hl, hst => by
    have step : ∀ (st : Nat × List Nat) (x : Nat), (st.1 ≤ hMX → st.2.length = np) → x < np → ((if x ∈ o then st else if hct c (hsz E x kn s) < st.1 then hSe np E V r (o ++ [x]) (kn ||| V x) (hsz E x kn s) (hct c (hsz E x kn s)) st else st).1 ≤ hMX → (if x ∈ o then st else if hct c (hsz E x kn s) < st.1 then hSe np E V r (o ++ [x]) (kn ||| V x) (hsz E x kn s) (hct c (hsz E x kn s)) st else st).2.length = np) ∧ (x ∉ o → (if x ∈ o then st else if hct c (hsz E x kn s) < st.1 then hSe np E V r (o ++ [x]) (kn ||| V x) (hsz E x kn s) (hct c (hsz E x kn s)) st else st).1 ≤ hMX) := by
      intro st x hp hx
      have hm : hct c (hsz E x kn s) ≤ hMX := Nat.min_le_right _ _
      by_cases h1 : x ∈ o
      · rw [if_pos h1]; exact ⟨hp, fun q => absurd h1 q⟩
      · rw [if_neg h1]
        by_cases h2 : hct c (hsz E x kn s) < st.1
        · rw [if_pos h2]
          have ih := hSe_ok np E V r (o ++ [x]) (kn ||| V x) (hsz E x kn s) (hct c (hsz E x kn s)) st hm h2 (hnd_add hnd h1) (hon_add hon hx) (by rw [List.length_append]; show o.length + 1 + r = np; omega) hp
          exact ⟨fun _ => ih.2, fun _ => ih.1⟩
        · rw [if_neg h2]
          exact ⟨hp, fun _ => by omega⟩
    obtain ⟨y, hy1, hy2⟩ : ∃ y, y < np ∧ y ∉ o := Classical.byContradiction (fun q => by
      have := hpig2 np o (fun y hy => Classical.byContradiction (fun z => q ⟨y, hy, z⟩))
      omega)
    have key := hfold_inv9 (l := List.range np) (f := fun (st : Nat × List Nat) x => if x ∈ o then st else if hct c (hsz E x kn s) < st.1 then hSe np E V r (o ++ [x]) (kn ||| V x) (hsz E x kn s) (hct c (hsz E x kn s)) st else st) (P := fun st => st.1 ≤ hMX → st.2.length = np) (Q := fun st => st.1 ≤ hMX) (fun st x hx hp => (step st x hp (List.mem_range.mp hx)).1) (fun st x hx hp hq => by
      by_cases h1 : x ∈ o
      · show (if x ∈ o then st else _).1 ≤ hMX
        rw [if_pos h1]; exact hq
      · exact (step st x hp (List.mem_range.mp hx)).2 h1) (y := y) (fun st hp => (step st y hp hy1).2 hy2) (List.mem_range.mpr hy1) st hst
    exact ⟨key.2, key.1 key.2⟩
theorem hk_of {x : Int32} {n : Nat} (h1 : ¬ x < nI 1) (h2 : x ≤ nI n) (hn : n ≤ 100) : ∃ k, k ≤ n ∧ x = nI k := by
  rw [Int32.lt_iff_toInt_lt, nI_toInt (by decide)] at h1
  rw [Int32.le_iff_toInt_le, nI_toInt (by omega)] at h2
  refine ⟨x.toInt.toNat, by omega, Int32.toInt_inj.mp ?_⟩
  rw [nI_toInt (by omega)]
  omega
