set_option maxHeartbeats 4000000 in
set_option maxRecDepth 100000 in
/-- extend, by how many steps are left -/
theorem c_X7_extend (l : Launch) (D : va_G) (K : Nat → ClassId) (tv : Nat) (ad : Nat → Nat) (FL : Nat → List Nat) (It sh : Nat → Nat → Nat) (nk fx ob : Nat → Nat) (co len b sa S : Nat) (hco : co = 0 ∨ co = 1) (hlen : len ≤ 6) (hb1 : b ≤ 1) (hkk : ∀ i, i < len → hStk (FL i) (It i) (sh i) (nk i) (fx i) (ob i)) : ∀ (r : Nat) (ws : va_W) (row tt cnt ra L : Nat) (hr0 : r ≤ len) (hG : hJG K ad ws FL It sh nk fx ob co len b ra sa L S tt cnt) (hrow : row < 2 ^ 48) (htt : tt ≤ 20000) (hcnt : cnt ≤ 20000) (hcL : cnt ≤ L) (hLL : hLv L), hV l D (hTy K) tv yX7_extend cX7_extend 7 none ({ frames := 4 + r, cells := (hQc (hLf L (hEx FL It sh nk fx ob co len r row (tt, cnt)).2) - hQc L), slots := (hQs (hLf L (hEx FL It sh nk fx ob co len r row (tt, cnt)).2) - hQs L), locals := 60 * (4 + r) }) [.ref (ad 33), .int (nI (len - r)), .long (lN row)] ws (fun ws1 => hAg 33 38 ws ws1 ∧ ∃ ra1, hJG K ad ws1 FL It sh nk fx ob co len b ra1 sa (hLf L (hEx FL It sh nk fx ob co len r row (tt, cnt)).2) S (hEx FL It sh nk fx ob co len r row (tt, cnt)).1 (hEx FL It sh nk fx ob co len r row (tt, cnt)).2) := by
  intro r
  induction r with
  | zero =>
    intro ws row tt cnt ra L hr0 hG hrow htt hcnt hcL hLL sz
    refine Met.ofW (cc := cX7_extend) (maxL := 7) (ret := none) (by decide) rfl ?_
    intro p e s m args below meth c s₁ B hml hv0
    obtain ⟨rfl, rfl, E, hP, hD⟩ := hentry hv0
    have hx := B.exec
    have hb := B.bytes
    have hr := B.returns
    have hts := atoms_spec (ws := hC yX7_extend cX7_extend 7 none) B.pre
    have hown : s.vm.findClass RX7 = some m.cls := findClass_of_methodNamed B.named
    have hlocks := B.notSynchronized
    generalize hAe : va_A ws s.heap.size = A at hD E ⊢
    have hl := lv_entry ([.ref (ad 33), .int (nI (len - 0)), .long (lN row)]) (n := 7) (Nat.le_of_ble_eq_true rfl)
    rw [lg_entry_eq]
    generalize (lg_sl ([.ref (ad 33), .int (nI (len - 0)), .long (lN row)]) ++ List.replicate (7 - (lg_sl ([.ref (ad 33), .int (nI (len - 0)), .long (lN row)])).length) Slot.unset).toArray = ls at hl ⊢
    have hl : lv_has ls 7 [(0, .ref (ad 33)), (1, .int (nI (len - 0))), (2, .long (lN row))] := hl
    refine hat0 (fun H hHe => ?_)
    have hP : va_P D vwCl ws H := by rw [hHe]; exact hP
    have hS : va_S A s.heap H [] := by rw [hHe]; exact va_S.rf
    obtain ⟨h33, ⟨fq, h34, hfq⟩, hST, hSO⟩ := id hG
    obtain ⟨h35, ⟨frr, hra⟩, fss, hsa⟩ := id hSO
    refine lv_iload_n hx hb dX7_extend_0 rfl (lv_at hl 1 rfl) ?_
    refine lv_aload_n hx hb dX7_extend_1 rfl (lv_at hl 0 rfl) ?_
    refine va_get (v := .int (nI len)) (C := RX7) (T := TX7) (N := 5) hx hb hts (hin_X7 hmc) hown E.1.1 hP 33 h33 rfl 2 (by decide) (hts _ (hmc _ k_198)) (fun _ h9 => h9) rfl dX7_extend_2 ?_
    refine lv_icmp_lt (tgt := 24) hx hb dX7_extend_5 (by decide) (fun c1 => ?_) (fun c1 => ?_)
    · exact absurd ((nI_ltI (by omega) (by omega)).mp c1) (by omega)
    · refine lv_aload_n hx hb dX7_extend_8 rfl (lv_at hl 0 rfl) ?_
      refine va_get (v := .int (nI co)) (C := RX7) (T := TX7) (N := 5) hx hb hts (hin_X7 hmc) hown E.1.1 hP 33 h33 rfl 4 (by decide) (hts _ (hmc _ k_200)) (fun _ h9 => h9) rfl dX7_extend_9 ?_
      refine lv_if_eq (tgt := 23) hx hb dX7_extend_12 (by decide) (fun c2 => ?_) (fun c2 => ?_)
      · have hc0 : co = 0 := by
          rcases hco with z | z
          · exact z
          · rw [z] at c2; exact absurd c2 (by decide +kernel)
        subst hc0
        have he : hLf L cnt = L := if_pos hcL
        refine W.widen (k := (hQc (hLf L (hEx FL It sh nk fx ob 0 len 0 row (tt, cnt)).2) - hQc L)) (n := (hQs (hLf L (hEx FL It sh nk fx ob 0 len 0 row (tt, cnt)).2) - hQs L)) (Nat.zero_le _) (Nat.zero_le _) ?_
        subst hAe
        exact W.vret hx hb hr (fun t ht _ => ⟨⟨ws, rfl, ⟨hAg.rf, ra, by show hJG K ad ws FL It sh nk fx ob 0 len b ra sa (hLf L cnt) S tt cnt; rw [he]; exact hG⟩, by rw [ht]; exact hP, hD⟩, hS.F ht⟩) hS.2.2 dX7_extend_23
      · have hc1 : co = 1 := by
          rcases hco with z | z
          · rw [z] at c2; exact absurd rfl c2
          · exact z
        subst hc1
        refine lv_aload_n hx hb dX7_extend_15 rfl (lv_at hl 0 rfl) ?_
        refine va_get (v := .ref (ad 35)) (C := RX7) (T := TX7) (N := 5) hx hb hts (hin_X7 hmc) hown E.1.1 hP 33 h33 rfl 1 (by decide) (hts _ (hmc _ k_196)) (fun _ h9 => h9) rfl dX7_extend_16 ?_
        refine lv_lload_n hx hb dX7_extend_19 rfl (lv_at hl 2 rfl) ?_
        refine hc_v E hD hS (va_runV (As := [.long (lN row)]) (rest := []) ⟨hx, hb, hml, hown, hts⟩ ((c_X8_keep l D K tv ws ad b ra sa L S cnt hb1 hSO hLL hcL hcnt (lN row)) H.size) (cwV 1 hts (hGV hmc k_484 k_485 k_486 k_27 k_487) rfl rfl rfl (by decide +kernel) ⟨by show 2 + 1 ≤ 4; omega, by show 8 + (3 + 11) + 120 ≤ 60 * (4); omega⟩) (hpreV E hP hD hS h35 rfl) rfl rfl hl.1 rfl (lv_room (Nat.le_of_ble_eq_true rfl)) dX7_extend_20 ⟨(by rw [Nat.zero_add]; exact Nat.le_refl _), (by rw [Nat.zero_add]; exact Nat.le_refl _)⟩) (fun ws1 H locs hp hP hD hS => ?_)
        refine W.widen (k := (hQc (hLf L (hEx FL It sh nk fx ob 1 len 0 row (tt, cnt)).2) - hQc L)) (n := (hQs (hLf L (hEx FL It sh nk fx ob 1 len 0 row (tt, cnt)).2) - hQs L)) (by rw [Nat.zero_add]; exact Nat.le_refl _) (by rw [Nat.zero_add]; exact Nat.le_refl _) ?_
        obtain ⟨hg, ra1, hs1⟩ := hp
        subst hAe
        exact W.vret hx hb hr (fun t ht _ => ⟨⟨ws1, rfl, ⟨hg.wide (by decide) (by decide), ra1, (hg.2 33 (by omega)).trans h33, ⟨fq, (hg.2 34 (by omega)).trans h34, hfq⟩, fun i hi => (hST i hi).ag hg (by omega), hs1⟩, by rw [ht]; exact hP, hD⟩, hS.F ht⟩) hS.2.2 dX7_extend_23
  | succ r ih =>
    intro ws row tt cnt ra L hr0 hG hrow htt hcnt hcL hLL sz
    refine Met.ofW (cc := cX7_extend) (maxL := 7) (ret := none) (by decide) rfl ?_
    intro p e s m args below meth c s₁ B hml hv0
    obtain ⟨rfl, rfl, E, hP, hD⟩ := hentry hv0
    have hx := B.exec
    have hb := B.bytes
    have hr := B.returns
    have hts := atoms_spec (ws := hC yX7_extend cX7_extend 7 none) B.pre
    have hown : s.vm.findClass RX7 = some m.cls := findClass_of_methodNamed B.named
    have hlocks := B.notSynchronized
    generalize hAe : va_A ws s.heap.size = A at hD E ⊢
    have hl := lv_entry ([.ref (ad 33), .int (nI (len - (r + 1))), .long (lN row)]) (n := 7) (Nat.le_of_ble_eq_true rfl)
    rw [lg_entry_eq]
    generalize (lg_sl ([.ref (ad 33), .int (nI (len - (r + 1))), .long (lN row)]) ++ List.replicate (7 - (lg_sl ([.ref (ad 33), .int (nI (len - (r + 1))), .long (lN row)])).length) Slot.unset).toArray = ls at hl ⊢
    have hl : lv_has ls 7 [(0, .ref (ad 33)), (1, .int (nI (len - (r + 1)))), (2, .long (lN row))] := hl
    refine hat0 (fun H hHe => ?_)
    have hP : va_P D vwCl ws H := by rw [hHe]; exact hP
    have hS : va_S A s.heap H [] := by rw [hHe]; exact va_S.rf
    obtain ⟨h33, ⟨fq, h34, hfq⟩, hST, hSO⟩ := id hG
    obtain ⟨h35, ⟨frr, hra⟩, fss, hsa⟩ := id hSO
    obtain ⟨d, hd⟩ : ∃ d, d = len - (r + 1) := ⟨_, rfl⟩
    have hdl : d < len := by omega
    have hend0 : (hEx FL It sh nk fx ob co len (r + 1) row (tt, cnt)) = hLp (FL d) (ob d) (hKf (It d) (sh d) (nk d) (fx d) row 3) (fun i st => hEx FL It sh nk fx ob co len r (hXt (It d) (sh d) ((FL d).getD i 0) row 3) st) ((FL d).length + 1) (hlbf (fun i => (FL d).getD i 0) (FL d).length (hKf (It d) (sh d) (nk d) (fx d) row 3)) (tt, cnt) := by rw [hd]; rfl
    have hkd := hkk d hdl
    have hSd := hST d hdl
    obtain ⟨k1, k2, k3, k4, k5, k6, k7, k8⟩ := id hkd
    have hky : hKf (It d) (sh d) (nk d) (fx d) row 3 < 2 ^ 18 := hKf_lt k6 k5 3 (Nat.le_refl _)
    rw [← hd] at hl
    obtain ⟨sf, si, ss, hst1, -⟩ := id hSd
    refine lv_iload_n hx hb dX7_extend_0 rfl (lv_at hl 1 rfl) ?_
    refine lv_aload_n hx hb dX7_extend_1 rfl (lv_at hl 0 rfl) ?_
    refine va_get (v := .int (nI len)) (C := RX7) (T := TX7) (N := 5) hx hb hts (hin_X7 hmc) hown E.1.1 hP 33 h33 rfl 2 (by decide) (hts _ (hmc _ k_198)) (fun _ h9 => h9) rfl dX7_extend_2 ?_
    refine lv_icmp_lt (tgt := 24) hx hb dX7_extend_5 (by decide) (fun c1 => ?_) (fun c1 => ?_)
    · refine lv_aload_n hx hb dX7_extend_24 rfl (lv_at hl 0 rfl) ?_
      refine va_get (v := .ref (ad 34)) (C := RX7) (T := TX7) (N := 5) hx hb hts (hin_X7 hmc) hown E.1.1 hP 33 h33 rfl 0 (by decide) (hts _ (hmc _ k_195)) (fun _ h9 => h9) rfl dX7_extend_25 ?_
      refine lv_iload_n hx hb dX7_extend_28 rfl (lv_at hl 1 rfl) ?_
      refine va_aldq hx hb E.1.1 hP 34 4 h34 rfl (vp_in_nI (by omega) (by omega)) dX7_extend_29 ?_
      refine htopq (v := (ad (38 + 4 * d))) (by rw [nI_clamp (by omega)]; exact hfq d (by omega)) ?_
      refine lv_astore (lv' := [(4, .ref (ad (38 + 4 * d))), (0, .ref (ad 33)), (1, .int (nI d)), (2, .long (lN row))]) hx hb dX7_extend_30 hl (by decide) rfl (fun ls hl => ?_)
      refine lv_aload hx hb dX7_extend_32 (lv_at hl 0 rfl) ?_
      refine lv_lload_n hx hb dX7_extend_34 rfl (lv_at hl 3 rfl) ?_
      refine hc_i E hD hS (va_runV (As := [.long (lN row)]) (rest := []) ⟨hx, hb, hml, hown, hts⟩ ((c_X6_keyFor l D K tv ws ad (38 + 4 * d) (FL d) (It d) (sh d) (nk d) (fx d) (ob d) hSd hkd row hrow) H.size) (cwV 1 hts (hGV hmc k_503 k_504 k_505 k_28 k_506) rfl rfl rfl (by decide +kernel) ⟨by show 2 + 1 ≤ 4 + (r + 1); omega, by show 8 + (5 + 11) + 120 ≤ 60 * (4 + (r + 1)); omega⟩) (hpreV E hP hD hS hst1 rfl) rfl rfl hl.1 rfl (lv_room (Nat.le_of_ble_eq_true rfl)) dX7_extend_35 ⟨(Nat.zero_le _), (Nat.zero_le _)⟩) (fun r2 ws1 H locs hp hP hD hS => ?_)
      obtain ⟨rfl, rfl⟩ := hp
      refine lv_istore (lv' := [(5, .int (nI (hKf (It d) (sh d) (nk d) (fx d) row 3))), (4, .ref (ad (38 + 4 * d))), (0, .ref (ad 33)), (1, .int (nI d)), (2, .long (lN row))]) hx hb dX7_extend_38 hl (by decide) rfl (fun ls hl => ?_)
      refine lv_aload hx hb dX7_extend_40 (lv_at hl 1 rfl) ?_
      refine lv_iload hx hb dX7_extend_42 (lv_at hl 0 rfl) ?_
      refine hc_i E hD hS (va_runV (As := [.int (nI (hKf (It d) (sh d) (nk d) (fx d) row 3))]) (rest := []) ⟨hx, hb, hml, hown, hts⟩ ((c_X6_firstFor l D K tv ws ad (38 + 4 * d) (FL d) (It d) (sh d) (nk d) (fx d) (ob d) hSd hkd (hKf (It d) (sh d) (nk d) (fx d) row 3) hky) H.size) (cwV 1 hts (hGV hmc k_513 k_514 k_515 k_28 k_516) rfl rfl rfl (by decide +kernel) ⟨by show 1 + 1 ≤ 4 + (r + 1); omega, by show 8 + (2 + 11) + 60 ≤ 60 * (4 + (r + 1)); omega⟩) (hpreV E hP hD hS hst1 rfl) rfl rfl hl.1 rfl (lv_room (Nat.le_of_ble_eq_true rfl)) dX7_extend_44 ⟨(Nat.zero_le _), (Nat.zero_le _)⟩) (fun r4 ws3 H locs hp hP hD hS => ?_)
      obtain ⟨rfl, rfl⟩ := hp
      refine lv_istore (lv' := [(6, .int (nI (hlbf (fun i => (FL d).getD i 0) (FL d).length (hKf (It d) (sh d) (nk d) (fx d) row 3)))), (5, .int (nI (hKf (It d) (sh d) (nk d) (fx d) row 3))), (4, .ref (ad (38 + 4 * d))), (0, .ref (ad 33)), (1, .int (nI d)), (2, .long (lN row))]) hx hb dX7_extend_47 hl (by decide) rfl (fun ls hl => ?_)
      obtain ⟨fin, hfin⟩ : ∃ z, z = (hEx FL It sh nk fx ob co len (r + 1) row (tt, cnt)) := ⟨_, rfl⟩
      have hbd := hEx_bd FL It sh nk fx ob co len (r + 1) row (tt, cnt) htt
      rw [← hfin] at hbd ⊢
      have hfin0 := hfin.trans hend0
      have hf2 := (hbd.2 hcnt).2
      have hlb0 : hlbf (fun i => (FL d).getD i 0) (FL d).length (hKf (It d) (sh d) (nk d) (fx d) row 3) ≤ (FL d).length := hlbf_le _ _ _
      refine W.widen (k := hQc (hLf L cnt) - hQc L) (n := hQs (hLf L cnt) - hQs L) (Nat.zero_le _) (Nat.zero_le _) ?_
      refine hloopW (α := Nat × Nat × Nat × Nat) 49 7 (fun x => [(6, .int (nI x.2.1)), (5, .int (nI (hKf (It d) (sh d) (nk d) (fx d) row 3))), (4, .ref (ad (38 + 4 * d))), (0, .ref (ad 33)), (1, .int (nI d)), (2, .long (lN row))]) (fun x w1 => x.2.1 ≤ (FL d).length ∧ (FL d).length < x.1 + x.2.1 ∧ fin = hLp (FL d) (ob d) (hKf (It d) (sh d) (nk d) (fx d) row 3) (fun i st => hEx FL It sh nk fx ob co len r (hXt (It d) (sh d) ((FL d).getD i 0) row 3) st) x.1 x.2.1 x.2.2 ∧ x.2.2.1 ≤ 20000 + r ∧ cnt ≤ x.2.2.2 ∧ x.2.2.2 ≤ 20000 ∧ hAg 33 38 ws w1 ∧ ∃ ra1, hJG K ad w1 FL It sh nk fx ob co len b ra1 sa (hLf L x.2.2.2) S x.2.2.1 x.2.2.2) (fun x => x.1) (fun x => hQc (hLf L x.2.2.2) - hQc L) (fun x => hQs (hLf L x.2.2.2) - hQs L) ?_ ((FL d).length + 1, hlbf (fun i => (FL d).getD i 0) (FL d).length (hKf (It d) (sh d) (nk d) (fx d) row 3), tt, cnt) ⟨hlb0, by show _ < _ + 1 + _; omega, hfin0, by show tt ≤ _; omega, Nat.le_refl _, hcnt, hAg.rf, ra, by show hJG K ad ws FL It sh nk fx ob co len b ra sa (hLf L cnt) S tt cnt; rw [show hLf L cnt = L from if_pos hcL]; exact hG⟩ hP hD hS (lv_sub hl [0, 1, 2, 3, 4, 5] rfl)
      rintro ⟨k, i, t1, c1⟩ w1 H locs ls ⟨q1, q2, q3, q4, q5, q6, hag, ra1, hG1⟩ hP hD hS hl ih2
      dsimp only at q1 q2 q3 q4 q5 q6 hG1 ih2 ⊢
      have hl : lv_has ls 7 [(6, .int (nI i)), (5, .int (nI (hKf (It d) (sh d) (nk d) (fx d) row 3))), (4, .ref (ad (38 + 4 * d))), (0, .ref (ad 33)), (1, .int (nI d)), (2, .long (lN row))] := hl
      obtain ⟨h33, ⟨fq, h34, hfq⟩, hST, hSO⟩ := id hG1
      have hSd := hST d hdl
      obtain ⟨sf, si, ss, hst1, -⟩ := id hSd
      have hLc := hLf_lv (c := c1) hLL
      have hge := hLf_ge (L := L) q6
      have hm1 := hQ_mono hge.1
      have hm2 := hQs_mono hLL hLc hge.1
      obtain ⟨k, rfl⟩ : ∃ z, k = z + 1 := ⟨k - 1, by omega⟩
      have hstep : fin = if i < (FL d).length ∧ (FL d).getD i 0 / 2 ^ ob d = (hKf (It d) (sh d) (nk d) (fx d) row 3) / 2 ^ ob d then (if 20000 < t1 + 1 then (t1 + 1, c1) else hLp (FL d) (ob d) (hKf (It d) (sh d) (nk d) (fx d) row 3) (fun i st => hEx FL It sh nk fx ob co len r (hXt (It d) (sh d) ((FL d).getD i 0) row 3) st) k (i + 1) ((fun i st => hEx FL It sh nk fx ob co len r (hXt (It d) (sh d) ((FL d).getD i 0) row 3) st) i (t1 + 1, c1))) else (t1, c1) := q3
      have hb6 := hLp_bd (fl := FL d) (ob := ob d) (key := (hKf (It d) (sh d) (nk d) (fx d) row 3)) (sub := (fun i st => hEx FL It sh nk fx ob co len r (hXt (It d) (sh d) ((FL d).getD i 0) row 3) st)) (fun i st hst => hEx_bd FL It sh nk fx ob co len r _ st hst) (k + 1) i (t1, c1) q4
      rw [← q3] at hb6
      have hc6 : c1 ≤ fin.2 := (hb6.2 q6).1
      have htrA := hLf_tr hLL hc6 hf2
      have hgeA := (hLf_ge (L := hLf L c1) hf2).1
      rw [htrA] at hgeA
      have hmA := hQ_mono hgeA
      have hmB := hQs_mono hLc (hLf_lv (c := fin.2) hLL) hgeA
      refine lv_iload hx hb dX7_extend_49 (lv_at hl 0 rfl) ?_
      refine lv_aload hx hb dX7_extend_51 (lv_at hl 2 rfl) ?_
      refine va_getN (v := .int (nI (FL d).length)) (C := RX6) (T := TX6) (N := 7) hx hb hts (hin_X6 hmc) hown E.1.1 hP (38 + 4 * d) hst1 rfl 3 (by decide) (va_Nw.use rfl (E.1.2.1 _ k_176)) (fun _ h9 => h9) rfl dX7_extend_53 ?_
      refine lv_icmp_ge (tgt := 113) hx hb dX7_extend_56 (by decide) (fun c2 => ?_) (fun c2 => ?_)
      · have c2 : nI (FL d).length ≤ nI i := c2
        have hf : fin = (t1, c1) := hstep.trans (if_neg (fun z => absurd z.1 (Nat.not_lt.mpr ((nI_leI (by omega) (by omega)).mp c2))))
        rw [hf]
        subst hAe
        exact W.vret hx hb hr (fun t ht _ => ⟨⟨w1, rfl, ⟨hag, ra1, hG1⟩, by rw [ht]; exact hP, hD⟩, hS.F ht⟩) hS.2.2 dX7_extend_113
      · have c2 : ¬ nI (FL d).length ≤ nI i := c2
        have hil : i < (FL d).length := Nat.not_le.mp (fun z => c2 (nI_le z (by omega)))
        refine lv_aload hx hb dX7_extend_59 (lv_at hl 2 rfl) ?_
        refine lv_iload hx hb dX7_extend_61 (lv_at hl 0 rfl) ?_
        refine lv_iload hx hb dX7_extend_63 (lv_at hl 1 rfl) ?_
        refine hc_i E hD hS (va_runV (As := [.int (nI i), .int (nI (hKf (It d) (sh d) (nk d) (fx d) row 3))]) (rest := []) ⟨hx, hb, hml, hown, hts⟩ ((c_X6_agrees l D K tv w1 ad (38 + 4 * d) (FL d) (It d) (sh d) (nk d) (fx d) (ob d) hSd hkd i (hKf (It d) (sh d) (nk d) (fx d) row 3) hil hky) H.size) (cwV 2 hts (hGV hmc k_518 k_519 k_520 k_28 k_521) rfl rfl rfl (by decide +kernel) ⟨by show 0 + 1 ≤ 4 + (r + 1); omega, by show 8 + (3 + 11) + 0 ≤ 60 * (4 + (r + 1)); omega⟩) (hpreV E hP hD hS hst1 rfl) rfl rfl hl.1 rfl (lv_room (Nat.le_of_ble_eq_true rfl)) dX7_extend_65 ⟨(by show hQc (hLf L c1) - hQc L + 0 ≤ hQc (hLf L fin.2) - hQc L; omega), (by show hQs (hLf L c1) - hQs L + 0 ≤ hQs (hLf L fin.2) - hQs L; omega)⟩) (fun r6 ws5 H locs hh hP hD hS => ?_)
        obtain ⟨rfl, hh⟩ := hh
        refine lv_if_eq (tgt := 113) hx hb dX7_extend_68 (by decide) (fun c3 => ?_) (fun c3 => ?_)
        · have hf : fin = (t1, c1) := hstep.trans (if_neg (fun z => hh.f c3 z.2))
          rw [hf]
          subst hAe
          exact W.vret hx hb hr (fun t ht _ => ⟨⟨w1, rfl, ⟨hag, ra1, hG1⟩, by rw [ht]; exact hP, hD⟩, hS.F ht⟩) hS.2.2 dX7_extend_113
        · have hst2 := hstep.trans (if_pos ⟨hil, hh.t c3⟩)
          refine lv_aload_n hx hb dX7_extend_71 rfl (lv_at hl 3 rfl) ?_
          refine lv_dup hx hb dX7_extend_72 rfl ?_
          refine va_get (v := .int (nI t1)) (C := RX7) (T := TX7) (N := 5) hx hb hts (hin_X7 hmc) hown E.1.1 hP 33 h33 rfl 3 (by decide) (hts _ (hmc _ k_199)) (fun _ h9 => h9) rfl dX7_extend_73 ?_
          refine lv_iconst (v := nI 1) hx hb dX7_extend_76 (by decide +kernel) ?_
          refine lv_iadd hx hb dX7_extend_77 ?_
          refine htopi (v := nI (t1 + 1)) (nI_add _ _) ?_
          refine va_put (v := .int (nI (t1 + 1))) (ty := .int) (C := RX7) (T := TX7) (N := 5) hx hb hts (hin_X7 hmc) tyX7 tyX7_ok nmX7 hown E.1.1 hP hD hS 33 h33 rfl 3 (by decide) (hts _ (hmc _ k_199)) (fun _ h9 => h9) rfl (by decide +kernel) rfl rfl (Nat.le_of_ble_eq_true rfl) dX7_extend_78 (fun H locs hP hD hS => ?_)
          obtain ⟨ws7, ews7⟩ : ∃ zw : va_W, zw = List.set w1 33 ((ad 33), .inr (iN2, [.ref (ad 34), .ref (ad 35), .int (nI len), .int (nI (t1 + 1)), .int (nI co)])) := ⟨_, rfl⟩
          have hP : va_P D vwCl ws7 H := by rw [ews7]; exact hP
          have hD : va_D A ws7 := by rw [ews7]; exact hD
          have h33 : ws7[33]? = some ((ad 33), .inr (iN2, [.ref (ad 34), .ref (ad 35), .int (nI len), .int (nI (t1 + 1)), .int (nI co)])) := by rw [ews7]; exact hset_eq h33
          have h34 := (show ws7[34]? = _ from (by rw [ews7]; exact hset_ne (by omega))).trans h34
          have hst1 := (show ws7[(38 + 4 * d)]? = _ from (by rw [ews7]; exact hset_ne (by omega))).trans hst1
          have hg1 : hAg 33 34 w1 ws7 := by rw [ews7]; exact hAg.rf.set (by decide) (by decide)
          refine lv_aload_n hx hb dX7_extend_81 rfl (lv_at hl 3 rfl) ?_
          refine va_get (v := .int (nI (t1 + 1))) (C := RX7) (T := TX7) (N := 5) hx hb hts (hin_X7 hmc) hown E.1.1 hP 33 h33 rfl 3 (by decide) (hts _ (hmc _ k_199)) (fun _ h9 => h9) rfl dX7_extend_82 ?_
          refine lv_sipush (v := nI 20000) hx hb dX7_extend_85 (by decide +kernel) ?_
          refine lv_icmp_le (tgt := 92) hx hb dX7_extend_88 (by decide) (fun c4 => ?_) (fun c4 => ?_)
          · have ht2 : t1 + 1 ≤ 20000 := (nI_leI (by omega) (by omega)).mp c4
            have hst3 := hst2.trans (if_neg (by omega))
            refine lv_aload_n hx hb dX7_extend_92 rfl (lv_at hl 3 rfl) ?_
            refine lv_iload_n hx hb dX7_extend_93 rfl (lv_at hl 4 rfl) ?_
            refine lv_iconst (v := nI 1) hx hb dX7_extend_94 (by decide +kernel) ?_
            refine lv_iadd hx hb dX7_extend_95 ?_
            refine htopi (v := nI (d + 1)) (nI_add _ _) ?_
            refine lv_aload hx hb dX7_extend_96 (lv_at hl 2 rfl) ?_
            refine lv_lload_n hx hb dX7_extend_98 rfl (lv_at hl 5 rfl) ?_
            refine lv_iload hx hb dX7_extend_99 (lv_at hl 0 rfl) ?_
            refine hc_l E hD hS (va_runV (As := [.long (lN row), .int (nI i)]) (rest := [.int (nI (d + 1)), .ref (ad 33)]) ⟨hx, hb, hml, hown, hts⟩ ((c_X6_extended l D K tv ws7 ad (38 + 4 * d) (FL d) (It d) (sh d) (nk d) (fx d) (ob d) (hSd.ag hg1 (by omega)) hkd row i hil) H.size) (cwV 2 hts (hGV hmc k_522 k_523 k_524 k_28 k_525) rfl rfl rfl (by decide +kernel) ⟨by show 1 + 1 ≤ 4 + (r + 1); omega, by show 8 + (7 + 11) + 60 ≤ 60 * (4 + (r + 1)); omega⟩) (hpreV E hP hD hS hst1 rfl) rfl rfl hl.1 rfl (lv_room (Nat.le_of_ble_eq_true rfl)) dX7_extend_101 ⟨(by show hQc (hLf L c1) - hQc L + 0 ≤ hQc (hLf L fin.2) - hQc L; omega), (by show hQs (hLf L c1) - hQs L + 0 ≤ hQs (hLf L fin.2) - hQs L; omega)⟩) (fun r9 ws8 H locs hp hP hD hS => ?_)
            obtain ⟨rfl, rfl⟩ := hp
            rw [show nI (d + 1) = nI (len - r) by rw [show d + 1 = len - r by omega]]
            obtain ⟨nx, hnx⟩ : ∃ z, z = (hEx FL It sh nk fx ob co len r (hXt (It d) (sh d) ((FL d).getD i 0) row 3) (t1 + 1, c1)) := ⟨_, rfl⟩
            have hb2 := hEx_bd FL It sh nk fx ob co len r (hXt (It d) (sh d) ((FL d).getD i 0) row 3) (t1 + 1, c1) ht2
            rw [← hnx] at hb2
            have hb3 := hb2.2 q6
            have hrs : fin = hLp (FL d) (ob d) (hKf (It d) (sh d) (nk d) (fx d) row 3) (fun i st => hEx FL It sh nk fx ob co len r (hXt (It d) (sh d) ((FL d).getD i 0) row 3) st) k (i + 1) nx := by rw [hnx]; exact hst3
            have hb4 := hLp_bd (fl := FL d) (ob := ob d) (key := (hKf (It d) (sh d) (nk d) (fx d) row 3)) (sub := (fun i st => hEx FL It sh nk fx ob co len r (hXt (It d) (sh d) ((FL d).getD i 0) row 3) st)) (fun i st hst => hEx_bd FL It sh nk fx ob co len r _ st hst) k (i + 1) nx hb2.1
            have hb5 : nx.2 ≤ fin.2 := by rw [hrs]; exact (hb4.2 hb3.2).1
            have htr : hLf (hLf L c1) nx.2 = hLf L nx.2 := hLf_tr hLL hb3.1 hb3.2
            have htr2 : hLf (hLf L nx.2) fin.2 = hLf L fin.2 := hLf_tr hLL hb5 hf2
            have hLn := hLf_lv (c := nx.2) hLL
            have hge2 := hLf_ge (L := hLf L c1) hb3.2
            have hge3 := hLf_ge (L := hLf L nx.2) hf2
            rw [htr] at hge2
            rw [htr2] at hge3
            have hLq := hLf_lv (c := fin.2) hLL
            have hm3 := hQ_mono hge2.1
            have hm4 := hQs_mono hLc hLn hge2.1
            have hm5 := hQ_mono hge3.1
            have hm6 := hQs_mono hLn hLq hge3.1
            refine hc_v E hD hS (va_runS (As := [.ref (ad 33), .int (nI (len - r)), .long (lN (hXt (It d) (sh d) ((FL d).getD i 0) row 3))]) (rest := []) ⟨hx, hb, hml, hown, hts⟩ ((ih ws7 (hXt (It d) (sh d) ((FL d).getD i 0) row 3) (t1 + 1) c1 ra1 (hLf L c1) (by omega) ⟨h33, ⟨fq, h34, hfq⟩, fun i hi => (hST i hi).ag hg1 (by omega), hSO.ag hb1 hg1 (by omega)⟩ (hXt_lt hrow k4 3 (Nat.le_refl _)) ht2 q6 hge.2 hLc) H.size) (va_cwS 3 hts (hGS hmc k_481 k_482 k_26 k_483) rfl rfl rfl (by decide +kernel) ⟨by show 4 + r + 1 ≤ 4 + (r + 1); omega, by show 8 + (7 + 11) + 60 * (4 + r) ≤ 60 * (4 + (r + 1)); omega⟩) (hpre E hP hD hS) rfl rfl hl.1 rfl (lv_room (Nat.le_of_ble_eq_true rfl)) dX7_extend_104 ⟨(by show hQc (hLf L c1) - hQc L + 0 + 0 + (hQc (hLf (hLf L c1) (hEx FL It sh nk fx ob co len r (hXt (It d) (sh d) ((FL d).getD i 0) row 3) (t1 + 1, c1)).2) - hQc (hLf L c1)) ≤ hQc (hLf L fin.2) - hQc L; rw [← hnx, htr]; omega), (by show hQs (hLf L c1) - hQs L + 0 + 0 + (hQs (hLf (hLf L c1) (hEx FL It sh nk fx ob co len r (hXt (It d) (sh d) ((FL d).getD i 0) row 3) (t1 + 1, c1)).2) - hQs (hLf L c1)) ≤ hQs (hLf L fin.2) - hQs L; rw [← hnx, htr]; omega)⟩) (fun ws10 H locs hp hP hD hS => ?_)
            obtain ⟨hg2, ra2, hG2⟩ := hp
            rw [← hnx, htr] at hG2
            refine W.widen (k := hQc (hLf L nx.2) - hQc L) (n := hQs (hLf L nx.2) - hQs L) (by show hQc (hLf L c1) - hQc L + 0 + 0 + (hQc (hLf (hLf L c1) (hEx FL It sh nk fx ob co len r (hXt (It d) (sh d) ((FL d).getD i 0) row 3) (t1 + 1, c1)).2) - hQc (hLf L c1)) ≤ hQc (hLf L nx.2) - hQc L; rw [← hnx, htr]; omega) (by show hQs (hLf L c1) - hQs L + 0 + 0 + (hQs (hLf (hLf L c1) (hEx FL It sh nk fx ob co len r (hXt (It d) (sh d) ((FL d).getD i 0) row 3) (t1 + 1, c1)).2) - hQs (hLf L c1)) ≤ hQs (hLf L nx.2) - hQs L; rw [← hnx, htr]; omega) ?_
            refine lv_iinc (v := nI (i + 1)) (lv' := [(6, .int (nI (i + 1))), (5, .int (nI (hKf (It d) (sh d) (nk d) (fx d) row 3))), (4, .ref (ad (38 + 4 * d))), (0, .ref (ad 33)), (1, .int (nI d)), (2, .long (lN row))]) hx hb dX7_extend_107 hl (k := 0) rfl (nI_1 _) (by decide) rfl (fun ls hl => ?_)
            refine lv_goto (tgt := 49) hx hb dX7_extend_110 (by decide) ?_
            exact ih2 (k, i + 1, nx.1, nx.2) _ H locs ls ⟨by show i + 1 ≤ (FL d).length; omega, by show (FL d).length < k + (i + 1); omega, hrs, by have := hb2.1; show nx.1 ≤ 20000 + r; omega, by show cnt ≤ nx.2; omega, hb3.2, (hag.tr (hg1.wide (by decide) (by decide))).tr hg2, ra2, hG2⟩ (Nat.lt_succ_self _) hP hD hS (lv_sub hl [0, 1, 2, 3, 4, 5] rfl)
          · have ht2 : 20000 < t1 + 1 := Nat.not_le.mp (fun z => c4 (nI_le z (by omega)))
            have hf := hst2.trans (if_pos ht2)
            rw [hf]
            subst hAe
            exact W.vret hx hb hr (fun t ht _ => ⟨⟨ws7, rfl, ⟨hag.tr (hg1.wide (by decide) (by decide)), ra1, h33, ⟨fq, h34, hfq⟩, fun i hi => (hST i hi).ag hg1 (by omega), hSO.ag hb1 hg1 (by omega)⟩, by rw [ht]; exact hP, hD⟩, hS.F ht⟩) hS.2.2 dX7_extend_91
    · exact absurd (nI_lt hdl (by omega)) c1
