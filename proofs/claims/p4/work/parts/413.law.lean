set_option maxHeartbeats 4000000 in
set_option maxRecDepth 100000 in
theorem hlaw_loop (l : Launch) {p : Program} {e : Env} {s : State} {m : MethodId} {below : List Frame} {meth : Method} {c : Code} {b n9 : Nat} {xs : Nat → Int32} {D : va_G} {K : Nat → ClassId} {tv : Nat} {A : Nat → Prop} (ax bx : Nat → Nat) (C1 : hAtL (Jvm.Cond.initialized "JoinPlanner") p s m meth c b n9 xs D K tv A) : ∀ (n i : Nat), i ≤ n9 → n9 - i < n → ∀ (H : Heap) (locs : List Loc) (ls : Array Slot) (cells slots : Nat) (wa wb : va_W) (S : Nat → Nat → Nat → Prop) (cnt np : Nat) (o : List Nat) (L Sp : Nat), hTwo D K A s ax bx wa wb H locs S cnt np o L Sp → cells ≤ 1000 + hQc L + hQc Sp → slots ≤ 300000 + hQs L + hQs Sp → lv_has ls 4 [(3, .int (nI i)), (2, .ref (bx 0)), (1, .ref (ax 0)), (0, .ref b)] → W p l e room_1 s m #[Value.ref b] below meth c H locs cells slots (lw_Z below #[Value.ref b] s) (F0 m 18 ls []) := by
  obtain ⟨hx, hb, hr, hml, hown, hts, E, hX, hbl, hbA, hlocks, hAs, hn9⟩ := id C1
  intro n
  induction n with
  | zero => intro i _ h; omega
  | succ n ih =>
    intro i hi9 hn H locs ls cells slots wa wb S cnt np o L Sp C2 hcell hslot hl
    obtain ⟨hcs, hms, hPa, hDa, hPb, hDb, hap, hS⟩ := id C2
    have hroomC : cells ≤ 600000 := by have := hQc_bd L; have := hQc_bd Sp; omega
    have hroomS : slots ≤ 7302249 := by have := hQs_bd L; have := hQs_bd Sp; omega
    refine lv_iload_n hx hb dL_law_18 rfl (lv_at hl 0 rfl) ?_
    refine lv_aload_n hx hb dL_law_19 rfl (lv_at hl 3 rfl) ?_
    refine va_slen hx hb hX hbl hbA hS dL_law_20 ?_
    refine lv_iconst (v := nI 4) hx hb dL_law_21 (by decide +kernel) ?_
    refine lv_isub hx hb dL_law_22 ?_
    rcases Nat.lt_or_ge n9 4 with hL4 | hL4
    · refine lv_icmp_gt (tgt := 452) hx hb dL_law_23 (by decide) (fun c1 => ?_) (fun c1 => ?_)
      · refine lv_iconst (v := nI 1) hx hb dL_law_452 (by decide +kernel) ?_
        refine va_forget (fun q hq => hAs _ (hS.2.2 q hq)) ?_
        refine W.widen (k := 600000) (n := 7302249) hroomC hroomS ?_
        exact lw_ret hx hb hr hlocks dL_law_453
      · exact absurd (Int32.lt_of_lt_of_le (hfour n9 hL4) (nI_le (Nat.zero_le i) (by omega))) c1
    · refine htopi (v := nI (n9 - 4)) ((show (nI n9 - nI 4 : Int32) = nI (n9 - 4) from pk_sub hL4)) ?_
      refine lv_icmp_gt (tgt := 452) hx hb dL_law_23 (by decide) (fun c1 => ?_) (fun c1 => ?_)
      · refine lv_iconst (v := nI 1) hx hb dL_law_452 (by decide +kernel) ?_
        refine va_forget (fun q hq => hAs _ (hS.2.2 q hq)) ?_
        refine W.widen (k := 600000) (n := 7302249) hroomC hroomS ?_
        exact lw_ret hx hb hr hlocks dL_law_453
      · have hi4 : i + 4 ≤ n9 := by
          rcases Nat.lt_or_ge (n9 - 4) i with z | z
          · exact absurd (nI_lt z (by omega)) c1
          · omega
        have kk : hGo l p e s m below meth c b D K A ax bx i := by
          intro H locs ls cells slots wa wb S cnt np o L Sp C2 hcell hslot hl
          refine lv_iinc (v := nI (i + 4)) (lv' := [(3, .int (nI (i + 4))), (2, .ref (bx 0)), (1, .ref (ax 0)), (0, .ref b)]) hx hb dL_law_446 hl (k := 0) rfl (by rw [show Int32.ofInt 4 = nI 4 from by decide +kernel]; exact nI_add _ _) (by decide) rfl (fun ls hl => ?_)
          refine lv_goto (tgt := 18) hx hb dL_law_449 (by decide) ?_
          exact ih (i + 4) hi4 (by omega) H locs ls cells slots wa wb S cnt np o L Sp C2 hcell hslot (lv_sub hl [0, 1, 2, 3] rfl)
        refine lv_aload_n hx hb dL_law_26 rfl (lv_at hl 3 rfl) ?_
        refine lv_iload_n hx hb dL_law_27 rfl (lv_at hl 0 rfl) ?_
        refine va_sld hx hb hX hbl hbA hS (vp_in_nI (by omega) (by omega)) dL_law_28 ?_
        refine htopi (v := xs i) (by rw [nI_clamp (by omega)]) ?_
        refine lv_bipush (v := nI 15) hx hb dL_law_29 (by decide +kernel) ?_
        refine lv_iand hx hb dL_law_31 ?_
        obtain ⟨j, hj, ej⟩ := hand15 (xs i)
        refine htopi (v := nI j) (ej) ?_
        rcases (show j = 0 ∨ j = 1 ∨ j = 2 ∨ j = 3 ∨ j = 4 ∨ j = 5 ∨ j = 6 ∨ j = 7 ∨ j = 8 ∨ j = 9 ∨ j = 10 ∨ j = 11 ∨ j = 12 ∨ j = 13 ∨ j = 14 ∨ j = 15 by omega) with rfl | rfl | rfl | rfl | rfl | rfl | rfl | rfl | rfl | rfl | rfl | rfl | rfl | rfl | rfl | rfl
        · refine lv_tableIn (off := 72) (tgt := 104) hx hb dL_law_32 (by decide +kernel) (by decide +kernel) (by decide +kernel) (by decide) ?_
          exact hcase_0 l ax bx i hi4 wa wb S cnt np o L Sp hcell hslot C1 C2 (lv_sub hl [0, 1, 2, 3] rfl) kk
        · refine lv_tableIn (off := 115) (tgt := 147) hx hb dL_law_32 (by decide +kernel) (by decide +kernel) (by decide +kernel) (by decide) ?_
          exact hcase_1 l ax bx i hi4 wa wb S cnt np o L Sp hcell hslot C1 C2 (lv_sub hl [0, 1, 2, 3] rfl) kk
        · refine lv_tableIn (off := 158) (tgt := 190) hx hb dL_law_32 (by decide +kernel) (by decide +kernel) (by decide +kernel) (by decide) ?_
          exact hcase_2 l ax bx i hi4 wa wb S cnt np o L Sp hcell hslot C1 C2 (lv_sub hl [0, 1, 2, 3] rfl) kk
        · refine lv_tableIn (off := 171) (tgt := 203) hx hb dL_law_32 (by decide +kernel) (by decide +kernel) (by decide +kernel) (by decide) ?_
          exact hcase_3 l ax bx i hi4 wa wb S cnt np o L Sp hcell hslot C1 C2 (lv_sub hl [0, 1, 2, 3] rfl) kk
        · refine lv_tableIn (off := 214) (tgt := 246) hx hb dL_law_32 (by decide +kernel) (by decide +kernel) (by decide +kernel) (by decide) ?_
          exact hcase_4 l ax bx i hi4 wa wb S cnt np o L Sp hcell hslot C1 C2 (lv_sub hl [0, 1, 2, 3] rfl) kk
        · refine lv_tableIn (off := 227) (tgt := 259) hx hb dL_law_32 (by decide +kernel) (by decide +kernel) (by decide +kernel) (by decide) ?_
          exact hcase_5 l ax bx i hi4 wa wb S cnt np o L Sp hcell hslot C1 C2 (lv_sub hl [0, 1, 2, 3] rfl) kk
        · refine lv_tableIn (off := 260) (tgt := 292) hx hb dL_law_32 (by decide +kernel) (by decide +kernel) (by decide +kernel) (by decide) ?_
          exact hcase_6 l ax bx i hi4 wa wb S cnt np o L Sp hcell hslot C1 C2 (lv_sub hl [0, 1, 2, 3] rfl) kk
        · refine lv_tableIn (off := 283) (tgt := 315) hx hb dL_law_32 (by decide +kernel) (by decide +kernel) (by decide +kernel) (by decide) ?_
          exact hcase_7 l ax bx i hi4 wa wb S cnt np o L Sp hcell hslot C1 C2 (lv_sub hl [0, 1, 2, 3] rfl) kk
        · refine lv_tableIn (off := 296) (tgt := 328) hx hb dL_law_32 (by decide +kernel) (by decide +kernel) (by decide +kernel) (by decide) ?_
          exact hcase_8 l ax bx i hi4 wa wb S cnt np o L Sp hcell hslot C1 C2 (lv_sub hl [0, 1, 2, 3] rfl) kk
        · refine lv_tableIn (off := 319) (tgt := 351) hx hb dL_law_32 (by decide +kernel) (by decide +kernel) (by decide +kernel) (by decide) ?_
          exact hcase_9 l ax bx i hi4 wa wb S cnt np o L Sp hcell hslot C1 C2 (lv_sub hl [0, 1, 2, 3] rfl) kk
        · refine lv_tableIn (off := 332) (tgt := 364) hx hb dL_law_32 (by decide +kernel) (by decide +kernel) (by decide +kernel) (by decide) ?_
          exact hcase_10 l ax bx i hi4 wa wb S cnt np o L Sp hcell hslot C1 C2 (lv_sub hl [0, 1, 2, 3] rfl) kk
        · refine lv_tableIn (off := 355) (tgt := 387) hx hb dL_law_32 (by decide +kernel) (by decide +kernel) (by decide +kernel) (by decide) ?_
          exact hcase_11 l ax bx i hi4 wa wb S cnt np o L Sp hcell hslot C1 C2 (lv_sub hl [0, 1, 2, 3] rfl) kk
        · refine lv_tableIn (off := 368) (tgt := 400) hx hb dL_law_32 (by decide +kernel) (by decide +kernel) (by decide +kernel) (by decide) ?_
          exact hcase_12 l ax bx i hi4 wa wb S cnt np o L Sp hcell hslot C1 C2 (lv_sub hl [0, 1, 2, 3] rfl) kk
        · refine lv_tableIn (off := 381) (tgt := 413) hx hb dL_law_32 (by decide +kernel) (by decide +kernel) (by decide +kernel) (by decide) ?_
          exact hcase_13 l ax bx i hi4 wa wb S cnt np o L Sp hcell hslot C1 C2 (lv_sub hl [0, 1, 2, 3] rfl) kk
        · refine lv_tableOut (tgt := 446) hx hb dL_law_32 (Or.inr (by decide +kernel)) (by decide) ?_
          exact kk H locs ls cells slots wa wb S cnt np o L Sp C2 hcell hslot (lv_sub hl [0, 1, 2, 3] rfl)
        · refine lv_tableOut (tgt := 446) hx hb dL_law_32 (Or.inr (by decide +kernel)) (by decide) ?_
          exact kk H locs ls cells slots wa wb S cnt np o L Sp C2 hcell hslot (lv_sub hl [0, 1, 2, 3] rfl)
