theorem wb_tb (n : Nat) : (lN n).toBitVec = BitVec.ofNat 64 n := rfl
theorem wb_inj {a b : Int64} (h : a.toBitVec = b.toBitVec) : a = b := Int64.toBitVec_inj.mp h
theorem wb_tn {n : Nat} (h : n < 2 ^ 64) : (lN n).toBitVec.toNat = n := by rw [wb_tb, BitVec.toNat_ofNat, Nat.mod_eq_of_lt h]
theorem wb_of (x : Int64) : ∃ n, n < 2 ^ 64 ∧ x = lN n := ⟨x.toBitVec.toNat, x.toBitVec.isLt, wb_inj (by rw [wb_tb]; simp)⟩
theorem wb_of32 (x : Int32) : ∃ n, n < 2 ^ 32 ∧ x = nI n := ⟨x.toBitVec.toNat, x.toBitVec.isLt, Int32.toBitVec_inj.mp (by show _ = BitVec.ofNat 32 _; simp)⟩
theorem wb_c : ∀ k, k < 64 → ((nI k).toInt64 &&& 63) = lN k := by decide +kernel
theorem wb_cu : ∀ k, k < 64 → ((nI k).toInt64.toUInt64 &&& Int64.toUInt64 63) = UInt64.ofNat k := by decide +kernel
theorem wb_sm : ∀ k, k < 64 → (BitVec.ofNat 64 k).smod 64 = BitVec.ofNat 64 k := by decide +kernel
theorem wb_pw {a b : Nat} (h : a ≤ b) : 2 ^ b = 2 ^ a * 2 ^ (b - a) := by rw [← Nat.pow_add]; congr 1; omega
theorem wb_lt2 {a b : Nat} (h : a < b) : 2 ^ a < 2 ^ b := Nat.pow_lt_pow_right (by decide) h
theorem wb_mod (n : Nat) : lN n = lN (n % 2 ^ 64) := wb_inj (by rw [wb_tb, wb_tb]; apply BitVec.eq_of_toNat_eq; rw [BitVec.toNat_ofNat, BitVec.toNat_ofNat, Nat.mod_mod])
theorem wb_shr {n k : Nat} (hn : n < 2 ^ 64) (hk : k < 64) : ((lN n).toUInt64 >>> ((nI k).toInt64.toUInt64 &&& Int64.toUInt64 63)).toInt64 = lN (n / 2 ^ k) := by
  rw [wb_cu k hk]
  apply wb_inj
  apply BitVec.eq_of_toNat_eq
  show ((lN n).toUInt64 >>> UInt64.ofNat k).toNat = (BitVec.ofNat 64 _).toNat
  have h1 : (UInt64.ofNat k).toNat = k := by
    show (BitVec.ofNat 64 k).toNat = k
    rw [BitVec.toNat_ofNat, Nat.mod_eq_of_lt (by omega)]
  have h2 : (lN n).toUInt64.toNat = n := wb_tn hn
  rw [UInt64.toNat_shiftRight, h1, h2, Nat.mod_eq_of_lt hk, Nat.shiftRight_eq_div_pow, BitVec.toNat_ofNat, Nat.mod_eq_of_lt (Nat.lt_of_le_of_lt (Nat.div_le_self _ _) hn)]
theorem wb_shl (n : Nat) {k : Nat} (hk : k < 64) : lN n <<< ((nI k).toInt64 &&& 63) = lN (n * 2 ^ k) := by
  rw [wb_c k hk]
  apply wb_inj
  rw [Int64.toBitVec_shiftLeft, wb_tb, wb_tb, wb_tb, wb_sm k hk]
  apply BitVec.eq_of_toNat_eq
  rw [BitVec.shiftLeft_eq', BitVec.toNat_shiftLeft, BitVec.toNat_ofNat, BitVec.toNat_ofNat, BitVec.toNat_ofNat, Nat.mod_eq_of_lt (show k < 2 ^ 64 by omega), Nat.shiftLeft_eq, Nat.mul_mod, Nat.mod_mod, ← Nat.mul_mod]
theorem wb_and {a b : Nat} (ha : a < 2 ^ 64) (hb : b < 2 ^ 64) : lN a &&& lN b = lN (a &&& b) := by
  apply wb_inj
  rw [Int64.toBitVec_and, wb_tb, wb_tb, wb_tb]
  apply BitVec.eq_of_toNat_eq
  rw [BitVec.toNat_and, BitVec.toNat_ofNat, BitVec.toNat_ofNat, BitVec.toNat_ofNat, Nat.mod_eq_of_lt ha, Nat.mod_eq_of_lt hb, Nat.mod_eq_of_lt (Nat.and_lt_two_pow _ hb)]
theorem wb_or {a b : Nat} (ha : a < 2 ^ 64) (hb : b < 2 ^ 64) : lN a ||| lN b = lN (a ||| b) := by
  apply wb_inj
  rw [Int64.toBitVec_or, wb_tb, wb_tb, wb_tb]
  apply BitVec.eq_of_toNat_eq
  rw [BitVec.toNat_or, BitVec.toNat_ofNat, BitVec.toNat_ofNat, BitVec.toNat_ofNat, Nat.mod_eq_of_lt ha, Nat.mod_eq_of_lt hb, Nat.mod_eq_of_lt (Nat.or_lt_two_pow ha hb)]
theorem wb_mask {n k : Nat} (hn : n < 2 ^ 64) (hk : k < 64) : lN n &&& lN (2 ^ k - 1) = lN (n % 2 ^ k) := by
  rw [wb_and hn (by have := wb_lt2 hk; omega), Nat.and_two_pow_sub_one_eq_mod]
theorem wb_a1 {n : Nat} (hn : n < 2 ^ 64) : lN n &&& 1 = lN (n % 2) := wb_mask (k := 1) hn (by decide)
theorem wb_bit {n k : Nat} (hn : n < 2 ^ 64) (hk : k < 64) : ((lN n).toUInt64 >>> ((nI k).toInt64.toUInt64 &&& Int64.toUInt64 63)).toInt64 &&& 1 = lN (n / 2 ^ k % 2) := by
  rw [wb_shr hn hk, wb_a1 (Nat.lt_of_le_of_lt (Nat.div_le_self _ _) hn)]
theorem wb_xor {q k : Nat} (hk : k < 63) (h : 2 ^ k ≤ q) (h2 : q < 2 ^ (k + 1)) : lN q ^^^ lN (2 ^ k) = lN (q - 2 ^ k) := by
  obtain ⟨r, rfl⟩ : ∃ r, q = 2 ^ k + r := ⟨q - 2 ^ k, by omega⟩
  have hr : r < 2 ^ k := by rw [Nat.pow_succ] at h2; omega
  have hx : (2 ^ k + r) ^^^ 2 ^ k = r := by
    apply Nat.eq_of_testBit_eq
    intro i
    rw [Nat.testBit_xor, Nat.testBit_two_pow]
    rcases Nat.lt_trichotomy i k with h | h | h
    · rw [Nat.testBit_two_pow_add_gt h]
      simp [show ¬ k = i by omega]
    · subst h
      rw [Nat.testBit_two_pow_add_eq]
      simp
    · have a1 : 2 ^ (k + 1) ≤ 2 ^ i := Nat.pow_le_pow_right (by decide) h
      rw [Nat.testBit_lt_two_pow (show 2 ^ k + r < 2 ^ i by omega), Nat.testBit_lt_two_pow (show r < 2 ^ i by omega)]
      simp [show ¬ k = i by omega]
  have b1 := wb_lt2 (show k + 1 < 64 by omega)
  have b2 := wb_lt2 (show k < 64 by omega)
  apply wb_inj
  rw [Int64.toBitVec_xor, wb_tb, wb_tb, wb_tb]
  apply BitVec.eq_of_toNat_eq
  rw [BitVec.toNat_xor, BitVec.toNat_ofNat, BitVec.toNat_ofNat, BitVec.toNat_ofNat, Nat.mod_eq_of_lt (by omega : 2 ^ k + r < 2 ^ 64), Nat.mod_eq_of_lt b2, hx, Nat.add_sub_cancel_left, Nat.mod_eq_of_lt (by omega)]
theorem pf_lI {a : Nat} (h : a < 2 ^ 63) : (lN a).toInt = (a : Int) := lg_ofNat_toInt h
theorem pf_shr {a d : Nat} {D : Int64} (hD : (D.toBitVec.smod 64).toNat = d) (h : a < 2 ^ 62) : lN a >>> D = lN (a / 2 ^ d) := by
  have hd : a / 2 ^ d ≤ a := Nat.div_le_self _ _
  apply Int64.toInt_inj.mp
  have e : (lN a >>> D).toInt = (lN a).toInt >>> d := by
    rw [← hD]
    exact BitVec.toInt_sshiftRight ..
  rw [e, Int.shiftRight_eq_div_pow, pf_lI (by omega), pf_lI (by omega)]
  rfl
theorem pf_ushr {a d : Nat} {D : UInt64} (hD : D.toNat % 64 = d) (h : a < 2 ^ 62) : ((lN a).toUInt64 >>> D).toInt64 = lN (a / 2 ^ d) := by
  have hd : a / 2 ^ d ≤ a := Nat.div_le_self _ _
  have e : (lN a).toUInt64 >>> D = UInt64.ofNat (a / 2 ^ d) := UInt64.toNat_inj.mp (by
    rw [UInt64.toNat_shiftRight, hD, Nat.shiftRight_eq_div_pow, UInt64.toNat_ofNat']
    show (UInt64.ofNat a).toNat / 2 ^ d = _
    rw [UInt64.toNat_ofNat', Nat.mod_eq_of_lt (by omega), Nat.mod_eq_of_lt (by omega)])
  rw [e]
  rfl
theorem pf_andw (x : Int64) : ∃ m, m < 2 ^ 32 ∧ x &&& 4294967295 = lN m := ⟨x.toBitVec.toNat % 2 ^ 32, Nat.mod_lt _ (by decide), Int64.toBitVec_inj.mp (BitVec.eq_of_toNat_eq (by
  show (x.toBitVec &&& 4294967295#64).toNat = (BitVec.ofNat 64 (x.toBitVec.toNat % 2 ^ 32)).toNat
  rw [BitVec.toNat_and, show (4294967295#64).toNat = 2 ^ 32 - 1 from by decide, Nat.and_two_pow_sub_one_eq_mod, BitVec.toNat_ofNat]
  omega))⟩

-- SORTED ARRAYS: the first n places of g, rising; what stands there is X
def hSor (g : Nat → Nat) (n : Nat) (X : Nat → Prop) : Prop := (∀ i j, i < j → j < n → g i < g j) ∧ ∀ c, X c ↔ ∃ i, i < n ∧ g i = c
theorem hSor.le {g : Nat → Nat} {n : Nat} {X : Nat → Prop} (h : hSor g n X) {i j : Nat} (hij : i ≤ j) (hj : j < n) : g i ≤ g j := by
  rcases Nat.lt_or_ge i j with q | q
  · exact Nat.le_of_lt (h.1 i j q hj)
  · rw [show i = j by omega]; exact Nat.le_refl _
/-- k is where c belongs -/
def hLb (g : Nat → Nat) (n c k : Nat) : Prop := k ≤ n ∧ (∀ i, i < k → g i < c) ∧ ∀ i, k ≤ i → i < n → c ≤ g i
theorem hLb.uniq {g : Nat → Nat} {n c k j : Nat} (h : hLb g n c k) (h2 : hLb g n c j) : k = j := by
  rcases Nat.lt_trichotomy k j with q | q | q
  · have h3 := h2.2.1 k q
    have h4 := h.2.2 k (Nat.le_refl k) (by have := h2.1; omega)
    omega
  · exact q
  · have h3 := h.2.1 j q
    have h4 := h2.2.2 j (Nat.le_refl j) (by have := h.1; omega)
    omega
theorem hSor.has {g : Nat → Nat} {n c k : Nat} {X : Nat → Prop} (h : hSor g n X) (hk : hLb g n c k) : X c ↔ (k < n ∧ g k = c) := by
  rw [h.2 c]
  constructor
  · rintro ⟨i, hi, e⟩
    have h1 : ¬ i < k := fun q => by have := hk.2.1 i q; omega
    have h2 := hk.2.2 k (Nat.le_refl k) (by omega)
    have h3 := h.le (show k ≤ i by omega) hi
    exact ⟨by omega, by omega⟩
  · rintro ⟨h1, h2⟩
    exact ⟨k, h1, h2⟩
def hIns (g : Nat → Nat) (k c : Nat) : Nat → Nat := fun i => if i < k then g i else if i = k then c else g (i - 1)
def hDel (g : Nat → Nat) (k : Nat) : Nat → Nat := fun i => if i < k then g i else g (i + 1)
theorem hSor.ins {g : Nat → Nat} {n c k : Nat} {X : Nat → Prop} (h : hSor g n X) (hk : hLb g n c k) (hc : ¬ X c) : hSor (hIns g k c) (n + 1) (fun x => X x ∨ x = c) := by
  have hne : ∀ i, i < n → g i ≠ c := fun i hi e => hc ((h.2 c).mpr ⟨i, hi, e⟩)
  have hkn := hk.1
  refine ⟨fun i j hij hj => ?_, fun x => ?_⟩
  · have a1 := hk.2.1 i
    have a3 := hk.2.2 (j - 1)
    have a4 := hne (j - 1)
    have a5 := h.1 i j hij
    have a6 := h.1 (i - 1) (j - 1)
    have a7 := h.1 i (j - 1)
    unfold hIns
    by_cases b1 : i < k
    · rw [if_pos b1]
      by_cases b2 : j < k
      · rw [if_pos b2]; exact a5 (by omega)
      · rw [if_neg b2]
        by_cases b3 : j = k
        · rw [if_pos b3]; exact a1 b1
        · rw [if_neg b3]
          have := a1 b1
          have := a3 (by omega) (by omega)
          omega
    · rw [if_neg b1, if_neg (show ¬ j < k by omega), if_neg (show ¬ j = k by omega)]
      by_cases b3 : i = k
      · rw [if_pos b3]
        have := a3 (by omega) (by omega)
        have := a4 (by omega)
        omega
      · rw [if_neg b3]; exact a6 (by omega) (by omega)
  · constructor
    · intro hx
      rcases hx with hx | hx
      · obtain ⟨i, hi, e⟩ := (h.2 x).mp hx
        by_cases b : i < k
        · exact ⟨i, by omega, by unfold hIns; rw [if_pos b]; exact e⟩
        · exact ⟨i + 1, by omega, by unfold hIns; rw [if_neg (by omega), if_neg (by omega)]; exact e⟩
      · exact ⟨k, by omega, by unfold hIns; rw [if_neg (by omega), if_pos rfl]; exact hx.symm⟩
    · rintro ⟨i, hi, e⟩
      unfold hIns at e
      by_cases b : i < k
      · rw [if_pos b] at e
        exact Or.inl ((h.2 x).mpr ⟨i, by omega, e⟩)
      · rw [if_neg b] at e
        by_cases b2 : i = k
        · rw [if_pos b2] at e
          exact Or.inr e.symm
        · rw [if_neg b2] at e
          exact Or.inl ((h.2 x).mpr ⟨i - 1, by omega, e⟩)
theorem hSor.del {g : Nat → Nat} {n c k : Nat} {X : Nat → Prop} (h : hSor g n X) (hk : k < n) (hc : g k = c) : hSor (hDel g k) (n - 1) (fun x => X x ∧ x ≠ c) := by
  refine ⟨fun i j hij hj => ?_, fun x => ?_⟩
  · have a5 := h.1 i j hij
    have a6 := h.1 (i + 1) (j + 1)
    have a7 := h.1 i (j + 1)
    unfold hDel
    by_cases b1 : i < k
    · rw [if_pos b1]
      by_cases b2 : j < k
      · rw [if_pos b2]; exact a5 (by omega)
      · rw [if_neg b2]; exact a7 (by omega) (by omega)
    · rw [if_neg b1, if_neg (show ¬ j < k by omega)]
      exact a6 (by omega) (by omega)
  · constructor
    · rintro ⟨hx, hne⟩
      obtain ⟨i, hi, e⟩ := (h.2 x).mp hx
      have hik : i ≠ k := fun q => hne (by rw [← e, q]; exact hc)
      by_cases b : i < k
      · exact ⟨i, by omega, by unfold hDel; rw [if_pos b]; exact e⟩
      · exact ⟨i - 1, by omega, by unfold hDel; rw [if_neg (by omega), show i - 1 + 1 = i by omega]; exact e⟩
    · rintro ⟨i, hi, e⟩
      unfold hDel at e
      by_cases b : i < k
      · rw [if_pos b] at e
        refine ⟨(h.2 x).mpr ⟨i, by omega, e⟩, ?_⟩
        have := h.1 i k b hk
        omega
      · rw [if_neg b] at e
        refine ⟨(h.2 x).mpr ⟨i + 1, by omega, e⟩, ?_⟩
        have := h.1 k (i + 1) (by omega) (by omega)
        omega
/-- the invariant of the search by strides -/
def hSt (g : Nat → Nat) (n c b st : Nat) : Prop := b ≤ n ∧ (∀ i, i < b → g i < c) ∧ ∀ i, b + (2 * st - 1) ≤ i → i < n → c ≤ g i
theorem hSt.start {g : Nat → Nat} {n c : Nat} (hn : n ≤ 1023) : hSt g n c 0 512 := ⟨Nat.zero_le _, fun i h => by omega, fun i h1 h2 => by omega⟩
theorem hSt.end_ {g : Nat → Nat} {n c b : Nat} (h : hSt g n c b 0) : hLb g n c b := ⟨h.1, h.2.1, fun i h1 h2 => h.2.2 i (by omega) h2⟩
theorem hSt.yes {g : Nat → Nat} {n c b st : Nat} {X : Nat → Prop} (hs : hSor g n X) (h : hSt g n c b st) (h0 : 0 < st) (he : st = 1 ∨ st % 2 = 0) (h1 : b + st ≤ n) (h2 : g (b + st - 1) < c) : hSt g n c (b + st) (st / 2) := by
  refine ⟨h1, fun i hi => ?_, fun i h3 h4 => h.2.2 i (by omega) h4⟩
  have := hs.le (show i ≤ b + st - 1 by omega) (show b + st - 1 < n by omega)
  omega
theorem hSt.no {g : Nat → Nat} {n c b st : Nat} {X : Nat → Prop} (hs : hSor g n X) (h : hSt g n c b st) (h0 : 0 < st) (he : st = 1 ∨ st % 2 = 0) (h1 : n < b + st ∨ c ≤ g (b + st - 1)) : hSt g n c b (st / 2) := by
  refine ⟨h.1, h.2.1, fun i h3 h4 => ?_⟩
  rcases h1 with h1 | h1
  · omega
  · have := hs.le (show b + st - 1 ≤ i by omega) h4
    omega
theorem hpow_ev {st : Nat} (h : st = 0 ∨ ∃ j, st = 2 ^ j) : st = 1 ∨ st % 2 = 0 := by
  rcases h with h | ⟨j, h⟩
  · exact Or.inr (by rw [h])
  · cases j with
    | zero => exact Or.inl h
    | succ j => exact Or.inr (by rw [h, Nat.pow_succ]; omega)
theorem hpow_half {st : Nat} (h : st = 0 ∨ ∃ j, st = 2 ^ j) : st / 2 = 0 ∨ ∃ j, st / 2 = 2 ^ j := by
  rcases h with h | ⟨j, h⟩
  · exact Or.inl (by rw [h])
  · cases j with
    | zero => exact Or.inl (by rw [h])
    | succ j => exact Or.inr ⟨j, by rw [h, Nat.pow_succ]; omega⟩
/-- where c belongs, counted -/
def hlbf (g : Nat → Nat) : Nat → Nat → Nat
  | 0, _ => 0
  | n + 1, c => if g n < c then n + 1 else hlbf g n c
theorem hlbf_le (g : Nat → Nat) (c : Nat) : ∀ n, hlbf g n c ≤ n
  | 0 => Nat.le_refl _
  | n + 1 => by
    show (if g n < c then n + 1 else hlbf g n c) ≤ n + 1
    by_cases h : g n < c
    · rw [if_pos h]; exact Nat.le_refl _
    · rw [if_neg h]; have := hlbf_le g c n; omega
theorem hlbf_lb {g : Nat → Nat} (c : Nat) : ∀ n, (∀ i j, i < j → j < n → g i < g j) → hLb g n c (hlbf g n c)
  | 0, _ => ⟨Nat.le_refl _, fun i h => absurd h (Nat.not_lt_zero i), fun i _ h => absurd h (Nat.not_lt_zero i)⟩
  | n + 1, hg => by
    show hLb g (n + 1) c (if g n < c then n + 1 else hlbf g n c)
    by_cases h : g n < c
    · rw [if_pos h]
      refine ⟨Nat.le_refl _, fun i hi => ?_, fun i h1 h2 => by omega⟩
      rcases Nat.lt_or_ge i n with q | q
      · have := hg i n q (Nat.lt_succ_self n); omega
      · rw [show i = n by omega]; exact h
    · rw [if_neg h]
      obtain ⟨h1, h2, h3⟩ := hlbf_lb c n (fun i j hij hj => hg i j hij (by omega))
      refine ⟨by omega, h2, fun i h4 h5 => ?_⟩
      rcases Nat.lt_or_ge i n with q | q
      · exact h3 i h4 q
      · rw [show i = n by omega]; omega
theorem hSor.lb {g : Nat → Nat} {n : Nat} {X : Nat → Prop} (h : hSor g n X) (c : Nat) : hLb g n c (hlbf g n c) := hlbf_lb c n h.1
theorem hIns_arr {F : Nat → Int32} {g : Nat → Nat} {n k c : Nat} (hk : k ≤ n) (hf : ∀ i, i < n → F i = nI (g i)) : ∀ i, i < n + 1 → upd (va_cpy F F k (k + 1) (n - k)) k (nI c) i = nI (hIns g k c i) := by
  intro i hi
  unfold hIns
  by_cases h1 : i = k
  · subst h1
    rw [pk_us, if_neg (Nat.lt_irrefl _), if_pos rfl]
  · rw [pk_un h1]
    by_cases h2 : i < k
    · rw [pk_cpy_out (Or.inl (by omega)), if_pos h2]
      exact hf i (by omega)
    · rw [pk_cpy_in (by omega) (by omega), if_neg h2, if_neg h1, show k + (i - (k + 1)) = i - 1 by omega]
      exact hf (i - 1) (by omega)
theorem hDel_arr {F : Nat → Int32} {g : Nat → Nat} {n k : Nat} (hk : k < n) (hf : ∀ i, i < n → F i = nI (g i)) : ∀ i, i < n - 1 → va_cpy F F (k + 1) k (n - k - 1) i = nI (hDel g k i) := by
  intro i hi
  unfold hDel
  by_cases h2 : i < k
  · rw [pk_cpy_out (Or.inl (by omega)), if_pos h2]
    exact hf i (by omega)
  · rw [pk_cpy_in (by omega) (by omega), if_neg h2, show k + 1 + (i - k) = i + 1 by omega]
    exact hf (i + 1) (by omega)
def hBool (r : Int32) (P : Prop) : Prop := (r = nI 1 ∧ P) ∨ (r = nI 0 ∧ ¬ P)
theorem hBool.yes {P : Prop} (h : P) : hBool (nI 1) P := Or.inl ⟨rfl, h⟩
theorem hBool.no {P : Prop} (h : ¬ P) : hBool (nI 0) P := Or.inr ⟨rfl, h⟩
theorem hBool.t {r : Int32} {P : Prop} (h : hBool r P) (c : ¬ r = 0) : P := by
  rcases h with h | h
  · exact h.2
  · exact absurd h.1 c
theorem hBool.f {r : Int32} {P : Prop} (h : hBool r P) (c : r = 0) : ¬ P := by
  rcases h with h | h
  · rw [h.1] at c; exact absurd c (by decide)
  · exact h.2

-- NUMBERS: items, codes of triples, rows
theorem hior (a b : Nat) : nI a ||| nI b = nI (a ||| b) := by
  apply Int32.toBitVec_inj.1
  show BitVec.ofNat 32 a ||| BitVec.ofNat 32 b = BitVec.ofNat 32 (a ||| b)
  apply BitVec.eq_of_getLsbD_eq
  intro i hi
  simp [hi]
theorem hiand (a b : Nat) : nI a &&& nI b = nI (a &&& b) := by
  apply Int32.toBitVec_inj.1
  show BitVec.ofNat 32 a &&& BitVec.ofNat 32 b = BitVec.ofNat 32 (a &&& b)
  apply BitVec.eq_of_getLsbD_eq
  intro i hi
  simp [hi]
theorem hs_l : ∀ n, n < 32 → ((nI n &&& 31).toBitVec.smod 32).toNat = n := by decide +kernel
/-- variable number k + 1, as the int -(k + 1) -/
def hvI (k : Nat) : Int32 := Int32.ofInt (-((k : Int) + 1))
theorem hvI_toInt : ∀ k, k < 8 → (hvI k).toInt = -((k : Int) + 1) := by decide +kernel
/-- an item: x < 64 the number x, 64 + k the variable -(k + 1) -/
def hit (x : Nat) : Int32 := if x < 64 then nI x else hvI (x - 64)
theorem hit_n {x : Nat} (h : x < 64) : hit x = nI x := if_pos h
theorem hit_v {k : Nat} : hit (64 + k) = hvI k := by
  unfold hit
  rw [if_neg (by omega), show 64 + k - 64 = k by omega]
theorem hit_toInt : ∀ x, x < 72 → (hit x).toInt = if x < 64 then (x : Int) else 63 - (x : Int) := by decide +kernel
theorem hit_inj {x y : Nat} (hx : x < 72) (hy : y < 72) (h : hit x = hit y) : x = y := by
  have e := congrArg Int32.toInt h
  rw [hit_toInt x hx, hit_toInt y hy] at e
  split at e <;> split at e <;> omega
abbrev hOkN (x : Int32) : Prop := 0 ≤ x.toInt ∧ x.toInt < 64
abbrev hOkV (x : Int32) : Prop := x.toInt < 0 ∧ -8 ≤ x.toInt
theorem hI64 : (nI 64).toInt = 64 := by decide +kernel
theorem hIm8 : (-8 : Int32).toInt = -8 := by decide +kernel
theorem hOkN_neg {x : Int32} (h : x < 0 ∨ nI 64 ≤ x) : ¬ hOkN x := by
  rw [Int32.lt_iff_toInt_lt, Int32.le_iff_toInt_le, hI64, Int32.toInt_zero] at h
  intro q
  have := q.1
  have := q.2
  omega
theorem hOkN_pos {x : Int32} (h1 : ¬ x < 0) (h2 : ¬ nI 64 ≤ x) : hOkN x := by
  rw [Int32.lt_iff_toInt_lt, Int32.toInt_zero] at h1
  rw [Int32.le_iff_toInt_le, hI64] at h2
  exact ⟨by omega, by omega⟩
theorem hOkV_neg {x : Int32} (h : 0 ≤ x ∨ x < (-8)) : ¬ hOkV x := by
  rw [Int32.lt_iff_toInt_lt, Int32.le_iff_toInt_le, hIm8, Int32.toInt_zero] at h
  intro q
  have := q.1
  have := q.2
  omega
theorem hOkV_pos {x : Int32} (h1 : ¬ 0 ≤ x) (h2 : ¬ x < (-8)) : hOkV x := by
  rw [Int32.le_iff_toInt_le, Int32.toInt_zero] at h1
  rw [Int32.lt_iff_toInt_lt, hIm8] at h2
  exact ⟨by omega, by omega⟩
theorem hOkN_of {x : Int32} (h : hOkN x) : ∃ n, n < 64 ∧ x = nI n := by
  obtain ⟨h1, h2⟩ := h
  refine ⟨x.toInt.toNat, by omega, Int32.toInt_inj.mp ?_⟩
  rw [nI_toInt (by omega)]
  omega
theorem hOkV_of {x : Int32} (h : hOkV x) : ∃ k, k < 8 ∧ x = hvI k := by
  obtain ⟨h1, h2⟩ := h
  refine ⟨(-x.toInt - 1).toNat, by omega, Int32.toInt_inj.mp ?_⟩
  rw [hvI_toInt _ (by omega)]
  omega
theorem hOkN_nI {n : Nat} (h : n < 64) : hOkN (nI n) := by
  constructor <;> rw [nI_toInt (by omega)] <;> omega
theorem hOkV_vI {k : Nat} (h : k < 8) : hOkV (hvI k) := by
  constructor <;> rw [hvI_toInt k h] <;> omega
theorem hOk_of {x : Int32} (h : hOkN x ∨ hOkV x) : ∃ y, y < 72 ∧ x = hit y := by
  rcases h with h | h
  · obtain ⟨n, h1, h2⟩ := hOkN_of h
    exact ⟨n, by omega, by rw [hit_n h1]; exact h2⟩
  · obtain ⟨k, h1, h2⟩ := hOkV_of h
    exact ⟨64 + k, by omega, by rw [hit_v]; exact h2⟩
theorem hif1 {P : Prop} [Decidable P] {r : Int32} (h : r = if P then 1 else 0) (c : ¬ r = 0) : P := by
  by_cases q : P
  · exact q
  · rw [if_neg q] at h; exact absurd h c
theorem hif0 {P : Prop} [Decidable P] {r : Int32} (h : r = if P then 1 else 0) (c : r = 0) : ¬ P := by
  intro q
  rw [if_pos q] at h
  rw [h] at c
  exact absurd c (by decide)
theorem hbitOf : ∀ k, k < 8 → (nI 1) <<< (((-1) - (hvI k)) &&& 31) = nI (2 ^ k) := by decide +kernel
theorem hrowSh : ∀ k, k < 8 → (nI 6) * ((nI 8) + (hvI k)) = nI (6 * (7 - k)) := by decide +kernel
/-- where place p stands in the codes of view v -/
def hsh (v p : Nat) : Nat := 6 * (2 - (p + 3 - v) % 3)
/-- the code of the triple a b c in view v -/
def hvc (v a b c : Nat) : Nat := a * 2 ^ hsh v 0 + b * 2 ^ hsh v 1 + c * 2 ^ hsh v 2
theorem hsh_lt : ∀ v, v < 3 → ∀ p, p < 3 → hsh v p < 13 := by decide +kernel
def hfm (x y : Int32) : Int32 := if (x ^^^ y) < 0 ∧ ¬ (x - x / y * y) = 0 then (x - x / y * y) + y else (x - x / y * y)
theorem hcsh : ∀ v, v < 3 → ∀ p, p < 3 → (nI 6) * ((nI 2) - hfm ((nI p) - (nI v)) (nI 3)) = nI (hsh v p) := by decide +kernel
theorem hor_hi {a b k : Nat} (h : b < 2 ^ k) : a * 2 ^ k ||| b = a * 2 ^ k + b := by
  rw [← Nat.shiftLeft_eq, Nat.shiftLeft_add_eq_or_of_lt h]
theorem hor_lo {a b k : Nat} (h : b < 2 ^ k) : b ||| a * 2 ^ k = b + a * 2 ^ k := by
  rw [Nat.or_comm, hor_hi h, Nat.add_comm]
theorem hcode {v a b c : Nat} (hv : v < 3) (ha : a < 64) (hb : b < 64) (hc : c < 64) : a * 2 ^ hsh v 0 ||| b * 2 ^ hsh v 1 ||| c * 2 ^ hsh v 2 = hvc v a b c := by
  unfold hvc
  rcases (show v = 0 ∨ v = 1 ∨ v = 2 by omega) with rfl | rfl | rfl
  · show a * 2 ^ 12 ||| b * 2 ^ 6 ||| c * 2 ^ 0 = a * 2 ^ 12 + b * 2 ^ 6 + c * 2 ^ 0
    rw [hor_hi (show b * 2 ^ 6 < 2 ^ 12 by omega), show a * 2 ^ 12 + b * 2 ^ 6 = (a * 64 + b) * 2 ^ 6 by omega, hor_hi (show c * 2 ^ 0 < 2 ^ 6 by omega)]
  · show a * 2 ^ 0 ||| b * 2 ^ 12 ||| c * 2 ^ 6 = a * 2 ^ 0 + b * 2 ^ 12 + c * 2 ^ 6
    rw [Nat.or_comm (a * 2 ^ 0) (b * 2 ^ 12), Nat.or_assoc, Nat.or_comm (a * 2 ^ 0) (c * 2 ^ 6), ← Nat.or_assoc, hor_hi (show c * 2 ^ 6 < 2 ^ 12 by omega), show b * 2 ^ 12 + c * 2 ^ 6 = (b * 64 + c) * 2 ^ 6 by omega, hor_hi (show a * 2 ^ 0 < 2 ^ 6 by omega)]
    omega
  · show a * 2 ^ 6 ||| b * 2 ^ 0 ||| c * 2 ^ 12 = a * 2 ^ 6 + b * 2 ^ 0 + c * 2 ^ 12
    rw [hor_hi (show b * 2 ^ 0 < 2 ^ 6 by omega), Nat.or_comm, hor_hi (show a * 2 ^ 6 + b * 2 ^ 0 < 2 ^ 12 by omega)]
    omega
theorem hvc_lt {v a b c : Nat} (hv : v < 3) (ha : a < 64) (hb : b < 64) (hc : c < 64) : hvc v a b c < 262144 := by
  unfold hvc
  rcases (show v = 0 ∨ v = 1 ∨ v = 2 by omega) with rfl | rfl | rfl
  · show a * 2 ^ 12 + b * 2 ^ 6 + c * 2 ^ 0 < _
    omega
  · show a * 2 ^ 0 + b * 2 ^ 12 + c * 2 ^ 6 < _
    omega
  · show a * 2 ^ 6 + b * 2 ^ 0 + c * 2 ^ 12 < _
    omega
theorem hshl {n k : Nat} (hk : k < 32) (h : n * 2 ^ k < 2 ^ 32) : nI n <<< (nI k &&& 31) = nI (n * 2 ^ k) := pk_shlN _ k (hs_l k hk) h
theorem hshr {n k : Nat} (hk : k < 32) (h : n < 2 ^ 31) : nI n >>> (nI k &&& 31) = nI (n / 2 ^ k) := pk_shrN h _ k (hs_l k hk)
theorem hand63 {n : Nat} (h : n < 2 ^ 32) : nI n &&& nI 63 = nI (n % 64) := pk_andN h 6 (by decide +kernel)
theorem hand63' (n : Nat) : nI n &&& nI 63 = nI (n % 64) := by
  rw [pk_and (nI n) (m := nI 63) 6 (by decide +kernel)]
  congr 1
  show (BitVec.ofNat 32 n).toNat % 2 ^ 6 = n % 64
  rw [BitVec.toNat_ofNat]
  omega
theorem hnumAt {n k : Nat} (hk : k < 32) (h : n < 2 ^ 31) : (nI n >>> (nI k &&& 31)) &&& nI 63 = nI (n / 2 ^ k % 64) := by
  have h2 : n / 2 ^ k ≤ n := Nat.div_le_self _ _
  rw [hshr hk h, hand63 (by omega)]

-- THE STORE: names 1 (the store), 2 (its views), 3 .. 5 (a view each)
def hTr (K : Nat → ClassId) (ad : Nat → Nat) (ws : va_W) (F : Nat → Nat → Int32) (cnt : Nat) : Prop := ws[1]? = some (ad 1, .inr (iT, [.ref (ad 2), .int (nI cnt)])) ∧ (∃ fq : Nat → Option Nat, ws[2]? = some (ad 2, .inl (K 2, 3, .inr (.inr (.inr (.inr fq))))) ∧ ∀ v, v < 3 → fq v = some (ad (3 + v))) ∧ ∀ v, v < 3 → ws[3 + v]? = some (ad (3 + v), .inl (K 0, 640, .inl (F v)))
/-- the views hold the codes g, rising, of the triples X -/
def hVw (F : Nat → Nat → Int32) (g : Nat → Nat → Nat) (cnt : Nat) (X : Nat → Nat → Prop) : Prop := cnt ≤ 640 ∧ ∀ v, v < 3 → (∀ i, i < cnt → F v i = nI (g v i) ∧ g v i < 262144) ∧ hSor (g v) cnt (X v)
theorem hTr.ag {K : Nat → ClassId} {ad : Nat → Nat} {ws ws' : va_W} {lo hi cnt : Nat} {F : Nat → Nat → Int32} (h : hTr K ad ws F cnt) (hg : hAg lo hi ws ws') (hn : 5 < lo ∨ hi ≤ 1) : hTr K ad ws' F cnt := by
  obtain ⟨h1, ⟨fq, h2, h3⟩, h4⟩ := h
  exact ⟨by rw [hg.2 1 (by omega)]; exact h1, ⟨fq, by rw [hg.2 2 (by omega)]; exact h2, h3⟩, fun v hv => by rw [hg.2 (3 + v) (by omega)]; exact h4 v hv⟩
theorem hVw0 : hVw (fun _ _ => 0) (fun _ _ => 0) 0 (fun _ _ => False) := ⟨by decide, fun v _ => ⟨fun i hi => absurd hi (Nat.not_lt_zero _), fun i j _ hj => absurd hj (Nat.not_lt_zero _), fun c => ⟨False.elim, fun ⟨i, hi, _⟩ => absurd hi (Nat.not_lt_zero _)⟩⟩⟩
theorem hk01 {k : Int32} (h1 : ¬ k < nI 1) (h2 : k ≤ nI 0) : False := by
  rw [Int32.lt_iff_toInt_lt, nI_toInt (by decide)] at h1
  rw [Int32.le_iff_toInt_le, nI_toInt (by decide)] at h2
  omega
theorem hIm4 : (-4 : Int32).toInt = -4 := by decide +kernel
theorem hk4 {k : Int32} (h1 : ¬ k < 0) (h2 : ¬ (-4) ≤ k) : False := by
  rw [Int32.lt_iff_toInt_lt, Int32.toInt_zero] at h1
  rw [Int32.le_iff_toInt_le, hIm4] at h2
  omega

-- HOW MANY BITS, as Long.bitCount computes it
/-- how many of the low n bits of x are set -/
def hpc : Nat → Nat → Nat
  | 0, _ => 0
  | n + 1, x => x % 2 + hpc n (x / 2)
def hb1 (n : Nat) : Nat := n - (n / 2 ^ 1 &&& 6148914691236517205)
def hb2 (n : Nat) : Nat := (hb1 n &&& 3689348814741910323) + (hb1 n / 2 ^ 2 &&& 3689348814741910323)
def hb3 (n : Nat) : Nat := (hb2 n + hb2 n / 2 ^ 4) &&& 1085102592571150095
def hbc (n : Nat) : Nat := (hb3 n + hb3 n / 256 + (hb3 n + hb3 n / 256) / 65536 + (hb3 n + hb3 n / 256 + (hb3 n + hb3 n / 256) / 65536) / 4294967296) % 128
theorem hb1_sub (n : Nat) : (n / 2 ^ 1 &&& 6148914691236517205) ≤ n := Nat.le_trans Nat.and_le_left (Nat.div_le_self _ _)
theorem hb1_le (n : Nat) : hb1 n ≤ n := Nat.sub_le _ _
theorem hb2_le (n : Nat) : hb2 n ≤ 7378697629483820646 := by
  have h1 := Nat.and_le_right (n := hb1 n) (m := 3689348814741910323)
  have h2 := Nat.and_le_right (n := hb1 n / 2 ^ 2) (m := 3689348814741910323)
  unfold hb2
  omega
theorem hb3_le (n : Nat) : hb3 n ≤ 1085102592571150095 := Nat.and_le_right
theorem hbc_le (n : Nat) : hbc n ≤ 127 := Nat.le_of_lt_succ (Nat.mod_lt _ (by decide))

-- ORDERS: numbers of patterns in a row, with a mask of those that stand there
theorem hgetD {a b : List Nat} {i : Nat} (h : i < a.length) : (a ++ b).getD i 0 = a.getD i 0 := by
  rw [List.getD_eq_getElem?_getD, List.getD_eq_getElem?_getD, List.getElem?_append_left h]
theorem hgetDr {a : List Nat} {x : Nat} : (a ++ [x]).getD a.length 0 = [x].getD 0 0 := by
  rw [List.getD_eq_getElem?_getD, List.getElem?_append_right (Nat.le_refl _), Nat.sub_self]
  rfl
def hMk (u : Nat) (o : List Nat) : Prop := u < 64 ∧ ∀ i, i < 6 → (u.testBit i = true ↔ i ∈ o)
def hOr (K : Nat → ClassId) (ad : Nat → Nat) (ws : va_W) (n : Nat) (f : Nat → Int32) (len used : Nat) : Prop := ws[n]? = some (ad n, .inr (iO, [.ref (ad (n + 1)), .int (nI len), .int (nI used)])) ∧ ws[n + 1]? = some (ad (n + 1), .inl (K 0, 6, .inl f))
def hOk (f : Nat → Int32) (u : Nat) (o : List Nat) : Prop := o.length ≤ 6 ∧ (∀ i, i < o.length → f i = nI (o.getD i 0)) ∧ (∀ x, x ∈ o → x < 6) ∧ hMk u o
def hOrd (K : Nat → ClassId) (ad : Nat → Nat) (ws : va_W) (n : Nat) (o : List Nat) : Prop := ∃ (f : Nat → Int32) (u : Nat), hOr K ad ws n f o.length u ∧ hOk f u o
theorem hOrd.ag {K : Nat → ClassId} {ad : Nat → Nat} {ws ws' : va_W} {n lo hi : Nat} {o : List Nat} (h : hOrd K ad ws n o) (hg : hAg lo hi ws ws') (hn : n + 1 < lo ∨ hi ≤ n) : hOrd K ad ws' n o := by
  obtain ⟨f, u, ⟨h1, h2⟩, h3⟩ := h
  exact ⟨f, u, ⟨by rw [hg.2 n (by omega)]; exact h1, by rw [hg.2 (n + 1) (by omega)]; exact h2⟩, h3⟩
theorem hMk_nil : hMk 0 [] := ⟨by decide, fun i _ => by simp⟩
theorem hOk_nil (f : Nat → Int32) : hOk f 0 [] := ⟨by decide, fun i h => absurd h (Nat.not_lt_zero i), fun _ h => absurd h List.not_mem_nil, hMk_nil⟩
theorem hMk.add {u x : Nat} {o : List Nat} (h : hMk u o) (hx : x < 6) : hMk (u ||| 2 ^ x) (o ++ [x]) := by
  refine ⟨Nat.or_lt_two_pow (n := 6) h.1 (Nat.pow_lt_pow_right (by decide) hx), fun i hi => ?_⟩
  rw [Nat.testBit_or, Bool.or_eq_true, h.2 i hi, Nat.testBit_two_pow, decide_eq_true_eq, List.mem_append, List.mem_singleton]
  exact ⟨fun q => q.elim Or.inl (fun z => Or.inr z.symm), fun q => q.elim Or.inl (fun z => Or.inr z.symm)⟩
def hclr (u x : Nat) : Nat := if u.testBit x then u - 2 ^ x else u
theorem hclr_i : ∀ u, u < 64 → ∀ x, x < 6 → (nI u) &&& ((nI (2 ^ x)) ^^^ (-1)) = nI (hclr u x) := by decide +kernel
theorem hclr_b : ∀ u, u < 64 → ∀ x, x < 6 → hclr u x < 64 ∧ ∀ i, i < 6 → ((hclr u x).testBit i = true ↔ (u.testBit i = true ∧ i ≠ x)) := by decide +kernel
theorem hMk.sub {u x : Nat} {o : List Nat} (h : hMk u (o ++ [x])) (hx : x < 6) (hn : x ∉ o) : hMk (hclr u x) o := by
  obtain ⟨h1, h2⟩ := hclr_b u h.1 x hx
  refine ⟨h1, fun i hi => ?_⟩
  rw [h2 i hi, h.2 i hi, List.mem_append, List.mem_singleton]
  constructor
  · rintro ⟨q | q, z⟩
    · exact q
    · exact absurd q z
  · intro q
    exact ⟨Or.inl q, fun z => hn (z ▸ q)⟩
theorem hbit_eq : ∀ u, u < 64 → ∀ x, x < 6 → ((nI u) &&& (nI (1 * 2 ^ x)) = 0 ↔ ¬ u.testBit x = true) := by decide +kernel
theorem hOk.add {f : Nat → Int32} {u x : Nat} {o : List Nat} (h : hOk f u o) (hl : o.length < 6) (hx : x < 6) : hOk (upd f o.length (nI x)) (u ||| 2 ^ x) (o ++ [x]) := by
  obtain ⟨h1, h2, h3, h4⟩ := h
  refine ⟨by rw [List.length_append]; show o.length + 1 ≤ 6; omega, fun i hi => ?_, fun y hy => ?_, h4.add hx⟩
  · rw [List.length_append] at hi
    by_cases q : i = o.length
    · subst q
      rw [pk_us]
      simp
    · have hi : i < o.length + 1 := hi
      rw [pk_un q, h2 i (by omega), hgetD (by omega)]
  · rcases List.mem_append.mp hy with q | q
    · exact h3 y q
    · rw [List.mem_singleton.mp q]; exact hx
theorem hOk.pop {f : Nat → Int32} {u x : Nat} {o : List Nat} (h : hOk f u (o ++ [x])) (hn : x ∉ o) : f o.length = nI x ∧ x < 6 ∧ hOk f (hclr u x) o := by
  obtain ⟨h1, h2, h3, h4⟩ := h
  have hx : x < 6 := h3 x (List.mem_append_right _ (List.mem_singleton.mpr rfl))
  rw [List.length_append] at h1 h2
  have h1 : o.length + 1 ≤ 6 := h1
  have h2 : ∀ i, i < o.length + 1 → f i = nI ((o ++ [x]).getD i 0) := h2
  refine ⟨?_, hx, by omega, fun i hi => ?_, fun y hy => h3 y (List.mem_append_left _ hy), h4.sub hx hn⟩
  · rw [h2 o.length (by omega)]
    simp
  · rw [h2 i (by omega), hgetD hi]

-- PATTERNS: three items each, and what was counted of them
def hPt (K : Nat → ClassId) (ad : Nat → Nat) (ws : va_W) (n : Nat) (I dd : Nat → Nat) (mm : Nat) : Prop := ∃ fi fd : Nat → Int32, ws[n]? = some (ad n, .inr (iP, [.ref (ad (n + 1)), .ref (ad (n + 2)), .int (nI mm)])) ∧ ws[n + 1]? = some (ad (n + 1), .inl (K 0, 3, .inl fi)) ∧ ws[n + 2]? = some (ad (n + 2), .inl (K 0, 3, .inl fd)) ∧ (∀ p, p < 3 → fi p = hit (I p) ∧ I p < 72) ∧ ∀ p, p < 3 → fd p = nI (dd p)
theorem hPt.ag {K : Nat → ClassId} {ad : Nat → Nat} {ws ws' : va_W} {n lo hi : Nat} {I dd : Nat → Nat} {mm : Nat} (h : hPt K ad ws n I dd mm) (hg : hAg lo hi ws ws') (hn : n + 2 < lo ∨ hi ≤ n) : hPt K ad ws' n I dd mm := by
  obtain ⟨fi, fd, h1, h2, h3, h4⟩ := h
  exact ⟨fi, fd, by rw [hg.2 n (by omega)]; exact h1, by rw [hg.2 (n + 1) (by omega)]; exact h2, by rw [hg.2 (n + 2) (by omega)]; exact h3, h4⟩
theorem hit_ge {x : Nat} (hx : x < 72) : 0 ≤ hit x ↔ x < 64 := by
  rw [Int32.le_iff_toInt_le, Int32.toInt_zero, hit_toInt x hx]
  split <;> omega
theorem hit_lt {x : Nat} (hx : x < 72) : hit x < 0 ↔ 64 ≤ x := by
  rw [Int32.lt_iff_toInt_lt, Int32.toInt_zero, hit_toInt x hx]
  split <;> omega
theorem hit_vv {x : Nat} (h : 64 ≤ x) : hit x = hvI (x - 64) := if_neg (by omega)
/-- the variables of the first places, as a mask -/
def hvm (I : Nat → Nat) : Nat → Nat
  | 0 => 0
  | p + 1 => if I p < 64 then hvm I p else hvm I p ||| 2 ^ (I p - 64)
abbrev hkn (kn : Int32) (x : Nat) : Prop := 64 ≤ x ∧ ¬ kn &&& nI (2 ^ (x - 64)) = 0
/-- the places that are fixed by numbers and by known variables, as a mask -/
def hfx (I : Nat → Nat) (kn : Int32) : Nat → Nat
  | 0 => 0
  | p + 1 => if I p < 64 ∨ hkn kn (I p) then hfx I kn p ||| 2 ^ p else hfx I kn p
def hnum (x : Nat) : Nat := if x < 64 then x else 0
def hnk (v : Nat) (I : Nat → Nat) : Nat → Nat
  | 0 => 0
  | p + 1 => hnk v I p ||| hnum (I p) * 2 ^ hsh v p
theorem hnum_lt (x : Nat) : hnum x < 64 := by
  unfold hnum
  split <;> omega
theorem hnk_3 {v : Nat} (hv : v < 3) (I : Nat → Nat) : hnk v I 3 = hvc v (hnum (I 0)) (hnum (I 1)) (hnum (I 2)) := by
  rw [← hcode hv (hnum_lt _) (hnum_lt _) (hnum_lt _)]
  show ((0 ||| _) ||| _) ||| _ = _
  rw [Nat.zero_or]
theorem hvm_lt (I : Nat → Nat) (h : ∀ p, p < 3 → I p < 72) : ∀ p, p ≤ 3 → hvm I p < 2 ^ 8
  | 0, _ => by show 0 < 2 ^ 8; decide
  | p + 1, hp => by
    have ih := hvm_lt I h p (by omega)
    show (if I p < 64 then hvm I p else hvm I p ||| 2 ^ (I p - 64)) < 2 ^ 8
    split
    · exact ih
    · exact Nat.or_lt_two_pow ih (Nat.pow_lt_pow_right (by decide) (by have := h p (by omega); omega))
theorem hfx_lt (I : Nat → Nat) (kn : Int32) : ∀ p, p ≤ 3 → hfx I kn p < 2 ^ 3
  | 0, _ => by show 0 < 2 ^ 3; decide
  | p + 1, hp => by
    have ih := hfx_lt I kn p (by omega)
    show (if I p < 64 ∨ hkn kn (I p) then hfx I kn p ||| 2 ^ p else hfx I kn p) < 2 ^ 3
    split
    · exact Nat.or_lt_two_pow ih (Nat.pow_lt_pow_right (by decide) (by omega))
    · exact ih
theorem hnk_lt {v : Nat} (hv : v < 3) (I : Nat → Nat) : ∀ p, p ≤ 3 → hnk v I p < 2 ^ 18
  | 0, _ => by show 0 < 2 ^ 18; decide
  | p + 1, hp => by
    have ih := hnk_lt hv I p (by omega)
    have h2 := hsh_lt v hv p (by omega)
    have h3 := hnum_lt (I p)
    refine Nat.or_lt_two_pow ih ?_
    calc hnum (I p) * 2 ^ hsh v p < 64 * 2 ^ hsh v p := Nat.mul_lt_mul_of_pos_right h3 (Nat.two_pow_pos _)
      _ ≤ 64 * 2 ^ 12 := Nat.mul_le_mul_left _ (Nat.pow_le_pow_right (by decide) (by omega))
      _ = 2 ^ 18 := by decide
theorem hp6 {x : Nat} (h : x < 6) : 1 * 2 ^ x < 2 ^ 32 := by
  rw [Nat.one_mul]
  exact Nat.pow_lt_pow_right (by decide) (by omega)
/-- the divisor of THE RULE, for the first places -/
def hdv (I dd : Nat → Nat) (kn : Int32) : Nat → Nat
  | 0 => 1
  | p + 1 => if hkn kn (I p) then hdv I dd kn p * dd p else hdv I dd kn p
/-- the estimate -/
def hes (I dd : Nat → Nat) (mm : Nat) (kn : Int32) : Nat := if mm < 1 ∨ hdv I dd kn 3 < 1 then 0 else (mm + hdv I dd kn 3 - 1) / hdv I dd kn 3
theorem hdv_le (I dd : Nat → Nat) (kn : Int32) (h : ∀ p, p < 3 → dd p ≤ 127) : ∀ p, p ≤ 3 → hdv I dd kn p ≤ 127 ^ p
  | 0, _ => Nat.le_refl _
  | p + 1, hp => by
    have ih := hdv_le I dd kn h p (by omega)
    show (if hkn kn (I p) then hdv I dd kn p * dd p else hdv I dd kn p) ≤ 127 ^ (p + 1)
    rw [Nat.pow_succ]
    split
    · exact Nat.mul_le_mul ih (h p (by omega))
    · exact Nat.le_trans ih (Nat.le_mul_of_pos_right _ (by decide))
theorem hsh_mul {v p x : Nat} (hv : v < 3) (hp : p < 3) (hx : x < 64) : x * 2 ^ hsh v p < 2 ^ 32 := by
  have h2 := hsh_lt v hv p hp
  calc x * 2 ^ hsh v p < 64 * 2 ^ hsh v p := Nat.mul_lt_mul_of_pos_right hx (Nat.two_pow_pos _)
    _ ≤ 64 * 2 ^ 12 := Nat.mul_le_mul_left _ (Nat.pow_le_pow_right (by decide) (by omega))
    _ ≤ 2 ^ 32 := by decide
abbrev hFit (I : Nat → Nat) (a b c : Nat) : Prop := (64 ≤ I 0 ∨ I 0 = a) ∧ (64 ≤ I 1 ∨ I 1 = b) ∧ (64 ≤ I 2 ∨ I 2 = c) ∧ (¬ I 0 = I 1 ∨ a = b) ∧ (¬ I 1 = I 2 ∨ b = c) ∧ (¬ I 0 = I 2 ∨ a = c)

-- COUNTING: how many triples have a pattern's numbers, and how many numbers stand in each place
/-- the number at place p of a code of view v -/
def hpn (v p x : Nat) : Nat := x / 2 ^ hsh v p % 64
theorem hpn_lt (v p x : Nat) : hpn v p x < 64 := Nat.mod_lt _ (by decide)
/-- the mask of what h takes on from a on, k places -/
def hsn (h : Nat → Nat) (a : Nat) : Nat → Nat
  | 0 => 0
  | k + 1 => hsn h a k ||| 2 ^ h (a + k)
theorem hsn_lt {h : Nat → Nat} {a : Nat} (hh : ∀ i, h i < 64) : ∀ k, hsn h a k < 2 ^ 64
  | 0 => by show 0 < 2 ^ 64; decide
  | k + 1 => Nat.or_lt_two_pow (hsn_lt hh k) (Nat.pow_lt_pow_right (by decide) (hh _))
theorem hsn_bit {h : Nat → Nat} {a : Nat} (x : Nat) : ∀ k, (hsn h a k).testBit x = true ↔ ∃ i, a ≤ i ∧ i < a + k ∧ h i = x
  | 0 => by
    show (0 : Nat).testBit x = true ↔ _
    rw [Nat.zero_testBit]
    constructor
    · intro q; cases q
    · rintro ⟨i, h1, h2, -⟩; omega
  | k + 1 => by
    show (hsn h a k ||| 2 ^ h (a + k)).testBit x = true ↔ _
    rw [Nat.testBit_or, Bool.or_eq_true, hsn_bit x k, Nat.testBit_two_pow, decide_eq_true_eq]
    constructor
    · rintro (⟨i, h1, h2, h3⟩ | q)
      · exact ⟨i, h1, by omega, h3⟩
      · exact ⟨a + k, by omega, by omega, q⟩
    · rintro ⟨i, h1, h2, h3⟩
      by_cases z : i = a + k
      · subst z; exact Or.inr h3
      · exact Or.inl ⟨i, h1, by omega, h3⟩
theorem hlshl1 {x : Nat} (hx : x < 64) : lN 1 <<< ((nI x).toInt64 &&& 63) = lN (2 ^ x) := by rw [wb_shl 1 hx, Nat.one_mul]
def hview : Nat → Nat := fun j => match j with | 2 => 1 | 4 => 2 | 5 => 2 | 6 => 1 | _ => 0
theorem hview_lt : ∀ j, j < 8 → hview j < 3 := by decide
theorem hVf_eq : ∀ j, j < 8 → hVf j = .int (nI (hview j)) := by
  intro j hj
  rcases (show j = 0 ∨ j = 1 ∨ j = 2 ∨ j = 3 ∨ j = 4 ∨ j = 5 ∨ j = 6 ∨ j = 7 by omega) with rfl | rfl | rfl | rfl | rfl | rfl | rfl | rfl <;> rfl
def hopen (j : Nat) : Nat := 18 - 6 * hpc 3 j
theorem hlshr {x k : Nat} (hk : k < 64) (hx : x < 2 ^ 62) : lN x >>> ((nI k).toInt64 &&& 63) = lN (x / 2 ^ k) := pf_shr (by rw [wb_c k hk, wb_tb, wb_sm k hk, BitVec.toNat_ofNat]; omega) hx
theorem hminl {x : Nat} (h : x < 2 ^ 62) : (if (1000000000000 : Int64) < lN x then (1000000000000 : Int64) else lN x) = lN (min x 1000000000000) := by
  have e : (1000000000000 : Int64) = lN 1000000000000 := rfl
  rw [e]
  by_cases q : 1000000000000 < x
  · rw [if_pos ((pk_lLT (by omega) (by omega)).mpr q), Nat.min_eq_right (by omega)]
  · rw [if_neg (fun z => q ((pk_lLT (by omega) (by omega)).mp z)), Nat.min_eq_left (by omega)]
theorem hand127 (n : Nat) : nI n &&& nI 127 = nI (n % 128) := by
  rw [pk_and (nI n) (m := nI 127) 7 (by decide +kernel)]
  congr 1
  show (BitVec.ofNat 32 n).toNat % 2 ^ 7 = n % 128
  rw [BitVec.toNat_ofNat]
  omega
-- Integer.bitCount, its steps
def hu (x : Int32) (k : Int32) : Int32 := (x.toUInt32 >>> (k.toUInt32 &&& Int32.toUInt32 31)).toInt32
abbrev hib1 (n : Nat) : Int32 := ((nI n).toUInt32 >>> ((nI 1).toUInt32 &&& Int32.toUInt32 31)).toInt32
abbrev hib2 (n : Nat) : Int32 := (nI n) - ((hib1 n) &&& 1431655765)
abbrev hib3 (n : Nat) : Int32 := ((hib2 n).toUInt32 >>> ((nI 2).toUInt32 &&& Int32.toUInt32 31)).toInt32
abbrev hib4 (n : Nat) : Int32 := ((hib2 n) &&& 858993459) + ((hib3 n) &&& 858993459)
abbrev hib5 (n : Nat) : Int32 := ((hib4 n).toUInt32 >>> ((nI 4).toUInt32 &&& Int32.toUInt32 31)).toInt32
abbrev hib6 (n : Nat) : Int32 := ((hib4 n) + (hib5 n)) &&& 252645135
abbrev hib7 (n : Nat) : Int32 := ((hib6 n).toUInt32 >>> ((nI 8).toUInt32 &&& Int32.toUInt32 31)).toInt32
abbrev hib8 (n : Nat) : Int32 := (hib6 n) + (hib7 n)
abbrev hib9 (n : Nat) : Int32 := ((hib8 n).toUInt32 >>> ((nI 16).toUInt32 &&& Int32.toUInt32 31)).toInt32
abbrev hib10 (n : Nat) : Int32 := (hib8 n) + (hib9 n)
theorem hib_ok : ∀ n, n < 8 → (hib10 n) &&& (nI 63) = nI (hpc 3 n) := by decide +kernel
theorem hopen_ok : ∀ n, n < 8 → (nI 6) * ((nI 3) - (nI (hpc 3 n))) = nI (hopen n) := by decide +kernel
theorem hLb.mono {g : Nat → Nat} {n c d j k : Nat} (h : hLb g n c j) (h2 : hLb g n d k) (hcd : c ≤ d) : j ≤ k := by
  rcases Nat.lt_or_ge k j with q | q
  · have a1 := h.2.1 k q
    have a2 := h2.2.2 k (Nat.le_refl k) (by have := h.1; omega)
    omega
  · exact q
theorem hopen_le (j : Nat) : hopen j ≤ 18 := by
  unfold hopen
  omega
/-- how many triples have a pattern's numbers -/
def hMm (g : Nat → Nat → Nat) (cnt : Nat) (I : Nat → Nat) : Nat := hlbf (g (hview (hfx I (nI 0) 3))) cnt (hnk (hview (hfx I (nI 0) 3)) I 3 + 2 ^ hopen (hfx I (nI 0) 3)) - hlbf (g (hview (hfx I (nI 0) 3))) cnt (hnk (hview (hfx I (nI 0) 3)) I 3)
/-- how many numbers stand at a place in these -/
def hDd (g : Nat → Nat → Nat) (cnt : Nat) (I : Nat → Nat) (q : Nat) : Nat := hbc (hsn (fun i => hpn (hview (hfx I (nI 0) 3)) q (g (hview (hfx I (nI 0) 3)) i)) (hlbf (g (hview (hfx I (nI 0) 3))) cnt (hnk (hview (hfx I (nI 0) 3)) I 3)) (hMm g cnt I))
theorem hDd_le (g : Nat → Nat → Nat) (cnt : Nat) (I : Nat → Nat) (q : Nat) : hDd g cnt I q ≤ 127 := hbc_le _
theorem hMm_le (g : Nat → Nat → Nat) (cnt : Nat) (I : Nat → Nat) : hMm g cnt I ≤ cnt := Nat.le_trans (Nat.sub_le _ _) (hlbf_le _ _ _)

-- THE LIST OF PATTERNS: names 6 (the list), 7 (its array), 8 + 3 i (pattern i)
def hPl (K : Nat → ClassId) (ad : Nat → Nat) (ws : va_W) (np ms : Nat) : Prop := ws[6]? = some (ad 6, .inr (iL, [.ref (ad 7), .int (nI np), .int (nI ms)])) ∧ ∃ fq : Nat → Option Nat, ws[7]? = some (ad 7, .inl (K 3, 6, .inr (.inr (.inr (.inr fq))))) ∧ ∀ i, i < 6 → fq i = some (ad (8 + 3 * i))
def hPs (K : Nat → ClassId) (ad : Nat → Nat) (ws : va_W) (I dd : Nat → Nat → Nat) (mm : Nat → Nat) : Prop := ∀ i, i < 6 → hPt K ad ws (8 + 3 * i) (I i) (dd i) (mm i)
theorem hPl.ag {K : Nat → ClassId} {ad : Nat → Nat} {ws ws' : va_W} {lo hi np ms : Nat} (h : hPl K ad ws np ms) (hg : hAg lo hi ws ws') (hn : 7 < lo ∨ hi ≤ 6) : hPl K ad ws' np ms := by
  obtain ⟨h1, fq, h2, h3⟩ := h
  exact ⟨by rw [hg.2 6 (by omega)]; exact h1, fq, by rw [hg.2 7 (by omega)]; exact h2, h3⟩
theorem hPs.ag {K : Nat → ClassId} {ad : Nat → Nat} {ws ws' : va_W} {lo hi : Nat} {I dd : Nat → Nat → Nat} {mm : Nat → Nat} (h : hPs K ad ws I dd mm) (hg : hAg lo hi ws ws') (hn : 25 < lo ∨ hi ≤ 8) : hPs K ad ws' I dd mm := fun i hi6 => (h i hi6).ag hg (by omega)
/-- the variables of the first patterns, as a mask -/
def hVm (I : Nat → Nat → Nat) : Nat → Nat
  | 0 => 0
  | i + 1 => hVm I i ||| hvm (I i) 3

-- THE PLAN: the search that leaves what costs as much already, against all orders
def hMX : Nat := 1000000000000
def hsz (E : Nat → Nat → Nat) (x kn s : Nat) : Nat := min (s * E x kn) hMX
def hct (c s : Nat) : Nat := min (c + s) hMX
/-- the cost of going on by o -/
def hcst (E : Nat → Nat → Nat) (V : Nat → Nat) : List Nat → Nat → Nat → Nat → Nat
  | [], _, _, c => c
  | x :: o, kn, s, c => hcst E V o (kn ||| V x) (hsz E x kn s) (hct c (hsz E x kn s))
/-- all ways to go on from o by r patterns more, the least numbers first -/
def hcmp (np : Nat) : Nat → List Nat → List (List Nat)
  | 0, _ => [[]]
  | r + 1, o => (List.range np).flatMap (fun x => if x ∈ o then [] else (hcmp np r (o ++ [x])).map (x :: ·))
abbrev hTk (E : Nat → Nat → Nat) (V : Nat → Nat) (o : List Nat) (kn s c : Nat) (st : Nat × List Nat) (q : List Nat) : Nat × List Nat := if hcst E V q kn s c < st.1 then (hcst E V q kn s c, o ++ q) else st
/-- the search -/
def hSe (np : Nat) (E : Nat → Nat → Nat) (V : Nat → Nat) : Nat → List Nat → Nat → Nat → Nat → Nat × List Nat → Nat × List Nat
  | 0, o, _, _, c, _ => (c, o)
  | r + 1, o, kn, s, c, st => (List.range np).foldl (fun st x => if x ∈ o then st else if hct c (hsz E x kn s) < st.1 then hSe np E V r (o ++ [x]) (kn ||| V x) (hsz E x kn s) (hct c (hsz E x kn s)) st else st) st
theorem hcst_ge (E : Nat → Nat → Nat) (V : Nat → Nat) : ∀ (o : List Nat) (kn s c : Nat), c ≤ hMX → c ≤ hcst E V o kn s c ∧ hcst E V o kn s c ≤ hMX
  | [], _, _, c, h => ⟨Nat.le_refl c, h⟩
  | x :: o, kn, s, c, h => by
    have h1 : hct c (hsz E x kn s) ≤ hMX := Nat.min_le_right _ _
    have h2 : c ≤ hct c (hsz E x kn s) := Nat.le_min.mpr ⟨Nat.le_add_right _ _, h⟩
    have ih := hcst_ge E V o (kn ||| V x) (hsz E x kn s) (hct c (hsz E x kn s)) h1
    exact ⟨Nat.le_trans h2 ih.1, ih.2⟩
theorem hfold_keep {α β : Type} (f : α → β → α) (st : α) : ∀ (l : List β), (∀ q, q ∈ l → f st q = st) → l.foldl f st = st
  | [], _ => rfl
  | q :: l, h => by
    show l.foldl f (f st q) = st
    rw [h q List.mem_cons_self]
    exact hfold_keep f st l (fun q hq => h q (List.mem_cons_of_mem _ hq))
theorem hfold_flatMap {α β γ : Type} (f : α → β → α) (g : γ → List β) : ∀ (l : List γ) (st : α), (l.flatMap g).foldl f st = l.foldl (fun st x => (g x).foldl f st) st
  | [], _ => rfl
  | x :: l, st => by
    rw [List.flatMap_cons, List.foldl_append, hfold_flatMap f g l]
    rfl
theorem hfold_eq {α β : Type} {f g : α → β → α} {P : α → Prop} : ∀ (l : List β) (st : α), P st → (∀ st x, x ∈ l → P st → f st x = g st x ∧ P (g st x)) → l.foldl f st = l.foldl g st ∧ P (l.foldl g st)
  | [], st, h, _ => ⟨rfl, h⟩
  | x :: l, st, h, hs => by
    obtain ⟨h1, h2⟩ := hs st x List.mem_cons_self h
    show l.foldl f (f st x) = l.foldl g (g st x) ∧ P (l.foldl g (g st x))
    rw [h1]
    exact hfold_eq l (g st x) h2 (fun st x hx => hs st x (List.mem_cons_of_mem _ hx))
theorem hSe_fold (np : Nat) (E : Nat → Nat → Nat) (V : Nat → Nat) : ∀ (r : Nat) (o : List Nat) (kn s c : Nat) (st : Nat × List Nat), c ≤ hMX → c < st.1 → hSe np E V r o kn s c st = (hcmp np r o).foldl (hTk E V o kn s c) st
  | 0, o, kn, s, c, st, _, h => by
    show (c, o) = (if c < st.1 then (c, o ++ []) else st)
    rw [if_pos h, List.append_nil]
  | r + 1, o, kn, s, c, st, hc, h => by
    show (List.range np).foldl _ st = ((List.range np).flatMap _).foldl _ st
    rw [hfold_flatMap]
    refine (hfold_eq (P := fun _ => True) (List.range np) st trivial (fun st x _ _ => ⟨?_, trivial⟩)).1
    by_cases hx : x ∈ o
    · rw [if_pos hx, if_pos hx]
      rfl
    · rw [if_neg hx, if_neg hx, List.foldl_map]
      have hc' : hct c (hsz E x kn s) ≤ hMX := Nat.min_le_right _ _
      have e : ∀ (st : Nat × List Nat) (q : List Nat), hTk E V o kn s c st (x :: q) = hTk E V (o ++ [x]) (kn ||| V x) (hsz E x kn s) (hct c (hsz E x kn s)) st q := by
        intro st q
        show (if hcst E V q (kn ||| V x) (hsz E x kn s) (hct c (hsz E x kn s)) < st.1 then (hcst E V q (kn ||| V x) (hsz E x kn s) (hct c (hsz E x kn s)), o ++ (x :: q)) else st) = _
        rw [show o ++ x :: q = (o ++ [x]) ++ q by simp]
      simp only [e]
      by_cases hlt : hct c (hsz E x kn s) < st.1
      · rw [if_pos hlt]
        exact hSe_fold np E V r (o ++ [x]) (kn ||| V x) _ _ st hc' hlt
      · rw [if_neg hlt]
        refine (hfold_keep _ st _ (fun q _ => if_neg ?_)).symm
        have := (hcst_ge E V q (kn ||| V x) (hsz E x kn s) (hct c (hsz E x kn s)) hc').1
        omega
def hEs (I dd : Nat → Nat → Nat) (mm : Nat → Nat) : Nat → Nat → Nat := fun x kn => hes (I x) (dd x) (mm x) (nI kn)
def hVs (I : Nat → Nat → Nat) : Nat → Nat := fun x => hvm (I x) 3
/-- what the search stands on: the list, its patterns, the planner with its two orders -/
def hPG (K : Nat → ClassId) (ad : Nat → Nat) (ws : va_W) (np ms : Nat) (I dd : Nat → Nat → Nat) (mm : Nat → Nat) (rd : Nat) (o : List Nat) (st : Nat × List Nat) : Prop :=
  hPl K ad ws np ms ∧ hPs K ad ws I dd mm ∧ ws[28]? = some (ad 28, .inr (iN, [.ref (ad 29), .ref (ad 31), .long (lN st.1), .int (nI rd)])) ∧ hOrd K ad ws 29 o ∧ hOrd K ad ws 31 st.2
theorem hlcmp {a b : Nat} (ha : a < 2 ^ 63) (hb : b < 2 ^ 63) : 0 ≤ lg_cmp (lN a) (lN b) ↔ b ≤ a := by
  unfold lg_cmp
  by_cases h1 : b < a
  · rw [if_pos ((pk_lLT hb ha).mpr h1)]
    exact ⟨fun _ => Nat.le_of_lt h1, fun _ => by decide⟩
  · rw [if_neg (fun z => h1 ((pk_lLT hb ha).mp z))]
    by_cases h2 : a = b
    · subst h2
      rw [if_pos rfl]
      exact ⟨fun _ => Nat.le_refl _, fun _ => by decide⟩
    · rw [if_neg (fun z => h2 ((pk_lEQ ha hb).mp z))]
      exact ⟨fun z => absurd z (by decide), fun z => by omega⟩

-- GROWTH: what is made
theorem hRA {U : State} {cA cB : ClassId} {ty : FieldType} (h1 : va_RA U cA ty) (h2 : va_RA U cB ty) : cA = cB := by
  cases ty with
  | object C =>
    obtain ⟨_, _, _, _, _, e1⟩ := h1
    obtain ⟨_, _, _, _, _, e2⟩ := h2
    exact Option.some.inj (e1.symm.trans e2)
  | _ =>
    have e1 : U.vm.findClass _ = some cA := h1
    have e2 : U.vm.findClass _ = some cB := h2
    exact Option.some.inj (e1.symm.trans e2)
theorem hlast_at {ws : va_W} {x : Nat × va_E} : (ws ++ [x])[ws.length]? = some x := by
  rw [List.getElem?_append_right (Nat.le_refl _), Nat.sub_self]
  rfl
theorem hlastP {D : va_G} {cl : List vw_C} {ws : va_W} {x : Nat × va_E} {H : Heap} (h : va_P D cl (ws ++ [x]) H) : va_P D cl [x] H := fun k q hq => by
  have hz : k < 1 := (List.getElem?_eq_some_iff.mp hq).1
  rw [show k = 0 by omega] at hq
  cases hq
  exact h ws.length x hlast_at
theorem hlastD {A : Nat → Prop} {ws : va_W} {x : Nat × va_E} (h : va_D A (ws ++ [x])) : va_D A [x] := by
  refine ⟨fun i j p q hi hj _ => ?_, fun k q hq => ?_⟩
  · have z1 : i < 1 := (List.getElem?_eq_some_iff.mp hi).1
    have z2 : j < 1 := (List.getElem?_eq_some_iff.mp hj).1
    omega
  · have hz : k < 1 := (List.getElem?_eq_some_iff.mp hq).1
    rw [show k = 0 by omega] at hq
    cases hq
    exact h.2 ws.length x hlast_at
theorem hinit_at {ws l : va_W} {k : Nat} {q : Nat × va_E} (h : ws[k]? = some q) : (ws ++ l)[k]? = some q := by
  rw [List.getElem?_append_left (List.getElem?_eq_some_iff.mp h).1]
  exact h
section HN
variable {p : Program} {l : Launch} {e : Env} {R : Room} {s : State} {m : MethodId} {args : Array Value} {below : List Frame} {meth : Method} {c : Code} {H : Heap} {locs : List Loc} {cells slots : Nat} {Q : State → Prop}
variable {pc : Nat} {ls : Array Slot} {rest st0 : List Value} {a : Array Value} {A : Nat → Prop} {mc ms : Nat} {D : va_G} {tys : List (ClassId × FieldType)} {tv : Nat} {ws : va_W}
/-- the call of the constructor of the object that was made last -/
theorem hc_new {x : Nat × va_E} {post : va_W → Prop} (E : hE D tys tv A s) (hP : va_P D vwCl (ws ++ [x]) H) (hD : va_D A (ws ++ [x])) (hS : va_S A s.heap H locs) (hr : va_Run p l e R s m args below meth c H locs cells slots mc ms (F0 m pc ls st0) rest (va_Qv post (hB D [x] H.size) (va_A [x] H.size) a) (va_A [x] H.size))
    (kk : ∀ (ws1 : va_W) (H1 : Heap) (locs1 : List Loc), post ws1 → va_P D vwCl (ws ++ ws1) H1 → va_D A (ws ++ ws1) → va_S A s.heap H1 locs1 → W p l e R s m args below meth c H1 locs1 (cells + mc) (slots + ms) Q (F0 m (pc + 3) ls rest)) : W p l e R s m args below meth c H locs cells slots Q (F0 m pc ls st0) := by
  have hf := hfree (hlastD hD) hS E.2.2
  have apart : ∀ (k : Nat) (q : Nat × va_E), ws[k]? = some q → q.1 < H.size ∧ ¬ va_A [x] H.size q.1 := by
    intro k q hq
    have hl := (hP k q (hinit_at hq)).lt
    refine ⟨hl, fun h => ?_⟩
    rcases h with ⟨k2, e2, h⟩ | h
    · have hz : k2 < 1 := (List.getElem?_eq_some_iff.mp h).1
      rw [show k2 = 0 by omega] at h
      have h0 : x = (q.1, e2) := Option.some.inj h
      have hij := hD.1 k ws.length q x (hinit_at hq) hlast_at (by rw [h0])
      have := (List.getElem?_eq_some_iff.mp hq).1
      omega
    · omega
  refine va_callv hr hS (fun q _ h => hf q h) hf (fun u t H1 locs1 ht _ hp hB1 _ hk1 hS1 => kk u H1 locs1 hp (va_P.app (fun k q hq => ?_) (by rw [← ht]; exact hB1.1)) (va_D.app ⟨fun i j y z hi hj hyz => hD.1 i j y z (hinit_at hi) (hinit_at hj) hyz, fun k q hq => hD.2 k q (hinit_at hq)⟩ (hB1.2.weaken (fun _ _ _ h => hf _ h)) (fun i j y z hi hj hyz => ?_)) hS1)
  · obtain ⟨g1, g2⟩ := apart k q hq
    exact (hP k q (hinit_at hq)).kept (hk1 q.1 g1 g2)
  · exact (apart i y hi).2 (by rw [hyz]; exact hB1.2.2 j z hj)
end HN
-- THE STATE AT ITS START
abbrev hJc (ad : Nat → Nat) (fd : Int32) : Nat × va_E := (ad 0, .inr (iJ, [.ref (ad 1), .ref (ad 6), .ref (ad 26), .ref (ad 28), .ref (ad 33), .int fd]))
abbrev hNc (ad : Nat → Nat) (lc rd : Nat) : Nat × va_E := (ad 28, .inr (iN, [.ref (ad 29), .ref (ad 31), .long (lN lc), .int (nI rd)]))
abbrev hKc (ad : Nat → Nat) (ln tt co : Nat) : Nat × va_E := (ad 33, .inr (iN2, [.ref (ad 34), .ref (ad 35), .int (nI ln), .int (nI tt), .int (nI co)]))
def hSp (K : Nat → ClassId) (ad : Nat → Nat) (ws : va_W) (n : Nat) : Prop := ∃ (f g h : Nat → Int32), ws[n]? = some (ad n, .inr (iS, [.ref (ad (n + 1)), .ref (ad (n + 2)), .ref (ad (n + 3)), .int 0, .int 0, .int 0, .int 0])) ∧ ws[n + 1]? = some (ad (n + 1), .inl (K 0, 640, .inl f)) ∧ ws[n + 2]? = some (ad (n + 2), .inl (K 0, 3, .inl g)) ∧ ws[n + 3]? = some (ad (n + 3), .inl (K 0, 3, .inl h))
def hSt0 (K : Nat → ClassId) (ad : Nat → Nat) (ws : va_W) : Prop :=
  ws[0]? = some (hJc ad (-4)) ∧ hTr K ad ws (fun _ _ => 0) 0 ∧ hPl K ad ws 0 0 ∧ hPs K ad ws (fun _ _ => 0) (fun _ _ => 0) (fun _ => 0) ∧ hOrd K ad ws 26 [] ∧ ws[28]? = some (hNc ad 0 0) ∧ hOrd K ad ws 29 [] ∧ hOrd K ad ws 31 [] ∧
  ws[33]? = some (hKc ad 0 0 0) ∧ (∃ fq : Nat → Option Nat, ws[34]? = some (ad 34, .inl (K 4, 6, .inr (.inr (.inr (.inr fq))))) ∧ ∀ i, i < 6 → fq i = some (ad (38 + 4 * i))) ∧
  ws[35]? = some (ad 35, .inr (iU, [.ref (ad 36), .ref (ad 37), .int 0])) ∧ ws[36]? = some (ad 36, .inl (K 1, 64, .inr (.inl (fun _ => 0)))) ∧ ws[37]? = some (ad 37, .inl (K 1, 64, .inr (.inl (fun _ => 0)))) ∧ ∀ i, i < 6 → hSp K ad ws (38 + 4 * i)

-- TWO WORLDS: the class's and the reference's, apart
def hApart (wa wb : va_W) : Prop := ∀ (i j : Nat) (x y : Nat × va_E), wa[i]? = some x → wb[j]? = some y → x.1 ≠ y.1
theorem hApart.symm {wa wb : va_W} (h : hApart wa wb) : hApart wb wa := fun i j x y hx hy e => h j i y x hy hx e.symm
theorem hApart.out {D : va_G} {cl : List vw_C} {wa wb : va_W} {H : Heap} (h : hApart wa wb) (hP : va_P D cl wb H) {k : Nat} {q : Nat × va_E} (hq : wb[k]? = some q) : ¬ va_A wa H.size q.1 := by
  rintro (⟨i, e, hi⟩ | hi)
  · exact h i k (q.1, e) q hi hq rfl
  · have := (hP k q hq).lt
    omega
theorem hApart.kept {D : va_G} {cl : List vw_C} {wa wb : va_W} {H H1 : Heap} (h : hApart wa wb) (hP : va_P D cl wb H) (hk : ∀ q : Nat, q < H.size → ¬ va_A wa H.size q → H1[q]? = H[q]?) : va_P D cl wb H1 := fun k q hq => (hP k q hq).kept (hk q.1 (hP k q hq).lt (h.out hP hq))
theorem hApart.next {D : va_G} {cl : List vw_C} {wa wb w1 : va_W} {H : Heap} (h : hApart wa wb) (hP : va_P D cl wb H) (hD : va_D (va_A wa H.size) w1) : hApart w1 wb := fun i j x y hx hy e => h.out hP hy (by rw [← e]; exact hD.2 i x hx)
section HT
variable {p : Program} {l : Launch} {e : Env} {R : Room} {s : State} {m : MethodId} {args : Array Value} {below : List Frame} {meth : Method} {c : Code} {H : Heap} {locs : List Loc} {cells slots : Nat} {Q : State → Prop}
variable {pc : Nat} {ls : Array Slot} {rest st0 : List Value} {a : Array Value} {A : Nat → Prop} {mc ms : Nat} {D : va_G} {tys : List (ClassId × FieldType)} {tv : Nat} {wa wb : va_W}
theorem hf_i {post : Int32 → va_W → Prop} (E : hE D tys tv A s) (hD : va_D A wa) (hPb : va_P D vwCl wb H) (hap : hApart wa wb) (hS : va_S A s.heap H locs) (hr : va_Run p l e R s m args below meth c H locs cells slots mc ms (F0 m pc ls st0) rest (va_Qi post (hB D wa H.size) (va_A wa H.size) a) (va_A wa H.size))
    (kk : ∀ (r : Int32) (w1 : va_W) (H1 : Heap) (locs1 : List Loc), post r w1 → va_P D vwCl w1 H1 → va_D A w1 → va_P D vwCl wb H1 → hApart w1 wb → va_S A s.heap H1 locs1 → W p l e R s m args below meth c H1 locs1 (cells + mc) (slots + ms) Q (F0 m (pc + 3) ls (.int r :: rest))) : W p l e R s m args below meth c H locs cells slots Q (F0 m pc ls st0) :=
  va_calli hr hS (fun q _ h => hfree hD hS E.2.2 q h) (hfree hD hS E.2.2) (fun r u _ H1 locs1 ht _ hp hB1 _ hk1 hS1 => kk r u H1 locs1 hp (by rw [← ht]; exact hB1.1) (hB1.2.weaken (fun _ _ _ h => hfree hD hS E.2.2 _ h)) (hap.kept hPb hk1) (hap.next hPb hB1.2) hS1)
theorem hf_l {post : Int64 → va_W → Prop} (E : hE D tys tv A s) (hD : va_D A wa) (hPb : va_P D vwCl wb H) (hap : hApart wa wb) (hS : va_S A s.heap H locs) (hr : va_Run p l e R s m args below meth c H locs cells slots mc ms (F0 m pc ls st0) rest (va_Ql post (hB D wa H.size) (va_A wa H.size) a) (va_A wa H.size))
    (kk : ∀ (r : Int64) (w1 : va_W) (H1 : Heap) (locs1 : List Loc), post r w1 → va_P D vwCl w1 H1 → va_D A w1 → va_P D vwCl wb H1 → hApart w1 wb → va_S A s.heap H1 locs1 → W p l e R s m args below meth c H1 locs1 (cells + mc) (slots + ms) Q (F0 m (pc + 3) ls (.long r :: rest))) : W p l e R s m args below meth c H locs cells slots Q (F0 m pc ls st0) :=
  va_calll hr hS (fun q _ h => hfree hD hS E.2.2 q h) (hfree hD hS E.2.2) (fun r u _ H1 locs1 ht _ hp hB1 _ hk1 hS1 => kk r u H1 locs1 hp (by rw [← ht]; exact hB1.1) (hB1.2.weaken (fun _ _ _ h => hfree hD hS E.2.2 _ h)) (hap.kept hPb hk1) (hap.next hPb hB1.2) hS1)
end HT
/-- a world that is there already, and an object that is made beside it -/
theorem hApart.push {D : va_G} {cl : List vw_C} {wa : va_W} {H : Heap} {x : Nat × va_E} (hP : va_P D cl wa H) (hx : H.size ≤ x.1) : hApart wa [x] := fun i j y z hy hz e => by
  have hj : j < 1 := (List.getElem?_eq_some_iff.mp hz).1
  rw [show j = 0 by omega] at hz
  cases hz
  have := (hP i y hy).lt
  omega
