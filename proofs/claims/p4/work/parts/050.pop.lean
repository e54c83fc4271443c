-- HOW MANY BITS, as Long.bitCount computes it
/-- how many of the low n bits of x are set -/
def hpc : Nat → Nat → Nat
  | 0, _ => 0
  | n + 1, x => x % 2 + hpc n (x / 2)
def hb1 (n : Nat) : Nat := n - (n / 2 ^ 1 &&& 6148914691236517205)
def hb2 (n : Nat) : Nat := (hb1 n &&& 3689348814741910323) + (hb1 n / 2 ^ 2 &&& 3689348814741910323)
def hb3 (n : Nat) : Nat := (hb2 n + hb2 n / 2 ^ 4) &&& 1085102592571150095
def hbc (n : Nat) : Nat := (hb3 n + hb3 n / 256 + (hb3 n + hb3 n / 256) / 65536 + (hb3 n + hb3 n / 256 + (hb3 n + hb3 n / 256) / 65536) / 4294967296) % 128
theorem hb1_sub (n : Nat) : (n / 2 ^ 1 &&& 6148914691236517205) ≤ n := Nat.le_trans Nat.and_le_left (Nat.div_le_self _ _)
theorem hb1_le (n : Nat) : hb1 n ≤ n := Nat.sub_le _ _
theorem hb2_le (n : Nat) : hb2 n ≤ 7378697629483820646 := by
  have h1 := Nat.and_le_right (n := hb1 n) (m := 3689348814741910323)
  have h2 := Nat.and_le_right (n := hb1 n / 2 ^ 2) (m := 3689348814741910323)
  unfold hb2
  omega
theorem hb3_le (n : Nat) : hb3 n ≤ 1085102592571150095 := Nat.and_le_right
theorem hbc_le (n : Nat) : hbc n ≤ 127 := Nat.le_of_lt_succ (Nat.mod_lt _ (by decide))
