/-! what the reference's small methods answer, as the bytecode has it -/
theorem tu_loop1 {W9 : Array Slot → Prop} (I : Nat → Array Slot → Prop) (N : Nat) (hend : ∀ ls, I N ls → W9 ls)
    (hstep : ∀ k ls, k < N → I k ls → (∀ ls, I (k + 1) ls → W9 ls) → W9 ls) : ∀ ls, I 0 ls → W9 ls := by
  have key : ∀ (n k : Nat), k + n = N → ∀ ls, I k ls → W9 ls := by
    intro n
    induction n with
    | zero =>
      intro k hk ls h
      have : k = N := by omega
      subst this
      exact hend ls h
    | succ n ih =>
      intro k hk ls h
      exact hstep k ls (by omega) h (ih (k + 1) (by omega))
  exact key N 0 (by omega)
def md_e (g k : Int32) : Int32 := if 0 ≤ g - k then g - k else 0
def md_len (g k : Int32) : Int32 := 1 <<< (md_e g k &&& 31)
def md_ah (a b : Int32) : Nat → Int32
  | 0 => 0
  | n + 1 => md_ah a b n + md_len a (nI n) * md_len b (nI n)
def md_m (i n way : Int32) : Int32 := if way = 2 then 2 * n else n
def md_j (i m : Int32) : Int32 := (i - i / m * m + m) - (i - i / m * m + m) / m * m
def md_wrap (i n way : Int32) : Int32 :=
  if way = 0 then md_j i (md_m i n way) else if way = 1 then (if 0 ≤ i then (if i < n then i else n - 1) else 0)
  else if way = 2 then (if n ≤ md_j i (md_m i n way) then 2 * n - 1 - md_j i (md_m i n way) else md_j i (md_m i n way))
  else if i < 0 then -1 else if n ≤ i then -1 else i
def md_bit (mem : Nat → Int32) (a n : Nat) : Int32 := if a + n / 32 < 2048 then (mem (a + n / 32) >>> (nI (n % 32) &&& 31)) &&& 1 else 0
theorem md_w {a n : Nat} (ha : a < 2 ^ 31) (hn : n < 2 ^ 40) : (nI a).toInt64 + lN n / 32 = lN (a + n / 32) := by
  rw [nI_l ha, show (32 : Int64) = lN 32 from rfl, pk_lDiv (by omega) (by decide) (by decide), lN_add]
theorem md_r {n : Nat} (hn : n < 2 ^ 40) : (lN n - lN n / 32 * 32).toInt32 = nI (n % 32) := by
  rw [show (32 : Int64) = lN 32 from rfl, pk_lRem (by omega) (by decide) (by decide), lN_i]
theorem md_c {w : Nat} (hw : w < 2 ^ 41) : (0 ≤ lg_cmp (lN w) 2048) ↔ 2048 ≤ w := by
  rw [lg_cmp_ge, show (2048 : Int64) = lN 2048 from rfl, pk_lLE (by decide) (by omega)]
/-- the bits of a channel, the highest first: j of sz are in -/
def md_v (mem : Nat → Int32) (a base sz : Nat) : Nat → Int32
  | 0 => 0
  | j + 1 => 2 * md_v mem a base sz j + md_bit mem a (base + (sz - 1 - j))
