/-! what the class's small methods answer, as the bytecode has it -/
def tu_win (i lo hi : Int32) : Int32 := if i < lo then 0 else if hi < i then 0 else 1
def tu_cut (i lo hi : Int32) : Int32 := if lo < (if i < hi then i else hi) then (if i < hi then i else hi) else lo
def tu_mir (i n : Int32) : Int32 := if n ≤ (i &&& (2 * n - 1)) then 2 * n - 1 - (i &&& (2 * n - 1)) else i &&& (2 * n - 1)
def tu_wrap (w i n : Int32) : Int32 := if w = 0 then i &&& (n - 1) else if w = 1 then tu_cut i 0 (n - 1) else if w = 2 then tu_mir i n else if tu_win i 0 (n - 1) = 0 then -1 else i
def tu_mix (p q f : Int32) : Int32 := (p.toInt64 + (((q.toInt64 - p.toInt64) * f.toInt64) >>> ((16 : Int32).toInt64 &&& 63))).toInt32
def tu_whole (x : Int64) : Int32 := (x >>> ((16 : Int32).toInt64 &&& 63)).toInt32
def tu_rest (x : Int64) : Int32 := (x &&& 65535).toInt32
def tu_len (g k : Int32) : Int32 := if g ≤ k then 1 else 1 <<< ((g - k) &&& 31)
def tu_num (st : Nat → Int32) (lw k x y : Int32) : Int32 := st k.toNatClampNeg + y * tu_len lw k + x
def tu_word (mem : Nat → Int32) (k : Int64) : Int32 := if lg_cmp k 0 < 0 then 0 else if lg_cmp k 2048 < 0 then mem k.toInt32.toNatClampNeg else 0
def tu_TB (k : Nat) : Int32 := ([32, 16, 16, 16, 8, 8, 16, 4] : List Int32).getD k 0
def tu_CB (k : Nat) : Int32 := ([8, 8, 8, 8, 5, 6, 5, 0, 4, 4, 4, 4, 5, 5, 5, 1, 8, 8, 8, 0, 0, 0, 0, 8, 8, 8, 8, 8, 4, 4, 4, 0] : List Int32).getD k 0
def tu_CS (k : Nat) : Int32 := ([0, 8, 16, 24, 0, 5, 11, 0, 0, 4, 8, 12, 0, 5, 10, 15, 0, 0, 0, 0, 0, 0, 0, 0, 0, 0, 0, 8, 0, 0, 0, 0] : List Int32).getD k 0
def tu_most (fo ch : Int32) : Int32 := 1 <<< (tu_CB (fo * 4 + ch).toNatClampNeg &&& 31) - 1
def tu_bit (st : Nat → Int32) (fo lw k x y : Int32) : Int64 := (tu_num st lw k x y).toInt64 * (tu_TB fo.toNatClampNeg).toInt64
def tu_stored (mem st : Nat → Int32) (fr fo lw k x y ch : Int32) : Int32 :=
  if tu_most fo ch = 0 then (if ch = 3 then 65536 else 0)
  else ((((tu_word mem (fr.toInt64 + (tu_bit st fo lw k x y >>> ((5 : Int32).toInt64 &&& 63)))).toUInt32 >>> (((tu_bit st fo lw k x y &&& 31).toInt32 + tu_CS (fo * 4 + ch).toNatClampNeg).toUInt32 &&& Int32.toUInt32 31)).toInt32 &&& tu_most fo ch) * 65536 + (tu_most fo ch >>> ((1 : Int32) &&& 31))) / tu_most fo ch
def tu_sob (mem st bd : Nat → Int32) (fr fo lw k x y ch : Int32) : Int32 := if x = -1 then bd ch.toNatClampNeg else if y = -1 then bd ch.toNatClampNeg else tu_stored mem st fr fo lw k x y ch
theorem tu_wordin {k : Int64} (h1 : ¬ lg_cmp k 0 < 0) (h2 : lg_cmp k 2048 < 0) : vp_in k.toInt32 2048 := by
  have a1 : ¬ k < 0 := fun h => h1 ((lg_cmp_lt _ _).mpr h)
  have a2 : k < 2048 := (lg_cmp_lt _ _).mp h2
  rw [Int64.lt_iff_toInt_lt] at a1 a2
  have b1 : (0 : Int64).toInt = 0 := by decide
  have b2 : (2048 : Int64).toInt = 2048 := by decide
  rw [b1] at a1
  rw [b2] at a2
  rw [vp_in_iff, Int64.toInt_toInt32]
  have : k.toInt.bmod (2 ^ 32) = k.toInt := by
    rw [Int.bmod_eq_of_le] <;> omega
  rw [this]
  omega
