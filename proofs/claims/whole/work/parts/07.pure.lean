/-! what the class's small methods answer, as the bytecode has it -/
def tu_win (i lo hi : Int32) : Int32 := if i < lo then 0 else if hi < i then 0 else 1
def tu_cut (i lo hi : Int32) : Int32 := if lo < (if i < hi then i else hi) then (if i < hi then i else hi) else lo
def tu_mir (i n : Int32) : Int32 := if n ≤ (i &&& (2 * n - 1)) then 2 * n - 1 - (i &&& (2 * n - 1)) else i &&& (2 * n - 1)
def tu_wrap (w i n : Int32) : Int32 := if w = 0 then i &&& (n - 1) else if w = 1 then tu_cut i 0 (n - 1) else if w = 2 then tu_mir i n else if tu_win i 0 (n - 1) = 0 then -1 else i
def tu_mix (p q f : Int32) : Int32 := (p.toInt64 + (((q.toInt64 - p.toInt64) * f.toInt64) >>> ((16 : Int32).toInt64 &&& 63))).toInt32
def tu_whole (x : Int64) : Int32 := (x >>> ((16 : Int32).toInt64 &&& 63)).toInt32
def tu_rest (x : Int64) : Int32 := (x &&& 65535).toInt32
def tu_len (g k : Int32) : Int32 := if g ≤ k then 1 else 1 <<< ((g - k) &&& 31)
def tu_num (st : Nat → Int32) (lw k x y : Int32) : Int32 := st k.toNatClampNeg + y * tu_len lw k + x
def tu_word (mem : Nat → Int32) (k : Int64) : Int32 := if lg_cmp k 0 < 0 then 0 else if lg_cmp k 2048 < 0 then mem k.toInt32.toNatClampNeg else 0
def tu_TB (k : Nat) : Int32 := ([32, 16, 16, 16, 8, 8, 16, 4] : List Int32).getD k 0
def tu_CB (k : Nat) : Int32 := ([8, 8, 8, 8, 5, 6, 5, 0, 4, 4, 4, 4, 5, 5, 5, 1, 8, 8, 8, 0, 0, 0, 0, 8, 8, 8, 8, 8, 4, 4, 4, 0] : List Int32).getD k 0
def tu_CS (k : Nat) : Int32 := ([0, 8, 16, 24, 0, 5, 11, 0, 0, 4, 8, 12, 0, 5, 10, 15, 0, 0, 0, 0, 0, 0, 0, 0, 0, 0, 0, 8, 0, 0, 0, 0] : List Int32).getD k 0
def tu_most (fo ch : Int32) : Int32 := 1 <<< (tu_CB (fo * 4 + ch).toNatClampNeg &&& 31) - 1
def tu_bit (st : Nat → Int32) (fo lw k x y : Int32) : Int64 := (tu_num st lw k x y).toInt64 * (tu_TB fo.toNatClampNeg).toInt64
def tu_stored (mem st : Nat → Int32) (fr fo lw k x y ch : Int32) : Int32 :=
  if tu_most fo ch = 0 then (if ch = 3 then 65536 else 0)
  else ((((tu_word mem (fr.toInt64 + (tu_bit st fo lw k x y >>> ((5 : Int32).toInt64 &&& 63)))).toUInt32 >>> (((tu_bit st fo lw k x y &&& 31).toInt32 + tu_CS (fo * 4 + ch).toNatClampNeg).toUInt32 &&& Int32.toUInt32 31)).toInt32 &&& tu_most fo ch) * 65536 + (tu_most fo ch >>> ((1 : Int32) &&& 31))) / tu_most fo ch
def tu_sob (mem st bd : Nat → Int32) (fr fo lw k x y ch : Int32) : Int32 := if x = -1 then bd ch.toNatClampNeg else if y = -1 then bd ch.toNatClampNeg else tu_stored mem st fr fo lw k x y ch
theorem tu_wordin {k : Int64} (h1 : ¬ lg_cmp k 0 < 0) (h2 : lg_cmp k 2048 < 0) : vp_in k.toInt32 2048 := by
  have a1 : ¬ k < 0 := fun h => h1 ((lg_cmp_lt _ _).mpr h)
  have a2 : k < 2048 := (lg_cmp_lt _ _).mp h2
  rw [Int64.lt_iff_toInt_lt] at a1 a2
  have b1 : (0 : Int64).toInt = 0 := by decide
  have b2 : (2048 : Int64).toInt = 2048 := by decide
  rw [b1] at a1
  rw [b2] at a2
  rw [vp_in_iff, Int64.toInt_toInt32]
  have : k.toInt.bmod (2 ^ 32) = k.toInt := by
    rw [Int.bmod_eq_of_le] <;> omega
  rw [this]
  omega
def tu_put4 (f : Nat → Int32) (a b c d : Int32) : Nat → Int32 := upd (upd (upd (upd f 0 a) 1 b) 2 c) 3 d
/-- one texel: its place in one direction -/
def tu_x1 (w g k s : Int32) : Int32 := tu_wrap w (tu_whole (s.toInt64 * (tu_len g k).toInt64)) (tu_len g k)
def tu_one (mem sf bd : Nat → Int32) (fr fo lw lh ac dn k s t c : Int32) : Int32 := tu_sob mem sf bd fr fo lw k (tu_x1 ac lw k s) (tu_x1 dn lh k t) c
def tu_U (g k s : Int32) : Int64 := s.toInt64 * (tu_len g k).toInt64 - 32768
def tu_xa (w g k s : Int32) : Int32 := tu_wrap w (tu_whole (tu_U g k s)) (tu_len g k)
def tu_xb (w g k s : Int32) : Int32 := tu_wrap w (tu_whole (tu_U g k s) + 1) (tu_len g k)
def tu_four (mem sf bd : Nat → Int32) (fr fo lw lh ac dn k s t c : Int32) : Int32 :=
  tu_mix (tu_mix (tu_sob mem sf bd fr fo lw k (tu_xa ac lw k s) (tu_xa dn lh k t) c) (tu_sob mem sf bd fr fo lw k (tu_xb ac lw k s) (tu_xa dn lh k t) c) (tu_rest (tu_U lw k s)))
    (tu_mix (tu_sob mem sf bd fr fo lw k (tu_xa ac lw k s) (tu_xb dn lh k t) c) (tu_sob mem sf bd fr fo lw k (tu_xb ac lw k s) (tu_xb dn lh k t) c) (tu_rest (tu_U lw k s))) (tu_rest (tu_U lh k t))
def tu_smp (mem sf bd : Nat → Int32) (fr fo lw lh ac dn fi k s t c : Int32) : Int32 :=
  if fi = 1 then tu_four mem sf bd fr fo lw lh ac dn k s t c else if fi = 3 then tu_four mem sf bd fr fo lw lh ac dn k s t c else tu_one mem sf bd fr fo lw lh ac dn k s t c
def tu_smp4 (mem sf bd : Nat → Int32) (fr fo lw lh ac dn fi k s t : Int32) (f : Nat → Int32) : Nat → Int32 :=
  tu_put4 f (tu_smp mem sf bd fr fo lw lh ac dn fi k s t 0) (tu_smp mem sf bd fr fo lw lh ac dn fi k s t 1) (tu_smp mem sf bd fr fo lw lh ac dn fi k s t 2) (tu_smp mem sf bd fr fo lw lh ac dn fi k s t 3)
theorem tu_smp4_f {mem sf bd : Nat → Int32} {fr fo lw lh ac dn fi k s t : Int32} {f : Nat → Int32} (h : fi = 1 ∨ fi = 3) : tu_smp4 mem sf bd fr fo lw lh ac dn fi k s t f = tu_put4 f (tu_four mem sf bd fr fo lw lh ac dn k s t 0) (tu_four mem sf bd fr fo lw lh ac dn k s t 1) (tu_four mem sf bd fr fo lw lh ac dn k s t 2) (tu_four mem sf bd fr fo lw lh ac dn k s t 3) := by
  unfold tu_smp4 tu_smp
  rcases h with rfl | rfl <;> simp
theorem tu_smp4_o {mem sf bd : Nat → Int32} {fr fo lw lh ac dn fi k s t : Int32} {f : Nat → Int32} (h1 : ¬ fi = 1) (h3 : ¬ fi = 3) : tu_smp4 mem sf bd fr fo lw lh ac dn fi k s t f = tu_put4 f (tu_one mem sf bd fr fo lw lh ac dn k s t 0) (tu_one mem sf bd fr fo lw lh ac dn k s t 1) (tu_one mem sf bd fr fo lw lh ac dn k s t 2) (tu_one mem sf bd fr fo lw lh ac dn k s t 3) := by
  unfold tu_smp4 tu_smp
  simp [h1, h3]
/-- the texels ahead of each level -/
def tu_lay (a b : Int32) (f : Nat → Int32) : Nat → (Nat → Int32)
  | 0 => f
  | k + 1 => upd (tu_lay a b f k) (k + 1) (tu_lay a b f k k + tu_len a (nI k) * tu_len b (nI k))
theorem tu_lay_s (a b : Int32) (f : Nat → Int32) {k : Nat} (hk : k < 11) : upd (tu_lay a b f k) (nI k + 1).toNatClampNeg (tu_lay a b f k (nI k).toNatClampNeg + tu_len a (nI k) * tu_len b (nI k)) = tu_lay a b f (k + 1) := by
  rw [nI_1, nI_clamp (by omega), nI_clamp (by omega)]
  rfl
theorem tu_loop {W9 : Heap → List Loc → Array Slot → Prop} (I : Nat → Heap → List Loc → Array Slot → Prop) (N : Nat) (hend : ∀ H locs ls, I N H locs ls → W9 H locs ls)
    (hstep : ∀ k H locs ls, k < N → I k H locs ls → (∀ H locs ls, I (k + 1) H locs ls → W9 H locs ls) → W9 H locs ls) : ∀ H locs ls, I 0 H locs ls → W9 H locs ls := by
  have key : ∀ (n k : Nat), k + n = N → ∀ H locs ls, I k H locs ls → W9 H locs ls := by
    intro n
    induction n with
    | zero =>
      intro k hk H locs ls h
      have : k = N := by omega
      subst this
      exact hend H locs ls h
    | succ n ih =>
      intro k hk H locs ls h
      exact hstep k H locs ls (by omega) h (ih (k + 1) (by omega))
  exact key N 0 (by omega)
theorem tu_cA {D : va_G} {cl : List vw_C} {tys : List (ClassId × FieldType)} {s : State} (hK : va_K D cl tys s) (i j : Nat) {a b : ClassId} (h1 : tys[i]? = some (a, .int)) (h2 : tys[j]? = some (b, .int)) : a = b := by
  have x := (hK.2 i _ h1).2
  have y := (hK.2 j _ h2).2
  exact Option.some.inj (Eq.trans (Eq.symm x) y)
theorem tu_win_iff {i lo hi : Int32} : ¬ tu_win i lo hi = 0 ↔ ¬ i < lo ∧ ¬ hi < i := by
  unfold tu_win
  by_cases h1 : i < lo
  · simp [h1]
  · by_cases h2 : hi < i
    · simp [h1, h2]
    · simp [h1, h2]
theorem tu_win_in {i hi : Int32} {n : Nat} (h : ¬ tu_win i 0 hi = 0) (hn : hi.toInt + 1 = n) : vp_in i n := by
  obtain ⟨h1, h2⟩ := tu_win_iff.mp h
  rw [vp_in_iff]
  rw [Int32.lt_iff_toInt_lt] at h1 h2
  rw [Int32.toInt_zero] at h1
  omega
def tu_mix4 (a b : Nat → Int32) (f : Int32) : Nat → Int32 := tu_put4 a (tu_mix (a 0) (b 0) f) (tu_mix (a 1) (b 1) f) (tu_mix (a 2) (b 2) f) (tu_mix (a 3) (b 3) f)
def tu_lod (lv l : Int32) : Int32 := tu_cut l 0 ((lv - 1) <<< ((16 : Int32) &&& 31))
def tu_lev (lv l : Int32) : Int32 := tu_lod lv l >>> ((16 : Int32) &&& 31)
/-- what latest and nextLevel hold behind a reading -/
def tu_rd (mem sf bd : Nat → Int32) (fr fo lw lh lv ac dn fi s t l : Int32) (la nx : Nat → Int32) : Nat → Int32 :=
  if fi = 2 ∨ fi = 3 then (if lv ≤ tu_lev lv l + 1 then tu_smp4 mem sf bd fr fo lw lh ac dn fi (tu_lev lv l) s t la
    else tu_mix4 (tu_smp4 mem sf bd fr fo lw lh ac dn fi (tu_lev lv l) s t la) (tu_smp4 mem sf bd fr fo lw lh ac dn fi (tu_lev lv l + 1) s t nx) (tu_lod lv l &&& 65535))
  else tu_smp4 mem sf bd fr fo lw lh ac dn fi (tu_lev lv l) s t la
def tu_rn (mem sf bd : Nat → Int32) (fr fo lw lh lv ac dn fi s t l : Int32) (nx : Nat → Int32) : Nat → Int32 :=
  if fi = 2 ∨ fi = 3 then (if lv ≤ tu_lev lv l + 1 then nx else tu_smp4 mem sf bd fr fo lw lh ac dn fi (tu_lev lv l + 1) s t nx) else nx
section TRD
variable {mem sf bd : Nat → Int32} {fr fo lw lh lv ac dn fi s t l : Int32} {la nx : Nat → Int32}
theorem tu_rd_a (h : fi = 2 ∨ fi = 3) (h2 : ¬ lv ≤ tu_lev lv l + 1) : tu_rd mem sf bd fr fo lw lh lv ac dn fi s t l la nx = tu_mix4 (tu_smp4 mem sf bd fr fo lw lh ac dn fi (tu_lev lv l) s t la) (tu_smp4 mem sf bd fr fo lw lh ac dn fi (tu_lev lv l + 1) s t nx) (tu_lod lv l &&& 65535) := by unfold tu_rd; rw [if_pos h, if_neg h2]
theorem tu_rd_b (h : fi = 2 ∨ fi = 3) (h2 : lv ≤ tu_lev lv l + 1) : tu_rd mem sf bd fr fo lw lh lv ac dn fi s t l la nx = tu_smp4 mem sf bd fr fo lw lh ac dn fi (tu_lev lv l) s t la := by unfold tu_rd; rw [if_pos h, if_pos h2]
theorem tu_rd_c (h1 : ¬ fi = 2) (h2 : ¬ fi = 3) : tu_rd mem sf bd fr fo lw lh lv ac dn fi s t l la nx = tu_smp4 mem sf bd fr fo lw lh ac dn fi (tu_lev lv l) s t la := by unfold tu_rd; rw [if_neg (fun h => h.elim h1 h2)]
theorem tu_rn_a (h : fi = 2 ∨ fi = 3) (h2 : ¬ lv ≤ tu_lev lv l + 1) : tu_rn mem sf bd fr fo lw lh lv ac dn fi s t l nx = tu_smp4 mem sf bd fr fo lw lh ac dn fi (tu_lev lv l + 1) s t nx := by unfold tu_rn; rw [if_pos h, if_neg h2]
theorem tu_rn_b (h : fi = 2 ∨ fi = 3) (h2 : lv ≤ tu_lev lv l + 1) : tu_rn mem sf bd fr fo lw lh lv ac dn fi s t l nx = nx := by unfold tu_rn; rw [if_pos h, if_pos h2]
theorem tu_rn_c (h1 : ¬ fi = 2) (h2 : ¬ fi = 3) : tu_rn mem sf bd fr fo lw lh lv ac dn fi s t l nx = nx := by unfold tu_rn; rw [if_neg (fun h => h.elim h1 h2)]
end TRD
