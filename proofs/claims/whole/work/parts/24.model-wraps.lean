/-! the reference's wraps -/
theorem i32_bmod {z : Int} (h1 : -2147483648 ≤ z) (h2 : z < 2147483648) : z.bmod (2 ^ 32) = z := by
  rw [Int.bmod_eq_of_le] <;> omega
theorem md_tmod_gt {z : Int} {M : Nat} (h : 0 < M) : -(M : Int) < z.tmod M := by
  have h5 : -(z.tmod M) = (-z).tmod M := (Int.neg_tmod ..).symm
  have := Int.tmod_lt_of_pos (-z) (show (0 : Int) < M by omega)
  omega
theorem md_irem {i : Int32} {M : Nat} (h0 : 0 < M) (hM : M < 2147483648) : (i - i / nI M * nI M).toInt = i.toInt.tmod M := by
  have hm : (nI M).toInt = (M : Int) := nI_toInt (by omega)
  have b1 : -2147483648 ≤ i.toInt := Int32.le_toInt i
  have b2 : i.toInt < 2147483648 := Int32.toInt_lt i
  have hq : (i / nI M).toInt = i.toInt.tdiv M := by
    rw [Int32.toInt_div, hm, i32_bmod]
    · rcases Int.le_total 0 i.toInt with h | h
      · have := Int.tdiv_nonneg h (Int.natCast_nonneg M); omega
      · have h3 : -(i.toInt.tdiv M) = (-i.toInt).tdiv M := (Int.neg_tdiv ..).symm
        have h4 : (-i.toInt).tdiv (M : Int) ≤ -i.toInt := Int.tdiv_le_self _ (by omega)
        omega
    · rcases Int.le_total 0 i.toInt with h | h
      · have := Int.tdiv_le_self (M : Int) h; omega
      · have h3 : -(i.toInt.tdiv M) = (-i.toInt).tdiv M := (Int.neg_tdiv ..).symm
        have h4 : 0 ≤ (-i.toInt).tdiv (M : Int) := Int.tdiv_nonneg (by omega) (Int.natCast_nonneg M)
        omega
  have hmod := Int.tmod_add_mul_tdiv i.toInt (M : Int)
  have hlt : i.toInt.tmod M < M := Int.tmod_lt_of_pos _ (by omega)
  have hgt : -(M : Int) < i.toInt.tmod M := md_tmod_gt (by omega)
  have hs : 0 ≤ i.toInt → 0 ≤ i.toInt.tmod M := fun h => Int.tmod_nonneg _ h
  have hs2 : i.toInt ≤ 0 → i.toInt.tmod M ≤ 0 := fun h => by
    have h5 : -(i.toInt.tmod M) = (-i.toInt).tmod M := (Int.neg_tmod ..).symm
    have := Int.tmod_nonneg (M : Int) (show 0 ≤ -i.toInt by omega)
    omega
  have hcm : i.toInt.tdiv M * (M : Int) = (M : Int) * i.toInt.tdiv M := Int.mul_comm _ _
  have hp : (i / nI M * nI M).toInt = i.toInt.tdiv M * M := by
    rw [Int32.toInt_mul, hq, hm, i32_bmod]
    · rcases Int.le_total 0 i.toInt with h | h
      · have := hs h; omega
      · have := hs2 h; omega
    · rcases Int.le_total 0 i.toInt with h | h
      · have := hs h; omega
      · have := hs2 h; omega
  rw [Int32.toInt_sub, hp, i32_bmod] <;> omega
theorem md_j_int {i : Int32} {M : Nat} (h0 : 0 < M) (hM : M ≤ 2048) : (md_j i (nI M)).toInt = i.toInt % M := by
  have hm : (nI M).toInt = (M : Int) := nI_toInt (by omega)
  have h1 := md_irem (i := i) h0 (by omega)
  have hlt : i.toInt.tmod M < M := Int.tmod_lt_of_pos _ (by omega)
  have hgt : -(M : Int) < i.toInt.tmod M := md_tmod_gt (by omega)
  have h2 : (i - i / nI M * nI M + nI M).toInt = i.toInt.tmod M + M := by
    rw [Int32.toInt_add, h1, hm, i32_bmod] <;> omega
  unfold md_j
  rw [md_irem h0 (by omega), h2, Int.tmod_eq_emod_of_nonneg (by omega)]
  have h3 := Int.tmod_add_mul_tdiv i.toInt (M : Int)
  have h4 : i.toInt.tmod M + M = i.toInt + M * (1 - i.toInt.tdiv M) := by
    rw [Int.mul_sub]; omega
  rw [h4, Int.add_mul_emod_self_left]
theorem i32_ext {x y : Int32} (h : x.toInt = y.toInt) : x = y := Int32.toInt_inj.mp h
theorem md_j_nat {i : Int32} {M : Nat} (h0 : 0 < M) (hM : M ≤ 2048) : md_j i (nI M) = nI (i.toInt % M).toNat := by
  have h1 := md_j_int (i := i) h0 hM
  have h2 : 0 ≤ i.toInt % (M : Int) := Int.emod_nonneg _ (by omega)
  have h3 : i.toInt % (M : Int) < M := Int.emod_lt_of_pos _ (by omega)
  refine i32_ext ?_
  rw [h1, nI_toInt (by omega), Int.toNat_of_nonneg h2]
theorem pow_pos2 (e : Nat) : 0 < 2 ^ e := Nat.pos_of_ne_zero (by simp)
theorem md_two {M : Nat} : 2 * nI M = nI (2 * M) := pk_mul 2 M
/-- a wrap's answer: below 0, or a place -/
theorem md_wrap_ok {M : Nat} (h0 : 0 < M) (hM : M ≤ 1024) (i way : Int32) : md_wrap i (nI M) way < 0 ∨ ∃ x, x < M ∧ md_wrap i (nI M) way = nI x := by
  have hm : (nI M).toInt = (M : Int) := nI_toInt (by omega)
  unfold md_wrap
  by_cases w0 : way = 0
  · subst w0
    rw [if_pos rfl]
    have : md_m i (nI M) 0 = nI M := by unfold md_m; rw [if_neg (by decide)]
    rw [this, md_j_nat h0 (by omega)]
    have h2 : 0 ≤ i.toInt % (M : Int) := Int.emod_nonneg _ (by omega)
    have h3 : i.toInt % (M : Int) < M := Int.emod_lt_of_pos _ (by omega)
    exact Or.inr ⟨_, by omega, rfl⟩
  · rw [if_neg w0]
    by_cases w1 : way = 1
    · rw [if_pos w1]
      by_cases c : 0 ≤ i
      · rw [if_pos c]
        by_cases d : i < nI M
        · rw [if_pos d]
          rw [Int32.lt_iff_toInt_lt, hm] at d
          rw [Int32.le_iff_toInt_le, Int32.toInt_zero] at c
          exact Or.inr ⟨i.toInt.toNat, by omega, i32_ext (by rw [nI_toInt (by omega)]; omega)⟩
        · rw [if_neg d]
          obtain ⟨q, rfl⟩ : ∃ q, M = q + 1 := ⟨M - 1, by omega⟩
          exact Or.inr ⟨q, by omega, nI_pred q⟩
      · rw [if_neg c]
        exact Or.inr ⟨0, h0, rfl⟩
    · rw [if_neg w1]
      by_cases w2 : way = 2
      · rw [if_pos w2]
        have : md_m i (nI M) way = nI (2 * M) := by unfold md_m; rw [if_pos w2]; exact md_two
        rw [this, md_j_nat (by omega) (by omega)]
        have h2 : 0 ≤ i.toInt % ((2 * M : Nat) : Int) := Int.emod_nonneg _ (by omega)
        have h3 : i.toInt % ((2 * M : Nat) : Int) < (2 * M : Nat) := Int.emod_lt_of_pos _ (by omega)
        generalize hj : (i.toInt % ((2 * M : Nat) : Int)).toNat = q
        have hq : q < 2 * M := by omega
        by_cases d : nI M ≤ nI q
        · rw [if_pos d]
          have hd : M ≤ q := (nI_leI (by omega) (by omega)).mp d
          refine Or.inr ⟨2 * M - 1 - q, by omega, ?_⟩
          rw [md_two, show (1 : Int32) = nI 1 from rfl, pk_sub (by omega), pk_sub (by omega)]
        · rw [if_neg d]
          have hd : q < M := Nat.not_le.mp (fun h => d ((nI_leI (by omega) (by omega)).mpr h))
          exact Or.inr ⟨q, hd, rfl⟩
      · rw [if_neg w2]
        by_cases c : i < 0
        · rw [if_pos c]
          exact Or.inl (by decide)
        · rw [if_neg c]
          by_cases d : nI M ≤ i
          · rw [if_pos d]
            exact Or.inl (by decide)
          · rw [if_neg d]
            rw [Int32.le_iff_toInt_le, hm] at d
            rw [Int32.lt_iff_toInt_lt, Int32.toInt_zero] at c
            exact Or.inr ⟨i.toInt.toNat, by omega, i32_ext (by rw [nI_toInt (by omega)]; omega)⟩
theorem md_m_ne {g i way : Int32} {A k : Nat} (e : g = nI A) (hA : A ≤ 10) (hk : k ≤ 11) : ¬ md_m i (md_len g (nI k)) way = 0 := by
  subst e
  rw [md_len_n hA hk]
  have hp := pow_pos2 (A - k)
  have hl := pow_le10 (k := k) hA
  unfold md_m
  by_cases h : way = 2
  · rw [if_pos h, md_two]
    exact nI_ne0 (by omega) (by omega)
  · rw [if_neg h]
    exact nI_ne0 (by omega) (by omega)
def md_X (g way : Int32) (n : Nat) (u : Int32) : Int32 := md_wrap u (md_len g (nI n)) way
theorem md_X_ok {g way u : Int32} {A n : Nat} (e : g = nI A) (hA : A ≤ 10) (hn : n ≤ 11) : md_X g way n u < 0 ∨ ∃ x, x < 1024 ∧ md_X g way n u = nI x := by
  subst e
  unfold md_X
  rw [md_len_n hA hn]
  rcases md_wrap_ok (pow_pos2 (A - n)) (pow_le10 hA) u way with h | ⟨x, hx, h⟩
  · exact Or.inl h
  · exact Or.inr ⟨x, Nat.lt_of_lt_of_le hx (pow_le10 hA), h⟩
/-- a texel of the reference, or the border -/
def md_wv (mem bo : Nat → Int32) (j a f ga gb n : Nat) (X Y : Int32) (c : Nat) : Int32 := if X < 0 then bo (4 * j + c) else if Y < 0 then bo (4 * j + c) else md_ch mem a f (md_T ga gb n X.toNatClampNeg Y.toNatClampNeg) c
theorem md_wv_x {mem bo : Nat → Int32} {j a f ga gb n : Nat} {X Y : Int32} {c : Nat} (h : X < 0) : md_wv mem bo j a f ga gb n X Y c = bo (4 * j + c) := if_pos h
theorem md_wv_y {mem bo : Nat → Int32} {j a f ga gb n : Nat} {X Y : Int32} {c : Nat} (h0 : ¬ X < 0) (h : Y < 0) : md_wv mem bo j a f ga gb n X Y c = bo (4 * j + c) := by unfold md_wv; rw [if_neg h0, if_pos h]
theorem md_wv_t {mem bo : Nat → Int32} {j a f ga gb n x y : Nat} {c : Nat} (hx : x < 1024) (hy : y < 1024) : md_wv mem bo j a f ga gb n (nI x) (nI y) c = md_ch mem a f (md_T ga gb n x y) c := by
  unfold md_wv
  rw [if_neg (nI_pos (by omega)), if_neg (nI_pos (by omega)), nI_clamp (by omega), nI_clamp (by omega)]
def md_U (e s : Int32) : Int64 := s.toInt64 <<< (e.toInt64 &&& 63)
section MDF
variable (mem un bo : Nat → Int32) (j a f ga gb n : Nat) (s t : Int32)
/-- the place in one direction, and its texel -/
def md_u1 (k : Nat) (s : Int32) : Int32 := tu_whole (md_U (md_e (un (8 * j + 1 + k)) (nI n)) s)
def md_U4 (k : Nat) (s : Int32) : Int64 := md_U (md_e (un (8 * j + 1 + k)) (nI n)) s - 32768
def md_one (c : Nat) : Int32 := md_wv mem bo j a f ga gb n (md_X (un (8 * j + 1)) (un (8 * j + 5)) n (md_u1 un j n 0 s)) (md_X (un (8 * j + 2)) (un (8 * j + 6)) n (md_u1 un j n 1 t)) c
def md_row (u v f9 : Int32) (c : Nat) : Int32 := tu_mix (md_wv mem bo j a f ga gb n (md_X (un (8 * j + 1)) (un (8 * j + 5)) n u) (md_X (un (8 * j + 2)) (un (8 * j + 6)) n v) c) (md_wv mem bo j a f ga gb n (md_X (un (8 * j + 1)) (un (8 * j + 5)) n (u + 1)) (md_X (un (8 * j + 2)) (un (8 * j + 6)) n v) c) f9
def md_four (c : Nat) : Int32 := tu_mix (md_row mem un bo j a f ga gb n (tu_whole (md_U4 un j n 0 s)) (tu_whole (md_U4 un j n 1 t)) (tu_rest (md_U4 un j n 0 s)) c) (md_row mem un bo j a f ga gb n (tu_whole (md_U4 un j n 0 s)) (tu_whole (md_U4 un j n 1 t) + 1) (tu_rest (md_U4 un j n 0 s)) c) (tu_rest (md_U4 un j n 1 t))
end MDF
theorem tu_upd_upd (f : Nat → Int32) (a b c d a' b' c' d' : Int32) : upd (upd (upd (upd (upd (upd (upd (upd f 0 a) 1 b) 2 c) 3 d) 0 a') 1 b') 2 c') 3 d' = tu_put4 f a' b' c' d' := by
  funext k
  unfold tu_put4 upd
  by_cases h0 : k = 0
  · subst h0; simp
  · by_cases h1 : k = 1
    · subst h1; simp
    · by_cases h2 : k = 2
      · subst h2; simp
      · by_cases h3 : k = 3
        · subst h3; simp
        · simp [h0, h1, h2, h3]
theorem tu_row4 (f : Nat → Int32) {a b c d a' b' c' d' : Int32} : upd (upd (upd (upd (upd (upd (upd (upd f 0 a) 1 b) 2 c) 3 d) 0 a') 1 b') 2 c') 3 d' = tu_put4 f a' b' c' d' := tu_upd_upd f a b c d a' b' c' d'
