/-! the class and the reference answer alike: wraps, places, mixings, readings -/
theorem eq_mod {i : Int32} {e : Nat} (he : e ≤ 11) : i.toInt % ((2 ^ e : Nat) : Int) = ((i.toBitVec.toNat % 2 ^ e : Nat) : Int) := by
  have h1 : i.toInt = i.toBitVec.toInt := rfl
  have hp : (2 : Nat) ^ 32 = 2 ^ e * 2 ^ (32 - e) := by rw [← Nat.pow_add]; congr 1; omega
  rw [h1, BitVec.toInt_eq_toNat_cond]
  by_cases h : 2 * i.toBitVec.toNat < 2 ^ 32
  · rw [if_pos h, Int.natCast_emod]
  · rw [if_neg h, hp, Int.natCast_mul, Int.sub_mul_emod_self_left, Int.natCast_emod]
theorem eq_maskN {M : Nat} (h0 : 0 < M) (hM : M ≤ 4096) : (nI M - 1).toBitVec.toNat = M - 1 := by
  obtain ⟨q, rfl⟩ : ∃ q, M = q + 1 := ⟨M - 1, by omega⟩
  rw [nI_pred, pk_tn (by omega)]
  omega
theorem eq_wrap {i : Int32} {e w : Nat} (he : e ≤ 10) (hw : w < 4) : tu_wrap (nI w) i (nI (2 ^ e)) = md_wrap i (nI (2 ^ e)) (nI w) := by
  have hp := pow_pos2 e
  have hl : 2 ^ e ≤ 1024 := Nat.le_trans (Nat.pow_le_pow_right (by decide) he) (by decide)
  have hp1 : 2 * 2 ^ e = 2 ^ (e + 1) := by rw [Nat.pow_succ]; omega
  have hm : (nI (2 ^ e)).toInt = ((2 ^ e : Nat) : Int) := nI_toInt (by omega)
  have hm1 : (nI (2 ^ e) - 1).toInt = ((2 ^ e : Nat) : Int) - 1 := by
    obtain ⟨q, hq⟩ : ∃ q, 2 ^ e = q + 1 := ⟨2 ^ e - 1, by omega⟩
    rw [hq, nI_pred, nI_toInt (by omega)]; omega
  rcases (show w = 0 ∨ w = 1 ∨ w = 2 ∨ w = 3 by omega) with rfl | rfl | rfl | rfl
  · show i &&& (nI (2 ^ e) - 1) = md_j i (nI (2 ^ e))
    rw [pk_and i e (eq_maskN hp (by omega)), md_j_nat hp (by omega), eq_mod (by omega)]
    rfl
  · show tu_cut i 0 (nI (2 ^ e) - 1) = if 0 ≤ i then (if i < nI (2 ^ e) then i else nI (2 ^ e) - 1) else 0
    unfold tu_cut
    by_cases a : i < nI (2 ^ e) - 1
    · rw [if_pos a]
      have a' := a
      rw [Int32.lt_iff_toInt_lt, hm1] at a'
      by_cases b : (0 : Int32) < i
      · have b' := b
        rw [Int32.lt_iff_toInt_lt, Int32.toInt_zero] at b'
        rw [if_pos b, if_pos (by rw [Int32.le_iff_toInt_le, Int32.toInt_zero]; omega), if_pos (by rw [Int32.lt_iff_toInt_lt, hm]; omega)]
      · rw [if_neg b]
        have b' := b
        rw [Int32.lt_iff_toInt_lt, Int32.toInt_zero] at b'
        by_cases c : 0 ≤ i
        · have c' := c
          rw [Int32.le_iff_toInt_le, Int32.toInt_zero] at c'
          have hz : i = 0 := i32_ext (by rw [Int32.toInt_zero]; omega)
          rw [if_pos c, if_pos (by rw [Int32.lt_iff_toInt_lt, hm]; omega), hz]
        · rw [if_neg c]
    · rw [if_neg a]
      have a' := a
      rw [Int32.lt_iff_toInt_lt, hm1] at a'
      rw [if_pos (show (0 : Int32) ≤ i by rw [Int32.le_iff_toInt_le, Int32.toInt_zero]; omega)]
      by_cases b : (0 : Int32) < nI (2 ^ e) - 1
      · rw [if_pos b]
        by_cases d : i < nI (2 ^ e)
        · have d' := d
          rw [Int32.lt_iff_toInt_lt, hm] at d'
          rw [if_pos d]
          exact i32_ext (by rw [hm1]; omega)
        · rw [if_neg d]
      · rw [if_neg b]
        have b' := b
        rw [Int32.lt_iff_toInt_lt, Int32.toInt_zero, hm1] at b'
        by_cases d : i < nI (2 ^ e)
        · have d' := d
          rw [Int32.lt_iff_toInt_lt, hm] at d'
          rw [if_pos d]
          exact i32_ext (by rw [Int32.toInt_zero]; omega)
        · rw [if_neg d]
          exact i32_ext (by rw [Int32.toInt_zero, hm1]; omega)
  · show tu_mir i (nI (2 ^ e)) = if nI (2 ^ e) ≤ md_j i (2 * nI (2 ^ e)) then 2 * nI (2 ^ e) - 1 - md_j i (2 * nI (2 ^ e)) else md_j i (2 * nI (2 ^ e))
    have ej : i &&& (2 * nI (2 ^ e) - 1) = md_j i (2 * nI (2 ^ e)) := by
      rw [md_two, pk_and i (e + 1) (by rw [eq_maskN (by omega) (by omega), hp1]), md_j_nat (by omega) (by omega), hp1, eq_mod (by omega)]
      rfl
    unfold tu_mir
    rw [ej]
  · show (if tu_win i 0 (nI (2 ^ e) - 1) = 0 then -1 else i) = if i < 0 then -1 else if nI (2 ^ e) ≤ i then -1 else i
    unfold tu_win
    by_cases a : i < 0
    · rw [if_pos a, if_pos a, if_pos rfl]
    · rw [if_neg a, if_neg a]
      by_cases b : nI (2 ^ e) - 1 < i
      · have b' := b
        rw [Int32.lt_iff_toInt_lt, hm1] at b'
        rw [if_pos b, if_pos rfl, if_pos (by rw [Int32.le_iff_toInt_le, hm]; omega)]
      · have b' := b
        rw [Int32.lt_iff_toInt_lt, hm1] at b'
        rw [if_neg b, if_neg (by decide), if_neg (by rw [Int32.le_iff_toInt_le, hm]; omega)]
theorem eq_X {w ga n : Nat} {u : Int32} (hga : ga ≤ 10) (hn : n ≤ 11) (hw : w < 4) : tu_wrap (nI w) u (tu_len (nI ga) (nI n)) = md_X (nI ga) (nI w) n u := by
  unfold md_X
  rw [tu_len_n hga hn, md_len_n hga hn, eq_wrap (by omega) hw]
theorem eq_Xm {w ga n : Nat} {u : Int32} (hga : ga ≤ 10) (hn : n ≤ 11) (hw : w < 4) : md_X (nI ga) (nI w) n u = -1 ∨ ∃ x, x < 1024 ∧ md_X (nI ga) (nI w) n u = nI x := by
  rcases md_X_ok (g := nI ga) (way := nI w) (u := u) rfl hga hn with h | h
  · left
    rw [← eq_X hga hn hw, tu_len_n hga hn] at h ⊢
    have hp := pow_pos2 (ga - n)
    have hl := pow_le10 (k := n) hga
    rw [eq_wrap (by omega) hw] at h ⊢
    rcases (show w = 0 ∨ w = 1 ∨ w = 2 ∨ w = 3 by omega) with rfl | rfl | rfl | rfl
    · rcases md_wrap_ok hp hl u (nI 0) with q | ⟨x, hx, q⟩
      · change md_j u (nI (2 ^ (ga - n))) < 0 at q
        rw [md_j_nat hp (by omega)] at q
        have h2 : 0 ≤ u.toInt % ((2 ^ (ga - n) : Nat) : Int) := Int.emod_nonneg _ (by omega)
        have h3 : u.toInt % ((2 ^ (ga - n) : Nat) : Int) < (2 ^ (ga - n) : Nat) := Int.emod_lt_of_pos _ (by omega)
        exact absurd q (nI_pos (by omega))
      · rw [q] at h; exact absurd h (nI_pos (by omega))
    · change (if 0 ≤ u then (if u < nI (2 ^ (ga - n)) then u else nI (2 ^ (ga - n)) - 1) else 0) < 0 at h
      by_cases a : 0 ≤ u
      · rw [if_pos a] at h
        by_cases b : u < nI (2 ^ (ga - n))
        · rw [if_pos b] at h
          exact absurd a (k2_nle h)
        · rw [if_neg b] at h
          obtain ⟨q, hq⟩ : ∃ q, 2 ^ (ga - n) = q + 1 := ⟨2 ^ (ga - n) - 1, by omega⟩
          rw [hq, nI_pred] at h
          exact absurd h (nI_pos (by omega))
      · rw [if_neg a] at h
        exact absurd h (by decide)
    · change (if nI (2 ^ (ga - n)) ≤ md_j u (2 * nI (2 ^ (ga - n))) then 2 * nI (2 ^ (ga - n)) - 1 - md_j u (2 * nI (2 ^ (ga - n))) else md_j u (2 * nI (2 ^ (ga - n)))) < 0 at h
      rw [md_two, md_j_nat (by omega) (by omega)] at h
      have h2 : 0 ≤ u.toInt % ((2 * 2 ^ (ga - n) : Nat) : Int) := Int.emod_nonneg _ (by omega)
      have h3 : u.toInt % ((2 * 2 ^ (ga - n) : Nat) : Int) < (2 * 2 ^ (ga - n) : Nat) := Int.emod_lt_of_pos _ (by omega)
      generalize hq : (u.toInt % ((2 * 2 ^ (ga - n) : Nat) : Int)).toNat = q at h
      by_cases b : nI (2 ^ (ga - n)) ≤ nI q
      · rw [if_pos b, show (1 : Int32) = nI 1 from rfl, pk_sub (by omega), pk_sub (by omega)] at h
        exact absurd h (nI_pos (by omega))
      · rw [if_neg b] at h
        exact absurd h (nI_pos (by omega))
    · change (if u < 0 then -1 else if nI (2 ^ (ga - n)) ≤ u then -1 else u) < 0 at h
      show (if u < 0 then -1 else if nI (2 ^ (ga - n)) ≤ u then -1 else u) = -1
      by_cases a : u < 0
      · rw [if_pos a]
      · rw [if_neg a] at h ⊢
        by_cases b : nI (2 ^ (ga - n)) ≤ u
        · rw [if_pos b]
        · rw [if_neg b] at h
          exact absurd h a
  · exact Or.inr h
theorem eq_place {e : Nat} (he : e ≤ 10) (s : Int32) : s.toInt64 * (nI (2 ^ e)).toInt64 = md_U (nI e) s := by
  have hl : 2 ^ e ≤ 1024 := Nat.le_trans (Nat.pow_le_pow_right (by decide) he) (by decide)
  obtain ⟨k, hk⟩ : ∃ k, s.toInt64 = lN k := ⟨s.toInt64.toBitVec.toNat, wb_inj (by rw [wb_tb]; simp)⟩
  unfold md_U
  rw [nI_l (by omega), hk, lN_mul, wb_shl k (by omega)]
section EQU
variable {mem sf bd un bo : Nat → Int32} {j a f ga gb ac dn n c : Nat}
/-- a unit as both have it -/
def eq_unit (un : Nat → Int32) (j a f ga gb lv ac dn fi : Nat) : Prop := (a < 2 ^ 31 ∧ f < 8 ∧ ga ≤ 10 ∧ gb ≤ 10 ∧ (1 ≤ lv ∧ lv ≤ 11) ∧ ac < 4 ∧ dn < 4 ∧ fi < 4) ∧ un (8 * j) = nI a ∧ un (8 * j + 1) = nI ga ∧ un (8 * j + 2) = nI gb ∧ un (8 * j + 3) = nI lv ∧ un (8 * j + 4) = nI f ∧ un (8 * j + 5) = nI ac ∧ un (8 * j + 6) = nI dn ∧ un (8 * j + 7) = nI fi
theorem eq_sob (ha : a < 2 ^ 31) (hf : f < 8) (hga : ga ≤ 10) (hgb : gb ≤ 10) (hn : n ≤ 11) (hc : c < 4) (hsf : sf n = nI (ahN ga gb n)) (hb : bd c = bo (4 * j + c)) {X Y : Int32} (hX : X = -1 ∨ ∃ x, x < 1024 ∧ X = nI x) (hY : Y = -1 ∨ ∃ y, y < 1024 ∧ Y = nI y) :
    tu_sob mem sf bd (nI a) (nI f) (nI ga) (nI n) X Y (nI c) = md_wv mem bo j a f ga gb n X Y c := by
  have hcl : (nI c).toNatClampNeg = c := nI_clamp (by omega)
  unfold tu_sob
  rcases hX with rfl | ⟨x, hx, rfl⟩
  · rw [if_pos rfl, md_wv_x (by decide), hcl, hb]
  · have hx1 : ¬ nI x = -1 := fun h => by
      have := nI_pos (n := x) (by omega)
      rw [h] at this
      exact this (by decide)
    rw [if_neg hx1]
    rcases hY with rfl | ⟨y, hy, rfl⟩
    · rw [if_pos rfl, md_wv_y (nI_pos (by omega)) (by decide), hcl, hb]
    · have hy1 : ¬ nI y = -1 := fun h => by
        have := nI_pos (n := y) (by omega)
        rw [h] at this
        exact this (by decide)
      rw [if_neg hy1, md_wv_t hx hy, eq_stored ha hf hga hgb hn hx hy hc hsf]
variable {lv fi : Nat}
theorem eq_u1 {g : Nat} (hg : g ≤ 10) (hn : n ≤ 11) (s : Int32) {k : Nat} (e : un (8 * j + 1 + k) = nI g) : tu_whole (s.toInt64 * (tu_len (nI g) (nI n)).toInt64) = md_u1 un j n k s := by
  unfold md_u1
  rw [e, tu_len_n hg hn, md_e_n hg hn, eq_place (by omega)]
theorem eq_U4 {g : Nat} (hg : g ≤ 10) (hn : n ≤ 11) (s : Int32) {k : Nat} (e : un (8 * j + 1 + k) = nI g) : tu_U (nI g) (nI n) s = md_U4 un j n k s := by
  unfold md_U4 tu_U
  rw [e, tu_len_n hg hn, md_e_n hg hn, eq_place (by omega)]
theorem eq_one (hu : eq_unit un j a f ga gb lv ac dn fi) (hn : n ≤ 11) (hc : c < 4) (hsf : sf n = nI (ahN ga gb n)) (hb : bd c = bo (4 * j + c)) (s t : Int32) :
    tu_one mem sf bd (nI a) (nI f) (nI ga) (nI gb) (nI ac) (nI dn) (nI n) s t (nI c) = md_one mem un bo j a f ga gb n s t c := by
  obtain ⟨⟨ha, hf, hga, hgb, -, hac, hdn, -⟩, -, e1, e2, -, -, e5, e6, -⟩ := hu
  unfold tu_one md_one tu_x1
  rw [eq_u1 hga hn s (k := 0) e1, eq_u1 hgb hn t (k := 1) e2, eq_X hga hn hac, eq_X hgb hn hdn, e1, e2, e5, e6]
  exact eq_sob ha hf hga hgb hn hc hsf hb (eq_Xm hga hn hac) (eq_Xm hgb hn hdn)
theorem eq_four (hu : eq_unit un j a f ga gb lv ac dn fi) (hn : n ≤ 11) (hc : c < 4) (hsf : sf n = nI (ahN ga gb n)) (hb : bd c = bo (4 * j + c)) (s t : Int32) :
    tu_four mem sf bd (nI a) (nI f) (nI ga) (nI gb) (nI ac) (nI dn) (nI n) s t (nI c) = md_four mem un bo j a f ga gb n s t c := by
  obtain ⟨⟨ha, hf, hga, hgb, -, hac, hdn, -⟩, -, e1, e2, -, -, e5, e6, -⟩ := hu
  unfold tu_four md_four md_row tu_xa tu_xb
  rw [eq_U4 hga hn s (k := 0) e1, eq_U4 hgb hn t (k := 1) e2, eq_X hga hn hac, eq_X hga hn hac, eq_X hgb hn hdn, eq_X hgb hn hdn, e1, e2, e5, e6]
  rw [eq_sob ha hf hga hgb hn hc hsf hb (eq_Xm hga hn hac) (eq_Xm hgb hn hdn), eq_sob ha hf hga hgb hn hc hsf hb (eq_Xm hga hn hac) (eq_Xm hgb hn hdn), eq_sob ha hf hga hgb hn hc hsf hb (eq_Xm hga hn hac) (eq_Xm hgb hn hdn), eq_sob ha hf hga hgb hn hc hsf hb (eq_Xm hga hn hac) (eq_Xm hgb hn hdn)]
theorem eq_smp (hu : eq_unit un j a f ga gb lv ac dn fi) (hn : n ≤ 11) (hc : c < 4) (hsf : sf n = nI (ahN ga gb n)) (hb : bd c = bo (4 * j + c)) (s t : Int32) :
    tu_smp mem sf bd (nI a) (nI f) (nI ga) (nI gb) (nI ac) (nI dn) (nI fi) (nI n) s t (nI c) = md_lvl mem un bo j a f ga gb fi n s t c := by
  have hfi : fi < 4 := hu.1.2.2.2.2.2.2.2
  unfold tu_smp
  rw [eq_one hu hn hc hsf hb, eq_four hu hn hc hsf hb]
  rcases (show fi = 0 ∨ fi = 1 ∨ fi = 2 ∨ fi = 3 by omega) with rfl | rfl | rfl | rfl
  · rw [if_neg (by decide), if_neg (by decide), md_lvl_o (by decide)]
  · rw [if_pos (by decide), md_lvl_f (by decide)]
  · rw [if_neg (by decide), if_neg (by decide), md_lvl_o (by decide)]
  · rw [if_neg (by decide), if_pos (by decide), md_lvl_f (by decide)]
theorem eq_smp4 (hu : eq_unit un j a f ga gb lv ac dn fi) (hn : n ≤ 11) (hc : c < 4) (hsf : sf n = nI (ahN ga gb n)) (hb : bd c = bo (4 * j + c)) (s t : Int32) (g : Nat → Int32) :
    tu_smp4 mem sf bd (nI a) (nI f) (nI ga) (nI gb) (nI ac) (nI dn) (nI fi) (nI n) s t g c = md_lvl mem un bo j a f ga gb fi n s t c := by
  rw [← eq_smp hu hn hc hsf hb s t]
  exact tu_put4_at g (fun c => tu_smp mem sf bd (nI a) (nI f) (nI ga) (nI gb) (nI ac) (nI dn) (nI fi) (nI n) s t (nI c)) hc
theorem eq_lod (h1 : 1 ≤ lv) (h2 : lv ≤ 11) (l : Int32) : tu_lod (nI lv) l = md_lod (nI lv) l := by
  have hk : ∀ v, v < 12 → 1 ≤ v → (nI v - 1) <<< ((16 : Int32) &&& 31) = nI (65536 * (v - 1)) ∧ 65536 * (nI v - 1) = nI (65536 * (v - 1)) := by decide +kernel
  obtain ⟨k1, k2⟩ := hk lv (by omega) h1
  unfold tu_lod md_lod tu_cut
  rw [k1, k2]
  have hm : (nI (65536 * (lv - 1))).toInt = ((65536 * (lv - 1) : Nat) : Int) := nI_toInt (by omega)
  generalize nI (65536 * (lv - 1)) = m at hm
  by_cases a : 0 ≤ l
  · rw [if_pos a]
    rw [Int32.le_iff_toInt_le, Int32.toInt_zero] at a
    by_cases b : l < m
    · have b' := b
      rw [Int32.lt_iff_toInt_lt, hm] at b'
      rw [if_pos b, if_pos (show l ≤ m by rw [Int32.le_iff_toInt_le, hm]; omega)]
      by_cases d : (0 : Int32) < l
      · rw [if_pos d]
      · rw [if_neg d]
        rw [Int32.lt_iff_toInt_lt, Int32.toInt_zero] at d
        exact i32_ext (by rw [Int32.toInt_zero]; omega)
    · have b' := b
      rw [Int32.lt_iff_toInt_lt, hm] at b'
      rw [if_neg b]
      by_cases c : l ≤ m
      · have c' := c
        rw [Int32.le_iff_toInt_le, hm] at c'
        have he : l = m := i32_ext (by omega)
        rw [if_pos c, he]
        by_cases d : (0 : Int32) < m
        · rw [if_pos d]
        · rw [if_neg d]
          rw [Int32.lt_iff_toInt_lt, Int32.toInt_zero] at d
          exact i32_ext (by rw [Int32.toInt_zero]; omega)
      · rw [if_neg c]
        by_cases d : (0 : Int32) < m
        · rw [if_pos d]
        · rw [if_neg d]
          rw [Int32.lt_iff_toInt_lt, Int32.toInt_zero] at d
          exact i32_ext (by rw [Int32.toInt_zero]; omega)
  · rw [if_neg a]
    rw [Int32.le_iff_toInt_le, Int32.toInt_zero] at a
    by_cases b : l < m
    · rw [if_pos b, if_neg (show ¬ (0 : Int32) < l by rw [Int32.lt_iff_toInt_lt, Int32.toInt_zero]; omega)]
    · rw [Int32.lt_iff_toInt_lt, hm] at b
      omega
theorem eq_lev (h1 : 1 ≤ lv) (h2 : lv ≤ 11) (l : Int32) : ∃ n, n ≤ lv - 1 ∧ md_lod (nI lv) l >>> ((16 : Int32) &&& 31) = nI n := by
  have hk : ∀ v, v < 12 → 1 ≤ v → 65536 * (nI v - 1) = nI (65536 * (v - 1)) := by decide +kernel
  have k2 := hk lv (by omega) h1
  have hq : ∃ k, k ≤ 65536 * (lv - 1) ∧ md_lod (nI lv) l = nI k := by
    unfold md_lod
    rw [k2]
    have hm : (nI (65536 * (lv - 1))).toInt = ((65536 * (lv - 1) : Nat) : Int) := nI_toInt (by omega)
    by_cases a : 0 ≤ l
    · rw [if_pos a]
      by_cases b : l ≤ nI (65536 * (lv - 1))
      · rw [if_pos b]
        rw [Int32.le_iff_toInt_le, Int32.toInt_zero] at a
        rw [Int32.le_iff_toInt_le, hm] at b
        exact ⟨l.toInt.toNat, by omega, i32_ext (by rw [nI_toInt (by omega)]; omega)⟩
      · rw [if_neg b]
        exact ⟨_, Nat.le_refl _, rfl⟩
    · rw [if_neg a]
      exact ⟨0, Nat.zero_le _, rfl⟩
  obtain ⟨k, hk1, hk2⟩ := hq
  rw [hk2, pk_shrN (by omega) _ 16 (by decide)]
  exact ⟨_, by omega, rfl⟩
theorem eq_rd (hu : eq_unit un j a f ga gb lv ac dn fi) (hc : c < 4) (hsf : ∀ n, n ≤ 11 → sf n = nI (ahN ga gb n)) (hb : bd c = bo (4 * j + c)) (s t l : Int32) (la nx : Nat → Int32) (hn : n ≤ lv - 1) (hN : md_lod (nI lv) l >>> ((16 : Int32) &&& 31) = nI n) :
    tu_rd mem sf bd (nI a) (nI f) (nI ga) (nI gb) (nI lv) (nI ac) (nI dn) (nI fi) s t l la nx c = md_rdv mem un bo j a f ga gb fi lv n s t (md_lod (nI lv) l) c := by
  have hlv := hu.1.2.2.2.2.1
  have hfi : fi < 4 := hu.1.2.2.2.2.2.2.2
  have hL : tu_lod (nI lv) l = md_lod (nI lv) l := eq_lod hlv.1 hlv.2 l
  have hlev : tu_lev (nI lv) l = nI n := by unfold tu_lev; rw [hL, hN]
  unfold tu_rd
  rw [hlev, hL, nI_1]
  have e1 := eq_smp4 (mem := mem) hu (show n ≤ 11 by omega) hc (hsf n (by omega)) hb s t la
  by_cases h : nI fi = 2 ∨ nI fi = 3
  · rw [if_pos h]
    have hf2 : 1 < fi := by
      rcases (show fi = 0 ∨ fi = 1 ∨ fi = 2 ∨ fi = 3 by omega) with rfl | rfl | rfl | rfl
      · exact absurd h (by decide)
      · exact absurd h (by decide)
      · decide
      · decide
    by_cases d : nI lv ≤ nI (n + 1)
    · rw [if_pos d, e1, md_rdv_n (fun q => by have := (nI_leI (by omega) (by omega)).mp d; omega)]
    · have d' : n + 1 < lv := Nat.not_le.mp (fun q => d ((nI_leI (by omega) (by omega)).mpr q))
      rw [if_neg d, md_rdv_y hf2 d', ← e1, ← eq_smp4 (mem := mem) hu (show n + 1 ≤ 11 by omega) hc (hsf (n + 1) (by omega)) hb s t nx]
      exact tu_put4_at _ (fun c => tu_mix (tu_smp4 mem sf bd (nI a) (nI f) (nI ga) (nI gb) (nI ac) (nI dn) (nI fi) (nI n) s t la c) (tu_smp4 mem sf bd (nI a) (nI f) (nI ga) (nI gb) (nI ac) (nI dn) (nI fi) (nI (n + 1)) s t nx c) (md_lod (nI lv) l &&& 65535)) hc
  · rw [if_neg h, e1, md_rdv_n (fun q => by
      rcases (show fi = 2 ∨ fi = 3 by omega) with rfl | rfl
      · exact h (Or.inl rfl)
      · exact h (Or.inr rfl))]
end EQU
theorem eq_lay {A B : Nat} (hA : A ≤ 10) (hB : B ≤ 10) (f : Nat → Int32) (h0 : f 0 = 0) : ∀ k, ∀ n, n ≤ k → k ≤ 11 → tu_lay (nI A) (nI B) f k n = nI (ahN A B n)
  | 0, n, hn, _ => by
    have : n = 0 := by omega
    subst this
    simp only [tu_lay, ahN, h0]; rfl
  | k + 1, n, hn, hk => by
    simp only [tu_lay]
    by_cases h : n = k + 1
    · subst h
      rw [pk_us, eq_lay hA hB f h0 k k (Nat.le_refl _) (by omega), tu_len_n hA (by omega), tu_len_n hB (by omega), pk_mul, nI_add]
      rfl
    · rw [pk_un h, eq_lay hA hB f h0 k n (by omega) (by omega)]
theorem eq_lay0 (a b : Int32) (f : Nat → Int32) : ∀ k, tu_lay a b f k 0 = f 0
  | 0 => rfl
  | k + 1 => by simp only [tu_lay]; rw [pk_un (by omega), eq_lay0 a b f k]
