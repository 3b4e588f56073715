-- rows of kit/laws/BITS.to-paste
theorem wb_tb (n : Nat) : (lN n).toBitVec = BitVec.ofNat 64 n := rfl
theorem wb_inj {a b : Int64} (h : a.toBitVec = b.toBitVec) : a = b := Int64.toBitVec_inj.mp h
theorem wb_tn {n : Nat} (h : n < 2 ^ 64) : (lN n).toBitVec.toNat = n := by rw [wb_tb, BitVec.toNat_ofNat, Nat.mod_eq_of_lt h]
theorem wb_c : ∀ k, k < 64 → ((nI k).toInt64 &&& 63) = lN k := by decide +kernel
theorem wb_sm : ∀ k, k < 64 → (BitVec.ofNat 64 k).smod 64 = BitVec.ofNat 64 k := by decide +kernel
theorem wb_lt2 {a b : Nat} (h : a < b) : 2 ^ a < 2 ^ b := Nat.pow_lt_pow_right (by decide) h
theorem wb_and {a b : Nat} (ha : a < 2 ^ 64) (hb : b < 2 ^ 64) : lN a &&& lN b = lN (a &&& b) := by
  apply wb_inj
  rw [Int64.toBitVec_and, wb_tb, wb_tb, wb_tb]
  apply BitVec.eq_of_toNat_eq
  rw [BitVec.toNat_and, BitVec.toNat_ofNat, BitVec.toNat_ofNat, BitVec.toNat_ofNat, Nat.mod_eq_of_lt ha, Nat.mod_eq_of_lt hb, Nat.mod_eq_of_lt (Nat.and_lt_two_pow _ hb)]
theorem wb_mask {n k : Nat} (hn : n < 2 ^ 64) (hk : k < 64) : lN n &&& lN (2 ^ k - 1) = lN (n % 2 ^ k) := by
  rw [wb_and hn (by have := wb_lt2 hk; omega), Nat.and_two_pow_sub_one_eq_mod]
theorem wb_shl (n : Nat) {k : Nat} (hk : k < 64) : lN n <<< ((nI k).toInt64 &&& 63) = lN (n * 2 ^ k) := by
  rw [wb_c k hk]
  apply wb_inj
  rw [Int64.toBitVec_shiftLeft, wb_tb, wb_tb, wb_tb, wb_sm k hk]
  apply BitVec.eq_of_toNat_eq
  rw [BitVec.shiftLeft_eq', BitVec.toNat_shiftLeft, BitVec.toNat_ofNat, BitVec.toNat_ofNat, BitVec.toNat_ofNat, Nat.mod_eq_of_lt (show k < 2 ^ 64 by omega), Nat.shiftLeft_eq, Nat.mul_mod, Nat.mod_mod, ← Nat.mul_mod]
theorem pf_lI {a : Nat} (h : a < 2 ^ 63) : (lN a).toInt = (a : Int) := lg_ofNat_toInt h
theorem pf_shr {a d : Nat} {D : Int64} (hD : (D.toBitVec.smod 64).toNat = d) (h : a < 2 ^ 62) : lN a >>> D = lN (a / 2 ^ d) := by
  have hd : a / 2 ^ d ≤ a := Nat.div_le_self _ _
  apply Int64.toInt_inj.mp
  have e : (lN a >>> D).toInt = (lN a).toInt >>> d := by
    rw [← hD]
    exact BitVec.toInt_sshiftRight ..
  rw [e, Int.shiftRight_eq_div_pow, pf_lI (by omega), pf_lI (by omega)]
  rfl
/-! the class and the reference answer alike: one channel of one texel -/
theorem eq_sl : ∀ n, n < 32 → ((nI n &&& 31).toBitVec.smod 32).toNat = n := by decide +kernel
theorem eq_su : ∀ n, n < 32 → (((nI n).toUInt32 &&& Int32.toUInt32 31).toBitVec % 32).toNat = n := by decide +kernel
theorem eq_bit0 (y : BitVec 32) : y.toNat % 2 = 1 ↔ y.getLsbD 0 = true := by
  rw [BitVec.getLsbD, Nat.testBit_eq_decide_div_mod_eq]
  simp
theorem eq_shr1 (x : Int32) {q : Nat} (hq : q < 32) : (x >>> (nI q &&& 31)) &&& 1 = nI (x.toBitVec.toNat / 2 ^ q % 2) := by
  rw [pk_and _ 1 (by decide)]
  congr 1
  have hs := eq_sl q hq
  have h1 : (x >>> (nI q &&& 31)).toBitVec.toNat % 2 = 1 ↔ x.toBitVec.toNat / 2 ^ q % 2 = 1 := by
    rw [eq_bit0, Int32.toBitVec_shiftRight]
    show BitVec.getLsbD (x.toBitVec.sshiftRight' _) 0 = true ↔ _
    rw [BitVec.sshiftRight', hs, BitVec.getLsbD_sshiftRight]
    simp only [Nat.add_zero, if_pos hq]
    rw [BitVec.getLsbD, Nat.testBit_eq_decide_div_mod_eq]
    simp
  omega
theorem eq_sh {T f c : Nat} (hf : f < 8) (hc : c < 4) : (T * md_tb f) % 32 + md_cs (4 * f + c) + md_cb (4 * f + c) ≤ 32 := by
  have h1 : ∀ f, f < 8 → ∀ c, c < 4 → md_cs (4 * f + c) + md_cb (4 * f + c) ≤ md_tb f := by decide +kernel
  have h2 := h1 f hf c hc
  have h3 : (T * md_tb f) % 32 + md_tb f ≤ 32 := by
    rcases (show f = 0 ∨ f = 1 ∨ f = 2 ∨ f = 3 ∨ f = 4 ∨ f = 5 ∨ f = 6 ∨ f = 7 by omega) with rfl | rfl | rfl | rfl | rfl | rfl | rfl | rfl <;> simp [md_tb] <;> omega
  omega
/-- the word of a place, as a natural number -/
def eq_W (mem : Nat → Int32) (w : Nat) : Nat := if w < 2048 then (mem w).toBitVec.toNat else 0
theorem eq_W_lt (mem : Nat → Int32) (w : Nat) : eq_W mem w < 2 ^ 32 := by
  unfold eq_W
  by_cases h : w < 2048
  · rw [if_pos h]; exact (mem w).toBitVec.isLt
  · rw [if_neg h]; decide
theorem eq_mdbit {mem : Nat → Int32} {a n : Nat} : md_bit mem a n = nI (eq_W mem (a + n / 32) / 2 ^ (n % 32) % 2) := by
  unfold md_bit eq_W
  by_cases h : a + n / 32 < 2048
  · rw [if_pos h, if_pos h, eq_shr1 _ (by omega)]
  · rw [if_neg h, if_neg h, Nat.zero_div]; rfl
theorem eq_mdv {mem : Nat → Int32} {a D cs sz : Nat} (hs : D % 32 + cs + sz ≤ 32) (hz : sz ≤ 8) : ∀ j, j ≤ sz → md_v mem a (D + cs) sz j = nI (eq_W mem (a + D / 32) / 2 ^ (D % 32 + cs) % 2 ^ sz / 2 ^ (sz - j))
  | 0, _ => by
    simp only [md_v]
    rw [Nat.sub_zero, Nat.div_eq_of_lt (Nat.mod_lt _ (pow_pos2 sz))]; rfl
  | j + 1, h => by
    simp only [md_v]
    rw [eq_mdv hs hz j (by omega), eq_mdbit]
    have hq : (D + cs + (sz - 1 - j)) / 32 = D / 32 := by omega
    have hr : (D + cs + (sz - 1 - j)) % 32 = D % 32 + cs + (sz - 1 - j) := by omega
    rw [hq, hr, show (2 : Int32) = nI 2 from rfl, pk_mul, nI_add]
    congr 1
    generalize eq_W mem (a + D / 32) = Wd
    generalize D % 32 + cs = q
    obtain ⟨d, hd⟩ : ∃ d, sz - j = d + 1 := ⟨sz - j - 1, by omega⟩
    have hd2 : sz - 1 - j = d := by omega
    have hd3 : sz - (j + 1) = d := by omega
    have h3 : Wd / 2 ^ (q + d) = Wd / 2 ^ q / 2 ^ d := by rw [Nat.pow_add, Nat.div_div_eq_div_mul]
    rw [hd, hd2, hd3, h3]
    have hsz : 2 ^ sz = 2 ^ d * (2 * 2 ^ (sz - d - 1)) := by
      rw [← Nat.pow_succ', ← Nat.pow_add]; congr 1; omega
    generalize Wd / 2 ^ q = V
    have h1 : V % 2 ^ sz / 2 ^ d % 2 = V / 2 ^ d % 2 := by
      rw [hsz, Nat.mod_mul_right_div_self, Nat.mod_mul_right_mod]
    have h2 : V % 2 ^ sz / 2 ^ (d + 1) = V % 2 ^ sz / 2 ^ d / 2 := by rw [Nat.pow_succ, Nat.div_div_eq_div_mul]
    rw [h2, ← h1]
    omega
theorem eq_CB {k : Nat} (hk : k < 32) : tu_CB k = nI (md_cb k) := by
  have h : ∀ k, k < 32 → tu_CB k = nI (md_cb k) := by decide +kernel
  exact h k hk
theorem eq_CS {k : Nat} (hk : k < 32) : tu_CS k = nI (md_cs k) := by
  have h : ∀ k, k < 32 → tu_CS k = nI (md_cs k) := by decide +kernel
  exact h k hk
theorem eq_TB {k : Nat} (hk : k < 8) : tu_TB k = nI (md_tb k) := by
  have h : ∀ k, k < 8 → tu_TB k = nI (md_tb k) := by decide +kernel
  exact h k hk
theorem eq_ent {f c : Nat} (hf : f < 8) (hc : c < 4) : (nI f * 4 + nI c).toNatClampNeg = 4 * f + c := by
  rw [show (4 : Int32) = nI 4 from rfl, pk_mul, nI_add, nI_clamp (by omega)]
  omega
theorem eq_most {f c : Nat} (hf : f < 8) (hc : c < 4) : tu_most (nI f) (nI c) = md_most (md_cb (4 * f + c)) := by
  unfold tu_most md_most
  rw [eq_ent hf hc, eq_CB (by omega)]
theorem eq_mostN {sz : Nat} (h : sz ≤ 8) : md_most sz = nI (2 ^ sz - 1) := by
  have k : ∀ sz, sz < 9 → md_most sz = nI (2 ^ sz - 1) := by decide +kernel
  exact k sz (by omega)
theorem eq_word {mem : Nat → Int32} {w : Nat} (hw : w < 2 ^ 40) : (tu_word mem (lN w)).toBitVec.toNat = eq_W mem w := by
  unfold tu_word eq_W
  rw [if_neg (fun h => absurd ((lg_cmp_lt _ _).mp h) (by rw [show (0 : Int64) = lN 0 from rfl, pk_lLT (by omega) (by omega)]; omega))]
  by_cases h : w < 2048
  · rw [if_pos ((lg_cmp_lt _ _).mpr (by rw [show (2048 : Int64) = lN 2048 from rfl, pk_lLT (by omega) (by decide)]; exact h)), if_pos h, lN_i, nI_clamp (by omega)]
  · rw [if_neg (fun q => h (by have q := (lg_cmp_lt _ _).mp q; rw [show (2048 : Int64) = lN 2048 from rfl, pk_lLT (by omega) (by decide)] at q; exact q)), if_neg h]
    rfl
theorem eq_shr5 {n : Nat} (hn : n < 2 ^ 40) : lN n >>> ((5 : Int32).toInt64 &&& 63) = lN (n / 32) := pf_shr (d := 5) (by decide) (by omega)
theorem eq_and31 {n : Nat} (hn : n < 2 ^ 40) : lN n &&& 31 = lN (n % 32) := wb_mask (k := 5) (by omega) (by decide)
theorem eq_round {v m : Nat} (hm : m % 2 = 1) : (131072 * v + m) / (2 * m) = (v * 65536 + m / 2) / m := by
  rw [← Nat.div_div_eq_div_mul]
  congr 1
  omega
theorem eq_odd {sz : Nat} (h : sz ≤ 8) (h0 : ¬ md_most sz = 0) : (2 ^ sz - 1) % 2 = 1 ∧ 0 < 2 ^ sz - 1 ∧ 2 ^ sz ≤ 256 := by
  have k : ∀ sz, sz < 9 → ¬ md_most sz = 0 → (2 ^ sz - 1) % 2 = 1 ∧ 0 < 2 ^ sz - 1 ∧ 2 ^ sz ≤ 256 := by decide +kernel
  exact k sz (by omega) h0
set_option maxRecDepth 20000 in
theorem eq_stored {mem sf : Nat → Int32} {a f ga gb n x y c : Nat} (ha : a < 2 ^ 31) (hf : f < 8) (hga : ga ≤ 10) (hgb : gb ≤ 10) (hn : n ≤ 11) (hx : x < 1024) (hy : y < 1024) (hc : c < 4) (hsf : sf n = nI (ahN ga gb n)) :
    tu_stored mem sf (nI a) (nI f) (nI ga) (nI n) (nI x) (nI y) (nI c) = md_ch mem a f (md_T ga gb n x y) c := by
  have hT := md_T_lt hga hgb hn hx hy
  have hnum : tu_num sf (nI ga) (nI n) (nI x) (nI y) = nI (md_T ga gb n x y) := by
    unfold tu_num
    rw [nI_clamp (by omega), hsf, tu_len_n hga hn, pk_mul, nI_add, nI_add]
    rfl
  have hbit : tu_bit sf (nI f) (nI ga) (nI n) (nI x) (nI y) = lN (md_T ga gb n x y * md_tb f) := by
    unfold tu_bit
    rw [hnum, nI_clamp (by omega), eq_TB hf, md_at hT]
  have hsh := eq_sh (T := md_T ga gb n x y) hf hc
  have hcs := md_cs_le (4 * f + c)
  have hcb := md_cb_le (4 * f + c)
  have hD : md_T ga gb n x y * md_tb f < 2 ^ 30 := by
    have h1 : md_T ga gb n x y * md_tb f ≤ 16777215 * 32 := Nat.mul_le_mul (by omega) (md_tb_le f)
    omega
  generalize md_T ga gb n x y = T at *
  unfold tu_stored md_ch md_fv
  rw [eq_most hf hc]
  by_cases h0 : md_most (md_cb (4 * f + c)) = 0
  · rw [if_pos h0, if_pos h0]
    rcases (show c = 0 ∨ c = 1 ∨ c = 2 ∨ c = 3 by omega) with rfl | rfl | rfl | rfl <;> rfl
  · rw [if_neg h0, if_neg h0, hbit, eq_shr5 (by omega), nI_l ha, lN_add, eq_and31 (by omega), lN_i, eq_ent hf hc, eq_CS (by omega), nI_add]
    obtain ⟨o1, o2, o3⟩ := eq_odd hcb h0
    generalize hDe : T * md_tb f = D at *
    generalize hCe : md_cs (4 * f + c) = cs at *
    generalize hSe : md_cb (4 * f + c) = sz at *
    have hu := pk_ushr (tu_word mem (lN (a + D / 32))) (nI (D % 32 + cs)) (D % 32 + cs) (eq_su _ (by
      rcases Nat.eq_zero_or_pos sz with z | z
      · subst z; simp at o2
      · omega))
    rw [eq_word (by omega)] at hu
    have hval : ((tu_word mem (lN (a + D / 32))).toUInt32 >>> ((nI (D % 32 + cs)).toUInt32 &&& Int32.toUInt32 31)).toInt32 &&& md_most sz = nI (eq_W mem (a + D / 32) / 2 ^ (D % 32 + cs) % 2 ^ sz) := by
      rw [pk_and _ sz (by rw [eq_mostN hcb, pk_tn (by omega)]), hu]
    rw [hval, eq_mdv hsh hcb sz (Nat.le_refl _), Nat.sub_self, Nat.pow_zero, Nat.div_one, eq_mostN hcb]
    have hv : eq_W mem (a + D / 32) / 2 ^ (D % 32 + cs) % 2 ^ sz < 2 ^ sz := Nat.mod_lt _ (pow_pos2 sz)
    have hv2 : eq_W mem (a + D / 32) / 2 ^ (D % 32 + cs) % 2 ^ sz ≤ 255 := by omega
    have hm2 : 2 ^ sz - 1 ≤ 255 := by omega
    clear hval hu hv
    generalize eq_W mem (a + D / 32) / 2 ^ (D % 32 + cs) % 2 ^ sz = v at hv2 ⊢
    generalize 2 ^ sz - 1 = mm at o1 o2 hm2 ⊢
    clear o3
    rw [show (65536 : Int32) = nI 65536 from rfl, show (131072 : Int32) = nI 131072 from rfl, show (2 : Int32) = nI 2 from rfl, pk_mul, pk_mul, pk_mul, nI_add, pk_shrN (by omega) _ 1 (by decide), nI_add, pk_div (by omega) (by omega) (by omega), pk_div (by omega) (by omega) (by omega), eq_round o1]
