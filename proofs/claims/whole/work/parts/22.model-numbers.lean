/-! numbers of the reference's reading of texels -/
def md_tb (f : Nat) : Nat := ([32, 16, 16, 16, 8, 8, 16, 4] : List Nat).getD f 0
def md_cb (k : Nat) : Nat := ([8, 8, 8, 8, 5, 6, 5, 0, 4, 4, 4, 4, 5, 5, 5, 1, 8, 8, 8, 0, 0, 0, 0, 8, 8, 8, 8, 8, 4, 4, 4, 0] : List Nat).getD k 0
def md_cs (k : Nat) : Nat := ([0, 8, 16, 24, 0, 5, 11, 0, 0, 4, 8, 12, 0, 5, 10, 15, 0, 0, 0, 0, 0, 0, 0, 0, 0, 0, 0, 8, 0, 0, 0, 0] : List Nat).getD k 0
theorem md_getD_le (b : Nat) : ∀ (L : List Nat), (∀ x ∈ L, x ≤ b) → ∀ k, L.getD k 0 ≤ b
  | [], _, k => by simp
  | x :: L, h, 0 => by simpa using h x List.mem_cons_self
  | x :: L, h, k + 1 => by simpa using md_getD_le b L (fun y hy => h y (List.mem_cons_of_mem _ hy)) k
theorem md_tb_le (f : Nat) : md_tb f ≤ 32 := md_getD_le 32 _ (by decide) f
theorem md_cb_le (k : Nat) : md_cb k ≤ 8 := md_getD_le 8 _ (by decide) k
theorem md_cs_le (k : Nat) : md_cs k ≤ 24 := md_getD_le 24 _ (by decide) k
theorem md_len_n {A k : Nat} (hA : A ≤ 10) (hk : k ≤ 11) : md_len (nI A) (nI k) = nI (2 ^ (A - k)) := by
  have h : ∀ A, A < 11 → ∀ k, k < 12 → md_len (nI A) (nI k) = nI (2 ^ (A - k)) := by decide +kernel
  exact h A (by omega) k (by omega)
theorem tu_len_n {A k : Nat} (hA : A ≤ 10) (hk : k ≤ 11) : tu_len (nI A) (nI k) = nI (2 ^ (A - k)) := by
  have h : ∀ A, A < 11 → ∀ k, k < 12 → tu_len (nI A) (nI k) = nI (2 ^ (A - k)) := by decide +kernel
  exact h A (by omega) k (by omega)
theorem md_e_n {A k : Nat} (hA : A ≤ 10) (hk : k ≤ 11) : md_e (nI A) (nI k) = nI (A - k) := by
  have h : ∀ A, A < 11 → ∀ k, k < 12 → md_e (nI A) (nI k) = nI (A - k) := by decide +kernel
  exact h A (by omega) k (by omega)
def ahN (A B : Nat) : Nat → Nat
  | 0 => 0
  | k + 1 => ahN A B k + 2 ^ (A - k) * 2 ^ (B - k)
theorem pow_le10 {A k : Nat} (hA : A ≤ 10) : 2 ^ (A - k) ≤ 1024 := Nat.le_trans (Nat.pow_le_pow_right (by decide) (show A - k ≤ 10 by omega)) (by decide)
theorem ahN_le {A B : Nat} (hA : A ≤ 10) (hB : B ≤ 10) : ∀ n, ahN A B n ≤ n * 1048576
  | 0 => by simp [ahN]
  | n + 1 => by
    have h1 := ahN_le hA hB n
    have h2 : 2 ^ (A - n) * 2 ^ (B - n) ≤ 1024 * 1024 := Nat.mul_le_mul (pow_le10 hA) (pow_le10 hB)
    simp only [ahN]
    omega
theorem md_ah_n {A B : Nat} (hA : A ≤ 10) (hB : B ≤ 10) : ∀ n, n ≤ 12 → md_ah (nI A) (nI B) n = nI (ahN A B n)
  | 0, _ => rfl
  | n + 1, h => by
    simp only [md_ah, ahN]
    rw [md_ah_n hA hB n (by omega), md_len_n hA (by omega), md_len_n hB (by omega), pk_mul, nI_add]
def md_T (A B n x y : Nat) : Nat := ahN A B n + y * 2 ^ (A - n) + x
theorem md_T_lt {A B n x y : Nat} (hA : A ≤ 10) (hB : B ≤ 10) (hn : n ≤ 11) (hx : x < 1024) (hy : y < 1024) : md_T A B n x y < 16777216 := by
  have h1 := ahN_le hA hB n
  have h2 : y * 2 ^ (A - n) ≤ 1024 * 1024 := Nat.mul_le_mul (by omega) (pow_le10 hA)
  have h3 : n * 1048576 ≤ 11 * 1048576 := Nat.mul_le_mul_right _ hn
  unfold md_T
  omega
theorem md_Te {g1 g2 : Int32} {A B n x y : Nat} (e1 : g1 = nI A) (e2 : g2 = nI B) (hA : A ≤ 10) (hB : B ≤ 10) (hn : n ≤ 11) : md_ah g1 g2 n + nI y * md_len g1 (nI n) + nI x = nI (md_T A B n x y) := by
  subst e1; subst e2
  rw [md_ah_n hA hB n (by omega), md_len_n hA hn, pk_mul, nI_add, nI_add]
  rfl
theorem md_at {T f : Nat} (hT : T < 16777216) : (nI T).toInt64 * (nI (md_tb f)).toInt64 = lN (T * md_tb f) := by
  have := md_tb_le f
  rw [nI_l (by omega), nI_l (by omega), lN_mul]
theorem md_knn {N k : Nat} (hN : N ≤ 8) (hk : k < N) : ¬ (nI (N - k) - 1 < 0) := by
  obtain ⟨d, hd⟩ : ∃ d, N - k = d + 1 := ⟨N - k - 1, by omega⟩
  rw [hd, nI_pred]
  exact nI_pos (by omega)
theorem md_kneg {N : Nat} : nI (N - N) - 1 < 0 := by
  rw [Nat.sub_self]; decide
theorem md_kd {N k : Nat} (hk : k < N) : nI (N - k) - 1 + (-1) = nI (N - (k + 1)) - 1 := by
  obtain ⟨d, hd⟩ : ∃ d, N - k = d + 1 := ⟨N - k - 1, by omega⟩
  have h2 : N - (k + 1) = d := by omega
  rw [hd, nI_pred, h2, Int32.sub_eq_add_neg]
theorem md_addr {T f q N k : Nat} (hT : T < 16777216) (hN : N ≤ 8) (hk : k < N) : lN (T * md_tb f) + (nI (md_cs q)).toInt64 + (nI (N - k) - 1).toInt64 = lN (T * md_tb f + md_cs q + (N - 1 - k)) := by
  obtain ⟨d, hd⟩ : ∃ d, N - k = d + 1 := ⟨N - k - 1, by omega⟩
  have h2 : N - 1 - k = d := by omega
  have := md_cs_le q
  rw [hd, nI_pred, h2, nI_l (by omega), nI_l (by omega), lN_add, lN_add]
theorem md_addr_lt {T f q d : Nat} (hT : T < 16777216) (hd : d ≤ 8) : T * md_tb f + md_cs q + d < 2 ^ 40 := by
  have h1 : T * md_tb f ≤ 16777216 * 32 := Nat.mul_le_mul (by omega) (md_tb_le f)
  have := md_cs_le q
  omega
def md_most (sz : Nat) : Int32 := 1 <<< (nI sz &&& 31) - 1
def md_fv (mem : Nat → Int32) (a base sz c : Nat) : Int32 := if md_most sz = 0 then (if c = 3 then 65536 else 0) else (131072 * md_v mem a base sz sz + md_most sz) / (2 * md_most sz)
def md_ch (mem : Nat → Int32) (a f T c : Nat) : Int32 := md_fv mem a (T * md_tb f + md_cs (4 * f + c)) (md_cb (4 * f + c)) c
theorem md_most2 {sz : Nat} (h : sz ≤ 8) (h0 : ¬ md_most sz = 0) : ¬ 2 * md_most sz = 0 := by
  have k : ∀ sz, sz < 9 → ¬ md_most sz = 0 → ¬ 2 * md_most sz = 0 := by decide +kernel
  exact k sz (by omega) h0
section TUJ
variable {p : Program} {l : Launch} {e : Env} {R : Room} {s : State} {m : MethodId} {args : Array Value} {below : List Frame} {meth : Method} {c : Code} {H : Heap} {locs : List Loc} {cells slots : Nat} {Q : State → Prop}
/-- two roads that meet with one number -/
theorem tu_join {g : JFrame} (f : Int32 → JFrame) (val : Int32) (k : W p l e R s m args below meth c H locs cells slots Q (f val)) (roads : (∀ v : Int32, v = val → W p l e R s m args below meth c H locs cells slots Q (f v)) → W p l e R s m args below meth c H locs cells slots Q g) : W p l e R s m args below meth c H locs cells slots Q g := roads (fun v ev => by rw [ev]; exact k)
end TUJ
