/-! both sides beside each other -/
abbrev lW (ad : Nat → Nat) (cI cU cJ : ClassId) (g : Nat → Option Nat) (mem un lat nxt : Nat → Int32) (B S : Nat → Nat → Int32) (th : Int32) (mem2 un2 bo lt : Nat → Int32) (sc : Nat → Nat → Int32) (of : Nat → Int64) : va_W :=
  [(ad 0, .inr (1, [.ref (ad 1), .ref (ad 2), .ref (ad 3), .ref (ad 4)])), (ad 1, .inl (cI, 2048, .inl mem)), (ad 2, .inl (cU, 4, .inr (.inr (.inr (.inr g))))), (ad 3, .inl (cI, 4, .inl lat)), (ad 4, .inl (cI, 4, .inl nxt)),
   (ad 5, .inr (0, [.int (un (8 * 0)), .int (un (8 * 0 + 4)), .int (un (8 * 0 + 1)), .int (un (8 * 0 + 2)), .int (un (8 * 0 + 3)), .int (un (8 * 0 + 5)), .int (un (8 * 0 + 6)), .int (un (8 * 0 + 7)), .ref (ad 6), .ref (ad 7)])), (ad 6, .inl (cI, 4, .inl (B 0))), (ad 7, .inl (cI, 12, .inl (S 0))),
   (ad 8, .inr (0, [.int (un (8 * 1)), .int (un (8 * 1 + 4)), .int (un (8 * 1 + 1)), .int (un (8 * 1 + 2)), .int (un (8 * 1 + 3)), .int (un (8 * 1 + 5)), .int (un (8 * 1 + 6)), .int (un (8 * 1 + 7)), .ref (ad 9), .ref (ad 10)])), (ad 9, .inl (cI, 4, .inl (B 1))), (ad 10, .inl (cI, 12, .inl (S 1))),
   (ad 11, .inr (0, [.int (un (8 * 2)), .int (un (8 * 2 + 4)), .int (un (8 * 2 + 1)), .int (un (8 * 2 + 2)), .int (un (8 * 2 + 3)), .int (un (8 * 2 + 5)), .int (un (8 * 2 + 6)), .int (un (8 * 2 + 7)), .ref (ad 12), .ref (ad 13)])), (ad 12, .inl (cI, 4, .inl (B 2))), (ad 13, .inl (cI, 12, .inl (S 2))),
   (ad 14, .inr (0, [.int (un (8 * 3)), .int (un (8 * 3 + 4)), .int (un (8 * 3 + 1)), .int (un (8 * 3 + 2)), .int (un (8 * 3 + 3)), .int (un (8 * 3 + 5)), .int (un (8 * 3 + 6)), .int (un (8 * 3 + 7)), .ref (ad 15), .ref (ad 16)])), (ad 15, .inl (cI, 4, .inl (B 3))), (ad 16, .inl (cI, 12, .inl (S 3))),
   (ad 17, .inr (2, [.int th, .ref (ad 18), .ref (ad 19), .ref (ad 20), .ref (ad 21), .ref (ad 22), .ref (ad 23), .ref (ad 24), .ref (ad 25), .ref (ad 26), .ref (ad 27)])), (ad 18, .inl (cI, 2048, .inl mem2)), (ad 19, .inl (cI, 32, .inl un2)), (ad 20, .inl (cI, 16, .inl bo)), (ad 21, .inl (cI, 4, .inl lt)),
   (ad 22, .inl (cI, 4, .inl (sc 0))), (ad 23, .inl (cI, 4, .inl (sc 1))), (ad 24, .inl (cI, 4, .inl (sc 2))), (ad 25, .inl (cI, 4, .inl (sc 3))), (ad 26, .inl (cI, 4, .inl (sc 4))), (ad 27, .inl (cI, 4, .inl (sc 5))), (ad 28, .inl (cJ, 1, .inr (.inl of)))]
/-- what is alike -/
def lI (un bo lat lt : Nat → Int32) (B S : Nat → Nat → Int32) : Prop :=
  (∀ j, j < 4 → ∃ a f ga gb lv ac dn fi : Nat, eq_unit un j a f ga gb lv ac dn fi ∧ ∀ n, n ≤ 11 → S j n = nI (ahN ga gb n)) ∧ (∀ j, j < 4 → ∀ c, c < 4 → B j c = bo (4 * j + c)) ∧ ∀ c, c < 4 → lat c = lt c
theorem up_ne {α : Type} {f : Nat → α} {k j : Nat} {v : α} (h : ¬ j = k) : va_up f k v j = f j := if_neg h
theorem win_nat {p lo hi : Int32} (h : ¬ tu_win p lo hi = 0) (h0 : 0 ≤ lo.toInt) : ∃ n : Nat, p = nI n ∧ lo.toInt ≤ n ∧ (n : Int) ≤ hi.toInt := by
  obtain ⟨h1, h2⟩ := tu_win_iff.mp h
  rw [Int32.lt_iff_toInt_lt] at h1 h2
  have hlt := Int32.toInt_lt p
  refine ⟨p.toInt.toNat, i32_ext ?_, by omega, by omega⟩
  rw [nI_toInt (by omega)]
  omega
theorem win_j {p : Int32} (h : ¬ tu_win p 0 3 = 0) : ∃ j, j < 4 ∧ p = nI j := by
  obtain ⟨n, e, -, h2⟩ := win_nat h (by decide)
  have h3 : (3 : Int32).toInt = 3 := by decide
  rw [h3] at h2
  exact ⟨n, by omega, e⟩
theorem un_at {un : Nat → Int32} {j k : Nat} {p1 p2 p3 p4 p5 : Int32} (h : k < 8 * j ∨ 8 * j + 4 < k) : upd (upd (upd (upd (upd un (8 * j) p1) (8 * j + 1) p2) (8 * j + 2) p3) (8 * j + 3) p4) (8 * j + 4) p5 k = un k := by
  rw [pk_un (by omega), pk_un (by omega), pk_un (by omega), pk_un (by omega), pk_un (by omega)]
theorem inv_picture {un bo lat lt : Nat → Int32} {B S : Nat → Nat → Int32} (h : lI un bo lat lt B S) {j : Nat} (hj : j < 4) {p1 p2 p3 p4 p5 : Int32} (hv : 0 ≤ p1 ∧ ¬ tu_win p2 0 10 = 0 ∧ ¬ tu_win p3 0 10 = 0 ∧ ¬ tu_win p4 1 11 = 0 ∧ ¬ tu_win p5 0 7 = 0) :
    lI (upd (upd (upd (upd (upd un (8 * j) p1) (8 * j + 1) p2) (8 * j + 2) p3) (8 * j + 3) p4) (8 * j + 4) p5) bo lat lt B (va_up S j (tu_lay p2 p3 (S j) 11)) := by
  refine ⟨fun k hk => ?_, h.2.1, h.2.2⟩
  by_cases hkj : k = j
  · subst hkj
    obtain ⟨a, f, ga, gb, lv, ac, dn, fi, hu, hs⟩ := h.1 k hk
    obtain ⟨n2, rfl, -, g2⟩ := win_nat hv.2.1 (by decide)
    obtain ⟨n3, rfl, -, g3⟩ := win_nat hv.2.2.1 (by decide)
    obtain ⟨n4, rfl, g4, g5⟩ := win_nat hv.2.2.2.1 (by decide)
    obtain ⟨n5, rfl, -, g6⟩ := win_nat hv.2.2.2.2 (by decide)
    have c10 : (10 : Int32).toInt = 10 := by decide
    have c11 : (11 : Int32).toInt = 11 := by decide
    have c1 : (1 : Int32).toInt = 1 := by decide
    have c7 : (7 : Int32).toInt = 7 := by decide
    rw [c10] at g2 g3
    rw [c11] at g5
    rw [c1] at g4
    rw [c7] at g6
    have h1 := hv.1
    rw [Int32.le_iff_toInt_le, Int32.toInt_zero] at h1
    have hlt := Int32.toInt_lt p1
    obtain ⟨⟨-, -, -, -, -, b6, b7, b8⟩, -, -, -, -, -, e5, e6, e7⟩ := hu
    refine ⟨p1.toInt.toNat, n5, n2, n3, n4, ac, dn, fi, ⟨⟨by omega, by omega, by omega, by omega, ⟨by omega, by omega⟩, b6, b7, b8⟩, ?_, ?_, ?_, ?_, ?_, ?_, ?_, ?_⟩, fun n hn => ?_⟩
    · rw [pk_un (by omega), pk_un (by omega), pk_un (by omega), pk_un (by omega), pk_us]
      exact i32_ext (by rw [nI_toInt (by omega)]; omega)
    · rw [pk_un (by omega), pk_un (by omega), pk_un (by omega), pk_us]
    · rw [pk_un (by omega), pk_un (by omega), pk_us]
    · rw [pk_un (by omega), pk_us]
    · rw [pk_us]
    · rw [un_at (by omega)]; exact e5
    · rw [un_at (by omega)]; exact e6
    · rw [un_at (by omega)]; exact e7
    · rw [va_up_self]
      refine eq_lay (by omega) (by omega) (S k) ?_ 11 n hn (by omega)
      have := hs 0 (by omega)
      exact this
  · obtain ⟨a, f, ga, gb, lv, ac, dn, fi, ⟨b, e0, e1, e2, e3, e4, e5, e6, e7⟩, hs⟩ := h.1 k hk
    refine ⟨a, f, ga, gb, lv, ac, dn, fi, ⟨b, ?_, ?_, ?_, ?_, ?_, ?_, ?_, ?_⟩, fun n hn => ?_⟩
    · rw [un_at (by omega)]; exact e0
    · rw [un_at (by omega)]; exact e1
    · rw [un_at (by omega)]; exact e2
    · rw [un_at (by omega)]; exact e3
    · rw [un_at (by omega)]; exact e4
    · rw [un_at (by omega)]; exact e5
    · rw [un_at (by omega)]; exact e6
    · rw [un_at (by omega)]; exact e7
    · rw [up_ne hkj]; exact hs n hn
theorem un_at3 {un : Nat → Int32} {j k : Nat} {p1 p2 p3 : Int32} (h : k < 8 * j + 5 ∨ 8 * j + 7 < k) : upd (upd (upd un (8 * j + 5) p1) (8 * j + 6) p2) (8 * j + 7) p3 k = un k := by
  rw [pk_un (by omega), pk_un (by omega), pk_un (by omega)]
theorem inv_manner {un bo lat lt : Nat → Int32} {B S : Nat → Nat → Int32} (h : lI un bo lat lt B S) {j : Nat} (hj : j < 4) {p1 p2 p3 : Int32} (hv : ¬ tu_win p1 0 3 = 0 ∧ ¬ tu_win p2 0 3 = 0 ∧ ¬ tu_win p3 0 3 = 0) :
    lI (upd (upd (upd un (8 * j + 5) p1) (8 * j + 6) p2) (8 * j + 7) p3) bo lat lt B S := by
  refine ⟨fun k hk => ?_, h.2.1, h.2.2⟩
  obtain ⟨a, f, ga, gb, lv, ac, dn, fi, ⟨⟨b1, b2, b3, b4, b5, b6, b7, b8⟩, e0, e1, e2, e3, e4, e5, e6, e7⟩, hs⟩ := h.1 k hk
  by_cases hkj : k = j
  · subst hkj
    obtain ⟨m1, hm1, rfl⟩ := win_j hv.1
    obtain ⟨m2, hm2, rfl⟩ := win_j hv.2.1
    obtain ⟨m3, hm3, rfl⟩ := win_j hv.2.2
    refine ⟨a, f, ga, gb, lv, m1, m2, m3, ⟨⟨b1, b2, b3, b4, b5, hm1, hm2, hm3⟩, ?_, ?_, ?_, ?_, ?_, ?_, ?_, ?_⟩, hs⟩
    · rw [un_at3 (by omega)]; exact e0
    · rw [un_at3 (by omega)]; exact e1
    · rw [un_at3 (by omega)]; exact e2
    · rw [un_at3 (by omega)]; exact e3
    · rw [un_at3 (by omega)]; exact e4
    · rw [pk_un (by omega), pk_un (by omega), pk_us]
    · rw [pk_un (by omega), pk_us]
    · rw [pk_us]
  · refine ⟨a, f, ga, gb, lv, ac, dn, fi, ⟨⟨b1, b2, b3, b4, b5, b6, b7, b8⟩, ?_, ?_, ?_, ?_, ?_, ?_, ?_, ?_⟩, hs⟩
    · rw [un_at3 (by omega)]; exact e0
    · rw [un_at3 (by omega)]; exact e1
    · rw [un_at3 (by omega)]; exact e2
    · rw [un_at3 (by omega)]; exact e3
    · rw [un_at3 (by omega)]; exact e4
    · rw [un_at3 (by omega)]; exact e5
    · rw [un_at3 (by omega)]; exact e6
    · rw [un_at3 (by omega)]; exact e7
theorem inv_border {un bo lat lt : Nat → Int32} {B S : Nat → Nat → Int32} (h : lI un bo lat lt B S) {j : Nat} (hj : j < 4) {p1 p2 p3 p4 : Int32} :
    lI un (upd (upd (upd (upd bo (4 * j) p1) (4 * j + 1) p2) (4 * j + 2) p3) (4 * j + 3) p4) lat lt (va_up B j (tu_put4 (B j) p1 p2 p3 p4)) S := by
  refine ⟨h.1, fun k hk c hc => ?_, h.2.2⟩
  by_cases hkj : k = j
  · subst hkj
    rw [va_up_self]
    rcases (show c = 0 ∨ c = 1 ∨ c = 2 ∨ c = 3 by omega) with rfl | rfl | rfl | rfl
    · rw [pk_un (by omega), pk_un (by omega), pk_un (by omega), Nat.add_zero, pk_us]; rfl
    · rw [pk_un (by omega), pk_un (by omega), pk_us]; rfl
    · rw [pk_un (by omega), pk_us]; rfl
    · rw [pk_us]; rfl
  · rw [up_ne hkj, h.2.1 k hk c hc, pk_un (by omega), pk_un (by omega), pk_un (by omega), pk_un (by omega)]
/-- the frame rule, the rest of the world by its places -/
theorem tu_frame {A0 : Nat → Prop} {D : va_G} {cl : List vw_C} {ws wc w1 W2 : va_W} {H H1 : Heap} (hP : va_P D cl ws H) (hD : va_D A0 ws) (isC isR ord : List Nat) (hC : isC.map (fun i => ws[i]?) = wc.map some) (hR : isR.map (fun i => ws[i]?) = (isR.filterMap (fun i => ws[i]?)).map some) (hn : va_nd isR = true) (hdis : ∀ i ∈ isR, i ∉ isC)
    (hk : ∀ q : Nat, q < H.size → ¬ va_A wc H.size q → H1[q]? = H[q]?) (hF : ∀ q, va_A wc H.size q → A0 q) (hP1 : va_P D cl w1 H1) (hD1 : va_D (va_A wc H.size) w1)
    (ho : ord.map (fun i => (isR.filterMap (fun i => ws[i]?) ++ w1)[i]?) = W2.map some) (hno : va_nd ord = true) : va_P D cl W2 H1 ∧ va_D A0 W2 := by
  obtain ⟨a, b⟩ := va_join hP hD isC isR hC hR hn hdis hk hF hP1 hD1
  have hb := b.sub ord hno ho
  refine ⟨fun k q hq => ?_, hb⟩
  have h1 : (ord.map (fun i => (isR.filterMap (fun i => ws[i]?) ++ w1)[i]?))[k]? = some (some q) := by rw [ho, List.getElem?_map, hq]; rfl
  rw [List.getElem?_map] at h1
  cases hi : ord[k]? with
  | none => rw [hi] at h1; cases h1
  | some i => rw [hi] at h1; exact a i q (Option.some.inj h1)
/-- the start of a small method of the law that catches -/
theorem wx_blind {av : List Value} {D : va_G} {cl : List vw_C} {ws : va_W} {tys : List (ClassId × FieldType)} {sz : Nat} : FrameBlind (va_Pc av (fun U => wr_P D cl ws tys sz U ∧ ex_E (fun _ => False) U U.heap)) := fun a U g mk q => ⟨q.1, ⟨q.2.1.1, q.2.1.2.1, va_K.moved (u := U) (U := U.calling g mk a) (Vm.Alike.refl U.vm) q.2.1.2.2.1, q.2.1.2.2.2⟩, ex_E.warm (s := U) (U := U.calling g mk a) (State.WarmedH.refl U) q.2.2⟩
theorem wx_use {s : State} {H0 H : Heap} {D : va_G} {cl : List vw_C} {ws : va_W} {tys : List (ClassId × FieldType)} {A : Nat → Prop} {locs : List Loc} (hP : va_P D cl ws H) (hK : va_K D cl tys s) (hD : va_D A ws) (hE : ex_E A s H0) (hS : va_S A H0 H locs) : ∀ U : State, U.heap = H → s.WarmedH U.vm → (wr_P D cl ws tys H.size U ∧ ex_E (fun _ => False) U U.heap) := fun U hU hW => ⟨wr_use hP hK hD U hU hW, by rw [hU]; exact ex_E.warm hW ((hE.kept hS.2.1).narrow (fun _ h => h.elim))⟩
theorem lw_hts {args : Array Value} {s : State} (h : ∀ w ∈ lw_tbl, w.before args s = true) : ∀ w ∈ (Cond.initialized "TextureUnits") :: TW, w.before args s = true := fun w hw => (List.mem_cons.mp hw).elim (fun e => by rw [e]; exact h _ (tw_in tw_1)) (fun hw => h w (tw_in hw))
theorem tx_len {p w : Int32} {W9 : Nat} (e : w = nI W9) (h0 : 0 < W9) (h1 : W9 ≤ 1024) : ¬ tu_win p 0 (w - 1) = 0 ↔ ¬ p < 0 ∧ ¬ w ≤ p := by
  subst e
  obtain ⟨q, rfl⟩ : ∃ q, W9 = q + 1 := ⟨W9 - 1, by omega⟩
  rw [tu_win_iff, nI_pred, Int32.lt_iff_toInt_lt, Int32.lt_iff_toInt_lt, Int32.le_iff_toInt_le, nI_toInt (by omega), nI_toInt (by omega)]
  omega
theorem tx_lev {p : Int32} {lv : Nat} (h1 : 1 ≤ lv) (h2 : lv ≤ 11) (h : ¬ tu_win p 0 (nI lv - 1) = 0) : ∃ n, p = nI n ∧ n + 1 ≤ lv := by
  obtain ⟨q, rfl⟩ : ∃ q, lv = q + 1 := ⟨lv - 1, by omega⟩
  rw [nI_pred] at h
  obtain ⟨n, e, -, h4⟩ := win_nat h (by decide)
  rw [nI_toInt (by omega)] at h4
  exact ⟨n, e, by omega⟩
/-- a texel is there for the class just when it is for the reference -/
theorem tx_iff {un : Nat → Int32} {j a f ga gb lv ac dn fi : Nat} (hu : eq_unit un j a f ga gb lv ac dn fi) (p1 p2 p3 p4 : Int32) :
    (¬ tu_win p1 0 (un (8 * j + 3) - 1) = 0 ∧ ¬ tu_win p2 0 (tu_len (un (8 * j + 1)) p1 - 1) = 0 ∧ ¬ tu_win p3 0 (tu_len (un (8 * j + 2)) p1 - 1) = 0 ∧ ¬ tu_win p4 0 3 = 0) ↔
    (¬ tu_win p1 0 (un (8 * j + 3) - 1) = 0 ∧ ¬ p2 < 0 ∧ ¬ p3 < 0 ∧ ¬ tu_win p4 0 3 = 0 ∧ ¬ md_len (un (8 * j + 1)) p1 ≤ p2 ∧ ¬ md_len (un (8 * j + 2)) p1 ≤ p3) := by
  obtain ⟨⟨-, -, b3, b4, b5, -, -, -⟩, -, e1, e2, e3, -⟩ := hu
  rw [e1, e2, e3]
  by_cases h : tu_win p1 0 (nI lv - 1) = 0
  · exact ⟨fun q => absurd h q.1, fun q => absurd h q.1⟩
  · obtain ⟨n, rfl, hn⟩ := tx_lev b5.1 b5.2 h
    rw [tx_len (tu_len_n b3 (by omega)) (pow_pos2 _) (pow_le10 b3), tx_len (tu_len_n b4 (by omega)) (pow_pos2 _) (pow_le10 b4), tu_len_n b3 (by omega), tu_len_n b4 (by omega), md_len_n b3 (by omega), md_len_n b4 (by omega)]
    constructor
    · rintro ⟨q1, ⟨q2, q3⟩, ⟨q4, q5⟩, q6⟩
      exact ⟨q1, q2, q4, q6, q3, q5⟩
    · rintro ⟨q1, q2, q4, q6, q3, q5⟩
      exact ⟨q1, ⟨q2, q3⟩, ⟨q4, q5⟩, q6⟩
/-- the places of a texel that is there, as natural numbers -/
theorem tx_nat {un : Nat → Int32} {j a f ga gb lv ac dn fi : Nat} (hu : eq_unit un j a f ga gb lv ac dn fi) {p1 p2 p3 p4 : Int32}
    (hv : ¬ tu_win p1 0 (un (8 * j + 3) - 1) = 0 ∧ ¬ tu_win p2 0 (tu_len (un (8 * j + 1)) p1 - 1) = 0 ∧ ¬ tu_win p3 0 (tu_len (un (8 * j + 2)) p1 - 1) = 0 ∧ ¬ tu_win p4 0 3 = 0) :
    ∃ n x y c, (p1 = nI n ∧ n ≤ 10) ∧ (p2 = nI x ∧ x < 1024) ∧ (p3 = nI y ∧ y < 1024) ∧ p4 = nI c ∧ c < 4 := by
  obtain ⟨⟨-, -, b3, b4, b5, -, -, -⟩, -, e1, e2, e3, -⟩ := hu
  rw [e1, e2, e3] at hv
  obtain ⟨v1, v2, v3, v4⟩ := hv
  obtain ⟨n, rfl, hn⟩ := tx_lev b5.1 b5.2 v1
  rw [tu_len_n b3 (by omega)] at v2
  rw [tu_len_n b4 (by omega)] at v3
  have g1 := pow_le10 (k := n) b3
  have g2 := pow_le10 (k := n) b4
  have k1 := pow_pos2 (ga - n)
  have k2 := pow_pos2 (gb - n)
  obtain ⟨w1, hw1⟩ : ∃ q, 2 ^ (ga - n) = q + 1 := ⟨2 ^ (ga - n) - 1, by omega⟩
  obtain ⟨w2, hw2⟩ : ∃ q, 2 ^ (gb - n) = q + 1 := ⟨2 ^ (gb - n) - 1, by omega⟩
  rw [hw1, nI_pred] at v2
  rw [hw2, nI_pred] at v3
  obtain ⟨x, rfl, -, hx⟩ := win_nat v2 (by decide)
  obtain ⟨y, rfl, -, hy⟩ := win_nat v3 (by decide)
  obtain ⟨c, hc, rfl⟩ := win_j v4
  rw [nI_toInt (by omega)] at hx hy
  exact ⟨n, x, y, c, ⟨rfl, by omega⟩, ⟨rfl, by omega⟩, ⟨rfl, by omega⟩, rfl, hc⟩
