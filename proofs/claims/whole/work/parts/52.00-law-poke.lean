theorem tw_0 : (Cond.initialized "TextureUnitsLaw") ∈ TW := tw_t1 0 (by decide +kernel) (by decide +kernel)
theorem tw_367 : (Cond.methodLink "TextureUnitsLaw" 56 ⟨"TextureUnitsModel", "thrown", "()I"⟩) ∈ TW := tw_t2 127 (by decide +kernel) (by decide +kernel)
theorem tw_368 : (Cond.instanceMethod ⟨"TextureUnitsModel", "thrown", "()I"⟩) ∈ TW := tw_t2 128 (by decide +kernel) (by decide +kernel)
theorem tw_369 : (Cond.selects "TextureUnitsModel" ⟨"TextureUnitsModel", "thrown", "()I"⟩ ⟨"TextureUnitsModel", "thrown", "()I"⟩) ∈ TW := tw_t2 129 (by decide +kernel) (by decide +kernel)
theorem tw_370 : (Cond.code ⟨"TextureUnitsModel", "thrown", "()I"⟩ prog_4_method_2_code 1 (.some .int)) ∈ TW := tw_t2 130 (by decide +kernel) (by decide +kernel)
theorem tw_371 : (Cond.methodLink "TextureUnitsLaw" 55 ⟨"TextureUnitsModel", "poke", "(II)V"⟩) ∈ TW := tw_t2 131 (by decide +kernel) (by decide +kernel)
theorem tw_372 : (Cond.instanceMethod ⟨"TextureUnitsModel", "poke", "(II)V"⟩) ∈ TW := tw_t2 132 (by decide +kernel) (by decide +kernel)
theorem tw_373 : (Cond.selects "TextureUnitsModel" ⟨"TextureUnitsModel", "poke", "(II)V"⟩ ⟨"TextureUnitsModel", "poke", "(II)V"⟩) ∈ TW := tw_t2 133 (by decide +kernel) (by decide +kernel)
theorem tw_374 : (Cond.code ⟨"TextureUnitsModel", "poke", "(II)V"⟩ prog_4_method_5_code 3 .none) ∈ TW := tw_t2 134 (by decide +kernel) (by decide +kernel)
theorem tw_86 : (Cond.methodLink "TextureUnitsLaw" 50 ⟨"TextureUnitsLaw", "poke", "(LTextureUnits;II)I"⟩) ∈ TW := tw_t1 86 (by decide +kernel) (by decide +kernel)
theorem tw_87 : (Cond.static ⟨"TextureUnitsLaw", "poke", "(LTextureUnits;II)I"⟩) ∈ TW := tw_t1 87 (by decide +kernel) (by decide +kernel)
theorem tw_88 : (Cond.codeWith ⟨"TextureUnitsLaw", "poke", "(LTextureUnits;II)I"⟩ method_3_code 4 (.some .int) [(0, 6, 9, 13)]) ∈ TW := tw_t1 88 (by decide +kernel) (by decide +kernel)
set_option maxHeartbeats 4000000 in
set_option maxRecDepth 100000 in
theorem st_poke_0 {p : Program} {l : Launch} {e : Env} {s : State} {m : MethodId} {below : List Frame} {meth : Method} {c : Code} {dC : Nat → ClassId} {dI : Nat → Nat → Nat} {b L : Nat} {xs : Nat → Int32} (hst : l.stackTraces = false) (C0 : lw_At p s m meth c b L xs) {ad : Nat → Nat} {cI cU cJ : ClassId} {g : Nat → Option Nat} {tb : Nat × Nat × Nat} (hg9 : ∀ j, j < 4 → g j = some (ad (5 + 3 * j))) (hK : va_K (dC, dI) vwCl [(cI, .int), (cU, .object "TextureUnits$Unit"), (cJ, .long)] s) (hX9 : tb_T tb (fun q : Nat => s.heap.size ≤ q) s s.heap) (hE : ex_E (fun q : Nat => s.heap.size ≤ q) s s.heap) (hL : L ≤ 3584) {i : Nat} (hi : i + 7 ≤ L) {cells slots : Nat} (hc : cells + 1 ≤ room_1.cells) (hs : slots + 6 ≤ room_1.slots)
    (K9 : ∀ (mem un lat nxt : Nat → Int32) (B S : Nat → Nat → Int32) (th : Int32) (bo lt : Nat → Int32) (sc : Nat → Nat → Int32) (of : Nat → Int64), lI un bo lat lt B S → ∀ (H : Heap) (locs : List Loc), va_P (dC, dI) vwCl (lW ad cI cU cJ g mem un lat nxt B S th mem un bo lt sc of) H → va_D (fun q : Nat => s.heap.size ≤ q) (lW ad cI cU cJ g mem un lat nxt B S th mem un bo lt sc of) → va_S (fun q : Nat => s.heap.size ≤ q) s.heap H locs → ∀ (ls : Array Slot), lv_has ls 7 [(0, .ref b), (1, .ref (ad 0)), (2, .ref (ad 17)), (3, .ref (ad 28)), (4, .int (nI i))] → W p l e room_1 s m #[Value.ref b] below meth c H locs (cells + 1) (slots + 6) (lw_Z below #[Value.ref b] s) (F0 m 698 ls []))
    {mem un lat nxt : Nat → Int32} {B S : Nat → Nat → Int32} {th : Int32} {bo lt : Nat → Int32} {sc : Nat → Nat → Int32} {of : Nat → Int64} (hI : lI un bo lat lt B S) {H : Heap} {locs : List Loc} (hP : va_P (dC, dI) vwCl (lW ad cI cU cJ g mem un lat nxt B S th mem un bo lt sc of) H) (hD : va_D (fun q : Nat => s.heap.size ≤ q) (lW ad cI cU cJ g mem un lat nxt B S th mem un bo lt sc of)) (hS : va_S (fun q : Nat => s.heap.size ≤ q) s.heap H locs) {ls : Array Slot} (hl : lv_has ls 7 [(0, .ref b), (1, .ref (ad 0)), (2, .ref (ad 17)), (3, .ref (ad 28)), (4, .int (nI i))]) (h0 : ¬ tu_win (xs (i + 1)) 0 2047 = 0) : W p l e room_1 s m #[Value.ref b] below meth c H locs cells slots (lw_Z below #[Value.ref b] s) (F0 m 88 ls []) := by
  obtain ⟨hx, hb, hr, hml, hown, hts0, hX, hbl, hlocks, hgv⟩ := id C0
  have hts := lw_hts hts0
  have hA : ∀ q : Nat, s.heap.size ≤ q → (fun q : Nat => s.heap.size ≤ q) q := fun _ h => h
  have hbA : ¬ (fun q : Nat => s.heap.size ≤ q) b := Nat.not_le.mpr hbl
  refine lv_aload_n hx hb dL_law_88 rfl (lv_at hl 1 rfl) ?_
  refine lv_aload_n hx hb dL_law_89 rfl (lv_at hl 0 rfl) ?_
  refine lv_iload hx hb dL_law_90 (lv_at hl 4 rfl) ?_
  refine lv_iconst (v := 1) hx hb dL_law_92 (by decide) ?_
  refine lv_iadd hx hb dL_law_93 ?_
  refine lv_topi (fun x_1 ex_1 => ?_)
  have ex_1 : x_1 = nI (i + 1) := ex_1.trans (nI_add i 1)
  subst ex_1
  refine va_sld hx hb hX hbl hbA hS (vp_in_nI (by omega) (by omega)) dL_law_94 ?_
  refine lv_topi (fun x_2 ex_2 => ?_)
  have ex_2 : xs (i + 1) = x_2 := (ex_2.trans (congrArg xs (nI_clamp (by omega)))).symm
  subst ex_2
  refine lv_aload_n hx hb dL_law_95 rfl (lv_at hl 0 rfl) ?_
  refine lv_iload hx hb dL_law_96 (lv_at hl 4 rfl) ?_
  refine lv_iconst (v := 2) hx hb dL_law_98 (by decide) ?_
  refine lv_iadd hx hb dL_law_99 ?_
  refine lv_topi (fun x_3 ex_3 => ?_)
  have ex_3 : x_3 = nI (i + 2) := ex_3.trans (nI_add i 2)
  subst ex_3
  refine va_sld hx hb hX hbl hbA hS (vp_in_nI (by omega) (by omega)) dL_law_100 ?_
  refine lv_topi (fun x_4 ex_4 => ?_)
  have ex_4 : xs (i + 2) = x_4 := (ex_4.trans (congrArg xs (nI_clamp (by omega)))).symm
  subst ex_4
  have hPc := hP.sub (ws' := [((ad 0), .inr (1, [.ref (ad 1), .ref (ad 2), .ref (ad 3), .ref (ad 4)])), ((ad 1), .inl (cI, 2048, .inl mem))]) [0, 1] rfl
  have hDc := hD.sub (ws' := [((ad 0), .inr (1, [.ref (ad 1), .ref (ad 2), .ref (ad 3), .ref (ad 4)])), ((ad 1), .inl (cI, 2048, .inl mem))]) [0, 1] (by decide) rfl
  have hFc := va_free (wc := [((ad 0), .inr (1, [.ref (ad 1), .ref (ad 2), .ref (ad 3), .ref (ad 4)])), ((ad 1), .inl (cI, 2048, .inl mem))]) hD hS hA [0, 1] rfl
  refine va_calli (vx_runSW (As := [.ref (ad 0), .int (xs (i + 1)), .int (xs (i + 2))]) (rest := []) ⟨hx, hb, hml, hown, hts⟩ (k_poke0 l dC dI (ad 0) (ad 1) (ad 2) (ad 3) (ad 4) cI mem (xs (i + 1)) (xs (i + 2)) H.size h0) (vx_cwSW 3 hts (tg_S tw_86 tw_87 tw_0 tw_88) rfl rfl rfl (by decide +kernel) ⟨Nat.le_of_ble_eq_true rfl, Nat.le_of_ble_eq_true rfl⟩) ⟨wr_blind, fun U hU hW => ⟨rfl, wr_use hPc (hK.sub [0] rfl) hDc U hU hW⟩⟩ rfl rfl hl.1 rfl (lv_room (Nat.le_of_ble_eq_true rfl)) dL_law_101 ⟨by omega, by omega⟩) hS (fun q _ h => hFc q h) hFc (fun r9 u9 t9 H1 locs ht hvm hw hB hz1 hk1 hS => ?_)
  obtain ⟨hP1, hK1, hD1⟩ := hB
  rw [ht] at hP1
  subst hw
  obtain ⟨hP, hD⟩ := tu_frame (w1 := [((ad 0), .inr (1, [.ref (ad 1), .ref (ad 2), .ref (ad 3), .ref (ad 4)])), ((ad 1), .inl (cI, 2048, .inl (upd mem (xs (i + 1)).toNatClampNeg (xs (i + 2)))))]) (W2 := (lW ad cI cU cJ g (upd mem (xs (i + 1)).toNatClampNeg (xs (i + 2))) un lat nxt B S th mem un bo lt sc of)) hP hD [0, 1] [2, 3, 4, 5, 6, 7, 8, 9, 10, 11, 12, 13, 14, 15, 16, 17, 18, 19, 20, 21, 22, 23, 24, 25, 26, 27, 28] [27, 28, 0, 1, 2, 3, 4, 5, 6, 7, 8, 9, 10, 11, 12, 13, 14, 15, 16, 17, 18, 19, 20, 21, 22, 23, 24, 25, 26] rfl rfl (by decide) (by decide) hk1 hFc hP1 hD1 rfl (by decide)
  clear hPc hDc hFc hP1 hK1 hD1 hk1 hz1
  generalize H1 = H at hP hS ⊢
  clear ht hvm
  refine lv_istore (lv' := [(5, .int 0), (0, .ref b), (1, .ref (ad 0)), (2, .ref (ad 17)), (3, .ref (ad 28)), (4, .int (nI i))]) hx hb dL_law_104 hl (by decide) rfl (fun ls hl => ?_)
  refine lv_aload_n hx hb dL_law_106 rfl (lv_at hl 3 rfl) ?_
  refine lv_aload_n hx hb dL_law_107 rfl (lv_at hl 1 rfl) ?_
  refine lv_iload hx hb dL_law_108 (lv_at hl 5 rfl) ?_
  refine lv_iconst (v := 1) hx hb dL_law_110 (by decide) ?_
  refine lv_iadd hx hb dL_law_111 ?_
  refine lv_topi (fun x_5 ex_5 => ?_)
  have ex_5 : x_5 = nI (i + 1) := ex_5.trans (nI_add i 1)
  subst ex_5
  refine va_sld hx hb hX hbl hbA hS (vp_in_nI (by omega) (by omega)) dL_law_112 ?_
  refine lv_topi (fun x_6 ex_6 => ?_)
  have ex_6 : xs (i + 1) = x_6 := (ex_6.trans (congrArg xs (nI_clamp (by omega)))).symm
  subst ex_6
  refine lv_aload_n hx hb dL_law_113 rfl (lv_at hl 1 rfl) ?_
  refine lv_iload hx hb dL_law_114 (lv_at hl 5 rfl) ?_
  refine lv_iconst (v := 2) hx hb dL_law_116 (by decide) ?_
  refine lv_iadd hx hb dL_law_117 ?_
  refine lv_topi (fun x_7 ex_7 => ?_)
  have ex_7 : x_7 = nI (i + 2) := ex_7.trans (nI_add i 2)
  subst ex_7
  refine va_sld hx hb hX hbl hbA hS (vp_in_nI (by omega) (by omega)) dL_law_118 ?_
  refine lv_topi (fun x_8 ex_8 => ?_)
  have ex_8 : xs (i + 2) = x_8 := (ex_8.trans (congrArg xs (nI_clamp (by omega)))).symm
  subst ex_8
  have hPc := hP.sub (ws' := [((ad 17), .inr (2, [.int th, .ref (ad 18), .ref (ad 19), .ref (ad 20), .ref (ad 21), .ref (ad 22), .ref (ad 23), .ref (ad 24), .ref (ad 25), .ref (ad 26), .ref (ad 27)])), ((ad 18), .inl (cI, 2048, .inl mem))]) [17, 18] rfl
  have hDc := hD.sub (ws' := [((ad 17), .inr (2, [.int th, .ref (ad 18), .ref (ad 19), .ref (ad 20), .ref (ad 21), .ref (ad 22), .ref (ad 23), .ref (ad 24), .ref (ad 25), .ref (ad 26), .ref (ad 27)])), ((ad 18), .inl (cI, 2048, .inl mem))]) [17, 18] (by decide) rfl
  have hFc := va_free (wc := [((ad 17), .inr (2, [.int th, .ref (ad 18), .ref (ad 19), .ref (ad 20), .ref (ad 21), .ref (ad 22), .ref (ad 23), .ref (ad 24), .ref (ad 25), .ref (ad 26), .ref (ad 27)])), ((ad 18), .inl (cI, 2048, .inl mem))]) hD hS hA [17, 18] rfl
  refine va_callv (va_runV (As := [.int (xs (i + 1)), .int (xs (i + 2))]) (rest := []) ⟨hx, hb, hml, hown, hts⟩ (m_poke0 l dC dI (ad 17) th (ad 18) (ad 19) (ad 20) (ad 21) (ad 22) (ad 23) (ad 24) (ad 25) (ad 26) (ad 27) cI mem (xs (i + 1)) (xs (i + 2)) H.size h0) (cwV 2 hts (tg_V tw_371 tw_372 tw_373 tw_3 tw_374) rfl rfl rfl (by decide +kernel) ⟨Nat.le_of_ble_eq_true rfl, Nat.le_of_ble_eq_true rfl⟩) ⟨wr_blind, va_recv hK hP (ci := 2) (q0 := 17) rfl rfl, fun U hU hW => ⟨rfl, wr_use hPc (hK.sub [0] rfl) hDc U hU hW⟩⟩ rfl rfl hl.1 rfl (lv_room (Nat.le_of_ble_eq_true rfl)) dL_law_119 ⟨by omega, by omega⟩) hS (fun q _ h => hFc q h) hFc (fun u9 t9 H1 locs ht hvm hw hB hz1 hk1 hS => ?_)
  obtain ⟨hP1, hK1, hD1⟩ := hB
  rw [ht] at hP1
  obtain ⟨hP, hD⟩ := tu_frame (w1 := [((ad 17), .inr (2, [.int 0, .ref (ad 18), .ref (ad 19), .ref (ad 20), .ref (ad 21), .ref (ad 22), .ref (ad 23), .ref (ad 24), .ref (ad 25), .ref (ad 26), .ref (ad 27)])), ((ad 18), .inl (cI, 2048, .inl (upd mem (xs (i + 1)).toNatClampNeg (xs (i + 2)))))]) (W2 := (lW ad cI cU cJ g (upd mem (xs (i + 1)).toNatClampNeg (xs (i + 2))) un lat nxt B S 0 (upd mem (xs (i + 1)).toNatClampNeg (xs (i + 2))) un bo lt sc of)) hP hD [17, 18] [0, 1, 2, 3, 4, 5, 6, 7, 8, 9, 10, 11, 12, 13, 14, 15, 16, 19, 20, 21, 22, 23, 24, 25, 26, 27, 28] [0, 1, 2, 3, 4, 5, 6, 7, 8, 9, 10, 11, 12, 13, 14, 15, 16, 27, 28, 17, 18, 19, 20, 21, 22, 23, 24, 25, 26] rfl rfl (by decide) (by decide) hk1 hFc hP1 hD1 rfl (by decide)
  clear hPc hDc hFc hP1 hK1 hD1 hk1 hz1
  generalize H1 = H at hP hS ⊢
  clear ht hvm
  refine lv_aload_n hx hb dL_law_122 rfl (lv_at hl 3 rfl) ?_
  refine rd_call (W.runV (As := []) (rest := []) ⟨hx, hb, hml, hown, hts⟩ (m_thrown l dC dI (ad 17) 0 (ad 18) (ad 19) (ad 20) (ad 21) (ad 22) (ad 23) (ad 24) (ad 25) (ad 26) (ad 27)) (cwV 0 hts (tg_V tw_367 tw_368 tw_369 tw_3 tw_370) rfl rfl rfl (by decide +kernel) ⟨Nat.le_of_ble_eq_true rfl, Nat.le_of_ble_eq_true rfl⟩) ⟨rd_blind, va_recv hK hP (ci := 2) (q0 := 17) rfl rfl, fun U hU hW => ⟨rfl, rd_use (hP.sub [17] rfl) (hK.sub [] rfl) U hU hW⟩⟩ rfl rfl hl.1 rfl (lv_room (Nat.le_of_ble_eq_true rfl)) dL_law_123 ⟨by omega, by omega⟩) ?_
  refine lv_iload hx hb dL_law_126 (lv_at hl 0 rfl) ?_
  refine lv_icmp_eq (tgt := 133) hx hb dL_law_128 (by decide) (fun c_9 => ?_) (fun c_9 => absurd (by decide) c_9)
  refine lv_goto (tgt := 698) hx hb dL_law_133 (by decide) ?_
  refine W.widen (k := cells + 1) (n := slots + 6) (by omega) (by omega) ?_
  exact K9 (upd mem (xs (i + 1)).toNatClampNeg (xs (i + 2))) un lat nxt B S 0 bo lt sc of hI H locs hP hD hS ls (lv_sub hl [1, 2, 3, 4, 5] rfl)
set_option maxHeartbeats 4000000 in
set_option maxRecDepth 100000 in
theorem st_poke_1 {p : Program} {l : Launch} {e : Env} {s : State} {m : MethodId} {below : List Frame} {meth : Method} {c : Code} {dC : Nat → ClassId} {dI : Nat → Nat → Nat} {b L : Nat} {xs : Nat → Int32} (hst : l.stackTraces = false) (C0 : lw_At p s m meth c b L xs) {ad : Nat → Nat} {cI cU cJ : ClassId} {g : Nat → Option Nat} {tb : Nat × Nat × Nat} (hg9 : ∀ j, j < 4 → g j = some (ad (5 + 3 * j))) (hK : va_K (dC, dI) vwCl [(cI, .int), (cU, .object "TextureUnits$Unit"), (cJ, .long)] s) (hX9 : tb_T tb (fun q : Nat => s.heap.size ≤ q) s s.heap) (hE : ex_E (fun q : Nat => s.heap.size ≤ q) s s.heap) (hL : L ≤ 3584) {i : Nat} (hi : i + 7 ≤ L) {cells slots : Nat} (hc : cells + 1 ≤ room_1.cells) (hs : slots + 6 ≤ room_1.slots)
    (K9 : ∀ (mem un lat nxt : Nat → Int32) (B S : Nat → Nat → Int32) (th : Int32) (bo lt : Nat → Int32) (sc : Nat → Nat → Int32) (of : Nat → Int64), lI un bo lat lt B S → ∀ (H : Heap) (locs : List Loc), va_P (dC, dI) vwCl (lW ad cI cU cJ g mem un lat nxt B S th mem un bo lt sc of) H → va_D (fun q : Nat => s.heap.size ≤ q) (lW ad cI cU cJ g mem un lat nxt B S th mem un bo lt sc of) → va_S (fun q : Nat => s.heap.size ≤ q) s.heap H locs → ∀ (ls : Array Slot), lv_has ls 7 [(0, .ref b), (1, .ref (ad 0)), (2, .ref (ad 17)), (3, .ref (ad 28)), (4, .int (nI i))] → W p l e room_1 s m #[Value.ref b] below meth c H locs (cells + 1) (slots + 6) (lw_Z below #[Value.ref b] s) (F0 m 698 ls []))
    {mem un lat nxt : Nat → Int32} {B S : Nat → Nat → Int32} {th : Int32} {bo lt : Nat → Int32} {sc : Nat → Nat → Int32} {of : Nat → Int64} (hI : lI un bo lat lt B S) {H : Heap} {locs : List Loc} (hP : va_P (dC, dI) vwCl (lW ad cI cU cJ g mem un lat nxt B S th mem un bo lt sc of) H) (hD : va_D (fun q : Nat => s.heap.size ≤ q) (lW ad cI cU cJ g mem un lat nxt B S th mem un bo lt sc of)) (hS : va_S (fun q : Nat => s.heap.size ≤ q) s.heap H locs) {ls : Array Slot} (hl : lv_has ls 7 [(0, .ref b), (1, .ref (ad 0)), (2, .ref (ad 17)), (3, .ref (ad 28)), (4, .int (nI i))]) (h0 : tu_win (xs (i + 1)) 0 2047 = 0) : W p l e room_1 s m #[Value.ref b] below meth c H locs cells slots (lw_Z below #[Value.ref b] s) (F0 m 88 ls []) := by
  obtain ⟨hx, hb, hr, hml, hown, hts0, hX, hbl, hlocks, hgv⟩ := id C0
  have hts := lw_hts hts0
  have hA : ∀ q : Nat, s.heap.size ≤ q → (fun q : Nat => s.heap.size ≤ q) q := fun _ h => h
  have hbA : ¬ (fun q : Nat => s.heap.size ≤ q) b := Nat.not_le.mpr hbl
  refine lv_aload_n hx hb dL_law_88 rfl (lv_at hl 1 rfl) ?_
  refine lv_aload_n hx hb dL_law_89 rfl (lv_at hl 0 rfl) ?_
  refine lv_iload hx hb dL_law_90 (lv_at hl 4 rfl) ?_
  refine lv_iconst (v := 1) hx hb dL_law_92 (by decide) ?_
  refine lv_iadd hx hb dL_law_93 ?_
  refine lv_topi (fun x_1 ex_1 => ?_)
  have ex_1 : x_1 = nI (i + 1) := ex_1.trans (nI_add i 1)
  subst ex_1
  refine va_sld hx hb hX hbl hbA hS (vp_in_nI (by omega) (by omega)) dL_law_94 ?_
  refine lv_topi (fun x_2 ex_2 => ?_)
  have ex_2 : xs (i + 1) = x_2 := (ex_2.trans (congrArg xs (nI_clamp (by omega)))).symm
  subst ex_2
  refine lv_aload_n hx hb dL_law_95 rfl (lv_at hl 0 rfl) ?_
  refine lv_iload hx hb dL_law_96 (lv_at hl 4 rfl) ?_
  refine lv_iconst (v := 2) hx hb dL_law_98 (by decide) ?_
  refine lv_iadd hx hb dL_law_99 ?_
  refine lv_topi (fun x_3 ex_3 => ?_)
  have ex_3 : x_3 = nI (i + 2) := ex_3.trans (nI_add i 2)
  subst ex_3
  refine va_sld hx hb hX hbl hbA hS (vp_in_nI (by omega) (by omega)) dL_law_100 ?_
  refine lv_topi (fun x_4 ex_4 => ?_)
  have ex_4 : xs (i + 2) = x_4 := (ex_4.trans (congrArg xs (nI_clamp (by omega)))).symm
  subst ex_4
  have hPc := hP.sub (ws' := [((ad 0), .inr (1, [.ref (ad 1), .ref (ad 2), .ref (ad 3), .ref (ad 4)]))]) [0] rfl
  have hDc := hD.sub (ws' := [((ad 0), .inr (1, [.ref (ad 1), .ref (ad 2), .ref (ad 3), .ref (ad 4)]))]) [0] (by decide) rfl
  have hFc := va_free (wc := [((ad 0), .inr (1, [.ref (ad 1), .ref (ad 2), .ref (ad 3), .ref (ad 4)]))]) hD hS hA [0] rfl
  refine va_calli (vx_runSW (As := [.ref (ad 0), .int (xs (i + 1)), .int (xs (i + 2))]) (rest := []) ⟨hx, hb, hml, hown, hts⟩ (k_poke1 l dC dI (ad 0) (ad 1) (ad 2) (ad 3) (ad 4) (xs (i + 1)) (xs (i + 2)) H.size hst h0) (vx_cwSW 3 hts (tg_S tw_86 tw_87 tw_0 tw_88) rfl rfl rfl (by decide +kernel) ⟨Nat.le_of_ble_eq_true rfl, Nat.le_of_ble_eq_true rfl⟩) ⟨wx_blind, fun U hU hW => ⟨rfl, wx_use hPc (hK.sub [] rfl) hDc hE hS U hU hW⟩⟩ rfl rfl hl.1 rfl (lv_room (Nat.le_of_ble_eq_true rfl)) dL_law_101 ⟨hc, hs⟩) hS (fun q _ h => hFc q h) hFc (fun r9 u9 t9 H1 locs ht hvm hw hB hz1 hk1 hS => ?_)
  obtain ⟨hP1, hK1, hD1⟩ := hB
  rw [ht] at hP1
  subst hw
  obtain ⟨hP, hD⟩ := tu_frame (w1 := [((ad 0), .inr (1, [.ref (ad 1), .ref (ad 2), .ref (ad 3), .ref (ad 4)]))]) (W2 := (lW ad cI cU cJ g mem un lat nxt B S th mem un bo lt sc of)) hP hD [0] [1, 2, 3, 4, 5, 6, 7, 8, 9, 10, 11, 12, 13, 14, 15, 16, 17, 18, 19, 20, 21, 22, 23, 24, 25, 26, 27, 28] [28, 0, 1, 2, 3, 4, 5, 6, 7, 8, 9, 10, 11, 12, 13, 14, 15, 16, 17, 18, 19, 20, 21, 22, 23, 24, 25, 26, 27] rfl rfl (by decide) (by decide) hk1 hFc hP1 hD1 rfl (by decide)
  clear hPc hDc hFc hP1 hK1 hD1 hk1 hz1
  generalize H1 = H at hP hS ⊢
  clear ht hvm
  refine lv_istore (lv' := [(5, .int 1), (0, .ref b), (1, .ref (ad 0)), (2, .ref (ad 17)), (3, .ref (ad 28)), (4, .int (nI i))]) hx hb dL_law_104 hl (by decide) rfl (fun ls hl => ?_)
  refine lv_aload_n hx hb dL_law_106 rfl (lv_at hl 3 rfl) ?_
  refine lv_aload_n hx hb dL_law_107 rfl (lv_at hl 1 rfl) ?_
  refine lv_iload hx hb dL_law_108 (lv_at hl 5 rfl) ?_
  refine lv_iconst (v := 1) hx hb dL_law_110 (by decide) ?_
  refine lv_iadd hx hb dL_law_111 ?_
  refine lv_topi (fun x_5 ex_5 => ?_)
  have ex_5 : x_5 = nI (i + 1) := ex_5.trans (nI_add i 1)
  subst ex_5
  refine va_sld hx hb hX hbl hbA hS (vp_in_nI (by omega) (by omega)) dL_law_112 ?_
  refine lv_topi (fun x_6 ex_6 => ?_)
  have ex_6 : xs (i + 1) = x_6 := (ex_6.trans (congrArg xs (nI_clamp (by omega)))).symm
  subst ex_6
  refine lv_aload_n hx hb dL_law_113 rfl (lv_at hl 1 rfl) ?_
  refine lv_iload hx hb dL_law_114 (lv_at hl 5 rfl) ?_
  refine lv_iconst (v := 2) hx hb dL_law_116 (by decide) ?_
  refine lv_iadd hx hb dL_law_117 ?_
  refine lv_topi (fun x_7 ex_7 => ?_)
  have ex_7 : x_7 = nI (i + 2) := ex_7.trans (nI_add i 2)
  subst ex_7
  refine va_sld hx hb hX hbl hbA hS (vp_in_nI (by omega) (by omega)) dL_law_118 ?_
  refine lv_topi (fun x_8 ex_8 => ?_)
  have ex_8 : xs (i + 2) = x_8 := (ex_8.trans (congrArg xs (nI_clamp (by omega)))).symm
  subst ex_8
  have hPc := hP.sub (ws' := [((ad 17), .inr (2, [.int th, .ref (ad 18), .ref (ad 19), .ref (ad 20), .ref (ad 21), .ref (ad 22), .ref (ad 23), .ref (ad 24), .ref (ad 25), .ref (ad 26), .ref (ad 27)]))]) [17] rfl
  have hDc := hD.sub (ws' := [((ad 17), .inr (2, [.int th, .ref (ad 18), .ref (ad 19), .ref (ad 20), .ref (ad 21), .ref (ad 22), .ref (ad 23), .ref (ad 24), .ref (ad 25), .ref (ad 26), .ref (ad 27)]))]) [17] (by decide) rfl
  have hFc := va_free (wc := [((ad 17), .inr (2, [.int th, .ref (ad 18), .ref (ad 19), .ref (ad 20), .ref (ad 21), .ref (ad 22), .ref (ad 23), .ref (ad 24), .ref (ad 25), .ref (ad 26), .ref (ad 27)]))]) hD hS hA [17] rfl
  refine va_callv (va_runV (As := [.int (xs (i + 1)), .int (xs (i + 2))]) (rest := []) ⟨hx, hb, hml, hown, hts⟩ (m_poke1 l dC dI (ad 17) th (ad 18) (ad 19) (ad 20) (ad 21) (ad 22) (ad 23) (ad 24) (ad 25) (ad 26) (ad 27) (xs (i + 1)) (xs (i + 2)) H.size h0) (cwV 2 hts (tg_V tw_371 tw_372 tw_373 tw_3 tw_374) rfl rfl rfl (by decide +kernel) ⟨Nat.le_of_ble_eq_true rfl, Nat.le_of_ble_eq_true rfl⟩) ⟨wr_blind, va_recv hK hP (ci := 2) (q0 := 17) rfl rfl, fun U hU hW => ⟨rfl, wr_use hPc (hK.sub [] rfl) hDc U hU hW⟩⟩ rfl rfl hl.1 rfl (lv_room (Nat.le_of_ble_eq_true rfl)) dL_law_119 ⟨by omega, by omega⟩) hS (fun q _ h => hFc q h) hFc (fun u9 t9 H1 locs ht hvm hw hB hz1 hk1 hS => ?_)
  obtain ⟨hP1, hK1, hD1⟩ := hB
  rw [ht] at hP1
  obtain ⟨hP, hD⟩ := tu_frame (w1 := [((ad 17), .inr (2, [.int 1, .ref (ad 18), .ref (ad 19), .ref (ad 20), .ref (ad 21), .ref (ad 22), .ref (ad 23), .ref (ad 24), .ref (ad 25), .ref (ad 26), .ref (ad 27)]))]) (W2 := (lW ad cI cU cJ g mem un lat nxt B S 1 mem un bo lt sc of)) hP hD [17] [0, 1, 2, 3, 4, 5, 6, 7, 8, 9, 10, 11, 12, 13, 14, 15, 16, 18, 19, 20, 21, 22, 23, 24, 25, 26, 27, 28] [0, 1, 2, 3, 4, 5, 6, 7, 8, 9, 10, 11, 12, 13, 14, 15, 16, 28, 17, 18, 19, 20, 21, 22, 23, 24, 25, 26, 27] rfl rfl (by decide) (by decide) hk1 hFc hP1 hD1 rfl (by decide)
  clear hPc hDc hFc hP1 hK1 hD1 hk1 hz1
  generalize H1 = H at hP hS ⊢
  clear ht hvm
  refine lv_aload_n hx hb dL_law_122 rfl (lv_at hl 3 rfl) ?_
  refine rd_call (W.runV (As := []) (rest := []) ⟨hx, hb, hml, hown, hts⟩ (m_thrown l dC dI (ad 17) 1 (ad 18) (ad 19) (ad 20) (ad 21) (ad 22) (ad 23) (ad 24) (ad 25) (ad 26) (ad 27)) (cwV 0 hts (tg_V tw_367 tw_368 tw_369 tw_3 tw_370) rfl rfl rfl (by decide +kernel) ⟨Nat.le_of_ble_eq_true rfl, Nat.le_of_ble_eq_true rfl⟩) ⟨rd_blind, va_recv hK hP (ci := 2) (q0 := 17) rfl rfl, fun U hU hW => ⟨rfl, rd_use (hP.sub [17] rfl) (hK.sub [] rfl) U hU hW⟩⟩ rfl rfl hl.1 rfl (lv_room (Nat.le_of_ble_eq_true rfl)) dL_law_123 ⟨by omega, by omega⟩) ?_
  refine lv_iload hx hb dL_law_126 (lv_at hl 0 rfl) ?_
  refine lv_icmp_eq (tgt := 133) hx hb dL_law_128 (by decide) (fun c_9 => ?_) (fun c_9 => absurd (by decide) c_9)
  refine lv_goto (tgt := 698) hx hb dL_law_133 (by decide) ?_
  refine W.widen (k := cells + 1) (n := slots + 6) (by omega) (by omega) ?_
  exact K9 mem un lat nxt B S 1 bo lt sc of hI H locs hP hD hS ls (lv_sub hl [1, 2, 3, 4, 5] rfl)
