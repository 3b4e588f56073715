
set_option maxHeartbeats 4000000 in
set_option maxRecDepth 100000 in
theorem st_picture_2 {p : Program} {l : Launch} {e : Env} {s : State} {m : MethodId} {below : List Frame} {meth : Method} {c : Code} {dC : Nat → ClassId} {dI : Nat → Nat → Nat} {b L : Nat} {xs : Nat → Int32} (hst : l.stackTraces = false) (C0 : lw_At p s m meth c b L xs) {ad : Nat → Nat} {cI cU cJ : ClassId} {g : Nat → Option Nat} {tb : Nat × Nat × Nat} (hg9 : ∀ j, j < 4 → g j = some (ad (5 + 3 * j))) (hK : va_K (dC, dI) vwCl [(cI, .int), (cU, .object "TextureUnits$Unit"), (cJ, .long)] s) (hX9 : tb_T tb (fun q : Nat => s.heap.size ≤ q) s s.heap) (hE : ex_E (fun q : Nat => s.heap.size ≤ q) s s.heap) (hL : L ≤ 3584) {i : Nat} (hi : i + 7 ≤ L) {cells slots : Nat} (hc : cells + 1 ≤ room_1.cells) (hs : slots + 6 ≤ room_1.slots)
    (K9 : ∀ (mem un lat nxt : Nat → Int32) (B S : Nat → Nat → Int32) (th : Int32) (bo lt : Nat → Int32) (sc : Nat → Nat → Int32) (of : Nat → Int64), lI un bo lat lt B S → ∀ (H : Heap) (locs : List Loc), va_P (dC, dI) vwCl (lW ad cI cU cJ g mem un lat nxt B S th mem un bo lt sc of) H → va_D (fun q : Nat => s.heap.size ≤ q) (lW ad cI cU cJ g mem un lat nxt B S th mem un bo lt sc of) → va_S (fun q : Nat => s.heap.size ≤ q) s.heap H locs → ∀ (ls : Array Slot), lv_has ls 7 [(0, .ref b), (1, .ref (ad 0)), (2, .ref (ad 17)), (3, .ref (ad 28)), (4, .int (nI i))] → W p l e room_1 s m #[Value.ref b] below meth c H locs (cells + 1) (slots + 6) (lw_Z below #[Value.ref b] s) (F0 m 698 ls []))
    {mem un lat nxt : Nat → Int32} {B S : Nat → Nat → Int32} {th : Int32} {bo lt : Nat → Int32} {sc : Nat → Nat → Int32} {of : Nat → Int64} (hI : lI un bo lat lt B S) {H : Heap} {locs : List Loc} (hP : va_P (dC, dI) vwCl (lW ad cI cU cJ g mem un lat nxt B S th mem un bo lt sc of) H) (hD : va_D (fun q : Nat => s.heap.size ≤ q) (lW ad cI cU cJ g mem un lat nxt B S th mem un bo lt sc of)) (hS : va_S (fun q : Nat => s.heap.size ≤ q) s.heap H locs) {ls : Array Slot} (hl : lv_has ls 7 [(0, .ref b), (1, .ref (ad 0)), (2, .ref (ad 17)), (3, .ref (ad 28)), (4, .int (nI i))]) {j : Nat} (hj : j < 4) (ej : xs (i + 1) = nI j) (hn : ¬ (0 ≤ (xs (i + 2)) ∧ ¬ tu_win (xs (i + 3)) 0 10 = 0 ∧ ¬ tu_win (xs (i + 4)) 0 10 = 0 ∧ ¬ tu_win (xs (i + 5)) 1 11 = 0 ∧ ¬ tu_win (xs (i + 6)) 0 7 = 0)) : W p l e room_1 s m #[Value.ref b] below meth c H locs cells slots (lw_Z below #[Value.ref b] s) (F0 m 136 ls []) := by
  obtain ⟨hx, hb, hr, hml, hown, hts0, hX, hbl, hlocks, hgv⟩ := id C0
  have hts := lw_hts hts0
  have hA : ∀ q : Nat, s.heap.size ≤ q → (fun q : Nat => s.heap.size ≤ q) q := fun _ h => h
  have hbA : ¬ (fun q : Nat => s.heap.size ≤ q) b := Nat.not_le.mpr hbl
  refine lv_aload_n hx hb dL_law_136 rfl (lv_at hl 1 rfl) ?_
  refine lv_aload_n hx hb dL_law_137 rfl (lv_at hl 0 rfl) ?_
  refine lv_iload hx hb dL_law_138 (lv_at hl 4 rfl) ?_
  refine lv_iconst (v := 1) hx hb dL_law_140 (by decide) ?_
  refine lv_iadd hx hb dL_law_141 ?_
  refine lv_topi (fun x_1 ex_1 => ?_)
  have ex_1 : x_1 = nI (i + 1) := ex_1.trans (nI_add i 1)
  subst ex_1
  refine va_sld hx hb hX hbl hbA hS (vp_in_nI (by omega) (by omega)) dL_law_142 ?_
  refine lv_topi (fun x_2 ex_2 => ?_)
  have ex_2 : (nI j) = x_2 := ((ex_2.trans (congrArg xs (nI_clamp (by omega)))).trans ej).symm
  subst ex_2
  refine lv_aload_n hx hb dL_law_143 rfl (lv_at hl 0 rfl) ?_
  refine lv_iload hx hb dL_law_144 (lv_at hl 4 rfl) ?_
  refine lv_iconst (v := 2) hx hb dL_law_146 (by decide) ?_
  refine lv_iadd hx hb dL_law_147 ?_
  refine lv_topi (fun x_3 ex_3 => ?_)
  have ex_3 : x_3 = nI (i + 2) := ex_3.trans (nI_add i 2)
  subst ex_3
  refine va_sld hx hb hX hbl hbA hS (vp_in_nI (by omega) (by omega)) dL_law_148 ?_
  refine lv_topi (fun x_4 ex_4 => ?_)
  have ex_4 : xs (i + 2) = x_4 := (ex_4.trans (congrArg xs (nI_clamp (by omega)))).symm
  subst ex_4
  refine lv_aload_n hx hb dL_law_149 rfl (lv_at hl 0 rfl) ?_
  refine lv_iload hx hb dL_law_150 (lv_at hl 4 rfl) ?_
  refine lv_iconst (v := 3) hx hb dL_law_152 (by decide) ?_
  refine lv_iadd hx hb dL_law_153 ?_
  refine lv_topi (fun x_5 ex_5 => ?_)
  have ex_5 : x_5 = nI (i + 3) := ex_5.trans (nI_add i 3)
  subst ex_5
  refine va_sld hx hb hX hbl hbA hS (vp_in_nI (by omega) (by omega)) dL_law_154 ?_
  refine lv_topi (fun x_6 ex_6 => ?_)
  have ex_6 : xs (i + 3) = x_6 := (ex_6.trans (congrArg xs (nI_clamp (by omega)))).symm
  subst ex_6
  refine lv_aload_n hx hb dL_law_155 rfl (lv_at hl 0 rfl) ?_
  refine lv_iload hx hb dL_law_156 (lv_at hl 4 rfl) ?_
  refine lv_iconst (v := 4) hx hb dL_law_158 (by decide) ?_
  refine lv_iadd hx hb dL_law_159 ?_
  refine lv_topi (fun x_7 ex_7 => ?_)
  have ex_7 : x_7 = nI (i + 4) := ex_7.trans (nI_add i 4)
  subst ex_7
  refine va_sld hx hb hX hbl hbA hS (vp_in_nI (by omega) (by omega)) dL_law_160 ?_
  refine lv_topi (fun x_8 ex_8 => ?_)
  have ex_8 : xs (i + 4) = x_8 := (ex_8.trans (congrArg xs (nI_clamp (by omega)))).symm
  subst ex_8
  refine lv_aload_n hx hb dL_law_161 rfl (lv_at hl 0 rfl) ?_
  refine lv_iload hx hb dL_law_162 (lv_at hl 4 rfl) ?_
  refine lv_iconst (v := 5) hx hb dL_law_164 (by decide) ?_
  refine lv_iadd hx hb dL_law_165 ?_
  refine lv_topi (fun x_9 ex_9 => ?_)
  have ex_9 : x_9 = nI (i + 5) := ex_9.trans (nI_add i 5)
  subst ex_9
  refine va_sld hx hb hX hbl hbA hS (vp_in_nI (by omega) (by omega)) dL_law_166 ?_
  refine lv_topi (fun x_10 ex_10 => ?_)
  have ex_10 : xs (i + 5) = x_10 := (ex_10.trans (congrArg xs (nI_clamp (by omega)))).symm
  subst ex_10
  refine lv_aload_n hx hb dL_law_167 rfl (lv_at hl 0 rfl) ?_
  refine lv_iload hx hb dL_law_168 (lv_at hl 4 rfl) ?_
  refine lv_bipush (v := 6) hx hb dL_law_170 (by decide) ?_
  refine lv_iadd hx hb dL_law_172 ?_
  refine lv_topi (fun x_11 ex_11 => ?_)
  have ex_11 : x_11 = nI (i + 6) := ex_11.trans (nI_add i 6)
  subst ex_11
  refine va_sld hx hb hX hbl hbA hS (vp_in_nI (by omega) (by omega)) dL_law_173 ?_
  refine lv_topi (fun x_12 ex_12 => ?_)
  have ex_12 : xs (i + 6) = x_12 := (ex_12.trans (congrArg xs (nI_clamp (by omega)))).symm
  subst ex_12
  have hPc := hP.sub (ws' := [((ad 0), .inr (1, [.ref (ad 1), .ref (ad 2), .ref (ad 3), .ref (ad 4)])), ((ad 2), .inl (cU, 4, .inr (.inr (.inr (.inr g)))))]) [0, 2] rfl
  have hDc := hD.sub (ws' := [((ad 0), .inr (1, [.ref (ad 1), .ref (ad 2), .ref (ad 3), .ref (ad 4)])), ((ad 2), .inl (cU, 4, .inr (.inr (.inr (.inr g)))))]) [0, 2] (by decide) rfl
  have hFc := va_free (wc := [((ad 0), .inr (1, [.ref (ad 1), .ref (ad 2), .ref (ad 3), .ref (ad 4)])), ((ad 2), .inl (cU, 4, .inr (.inr (.inr (.inr g)))))]) hD hS hA [0, 2] rfl
  refine va_calli (vx_runSW (As := [.ref (ad 0), .int (nI j), .int (xs (i + 2)), .int (xs (i + 3)), .int (xs (i + 4)), .int (xs (i + 5)), .int (xs (i + 6))]) (rest := []) ⟨hx, hb, hml, hown, hts⟩ (k_picture2 l dC dI (ad 0) (ad 1) (ad 2) (ad 3) (ad 4) cU g (ad (5 + 3 * j)) (nI j) (xs (i + 2)) (xs (i + 3)) (xs (i + 4)) (xs (i + 5)) (xs (i + 6)) H.size hst (md_unit hj) (by rw [nI_clamp (by omega)]; exact hg9 j hj) hn) (vx_cwSW 7 hts (tg_S tw_165 tw_166 tw_0 tw_167) rfl rfl rfl (by decide +kernel) ⟨Nat.le_of_ble_eq_true rfl, Nat.le_of_ble_eq_true rfl⟩) ⟨wx_blind, fun U hU hW => ⟨rfl, wx_use hPc (hK.sub [1] rfl) hDc hE hS U hU hW⟩⟩ rfl rfl hl.1 rfl (lv_room (Nat.le_of_ble_eq_true rfl)) dL_law_174 ⟨hc, hs⟩) hS (fun q _ h => hFc q h) hFc (fun r9 u9 t9 H1 locs ht hvm hw hB hz1 hk1 hS => ?_)
  obtain ⟨hP1, hK1, hD1⟩ := hB
  rw [ht] at hP1
  subst hw
  obtain ⟨hP, hD⟩ := tu_frame (w1 := [((ad 0), .inr (1, [.ref (ad 1), .ref (ad 2), .ref (ad 3), .ref (ad 4)])), ((ad 2), .inl (cU, 4, .inr (.inr (.inr (.inr g)))))]) (W2 := (lW ad cI cU cJ g mem un lat nxt B S th mem un bo lt sc of)) hP hD [0, 2] [1, 3, 4, 5, 6, 7, 8, 9, 10, 11, 12, 13, 14, 15, 16, 17, 18, 19, 20, 21, 22, 23, 24, 25, 26, 27, 28] [27, 0, 28, 1, 2, 3, 4, 5, 6, 7, 8, 9, 10, 11, 12, 13, 14, 15, 16, 17, 18, 19, 20, 21, 22, 23, 24, 25, 26] rfl rfl (by decide) (by decide) hk1 hFc hP1 hD1 rfl (by decide)
  clear hPc hDc hFc hP1 hK1 hD1 hk1 hz1
  generalize H1 = H at hP hS ⊢
  clear ht hvm
  refine lv_istore (lv' := [(5, .int 2), (0, .ref b), (1, .ref (ad 0)), (2, .ref (ad 17)), (3, .ref (ad 28)), (4, .int (nI i))]) hx hb dL_law_177 hl (by decide) rfl (fun ls hl => ?_)
  refine lv_aload_n hx hb dL_law_179 rfl (lv_at hl 3 rfl) ?_
  refine lv_aload_n hx hb dL_law_180 rfl (lv_at hl 1 rfl) ?_
  refine lv_iload hx hb dL_law_181 (lv_at hl 5 rfl) ?_
  refine lv_iconst (v := 1) hx hb dL_law_183 (by decide) ?_
  refine lv_iadd hx hb dL_law_184 ?_
  refine lv_topi (fun x_13 ex_13 => ?_)
  have ex_13 : x_13 = nI (i + 1) := ex_13.trans (nI_add i 1)
  subst ex_13
  refine va_sld hx hb hX hbl hbA hS (vp_in_nI (by omega) (by omega)) dL_law_185 ?_
  refine lv_topi (fun x_14 ex_14 => ?_)
  have ex_14 : (nI j) = x_14 := ((ex_14.trans (congrArg xs (nI_clamp (by omega)))).trans ej).symm
  subst ex_14
  refine lv_aload_n hx hb dL_law_186 rfl (lv_at hl 1 rfl) ?_
  refine lv_iload hx hb dL_law_187 (lv_at hl 5 rfl) ?_
  refine lv_iconst (v := 2) hx hb dL_law_189 (by decide) ?_
  refine lv_iadd hx hb dL_law_190 ?_
  refine lv_topi (fun x_15 ex_15 => ?_)
  have ex_15 : x_15 = nI (i + 2) := ex_15.trans (nI_add i 2)
  subst ex_15
  refine va_sld hx hb hX hbl hbA hS (vp_in_nI (by omega) (by omega)) dL_law_191 ?_
  refine lv_topi (fun x_16 ex_16 => ?_)
  have ex_16 : xs (i + 2) = x_16 := (ex_16.trans (congrArg xs (nI_clamp (by omega)))).symm
  subst ex_16
  refine lv_aload_n hx hb dL_law_192 rfl (lv_at hl 1 rfl) ?_
  refine lv_iload hx hb dL_law_193 (lv_at hl 5 rfl) ?_
  refine lv_iconst (v := 3) hx hb dL_law_195 (by decide) ?_
  refine lv_iadd hx hb dL_law_196 ?_
  refine lv_topi (fun x_17 ex_17 => ?_)
  have ex_17 : x_17 = nI (i + 3) := ex_17.trans (nI_add i 3)
  subst ex_17
  refine va_sld hx hb hX hbl hbA hS (vp_in_nI (by omega) (by omega)) dL_law_197 ?_
  refine lv_topi (fun x_18 ex_18 => ?_)
  have ex_18 : xs (i + 3) = x_18 := (ex_18.trans (congrArg xs (nI_clamp (by omega)))).symm
  subst ex_18
  refine lv_aload_n hx hb dL_law_198 rfl (lv_at hl 1 rfl) ?_
  refine lv_iload hx hb dL_law_199 (lv_at hl 5 rfl) ?_
  refine lv_iconst (v := 4) hx hb dL_law_201 (by decide) ?_
  refine lv_iadd hx hb dL_law_202 ?_
  refine lv_topi (fun x_19 ex_19 => ?_)
  have ex_19 : x_19 = nI (i + 4) := ex_19.trans (nI_add i 4)
  subst ex_19
  refine va_sld hx hb hX hbl hbA hS (vp_in_nI (by omega) (by omega)) dL_law_203 ?_
  refine lv_topi (fun x_20 ex_20 => ?_)
  have ex_20 : xs (i + 4) = x_20 := (ex_20.trans (congrArg xs (nI_clamp (by omega)))).symm
  subst ex_20
  refine lv_aload_n hx hb dL_law_204 rfl (lv_at hl 1 rfl) ?_
  refine lv_iload hx hb dL_law_205 (lv_at hl 5 rfl) ?_
  refine lv_iconst (v := 5) hx hb dL_law_207 (by decide) ?_
  refine lv_iadd hx hb dL_law_208 ?_
  refine lv_topi (fun x_21 ex_21 => ?_)
  have ex_21 : x_21 = nI (i + 5) := ex_21.trans (nI_add i 5)
  subst ex_21
  refine va_sld hx hb hX hbl hbA hS (vp_in_nI (by omega) (by omega)) dL_law_209 ?_
  refine lv_topi (fun x_22 ex_22 => ?_)
  have ex_22 : xs (i + 5) = x_22 := (ex_22.trans (congrArg xs (nI_clamp (by omega)))).symm
  subst ex_22
  refine lv_aload_n hx hb dL_law_210 rfl (lv_at hl 1 rfl) ?_
  refine lv_iload hx hb dL_law_211 (lv_at hl 5 rfl) ?_
  refine lv_bipush (v := 6) hx hb dL_law_213 (by decide) ?_
  refine lv_iadd hx hb dL_law_215 ?_
  refine lv_topi (fun x_23 ex_23 => ?_)
  have ex_23 : x_23 = nI (i + 6) := ex_23.trans (nI_add i 6)
  subst ex_23
  refine va_sld hx hb hX hbl hbA hS (vp_in_nI (by omega) (by omega)) dL_law_216 ?_
  refine lv_topi (fun x_24 ex_24 => ?_)
  have ex_24 : xs (i + 6) = x_24 := (ex_24.trans (congrArg xs (nI_clamp (by omega)))).symm
  subst ex_24
  have hPc := hP.sub (ws' := [((ad 17), .inr (2, [.int th, .ref (ad 18), .ref (ad 19), .ref (ad 20), .ref (ad 21), .ref (ad 22), .ref (ad 23), .ref (ad 24), .ref (ad 25), .ref (ad 26), .ref (ad 27)]))]) [17] rfl
  have hDc := hD.sub (ws' := [((ad 17), .inr (2, [.int th, .ref (ad 18), .ref (ad 19), .ref (ad 20), .ref (ad 21), .ref (ad 22), .ref (ad 23), .ref (ad 24), .ref (ad 25), .ref (ad 26), .ref (ad 27)]))]) [17] (by decide) rfl
  have hFc := va_free (wc := [((ad 17), .inr (2, [.int th, .ref (ad 18), .ref (ad 19), .ref (ad 20), .ref (ad 21), .ref (ad 22), .ref (ad 23), .ref (ad 24), .ref (ad 25), .ref (ad 26), .ref (ad 27)]))]) hD hS hA [17] rfl
  refine va_callv (va_runV (As := [.int (nI j), .int (xs (i + 2)), .int (xs (i + 3)), .int (xs (i + 4)), .int (xs (i + 5)), .int (xs (i + 6))]) (rest := []) ⟨hx, hb, hml, hown, hts⟩ (m_picture2 l dC dI (ad 17) th (ad 18) (ad 19) (ad 20) (ad 21) (ad 22) (ad 23) (ad 24) (ad 25) (ad 26) (ad 27) j (xs (i + 2)) (xs (i + 3)) (xs (i + 4)) (xs (i + 5)) (xs (i + 6)) H.size hj hn) (cwV 6 hts (tg_V tw_382 tw_383 tw_384 tw_3 tw_385) rfl rfl rfl (by decide +kernel) ⟨Nat.le_of_ble_eq_true rfl, Nat.le_of_ble_eq_true rfl⟩) ⟨wr_blind, va_recv hK hP (ci := 2) (q0 := 17) rfl rfl, fun U hU hW => ⟨rfl, wr_use hPc (hK.sub [] rfl) hDc U hU hW⟩⟩ rfl rfl hl.1 rfl (lv_room (Nat.le_of_ble_eq_true rfl)) dL_law_217 ⟨by omega, by omega⟩) hS (fun q _ h => hFc q h) hFc (fun u9 t9 H1 locs ht hvm hw hB hz1 hk1 hS => ?_)
  obtain ⟨hP1, hK1, hD1⟩ := hB
  rw [ht] at hP1
  obtain ⟨hP, hD⟩ := tu_frame (w1 := [((ad 17), .inr (2, [.int 2, .ref (ad 18), .ref (ad 19), .ref (ad 20), .ref (ad 21), .ref (ad 22), .ref (ad 23), .ref (ad 24), .ref (ad 25), .ref (ad 26), .ref (ad 27)]))]) (W2 := (lW ad cI cU cJ g mem un lat nxt B S 2 mem un bo lt sc of)) hP hD [17] [0, 1, 2, 3, 4, 5, 6, 7, 8, 9, 10, 11, 12, 13, 14, 15, 16, 18, 19, 20, 21, 22, 23, 24, 25, 26, 27, 28] [0, 1, 2, 3, 4, 5, 6, 7, 8, 9, 10, 11, 12, 13, 14, 15, 16, 28, 17, 18, 19, 20, 21, 22, 23, 24, 25, 26, 27] rfl rfl (by decide) (by decide) hk1 hFc hP1 hD1 rfl (by decide)
  clear hPc hDc hFc hP1 hK1 hD1 hk1 hz1
  generalize H1 = H at hP hS ⊢
  clear ht hvm
  refine lv_aload_n hx hb dL_law_220 rfl (lv_at hl 3 rfl) ?_
  refine rd_call (W.runV (As := []) (rest := []) ⟨hx, hb, hml, hown, hts⟩ (m_thrown l dC dI (ad 17) 2 (ad 18) (ad 19) (ad 20) (ad 21) (ad 22) (ad 23) (ad 24) (ad 25) (ad 26) (ad 27)) (cwV 0 hts (tg_V tw_367 tw_368 tw_369 tw_3 tw_370) rfl rfl rfl (by decide +kernel) ⟨Nat.le_of_ble_eq_true rfl, Nat.le_of_ble_eq_true rfl⟩) ⟨rd_blind, va_recv hK hP (ci := 2) (q0 := 17) rfl rfl, fun U hU hW => ⟨rfl, rd_use (hP.sub [17] rfl) (hK.sub [] rfl) U hU hW⟩⟩ rfl rfl hl.1 rfl (lv_room (Nat.le_of_ble_eq_true rfl)) dL_law_221 ⟨by omega, by omega⟩) ?_
  refine lv_iload hx hb dL_law_224 (lv_at hl 0 rfl) ?_
  refine lv_icmp_eq (tgt := 231) hx hb dL_law_226 (by decide) (fun c_25 => ?_) (fun c_25 => absurd (by decide) c_25)
  refine lv_goto (tgt := 698) hx hb dL_law_231 (by decide) ?_
  refine W.widen (k := cells + 1) (n := slots + 6) (by omega) (by omega) ?_
  exact K9 mem un lat nxt B S 2 bo lt sc of hI H locs hP hD hS ls (lv_sub hl [1, 2, 3, 4, 5] rfl)
set_option maxHeartbeats 4000000 in
set_option maxRecDepth 100000 in
theorem st_manner_2 {p : Program} {l : Launch} {e : Env} {s : State} {m : MethodId} {below : List Frame} {meth : Method} {c : Code} {dC : Nat → ClassId} {dI : Nat → Nat → Nat} {b L : Nat} {xs : Nat → Int32} (hst : l.stackTraces = false) (C0 : lw_At p s m meth c b L xs) {ad : Nat → Nat} {cI cU cJ : ClassId} {g : Nat → Option Nat} {tb : Nat × Nat × Nat} (hg9 : ∀ j, j < 4 → g j = some (ad (5 + 3 * j))) (hK : va_K (dC, dI) vwCl [(cI, .int), (cU, .object "TextureUnits$Unit"), (cJ, .long)] s) (hX9 : tb_T tb (fun q : Nat => s.heap.size ≤ q) s s.heap) (hE : ex_E (fun q : Nat => s.heap.size ≤ q) s s.heap) (hL : L ≤ 3584) {i : Nat} (hi : i + 7 ≤ L) {cells slots : Nat} (hc : cells + 1 ≤ room_1.cells) (hs : slots + 6 ≤ room_1.slots)
    (K9 : ∀ (mem un lat nxt : Nat → Int32) (B S : Nat → Nat → Int32) (th : Int32) (bo lt : Nat → Int32) (sc : Nat → Nat → Int32) (of : Nat → Int64), lI un bo lat lt B S → ∀ (H : Heap) (locs : List Loc), va_P (dC, dI) vwCl (lW ad cI cU cJ g mem un lat nxt B S th mem un bo lt sc of) H → va_D (fun q : Nat => s.heap.size ≤ q) (lW ad cI cU cJ g mem un lat nxt B S th mem un bo lt sc of) → va_S (fun q : Nat => s.heap.size ≤ q) s.heap H locs → ∀ (ls : Array Slot), lv_has ls 7 [(0, .ref b), (1, .ref (ad 0)), (2, .ref (ad 17)), (3, .ref (ad 28)), (4, .int (nI i))] → W p l e room_1 s m #[Value.ref b] below meth c H locs (cells + 1) (slots + 6) (lw_Z below #[Value.ref b] s) (F0 m 698 ls []))
    {mem un lat nxt : Nat → Int32} {B S : Nat → Nat → Int32} {th : Int32} {bo lt : Nat → Int32} {sc : Nat → Nat → Int32} {of : Nat → Int64} (hI : lI un bo lat lt B S) {H : Heap} {locs : List Loc} (hP : va_P (dC, dI) vwCl (lW ad cI cU cJ g mem un lat nxt B S th mem un bo lt sc of) H) (hD : va_D (fun q : Nat => s.heap.size ≤ q) (lW ad cI cU cJ g mem un lat nxt B S th mem un bo lt sc of)) (hS : va_S (fun q : Nat => s.heap.size ≤ q) s.heap H locs) {ls : Array Slot} (hl : lv_has ls 7 [(0, .ref b), (1, .ref (ad 0)), (2, .ref (ad 17)), (3, .ref (ad 28)), (4, .int (nI i))]) {j : Nat} (hj : j < 4) (ej : xs (i + 1) = nI j) (hn : ¬ (¬ tu_win (xs (i + 2)) 0 3 = 0 ∧ ¬ tu_win (xs (i + 3)) 0 3 = 0 ∧ ¬ tu_win (xs (i + 4)) 0 3 = 0)) : W p l e room_1 s m #[Value.ref b] below meth c H locs cells slots (lw_Z below #[Value.ref b] s) (F0 m 234 ls []) := by
  obtain ⟨hx, hb, hr, hml, hown, hts0, hX, hbl, hlocks, hgv⟩ := id C0
  have hts := lw_hts hts0
  have hA : ∀ q : Nat, s.heap.size ≤ q → (fun q : Nat => s.heap.size ≤ q) q := fun _ h => h
  have hbA : ¬ (fun q : Nat => s.heap.size ≤ q) b := Nat.not_le.mpr hbl
  refine lv_aload_n hx hb dL_law_234 rfl (lv_at hl 1 rfl) ?_
  refine lv_aload_n hx hb dL_law_235 rfl (lv_at hl 0 rfl) ?_
  refine lv_iload hx hb dL_law_236 (lv_at hl 4 rfl) ?_
  refine lv_iconst (v := 1) hx hb dL_law_238 (by decide) ?_
  refine lv_iadd hx hb dL_law_239 ?_
  refine lv_topi (fun x_1 ex_1 => ?_)
  have ex_1 : x_1 = nI (i + 1) := ex_1.trans (nI_add i 1)
  subst ex_1
  refine va_sld hx hb hX hbl hbA hS (vp_in_nI (by omega) (by omega)) dL_law_240 ?_
  refine lv_topi (fun x_2 ex_2 => ?_)
  have ex_2 : (nI j) = x_2 := ((ex_2.trans (congrArg xs (nI_clamp (by omega)))).trans ej).symm
  subst ex_2
  refine lv_aload_n hx hb dL_law_241 rfl (lv_at hl 0 rfl) ?_
  refine lv_iload hx hb dL_law_242 (lv_at hl 4 rfl) ?_
  refine lv_iconst (v := 2) hx hb dL_law_244 (by decide) ?_
  refine lv_iadd hx hb dL_law_245 ?_
  refine lv_topi (fun x_3 ex_3 => ?_)
  have ex_3 : x_3 = nI (i + 2) := ex_3.trans (nI_add i 2)
  subst ex_3
  refine va_sld hx hb hX hbl hbA hS (vp_in_nI (by omega) (by omega)) dL_law_246 ?_
  refine lv_topi (fun x_4 ex_4 => ?_)
  have ex_4 : xs (i + 2) = x_4 := (ex_4.trans (congrArg xs (nI_clamp (by omega)))).symm
  subst ex_4
  refine lv_aload_n hx hb dL_law_247 rfl (lv_at hl 0 rfl) ?_
  refine lv_iload hx hb dL_law_248 (lv_at hl 4 rfl) ?_
  refine lv_iconst (v := 3) hx hb dL_law_250 (by decide) ?_
  refine lv_iadd hx hb dL_law_251 ?_
  refine lv_topi (fun x_5 ex_5 => ?_)
  have ex_5 : x_5 = nI (i + 3) := ex_5.trans (nI_add i 3)
  subst ex_5
  refine va_sld hx hb hX hbl hbA hS (vp_in_nI (by omega) (by omega)) dL_law_252 ?_
  refine lv_topi (fun x_6 ex_6 => ?_)
  have ex_6 : xs (i + 3) = x_6 := (ex_6.trans (congrArg xs (nI_clamp (by omega)))).symm
  subst ex_6
  refine lv_aload_n hx hb dL_law_253 rfl (lv_at hl 0 rfl) ?_
  refine lv_iload hx hb dL_law_254 (lv_at hl 4 rfl) ?_
  refine lv_iconst (v := 4) hx hb dL_law_256 (by decide) ?_
  refine lv_iadd hx hb dL_law_257 ?_
  refine lv_topi (fun x_7 ex_7 => ?_)
  have ex_7 : x_7 = nI (i + 4) := ex_7.trans (nI_add i 4)
  subst ex_7
  refine va_sld hx hb hX hbl hbA hS (vp_in_nI (by omega) (by omega)) dL_law_258 ?_
  refine lv_topi (fun x_8 ex_8 => ?_)
  have ex_8 : xs (i + 4) = x_8 := (ex_8.trans (congrArg xs (nI_clamp (by omega)))).symm
  subst ex_8
  have hPc := hP.sub (ws' := [((ad 0), .inr (1, [.ref (ad 1), .ref (ad 2), .ref (ad 3), .ref (ad 4)])), ((ad 2), .inl (cU, 4, .inr (.inr (.inr (.inr g)))))]) [0, 2] rfl
  have hDc := hD.sub (ws' := [((ad 0), .inr (1, [.ref (ad 1), .ref (ad 2), .ref (ad 3), .ref (ad 4)])), ((ad 2), .inl (cU, 4, .inr (.inr (.inr (.inr g)))))]) [0, 2] (by decide) rfl
  have hFc := va_free (wc := [((ad 0), .inr (1, [.ref (ad 1), .ref (ad 2), .ref (ad 3), .ref (ad 4)])), ((ad 2), .inl (cU, 4, .inr (.inr (.inr (.inr g)))))]) hD hS hA [0, 2] rfl
  refine va_calli (vx_runSW (As := [.ref (ad 0), .int (nI j), .int (xs (i + 2)), .int (xs (i + 3)), .int (xs (i + 4))]) (rest := []) ⟨hx, hb, hml, hown, hts⟩ (k_manner2 l dC dI (ad 0) (ad 1) (ad 2) (ad 3) (ad 4) cU g (ad (5 + 3 * j)) (nI j) (xs (i + 2)) (xs (i + 3)) (xs (i + 4)) H.size hst (md_unit hj) (by rw [nI_clamp (by omega)]; exact hg9 j hj) hn) (vx_cwSW 5 hts (tg_S tw_214 tw_215 tw_0 tw_216) rfl rfl rfl (by decide +kernel) ⟨Nat.le_of_ble_eq_true rfl, Nat.le_of_ble_eq_true rfl⟩) ⟨wx_blind, fun U hU hW => ⟨rfl, wx_use hPc (hK.sub [1] rfl) hDc hE hS U hU hW⟩⟩ rfl rfl hl.1 rfl (lv_room (Nat.le_of_ble_eq_true rfl)) dL_law_259 ⟨hc, hs⟩) hS (fun q _ h => hFc q h) hFc (fun r9 u9 t9 H1 locs ht hvm hw hB hz1 hk1 hS => ?_)
  obtain ⟨hP1, hK1, hD1⟩ := hB
  rw [ht] at hP1
  subst hw
  obtain ⟨hP, hD⟩ := tu_frame (w1 := [((ad 0), .inr (1, [.ref (ad 1), .ref (ad 2), .ref (ad 3), .ref (ad 4)])), ((ad 2), .inl (cU, 4, .inr (.inr (.inr (.inr g)))))]) (W2 := (lW ad cI cU cJ g mem un lat nxt B S th mem un bo lt sc of)) hP hD [0, 2] [1, 3, 4, 5, 6, 7, 8, 9, 10, 11, 12, 13, 14, 15, 16, 17, 18, 19, 20, 21, 22, 23, 24, 25, 26, 27, 28] [27, 0, 28, 1, 2, 3, 4, 5, 6, 7, 8, 9, 10, 11, 12, 13, 14, 15, 16, 17, 18, 19, 20, 21, 22, 23, 24, 25, 26] rfl rfl (by decide) (by decide) hk1 hFc hP1 hD1 rfl (by decide)
  clear hPc hDc hFc hP1 hK1 hD1 hk1 hz1
  generalize H1 = H at hP hS ⊢
  clear ht hvm
  refine lv_istore (lv' := [(5, .int 2), (0, .ref b), (1, .ref (ad 0)), (2, .ref (ad 17)), (3, .ref (ad 28)), (4, .int (nI i))]) hx hb dL_law_262 hl (by decide) rfl (fun ls hl => ?_)
  refine lv_aload_n hx hb dL_law_264 rfl (lv_at hl 3 rfl) ?_
  refine lv_aload_n hx hb dL_law_265 rfl (lv_at hl 1 rfl) ?_
  refine lv_iload hx hb dL_law_266 (lv_at hl 5 rfl) ?_
  refine lv_iconst (v := 1) hx hb dL_law_268 (by decide) ?_
  refine lv_iadd hx hb dL_law_269 ?_
  refine lv_topi (fun x_9 ex_9 => ?_)
  have ex_9 : x_9 = nI (i + 1) := ex_9.trans (nI_add i 1)
  subst ex_9
  refine va_sld hx hb hX hbl hbA hS (vp_in_nI (by omega) (by omega)) dL_law_270 ?_
  refine lv_topi (fun x_10 ex_10 => ?_)
  have ex_10 : (nI j) = x_10 := ((ex_10.trans (congrArg xs (nI_clamp (by omega)))).trans ej).symm
  subst ex_10
  refine lv_aload_n hx hb dL_law_271 rfl (lv_at hl 1 rfl) ?_
  refine lv_iload hx hb dL_law_272 (lv_at hl 5 rfl) ?_
  refine lv_iconst (v := 2) hx hb dL_law_274 (by decide) ?_
  refine lv_iadd hx hb dL_law_275 ?_
  refine lv_topi (fun x_11 ex_11 => ?_)
  have ex_11 : x_11 = nI (i + 2) := ex_11.trans (nI_add i 2)
  subst ex_11
  refine va_sld hx hb hX hbl hbA hS (vp_in_nI (by omega) (by omega)) dL_law_276 ?_
  refine lv_topi (fun x_12 ex_12 => ?_)
  have ex_12 : xs (i + 2) = x_12 := (ex_12.trans (congrArg xs (nI_clamp (by omega)))).symm
  subst ex_12
  refine lv_aload_n hx hb dL_law_277 rfl (lv_at hl 1 rfl) ?_
  refine lv_iload hx hb dL_law_278 (lv_at hl 5 rfl) ?_
  refine lv_iconst (v := 3) hx hb dL_law_280 (by decide) ?_
  refine lv_iadd hx hb dL_law_281 ?_
  refine lv_topi (fun x_13 ex_13 => ?_)
  have ex_13 : x_13 = nI (i + 3) := ex_13.trans (nI_add i 3)
  subst ex_13
  refine va_sld hx hb hX hbl hbA hS (vp_in_nI (by omega) (by omega)) dL_law_282 ?_
  refine lv_topi (fun x_14 ex_14 => ?_)
  have ex_14 : xs (i + 3) = x_14 := (ex_14.trans (congrArg xs (nI_clamp (by omega)))).symm
  subst ex_14
  refine lv_aload_n hx hb dL_law_283 rfl (lv_at hl 1 rfl) ?_
  refine lv_iload hx hb dL_law_284 (lv_at hl 5 rfl) ?_
  refine lv_iconst (v := 4) hx hb dL_law_286 (by decide) ?_
  refine lv_iadd hx hb dL_law_287 ?_
  refine lv_topi (fun x_15 ex_15 => ?_)
  have ex_15 : x_15 = nI (i + 4) := ex_15.trans (nI_add i 4)
  subst ex_15
  refine va_sld hx hb hX hbl hbA hS (vp_in_nI (by omega) (by omega)) dL_law_288 ?_
  refine lv_topi (fun x_16 ex_16 => ?_)
  have ex_16 : xs (i + 4) = x_16 := (ex_16.trans (congrArg xs (nI_clamp (by omega)))).symm
  subst ex_16
  have hPc := hP.sub (ws' := [((ad 17), .inr (2, [.int th, .ref (ad 18), .ref (ad 19), .ref (ad 20), .ref (ad 21), .ref (ad 22), .ref (ad 23), .ref (ad 24), .ref (ad 25), .ref (ad 26), .ref (ad 27)]))]) [17] rfl
  have hDc := hD.sub (ws' := [((ad 17), .inr (2, [.int th, .ref (ad 18), .ref (ad 19), .ref (ad 20), .ref (ad 21), .ref (ad 22), .ref (ad 23), .ref (ad 24), .ref (ad 25), .ref (ad 26), .ref (ad 27)]))]) [17] (by decide) rfl
  have hFc := va_free (wc := [((ad 17), .inr (2, [.int th, .ref (ad 18), .ref (ad 19), .ref (ad 20), .ref (ad 21), .ref (ad 22), .ref (ad 23), .ref (ad 24), .ref (ad 25), .ref (ad 26), .ref (ad 27)]))]) hD hS hA [17] rfl
  refine va_callv (va_runV (As := [.int (nI j), .int (xs (i + 2)), .int (xs (i + 3)), .int (xs (i + 4))]) (rest := []) ⟨hx, hb, hml, hown, hts⟩ (m_manner2 l dC dI (ad 17) th (ad 18) (ad 19) (ad 20) (ad 21) (ad 22) (ad 23) (ad 24) (ad 25) (ad 26) (ad 27) j (xs (i + 2)) (xs (i + 3)) (xs (i + 4)) H.size hj hn) (cwV 4 hts (tg_V tw_386 tw_387 tw_388 tw_3 tw_389) rfl rfl rfl (by decide +kernel) ⟨Nat.le_of_ble_eq_true rfl, Nat.le_of_ble_eq_true rfl⟩) ⟨wr_blind, va_recv hK hP (ci := 2) (q0 := 17) rfl rfl, fun U hU hW => ⟨rfl, wr_use hPc (hK.sub [] rfl) hDc U hU hW⟩⟩ rfl rfl hl.1 rfl (lv_room (Nat.le_of_ble_eq_true rfl)) dL_law_289 ⟨by omega, by omega⟩) hS (fun q _ h => hFc q h) hFc (fun u9 t9 H1 locs ht hvm hw hB hz1 hk1 hS => ?_)
  obtain ⟨hP1, hK1, hD1⟩ := hB
  rw [ht] at hP1
  obtain ⟨hP, hD⟩ := tu_frame (w1 := [((ad 17), .inr (2, [.int 2, .ref (ad 18), .ref (ad 19), .ref (ad 20), .ref (ad 21), .ref (ad 22), .ref (ad 23), .ref (ad 24), .ref (ad 25), .ref (ad 26), .ref (ad 27)]))]) (W2 := (lW ad cI cU cJ g mem un lat nxt B S 2 mem un bo lt sc of)) hP hD [17] [0, 1, 2, 3, 4, 5, 6, 7, 8, 9, 10, 11, 12, 13, 14, 15, 16, 18, 19, 20, 21, 22, 23, 24, 25, 26, 27, 28] [0, 1, 2, 3, 4, 5, 6, 7, 8, 9, 10, 11, 12, 13, 14, 15, 16, 28, 17, 18, 19, 20, 21, 22, 23, 24, 25, 26, 27] rfl rfl (by decide) (by decide) hk1 hFc hP1 hD1 rfl (by decide)
  clear hPc hDc hFc hP1 hK1 hD1 hk1 hz1
  generalize H1 = H at hP hS ⊢
  clear ht hvm
  refine lv_aload_n hx hb dL_law_292 rfl (lv_at hl 3 rfl) ?_
  refine rd_call (W.runV (As := []) (rest := []) ⟨hx, hb, hml, hown, hts⟩ (m_thrown l dC dI (ad 17) 2 (ad 18) (ad 19) (ad 20) (ad 21) (ad 22) (ad 23) (ad 24) (ad 25) (ad 26) (ad 27)) (cwV 0 hts (tg_V tw_367 tw_368 tw_369 tw_3 tw_370) rfl rfl rfl (by decide +kernel) ⟨Nat.le_of_ble_eq_true rfl, Nat.le_of_ble_eq_true rfl⟩) ⟨rd_blind, va_recv hK hP (ci := 2) (q0 := 17) rfl rfl, fun U hU hW => ⟨rfl, rd_use (hP.sub [17] rfl) (hK.sub [] rfl) U hU hW⟩⟩ rfl rfl hl.1 rfl (lv_room (Nat.le_of_ble_eq_true rfl)) dL_law_293 ⟨by omega, by omega⟩) ?_
  refine lv_iload hx hb dL_law_296 (lv_at hl 0 rfl) ?_
  refine lv_icmp_eq (tgt := 303) hx hb dL_law_298 (by decide) (fun c_17 => ?_) (fun c_17 => absurd (by decide) c_17)
  refine lv_goto (tgt := 698) hx hb dL_law_303 (by decide) ?_
  refine W.widen (k := cells + 1) (n := slots + 6) (by omega) (by omega) ?_
  exact K9 mem un lat nxt B S 2 bo lt sc of hI H locs hP hD hS ls (lv_sub hl [1, 2, 3, 4, 5] rfl)
