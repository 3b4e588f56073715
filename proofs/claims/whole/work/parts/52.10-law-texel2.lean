
set_option maxHeartbeats 4000000 in
set_option maxRecDepth 100000 in
theorem st_texel_0_2 {p : Program} {l : Launch} {e : Env} {s : State} {m : MethodId} {below : List Frame} {meth : Method} {c : Code} {dC : Nat → ClassId} {dI : Nat → Nat → Nat} {b L : Nat} {xs : Nat → Int32} (hst : l.stackTraces = false) (C0 : lw_At p s m meth c b L xs) {ad : Nat → Nat} {cI cU cJ : ClassId} {g : Nat → Option Nat} {tb : Nat × Nat × Nat} (hg9 : ∀ j, j < 4 → g j = some (ad (5 + 3 * j))) (hK : va_K (dC, dI) vwCl [(cI, .int), (cU, .object "TextureUnits$Unit"), (cJ, .long)] s) (hX9 : tb_T tb (fun q : Nat => s.heap.size ≤ q) s s.heap) (hE : ex_E (fun q : Nat => s.heap.size ≤ q) s s.heap) (hL : L ≤ 3584) {i : Nat} (hi : i + 7 ≤ L) {cells slots : Nat} (hc : cells + 1 ≤ room_1.cells) (hs : slots + 6 ≤ room_1.slots)
    (K9 : ∀ (mem un lat nxt : Nat → Int32) (B S : Nat → Nat → Int32) (th : Int32) (bo lt : Nat → Int32) (sc : Nat → Nat → Int32) (of : Nat → Int64), lI un bo lat lt B S → ∀ (H : Heap) (locs : List Loc), va_P (dC, dI) vwCl (lW ad cI cU cJ g mem un lat nxt B S th mem un bo lt sc of) H → va_D (fun q : Nat => s.heap.size ≤ q) (lW ad cI cU cJ g mem un lat nxt B S th mem un bo lt sc of) → va_S (fun q : Nat => s.heap.size ≤ q) s.heap H locs → ∀ (ls : Array Slot), lv_has ls 7 [(0, .ref b), (1, .ref (ad 0)), (2, .ref (ad 17)), (3, .ref (ad 28)), (4, .int (nI i))] → W p l e room_1 s m #[Value.ref b] below meth c H locs (cells + 1) (slots + 6) (lw_Z below #[Value.ref b] s) (F0 m 698 ls []))
    {mem un lat nxt : Nat → Int32} {B S : Nat → Nat → Int32} {th : Int32} {bo lt : Nat → Int32} {sc : Nat → Nat → Int32} {of : Nat → Int64} (hI : lI un bo lat lt B S) {H : Heap} {locs : List Loc} (hP : va_P (dC, dI) vwCl (lW ad cI cU cJ g mem un lat nxt B S th mem un bo lt sc of) H) (hD : va_D (fun q : Nat => s.heap.size ≤ q) (lW ad cI cU cJ g mem un lat nxt B S th mem un bo lt sc of)) (hS : va_S (fun q : Nat => s.heap.size ≤ q) s.heap H locs) {ls : Array Slot} (hl : lv_has ls 7 [(0, .ref b), (1, .ref (ad 0)), (2, .ref (ad 17)), (3, .ref (ad 28)), (4, .int (nI i))]) (ej : xs (i + 1) = nI 2) {n x y c9 : Nat} (en : xs (i + 2) = nI n) (ex9 : xs (i + 3) = nI x) (ey9 : xs (i + 4) = nI y) (ec9 : xs (i + 5) = nI c9) (hn : n ≤ 10) (hx9 : x < 1024) (hy9 : y < 1024) (hc9 : c9 < 4) (hv : ¬ tu_win (nI n) 0 (un (8 * 2 + 3) - 1) = 0 ∧ ¬ tu_win (nI x) 0 (tu_len (un (8 * 2 + 1)) (nI n) - 1) = 0 ∧ ¬ tu_win (nI y) 0 (tu_len (un (8 * 2 + 2)) (nI n) - 1) = 0 ∧ ¬ tu_win (nI c9) 0 3 = 0) : W p l e room_1 s m #[Value.ref b] below meth c H locs cells slots (lw_Z below #[Value.ref b] s) (F0 m 390 ls []) := by
  obtain ⟨hx, hb, hr, hml, hown, hts0, hX, hbl, hlocks, hgv⟩ := id C0
  have hts := lw_hts hts0
  have hA : ∀ q : Nat, s.heap.size ≤ q → (fun q : Nat => s.heap.size ≤ q) q := fun _ h => h
  have hbA : ¬ (fun q : Nat => s.heap.size ≤ q) b := Nat.not_le.mpr hbl
  obtain ⟨a, f, ga, gb, lv, ac, dn, fi, hu, hs9⟩ := hI.1 2 (by decide)
  obtain ⟨⟨b1, b2, b3, b4, b5, b6, b7, b8⟩, e0, e1, e2, e3, e4, e5, e6, e7⟩ := id hu
  refine lv_aload_n hx hb dL_law_390 rfl (lv_at hl 1 rfl) ?_
  refine lv_aload_n hx hb dL_law_391 rfl (lv_at hl 0 rfl) ?_
  refine lv_iload hx hb dL_law_392 (lv_at hl 4 rfl) ?_
  refine lv_iconst (v := 1) hx hb dL_law_394 (by decide) ?_
  refine lv_iadd hx hb dL_law_395 ?_
  refine lv_topi (fun x_1 ex_1 => ?_)
  have ex_1 : x_1 = nI (i + 1) := ex_1.trans (nI_add i 1)
  subst ex_1
  refine va_sld hx hb hX hbl hbA hS (vp_in_nI (by omega) (by omega)) dL_law_396 ?_
  refine lv_topi (fun x_2 ex_2 => ?_)
  have ex_2 : (nI 2) = x_2 := ((ex_2.trans (congrArg xs (nI_clamp (by omega)))).trans ej).symm
  subst ex_2
  refine lv_aload_n hx hb dL_law_397 rfl (lv_at hl 0 rfl) ?_
  refine lv_iload hx hb dL_law_398 (lv_at hl 4 rfl) ?_
  refine lv_iconst (v := 2) hx hb dL_law_400 (by decide) ?_
  refine lv_iadd hx hb dL_law_401 ?_
  refine lv_topi (fun x_3 ex_3 => ?_)
  have ex_3 : x_3 = nI (i + 2) := ex_3.trans (nI_add i 2)
  subst ex_3
  refine va_sld hx hb hX hbl hbA hS (vp_in_nI (by omega) (by omega)) dL_law_402 ?_
  refine lv_topi (fun x_4 ex_4 => ?_)
  have ex_4 : (nI n) = x_4 := ((ex_4.trans (congrArg xs (nI_clamp (by omega)))).trans en).symm
  subst ex_4
  refine lv_aload_n hx hb dL_law_403 rfl (lv_at hl 0 rfl) ?_
  refine lv_iload hx hb dL_law_404 (lv_at hl 4 rfl) ?_
  refine lv_iconst (v := 3) hx hb dL_law_406 (by decide) ?_
  refine lv_iadd hx hb dL_law_407 ?_
  refine lv_topi (fun x_5 ex_5 => ?_)
  have ex_5 : x_5 = nI (i + 3) := ex_5.trans (nI_add i 3)
  subst ex_5
  refine va_sld hx hb hX hbl hbA hS (vp_in_nI (by omega) (by omega)) dL_law_408 ?_
  refine lv_topi (fun x_6 ex_6 => ?_)
  have ex_6 : (nI x) = x_6 := ((ex_6.trans (congrArg xs (nI_clamp (by omega)))).trans ex9).symm
  subst ex_6
  refine lv_aload_n hx hb dL_law_409 rfl (lv_at hl 0 rfl) ?_
  refine lv_iload hx hb dL_law_410 (lv_at hl 4 rfl) ?_
  refine lv_iconst (v := 4) hx hb dL_law_412 (by decide) ?_
  refine lv_iadd hx hb dL_law_413 ?_
  refine lv_topi (fun x_7 ex_7 => ?_)
  have ex_7 : x_7 = nI (i + 4) := ex_7.trans (nI_add i 4)
  subst ex_7
  refine va_sld hx hb hX hbl hbA hS (vp_in_nI (by omega) (by omega)) dL_law_414 ?_
  refine lv_topi (fun x_8 ex_8 => ?_)
  have ex_8 : (nI y) = x_8 := ((ex_8.trans (congrArg xs (nI_clamp (by omega)))).trans ey9).symm
  subst ex_8
  refine lv_aload_n hx hb dL_law_415 rfl (lv_at hl 0 rfl) ?_
  refine lv_iload hx hb dL_law_416 (lv_at hl 4 rfl) ?_
  refine lv_iconst (v := 5) hx hb dL_law_418 (by decide) ?_
  refine lv_iadd hx hb dL_law_419 ?_
  refine lv_topi (fun x_9 ex_9 => ?_)
  have ex_9 : x_9 = nI (i + 5) := ex_9.trans (nI_add i 5)
  subst ex_9
  refine va_sld hx hb hX hbl hbA hS (vp_in_nI (by omega) (by omega)) dL_law_420 ?_
  refine lv_topi (fun x_10 ex_10 => ?_)
  have ex_10 : (nI c9) = x_10 := ((ex_10.trans (congrArg xs (nI_clamp (by omega)))).trans ec9).symm
  subst ex_10
  refine lv_aload_n hx hb dL_law_421 rfl (lv_at hl 3 rfl) ?_
  have hPc := hP.sub (ws' := [((ad 0), .inr (1, [.ref (ad 1), .ref (ad 2), .ref (ad 3), .ref (ad 4)])), ((ad 2), .inl (cU, 4, .inr (.inr (.inr (.inr g))))), ((ad 11), .inr (0, [.int (un (8 * 2)), .int (un (8 * 2 + 4)), .int (un (8 * 2 + 1)), .int (un (8 * 2 + 2)), .int (un (8 * 2 + 3)), .int (un (8 * 2 + 5)), .int (un (8 * 2 + 6)), .int (un (8 * 2 + 7)), .ref (ad 12), .ref (ad 13)])), ((ad 1), .inl (cI, 2048, .inl mem)), ((ad 13), .inl (cI, 12, .inl (S 2))), ((ad 28), .inl (cJ, 1, .inr (.inl of)))]) [0, 2, 11, 1, 13, 28] rfl
  have hDc := hD.sub (ws' := [((ad 0), .inr (1, [.ref (ad 1), .ref (ad 2), .ref (ad 3), .ref (ad 4)])), ((ad 2), .inl (cU, 4, .inr (.inr (.inr (.inr g))))), ((ad 11), .inr (0, [.int (un (8 * 2)), .int (un (8 * 2 + 4)), .int (un (8 * 2 + 1)), .int (un (8 * 2 + 2)), .int (un (8 * 2 + 3)), .int (un (8 * 2 + 5)), .int (un (8 * 2 + 6)), .int (un (8 * 2 + 7)), .ref (ad 12), .ref (ad 13)])), ((ad 1), .inl (cI, 2048, .inl mem)), ((ad 13), .inl (cI, 12, .inl (S 2))), ((ad 28), .inl (cJ, 1, .inr (.inl of)))]) [0, 2, 11, 1, 13, 28] (by decide) rfl
  have hFc := va_free (wc := [((ad 0), .inr (1, [.ref (ad 1), .ref (ad 2), .ref (ad 3), .ref (ad 4)])), ((ad 2), .inl (cU, 4, .inr (.inr (.inr (.inr g))))), ((ad 11), .inr (0, [.int (un (8 * 2)), .int (un (8 * 2 + 4)), .int (un (8 * 2 + 1)), .int (un (8 * 2 + 2)), .int (un (8 * 2 + 3)), .int (un (8 * 2 + 5)), .int (un (8 * 2 + 6)), .int (un (8 * 2 + 7)), .ref (ad 12), .ref (ad 13)])), ((ad 1), .inl (cI, 2048, .inl mem)), ((ad 13), .inl (cI, 12, .inl (S 2))), ((ad 28), .inl (cJ, 1, .inr (.inl of)))]) hD hS hA [0, 2, 11, 1, 13, 28] rfl
  refine va_calli (vx_runSW (As := [.ref (ad 0), .int (nI 2), .int (nI n), .int (nI x), .int (nI y), .int (nI c9), .ref (ad 28)]) (rest := []) ⟨hx, hb, hml, hown, hts⟩ (k_texel0 l dC dI (ad 0) (ad 1) (ad 2) (ad 3) (ad 4) cU g (ad 11) (un (8 * 2)) (un (8 * 2 + 4)) (un (8 * 2 + 1)) (un (8 * 2 + 2)) (un (8 * 2 + 3)) (un (8 * 2 + 5)) (un (8 * 2 + 6)) (un (8 * 2 + 7)) (ad 12) (ad 13) cI mem (S 2) tb (nI 2) (nI n) (nI x) (nI y) (nI c9) (ad 28) cJ of H.size (md_unit (by decide)) (hg9 2 (by decide)) hv (by rw [e4]; exact vp_in_nI b2 (by decide)) (vp_in_nI (by omega) (by decide))) (vx_cwSW 7 hts (tg_S tw_230 tw_231 tw_0 tw_232) rfl rfl rfl (by decide +kernel) ⟨Nat.le_of_ble_eq_true rfl, Nat.le_of_ble_eq_true rfl⟩) ⟨wt_blind, fun U hU hW => ⟨rfl, wt_use hPc (hK.sub [1, 0, 2] rfl) hDc hX9 hS hFc U hU hW⟩⟩ rfl rfl hl.1 rfl (lv_room (Nat.le_of_ble_eq_true rfl)) dL_law_422 ⟨by omega, by omega⟩) hS (fun q _ h => hFc q h) hFc (fun r9 u9 t9 H1 locs ht hvm hw hB hz1 hk1 hS => ?_)
  obtain ⟨hP1, hK1, hD1⟩ := hB
  rw [ht] at hP1
  subst hw
  obtain ⟨hP, hD⟩ := tu_frame (w1 := [((ad 0), .inr (1, [.ref (ad 1), .ref (ad 2), .ref (ad 3), .ref (ad 4)])), ((ad 2), .inl (cU, 4, .inr (.inr (.inr (.inr g))))), ((ad 11), .inr (0, [.int (un (8 * 2)), .int (un (8 * 2 + 4)), .int (un (8 * 2 + 1)), .int (un (8 * 2 + 2)), .int (un (8 * 2 + 3)), .int (un (8 * 2 + 5)), .int (un (8 * 2 + 6)), .int (un (8 * 2 + 7)), .ref (ad 12), .ref (ad 13)])), ((ad 1), .inl (cI, 2048, .inl mem)), ((ad 13), .inl (cI, 12, .inl (S 2))), ((ad 28), .inl (cJ, 1, .inr (.inl (vp_updL of 0 (tu_stored mem (S 2) (un (8 * 2)) (un (8 * 2 + 4)) (un (8 * 2 + 1)) (nI n) (nI x) (nI y) (nI c9) : Int32).toInt64))))]) (W2 := (lW ad cI cU cJ g mem un lat nxt B S th mem un bo lt sc (vp_updL of 0 (tu_stored mem (S 2) (un (8 * 2)) (un (8 * 2 + 4)) (un (8 * 2 + 1)) (nI n) (nI x) (nI y) (nI c9) : Int32).toInt64))) hP hD [0, 2, 11, 1, 13, 28] [3, 4, 5, 6, 7, 8, 9, 10, 12, 14, 15, 16, 17, 18, 19, 20, 21, 22, 23, 24, 25, 26, 27] [23, 26, 24, 0, 1, 2, 3, 4, 5, 6, 7, 25, 8, 27, 9, 10, 11, 12, 13, 14, 15, 16, 17, 18, 19, 20, 21, 22, 28] rfl rfl (by decide) (by decide) hk1 hFc hP1 hD1 rfl (by decide)
  clear hPc hDc hFc hP1 hK1 hD1 hk1 hz1
  generalize H1 = H at hP hS ⊢
  clear ht hvm
  refine lv_istore (lv' := [(5, .int 0), (0, .ref b), (1, .ref (ad 0)), (2, .ref (ad 17)), (3, .ref (ad 28)), (4, .int (nI i))]) hx hb dL_law_425 hl (by decide) rfl (fun ls hl => ?_)
  refine lv_aload_n hx hb dL_law_427 rfl (lv_at hl 3 rfl) ?_
  refine lv_aload_n hx hb dL_law_428 rfl (lv_at hl 1 rfl) ?_
  refine lv_iload hx hb dL_law_429 (lv_at hl 5 rfl) ?_
  refine lv_iconst (v := 1) hx hb dL_law_431 (by decide) ?_
  refine lv_iadd hx hb dL_law_432 ?_
  refine lv_topi (fun x_11 ex_11 => ?_)
  have ex_11 : x_11 = nI (i + 1) := ex_11.trans (nI_add i 1)
  subst ex_11
  refine va_sld hx hb hX hbl hbA hS (vp_in_nI (by omega) (by omega)) dL_law_433 ?_
  refine lv_topi (fun x_12 ex_12 => ?_)
  have ex_12 : (nI 2) = x_12 := ((ex_12.trans (congrArg xs (nI_clamp (by omega)))).trans ej).symm
  subst ex_12
  refine lv_aload_n hx hb dL_law_434 rfl (lv_at hl 1 rfl) ?_
  refine lv_iload hx hb dL_law_435 (lv_at hl 5 rfl) ?_
  refine lv_iconst (v := 2) hx hb dL_law_437 (by decide) ?_
  refine lv_iadd hx hb dL_law_438 ?_
  refine lv_topi (fun x_13 ex_13 => ?_)
  have ex_13 : x_13 = nI (i + 2) := ex_13.trans (nI_add i 2)
  subst ex_13
  refine va_sld hx hb hX hbl hbA hS (vp_in_nI (by omega) (by omega)) dL_law_439 ?_
  refine lv_topi (fun x_14 ex_14 => ?_)
  have ex_14 : (nI n) = x_14 := ((ex_14.trans (congrArg xs (nI_clamp (by omega)))).trans en).symm
  subst ex_14
  refine lv_aload_n hx hb dL_law_440 rfl (lv_at hl 1 rfl) ?_
  refine lv_iload hx hb dL_law_441 (lv_at hl 5 rfl) ?_
  refine lv_iconst (v := 3) hx hb dL_law_443 (by decide) ?_
  refine lv_iadd hx hb dL_law_444 ?_
  refine lv_topi (fun x_15 ex_15 => ?_)
  have ex_15 : x_15 = nI (i + 3) := ex_15.trans (nI_add i 3)
  subst ex_15
  refine va_sld hx hb hX hbl hbA hS (vp_in_nI (by omega) (by omega)) dL_law_445 ?_
  refine lv_topi (fun x_16 ex_16 => ?_)
  have ex_16 : (nI x) = x_16 := ((ex_16.trans (congrArg xs (nI_clamp (by omega)))).trans ex9).symm
  subst ex_16
  refine lv_aload_n hx hb dL_law_446 rfl (lv_at hl 1 rfl) ?_
  refine lv_iload hx hb dL_law_447 (lv_at hl 5 rfl) ?_
  refine lv_iconst (v := 4) hx hb dL_law_449 (by decide) ?_
  refine lv_iadd hx hb dL_law_450 ?_
  refine lv_topi (fun x_17 ex_17 => ?_)
  have ex_17 : x_17 = nI (i + 4) := ex_17.trans (nI_add i 4)
  subst ex_17
  refine va_sld hx hb hX hbl hbA hS (vp_in_nI (by omega) (by omega)) dL_law_451 ?_
  refine lv_topi (fun x_18 ex_18 => ?_)
  have ex_18 : (nI y) = x_18 := ((ex_18.trans (congrArg xs (nI_clamp (by omega)))).trans ey9).symm
  subst ex_18
  refine lv_aload_n hx hb dL_law_452 rfl (lv_at hl 1 rfl) ?_
  refine lv_iload hx hb dL_law_453 (lv_at hl 5 rfl) ?_
  refine lv_iconst (v := 5) hx hb dL_law_455 (by decide) ?_
  refine lv_iadd hx hb dL_law_456 ?_
  refine lv_topi (fun x_19 ex_19 => ?_)
  have ex_19 : x_19 = nI (i + 5) := ex_19.trans (nI_add i 5)
  subst ex_19
  refine va_sld hx hb hX hbl hbA hS (vp_in_nI (by omega) (by omega)) dL_law_457 ?_
  refine lv_topi (fun x_20 ex_20 => ?_)
  have ex_20 : (nI c9) = x_20 := ((ex_20.trans (congrArg xs (nI_clamp (by omega)))).trans ec9).symm
  subst ex_20
  have hPc := hP.sub (ws' := [((ad 17), .inr (2, [.int th, .ref (ad 18), .ref (ad 19), .ref (ad 20), .ref (ad 21), .ref (ad 22), .ref (ad 23), .ref (ad 24), .ref (ad 25), .ref (ad 26), .ref (ad 27)])), ((ad 18), .inl (cI, 2048, .inl mem)), ((ad 19), .inl (cI, 32, .inl un)), ((ad 22), .inl (cI, 4, .inl (sc 0))), ((ad 26), .inl (cI, 4, .inl (sc 4))), ((ad 27), .inl (cI, 4, .inl (sc 5)))]) [17, 18, 19, 22, 26, 27] rfl
  have hDc := hD.sub (ws' := [((ad 17), .inr (2, [.int th, .ref (ad 18), .ref (ad 19), .ref (ad 20), .ref (ad 21), .ref (ad 22), .ref (ad 23), .ref (ad 24), .ref (ad 25), .ref (ad 26), .ref (ad 27)])), ((ad 18), .inl (cI, 2048, .inl mem)), ((ad 19), .inl (cI, 32, .inl un)), ((ad 22), .inl (cI, 4, .inl (sc 0))), ((ad 26), .inl (cI, 4, .inl (sc 4))), ((ad 27), .inl (cI, 4, .inl (sc 5)))]) [17, 18, 19, 22, 26, 27] (by decide) rfl
  have hFc := va_free (wc := [((ad 17), .inr (2, [.int th, .ref (ad 18), .ref (ad 19), .ref (ad 20), .ref (ad 21), .ref (ad 22), .ref (ad 23), .ref (ad 24), .ref (ad 25), .ref (ad 26), .ref (ad 27)])), ((ad 18), .inl (cI, 2048, .inl mem)), ((ad 19), .inl (cI, 32, .inl un)), ((ad 22), .inl (cI, 4, .inl (sc 0))), ((ad 26), .inl (cI, 4, .inl (sc 4))), ((ad 27), .inl (cI, 4, .inl (sc 5)))]) hD hS hA [17, 18, 19, 22, 26, 27] rfl
  refine va_calli (va_runV (As := [.int (nI 2), .int (nI n), .int (nI x), .int (nI y), .int (nI c9)]) (rest := []) ⟨hx, hb, hml, hown, hts⟩ (m_texel0 l dC dI (ad 17) th (ad 18) (ad 19) (ad 20) (ad 21) (ad 22) (ad 23) (ad 24) (ad 25) (ad 26) (ad 27) cI mem un (sc 0) (sc 4) (sc 5) 2 n a f ga gb x y c9 H.size (by decide) (by omega) b2 b1 b3 b4 e0 e1 e2 e4 hx9 hy9 hc9 ((tx_iff hu _ _ _ _).mp hv)) (cwV 5 hts (tg_V tw_394 tw_395 tw_396 tw_3 tw_397) rfl rfl rfl (by decide +kernel) ⟨Nat.le_of_ble_eq_true rfl, Nat.le_of_ble_eq_true rfl⟩) ⟨wr_blind, va_recv hK hP (ci := 2) (q0 := 17) rfl rfl, fun U hU hW => ⟨rfl, wr_use hPc (hK.sub [0] rfl) hDc U hU hW⟩⟩ rfl rfl hl.1 rfl (lv_room (Nat.le_of_ble_eq_true rfl)) dL_law_458 ⟨by omega, by omega⟩) hS (fun q _ h => hFc q h) hFc (fun r9 u9 t9 H1 locs ht hvm hw hB hz1 hk1 hS => ?_)
  obtain ⟨d2, f2, s2, hP1, hK1, hD1⟩ := hB
  rw [ht] at hP1
  subst hw
  obtain ⟨hP, hD⟩ := tu_frame (w1 := [((ad 17), .inr (2, [.int 0, .ref (ad 18), .ref (ad 19), .ref (ad 20), .ref (ad 21), .ref (ad 22), .ref (ad 23), .ref (ad 24), .ref (ad 25), .ref (ad 26), .ref (ad 27)])), ((ad 18), .inl (cI, 2048, .inl mem)), ((ad 19), .inl (cI, 32, .inl un)), ((ad 22), .inl (cI, 4, .inl d2)), ((ad 26), .inl (cI, 4, .inl f2)), ((ad 27), .inl (cI, 4, .inl s2))]) (W2 := (lW ad cI cU cJ g mem un lat nxt B S 0 mem un bo lt (va_up (va_up (va_up sc 0 d2) 4 f2) 5 s2) (vp_updL of 0 (tu_stored mem (S 2) (un (8 * 2)) (un (8 * 2 + 4)) (un (8 * 2 + 1)) (nI n) (nI x) (nI y) (nI c9) : Int32).toInt64))) hP hD [17, 18, 19, 22, 26, 27] [0, 1, 2, 3, 4, 5, 6, 7, 8, 9, 10, 11, 12, 13, 14, 15, 16, 20, 21, 23, 24, 25, 28] [0, 1, 2, 3, 4, 5, 6, 7, 8, 9, 10, 11, 12, 13, 14, 15, 16, 23, 24, 25, 17, 18, 26, 19, 20, 21, 27, 28, 22] rfl rfl (by decide) (by decide) hk1 hFc hP1 hD1 rfl (by decide)
  clear hPc hDc hFc hP1 hK1 hD1 hk1 hz1
  generalize H1 = H at hP hS ⊢
  clear ht hvm
  have heq : tu_stored mem (S 2) (un (8 * 2)) (un (8 * 2 + 4)) (un (8 * 2 + 1)) (nI n) (nI x) (nI y) (nI c9) = (md_ch mem a f (md_T ga gb n x y) c9) := by rw [e0, e4, e1]; exact eq_stored b1 b2 b3 b4 (by omega) hx9 hy9 hc9 (hs9 n (by omega))
  refine lv_istore (lv' := [(6, .int (md_ch mem a f (md_T ga gb n x y) c9)), (5, .int 0), (0, .ref b), (1, .ref (ad 0)), (2, .ref (ad 17)), (3, .ref (ad 28)), (4, .int (nI i))]) hx hb dL_law_461 hl (by decide) rfl (fun ls hl => ?_)
  refine lv_aload_n hx hb dL_law_463 rfl (lv_at hl 4 rfl) ?_
  refine rd_call (W.runV (As := []) (rest := []) ⟨hx, hb, hml, hown, hts⟩ (m_thrown l dC dI (ad 17) 0 (ad 18) (ad 19) (ad 20) (ad 21) (ad 22) (ad 23) (ad 24) (ad 25) (ad 26) (ad 27)) (cwV 0 hts (tg_V tw_367 tw_368 tw_369 tw_3 tw_370) rfl rfl rfl (by decide +kernel) ⟨Nat.le_of_ble_eq_true rfl, Nat.le_of_ble_eq_true rfl⟩) ⟨rd_blind, va_recv hK hP (ci := 2) (q0 := 17) rfl rfl, fun U hU hW => ⟨rfl, rd_use (hP.sub [17] rfl) (hK.sub [] rfl) U hU hW⟩⟩ rfl rfl hl.1 rfl (lv_room (Nat.le_of_ble_eq_true rfl)) dL_law_464 ⟨by omega, by omega⟩) ?_
  refine lv_iload hx hb dL_law_467 (lv_at hl 1 rfl) ?_
  refine lv_icmp_eq (tgt := 474) hx hb dL_law_469 (by decide) (fun c_21 => ?_) (fun c_21 => absurd (by decide) c_21)
  refine lv_iload hx hb dL_law_474 (lv_at hl 1 rfl) ?_
  refine lv_if_ne (tgt := 491) hx hb dL_law_476 (by decide) (fun c_22 => absurd (by decide) c_22) (fun c_22 => ?_)
  refine lv_aload_n hx hb dL_law_479 rfl (lv_at hl 5 rfl) ?_
  refine lv_iconst (v := 0) hx hb dL_law_480 (by decide) ?_
  refine va_lald hx hb hK hP 28 2 rfl rfl (tu_in (by decide)) dL_law_481 ?_
  refine lv_topl (fun x_23 ex_23 => ?_)
  have ex_23 : x_23 = ((tu_stored mem (S 2) (un (8 * 2)) (un (8 * 2 + 4)) (un (8 * 2 + 1)) (nI n) (nI x) (nI y) (nI c9) : Int32).toInt64) := (ex_23).trans pk_uLs
  subst ex_23
  refine lv_iload hx hb dL_law_482 (lv_at hl 0 rfl) ?_
  refine lv_i2l hx hb dL_law_484 rfl ?_
  refine W.lcmp hx hb dL_law_485 ?_
  refine lv_if_eq (tgt := 491) hx hb dL_law_486 (by decide) (fun c_24 => ?_) (fun c_24 => absurd ((lg_cmp_eq _ _).mpr (congrArg Int32.toInt64 heq)) c_24)
  refine lv_goto (tgt := 698) hx hb dL_law_491 (by decide) ?_
  refine W.widen (k := cells + 1) (n := slots + 6) (by omega) (by omega) ?_
  exact K9 mem un lat nxt B S 0 bo lt (va_up (va_up (va_up sc 0 d2) 4 f2) 5 s2) (vp_updL of 0 (tu_stored mem (S 2) (un (8 * 2)) (un (8 * 2 + 4)) (un (8 * 2 + 1)) (nI n) (nI x) (nI y) (nI c9) : Int32).toInt64) hI H locs hP hD hS ls (lv_sub hl [2, 3, 4, 5, 6] rfl)
set_option maxHeartbeats 4000000 in
set_option maxRecDepth 100000 in
theorem st_texel_2_2 {p : Program} {l : Launch} {e : Env} {s : State} {m : MethodId} {below : List Frame} {meth : Method} {c : Code} {dC : Nat → ClassId} {dI : Nat → Nat → Nat} {b L : Nat} {xs : Nat → Int32} (hst : l.stackTraces = false) (C0 : lw_At p s m meth c b L xs) {ad : Nat → Nat} {cI cU cJ : ClassId} {g : Nat → Option Nat} {tb : Nat × Nat × Nat} (hg9 : ∀ j, j < 4 → g j = some (ad (5 + 3 * j))) (hK : va_K (dC, dI) vwCl [(cI, .int), (cU, .object "TextureUnits$Unit"), (cJ, .long)] s) (hX9 : tb_T tb (fun q : Nat => s.heap.size ≤ q) s s.heap) (hE : ex_E (fun q : Nat => s.heap.size ≤ q) s s.heap) (hL : L ≤ 3584) {i : Nat} (hi : i + 7 ≤ L) {cells slots : Nat} (hc : cells + 1 ≤ room_1.cells) (hs : slots + 6 ≤ room_1.slots)
    (K9 : ∀ (mem un lat nxt : Nat → Int32) (B S : Nat → Nat → Int32) (th : Int32) (bo lt : Nat → Int32) (sc : Nat → Nat → Int32) (of : Nat → Int64), lI un bo lat lt B S → ∀ (H : Heap) (locs : List Loc), va_P (dC, dI) vwCl (lW ad cI cU cJ g mem un lat nxt B S th mem un bo lt sc of) H → va_D (fun q : Nat => s.heap.size ≤ q) (lW ad cI cU cJ g mem un lat nxt B S th mem un bo lt sc of) → va_S (fun q : Nat => s.heap.size ≤ q) s.heap H locs → ∀ (ls : Array Slot), lv_has ls 7 [(0, .ref b), (1, .ref (ad 0)), (2, .ref (ad 17)), (3, .ref (ad 28)), (4, .int (nI i))] → W p l e room_1 s m #[Value.ref b] below meth c H locs (cells + 1) (slots + 6) (lw_Z below #[Value.ref b] s) (F0 m 698 ls []))
    {mem un lat nxt : Nat → Int32} {B S : Nat → Nat → Int32} {th : Int32} {bo lt : Nat → Int32} {sc : Nat → Nat → Int32} {of : Nat → Int64} (hI : lI un bo lat lt B S) {H : Heap} {locs : List Loc} (hP : va_P (dC, dI) vwCl (lW ad cI cU cJ g mem un lat nxt B S th mem un bo lt sc of) H) (hD : va_D (fun q : Nat => s.heap.size ≤ q) (lW ad cI cU cJ g mem un lat nxt B S th mem un bo lt sc of)) (hS : va_S (fun q : Nat => s.heap.size ≤ q) s.heap H locs) {ls : Array Slot} (hl : lv_has ls 7 [(0, .ref b), (1, .ref (ad 0)), (2, .ref (ad 17)), (3, .ref (ad 28)), (4, .int (nI i))]) (ej : xs (i + 1) = nI 2) (hn : ¬ (¬ tu_win (xs (i + 2)) 0 (un (8 * 2 + 3) - 1) = 0 ∧ ¬ tu_win (xs (i + 3)) 0 (tu_len (un (8 * 2 + 1)) (xs (i + 2)) - 1) = 0 ∧ ¬ tu_win (xs (i + 4)) 0 (tu_len (un (8 * 2 + 2)) (xs (i + 2)) - 1) = 0 ∧ ¬ tu_win (xs (i + 5)) 0 3 = 0)) : W p l e room_1 s m #[Value.ref b] below meth c H locs cells slots (lw_Z below #[Value.ref b] s) (F0 m 390 ls []) := by
  obtain ⟨hx, hb, hr, hml, hown, hts0, hX, hbl, hlocks, hgv⟩ := id C0
  have hts := lw_hts hts0
  have hA : ∀ q : Nat, s.heap.size ≤ q → (fun q : Nat => s.heap.size ≤ q) q := fun _ h => h
  have hbA : ¬ (fun q : Nat => s.heap.size ≤ q) b := Nat.not_le.mpr hbl
  obtain ⟨a, f, ga, gb, lv, ac, dn, fi, hu, hs9⟩ := hI.1 2 (by decide)
  obtain ⟨⟨b1, b2, b3, b4, b5, b6, b7, b8⟩, e0, e1, e2, e3, e4, e5, e6, e7⟩ := id hu
  refine lv_aload_n hx hb dL_law_390 rfl (lv_at hl 1 rfl) ?_
  refine lv_aload_n hx hb dL_law_391 rfl (lv_at hl 0 rfl) ?_
  refine lv_iload hx hb dL_law_392 (lv_at hl 4 rfl) ?_
  refine lv_iconst (v := 1) hx hb dL_law_394 (by decide) ?_
  refine lv_iadd hx hb dL_law_395 ?_
  refine lv_topi (fun x_1 ex_1 => ?_)
  have ex_1 : x_1 = nI (i + 1) := ex_1.trans (nI_add i 1)
  subst ex_1
  refine va_sld hx hb hX hbl hbA hS (vp_in_nI (by omega) (by omega)) dL_law_396 ?_
  refine lv_topi (fun x_2 ex_2 => ?_)
  have ex_2 : (nI 2) = x_2 := ((ex_2.trans (congrArg xs (nI_clamp (by omega)))).trans ej).symm
  subst ex_2
  refine lv_aload_n hx hb dL_law_397 rfl (lv_at hl 0 rfl) ?_
  refine lv_iload hx hb dL_law_398 (lv_at hl 4 rfl) ?_
  refine lv_iconst (v := 2) hx hb dL_law_400 (by decide) ?_
  refine lv_iadd hx hb dL_law_401 ?_
  refine lv_topi (fun x_3 ex_3 => ?_)
  have ex_3 : x_3 = nI (i + 2) := ex_3.trans (nI_add i 2)
  subst ex_3
  refine va_sld hx hb hX hbl hbA hS (vp_in_nI (by omega) (by omega)) dL_law_402 ?_
  refine lv_topi (fun x_4 ex_4 => ?_)
  have ex_4 : xs (i + 2) = x_4 := (ex_4.trans (congrArg xs (nI_clamp (by omega)))).symm
  subst ex_4
  refine lv_aload_n hx hb dL_law_403 rfl (lv_at hl 0 rfl) ?_
  refine lv_iload hx hb dL_law_404 (lv_at hl 4 rfl) ?_
  refine lv_iconst (v := 3) hx hb dL_law_406 (by decide) ?_
  refine lv_iadd hx hb dL_law_407 ?_
  refine lv_topi (fun x_5 ex_5 => ?_)
  have ex_5 : x_5 = nI (i + 3) := ex_5.trans (nI_add i 3)
  subst ex_5
  refine va_sld hx hb hX hbl hbA hS (vp_in_nI (by omega) (by omega)) dL_law_408 ?_
  refine lv_topi (fun x_6 ex_6 => ?_)
  have ex_6 : xs (i + 3) = x_6 := (ex_6.trans (congrArg xs (nI_clamp (by omega)))).symm
  subst ex_6
  refine lv_aload_n hx hb dL_law_409 rfl (lv_at hl 0 rfl) ?_
  refine lv_iload hx hb dL_law_410 (lv_at hl 4 rfl) ?_
  refine lv_iconst (v := 4) hx hb dL_law_412 (by decide) ?_
  refine lv_iadd hx hb dL_law_413 ?_
  refine lv_topi (fun x_7 ex_7 => ?_)
  have ex_7 : x_7 = nI (i + 4) := ex_7.trans (nI_add i 4)
  subst ex_7
  refine va_sld hx hb hX hbl hbA hS (vp_in_nI (by omega) (by omega)) dL_law_414 ?_
  refine lv_topi (fun x_8 ex_8 => ?_)
  have ex_8 : xs (i + 4) = x_8 := (ex_8.trans (congrArg xs (nI_clamp (by omega)))).symm
  subst ex_8
  refine lv_aload_n hx hb dL_law_415 rfl (lv_at hl 0 rfl) ?_
  refine lv_iload hx hb dL_law_416 (lv_at hl 4 rfl) ?_
  refine lv_iconst (v := 5) hx hb dL_law_418 (by decide) ?_
  refine lv_iadd hx hb dL_law_419 ?_
  refine lv_topi (fun x_9 ex_9 => ?_)
  have ex_9 : x_9 = nI (i + 5) := ex_9.trans (nI_add i 5)
  subst ex_9
  refine va_sld hx hb hX hbl hbA hS (vp_in_nI (by omega) (by omega)) dL_law_420 ?_
  refine lv_topi (fun x_10 ex_10 => ?_)
  have ex_10 : xs (i + 5) = x_10 := (ex_10.trans (congrArg xs (nI_clamp (by omega)))).symm
  subst ex_10
  refine lv_aload_n hx hb dL_law_421 rfl (lv_at hl 3 rfl) ?_
  have hPc := hP.sub (ws' := [((ad 0), .inr (1, [.ref (ad 1), .ref (ad 2), .ref (ad 3), .ref (ad 4)])), ((ad 2), .inl (cU, 4, .inr (.inr (.inr (.inr g))))), ((ad 11), .inr (0, [.int (un (8 * 2)), .int (un (8 * 2 + 4)), .int (un (8 * 2 + 1)), .int (un (8 * 2 + 2)), .int (un (8 * 2 + 3)), .int (un (8 * 2 + 5)), .int (un (8 * 2 + 6)), .int (un (8 * 2 + 7)), .ref (ad 12), .ref (ad 13)])), ((ad 28), .inl (cJ, 1, .inr (.inl of)))]) [0, 2, 11, 28] rfl
  have hDc := hD.sub (ws' := [((ad 0), .inr (1, [.ref (ad 1), .ref (ad 2), .ref (ad 3), .ref (ad 4)])), ((ad 2), .inl (cU, 4, .inr (.inr (.inr (.inr g))))), ((ad 11), .inr (0, [.int (un (8 * 2)), .int (un (8 * 2 + 4)), .int (un (8 * 2 + 1)), .int (un (8 * 2 + 2)), .int (un (8 * 2 + 3)), .int (un (8 * 2 + 5)), .int (un (8 * 2 + 6)), .int (un (8 * 2 + 7)), .ref (ad 12), .ref (ad 13)])), ((ad 28), .inl (cJ, 1, .inr (.inl of)))]) [0, 2, 11, 28] (by decide) rfl
  have hFc := va_free (wc := [((ad 0), .inr (1, [.ref (ad 1), .ref (ad 2), .ref (ad 3), .ref (ad 4)])), ((ad 2), .inl (cU, 4, .inr (.inr (.inr (.inr g))))), ((ad 11), .inr (0, [.int (un (8 * 2)), .int (un (8 * 2 + 4)), .int (un (8 * 2 + 1)), .int (un (8 * 2 + 2)), .int (un (8 * 2 + 3)), .int (un (8 * 2 + 5)), .int (un (8 * 2 + 6)), .int (un (8 * 2 + 7)), .ref (ad 12), .ref (ad 13)])), ((ad 28), .inl (cJ, 1, .inr (.inl of)))]) hD hS hA [0, 2, 11, 28] rfl
  refine va_calli (vx_runSW (As := [.ref (ad 0), .int (nI 2), .int (xs (i + 2)), .int (xs (i + 3)), .int (xs (i + 4)), .int (xs (i + 5)), .ref (ad 28)]) (rest := []) ⟨hx, hb, hml, hown, hts⟩ (k_texel2 l dC dI (ad 0) (ad 1) (ad 2) (ad 3) (ad 4) cU g (ad 11) (un (8 * 2)) (un (8 * 2 + 4)) (un (8 * 2 + 1)) (un (8 * 2 + 2)) (un (8 * 2 + 3)) (un (8 * 2 + 5)) (un (8 * 2 + 6)) (un (8 * 2 + 7)) (ad 12) (ad 13) (nI 2) (xs (i + 2)) (xs (i + 3)) (xs (i + 4)) (xs (i + 5)) (ad 28) cJ of H.size hst (md_unit (by decide)) (hg9 2 (by decide)) hn) (vx_cwSW 7 hts (tg_S tw_230 tw_231 tw_0 tw_232) rfl rfl rfl (by decide +kernel) ⟨Nat.le_of_ble_eq_true rfl, Nat.le_of_ble_eq_true rfl⟩) ⟨wx_blind, fun U hU hW => ⟨rfl, wx_use hPc (hK.sub [1, 2] rfl) hDc hE hS U hU hW⟩⟩ rfl rfl hl.1 rfl (lv_room (Nat.le_of_ble_eq_true rfl)) dL_law_422 ⟨hc, hs⟩) hS (fun q _ h => hFc q h) hFc (fun r9 u9 t9 H1 locs ht hvm hw hB hz1 hk1 hS => ?_)
  obtain ⟨hP1, hK1, hD1⟩ := hB
  rw [ht] at hP1
  subst hw
  obtain ⟨hP, hD⟩ := tu_frame (w1 := [((ad 0), .inr (1, [.ref (ad 1), .ref (ad 2), .ref (ad 3), .ref (ad 4)])), ((ad 2), .inl (cU, 4, .inr (.inr (.inr (.inr g))))), ((ad 11), .inr (0, [.int (un (8 * 2)), .int (un (8 * 2 + 4)), .int (un (8 * 2 + 1)), .int (un (8 * 2 + 2)), .int (un (8 * 2 + 3)), .int (un (8 * 2 + 5)), .int (un (8 * 2 + 6)), .int (un (8 * 2 + 7)), .ref (ad 12), .ref (ad 13)])), ((ad 28), .inl (cJ, 1, .inr (.inl of)))]) (W2 := (lW ad cI cU cJ g mem un lat nxt B S th mem un bo lt sc of)) hP hD [0, 2, 11, 28] [1, 3, 4, 5, 6, 7, 8, 9, 10, 12, 13, 14, 15, 16, 17, 18, 19, 20, 21, 22, 23, 24, 25, 26, 27] [25, 0, 26, 1, 2, 3, 4, 5, 6, 7, 8, 27, 9, 10, 11, 12, 13, 14, 15, 16, 17, 18, 19, 20, 21, 22, 23, 24, 28] rfl rfl (by decide) (by decide) hk1 hFc hP1 hD1 rfl (by decide)
  clear hPc hDc hFc hP1 hK1 hD1 hk1 hz1
  generalize H1 = H at hP hS ⊢
  clear ht hvm
  refine lv_istore (lv' := [(5, .int 2), (0, .ref b), (1, .ref (ad 0)), (2, .ref (ad 17)), (3, .ref (ad 28)), (4, .int (nI i))]) hx hb dL_law_425 hl (by decide) rfl (fun ls hl => ?_)
  refine lv_aload_n hx hb dL_law_427 rfl (lv_at hl 3 rfl) ?_
  refine lv_aload_n hx hb dL_law_428 rfl (lv_at hl 1 rfl) ?_
  refine lv_iload hx hb dL_law_429 (lv_at hl 5 rfl) ?_
  refine lv_iconst (v := 1) hx hb dL_law_431 (by decide) ?_
  refine lv_iadd hx hb dL_law_432 ?_
  refine lv_topi (fun x_11 ex_11 => ?_)
  have ex_11 : x_11 = nI (i + 1) := ex_11.trans (nI_add i 1)
  subst ex_11
  refine va_sld hx hb hX hbl hbA hS (vp_in_nI (by omega) (by omega)) dL_law_433 ?_
  refine lv_topi (fun x_12 ex_12 => ?_)
  have ex_12 : (nI 2) = x_12 := ((ex_12.trans (congrArg xs (nI_clamp (by omega)))).trans ej).symm
  subst ex_12
  refine lv_aload_n hx hb dL_law_434 rfl (lv_at hl 1 rfl) ?_
  refine lv_iload hx hb dL_law_435 (lv_at hl 5 rfl) ?_
  refine lv_iconst (v := 2) hx hb dL_law_437 (by decide) ?_
  refine lv_iadd hx hb dL_law_438 ?_
  refine lv_topi (fun x_13 ex_13 => ?_)
  have ex_13 : x_13 = nI (i + 2) := ex_13.trans (nI_add i 2)
  subst ex_13
  refine va_sld hx hb hX hbl hbA hS (vp_in_nI (by omega) (by omega)) dL_law_439 ?_
  refine lv_topi (fun x_14 ex_14 => ?_)
  have ex_14 : xs (i + 2) = x_14 := (ex_14.trans (congrArg xs (nI_clamp (by omega)))).symm
  subst ex_14
  refine lv_aload_n hx hb dL_law_440 rfl (lv_at hl 1 rfl) ?_
  refine lv_iload hx hb dL_law_441 (lv_at hl 5 rfl) ?_
  refine lv_iconst (v := 3) hx hb dL_law_443 (by decide) ?_
  refine lv_iadd hx hb dL_law_444 ?_
  refine lv_topi (fun x_15 ex_15 => ?_)
  have ex_15 : x_15 = nI (i + 3) := ex_15.trans (nI_add i 3)
  subst ex_15
  refine va_sld hx hb hX hbl hbA hS (vp_in_nI (by omega) (by omega)) dL_law_445 ?_
  refine lv_topi (fun x_16 ex_16 => ?_)
  have ex_16 : xs (i + 3) = x_16 := (ex_16.trans (congrArg xs (nI_clamp (by omega)))).symm
  subst ex_16
  refine lv_aload_n hx hb dL_law_446 rfl (lv_at hl 1 rfl) ?_
  refine lv_iload hx hb dL_law_447 (lv_at hl 5 rfl) ?_
  refine lv_iconst (v := 4) hx hb dL_law_449 (by decide) ?_
  refine lv_iadd hx hb dL_law_450 ?_
  refine lv_topi (fun x_17 ex_17 => ?_)
  have ex_17 : x_17 = nI (i + 4) := ex_17.trans (nI_add i 4)
  subst ex_17
  refine va_sld hx hb hX hbl hbA hS (vp_in_nI (by omega) (by omega)) dL_law_451 ?_
  refine lv_topi (fun x_18 ex_18 => ?_)
  have ex_18 : xs (i + 4) = x_18 := (ex_18.trans (congrArg xs (nI_clamp (by omega)))).symm
  subst ex_18
  refine lv_aload_n hx hb dL_law_452 rfl (lv_at hl 1 rfl) ?_
  refine lv_iload hx hb dL_law_453 (lv_at hl 5 rfl) ?_
  refine lv_iconst (v := 5) hx hb dL_law_455 (by decide) ?_
  refine lv_iadd hx hb dL_law_456 ?_
  refine lv_topi (fun x_19 ex_19 => ?_)
  have ex_19 : x_19 = nI (i + 5) := ex_19.trans (nI_add i 5)
  subst ex_19
  refine va_sld hx hb hX hbl hbA hS (vp_in_nI (by omega) (by omega)) dL_law_457 ?_
  refine lv_topi (fun x_20 ex_20 => ?_)
  have ex_20 : xs (i + 5) = x_20 := (ex_20.trans (congrArg xs (nI_clamp (by omega)))).symm
  subst ex_20
  have hPc := hP.sub (ws' := [((ad 17), .inr (2, [.int th, .ref (ad 18), .ref (ad 19), .ref (ad 20), .ref (ad 21), .ref (ad 22), .ref (ad 23), .ref (ad 24), .ref (ad 25), .ref (ad 26), .ref (ad 27)])), ((ad 19), .inl (cI, 32, .inl un))]) [17, 19] rfl
  have hDc := hD.sub (ws' := [((ad 17), .inr (2, [.int th, .ref (ad 18), .ref (ad 19), .ref (ad 20), .ref (ad 21), .ref (ad 22), .ref (ad 23), .ref (ad 24), .ref (ad 25), .ref (ad 26), .ref (ad 27)])), ((ad 19), .inl (cI, 32, .inl un))]) [17, 19] (by decide) rfl
  have hFc := va_free (wc := [((ad 17), .inr (2, [.int th, .ref (ad 18), .ref (ad 19), .ref (ad 20), .ref (ad 21), .ref (ad 22), .ref (ad 23), .ref (ad 24), .ref (ad 25), .ref (ad 26), .ref (ad 27)])), ((ad 19), .inl (cI, 32, .inl un))]) hD hS hA [17, 19] rfl
  refine va_calli (va_runV (As := [.int (nI 2), .int (xs (i + 2)), .int (xs (i + 3)), .int (xs (i + 4)), .int (xs (i + 5))]) (rest := []) ⟨hx, hb, hml, hown, hts⟩ (m_texel2 l dC dI (ad 17) th (ad 18) (ad 19) (ad 20) (ad 21) (ad 22) (ad 23) (ad 24) (ad 25) (ad 26) (ad 27) cI un 2 (xs (i + 2)) (xs (i + 3)) (xs (i + 4)) (xs (i + 5)) H.size (by decide) (mt (tx_iff hu _ _ _ _).mpr hn)) (cwV 5 hts (tg_V tw_394 tw_395 tw_396 tw_3 tw_397) rfl rfl rfl (by decide +kernel) ⟨Nat.le_of_ble_eq_true rfl, Nat.le_of_ble_eq_true rfl⟩) ⟨wr_blind, va_recv hK hP (ci := 2) (q0 := 17) rfl rfl, fun U hU hW => ⟨rfl, wr_use hPc (hK.sub [0] rfl) hDc U hU hW⟩⟩ rfl rfl hl.1 rfl (lv_room (Nat.le_of_ble_eq_true rfl)) dL_law_458 ⟨by omega, by omega⟩) hS (fun q _ h => hFc q h) hFc (fun r9 u9 t9 H1 locs ht hvm hw hB hz1 hk1 hS => ?_)
  obtain ⟨hP1, hK1, hD1⟩ := hB
  rw [ht] at hP1
  subst hw
  obtain ⟨hP, hD⟩ := tu_frame (w1 := [((ad 17), .inr (2, [.int 2, .ref (ad 18), .ref (ad 19), .ref (ad 20), .ref (ad 21), .ref (ad 22), .ref (ad 23), .ref (ad 24), .ref (ad 25), .ref (ad 26), .ref (ad 27)])), ((ad 19), .inl (cI, 32, .inl un))]) (W2 := (lW ad cI cU cJ g mem un lat nxt B S 2 mem un bo lt sc of)) hP hD [17, 19] [0, 1, 2, 3, 4, 5, 6, 7, 8, 9, 10, 11, 12, 13, 14, 15, 16, 18, 20, 21, 22, 23, 24, 25, 26, 27, 28] [0, 1, 2, 3, 4, 5, 6, 7, 8, 9, 10, 11, 12, 13, 14, 15, 16, 27, 17, 28, 18, 19, 20, 21, 22, 23, 24, 25, 26] rfl rfl (by decide) (by decide) hk1 hFc hP1 hD1 rfl (by decide)
  clear hPc hDc hFc hP1 hK1 hD1 hk1 hz1
  generalize H1 = H at hP hS ⊢
  clear ht hvm
  refine lv_istore (lv' := [(6, .int 0), (5, .int 2), (0, .ref b), (1, .ref (ad 0)), (2, .ref (ad 17)), (3, .ref (ad 28)), (4, .int (nI i))]) hx hb dL_law_461 hl (by decide) rfl (fun ls hl => ?_)
  refine lv_aload_n hx hb dL_law_463 rfl (lv_at hl 4 rfl) ?_
  refine rd_call (W.runV (As := []) (rest := []) ⟨hx, hb, hml, hown, hts⟩ (m_thrown l dC dI (ad 17) 2 (ad 18) (ad 19) (ad 20) (ad 21) (ad 22) (ad 23) (ad 24) (ad 25) (ad 26) (ad 27)) (cwV 0 hts (tg_V tw_367 tw_368 tw_369 tw_3 tw_370) rfl rfl rfl (by decide +kernel) ⟨Nat.le_of_ble_eq_true rfl, Nat.le_of_ble_eq_true rfl⟩) ⟨rd_blind, va_recv hK hP (ci := 2) (q0 := 17) rfl rfl, fun U hU hW => ⟨rfl, rd_use (hP.sub [17] rfl) (hK.sub [] rfl) U hU hW⟩⟩ rfl rfl hl.1 rfl (lv_room (Nat.le_of_ble_eq_true rfl)) dL_law_464 ⟨by omega, by omega⟩) ?_
  refine lv_iload hx hb dL_law_467 (lv_at hl 1 rfl) ?_
  refine lv_icmp_eq (tgt := 474) hx hb dL_law_469 (by decide) (fun c_21 => ?_) (fun c_21 => absurd (by decide) c_21)
  refine lv_iload hx hb dL_law_474 (lv_at hl 1 rfl) ?_
  refine lv_if_ne (tgt := 491) hx hb dL_law_476 (by decide) (fun c_22 => ?_) (fun c_22 => absurd c_22 (by decide))
  refine lv_goto (tgt := 698) hx hb dL_law_491 (by decide) ?_
  refine W.widen (k := cells + 1) (n := slots + 6) (by omega) (by omega) ?_
  exact K9 mem un lat nxt B S 2 bo lt sc of hI H locs hP hD hS ls (lv_sub hl [2, 3, 4, 5, 6] rfl)
