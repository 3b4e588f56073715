
set_option maxHeartbeats 4000000 in
set_option maxRecDepth 100000 in
theorem st_read_0_3 {p : Program} {l : Launch} {e : Env} {s : State} {m : MethodId} {below : List Frame} {meth : Method} {c : Code} {dC : Nat → ClassId} {dI : Nat → Nat → Nat} {b L : Nat} {xs : Nat → Int32} (hst : l.stackTraces = false) (C0 : lw_At p s m meth c b L xs) {ad : Nat → Nat} {cI cU cJ : ClassId} {g : Nat → Option Nat} {tb : Nat × Nat × Nat} (hg9 : ∀ j, j < 4 → g j = some (ad (5 + 3 * j))) (hK : va_K (dC, dI) vwCl [(cI, .int), (cU, .object "TextureUnits$Unit"), (cJ, .long)] s) (hX9 : tb_T tb (fun q : Nat => s.heap.size ≤ q) s s.heap) (hE : ex_E (fun q : Nat => s.heap.size ≤ q) s s.heap) (hL : L ≤ 3584) {i : Nat} (hi : i + 7 ≤ L) {cells slots : Nat} (hc : cells + 1 ≤ room_1.cells) (hs : slots + 6 ≤ room_1.slots)
    (K9 : ∀ (mem un lat nxt : Nat → Int32) (B S : Nat → Nat → Int32) (th : Int32) (bo lt : Nat → Int32) (sc : Nat → Nat → Int32) (of : Nat → Int64), lI un bo lat lt B S → ∀ (H : Heap) (locs : List Loc), va_P (dC, dI) vwCl (lW ad cI cU cJ g mem un lat nxt B S th mem un bo lt sc of) H → va_D (fun q : Nat => s.heap.size ≤ q) (lW ad cI cU cJ g mem un lat nxt B S th mem un bo lt sc of) → va_S (fun q : Nat => s.heap.size ≤ q) s.heap H locs → ∀ (ls : Array Slot), lv_has ls 7 [(0, .ref b), (1, .ref (ad 0)), (2, .ref (ad 17)), (3, .ref (ad 28)), (4, .int (nI i))] → W p l e room_1 s m #[Value.ref b] below meth c H locs (cells + 1) (slots + 6) (lw_Z below #[Value.ref b] s) (F0 m 698 ls []))
    {mem un lat nxt : Nat → Int32} {B S : Nat → Nat → Int32} {th : Int32} {bo lt : Nat → Int32} {sc : Nat → Nat → Int32} {of : Nat → Int64} (hI : lI un bo lat lt B S) {H : Heap} {locs : List Loc} (hP : va_P (dC, dI) vwCl (lW ad cI cU cJ g mem un lat nxt B S th mem un bo lt sc of) H) (hD : va_D (fun q : Nat => s.heap.size ≤ q) (lW ad cI cU cJ g mem un lat nxt B S th mem un bo lt sc of)) (hS : va_S (fun q : Nat => s.heap.size ≤ q) s.heap H locs) {ls : Array Slot} (hl : lv_has ls 7 [(0, .ref b), (1, .ref (ad 0)), (2, .ref (ad 17)), (3, .ref (ad 28)), (4, .int (nI i))]) (ej : xs (i + 1) = nI 3) : W p l e room_1 s m #[Value.ref b] below meth c H locs cells slots (lw_Z below #[Value.ref b] s) (F0 m 550 ls []) := by
  obtain ⟨hx, hb, hr, hml, hown, hts0, hX, hbl, hlocks, hgv⟩ := id C0
  have hts := lw_hts hts0
  have hA : ∀ q : Nat, s.heap.size ≤ q → (fun q : Nat => s.heap.size ≤ q) q := fun _ h => h
  have hbA : ¬ (fun q : Nat => s.heap.size ≤ q) b := Nat.not_le.mpr hbl
  obtain ⟨a, f, ga, gb, lv, ac, dn, fi, hu, hs9⟩ := hI.1 3 (by decide)
  obtain ⟨⟨b1, b2, b3, b4, b5, b6, b7, b8⟩, e0, e1, e2, e3, e4, e5, e6, e7⟩ := id hu
  obtain ⟨n, hn, eN⟩ := eq_lev b5.1 b5.2 (xs (i + 4))
  have hlev : tu_lev (un (8 * 3 + 3)) (xs (i + 4)) = nI n := by rw [e3]; unfold tu_lev; rw [eq_lod b5.1 b5.2, eN]
  have hrd : ∀ c, c < 4 → (tu_rd mem (S 3) (B 3) (un (8 * 3)) (un (8 * 3 + 4)) (un (8 * 3 + 1)) (un (8 * 3 + 2)) (un (8 * 3 + 3)) (un (8 * 3 + 5)) (un (8 * 3 + 6)) (un (8 * 3 + 7)) (xs (i + 2)) (xs (i + 3)) (xs (i + 4)) lat nxt) c = (md_rdv mem un bo 3 a f ga gb fi lv n (xs (i + 2)) (xs (i + 3)) (md_lod (un (8 * 3 + 3)) (xs (i + 4))) c) := fun c hc => by rw [e0, e1, e2, e3, e4, e5, e6, e7]; exact eq_rd hu hc hs9 (hI.2.1 3 (by decide) c hc) _ _ _ lat nxt hn eN
  refine lv_aload_n hx hb dL_law_550 rfl (lv_at hl 1 rfl) ?_
  refine lv_aload_n hx hb dL_law_551 rfl (lv_at hl 0 rfl) ?_
  refine lv_iload hx hb dL_law_552 (lv_at hl 4 rfl) ?_
  refine lv_iconst (v := 1) hx hb dL_law_554 (by decide) ?_
  refine lv_iadd hx hb dL_law_555 ?_
  refine lv_topi (fun x_1 ex_1 => ?_)
  have ex_1 : x_1 = nI (i + 1) := ex_1.trans (nI_add i 1)
  subst ex_1
  refine va_sld hx hb hX hbl hbA hS (vp_in_nI (by omega) (by omega)) dL_law_556 ?_
  refine lv_topi (fun x_2 ex_2 => ?_)
  have ex_2 : (nI 3) = x_2 := ((ex_2.trans (congrArg xs (nI_clamp (by omega)))).trans ej).symm
  subst ex_2
  refine lv_aload_n hx hb dL_law_557 rfl (lv_at hl 0 rfl) ?_
  refine lv_iload hx hb dL_law_558 (lv_at hl 4 rfl) ?_
  refine lv_iconst (v := 2) hx hb dL_law_560 (by decide) ?_
  refine lv_iadd hx hb dL_law_561 ?_
  refine lv_topi (fun x_3 ex_3 => ?_)
  have ex_3 : x_3 = nI (i + 2) := ex_3.trans (nI_add i 2)
  subst ex_3
  refine va_sld hx hb hX hbl hbA hS (vp_in_nI (by omega) (by omega)) dL_law_562 ?_
  refine lv_topi (fun x_4 ex_4 => ?_)
  have ex_4 : xs (i + 2) = x_4 := (ex_4.trans (congrArg xs (nI_clamp (by omega)))).symm
  subst ex_4
  refine lv_aload_n hx hb dL_law_563 rfl (lv_at hl 0 rfl) ?_
  refine lv_iload hx hb dL_law_564 (lv_at hl 4 rfl) ?_
  refine lv_iconst (v := 3) hx hb dL_law_566 (by decide) ?_
  refine lv_iadd hx hb dL_law_567 ?_
  refine lv_topi (fun x_5 ex_5 => ?_)
  have ex_5 : x_5 = nI (i + 3) := ex_5.trans (nI_add i 3)
  subst ex_5
  refine va_sld hx hb hX hbl hbA hS (vp_in_nI (by omega) (by omega)) dL_law_568 ?_
  refine lv_topi (fun x_6 ex_6 => ?_)
  have ex_6 : xs (i + 3) = x_6 := (ex_6.trans (congrArg xs (nI_clamp (by omega)))).symm
  subst ex_6
  refine lv_aload_n hx hb dL_law_569 rfl (lv_at hl 0 rfl) ?_
  refine lv_iload hx hb dL_law_570 (lv_at hl 4 rfl) ?_
  refine lv_iconst (v := 4) hx hb dL_law_572 (by decide) ?_
  refine lv_iadd hx hb dL_law_573 ?_
  refine lv_topi (fun x_7 ex_7 => ?_)
  have ex_7 : x_7 = nI (i + 4) := ex_7.trans (nI_add i 4)
  subst ex_7
  refine va_sld hx hb hX hbl hbA hS (vp_in_nI (by omega) (by omega)) dL_law_574 ?_
  refine lv_topi (fun x_8 ex_8 => ?_)
  have ex_8 : xs (i + 4) = x_8 := (ex_8.trans (congrArg xs (nI_clamp (by omega)))).symm
  subst ex_8
  refine lv_aload_n hx hb dL_law_575 rfl (lv_at hl 3 rfl) ?_
  have hPc := hP.sub (ws' := [((ad 0), .inr (1, [.ref (ad 1), .ref (ad 2), .ref (ad 3), .ref (ad 4)])), ((ad 2), .inl (cU, 4, .inr (.inr (.inr (.inr g))))), ((ad 14), .inr (0, [.int (un (8 * 3)), .int (un (8 * 3 + 4)), .int (un (8 * 3 + 1)), .int (un (8 * 3 + 2)), .int (un (8 * 3 + 3)), .int (un (8 * 3 + 5)), .int (un (8 * 3 + 6)), .int (un (8 * 3 + 7)), .ref (ad 15), .ref (ad 16)])), ((ad 1), .inl (cI, 2048, .inl mem)), ((ad 16), .inl (cI, 12, .inl (S 3))), ((ad 15), .inl (cI, 4, .inl (B 3))), ((ad 3), .inl (cI, 4, .inl lat)), ((ad 4), .inl (cI, 4, .inl nxt)), ((ad 28), .inl (cJ, 1, .inr (.inl of)))]) [0, 2, 14, 1, 16, 15, 3, 4, 28] rfl
  have hDc := hD.sub (ws' := [((ad 0), .inr (1, [.ref (ad 1), .ref (ad 2), .ref (ad 3), .ref (ad 4)])), ((ad 2), .inl (cU, 4, .inr (.inr (.inr (.inr g))))), ((ad 14), .inr (0, [.int (un (8 * 3)), .int (un (8 * 3 + 4)), .int (un (8 * 3 + 1)), .int (un (8 * 3 + 2)), .int (un (8 * 3 + 3)), .int (un (8 * 3 + 5)), .int (un (8 * 3 + 6)), .int (un (8 * 3 + 7)), .ref (ad 15), .ref (ad 16)])), ((ad 1), .inl (cI, 2048, .inl mem)), ((ad 16), .inl (cI, 12, .inl (S 3))), ((ad 15), .inl (cI, 4, .inl (B 3))), ((ad 3), .inl (cI, 4, .inl lat)), ((ad 4), .inl (cI, 4, .inl nxt)), ((ad 28), .inl (cJ, 1, .inr (.inl of)))]) [0, 2, 14, 1, 16, 15, 3, 4, 28] (by decide) rfl
  have hFc := va_free (wc := [((ad 0), .inr (1, [.ref (ad 1), .ref (ad 2), .ref (ad 3), .ref (ad 4)])), ((ad 2), .inl (cU, 4, .inr (.inr (.inr (.inr g))))), ((ad 14), .inr (0, [.int (un (8 * 3)), .int (un (8 * 3 + 4)), .int (un (8 * 3 + 1)), .int (un (8 * 3 + 2)), .int (un (8 * 3 + 3)), .int (un (8 * 3 + 5)), .int (un (8 * 3 + 6)), .int (un (8 * 3 + 7)), .ref (ad 15), .ref (ad 16)])), ((ad 1), .inl (cI, 2048, .inl mem)), ((ad 16), .inl (cI, 12, .inl (S 3))), ((ad 15), .inl (cI, 4, .inl (B 3))), ((ad 3), .inl (cI, 4, .inl lat)), ((ad 4), .inl (cI, 4, .inl nxt)), ((ad 28), .inl (cJ, 1, .inr (.inl of)))]) hD hS hA [0, 2, 14, 1, 16, 15, 3, 4, 28] rfl
  refine va_calli (vx_runSW (As := [.ref (ad 0), .int (nI 3), .int (xs (i + 2)), .int (xs (i + 3)), .int (xs (i + 4)), .ref (ad 28)]) (rest := []) ⟨hx, hb, hml, hown, hts⟩ (k_read0 l dC dI (ad 0) (ad 1) (ad 2) (ad 3) (ad 4) cU g (ad 14) (un (8 * 3)) (un (8 * 3 + 4)) (un (8 * 3 + 1)) (un (8 * 3 + 2)) (un (8 * 3 + 3)) (un (8 * 3 + 5)) (un (8 * 3 + 6)) (un (8 * 3 + 7)) (ad 15) (ad 16) cI mem (S 3) (B 3) lat nxt tb (nI 3) (xs (i + 2)) (xs (i + 3)) (xs (i + 4)) (ad 28) cJ of H.size (md_unit (by decide)) (hg9 3 (by decide)) (by rw [e4]; exact vp_in_nI b2 (by decide)) (by rw [hlev]; exact vp_in_nI (by omega) (by decide)) (fun _ => by rw [hlev, nI_1]; exact vp_in_nI (by omega) (by decide))) (vx_cwSW 6 hts (tg_S tw_270 tw_271 tw_0 tw_272) rfl rfl rfl (by decide +kernel) ⟨Nat.le_of_ble_eq_true rfl, Nat.le_of_ble_eq_true rfl⟩) ⟨wt_blind, fun U hU hW => ⟨rfl, wt_use hPc (hK.sub [1, 0, 2] rfl) hDc hX9 hS hFc U hU hW⟩⟩ rfl rfl hl.1 rfl (lv_room (Nat.le_of_ble_eq_true rfl)) dL_law_576 ⟨by omega, by omega⟩) hS (fun q _ h => hFc q h) hFc (fun r9 u9 t9 H1 locs ht hvm hw hB hz1 hk1 hS => ?_)
  obtain ⟨hP1, hK1, hD1⟩ := hB
  rw [ht] at hP1
  subst hw
  obtain ⟨hP, hD⟩ := tu_frame (w1 := [((ad 0), .inr (1, [.ref (ad 1), .ref (ad 2), .ref (ad 3), .ref (ad 4)])), ((ad 2), .inl (cU, 4, .inr (.inr (.inr (.inr g))))), ((ad 14), .inr (0, [.int (un (8 * 3)), .int (un (8 * 3 + 4)), .int (un (8 * 3 + 1)), .int (un (8 * 3 + 2)), .int (un (8 * 3 + 3)), .int (un (8 * 3 + 5)), .int (un (8 * 3 + 6)), .int (un (8 * 3 + 7)), .ref (ad 15), .ref (ad 16)])), ((ad 1), .inl (cI, 2048, .inl mem)), ((ad 16), .inl (cI, 12, .inl (S 3))), ((ad 15), .inl (cI, 4, .inl (B 3))), ((ad 3), .inl (cI, 4, .inl (tu_rd mem (S 3) (B 3) (un (8 * 3)) (un (8 * 3 + 4)) (un (8 * 3 + 1)) (un (8 * 3 + 2)) (un (8 * 3 + 3)) (un (8 * 3 + 5)) (un (8 * 3 + 6)) (un (8 * 3 + 7)) (xs (i + 2)) (xs (i + 3)) (xs (i + 4)) lat nxt))), ((ad 4), .inl (cI, 4, .inl (tu_rn mem (S 3) (B 3) (un (8 * 3)) (un (8 * 3 + 4)) (un (8 * 3 + 1)) (un (8 * 3 + 2)) (un (8 * 3 + 3)) (un (8 * 3 + 5)) (un (8 * 3 + 6)) (un (8 * 3 + 7)) (xs (i + 2)) (xs (i + 3)) (xs (i + 4)) nxt))), ((ad 28), .inl (cJ, 1, .inr (.inl (vp_updL of 0 ((tu_rd mem (S 3) (B 3) (un (8 * 3)) (un (8 * 3 + 4)) (un (8 * 3 + 1)) (un (8 * 3 + 2)) (un (8 * 3 + 3)) (un (8 * 3 + 5)) (un (8 * 3 + 6)) (un (8 * 3 + 7)) (xs (i + 2)) (xs (i + 3)) (xs (i + 4)) lat nxt) 0 : Int32).toInt64))))]) (W2 := (lW ad cI cU cJ g mem un (tu_rd mem (S 3) (B 3) (un (8 * 3)) (un (8 * 3 + 4)) (un (8 * 3 + 1)) (un (8 * 3 + 2)) (un (8 * 3 + 3)) (un (8 * 3 + 5)) (un (8 * 3 + 6)) (un (8 * 3 + 7)) (xs (i + 2)) (xs (i + 3)) (xs (i + 4)) lat nxt) (tu_rn mem (S 3) (B 3) (un (8 * 3)) (un (8 * 3 + 4)) (un (8 * 3 + 1)) (un (8 * 3 + 2)) (un (8 * 3 + 3)) (un (8 * 3 + 5)) (un (8 * 3 + 6)) (un (8 * 3 + 7)) (xs (i + 2)) (xs (i + 3)) (xs (i + 4)) nxt) B S th mem un bo lt sc (vp_updL of 0 ((tu_rd mem (S 3) (B 3) (un (8 * 3)) (un (8 * 3 + 4)) (un (8 * 3 + 1)) (un (8 * 3 + 2)) (un (8 * 3 + 3)) (un (8 * 3 + 5)) (un (8 * 3 + 6)) (un (8 * 3 + 7)) (xs (i + 2)) (xs (i + 3)) (xs (i + 4)) lat nxt) 0 : Int32).toInt64))) hP hD [0, 2, 14, 1, 16, 15, 3, 4, 28] [5, 6, 7, 8, 9, 10, 11, 12, 13, 17, 18, 19, 20, 21, 22, 23, 24, 25, 26, 27] [20, 23, 21, 26, 27, 0, 1, 2, 3, 4, 5, 6, 7, 8, 22, 25, 24, 9, 10, 11, 12, 13, 14, 15, 16, 17, 18, 19, 28] rfl rfl (by decide) (by decide) hk1 hFc hP1 hD1 rfl (by decide)
  clear hPc hDc hFc hP1 hK1 hD1 hk1 hz1
  generalize H1 = H at hP hS ⊢
  clear ht hvm
  refine lv_istore (lv' := [(5, .int 0), (0, .ref b), (1, .ref (ad 0)), (2, .ref (ad 17)), (3, .ref (ad 28)), (4, .int (nI i))]) hx hb dL_law_579 hl (by decide) rfl (fun ls hl => ?_)
  refine lv_aload_n hx hb dL_law_581 rfl (lv_at hl 3 rfl) ?_
  refine lv_aload_n hx hb dL_law_582 rfl (lv_at hl 1 rfl) ?_
  refine lv_iload hx hb dL_law_583 (lv_at hl 5 rfl) ?_
  refine lv_iconst (v := 1) hx hb dL_law_585 (by decide) ?_
  refine lv_iadd hx hb dL_law_586 ?_
  refine lv_topi (fun x_9 ex_9 => ?_)
  have ex_9 : x_9 = nI (i + 1) := ex_9.trans (nI_add i 1)
  subst ex_9
  refine va_sld hx hb hX hbl hbA hS (vp_in_nI (by omega) (by omega)) dL_law_587 ?_
  refine lv_topi (fun x_10 ex_10 => ?_)
  have ex_10 : (nI 3) = x_10 := ((ex_10.trans (congrArg xs (nI_clamp (by omega)))).trans ej).symm
  subst ex_10
  refine lv_aload_n hx hb dL_law_588 rfl (lv_at hl 1 rfl) ?_
  refine lv_iload hx hb dL_law_589 (lv_at hl 5 rfl) ?_
  refine lv_iconst (v := 2) hx hb dL_law_591 (by decide) ?_
  refine lv_iadd hx hb dL_law_592 ?_
  refine lv_topi (fun x_11 ex_11 => ?_)
  have ex_11 : x_11 = nI (i + 2) := ex_11.trans (nI_add i 2)
  subst ex_11
  refine va_sld hx hb hX hbl hbA hS (vp_in_nI (by omega) (by omega)) dL_law_593 ?_
  refine lv_topi (fun x_12 ex_12 => ?_)
  have ex_12 : xs (i + 2) = x_12 := (ex_12.trans (congrArg xs (nI_clamp (by omega)))).symm
  subst ex_12
  refine lv_aload_n hx hb dL_law_594 rfl (lv_at hl 1 rfl) ?_
  refine lv_iload hx hb dL_law_595 (lv_at hl 5 rfl) ?_
  refine lv_iconst (v := 3) hx hb dL_law_597 (by decide) ?_
  refine lv_iadd hx hb dL_law_598 ?_
  refine lv_topi (fun x_13 ex_13 => ?_)
  have ex_13 : x_13 = nI (i + 3) := ex_13.trans (nI_add i 3)
  subst ex_13
  refine va_sld hx hb hX hbl hbA hS (vp_in_nI (by omega) (by omega)) dL_law_599 ?_
  refine lv_topi (fun x_14 ex_14 => ?_)
  have ex_14 : xs (i + 3) = x_14 := (ex_14.trans (congrArg xs (nI_clamp (by omega)))).symm
  subst ex_14
  refine lv_aload_n hx hb dL_law_600 rfl (lv_at hl 1 rfl) ?_
  refine lv_iload hx hb dL_law_601 (lv_at hl 5 rfl) ?_
  refine lv_iconst (v := 4) hx hb dL_law_603 (by decide) ?_
  refine lv_iadd hx hb dL_law_604 ?_
  refine lv_topi (fun x_15 ex_15 => ?_)
  have ex_15 : x_15 = nI (i + 4) := ex_15.trans (nI_add i 4)
  subst ex_15
  refine va_sld hx hb hX hbl hbA hS (vp_in_nI (by omega) (by omega)) dL_law_605 ?_
  refine lv_topi (fun x_16 ex_16 => ?_)
  have ex_16 : xs (i + 4) = x_16 := (ex_16.trans (congrArg xs (nI_clamp (by omega)))).symm
  subst ex_16
  have hPc := hP.sub (ws' := [((ad 17), .inr (2, [.int th, .ref (ad 18), .ref (ad 19), .ref (ad 20), .ref (ad 21), .ref (ad 22), .ref (ad 23), .ref (ad 24), .ref (ad 25), .ref (ad 26), .ref (ad 27)])), ((ad 18), .inl (cI, 2048, .inl mem)), ((ad 19), .inl (cI, 32, .inl un)), ((ad 20), .inl (cI, 16, .inl bo)), ((ad 21), .inl (cI, 4, .inl lt)), ((ad 22), .inl (cI, 4, .inl (sc 0))), ((ad 23), .inl (cI, 4, .inl (sc 1))), ((ad 24), .inl (cI, 4, .inl (sc 2))), ((ad 25), .inl (cI, 4, .inl (sc 3))), ((ad 26), .inl (cI, 4, .inl (sc 4))), ((ad 27), .inl (cI, 4, .inl (sc 5)))]) [17, 18, 19, 20, 21, 22, 23, 24, 25, 26, 27] rfl
  have hDc := hD.sub (ws' := [((ad 17), .inr (2, [.int th, .ref (ad 18), .ref (ad 19), .ref (ad 20), .ref (ad 21), .ref (ad 22), .ref (ad 23), .ref (ad 24), .ref (ad 25), .ref (ad 26), .ref (ad 27)])), ((ad 18), .inl (cI, 2048, .inl mem)), ((ad 19), .inl (cI, 32, .inl un)), ((ad 20), .inl (cI, 16, .inl bo)), ((ad 21), .inl (cI, 4, .inl lt)), ((ad 22), .inl (cI, 4, .inl (sc 0))), ((ad 23), .inl (cI, 4, .inl (sc 1))), ((ad 24), .inl (cI, 4, .inl (sc 2))), ((ad 25), .inl (cI, 4, .inl (sc 3))), ((ad 26), .inl (cI, 4, .inl (sc 4))), ((ad 27), .inl (cI, 4, .inl (sc 5)))]) [17, 18, 19, 20, 21, 22, 23, 24, 25, 26, 27] (by decide) rfl
  have hFc := va_free (wc := [((ad 17), .inr (2, [.int th, .ref (ad 18), .ref (ad 19), .ref (ad 20), .ref (ad 21), .ref (ad 22), .ref (ad 23), .ref (ad 24), .ref (ad 25), .ref (ad 26), .ref (ad 27)])), ((ad 18), .inl (cI, 2048, .inl mem)), ((ad 19), .inl (cI, 32, .inl un)), ((ad 20), .inl (cI, 16, .inl bo)), ((ad 21), .inl (cI, 4, .inl lt)), ((ad 22), .inl (cI, 4, .inl (sc 0))), ((ad 23), .inl (cI, 4, .inl (sc 1))), ((ad 24), .inl (cI, 4, .inl (sc 2))), ((ad 25), .inl (cI, 4, .inl (sc 3))), ((ad 26), .inl (cI, 4, .inl (sc 4))), ((ad 27), .inl (cI, 4, .inl (sc 5)))]) hD hS hA [17, 18, 19, 20, 21, 22, 23, 24, 25, 26, 27] rfl
  refine va_calli (va_runV (As := [.int (nI 3), .int (xs (i + 2)), .int (xs (i + 3)), .int (xs (i + 4))]) (rest := []) ⟨hx, hb, hml, hown, hts⟩ (m_read0 l dC dI (ad 17) th (ad 18) (ad 19) (ad 20) (ad 21) (ad 22) (ad 23) (ad 24) (ad 25) (ad 26) (ad 27) cI mem un bo lt (sc 0) (sc 1) (sc 2) (sc 3) (sc 4) (sc 5) 3 n a f ga gb fi lv (xs (i + 2)) (xs (i + 3)) (xs (i + 4)) (md_lod (un (8 * 3 + 3)) (xs (i + 4))) H.size (by decide) (by omega) b2 b1 b3 b4 e0 e1 e2 e4 b8 b5.2 e3 e7 rfl (by rw [e3]; exact eN)) (cwV 4 hts (tg_V tw_438 tw_439 tw_440 tw_3 tw_441) rfl rfl rfl (by decide +kernel) ⟨Nat.le_of_ble_eq_true rfl, Nat.le_of_ble_eq_true rfl⟩) ⟨wr_blind, va_recv hK hP (ci := 2) (q0 := 17) rfl rfl, fun U hU hW => ⟨rfl, wr_use hPc (hK.sub [0] rfl) hDc U hU hW⟩⟩ rfl rfl hl.1 rfl (lv_room (Nat.le_of_ble_eq_true rfl)) dL_law_606 ⟨by omega, by omega⟩) hS (fun q _ h => hFc q h) hFc (fun r9 u9 t9 H1 locs ht hvm hw hB hz1 hk1 hS => ?_)
  obtain ⟨d2, r2, u2, n2, f2, s2, hP1, hK1, hD1⟩ := hB
  rw [ht] at hP1
  subst hw
  obtain ⟨hP, hD⟩ := tu_frame (w1 := [((ad 17), .inr (2, [.int 0, .ref (ad 18), .ref (ad 19), .ref (ad 20), .ref (ad 21), .ref (ad 22), .ref (ad 23), .ref (ad 24), .ref (ad 25), .ref (ad 26), .ref (ad 27)])), ((ad 18), .inl (cI, 2048, .inl mem)), ((ad 19), .inl (cI, 32, .inl un)), ((ad 20), .inl (cI, 16, .inl bo)), ((ad 21), .inl (cI, 4, .inl (tu_put4 lt (md_rdv mem un bo 3 a f ga gb fi lv n (xs (i + 2)) (xs (i + 3)) (md_lod (un (8 * 3 + 3)) (xs (i + 4))) 0) (md_rdv mem un bo 3 a f ga gb fi lv n (xs (i + 2)) (xs (i + 3)) (md_lod (un (8 * 3 + 3)) (xs (i + 4))) 1) (md_rdv mem un bo 3 a f ga gb fi lv n (xs (i + 2)) (xs (i + 3)) (md_lod (un (8 * 3 + 3)) (xs (i + 4))) 2) (md_rdv mem un bo 3 a f ga gb fi lv n (xs (i + 2)) (xs (i + 3)) (md_lod (un (8 * 3 + 3)) (xs (i + 4))) 3)))), ((ad 22), .inl (cI, 4, .inl d2)), ((ad 23), .inl (cI, 4, .inl r2)), ((ad 24), .inl (cI, 4, .inl u2)), ((ad 25), .inl (cI, 4, .inl n2)), ((ad 26), .inl (cI, 4, .inl f2)), ((ad 27), .inl (cI, 4, .inl s2))]) (W2 := (lW ad cI cU cJ g mem un (tu_rd mem (S 3) (B 3) (un (8 * 3)) (un (8 * 3 + 4)) (un (8 * 3 + 1)) (un (8 * 3 + 2)) (un (8 * 3 + 3)) (un (8 * 3 + 5)) (un (8 * 3 + 6)) (un (8 * 3 + 7)) (xs (i + 2)) (xs (i + 3)) (xs (i + 4)) lat nxt) (tu_rn mem (S 3) (B 3) (un (8 * 3)) (un (8 * 3 + 4)) (un (8 * 3 + 1)) (un (8 * 3 + 2)) (un (8 * 3 + 3)) (un (8 * 3 + 5)) (un (8 * 3 + 6)) (un (8 * 3 + 7)) (xs (i + 2)) (xs (i + 3)) (xs (i + 4)) nxt) B S 0 mem un bo (tu_put4 lt (md_rdv mem un bo 3 a f ga gb fi lv n (xs (i + 2)) (xs (i + 3)) (md_lod (un (8 * 3 + 3)) (xs (i + 4))) 0) (md_rdv mem un bo 3 a f ga gb fi lv n (xs (i + 2)) (xs (i + 3)) (md_lod (un (8 * 3 + 3)) (xs (i + 4))) 1) (md_rdv mem un bo 3 a f ga gb fi lv n (xs (i + 2)) (xs (i + 3)) (md_lod (un (8 * 3 + 3)) (xs (i + 4))) 2) (md_rdv mem un bo 3 a f ga gb fi lv n (xs (i + 2)) (xs (i + 3)) (md_lod (un (8 * 3 + 3)) (xs (i + 4))) 3)) (va_up (va_up (va_up (va_up (va_up (va_up sc 0 d2) 1 r2) 2 u2) 3 n2) 4 f2) 5 s2) (vp_updL of 0 ((tu_rd mem (S 3) (B 3) (un (8 * 3)) (un (8 * 3 + 4)) (un (8 * 3 + 1)) (un (8 * 3 + 2)) (un (8 * 3 + 3)) (un (8 * 3 + 5)) (un (8 * 3 + 6)) (un (8 * 3 + 7)) (xs (i + 2)) (xs (i + 3)) (xs (i + 4)) lat nxt) 0 : Int32).toInt64))) hP hD [17, 18, 19, 20, 21, 22, 23, 24, 25, 26, 27] [0, 1, 2, 3, 4, 5, 6, 7, 8, 9, 10, 11, 12, 13, 14, 15, 16, 28] [0, 1, 2, 3, 4, 5, 6, 7, 8, 9, 10, 11, 12, 13, 14, 15, 16, 18, 19, 20, 21, 22, 23, 24, 25, 26, 27, 28, 17] rfl rfl (by decide) (by decide) hk1 hFc hP1 hD1 rfl (by decide)
  clear hPc hDc hFc hP1 hK1 hD1 hk1 hz1
  generalize H1 = H at hP hS ⊢
  clear ht hvm
  have heq : (tu_rd mem (S 3) (B 3) (un (8 * 3)) (un (8 * 3 + 4)) (un (8 * 3 + 1)) (un (8 * 3 + 2)) (un (8 * 3 + 3)) (un (8 * 3 + 5)) (un (8 * 3 + 6)) (un (8 * 3 + 7)) (xs (i + 2)) (xs (i + 3)) (xs (i + 4)) lat nxt) 0 = (md_rdv mem un bo 3 a f ga gb fi lv n (xs (i + 2)) (xs (i + 3)) (md_lod (un (8 * 3 + 3)) (xs (i + 4))) 0) := hrd 0 (by decide)
  refine lv_istore (lv' := [(6, .int (md_rdv mem un bo 3 a f ga gb fi lv n (xs (i + 2)) (xs (i + 3)) (md_lod (un (8 * 3 + 3)) (xs (i + 4))) 0)), (5, .int 0), (0, .ref b), (1, .ref (ad 0)), (2, .ref (ad 17)), (3, .ref (ad 28)), (4, .int (nI i))]) hx hb dL_law_609 hl (by decide) rfl (fun ls hl => ?_)
  refine lv_aload_n hx hb dL_law_611 rfl (lv_at hl 4 rfl) ?_
  refine rd_call (W.runV (As := []) (rest := []) ⟨hx, hb, hml, hown, hts⟩ (m_thrown l dC dI (ad 17) 0 (ad 18) (ad 19) (ad 20) (ad 21) (ad 22) (ad 23) (ad 24) (ad 25) (ad 26) (ad 27)) (cwV 0 hts (tg_V tw_367 tw_368 tw_369 tw_3 tw_370) rfl rfl rfl (by decide +kernel) ⟨Nat.le_of_ble_eq_true rfl, Nat.le_of_ble_eq_true rfl⟩) ⟨rd_blind, va_recv hK hP (ci := 2) (q0 := 17) rfl rfl, fun U hU hW => ⟨rfl, rd_use (hP.sub [17] rfl) (hK.sub [] rfl) U hU hW⟩⟩ rfl rfl hl.1 rfl (lv_room (Nat.le_of_ble_eq_true rfl)) dL_law_612 ⟨by omega, by omega⟩) ?_
  refine lv_iload hx hb dL_law_615 (lv_at hl 1 rfl) ?_
  refine lv_icmp_eq (tgt := 622) hx hb dL_law_617 (by decide) (fun c_17 => ?_) (fun c_17 => absurd (by decide) c_17)
  refine lv_iload hx hb dL_law_622 (lv_at hl 1 rfl) ?_
  refine lv_if_ne (tgt := 639) hx hb dL_law_624 (by decide) (fun c_18 => absurd (by decide) c_18) (fun c_18 => ?_)
  refine lv_aload_n hx hb dL_law_627 rfl (lv_at hl 5 rfl) ?_
  refine lv_iconst (v := 0) hx hb dL_law_628 (by decide) ?_
  refine va_lald hx hb hK hP 28 2 rfl rfl (tu_in (by decide)) dL_law_629 ?_
  refine lv_topl (fun x_19 ex_19 => ?_)
  have ex_19 : x_19 = (((tu_rd mem (S 3) (B 3) (un (8 * 3)) (un (8 * 3 + 4)) (un (8 * 3 + 1)) (un (8 * 3 + 2)) (un (8 * 3 + 3)) (un (8 * 3 + 5)) (un (8 * 3 + 6)) (un (8 * 3 + 7)) (xs (i + 2)) (xs (i + 3)) (xs (i + 4)) lat nxt) 0 : Int32).toInt64) := (ex_19).trans pk_uLs
  subst ex_19
  refine lv_iload hx hb dL_law_630 (lv_at hl 0 rfl) ?_
  refine lv_i2l hx hb dL_law_632 rfl ?_
  refine W.lcmp hx hb dL_law_633 ?_
  refine lv_if_eq (tgt := 639) hx hb dL_law_634 (by decide) (fun c_20 => ?_) (fun c_20 => absurd ((lg_cmp_eq _ _).mpr (congrArg Int32.toInt64 heq)) c_20)
  refine lv_goto (tgt := 698) hx hb dL_law_639 (by decide) ?_
  refine W.widen (k := cells + 1) (n := slots + 6) (by omega) (by omega) ?_
  exact K9 mem un (tu_rd mem (S 3) (B 3) (un (8 * 3)) (un (8 * 3 + 4)) (un (8 * 3 + 1)) (un (8 * 3 + 2)) (un (8 * 3 + 3)) (un (8 * 3 + 5)) (un (8 * 3 + 6)) (un (8 * 3 + 7)) (xs (i + 2)) (xs (i + 3)) (xs (i + 4)) lat nxt) (tu_rn mem (S 3) (B 3) (un (8 * 3)) (un (8 * 3 + 4)) (un (8 * 3 + 1)) (un (8 * 3 + 2)) (un (8 * 3 + 3)) (un (8 * 3 + 5)) (un (8 * 3 + 6)) (un (8 * 3 + 7)) (xs (i + 2)) (xs (i + 3)) (xs (i + 4)) nxt) B S 0 bo (tu_put4 lt (md_rdv mem un bo 3 a f ga gb fi lv n (xs (i + 2)) (xs (i + 3)) (md_lod (un (8 * 3 + 3)) (xs (i + 4))) 0) (md_rdv mem un bo 3 a f ga gb fi lv n (xs (i + 2)) (xs (i + 3)) (md_lod (un (8 * 3 + 3)) (xs (i + 4))) 1) (md_rdv mem un bo 3 a f ga gb fi lv n (xs (i + 2)) (xs (i + 3)) (md_lod (un (8 * 3 + 3)) (xs (i + 4))) 2) (md_rdv mem un bo 3 a f ga gb fi lv n (xs (i + 2)) (xs (i + 3)) (md_lod (un (8 * 3 + 3)) (xs (i + 4))) 3)) (va_up (va_up (va_up (va_up (va_up (va_up sc 0 d2) 1 r2) 2 u2) 3 n2) 4 f2) 5 s2) (vp_updL of 0 ((tu_rd mem (S 3) (B 3) (un (8 * 3)) (un (8 * 3 + 4)) (un (8 * 3 + 1)) (un (8 * 3 + 2)) (un (8 * 3 + 3)) (un (8 * 3 + 5)) (un (8 * 3 + 6)) (un (8 * 3 + 7)) (xs (i + 2)) (xs (i + 3)) (xs (i + 4)) lat nxt) 0 : Int32).toInt64) ⟨hI.1, hI.2.1, fun c hc => (hrd c hc).trans (tu_put4_at lt (fun c => (md_rdv mem un bo 3 a f ga gb fi lv n (xs (i + 2)) (xs (i + 3)) (md_lod (un (8 * 3 + 3)) (xs (i + 4))) c)) hc).symm⟩ H locs hP hD hS ls (lv_sub hl [2, 3, 4, 5, 6] rfl)
