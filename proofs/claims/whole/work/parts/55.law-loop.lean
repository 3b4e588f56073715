set_option maxHeartbeats 4000000 in
set_option maxRecDepth 100000 in
theorem law_loop {p : Program} {l : Launch} {e : Env} {s : State} {m : MethodId} {below : List Frame} {meth : Method} {c : Code} {dC : Nat → ClassId} {dI : Nat → Nat → Nat} {b L : Nat} {xs : Nat → Int32} (hst : l.stackTraces = false) (C0 : lw_At p s m meth c b L xs) {ad : Nat → Nat} {cI cU cJ : ClassId} {g : Nat → Option Nat} {tb : Nat × Nat × Nat} (hg9 : ∀ j, j < 4 → g j = some (ad (5 + 3 * j))) (hK : va_K (dC, dI) vwCl [(cI, .int), (cU, .object "TextureUnits$Unit"), (cJ, .long)] s) (hX9 : tb_T tb (fun q : Nat => s.heap.size ≤ q) s s.heap) (hE : ex_E (fun q : Nat => s.heap.size ≤ q) s s.heap) (hL : L ≤ 3584) :
    ∀ n it : Nat, it + n = 512 → ∀ (mem un lat nxt : Nat → Int32) (B S : Nat → Nat → Int32) (th : Int32) (bo lt : Nat → Int32) (sc : Nat → Nat → Int32) (of : Nat → Int64), lI un bo lat lt B S → ∀ (H : Heap) (locs : List Loc), va_P (dC, dI) vwCl (lW ad cI cU cJ g mem un lat nxt B S th mem un bo lt sc of) H → va_D (fun q : Nat => s.heap.size ≤ q) (lW ad cI cU cJ g mem un lat nxt B S th mem un bo lt sc of) → va_S (fun q : Nat => s.heap.size ≤ q) s.heap H locs → ∀ (ls : Array Slot), lv_has ls 7 [(0, .ref b), (1, .ref (ad 0)), (2, .ref (ad 17)), (3, .ref (ad 28)), (4, .int (nI (7 * it)))] → W p l e room_1 s m #[Value.ref b] below meth c H locs (29 + it) (4304 + 6 * it) (lw_Z below #[Value.ref b] s) (F0 m 23 ls []) := by
  obtain ⟨hx, hb, hr, hml, hown, hts0, hX, hbl, hlocks, hgv⟩ := id C0
  have hbA : ¬ (fun q : Nat => s.heap.size ≤ q) b := Nat.not_le.mpr hbl
  intro n
  induction n using Nat.strongRecOn with
  | _ n ih =>
  intro it hit mem un lat nxt B S th bo lt sc of hI H locs hP hD hS ls hl
  refine lv_iload hx hb dL_law_23 (lv_at hl 4 rfl) ?_
  refine lv_aload_n hx hb dL_law_25 rfl (lv_at hl 0 rfl) ?_
  refine va_slen hx hb hX hbl hbA hS dL_law_26 ?_
  refine lv_bipush (v := 7) hx hb dL_law_27 (by decide) ?_
  refine lv_isub hx hb dL_law_29 ?_
  refine lv_icmp_gt (tgt := 704) hx hb dL_law_30 (by decide) (fun c1 => ?_) (fun c1 => ?_)
  · refine lv_iconst (v := 1) hx hb dL_law_704 (by decide) ?_
    refine va_forget (fun q hq => hS.2.2 q hq) ?_
    refine W.widen (k := 601024) (n := 7293034) (by omega) (by omega) ?_
    exact lw_ret hx hb hr hlocks dL_law_705
  · rw [lp_gt hL (by omega)] at c1
    refine lv_aload_n hx hb dL_law_33 rfl (lv_at hl 0 rfl) ?_
    refine lv_iload hx hb dL_law_34 (lv_at hl 4 rfl) ?_
    refine va_sld hx hb hX hbl hbA hS (vp_in_nI (by omega) (by omega)) dL_law_36 ?_
    refine lv_bipush (v := 7) hx hb dL_law_37 (by decide) ?_
    refine lv_iand hx hb dL_law_39 ?_
    refine lv_topi (fun x ex => ?_)
    obtain ⟨k, hk, ek⟩ := pk_andE (xs (nI (7 * it)).toNatClampNeg) (m := 7) 3 (by decide)
    have ex : nI k = x := (ex.trans ek).symm
    subst ex
    have hc : 29 + it + 1 ≤ room_1.cells := Nat.le_trans (show 29 + it + 1 ≤ 1000 by omega) (Nat.le_of_ble_eq_true rfl)
    have hs : 4304 + 6 * it + 6 ≤ room_1.slots := Nat.le_trans (show 4304 + 6 * it + 6 ≤ 8000 by omega) (Nat.le_of_ble_eq_true rfl)
    have KK : ∀ (mem un lat nxt : Nat → Int32) (B S : Nat → Nat → Int32) (th : Int32) (bo lt : Nat → Int32) (sc : Nat → Nat → Int32) (of : Nat → Int64), lI un bo lat lt B S → ∀ (H : Heap) (locs : List Loc), va_P (dC, dI) vwCl (lW ad cI cU cJ g mem un lat nxt B S th mem un bo lt sc of) H → va_D (fun q : Nat => s.heap.size ≤ q) (lW ad cI cU cJ g mem un lat nxt B S th mem un bo lt sc of) → va_S (fun q : Nat => s.heap.size ≤ q) s.heap H locs → ∀ (ls : Array Slot), lv_has ls 7 [(0, .ref b), (1, .ref (ad 0)), (2, .ref (ad 17)), (3, .ref (ad 28)), (4, .int (nI (7 * it)))] → W p l e room_1 s m #[Value.ref b] below meth c H locs (29 + it + 1) (4304 + 6 * it + 6) (lw_Z below #[Value.ref b] s) (F0 m 698 ls []) := by
      intro mem un lat nxt B S th bo lt sc of hI H locs hP hD hS ls hl
      refine lv_iinc (v := nI (7 * it + 7)) (lv' := [(4, .int (nI (7 * it + 7))), (0, .ref b), (1, .ref (ad 0)), (2, .ref (ad 17)), (3, .ref (ad 28))]) hx hb dL_law_698 hl (k := 4) rfl (nI_add (7 * it) 7) (by decide) rfl (fun ls hl => ?_)
      refine lv_goto (tgt := 23) hx hb dL_law_701 (by decide) ?_
      refine W.widen (k := 29 + (it + 1)) (n := 4304 + 6 * (it + 1)) (by omega) (by omega) ?_
      exact ih (n - 1) (by omega) (it + 1) (by omega) mem un lat nxt B S th bo lt sc of hI H locs hP hD hS ls (lv_sub hl [1, 2, 3, 4, 0] rfl)
    rcases (show k = 0 ∨ k = 1 ∨ k = 2 ∨ k = 3 ∨ k = 4 ∨ k = 5 ∨ k = 6 ∨ k = 7 by omega) with rfl | rfl | rfl | rfl | rfl | rfl | rfl | rfl
    · refine lv_tableIn (tgt := 88) hx hb dL_law_40 (by decide) (by decide) rfl (by decide) ?_
      exact st_poke hst C0 hg9 hK hX9 hE hL (by omega) hc hs KK hI hP hD hS hl
    · refine lv_tableIn (tgt := 136) hx hb dL_law_40 (by decide) (by decide) rfl (by decide) ?_
      exact st_picture hst C0 hg9 hK hX9 hE hL (by omega) hc hs KK hI hP hD hS hl
    · refine lv_tableIn (tgt := 234) hx hb dL_law_40 (by decide) (by decide) rfl (by decide) ?_
      exact st_manner hst C0 hg9 hK hX9 hE hL (by omega) hc hs KK hI hP hD hS hl
    · refine lv_tableIn (tgt := 306) hx hb dL_law_40 (by decide) (by decide) rfl (by decide) ?_
      exact st_border hst C0 hg9 hK hX9 hE hL (by omega) hc hs KK hI hP hD hS hl
    · refine lv_tableIn (tgt := 390) hx hb dL_law_40 (by decide) (by decide) rfl (by decide) ?_
      exact st_texel hst C0 hg9 hK hX9 hE hL (by omega) hc hs KK hI hP hD hS hl
    · refine lv_tableIn (tgt := 494) hx hb dL_law_40 (by decide) (by decide) rfl (by decide) ?_
      exact st_texels hst C0 hg9 hK hX9 hE hL (by omega) hc hs KK hI hP hD hS hl
    · refine lv_tableIn (tgt := 550) hx hb dL_law_40 (by decide) (by decide) rfl (by decide) ?_
      exact st_read hst C0 hg9 hK hX9 hE hL (by omega) hc hs KK hI hP hD hS hl
    · refine lv_tableIn (tgt := 642) hx hb dL_law_40 (by decide) (by decide) rfl (by decide) ?_
      exact st_also hst C0 hg9 hK hX9 hE hL (by omega) hc hs KK hI hP hD hS hl
