theorem tw_286 : (Cond.methodLink "TextureUnits" 106 ⟨"TextureUnits", "sample", "(LTextureUnits$Unit;III[I)V"⟩) ∈ TW := tw_t2 46 (by decide +kernel) (by decide +kernel)
theorem tw_288 : (Cond.instanceMethod ⟨"TextureUnits", "sample", "(LTextureUnits$Unit;III[I)V"⟩) ∈ TW := tw_t2 48 (by decide +kernel) (by decide +kernel)
theorem tw_289 : (Cond.code ⟨"TextureUnits", "sample", "(LTextureUnits$Unit;III[I)V"⟩ prog_1_method_11_code 6 .none) ∈ TW := tw_t2 49 (by decide +kernel) (by decide +kernel)
theorem tw_319 : (Cond.constant "TextureUnits" 110 (65535 : Int32)) ∈ TW := tw_t2 79 (by decide +kernel) (by decide +kernel)
theorem tw_p4 : (Cond.selects "TextureUnits" ⟨"TextureUnits", "sample", "(LTextureUnits$Unit;III[I)V"⟩ ⟨"TextureUnits", "sample", "(LTextureUnits$Unit;III[I)V"⟩) ∈ TW := tw_t0 4 (by decide +kernel) (by decide +kernel)
set_option maxHeartbeats 4000000 in
set_option maxRecDepth 100000 in
theorem w_read (l : Launch) (dC : Nat → ClassId) (dI : Nat → Nat → Nat) (q wd us la nx : Nat) (cU : ClassId) (g : Nat → Option Nat) (u : Nat) (fr fo lw lh lv ac dn fi : Int32) (bc st : Nat) (cI : ClassId) (mem sf bd lat nxt : Nat → Int32) (tb : Nat × Nat × Nat) (p0 p1 p2 p3 : Int32) (sz : Nat) (h0 : ¬ tu_win p0 0 3 = 0) (hg : g p0.toNatClampNeg = some u) (h1 : vp_in fo 8) (h2 : vp_in (tu_lev lv p3) 12) (h3 : ¬ lv ≤ tu_lev lv p3 + 1 → vp_in (tu_lev lv p3 + 1) 12) : Met l yX1_read wsX1_read ({ frames := 6, cells := 0, slots := 0, locals := 165 }) (va_Pc [.ref q, .int p0, .int p1, .int p2, .int p3] (wt_P (dC, dI) vwCl [(q, .inr (1, [.ref wd, .ref us, .ref la, .ref nx])), (us, .inl (cU, 4, .inr (.inr (.inr (.inr g))))), (u, .inr (0, [.int fr, .int fo, .int lw, .int lh, .int lv, .int ac, .int dn, .int fi, .ref bc, .ref st])), (wd, .inl (cI, 2048, .inl mem)), (st, .inl (cI, 12, .inl sf)), (bc, .inl (cI, 4, .inl bd)), (la, .inl (cI, 4, .inl lat)), (nx, .inl (cI, 4, .inl nxt))] [(cU, .object "TextureUnits$Unit"), (cI, .int)] sz tb)) (va_Qi (fun (r9 : Int32) (_ : Unit) => r9 = (tu_rd mem sf bd fr fo lw lh lv ac dn fi p1 p2 p3 lat nxt) 0) (wr_B (dC, dI) vwCl [(q, .inr (1, [.ref wd, .ref us, .ref la, .ref nx])), (us, .inl (cU, 4, .inr (.inr (.inr (.inr g))))), (u, .inr (0, [.int fr, .int fo, .int lw, .int lh, .int lv, .int ac, .int dn, .int fi, .ref bc, .ref st])), (wd, .inl (cI, 2048, .inl mem)), (st, .inl (cI, 12, .inl sf)), (bc, .inl (cI, 4, .inl bd)), (la, .inl (cI, 4, .inl (tu_rd mem sf bd fr fo lw lh lv ac dn fi p1 p2 p3 lat nxt))), (nx, .inl (cI, 4, .inl (tu_rn mem sf bd fr fo lw lh lv ac dn fi p1 p2 p3 nxt)))] [(cU, .object "TextureUnits$Unit"), (cI, .int)] (va_A [(q, .inr (1, [.ref wd, .ref us, .ref la, .ref nx])), (us, .inl (cU, 4, .inr (.inr (.inr (.inr g))))), (u, .inr (0, [.int fr, .int fo, .int lw, .int lh, .int lv, .int ac, .int dn, .int fi, .ref bc, .ref st])), (wd, .inl (cI, 2048, .inl mem)), (st, .inl (cI, 12, .inl sf)), (bc, .inl (cI, 4, .inl bd)), (la, .inl (cI, 4, .inl lat)), (nx, .inl (cI, 4, .inl nxt))] sz)) (va_A [(q, .inr (1, [.ref wd, .ref us, .ref la, .ref nx])), (us, .inl (cU, 4, .inr (.inr (.inr (.inr g))))), (u, .inr (0, [.int fr, .int fo, .int lw, .int lh, .int lv, .int ac, .int dn, .int fi, .ref bc, .ref st])), (wd, .inl (cI, 2048, .inl mem)), (st, .inl (cI, 12, .inl sf)), (bc, .inl (cI, 4, .inl bd)), (la, .inl (cI, 4, .inl lat)), (nx, .inl (cI, 4, .inl nxt))] sz)) 0 0 (va_A [(q, .inr (1, [.ref wd, .ref us, .ref la, .ref nx])), (us, .inl (cU, 4, .inr (.inr (.inr (.inr g))))), (u, .inr (0, [.int fr, .int fo, .int lw, .int lh, .int lv, .int ac, .int dn, .int fi, .ref bc, .ref st])), (wd, .inl (cI, 2048, .inl mem)), (st, .inl (cI, 12, .inl sf)), (bc, .inl (cI, 4, .inl bd)), (la, .inl (cI, 4, .inl lat)), (nx, .inl (cI, 4, .inl nxt))] sz) := by
  refine Met.ofW (cc := cX1_read) (maxL := 10) (ret := some .int) (by decide) rfl ?_
  intro p e s m args below meth c s₁ B hml hv
  obtain ⟨rfl, hsz, hP, hK, hD0, hX⟩ := hv
  have hx := B.exec
  have hb := B.bytes
  have hr := B.returns
  have hts := atoms_spec (ws := wsX1_read) B.pre
  have hown : s.vm.findClass "TextureUnits" = some m.cls := findClass_of_methodNamed B.named
  have hlocks := B.notSynchronized
  subst hsz
  have hD := hD0.self (sz := s.heap.size)
  generalize hAe : va_A [(q, .inr (1, [.ref wd, .ref us, .ref la, .ref nx])), (us, .inl (cU, 4, .inr (.inr (.inr (.inr g))))), (u, .inr (0, [.int fr, .int fo, .int lw, .int lh, .int lv, .int ac, .int dn, .int fi, .ref bc, .ref st])), (wd, .inl (cI, 2048, .inl mem)), (st, .inl (cI, 12, .inl sf)), (bc, .inl (cI, 4, .inl bd)), (la, .inl (cI, 4, .inl lat)), (nx, .inl (cI, 4, .inl nxt))] s.heap.size = A at hD hX ⊢
  have hA : ∀ q : Nat, s.heap.size ≤ q → A q := fun q h => by rw [← hAe]; exact Or.inr h
  have hS : va_S A s.heap s.heap [] := va_S.rf
  have hP : va_P (dC, dI) vwCl [(q, .inr (1, [.ref wd, .ref us, .ref la, .ref nx])), (us, .inl (cU, 4, .inr (.inr (.inr (.inr g))))), (u, .inr (0, [.int fr, .int fo, .int lw, .int lh, .int lv, .int ac, .int dn, .int fi, .ref bc, .ref st])), (wd, .inl (cI, 2048, .inl mem)), (st, .inl (cI, 12, .inl sf)), (bc, .inl (cI, 4, .inl bd)), (la, .inl (cI, 4, .inl lat)), (nx, .inl (cI, 4, .inl nxt))] s.heap := hP
  have hl := lv_entry ([.ref q, .int p0, .int p1, .int p2, .int p3]) (n := 10) (Nat.le_of_ble_eq_true rfl)
  rw [lg_entry_eq]
  generalize (lg_sl ([.ref q, .int p0, .int p1, .int p2, .int p3]) ++ List.replicate (10 - (lg_sl ([.ref q, .int p0, .int p1, .int p2, .int p3])).length) Slot.unset).toArray = ls at hl ⊢
  have hl : lv_has ls 10 [(0, .ref q), (1, .int p0), (2, .int p1), (3, .int p2), (4, .int p3)] := hl
  refine lv_aload_n hx hb dX1_read_0 rfl (lv_at hl 0 rfl) ?_
  refine lv_iload_n hx hb dX1_read_1 rfl (lv_at hl 1 rfl) ?_
  refine rf_call (W.runV (As := [.int p0]) (rest := []) ⟨hx, hb, hml, hown, hts⟩ (r_unitAt l dC dI q wd us la nx cU g u p0 h0 hg) (cwV 1 hts (tg_V tw_174 tw_176 tw_p1 tw_1 tw_177) rfl rfl rfl (by decide +kernel) ⟨Nat.le_of_ble_eq_true rfl, Nat.le_of_ble_eq_true rfl⟩) ⟨rd_blind, va_recv hK hP (ci := 1) (q0 := 0) rfl rfl, fun U hU hW => ⟨rfl, rd_use (hP.sub [0, 1] rfl) (hK.sub [0] rfl) U hU hW⟩⟩ rfl rfl hl.1 rfl (lv_room (Nat.le_of_ble_eq_true rfl)) dX1_read_2 ⟨Nat.le_of_ble_eq_true rfl, Nat.le_of_ble_eq_true rfl⟩) ?_
  refine lv_astore (lv' := [(5, .ref u), (0, .ref q), (1, .int p0), (2, .int p1), (3, .int p2), (4, .int p3)]) hx hb dX1_read_5 hl (by decide) rfl (fun ls hl => ?_)
  refine lv_iload hx hb dX1_read_7 (lv_at hl 5 rfl) ?_
  refine lv_iconst (v := 0) hx hb dX1_read_9 (by decide) ?_
  refine lv_aload hx hb dX1_read_10 (lv_at hl 0 rfl) ?_
  refine va_get (D := (dC, dI)) (ci := 0) (v := .int lv) (C := "TextureUnits$Unit") (T := TX0) (N := 10) hx hb hts (tw_s inX0) hown hK hP 2 rfl rfl 4 (by decide) (hts _ (tw_c tw_43)) (fun _ h9 => h9) rfl dX1_read_12 ?_
  refine lv_iconst (v := 1) hx hb dX1_read_15 (by decide) ?_
  refine lv_isub hx hb dX1_read_16 ?_
  refine lv_bipush (v := 16) hx hb dX1_read_17 (by decide) ?_
  refine lv_ishl hx hb dX1_read_19 ?_
  refine rd_call (W.runS (As := [.int p3, .int 0, .int ((lv - (1 : Int32)) <<< ((16 : Int32) &&& 31))]) (rest := []) ⟨hx, hb, hml, hown, hts⟩ (r_cut l p3 0 ((lv - (1 : Int32)) <<< ((16 : Int32) &&& 31))) (va_cwS 3 hts (tg_S tw_277 tw_278 tw_1 tw_279) rfl rfl rfl (by decide +kernel) ⟨Nat.le_of_ble_eq_true rfl, Nat.le_of_ble_eq_true rfl⟩) preEq rfl rfl hl.1 rfl (lv_room (Nat.le_of_ble_eq_true rfl)) dX1_read_20 ⟨Nat.le_of_ble_eq_true rfl, Nat.le_of_ble_eq_true rfl⟩) ?_
  refine W.eq (g2 := F0 m 23 ls [.int (tu_lod lv p3)]) rfl ?_
  refine lv_istore (lv' := [(6, .int (tu_lod lv p3)), (5, .ref u), (0, .ref q), (1, .int p0), (2, .int p1), (3, .int p2), (4, .int p3)]) hx hb dX1_read_23 hl (by decide) rfl (fun ls hl => ?_)
  refine lv_iload hx hb dX1_read_25 (lv_at hl 0 rfl) ?_
  refine lv_bipush (v := 16) hx hb dX1_read_27 (by decide) ?_
  refine lv_ishr hx hb dX1_read_29 ?_
  refine W.eq (g2 := F0 m 30 ls [.int (tu_lev lv p3)]) rfl ?_
  refine lv_istore (lv' := [(7, .int (tu_lev lv p3)), (6, .int (tu_lod lv p3)), (5, .ref u), (0, .ref q), (1, .int p0), (2, .int p1), (3, .int p2), (4, .int p3)]) hx hb dX1_read_30 hl (by decide) rfl (fun ls hl => ?_)
  refine lv_aload_n hx hb dX1_read_32 rfl (lv_at hl 3 rfl) ?_
  refine lv_aload hx hb dX1_read_33 (lv_at hl 2 rfl) ?_
  refine lv_iload hx hb dX1_read_35 (lv_at hl 0 rfl) ?_
  refine lv_iload_n hx hb dX1_read_37 rfl (lv_at hl 5 rfl) ?_
  refine lv_iload_n hx hb dX1_read_38 rfl (lv_at hl 6 rfl) ?_
  refine lv_aload_n hx hb dX1_read_39 rfl (lv_at hl 3 rfl) ?_
  refine va_get (D := (dC, dI)) (ci := 1) (v := .ref la) (C := "TextureUnits") (T := TX1) (N := 4) hx hb hts (tw_s inX1) hown hK hP 0 rfl rfl 2 (by decide) (hts _ (tw_c tw_75)) (fun _ h9 => h9) rfl dX1_read_40 ?_
  have hPc := hP.sub (ws' := [(q, .inr (1, [.ref wd, .ref us, .ref la, .ref nx])), (u, .inr (0, [.int fr, .int fo, .int lw, .int lh, .int lv, .int ac, .int dn, .int fi, .ref bc, .ref st])), (wd, .inl (cI, 2048, .inl mem)), (st, .inl (cI, 12, .inl sf)), (bc, .inl (cI, 4, .inl bd)), (la, .inl (cI, 4, .inl lat))]) [0, 2, 3, 4, 5, 6] rfl
  have hDc := hD.sub (ws' := [(q, .inr (1, [.ref wd, .ref us, .ref la, .ref nx])), (u, .inr (0, [.int fr, .int fo, .int lw, .int lh, .int lv, .int ac, .int dn, .int fi, .ref bc, .ref st])), (wd, .inl (cI, 2048, .inl mem)), (st, .inl (cI, 12, .inl sf)), (bc, .inl (cI, 4, .inl bd)), (la, .inl (cI, 4, .inl lat))]) [0, 2, 3, 4, 5, 6] (by decide) rfl
  have hFc := va_free (wc := [(q, .inr (1, [.ref wd, .ref us, .ref la, .ref nx])), (u, .inr (0, [.int fr, .int fo, .int lw, .int lh, .int lv, .int ac, .int dn, .int fi, .ref bc, .ref st])), (wd, .inl (cI, 2048, .inl mem)), (st, .inl (cI, 12, .inl sf)), (bc, .inl (cI, 4, .inl bd)), (la, .inl (cI, 4, .inl lat))]) hD hS hA [0, 2, 3, 4, 5, 6] rfl
  refine va_callv (va_runV (As := [.ref u, .int (tu_lev lv p3), .int p1, .int p2, .ref la]) (rest := []) ⟨hx, hb, hml, hown, hts⟩ (w_sample l dC dI q wd us la nx u fr fo lw lh lv ac dn fi bc st la cI mem sf bd lat tb (tu_lev lv p3) p1 p2 s.heap.size h2 h1) (cwV 5 hts (tg_V tw_286 tw_288 tw_p4 tw_1 tw_289) rfl rfl rfl (by decide +kernel) ⟨Nat.le_of_ble_eq_true rfl, Nat.le_of_ble_eq_true rfl⟩) ⟨wt_blind, va_recv hK hP (ci := 1) (q0 := 0) rfl rfl, fun U hU hW => ⟨rfl, wt_use hPc (hK.sub [1] rfl) hDc hX hS hFc U hU hW⟩⟩ rfl rfl hl.1 rfl (lv_room (Nat.le_of_ble_eq_true rfl)) dX1_read_43 ⟨Nat.le_of_ble_eq_true rfl, Nat.le_of_ble_eq_true rfl⟩) hS (fun q _ h => hFc q h) hFc (fun u9 t9 H1 locs ht hvm hw hB hz1 hk1 hS => ?_)
  obtain ⟨hP1, hK1, hD1⟩ := hB
  rw [ht] at hP1
  obtain ⟨hP, hD⟩ := va_join (wr := [(us, .inl (cU, 4, .inr (.inr (.inr (.inr g))))), (nx, .inl (cI, 4, .inl nxt))]) (w1 := [(q, .inr (1, [.ref wd, .ref us, .ref la, .ref nx])), (u, .inr (0, [.int fr, .int fo, .int lw, .int lh, .int lv, .int ac, .int dn, .int fi, .ref bc, .ref st])), (wd, .inl (cI, 2048, .inl mem)), (st, .inl (cI, 12, .inl sf)), (bc, .inl (cI, 4, .inl bd)), (la, .inl (cI, 4, .inl (tu_smp4 mem sf bd fr fo lw lh ac dn fi (tu_lev lv p3) p1 p2 lat)))]) hP hD [0, 2, 3, 4, 5, 6] [1, 7] rfl rfl (by decide) (by decide) hk1 hFc hP1 hD1
  have hP := hP.sub (ws' := [(q, .inr (1, [.ref wd, .ref us, .ref la, .ref nx])), (us, .inl (cU, 4, .inr (.inr (.inr (.inr g))))), (u, .inr (0, [.int fr, .int fo, .int lw, .int lh, .int lv, .int ac, .int dn, .int fi, .ref bc, .ref st])), (wd, .inl (cI, 2048, .inl mem)), (st, .inl (cI, 12, .inl sf)), (bc, .inl (cI, 4, .inl bd)), (la, .inl (cI, 4, .inl (tu_smp4 mem sf bd fr fo lw lh ac dn fi (tu_lev lv p3) p1 p2 lat))), (nx, .inl (cI, 4, .inl nxt))]) [2, 0, 3, 4, 5, 6, 7, 1] rfl
  have hD := hD.sub (ws' := [(q, .inr (1, [.ref wd, .ref us, .ref la, .ref nx])), (us, .inl (cU, 4, .inr (.inr (.inr (.inr g))))), (u, .inr (0, [.int fr, .int fo, .int lw, .int lh, .int lv, .int ac, .int dn, .int fi, .ref bc, .ref st])), (wd, .inl (cI, 2048, .inl mem)), (st, .inl (cI, 12, .inl sf)), (bc, .inl (cI, 4, .inl bd)), (la, .inl (cI, 4, .inl (tu_smp4 mem sf bd fr fo lw lh ac dn fi (tu_lev lv p3) p1 p2 lat))), (nx, .inl (cI, 4, .inl nxt))]) [2, 0, 3, 4, 5, 6, 7, 1] (by decide) rfl
  clear hPc hDc hFc hP1 hK1 hD1 hk1 hz1
  generalize H1 = H at hP hS ⊢
  refine lv_aload hx hb dX1_read_46 (lv_at hl 2 rfl) ?_
  refine va_get (D := (dC, dI)) (ci := 0) (v := .int fi) (C := "TextureUnits$Unit") (T := TX0) (N := 10) hx hb hts (tw_s inX0) hown hK hP 2 rfl rfl 7 (by decide) (hts _ (tw_c tw_46)) (fun _ h9 => h9) rfl dX1_read_48 ?_
  refine lv_iconst (v := 2) hx hb dX1_read_51 (by decide) ?_
  refine lv_icmp_eq (tgt := 64) hx hb dX1_read_52 (by decide) (fun c_1 => ?_) (fun c_1 => ?_)
  · refine lv_iconst (v := 1) hx hb dX1_read_64 (by decide) ?_
    refine lv_goto (tgt := 69) hx hb dX1_read_65 (by decide) ?_
    refine lv_istore (lv' := [(8, .int 1), (7, .int (tu_lev lv p3)), (6, .int (tu_lod lv p3)), (5, .ref u), (0, .ref q), (1, .int p0), (2, .int p1), (3, .int p2), (4, .int p3)]) hx hb dX1_read_69 hl (by decide) rfl (fun ls hl => ?_)
    refine lv_iload hx hb dX1_read_71 (lv_at hl 0 rfl) ?_
    refine lv_if_eq (tgt := 148) hx hb dX1_read_73 (by decide) (fun c_2 => absurd c_2 (by decide)) (fun c_2 => ?_)
    refine lv_iload hx hb dX1_read_76 (lv_at hl 1 rfl) ?_
    refine lv_iconst (v := 1) hx hb dX1_read_78 (by decide) ?_
    refine lv_iadd hx hb dX1_read_79 ?_
    refine lv_aload hx hb dX1_read_80 (lv_at hl 3 rfl) ?_
    refine va_get (D := (dC, dI)) (ci := 0) (v := .int lv) (C := "TextureUnits$Unit") (T := TX0) (N := 10) hx hb hts (tw_s inX0) hown hK hP 2 rfl rfl 4 (by decide) (hts _ (tw_c tw_43)) (fun _ h9 => h9) rfl dX1_read_82 ?_
    refine lv_icmp_ge (tgt := 148) hx hb dX1_read_85 (by decide) (fun c_3 => ?_) (fun c_3 => ?_)
    · have hP : va_P (dC, dI) vwCl [(q, .inr (1, [.ref wd, .ref us, .ref la, .ref nx])), (us, .inl (cU, 4, .inr (.inr (.inr (.inr g))))), (u, .inr (0, [.int fr, .int fo, .int lw, .int lh, .int lv, .int ac, .int dn, .int fi, .ref bc, .ref st])), (wd, .inl (cI, 2048, .inl mem)), (st, .inl (cI, 12, .inl sf)), (bc, .inl (cI, 4, .inl bd)), (la, .inl (cI, 4, .inl (tu_rd mem sf bd fr fo lw lh lv ac dn fi p1 p2 p3 lat nxt))), (nx, .inl (cI, 4, .inl (tu_rn mem sf bd fr fo lw lh lv ac dn fi p1 p2 p3 nxt)))] H := by rw [tu_rd_b (Or.inl c_1) c_3, tu_rn_b (Or.inl c_1) c_3]; exact hP
      have hD : va_D A [(q, .inr (1, [.ref wd, .ref us, .ref la, .ref nx])), (us, .inl (cU, 4, .inr (.inr (.inr (.inr g))))), (u, .inr (0, [.int fr, .int fo, .int lw, .int lh, .int lv, .int ac, .int dn, .int fi, .ref bc, .ref st])), (wd, .inl (cI, 2048, .inl mem)), (st, .inl (cI, 12, .inl sf)), (bc, .inl (cI, 4, .inl bd)), (la, .inl (cI, 4, .inl (tu_rd mem sf bd fr fo lw lh lv ac dn fi p1 p2 p3 lat nxt))), (nx, .inl (cI, 4, .inl (tu_rn mem sf bd fr fo lw lh lv ac dn fi p1 p2 p3 nxt)))] := by rw [tu_rd_b (Or.inl c_1) c_3, tu_rn_b (Or.inl c_1) c_3]; exact hD
      refine lv_aload_n hx hb dX1_read_148 rfl (lv_at hl 4 rfl) ?_
      refine va_get (D := (dC, dI)) (ci := 1) (v := .ref la) (C := "TextureUnits") (T := TX1) (N := 4) hx hb hts (tw_s inX1) hown hK hP 0 rfl rfl 2 (by decide) (hts _ (tw_c tw_75)) (fun _ h9 => h9) rfl dX1_read_149 ?_
      refine lv_iconst (v := 0) hx hb dX1_read_152 (by decide) ?_
      refine va_iald hx hb hK hP 6 1 rfl rfl (tu_in (by decide)) dX1_read_153 ?_
      refine lv_topi (fun x_4 ex_4 => ?_)
      have ex_4 : x_4 = ((tu_rd mem sf bd fr fo lw lh lv ac dn fi p1 p2 p3 lat nxt) 0) := ex_4
      subst ex_4
      have hP9 : va_P (dC, dI) vwCl [(q, .inr (1, [.ref wd, .ref us, .ref la, .ref nx])), (us, .inl (cU, 4, .inr (.inr (.inr (.inr g))))), (u, .inr (0, [.int fr, .int fo, .int lw, .int lh, .int lv, .int ac, .int dn, .int fi, .ref bc, .ref st])), (wd, .inl (cI, 2048, .inl mem)), (st, .inl (cI, 12, .inl sf)), (bc, .inl (cI, 4, .inl bd)), (la, .inl (cI, 4, .inl (tu_rd mem sf bd fr fo lw lh lv ac dn fi p1 p2 p3 lat nxt))), (nx, .inl (cI, 4, .inl (tu_rn mem sf bd fr fo lw lh lv ac dn fi p1 p2 p3 nxt)))] H := hP.sub [0, 1, 2, 3, 4, 5, 6, 7] rfl
      have hD9 : va_D A [(q, .inr (1, [.ref wd, .ref us, .ref la, .ref nx])), (us, .inl (cU, 4, .inr (.inr (.inr (.inr g))))), (u, .inr (0, [.int fr, .int fo, .int lw, .int lh, .int lv, .int ac, .int dn, .int fi, .ref bc, .ref st])), (wd, .inl (cI, 2048, .inl mem)), (st, .inl (cI, 12, .inl sf)), (bc, .inl (cI, 4, .inl bd)), (la, .inl (cI, 4, .inl (tu_rd mem sf bd fr fo lw lh lv ac dn fi p1 p2 p3 lat nxt))), (nx, .inl (cI, 4, .inl (tu_rn mem sf bd fr fo lw lh lv ac dn fi p1 p2 p3 nxt)))] := hD.sub [0, 1, 2, 3, 4, 5, 6, 7] (by decide) rfl
      have hK9 : va_K (dC, dI) vwCl [(cU, .object "TextureUnits$Unit"), (cI, .int)] s := hK.sub [0, 1] rfl
      exact W.iret (v := ((tu_rd mem sf bd fr fo lw lh lv ac dn fi p1 p2 p3 lat nxt) 0)) hx hb hr (fun t ht hW => ⟨⟨((tu_rd mem sf bd fr fo lw lh lv ac dn fi p1 p2 p3 lat nxt) 0), (), rfl, rfl, by rw [ht]; exact hP9, va_K.moved hW.alike hK9, hD9⟩, hS.F ht⟩) hS.2.2 dX1_read_154
    · refine lv_aload_n hx hb dX1_read_88 rfl (lv_at hl 4 rfl) ?_
      refine lv_aload hx hb dX1_read_89 (lv_at hl 3 rfl) ?_
      refine lv_iload hx hb dX1_read_91 (lv_at hl 1 rfl) ?_
      refine lv_iconst (v := 1) hx hb dX1_read_93 (by decide) ?_
      refine lv_iadd hx hb dX1_read_94 ?_
      refine lv_iload_n hx hb dX1_read_95 rfl (lv_at hl 6 rfl) ?_
      refine lv_iload_n hx hb dX1_read_96 rfl (lv_at hl 7 rfl) ?_
      refine lv_aload_n hx hb dX1_read_97 rfl (lv_at hl 4 rfl) ?_
      refine va_get (D := (dC, dI)) (ci := 1) (v := .ref nx) (C := "TextureUnits") (T := TX1) (N := 4) hx hb hts (tw_s inX1) hown hK hP 0 rfl rfl 3 (by decide) (hts _ (tw_c tw_76)) (fun _ h9 => h9) rfl dX1_read_98 ?_
      have hPc := hP.sub (ws' := [(q, .inr (1, [.ref wd, .ref us, .ref la, .ref nx])), (u, .inr (0, [.int fr, .int fo, .int lw, .int lh, .int lv, .int ac, .int dn, .int fi, .ref bc, .ref st])), (wd, .inl (cI, 2048, .inl mem)), (st, .inl (cI, 12, .inl sf)), (bc, .inl (cI, 4, .inl bd)), (nx, .inl (cI, 4, .inl nxt))]) [0, 2, 3, 4, 5, 7] rfl
      have hDc := hD.sub (ws' := [(q, .inr (1, [.ref wd, .ref us, .ref la, .ref nx])), (u, .inr (0, [.int fr, .int fo, .int lw, .int lh, .int lv, .int ac, .int dn, .int fi, .ref bc, .ref st])), (wd, .inl (cI, 2048, .inl mem)), (st, .inl (cI, 12, .inl sf)), (bc, .inl (cI, 4, .inl bd)), (nx, .inl (cI, 4, .inl nxt))]) [0, 2, 3, 4, 5, 7] (by decide) rfl
      have hFc := va_free (wc := [(q, .inr (1, [.ref wd, .ref us, .ref la, .ref nx])), (u, .inr (0, [.int fr, .int fo, .int lw, .int lh, .int lv, .int ac, .int dn, .int fi, .ref bc, .ref st])), (wd, .inl (cI, 2048, .inl mem)), (st, .inl (cI, 12, .inl sf)), (bc, .inl (cI, 4, .inl bd)), (nx, .inl (cI, 4, .inl nxt))]) hD hS hA [0, 2, 3, 4, 5, 7] rfl
      refine va_callv (va_runV (As := [.ref u, .int ((tu_lev lv p3) + (1 : Int32)), .int p1, .int p2, .ref nx]) (rest := []) ⟨hx, hb, hml, hown, hts⟩ (w_sample l dC dI q wd us la nx u fr fo lw lh lv ac dn fi bc st nx cI mem sf bd nxt tb ((tu_lev lv p3) + (1 : Int32)) p1 p2 H.size (h3 c_3) h1) (cwV 5 hts (tg_V tw_286 tw_288 tw_p4 tw_1 tw_289) rfl rfl rfl (by decide +kernel) ⟨Nat.le_of_ble_eq_true rfl, Nat.le_of_ble_eq_true rfl⟩) ⟨wt_blind, va_recv hK hP (ci := 1) (q0 := 0) rfl rfl, fun U hU hW => ⟨rfl, wt_use hPc (hK.sub [1] rfl) hDc hX hS hFc U hU hW⟩⟩ rfl rfl hl.1 rfl (lv_room (Nat.le_of_ble_eq_true rfl)) dX1_read_101 ⟨Nat.le_of_ble_eq_true rfl, Nat.le_of_ble_eq_true rfl⟩) hS (fun q _ h => hFc q h) hFc (fun u9 t9 H1 locs ht hvm hw hB hz1 hk1 hS => ?_)
      obtain ⟨hP1, hK1, hD1⟩ := hB
      rw [ht] at hP1
      obtain ⟨hP, hD⟩ := va_join (wr := [(us, .inl (cU, 4, .inr (.inr (.inr (.inr g))))), (la, .inl (cI, 4, .inl (tu_smp4 mem sf bd fr fo lw lh ac dn fi (tu_lev lv p3) p1 p2 lat)))]) (w1 := [(q, .inr (1, [.ref wd, .ref us, .ref la, .ref nx])), (u, .inr (0, [.int fr, .int fo, .int lw, .int lh, .int lv, .int ac, .int dn, .int fi, .ref bc, .ref st])), (wd, .inl (cI, 2048, .inl mem)), (st, .inl (cI, 12, .inl sf)), (bc, .inl (cI, 4, .inl bd)), (nx, .inl (cI, 4, .inl (tu_smp4 mem sf bd fr fo lw lh ac dn fi ((tu_lev lv p3) + (1 : Int32)) p1 p2 nxt)))]) hP hD [0, 2, 3, 4, 5, 7] [1, 6] rfl rfl (by decide) (by decide) hk1 hFc hP1 hD1
      have hP := hP.sub (ws' := [(q, .inr (1, [.ref wd, .ref us, .ref la, .ref nx])), (us, .inl (cU, 4, .inr (.inr (.inr (.inr g))))), (u, .inr (0, [.int fr, .int fo, .int lw, .int lh, .int lv, .int ac, .int dn, .int fi, .ref bc, .ref st])), (wd, .inl (cI, 2048, .inl mem)), (st, .inl (cI, 12, .inl sf)), (bc, .inl (cI, 4, .inl bd)), (la, .inl (cI, 4, .inl (tu_smp4 mem sf bd fr fo lw lh ac dn fi (tu_lev lv p3) p1 p2 lat))), (nx, .inl (cI, 4, .inl (tu_smp4 mem sf bd fr fo lw lh ac dn fi ((tu_lev lv p3) + (1 : Int32)) p1 p2 nxt)))]) [2, 0, 3, 4, 5, 6, 1, 7] rfl
      have hD := hD.sub (ws' := [(q, .inr (1, [.ref wd, .ref us, .ref la, .ref nx])), (us, .inl (cU, 4, .inr (.inr (.inr (.inr g))))), (u, .inr (0, [.int fr, .int fo, .int lw, .int lh, .int lv, .int ac, .int dn, .int fi, .ref bc, .ref st])), (wd, .inl (cI, 2048, .inl mem)), (st, .inl (cI, 12, .inl sf)), (bc, .inl (cI, 4, .inl bd)), (la, .inl (cI, 4, .inl (tu_smp4 mem sf bd fr fo lw lh ac dn fi (tu_lev lv p3) p1 p2 lat))), (nx, .inl (cI, 4, .inl (tu_smp4 mem sf bd fr fo lw lh ac dn fi ((tu_lev lv p3) + (1 : Int32)) p1 p2 nxt)))]) [2, 0, 3, 4, 5, 6, 1, 7] (by decide) rfl
      clear hPc hDc hFc hP1 hK1 hD1 hk1 hz1
      generalize H1 = H at hP hS ⊢
      refine lv_iconst (v := 0) hx hb dX1_read_104 (by decide) ?_
      refine lv_istore (lv' := [(9, .int 0), (8, .int 1), (7, .int (tu_lev lv p3)), (6, .int (tu_lod lv p3)), (5, .ref u), (0, .ref q), (1, .int p0), (2, .int p1), (3, .int p2), (4, .int p3)]) hx hb dX1_read_105 hl (by decide) rfl (fun ls hl => ?_)
      refine lv_iload hx hb dX1_read_107 (lv_at hl 0 rfl) ?_
      refine lv_iconst (v := 4) hx hb dX1_read_109 (by decide) ?_
      refine lv_icmp_ge (tgt := 148) hx hb dX1_read_110 (by decide) (fun c_5 => absurd c_5 (by decide)) (fun c_5 => ?_)
      refine lv_aload_n hx hb dX1_read_113 rfl (lv_at hl 5 rfl) ?_
      refine va_get (D := (dC, dI)) (ci := 1) (v := .ref la) (C := "TextureUnits") (T := TX1) (N := 4) hx hb hts (tw_s inX1) hown hK hP 0 rfl rfl 2 (by decide) (hts _ (tw_c tw_75)) (fun _ h9 => h9) rfl dX1_read_114 ?_
      refine lv_iload hx hb dX1_read_117 (lv_at hl 0 rfl) ?_
      refine lv_aload_n hx hb dX1_read_119 rfl (lv_at hl 5 rfl) ?_
      refine va_get (D := (dC, dI)) (ci := 1) (v := .ref la) (C := "TextureUnits") (T := TX1) (N := 4) hx hb hts (tw_s inX1) hown hK hP 0 rfl rfl 2 (by decide) (hts _ (tw_c tw_75)) (fun _ h9 => h9) rfl dX1_read_120 ?_
      refine lv_iload hx hb dX1_read_123 (lv_at hl 0 rfl) ?_
      refine va_iald hx hb hK hP 6 1 rfl rfl (tu_in (by decide)) dX1_read_125 ?_
      refine lv_topi (fun x_6 ex_6 => ?_)
      have ex_6 : x_6 = ((tu_smp4 mem sf bd fr fo lw lh ac dn fi (tu_lev lv p3) p1 p2 lat) 0) := ex_6
      subst ex_6
      refine lv_aload_n hx hb dX1_read_126 rfl (lv_at hl 5 rfl) ?_
      refine va_get (D := (dC, dI)) (ci := 1) (v := .ref nx) (C := "TextureUnits") (T := TX1) (N := 4) hx hb hts (tw_s inX1) hown hK hP 0 rfl rfl 3 (by decide) (hts _ (tw_c tw_76)) (fun _ h9 => h9) rfl dX1_read_127 ?_
      refine lv_iload hx hb dX1_read_130 (lv_at hl 0 rfl) ?_
      refine va_iald hx hb hK hP 7 1 rfl rfl (tu_in (by decide)) dX1_read_132 ?_
      refine lv_topi (fun x_7 ex_7 => ?_)
      have ex_7 : x_7 = ((tu_smp4 mem sf bd fr fo lw lh ac dn fi ((tu_lev lv p3) + (1 : Int32)) p1 p2 nxt) 0) := ex_7
      subst ex_7
      refine lv_iload hx hb dX1_read_133 (lv_at hl 3 rfl) ?_
      refine lv_ldc (v := 65535) hx hb hown (hts _ (tw_c tw_319)) dX1_read_135 ?_
      refine lv_iand hx hb dX1_read_137 ?_
      refine rd_call (W.runS (As := [.int ((tu_smp4 mem sf bd fr fo lw lh ac dn fi (tu_lev lv p3) p1 p2 lat) 0), .int ((tu_smp4 mem sf bd fr fo lw lh ac dn fi ((tu_lev lv p3) + (1 : Int32)) p1 p2 nxt) 0), .int ((tu_lod lv p3) &&& (65535 : Int32))]) (rest := [.int 0, .ref la]) ⟨hx, hb, hml, hown, hts⟩ (r_mix l ((tu_smp4 mem sf bd fr fo lw lh ac dn fi (tu_lev lv p3) p1 p2 lat) 0) ((tu_smp4 mem sf bd fr fo lw lh ac dn fi ((tu_lev lv p3) + (1 : Int32)) p1 p2 nxt) 0) ((tu_lod lv p3) &&& (65535 : Int32))) (va_cwS 3 hts (tg_S tw_312 tw_313 tw_1 tw_314) rfl rfl rfl (by decide +kernel) ⟨Nat.le_of_ble_eq_true rfl, Nat.le_of_ble_eq_true rfl⟩) preEq rfl rfl hl.1 rfl (lv_room (Nat.le_of_ble_eq_true rfl)) dX1_read_138 ⟨Nat.le_of_ble_eq_true rfl, Nat.le_of_ble_eq_true rfl⟩) ?_
      refine va_iast hx hb hK hP hD hS 6 1 rfl rfl (tu_in (by decide)) dX1_read_141 (fun H locs hP hD hS => ?_)
      have hP : va_P (dC, dI) vwCl [(q, .inr (1, [.ref wd, .ref us, .ref la, .ref nx])), (us, .inl (cU, 4, .inr (.inr (.inr (.inr g))))), (u, .inr (0, [.int fr, .int fo, .int lw, .int lh, .int lv, .int ac, .int dn, .int fi, .ref bc, .ref st])), (wd, .inl (cI, 2048, .inl mem)), (st, .inl (cI, 12, .inl sf)), (bc, .inl (cI, 4, .inl bd)), (la, .inl (cI, 4, .inl (upd (tu_smp4 mem sf bd fr fo lw lh ac dn fi (tu_lev lv p3) p1 p2 lat) 0 (tu_mix ((tu_smp4 mem sf bd fr fo lw lh ac dn fi (tu_lev lv p3) p1 p2 lat) 0) ((tu_smp4 mem sf bd fr fo lw lh ac dn fi ((tu_lev lv p3) + (1 : Int32)) p1 p2 nxt) 0) ((tu_lod lv p3) &&& (65535 : Int32)))))), (nx, .inl (cI, 4, .inl (tu_smp4 mem sf bd fr fo lw lh ac dn fi ((tu_lev lv p3) + (1 : Int32)) p1 p2 nxt)))] H := hP
      have hD : va_D A [(q, .inr (1, [.ref wd, .ref us, .ref la, .ref nx])), (us, .inl (cU, 4, .inr (.inr (.inr (.inr g))))), (u, .inr (0, [.int fr, .int fo, .int lw, .int lh, .int lv, .int ac, .int dn, .int fi, .ref bc, .ref st])), (wd, .inl (cI, 2048, .inl mem)), (st, .inl (cI, 12, .inl sf)), (bc, .inl (cI, 4, .inl bd)), (la, .inl (cI, 4, .inl (upd (tu_smp4 mem sf bd fr fo lw lh ac dn fi (tu_lev lv p3) p1 p2 lat) 0 (tu_mix ((tu_smp4 mem sf bd fr fo lw lh ac dn fi (tu_lev lv p3) p1 p2 lat) 0) ((tu_smp4 mem sf bd fr fo lw lh ac dn fi ((tu_lev lv p3) + (1 : Int32)) p1 p2 nxt) 0) ((tu_lod lv p3) &&& (65535 : Int32)))))), (nx, .inl (cI, 4, .inl (tu_smp4 mem sf bd fr fo lw lh ac dn fi ((tu_lev lv p3) + (1 : Int32)) p1 p2 nxt)))] := hD
      refine lv_iinc (v := 1) (lv' := [(9, .int 1), (8, .int 1), (7, .int (tu_lev lv p3)), (6, .int (tu_lod lv p3)), (5, .ref u), (0, .ref q), (1, .int p0), (2, .int p1), (3, .int p2), (4, .int p3)]) hx hb dX1_read_142 hl (k := 0) rfl (by decide) (by decide) rfl (fun ls hl => ?_)
      refine lv_goto (tgt := 107) hx hb dX1_read_145 (by decide) ?_
      refine lv_iload hx hb dX1_read_107 (lv_at hl 0 rfl) ?_
      refine lv_iconst (v := 4) hx hb dX1_read_109 (by decide) ?_
      refine lv_icmp_ge (tgt := 148) hx hb dX1_read_110 (by decide) (fun c_8 => absurd c_8 (by decide)) (fun c_8 => ?_)
      refine lv_aload_n hx hb dX1_read_113 rfl (lv_at hl 5 rfl) ?_
      refine va_get (D := (dC, dI)) (ci := 1) (v := .ref la) (C := "TextureUnits") (T := TX1) (N := 4) hx hb hts (tw_s inX1) hown hK hP 0 rfl rfl 2 (by decide) (hts _ (tw_c tw_75)) (fun _ h9 => h9) rfl dX1_read_114 ?_
      refine lv_iload hx hb dX1_read_117 (lv_at hl 0 rfl) ?_
      refine lv_aload_n hx hb dX1_read_119 rfl (lv_at hl 5 rfl) ?_
      refine va_get (D := (dC, dI)) (ci := 1) (v := .ref la) (C := "TextureUnits") (T := TX1) (N := 4) hx hb hts (tw_s inX1) hown hK hP 0 rfl rfl 2 (by decide) (hts _ (tw_c tw_75)) (fun _ h9 => h9) rfl dX1_read_120 ?_
      refine lv_iload hx hb dX1_read_123 (lv_at hl 0 rfl) ?_
      refine va_iald hx hb hK hP 6 1 rfl rfl (tu_in (by decide)) dX1_read_125 ?_
      refine lv_topi (fun x_9 ex_9 => ?_)
      have ex_9 : x_9 = ((tu_smp4 mem sf bd fr fo lw lh ac dn fi (tu_lev lv p3) p1 p2 lat) 1) := (ex_9).trans (pk_un (by decide))
      subst ex_9
      refine lv_aload_n hx hb dX1_read_126 rfl (lv_at hl 5 rfl) ?_
      refine va_get (D := (dC, dI)) (ci := 1) (v := .ref nx) (C := "TextureUnits") (T := TX1) (N := 4) hx hb hts (tw_s inX1) hown hK hP 0 rfl rfl 3 (by decide) (hts _ (tw_c tw_76)) (fun _ h9 => h9) rfl dX1_read_127 ?_
      refine lv_iload hx hb dX1_read_130 (lv_at hl 0 rfl) ?_
      refine va_iald hx hb hK hP 7 1 rfl rfl (tu_in (by decide)) dX1_read_132 ?_
      refine lv_topi (fun x_10 ex_10 => ?_)
      have ex_10 : x_10 = ((tu_smp4 mem sf bd fr fo lw lh ac dn fi ((tu_lev lv p3) + (1 : Int32)) p1 p2 nxt) 1) := ex_10
      subst ex_10
      refine lv_iload hx hb dX1_read_133 (lv_at hl 3 rfl) ?_
      refine lv_ldc (v := 65535) hx hb hown (hts _ (tw_c tw_319)) dX1_read_135 ?_
      refine lv_iand hx hb dX1_read_137 ?_
      refine rd_call (W.runS (As := [.int ((tu_smp4 mem sf bd fr fo lw lh ac dn fi (tu_lev lv p3) p1 p2 lat) 1), .int ((tu_smp4 mem sf bd fr fo lw lh ac dn fi ((tu_lev lv p3) + (1 : Int32)) p1 p2 nxt) 1), .int ((tu_lod lv p3) &&& (65535 : Int32))]) (rest := [.int 1, .ref la]) ⟨hx, hb, hml, hown, hts⟩ (r_mix l ((tu_smp4 mem sf bd fr fo lw lh ac dn fi (tu_lev lv p3) p1 p2 lat) 1) ((tu_smp4 mem sf bd fr fo lw lh ac dn fi ((tu_lev lv p3) + (1 : Int32)) p1 p2 nxt) 1) ((tu_lod lv p3) &&& (65535 : Int32))) (va_cwS 3 hts (tg_S tw_312 tw_313 tw_1 tw_314) rfl rfl rfl (by decide +kernel) ⟨Nat.le_of_ble_eq_true rfl, Nat.le_of_ble_eq_true rfl⟩) preEq rfl rfl hl.1 rfl (lv_room (Nat.le_of_ble_eq_true rfl)) dX1_read_138 ⟨Nat.le_of_ble_eq_true rfl, Nat.le_of_ble_eq_true rfl⟩) ?_
      refine va_iast hx hb hK hP hD hS 6 1 rfl rfl (tu_in (by decide)) dX1_read_141 (fun H locs hP hD hS => ?_)
      have hP : va_P (dC, dI) vwCl [(q, .inr (1, [.ref wd, .ref us, .ref la, .ref nx])), (us, .inl (cU, 4, .inr (.inr (.inr (.inr g))))), (u, .inr (0, [.int fr, .int fo, .int lw, .int lh, .int lv, .int ac, .int dn, .int fi, .ref bc, .ref st])), (wd, .inl (cI, 2048, .inl mem)), (st, .inl (cI, 12, .inl sf)), (bc, .inl (cI, 4, .inl bd)), (la, .inl (cI, 4, .inl (upd (upd (tu_smp4 mem sf bd fr fo lw lh ac dn fi (tu_lev lv p3) p1 p2 lat) 0 (tu_mix ((tu_smp4 mem sf bd fr fo lw lh ac dn fi (tu_lev lv p3) p1 p2 lat) 0) ((tu_smp4 mem sf bd fr fo lw lh ac dn fi ((tu_lev lv p3) + (1 : Int32)) p1 p2 nxt) 0) ((tu_lod lv p3) &&& (65535 : Int32)))) 1 (tu_mix ((tu_smp4 mem sf bd fr fo lw lh ac dn fi (tu_lev lv p3) p1 p2 lat) 1) ((tu_smp4 mem sf bd fr fo lw lh ac dn fi ((tu_lev lv p3) + (1 : Int32)) p1 p2 nxt) 1) ((tu_lod lv p3) &&& (65535 : Int32)))))), (nx, .inl (cI, 4, .inl (tu_smp4 mem sf bd fr fo lw lh ac dn fi ((tu_lev lv p3) + (1 : Int32)) p1 p2 nxt)))] H := hP
      have hD : va_D A [(q, .inr (1, [.ref wd, .ref us, .ref la, .ref nx])), (us, .inl (cU, 4, .inr (.inr (.inr (.inr g))))), (u, .inr (0, [.int fr, .int fo, .int lw, .int lh, .int lv, .int ac, .int dn, .int fi, .ref bc, .ref st])), (wd, .inl (cI, 2048, .inl mem)), (st, .inl (cI, 12, .inl sf)), (bc, .inl (cI, 4, .inl bd)), (la, .inl (cI, 4, .inl (upd (upd (tu_smp4 mem sf bd fr fo lw lh ac dn fi (tu_lev lv p3) p1 p2 lat) 0 (tu_mix ((tu_smp4 mem sf bd fr fo lw lh ac dn fi (tu_lev lv p3) p1 p2 lat) 0) ((tu_smp4 mem sf bd fr fo lw lh ac dn fi ((tu_lev lv p3) + (1 : Int32)) p1 p2 nxt) 0) ((tu_lod lv p3) &&& (65535 : Int32)))) 1 (tu_mix ((tu_smp4 mem sf bd fr fo lw lh ac dn fi (tu_lev lv p3) p1 p2 lat) 1) ((tu_smp4 mem sf bd fr fo lw lh ac dn fi ((tu_lev lv p3) + (1 : Int32)) p1 p2 nxt) 1) ((tu_lod lv p3) &&& (65535 : Int32)))))), (nx, .inl (cI, 4, .inl (tu_smp4 mem sf bd fr fo lw lh ac dn fi ((tu_lev lv p3) + (1 : Int32)) p1 p2 nxt)))] := hD
      refine lv_iinc (v := 2) (lv' := [(9, .int 2), (8, .int 1), (7, .int (tu_lev lv p3)), (6, .int (tu_lod lv p3)), (5, .ref u), (0, .ref q), (1, .int p0), (2, .int p1), (3, .int p2), (4, .int p3)]) hx hb dX1_read_142 hl (k := 0) rfl (by decide) (by decide) rfl (fun ls hl => ?_)
      refine lv_goto (tgt := 107) hx hb dX1_read_145 (by decide) ?_
      refine lv_iload hx hb dX1_read_107 (lv_at hl 0 rfl) ?_
      refine lv_iconst (v := 4) hx hb dX1_read_109 (by decide) ?_
      refine lv_icmp_ge (tgt := 148) hx hb dX1_read_110 (by decide) (fun c_11 => absurd c_11 (by decide)) (fun c_11 => ?_)
      refine lv_aload_n hx hb dX1_read_113 rfl (lv_at hl 5 rfl) ?_
      refine va_get (D := (dC, dI)) (ci := 1) (v := .ref la) (C := "TextureUnits") (T := TX1) (N := 4) hx hb hts (tw_s inX1) hown hK hP 0 rfl rfl 2 (by decide) (hts _ (tw_c tw_75)) (fun _ h9 => h9) rfl dX1_read_114 ?_
      refine lv_iload hx hb dX1_read_117 (lv_at hl 0 rfl) ?_
      refine lv_aload_n hx hb dX1_read_119 rfl (lv_at hl 5 rfl) ?_
      refine va_get (D := (dC, dI)) (ci := 1) (v := .ref la) (C := "TextureUnits") (T := TX1) (N := 4) hx hb hts (tw_s inX1) hown hK hP 0 rfl rfl 2 (by decide) (hts _ (tw_c tw_75)) (fun _ h9 => h9) rfl dX1_read_120 ?_
      refine lv_iload hx hb dX1_read_123 (lv_at hl 0 rfl) ?_
      refine va_iald hx hb hK hP 6 1 rfl rfl (tu_in (by decide)) dX1_read_125 ?_
      refine lv_topi (fun x_12 ex_12 => ?_)
      have ex_12 : x_12 = ((tu_smp4 mem sf bd fr fo lw lh ac dn fi (tu_lev lv p3) p1 p2 lat) 2) := ((ex_12).trans (pk_un (by decide))).trans (pk_un (by decide))
      subst ex_12
      refine lv_aload_n hx hb dX1_read_126 rfl (lv_at hl 5 rfl) ?_
      refine va_get (D := (dC, dI)) (ci := 1) (v := .ref nx) (C := "TextureUnits") (T := TX1) (N := 4) hx hb hts (tw_s inX1) hown hK hP 0 rfl rfl 3 (by decide) (hts _ (tw_c tw_76)) (fun _ h9 => h9) rfl dX1_read_127 ?_
      refine lv_iload hx hb dX1_read_130 (lv_at hl 0 rfl) ?_
      refine va_iald hx hb hK hP 7 1 rfl rfl (tu_in (by decide)) dX1_read_132 ?_
      refine lv_topi (fun x_13 ex_13 => ?_)
      have ex_13 : x_13 = ((tu_smp4 mem sf bd fr fo lw lh ac dn fi ((tu_lev lv p3) + (1 : Int32)) p1 p2 nxt) 2) := ex_13
      subst ex_13
      refine lv_iload hx hb dX1_read_133 (lv_at hl 3 rfl) ?_
      refine lv_ldc (v := 65535) hx hb hown (hts _ (tw_c tw_319)) dX1_read_135 ?_
      refine lv_iand hx hb dX1_read_137 ?_
      refine rd_call (W.runS (As := [.int ((tu_smp4 mem sf bd fr fo lw lh ac dn fi (tu_lev lv p3) p1 p2 lat) 2), .int ((tu_smp4 mem sf bd fr fo lw lh ac dn fi ((tu_lev lv p3) + (1 : Int32)) p1 p2 nxt) 2), .int ((tu_lod lv p3) &&& (65535 : Int32))]) (rest := [.int 2, .ref la]) ⟨hx, hb, hml, hown, hts⟩ (r_mix l ((tu_smp4 mem sf bd fr fo lw lh ac dn fi (tu_lev lv p3) p1 p2 lat) 2) ((tu_smp4 mem sf bd fr fo lw lh ac dn fi ((tu_lev lv p3) + (1 : Int32)) p1 p2 nxt) 2) ((tu_lod lv p3) &&& (65535 : Int32))) (va_cwS 3 hts (tg_S tw_312 tw_313 tw_1 tw_314) rfl rfl rfl (by decide +kernel) ⟨Nat.le_of_ble_eq_true rfl, Nat.le_of_ble_eq_true rfl⟩) preEq rfl rfl hl.1 rfl (lv_room (Nat.le_of_ble_eq_true rfl)) dX1_read_138 ⟨Nat.le_of_ble_eq_true rfl, Nat.le_of_ble_eq_true rfl⟩) ?_
      refine va_iast hx hb hK hP hD hS 6 1 rfl rfl (tu_in (by decide)) dX1_read_141 (fun H locs hP hD hS => ?_)
      have hP : va_P (dC, dI) vwCl [(q, .inr (1, [.ref wd, .ref us, .ref la, .ref nx])), (us, .inl (cU, 4, .inr (.inr (.inr (.inr g))))), (u, .inr (0, [.int fr, .int fo, .int lw, .int lh, .int lv, .int ac, .int dn, .int fi, .ref bc, .ref st])), (wd, .inl (cI, 2048, .inl mem)), (st, .inl (cI, 12, .inl sf)), (bc, .inl (cI, 4, .inl bd)), (la, .inl (cI, 4, .inl (upd (upd (upd (tu_smp4 mem sf bd fr fo lw lh ac dn fi (tu_lev lv p3) p1 p2 lat) 0 (tu_mix ((tu_smp4 mem sf bd fr fo lw lh ac dn fi (tu_lev lv p3) p1 p2 lat) 0) ((tu_smp4 mem sf bd fr fo lw lh ac dn fi ((tu_lev lv p3) + (1 : Int32)) p1 p2 nxt) 0) ((tu_lod lv p3) &&& (65535 : Int32)))) 1 (tu_mix ((tu_smp4 mem sf bd fr fo lw lh ac dn fi (tu_lev lv p3) p1 p2 lat) 1) ((tu_smp4 mem sf bd fr fo lw lh ac dn fi ((tu_lev lv p3) + (1 : Int32)) p1 p2 nxt) 1) ((tu_lod lv p3) &&& (65535 : Int32)))) 2 (tu_mix ((tu_smp4 mem sf bd fr fo lw lh ac dn fi (tu_lev lv p3) p1 p2 lat) 2) ((tu_smp4 mem sf bd fr fo lw lh ac dn fi ((tu_lev lv p3) + (1 : Int32)) p1 p2 nxt) 2) ((tu_lod lv p3) &&& (65535 : Int32)))))), (nx, .inl (cI, 4, .inl (tu_smp4 mem sf bd fr fo lw lh ac dn fi ((tu_lev lv p3) + (1 : Int32)) p1 p2 nxt)))] H := hP
      have hD : va_D A [(q, .inr (1, [.ref wd, .ref us, .ref la, .ref nx])), (us, .inl (cU, 4, .inr (.inr (.inr (.inr g))))), (u, .inr (0, [.int fr, .int fo, .int lw, .int lh, .int lv, .int ac, .int dn, .int fi, .ref bc, .ref st])), (wd, .inl (cI, 2048, .inl mem)), (st, .inl (cI, 12, .inl sf)), (bc, .inl (cI, 4, .inl bd)), (la, .inl (cI, 4, .inl (upd (upd (upd (tu_smp4 mem sf bd fr fo lw lh ac dn fi (tu_lev lv p3) p1 p2 lat) 0 (tu_mix ((tu_smp4 mem sf bd fr fo lw lh ac dn fi (tu_lev lv p3) p1 p2 lat) 0) ((tu_smp4 mem sf bd fr fo lw lh ac dn fi ((tu_lev lv p3) + (1 : Int32)) p1 p2 nxt) 0) ((tu_lod lv p3) &&& (65535 : Int32)))) 1 (tu_mix ((tu_smp4 mem sf bd fr fo lw lh ac dn fi (tu_lev lv p3) p1 p2 lat) 1) ((tu_smp4 mem sf bd fr fo lw lh ac dn fi ((tu_lev lv p3) + (1 : Int32)) p1 p2 nxt) 1) ((tu_lod lv p3) &&& (65535 : Int32)))) 2 (tu_mix ((tu_smp4 mem sf bd fr fo lw lh ac dn fi (tu_lev lv p3) p1 p2 lat) 2) ((tu_smp4 mem sf bd fr fo lw lh ac dn fi ((tu_lev lv p3) + (1 : Int32)) p1 p2 nxt) 2) ((tu_lod lv p3) &&& (65535 : Int32)))))), (nx, .inl (cI, 4, .inl (tu_smp4 mem sf bd fr fo lw lh ac dn fi ((tu_lev lv p3) + (1 : Int32)) p1 p2 nxt)))] := hD
      refine lv_iinc (v := 3) (lv' := [(9, .int 3), (8, .int 1), (7, .int (tu_lev lv p3)), (6, .int (tu_lod lv p3)), (5, .ref u), (0, .ref q), (1, .int p0), (2, .int p1), (3, .int p2), (4, .int p3)]) hx hb dX1_read_142 hl (k := 0) rfl (by decide) (by decide) rfl (fun ls hl => ?_)
      refine lv_goto (tgt := 107) hx hb dX1_read_145 (by decide) ?_
      refine lv_iload hx hb dX1_read_107 (lv_at hl 0 rfl) ?_
      refine lv_iconst (v := 4) hx hb dX1_read_109 (by decide) ?_
      refine lv_icmp_ge (tgt := 148) hx hb dX1_read_110 (by decide) (fun c_14 => absurd c_14 (by decide)) (fun c_14 => ?_)
      refine lv_aload_n hx hb dX1_read_113 rfl (lv_at hl 5 rfl) ?_
      refine va_get (D := (dC, dI)) (ci := 1) (v := .ref la) (C := "TextureUnits") (T := TX1) (N := 4) hx hb hts (tw_s inX1) hown hK hP 0 rfl rfl 2 (by decide) (hts _ (tw_c tw_75)) (fun _ h9 => h9) rfl dX1_read_114 ?_
      refine lv_iload hx hb dX1_read_117 (lv_at hl 0 rfl) ?_
      refine lv_aload_n hx hb dX1_read_119 rfl (lv_at hl 5 rfl) ?_
      refine va_get (D := (dC, dI)) (ci := 1) (v := .ref la) (C := "TextureUnits") (T := TX1) (N := 4) hx hb hts (tw_s inX1) hown hK hP 0 rfl rfl 2 (by decide) (hts _ (tw_c tw_75)) (fun _ h9 => h9) rfl dX1_read_120 ?_
      refine lv_iload hx hb dX1_read_123 (lv_at hl 0 rfl) ?_
      refine va_iald hx hb hK hP 6 1 rfl rfl (tu_in (by decide)) dX1_read_125 ?_
      refine lv_topi (fun x_15 ex_15 => ?_)
      have ex_15 : x_15 = ((tu_smp4 mem sf bd fr fo lw lh ac dn fi (tu_lev lv p3) p1 p2 lat) 3) := (((ex_15).trans (pk_un (by decide))).trans (pk_un (by decide))).trans (pk_un (by decide))
      subst ex_15
      refine lv_aload_n hx hb dX1_read_126 rfl (lv_at hl 5 rfl) ?_
      refine va_get (D := (dC, dI)) (ci := 1) (v := .ref nx) (C := "TextureUnits") (T := TX1) (N := 4) hx hb hts (tw_s inX1) hown hK hP 0 rfl rfl 3 (by decide) (hts _ (tw_c tw_76)) (fun _ h9 => h9) rfl dX1_read_127 ?_
      refine lv_iload hx hb dX1_read_130 (lv_at hl 0 rfl) ?_
      refine va_iald hx hb hK hP 7 1 rfl rfl (tu_in (by decide)) dX1_read_132 ?_
      refine lv_topi (fun x_16 ex_16 => ?_)
      have ex_16 : x_16 = ((tu_smp4 mem sf bd fr fo lw lh ac dn fi ((tu_lev lv p3) + (1 : Int32)) p1 p2 nxt) 3) := ex_16
      subst ex_16
      refine lv_iload hx hb dX1_read_133 (lv_at hl 3 rfl) ?_
      refine lv_ldc (v := 65535) hx hb hown (hts _ (tw_c tw_319)) dX1_read_135 ?_
      refine lv_iand hx hb dX1_read_137 ?_
      refine rd_call (W.runS (As := [.int ((tu_smp4 mem sf bd fr fo lw lh ac dn fi (tu_lev lv p3) p1 p2 lat) 3), .int ((tu_smp4 mem sf bd fr fo lw lh ac dn fi ((tu_lev lv p3) + (1 : Int32)) p1 p2 nxt) 3), .int ((tu_lod lv p3) &&& (65535 : Int32))]) (rest := [.int 3, .ref la]) ⟨hx, hb, hml, hown, hts⟩ (r_mix l ((tu_smp4 mem sf bd fr fo lw lh ac dn fi (tu_lev lv p3) p1 p2 lat) 3) ((tu_smp4 mem sf bd fr fo lw lh ac dn fi ((tu_lev lv p3) + (1 : Int32)) p1 p2 nxt) 3) ((tu_lod lv p3) &&& (65535 : Int32))) (va_cwS 3 hts (tg_S tw_312 tw_313 tw_1 tw_314) rfl rfl rfl (by decide +kernel) ⟨Nat.le_of_ble_eq_true rfl, Nat.le_of_ble_eq_true rfl⟩) preEq rfl rfl hl.1 rfl (lv_room (Nat.le_of_ble_eq_true rfl)) dX1_read_138 ⟨Nat.le_of_ble_eq_true rfl, Nat.le_of_ble_eq_true rfl⟩) ?_
      refine va_iast hx hb hK hP hD hS 6 1 rfl rfl (tu_in (by decide)) dX1_read_141 (fun H locs hP hD hS => ?_)
      have hP : va_P (dC, dI) vwCl [(q, .inr (1, [.ref wd, .ref us, .ref la, .ref nx])), (us, .inl (cU, 4, .inr (.inr (.inr (.inr g))))), (u, .inr (0, [.int fr, .int fo, .int lw, .int lh, .int lv, .int ac, .int dn, .int fi, .ref bc, .ref st])), (wd, .inl (cI, 2048, .inl mem)), (st, .inl (cI, 12, .inl sf)), (bc, .inl (cI, 4, .inl bd)), (la, .inl (cI, 4, .inl (upd (upd (upd (upd (tu_smp4 mem sf bd fr fo lw lh ac dn fi (tu_lev lv p3) p1 p2 lat) 0 (tu_mix ((tu_smp4 mem sf bd fr fo lw lh ac dn fi (tu_lev lv p3) p1 p2 lat) 0) ((tu_smp4 mem sf bd fr fo lw lh ac dn fi ((tu_lev lv p3) + (1 : Int32)) p1 p2 nxt) 0) ((tu_lod lv p3) &&& (65535 : Int32)))) 1 (tu_mix ((tu_smp4 mem sf bd fr fo lw lh ac dn fi (tu_lev lv p3) p1 p2 lat) 1) ((tu_smp4 mem sf bd fr fo lw lh ac dn fi ((tu_lev lv p3) + (1 : Int32)) p1 p2 nxt) 1) ((tu_lod lv p3) &&& (65535 : Int32)))) 2 (tu_mix ((tu_smp4 mem sf bd fr fo lw lh ac dn fi (tu_lev lv p3) p1 p2 lat) 2) ((tu_smp4 mem sf bd fr fo lw lh ac dn fi ((tu_lev lv p3) + (1 : Int32)) p1 p2 nxt) 2) ((tu_lod lv p3) &&& (65535 : Int32)))) 3 (tu_mix ((tu_smp4 mem sf bd fr fo lw lh ac dn fi (tu_lev lv p3) p1 p2 lat) 3) ((tu_smp4 mem sf bd fr fo lw lh ac dn fi ((tu_lev lv p3) + (1 : Int32)) p1 p2 nxt) 3) ((tu_lod lv p3) &&& (65535 : Int32)))))), (nx, .inl (cI, 4, .inl (tu_smp4 mem sf bd fr fo lw lh ac dn fi ((tu_lev lv p3) + (1 : Int32)) p1 p2 nxt)))] H := hP
      have hD : va_D A [(q, .inr (1, [.ref wd, .ref us, .ref la, .ref nx])), (us, .inl (cU, 4, .inr (.inr (.inr (.inr g))))), (u, .inr (0, [.int fr, .int fo, .int lw, .int lh, .int lv, .int ac, .int dn, .int fi, .ref bc, .ref st])), (wd, .inl (cI, 2048, .inl mem)), (st, .inl (cI, 12, .inl sf)), (bc, .inl (cI, 4, .inl bd)), (la, .inl (cI, 4, .inl (upd (upd (upd (upd (tu_smp4 mem sf bd fr fo lw lh ac dn fi (tu_lev lv p3) p1 p2 lat) 0 (tu_mix ((tu_smp4 mem sf bd fr fo lw lh ac dn fi (tu_lev lv p3) p1 p2 lat) 0) ((tu_smp4 mem sf bd fr fo lw lh ac dn fi ((tu_lev lv p3) + (1 : Int32)) p1 p2 nxt) 0) ((tu_lod lv p3) &&& (65535 : Int32)))) 1 (tu_mix ((tu_smp4 mem sf bd fr fo lw lh ac dn fi (tu_lev lv p3) p1 p2 lat) 1) ((tu_smp4 mem sf bd fr fo lw lh ac dn fi ((tu_lev lv p3) + (1 : Int32)) p1 p2 nxt) 1) ((tu_lod lv p3) &&& (65535 : Int32)))) 2 (tu_mix ((tu_smp4 mem sf bd fr fo lw lh ac dn fi (tu_lev lv p3) p1 p2 lat) 2) ((tu_smp4 mem sf bd fr fo lw lh ac dn fi ((tu_lev lv p3) + (1 : Int32)) p1 p2 nxt) 2) ((tu_lod lv p3) &&& (65535 : Int32)))) 3 (tu_mix ((tu_smp4 mem sf bd fr fo lw lh ac dn fi (tu_lev lv p3) p1 p2 lat) 3) ((tu_smp4 mem sf bd fr fo lw lh ac dn fi ((tu_lev lv p3) + (1 : Int32)) p1 p2 nxt) 3) ((tu_lod lv p3) &&& (65535 : Int32)))))), (nx, .inl (cI, 4, .inl (tu_smp4 mem sf bd fr fo lw lh ac dn fi ((tu_lev lv p3) + (1 : Int32)) p1 p2 nxt)))] := hD
      refine lv_iinc (v := 4) (lv' := [(9, .int 4), (8, .int 1), (7, .int (tu_lev lv p3)), (6, .int (tu_lod lv p3)), (5, .ref u), (0, .ref q), (1, .int p0), (2, .int p1), (3, .int p2), (4, .int p3)]) hx hb dX1_read_142 hl (k := 0) rfl (by decide) (by decide) rfl (fun ls hl => ?_)
      refine lv_goto (tgt := 107) hx hb dX1_read_145 (by decide) ?_
      refine lv_iload hx hb dX1_read_107 (lv_at hl 0 rfl) ?_
      refine lv_iconst (v := 4) hx hb dX1_read_109 (by decide) ?_
      refine lv_icmp_ge (tgt := 148) hx hb dX1_read_110 (by decide) (fun c_17 => ?_) (fun c_17 => absurd (by decide) c_17)
      have hP : va_P (dC, dI) vwCl [(q, .inr (1, [.ref wd, .ref us, .ref la, .ref nx])), (us, .inl (cU, 4, .inr (.inr (.inr (.inr g))))), (u, .inr (0, [.int fr, .int fo, .int lw, .int lh, .int lv, .int ac, .int dn, .int fi, .ref bc, .ref st])), (wd, .inl (cI, 2048, .inl mem)), (st, .inl (cI, 12, .inl sf)), (bc, .inl (cI, 4, .inl bd)), (la, .inl (cI, 4, .inl (tu_rd mem sf bd fr fo lw lh lv ac dn fi p1 p2 p3 lat nxt))), (nx, .inl (cI, 4, .inl (tu_rn mem sf bd fr fo lw lh lv ac dn fi p1 p2 p3 nxt)))] H := by rw [tu_rd_a (Or.inl c_1) c_3, tu_rn_a (Or.inl c_1) c_3]; exact hP
      have hD : va_D A [(q, .inr (1, [.ref wd, .ref us, .ref la, .ref nx])), (us, .inl (cU, 4, .inr (.inr (.inr (.inr g))))), (u, .inr (0, [.int fr, .int fo, .int lw, .int lh, .int lv, .int ac, .int dn, .int fi, .ref bc, .ref st])), (wd, .inl (cI, 2048, .inl mem)), (st, .inl (cI, 12, .inl sf)), (bc, .inl (cI, 4, .inl bd)), (la, .inl (cI, 4, .inl (tu_rd mem sf bd fr fo lw lh lv ac dn fi p1 p2 p3 lat nxt))), (nx, .inl (cI, 4, .inl (tu_rn mem sf bd fr fo lw lh lv ac dn fi p1 p2 p3 nxt)))] := by rw [tu_rd_a (Or.inl c_1) c_3, tu_rn_a (Or.inl c_1) c_3]; exact hD
      refine lv_aload_n hx hb dX1_read_148 rfl (lv_at hl 5 rfl) ?_
      refine va_get (D := (dC, dI)) (ci := 1) (v := .ref la) (C := "TextureUnits") (T := TX1) (N := 4) hx hb hts (tw_s inX1) hown hK hP 0 rfl rfl 2 (by decide) (hts _ (tw_c tw_75)) (fun _ h9 => h9) rfl dX1_read_149 ?_
      refine lv_iconst (v := 0) hx hb dX1_read_152 (by decide) ?_
      refine va_iald hx hb hK hP 6 1 rfl rfl (tu_in (by decide)) dX1_read_153 ?_
      refine lv_topi (fun x_18 ex_18 => ?_)
      have ex_18 : x_18 = ((tu_rd mem sf bd fr fo lw lh lv ac dn fi p1 p2 p3 lat nxt) 0) := ex_18
      subst ex_18
      have hP9 : va_P (dC, dI) vwCl [(q, .inr (1, [.ref wd, .ref us, .ref la, .ref nx])), (us, .inl (cU, 4, .inr (.inr (.inr (.inr g))))), (u, .inr (0, [.int fr, .int fo, .int lw, .int lh, .int lv, .int ac, .int dn, .int fi, .ref bc, .ref st])), (wd, .inl (cI, 2048, .inl mem)), (st, .inl (cI, 12, .inl sf)), (bc, .inl (cI, 4, .inl bd)), (la, .inl (cI, 4, .inl (tu_rd mem sf bd fr fo lw lh lv ac dn fi p1 p2 p3 lat nxt))), (nx, .inl (cI, 4, .inl (tu_rn mem sf bd fr fo lw lh lv ac dn fi p1 p2 p3 nxt)))] H := hP.sub [0, 1, 2, 3, 4, 5, 6, 7] rfl
      have hD9 : va_D A [(q, .inr (1, [.ref wd, .ref us, .ref la, .ref nx])), (us, .inl (cU, 4, .inr (.inr (.inr (.inr g))))), (u, .inr (0, [.int fr, .int fo, .int lw, .int lh, .int lv, .int ac, .int dn, .int fi, .ref bc, .ref st])), (wd, .inl (cI, 2048, .inl mem)), (st, .inl (cI, 12, .inl sf)), (bc, .inl (cI, 4, .inl bd)), (la, .inl (cI, 4, .inl (tu_rd mem sf bd fr fo lw lh lv ac dn fi p1 p2 p3 lat nxt))), (nx, .inl (cI, 4, .inl (tu_rn mem sf bd fr fo lw lh lv ac dn fi p1 p2 p3 nxt)))] := hD.sub [0, 1, 2, 3, 4, 5, 6, 7] (by decide) rfl
      have hK9 : va_K (dC, dI) vwCl [(cU, .object "TextureUnits$Unit"), (cI, .int)] s := hK.sub [0, 1] rfl
      exact W.iret (v := ((tu_rd mem sf bd fr fo lw lh lv ac dn fi p1 p2 p3 lat nxt) 0)) hx hb hr (fun t ht hW => ⟨⟨((tu_rd mem sf bd fr fo lw lh lv ac dn fi p1 p2 p3 lat nxt) 0), (), rfl, rfl, by rw [ht]; exact hP9, va_K.moved hW.alike hK9, hD9⟩, hS.F ht⟩) hS.2.2 dX1_read_154
  · refine lv_aload hx hb dX1_read_55 (lv_at hl 2 rfl) ?_
    refine va_get (D := (dC, dI)) (ci := 0) (v := .int fi) (C := "TextureUnits$Unit") (T := TX0) (N := 10) hx hb hts (tw_s inX0) hown hK hP 2 rfl rfl 7 (by decide) (hts _ (tw_c tw_46)) (fun _ h9 => h9) rfl dX1_read_57 ?_
    refine lv_iconst (v := 3) hx hb dX1_read_60 (by decide) ?_
    refine lv_icmp_ne (tgt := 68) hx hb dX1_read_61 (by decide) (fun c_19 => ?_) (fun c_19 => ?_)
    · refine lv_iconst (v := 0) hx hb dX1_read_68 (by decide) ?_
      refine lv_istore (lv' := [(8, .int 0), (7, .int (tu_lev lv p3)), (6, .int (tu_lod lv p3)), (5, .ref u), (0, .ref q), (1, .int p0), (2, .int p1), (3, .int p2), (4, .int p3)]) hx hb dX1_read_69 hl (by decide) rfl (fun ls hl => ?_)
      refine lv_iload hx hb dX1_read_71 (lv_at hl 0 rfl) ?_
      refine lv_if_eq (tgt := 148) hx hb dX1_read_73 (by decide) (fun c_20 => ?_) (fun c_20 => absurd (by decide) c_20)
      rw [← tu_rd_c (la := lat) (nx := nxt) (l := p3) (lv := lv) c_1 c_19] at hP hD
      have hP : va_P (dC, dI) vwCl [(q, .inr (1, [.ref wd, .ref us, .ref la, .ref nx])), (us, .inl (cU, 4, .inr (.inr (.inr (.inr g))))), (u, .inr (0, [.int fr, .int fo, .int lw, .int lh, .int lv, .int ac, .int dn, .int fi, .ref bc, .ref st])), (wd, .inl (cI, 2048, .inl mem)), (st, .inl (cI, 12, .inl sf)), (bc, .inl (cI, 4, .inl bd)), (la, .inl (cI, 4, .inl (tu_rd mem sf bd fr fo lw lh lv ac dn fi p1 p2 p3 lat nxt))), (nx, .inl (cI, 4, .inl (tu_rn mem sf bd fr fo lw lh lv ac dn fi p1 p2 p3 nxt)))] H := by rw [tu_rn_c c_1 c_19]; exact hP
      have hD : va_D A [(q, .inr (1, [.ref wd, .ref us, .ref la, .ref nx])), (us, .inl (cU, 4, .inr (.inr (.inr (.inr g))))), (u, .inr (0, [.int fr, .int fo, .int lw, .int lh, .int lv, .int ac, .int dn, .int fi, .ref bc, .ref st])), (wd, .inl (cI, 2048, .inl mem)), (st, .inl (cI, 12, .inl sf)), (bc, .inl (cI, 4, .inl bd)), (la, .inl (cI, 4, .inl (tu_rd mem sf bd fr fo lw lh lv ac dn fi p1 p2 p3 lat nxt))), (nx, .inl (cI, 4, .inl (tu_rn mem sf bd fr fo lw lh lv ac dn fi p1 p2 p3 nxt)))] := by rw [tu_rn_c c_1 c_19]; exact hD
      refine lv_aload_n hx hb dX1_read_148 rfl (lv_at hl 4 rfl) ?_
      refine va_get (D := (dC, dI)) (ci := 1) (v := .ref la) (C := "TextureUnits") (T := TX1) (N := 4) hx hb hts (tw_s inX1) hown hK hP 0 rfl rfl 2 (by decide) (hts _ (tw_c tw_75)) (fun _ h9 => h9) rfl dX1_read_149 ?_
      refine lv_iconst (v := 0) hx hb dX1_read_152 (by decide) ?_
      refine va_iald hx hb hK hP 6 1 rfl rfl (tu_in (by decide)) dX1_read_153 ?_
      refine lv_topi (fun x_21 ex_21 => ?_)
      have ex_21 : x_21 = ((tu_rd mem sf bd fr fo lw lh lv ac dn fi p1 p2 p3 lat nxt) 0) := ex_21
      subst ex_21
      have hP9 : va_P (dC, dI) vwCl [(q, .inr (1, [.ref wd, .ref us, .ref la, .ref nx])), (us, .inl (cU, 4, .inr (.inr (.inr (.inr g))))), (u, .inr (0, [.int fr, .int fo, .int lw, .int lh, .int lv, .int ac, .int dn, .int fi, .ref bc, .ref st])), (wd, .inl (cI, 2048, .inl mem)), (st, .inl (cI, 12, .inl sf)), (bc, .inl (cI, 4, .inl bd)), (la, .inl (cI, 4, .inl (tu_rd mem sf bd fr fo lw lh lv ac dn fi p1 p2 p3 lat nxt))), (nx, .inl (cI, 4, .inl (tu_rn mem sf bd fr fo lw lh lv ac dn fi p1 p2 p3 nxt)))] H := hP.sub [0, 1, 2, 3, 4, 5, 6, 7] rfl
      have hD9 : va_D A [(q, .inr (1, [.ref wd, .ref us, .ref la, .ref nx])), (us, .inl (cU, 4, .inr (.inr (.inr (.inr g))))), (u, .inr (0, [.int fr, .int fo, .int lw, .int lh, .int lv, .int ac, .int dn, .int fi, .ref bc, .ref st])), (wd, .inl (cI, 2048, .inl mem)), (st, .inl (cI, 12, .inl sf)), (bc, .inl (cI, 4, .inl bd)), (la, .inl (cI, 4, .inl (tu_rd mem sf bd fr fo lw lh lv ac dn fi p1 p2 p3 lat nxt))), (nx, .inl (cI, 4, .inl (tu_rn mem sf bd fr fo lw lh lv ac dn fi p1 p2 p3 nxt)))] := hD.sub [0, 1, 2, 3, 4, 5, 6, 7] (by decide) rfl
      have hK9 : va_K (dC, dI) vwCl [(cU, .object "TextureUnits$Unit"), (cI, .int)] s := hK.sub [0, 1] rfl
      exact W.iret (v := ((tu_rd mem sf bd fr fo lw lh lv ac dn fi p1 p2 p3 lat nxt) 0)) hx hb hr (fun t ht hW => ⟨⟨((tu_rd mem sf bd fr fo lw lh lv ac dn fi p1 p2 p3 lat nxt) 0), (), rfl, rfl, by rw [ht]; exact hP9, va_K.moved hW.alike hK9, hD9⟩, hS.F ht⟩) hS.2.2 dX1_read_154
    · refine lv_iconst (v := 1) hx hb dX1_read_64 (by decide) ?_
      refine lv_goto (tgt := 69) hx hb dX1_read_65 (by decide) ?_
      refine lv_istore (lv' := [(8, .int 1), (7, .int (tu_lev lv p3)), (6, .int (tu_lod lv p3)), (5, .ref u), (0, .ref q), (1, .int p0), (2, .int p1), (3, .int p2), (4, .int p3)]) hx hb dX1_read_69 hl (by decide) rfl (fun ls hl => ?_)
      refine lv_iload hx hb dX1_read_71 (lv_at hl 0 rfl) ?_
      refine lv_if_eq (tgt := 148) hx hb dX1_read_73 (by decide) (fun c_22 => absurd c_22 (by decide)) (fun c_22 => ?_)
      refine lv_iload hx hb dX1_read_76 (lv_at hl 1 rfl) ?_
      refine lv_iconst (v := 1) hx hb dX1_read_78 (by decide) ?_
      refine lv_iadd hx hb dX1_read_79 ?_
      refine lv_aload hx hb dX1_read_80 (lv_at hl 3 rfl) ?_
      refine va_get (D := (dC, dI)) (ci := 0) (v := .int lv) (C := "TextureUnits$Unit") (T := TX0) (N := 10) hx hb hts (tw_s inX0) hown hK hP 2 rfl rfl 4 (by decide) (hts _ (tw_c tw_43)) (fun _ h9 => h9) rfl dX1_read_82 ?_
      refine lv_icmp_ge (tgt := 148) hx hb dX1_read_85 (by decide) (fun c_23 => ?_) (fun c_23 => ?_)
      · have hP : va_P (dC, dI) vwCl [(q, .inr (1, [.ref wd, .ref us, .ref la, .ref nx])), (us, .inl (cU, 4, .inr (.inr (.inr (.inr g))))), (u, .inr (0, [.int fr, .int fo, .int lw, .int lh, .int lv, .int ac, .int dn, .int fi, .ref bc, .ref st])), (wd, .inl (cI, 2048, .inl mem)), (st, .inl (cI, 12, .inl sf)), (bc, .inl (cI, 4, .inl bd)), (la, .inl (cI, 4, .inl (tu_rd mem sf bd fr fo lw lh lv ac dn fi p1 p2 p3 lat nxt))), (nx, .inl (cI, 4, .inl (tu_rn mem sf bd fr fo lw lh lv ac dn fi p1 p2 p3 nxt)))] H := by rw [tu_rd_b (Or.inr c_19) c_23, tu_rn_b (Or.inr c_19) c_23]; exact hP
        have hD : va_D A [(q, .inr (1, [.ref wd, .ref us, .ref la, .ref nx])), (us, .inl (cU, 4, .inr (.inr (.inr (.inr g))))), (u, .inr (0, [.int fr, .int fo, .int lw, .int lh, .int lv, .int ac, .int dn, .int fi, .ref bc, .ref st])), (wd, .inl (cI, 2048, .inl mem)), (st, .inl (cI, 12, .inl sf)), (bc, .inl (cI, 4, .inl bd)), (la, .inl (cI, 4, .inl (tu_rd mem sf bd fr fo lw lh lv ac dn fi p1 p2 p3 lat nxt))), (nx, .inl (cI, 4, .inl (tu_rn mem sf bd fr fo lw lh lv ac dn fi p1 p2 p3 nxt)))] := by rw [tu_rd_b (Or.inr c_19) c_23, tu_rn_b (Or.inr c_19) c_23]; exact hD
        refine lv_aload_n hx hb dX1_read_148 rfl (lv_at hl 4 rfl) ?_
        refine va_get (D := (dC, dI)) (ci := 1) (v := .ref la) (C := "TextureUnits") (T := TX1) (N := 4) hx hb hts (tw_s inX1) hown hK hP 0 rfl rfl 2 (by decide) (hts _ (tw_c tw_75)) (fun _ h9 => h9) rfl dX1_read_149 ?_
        refine lv_iconst (v := 0) hx hb dX1_read_152 (by decide) ?_
        refine va_iald hx hb hK hP 6 1 rfl rfl (tu_in (by decide)) dX1_read_153 ?_
        refine lv_topi (fun x_24 ex_24 => ?_)
        have ex_24 : x_24 = ((tu_rd mem sf bd fr fo lw lh lv ac dn fi p1 p2 p3 lat nxt) 0) := ex_24
        subst ex_24
        have hP9 : va_P (dC, dI) vwCl [(q, .inr (1, [.ref wd, .ref us, .ref la, .ref nx])), (us, .inl (cU, 4, .inr (.inr (.inr (.inr g))))), (u, .inr (0, [.int fr, .int fo, .int lw, .int lh, .int lv, .int ac, .int dn, .int fi, .ref bc, .ref st])), (wd, .inl (cI, 2048, .inl mem)), (st, .inl (cI, 12, .inl sf)), (bc, .inl (cI, 4, .inl bd)), (la, .inl (cI, 4, .inl (tu_rd mem sf bd fr fo lw lh lv ac dn fi p1 p2 p3 lat nxt))), (nx, .inl (cI, 4, .inl (tu_rn mem sf bd fr fo lw lh lv ac dn fi p1 p2 p3 nxt)))] H := hP.sub [0, 1, 2, 3, 4, 5, 6, 7] rfl
        have hD9 : va_D A [(q, .inr (1, [.ref wd, .ref us, .ref la, .ref nx])), (us, .inl (cU, 4, .inr (.inr (.inr (.inr g))))), (u, .inr (0, [.int fr, .int fo, .int lw, .int lh, .int lv, .int ac, .int dn, .int fi, .ref bc, .ref st])), (wd, .inl (cI, 2048, .inl mem)), (st, .inl (cI, 12, .inl sf)), (bc, .inl (cI, 4, .inl bd)), (la, .inl (cI, 4, .inl (tu_rd mem sf bd fr fo lw lh lv ac dn fi p1 p2 p3 lat nxt))), (nx, .inl (cI, 4, .inl (tu_rn mem sf bd fr fo lw lh lv ac dn fi p1 p2 p3 nxt)))] := hD.sub [0, 1, 2, 3, 4, 5, 6, 7] (by decide) rfl
        have hK9 : va_K (dC, dI) vwCl [(cU, .object "TextureUnits$Unit"), (cI, .int)] s := hK.sub [0, 1] rfl
        exact W.iret (v := ((tu_rd mem sf bd fr fo lw lh lv ac dn fi p1 p2 p3 lat nxt) 0)) hx hb hr (fun t ht hW => ⟨⟨((tu_rd mem sf bd fr fo lw lh lv ac dn fi p1 p2 p3 lat nxt) 0), (), rfl, rfl, by rw [ht]; exact hP9, va_K.moved hW.alike hK9, hD9⟩, hS.F ht⟩) hS.2.2 dX1_read_154
      · refine lv_aload_n hx hb dX1_read_88 rfl (lv_at hl 4 rfl) ?_
        refine lv_aload hx hb dX1_read_89 (lv_at hl 3 rfl) ?_
        refine lv_iload hx hb dX1_read_91 (lv_at hl 1 rfl) ?_
        refine lv_iconst (v := 1) hx hb dX1_read_93 (by decide) ?_
        refine lv_iadd hx hb dX1_read_94 ?_
        refine lv_iload_n hx hb dX1_read_95 rfl (lv_at hl 6 rfl) ?_
        refine lv_iload_n hx hb dX1_read_96 rfl (lv_at hl 7 rfl) ?_
        refine lv_aload_n hx hb dX1_read_97 rfl (lv_at hl 4 rfl) ?_
        refine va_get (D := (dC, dI)) (ci := 1) (v := .ref nx) (C := "TextureUnits") (T := TX1) (N := 4) hx hb hts (tw_s inX1) hown hK hP 0 rfl rfl 3 (by decide) (hts _ (tw_c tw_76)) (fun _ h9 => h9) rfl dX1_read_98 ?_
        have hPc := hP.sub (ws' := [(q, .inr (1, [.ref wd, .ref us, .ref la, .ref nx])), (u, .inr (0, [.int fr, .int fo, .int lw, .int lh, .int lv, .int ac, .int dn, .int fi, .ref bc, .ref st])), (wd, .inl (cI, 2048, .inl mem)), (st, .inl (cI, 12, .inl sf)), (bc, .inl (cI, 4, .inl bd)), (nx, .inl (cI, 4, .inl nxt))]) [0, 2, 3, 4, 5, 7] rfl
        have hDc := hD.sub (ws' := [(q, .inr (1, [.ref wd, .ref us, .ref la, .ref nx])), (u, .inr (0, [.int fr, .int fo, .int lw, .int lh, .int lv, .int ac, .int dn, .int fi, .ref bc, .ref st])), (wd, .inl (cI, 2048, .inl mem)), (st, .inl (cI, 12, .inl sf)), (bc, .inl (cI, 4, .inl bd)), (nx, .inl (cI, 4, .inl nxt))]) [0, 2, 3, 4, 5, 7] (by decide) rfl
        have hFc := va_free (wc := [(q, .inr (1, [.ref wd, .ref us, .ref la, .ref nx])), (u, .inr (0, [.int fr, .int fo, .int lw, .int lh, .int lv, .int ac, .int dn, .int fi, .ref bc, .ref st])), (wd, .inl (cI, 2048, .inl mem)), (st, .inl (cI, 12, .inl sf)), (bc, .inl (cI, 4, .inl bd)), (nx, .inl (cI, 4, .inl nxt))]) hD hS hA [0, 2, 3, 4, 5, 7] rfl
        refine va_callv (va_runV (As := [.ref u, .int ((tu_lev lv p3) + (1 : Int32)), .int p1, .int p2, .ref nx]) (rest := []) ⟨hx, hb, hml, hown, hts⟩ (w_sample l dC dI q wd us la nx u fr fo lw lh lv ac dn fi bc st nx cI mem sf bd nxt tb ((tu_lev lv p3) + (1 : Int32)) p1 p2 H.size (h3 c_23) h1) (cwV 5 hts (tg_V tw_286 tw_288 tw_p4 tw_1 tw_289) rfl rfl rfl (by decide +kernel) ⟨Nat.le_of_ble_eq_true rfl, Nat.le_of_ble_eq_true rfl⟩) ⟨wt_blind, va_recv hK hP (ci := 1) (q0 := 0) rfl rfl, fun U hU hW => ⟨rfl, wt_use hPc (hK.sub [1] rfl) hDc hX hS hFc U hU hW⟩⟩ rfl rfl hl.1 rfl (lv_room (Nat.le_of_ble_eq_true rfl)) dX1_read_101 ⟨Nat.le_of_ble_eq_true rfl, Nat.le_of_ble_eq_true rfl⟩) hS (fun q _ h => hFc q h) hFc (fun u9 t9 H1 locs ht hvm hw hB hz1 hk1 hS => ?_)
        obtain ⟨hP1, hK1, hD1⟩ := hB
        rw [ht] at hP1
        obtain ⟨hP, hD⟩ := va_join (wr := [(us, .inl (cU, 4, .inr (.inr (.inr (.inr g))))), (la, .inl (cI, 4, .inl (tu_smp4 mem sf bd fr fo lw lh ac dn fi (tu_lev lv p3) p1 p2 lat)))]) (w1 := [(q, .inr (1, [.ref wd, .ref us, .ref la, .ref nx])), (u, .inr (0, [.int fr, .int fo, .int lw, .int lh, .int lv, .int ac, .int dn, .int fi, .ref bc, .ref st])), (wd, .inl (cI, 2048, .inl mem)), (st, .inl (cI, 12, .inl sf)), (bc, .inl (cI, 4, .inl bd)), (nx, .inl (cI, 4, .inl (tu_smp4 mem sf bd fr fo lw lh ac dn fi ((tu_lev lv p3) + (1 : Int32)) p1 p2 nxt)))]) hP hD [0, 2, 3, 4, 5, 7] [1, 6] rfl rfl (by decide) (by decide) hk1 hFc hP1 hD1
        have hP := hP.sub (ws' := [(q, .inr (1, [.ref wd, .ref us, .ref la, .ref nx])), (us, .inl (cU, 4, .inr (.inr (.inr (.inr g))))), (u, .inr (0, [.int fr, .int fo, .int lw, .int lh, .int lv, .int ac, .int dn, .int fi, .ref bc, .ref st])), (wd, .inl (cI, 2048, .inl mem)), (st, .inl (cI, 12, .inl sf)), (bc, .inl (cI, 4, .inl bd)), (la, .inl (cI, 4, .inl (tu_smp4 mem sf bd fr fo lw lh ac dn fi (tu_lev lv p3) p1 p2 lat))), (nx, .inl (cI, 4, .inl (tu_smp4 mem sf bd fr fo lw lh ac dn fi ((tu_lev lv p3) + (1 : Int32)) p1 p2 nxt)))]) [2, 0, 3, 4, 5, 6, 1, 7] rfl
        have hD := hD.sub (ws' := [(q, .inr (1, [.ref wd, .ref us, .ref la, .ref nx])), (us, .inl (cU, 4, .inr (.inr (.inr (.inr g))))), (u, .inr (0, [.int fr, .int fo, .int lw, .int lh, .int lv, .int ac, .int dn, .int fi, .ref bc, .ref st])), (wd, .inl (cI, 2048, .inl mem)), (st, .inl (cI, 12, .inl sf)), (bc, .inl (cI, 4, .inl bd)), (la, .inl (cI, 4, .inl (tu_smp4 mem sf bd fr fo lw lh ac dn fi (tu_lev lv p3) p1 p2 lat))), (nx, .inl (cI, 4, .inl (tu_smp4 mem sf bd fr fo lw lh ac dn fi ((tu_lev lv p3) + (1 : Int32)) p1 p2 nxt)))]) [2, 0, 3, 4, 5, 6, 1, 7] (by decide) rfl
        clear hPc hDc hFc hP1 hK1 hD1 hk1 hz1
        generalize H1 = H at hP hS ⊢
        refine lv_iconst (v := 0) hx hb dX1_read_104 (by decide) ?_
        refine lv_istore (lv' := [(9, .int 0), (8, .int 1), (7, .int (tu_lev lv p3)), (6, .int (tu_lod lv p3)), (5, .ref u), (0, .ref q), (1, .int p0), (2, .int p1), (3, .int p2), (4, .int p3)]) hx hb dX1_read_105 hl (by decide) rfl (fun ls hl => ?_)
        refine lv_iload hx hb dX1_read_107 (lv_at hl 0 rfl) ?_
        refine lv_iconst (v := 4) hx hb dX1_read_109 (by decide) ?_
        refine lv_icmp_ge (tgt := 148) hx hb dX1_read_110 (by decide) (fun c_25 => absurd c_25 (by decide)) (fun c_25 => ?_)
        refine lv_aload_n hx hb dX1_read_113 rfl (lv_at hl 5 rfl) ?_
        refine va_get (D := (dC, dI)) (ci := 1) (v := .ref la) (C := "TextureUnits") (T := TX1) (N := 4) hx hb hts (tw_s inX1) hown hK hP 0 rfl rfl 2 (by decide) (hts _ (tw_c tw_75)) (fun _ h9 => h9) rfl dX1_read_114 ?_
        refine lv_iload hx hb dX1_read_117 (lv_at hl 0 rfl) ?_
        refine lv_aload_n hx hb dX1_read_119 rfl (lv_at hl 5 rfl) ?_
        refine va_get (D := (dC, dI)) (ci := 1) (v := .ref la) (C := "TextureUnits") (T := TX1) (N := 4) hx hb hts (tw_s inX1) hown hK hP 0 rfl rfl 2 (by decide) (hts _ (tw_c tw_75)) (fun _ h9 => h9) rfl dX1_read_120 ?_
        refine lv_iload hx hb dX1_read_123 (lv_at hl 0 rfl) ?_
        refine va_iald hx hb hK hP 6 1 rfl rfl (tu_in (by decide)) dX1_read_125 ?_
        refine lv_topi (fun x_26 ex_26 => ?_)
        have ex_26 : x_26 = ((tu_smp4 mem sf bd fr fo lw lh ac dn fi (tu_lev lv p3) p1 p2 lat) 0) := ex_26
        subst ex_26
        refine lv_aload_n hx hb dX1_read_126 rfl (lv_at hl 5 rfl) ?_
        refine va_get (D := (dC, dI)) (ci := 1) (v := .ref nx) (C := "TextureUnits") (T := TX1) (N := 4) hx hb hts (tw_s inX1) hown hK hP 0 rfl rfl 3 (by decide) (hts _ (tw_c tw_76)) (fun _ h9 => h9) rfl dX1_read_127 ?_
        refine lv_iload hx hb dX1_read_130 (lv_at hl 0 rfl) ?_
        refine va_iald hx hb hK hP 7 1 rfl rfl (tu_in (by decide)) dX1_read_132 ?_
        refine lv_topi (fun x_27 ex_27 => ?_)
        have ex_27 : x_27 = ((tu_smp4 mem sf bd fr fo lw lh ac dn fi ((tu_lev lv p3) + (1 : Int32)) p1 p2 nxt) 0) := ex_27
        subst ex_27
        refine lv_iload hx hb dX1_read_133 (lv_at hl 3 rfl) ?_
        refine lv_ldc (v := 65535) hx hb hown (hts _ (tw_c tw_319)) dX1_read_135 ?_
        refine lv_iand hx hb dX1_read_137 ?_
        refine rd_call (W.runS (As := [.int ((tu_smp4 mem sf bd fr fo lw lh ac dn fi (tu_lev lv p3) p1 p2 lat) 0), .int ((tu_smp4 mem sf bd fr fo lw lh ac dn fi ((tu_lev lv p3) + (1 : Int32)) p1 p2 nxt) 0), .int ((tu_lod lv p3) &&& (65535 : Int32))]) (rest := [.int 0, .ref la]) ⟨hx, hb, hml, hown, hts⟩ (r_mix l ((tu_smp4 mem sf bd fr fo lw lh ac dn fi (tu_lev lv p3) p1 p2 lat) 0) ((tu_smp4 mem sf bd fr fo lw lh ac dn fi ((tu_lev lv p3) + (1 : Int32)) p1 p2 nxt) 0) ((tu_lod lv p3) &&& (65535 : Int32))) (va_cwS 3 hts (tg_S tw_312 tw_313 tw_1 tw_314) rfl rfl rfl (by decide +kernel) ⟨Nat.le_of_ble_eq_true rfl, Nat.le_of_ble_eq_true rfl⟩) preEq rfl rfl hl.1 rfl (lv_room (Nat.le_of_ble_eq_true rfl)) dX1_read_138 ⟨Nat.le_of_ble_eq_true rfl, Nat.le_of_ble_eq_true rfl⟩) ?_
        refine va_iast hx hb hK hP hD hS 6 1 rfl rfl (tu_in (by decide)) dX1_read_141 (fun H locs hP hD hS => ?_)
        have hP : va_P (dC, dI) vwCl [(q, .inr (1, [.ref wd, .ref us, .ref la, .ref nx])), (us, .inl (cU, 4, .inr (.inr (.inr (.inr g))))), (u, .inr (0, [.int fr, .int fo, .int lw, .int lh, .int lv, .int ac, .int dn, .int fi, .ref bc, .ref st])), (wd, .inl (cI, 2048, .inl mem)), (st, .inl (cI, 12, .inl sf)), (bc, .inl (cI, 4, .inl bd)), (la, .inl (cI, 4, .inl (upd (tu_smp4 mem sf bd fr fo lw lh ac dn fi (tu_lev lv p3) p1 p2 lat) 0 (tu_mix ((tu_smp4 mem sf bd fr fo lw lh ac dn fi (tu_lev lv p3) p1 p2 lat) 0) ((tu_smp4 mem sf bd fr fo lw lh ac dn fi ((tu_lev lv p3) + (1 : Int32)) p1 p2 nxt) 0) ((tu_lod lv p3) &&& (65535 : Int32)))))), (nx, .inl (cI, 4, .inl (tu_smp4 mem sf bd fr fo lw lh ac dn fi ((tu_lev lv p3) + (1 : Int32)) p1 p2 nxt)))] H := hP
        have hD : va_D A [(q, .inr (1, [.ref wd, .ref us, .ref la, .ref nx])), (us, .inl (cU, 4, .inr (.inr (.inr (.inr g))))), (u, .inr (0, [.int fr, .int fo, .int lw, .int lh, .int lv, .int ac, .int dn, .int fi, .ref bc, .ref st])), (wd, .inl (cI, 2048, .inl mem)), (st, .inl (cI, 12, .inl sf)), (bc, .inl (cI, 4, .inl bd)), (la, .inl (cI, 4, .inl (upd (tu_smp4 mem sf bd fr fo lw lh ac dn fi (tu_lev lv p3) p1 p2 lat) 0 (tu_mix ((tu_smp4 mem sf bd fr fo lw lh ac dn fi (tu_lev lv p3) p1 p2 lat) 0) ((tu_smp4 mem sf bd fr fo lw lh ac dn fi ((tu_lev lv p3) + (1 : Int32)) p1 p2 nxt) 0) ((tu_lod lv p3) &&& (65535 : Int32)))))), (nx, .inl (cI, 4, .inl (tu_smp4 mem sf bd fr fo lw lh ac dn fi ((tu_lev lv p3) + (1 : Int32)) p1 p2 nxt)))] := hD
        refine lv_iinc (v := 1) (lv' := [(9, .int 1), (8, .int 1), (7, .int (tu_lev lv p3)), (6, .int (tu_lod lv p3)), (5, .ref u), (0, .ref q), (1, .int p0), (2, .int p1), (3, .int p2), (4, .int p3)]) hx hb dX1_read_142 hl (k := 0) rfl (by decide) (by decide) rfl (fun ls hl => ?_)
        refine lv_goto (tgt := 107) hx hb dX1_read_145 (by decide) ?_
        refine lv_iload hx hb dX1_read_107 (lv_at hl 0 rfl) ?_
        refine lv_iconst (v := 4) hx hb dX1_read_109 (by decide) ?_
        refine lv_icmp_ge (tgt := 148) hx hb dX1_read_110 (by decide) (fun c_28 => absurd c_28 (by decide)) (fun c_28 => ?_)
        refine lv_aload_n hx hb dX1_read_113 rfl (lv_at hl 5 rfl) ?_
        refine va_get (D := (dC, dI)) (ci := 1) (v := .ref la) (C := "TextureUnits") (T := TX1) (N := 4) hx hb hts (tw_s inX1) hown hK hP 0 rfl rfl 2 (by decide) (hts _ (tw_c tw_75)) (fun _ h9 => h9) rfl dX1_read_114 ?_
        refine lv_iload hx hb dX1_read_117 (lv_at hl 0 rfl) ?_
        refine lv_aload_n hx hb dX1_read_119 rfl (lv_at hl 5 rfl) ?_
        refine va_get (D := (dC, dI)) (ci := 1) (v := .ref la) (C := "TextureUnits") (T := TX1) (N := 4) hx hb hts (tw_s inX1) hown hK hP 0 rfl rfl 2 (by decide) (hts _ (tw_c tw_75)) (fun _ h9 => h9) rfl dX1_read_120 ?_
        refine lv_iload hx hb dX1_read_123 (lv_at hl 0 rfl) ?_
        refine va_iald hx hb hK hP 6 1 rfl rfl (tu_in (by decide)) dX1_read_125 ?_
        refine lv_topi (fun x_29 ex_29 => ?_)
        have ex_29 : x_29 = ((tu_smp4 mem sf bd fr fo lw lh ac dn fi (tu_lev lv p3) p1 p2 lat) 1) := (ex_29).trans (pk_un (by decide))
        subst ex_29
        refine lv_aload_n hx hb dX1_read_126 rfl (lv_at hl 5 rfl) ?_
        refine va_get (D := (dC, dI)) (ci := 1) (v := .ref nx) (C := "TextureUnits") (T := TX1) (N := 4) hx hb hts (tw_s inX1) hown hK hP 0 rfl rfl 3 (by decide) (hts _ (tw_c tw_76)) (fun _ h9 => h9) rfl dX1_read_127 ?_
        refine lv_iload hx hb dX1_read_130 (lv_at hl 0 rfl) ?_
        refine va_iald hx hb hK hP 7 1 rfl rfl (tu_in (by decide)) dX1_read_132 ?_
        refine lv_topi (fun x_30 ex_30 => ?_)
        have ex_30 : x_30 = ((tu_smp4 mem sf bd fr fo lw lh ac dn fi ((tu_lev lv p3) + (1 : Int32)) p1 p2 nxt) 1) := ex_30
        subst ex_30
        refine lv_iload hx hb dX1_read_133 (lv_at hl 3 rfl) ?_
        refine lv_ldc (v := 65535) hx hb hown (hts _ (tw_c tw_319)) dX1_read_135 ?_
        refine lv_iand hx hb dX1_read_137 ?_
        refine rd_call (W.runS (As := [.int ((tu_smp4 mem sf bd fr fo lw lh ac dn fi (tu_lev lv p3) p1 p2 lat) 1), .int ((tu_smp4 mem sf bd fr fo lw lh ac dn fi ((tu_lev lv p3) + (1 : Int32)) p1 p2 nxt) 1), .int ((tu_lod lv p3) &&& (65535 : Int32))]) (rest := [.int 1, .ref la]) ⟨hx, hb, hml, hown, hts⟩ (r_mix l ((tu_smp4 mem sf bd fr fo lw lh ac dn fi (tu_lev lv p3) p1 p2 lat) 1) ((tu_smp4 mem sf bd fr fo lw lh ac dn fi ((tu_lev lv p3) + (1 : Int32)) p1 p2 nxt) 1) ((tu_lod lv p3) &&& (65535 : Int32))) (va_cwS 3 hts (tg_S tw_312 tw_313 tw_1 tw_314) rfl rfl rfl (by decide +kernel) ⟨Nat.le_of_ble_eq_true rfl, Nat.le_of_ble_eq_true rfl⟩) preEq rfl rfl hl.1 rfl (lv_room (Nat.le_of_ble_eq_true rfl)) dX1_read_138 ⟨Nat.le_of_ble_eq_true rfl, Nat.le_of_ble_eq_true rfl⟩) ?_
        refine va_iast hx hb hK hP hD hS 6 1 rfl rfl (tu_in (by decide)) dX1_read_141 (fun H locs hP hD hS => ?_)
        have hP : va_P (dC, dI) vwCl [(q, .inr (1, [.ref wd, .ref us, .ref la, .ref nx])), (us, .inl (cU, 4, .inr (.inr (.inr (.inr g))))), (u, .inr (0, [.int fr, .int fo, .int lw, .int lh, .int lv, .int ac, .int dn, .int fi, .ref bc, .ref st])), (wd, .inl (cI, 2048, .inl mem)), (st, .inl (cI, 12, .inl sf)), (bc, .inl (cI, 4, .inl bd)), (la, .inl (cI, 4, .inl (upd (upd (tu_smp4 mem sf bd fr fo lw lh ac dn fi (tu_lev lv p3) p1 p2 lat) 0 (tu_mix ((tu_smp4 mem sf bd fr fo lw lh ac dn fi (tu_lev lv p3) p1 p2 lat) 0) ((tu_smp4 mem sf bd fr fo lw lh ac dn fi ((tu_lev lv p3) + (1 : Int32)) p1 p2 nxt) 0) ((tu_lod lv p3) &&& (65535 : Int32)))) 1 (tu_mix ((tu_smp4 mem sf bd fr fo lw lh ac dn fi (tu_lev lv p3) p1 p2 lat) 1) ((tu_smp4 mem sf bd fr fo lw lh ac dn fi ((tu_lev lv p3) + (1 : Int32)) p1 p2 nxt) 1) ((tu_lod lv p3) &&& (65535 : Int32)))))), (nx, .inl (cI, 4, .inl (tu_smp4 mem sf bd fr fo lw lh ac dn fi ((tu_lev lv p3) + (1 : Int32)) p1 p2 nxt)))] H := hP
        have hD : va_D A [(q, .inr (1, [.ref wd, .ref us, .ref la, .ref nx])), (us, .inl (cU, 4, .inr (.inr (.inr (.inr g))))), (u, .inr (0, [.int fr, .int fo, .int lw, .int lh, .int lv, .int ac, .int dn, .int fi, .ref bc, .ref st])), (wd, .inl (cI, 2048, .inl mem)), (st, .inl (cI, 12, .inl sf)), (bc, .inl (cI, 4, .inl bd)), (la, .inl (cI, 4, .inl (upd (upd (tu_smp4 mem sf bd fr fo lw lh ac dn fi (tu_lev lv p3) p1 p2 lat) 0 (tu_mix ((tu_smp4 mem sf bd fr fo lw lh ac dn fi (tu_lev lv p3) p1 p2 lat) 0) ((tu_smp4 mem sf bd fr fo lw lh ac dn fi ((tu_lev lv p3) + (1 : Int32)) p1 p2 nxt) 0) ((tu_lod lv p3) &&& (65535 : Int32)))) 1 (tu_mix ((tu_smp4 mem sf bd fr fo lw lh ac dn fi (tu_lev lv p3) p1 p2 lat) 1) ((tu_smp4 mem sf bd fr fo lw lh ac dn fi ((tu_lev lv p3) + (1 : Int32)) p1 p2 nxt) 1) ((tu_lod lv p3) &&& (65535 : Int32)))))), (nx, .inl (cI, 4, .inl (tu_smp4 mem sf bd fr fo lw lh ac dn fi ((tu_lev lv p3) + (1 : Int32)) p1 p2 nxt)))] := hD
        refine lv_iinc (v := 2) (lv' := [(9, .int 2), (8, .int 1), (7, .int (tu_lev lv p3)), (6, .int (tu_lod lv p3)), (5, .ref u), (0, .ref q), (1, .int p0), (2, .int p1), (3, .int p2), (4, .int p3)]) hx hb dX1_read_142 hl (k := 0) rfl (by decide) (by decide) rfl (fun ls hl => ?_)
        refine lv_goto (tgt := 107) hx hb dX1_read_145 (by decide) ?_
        refine lv_iload hx hb dX1_read_107 (lv_at hl 0 rfl) ?_
        refine lv_iconst (v := 4) hx hb dX1_read_109 (by decide) ?_
        refine lv_icmp_ge (tgt := 148) hx hb dX1_read_110 (by decide) (fun c_31 => absurd c_31 (by decide)) (fun c_31 => ?_)
        refine lv_aload_n hx hb dX1_read_113 rfl (lv_at hl 5 rfl) ?_
        refine va_get (D := (dC, dI)) (ci := 1) (v := .ref la) (C := "TextureUnits") (T := TX1) (N := 4) hx hb hts (tw_s inX1) hown hK hP 0 rfl rfl 2 (by decide) (hts _ (tw_c tw_75)) (fun _ h9 => h9) rfl dX1_read_114 ?_
        refine lv_iload hx hb dX1_read_117 (lv_at hl 0 rfl) ?_
        refine lv_aload_n hx hb dX1_read_119 rfl (lv_at hl 5 rfl) ?_
        refine va_get (D := (dC, dI)) (ci := 1) (v := .ref la) (C := "TextureUnits") (T := TX1) (N := 4) hx hb hts (tw_s inX1) hown hK hP 0 rfl rfl 2 (by decide) (hts _ (tw_c tw_75)) (fun _ h9 => h9) rfl dX1_read_120 ?_
        refine lv_iload hx hb dX1_read_123 (lv_at hl 0 rfl) ?_
        refine va_iald hx hb hK hP 6 1 rfl rfl (tu_in (by decide)) dX1_read_125 ?_
        refine lv_topi (fun x_32 ex_32 => ?_)
        have ex_32 : x_32 = ((tu_smp4 mem sf bd fr fo lw lh ac dn fi (tu_lev lv p3) p1 p2 lat) 2) := ((ex_32).trans (pk_un (by decide))).trans (pk_un (by decide))
        subst ex_32
        refine lv_aload_n hx hb dX1_read_126 rfl (lv_at hl 5 rfl) ?_
        refine va_get (D := (dC, dI)) (ci := 1) (v := .ref nx) (C := "TextureUnits") (T := TX1) (N := 4) hx hb hts (tw_s inX1) hown hK hP 0 rfl rfl 3 (by decide) (hts _ (tw_c tw_76)) (fun _ h9 => h9) rfl dX1_read_127 ?_
        refine lv_iload hx hb dX1_read_130 (lv_at hl 0 rfl) ?_
        refine va_iald hx hb hK hP 7 1 rfl rfl (tu_in (by decide)) dX1_read_132 ?_
        refine lv_topi (fun x_33 ex_33 => ?_)
        have ex_33 : x_33 = ((tu_smp4 mem sf bd fr fo lw lh ac dn fi ((tu_lev lv p3) + (1 : Int32)) p1 p2 nxt) 2) := ex_33
        subst ex_33
        refine lv_iload hx hb dX1_read_133 (lv_at hl 3 rfl) ?_
        refine lv_ldc (v := 65535) hx hb hown (hts _ (tw_c tw_319)) dX1_read_135 ?_
        refine lv_iand hx hb dX1_read_137 ?_
        refine rd_call (W.runS (As := [.int ((tu_smp4 mem sf bd fr fo lw lh ac dn fi (tu_lev lv p3) p1 p2 lat) 2), .int ((tu_smp4 mem sf bd fr fo lw lh ac dn fi ((tu_lev lv p3) + (1 : Int32)) p1 p2 nxt) 2), .int ((tu_lod lv p3) &&& (65535 : Int32))]) (rest := [.int 2, .ref la]) ⟨hx, hb, hml, hown, hts⟩ (r_mix l ((tu_smp4 mem sf bd fr fo lw lh ac dn fi (tu_lev lv p3) p1 p2 lat) 2) ((tu_smp4 mem sf bd fr fo lw lh ac dn fi ((tu_lev lv p3) + (1 : Int32)) p1 p2 nxt) 2) ((tu_lod lv p3) &&& (65535 : Int32))) (va_cwS 3 hts (tg_S tw_312 tw_313 tw_1 tw_314) rfl rfl rfl (by decide +kernel) ⟨Nat.le_of_ble_eq_true rfl, Nat.le_of_ble_eq_true rfl⟩) preEq rfl rfl hl.1 rfl (lv_room (Nat.le_of_ble_eq_true rfl)) dX1_read_138 ⟨Nat.le_of_ble_eq_true rfl, Nat.le_of_ble_eq_true rfl⟩) ?_
        refine va_iast hx hb hK hP hD hS 6 1 rfl rfl (tu_in (by decide)) dX1_read_141 (fun H locs hP hD hS => ?_)
        have hP : va_P (dC, dI) vwCl [(q, .inr (1, [.ref wd, .ref us, .ref la, .ref nx])), (us, .inl (cU, 4, .inr (.inr (.inr (.inr g))))), (u, .inr (0, [.int fr, .int fo, .int lw, .int lh, .int lv, .int ac, .int dn, .int fi, .ref bc, .ref st])), (wd, .inl (cI, 2048, .inl mem)), (st, .inl (cI, 12, .inl sf)), (bc, .inl (cI, 4, .inl bd)), (la, .inl (cI, 4, .inl (upd (upd (upd (tu_smp4 mem sf bd fr fo lw lh ac dn fi (tu_lev lv p3) p1 p2 lat) 0 (tu_mix ((tu_smp4 mem sf bd fr fo lw lh ac dn fi (tu_lev lv p3) p1 p2 lat) 0) ((tu_smp4 mem sf bd fr fo lw lh ac dn fi ((tu_lev lv p3) + (1 : Int32)) p1 p2 nxt) 0) ((tu_lod lv p3) &&& (65535 : Int32)))) 1 (tu_mix ((tu_smp4 mem sf bd fr fo lw lh ac dn fi (tu_lev lv p3) p1 p2 lat) 1) ((tu_smp4 mem sf bd fr fo lw lh ac dn fi ((tu_lev lv p3) + (1 : Int32)) p1 p2 nxt) 1) ((tu_lod lv p3) &&& (65535 : Int32)))) 2 (tu_mix ((tu_smp4 mem sf bd fr fo lw lh ac dn fi (tu_lev lv p3) p1 p2 lat) 2) ((tu_smp4 mem sf bd fr fo lw lh ac dn fi ((tu_lev lv p3) + (1 : Int32)) p1 p2 nxt) 2) ((tu_lod lv p3) &&& (65535 : Int32)))))), (nx, .inl (cI, 4, .inl (tu_smp4 mem sf bd fr fo lw lh ac dn fi ((tu_lev lv p3) + (1 : Int32)) p1 p2 nxt)))] H := hP
        have hD : va_D A [(q, .inr (1, [.ref wd, .ref us, .ref la, .ref nx])), (us, .inl (cU, 4, .inr (.inr (.inr (.inr g))))), (u, .inr (0, [.int fr, .int fo, .int lw, .int lh, .int lv, .int ac, .int dn, .int fi, .ref bc, .ref st])), (wd, .inl (cI, 2048, .inl mem)), (st, .inl (cI, 12, .inl sf)), (bc, .inl (cI, 4, .inl bd)), (la, .inl (cI, 4, .inl (upd (upd (upd (tu_smp4 mem sf bd fr fo lw lh ac dn fi (tu_lev lv p3) p1 p2 lat) 0 (tu_mix ((tu_smp4 mem sf bd fr fo lw lh ac dn fi (tu_lev lv p3) p1 p2 lat) 0) ((tu_smp4 mem sf bd fr fo lw lh ac dn fi ((tu_lev lv p3) + (1 : Int32)) p1 p2 nxt) 0) ((tu_lod lv p3) &&& (65535 : Int32)))) 1 (tu_mix ((tu_smp4 mem sf bd fr fo lw lh ac dn fi (tu_lev lv p3) p1 p2 lat) 1) ((tu_smp4 mem sf bd fr fo lw lh ac dn fi ((tu_lev lv p3) + (1 : Int32)) p1 p2 nxt) 1) ((tu_lod lv p3) &&& (65535 : Int32)))) 2 (tu_mix ((tu_smp4 mem sf bd fr fo lw lh ac dn fi (tu_lev lv p3) p1 p2 lat) 2) ((tu_smp4 mem sf bd fr fo lw lh ac dn fi ((tu_lev lv p3) + (1 : Int32)) p1 p2 nxt) 2) ((tu_lod lv p3) &&& (65535 : Int32)))))), (nx, .inl (cI, 4, .inl (tu_smp4 mem sf bd fr fo lw lh ac dn fi ((tu_lev lv p3) + (1 : Int32)) p1 p2 nxt)))] := hD
        refine lv_iinc (v := 3) (lv' := [(9, .int 3), (8, .int 1), (7, .int (tu_lev lv p3)), (6, .int (tu_lod lv p3)), (5, .ref u), (0, .ref q), (1, .int p0), (2, .int p1), (3, .int p2), (4, .int p3)]) hx hb dX1_read_142 hl (k := 0) rfl (by decide) (by decide) rfl (fun ls hl => ?_)
        refine lv_goto (tgt := 107) hx hb dX1_read_145 (by decide) ?_
        refine lv_iload hx hb dX1_read_107 (lv_at hl 0 rfl) ?_
        refine lv_iconst (v := 4) hx hb dX1_read_109 (by decide) ?_
        refine lv_icmp_ge (tgt := 148) hx hb dX1_read_110 (by decide) (fun c_34 => absurd c_34 (by decide)) (fun c_34 => ?_)
        refine lv_aload_n hx hb dX1_read_113 rfl (lv_at hl 5 rfl) ?_
        refine va_get (D := (dC, dI)) (ci := 1) (v := .ref la) (C := "TextureUnits") (T := TX1) (N := 4) hx hb hts (tw_s inX1) hown hK hP 0 rfl rfl 2 (by decide) (hts _ (tw_c tw_75)) (fun _ h9 => h9) rfl dX1_read_114 ?_
        refine lv_iload hx hb dX1_read_117 (lv_at hl 0 rfl) ?_
        refine lv_aload_n hx hb dX1_read_119 rfl (lv_at hl 5 rfl) ?_
        refine va_get (D := (dC, dI)) (ci := 1) (v := .ref la) (C := "TextureUnits") (T := TX1) (N := 4) hx hb hts (tw_s inX1) hown hK hP 0 rfl rfl 2 (by decide) (hts _ (tw_c tw_75)) (fun _ h9 => h9) rfl dX1_read_120 ?_
        refine lv_iload hx hb dX1_read_123 (lv_at hl 0 rfl) ?_
        refine va_iald hx hb hK hP 6 1 rfl rfl (tu_in (by decide)) dX1_read_125 ?_
        refine lv_topi (fun x_35 ex_35 => ?_)
        have ex_35 : x_35 = ((tu_smp4 mem sf bd fr fo lw lh ac dn fi (tu_lev lv p3) p1 p2 lat) 3) := (((ex_35).trans (pk_un (by decide))).trans (pk_un (by decide))).trans (pk_un (by decide))
        subst ex_35
        refine lv_aload_n hx hb dX1_read_126 rfl (lv_at hl 5 rfl) ?_
        refine va_get (D := (dC, dI)) (ci := 1) (v := .ref nx) (C := "TextureUnits") (T := TX1) (N := 4) hx hb hts (tw_s inX1) hown hK hP 0 rfl rfl 3 (by decide) (hts _ (tw_c tw_76)) (fun _ h9 => h9) rfl dX1_read_127 ?_
        refine lv_iload hx hb dX1_read_130 (lv_at hl 0 rfl) ?_
        refine va_iald hx hb hK hP 7 1 rfl rfl (tu_in (by decide)) dX1_read_132 ?_
        refine lv_topi (fun x_36 ex_36 => ?_)
        have ex_36 : x_36 = ((tu_smp4 mem sf bd fr fo lw lh ac dn fi ((tu_lev lv p3) + (1 : Int32)) p1 p2 nxt) 3) := ex_36
        subst ex_36
        refine lv_iload hx hb dX1_read_133 (lv_at hl 3 rfl) ?_
        refine lv_ldc (v := 65535) hx hb hown (hts _ (tw_c tw_319)) dX1_read_135 ?_
        refine lv_iand hx hb dX1_read_137 ?_
        refine rd_call (W.runS (As := [.int ((tu_smp4 mem sf bd fr fo lw lh ac dn fi (tu_lev lv p3) p1 p2 lat) 3), .int ((tu_smp4 mem sf bd fr fo lw lh ac dn fi ((tu_lev lv p3) + (1 : Int32)) p1 p2 nxt) 3), .int ((tu_lod lv p3) &&& (65535 : Int32))]) (rest := [.int 3, .ref la]) ⟨hx, hb, hml, hown, hts⟩ (r_mix l ((tu_smp4 mem sf bd fr fo lw lh ac dn fi (tu_lev lv p3) p1 p2 lat) 3) ((tu_smp4 mem sf bd fr fo lw lh ac dn fi ((tu_lev lv p3) + (1 : Int32)) p1 p2 nxt) 3) ((tu_lod lv p3) &&& (65535 : Int32))) (va_cwS 3 hts (tg_S tw_312 tw_313 tw_1 tw_314) rfl rfl rfl (by decide +kernel) ⟨Nat.le_of_ble_eq_true rfl, Nat.le_of_ble_eq_true rfl⟩) preEq rfl rfl hl.1 rfl (lv_room (Nat.le_of_ble_eq_true rfl)) dX1_read_138 ⟨Nat.le_of_ble_eq_true rfl, Nat.le_of_ble_eq_true rfl⟩) ?_
        refine va_iast hx hb hK hP hD hS 6 1 rfl rfl (tu_in (by decide)) dX1_read_141 (fun H locs hP hD hS => ?_)
        have hP : va_P (dC, dI) vwCl [(q, .inr (1, [.ref wd, .ref us, .ref la, .ref nx])), (us, .inl (cU, 4, .inr (.inr (.inr (.inr g))))), (u, .inr (0, [.int fr, .int fo, .int lw, .int lh, .int lv, .int ac, .int dn, .int fi, .ref bc, .ref st])), (wd, .inl (cI, 2048, .inl mem)), (st, .inl (cI, 12, .inl sf)), (bc, .inl (cI, 4, .inl bd)), (la, .inl (cI, 4, .inl (upd (upd (upd (upd (tu_smp4 mem sf bd fr fo lw lh ac dn fi (tu_lev lv p3) p1 p2 lat) 0 (tu_mix ((tu_smp4 mem sf bd fr fo lw lh ac dn fi (tu_lev lv p3) p1 p2 lat) 0) ((tu_smp4 mem sf bd fr fo lw lh ac dn fi ((tu_lev lv p3) + (1 : Int32)) p1 p2 nxt) 0) ((tu_lod lv p3) &&& (65535 : Int32)))) 1 (tu_mix ((tu_smp4 mem sf bd fr fo lw lh ac dn fi (tu_lev lv p3) p1 p2 lat) 1) ((tu_smp4 mem sf bd fr fo lw lh ac dn fi ((tu_lev lv p3) + (1 : Int32)) p1 p2 nxt) 1) ((tu_lod lv p3) &&& (65535 : Int32)))) 2 (tu_mix ((tu_smp4 mem sf bd fr fo lw lh ac dn fi (tu_lev lv p3) p1 p2 lat) 2) ((tu_smp4 mem sf bd fr fo lw lh ac dn fi ((tu_lev lv p3) + (1 : Int32)) p1 p2 nxt) 2) ((tu_lod lv p3) &&& (65535 : Int32)))) 3 (tu_mix ((tu_smp4 mem sf bd fr fo lw lh ac dn fi (tu_lev lv p3) p1 p2 lat) 3) ((tu_smp4 mem sf bd fr fo lw lh ac dn fi ((tu_lev lv p3) + (1 : Int32)) p1 p2 nxt) 3) ((tu_lod lv p3) &&& (65535 : Int32)))))), (nx, .inl (cI, 4, .inl (tu_smp4 mem sf bd fr fo lw lh ac dn fi ((tu_lev lv p3) + (1 : Int32)) p1 p2 nxt)))] H := hP
        have hD : va_D A [(q, .inr (1, [.ref wd, .ref us, .ref la, .ref nx])), (us, .inl (cU, 4, .inr (.inr (.inr (.inr g))))), (u, .inr (0, [.int fr, .int fo, .int lw, .int lh, .int lv, .int ac, .int dn, .int fi, .ref bc, .ref st])), (wd, .inl (cI, 2048, .inl mem)), (st, .inl (cI, 12, .inl sf)), (bc, .inl (cI, 4, .inl bd)), (la, .inl (cI, 4, .inl (upd (upd (upd (upd (tu_smp4 mem sf bd fr fo lw lh ac dn fi (tu_lev lv p3) p1 p2 lat) 0 (tu_mix ((tu_smp4 mem sf bd fr fo lw lh ac dn fi (tu_lev lv p3) p1 p2 lat) 0) ((tu_smp4 mem sf bd fr fo lw lh ac dn fi ((tu_lev lv p3) + (1 : Int32)) p1 p2 nxt) 0) ((tu_lod lv p3) &&& (65535 : Int32)))) 1 (tu_mix ((tu_smp4 mem sf bd fr fo lw lh ac dn fi (tu_lev lv p3) p1 p2 lat) 1) ((tu_smp4 mem sf bd fr fo lw lh ac dn fi ((tu_lev lv p3) + (1 : Int32)) p1 p2 nxt) 1) ((tu_lod lv p3) &&& (65535 : Int32)))) 2 (tu_mix ((tu_smp4 mem sf bd fr fo lw lh ac dn fi (tu_lev lv p3) p1 p2 lat) 2) ((tu_smp4 mem sf bd fr fo lw lh ac dn fi ((tu_lev lv p3) + (1 : Int32)) p1 p2 nxt) 2) ((tu_lod lv p3) &&& (65535 : Int32)))) 3 (tu_mix ((tu_smp4 mem sf bd fr fo lw lh ac dn fi (tu_lev lv p3) p1 p2 lat) 3) ((tu_smp4 mem sf bd fr fo lw lh ac dn fi ((tu_lev lv p3) + (1 : Int32)) p1 p2 nxt) 3) ((tu_lod lv p3) &&& (65535 : Int32)))))), (nx, .inl (cI, 4, .inl (tu_smp4 mem sf bd fr fo lw lh ac dn fi ((tu_lev lv p3) + (1 : Int32)) p1 p2 nxt)))] := hD
        refine lv_iinc (v := 4) (lv' := [(9, .int 4), (8, .int 1), (7, .int (tu_lev lv p3)), (6, .int (tu_lod lv p3)), (5, .ref u), (0, .ref q), (1, .int p0), (2, .int p1), (3, .int p2), (4, .int p3)]) hx hb dX1_read_142 hl (k := 0) rfl (by decide) (by decide) rfl (fun ls hl => ?_)
        refine lv_goto (tgt := 107) hx hb dX1_read_145 (by decide) ?_
        refine lv_iload hx hb dX1_read_107 (lv_at hl 0 rfl) ?_
        refine lv_iconst (v := 4) hx hb dX1_read_109 (by decide) ?_
        refine lv_icmp_ge (tgt := 148) hx hb dX1_read_110 (by decide) (fun c_37 => ?_) (fun c_37 => absurd (by decide) c_37)
        have hP : va_P (dC, dI) vwCl [(q, .inr (1, [.ref wd, .ref us, .ref la, .ref nx])), (us, .inl (cU, 4, .inr (.inr (.inr (.inr g))))), (u, .inr (0, [.int fr, .int fo, .int lw, .int lh, .int lv, .int ac, .int dn, .int fi, .ref bc, .ref st])), (wd, .inl (cI, 2048, .inl mem)), (st, .inl (cI, 12, .inl sf)), (bc, .inl (cI, 4, .inl bd)), (la, .inl (cI, 4, .inl (tu_rd mem sf bd fr fo lw lh lv ac dn fi p1 p2 p3 lat nxt))), (nx, .inl (cI, 4, .inl (tu_rn mem sf bd fr fo lw lh lv ac dn fi p1 p2 p3 nxt)))] H := by rw [tu_rd_a (Or.inr c_19) c_23, tu_rn_a (Or.inr c_19) c_23]; exact hP
        have hD : va_D A [(q, .inr (1, [.ref wd, .ref us, .ref la, .ref nx])), (us, .inl (cU, 4, .inr (.inr (.inr (.inr g))))), (u, .inr (0, [.int fr, .int fo, .int lw, .int lh, .int lv, .int ac, .int dn, .int fi, .ref bc, .ref st])), (wd, .inl (cI, 2048, .inl mem)), (st, .inl (cI, 12, .inl sf)), (bc, .inl (cI, 4, .inl bd)), (la, .inl (cI, 4, .inl (tu_rd mem sf bd fr fo lw lh lv ac dn fi p1 p2 p3 lat nxt))), (nx, .inl (cI, 4, .inl (tu_rn mem sf bd fr fo lw lh lv ac dn fi p1 p2 p3 nxt)))] := by rw [tu_rd_a (Or.inr c_19) c_23, tu_rn_a (Or.inr c_19) c_23]; exact hD
        refine lv_aload_n hx hb dX1_read_148 rfl (lv_at hl 5 rfl) ?_
        refine va_get (D := (dC, dI)) (ci := 1) (v := .ref la) (C := "TextureUnits") (T := TX1) (N := 4) hx hb hts (tw_s inX1) hown hK hP 0 rfl rfl 2 (by decide) (hts _ (tw_c tw_75)) (fun _ h9 => h9) rfl dX1_read_149 ?_
        refine lv_iconst (v := 0) hx hb dX1_read_152 (by decide) ?_
        refine va_iald hx hb hK hP 6 1 rfl rfl (tu_in (by decide)) dX1_read_153 ?_
        refine lv_topi (fun x_38 ex_38 => ?_)
        have ex_38 : x_38 = ((tu_rd mem sf bd fr fo lw lh lv ac dn fi p1 p2 p3 lat nxt) 0) := ex_38
        subst ex_38
        have hP9 : va_P (dC, dI) vwCl [(q, .inr (1, [.ref wd, .ref us, .ref la, .ref nx])), (us, .inl (cU, 4, .inr (.inr (.inr (.inr g))))), (u, .inr (0, [.int fr, .int fo, .int lw, .int lh, .int lv, .int ac, .int dn, .int fi, .ref bc, .ref st])), (wd, .inl (cI, 2048, .inl mem)), (st, .inl (cI, 12, .inl sf)), (bc, .inl (cI, 4, .inl bd)), (la, .inl (cI, 4, .inl (tu_rd mem sf bd fr fo lw lh lv ac dn fi p1 p2 p3 lat nxt))), (nx, .inl (cI, 4, .inl (tu_rn mem sf bd fr fo lw lh lv ac dn fi p1 p2 p3 nxt)))] H := hP.sub [0, 1, 2, 3, 4, 5, 6, 7] rfl
        have hD9 : va_D A [(q, .inr (1, [.ref wd, .ref us, .ref la, .ref nx])), (us, .inl (cU, 4, .inr (.inr (.inr (.inr g))))), (u, .inr (0, [.int fr, .int fo, .int lw, .int lh, .int lv, .int ac, .int dn, .int fi, .ref bc, .ref st])), (wd, .inl (cI, 2048, .inl mem)), (st, .inl (cI, 12, .inl sf)), (bc, .inl (cI, 4, .inl bd)), (la, .inl (cI, 4, .inl (tu_rd mem sf bd fr fo lw lh lv ac dn fi p1 p2 p3 lat nxt))), (nx, .inl (cI, 4, .inl (tu_rn mem sf bd fr fo lw lh lv ac dn fi p1 p2 p3 nxt)))] := hD.sub [0, 1, 2, 3, 4, 5, 6, 7] (by decide) rfl
        have hK9 : va_K (dC, dI) vwCl [(cU, .object "TextureUnits$Unit"), (cI, .int)] s := hK.sub [0, 1] rfl
        exact W.iret (v := ((tu_rd mem sf bd fr fo lw lh lv ac dn fi p1 p2 p3 lat nxt) 0)) hx hb hr (fun t ht hW => ⟨⟨((tu_rd mem sf bd fr fo lw lh lv ac dn fi p1 p2 p3 lat nxt) 0), (), rfl, rfl, by rw [ht]; exact hP9, va_K.moved hW.alike hK9, hD9⟩, hS.F ht⟩) hS.2.2 dX1_read_154
