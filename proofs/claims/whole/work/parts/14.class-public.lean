theorem tw_213 : (Cond.methodLink "TextureUnits" 59 ⟨"TextureUnits$Unit", "layOut", "(III)V"⟩) ∈ TW := tw_t1 213 (by decide +kernel) (by decide +kernel)
theorem tw_50 : (Cond.fieldLink "TextureUnits" 99 "TextureUnits$Unit" "starts" "[I") ∈ TW := tw_t1 50 (by decide +kernel) (by decide +kernel)
set_option maxHeartbeats 4000000 in
set_option maxRecDepth 100000 in
theorem w_poke (l : Launch) (dC : Nat → ClassId) (dI : Nat → Nat → Nat) (q wd us la nx : Nat) (cI : ClassId) (mem : Nat → Int32) (p0 p1 : Int32) (sz : Nat) (h0 : ¬ tu_win p0 0 2047 = 0) : Met l yX1_poke wsX1_poke ({ frames := 1, cells := 0, slots := 0, locals := 22 }) (va_Pc [.ref q, .int p0, .int p1] (wr_P (dC, dI) vwCl [(q, .inr (1, [.ref wd, .ref us, .ref la, .ref nx])), (wd, .inl (cI, 2048, .inl mem))] [(cI, .int)] sz)) (va_Qv (fun _ : Unit => True) (wr_B (dC, dI) vwCl [(q, .inr (1, [.ref wd, .ref us, .ref la, .ref nx])), (wd, .inl (cI, 2048, .inl (upd mem p0.toNatClampNeg p1)))] [(cI, .int)] (va_A [(q, .inr (1, [.ref wd, .ref us, .ref la, .ref nx])), (wd, .inl (cI, 2048, .inl mem))] sz)) (va_A [(q, .inr (1, [.ref wd, .ref us, .ref la, .ref nx])), (wd, .inl (cI, 2048, .inl mem))] sz)) 0 0 (va_A [(q, .inr (1, [.ref wd, .ref us, .ref la, .ref nx])), (wd, .inl (cI, 2048, .inl mem))] sz) := by
  refine Met.ofW (cc := cX1_poke) (maxL := 3) (ret := none) (by decide) rfl ?_
  intro p e s m args below meth c s₁ B hml hv
  obtain ⟨rfl, hsz, hP, hK, hD0⟩ := hv
  have hx := B.exec
  have hb := B.bytes
  have hr := B.returns
  have hts := atoms_spec (ws := wsX1_poke) B.pre
  have hown : s.vm.findClass "TextureUnits" = some m.cls := findClass_of_methodNamed B.named
  have hlocks := B.notSynchronized
  subst hsz
  have hD := hD0.self (sz := s.heap.size)
  generalize hAe : va_A [(q, .inr (1, [.ref wd, .ref us, .ref la, .ref nx])), (wd, .inl (cI, 2048, .inl mem))] s.heap.size = A at hD ⊢
  have hA : ∀ q : Nat, s.heap.size ≤ q → A q := fun q h => by rw [← hAe]; exact Or.inr h
  have hS : va_S A s.heap s.heap [] := va_S.rf
  have hP : va_P (dC, dI) vwCl [(q, .inr (1, [.ref wd, .ref us, .ref la, .ref nx])), (wd, .inl (cI, 2048, .inl mem))] s.heap := hP
  have hl := lv_entry ([.ref q, .int p0, .int p1]) (n := 3) (Nat.le_of_ble_eq_true rfl)
  rw [lg_entry_eq]
  generalize (lg_sl ([.ref q, .int p0, .int p1]) ++ List.replicate (3 - (lg_sl ([.ref q, .int p0, .int p1])).length) Slot.unset).toArray = ls at hl ⊢
  have hl : lv_has ls 3 [(0, .ref q), (1, .int p0), (2, .int p1)] := hl
  refine lv_iload_n hx hb dX1_poke_0 rfl (lv_at hl 1 rfl) ?_
  refine lv_iconst (v := 0) hx hb dX1_poke_1 (by decide) ?_
  refine lv_sipush (v := 2047) hx hb dX1_poke_2 (by decide) ?_
  refine rd_call (W.runS (As := [.int p0, .int 0, .int 2047]) (rest := []) ⟨hx, hb, hml, hown, hts⟩ (r_within l p0 0 2047) (va_cwS 3 hts (tg_S tw_94 tw_95 tw_1 tw_96) rfl rfl rfl (by decide +kernel) ⟨Nat.le_of_ble_eq_true rfl, Nat.le_of_ble_eq_true rfl⟩) preEq rfl rfl hl.1 rfl (lv_room (Nat.le_of_ble_eq_true rfl)) dX1_poke_5 ⟨Nat.le_of_ble_eq_true rfl, Nat.le_of_ble_eq_true rfl⟩) ?_
  refine lv_if_ne (tgt := 21) hx hb dX1_poke_8 (by decide) (fun c_1 => ?_) (fun c_1 => absurd c_1 h0)
  refine lv_aload_n hx hb dX1_poke_21 rfl (lv_at hl 0 rfl) ?_
  refine va_get (D := (dC, dI)) (ci := 1) (v := .ref wd) (C := "TextureUnits") (T := TX1) (N := 4) hx hb hts (tw_s inX1) hown hK hP 0 rfl rfl 0 (by decide) (hts _ (tw_c tw_73)) (fun _ h9 => h9) rfl dX1_poke_22 ?_
  refine lv_iload_n hx hb dX1_poke_25 rfl (lv_at hl 1 rfl) ?_
  refine lv_iload_n hx hb dX1_poke_26 rfl (lv_at hl 2 rfl) ?_
  refine va_iast hx hb hK hP hD hS 1 0 rfl rfl (tu_win_in h0 (by decide)) dX1_poke_27 (fun H locs hP hD hS => ?_)
  have hP : va_P (dC, dI) vwCl [(q, .inr (1, [.ref wd, .ref us, .ref la, .ref nx])), (wd, .inl (cI, 2048, .inl (upd mem p0.toNatClampNeg p1)))] H := hP
  have hD : va_D A [(q, .inr (1, [.ref wd, .ref us, .ref la, .ref nx])), (wd, .inl (cI, 2048, .inl (upd mem p0.toNatClampNeg p1)))] := hD
  have hP9 : va_P (dC, dI) vwCl [(q, .inr (1, [.ref wd, .ref us, .ref la, .ref nx])), (wd, .inl (cI, 2048, .inl (upd mem p0.toNatClampNeg p1)))] H := hP.sub [0, 1] rfl
  have hD9 : va_D A [(q, .inr (1, [.ref wd, .ref us, .ref la, .ref nx])), (wd, .inl (cI, 2048, .inl (upd mem p0.toNatClampNeg p1)))] := hD.sub [0, 1] (by decide) rfl
  have hK9 : va_K (dC, dI) vwCl [(cI, .int)] s := hK.sub [0] rfl
  exact W.vret hx hb hr (fun t ht hW => ⟨⟨(), rfl, trivial, by rw [ht]; exact hP9, va_K.moved hW.alike hK9, hD9⟩, hS.F ht⟩) hS.2.2 dX1_poke_28
set_option maxHeartbeats 4000000 in
set_option maxRecDepth 100000 in
theorem w_picture (l : Launch) (dC : Nat → ClassId) (dI : Nat → Nat → Nat) (q wd us la nx : Nat) (cU : ClassId) (g : Nat → Option Nat) (u : Nat) (fr fo lw lh lv ac dn fi : Int32) (bc st : Nat) (cI : ClassId) (sf : Nat → Int32) (p0 p1 p2 p3 p4 p5 : Int32) (sz : Nat) (h0 : ¬ tu_win p0 0 3 = 0) (hg : g p0.toNatClampNeg = some u) (hv : 0 ≤ p1 ∧ ¬ tu_win p2 0 10 = 0 ∧ ¬ tu_win p3 0 10 = 0 ∧ ¬ tu_win p4 1 11 = 0 ∧ ¬ tu_win p5 0 7 = 0) : Met l yX1_picture wsX1_picture ({ frames := 2, cells := 0, slots := 0, locals := 45 }) (va_Pc [.ref q, .int p0, .int p1, .int p2, .int p3, .int p4, .int p5] (wr_P (dC, dI) vwCl [(q, .inr (1, [.ref wd, .ref us, .ref la, .ref nx])), (us, .inl (cU, 4, .inr (.inr (.inr (.inr g))))), (u, .inr (0, [.int fr, .int fo, .int lw, .int lh, .int lv, .int ac, .int dn, .int fi, .ref bc, .ref st])), (st, .inl (cI, 12, .inl sf))] [(cU, .object "TextureUnits$Unit"), (cI, .int)] sz)) (va_Qv (fun _ : Unit => True) (wr_B (dC, dI) vwCl [(q, .inr (1, [.ref wd, .ref us, .ref la, .ref nx])), (us, .inl (cU, 4, .inr (.inr (.inr (.inr g))))), (u, .inr (0, [.int p1, .int p5, .int p2, .int p3, .int p4, .int ac, .int dn, .int fi, .ref bc, .ref st])), (st, .inl (cI, 12, .inl (tu_lay p2 p3 sf 11)))] [(cU, .object "TextureUnits$Unit"), (cI, .int)] (va_A [(q, .inr (1, [.ref wd, .ref us, .ref la, .ref nx])), (us, .inl (cU, 4, .inr (.inr (.inr (.inr g))))), (u, .inr (0, [.int fr, .int fo, .int lw, .int lh, .int lv, .int ac, .int dn, .int fi, .ref bc, .ref st])), (st, .inl (cI, 12, .inl sf))] sz)) (va_A [(q, .inr (1, [.ref wd, .ref us, .ref la, .ref nx])), (us, .inl (cU, 4, .inr (.inr (.inr (.inr g))))), (u, .inr (0, [.int fr, .int fo, .int lw, .int lh, .int lv, .int ac, .int dn, .int fi, .ref bc, .ref st])), (st, .inl (cI, 12, .inl sf))] sz)) 0 0 (va_A [(q, .inr (1, [.ref wd, .ref us, .ref la, .ref nx])), (us, .inl (cU, 4, .inr (.inr (.inr (.inr g))))), (u, .inr (0, [.int fr, .int fo, .int lw, .int lh, .int lv, .int ac, .int dn, .int fi, .ref bc, .ref st])), (st, .inl (cI, 12, .inl sf))] sz) := by
  refine Met.ofW (cc := cX1_picture) (maxL := 8) (ret := none) (by decide) rfl ?_
  intro p e s m args below meth c s₁ B hml hv
  obtain ⟨rfl, hsz, hP, hK, hD0⟩ := hv
  have hx := B.exec
  have hb := B.bytes
  have hr := B.returns
  have hts := atoms_spec (ws := wsX1_picture) B.pre
  have hown : s.vm.findClass "TextureUnits" = some m.cls := findClass_of_methodNamed B.named
  have hlocks := B.notSynchronized
  subst hsz
  have hD := hD0.self (sz := s.heap.size)
  generalize hAe : va_A [(q, .inr (1, [.ref wd, .ref us, .ref la, .ref nx])), (us, .inl (cU, 4, .inr (.inr (.inr (.inr g))))), (u, .inr (0, [.int fr, .int fo, .int lw, .int lh, .int lv, .int ac, .int dn, .int fi, .ref bc, .ref st])), (st, .inl (cI, 12, .inl sf))] s.heap.size = A at hD ⊢
  have hA : ∀ q : Nat, s.heap.size ≤ q → A q := fun q h => by rw [← hAe]; exact Or.inr h
  have hS : va_S A s.heap s.heap [] := va_S.rf
  have hP : va_P (dC, dI) vwCl [(q, .inr (1, [.ref wd, .ref us, .ref la, .ref nx])), (us, .inl (cU, 4, .inr (.inr (.inr (.inr g))))), (u, .inr (0, [.int fr, .int fo, .int lw, .int lh, .int lv, .int ac, .int dn, .int fi, .ref bc, .ref st])), (st, .inl (cI, 12, .inl sf))] s.heap := hP
  have hl := lv_entry ([.ref q, .int p0, .int p1, .int p2, .int p3, .int p4, .int p5]) (n := 8) (Nat.le_of_ble_eq_true rfl)
  rw [lg_entry_eq]
  generalize (lg_sl ([.ref q, .int p0, .int p1, .int p2, .int p3, .int p4, .int p5]) ++ List.replicate (8 - (lg_sl ([.ref q, .int p0, .int p1, .int p2, .int p3, .int p4, .int p5])).length) Slot.unset).toArray = ls at hl ⊢
  have hl : lv_has ls 8 [(0, .ref q), (1, .int p0), (2, .int p1), (3, .int p2), (4, .int p3), (5, .int p4), (6, .int p5)] := hl
  refine lv_aload_n hx hb dX1_picture_0 rfl (lv_at hl 0 rfl) ?_
  refine lv_iload_n hx hb dX1_picture_1 rfl (lv_at hl 1 rfl) ?_
  refine rf_call (W.runV (As := [.int p0]) (rest := []) ⟨hx, hb, hml, hown, hts⟩ (r_unitAt l dC dI q wd us la nx cU g u p0 h0 hg) (cwV 1 hts (tg_V tw_174 tw_176 tw_p1 tw_1 tw_177) rfl rfl rfl (by decide +kernel) ⟨Nat.le_of_ble_eq_true rfl, Nat.le_of_ble_eq_true rfl⟩) ⟨rd_blind, va_recv hK hP (ci := 1) (q0 := 0) rfl rfl, fun U hU hW => ⟨rfl, rd_use (hP.sub [0, 1] rfl) (hK.sub [0] rfl) U hU hW⟩⟩ rfl rfl hl.1 rfl (lv_room (Nat.le_of_ble_eq_true rfl)) dX1_picture_2 ⟨Nat.le_of_ble_eq_true rfl, Nat.le_of_ble_eq_true rfl⟩) ?_
  refine lv_astore (lv' := [(7, .ref u), (0, .ref q), (1, .int p0), (2, .int p1), (3, .int p2), (4, .int p3), (5, .int p4), (6, .int p5)]) hx hb dX1_picture_5 hl (by decide) rfl (fun ls hl => ?_)
  refine lv_iload_n hx hb dX1_picture_7 rfl (lv_at hl 3 rfl) ?_
  refine lv_if_ge (tgt := 21) hx hb dX1_picture_8 (by decide) (fun c_1 => ?_) (fun c_1 => absurd hv.1 c_1)
  refine lv_iload_n hx hb dX1_picture_21 rfl (lv_at hl 4 rfl) ?_
  refine lv_iconst (v := 0) hx hb dX1_picture_22 (by decide) ?_
  refine lv_bipush (v := 10) hx hb dX1_picture_23 (by decide) ?_
  refine rd_call (W.runS (As := [.int p2, .int 0, .int 10]) (rest := []) ⟨hx, hb, hml, hown, hts⟩ (r_within l p2 0 10) (va_cwS 3 hts (tg_S tw_94 tw_95 tw_1 tw_96) rfl rfl rfl (by decide +kernel) ⟨Nat.le_of_ble_eq_true rfl, Nat.le_of_ble_eq_true rfl⟩) preEq rfl rfl hl.1 rfl (lv_room (Nat.le_of_ble_eq_true rfl)) dX1_picture_25 ⟨Nat.le_of_ble_eq_true rfl, Nat.le_of_ble_eq_true rfl⟩) ?_
  refine lv_if_eq (tgt := 42) hx hb dX1_picture_28 (by decide) (fun c_2 => absurd c_2 hv.2.1) (fun c_2 => ?_)
  refine lv_iload hx hb dX1_picture_31 (lv_at hl 5 rfl) ?_
  refine lv_iconst (v := 0) hx hb dX1_picture_33 (by decide) ?_
  refine lv_bipush (v := 10) hx hb dX1_picture_34 (by decide) ?_
  refine rd_call (W.runS (As := [.int p3, .int 0, .int 10]) (rest := []) ⟨hx, hb, hml, hown, hts⟩ (r_within l p3 0 10) (va_cwS 3 hts (tg_S tw_94 tw_95 tw_1 tw_96) rfl rfl rfl (by decide +kernel) ⟨Nat.le_of_ble_eq_true rfl, Nat.le_of_ble_eq_true rfl⟩) preEq rfl rfl hl.1 rfl (lv_room (Nat.le_of_ble_eq_true rfl)) dX1_picture_36 ⟨Nat.le_of_ble_eq_true rfl, Nat.le_of_ble_eq_true rfl⟩) ?_
  refine lv_if_ne (tgt := 52) hx hb dX1_picture_39 (by decide) (fun c_3 => ?_) (fun c_3 => absurd c_3 hv.2.2.1)
  refine lv_iload hx hb dX1_picture_52 (lv_at hl 6 rfl) ?_
  refine lv_iconst (v := 1) hx hb dX1_picture_54 (by decide) ?_
  refine lv_bipush (v := 11) hx hb dX1_picture_55 (by decide) ?_
  refine rd_call (W.runS (As := [.int p4, .int 1, .int 11]) (rest := []) ⟨hx, hb, hml, hown, hts⟩ (r_within l p4 1 11) (va_cwS 3 hts (tg_S tw_94 tw_95 tw_1 tw_96) rfl rfl rfl (by decide +kernel) ⟨Nat.le_of_ble_eq_true rfl, Nat.le_of_ble_eq_true rfl⟩) preEq rfl rfl hl.1 rfl (lv_room (Nat.le_of_ble_eq_true rfl)) dX1_picture_57 ⟨Nat.le_of_ble_eq_true rfl, Nat.le_of_ble_eq_true rfl⟩) ?_
  refine lv_if_ne (tgt := 73) hx hb dX1_picture_60 (by decide) (fun c_4 => ?_) (fun c_4 => absurd c_4 hv.2.2.2.1)
  refine lv_iload hx hb dX1_picture_73 (lv_at hl 7 rfl) ?_
  refine lv_iconst (v := 0) hx hb dX1_picture_75 (by decide) ?_
  refine lv_bipush (v := 7) hx hb dX1_picture_76 (by decide) ?_
  refine rd_call (W.runS (As := [.int p5, .int 0, .int 7]) (rest := []) ⟨hx, hb, hml, hown, hts⟩ (r_within l p5 0 7) (va_cwS 3 hts (tg_S tw_94 tw_95 tw_1 tw_96) rfl rfl rfl (by decide +kernel) ⟨Nat.le_of_ble_eq_true rfl, Nat.le_of_ble_eq_true rfl⟩) preEq rfl rfl hl.1 rfl (lv_room (Nat.le_of_ble_eq_true rfl)) dX1_picture_78 ⟨Nat.le_of_ble_eq_true rfl, Nat.le_of_ble_eq_true rfl⟩) ?_
  refine lv_if_ne (tgt := 94) hx hb dX1_picture_81 (by decide) (fun c_5 => ?_) (fun c_5 => absurd c_5 hv.2.2.2.2)
  refine lv_aload hx hb dX1_picture_94 (lv_at hl 0 rfl) ?_
  refine lv_iload_n hx hb dX1_picture_96 rfl (lv_at hl 3 rfl) ?_
  refine va_put (D := (dC, dI)) (ci := 0) (v := .int p1) (ty := .int) (C := "TextureUnits$Unit") (T := TX0) (N := 10) hx hb hts (tw_s inX0) tyX0 tyX0_ok nmX0 hown hK hP hD hS 2 rfl rfl 0 (by decide) (hts _ (tw_c tw_38)) (fun _ h9 => h9) rfl (by decide +kernel) rfl rfl (Nat.le_of_ble_eq_true rfl) dX1_picture_97 (fun H locs hP hD hS => ?_)
  have hP : va_P (dC, dI) vwCl [(q, .inr (1, [.ref wd, .ref us, .ref la, .ref nx])), (us, .inl (cU, 4, .inr (.inr (.inr (.inr g))))), (u, .inr (0, [.int p1, .int fo, .int lw, .int lh, .int lv, .int ac, .int dn, .int fi, .ref bc, .ref st])), (st, .inl (cI, 12, .inl sf))] H := hP
  have hD : va_D A [(q, .inr (1, [.ref wd, .ref us, .ref la, .ref nx])), (us, .inl (cU, 4, .inr (.inr (.inr (.inr g))))), (u, .inr (0, [.int p1, .int fo, .int lw, .int lh, .int lv, .int ac, .int dn, .int fi, .ref bc, .ref st])), (st, .inl (cI, 12, .inl sf))] := hD
  refine lv_aload hx hb dX1_picture_100 (lv_at hl 0 rfl) ?_
  refine lv_iload hx hb dX1_picture_102 (lv_at hl 7 rfl) ?_
  refine va_put (D := (dC, dI)) (ci := 0) (v := .int p5) (ty := .int) (C := "TextureUnits$Unit") (T := TX0) (N := 10) hx hb hts (tw_s inX0) tyX0 tyX0_ok nmX0 hown hK hP hD hS 2 rfl rfl 1 (by decide) (hts _ (tw_c tw_39)) (fun _ h9 => h9) rfl (by decide +kernel) rfl rfl (Nat.le_of_ble_eq_true rfl) dX1_picture_104 (fun H locs hP hD hS => ?_)
  have hP : va_P (dC, dI) vwCl [(q, .inr (1, [.ref wd, .ref us, .ref la, .ref nx])), (us, .inl (cU, 4, .inr (.inr (.inr (.inr g))))), (u, .inr (0, [.int p1, .int p5, .int lw, .int lh, .int lv, .int ac, .int dn, .int fi, .ref bc, .ref st])), (st, .inl (cI, 12, .inl sf))] H := hP
  have hD : va_D A [(q, .inr (1, [.ref wd, .ref us, .ref la, .ref nx])), (us, .inl (cU, 4, .inr (.inr (.inr (.inr g))))), (u, .inr (0, [.int p1, .int p5, .int lw, .int lh, .int lv, .int ac, .int dn, .int fi, .ref bc, .ref st])), (st, .inl (cI, 12, .inl sf))] := hD
  refine lv_aload hx hb dX1_picture_107 (lv_at hl 0 rfl) ?_
  refine lv_iload_n hx hb dX1_picture_109 rfl (lv_at hl 4 rfl) ?_
  refine lv_iload hx hb dX1_picture_110 (lv_at hl 5 rfl) ?_
  refine lv_iload hx hb dX1_picture_112 (lv_at hl 6 rfl) ?_
  have hPc := hP.sub (ws' := [(u, .inr (0, [.int p1, .int p5, .int lw, .int lh, .int lv, .int ac, .int dn, .int fi, .ref bc, .ref st])), (st, .inl (cI, 12, .inl sf))]) [2, 3] rfl
  have hDc := hD.sub (ws' := [(u, .inr (0, [.int p1, .int p5, .int lw, .int lh, .int lv, .int ac, .int dn, .int fi, .ref bc, .ref st])), (st, .inl (cI, 12, .inl sf))]) [2, 3] (by decide) rfl
  have hFc := va_free (wc := [(u, .inr (0, [.int p1, .int p5, .int lw, .int lh, .int lv, .int ac, .int dn, .int fi, .ref bc, .ref st])), (st, .inl (cI, 12, .inl sf))]) hD hS hA [2, 3] rfl
  refine va_callv (va_runV (As := [.int p2, .int p3, .int p4]) (rest := []) ⟨hx, hb, hml, hown, hts⟩ (w_layOut l dC dI u p1 p5 lw lh lv ac dn fi bc st cI sf p2 p3 p4 H.size) (cwV 3 hts (tg_V tw_213 tw_27 tw_28 tw_2 tw_29) rfl rfl rfl (by decide +kernel) ⟨Nat.le_of_ble_eq_true rfl, Nat.le_of_ble_eq_true rfl⟩) ⟨wr_blind, va_recv hK hP (ci := 0) (q0 := 2) rfl rfl, fun U hU hW => ⟨rfl, wr_use hPc (hK.sub [1] rfl) hDc U hU hW⟩⟩ rfl rfl hl.1 rfl (lv_room (Nat.le_of_ble_eq_true rfl)) dX1_picture_114 ⟨Nat.le_of_ble_eq_true rfl, Nat.le_of_ble_eq_true rfl⟩) hS (fun q _ h => hFc q h) hFc (fun u9 t9 H1 locs ht hvm hw hB hz1 hk1 hS => ?_)
  obtain ⟨hP1, hK1, hD1⟩ := hB
  rw [ht] at hP1
  obtain ⟨hP, hD⟩ := va_join (wr := [(q, .inr (1, [.ref wd, .ref us, .ref la, .ref nx])), (us, .inl (cU, 4, .inr (.inr (.inr (.inr g)))))]) (w1 := [(u, .inr (0, [.int p1, .int p5, .int p2, .int p3, .int p4, .int ac, .int dn, .int fi, .ref bc, .ref st])), (st, .inl (cI, 12, .inl (tu_lay p2 p3 sf 11)))]) hP hD [2, 3] [0, 1] rfl rfl (by decide) (by decide) hk1 hFc hP1 hD1
  have hP := hP.sub (ws' := [(q, .inr (1, [.ref wd, .ref us, .ref la, .ref nx])), (us, .inl (cU, 4, .inr (.inr (.inr (.inr g))))), (u, .inr (0, [.int p1, .int p5, .int p2, .int p3, .int p4, .int ac, .int dn, .int fi, .ref bc, .ref st])), (st, .inl (cI, 12, .inl (tu_lay p2 p3 sf 11)))]) [0, 1, 2, 3] rfl
  have hD := hD.sub (ws' := [(q, .inr (1, [.ref wd, .ref us, .ref la, .ref nx])), (us, .inl (cU, 4, .inr (.inr (.inr (.inr g))))), (u, .inr (0, [.int p1, .int p5, .int p2, .int p3, .int p4, .int ac, .int dn, .int fi, .ref bc, .ref st])), (st, .inl (cI, 12, .inl (tu_lay p2 p3 sf 11)))]) [0, 1, 2, 3] (by decide) rfl
  clear hPc hDc hFc hP1 hK1 hD1 hk1 hz1
  generalize H1 = H at hP hS ⊢
  have hP9 : va_P (dC, dI) vwCl [(q, .inr (1, [.ref wd, .ref us, .ref la, .ref nx])), (us, .inl (cU, 4, .inr (.inr (.inr (.inr g))))), (u, .inr (0, [.int p1, .int p5, .int p2, .int p3, .int p4, .int ac, .int dn, .int fi, .ref bc, .ref st])), (st, .inl (cI, 12, .inl (tu_lay p2 p3 sf 11)))] H := hP.sub [0, 1, 2, 3] rfl
  have hD9 : va_D A [(q, .inr (1, [.ref wd, .ref us, .ref la, .ref nx])), (us, .inl (cU, 4, .inr (.inr (.inr (.inr g))))), (u, .inr (0, [.int p1, .int p5, .int p2, .int p3, .int p4, .int ac, .int dn, .int fi, .ref bc, .ref st])), (st, .inl (cI, 12, .inl (tu_lay p2 p3 sf 11)))] := hD.sub [0, 1, 2, 3] (by decide) rfl
  have hK9 : va_K (dC, dI) vwCl [(cU, .object "TextureUnits$Unit"), (cI, .int)] s := hK.sub [0, 1] rfl
  exact W.vret hx hb hr (fun t ht hW => ⟨⟨(), rfl, trivial, by rw [ht]; exact hP9, va_K.moved hW.alike hK9, hD9⟩, hS.F ht⟩) hS.2.2 dX1_picture_117
set_option maxHeartbeats 4000000 in
set_option maxRecDepth 100000 in
theorem w_manner (l : Launch) (dC : Nat → ClassId) (dI : Nat → Nat → Nat) (q wd us la nx : Nat) (cU : ClassId) (g : Nat → Option Nat) (u : Nat) (fr fo lw lh lv ac dn fi : Int32) (bc st : Nat) (p0 p1 p2 p3 : Int32) (sz : Nat) (h0 : ¬ tu_win p0 0 3 = 0) (hg : g p0.toNatClampNeg = some u) (hv : ¬ tu_win p1 0 3 = 0 ∧ ¬ tu_win p2 0 3 = 0 ∧ ¬ tu_win p3 0 3 = 0) : Met l yX1_manner wsX1_manner ({ frames := 2, cells := 0, slots := 0, locals := 43 }) (va_Pc [.ref q, .int p0, .int p1, .int p2, .int p3] (wr_P (dC, dI) vwCl [(q, .inr (1, [.ref wd, .ref us, .ref la, .ref nx])), (us, .inl (cU, 4, .inr (.inr (.inr (.inr g))))), (u, .inr (0, [.int fr, .int fo, .int lw, .int lh, .int lv, .int ac, .int dn, .int fi, .ref bc, .ref st]))] [(cU, .object "TextureUnits$Unit")] sz)) (va_Qv (fun _ : Unit => True) (wr_B (dC, dI) vwCl [(q, .inr (1, [.ref wd, .ref us, .ref la, .ref nx])), (us, .inl (cU, 4, .inr (.inr (.inr (.inr g))))), (u, .inr (0, [.int fr, .int fo, .int lw, .int lh, .int lv, .int p1, .int p2, .int p3, .ref bc, .ref st]))] [(cU, .object "TextureUnits$Unit")] (va_A [(q, .inr (1, [.ref wd, .ref us, .ref la, .ref nx])), (us, .inl (cU, 4, .inr (.inr (.inr (.inr g))))), (u, .inr (0, [.int fr, .int fo, .int lw, .int lh, .int lv, .int ac, .int dn, .int fi, .ref bc, .ref st]))] sz)) (va_A [(q, .inr (1, [.ref wd, .ref us, .ref la, .ref nx])), (us, .inl (cU, 4, .inr (.inr (.inr (.inr g))))), (u, .inr (0, [.int fr, .int fo, .int lw, .int lh, .int lv, .int ac, .int dn, .int fi, .ref bc, .ref st]))] sz)) 0 0 (va_A [(q, .inr (1, [.ref wd, .ref us, .ref la, .ref nx])), (us, .inl (cU, 4, .inr (.inr (.inr (.inr g))))), (u, .inr (0, [.int fr, .int fo, .int lw, .int lh, .int lv, .int ac, .int dn, .int fi, .ref bc, .ref st]))] sz) := by
  refine Met.ofW (cc := cX1_manner) (maxL := 6) (ret := none) (by decide) rfl ?_
  intro p e s m args below meth c s₁ B hml hv
  obtain ⟨rfl, hsz, hP, hK, hD0⟩ := hv
  have hx := B.exec
  have hb := B.bytes
  have hr := B.returns
  have hts := atoms_spec (ws := wsX1_manner) B.pre
  have hown : s.vm.findClass "TextureUnits" = some m.cls := findClass_of_methodNamed B.named
  have hlocks := B.notSynchronized
  subst hsz
  have hD := hD0.self (sz := s.heap.size)
  generalize hAe : va_A [(q, .inr (1, [.ref wd, .ref us, .ref la, .ref nx])), (us, .inl (cU, 4, .inr (.inr (.inr (.inr g))))), (u, .inr (0, [.int fr, .int fo, .int lw, .int lh, .int lv, .int ac, .int dn, .int fi, .ref bc, .ref st]))] s.heap.size = A at hD ⊢
  have hA : ∀ q : Nat, s.heap.size ≤ q → A q := fun q h => by rw [← hAe]; exact Or.inr h
  have hS : va_S A s.heap s.heap [] := va_S.rf
  have hP : va_P (dC, dI) vwCl [(q, .inr (1, [.ref wd, .ref us, .ref la, .ref nx])), (us, .inl (cU, 4, .inr (.inr (.inr (.inr g))))), (u, .inr (0, [.int fr, .int fo, .int lw, .int lh, .int lv, .int ac, .int dn, .int fi, .ref bc, .ref st]))] s.heap := hP
  have hl := lv_entry ([.ref q, .int p0, .int p1, .int p2, .int p3]) (n := 6) (Nat.le_of_ble_eq_true rfl)
  rw [lg_entry_eq]
  generalize (lg_sl ([.ref q, .int p0, .int p1, .int p2, .int p3]) ++ List.replicate (6 - (lg_sl ([.ref q, .int p0, .int p1, .int p2, .int p3])).length) Slot.unset).toArray = ls at hl ⊢
  have hl : lv_has ls 6 [(0, .ref q), (1, .int p0), (2, .int p1), (3, .int p2), (4, .int p3)] := hl
  refine lv_aload_n hx hb dX1_manner_0 rfl (lv_at hl 0 rfl) ?_
  refine lv_iload_n hx hb dX1_manner_1 rfl (lv_at hl 1 rfl) ?_
  refine rf_call (W.runV (As := [.int p0]) (rest := []) ⟨hx, hb, hml, hown, hts⟩ (r_unitAt l dC dI q wd us la nx cU g u p0 h0 hg) (cwV 1 hts (tg_V tw_174 tw_176 tw_p1 tw_1 tw_177) rfl rfl rfl (by decide +kernel) ⟨Nat.le_of_ble_eq_true rfl, Nat.le_of_ble_eq_true rfl⟩) ⟨rd_blind, va_recv hK hP (ci := 1) (q0 := 0) rfl rfl, fun U hU hW => ⟨rfl, rd_use (hP.sub [0, 1] rfl) (hK.sub [0] rfl) U hU hW⟩⟩ rfl rfl hl.1 rfl (lv_room (Nat.le_of_ble_eq_true rfl)) dX1_manner_2 ⟨Nat.le_of_ble_eq_true rfl, Nat.le_of_ble_eq_true rfl⟩) ?_
  refine lv_astore (lv' := [(5, .ref u), (0, .ref q), (1, .int p0), (2, .int p1), (3, .int p2), (4, .int p3)]) hx hb dX1_manner_5 hl (by decide) rfl (fun ls hl => ?_)
  refine lv_iload_n hx hb dX1_manner_7 rfl (lv_at hl 3 rfl) ?_
  refine lv_iconst (v := 0) hx hb dX1_manner_8 (by decide) ?_
  refine lv_iconst (v := 3) hx hb dX1_manner_9 (by decide) ?_
  refine rd_call (W.runS (As := [.int p1, .int 0, .int 3]) (rest := []) ⟨hx, hb, hml, hown, hts⟩ (r_within l p1 0 3) (va_cwS 3 hts (tg_S tw_94 tw_95 tw_1 tw_96) rfl rfl rfl (by decide +kernel) ⟨Nat.le_of_ble_eq_true rfl, Nat.le_of_ble_eq_true rfl⟩) preEq rfl rfl hl.1 rfl (lv_room (Nat.le_of_ble_eq_true rfl)) dX1_manner_10 ⟨Nat.le_of_ble_eq_true rfl, Nat.le_of_ble_eq_true rfl⟩) ?_
  refine lv_if_eq (tgt := 25) hx hb dX1_manner_13 (by decide) (fun c_1 => absurd c_1 hv.1) (fun c_1 => ?_)
  refine lv_iload_n hx hb dX1_manner_16 rfl (lv_at hl 4 rfl) ?_
  refine lv_iconst (v := 0) hx hb dX1_manner_17 (by decide) ?_
  refine lv_iconst (v := 3) hx hb dX1_manner_18 (by decide) ?_
  refine rd_call (W.runS (As := [.int p2, .int 0, .int 3]) (rest := []) ⟨hx, hb, hml, hown, hts⟩ (r_within l p2 0 3) (va_cwS 3 hts (tg_S tw_94 tw_95 tw_1 tw_96) rfl rfl rfl (by decide +kernel) ⟨Nat.le_of_ble_eq_true rfl, Nat.le_of_ble_eq_true rfl⟩) preEq rfl rfl hl.1 rfl (lv_room (Nat.le_of_ble_eq_true rfl)) dX1_manner_19 ⟨Nat.le_of_ble_eq_true rfl, Nat.le_of_ble_eq_true rfl⟩) ?_
  refine lv_if_ne (tgt := 35) hx hb dX1_manner_22 (by decide) (fun c_2 => ?_) (fun c_2 => absurd c_2 hv.2.1)
  refine lv_iload hx hb dX1_manner_35 (lv_at hl 5 rfl) ?_
  refine lv_iconst (v := 0) hx hb dX1_manner_37 (by decide) ?_
  refine lv_iconst (v := 3) hx hb dX1_manner_38 (by decide) ?_
  refine rd_call (W.runS (As := [.int p3, .int 0, .int 3]) (rest := []) ⟨hx, hb, hml, hown, hts⟩ (r_within l p3 0 3) (va_cwS 3 hts (tg_S tw_94 tw_95 tw_1 tw_96) rfl rfl rfl (by decide +kernel) ⟨Nat.le_of_ble_eq_true rfl, Nat.le_of_ble_eq_true rfl⟩) preEq rfl rfl hl.1 rfl (lv_room (Nat.le_of_ble_eq_true rfl)) dX1_manner_39 ⟨Nat.le_of_ble_eq_true rfl, Nat.le_of_ble_eq_true rfl⟩) ?_
  refine lv_if_ne (tgt := 55) hx hb dX1_manner_42 (by decide) (fun c_3 => ?_) (fun c_3 => absurd c_3 hv.2.2)
  refine lv_aload hx hb dX1_manner_55 (lv_at hl 0 rfl) ?_
  refine lv_iload_n hx hb dX1_manner_57 rfl (lv_at hl 3 rfl) ?_
  refine va_put (D := (dC, dI)) (ci := 0) (v := .int p1) (ty := .int) (C := "TextureUnits$Unit") (T := TX0) (N := 10) hx hb hts (tw_s inX0) tyX0 tyX0_ok nmX0 hown hK hP hD hS 2 rfl rfl 5 (by decide) (hts _ (tw_c tw_44)) (fun _ h9 => h9) rfl (by decide +kernel) rfl rfl (Nat.le_of_ble_eq_true rfl) dX1_manner_58 (fun H locs hP hD hS => ?_)
  have hP : va_P (dC, dI) vwCl [(q, .inr (1, [.ref wd, .ref us, .ref la, .ref nx])), (us, .inl (cU, 4, .inr (.inr (.inr (.inr g))))), (u, .inr (0, [.int fr, .int fo, .int lw, .int lh, .int lv, .int p1, .int dn, .int fi, .ref bc, .ref st]))] H := hP
  have hD : va_D A [(q, .inr (1, [.ref wd, .ref us, .ref la, .ref nx])), (us, .inl (cU, 4, .inr (.inr (.inr (.inr g))))), (u, .inr (0, [.int fr, .int fo, .int lw, .int lh, .int lv, .int p1, .int dn, .int fi, .ref bc, .ref st]))] := hD
  refine lv_aload hx hb dX1_manner_61 (lv_at hl 0 rfl) ?_
  refine lv_iload_n hx hb dX1_manner_63 rfl (lv_at hl 4 rfl) ?_
  refine va_put (D := (dC, dI)) (ci := 0) (v := .int p2) (ty := .int) (C := "TextureUnits$Unit") (T := TX0) (N := 10) hx hb hts (tw_s inX0) tyX0 tyX0_ok nmX0 hown hK hP hD hS 2 rfl rfl 6 (by decide) (hts _ (tw_c tw_45)) (fun _ h9 => h9) rfl (by decide +kernel) rfl rfl (Nat.le_of_ble_eq_true rfl) dX1_manner_64 (fun H locs hP hD hS => ?_)
  have hP : va_P (dC, dI) vwCl [(q, .inr (1, [.ref wd, .ref us, .ref la, .ref nx])), (us, .inl (cU, 4, .inr (.inr (.inr (.inr g))))), (u, .inr (0, [.int fr, .int fo, .int lw, .int lh, .int lv, .int p1, .int p2, .int fi, .ref bc, .ref st]))] H := hP
  have hD : va_D A [(q, .inr (1, [.ref wd, .ref us, .ref la, .ref nx])), (us, .inl (cU, 4, .inr (.inr (.inr (.inr g))))), (u, .inr (0, [.int fr, .int fo, .int lw, .int lh, .int lv, .int p1, .int p2, .int fi, .ref bc, .ref st]))] := hD
  refine lv_aload hx hb dX1_manner_67 (lv_at hl 0 rfl) ?_
  refine lv_iload hx hb dX1_manner_69 (lv_at hl 5 rfl) ?_
  refine va_put (D := (dC, dI)) (ci := 0) (v := .int p3) (ty := .int) (C := "TextureUnits$Unit") (T := TX0) (N := 10) hx hb hts (tw_s inX0) tyX0 tyX0_ok nmX0 hown hK hP hD hS 2 rfl rfl 7 (by decide) (hts _ (tw_c tw_46)) (fun _ h9 => h9) rfl (by decide +kernel) rfl rfl (Nat.le_of_ble_eq_true rfl) dX1_manner_71 (fun H locs hP hD hS => ?_)
  have hP : va_P (dC, dI) vwCl [(q, .inr (1, [.ref wd, .ref us, .ref la, .ref nx])), (us, .inl (cU, 4, .inr (.inr (.inr (.inr g))))), (u, .inr (0, [.int fr, .int fo, .int lw, .int lh, .int lv, .int p1, .int p2, .int p3, .ref bc, .ref st]))] H := hP
  have hD : va_D A [(q, .inr (1, [.ref wd, .ref us, .ref la, .ref nx])), (us, .inl (cU, 4, .inr (.inr (.inr (.inr g))))), (u, .inr (0, [.int fr, .int fo, .int lw, .int lh, .int lv, .int p1, .int p2, .int p3, .ref bc, .ref st]))] := hD
  have hP9 : va_P (dC, dI) vwCl [(q, .inr (1, [.ref wd, .ref us, .ref la, .ref nx])), (us, .inl (cU, 4, .inr (.inr (.inr (.inr g))))), (u, .inr (0, [.int fr, .int fo, .int lw, .int lh, .int lv, .int p1, .int p2, .int p3, .ref bc, .ref st]))] H := hP.sub [0, 1, 2] rfl
  have hD9 : va_D A [(q, .inr (1, [.ref wd, .ref us, .ref la, .ref nx])), (us, .inl (cU, 4, .inr (.inr (.inr (.inr g))))), (u, .inr (0, [.int fr, .int fo, .int lw, .int lh, .int lv, .int p1, .int p2, .int p3, .ref bc, .ref st]))] := hD.sub [0, 1, 2] (by decide) rfl
  have hK9 : va_K (dC, dI) vwCl [(cU, .object "TextureUnits$Unit")] s := hK.sub [0] rfl
  exact W.vret hx hb hr (fun t ht hW => ⟨⟨(), rfl, trivial, by rw [ht]; exact hP9, va_K.moved hW.alike hK9, hD9⟩, hS.F ht⟩) hS.2.2 dX1_manner_74
set_option maxHeartbeats 4000000 in
set_option maxRecDepth 100000 in
theorem w_border (l : Launch) (dC : Nat → ClassId) (dI : Nat → Nat → Nat) (q wd us la nx : Nat) (cU : ClassId) (g : Nat → Option Nat) (u : Nat) (fr fo lw lh lv ac dn fi : Int32) (bc st : Nat) (cI : ClassId) (bd : Nat → Int32) (p0 p1 p2 p3 p4 : Int32) (sz : Nat) (h0 : ¬ tu_win p0 0 3 = 0) (hg : g p0.toNatClampNeg = some u) : Met l yX1_border wsX1_border ({ frames := 2, cells := 0, slots := 0, locals := 43 }) (va_Pc [.ref q, .int p0, .int p1, .int p2, .int p3, .int p4] (wr_P (dC, dI) vwCl [(q, .inr (1, [.ref wd, .ref us, .ref la, .ref nx])), (us, .inl (cU, 4, .inr (.inr (.inr (.inr g))))), (u, .inr (0, [.int fr, .int fo, .int lw, .int lh, .int lv, .int ac, .int dn, .int fi, .ref bc, .ref st])), (bc, .inl (cI, 4, .inl bd))] [(cU, .object "TextureUnits$Unit"), (cI, .int)] sz)) (va_Qv (fun _ : Unit => True) (wr_B (dC, dI) vwCl [(q, .inr (1, [.ref wd, .ref us, .ref la, .ref nx])), (us, .inl (cU, 4, .inr (.inr (.inr (.inr g))))), (u, .inr (0, [.int fr, .int fo, .int lw, .int lh, .int lv, .int ac, .int dn, .int fi, .ref bc, .ref st])), (bc, .inl (cI, 4, .inl (tu_put4 bd p1 p2 p3 p4)))] [(cU, .object "TextureUnits$Unit"), (cI, .int)] (va_A [(q, .inr (1, [.ref wd, .ref us, .ref la, .ref nx])), (us, .inl (cU, 4, .inr (.inr (.inr (.inr g))))), (u, .inr (0, [.int fr, .int fo, .int lw, .int lh, .int lv, .int ac, .int dn, .int fi, .ref bc, .ref st])), (bc, .inl (cI, 4, .inl bd))] sz)) (va_A [(q, .inr (1, [.ref wd, .ref us, .ref la, .ref nx])), (us, .inl (cU, 4, .inr (.inr (.inr (.inr g))))), (u, .inr (0, [.int fr, .int fo, .int lw, .int lh, .int lv, .int ac, .int dn, .int fi, .ref bc, .ref st])), (bc, .inl (cI, 4, .inl bd))] sz)) 0 0 (va_A [(q, .inr (1, [.ref wd, .ref us, .ref la, .ref nx])), (us, .inl (cU, 4, .inr (.inr (.inr (.inr g))))), (u, .inr (0, [.int fr, .int fo, .int lw, .int lh, .int lv, .int ac, .int dn, .int fi, .ref bc, .ref st])), (bc, .inl (cI, 4, .inl bd))] sz) := by
  refine Met.ofW (cc := cX1_border) (maxL := 7) (ret := none) (by decide) rfl ?_
  intro p e s m args below meth c s₁ B hml hv
  obtain ⟨rfl, hsz, hP, hK, hD0⟩ := hv
  have hx := B.exec
  have hb := B.bytes
  have hr := B.returns
  have hts := atoms_spec (ws := wsX1_border) B.pre
  have hown : s.vm.findClass "TextureUnits" = some m.cls := findClass_of_methodNamed B.named
  have hlocks := B.notSynchronized
  subst hsz
  have hD := hD0.self (sz := s.heap.size)
  generalize hAe : va_A [(q, .inr (1, [.ref wd, .ref us, .ref la, .ref nx])), (us, .inl (cU, 4, .inr (.inr (.inr (.inr g))))), (u, .inr (0, [.int fr, .int fo, .int lw, .int lh, .int lv, .int ac, .int dn, .int fi, .ref bc, .ref st])), (bc, .inl (cI, 4, .inl bd))] s.heap.size = A at hD ⊢
  have hA : ∀ q : Nat, s.heap.size ≤ q → A q := fun q h => by rw [← hAe]; exact Or.inr h
  have hS : va_S A s.heap s.heap [] := va_S.rf
  have hP : va_P (dC, dI) vwCl [(q, .inr (1, [.ref wd, .ref us, .ref la, .ref nx])), (us, .inl (cU, 4, .inr (.inr (.inr (.inr g))))), (u, .inr (0, [.int fr, .int fo, .int lw, .int lh, .int lv, .int ac, .int dn, .int fi, .ref bc, .ref st])), (bc, .inl (cI, 4, .inl bd))] s.heap := hP
  have hl := lv_entry ([.ref q, .int p0, .int p1, .int p2, .int p3, .int p4]) (n := 7) (Nat.le_of_ble_eq_true rfl)
  rw [lg_entry_eq]
  generalize (lg_sl ([.ref q, .int p0, .int p1, .int p2, .int p3, .int p4]) ++ List.replicate (7 - (lg_sl ([.ref q, .int p0, .int p1, .int p2, .int p3, .int p4])).length) Slot.unset).toArray = ls at hl ⊢
  have hl : lv_has ls 7 [(0, .ref q), (1, .int p0), (2, .int p1), (3, .int p2), (4, .int p3), (5, .int p4)] := hl
  refine lv_aload_n hx hb dX1_border_0 rfl (lv_at hl 0 rfl) ?_
  refine lv_iload_n hx hb dX1_border_1 rfl (lv_at hl 1 rfl) ?_
  refine rf_call (W.runV (As := [.int p0]) (rest := []) ⟨hx, hb, hml, hown, hts⟩ (r_unitAt l dC dI q wd us la nx cU g u p0 h0 hg) (cwV 1 hts (tg_V tw_174 tw_176 tw_p1 tw_1 tw_177) rfl rfl rfl (by decide +kernel) ⟨Nat.le_of_ble_eq_true rfl, Nat.le_of_ble_eq_true rfl⟩) ⟨rd_blind, va_recv hK hP (ci := 1) (q0 := 0) rfl rfl, fun U hU hW => ⟨rfl, rd_use (hP.sub [0, 1] rfl) (hK.sub [0] rfl) U hU hW⟩⟩ rfl rfl hl.1 rfl (lv_room (Nat.le_of_ble_eq_true rfl)) dX1_border_2 ⟨Nat.le_of_ble_eq_true rfl, Nat.le_of_ble_eq_true rfl⟩) ?_
  refine va_get (D := (dC, dI)) (ci := 0) (v := .ref bc) (C := "TextureUnits$Unit") (T := TX0) (N := 10) hx hb hts (tw_s inX0) hown hK hP 2 rfl rfl 8 (by decide) (hts _ (tw_c tw_48)) (fun _ h9 => h9) rfl dX1_border_5 ?_
  refine lv_astore (lv' := [(6, .ref bc), (0, .ref q), (1, .int p0), (2, .int p1), (3, .int p2), (4, .int p3), (5, .int p4)]) hx hb dX1_border_8 hl (by decide) rfl (fun ls hl => ?_)
  refine lv_aload hx hb dX1_border_10 (lv_at hl 0 rfl) ?_
  refine lv_iconst (v := 0) hx hb dX1_border_12 (by decide) ?_
  refine lv_iload_n hx hb dX1_border_13 rfl (lv_at hl 3 rfl) ?_
  refine va_iast hx hb hK hP hD hS 3 1 rfl rfl (tu_in (by decide)) dX1_border_14 (fun H locs hP hD hS => ?_)
  have hP : va_P (dC, dI) vwCl [(q, .inr (1, [.ref wd, .ref us, .ref la, .ref nx])), (us, .inl (cU, 4, .inr (.inr (.inr (.inr g))))), (u, .inr (0, [.int fr, .int fo, .int lw, .int lh, .int lv, .int ac, .int dn, .int fi, .ref bc, .ref st])), (bc, .inl (cI, 4, .inl (upd bd 0 p1)))] H := hP
  have hD : va_D A [(q, .inr (1, [.ref wd, .ref us, .ref la, .ref nx])), (us, .inl (cU, 4, .inr (.inr (.inr (.inr g))))), (u, .inr (0, [.int fr, .int fo, .int lw, .int lh, .int lv, .int ac, .int dn, .int fi, .ref bc, .ref st])), (bc, .inl (cI, 4, .inl (upd bd 0 p1)))] := hD
  refine lv_aload hx hb dX1_border_15 (lv_at hl 0 rfl) ?_
  refine lv_iconst (v := 1) hx hb dX1_border_17 (by decide) ?_
  refine lv_iload_n hx hb dX1_border_18 rfl (lv_at hl 4 rfl) ?_
  refine va_iast hx hb hK hP hD hS 3 1 rfl rfl (tu_in (by decide)) dX1_border_19 (fun H locs hP hD hS => ?_)
  have hP : va_P (dC, dI) vwCl [(q, .inr (1, [.ref wd, .ref us, .ref la, .ref nx])), (us, .inl (cU, 4, .inr (.inr (.inr (.inr g))))), (u, .inr (0, [.int fr, .int fo, .int lw, .int lh, .int lv, .int ac, .int dn, .int fi, .ref bc, .ref st])), (bc, .inl (cI, 4, .inl (upd (upd bd 0 p1) 1 p2)))] H := hP
  have hD : va_D A [(q, .inr (1, [.ref wd, .ref us, .ref la, .ref nx])), (us, .inl (cU, 4, .inr (.inr (.inr (.inr g))))), (u, .inr (0, [.int fr, .int fo, .int lw, .int lh, .int lv, .int ac, .int dn, .int fi, .ref bc, .ref st])), (bc, .inl (cI, 4, .inl (upd (upd bd 0 p1) 1 p2)))] := hD
  refine lv_aload hx hb dX1_border_20 (lv_at hl 0 rfl) ?_
  refine lv_iconst (v := 2) hx hb dX1_border_22 (by decide) ?_
  refine lv_iload hx hb dX1_border_23 (lv_at hl 5 rfl) ?_
  refine va_iast hx hb hK hP hD hS 3 1 rfl rfl (tu_in (by decide)) dX1_border_25 (fun H locs hP hD hS => ?_)
  have hP : va_P (dC, dI) vwCl [(q, .inr (1, [.ref wd, .ref us, .ref la, .ref nx])), (us, .inl (cU, 4, .inr (.inr (.inr (.inr g))))), (u, .inr (0, [.int fr, .int fo, .int lw, .int lh, .int lv, .int ac, .int dn, .int fi, .ref bc, .ref st])), (bc, .inl (cI, 4, .inl (upd (upd (upd bd 0 p1) 1 p2) 2 p3)))] H := hP
  have hD : va_D A [(q, .inr (1, [.ref wd, .ref us, .ref la, .ref nx])), (us, .inl (cU, 4, .inr (.inr (.inr (.inr g))))), (u, .inr (0, [.int fr, .int fo, .int lw, .int lh, .int lv, .int ac, .int dn, .int fi, .ref bc, .ref st])), (bc, .inl (cI, 4, .inl (upd (upd (upd bd 0 p1) 1 p2) 2 p3)))] := hD
  refine lv_aload hx hb dX1_border_26 (lv_at hl 0 rfl) ?_
  refine lv_iconst (v := 3) hx hb dX1_border_28 (by decide) ?_
  refine lv_iload hx hb dX1_border_29 (lv_at hl 6 rfl) ?_
  refine va_iast hx hb hK hP hD hS 3 1 rfl rfl (tu_in (by decide)) dX1_border_31 (fun H locs hP hD hS => ?_)
  have hP : va_P (dC, dI) vwCl [(q, .inr (1, [.ref wd, .ref us, .ref la, .ref nx])), (us, .inl (cU, 4, .inr (.inr (.inr (.inr g))))), (u, .inr (0, [.int fr, .int fo, .int lw, .int lh, .int lv, .int ac, .int dn, .int fi, .ref bc, .ref st])), (bc, .inl (cI, 4, .inl (upd (upd (upd (upd bd 0 p1) 1 p2) 2 p3) 3 p4)))] H := hP
  have hD : va_D A [(q, .inr (1, [.ref wd, .ref us, .ref la, .ref nx])), (us, .inl (cU, 4, .inr (.inr (.inr (.inr g))))), (u, .inr (0, [.int fr, .int fo, .int lw, .int lh, .int lv, .int ac, .int dn, .int fi, .ref bc, .ref st])), (bc, .inl (cI, 4, .inl (upd (upd (upd (upd bd 0 p1) 1 p2) 2 p3) 3 p4)))] := hD
  have hP9 : va_P (dC, dI) vwCl [(q, .inr (1, [.ref wd, .ref us, .ref la, .ref nx])), (us, .inl (cU, 4, .inr (.inr (.inr (.inr g))))), (u, .inr (0, [.int fr, .int fo, .int lw, .int lh, .int lv, .int ac, .int dn, .int fi, .ref bc, .ref st])), (bc, .inl (cI, 4, .inl (tu_put4 bd p1 p2 p3 p4)))] H := hP.sub [0, 1, 2, 3] rfl
  have hD9 : va_D A [(q, .inr (1, [.ref wd, .ref us, .ref la, .ref nx])), (us, .inl (cU, 4, .inr (.inr (.inr (.inr g))))), (u, .inr (0, [.int fr, .int fo, .int lw, .int lh, .int lv, .int ac, .int dn, .int fi, .ref bc, .ref st])), (bc, .inl (cI, 4, .inl (tu_put4 bd p1 p2 p3 p4)))] := hD.sub [0, 1, 2, 3] (by decide) rfl
  have hK9 : va_K (dC, dI) vwCl [(cU, .object "TextureUnits$Unit"), (cI, .int)] s := hK.sub [0, 1] rfl
  exact W.vret hx hb hr (fun t ht hW => ⟨⟨(), rfl, trivial, by rw [ht]; exact hP9, va_K.moved hW.alike hK9, hD9⟩, hS.F ht⟩) hS.2.2 dX1_border_32
set_option maxHeartbeats 4000000 in
set_option maxRecDepth 100000 in
theorem r_texel (l : Launch) (dC : Nat → ClassId) (dI : Nat → Nat → Nat) (q wd us la nx : Nat) (cU : ClassId) (g : Nat → Option Nat) (u : Nat) (fr fo lw lh lv ac dn fi : Int32) (bc st : Nat) (cI : ClassId) (mem sf : Nat → Int32) (tb : Nat × Nat × Nat) (p0 p1 p2 p3 p4 : Int32) (h0 : ¬ tu_win p0 0 3 = 0) (hg : g p0.toNatClampNeg = some u) (hv : ¬ tu_win p1 0 (lv - 1) = 0 ∧ ¬ tu_win p2 0 (tu_len lw p1 - 1) = 0 ∧ ¬ tu_win p3 0 (tu_len lh p1 - 1) = 0 ∧ ¬ tu_win p4 0 3 = 0) (h1 : vp_in fo 8) (h2 : vp_in p1 12) : Met l yX1_texel wsX1_texel ({ frames := 3, cells := 0, slots := 0, locals := 75 }) (va_Pc [.ref q, .int p0, .int p1, .int p2, .int p3, .int p4] (rt_B (dC, dI) vwCl [(q, .inr (1, [.ref wd, .ref us, .ref la, .ref nx])), (us, .inl (cU, 4, .inr (.inr (.inr (.inr g))))), (u, .inr (0, [.int fr, .int fo, .int lw, .int lh, .int lv, .int ac, .int dn, .int fi, .ref bc, .ref st])), (wd, .inl (cI, 2048, .inl mem)), (st, .inl (cI, 12, .inl sf))] [(cU, .object "TextureUnits$Unit"), (cI, .int)] tb)) (QcRead (tu_stored mem sf fr fo lw p1 p2 p3 p4)) 0 0 (fun _ => False) := by
  refine Met.ofW (cc := cX1_texel) (maxL := 7) (ret := some .int) (by decide) rfl ?_
  intro p e s m args below meth c s₁ B hml hv
  obtain ⟨rfl, hP, hK, hX⟩ := hv
  have hx := B.exec
  have hb := B.bytes
  have hr := B.returns
  have hts := atoms_spec (ws := wsX1_texel) B.pre
  have hown : s.vm.findClass "TextureUnits" = some m.cls := findClass_of_methodNamed B.named
  have hlocks := B.notSynchronized
  have hl := lv_entry ([.ref q, .int p0, .int p1, .int p2, .int p3, .int p4]) (n := 7) (Nat.le_of_ble_eq_true rfl)
  rw [lg_entry_eq]
  generalize (lg_sl ([.ref q, .int p0, .int p1, .int p2, .int p3, .int p4]) ++ List.replicate (7 - (lg_sl ([.ref q, .int p0, .int p1, .int p2, .int p3, .int p4])).length) Slot.unset).toArray = ls at hl ⊢
  have hl : lv_has ls 7 [(0, .ref q), (1, .int p0), (2, .int p1), (3, .int p2), (4, .int p3), (5, .int p4)] := hl
  refine lv_aload_n hx hb dX1_texel_0 rfl (lv_at hl 0 rfl) ?_
  refine lv_iload_n hx hb dX1_texel_1 rfl (lv_at hl 1 rfl) ?_
  refine rf_call (W.runV (As := [.int p0]) (rest := []) ⟨hx, hb, hml, hown, hts⟩ (r_unitAt l dC dI q wd us la nx cU g u p0 h0 hg) (cwV 1 hts (tg_V tw_174 tw_176 tw_p1 tw_1 tw_177) rfl rfl rfl (by decide +kernel) ⟨Nat.le_of_ble_eq_true rfl, Nat.le_of_ble_eq_true rfl⟩) ⟨rd_blind, va_recv hK hP (ci := 1) (q0 := 0) rfl rfl, fun U hU hW => ⟨rfl, rd_use (hP.sub [0, 1] rfl) (hK.sub [0] rfl) U hU hW⟩⟩ rfl rfl hl.1 rfl (lv_room (Nat.le_of_ble_eq_true rfl)) dX1_texel_2 ⟨Nat.le_of_ble_eq_true rfl, Nat.le_of_ble_eq_true rfl⟩) ?_
  refine lv_astore (lv' := [(6, .ref u), (0, .ref q), (1, .int p0), (2, .int p1), (3, .int p2), (4, .int p3), (5, .int p4)]) hx hb dX1_texel_5 hl (by decide) rfl (fun ls hl => ?_)
  refine lv_iload_n hx hb dX1_texel_7 rfl (lv_at hl 3 rfl) ?_
  refine lv_iconst (v := 0) hx hb dX1_texel_8 (by decide) ?_
  refine lv_aload hx hb dX1_texel_9 (lv_at hl 0 rfl) ?_
  refine va_get (D := (dC, dI)) (ci := 0) (v := .int lv) (C := "TextureUnits$Unit") (T := TX0) (N := 10) hx hb hts (tw_s inX0) hown hK hP 2 rfl rfl 4 (by decide) (hts _ (tw_c tw_43)) (fun _ h9 => h9) rfl dX1_texel_11 ?_
  refine lv_iconst (v := 1) hx hb dX1_texel_14 (by decide) ?_
  refine lv_isub hx hb dX1_texel_15 ?_
  refine rd_call (W.runS (As := [.int p1, .int 0, .int (lv - (1 : Int32))]) (rest := []) ⟨hx, hb, hml, hown, hts⟩ (r_within l p1 0 (lv - (1 : Int32))) (va_cwS 3 hts (tg_S tw_94 tw_95 tw_1 tw_96) rfl rfl rfl (by decide +kernel) ⟨Nat.le_of_ble_eq_true rfl, Nat.le_of_ble_eq_true rfl⟩) preEq rfl rfl hl.1 rfl (lv_room (Nat.le_of_ble_eq_true rfl)) dX1_texel_16 ⟨Nat.le_of_ble_eq_true rfl, Nat.le_of_ble_eq_true rfl⟩) ?_
  refine lv_if_ne (tgt := 32) hx hb dX1_texel_19 (by decide) (fun c_1 => ?_) (fun c_1 => absurd c_1 hv.1)
  refine lv_iload_n hx hb dX1_texel_32 rfl (lv_at hl 4 rfl) ?_
  refine lv_iconst (v := 0) hx hb dX1_texel_33 (by decide) ?_
  refine lv_aload hx hb dX1_texel_34 (lv_at hl 0 rfl) ?_
  refine lv_iload_n hx hb dX1_texel_36 rfl (lv_at hl 3 rfl) ?_
  refine rd_call (W.runV (As := [.int p1]) (rest := [.int 0, .int p2]) ⟨hx, hb, hml, hown, hts⟩ (r_width l dC dI u fr fo lw lh lv ac dn fi bc st p1) (cwV 1 hts (tg_V tw_238 tw_31 tw_32 tw_2 tw_33) rfl rfl rfl (by decide +kernel) ⟨Nat.le_of_ble_eq_true rfl, Nat.le_of_ble_eq_true rfl⟩) ⟨rd_blind, va_recv hK hP (ci := 0) (q0 := 2) rfl rfl, fun U hU hW => ⟨rfl, rd_use (hP.sub [2] rfl) (hK.sub [] rfl) U hU hW⟩⟩ rfl rfl hl.1 rfl (lv_room (Nat.le_of_ble_eq_true rfl)) dX1_texel_37 ⟨Nat.le_of_ble_eq_true rfl, Nat.le_of_ble_eq_true rfl⟩) ?_
  refine lv_iconst (v := 1) hx hb dX1_texel_40 (by decide) ?_
  refine lv_isub hx hb dX1_texel_41 ?_
  refine rd_call (W.runS (As := [.int p2, .int 0, .int ((tu_len lw p1) - (1 : Int32))]) (rest := []) ⟨hx, hb, hml, hown, hts⟩ (r_within l p2 0 ((tu_len lw p1) - (1 : Int32))) (va_cwS 3 hts (tg_S tw_94 tw_95 tw_1 tw_96) rfl rfl rfl (by decide +kernel) ⟨Nat.le_of_ble_eq_true rfl, Nat.le_of_ble_eq_true rfl⟩) preEq rfl rfl hl.1 rfl (lv_room (Nat.le_of_ble_eq_true rfl)) dX1_texel_42 ⟨Nat.le_of_ble_eq_true rfl, Nat.le_of_ble_eq_true rfl⟩) ?_
  refine lv_if_eq (tgt := 65) hx hb dX1_texel_45 (by decide) (fun c_2 => absurd c_2 hv.2.1) (fun c_2 => ?_)
  refine lv_iload hx hb dX1_texel_48 (lv_at hl 5 rfl) ?_
  refine lv_iconst (v := 0) hx hb dX1_texel_50 (by decide) ?_
  refine lv_aload hx hb dX1_texel_51 (lv_at hl 0 rfl) ?_
  refine lv_iload_n hx hb dX1_texel_53 rfl (lv_at hl 3 rfl) ?_
  refine rd_call (W.runV (As := [.int p1]) (rest := [.int 0, .int p3]) ⟨hx, hb, hml, hown, hts⟩ (r_height l dC dI u fr fo lw lh lv ac dn fi bc st p1) (cwV 1 hts (tg_V tw_239 tw_35 tw_36 tw_2 tw_37) rfl rfl rfl (by decide +kernel) ⟨Nat.le_of_ble_eq_true rfl, Nat.le_of_ble_eq_true rfl⟩) ⟨rd_blind, va_recv hK hP (ci := 0) (q0 := 2) rfl rfl, fun U hU hW => ⟨rfl, rd_use (hP.sub [2] rfl) (hK.sub [] rfl) U hU hW⟩⟩ rfl rfl hl.1 rfl (lv_room (Nat.le_of_ble_eq_true rfl)) dX1_texel_54 ⟨Nat.le_of_ble_eq_true rfl, Nat.le_of_ble_eq_true rfl⟩) ?_
  refine lv_iconst (v := 1) hx hb dX1_texel_57 (by decide) ?_
  refine lv_isub hx hb dX1_texel_58 ?_
  refine rd_call (W.runS (As := [.int p3, .int 0, .int ((tu_len lh p1) - (1 : Int32))]) (rest := []) ⟨hx, hb, hml, hown, hts⟩ (r_within l p3 0 ((tu_len lh p1) - (1 : Int32))) (va_cwS 3 hts (tg_S tw_94 tw_95 tw_1 tw_96) rfl rfl rfl (by decide +kernel) ⟨Nat.le_of_ble_eq_true rfl, Nat.le_of_ble_eq_true rfl⟩) preEq rfl rfl hl.1 rfl (lv_room (Nat.le_of_ble_eq_true rfl)) dX1_texel_59 ⟨Nat.le_of_ble_eq_true rfl, Nat.le_of_ble_eq_true rfl⟩) ?_
  refine lv_if_ne (tgt := 75) hx hb dX1_texel_62 (by decide) (fun c_3 => ?_) (fun c_3 => absurd c_3 hv.2.2.1)
  refine lv_iload hx hb dX1_texel_75 (lv_at hl 6 rfl) ?_
  refine lv_iconst (v := 0) hx hb dX1_texel_77 (by decide) ?_
  refine lv_iconst (v := 3) hx hb dX1_texel_78 (by decide) ?_
  refine rd_call (W.runS (As := [.int p4, .int 0, .int 3]) (rest := []) ⟨hx, hb, hml, hown, hts⟩ (r_within l p4 0 3) (va_cwS 3 hts (tg_S tw_94 tw_95 tw_1 tw_96) rfl rfl rfl (by decide +kernel) ⟨Nat.le_of_ble_eq_true rfl, Nat.le_of_ble_eq_true rfl⟩) preEq rfl rfl hl.1 rfl (lv_room (Nat.le_of_ble_eq_true rfl)) dX1_texel_79 ⟨Nat.le_of_ble_eq_true rfl, Nat.le_of_ble_eq_true rfl⟩) ?_
  refine lv_if_ne (tgt := 95) hx hb dX1_texel_82 (by decide) (fun c_4 => ?_) (fun c_4 => absurd c_4 hv.2.2.2)
  refine lv_aload_n hx hb dX1_texel_95 rfl (lv_at hl 1 rfl) ?_
  refine lv_aload hx hb dX1_texel_96 (lv_at hl 0 rfl) ?_
  refine lv_iload_n hx hb dX1_texel_98 rfl (lv_at hl 3 rfl) ?_
  refine lv_iload_n hx hb dX1_texel_99 rfl (lv_at hl 4 rfl) ?_
  refine lv_iload hx hb dX1_texel_100 (lv_at hl 5 rfl) ?_
  refine lv_iload hx hb dX1_texel_102 (lv_at hl 6 rfl) ?_
  refine rd_call (W.runV (As := [.ref u, .int p1, .int p2, .int p3, .int p4]) (rest := []) ⟨hx, hb, hml, hown, hts⟩ (r_stored l dC dI q wd us la nx u fr fo lw lh lv ac dn fi bc st cI mem sf tb p1 p2 p3 p4 h2 h1 (tu_fo4 h1 (tu_win_in hv.2.2.2 (by decide)))) (cwV 5 hts (tg_V tw_242 tw_244 tw_p2 tw_1 tw_245) rfl rfl rfl (by decide +kernel) ⟨Nat.le_of_ble_eq_true rfl, Nat.le_of_ble_eq_true rfl⟩) ⟨rt_blind, va_recv hK hP (ci := 1) (q0 := 0) rfl rfl, fun U hU hW => ⟨rfl, rt_use (hP.sub [0, 2, 3, 4] rfl) (hK.sub [1] rfl) hX U hU hW⟩⟩ rfl rfl hl.1 rfl (lv_room (Nat.le_of_ble_eq_true rfl)) dX1_texel_104 ⟨Nat.le_of_ble_eq_true rfl, Nat.le_of_ble_eq_true rfl⟩) ?_
  exact W.iret (v := (tu_stored mem sf fr fo lw p1 p2 p3 p4)) hx hb hr (fun t ht hW => rd_q rfl ht) (fun q h => by cases h) dX1_texel_107
set_option maxHeartbeats 4000000 in
set_option maxRecDepth 100000 in
theorem r_texels (l : Launch) (dC : Nat → ClassId) (dI : Nat → Nat → Nat) (q wd us la nx : Nat) (cU : ClassId) (g : Nat → Option Nat) (u : Nat) (fr fo lw lh lv ac dn fi : Int32) (bc st : Nat) (cI : ClassId) (sf : Nat → Int32) (p0 : Int32) (h0 : ¬ tu_win p0 0 3 = 0) (hg : g p0.toNatClampNeg = some u) (h1 : vp_in lv 12) : Met l yX1_texels wsX1_texels ({ frames := 2, cells := 0, slots := 0, locals := 43 }) (va_Pc [.ref q, .int p0] (rd_B (dC, dI) vwCl [(q, .inr (1, [.ref wd, .ref us, .ref la, .ref nx])), (us, .inl (cU, 4, .inr (.inr (.inr (.inr g))))), (u, .inr (0, [.int fr, .int fo, .int lw, .int lh, .int lv, .int ac, .int dn, .int fi, .ref bc, .ref st])), (st, .inl (cI, 12, .inl sf))] [(cU, .object "TextureUnits$Unit"), (cI, .int)])) (QcRead (sf lv.toNatClampNeg)) 0 0 (fun _ => False) := by
  refine Met.ofW (cc := cX1_texels) (maxL := 3) (ret := some .int) (by decide) rfl ?_
  intro p e s m args below meth c s₁ B hml hv
  obtain ⟨rfl, hP, hK⟩ := hv
  have hx := B.exec
  have hb := B.bytes
  have hr := B.returns
  have hts := atoms_spec (ws := wsX1_texels) B.pre
  have hown : s.vm.findClass "TextureUnits" = some m.cls := findClass_of_methodNamed B.named
  have hlocks := B.notSynchronized
  have hl := lv_entry ([.ref q, .int p0]) (n := 3) (Nat.le_of_ble_eq_true rfl)
  rw [lg_entry_eq]
  generalize (lg_sl ([.ref q, .int p0]) ++ List.replicate (3 - (lg_sl ([.ref q, .int p0])).length) Slot.unset).toArray = ls at hl ⊢
  have hl : lv_has ls 3 [(0, .ref q), (1, .int p0)] := hl
  refine lv_aload_n hx hb dX1_texels_0 rfl (lv_at hl 0 rfl) ?_
  refine lv_iload_n hx hb dX1_texels_1 rfl (lv_at hl 1 rfl) ?_
  refine rf_call (W.runV (As := [.int p0]) (rest := []) ⟨hx, hb, hml, hown, hts⟩ (r_unitAt l dC dI q wd us la nx cU g u p0 h0 hg) (cwV 1 hts (tg_V tw_174 tw_176 tw_p1 tw_1 tw_177) rfl rfl rfl (by decide +kernel) ⟨Nat.le_of_ble_eq_true rfl, Nat.le_of_ble_eq_true rfl⟩) ⟨rd_blind, va_recv hK hP (ci := 1) (q0 := 0) rfl rfl, fun U hU hW => ⟨rfl, rd_use (hP.sub [0, 1] rfl) (hK.sub [0] rfl) U hU hW⟩⟩ rfl rfl hl.1 rfl (lv_room (Nat.le_of_ble_eq_true rfl)) dX1_texels_2 ⟨Nat.le_of_ble_eq_true rfl, Nat.le_of_ble_eq_true rfl⟩) ?_
  refine lv_astore_n (lv' := [(2, .ref u), (0, .ref q), (1, .int p0)]) hx hb dX1_texels_5 rfl hl (by decide) rfl (fun ls hl => ?_)
  refine lv_aload_n hx hb dX1_texels_6 rfl (lv_at hl 0 rfl) ?_
  refine va_get (D := (dC, dI)) (ci := 0) (v := .ref st) (C := "TextureUnits$Unit") (T := TX0) (N := 10) hx hb hts (tw_s inX0) hown hK hP 2 rfl rfl 9 (by decide) (hts _ (tw_c tw_50)) (fun _ h9 => h9) rfl dX1_texels_7 ?_
  refine lv_aload_n hx hb dX1_texels_10 rfl (lv_at hl 0 rfl) ?_
  refine va_get (D := (dC, dI)) (ci := 0) (v := .int lv) (C := "TextureUnits$Unit") (T := TX0) (N := 10) hx hb hts (tw_s inX0) hown hK hP 2 rfl rfl 4 (by decide) (hts _ (tw_c tw_43)) (fun _ h9 => h9) rfl dX1_texels_11 ?_
  refine va_iald hx hb hK hP 3 1 rfl rfl h1 dX1_texels_14 ?_
  exact W.iret (v := (sf lv.toNatClampNeg)) hx hb hr (fun t ht hW => rd_q rfl ht) (fun q h => by cases h) dX1_texels_15
set_option maxHeartbeats 4000000 in
set_option maxRecDepth 100000 in
theorem r_also (l : Launch) (dC : Nat → ClassId) (dI : Nat → Nat → Nat) (q wd us la nx : Nat) (cI : ClassId) (lat : Nat → Int32) (p0 : Int32) (h0 : ¬ tu_win p0 0 3 = 0) : Met l yX1_also wsX1_also ({ frames := 1, cells := 0, slots := 0, locals := 22 }) (va_Pc [.ref q, .int p0] (rd_B (dC, dI) vwCl [(q, .inr (1, [.ref wd, .ref us, .ref la, .ref nx])), (la, .inl (cI, 4, .inl lat))] [(cI, .int)])) (QcRead (lat p0.toNatClampNeg)) 0 0 (fun _ => False) := by
  refine Met.ofW (cc := cX1_also) (maxL := 2) (ret := some .int) (by decide) rfl ?_
  intro p e s m args below meth c s₁ B hml hv
  obtain ⟨rfl, hP, hK⟩ := hv
  have hx := B.exec
  have hb := B.bytes
  have hr := B.returns
  have hts := atoms_spec (ws := wsX1_also) B.pre
  have hown : s.vm.findClass "TextureUnits" = some m.cls := findClass_of_methodNamed B.named
  have hlocks := B.notSynchronized
  have hl := lv_entry ([.ref q, .int p0]) (n := 2) (Nat.le_of_ble_eq_true rfl)
  rw [lg_entry_eq]
  generalize (lg_sl ([.ref q, .int p0]) ++ List.replicate (2 - (lg_sl ([.ref q, .int p0])).length) Slot.unset).toArray = ls at hl ⊢
  have hl : lv_has ls 2 [(0, .ref q), (1, .int p0)] := hl
  refine lv_iload_n hx hb dX1_also_0 rfl (lv_at hl 1 rfl) ?_
  refine lv_iconst (v := 0) hx hb dX1_also_1 (by decide) ?_
  refine lv_iconst (v := 3) hx hb dX1_also_2 (by decide) ?_
  refine rd_call (W.runS (As := [.int p0, .int 0, .int 3]) (rest := []) ⟨hx, hb, hml, hown, hts⟩ (r_within l p0 0 3) (va_cwS 3 hts (tg_S tw_94 tw_95 tw_1 tw_96) rfl rfl rfl (by decide +kernel) ⟨Nat.le_of_ble_eq_true rfl, Nat.le_of_ble_eq_true rfl⟩) preEq rfl rfl hl.1 rfl (lv_room (Nat.le_of_ble_eq_true rfl)) dX1_also_3 ⟨Nat.le_of_ble_eq_true rfl, Nat.le_of_ble_eq_true rfl⟩) ?_
  refine lv_if_ne (tgt := 19) hx hb dX1_also_6 (by decide) (fun c_1 => ?_) (fun c_1 => absurd c_1 h0)
  refine lv_aload_n hx hb dX1_also_19 rfl (lv_at hl 0 rfl) ?_
  refine va_get (D := (dC, dI)) (ci := 1) (v := .ref la) (C := "TextureUnits") (T := TX1) (N := 4) hx hb hts (tw_s inX1) hown hK hP 0 rfl rfl 2 (by decide) (hts _ (tw_c tw_75)) (fun _ h9 => h9) rfl dX1_also_20 ?_
  refine lv_iload_n hx hb dX1_also_23 rfl (lv_at hl 1 rfl) ?_
  refine va_iald hx hb hK hP 1 0 rfl rfl (tu_win_in h0 (by decide)) dX1_also_24 ?_
  exact W.iret (v := (lat p0.toNatClampNeg)) hx hb hr (fun t ht hW => rd_q rfl ht) (fun q h => by cases h) dX1_also_25
