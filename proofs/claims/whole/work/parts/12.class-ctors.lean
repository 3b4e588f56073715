theorem tw_17 : (Cond.instanceMethod ⟨"java/lang/Object", "<init>", "()V"⟩) ∈ TW := tw_t1 17 (by decide +kernel) (by decide +kernel)
theorem tw_18 : (Cond.code ⟨"java/lang/Object", "<init>", "()V"⟩ object_method_1_code 1 .none) ∈ TW := tw_t1 18 (by decide +kernel) (by decide +kernel)
theorem tw_25 : (Cond.methodLink "TextureUnits$Unit" 3 ⟨"java/lang/Object", "<init>", "()V"⟩) ∈ TW := tw_t1 25 (by decide +kernel) (by decide +kernel)
theorem tw_26 : (Cond.methodLink "TextureUnits$Unit" 18 ⟨"TextureUnits$Unit", "layOut", "(III)V"⟩) ∈ TW := tw_t1 26 (by decide +kernel) (by decide +kernel)
theorem tw_27 : (Cond.instanceMethod ⟨"TextureUnits$Unit", "layOut", "(III)V"⟩) ∈ TW := tw_t1 27 (by decide +kernel) (by decide +kernel)
theorem tw_28 : (Cond.selects "TextureUnits$Unit" ⟨"TextureUnits$Unit", "layOut", "(III)V"⟩ ⟨"TextureUnits$Unit", "layOut", "(III)V"⟩) ∈ TW := tw_t1 28 (by decide +kernel) (by decide +kernel)
theorem tw_29 : (Cond.code ⟨"TextureUnits$Unit", "layOut", "(III)V"⟩ prog_2_method_2_code 5 .none) ∈ TW := tw_t1 29 (by decide +kernel) (by decide +kernel)
theorem tw_34 : (Cond.methodLink "TextureUnits$Unit" 36 ⟨"TextureUnits$Unit", "height", "(I)I"⟩) ∈ TW := tw_t1 34 (by decide +kernel) (by decide +kernel)
theorem tw_42 : (Cond.fieldLink "TextureUnits$Unit" 29 "TextureUnits$Unit" "levels" "I") ∈ TW := tw_t1 42 (by decide +kernel) (by decide +kernel)
theorem tw_47 : (Cond.fieldLink "TextureUnits$Unit" 9 "TextureUnits$Unit" "borderColour" "[I") ∈ TW := tw_t1 47 (by decide +kernel) (by decide +kernel)
theorem tw_72 : (Cond.arrayClass .int) ∈ TW := tw_t1 72 (by decide +kernel) (by decide +kernel)
set_option maxHeartbeats 4000000 in
set_option maxRecDepth 100000 in
theorem w_layOut (l : Launch) (dC : Nat → ClassId) (dI : Nat → Nat → Nat) (u : Nat) (fr fo lw lh lv ac dn fi : Int32) (bc st : Nat) (cI : ClassId) (sf : Nat → Int32) (p0 p1 p2 : Int32) (sz : Nat) : Met l yX0_layOut wsX0_layOut ({ frames := 1, cells := 0, slots := 0, locals := 21 }) (va_Pc [.ref u, .int p0, .int p1, .int p2] (wr_P (dC, dI) vwCl [(u, .inr (0, [.int fr, .int fo, .int lw, .int lh, .int lv, .int ac, .int dn, .int fi, .ref bc, .ref st])), (st, .inl (cI, 12, .inl sf))] [(cI, .int)] sz)) (va_Qv (fun _ : Unit => True) (wr_B (dC, dI) vwCl [(u, .inr (0, [.int fr, .int fo, .int p0, .int p1, .int p2, .int ac, .int dn, .int fi, .ref bc, .ref st])), (st, .inl (cI, 12, .inl (tu_lay p0 p1 sf 11)))] [(cI, .int)] (va_A [(u, .inr (0, [.int fr, .int fo, .int lw, .int lh, .int lv, .int ac, .int dn, .int fi, .ref bc, .ref st])), (st, .inl (cI, 12, .inl sf))] sz)) (va_A [(u, .inr (0, [.int fr, .int fo, .int lw, .int lh, .int lv, .int ac, .int dn, .int fi, .ref bc, .ref st])), (st, .inl (cI, 12, .inl sf))] sz)) 0 0 (va_A [(u, .inr (0, [.int fr, .int fo, .int lw, .int lh, .int lv, .int ac, .int dn, .int fi, .ref bc, .ref st])), (st, .inl (cI, 12, .inl sf))] sz) := by
  refine Met.ofW (cc := cX0_layOut) (maxL := 5) (ret := none) (by decide) rfl ?_
  intro p e s m args below meth c s₁ B hml hv
  obtain ⟨rfl, hsz, hP, hK, hD0⟩ := hv
  have hx := B.exec
  have hb := B.bytes
  have hr := B.returns
  have hts := atoms_spec (ws := wsX0_layOut) B.pre
  have hown : s.vm.findClass "TextureUnits$Unit" = some m.cls := findClass_of_methodNamed B.named
  have hlocks := B.notSynchronized
  subst hsz
  have hD := hD0.self (sz := s.heap.size)
  generalize hAe : va_A [(u, .inr (0, [.int fr, .int fo, .int lw, .int lh, .int lv, .int ac, .int dn, .int fi, .ref bc, .ref st])), (st, .inl (cI, 12, .inl sf))] s.heap.size = A at hD ⊢
  have hA : ∀ q : Nat, s.heap.size ≤ q → A q := fun q h => by rw [← hAe]; exact Or.inr h
  have hS : va_S A s.heap s.heap [] := va_S.rf
  have hP : va_P (dC, dI) vwCl [(u, .inr (0, [.int fr, .int fo, .int lw, .int lh, .int lv, .int ac, .int dn, .int fi, .ref bc, .ref st])), (st, .inl (cI, 12, .inl sf))] s.heap := hP
  have hl := lv_entry ([.ref u, .int p0, .int p1, .int p2]) (n := 5) (Nat.le_of_ble_eq_true rfl)
  rw [lg_entry_eq]
  generalize (lg_sl ([.ref u, .int p0, .int p1, .int p2]) ++ List.replicate (5 - (lg_sl ([.ref u, .int p0, .int p1, .int p2])).length) Slot.unset).toArray = ls at hl ⊢
  have hl : lv_has ls 5 [(0, .ref u), (1, .int p0), (2, .int p1), (3, .int p2)] := hl
  refine lv_aload_n hx hb dX0_layOut_0 rfl (lv_at hl 0 rfl) ?_
  refine lv_iload_n hx hb dX0_layOut_1 rfl (lv_at hl 1 rfl) ?_
  refine va_put (D := (dC, dI)) (ci := 0) (v := .int p0) (ty := .int) (C := "TextureUnits$Unit") (T := TX0) (N := 10) hx hb hts (tw_s inX0) tyX0 tyX0_ok nmX0 hown hK hP hD hS 0 rfl rfl 2 (by decide) (hts _ (tw_c tw_40)) (fun _ h9 => h9) rfl (by decide +kernel) rfl rfl (Nat.le_of_ble_eq_true rfl) dX0_layOut_2 (fun H locs hP hD hS => ?_)
  have hP : va_P (dC, dI) vwCl [(u, .inr (0, [.int fr, .int fo, .int p0, .int lh, .int lv, .int ac, .int dn, .int fi, .ref bc, .ref st])), (st, .inl (cI, 12, .inl sf))] H := hP
  have hD : va_D A [(u, .inr (0, [.int fr, .int fo, .int p0, .int lh, .int lv, .int ac, .int dn, .int fi, .ref bc, .ref st])), (st, .inl (cI, 12, .inl sf))] := hD
  refine lv_aload_n hx hb dX0_layOut_5 rfl (lv_at hl 0 rfl) ?_
  refine lv_iload_n hx hb dX0_layOut_6 rfl (lv_at hl 2 rfl) ?_
  refine va_put (D := (dC, dI)) (ci := 0) (v := .int p1) (ty := .int) (C := "TextureUnits$Unit") (T := TX0) (N := 10) hx hb hts (tw_s inX0) tyX0 tyX0_ok nmX0 hown hK hP hD hS 0 rfl rfl 3 (by decide) (hts _ (tw_c tw_41)) (fun _ h9 => h9) rfl (by decide +kernel) rfl rfl (Nat.le_of_ble_eq_true rfl) dX0_layOut_7 (fun H locs hP hD hS => ?_)
  have hP : va_P (dC, dI) vwCl [(u, .inr (0, [.int fr, .int fo, .int p0, .int p1, .int lv, .int ac, .int dn, .int fi, .ref bc, .ref st])), (st, .inl (cI, 12, .inl sf))] H := hP
  have hD : va_D A [(u, .inr (0, [.int fr, .int fo, .int p0, .int p1, .int lv, .int ac, .int dn, .int fi, .ref bc, .ref st])), (st, .inl (cI, 12, .inl sf))] := hD
  refine lv_aload_n hx hb dX0_layOut_10 rfl (lv_at hl 0 rfl) ?_
  refine lv_iload_n hx hb dX0_layOut_11 rfl (lv_at hl 3 rfl) ?_
  refine va_put (D := (dC, dI)) (ci := 0) (v := .int p2) (ty := .int) (C := "TextureUnits$Unit") (T := TX0) (N := 10) hx hb hts (tw_s inX0) tyX0 tyX0_ok nmX0 hown hK hP hD hS 0 rfl rfl 4 (by decide) (hts _ (tw_c tw_42)) (fun _ h9 => h9) rfl (by decide +kernel) rfl rfl (Nat.le_of_ble_eq_true rfl) dX0_layOut_12 (fun H locs hP hD hS => ?_)
  have hP : va_P (dC, dI) vwCl [(u, .inr (0, [.int fr, .int fo, .int p0, .int p1, .int p2, .int ac, .int dn, .int fi, .ref bc, .ref st])), (st, .inl (cI, 12, .inl sf))] H := hP
  have hD : va_D A [(u, .inr (0, [.int fr, .int fo, .int p0, .int p1, .int p2, .int ac, .int dn, .int fi, .ref bc, .ref st])), (st, .inl (cI, 12, .inl sf))] := hD
  refine lv_iconst (v := 0) hx hb dX0_layOut_15 (by decide) ?_
  refine lv_istore (lv' := [(4, .int 0), (0, .ref u), (1, .int p0), (2, .int p1), (3, .int p2)]) hx hb dX0_layOut_16 hl (by decide) rfl (fun ls hl => ?_)
  refine tu_loop (W9 := fun H locs ls => W p l e _ s m _ below meth c H locs 0 0 _ (F0 m 18 ls [])) (I := fun k H locs ls => va_P (dC, dI) vwCl [(u, .inr (0, [.int fr, .int fo, .int p0, .int p1, .int p2, .int ac, .int dn, .int fi, .ref bc, .ref st])), (st, .inl (cI, 12, .inl (tu_lay p0 p1 sf k)))] H ∧ va_D A [(u, .inr (0, [.int fr, .int fo, .int p0, .int p1, .int p2, .int ac, .int dn, .int fi, .ref bc, .ref st])), (st, .inl (cI, 12, .inl (tu_lay p0 p1 sf k)))] ∧ va_S A s.heap H locs ∧ lv_has ls 5 [(0, .ref u), (1, .int p0), (2, .int p1), (3, .int p2), (4, .int (nI k))]) 11 ?_ ?_ H locs ls ⟨hP, hD, hS, lv_sub hl [1, 2, 3, 4, 0] rfl⟩
  · intro H locs ls ⟨hP, hD, hS, hl⟩
    refine lv_iload hx hb dX0_layOut_18 (lv_at hl 4 rfl) ?_
    refine lv_bipush (v := 11) hx hb dX0_layOut_20 (by decide) ?_
    refine lv_icmp_ge (tgt := 61) hx hb dX0_layOut_22 (by decide) (fun c_1 => ?_) (fun c_1 => absurd (by decide) c_1)
    have hP9 : va_P (dC, dI) vwCl [(u, .inr (0, [.int fr, .int fo, .int p0, .int p1, .int p2, .int ac, .int dn, .int fi, .ref bc, .ref st])), (st, .inl (cI, 12, .inl (tu_lay p0 p1 sf 11)))] H := hP.sub [0, 1] rfl
    have hD9 : va_D A [(u, .inr (0, [.int fr, .int fo, .int p0, .int p1, .int p2, .int ac, .int dn, .int fi, .ref bc, .ref st])), (st, .inl (cI, 12, .inl (tu_lay p0 p1 sf 11)))] := hD.sub [0, 1] (by decide) rfl
    have hK9 : va_K (dC, dI) vwCl [(cI, .int)] s := hK.sub [0] rfl
    exact W.vret hx hb hr (fun t ht hW => ⟨⟨(), rfl, trivial, by rw [ht]; exact hP9, va_K.moved hW.alike hK9, hD9⟩, hS.F ht⟩) hS.2.2 dX0_layOut_61
  · intro k H locs ls hk ⟨hP, hD, hS, hl⟩ ih
    refine lv_iload hx hb dX0_layOut_18 (lv_at hl 4 rfl) ?_
    refine lv_bipush (v := 11) hx hb dX0_layOut_20 (by decide) ?_
    refine lv_icmp_ge (tgt := 61) hx hb dX0_layOut_22 (by decide) (fun c_1 => absurd c_1 (nI_ge (b := 11) hk (by decide))) (fun c_1 => ?_)
    refine lv_aload_n hx hb dX0_layOut_25 rfl (lv_at hl 0 rfl) ?_
    refine va_get (D := (dC, dI)) (ci := 0) (v := .ref st) (C := "TextureUnits$Unit") (T := TX0) (N := 10) hx hb hts (tw_s inX0) hown hK hP 0 rfl rfl 9 (by decide) (hts _ (tw_c tw_49)) (fun _ h9 => h9) rfl dX0_layOut_26 ?_
    refine lv_iload hx hb dX0_layOut_29 (lv_at hl 4 rfl) ?_
    refine lv_iconst (v := 1) hx hb dX0_layOut_31 (by decide) ?_
    refine lv_iadd hx hb dX0_layOut_32 ?_
    refine lv_aload_n hx hb dX0_layOut_33 rfl (lv_at hl 0 rfl) ?_
    refine va_get (D := (dC, dI)) (ci := 0) (v := .ref st) (C := "TextureUnits$Unit") (T := TX0) (N := 10) hx hb hts (tw_s inX0) hown hK hP 0 rfl rfl 9 (by decide) (hts _ (tw_c tw_49)) (fun _ h9 => h9) rfl dX0_layOut_34 ?_
    refine lv_iload hx hb dX0_layOut_37 (lv_at hl 4 rfl) ?_
    refine va_iald hx hb hK hP 1 0 rfl rfl (vp_in_nI (by omega) (by decide)) dX0_layOut_39 ?_
    refine lv_aload_n hx hb dX0_layOut_40 rfl (lv_at hl 0 rfl) ?_
    refine lv_iload hx hb dX0_layOut_41 (lv_at hl 4 rfl) ?_
    refine rd_call (W.runV (As := [.int (nI k)]) (rest := [.int ((tu_lay p0 p1 sf k) ((nI k).toNatClampNeg)), .int ((nI k) + (1 : Int32)), .ref st]) ⟨hx, hb, hml, hown, hts⟩ (r_width l dC dI u fr fo p0 p1 p2 ac dn fi bc st (nI k)) (cwV 1 hts (tg_V tw_30 tw_31 tw_32 tw_2 tw_33) rfl rfl rfl (by decide +kernel) ⟨Nat.le_of_ble_eq_true rfl, Nat.le_of_ble_eq_true rfl⟩) ⟨rd_blind, va_recv hK hP (ci := 0) (q0 := 0) rfl rfl, fun U hU hW => ⟨rfl, rd_use (hP.sub [0] rfl) (hK.sub [] rfl) U hU hW⟩⟩ rfl rfl hl.1 rfl (lv_room (Nat.le_of_ble_eq_true rfl)) dX0_layOut_43 ⟨Nat.le_of_ble_eq_true rfl, Nat.le_of_ble_eq_true rfl⟩) ?_
    refine lv_aload_n hx hb dX0_layOut_46 rfl (lv_at hl 0 rfl) ?_
    refine lv_iload hx hb dX0_layOut_47 (lv_at hl 4 rfl) ?_
    refine rd_call (W.runV (As := [.int (nI k)]) (rest := [.int (tu_len p0 (nI k)), .int ((tu_lay p0 p1 sf k) ((nI k).toNatClampNeg)), .int ((nI k) + (1 : Int32)), .ref st]) ⟨hx, hb, hml, hown, hts⟩ (r_height l dC dI u fr fo p0 p1 p2 ac dn fi bc st (nI k)) (cwV 1 hts (tg_V tw_34 tw_35 tw_36 tw_2 tw_37) rfl rfl rfl (by decide +kernel) ⟨Nat.le_of_ble_eq_true rfl, Nat.le_of_ble_eq_true rfl⟩) ⟨rd_blind, va_recv hK hP (ci := 0) (q0 := 0) rfl rfl, fun U hU hW => ⟨rfl, rd_use (hP.sub [0] rfl) (hK.sub [] rfl) U hU hW⟩⟩ rfl rfl hl.1 rfl (lv_room (Nat.le_of_ble_eq_true rfl)) dX0_layOut_49 ⟨Nat.le_of_ble_eq_true rfl, Nat.le_of_ble_eq_true rfl⟩) ?_
    refine lv_imul hx hb dX0_layOut_52 ?_
    refine lv_iadd hx hb dX0_layOut_53 ?_
    refine va_iast hx hb hK hP hD hS 1 0 rfl rfl (by rw [nI_1]; exact vp_in_nI (by omega) (by decide)) dX0_layOut_54 (fun H locs hP hD hS => ?_)
    have hP : va_P (dC, dI) vwCl [(u, .inr (0, [.int fr, .int fo, .int p0, .int p1, .int p2, .int ac, .int dn, .int fi, .ref bc, .ref st])), (st, .inl (cI, 12, .inl (upd (tu_lay p0 p1 sf k) (((nI k) + (1 : Int32)).toNatClampNeg) (((tu_lay p0 p1 sf k) ((nI k).toNatClampNeg)) + ((tu_len p0 (nI k)) * (tu_len p1 (nI k)))))))] H := hP
    have hD : va_D A [(u, .inr (0, [.int fr, .int fo, .int p0, .int p1, .int p2, .int ac, .int dn, .int fi, .ref bc, .ref st])), (st, .inl (cI, 12, .inl (upd (tu_lay p0 p1 sf k) (((nI k) + (1 : Int32)).toNatClampNeg) (((tu_lay p0 p1 sf k) ((nI k).toNatClampNeg)) + ((tu_len p0 (nI k)) * (tu_len p1 (nI k)))))))] := hD
    rw [tu_lay_s p0 p1 sf hk] at hP hD
    refine lv_iinc (v := (nI (k + 1))) (lv' := [(4, .int (nI (k + 1))), (0, .ref u), (1, .int p0), (2, .int p1), (3, .int p2)]) hx hb dX0_layOut_55 hl (k := 4) rfl (nI_1 k) (by decide) rfl (fun ls hl => ?_)
    refine lv_goto (tgt := 18) hx hb dX0_layOut_58 (by decide) ?_
    exact ih _ _ _ ⟨hP, hD, hS, lv_sub hl [1, 2, 3, 4, 0] rfl⟩
set_option maxHeartbeats 4000000 in
set_option maxRecDepth 100000 in
theorem w_Unit (l : Launch) (dC : Nat → ClassId) (dI : Nat → Nat → Nat) (u : Nat) (cI : ClassId) (sz : Nat) : Met l yX0_init wsX0_init ({ frames := 2, cells := 2, slots := 16, locals := 45 }) (va_Pc [.ref u] (wr_P (dC, dI) vwCl [(u, .inr (0, [.int 0, .int 0, .int 0, .int 0, .int 0, .int 0, .int 0, .int 0, .null, .null]))] [(cI, .int)] sz)) (va_Qv (fun _ : Unit => True) (fun (_ : Unit) t9 => ∃ (bc st : Nat), wr_B (dC, dI) vwCl [(u, .inr (0, [.int 0, .int 0, .int 0, .int 0, .int 1, .int 0, .int 0, .int 0, .ref bc, .ref st])), (bc, .inl (cI, 4, .inl (fun _ => 0))), (st, .inl (cI, 12, .inl (tu_lay 0 0 (fun _ => 0) 11)))] [(cI, .int)] (va_A [(u, .inr (0, [.int 0, .int 0, .int 0, .int 0, .int 0, .int 0, .int 0, .int 0, .null, .null]))] sz) () t9) (va_A [(u, .inr (0, [.int 0, .int 0, .int 0, .int 0, .int 0, .int 0, .int 0, .int 0, .null, .null]))] sz)) 2 16 (va_A [(u, .inr (0, [.int 0, .int 0, .int 0, .int 0, .int 0, .int 0, .int 0, .int 0, .null, .null]))] sz) := by
  refine Met.ofW (cc := cX0_init) (maxL := 1) (ret := none) (by decide) rfl ?_
  intro p e s m args below meth c s₁ B hml hv
  obtain ⟨rfl, hsz, hP, hK, hD0⟩ := hv
  have hx := B.exec
  have hb := B.bytes
  have hr := B.returns
  have hts := atoms_spec (ws := wsX0_init) B.pre
  have hown : s.vm.findClass "TextureUnits$Unit" = some m.cls := findClass_of_methodNamed B.named
  have hlocks := B.notSynchronized
  have hin : meth.name = "<init>" := (name_of_methodNamed B.named B.method).1
  subst hsz
  have hD := hD0.self (sz := s.heap.size)
  generalize hAe : va_A [(u, .inr (0, [.int 0, .int 0, .int 0, .int 0, .int 0, .int 0, .int 0, .int 0, .null, .null]))] s.heap.size = A at hD ⊢
  have hA : ∀ q : Nat, s.heap.size ≤ q → A q := fun q h => by rw [← hAe]; exact Or.inr h
  have hS : va_S A s.heap s.heap [] := va_S.rf
  have hP : va_P (dC, dI) vwCl [(u, .inr (0, [.int 0, .int 0, .int 0, .int 0, .int 0, .int 0, .int 0, .int 0, .null, .null]))] s.heap := hP
  have hl := lv_entry ([.ref u]) (n := 1) (Nat.le_of_ble_eq_true rfl)
  rw [lg_entry_eq]
  generalize (lg_sl ([.ref u]) ++ List.replicate (1 - (lg_sl ([.ref u])).length) Slot.unset).toArray = ls at hl ⊢
  have hl : lv_has ls 1 [(0, .ref u)] := hl
  refine lv_aload_n hx hb dX0_init_0 rfl (lv_at hl 0 rfl) ?_
  refine W.objInit hx hb hown (hts _ (tw_c tw_25)) (hts _ (tw_c tw_17)) (hts _ (tw_c tw_18)) rfl (by rw [hml]; exact hl.1) rfl dX0_init_1 (Nat.le_of_ble_eq_true rfl) (Nat.le_of_ble_eq_true rfl) ?_
  refine W.eq (g2 := F0 m 4 ls []) rfl ?_
  refine lv_aload_n hx hb dX0_init_4 rfl (lv_at hl 0 rfl) ?_
  refine lv_iconst (v := 4) hx hb dX0_init_5 (by decide) ?_
  refine va_newa (atype := .int) (ty := .int) (a0 := (4, .inl (fun _ => 0))) (N' := 4) hx hb (hts _ (tw_c tw_72)) rfl hK hP hD hS hA (fun _ => rfl) (by decide) (by decide) (by decide) (Nat.le_of_ble_eq_true rfl) (Nat.le_of_ble_eq_true rfl) dX0_init_6 (fun q_1 cA_2 H hK hP hD hS => ?_)
  have e9 : cI = cA_2 := tu_cA hK 0 1 rfl rfl
  subst e9
  have hK := hK.sub (tys' := [(cI, .int)]) [0] rfl
  refine W.widen (k := 1) (n := 4) (Nat.le_of_ble_eq_true rfl) (Nat.le_of_ble_eq_true rfl) ?_
  have hP : va_P (dC, dI) vwCl [(u, .inr (0, [.int 0, .int 0, .int 0, .int 0, .int 0, .int 0, .int 0, .int 0, .null, .null])), (q_1, .inl (cI, 4, .inl (fun _ => 0)))] H := hP
  have hD : va_D A [(u, .inr (0, [.int 0, .int 0, .int 0, .int 0, .int 0, .int 0, .int 0, .int 0, .null, .null])), (q_1, .inl (cI, 4, .inl (fun _ => 0)))] := hD
  refine va_putF (D := (dC, dI)) (ci := 0) (v := .ref q_1) (ty := (.array .int)) (C := "TextureUnits$Unit") (T := TX0) (N := 10) hx hb hts (tw_s inX0) tyX0 tyX0_ok nmX0 hown hK hP hD hS 0 rfl rfl 8 (by decide) (hts _ (tw_c tw_47)) (fun _ h9 => h9) rfl hin rfl (by decide +kernel) rfl rfl (Nat.le_of_ble_eq_true rfl) dX0_init_8 (fun H locs hP hD hS => ?_)
  have hP : va_P (dC, dI) vwCl [(u, .inr (0, [.int 0, .int 0, .int 0, .int 0, .int 0, .int 0, .int 0, .int 0, .ref q_1, .null])), (q_1, .inl (cI, 4, .inl (fun _ => 0)))] H := hP
  have hD : va_D A [(u, .inr (0, [.int 0, .int 0, .int 0, .int 0, .int 0, .int 0, .int 0, .int 0, .ref q_1, .null])), (q_1, .inl (cI, 4, .inl (fun _ => 0)))] := hD
  refine lv_aload_n hx hb dX0_init_11 rfl (lv_at hl 0 rfl) ?_
  refine lv_bipush (v := 12) hx hb dX0_init_12 (by decide) ?_
  refine va_newa (atype := .int) (ty := .int) (a0 := (12, .inl (fun _ => 0))) (N' := 12) hx hb (hts _ (tw_c tw_72)) rfl hK hP hD hS hA (fun _ => rfl) (by decide) (by decide) (by decide) (Nat.le_of_ble_eq_true rfl) (Nat.le_of_ble_eq_true rfl) dX0_init_14 (fun q_3 cA_4 H hK hP hD hS => ?_)
  have e9 : cI = cA_4 := tu_cA hK 0 1 rfl rfl
  subst e9
  have hK := hK.sub (tys' := [(cI, .int)]) [0] rfl
  refine W.widen (k := 2) (n := 16) (Nat.le_of_ble_eq_true rfl) (Nat.le_of_ble_eq_true rfl) ?_
  have hP : va_P (dC, dI) vwCl [(u, .inr (0, [.int 0, .int 0, .int 0, .int 0, .int 0, .int 0, .int 0, .int 0, .ref q_1, .null])), (q_1, .inl (cI, 4, .inl (fun _ => 0))), (q_3, .inl (cI, 12, .inl (fun _ => 0)))] H := hP
  have hD : va_D A [(u, .inr (0, [.int 0, .int 0, .int 0, .int 0, .int 0, .int 0, .int 0, .int 0, .ref q_1, .null])), (q_1, .inl (cI, 4, .inl (fun _ => 0))), (q_3, .inl (cI, 12, .inl (fun _ => 0)))] := hD
  refine va_putF (D := (dC, dI)) (ci := 0) (v := .ref q_3) (ty := (.array .int)) (C := "TextureUnits$Unit") (T := TX0) (N := 10) hx hb hts (tw_s inX0) tyX0 tyX0_ok nmX0 hown hK hP hD hS 0 rfl rfl 9 (by decide) (hts _ (tw_c tw_49)) (fun _ h9 => h9) rfl hin rfl (by decide +kernel) rfl rfl (Nat.le_of_ble_eq_true rfl) dX0_init_16 (fun H locs hP hD hS => ?_)
  have hP : va_P (dC, dI) vwCl [(u, .inr (0, [.int 0, .int 0, .int 0, .int 0, .int 0, .int 0, .int 0, .int 0, .ref q_1, .ref q_3])), (q_1, .inl (cI, 4, .inl (fun _ => 0))), (q_3, .inl (cI, 12, .inl (fun _ => 0)))] H := hP
  have hD : va_D A [(u, .inr (0, [.int 0, .int 0, .int 0, .int 0, .int 0, .int 0, .int 0, .int 0, .ref q_1, .ref q_3])), (q_1, .inl (cI, 4, .inl (fun _ => 0))), (q_3, .inl (cI, 12, .inl (fun _ => 0)))] := hD
  refine lv_aload_n hx hb dX0_init_19 rfl (lv_at hl 0 rfl) ?_
  refine lv_iconst (v := 0) hx hb dX0_init_20 (by decide) ?_
  refine lv_iconst (v := 0) hx hb dX0_init_21 (by decide) ?_
  refine lv_iconst (v := 1) hx hb dX0_init_22 (by decide) ?_
  have hPc := hP.sub (ws' := [(u, .inr (0, [.int 0, .int 0, .int 0, .int 0, .int 0, .int 0, .int 0, .int 0, .ref q_1, .ref q_3])), (q_3, .inl (cI, 12, .inl (fun _ => 0)))]) [0, 2] rfl
  have hDc := hD.sub (ws' := [(u, .inr (0, [.int 0, .int 0, .int 0, .int 0, .int 0, .int 0, .int 0, .int 0, .ref q_1, .ref q_3])), (q_3, .inl (cI, 12, .inl (fun _ => 0)))]) [0, 2] (by decide) rfl
  have hFc := va_free (wc := [(u, .inr (0, [.int 0, .int 0, .int 0, .int 0, .int 0, .int 0, .int 0, .int 0, .ref q_1, .ref q_3])), (q_3, .inl (cI, 12, .inl (fun _ => 0)))]) hD hS hA [0, 2] rfl
  refine va_callv (va_runV (As := [.int 0, .int 0, .int 1]) (rest := []) ⟨hx, hb, hml, hown, hts⟩ (w_layOut l dC dI u 0 0 0 0 0 0 0 0 q_1 q_3 cI (fun _ => 0) 0 0 1 H.size) (cwV 3 hts (tg_V tw_26 tw_27 tw_28 tw_2 tw_29) rfl rfl rfl (by decide +kernel) ⟨Nat.le_of_ble_eq_true rfl, Nat.le_of_ble_eq_true rfl⟩) ⟨wr_blind, va_recv hK hP (ci := 0) (q0 := 0) rfl rfl, fun U hU hW => ⟨rfl, wr_use hPc (hK.sub [0] rfl) hDc U hU hW⟩⟩ rfl rfl hl.1 rfl (lv_room (Nat.le_of_ble_eq_true rfl)) dX0_init_23 ⟨Nat.le_of_ble_eq_true rfl, Nat.le_of_ble_eq_true rfl⟩) hS (fun q _ h => hFc q h) hFc (fun u9 t9 H1 locs ht hvm hw hB hz1 hk1 hS => ?_)
  obtain ⟨hP1, hK1, hD1⟩ := hB
  rw [ht] at hP1
  obtain ⟨hP, hD⟩ := va_join (wr := [(q_1, .inl (cI, 4, .inl (fun _ => 0)))]) (w1 := [(u, .inr (0, [.int 0, .int 0, .int 0, .int 0, .int 1, .int 0, .int 0, .int 0, .ref q_1, .ref q_3])), (q_3, .inl (cI, 12, .inl (tu_lay 0 0 (fun _ => 0) 11)))]) hP hD [0, 2] [1] rfl rfl (by decide) (by decide) hk1 hFc hP1 hD1
  have hP := hP.sub (ws' := [(u, .inr (0, [.int 0, .int 0, .int 0, .int 0, .int 1, .int 0, .int 0, .int 0, .ref q_1, .ref q_3])), (q_1, .inl (cI, 4, .inl (fun _ => 0))), (q_3, .inl (cI, 12, .inl (tu_lay 0 0 (fun _ => 0) 11)))]) [1, 0, 2] rfl
  have hD := hD.sub (ws' := [(u, .inr (0, [.int 0, .int 0, .int 0, .int 0, .int 1, .int 0, .int 0, .int 0, .ref q_1, .ref q_3])), (q_1, .inl (cI, 4, .inl (fun _ => 0))), (q_3, .inl (cI, 12, .inl (tu_lay 0 0 (fun _ => 0) 11)))]) [1, 0, 2] (by decide) rfl
  clear hPc hDc hFc hP1 hK1 hD1 hk1 hz1
  generalize H1 = H at hP hS ⊢
  have hP9 : va_P (dC, dI) vwCl [(u, .inr (0, [.int 0, .int 0, .int 0, .int 0, .int 1, .int 0, .int 0, .int 0, .ref q_1, .ref q_3])), (q_1, .inl (cI, 4, .inl (fun _ => 0))), (q_3, .inl (cI, 12, .inl (tu_lay 0 0 (fun _ => 0) 11)))] H := hP.sub [0, 1, 2] rfl
  have hD9 : va_D A [(u, .inr (0, [.int 0, .int 0, .int 0, .int 0, .int 1, .int 0, .int 0, .int 0, .ref q_1, .ref q_3])), (q_1, .inl (cI, 4, .inl (fun _ => 0))), (q_3, .inl (cI, 12, .inl (tu_lay 0 0 (fun _ => 0) 11)))] := hD.sub [0, 1, 2] (by decide) rfl
  have hK9 : va_K (dC, dI) vwCl [(cI, .int)] s := hK.sub [0] rfl
  refine W.widen (k := 2) (n := 16) (by omega) (by omega) ?_
  exact W.vret hx hb hr (fun t ht hW => ⟨⟨(), rfl, trivial, q_1, q_3, by rw [ht]; exact hP9, va_K.moved hW.alike hK9, hD9⟩, hS.F ht⟩) hS.2.2 dX0_init_26
