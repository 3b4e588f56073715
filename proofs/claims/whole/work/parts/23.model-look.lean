theorem tw_338 : (Cond.fieldLink "TextureUnitsModel" 22 "TextureUnitsModel" "found" "[I") ∈ TW := tw_t2 98 (by decide +kernel) (by decide +kernel)
theorem tw_342 : (Cond.fieldLink "TextureUnitsModel" 34 "TextureUnitsModel" "first" "[I") ∈ TW := tw_t2 102 (by decide +kernel) (by decide +kernel)
theorem tw_343 : (Cond.fieldLink "TextureUnitsModel" 37 "TextureUnitsModel" "size" "[I") ∈ TW := tw_t2 103 (by decide +kernel) (by decide +kernel)
theorem tw_414 : (Cond.methodLink "TextureUnitsModel" 71 ⟨"TextureUnitsModel", "layOut", "(I)I"⟩) ∈ TW := tw_t2 174 (by decide +kernel) (by decide +kernel)
theorem tw_416 : (Cond.instanceMethod ⟨"TextureUnitsModel", "layOut", "(I)I"⟩) ∈ TW := tw_t2 176 (by decide +kernel) (by decide +kernel)
theorem tw_417 : (Cond.code ⟨"TextureUnitsModel", "layOut", "(I)I"⟩ prog_4_method_14_code 2 (.some .int)) ∈ TW := tw_t2 177 (by decide +kernel) (by decide +kernel)
theorem tw_418 : (Cond.methodLink "TextureUnitsModel" 63 ⟨"TextureUnitsModel", "lay", "(IIIIIIII)V"⟩) ∈ TW := tw_t2 178 (by decide +kernel) (by decide +kernel)
theorem tw_420 : (Cond.instanceMethod ⟨"TextureUnitsModel", "lay", "(IIIIIIII)V"⟩) ∈ TW := tw_t2 180 (by decide +kernel) (by decide +kernel)
theorem tw_421 : (Cond.code ⟨"TextureUnitsModel", "lay", "(IIIIIIII)V"⟩ prog_4_method_13_code 9 .none) ∈ TW := tw_t2 181 (by decide +kernel) (by decide +kernel)
theorem tw_422 : (Cond.methodLink "TextureUnitsModel" 75 ⟨"TextureUnitsModel", "ahead", "(II)I"⟩) ∈ TW := tw_t2 182 (by decide +kernel) (by decide +kernel)
theorem tw_424 : (Cond.instanceMethod ⟨"TextureUnitsModel", "ahead", "(II)I"⟩) ∈ TW := tw_t2 184 (by decide +kernel) (by decide +kernel)
theorem tw_425 : (Cond.code ⟨"TextureUnitsModel", "ahead", "(II)I"⟩ prog_4_method_12_code 5 (.some .int)) ∈ TW := tw_t2 185 (by decide +kernel) (by decide +kernel)
theorem tw_426 : (Cond.methodLink "TextureUnitsModel" 78 ⟨"TextureUnitsModel", "bit", "(IJ)I"⟩) ∈ TW := tw_t2 186 (by decide +kernel) (by decide +kernel)
theorem tw_428 : (Cond.instanceMethod ⟨"TextureUnitsModel", "bit", "(IJ)I"⟩) ∈ TW := tw_t2 188 (by decide +kernel) (by decide +kernel)
theorem tw_429 : (Cond.code ⟨"TextureUnitsModel", "bit", "(IJ)I"⟩ prog_4_method_15_code 6 (.some .int)) ∈ TW := tw_t2 189 (by decide +kernel) (by decide +kernel)
theorem tw_432 : (Cond.constant "TextureUnitsModel" 82 (65536 : Int32)) ∈ TW := tw_t2 192 (by decide +kernel) (by decide +kernel)
theorem tw_433 : (Cond.constant "TextureUnitsModel" 83 (131072 : Int32)) ∈ TW := tw_t2 193 (by decide +kernel) (by decide +kernel)
theorem tw_p13 : (Cond.selects "TextureUnitsModel" ⟨"TextureUnitsModel", "layOut", "(I)I"⟩ ⟨"TextureUnitsModel", "layOut", "(I)I"⟩) ∈ TW := tw_t0 13 (by decide +kernel) (by decide +kernel)
theorem tw_p14 : (Cond.selects "TextureUnitsModel" ⟨"TextureUnitsModel", "lay", "(IIIIIIII)V"⟩ ⟨"TextureUnitsModel", "lay", "(IIIIIIII)V"⟩) ∈ TW := tw_t0 14 (by decide +kernel) (by decide +kernel)
theorem tw_p15 : (Cond.selects "TextureUnitsModel" ⟨"TextureUnitsModel", "ahead", "(II)I"⟩ ⟨"TextureUnitsModel", "ahead", "(II)I"⟩) ∈ TW := tw_t0 15 (by decide +kernel) (by decide +kernel)
theorem tw_p16 : (Cond.selects "TextureUnitsModel" ⟨"TextureUnitsModel", "bit", "(IJ)I"⟩ ⟨"TextureUnitsModel", "bit", "(IJ)I"⟩) ∈ TW := tw_t0 16 (by decide +kernel) (by decide +kernel)
set_option maxHeartbeats 4000000 in
set_option maxRecDepth 100000 in
theorem m_refuse1 (l : Launch) (dC : Nat → ClassId) (dI : Nat → Nat → Nat) (o : Nat) (th : Int32) (a1 a2 a3 a4 a5 a6 a7 a8 a9 a10 : Nat) (p0 p1 : Int32) (sz : Nat) (h0 : ¬ p0 = 0) : Met l yX2_refuse wsX2_refuse ({ frames := 0, cells := 0, slots := 0, locals := 0 }) (va_Pc [.ref o, .int p0, .int p1] (wr_P (dC, dI) vwCl [(o, .inr (2, [.int th, .ref a1, .ref a2, .ref a3, .ref a4, .ref a5, .ref a6, .ref a7, .ref a8, .ref a9, .ref a10]))] [] sz)) (va_Qi (fun (r9 : Int32) (_ : Unit) => r9 = 1) (wr_B (dC, dI) vwCl [(o, .inr (2, [.int 1, .ref a1, .ref a2, .ref a3, .ref a4, .ref a5, .ref a6, .ref a7, .ref a8, .ref a9, .ref a10]))] [] (va_A [(o, .inr (2, [.int th, .ref a1, .ref a2, .ref a3, .ref a4, .ref a5, .ref a6, .ref a7, .ref a8, .ref a9, .ref a10]))] sz)) (va_A [(o, .inr (2, [.int th, .ref a1, .ref a2, .ref a3, .ref a4, .ref a5, .ref a6, .ref a7, .ref a8, .ref a9, .ref a10]))] sz)) 0 0 (va_A [(o, .inr (2, [.int th, .ref a1, .ref a2, .ref a3, .ref a4, .ref a5, .ref a6, .ref a7, .ref a8, .ref a9, .ref a10]))] sz) := by
  refine Met.ofW (cc := cX2_refuse) (maxL := 3) (ret := some .boolean) (by decide) rfl ?_
  intro p e s m args below meth c s₁ B hml hv
  obtain ⟨rfl, hsz, hP, hK, hD0⟩ := hv
  have hx := B.exec
  have hb := B.bytes
  have hr := B.returns
  have hts := atoms_spec (ws := wsX2_refuse) B.pre
  have hown : s.vm.findClass "TextureUnitsModel" = some m.cls := findClass_of_methodNamed B.named
  have hlocks := B.notSynchronized
  subst hsz
  have hD := hD0.self (sz := s.heap.size)
  generalize hAe : va_A [(o, .inr (2, [.int th, .ref a1, .ref a2, .ref a3, .ref a4, .ref a5, .ref a6, .ref a7, .ref a8, .ref a9, .ref a10]))] s.heap.size = A at hD ⊢
  have hA : ∀ q : Nat, s.heap.size ≤ q → A q := fun q h => by rw [← hAe]; exact Or.inr h
  have hS : va_S A s.heap s.heap [] := va_S.rf
  have hP : va_P (dC, dI) vwCl [(o, .inr (2, [.int th, .ref a1, .ref a2, .ref a3, .ref a4, .ref a5, .ref a6, .ref a7, .ref a8, .ref a9, .ref a10]))] s.heap := hP
  have hl := lv_entry ([.ref o, .int p0, .int p1]) (n := 3) (Nat.le_of_ble_eq_true rfl)
  rw [lg_entry_eq]
  generalize (lg_sl ([.ref o, .int p0, .int p1]) ++ List.replicate (3 - (lg_sl ([.ref o, .int p0, .int p1])).length) Slot.unset).toArray = ls at hl ⊢
  have hl : lv_has ls 3 [(0, .ref o), (1, .int p0), (2, .int p1)] := hl
  refine lv_aload_n hx hb dX2_refuse_0 rfl (lv_at hl 0 rfl) ?_
  refine lv_iload_n hx hb dX2_refuse_1 rfl (lv_at hl 1 rfl) ?_
  refine lv_if_eq (tgt := 9) hx hb dX2_refuse_2 (by decide) (fun c_1 => absurd c_1 h0) (fun c_1 => ?_)
  refine lv_iconst (v := 1) hx hb dX2_refuse_5 (by decide) ?_
  refine lv_goto (tgt := 18) hx hb dX2_refuse_6 (by decide) ?_
  refine va_put (D := (dC, dI)) (ci := 2) (v := .int 1) (ty := .int) (C := "TextureUnitsModel") (T := TX2) (N := 11) hx hb hts (tw_s inX2) tyX2 tyX2_ok nmX2 hown hK hP hD hS 0 rfl rfl 0 (by decide) (hts _ (tw_c tw_333)) (fun _ h9 => h9) rfl (by decide +kernel) rfl rfl (Nat.le_of_ble_eq_true rfl) dX2_refuse_18 (fun H locs hP hD hS => ?_)
  have hP : va_P (dC, dI) vwCl [(o, .inr (2, [.int 1, .ref a1, .ref a2, .ref a3, .ref a4, .ref a5, .ref a6, .ref a7, .ref a8, .ref a9, .ref a10]))] H := hP
  have hD : va_D A [(o, .inr (2, [.int 1, .ref a1, .ref a2, .ref a3, .ref a4, .ref a5, .ref a6, .ref a7, .ref a8, .ref a9, .ref a10]))] := hD
  refine lv_aload_n hx hb dX2_refuse_21 rfl (lv_at hl 0 rfl) ?_
  refine va_get (D := (dC, dI)) (ci := 2) (v := .int 1) (C := "TextureUnitsModel") (T := TX2) (N := 11) hx hb hts (tw_s inX2) hown hK hP 0 rfl rfl 0 (by decide) (hts _ (tw_c tw_333)) (fun _ h9 => h9) rfl dX2_refuse_22 ?_
  refine lv_if_le (tgt := 32) hx hb dX2_refuse_25 (by decide) (fun c_2 => absurd c_2 (by decide)) (fun c_2 => ?_)
  refine lv_iconst (v := 1) hx hb dX2_refuse_28 (by decide) ?_
  refine lv_goto (tgt := 33) hx hb dX2_refuse_29 (by decide) ?_
  have hP9 : va_P (dC, dI) vwCl [(o, .inr (2, [.int 1, .ref a1, .ref a2, .ref a3, .ref a4, .ref a5, .ref a6, .ref a7, .ref a8, .ref a9, .ref a10]))] H := hP.sub [0] rfl
  have hD9 : va_D A [(o, .inr (2, [.int 1, .ref a1, .ref a2, .ref a3, .ref a4, .ref a5, .ref a6, .ref a7, .ref a8, .ref a9, .ref a10]))] := hD.sub [0] (by decide) rfl
  have hK9 : va_K (dC, dI) vwCl [] s := hK.sub [] rfl
  exact W.zret (ty := .boolean) (v := 1) hx hb hr rfl (fun t ht hW => ⟨⟨1, (), rfl, rfl, by rw [ht]; exact hP9, va_K.moved hW.alike hK9, hD9⟩, hS.F ht⟩) hS.2.2 dX2_refuse_33
set_option maxHeartbeats 4000000 in
set_option maxRecDepth 100000 in
theorem m_refuse2 (l : Launch) (dC : Nat → ClassId) (dI : Nat → Nat → Nat) (o : Nat) (th : Int32) (a1 a2 a3 a4 a5 a6 a7 a8 a9 a10 : Nat) (p0 p1 : Int32) (sz : Nat) (h0 : p0 = 0) (h1 : ¬ p1 = 0) : Met l yX2_refuse wsX2_refuse ({ frames := 0, cells := 0, slots := 0, locals := 0 }) (va_Pc [.ref o, .int p0, .int p1] (wr_P (dC, dI) vwCl [(o, .inr (2, [.int th, .ref a1, .ref a2, .ref a3, .ref a4, .ref a5, .ref a6, .ref a7, .ref a8, .ref a9, .ref a10]))] [] sz)) (va_Qi (fun (r9 : Int32) (_ : Unit) => r9 = 1) (wr_B (dC, dI) vwCl [(o, .inr (2, [.int 2, .ref a1, .ref a2, .ref a3, .ref a4, .ref a5, .ref a6, .ref a7, .ref a8, .ref a9, .ref a10]))] [] (va_A [(o, .inr (2, [.int th, .ref a1, .ref a2, .ref a3, .ref a4, .ref a5, .ref a6, .ref a7, .ref a8, .ref a9, .ref a10]))] sz)) (va_A [(o, .inr (2, [.int th, .ref a1, .ref a2, .ref a3, .ref a4, .ref a5, .ref a6, .ref a7, .ref a8, .ref a9, .ref a10]))] sz)) 0 0 (va_A [(o, .inr (2, [.int th, .ref a1, .ref a2, .ref a3, .ref a4, .ref a5, .ref a6, .ref a7, .ref a8, .ref a9, .ref a10]))] sz) := by
  refine Met.ofW (cc := cX2_refuse) (maxL := 3) (ret := some .boolean) (by decide) rfl ?_
  intro p e s m args below meth c s₁ B hml hv
  obtain ⟨rfl, hsz, hP, hK, hD0⟩ := hv
  have hx := B.exec
  have hb := B.bytes
  have hr := B.returns
  have hts := atoms_spec (ws := wsX2_refuse) B.pre
  have hown : s.vm.findClass "TextureUnitsModel" = some m.cls := findClass_of_methodNamed B.named
  have hlocks := B.notSynchronized
  subst hsz
  have hD := hD0.self (sz := s.heap.size)
  generalize hAe : va_A [(o, .inr (2, [.int th, .ref a1, .ref a2, .ref a3, .ref a4, .ref a5, .ref a6, .ref a7, .ref a8, .ref a9, .ref a10]))] s.heap.size = A at hD ⊢
  have hA : ∀ q : Nat, s.heap.size ≤ q → A q := fun q h => by rw [← hAe]; exact Or.inr h
  have hS : va_S A s.heap s.heap [] := va_S.rf
  have hP : va_P (dC, dI) vwCl [(o, .inr (2, [.int th, .ref a1, .ref a2, .ref a3, .ref a4, .ref a5, .ref a6, .ref a7, .ref a8, .ref a9, .ref a10]))] s.heap := hP
  have hl := lv_entry ([.ref o, .int p0, .int p1]) (n := 3) (Nat.le_of_ble_eq_true rfl)
  rw [lg_entry_eq]
  generalize (lg_sl ([.ref o, .int p0, .int p1]) ++ List.replicate (3 - (lg_sl ([.ref o, .int p0, .int p1])).length) Slot.unset).toArray = ls at hl ⊢
  have hl : lv_has ls 3 [(0, .ref o), (1, .int p0), (2, .int p1)] := hl
  refine lv_aload_n hx hb dX2_refuse_0 rfl (lv_at hl 0 rfl) ?_
  refine lv_iload_n hx hb dX2_refuse_1 rfl (lv_at hl 1 rfl) ?_
  refine lv_if_eq (tgt := 9) hx hb dX2_refuse_2 (by decide) (fun c_1 => ?_) (fun c_1 => absurd h0 c_1)
  refine lv_iload_n hx hb dX2_refuse_9 rfl (lv_at hl 2 rfl) ?_
  refine lv_if_eq (tgt := 17) hx hb dX2_refuse_10 (by decide) (fun c_2 => absurd c_2 h1) (fun c_2 => ?_)
  refine lv_iconst (v := 2) hx hb dX2_refuse_13 (by decide) ?_
  refine lv_goto (tgt := 18) hx hb dX2_refuse_14 (by decide) ?_
  refine va_put (D := (dC, dI)) (ci := 2) (v := .int 2) (ty := .int) (C := "TextureUnitsModel") (T := TX2) (N := 11) hx hb hts (tw_s inX2) tyX2 tyX2_ok nmX2 hown hK hP hD hS 0 rfl rfl 0 (by decide) (hts _ (tw_c tw_333)) (fun _ h9 => h9) rfl (by decide +kernel) rfl rfl (Nat.le_of_ble_eq_true rfl) dX2_refuse_18 (fun H locs hP hD hS => ?_)
  have hP : va_P (dC, dI) vwCl [(o, .inr (2, [.int 2, .ref a1, .ref a2, .ref a3, .ref a4, .ref a5, .ref a6, .ref a7, .ref a8, .ref a9, .ref a10]))] H := hP
  have hD : va_D A [(o, .inr (2, [.int 2, .ref a1, .ref a2, .ref a3, .ref a4, .ref a5, .ref a6, .ref a7, .ref a8, .ref a9, .ref a10]))] := hD
  refine lv_aload_n hx hb dX2_refuse_21 rfl (lv_at hl 0 rfl) ?_
  refine va_get (D := (dC, dI)) (ci := 2) (v := .int 2) (C := "TextureUnitsModel") (T := TX2) (N := 11) hx hb hts (tw_s inX2) hown hK hP 0 rfl rfl 0 (by decide) (hts _ (tw_c tw_333)) (fun _ h9 => h9) rfl dX2_refuse_22 ?_
  refine lv_if_le (tgt := 32) hx hb dX2_refuse_25 (by decide) (fun c_3 => absurd c_3 (by decide)) (fun c_3 => ?_)
  refine lv_iconst (v := 1) hx hb dX2_refuse_28 (by decide) ?_
  refine lv_goto (tgt := 33) hx hb dX2_refuse_29 (by decide) ?_
  have hP9 : va_P (dC, dI) vwCl [(o, .inr (2, [.int 2, .ref a1, .ref a2, .ref a3, .ref a4, .ref a5, .ref a6, .ref a7, .ref a8, .ref a9, .ref a10]))] H := hP.sub [0] rfl
  have hD9 : va_D A [(o, .inr (2, [.int 2, .ref a1, .ref a2, .ref a3, .ref a4, .ref a5, .ref a6, .ref a7, .ref a8, .ref a9, .ref a10]))] := hD.sub [0] (by decide) rfl
  have hK9 : va_K (dC, dI) vwCl [] s := hK.sub [] rfl
  exact W.zret (ty := .boolean) (v := 1) hx hb hr rfl (fun t ht hW => ⟨⟨1, (), rfl, rfl, by rw [ht]; exact hP9, va_K.moved hW.alike hK9, hD9⟩, hS.F ht⟩) hS.2.2 dX2_refuse_33
set_option maxHeartbeats 4000000 in
set_option maxRecDepth 100000 in
theorem m_refuse0 (l : Launch) (dC : Nat → ClassId) (dI : Nat → Nat → Nat) (o : Nat) (th : Int32) (a1 a2 a3 a4 a5 a6 a7 a8 a9 a10 : Nat) (p0 p1 : Int32) (sz : Nat) (h0 : p0 = 0) (h1 : p1 = 0) : Met l yX2_refuse wsX2_refuse ({ frames := 0, cells := 0, slots := 0, locals := 0 }) (va_Pc [.ref o, .int p0, .int p1] (wr_P (dC, dI) vwCl [(o, .inr (2, [.int th, .ref a1, .ref a2, .ref a3, .ref a4, .ref a5, .ref a6, .ref a7, .ref a8, .ref a9, .ref a10]))] [] sz)) (va_Qi (fun (r9 : Int32) (_ : Unit) => r9 = 0) (wr_B (dC, dI) vwCl [(o, .inr (2, [.int 0, .ref a1, .ref a2, .ref a3, .ref a4, .ref a5, .ref a6, .ref a7, .ref a8, .ref a9, .ref a10]))] [] (va_A [(o, .inr (2, [.int th, .ref a1, .ref a2, .ref a3, .ref a4, .ref a5, .ref a6, .ref a7, .ref a8, .ref a9, .ref a10]))] sz)) (va_A [(o, .inr (2, [.int th, .ref a1, .ref a2, .ref a3, .ref a4, .ref a5, .ref a6, .ref a7, .ref a8, .ref a9, .ref a10]))] sz)) 0 0 (va_A [(o, .inr (2, [.int th, .ref a1, .ref a2, .ref a3, .ref a4, .ref a5, .ref a6, .ref a7, .ref a8, .ref a9, .ref a10]))] sz) := by
  refine Met.ofW (cc := cX2_refuse) (maxL := 3) (ret := some .boolean) (by decide) rfl ?_
  intro p e s m args below meth c s₁ B hml hv
  obtain ⟨rfl, hsz, hP, hK, hD0⟩ := hv
  have hx := B.exec
  have hb := B.bytes
  have hr := B.returns
  have hts := atoms_spec (ws := wsX2_refuse) B.pre
  have hown : s.vm.findClass "TextureUnitsModel" = some m.cls := findClass_of_methodNamed B.named
  have hlocks := B.notSynchronized
  subst hsz
  have hD := hD0.self (sz := s.heap.size)
  generalize hAe : va_A [(o, .inr (2, [.int th, .ref a1, .ref a2, .ref a3, .ref a4, .ref a5, .ref a6, .ref a7, .ref a8, .ref a9, .ref a10]))] s.heap.size = A at hD ⊢
  have hA : ∀ q : Nat, s.heap.size ≤ q → A q := fun q h => by rw [← hAe]; exact Or.inr h
  have hS : va_S A s.heap s.heap [] := va_S.rf
  have hP : va_P (dC, dI) vwCl [(o, .inr (2, [.int th, .ref a1, .ref a2, .ref a3, .ref a4, .ref a5, .ref a6, .ref a7, .ref a8, .ref a9, .ref a10]))] s.heap := hP
  have hl := lv_entry ([.ref o, .int p0, .int p1]) (n := 3) (Nat.le_of_ble_eq_true rfl)
  rw [lg_entry_eq]
  generalize (lg_sl ([.ref o, .int p0, .int p1]) ++ List.replicate (3 - (lg_sl ([.ref o, .int p0, .int p1])).length) Slot.unset).toArray = ls at hl ⊢
  have hl : lv_has ls 3 [(0, .ref o), (1, .int p0), (2, .int p1)] := hl
  refine lv_aload_n hx hb dX2_refuse_0 rfl (lv_at hl 0 rfl) ?_
  refine lv_iload_n hx hb dX2_refuse_1 rfl (lv_at hl 1 rfl) ?_
  refine lv_if_eq (tgt := 9) hx hb dX2_refuse_2 (by decide) (fun c_1 => ?_) (fun c_1 => absurd h0 c_1)
  refine lv_iload_n hx hb dX2_refuse_9 rfl (lv_at hl 2 rfl) ?_
  refine lv_if_eq (tgt := 17) hx hb dX2_refuse_10 (by decide) (fun c_2 => ?_) (fun c_2 => absurd h1 c_2)
  refine lv_iconst (v := 0) hx hb dX2_refuse_17 (by decide) ?_
  refine va_put (D := (dC, dI)) (ci := 2) (v := .int 0) (ty := .int) (C := "TextureUnitsModel") (T := TX2) (N := 11) hx hb hts (tw_s inX2) tyX2 tyX2_ok nmX2 hown hK hP hD hS 0 rfl rfl 0 (by decide) (hts _ (tw_c tw_333)) (fun _ h9 => h9) rfl (by decide +kernel) rfl rfl (Nat.le_of_ble_eq_true rfl) dX2_refuse_18 (fun H locs hP hD hS => ?_)
  have hP : va_P (dC, dI) vwCl [(o, .inr (2, [.int 0, .ref a1, .ref a2, .ref a3, .ref a4, .ref a5, .ref a6, .ref a7, .ref a8, .ref a9, .ref a10]))] H := hP
  have hD : va_D A [(o, .inr (2, [.int 0, .ref a1, .ref a2, .ref a3, .ref a4, .ref a5, .ref a6, .ref a7, .ref a8, .ref a9, .ref a10]))] := hD
  refine lv_aload_n hx hb dX2_refuse_21 rfl (lv_at hl 0 rfl) ?_
  refine va_get (D := (dC, dI)) (ci := 2) (v := .int 0) (C := "TextureUnitsModel") (T := TX2) (N := 11) hx hb hts (tw_s inX2) hown hK hP 0 rfl rfl 0 (by decide) (hts _ (tw_c tw_333)) (fun _ h9 => h9) rfl dX2_refuse_22 ?_
  refine lv_if_le (tgt := 32) hx hb dX2_refuse_25 (by decide) (fun c_3 => ?_) (fun c_3 => absurd (by decide) c_3)
  refine lv_iconst (v := 0) hx hb dX2_refuse_32 (by decide) ?_
  have hP9 : va_P (dC, dI) vwCl [(o, .inr (2, [.int 0, .ref a1, .ref a2, .ref a3, .ref a4, .ref a5, .ref a6, .ref a7, .ref a8, .ref a9, .ref a10]))] H := hP.sub [0] rfl
  have hD9 : va_D A [(o, .inr (2, [.int 0, .ref a1, .ref a2, .ref a3, .ref a4, .ref a5, .ref a6, .ref a7, .ref a8, .ref a9, .ref a10]))] := hD.sub [0] (by decide) rfl
  have hK9 : va_K (dC, dI) vwCl [] s := hK.sub [] rfl
  exact W.zret (ty := .boolean) (v := 0) hx hb hr rfl (fun t ht hW => ⟨⟨0, (), rfl, rfl, by rw [ht]; exact hP9, va_K.moved hW.alike hK9, hD9⟩, hS.F ht⟩) hS.2.2 dX2_refuse_33
set_option maxHeartbeats 4000000 in
set_option maxRecDepth 100000 in
theorem m_lay (l : Launch) (dC : Nat → ClassId) (dI : Nat → Nat → Nat) (o : Nat) (th : Int32) (a1 a2 a3 a4 a5 a6 a7 a8 a9 a10 : Nat) (cI : ClassId) (f1 s1 : Nat → Int32) (p0 p1 p2 p3 p4 p5 p6 p7 : Int32) (sz : Nat) : Met l yX2_lay wsX2_lay ({ frames := 0, cells := 0, slots := 0, locals := 0 }) (va_Pc [.ref o, .int p0, .int p1, .int p2, .int p3, .int p4, .int p5, .int p6, .int p7] (wr_P (dC, dI) vwCl [(o, .inr (2, [.int th, .ref a1, .ref a2, .ref a3, .ref a4, .ref a5, .ref a6, .ref a7, .ref a8, .ref a9, .ref a10])), (a9, .inl (cI, 4, .inl f1)), (a10, .inl (cI, 4, .inl s1))] [(cI, .int)] sz)) (va_Qv (fun _ : Unit => True) (wr_B (dC, dI) vwCl [(o, .inr (2, [.int th, .ref a1, .ref a2, .ref a3, .ref a4, .ref a5, .ref a6, .ref a7, .ref a8, .ref a9, .ref a10])), (a9, .inl (cI, 4, .inl (upd (upd (upd (upd f1 0 p0) 1 p1) 2 p2) 3 p3))), (a10, .inl (cI, 4, .inl (upd (upd (upd (upd s1 0 p4) 1 p5) 2 p6) 3 p7)))] [(cI, .int)] (va_A [(o, .inr (2, [.int th, .ref a1, .ref a2, .ref a3, .ref a4, .ref a5, .ref a6, .ref a7, .ref a8, .ref a9, .ref a10])), (a9, .inl (cI, 4, .inl f1)), (a10, .inl (cI, 4, .inl s1))] sz)) (va_A [(o, .inr (2, [.int th, .ref a1, .ref a2, .ref a3, .ref a4, .ref a5, .ref a6, .ref a7, .ref a8, .ref a9, .ref a10])), (a9, .inl (cI, 4, .inl f1)), (a10, .inl (cI, 4, .inl s1))] sz)) 0 0 (va_A [(o, .inr (2, [.int th, .ref a1, .ref a2, .ref a3, .ref a4, .ref a5, .ref a6, .ref a7, .ref a8, .ref a9, .ref a10])), (a9, .inl (cI, 4, .inl f1)), (a10, .inl (cI, 4, .inl s1))] sz) := by
  refine Met.ofW (cc := cX2_lay) (maxL := 9) (ret := none) (by decide) rfl ?_
  intro p e s m args below meth c s₁ B hml hv
  obtain ⟨rfl, hsz, hP, hK, hD0⟩ := hv
  have hx := B.exec
  have hb := B.bytes
  have hr := B.returns
  have hts := atoms_spec (ws := wsX2_lay) B.pre
  have hown : s.vm.findClass "TextureUnitsModel" = some m.cls := findClass_of_methodNamed B.named
  have hlocks := B.notSynchronized
  subst hsz
  have hD := hD0.self (sz := s.heap.size)
  generalize hAe : va_A [(o, .inr (2, [.int th, .ref a1, .ref a2, .ref a3, .ref a4, .ref a5, .ref a6, .ref a7, .ref a8, .ref a9, .ref a10])), (a9, .inl (cI, 4, .inl f1)), (a10, .inl (cI, 4, .inl s1))] s.heap.size = A at hD ⊢
  have hA : ∀ q : Nat, s.heap.size ≤ q → A q := fun q h => by rw [← hAe]; exact Or.inr h
  have hS : va_S A s.heap s.heap [] := va_S.rf
  have hP : va_P (dC, dI) vwCl [(o, .inr (2, [.int th, .ref a1, .ref a2, .ref a3, .ref a4, .ref a5, .ref a6, .ref a7, .ref a8, .ref a9, .ref a10])), (a9, .inl (cI, 4, .inl f1)), (a10, .inl (cI, 4, .inl s1))] s.heap := hP
  have hl := lv_entry ([.ref o, .int p0, .int p1, .int p2, .int p3, .int p4, .int p5, .int p6, .int p7]) (n := 9) (Nat.le_of_ble_eq_true rfl)
  rw [lg_entry_eq]
  generalize (lg_sl ([.ref o, .int p0, .int p1, .int p2, .int p3, .int p4, .int p5, .int p6, .int p7]) ++ List.replicate (9 - (lg_sl ([.ref o, .int p0, .int p1, .int p2, .int p3, .int p4, .int p5, .int p6, .int p7])).length) Slot.unset).toArray = ls at hl ⊢
  have hl : lv_has ls 9 [(0, .ref o), (1, .int p0), (2, .int p1), (3, .int p2), (4, .int p3), (5, .int p4), (6, .int p5), (7, .int p6), (8, .int p7)] := hl
  refine lv_aload_n hx hb dX2_lay_0 rfl (lv_at hl 0 rfl) ?_
  refine va_get (D := (dC, dI)) (ci := 2) (v := .ref a9) (C := "TextureUnitsModel") (T := TX2) (N := 11) hx hb hts (tw_s inX2) hown hK hP 0 rfl rfl 9 (by decide) (hts _ (tw_c tw_342)) (fun _ h9 => h9) rfl dX2_lay_1 ?_
  refine lv_iconst (v := 0) hx hb dX2_lay_4 (by decide) ?_
  refine lv_iload_n hx hb dX2_lay_5 rfl (lv_at hl 1 rfl) ?_
  refine va_iast hx hb hK hP hD hS 1 0 rfl rfl (tu_in (by decide)) dX2_lay_6 (fun H locs hP hD hS => ?_)
  have hP : va_P (dC, dI) vwCl [(o, .inr (2, [.int th, .ref a1, .ref a2, .ref a3, .ref a4, .ref a5, .ref a6, .ref a7, .ref a8, .ref a9, .ref a10])), (a9, .inl (cI, 4, .inl (upd f1 0 p0))), (a10, .inl (cI, 4, .inl s1))] H := hP
  have hD : va_D A [(o, .inr (2, [.int th, .ref a1, .ref a2, .ref a3, .ref a4, .ref a5, .ref a6, .ref a7, .ref a8, .ref a9, .ref a10])), (a9, .inl (cI, 4, .inl (upd f1 0 p0))), (a10, .inl (cI, 4, .inl s1))] := hD
  refine lv_aload_n hx hb dX2_lay_7 rfl (lv_at hl 0 rfl) ?_
  refine va_get (D := (dC, dI)) (ci := 2) (v := .ref a9) (C := "TextureUnitsModel") (T := TX2) (N := 11) hx hb hts (tw_s inX2) hown hK hP 0 rfl rfl 9 (by decide) (hts _ (tw_c tw_342)) (fun _ h9 => h9) rfl dX2_lay_8 ?_
  refine lv_iconst (v := 1) hx hb dX2_lay_11 (by decide) ?_
  refine lv_iload_n hx hb dX2_lay_12 rfl (lv_at hl 2 rfl) ?_
  refine va_iast hx hb hK hP hD hS 1 0 rfl rfl (tu_in (by decide)) dX2_lay_13 (fun H locs hP hD hS => ?_)
  have hP : va_P (dC, dI) vwCl [(o, .inr (2, [.int th, .ref a1, .ref a2, .ref a3, .ref a4, .ref a5, .ref a6, .ref a7, .ref a8, .ref a9, .ref a10])), (a9, .inl (cI, 4, .inl (upd (upd f1 0 p0) 1 p1))), (a10, .inl (cI, 4, .inl s1))] H := hP
  have hD : va_D A [(o, .inr (2, [.int th, .ref a1, .ref a2, .ref a3, .ref a4, .ref a5, .ref a6, .ref a7, .ref a8, .ref a9, .ref a10])), (a9, .inl (cI, 4, .inl (upd (upd f1 0 p0) 1 p1))), (a10, .inl (cI, 4, .inl s1))] := hD
  refine lv_aload_n hx hb dX2_lay_14 rfl (lv_at hl 0 rfl) ?_
  refine va_get (D := (dC, dI)) (ci := 2) (v := .ref a9) (C := "TextureUnitsModel") (T := TX2) (N := 11) hx hb hts (tw_s inX2) hown hK hP 0 rfl rfl 9 (by decide) (hts _ (tw_c tw_342)) (fun _ h9 => h9) rfl dX2_lay_15 ?_
  refine lv_iconst (v := 2) hx hb dX2_lay_18 (by decide) ?_
  refine lv_iload_n hx hb dX2_lay_19 rfl (lv_at hl 3 rfl) ?_
  refine va_iast hx hb hK hP hD hS 1 0 rfl rfl (tu_in (by decide)) dX2_lay_20 (fun H locs hP hD hS => ?_)
  have hP : va_P (dC, dI) vwCl [(o, .inr (2, [.int th, .ref a1, .ref a2, .ref a3, .ref a4, .ref a5, .ref a6, .ref a7, .ref a8, .ref a9, .ref a10])), (a9, .inl (cI, 4, .inl (upd (upd (upd f1 0 p0) 1 p1) 2 p2))), (a10, .inl (cI, 4, .inl s1))] H := hP
  have hD : va_D A [(o, .inr (2, [.int th, .ref a1, .ref a2, .ref a3, .ref a4, .ref a5, .ref a6, .ref a7, .ref a8, .ref a9, .ref a10])), (a9, .inl (cI, 4, .inl (upd (upd (upd f1 0 p0) 1 p1) 2 p2))), (a10, .inl (cI, 4, .inl s1))] := hD
  refine lv_aload_n hx hb dX2_lay_21 rfl (lv_at hl 0 rfl) ?_
  refine va_get (D := (dC, dI)) (ci := 2) (v := .ref a9) (C := "TextureUnitsModel") (T := TX2) (N := 11) hx hb hts (tw_s inX2) hown hK hP 0 rfl rfl 9 (by decide) (hts _ (tw_c tw_342)) (fun _ h9 => h9) rfl dX2_lay_22 ?_
  refine lv_iconst (v := 3) hx hb dX2_lay_25 (by decide) ?_
  refine lv_iload hx hb dX2_lay_26 (lv_at hl 4 rfl) ?_
  refine va_iast hx hb hK hP hD hS 1 0 rfl rfl (tu_in (by decide)) dX2_lay_28 (fun H locs hP hD hS => ?_)
  have hP : va_P (dC, dI) vwCl [(o, .inr (2, [.int th, .ref a1, .ref a2, .ref a3, .ref a4, .ref a5, .ref a6, .ref a7, .ref a8, .ref a9, .ref a10])), (a9, .inl (cI, 4, .inl (upd (upd (upd (upd f1 0 p0) 1 p1) 2 p2) 3 p3))), (a10, .inl (cI, 4, .inl s1))] H := hP
  have hD : va_D A [(o, .inr (2, [.int th, .ref a1, .ref a2, .ref a3, .ref a4, .ref a5, .ref a6, .ref a7, .ref a8, .ref a9, .ref a10])), (a9, .inl (cI, 4, .inl (upd (upd (upd (upd f1 0 p0) 1 p1) 2 p2) 3 p3))), (a10, .inl (cI, 4, .inl s1))] := hD
  refine lv_aload_n hx hb dX2_lay_29 rfl (lv_at hl 0 rfl) ?_
  refine va_get (D := (dC, dI)) (ci := 2) (v := .ref a10) (C := "TextureUnitsModel") (T := TX2) (N := 11) hx hb hts (tw_s inX2) hown hK hP 0 rfl rfl 10 (by decide) (hts _ (tw_c tw_343)) (fun _ h9 => h9) rfl dX2_lay_30 ?_
  refine lv_iconst (v := 0) hx hb dX2_lay_33 (by decide) ?_
  refine lv_iload hx hb dX2_lay_34 (lv_at hl 5 rfl) ?_
  refine va_iast hx hb hK hP hD hS 2 0 rfl rfl (tu_in (by decide)) dX2_lay_36 (fun H locs hP hD hS => ?_)
  have hP : va_P (dC, dI) vwCl [(o, .inr (2, [.int th, .ref a1, .ref a2, .ref a3, .ref a4, .ref a5, .ref a6, .ref a7, .ref a8, .ref a9, .ref a10])), (a9, .inl (cI, 4, .inl (upd (upd (upd (upd f1 0 p0) 1 p1) 2 p2) 3 p3))), (a10, .inl (cI, 4, .inl (upd s1 0 p4)))] H := hP
  have hD : va_D A [(o, .inr (2, [.int th, .ref a1, .ref a2, .ref a3, .ref a4, .ref a5, .ref a6, .ref a7, .ref a8, .ref a9, .ref a10])), (a9, .inl (cI, 4, .inl (upd (upd (upd (upd f1 0 p0) 1 p1) 2 p2) 3 p3))), (a10, .inl (cI, 4, .inl (upd s1 0 p4)))] := hD
  refine lv_aload_n hx hb dX2_lay_37 rfl (lv_at hl 0 rfl) ?_
  refine va_get (D := (dC, dI)) (ci := 2) (v := .ref a10) (C := "TextureUnitsModel") (T := TX2) (N := 11) hx hb hts (tw_s inX2) hown hK hP 0 rfl rfl 10 (by decide) (hts _ (tw_c tw_343)) (fun _ h9 => h9) rfl dX2_lay_38 ?_
  refine lv_iconst (v := 1) hx hb dX2_lay_41 (by decide) ?_
  refine lv_iload hx hb dX2_lay_42 (lv_at hl 6 rfl) ?_
  refine va_iast hx hb hK hP hD hS 2 0 rfl rfl (tu_in (by decide)) dX2_lay_44 (fun H locs hP hD hS => ?_)
  have hP : va_P (dC, dI) vwCl [(o, .inr (2, [.int th, .ref a1, .ref a2, .ref a3, .ref a4, .ref a5, .ref a6, .ref a7, .ref a8, .ref a9, .ref a10])), (a9, .inl (cI, 4, .inl (upd (upd (upd (upd f1 0 p0) 1 p1) 2 p2) 3 p3))), (a10, .inl (cI, 4, .inl (upd (upd s1 0 p4) 1 p5)))] H := hP
  have hD : va_D A [(o, .inr (2, [.int th, .ref a1, .ref a2, .ref a3, .ref a4, .ref a5, .ref a6, .ref a7, .ref a8, .ref a9, .ref a10])), (a9, .inl (cI, 4, .inl (upd (upd (upd (upd f1 0 p0) 1 p1) 2 p2) 3 p3))), (a10, .inl (cI, 4, .inl (upd (upd s1 0 p4) 1 p5)))] := hD
  refine lv_aload_n hx hb dX2_lay_45 rfl (lv_at hl 0 rfl) ?_
  refine va_get (D := (dC, dI)) (ci := 2) (v := .ref a10) (C := "TextureUnitsModel") (T := TX2) (N := 11) hx hb hts (tw_s inX2) hown hK hP 0 rfl rfl 10 (by decide) (hts _ (tw_c tw_343)) (fun _ h9 => h9) rfl dX2_lay_46 ?_
  refine lv_iconst (v := 2) hx hb dX2_lay_49 (by decide) ?_
  refine lv_iload hx hb dX2_lay_50 (lv_at hl 7 rfl) ?_
  refine va_iast hx hb hK hP hD hS 2 0 rfl rfl (tu_in (by decide)) dX2_lay_52 (fun H locs hP hD hS => ?_)
  have hP : va_P (dC, dI) vwCl [(o, .inr (2, [.int th, .ref a1, .ref a2, .ref a3, .ref a4, .ref a5, .ref a6, .ref a7, .ref a8, .ref a9, .ref a10])), (a9, .inl (cI, 4, .inl (upd (upd (upd (upd f1 0 p0) 1 p1) 2 p2) 3 p3))), (a10, .inl (cI, 4, .inl (upd (upd (upd s1 0 p4) 1 p5) 2 p6)))] H := hP
  have hD : va_D A [(o, .inr (2, [.int th, .ref a1, .ref a2, .ref a3, .ref a4, .ref a5, .ref a6, .ref a7, .ref a8, .ref a9, .ref a10])), (a9, .inl (cI, 4, .inl (upd (upd (upd (upd f1 0 p0) 1 p1) 2 p2) 3 p3))), (a10, .inl (cI, 4, .inl (upd (upd (upd s1 0 p4) 1 p5) 2 p6)))] := hD
  refine lv_aload_n hx hb dX2_lay_53 rfl (lv_at hl 0 rfl) ?_
  refine va_get (D := (dC, dI)) (ci := 2) (v := .ref a10) (C := "TextureUnitsModel") (T := TX2) (N := 11) hx hb hts (tw_s inX2) hown hK hP 0 rfl rfl 10 (by decide) (hts _ (tw_c tw_343)) (fun _ h9 => h9) rfl dX2_lay_54 ?_
  refine lv_iconst (v := 3) hx hb dX2_lay_57 (by decide) ?_
  refine lv_iload hx hb dX2_lay_58 (lv_at hl 8 rfl) ?_
  refine va_iast hx hb hK hP hD hS 2 0 rfl rfl (tu_in (by decide)) dX2_lay_60 (fun H locs hP hD hS => ?_)
  have hP : va_P (dC, dI) vwCl [(o, .inr (2, [.int th, .ref a1, .ref a2, .ref a3, .ref a4, .ref a5, .ref a6, .ref a7, .ref a8, .ref a9, .ref a10])), (a9, .inl (cI, 4, .inl (upd (upd (upd (upd f1 0 p0) 1 p1) 2 p2) 3 p3))), (a10, .inl (cI, 4, .inl (upd (upd (upd (upd s1 0 p4) 1 p5) 2 p6) 3 p7)))] H := hP
  have hD : va_D A [(o, .inr (2, [.int th, .ref a1, .ref a2, .ref a3, .ref a4, .ref a5, .ref a6, .ref a7, .ref a8, .ref a9, .ref a10])), (a9, .inl (cI, 4, .inl (upd (upd (upd (upd f1 0 p0) 1 p1) 2 p2) 3 p3))), (a10, .inl (cI, 4, .inl (upd (upd (upd (upd s1 0 p4) 1 p5) 2 p6) 3 p7)))] := hD
  have hP9 : va_P (dC, dI) vwCl [(o, .inr (2, [.int th, .ref a1, .ref a2, .ref a3, .ref a4, .ref a5, .ref a6, .ref a7, .ref a8, .ref a9, .ref a10])), (a9, .inl (cI, 4, .inl (upd (upd (upd (upd f1 0 p0) 1 p1) 2 p2) 3 p3))), (a10, .inl (cI, 4, .inl (upd (upd (upd (upd s1 0 p4) 1 p5) 2 p6) 3 p7)))] H := hP.sub [0, 1, 2] rfl
  have hD9 : va_D A [(o, .inr (2, [.int th, .ref a1, .ref a2, .ref a3, .ref a4, .ref a5, .ref a6, .ref a7, .ref a8, .ref a9, .ref a10])), (a9, .inl (cI, 4, .inl (upd (upd (upd (upd f1 0 p0) 1 p1) 2 p2) 3 p3))), (a10, .inl (cI, 4, .inl (upd (upd (upd (upd s1 0 p4) 1 p5) 2 p6) 3 p7)))] := hD.sub [0, 1, 2] (by decide) rfl
  have hK9 : va_K (dC, dI) vwCl [(cI, .int)] s := hK.sub [0] rfl
  exact W.vret hx hb hr (fun t ht hW => ⟨⟨(), rfl, trivial, by rw [ht]; exact hP9, va_K.moved hW.alike hK9, hD9⟩, hS.F ht⟩) hS.2.2 dX2_lay_61
set_option maxHeartbeats 4000000 in
set_option maxRecDepth 100000 in
theorem m_layOut (l : Launch) (dC : Nat → ClassId) (dI : Nat → Nat → Nat) (o : Nat) (th : Int32) (a1 a2 a3 a4 a5 a6 a7 a8 a9 a10 : Nat) (cI : ClassId) (f1 s1 : Nat → Int32) (f : Nat) (sz : Nat) (hf : f < 8) : Met l yX2_layOut wsX2_layOut ({ frames := 1, cells := 0, slots := 0, locals := 28 }) (va_Pc [.ref o, .int (nI f)] (wr_P (dC, dI) vwCl [(o, .inr (2, [.int th, .ref a1, .ref a2, .ref a3, .ref a4, .ref a5, .ref a6, .ref a7, .ref a8, .ref a9, .ref a10])), (a9, .inl (cI, 4, .inl f1)), (a10, .inl (cI, 4, .inl s1))] [(cI, .int)] sz)) (va_Qi (fun (r9 : Int32) (_ : Unit) => r9 = nI (md_tb f)) (wr_B (dC, dI) vwCl [(o, .inr (2, [.int th, .ref a1, .ref a2, .ref a3, .ref a4, .ref a5, .ref a6, .ref a7, .ref a8, .ref a9, .ref a10])), (a9, .inl (cI, 4, .inl (upd (upd (upd (upd f1 0 (nI (md_cs (4 * f + 0)))) 1 (nI (md_cs (4 * f + 1)))) 2 (nI (md_cs (4 * f + 2)))) 3 (nI (md_cs (4 * f + 3)))))), (a10, .inl (cI, 4, .inl (upd (upd (upd (upd s1 0 (nI (md_cb (4 * f + 0)))) 1 (nI (md_cb (4 * f + 1)))) 2 (nI (md_cb (4 * f + 2)))) 3 (nI (md_cb (4 * f + 3))))))] [(cI, .int)] (va_A [(o, .inr (2, [.int th, .ref a1, .ref a2, .ref a3, .ref a4, .ref a5, .ref a6, .ref a7, .ref a8, .ref a9, .ref a10])), (a9, .inl (cI, 4, .inl f1)), (a10, .inl (cI, 4, .inl s1))] sz)) (va_A [(o, .inr (2, [.int th, .ref a1, .ref a2, .ref a3, .ref a4, .ref a5, .ref a6, .ref a7, .ref a8, .ref a9, .ref a10])), (a9, .inl (cI, 4, .inl f1)), (a10, .inl (cI, 4, .inl s1))] sz)) 0 0 (va_A [(o, .inr (2, [.int th, .ref a1, .ref a2, .ref a3, .ref a4, .ref a5, .ref a6, .ref a7, .ref a8, .ref a9, .ref a10])), (a9, .inl (cI, 4, .inl f1)), (a10, .inl (cI, 4, .inl s1))] sz) := by
  refine Met.ofW (cc := cX2_layOut) (maxL := 2) (ret := some .int) (by decide) rfl ?_
  intro p e s m args below meth c s₁ B hml hv
  obtain ⟨rfl, hsz, hP, hK, hD0⟩ := hv
  have hx := B.exec
  have hb := B.bytes
  have hr := B.returns
  have hts := atoms_spec (ws := wsX2_layOut) B.pre
  have hown : s.vm.findClass "TextureUnitsModel" = some m.cls := findClass_of_methodNamed B.named
  have hlocks := B.notSynchronized
  subst hsz
  have hD := hD0.self (sz := s.heap.size)
  generalize hAe : va_A [(o, .inr (2, [.int th, .ref a1, .ref a2, .ref a3, .ref a4, .ref a5, .ref a6, .ref a7, .ref a8, .ref a9, .ref a10])), (a9, .inl (cI, 4, .inl f1)), (a10, .inl (cI, 4, .inl s1))] s.heap.size = A at hD ⊢
  have hA : ∀ q : Nat, s.heap.size ≤ q → A q := fun q h => by rw [← hAe]; exact Or.inr h
  have hS : va_S A s.heap s.heap [] := va_S.rf
  have hP : va_P (dC, dI) vwCl [(o, .inr (2, [.int th, .ref a1, .ref a2, .ref a3, .ref a4, .ref a5, .ref a6, .ref a7, .ref a8, .ref a9, .ref a10])), (a9, .inl (cI, 4, .inl f1)), (a10, .inl (cI, 4, .inl s1))] s.heap := hP
  have hl := lv_entry ([.ref o, .int (nI f)]) (n := 2) (Nat.le_of_ble_eq_true rfl)
  rw [lg_entry_eq]
  generalize (lg_sl ([.ref o, .int (nI f)]) ++ List.replicate (2 - (lg_sl ([.ref o, .int (nI f)])).length) Slot.unset).toArray = ls at hl ⊢
  have hl : lv_has ls 2 [(0, .ref o), (1, .int (nI f))] := hl
  refine lv_iload_n hx hb dX2_layOut_0 rfl (lv_at hl 1 rfl) ?_
  have hf8 : f = 0 ∨ f = 1 ∨ f = 2 ∨ f = 3 ∨ f = 4 ∨ f = 5 ∨ f = 6 ∨ f = 7 := by omega
  rcases hf8 with rfl | rfl | rfl | rfl | rfl | rfl | rfl | rfl
  · refine lv_tableIn (off := 43) (tgt := 44) hx hb dX2_layOut_1 (by decide) (by decide) (by rfl) (by decide) ?_
    refine lv_aload_n hx hb dX2_layOut_44 rfl (lv_at hl 0 rfl) ?_
    refine lv_iconst (v := 0) hx hb dX2_layOut_45 (by decide) ?_
    refine lv_bipush (v := 8) hx hb dX2_layOut_46 (by decide) ?_
    refine lv_bipush (v := 16) hx hb dX2_layOut_48 (by decide) ?_
    refine lv_bipush (v := 24) hx hb dX2_layOut_50 (by decide) ?_
    refine lv_bipush (v := 8) hx hb dX2_layOut_52 (by decide) ?_
    refine lv_bipush (v := 8) hx hb dX2_layOut_54 (by decide) ?_
    refine lv_bipush (v := 8) hx hb dX2_layOut_56 (by decide) ?_
    refine lv_bipush (v := 8) hx hb dX2_layOut_58 (by decide) ?_
    have hPc := hP.sub (ws' := [(o, .inr (2, [.int th, .ref a1, .ref a2, .ref a3, .ref a4, .ref a5, .ref a6, .ref a7, .ref a8, .ref a9, .ref a10])), (a9, .inl (cI, 4, .inl f1)), (a10, .inl (cI, 4, .inl s1))]) [0, 1, 2] rfl
    have hDc := hD.sub (ws' := [(o, .inr (2, [.int th, .ref a1, .ref a2, .ref a3, .ref a4, .ref a5, .ref a6, .ref a7, .ref a8, .ref a9, .ref a10])), (a9, .inl (cI, 4, .inl f1)), (a10, .inl (cI, 4, .inl s1))]) [0, 1, 2] (by decide) rfl
    have hFc := va_free (wc := [(o, .inr (2, [.int th, .ref a1, .ref a2, .ref a3, .ref a4, .ref a5, .ref a6, .ref a7, .ref a8, .ref a9, .ref a10])), (a9, .inl (cI, 4, .inl f1)), (a10, .inl (cI, 4, .inl s1))]) hD hS hA [0, 1, 2] rfl
    refine va_callv (va_runV (As := [.int 0, .int 8, .int 16, .int 24, .int 8, .int 8, .int 8, .int 8]) (rest := []) ⟨hx, hb, hml, hown, hts⟩ (m_lay l dC dI o th a1 a2 a3 a4 a5 a6 a7 a8 a9 a10 cI f1 s1 0 8 16 24 8 8 8 8 s.heap.size) (cwV 8 hts (tg_V tw_418 tw_420 tw_p14 tw_3 tw_421) rfl rfl rfl (by decide +kernel) ⟨Nat.le_of_ble_eq_true rfl, Nat.le_of_ble_eq_true rfl⟩) ⟨wr_blind, va_recv hK hP (ci := 2) (q0 := 0) rfl rfl, fun U hU hW => ⟨rfl, wr_use hPc (hK.sub [0] rfl) hDc U hU hW⟩⟩ rfl rfl hl.1 rfl (lv_room (Nat.le_of_ble_eq_true rfl)) dX2_layOut_60 ⟨Nat.le_of_ble_eq_true rfl, Nat.le_of_ble_eq_true rfl⟩) hS (fun q _ h => hFc q h) hFc (fun u9 t9 H1 locs ht hvm hw hB hz1 hk1 hS => ?_)
    obtain ⟨hP1, hK1, hD1⟩ := hB
    rw [ht] at hP1
    obtain ⟨hP, hD⟩ := va_join (wr := []) (w1 := [(o, .inr (2, [.int th, .ref a1, .ref a2, .ref a3, .ref a4, .ref a5, .ref a6, .ref a7, .ref a8, .ref a9, .ref a10])), (a9, .inl (cI, 4, .inl (upd (upd (upd (upd f1 0 0) 1 8) 2 16) 3 24))), (a10, .inl (cI, 4, .inl (upd (upd (upd (upd s1 0 8) 1 8) 2 8) 3 8)))]) hP hD [0, 1, 2] [] rfl rfl (by decide) (by decide) hk1 hFc hP1 hD1
    have hP := hP.sub (ws' := [(o, .inr (2, [.int th, .ref a1, .ref a2, .ref a3, .ref a4, .ref a5, .ref a6, .ref a7, .ref a8, .ref a9, .ref a10])), (a9, .inl (cI, 4, .inl (upd (upd (upd (upd f1 0 0) 1 8) 2 16) 3 24))), (a10, .inl (cI, 4, .inl (upd (upd (upd (upd s1 0 8) 1 8) 2 8) 3 8)))]) [0, 1, 2] rfl
    have hD := hD.sub (ws' := [(o, .inr (2, [.int th, .ref a1, .ref a2, .ref a3, .ref a4, .ref a5, .ref a6, .ref a7, .ref a8, .ref a9, .ref a10])), (a9, .inl (cI, 4, .inl (upd (upd (upd (upd f1 0 0) 1 8) 2 16) 3 24))), (a10, .inl (cI, 4, .inl (upd (upd (upd (upd s1 0 8) 1 8) 2 8) 3 8)))]) [0, 1, 2] (by decide) rfl
    clear hPc hDc hFc hP1 hK1 hD1 hk1 hz1
    generalize H1 = H at hP hS ⊢
    refine lv_bipush (v := 32) hx hb dX2_layOut_63 (by decide) ?_
    have hP9 : va_P (dC, dI) vwCl [(o, .inr (2, [.int th, .ref a1, .ref a2, .ref a3, .ref a4, .ref a5, .ref a6, .ref a7, .ref a8, .ref a9, .ref a10])), (a9, .inl (cI, 4, .inl (upd (upd (upd (upd f1 0 (nI (md_cs (4 * 0 + 0)))) 1 (nI (md_cs (4 * 0 + 1)))) 2 (nI (md_cs (4 * 0 + 2)))) 3 (nI (md_cs (4 * 0 + 3)))))), (a10, .inl (cI, 4, .inl (upd (upd (upd (upd s1 0 (nI (md_cb (4 * 0 + 0)))) 1 (nI (md_cb (4 * 0 + 1)))) 2 (nI (md_cb (4 * 0 + 2)))) 3 (nI (md_cb (4 * 0 + 3))))))] H := hP.sub [0, 1, 2] rfl
    have hD9 : va_D A [(o, .inr (2, [.int th, .ref a1, .ref a2, .ref a3, .ref a4, .ref a5, .ref a6, .ref a7, .ref a8, .ref a9, .ref a10])), (a9, .inl (cI, 4, .inl (upd (upd (upd (upd f1 0 (nI (md_cs (4 * 0 + 0)))) 1 (nI (md_cs (4 * 0 + 1)))) 2 (nI (md_cs (4 * 0 + 2)))) 3 (nI (md_cs (4 * 0 + 3)))))), (a10, .inl (cI, 4, .inl (upd (upd (upd (upd s1 0 (nI (md_cb (4 * 0 + 0)))) 1 (nI (md_cb (4 * 0 + 1)))) 2 (nI (md_cb (4 * 0 + 2)))) 3 (nI (md_cb (4 * 0 + 3))))))] := hD.sub [0, 1, 2] (by decide) rfl
    have hK9 : va_K (dC, dI) vwCl [(cI, .int)] s := hK.sub [0] rfl
    exact W.iret (v := 32) hx hb hr (fun t ht hW => ⟨⟨32, (), rfl, rfl, by rw [ht]; exact hP9, va_K.moved hW.alike hK9, hD9⟩, hS.F ht⟩) hS.2.2 dX2_layOut_65
  · refine lv_tableIn (off := 65) (tgt := 66) hx hb dX2_layOut_1 (by decide) (by decide) (by rfl) (by decide) ?_
    refine lv_aload_n hx hb dX2_layOut_66 rfl (lv_at hl 0 rfl) ?_
    refine lv_iconst (v := 0) hx hb dX2_layOut_67 (by decide) ?_
    refine lv_iconst (v := 5) hx hb dX2_layOut_68 (by decide) ?_
    refine lv_bipush (v := 11) hx hb dX2_layOut_69 (by decide) ?_
    refine lv_iconst (v := 0) hx hb dX2_layOut_71 (by decide) ?_
    refine lv_iconst (v := 5) hx hb dX2_layOut_72 (by decide) ?_
    refine lv_bipush (v := 6) hx hb dX2_layOut_73 (by decide) ?_
    refine lv_iconst (v := 5) hx hb dX2_layOut_75 (by decide) ?_
    refine lv_iconst (v := 0) hx hb dX2_layOut_76 (by decide) ?_
    have hPc := hP.sub (ws' := [(o, .inr (2, [.int th, .ref a1, .ref a2, .ref a3, .ref a4, .ref a5, .ref a6, .ref a7, .ref a8, .ref a9, .ref a10])), (a9, .inl (cI, 4, .inl f1)), (a10, .inl (cI, 4, .inl s1))]) [0, 1, 2] rfl
    have hDc := hD.sub (ws' := [(o, .inr (2, [.int th, .ref a1, .ref a2, .ref a3, .ref a4, .ref a5, .ref a6, .ref a7, .ref a8, .ref a9, .ref a10])), (a9, .inl (cI, 4, .inl f1)), (a10, .inl (cI, 4, .inl s1))]) [0, 1, 2] (by decide) rfl
    have hFc := va_free (wc := [(o, .inr (2, [.int th, .ref a1, .ref a2, .ref a3, .ref a4, .ref a5, .ref a6, .ref a7, .ref a8, .ref a9, .ref a10])), (a9, .inl (cI, 4, .inl f1)), (a10, .inl (cI, 4, .inl s1))]) hD hS hA [0, 1, 2] rfl
    refine va_callv (va_runV (As := [.int 0, .int 5, .int 11, .int 0, .int 5, .int 6, .int 5, .int 0]) (rest := []) ⟨hx, hb, hml, hown, hts⟩ (m_lay l dC dI o th a1 a2 a3 a4 a5 a6 a7 a8 a9 a10 cI f1 s1 0 5 11 0 5 6 5 0 s.heap.size) (cwV 8 hts (tg_V tw_418 tw_420 tw_p14 tw_3 tw_421) rfl rfl rfl (by decide +kernel) ⟨Nat.le_of_ble_eq_true rfl, Nat.le_of_ble_eq_true rfl⟩) ⟨wr_blind, va_recv hK hP (ci := 2) (q0 := 0) rfl rfl, fun U hU hW => ⟨rfl, wr_use hPc (hK.sub [0] rfl) hDc U hU hW⟩⟩ rfl rfl hl.1 rfl (lv_room (Nat.le_of_ble_eq_true rfl)) dX2_layOut_77 ⟨Nat.le_of_ble_eq_true rfl, Nat.le_of_ble_eq_true rfl⟩) hS (fun q _ h => hFc q h) hFc (fun u9 t9 H1 locs ht hvm hw hB hz1 hk1 hS => ?_)
    obtain ⟨hP1, hK1, hD1⟩ := hB
    rw [ht] at hP1
    obtain ⟨hP, hD⟩ := va_join (wr := []) (w1 := [(o, .inr (2, [.int th, .ref a1, .ref a2, .ref a3, .ref a4, .ref a5, .ref a6, .ref a7, .ref a8, .ref a9, .ref a10])), (a9, .inl (cI, 4, .inl (upd (upd (upd (upd f1 0 0) 1 5) 2 11) 3 0))), (a10, .inl (cI, 4, .inl (upd (upd (upd (upd s1 0 5) 1 6) 2 5) 3 0)))]) hP hD [0, 1, 2] [] rfl rfl (by decide) (by decide) hk1 hFc hP1 hD1
    have hP := hP.sub (ws' := [(o, .inr (2, [.int th, .ref a1, .ref a2, .ref a3, .ref a4, .ref a5, .ref a6, .ref a7, .ref a8, .ref a9, .ref a10])), (a9, .inl (cI, 4, .inl (upd (upd (upd (upd f1 0 0) 1 5) 2 11) 3 0))), (a10, .inl (cI, 4, .inl (upd (upd (upd (upd s1 0 5) 1 6) 2 5) 3 0)))]) [0, 1, 2] rfl
    have hD := hD.sub (ws' := [(o, .inr (2, [.int th, .ref a1, .ref a2, .ref a3, .ref a4, .ref a5, .ref a6, .ref a7, .ref a8, .ref a9, .ref a10])), (a9, .inl (cI, 4, .inl (upd (upd (upd (upd f1 0 0) 1 5) 2 11) 3 0))), (a10, .inl (cI, 4, .inl (upd (upd (upd (upd s1 0 5) 1 6) 2 5) 3 0)))]) [0, 1, 2] (by decide) rfl
    clear hPc hDc hFc hP1 hK1 hD1 hk1 hz1
    generalize H1 = H at hP hS ⊢
    refine lv_bipush (v := 16) hx hb dX2_layOut_80 (by decide) ?_
    have hP9 : va_P (dC, dI) vwCl [(o, .inr (2, [.int th, .ref a1, .ref a2, .ref a3, .ref a4, .ref a5, .ref a6, .ref a7, .ref a8, .ref a9, .ref a10])), (a9, .inl (cI, 4, .inl (upd (upd (upd (upd f1 0 (nI (md_cs (4 * 1 + 0)))) 1 (nI (md_cs (4 * 1 + 1)))) 2 (nI (md_cs (4 * 1 + 2)))) 3 (nI (md_cs (4 * 1 + 3)))))), (a10, .inl (cI, 4, .inl (upd (upd (upd (upd s1 0 (nI (md_cb (4 * 1 + 0)))) 1 (nI (md_cb (4 * 1 + 1)))) 2 (nI (md_cb (4 * 1 + 2)))) 3 (nI (md_cb (4 * 1 + 3))))))] H := hP.sub [0, 1, 2] rfl
    have hD9 : va_D A [(o, .inr (2, [.int th, .ref a1, .ref a2, .ref a3, .ref a4, .ref a5, .ref a6, .ref a7, .ref a8, .ref a9, .ref a10])), (a9, .inl (cI, 4, .inl (upd (upd (upd (upd f1 0 (nI (md_cs (4 * 1 + 0)))) 1 (nI (md_cs (4 * 1 + 1)))) 2 (nI (md_cs (4 * 1 + 2)))) 3 (nI (md_cs (4 * 1 + 3)))))), (a10, .inl (cI, 4, .inl (upd (upd (upd (upd s1 0 (nI (md_cb (4 * 1 + 0)))) 1 (nI (md_cb (4 * 1 + 1)))) 2 (nI (md_cb (4 * 1 + 2)))) 3 (nI (md_cb (4 * 1 + 3))))))] := hD.sub [0, 1, 2] (by decide) rfl
    have hK9 : va_K (dC, dI) vwCl [(cI, .int)] s := hK.sub [0] rfl
    exact W.iret (v := 16) hx hb hr (fun t ht hW => ⟨⟨16, (), rfl, rfl, by rw [ht]; exact hP9, va_K.moved hW.alike hK9, hD9⟩, hS.F ht⟩) hS.2.2 dX2_layOut_82
  · refine lv_tableIn (off := 82) (tgt := 83) hx hb dX2_layOut_1 (by decide) (by decide) (by rfl) (by decide) ?_
    refine lv_aload_n hx hb dX2_layOut_83 rfl (lv_at hl 0 rfl) ?_
    refine lv_iconst (v := 0) hx hb dX2_layOut_84 (by decide) ?_
    refine lv_iconst (v := 4) hx hb dX2_layOut_85 (by decide) ?_
    refine lv_bipush (v := 8) hx hb dX2_layOut_86 (by decide) ?_
    refine lv_bipush (v := 12) hx hb dX2_layOut_88 (by decide) ?_
    refine lv_iconst (v := 4) hx hb dX2_layOut_90 (by decide) ?_
    refine lv_iconst (v := 4) hx hb dX2_layOut_91 (by decide) ?_
    refine lv_iconst (v := 4) hx hb dX2_layOut_92 (by decide) ?_
    refine lv_iconst (v := 4) hx hb dX2_layOut_93 (by decide) ?_
    have hPc := hP.sub (ws' := [(o, .inr (2, [.int th, .ref a1, .ref a2, .ref a3, .ref a4, .ref a5, .ref a6, .ref a7, .ref a8, .ref a9, .ref a10])), (a9, .inl (cI, 4, .inl f1)), (a10, .inl (cI, 4, .inl s1))]) [0, 1, 2] rfl
    have hDc := hD.sub (ws' := [(o, .inr (2, [.int th, .ref a1, .ref a2, .ref a3, .ref a4, .ref a5, .ref a6, .ref a7, .ref a8, .ref a9, .ref a10])), (a9, .inl (cI, 4, .inl f1)), (a10, .inl (cI, 4, .inl s1))]) [0, 1, 2] (by decide) rfl
    have hFc := va_free (wc := [(o, .inr (2, [.int th, .ref a1, .ref a2, .ref a3, .ref a4, .ref a5, .ref a6, .ref a7, .ref a8, .ref a9, .ref a10])), (a9, .inl (cI, 4, .inl f1)), (a10, .inl (cI, 4, .inl s1))]) hD hS hA [0, 1, 2] rfl
    refine va_callv (va_runV (As := [.int 0, .int 4, .int 8, .int 12, .int 4, .int 4, .int 4, .int 4]) (rest := []) ⟨hx, hb, hml, hown, hts⟩ (m_lay l dC dI o th a1 a2 a3 a4 a5 a6 a7 a8 a9 a10 cI f1 s1 0 4 8 12 4 4 4 4 s.heap.size) (cwV 8 hts (tg_V tw_418 tw_420 tw_p14 tw_3 tw_421) rfl rfl rfl (by decide +kernel) ⟨Nat.le_of_ble_eq_true rfl, Nat.le_of_ble_eq_true rfl⟩) ⟨wr_blind, va_recv hK hP (ci := 2) (q0 := 0) rfl rfl, fun U hU hW => ⟨rfl, wr_use hPc (hK.sub [0] rfl) hDc U hU hW⟩⟩ rfl rfl hl.1 rfl (lv_room (Nat.le_of_ble_eq_true rfl)) dX2_layOut_94 ⟨Nat.le_of_ble_eq_true rfl, Nat.le_of_ble_eq_true rfl⟩) hS (fun q _ h => hFc q h) hFc (fun u9 t9 H1 locs ht hvm hw hB hz1 hk1 hS => ?_)
    obtain ⟨hP1, hK1, hD1⟩ := hB
    rw [ht] at hP1
    obtain ⟨hP, hD⟩ := va_join (wr := []) (w1 := [(o, .inr (2, [.int th, .ref a1, .ref a2, .ref a3, .ref a4, .ref a5, .ref a6, .ref a7, .ref a8, .ref a9, .ref a10])), (a9, .inl (cI, 4, .inl (upd (upd (upd (upd f1 0 0) 1 4) 2 8) 3 12))), (a10, .inl (cI, 4, .inl (upd (upd (upd (upd s1 0 4) 1 4) 2 4) 3 4)))]) hP hD [0, 1, 2] [] rfl rfl (by decide) (by decide) hk1 hFc hP1 hD1
    have hP := hP.sub (ws' := [(o, .inr (2, [.int th, .ref a1, .ref a2, .ref a3, .ref a4, .ref a5, .ref a6, .ref a7, .ref a8, .ref a9, .ref a10])), (a9, .inl (cI, 4, .inl (upd (upd (upd (upd f1 0 0) 1 4) 2 8) 3 12))), (a10, .inl (cI, 4, .inl (upd (upd (upd (upd s1 0 4) 1 4) 2 4) 3 4)))]) [0, 1, 2] rfl
    have hD := hD.sub (ws' := [(o, .inr (2, [.int th, .ref a1, .ref a2, .ref a3, .ref a4, .ref a5, .ref a6, .ref a7, .ref a8, .ref a9, .ref a10])), (a9, .inl (cI, 4, .inl (upd (upd (upd (upd f1 0 0) 1 4) 2 8) 3 12))), (a10, .inl (cI, 4, .inl (upd (upd (upd (upd s1 0 4) 1 4) 2 4) 3 4)))]) [0, 1, 2] (by decide) rfl
    clear hPc hDc hFc hP1 hK1 hD1 hk1 hz1
    generalize H1 = H at hP hS ⊢
    refine lv_bipush (v := 16) hx hb dX2_layOut_97 (by decide) ?_
    have hP9 : va_P (dC, dI) vwCl [(o, .inr (2, [.int th, .ref a1, .ref a2, .ref a3, .ref a4, .ref a5, .ref a6, .ref a7, .ref a8, .ref a9, .ref a10])), (a9, .inl (cI, 4, .inl (upd (upd (upd (upd f1 0 (nI (md_cs (4 * 2 + 0)))) 1 (nI (md_cs (4 * 2 + 1)))) 2 (nI (md_cs (4 * 2 + 2)))) 3 (nI (md_cs (4 * 2 + 3)))))), (a10, .inl (cI, 4, .inl (upd (upd (upd (upd s1 0 (nI (md_cb (4 * 2 + 0)))) 1 (nI (md_cb (4 * 2 + 1)))) 2 (nI (md_cb (4 * 2 + 2)))) 3 (nI (md_cb (4 * 2 + 3))))))] H := hP.sub [0, 1, 2] rfl
    have hD9 : va_D A [(o, .inr (2, [.int th, .ref a1, .ref a2, .ref a3, .ref a4, .ref a5, .ref a6, .ref a7, .ref a8, .ref a9, .ref a10])), (a9, .inl (cI, 4, .inl (upd (upd (upd (upd f1 0 (nI (md_cs (4 * 2 + 0)))) 1 (nI (md_cs (4 * 2 + 1)))) 2 (nI (md_cs (4 * 2 + 2)))) 3 (nI (md_cs (4 * 2 + 3)))))), (a10, .inl (cI, 4, .inl (upd (upd (upd (upd s1 0 (nI (md_cb (4 * 2 + 0)))) 1 (nI (md_cb (4 * 2 + 1)))) 2 (nI (md_cb (4 * 2 + 2)))) 3 (nI (md_cb (4 * 2 + 3))))))] := hD.sub [0, 1, 2] (by decide) rfl
    have hK9 : va_K (dC, dI) vwCl [(cI, .int)] s := hK.sub [0] rfl
    exact W.iret (v := 16) hx hb hr (fun t ht hW => ⟨⟨16, (), rfl, rfl, by rw [ht]; exact hP9, va_K.moved hW.alike hK9, hD9⟩, hS.F ht⟩) hS.2.2 dX2_layOut_99
  · refine lv_tableIn (off := 99) (tgt := 100) hx hb dX2_layOut_1 (by decide) (by decide) (by rfl) (by decide) ?_
    refine lv_aload_n hx hb dX2_layOut_100 rfl (lv_at hl 0 rfl) ?_
    refine lv_iconst (v := 0) hx hb dX2_layOut_101 (by decide) ?_
    refine lv_iconst (v := 5) hx hb dX2_layOut_102 (by decide) ?_
    refine lv_bipush (v := 10) hx hb dX2_layOut_103 (by decide) ?_
    refine lv_bipush (v := 15) hx hb dX2_layOut_105 (by decide) ?_
    refine lv_iconst (v := 5) hx hb dX2_layOut_107 (by decide) ?_
    refine lv_iconst (v := 5) hx hb dX2_layOut_108 (by decide) ?_
    refine lv_iconst (v := 5) hx hb dX2_layOut_109 (by decide) ?_
    refine lv_iconst (v := 1) hx hb dX2_layOut_110 (by decide) ?_
    have hPc := hP.sub (ws' := [(o, .inr (2, [.int th, .ref a1, .ref a2, .ref a3, .ref a4, .ref a5, .ref a6, .ref a7, .ref a8, .ref a9, .ref a10])), (a9, .inl (cI, 4, .inl f1)), (a10, .inl (cI, 4, .inl s1))]) [0, 1, 2] rfl
    have hDc := hD.sub (ws' := [(o, .inr (2, [.int th, .ref a1, .ref a2, .ref a3, .ref a4, .ref a5, .ref a6, .ref a7, .ref a8, .ref a9, .ref a10])), (a9, .inl (cI, 4, .inl f1)), (a10, .inl (cI, 4, .inl s1))]) [0, 1, 2] (by decide) rfl
    have hFc := va_free (wc := [(o, .inr (2, [.int th, .ref a1, .ref a2, .ref a3, .ref a4, .ref a5, .ref a6, .ref a7, .ref a8, .ref a9, .ref a10])), (a9, .inl (cI, 4, .inl f1)), (a10, .inl (cI, 4, .inl s1))]) hD hS hA [0, 1, 2] rfl
    refine va_callv (va_runV (As := [.int 0, .int 5, .int 10, .int 15, .int 5, .int 5, .int 5, .int 1]) (rest := []) ⟨hx, hb, hml, hown, hts⟩ (m_lay l dC dI o th a1 a2 a3 a4 a5 a6 a7 a8 a9 a10 cI f1 s1 0 5 10 15 5 5 5 1 s.heap.size) (cwV 8 hts (tg_V tw_418 tw_420 tw_p14 tw_3 tw_421) rfl rfl rfl (by decide +kernel) ⟨Nat.le_of_ble_eq_true rfl, Nat.le_of_ble_eq_true rfl⟩) ⟨wr_blind, va_recv hK hP (ci := 2) (q0 := 0) rfl rfl, fun U hU hW => ⟨rfl, wr_use hPc (hK.sub [0] rfl) hDc U hU hW⟩⟩ rfl rfl hl.1 rfl (lv_room (Nat.le_of_ble_eq_true rfl)) dX2_layOut_111 ⟨Nat.le_of_ble_eq_true rfl, Nat.le_of_ble_eq_true rfl⟩) hS (fun q _ h => hFc q h) hFc (fun u9 t9 H1 locs ht hvm hw hB hz1 hk1 hS => ?_)
    obtain ⟨hP1, hK1, hD1⟩ := hB
    rw [ht] at hP1
    obtain ⟨hP, hD⟩ := va_join (wr := []) (w1 := [(o, .inr (2, [.int th, .ref a1, .ref a2, .ref a3, .ref a4, .ref a5, .ref a6, .ref a7, .ref a8, .ref a9, .ref a10])), (a9, .inl (cI, 4, .inl (upd (upd (upd (upd f1 0 0) 1 5) 2 10) 3 15))), (a10, .inl (cI, 4, .inl (upd (upd (upd (upd s1 0 5) 1 5) 2 5) 3 1)))]) hP hD [0, 1, 2] [] rfl rfl (by decide) (by decide) hk1 hFc hP1 hD1
    have hP := hP.sub (ws' := [(o, .inr (2, [.int th, .ref a1, .ref a2, .ref a3, .ref a4, .ref a5, .ref a6, .ref a7, .ref a8, .ref a9, .ref a10])), (a9, .inl (cI, 4, .inl (upd (upd (upd (upd f1 0 0) 1 5) 2 10) 3 15))), (a10, .inl (cI, 4, .inl (upd (upd (upd (upd s1 0 5) 1 5) 2 5) 3 1)))]) [0, 1, 2] rfl
    have hD := hD.sub (ws' := [(o, .inr (2, [.int th, .ref a1, .ref a2, .ref a3, .ref a4, .ref a5, .ref a6, .ref a7, .ref a8, .ref a9, .ref a10])), (a9, .inl (cI, 4, .inl (upd (upd (upd (upd f1 0 0) 1 5) 2 10) 3 15))), (a10, .inl (cI, 4, .inl (upd (upd (upd (upd s1 0 5) 1 5) 2 5) 3 1)))]) [0, 1, 2] (by decide) rfl
    clear hPc hDc hFc hP1 hK1 hD1 hk1 hz1
    generalize H1 = H at hP hS ⊢
    refine lv_bipush (v := 16) hx hb dX2_layOut_114 (by decide) ?_
    have hP9 : va_P (dC, dI) vwCl [(o, .inr (2, [.int th, .ref a1, .ref a2, .ref a3, .ref a4, .ref a5, .ref a6, .ref a7, .ref a8, .ref a9, .ref a10])), (a9, .inl (cI, 4, .inl (upd (upd (upd (upd f1 0 (nI (md_cs (4 * 3 + 0)))) 1 (nI (md_cs (4 * 3 + 1)))) 2 (nI (md_cs (4 * 3 + 2)))) 3 (nI (md_cs (4 * 3 + 3)))))), (a10, .inl (cI, 4, .inl (upd (upd (upd (upd s1 0 (nI (md_cb (4 * 3 + 0)))) 1 (nI (md_cb (4 * 3 + 1)))) 2 (nI (md_cb (4 * 3 + 2)))) 3 (nI (md_cb (4 * 3 + 3))))))] H := hP.sub [0, 1, 2] rfl
    have hD9 : va_D A [(o, .inr (2, [.int th, .ref a1, .ref a2, .ref a3, .ref a4, .ref a5, .ref a6, .ref a7, .ref a8, .ref a9, .ref a10])), (a9, .inl (cI, 4, .inl (upd (upd (upd (upd f1 0 (nI (md_cs (4 * 3 + 0)))) 1 (nI (md_cs (4 * 3 + 1)))) 2 (nI (md_cs (4 * 3 + 2)))) 3 (nI (md_cs (4 * 3 + 3)))))), (a10, .inl (cI, 4, .inl (upd (upd (upd (upd s1 0 (nI (md_cb (4 * 3 + 0)))) 1 (nI (md_cb (4 * 3 + 1)))) 2 (nI (md_cb (4 * 3 + 2)))) 3 (nI (md_cb (4 * 3 + 3))))))] := hD.sub [0, 1, 2] (by decide) rfl
    have hK9 : va_K (dC, dI) vwCl [(cI, .int)] s := hK.sub [0] rfl
    exact W.iret (v := 16) hx hb hr (fun t ht hW => ⟨⟨16, (), rfl, rfl, by rw [ht]; exact hP9, va_K.moved hW.alike hK9, hD9⟩, hS.F ht⟩) hS.2.2 dX2_layOut_116
  · refine lv_tableIn (off := 116) (tgt := 117) hx hb dX2_layOut_1 (by decide) (by decide) (by rfl) (by decide) ?_
    refine lv_aload_n hx hb dX2_layOut_117 rfl (lv_at hl 0 rfl) ?_
    refine lv_iconst (v := 0) hx hb dX2_layOut_118 (by decide) ?_
    refine lv_iconst (v := 0) hx hb dX2_layOut_119 (by decide) ?_
    refine lv_iconst (v := 0) hx hb dX2_layOut_120 (by decide) ?_
    refine lv_iconst (v := 0) hx hb dX2_layOut_121 (by decide) ?_
    refine lv_bipush (v := 8) hx hb dX2_layOut_122 (by decide) ?_
    refine lv_bipush (v := 8) hx hb dX2_layOut_124 (by decide) ?_
    refine lv_bipush (v := 8) hx hb dX2_layOut_126 (by decide) ?_
    refine lv_iconst (v := 0) hx hb dX2_layOut_128 (by decide) ?_
    have hPc := hP.sub (ws' := [(o, .inr (2, [.int th, .ref a1, .ref a2, .ref a3, .ref a4, .ref a5, .ref a6, .ref a7, .ref a8, .ref a9, .ref a10])), (a9, .inl (cI, 4, .inl f1)), (a10, .inl (cI, 4, .inl s1))]) [0, 1, 2] rfl
    have hDc := hD.sub (ws' := [(o, .inr (2, [.int th, .ref a1, .ref a2, .ref a3, .ref a4, .ref a5, .ref a6, .ref a7, .ref a8, .ref a9, .ref a10])), (a9, .inl (cI, 4, .inl f1)), (a10, .inl (cI, 4, .inl s1))]) [0, 1, 2] (by decide) rfl
    have hFc := va_free (wc := [(o, .inr (2, [.int th, .ref a1, .ref a2, .ref a3, .ref a4, .ref a5, .ref a6, .ref a7, .ref a8, .ref a9, .ref a10])), (a9, .inl (cI, 4, .inl f1)), (a10, .inl (cI, 4, .inl s1))]) hD hS hA [0, 1, 2] rfl
    refine va_callv (va_runV (As := [.int 0, .int 0, .int 0, .int 0, .int 8, .int 8, .int 8, .int 0]) (rest := []) ⟨hx, hb, hml, hown, hts⟩ (m_lay l dC dI o th a1 a2 a3 a4 a5 a6 a7 a8 a9 a10 cI f1 s1 0 0 0 0 8 8 8 0 s.heap.size) (cwV 8 hts (tg_V tw_418 tw_420 tw_p14 tw_3 tw_421) rfl rfl rfl (by decide +kernel) ⟨Nat.le_of_ble_eq_true rfl, Nat.le_of_ble_eq_true rfl⟩) ⟨wr_blind, va_recv hK hP (ci := 2) (q0 := 0) rfl rfl, fun U hU hW => ⟨rfl, wr_use hPc (hK.sub [0] rfl) hDc U hU hW⟩⟩ rfl rfl hl.1 rfl (lv_room (Nat.le_of_ble_eq_true rfl)) dX2_layOut_129 ⟨Nat.le_of_ble_eq_true rfl, Nat.le_of_ble_eq_true rfl⟩) hS (fun q _ h => hFc q h) hFc (fun u9 t9 H1 locs ht hvm hw hB hz1 hk1 hS => ?_)
    obtain ⟨hP1, hK1, hD1⟩ := hB
    rw [ht] at hP1
    obtain ⟨hP, hD⟩ := va_join (wr := []) (w1 := [(o, .inr (2, [.int th, .ref a1, .ref a2, .ref a3, .ref a4, .ref a5, .ref a6, .ref a7, .ref a8, .ref a9, .ref a10])), (a9, .inl (cI, 4, .inl (upd (upd (upd (upd f1 0 0) 1 0) 2 0) 3 0))), (a10, .inl (cI, 4, .inl (upd (upd (upd (upd s1 0 8) 1 8) 2 8) 3 0)))]) hP hD [0, 1, 2] [] rfl rfl (by decide) (by decide) hk1 hFc hP1 hD1
    have hP := hP.sub (ws' := [(o, .inr (2, [.int th, .ref a1, .ref a2, .ref a3, .ref a4, .ref a5, .ref a6, .ref a7, .ref a8, .ref a9, .ref a10])), (a9, .inl (cI, 4, .inl (upd (upd (upd (upd f1 0 0) 1 0) 2 0) 3 0))), (a10, .inl (cI, 4, .inl (upd (upd (upd (upd s1 0 8) 1 8) 2 8) 3 0)))]) [0, 1, 2] rfl
    have hD := hD.sub (ws' := [(o, .inr (2, [.int th, .ref a1, .ref a2, .ref a3, .ref a4, .ref a5, .ref a6, .ref a7, .ref a8, .ref a9, .ref a10])), (a9, .inl (cI, 4, .inl (upd (upd (upd (upd f1 0 0) 1 0) 2 0) 3 0))), (a10, .inl (cI, 4, .inl (upd (upd (upd (upd s1 0 8) 1 8) 2 8) 3 0)))]) [0, 1, 2] (by decide) rfl
    clear hPc hDc hFc hP1 hK1 hD1 hk1 hz1
    generalize H1 = H at hP hS ⊢
    refine lv_bipush (v := 8) hx hb dX2_layOut_132 (by decide) ?_
    have hP9 : va_P (dC, dI) vwCl [(o, .inr (2, [.int th, .ref a1, .ref a2, .ref a3, .ref a4, .ref a5, .ref a6, .ref a7, .ref a8, .ref a9, .ref a10])), (a9, .inl (cI, 4, .inl (upd (upd (upd (upd f1 0 (nI (md_cs (4 * 4 + 0)))) 1 (nI (md_cs (4 * 4 + 1)))) 2 (nI (md_cs (4 * 4 + 2)))) 3 (nI (md_cs (4 * 4 + 3)))))), (a10, .inl (cI, 4, .inl (upd (upd (upd (upd s1 0 (nI (md_cb (4 * 4 + 0)))) 1 (nI (md_cb (4 * 4 + 1)))) 2 (nI (md_cb (4 * 4 + 2)))) 3 (nI (md_cb (4 * 4 + 3))))))] H := hP.sub [0, 1, 2] rfl
    have hD9 : va_D A [(o, .inr (2, [.int th, .ref a1, .ref a2, .ref a3, .ref a4, .ref a5, .ref a6, .ref a7, .ref a8, .ref a9, .ref a10])), (a9, .inl (cI, 4, .inl (upd (upd (upd (upd f1 0 (nI (md_cs (4 * 4 + 0)))) 1 (nI (md_cs (4 * 4 + 1)))) 2 (nI (md_cs (4 * 4 + 2)))) 3 (nI (md_cs (4 * 4 + 3)))))), (a10, .inl (cI, 4, .inl (upd (upd (upd (upd s1 0 (nI (md_cb (4 * 4 + 0)))) 1 (nI (md_cb (4 * 4 + 1)))) 2 (nI (md_cb (4 * 4 + 2)))) 3 (nI (md_cb (4 * 4 + 3))))))] := hD.sub [0, 1, 2] (by decide) rfl
    have hK9 : va_K (dC, dI) vwCl [(cI, .int)] s := hK.sub [0] rfl
    exact W.iret (v := 8) hx hb hr (fun t ht hW => ⟨⟨8, (), rfl, rfl, by rw [ht]; exact hP9, va_K.moved hW.alike hK9, hD9⟩, hS.F ht⟩) hS.2.2 dX2_layOut_134
  · refine lv_tableIn (off := 134) (tgt := 135) hx hb dX2_layOut_1 (by decide) (by decide) (by rfl) (by decide) ?_
    refine lv_aload_n hx hb dX2_layOut_135 rfl (lv_at hl 0 rfl) ?_
    refine lv_iconst (v := 0) hx hb dX2_layOut_136 (by decide) ?_
    refine lv_iconst (v := 0) hx hb dX2_layOut_137 (by decide) ?_
    refine lv_iconst (v := 0) hx hb dX2_layOut_138 (by decide) ?_
    refine lv_iconst (v := 0) hx hb dX2_layOut_139 (by decide) ?_
    refine lv_iconst (v := 0) hx hb dX2_layOut_140 (by decide) ?_
    refine lv_iconst (v := 0) hx hb dX2_layOut_141 (by decide) ?_
    refine lv_iconst (v := 0) hx hb dX2_layOut_142 (by decide) ?_
    refine lv_bipush (v := 8) hx hb dX2_layOut_143 (by decide) ?_
    have hPc := hP.sub (ws' := [(o, .inr (2, [.int th, .ref a1, .ref a2, .ref a3, .ref a4, .ref a5, .ref a6, .ref a7, .ref a8, .ref a9, .ref a10])), (a9, .inl (cI, 4, .inl f1)), (a10, .inl (cI, 4, .inl s1))]) [0, 1, 2] rfl
    have hDc := hD.sub (ws' := [(o, .inr (2, [.int th, .ref a1, .ref a2, .ref a3, .ref a4, .ref a5, .ref a6, .ref a7, .ref a8, .ref a9, .ref a10])), (a9, .inl (cI, 4, .inl f1)), (a10, .inl (cI, 4, .inl s1))]) [0, 1, 2] (by decide) rfl
    have hFc := va_free (wc := [(o, .inr (2, [.int th, .ref a1, .ref a2, .ref a3, .ref a4, .ref a5, .ref a6, .ref a7, .ref a8, .ref a9, .ref a10])), (a9, .inl (cI, 4, .inl f1)), (a10, .inl (cI, 4, .inl s1))]) hD hS hA [0, 1, 2] rfl
    refine va_callv (va_runV (As := [.int 0, .int 0, .int 0, .int 0, .int 0, .int 0, .int 0, .int 8]) (rest := []) ⟨hx, hb, hml, hown, hts⟩ (m_lay l dC dI o th a1 a2 a3 a4 a5 a6 a7 a8 a9 a10 cI f1 s1 0 0 0 0 0 0 0 8 s.heap.size) (cwV 8 hts (tg_V tw_418 tw_420 tw_p14 tw_3 tw_421) rfl rfl rfl (by decide +kernel) ⟨Nat.le_of_ble_eq_true rfl, Nat.le_of_ble_eq_true rfl⟩) ⟨wr_blind, va_recv hK hP (ci := 2) (q0 := 0) rfl rfl, fun U hU hW => ⟨rfl, wr_use hPc (hK.sub [0] rfl) hDc U hU hW⟩⟩ rfl rfl hl.1 rfl (lv_room (Nat.le_of_ble_eq_true rfl)) dX2_layOut_145 ⟨Nat.le_of_ble_eq_true rfl, Nat.le_of_ble_eq_true rfl⟩) hS (fun q _ h => hFc q h) hFc (fun u9 t9 H1 locs ht hvm hw hB hz1 hk1 hS => ?_)
    obtain ⟨hP1, hK1, hD1⟩ := hB
    rw [ht] at hP1
    obtain ⟨hP, hD⟩ := va_join (wr := []) (w1 := [(o, .inr (2, [.int th, .ref a1, .ref a2, .ref a3, .ref a4, .ref a5, .ref a6, .ref a7, .ref a8, .ref a9, .ref a10])), (a9, .inl (cI, 4, .inl (upd (upd (upd (upd f1 0 0) 1 0) 2 0) 3 0))), (a10, .inl (cI, 4, .inl (upd (upd (upd (upd s1 0 0) 1 0) 2 0) 3 8)))]) hP hD [0, 1, 2] [] rfl rfl (by decide) (by decide) hk1 hFc hP1 hD1
    have hP := hP.sub (ws' := [(o, .inr (2, [.int th, .ref a1, .ref a2, .ref a3, .ref a4, .ref a5, .ref a6, .ref a7, .ref a8, .ref a9, .ref a10])), (a9, .inl (cI, 4, .inl (upd (upd (upd (upd f1 0 0) 1 0) 2 0) 3 0))), (a10, .inl (cI, 4, .inl (upd (upd (upd (upd s1 0 0) 1 0) 2 0) 3 8)))]) [0, 1, 2] rfl
    have hD := hD.sub (ws' := [(o, .inr (2, [.int th, .ref a1, .ref a2, .ref a3, .ref a4, .ref a5, .ref a6, .ref a7, .ref a8, .ref a9, .ref a10])), (a9, .inl (cI, 4, .inl (upd (upd (upd (upd f1 0 0) 1 0) 2 0) 3 0))), (a10, .inl (cI, 4, .inl (upd (upd (upd (upd s1 0 0) 1 0) 2 0) 3 8)))]) [0, 1, 2] (by decide) rfl
    clear hPc hDc hFc hP1 hK1 hD1 hk1 hz1
    generalize H1 = H at hP hS ⊢
    refine lv_bipush (v := 8) hx hb dX2_layOut_148 (by decide) ?_
    have hP9 : va_P (dC, dI) vwCl [(o, .inr (2, [.int th, .ref a1, .ref a2, .ref a3, .ref a4, .ref a5, .ref a6, .ref a7, .ref a8, .ref a9, .ref a10])), (a9, .inl (cI, 4, .inl (upd (upd (upd (upd f1 0 (nI (md_cs (4 * 5 + 0)))) 1 (nI (md_cs (4 * 5 + 1)))) 2 (nI (md_cs (4 * 5 + 2)))) 3 (nI (md_cs (4 * 5 + 3)))))), (a10, .inl (cI, 4, .inl (upd (upd (upd (upd s1 0 (nI (md_cb (4 * 5 + 0)))) 1 (nI (md_cb (4 * 5 + 1)))) 2 (nI (md_cb (4 * 5 + 2)))) 3 (nI (md_cb (4 * 5 + 3))))))] H := hP.sub [0, 1, 2] rfl
    have hD9 : va_D A [(o, .inr (2, [.int th, .ref a1, .ref a2, .ref a3, .ref a4, .ref a5, .ref a6, .ref a7, .ref a8, .ref a9, .ref a10])), (a9, .inl (cI, 4, .inl (upd (upd (upd (upd f1 0 (nI (md_cs (4 * 5 + 0)))) 1 (nI (md_cs (4 * 5 + 1)))) 2 (nI (md_cs (4 * 5 + 2)))) 3 (nI (md_cs (4 * 5 + 3)))))), (a10, .inl (cI, 4, .inl (upd (upd (upd (upd s1 0 (nI (md_cb (4 * 5 + 0)))) 1 (nI (md_cb (4 * 5 + 1)))) 2 (nI (md_cb (4 * 5 + 2)))) 3 (nI (md_cb (4 * 5 + 3))))))] := hD.sub [0, 1, 2] (by decide) rfl
    have hK9 : va_K (dC, dI) vwCl [(cI, .int)] s := hK.sub [0] rfl
    exact W.iret (v := 8) hx hb hr (fun t ht hW => ⟨⟨8, (), rfl, rfl, by rw [ht]; exact hP9, va_K.moved hW.alike hK9, hD9⟩, hS.F ht⟩) hS.2.2 dX2_layOut_150
  · refine lv_tableIn (off := 150) (tgt := 151) hx hb dX2_layOut_1 (by decide) (by decide) (by rfl) (by decide) ?_
    refine lv_aload_n hx hb dX2_layOut_151 rfl (lv_at hl 0 rfl) ?_
    refine lv_iconst (v := 0) hx hb dX2_layOut_152 (by decide) ?_
    refine lv_iconst (v := 0) hx hb dX2_layOut_153 (by decide) ?_
    refine lv_iconst (v := 0) hx hb dX2_layOut_154 (by decide) ?_
    refine lv_bipush (v := 8) hx hb dX2_layOut_155 (by decide) ?_
    refine lv_bipush (v := 8) hx hb dX2_layOut_157 (by decide) ?_
    refine lv_bipush (v := 8) hx hb dX2_layOut_159 (by decide) ?_
    refine lv_bipush (v := 8) hx hb dX2_layOut_161 (by decide) ?_
    refine lv_bipush (v := 8) hx hb dX2_layOut_163 (by decide) ?_
    have hPc := hP.sub (ws' := [(o, .inr (2, [.int th, .ref a1, .ref a2, .ref a3, .ref a4, .ref a5, .ref a6, .ref a7, .ref a8, .ref a9, .ref a10])), (a9, .inl (cI, 4, .inl f1)), (a10, .inl (cI, 4, .inl s1))]) [0, 1, 2] rfl
    have hDc := hD.sub (ws' := [(o, .inr (2, [.int th, .ref a1, .ref a2, .ref a3, .ref a4, .ref a5, .ref a6, .ref a7, .ref a8, .ref a9, .ref a10])), (a9, .inl (cI, 4, .inl f1)), (a10, .inl (cI, 4, .inl s1))]) [0, 1, 2] (by decide) rfl
    have hFc := va_free (wc := [(o, .inr (2, [.int th, .ref a1, .ref a2, .ref a3, .ref a4, .ref a5, .ref a6, .ref a7, .ref a8, .ref a9, .ref a10])), (a9, .inl (cI, 4, .inl f1)), (a10, .inl (cI, 4, .inl s1))]) hD hS hA [0, 1, 2] rfl
    refine va_callv (va_runV (As := [.int 0, .int 0, .int 0, .int 8, .int 8, .int 8, .int 8, .int 8]) (rest := []) ⟨hx, hb, hml, hown, hts⟩ (m_lay l dC dI o th a1 a2 a3 a4 a5 a6 a7 a8 a9 a10 cI f1 s1 0 0 0 8 8 8 8 8 s.heap.size) (cwV 8 hts (tg_V tw_418 tw_420 tw_p14 tw_3 tw_421) rfl rfl rfl (by decide +kernel) ⟨Nat.le_of_ble_eq_true rfl, Nat.le_of_ble_eq_true rfl⟩) ⟨wr_blind, va_recv hK hP (ci := 2) (q0 := 0) rfl rfl, fun U hU hW => ⟨rfl, wr_use hPc (hK.sub [0] rfl) hDc U hU hW⟩⟩ rfl rfl hl.1 rfl (lv_room (Nat.le_of_ble_eq_true rfl)) dX2_layOut_165 ⟨Nat.le_of_ble_eq_true rfl, Nat.le_of_ble_eq_true rfl⟩) hS (fun q _ h => hFc q h) hFc (fun u9 t9 H1 locs ht hvm hw hB hz1 hk1 hS => ?_)
    obtain ⟨hP1, hK1, hD1⟩ := hB
    rw [ht] at hP1
    obtain ⟨hP, hD⟩ := va_join (wr := []) (w1 := [(o, .inr (2, [.int th, .ref a1, .ref a2, .ref a3, .ref a4, .ref a5, .ref a6, .ref a7, .ref a8, .ref a9, .ref a10])), (a9, .inl (cI, 4, .inl (upd (upd (upd (upd f1 0 0) 1 0) 2 0) 3 8))), (a10, .inl (cI, 4, .inl (upd (upd (upd (upd s1 0 8) 1 8) 2 8) 3 8)))]) hP hD [0, 1, 2] [] rfl rfl (by decide) (by decide) hk1 hFc hP1 hD1
    have hP := hP.sub (ws' := [(o, .inr (2, [.int th, .ref a1, .ref a2, .ref a3, .ref a4, .ref a5, .ref a6, .ref a7, .ref a8, .ref a9, .ref a10])), (a9, .inl (cI, 4, .inl (upd (upd (upd (upd f1 0 0) 1 0) 2 0) 3 8))), (a10, .inl (cI, 4, .inl (upd (upd (upd (upd s1 0 8) 1 8) 2 8) 3 8)))]) [0, 1, 2] rfl
    have hD := hD.sub (ws' := [(o, .inr (2, [.int th, .ref a1, .ref a2, .ref a3, .ref a4, .ref a5, .ref a6, .ref a7, .ref a8, .ref a9, .ref a10])), (a9, .inl (cI, 4, .inl (upd (upd (upd (upd f1 0 0) 1 0) 2 0) 3 8))), (a10, .inl (cI, 4, .inl (upd (upd (upd (upd s1 0 8) 1 8) 2 8) 3 8)))]) [0, 1, 2] (by decide) rfl
    clear hPc hDc hFc hP1 hK1 hD1 hk1 hz1
    generalize H1 = H at hP hS ⊢
    refine lv_bipush (v := 16) hx hb dX2_layOut_168 (by decide) ?_
    have hP9 : va_P (dC, dI) vwCl [(o, .inr (2, [.int th, .ref a1, .ref a2, .ref a3, .ref a4, .ref a5, .ref a6, .ref a7, .ref a8, .ref a9, .ref a10])), (a9, .inl (cI, 4, .inl (upd (upd (upd (upd f1 0 (nI (md_cs (4 * 6 + 0)))) 1 (nI (md_cs (4 * 6 + 1)))) 2 (nI (md_cs (4 * 6 + 2)))) 3 (nI (md_cs (4 * 6 + 3)))))), (a10, .inl (cI, 4, .inl (upd (upd (upd (upd s1 0 (nI (md_cb (4 * 6 + 0)))) 1 (nI (md_cb (4 * 6 + 1)))) 2 (nI (md_cb (4 * 6 + 2)))) 3 (nI (md_cb (4 * 6 + 3))))))] H := hP.sub [0, 1, 2] rfl
    have hD9 : va_D A [(o, .inr (2, [.int th, .ref a1, .ref a2, .ref a3, .ref a4, .ref a5, .ref a6, .ref a7, .ref a8, .ref a9, .ref a10])), (a9, .inl (cI, 4, .inl (upd (upd (upd (upd f1 0 (nI (md_cs (4 * 6 + 0)))) 1 (nI (md_cs (4 * 6 + 1)))) 2 (nI (md_cs (4 * 6 + 2)))) 3 (nI (md_cs (4 * 6 + 3)))))), (a10, .inl (cI, 4, .inl (upd (upd (upd (upd s1 0 (nI (md_cb (4 * 6 + 0)))) 1 (nI (md_cb (4 * 6 + 1)))) 2 (nI (md_cb (4 * 6 + 2)))) 3 (nI (md_cb (4 * 6 + 3))))))] := hD.sub [0, 1, 2] (by decide) rfl
    have hK9 : va_K (dC, dI) vwCl [(cI, .int)] s := hK.sub [0] rfl
    exact W.iret (v := 16) hx hb hr (fun t ht hW => ⟨⟨16, (), rfl, rfl, by rw [ht]; exact hP9, va_K.moved hW.alike hK9, hD9⟩, hS.F ht⟩) hS.2.2 dX2_layOut_170
  · refine lv_tableOut (tgt := 171) hx hb dX2_layOut_1 (by decide) (by decide) ?_
    refine lv_aload_n hx hb dX2_layOut_171 rfl (lv_at hl 0 rfl) ?_
    refine lv_iconst (v := 0) hx hb dX2_layOut_172 (by decide) ?_
    refine lv_iconst (v := 0) hx hb dX2_layOut_173 (by decide) ?_
    refine lv_iconst (v := 0) hx hb dX2_layOut_174 (by decide) ?_
    refine lv_iconst (v := 0) hx hb dX2_layOut_175 (by decide) ?_
    refine lv_iconst (v := 4) hx hb dX2_layOut_176 (by decide) ?_
    refine lv_iconst (v := 4) hx hb dX2_layOut_177 (by decide) ?_
    refine lv_iconst (v := 4) hx hb dX2_layOut_178 (by decide) ?_
    refine lv_iconst (v := 0) hx hb dX2_layOut_179 (by decide) ?_
    have hPc := hP.sub (ws' := [(o, .inr (2, [.int th, .ref a1, .ref a2, .ref a3, .ref a4, .ref a5, .ref a6, .ref a7, .ref a8, .ref a9, .ref a10])), (a9, .inl (cI, 4, .inl f1)), (a10, .inl (cI, 4, .inl s1))]) [0, 1, 2] rfl
    have hDc := hD.sub (ws' := [(o, .inr (2, [.int th, .ref a1, .ref a2, .ref a3, .ref a4, .ref a5, .ref a6, .ref a7, .ref a8, .ref a9, .ref a10])), (a9, .inl (cI, 4, .inl f1)), (a10, .inl (cI, 4, .inl s1))]) [0, 1, 2] (by decide) rfl
    have hFc := va_free (wc := [(o, .inr (2, [.int th, .ref a1, .ref a2, .ref a3, .ref a4, .ref a5, .ref a6, .ref a7, .ref a8, .ref a9, .ref a10])), (a9, .inl (cI, 4, .inl f1)), (a10, .inl (cI, 4, .inl s1))]) hD hS hA [0, 1, 2] rfl
    refine va_callv (va_runV (As := [.int 0, .int 0, .int 0, .int 0, .int 4, .int 4, .int 4, .int 0]) (rest := []) ⟨hx, hb, hml, hown, hts⟩ (m_lay l dC dI o th a1 a2 a3 a4 a5 a6 a7 a8 a9 a10 cI f1 s1 0 0 0 0 4 4 4 0 s.heap.size) (cwV 8 hts (tg_V tw_418 tw_420 tw_p14 tw_3 tw_421) rfl rfl rfl (by decide +kernel) ⟨Nat.le_of_ble_eq_true rfl, Nat.le_of_ble_eq_true rfl⟩) ⟨wr_blind, va_recv hK hP (ci := 2) (q0 := 0) rfl rfl, fun U hU hW => ⟨rfl, wr_use hPc (hK.sub [0] rfl) hDc U hU hW⟩⟩ rfl rfl hl.1 rfl (lv_room (Nat.le_of_ble_eq_true rfl)) dX2_layOut_180 ⟨Nat.le_of_ble_eq_true rfl, Nat.le_of_ble_eq_true rfl⟩) hS (fun q _ h => hFc q h) hFc (fun u9 t9 H1 locs ht hvm hw hB hz1 hk1 hS => ?_)
    obtain ⟨hP1, hK1, hD1⟩ := hB
    rw [ht] at hP1
    obtain ⟨hP, hD⟩ := va_join (wr := []) (w1 := [(o, .inr (2, [.int th, .ref a1, .ref a2, .ref a3, .ref a4, .ref a5, .ref a6, .ref a7, .ref a8, .ref a9, .ref a10])), (a9, .inl (cI, 4, .inl (upd (upd (upd (upd f1 0 0) 1 0) 2 0) 3 0))), (a10, .inl (cI, 4, .inl (upd (upd (upd (upd s1 0 4) 1 4) 2 4) 3 0)))]) hP hD [0, 1, 2] [] rfl rfl (by decide) (by decide) hk1 hFc hP1 hD1
    have hP := hP.sub (ws' := [(o, .inr (2, [.int th, .ref a1, .ref a2, .ref a3, .ref a4, .ref a5, .ref a6, .ref a7, .ref a8, .ref a9, .ref a10])), (a9, .inl (cI, 4, .inl (upd (upd (upd (upd f1 0 0) 1 0) 2 0) 3 0))), (a10, .inl (cI, 4, .inl (upd (upd (upd (upd s1 0 4) 1 4) 2 4) 3 0)))]) [0, 1, 2] rfl
    have hD := hD.sub (ws' := [(o, .inr (2, [.int th, .ref a1, .ref a2, .ref a3, .ref a4, .ref a5, .ref a6, .ref a7, .ref a8, .ref a9, .ref a10])), (a9, .inl (cI, 4, .inl (upd (upd (upd (upd f1 0 0) 1 0) 2 0) 3 0))), (a10, .inl (cI, 4, .inl (upd (upd (upd (upd s1 0 4) 1 4) 2 4) 3 0)))]) [0, 1, 2] (by decide) rfl
    clear hPc hDc hFc hP1 hK1 hD1 hk1 hz1
    generalize H1 = H at hP hS ⊢
    refine lv_iconst (v := 4) hx hb dX2_layOut_183 (by decide) ?_
    have hP9 : va_P (dC, dI) vwCl [(o, .inr (2, [.int th, .ref a1, .ref a2, .ref a3, .ref a4, .ref a5, .ref a6, .ref a7, .ref a8, .ref a9, .ref a10])), (a9, .inl (cI, 4, .inl (upd (upd (upd (upd f1 0 (nI (md_cs (4 * 7 + 0)))) 1 (nI (md_cs (4 * 7 + 1)))) 2 (nI (md_cs (4 * 7 + 2)))) 3 (nI (md_cs (4 * 7 + 3)))))), (a10, .inl (cI, 4, .inl (upd (upd (upd (upd s1 0 (nI (md_cb (4 * 7 + 0)))) 1 (nI (md_cb (4 * 7 + 1)))) 2 (nI (md_cb (4 * 7 + 2)))) 3 (nI (md_cb (4 * 7 + 3))))))] H := hP.sub [0, 1, 2] rfl
    have hD9 : va_D A [(o, .inr (2, [.int th, .ref a1, .ref a2, .ref a3, .ref a4, .ref a5, .ref a6, .ref a7, .ref a8, .ref a9, .ref a10])), (a9, .inl (cI, 4, .inl (upd (upd (upd (upd f1 0 (nI (md_cs (4 * 7 + 0)))) 1 (nI (md_cs (4 * 7 + 1)))) 2 (nI (md_cs (4 * 7 + 2)))) 3 (nI (md_cs (4 * 7 + 3)))))), (a10, .inl (cI, 4, .inl (upd (upd (upd (upd s1 0 (nI (md_cb (4 * 7 + 0)))) 1 (nI (md_cb (4 * 7 + 1)))) 2 (nI (md_cb (4 * 7 + 2)))) 3 (nI (md_cb (4 * 7 + 3))))))] := hD.sub [0, 1, 2] (by decide) rfl
    have hK9 : va_K (dC, dI) vwCl [(cI, .int)] s := hK.sub [0] rfl
    exact W.iret (v := 4) hx hb hr (fun t ht hW => ⟨⟨4, (), rfl, rfl, by rw [ht]; exact hP9, va_K.moved hW.alike hK9, hD9⟩, hS.F ht⟩) hS.2.2 dX2_layOut_184
set_option maxHeartbeats 4000000 in
set_option maxRecDepth 100000 in
theorem m_look (l : Launch) (dC : Nat → ClassId) (dI : Nat → Nat → Nat) (o : Nat) (th : Int32) (a1 a2 a3 a4 a5 a6 a7 a8 a9 a10 : Nat) (cI : ClassId) (mem un fd f1 s1 : Nat → Int32) (j n x y a f ga gb : Nat) (sz : Nat) (hj : j < 4) (hn : n ≤ 11) (hf : f < 8) (ha : a < 2 ^ 31) (hga : ga ≤ 10) (hgb : gb ≤ 10) (hx9 : x < 1024) (hy9 : y < 1024) (ea : un (8 * j) = nI a) (e1 : un (8 * j + 1) = nI ga) (e2 : un (8 * j + 2) = nI gb) (ef : un (8 * j + 4) = nI f) : Met l yX2_look wsX2_look ({ frames := 3, cells := 0, slots := 0, locals := 70 }) (va_Pc [.ref o, .int (nI j), .int (nI n), .int (nI x), .int (nI y)] (wr_P (dC, dI) vwCl [(o, .inr (2, [.int th, .ref a1, .ref a2, .ref a3, .ref a4, .ref a5, .ref a6, .ref a7, .ref a8, .ref a9, .ref a10])), (a1, .inl (cI, 2048, .inl mem)), (a2, .inl (cI, 32, .inl un)), (a5, .inl (cI, 4, .inl fd)), (a9, .inl (cI, 4, .inl f1)), (a10, .inl (cI, 4, .inl s1))] [(cI, .int)] sz)) (va_Qv (fun _ : Unit => True) (fun (_ : Unit) t9 => ∃ (f2 s2 : Nat → Int32), wr_B (dC, dI) vwCl [(o, .inr (2, [.int th, .ref a1, .ref a2, .ref a3, .ref a4, .ref a5, .ref a6, .ref a7, .ref a8, .ref a9, .ref a10])), (a1, .inl (cI, 2048, .inl mem)), (a2, .inl (cI, 32, .inl un)), (a5, .inl (cI, 4, .inl (tu_put4 fd (md_ch mem a f (md_T ga gb n x y) 0) (md_ch mem a f (md_T ga gb n x y) 1) (md_ch mem a f (md_T ga gb n x y) 2) (md_ch mem a f (md_T ga gb n x y) 3)))), (a9, .inl (cI, 4, .inl f2)), (a10, .inl (cI, 4, .inl s2))] [(cI, .int)] (va_A [(o, .inr (2, [.int th, .ref a1, .ref a2, .ref a3, .ref a4, .ref a5, .ref a6, .ref a7, .ref a8, .ref a9, .ref a10])), (a1, .inl (cI, 2048, .inl mem)), (a2, .inl (cI, 32, .inl un)), (a5, .inl (cI, 4, .inl fd)), (a9, .inl (cI, 4, .inl f1)), (a10, .inl (cI, 4, .inl s1))] sz) () t9) (va_A [(o, .inr (2, [.int th, .ref a1, .ref a2, .ref a3, .ref a4, .ref a5, .ref a6, .ref a7, .ref a8, .ref a9, .ref a10])), (a1, .inl (cI, 2048, .inl mem)), (a2, .inl (cI, 32, .inl un)), (a5, .inl (cI, 4, .inl fd)), (a9, .inl (cI, 4, .inl f1)), (a10, .inl (cI, 4, .inl s1))] sz)) 0 0 (va_A [(o, .inr (2, [.int th, .ref a1, .ref a2, .ref a3, .ref a4, .ref a5, .ref a6, .ref a7, .ref a8, .ref a9, .ref a10])), (a1, .inl (cI, 2048, .inl mem)), (a2, .inl (cI, 32, .inl un)), (a5, .inl (cI, 4, .inl fd)), (a9, .inl (cI, 4, .inl f1)), (a10, .inl (cI, 4, .inl s1))] sz) := by
  refine Met.ofW (cc := cX2_look) (maxL := 11) (ret := none) (by decide) rfl ?_
  intro p e s m args below meth c s₁ B hml hv
  obtain ⟨rfl, hsz, hP, hK, hD0⟩ := hv
  have hx := B.exec
  have hb := B.bytes
  have hr := B.returns
  have hts := atoms_spec (ws := wsX2_look) B.pre
  have hown : s.vm.findClass "TextureUnitsModel" = some m.cls := findClass_of_methodNamed B.named
  have hlocks := B.notSynchronized
  subst hsz
  have hD := hD0.self (sz := s.heap.size)
  generalize hAe : va_A [(o, .inr (2, [.int th, .ref a1, .ref a2, .ref a3, .ref a4, .ref a5, .ref a6, .ref a7, .ref a8, .ref a9, .ref a10])), (a1, .inl (cI, 2048, .inl mem)), (a2, .inl (cI, 32, .inl un)), (a5, .inl (cI, 4, .inl fd)), (a9, .inl (cI, 4, .inl f1)), (a10, .inl (cI, 4, .inl s1))] s.heap.size = A at hD ⊢
  have hA : ∀ q : Nat, s.heap.size ≤ q → A q := fun q h => by rw [← hAe]; exact Or.inr h
  have hS : va_S A s.heap s.heap [] := va_S.rf
  have hP : va_P (dC, dI) vwCl [(o, .inr (2, [.int th, .ref a1, .ref a2, .ref a3, .ref a4, .ref a5, .ref a6, .ref a7, .ref a8, .ref a9, .ref a10])), (a1, .inl (cI, 2048, .inl mem)), (a2, .inl (cI, 32, .inl un)), (a5, .inl (cI, 4, .inl fd)), (a9, .inl (cI, 4, .inl f1)), (a10, .inl (cI, 4, .inl s1))] s.heap := hP
  have hl := lv_entry ([.ref o, .int (nI j), .int (nI n), .int (nI x), .int (nI y)]) (n := 11) (Nat.le_of_ble_eq_true rfl)
  rw [lg_entry_eq]
  generalize (lg_sl ([.ref o, .int (nI j), .int (nI n), .int (nI x), .int (nI y)]) ++ List.replicate (11 - (lg_sl ([.ref o, .int (nI j), .int (nI n), .int (nI x), .int (nI y)])).length) Slot.unset).toArray = ls at hl ⊢
  have hl : lv_has ls 11 [(0, .ref o), (1, .int (nI j)), (2, .int (nI n)), (3, .int (nI x)), (4, .int (nI y))] := hl
  have hT := md_T_lt hga hgb hn hx9 hy9
  refine lv_aload_n hx hb dX2_look_0 rfl (lv_at hl 0 rfl) ?_
  refine lv_aload_n hx hb dX2_look_1 rfl (lv_at hl 0 rfl) ?_
  refine va_get (D := (dC, dI)) (ci := 2) (v := .ref a2) (C := "TextureUnitsModel") (T := TX2) (N := 11) hx hb hts (tw_s inX2) hown hK hP 0 rfl rfl 2 (by decide) (hts _ (tw_c tw_335)) (fun _ h9 => h9) rfl dX2_look_2 ?_
  refine lv_bipush (v := 8) hx hb dX2_look_5 (by decide) ?_
  refine lv_iload_n hx hb dX2_look_7 rfl (lv_at hl 1 rfl) ?_
  refine lv_imul hx hb dX2_look_8 ?_
  refine lv_topi (fun x_1 ex_1 => ?_)
  have ex_1 : x_1 = nI (8 * j) := ex_1.trans (pk_mul 8 j)
  subst ex_1
  refine lv_iconst (v := 4) hx hb dX2_look_9 (by decide) ?_
  refine lv_iadd hx hb dX2_look_10 ?_
  refine lv_topi (fun x_2 ex_2 => ?_)
  have ex_2 : x_2 = nI ((8 * j) + 4) := ex_2.trans (nI_add (8 * j) 4)
  subst ex_2
  refine va_iald hx hb hK hP 2 0 rfl rfl (vp_in_nI (by omega) (by decide)) dX2_look_11 ?_
  refine lv_topi (fun x_3 ex_3 => ?_)
  have ex_3 : x_3 = (un ((8 * j) + 4)) := ex_3.trans (congrArg un (nI_clamp (by omega)))
  subst ex_3
  refine lv_topi (fun y_4 ey_4 => ?_)
  have ey_4 : y_4 = (nI f) := ey_4.trans ef
  subst ey_4
  have hPc := hP.sub (ws' := [(o, .inr (2, [.int th, .ref a1, .ref a2, .ref a3, .ref a4, .ref a5, .ref a6, .ref a7, .ref a8, .ref a9, .ref a10])), (a9, .inl (cI, 4, .inl f1)), (a10, .inl (cI, 4, .inl s1))]) [0, 4, 5] rfl
  have hDc := hD.sub (ws' := [(o, .inr (2, [.int th, .ref a1, .ref a2, .ref a3, .ref a4, .ref a5, .ref a6, .ref a7, .ref a8, .ref a9, .ref a10])), (a9, .inl (cI, 4, .inl f1)), (a10, .inl (cI, 4, .inl s1))]) [0, 4, 5] (by decide) rfl
  have hFc := va_free (wc := [(o, .inr (2, [.int th, .ref a1, .ref a2, .ref a3, .ref a4, .ref a5, .ref a6, .ref a7, .ref a8, .ref a9, .ref a10])), (a9, .inl (cI, 4, .inl f1)), (a10, .inl (cI, 4, .inl s1))]) hD hS hA [0, 4, 5] rfl
  refine va_calli (va_runV (As := [.int (nI f)]) (rest := []) ⟨hx, hb, hml, hown, hts⟩ (m_layOut l dC dI o th a1 a2 a3 a4 a5 a6 a7 a8 a9 a10 cI f1 s1 f s.heap.size hf) (cwV 1 hts (tg_V tw_414 tw_416 tw_p13 tw_3 tw_417) rfl rfl rfl (by decide +kernel) ⟨Nat.le_of_ble_eq_true rfl, Nat.le_of_ble_eq_true rfl⟩) ⟨wr_blind, va_recv hK hP (ci := 2) (q0 := 0) rfl rfl, fun U hU hW => ⟨rfl, wr_use hPc (hK.sub [0] rfl) hDc U hU hW⟩⟩ rfl rfl hl.1 rfl (lv_room (Nat.le_of_ble_eq_true rfl)) dX2_look_12 ⟨Nat.le_of_ble_eq_true rfl, Nat.le_of_ble_eq_true rfl⟩) hS (fun q _ h => hFc q h) hFc (fun r9 u9 t9 H1 locs ht hvm hw hB hz1 hk1 hS => ?_)
  obtain ⟨hP1, hK1, hD1⟩ := hB
  rw [ht] at hP1
  subst hw
  obtain ⟨hP, hD⟩ := va_join (wr := [(a1, .inl (cI, 2048, .inl mem)), (a2, .inl (cI, 32, .inl un)), (a5, .inl (cI, 4, .inl fd))]) (w1 := [(o, .inr (2, [.int th, .ref a1, .ref a2, .ref a3, .ref a4, .ref a5, .ref a6, .ref a7, .ref a8, .ref a9, .ref a10])), (a9, .inl (cI, 4, .inl (upd (upd (upd (upd f1 0 (nI (md_cs (4 * f + 0)))) 1 (nI (md_cs (4 * f + 1)))) 2 (nI (md_cs (4 * f + 2)))) 3 (nI (md_cs (4 * f + 3)))))), (a10, .inl (cI, 4, .inl (upd (upd (upd (upd s1 0 (nI (md_cb (4 * f + 0)))) 1 (nI (md_cb (4 * f + 1)))) 2 (nI (md_cb (4 * f + 2)))) 3 (nI (md_cb (4 * f + 3))))))]) hP hD [0, 4, 5] [1, 2, 3] rfl rfl (by decide) (by decide) hk1 hFc hP1 hD1
  have hP := hP.sub (ws' := [(o, .inr (2, [.int th, .ref a1, .ref a2, .ref a3, .ref a4, .ref a5, .ref a6, .ref a7, .ref a8, .ref a9, .ref a10])), (a1, .inl (cI, 2048, .inl mem)), (a2, .inl (cI, 32, .inl un)), (a5, .inl (cI, 4, .inl fd)), (a9, .inl (cI, 4, .inl (upd (upd (upd (upd f1 0 (nI (md_cs (4 * f + 0)))) 1 (nI (md_cs (4 * f + 1)))) 2 (nI (md_cs (4 * f + 2)))) 3 (nI (md_cs (4 * f + 3)))))), (a10, .inl (cI, 4, .inl (upd (upd (upd (upd s1 0 (nI (md_cb (4 * f + 0)))) 1 (nI (md_cb (4 * f + 1)))) 2 (nI (md_cb (4 * f + 2)))) 3 (nI (md_cb (4 * f + 3))))))]) [3, 0, 1, 2, 4, 5] rfl
  have hD := hD.sub (ws' := [(o, .inr (2, [.int th, .ref a1, .ref a2, .ref a3, .ref a4, .ref a5, .ref a6, .ref a7, .ref a8, .ref a9, .ref a10])), (a1, .inl (cI, 2048, .inl mem)), (a2, .inl (cI, 32, .inl un)), (a5, .inl (cI, 4, .inl fd)), (a9, .inl (cI, 4, .inl (upd (upd (upd (upd f1 0 (nI (md_cs (4 * f + 0)))) 1 (nI (md_cs (4 * f + 1)))) 2 (nI (md_cs (4 * f + 2)))) 3 (nI (md_cs (4 * f + 3)))))), (a10, .inl (cI, 4, .inl (upd (upd (upd (upd s1 0 (nI (md_cb (4 * f + 0)))) 1 (nI (md_cb (4 * f + 1)))) 2 (nI (md_cb (4 * f + 2)))) 3 (nI (md_cb (4 * f + 3))))))]) [3, 0, 1, 2, 4, 5] (by decide) rfl
  clear hPc hDc hFc hP1 hK1 hD1 hk1 hz1
  generalize H1 = H at hP hS ⊢
  refine lv_istore (lv' := [(5, .int (nI (md_tb f))), (0, .ref o), (1, .int (nI j)), (2, .int (nI n)), (3, .int (nI x)), (4, .int (nI y))]) hx hb dX2_look_15 hl (by decide) rfl (fun ls hl => ?_)
  refine lv_aload_n hx hb dX2_look_17 rfl (lv_at hl 1 rfl) ?_
  refine lv_iload_n hx hb dX2_look_18 rfl (lv_at hl 2 rfl) ?_
  refine lv_iload_n hx hb dX2_look_19 rfl (lv_at hl 3 rfl) ?_
  refine rd_call (W.runV (As := [.int (nI j), .int (nI n)]) (rest := []) ⟨hx, hb, hml, hown, hts⟩ (m_ahead l dC dI o th a1 a2 a3 a4 a5 a6 a7 a8 a9 a10 cI un j n hj hn) (cwV 2 hts (tg_V tw_422 tw_424 tw_p15 tw_3 tw_425) rfl rfl rfl (by decide +kernel) ⟨Nat.le_of_ble_eq_true rfl, Nat.le_of_ble_eq_true rfl⟩) ⟨rd_blind, va_recv hK hP (ci := 2) (q0 := 0) rfl rfl, fun U hU hW => ⟨rfl, rd_use (hP.sub [0, 2] rfl) (hK.sub [0] rfl) U hU hW⟩⟩ rfl rfl hl.1 rfl (lv_room (Nat.le_of_ble_eq_true rfl)) dX2_look_20 ⟨Nat.le_of_ble_eq_true rfl, Nat.le_of_ble_eq_true rfl⟩) ?_
  refine lv_iload hx hb dX2_look_23 (lv_at hl 5 rfl) ?_
  refine lv_aload_n hx hb dX2_look_25 rfl (lv_at hl 1 rfl) ?_
  refine lv_iload_n hx hb dX2_look_26 rfl (lv_at hl 2 rfl) ?_
  refine lv_iload_n hx hb dX2_look_27 rfl (lv_at hl 3 rfl) ?_
  refine rd_call (W.runV (As := [.int (nI j), .int (nI n)]) (rest := [.int (nI y), .int (md_ah (un (8 * j + 1)) (un (8 * j + 2)) n)]) ⟨hx, hb, hml, hown, hts⟩ (m_wide l dC dI o th a1 a2 a3 a4 a5 a6 a7 a8 a9 a10 cI un j (nI n) hj) (cwV 2 hts (tg_V tw_398 tw_400 tw_p9 tw_3 tw_401) rfl rfl rfl (by decide +kernel) ⟨Nat.le_of_ble_eq_true rfl, Nat.le_of_ble_eq_true rfl⟩) ⟨rd_blind, va_recv hK hP (ci := 2) (q0 := 0) rfl rfl, fun U hU hW => ⟨rfl, rd_use (hP.sub [0, 2] rfl) (hK.sub [0] rfl) U hU hW⟩⟩ rfl rfl hl.1 rfl (lv_room (Nat.le_of_ble_eq_true rfl)) dX2_look_28 ⟨Nat.le_of_ble_eq_true rfl, Nat.le_of_ble_eq_true rfl⟩) ?_
  refine lv_imul hx hb dX2_look_31 ?_
  refine lv_iadd hx hb dX2_look_32 ?_
  refine lv_iload_n hx hb dX2_look_33 rfl (lv_at hl 4 rfl) ?_
  refine lv_iadd hx hb dX2_look_34 ?_
  refine lv_topi (fun y_5 ey_5 => ?_)
  have ey_5 : y_5 = (nI (md_T ga gb n x y)) := ey_5.trans (md_Te e1 e2 hga hgb hn)
  subst ey_5
  refine lv_i2l hx hb dX2_look_35 rfl ?_
  refine lv_iload hx hb dX2_look_36 (lv_at hl 0 rfl) ?_
  refine lv_i2l hx hb dX2_look_38 rfl ?_
  refine lv_lmul hx hb dX2_look_39 ?_
  refine lv_topl (fun y_6 ey_6 => ?_)
  have ey_6 : y_6 = (lN ((md_T ga gb n x y) * md_tb f)) := ey_6.trans (md_at hT)
  subst ey_6
  refine lv_lstore (lv' := [(6, .long (lN ((md_T ga gb n x y) * md_tb f))), (5, .int (nI (md_tb f))), (0, .ref o), (1, .int (nI j)), (2, .int (nI n)), (3, .int (nI x)), (4, .int (nI y))]) hx hb dX2_look_40 hl (by decide) rfl (fun ls hl => ?_)
  refine lv_iconst (v := 0) hx hb dX2_look_42 (by decide) ?_
  refine lv_istore (lv' := [(8, .int 0), (6, .long (lN ((md_T ga gb n x y) * md_tb f))), (5, .int (nI (md_tb f))), (0, .ref o), (1, .int (nI j)), (2, .int (nI n)), (3, .int (nI x)), (4, .int (nI y))]) hx hb dX2_look_43 hl (by decide) rfl (fun ls hl => ?_)
  refine lv_iload hx hb dX2_look_45 (lv_at hl 0 rfl) ?_
  refine lv_iconst (v := 4) hx hb dX2_look_47 (by decide) ?_
  refine lv_icmp_ge (tgt := 170) hx hb dX2_look_48 (by decide) (fun c_7 => absurd c_7 (by decide)) (fun c_7 => ?_)
  refine lv_iconst (v := 0) hx hb dX2_look_51 (by decide) ?_
  refine lv_istore (lv' := [(9, .int 0), (8, .int 0), (6, .long (lN ((md_T ga gb n x y) * md_tb f))), (5, .int (nI (md_tb f))), (0, .ref o), (1, .int (nI j)), (2, .int (nI n)), (3, .int (nI x)), (4, .int (nI y))]) hx hb dX2_look_52 hl (by decide) rfl (fun ls hl => ?_)
  refine lv_aload_n hx hb dX2_look_54 rfl (lv_at hl 4 rfl) ?_
  refine va_get (D := (dC, dI)) (ci := 2) (v := .ref a10) (C := "TextureUnitsModel") (T := TX2) (N := 11) hx hb hts (tw_s inX2) hown hK hP 0 rfl rfl 10 (by decide) (hts _ (tw_c tw_343)) (fun _ h9 => h9) rfl dX2_look_55 ?_
  refine lv_iload hx hb dX2_look_58 (lv_at hl 1 rfl) ?_
  refine va_iald hx hb hK hP 5 0 rfl rfl (tu_in (by decide)) dX2_look_60 ?_
  refine lv_topi (fun x_8 ex_8 => ?_)
  have ex_8 : x_8 = (nI (md_cb (4 * f + 0))) := ((((ex_8).trans (pk_un (by decide))).trans (pk_un (by decide))).trans (pk_un (by decide))).trans pk_us
  subst ex_8
  refine lv_iconst (v := 1) hx hb dX2_look_61 (by decide) ?_
  refine lv_isub hx hb dX2_look_62 ?_
  refine lv_istore (lv' := [(10, .int ((nI (md_cb (4 * f + 0))) - (1 : Int32))), (9, .int 0), (8, .int 0), (6, .long (lN ((md_T ga gb n x y) * md_tb f))), (5, .int (nI (md_tb f))), (0, .ref o), (1, .int (nI j)), (2, .int (nI n)), (3, .int (nI x)), (4, .int (nI y))]) hx hb dX2_look_63 hl (by decide) rfl (fun ls hl => ?_)
  refine tu_loop1 (W9 := fun ls => W p l e _ s m _ below meth c _ _ 0 0 _ (F0 m 65 ls [])) (I := fun k ls => lv_has ls 11 [(0, .ref o), (1, .int (nI j)), (2, .int (nI n)), (3, .int (nI x)), (4, .int (nI y)), (5, .int (nI (md_tb f))), (6, .long (lN ((md_T ga gb n x y) * md_tb f))), (8, .int 0), (9, .int (md_v mem a ((md_T ga gb n x y) * md_tb f + md_cs (4 * f + 0)) (md_cb (4 * f + 0)) k)), (10, .int (nI (md_cb (4 * f + 0) - k) - 1))]) (md_cb (4 * f + 0)) ?_ ?_ ls (lv_sub hl [5, 6, 7, 8, 9, 4, 3, 2, 1, 0] rfl)
  · intro ls hl
    refine lv_iload hx hb dX2_look_65 (lv_at hl 9 rfl) ?_
    refine lv_if_lt (tgt := 111) hx hb dX2_look_67 (by decide) (fun c_9 => ?_) (fun c_9 => absurd md_kneg c_9)
    refine lv_iconst (v := 1) hx hb dX2_look_111 (by decide) ?_
    refine lv_aload_n hx hb dX2_look_112 rfl (lv_at hl 0 rfl) ?_
    refine va_get (D := (dC, dI)) (ci := 2) (v := .ref a10) (C := "TextureUnitsModel") (T := TX2) (N := 11) hx hb hts (tw_s inX2) hown hK hP 0 rfl rfl 10 (by decide) (hts _ (tw_c tw_343)) (fun _ h9 => h9) rfl dX2_look_113 ?_
    refine lv_iload hx hb dX2_look_116 (lv_at hl 7 rfl) ?_
    refine va_iald hx hb hK hP 5 0 rfl rfl (tu_in (by decide)) dX2_look_118 ?_
    refine lv_topi (fun x_10 ex_10 => ?_)
    have ex_10 : x_10 = (nI (md_cb (4 * f + 0))) := ((((ex_10).trans (pk_un (by decide))).trans (pk_un (by decide))).trans (pk_un (by decide))).trans pk_us
    subst ex_10
    refine lv_ishl hx hb dX2_look_119 ?_
    refine lv_iconst (v := 1) hx hb dX2_look_120 (by decide) ?_
    refine lv_isub hx hb dX2_look_121 ?_
    refine lv_istore (lv' := [(10, .int (((1 : Int32) <<< ((nI (md_cb (4 * f + 0))) &&& 31)) - (1 : Int32))), (0, .ref o), (1, .int (nI j)), (2, .int (nI n)), (3, .int (nI x)), (4, .int (nI y)), (5, .int (nI (md_tb f))), (6, .long (lN ((md_T ga gb n x y) * md_tb f))), (8, .int 0), (9, .int (md_v mem a ((md_T ga gb n x y) * md_tb f + md_cs (4 * f + 0)) (md_cb (4 * f + 0)) (md_cb (4 * f + 0))))]) hx hb dX2_look_122 hl (by decide) rfl (fun ls hl => ?_)
    refine lv_aload_n hx hb dX2_look_124 rfl (lv_at hl 1 rfl) ?_
    refine va_get (D := (dC, dI)) (ci := 2) (v := .ref a5) (C := "TextureUnitsModel") (T := TX2) (N := 11) hx hb hts (tw_s inX2) hown hK hP 0 rfl rfl 5 (by decide) (hts _ (tw_c tw_338)) (fun _ h9 => h9) rfl dX2_look_125 ?_
    refine lv_iload hx hb dX2_look_128 (lv_at hl 8 rfl) ?_
    refine lv_iload hx hb dX2_look_130 (lv_at hl 0 rfl) ?_
    refine tu_join (fun v => F0 m 163 ls [.int v, .int 0, .ref a5]) (md_ch mem a f (md_T ga gb n x y) 0) ?_ (fun key => ?_)
    · refine va_iast hx hb hK hP hD hS 3 0 rfl rfl (tu_in (by decide)) dX2_look_163 (fun H locs hP hD hS => ?_)
      have hP : va_P (dC, dI) vwCl [(o, .inr (2, [.int th, .ref a1, .ref a2, .ref a3, .ref a4, .ref a5, .ref a6, .ref a7, .ref a8, .ref a9, .ref a10])), (a1, .inl (cI, 2048, .inl mem)), (a2, .inl (cI, 32, .inl un)), (a5, .inl (cI, 4, .inl (upd fd 0 (md_ch mem a f (md_T ga gb n x y) 0)))), (a9, .inl (cI, 4, .inl (upd (upd (upd (upd f1 0 (nI (md_cs (4 * f + 0)))) 1 (nI (md_cs (4 * f + 1)))) 2 (nI (md_cs (4 * f + 2)))) 3 (nI (md_cs (4 * f + 3)))))), (a10, .inl (cI, 4, .inl (upd (upd (upd (upd s1 0 (nI (md_cb (4 * f + 0)))) 1 (nI (md_cb (4 * f + 1)))) 2 (nI (md_cb (4 * f + 2)))) 3 (nI (md_cb (4 * f + 3))))))] H := hP
      have hD : va_D A [(o, .inr (2, [.int th, .ref a1, .ref a2, .ref a3, .ref a4, .ref a5, .ref a6, .ref a7, .ref a8, .ref a9, .ref a10])), (a1, .inl (cI, 2048, .inl mem)), (a2, .inl (cI, 32, .inl un)), (a5, .inl (cI, 4, .inl (upd fd 0 (md_ch mem a f (md_T ga gb n x y) 0)))), (a9, .inl (cI, 4, .inl (upd (upd (upd (upd f1 0 (nI (md_cs (4 * f + 0)))) 1 (nI (md_cs (4 * f + 1)))) 2 (nI (md_cs (4 * f + 2)))) 3 (nI (md_cs (4 * f + 3)))))), (a10, .inl (cI, 4, .inl (upd (upd (upd (upd s1 0 (nI (md_cb (4 * f + 0)))) 1 (nI (md_cb (4 * f + 1)))) 2 (nI (md_cb (4 * f + 2)))) 3 (nI (md_cb (4 * f + 3))))))] := hD
      refine lv_iinc (v := 1) (lv' := [(8, .int 1), (10, .int (((1 : Int32) <<< ((nI (md_cb (4 * f + 0))) &&& 31)) - (1 : Int32))), (0, .ref o), (1, .int (nI j)), (2, .int (nI n)), (3, .int (nI x)), (4, .int (nI y)), (5, .int (nI (md_tb f))), (6, .long (lN ((md_T ga gb n x y) * md_tb f))), (9, .int (md_v mem a ((md_T ga gb n x y) * md_tb f + md_cs (4 * f + 0)) (md_cb (4 * f + 0)) (md_cb (4 * f + 0))))]) hx hb dX2_look_164 hl (k := 8) rfl (by decide) (by decide) rfl (fun ls hl => ?_)
      refine lv_goto (tgt := 45) hx hb dX2_look_167 (by decide) ?_
      refine lv_iload hx hb dX2_look_45 (lv_at hl 0 rfl) ?_
      refine lv_iconst (v := 4) hx hb dX2_look_47 (by decide) ?_
      refine lv_icmp_ge (tgt := 170) hx hb dX2_look_48 (by decide) (fun c_11 => absurd c_11 (by decide)) (fun c_11 => ?_)
      refine lv_iconst (v := 0) hx hb dX2_look_51 (by decide) ?_
      refine lv_istore (lv' := [(9, .int 0), (8, .int 1), (10, .int (((1 : Int32) <<< ((nI (md_cb (4 * f + 0))) &&& 31)) - (1 : Int32))), (0, .ref o), (1, .int (nI j)), (2, .int (nI n)), (3, .int (nI x)), (4, .int (nI y)), (5, .int (nI (md_tb f))), (6, .long (lN ((md_T ga gb n x y) * md_tb f)))]) hx hb dX2_look_52 hl (by decide) rfl (fun ls hl => ?_)
      refine lv_aload_n hx hb dX2_look_54 rfl (lv_at hl 3 rfl) ?_
      refine va_get (D := (dC, dI)) (ci := 2) (v := .ref a10) (C := "TextureUnitsModel") (T := TX2) (N := 11) hx hb hts (tw_s inX2) hown hK hP 0 rfl rfl 10 (by decide) (hts _ (tw_c tw_343)) (fun _ h9 => h9) rfl dX2_look_55 ?_
      refine lv_iload hx hb dX2_look_58 (lv_at hl 1 rfl) ?_
      refine va_iald hx hb hK hP 5 0 rfl rfl (tu_in (by decide)) dX2_look_60 ?_
      refine lv_topi (fun x_12 ex_12 => ?_)
      have ex_12 : x_12 = (nI (md_cb (4 * f + 1))) := (((ex_12).trans (pk_un (by decide))).trans (pk_un (by decide))).trans pk_us
      subst ex_12
      refine lv_iconst (v := 1) hx hb dX2_look_61 (by decide) ?_
      refine lv_isub hx hb dX2_look_62 ?_
      refine lv_istore (lv' := [(10, .int ((nI (md_cb (4 * f + 1))) - (1 : Int32))), (9, .int 0), (8, .int 1), (0, .ref o), (1, .int (nI j)), (2, .int (nI n)), (3, .int (nI x)), (4, .int (nI y)), (5, .int (nI (md_tb f))), (6, .long (lN ((md_T ga gb n x y) * md_tb f)))]) hx hb dX2_look_63 hl (by decide) rfl (fun ls hl => ?_)
      refine tu_loop1 (W9 := fun ls => W p l e _ s m _ below meth c _ _ 0 0 _ (F0 m 65 ls [])) (I := fun k ls => lv_has ls 11 [(0, .ref o), (1, .int (nI j)), (2, .int (nI n)), (3, .int (nI x)), (4, .int (nI y)), (5, .int (nI (md_tb f))), (6, .long (lN ((md_T ga gb n x y) * md_tb f))), (8, .int 1), (9, .int (md_v mem a ((md_T ga gb n x y) * md_tb f + md_cs (4 * f + 1)) (md_cb (4 * f + 1)) k)), (10, .int (nI (md_cb (4 * f + 1) - k) - 1))]) (md_cb (4 * f + 1)) ?_ ?_ ls (lv_sub hl [3, 4, 5, 6, 7, 8, 9, 2, 1, 0] rfl)
      · intro ls hl
        refine lv_iload hx hb dX2_look_65 (lv_at hl 9 rfl) ?_
        refine lv_if_lt (tgt := 111) hx hb dX2_look_67 (by decide) (fun c_13 => ?_) (fun c_13 => absurd md_kneg c_13)
        refine lv_iconst (v := 1) hx hb dX2_look_111 (by decide) ?_
        refine lv_aload_n hx hb dX2_look_112 rfl (lv_at hl 0 rfl) ?_
        refine va_get (D := (dC, dI)) (ci := 2) (v := .ref a10) (C := "TextureUnitsModel") (T := TX2) (N := 11) hx hb hts (tw_s inX2) hown hK hP 0 rfl rfl 10 (by decide) (hts _ (tw_c tw_343)) (fun _ h9 => h9) rfl dX2_look_113 ?_
        refine lv_iload hx hb dX2_look_116 (lv_at hl 7 rfl) ?_
        refine va_iald hx hb hK hP 5 0 rfl rfl (tu_in (by decide)) dX2_look_118 ?_
        refine lv_topi (fun x_14 ex_14 => ?_)
        have ex_14 : x_14 = (nI (md_cb (4 * f + 1))) := (((ex_14).trans (pk_un (by decide))).trans (pk_un (by decide))).trans pk_us
        subst ex_14
        refine lv_ishl hx hb dX2_look_119 ?_
        refine lv_iconst (v := 1) hx hb dX2_look_120 (by decide) ?_
        refine lv_isub hx hb dX2_look_121 ?_
        refine lv_istore (lv' := [(10, .int (((1 : Int32) <<< ((nI (md_cb (4 * f + 1))) &&& 31)) - (1 : Int32))), (0, .ref o), (1, .int (nI j)), (2, .int (nI n)), (3, .int (nI x)), (4, .int (nI y)), (5, .int (nI (md_tb f))), (6, .long (lN ((md_T ga gb n x y) * md_tb f))), (8, .int 1), (9, .int (md_v mem a ((md_T ga gb n x y) * md_tb f + md_cs (4 * f + 1)) (md_cb (4 * f + 1)) (md_cb (4 * f + 1))))]) hx hb dX2_look_122 hl (by decide) rfl (fun ls hl => ?_)
        refine lv_aload_n hx hb dX2_look_124 rfl (lv_at hl 1 rfl) ?_
        refine va_get (D := (dC, dI)) (ci := 2) (v := .ref a5) (C := "TextureUnitsModel") (T := TX2) (N := 11) hx hb hts (tw_s inX2) hown hK hP 0 rfl rfl 5 (by decide) (hts _ (tw_c tw_338)) (fun _ h9 => h9) rfl dX2_look_125 ?_
        refine lv_iload hx hb dX2_look_128 (lv_at hl 8 rfl) ?_
        refine lv_iload hx hb dX2_look_130 (lv_at hl 0 rfl) ?_
        refine tu_join (fun v => F0 m 163 ls [.int v, .int 1, .ref a5]) (md_ch mem a f (md_T ga gb n x y) 1) ?_ (fun key => ?_)
        · refine va_iast hx hb hK hP hD hS 3 0 rfl rfl (tu_in (by decide)) dX2_look_163 (fun H locs hP hD hS => ?_)
          have hP : va_P (dC, dI) vwCl [(o, .inr (2, [.int th, .ref a1, .ref a2, .ref a3, .ref a4, .ref a5, .ref a6, .ref a7, .ref a8, .ref a9, .ref a10])), (a1, .inl (cI, 2048, .inl mem)), (a2, .inl (cI, 32, .inl un)), (a5, .inl (cI, 4, .inl (upd (upd fd 0 (md_ch mem a f (md_T ga gb n x y) 0)) 1 (md_ch mem a f (md_T ga gb n x y) 1)))), (a9, .inl (cI, 4, .inl (upd (upd (upd (upd f1 0 (nI (md_cs (4 * f + 0)))) 1 (nI (md_cs (4 * f + 1)))) 2 (nI (md_cs (4 * f + 2)))) 3 (nI (md_cs (4 * f + 3)))))), (a10, .inl (cI, 4, .inl (upd (upd (upd (upd s1 0 (nI (md_cb (4 * f + 0)))) 1 (nI (md_cb (4 * f + 1)))) 2 (nI (md_cb (4 * f + 2)))) 3 (nI (md_cb (4 * f + 3))))))] H := hP
          have hD : va_D A [(o, .inr (2, [.int th, .ref a1, .ref a2, .ref a3, .ref a4, .ref a5, .ref a6, .ref a7, .ref a8, .ref a9, .ref a10])), (a1, .inl (cI, 2048, .inl mem)), (a2, .inl (cI, 32, .inl un)), (a5, .inl (cI, 4, .inl (upd (upd fd 0 (md_ch mem a f (md_T ga gb n x y) 0)) 1 (md_ch mem a f (md_T ga gb n x y) 1)))), (a9, .inl (cI, 4, .inl (upd (upd (upd (upd f1 0 (nI (md_cs (4 * f + 0)))) 1 (nI (md_cs (4 * f + 1)))) 2 (nI (md_cs (4 * f + 2)))) 3 (nI (md_cs (4 * f + 3)))))), (a10, .inl (cI, 4, .inl (upd (upd (upd (upd s1 0 (nI (md_cb (4 * f + 0)))) 1 (nI (md_cb (4 * f + 1)))) 2 (nI (md_cb (4 * f + 2)))) 3 (nI (md_cb (4 * f + 3))))))] := hD
          refine lv_iinc (v := 2) (lv' := [(8, .int 2), (10, .int (((1 : Int32) <<< ((nI (md_cb (4 * f + 1))) &&& 31)) - (1 : Int32))), (0, .ref o), (1, .int (nI j)), (2, .int (nI n)), (3, .int (nI x)), (4, .int (nI y)), (5, .int (nI (md_tb f))), (6, .long (lN ((md_T ga gb n x y) * md_tb f))), (9, .int (md_v mem a ((md_T ga gb n x y) * md_tb f + md_cs (4 * f + 1)) (md_cb (4 * f + 1)) (md_cb (4 * f + 1))))]) hx hb dX2_look_164 hl (k := 8) rfl (by decide) (by decide) rfl (fun ls hl => ?_)
          refine lv_goto (tgt := 45) hx hb dX2_look_167 (by decide) ?_
          refine lv_iload hx hb dX2_look_45 (lv_at hl 0 rfl) ?_
          refine lv_iconst (v := 4) hx hb dX2_look_47 (by decide) ?_
          refine lv_icmp_ge (tgt := 170) hx hb dX2_look_48 (by decide) (fun c_15 => absurd c_15 (by decide)) (fun c_15 => ?_)
          refine lv_iconst (v := 0) hx hb dX2_look_51 (by decide) ?_
          refine lv_istore (lv' := [(9, .int 0), (8, .int 2), (10, .int (((1 : Int32) <<< ((nI (md_cb (4 * f + 1))) &&& 31)) - (1 : Int32))), (0, .ref o), (1, .int (nI j)), (2, .int (nI n)), (3, .int (nI x)), (4, .int (nI y)), (5, .int (nI (md_tb f))), (6, .long (lN ((md_T ga gb n x y) * md_tb f)))]) hx hb dX2_look_52 hl (by decide) rfl (fun ls hl => ?_)
          refine lv_aload_n hx hb dX2_look_54 rfl (lv_at hl 3 rfl) ?_
          refine va_get (D := (dC, dI)) (ci := 2) (v := .ref a10) (C := "TextureUnitsModel") (T := TX2) (N := 11) hx hb hts (tw_s inX2) hown hK hP 0 rfl rfl 10 (by decide) (hts _ (tw_c tw_343)) (fun _ h9 => h9) rfl dX2_look_55 ?_
          refine lv_iload hx hb dX2_look_58 (lv_at hl 1 rfl) ?_
          refine va_iald hx hb hK hP 5 0 rfl rfl (tu_in (by decide)) dX2_look_60 ?_
          refine lv_topi (fun x_16 ex_16 => ?_)
          have ex_16 : x_16 = (nI (md_cb (4 * f + 2))) := ((ex_16).trans (pk_un (by decide))).trans pk_us
          subst ex_16
          refine lv_iconst (v := 1) hx hb dX2_look_61 (by decide) ?_
          refine lv_isub hx hb dX2_look_62 ?_
          refine lv_istore (lv' := [(10, .int ((nI (md_cb (4 * f + 2))) - (1 : Int32))), (9, .int 0), (8, .int 2), (0, .ref o), (1, .int (nI j)), (2, .int (nI n)), (3, .int (nI x)), (4, .int (nI y)), (5, .int (nI (md_tb f))), (6, .long (lN ((md_T ga gb n x y) * md_tb f)))]) hx hb dX2_look_63 hl (by decide) rfl (fun ls hl => ?_)
          refine tu_loop1 (W9 := fun ls => W p l e _ s m _ below meth c _ _ 0 0 _ (F0 m 65 ls [])) (I := fun k ls => lv_has ls 11 [(0, .ref o), (1, .int (nI j)), (2, .int (nI n)), (3, .int (nI x)), (4, .int (nI y)), (5, .int (nI (md_tb f))), (6, .long (lN ((md_T ga gb n x y) * md_tb f))), (8, .int 2), (9, .int (md_v mem a ((md_T ga gb n x y) * md_tb f + md_cs (4 * f + 2)) (md_cb (4 * f + 2)) k)), (10, .int (nI (md_cb (4 * f + 2) - k) - 1))]) (md_cb (4 * f + 2)) ?_ ?_ ls (lv_sub hl [3, 4, 5, 6, 7, 8, 9, 2, 1, 0] rfl)
          · intro ls hl
            refine lv_iload hx hb dX2_look_65 (lv_at hl 9 rfl) ?_
            refine lv_if_lt (tgt := 111) hx hb dX2_look_67 (by decide) (fun c_17 => ?_) (fun c_17 => absurd md_kneg c_17)
            refine lv_iconst (v := 1) hx hb dX2_look_111 (by decide) ?_
            refine lv_aload_n hx hb dX2_look_112 rfl (lv_at hl 0 rfl) ?_
            refine va_get (D := (dC, dI)) (ci := 2) (v := .ref a10) (C := "TextureUnitsModel") (T := TX2) (N := 11) hx hb hts (tw_s inX2) hown hK hP 0 rfl rfl 10 (by decide) (hts _ (tw_c tw_343)) (fun _ h9 => h9) rfl dX2_look_113 ?_
            refine lv_iload hx hb dX2_look_116 (lv_at hl 7 rfl) ?_
            refine va_iald hx hb hK hP 5 0 rfl rfl (tu_in (by decide)) dX2_look_118 ?_
            refine lv_topi (fun x_18 ex_18 => ?_)
            have ex_18 : x_18 = (nI (md_cb (4 * f + 2))) := ((ex_18).trans (pk_un (by decide))).trans pk_us
            subst ex_18
            refine lv_ishl hx hb dX2_look_119 ?_
            refine lv_iconst (v := 1) hx hb dX2_look_120 (by decide) ?_
            refine lv_isub hx hb dX2_look_121 ?_
            refine lv_istore (lv' := [(10, .int (((1 : Int32) <<< ((nI (md_cb (4 * f + 2))) &&& 31)) - (1 : Int32))), (0, .ref o), (1, .int (nI j)), (2, .int (nI n)), (3, .int (nI x)), (4, .int (nI y)), (5, .int (nI (md_tb f))), (6, .long (lN ((md_T ga gb n x y) * md_tb f))), (8, .int 2), (9, .int (md_v mem a ((md_T ga gb n x y) * md_tb f + md_cs (4 * f + 2)) (md_cb (4 * f + 2)) (md_cb (4 * f + 2))))]) hx hb dX2_look_122 hl (by decide) rfl (fun ls hl => ?_)
            refine lv_aload_n hx hb dX2_look_124 rfl (lv_at hl 1 rfl) ?_
            refine va_get (D := (dC, dI)) (ci := 2) (v := .ref a5) (C := "TextureUnitsModel") (T := TX2) (N := 11) hx hb hts (tw_s inX2) hown hK hP 0 rfl rfl 5 (by decide) (hts _ (tw_c tw_338)) (fun _ h9 => h9) rfl dX2_look_125 ?_
            refine lv_iload hx hb dX2_look_128 (lv_at hl 8 rfl) ?_
            refine lv_iload hx hb dX2_look_130 (lv_at hl 0 rfl) ?_
            refine tu_join (fun v => F0 m 163 ls [.int v, .int 2, .ref a5]) (md_ch mem a f (md_T ga gb n x y) 2) ?_ (fun key => ?_)
            · refine va_iast hx hb hK hP hD hS 3 0 rfl rfl (tu_in (by decide)) dX2_look_163 (fun H locs hP hD hS => ?_)
              have hP : va_P (dC, dI) vwCl [(o, .inr (2, [.int th, .ref a1, .ref a2, .ref a3, .ref a4, .ref a5, .ref a6, .ref a7, .ref a8, .ref a9, .ref a10])), (a1, .inl (cI, 2048, .inl mem)), (a2, .inl (cI, 32, .inl un)), (a5, .inl (cI, 4, .inl (upd (upd (upd fd 0 (md_ch mem a f (md_T ga gb n x y) 0)) 1 (md_ch mem a f (md_T ga gb n x y) 1)) 2 (md_ch mem a f (md_T ga gb n x y) 2)))), (a9, .inl (cI, 4, .inl (upd (upd (upd (upd f1 0 (nI (md_cs (4 * f + 0)))) 1 (nI (md_cs (4 * f + 1)))) 2 (nI (md_cs (4 * f + 2)))) 3 (nI (md_cs (4 * f + 3)))))), (a10, .inl (cI, 4, .inl (upd (upd (upd (upd s1 0 (nI (md_cb (4 * f + 0)))) 1 (nI (md_cb (4 * f + 1)))) 2 (nI (md_cb (4 * f + 2)))) 3 (nI (md_cb (4 * f + 3))))))] H := hP
              have hD : va_D A [(o, .inr (2, [.int th, .ref a1, .ref a2, .ref a3, .ref a4, .ref a5, .ref a6, .ref a7, .ref a8, .ref a9, .ref a10])), (a1, .inl (cI, 2048, .inl mem)), (a2, .inl (cI, 32, .inl un)), (a5, .inl (cI, 4, .inl (upd (upd (upd fd 0 (md_ch mem a f (md_T ga gb n x y) 0)) 1 (md_ch mem a f (md_T ga gb n x y) 1)) 2 (md_ch mem a f (md_T ga gb n x y) 2)))), (a9, .inl (cI, 4, .inl (upd (upd (upd (upd f1 0 (nI (md_cs (4 * f + 0)))) 1 (nI (md_cs (4 * f + 1)))) 2 (nI (md_cs (4 * f + 2)))) 3 (nI (md_cs (4 * f + 3)))))), (a10, .inl (cI, 4, .inl (upd (upd (upd (upd s1 0 (nI (md_cb (4 * f + 0)))) 1 (nI (md_cb (4 * f + 1)))) 2 (nI (md_cb (4 * f + 2)))) 3 (nI (md_cb (4 * f + 3))))))] := hD
              refine lv_iinc (v := 3) (lv' := [(8, .int 3), (10, .int (((1 : Int32) <<< ((nI (md_cb (4 * f + 2))) &&& 31)) - (1 : Int32))), (0, .ref o), (1, .int (nI j)), (2, .int (nI n)), (3, .int (nI x)), (4, .int (nI y)), (5, .int (nI (md_tb f))), (6, .long (lN ((md_T ga gb n x y) * md_tb f))), (9, .int (md_v mem a ((md_T ga gb n x y) * md_tb f + md_cs (4 * f + 2)) (md_cb (4 * f + 2)) (md_cb (4 * f + 2))))]) hx hb dX2_look_164 hl (k := 8) rfl (by decide) (by decide) rfl (fun ls hl => ?_)
              refine lv_goto (tgt := 45) hx hb dX2_look_167 (by decide) ?_
              refine lv_iload hx hb dX2_look_45 (lv_at hl 0 rfl) ?_
              refine lv_iconst (v := 4) hx hb dX2_look_47 (by decide) ?_
              refine lv_icmp_ge (tgt := 170) hx hb dX2_look_48 (by decide) (fun c_19 => absurd c_19 (by decide)) (fun c_19 => ?_)
              refine lv_iconst (v := 0) hx hb dX2_look_51 (by decide) ?_
              refine lv_istore (lv' := [(9, .int 0), (8, .int 3), (10, .int (((1 : Int32) <<< ((nI (md_cb (4 * f + 2))) &&& 31)) - (1 : Int32))), (0, .ref o), (1, .int (nI j)), (2, .int (nI n)), (3, .int (nI x)), (4, .int (nI y)), (5, .int (nI (md_tb f))), (6, .long (lN ((md_T ga gb n x y) * md_tb f)))]) hx hb dX2_look_52 hl (by decide) rfl (fun ls hl => ?_)
              refine lv_aload_n hx hb dX2_look_54 rfl (lv_at hl 3 rfl) ?_
              refine va_get (D := (dC, dI)) (ci := 2) (v := .ref a10) (C := "TextureUnitsModel") (T := TX2) (N := 11) hx hb hts (tw_s inX2) hown hK hP 0 rfl rfl 10 (by decide) (hts _ (tw_c tw_343)) (fun _ h9 => h9) rfl dX2_look_55 ?_
              refine lv_iload hx hb dX2_look_58 (lv_at hl 1 rfl) ?_
              refine va_iald hx hb hK hP 5 0 rfl rfl (tu_in (by decide)) dX2_look_60 ?_
              refine lv_topi (fun x_20 ex_20 => ?_)
              have ex_20 : x_20 = (nI (md_cb (4 * f + 3))) := (ex_20).trans pk_us
              subst ex_20
              refine lv_iconst (v := 1) hx hb dX2_look_61 (by decide) ?_
              refine lv_isub hx hb dX2_look_62 ?_
              refine lv_istore (lv' := [(10, .int ((nI (md_cb (4 * f + 3))) - (1 : Int32))), (9, .int 0), (8, .int 3), (0, .ref o), (1, .int (nI j)), (2, .int (nI n)), (3, .int (nI x)), (4, .int (nI y)), (5, .int (nI (md_tb f))), (6, .long (lN ((md_T ga gb n x y) * md_tb f)))]) hx hb dX2_look_63 hl (by decide) rfl (fun ls hl => ?_)
              refine tu_loop1 (W9 := fun ls => W p l e _ s m _ below meth c _ _ 0 0 _ (F0 m 65 ls [])) (I := fun k ls => lv_has ls 11 [(0, .ref o), (1, .int (nI j)), (2, .int (nI n)), (3, .int (nI x)), (4, .int (nI y)), (5, .int (nI (md_tb f))), (6, .long (lN ((md_T ga gb n x y) * md_tb f))), (8, .int 3), (9, .int (md_v mem a ((md_T ga gb n x y) * md_tb f + md_cs (4 * f + 3)) (md_cb (4 * f + 3)) k)), (10, .int (nI (md_cb (4 * f + 3) - k) - 1))]) (md_cb (4 * f + 3)) ?_ ?_ ls (lv_sub hl [3, 4, 5, 6, 7, 8, 9, 2, 1, 0] rfl)
              · intro ls hl
                refine lv_iload hx hb dX2_look_65 (lv_at hl 9 rfl) ?_
                refine lv_if_lt (tgt := 111) hx hb dX2_look_67 (by decide) (fun c_21 => ?_) (fun c_21 => absurd md_kneg c_21)
                refine lv_iconst (v := 1) hx hb dX2_look_111 (by decide) ?_
                refine lv_aload_n hx hb dX2_look_112 rfl (lv_at hl 0 rfl) ?_
                refine va_get (D := (dC, dI)) (ci := 2) (v := .ref a10) (C := "TextureUnitsModel") (T := TX2) (N := 11) hx hb hts (tw_s inX2) hown hK hP 0 rfl rfl 10 (by decide) (hts _ (tw_c tw_343)) (fun _ h9 => h9) rfl dX2_look_113 ?_
                refine lv_iload hx hb dX2_look_116 (lv_at hl 7 rfl) ?_
                refine va_iald hx hb hK hP 5 0 rfl rfl (tu_in (by decide)) dX2_look_118 ?_
                refine lv_topi (fun x_22 ex_22 => ?_)
                have ex_22 : x_22 = (nI (md_cb (4 * f + 3))) := (ex_22).trans pk_us
                subst ex_22
                refine lv_ishl hx hb dX2_look_119 ?_
                refine lv_iconst (v := 1) hx hb dX2_look_120 (by decide) ?_
                refine lv_isub hx hb dX2_look_121 ?_
                refine lv_istore (lv' := [(10, .int (((1 : Int32) <<< ((nI (md_cb (4 * f + 3))) &&& 31)) - (1 : Int32))), (0, .ref o), (1, .int (nI j)), (2, .int (nI n)), (3, .int (nI x)), (4, .int (nI y)), (5, .int (nI (md_tb f))), (6, .long (lN ((md_T ga gb n x y) * md_tb f))), (8, .int 3), (9, .int (md_v mem a ((md_T ga gb n x y) * md_tb f + md_cs (4 * f + 3)) (md_cb (4 * f + 3)) (md_cb (4 * f + 3))))]) hx hb dX2_look_122 hl (by decide) rfl (fun ls hl => ?_)
                refine lv_aload_n hx hb dX2_look_124 rfl (lv_at hl 1 rfl) ?_
                refine va_get (D := (dC, dI)) (ci := 2) (v := .ref a5) (C := "TextureUnitsModel") (T := TX2) (N := 11) hx hb hts (tw_s inX2) hown hK hP 0 rfl rfl 5 (by decide) (hts _ (tw_c tw_338)) (fun _ h9 => h9) rfl dX2_look_125 ?_
                refine lv_iload hx hb dX2_look_128 (lv_at hl 8 rfl) ?_
                refine lv_iload hx hb dX2_look_130 (lv_at hl 0 rfl) ?_
                refine tu_join (fun v => F0 m 163 ls [.int v, .int 3, .ref a5]) (md_ch mem a f (md_T ga gb n x y) 3) ?_ (fun key => ?_)
                · refine va_iast hx hb hK hP hD hS 3 0 rfl rfl (tu_in (by decide)) dX2_look_163 (fun H locs hP hD hS => ?_)
                  have hP : va_P (dC, dI) vwCl [(o, .inr (2, [.int th, .ref a1, .ref a2, .ref a3, .ref a4, .ref a5, .ref a6, .ref a7, .ref a8, .ref a9, .ref a10])), (a1, .inl (cI, 2048, .inl mem)), (a2, .inl (cI, 32, .inl un)), (a5, .inl (cI, 4, .inl (upd (upd (upd (upd fd 0 (md_ch mem a f (md_T ga gb n x y) 0)) 1 (md_ch mem a f (md_T ga gb n x y) 1)) 2 (md_ch mem a f (md_T ga gb n x y) 2)) 3 (md_ch mem a f (md_T ga gb n x y) 3)))), (a9, .inl (cI, 4, .inl (upd (upd (upd (upd f1 0 (nI (md_cs (4 * f + 0)))) 1 (nI (md_cs (4 * f + 1)))) 2 (nI (md_cs (4 * f + 2)))) 3 (nI (md_cs (4 * f + 3)))))), (a10, .inl (cI, 4, .inl (upd (upd (upd (upd s1 0 (nI (md_cb (4 * f + 0)))) 1 (nI (md_cb (4 * f + 1)))) 2 (nI (md_cb (4 * f + 2)))) 3 (nI (md_cb (4 * f + 3))))))] H := hP
                  have hD : va_D A [(o, .inr (2, [.int th, .ref a1, .ref a2, .ref a3, .ref a4, .ref a5, .ref a6, .ref a7, .ref a8, .ref a9, .ref a10])), (a1, .inl (cI, 2048, .inl mem)), (a2, .inl (cI, 32, .inl un)), (a5, .inl (cI, 4, .inl (upd (upd (upd (upd fd 0 (md_ch mem a f (md_T ga gb n x y) 0)) 1 (md_ch mem a f (md_T ga gb n x y) 1)) 2 (md_ch mem a f (md_T ga gb n x y) 2)) 3 (md_ch mem a f (md_T ga gb n x y) 3)))), (a9, .inl (cI, 4, .inl (upd (upd (upd (upd f1 0 (nI (md_cs (4 * f + 0)))) 1 (nI (md_cs (4 * f + 1)))) 2 (nI (md_cs (4 * f + 2)))) 3 (nI (md_cs (4 * f + 3)))))), (a10, .inl (cI, 4, .inl (upd (upd (upd (upd s1 0 (nI (md_cb (4 * f + 0)))) 1 (nI (md_cb (4 * f + 1)))) 2 (nI (md_cb (4 * f + 2)))) 3 (nI (md_cb (4 * f + 3))))))] := hD
                  refine lv_iinc (v := 4) (lv' := [(8, .int 4), (10, .int (((1 : Int32) <<< ((nI (md_cb (4 * f + 3))) &&& 31)) - (1 : Int32))), (0, .ref o), (1, .int (nI j)), (2, .int (nI n)), (3, .int (nI x)), (4, .int (nI y)), (5, .int (nI (md_tb f))), (6, .long (lN ((md_T ga gb n x y) * md_tb f))), (9, .int (md_v mem a ((md_T ga gb n x y) * md_tb f + md_cs (4 * f + 3)) (md_cb (4 * f + 3)) (md_cb (4 * f + 3))))]) hx hb dX2_look_164 hl (k := 8) rfl (by decide) (by decide) rfl (fun ls hl => ?_)
                  refine lv_goto (tgt := 45) hx hb dX2_look_167 (by decide) ?_
                  refine lv_iload hx hb dX2_look_45 (lv_at hl 0 rfl) ?_
                  refine lv_iconst (v := 4) hx hb dX2_look_47 (by decide) ?_
                  refine lv_icmp_ge (tgt := 170) hx hb dX2_look_48 (by decide) (fun c_23 => ?_) (fun c_23 => absurd (by decide) c_23)
                  skip
                  have hP9 : va_P (dC, dI) vwCl [(o, .inr (2, [.int th, .ref a1, .ref a2, .ref a3, .ref a4, .ref a5, .ref a6, .ref a7, .ref a8, .ref a9, .ref a10])), (a1, .inl (cI, 2048, .inl mem)), (a2, .inl (cI, 32, .inl un)), (a5, .inl (cI, 4, .inl (tu_put4 fd (md_ch mem a f (md_T ga gb n x y) 0) (md_ch mem a f (md_T ga gb n x y) 1) (md_ch mem a f (md_T ga gb n x y) 2) (md_ch mem a f (md_T ga gb n x y) 3)))), (a9, .inl (cI, 4, .inl (upd (upd (upd (upd f1 0 (nI (md_cs (4 * f + 0)))) 1 (nI (md_cs (4 * f + 1)))) 2 (nI (md_cs (4 * f + 2)))) 3 (nI (md_cs (4 * f + 3)))))), (a10, .inl (cI, 4, .inl (upd (upd (upd (upd s1 0 (nI (md_cb (4 * f + 0)))) 1 (nI (md_cb (4 * f + 1)))) 2 (nI (md_cb (4 * f + 2)))) 3 (nI (md_cb (4 * f + 3))))))] H := hP.sub [0, 1, 2, 3, 4, 5] rfl
                  have hD9 : va_D A [(o, .inr (2, [.int th, .ref a1, .ref a2, .ref a3, .ref a4, .ref a5, .ref a6, .ref a7, .ref a8, .ref a9, .ref a10])), (a1, .inl (cI, 2048, .inl mem)), (a2, .inl (cI, 32, .inl un)), (a5, .inl (cI, 4, .inl (tu_put4 fd (md_ch mem a f (md_T ga gb n x y) 0) (md_ch mem a f (md_T ga gb n x y) 1) (md_ch mem a f (md_T ga gb n x y) 2) (md_ch mem a f (md_T ga gb n x y) 3)))), (a9, .inl (cI, 4, .inl (upd (upd (upd (upd f1 0 (nI (md_cs (4 * f + 0)))) 1 (nI (md_cs (4 * f + 1)))) 2 (nI (md_cs (4 * f + 2)))) 3 (nI (md_cs (4 * f + 3)))))), (a10, .inl (cI, 4, .inl (upd (upd (upd (upd s1 0 (nI (md_cb (4 * f + 0)))) 1 (nI (md_cb (4 * f + 1)))) 2 (nI (md_cb (4 * f + 2)))) 3 (nI (md_cb (4 * f + 3))))))] := hD.sub [0, 1, 2, 3, 4, 5] (by decide) rfl
                  have hK9 : va_K (dC, dI) vwCl [(cI, .int)] s := hK.sub [0] rfl
                  exact W.vret hx hb hr (fun t ht hW => ⟨⟨(), rfl, trivial, (upd (upd (upd (upd f1 0 (nI (md_cs (4 * f + 0)))) 1 (nI (md_cs (4 * f + 1)))) 2 (nI (md_cs (4 * f + 2)))) 3 (nI (md_cs (4 * f + 3)))), (upd (upd (upd (upd s1 0 (nI (md_cb (4 * f + 0)))) 1 (nI (md_cb (4 * f + 1)))) 2 (nI (md_cb (4 * f + 2)))) 3 (nI (md_cb (4 * f + 3)))), by rw [ht]; exact hP9, va_K.moved hW.alike hK9, hD9⟩, hS.F ht⟩) hS.2.2 dX2_look_170
                · refine lv_if_ne (tgt := 150) hx hb dX2_look_132 (by decide) (fun c_23 => ?_) (fun c_23 => ?_)
                  · refine lv_ldc (v := 131072) hx hb hown (hts _ (tw_c tw_433)) dX2_look_150 ?_
                    refine lv_iload hx hb dX2_look_152 (lv_at hl 9 rfl) ?_
                    refine lv_imul hx hb dX2_look_154 ?_
                    refine lv_iload hx hb dX2_look_155 (lv_at hl 0 rfl) ?_
                    refine lv_iadd hx hb dX2_look_157 ?_
                    refine lv_iconst (v := 2) hx hb dX2_look_158 (by decide) ?_
                    refine lv_iload hx hb dX2_look_159 (lv_at hl 0 rfl) ?_
                    refine lv_imul hx hb dX2_look_161 ?_
                    refine lv_idiv hx hb dX2_look_162 (md_most2 (md_cb_le _) c_23) ?_
                    exact key _ (by unfold md_ch md_fv md_most; rw [if_neg c_23] <;> rfl)
                  · refine lv_iload hx hb dX2_look_135 (lv_at hl 8 rfl) ?_
                    refine lv_iconst (v := 3) hx hb dX2_look_137 (by decide) ?_
                    refine lv_icmp_ne (tgt := 146) hx hb dX2_look_138 (by decide) (fun c_24 => absurd (by decide) c_24) (fun c_24 => ?_)
                    refine lv_ldc (v := 65536) hx hb hown (hts _ (tw_c tw_432)) dX2_look_141 ?_
                    refine lv_goto (tgt := 163) hx hb dX2_look_143 (by decide) ?_
                    exact key _ (by unfold md_ch md_fv md_most; rw [if_pos c_23] <;> rfl)
              · intro k ls hk hl ih
                refine lv_iload hx hb dX2_look_65 (lv_at hl 9 rfl) ?_
                refine lv_if_lt (tgt := 111) hx hb dX2_look_67 (by decide) (fun c_21 => absurd c_21 (md_knn (md_cb_le _) hk)) (fun c_21 => ?_)
                refine lv_iconst (v := 2) hx hb dX2_look_70 (by decide) ?_
                refine lv_iload hx hb dX2_look_71 (lv_at hl 8 rfl) ?_
                refine lv_imul hx hb dX2_look_73 ?_
                refine lv_aload_n hx hb dX2_look_74 rfl (lv_at hl 0 rfl) ?_
                refine lv_aload_n hx hb dX2_look_75 rfl (lv_at hl 0 rfl) ?_
                refine va_get (D := (dC, dI)) (ci := 2) (v := .ref a2) (C := "TextureUnitsModel") (T := TX2) (N := 11) hx hb hts (tw_s inX2) hown hK hP 0 rfl rfl 2 (by decide) (hts _ (tw_c tw_335)) (fun _ h9 => h9) rfl dX2_look_76 ?_
                refine lv_bipush (v := 8) hx hb dX2_look_79 (by decide) ?_
                refine lv_iload_n hx hb dX2_look_81 rfl (lv_at hl 1 rfl) ?_
                refine lv_imul hx hb dX2_look_82 ?_
                refine lv_topi (fun x_22 ex_22 => ?_)
                have ex_22 : x_22 = nI (8 * j) := ex_22.trans (pk_mul 8 j)
                subst ex_22
                refine va_iald hx hb hK hP 2 0 rfl rfl (vp_in_nI (by omega) (by decide)) dX2_look_83 ?_
                refine lv_topi (fun x_23 ex_23 => ?_)
                have ex_23 : x_23 = (un (8 * j)) := ex_23.trans (congrArg un (nI_clamp (by omega)))
                subst ex_23
                refine lv_topi (fun y_24 ey_24 => ?_)
                have ey_24 : y_24 = (nI a) := ey_24.trans ea
                subst ey_24
                refine lv_lload hx hb dX2_look_84 (lv_at hl 6 rfl) ?_
                refine lv_aload_n hx hb dX2_look_86 rfl (lv_at hl 0 rfl) ?_
                refine va_get (D := (dC, dI)) (ci := 2) (v := .ref a9) (C := "TextureUnitsModel") (T := TX2) (N := 11) hx hb hts (tw_s inX2) hown hK hP 0 rfl rfl 9 (by decide) (hts _ (tw_c tw_342)) (fun _ h9 => h9) rfl dX2_look_87 ?_
                refine lv_iload hx hb dX2_look_90 (lv_at hl 7 rfl) ?_
                refine va_iald hx hb hK hP 4 0 rfl rfl (tu_in (by decide)) dX2_look_92 ?_
                refine lv_topi (fun x_25 ex_25 => ?_)
                have ex_25 : x_25 = (nI (md_cs (4 * f + 3))) := (ex_25).trans pk_us
                subst ex_25
                refine lv_i2l hx hb dX2_look_93 rfl ?_
                refine lv_ladd hx hb dX2_look_94 ?_
                refine lv_iload hx hb dX2_look_95 (lv_at hl 9 rfl) ?_
                refine lv_i2l hx hb dX2_look_97 rfl ?_
                refine lv_ladd hx hb dX2_look_98 ?_
                refine lv_topl (fun y_26 ey_26 => ?_)
                have ey_26 : y_26 = (lN (((md_T ga gb n x y) * md_tb f + md_cs (4 * f + 3)) + (md_cb (4 * f + 3) - 1 - k))) := ey_26.trans (md_addr hT (md_cb_le _) hk)
                subst ey_26
                refine rd_call (W.runV (As := [.int (nI a), .long (lN (((md_T ga gb n x y) * md_tb f + md_cs (4 * f + 3)) + (md_cb (4 * f + 3) - 1 - k)))]) (rest := [.int ((2 : Int32) * (md_v mem a ((md_T ga gb n x y) * md_tb f + md_cs (4 * f + 3)) (md_cb (4 * f + 3)) k))]) ⟨hx, hb, hml, hown, hts⟩ (m_bit l dC dI o th a1 a2 a3 a4 a5 a6 a7 a8 a9 a10 cI mem a (((md_T ga gb n x y) * md_tb f + md_cs (4 * f + 3)) + (md_cb (4 * f + 3) - 1 - k)) ha (md_addr_lt hT (by have := md_cb_le (4 * f + 3); omega))) (cwV 2 hts (tg_V tw_426 tw_428 tw_p16 tw_3 tw_429) rfl rfl rfl (by decide +kernel) ⟨Nat.le_of_ble_eq_true rfl, Nat.le_of_ble_eq_true rfl⟩) ⟨rd_blind, va_recv hK hP (ci := 2) (q0 := 0) rfl rfl, fun U hU hW => ⟨rfl, rd_use (hP.sub [0, 1] rfl) (hK.sub [0] rfl) U hU hW⟩⟩ rfl rfl hl.1 rfl (lv_room (Nat.le_of_ble_eq_true rfl)) dX2_look_99 ⟨Nat.le_of_ble_eq_true rfl, Nat.le_of_ble_eq_true rfl⟩) ?_
                refine lv_iadd hx hb dX2_look_102 ?_
                refine lv_istore (lv' := [(9, .int (((2 : Int32) * (md_v mem a ((md_T ga gb n x y) * md_tb f + md_cs (4 * f + 3)) (md_cb (4 * f + 3)) k)) + (md_bit mem a (((md_T ga gb n x y) * md_tb f + md_cs (4 * f + 3)) + (md_cb (4 * f + 3) - 1 - k))))), (0, .ref o), (1, .int (nI j)), (2, .int (nI n)), (3, .int (nI x)), (4, .int (nI y)), (5, .int (nI (md_tb f))), (6, .long (lN ((md_T ga gb n x y) * md_tb f))), (8, .int 3), (10, .int (nI (md_cb (4 * f + 3) - k) - 1))]) hx hb dX2_look_103 hl (by decide) rfl (fun ls hl => ?_)
                obtain ⟨x_27, ex_27⟩ : ∃ y : Int32, y = (nI (md_cb (4 * f + 3) - k) - 1) + (-1) := ⟨_, rfl⟩
                refine lv_iinc (v := x_27) (lv' := [(10, .int x_27), (9, .int (((2 : Int32) * (md_v mem a ((md_T ga gb n x y) * md_tb f + md_cs (4 * f + 3)) (md_cb (4 * f + 3)) k)) + (md_bit mem a (((md_T ga gb n x y) * md_tb f + md_cs (4 * f + 3)) + (md_cb (4 * f + 3) - 1 - k))))), (0, .ref o), (1, .int (nI j)), (2, .int (nI n)), (3, .int (nI x)), (4, .int (nI y)), (5, .int (nI (md_tb f))), (6, .long (lN ((md_T ga gb n x y) * md_tb f))), (8, .int 3)]) hx hb dX2_look_105 hl (k := 9) rfl (by rw [ex_27]; rfl) (by decide) rfl (fun ls hl => ?_)
                refine lv_goto (tgt := 65) hx hb dX2_look_108 (by decide) ?_
                have ex_27 : x_27 = nI (md_cb (4 * f + 3) - (k + 1)) - 1 := ex_27.trans (md_kd hk)
                subst ex_27
                exact ih _ (lv_sub hl [2, 3, 4, 5, 6, 7, 8, 9, 1, 0] rfl)
            · refine lv_if_ne (tgt := 150) hx hb dX2_look_132 (by decide) (fun c_19 => ?_) (fun c_19 => ?_)
              · refine lv_ldc (v := 131072) hx hb hown (hts _ (tw_c tw_433)) dX2_look_150 ?_
                refine lv_iload hx hb dX2_look_152 (lv_at hl 9 rfl) ?_
                refine lv_imul hx hb dX2_look_154 ?_
                refine lv_iload hx hb dX2_look_155 (lv_at hl 0 rfl) ?_
                refine lv_iadd hx hb dX2_look_157 ?_
                refine lv_iconst (v := 2) hx hb dX2_look_158 (by decide) ?_
                refine lv_iload hx hb dX2_look_159 (lv_at hl 0 rfl) ?_
                refine lv_imul hx hb dX2_look_161 ?_
                refine lv_idiv hx hb dX2_look_162 (md_most2 (md_cb_le _) c_19) ?_
                exact key _ (by unfold md_ch md_fv md_most; rw [if_neg c_19] <;> rfl)
              · refine lv_iload hx hb dX2_look_135 (lv_at hl 8 rfl) ?_
                refine lv_iconst (v := 3) hx hb dX2_look_137 (by decide) ?_
                refine lv_icmp_ne (tgt := 146) hx hb dX2_look_138 (by decide) (fun c_20 => ?_) (fun c_20 => absurd c_20 (by decide))
                refine lv_iconst (v := 0) hx hb dX2_look_146 (by decide) ?_
                refine lv_goto (tgt := 163) hx hb dX2_look_147 (by decide) ?_
                exact key _ (by unfold md_ch md_fv md_most; rw [if_pos c_19] <;> rfl)
          · intro k ls hk hl ih
            refine lv_iload hx hb dX2_look_65 (lv_at hl 9 rfl) ?_
            refine lv_if_lt (tgt := 111) hx hb dX2_look_67 (by decide) (fun c_17 => absurd c_17 (md_knn (md_cb_le _) hk)) (fun c_17 => ?_)
            refine lv_iconst (v := 2) hx hb dX2_look_70 (by decide) ?_
            refine lv_iload hx hb dX2_look_71 (lv_at hl 8 rfl) ?_
            refine lv_imul hx hb dX2_look_73 ?_
            refine lv_aload_n hx hb dX2_look_74 rfl (lv_at hl 0 rfl) ?_
            refine lv_aload_n hx hb dX2_look_75 rfl (lv_at hl 0 rfl) ?_
            refine va_get (D := (dC, dI)) (ci := 2) (v := .ref a2) (C := "TextureUnitsModel") (T := TX2) (N := 11) hx hb hts (tw_s inX2) hown hK hP 0 rfl rfl 2 (by decide) (hts _ (tw_c tw_335)) (fun _ h9 => h9) rfl dX2_look_76 ?_
            refine lv_bipush (v := 8) hx hb dX2_look_79 (by decide) ?_
            refine lv_iload_n hx hb dX2_look_81 rfl (lv_at hl 1 rfl) ?_
            refine lv_imul hx hb dX2_look_82 ?_
            refine lv_topi (fun x_18 ex_18 => ?_)
            have ex_18 : x_18 = nI (8 * j) := ex_18.trans (pk_mul 8 j)
            subst ex_18
            refine va_iald hx hb hK hP 2 0 rfl rfl (vp_in_nI (by omega) (by decide)) dX2_look_83 ?_
            refine lv_topi (fun x_19 ex_19 => ?_)
            have ex_19 : x_19 = (un (8 * j)) := ex_19.trans (congrArg un (nI_clamp (by omega)))
            subst ex_19
            refine lv_topi (fun y_20 ey_20 => ?_)
            have ey_20 : y_20 = (nI a) := ey_20.trans ea
            subst ey_20
            refine lv_lload hx hb dX2_look_84 (lv_at hl 6 rfl) ?_
            refine lv_aload_n hx hb dX2_look_86 rfl (lv_at hl 0 rfl) ?_
            refine va_get (D := (dC, dI)) (ci := 2) (v := .ref a9) (C := "TextureUnitsModel") (T := TX2) (N := 11) hx hb hts (tw_s inX2) hown hK hP 0 rfl rfl 9 (by decide) (hts _ (tw_c tw_342)) (fun _ h9 => h9) rfl dX2_look_87 ?_
            refine lv_iload hx hb dX2_look_90 (lv_at hl 7 rfl) ?_
            refine va_iald hx hb hK hP 4 0 rfl rfl (tu_in (by decide)) dX2_look_92 ?_
            refine lv_topi (fun x_21 ex_21 => ?_)
            have ex_21 : x_21 = (nI (md_cs (4 * f + 2))) := ((ex_21).trans (pk_un (by decide))).trans pk_us
            subst ex_21
            refine lv_i2l hx hb dX2_look_93 rfl ?_
            refine lv_ladd hx hb dX2_look_94 ?_
            refine lv_iload hx hb dX2_look_95 (lv_at hl 9 rfl) ?_
            refine lv_i2l hx hb dX2_look_97 rfl ?_
            refine lv_ladd hx hb dX2_look_98 ?_
            refine lv_topl (fun y_22 ey_22 => ?_)
            have ey_22 : y_22 = (lN (((md_T ga gb n x y) * md_tb f + md_cs (4 * f + 2)) + (md_cb (4 * f + 2) - 1 - k))) := ey_22.trans (md_addr hT (md_cb_le _) hk)
            subst ey_22
            refine rd_call (W.runV (As := [.int (nI a), .long (lN (((md_T ga gb n x y) * md_tb f + md_cs (4 * f + 2)) + (md_cb (4 * f + 2) - 1 - k)))]) (rest := [.int ((2 : Int32) * (md_v mem a ((md_T ga gb n x y) * md_tb f + md_cs (4 * f + 2)) (md_cb (4 * f + 2)) k))]) ⟨hx, hb, hml, hown, hts⟩ (m_bit l dC dI o th a1 a2 a3 a4 a5 a6 a7 a8 a9 a10 cI mem a (((md_T ga gb n x y) * md_tb f + md_cs (4 * f + 2)) + (md_cb (4 * f + 2) - 1 - k)) ha (md_addr_lt hT (by have := md_cb_le (4 * f + 2); omega))) (cwV 2 hts (tg_V tw_426 tw_428 tw_p16 tw_3 tw_429) rfl rfl rfl (by decide +kernel) ⟨Nat.le_of_ble_eq_true rfl, Nat.le_of_ble_eq_true rfl⟩) ⟨rd_blind, va_recv hK hP (ci := 2) (q0 := 0) rfl rfl, fun U hU hW => ⟨rfl, rd_use (hP.sub [0, 1] rfl) (hK.sub [0] rfl) U hU hW⟩⟩ rfl rfl hl.1 rfl (lv_room (Nat.le_of_ble_eq_true rfl)) dX2_look_99 ⟨Nat.le_of_ble_eq_true rfl, Nat.le_of_ble_eq_true rfl⟩) ?_
            refine lv_iadd hx hb dX2_look_102 ?_
            refine lv_istore (lv' := [(9, .int (((2 : Int32) * (md_v mem a ((md_T ga gb n x y) * md_tb f + md_cs (4 * f + 2)) (md_cb (4 * f + 2)) k)) + (md_bit mem a (((md_T ga gb n x y) * md_tb f + md_cs (4 * f + 2)) + (md_cb (4 * f + 2) - 1 - k))))), (0, .ref o), (1, .int (nI j)), (2, .int (nI n)), (3, .int (nI x)), (4, .int (nI y)), (5, .int (nI (md_tb f))), (6, .long (lN ((md_T ga gb n x y) * md_tb f))), (8, .int 2), (10, .int (nI (md_cb (4 * f + 2) - k) - 1))]) hx hb dX2_look_103 hl (by decide) rfl (fun ls hl => ?_)
            obtain ⟨x_23, ex_23⟩ : ∃ y : Int32, y = (nI (md_cb (4 * f + 2) - k) - 1) + (-1) := ⟨_, rfl⟩
            refine lv_iinc (v := x_23) (lv' := [(10, .int x_23), (9, .int (((2 : Int32) * (md_v mem a ((md_T ga gb n x y) * md_tb f + md_cs (4 * f + 2)) (md_cb (4 * f + 2)) k)) + (md_bit mem a (((md_T ga gb n x y) * md_tb f + md_cs (4 * f + 2)) + (md_cb (4 * f + 2) - 1 - k))))), (0, .ref o), (1, .int (nI j)), (2, .int (nI n)), (3, .int (nI x)), (4, .int (nI y)), (5, .int (nI (md_tb f))), (6, .long (lN ((md_T ga gb n x y) * md_tb f))), (8, .int 2)]) hx hb dX2_look_105 hl (k := 9) rfl (by rw [ex_23]; rfl) (by decide) rfl (fun ls hl => ?_)
            refine lv_goto (tgt := 65) hx hb dX2_look_108 (by decide) ?_
            have ex_23 : x_23 = nI (md_cb (4 * f + 2) - (k + 1)) - 1 := ex_23.trans (md_kd hk)
            subst ex_23
            exact ih _ (lv_sub hl [2, 3, 4, 5, 6, 7, 8, 9, 1, 0] rfl)
        · refine lv_if_ne (tgt := 150) hx hb dX2_look_132 (by decide) (fun c_15 => ?_) (fun c_15 => ?_)
          · refine lv_ldc (v := 131072) hx hb hown (hts _ (tw_c tw_433)) dX2_look_150 ?_
            refine lv_iload hx hb dX2_look_152 (lv_at hl 9 rfl) ?_
            refine lv_imul hx hb dX2_look_154 ?_
            refine lv_iload hx hb dX2_look_155 (lv_at hl 0 rfl) ?_
            refine lv_iadd hx hb dX2_look_157 ?_
            refine lv_iconst (v := 2) hx hb dX2_look_158 (by decide) ?_
            refine lv_iload hx hb dX2_look_159 (lv_at hl 0 rfl) ?_
            refine lv_imul hx hb dX2_look_161 ?_
            refine lv_idiv hx hb dX2_look_162 (md_most2 (md_cb_le _) c_15) ?_
            exact key _ (by unfold md_ch md_fv md_most; rw [if_neg c_15] <;> rfl)
          · refine lv_iload hx hb dX2_look_135 (lv_at hl 8 rfl) ?_
            refine lv_iconst (v := 3) hx hb dX2_look_137 (by decide) ?_
            refine lv_icmp_ne (tgt := 146) hx hb dX2_look_138 (by decide) (fun c_16 => ?_) (fun c_16 => absurd c_16 (by decide))
            refine lv_iconst (v := 0) hx hb dX2_look_146 (by decide) ?_
            refine lv_goto (tgt := 163) hx hb dX2_look_147 (by decide) ?_
            exact key _ (by unfold md_ch md_fv md_most; rw [if_pos c_15] <;> rfl)
      · intro k ls hk hl ih
        refine lv_iload hx hb dX2_look_65 (lv_at hl 9 rfl) ?_
        refine lv_if_lt (tgt := 111) hx hb dX2_look_67 (by decide) (fun c_13 => absurd c_13 (md_knn (md_cb_le _) hk)) (fun c_13 => ?_)
        refine lv_iconst (v := 2) hx hb dX2_look_70 (by decide) ?_
        refine lv_iload hx hb dX2_look_71 (lv_at hl 8 rfl) ?_
        refine lv_imul hx hb dX2_look_73 ?_
        refine lv_aload_n hx hb dX2_look_74 rfl (lv_at hl 0 rfl) ?_
        refine lv_aload_n hx hb dX2_look_75 rfl (lv_at hl 0 rfl) ?_
        refine va_get (D := (dC, dI)) (ci := 2) (v := .ref a2) (C := "TextureUnitsModel") (T := TX2) (N := 11) hx hb hts (tw_s inX2) hown hK hP 0 rfl rfl 2 (by decide) (hts _ (tw_c tw_335)) (fun _ h9 => h9) rfl dX2_look_76 ?_
        refine lv_bipush (v := 8) hx hb dX2_look_79 (by decide) ?_
        refine lv_iload_n hx hb dX2_look_81 rfl (lv_at hl 1 rfl) ?_
        refine lv_imul hx hb dX2_look_82 ?_
        refine lv_topi (fun x_14 ex_14 => ?_)
        have ex_14 : x_14 = nI (8 * j) := ex_14.trans (pk_mul 8 j)
        subst ex_14
        refine va_iald hx hb hK hP 2 0 rfl rfl (vp_in_nI (by omega) (by decide)) dX2_look_83 ?_
        refine lv_topi (fun x_15 ex_15 => ?_)
        have ex_15 : x_15 = (un (8 * j)) := ex_15.trans (congrArg un (nI_clamp (by omega)))
        subst ex_15
        refine lv_topi (fun y_16 ey_16 => ?_)
        have ey_16 : y_16 = (nI a) := ey_16.trans ea
        subst ey_16
        refine lv_lload hx hb dX2_look_84 (lv_at hl 6 rfl) ?_
        refine lv_aload_n hx hb dX2_look_86 rfl (lv_at hl 0 rfl) ?_
        refine va_get (D := (dC, dI)) (ci := 2) (v := .ref a9) (C := "TextureUnitsModel") (T := TX2) (N := 11) hx hb hts (tw_s inX2) hown hK hP 0 rfl rfl 9 (by decide) (hts _ (tw_c tw_342)) (fun _ h9 => h9) rfl dX2_look_87 ?_
        refine lv_iload hx hb dX2_look_90 (lv_at hl 7 rfl) ?_
        refine va_iald hx hb hK hP 4 0 rfl rfl (tu_in (by decide)) dX2_look_92 ?_
        refine lv_topi (fun x_17 ex_17 => ?_)
        have ex_17 : x_17 = (nI (md_cs (4 * f + 1))) := (((ex_17).trans (pk_un (by decide))).trans (pk_un (by decide))).trans pk_us
        subst ex_17
        refine lv_i2l hx hb dX2_look_93 rfl ?_
        refine lv_ladd hx hb dX2_look_94 ?_
        refine lv_iload hx hb dX2_look_95 (lv_at hl 9 rfl) ?_
        refine lv_i2l hx hb dX2_look_97 rfl ?_
        refine lv_ladd hx hb dX2_look_98 ?_
        refine lv_topl (fun y_18 ey_18 => ?_)
        have ey_18 : y_18 = (lN (((md_T ga gb n x y) * md_tb f + md_cs (4 * f + 1)) + (md_cb (4 * f + 1) - 1 - k))) := ey_18.trans (md_addr hT (md_cb_le _) hk)
        subst ey_18
        refine rd_call (W.runV (As := [.int (nI a), .long (lN (((md_T ga gb n x y) * md_tb f + md_cs (4 * f + 1)) + (md_cb (4 * f + 1) - 1 - k)))]) (rest := [.int ((2 : Int32) * (md_v mem a ((md_T ga gb n x y) * md_tb f + md_cs (4 * f + 1)) (md_cb (4 * f + 1)) k))]) ⟨hx, hb, hml, hown, hts⟩ (m_bit l dC dI o th a1 a2 a3 a4 a5 a6 a7 a8 a9 a10 cI mem a (((md_T ga gb n x y) * md_tb f + md_cs (4 * f + 1)) + (md_cb (4 * f + 1) - 1 - k)) ha (md_addr_lt hT (by have := md_cb_le (4 * f + 1); omega))) (cwV 2 hts (tg_V tw_426 tw_428 tw_p16 tw_3 tw_429) rfl rfl rfl (by decide +kernel) ⟨Nat.le_of_ble_eq_true rfl, Nat.le_of_ble_eq_true rfl⟩) ⟨rd_blind, va_recv hK hP (ci := 2) (q0 := 0) rfl rfl, fun U hU hW => ⟨rfl, rd_use (hP.sub [0, 1] rfl) (hK.sub [0] rfl) U hU hW⟩⟩ rfl rfl hl.1 rfl (lv_room (Nat.le_of_ble_eq_true rfl)) dX2_look_99 ⟨Nat.le_of_ble_eq_true rfl, Nat.le_of_ble_eq_true rfl⟩) ?_
        refine lv_iadd hx hb dX2_look_102 ?_
        refine lv_istore (lv' := [(9, .int (((2 : Int32) * (md_v mem a ((md_T ga gb n x y) * md_tb f + md_cs (4 * f + 1)) (md_cb (4 * f + 1)) k)) + (md_bit mem a (((md_T ga gb n x y) * md_tb f + md_cs (4 * f + 1)) + (md_cb (4 * f + 1) - 1 - k))))), (0, .ref o), (1, .int (nI j)), (2, .int (nI n)), (3, .int (nI x)), (4, .int (nI y)), (5, .int (nI (md_tb f))), (6, .long (lN ((md_T ga gb n x y) * md_tb f))), (8, .int 1), (10, .int (nI (md_cb (4 * f + 1) - k) - 1))]) hx hb dX2_look_103 hl (by decide) rfl (fun ls hl => ?_)
        obtain ⟨x_19, ex_19⟩ : ∃ y : Int32, y = (nI (md_cb (4 * f + 1) - k) - 1) + (-1) := ⟨_, rfl⟩
        refine lv_iinc (v := x_19) (lv' := [(10, .int x_19), (9, .int (((2 : Int32) * (md_v mem a ((md_T ga gb n x y) * md_tb f + md_cs (4 * f + 1)) (md_cb (4 * f + 1)) k)) + (md_bit mem a (((md_T ga gb n x y) * md_tb f + md_cs (4 * f + 1)) + (md_cb (4 * f + 1) - 1 - k))))), (0, .ref o), (1, .int (nI j)), (2, .int (nI n)), (3, .int (nI x)), (4, .int (nI y)), (5, .int (nI (md_tb f))), (6, .long (lN ((md_T ga gb n x y) * md_tb f))), (8, .int 1)]) hx hb dX2_look_105 hl (k := 9) rfl (by rw [ex_19]; rfl) (by decide) rfl (fun ls hl => ?_)
        refine lv_goto (tgt := 65) hx hb dX2_look_108 (by decide) ?_
        have ex_19 : x_19 = nI (md_cb (4 * f + 1) - (k + 1)) - 1 := ex_19.trans (md_kd hk)
        subst ex_19
        exact ih _ (lv_sub hl [2, 3, 4, 5, 6, 7, 8, 9, 1, 0] rfl)
    · refine lv_if_ne (tgt := 150) hx hb dX2_look_132 (by decide) (fun c_11 => ?_) (fun c_11 => ?_)
      · refine lv_ldc (v := 131072) hx hb hown (hts _ (tw_c tw_433)) dX2_look_150 ?_
        refine lv_iload hx hb dX2_look_152 (lv_at hl 9 rfl) ?_
        refine lv_imul hx hb dX2_look_154 ?_
        refine lv_iload hx hb dX2_look_155 (lv_at hl 0 rfl) ?_
        refine lv_iadd hx hb dX2_look_157 ?_
        refine lv_iconst (v := 2) hx hb dX2_look_158 (by decide) ?_
        refine lv_iload hx hb dX2_look_159 (lv_at hl 0 rfl) ?_
        refine lv_imul hx hb dX2_look_161 ?_
        refine lv_idiv hx hb dX2_look_162 (md_most2 (md_cb_le _) c_11) ?_
        exact key _ (by unfold md_ch md_fv md_most; rw [if_neg c_11] <;> rfl)
      · refine lv_iload hx hb dX2_look_135 (lv_at hl 8 rfl) ?_
        refine lv_iconst (v := 3) hx hb dX2_look_137 (by decide) ?_
        refine lv_icmp_ne (tgt := 146) hx hb dX2_look_138 (by decide) (fun c_12 => ?_) (fun c_12 => absurd c_12 (by decide))
        refine lv_iconst (v := 0) hx hb dX2_look_146 (by decide) ?_
        refine lv_goto (tgt := 163) hx hb dX2_look_147 (by decide) ?_
        exact key _ (by unfold md_ch md_fv md_most; rw [if_pos c_11] <;> rfl)
  · intro k ls hk hl ih
    refine lv_iload hx hb dX2_look_65 (lv_at hl 9 rfl) ?_
    refine lv_if_lt (tgt := 111) hx hb dX2_look_67 (by decide) (fun c_9 => absurd c_9 (md_knn (md_cb_le _) hk)) (fun c_9 => ?_)
    refine lv_iconst (v := 2) hx hb dX2_look_70 (by decide) ?_
    refine lv_iload hx hb dX2_look_71 (lv_at hl 8 rfl) ?_
    refine lv_imul hx hb dX2_look_73 ?_
    refine lv_aload_n hx hb dX2_look_74 rfl (lv_at hl 0 rfl) ?_
    refine lv_aload_n hx hb dX2_look_75 rfl (lv_at hl 0 rfl) ?_
    refine va_get (D := (dC, dI)) (ci := 2) (v := .ref a2) (C := "TextureUnitsModel") (T := TX2) (N := 11) hx hb hts (tw_s inX2) hown hK hP 0 rfl rfl 2 (by decide) (hts _ (tw_c tw_335)) (fun _ h9 => h9) rfl dX2_look_76 ?_
    refine lv_bipush (v := 8) hx hb dX2_look_79 (by decide) ?_
    refine lv_iload_n hx hb dX2_look_81 rfl (lv_at hl 1 rfl) ?_
    refine lv_imul hx hb dX2_look_82 ?_
    refine lv_topi (fun x_10 ex_10 => ?_)
    have ex_10 : x_10 = nI (8 * j) := ex_10.trans (pk_mul 8 j)
    subst ex_10
    refine va_iald hx hb hK hP 2 0 rfl rfl (vp_in_nI (by omega) (by decide)) dX2_look_83 ?_
    refine lv_topi (fun x_11 ex_11 => ?_)
    have ex_11 : x_11 = (un (8 * j)) := ex_11.trans (congrArg un (nI_clamp (by omega)))
    subst ex_11
    refine lv_topi (fun y_12 ey_12 => ?_)
    have ey_12 : y_12 = (nI a) := ey_12.trans ea
    subst ey_12
    refine lv_lload hx hb dX2_look_84 (lv_at hl 6 rfl) ?_
    refine lv_aload_n hx hb dX2_look_86 rfl (lv_at hl 0 rfl) ?_
    refine va_get (D := (dC, dI)) (ci := 2) (v := .ref a9) (C := "TextureUnitsModel") (T := TX2) (N := 11) hx hb hts (tw_s inX2) hown hK hP 0 rfl rfl 9 (by decide) (hts _ (tw_c tw_342)) (fun _ h9 => h9) rfl dX2_look_87 ?_
    refine lv_iload hx hb dX2_look_90 (lv_at hl 7 rfl) ?_
    refine va_iald hx hb hK hP 4 0 rfl rfl (tu_in (by decide)) dX2_look_92 ?_
    refine lv_topi (fun x_13 ex_13 => ?_)
    have ex_13 : x_13 = (nI (md_cs (4 * f + 0))) := ((((ex_13).trans (pk_un (by decide))).trans (pk_un (by decide))).trans (pk_un (by decide))).trans pk_us
    subst ex_13
    refine lv_i2l hx hb dX2_look_93 rfl ?_
    refine lv_ladd hx hb dX2_look_94 ?_
    refine lv_iload hx hb dX2_look_95 (lv_at hl 9 rfl) ?_
    refine lv_i2l hx hb dX2_look_97 rfl ?_
    refine lv_ladd hx hb dX2_look_98 ?_
    refine lv_topl (fun y_14 ey_14 => ?_)
    have ey_14 : y_14 = (lN (((md_T ga gb n x y) * md_tb f + md_cs (4 * f + 0)) + (md_cb (4 * f + 0) - 1 - k))) := ey_14.trans (md_addr hT (md_cb_le _) hk)
    subst ey_14
    refine rd_call (W.runV (As := [.int (nI a), .long (lN (((md_T ga gb n x y) * md_tb f + md_cs (4 * f + 0)) + (md_cb (4 * f + 0) - 1 - k)))]) (rest := [.int ((2 : Int32) * (md_v mem a ((md_T ga gb n x y) * md_tb f + md_cs (4 * f + 0)) (md_cb (4 * f + 0)) k))]) ⟨hx, hb, hml, hown, hts⟩ (m_bit l dC dI o th a1 a2 a3 a4 a5 a6 a7 a8 a9 a10 cI mem a (((md_T ga gb n x y) * md_tb f + md_cs (4 * f + 0)) + (md_cb (4 * f + 0) - 1 - k)) ha (md_addr_lt hT (by have := md_cb_le (4 * f + 0); omega))) (cwV 2 hts (tg_V tw_426 tw_428 tw_p16 tw_3 tw_429) rfl rfl rfl (by decide +kernel) ⟨Nat.le_of_ble_eq_true rfl, Nat.le_of_ble_eq_true rfl⟩) ⟨rd_blind, va_recv hK hP (ci := 2) (q0 := 0) rfl rfl, fun U hU hW => ⟨rfl, rd_use (hP.sub [0, 1] rfl) (hK.sub [0] rfl) U hU hW⟩⟩ rfl rfl hl.1 rfl (lv_room (Nat.le_of_ble_eq_true rfl)) dX2_look_99 ⟨Nat.le_of_ble_eq_true rfl, Nat.le_of_ble_eq_true rfl⟩) ?_
    refine lv_iadd hx hb dX2_look_102 ?_
    refine lv_istore (lv' := [(9, .int (((2 : Int32) * (md_v mem a ((md_T ga gb n x y) * md_tb f + md_cs (4 * f + 0)) (md_cb (4 * f + 0)) k)) + (md_bit mem a (((md_T ga gb n x y) * md_tb f + md_cs (4 * f + 0)) + (md_cb (4 * f + 0) - 1 - k))))), (0, .ref o), (1, .int (nI j)), (2, .int (nI n)), (3, .int (nI x)), (4, .int (nI y)), (5, .int (nI (md_tb f))), (6, .long (lN ((md_T ga gb n x y) * md_tb f))), (8, .int 0), (10, .int (nI (md_cb (4 * f + 0) - k) - 1))]) hx hb dX2_look_103 hl (by decide) rfl (fun ls hl => ?_)
    obtain ⟨x_15, ex_15⟩ : ∃ y : Int32, y = (nI (md_cb (4 * f + 0) - k) - 1) + (-1) := ⟨_, rfl⟩
    refine lv_iinc (v := x_15) (lv' := [(10, .int x_15), (9, .int (((2 : Int32) * (md_v mem a ((md_T ga gb n x y) * md_tb f + md_cs (4 * f + 0)) (md_cb (4 * f + 0)) k)) + (md_bit mem a (((md_T ga gb n x y) * md_tb f + md_cs (4 * f + 0)) + (md_cb (4 * f + 0) - 1 - k))))), (0, .ref o), (1, .int (nI j)), (2, .int (nI n)), (3, .int (nI x)), (4, .int (nI y)), (5, .int (nI (md_tb f))), (6, .long (lN ((md_T ga gb n x y) * md_tb f))), (8, .int 0)]) hx hb dX2_look_105 hl (k := 9) rfl (by rw [ex_15]; rfl) (by decide) rfl (fun ls hl => ?_)
    refine lv_goto (tgt := 65) hx hb dX2_look_108 (by decide) ?_
    have ex_15 : x_15 = nI (md_cb (4 * f + 0) - (k + 1)) - 1 := ex_15.trans (md_kd hk)
    subst ex_15
    exact ih _ (lv_sub hl [2, 3, 4, 5, 6, 7, 8, 9, 1, 0] rfl)
