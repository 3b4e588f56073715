theorem tw_332 : (Cond.methodLink "TextureUnitsModel" 1 ⟨"java/lang/Object", "<init>", "()V"⟩) ∈ TW := tw_t2 92 (by decide +kernel) (by decide +kernel)
theorem tw_337 : (Cond.fieldLink "TextureUnitsModel" 19 "TextureUnitsModel" "latest" "[I") ∈ TW := tw_t2 97 (by decide +kernel) (by decide +kernel)
theorem tw_341 : (Cond.fieldLink "TextureUnitsModel" 31 "TextureUnitsModel" "near" "[I") ∈ TW := tw_t2 101 (by decide +kernel) (by decide +kernel)
theorem tw_375 : (Cond.methodLink "TextureUnitsModel" 44 ⟨"TextureUnitsModel", "in", "(III)Z"⟩) ∈ TW := tw_t2 135 (by decide +kernel) (by decide +kernel)
theorem tw_376 : (Cond.static ⟨"TextureUnitsModel", "in", "(III)Z"⟩) ∈ TW := tw_t2 136 (by decide +kernel) (by decide +kernel)
theorem tw_377 : (Cond.code ⟨"TextureUnitsModel", "in", "(III)Z"⟩ prog_4_method_4_code 3 (.some .boolean)) ∈ TW := tw_t2 137 (by decide +kernel) (by decide +kernel)
theorem tw_378 : (Cond.methodLink "TextureUnitsModel" 48 ⟨"TextureUnitsModel", "refuse", "(ZZ)Z"⟩) ∈ TW := tw_t2 138 (by decide +kernel) (by decide +kernel)
theorem tw_380 : (Cond.instanceMethod ⟨"TextureUnitsModel", "refuse", "(ZZ)Z"⟩) ∈ TW := tw_t2 140 (by decide +kernel) (by decide +kernel)
theorem tw_381 : (Cond.code ⟨"TextureUnitsModel", "refuse", "(ZZ)Z"⟩ prog_4_method_3_code 3 (.some .boolean)) ∈ TW := tw_t2 141 (by decide +kernel) (by decide +kernel)
theorem tw_p8 : (Cond.selects "TextureUnitsModel" ⟨"TextureUnitsModel", "refuse", "(ZZ)Z"⟩ ⟨"TextureUnitsModel", "refuse", "(ZZ)Z"⟩) ∈ TW := tw_t0 8 (by decide +kernel) (by decide +kernel)
set_option maxHeartbeats 4000000 in
set_option maxRecDepth 100000 in
theorem m_Model (l : Launch) (dC : Nat → ClassId) (dI : Nat → Nat → Nat) (o : Nat) (cI : ClassId) (sz : Nat) : Met l yX2_init wsX2_init ({ frames := 1, cells := 10, slots := 2124, locals := 12 }) (va_Pc [.ref o] (wr_P (dC, dI) vwCl [(o, .inr (2, [.int 0, .null, .null, .null, .null, .null, .null, .null, .null, .null, .null]))] [(cI, .int)] sz)) (va_Qv (fun _ : Unit => True) (fun (_ : Unit) t9 => ∃ (a1 a2 a3 a4 a5 a6 a7 a8 a9 a10 : Nat), wr_B (dC, dI) vwCl [(o, .inr (2, [.int 0, .ref a1, .ref a2, .ref a3, .ref a4, .ref a5, .ref a6, .ref a7, .ref a8, .ref a9, .ref a10])), (a1, .inl (cI, 2048, .inl (fun _ => 0))), (a2, .inl (cI, 32, .inl (upd (upd (upd (upd (fun _ => 0) 3 1) 11 1) 19 1) 27 1))), (a3, .inl (cI, 16, .inl (fun _ => 0))), (a4, .inl (cI, 4, .inl (fun _ => 0))), (a5, .inl (cI, 4, .inl (fun _ => 0))), (a6, .inl (cI, 4, .inl (fun _ => 0))), (a7, .inl (cI, 4, .inl (fun _ => 0))), (a8, .inl (cI, 4, .inl (fun _ => 0))), (a9, .inl (cI, 4, .inl (fun _ => 0))), (a10, .inl (cI, 4, .inl (fun _ => 0)))] [(cI, .int)] (va_A [(o, .inr (2, [.int 0, .null, .null, .null, .null, .null, .null, .null, .null, .null, .null]))] sz) () t9) (va_A [(o, .inr (2, [.int 0, .null, .null, .null, .null, .null, .null, .null, .null, .null, .null]))] sz)) 10 2124 (va_A [(o, .inr (2, [.int 0, .null, .null, .null, .null, .null, .null, .null, .null, .null, .null]))] sz) := by
  refine Met.ofW (cc := cX2_init) (maxL := 2) (ret := none) (by decide) rfl ?_
  intro p e s m args below meth c s₁ B hml hv
  obtain ⟨rfl, hsz, hP, hK, hD0⟩ := hv
  have hx := B.exec
  have hb := B.bytes
  have hr := B.returns
  have hts := atoms_spec (ws := wsX2_init) B.pre
  have hown : s.vm.findClass "TextureUnitsModel" = some m.cls := findClass_of_methodNamed B.named
  have hlocks := B.notSynchronized
  have hin : meth.name = "<init>" := (name_of_methodNamed B.named B.method).1
  subst hsz
  have hD := hD0.self (sz := s.heap.size)
  generalize hAe : va_A [(o, .inr (2, [.int 0, .null, .null, .null, .null, .null, .null, .null, .null, .null, .null]))] s.heap.size = A at hD ⊢
  have hA : ∀ q : Nat, s.heap.size ≤ q → A q := fun q h => by rw [← hAe]; exact Or.inr h
  have hS : va_S A s.heap s.heap [] := va_S.rf
  have hP : va_P (dC, dI) vwCl [(o, .inr (2, [.int 0, .null, .null, .null, .null, .null, .null, .null, .null, .null, .null]))] s.heap := hP
  have hl := lv_entry ([.ref o]) (n := 2) (Nat.le_of_ble_eq_true rfl)
  rw [lg_entry_eq]
  generalize (lg_sl ([.ref o]) ++ List.replicate (2 - (lg_sl ([.ref o])).length) Slot.unset).toArray = ls at hl ⊢
  have hl : lv_has ls 2 [(0, .ref o)] := hl
  refine lv_aload_n hx hb dX2_init_0 rfl (lv_at hl 0 rfl) ?_
  refine W.objInit hx hb hown (hts _ (tw_c tw_332)) (hts _ (tw_c tw_17)) (hts _ (tw_c tw_18)) rfl (by rw [hml]; exact hl.1) rfl dX2_init_1 (Nat.le_of_ble_eq_true rfl) (Nat.le_of_ble_eq_true rfl) ?_
  refine W.eq (g2 := F0 m 4 ls []) rfl ?_
  refine lv_aload_n hx hb dX2_init_4 rfl (lv_at hl 0 rfl) ?_
  refine lv_sipush (v := 2048) hx hb dX2_init_5 (by decide) ?_
  refine va_newa (atype := .int) (ty := .int) (a0 := (2048, .inl (fun _ => 0))) (N' := 2048) hx hb (hts _ (tw_c tw_72)) rfl hK hP hD hS hA (fun _ => rfl) (by decide) (by decide) (by decide) (Nat.le_of_ble_eq_true rfl) (Nat.le_of_ble_eq_true rfl) dX2_init_8 (fun q_1 cA_2 H hK hP hD hS => ?_)
  have e9 : cI = cA_2 := tu_cA hK 0 1 rfl rfl
  subst e9
  have hK := hK.sub (tys' := [(cI, .int)]) [0] rfl
  refine W.widen (k := 1) (n := 2048) (Nat.le_of_ble_eq_true rfl) (Nat.le_of_ble_eq_true rfl) ?_
  have hP : va_P (dC, dI) vwCl [(o, .inr (2, [.int 0, .null, .null, .null, .null, .null, .null, .null, .null, .null, .null])), (q_1, .inl (cI, 2048, .inl (fun _ => 0)))] H := hP
  have hD : va_D A [(o, .inr (2, [.int 0, .null, .null, .null, .null, .null, .null, .null, .null, .null, .null])), (q_1, .inl (cI, 2048, .inl (fun _ => 0)))] := hD
  refine va_putF (D := (dC, dI)) (ci := 2) (v := .ref q_1) (ty := (.array .int)) (C := "TextureUnitsModel") (T := TX2) (N := 11) hx hb hts (tw_s inX2) tyX2 tyX2_ok nmX2 hown hK hP hD hS 0 rfl rfl 1 (by decide) (hts _ (tw_c tw_334)) (fun _ h9 => h9) rfl hin rfl (by decide +kernel) rfl rfl (Nat.le_of_ble_eq_true rfl) dX2_init_10 (fun H locs hP hD hS => ?_)
  have hP : va_P (dC, dI) vwCl [(o, .inr (2, [.int 0, .ref q_1, .null, .null, .null, .null, .null, .null, .null, .null, .null])), (q_1, .inl (cI, 2048, .inl (fun _ => 0)))] H := hP
  have hD : va_D A [(o, .inr (2, [.int 0, .ref q_1, .null, .null, .null, .null, .null, .null, .null, .null, .null])), (q_1, .inl (cI, 2048, .inl (fun _ => 0)))] := hD
  refine lv_aload_n hx hb dX2_init_13 rfl (lv_at hl 0 rfl) ?_
  refine lv_bipush (v := 32) hx hb dX2_init_14 (by decide) ?_
  refine va_newa (atype := .int) (ty := .int) (a0 := (32, .inl (fun _ => 0))) (N' := 32) hx hb (hts _ (tw_c tw_72)) rfl hK hP hD hS hA (fun _ => rfl) (by decide) (by decide) (by decide) (Nat.le_of_ble_eq_true rfl) (Nat.le_of_ble_eq_true rfl) dX2_init_16 (fun q_3 cA_4 H hK hP hD hS => ?_)
  have e9 : cI = cA_4 := tu_cA hK 0 1 rfl rfl
  subst e9
  have hK := hK.sub (tys' := [(cI, .int)]) [0] rfl
  refine W.widen (k := 2) (n := 2080) (Nat.le_of_ble_eq_true rfl) (Nat.le_of_ble_eq_true rfl) ?_
  have hP : va_P (dC, dI) vwCl [(o, .inr (2, [.int 0, .ref q_1, .null, .null, .null, .null, .null, .null, .null, .null, .null])), (q_1, .inl (cI, 2048, .inl (fun _ => 0))), (q_3, .inl (cI, 32, .inl (fun _ => 0)))] H := hP
  have hD : va_D A [(o, .inr (2, [.int 0, .ref q_1, .null, .null, .null, .null, .null, .null, .null, .null, .null])), (q_1, .inl (cI, 2048, .inl (fun _ => 0))), (q_3, .inl (cI, 32, .inl (fun _ => 0)))] := hD
  refine va_putF (D := (dC, dI)) (ci := 2) (v := .ref q_3) (ty := (.array .int)) (C := "TextureUnitsModel") (T := TX2) (N := 11) hx hb hts (tw_s inX2) tyX2 tyX2_ok nmX2 hown hK hP hD hS 0 rfl rfl 2 (by decide) (hts _ (tw_c tw_335)) (fun _ h9 => h9) rfl hin rfl (by decide +kernel) rfl rfl (Nat.le_of_ble_eq_true rfl) dX2_init_18 (fun H locs hP hD hS => ?_)
  have hP : va_P (dC, dI) vwCl [(o, .inr (2, [.int 0, .ref q_1, .ref q_3, .null, .null, .null, .null, .null, .null, .null, .null])), (q_1, .inl (cI, 2048, .inl (fun _ => 0))), (q_3, .inl (cI, 32, .inl (fun _ => 0)))] H := hP
  have hD : va_D A [(o, .inr (2, [.int 0, .ref q_1, .ref q_3, .null, .null, .null, .null, .null, .null, .null, .null])), (q_1, .inl (cI, 2048, .inl (fun _ => 0))), (q_3, .inl (cI, 32, .inl (fun _ => 0)))] := hD
  refine lv_aload_n hx hb dX2_init_21 rfl (lv_at hl 0 rfl) ?_
  refine lv_bipush (v := 16) hx hb dX2_init_22 (by decide) ?_
  refine va_newa (atype := .int) (ty := .int) (a0 := (16, .inl (fun _ => 0))) (N' := 16) hx hb (hts _ (tw_c tw_72)) rfl hK hP hD hS hA (fun _ => rfl) (by decide) (by decide) (by decide) (Nat.le_of_ble_eq_true rfl) (Nat.le_of_ble_eq_true rfl) dX2_init_24 (fun q_5 cA_6 H hK hP hD hS => ?_)
  have e9 : cI = cA_6 := tu_cA hK 0 1 rfl rfl
  subst e9
  have hK := hK.sub (tys' := [(cI, .int)]) [0] rfl
  refine W.widen (k := 3) (n := 2096) (Nat.le_of_ble_eq_true rfl) (Nat.le_of_ble_eq_true rfl) ?_
  have hP : va_P (dC, dI) vwCl [(o, .inr (2, [.int 0, .ref q_1, .ref q_3, .null, .null, .null, .null, .null, .null, .null, .null])), (q_1, .inl (cI, 2048, .inl (fun _ => 0))), (q_3, .inl (cI, 32, .inl (fun _ => 0))), (q_5, .inl (cI, 16, .inl (fun _ => 0)))] H := hP
  have hD : va_D A [(o, .inr (2, [.int 0, .ref q_1, .ref q_3, .null, .null, .null, .null, .null, .null, .null, .null])), (q_1, .inl (cI, 2048, .inl (fun _ => 0))), (q_3, .inl (cI, 32, .inl (fun _ => 0))), (q_5, .inl (cI, 16, .inl (fun _ => 0)))] := hD
  refine va_putF (D := (dC, dI)) (ci := 2) (v := .ref q_5) (ty := (.array .int)) (C := "TextureUnitsModel") (T := TX2) (N := 11) hx hb hts (tw_s inX2) tyX2 tyX2_ok nmX2 hown hK hP hD hS 0 rfl rfl 3 (by decide) (hts _ (tw_c tw_336)) (fun _ h9 => h9) rfl hin rfl (by decide +kernel) rfl rfl (Nat.le_of_ble_eq_true rfl) dX2_init_26 (fun H locs hP hD hS => ?_)
  have hP : va_P (dC, dI) vwCl [(o, .inr (2, [.int 0, .ref q_1, .ref q_3, .ref q_5, .null, .null, .null, .null, .null, .null, .null])), (q_1, .inl (cI, 2048, .inl (fun _ => 0))), (q_3, .inl (cI, 32, .inl (fun _ => 0))), (q_5, .inl (cI, 16, .inl (fun _ => 0)))] H := hP
  have hD : va_D A [(o, .inr (2, [.int 0, .ref q_1, .ref q_3, .ref q_5, .null, .null, .null, .null, .null, .null, .null])), (q_1, .inl (cI, 2048, .inl (fun _ => 0))), (q_3, .inl (cI, 32, .inl (fun _ => 0))), (q_5, .inl (cI, 16, .inl (fun _ => 0)))] := hD
  refine lv_aload_n hx hb dX2_init_29 rfl (lv_at hl 0 rfl) ?_
  refine lv_iconst (v := 4) hx hb dX2_init_30 (by decide) ?_
  refine va_newa (atype := .int) (ty := .int) (a0 := (4, .inl (fun _ => 0))) (N' := 4) hx hb (hts _ (tw_c tw_72)) rfl hK hP hD hS hA (fun _ => rfl) (by decide) (by decide) (by decide) (Nat.le_of_ble_eq_true rfl) (Nat.le_of_ble_eq_true rfl) dX2_init_31 (fun q_7 cA_8 H hK hP hD hS => ?_)
  have e9 : cI = cA_8 := tu_cA hK 0 1 rfl rfl
  subst e9
  have hK := hK.sub (tys' := [(cI, .int)]) [0] rfl
  refine W.widen (k := 4) (n := 2100) (Nat.le_of_ble_eq_true rfl) (Nat.le_of_ble_eq_true rfl) ?_
  have hP : va_P (dC, dI) vwCl [(o, .inr (2, [.int 0, .ref q_1, .ref q_3, .ref q_5, .null, .null, .null, .null, .null, .null, .null])), (q_1, .inl (cI, 2048, .inl (fun _ => 0))), (q_3, .inl (cI, 32, .inl (fun _ => 0))), (q_5, .inl (cI, 16, .inl (fun _ => 0))), (q_7, .inl (cI, 4, .inl (fun _ => 0)))] H := hP
  have hD : va_D A [(o, .inr (2, [.int 0, .ref q_1, .ref q_3, .ref q_5, .null, .null, .null, .null, .null, .null, .null])), (q_1, .inl (cI, 2048, .inl (fun _ => 0))), (q_3, .inl (cI, 32, .inl (fun _ => 0))), (q_5, .inl (cI, 16, .inl (fun _ => 0))), (q_7, .inl (cI, 4, .inl (fun _ => 0)))] := hD
  refine va_putF (D := (dC, dI)) (ci := 2) (v := .ref q_7) (ty := (.array .int)) (C := "TextureUnitsModel") (T := TX2) (N := 11) hx hb hts (tw_s inX2) tyX2 tyX2_ok nmX2 hown hK hP hD hS 0 rfl rfl 4 (by decide) (hts _ (tw_c tw_337)) (fun _ h9 => h9) rfl hin rfl (by decide +kernel) rfl rfl (Nat.le_of_ble_eq_true rfl) dX2_init_33 (fun H locs hP hD hS => ?_)
  have hP : va_P (dC, dI) vwCl [(o, .inr (2, [.int 0, .ref q_1, .ref q_3, .ref q_5, .ref q_7, .null, .null, .null, .null, .null, .null])), (q_1, .inl (cI, 2048, .inl (fun _ => 0))), (q_3, .inl (cI, 32, .inl (fun _ => 0))), (q_5, .inl (cI, 16, .inl (fun _ => 0))), (q_7, .inl (cI, 4, .inl (fun _ => 0)))] H := hP
  have hD : va_D A [(o, .inr (2, [.int 0, .ref q_1, .ref q_3, .ref q_5, .ref q_7, .null, .null, .null, .null, .null, .null])), (q_1, .inl (cI, 2048, .inl (fun _ => 0))), (q_3, .inl (cI, 32, .inl (fun _ => 0))), (q_5, .inl (cI, 16, .inl (fun _ => 0))), (q_7, .inl (cI, 4, .inl (fun _ => 0)))] := hD
  refine lv_aload_n hx hb dX2_init_36 rfl (lv_at hl 0 rfl) ?_
  refine lv_iconst (v := 4) hx hb dX2_init_37 (by decide) ?_
  refine va_newa (atype := .int) (ty := .int) (a0 := (4, .inl (fun _ => 0))) (N' := 4) hx hb (hts _ (tw_c tw_72)) rfl hK hP hD hS hA (fun _ => rfl) (by decide) (by decide) (by decide) (Nat.le_of_ble_eq_true rfl) (Nat.le_of_ble_eq_true rfl) dX2_init_38 (fun q_9 cA_10 H hK hP hD hS => ?_)
  have e9 : cI = cA_10 := tu_cA hK 0 1 rfl rfl
  subst e9
  have hK := hK.sub (tys' := [(cI, .int)]) [0] rfl
  refine W.widen (k := 5) (n := 2104) (Nat.le_of_ble_eq_true rfl) (Nat.le_of_ble_eq_true rfl) ?_
  have hP : va_P (dC, dI) vwCl [(o, .inr (2, [.int 0, .ref q_1, .ref q_3, .ref q_5, .ref q_7, .null, .null, .null, .null, .null, .null])), (q_1, .inl (cI, 2048, .inl (fun _ => 0))), (q_3, .inl (cI, 32, .inl (fun _ => 0))), (q_5, .inl (cI, 16, .inl (fun _ => 0))), (q_7, .inl (cI, 4, .inl (fun _ => 0))), (q_9, .inl (cI, 4, .inl (fun _ => 0)))] H := hP
  have hD : va_D A [(o, .inr (2, [.int 0, .ref q_1, .ref q_3, .ref q_5, .ref q_7, .null, .null, .null, .null, .null, .null])), (q_1, .inl (cI, 2048, .inl (fun _ => 0))), (q_3, .inl (cI, 32, .inl (fun _ => 0))), (q_5, .inl (cI, 16, .inl (fun _ => 0))), (q_7, .inl (cI, 4, .inl (fun _ => 0))), (q_9, .inl (cI, 4, .inl (fun _ => 0)))] := hD
  refine va_putF (D := (dC, dI)) (ci := 2) (v := .ref q_9) (ty := (.array .int)) (C := "TextureUnitsModel") (T := TX2) (N := 11) hx hb hts (tw_s inX2) tyX2 tyX2_ok nmX2 hown hK hP hD hS 0 rfl rfl 5 (by decide) (hts _ (tw_c tw_338)) (fun _ h9 => h9) rfl hin rfl (by decide +kernel) rfl rfl (Nat.le_of_ble_eq_true rfl) dX2_init_40 (fun H locs hP hD hS => ?_)
  have hP : va_P (dC, dI) vwCl [(o, .inr (2, [.int 0, .ref q_1, .ref q_3, .ref q_5, .ref q_7, .ref q_9, .null, .null, .null, .null, .null])), (q_1, .inl (cI, 2048, .inl (fun _ => 0))), (q_3, .inl (cI, 32, .inl (fun _ => 0))), (q_5, .inl (cI, 16, .inl (fun _ => 0))), (q_7, .inl (cI, 4, .inl (fun _ => 0))), (q_9, .inl (cI, 4, .inl (fun _ => 0)))] H := hP
  have hD : va_D A [(o, .inr (2, [.int 0, .ref q_1, .ref q_3, .ref q_5, .ref q_7, .ref q_9, .null, .null, .null, .null, .null])), (q_1, .inl (cI, 2048, .inl (fun _ => 0))), (q_3, .inl (cI, 32, .inl (fun _ => 0))), (q_5, .inl (cI, 16, .inl (fun _ => 0))), (q_7, .inl (cI, 4, .inl (fun _ => 0))), (q_9, .inl (cI, 4, .inl (fun _ => 0)))] := hD
  refine lv_aload_n hx hb dX2_init_43 rfl (lv_at hl 0 rfl) ?_
  refine lv_iconst (v := 4) hx hb dX2_init_44 (by decide) ?_
  refine va_newa (atype := .int) (ty := .int) (a0 := (4, .inl (fun _ => 0))) (N' := 4) hx hb (hts _ (tw_c tw_72)) rfl hK hP hD hS hA (fun _ => rfl) (by decide) (by decide) (by decide) (Nat.le_of_ble_eq_true rfl) (Nat.le_of_ble_eq_true rfl) dX2_init_45 (fun q_11 cA_12 H hK hP hD hS => ?_)
  have e9 : cI = cA_12 := tu_cA hK 0 1 rfl rfl
  subst e9
  have hK := hK.sub (tys' := [(cI, .int)]) [0] rfl
  refine W.widen (k := 6) (n := 2108) (Nat.le_of_ble_eq_true rfl) (Nat.le_of_ble_eq_true rfl) ?_
  have hP : va_P (dC, dI) vwCl [(o, .inr (2, [.int 0, .ref q_1, .ref q_3, .ref q_5, .ref q_7, .ref q_9, .null, .null, .null, .null, .null])), (q_1, .inl (cI, 2048, .inl (fun _ => 0))), (q_3, .inl (cI, 32, .inl (fun _ => 0))), (q_5, .inl (cI, 16, .inl (fun _ => 0))), (q_7, .inl (cI, 4, .inl (fun _ => 0))), (q_9, .inl (cI, 4, .inl (fun _ => 0))), (q_11, .inl (cI, 4, .inl (fun _ => 0)))] H := hP
  have hD : va_D A [(o, .inr (2, [.int 0, .ref q_1, .ref q_3, .ref q_5, .ref q_7, .ref q_9, .null, .null, .null, .null, .null])), (q_1, .inl (cI, 2048, .inl (fun _ => 0))), (q_3, .inl (cI, 32, .inl (fun _ => 0))), (q_5, .inl (cI, 16, .inl (fun _ => 0))), (q_7, .inl (cI, 4, .inl (fun _ => 0))), (q_9, .inl (cI, 4, .inl (fun _ => 0))), (q_11, .inl (cI, 4, .inl (fun _ => 0)))] := hD
  refine va_putF (D := (dC, dI)) (ci := 2) (v := .ref q_11) (ty := (.array .int)) (C := "TextureUnitsModel") (T := TX2) (N := 11) hx hb hts (tw_s inX2) tyX2 tyX2_ok nmX2 hown hK hP hD hS 0 rfl rfl 6 (by decide) (hts _ (tw_c tw_339)) (fun _ h9 => h9) rfl hin rfl (by decide +kernel) rfl rfl (Nat.le_of_ble_eq_true rfl) dX2_init_47 (fun H locs hP hD hS => ?_)
  have hP : va_P (dC, dI) vwCl [(o, .inr (2, [.int 0, .ref q_1, .ref q_3, .ref q_5, .ref q_7, .ref q_9, .ref q_11, .null, .null, .null, .null])), (q_1, .inl (cI, 2048, .inl (fun _ => 0))), (q_3, .inl (cI, 32, .inl (fun _ => 0))), (q_5, .inl (cI, 16, .inl (fun _ => 0))), (q_7, .inl (cI, 4, .inl (fun _ => 0))), (q_9, .inl (cI, 4, .inl (fun _ => 0))), (q_11, .inl (cI, 4, .inl (fun _ => 0)))] H := hP
  have hD : va_D A [(o, .inr (2, [.int 0, .ref q_1, .ref q_3, .ref q_5, .ref q_7, .ref q_9, .ref q_11, .null, .null, .null, .null])), (q_1, .inl (cI, 2048, .inl (fun _ => 0))), (q_3, .inl (cI, 32, .inl (fun _ => 0))), (q_5, .inl (cI, 16, .inl (fun _ => 0))), (q_7, .inl (cI, 4, .inl (fun _ => 0))), (q_9, .inl (cI, 4, .inl (fun _ => 0))), (q_11, .inl (cI, 4, .inl (fun _ => 0)))] := hD
  refine lv_aload_n hx hb dX2_init_50 rfl (lv_at hl 0 rfl) ?_
  refine lv_iconst (v := 4) hx hb dX2_init_51 (by decide) ?_
  refine va_newa (atype := .int) (ty := .int) (a0 := (4, .inl (fun _ => 0))) (N' := 4) hx hb (hts _ (tw_c tw_72)) rfl hK hP hD hS hA (fun _ => rfl) (by decide) (by decide) (by decide) (Nat.le_of_ble_eq_true rfl) (Nat.le_of_ble_eq_true rfl) dX2_init_52 (fun q_13 cA_14 H hK hP hD hS => ?_)
  have e9 : cI = cA_14 := tu_cA hK 0 1 rfl rfl
  subst e9
  have hK := hK.sub (tys' := [(cI, .int)]) [0] rfl
  refine W.widen (k := 7) (n := 2112) (Nat.le_of_ble_eq_true rfl) (Nat.le_of_ble_eq_true rfl) ?_
  have hP : va_P (dC, dI) vwCl [(o, .inr (2, [.int 0, .ref q_1, .ref q_3, .ref q_5, .ref q_7, .ref q_9, .ref q_11, .null, .null, .null, .null])), (q_1, .inl (cI, 2048, .inl (fun _ => 0))), (q_3, .inl (cI, 32, .inl (fun _ => 0))), (q_5, .inl (cI, 16, .inl (fun _ => 0))), (q_7, .inl (cI, 4, .inl (fun _ => 0))), (q_9, .inl (cI, 4, .inl (fun _ => 0))), (q_11, .inl (cI, 4, .inl (fun _ => 0))), (q_13, .inl (cI, 4, .inl (fun _ => 0)))] H := hP
  have hD : va_D A [(o, .inr (2, [.int 0, .ref q_1, .ref q_3, .ref q_5, .ref q_7, .ref q_9, .ref q_11, .null, .null, .null, .null])), (q_1, .inl (cI, 2048, .inl (fun _ => 0))), (q_3, .inl (cI, 32, .inl (fun _ => 0))), (q_5, .inl (cI, 16, .inl (fun _ => 0))), (q_7, .inl (cI, 4, .inl (fun _ => 0))), (q_9, .inl (cI, 4, .inl (fun _ => 0))), (q_11, .inl (cI, 4, .inl (fun _ => 0))), (q_13, .inl (cI, 4, .inl (fun _ => 0)))] := hD
  refine va_putF (D := (dC, dI)) (ci := 2) (v := .ref q_13) (ty := (.array .int)) (C := "TextureUnitsModel") (T := TX2) (N := 11) hx hb hts (tw_s inX2) tyX2 tyX2_ok nmX2 hown hK hP hD hS 0 rfl rfl 7 (by decide) (hts _ (tw_c tw_340)) (fun _ h9 => h9) rfl hin rfl (by decide +kernel) rfl rfl (Nat.le_of_ble_eq_true rfl) dX2_init_54 (fun H locs hP hD hS => ?_)
  have hP : va_P (dC, dI) vwCl [(o, .inr (2, [.int 0, .ref q_1, .ref q_3, .ref q_5, .ref q_7, .ref q_9, .ref q_11, .ref q_13, .null, .null, .null])), (q_1, .inl (cI, 2048, .inl (fun _ => 0))), (q_3, .inl (cI, 32, .inl (fun _ => 0))), (q_5, .inl (cI, 16, .inl (fun _ => 0))), (q_7, .inl (cI, 4, .inl (fun _ => 0))), (q_9, .inl (cI, 4, .inl (fun _ => 0))), (q_11, .inl (cI, 4, .inl (fun _ => 0))), (q_13, .inl (cI, 4, .inl (fun _ => 0)))] H := hP
  have hD : va_D A [(o, .inr (2, [.int 0, .ref q_1, .ref q_3, .ref q_5, .ref q_7, .ref q_9, .ref q_11, .ref q_13, .null, .null, .null])), (q_1, .inl (cI, 2048, .inl (fun _ => 0))), (q_3, .inl (cI, 32, .inl (fun _ => 0))), (q_5, .inl (cI, 16, .inl (fun _ => 0))), (q_7, .inl (cI, 4, .inl (fun _ => 0))), (q_9, .inl (cI, 4, .inl (fun _ => 0))), (q_11, .inl (cI, 4, .inl (fun _ => 0))), (q_13, .inl (cI, 4, .inl (fun _ => 0)))] := hD
  refine lv_aload_n hx hb dX2_init_57 rfl (lv_at hl 0 rfl) ?_
  refine lv_iconst (v := 4) hx hb dX2_init_58 (by decide) ?_
  refine va_newa (atype := .int) (ty := .int) (a0 := (4, .inl (fun _ => 0))) (N' := 4) hx hb (hts _ (tw_c tw_72)) rfl hK hP hD hS hA (fun _ => rfl) (by decide) (by decide) (by decide) (Nat.le_of_ble_eq_true rfl) (Nat.le_of_ble_eq_true rfl) dX2_init_59 (fun q_15 cA_16 H hK hP hD hS => ?_)
  have e9 : cI = cA_16 := tu_cA hK 0 1 rfl rfl
  subst e9
  have hK := hK.sub (tys' := [(cI, .int)]) [0] rfl
  refine W.widen (k := 8) (n := 2116) (Nat.le_of_ble_eq_true rfl) (Nat.le_of_ble_eq_true rfl) ?_
  have hP : va_P (dC, dI) vwCl [(o, .inr (2, [.int 0, .ref q_1, .ref q_3, .ref q_5, .ref q_7, .ref q_9, .ref q_11, .ref q_13, .null, .null, .null])), (q_1, .inl (cI, 2048, .inl (fun _ => 0))), (q_3, .inl (cI, 32, .inl (fun _ => 0))), (q_5, .inl (cI, 16, .inl (fun _ => 0))), (q_7, .inl (cI, 4, .inl (fun _ => 0))), (q_9, .inl (cI, 4, .inl (fun _ => 0))), (q_11, .inl (cI, 4, .inl (fun _ => 0))), (q_13, .inl (cI, 4, .inl (fun _ => 0))), (q_15, .inl (cI, 4, .inl (fun _ => 0)))] H := hP
  have hD : va_D A [(o, .inr (2, [.int 0, .ref q_1, .ref q_3, .ref q_5, .ref q_7, .ref q_9, .ref q_11, .ref q_13, .null, .null, .null])), (q_1, .inl (cI, 2048, .inl (fun _ => 0))), (q_3, .inl (cI, 32, .inl (fun _ => 0))), (q_5, .inl (cI, 16, .inl (fun _ => 0))), (q_7, .inl (cI, 4, .inl (fun _ => 0))), (q_9, .inl (cI, 4, .inl (fun _ => 0))), (q_11, .inl (cI, 4, .inl (fun _ => 0))), (q_13, .inl (cI, 4, .inl (fun _ => 0))), (q_15, .inl (cI, 4, .inl (fun _ => 0)))] := hD
  refine va_putF (D := (dC, dI)) (ci := 2) (v := .ref q_15) (ty := (.array .int)) (C := "TextureUnitsModel") (T := TX2) (N := 11) hx hb hts (tw_s inX2) tyX2 tyX2_ok nmX2 hown hK hP hD hS 0 rfl rfl 8 (by decide) (hts _ (tw_c tw_341)) (fun _ h9 => h9) rfl hin rfl (by decide +kernel) rfl rfl (Nat.le_of_ble_eq_true rfl) dX2_init_61 (fun H locs hP hD hS => ?_)
  have hP : va_P (dC, dI) vwCl [(o, .inr (2, [.int 0, .ref q_1, .ref q_3, .ref q_5, .ref q_7, .ref q_9, .ref q_11, .ref q_13, .ref q_15, .null, .null])), (q_1, .inl (cI, 2048, .inl (fun _ => 0))), (q_3, .inl (cI, 32, .inl (fun _ => 0))), (q_5, .inl (cI, 16, .inl (fun _ => 0))), (q_7, .inl (cI, 4, .inl (fun _ => 0))), (q_9, .inl (cI, 4, .inl (fun _ => 0))), (q_11, .inl (cI, 4, .inl (fun _ => 0))), (q_13, .inl (cI, 4, .inl (fun _ => 0))), (q_15, .inl (cI, 4, .inl (fun _ => 0)))] H := hP
  have hD : va_D A [(o, .inr (2, [.int 0, .ref q_1, .ref q_3, .ref q_5, .ref q_7, .ref q_9, .ref q_11, .ref q_13, .ref q_15, .null, .null])), (q_1, .inl (cI, 2048, .inl (fun _ => 0))), (q_3, .inl (cI, 32, .inl (fun _ => 0))), (q_5, .inl (cI, 16, .inl (fun _ => 0))), (q_7, .inl (cI, 4, .inl (fun _ => 0))), (q_9, .inl (cI, 4, .inl (fun _ => 0))), (q_11, .inl (cI, 4, .inl (fun _ => 0))), (q_13, .inl (cI, 4, .inl (fun _ => 0))), (q_15, .inl (cI, 4, .inl (fun _ => 0)))] := hD
  refine lv_aload_n hx hb dX2_init_64 rfl (lv_at hl 0 rfl) ?_
  refine lv_iconst (v := 4) hx hb dX2_init_65 (by decide) ?_
  refine va_newa (atype := .int) (ty := .int) (a0 := (4, .inl (fun _ => 0))) (N' := 4) hx hb (hts _ (tw_c tw_72)) rfl hK hP hD hS hA (fun _ => rfl) (by decide) (by decide) (by decide) (Nat.le_of_ble_eq_true rfl) (Nat.le_of_ble_eq_true rfl) dX2_init_66 (fun q_17 cA_18 H hK hP hD hS => ?_)
  have e9 : cI = cA_18 := tu_cA hK 0 1 rfl rfl
  subst e9
  have hK := hK.sub (tys' := [(cI, .int)]) [0] rfl
  refine W.widen (k := 9) (n := 2120) (Nat.le_of_ble_eq_true rfl) (Nat.le_of_ble_eq_true rfl) ?_
  have hP : va_P (dC, dI) vwCl [(o, .inr (2, [.int 0, .ref q_1, .ref q_3, .ref q_5, .ref q_7, .ref q_9, .ref q_11, .ref q_13, .ref q_15, .null, .null])), (q_1, .inl (cI, 2048, .inl (fun _ => 0))), (q_3, .inl (cI, 32, .inl (fun _ => 0))), (q_5, .inl (cI, 16, .inl (fun _ => 0))), (q_7, .inl (cI, 4, .inl (fun _ => 0))), (q_9, .inl (cI, 4, .inl (fun _ => 0))), (q_11, .inl (cI, 4, .inl (fun _ => 0))), (q_13, .inl (cI, 4, .inl (fun _ => 0))), (q_15, .inl (cI, 4, .inl (fun _ => 0))), (q_17, .inl (cI, 4, .inl (fun _ => 0)))] H := hP
  have hD : va_D A [(o, .inr (2, [.int 0, .ref q_1, .ref q_3, .ref q_5, .ref q_7, .ref q_9, .ref q_11, .ref q_13, .ref q_15, .null, .null])), (q_1, .inl (cI, 2048, .inl (fun _ => 0))), (q_3, .inl (cI, 32, .inl (fun _ => 0))), (q_5, .inl (cI, 16, .inl (fun _ => 0))), (q_7, .inl (cI, 4, .inl (fun _ => 0))), (q_9, .inl (cI, 4, .inl (fun _ => 0))), (q_11, .inl (cI, 4, .inl (fun _ => 0))), (q_13, .inl (cI, 4, .inl (fun _ => 0))), (q_15, .inl (cI, 4, .inl (fun _ => 0))), (q_17, .inl (cI, 4, .inl (fun _ => 0)))] := hD
  refine va_putF (D := (dC, dI)) (ci := 2) (v := .ref q_17) (ty := (.array .int)) (C := "TextureUnitsModel") (T := TX2) (N := 11) hx hb hts (tw_s inX2) tyX2 tyX2_ok nmX2 hown hK hP hD hS 0 rfl rfl 9 (by decide) (hts _ (tw_c tw_342)) (fun _ h9 => h9) rfl hin rfl (by decide +kernel) rfl rfl (Nat.le_of_ble_eq_true rfl) dX2_init_68 (fun H locs hP hD hS => ?_)
  have hP : va_P (dC, dI) vwCl [(o, .inr (2, [.int 0, .ref q_1, .ref q_3, .ref q_5, .ref q_7, .ref q_9, .ref q_11, .ref q_13, .ref q_15, .ref q_17, .null])), (q_1, .inl (cI, 2048, .inl (fun _ => 0))), (q_3, .inl (cI, 32, .inl (fun _ => 0))), (q_5, .inl (cI, 16, .inl (fun _ => 0))), (q_7, .inl (cI, 4, .inl (fun _ => 0))), (q_9, .inl (cI, 4, .inl (fun _ => 0))), (q_11, .inl (cI, 4, .inl (fun _ => 0))), (q_13, .inl (cI, 4, .inl (fun _ => 0))), (q_15, .inl (cI, 4, .inl (fun _ => 0))), (q_17, .inl (cI, 4, .inl (fun _ => 0)))] H := hP
  have hD : va_D A [(o, .inr (2, [.int 0, .ref q_1, .ref q_3, .ref q_5, .ref q_7, .ref q_9, .ref q_11, .ref q_13, .ref q_15, .ref q_17, .null])), (q_1, .inl (cI, 2048, .inl (fun _ => 0))), (q_3, .inl (cI, 32, .inl (fun _ => 0))), (q_5, .inl (cI, 16, .inl (fun _ => 0))), (q_7, .inl (cI, 4, .inl (fun _ => 0))), (q_9, .inl (cI, 4, .inl (fun _ => 0))), (q_11, .inl (cI, 4, .inl (fun _ => 0))), (q_13, .inl (cI, 4, .inl (fun _ => 0))), (q_15, .inl (cI, 4, .inl (fun _ => 0))), (q_17, .inl (cI, 4, .inl (fun _ => 0)))] := hD
  refine lv_aload_n hx hb dX2_init_71 rfl (lv_at hl 0 rfl) ?_
  refine lv_iconst (v := 4) hx hb dX2_init_72 (by decide) ?_
  refine va_newa (atype := .int) (ty := .int) (a0 := (4, .inl (fun _ => 0))) (N' := 4) hx hb (hts _ (tw_c tw_72)) rfl hK hP hD hS hA (fun _ => rfl) (by decide) (by decide) (by decide) (Nat.le_of_ble_eq_true rfl) (Nat.le_of_ble_eq_true rfl) dX2_init_73 (fun q_19 cA_20 H hK hP hD hS => ?_)
  have e9 : cI = cA_20 := tu_cA hK 0 1 rfl rfl
  subst e9
  have hK := hK.sub (tys' := [(cI, .int)]) [0] rfl
  refine W.widen (k := 10) (n := 2124) (Nat.le_of_ble_eq_true rfl) (Nat.le_of_ble_eq_true rfl) ?_
  have hP : va_P (dC, dI) vwCl [(o, .inr (2, [.int 0, .ref q_1, .ref q_3, .ref q_5, .ref q_7, .ref q_9, .ref q_11, .ref q_13, .ref q_15, .ref q_17, .null])), (q_1, .inl (cI, 2048, .inl (fun _ => 0))), (q_3, .inl (cI, 32, .inl (fun _ => 0))), (q_5, .inl (cI, 16, .inl (fun _ => 0))), (q_7, .inl (cI, 4, .inl (fun _ => 0))), (q_9, .inl (cI, 4, .inl (fun _ => 0))), (q_11, .inl (cI, 4, .inl (fun _ => 0))), (q_13, .inl (cI, 4, .inl (fun _ => 0))), (q_15, .inl (cI, 4, .inl (fun _ => 0))), (q_17, .inl (cI, 4, .inl (fun _ => 0))), (q_19, .inl (cI, 4, .inl (fun _ => 0)))] H := hP
  have hD : va_D A [(o, .inr (2, [.int 0, .ref q_1, .ref q_3, .ref q_5, .ref q_7, .ref q_9, .ref q_11, .ref q_13, .ref q_15, .ref q_17, .null])), (q_1, .inl (cI, 2048, .inl (fun _ => 0))), (q_3, .inl (cI, 32, .inl (fun _ => 0))), (q_5, .inl (cI, 16, .inl (fun _ => 0))), (q_7, .inl (cI, 4, .inl (fun _ => 0))), (q_9, .inl (cI, 4, .inl (fun _ => 0))), (q_11, .inl (cI, 4, .inl (fun _ => 0))), (q_13, .inl (cI, 4, .inl (fun _ => 0))), (q_15, .inl (cI, 4, .inl (fun _ => 0))), (q_17, .inl (cI, 4, .inl (fun _ => 0))), (q_19, .inl (cI, 4, .inl (fun _ => 0)))] := hD
  refine va_putF (D := (dC, dI)) (ci := 2) (v := .ref q_19) (ty := (.array .int)) (C := "TextureUnitsModel") (T := TX2) (N := 11) hx hb hts (tw_s inX2) tyX2 tyX2_ok nmX2 hown hK hP hD hS 0 rfl rfl 10 (by decide) (hts _ (tw_c tw_343)) (fun _ h9 => h9) rfl hin rfl (by decide +kernel) rfl rfl (Nat.le_of_ble_eq_true rfl) dX2_init_75 (fun H locs hP hD hS => ?_)
  have hP : va_P (dC, dI) vwCl [(o, .inr (2, [.int 0, .ref q_1, .ref q_3, .ref q_5, .ref q_7, .ref q_9, .ref q_11, .ref q_13, .ref q_15, .ref q_17, .ref q_19])), (q_1, .inl (cI, 2048, .inl (fun _ => 0))), (q_3, .inl (cI, 32, .inl (fun _ => 0))), (q_5, .inl (cI, 16, .inl (fun _ => 0))), (q_7, .inl (cI, 4, .inl (fun _ => 0))), (q_9, .inl (cI, 4, .inl (fun _ => 0))), (q_11, .inl (cI, 4, .inl (fun _ => 0))), (q_13, .inl (cI, 4, .inl (fun _ => 0))), (q_15, .inl (cI, 4, .inl (fun _ => 0))), (q_17, .inl (cI, 4, .inl (fun _ => 0))), (q_19, .inl (cI, 4, .inl (fun _ => 0)))] H := hP
  have hD : va_D A [(o, .inr (2, [.int 0, .ref q_1, .ref q_3, .ref q_5, .ref q_7, .ref q_9, .ref q_11, .ref q_13, .ref q_15, .ref q_17, .ref q_19])), (q_1, .inl (cI, 2048, .inl (fun _ => 0))), (q_3, .inl (cI, 32, .inl (fun _ => 0))), (q_5, .inl (cI, 16, .inl (fun _ => 0))), (q_7, .inl (cI, 4, .inl (fun _ => 0))), (q_9, .inl (cI, 4, .inl (fun _ => 0))), (q_11, .inl (cI, 4, .inl (fun _ => 0))), (q_13, .inl (cI, 4, .inl (fun _ => 0))), (q_15, .inl (cI, 4, .inl (fun _ => 0))), (q_17, .inl (cI, 4, .inl (fun _ => 0))), (q_19, .inl (cI, 4, .inl (fun _ => 0)))] := hD
  refine lv_iconst (v := 0) hx hb dX2_init_78 (by decide) ?_
  refine lv_istore_n (lv' := [(1, .int 0), (0, .ref o)]) hx hb dX2_init_79 rfl hl (by decide) rfl (fun ls hl => ?_)
  refine lv_iload_n hx hb dX2_init_80 rfl (lv_at hl 0 rfl) ?_
  refine lv_iconst (v := 4) hx hb dX2_init_81 (by decide) ?_
  refine lv_icmp_ge (tgt := 103) hx hb dX2_init_82 (by decide) (fun c_21 => absurd c_21 (by decide)) (fun c_21 => ?_)
  refine lv_aload_n hx hb dX2_init_85 rfl (lv_at hl 1 rfl) ?_
  refine va_get (D := (dC, dI)) (ci := 2) (v := .ref q_3) (C := "TextureUnitsModel") (T := TX2) (N := 11) hx hb hts (tw_s inX2) hown hK hP 0 rfl rfl 2 (by decide) (hts _ (tw_c tw_335)) (fun _ h9 => h9) rfl dX2_init_86 ?_
  refine lv_bipush (v := 8) hx hb dX2_init_89 (by decide) ?_
  refine lv_iload_n hx hb dX2_init_91 rfl (lv_at hl 0 rfl) ?_
  refine lv_imul hx hb dX2_init_92 ?_
  refine W.eq (g2 := F0 m 93 ls [.int 0, .ref q_3]) (by first | rfl | (congr 1) | (simp; decide)) ?_
  refine lv_iconst (v := 3) hx hb dX2_init_93 (by decide) ?_
  refine lv_iadd hx hb dX2_init_94 ?_
  refine W.eq (g2 := F0 m 95 ls [.int 3, .ref q_3]) (by first | rfl | (congr 1) | (simp; decide)) ?_
  refine lv_iconst (v := 1) hx hb dX2_init_95 (by decide) ?_
  refine va_iast hx hb hK hP hD hS 2 0 rfl rfl (tu_in (by decide)) dX2_init_96 (fun H locs hP hD hS => ?_)
  have hP : va_P (dC, dI) vwCl [(o, .inr (2, [.int 0, .ref q_1, .ref q_3, .ref q_5, .ref q_7, .ref q_9, .ref q_11, .ref q_13, .ref q_15, .ref q_17, .ref q_19])), (q_1, .inl (cI, 2048, .inl (fun _ => 0))), (q_3, .inl (cI, 32, .inl (upd (fun _ => 0) 3 1))), (q_5, .inl (cI, 16, .inl (fun _ => 0))), (q_7, .inl (cI, 4, .inl (fun _ => 0))), (q_9, .inl (cI, 4, .inl (fun _ => 0))), (q_11, .inl (cI, 4, .inl (fun _ => 0))), (q_13, .inl (cI, 4, .inl (fun _ => 0))), (q_15, .inl (cI, 4, .inl (fun _ => 0))), (q_17, .inl (cI, 4, .inl (fun _ => 0))), (q_19, .inl (cI, 4, .inl (fun _ => 0)))] H := hP
  have hD : va_D A [(o, .inr (2, [.int 0, .ref q_1, .ref q_3, .ref q_5, .ref q_7, .ref q_9, .ref q_11, .ref q_13, .ref q_15, .ref q_17, .ref q_19])), (q_1, .inl (cI, 2048, .inl (fun _ => 0))), (q_3, .inl (cI, 32, .inl (upd (fun _ => 0) 3 1))), (q_5, .inl (cI, 16, .inl (fun _ => 0))), (q_7, .inl (cI, 4, .inl (fun _ => 0))), (q_9, .inl (cI, 4, .inl (fun _ => 0))), (q_11, .inl (cI, 4, .inl (fun _ => 0))), (q_13, .inl (cI, 4, .inl (fun _ => 0))), (q_15, .inl (cI, 4, .inl (fun _ => 0))), (q_17, .inl (cI, 4, .inl (fun _ => 0))), (q_19, .inl (cI, 4, .inl (fun _ => 0)))] := hD
  refine lv_iinc (v := 1) (lv' := [(1, .int 1), (0, .ref o)]) hx hb dX2_init_97 hl (k := 0) rfl (by decide) (by decide) rfl (fun ls hl => ?_)
  refine lv_goto (tgt := 80) hx hb dX2_init_100 (by decide) ?_
  refine lv_iload_n hx hb dX2_init_80 rfl (lv_at hl 0 rfl) ?_
  refine lv_iconst (v := 4) hx hb dX2_init_81 (by decide) ?_
  refine lv_icmp_ge (tgt := 103) hx hb dX2_init_82 (by decide) (fun c_22 => absurd c_22 (by decide)) (fun c_22 => ?_)
  refine lv_aload_n hx hb dX2_init_85 rfl (lv_at hl 1 rfl) ?_
  refine va_get (D := (dC, dI)) (ci := 2) (v := .ref q_3) (C := "TextureUnitsModel") (T := TX2) (N := 11) hx hb hts (tw_s inX2) hown hK hP 0 rfl rfl 2 (by decide) (hts _ (tw_c tw_335)) (fun _ h9 => h9) rfl dX2_init_86 ?_
  refine lv_bipush (v := 8) hx hb dX2_init_89 (by decide) ?_
  refine lv_iload_n hx hb dX2_init_91 rfl (lv_at hl 0 rfl) ?_
  refine lv_imul hx hb dX2_init_92 ?_
  refine W.eq (g2 := F0 m 93 ls [.int 8, .ref q_3]) (by first | rfl | (congr 1) | (simp; decide)) ?_
  refine lv_iconst (v := 3) hx hb dX2_init_93 (by decide) ?_
  refine lv_iadd hx hb dX2_init_94 ?_
  refine W.eq (g2 := F0 m 95 ls [.int 11, .ref q_3]) (by first | rfl | (congr 1) | (simp; decide)) ?_
  refine lv_iconst (v := 1) hx hb dX2_init_95 (by decide) ?_
  refine va_iast hx hb hK hP hD hS 2 0 rfl rfl (tu_in (by decide)) dX2_init_96 (fun H locs hP hD hS => ?_)
  have hP : va_P (dC, dI) vwCl [(o, .inr (2, [.int 0, .ref q_1, .ref q_3, .ref q_5, .ref q_7, .ref q_9, .ref q_11, .ref q_13, .ref q_15, .ref q_17, .ref q_19])), (q_1, .inl (cI, 2048, .inl (fun _ => 0))), (q_3, .inl (cI, 32, .inl (upd (upd (fun _ => 0) 3 1) 11 1))), (q_5, .inl (cI, 16, .inl (fun _ => 0))), (q_7, .inl (cI, 4, .inl (fun _ => 0))), (q_9, .inl (cI, 4, .inl (fun _ => 0))), (q_11, .inl (cI, 4, .inl (fun _ => 0))), (q_13, .inl (cI, 4, .inl (fun _ => 0))), (q_15, .inl (cI, 4, .inl (fun _ => 0))), (q_17, .inl (cI, 4, .inl (fun _ => 0))), (q_19, .inl (cI, 4, .inl (fun _ => 0)))] H := hP
  have hD : va_D A [(o, .inr (2, [.int 0, .ref q_1, .ref q_3, .ref q_5, .ref q_7, .ref q_9, .ref q_11, .ref q_13, .ref q_15, .ref q_17, .ref q_19])), (q_1, .inl (cI, 2048, .inl (fun _ => 0))), (q_3, .inl (cI, 32, .inl (upd (upd (fun _ => 0) 3 1) 11 1))), (q_5, .inl (cI, 16, .inl (fun _ => 0))), (q_7, .inl (cI, 4, .inl (fun _ => 0))), (q_9, .inl (cI, 4, .inl (fun _ => 0))), (q_11, .inl (cI, 4, .inl (fun _ => 0))), (q_13, .inl (cI, 4, .inl (fun _ => 0))), (q_15, .inl (cI, 4, .inl (fun _ => 0))), (q_17, .inl (cI, 4, .inl (fun _ => 0))), (q_19, .inl (cI, 4, .inl (fun _ => 0)))] := hD
  refine lv_iinc (v := 2) (lv' := [(1, .int 2), (0, .ref o)]) hx hb dX2_init_97 hl (k := 0) rfl (by decide) (by decide) rfl (fun ls hl => ?_)
  refine lv_goto (tgt := 80) hx hb dX2_init_100 (by decide) ?_
  refine lv_iload_n hx hb dX2_init_80 rfl (lv_at hl 0 rfl) ?_
  refine lv_iconst (v := 4) hx hb dX2_init_81 (by decide) ?_
  refine lv_icmp_ge (tgt := 103) hx hb dX2_init_82 (by decide) (fun c_23 => absurd c_23 (by decide)) (fun c_23 => ?_)
  refine lv_aload_n hx hb dX2_init_85 rfl (lv_at hl 1 rfl) ?_
  refine va_get (D := (dC, dI)) (ci := 2) (v := .ref q_3) (C := "TextureUnitsModel") (T := TX2) (N := 11) hx hb hts (tw_s inX2) hown hK hP 0 rfl rfl 2 (by decide) (hts _ (tw_c tw_335)) (fun _ h9 => h9) rfl dX2_init_86 ?_
  refine lv_bipush (v := 8) hx hb dX2_init_89 (by decide) ?_
  refine lv_iload_n hx hb dX2_init_91 rfl (lv_at hl 0 rfl) ?_
  refine lv_imul hx hb dX2_init_92 ?_
  refine W.eq (g2 := F0 m 93 ls [.int 16, .ref q_3]) (by first | rfl | (congr 1) | (simp; decide)) ?_
  refine lv_iconst (v := 3) hx hb dX2_init_93 (by decide) ?_
  refine lv_iadd hx hb dX2_init_94 ?_
  refine W.eq (g2 := F0 m 95 ls [.int 19, .ref q_3]) (by first | rfl | (congr 1) | (simp; decide)) ?_
  refine lv_iconst (v := 1) hx hb dX2_init_95 (by decide) ?_
  refine va_iast hx hb hK hP hD hS 2 0 rfl rfl (tu_in (by decide)) dX2_init_96 (fun H locs hP hD hS => ?_)
  have hP : va_P (dC, dI) vwCl [(o, .inr (2, [.int 0, .ref q_1, .ref q_3, .ref q_5, .ref q_7, .ref q_9, .ref q_11, .ref q_13, .ref q_15, .ref q_17, .ref q_19])), (q_1, .inl (cI, 2048, .inl (fun _ => 0))), (q_3, .inl (cI, 32, .inl (upd (upd (upd (fun _ => 0) 3 1) 11 1) 19 1))), (q_5, .inl (cI, 16, .inl (fun _ => 0))), (q_7, .inl (cI, 4, .inl (fun _ => 0))), (q_9, .inl (cI, 4, .inl (fun _ => 0))), (q_11, .inl (cI, 4, .inl (fun _ => 0))), (q_13, .inl (cI, 4, .inl (fun _ => 0))), (q_15, .inl (cI, 4, .inl (fun _ => 0))), (q_17, .inl (cI, 4, .inl (fun _ => 0))), (q_19, .inl (cI, 4, .inl (fun _ => 0)))] H := hP
  have hD : va_D A [(o, .inr (2, [.int 0, .ref q_1, .ref q_3, .ref q_5, .ref q_7, .ref q_9, .ref q_11, .ref q_13, .ref q_15, .ref q_17, .ref q_19])), (q_1, .inl (cI, 2048, .inl (fun _ => 0))), (q_3, .inl (cI, 32, .inl (upd (upd (upd (fun _ => 0) 3 1) 11 1) 19 1))), (q_5, .inl (cI, 16, .inl (fun _ => 0))), (q_7, .inl (cI, 4, .inl (fun _ => 0))), (q_9, .inl (cI, 4, .inl (fun _ => 0))), (q_11, .inl (cI, 4, .inl (fun _ => 0))), (q_13, .inl (cI, 4, .inl (fun _ => 0))), (q_15, .inl (cI, 4, .inl (fun _ => 0))), (q_17, .inl (cI, 4, .inl (fun _ => 0))), (q_19, .inl (cI, 4, .inl (fun _ => 0)))] := hD
  refine lv_iinc (v := 3) (lv' := [(1, .int 3), (0, .ref o)]) hx hb dX2_init_97 hl (k := 0) rfl (by decide) (by decide) rfl (fun ls hl => ?_)
  refine lv_goto (tgt := 80) hx hb dX2_init_100 (by decide) ?_
  refine lv_iload_n hx hb dX2_init_80 rfl (lv_at hl 0 rfl) ?_
  refine lv_iconst (v := 4) hx hb dX2_init_81 (by decide) ?_
  refine lv_icmp_ge (tgt := 103) hx hb dX2_init_82 (by decide) (fun c_24 => absurd c_24 (by decide)) (fun c_24 => ?_)
  refine lv_aload_n hx hb dX2_init_85 rfl (lv_at hl 1 rfl) ?_
  refine va_get (D := (dC, dI)) (ci := 2) (v := .ref q_3) (C := "TextureUnitsModel") (T := TX2) (N := 11) hx hb hts (tw_s inX2) hown hK hP 0 rfl rfl 2 (by decide) (hts _ (tw_c tw_335)) (fun _ h9 => h9) rfl dX2_init_86 ?_
  refine lv_bipush (v := 8) hx hb dX2_init_89 (by decide) ?_
  refine lv_iload_n hx hb dX2_init_91 rfl (lv_at hl 0 rfl) ?_
  refine lv_imul hx hb dX2_init_92 ?_
  refine W.eq (g2 := F0 m 93 ls [.int 24, .ref q_3]) (by first | rfl | (congr 1) | (simp; decide)) ?_
  refine lv_iconst (v := 3) hx hb dX2_init_93 (by decide) ?_
  refine lv_iadd hx hb dX2_init_94 ?_
  refine W.eq (g2 := F0 m 95 ls [.int 27, .ref q_3]) (by first | rfl | (congr 1) | (simp; decide)) ?_
  refine lv_iconst (v := 1) hx hb dX2_init_95 (by decide) ?_
  refine va_iast hx hb hK hP hD hS 2 0 rfl rfl (tu_in (by decide)) dX2_init_96 (fun H locs hP hD hS => ?_)
  have hP : va_P (dC, dI) vwCl [(o, .inr (2, [.int 0, .ref q_1, .ref q_3, .ref q_5, .ref q_7, .ref q_9, .ref q_11, .ref q_13, .ref q_15, .ref q_17, .ref q_19])), (q_1, .inl (cI, 2048, .inl (fun _ => 0))), (q_3, .inl (cI, 32, .inl (upd (upd (upd (upd (fun _ => 0) 3 1) 11 1) 19 1) 27 1))), (q_5, .inl (cI, 16, .inl (fun _ => 0))), (q_7, .inl (cI, 4, .inl (fun _ => 0))), (q_9, .inl (cI, 4, .inl (fun _ => 0))), (q_11, .inl (cI, 4, .inl (fun _ => 0))), (q_13, .inl (cI, 4, .inl (fun _ => 0))), (q_15, .inl (cI, 4, .inl (fun _ => 0))), (q_17, .inl (cI, 4, .inl (fun _ => 0))), (q_19, .inl (cI, 4, .inl (fun _ => 0)))] H := hP
  have hD : va_D A [(o, .inr (2, [.int 0, .ref q_1, .ref q_3, .ref q_5, .ref q_7, .ref q_9, .ref q_11, .ref q_13, .ref q_15, .ref q_17, .ref q_19])), (q_1, .inl (cI, 2048, .inl (fun _ => 0))), (q_3, .inl (cI, 32, .inl (upd (upd (upd (upd (fun _ => 0) 3 1) 11 1) 19 1) 27 1))), (q_5, .inl (cI, 16, .inl (fun _ => 0))), (q_7, .inl (cI, 4, .inl (fun _ => 0))), (q_9, .inl (cI, 4, .inl (fun _ => 0))), (q_11, .inl (cI, 4, .inl (fun _ => 0))), (q_13, .inl (cI, 4, .inl (fun _ => 0))), (q_15, .inl (cI, 4, .inl (fun _ => 0))), (q_17, .inl (cI, 4, .inl (fun _ => 0))), (q_19, .inl (cI, 4, .inl (fun _ => 0)))] := hD
  refine lv_iinc (v := 4) (lv' := [(1, .int 4), (0, .ref o)]) hx hb dX2_init_97 hl (k := 0) rfl (by decide) (by decide) rfl (fun ls hl => ?_)
  refine lv_goto (tgt := 80) hx hb dX2_init_100 (by decide) ?_
  refine lv_iload_n hx hb dX2_init_80 rfl (lv_at hl 0 rfl) ?_
  refine lv_iconst (v := 4) hx hb dX2_init_81 (by decide) ?_
  refine lv_icmp_ge (tgt := 103) hx hb dX2_init_82 (by decide) (fun c_25 => ?_) (fun c_25 => absurd (by decide) c_25)
  skip
  have hP9 : va_P (dC, dI) vwCl [(o, .inr (2, [.int 0, .ref q_1, .ref q_3, .ref q_5, .ref q_7, .ref q_9, .ref q_11, .ref q_13, .ref q_15, .ref q_17, .ref q_19])), (q_1, .inl (cI, 2048, .inl (fun _ => 0))), (q_3, .inl (cI, 32, .inl (upd (upd (upd (upd (fun _ => 0) 3 1) 11 1) 19 1) 27 1))), (q_5, .inl (cI, 16, .inl (fun _ => 0))), (q_7, .inl (cI, 4, .inl (fun _ => 0))), (q_9, .inl (cI, 4, .inl (fun _ => 0))), (q_11, .inl (cI, 4, .inl (fun _ => 0))), (q_13, .inl (cI, 4, .inl (fun _ => 0))), (q_15, .inl (cI, 4, .inl (fun _ => 0))), (q_17, .inl (cI, 4, .inl (fun _ => 0))), (q_19, .inl (cI, 4, .inl (fun _ => 0)))] H := hP.sub [0, 1, 2, 3, 4, 5, 6, 7, 8, 9, 10] rfl
  have hD9 : va_D A [(o, .inr (2, [.int 0, .ref q_1, .ref q_3, .ref q_5, .ref q_7, .ref q_9, .ref q_11, .ref q_13, .ref q_15, .ref q_17, .ref q_19])), (q_1, .inl (cI, 2048, .inl (fun _ => 0))), (q_3, .inl (cI, 32, .inl (upd (upd (upd (upd (fun _ => 0) 3 1) 11 1) 19 1) 27 1))), (q_5, .inl (cI, 16, .inl (fun _ => 0))), (q_7, .inl (cI, 4, .inl (fun _ => 0))), (q_9, .inl (cI, 4, .inl (fun _ => 0))), (q_11, .inl (cI, 4, .inl (fun _ => 0))), (q_13, .inl (cI, 4, .inl (fun _ => 0))), (q_15, .inl (cI, 4, .inl (fun _ => 0))), (q_17, .inl (cI, 4, .inl (fun _ => 0))), (q_19, .inl (cI, 4, .inl (fun _ => 0)))] := hD.sub [0, 1, 2, 3, 4, 5, 6, 7, 8, 9, 10] (by decide) rfl
  have hK9 : va_K (dC, dI) vwCl [(cI, .int)] s := hK.sub [0] rfl
  refine W.widen (k := 10) (n := 2124) (by omega) (by omega) ?_
  exact W.vret hx hb hr (fun t ht hW => ⟨⟨(), rfl, trivial, q_1, q_3, q_5, q_7, q_9, q_11, q_13, q_15, q_17, q_19, by rw [ht]; exact hP9, va_K.moved hW.alike hK9, hD9⟩, hS.F ht⟩) hS.2.2 dX2_init_103
set_option maxHeartbeats 4000000 in
set_option maxRecDepth 100000 in
theorem m_poke1 (l : Launch) (dC : Nat → ClassId) (dI : Nat → Nat → Nat) (o : Nat) (th : Int32) (a1 a2 a3 a4 a5 a6 a7 a8 a9 a10 : Nat) (p0 p1 : Int32) (sz : Nat) (h0 : tu_win p0 0 2047 = 0) : Met l yX2_poke wsX2_poke ({ frames := 1, cells := 0, slots := 0, locals := 22 }) (va_Pc [.ref o, .int p0, .int p1] (wr_P (dC, dI) vwCl [(o, .inr (2, [.int th, .ref a1, .ref a2, .ref a3, .ref a4, .ref a5, .ref a6, .ref a7, .ref a8, .ref a9, .ref a10]))] [] sz)) (va_Qv (fun _ : Unit => True) (wr_B (dC, dI) vwCl [(o, .inr (2, [.int 1, .ref a1, .ref a2, .ref a3, .ref a4, .ref a5, .ref a6, .ref a7, .ref a8, .ref a9, .ref a10]))] [] (va_A [(o, .inr (2, [.int th, .ref a1, .ref a2, .ref a3, .ref a4, .ref a5, .ref a6, .ref a7, .ref a8, .ref a9, .ref a10]))] sz)) (va_A [(o, .inr (2, [.int th, .ref a1, .ref a2, .ref a3, .ref a4, .ref a5, .ref a6, .ref a7, .ref a8, .ref a9, .ref a10]))] sz)) 0 0 (va_A [(o, .inr (2, [.int th, .ref a1, .ref a2, .ref a3, .ref a4, .ref a5, .ref a6, .ref a7, .ref a8, .ref a9, .ref a10]))] sz) := by
  refine Met.ofW (cc := cX2_poke) (maxL := 3) (ret := none) (by decide) rfl ?_
  intro p e s m args below meth c s₁ B hml hv
  obtain ⟨rfl, hsz, hP, hK, hD0⟩ := hv
  have hx := B.exec
  have hb := B.bytes
  have hr := B.returns
  have hts := atoms_spec (ws := wsX2_poke) B.pre
  have hown : s.vm.findClass "TextureUnitsModel" = some m.cls := findClass_of_methodNamed B.named
  have hlocks := B.notSynchronized
  subst hsz
  have hD := hD0.self (sz := s.heap.size)
  generalize hAe : va_A [(o, .inr (2, [.int th, .ref a1, .ref a2, .ref a3, .ref a4, .ref a5, .ref a6, .ref a7, .ref a8, .ref a9, .ref a10]))] s.heap.size = A at hD ⊢
  have hA : ∀ q : Nat, s.heap.size ≤ q → A q := fun q h => by rw [← hAe]; exact Or.inr h
  have hS : va_S A s.heap s.heap [] := va_S.rf
  have hP : va_P (dC, dI) vwCl [(o, .inr (2, [.int th, .ref a1, .ref a2, .ref a3, .ref a4, .ref a5, .ref a6, .ref a7, .ref a8, .ref a9, .ref a10]))] s.heap := hP
  have hl := lv_entry ([.ref o, .int p0, .int p1]) (n := 3) (Nat.le_of_ble_eq_true rfl)
  rw [lg_entry_eq]
  generalize (lg_sl ([.ref o, .int p0, .int p1]) ++ List.replicate (3 - (lg_sl ([.ref o, .int p0, .int p1])).length) Slot.unset).toArray = ls at hl ⊢
  have hl : lv_has ls 3 [(0, .ref o), (1, .int p0), (2, .int p1)] := hl
  refine lv_aload_n hx hb dX2_poke_0 rfl (lv_at hl 0 rfl) ?_
  refine lv_iload_n hx hb dX2_poke_1 rfl (lv_at hl 1 rfl) ?_
  refine lv_iconst (v := 0) hx hb dX2_poke_2 (by decide) ?_
  refine lv_sipush (v := 2047) hx hb dX2_poke_3 (by decide) ?_
  refine rd_call (W.runS (As := [.int p0, .int 0, .int 2047]) (rest := [.ref o]) ⟨hx, hb, hml, hown, hts⟩ (m_in l p0 0 2047) (va_cwS 3 hts (tg_S tw_375 tw_376 tw_3 tw_377) rfl rfl rfl (by decide +kernel) ⟨Nat.le_of_ble_eq_true rfl, Nat.le_of_ble_eq_true rfl⟩) preEq rfl rfl hl.1 rfl (lv_room (Nat.le_of_ble_eq_true rfl)) dX2_poke_6 ⟨Nat.le_of_ble_eq_true rfl, Nat.le_of_ble_eq_true rfl⟩) ?_
  refine lv_if_ne (tgt := 16) hx hb dX2_poke_9 (by decide) (fun c_1 => absurd h0 c_1) (fun c_1 => ?_)
  refine lv_iconst (v := 1) hx hb dX2_poke_12 (by decide) ?_
  refine lv_goto (tgt := 17) hx hb dX2_poke_13 (by decide) ?_
  refine lv_iconst (v := 0) hx hb dX2_poke_17 (by decide) ?_
  have hPc := hP.sub (ws' := [(o, .inr (2, [.int th, .ref a1, .ref a2, .ref a3, .ref a4, .ref a5, .ref a6, .ref a7, .ref a8, .ref a9, .ref a10]))]) [0] rfl
  have hDc := hD.sub (ws' := [(o, .inr (2, [.int th, .ref a1, .ref a2, .ref a3, .ref a4, .ref a5, .ref a6, .ref a7, .ref a8, .ref a9, .ref a10]))]) [0] (by decide) rfl
  have hFc := va_free (wc := [(o, .inr (2, [.int th, .ref a1, .ref a2, .ref a3, .ref a4, .ref a5, .ref a6, .ref a7, .ref a8, .ref a9, .ref a10]))]) hD hS hA [0] rfl
  refine va_calli (va_runV (As := [.int 1, .int 0]) (rest := []) ⟨hx, hb, hml, hown, hts⟩ (m_refuse1 l dC dI o th a1 a2 a3 a4 a5 a6 a7 a8 a9 a10 1 0 s.heap.size (by decide)) (cwV 2 hts (tg_V tw_378 tw_380 tw_p8 tw_3 tw_381) rfl rfl rfl (by decide +kernel) ⟨Nat.le_of_ble_eq_true rfl, Nat.le_of_ble_eq_true rfl⟩) ⟨wr_blind, va_recv hK hP (ci := 2) (q0 := 0) rfl rfl, fun U hU hW => ⟨rfl, wr_use hPc (hK.sub [] rfl) hDc U hU hW⟩⟩ rfl rfl hl.1 rfl (lv_room (Nat.le_of_ble_eq_true rfl)) dX2_poke_18 ⟨Nat.le_of_ble_eq_true rfl, Nat.le_of_ble_eq_true rfl⟩) hS (fun q _ h => hFc q h) hFc (fun r9 u9 t9 H1 locs ht hvm hw hB hz1 hk1 hS => ?_)
  obtain ⟨hP1, hK1, hD1⟩ := hB
  rw [ht] at hP1
  subst hw
  obtain ⟨hP, hD⟩ := va_join (wr := []) (w1 := [(o, .inr (2, [.int 1, .ref a1, .ref a2, .ref a3, .ref a4, .ref a5, .ref a6, .ref a7, .ref a8, .ref a9, .ref a10]))]) hP hD [0] [] rfl rfl (by decide) (by decide) hk1 hFc hP1 hD1
  have hP := hP.sub (ws' := [(o, .inr (2, [.int 1, .ref a1, .ref a2, .ref a3, .ref a4, .ref a5, .ref a6, .ref a7, .ref a8, .ref a9, .ref a10]))]) [0] rfl
  have hD := hD.sub (ws' := [(o, .inr (2, [.int 1, .ref a1, .ref a2, .ref a3, .ref a4, .ref a5, .ref a6, .ref a7, .ref a8, .ref a9, .ref a10]))]) [0] (by decide) rfl
  clear hPc hDc hFc hP1 hK1 hD1 hk1 hz1
  generalize H1 = H at hP hS ⊢
  refine lv_if_ne (tgt := 31) hx hb dX2_poke_21 (by decide) (fun c_2 => ?_) (fun c_2 => absurd c_2 (by decide))
  have hP9 : va_P (dC, dI) vwCl [(o, .inr (2, [.int 1, .ref a1, .ref a2, .ref a3, .ref a4, .ref a5, .ref a6, .ref a7, .ref a8, .ref a9, .ref a10]))] H := hP.sub [0] rfl
  have hD9 : va_D A [(o, .inr (2, [.int 1, .ref a1, .ref a2, .ref a3, .ref a4, .ref a5, .ref a6, .ref a7, .ref a8, .ref a9, .ref a10]))] := hD.sub [0] (by decide) rfl
  have hK9 : va_K (dC, dI) vwCl [] s := hK.sub [] rfl
  exact W.vret hx hb hr (fun t ht hW => ⟨⟨(), rfl, trivial, by rw [ht]; exact hP9, va_K.moved hW.alike hK9, hD9⟩, hS.F ht⟩) hS.2.2 dX2_poke_31
set_option maxHeartbeats 4000000 in
set_option maxRecDepth 100000 in
theorem m_poke0 (l : Launch) (dC : Nat → ClassId) (dI : Nat → Nat → Nat) (o : Nat) (th : Int32) (a1 a2 a3 a4 a5 a6 a7 a8 a9 a10 : Nat) (cI : ClassId) (mem : Nat → Int32) (p0 p1 : Int32) (sz : Nat) (h0 : ¬ tu_win p0 0 2047 = 0) : Met l yX2_poke wsX2_poke ({ frames := 1, cells := 0, slots := 0, locals := 22 }) (va_Pc [.ref o, .int p0, .int p1] (wr_P (dC, dI) vwCl [(o, .inr (2, [.int th, .ref a1, .ref a2, .ref a3, .ref a4, .ref a5, .ref a6, .ref a7, .ref a8, .ref a9, .ref a10])), (a1, .inl (cI, 2048, .inl mem))] [(cI, .int)] sz)) (va_Qv (fun _ : Unit => True) (wr_B (dC, dI) vwCl [(o, .inr (2, [.int 0, .ref a1, .ref a2, .ref a3, .ref a4, .ref a5, .ref a6, .ref a7, .ref a8, .ref a9, .ref a10])), (a1, .inl (cI, 2048, .inl (upd mem p0.toNatClampNeg p1)))] [(cI, .int)] (va_A [(o, .inr (2, [.int th, .ref a1, .ref a2, .ref a3, .ref a4, .ref a5, .ref a6, .ref a7, .ref a8, .ref a9, .ref a10])), (a1, .inl (cI, 2048, .inl mem))] sz)) (va_A [(o, .inr (2, [.int th, .ref a1, .ref a2, .ref a3, .ref a4, .ref a5, .ref a6, .ref a7, .ref a8, .ref a9, .ref a10])), (a1, .inl (cI, 2048, .inl mem))] sz)) 0 0 (va_A [(o, .inr (2, [.int th, .ref a1, .ref a2, .ref a3, .ref a4, .ref a5, .ref a6, .ref a7, .ref a8, .ref a9, .ref a10])), (a1, .inl (cI, 2048, .inl mem))] sz) := by
  refine Met.ofW (cc := cX2_poke) (maxL := 3) (ret := none) (by decide) rfl ?_
  intro p e s m args below meth c s₁ B hml hv
  obtain ⟨rfl, hsz, hP, hK, hD0⟩ := hv
  have hx := B.exec
  have hb := B.bytes
  have hr := B.returns
  have hts := atoms_spec (ws := wsX2_poke) B.pre
  have hown : s.vm.findClass "TextureUnitsModel" = some m.cls := findClass_of_methodNamed B.named
  have hlocks := B.notSynchronized
  subst hsz
  have hD := hD0.self (sz := s.heap.size)
  generalize hAe : va_A [(o, .inr (2, [.int th, .ref a1, .ref a2, .ref a3, .ref a4, .ref a5, .ref a6, .ref a7, .ref a8, .ref a9, .ref a10])), (a1, .inl (cI, 2048, .inl mem))] s.heap.size = A at hD ⊢
  have hA : ∀ q : Nat, s.heap.size ≤ q → A q := fun q h => by rw [← hAe]; exact Or.inr h
  have hS : va_S A s.heap s.heap [] := va_S.rf
  have hP : va_P (dC, dI) vwCl [(o, .inr (2, [.int th, .ref a1, .ref a2, .ref a3, .ref a4, .ref a5, .ref a6, .ref a7, .ref a8, .ref a9, .ref a10])), (a1, .inl (cI, 2048, .inl mem))] s.heap := hP
  have hl := lv_entry ([.ref o, .int p0, .int p1]) (n := 3) (Nat.le_of_ble_eq_true rfl)
  rw [lg_entry_eq]
  generalize (lg_sl ([.ref o, .int p0, .int p1]) ++ List.replicate (3 - (lg_sl ([.ref o, .int p0, .int p1])).length) Slot.unset).toArray = ls at hl ⊢
  have hl : lv_has ls 3 [(0, .ref o), (1, .int p0), (2, .int p1)] := hl
  refine lv_aload_n hx hb dX2_poke_0 rfl (lv_at hl 0 rfl) ?_
  refine lv_iload_n hx hb dX2_poke_1 rfl (lv_at hl 1 rfl) ?_
  refine lv_iconst (v := 0) hx hb dX2_poke_2 (by decide) ?_
  refine lv_sipush (v := 2047) hx hb dX2_poke_3 (by decide) ?_
  refine rd_call (W.runS (As := [.int p0, .int 0, .int 2047]) (rest := [.ref o]) ⟨hx, hb, hml, hown, hts⟩ (m_in l p0 0 2047) (va_cwS 3 hts (tg_S tw_375 tw_376 tw_3 tw_377) rfl rfl rfl (by decide +kernel) ⟨Nat.le_of_ble_eq_true rfl, Nat.le_of_ble_eq_true rfl⟩) preEq rfl rfl hl.1 rfl (lv_room (Nat.le_of_ble_eq_true rfl)) dX2_poke_6 ⟨Nat.le_of_ble_eq_true rfl, Nat.le_of_ble_eq_true rfl⟩) ?_
  refine lv_if_ne (tgt := 16) hx hb dX2_poke_9 (by decide) (fun c_1 => ?_) (fun c_1 => absurd c_1 h0)
  refine lv_iconst (v := 0) hx hb dX2_poke_16 (by decide) ?_
  refine lv_iconst (v := 0) hx hb dX2_poke_17 (by decide) ?_
  have hPc := hP.sub (ws' := [(o, .inr (2, [.int th, .ref a1, .ref a2, .ref a3, .ref a4, .ref a5, .ref a6, .ref a7, .ref a8, .ref a9, .ref a10]))]) [0] rfl
  have hDc := hD.sub (ws' := [(o, .inr (2, [.int th, .ref a1, .ref a2, .ref a3, .ref a4, .ref a5, .ref a6, .ref a7, .ref a8, .ref a9, .ref a10]))]) [0] (by decide) rfl
  have hFc := va_free (wc := [(o, .inr (2, [.int th, .ref a1, .ref a2, .ref a3, .ref a4, .ref a5, .ref a6, .ref a7, .ref a8, .ref a9, .ref a10]))]) hD hS hA [0] rfl
  refine va_calli (va_runV (As := [.int 0, .int 0]) (rest := []) ⟨hx, hb, hml, hown, hts⟩ (m_refuse0 l dC dI o th a1 a2 a3 a4 a5 a6 a7 a8 a9 a10 0 0 s.heap.size rfl rfl) (cwV 2 hts (tg_V tw_378 tw_380 tw_p8 tw_3 tw_381) rfl rfl rfl (by decide +kernel) ⟨Nat.le_of_ble_eq_true rfl, Nat.le_of_ble_eq_true rfl⟩) ⟨wr_blind, va_recv hK hP (ci := 2) (q0 := 0) rfl rfl, fun U hU hW => ⟨rfl, wr_use hPc (hK.sub [] rfl) hDc U hU hW⟩⟩ rfl rfl hl.1 rfl (lv_room (Nat.le_of_ble_eq_true rfl)) dX2_poke_18 ⟨Nat.le_of_ble_eq_true rfl, Nat.le_of_ble_eq_true rfl⟩) hS (fun q _ h => hFc q h) hFc (fun r9 u9 t9 H1 locs ht hvm hw hB hz1 hk1 hS => ?_)
  obtain ⟨hP1, hK1, hD1⟩ := hB
  rw [ht] at hP1
  subst hw
  obtain ⟨hP, hD⟩ := va_join (wr := [(a1, .inl (cI, 2048, .inl mem))]) (w1 := [(o, .inr (2, [.int 0, .ref a1, .ref a2, .ref a3, .ref a4, .ref a5, .ref a6, .ref a7, .ref a8, .ref a9, .ref a10]))]) hP hD [0] [1] rfl rfl (by decide) (by decide) hk1 hFc hP1 hD1
  have hP := hP.sub (ws' := [(o, .inr (2, [.int 0, .ref a1, .ref a2, .ref a3, .ref a4, .ref a5, .ref a6, .ref a7, .ref a8, .ref a9, .ref a10])), (a1, .inl (cI, 2048, .inl mem))]) [1, 0] rfl
  have hD := hD.sub (ws' := [(o, .inr (2, [.int 0, .ref a1, .ref a2, .ref a3, .ref a4, .ref a5, .ref a6, .ref a7, .ref a8, .ref a9, .ref a10])), (a1, .inl (cI, 2048, .inl mem))]) [1, 0] (by decide) rfl
  clear hPc hDc hFc hP1 hK1 hD1 hk1 hz1
  generalize H1 = H at hP hS ⊢
  refine lv_if_ne (tgt := 31) hx hb dX2_poke_21 (by decide) (fun c_2 => absurd (by decide) c_2) (fun c_2 => ?_)
  refine lv_aload_n hx hb dX2_poke_24 rfl (lv_at hl 0 rfl) ?_
  refine va_get (D := (dC, dI)) (ci := 2) (v := .ref a1) (C := "TextureUnitsModel") (T := TX2) (N := 11) hx hb hts (tw_s inX2) hown hK hP 0 rfl rfl 1 (by decide) (hts _ (tw_c tw_334)) (fun _ h9 => h9) rfl dX2_poke_25 ?_
  refine lv_iload_n hx hb dX2_poke_28 rfl (lv_at hl 1 rfl) ?_
  refine lv_iload_n hx hb dX2_poke_29 rfl (lv_at hl 2 rfl) ?_
  refine va_iast hx hb hK hP hD hS 1 0 rfl rfl (tu_win_in h0 (by decide)) dX2_poke_30 (fun H locs hP hD hS => ?_)
  have hP : va_P (dC, dI) vwCl [(o, .inr (2, [.int 0, .ref a1, .ref a2, .ref a3, .ref a4, .ref a5, .ref a6, .ref a7, .ref a8, .ref a9, .ref a10])), (a1, .inl (cI, 2048, .inl (upd mem p0.toNatClampNeg p1)))] H := hP
  have hD : va_D A [(o, .inr (2, [.int 0, .ref a1, .ref a2, .ref a3, .ref a4, .ref a5, .ref a6, .ref a7, .ref a8, .ref a9, .ref a10])), (a1, .inl (cI, 2048, .inl (upd mem p0.toNatClampNeg p1)))] := hD
  have hP9 : va_P (dC, dI) vwCl [(o, .inr (2, [.int 0, .ref a1, .ref a2, .ref a3, .ref a4, .ref a5, .ref a6, .ref a7, .ref a8, .ref a9, .ref a10])), (a1, .inl (cI, 2048, .inl (upd mem p0.toNatClampNeg p1)))] H := hP.sub [0, 1] rfl
  have hD9 : va_D A [(o, .inr (2, [.int 0, .ref a1, .ref a2, .ref a3, .ref a4, .ref a5, .ref a6, .ref a7, .ref a8, .ref a9, .ref a10])), (a1, .inl (cI, 2048, .inl (upd mem p0.toNatClampNeg p1)))] := hD.sub [0, 1] (by decide) rfl
  have hK9 : va_K (dC, dI) vwCl [(cI, .int)] s := hK.sub [0] rfl
  exact W.vret hx hb hr (fun t ht hW => ⟨⟨(), rfl, trivial, by rw [ht]; exact hP9, va_K.moved hW.alike hK9, hD9⟩, hS.F ht⟩) hS.2.2 dX2_poke_31
set_option maxHeartbeats 4000000 in
set_option maxRecDepth 100000 in
theorem m_also1 (l : Launch) (dC : Nat → ClassId) (dI : Nat → Nat → Nat) (o : Nat) (th : Int32) (a1 a2 a3 a4 a5 a6 a7 a8 a9 a10 : Nat) (p0 : Int32) (sz : Nat) (h0 : tu_win p0 0 3 = 0) : Met l yX2_also wsX2_also ({ frames := 1, cells := 0, slots := 0, locals := 22 }) (va_Pc [.ref o, .int p0] (wr_P (dC, dI) vwCl [(o, .inr (2, [.int th, .ref a1, .ref a2, .ref a3, .ref a4, .ref a5, .ref a6, .ref a7, .ref a8, .ref a9, .ref a10]))] [] sz)) (va_Qi (fun (r9 : Int32) (_ : Unit) => r9 = 0) (wr_B (dC, dI) vwCl [(o, .inr (2, [.int 1, .ref a1, .ref a2, .ref a3, .ref a4, .ref a5, .ref a6, .ref a7, .ref a8, .ref a9, .ref a10]))] [] (va_A [(o, .inr (2, [.int th, .ref a1, .ref a2, .ref a3, .ref a4, .ref a5, .ref a6, .ref a7, .ref a8, .ref a9, .ref a10]))] sz)) (va_A [(o, .inr (2, [.int th, .ref a1, .ref a2, .ref a3, .ref a4, .ref a5, .ref a6, .ref a7, .ref a8, .ref a9, .ref a10]))] sz)) 0 0 (va_A [(o, .inr (2, [.int th, .ref a1, .ref a2, .ref a3, .ref a4, .ref a5, .ref a6, .ref a7, .ref a8, .ref a9, .ref a10]))] sz) := by
  refine Met.ofW (cc := cX2_also) (maxL := 2) (ret := some .int) (by decide) rfl ?_
  intro p e s m args below meth c s₁ B hml hv
  obtain ⟨rfl, hsz, hP, hK, hD0⟩ := hv
  have hx := B.exec
  have hb := B.bytes
  have hr := B.returns
  have hts := atoms_spec (ws := wsX2_also) B.pre
  have hown : s.vm.findClass "TextureUnitsModel" = some m.cls := findClass_of_methodNamed B.named
  have hlocks := B.notSynchronized
  subst hsz
  have hD := hD0.self (sz := s.heap.size)
  generalize hAe : va_A [(o, .inr (2, [.int th, .ref a1, .ref a2, .ref a3, .ref a4, .ref a5, .ref a6, .ref a7, .ref a8, .ref a9, .ref a10]))] s.heap.size = A at hD ⊢
  have hA : ∀ q : Nat, s.heap.size ≤ q → A q := fun q h => by rw [← hAe]; exact Or.inr h
  have hS : va_S A s.heap s.heap [] := va_S.rf
  have hP : va_P (dC, dI) vwCl [(o, .inr (2, [.int th, .ref a1, .ref a2, .ref a3, .ref a4, .ref a5, .ref a6, .ref a7, .ref a8, .ref a9, .ref a10]))] s.heap := hP
  have hl := lv_entry ([.ref o, .int p0]) (n := 2) (Nat.le_of_ble_eq_true rfl)
  rw [lg_entry_eq]
  generalize (lg_sl ([.ref o, .int p0]) ++ List.replicate (2 - (lg_sl ([.ref o, .int p0])).length) Slot.unset).toArray = ls at hl ⊢
  have hl : lv_has ls 2 [(0, .ref o), (1, .int p0)] := hl
  refine lv_aload_n hx hb dX2_also_0 rfl (lv_at hl 0 rfl) ?_
  refine lv_iload_n hx hb dX2_also_1 rfl (lv_at hl 1 rfl) ?_
  refine lv_iconst (v := 0) hx hb dX2_also_2 (by decide) ?_
  refine lv_iconst (v := 3) hx hb dX2_also_3 (by decide) ?_
  refine rd_call (W.runS (As := [.int p0, .int 0, .int 3]) (rest := [.ref o]) ⟨hx, hb, hml, hown, hts⟩ (m_in l p0 0 3) (va_cwS 3 hts (tg_S tw_375 tw_376 tw_3 tw_377) rfl rfl rfl (by decide +kernel) ⟨Nat.le_of_ble_eq_true rfl, Nat.le_of_ble_eq_true rfl⟩) preEq rfl rfl hl.1 rfl (lv_room (Nat.le_of_ble_eq_true rfl)) dX2_also_4 ⟨Nat.le_of_ble_eq_true rfl, Nat.le_of_ble_eq_true rfl⟩) ?_
  refine lv_if_ne (tgt := 14) hx hb dX2_also_7 (by decide) (fun c_1 => absurd h0 c_1) (fun c_1 => ?_)
  refine lv_iconst (v := 1) hx hb dX2_also_10 (by decide) ?_
  refine lv_goto (tgt := 15) hx hb dX2_also_11 (by decide) ?_
  refine lv_iconst (v := 0) hx hb dX2_also_15 (by decide) ?_
  have hPc := hP.sub (ws' := [(o, .inr (2, [.int th, .ref a1, .ref a2, .ref a3, .ref a4, .ref a5, .ref a6, .ref a7, .ref a8, .ref a9, .ref a10]))]) [0] rfl
  have hDc := hD.sub (ws' := [(o, .inr (2, [.int th, .ref a1, .ref a2, .ref a3, .ref a4, .ref a5, .ref a6, .ref a7, .ref a8, .ref a9, .ref a10]))]) [0] (by decide) rfl
  have hFc := va_free (wc := [(o, .inr (2, [.int th, .ref a1, .ref a2, .ref a3, .ref a4, .ref a5, .ref a6, .ref a7, .ref a8, .ref a9, .ref a10]))]) hD hS hA [0] rfl
  refine va_calli (va_runV (As := [.int 1, .int 0]) (rest := []) ⟨hx, hb, hml, hown, hts⟩ (m_refuse1 l dC dI o th a1 a2 a3 a4 a5 a6 a7 a8 a9 a10 1 0 s.heap.size (by decide)) (cwV 2 hts (tg_V tw_378 tw_380 tw_p8 tw_3 tw_381) rfl rfl rfl (by decide +kernel) ⟨Nat.le_of_ble_eq_true rfl, Nat.le_of_ble_eq_true rfl⟩) ⟨wr_blind, va_recv hK hP (ci := 2) (q0 := 0) rfl rfl, fun U hU hW => ⟨rfl, wr_use hPc (hK.sub [] rfl) hDc U hU hW⟩⟩ rfl rfl hl.1 rfl (lv_room (Nat.le_of_ble_eq_true rfl)) dX2_also_16 ⟨Nat.le_of_ble_eq_true rfl, Nat.le_of_ble_eq_true rfl⟩) hS (fun q _ h => hFc q h) hFc (fun r9 u9 t9 H1 locs ht hvm hw hB hz1 hk1 hS => ?_)
  obtain ⟨hP1, hK1, hD1⟩ := hB
  rw [ht] at hP1
  subst hw
  obtain ⟨hP, hD⟩ := va_join (wr := []) (w1 := [(o, .inr (2, [.int 1, .ref a1, .ref a2, .ref a3, .ref a4, .ref a5, .ref a6, .ref a7, .ref a8, .ref a9, .ref a10]))]) hP hD [0] [] rfl rfl (by decide) (by decide) hk1 hFc hP1 hD1
  have hP := hP.sub (ws' := [(o, .inr (2, [.int 1, .ref a1, .ref a2, .ref a3, .ref a4, .ref a5, .ref a6, .ref a7, .ref a8, .ref a9, .ref a10]))]) [0] rfl
  have hD := hD.sub (ws' := [(o, .inr (2, [.int 1, .ref a1, .ref a2, .ref a3, .ref a4, .ref a5, .ref a6, .ref a7, .ref a8, .ref a9, .ref a10]))]) [0] (by decide) rfl
  clear hPc hDc hFc hP1 hK1 hD1 hk1 hz1
  generalize H1 = H at hP hS ⊢
  refine lv_if_eq (tgt := 24) hx hb dX2_also_19 (by decide) (fun c_2 => absurd c_2 (by decide)) (fun c_2 => ?_)
  refine lv_iconst (v := 0) hx hb dX2_also_22 (by decide) ?_
  have hP9 : va_P (dC, dI) vwCl [(o, .inr (2, [.int 1, .ref a1, .ref a2, .ref a3, .ref a4, .ref a5, .ref a6, .ref a7, .ref a8, .ref a9, .ref a10]))] H := hP.sub [0] rfl
  have hD9 : va_D A [(o, .inr (2, [.int 1, .ref a1, .ref a2, .ref a3, .ref a4, .ref a5, .ref a6, .ref a7, .ref a8, .ref a9, .ref a10]))] := hD.sub [0] (by decide) rfl
  have hK9 : va_K (dC, dI) vwCl [] s := hK.sub [] rfl
  exact W.iret (v := 0) hx hb hr (fun t ht hW => ⟨⟨0, (), rfl, rfl, by rw [ht]; exact hP9, va_K.moved hW.alike hK9, hD9⟩, hS.F ht⟩) hS.2.2 dX2_also_23
set_option maxHeartbeats 4000000 in
set_option maxRecDepth 100000 in
theorem m_also0 (l : Launch) (dC : Nat → ClassId) (dI : Nat → Nat → Nat) (o : Nat) (th : Int32) (a1 a2 a3 a4 a5 a6 a7 a8 a9 a10 : Nat) (cI : ClassId) (lt : Nat → Int32) (p0 : Int32) (sz : Nat) (h0 : ¬ tu_win p0 0 3 = 0) : Met l yX2_also wsX2_also ({ frames := 1, cells := 0, slots := 0, locals := 22 }) (va_Pc [.ref o, .int p0] (wr_P (dC, dI) vwCl [(o, .inr (2, [.int th, .ref a1, .ref a2, .ref a3, .ref a4, .ref a5, .ref a6, .ref a7, .ref a8, .ref a9, .ref a10])), (a4, .inl (cI, 4, .inl lt))] [(cI, .int)] sz)) (va_Qi (fun (r9 : Int32) (_ : Unit) => r9 = lt p0.toNatClampNeg) (wr_B (dC, dI) vwCl [(o, .inr (2, [.int 0, .ref a1, .ref a2, .ref a3, .ref a4, .ref a5, .ref a6, .ref a7, .ref a8, .ref a9, .ref a10])), (a4, .inl (cI, 4, .inl lt))] [(cI, .int)] (va_A [(o, .inr (2, [.int th, .ref a1, .ref a2, .ref a3, .ref a4, .ref a5, .ref a6, .ref a7, .ref a8, .ref a9, .ref a10])), (a4, .inl (cI, 4, .inl lt))] sz)) (va_A [(o, .inr (2, [.int th, .ref a1, .ref a2, .ref a3, .ref a4, .ref a5, .ref a6, .ref a7, .ref a8, .ref a9, .ref a10])), (a4, .inl (cI, 4, .inl lt))] sz)) 0 0 (va_A [(o, .inr (2, [.int th, .ref a1, .ref a2, .ref a3, .ref a4, .ref a5, .ref a6, .ref a7, .ref a8, .ref a9, .ref a10])), (a4, .inl (cI, 4, .inl lt))] sz) := by
  refine Met.ofW (cc := cX2_also) (maxL := 2) (ret := some .int) (by decide) rfl ?_
  intro p e s m args below meth c s₁ B hml hv
  obtain ⟨rfl, hsz, hP, hK, hD0⟩ := hv
  have hx := B.exec
  have hb := B.bytes
  have hr := B.returns
  have hts := atoms_spec (ws := wsX2_also) B.pre
  have hown : s.vm.findClass "TextureUnitsModel" = some m.cls := findClass_of_methodNamed B.named
  have hlocks := B.notSynchronized
  subst hsz
  have hD := hD0.self (sz := s.heap.size)
  generalize hAe : va_A [(o, .inr (2, [.int th, .ref a1, .ref a2, .ref a3, .ref a4, .ref a5, .ref a6, .ref a7, .ref a8, .ref a9, .ref a10])), (a4, .inl (cI, 4, .inl lt))] s.heap.size = A at hD ⊢
  have hA : ∀ q : Nat, s.heap.size ≤ q → A q := fun q h => by rw [← hAe]; exact Or.inr h
  have hS : va_S A s.heap s.heap [] := va_S.rf
  have hP : va_P (dC, dI) vwCl [(o, .inr (2, [.int th, .ref a1, .ref a2, .ref a3, .ref a4, .ref a5, .ref a6, .ref a7, .ref a8, .ref a9, .ref a10])), (a4, .inl (cI, 4, .inl lt))] s.heap := hP
  have hl := lv_entry ([.ref o, .int p0]) (n := 2) (Nat.le_of_ble_eq_true rfl)
  rw [lg_entry_eq]
  generalize (lg_sl ([.ref o, .int p0]) ++ List.replicate (2 - (lg_sl ([.ref o, .int p0])).length) Slot.unset).toArray = ls at hl ⊢
  have hl : lv_has ls 2 [(0, .ref o), (1, .int p0)] := hl
  refine lv_aload_n hx hb dX2_also_0 rfl (lv_at hl 0 rfl) ?_
  refine lv_iload_n hx hb dX2_also_1 rfl (lv_at hl 1 rfl) ?_
  refine lv_iconst (v := 0) hx hb dX2_also_2 (by decide) ?_
  refine lv_iconst (v := 3) hx hb dX2_also_3 (by decide) ?_
  refine rd_call (W.runS (As := [.int p0, .int 0, .int 3]) (rest := [.ref o]) ⟨hx, hb, hml, hown, hts⟩ (m_in l p0 0 3) (va_cwS 3 hts (tg_S tw_375 tw_376 tw_3 tw_377) rfl rfl rfl (by decide +kernel) ⟨Nat.le_of_ble_eq_true rfl, Nat.le_of_ble_eq_true rfl⟩) preEq rfl rfl hl.1 rfl (lv_room (Nat.le_of_ble_eq_true rfl)) dX2_also_4 ⟨Nat.le_of_ble_eq_true rfl, Nat.le_of_ble_eq_true rfl⟩) ?_
  refine lv_if_ne (tgt := 14) hx hb dX2_also_7 (by decide) (fun c_1 => ?_) (fun c_1 => absurd c_1 h0)
  refine lv_iconst (v := 0) hx hb dX2_also_14 (by decide) ?_
  refine lv_iconst (v := 0) hx hb dX2_also_15 (by decide) ?_
  have hPc := hP.sub (ws' := [(o, .inr (2, [.int th, .ref a1, .ref a2, .ref a3, .ref a4, .ref a5, .ref a6, .ref a7, .ref a8, .ref a9, .ref a10]))]) [0] rfl
  have hDc := hD.sub (ws' := [(o, .inr (2, [.int th, .ref a1, .ref a2, .ref a3, .ref a4, .ref a5, .ref a6, .ref a7, .ref a8, .ref a9, .ref a10]))]) [0] (by decide) rfl
  have hFc := va_free (wc := [(o, .inr (2, [.int th, .ref a1, .ref a2, .ref a3, .ref a4, .ref a5, .ref a6, .ref a7, .ref a8, .ref a9, .ref a10]))]) hD hS hA [0] rfl
  refine va_calli (va_runV (As := [.int 0, .int 0]) (rest := []) ⟨hx, hb, hml, hown, hts⟩ (m_refuse0 l dC dI o th a1 a2 a3 a4 a5 a6 a7 a8 a9 a10 0 0 s.heap.size rfl rfl) (cwV 2 hts (tg_V tw_378 tw_380 tw_p8 tw_3 tw_381) rfl rfl rfl (by decide +kernel) ⟨Nat.le_of_ble_eq_true rfl, Nat.le_of_ble_eq_true rfl⟩) ⟨wr_blind, va_recv hK hP (ci := 2) (q0 := 0) rfl rfl, fun U hU hW => ⟨rfl, wr_use hPc (hK.sub [] rfl) hDc U hU hW⟩⟩ rfl rfl hl.1 rfl (lv_room (Nat.le_of_ble_eq_true rfl)) dX2_also_16 ⟨Nat.le_of_ble_eq_true rfl, Nat.le_of_ble_eq_true rfl⟩) hS (fun q _ h => hFc q h) hFc (fun r9 u9 t9 H1 locs ht hvm hw hB hz1 hk1 hS => ?_)
  obtain ⟨hP1, hK1, hD1⟩ := hB
  rw [ht] at hP1
  subst hw
  obtain ⟨hP, hD⟩ := va_join (wr := [(a4, .inl (cI, 4, .inl lt))]) (w1 := [(o, .inr (2, [.int 0, .ref a1, .ref a2, .ref a3, .ref a4, .ref a5, .ref a6, .ref a7, .ref a8, .ref a9, .ref a10]))]) hP hD [0] [1] rfl rfl (by decide) (by decide) hk1 hFc hP1 hD1
  have hP := hP.sub (ws' := [(o, .inr (2, [.int 0, .ref a1, .ref a2, .ref a3, .ref a4, .ref a5, .ref a6, .ref a7, .ref a8, .ref a9, .ref a10])), (a4, .inl (cI, 4, .inl lt))]) [1, 0] rfl
  have hD := hD.sub (ws' := [(o, .inr (2, [.int 0, .ref a1, .ref a2, .ref a3, .ref a4, .ref a5, .ref a6, .ref a7, .ref a8, .ref a9, .ref a10])), (a4, .inl (cI, 4, .inl lt))]) [1, 0] (by decide) rfl
  clear hPc hDc hFc hP1 hK1 hD1 hk1 hz1
  generalize H1 = H at hP hS ⊢
  refine lv_if_eq (tgt := 24) hx hb dX2_also_19 (by decide) (fun c_2 => ?_) (fun c_2 => absurd (by decide) c_2)
  refine lv_aload_n hx hb dX2_also_24 rfl (lv_at hl 0 rfl) ?_
  refine va_get (D := (dC, dI)) (ci := 2) (v := .ref a4) (C := "TextureUnitsModel") (T := TX2) (N := 11) hx hb hts (tw_s inX2) hown hK hP 0 rfl rfl 4 (by decide) (hts _ (tw_c tw_337)) (fun _ h9 => h9) rfl dX2_also_25 ?_
  refine lv_iload_n hx hb dX2_also_28 rfl (lv_at hl 1 rfl) ?_
  refine va_iald hx hb hK hP 1 0 rfl rfl (tu_win_in h0 (by decide)) dX2_also_29 ?_
  have hP9 : va_P (dC, dI) vwCl [(o, .inr (2, [.int 0, .ref a1, .ref a2, .ref a3, .ref a4, .ref a5, .ref a6, .ref a7, .ref a8, .ref a9, .ref a10])), (a4, .inl (cI, 4, .inl lt))] H := hP.sub [0, 1] rfl
  have hD9 : va_D A [(o, .inr (2, [.int 0, .ref a1, .ref a2, .ref a3, .ref a4, .ref a5, .ref a6, .ref a7, .ref a8, .ref a9, .ref a10])), (a4, .inl (cI, 4, .inl lt))] := hD.sub [0, 1] (by decide) rfl
  have hK9 : va_K (dC, dI) vwCl [(cI, .int)] s := hK.sub [0] rfl
  exact W.iret (v := (lt p0.toNatClampNeg)) hx hb hr (fun t ht hW => ⟨⟨(lt p0.toNatClampNeg), (), rfl, rfl, by rw [ht]; exact hP9, va_K.moved hW.alike hK9, hD9⟩, hS.F ht⟩) hS.2.2 dX2_also_30
set_option maxHeartbeats 4000000 in
set_option maxRecDepth 100000 in
theorem m_picture1 (l : Launch) (dC : Nat → ClassId) (dI : Nat → Nat → Nat) (o : Nat) (th : Int32) (a1 a2 a3 a4 a5 a6 a7 a8 a9 a10 : Nat) (p0 p1 p2 p3 p4 p5 : Int32) (sz : Nat) (h0 : tu_win p0 0 3 = 0) : Met l yX2_picture wsX2_picture ({ frames := 1, cells := 0, slots := 0, locals := 22 }) (va_Pc [.ref o, .int p0, .int p1, .int p2, .int p3, .int p4, .int p5] (wr_P (dC, dI) vwCl [(o, .inr (2, [.int th, .ref a1, .ref a2, .ref a3, .ref a4, .ref a5, .ref a6, .ref a7, .ref a8, .ref a9, .ref a10]))] [] sz)) (va_Qv (fun _ : Unit => True) (wr_B (dC, dI) vwCl [(o, .inr (2, [.int 1, .ref a1, .ref a2, .ref a3, .ref a4, .ref a5, .ref a6, .ref a7, .ref a8, .ref a9, .ref a10]))] [] (va_A [(o, .inr (2, [.int th, .ref a1, .ref a2, .ref a3, .ref a4, .ref a5, .ref a6, .ref a7, .ref a8, .ref a9, .ref a10]))] sz)) (va_A [(o, .inr (2, [.int th, .ref a1, .ref a2, .ref a3, .ref a4, .ref a5, .ref a6, .ref a7, .ref a8, .ref a9, .ref a10]))] sz)) 0 0 (va_A [(o, .inr (2, [.int th, .ref a1, .ref a2, .ref a3, .ref a4, .ref a5, .ref a6, .ref a7, .ref a8, .ref a9, .ref a10]))] sz) := by
  refine Met.ofW (cc := cX2_picture) (maxL := 8) (ret := none) (by decide) rfl ?_
  intro p e s m args below meth c s₁ B hml hv
  obtain ⟨rfl, hsz, hP, hK, hD0⟩ := hv
  have hx := B.exec
  have hb := B.bytes
  have hr := B.returns
  have hts := atoms_spec (ws := wsX2_picture) B.pre
  have hown : s.vm.findClass "TextureUnitsModel" = some m.cls := findClass_of_methodNamed B.named
  have hlocks := B.notSynchronized
  subst hsz
  have hD := hD0.self (sz := s.heap.size)
  generalize hAe : va_A [(o, .inr (2, [.int th, .ref a1, .ref a2, .ref a3, .ref a4, .ref a5, .ref a6, .ref a7, .ref a8, .ref a9, .ref a10]))] s.heap.size = A at hD ⊢
  have hA : ∀ q : Nat, s.heap.size ≤ q → A q := fun q h => by rw [← hAe]; exact Or.inr h
  have hS : va_S A s.heap s.heap [] := va_S.rf
  have hP : va_P (dC, dI) vwCl [(o, .inr (2, [.int th, .ref a1, .ref a2, .ref a3, .ref a4, .ref a5, .ref a6, .ref a7, .ref a8, .ref a9, .ref a10]))] s.heap := hP
  have hl := lv_entry ([.ref o, .int p0, .int p1, .int p2, .int p3, .int p4, .int p5]) (n := 8) (Nat.le_of_ble_eq_true rfl)
  rw [lg_entry_eq]
  generalize (lg_sl ([.ref o, .int p0, .int p1, .int p2, .int p3, .int p4, .int p5]) ++ List.replicate (8 - (lg_sl ([.ref o, .int p0, .int p1, .int p2, .int p3, .int p4, .int p5])).length) Slot.unset).toArray = ls at hl ⊢
  have hl : lv_has ls 8 [(0, .ref o), (1, .int p0), (2, .int p1), (3, .int p2), (4, .int p3), (5, .int p4), (6, .int p5)] := hl
  refine lv_iload_n hx hb dX2_picture_0 rfl (lv_at hl 2 rfl) ?_
  refine lv_if_lt (tgt := 51) hx hb dX2_picture_1 (by decide) (fun c_1 => ?_) (fun c_1 => ?_)
  · refine lv_iconst (v := 0) hx hb dX2_picture_51 (by decide) ?_
    refine lv_istore (lv' := [(7, .int 0), (0, .ref o), (1, .int p0), (2, .int p1), (3, .int p2), (4, .int p3), (5, .int p4), (6, .int p5)]) hx hb dX2_picture_52 hl (by decide) rfl (fun ls hl => ?_)
    refine lv_aload_n hx hb dX2_picture_54 rfl (lv_at hl 1 rfl) ?_
    refine lv_iload_n hx hb dX2_picture_55 rfl (lv_at hl 2 rfl) ?_
    refine lv_iconst (v := 0) hx hb dX2_picture_56 (by decide) ?_
    refine lv_iconst (v := 3) hx hb dX2_picture_57 (by decide) ?_
    refine rd_call (W.runS (As := [.int p0, .int 0, .int 3]) (rest := [.ref o]) ⟨hx, hb, hml, hown, hts⟩ (m_in l p0 0 3) (va_cwS 3 hts (tg_S tw_375 tw_376 tw_3 tw_377) rfl rfl rfl (by decide +kernel) ⟨Nat.le_of_ble_eq_true rfl, Nat.le_of_ble_eq_true rfl⟩) preEq rfl rfl hl.1 rfl (lv_room (Nat.le_of_ble_eq_true rfl)) dX2_picture_58 ⟨Nat.le_of_ble_eq_true rfl, Nat.le_of_ble_eq_true rfl⟩) ?_
    refine lv_if_ne (tgt := 68) hx hb dX2_picture_61 (by decide) (fun c_2 => absurd h0 c_2) (fun c_2 => ?_)
    refine lv_iconst (v := 1) hx hb dX2_picture_64 (by decide) ?_
    refine lv_goto (tgt := 69) hx hb dX2_picture_65 (by decide) ?_
    refine lv_iload hx hb dX2_picture_69 (lv_at hl 0 rfl) ?_
    refine lv_if_ne (tgt := 78) hx hb dX2_picture_71 (by decide) (fun c_3 => absurd (by decide) c_3) (fun c_3 => ?_)
    refine lv_iconst (v := 1) hx hb dX2_picture_74 (by decide) ?_
    refine lv_goto (tgt := 79) hx hb dX2_picture_75 (by decide) ?_
    have hPc := hP.sub (ws' := [(o, .inr (2, [.int th, .ref a1, .ref a2, .ref a3, .ref a4, .ref a5, .ref a6, .ref a7, .ref a8, .ref a9, .ref a10]))]) [0] rfl
    have hDc := hD.sub (ws' := [(o, .inr (2, [.int th, .ref a1, .ref a2, .ref a3, .ref a4, .ref a5, .ref a6, .ref a7, .ref a8, .ref a9, .ref a10]))]) [0] (by decide) rfl
    have hFc := va_free (wc := [(o, .inr (2, [.int th, .ref a1, .ref a2, .ref a3, .ref a4, .ref a5, .ref a6, .ref a7, .ref a8, .ref a9, .ref a10]))]) hD hS hA [0] rfl
    refine va_calli (va_runV (As := [.int 1, .int 1]) (rest := []) ⟨hx, hb, hml, hown, hts⟩ (m_refuse1 l dC dI o th a1 a2 a3 a4 a5 a6 a7 a8 a9 a10 1 1 s.heap.size (by decide)) (cwV 2 hts (tg_V tw_378 tw_380 tw_p8 tw_3 tw_381) rfl rfl rfl (by decide +kernel) ⟨Nat.le_of_ble_eq_true rfl, Nat.le_of_ble_eq_true rfl⟩) ⟨wr_blind, va_recv hK hP (ci := 2) (q0 := 0) rfl rfl, fun U hU hW => ⟨rfl, wr_use hPc (hK.sub [] rfl) hDc U hU hW⟩⟩ rfl rfl hl.1 rfl (lv_room (Nat.le_of_ble_eq_true rfl)) dX2_picture_79 ⟨Nat.le_of_ble_eq_true rfl, Nat.le_of_ble_eq_true rfl⟩) hS (fun q _ h => hFc q h) hFc (fun r9 u9 t9 H1 locs ht hvm hw hB hz1 hk1 hS => ?_)
    obtain ⟨hP1, hK1, hD1⟩ := hB
    rw [ht] at hP1
    subst hw
    obtain ⟨hP, hD⟩ := va_join (wr := []) (w1 := [(o, .inr (2, [.int 1, .ref a1, .ref a2, .ref a3, .ref a4, .ref a5, .ref a6, .ref a7, .ref a8, .ref a9, .ref a10]))]) hP hD [0] [] rfl rfl (by decide) (by decide) hk1 hFc hP1 hD1
    have hP := hP.sub (ws' := [(o, .inr (2, [.int 1, .ref a1, .ref a2, .ref a3, .ref a4, .ref a5, .ref a6, .ref a7, .ref a8, .ref a9, .ref a10]))]) [0] rfl
    have hD := hD.sub (ws' := [(o, .inr (2, [.int 1, .ref a1, .ref a2, .ref a3, .ref a4, .ref a5, .ref a6, .ref a7, .ref a8, .ref a9, .ref a10]))]) [0] (by decide) rfl
    clear hPc hDc hFc hP1 hK1 hD1 hk1 hz1
    generalize H1 = H at hP hS ⊢
    refine lv_if_eq (tgt := 86) hx hb dX2_picture_82 (by decide) (fun c_4 => absurd c_4 (by decide)) (fun c_4 => ?_)
    have hP9 : va_P (dC, dI) vwCl [(o, .inr (2, [.int 1, .ref a1, .ref a2, .ref a3, .ref a4, .ref a5, .ref a6, .ref a7, .ref a8, .ref a9, .ref a10]))] H := hP.sub [0] rfl
    have hD9 : va_D A [(o, .inr (2, [.int 1, .ref a1, .ref a2, .ref a3, .ref a4, .ref a5, .ref a6, .ref a7, .ref a8, .ref a9, .ref a10]))] := hD.sub [0] (by decide) rfl
    have hK9 : va_K (dC, dI) vwCl [] s := hK.sub [] rfl
    exact W.vret hx hb hr (fun t ht hW => ⟨⟨(), rfl, trivial, by rw [ht]; exact hP9, va_K.moved hW.alike hK9, hD9⟩, hS.F ht⟩) hS.2.2 dX2_picture_85
  · refine lv_iload_n hx hb dX2_picture_4 rfl (lv_at hl 3 rfl) ?_
    refine lv_iconst (v := 0) hx hb dX2_picture_5 (by decide) ?_
    refine lv_bipush (v := 10) hx hb dX2_picture_6 (by decide) ?_
    refine rd_call (W.runS (As := [.int p2, .int 0, .int 10]) (rest := []) ⟨hx, hb, hml, hown, hts⟩ (m_in l p2 0 10) (va_cwS 3 hts (tg_S tw_375 tw_376 tw_3 tw_377) rfl rfl rfl (by decide +kernel) ⟨Nat.le_of_ble_eq_true rfl, Nat.le_of_ble_eq_true rfl⟩) preEq rfl rfl hl.1 rfl (lv_room (Nat.le_of_ble_eq_true rfl)) dX2_picture_8 ⟨Nat.le_of_ble_eq_true rfl, Nat.le_of_ble_eq_true rfl⟩) ?_
    refine lv_if_eq (tgt := 51) hx hb dX2_picture_11 (by decide) (fun c_5 => ?_) (fun c_5 => ?_)
    · refine lv_iconst (v := 0) hx hb dX2_picture_51 (by decide) ?_
      refine lv_istore (lv' := [(7, .int 0), (0, .ref o), (1, .int p0), (2, .int p1), (3, .int p2), (4, .int p3), (5, .int p4), (6, .int p5)]) hx hb dX2_picture_52 hl (by decide) rfl (fun ls hl => ?_)
      refine lv_aload_n hx hb dX2_picture_54 rfl (lv_at hl 1 rfl) ?_
      refine lv_iload_n hx hb dX2_picture_55 rfl (lv_at hl 2 rfl) ?_
      refine lv_iconst (v := 0) hx hb dX2_picture_56 (by decide) ?_
      refine lv_iconst (v := 3) hx hb dX2_picture_57 (by decide) ?_
      refine rd_call (W.runS (As := [.int p0, .int 0, .int 3]) (rest := [.ref o]) ⟨hx, hb, hml, hown, hts⟩ (m_in l p0 0 3) (va_cwS 3 hts (tg_S tw_375 tw_376 tw_3 tw_377) rfl rfl rfl (by decide +kernel) ⟨Nat.le_of_ble_eq_true rfl, Nat.le_of_ble_eq_true rfl⟩) preEq rfl rfl hl.1 rfl (lv_room (Nat.le_of_ble_eq_true rfl)) dX2_picture_58 ⟨Nat.le_of_ble_eq_true rfl, Nat.le_of_ble_eq_true rfl⟩) ?_
      refine lv_if_ne (tgt := 68) hx hb dX2_picture_61 (by decide) (fun c_6 => absurd h0 c_6) (fun c_6 => ?_)
      refine lv_iconst (v := 1) hx hb dX2_picture_64 (by decide) ?_
      refine lv_goto (tgt := 69) hx hb dX2_picture_65 (by decide) ?_
      refine lv_iload hx hb dX2_picture_69 (lv_at hl 0 rfl) ?_
      refine lv_if_ne (tgt := 78) hx hb dX2_picture_71 (by decide) (fun c_7 => absurd (by decide) c_7) (fun c_7 => ?_)
      refine lv_iconst (v := 1) hx hb dX2_picture_74 (by decide) ?_
      refine lv_goto (tgt := 79) hx hb dX2_picture_75 (by decide) ?_
      have hPc := hP.sub (ws' := [(o, .inr (2, [.int th, .ref a1, .ref a2, .ref a3, .ref a4, .ref a5, .ref a6, .ref a7, .ref a8, .ref a9, .ref a10]))]) [0] rfl
      have hDc := hD.sub (ws' := [(o, .inr (2, [.int th, .ref a1, .ref a2, .ref a3, .ref a4, .ref a5, .ref a6, .ref a7, .ref a8, .ref a9, .ref a10]))]) [0] (by decide) rfl
      have hFc := va_free (wc := [(o, .inr (2, [.int th, .ref a1, .ref a2, .ref a3, .ref a4, .ref a5, .ref a6, .ref a7, .ref a8, .ref a9, .ref a10]))]) hD hS hA [0] rfl
      refine va_calli (va_runV (As := [.int 1, .int 1]) (rest := []) ⟨hx, hb, hml, hown, hts⟩ (m_refuse1 l dC dI o th a1 a2 a3 a4 a5 a6 a7 a8 a9 a10 1 1 s.heap.size (by decide)) (cwV 2 hts (tg_V tw_378 tw_380 tw_p8 tw_3 tw_381) rfl rfl rfl (by decide +kernel) ⟨Nat.le_of_ble_eq_true rfl, Nat.le_of_ble_eq_true rfl⟩) ⟨wr_blind, va_recv hK hP (ci := 2) (q0 := 0) rfl rfl, fun U hU hW => ⟨rfl, wr_use hPc (hK.sub [] rfl) hDc U hU hW⟩⟩ rfl rfl hl.1 rfl (lv_room (Nat.le_of_ble_eq_true rfl)) dX2_picture_79 ⟨Nat.le_of_ble_eq_true rfl, Nat.le_of_ble_eq_true rfl⟩) hS (fun q _ h => hFc q h) hFc (fun r9 u9 t9 H1 locs ht hvm hw hB hz1 hk1 hS => ?_)
      obtain ⟨hP1, hK1, hD1⟩ := hB
      rw [ht] at hP1
      subst hw
      obtain ⟨hP, hD⟩ := va_join (wr := []) (w1 := [(o, .inr (2, [.int 1, .ref a1, .ref a2, .ref a3, .ref a4, .ref a5, .ref a6, .ref a7, .ref a8, .ref a9, .ref a10]))]) hP hD [0] [] rfl rfl (by decide) (by decide) hk1 hFc hP1 hD1
      have hP := hP.sub (ws' := [(o, .inr (2, [.int 1, .ref a1, .ref a2, .ref a3, .ref a4, .ref a5, .ref a6, .ref a7, .ref a8, .ref a9, .ref a10]))]) [0] rfl
      have hD := hD.sub (ws' := [(o, .inr (2, [.int 1, .ref a1, .ref a2, .ref a3, .ref a4, .ref a5, .ref a6, .ref a7, .ref a8, .ref a9, .ref a10]))]) [0] (by decide) rfl
      clear hPc hDc hFc hP1 hK1 hD1 hk1 hz1
      generalize H1 = H at hP hS ⊢
      refine lv_if_eq (tgt := 86) hx hb dX2_picture_82 (by decide) (fun c_8 => absurd c_8 (by decide)) (fun c_8 => ?_)
      have hP9 : va_P (dC, dI) vwCl [(o, .inr (2, [.int 1, .ref a1, .ref a2, .ref a3, .ref a4, .ref a5, .ref a6, .ref a7, .ref a8, .ref a9, .ref a10]))] H := hP.sub [0] rfl
      have hD9 : va_D A [(o, .inr (2, [.int 1, .ref a1, .ref a2, .ref a3, .ref a4, .ref a5, .ref a6, .ref a7, .ref a8, .ref a9, .ref a10]))] := hD.sub [0] (by decide) rfl
      have hK9 : va_K (dC, dI) vwCl [] s := hK.sub [] rfl
      exact W.vret hx hb hr (fun t ht hW => ⟨⟨(), rfl, trivial, by rw [ht]; exact hP9, va_K.moved hW.alike hK9, hD9⟩, hS.F ht⟩) hS.2.2 dX2_picture_85
    · refine lv_iload hx hb dX2_picture_14 (lv_at hl 4 rfl) ?_
      refine lv_iconst (v := 0) hx hb dX2_picture_16 (by decide) ?_
      refine lv_bipush (v := 10) hx hb dX2_picture_17 (by decide) ?_
      refine rd_call (W.runS (As := [.int p3, .int 0, .int 10]) (rest := []) ⟨hx, hb, hml, hown, hts⟩ (m_in l p3 0 10) (va_cwS 3 hts (tg_S tw_375 tw_376 tw_3 tw_377) rfl rfl rfl (by decide +kernel) ⟨Nat.le_of_ble_eq_true rfl, Nat.le_of_ble_eq_true rfl⟩) preEq rfl rfl hl.1 rfl (lv_room (Nat.le_of_ble_eq_true rfl)) dX2_picture_19 ⟨Nat.le_of_ble_eq_true rfl, Nat.le_of_ble_eq_true rfl⟩) ?_
      refine lv_if_eq (tgt := 51) hx hb dX2_picture_22 (by decide) (fun c_9 => ?_) (fun c_9 => ?_)
      · refine lv_iconst (v := 0) hx hb dX2_picture_51 (by decide) ?_
        refine lv_istore (lv' := [(7, .int 0), (0, .ref o), (1, .int p0), (2, .int p1), (3, .int p2), (4, .int p3), (5, .int p4), (6, .int p5)]) hx hb dX2_picture_52 hl (by decide) rfl (fun ls hl => ?_)
        refine lv_aload_n hx hb dX2_picture_54 rfl (lv_at hl 1 rfl) ?_
        refine lv_iload_n hx hb dX2_picture_55 rfl (lv_at hl 2 rfl) ?_
        refine lv_iconst (v := 0) hx hb dX2_picture_56 (by decide) ?_
        refine lv_iconst (v := 3) hx hb dX2_picture_57 (by decide) ?_
        refine rd_call (W.runS (As := [.int p0, .int 0, .int 3]) (rest := [.ref o]) ⟨hx, hb, hml, hown, hts⟩ (m_in l p0 0 3) (va_cwS 3 hts (tg_S tw_375 tw_376 tw_3 tw_377) rfl rfl rfl (by decide +kernel) ⟨Nat.le_of_ble_eq_true rfl, Nat.le_of_ble_eq_true rfl⟩) preEq rfl rfl hl.1 rfl (lv_room (Nat.le_of_ble_eq_true rfl)) dX2_picture_58 ⟨Nat.le_of_ble_eq_true rfl, Nat.le_of_ble_eq_true rfl⟩) ?_
        refine lv_if_ne (tgt := 68) hx hb dX2_picture_61 (by decide) (fun c_10 => absurd h0 c_10) (fun c_10 => ?_)
        refine lv_iconst (v := 1) hx hb dX2_picture_64 (by decide) ?_
        refine lv_goto (tgt := 69) hx hb dX2_picture_65 (by decide) ?_
        refine lv_iload hx hb dX2_picture_69 (lv_at hl 0 rfl) ?_
        refine lv_if_ne (tgt := 78) hx hb dX2_picture_71 (by decide) (fun c_11 => absurd (by decide) c_11) (fun c_11 => ?_)
        refine lv_iconst (v := 1) hx hb dX2_picture_74 (by decide) ?_
        refine lv_goto (tgt := 79) hx hb dX2_picture_75 (by decide) ?_
        have hPc := hP.sub (ws' := [(o, .inr (2, [.int th, .ref a1, .ref a2, .ref a3, .ref a4, .ref a5, .ref a6, .ref a7, .ref a8, .ref a9, .ref a10]))]) [0] rfl
        have hDc := hD.sub (ws' := [(o, .inr (2, [.int th, .ref a1, .ref a2, .ref a3, .ref a4, .ref a5, .ref a6, .ref a7, .ref a8, .ref a9, .ref a10]))]) [0] (by decide) rfl
        have hFc := va_free (wc := [(o, .inr (2, [.int th, .ref a1, .ref a2, .ref a3, .ref a4, .ref a5, .ref a6, .ref a7, .ref a8, .ref a9, .ref a10]))]) hD hS hA [0] rfl
        refine va_calli (va_runV (As := [.int 1, .int 1]) (rest := []) ⟨hx, hb, hml, hown, hts⟩ (m_refuse1 l dC dI o th a1 a2 a3 a4 a5 a6 a7 a8 a9 a10 1 1 s.heap.size (by decide)) (cwV 2 hts (tg_V tw_378 tw_380 tw_p8 tw_3 tw_381) rfl rfl rfl (by decide +kernel) ⟨Nat.le_of_ble_eq_true rfl, Nat.le_of_ble_eq_true rfl⟩) ⟨wr_blind, va_recv hK hP (ci := 2) (q0 := 0) rfl rfl, fun U hU hW => ⟨rfl, wr_use hPc (hK.sub [] rfl) hDc U hU hW⟩⟩ rfl rfl hl.1 rfl (lv_room (Nat.le_of_ble_eq_true rfl)) dX2_picture_79 ⟨Nat.le_of_ble_eq_true rfl, Nat.le_of_ble_eq_true rfl⟩) hS (fun q _ h => hFc q h) hFc (fun r9 u9 t9 H1 locs ht hvm hw hB hz1 hk1 hS => ?_)
        obtain ⟨hP1, hK1, hD1⟩ := hB
        rw [ht] at hP1
        subst hw
        obtain ⟨hP, hD⟩ := va_join (wr := []) (w1 := [(o, .inr (2, [.int 1, .ref a1, .ref a2, .ref a3, .ref a4, .ref a5, .ref a6, .ref a7, .ref a8, .ref a9, .ref a10]))]) hP hD [0] [] rfl rfl (by decide) (by decide) hk1 hFc hP1 hD1
        have hP := hP.sub (ws' := [(o, .inr (2, [.int 1, .ref a1, .ref a2, .ref a3, .ref a4, .ref a5, .ref a6, .ref a7, .ref a8, .ref a9, .ref a10]))]) [0] rfl
        have hD := hD.sub (ws' := [(o, .inr (2, [.int 1, .ref a1, .ref a2, .ref a3, .ref a4, .ref a5, .ref a6, .ref a7, .ref a8, .ref a9, .ref a10]))]) [0] (by decide) rfl
        clear hPc hDc hFc hP1 hK1 hD1 hk1 hz1
        generalize H1 = H at hP hS ⊢
        refine lv_if_eq (tgt := 86) hx hb dX2_picture_82 (by decide) (fun c_12 => absurd c_12 (by decide)) (fun c_12 => ?_)
        have hP9 : va_P (dC, dI) vwCl [(o, .inr (2, [.int 1, .ref a1, .ref a2, .ref a3, .ref a4, .ref a5, .ref a6, .ref a7, .ref a8, .ref a9, .ref a10]))] H := hP.sub [0] rfl
        have hD9 : va_D A [(o, .inr (2, [.int 1, .ref a1, .ref a2, .ref a3, .ref a4, .ref a5, .ref a6, .ref a7, .ref a8, .ref a9, .ref a10]))] := hD.sub [0] (by decide) rfl
        have hK9 : va_K (dC, dI) vwCl [] s := hK.sub [] rfl
        exact W.vret hx hb hr (fun t ht hW => ⟨⟨(), rfl, trivial, by rw [ht]; exact hP9, va_K.moved hW.alike hK9, hD9⟩, hS.F ht⟩) hS.2.2 dX2_picture_85
      · refine lv_iload hx hb dX2_picture_25 (lv_at hl 5 rfl) ?_
        refine lv_iconst (v := 1) hx hb dX2_picture_27 (by decide) ?_
        refine lv_bipush (v := 11) hx hb dX2_picture_28 (by decide) ?_
        refine rd_call (W.runS (As := [.int p4, .int 1, .int 11]) (rest := []) ⟨hx, hb, hml, hown, hts⟩ (m_in l p4 1 11) (va_cwS 3 hts (tg_S tw_375 tw_376 tw_3 tw_377) rfl rfl rfl (by decide +kernel) ⟨Nat.le_of_ble_eq_true rfl, Nat.le_of_ble_eq_true rfl⟩) preEq rfl rfl hl.1 rfl (lv_room (Nat.le_of_ble_eq_true rfl)) dX2_picture_30 ⟨Nat.le_of_ble_eq_true rfl, Nat.le_of_ble_eq_true rfl⟩) ?_
        refine lv_if_eq (tgt := 51) hx hb dX2_picture_33 (by decide) (fun c_13 => ?_) (fun c_13 => ?_)
        · refine lv_iconst (v := 0) hx hb dX2_picture_51 (by decide) ?_
          refine lv_istore (lv' := [(7, .int 0), (0, .ref o), (1, .int p0), (2, .int p1), (3, .int p2), (4, .int p3), (5, .int p4), (6, .int p5)]) hx hb dX2_picture_52 hl (by decide) rfl (fun ls hl => ?_)
          refine lv_aload_n hx hb dX2_picture_54 rfl (lv_at hl 1 rfl) ?_
          refine lv_iload_n hx hb dX2_picture_55 rfl (lv_at hl 2 rfl) ?_
          refine lv_iconst (v := 0) hx hb dX2_picture_56 (by decide) ?_
          refine lv_iconst (v := 3) hx hb dX2_picture_57 (by decide) ?_
          refine rd_call (W.runS (As := [.int p0, .int 0, .int 3]) (rest := [.ref o]) ⟨hx, hb, hml, hown, hts⟩ (m_in l p0 0 3) (va_cwS 3 hts (tg_S tw_375 tw_376 tw_3 tw_377) rfl rfl rfl (by decide +kernel) ⟨Nat.le_of_ble_eq_true rfl, Nat.le_of_ble_eq_true rfl⟩) preEq rfl rfl hl.1 rfl (lv_room (Nat.le_of_ble_eq_true rfl)) dX2_picture_58 ⟨Nat.le_of_ble_eq_true rfl, Nat.le_of_ble_eq_true rfl⟩) ?_
          refine lv_if_ne (tgt := 68) hx hb dX2_picture_61 (by decide) (fun c_14 => absurd h0 c_14) (fun c_14 => ?_)
          refine lv_iconst (v := 1) hx hb dX2_picture_64 (by decide) ?_
          refine lv_goto (tgt := 69) hx hb dX2_picture_65 (by decide) ?_
          refine lv_iload hx hb dX2_picture_69 (lv_at hl 0 rfl) ?_
          refine lv_if_ne (tgt := 78) hx hb dX2_picture_71 (by decide) (fun c_15 => absurd (by decide) c_15) (fun c_15 => ?_)
          refine lv_iconst (v := 1) hx hb dX2_picture_74 (by decide) ?_
          refine lv_goto (tgt := 79) hx hb dX2_picture_75 (by decide) ?_
          have hPc := hP.sub (ws' := [(o, .inr (2, [.int th, .ref a1, .ref a2, .ref a3, .ref a4, .ref a5, .ref a6, .ref a7, .ref a8, .ref a9, .ref a10]))]) [0] rfl
          have hDc := hD.sub (ws' := [(o, .inr (2, [.int th, .ref a1, .ref a2, .ref a3, .ref a4, .ref a5, .ref a6, .ref a7, .ref a8, .ref a9, .ref a10]))]) [0] (by decide) rfl
          have hFc := va_free (wc := [(o, .inr (2, [.int th, .ref a1, .ref a2, .ref a3, .ref a4, .ref a5, .ref a6, .ref a7, .ref a8, .ref a9, .ref a10]))]) hD hS hA [0] rfl
          refine va_calli (va_runV (As := [.int 1, .int 1]) (rest := []) ⟨hx, hb, hml, hown, hts⟩ (m_refuse1 l dC dI o th a1 a2 a3 a4 a5 a6 a7 a8 a9 a10 1 1 s.heap.size (by decide)) (cwV 2 hts (tg_V tw_378 tw_380 tw_p8 tw_3 tw_381) rfl rfl rfl (by decide +kernel) ⟨Nat.le_of_ble_eq_true rfl, Nat.le_of_ble_eq_true rfl⟩) ⟨wr_blind, va_recv hK hP (ci := 2) (q0 := 0) rfl rfl, fun U hU hW => ⟨rfl, wr_use hPc (hK.sub [] rfl) hDc U hU hW⟩⟩ rfl rfl hl.1 rfl (lv_room (Nat.le_of_ble_eq_true rfl)) dX2_picture_79 ⟨Nat.le_of_ble_eq_true rfl, Nat.le_of_ble_eq_true rfl⟩) hS (fun q _ h => hFc q h) hFc (fun r9 u9 t9 H1 locs ht hvm hw hB hz1 hk1 hS => ?_)
          obtain ⟨hP1, hK1, hD1⟩ := hB
          rw [ht] at hP1
          subst hw
          obtain ⟨hP, hD⟩ := va_join (wr := []) (w1 := [(o, .inr (2, [.int 1, .ref a1, .ref a2, .ref a3, .ref a4, .ref a5, .ref a6, .ref a7, .ref a8, .ref a9, .ref a10]))]) hP hD [0] [] rfl rfl (by decide) (by decide) hk1 hFc hP1 hD1
          have hP := hP.sub (ws' := [(o, .inr (2, [.int 1, .ref a1, .ref a2, .ref a3, .ref a4, .ref a5, .ref a6, .ref a7, .ref a8, .ref a9, .ref a10]))]) [0] rfl
          have hD := hD.sub (ws' := [(o, .inr (2, [.int 1, .ref a1, .ref a2, .ref a3, .ref a4, .ref a5, .ref a6, .ref a7, .ref a8, .ref a9, .ref a10]))]) [0] (by decide) rfl
          clear hPc hDc hFc hP1 hK1 hD1 hk1 hz1
          generalize H1 = H at hP hS ⊢
          refine lv_if_eq (tgt := 86) hx hb dX2_picture_82 (by decide) (fun c_16 => absurd c_16 (by decide)) (fun c_16 => ?_)
          have hP9 : va_P (dC, dI) vwCl [(o, .inr (2, [.int 1, .ref a1, .ref a2, .ref a3, .ref a4, .ref a5, .ref a6, .ref a7, .ref a8, .ref a9, .ref a10]))] H := hP.sub [0] rfl
          have hD9 : va_D A [(o, .inr (2, [.int 1, .ref a1, .ref a2, .ref a3, .ref a4, .ref a5, .ref a6, .ref a7, .ref a8, .ref a9, .ref a10]))] := hD.sub [0] (by decide) rfl
          have hK9 : va_K (dC, dI) vwCl [] s := hK.sub [] rfl
          exact W.vret hx hb hr (fun t ht hW => ⟨⟨(), rfl, trivial, by rw [ht]; exact hP9, va_K.moved hW.alike hK9, hD9⟩, hS.F ht⟩) hS.2.2 dX2_picture_85
        · refine lv_iload hx hb dX2_picture_36 (lv_at hl 6 rfl) ?_
          refine lv_iconst (v := 0) hx hb dX2_picture_38 (by decide) ?_
          refine lv_bipush (v := 7) hx hb dX2_picture_39 (by decide) ?_
          refine rd_call (W.runS (As := [.int p5, .int 0, .int 7]) (rest := []) ⟨hx, hb, hml, hown, hts⟩ (m_in l p5 0 7) (va_cwS 3 hts (tg_S tw_375 tw_376 tw_3 tw_377) rfl rfl rfl (by decide +kernel) ⟨Nat.le_of_ble_eq_true rfl, Nat.le_of_ble_eq_true rfl⟩) preEq rfl rfl hl.1 rfl (lv_room (Nat.le_of_ble_eq_true rfl)) dX2_picture_41 ⟨Nat.le_of_ble_eq_true rfl, Nat.le_of_ble_eq_true rfl⟩) ?_
          refine lv_if_eq (tgt := 51) hx hb dX2_picture_44 (by decide) (fun c_17 => ?_) (fun c_17 => ?_)
          · refine lv_iconst (v := 0) hx hb dX2_picture_51 (by decide) ?_
            refine lv_istore (lv' := [(7, .int 0), (0, .ref o), (1, .int p0), (2, .int p1), (3, .int p2), (4, .int p3), (5, .int p4), (6, .int p5)]) hx hb dX2_picture_52 hl (by decide) rfl (fun ls hl => ?_)
            refine lv_aload_n hx hb dX2_picture_54 rfl (lv_at hl 1 rfl) ?_
            refine lv_iload_n hx hb dX2_picture_55 rfl (lv_at hl 2 rfl) ?_
            refine lv_iconst (v := 0) hx hb dX2_picture_56 (by decide) ?_
            refine lv_iconst (v := 3) hx hb dX2_picture_57 (by decide) ?_
            refine rd_call (W.runS (As := [.int p0, .int 0, .int 3]) (rest := [.ref o]) ⟨hx, hb, hml, hown, hts⟩ (m_in l p0 0 3) (va_cwS 3 hts (tg_S tw_375 tw_376 tw_3 tw_377) rfl rfl rfl (by decide +kernel) ⟨Nat.le_of_ble_eq_true rfl, Nat.le_of_ble_eq_true rfl⟩) preEq rfl rfl hl.1 rfl (lv_room (Nat.le_of_ble_eq_true rfl)) dX2_picture_58 ⟨Nat.le_of_ble_eq_true rfl, Nat.le_of_ble_eq_true rfl⟩) ?_
            refine lv_if_ne (tgt := 68) hx hb dX2_picture_61 (by decide) (fun c_18 => absurd h0 c_18) (fun c_18 => ?_)
            refine lv_iconst (v := 1) hx hb dX2_picture_64 (by decide) ?_
            refine lv_goto (tgt := 69) hx hb dX2_picture_65 (by decide) ?_
            refine lv_iload hx hb dX2_picture_69 (lv_at hl 0 rfl) ?_
            refine lv_if_ne (tgt := 78) hx hb dX2_picture_71 (by decide) (fun c_19 => absurd (by decide) c_19) (fun c_19 => ?_)
            refine lv_iconst (v := 1) hx hb dX2_picture_74 (by decide) ?_
            refine lv_goto (tgt := 79) hx hb dX2_picture_75 (by decide) ?_
            have hPc := hP.sub (ws' := [(o, .inr (2, [.int th, .ref a1, .ref a2, .ref a3, .ref a4, .ref a5, .ref a6, .ref a7, .ref a8, .ref a9, .ref a10]))]) [0] rfl
            have hDc := hD.sub (ws' := [(o, .inr (2, [.int th, .ref a1, .ref a2, .ref a3, .ref a4, .ref a5, .ref a6, .ref a7, .ref a8, .ref a9, .ref a10]))]) [0] (by decide) rfl
            have hFc := va_free (wc := [(o, .inr (2, [.int th, .ref a1, .ref a2, .ref a3, .ref a4, .ref a5, .ref a6, .ref a7, .ref a8, .ref a9, .ref a10]))]) hD hS hA [0] rfl
            refine va_calli (va_runV (As := [.int 1, .int 1]) (rest := []) ⟨hx, hb, hml, hown, hts⟩ (m_refuse1 l dC dI o th a1 a2 a3 a4 a5 a6 a7 a8 a9 a10 1 1 s.heap.size (by decide)) (cwV 2 hts (tg_V tw_378 tw_380 tw_p8 tw_3 tw_381) rfl rfl rfl (by decide +kernel) ⟨Nat.le_of_ble_eq_true rfl, Nat.le_of_ble_eq_true rfl⟩) ⟨wr_blind, va_recv hK hP (ci := 2) (q0 := 0) rfl rfl, fun U hU hW => ⟨rfl, wr_use hPc (hK.sub [] rfl) hDc U hU hW⟩⟩ rfl rfl hl.1 rfl (lv_room (Nat.le_of_ble_eq_true rfl)) dX2_picture_79 ⟨Nat.le_of_ble_eq_true rfl, Nat.le_of_ble_eq_true rfl⟩) hS (fun q _ h => hFc q h) hFc (fun r9 u9 t9 H1 locs ht hvm hw hB hz1 hk1 hS => ?_)
            obtain ⟨hP1, hK1, hD1⟩ := hB
            rw [ht] at hP1
            subst hw
            obtain ⟨hP, hD⟩ := va_join (wr := []) (w1 := [(o, .inr (2, [.int 1, .ref a1, .ref a2, .ref a3, .ref a4, .ref a5, .ref a6, .ref a7, .ref a8, .ref a9, .ref a10]))]) hP hD [0] [] rfl rfl (by decide) (by decide) hk1 hFc hP1 hD1
            have hP := hP.sub (ws' := [(o, .inr (2, [.int 1, .ref a1, .ref a2, .ref a3, .ref a4, .ref a5, .ref a6, .ref a7, .ref a8, .ref a9, .ref a10]))]) [0] rfl
            have hD := hD.sub (ws' := [(o, .inr (2, [.int 1, .ref a1, .ref a2, .ref a3, .ref a4, .ref a5, .ref a6, .ref a7, .ref a8, .ref a9, .ref a10]))]) [0] (by decide) rfl
            clear hPc hDc hFc hP1 hK1 hD1 hk1 hz1
            generalize H1 = H at hP hS ⊢
            refine lv_if_eq (tgt := 86) hx hb dX2_picture_82 (by decide) (fun c_20 => absurd c_20 (by decide)) (fun c_20 => ?_)
            have hP9 : va_P (dC, dI) vwCl [(o, .inr (2, [.int 1, .ref a1, .ref a2, .ref a3, .ref a4, .ref a5, .ref a6, .ref a7, .ref a8, .ref a9, .ref a10]))] H := hP.sub [0] rfl
            have hD9 : va_D A [(o, .inr (2, [.int 1, .ref a1, .ref a2, .ref a3, .ref a4, .ref a5, .ref a6, .ref a7, .ref a8, .ref a9, .ref a10]))] := hD.sub [0] (by decide) rfl
            have hK9 : va_K (dC, dI) vwCl [] s := hK.sub [] rfl
            exact W.vret hx hb hr (fun t ht hW => ⟨⟨(), rfl, trivial, by rw [ht]; exact hP9, va_K.moved hW.alike hK9, hD9⟩, hS.F ht⟩) hS.2.2 dX2_picture_85
          · refine lv_iconst (v := 1) hx hb dX2_picture_47 (by decide) ?_
            refine lv_goto (tgt := 52) hx hb dX2_picture_48 (by decide) ?_
            refine lv_istore (lv' := [(7, .int 1), (0, .ref o), (1, .int p0), (2, .int p1), (3, .int p2), (4, .int p3), (5, .int p4), (6, .int p5)]) hx hb dX2_picture_52 hl (by decide) rfl (fun ls hl => ?_)
            refine lv_aload_n hx hb dX2_picture_54 rfl (lv_at hl 1 rfl) ?_
            refine lv_iload_n hx hb dX2_picture_55 rfl (lv_at hl 2 rfl) ?_
            refine lv_iconst (v := 0) hx hb dX2_picture_56 (by decide) ?_
            refine lv_iconst (v := 3) hx hb dX2_picture_57 (by decide) ?_
            refine rd_call (W.runS (As := [.int p0, .int 0, .int 3]) (rest := [.ref o]) ⟨hx, hb, hml, hown, hts⟩ (m_in l p0 0 3) (va_cwS 3 hts (tg_S tw_375 tw_376 tw_3 tw_377) rfl rfl rfl (by decide +kernel) ⟨Nat.le_of_ble_eq_true rfl, Nat.le_of_ble_eq_true rfl⟩) preEq rfl rfl hl.1 rfl (lv_room (Nat.le_of_ble_eq_true rfl)) dX2_picture_58 ⟨Nat.le_of_ble_eq_true rfl, Nat.le_of_ble_eq_true rfl⟩) ?_
            refine lv_if_ne (tgt := 68) hx hb dX2_picture_61 (by decide) (fun c_21 => absurd h0 c_21) (fun c_21 => ?_)
            refine lv_iconst (v := 1) hx hb dX2_picture_64 (by decide) ?_
            refine lv_goto (tgt := 69) hx hb dX2_picture_65 (by decide) ?_
            refine lv_iload hx hb dX2_picture_69 (lv_at hl 0 rfl) ?_
            refine lv_if_ne (tgt := 78) hx hb dX2_picture_71 (by decide) (fun c_22 => ?_) (fun c_22 => absurd c_22 (by decide))
            refine lv_iconst (v := 0) hx hb dX2_picture_78 (by decide) ?_
            have hPc := hP.sub (ws' := [(o, .inr (2, [.int th, .ref a1, .ref a2, .ref a3, .ref a4, .ref a5, .ref a6, .ref a7, .ref a8, .ref a9, .ref a10]))]) [0] rfl
            have hDc := hD.sub (ws' := [(o, .inr (2, [.int th, .ref a1, .ref a2, .ref a3, .ref a4, .ref a5, .ref a6, .ref a7, .ref a8, .ref a9, .ref a10]))]) [0] (by decide) rfl
            have hFc := va_free (wc := [(o, .inr (2, [.int th, .ref a1, .ref a2, .ref a3, .ref a4, .ref a5, .ref a6, .ref a7, .ref a8, .ref a9, .ref a10]))]) hD hS hA [0] rfl
            refine va_calli (va_runV (As := [.int 1, .int 0]) (rest := []) ⟨hx, hb, hml, hown, hts⟩ (m_refuse1 l dC dI o th a1 a2 a3 a4 a5 a6 a7 a8 a9 a10 1 0 s.heap.size (by decide)) (cwV 2 hts (tg_V tw_378 tw_380 tw_p8 tw_3 tw_381) rfl rfl rfl (by decide +kernel) ⟨Nat.le_of_ble_eq_true rfl, Nat.le_of_ble_eq_true rfl⟩) ⟨wr_blind, va_recv hK hP (ci := 2) (q0 := 0) rfl rfl, fun U hU hW => ⟨rfl, wr_use hPc (hK.sub [] rfl) hDc U hU hW⟩⟩ rfl rfl hl.1 rfl (lv_room (Nat.le_of_ble_eq_true rfl)) dX2_picture_79 ⟨Nat.le_of_ble_eq_true rfl, Nat.le_of_ble_eq_true rfl⟩) hS (fun q _ h => hFc q h) hFc (fun r9 u9 t9 H1 locs ht hvm hw hB hz1 hk1 hS => ?_)
            obtain ⟨hP1, hK1, hD1⟩ := hB
            rw [ht] at hP1
            subst hw
            obtain ⟨hP, hD⟩ := va_join (wr := []) (w1 := [(o, .inr (2, [.int 1, .ref a1, .ref a2, .ref a3, .ref a4, .ref a5, .ref a6, .ref a7, .ref a8, .ref a9, .ref a10]))]) hP hD [0] [] rfl rfl (by decide) (by decide) hk1 hFc hP1 hD1
            have hP := hP.sub (ws' := [(o, .inr (2, [.int 1, .ref a1, .ref a2, .ref a3, .ref a4, .ref a5, .ref a6, .ref a7, .ref a8, .ref a9, .ref a10]))]) [0] rfl
            have hD := hD.sub (ws' := [(o, .inr (2, [.int 1, .ref a1, .ref a2, .ref a3, .ref a4, .ref a5, .ref a6, .ref a7, .ref a8, .ref a9, .ref a10]))]) [0] (by decide) rfl
            clear hPc hDc hFc hP1 hK1 hD1 hk1 hz1
            generalize H1 = H at hP hS ⊢
            refine lv_if_eq (tgt := 86) hx hb dX2_picture_82 (by decide) (fun c_23 => absurd c_23 (by decide)) (fun c_23 => ?_)
            have hP9 : va_P (dC, dI) vwCl [(o, .inr (2, [.int 1, .ref a1, .ref a2, .ref a3, .ref a4, .ref a5, .ref a6, .ref a7, .ref a8, .ref a9, .ref a10]))] H := hP.sub [0] rfl
            have hD9 : va_D A [(o, .inr (2, [.int 1, .ref a1, .ref a2, .ref a3, .ref a4, .ref a5, .ref a6, .ref a7, .ref a8, .ref a9, .ref a10]))] := hD.sub [0] (by decide) rfl
            have hK9 : va_K (dC, dI) vwCl [] s := hK.sub [] rfl
            exact W.vret hx hb hr (fun t ht hW => ⟨⟨(), rfl, trivial, by rw [ht]; exact hP9, va_K.moved hW.alike hK9, hD9⟩, hS.F ht⟩) hS.2.2 dX2_picture_85
set_option maxHeartbeats 4000000 in
set_option maxRecDepth 100000 in
theorem m_manner1 (l : Launch) (dC : Nat → ClassId) (dI : Nat → Nat → Nat) (o : Nat) (th : Int32) (a1 a2 a3 a4 a5 a6 a7 a8 a9 a10 : Nat) (p0 p1 p2 p3 : Int32) (sz : Nat) (h0 : tu_win p0 0 3 = 0) : Met l yX2_manner wsX2_manner ({ frames := 1, cells := 0, slots := 0, locals := 22 }) (va_Pc [.ref o, .int p0, .int p1, .int p2, .int p3] (wr_P (dC, dI) vwCl [(o, .inr (2, [.int th, .ref a1, .ref a2, .ref a3, .ref a4, .ref a5, .ref a6, .ref a7, .ref a8, .ref a9, .ref a10]))] [] sz)) (va_Qv (fun _ : Unit => True) (wr_B (dC, dI) vwCl [(o, .inr (2, [.int 1, .ref a1, .ref a2, .ref a3, .ref a4, .ref a5, .ref a6, .ref a7, .ref a8, .ref a9, .ref a10]))] [] (va_A [(o, .inr (2, [.int th, .ref a1, .ref a2, .ref a3, .ref a4, .ref a5, .ref a6, .ref a7, .ref a8, .ref a9, .ref a10]))] sz)) (va_A [(o, .inr (2, [.int th, .ref a1, .ref a2, .ref a3, .ref a4, .ref a5, .ref a6, .ref a7, .ref a8, .ref a9, .ref a10]))] sz)) 0 0 (va_A [(o, .inr (2, [.int th, .ref a1, .ref a2, .ref a3, .ref a4, .ref a5, .ref a6, .ref a7, .ref a8, .ref a9, .ref a10]))] sz) := by
  refine Met.ofW (cc := cX2_manner) (maxL := 5) (ret := none) (by decide) rfl ?_
  intro p e s m args below meth c s₁ B hml hv
  obtain ⟨rfl, hsz, hP, hK, hD0⟩ := hv
  have hx := B.exec
  have hb := B.bytes
  have hr := B.returns
  have hts := atoms_spec (ws := wsX2_manner) B.pre
  have hown : s.vm.findClass "TextureUnitsModel" = some m.cls := findClass_of_methodNamed B.named
  have hlocks := B.notSynchronized
  subst hsz
  have hD := hD0.self (sz := s.heap.size)
  generalize hAe : va_A [(o, .inr (2, [.int th, .ref a1, .ref a2, .ref a3, .ref a4, .ref a5, .ref a6, .ref a7, .ref a8, .ref a9, .ref a10]))] s.heap.size = A at hD ⊢
  have hA : ∀ q : Nat, s.heap.size ≤ q → A q := fun q h => by rw [← hAe]; exact Or.inr h
  have hS : va_S A s.heap s.heap [] := va_S.rf
  have hP : va_P (dC, dI) vwCl [(o, .inr (2, [.int th, .ref a1, .ref a2, .ref a3, .ref a4, .ref a5, .ref a6, .ref a7, .ref a8, .ref a9, .ref a10]))] s.heap := hP
  have hl := lv_entry ([.ref o, .int p0, .int p1, .int p2, .int p3]) (n := 5) (Nat.le_of_ble_eq_true rfl)
  rw [lg_entry_eq]
  generalize (lg_sl ([.ref o, .int p0, .int p1, .int p2, .int p3]) ++ List.replicate (5 - (lg_sl ([.ref o, .int p0, .int p1, .int p2, .int p3])).length) Slot.unset).toArray = ls at hl ⊢
  have hl : lv_has ls 5 [(0, .ref o), (1, .int p0), (2, .int p1), (3, .int p2), (4, .int p3)] := hl
  refine lv_aload_n hx hb dX2_manner_0 rfl (lv_at hl 0 rfl) ?_
  refine lv_iload_n hx hb dX2_manner_1 rfl (lv_at hl 1 rfl) ?_
  refine lv_iconst (v := 0) hx hb dX2_manner_2 (by decide) ?_
  refine lv_iconst (v := 3) hx hb dX2_manner_3 (by decide) ?_
  refine rd_call (W.runS (As := [.int p0, .int 0, .int 3]) (rest := [.ref o]) ⟨hx, hb, hml, hown, hts⟩ (m_in l p0 0 3) (va_cwS 3 hts (tg_S tw_375 tw_376 tw_3 tw_377) rfl rfl rfl (by decide +kernel) ⟨Nat.le_of_ble_eq_true rfl, Nat.le_of_ble_eq_true rfl⟩) preEq rfl rfl hl.1 rfl (lv_room (Nat.le_of_ble_eq_true rfl)) dX2_manner_4 ⟨Nat.le_of_ble_eq_true rfl, Nat.le_of_ble_eq_true rfl⟩) ?_
  refine lv_if_ne (tgt := 14) hx hb dX2_manner_7 (by decide) (fun c_1 => absurd h0 c_1) (fun c_1 => ?_)
  refine lv_iconst (v := 1) hx hb dX2_manner_10 (by decide) ?_
  refine lv_goto (tgt := 15) hx hb dX2_manner_11 (by decide) ?_
  refine lv_iload_n hx hb dX2_manner_15 rfl (lv_at hl 2 rfl) ?_
  refine lv_iconst (v := 0) hx hb dX2_manner_16 (by decide) ?_
  refine lv_iconst (v := 3) hx hb dX2_manner_17 (by decide) ?_
  refine rd_call (W.runS (As := [.int p1, .int 0, .int 3]) (rest := [.int 1, .ref o]) ⟨hx, hb, hml, hown, hts⟩ (m_in l p1 0 3) (va_cwS 3 hts (tg_S tw_375 tw_376 tw_3 tw_377) rfl rfl rfl (by decide +kernel) ⟨Nat.le_of_ble_eq_true rfl, Nat.le_of_ble_eq_true rfl⟩) preEq rfl rfl hl.1 rfl (lv_room (Nat.le_of_ble_eq_true rfl)) dX2_manner_18 ⟨Nat.le_of_ble_eq_true rfl, Nat.le_of_ble_eq_true rfl⟩) ?_
  refine lv_if_eq (tgt := 43) hx hb dX2_manner_21 (by decide) (fun c_2 => ?_) (fun c_2 => ?_)
  · refine lv_iconst (v := 1) hx hb dX2_manner_43 (by decide) ?_
    refine lv_goto (tgt := 48) hx hb dX2_manner_44 (by decide) ?_
    have hPc := hP.sub (ws' := [(o, .inr (2, [.int th, .ref a1, .ref a2, .ref a3, .ref a4, .ref a5, .ref a6, .ref a7, .ref a8, .ref a9, .ref a10]))]) [0] rfl
    have hDc := hD.sub (ws' := [(o, .inr (2, [.int th, .ref a1, .ref a2, .ref a3, .ref a4, .ref a5, .ref a6, .ref a7, .ref a8, .ref a9, .ref a10]))]) [0] (by decide) rfl
    have hFc := va_free (wc := [(o, .inr (2, [.int th, .ref a1, .ref a2, .ref a3, .ref a4, .ref a5, .ref a6, .ref a7, .ref a8, .ref a9, .ref a10]))]) hD hS hA [0] rfl
    refine va_calli (va_runV (As := [.int 1, .int 1]) (rest := []) ⟨hx, hb, hml, hown, hts⟩ (m_refuse1 l dC dI o th a1 a2 a3 a4 a5 a6 a7 a8 a9 a10 1 1 s.heap.size (by decide)) (cwV 2 hts (tg_V tw_378 tw_380 tw_p8 tw_3 tw_381) rfl rfl rfl (by decide +kernel) ⟨Nat.le_of_ble_eq_true rfl, Nat.le_of_ble_eq_true rfl⟩) ⟨wr_blind, va_recv hK hP (ci := 2) (q0 := 0) rfl rfl, fun U hU hW => ⟨rfl, wr_use hPc (hK.sub [] rfl) hDc U hU hW⟩⟩ rfl rfl hl.1 rfl (lv_room (Nat.le_of_ble_eq_true rfl)) dX2_manner_48 ⟨Nat.le_of_ble_eq_true rfl, Nat.le_of_ble_eq_true rfl⟩) hS (fun q _ h => hFc q h) hFc (fun r9 u9 t9 H1 locs ht hvm hw hB hz1 hk1 hS => ?_)
    obtain ⟨hP1, hK1, hD1⟩ := hB
    rw [ht] at hP1
    subst hw
    obtain ⟨hP, hD⟩ := va_join (wr := []) (w1 := [(o, .inr (2, [.int 1, .ref a1, .ref a2, .ref a3, .ref a4, .ref a5, .ref a6, .ref a7, .ref a8, .ref a9, .ref a10]))]) hP hD [0] [] rfl rfl (by decide) (by decide) hk1 hFc hP1 hD1
    have hP := hP.sub (ws' := [(o, .inr (2, [.int 1, .ref a1, .ref a2, .ref a3, .ref a4, .ref a5, .ref a6, .ref a7, .ref a8, .ref a9, .ref a10]))]) [0] rfl
    have hD := hD.sub (ws' := [(o, .inr (2, [.int 1, .ref a1, .ref a2, .ref a3, .ref a4, .ref a5, .ref a6, .ref a7, .ref a8, .ref a9, .ref a10]))]) [0] (by decide) rfl
    clear hPc hDc hFc hP1 hK1 hD1 hk1 hz1
    generalize H1 = H at hP hS ⊢
    refine lv_if_eq (tgt := 55) hx hb dX2_manner_51 (by decide) (fun c_3 => absurd c_3 (by decide)) (fun c_3 => ?_)
    have hP9 : va_P (dC, dI) vwCl [(o, .inr (2, [.int 1, .ref a1, .ref a2, .ref a3, .ref a4, .ref a5, .ref a6, .ref a7, .ref a8, .ref a9, .ref a10]))] H := hP.sub [0] rfl
    have hD9 : va_D A [(o, .inr (2, [.int 1, .ref a1, .ref a2, .ref a3, .ref a4, .ref a5, .ref a6, .ref a7, .ref a8, .ref a9, .ref a10]))] := hD.sub [0] (by decide) rfl
    have hK9 : va_K (dC, dI) vwCl [] s := hK.sub [] rfl
    exact W.vret hx hb hr (fun t ht hW => ⟨⟨(), rfl, trivial, by rw [ht]; exact hP9, va_K.moved hW.alike hK9, hD9⟩, hS.F ht⟩) hS.2.2 dX2_manner_54
  · refine lv_iload_n hx hb dX2_manner_24 rfl (lv_at hl 3 rfl) ?_
    refine lv_iconst (v := 0) hx hb dX2_manner_25 (by decide) ?_
    refine lv_iconst (v := 3) hx hb dX2_manner_26 (by decide) ?_
    refine rd_call (W.runS (As := [.int p2, .int 0, .int 3]) (rest := [.int 1, .ref o]) ⟨hx, hb, hml, hown, hts⟩ (m_in l p2 0 3) (va_cwS 3 hts (tg_S tw_375 tw_376 tw_3 tw_377) rfl rfl rfl (by decide +kernel) ⟨Nat.le_of_ble_eq_true rfl, Nat.le_of_ble_eq_true rfl⟩) preEq rfl rfl hl.1 rfl (lv_room (Nat.le_of_ble_eq_true rfl)) dX2_manner_27 ⟨Nat.le_of_ble_eq_true rfl, Nat.le_of_ble_eq_true rfl⟩) ?_
    refine lv_if_eq (tgt := 43) hx hb dX2_manner_30 (by decide) (fun c_4 => ?_) (fun c_4 => ?_)
    · refine lv_iconst (v := 1) hx hb dX2_manner_43 (by decide) ?_
      refine lv_goto (tgt := 48) hx hb dX2_manner_44 (by decide) ?_
      have hPc := hP.sub (ws' := [(o, .inr (2, [.int th, .ref a1, .ref a2, .ref a3, .ref a4, .ref a5, .ref a6, .ref a7, .ref a8, .ref a9, .ref a10]))]) [0] rfl
      have hDc := hD.sub (ws' := [(o, .inr (2, [.int th, .ref a1, .ref a2, .ref a3, .ref a4, .ref a5, .ref a6, .ref a7, .ref a8, .ref a9, .ref a10]))]) [0] (by decide) rfl
      have hFc := va_free (wc := [(o, .inr (2, [.int th, .ref a1, .ref a2, .ref a3, .ref a4, .ref a5, .ref a6, .ref a7, .ref a8, .ref a9, .ref a10]))]) hD hS hA [0] rfl
      refine va_calli (va_runV (As := [.int 1, .int 1]) (rest := []) ⟨hx, hb, hml, hown, hts⟩ (m_refuse1 l dC dI o th a1 a2 a3 a4 a5 a6 a7 a8 a9 a10 1 1 s.heap.size (by decide)) (cwV 2 hts (tg_V tw_378 tw_380 tw_p8 tw_3 tw_381) rfl rfl rfl (by decide +kernel) ⟨Nat.le_of_ble_eq_true rfl, Nat.le_of_ble_eq_true rfl⟩) ⟨wr_blind, va_recv hK hP (ci := 2) (q0 := 0) rfl rfl, fun U hU hW => ⟨rfl, wr_use hPc (hK.sub [] rfl) hDc U hU hW⟩⟩ rfl rfl hl.1 rfl (lv_room (Nat.le_of_ble_eq_true rfl)) dX2_manner_48 ⟨Nat.le_of_ble_eq_true rfl, Nat.le_of_ble_eq_true rfl⟩) hS (fun q _ h => hFc q h) hFc (fun r9 u9 t9 H1 locs ht hvm hw hB hz1 hk1 hS => ?_)
      obtain ⟨hP1, hK1, hD1⟩ := hB
      rw [ht] at hP1
      subst hw
      obtain ⟨hP, hD⟩ := va_join (wr := []) (w1 := [(o, .inr (2, [.int 1, .ref a1, .ref a2, .ref a3, .ref a4, .ref a5, .ref a6, .ref a7, .ref a8, .ref a9, .ref a10]))]) hP hD [0] [] rfl rfl (by decide) (by decide) hk1 hFc hP1 hD1
      have hP := hP.sub (ws' := [(o, .inr (2, [.int 1, .ref a1, .ref a2, .ref a3, .ref a4, .ref a5, .ref a6, .ref a7, .ref a8, .ref a9, .ref a10]))]) [0] rfl
      have hD := hD.sub (ws' := [(o, .inr (2, [.int 1, .ref a1, .ref a2, .ref a3, .ref a4, .ref a5, .ref a6, .ref a7, .ref a8, .ref a9, .ref a10]))]) [0] (by decide) rfl
      clear hPc hDc hFc hP1 hK1 hD1 hk1 hz1
      generalize H1 = H at hP hS ⊢
      refine lv_if_eq (tgt := 55) hx hb dX2_manner_51 (by decide) (fun c_5 => absurd c_5 (by decide)) (fun c_5 => ?_)
      have hP9 : va_P (dC, dI) vwCl [(o, .inr (2, [.int 1, .ref a1, .ref a2, .ref a3, .ref a4, .ref a5, .ref a6, .ref a7, .ref a8, .ref a9, .ref a10]))] H := hP.sub [0] rfl
      have hD9 : va_D A [(o, .inr (2, [.int 1, .ref a1, .ref a2, .ref a3, .ref a4, .ref a5, .ref a6, .ref a7, .ref a8, .ref a9, .ref a10]))] := hD.sub [0] (by decide) rfl
      have hK9 : va_K (dC, dI) vwCl [] s := hK.sub [] rfl
      exact W.vret hx hb hr (fun t ht hW => ⟨⟨(), rfl, trivial, by rw [ht]; exact hP9, va_K.moved hW.alike hK9, hD9⟩, hS.F ht⟩) hS.2.2 dX2_manner_54
    · refine lv_iload hx hb dX2_manner_33 (lv_at hl 4 rfl) ?_
      refine lv_iconst (v := 0) hx hb dX2_manner_35 (by decide) ?_
      refine lv_iconst (v := 3) hx hb dX2_manner_36 (by decide) ?_
      refine rd_call (W.runS (As := [.int p3, .int 0, .int 3]) (rest := [.int 1, .ref o]) ⟨hx, hb, hml, hown, hts⟩ (m_in l p3 0 3) (va_cwS 3 hts (tg_S tw_375 tw_376 tw_3 tw_377) rfl rfl rfl (by decide +kernel) ⟨Nat.le_of_ble_eq_true rfl, Nat.le_of_ble_eq_true rfl⟩) preEq rfl rfl hl.1 rfl (lv_room (Nat.le_of_ble_eq_true rfl)) dX2_manner_37 ⟨Nat.le_of_ble_eq_true rfl, Nat.le_of_ble_eq_true rfl⟩) ?_
      refine lv_if_ne (tgt := 47) hx hb dX2_manner_40 (by decide) (fun c_6 => ?_) (fun c_6 => ?_)
      · refine lv_iconst (v := 0) hx hb dX2_manner_47 (by decide) ?_
        have hPc := hP.sub (ws' := [(o, .inr (2, [.int th, .ref a1, .ref a2, .ref a3, .ref a4, .ref a5, .ref a6, .ref a7, .ref a8, .ref a9, .ref a10]))]) [0] rfl
        have hDc := hD.sub (ws' := [(o, .inr (2, [.int th, .ref a1, .ref a2, .ref a3, .ref a4, .ref a5, .ref a6, .ref a7, .ref a8, .ref a9, .ref a10]))]) [0] (by decide) rfl
        have hFc := va_free (wc := [(o, .inr (2, [.int th, .ref a1, .ref a2, .ref a3, .ref a4, .ref a5, .ref a6, .ref a7, .ref a8, .ref a9, .ref a10]))]) hD hS hA [0] rfl
        refine va_calli (va_runV (As := [.int 1, .int 0]) (rest := []) ⟨hx, hb, hml, hown, hts⟩ (m_refuse1 l dC dI o th a1 a2 a3 a4 a5 a6 a7 a8 a9 a10 1 0 s.heap.size (by decide)) (cwV 2 hts (tg_V tw_378 tw_380 tw_p8 tw_3 tw_381) rfl rfl rfl (by decide +kernel) ⟨Nat.le_of_ble_eq_true rfl, Nat.le_of_ble_eq_true rfl⟩) ⟨wr_blind, va_recv hK hP (ci := 2) (q0 := 0) rfl rfl, fun U hU hW => ⟨rfl, wr_use hPc (hK.sub [] rfl) hDc U hU hW⟩⟩ rfl rfl hl.1 rfl (lv_room (Nat.le_of_ble_eq_true rfl)) dX2_manner_48 ⟨Nat.le_of_ble_eq_true rfl, Nat.le_of_ble_eq_true rfl⟩) hS (fun q _ h => hFc q h) hFc (fun r9 u9 t9 H1 locs ht hvm hw hB hz1 hk1 hS => ?_)
        obtain ⟨hP1, hK1, hD1⟩ := hB
        rw [ht] at hP1
        subst hw
        obtain ⟨hP, hD⟩ := va_join (wr := []) (w1 := [(o, .inr (2, [.int 1, .ref a1, .ref a2, .ref a3, .ref a4, .ref a5, .ref a6, .ref a7, .ref a8, .ref a9, .ref a10]))]) hP hD [0] [] rfl rfl (by decide) (by decide) hk1 hFc hP1 hD1
        have hP := hP.sub (ws' := [(o, .inr (2, [.int 1, .ref a1, .ref a2, .ref a3, .ref a4, .ref a5, .ref a6, .ref a7, .ref a8, .ref a9, .ref a10]))]) [0] rfl
        have hD := hD.sub (ws' := [(o, .inr (2, [.int 1, .ref a1, .ref a2, .ref a3, .ref a4, .ref a5, .ref a6, .ref a7, .ref a8, .ref a9, .ref a10]))]) [0] (by decide) rfl
        clear hPc hDc hFc hP1 hK1 hD1 hk1 hz1
        generalize H1 = H at hP hS ⊢
        refine lv_if_eq (tgt := 55) hx hb dX2_manner_51 (by decide) (fun c_7 => absurd c_7 (by decide)) (fun c_7 => ?_)
        have hP9 : va_P (dC, dI) vwCl [(o, .inr (2, [.int 1, .ref a1, .ref a2, .ref a3, .ref a4, .ref a5, .ref a6, .ref a7, .ref a8, .ref a9, .ref a10]))] H := hP.sub [0] rfl
        have hD9 : va_D A [(o, .inr (2, [.int 1, .ref a1, .ref a2, .ref a3, .ref a4, .ref a5, .ref a6, .ref a7, .ref a8, .ref a9, .ref a10]))] := hD.sub [0] (by decide) rfl
        have hK9 : va_K (dC, dI) vwCl [] s := hK.sub [] rfl
        exact W.vret hx hb hr (fun t ht hW => ⟨⟨(), rfl, trivial, by rw [ht]; exact hP9, va_K.moved hW.alike hK9, hD9⟩, hS.F ht⟩) hS.2.2 dX2_manner_54
      · refine lv_iconst (v := 1) hx hb dX2_manner_43 (by decide) ?_
        refine lv_goto (tgt := 48) hx hb dX2_manner_44 (by decide) ?_
        have hPc := hP.sub (ws' := [(o, .inr (2, [.int th, .ref a1, .ref a2, .ref a3, .ref a4, .ref a5, .ref a6, .ref a7, .ref a8, .ref a9, .ref a10]))]) [0] rfl
        have hDc := hD.sub (ws' := [(o, .inr (2, [.int th, .ref a1, .ref a2, .ref a3, .ref a4, .ref a5, .ref a6, .ref a7, .ref a8, .ref a9, .ref a10]))]) [0] (by decide) rfl
        have hFc := va_free (wc := [(o, .inr (2, [.int th, .ref a1, .ref a2, .ref a3, .ref a4, .ref a5, .ref a6, .ref a7, .ref a8, .ref a9, .ref a10]))]) hD hS hA [0] rfl
        refine va_calli (va_runV (As := [.int 1, .int 1]) (rest := []) ⟨hx, hb, hml, hown, hts⟩ (m_refuse1 l dC dI o th a1 a2 a3 a4 a5 a6 a7 a8 a9 a10 1 1 s.heap.size (by decide)) (cwV 2 hts (tg_V tw_378 tw_380 tw_p8 tw_3 tw_381) rfl rfl rfl (by decide +kernel) ⟨Nat.le_of_ble_eq_true rfl, Nat.le_of_ble_eq_true rfl⟩) ⟨wr_blind, va_recv hK hP (ci := 2) (q0 := 0) rfl rfl, fun U hU hW => ⟨rfl, wr_use hPc (hK.sub [] rfl) hDc U hU hW⟩⟩ rfl rfl hl.1 rfl (lv_room (Nat.le_of_ble_eq_true rfl)) dX2_manner_48 ⟨Nat.le_of_ble_eq_true rfl, Nat.le_of_ble_eq_true rfl⟩) hS (fun q _ h => hFc q h) hFc (fun r9 u9 t9 H1 locs ht hvm hw hB hz1 hk1 hS => ?_)
        obtain ⟨hP1, hK1, hD1⟩ := hB
        rw [ht] at hP1
        subst hw
        obtain ⟨hP, hD⟩ := va_join (wr := []) (w1 := [(o, .inr (2, [.int 1, .ref a1, .ref a2, .ref a3, .ref a4, .ref a5, .ref a6, .ref a7, .ref a8, .ref a9, .ref a10]))]) hP hD [0] [] rfl rfl (by decide) (by decide) hk1 hFc hP1 hD1
        have hP := hP.sub (ws' := [(o, .inr (2, [.int 1, .ref a1, .ref a2, .ref a3, .ref a4, .ref a5, .ref a6, .ref a7, .ref a8, .ref a9, .ref a10]))]) [0] rfl
        have hD := hD.sub (ws' := [(o, .inr (2, [.int 1, .ref a1, .ref a2, .ref a3, .ref a4, .ref a5, .ref a6, .ref a7, .ref a8, .ref a9, .ref a10]))]) [0] (by decide) rfl
        clear hPc hDc hFc hP1 hK1 hD1 hk1 hz1
        generalize H1 = H at hP hS ⊢
        refine lv_if_eq (tgt := 55) hx hb dX2_manner_51 (by decide) (fun c_8 => absurd c_8 (by decide)) (fun c_8 => ?_)
        have hP9 : va_P (dC, dI) vwCl [(o, .inr (2, [.int 1, .ref a1, .ref a2, .ref a3, .ref a4, .ref a5, .ref a6, .ref a7, .ref a8, .ref a9, .ref a10]))] H := hP.sub [0] rfl
        have hD9 : va_D A [(o, .inr (2, [.int 1, .ref a1, .ref a2, .ref a3, .ref a4, .ref a5, .ref a6, .ref a7, .ref a8, .ref a9, .ref a10]))] := hD.sub [0] (by decide) rfl
        have hK9 : va_K (dC, dI) vwCl [] s := hK.sub [] rfl
        exact W.vret hx hb hr (fun t ht hW => ⟨⟨(), rfl, trivial, by rw [ht]; exact hP9, va_K.moved hW.alike hK9, hD9⟩, hS.F ht⟩) hS.2.2 dX2_manner_54
set_option maxHeartbeats 4000000 in
set_option maxRecDepth 100000 in
theorem m_border1 (l : Launch) (dC : Nat → ClassId) (dI : Nat → Nat → Nat) (o : Nat) (th : Int32) (a1 a2 a3 a4 a5 a6 a7 a8 a9 a10 : Nat) (p0 p1 p2 p3 p4 : Int32) (sz : Nat) (h0 : tu_win p0 0 3 = 0) : Met l yX2_border wsX2_border ({ frames := 1, cells := 0, slots := 0, locals := 22 }) (va_Pc [.ref o, .int p0, .int p1, .int p2, .int p3, .int p4] (wr_P (dC, dI) vwCl [(o, .inr (2, [.int th, .ref a1, .ref a2, .ref a3, .ref a4, .ref a5, .ref a6, .ref a7, .ref a8, .ref a9, .ref a10]))] [] sz)) (va_Qv (fun _ : Unit => True) (wr_B (dC, dI) vwCl [(o, .inr (2, [.int 1, .ref a1, .ref a2, .ref a3, .ref a4, .ref a5, .ref a6, .ref a7, .ref a8, .ref a9, .ref a10]))] [] (va_A [(o, .inr (2, [.int th, .ref a1, .ref a2, .ref a3, .ref a4, .ref a5, .ref a6, .ref a7, .ref a8, .ref a9, .ref a10]))] sz)) (va_A [(o, .inr (2, [.int th, .ref a1, .ref a2, .ref a3, .ref a4, .ref a5, .ref a6, .ref a7, .ref a8, .ref a9, .ref a10]))] sz)) 0 0 (va_A [(o, .inr (2, [.int th, .ref a1, .ref a2, .ref a3, .ref a4, .ref a5, .ref a6, .ref a7, .ref a8, .ref a9, .ref a10]))] sz) := by
  refine Met.ofW (cc := cX2_border) (maxL := 6) (ret := none) (by decide) rfl ?_
  intro p e s m args below meth c s₁ B hml hv
  obtain ⟨rfl, hsz, hP, hK, hD0⟩ := hv
  have hx := B.exec
  have hb := B.bytes
  have hr := B.returns
  have hts := atoms_spec (ws := wsX2_border) B.pre
  have hown : s.vm.findClass "TextureUnitsModel" = some m.cls := findClass_of_methodNamed B.named
  have hlocks := B.notSynchronized
  subst hsz
  have hD := hD0.self (sz := s.heap.size)
  generalize hAe : va_A [(o, .inr (2, [.int th, .ref a1, .ref a2, .ref a3, .ref a4, .ref a5, .ref a6, .ref a7, .ref a8, .ref a9, .ref a10]))] s.heap.size = A at hD ⊢
  have hA : ∀ q : Nat, s.heap.size ≤ q → A q := fun q h => by rw [← hAe]; exact Or.inr h
  have hS : va_S A s.heap s.heap [] := va_S.rf
  have hP : va_P (dC, dI) vwCl [(o, .inr (2, [.int th, .ref a1, .ref a2, .ref a3, .ref a4, .ref a5, .ref a6, .ref a7, .ref a8, .ref a9, .ref a10]))] s.heap := hP
  have hl := lv_entry ([.ref o, .int p0, .int p1, .int p2, .int p3, .int p4]) (n := 6) (Nat.le_of_ble_eq_true rfl)
  rw [lg_entry_eq]
  generalize (lg_sl ([.ref o, .int p0, .int p1, .int p2, .int p3, .int p4]) ++ List.replicate (6 - (lg_sl ([.ref o, .int p0, .int p1, .int p2, .int p3, .int p4])).length) Slot.unset).toArray = ls at hl ⊢
  have hl : lv_has ls 6 [(0, .ref o), (1, .int p0), (2, .int p1), (3, .int p2), (4, .int p3), (5, .int p4)] := hl
  refine lv_aload_n hx hb dX2_border_0 rfl (lv_at hl 0 rfl) ?_
  refine lv_iload_n hx hb dX2_border_1 rfl (lv_at hl 1 rfl) ?_
  refine lv_iconst (v := 0) hx hb dX2_border_2 (by decide) ?_
  refine lv_iconst (v := 3) hx hb dX2_border_3 (by decide) ?_
  refine rd_call (W.runS (As := [.int p0, .int 0, .int 3]) (rest := [.ref o]) ⟨hx, hb, hml, hown, hts⟩ (m_in l p0 0 3) (va_cwS 3 hts (tg_S tw_375 tw_376 tw_3 tw_377) rfl rfl rfl (by decide +kernel) ⟨Nat.le_of_ble_eq_true rfl, Nat.le_of_ble_eq_true rfl⟩) preEq rfl rfl hl.1 rfl (lv_room (Nat.le_of_ble_eq_true rfl)) dX2_border_4 ⟨Nat.le_of_ble_eq_true rfl, Nat.le_of_ble_eq_true rfl⟩) ?_
  refine lv_if_ne (tgt := 14) hx hb dX2_border_7 (by decide) (fun c_1 => absurd h0 c_1) (fun c_1 => ?_)
  refine lv_iconst (v := 1) hx hb dX2_border_10 (by decide) ?_
  refine lv_goto (tgt := 15) hx hb dX2_border_11 (by decide) ?_
  refine lv_iconst (v := 0) hx hb dX2_border_15 (by decide) ?_
  have hPc := hP.sub (ws' := [(o, .inr (2, [.int th, .ref a1, .ref a2, .ref a3, .ref a4, .ref a5, .ref a6, .ref a7, .ref a8, .ref a9, .ref a10]))]) [0] rfl
  have hDc := hD.sub (ws' := [(o, .inr (2, [.int th, .ref a1, .ref a2, .ref a3, .ref a4, .ref a5, .ref a6, .ref a7, .ref a8, .ref a9, .ref a10]))]) [0] (by decide) rfl
  have hFc := va_free (wc := [(o, .inr (2, [.int th, .ref a1, .ref a2, .ref a3, .ref a4, .ref a5, .ref a6, .ref a7, .ref a8, .ref a9, .ref a10]))]) hD hS hA [0] rfl
  refine va_calli (va_runV (As := [.int 1, .int 0]) (rest := []) ⟨hx, hb, hml, hown, hts⟩ (m_refuse1 l dC dI o th a1 a2 a3 a4 a5 a6 a7 a8 a9 a10 1 0 s.heap.size (by decide)) (cwV 2 hts (tg_V tw_378 tw_380 tw_p8 tw_3 tw_381) rfl rfl rfl (by decide +kernel) ⟨Nat.le_of_ble_eq_true rfl, Nat.le_of_ble_eq_true rfl⟩) ⟨wr_blind, va_recv hK hP (ci := 2) (q0 := 0) rfl rfl, fun U hU hW => ⟨rfl, wr_use hPc (hK.sub [] rfl) hDc U hU hW⟩⟩ rfl rfl hl.1 rfl (lv_room (Nat.le_of_ble_eq_true rfl)) dX2_border_16 ⟨Nat.le_of_ble_eq_true rfl, Nat.le_of_ble_eq_true rfl⟩) hS (fun q _ h => hFc q h) hFc (fun r9 u9 t9 H1 locs ht hvm hw hB hz1 hk1 hS => ?_)
  obtain ⟨hP1, hK1, hD1⟩ := hB
  rw [ht] at hP1
  subst hw
  obtain ⟨hP, hD⟩ := va_join (wr := []) (w1 := [(o, .inr (2, [.int 1, .ref a1, .ref a2, .ref a3, .ref a4, .ref a5, .ref a6, .ref a7, .ref a8, .ref a9, .ref a10]))]) hP hD [0] [] rfl rfl (by decide) (by decide) hk1 hFc hP1 hD1
  have hP := hP.sub (ws' := [(o, .inr (2, [.int 1, .ref a1, .ref a2, .ref a3, .ref a4, .ref a5, .ref a6, .ref a7, .ref a8, .ref a9, .ref a10]))]) [0] rfl
  have hD := hD.sub (ws' := [(o, .inr (2, [.int 1, .ref a1, .ref a2, .ref a3, .ref a4, .ref a5, .ref a6, .ref a7, .ref a8, .ref a9, .ref a10]))]) [0] (by decide) rfl
  clear hPc hDc hFc hP1 hK1 hD1 hk1 hz1
  generalize H1 = H at hP hS ⊢
  refine lv_if_eq (tgt := 23) hx hb dX2_border_19 (by decide) (fun c_2 => absurd c_2 (by decide)) (fun c_2 => ?_)
  have hP9 : va_P (dC, dI) vwCl [(o, .inr (2, [.int 1, .ref a1, .ref a2, .ref a3, .ref a4, .ref a5, .ref a6, .ref a7, .ref a8, .ref a9, .ref a10]))] H := hP.sub [0] rfl
  have hD9 : va_D A [(o, .inr (2, [.int 1, .ref a1, .ref a2, .ref a3, .ref a4, .ref a5, .ref a6, .ref a7, .ref a8, .ref a9, .ref a10]))] := hD.sub [0] (by decide) rfl
  have hK9 : va_K (dC, dI) vwCl [] s := hK.sub [] rfl
  exact W.vret hx hb hr (fun t ht hW => ⟨⟨(), rfl, trivial, by rw [ht]; exact hP9, va_K.moved hW.alike hK9, hD9⟩, hS.F ht⟩) hS.2.2 dX2_border_22
set_option maxHeartbeats 4000000 in
set_option maxRecDepth 100000 in
theorem m_texels1 (l : Launch) (dC : Nat → ClassId) (dI : Nat → Nat → Nat) (o : Nat) (th : Int32) (a1 a2 a3 a4 a5 a6 a7 a8 a9 a10 : Nat) (p0 : Int32) (sz : Nat) (h0 : tu_win p0 0 3 = 0) : Met l yX2_texels wsX2_texels ({ frames := 1, cells := 0, slots := 0, locals := 22 }) (va_Pc [.ref o, .int p0] (wr_P (dC, dI) vwCl [(o, .inr (2, [.int th, .ref a1, .ref a2, .ref a3, .ref a4, .ref a5, .ref a6, .ref a7, .ref a8, .ref a9, .ref a10]))] [] sz)) (va_Qi (fun (r9 : Int32) (_ : Unit) => r9 = 0) (wr_B (dC, dI) vwCl [(o, .inr (2, [.int 1, .ref a1, .ref a2, .ref a3, .ref a4, .ref a5, .ref a6, .ref a7, .ref a8, .ref a9, .ref a10]))] [] (va_A [(o, .inr (2, [.int th, .ref a1, .ref a2, .ref a3, .ref a4, .ref a5, .ref a6, .ref a7, .ref a8, .ref a9, .ref a10]))] sz)) (va_A [(o, .inr (2, [.int th, .ref a1, .ref a2, .ref a3, .ref a4, .ref a5, .ref a6, .ref a7, .ref a8, .ref a9, .ref a10]))] sz)) 0 0 (va_A [(o, .inr (2, [.int th, .ref a1, .ref a2, .ref a3, .ref a4, .ref a5, .ref a6, .ref a7, .ref a8, .ref a9, .ref a10]))] sz) := by
  refine Met.ofW (cc := cX2_texels) (maxL := 2) (ret := some .int) (by decide) rfl ?_
  intro p e s m args below meth c s₁ B hml hv
  obtain ⟨rfl, hsz, hP, hK, hD0⟩ := hv
  have hx := B.exec
  have hb := B.bytes
  have hr := B.returns
  have hts := atoms_spec (ws := wsX2_texels) B.pre
  have hown : s.vm.findClass "TextureUnitsModel" = some m.cls := findClass_of_methodNamed B.named
  have hlocks := B.notSynchronized
  subst hsz
  have hD := hD0.self (sz := s.heap.size)
  generalize hAe : va_A [(o, .inr (2, [.int th, .ref a1, .ref a2, .ref a3, .ref a4, .ref a5, .ref a6, .ref a7, .ref a8, .ref a9, .ref a10]))] s.heap.size = A at hD ⊢
  have hA : ∀ q : Nat, s.heap.size ≤ q → A q := fun q h => by rw [← hAe]; exact Or.inr h
  have hS : va_S A s.heap s.heap [] := va_S.rf
  have hP : va_P (dC, dI) vwCl [(o, .inr (2, [.int th, .ref a1, .ref a2, .ref a3, .ref a4, .ref a5, .ref a6, .ref a7, .ref a8, .ref a9, .ref a10]))] s.heap := hP
  have hl := lv_entry ([.ref o, .int p0]) (n := 2) (Nat.le_of_ble_eq_true rfl)
  rw [lg_entry_eq]
  generalize (lg_sl ([.ref o, .int p0]) ++ List.replicate (2 - (lg_sl ([.ref o, .int p0])).length) Slot.unset).toArray = ls at hl ⊢
  have hl : lv_has ls 2 [(0, .ref o), (1, .int p0)] := hl
  refine lv_aload_n hx hb dX2_texels_0 rfl (lv_at hl 0 rfl) ?_
  refine lv_iload_n hx hb dX2_texels_1 rfl (lv_at hl 1 rfl) ?_
  refine lv_iconst (v := 0) hx hb dX2_texels_2 (by decide) ?_
  refine lv_iconst (v := 3) hx hb dX2_texels_3 (by decide) ?_
  refine rd_call (W.runS (As := [.int p0, .int 0, .int 3]) (rest := [.ref o]) ⟨hx, hb, hml, hown, hts⟩ (m_in l p0 0 3) (va_cwS 3 hts (tg_S tw_375 tw_376 tw_3 tw_377) rfl rfl rfl (by decide +kernel) ⟨Nat.le_of_ble_eq_true rfl, Nat.le_of_ble_eq_true rfl⟩) preEq rfl rfl hl.1 rfl (lv_room (Nat.le_of_ble_eq_true rfl)) dX2_texels_4 ⟨Nat.le_of_ble_eq_true rfl, Nat.le_of_ble_eq_true rfl⟩) ?_
  refine lv_if_ne (tgt := 14) hx hb dX2_texels_7 (by decide) (fun c_1 => absurd h0 c_1) (fun c_1 => ?_)
  refine lv_iconst (v := 1) hx hb dX2_texels_10 (by decide) ?_
  refine lv_goto (tgt := 15) hx hb dX2_texels_11 (by decide) ?_
  refine lv_iconst (v := 0) hx hb dX2_texels_15 (by decide) ?_
  have hPc := hP.sub (ws' := [(o, .inr (2, [.int th, .ref a1, .ref a2, .ref a3, .ref a4, .ref a5, .ref a6, .ref a7, .ref a8, .ref a9, .ref a10]))]) [0] rfl
  have hDc := hD.sub (ws' := [(o, .inr (2, [.int th, .ref a1, .ref a2, .ref a3, .ref a4, .ref a5, .ref a6, .ref a7, .ref a8, .ref a9, .ref a10]))]) [0] (by decide) rfl
  have hFc := va_free (wc := [(o, .inr (2, [.int th, .ref a1, .ref a2, .ref a3, .ref a4, .ref a5, .ref a6, .ref a7, .ref a8, .ref a9, .ref a10]))]) hD hS hA [0] rfl
  refine va_calli (va_runV (As := [.int 1, .int 0]) (rest := []) ⟨hx, hb, hml, hown, hts⟩ (m_refuse1 l dC dI o th a1 a2 a3 a4 a5 a6 a7 a8 a9 a10 1 0 s.heap.size (by decide)) (cwV 2 hts (tg_V tw_378 tw_380 tw_p8 tw_3 tw_381) rfl rfl rfl (by decide +kernel) ⟨Nat.le_of_ble_eq_true rfl, Nat.le_of_ble_eq_true rfl⟩) ⟨wr_blind, va_recv hK hP (ci := 2) (q0 := 0) rfl rfl, fun U hU hW => ⟨rfl, wr_use hPc (hK.sub [] rfl) hDc U hU hW⟩⟩ rfl rfl hl.1 rfl (lv_room (Nat.le_of_ble_eq_true rfl)) dX2_texels_16 ⟨Nat.le_of_ble_eq_true rfl, Nat.le_of_ble_eq_true rfl⟩) hS (fun q _ h => hFc q h) hFc (fun r9 u9 t9 H1 locs ht hvm hw hB hz1 hk1 hS => ?_)
  obtain ⟨hP1, hK1, hD1⟩ := hB
  rw [ht] at hP1
  subst hw
  obtain ⟨hP, hD⟩ := va_join (wr := []) (w1 := [(o, .inr (2, [.int 1, .ref a1, .ref a2, .ref a3, .ref a4, .ref a5, .ref a6, .ref a7, .ref a8, .ref a9, .ref a10]))]) hP hD [0] [] rfl rfl (by decide) (by decide) hk1 hFc hP1 hD1
  have hP := hP.sub (ws' := [(o, .inr (2, [.int 1, .ref a1, .ref a2, .ref a3, .ref a4, .ref a5, .ref a6, .ref a7, .ref a8, .ref a9, .ref a10]))]) [0] rfl
  have hD := hD.sub (ws' := [(o, .inr (2, [.int 1, .ref a1, .ref a2, .ref a3, .ref a4, .ref a5, .ref a6, .ref a7, .ref a8, .ref a9, .ref a10]))]) [0] (by decide) rfl
  clear hPc hDc hFc hP1 hK1 hD1 hk1 hz1
  generalize H1 = H at hP hS ⊢
  refine lv_if_eq (tgt := 24) hx hb dX2_texels_19 (by decide) (fun c_2 => absurd c_2 (by decide)) (fun c_2 => ?_)
  refine lv_iconst (v := 0) hx hb dX2_texels_22 (by decide) ?_
  have hP9 : va_P (dC, dI) vwCl [(o, .inr (2, [.int 1, .ref a1, .ref a2, .ref a3, .ref a4, .ref a5, .ref a6, .ref a7, .ref a8, .ref a9, .ref a10]))] H := hP.sub [0] rfl
  have hD9 : va_D A [(o, .inr (2, [.int 1, .ref a1, .ref a2, .ref a3, .ref a4, .ref a5, .ref a6, .ref a7, .ref a8, .ref a9, .ref a10]))] := hD.sub [0] (by decide) rfl
  have hK9 : va_K (dC, dI) vwCl [] s := hK.sub [] rfl
  exact W.iret (v := 0) hx hb hr (fun t ht hW => ⟨⟨0, (), rfl, rfl, by rw [ht]; exact hP9, va_K.moved hW.alike hK9, hD9⟩, hS.F ht⟩) hS.2.2 dX2_texels_23
set_option maxHeartbeats 4000000 in
set_option maxRecDepth 100000 in
theorem m_read1 (l : Launch) (dC : Nat → ClassId) (dI : Nat → Nat → Nat) (o : Nat) (th : Int32) (a1 a2 a3 a4 a5 a6 a7 a8 a9 a10 : Nat) (p0 p1 p2 p3 : Int32) (sz : Nat) (h0 : tu_win p0 0 3 = 0) : Met l yX2_read wsX2_read ({ frames := 1, cells := 0, slots := 0, locals := 22 }) (va_Pc [.ref o, .int p0, .int p1, .int p2, .int p3] (wr_P (dC, dI) vwCl [(o, .inr (2, [.int th, .ref a1, .ref a2, .ref a3, .ref a4, .ref a5, .ref a6, .ref a7, .ref a8, .ref a9, .ref a10]))] [] sz)) (va_Qi (fun (r9 : Int32) (_ : Unit) => r9 = 0) (wr_B (dC, dI) vwCl [(o, .inr (2, [.int 1, .ref a1, .ref a2, .ref a3, .ref a4, .ref a5, .ref a6, .ref a7, .ref a8, .ref a9, .ref a10]))] [] (va_A [(o, .inr (2, [.int th, .ref a1, .ref a2, .ref a3, .ref a4, .ref a5, .ref a6, .ref a7, .ref a8, .ref a9, .ref a10]))] sz)) (va_A [(o, .inr (2, [.int th, .ref a1, .ref a2, .ref a3, .ref a4, .ref a5, .ref a6, .ref a7, .ref a8, .ref a9, .ref a10]))] sz)) 0 0 (va_A [(o, .inr (2, [.int th, .ref a1, .ref a2, .ref a3, .ref a4, .ref a5, .ref a6, .ref a7, .ref a8, .ref a9, .ref a10]))] sz) := by
  refine Met.ofW (cc := cX2_read) (maxL := 11) (ret := some .int) (by decide) rfl ?_
  intro p e s m args below meth c s₁ B hml hv
  obtain ⟨rfl, hsz, hP, hK, hD0⟩ := hv
  have hx := B.exec
  have hb := B.bytes
  have hr := B.returns
  have hts := atoms_spec (ws := wsX2_read) B.pre
  have hown : s.vm.findClass "TextureUnitsModel" = some m.cls := findClass_of_methodNamed B.named
  have hlocks := B.notSynchronized
  subst hsz
  have hD := hD0.self (sz := s.heap.size)
  generalize hAe : va_A [(o, .inr (2, [.int th, .ref a1, .ref a2, .ref a3, .ref a4, .ref a5, .ref a6, .ref a7, .ref a8, .ref a9, .ref a10]))] s.heap.size = A at hD ⊢
  have hA : ∀ q : Nat, s.heap.size ≤ q → A q := fun q h => by rw [← hAe]; exact Or.inr h
  have hS : va_S A s.heap s.heap [] := va_S.rf
  have hP : va_P (dC, dI) vwCl [(o, .inr (2, [.int th, .ref a1, .ref a2, .ref a3, .ref a4, .ref a5, .ref a6, .ref a7, .ref a8, .ref a9, .ref a10]))] s.heap := hP
  have hl := lv_entry ([.ref o, .int p0, .int p1, .int p2, .int p3]) (n := 11) (Nat.le_of_ble_eq_true rfl)
  rw [lg_entry_eq]
  generalize (lg_sl ([.ref o, .int p0, .int p1, .int p2, .int p3]) ++ List.replicate (11 - (lg_sl ([.ref o, .int p0, .int p1, .int p2, .int p3])).length) Slot.unset).toArray = ls at hl ⊢
  have hl : lv_has ls 11 [(0, .ref o), (1, .int p0), (2, .int p1), (3, .int p2), (4, .int p3)] := hl
  refine lv_aload_n hx hb dX2_read_0 rfl (lv_at hl 0 rfl) ?_
  refine lv_iload_n hx hb dX2_read_1 rfl (lv_at hl 1 rfl) ?_
  refine lv_iconst (v := 0) hx hb dX2_read_2 (by decide) ?_
  refine lv_iconst (v := 3) hx hb dX2_read_3 (by decide) ?_
  refine rd_call (W.runS (As := [.int p0, .int 0, .int 3]) (rest := [.ref o]) ⟨hx, hb, hml, hown, hts⟩ (m_in l p0 0 3) (va_cwS 3 hts (tg_S tw_375 tw_376 tw_3 tw_377) rfl rfl rfl (by decide +kernel) ⟨Nat.le_of_ble_eq_true rfl, Nat.le_of_ble_eq_true rfl⟩) preEq rfl rfl hl.1 rfl (lv_room (Nat.le_of_ble_eq_true rfl)) dX2_read_4 ⟨Nat.le_of_ble_eq_true rfl, Nat.le_of_ble_eq_true rfl⟩) ?_
  refine lv_if_ne (tgt := 14) hx hb dX2_read_7 (by decide) (fun c_1 => absurd h0 c_1) (fun c_1 => ?_)
  refine lv_iconst (v := 1) hx hb dX2_read_10 (by decide) ?_
  refine lv_goto (tgt := 15) hx hb dX2_read_11 (by decide) ?_
  refine lv_iconst (v := 0) hx hb dX2_read_15 (by decide) ?_
  have hPc := hP.sub (ws' := [(o, .inr (2, [.int th, .ref a1, .ref a2, .ref a3, .ref a4, .ref a5, .ref a6, .ref a7, .ref a8, .ref a9, .ref a10]))]) [0] rfl
  have hDc := hD.sub (ws' := [(o, .inr (2, [.int th, .ref a1, .ref a2, .ref a3, .ref a4, .ref a5, .ref a6, .ref a7, .ref a8, .ref a9, .ref a10]))]) [0] (by decide) rfl
  have hFc := va_free (wc := [(o, .inr (2, [.int th, .ref a1, .ref a2, .ref a3, .ref a4, .ref a5, .ref a6, .ref a7, .ref a8, .ref a9, .ref a10]))]) hD hS hA [0] rfl
  refine va_calli (va_runV (As := [.int 1, .int 0]) (rest := []) ⟨hx, hb, hml, hown, hts⟩ (m_refuse1 l dC dI o th a1 a2 a3 a4 a5 a6 a7 a8 a9 a10 1 0 s.heap.size (by decide)) (cwV 2 hts (tg_V tw_378 tw_380 tw_p8 tw_3 tw_381) rfl rfl rfl (by decide +kernel) ⟨Nat.le_of_ble_eq_true rfl, Nat.le_of_ble_eq_true rfl⟩) ⟨wr_blind, va_recv hK hP (ci := 2) (q0 := 0) rfl rfl, fun U hU hW => ⟨rfl, wr_use hPc (hK.sub [] rfl) hDc U hU hW⟩⟩ rfl rfl hl.1 rfl (lv_room (Nat.le_of_ble_eq_true rfl)) dX2_read_16 ⟨Nat.le_of_ble_eq_true rfl, Nat.le_of_ble_eq_true rfl⟩) hS (fun q _ h => hFc q h) hFc (fun r9 u9 t9 H1 locs ht hvm hw hB hz1 hk1 hS => ?_)
  obtain ⟨hP1, hK1, hD1⟩ := hB
  rw [ht] at hP1
  subst hw
  obtain ⟨hP, hD⟩ := va_join (wr := []) (w1 := [(o, .inr (2, [.int 1, .ref a1, .ref a2, .ref a3, .ref a4, .ref a5, .ref a6, .ref a7, .ref a8, .ref a9, .ref a10]))]) hP hD [0] [] rfl rfl (by decide) (by decide) hk1 hFc hP1 hD1
  have hP := hP.sub (ws' := [(o, .inr (2, [.int 1, .ref a1, .ref a2, .ref a3, .ref a4, .ref a5, .ref a6, .ref a7, .ref a8, .ref a9, .ref a10]))]) [0] rfl
  have hD := hD.sub (ws' := [(o, .inr (2, [.int 1, .ref a1, .ref a2, .ref a3, .ref a4, .ref a5, .ref a6, .ref a7, .ref a8, .ref a9, .ref a10]))]) [0] (by decide) rfl
  clear hPc hDc hFc hP1 hK1 hD1 hk1 hz1
  generalize H1 = H at hP hS ⊢
  refine lv_if_eq (tgt := 24) hx hb dX2_read_19 (by decide) (fun c_2 => absurd c_2 (by decide)) (fun c_2 => ?_)
  refine lv_iconst (v := 0) hx hb dX2_read_22 (by decide) ?_
  have hP9 : va_P (dC, dI) vwCl [(o, .inr (2, [.int 1, .ref a1, .ref a2, .ref a3, .ref a4, .ref a5, .ref a6, .ref a7, .ref a8, .ref a9, .ref a10]))] H := hP.sub [0] rfl
  have hD9 : va_D A [(o, .inr (2, [.int 1, .ref a1, .ref a2, .ref a3, .ref a4, .ref a5, .ref a6, .ref a7, .ref a8, .ref a9, .ref a10]))] := hD.sub [0] (by decide) rfl
  have hK9 : va_K (dC, dI) vwCl [] s := hK.sub [] rfl
  exact W.iret (v := 0) hx hb hr (fun t ht hW => ⟨⟨0, (), rfl, rfl, by rw [ht]; exact hP9, va_K.moved hW.alike hK9, hD9⟩, hS.F ht⟩) hS.2.2 dX2_read_23
set_option maxHeartbeats 4000000 in
set_option maxRecDepth 100000 in
theorem m_texel1 (l : Launch) (dC : Nat → ClassId) (dI : Nat → Nat → Nat) (o : Nat) (th : Int32) (a1 a2 a3 a4 a5 a6 a7 a8 a9 a10 : Nat) (cI : ClassId) (un : Nat → Int32) (p0 p1 p2 p3 p4 : Int32) (sz : Nat) (h0 : tu_win p0 0 3 = 0) : Met l yX2_texel wsX2_texel ({ frames := 2, cells := 0, slots := 0, locals := 46 }) (va_Pc [.ref o, .int p0, .int p1, .int p2, .int p3, .int p4] (wr_P (dC, dI) vwCl [(o, .inr (2, [.int th, .ref a1, .ref a2, .ref a3, .ref a4, .ref a5, .ref a6, .ref a7, .ref a8, .ref a9, .ref a10])), (a2, .inl (cI, 32, .inl un))] [(cI, .int)] sz)) (va_Qi (fun (r9 : Int32) (_ : Unit) => r9 = 0) (wr_B (dC, dI) vwCl [(o, .inr (2, [.int 1, .ref a1, .ref a2, .ref a3, .ref a4, .ref a5, .ref a6, .ref a7, .ref a8, .ref a9, .ref a10])), (a2, .inl (cI, 32, .inl un))] [(cI, .int)] (va_A [(o, .inr (2, [.int th, .ref a1, .ref a2, .ref a3, .ref a4, .ref a5, .ref a6, .ref a7, .ref a8, .ref a9, .ref a10])), (a2, .inl (cI, 32, .inl un))] sz)) (va_A [(o, .inr (2, [.int th, .ref a1, .ref a2, .ref a3, .ref a4, .ref a5, .ref a6, .ref a7, .ref a8, .ref a9, .ref a10])), (a2, .inl (cI, 32, .inl un))] sz)) 0 0 (va_A [(o, .inr (2, [.int th, .ref a1, .ref a2, .ref a3, .ref a4, .ref a5, .ref a6, .ref a7, .ref a8, .ref a9, .ref a10])), (a2, .inl (cI, 32, .inl un))] sz) := by
  refine Met.ofW (cc := cX2_texel) (maxL := 9) (ret := some .int) (by decide) rfl ?_
  intro p e s m args below meth c s₁ B hml hv
  obtain ⟨rfl, hsz, hP, hK, hD0⟩ := hv
  have hx := B.exec
  have hb := B.bytes
  have hr := B.returns
  have hts := atoms_spec (ws := wsX2_texel) B.pre
  have hown : s.vm.findClass "TextureUnitsModel" = some m.cls := findClass_of_methodNamed B.named
  have hlocks := B.notSynchronized
  subst hsz
  have hD := hD0.self (sz := s.heap.size)
  generalize hAe : va_A [(o, .inr (2, [.int th, .ref a1, .ref a2, .ref a3, .ref a4, .ref a5, .ref a6, .ref a7, .ref a8, .ref a9, .ref a10])), (a2, .inl (cI, 32, .inl un))] s.heap.size = A at hD ⊢
  have hA : ∀ q : Nat, s.heap.size ≤ q → A q := fun q h => by rw [← hAe]; exact Or.inr h
  have hS : va_S A s.heap s.heap [] := va_S.rf
  have hP : va_P (dC, dI) vwCl [(o, .inr (2, [.int th, .ref a1, .ref a2, .ref a3, .ref a4, .ref a5, .ref a6, .ref a7, .ref a8, .ref a9, .ref a10])), (a2, .inl (cI, 32, .inl un))] s.heap := hP
  have hl := lv_entry ([.ref o, .int p0, .int p1, .int p2, .int p3, .int p4]) (n := 9) (Nat.le_of_ble_eq_true rfl)
  rw [lg_entry_eq]
  generalize (lg_sl ([.ref o, .int p0, .int p1, .int p2, .int p3, .int p4]) ++ List.replicate (9 - (lg_sl ([.ref o, .int p0, .int p1, .int p2, .int p3, .int p4])).length) Slot.unset).toArray = ls at hl ⊢
  have hl : lv_has ls 9 [(0, .ref o), (1, .int p0), (2, .int p1), (3, .int p2), (4, .int p3), (5, .int p4)] := hl
  have hj : 0 < 4 := by decide
  refine lv_iload_n hx hb dX2_texel_0 rfl (lv_at hl 1 rfl) ?_
  refine lv_iconst (v := 0) hx hb dX2_texel_1 (by decide) ?_
  refine lv_iconst (v := 3) hx hb dX2_texel_2 (by decide) ?_
  refine rd_call (W.runS (As := [.int p0, .int 0, .int 3]) (rest := []) ⟨hx, hb, hml, hown, hts⟩ (m_in l p0 0 3) (va_cwS 3 hts (tg_S tw_375 tw_376 tw_3 tw_377) rfl rfl rfl (by decide +kernel) ⟨Nat.le_of_ble_eq_true rfl, Nat.le_of_ble_eq_true rfl⟩) preEq rfl rfl hl.1 rfl (lv_room (Nat.le_of_ble_eq_true rfl)) dX2_texel_3 ⟨Nat.le_of_ble_eq_true rfl, Nat.le_of_ble_eq_true rfl⟩) ?_
  refine W.eq (g2 := F0 m 6 ls [.int 0]) (by rw [h0]) ?_
  refine lv_istore (lv' := [(6, .int 0), (0, .ref o), (1, .int p0), (2, .int p1), (3, .int p2), (4, .int p3), (5, .int p4)]) hx hb dX2_texel_6 hl (by decide) rfl (fun ls hl => ?_)
  refine lv_iload hx hb dX2_texel_8 (lv_at hl 0 rfl) ?_
  refine lv_if_eq (tgt := 17) hx hb dX2_texel_10 (by decide) (fun c_1 => ?_) (fun c_1 => absurd (by decide) c_1)
  refine lv_iconst (v := 0) hx hb dX2_texel_17 (by decide) ?_
  refine lv_istore (lv' := [(7, .int 0), (6, .int 0), (0, .ref o), (1, .int p0), (2, .int p1), (3, .int p2), (4, .int p3), (5, .int p4)]) hx hb dX2_texel_18 hl (by decide) rfl (fun ls hl => ?_)
  refine lv_iload_n hx hb dX2_texel_20 rfl (lv_at hl 4 rfl) ?_
  refine lv_iconst (v := 0) hx hb dX2_texel_21 (by decide) ?_
  refine lv_aload_n hx hb dX2_texel_22 rfl (lv_at hl 2 rfl) ?_
  refine va_get (D := (dC, dI)) (ci := 2) (v := .ref a2) (C := "TextureUnitsModel") (T := TX2) (N := 11) hx hb hts (tw_s inX2) hown hK hP 0 rfl rfl 2 (by decide) (hts _ (tw_c tw_335)) (fun _ h9 => h9) rfl dX2_texel_23 ?_
  refine lv_bipush (v := 8) hx hb dX2_texel_26 (by decide) ?_
  refine lv_iload hx hb dX2_texel_28 (lv_at hl 0 rfl) ?_
  refine lv_imul hx hb dX2_texel_30 ?_
  refine W.eq (g2 := F0 m 31 ls [.int 0, .ref a2, .int 0, .int p1]) (by first | rfl | (congr 1) | (simp; decide)) ?_
  refine lv_iconst (v := 3) hx hb dX2_texel_31 (by decide) ?_
  refine lv_iadd hx hb dX2_texel_32 ?_
  refine W.eq (g2 := F0 m 33 ls [.int 3, .ref a2, .int 0, .int p1]) (by first | rfl | (congr 1) | (simp; decide)) ?_
  refine va_iald hx hb hK hP 1 0 rfl rfl (tu_in (by decide)) dX2_texel_33 ?_
  refine lv_topi (fun x_2 ex_2 => ?_)
  have ex_2 : x_2 = (un 3) := ex_2
  subst ex_2
  refine lv_iconst (v := 1) hx hb dX2_texel_34 (by decide) ?_
  refine lv_isub hx hb dX2_texel_35 ?_
  refine rd_call (W.runS (As := [.int p1, .int 0, .int ((un 3) - (1 : Int32))]) (rest := []) ⟨hx, hb, hml, hown, hts⟩ (m_in l p1 0 ((un 3) - (1 : Int32))) (va_cwS 3 hts (tg_S tw_375 tw_376 tw_3 tw_377) rfl rfl rfl (by decide +kernel) ⟨Nat.le_of_ble_eq_true rfl, Nat.le_of_ble_eq_true rfl⟩) preEq rfl rfl hl.1 rfl (lv_room (Nat.le_of_ble_eq_true rfl)) dX2_texel_36 ⟨Nat.le_of_ble_eq_true rfl, Nat.le_of_ble_eq_true rfl⟩) ?_
  refine lv_if_eq (tgt := 65) hx hb dX2_texel_39 (by decide) (fun c_3 => ?_) (fun c_3 => ?_)
  · refine lv_iconst (v := 0) hx hb dX2_texel_65 (by decide) ?_
    refine lv_istore (lv' := [(8, .int 0), (7, .int 0), (6, .int 0), (0, .ref o), (1, .int p0), (2, .int p1), (3, .int p2), (4, .int p3), (5, .int p4)]) hx hb dX2_texel_66 hl (by decide) rfl (fun ls hl => ?_)
    refine lv_iload hx hb dX2_texel_68 (lv_at hl 0 rfl) ?_
    refine lv_if_eq (tgt := 100) hx hb dX2_texel_70 (by decide) (fun c_4 => ?_) (fun c_4 => absurd (by decide) c_4)
    refine lv_iconst (v := 0) hx hb dX2_texel_100 (by decide) ?_
    refine lv_istore (lv' := [(8, .int 0), (7, .int 0), (6, .int 0), (0, .ref o), (1, .int p0), (2, .int p1), (3, .int p2), (4, .int p3), (5, .int p4)]) hx hb dX2_texel_101 hl (by decide) rfl (fun ls hl => ?_)
    refine lv_aload_n hx hb dX2_texel_103 rfl (lv_at hl 3 rfl) ?_
    refine lv_iload hx hb dX2_texel_104 (lv_at hl 2 rfl) ?_
    refine lv_if_ne (tgt := 113) hx hb dX2_texel_106 (by decide) (fun c_5 => absurd (by decide) c_5) (fun c_5 => ?_)
    refine lv_iconst (v := 1) hx hb dX2_texel_109 (by decide) ?_
    refine lv_goto (tgt := 114) hx hb dX2_texel_110 (by decide) ?_
    refine lv_iload hx hb dX2_texel_114 (lv_at hl 0 rfl) ?_
    refine lv_if_ne (tgt := 123) hx hb dX2_texel_116 (by decide) (fun c_6 => absurd (by decide) c_6) (fun c_6 => ?_)
    refine lv_iconst (v := 1) hx hb dX2_texel_119 (by decide) ?_
    refine lv_goto (tgt := 124) hx hb dX2_texel_120 (by decide) ?_
    have hPc := hP.sub (ws' := [(o, .inr (2, [.int th, .ref a1, .ref a2, .ref a3, .ref a4, .ref a5, .ref a6, .ref a7, .ref a8, .ref a9, .ref a10]))]) [0] rfl
    have hDc := hD.sub (ws' := [(o, .inr (2, [.int th, .ref a1, .ref a2, .ref a3, .ref a4, .ref a5, .ref a6, .ref a7, .ref a8, .ref a9, .ref a10]))]) [0] (by decide) rfl
    have hFc := va_free (wc := [(o, .inr (2, [.int th, .ref a1, .ref a2, .ref a3, .ref a4, .ref a5, .ref a6, .ref a7, .ref a8, .ref a9, .ref a10]))]) hD hS hA [0] rfl
    refine va_calli (va_runV (As := [.int 1, .int 1]) (rest := []) ⟨hx, hb, hml, hown, hts⟩ (m_refuse1 l dC dI o th a1 a2 a3 a4 a5 a6 a7 a8 a9 a10 1 1 s.heap.size (by decide)) (cwV 2 hts (tg_V tw_378 tw_380 tw_p8 tw_3 tw_381) rfl rfl rfl (by decide +kernel) ⟨Nat.le_of_ble_eq_true rfl, Nat.le_of_ble_eq_true rfl⟩) ⟨wr_blind, va_recv hK hP (ci := 2) (q0 := 0) rfl rfl, fun U hU hW => ⟨rfl, wr_use hPc (hK.sub [] rfl) hDc U hU hW⟩⟩ rfl rfl hl.1 rfl (lv_room (Nat.le_of_ble_eq_true rfl)) dX2_texel_124 ⟨Nat.le_of_ble_eq_true rfl, Nat.le_of_ble_eq_true rfl⟩) hS (fun q _ h => hFc q h) hFc (fun r9 u9 t9 H1 locs ht hvm hw hB hz1 hk1 hS => ?_)
    obtain ⟨hP1, hK1, hD1⟩ := hB
    rw [ht] at hP1
    subst hw
    obtain ⟨hP, hD⟩ := va_join (wr := [(a2, .inl (cI, 32, .inl un))]) (w1 := [(o, .inr (2, [.int 1, .ref a1, .ref a2, .ref a3, .ref a4, .ref a5, .ref a6, .ref a7, .ref a8, .ref a9, .ref a10]))]) hP hD [0] [1] rfl rfl (by decide) (by decide) hk1 hFc hP1 hD1
    have hP := hP.sub (ws' := [(o, .inr (2, [.int 1, .ref a1, .ref a2, .ref a3, .ref a4, .ref a5, .ref a6, .ref a7, .ref a8, .ref a9, .ref a10])), (a2, .inl (cI, 32, .inl un))]) [1, 0] rfl
    have hD := hD.sub (ws' := [(o, .inr (2, [.int 1, .ref a1, .ref a2, .ref a3, .ref a4, .ref a5, .ref a6, .ref a7, .ref a8, .ref a9, .ref a10])), (a2, .inl (cI, 32, .inl un))]) [1, 0] (by decide) rfl
    clear hPc hDc hFc hP1 hK1 hD1 hk1 hz1
    generalize H1 = H at hP hS ⊢
    refine lv_if_eq (tgt := 132) hx hb dX2_texel_127 (by decide) (fun c_7 => absurd c_7 (by decide)) (fun c_7 => ?_)
    refine lv_iconst (v := 0) hx hb dX2_texel_130 (by decide) ?_
    have hP9 : va_P (dC, dI) vwCl [(o, .inr (2, [.int 1, .ref a1, .ref a2, .ref a3, .ref a4, .ref a5, .ref a6, .ref a7, .ref a8, .ref a9, .ref a10])), (a2, .inl (cI, 32, .inl un))] H := hP.sub [0, 1] rfl
    have hD9 : va_D A [(o, .inr (2, [.int 1, .ref a1, .ref a2, .ref a3, .ref a4, .ref a5, .ref a6, .ref a7, .ref a8, .ref a9, .ref a10])), (a2, .inl (cI, 32, .inl un))] := hD.sub [0, 1] (by decide) rfl
    have hK9 : va_K (dC, dI) vwCl [(cI, .int)] s := hK.sub [0] rfl
    exact W.iret (v := 0) hx hb hr (fun t ht hW => ⟨⟨0, (), rfl, rfl, by rw [ht]; exact hP9, va_K.moved hW.alike hK9, hD9⟩, hS.F ht⟩) hS.2.2 dX2_texel_131
  · refine lv_iload_n hx hb dX2_texel_42 rfl (lv_at hl 5 rfl) ?_
    refine lv_if_lt (tgt := 65) hx hb dX2_texel_43 (by decide) (fun c_8 => ?_) (fun c_8 => ?_)
    · refine lv_iconst (v := 0) hx hb dX2_texel_65 (by decide) ?_
      refine lv_istore (lv' := [(8, .int 0), (7, .int 0), (6, .int 0), (0, .ref o), (1, .int p0), (2, .int p1), (3, .int p2), (4, .int p3), (5, .int p4)]) hx hb dX2_texel_66 hl (by decide) rfl (fun ls hl => ?_)
      refine lv_iload hx hb dX2_texel_68 (lv_at hl 0 rfl) ?_
      refine lv_if_eq (tgt := 100) hx hb dX2_texel_70 (by decide) (fun c_9 => ?_) (fun c_9 => absurd (by decide) c_9)
      refine lv_iconst (v := 0) hx hb dX2_texel_100 (by decide) ?_
      refine lv_istore (lv' := [(8, .int 0), (7, .int 0), (6, .int 0), (0, .ref o), (1, .int p0), (2, .int p1), (3, .int p2), (4, .int p3), (5, .int p4)]) hx hb dX2_texel_101 hl (by decide) rfl (fun ls hl => ?_)
      refine lv_aload_n hx hb dX2_texel_103 rfl (lv_at hl 3 rfl) ?_
      refine lv_iload hx hb dX2_texel_104 (lv_at hl 2 rfl) ?_
      refine lv_if_ne (tgt := 113) hx hb dX2_texel_106 (by decide) (fun c_10 => absurd (by decide) c_10) (fun c_10 => ?_)
      refine lv_iconst (v := 1) hx hb dX2_texel_109 (by decide) ?_
      refine lv_goto (tgt := 114) hx hb dX2_texel_110 (by decide) ?_
      refine lv_iload hx hb dX2_texel_114 (lv_at hl 0 rfl) ?_
      refine lv_if_ne (tgt := 123) hx hb dX2_texel_116 (by decide) (fun c_11 => absurd (by decide) c_11) (fun c_11 => ?_)
      refine lv_iconst (v := 1) hx hb dX2_texel_119 (by decide) ?_
      refine lv_goto (tgt := 124) hx hb dX2_texel_120 (by decide) ?_
      have hPc := hP.sub (ws' := [(o, .inr (2, [.int th, .ref a1, .ref a2, .ref a3, .ref a4, .ref a5, .ref a6, .ref a7, .ref a8, .ref a9, .ref a10]))]) [0] rfl
      have hDc := hD.sub (ws' := [(o, .inr (2, [.int th, .ref a1, .ref a2, .ref a3, .ref a4, .ref a5, .ref a6, .ref a7, .ref a8, .ref a9, .ref a10]))]) [0] (by decide) rfl
      have hFc := va_free (wc := [(o, .inr (2, [.int th, .ref a1, .ref a2, .ref a3, .ref a4, .ref a5, .ref a6, .ref a7, .ref a8, .ref a9, .ref a10]))]) hD hS hA [0] rfl
      refine va_calli (va_runV (As := [.int 1, .int 1]) (rest := []) ⟨hx, hb, hml, hown, hts⟩ (m_refuse1 l dC dI o th a1 a2 a3 a4 a5 a6 a7 a8 a9 a10 1 1 s.heap.size (by decide)) (cwV 2 hts (tg_V tw_378 tw_380 tw_p8 tw_3 tw_381) rfl rfl rfl (by decide +kernel) ⟨Nat.le_of_ble_eq_true rfl, Nat.le_of_ble_eq_true rfl⟩) ⟨wr_blind, va_recv hK hP (ci := 2) (q0 := 0) rfl rfl, fun U hU hW => ⟨rfl, wr_use hPc (hK.sub [] rfl) hDc U hU hW⟩⟩ rfl rfl hl.1 rfl (lv_room (Nat.le_of_ble_eq_true rfl)) dX2_texel_124 ⟨Nat.le_of_ble_eq_true rfl, Nat.le_of_ble_eq_true rfl⟩) hS (fun q _ h => hFc q h) hFc (fun r9 u9 t9 H1 locs ht hvm hw hB hz1 hk1 hS => ?_)
      obtain ⟨hP1, hK1, hD1⟩ := hB
      rw [ht] at hP1
      subst hw
      obtain ⟨hP, hD⟩ := va_join (wr := [(a2, .inl (cI, 32, .inl un))]) (w1 := [(o, .inr (2, [.int 1, .ref a1, .ref a2, .ref a3, .ref a4, .ref a5, .ref a6, .ref a7, .ref a8, .ref a9, .ref a10]))]) hP hD [0] [1] rfl rfl (by decide) (by decide) hk1 hFc hP1 hD1
      have hP := hP.sub (ws' := [(o, .inr (2, [.int 1, .ref a1, .ref a2, .ref a3, .ref a4, .ref a5, .ref a6, .ref a7, .ref a8, .ref a9, .ref a10])), (a2, .inl (cI, 32, .inl un))]) [1, 0] rfl
      have hD := hD.sub (ws' := [(o, .inr (2, [.int 1, .ref a1, .ref a2, .ref a3, .ref a4, .ref a5, .ref a6, .ref a7, .ref a8, .ref a9, .ref a10])), (a2, .inl (cI, 32, .inl un))]) [1, 0] (by decide) rfl
      clear hPc hDc hFc hP1 hK1 hD1 hk1 hz1
      generalize H1 = H at hP hS ⊢
      refine lv_if_eq (tgt := 132) hx hb dX2_texel_127 (by decide) (fun c_12 => absurd c_12 (by decide)) (fun c_12 => ?_)
      refine lv_iconst (v := 0) hx hb dX2_texel_130 (by decide) ?_
      have hP9 : va_P (dC, dI) vwCl [(o, .inr (2, [.int 1, .ref a1, .ref a2, .ref a3, .ref a4, .ref a5, .ref a6, .ref a7, .ref a8, .ref a9, .ref a10])), (a2, .inl (cI, 32, .inl un))] H := hP.sub [0, 1] rfl
      have hD9 : va_D A [(o, .inr (2, [.int 1, .ref a1, .ref a2, .ref a3, .ref a4, .ref a5, .ref a6, .ref a7, .ref a8, .ref a9, .ref a10])), (a2, .inl (cI, 32, .inl un))] := hD.sub [0, 1] (by decide) rfl
      have hK9 : va_K (dC, dI) vwCl [(cI, .int)] s := hK.sub [0] rfl
      exact W.iret (v := 0) hx hb hr (fun t ht hW => ⟨⟨0, (), rfl, rfl, by rw [ht]; exact hP9, va_K.moved hW.alike hK9, hD9⟩, hS.F ht⟩) hS.2.2 dX2_texel_131
    · refine lv_iload hx hb dX2_texel_46 (lv_at hl 6 rfl) ?_
      refine lv_if_lt (tgt := 65) hx hb dX2_texel_48 (by decide) (fun c_13 => ?_) (fun c_13 => ?_)
      · refine lv_iconst (v := 0) hx hb dX2_texel_65 (by decide) ?_
        refine lv_istore (lv' := [(8, .int 0), (7, .int 0), (6, .int 0), (0, .ref o), (1, .int p0), (2, .int p1), (3, .int p2), (4, .int p3), (5, .int p4)]) hx hb dX2_texel_66 hl (by decide) rfl (fun ls hl => ?_)
        refine lv_iload hx hb dX2_texel_68 (lv_at hl 0 rfl) ?_
        refine lv_if_eq (tgt := 100) hx hb dX2_texel_70 (by decide) (fun c_14 => ?_) (fun c_14 => absurd (by decide) c_14)
        refine lv_iconst (v := 0) hx hb dX2_texel_100 (by decide) ?_
        refine lv_istore (lv' := [(8, .int 0), (7, .int 0), (6, .int 0), (0, .ref o), (1, .int p0), (2, .int p1), (3, .int p2), (4, .int p3), (5, .int p4)]) hx hb dX2_texel_101 hl (by decide) rfl (fun ls hl => ?_)
        refine lv_aload_n hx hb dX2_texel_103 rfl (lv_at hl 3 rfl) ?_
        refine lv_iload hx hb dX2_texel_104 (lv_at hl 2 rfl) ?_
        refine lv_if_ne (tgt := 113) hx hb dX2_texel_106 (by decide) (fun c_15 => absurd (by decide) c_15) (fun c_15 => ?_)
        refine lv_iconst (v := 1) hx hb dX2_texel_109 (by decide) ?_
        refine lv_goto (tgt := 114) hx hb dX2_texel_110 (by decide) ?_
        refine lv_iload hx hb dX2_texel_114 (lv_at hl 0 rfl) ?_
        refine lv_if_ne (tgt := 123) hx hb dX2_texel_116 (by decide) (fun c_16 => absurd (by decide) c_16) (fun c_16 => ?_)
        refine lv_iconst (v := 1) hx hb dX2_texel_119 (by decide) ?_
        refine lv_goto (tgt := 124) hx hb dX2_texel_120 (by decide) ?_
        have hPc := hP.sub (ws' := [(o, .inr (2, [.int th, .ref a1, .ref a2, .ref a3, .ref a4, .ref a5, .ref a6, .ref a7, .ref a8, .ref a9, .ref a10]))]) [0] rfl
        have hDc := hD.sub (ws' := [(o, .inr (2, [.int th, .ref a1, .ref a2, .ref a3, .ref a4, .ref a5, .ref a6, .ref a7, .ref a8, .ref a9, .ref a10]))]) [0] (by decide) rfl
        have hFc := va_free (wc := [(o, .inr (2, [.int th, .ref a1, .ref a2, .ref a3, .ref a4, .ref a5, .ref a6, .ref a7, .ref a8, .ref a9, .ref a10]))]) hD hS hA [0] rfl
        refine va_calli (va_runV (As := [.int 1, .int 1]) (rest := []) ⟨hx, hb, hml, hown, hts⟩ (m_refuse1 l dC dI o th a1 a2 a3 a4 a5 a6 a7 a8 a9 a10 1 1 s.heap.size (by decide)) (cwV 2 hts (tg_V tw_378 tw_380 tw_p8 tw_3 tw_381) rfl rfl rfl (by decide +kernel) ⟨Nat.le_of_ble_eq_true rfl, Nat.le_of_ble_eq_true rfl⟩) ⟨wr_blind, va_recv hK hP (ci := 2) (q0 := 0) rfl rfl, fun U hU hW => ⟨rfl, wr_use hPc (hK.sub [] rfl) hDc U hU hW⟩⟩ rfl rfl hl.1 rfl (lv_room (Nat.le_of_ble_eq_true rfl)) dX2_texel_124 ⟨Nat.le_of_ble_eq_true rfl, Nat.le_of_ble_eq_true rfl⟩) hS (fun q _ h => hFc q h) hFc (fun r9 u9 t9 H1 locs ht hvm hw hB hz1 hk1 hS => ?_)
        obtain ⟨hP1, hK1, hD1⟩ := hB
        rw [ht] at hP1
        subst hw
        obtain ⟨hP, hD⟩ := va_join (wr := [(a2, .inl (cI, 32, .inl un))]) (w1 := [(o, .inr (2, [.int 1, .ref a1, .ref a2, .ref a3, .ref a4, .ref a5, .ref a6, .ref a7, .ref a8, .ref a9, .ref a10]))]) hP hD [0] [1] rfl rfl (by decide) (by decide) hk1 hFc hP1 hD1
        have hP := hP.sub (ws' := [(o, .inr (2, [.int 1, .ref a1, .ref a2, .ref a3, .ref a4, .ref a5, .ref a6, .ref a7, .ref a8, .ref a9, .ref a10])), (a2, .inl (cI, 32, .inl un))]) [1, 0] rfl
        have hD := hD.sub (ws' := [(o, .inr (2, [.int 1, .ref a1, .ref a2, .ref a3, .ref a4, .ref a5, .ref a6, .ref a7, .ref a8, .ref a9, .ref a10])), (a2, .inl (cI, 32, .inl un))]) [1, 0] (by decide) rfl
        clear hPc hDc hFc hP1 hK1 hD1 hk1 hz1
        generalize H1 = H at hP hS ⊢
        refine lv_if_eq (tgt := 132) hx hb dX2_texel_127 (by decide) (fun c_17 => absurd c_17 (by decide)) (fun c_17 => ?_)
        refine lv_iconst (v := 0) hx hb dX2_texel_130 (by decide) ?_
        have hP9 : va_P (dC, dI) vwCl [(o, .inr (2, [.int 1, .ref a1, .ref a2, .ref a3, .ref a4, .ref a5, .ref a6, .ref a7, .ref a8, .ref a9, .ref a10])), (a2, .inl (cI, 32, .inl un))] H := hP.sub [0, 1] rfl
        have hD9 : va_D A [(o, .inr (2, [.int 1, .ref a1, .ref a2, .ref a3, .ref a4, .ref a5, .ref a6, .ref a7, .ref a8, .ref a9, .ref a10])), (a2, .inl (cI, 32, .inl un))] := hD.sub [0, 1] (by decide) rfl
        have hK9 : va_K (dC, dI) vwCl [(cI, .int)] s := hK.sub [0] rfl
        exact W.iret (v := 0) hx hb hr (fun t ht hW => ⟨⟨0, (), rfl, rfl, by rw [ht]; exact hP9, va_K.moved hW.alike hK9, hD9⟩, hS.F ht⟩) hS.2.2 dX2_texel_131
      · refine lv_iload hx hb dX2_texel_51 (lv_at hl 7 rfl) ?_
        refine lv_iconst (v := 0) hx hb dX2_texel_53 (by decide) ?_
        refine lv_iconst (v := 3) hx hb dX2_texel_54 (by decide) ?_
        refine rd_call (W.runS (As := [.int p4, .int 0, .int 3]) (rest := []) ⟨hx, hb, hml, hown, hts⟩ (m_in l p4 0 3) (va_cwS 3 hts (tg_S tw_375 tw_376 tw_3 tw_377) rfl rfl rfl (by decide +kernel) ⟨Nat.le_of_ble_eq_true rfl, Nat.le_of_ble_eq_true rfl⟩) preEq rfl rfl hl.1 rfl (lv_room (Nat.le_of_ble_eq_true rfl)) dX2_texel_55 ⟨Nat.le_of_ble_eq_true rfl, Nat.le_of_ble_eq_true rfl⟩) ?_
        refine lv_if_eq (tgt := 65) hx hb dX2_texel_58 (by decide) (fun c_18 => ?_) (fun c_18 => ?_)
        · refine lv_iconst (v := 0) hx hb dX2_texel_65 (by decide) ?_
          refine lv_istore (lv' := [(8, .int 0), (7, .int 0), (6, .int 0), (0, .ref o), (1, .int p0), (2, .int p1), (3, .int p2), (4, .int p3), (5, .int p4)]) hx hb dX2_texel_66 hl (by decide) rfl (fun ls hl => ?_)
          refine lv_iload hx hb dX2_texel_68 (lv_at hl 0 rfl) ?_
          refine lv_if_eq (tgt := 100) hx hb dX2_texel_70 (by decide) (fun c_19 => ?_) (fun c_19 => absurd (by decide) c_19)
          refine lv_iconst (v := 0) hx hb dX2_texel_100 (by decide) ?_
          refine lv_istore (lv' := [(8, .int 0), (7, .int 0), (6, .int 0), (0, .ref o), (1, .int p0), (2, .int p1), (3, .int p2), (4, .int p3), (5, .int p4)]) hx hb dX2_texel_101 hl (by decide) rfl (fun ls hl => ?_)
          refine lv_aload_n hx hb dX2_texel_103 rfl (lv_at hl 3 rfl) ?_
          refine lv_iload hx hb dX2_texel_104 (lv_at hl 2 rfl) ?_
          refine lv_if_ne (tgt := 113) hx hb dX2_texel_106 (by decide) (fun c_20 => absurd (by decide) c_20) (fun c_20 => ?_)
          refine lv_iconst (v := 1) hx hb dX2_texel_109 (by decide) ?_
          refine lv_goto (tgt := 114) hx hb dX2_texel_110 (by decide) ?_
          refine lv_iload hx hb dX2_texel_114 (lv_at hl 0 rfl) ?_
          refine lv_if_ne (tgt := 123) hx hb dX2_texel_116 (by decide) (fun c_21 => absurd (by decide) c_21) (fun c_21 => ?_)
          refine lv_iconst (v := 1) hx hb dX2_texel_119 (by decide) ?_
          refine lv_goto (tgt := 124) hx hb dX2_texel_120 (by decide) ?_
          have hPc := hP.sub (ws' := [(o, .inr (2, [.int th, .ref a1, .ref a2, .ref a3, .ref a4, .ref a5, .ref a6, .ref a7, .ref a8, .ref a9, .ref a10]))]) [0] rfl
          have hDc := hD.sub (ws' := [(o, .inr (2, [.int th, .ref a1, .ref a2, .ref a3, .ref a4, .ref a5, .ref a6, .ref a7, .ref a8, .ref a9, .ref a10]))]) [0] (by decide) rfl
          have hFc := va_free (wc := [(o, .inr (2, [.int th, .ref a1, .ref a2, .ref a3, .ref a4, .ref a5, .ref a6, .ref a7, .ref a8, .ref a9, .ref a10]))]) hD hS hA [0] rfl
          refine va_calli (va_runV (As := [.int 1, .int 1]) (rest := []) ⟨hx, hb, hml, hown, hts⟩ (m_refuse1 l dC dI o th a1 a2 a3 a4 a5 a6 a7 a8 a9 a10 1 1 s.heap.size (by decide)) (cwV 2 hts (tg_V tw_378 tw_380 tw_p8 tw_3 tw_381) rfl rfl rfl (by decide +kernel) ⟨Nat.le_of_ble_eq_true rfl, Nat.le_of_ble_eq_true rfl⟩) ⟨wr_blind, va_recv hK hP (ci := 2) (q0 := 0) rfl rfl, fun U hU hW => ⟨rfl, wr_use hPc (hK.sub [] rfl) hDc U hU hW⟩⟩ rfl rfl hl.1 rfl (lv_room (Nat.le_of_ble_eq_true rfl)) dX2_texel_124 ⟨Nat.le_of_ble_eq_true rfl, Nat.le_of_ble_eq_true rfl⟩) hS (fun q _ h => hFc q h) hFc (fun r9 u9 t9 H1 locs ht hvm hw hB hz1 hk1 hS => ?_)
          obtain ⟨hP1, hK1, hD1⟩ := hB
          rw [ht] at hP1
          subst hw
          obtain ⟨hP, hD⟩ := va_join (wr := [(a2, .inl (cI, 32, .inl un))]) (w1 := [(o, .inr (2, [.int 1, .ref a1, .ref a2, .ref a3, .ref a4, .ref a5, .ref a6, .ref a7, .ref a8, .ref a9, .ref a10]))]) hP hD [0] [1] rfl rfl (by decide) (by decide) hk1 hFc hP1 hD1
          have hP := hP.sub (ws' := [(o, .inr (2, [.int 1, .ref a1, .ref a2, .ref a3, .ref a4, .ref a5, .ref a6, .ref a7, .ref a8, .ref a9, .ref a10])), (a2, .inl (cI, 32, .inl un))]) [1, 0] rfl
          have hD := hD.sub (ws' := [(o, .inr (2, [.int 1, .ref a1, .ref a2, .ref a3, .ref a4, .ref a5, .ref a6, .ref a7, .ref a8, .ref a9, .ref a10])), (a2, .inl (cI, 32, .inl un))]) [1, 0] (by decide) rfl
          clear hPc hDc hFc hP1 hK1 hD1 hk1 hz1
          generalize H1 = H at hP hS ⊢
          refine lv_if_eq (tgt := 132) hx hb dX2_texel_127 (by decide) (fun c_22 => absurd c_22 (by decide)) (fun c_22 => ?_)
          refine lv_iconst (v := 0) hx hb dX2_texel_130 (by decide) ?_
          have hP9 : va_P (dC, dI) vwCl [(o, .inr (2, [.int 1, .ref a1, .ref a2, .ref a3, .ref a4, .ref a5, .ref a6, .ref a7, .ref a8, .ref a9, .ref a10])), (a2, .inl (cI, 32, .inl un))] H := hP.sub [0, 1] rfl
          have hD9 : va_D A [(o, .inr (2, [.int 1, .ref a1, .ref a2, .ref a3, .ref a4, .ref a5, .ref a6, .ref a7, .ref a8, .ref a9, .ref a10])), (a2, .inl (cI, 32, .inl un))] := hD.sub [0, 1] (by decide) rfl
          have hK9 : va_K (dC, dI) vwCl [(cI, .int)] s := hK.sub [0] rfl
          exact W.iret (v := 0) hx hb hr (fun t ht hW => ⟨⟨0, (), rfl, rfl, by rw [ht]; exact hP9, va_K.moved hW.alike hK9, hD9⟩, hS.F ht⟩) hS.2.2 dX2_texel_131
        · refine lv_iconst (v := 1) hx hb dX2_texel_61 (by decide) ?_
          refine lv_goto (tgt := 66) hx hb dX2_texel_62 (by decide) ?_
          refine lv_istore (lv' := [(8, .int 1), (7, .int 0), (6, .int 0), (0, .ref o), (1, .int p0), (2, .int p1), (3, .int p2), (4, .int p3), (5, .int p4)]) hx hb dX2_texel_66 hl (by decide) rfl (fun ls hl => ?_)
          refine lv_iload hx hb dX2_texel_68 (lv_at hl 0 rfl) ?_
          refine lv_if_eq (tgt := 100) hx hb dX2_texel_70 (by decide) (fun c_23 => absurd c_23 (by decide)) (fun c_23 => ?_)
          refine lv_iload_n hx hb dX2_texel_73 rfl (lv_at hl 6 rfl) ?_
          refine lv_aload_n hx hb dX2_texel_74 rfl (lv_at hl 3 rfl) ?_
          refine lv_iload hx hb dX2_texel_75 (lv_at hl 1 rfl) ?_
          refine lv_iload_n hx hb dX2_texel_77 rfl (lv_at hl 5 rfl) ?_
          refine rd_call (W.runV (As := [.int 0, .int p1]) (rest := [.int p2]) ⟨hx, hb, hml, hown, hts⟩ (m_wide l dC dI o th a1 a2 a3 a4 a5 a6 a7 a8 a9 a10 cI un 0 p1 hj) (cwV 2 hts (tg_V tw_398 tw_400 tw_p9 tw_3 tw_401) rfl rfl rfl (by decide +kernel) ⟨Nat.le_of_ble_eq_true rfl, Nat.le_of_ble_eq_true rfl⟩) ⟨rd_blind, va_recv hK hP (ci := 2) (q0 := 0) rfl rfl, fun U hU hW => ⟨rfl, rd_use (hP.sub [0, 1] rfl) (hK.sub [0] rfl) U hU hW⟩⟩ rfl rfl hl.1 rfl (lv_room (Nat.le_of_ble_eq_true rfl)) dX2_texel_78 ⟨Nat.le_of_ble_eq_true rfl, Nat.le_of_ble_eq_true rfl⟩) ?_
          refine lv_icmp_ge (tgt := 100) hx hb dX2_texel_81 (by decide) (fun c_24 => ?_) (fun c_24 => ?_)
          · refine lv_iconst (v := 0) hx hb dX2_texel_100 (by decide) ?_
            refine lv_istore (lv' := [(8, .int 0), (7, .int 0), (6, .int 0), (0, .ref o), (1, .int p0), (2, .int p1), (3, .int p2), (4, .int p3), (5, .int p4)]) hx hb dX2_texel_101 hl (by decide) rfl (fun ls hl => ?_)
            refine lv_aload_n hx hb dX2_texel_103 rfl (lv_at hl 3 rfl) ?_
            refine lv_iload hx hb dX2_texel_104 (lv_at hl 2 rfl) ?_
            refine lv_if_ne (tgt := 113) hx hb dX2_texel_106 (by decide) (fun c_25 => absurd (by decide) c_25) (fun c_25 => ?_)
            refine lv_iconst (v := 1) hx hb dX2_texel_109 (by decide) ?_
            refine lv_goto (tgt := 114) hx hb dX2_texel_110 (by decide) ?_
            refine lv_iload hx hb dX2_texel_114 (lv_at hl 0 rfl) ?_
            refine lv_if_ne (tgt := 123) hx hb dX2_texel_116 (by decide) (fun c_26 => absurd (by decide) c_26) (fun c_26 => ?_)
            refine lv_iconst (v := 1) hx hb dX2_texel_119 (by decide) ?_
            refine lv_goto (tgt := 124) hx hb dX2_texel_120 (by decide) ?_
            have hPc := hP.sub (ws' := [(o, .inr (2, [.int th, .ref a1, .ref a2, .ref a3, .ref a4, .ref a5, .ref a6, .ref a7, .ref a8, .ref a9, .ref a10]))]) [0] rfl
            have hDc := hD.sub (ws' := [(o, .inr (2, [.int th, .ref a1, .ref a2, .ref a3, .ref a4, .ref a5, .ref a6, .ref a7, .ref a8, .ref a9, .ref a10]))]) [0] (by decide) rfl
            have hFc := va_free (wc := [(o, .inr (2, [.int th, .ref a1, .ref a2, .ref a3, .ref a4, .ref a5, .ref a6, .ref a7, .ref a8, .ref a9, .ref a10]))]) hD hS hA [0] rfl
            refine va_calli (va_runV (As := [.int 1, .int 1]) (rest := []) ⟨hx, hb, hml, hown, hts⟩ (m_refuse1 l dC dI o th a1 a2 a3 a4 a5 a6 a7 a8 a9 a10 1 1 s.heap.size (by decide)) (cwV 2 hts (tg_V tw_378 tw_380 tw_p8 tw_3 tw_381) rfl rfl rfl (by decide +kernel) ⟨Nat.le_of_ble_eq_true rfl, Nat.le_of_ble_eq_true rfl⟩) ⟨wr_blind, va_recv hK hP (ci := 2) (q0 := 0) rfl rfl, fun U hU hW => ⟨rfl, wr_use hPc (hK.sub [] rfl) hDc U hU hW⟩⟩ rfl rfl hl.1 rfl (lv_room (Nat.le_of_ble_eq_true rfl)) dX2_texel_124 ⟨Nat.le_of_ble_eq_true rfl, Nat.le_of_ble_eq_true rfl⟩) hS (fun q _ h => hFc q h) hFc (fun r9 u9 t9 H1 locs ht hvm hw hB hz1 hk1 hS => ?_)
            obtain ⟨hP1, hK1, hD1⟩ := hB
            rw [ht] at hP1
            subst hw
            obtain ⟨hP, hD⟩ := va_join (wr := [(a2, .inl (cI, 32, .inl un))]) (w1 := [(o, .inr (2, [.int 1, .ref a1, .ref a2, .ref a3, .ref a4, .ref a5, .ref a6, .ref a7, .ref a8, .ref a9, .ref a10]))]) hP hD [0] [1] rfl rfl (by decide) (by decide) hk1 hFc hP1 hD1
            have hP := hP.sub (ws' := [(o, .inr (2, [.int 1, .ref a1, .ref a2, .ref a3, .ref a4, .ref a5, .ref a6, .ref a7, .ref a8, .ref a9, .ref a10])), (a2, .inl (cI, 32, .inl un))]) [1, 0] rfl
            have hD := hD.sub (ws' := [(o, .inr (2, [.int 1, .ref a1, .ref a2, .ref a3, .ref a4, .ref a5, .ref a6, .ref a7, .ref a8, .ref a9, .ref a10])), (a2, .inl (cI, 32, .inl un))]) [1, 0] (by decide) rfl
            clear hPc hDc hFc hP1 hK1 hD1 hk1 hz1
            generalize H1 = H at hP hS ⊢
            refine lv_if_eq (tgt := 132) hx hb dX2_texel_127 (by decide) (fun c_27 => absurd c_27 (by decide)) (fun c_27 => ?_)
            refine lv_iconst (v := 0) hx hb dX2_texel_130 (by decide) ?_
            have hP9 : va_P (dC, dI) vwCl [(o, .inr (2, [.int 1, .ref a1, .ref a2, .ref a3, .ref a4, .ref a5, .ref a6, .ref a7, .ref a8, .ref a9, .ref a10])), (a2, .inl (cI, 32, .inl un))] H := hP.sub [0, 1] rfl
            have hD9 : va_D A [(o, .inr (2, [.int 1, .ref a1, .ref a2, .ref a3, .ref a4, .ref a5, .ref a6, .ref a7, .ref a8, .ref a9, .ref a10])), (a2, .inl (cI, 32, .inl un))] := hD.sub [0, 1] (by decide) rfl
            have hK9 : va_K (dC, dI) vwCl [(cI, .int)] s := hK.sub [0] rfl
            exact W.iret (v := 0) hx hb hr (fun t ht hW => ⟨⟨0, (), rfl, rfl, by rw [ht]; exact hP9, va_K.moved hW.alike hK9, hD9⟩, hS.F ht⟩) hS.2.2 dX2_texel_131
          · refine lv_iload hx hb dX2_texel_84 (lv_at hl 7 rfl) ?_
            refine lv_aload_n hx hb dX2_texel_86 rfl (lv_at hl 3 rfl) ?_
            refine lv_iload hx hb dX2_texel_87 (lv_at hl 1 rfl) ?_
            refine lv_iload_n hx hb dX2_texel_89 rfl (lv_at hl 5 rfl) ?_
            refine rd_call (W.runV (As := [.int 0, .int p1]) (rest := [.int p3]) ⟨hx, hb, hml, hown, hts⟩ (m_high l dC dI o th a1 a2 a3 a4 a5 a6 a7 a8 a9 a10 cI un 0 p1 hj) (cwV 2 hts (tg_V tw_406 tw_408 tw_p11 tw_3 tw_409) rfl rfl rfl (by decide +kernel) ⟨Nat.le_of_ble_eq_true rfl, Nat.le_of_ble_eq_true rfl⟩) ⟨rd_blind, va_recv hK hP (ci := 2) (q0 := 0) rfl rfl, fun U hU hW => ⟨rfl, rd_use (hP.sub [0, 1] rfl) (hK.sub [0] rfl) U hU hW⟩⟩ rfl rfl hl.1 rfl (lv_room (Nat.le_of_ble_eq_true rfl)) dX2_texel_90 ⟨Nat.le_of_ble_eq_true rfl, Nat.le_of_ble_eq_true rfl⟩) ?_
            refine lv_icmp_ge (tgt := 100) hx hb dX2_texel_93 (by decide) (fun c_28 => ?_) (fun c_28 => ?_)
            · refine lv_iconst (v := 0) hx hb dX2_texel_100 (by decide) ?_
              refine lv_istore (lv' := [(8, .int 0), (7, .int 0), (6, .int 0), (0, .ref o), (1, .int p0), (2, .int p1), (3, .int p2), (4, .int p3), (5, .int p4)]) hx hb dX2_texel_101 hl (by decide) rfl (fun ls hl => ?_)
              refine lv_aload_n hx hb dX2_texel_103 rfl (lv_at hl 3 rfl) ?_
              refine lv_iload hx hb dX2_texel_104 (lv_at hl 2 rfl) ?_
              refine lv_if_ne (tgt := 113) hx hb dX2_texel_106 (by decide) (fun c_29 => absurd (by decide) c_29) (fun c_29 => ?_)
              refine lv_iconst (v := 1) hx hb dX2_texel_109 (by decide) ?_
              refine lv_goto (tgt := 114) hx hb dX2_texel_110 (by decide) ?_
              refine lv_iload hx hb dX2_texel_114 (lv_at hl 0 rfl) ?_
              refine lv_if_ne (tgt := 123) hx hb dX2_texel_116 (by decide) (fun c_30 => absurd (by decide) c_30) (fun c_30 => ?_)
              refine lv_iconst (v := 1) hx hb dX2_texel_119 (by decide) ?_
              refine lv_goto (tgt := 124) hx hb dX2_texel_120 (by decide) ?_
              have hPc := hP.sub (ws' := [(o, .inr (2, [.int th, .ref a1, .ref a2, .ref a3, .ref a4, .ref a5, .ref a6, .ref a7, .ref a8, .ref a9, .ref a10]))]) [0] rfl
              have hDc := hD.sub (ws' := [(o, .inr (2, [.int th, .ref a1, .ref a2, .ref a3, .ref a4, .ref a5, .ref a6, .ref a7, .ref a8, .ref a9, .ref a10]))]) [0] (by decide) rfl
              have hFc := va_free (wc := [(o, .inr (2, [.int th, .ref a1, .ref a2, .ref a3, .ref a4, .ref a5, .ref a6, .ref a7, .ref a8, .ref a9, .ref a10]))]) hD hS hA [0] rfl
              refine va_calli (va_runV (As := [.int 1, .int 1]) (rest := []) ⟨hx, hb, hml, hown, hts⟩ (m_refuse1 l dC dI o th a1 a2 a3 a4 a5 a6 a7 a8 a9 a10 1 1 s.heap.size (by decide)) (cwV 2 hts (tg_V tw_378 tw_380 tw_p8 tw_3 tw_381) rfl rfl rfl (by decide +kernel) ⟨Nat.le_of_ble_eq_true rfl, Nat.le_of_ble_eq_true rfl⟩) ⟨wr_blind, va_recv hK hP (ci := 2) (q0 := 0) rfl rfl, fun U hU hW => ⟨rfl, wr_use hPc (hK.sub [] rfl) hDc U hU hW⟩⟩ rfl rfl hl.1 rfl (lv_room (Nat.le_of_ble_eq_true rfl)) dX2_texel_124 ⟨Nat.le_of_ble_eq_true rfl, Nat.le_of_ble_eq_true rfl⟩) hS (fun q _ h => hFc q h) hFc (fun r9 u9 t9 H1 locs ht hvm hw hB hz1 hk1 hS => ?_)
              obtain ⟨hP1, hK1, hD1⟩ := hB
              rw [ht] at hP1
              subst hw
              obtain ⟨hP, hD⟩ := va_join (wr := [(a2, .inl (cI, 32, .inl un))]) (w1 := [(o, .inr (2, [.int 1, .ref a1, .ref a2, .ref a3, .ref a4, .ref a5, .ref a6, .ref a7, .ref a8, .ref a9, .ref a10]))]) hP hD [0] [1] rfl rfl (by decide) (by decide) hk1 hFc hP1 hD1
              have hP := hP.sub (ws' := [(o, .inr (2, [.int 1, .ref a1, .ref a2, .ref a3, .ref a4, .ref a5, .ref a6, .ref a7, .ref a8, .ref a9, .ref a10])), (a2, .inl (cI, 32, .inl un))]) [1, 0] rfl
              have hD := hD.sub (ws' := [(o, .inr (2, [.int 1, .ref a1, .ref a2, .ref a3, .ref a4, .ref a5, .ref a6, .ref a7, .ref a8, .ref a9, .ref a10])), (a2, .inl (cI, 32, .inl un))]) [1, 0] (by decide) rfl
              clear hPc hDc hFc hP1 hK1 hD1 hk1 hz1
              generalize H1 = H at hP hS ⊢
              refine lv_if_eq (tgt := 132) hx hb dX2_texel_127 (by decide) (fun c_31 => absurd c_31 (by decide)) (fun c_31 => ?_)
              refine lv_iconst (v := 0) hx hb dX2_texel_130 (by decide) ?_
              have hP9 : va_P (dC, dI) vwCl [(o, .inr (2, [.int 1, .ref a1, .ref a2, .ref a3, .ref a4, .ref a5, .ref a6, .ref a7, .ref a8, .ref a9, .ref a10])), (a2, .inl (cI, 32, .inl un))] H := hP.sub [0, 1] rfl
              have hD9 : va_D A [(o, .inr (2, [.int 1, .ref a1, .ref a2, .ref a3, .ref a4, .ref a5, .ref a6, .ref a7, .ref a8, .ref a9, .ref a10])), (a2, .inl (cI, 32, .inl un))] := hD.sub [0, 1] (by decide) rfl
              have hK9 : va_K (dC, dI) vwCl [(cI, .int)] s := hK.sub [0] rfl
              exact W.iret (v := 0) hx hb hr (fun t ht hW => ⟨⟨0, (), rfl, rfl, by rw [ht]; exact hP9, va_K.moved hW.alike hK9, hD9⟩, hS.F ht⟩) hS.2.2 dX2_texel_131
            · refine lv_iconst (v := 1) hx hb dX2_texel_96 (by decide) ?_
              refine lv_goto (tgt := 101) hx hb dX2_texel_97 (by decide) ?_
              refine lv_istore (lv' := [(8, .int 1), (7, .int 0), (6, .int 0), (0, .ref o), (1, .int p0), (2, .int p1), (3, .int p2), (4, .int p3), (5, .int p4)]) hx hb dX2_texel_101 hl (by decide) rfl (fun ls hl => ?_)
              refine lv_aload_n hx hb dX2_texel_103 rfl (lv_at hl 3 rfl) ?_
              refine lv_iload hx hb dX2_texel_104 (lv_at hl 2 rfl) ?_
              refine lv_if_ne (tgt := 113) hx hb dX2_texel_106 (by decide) (fun c_32 => absurd (by decide) c_32) (fun c_32 => ?_)
              refine lv_iconst (v := 1) hx hb dX2_texel_109 (by decide) ?_
              refine lv_goto (tgt := 114) hx hb dX2_texel_110 (by decide) ?_
              refine lv_iload hx hb dX2_texel_114 (lv_at hl 0 rfl) ?_
              refine lv_if_ne (tgt := 123) hx hb dX2_texel_116 (by decide) (fun c_33 => ?_) (fun c_33 => absurd c_33 (by decide))
              refine lv_iconst (v := 0) hx hb dX2_texel_123 (by decide) ?_
              have hPc := hP.sub (ws' := [(o, .inr (2, [.int th, .ref a1, .ref a2, .ref a3, .ref a4, .ref a5, .ref a6, .ref a7, .ref a8, .ref a9, .ref a10]))]) [0] rfl
              have hDc := hD.sub (ws' := [(o, .inr (2, [.int th, .ref a1, .ref a2, .ref a3, .ref a4, .ref a5, .ref a6, .ref a7, .ref a8, .ref a9, .ref a10]))]) [0] (by decide) rfl
              have hFc := va_free (wc := [(o, .inr (2, [.int th, .ref a1, .ref a2, .ref a3, .ref a4, .ref a5, .ref a6, .ref a7, .ref a8, .ref a9, .ref a10]))]) hD hS hA [0] rfl
              refine va_calli (va_runV (As := [.int 1, .int 0]) (rest := []) ⟨hx, hb, hml, hown, hts⟩ (m_refuse1 l dC dI o th a1 a2 a3 a4 a5 a6 a7 a8 a9 a10 1 0 s.heap.size (by decide)) (cwV 2 hts (tg_V tw_378 tw_380 tw_p8 tw_3 tw_381) rfl rfl rfl (by decide +kernel) ⟨Nat.le_of_ble_eq_true rfl, Nat.le_of_ble_eq_true rfl⟩) ⟨wr_blind, va_recv hK hP (ci := 2) (q0 := 0) rfl rfl, fun U hU hW => ⟨rfl, wr_use hPc (hK.sub [] rfl) hDc U hU hW⟩⟩ rfl rfl hl.1 rfl (lv_room (Nat.le_of_ble_eq_true rfl)) dX2_texel_124 ⟨Nat.le_of_ble_eq_true rfl, Nat.le_of_ble_eq_true rfl⟩) hS (fun q _ h => hFc q h) hFc (fun r9 u9 t9 H1 locs ht hvm hw hB hz1 hk1 hS => ?_)
              obtain ⟨hP1, hK1, hD1⟩ := hB
              rw [ht] at hP1
              subst hw
              obtain ⟨hP, hD⟩ := va_join (wr := [(a2, .inl (cI, 32, .inl un))]) (w1 := [(o, .inr (2, [.int 1, .ref a1, .ref a2, .ref a3, .ref a4, .ref a5, .ref a6, .ref a7, .ref a8, .ref a9, .ref a10]))]) hP hD [0] [1] rfl rfl (by decide) (by decide) hk1 hFc hP1 hD1
              have hP := hP.sub (ws' := [(o, .inr (2, [.int 1, .ref a1, .ref a2, .ref a3, .ref a4, .ref a5, .ref a6, .ref a7, .ref a8, .ref a9, .ref a10])), (a2, .inl (cI, 32, .inl un))]) [1, 0] rfl
              have hD := hD.sub (ws' := [(o, .inr (2, [.int 1, .ref a1, .ref a2, .ref a3, .ref a4, .ref a5, .ref a6, .ref a7, .ref a8, .ref a9, .ref a10])), (a2, .inl (cI, 32, .inl un))]) [1, 0] (by decide) rfl
              clear hPc hDc hFc hP1 hK1 hD1 hk1 hz1
              generalize H1 = H at hP hS ⊢
              refine lv_if_eq (tgt := 132) hx hb dX2_texel_127 (by decide) (fun c_34 => absurd c_34 (by decide)) (fun c_34 => ?_)
              refine lv_iconst (v := 0) hx hb dX2_texel_130 (by decide) ?_
              have hP9 : va_P (dC, dI) vwCl [(o, .inr (2, [.int 1, .ref a1, .ref a2, .ref a3, .ref a4, .ref a5, .ref a6, .ref a7, .ref a8, .ref a9, .ref a10])), (a2, .inl (cI, 32, .inl un))] H := hP.sub [0, 1] rfl
              have hD9 : va_D A [(o, .inr (2, [.int 1, .ref a1, .ref a2, .ref a3, .ref a4, .ref a5, .ref a6, .ref a7, .ref a8, .ref a9, .ref a10])), (a2, .inl (cI, 32, .inl un))] := hD.sub [0, 1] (by decide) rfl
              have hK9 : va_K (dC, dI) vwCl [(cI, .int)] s := hK.sub [0] rfl
              exact W.iret (v := 0) hx hb hr (fun t ht hW => ⟨⟨0, (), rfl, rfl, by rw [ht]; exact hP9, va_K.moved hW.alike hK9, hD9⟩, hS.F ht⟩) hS.2.2 dX2_texel_131
