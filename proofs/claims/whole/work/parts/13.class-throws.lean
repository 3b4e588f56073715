theorem tw_16 : (Cond.methodLink "TextureUnits" 1 ⟨"java/lang/Object", "<init>", "()V"⟩) ∈ TW := tw_t1 16 (by decide +kernel) (by decide +kernel)
theorem tw_174 : (Cond.methodLink "TextureUnits" 37 ⟨"TextureUnits", "unitAt", "(I)LTextureUnits$Unit;"⟩) ∈ TW := tw_t1 174 (by decide +kernel) (by decide +kernel)
theorem tw_176 : (Cond.instanceMethod ⟨"TextureUnits", "unitAt", "(I)LTextureUnits$Unit;"⟩) ∈ TW := tw_t1 176 (by decide +kernel) (by decide +kernel)
theorem tw_177 : (Cond.code ⟨"TextureUnits", "unitAt", "(I)LTextureUnits$Unit;"⟩ prog_1_method_10_code 2 (.some (.object "TextureUnits$Unit"))) ∈ TW := tw_t1 177 (by decide +kernel) (by decide +kernel)
theorem tw_178 : (Cond.classLink "TextureUnits" 114 "java/util/NoSuchElementException") ∈ TW := tw_t1 178 (by decide +kernel) (by decide +kernel)
theorem tw_19 : (Cond.classLink "TextureUnits" 13 "TextureUnits$Unit") ∈ TW := tw_t1 19 (by decide +kernel) (by decide +kernel)
theorem tw_194 : (Cond.classLink "TextureUnits" 41 "java/lang/IllegalArgumentException") ∈ TW := tw_t1 194 (by decide +kernel) (by decide +kernel)
theorem tw_21 : (Cond.instantiable "TextureUnits$Unit" 10) ∈ TW := tw_t1 21 (by decide +kernel) (by decide +kernel)
theorem tw_22 : (Cond.methodLink "TextureUnits" 19 ⟨"TextureUnits$Unit", "<init>", "()V"⟩) ∈ TW := tw_t1 22 (by decide +kernel) (by decide +kernel)
theorem tw_23 : (Cond.instanceMethod ⟨"TextureUnits$Unit", "<init>", "()V"⟩) ∈ TW := tw_t1 23 (by decide +kernel) (by decide +kernel)
theorem tw_24 : (Cond.code ⟨"TextureUnits$Unit", "<init>", "()V"⟩ prog_2_method_1_code 1 .none) ∈ TW := tw_t1 24 (by decide +kernel) (by decide +kernel)
theorem tw_43 : (Cond.fieldLink "TextureUnits" 79 "TextureUnits$Unit" "levels" "I") ∈ TW := tw_t1 43 (by decide +kernel) (by decide +kernel)
theorem tw_7 : (Cond.initialized "java/lang/IndexOutOfBoundsException") ∈ TW := tw_t1 7 (by decide +kernel) (by decide +kernel)
theorem tw_74 : (Cond.fieldLink "TextureUnits" 15 "TextureUnits" "units" "[LTextureUnits$Unit;") ∈ TW := tw_t1 74 (by decide +kernel) (by decide +kernel)
theorem tw_75 : (Cond.fieldLink "TextureUnits" 20 "TextureUnits" "latest" "[I") ∈ TW := tw_t1 75 (by decide +kernel) (by decide +kernel)
theorem tw_76 : (Cond.fieldLink "TextureUnits" 23 "TextureUnits" "nextLevel" "[I") ∈ TW := tw_t1 76 (by decide +kernel) (by decide +kernel)
theorem tw_8 : (Cond.initialized "java/util/NoSuchElementException") ∈ TW := tw_t1 8 (by decide +kernel) (by decide +kernel)
theorem tw_9 : (Cond.initialized "java/lang/IllegalArgumentException") ∈ TW := tw_t1 9 (by decide +kernel) (by decide +kernel)
theorem tw_97 : (Cond.classLink "TextureUnits" 30 "java/lang/IndexOutOfBoundsException") ∈ TW := tw_t1 97 (by decide +kernel) (by decide +kernel)
theorem tw_p1 : (Cond.selects "TextureUnits" ⟨"TextureUnits", "unitAt", "(I)LTextureUnits$Unit;"⟩ ⟨"TextureUnits", "unitAt", "(I)LTextureUnits$Unit;"⟩) ∈ TW := tw_t0 1 (by decide +kernel) (by decide +kernel)
set_option maxHeartbeats 4000000 in
set_option maxRecDepth 100000 in
theorem w_TextureUnits (l : Launch) (dC : Nat → ClassId) (dI : Nat → Nat → Nat) (q : Nat) (sz : Nat) : Met l yX1_init wsX1_init ({ frames := 3, cells := 16, slots := 2164, locals := 65 }) (va_Pc [.ref q] (fun U => wr_P (dC, dI) vwCl [(q, .inr (1, [.null, .null, .null, .null]))] [] sz U ∧ va_AO "TextureUnits$Unit" U)) (va_Qv (fun _ : Unit => True) (fun (_ : Unit) t9 => ∃ (wd us u0 bc0 st0 u1 bc1 st1 u2 bc2 st2 u3 bc3 st3 la nx : Nat) (cI cU : ClassId), wr_B (dC, dI) vwCl [(q, .inr (1, [.ref wd, .ref us, .ref la, .ref nx])), (wd, .inl (cI, 2048, .inl (fun _ => 0))), (us, .inl (cU, 4, .inr (.inr (.inr (.inr (va_up (va_up (va_up (va_up (fun _ => none) 0 (some u0)) 1 (some u1)) 2 (some u2)) 3 (some u3))))))), (u0, .inr (0, [.int 0, .int 0, .int 0, .int 0, .int 1, .int 0, .int 0, .int 0, .ref bc0, .ref st0])), (bc0, .inl (cI, 4, .inl (fun _ => 0))), (st0, .inl (cI, 12, .inl (tu_lay 0 0 (fun _ => 0) 11))), (u1, .inr (0, [.int 0, .int 0, .int 0, .int 0, .int 1, .int 0, .int 0, .int 0, .ref bc1, .ref st1])), (bc1, .inl (cI, 4, .inl (fun _ => 0))), (st1, .inl (cI, 12, .inl (tu_lay 0 0 (fun _ => 0) 11))), (u2, .inr (0, [.int 0, .int 0, .int 0, .int 0, .int 1, .int 0, .int 0, .int 0, .ref bc2, .ref st2])), (bc2, .inl (cI, 4, .inl (fun _ => 0))), (st2, .inl (cI, 12, .inl (tu_lay 0 0 (fun _ => 0) 11))), (u3, .inr (0, [.int 0, .int 0, .int 0, .int 0, .int 1, .int 0, .int 0, .int 0, .ref bc3, .ref st3])), (bc3, .inl (cI, 4, .inl (fun _ => 0))), (st3, .inl (cI, 12, .inl (tu_lay 0 0 (fun _ => 0) 11))), (la, .inl (cI, 4, .inl (fun _ => 0))), (nx, .inl (cI, 4, .inl (fun _ => 0)))] [(cI, .int), (cU, .object "TextureUnits$Unit")] (va_A [(q, .inr (1, [.null, .null, .null, .null]))] sz) () t9) (va_A [(q, .inr (1, [.null, .null, .null, .null]))] sz)) 16 2164 (va_A [(q, .inr (1, [.null, .null, .null, .null]))] sz) := by
  refine Met.ofW (cc := cX1_init) (maxL := 2) (ret := none) (by decide) rfl ?_
  intro p e s m args below meth c s₁ B hml hv
  obtain ⟨rfl, ⟨hsz, hP, hK, hD0⟩, hV⟩ := hv
  have hx := B.exec
  have hb := B.bytes
  have hr := B.returns
  have hts := atoms_spec (ws := wsX1_init) B.pre
  have hown : s.vm.findClass "TextureUnits" = some m.cls := findClass_of_methodNamed B.named
  have hlocks := B.notSynchronized
  have hin : meth.name = "<init>" := (name_of_methodNamed B.named B.method).1
  subst hsz
  have hD := hD0.self (sz := s.heap.size)
  generalize hAe : va_A [(q, .inr (1, [.null, .null, .null, .null]))] s.heap.size = A at hD ⊢
  have hA : ∀ q : Nat, s.heap.size ≤ q → A q := fun q h => by rw [← hAe]; exact Or.inr h
  have hS : va_S A s.heap s.heap [] := va_S.rf
  have hP : va_P (dC, dI) vwCl [(q, .inr (1, [.null, .null, .null, .null]))] s.heap := hP
  have hl := lv_entry ([.ref q]) (n := 2) (Nat.le_of_ble_eq_true rfl)
  rw [lg_entry_eq]
  generalize (lg_sl ([.ref q]) ++ List.replicate (2 - (lg_sl ([.ref q])).length) Slot.unset).toArray = ls at hl ⊢
  have hl : lv_has ls 2 [(0, .ref q)] := hl
  refine lv_aload_n hx hb dX1_init_0 rfl (lv_at hl 0 rfl) ?_
  refine W.objInit hx hb hown (hts _ (tw_c tw_16)) (hts _ (tw_c tw_17)) (hts _ (tw_c tw_18)) rfl (by rw [hml]; exact hl.1) rfl dX1_init_1 (Nat.le_of_ble_eq_true rfl) (Nat.le_of_ble_eq_true rfl) ?_
  refine W.eq (g2 := F0 m 4 ls []) rfl ?_
  refine lv_aload_n hx hb dX1_init_4 rfl (lv_at hl 0 rfl) ?_
  refine lv_sipush (v := 2048) hx hb dX1_init_5 (by decide) ?_
  refine va_newa (atype := .int) (ty := .int) (a0 := (2048, .inl (fun _ => 0))) (N' := 2048) hx hb (hts _ (tw_c tw_72)) rfl hK hP hD hS hA (fun _ => rfl) (by decide) (by decide) (by decide) (Nat.le_of_ble_eq_true rfl) (Nat.le_of_ble_eq_true rfl) dX1_init_8 (fun q_1 cA_2 H hK hP hD hS => ?_)
  have hK := hK.sub (tys' := [(cA_2, .int)]) [0] rfl
  refine W.widen (k := 1) (n := 2048) (Nat.le_of_ble_eq_true rfl) (Nat.le_of_ble_eq_true rfl) ?_
  have hP : va_P (dC, dI) vwCl [(q, .inr (1, [.null, .null, .null, .null])), (q_1, .inl (cA_2, 2048, .inl (fun _ => 0)))] H := hP
  have hD : va_D A [(q, .inr (1, [.null, .null, .null, .null])), (q_1, .inl (cA_2, 2048, .inl (fun _ => 0)))] := hD
  refine va_putF (D := (dC, dI)) (ci := 1) (v := .ref q_1) (ty := (.array .int)) (C := "TextureUnits") (T := TX1) (N := 4) hx hb hts (tw_s inX1) tyX1 tyX1_ok nmX1 hown hK hP hD hS 0 rfl rfl 0 (by decide) (hts _ (tw_c tw_73)) (fun _ h9 => h9) rfl hin rfl (by decide +kernel) rfl rfl (Nat.le_of_ble_eq_true rfl) dX1_init_10 (fun H locs hP hD hS => ?_)
  have hP : va_P (dC, dI) vwCl [(q, .inr (1, [.ref q_1, .null, .null, .null])), (q_1, .inl (cA_2, 2048, .inl (fun _ => 0)))] H := hP
  have hD : va_D A [(q, .inr (1, [.ref q_1, .null, .null, .null])), (q_1, .inl (cA_2, 2048, .inl (fun _ => 0)))] := hD
  refine lv_aload_n hx hb dX1_init_13 rfl (lv_at hl 0 rfl) ?_
  refine lv_iconst (v := 4) hx hb dX1_init_14 (by decide) ?_
  refine va_newq (C := "TextureUnits$Unit") (N' := 4) hx hb hown (hts _ (tw_c tw_19)) hV hK hP hD hS hA (by decide) (by decide) (by decide) (Nat.le_of_ble_eq_true rfl) (Nat.le_of_ble_eq_true rfl) dX1_init_15 (fun q_3 cA_4 H hK hP hD hS => ?_)
  have hK := hK.sub (tys' := [(cA_2, .int), (cA_4, .object "TextureUnits$Unit")]) [0, 1] rfl
  refine W.widen (k := 2) (n := 2052) (Nat.le_of_ble_eq_true rfl) (Nat.le_of_ble_eq_true rfl) ?_
  have hP : va_P (dC, dI) vwCl [(q, .inr (1, [.ref q_1, .null, .null, .null])), (q_1, .inl (cA_2, 2048, .inl (fun _ => 0))), (q_3, .inl (cA_4, 4, .inr (.inr (.inr (.inr (fun _ => none))))))] H := hP
  have hD : va_D A [(q, .inr (1, [.ref q_1, .null, .null, .null])), (q_1, .inl (cA_2, 2048, .inl (fun _ => 0))), (q_3, .inl (cA_4, 4, .inr (.inr (.inr (.inr (fun _ => none))))))] := hD
  refine va_putF (D := (dC, dI)) (ci := 1) (v := .ref q_3) (ty := (.array (.object "TextureUnits$Unit"))) (C := "TextureUnits") (T := TX1) (N := 4) hx hb hts (tw_s inX1) tyX1 tyX1_ok nmX1 hown hK hP hD hS 0 rfl rfl 1 (by decide) (hts _ (tw_c tw_74)) (fun _ h9 => h9) rfl hin rfl (by decide +kernel) rfl rfl (Nat.le_of_ble_eq_true rfl) dX1_init_18 (fun H locs hP hD hS => ?_)
  have hP : va_P (dC, dI) vwCl [(q, .inr (1, [.ref q_1, .ref q_3, .null, .null])), (q_1, .inl (cA_2, 2048, .inl (fun _ => 0))), (q_3, .inl (cA_4, 4, .inr (.inr (.inr (.inr (fun _ => none))))))] H := hP
  have hD : va_D A [(q, .inr (1, [.ref q_1, .ref q_3, .null, .null])), (q_1, .inl (cA_2, 2048, .inl (fun _ => 0))), (q_3, .inl (cA_4, 4, .inr (.inr (.inr (.inr (fun _ => none))))))] := hD
  refine lv_iconst (v := 0) hx hb dX1_init_21 (by decide) ?_
  refine lv_istore_n (lv' := [(1, .int 0), (0, .ref q)]) hx hb dX1_init_22 rfl hl (by decide) rfl (fun ls hl => ?_)
  refine lv_iload_n hx hb dX1_init_23 rfl (lv_at hl 0 rfl) ?_
  refine lv_iconst (v := 4) hx hb dX1_init_24 (by decide) ?_
  refine lv_icmp_ge (tgt := 47) hx hb dX1_init_25 (by decide) (fun c_5 => absurd c_5 (by decide)) (fun c_5 => ?_)
  refine lv_aload_n hx hb dX1_init_28 rfl (lv_at hl 1 rfl) ?_
  refine va_get (D := (dC, dI)) (ci := 1) (v := .ref q_3) (C := "TextureUnits") (T := TX1) (N := 4) hx hb hts (tw_s inX1) hown hK hP 0 rfl rfl 1 (by decide) (hts _ (tw_c tw_74)) (fun _ h9 => h9) rfl dX1_init_29 ?_
  refine lv_iload_n hx hb dX1_init_32 rfl (lv_at hl 0 rfl) ?_
  refine va_new (ci := 0) (fs := [.int 0, .int 0, .int 0, .int 0, .int 0, .int 0, .int 0, .int 0, .null, .null]) (C := "TextureUnits$Unit") (T := TX0) (N := 10) hx hb hts (tw_s inX0) tyX0 tyX0_ok hown (hts _ (tw_c tw_19)) (hts _ (tw_c tw_21)) (hts _ (tw_c tw_2)) hK hP hD hS hA rfl (by decide) (Nat.le_of_ble_eq_true rfl) (Nat.le_of_ble_eq_true rfl) dX1_init_33 (fun q_6 H hP hD hS => ?_)
  refine W.widen (k := 3) (n := 2062) (Nat.le_of_ble_eq_true rfl) (Nat.le_of_ble_eq_true rfl) ?_
  have hP : va_P (dC, dI) vwCl [(q, .inr (1, [.ref q_1, .ref q_3, .null, .null])), (q_1, .inl (cA_2, 2048, .inl (fun _ => 0))), (q_3, .inl (cA_4, 4, .inr (.inr (.inr (.inr (fun _ => none)))))), (q_6, .inr (0, [.int 0, .int 0, .int 0, .int 0, .int 0, .int 0, .int 0, .int 0, .null, .null]))] H := hP
  have hD : va_D A [(q, .inr (1, [.ref q_1, .ref q_3, .null, .null])), (q_1, .inl (cA_2, 2048, .inl (fun _ => 0))), (q_3, .inl (cA_4, 4, .inr (.inr (.inr (.inr (fun _ => none)))))), (q_6, .inr (0, [.int 0, .int 0, .int 0, .int 0, .int 0, .int 0, .int 0, .int 0, .null, .null]))] := hD
  refine lv_dup hx hb dX1_init_36 rfl ?_
  have hPc := hP.sub (ws' := [(q_6, .inr (0, [.int 0, .int 0, .int 0, .int 0, .int 0, .int 0, .int 0, .int 0, .null, .null]))]) [3] rfl
  have hDc := hD.sub (ws' := [(q_6, .inr (0, [.int 0, .int 0, .int 0, .int 0, .int 0, .int 0, .int 0, .int 0, .null, .null]))]) [3] (by decide) rfl
  have hFc := va_free (wc := [(q_6, .inr (0, [.int 0, .int 0, .int 0, .int 0, .int 0, .int 0, .int 0, .int 0, .null, .null]))]) hD hS hA [3] rfl
  refine va_callv (va_runI (As := []) (rest := [.ref q_6, .int 0, .ref q_3]) ⟨hx, hb, hml, hown, hts⟩ (w_Unit l dC dI q_6 cA_2 H.size) (cwI 0 hts (tg_0 tw_24) rfl rfl rfl (hts _ (tw_c tw_2)) (hts _ (tw_c tw_22)) (hts _ (tw_c tw_23)) rfl (by decide +kernel) ⟨Nat.le_of_ble_eq_true rfl, Nat.le_of_ble_eq_true rfl⟩) ⟨wr_blind, fun U hU hW => ⟨rfl, wr_use hPc (hK.sub [0] rfl) hDc U hU hW⟩⟩ rfl rfl hl.1 rfl (lv_room (Nat.le_of_ble_eq_true rfl)) dX1_init_37 ⟨Nat.le_of_ble_eq_true rfl, Nat.le_of_ble_eq_true rfl⟩) hS (fun q _ h => hFc q h) hFc (fun u9 t9 H1 locs ht hvm hw hB hz1 hk1 hS => ?_)
  obtain ⟨q_7, q_8, hP1, hK1, hD1⟩ := hB
  rw [ht] at hP1
  obtain ⟨hP, hD⟩ := va_join (wr := [(q, .inr (1, [.ref q_1, .ref q_3, .null, .null])), (q_1, .inl (cA_2, 2048, .inl (fun _ => 0))), (q_3, .inl (cA_4, 4, .inr (.inr (.inr (.inr (fun _ => none))))))]) (w1 := [(q_6, .inr (0, [.int 0, .int 0, .int 0, .int 0, .int 1, .int 0, .int 0, .int 0, .ref q_7, .ref q_8])), (q_7, .inl (cA_2, 4, .inl (fun _ => 0))), (q_8, .inl (cA_2, 12, .inl (tu_lay 0 0 (fun _ => 0) 11)))]) hP hD [3] [0, 1, 2] rfl rfl (by decide) (by decide) hk1 hFc hP1 hD1
  have hP := hP.sub (ws' := [(q, .inr (1, [.ref q_1, .ref q_3, .null, .null])), (q_1, .inl (cA_2, 2048, .inl (fun _ => 0))), (q_3, .inl (cA_4, 4, .inr (.inr (.inr (.inr (fun _ => none)))))), (q_6, .inr (0, [.int 0, .int 0, .int 0, .int 0, .int 1, .int 0, .int 0, .int 0, .ref q_7, .ref q_8])), (q_7, .inl (cA_2, 4, .inl (fun _ => 0))), (q_8, .inl (cA_2, 12, .inl (tu_lay 0 0 (fun _ => 0) 11)))]) [0, 1, 2, 3, 4, 5] rfl
  have hD := hD.sub (ws' := [(q, .inr (1, [.ref q_1, .ref q_3, .null, .null])), (q_1, .inl (cA_2, 2048, .inl (fun _ => 0))), (q_3, .inl (cA_4, 4, .inr (.inr (.inr (.inr (fun _ => none)))))), (q_6, .inr (0, [.int 0, .int 0, .int 0, .int 0, .int 1, .int 0, .int 0, .int 0, .ref q_7, .ref q_8])), (q_7, .inl (cA_2, 4, .inl (fun _ => 0))), (q_8, .inl (cA_2, 12, .inl (tu_lay 0 0 (fun _ => 0) 11)))]) [0, 1, 2, 3, 4, 5] (by decide) rfl
  clear hPc hDc hFc hP1 hK1 hD1 hk1 hz1
  generalize H1 = H at hP hS ⊢
  refine W.widen (k := 5) (n := 2078) (Nat.le_of_ble_eq_true rfl) (Nat.le_of_ble_eq_true rfl) ?_
  refine va_astq hx hb hK hP hD hS 2 1 3 0 rfl rfl rfl rfl (tu_in (by decide)) dX1_init_40 (fun H locs hP hD hS => ?_)
  have hP : va_P (dC, dI) vwCl [(q, .inr (1, [.ref q_1, .ref q_3, .null, .null])), (q_1, .inl (cA_2, 2048, .inl (fun _ => 0))), (q_3, .inl (cA_4, 4, .inr (.inr (.inr (.inr (va_up (fun _ => none) 0 (some q_6))))))), (q_6, .inr (0, [.int 0, .int 0, .int 0, .int 0, .int 1, .int 0, .int 0, .int 0, .ref q_7, .ref q_8])), (q_7, .inl (cA_2, 4, .inl (fun _ => 0))), (q_8, .inl (cA_2, 12, .inl (tu_lay 0 0 (fun _ => 0) 11)))] H := hP
  have hD : va_D A [(q, .inr (1, [.ref q_1, .ref q_3, .null, .null])), (q_1, .inl (cA_2, 2048, .inl (fun _ => 0))), (q_3, .inl (cA_4, 4, .inr (.inr (.inr (.inr (va_up (fun _ => none) 0 (some q_6))))))), (q_6, .inr (0, [.int 0, .int 0, .int 0, .int 0, .int 1, .int 0, .int 0, .int 0, .ref q_7, .ref q_8])), (q_7, .inl (cA_2, 4, .inl (fun _ => 0))), (q_8, .inl (cA_2, 12, .inl (tu_lay 0 0 (fun _ => 0) 11)))] := hD
  refine lv_iinc (v := 1) (lv' := [(1, .int 1), (0, .ref q)]) hx hb dX1_init_41 hl (k := 0) rfl (by decide) (by decide) rfl (fun ls hl => ?_)
  refine lv_goto (tgt := 23) hx hb dX1_init_44 (by decide) ?_
  refine lv_iload_n hx hb dX1_init_23 rfl (lv_at hl 0 rfl) ?_
  refine lv_iconst (v := 4) hx hb dX1_init_24 (by decide) ?_
  refine lv_icmp_ge (tgt := 47) hx hb dX1_init_25 (by decide) (fun c_9 => absurd c_9 (by decide)) (fun c_9 => ?_)
  refine lv_aload_n hx hb dX1_init_28 rfl (lv_at hl 1 rfl) ?_
  refine va_get (D := (dC, dI)) (ci := 1) (v := .ref q_3) (C := "TextureUnits") (T := TX1) (N := 4) hx hb hts (tw_s inX1) hown hK hP 0 rfl rfl 1 (by decide) (hts _ (tw_c tw_74)) (fun _ h9 => h9) rfl dX1_init_29 ?_
  refine lv_iload_n hx hb dX1_init_32 rfl (lv_at hl 0 rfl) ?_
  refine va_new (ci := 0) (fs := [.int 0, .int 0, .int 0, .int 0, .int 0, .int 0, .int 0, .int 0, .null, .null]) (C := "TextureUnits$Unit") (T := TX0) (N := 10) hx hb hts (tw_s inX0) tyX0 tyX0_ok hown (hts _ (tw_c tw_19)) (hts _ (tw_c tw_21)) (hts _ (tw_c tw_2)) hK hP hD hS hA rfl (by decide) (Nat.le_of_ble_eq_true rfl) (Nat.le_of_ble_eq_true rfl) dX1_init_33 (fun q_10 H hP hD hS => ?_)
  refine W.widen (k := 6) (n := 2088) (Nat.le_of_ble_eq_true rfl) (Nat.le_of_ble_eq_true rfl) ?_
  have hP : va_P (dC, dI) vwCl [(q, .inr (1, [.ref q_1, .ref q_3, .null, .null])), (q_1, .inl (cA_2, 2048, .inl (fun _ => 0))), (q_3, .inl (cA_4, 4, .inr (.inr (.inr (.inr (va_up (fun _ => none) 0 (some q_6))))))), (q_6, .inr (0, [.int 0, .int 0, .int 0, .int 0, .int 1, .int 0, .int 0, .int 0, .ref q_7, .ref q_8])), (q_7, .inl (cA_2, 4, .inl (fun _ => 0))), (q_8, .inl (cA_2, 12, .inl (tu_lay 0 0 (fun _ => 0) 11))), (q_10, .inr (0, [.int 0, .int 0, .int 0, .int 0, .int 0, .int 0, .int 0, .int 0, .null, .null]))] H := hP
  have hD : va_D A [(q, .inr (1, [.ref q_1, .ref q_3, .null, .null])), (q_1, .inl (cA_2, 2048, .inl (fun _ => 0))), (q_3, .inl (cA_4, 4, .inr (.inr (.inr (.inr (va_up (fun _ => none) 0 (some q_6))))))), (q_6, .inr (0, [.int 0, .int 0, .int 0, .int 0, .int 1, .int 0, .int 0, .int 0, .ref q_7, .ref q_8])), (q_7, .inl (cA_2, 4, .inl (fun _ => 0))), (q_8, .inl (cA_2, 12, .inl (tu_lay 0 0 (fun _ => 0) 11))), (q_10, .inr (0, [.int 0, .int 0, .int 0, .int 0, .int 0, .int 0, .int 0, .int 0, .null, .null]))] := hD
  refine lv_dup hx hb dX1_init_36 rfl ?_
  have hPc := hP.sub (ws' := [(q_10, .inr (0, [.int 0, .int 0, .int 0, .int 0, .int 0, .int 0, .int 0, .int 0, .null, .null]))]) [6] rfl
  have hDc := hD.sub (ws' := [(q_10, .inr (0, [.int 0, .int 0, .int 0, .int 0, .int 0, .int 0, .int 0, .int 0, .null, .null]))]) [6] (by decide) rfl
  have hFc := va_free (wc := [(q_10, .inr (0, [.int 0, .int 0, .int 0, .int 0, .int 0, .int 0, .int 0, .int 0, .null, .null]))]) hD hS hA [6] rfl
  refine va_callv (va_runI (As := []) (rest := [.ref q_10, .int 1, .ref q_3]) ⟨hx, hb, hml, hown, hts⟩ (w_Unit l dC dI q_10 cA_2 H.size) (cwI 0 hts (tg_0 tw_24) rfl rfl rfl (hts _ (tw_c tw_2)) (hts _ (tw_c tw_22)) (hts _ (tw_c tw_23)) rfl (by decide +kernel) ⟨Nat.le_of_ble_eq_true rfl, Nat.le_of_ble_eq_true rfl⟩) ⟨wr_blind, fun U hU hW => ⟨rfl, wr_use hPc (hK.sub [0] rfl) hDc U hU hW⟩⟩ rfl rfl hl.1 rfl (lv_room (Nat.le_of_ble_eq_true rfl)) dX1_init_37 ⟨Nat.le_of_ble_eq_true rfl, Nat.le_of_ble_eq_true rfl⟩) hS (fun q _ h => hFc q h) hFc (fun u9 t9 H1 locs ht hvm hw hB hz1 hk1 hS => ?_)
  obtain ⟨q_11, q_12, hP1, hK1, hD1⟩ := hB
  rw [ht] at hP1
  obtain ⟨hP, hD⟩ := va_join (wr := [(q, .inr (1, [.ref q_1, .ref q_3, .null, .null])), (q_1, .inl (cA_2, 2048, .inl (fun _ => 0))), (q_3, .inl (cA_4, 4, .inr (.inr (.inr (.inr (va_up (fun _ => none) 0 (some q_6))))))), (q_6, .inr (0, [.int 0, .int 0, .int 0, .int 0, .int 1, .int 0, .int 0, .int 0, .ref q_7, .ref q_8])), (q_7, .inl (cA_2, 4, .inl (fun _ => 0))), (q_8, .inl (cA_2, 12, .inl (tu_lay 0 0 (fun _ => 0) 11)))]) (w1 := [(q_10, .inr (0, [.int 0, .int 0, .int 0, .int 0, .int 1, .int 0, .int 0, .int 0, .ref q_11, .ref q_12])), (q_11, .inl (cA_2, 4, .inl (fun _ => 0))), (q_12, .inl (cA_2, 12, .inl (tu_lay 0 0 (fun _ => 0) 11)))]) hP hD [6] [0, 1, 2, 3, 4, 5] rfl rfl (by decide) (by decide) hk1 hFc hP1 hD1
  have hP := hP.sub (ws' := [(q, .inr (1, [.ref q_1, .ref q_3, .null, .null])), (q_1, .inl (cA_2, 2048, .inl (fun _ => 0))), (q_3, .inl (cA_4, 4, .inr (.inr (.inr (.inr (va_up (fun _ => none) 0 (some q_6))))))), (q_6, .inr (0, [.int 0, .int 0, .int 0, .int 0, .int 1, .int 0, .int 0, .int 0, .ref q_7, .ref q_8])), (q_7, .inl (cA_2, 4, .inl (fun _ => 0))), (q_8, .inl (cA_2, 12, .inl (tu_lay 0 0 (fun _ => 0) 11))), (q_10, .inr (0, [.int 0, .int 0, .int 0, .int 0, .int 1, .int 0, .int 0, .int 0, .ref q_11, .ref q_12])), (q_11, .inl (cA_2, 4, .inl (fun _ => 0))), (q_12, .inl (cA_2, 12, .inl (tu_lay 0 0 (fun _ => 0) 11)))]) [0, 1, 2, 3, 4, 5, 6, 7, 8] rfl
  have hD := hD.sub (ws' := [(q, .inr (1, [.ref q_1, .ref q_3, .null, .null])), (q_1, .inl (cA_2, 2048, .inl (fun _ => 0))), (q_3, .inl (cA_4, 4, .inr (.inr (.inr (.inr (va_up (fun _ => none) 0 (some q_6))))))), (q_6, .inr (0, [.int 0, .int 0, .int 0, .int 0, .int 1, .int 0, .int 0, .int 0, .ref q_7, .ref q_8])), (q_7, .inl (cA_2, 4, .inl (fun _ => 0))), (q_8, .inl (cA_2, 12, .inl (tu_lay 0 0 (fun _ => 0) 11))), (q_10, .inr (0, [.int 0, .int 0, .int 0, .int 0, .int 1, .int 0, .int 0, .int 0, .ref q_11, .ref q_12])), (q_11, .inl (cA_2, 4, .inl (fun _ => 0))), (q_12, .inl (cA_2, 12, .inl (tu_lay 0 0 (fun _ => 0) 11)))]) [0, 1, 2, 3, 4, 5, 6, 7, 8] (by decide) rfl
  clear hPc hDc hFc hP1 hK1 hD1 hk1 hz1
  generalize H1 = H at hP hS ⊢
  refine W.widen (k := 8) (n := 2104) (Nat.le_of_ble_eq_true rfl) (Nat.le_of_ble_eq_true rfl) ?_
  refine va_astq hx hb hK hP hD hS 2 1 6 0 rfl rfl rfl rfl (tu_in (by decide)) dX1_init_40 (fun H locs hP hD hS => ?_)
  have hP : va_P (dC, dI) vwCl [(q, .inr (1, [.ref q_1, .ref q_3, .null, .null])), (q_1, .inl (cA_2, 2048, .inl (fun _ => 0))), (q_3, .inl (cA_4, 4, .inr (.inr (.inr (.inr (va_up (va_up (fun _ => none) 0 (some q_6)) 1 (some q_10))))))), (q_6, .inr (0, [.int 0, .int 0, .int 0, .int 0, .int 1, .int 0, .int 0, .int 0, .ref q_7, .ref q_8])), (q_7, .inl (cA_2, 4, .inl (fun _ => 0))), (q_8, .inl (cA_2, 12, .inl (tu_lay 0 0 (fun _ => 0) 11))), (q_10, .inr (0, [.int 0, .int 0, .int 0, .int 0, .int 1, .int 0, .int 0, .int 0, .ref q_11, .ref q_12])), (q_11, .inl (cA_2, 4, .inl (fun _ => 0))), (q_12, .inl (cA_2, 12, .inl (tu_lay 0 0 (fun _ => 0) 11)))] H := hP
  have hD : va_D A [(q, .inr (1, [.ref q_1, .ref q_3, .null, .null])), (q_1, .inl (cA_2, 2048, .inl (fun _ => 0))), (q_3, .inl (cA_4, 4, .inr (.inr (.inr (.inr (va_up (va_up (fun _ => none) 0 (some q_6)) 1 (some q_10))))))), (q_6, .inr (0, [.int 0, .int 0, .int 0, .int 0, .int 1, .int 0, .int 0, .int 0, .ref q_7, .ref q_8])), (q_7, .inl (cA_2, 4, .inl (fun _ => 0))), (q_8, .inl (cA_2, 12, .inl (tu_lay 0 0 (fun _ => 0) 11))), (q_10, .inr (0, [.int 0, .int 0, .int 0, .int 0, .int 1, .int 0, .int 0, .int 0, .ref q_11, .ref q_12])), (q_11, .inl (cA_2, 4, .inl (fun _ => 0))), (q_12, .inl (cA_2, 12, .inl (tu_lay 0 0 (fun _ => 0) 11)))] := hD
  refine lv_iinc (v := 2) (lv' := [(1, .int 2), (0, .ref q)]) hx hb dX1_init_41 hl (k := 0) rfl (by decide) (by decide) rfl (fun ls hl => ?_)
  refine lv_goto (tgt := 23) hx hb dX1_init_44 (by decide) ?_
  refine lv_iload_n hx hb dX1_init_23 rfl (lv_at hl 0 rfl) ?_
  refine lv_iconst (v := 4) hx hb dX1_init_24 (by decide) ?_
  refine lv_icmp_ge (tgt := 47) hx hb dX1_init_25 (by decide) (fun c_13 => absurd c_13 (by decide)) (fun c_13 => ?_)
  refine lv_aload_n hx hb dX1_init_28 rfl (lv_at hl 1 rfl) ?_
  refine va_get (D := (dC, dI)) (ci := 1) (v := .ref q_3) (C := "TextureUnits") (T := TX1) (N := 4) hx hb hts (tw_s inX1) hown hK hP 0 rfl rfl 1 (by decide) (hts _ (tw_c tw_74)) (fun _ h9 => h9) rfl dX1_init_29 ?_
  refine lv_iload_n hx hb dX1_init_32 rfl (lv_at hl 0 rfl) ?_
  refine va_new (ci := 0) (fs := [.int 0, .int 0, .int 0, .int 0, .int 0, .int 0, .int 0, .int 0, .null, .null]) (C := "TextureUnits$Unit") (T := TX0) (N := 10) hx hb hts (tw_s inX0) tyX0 tyX0_ok hown (hts _ (tw_c tw_19)) (hts _ (tw_c tw_21)) (hts _ (tw_c tw_2)) hK hP hD hS hA rfl (by decide) (Nat.le_of_ble_eq_true rfl) (Nat.le_of_ble_eq_true rfl) dX1_init_33 (fun q_14 H hP hD hS => ?_)
  refine W.widen (k := 9) (n := 2114) (Nat.le_of_ble_eq_true rfl) (Nat.le_of_ble_eq_true rfl) ?_
  have hP : va_P (dC, dI) vwCl [(q, .inr (1, [.ref q_1, .ref q_3, .null, .null])), (q_1, .inl (cA_2, 2048, .inl (fun _ => 0))), (q_3, .inl (cA_4, 4, .inr (.inr (.inr (.inr (va_up (va_up (fun _ => none) 0 (some q_6)) 1 (some q_10))))))), (q_6, .inr (0, [.int 0, .int 0, .int 0, .int 0, .int 1, .int 0, .int 0, .int 0, .ref q_7, .ref q_8])), (q_7, .inl (cA_2, 4, .inl (fun _ => 0))), (q_8, .inl (cA_2, 12, .inl (tu_lay 0 0 (fun _ => 0) 11))), (q_10, .inr (0, [.int 0, .int 0, .int 0, .int 0, .int 1, .int 0, .int 0, .int 0, .ref q_11, .ref q_12])), (q_11, .inl (cA_2, 4, .inl (fun _ => 0))), (q_12, .inl (cA_2, 12, .inl (tu_lay 0 0 (fun _ => 0) 11))), (q_14, .inr (0, [.int 0, .int 0, .int 0, .int 0, .int 0, .int 0, .int 0, .int 0, .null, .null]))] H := hP
  have hD : va_D A [(q, .inr (1, [.ref q_1, .ref q_3, .null, .null])), (q_1, .inl (cA_2, 2048, .inl (fun _ => 0))), (q_3, .inl (cA_4, 4, .inr (.inr (.inr (.inr (va_up (va_up (fun _ => none) 0 (some q_6)) 1 (some q_10))))))), (q_6, .inr (0, [.int 0, .int 0, .int 0, .int 0, .int 1, .int 0, .int 0, .int 0, .ref q_7, .ref q_8])), (q_7, .inl (cA_2, 4, .inl (fun _ => 0))), (q_8, .inl (cA_2, 12, .inl (tu_lay 0 0 (fun _ => 0) 11))), (q_10, .inr (0, [.int 0, .int 0, .int 0, .int 0, .int 1, .int 0, .int 0, .int 0, .ref q_11, .ref q_12])), (q_11, .inl (cA_2, 4, .inl (fun _ => 0))), (q_12, .inl (cA_2, 12, .inl (tu_lay 0 0 (fun _ => 0) 11))), (q_14, .inr (0, [.int 0, .int 0, .int 0, .int 0, .int 0, .int 0, .int 0, .int 0, .null, .null]))] := hD
  refine lv_dup hx hb dX1_init_36 rfl ?_
  have hPc := hP.sub (ws' := [(q_14, .inr (0, [.int 0, .int 0, .int 0, .int 0, .int 0, .int 0, .int 0, .int 0, .null, .null]))]) [9] rfl
  have hDc := hD.sub (ws' := [(q_14, .inr (0, [.int 0, .int 0, .int 0, .int 0, .int 0, .int 0, .int 0, .int 0, .null, .null]))]) [9] (by decide) rfl
  have hFc := va_free (wc := [(q_14, .inr (0, [.int 0, .int 0, .int 0, .int 0, .int 0, .int 0, .int 0, .int 0, .null, .null]))]) hD hS hA [9] rfl
  refine va_callv (va_runI (As := []) (rest := [.ref q_14, .int 2, .ref q_3]) ⟨hx, hb, hml, hown, hts⟩ (w_Unit l dC dI q_14 cA_2 H.size) (cwI 0 hts (tg_0 tw_24) rfl rfl rfl (hts _ (tw_c tw_2)) (hts _ (tw_c tw_22)) (hts _ (tw_c tw_23)) rfl (by decide +kernel) ⟨Nat.le_of_ble_eq_true rfl, Nat.le_of_ble_eq_true rfl⟩) ⟨wr_blind, fun U hU hW => ⟨rfl, wr_use hPc (hK.sub [0] rfl) hDc U hU hW⟩⟩ rfl rfl hl.1 rfl (lv_room (Nat.le_of_ble_eq_true rfl)) dX1_init_37 ⟨Nat.le_of_ble_eq_true rfl, Nat.le_of_ble_eq_true rfl⟩) hS (fun q _ h => hFc q h) hFc (fun u9 t9 H1 locs ht hvm hw hB hz1 hk1 hS => ?_)
  obtain ⟨q_15, q_16, hP1, hK1, hD1⟩ := hB
  rw [ht] at hP1
  obtain ⟨hP, hD⟩ := va_join (wr := [(q, .inr (1, [.ref q_1, .ref q_3, .null, .null])), (q_1, .inl (cA_2, 2048, .inl (fun _ => 0))), (q_3, .inl (cA_4, 4, .inr (.inr (.inr (.inr (va_up (va_up (fun _ => none) 0 (some q_6)) 1 (some q_10))))))), (q_6, .inr (0, [.int 0, .int 0, .int 0, .int 0, .int 1, .int 0, .int 0, .int 0, .ref q_7, .ref q_8])), (q_7, .inl (cA_2, 4, .inl (fun _ => 0))), (q_8, .inl (cA_2, 12, .inl (tu_lay 0 0 (fun _ => 0) 11))), (q_10, .inr (0, [.int 0, .int 0, .int 0, .int 0, .int 1, .int 0, .int 0, .int 0, .ref q_11, .ref q_12])), (q_11, .inl (cA_2, 4, .inl (fun _ => 0))), (q_12, .inl (cA_2, 12, .inl (tu_lay 0 0 (fun _ => 0) 11)))]) (w1 := [(q_14, .inr (0, [.int 0, .int 0, .int 0, .int 0, .int 1, .int 0, .int 0, .int 0, .ref q_15, .ref q_16])), (q_15, .inl (cA_2, 4, .inl (fun _ => 0))), (q_16, .inl (cA_2, 12, .inl (tu_lay 0 0 (fun _ => 0) 11)))]) hP hD [9] [0, 1, 2, 3, 4, 5, 6, 7, 8] rfl rfl (by decide) (by decide) hk1 hFc hP1 hD1
  have hP := hP.sub (ws' := [(q, .inr (1, [.ref q_1, .ref q_3, .null, .null])), (q_1, .inl (cA_2, 2048, .inl (fun _ => 0))), (q_3, .inl (cA_4, 4, .inr (.inr (.inr (.inr (va_up (va_up (fun _ => none) 0 (some q_6)) 1 (some q_10))))))), (q_6, .inr (0, [.int 0, .int 0, .int 0, .int 0, .int 1, .int 0, .int 0, .int 0, .ref q_7, .ref q_8])), (q_7, .inl (cA_2, 4, .inl (fun _ => 0))), (q_8, .inl (cA_2, 12, .inl (tu_lay 0 0 (fun _ => 0) 11))), (q_10, .inr (0, [.int 0, .int 0, .int 0, .int 0, .int 1, .int 0, .int 0, .int 0, .ref q_11, .ref q_12])), (q_11, .inl (cA_2, 4, .inl (fun _ => 0))), (q_12, .inl (cA_2, 12, .inl (tu_lay 0 0 (fun _ => 0) 11))), (q_14, .inr (0, [.int 0, .int 0, .int 0, .int 0, .int 1, .int 0, .int 0, .int 0, .ref q_15, .ref q_16])), (q_15, .inl (cA_2, 4, .inl (fun _ => 0))), (q_16, .inl (cA_2, 12, .inl (tu_lay 0 0 (fun _ => 0) 11)))]) [0, 1, 2, 3, 4, 5, 6, 7, 8, 9, 10, 11] rfl
  have hD := hD.sub (ws' := [(q, .inr (1, [.ref q_1, .ref q_3, .null, .null])), (q_1, .inl (cA_2, 2048, .inl (fun _ => 0))), (q_3, .inl (cA_4, 4, .inr (.inr (.inr (.inr (va_up (va_up (fun _ => none) 0 (some q_6)) 1 (some q_10))))))), (q_6, .inr (0, [.int 0, .int 0, .int 0, .int 0, .int 1, .int 0, .int 0, .int 0, .ref q_7, .ref q_8])), (q_7, .inl (cA_2, 4, .inl (fun _ => 0))), (q_8, .inl (cA_2, 12, .inl (tu_lay 0 0 (fun _ => 0) 11))), (q_10, .inr (0, [.int 0, .int 0, .int 0, .int 0, .int 1, .int 0, .int 0, .int 0, .ref q_11, .ref q_12])), (q_11, .inl (cA_2, 4, .inl (fun _ => 0))), (q_12, .inl (cA_2, 12, .inl (tu_lay 0 0 (fun _ => 0) 11))), (q_14, .inr (0, [.int 0, .int 0, .int 0, .int 0, .int 1, .int 0, .int 0, .int 0, .ref q_15, .ref q_16])), (q_15, .inl (cA_2, 4, .inl (fun _ => 0))), (q_16, .inl (cA_2, 12, .inl (tu_lay 0 0 (fun _ => 0) 11)))]) [0, 1, 2, 3, 4, 5, 6, 7, 8, 9, 10, 11] (by decide) rfl
  clear hPc hDc hFc hP1 hK1 hD1 hk1 hz1
  generalize H1 = H at hP hS ⊢
  refine W.widen (k := 11) (n := 2130) (Nat.le_of_ble_eq_true rfl) (Nat.le_of_ble_eq_true rfl) ?_
  refine va_astq hx hb hK hP hD hS 2 1 9 0 rfl rfl rfl rfl (tu_in (by decide)) dX1_init_40 (fun H locs hP hD hS => ?_)
  have hP : va_P (dC, dI) vwCl [(q, .inr (1, [.ref q_1, .ref q_3, .null, .null])), (q_1, .inl (cA_2, 2048, .inl (fun _ => 0))), (q_3, .inl (cA_4, 4, .inr (.inr (.inr (.inr (va_up (va_up (va_up (fun _ => none) 0 (some q_6)) 1 (some q_10)) 2 (some q_14))))))), (q_6, .inr (0, [.int 0, .int 0, .int 0, .int 0, .int 1, .int 0, .int 0, .int 0, .ref q_7, .ref q_8])), (q_7, .inl (cA_2, 4, .inl (fun _ => 0))), (q_8, .inl (cA_2, 12, .inl (tu_lay 0 0 (fun _ => 0) 11))), (q_10, .inr (0, [.int 0, .int 0, .int 0, .int 0, .int 1, .int 0, .int 0, .int 0, .ref q_11, .ref q_12])), (q_11, .inl (cA_2, 4, .inl (fun _ => 0))), (q_12, .inl (cA_2, 12, .inl (tu_lay 0 0 (fun _ => 0) 11))), (q_14, .inr (0, [.int 0, .int 0, .int 0, .int 0, .int 1, .int 0, .int 0, .int 0, .ref q_15, .ref q_16])), (q_15, .inl (cA_2, 4, .inl (fun _ => 0))), (q_16, .inl (cA_2, 12, .inl (tu_lay 0 0 (fun _ => 0) 11)))] H := hP
  have hD : va_D A [(q, .inr (1, [.ref q_1, .ref q_3, .null, .null])), (q_1, .inl (cA_2, 2048, .inl (fun _ => 0))), (q_3, .inl (cA_4, 4, .inr (.inr (.inr (.inr (va_up (va_up (va_up (fun _ => none) 0 (some q_6)) 1 (some q_10)) 2 (some q_14))))))), (q_6, .inr (0, [.int 0, .int 0, .int 0, .int 0, .int 1, .int 0, .int 0, .int 0, .ref q_7, .ref q_8])), (q_7, .inl (cA_2, 4, .inl (fun _ => 0))), (q_8, .inl (cA_2, 12, .inl (tu_lay 0 0 (fun _ => 0) 11))), (q_10, .inr (0, [.int 0, .int 0, .int 0, .int 0, .int 1, .int 0, .int 0, .int 0, .ref q_11, .ref q_12])), (q_11, .inl (cA_2, 4, .inl (fun _ => 0))), (q_12, .inl (cA_2, 12, .inl (tu_lay 0 0 (fun _ => 0) 11))), (q_14, .inr (0, [.int 0, .int 0, .int 0, .int 0, .int 1, .int 0, .int 0, .int 0, .ref q_15, .ref q_16])), (q_15, .inl (cA_2, 4, .inl (fun _ => 0))), (q_16, .inl (cA_2, 12, .inl (tu_lay 0 0 (fun _ => 0) 11)))] := hD
  refine lv_iinc (v := 3) (lv' := [(1, .int 3), (0, .ref q)]) hx hb dX1_init_41 hl (k := 0) rfl (by decide) (by decide) rfl (fun ls hl => ?_)
  refine lv_goto (tgt := 23) hx hb dX1_init_44 (by decide) ?_
  refine lv_iload_n hx hb dX1_init_23 rfl (lv_at hl 0 rfl) ?_
  refine lv_iconst (v := 4) hx hb dX1_init_24 (by decide) ?_
  refine lv_icmp_ge (tgt := 47) hx hb dX1_init_25 (by decide) (fun c_17 => absurd c_17 (by decide)) (fun c_17 => ?_)
  refine lv_aload_n hx hb dX1_init_28 rfl (lv_at hl 1 rfl) ?_
  refine va_get (D := (dC, dI)) (ci := 1) (v := .ref q_3) (C := "TextureUnits") (T := TX1) (N := 4) hx hb hts (tw_s inX1) hown hK hP 0 rfl rfl 1 (by decide) (hts _ (tw_c tw_74)) (fun _ h9 => h9) rfl dX1_init_29 ?_
  refine lv_iload_n hx hb dX1_init_32 rfl (lv_at hl 0 rfl) ?_
  refine va_new (ci := 0) (fs := [.int 0, .int 0, .int 0, .int 0, .int 0, .int 0, .int 0, .int 0, .null, .null]) (C := "TextureUnits$Unit") (T := TX0) (N := 10) hx hb hts (tw_s inX0) tyX0 tyX0_ok hown (hts _ (tw_c tw_19)) (hts _ (tw_c tw_21)) (hts _ (tw_c tw_2)) hK hP hD hS hA rfl (by decide) (Nat.le_of_ble_eq_true rfl) (Nat.le_of_ble_eq_true rfl) dX1_init_33 (fun q_18 H hP hD hS => ?_)
  refine W.widen (k := 12) (n := 2140) (Nat.le_of_ble_eq_true rfl) (Nat.le_of_ble_eq_true rfl) ?_
  have hP : va_P (dC, dI) vwCl [(q, .inr (1, [.ref q_1, .ref q_3, .null, .null])), (q_1, .inl (cA_2, 2048, .inl (fun _ => 0))), (q_3, .inl (cA_4, 4, .inr (.inr (.inr (.inr (va_up (va_up (va_up (fun _ => none) 0 (some q_6)) 1 (some q_10)) 2 (some q_14))))))), (q_6, .inr (0, [.int 0, .int 0, .int 0, .int 0, .int 1, .int 0, .int 0, .int 0, .ref q_7, .ref q_8])), (q_7, .inl (cA_2, 4, .inl (fun _ => 0))), (q_8, .inl (cA_2, 12, .inl (tu_lay 0 0 (fun _ => 0) 11))), (q_10, .inr (0, [.int 0, .int 0, .int 0, .int 0, .int 1, .int 0, .int 0, .int 0, .ref q_11, .ref q_12])), (q_11, .inl (cA_2, 4, .inl (fun _ => 0))), (q_12, .inl (cA_2, 12, .inl (tu_lay 0 0 (fun _ => 0) 11))), (q_14, .inr (0, [.int 0, .int 0, .int 0, .int 0, .int 1, .int 0, .int 0, .int 0, .ref q_15, .ref q_16])), (q_15, .inl (cA_2, 4, .inl (fun _ => 0))), (q_16, .inl (cA_2, 12, .inl (tu_lay 0 0 (fun _ => 0) 11))), (q_18, .inr (0, [.int 0, .int 0, .int 0, .int 0, .int 0, .int 0, .int 0, .int 0, .null, .null]))] H := hP
  have hD : va_D A [(q, .inr (1, [.ref q_1, .ref q_3, .null, .null])), (q_1, .inl (cA_2, 2048, .inl (fun _ => 0))), (q_3, .inl (cA_4, 4, .inr (.inr (.inr (.inr (va_up (va_up (va_up (fun _ => none) 0 (some q_6)) 1 (some q_10)) 2 (some q_14))))))), (q_6, .inr (0, [.int 0, .int 0, .int 0, .int 0, .int 1, .int 0, .int 0, .int 0, .ref q_7, .ref q_8])), (q_7, .inl (cA_2, 4, .inl (fun _ => 0))), (q_8, .inl (cA_2, 12, .inl (tu_lay 0 0 (fun _ => 0) 11))), (q_10, .inr (0, [.int 0, .int 0, .int 0, .int 0, .int 1, .int 0, .int 0, .int 0, .ref q_11, .ref q_12])), (q_11, .inl (cA_2, 4, .inl (fun _ => 0))), (q_12, .inl (cA_2, 12, .inl (tu_lay 0 0 (fun _ => 0) 11))), (q_14, .inr (0, [.int 0, .int 0, .int 0, .int 0, .int 1, .int 0, .int 0, .int 0, .ref q_15, .ref q_16])), (q_15, .inl (cA_2, 4, .inl (fun _ => 0))), (q_16, .inl (cA_2, 12, .inl (tu_lay 0 0 (fun _ => 0) 11))), (q_18, .inr (0, [.int 0, .int 0, .int 0, .int 0, .int 0, .int 0, .int 0, .int 0, .null, .null]))] := hD
  refine lv_dup hx hb dX1_init_36 rfl ?_
  have hPc := hP.sub (ws' := [(q_18, .inr (0, [.int 0, .int 0, .int 0, .int 0, .int 0, .int 0, .int 0, .int 0, .null, .null]))]) [12] rfl
  have hDc := hD.sub (ws' := [(q_18, .inr (0, [.int 0, .int 0, .int 0, .int 0, .int 0, .int 0, .int 0, .int 0, .null, .null]))]) [12] (by decide) rfl
  have hFc := va_free (wc := [(q_18, .inr (0, [.int 0, .int 0, .int 0, .int 0, .int 0, .int 0, .int 0, .int 0, .null, .null]))]) hD hS hA [12] rfl
  refine va_callv (va_runI (As := []) (rest := [.ref q_18, .int 3, .ref q_3]) ⟨hx, hb, hml, hown, hts⟩ (w_Unit l dC dI q_18 cA_2 H.size) (cwI 0 hts (tg_0 tw_24) rfl rfl rfl (hts _ (tw_c tw_2)) (hts _ (tw_c tw_22)) (hts _ (tw_c tw_23)) rfl (by decide +kernel) ⟨Nat.le_of_ble_eq_true rfl, Nat.le_of_ble_eq_true rfl⟩) ⟨wr_blind, fun U hU hW => ⟨rfl, wr_use hPc (hK.sub [0] rfl) hDc U hU hW⟩⟩ rfl rfl hl.1 rfl (lv_room (Nat.le_of_ble_eq_true rfl)) dX1_init_37 ⟨Nat.le_of_ble_eq_true rfl, Nat.le_of_ble_eq_true rfl⟩) hS (fun q _ h => hFc q h) hFc (fun u9 t9 H1 locs ht hvm hw hB hz1 hk1 hS => ?_)
  obtain ⟨q_19, q_20, hP1, hK1, hD1⟩ := hB
  rw [ht] at hP1
  obtain ⟨hP, hD⟩ := va_join (wr := [(q, .inr (1, [.ref q_1, .ref q_3, .null, .null])), (q_1, .inl (cA_2, 2048, .inl (fun _ => 0))), (q_3, .inl (cA_4, 4, .inr (.inr (.inr (.inr (va_up (va_up (va_up (fun _ => none) 0 (some q_6)) 1 (some q_10)) 2 (some q_14))))))), (q_6, .inr (0, [.int 0, .int 0, .int 0, .int 0, .int 1, .int 0, .int 0, .int 0, .ref q_7, .ref q_8])), (q_7, .inl (cA_2, 4, .inl (fun _ => 0))), (q_8, .inl (cA_2, 12, .inl (tu_lay 0 0 (fun _ => 0) 11))), (q_10, .inr (0, [.int 0, .int 0, .int 0, .int 0, .int 1, .int 0, .int 0, .int 0, .ref q_11, .ref q_12])), (q_11, .inl (cA_2, 4, .inl (fun _ => 0))), (q_12, .inl (cA_2, 12, .inl (tu_lay 0 0 (fun _ => 0) 11))), (q_14, .inr (0, [.int 0, .int 0, .int 0, .int 0, .int 1, .int 0, .int 0, .int 0, .ref q_15, .ref q_16])), (q_15, .inl (cA_2, 4, .inl (fun _ => 0))), (q_16, .inl (cA_2, 12, .inl (tu_lay 0 0 (fun _ => 0) 11)))]) (w1 := [(q_18, .inr (0, [.int 0, .int 0, .int 0, .int 0, .int 1, .int 0, .int 0, .int 0, .ref q_19, .ref q_20])), (q_19, .inl (cA_2, 4, .inl (fun _ => 0))), (q_20, .inl (cA_2, 12, .inl (tu_lay 0 0 (fun _ => 0) 11)))]) hP hD [12] [0, 1, 2, 3, 4, 5, 6, 7, 8, 9, 10, 11] rfl rfl (by decide) (by decide) hk1 hFc hP1 hD1
  have hP := hP.sub (ws' := [(q, .inr (1, [.ref q_1, .ref q_3, .null, .null])), (q_1, .inl (cA_2, 2048, .inl (fun _ => 0))), (q_3, .inl (cA_4, 4, .inr (.inr (.inr (.inr (va_up (va_up (va_up (fun _ => none) 0 (some q_6)) 1 (some q_10)) 2 (some q_14))))))), (q_6, .inr (0, [.int 0, .int 0, .int 0, .int 0, .int 1, .int 0, .int 0, .int 0, .ref q_7, .ref q_8])), (q_7, .inl (cA_2, 4, .inl (fun _ => 0))), (q_8, .inl (cA_2, 12, .inl (tu_lay 0 0 (fun _ => 0) 11))), (q_10, .inr (0, [.int 0, .int 0, .int 0, .int 0, .int 1, .int 0, .int 0, .int 0, .ref q_11, .ref q_12])), (q_11, .inl (cA_2, 4, .inl (fun _ => 0))), (q_12, .inl (cA_2, 12, .inl (tu_lay 0 0 (fun _ => 0) 11))), (q_14, .inr (0, [.int 0, .int 0, .int 0, .int 0, .int 1, .int 0, .int 0, .int 0, .ref q_15, .ref q_16])), (q_15, .inl (cA_2, 4, .inl (fun _ => 0))), (q_16, .inl (cA_2, 12, .inl (tu_lay 0 0 (fun _ => 0) 11))), (q_18, .inr (0, [.int 0, .int 0, .int 0, .int 0, .int 1, .int 0, .int 0, .int 0, .ref q_19, .ref q_20])), (q_19, .inl (cA_2, 4, .inl (fun _ => 0))), (q_20, .inl (cA_2, 12, .inl (tu_lay 0 0 (fun _ => 0) 11)))]) [0, 1, 2, 3, 4, 5, 6, 7, 8, 9, 10, 11, 12, 13, 14] rfl
  have hD := hD.sub (ws' := [(q, .inr (1, [.ref q_1, .ref q_3, .null, .null])), (q_1, .inl (cA_2, 2048, .inl (fun _ => 0))), (q_3, .inl (cA_4, 4, .inr (.inr (.inr (.inr (va_up (va_up (va_up (fun _ => none) 0 (some q_6)) 1 (some q_10)) 2 (some q_14))))))), (q_6, .inr (0, [.int 0, .int 0, .int 0, .int 0, .int 1, .int 0, .int 0, .int 0, .ref q_7, .ref q_8])), (q_7, .inl (cA_2, 4, .inl (fun _ => 0))), (q_8, .inl (cA_2, 12, .inl (tu_lay 0 0 (fun _ => 0) 11))), (q_10, .inr (0, [.int 0, .int 0, .int 0, .int 0, .int 1, .int 0, .int 0, .int 0, .ref q_11, .ref q_12])), (q_11, .inl (cA_2, 4, .inl (fun _ => 0))), (q_12, .inl (cA_2, 12, .inl (tu_lay 0 0 (fun _ => 0) 11))), (q_14, .inr (0, [.int 0, .int 0, .int 0, .int 0, .int 1, .int 0, .int 0, .int 0, .ref q_15, .ref q_16])), (q_15, .inl (cA_2, 4, .inl (fun _ => 0))), (q_16, .inl (cA_2, 12, .inl (tu_lay 0 0 (fun _ => 0) 11))), (q_18, .inr (0, [.int 0, .int 0, .int 0, .int 0, .int 1, .int 0, .int 0, .int 0, .ref q_19, .ref q_20])), (q_19, .inl (cA_2, 4, .inl (fun _ => 0))), (q_20, .inl (cA_2, 12, .inl (tu_lay 0 0 (fun _ => 0) 11)))]) [0, 1, 2, 3, 4, 5, 6, 7, 8, 9, 10, 11, 12, 13, 14] (by decide) rfl
  clear hPc hDc hFc hP1 hK1 hD1 hk1 hz1
  generalize H1 = H at hP hS ⊢
  refine W.widen (k := 14) (n := 2156) (Nat.le_of_ble_eq_true rfl) (Nat.le_of_ble_eq_true rfl) ?_
  refine va_astq hx hb hK hP hD hS 2 1 12 0 rfl rfl rfl rfl (tu_in (by decide)) dX1_init_40 (fun H locs hP hD hS => ?_)
  have hP : va_P (dC, dI) vwCl [(q, .inr (1, [.ref q_1, .ref q_3, .null, .null])), (q_1, .inl (cA_2, 2048, .inl (fun _ => 0))), (q_3, .inl (cA_4, 4, .inr (.inr (.inr (.inr (va_up (va_up (va_up (va_up (fun _ => none) 0 (some q_6)) 1 (some q_10)) 2 (some q_14)) 3 (some q_18))))))), (q_6, .inr (0, [.int 0, .int 0, .int 0, .int 0, .int 1, .int 0, .int 0, .int 0, .ref q_7, .ref q_8])), (q_7, .inl (cA_2, 4, .inl (fun _ => 0))), (q_8, .inl (cA_2, 12, .inl (tu_lay 0 0 (fun _ => 0) 11))), (q_10, .inr (0, [.int 0, .int 0, .int 0, .int 0, .int 1, .int 0, .int 0, .int 0, .ref q_11, .ref q_12])), (q_11, .inl (cA_2, 4, .inl (fun _ => 0))), (q_12, .inl (cA_2, 12, .inl (tu_lay 0 0 (fun _ => 0) 11))), (q_14, .inr (0, [.int 0, .int 0, .int 0, .int 0, .int 1, .int 0, .int 0, .int 0, .ref q_15, .ref q_16])), (q_15, .inl (cA_2, 4, .inl (fun _ => 0))), (q_16, .inl (cA_2, 12, .inl (tu_lay 0 0 (fun _ => 0) 11))), (q_18, .inr (0, [.int 0, .int 0, .int 0, .int 0, .int 1, .int 0, .int 0, .int 0, .ref q_19, .ref q_20])), (q_19, .inl (cA_2, 4, .inl (fun _ => 0))), (q_20, .inl (cA_2, 12, .inl (tu_lay 0 0 (fun _ => 0) 11)))] H := hP
  have hD : va_D A [(q, .inr (1, [.ref q_1, .ref q_3, .null, .null])), (q_1, .inl (cA_2, 2048, .inl (fun _ => 0))), (q_3, .inl (cA_4, 4, .inr (.inr (.inr (.inr (va_up (va_up (va_up (va_up (fun _ => none) 0 (some q_6)) 1 (some q_10)) 2 (some q_14)) 3 (some q_18))))))), (q_6, .inr (0, [.int 0, .int 0, .int 0, .int 0, .int 1, .int 0, .int 0, .int 0, .ref q_7, .ref q_8])), (q_7, .inl (cA_2, 4, .inl (fun _ => 0))), (q_8, .inl (cA_2, 12, .inl (tu_lay 0 0 (fun _ => 0) 11))), (q_10, .inr (0, [.int 0, .int 0, .int 0, .int 0, .int 1, .int 0, .int 0, .int 0, .ref q_11, .ref q_12])), (q_11, .inl (cA_2, 4, .inl (fun _ => 0))), (q_12, .inl (cA_2, 12, .inl (tu_lay 0 0 (fun _ => 0) 11))), (q_14, .inr (0, [.int 0, .int 0, .int 0, .int 0, .int 1, .int 0, .int 0, .int 0, .ref q_15, .ref q_16])), (q_15, .inl (cA_2, 4, .inl (fun _ => 0))), (q_16, .inl (cA_2, 12, .inl (tu_lay 0 0 (fun _ => 0) 11))), (q_18, .inr (0, [.int 0, .int 0, .int 0, .int 0, .int 1, .int 0, .int 0, .int 0, .ref q_19, .ref q_20])), (q_19, .inl (cA_2, 4, .inl (fun _ => 0))), (q_20, .inl (cA_2, 12, .inl (tu_lay 0 0 (fun _ => 0) 11)))] := hD
  refine lv_iinc (v := 4) (lv' := [(1, .int 4), (0, .ref q)]) hx hb dX1_init_41 hl (k := 0) rfl (by decide) (by decide) rfl (fun ls hl => ?_)
  refine lv_goto (tgt := 23) hx hb dX1_init_44 (by decide) ?_
  refine lv_iload_n hx hb dX1_init_23 rfl (lv_at hl 0 rfl) ?_
  refine lv_iconst (v := 4) hx hb dX1_init_24 (by decide) ?_
  refine lv_icmp_ge (tgt := 47) hx hb dX1_init_25 (by decide) (fun c_21 => ?_) (fun c_21 => absurd (by decide) c_21)
  refine lv_aload_n hx hb dX1_init_47 rfl (lv_at hl 1 rfl) ?_
  refine lv_iconst (v := 4) hx hb dX1_init_48 (by decide) ?_
  refine va_newa (atype := .int) (ty := .int) (a0 := (4, .inl (fun _ => 0))) (N' := 4) hx hb (hts _ (tw_c tw_72)) rfl hK hP hD hS hA (fun _ => rfl) (by decide) (by decide) (by decide) (Nat.le_of_ble_eq_true rfl) (Nat.le_of_ble_eq_true rfl) dX1_init_49 (fun q_22 cA_23 H hK hP hD hS => ?_)
  have e9 : cA_2 = cA_23 := tu_cA hK 0 2 rfl rfl
  subst e9
  have hK := hK.sub (tys' := [(cA_2, .int), (cA_4, .object "TextureUnits$Unit")]) [0, 1] rfl
  refine W.widen (k := 15) (n := 2160) (Nat.le_of_ble_eq_true rfl) (Nat.le_of_ble_eq_true rfl) ?_
  have hP : va_P (dC, dI) vwCl [(q, .inr (1, [.ref q_1, .ref q_3, .null, .null])), (q_1, .inl (cA_2, 2048, .inl (fun _ => 0))), (q_3, .inl (cA_4, 4, .inr (.inr (.inr (.inr (va_up (va_up (va_up (va_up (fun _ => none) 0 (some q_6)) 1 (some q_10)) 2 (some q_14)) 3 (some q_18))))))), (q_6, .inr (0, [.int 0, .int 0, .int 0, .int 0, .int 1, .int 0, .int 0, .int 0, .ref q_7, .ref q_8])), (q_7, .inl (cA_2, 4, .inl (fun _ => 0))), (q_8, .inl (cA_2, 12, .inl (tu_lay 0 0 (fun _ => 0) 11))), (q_10, .inr (0, [.int 0, .int 0, .int 0, .int 0, .int 1, .int 0, .int 0, .int 0, .ref q_11, .ref q_12])), (q_11, .inl (cA_2, 4, .inl (fun _ => 0))), (q_12, .inl (cA_2, 12, .inl (tu_lay 0 0 (fun _ => 0) 11))), (q_14, .inr (0, [.int 0, .int 0, .int 0, .int 0, .int 1, .int 0, .int 0, .int 0, .ref q_15, .ref q_16])), (q_15, .inl (cA_2, 4, .inl (fun _ => 0))), (q_16, .inl (cA_2, 12, .inl (tu_lay 0 0 (fun _ => 0) 11))), (q_18, .inr (0, [.int 0, .int 0, .int 0, .int 0, .int 1, .int 0, .int 0, .int 0, .ref q_19, .ref q_20])), (q_19, .inl (cA_2, 4, .inl (fun _ => 0))), (q_20, .inl (cA_2, 12, .inl (tu_lay 0 0 (fun _ => 0) 11))), (q_22, .inl (cA_2, 4, .inl (fun _ => 0)))] H := hP
  have hD : va_D A [(q, .inr (1, [.ref q_1, .ref q_3, .null, .null])), (q_1, .inl (cA_2, 2048, .inl (fun _ => 0))), (q_3, .inl (cA_4, 4, .inr (.inr (.inr (.inr (va_up (va_up (va_up (va_up (fun _ => none) 0 (some q_6)) 1 (some q_10)) 2 (some q_14)) 3 (some q_18))))))), (q_6, .inr (0, [.int 0, .int 0, .int 0, .int 0, .int 1, .int 0, .int 0, .int 0, .ref q_7, .ref q_8])), (q_7, .inl (cA_2, 4, .inl (fun _ => 0))), (q_8, .inl (cA_2, 12, .inl (tu_lay 0 0 (fun _ => 0) 11))), (q_10, .inr (0, [.int 0, .int 0, .int 0, .int 0, .int 1, .int 0, .int 0, .int 0, .ref q_11, .ref q_12])), (q_11, .inl (cA_2, 4, .inl (fun _ => 0))), (q_12, .inl (cA_2, 12, .inl (tu_lay 0 0 (fun _ => 0) 11))), (q_14, .inr (0, [.int 0, .int 0, .int 0, .int 0, .int 1, .int 0, .int 0, .int 0, .ref q_15, .ref q_16])), (q_15, .inl (cA_2, 4, .inl (fun _ => 0))), (q_16, .inl (cA_2, 12, .inl (tu_lay 0 0 (fun _ => 0) 11))), (q_18, .inr (0, [.int 0, .int 0, .int 0, .int 0, .int 1, .int 0, .int 0, .int 0, .ref q_19, .ref q_20])), (q_19, .inl (cA_2, 4, .inl (fun _ => 0))), (q_20, .inl (cA_2, 12, .inl (tu_lay 0 0 (fun _ => 0) 11))), (q_22, .inl (cA_2, 4, .inl (fun _ => 0)))] := hD
  refine va_putF (D := (dC, dI)) (ci := 1) (v := .ref q_22) (ty := (.array .int)) (C := "TextureUnits") (T := TX1) (N := 4) hx hb hts (tw_s inX1) tyX1 tyX1_ok nmX1 hown hK hP hD hS 0 rfl rfl 2 (by decide) (hts _ (tw_c tw_75)) (fun _ h9 => h9) rfl hin rfl (by decide +kernel) rfl rfl (Nat.le_of_ble_eq_true rfl) dX1_init_51 (fun H locs hP hD hS => ?_)
  have hP : va_P (dC, dI) vwCl [(q, .inr (1, [.ref q_1, .ref q_3, .ref q_22, .null])), (q_1, .inl (cA_2, 2048, .inl (fun _ => 0))), (q_3, .inl (cA_4, 4, .inr (.inr (.inr (.inr (va_up (va_up (va_up (va_up (fun _ => none) 0 (some q_6)) 1 (some q_10)) 2 (some q_14)) 3 (some q_18))))))), (q_6, .inr (0, [.int 0, .int 0, .int 0, .int 0, .int 1, .int 0, .int 0, .int 0, .ref q_7, .ref q_8])), (q_7, .inl (cA_2, 4, .inl (fun _ => 0))), (q_8, .inl (cA_2, 12, .inl (tu_lay 0 0 (fun _ => 0) 11))), (q_10, .inr (0, [.int 0, .int 0, .int 0, .int 0, .int 1, .int 0, .int 0, .int 0, .ref q_11, .ref q_12])), (q_11, .inl (cA_2, 4, .inl (fun _ => 0))), (q_12, .inl (cA_2, 12, .inl (tu_lay 0 0 (fun _ => 0) 11))), (q_14, .inr (0, [.int 0, .int 0, .int 0, .int 0, .int 1, .int 0, .int 0, .int 0, .ref q_15, .ref q_16])), (q_15, .inl (cA_2, 4, .inl (fun _ => 0))), (q_16, .inl (cA_2, 12, .inl (tu_lay 0 0 (fun _ => 0) 11))), (q_18, .inr (0, [.int 0, .int 0, .int 0, .int 0, .int 1, .int 0, .int 0, .int 0, .ref q_19, .ref q_20])), (q_19, .inl (cA_2, 4, .inl (fun _ => 0))), (q_20, .inl (cA_2, 12, .inl (tu_lay 0 0 (fun _ => 0) 11))), (q_22, .inl (cA_2, 4, .inl (fun _ => 0)))] H := hP
  have hD : va_D A [(q, .inr (1, [.ref q_1, .ref q_3, .ref q_22, .null])), (q_1, .inl (cA_2, 2048, .inl (fun _ => 0))), (q_3, .inl (cA_4, 4, .inr (.inr (.inr (.inr (va_up (va_up (va_up (va_up (fun _ => none) 0 (some q_6)) 1 (some q_10)) 2 (some q_14)) 3 (some q_18))))))), (q_6, .inr (0, [.int 0, .int 0, .int 0, .int 0, .int 1, .int 0, .int 0, .int 0, .ref q_7, .ref q_8])), (q_7, .inl (cA_2, 4, .inl (fun _ => 0))), (q_8, .inl (cA_2, 12, .inl (tu_lay 0 0 (fun _ => 0) 11))), (q_10, .inr (0, [.int 0, .int 0, .int 0, .int 0, .int 1, .int 0, .int 0, .int 0, .ref q_11, .ref q_12])), (q_11, .inl (cA_2, 4, .inl (fun _ => 0))), (q_12, .inl (cA_2, 12, .inl (tu_lay 0 0 (fun _ => 0) 11))), (q_14, .inr (0, [.int 0, .int 0, .int 0, .int 0, .int 1, .int 0, .int 0, .int 0, .ref q_15, .ref q_16])), (q_15, .inl (cA_2, 4, .inl (fun _ => 0))), (q_16, .inl (cA_2, 12, .inl (tu_lay 0 0 (fun _ => 0) 11))), (q_18, .inr (0, [.int 0, .int 0, .int 0, .int 0, .int 1, .int 0, .int 0, .int 0, .ref q_19, .ref q_20])), (q_19, .inl (cA_2, 4, .inl (fun _ => 0))), (q_20, .inl (cA_2, 12, .inl (tu_lay 0 0 (fun _ => 0) 11))), (q_22, .inl (cA_2, 4, .inl (fun _ => 0)))] := hD
  refine lv_aload_n hx hb dX1_init_54 rfl (lv_at hl 1 rfl) ?_
  refine lv_iconst (v := 4) hx hb dX1_init_55 (by decide) ?_
  refine va_newa (atype := .int) (ty := .int) (a0 := (4, .inl (fun _ => 0))) (N' := 4) hx hb (hts _ (tw_c tw_72)) rfl hK hP hD hS hA (fun _ => rfl) (by decide) (by decide) (by decide) (Nat.le_of_ble_eq_true rfl) (Nat.le_of_ble_eq_true rfl) dX1_init_56 (fun q_24 cA_25 H hK hP hD hS => ?_)
  have e9 : cA_2 = cA_25 := tu_cA hK 0 2 rfl rfl
  subst e9
  have hK := hK.sub (tys' := [(cA_2, .int), (cA_4, .object "TextureUnits$Unit")]) [0, 1] rfl
  refine W.widen (k := 16) (n := 2164) (Nat.le_of_ble_eq_true rfl) (Nat.le_of_ble_eq_true rfl) ?_
  have hP : va_P (dC, dI) vwCl [(q, .inr (1, [.ref q_1, .ref q_3, .ref q_22, .null])), (q_1, .inl (cA_2, 2048, .inl (fun _ => 0))), (q_3, .inl (cA_4, 4, .inr (.inr (.inr (.inr (va_up (va_up (va_up (va_up (fun _ => none) 0 (some q_6)) 1 (some q_10)) 2 (some q_14)) 3 (some q_18))))))), (q_6, .inr (0, [.int 0, .int 0, .int 0, .int 0, .int 1, .int 0, .int 0, .int 0, .ref q_7, .ref q_8])), (q_7, .inl (cA_2, 4, .inl (fun _ => 0))), (q_8, .inl (cA_2, 12, .inl (tu_lay 0 0 (fun _ => 0) 11))), (q_10, .inr (0, [.int 0, .int 0, .int 0, .int 0, .int 1, .int 0, .int 0, .int 0, .ref q_11, .ref q_12])), (q_11, .inl (cA_2, 4, .inl (fun _ => 0))), (q_12, .inl (cA_2, 12, .inl (tu_lay 0 0 (fun _ => 0) 11))), (q_14, .inr (0, [.int 0, .int 0, .int 0, .int 0, .int 1, .int 0, .int 0, .int 0, .ref q_15, .ref q_16])), (q_15, .inl (cA_2, 4, .inl (fun _ => 0))), (q_16, .inl (cA_2, 12, .inl (tu_lay 0 0 (fun _ => 0) 11))), (q_18, .inr (0, [.int 0, .int 0, .int 0, .int 0, .int 1, .int 0, .int 0, .int 0, .ref q_19, .ref q_20])), (q_19, .inl (cA_2, 4, .inl (fun _ => 0))), (q_20, .inl (cA_2, 12, .inl (tu_lay 0 0 (fun _ => 0) 11))), (q_22, .inl (cA_2, 4, .inl (fun _ => 0))), (q_24, .inl (cA_2, 4, .inl (fun _ => 0)))] H := hP
  have hD : va_D A [(q, .inr (1, [.ref q_1, .ref q_3, .ref q_22, .null])), (q_1, .inl (cA_2, 2048, .inl (fun _ => 0))), (q_3, .inl (cA_4, 4, .inr (.inr (.inr (.inr (va_up (va_up (va_up (va_up (fun _ => none) 0 (some q_6)) 1 (some q_10)) 2 (some q_14)) 3 (some q_18))))))), (q_6, .inr (0, [.int 0, .int 0, .int 0, .int 0, .int 1, .int 0, .int 0, .int 0, .ref q_7, .ref q_8])), (q_7, .inl (cA_2, 4, .inl (fun _ => 0))), (q_8, .inl (cA_2, 12, .inl (tu_lay 0 0 (fun _ => 0) 11))), (q_10, .inr (0, [.int 0, .int 0, .int 0, .int 0, .int 1, .int 0, .int 0, .int 0, .ref q_11, .ref q_12])), (q_11, .inl (cA_2, 4, .inl (fun _ => 0))), (q_12, .inl (cA_2, 12, .inl (tu_lay 0 0 (fun _ => 0) 11))), (q_14, .inr (0, [.int 0, .int 0, .int 0, .int 0, .int 1, .int 0, .int 0, .int 0, .ref q_15, .ref q_16])), (q_15, .inl (cA_2, 4, .inl (fun _ => 0))), (q_16, .inl (cA_2, 12, .inl (tu_lay 0 0 (fun _ => 0) 11))), (q_18, .inr (0, [.int 0, .int 0, .int 0, .int 0, .int 1, .int 0, .int 0, .int 0, .ref q_19, .ref q_20])), (q_19, .inl (cA_2, 4, .inl (fun _ => 0))), (q_20, .inl (cA_2, 12, .inl (tu_lay 0 0 (fun _ => 0) 11))), (q_22, .inl (cA_2, 4, .inl (fun _ => 0))), (q_24, .inl (cA_2, 4, .inl (fun _ => 0)))] := hD
  refine va_putF (D := (dC, dI)) (ci := 1) (v := .ref q_24) (ty := (.array .int)) (C := "TextureUnits") (T := TX1) (N := 4) hx hb hts (tw_s inX1) tyX1 tyX1_ok nmX1 hown hK hP hD hS 0 rfl rfl 3 (by decide) (hts _ (tw_c tw_76)) (fun _ h9 => h9) rfl hin rfl (by decide +kernel) rfl rfl (Nat.le_of_ble_eq_true rfl) dX1_init_58 (fun H locs hP hD hS => ?_)
  have hP : va_P (dC, dI) vwCl [(q, .inr (1, [.ref q_1, .ref q_3, .ref q_22, .ref q_24])), (q_1, .inl (cA_2, 2048, .inl (fun _ => 0))), (q_3, .inl (cA_4, 4, .inr (.inr (.inr (.inr (va_up (va_up (va_up (va_up (fun _ => none) 0 (some q_6)) 1 (some q_10)) 2 (some q_14)) 3 (some q_18))))))), (q_6, .inr (0, [.int 0, .int 0, .int 0, .int 0, .int 1, .int 0, .int 0, .int 0, .ref q_7, .ref q_8])), (q_7, .inl (cA_2, 4, .inl (fun _ => 0))), (q_8, .inl (cA_2, 12, .inl (tu_lay 0 0 (fun _ => 0) 11))), (q_10, .inr (0, [.int 0, .int 0, .int 0, .int 0, .int 1, .int 0, .int 0, .int 0, .ref q_11, .ref q_12])), (q_11, .inl (cA_2, 4, .inl (fun _ => 0))), (q_12, .inl (cA_2, 12, .inl (tu_lay 0 0 (fun _ => 0) 11))), (q_14, .inr (0, [.int 0, .int 0, .int 0, .int 0, .int 1, .int 0, .int 0, .int 0, .ref q_15, .ref q_16])), (q_15, .inl (cA_2, 4, .inl (fun _ => 0))), (q_16, .inl (cA_2, 12, .inl (tu_lay 0 0 (fun _ => 0) 11))), (q_18, .inr (0, [.int 0, .int 0, .int 0, .int 0, .int 1, .int 0, .int 0, .int 0, .ref q_19, .ref q_20])), (q_19, .inl (cA_2, 4, .inl (fun _ => 0))), (q_20, .inl (cA_2, 12, .inl (tu_lay 0 0 (fun _ => 0) 11))), (q_22, .inl (cA_2, 4, .inl (fun _ => 0))), (q_24, .inl (cA_2, 4, .inl (fun _ => 0)))] H := hP
  have hD : va_D A [(q, .inr (1, [.ref q_1, .ref q_3, .ref q_22, .ref q_24])), (q_1, .inl (cA_2, 2048, .inl (fun _ => 0))), (q_3, .inl (cA_4, 4, .inr (.inr (.inr (.inr (va_up (va_up (va_up (va_up (fun _ => none) 0 (some q_6)) 1 (some q_10)) 2 (some q_14)) 3 (some q_18))))))), (q_6, .inr (0, [.int 0, .int 0, .int 0, .int 0, .int 1, .int 0, .int 0, .int 0, .ref q_7, .ref q_8])), (q_7, .inl (cA_2, 4, .inl (fun _ => 0))), (q_8, .inl (cA_2, 12, .inl (tu_lay 0 0 (fun _ => 0) 11))), (q_10, .inr (0, [.int 0, .int 0, .int 0, .int 0, .int 1, .int 0, .int 0, .int 0, .ref q_11, .ref q_12])), (q_11, .inl (cA_2, 4, .inl (fun _ => 0))), (q_12, .inl (cA_2, 12, .inl (tu_lay 0 0 (fun _ => 0) 11))), (q_14, .inr (0, [.int 0, .int 0, .int 0, .int 0, .int 1, .int 0, .int 0, .int 0, .ref q_15, .ref q_16])), (q_15, .inl (cA_2, 4, .inl (fun _ => 0))), (q_16, .inl (cA_2, 12, .inl (tu_lay 0 0 (fun _ => 0) 11))), (q_18, .inr (0, [.int 0, .int 0, .int 0, .int 0, .int 1, .int 0, .int 0, .int 0, .ref q_19, .ref q_20])), (q_19, .inl (cA_2, 4, .inl (fun _ => 0))), (q_20, .inl (cA_2, 12, .inl (tu_lay 0 0 (fun _ => 0) 11))), (q_22, .inl (cA_2, 4, .inl (fun _ => 0))), (q_24, .inl (cA_2, 4, .inl (fun _ => 0)))] := hD
  skip
  have hP9 : va_P (dC, dI) vwCl [(q, .inr (1, [.ref q_1, .ref q_3, .ref q_22, .ref q_24])), (q_1, .inl (cA_2, 2048, .inl (fun _ => 0))), (q_3, .inl (cA_4, 4, .inr (.inr (.inr (.inr (va_up (va_up (va_up (va_up (fun _ => none) 0 (some q_6)) 1 (some q_10)) 2 (some q_14)) 3 (some q_18))))))), (q_6, .inr (0, [.int 0, .int 0, .int 0, .int 0, .int 1, .int 0, .int 0, .int 0, .ref q_7, .ref q_8])), (q_7, .inl (cA_2, 4, .inl (fun _ => 0))), (q_8, .inl (cA_2, 12, .inl (tu_lay 0 0 (fun _ => 0) 11))), (q_10, .inr (0, [.int 0, .int 0, .int 0, .int 0, .int 1, .int 0, .int 0, .int 0, .ref q_11, .ref q_12])), (q_11, .inl (cA_2, 4, .inl (fun _ => 0))), (q_12, .inl (cA_2, 12, .inl (tu_lay 0 0 (fun _ => 0) 11))), (q_14, .inr (0, [.int 0, .int 0, .int 0, .int 0, .int 1, .int 0, .int 0, .int 0, .ref q_15, .ref q_16])), (q_15, .inl (cA_2, 4, .inl (fun _ => 0))), (q_16, .inl (cA_2, 12, .inl (tu_lay 0 0 (fun _ => 0) 11))), (q_18, .inr (0, [.int 0, .int 0, .int 0, .int 0, .int 1, .int 0, .int 0, .int 0, .ref q_19, .ref q_20])), (q_19, .inl (cA_2, 4, .inl (fun _ => 0))), (q_20, .inl (cA_2, 12, .inl (tu_lay 0 0 (fun _ => 0) 11))), (q_22, .inl (cA_2, 4, .inl (fun _ => 0))), (q_24, .inl (cA_2, 4, .inl (fun _ => 0)))] H := hP.sub [0, 1, 2, 3, 4, 5, 6, 7, 8, 9, 10, 11, 12, 13, 14, 15, 16] rfl
  have hD9 : va_D A [(q, .inr (1, [.ref q_1, .ref q_3, .ref q_22, .ref q_24])), (q_1, .inl (cA_2, 2048, .inl (fun _ => 0))), (q_3, .inl (cA_4, 4, .inr (.inr (.inr (.inr (va_up (va_up (va_up (va_up (fun _ => none) 0 (some q_6)) 1 (some q_10)) 2 (some q_14)) 3 (some q_18))))))), (q_6, .inr (0, [.int 0, .int 0, .int 0, .int 0, .int 1, .int 0, .int 0, .int 0, .ref q_7, .ref q_8])), (q_7, .inl (cA_2, 4, .inl (fun _ => 0))), (q_8, .inl (cA_2, 12, .inl (tu_lay 0 0 (fun _ => 0) 11))), (q_10, .inr (0, [.int 0, .int 0, .int 0, .int 0, .int 1, .int 0, .int 0, .int 0, .ref q_11, .ref q_12])), (q_11, .inl (cA_2, 4, .inl (fun _ => 0))), (q_12, .inl (cA_2, 12, .inl (tu_lay 0 0 (fun _ => 0) 11))), (q_14, .inr (0, [.int 0, .int 0, .int 0, .int 0, .int 1, .int 0, .int 0, .int 0, .ref q_15, .ref q_16])), (q_15, .inl (cA_2, 4, .inl (fun _ => 0))), (q_16, .inl (cA_2, 12, .inl (tu_lay 0 0 (fun _ => 0) 11))), (q_18, .inr (0, [.int 0, .int 0, .int 0, .int 0, .int 1, .int 0, .int 0, .int 0, .ref q_19, .ref q_20])), (q_19, .inl (cA_2, 4, .inl (fun _ => 0))), (q_20, .inl (cA_2, 12, .inl (tu_lay 0 0 (fun _ => 0) 11))), (q_22, .inl (cA_2, 4, .inl (fun _ => 0))), (q_24, .inl (cA_2, 4, .inl (fun _ => 0)))] := hD.sub [0, 1, 2, 3, 4, 5, 6, 7, 8, 9, 10, 11, 12, 13, 14, 15, 16] (by decide) rfl
  have hK9 : va_K (dC, dI) vwCl [(cA_2, .int), (cA_4, .object "TextureUnits$Unit")] s := hK.sub [0, 1] rfl
  refine W.widen (k := 16) (n := 2164) (by omega) (by omega) ?_
  exact W.vret hx hb hr (fun t ht hW => ⟨⟨(), rfl, trivial, q_1, q_3, q_6, q_7, q_8, q_10, q_11, q_12, q_14, q_15, q_16, q_18, q_19, q_20, q_22, q_24, cA_2, cA_4, by rw [ht]; exact hP9, va_K.moved hW.alike hK9, hD9⟩, hS.F ht⟩) hS.2.2 dX1_init_61
set_option maxHeartbeats 4000000 in
set_option maxRecDepth 100000 in
theorem r_unitAt (l : Launch) (dC : Nat → ClassId) (dI : Nat → Nat → Nat) (q wd us la nx : Nat) (cU : ClassId) (g : Nat → Option Nat) (u : Nat) (p0 : Int32) (h0 : ¬ tu_win p0 0 3 = 0) (hg : g p0.toNatClampNeg = some u) : Met l yX1_unitAt wsX1_unitAt ({ frames := 1, cells := 0, slots := 0, locals := 22 }) (va_Pc [.ref q, .int p0] (rd_B (dC, dI) vwCl [(q, .inr (1, [.ref wd, .ref us, .ref la, .ref nx])), (us, .inl (cU, 4, .inr (.inr (.inr (.inr g)))))] [(cU, .object "TextureUnits$Unit")])) (k2_QcV (.ref u)) 0 0 (fun _ => False) := by
  refine Met.ofW (cc := cX1_unitAt) (maxL := 2) (ret := some (.object "TextureUnits$Unit")) (by decide) rfl ?_
  intro p e s m args below meth c s₁ B hml hv
  obtain ⟨rfl, hP, hK⟩ := hv
  have hx := B.exec
  have hb := B.bytes
  have hr := B.returns
  have hts := atoms_spec (ws := wsX1_unitAt) B.pre
  have hown : s.vm.findClass "TextureUnits" = some m.cls := findClass_of_methodNamed B.named
  have hlocks := B.notSynchronized
  have hl := lv_entry ([.ref q, .int p0]) (n := 2) (Nat.le_of_ble_eq_true rfl)
  rw [lg_entry_eq]
  generalize (lg_sl ([.ref q, .int p0]) ++ List.replicate (2 - (lg_sl ([.ref q, .int p0])).length) Slot.unset).toArray = ls at hl ⊢
  have hl : lv_has ls 2 [(0, .ref q), (1, .int p0)] := hl
  refine lv_iload_n hx hb dX1_unitAt_0 rfl (lv_at hl 1 rfl) ?_
  refine lv_iconst (v := 0) hx hb dX1_unitAt_1 (by decide) ?_
  refine lv_iconst (v := 3) hx hb dX1_unitAt_2 (by decide) ?_
  refine rd_call (W.runS (As := [.int p0, .int 0, .int 3]) (rest := []) ⟨hx, hb, hml, hown, hts⟩ (r_within l p0 0 3) (va_cwS 3 hts (tg_S tw_94 tw_95 tw_1 tw_96) rfl rfl rfl (by decide +kernel) ⟨Nat.le_of_ble_eq_true rfl, Nat.le_of_ble_eq_true rfl⟩) preEq rfl rfl hl.1 rfl (lv_room (Nat.le_of_ble_eq_true rfl)) dX1_unitAt_3 ⟨Nat.le_of_ble_eq_true rfl, Nat.le_of_ble_eq_true rfl⟩) ?_
  refine lv_if_ne (tgt := 19) hx hb dX1_unitAt_6 (by decide) (fun c_1 => ?_) (fun c_1 => absurd c_1 h0)
  refine lv_aload_n hx hb dX1_unitAt_19 rfl (lv_at hl 0 rfl) ?_
  refine va_get (D := (dC, dI)) (ci := 1) (v := .ref us) (C := "TextureUnits") (T := TX1) (N := 4) hx hb hts (tw_s inX1) hown hK hP 0 rfl rfl 1 (by decide) (hts _ (tw_c tw_74)) (fun _ h9 => h9) rfl dX1_unitAt_20 ?_
  refine lv_iload_n hx hb dX1_unitAt_23 rfl (lv_at hl 1 rfl) ?_
  refine va_aldq hx hb hK hP 1 0 rfl rfl (tu_win_in h0 (by decide)) dX1_unitAt_24 ?_
  refine W.eq (g2 := F0 m 25 ls [.ref u]) (by rw [hg]; rfl) ?_
  exact W.aret (v := .ref u) (rt := .object "TextureUnits$Unit") hx hb hr (Or.inl ⟨_, rfl⟩) (Or.inr ⟨_, rfl⟩) (fun t ht hW => ⟨rfl, ht⟩) (fun q h => by cases h) dX1_unitAt_25
set_option maxHeartbeats 4000000 in
set_option maxRecDepth 100000 in
theorem x_unitAt (l : Launch) (hst : l.stackTraces = false) (dC : Nat → ClassId) (dI : Nat → Nat → Nat) (q wd us la nx : Nat) (p0 : Int32) (h0 : tu_win p0 0 3 = 0) : tx_Met l yX1_unitAt wsX1_unitAt ({ frames := 6, cells := 1, slots := 6, locals := 82 }) (va_Pc [.ref q, .int p0] (tx_B (dC, dI) vwCl [(q, .inr (1, [.ref wd, .ref us, .ref la, .ref nx]))] [])) ex_S := by
  refine vx_ofW (cc := cX1_unitAt) (maxL := 2) (ret := some (.object "TextureUnits$Unit")) (by decide) rfl ?_
  intro p e s m args below meth c s₁ B hml hEx hv
  obtain ⟨rfl, hP, hK, hE⟩ := hv
  have hx := B.exec
  have hb := B.bytes
  have hr := B.returns
  have hts := atoms_spec (ws := wsX1_unitAt) B.pre
  have hown : s.vm.findClass "TextureUnits" = some m.cls := findClass_of_methodNamed B.named
  have hlocks := B.notSynchronized
  have hl := lv_entry ([.ref q, .int p0]) (n := 2) (Nat.le_of_ble_eq_true rfl)
  rw [lg_entry_eq]
  generalize (lg_sl ([.ref q, .int p0]) ++ List.replicate (2 - (lg_sl ([.ref q, .int p0])).length) Slot.unset).toArray = ls at hl ⊢
  have hl : lv_has ls 2 [(0, .ref q), (1, .int p0)] := hl
  refine lv_iload_n hx hb dX1_unitAt_0 rfl (lv_at hl 1 rfl) ?_
  refine lv_iconst (v := 0) hx hb dX1_unitAt_1 (by decide) ?_
  refine lv_iconst (v := 3) hx hb dX1_unitAt_2 (by decide) ?_
  refine rd_call (W.runS (As := [.int p0, .int 0, .int 3]) (rest := []) ⟨hx, hb, hml, hown, hts⟩ (r_within l p0 0 3) (va_cwS 3 hts (tg_S tw_94 tw_95 tw_1 tw_96) rfl rfl rfl (by decide +kernel) ⟨Nat.le_of_ble_eq_true rfl, Nat.le_of_ble_eq_true rfl⟩) preEq rfl rfl hl.1 rfl (lv_room (Nat.le_of_ble_eq_true rfl)) dX1_unitAt_3 ⟨Nat.le_of_ble_eq_true rfl, Nat.le_of_ble_eq_true rfl⟩) ?_
  refine lv_if_ne (tgt := 19) hx hb dX1_unitAt_6 (by decide) (fun c_1 => absurd h0 c_1) (fun c_1 => ?_)
  exact ex_throw (own := "TextureUnits") (cls := ex_S) (Y := "java/lang/RuntimeException") (r := ["java/lang/Exception"]) (text := "no such unit") hx hb hst ex_x2.1 ex_x2.2.1 ex_x2.2.2.1 ex_x2.2.2.2 hown (by decide +kernel) (by decide +kernel) (hts _ (tw_c tw_178)) (hts _ (tw_c tw_8)) (hE.2.1 (116, "no such unit") (by decide)) (ex_hS hts hE) (hl.1.trans hml.symm) dX1_unitAt_9 dX1_unitAt_12 dX1_unitAt_13 dX1_unitAt_15 dX1_unitAt_18 (fun x hx => (hEx x hx).elim) (Nat.le_of_ble_eq_true rfl) (Nat.le_of_ble_eq_true rfl) (Nat.le_of_ble_eq_true rfl) (Nat.le_of_ble_eq_true rfl) hlocks
set_option maxHeartbeats 4000000 in
set_option maxRecDepth 100000 in
theorem x_picture (l : Launch) (hst : l.stackTraces = false) (dC : Nat → ClassId) (dI : Nat → Nat → Nat) (q wd us la nx : Nat) (p0 p1 p2 p3 p4 p5 : Int32) (h0 : tu_win p0 0 3 = 0) : tx_Met l yX1_picture wsX1_picture ({ frames := 7, cells := 1, slots := 6, locals := 103 }) (va_Pc [.ref q, .int p0, .int p1, .int p2, .int p3, .int p4, .int p5] (tx_B (dC, dI) vwCl [(q, .inr (1, [.ref wd, .ref us, .ref la, .ref nx]))] [])) ex_S := by
  refine vx_ofW (cc := cX1_picture) (maxL := 8) (ret := none) (by decide) rfl ?_
  intro p e s m args below meth c s₁ B hml hEx hv
  obtain ⟨rfl, hP, hK, hE⟩ := hv
  have hx := B.exec
  have hb := B.bytes
  have hr := B.returns
  have hts := atoms_spec (ws := wsX1_picture) B.pre
  have hown : s.vm.findClass "TextureUnits" = some m.cls := findClass_of_methodNamed B.named
  have hlocks := B.notSynchronized
  have hl := lv_entry ([.ref q, .int p0, .int p1, .int p2, .int p3, .int p4, .int p5]) (n := 8) (Nat.le_of_ble_eq_true rfl)
  rw [lg_entry_eq]
  generalize (lg_sl ([.ref q, .int p0, .int p1, .int p2, .int p3, .int p4, .int p5]) ++ List.replicate (8 - (lg_sl ([.ref q, .int p0, .int p1, .int p2, .int p3, .int p4, .int p5])).length) Slot.unset).toArray = ls at hl ⊢
  have hl : lv_has ls 8 [(0, .ref q), (1, .int p0), (2, .int p1), (3, .int p2), (4, .int p3), (5, .int p4), (6, .int p5)] := hl
  refine lv_aload_n hx hb dX1_picture_0 rfl (lv_at hl 0 rfl) ?_
  refine lv_iload_n hx hb dX1_picture_1 rfl (lv_at hl 1 rfl) ?_
  refine tx_call (vx_runV (As := [.int p0]) (rest := []) ⟨hx, hb, hml, hown, hts⟩ (x_unitAt l hst dC dI q wd us la nx p0 h0) (cwV 1 hts (tg_V tw_174 tw_176 tw_p1 tw_1 tw_177) rfl rfl rfl (by decide +kernel) ⟨Nat.le_of_ble_eq_true rfl, Nat.le_of_ble_eq_true rfl⟩) ⟨tx_blind, va_recv hK hP (ci := 1) (q0 := 0) rfl rfl, fun U hU hW => ⟨rfl, tx_use (hP.sub [0] rfl) (hK.sub [] rfl) hE U hU hW⟩⟩ rfl rfl hl.1 rfl (lv_room (Nat.le_of_ble_eq_true rfl)) dX1_picture_2 ⟨Nat.le_of_ble_eq_true rfl, Nat.le_of_ble_eq_true rfl⟩) (fun H1 q1 ce h1 h2 h3 h4 h5 => ?_)
  exact tx_out hEx hlocks h1 h2 h3 h4 h5 (Nat.le_of_ble_eq_true rfl) (Nat.le_of_ble_eq_true rfl)
set_option maxHeartbeats 4000000 in
set_option maxRecDepth 100000 in
theorem x_manner (l : Launch) (hst : l.stackTraces = false) (dC : Nat → ClassId) (dI : Nat → Nat → Nat) (q wd us la nx : Nat) (p0 p1 p2 p3 : Int32) (h0 : tu_win p0 0 3 = 0) : tx_Met l yX1_manner wsX1_manner ({ frames := 7, cells := 1, slots := 6, locals := 103 }) (va_Pc [.ref q, .int p0, .int p1, .int p2, .int p3] (tx_B (dC, dI) vwCl [(q, .inr (1, [.ref wd, .ref us, .ref la, .ref nx]))] [])) ex_S := by
  refine vx_ofW (cc := cX1_manner) (maxL := 6) (ret := none) (by decide) rfl ?_
  intro p e s m args below meth c s₁ B hml hEx hv
  obtain ⟨rfl, hP, hK, hE⟩ := hv
  have hx := B.exec
  have hb := B.bytes
  have hr := B.returns
  have hts := atoms_spec (ws := wsX1_manner) B.pre
  have hown : s.vm.findClass "TextureUnits" = some m.cls := findClass_of_methodNamed B.named
  have hlocks := B.notSynchronized
  have hl := lv_entry ([.ref q, .int p0, .int p1, .int p2, .int p3]) (n := 6) (Nat.le_of_ble_eq_true rfl)
  rw [lg_entry_eq]
  generalize (lg_sl ([.ref q, .int p0, .int p1, .int p2, .int p3]) ++ List.replicate (6 - (lg_sl ([.ref q, .int p0, .int p1, .int p2, .int p3])).length) Slot.unset).toArray = ls at hl ⊢
  have hl : lv_has ls 6 [(0, .ref q), (1, .int p0), (2, .int p1), (3, .int p2), (4, .int p3)] := hl
  refine lv_aload_n hx hb dX1_manner_0 rfl (lv_at hl 0 rfl) ?_
  refine lv_iload_n hx hb dX1_manner_1 rfl (lv_at hl 1 rfl) ?_
  refine tx_call (vx_runV (As := [.int p0]) (rest := []) ⟨hx, hb, hml, hown, hts⟩ (x_unitAt l hst dC dI q wd us la nx p0 h0) (cwV 1 hts (tg_V tw_174 tw_176 tw_p1 tw_1 tw_177) rfl rfl rfl (by decide +kernel) ⟨Nat.le_of_ble_eq_true rfl, Nat.le_of_ble_eq_true rfl⟩) ⟨tx_blind, va_recv hK hP (ci := 1) (q0 := 0) rfl rfl, fun U hU hW => ⟨rfl, tx_use (hP.sub [0] rfl) (hK.sub [] rfl) hE U hU hW⟩⟩ rfl rfl hl.1 rfl (lv_room (Nat.le_of_ble_eq_true rfl)) dX1_manner_2 ⟨Nat.le_of_ble_eq_true rfl, Nat.le_of_ble_eq_true rfl⟩) (fun H1 q1 ce h1 h2 h3 h4 h5 => ?_)
  exact tx_out hEx hlocks h1 h2 h3 h4 h5 (Nat.le_of_ble_eq_true rfl) (Nat.le_of_ble_eq_true rfl)
set_option maxHeartbeats 4000000 in
set_option maxRecDepth 100000 in
theorem x_border (l : Launch) (hst : l.stackTraces = false) (dC : Nat → ClassId) (dI : Nat → Nat → Nat) (q wd us la nx : Nat) (p0 p1 p2 p3 p4 : Int32) (h0 : tu_win p0 0 3 = 0) : tx_Met l yX1_border wsX1_border ({ frames := 7, cells := 1, slots := 6, locals := 103 }) (va_Pc [.ref q, .int p0, .int p1, .int p2, .int p3, .int p4] (tx_B (dC, dI) vwCl [(q, .inr (1, [.ref wd, .ref us, .ref la, .ref nx]))] [])) ex_S := by
  refine vx_ofW (cc := cX1_border) (maxL := 7) (ret := none) (by decide) rfl ?_
  intro p e s m args below meth c s₁ B hml hEx hv
  obtain ⟨rfl, hP, hK, hE⟩ := hv
  have hx := B.exec
  have hb := B.bytes
  have hr := B.returns
  have hts := atoms_spec (ws := wsX1_border) B.pre
  have hown : s.vm.findClass "TextureUnits" = some m.cls := findClass_of_methodNamed B.named
  have hlocks := B.notSynchronized
  have hl := lv_entry ([.ref q, .int p0, .int p1, .int p2, .int p3, .int p4]) (n := 7) (Nat.le_of_ble_eq_true rfl)
  rw [lg_entry_eq]
  generalize (lg_sl ([.ref q, .int p0, .int p1, .int p2, .int p3, .int p4]) ++ List.replicate (7 - (lg_sl ([.ref q, .int p0, .int p1, .int p2, .int p3, .int p4])).length) Slot.unset).toArray = ls at hl ⊢
  have hl : lv_has ls 7 [(0, .ref q), (1, .int p0), (2, .int p1), (3, .int p2), (4, .int p3), (5, .int p4)] := hl
  refine lv_aload_n hx hb dX1_border_0 rfl (lv_at hl 0 rfl) ?_
  refine lv_iload_n hx hb dX1_border_1 rfl (lv_at hl 1 rfl) ?_
  refine tx_call (vx_runV (As := [.int p0]) (rest := []) ⟨hx, hb, hml, hown, hts⟩ (x_unitAt l hst dC dI q wd us la nx p0 h0) (cwV 1 hts (tg_V tw_174 tw_176 tw_p1 tw_1 tw_177) rfl rfl rfl (by decide +kernel) ⟨Nat.le_of_ble_eq_true rfl, Nat.le_of_ble_eq_true rfl⟩) ⟨tx_blind, va_recv hK hP (ci := 1) (q0 := 0) rfl rfl, fun U hU hW => ⟨rfl, tx_use (hP.sub [0] rfl) (hK.sub [] rfl) hE U hU hW⟩⟩ rfl rfl hl.1 rfl (lv_room (Nat.le_of_ble_eq_true rfl)) dX1_border_2 ⟨Nat.le_of_ble_eq_true rfl, Nat.le_of_ble_eq_true rfl⟩) (fun H1 q1 ce h1 h2 h3 h4 h5 => ?_)
  exact tx_out hEx hlocks h1 h2 h3 h4 h5 (Nat.le_of_ble_eq_true rfl) (Nat.le_of_ble_eq_true rfl)
set_option maxHeartbeats 4000000 in
set_option maxRecDepth 100000 in
theorem x_texel (l : Launch) (hst : l.stackTraces = false) (dC : Nat → ClassId) (dI : Nat → Nat → Nat) (q wd us la nx : Nat) (p0 p1 p2 p3 p4 : Int32) (h0 : tu_win p0 0 3 = 0) : tx_Met l yX1_texel wsX1_texel ({ frames := 7, cells := 1, slots := 6, locals := 103 }) (va_Pc [.ref q, .int p0, .int p1, .int p2, .int p3, .int p4] (tx_B (dC, dI) vwCl [(q, .inr (1, [.ref wd, .ref us, .ref la, .ref nx]))] [])) ex_S := by
  refine vx_ofW (cc := cX1_texel) (maxL := 7) (ret := some .int) (by decide) rfl ?_
  intro p e s m args below meth c s₁ B hml hEx hv
  obtain ⟨rfl, hP, hK, hE⟩ := hv
  have hx := B.exec
  have hb := B.bytes
  have hr := B.returns
  have hts := atoms_spec (ws := wsX1_texel) B.pre
  have hown : s.vm.findClass "TextureUnits" = some m.cls := findClass_of_methodNamed B.named
  have hlocks := B.notSynchronized
  have hl := lv_entry ([.ref q, .int p0, .int p1, .int p2, .int p3, .int p4]) (n := 7) (Nat.le_of_ble_eq_true rfl)
  rw [lg_entry_eq]
  generalize (lg_sl ([.ref q, .int p0, .int p1, .int p2, .int p3, .int p4]) ++ List.replicate (7 - (lg_sl ([.ref q, .int p0, .int p1, .int p2, .int p3, .int p4])).length) Slot.unset).toArray = ls at hl ⊢
  have hl : lv_has ls 7 [(0, .ref q), (1, .int p0), (2, .int p1), (3, .int p2), (4, .int p3), (5, .int p4)] := hl
  refine lv_aload_n hx hb dX1_texel_0 rfl (lv_at hl 0 rfl) ?_
  refine lv_iload_n hx hb dX1_texel_1 rfl (lv_at hl 1 rfl) ?_
  refine tx_call (vx_runV (As := [.int p0]) (rest := []) ⟨hx, hb, hml, hown, hts⟩ (x_unitAt l hst dC dI q wd us la nx p0 h0) (cwV 1 hts (tg_V tw_174 tw_176 tw_p1 tw_1 tw_177) rfl rfl rfl (by decide +kernel) ⟨Nat.le_of_ble_eq_true rfl, Nat.le_of_ble_eq_true rfl⟩) ⟨tx_blind, va_recv hK hP (ci := 1) (q0 := 0) rfl rfl, fun U hU hW => ⟨rfl, tx_use (hP.sub [0] rfl) (hK.sub [] rfl) hE U hU hW⟩⟩ rfl rfl hl.1 rfl (lv_room (Nat.le_of_ble_eq_true rfl)) dX1_texel_2 ⟨Nat.le_of_ble_eq_true rfl, Nat.le_of_ble_eq_true rfl⟩) (fun H1 q1 ce h1 h2 h3 h4 h5 => ?_)
  exact tx_out hEx hlocks h1 h2 h3 h4 h5 (Nat.le_of_ble_eq_true rfl) (Nat.le_of_ble_eq_true rfl)
set_option maxHeartbeats 4000000 in
set_option maxRecDepth 100000 in
theorem x_texels (l : Launch) (hst : l.stackTraces = false) (dC : Nat → ClassId) (dI : Nat → Nat → Nat) (q wd us la nx : Nat) (p0 : Int32) (h0 : tu_win p0 0 3 = 0) : tx_Met l yX1_texels wsX1_texels ({ frames := 7, cells := 1, slots := 6, locals := 103 }) (va_Pc [.ref q, .int p0] (tx_B (dC, dI) vwCl [(q, .inr (1, [.ref wd, .ref us, .ref la, .ref nx]))] [])) ex_S := by
  refine vx_ofW (cc := cX1_texels) (maxL := 3) (ret := some .int) (by decide) rfl ?_
  intro p e s m args below meth c s₁ B hml hEx hv
  obtain ⟨rfl, hP, hK, hE⟩ := hv
  have hx := B.exec
  have hb := B.bytes
  have hr := B.returns
  have hts := atoms_spec (ws := wsX1_texels) B.pre
  have hown : s.vm.findClass "TextureUnits" = some m.cls := findClass_of_methodNamed B.named
  have hlocks := B.notSynchronized
  have hl := lv_entry ([.ref q, .int p0]) (n := 3) (Nat.le_of_ble_eq_true rfl)
  rw [lg_entry_eq]
  generalize (lg_sl ([.ref q, .int p0]) ++ List.replicate (3 - (lg_sl ([.ref q, .int p0])).length) Slot.unset).toArray = ls at hl ⊢
  have hl : lv_has ls 3 [(0, .ref q), (1, .int p0)] := hl
  refine lv_aload_n hx hb dX1_texels_0 rfl (lv_at hl 0 rfl) ?_
  refine lv_iload_n hx hb dX1_texels_1 rfl (lv_at hl 1 rfl) ?_
  refine tx_call (vx_runV (As := [.int p0]) (rest := []) ⟨hx, hb, hml, hown, hts⟩ (x_unitAt l hst dC dI q wd us la nx p0 h0) (cwV 1 hts (tg_V tw_174 tw_176 tw_p1 tw_1 tw_177) rfl rfl rfl (by decide +kernel) ⟨Nat.le_of_ble_eq_true rfl, Nat.le_of_ble_eq_true rfl⟩) ⟨tx_blind, va_recv hK hP (ci := 1) (q0 := 0) rfl rfl, fun U hU hW => ⟨rfl, tx_use (hP.sub [0] rfl) (hK.sub [] rfl) hE U hU hW⟩⟩ rfl rfl hl.1 rfl (lv_room (Nat.le_of_ble_eq_true rfl)) dX1_texels_2 ⟨Nat.le_of_ble_eq_true rfl, Nat.le_of_ble_eq_true rfl⟩) (fun H1 q1 ce h1 h2 h3 h4 h5 => ?_)
  exact tx_out hEx hlocks h1 h2 h3 h4 h5 (Nat.le_of_ble_eq_true rfl) (Nat.le_of_ble_eq_true rfl)
set_option maxHeartbeats 4000000 in
set_option maxRecDepth 100000 in
theorem x_read (l : Launch) (hst : l.stackTraces = false) (dC : Nat → ClassId) (dI : Nat → Nat → Nat) (q wd us la nx : Nat) (p0 p1 p2 p3 : Int32) (h0 : tu_win p0 0 3 = 0) : tx_Met l yX1_read wsX1_read ({ frames := 7, cells := 1, slots := 6, locals := 103 }) (va_Pc [.ref q, .int p0, .int p1, .int p2, .int p3] (tx_B (dC, dI) vwCl [(q, .inr (1, [.ref wd, .ref us, .ref la, .ref nx]))] [])) ex_S := by
  refine vx_ofW (cc := cX1_read) (maxL := 10) (ret := some .int) (by decide) rfl ?_
  intro p e s m args below meth c s₁ B hml hEx hv
  obtain ⟨rfl, hP, hK, hE⟩ := hv
  have hx := B.exec
  have hb := B.bytes
  have hr := B.returns
  have hts := atoms_spec (ws := wsX1_read) B.pre
  have hown : s.vm.findClass "TextureUnits" = some m.cls := findClass_of_methodNamed B.named
  have hlocks := B.notSynchronized
  have hl := lv_entry ([.ref q, .int p0, .int p1, .int p2, .int p3]) (n := 10) (Nat.le_of_ble_eq_true rfl)
  rw [lg_entry_eq]
  generalize (lg_sl ([.ref q, .int p0, .int p1, .int p2, .int p3]) ++ List.replicate (10 - (lg_sl ([.ref q, .int p0, .int p1, .int p2, .int p3])).length) Slot.unset).toArray = ls at hl ⊢
  have hl : lv_has ls 10 [(0, .ref q), (1, .int p0), (2, .int p1), (3, .int p2), (4, .int p3)] := hl
  refine lv_aload_n hx hb dX1_read_0 rfl (lv_at hl 0 rfl) ?_
  refine lv_iload_n hx hb dX1_read_1 rfl (lv_at hl 1 rfl) ?_
  refine tx_call (vx_runV (As := [.int p0]) (rest := []) ⟨hx, hb, hml, hown, hts⟩ (x_unitAt l hst dC dI q wd us la nx p0 h0) (cwV 1 hts (tg_V tw_174 tw_176 tw_p1 tw_1 tw_177) rfl rfl rfl (by decide +kernel) ⟨Nat.le_of_ble_eq_true rfl, Nat.le_of_ble_eq_true rfl⟩) ⟨tx_blind, va_recv hK hP (ci := 1) (q0 := 0) rfl rfl, fun U hU hW => ⟨rfl, tx_use (hP.sub [0] rfl) (hK.sub [] rfl) hE U hU hW⟩⟩ rfl rfl hl.1 rfl (lv_room (Nat.le_of_ble_eq_true rfl)) dX1_read_2 ⟨Nat.le_of_ble_eq_true rfl, Nat.le_of_ble_eq_true rfl⟩) (fun H1 q1 ce h1 h2 h3 h4 h5 => ?_)
  exact tx_out hEx hlocks h1 h2 h3 h4 h5 (Nat.le_of_ble_eq_true rfl) (Nat.le_of_ble_eq_true rfl)
set_option maxHeartbeats 4000000 in
set_option maxRecDepth 100000 in
theorem x_poke (l : Launch) (hst : l.stackTraces = false) (dC : Nat → ClassId) (dI : Nat → Nat → Nat) (q wd us la nx : Nat) (p0 p1 : Int32) (h0 : tu_win p0 0 2047 = 0) : tx_Met l yX1_poke wsX1_poke ({ frames := 6, cells := 1, slots := 6, locals := 82 }) (va_Pc [.ref q, .int p0, .int p1] (tx_B (dC, dI) vwCl [(q, .inr (1, [.ref wd, .ref us, .ref la, .ref nx]))] [])) ex_I := by
  refine vx_ofW (cc := cX1_poke) (maxL := 3) (ret := none) (by decide) rfl ?_
  intro p e s m args below meth c s₁ B hml hEx hv
  obtain ⟨rfl, hP, hK, hE⟩ := hv
  have hx := B.exec
  have hb := B.bytes
  have hr := B.returns
  have hts := atoms_spec (ws := wsX1_poke) B.pre
  have hown : s.vm.findClass "TextureUnits" = some m.cls := findClass_of_methodNamed B.named
  have hlocks := B.notSynchronized
  have hl := lv_entry ([.ref q, .int p0, .int p1]) (n := 3) (Nat.le_of_ble_eq_true rfl)
  rw [lg_entry_eq]
  generalize (lg_sl ([.ref q, .int p0, .int p1]) ++ List.replicate (3 - (lg_sl ([.ref q, .int p0, .int p1])).length) Slot.unset).toArray = ls at hl ⊢
  have hl : lv_has ls 3 [(0, .ref q), (1, .int p0), (2, .int p1)] := hl
  refine lv_iload_n hx hb dX1_poke_0 rfl (lv_at hl 1 rfl) ?_
  refine lv_iconst (v := 0) hx hb dX1_poke_1 (by decide) ?_
  refine lv_sipush (v := 2047) hx hb dX1_poke_2 (by decide) ?_
  refine rd_call (W.runS (As := [.int p0, .int 0, .int 2047]) (rest := []) ⟨hx, hb, hml, hown, hts⟩ (r_within l p0 0 2047) (va_cwS 3 hts (tg_S tw_94 tw_95 tw_1 tw_96) rfl rfl rfl (by decide +kernel) ⟨Nat.le_of_ble_eq_true rfl, Nat.le_of_ble_eq_true rfl⟩) preEq rfl rfl hl.1 rfl (lv_room (Nat.le_of_ble_eq_true rfl)) dX1_poke_5 ⟨Nat.le_of_ble_eq_true rfl, Nat.le_of_ble_eq_true rfl⟩) ?_
  refine lv_if_ne (tgt := 21) hx hb dX1_poke_8 (by decide) (fun c_1 => absurd h0 c_1) (fun c_1 => ?_)
  exact ex_throw (own := "TextureUnits") (cls := ex_I) (Y := "java/lang/RuntimeException") (r := ["java/lang/Exception"]) (text := "no such word") hx hb hst ex_x0.1 ex_x0.2.1 ex_x0.2.2.1 ex_x0.2.2.2 hown (by decide +kernel) (by decide +kernel) (hts _ (tw_c tw_97)) (hts _ (tw_c tw_7)) (hE.2.1 (32, "no such word") (by decide)) (ex_hI hts hE) (hl.1.trans hml.symm) dX1_poke_11 dX1_poke_14 dX1_poke_15 dX1_poke_17 dX1_poke_20 (fun x hx => (hEx x hx).elim) (Nat.le_of_ble_eq_true rfl) (Nat.le_of_ble_eq_true rfl) (Nat.le_of_ble_eq_true rfl) (Nat.le_of_ble_eq_true rfl) hlocks
set_option maxHeartbeats 4000000 in
set_option maxRecDepth 100000 in
theorem x_also (l : Launch) (hst : l.stackTraces = false) (dC : Nat → ClassId) (dI : Nat → Nat → Nat) (q wd us la nx : Nat) (p0 : Int32) (h0 : tu_win p0 0 3 = 0) : tx_Met l yX1_also wsX1_also ({ frames := 6, cells := 1, slots := 6, locals := 82 }) (va_Pc [.ref q, .int p0] (tx_B (dC, dI) vwCl [(q, .inr (1, [.ref wd, .ref us, .ref la, .ref nx]))] [])) ex_I := by
  refine vx_ofW (cc := cX1_also) (maxL := 2) (ret := some .int) (by decide) rfl ?_
  intro p e s m args below meth c s₁ B hml hEx hv
  obtain ⟨rfl, hP, hK, hE⟩ := hv
  have hx := B.exec
  have hb := B.bytes
  have hr := B.returns
  have hts := atoms_spec (ws := wsX1_also) B.pre
  have hown : s.vm.findClass "TextureUnits" = some m.cls := findClass_of_methodNamed B.named
  have hlocks := B.notSynchronized
  have hl := lv_entry ([.ref q, .int p0]) (n := 2) (Nat.le_of_ble_eq_true rfl)
  rw [lg_entry_eq]
  generalize (lg_sl ([.ref q, .int p0]) ++ List.replicate (2 - (lg_sl ([.ref q, .int p0])).length) Slot.unset).toArray = ls at hl ⊢
  have hl : lv_has ls 2 [(0, .ref q), (1, .int p0)] := hl
  refine lv_iload_n hx hb dX1_also_0 rfl (lv_at hl 1 rfl) ?_
  refine lv_iconst (v := 0) hx hb dX1_also_1 (by decide) ?_
  refine lv_iconst (v := 3) hx hb dX1_also_2 (by decide) ?_
  refine rd_call (W.runS (As := [.int p0, .int 0, .int 3]) (rest := []) ⟨hx, hb, hml, hown, hts⟩ (r_within l p0 0 3) (va_cwS 3 hts (tg_S tw_94 tw_95 tw_1 tw_96) rfl rfl rfl (by decide +kernel) ⟨Nat.le_of_ble_eq_true rfl, Nat.le_of_ble_eq_true rfl⟩) preEq rfl rfl hl.1 rfl (lv_room (Nat.le_of_ble_eq_true rfl)) dX1_also_3 ⟨Nat.le_of_ble_eq_true rfl, Nat.le_of_ble_eq_true rfl⟩) ?_
  refine lv_if_ne (tgt := 19) hx hb dX1_also_6 (by decide) (fun c_1 => absurd h0 c_1) (fun c_1 => ?_)
  exact ex_throw (own := "TextureUnits") (cls := ex_I) (Y := "java/lang/RuntimeException") (r := ["java/lang/Exception"]) (text := "no such channel") hx hb hst ex_x0.1 ex_x0.2.1 ex_x0.2.2.1 ex_x0.2.2.2 hown (by decide +kernel) (by decide +kernel) (hts _ (tw_c tw_97)) (hts _ (tw_c tw_7)) (hE.2.1 (93, "no such channel") (by decide)) (ex_hI hts hE) (hl.1.trans hml.symm) dX1_also_9 dX1_also_12 dX1_also_13 dX1_also_15 dX1_also_18 (fun x hx => (hEx x hx).elim) (Nat.le_of_ble_eq_true rfl) (Nat.le_of_ble_eq_true rfl) (Nat.le_of_ble_eq_true rfl) (Nat.le_of_ble_eq_true rfl) hlocks
set_option maxHeartbeats 4000000 in
set_option maxRecDepth 100000 in
theorem y_picture (l : Launch) (hst : l.stackTraces = false) (dC : Nat → ClassId) (dI : Nat → Nat → Nat) (q wd us la nx : Nat) (cU : ClassId) (g : Nat → Option Nat) (u : Nat) (p0 p1 p2 p3 p4 p5 : Int32) (h0 : ¬ tu_win p0 0 3 = 0) (hg : g p0.toNatClampNeg = some u) (hn : ¬ (0 ≤ p1 ∧ ¬ tu_win p2 0 10 = 0 ∧ ¬ tu_win p3 0 10 = 0 ∧ ¬ tu_win p4 1 11 = 0 ∧ ¬ tu_win p5 0 7 = 0)) : tx_Met l yX1_picture wsX1_picture ({ frames := 6, cells := 1, slots := 6, locals := 82 }) (va_Pc [.ref q, .int p0, .int p1, .int p2, .int p3, .int p4, .int p5] (tx_B (dC, dI) vwCl [(q, .inr (1, [.ref wd, .ref us, .ref la, .ref nx])), (us, .inl (cU, 4, .inr (.inr (.inr (.inr g)))))] [(cU, .object "TextureUnits$Unit")])) ex_A := by
  refine vx_ofW (cc := cX1_picture) (maxL := 8) (ret := none) (by decide) rfl ?_
  intro p e s m args below meth c s₁ B hml hEx hv
  obtain ⟨rfl, hP, hK, hE⟩ := hv
  have hx := B.exec
  have hb := B.bytes
  have hr := B.returns
  have hts := atoms_spec (ws := wsX1_picture) B.pre
  have hown : s.vm.findClass "TextureUnits" = some m.cls := findClass_of_methodNamed B.named
  have hlocks := B.notSynchronized
  have hl := lv_entry ([.ref q, .int p0, .int p1, .int p2, .int p3, .int p4, .int p5]) (n := 8) (Nat.le_of_ble_eq_true rfl)
  rw [lg_entry_eq]
  generalize (lg_sl ([.ref q, .int p0, .int p1, .int p2, .int p3, .int p4, .int p5]) ++ List.replicate (8 - (lg_sl ([.ref q, .int p0, .int p1, .int p2, .int p3, .int p4, .int p5])).length) Slot.unset).toArray = ls at hl ⊢
  have hl : lv_has ls 8 [(0, .ref q), (1, .int p0), (2, .int p1), (3, .int p2), (4, .int p3), (5, .int p4), (6, .int p5)] := hl
  refine lv_aload_n hx hb dX1_picture_0 rfl (lv_at hl 0 rfl) ?_
  refine lv_iload_n hx hb dX1_picture_1 rfl (lv_at hl 1 rfl) ?_
  refine rf_call (W.runV (As := [.int p0]) (rest := []) ⟨hx, hb, hml, hown, hts⟩ (r_unitAt l dC dI q wd us la nx cU g u p0 h0 hg) (cwV 1 hts (tg_V tw_174 tw_176 tw_p1 tw_1 tw_177) rfl rfl rfl (by decide +kernel) ⟨Nat.le_of_ble_eq_true rfl, Nat.le_of_ble_eq_true rfl⟩) ⟨rd_blind, va_recv hK hP (ci := 1) (q0 := 0) rfl rfl, fun U hU hW => ⟨rfl, rd_use (hP.sub [0, 1] rfl) (hK.sub [0] rfl) U hU hW⟩⟩ rfl rfl hl.1 rfl (lv_room (Nat.le_of_ble_eq_true rfl)) dX1_picture_2 ⟨Nat.le_of_ble_eq_true rfl, Nat.le_of_ble_eq_true rfl⟩) ?_
  refine lv_astore (lv' := [(7, .ref u), (0, .ref q), (1, .int p0), (2, .int p1), (3, .int p2), (4, .int p3), (5, .int p4), (6, .int p5)]) hx hb dX1_picture_5 hl (by decide) rfl (fun ls hl => ?_)
  refine lv_iload_n hx hb dX1_picture_7 rfl (lv_at hl 3 rfl) ?_
  refine lv_if_ge (tgt := 21) hx hb dX1_picture_8 (by decide) (fun c_1 => ?_) (fun c_1 => ?_)
  · refine lv_iload_n hx hb dX1_picture_21 rfl (lv_at hl 4 rfl) ?_
    refine lv_iconst (v := 0) hx hb dX1_picture_22 (by decide) ?_
    refine lv_bipush (v := 10) hx hb dX1_picture_23 (by decide) ?_
    refine rd_call (W.runS (As := [.int p2, .int 0, .int 10]) (rest := []) ⟨hx, hb, hml, hown, hts⟩ (r_within l p2 0 10) (va_cwS 3 hts (tg_S tw_94 tw_95 tw_1 tw_96) rfl rfl rfl (by decide +kernel) ⟨Nat.le_of_ble_eq_true rfl, Nat.le_of_ble_eq_true rfl⟩) preEq rfl rfl hl.1 rfl (lv_room (Nat.le_of_ble_eq_true rfl)) dX1_picture_25 ⟨Nat.le_of_ble_eq_true rfl, Nat.le_of_ble_eq_true rfl⟩) ?_
    refine lv_if_eq (tgt := 42) hx hb dX1_picture_28 (by decide) (fun c_2 => ?_) (fun c_2 => ?_)
    · exact ex_throw (own := "TextureUnits") (cls := ex_A) (Y := "java/lang/RuntimeException") (r := ["java/lang/Exception"]) (text := "no such logarithm") hx hb hst ex_x1.1 ex_x1.2.1 ex_x1.2.2.1 ex_x1.2.2.2 hown (by decide +kernel) (by decide +kernel) (hts _ (tw_c tw_194)) (hts _ (tw_c tw_9)) (hE.2.1 (46, "no such logarithm") (by decide)) (ex_hA hts hE) (hl.1.trans hml.symm) dX1_picture_42 dX1_picture_45 dX1_picture_46 dX1_picture_48 dX1_picture_51 (fun x hx => (hEx x hx).elim) (Nat.le_of_ble_eq_true rfl) (Nat.le_of_ble_eq_true rfl) (Nat.le_of_ble_eq_true rfl) (Nat.le_of_ble_eq_true rfl) hlocks
    · refine lv_iload hx hb dX1_picture_31 (lv_at hl 5 rfl) ?_
      refine lv_iconst (v := 0) hx hb dX1_picture_33 (by decide) ?_
      refine lv_bipush (v := 10) hx hb dX1_picture_34 (by decide) ?_
      refine rd_call (W.runS (As := [.int p3, .int 0, .int 10]) (rest := []) ⟨hx, hb, hml, hown, hts⟩ (r_within l p3 0 10) (va_cwS 3 hts (tg_S tw_94 tw_95 tw_1 tw_96) rfl rfl rfl (by decide +kernel) ⟨Nat.le_of_ble_eq_true rfl, Nat.le_of_ble_eq_true rfl⟩) preEq rfl rfl hl.1 rfl (lv_room (Nat.le_of_ble_eq_true rfl)) dX1_picture_36 ⟨Nat.le_of_ble_eq_true rfl, Nat.le_of_ble_eq_true rfl⟩) ?_
      refine lv_if_ne (tgt := 52) hx hb dX1_picture_39 (by decide) (fun c_3 => ?_) (fun c_3 => ?_)
      · refine lv_iload hx hb dX1_picture_52 (lv_at hl 6 rfl) ?_
        refine lv_iconst (v := 1) hx hb dX1_picture_54 (by decide) ?_
        refine lv_bipush (v := 11) hx hb dX1_picture_55 (by decide) ?_
        refine rd_call (W.runS (As := [.int p4, .int 1, .int 11]) (rest := []) ⟨hx, hb, hml, hown, hts⟩ (r_within l p4 1 11) (va_cwS 3 hts (tg_S tw_94 tw_95 tw_1 tw_96) rfl rfl rfl (by decide +kernel) ⟨Nat.le_of_ble_eq_true rfl, Nat.le_of_ble_eq_true rfl⟩) preEq rfl rfl hl.1 rfl (lv_room (Nat.le_of_ble_eq_true rfl)) dX1_picture_57 ⟨Nat.le_of_ble_eq_true rfl, Nat.le_of_ble_eq_true rfl⟩) ?_
        refine lv_if_ne (tgt := 73) hx hb dX1_picture_60 (by decide) (fun c_4 => ?_) (fun c_4 => ?_)
        · refine lv_iload hx hb dX1_picture_73 (lv_at hl 7 rfl) ?_
          refine lv_iconst (v := 0) hx hb dX1_picture_75 (by decide) ?_
          refine lv_bipush (v := 7) hx hb dX1_picture_76 (by decide) ?_
          refine rd_call (W.runS (As := [.int p5, .int 0, .int 7]) (rest := []) ⟨hx, hb, hml, hown, hts⟩ (r_within l p5 0 7) (va_cwS 3 hts (tg_S tw_94 tw_95 tw_1 tw_96) rfl rfl rfl (by decide +kernel) ⟨Nat.le_of_ble_eq_true rfl, Nat.le_of_ble_eq_true rfl⟩) preEq rfl rfl hl.1 rfl (lv_room (Nat.le_of_ble_eq_true rfl)) dX1_picture_78 ⟨Nat.le_of_ble_eq_true rfl, Nat.le_of_ble_eq_true rfl⟩) ?_
          refine lv_if_ne (tgt := 94) hx hb dX1_picture_81 (by decide) (fun c_5 => ?_) (fun c_5 => ?_)
          · exact absurd ⟨c_1, c_2, c_3, c_4, c_5⟩ hn
          · exact ex_throw (own := "TextureUnits") (cls := ex_A) (Y := "java/lang/RuntimeException") (r := ["java/lang/Exception"]) (text := "no such format") hx hb hst ex_x1.1 ex_x1.2.1 ex_x1.2.2.1 ex_x1.2.2.2 hown (by decide +kernel) (by decide +kernel) (hts _ (tw_c tw_194)) (hts _ (tw_c tw_9)) (hE.2.1 (50, "no such format") (by decide)) (ex_hA hts hE) (hl.1.trans hml.symm) dX1_picture_84 dX1_picture_87 dX1_picture_88 dX1_picture_90 dX1_picture_93 (fun x hx => (hEx x hx).elim) (Nat.le_of_ble_eq_true rfl) (Nat.le_of_ble_eq_true rfl) (Nat.le_of_ble_eq_true rfl) (Nat.le_of_ble_eq_true rfl) hlocks
        · exact ex_throw (own := "TextureUnits") (cls := ex_A) (Y := "java/lang/RuntimeException") (r := ["java/lang/Exception"]) (text := "no such count of levels") hx hb hst ex_x1.1 ex_x1.2.1 ex_x1.2.2.1 ex_x1.2.2.2 hown (by decide +kernel) (by decide +kernel) (hts _ (tw_c tw_194)) (hts _ (tw_c tw_9)) (hE.2.1 (48, "no such count of levels") (by decide)) (ex_hA hts hE) (hl.1.trans hml.symm) dX1_picture_63 dX1_picture_66 dX1_picture_67 dX1_picture_69 dX1_picture_72 (fun x hx => (hEx x hx).elim) (Nat.le_of_ble_eq_true rfl) (Nat.le_of_ble_eq_true rfl) (Nat.le_of_ble_eq_true rfl) (Nat.le_of_ble_eq_true rfl) hlocks
      · exact ex_throw (own := "TextureUnits") (cls := ex_A) (Y := "java/lang/RuntimeException") (r := ["java/lang/Exception"]) (text := "no such logarithm") hx hb hst ex_x1.1 ex_x1.2.1 ex_x1.2.2.1 ex_x1.2.2.2 hown (by decide +kernel) (by decide +kernel) (hts _ (tw_c tw_194)) (hts _ (tw_c tw_9)) (hE.2.1 (46, "no such logarithm") (by decide)) (ex_hA hts hE) (hl.1.trans hml.symm) dX1_picture_42 dX1_picture_45 dX1_picture_46 dX1_picture_48 dX1_picture_51 (fun x hx => (hEx x hx).elim) (Nat.le_of_ble_eq_true rfl) (Nat.le_of_ble_eq_true rfl) (Nat.le_of_ble_eq_true rfl) (Nat.le_of_ble_eq_true rfl) hlocks
  · exact ex_throw (own := "TextureUnits") (cls := ex_A) (Y := "java/lang/RuntimeException") (r := ["java/lang/Exception"]) (text := "from is below 0") hx hb hst ex_x1.1 ex_x1.2.1 ex_x1.2.2.1 ex_x1.2.2.2 hown (by decide +kernel) (by decide +kernel) (hts _ (tw_c tw_194)) (hts _ (tw_c tw_9)) (hE.2.1 (43, "from is below 0") (by decide)) (ex_hA hts hE) (hl.1.trans hml.symm) dX1_picture_11 dX1_picture_14 dX1_picture_15 dX1_picture_17 dX1_picture_20 (fun x hx => (hEx x hx).elim) (Nat.le_of_ble_eq_true rfl) (Nat.le_of_ble_eq_true rfl) (Nat.le_of_ble_eq_true rfl) (Nat.le_of_ble_eq_true rfl) hlocks
set_option maxHeartbeats 4000000 in
set_option maxRecDepth 100000 in
theorem y_manner (l : Launch) (hst : l.stackTraces = false) (dC : Nat → ClassId) (dI : Nat → Nat → Nat) (q wd us la nx : Nat) (cU : ClassId) (g : Nat → Option Nat) (u : Nat) (p0 p1 p2 p3 : Int32) (h0 : ¬ tu_win p0 0 3 = 0) (hg : g p0.toNatClampNeg = some u) (hn : ¬ (¬ tu_win p1 0 3 = 0 ∧ ¬ tu_win p2 0 3 = 0 ∧ ¬ tu_win p3 0 3 = 0)) : tx_Met l yX1_manner wsX1_manner ({ frames := 6, cells := 1, slots := 6, locals := 82 }) (va_Pc [.ref q, .int p0, .int p1, .int p2, .int p3] (tx_B (dC, dI) vwCl [(q, .inr (1, [.ref wd, .ref us, .ref la, .ref nx])), (us, .inl (cU, 4, .inr (.inr (.inr (.inr g)))))] [(cU, .object "TextureUnits$Unit")])) ex_A := by
  refine vx_ofW (cc := cX1_manner) (maxL := 6) (ret := none) (by decide) rfl ?_
  intro p e s m args below meth c s₁ B hml hEx hv
  obtain ⟨rfl, hP, hK, hE⟩ := hv
  have hx := B.exec
  have hb := B.bytes
  have hr := B.returns
  have hts := atoms_spec (ws := wsX1_manner) B.pre
  have hown : s.vm.findClass "TextureUnits" = some m.cls := findClass_of_methodNamed B.named
  have hlocks := B.notSynchronized
  have hl := lv_entry ([.ref q, .int p0, .int p1, .int p2, .int p3]) (n := 6) (Nat.le_of_ble_eq_true rfl)
  rw [lg_entry_eq]
  generalize (lg_sl ([.ref q, .int p0, .int p1, .int p2, .int p3]) ++ List.replicate (6 - (lg_sl ([.ref q, .int p0, .int p1, .int p2, .int p3])).length) Slot.unset).toArray = ls at hl ⊢
  have hl : lv_has ls 6 [(0, .ref q), (1, .int p0), (2, .int p1), (3, .int p2), (4, .int p3)] := hl
  refine lv_aload_n hx hb dX1_manner_0 rfl (lv_at hl 0 rfl) ?_
  refine lv_iload_n hx hb dX1_manner_1 rfl (lv_at hl 1 rfl) ?_
  refine rf_call (W.runV (As := [.int p0]) (rest := []) ⟨hx, hb, hml, hown, hts⟩ (r_unitAt l dC dI q wd us la nx cU g u p0 h0 hg) (cwV 1 hts (tg_V tw_174 tw_176 tw_p1 tw_1 tw_177) rfl rfl rfl (by decide +kernel) ⟨Nat.le_of_ble_eq_true rfl, Nat.le_of_ble_eq_true rfl⟩) ⟨rd_blind, va_recv hK hP (ci := 1) (q0 := 0) rfl rfl, fun U hU hW => ⟨rfl, rd_use (hP.sub [0, 1] rfl) (hK.sub [0] rfl) U hU hW⟩⟩ rfl rfl hl.1 rfl (lv_room (Nat.le_of_ble_eq_true rfl)) dX1_manner_2 ⟨Nat.le_of_ble_eq_true rfl, Nat.le_of_ble_eq_true rfl⟩) ?_
  refine lv_astore (lv' := [(5, .ref u), (0, .ref q), (1, .int p0), (2, .int p1), (3, .int p2), (4, .int p3)]) hx hb dX1_manner_5 hl (by decide) rfl (fun ls hl => ?_)
  refine lv_iload_n hx hb dX1_manner_7 rfl (lv_at hl 3 rfl) ?_
  refine lv_iconst (v := 0) hx hb dX1_manner_8 (by decide) ?_
  refine lv_iconst (v := 3) hx hb dX1_manner_9 (by decide) ?_
  refine rd_call (W.runS (As := [.int p1, .int 0, .int 3]) (rest := []) ⟨hx, hb, hml, hown, hts⟩ (r_within l p1 0 3) (va_cwS 3 hts (tg_S tw_94 tw_95 tw_1 tw_96) rfl rfl rfl (by decide +kernel) ⟨Nat.le_of_ble_eq_true rfl, Nat.le_of_ble_eq_true rfl⟩) preEq rfl rfl hl.1 rfl (lv_room (Nat.le_of_ble_eq_true rfl)) dX1_manner_10 ⟨Nat.le_of_ble_eq_true rfl, Nat.le_of_ble_eq_true rfl⟩) ?_
  refine lv_if_eq (tgt := 25) hx hb dX1_manner_13 (by decide) (fun c_1 => ?_) (fun c_1 => ?_)
  · exact ex_throw (own := "TextureUnits") (cls := ex_A) (Y := "java/lang/RuntimeException") (r := ["java/lang/Exception"]) (text := "no such wrap") hx hb hst ex_x1.1 ex_x1.2.1 ex_x1.2.2.1 ex_x1.2.2.2 hown (by decide +kernel) (by decide +kernel) (hts _ (tw_c tw_194)) (hts _ (tw_c tw_9)) (hE.2.1 (63, "no such wrap") (by decide)) (ex_hA hts hE) (hl.1.trans hml.symm) dX1_manner_25 dX1_manner_28 dX1_manner_29 dX1_manner_31 dX1_manner_34 (fun x hx => (hEx x hx).elim) (Nat.le_of_ble_eq_true rfl) (Nat.le_of_ble_eq_true rfl) (Nat.le_of_ble_eq_true rfl) (Nat.le_of_ble_eq_true rfl) hlocks
  · refine lv_iload_n hx hb dX1_manner_16 rfl (lv_at hl 4 rfl) ?_
    refine lv_iconst (v := 0) hx hb dX1_manner_17 (by decide) ?_
    refine lv_iconst (v := 3) hx hb dX1_manner_18 (by decide) ?_
    refine rd_call (W.runS (As := [.int p2, .int 0, .int 3]) (rest := []) ⟨hx, hb, hml, hown, hts⟩ (r_within l p2 0 3) (va_cwS 3 hts (tg_S tw_94 tw_95 tw_1 tw_96) rfl rfl rfl (by decide +kernel) ⟨Nat.le_of_ble_eq_true rfl, Nat.le_of_ble_eq_true rfl⟩) preEq rfl rfl hl.1 rfl (lv_room (Nat.le_of_ble_eq_true rfl)) dX1_manner_19 ⟨Nat.le_of_ble_eq_true rfl, Nat.le_of_ble_eq_true rfl⟩) ?_
    refine lv_if_ne (tgt := 35) hx hb dX1_manner_22 (by decide) (fun c_2 => ?_) (fun c_2 => ?_)
    · refine lv_iload hx hb dX1_manner_35 (lv_at hl 5 rfl) ?_
      refine lv_iconst (v := 0) hx hb dX1_manner_37 (by decide) ?_
      refine lv_iconst (v := 3) hx hb dX1_manner_38 (by decide) ?_
      refine rd_call (W.runS (As := [.int p3, .int 0, .int 3]) (rest := []) ⟨hx, hb, hml, hown, hts⟩ (r_within l p3 0 3) (va_cwS 3 hts (tg_S tw_94 tw_95 tw_1 tw_96) rfl rfl rfl (by decide +kernel) ⟨Nat.le_of_ble_eq_true rfl, Nat.le_of_ble_eq_true rfl⟩) preEq rfl rfl hl.1 rfl (lv_room (Nat.le_of_ble_eq_true rfl)) dX1_manner_39 ⟨Nat.le_of_ble_eq_true rfl, Nat.le_of_ble_eq_true rfl⟩) ?_
      refine lv_if_ne (tgt := 55) hx hb dX1_manner_42 (by decide) (fun c_3 => ?_) (fun c_3 => ?_)
      · exact absurd ⟨c_1, c_2, c_3⟩ hn
      · exact ex_throw (own := "TextureUnits") (cls := ex_A) (Y := "java/lang/RuntimeException") (r := ["java/lang/Exception"]) (text := "no such filter") hx hb hst ex_x1.1 ex_x1.2.1 ex_x1.2.2.1 ex_x1.2.2.2 hown (by decide +kernel) (by decide +kernel) (hts _ (tw_c tw_194)) (hts _ (tw_c tw_9)) (hE.2.1 (65, "no such filter") (by decide)) (ex_hA hts hE) (hl.1.trans hml.symm) dX1_manner_45 dX1_manner_48 dX1_manner_49 dX1_manner_51 dX1_manner_54 (fun x hx => (hEx x hx).elim) (Nat.le_of_ble_eq_true rfl) (Nat.le_of_ble_eq_true rfl) (Nat.le_of_ble_eq_true rfl) (Nat.le_of_ble_eq_true rfl) hlocks
    · exact ex_throw (own := "TextureUnits") (cls := ex_A) (Y := "java/lang/RuntimeException") (r := ["java/lang/Exception"]) (text := "no such wrap") hx hb hst ex_x1.1 ex_x1.2.1 ex_x1.2.2.1 ex_x1.2.2.2 hown (by decide +kernel) (by decide +kernel) (hts _ (tw_c tw_194)) (hts _ (tw_c tw_9)) (hE.2.1 (63, "no such wrap") (by decide)) (ex_hA hts hE) (hl.1.trans hml.symm) dX1_manner_25 dX1_manner_28 dX1_manner_29 dX1_manner_31 dX1_manner_34 (fun x hx => (hEx x hx).elim) (Nat.le_of_ble_eq_true rfl) (Nat.le_of_ble_eq_true rfl) (Nat.le_of_ble_eq_true rfl) (Nat.le_of_ble_eq_true rfl) hlocks
set_option maxHeartbeats 4000000 in
set_option maxRecDepth 100000 in
theorem y_texel (l : Launch) (hst : l.stackTraces = false) (dC : Nat → ClassId) (dI : Nat → Nat → Nat) (q wd us la nx : Nat) (cU : ClassId) (g : Nat → Option Nat) (u : Nat) (fr fo lw lh lv ac dn fi : Int32) (bc st : Nat) (p0 p1 p2 p3 p4 : Int32) (h0 : ¬ tu_win p0 0 3 = 0) (hg : g p0.toNatClampNeg = some u) (hn : ¬ (¬ tu_win p1 0 (lv - 1) = 0 ∧ ¬ tu_win p2 0 (tu_len lw p1 - 1) = 0 ∧ ¬ tu_win p3 0 (tu_len lh p1 - 1) = 0 ∧ ¬ tu_win p4 0 3 = 0)) : tx_Met l yX1_texel wsX1_texel ({ frames := 6, cells := 1, slots := 6, locals := 82 }) (va_Pc [.ref q, .int p0, .int p1, .int p2, .int p3, .int p4] (tx_B (dC, dI) vwCl [(q, .inr (1, [.ref wd, .ref us, .ref la, .ref nx])), (us, .inl (cU, 4, .inr (.inr (.inr (.inr g))))), (u, .inr (0, [.int fr, .int fo, .int lw, .int lh, .int lv, .int ac, .int dn, .int fi, .ref bc, .ref st]))] [(cU, .object "TextureUnits$Unit")])) ex_I := by
  refine vx_ofW (cc := cX1_texel) (maxL := 7) (ret := some .int) (by decide) rfl ?_
  intro p e s m args below meth c s₁ B hml hEx hv
  obtain ⟨rfl, hP, hK, hE⟩ := hv
  have hx := B.exec
  have hb := B.bytes
  have hr := B.returns
  have hts := atoms_spec (ws := wsX1_texel) B.pre
  have hown : s.vm.findClass "TextureUnits" = some m.cls := findClass_of_methodNamed B.named
  have hlocks := B.notSynchronized
  have hl := lv_entry ([.ref q, .int p0, .int p1, .int p2, .int p3, .int p4]) (n := 7) (Nat.le_of_ble_eq_true rfl)
  rw [lg_entry_eq]
  generalize (lg_sl ([.ref q, .int p0, .int p1, .int p2, .int p3, .int p4]) ++ List.replicate (7 - (lg_sl ([.ref q, .int p0, .int p1, .int p2, .int p3, .int p4])).length) Slot.unset).toArray = ls at hl ⊢
  have hl : lv_has ls 7 [(0, .ref q), (1, .int p0), (2, .int p1), (3, .int p2), (4, .int p3), (5, .int p4)] := hl
  refine lv_aload_n hx hb dX1_texel_0 rfl (lv_at hl 0 rfl) ?_
  refine lv_iload_n hx hb dX1_texel_1 rfl (lv_at hl 1 rfl) ?_
  refine rf_call (W.runV (As := [.int p0]) (rest := []) ⟨hx, hb, hml, hown, hts⟩ (r_unitAt l dC dI q wd us la nx cU g u p0 h0 hg) (cwV 1 hts (tg_V tw_174 tw_176 tw_p1 tw_1 tw_177) rfl rfl rfl (by decide +kernel) ⟨Nat.le_of_ble_eq_true rfl, Nat.le_of_ble_eq_true rfl⟩) ⟨rd_blind, va_recv hK hP (ci := 1) (q0 := 0) rfl rfl, fun U hU hW => ⟨rfl, rd_use (hP.sub [0, 1] rfl) (hK.sub [0] rfl) U hU hW⟩⟩ rfl rfl hl.1 rfl (lv_room (Nat.le_of_ble_eq_true rfl)) dX1_texel_2 ⟨Nat.le_of_ble_eq_true rfl, Nat.le_of_ble_eq_true rfl⟩) ?_
  refine lv_astore (lv' := [(6, .ref u), (0, .ref q), (1, .int p0), (2, .int p1), (3, .int p2), (4, .int p3), (5, .int p4)]) hx hb dX1_texel_5 hl (by decide) rfl (fun ls hl => ?_)
  refine lv_iload_n hx hb dX1_texel_7 rfl (lv_at hl 3 rfl) ?_
  refine lv_iconst (v := 0) hx hb dX1_texel_8 (by decide) ?_
  refine lv_aload hx hb dX1_texel_9 (lv_at hl 0 rfl) ?_
  refine va_get (D := (dC, dI)) (ci := 0) (v := .int lv) (C := "TextureUnits$Unit") (T := TX0) (N := 10) hx hb hts (tw_s inX0) hown hK hP 2 rfl rfl 4 (by decide) (hts _ (tw_c tw_43)) (fun _ h9 => h9) rfl dX1_texel_11 ?_
  refine lv_iconst (v := 1) hx hb dX1_texel_14 (by decide) ?_
  refine lv_isub hx hb dX1_texel_15 ?_
  refine rd_call (W.runS (As := [.int p1, .int 0, .int (lv - (1 : Int32))]) (rest := []) ⟨hx, hb, hml, hown, hts⟩ (r_within l p1 0 (lv - (1 : Int32))) (va_cwS 3 hts (tg_S tw_94 tw_95 tw_1 tw_96) rfl rfl rfl (by decide +kernel) ⟨Nat.le_of_ble_eq_true rfl, Nat.le_of_ble_eq_true rfl⟩) preEq rfl rfl hl.1 rfl (lv_room (Nat.le_of_ble_eq_true rfl)) dX1_texel_16 ⟨Nat.le_of_ble_eq_true rfl, Nat.le_of_ble_eq_true rfl⟩) ?_
  refine lv_if_ne (tgt := 32) hx hb dX1_texel_19 (by decide) (fun c_1 => ?_) (fun c_1 => ?_)
  · refine lv_iload_n hx hb dX1_texel_32 rfl (lv_at hl 4 rfl) ?_
    refine lv_iconst (v := 0) hx hb dX1_texel_33 (by decide) ?_
    refine lv_aload hx hb dX1_texel_34 (lv_at hl 0 rfl) ?_
    refine lv_iload_n hx hb dX1_texel_36 rfl (lv_at hl 3 rfl) ?_
    refine rd_call (W.runV (As := [.int p1]) (rest := [.int 0, .int p2]) ⟨hx, hb, hml, hown, hts⟩ (r_width l dC dI u fr fo lw lh lv ac dn fi bc st p1) (cwV 1 hts (tg_V tw_238 tw_31 tw_32 tw_2 tw_33) rfl rfl rfl (by decide +kernel) ⟨Nat.le_of_ble_eq_true rfl, Nat.le_of_ble_eq_true rfl⟩) ⟨rd_blind, va_recv hK hP (ci := 0) (q0 := 2) rfl rfl, fun U hU hW => ⟨rfl, rd_use (hP.sub [2] rfl) (hK.sub [] rfl) U hU hW⟩⟩ rfl rfl hl.1 rfl (lv_room (Nat.le_of_ble_eq_true rfl)) dX1_texel_37 ⟨Nat.le_of_ble_eq_true rfl, Nat.le_of_ble_eq_true rfl⟩) ?_
    refine lv_iconst (v := 1) hx hb dX1_texel_40 (by decide) ?_
    refine lv_isub hx hb dX1_texel_41 ?_
    refine rd_call (W.runS (As := [.int p2, .int 0, .int ((tu_len lw p1) - (1 : Int32))]) (rest := []) ⟨hx, hb, hml, hown, hts⟩ (r_within l p2 0 ((tu_len lw p1) - (1 : Int32))) (va_cwS 3 hts (tg_S tw_94 tw_95 tw_1 tw_96) rfl rfl rfl (by decide +kernel) ⟨Nat.le_of_ble_eq_true rfl, Nat.le_of_ble_eq_true rfl⟩) preEq rfl rfl hl.1 rfl (lv_room (Nat.le_of_ble_eq_true rfl)) dX1_texel_42 ⟨Nat.le_of_ble_eq_true rfl, Nat.le_of_ble_eq_true rfl⟩) ?_
    refine lv_if_eq (tgt := 65) hx hb dX1_texel_45 (by decide) (fun c_2 => ?_) (fun c_2 => ?_)
    · exact ex_throw (own := "TextureUnits") (cls := ex_I) (Y := "java/lang/RuntimeException") (r := ["java/lang/Exception"]) (text := "no such texel") hx hb hst ex_x0.1 ex_x0.2.1 ex_x0.2.2.1 ex_x0.2.2.2 hown (by decide +kernel) (by decide +kernel) (hts _ (tw_c tw_97)) (hts _ (tw_c tw_7)) (hE.2.1 (91, "no such texel") (by decide)) (ex_hI hts hE) (hl.1.trans hml.symm) dX1_texel_65 dX1_texel_68 dX1_texel_69 dX1_texel_71 dX1_texel_74 (fun x hx => (hEx x hx).elim) (Nat.le_of_ble_eq_true rfl) (Nat.le_of_ble_eq_true rfl) (Nat.le_of_ble_eq_true rfl) (Nat.le_of_ble_eq_true rfl) hlocks
    · refine lv_iload hx hb dX1_texel_48 (lv_at hl 5 rfl) ?_
      refine lv_iconst (v := 0) hx hb dX1_texel_50 (by decide) ?_
      refine lv_aload hx hb dX1_texel_51 (lv_at hl 0 rfl) ?_
      refine lv_iload_n hx hb dX1_texel_53 rfl (lv_at hl 3 rfl) ?_
      refine rd_call (W.runV (As := [.int p1]) (rest := [.int 0, .int p3]) ⟨hx, hb, hml, hown, hts⟩ (r_height l dC dI u fr fo lw lh lv ac dn fi bc st p1) (cwV 1 hts (tg_V tw_239 tw_35 tw_36 tw_2 tw_37) rfl rfl rfl (by decide +kernel) ⟨Nat.le_of_ble_eq_true rfl, Nat.le_of_ble_eq_true rfl⟩) ⟨rd_blind, va_recv hK hP (ci := 0) (q0 := 2) rfl rfl, fun U hU hW => ⟨rfl, rd_use (hP.sub [2] rfl) (hK.sub [] rfl) U hU hW⟩⟩ rfl rfl hl.1 rfl (lv_room (Nat.le_of_ble_eq_true rfl)) dX1_texel_54 ⟨Nat.le_of_ble_eq_true rfl, Nat.le_of_ble_eq_true rfl⟩) ?_
      refine lv_iconst (v := 1) hx hb dX1_texel_57 (by decide) ?_
      refine lv_isub hx hb dX1_texel_58 ?_
      refine rd_call (W.runS (As := [.int p3, .int 0, .int ((tu_len lh p1) - (1 : Int32))]) (rest := []) ⟨hx, hb, hml, hown, hts⟩ (r_within l p3 0 ((tu_len lh p1) - (1 : Int32))) (va_cwS 3 hts (tg_S tw_94 tw_95 tw_1 tw_96) rfl rfl rfl (by decide +kernel) ⟨Nat.le_of_ble_eq_true rfl, Nat.le_of_ble_eq_true rfl⟩) preEq rfl rfl hl.1 rfl (lv_room (Nat.le_of_ble_eq_true rfl)) dX1_texel_59 ⟨Nat.le_of_ble_eq_true rfl, Nat.le_of_ble_eq_true rfl⟩) ?_
      refine lv_if_ne (tgt := 75) hx hb dX1_texel_62 (by decide) (fun c_3 => ?_) (fun c_3 => ?_)
      · refine lv_iload hx hb dX1_texel_75 (lv_at hl 6 rfl) ?_
        refine lv_iconst (v := 0) hx hb dX1_texel_77 (by decide) ?_
        refine lv_iconst (v := 3) hx hb dX1_texel_78 (by decide) ?_
        refine rd_call (W.runS (As := [.int p4, .int 0, .int 3]) (rest := []) ⟨hx, hb, hml, hown, hts⟩ (r_within l p4 0 3) (va_cwS 3 hts (tg_S tw_94 tw_95 tw_1 tw_96) rfl rfl rfl (by decide +kernel) ⟨Nat.le_of_ble_eq_true rfl, Nat.le_of_ble_eq_true rfl⟩) preEq rfl rfl hl.1 rfl (lv_room (Nat.le_of_ble_eq_true rfl)) dX1_texel_79 ⟨Nat.le_of_ble_eq_true rfl, Nat.le_of_ble_eq_true rfl⟩) ?_
        refine lv_if_ne (tgt := 95) hx hb dX1_texel_82 (by decide) (fun c_4 => ?_) (fun c_4 => ?_)
        · exact absurd ⟨c_1, c_2, c_3, c_4⟩ hn
        · exact ex_throw (own := "TextureUnits") (cls := ex_I) (Y := "java/lang/RuntimeException") (r := ["java/lang/Exception"]) (text := "no such channel") hx hb hst ex_x0.1 ex_x0.2.1 ex_x0.2.2.1 ex_x0.2.2.2 hown (by decide +kernel) (by decide +kernel) (hts _ (tw_c tw_97)) (hts _ (tw_c tw_7)) (hE.2.1 (93, "no such channel") (by decide)) (ex_hI hts hE) (hl.1.trans hml.symm) dX1_texel_85 dX1_texel_88 dX1_texel_89 dX1_texel_91 dX1_texel_94 (fun x hx => (hEx x hx).elim) (Nat.le_of_ble_eq_true rfl) (Nat.le_of_ble_eq_true rfl) (Nat.le_of_ble_eq_true rfl) (Nat.le_of_ble_eq_true rfl) hlocks
      · exact ex_throw (own := "TextureUnits") (cls := ex_I) (Y := "java/lang/RuntimeException") (r := ["java/lang/Exception"]) (text := "no such texel") hx hb hst ex_x0.1 ex_x0.2.1 ex_x0.2.2.1 ex_x0.2.2.2 hown (by decide +kernel) (by decide +kernel) (hts _ (tw_c tw_97)) (hts _ (tw_c tw_7)) (hE.2.1 (91, "no such texel") (by decide)) (ex_hI hts hE) (hl.1.trans hml.symm) dX1_texel_65 dX1_texel_68 dX1_texel_69 dX1_texel_71 dX1_texel_74 (fun x hx => (hEx x hx).elim) (Nat.le_of_ble_eq_true rfl) (Nat.le_of_ble_eq_true rfl) (Nat.le_of_ble_eq_true rfl) (Nat.le_of_ble_eq_true rfl) hlocks
  · exact ex_throw (own := "TextureUnits") (cls := ex_I) (Y := "java/lang/RuntimeException") (r := ["java/lang/Exception"]) (text := "no such level") hx hb hst ex_x0.1 ex_x0.2.1 ex_x0.2.2.1 ex_x0.2.2.2 hown (by decide +kernel) (by decide +kernel) (hts _ (tw_c tw_97)) (hts _ (tw_c tw_7)) (hE.2.1 (82, "no such level") (by decide)) (ex_hI hts hE) (hl.1.trans hml.symm) dX1_texel_22 dX1_texel_25 dX1_texel_26 dX1_texel_28 dX1_texel_31 (fun x hx => (hEx x hx).elim) (Nat.le_of_ble_eq_true rfl) (Nat.le_of_ble_eq_true rfl) (Nat.le_of_ble_eq_true rfl) (Nat.le_of_ble_eq_true rfl) hlocks
