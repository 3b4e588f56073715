theorem tw_168 : (Cond.classLink "TextureUnitsLaw" 19 "java/util/NoSuchElementException") ∈ TW := tw_t1 168 (by decide +kernel) (by decide +kernel)
theorem tw_169 : (Cond.classLink "TextureUnitsLaw" 21 "java/lang/IllegalArgumentException") ∈ TW := tw_t1 169 (by decide +kernel) (by decide +kernel)
theorem tw_170 : (Cond.methodLink "TextureUnitsLaw" 15 ⟨"TextureUnits", "picture", "(IIIIII)V"⟩) ∈ TW := tw_t1 170 (by decide +kernel) (by decide +kernel)
theorem tw_171 : (Cond.instanceMethod ⟨"TextureUnits", "picture", "(IIIIII)V"⟩) ∈ TW := tw_t1 171 (by decide +kernel) (by decide +kernel)
theorem tw_172 : (Cond.selects "TextureUnits" ⟨"TextureUnits", "picture", "(IIIIII)V"⟩ ⟨"TextureUnits", "picture", "(IIIIII)V"⟩) ∈ TW := tw_t1 172 (by decide +kernel) (by decide +kernel)
theorem tw_173 : (Cond.code ⟨"TextureUnits", "picture", "(IIIIII)V"⟩ prog_1_method_3_code 8 .none) ∈ TW := tw_t1 173 (by decide +kernel) (by decide +kernel)
theorem tw_217 : (Cond.methodLink "TextureUnitsLaw" 23 ⟨"TextureUnits", "manner", "(IIII)V"⟩) ∈ TW := tw_t1 217 (by decide +kernel) (by decide +kernel)
theorem tw_218 : (Cond.instanceMethod ⟨"TextureUnits", "manner", "(IIII)V"⟩) ∈ TW := tw_t1 218 (by decide +kernel) (by decide +kernel)
theorem tw_219 : (Cond.selects "TextureUnits" ⟨"TextureUnits", "manner", "(IIII)V"⟩ ⟨"TextureUnits", "manner", "(IIII)V"⟩) ∈ TW := tw_t1 219 (by decide +kernel) (by decide +kernel)
theorem tw_220 : (Cond.code ⟨"TextureUnits", "manner", "(IIII)V"⟩ prog_1_method_4_code 6 .none) ∈ TW := tw_t1 220 (by decide +kernel) (by decide +kernel)
theorem tw_226 : (Cond.methodLink "TextureUnitsLaw" 27 ⟨"TextureUnits", "border", "(IIIII)V"⟩) ∈ TW := tw_t1 226 (by decide +kernel) (by decide +kernel)
theorem tw_227 : (Cond.instanceMethod ⟨"TextureUnits", "border", "(IIIII)V"⟩) ∈ TW := tw_t1 227 (by decide +kernel) (by decide +kernel)
theorem tw_228 : (Cond.selects "TextureUnits" ⟨"TextureUnits", "border", "(IIIII)V"⟩ ⟨"TextureUnits", "border", "(IIIII)V"⟩) ∈ TW := tw_t1 228 (by decide +kernel) (by decide +kernel)
theorem tw_229 : (Cond.code ⟨"TextureUnits", "border", "(IIIII)V"⟩ prog_1_method_5_code 7 .none) ∈ TW := tw_t1 229 (by decide +kernel) (by decide +kernel)
theorem tw_233 : (Cond.methodLink "TextureUnitsLaw" 31 ⟨"TextureUnits", "texel", "(IIIII)I"⟩) ∈ TW := tw_t1 233 (by decide +kernel) (by decide +kernel)
theorem tw_234 : (Cond.instanceMethod ⟨"TextureUnits", "texel", "(IIIII)I"⟩) ∈ TW := tw_t1 234 (by decide +kernel) (by decide +kernel)
theorem tw_235 : (Cond.selects "TextureUnits" ⟨"TextureUnits", "texel", "(IIIII)I"⟩ ⟨"TextureUnits", "texel", "(IIIII)I"⟩) ∈ TW := tw_t1 235 (by decide +kernel) (by decide +kernel)
theorem tw_236 : (Cond.code ⟨"TextureUnits", "texel", "(IIIII)I"⟩ prog_1_method_6_code 7 (.some .int)) ∈ TW := tw_t1 236 (by decide +kernel) (by decide +kernel)
theorem tw_266 : (Cond.methodLink "TextureUnitsLaw" 35 ⟨"TextureUnits", "texels", "(I)I"⟩) ∈ TW := tw_t2 26 (by decide +kernel) (by decide +kernel)
theorem tw_267 : (Cond.instanceMethod ⟨"TextureUnits", "texels", "(I)I"⟩) ∈ TW := tw_t2 27 (by decide +kernel) (by decide +kernel)
theorem tw_268 : (Cond.selects "TextureUnits" ⟨"TextureUnits", "texels", "(I)I"⟩ ⟨"TextureUnits", "texels", "(I)I"⟩) ∈ TW := tw_t2 28 (by decide +kernel) (by decide +kernel)
theorem tw_269 : (Cond.code ⟨"TextureUnits", "texels", "(I)I"⟩ prog_1_method_7_code 3 (.some .int)) ∈ TW := tw_t2 29 (by decide +kernel) (by decide +kernel)
theorem tw_273 : (Cond.methodLink "TextureUnitsLaw" 39 ⟨"TextureUnits", "read", "(IIII)I"⟩) ∈ TW := tw_t2 33 (by decide +kernel) (by decide +kernel)
theorem tw_274 : (Cond.instanceMethod ⟨"TextureUnits", "read", "(IIII)I"⟩) ∈ TW := tw_t2 34 (by decide +kernel) (by decide +kernel)
theorem tw_275 : (Cond.selects "TextureUnits" ⟨"TextureUnits", "read", "(IIII)I"⟩ ⟨"TextureUnits", "read", "(IIII)I"⟩) ∈ TW := tw_t2 35 (by decide +kernel) (by decide +kernel)
theorem tw_276 : (Cond.code ⟨"TextureUnits", "read", "(IIII)I"⟩ prog_1_method_8_code 10 (.some .int)) ∈ TW := tw_t2 36 (by decide +kernel) (by decide +kernel)
theorem tw_323 : (Cond.methodLink "TextureUnitsLaw" 43 ⟨"TextureUnits", "also", "(I)I"⟩) ∈ TW := tw_t2 83 (by decide +kernel) (by decide +kernel)
theorem tw_324 : (Cond.instanceMethod ⟨"TextureUnits", "also", "(I)I"⟩) ∈ TW := tw_t2 84 (by decide +kernel) (by decide +kernel)
theorem tw_325 : (Cond.selects "TextureUnits" ⟨"TextureUnits", "also", "(I)I"⟩ ⟨"TextureUnits", "also", "(I)I"⟩) ∈ TW := tw_t2 85 (by decide +kernel) (by decide +kernel)
theorem tw_326 : (Cond.code ⟨"TextureUnits", "also", "(I)I"⟩ prog_1_method_9_code 2 (.some .int)) ∈ TW := tw_t2 86 (by decide +kernel) (by decide +kernel)
theorem tw_89 : (Cond.classLink "TextureUnitsLaw" 13 "java/lang/IndexOutOfBoundsException") ∈ TW := tw_t1 89 (by decide +kernel) (by decide +kernel)
theorem tw_90 : (Cond.methodLink "TextureUnitsLaw" 7 ⟨"TextureUnits", "poke", "(II)V"⟩) ∈ TW := tw_t1 90 (by decide +kernel) (by decide +kernel)
theorem tw_91 : (Cond.instanceMethod ⟨"TextureUnits", "poke", "(II)V"⟩) ∈ TW := tw_t1 91 (by decide +kernel) (by decide +kernel)
theorem tw_92 : (Cond.selects "TextureUnits" ⟨"TextureUnits", "poke", "(II)V"⟩ ⟨"TextureUnits", "poke", "(II)V"⟩) ∈ TW := tw_t1 92 (by decide +kernel) (by decide +kernel)
theorem tw_93 : (Cond.code ⟨"TextureUnits", "poke", "(II)V"⟩ prog_1_method_2_code 3 .none) ∈ TW := tw_t1 93 (by decide +kernel) (by decide +kernel)
set_option maxHeartbeats 4000000 in
set_option maxRecDepth 100000 in
theorem k_poke0 (l : Launch) (dC : Nat → ClassId) (dI : Nat → Nat → Nat) (q wd us la nx : Nat) (cI : ClassId) (mem : Nat → Int32) (p0 p1 : Int32) (sz : Nat) (h0 : ¬ tu_win p0 0 2047 = 0) : Met l yL_poke wsL_poke ({ frames := 2, cells := 0, slots := 0, locals := 44 }) (va_Pc [.ref q, .int p0, .int p1] (wr_P (dC, dI) vwCl [(q, .inr (1, [.ref wd, .ref us, .ref la, .ref nx])), (wd, .inl (cI, 2048, .inl mem))] [(cI, .int)] sz)) (va_Qi (fun (r9 : Int32) (_ : Unit) => r9 = 0) (wr_B (dC, dI) vwCl [(q, .inr (1, [.ref wd, .ref us, .ref la, .ref nx])), (wd, .inl (cI, 2048, .inl (upd mem p0.toNatClampNeg p1)))] [(cI, .int)] (va_A [(q, .inr (1, [.ref wd, .ref us, .ref la, .ref nx])), (wd, .inl (cI, 2048, .inl mem))] sz)) (va_A [(q, .inr (1, [.ref wd, .ref us, .ref la, .ref nx])), (wd, .inl (cI, 2048, .inl mem))] sz)) 0 0 (va_A [(q, .inr (1, [.ref wd, .ref us, .ref la, .ref nx])), (wd, .inl (cI, 2048, .inl mem))] sz) := by
  refine va_MetW (cc := cL_poke) (maxL := 4) (ret := some .int) (by decide) rfl ?_
  intro p e s m args below meth c s₁ B hml hv
  obtain ⟨rfl, hsz, hP, hK, hD0⟩ := hv
  have hx := B.exec
  have hb := B.bytes
  have hr := B.returns
  have hts := atoms_spec (ws := wsL_poke) B.pre
  have hown : s.vm.findClass "TextureUnitsLaw" = some m.cls := findClass_of_methodNamed B.named
  have hlocks := B.notSynchronized
  have hTab := vx_table (x := yL_poke) B (hts _ List.mem_cons_self)
  subst hsz
  have hD := hD0.self (sz := s.heap.size)
  generalize hAe : va_A [(q, .inr (1, [.ref wd, .ref us, .ref la, .ref nx])), (wd, .inl (cI, 2048, .inl mem))] s.heap.size = A at hD ⊢
  have hA : ∀ q : Nat, s.heap.size ≤ q → A q := fun q h => by rw [← hAe]; exact Or.inr h
  have hS : va_S A s.heap s.heap [] := va_S.rf
  have hP : va_P (dC, dI) vwCl [(q, .inr (1, [.ref wd, .ref us, .ref la, .ref nx])), (wd, .inl (cI, 2048, .inl mem))] s.heap := hP
  have hl := lv_entry ([.ref q, .int p0, .int p1]) (n := 4) (Nat.le_of_ble_eq_true rfl)
  rw [lg_entry_eq]
  generalize (lg_sl ([.ref q, .int p0, .int p1]) ++ List.replicate (4 - (lg_sl ([.ref q, .int p0, .int p1])).length) Slot.unset).toArray = ls at hl ⊢
  have hl : lv_has ls 4 [(0, .ref q), (1, .int p0), (2, .int p1)] := hl
  refine lv_aload_n hx hb dL_poke_0 rfl (lv_at hl 0 rfl) ?_
  refine lv_iload_n hx hb dL_poke_1 rfl (lv_at hl 1 rfl) ?_
  refine lv_iload_n hx hb dL_poke_2 rfl (lv_at hl 2 rfl) ?_
  have hPc := hP.sub (ws' := [(q, .inr (1, [.ref wd, .ref us, .ref la, .ref nx])), (wd, .inl (cI, 2048, .inl mem))]) [0, 1] rfl
  have hDc := hD.sub (ws' := [(q, .inr (1, [.ref wd, .ref us, .ref la, .ref nx])), (wd, .inl (cI, 2048, .inl mem))]) [0, 1] (by decide) rfl
  have hFc := va_free (wc := [(q, .inr (1, [.ref wd, .ref us, .ref la, .ref nx])), (wd, .inl (cI, 2048, .inl mem))]) hD hS hA [0, 1] rfl
  refine va_callv (va_runV (As := [.int p0, .int p1]) (rest := []) ⟨hx, hb, hml, hown, hts⟩ (w_poke l dC dI q wd us la nx cI mem p0 p1 s.heap.size h0) (cwV 2 hts (tg_V tw_90 tw_91 tw_92 tw_1 tw_93) rfl rfl rfl (by decide +kernel) ⟨Nat.le_of_ble_eq_true rfl, Nat.le_of_ble_eq_true rfl⟩) ⟨wr_blind, va_recv hK hP (ci := 1) (q0 := 0) rfl rfl, fun U hU hW => ⟨rfl, wr_use hPc (hK.sub [0] rfl) hDc U hU hW⟩⟩ rfl rfl hl.1 rfl (lv_room (Nat.le_of_ble_eq_true rfl)) dL_poke_3 ⟨Nat.le_of_ble_eq_true rfl, Nat.le_of_ble_eq_true rfl⟩) hS (fun q _ h => hFc q h) hFc (fun u9 t9 H1 locs ht hvm hw hB hz1 hk1 hS => ?_)
  obtain ⟨hP1, hK1, hD1⟩ := hB
  rw [ht] at hP1
  obtain ⟨hP, hD⟩ := va_join (wr := []) (w1 := [(q, .inr (1, [.ref wd, .ref us, .ref la, .ref nx])), (wd, .inl (cI, 2048, .inl (upd mem p0.toNatClampNeg p1)))]) hP hD [0, 1] [] rfl rfl (by decide) (by decide) hk1 hFc hP1 hD1
  have hP := hP.sub (ws' := [(q, .inr (1, [.ref wd, .ref us, .ref la, .ref nx])), (wd, .inl (cI, 2048, .inl (upd mem p0.toNatClampNeg p1)))]) [0, 1] rfl
  have hD := hD.sub (ws' := [(q, .inr (1, [.ref wd, .ref us, .ref la, .ref nx])), (wd, .inl (cI, 2048, .inl (upd mem p0.toNatClampNeg p1)))]) [0, 1] (by decide) rfl
  clear hPc hDc hFc hP1 hK1 hD1 hk1 hz1
  generalize H1 = H at hP hS ⊢
  refine lv_goto (tgt := 12) hx hb dL_poke_6 (by decide) ?_
  refine lv_iconst (v := 0) hx hb dL_poke_12 (by decide) ?_
  have hP9 : va_P (dC, dI) vwCl [(q, .inr (1, [.ref wd, .ref us, .ref la, .ref nx])), (wd, .inl (cI, 2048, .inl (upd mem p0.toNatClampNeg p1)))] H := hP.sub [0, 1] rfl
  have hD9 : va_D A [(q, .inr (1, [.ref wd, .ref us, .ref la, .ref nx])), (wd, .inl (cI, 2048, .inl (upd mem p0.toNatClampNeg p1)))] := hD.sub [0, 1] (by decide) rfl
  have hK9 : va_K (dC, dI) vwCl [(cI, .int)] s := hK.sub [0] rfl
  exact W.iret (v := 0) hx hb hr (fun t ht hW => ⟨⟨0, (), rfl, rfl, by rw [ht]; exact hP9, va_K.moved hW.alike hK9, hD9⟩, hS.F ht⟩) hS.2.2 dL_poke_13
set_option maxHeartbeats 4000000 in
set_option maxRecDepth 100000 in
theorem k_poke1 (l : Launch) (dC : Nat → ClassId) (dI : Nat → Nat → Nat) (q wd us la nx : Nat) (p0 p1 : Int32) (sz : Nat) (hst : l.stackTraces = false) (h0 : tu_win p0 0 2047 = 0) : Met l yL_poke wsL_poke ({ frames := 7, cells := 1, slots := 6, locals := 104 }) (va_Pc [.ref q, .int p0, .int p1] (fun U => wr_P (dC, dI) vwCl [(q, .inr (1, [.ref wd, .ref us, .ref la, .ref nx]))] [] sz U ∧ ex_E (fun _ => False) U U.heap)) (va_Qi (fun (r9 : Int32) (_ : Unit) => r9 = 1) (wr_B (dC, dI) vwCl [(q, .inr (1, [.ref wd, .ref us, .ref la, .ref nx]))] [] (va_A [(q, .inr (1, [.ref wd, .ref us, .ref la, .ref nx]))] sz)) (va_A [(q, .inr (1, [.ref wd, .ref us, .ref la, .ref nx]))] sz)) 1 6 (va_A [(q, .inr (1, [.ref wd, .ref us, .ref la, .ref nx]))] sz) := by
  refine va_MetW (cc := cL_poke) (maxL := 4) (ret := some .int) (by decide) rfl ?_
  intro p e s m args below meth c s₁ B hml hv
  obtain ⟨rfl, ⟨hsz, hP, hK, hD0⟩, hV⟩ := hv
  have hx := B.exec
  have hb := B.bytes
  have hr := B.returns
  have hts := atoms_spec (ws := wsL_poke) B.pre
  have hown : s.vm.findClass "TextureUnitsLaw" = some m.cls := findClass_of_methodNamed B.named
  have hlocks := B.notSynchronized
  have hTab := vx_table (x := yL_poke) B (hts _ List.mem_cons_self)
  subst hsz
  have hD := hD0.self (sz := s.heap.size)
  generalize hAe : va_A [(q, .inr (1, [.ref wd, .ref us, .ref la, .ref nx]))] s.heap.size = A at hD ⊢
  have hA : ∀ q : Nat, s.heap.size ≤ q → A q := fun q h => by rw [← hAe]; exact Or.inr h
  have hS : va_S A s.heap s.heap [] := va_S.rf
  have hP : va_P (dC, dI) vwCl [(q, .inr (1, [.ref wd, .ref us, .ref la, .ref nx]))] s.heap := hP
  have hl := lv_entry ([.ref q, .int p0, .int p1]) (n := 4) (Nat.le_of_ble_eq_true rfl)
  rw [lg_entry_eq]
  generalize (lg_sl ([.ref q, .int p0, .int p1]) ++ List.replicate (4 - (lg_sl ([.ref q, .int p0, .int p1])).length) Slot.unset).toArray = ls at hl ⊢
  have hl : lv_has ls 4 [(0, .ref q), (1, .int p0), (2, .int p1)] := hl
  refine lv_aload_n hx hb dL_poke_0 rfl (lv_at hl 0 rfl) ?_
  refine lv_iload_n hx hb dL_poke_1 rfl (lv_at hl 1 rfl) ?_
  refine lv_iload_n hx hb dL_poke_2 rfl (lv_at hl 2 rfl) ?_
  refine tx_call (vx_runV (As := [.int p0, .int p1]) (rest := []) ⟨hx, hb, hml, hown, hts⟩ (x_poke l hst dC dI q wd us la nx p0 p1 h0) (cwV 2 hts (tg_V tw_90 tw_91 tw_92 tw_1 tw_93) rfl rfl rfl (by decide +kernel) ⟨Nat.le_of_ble_eq_true rfl, Nat.le_of_ble_eq_true rfl⟩) ⟨tx_blind, va_recv hK hP (ci := 1) (q0 := 0) rfl rfl, fun U hU hW => ⟨rfl, tx_use (hP.sub [0] rfl) (hK.sub [] rfl) hV U hU hW⟩⟩ rfl rfl hl.1 rfl (lv_room (Nat.le_of_ble_eq_true rfl)) dL_poke_3 ⟨Nat.le_of_ble_eq_true rfl, Nat.le_of_ble_eq_true rfl⟩) (fun H1 q1 ce h1 h2 h3 h4 h5 => ?_)
  refine vx_catch (own := "TextureUnitsLaw") (name := ex_I) (E := ex_I) hown [] ⟨0, 6, 9, 13⟩ [] (by rw [hTab]; rfl) (fun z hz => nomatch hz) (by decide) (by decide) (hts _ (tw_c tw_89)) (hV.1.use (w := .castable ex_I ex_I) (by decide +kernel)) h3 h4 h5 ?_
  have hP : va_P (dC, dI) vwCl [(q, .inr (1, [.ref wd, .ref us, .ref la, .ref nx]))] H1 := hP.kept (fun k q hk => h2 _ (hP k q hk).lt)
  have hS : va_S A s.heap H1 [] := ⟨h1, fun q hq _ => h2 q hq, fun _ h => by cases h⟩
  generalize H1 = H at hP hS ⊢
  refine lv_astore_n (lv' := [(3, .ref q1), (0, .ref q), (1, .int p0), (2, .int p1)]) hx hb dL_poke_9 rfl hl (by decide) rfl (fun ls hl => ?_)
  refine lv_iconst (v := 1) hx hb dL_poke_10 (by decide) ?_
  have hP9 : va_P (dC, dI) vwCl [(q, .inr (1, [.ref wd, .ref us, .ref la, .ref nx]))] H := hP.sub [0] rfl
  have hD9 : va_D A [(q, .inr (1, [.ref wd, .ref us, .ref la, .ref nx]))] := hD.sub [0] (by decide) rfl
  have hK9 : va_K (dC, dI) vwCl [] s := hK.sub [] rfl
  refine W.widen (k := 1) (n := 6) (by omega) (by omega) ?_
  exact W.iret (v := 1) hx hb hr (fun t ht hW => ⟨⟨1, (), rfl, rfl, by rw [ht]; exact hP9, va_K.moved hW.alike hK9, hD9⟩, hS.F ht⟩) hS.2.2 dL_poke_11
set_option maxHeartbeats 4000000 in
set_option maxRecDepth 100000 in
theorem k_picture0 (l : Launch) (dC : Nat → ClassId) (dI : Nat → Nat → Nat) (q wd us la nx : Nat) (cU : ClassId) (g : Nat → Option Nat) (u : Nat) (fr fo lw lh lv ac dn fi : Int32) (bc st : Nat) (cI : ClassId) (sf : Nat → Int32) (p0 p1 p2 p3 p4 p5 : Int32) (sz : Nat) (h0 : ¬ tu_win p0 0 3 = 0) (hg : g p0.toNatClampNeg = some u) (hv : 0 ≤ p1 ∧ ¬ tu_win p2 0 10 = 0 ∧ ¬ tu_win p3 0 10 = 0 ∧ ¬ tu_win p4 1 11 = 0 ∧ ¬ tu_win p5 0 7 = 0) : Met l yL_picture wsL_picture ({ frames := 3, cells := 0, slots := 0, locals := 72 }) (va_Pc [.ref q, .int p0, .int p1, .int p2, .int p3, .int p4, .int p5] (wr_P (dC, dI) vwCl [(q, .inr (1, [.ref wd, .ref us, .ref la, .ref nx])), (us, .inl (cU, 4, .inr (.inr (.inr (.inr g))))), (u, .inr (0, [.int fr, .int fo, .int lw, .int lh, .int lv, .int ac, .int dn, .int fi, .ref bc, .ref st])), (st, .inl (cI, 12, .inl sf))] [(cU, .object "TextureUnits$Unit"), (cI, .int)] sz)) (va_Qi (fun (r9 : Int32) (_ : Unit) => r9 = 0) (wr_B (dC, dI) vwCl [(q, .inr (1, [.ref wd, .ref us, .ref la, .ref nx])), (us, .inl (cU, 4, .inr (.inr (.inr (.inr g))))), (u, .inr (0, [.int p1, .int p5, .int p2, .int p3, .int p4, .int ac, .int dn, .int fi, .ref bc, .ref st])), (st, .inl (cI, 12, .inl (tu_lay p2 p3 sf 11)))] [(cU, .object "TextureUnits$Unit"), (cI, .int)] (va_A [(q, .inr (1, [.ref wd, .ref us, .ref la, .ref nx])), (us, .inl (cU, 4, .inr (.inr (.inr (.inr g))))), (u, .inr (0, [.int fr, .int fo, .int lw, .int lh, .int lv, .int ac, .int dn, .int fi, .ref bc, .ref st])), (st, .inl (cI, 12, .inl sf))] sz)) (va_A [(q, .inr (1, [.ref wd, .ref us, .ref la, .ref nx])), (us, .inl (cU, 4, .inr (.inr (.inr (.inr g))))), (u, .inr (0, [.int fr, .int fo, .int lw, .int lh, .int lv, .int ac, .int dn, .int fi, .ref bc, .ref st])), (st, .inl (cI, 12, .inl sf))] sz)) 0 0 (va_A [(q, .inr (1, [.ref wd, .ref us, .ref la, .ref nx])), (us, .inl (cU, 4, .inr (.inr (.inr (.inr g))))), (u, .inr (0, [.int fr, .int fo, .int lw, .int lh, .int lv, .int ac, .int dn, .int fi, .ref bc, .ref st])), (st, .inl (cI, 12, .inl sf))] sz) := by
  refine va_MetW (cc := cL_picture) (maxL := 8) (ret := some .int) (by decide) rfl ?_
  intro p e s m args below meth c s₁ B hml hv
  obtain ⟨rfl, hsz, hP, hK, hD0⟩ := hv
  have hx := B.exec
  have hb := B.bytes
  have hr := B.returns
  have hts := atoms_spec (ws := wsL_picture) B.pre
  have hown : s.vm.findClass "TextureUnitsLaw" = some m.cls := findClass_of_methodNamed B.named
  have hlocks := B.notSynchronized
  have hTab := vx_table (x := yL_picture) B (hts _ List.mem_cons_self)
  subst hsz
  have hD := hD0.self (sz := s.heap.size)
  generalize hAe : va_A [(q, .inr (1, [.ref wd, .ref us, .ref la, .ref nx])), (us, .inl (cU, 4, .inr (.inr (.inr (.inr g))))), (u, .inr (0, [.int fr, .int fo, .int lw, .int lh, .int lv, .int ac, .int dn, .int fi, .ref bc, .ref st])), (st, .inl (cI, 12, .inl sf))] s.heap.size = A at hD ⊢
  have hA : ∀ q : Nat, s.heap.size ≤ q → A q := fun q h => by rw [← hAe]; exact Or.inr h
  have hS : va_S A s.heap s.heap [] := va_S.rf
  have hP : va_P (dC, dI) vwCl [(q, .inr (1, [.ref wd, .ref us, .ref la, .ref nx])), (us, .inl (cU, 4, .inr (.inr (.inr (.inr g))))), (u, .inr (0, [.int fr, .int fo, .int lw, .int lh, .int lv, .int ac, .int dn, .int fi, .ref bc, .ref st])), (st, .inl (cI, 12, .inl sf))] s.heap := hP
  have hl := lv_entry ([.ref q, .int p0, .int p1, .int p2, .int p3, .int p4, .int p5]) (n := 8) (Nat.le_of_ble_eq_true rfl)
  rw [lg_entry_eq]
  generalize (lg_sl ([.ref q, .int p0, .int p1, .int p2, .int p3, .int p4, .int p5]) ++ List.replicate (8 - (lg_sl ([.ref q, .int p0, .int p1, .int p2, .int p3, .int p4, .int p5])).length) Slot.unset).toArray = ls at hl ⊢
  have hl : lv_has ls 8 [(0, .ref q), (1, .int p0), (2, .int p1), (3, .int p2), (4, .int p3), (5, .int p4), (6, .int p5)] := hl
  refine lv_aload_n hx hb dL_picture_0 rfl (lv_at hl 0 rfl) ?_
  refine lv_iload_n hx hb dL_picture_1 rfl (lv_at hl 1 rfl) ?_
  refine lv_iload_n hx hb dL_picture_2 rfl (lv_at hl 2 rfl) ?_
  refine lv_iload_n hx hb dL_picture_3 rfl (lv_at hl 3 rfl) ?_
  refine lv_iload hx hb dL_picture_4 (lv_at hl 4 rfl) ?_
  refine lv_iload hx hb dL_picture_6 (lv_at hl 5 rfl) ?_
  refine lv_iload hx hb dL_picture_8 (lv_at hl 6 rfl) ?_
  have hPc := hP.sub (ws' := [(q, .inr (1, [.ref wd, .ref us, .ref la, .ref nx])), (us, .inl (cU, 4, .inr (.inr (.inr (.inr g))))), (u, .inr (0, [.int fr, .int fo, .int lw, .int lh, .int lv, .int ac, .int dn, .int fi, .ref bc, .ref st])), (st, .inl (cI, 12, .inl sf))]) [0, 1, 2, 3] rfl
  have hDc := hD.sub (ws' := [(q, .inr (1, [.ref wd, .ref us, .ref la, .ref nx])), (us, .inl (cU, 4, .inr (.inr (.inr (.inr g))))), (u, .inr (0, [.int fr, .int fo, .int lw, .int lh, .int lv, .int ac, .int dn, .int fi, .ref bc, .ref st])), (st, .inl (cI, 12, .inl sf))]) [0, 1, 2, 3] (by decide) rfl
  have hFc := va_free (wc := [(q, .inr (1, [.ref wd, .ref us, .ref la, .ref nx])), (us, .inl (cU, 4, .inr (.inr (.inr (.inr g))))), (u, .inr (0, [.int fr, .int fo, .int lw, .int lh, .int lv, .int ac, .int dn, .int fi, .ref bc, .ref st])), (st, .inl (cI, 12, .inl sf))]) hD hS hA [0, 1, 2, 3] rfl
  refine va_callv (va_runV (As := [.int p0, .int p1, .int p2, .int p3, .int p4, .int p5]) (rest := []) ⟨hx, hb, hml, hown, hts⟩ (w_picture l dC dI q wd us la nx cU g u fr fo lw lh lv ac dn fi bc st cI sf p0 p1 p2 p3 p4 p5 s.heap.size h0 hg hv) (cwV 6 hts (tg_V tw_170 tw_171 tw_172 tw_1 tw_173) rfl rfl rfl (by decide +kernel) ⟨Nat.le_of_ble_eq_true rfl, Nat.le_of_ble_eq_true rfl⟩) ⟨wr_blind, va_recv hK hP (ci := 1) (q0 := 0) rfl rfl, fun U hU hW => ⟨rfl, wr_use hPc (hK.sub [0, 1] rfl) hDc U hU hW⟩⟩ rfl rfl hl.1 rfl (lv_room (Nat.le_of_ble_eq_true rfl)) dL_picture_10 ⟨Nat.le_of_ble_eq_true rfl, Nat.le_of_ble_eq_true rfl⟩) hS (fun q _ h => hFc q h) hFc (fun u9 t9 H1 locs ht hvm hw hB hz1 hk1 hS => ?_)
  obtain ⟨hP1, hK1, hD1⟩ := hB
  rw [ht] at hP1
  obtain ⟨hP, hD⟩ := va_join (wr := []) (w1 := [(q, .inr (1, [.ref wd, .ref us, .ref la, .ref nx])), (us, .inl (cU, 4, .inr (.inr (.inr (.inr g))))), (u, .inr (0, [.int p1, .int p5, .int p2, .int p3, .int p4, .int ac, .int dn, .int fi, .ref bc, .ref st])), (st, .inl (cI, 12, .inl (tu_lay p2 p3 sf 11)))]) hP hD [0, 1, 2, 3] [] rfl rfl (by decide) (by decide) hk1 hFc hP1 hD1
  have hP := hP.sub (ws' := [(q, .inr (1, [.ref wd, .ref us, .ref la, .ref nx])), (us, .inl (cU, 4, .inr (.inr (.inr (.inr g))))), (u, .inr (0, [.int p1, .int p5, .int p2, .int p3, .int p4, .int ac, .int dn, .int fi, .ref bc, .ref st])), (st, .inl (cI, 12, .inl (tu_lay p2 p3 sf 11)))]) [0, 1, 2, 3] rfl
  have hD := hD.sub (ws' := [(q, .inr (1, [.ref wd, .ref us, .ref la, .ref nx])), (us, .inl (cU, 4, .inr (.inr (.inr (.inr g))))), (u, .inr (0, [.int p1, .int p5, .int p2, .int p3, .int p4, .int ac, .int dn, .int fi, .ref bc, .ref st])), (st, .inl (cI, 12, .inl (tu_lay p2 p3 sf 11)))]) [0, 1, 2, 3] (by decide) rfl
  clear hPc hDc hFc hP1 hK1 hD1 hk1 hz1
  generalize H1 = H at hP hS ⊢
  refine lv_goto (tgt := 24) hx hb dL_picture_13 (by decide) ?_
  refine lv_iconst (v := 0) hx hb dL_picture_24 (by decide) ?_
  have hP9 : va_P (dC, dI) vwCl [(q, .inr (1, [.ref wd, .ref us, .ref la, .ref nx])), (us, .inl (cU, 4, .inr (.inr (.inr (.inr g))))), (u, .inr (0, [.int p1, .int p5, .int p2, .int p3, .int p4, .int ac, .int dn, .int fi, .ref bc, .ref st])), (st, .inl (cI, 12, .inl (tu_lay p2 p3 sf 11)))] H := hP.sub [0, 1, 2, 3] rfl
  have hD9 : va_D A [(q, .inr (1, [.ref wd, .ref us, .ref la, .ref nx])), (us, .inl (cU, 4, .inr (.inr (.inr (.inr g))))), (u, .inr (0, [.int p1, .int p5, .int p2, .int p3, .int p4, .int ac, .int dn, .int fi, .ref bc, .ref st])), (st, .inl (cI, 12, .inl (tu_lay p2 p3 sf 11)))] := hD.sub [0, 1, 2, 3] (by decide) rfl
  have hK9 : va_K (dC, dI) vwCl [(cU, .object "TextureUnits$Unit"), (cI, .int)] s := hK.sub [0, 1] rfl
  exact W.iret (v := 0) hx hb hr (fun t ht hW => ⟨⟨0, (), rfl, rfl, by rw [ht]; exact hP9, va_K.moved hW.alike hK9, hD9⟩, hS.F ht⟩) hS.2.2 dL_picture_25
set_option maxHeartbeats 4000000 in
set_option maxRecDepth 100000 in
theorem k_picture1 (l : Launch) (dC : Nat → ClassId) (dI : Nat → Nat → Nat) (q wd us la nx : Nat) (p0 p1 p2 p3 p4 p5 : Int32) (sz : Nat) (hst : l.stackTraces = false) (h0 : tu_win p0 0 3 = 0) : Met l yL_picture wsL_picture ({ frames := 8, cells := 1, slots := 6, locals := 130 }) (va_Pc [.ref q, .int p0, .int p1, .int p2, .int p3, .int p4, .int p5] (fun U => wr_P (dC, dI) vwCl [(q, .inr (1, [.ref wd, .ref us, .ref la, .ref nx]))] [] sz U ∧ ex_E (fun _ => False) U U.heap)) (va_Qi (fun (r9 : Int32) (_ : Unit) => r9 = 1) (wr_B (dC, dI) vwCl [(q, .inr (1, [.ref wd, .ref us, .ref la, .ref nx]))] [] (va_A [(q, .inr (1, [.ref wd, .ref us, .ref la, .ref nx]))] sz)) (va_A [(q, .inr (1, [.ref wd, .ref us, .ref la, .ref nx]))] sz)) 1 6 (va_A [(q, .inr (1, [.ref wd, .ref us, .ref la, .ref nx]))] sz) := by
  refine va_MetW (cc := cL_picture) (maxL := 8) (ret := some .int) (by decide) rfl ?_
  intro p e s m args below meth c s₁ B hml hv
  obtain ⟨rfl, ⟨hsz, hP, hK, hD0⟩, hV⟩ := hv
  have hx := B.exec
  have hb := B.bytes
  have hr := B.returns
  have hts := atoms_spec (ws := wsL_picture) B.pre
  have hown : s.vm.findClass "TextureUnitsLaw" = some m.cls := findClass_of_methodNamed B.named
  have hlocks := B.notSynchronized
  have hTab := vx_table (x := yL_picture) B (hts _ List.mem_cons_self)
  subst hsz
  have hD := hD0.self (sz := s.heap.size)
  generalize hAe : va_A [(q, .inr (1, [.ref wd, .ref us, .ref la, .ref nx]))] s.heap.size = A at hD ⊢
  have hA : ∀ q : Nat, s.heap.size ≤ q → A q := fun q h => by rw [← hAe]; exact Or.inr h
  have hS : va_S A s.heap s.heap [] := va_S.rf
  have hP : va_P (dC, dI) vwCl [(q, .inr (1, [.ref wd, .ref us, .ref la, .ref nx]))] s.heap := hP
  have hl := lv_entry ([.ref q, .int p0, .int p1, .int p2, .int p3, .int p4, .int p5]) (n := 8) (Nat.le_of_ble_eq_true rfl)
  rw [lg_entry_eq]
  generalize (lg_sl ([.ref q, .int p0, .int p1, .int p2, .int p3, .int p4, .int p5]) ++ List.replicate (8 - (lg_sl ([.ref q, .int p0, .int p1, .int p2, .int p3, .int p4, .int p5])).length) Slot.unset).toArray = ls at hl ⊢
  have hl : lv_has ls 8 [(0, .ref q), (1, .int p0), (2, .int p1), (3, .int p2), (4, .int p3), (5, .int p4), (6, .int p5)] := hl
  refine lv_aload_n hx hb dL_picture_0 rfl (lv_at hl 0 rfl) ?_
  refine lv_iload_n hx hb dL_picture_1 rfl (lv_at hl 1 rfl) ?_
  refine lv_iload_n hx hb dL_picture_2 rfl (lv_at hl 2 rfl) ?_
  refine lv_iload_n hx hb dL_picture_3 rfl (lv_at hl 3 rfl) ?_
  refine lv_iload hx hb dL_picture_4 (lv_at hl 4 rfl) ?_
  refine lv_iload hx hb dL_picture_6 (lv_at hl 5 rfl) ?_
  refine lv_iload hx hb dL_picture_8 (lv_at hl 6 rfl) ?_
  refine tx_call (vx_runV (As := [.int p0, .int p1, .int p2, .int p3, .int p4, .int p5]) (rest := []) ⟨hx, hb, hml, hown, hts⟩ (x_picture l hst dC dI q wd us la nx p0 p1 p2 p3 p4 p5 h0) (cwV 6 hts (tg_V tw_170 tw_171 tw_172 tw_1 tw_173) rfl rfl rfl (by decide +kernel) ⟨Nat.le_of_ble_eq_true rfl, Nat.le_of_ble_eq_true rfl⟩) ⟨tx_blind, va_recv hK hP (ci := 1) (q0 := 0) rfl rfl, fun U hU hW => ⟨rfl, tx_use (hP.sub [0] rfl) (hK.sub [] rfl) hV U hU hW⟩⟩ rfl rfl hl.1 rfl (lv_room (Nat.le_of_ble_eq_true rfl)) dL_picture_10 ⟨Nat.le_of_ble_eq_true rfl, Nat.le_of_ble_eq_true rfl⟩) (fun H1 q1 ce h1 h2 h3 h4 h5 => ?_)
  refine vx_catch (own := "TextureUnitsLaw") (name := ex_S) (E := ex_S) hown [] ⟨0, 13, 16, 19⟩ [⟨0, 13, 20, 21⟩] (by rw [hTab]; rfl) (fun z hz => nomatch hz) (by decide) (by decide) (hts _ (tw_c tw_168)) (hV.1.use (w := .castable ex_S ex_S) (by decide +kernel)) h3 h4 h5 ?_
  have hP : va_P (dC, dI) vwCl [(q, .inr (1, [.ref wd, .ref us, .ref la, .ref nx]))] H1 := hP.kept (fun k q hk => h2 _ (hP k q hk).lt)
  have hS : va_S A s.heap H1 [] := ⟨h1, fun q hq _ => h2 q hq, fun _ h => by cases h⟩
  generalize H1 = H at hP hS ⊢
  refine lv_astore (lv' := [(7, .ref q1), (0, .ref q), (1, .int p0), (2, .int p1), (3, .int p2), (4, .int p3), (5, .int p4), (6, .int p5)]) hx hb dL_picture_16 hl (by decide) rfl (fun ls hl => ?_)
  refine lv_iconst (v := 1) hx hb dL_picture_18 (by decide) ?_
  have hP9 : va_P (dC, dI) vwCl [(q, .inr (1, [.ref wd, .ref us, .ref la, .ref nx]))] H := hP.sub [0] rfl
  have hD9 : va_D A [(q, .inr (1, [.ref wd, .ref us, .ref la, .ref nx]))] := hD.sub [0] (by decide) rfl
  have hK9 : va_K (dC, dI) vwCl [] s := hK.sub [] rfl
  refine W.widen (k := 1) (n := 6) (by omega) (by omega) ?_
  exact W.iret (v := 1) hx hb hr (fun t ht hW => ⟨⟨1, (), rfl, rfl, by rw [ht]; exact hP9, va_K.moved hW.alike hK9, hD9⟩, hS.F ht⟩) hS.2.2 dL_picture_19
set_option maxHeartbeats 4000000 in
set_option maxRecDepth 100000 in
theorem k_picture2 (l : Launch) (dC : Nat → ClassId) (dI : Nat → Nat → Nat) (q wd us la nx : Nat) (cU : ClassId) (g : Nat → Option Nat) (u : Nat) (p0 p1 p2 p3 p4 p5 : Int32) (sz : Nat) (hst : l.stackTraces = false) (h0 : ¬ tu_win p0 0 3 = 0) (hg : g p0.toNatClampNeg = some u) (hn : ¬ (0 ≤ p1 ∧ ¬ tu_win p2 0 10 = 0 ∧ ¬ tu_win p3 0 10 = 0 ∧ ¬ tu_win p4 1 11 = 0 ∧ ¬ tu_win p5 0 7 = 0)) : Met l yL_picture wsL_picture ({ frames := 7, cells := 1, slots := 6, locals := 109 }) (va_Pc [.ref q, .int p0, .int p1, .int p2, .int p3, .int p4, .int p5] (fun U => wr_P (dC, dI) vwCl [(q, .inr (1, [.ref wd, .ref us, .ref la, .ref nx])), (us, .inl (cU, 4, .inr (.inr (.inr (.inr g)))))] [(cU, .object "TextureUnits$Unit")] sz U ∧ ex_E (fun _ => False) U U.heap)) (va_Qi (fun (r9 : Int32) (_ : Unit) => r9 = 2) (wr_B (dC, dI) vwCl [(q, .inr (1, [.ref wd, .ref us, .ref la, .ref nx])), (us, .inl (cU, 4, .inr (.inr (.inr (.inr g)))))] [(cU, .object "TextureUnits$Unit")] (va_A [(q, .inr (1, [.ref wd, .ref us, .ref la, .ref nx])), (us, .inl (cU, 4, .inr (.inr (.inr (.inr g)))))] sz)) (va_A [(q, .inr (1, [.ref wd, .ref us, .ref la, .ref nx])), (us, .inl (cU, 4, .inr (.inr (.inr (.inr g)))))] sz)) 1 6 (va_A [(q, .inr (1, [.ref wd, .ref us, .ref la, .ref nx])), (us, .inl (cU, 4, .inr (.inr (.inr (.inr g)))))] sz) := by
  refine va_MetW (cc := cL_picture) (maxL := 8) (ret := some .int) (by decide) rfl ?_
  intro p e s m args below meth c s₁ B hml hv
  obtain ⟨rfl, ⟨hsz, hP, hK, hD0⟩, hV⟩ := hv
  have hx := B.exec
  have hb := B.bytes
  have hr := B.returns
  have hts := atoms_spec (ws := wsL_picture) B.pre
  have hown : s.vm.findClass "TextureUnitsLaw" = some m.cls := findClass_of_methodNamed B.named
  have hlocks := B.notSynchronized
  have hTab := vx_table (x := yL_picture) B (hts _ List.mem_cons_self)
  subst hsz
  have hD := hD0.self (sz := s.heap.size)
  generalize hAe : va_A [(q, .inr (1, [.ref wd, .ref us, .ref la, .ref nx])), (us, .inl (cU, 4, .inr (.inr (.inr (.inr g)))))] s.heap.size = A at hD ⊢
  have hA : ∀ q : Nat, s.heap.size ≤ q → A q := fun q h => by rw [← hAe]; exact Or.inr h
  have hS : va_S A s.heap s.heap [] := va_S.rf
  have hP : va_P (dC, dI) vwCl [(q, .inr (1, [.ref wd, .ref us, .ref la, .ref nx])), (us, .inl (cU, 4, .inr (.inr (.inr (.inr g)))))] s.heap := hP
  have hl := lv_entry ([.ref q, .int p0, .int p1, .int p2, .int p3, .int p4, .int p5]) (n := 8) (Nat.le_of_ble_eq_true rfl)
  rw [lg_entry_eq]
  generalize (lg_sl ([.ref q, .int p0, .int p1, .int p2, .int p3, .int p4, .int p5]) ++ List.replicate (8 - (lg_sl ([.ref q, .int p0, .int p1, .int p2, .int p3, .int p4, .int p5])).length) Slot.unset).toArray = ls at hl ⊢
  have hl : lv_has ls 8 [(0, .ref q), (1, .int p0), (2, .int p1), (3, .int p2), (4, .int p3), (5, .int p4), (6, .int p5)] := hl
  refine lv_aload_n hx hb dL_picture_0 rfl (lv_at hl 0 rfl) ?_
  refine lv_iload_n hx hb dL_picture_1 rfl (lv_at hl 1 rfl) ?_
  refine lv_iload_n hx hb dL_picture_2 rfl (lv_at hl 2 rfl) ?_
  refine lv_iload_n hx hb dL_picture_3 rfl (lv_at hl 3 rfl) ?_
  refine lv_iload hx hb dL_picture_4 (lv_at hl 4 rfl) ?_
  refine lv_iload hx hb dL_picture_6 (lv_at hl 5 rfl) ?_
  refine lv_iload hx hb dL_picture_8 (lv_at hl 6 rfl) ?_
  refine tx_call (vx_runV (As := [.int p0, .int p1, .int p2, .int p3, .int p4, .int p5]) (rest := []) ⟨hx, hb, hml, hown, hts⟩ (y_picture l hst dC dI q wd us la nx cU g u p0 p1 p2 p3 p4 p5 h0 hg hn) (cwV 6 hts (tg_V tw_170 tw_171 tw_172 tw_1 tw_173) rfl rfl rfl (by decide +kernel) ⟨Nat.le_of_ble_eq_true rfl, Nat.le_of_ble_eq_true rfl⟩) ⟨tx_blind, va_recv hK hP (ci := 1) (q0 := 0) rfl rfl, fun U hU hW => ⟨rfl, tx_use (hP.sub [0, 1] rfl) (hK.sub [0] rfl) hV U hU hW⟩⟩ rfl rfl hl.1 rfl (lv_room (Nat.le_of_ble_eq_true rfl)) dL_picture_10 ⟨Nat.le_of_ble_eq_true rfl, Nat.le_of_ble_eq_true rfl⟩) (fun H1 q1 ce h1 h2 h3 h4 h5 => ?_)
  refine vx_catch (own := "TextureUnitsLaw") (name := ex_A) (E := ex_A) hown [⟨0, 13, 16, 19⟩] ⟨0, 13, 20, 21⟩ [] (by rw [hTab]; rfl) (fun z hz => by
        rcases List.mem_cons.mp hz with rfl | hz
        · exact Or.inr ⟨by decide, ex_S, (hts _ (tw_c tw_168)), hV.2.2.1.1⟩
        · cases hz) (by decide) (by decide) (hts _ (tw_c tw_169)) (hV.1.use (w := .castable ex_A ex_A) (by decide +kernel)) h3 h4 h5 ?_
  have hP : va_P (dC, dI) vwCl [(q, .inr (1, [.ref wd, .ref us, .ref la, .ref nx])), (us, .inl (cU, 4, .inr (.inr (.inr (.inr g)))))] H1 := hP.kept (fun k q hk => h2 _ (hP k q hk).lt)
  have hS : va_S A s.heap H1 [] := ⟨h1, fun q hq _ => h2 q hq, fun _ h => by cases h⟩
  generalize H1 = H at hP hS ⊢
  refine lv_astore (lv' := [(7, .ref q1), (0, .ref q), (1, .int p0), (2, .int p1), (3, .int p2), (4, .int p3), (5, .int p4), (6, .int p5)]) hx hb dL_picture_20 hl (by decide) rfl (fun ls hl => ?_)
  refine lv_iconst (v := 2) hx hb dL_picture_22 (by decide) ?_
  have hP9 : va_P (dC, dI) vwCl [(q, .inr (1, [.ref wd, .ref us, .ref la, .ref nx])), (us, .inl (cU, 4, .inr (.inr (.inr (.inr g)))))] H := hP.sub [0, 1] rfl
  have hD9 : va_D A [(q, .inr (1, [.ref wd, .ref us, .ref la, .ref nx])), (us, .inl (cU, 4, .inr (.inr (.inr (.inr g)))))] := hD.sub [0, 1] (by decide) rfl
  have hK9 : va_K (dC, dI) vwCl [(cU, .object "TextureUnits$Unit")] s := hK.sub [0] rfl
  refine W.widen (k := 1) (n := 6) (by omega) (by omega) ?_
  exact W.iret (v := 2) hx hb hr (fun t ht hW => ⟨⟨2, (), rfl, rfl, by rw [ht]; exact hP9, va_K.moved hW.alike hK9, hD9⟩, hS.F ht⟩) hS.2.2 dL_picture_23
set_option maxHeartbeats 4000000 in
set_option maxRecDepth 100000 in
theorem k_manner0 (l : Launch) (dC : Nat → ClassId) (dI : Nat → Nat → Nat) (q wd us la nx : Nat) (cU : ClassId) (g : Nat → Option Nat) (u : Nat) (fr fo lw lh lv ac dn fi : Int32) (bc st : Nat) (p0 p1 p2 p3 : Int32) (sz : Nat) (h0 : ¬ tu_win p0 0 3 = 0) (hg : g p0.toNatClampNeg = some u) (hv : ¬ tu_win p1 0 3 = 0 ∧ ¬ tu_win p2 0 3 = 0 ∧ ¬ tu_win p3 0 3 = 0) : Met l yL_manner wsL_manner ({ frames := 3, cells := 0, slots := 0, locals := 68 }) (va_Pc [.ref q, .int p0, .int p1, .int p2, .int p3] (wr_P (dC, dI) vwCl [(q, .inr (1, [.ref wd, .ref us, .ref la, .ref nx])), (us, .inl (cU, 4, .inr (.inr (.inr (.inr g))))), (u, .inr (0, [.int fr, .int fo, .int lw, .int lh, .int lv, .int ac, .int dn, .int fi, .ref bc, .ref st]))] [(cU, .object "TextureUnits$Unit")] sz)) (va_Qi (fun (r9 : Int32) (_ : Unit) => r9 = 0) (wr_B (dC, dI) vwCl [(q, .inr (1, [.ref wd, .ref us, .ref la, .ref nx])), (us, .inl (cU, 4, .inr (.inr (.inr (.inr g))))), (u, .inr (0, [.int fr, .int fo, .int lw, .int lh, .int lv, .int p1, .int p2, .int p3, .ref bc, .ref st]))] [(cU, .object "TextureUnits$Unit")] (va_A [(q, .inr (1, [.ref wd, .ref us, .ref la, .ref nx])), (us, .inl (cU, 4, .inr (.inr (.inr (.inr g))))), (u, .inr (0, [.int fr, .int fo, .int lw, .int lh, .int lv, .int ac, .int dn, .int fi, .ref bc, .ref st]))] sz)) (va_A [(q, .inr (1, [.ref wd, .ref us, .ref la, .ref nx])), (us, .inl (cU, 4, .inr (.inr (.inr (.inr g))))), (u, .inr (0, [.int fr, .int fo, .int lw, .int lh, .int lv, .int ac, .int dn, .int fi, .ref bc, .ref st]))] sz)) 0 0 (va_A [(q, .inr (1, [.ref wd, .ref us, .ref la, .ref nx])), (us, .inl (cU, 4, .inr (.inr (.inr (.inr g))))), (u, .inr (0, [.int fr, .int fo, .int lw, .int lh, .int lv, .int ac, .int dn, .int fi, .ref bc, .ref st]))] sz) := by
  refine va_MetW (cc := cL_manner) (maxL := 6) (ret := some .int) (by decide) rfl ?_
  intro p e s m args below meth c s₁ B hml hv
  obtain ⟨rfl, hsz, hP, hK, hD0⟩ := hv
  have hx := B.exec
  have hb := B.bytes
  have hr := B.returns
  have hts := atoms_spec (ws := wsL_manner) B.pre
  have hown : s.vm.findClass "TextureUnitsLaw" = some m.cls := findClass_of_methodNamed B.named
  have hlocks := B.notSynchronized
  have hTab := vx_table (x := yL_manner) B (hts _ List.mem_cons_self)
  subst hsz
  have hD := hD0.self (sz := s.heap.size)
  generalize hAe : va_A [(q, .inr (1, [.ref wd, .ref us, .ref la, .ref nx])), (us, .inl (cU, 4, .inr (.inr (.inr (.inr g))))), (u, .inr (0, [.int fr, .int fo, .int lw, .int lh, .int lv, .int ac, .int dn, .int fi, .ref bc, .ref st]))] s.heap.size = A at hD ⊢
  have hA : ∀ q : Nat, s.heap.size ≤ q → A q := fun q h => by rw [← hAe]; exact Or.inr h
  have hS : va_S A s.heap s.heap [] := va_S.rf
  have hP : va_P (dC, dI) vwCl [(q, .inr (1, [.ref wd, .ref us, .ref la, .ref nx])), (us, .inl (cU, 4, .inr (.inr (.inr (.inr g))))), (u, .inr (0, [.int fr, .int fo, .int lw, .int lh, .int lv, .int ac, .int dn, .int fi, .ref bc, .ref st]))] s.heap := hP
  have hl := lv_entry ([.ref q, .int p0, .int p1, .int p2, .int p3]) (n := 6) (Nat.le_of_ble_eq_true rfl)
  rw [lg_entry_eq]
  generalize (lg_sl ([.ref q, .int p0, .int p1, .int p2, .int p3]) ++ List.replicate (6 - (lg_sl ([.ref q, .int p0, .int p1, .int p2, .int p3])).length) Slot.unset).toArray = ls at hl ⊢
  have hl : lv_has ls 6 [(0, .ref q), (1, .int p0), (2, .int p1), (3, .int p2), (4, .int p3)] := hl
  refine lv_aload_n hx hb dL_manner_0 rfl (lv_at hl 0 rfl) ?_
  refine lv_iload_n hx hb dL_manner_1 rfl (lv_at hl 1 rfl) ?_
  refine lv_iload_n hx hb dL_manner_2 rfl (lv_at hl 2 rfl) ?_
  refine lv_iload_n hx hb dL_manner_3 rfl (lv_at hl 3 rfl) ?_
  refine lv_iload hx hb dL_manner_4 (lv_at hl 4 rfl) ?_
  have hPc := hP.sub (ws' := [(q, .inr (1, [.ref wd, .ref us, .ref la, .ref nx])), (us, .inl (cU, 4, .inr (.inr (.inr (.inr g))))), (u, .inr (0, [.int fr, .int fo, .int lw, .int lh, .int lv, .int ac, .int dn, .int fi, .ref bc, .ref st]))]) [0, 1, 2] rfl
  have hDc := hD.sub (ws' := [(q, .inr (1, [.ref wd, .ref us, .ref la, .ref nx])), (us, .inl (cU, 4, .inr (.inr (.inr (.inr g))))), (u, .inr (0, [.int fr, .int fo, .int lw, .int lh, .int lv, .int ac, .int dn, .int fi, .ref bc, .ref st]))]) [0, 1, 2] (by decide) rfl
  have hFc := va_free (wc := [(q, .inr (1, [.ref wd, .ref us, .ref la, .ref nx])), (us, .inl (cU, 4, .inr (.inr (.inr (.inr g))))), (u, .inr (0, [.int fr, .int fo, .int lw, .int lh, .int lv, .int ac, .int dn, .int fi, .ref bc, .ref st]))]) hD hS hA [0, 1, 2] rfl
  refine va_callv (va_runV (As := [.int p0, .int p1, .int p2, .int p3]) (rest := []) ⟨hx, hb, hml, hown, hts⟩ (w_manner l dC dI q wd us la nx cU g u fr fo lw lh lv ac dn fi bc st p0 p1 p2 p3 s.heap.size h0 hg hv) (cwV 4 hts (tg_V tw_217 tw_218 tw_219 tw_1 tw_220) rfl rfl rfl (by decide +kernel) ⟨Nat.le_of_ble_eq_true rfl, Nat.le_of_ble_eq_true rfl⟩) ⟨wr_blind, va_recv hK hP (ci := 1) (q0 := 0) rfl rfl, fun U hU hW => ⟨rfl, wr_use hPc (hK.sub [0] rfl) hDc U hU hW⟩⟩ rfl rfl hl.1 rfl (lv_room (Nat.le_of_ble_eq_true rfl)) dL_manner_6 ⟨Nat.le_of_ble_eq_true rfl, Nat.le_of_ble_eq_true rfl⟩) hS (fun q _ h => hFc q h) hFc (fun u9 t9 H1 locs ht hvm hw hB hz1 hk1 hS => ?_)
  obtain ⟨hP1, hK1, hD1⟩ := hB
  rw [ht] at hP1
  obtain ⟨hP, hD⟩ := va_join (wr := []) (w1 := [(q, .inr (1, [.ref wd, .ref us, .ref la, .ref nx])), (us, .inl (cU, 4, .inr (.inr (.inr (.inr g))))), (u, .inr (0, [.int fr, .int fo, .int lw, .int lh, .int lv, .int p1, .int p2, .int p3, .ref bc, .ref st]))]) hP hD [0, 1, 2] [] rfl rfl (by decide) (by decide) hk1 hFc hP1 hD1
  have hP := hP.sub (ws' := [(q, .inr (1, [.ref wd, .ref us, .ref la, .ref nx])), (us, .inl (cU, 4, .inr (.inr (.inr (.inr g))))), (u, .inr (0, [.int fr, .int fo, .int lw, .int lh, .int lv, .int p1, .int p2, .int p3, .ref bc, .ref st]))]) [0, 1, 2] rfl
  have hD := hD.sub (ws' := [(q, .inr (1, [.ref wd, .ref us, .ref la, .ref nx])), (us, .inl (cU, 4, .inr (.inr (.inr (.inr g))))), (u, .inr (0, [.int fr, .int fo, .int lw, .int lh, .int lv, .int p1, .int p2, .int p3, .ref bc, .ref st]))]) [0, 1, 2] (by decide) rfl
  clear hPc hDc hFc hP1 hK1 hD1 hk1 hz1
  generalize H1 = H at hP hS ⊢
  refine lv_goto (tgt := 20) hx hb dL_manner_9 (by decide) ?_
  refine lv_iconst (v := 0) hx hb dL_manner_20 (by decide) ?_
  have hP9 : va_P (dC, dI) vwCl [(q, .inr (1, [.ref wd, .ref us, .ref la, .ref nx])), (us, .inl (cU, 4, .inr (.inr (.inr (.inr g))))), (u, .inr (0, [.int fr, .int fo, .int lw, .int lh, .int lv, .int p1, .int p2, .int p3, .ref bc, .ref st]))] H := hP.sub [0, 1, 2] rfl
  have hD9 : va_D A [(q, .inr (1, [.ref wd, .ref us, .ref la, .ref nx])), (us, .inl (cU, 4, .inr (.inr (.inr (.inr g))))), (u, .inr (0, [.int fr, .int fo, .int lw, .int lh, .int lv, .int p1, .int p2, .int p3, .ref bc, .ref st]))] := hD.sub [0, 1, 2] (by decide) rfl
  have hK9 : va_K (dC, dI) vwCl [(cU, .object "TextureUnits$Unit")] s := hK.sub [0] rfl
  exact W.iret (v := 0) hx hb hr (fun t ht hW => ⟨⟨0, (), rfl, rfl, by rw [ht]; exact hP9, va_K.moved hW.alike hK9, hD9⟩, hS.F ht⟩) hS.2.2 dL_manner_21
set_option maxHeartbeats 4000000 in
set_option maxRecDepth 100000 in
theorem k_manner1 (l : Launch) (dC : Nat → ClassId) (dI : Nat → Nat → Nat) (q wd us la nx : Nat) (p0 p1 p2 p3 : Int32) (sz : Nat) (hst : l.stackTraces = false) (h0 : tu_win p0 0 3 = 0) : Met l yL_manner wsL_manner ({ frames := 8, cells := 1, slots := 6, locals := 128 }) (va_Pc [.ref q, .int p0, .int p1, .int p2, .int p3] (fun U => wr_P (dC, dI) vwCl [(q, .inr (1, [.ref wd, .ref us, .ref la, .ref nx]))] [] sz U ∧ ex_E (fun _ => False) U U.heap)) (va_Qi (fun (r9 : Int32) (_ : Unit) => r9 = 1) (wr_B (dC, dI) vwCl [(q, .inr (1, [.ref wd, .ref us, .ref la, .ref nx]))] [] (va_A [(q, .inr (1, [.ref wd, .ref us, .ref la, .ref nx]))] sz)) (va_A [(q, .inr (1, [.ref wd, .ref us, .ref la, .ref nx]))] sz)) 1 6 (va_A [(q, .inr (1, [.ref wd, .ref us, .ref la, .ref nx]))] sz) := by
  refine va_MetW (cc := cL_manner) (maxL := 6) (ret := some .int) (by decide) rfl ?_
  intro p e s m args below meth c s₁ B hml hv
  obtain ⟨rfl, ⟨hsz, hP, hK, hD0⟩, hV⟩ := hv
  have hx := B.exec
  have hb := B.bytes
  have hr := B.returns
  have hts := atoms_spec (ws := wsL_manner) B.pre
  have hown : s.vm.findClass "TextureUnitsLaw" = some m.cls := findClass_of_methodNamed B.named
  have hlocks := B.notSynchronized
  have hTab := vx_table (x := yL_manner) B (hts _ List.mem_cons_self)
  subst hsz
  have hD := hD0.self (sz := s.heap.size)
  generalize hAe : va_A [(q, .inr (1, [.ref wd, .ref us, .ref la, .ref nx]))] s.heap.size = A at hD ⊢
  have hA : ∀ q : Nat, s.heap.size ≤ q → A q := fun q h => by rw [← hAe]; exact Or.inr h
  have hS : va_S A s.heap s.heap [] := va_S.rf
  have hP : va_P (dC, dI) vwCl [(q, .inr (1, [.ref wd, .ref us, .ref la, .ref nx]))] s.heap := hP
  have hl := lv_entry ([.ref q, .int p0, .int p1, .int p2, .int p3]) (n := 6) (Nat.le_of_ble_eq_true rfl)
  rw [lg_entry_eq]
  generalize (lg_sl ([.ref q, .int p0, .int p1, .int p2, .int p3]) ++ List.replicate (6 - (lg_sl ([.ref q, .int p0, .int p1, .int p2, .int p3])).length) Slot.unset).toArray = ls at hl ⊢
  have hl : lv_has ls 6 [(0, .ref q), (1, .int p0), (2, .int p1), (3, .int p2), (4, .int p3)] := hl
  refine lv_aload_n hx hb dL_manner_0 rfl (lv_at hl 0 rfl) ?_
  refine lv_iload_n hx hb dL_manner_1 rfl (lv_at hl 1 rfl) ?_
  refine lv_iload_n hx hb dL_manner_2 rfl (lv_at hl 2 rfl) ?_
  refine lv_iload_n hx hb dL_manner_3 rfl (lv_at hl 3 rfl) ?_
  refine lv_iload hx hb dL_manner_4 (lv_at hl 4 rfl) ?_
  refine tx_call (vx_runV (As := [.int p0, .int p1, .int p2, .int p3]) (rest := []) ⟨hx, hb, hml, hown, hts⟩ (x_manner l hst dC dI q wd us la nx p0 p1 p2 p3 h0) (cwV 4 hts (tg_V tw_217 tw_218 tw_219 tw_1 tw_220) rfl rfl rfl (by decide +kernel) ⟨Nat.le_of_ble_eq_true rfl, Nat.le_of_ble_eq_true rfl⟩) ⟨tx_blind, va_recv hK hP (ci := 1) (q0 := 0) rfl rfl, fun U hU hW => ⟨rfl, tx_use (hP.sub [0] rfl) (hK.sub [] rfl) hV U hU hW⟩⟩ rfl rfl hl.1 rfl (lv_room (Nat.le_of_ble_eq_true rfl)) dL_manner_6 ⟨Nat.le_of_ble_eq_true rfl, Nat.le_of_ble_eq_true rfl⟩) (fun H1 q1 ce h1 h2 h3 h4 h5 => ?_)
  refine vx_catch (own := "TextureUnitsLaw") (name := ex_S) (E := ex_S) hown [] ⟨0, 9, 12, 19⟩ [⟨0, 9, 16, 21⟩] (by rw [hTab]; rfl) (fun z hz => nomatch hz) (by decide) (by decide) (hts _ (tw_c tw_168)) (hV.1.use (w := .castable ex_S ex_S) (by decide +kernel)) h3 h4 h5 ?_
  have hP : va_P (dC, dI) vwCl [(q, .inr (1, [.ref wd, .ref us, .ref la, .ref nx]))] H1 := hP.kept (fun k q hk => h2 _ (hP k q hk).lt)
  have hS : va_S A s.heap H1 [] := ⟨h1, fun q hq _ => h2 q hq, fun _ h => by cases h⟩
  generalize H1 = H at hP hS ⊢
  refine lv_astore (lv' := [(5, .ref q1), (0, .ref q), (1, .int p0), (2, .int p1), (3, .int p2), (4, .int p3)]) hx hb dL_manner_12 hl (by decide) rfl (fun ls hl => ?_)
  refine lv_iconst (v := 1) hx hb dL_manner_14 (by decide) ?_
  have hP9 : va_P (dC, dI) vwCl [(q, .inr (1, [.ref wd, .ref us, .ref la, .ref nx]))] H := hP.sub [0] rfl
  have hD9 : va_D A [(q, .inr (1, [.ref wd, .ref us, .ref la, .ref nx]))] := hD.sub [0] (by decide) rfl
  have hK9 : va_K (dC, dI) vwCl [] s := hK.sub [] rfl
  refine W.widen (k := 1) (n := 6) (by omega) (by omega) ?_
  exact W.iret (v := 1) hx hb hr (fun t ht hW => ⟨⟨1, (), rfl, rfl, by rw [ht]; exact hP9, va_K.moved hW.alike hK9, hD9⟩, hS.F ht⟩) hS.2.2 dL_manner_15
set_option maxHeartbeats 4000000 in
set_option maxRecDepth 100000 in
theorem k_manner2 (l : Launch) (dC : Nat → ClassId) (dI : Nat → Nat → Nat) (q wd us la nx : Nat) (cU : ClassId) (g : Nat → Option Nat) (u : Nat) (p0 p1 p2 p3 : Int32) (sz : Nat) (hst : l.stackTraces = false) (h0 : ¬ tu_win p0 0 3 = 0) (hg : g p0.toNatClampNeg = some u) (hn : ¬ (¬ tu_win p1 0 3 = 0 ∧ ¬ tu_win p2 0 3 = 0 ∧ ¬ tu_win p3 0 3 = 0)) : Met l yL_manner wsL_manner ({ frames := 7, cells := 1, slots := 6, locals := 107 }) (va_Pc [.ref q, .int p0, .int p1, .int p2, .int p3] (fun U => wr_P (dC, dI) vwCl [(q, .inr (1, [.ref wd, .ref us, .ref la, .ref nx])), (us, .inl (cU, 4, .inr (.inr (.inr (.inr g)))))] [(cU, .object "TextureUnits$Unit")] sz U ∧ ex_E (fun _ => False) U U.heap)) (va_Qi (fun (r9 : Int32) (_ : Unit) => r9 = 2) (wr_B (dC, dI) vwCl [(q, .inr (1, [.ref wd, .ref us, .ref la, .ref nx])), (us, .inl (cU, 4, .inr (.inr (.inr (.inr g)))))] [(cU, .object "TextureUnits$Unit")] (va_A [(q, .inr (1, [.ref wd, .ref us, .ref la, .ref nx])), (us, .inl (cU, 4, .inr (.inr (.inr (.inr g)))))] sz)) (va_A [(q, .inr (1, [.ref wd, .ref us, .ref la, .ref nx])), (us, .inl (cU, 4, .inr (.inr (.inr (.inr g)))))] sz)) 1 6 (va_A [(q, .inr (1, [.ref wd, .ref us, .ref la, .ref nx])), (us, .inl (cU, 4, .inr (.inr (.inr (.inr g)))))] sz) := by
  refine va_MetW (cc := cL_manner) (maxL := 6) (ret := some .int) (by decide) rfl ?_
  intro p e s m args below meth c s₁ B hml hv
  obtain ⟨rfl, ⟨hsz, hP, hK, hD0⟩, hV⟩ := hv
  have hx := B.exec
  have hb := B.bytes
  have hr := B.returns
  have hts := atoms_spec (ws := wsL_manner) B.pre
  have hown : s.vm.findClass "TextureUnitsLaw" = some m.cls := findClass_of_methodNamed B.named
  have hlocks := B.notSynchronized
  have hTab := vx_table (x := yL_manner) B (hts _ List.mem_cons_self)
  subst hsz
  have hD := hD0.self (sz := s.heap.size)
  generalize hAe : va_A [(q, .inr (1, [.ref wd, .ref us, .ref la, .ref nx])), (us, .inl (cU, 4, .inr (.inr (.inr (.inr g)))))] s.heap.size = A at hD ⊢
  have hA : ∀ q : Nat, s.heap.size ≤ q → A q := fun q h => by rw [← hAe]; exact Or.inr h
  have hS : va_S A s.heap s.heap [] := va_S.rf
  have hP : va_P (dC, dI) vwCl [(q, .inr (1, [.ref wd, .ref us, .ref la, .ref nx])), (us, .inl (cU, 4, .inr (.inr (.inr (.inr g)))))] s.heap := hP
  have hl := lv_entry ([.ref q, .int p0, .int p1, .int p2, .int p3]) (n := 6) (Nat.le_of_ble_eq_true rfl)
  rw [lg_entry_eq]
  generalize (lg_sl ([.ref q, .int p0, .int p1, .int p2, .int p3]) ++ List.replicate (6 - (lg_sl ([.ref q, .int p0, .int p1, .int p2, .int p3])).length) Slot.unset).toArray = ls at hl ⊢
  have hl : lv_has ls 6 [(0, .ref q), (1, .int p0), (2, .int p1), (3, .int p2), (4, .int p3)] := hl
  refine lv_aload_n hx hb dL_manner_0 rfl (lv_at hl 0 rfl) ?_
  refine lv_iload_n hx hb dL_manner_1 rfl (lv_at hl 1 rfl) ?_
  refine lv_iload_n hx hb dL_manner_2 rfl (lv_at hl 2 rfl) ?_
  refine lv_iload_n hx hb dL_manner_3 rfl (lv_at hl 3 rfl) ?_
  refine lv_iload hx hb dL_manner_4 (lv_at hl 4 rfl) ?_
  refine tx_call (vx_runV (As := [.int p0, .int p1, .int p2, .int p3]) (rest := []) ⟨hx, hb, hml, hown, hts⟩ (y_manner l hst dC dI q wd us la nx cU g u p0 p1 p2 p3 h0 hg hn) (cwV 4 hts (tg_V tw_217 tw_218 tw_219 tw_1 tw_220) rfl rfl rfl (by decide +kernel) ⟨Nat.le_of_ble_eq_true rfl, Nat.le_of_ble_eq_true rfl⟩) ⟨tx_blind, va_recv hK hP (ci := 1) (q0 := 0) rfl rfl, fun U hU hW => ⟨rfl, tx_use (hP.sub [0, 1] rfl) (hK.sub [0] rfl) hV U hU hW⟩⟩ rfl rfl hl.1 rfl (lv_room (Nat.le_of_ble_eq_true rfl)) dL_manner_6 ⟨Nat.le_of_ble_eq_true rfl, Nat.le_of_ble_eq_true rfl⟩) (fun H1 q1 ce h1 h2 h3 h4 h5 => ?_)
  refine vx_catch (own := "TextureUnitsLaw") (name := ex_A) (E := ex_A) hown [⟨0, 9, 12, 19⟩] ⟨0, 9, 16, 21⟩ [] (by rw [hTab]; rfl) (fun z hz => by
        rcases List.mem_cons.mp hz with rfl | hz
        · exact Or.inr ⟨by decide, ex_S, (hts _ (tw_c tw_168)), hV.2.2.1.1⟩
        · cases hz) (by decide) (by decide) (hts _ (tw_c tw_169)) (hV.1.use (w := .castable ex_A ex_A) (by decide +kernel)) h3 h4 h5 ?_
  have hP : va_P (dC, dI) vwCl [(q, .inr (1, [.ref wd, .ref us, .ref la, .ref nx])), (us, .inl (cU, 4, .inr (.inr (.inr (.inr g)))))] H1 := hP.kept (fun k q hk => h2 _ (hP k q hk).lt)
  have hS : va_S A s.heap H1 [] := ⟨h1, fun q hq _ => h2 q hq, fun _ h => by cases h⟩
  generalize H1 = H at hP hS ⊢
  refine lv_astore (lv' := [(5, .ref q1), (0, .ref q), (1, .int p0), (2, .int p1), (3, .int p2), (4, .int p3)]) hx hb dL_manner_16 hl (by decide) rfl (fun ls hl => ?_)
  refine lv_iconst (v := 2) hx hb dL_manner_18 (by decide) ?_
  have hP9 : va_P (dC, dI) vwCl [(q, .inr (1, [.ref wd, .ref us, .ref la, .ref nx])), (us, .inl (cU, 4, .inr (.inr (.inr (.inr g)))))] H := hP.sub [0, 1] rfl
  have hD9 : va_D A [(q, .inr (1, [.ref wd, .ref us, .ref la, .ref nx])), (us, .inl (cU, 4, .inr (.inr (.inr (.inr g)))))] := hD.sub [0, 1] (by decide) rfl
  have hK9 : va_K (dC, dI) vwCl [(cU, .object "TextureUnits$Unit")] s := hK.sub [0] rfl
  refine W.widen (k := 1) (n := 6) (by omega) (by omega) ?_
  exact W.iret (v := 2) hx hb hr (fun t ht hW => ⟨⟨2, (), rfl, rfl, by rw [ht]; exact hP9, va_K.moved hW.alike hK9, hD9⟩, hS.F ht⟩) hS.2.2 dL_manner_19
set_option maxHeartbeats 4000000 in
set_option maxRecDepth 100000 in
theorem k_border0 (l : Launch) (dC : Nat → ClassId) (dI : Nat → Nat → Nat) (q wd us la nx : Nat) (cU : ClassId) (g : Nat → Option Nat) (u : Nat) (fr fo lw lh lv ac dn fi : Int32) (bc st : Nat) (cI : ClassId) (bd : Nat → Int32) (p0 p1 p2 p3 p4 : Int32) (sz : Nat) (h0 : ¬ tu_win p0 0 3 = 0) (hg : g p0.toNatClampNeg = some u) : Met l yL_border wsL_border ({ frames := 3, cells := 0, slots := 0, locals := 69 }) (va_Pc [.ref q, .int p0, .int p1, .int p2, .int p3, .int p4] (wr_P (dC, dI) vwCl [(q, .inr (1, [.ref wd, .ref us, .ref la, .ref nx])), (us, .inl (cU, 4, .inr (.inr (.inr (.inr g))))), (u, .inr (0, [.int fr, .int fo, .int lw, .int lh, .int lv, .int ac, .int dn, .int fi, .ref bc, .ref st])), (bc, .inl (cI, 4, .inl bd))] [(cU, .object "TextureUnits$Unit"), (cI, .int)] sz)) (va_Qi (fun (r9 : Int32) (_ : Unit) => r9 = 0) (wr_B (dC, dI) vwCl [(q, .inr (1, [.ref wd, .ref us, .ref la, .ref nx])), (us, .inl (cU, 4, .inr (.inr (.inr (.inr g))))), (u, .inr (0, [.int fr, .int fo, .int lw, .int lh, .int lv, .int ac, .int dn, .int fi, .ref bc, .ref st])), (bc, .inl (cI, 4, .inl (tu_put4 bd p1 p2 p3 p4)))] [(cU, .object "TextureUnits$Unit"), (cI, .int)] (va_A [(q, .inr (1, [.ref wd, .ref us, .ref la, .ref nx])), (us, .inl (cU, 4, .inr (.inr (.inr (.inr g))))), (u, .inr (0, [.int fr, .int fo, .int lw, .int lh, .int lv, .int ac, .int dn, .int fi, .ref bc, .ref st])), (bc, .inl (cI, 4, .inl bd))] sz)) (va_A [(q, .inr (1, [.ref wd, .ref us, .ref la, .ref nx])), (us, .inl (cU, 4, .inr (.inr (.inr (.inr g))))), (u, .inr (0, [.int fr, .int fo, .int lw, .int lh, .int lv, .int ac, .int dn, .int fi, .ref bc, .ref st])), (bc, .inl (cI, 4, .inl bd))] sz)) 0 0 (va_A [(q, .inr (1, [.ref wd, .ref us, .ref la, .ref nx])), (us, .inl (cU, 4, .inr (.inr (.inr (.inr g))))), (u, .inr (0, [.int fr, .int fo, .int lw, .int lh, .int lv, .int ac, .int dn, .int fi, .ref bc, .ref st])), (bc, .inl (cI, 4, .inl bd))] sz) := by
  refine va_MetW (cc := cL_border) (maxL := 7) (ret := some .int) (by decide) rfl ?_
  intro p e s m args below meth c s₁ B hml hv
  obtain ⟨rfl, hsz, hP, hK, hD0⟩ := hv
  have hx := B.exec
  have hb := B.bytes
  have hr := B.returns
  have hts := atoms_spec (ws := wsL_border) B.pre
  have hown : s.vm.findClass "TextureUnitsLaw" = some m.cls := findClass_of_methodNamed B.named
  have hlocks := B.notSynchronized
  have hTab := vx_table (x := yL_border) B (hts _ List.mem_cons_self)
  subst hsz
  have hD := hD0.self (sz := s.heap.size)
  generalize hAe : va_A [(q, .inr (1, [.ref wd, .ref us, .ref la, .ref nx])), (us, .inl (cU, 4, .inr (.inr (.inr (.inr g))))), (u, .inr (0, [.int fr, .int fo, .int lw, .int lh, .int lv, .int ac, .int dn, .int fi, .ref bc, .ref st])), (bc, .inl (cI, 4, .inl bd))] s.heap.size = A at hD ⊢
  have hA : ∀ q : Nat, s.heap.size ≤ q → A q := fun q h => by rw [← hAe]; exact Or.inr h
  have hS : va_S A s.heap s.heap [] := va_S.rf
  have hP : va_P (dC, dI) vwCl [(q, .inr (1, [.ref wd, .ref us, .ref la, .ref nx])), (us, .inl (cU, 4, .inr (.inr (.inr (.inr g))))), (u, .inr (0, [.int fr, .int fo, .int lw, .int lh, .int lv, .int ac, .int dn, .int fi, .ref bc, .ref st])), (bc, .inl (cI, 4, .inl bd))] s.heap := hP
  have hl := lv_entry ([.ref q, .int p0, .int p1, .int p2, .int p3, .int p4]) (n := 7) (Nat.le_of_ble_eq_true rfl)
  rw [lg_entry_eq]
  generalize (lg_sl ([.ref q, .int p0, .int p1, .int p2, .int p3, .int p4]) ++ List.replicate (7 - (lg_sl ([.ref q, .int p0, .int p1, .int p2, .int p3, .int p4])).length) Slot.unset).toArray = ls at hl ⊢
  have hl : lv_has ls 7 [(0, .ref q), (1, .int p0), (2, .int p1), (3, .int p2), (4, .int p3), (5, .int p4)] := hl
  refine lv_aload_n hx hb dL_border_0 rfl (lv_at hl 0 rfl) ?_
  refine lv_iload_n hx hb dL_border_1 rfl (lv_at hl 1 rfl) ?_
  refine lv_iload_n hx hb dL_border_2 rfl (lv_at hl 2 rfl) ?_
  refine lv_iload_n hx hb dL_border_3 rfl (lv_at hl 3 rfl) ?_
  refine lv_iload hx hb dL_border_4 (lv_at hl 4 rfl) ?_
  refine lv_iload hx hb dL_border_6 (lv_at hl 5 rfl) ?_
  have hPc := hP.sub (ws' := [(q, .inr (1, [.ref wd, .ref us, .ref la, .ref nx])), (us, .inl (cU, 4, .inr (.inr (.inr (.inr g))))), (u, .inr (0, [.int fr, .int fo, .int lw, .int lh, .int lv, .int ac, .int dn, .int fi, .ref bc, .ref st])), (bc, .inl (cI, 4, .inl bd))]) [0, 1, 2, 3] rfl
  have hDc := hD.sub (ws' := [(q, .inr (1, [.ref wd, .ref us, .ref la, .ref nx])), (us, .inl (cU, 4, .inr (.inr (.inr (.inr g))))), (u, .inr (0, [.int fr, .int fo, .int lw, .int lh, .int lv, .int ac, .int dn, .int fi, .ref bc, .ref st])), (bc, .inl (cI, 4, .inl bd))]) [0, 1, 2, 3] (by decide) rfl
  have hFc := va_free (wc := [(q, .inr (1, [.ref wd, .ref us, .ref la, .ref nx])), (us, .inl (cU, 4, .inr (.inr (.inr (.inr g))))), (u, .inr (0, [.int fr, .int fo, .int lw, .int lh, .int lv, .int ac, .int dn, .int fi, .ref bc, .ref st])), (bc, .inl (cI, 4, .inl bd))]) hD hS hA [0, 1, 2, 3] rfl
  refine va_callv (va_runV (As := [.int p0, .int p1, .int p2, .int p3, .int p4]) (rest := []) ⟨hx, hb, hml, hown, hts⟩ (w_border l dC dI q wd us la nx cU g u fr fo lw lh lv ac dn fi bc st cI bd p0 p1 p2 p3 p4 s.heap.size h0 hg) (cwV 5 hts (tg_V tw_226 tw_227 tw_228 tw_1 tw_229) rfl rfl rfl (by decide +kernel) ⟨Nat.le_of_ble_eq_true rfl, Nat.le_of_ble_eq_true rfl⟩) ⟨wr_blind, va_recv hK hP (ci := 1) (q0 := 0) rfl rfl, fun U hU hW => ⟨rfl, wr_use hPc (hK.sub [0, 1] rfl) hDc U hU hW⟩⟩ rfl rfl hl.1 rfl (lv_room (Nat.le_of_ble_eq_true rfl)) dL_border_8 ⟨Nat.le_of_ble_eq_true rfl, Nat.le_of_ble_eq_true rfl⟩) hS (fun q _ h => hFc q h) hFc (fun u9 t9 H1 locs ht hvm hw hB hz1 hk1 hS => ?_)
  obtain ⟨hP1, hK1, hD1⟩ := hB
  rw [ht] at hP1
  obtain ⟨hP, hD⟩ := va_join (wr := []) (w1 := [(q, .inr (1, [.ref wd, .ref us, .ref la, .ref nx])), (us, .inl (cU, 4, .inr (.inr (.inr (.inr g))))), (u, .inr (0, [.int fr, .int fo, .int lw, .int lh, .int lv, .int ac, .int dn, .int fi, .ref bc, .ref st])), (bc, .inl (cI, 4, .inl (tu_put4 bd p1 p2 p3 p4)))]) hP hD [0, 1, 2, 3] [] rfl rfl (by decide) (by decide) hk1 hFc hP1 hD1
  have hP := hP.sub (ws' := [(q, .inr (1, [.ref wd, .ref us, .ref la, .ref nx])), (us, .inl (cU, 4, .inr (.inr (.inr (.inr g))))), (u, .inr (0, [.int fr, .int fo, .int lw, .int lh, .int lv, .int ac, .int dn, .int fi, .ref bc, .ref st])), (bc, .inl (cI, 4, .inl (tu_put4 bd p1 p2 p3 p4)))]) [0, 1, 2, 3] rfl
  have hD := hD.sub (ws' := [(q, .inr (1, [.ref wd, .ref us, .ref la, .ref nx])), (us, .inl (cU, 4, .inr (.inr (.inr (.inr g))))), (u, .inr (0, [.int fr, .int fo, .int lw, .int lh, .int lv, .int ac, .int dn, .int fi, .ref bc, .ref st])), (bc, .inl (cI, 4, .inl (tu_put4 bd p1 p2 p3 p4)))]) [0, 1, 2, 3] (by decide) rfl
  clear hPc hDc hFc hP1 hK1 hD1 hk1 hz1
  generalize H1 = H at hP hS ⊢
  refine lv_goto (tgt := 18) hx hb dL_border_11 (by decide) ?_
  refine lv_iconst (v := 0) hx hb dL_border_18 (by decide) ?_
  have hP9 : va_P (dC, dI) vwCl [(q, .inr (1, [.ref wd, .ref us, .ref la, .ref nx])), (us, .inl (cU, 4, .inr (.inr (.inr (.inr g))))), (u, .inr (0, [.int fr, .int fo, .int lw, .int lh, .int lv, .int ac, .int dn, .int fi, .ref bc, .ref st])), (bc, .inl (cI, 4, .inl (tu_put4 bd p1 p2 p3 p4)))] H := hP.sub [0, 1, 2, 3] rfl
  have hD9 : va_D A [(q, .inr (1, [.ref wd, .ref us, .ref la, .ref nx])), (us, .inl (cU, 4, .inr (.inr (.inr (.inr g))))), (u, .inr (0, [.int fr, .int fo, .int lw, .int lh, .int lv, .int ac, .int dn, .int fi, .ref bc, .ref st])), (bc, .inl (cI, 4, .inl (tu_put4 bd p1 p2 p3 p4)))] := hD.sub [0, 1, 2, 3] (by decide) rfl
  have hK9 : va_K (dC, dI) vwCl [(cU, .object "TextureUnits$Unit"), (cI, .int)] s := hK.sub [0, 1] rfl
  exact W.iret (v := 0) hx hb hr (fun t ht hW => ⟨⟨0, (), rfl, rfl, by rw [ht]; exact hP9, va_K.moved hW.alike hK9, hD9⟩, hS.F ht⟩) hS.2.2 dL_border_19
set_option maxHeartbeats 4000000 in
set_option maxRecDepth 100000 in
theorem k_border1 (l : Launch) (dC : Nat → ClassId) (dI : Nat → Nat → Nat) (q wd us la nx : Nat) (p0 p1 p2 p3 p4 : Int32) (sz : Nat) (hst : l.stackTraces = false) (h0 : tu_win p0 0 3 = 0) : Met l yL_border wsL_border ({ frames := 8, cells := 1, slots := 6, locals := 129 }) (va_Pc [.ref q, .int p0, .int p1, .int p2, .int p3, .int p4] (fun U => wr_P (dC, dI) vwCl [(q, .inr (1, [.ref wd, .ref us, .ref la, .ref nx]))] [] sz U ∧ ex_E (fun _ => False) U U.heap)) (va_Qi (fun (r9 : Int32) (_ : Unit) => r9 = 1) (wr_B (dC, dI) vwCl [(q, .inr (1, [.ref wd, .ref us, .ref la, .ref nx]))] [] (va_A [(q, .inr (1, [.ref wd, .ref us, .ref la, .ref nx]))] sz)) (va_A [(q, .inr (1, [.ref wd, .ref us, .ref la, .ref nx]))] sz)) 1 6 (va_A [(q, .inr (1, [.ref wd, .ref us, .ref la, .ref nx]))] sz) := by
  refine va_MetW (cc := cL_border) (maxL := 7) (ret := some .int) (by decide) rfl ?_
  intro p e s m args below meth c s₁ B hml hv
  obtain ⟨rfl, ⟨hsz, hP, hK, hD0⟩, hV⟩ := hv
  have hx := B.exec
  have hb := B.bytes
  have hr := B.returns
  have hts := atoms_spec (ws := wsL_border) B.pre
  have hown : s.vm.findClass "TextureUnitsLaw" = some m.cls := findClass_of_methodNamed B.named
  have hlocks := B.notSynchronized
  have hTab := vx_table (x := yL_border) B (hts _ List.mem_cons_self)
  subst hsz
  have hD := hD0.self (sz := s.heap.size)
  generalize hAe : va_A [(q, .inr (1, [.ref wd, .ref us, .ref la, .ref nx]))] s.heap.size = A at hD ⊢
  have hA : ∀ q : Nat, s.heap.size ≤ q → A q := fun q h => by rw [← hAe]; exact Or.inr h
  have hS : va_S A s.heap s.heap [] := va_S.rf
  have hP : va_P (dC, dI) vwCl [(q, .inr (1, [.ref wd, .ref us, .ref la, .ref nx]))] s.heap := hP
  have hl := lv_entry ([.ref q, .int p0, .int p1, .int p2, .int p3, .int p4]) (n := 7) (Nat.le_of_ble_eq_true rfl)
  rw [lg_entry_eq]
  generalize (lg_sl ([.ref q, .int p0, .int p1, .int p2, .int p3, .int p4]) ++ List.replicate (7 - (lg_sl ([.ref q, .int p0, .int p1, .int p2, .int p3, .int p4])).length) Slot.unset).toArray = ls at hl ⊢
  have hl : lv_has ls 7 [(0, .ref q), (1, .int p0), (2, .int p1), (3, .int p2), (4, .int p3), (5, .int p4)] := hl
  refine lv_aload_n hx hb dL_border_0 rfl (lv_at hl 0 rfl) ?_
  refine lv_iload_n hx hb dL_border_1 rfl (lv_at hl 1 rfl) ?_
  refine lv_iload_n hx hb dL_border_2 rfl (lv_at hl 2 rfl) ?_
  refine lv_iload_n hx hb dL_border_3 rfl (lv_at hl 3 rfl) ?_
  refine lv_iload hx hb dL_border_4 (lv_at hl 4 rfl) ?_
  refine lv_iload hx hb dL_border_6 (lv_at hl 5 rfl) ?_
  refine tx_call (vx_runV (As := [.int p0, .int p1, .int p2, .int p3, .int p4]) (rest := []) ⟨hx, hb, hml, hown, hts⟩ (x_border l hst dC dI q wd us la nx p0 p1 p2 p3 p4 h0) (cwV 5 hts (tg_V tw_226 tw_227 tw_228 tw_1 tw_229) rfl rfl rfl (by decide +kernel) ⟨Nat.le_of_ble_eq_true rfl, Nat.le_of_ble_eq_true rfl⟩) ⟨tx_blind, va_recv hK hP (ci := 1) (q0 := 0) rfl rfl, fun U hU hW => ⟨rfl, tx_use (hP.sub [0] rfl) (hK.sub [] rfl) hV U hU hW⟩⟩ rfl rfl hl.1 rfl (lv_room (Nat.le_of_ble_eq_true rfl)) dL_border_8 ⟨Nat.le_of_ble_eq_true rfl, Nat.le_of_ble_eq_true rfl⟩) (fun H1 q1 ce h1 h2 h3 h4 h5 => ?_)
  refine vx_catch (own := "TextureUnitsLaw") (name := ex_S) (E := ex_S) hown [] ⟨0, 11, 14, 19⟩ [] (by rw [hTab]; rfl) (fun z hz => nomatch hz) (by decide) (by decide) (hts _ (tw_c tw_168)) (hV.1.use (w := .castable ex_S ex_S) (by decide +kernel)) h3 h4 h5 ?_
  have hP : va_P (dC, dI) vwCl [(q, .inr (1, [.ref wd, .ref us, .ref la, .ref nx]))] H1 := hP.kept (fun k q hk => h2 _ (hP k q hk).lt)
  have hS : va_S A s.heap H1 [] := ⟨h1, fun q hq _ => h2 q hq, fun _ h => by cases h⟩
  generalize H1 = H at hP hS ⊢
  refine lv_astore (lv' := [(6, .ref q1), (0, .ref q), (1, .int p0), (2, .int p1), (3, .int p2), (4, .int p3), (5, .int p4)]) hx hb dL_border_14 hl (by decide) rfl (fun ls hl => ?_)
  refine lv_iconst (v := 1) hx hb dL_border_16 (by decide) ?_
  have hP9 : va_P (dC, dI) vwCl [(q, .inr (1, [.ref wd, .ref us, .ref la, .ref nx]))] H := hP.sub [0] rfl
  have hD9 : va_D A [(q, .inr (1, [.ref wd, .ref us, .ref la, .ref nx]))] := hD.sub [0] (by decide) rfl
  have hK9 : va_K (dC, dI) vwCl [] s := hK.sub [] rfl
  refine W.widen (k := 1) (n := 6) (by omega) (by omega) ?_
  exact W.iret (v := 1) hx hb hr (fun t ht hW => ⟨⟨1, (), rfl, rfl, by rw [ht]; exact hP9, va_K.moved hW.alike hK9, hD9⟩, hS.F ht⟩) hS.2.2 dL_border_17
set_option maxHeartbeats 4000000 in
set_option maxRecDepth 100000 in
theorem k_texel0 (l : Launch) (dC : Nat → ClassId) (dI : Nat → Nat → Nat) (q wd us la nx : Nat) (cU : ClassId) (g : Nat → Option Nat) (u : Nat) (fr fo lw lh lv ac dn fi : Int32) (bc st : Nat) (cI : ClassId) (mem sf : Nat → Int32) (tb : Nat × Nat × Nat) (p0 p1 p2 p3 p4 : Int32) (ou : Nat) (cJ : ClassId) (of : Nat → Int64) (sz : Nat) (h0 : ¬ tu_win p0 0 3 = 0) (hg : g p0.toNatClampNeg = some u) (hv : ¬ tu_win p1 0 (lv - 1) = 0 ∧ ¬ tu_win p2 0 (tu_len lw p1 - 1) = 0 ∧ ¬ tu_win p3 0 (tu_len lh p1 - 1) = 0 ∧ ¬ tu_win p4 0 3 = 0) (h1 : vp_in fo 8) (h2 : vp_in p1 12) : Met l yL_texel wsL_texel ({ frames := 4, cells := 0, slots := 0, locals := 101 }) (va_Pc [.ref q, .int p0, .int p1, .int p2, .int p3, .int p4, .ref ou] (wt_P (dC, dI) vwCl [(q, .inr (1, [.ref wd, .ref us, .ref la, .ref nx])), (us, .inl (cU, 4, .inr (.inr (.inr (.inr g))))), (u, .inr (0, [.int fr, .int fo, .int lw, .int lh, .int lv, .int ac, .int dn, .int fi, .ref bc, .ref st])), (wd, .inl (cI, 2048, .inl mem)), (st, .inl (cI, 12, .inl sf)), (ou, .inl (cJ, 1, .inr (.inl of)))] [(cU, .object "TextureUnits$Unit"), (cI, .int), (cJ, .long)] sz tb)) (va_Qi (fun (r9 : Int32) (_ : Unit) => r9 = 0) (wr_B (dC, dI) vwCl [(q, .inr (1, [.ref wd, .ref us, .ref la, .ref nx])), (us, .inl (cU, 4, .inr (.inr (.inr (.inr g))))), (u, .inr (0, [.int fr, .int fo, .int lw, .int lh, .int lv, .int ac, .int dn, .int fi, .ref bc, .ref st])), (wd, .inl (cI, 2048, .inl mem)), (st, .inl (cI, 12, .inl sf)), (ou, .inl (cJ, 1, .inr (.inl (vp_updL of 0 (tu_stored mem sf fr fo lw p1 p2 p3 p4 : Int32).toInt64))))] [(cU, .object "TextureUnits$Unit"), (cI, .int), (cJ, .long)] (va_A [(q, .inr (1, [.ref wd, .ref us, .ref la, .ref nx])), (us, .inl (cU, 4, .inr (.inr (.inr (.inr g))))), (u, .inr (0, [.int fr, .int fo, .int lw, .int lh, .int lv, .int ac, .int dn, .int fi, .ref bc, .ref st])), (wd, .inl (cI, 2048, .inl mem)), (st, .inl (cI, 12, .inl sf)), (ou, .inl (cJ, 1, .inr (.inl of)))] sz)) (va_A [(q, .inr (1, [.ref wd, .ref us, .ref la, .ref nx])), (us, .inl (cU, 4, .inr (.inr (.inr (.inr g))))), (u, .inr (0, [.int fr, .int fo, .int lw, .int lh, .int lv, .int ac, .int dn, .int fi, .ref bc, .ref st])), (wd, .inl (cI, 2048, .inl mem)), (st, .inl (cI, 12, .inl sf)), (ou, .inl (cJ, 1, .inr (.inl of)))] sz)) 0 0 (va_A [(q, .inr (1, [.ref wd, .ref us, .ref la, .ref nx])), (us, .inl (cU, 4, .inr (.inr (.inr (.inr g))))), (u, .inr (0, [.int fr, .int fo, .int lw, .int lh, .int lv, .int ac, .int dn, .int fi, .ref bc, .ref st])), (wd, .inl (cI, 2048, .inl mem)), (st, .inl (cI, 12, .inl sf)), (ou, .inl (cJ, 1, .inr (.inl of)))] sz) := by
  refine va_MetW (cc := cL_texel) (maxL := 8) (ret := some .int) (by decide) rfl ?_
  intro p e s m args below meth c s₁ B hml hv
  obtain ⟨rfl, hsz, hP, hK, hD0, hX⟩ := hv
  have hx := B.exec
  have hb := B.bytes
  have hr := B.returns
  have hts := atoms_spec (ws := wsL_texel) B.pre
  have hown : s.vm.findClass "TextureUnitsLaw" = some m.cls := findClass_of_methodNamed B.named
  have hlocks := B.notSynchronized
  have hTab := vx_table (x := yL_texel) B (hts _ List.mem_cons_self)
  subst hsz
  have hD := hD0.self (sz := s.heap.size)
  generalize hAe : va_A [(q, .inr (1, [.ref wd, .ref us, .ref la, .ref nx])), (us, .inl (cU, 4, .inr (.inr (.inr (.inr g))))), (u, .inr (0, [.int fr, .int fo, .int lw, .int lh, .int lv, .int ac, .int dn, .int fi, .ref bc, .ref st])), (wd, .inl (cI, 2048, .inl mem)), (st, .inl (cI, 12, .inl sf)), (ou, .inl (cJ, 1, .inr (.inl of)))] s.heap.size = A at hD hX ⊢
  have hA : ∀ q : Nat, s.heap.size ≤ q → A q := fun q h => by rw [← hAe]; exact Or.inr h
  have hS : va_S A s.heap s.heap [] := va_S.rf
  have hP : va_P (dC, dI) vwCl [(q, .inr (1, [.ref wd, .ref us, .ref la, .ref nx])), (us, .inl (cU, 4, .inr (.inr (.inr (.inr g))))), (u, .inr (0, [.int fr, .int fo, .int lw, .int lh, .int lv, .int ac, .int dn, .int fi, .ref bc, .ref st])), (wd, .inl (cI, 2048, .inl mem)), (st, .inl (cI, 12, .inl sf)), (ou, .inl (cJ, 1, .inr (.inl of)))] s.heap := hP
  have hl := lv_entry ([.ref q, .int p0, .int p1, .int p2, .int p3, .int p4, .ref ou]) (n := 8) (Nat.le_of_ble_eq_true rfl)
  rw [lg_entry_eq]
  generalize (lg_sl ([.ref q, .int p0, .int p1, .int p2, .int p3, .int p4, .ref ou]) ++ List.replicate (8 - (lg_sl ([.ref q, .int p0, .int p1, .int p2, .int p3, .int p4, .ref ou])).length) Slot.unset).toArray = ls at hl ⊢
  have hl : lv_has ls 8 [(0, .ref q), (1, .int p0), (2, .int p1), (3, .int p2), (4, .int p3), (5, .int p4), (6, .ref ou)] := hl
  refine lv_aload hx hb dL_texel_0 (lv_at hl 6 rfl) ?_
  refine lv_iconst (v := 0) hx hb dL_texel_2 (by decide) ?_
  refine lv_aload_n hx hb dL_texel_3 rfl (lv_at hl 0 rfl) ?_
  refine lv_iload_n hx hb dL_texel_4 rfl (lv_at hl 1 rfl) ?_
  refine lv_iload_n hx hb dL_texel_5 rfl (lv_at hl 2 rfl) ?_
  refine lv_iload_n hx hb dL_texel_6 rfl (lv_at hl 3 rfl) ?_
  refine lv_iload hx hb dL_texel_7 (lv_at hl 4 rfl) ?_
  refine lv_iload hx hb dL_texel_9 (lv_at hl 5 rfl) ?_
  refine rd_call (W.runV (As := [.int p0, .int p1, .int p2, .int p3, .int p4]) (rest := [.int 0, .ref ou]) ⟨hx, hb, hml, hown, hts⟩ (r_texel l dC dI q wd us la nx cU g u fr fo lw lh lv ac dn fi bc st cI mem sf tb p0 p1 p2 p3 p4 h0 hg hv h1 h2) (cwV 5 hts (tg_V tw_233 tw_234 tw_235 tw_1 tw_236) rfl rfl rfl (by decide +kernel) ⟨Nat.le_of_ble_eq_true rfl, Nat.le_of_ble_eq_true rfl⟩) ⟨rt_blind, va_recv hK hP (ci := 1) (q0 := 0) rfl rfl, fun U hU hW => ⟨rfl, rt_use (hP.sub [0, 1, 2, 3, 4] rfl) (hK.sub [0, 1] rfl) (tb_use hX hS) U hU hW⟩⟩ rfl rfl hl.1 rfl (lv_room (Nat.le_of_ble_eq_true rfl)) dL_texel_11 ⟨Nat.le_of_ble_eq_true rfl, Nat.le_of_ble_eq_true rfl⟩) ?_
  refine lv_i2l hx hb dL_texel_14 rfl ?_
  refine va_last hx hb hK hP hD hS 5 2 rfl rfl (tu_in (by decide)) dL_texel_15 (fun H locs hP hD hS => ?_)
  have hP : va_P (dC, dI) vwCl [(q, .inr (1, [.ref wd, .ref us, .ref la, .ref nx])), (us, .inl (cU, 4, .inr (.inr (.inr (.inr g))))), (u, .inr (0, [.int fr, .int fo, .int lw, .int lh, .int lv, .int ac, .int dn, .int fi, .ref bc, .ref st])), (wd, .inl (cI, 2048, .inl mem)), (st, .inl (cI, 12, .inl sf)), (ou, .inl (cJ, 1, .inr (.inl (vp_updL of 0 (((tu_stored mem sf fr fo lw p1 p2 p3 p4) : Int32).toInt64)))))] H := hP
  have hD : va_D A [(q, .inr (1, [.ref wd, .ref us, .ref la, .ref nx])), (us, .inl (cU, 4, .inr (.inr (.inr (.inr g))))), (u, .inr (0, [.int fr, .int fo, .int lw, .int lh, .int lv, .int ac, .int dn, .int fi, .ref bc, .ref st])), (wd, .inl (cI, 2048, .inl mem)), (st, .inl (cI, 12, .inl sf)), (ou, .inl (cJ, 1, .inr (.inl (vp_updL of 0 (((tu_stored mem sf fr fo lw p1 p2 p3 p4) : Int32).toInt64)))))] := hD
  refine lv_goto (tgt := 27) hx hb dL_texel_16 (by decide) ?_
  refine lv_iconst (v := 0) hx hb dL_texel_27 (by decide) ?_
  have hP9 : va_P (dC, dI) vwCl [(q, .inr (1, [.ref wd, .ref us, .ref la, .ref nx])), (us, .inl (cU, 4, .inr (.inr (.inr (.inr g))))), (u, .inr (0, [.int fr, .int fo, .int lw, .int lh, .int lv, .int ac, .int dn, .int fi, .ref bc, .ref st])), (wd, .inl (cI, 2048, .inl mem)), (st, .inl (cI, 12, .inl sf)), (ou, .inl (cJ, 1, .inr (.inl (vp_updL of 0 (tu_stored mem sf fr fo lw p1 p2 p3 p4 : Int32).toInt64))))] H := hP.sub [0, 1, 2, 3, 4, 5] rfl
  have hD9 : va_D A [(q, .inr (1, [.ref wd, .ref us, .ref la, .ref nx])), (us, .inl (cU, 4, .inr (.inr (.inr (.inr g))))), (u, .inr (0, [.int fr, .int fo, .int lw, .int lh, .int lv, .int ac, .int dn, .int fi, .ref bc, .ref st])), (wd, .inl (cI, 2048, .inl mem)), (st, .inl (cI, 12, .inl sf)), (ou, .inl (cJ, 1, .inr (.inl (vp_updL of 0 (tu_stored mem sf fr fo lw p1 p2 p3 p4 : Int32).toInt64))))] := hD.sub [0, 1, 2, 3, 4, 5] (by decide) rfl
  have hK9 : va_K (dC, dI) vwCl [(cU, .object "TextureUnits$Unit"), (cI, .int), (cJ, .long)] s := hK.sub [0, 1, 2] rfl
  exact W.iret (v := 0) hx hb hr (fun t ht hW => ⟨⟨0, (), rfl, rfl, by rw [ht]; exact hP9, va_K.moved hW.alike hK9, hD9⟩, hS.F ht⟩) hS.2.2 dL_texel_28
set_option maxHeartbeats 4000000 in
set_option maxRecDepth 100000 in
theorem k_texel1 (l : Launch) (dC : Nat → ClassId) (dI : Nat → Nat → Nat) (q wd us la nx : Nat) (p0 p1 p2 p3 p4 : Int32) (ou : Nat) (cJ : ClassId) (of : Nat → Int64) (sz : Nat) (hst : l.stackTraces = false) (h0 : tu_win p0 0 3 = 0) : Met l yL_texel wsL_texel ({ frames := 8, cells := 1, slots := 6, locals := 129 }) (va_Pc [.ref q, .int p0, .int p1, .int p2, .int p3, .int p4, .ref ou] (fun U => wr_P (dC, dI) vwCl [(q, .inr (1, [.ref wd, .ref us, .ref la, .ref nx])), (ou, .inl (cJ, 1, .inr (.inl of)))] [(cJ, .long)] sz U ∧ ex_E (fun _ => False) U U.heap)) (va_Qi (fun (r9 : Int32) (_ : Unit) => r9 = 1) (wr_B (dC, dI) vwCl [(q, .inr (1, [.ref wd, .ref us, .ref la, .ref nx])), (ou, .inl (cJ, 1, .inr (.inl of)))] [(cJ, .long)] (va_A [(q, .inr (1, [.ref wd, .ref us, .ref la, .ref nx])), (ou, .inl (cJ, 1, .inr (.inl of)))] sz)) (va_A [(q, .inr (1, [.ref wd, .ref us, .ref la, .ref nx])), (ou, .inl (cJ, 1, .inr (.inl of)))] sz)) 1 6 (va_A [(q, .inr (1, [.ref wd, .ref us, .ref la, .ref nx])), (ou, .inl (cJ, 1, .inr (.inl of)))] sz) := by
  refine va_MetW (cc := cL_texel) (maxL := 8) (ret := some .int) (by decide) rfl ?_
  intro p e s m args below meth c s₁ B hml hv
  obtain ⟨rfl, ⟨hsz, hP, hK, hD0⟩, hV⟩ := hv
  have hx := B.exec
  have hb := B.bytes
  have hr := B.returns
  have hts := atoms_spec (ws := wsL_texel) B.pre
  have hown : s.vm.findClass "TextureUnitsLaw" = some m.cls := findClass_of_methodNamed B.named
  have hlocks := B.notSynchronized
  have hTab := vx_table (x := yL_texel) B (hts _ List.mem_cons_self)
  subst hsz
  have hD := hD0.self (sz := s.heap.size)
  generalize hAe : va_A [(q, .inr (1, [.ref wd, .ref us, .ref la, .ref nx])), (ou, .inl (cJ, 1, .inr (.inl of)))] s.heap.size = A at hD ⊢
  have hA : ∀ q : Nat, s.heap.size ≤ q → A q := fun q h => by rw [← hAe]; exact Or.inr h
  have hS : va_S A s.heap s.heap [] := va_S.rf
  have hP : va_P (dC, dI) vwCl [(q, .inr (1, [.ref wd, .ref us, .ref la, .ref nx])), (ou, .inl (cJ, 1, .inr (.inl of)))] s.heap := hP
  have hl := lv_entry ([.ref q, .int p0, .int p1, .int p2, .int p3, .int p4, .ref ou]) (n := 8) (Nat.le_of_ble_eq_true rfl)
  rw [lg_entry_eq]
  generalize (lg_sl ([.ref q, .int p0, .int p1, .int p2, .int p3, .int p4, .ref ou]) ++ List.replicate (8 - (lg_sl ([.ref q, .int p0, .int p1, .int p2, .int p3, .int p4, .ref ou])).length) Slot.unset).toArray = ls at hl ⊢
  have hl : lv_has ls 8 [(0, .ref q), (1, .int p0), (2, .int p1), (3, .int p2), (4, .int p3), (5, .int p4), (6, .ref ou)] := hl
  refine lv_aload hx hb dL_texel_0 (lv_at hl 6 rfl) ?_
  refine lv_iconst (v := 0) hx hb dL_texel_2 (by decide) ?_
  refine lv_aload_n hx hb dL_texel_3 rfl (lv_at hl 0 rfl) ?_
  refine lv_iload_n hx hb dL_texel_4 rfl (lv_at hl 1 rfl) ?_
  refine lv_iload_n hx hb dL_texel_5 rfl (lv_at hl 2 rfl) ?_
  refine lv_iload_n hx hb dL_texel_6 rfl (lv_at hl 3 rfl) ?_
  refine lv_iload hx hb dL_texel_7 (lv_at hl 4 rfl) ?_
  refine lv_iload hx hb dL_texel_9 (lv_at hl 5 rfl) ?_
  refine tx_call (vx_runV (As := [.int p0, .int p1, .int p2, .int p3, .int p4]) (rest := [.int 0, .ref ou]) ⟨hx, hb, hml, hown, hts⟩ (x_texel l hst dC dI q wd us la nx p0 p1 p2 p3 p4 h0) (cwV 5 hts (tg_V tw_233 tw_234 tw_235 tw_1 tw_236) rfl rfl rfl (by decide +kernel) ⟨Nat.le_of_ble_eq_true rfl, Nat.le_of_ble_eq_true rfl⟩) ⟨tx_blind, va_recv hK hP (ci := 1) (q0 := 0) rfl rfl, fun U hU hW => ⟨rfl, tx_use (hP.sub [0] rfl) (hK.sub [] rfl) hV U hU hW⟩⟩ rfl rfl hl.1 rfl (lv_room (Nat.le_of_ble_eq_true rfl)) dL_texel_11 ⟨Nat.le_of_ble_eq_true rfl, Nat.le_of_ble_eq_true rfl⟩) (fun H1 q1 ce h1 h2 h3 h4 h5 => ?_)
  refine vx_catch (own := "TextureUnitsLaw") (name := ex_S) (E := ex_S) hown [] ⟨0, 16, 19, 19⟩ [⟨0, 16, 23, 13⟩] (by rw [hTab]; rfl) (fun z hz => nomatch hz) (by decide) (by decide) (hts _ (tw_c tw_168)) (hV.1.use (w := .castable ex_S ex_S) (by decide +kernel)) h3 h4 h5 ?_
  have hP : va_P (dC, dI) vwCl [(q, .inr (1, [.ref wd, .ref us, .ref la, .ref nx])), (ou, .inl (cJ, 1, .inr (.inl of)))] H1 := hP.kept (fun k q hk => h2 _ (hP k q hk).lt)
  have hS : va_S A s.heap H1 [] := ⟨h1, fun q hq _ => h2 q hq, fun _ h => by cases h⟩
  generalize H1 = H at hP hS ⊢
  refine lv_astore (lv' := [(7, .ref q1), (0, .ref q), (1, .int p0), (2, .int p1), (3, .int p2), (4, .int p3), (5, .int p4), (6, .ref ou)]) hx hb dL_texel_19 hl (by decide) rfl (fun ls hl => ?_)
  refine lv_iconst (v := 1) hx hb dL_texel_21 (by decide) ?_
  have hP9 : va_P (dC, dI) vwCl [(q, .inr (1, [.ref wd, .ref us, .ref la, .ref nx])), (ou, .inl (cJ, 1, .inr (.inl of)))] H := hP.sub [0, 1] rfl
  have hD9 : va_D A [(q, .inr (1, [.ref wd, .ref us, .ref la, .ref nx])), (ou, .inl (cJ, 1, .inr (.inl of)))] := hD.sub [0, 1] (by decide) rfl
  have hK9 : va_K (dC, dI) vwCl [(cJ, .long)] s := hK.sub [0] rfl
  refine W.widen (k := 1) (n := 6) (by omega) (by omega) ?_
  exact W.iret (v := 1) hx hb hr (fun t ht hW => ⟨⟨1, (), rfl, rfl, by rw [ht]; exact hP9, va_K.moved hW.alike hK9, hD9⟩, hS.F ht⟩) hS.2.2 dL_texel_22
set_option maxHeartbeats 4000000 in
set_option maxRecDepth 100000 in
theorem k_texel2 (l : Launch) (dC : Nat → ClassId) (dI : Nat → Nat → Nat) (q wd us la nx : Nat) (cU : ClassId) (g : Nat → Option Nat) (u : Nat) (fr fo lw lh lv ac dn fi : Int32) (bc st : Nat) (p0 p1 p2 p3 p4 : Int32) (ou : Nat) (cJ : ClassId) (of : Nat → Int64) (sz : Nat) (hst : l.stackTraces = false) (h0 : ¬ tu_win p0 0 3 = 0) (hg : g p0.toNatClampNeg = some u) (hn : ¬ (¬ tu_win p1 0 (lv - 1) = 0 ∧ ¬ tu_win p2 0 (tu_len lw p1 - 1) = 0 ∧ ¬ tu_win p3 0 (tu_len lh p1 - 1) = 0 ∧ ¬ tu_win p4 0 3 = 0)) : Met l yL_texel wsL_texel ({ frames := 7, cells := 1, slots := 6, locals := 108 }) (va_Pc [.ref q, .int p0, .int p1, .int p2, .int p3, .int p4, .ref ou] (fun U => wr_P (dC, dI) vwCl [(q, .inr (1, [.ref wd, .ref us, .ref la, .ref nx])), (us, .inl (cU, 4, .inr (.inr (.inr (.inr g))))), (u, .inr (0, [.int fr, .int fo, .int lw, .int lh, .int lv, .int ac, .int dn, .int fi, .ref bc, .ref st])), (ou, .inl (cJ, 1, .inr (.inl of)))] [(cU, .object "TextureUnits$Unit"), (cJ, .long)] sz U ∧ ex_E (fun _ => False) U U.heap)) (va_Qi (fun (r9 : Int32) (_ : Unit) => r9 = 2) (wr_B (dC, dI) vwCl [(q, .inr (1, [.ref wd, .ref us, .ref la, .ref nx])), (us, .inl (cU, 4, .inr (.inr (.inr (.inr g))))), (u, .inr (0, [.int fr, .int fo, .int lw, .int lh, .int lv, .int ac, .int dn, .int fi, .ref bc, .ref st])), (ou, .inl (cJ, 1, .inr (.inl of)))] [(cU, .object "TextureUnits$Unit"), (cJ, .long)] (va_A [(q, .inr (1, [.ref wd, .ref us, .ref la, .ref nx])), (us, .inl (cU, 4, .inr (.inr (.inr (.inr g))))), (u, .inr (0, [.int fr, .int fo, .int lw, .int lh, .int lv, .int ac, .int dn, .int fi, .ref bc, .ref st])), (ou, .inl (cJ, 1, .inr (.inl of)))] sz)) (va_A [(q, .inr (1, [.ref wd, .ref us, .ref la, .ref nx])), (us, .inl (cU, 4, .inr (.inr (.inr (.inr g))))), (u, .inr (0, [.int fr, .int fo, .int lw, .int lh, .int lv, .int ac, .int dn, .int fi, .ref bc, .ref st])), (ou, .inl (cJ, 1, .inr (.inl of)))] sz)) 1 6 (va_A [(q, .inr (1, [.ref wd, .ref us, .ref la, .ref nx])), (us, .inl (cU, 4, .inr (.inr (.inr (.inr g))))), (u, .inr (0, [.int fr, .int fo, .int lw, .int lh, .int lv, .int ac, .int dn, .int fi, .ref bc, .ref st])), (ou, .inl (cJ, 1, .inr (.inl of)))] sz) := by
  refine va_MetW (cc := cL_texel) (maxL := 8) (ret := some .int) (by decide) rfl ?_
  intro p e s m args below meth c s₁ B hml hv
  obtain ⟨rfl, ⟨hsz, hP, hK, hD0⟩, hV⟩ := hv
  have hx := B.exec
  have hb := B.bytes
  have hr := B.returns
  have hts := atoms_spec (ws := wsL_texel) B.pre
  have hown : s.vm.findClass "TextureUnitsLaw" = some m.cls := findClass_of_methodNamed B.named
  have hlocks := B.notSynchronized
  have hTab := vx_table (x := yL_texel) B (hts _ List.mem_cons_self)
  subst hsz
  have hD := hD0.self (sz := s.heap.size)
  generalize hAe : va_A [(q, .inr (1, [.ref wd, .ref us, .ref la, .ref nx])), (us, .inl (cU, 4, .inr (.inr (.inr (.inr g))))), (u, .inr (0, [.int fr, .int fo, .int lw, .int lh, .int lv, .int ac, .int dn, .int fi, .ref bc, .ref st])), (ou, .inl (cJ, 1, .inr (.inl of)))] s.heap.size = A at hD ⊢
  have hA : ∀ q : Nat, s.heap.size ≤ q → A q := fun q h => by rw [← hAe]; exact Or.inr h
  have hS : va_S A s.heap s.heap [] := va_S.rf
  have hP : va_P (dC, dI) vwCl [(q, .inr (1, [.ref wd, .ref us, .ref la, .ref nx])), (us, .inl (cU, 4, .inr (.inr (.inr (.inr g))))), (u, .inr (0, [.int fr, .int fo, .int lw, .int lh, .int lv, .int ac, .int dn, .int fi, .ref bc, .ref st])), (ou, .inl (cJ, 1, .inr (.inl of)))] s.heap := hP
  have hl := lv_entry ([.ref q, .int p0, .int p1, .int p2, .int p3, .int p4, .ref ou]) (n := 8) (Nat.le_of_ble_eq_true rfl)
  rw [lg_entry_eq]
  generalize (lg_sl ([.ref q, .int p0, .int p1, .int p2, .int p3, .int p4, .ref ou]) ++ List.replicate (8 - (lg_sl ([.ref q, .int p0, .int p1, .int p2, .int p3, .int p4, .ref ou])).length) Slot.unset).toArray = ls at hl ⊢
  have hl : lv_has ls 8 [(0, .ref q), (1, .int p0), (2, .int p1), (3, .int p2), (4, .int p3), (5, .int p4), (6, .ref ou)] := hl
  refine lv_aload hx hb dL_texel_0 (lv_at hl 6 rfl) ?_
  refine lv_iconst (v := 0) hx hb dL_texel_2 (by decide) ?_
  refine lv_aload_n hx hb dL_texel_3 rfl (lv_at hl 0 rfl) ?_
  refine lv_iload_n hx hb dL_texel_4 rfl (lv_at hl 1 rfl) ?_
  refine lv_iload_n hx hb dL_texel_5 rfl (lv_at hl 2 rfl) ?_
  refine lv_iload_n hx hb dL_texel_6 rfl (lv_at hl 3 rfl) ?_
  refine lv_iload hx hb dL_texel_7 (lv_at hl 4 rfl) ?_
  refine lv_iload hx hb dL_texel_9 (lv_at hl 5 rfl) ?_
  refine tx_call (vx_runV (As := [.int p0, .int p1, .int p2, .int p3, .int p4]) (rest := [.int 0, .ref ou]) ⟨hx, hb, hml, hown, hts⟩ (y_texel l hst dC dI q wd us la nx cU g u fr fo lw lh lv ac dn fi bc st p0 p1 p2 p3 p4 h0 hg hn) (cwV 5 hts (tg_V tw_233 tw_234 tw_235 tw_1 tw_236) rfl rfl rfl (by decide +kernel) ⟨Nat.le_of_ble_eq_true rfl, Nat.le_of_ble_eq_true rfl⟩) ⟨tx_blind, va_recv hK hP (ci := 1) (q0 := 0) rfl rfl, fun U hU hW => ⟨rfl, tx_use (hP.sub [0, 1, 2] rfl) (hK.sub [0] rfl) hV U hU hW⟩⟩ rfl rfl hl.1 rfl (lv_room (Nat.le_of_ble_eq_true rfl)) dL_texel_11 ⟨Nat.le_of_ble_eq_true rfl, Nat.le_of_ble_eq_true rfl⟩) (fun H1 q1 ce h1 h2 h3 h4 h5 => ?_)
  refine vx_catch (own := "TextureUnitsLaw") (name := ex_I) (E := ex_I) hown [⟨0, 16, 19, 19⟩] ⟨0, 16, 23, 13⟩ [] (by rw [hTab]; rfl) (fun z hz => by
        rcases List.mem_cons.mp hz with rfl | hz
        · exact Or.inr ⟨by decide, ex_S, (hts _ (tw_c tw_168)), hV.2.2.1.2⟩
        · cases hz) (by decide) (by decide) (hts _ (tw_c tw_89)) (hV.1.use (w := .castable ex_I ex_I) (by decide +kernel)) h3 h4 h5 ?_
  have hP : va_P (dC, dI) vwCl [(q, .inr (1, [.ref wd, .ref us, .ref la, .ref nx])), (us, .inl (cU, 4, .inr (.inr (.inr (.inr g))))), (u, .inr (0, [.int fr, .int fo, .int lw, .int lh, .int lv, .int ac, .int dn, .int fi, .ref bc, .ref st])), (ou, .inl (cJ, 1, .inr (.inl of)))] H1 := hP.kept (fun k q hk => h2 _ (hP k q hk).lt)
  have hS : va_S A s.heap H1 [] := ⟨h1, fun q hq _ => h2 q hq, fun _ h => by cases h⟩
  generalize H1 = H at hP hS ⊢
  refine lv_astore (lv' := [(7, .ref q1), (0, .ref q), (1, .int p0), (2, .int p1), (3, .int p2), (4, .int p3), (5, .int p4), (6, .ref ou)]) hx hb dL_texel_23 hl (by decide) rfl (fun ls hl => ?_)
  refine lv_iconst (v := 2) hx hb dL_texel_25 (by decide) ?_
  have hP9 : va_P (dC, dI) vwCl [(q, .inr (1, [.ref wd, .ref us, .ref la, .ref nx])), (us, .inl (cU, 4, .inr (.inr (.inr (.inr g))))), (u, .inr (0, [.int fr, .int fo, .int lw, .int lh, .int lv, .int ac, .int dn, .int fi, .ref bc, .ref st])), (ou, .inl (cJ, 1, .inr (.inl of)))] H := hP.sub [0, 1, 2, 3] rfl
  have hD9 : va_D A [(q, .inr (1, [.ref wd, .ref us, .ref la, .ref nx])), (us, .inl (cU, 4, .inr (.inr (.inr (.inr g))))), (u, .inr (0, [.int fr, .int fo, .int lw, .int lh, .int lv, .int ac, .int dn, .int fi, .ref bc, .ref st])), (ou, .inl (cJ, 1, .inr (.inl of)))] := hD.sub [0, 1, 2, 3] (by decide) rfl
  have hK9 : va_K (dC, dI) vwCl [(cU, .object "TextureUnits$Unit"), (cJ, .long)] s := hK.sub [0, 1] rfl
  refine W.widen (k := 1) (n := 6) (by omega) (by omega) ?_
  exact W.iret (v := 2) hx hb hr (fun t ht hW => ⟨⟨2, (), rfl, rfl, by rw [ht]; exact hP9, va_K.moved hW.alike hK9, hD9⟩, hS.F ht⟩) hS.2.2 dL_texel_26
set_option maxHeartbeats 4000000 in
set_option maxRecDepth 100000 in
theorem k_texels0 (l : Launch) (dC : Nat → ClassId) (dI : Nat → Nat → Nat) (q wd us la nx : Nat) (cU : ClassId) (g : Nat → Option Nat) (u : Nat) (fr fo lw lh lv ac dn fi : Int32) (bc st : Nat) (cI : ClassId) (sf : Nat → Int32) (p0 : Int32) (ou : Nat) (cJ : ClassId) (of : Nat → Int64) (sz : Nat) (h0 : ¬ tu_win p0 0 3 = 0) (hg : g p0.toNatClampNeg = some u) (h1 : vp_in lv 12) : Met l yL_texels wsL_texels ({ frames := 3, cells := 0, slots := 0, locals := 65 }) (va_Pc [.ref q, .int p0, .ref ou] (wr_P (dC, dI) vwCl [(q, .inr (1, [.ref wd, .ref us, .ref la, .ref nx])), (us, .inl (cU, 4, .inr (.inr (.inr (.inr g))))), (u, .inr (0, [.int fr, .int fo, .int lw, .int lh, .int lv, .int ac, .int dn, .int fi, .ref bc, .ref st])), (st, .inl (cI, 12, .inl sf)), (ou, .inl (cJ, 1, .inr (.inl of)))] [(cU, .object "TextureUnits$Unit"), (cI, .int), (cJ, .long)] sz)) (va_Qi (fun (r9 : Int32) (_ : Unit) => r9 = 0) (wr_B (dC, dI) vwCl [(q, .inr (1, [.ref wd, .ref us, .ref la, .ref nx])), (us, .inl (cU, 4, .inr (.inr (.inr (.inr g))))), (u, .inr (0, [.int fr, .int fo, .int lw, .int lh, .int lv, .int ac, .int dn, .int fi, .ref bc, .ref st])), (st, .inl (cI, 12, .inl sf)), (ou, .inl (cJ, 1, .inr (.inl (vp_updL of 0 (sf lv.toNatClampNeg : Int32).toInt64))))] [(cU, .object "TextureUnits$Unit"), (cI, .int), (cJ, .long)] (va_A [(q, .inr (1, [.ref wd, .ref us, .ref la, .ref nx])), (us, .inl (cU, 4, .inr (.inr (.inr (.inr g))))), (u, .inr (0, [.int fr, .int fo, .int lw, .int lh, .int lv, .int ac, .int dn, .int fi, .ref bc, .ref st])), (st, .inl (cI, 12, .inl sf)), (ou, .inl (cJ, 1, .inr (.inl of)))] sz)) (va_A [(q, .inr (1, [.ref wd, .ref us, .ref la, .ref nx])), (us, .inl (cU, 4, .inr (.inr (.inr (.inr g))))), (u, .inr (0, [.int fr, .int fo, .int lw, .int lh, .int lv, .int ac, .int dn, .int fi, .ref bc, .ref st])), (st, .inl (cI, 12, .inl sf)), (ou, .inl (cJ, 1, .inr (.inl of)))] sz)) 0 0 (va_A [(q, .inr (1, [.ref wd, .ref us, .ref la, .ref nx])), (us, .inl (cU, 4, .inr (.inr (.inr (.inr g))))), (u, .inr (0, [.int fr, .int fo, .int lw, .int lh, .int lv, .int ac, .int dn, .int fi, .ref bc, .ref st])), (st, .inl (cI, 12, .inl sf)), (ou, .inl (cJ, 1, .inr (.inl of)))] sz) := by
  refine va_MetW (cc := cL_texels) (maxL := 4) (ret := some .int) (by decide) rfl ?_
  intro p e s m args below meth c s₁ B hml hv
  obtain ⟨rfl, hsz, hP, hK, hD0⟩ := hv
  have hx := B.exec
  have hb := B.bytes
  have hr := B.returns
  have hts := atoms_spec (ws := wsL_texels) B.pre
  have hown : s.vm.findClass "TextureUnitsLaw" = some m.cls := findClass_of_methodNamed B.named
  have hlocks := B.notSynchronized
  have hTab := vx_table (x := yL_texels) B (hts _ List.mem_cons_self)
  subst hsz
  have hD := hD0.self (sz := s.heap.size)
  generalize hAe : va_A [(q, .inr (1, [.ref wd, .ref us, .ref la, .ref nx])), (us, .inl (cU, 4, .inr (.inr (.inr (.inr g))))), (u, .inr (0, [.int fr, .int fo, .int lw, .int lh, .int lv, .int ac, .int dn, .int fi, .ref bc, .ref st])), (st, .inl (cI, 12, .inl sf)), (ou, .inl (cJ, 1, .inr (.inl of)))] s.heap.size = A at hD ⊢
  have hA : ∀ q : Nat, s.heap.size ≤ q → A q := fun q h => by rw [← hAe]; exact Or.inr h
  have hS : va_S A s.heap s.heap [] := va_S.rf
  have hP : va_P (dC, dI) vwCl [(q, .inr (1, [.ref wd, .ref us, .ref la, .ref nx])), (us, .inl (cU, 4, .inr (.inr (.inr (.inr g))))), (u, .inr (0, [.int fr, .int fo, .int lw, .int lh, .int lv, .int ac, .int dn, .int fi, .ref bc, .ref st])), (st, .inl (cI, 12, .inl sf)), (ou, .inl (cJ, 1, .inr (.inl of)))] s.heap := hP
  have hl := lv_entry ([.ref q, .int p0, .ref ou]) (n := 4) (Nat.le_of_ble_eq_true rfl)
  rw [lg_entry_eq]
  generalize (lg_sl ([.ref q, .int p0, .ref ou]) ++ List.replicate (4 - (lg_sl ([.ref q, .int p0, .ref ou])).length) Slot.unset).toArray = ls at hl ⊢
  have hl : lv_has ls 4 [(0, .ref q), (1, .int p0), (2, .ref ou)] := hl
  refine lv_aload_n hx hb dL_texels_0 rfl (lv_at hl 2 rfl) ?_
  refine lv_iconst (v := 0) hx hb dL_texels_1 (by decide) ?_
  refine lv_aload_n hx hb dL_texels_2 rfl (lv_at hl 0 rfl) ?_
  refine lv_iload_n hx hb dL_texels_3 rfl (lv_at hl 1 rfl) ?_
  refine rd_call (W.runV (As := [.int p0]) (rest := [.int 0, .ref ou]) ⟨hx, hb, hml, hown, hts⟩ (r_texels l dC dI q wd us la nx cU g u fr fo lw lh lv ac dn fi bc st cI sf p0 h0 hg h1) (cwV 1 hts (tg_V tw_266 tw_267 tw_268 tw_1 tw_269) rfl rfl rfl (by decide +kernel) ⟨Nat.le_of_ble_eq_true rfl, Nat.le_of_ble_eq_true rfl⟩) ⟨rd_blind, va_recv hK hP (ci := 1) (q0 := 0) rfl rfl, fun U hU hW => ⟨rfl, rd_use (hP.sub [0, 1, 2, 3] rfl) (hK.sub [0, 1] rfl) U hU hW⟩⟩ rfl rfl hl.1 rfl (lv_room (Nat.le_of_ble_eq_true rfl)) dL_texels_4 ⟨Nat.le_of_ble_eq_true rfl, Nat.le_of_ble_eq_true rfl⟩) ?_
  refine lv_i2l hx hb dL_texels_7 rfl ?_
  refine va_last hx hb hK hP hD hS 4 2 rfl rfl (tu_in (by decide)) dL_texels_8 (fun H locs hP hD hS => ?_)
  have hP : va_P (dC, dI) vwCl [(q, .inr (1, [.ref wd, .ref us, .ref la, .ref nx])), (us, .inl (cU, 4, .inr (.inr (.inr (.inr g))))), (u, .inr (0, [.int fr, .int fo, .int lw, .int lh, .int lv, .int ac, .int dn, .int fi, .ref bc, .ref st])), (st, .inl (cI, 12, .inl sf)), (ou, .inl (cJ, 1, .inr (.inl (vp_updL of 0 (((sf lv.toNatClampNeg) : Int32).toInt64)))))] H := hP
  have hD : va_D A [(q, .inr (1, [.ref wd, .ref us, .ref la, .ref nx])), (us, .inl (cU, 4, .inr (.inr (.inr (.inr g))))), (u, .inr (0, [.int fr, .int fo, .int lw, .int lh, .int lv, .int ac, .int dn, .int fi, .ref bc, .ref st])), (st, .inl (cI, 12, .inl sf)), (ou, .inl (cJ, 1, .inr (.inl (vp_updL of 0 (((sf lv.toNatClampNeg) : Int32).toInt64)))))] := hD
  refine lv_goto (tgt := 15) hx hb dL_texels_9 (by decide) ?_
  refine lv_iconst (v := 0) hx hb dL_texels_15 (by decide) ?_
  have hP9 : va_P (dC, dI) vwCl [(q, .inr (1, [.ref wd, .ref us, .ref la, .ref nx])), (us, .inl (cU, 4, .inr (.inr (.inr (.inr g))))), (u, .inr (0, [.int fr, .int fo, .int lw, .int lh, .int lv, .int ac, .int dn, .int fi, .ref bc, .ref st])), (st, .inl (cI, 12, .inl sf)), (ou, .inl (cJ, 1, .inr (.inl (vp_updL of 0 (sf lv.toNatClampNeg : Int32).toInt64))))] H := hP.sub [0, 1, 2, 3, 4] rfl
  have hD9 : va_D A [(q, .inr (1, [.ref wd, .ref us, .ref la, .ref nx])), (us, .inl (cU, 4, .inr (.inr (.inr (.inr g))))), (u, .inr (0, [.int fr, .int fo, .int lw, .int lh, .int lv, .int ac, .int dn, .int fi, .ref bc, .ref st])), (st, .inl (cI, 12, .inl sf)), (ou, .inl (cJ, 1, .inr (.inl (vp_updL of 0 (sf lv.toNatClampNeg : Int32).toInt64))))] := hD.sub [0, 1, 2, 3, 4] (by decide) rfl
  have hK9 : va_K (dC, dI) vwCl [(cU, .object "TextureUnits$Unit"), (cI, .int), (cJ, .long)] s := hK.sub [0, 1, 2] rfl
  exact W.iret (v := 0) hx hb hr (fun t ht hW => ⟨⟨0, (), rfl, rfl, by rw [ht]; exact hP9, va_K.moved hW.alike hK9, hD9⟩, hS.F ht⟩) hS.2.2 dL_texels_16
set_option maxHeartbeats 4000000 in
set_option maxRecDepth 100000 in
theorem k_texels1 (l : Launch) (dC : Nat → ClassId) (dI : Nat → Nat → Nat) (q wd us la nx : Nat) (p0 : Int32) (ou : Nat) (cJ : ClassId) (of : Nat → Int64) (sz : Nat) (hst : l.stackTraces = false) (h0 : tu_win p0 0 3 = 0) : Met l yL_texels wsL_texels ({ frames := 8, cells := 1, slots := 6, locals := 125 }) (va_Pc [.ref q, .int p0, .ref ou] (fun U => wr_P (dC, dI) vwCl [(q, .inr (1, [.ref wd, .ref us, .ref la, .ref nx])), (ou, .inl (cJ, 1, .inr (.inl of)))] [(cJ, .long)] sz U ∧ ex_E (fun _ => False) U U.heap)) (va_Qi (fun (r9 : Int32) (_ : Unit) => r9 = 1) (wr_B (dC, dI) vwCl [(q, .inr (1, [.ref wd, .ref us, .ref la, .ref nx])), (ou, .inl (cJ, 1, .inr (.inl of)))] [(cJ, .long)] (va_A [(q, .inr (1, [.ref wd, .ref us, .ref la, .ref nx])), (ou, .inl (cJ, 1, .inr (.inl of)))] sz)) (va_A [(q, .inr (1, [.ref wd, .ref us, .ref la, .ref nx])), (ou, .inl (cJ, 1, .inr (.inl of)))] sz)) 1 6 (va_A [(q, .inr (1, [.ref wd, .ref us, .ref la, .ref nx])), (ou, .inl (cJ, 1, .inr (.inl of)))] sz) := by
  refine va_MetW (cc := cL_texels) (maxL := 4) (ret := some .int) (by decide) rfl ?_
  intro p e s m args below meth c s₁ B hml hv
  obtain ⟨rfl, ⟨hsz, hP, hK, hD0⟩, hV⟩ := hv
  have hx := B.exec
  have hb := B.bytes
  have hr := B.returns
  have hts := atoms_spec (ws := wsL_texels) B.pre
  have hown : s.vm.findClass "TextureUnitsLaw" = some m.cls := findClass_of_methodNamed B.named
  have hlocks := B.notSynchronized
  have hTab := vx_table (x := yL_texels) B (hts _ List.mem_cons_self)
  subst hsz
  have hD := hD0.self (sz := s.heap.size)
  generalize hAe : va_A [(q, .inr (1, [.ref wd, .ref us, .ref la, .ref nx])), (ou, .inl (cJ, 1, .inr (.inl of)))] s.heap.size = A at hD ⊢
  have hA : ∀ q : Nat, s.heap.size ≤ q → A q := fun q h => by rw [← hAe]; exact Or.inr h
  have hS : va_S A s.heap s.heap [] := va_S.rf
  have hP : va_P (dC, dI) vwCl [(q, .inr (1, [.ref wd, .ref us, .ref la, .ref nx])), (ou, .inl (cJ, 1, .inr (.inl of)))] s.heap := hP
  have hl := lv_entry ([.ref q, .int p0, .ref ou]) (n := 4) (Nat.le_of_ble_eq_true rfl)
  rw [lg_entry_eq]
  generalize (lg_sl ([.ref q, .int p0, .ref ou]) ++ List.replicate (4 - (lg_sl ([.ref q, .int p0, .ref ou])).length) Slot.unset).toArray = ls at hl ⊢
  have hl : lv_has ls 4 [(0, .ref q), (1, .int p0), (2, .ref ou)] := hl
  refine lv_aload_n hx hb dL_texels_0 rfl (lv_at hl 2 rfl) ?_
  refine lv_iconst (v := 0) hx hb dL_texels_1 (by decide) ?_
  refine lv_aload_n hx hb dL_texels_2 rfl (lv_at hl 0 rfl) ?_
  refine lv_iload_n hx hb dL_texels_3 rfl (lv_at hl 1 rfl) ?_
  refine tx_call (vx_runV (As := [.int p0]) (rest := [.int 0, .ref ou]) ⟨hx, hb, hml, hown, hts⟩ (x_texels l hst dC dI q wd us la nx p0 h0) (cwV 1 hts (tg_V tw_266 tw_267 tw_268 tw_1 tw_269) rfl rfl rfl (by decide +kernel) ⟨Nat.le_of_ble_eq_true rfl, Nat.le_of_ble_eq_true rfl⟩) ⟨tx_blind, va_recv hK hP (ci := 1) (q0 := 0) rfl rfl, fun U hU hW => ⟨rfl, tx_use (hP.sub [0] rfl) (hK.sub [] rfl) hV U hU hW⟩⟩ rfl rfl hl.1 rfl (lv_room (Nat.le_of_ble_eq_true rfl)) dL_texels_4 ⟨Nat.le_of_ble_eq_true rfl, Nat.le_of_ble_eq_true rfl⟩) (fun H1 q1 ce h1 h2 h3 h4 h5 => ?_)
  refine vx_catch (own := "TextureUnitsLaw") (name := ex_S) (E := ex_S) hown [] ⟨0, 9, 12, 19⟩ [] (by rw [hTab]; rfl) (fun z hz => nomatch hz) (by decide) (by decide) (hts _ (tw_c tw_168)) (hV.1.use (w := .castable ex_S ex_S) (by decide +kernel)) h3 h4 h5 ?_
  have hP : va_P (dC, dI) vwCl [(q, .inr (1, [.ref wd, .ref us, .ref la, .ref nx])), (ou, .inl (cJ, 1, .inr (.inl of)))] H1 := hP.kept (fun k q hk => h2 _ (hP k q hk).lt)
  have hS : va_S A s.heap H1 [] := ⟨h1, fun q hq _ => h2 q hq, fun _ h => by cases h⟩
  generalize H1 = H at hP hS ⊢
  refine lv_astore_n (lv' := [(3, .ref q1), (0, .ref q), (1, .int p0), (2, .ref ou)]) hx hb dL_texels_12 rfl hl (by decide) rfl (fun ls hl => ?_)
  refine lv_iconst (v := 1) hx hb dL_texels_13 (by decide) ?_
  have hP9 : va_P (dC, dI) vwCl [(q, .inr (1, [.ref wd, .ref us, .ref la, .ref nx])), (ou, .inl (cJ, 1, .inr (.inl of)))] H := hP.sub [0, 1] rfl
  have hD9 : va_D A [(q, .inr (1, [.ref wd, .ref us, .ref la, .ref nx])), (ou, .inl (cJ, 1, .inr (.inl of)))] := hD.sub [0, 1] (by decide) rfl
  have hK9 : va_K (dC, dI) vwCl [(cJ, .long)] s := hK.sub [0] rfl
  refine W.widen (k := 1) (n := 6) (by omega) (by omega) ?_
  exact W.iret (v := 1) hx hb hr (fun t ht hW => ⟨⟨1, (), rfl, rfl, by rw [ht]; exact hP9, va_K.moved hW.alike hK9, hD9⟩, hS.F ht⟩) hS.2.2 dL_texels_14
set_option maxHeartbeats 4000000 in
set_option maxRecDepth 100000 in
theorem k_read0 (l : Launch) (dC : Nat → ClassId) (dI : Nat → Nat → Nat) (q wd us la nx : Nat) (cU : ClassId) (g : Nat → Option Nat) (u : Nat) (fr fo lw lh lv ac dn fi : Int32) (bc st : Nat) (cI : ClassId) (mem sf bd lat nxt : Nat → Int32) (tb : Nat × Nat × Nat) (p0 p1 p2 p3 : Int32) (ou : Nat) (cJ : ClassId) (of : Nat → Int64) (sz : Nat) (h0 : ¬ tu_win p0 0 3 = 0) (hg : g p0.toNatClampNeg = some u) (h1 : vp_in fo 8) (h2 : vp_in (tu_lev lv p3) 12) (h3 : ¬ lv ≤ tu_lev lv p3 + 1 → vp_in (tu_lev lv p3 + 1) 12) : Met l yL_read wsL_read ({ frames := 7, cells := 0, slots := 0, locals := 194 }) (va_Pc [.ref q, .int p0, .int p1, .int p2, .int p3, .ref ou] (wt_P (dC, dI) vwCl [(q, .inr (1, [.ref wd, .ref us, .ref la, .ref nx])), (us, .inl (cU, 4, .inr (.inr (.inr (.inr g))))), (u, .inr (0, [.int fr, .int fo, .int lw, .int lh, .int lv, .int ac, .int dn, .int fi, .ref bc, .ref st])), (wd, .inl (cI, 2048, .inl mem)), (st, .inl (cI, 12, .inl sf)), (bc, .inl (cI, 4, .inl bd)), (la, .inl (cI, 4, .inl lat)), (nx, .inl (cI, 4, .inl nxt)), (ou, .inl (cJ, 1, .inr (.inl of)))] [(cU, .object "TextureUnits$Unit"), (cI, .int), (cJ, .long)] sz tb)) (va_Qi (fun (r9 : Int32) (_ : Unit) => r9 = 0) (wr_B (dC, dI) vwCl [(q, .inr (1, [.ref wd, .ref us, .ref la, .ref nx])), (us, .inl (cU, 4, .inr (.inr (.inr (.inr g))))), (u, .inr (0, [.int fr, .int fo, .int lw, .int lh, .int lv, .int ac, .int dn, .int fi, .ref bc, .ref st])), (wd, .inl (cI, 2048, .inl mem)), (st, .inl (cI, 12, .inl sf)), (bc, .inl (cI, 4, .inl bd)), (la, .inl (cI, 4, .inl (tu_rd mem sf bd fr fo lw lh lv ac dn fi p1 p2 p3 lat nxt))), (nx, .inl (cI, 4, .inl (tu_rn mem sf bd fr fo lw lh lv ac dn fi p1 p2 p3 nxt))), (ou, .inl (cJ, 1, .inr (.inl (vp_updL of 0 ((tu_rd mem sf bd fr fo lw lh lv ac dn fi p1 p2 p3 lat nxt) 0 : Int32).toInt64))))] [(cU, .object "TextureUnits$Unit"), (cI, .int), (cJ, .long)] (va_A [(q, .inr (1, [.ref wd, .ref us, .ref la, .ref nx])), (us, .inl (cU, 4, .inr (.inr (.inr (.inr g))))), (u, .inr (0, [.int fr, .int fo, .int lw, .int lh, .int lv, .int ac, .int dn, .int fi, .ref bc, .ref st])), (wd, .inl (cI, 2048, .inl mem)), (st, .inl (cI, 12, .inl sf)), (bc, .inl (cI, 4, .inl bd)), (la, .inl (cI, 4, .inl lat)), (nx, .inl (cI, 4, .inl nxt)), (ou, .inl (cJ, 1, .inr (.inl of)))] sz)) (va_A [(q, .inr (1, [.ref wd, .ref us, .ref la, .ref nx])), (us, .inl (cU, 4, .inr (.inr (.inr (.inr g))))), (u, .inr (0, [.int fr, .int fo, .int lw, .int lh, .int lv, .int ac, .int dn, .int fi, .ref bc, .ref st])), (wd, .inl (cI, 2048, .inl mem)), (st, .inl (cI, 12, .inl sf)), (bc, .inl (cI, 4, .inl bd)), (la, .inl (cI, 4, .inl lat)), (nx, .inl (cI, 4, .inl nxt)), (ou, .inl (cJ, 1, .inr (.inl of)))] sz)) 0 0 (va_A [(q, .inr (1, [.ref wd, .ref us, .ref la, .ref nx])), (us, .inl (cU, 4, .inr (.inr (.inr (.inr g))))), (u, .inr (0, [.int fr, .int fo, .int lw, .int lh, .int lv, .int ac, .int dn, .int fi, .ref bc, .ref st])), (wd, .inl (cI, 2048, .inl mem)), (st, .inl (cI, 12, .inl sf)), (bc, .inl (cI, 4, .inl bd)), (la, .inl (cI, 4, .inl lat)), (nx, .inl (cI, 4, .inl nxt)), (ou, .inl (cJ, 1, .inr (.inl of)))] sz) := by
  refine va_MetW (cc := cL_read) (maxL := 7) (ret := some .int) (by decide) rfl ?_
  intro p e s m args below meth c s₁ B hml hv
  obtain ⟨rfl, hsz, hP, hK, hD0, hX⟩ := hv
  have hx := B.exec
  have hb := B.bytes
  have hr := B.returns
  have hts := atoms_spec (ws := wsL_read) B.pre
  have hown : s.vm.findClass "TextureUnitsLaw" = some m.cls := findClass_of_methodNamed B.named
  have hlocks := B.notSynchronized
  have hTab := vx_table (x := yL_read) B (hts _ List.mem_cons_self)
  subst hsz
  have hD := hD0.self (sz := s.heap.size)
  generalize hAe : va_A [(q, .inr (1, [.ref wd, .ref us, .ref la, .ref nx])), (us, .inl (cU, 4, .inr (.inr (.inr (.inr g))))), (u, .inr (0, [.int fr, .int fo, .int lw, .int lh, .int lv, .int ac, .int dn, .int fi, .ref bc, .ref st])), (wd, .inl (cI, 2048, .inl mem)), (st, .inl (cI, 12, .inl sf)), (bc, .inl (cI, 4, .inl bd)), (la, .inl (cI, 4, .inl lat)), (nx, .inl (cI, 4, .inl nxt)), (ou, .inl (cJ, 1, .inr (.inl of)))] s.heap.size = A at hD hX ⊢
  have hA : ∀ q : Nat, s.heap.size ≤ q → A q := fun q h => by rw [← hAe]; exact Or.inr h
  have hS : va_S A s.heap s.heap [] := va_S.rf
  have hP : va_P (dC, dI) vwCl [(q, .inr (1, [.ref wd, .ref us, .ref la, .ref nx])), (us, .inl (cU, 4, .inr (.inr (.inr (.inr g))))), (u, .inr (0, [.int fr, .int fo, .int lw, .int lh, .int lv, .int ac, .int dn, .int fi, .ref bc, .ref st])), (wd, .inl (cI, 2048, .inl mem)), (st, .inl (cI, 12, .inl sf)), (bc, .inl (cI, 4, .inl bd)), (la, .inl (cI, 4, .inl lat)), (nx, .inl (cI, 4, .inl nxt)), (ou, .inl (cJ, 1, .inr (.inl of)))] s.heap := hP
  have hl := lv_entry ([.ref q, .int p0, .int p1, .int p2, .int p3, .ref ou]) (n := 7) (Nat.le_of_ble_eq_true rfl)
  rw [lg_entry_eq]
  generalize (lg_sl ([.ref q, .int p0, .int p1, .int p2, .int p3, .ref ou]) ++ List.replicate (7 - (lg_sl ([.ref q, .int p0, .int p1, .int p2, .int p3, .ref ou])).length) Slot.unset).toArray = ls at hl ⊢
  have hl : lv_has ls 7 [(0, .ref q), (1, .int p0), (2, .int p1), (3, .int p2), (4, .int p3), (5, .ref ou)] := hl
  refine lv_aload hx hb dL_read_0 (lv_at hl 5 rfl) ?_
  refine lv_iconst (v := 0) hx hb dL_read_2 (by decide) ?_
  refine lv_aload_n hx hb dL_read_3 rfl (lv_at hl 0 rfl) ?_
  refine lv_iload_n hx hb dL_read_4 rfl (lv_at hl 1 rfl) ?_
  refine lv_iload_n hx hb dL_read_5 rfl (lv_at hl 2 rfl) ?_
  refine lv_iload_n hx hb dL_read_6 rfl (lv_at hl 3 rfl) ?_
  refine lv_iload hx hb dL_read_7 (lv_at hl 4 rfl) ?_
  have hPc := hP.sub (ws' := [(q, .inr (1, [.ref wd, .ref us, .ref la, .ref nx])), (us, .inl (cU, 4, .inr (.inr (.inr (.inr g))))), (u, .inr (0, [.int fr, .int fo, .int lw, .int lh, .int lv, .int ac, .int dn, .int fi, .ref bc, .ref st])), (wd, .inl (cI, 2048, .inl mem)), (st, .inl (cI, 12, .inl sf)), (bc, .inl (cI, 4, .inl bd)), (la, .inl (cI, 4, .inl lat)), (nx, .inl (cI, 4, .inl nxt))]) [0, 1, 2, 3, 4, 5, 6, 7] rfl
  have hDc := hD.sub (ws' := [(q, .inr (1, [.ref wd, .ref us, .ref la, .ref nx])), (us, .inl (cU, 4, .inr (.inr (.inr (.inr g))))), (u, .inr (0, [.int fr, .int fo, .int lw, .int lh, .int lv, .int ac, .int dn, .int fi, .ref bc, .ref st])), (wd, .inl (cI, 2048, .inl mem)), (st, .inl (cI, 12, .inl sf)), (bc, .inl (cI, 4, .inl bd)), (la, .inl (cI, 4, .inl lat)), (nx, .inl (cI, 4, .inl nxt))]) [0, 1, 2, 3, 4, 5, 6, 7] (by decide) rfl
  have hFc := va_free (wc := [(q, .inr (1, [.ref wd, .ref us, .ref la, .ref nx])), (us, .inl (cU, 4, .inr (.inr (.inr (.inr g))))), (u, .inr (0, [.int fr, .int fo, .int lw, .int lh, .int lv, .int ac, .int dn, .int fi, .ref bc, .ref st])), (wd, .inl (cI, 2048, .inl mem)), (st, .inl (cI, 12, .inl sf)), (bc, .inl (cI, 4, .inl bd)), (la, .inl (cI, 4, .inl lat)), (nx, .inl (cI, 4, .inl nxt))]) hD hS hA [0, 1, 2, 3, 4, 5, 6, 7] rfl
  refine va_calli (va_runV (As := [.int p0, .int p1, .int p2, .int p3]) (rest := [.int 0, .ref ou]) ⟨hx, hb, hml, hown, hts⟩ (w_read l dC dI q wd us la nx cU g u fr fo lw lh lv ac dn fi bc st cI mem sf bd lat nxt tb p0 p1 p2 p3 s.heap.size h0 hg h1 h2 h3) (cwV 4 hts (tg_V tw_273 tw_274 tw_275 tw_1 tw_276) rfl rfl rfl (by decide +kernel) ⟨Nat.le_of_ble_eq_true rfl, Nat.le_of_ble_eq_true rfl⟩) ⟨wt_blind, va_recv hK hP (ci := 1) (q0 := 0) rfl rfl, fun U hU hW => ⟨rfl, wt_use hPc (hK.sub [0, 1] rfl) hDc hX hS hFc U hU hW⟩⟩ rfl rfl hl.1 rfl (lv_room (Nat.le_of_ble_eq_true rfl)) dL_read_9 ⟨Nat.le_of_ble_eq_true rfl, Nat.le_of_ble_eq_true rfl⟩) hS (fun q _ h => hFc q h) hFc (fun r9 u9 t9 H1 locs ht hvm hw hB hz1 hk1 hS => ?_)
  obtain ⟨hP1, hK1, hD1⟩ := hB
  rw [ht] at hP1
  subst hw
  obtain ⟨hP, hD⟩ := va_join (wr := [(ou, .inl (cJ, 1, .inr (.inl of)))]) (w1 := [(q, .inr (1, [.ref wd, .ref us, .ref la, .ref nx])), (us, .inl (cU, 4, .inr (.inr (.inr (.inr g))))), (u, .inr (0, [.int fr, .int fo, .int lw, .int lh, .int lv, .int ac, .int dn, .int fi, .ref bc, .ref st])), (wd, .inl (cI, 2048, .inl mem)), (st, .inl (cI, 12, .inl sf)), (bc, .inl (cI, 4, .inl bd)), (la, .inl (cI, 4, .inl (tu_rd mem sf bd fr fo lw lh lv ac dn fi p1 p2 p3 lat nxt))), (nx, .inl (cI, 4, .inl (tu_rn mem sf bd fr fo lw lh lv ac dn fi p1 p2 p3 nxt)))]) hP hD [0, 1, 2, 3, 4, 5, 6, 7] [8] rfl rfl (by decide) (by decide) hk1 hFc hP1 hD1
  have hP := hP.sub (ws' := [(q, .inr (1, [.ref wd, .ref us, .ref la, .ref nx])), (us, .inl (cU, 4, .inr (.inr (.inr (.inr g))))), (u, .inr (0, [.int fr, .int fo, .int lw, .int lh, .int lv, .int ac, .int dn, .int fi, .ref bc, .ref st])), (wd, .inl (cI, 2048, .inl mem)), (st, .inl (cI, 12, .inl sf)), (bc, .inl (cI, 4, .inl bd)), (la, .inl (cI, 4, .inl (tu_rd mem sf bd fr fo lw lh lv ac dn fi p1 p2 p3 lat nxt))), (nx, .inl (cI, 4, .inl (tu_rn mem sf bd fr fo lw lh lv ac dn fi p1 p2 p3 nxt))), (ou, .inl (cJ, 1, .inr (.inl of)))]) [1, 2, 3, 4, 5, 6, 7, 8, 0] rfl
  have hD := hD.sub (ws' := [(q, .inr (1, [.ref wd, .ref us, .ref la, .ref nx])), (us, .inl (cU, 4, .inr (.inr (.inr (.inr g))))), (u, .inr (0, [.int fr, .int fo, .int lw, .int lh, .int lv, .int ac, .int dn, .int fi, .ref bc, .ref st])), (wd, .inl (cI, 2048, .inl mem)), (st, .inl (cI, 12, .inl sf)), (bc, .inl (cI, 4, .inl bd)), (la, .inl (cI, 4, .inl (tu_rd mem sf bd fr fo lw lh lv ac dn fi p1 p2 p3 lat nxt))), (nx, .inl (cI, 4, .inl (tu_rn mem sf bd fr fo lw lh lv ac dn fi p1 p2 p3 nxt))), (ou, .inl (cJ, 1, .inr (.inl of)))]) [1, 2, 3, 4, 5, 6, 7, 8, 0] (by decide) rfl
  clear hPc hDc hFc hP1 hK1 hD1 hk1 hz1
  generalize H1 = H at hP hS ⊢
  refine lv_i2l hx hb dL_read_12 rfl ?_
  refine va_last hx hb hK hP hD hS 8 2 rfl rfl (tu_in (by decide)) dL_read_13 (fun H locs hP hD hS => ?_)
  have hP : va_P (dC, dI) vwCl [(q, .inr (1, [.ref wd, .ref us, .ref la, .ref nx])), (us, .inl (cU, 4, .inr (.inr (.inr (.inr g))))), (u, .inr (0, [.int fr, .int fo, .int lw, .int lh, .int lv, .int ac, .int dn, .int fi, .ref bc, .ref st])), (wd, .inl (cI, 2048, .inl mem)), (st, .inl (cI, 12, .inl sf)), (bc, .inl (cI, 4, .inl bd)), (la, .inl (cI, 4, .inl (tu_rd mem sf bd fr fo lw lh lv ac dn fi p1 p2 p3 lat nxt))), (nx, .inl (cI, 4, .inl (tu_rn mem sf bd fr fo lw lh lv ac dn fi p1 p2 p3 nxt))), (ou, .inl (cJ, 1, .inr (.inl (vp_updL of 0 ((((tu_rd mem sf bd fr fo lw lh lv ac dn fi p1 p2 p3 lat nxt) 0) : Int32).toInt64)))))] H := hP
  have hD : va_D A [(q, .inr (1, [.ref wd, .ref us, .ref la, .ref nx])), (us, .inl (cU, 4, .inr (.inr (.inr (.inr g))))), (u, .inr (0, [.int fr, .int fo, .int lw, .int lh, .int lv, .int ac, .int dn, .int fi, .ref bc, .ref st])), (wd, .inl (cI, 2048, .inl mem)), (st, .inl (cI, 12, .inl sf)), (bc, .inl (cI, 4, .inl bd)), (la, .inl (cI, 4, .inl (tu_rd mem sf bd fr fo lw lh lv ac dn fi p1 p2 p3 lat nxt))), (nx, .inl (cI, 4, .inl (tu_rn mem sf bd fr fo lw lh lv ac dn fi p1 p2 p3 nxt))), (ou, .inl (cJ, 1, .inr (.inl (vp_updL of 0 ((((tu_rd mem sf bd fr fo lw lh lv ac dn fi p1 p2 p3 lat nxt) 0) : Int32).toInt64)))))] := hD
  refine lv_goto (tgt := 21) hx hb dL_read_14 (by decide) ?_
  refine lv_iconst (v := 0) hx hb dL_read_21 (by decide) ?_
  have hP9 : va_P (dC, dI) vwCl [(q, .inr (1, [.ref wd, .ref us, .ref la, .ref nx])), (us, .inl (cU, 4, .inr (.inr (.inr (.inr g))))), (u, .inr (0, [.int fr, .int fo, .int lw, .int lh, .int lv, .int ac, .int dn, .int fi, .ref bc, .ref st])), (wd, .inl (cI, 2048, .inl mem)), (st, .inl (cI, 12, .inl sf)), (bc, .inl (cI, 4, .inl bd)), (la, .inl (cI, 4, .inl (tu_rd mem sf bd fr fo lw lh lv ac dn fi p1 p2 p3 lat nxt))), (nx, .inl (cI, 4, .inl (tu_rn mem sf bd fr fo lw lh lv ac dn fi p1 p2 p3 nxt))), (ou, .inl (cJ, 1, .inr (.inl (vp_updL of 0 ((tu_rd mem sf bd fr fo lw lh lv ac dn fi p1 p2 p3 lat nxt) 0 : Int32).toInt64))))] H := hP.sub [0, 1, 2, 3, 4, 5, 6, 7, 8] rfl
  have hD9 : va_D A [(q, .inr (1, [.ref wd, .ref us, .ref la, .ref nx])), (us, .inl (cU, 4, .inr (.inr (.inr (.inr g))))), (u, .inr (0, [.int fr, .int fo, .int lw, .int lh, .int lv, .int ac, .int dn, .int fi, .ref bc, .ref st])), (wd, .inl (cI, 2048, .inl mem)), (st, .inl (cI, 12, .inl sf)), (bc, .inl (cI, 4, .inl bd)), (la, .inl (cI, 4, .inl (tu_rd mem sf bd fr fo lw lh lv ac dn fi p1 p2 p3 lat nxt))), (nx, .inl (cI, 4, .inl (tu_rn mem sf bd fr fo lw lh lv ac dn fi p1 p2 p3 nxt))), (ou, .inl (cJ, 1, .inr (.inl (vp_updL of 0 ((tu_rd mem sf bd fr fo lw lh lv ac dn fi p1 p2 p3 lat nxt) 0 : Int32).toInt64))))] := hD.sub [0, 1, 2, 3, 4, 5, 6, 7, 8] (by decide) rfl
  have hK9 : va_K (dC, dI) vwCl [(cU, .object "TextureUnits$Unit"), (cI, .int), (cJ, .long)] s := hK.sub [0, 1, 2] rfl
  exact W.iret (v := 0) hx hb hr (fun t ht hW => ⟨⟨0, (), rfl, rfl, by rw [ht]; exact hP9, va_K.moved hW.alike hK9, hD9⟩, hS.F ht⟩) hS.2.2 dL_read_22
set_option maxHeartbeats 4000000 in
set_option maxRecDepth 100000 in
theorem k_read1 (l : Launch) (dC : Nat → ClassId) (dI : Nat → Nat → Nat) (q wd us la nx : Nat) (p0 p1 p2 p3 : Int32) (ou : Nat) (cJ : ClassId) (of : Nat → Int64) (sz : Nat) (hst : l.stackTraces = false) (h0 : tu_win p0 0 3 = 0) : Met l yL_read wsL_read ({ frames := 8, cells := 1, slots := 6, locals := 132 }) (va_Pc [.ref q, .int p0, .int p1, .int p2, .int p3, .ref ou] (fun U => wr_P (dC, dI) vwCl [(q, .inr (1, [.ref wd, .ref us, .ref la, .ref nx])), (ou, .inl (cJ, 1, .inr (.inl of)))] [(cJ, .long)] sz U ∧ ex_E (fun _ => False) U U.heap)) (va_Qi (fun (r9 : Int32) (_ : Unit) => r9 = 1) (wr_B (dC, dI) vwCl [(q, .inr (1, [.ref wd, .ref us, .ref la, .ref nx])), (ou, .inl (cJ, 1, .inr (.inl of)))] [(cJ, .long)] (va_A [(q, .inr (1, [.ref wd, .ref us, .ref la, .ref nx])), (ou, .inl (cJ, 1, .inr (.inl of)))] sz)) (va_A [(q, .inr (1, [.ref wd, .ref us, .ref la, .ref nx])), (ou, .inl (cJ, 1, .inr (.inl of)))] sz)) 1 6 (va_A [(q, .inr (1, [.ref wd, .ref us, .ref la, .ref nx])), (ou, .inl (cJ, 1, .inr (.inl of)))] sz) := by
  refine va_MetW (cc := cL_read) (maxL := 7) (ret := some .int) (by decide) rfl ?_
  intro p e s m args below meth c s₁ B hml hv
  obtain ⟨rfl, ⟨hsz, hP, hK, hD0⟩, hV⟩ := hv
  have hx := B.exec
  have hb := B.bytes
  have hr := B.returns
  have hts := atoms_spec (ws := wsL_read) B.pre
  have hown : s.vm.findClass "TextureUnitsLaw" = some m.cls := findClass_of_methodNamed B.named
  have hlocks := B.notSynchronized
  have hTab := vx_table (x := yL_read) B (hts _ List.mem_cons_self)
  subst hsz
  have hD := hD0.self (sz := s.heap.size)
  generalize hAe : va_A [(q, .inr (1, [.ref wd, .ref us, .ref la, .ref nx])), (ou, .inl (cJ, 1, .inr (.inl of)))] s.heap.size = A at hD ⊢
  have hA : ∀ q : Nat, s.heap.size ≤ q → A q := fun q h => by rw [← hAe]; exact Or.inr h
  have hS : va_S A s.heap s.heap [] := va_S.rf
  have hP : va_P (dC, dI) vwCl [(q, .inr (1, [.ref wd, .ref us, .ref la, .ref nx])), (ou, .inl (cJ, 1, .inr (.inl of)))] s.heap := hP
  have hl := lv_entry ([.ref q, .int p0, .int p1, .int p2, .int p3, .ref ou]) (n := 7) (Nat.le_of_ble_eq_true rfl)
  rw [lg_entry_eq]
  generalize (lg_sl ([.ref q, .int p0, .int p1, .int p2, .int p3, .ref ou]) ++ List.replicate (7 - (lg_sl ([.ref q, .int p0, .int p1, .int p2, .int p3, .ref ou])).length) Slot.unset).toArray = ls at hl ⊢
  have hl : lv_has ls 7 [(0, .ref q), (1, .int p0), (2, .int p1), (3, .int p2), (4, .int p3), (5, .ref ou)] := hl
  refine lv_aload hx hb dL_read_0 (lv_at hl 5 rfl) ?_
  refine lv_iconst (v := 0) hx hb dL_read_2 (by decide) ?_
  refine lv_aload_n hx hb dL_read_3 rfl (lv_at hl 0 rfl) ?_
  refine lv_iload_n hx hb dL_read_4 rfl (lv_at hl 1 rfl) ?_
  refine lv_iload_n hx hb dL_read_5 rfl (lv_at hl 2 rfl) ?_
  refine lv_iload_n hx hb dL_read_6 rfl (lv_at hl 3 rfl) ?_
  refine lv_iload hx hb dL_read_7 (lv_at hl 4 rfl) ?_
  refine tx_call (vx_runV (As := [.int p0, .int p1, .int p2, .int p3]) (rest := [.int 0, .ref ou]) ⟨hx, hb, hml, hown, hts⟩ (x_read l hst dC dI q wd us la nx p0 p1 p2 p3 h0) (cwV 4 hts (tg_V tw_273 tw_274 tw_275 tw_1 tw_276) rfl rfl rfl (by decide +kernel) ⟨Nat.le_of_ble_eq_true rfl, Nat.le_of_ble_eq_true rfl⟩) ⟨tx_blind, va_recv hK hP (ci := 1) (q0 := 0) rfl rfl, fun U hU hW => ⟨rfl, tx_use (hP.sub [0] rfl) (hK.sub [] rfl) hV U hU hW⟩⟩ rfl rfl hl.1 rfl (lv_room (Nat.le_of_ble_eq_true rfl)) dL_read_9 ⟨Nat.le_of_ble_eq_true rfl, Nat.le_of_ble_eq_true rfl⟩) (fun H1 q1 ce h1 h2 h3 h4 h5 => ?_)
  refine vx_catch (own := "TextureUnitsLaw") (name := ex_S) (E := ex_S) hown [] ⟨0, 14, 17, 19⟩ [] (by rw [hTab]; rfl) (fun z hz => nomatch hz) (by decide) (by decide) (hts _ (tw_c tw_168)) (hV.1.use (w := .castable ex_S ex_S) (by decide +kernel)) h3 h4 h5 ?_
  have hP : va_P (dC, dI) vwCl [(q, .inr (1, [.ref wd, .ref us, .ref la, .ref nx])), (ou, .inl (cJ, 1, .inr (.inl of)))] H1 := hP.kept (fun k q hk => h2 _ (hP k q hk).lt)
  have hS : va_S A s.heap H1 [] := ⟨h1, fun q hq _ => h2 q hq, fun _ h => by cases h⟩
  generalize H1 = H at hP hS ⊢
  refine lv_astore (lv' := [(6, .ref q1), (0, .ref q), (1, .int p0), (2, .int p1), (3, .int p2), (4, .int p3), (5, .ref ou)]) hx hb dL_read_17 hl (by decide) rfl (fun ls hl => ?_)
  refine lv_iconst (v := 1) hx hb dL_read_19 (by decide) ?_
  have hP9 : va_P (dC, dI) vwCl [(q, .inr (1, [.ref wd, .ref us, .ref la, .ref nx])), (ou, .inl (cJ, 1, .inr (.inl of)))] H := hP.sub [0, 1] rfl
  have hD9 : va_D A [(q, .inr (1, [.ref wd, .ref us, .ref la, .ref nx])), (ou, .inl (cJ, 1, .inr (.inl of)))] := hD.sub [0, 1] (by decide) rfl
  have hK9 : va_K (dC, dI) vwCl [(cJ, .long)] s := hK.sub [0] rfl
  refine W.widen (k := 1) (n := 6) (by omega) (by omega) ?_
  exact W.iret (v := 1) hx hb hr (fun t ht hW => ⟨⟨1, (), rfl, rfl, by rw [ht]; exact hP9, va_K.moved hW.alike hK9, hD9⟩, hS.F ht⟩) hS.2.2 dL_read_20
set_option maxHeartbeats 4000000 in
set_option maxRecDepth 100000 in
theorem k_also0 (l : Launch) (dC : Nat → ClassId) (dI : Nat → Nat → Nat) (q wd us la nx : Nat) (cI : ClassId) (lat : Nat → Int32) (p0 : Int32) (ou : Nat) (cJ : ClassId) (of : Nat → Int64) (sz : Nat) (h0 : ¬ tu_win p0 0 3 = 0) : Met l yL_also wsL_also ({ frames := 2, cells := 0, slots := 0, locals := 43 }) (va_Pc [.ref q, .int p0, .ref ou] (wr_P (dC, dI) vwCl [(q, .inr (1, [.ref wd, .ref us, .ref la, .ref nx])), (la, .inl (cI, 4, .inl lat)), (ou, .inl (cJ, 1, .inr (.inl of)))] [(cI, .int), (cJ, .long)] sz)) (va_Qi (fun (r9 : Int32) (_ : Unit) => r9 = 0) (wr_B (dC, dI) vwCl [(q, .inr (1, [.ref wd, .ref us, .ref la, .ref nx])), (la, .inl (cI, 4, .inl lat)), (ou, .inl (cJ, 1, .inr (.inl (vp_updL of 0 (lat p0.toNatClampNeg : Int32).toInt64))))] [(cI, .int), (cJ, .long)] (va_A [(q, .inr (1, [.ref wd, .ref us, .ref la, .ref nx])), (la, .inl (cI, 4, .inl lat)), (ou, .inl (cJ, 1, .inr (.inl of)))] sz)) (va_A [(q, .inr (1, [.ref wd, .ref us, .ref la, .ref nx])), (la, .inl (cI, 4, .inl lat)), (ou, .inl (cJ, 1, .inr (.inl of)))] sz)) 0 0 (va_A [(q, .inr (1, [.ref wd, .ref us, .ref la, .ref nx])), (la, .inl (cI, 4, .inl lat)), (ou, .inl (cJ, 1, .inr (.inl of)))] sz) := by
  refine va_MetW (cc := cL_also) (maxL := 4) (ret := some .int) (by decide) rfl ?_
  intro p e s m args below meth c s₁ B hml hv
  obtain ⟨rfl, hsz, hP, hK, hD0⟩ := hv
  have hx := B.exec
  have hb := B.bytes
  have hr := B.returns
  have hts := atoms_spec (ws := wsL_also) B.pre
  have hown : s.vm.findClass "TextureUnitsLaw" = some m.cls := findClass_of_methodNamed B.named
  have hlocks := B.notSynchronized
  have hTab := vx_table (x := yL_also) B (hts _ List.mem_cons_self)
  subst hsz
  have hD := hD0.self (sz := s.heap.size)
  generalize hAe : va_A [(q, .inr (1, [.ref wd, .ref us, .ref la, .ref nx])), (la, .inl (cI, 4, .inl lat)), (ou, .inl (cJ, 1, .inr (.inl of)))] s.heap.size = A at hD ⊢
  have hA : ∀ q : Nat, s.heap.size ≤ q → A q := fun q h => by rw [← hAe]; exact Or.inr h
  have hS : va_S A s.heap s.heap [] := va_S.rf
  have hP : va_P (dC, dI) vwCl [(q, .inr (1, [.ref wd, .ref us, .ref la, .ref nx])), (la, .inl (cI, 4, .inl lat)), (ou, .inl (cJ, 1, .inr (.inl of)))] s.heap := hP
  have hl := lv_entry ([.ref q, .int p0, .ref ou]) (n := 4) (Nat.le_of_ble_eq_true rfl)
  rw [lg_entry_eq]
  generalize (lg_sl ([.ref q, .int p0, .ref ou]) ++ List.replicate (4 - (lg_sl ([.ref q, .int p0, .ref ou])).length) Slot.unset).toArray = ls at hl ⊢
  have hl : lv_has ls 4 [(0, .ref q), (1, .int p0), (2, .ref ou)] := hl
  refine lv_aload_n hx hb dL_also_0 rfl (lv_at hl 2 rfl) ?_
  refine lv_iconst (v := 0) hx hb dL_also_1 (by decide) ?_
  refine lv_aload_n hx hb dL_also_2 rfl (lv_at hl 0 rfl) ?_
  refine lv_iload_n hx hb dL_also_3 rfl (lv_at hl 1 rfl) ?_
  refine rd_call (W.runV (As := [.int p0]) (rest := [.int 0, .ref ou]) ⟨hx, hb, hml, hown, hts⟩ (r_also l dC dI q wd us la nx cI lat p0 h0) (cwV 1 hts (tg_V tw_323 tw_324 tw_325 tw_1 tw_326) rfl rfl rfl (by decide +kernel) ⟨Nat.le_of_ble_eq_true rfl, Nat.le_of_ble_eq_true rfl⟩) ⟨rd_blind, va_recv hK hP (ci := 1) (q0 := 0) rfl rfl, fun U hU hW => ⟨rfl, rd_use (hP.sub [0, 1] rfl) (hK.sub [0] rfl) U hU hW⟩⟩ rfl rfl hl.1 rfl (lv_room (Nat.le_of_ble_eq_true rfl)) dL_also_4 ⟨Nat.le_of_ble_eq_true rfl, Nat.le_of_ble_eq_true rfl⟩) ?_
  refine lv_i2l hx hb dL_also_7 rfl ?_
  refine va_last hx hb hK hP hD hS 2 1 rfl rfl (tu_in (by decide)) dL_also_8 (fun H locs hP hD hS => ?_)
  have hP : va_P (dC, dI) vwCl [(q, .inr (1, [.ref wd, .ref us, .ref la, .ref nx])), (la, .inl (cI, 4, .inl lat)), (ou, .inl (cJ, 1, .inr (.inl (vp_updL of 0 (((lat p0.toNatClampNeg) : Int32).toInt64)))))] H := hP
  have hD : va_D A [(q, .inr (1, [.ref wd, .ref us, .ref la, .ref nx])), (la, .inl (cI, 4, .inl lat)), (ou, .inl (cJ, 1, .inr (.inl (vp_updL of 0 (((lat p0.toNatClampNeg) : Int32).toInt64)))))] := hD
  refine lv_goto (tgt := 15) hx hb dL_also_9 (by decide) ?_
  refine lv_iconst (v := 0) hx hb dL_also_15 (by decide) ?_
  have hP9 : va_P (dC, dI) vwCl [(q, .inr (1, [.ref wd, .ref us, .ref la, .ref nx])), (la, .inl (cI, 4, .inl lat)), (ou, .inl (cJ, 1, .inr (.inl (vp_updL of 0 (lat p0.toNatClampNeg : Int32).toInt64))))] H := hP.sub [0, 1, 2] rfl
  have hD9 : va_D A [(q, .inr (1, [.ref wd, .ref us, .ref la, .ref nx])), (la, .inl (cI, 4, .inl lat)), (ou, .inl (cJ, 1, .inr (.inl (vp_updL of 0 (lat p0.toNatClampNeg : Int32).toInt64))))] := hD.sub [0, 1, 2] (by decide) rfl
  have hK9 : va_K (dC, dI) vwCl [(cI, .int), (cJ, .long)] s := hK.sub [0, 1] rfl
  exact W.iret (v := 0) hx hb hr (fun t ht hW => ⟨⟨0, (), rfl, rfl, by rw [ht]; exact hP9, va_K.moved hW.alike hK9, hD9⟩, hS.F ht⟩) hS.2.2 dL_also_16
set_option maxHeartbeats 4000000 in
set_option maxRecDepth 100000 in
theorem k_also1 (l : Launch) (dC : Nat → ClassId) (dI : Nat → Nat → Nat) (q wd us la nx : Nat) (p0 : Int32) (ou : Nat) (cJ : ClassId) (of : Nat → Int64) (sz : Nat) (hst : l.stackTraces = false) (h0 : tu_win p0 0 3 = 0) : Met l yL_also wsL_also ({ frames := 7, cells := 1, slots := 6, locals := 103 }) (va_Pc [.ref q, .int p0, .ref ou] (fun U => wr_P (dC, dI) vwCl [(q, .inr (1, [.ref wd, .ref us, .ref la, .ref nx])), (ou, .inl (cJ, 1, .inr (.inl of)))] [(cJ, .long)] sz U ∧ ex_E (fun _ => False) U U.heap)) (va_Qi (fun (r9 : Int32) (_ : Unit) => r9 = 1) (wr_B (dC, dI) vwCl [(q, .inr (1, [.ref wd, .ref us, .ref la, .ref nx])), (ou, .inl (cJ, 1, .inr (.inl of)))] [(cJ, .long)] (va_A [(q, .inr (1, [.ref wd, .ref us, .ref la, .ref nx])), (ou, .inl (cJ, 1, .inr (.inl of)))] sz)) (va_A [(q, .inr (1, [.ref wd, .ref us, .ref la, .ref nx])), (ou, .inl (cJ, 1, .inr (.inl of)))] sz)) 1 6 (va_A [(q, .inr (1, [.ref wd, .ref us, .ref la, .ref nx])), (ou, .inl (cJ, 1, .inr (.inl of)))] sz) := by
  refine va_MetW (cc := cL_also) (maxL := 4) (ret := some .int) (by decide) rfl ?_
  intro p e s m args below meth c s₁ B hml hv
  obtain ⟨rfl, ⟨hsz, hP, hK, hD0⟩, hV⟩ := hv
  have hx := B.exec
  have hb := B.bytes
  have hr := B.returns
  have hts := atoms_spec (ws := wsL_also) B.pre
  have hown : s.vm.findClass "TextureUnitsLaw" = some m.cls := findClass_of_methodNamed B.named
  have hlocks := B.notSynchronized
  have hTab := vx_table (x := yL_also) B (hts _ List.mem_cons_self)
  subst hsz
  have hD := hD0.self (sz := s.heap.size)
  generalize hAe : va_A [(q, .inr (1, [.ref wd, .ref us, .ref la, .ref nx])), (ou, .inl (cJ, 1, .inr (.inl of)))] s.heap.size = A at hD ⊢
  have hA : ∀ q : Nat, s.heap.size ≤ q → A q := fun q h => by rw [← hAe]; exact Or.inr h
  have hS : va_S A s.heap s.heap [] := va_S.rf
  have hP : va_P (dC, dI) vwCl [(q, .inr (1, [.ref wd, .ref us, .ref la, .ref nx])), (ou, .inl (cJ, 1, .inr (.inl of)))] s.heap := hP
  have hl := lv_entry ([.ref q, .int p0, .ref ou]) (n := 4) (Nat.le_of_ble_eq_true rfl)
  rw [lg_entry_eq]
  generalize (lg_sl ([.ref q, .int p0, .ref ou]) ++ List.replicate (4 - (lg_sl ([.ref q, .int p0, .ref ou])).length) Slot.unset).toArray = ls at hl ⊢
  have hl : lv_has ls 4 [(0, .ref q), (1, .int p0), (2, .ref ou)] := hl
  refine lv_aload_n hx hb dL_also_0 rfl (lv_at hl 2 rfl) ?_
  refine lv_iconst (v := 0) hx hb dL_also_1 (by decide) ?_
  refine lv_aload_n hx hb dL_also_2 rfl (lv_at hl 0 rfl) ?_
  refine lv_iload_n hx hb dL_also_3 rfl (lv_at hl 1 rfl) ?_
  refine tx_call (vx_runV (As := [.int p0]) (rest := [.int 0, .ref ou]) ⟨hx, hb, hml, hown, hts⟩ (x_also l hst dC dI q wd us la nx p0 h0) (cwV 1 hts (tg_V tw_323 tw_324 tw_325 tw_1 tw_326) rfl rfl rfl (by decide +kernel) ⟨Nat.le_of_ble_eq_true rfl, Nat.le_of_ble_eq_true rfl⟩) ⟨tx_blind, va_recv hK hP (ci := 1) (q0 := 0) rfl rfl, fun U hU hW => ⟨rfl, tx_use (hP.sub [0] rfl) (hK.sub [] rfl) hV U hU hW⟩⟩ rfl rfl hl.1 rfl (lv_room (Nat.le_of_ble_eq_true rfl)) dL_also_4 ⟨Nat.le_of_ble_eq_true rfl, Nat.le_of_ble_eq_true rfl⟩) (fun H1 q1 ce h1 h2 h3 h4 h5 => ?_)
  refine vx_catch (own := "TextureUnitsLaw") (name := ex_I) (E := ex_I) hown [] ⟨0, 9, 12, 13⟩ [] (by rw [hTab]; rfl) (fun z hz => nomatch hz) (by decide) (by decide) (hts _ (tw_c tw_89)) (hV.1.use (w := .castable ex_I ex_I) (by decide +kernel)) h3 h4 h5 ?_
  have hP : va_P (dC, dI) vwCl [(q, .inr (1, [.ref wd, .ref us, .ref la, .ref nx])), (ou, .inl (cJ, 1, .inr (.inl of)))] H1 := hP.kept (fun k q hk => h2 _ (hP k q hk).lt)
  have hS : va_S A s.heap H1 [] := ⟨h1, fun q hq _ => h2 q hq, fun _ h => by cases h⟩
  generalize H1 = H at hP hS ⊢
  refine lv_astore_n (lv' := [(3, .ref q1), (0, .ref q), (1, .int p0), (2, .ref ou)]) hx hb dL_also_12 rfl hl (by decide) rfl (fun ls hl => ?_)
  refine lv_iconst (v := 1) hx hb dL_also_13 (by decide) ?_
  have hP9 : va_P (dC, dI) vwCl [(q, .inr (1, [.ref wd, .ref us, .ref la, .ref nx])), (ou, .inl (cJ, 1, .inr (.inl of)))] H := hP.sub [0, 1] rfl
  have hD9 : va_D A [(q, .inr (1, [.ref wd, .ref us, .ref la, .ref nx])), (ou, .inl (cJ, 1, .inr (.inl of)))] := hD.sub [0, 1] (by decide) rfl
  have hK9 : va_K (dC, dI) vwCl [(cJ, .long)] s := hK.sub [0] rfl
  refine W.widen (k := 1) (n := 6) (by omega) (by omega) ?_
  exact W.iret (v := 1) hx hb hr (fun t ht hW => ⟨⟨1, (), rfl, rfl, by rw [ht]; exact hP9, va_K.moved hW.alike hK9, hD9⟩, hS.F ht⟩) hS.2.2 dL_also_14
