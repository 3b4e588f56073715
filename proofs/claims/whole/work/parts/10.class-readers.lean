theorem tw_1 : (Cond.initialized "TextureUnits") ∈ TW := tw_t1 1 (by decide +kernel) (by decide +kernel)
theorem tw_10 : (Cond.initialized "java/lang/Math") ∈ TW := tw_t1 10 (by decide +kernel) (by decide +kernel)
theorem tw_2 : (Cond.initialized "TextureUnits$Unit") ∈ TW := tw_t1 2 (by decide +kernel) (by decide +kernel)
theorem tw_242 : (Cond.methodLink "TextureUnits" 95 ⟨"TextureUnits", "stored", "(LTextureUnits$Unit;IIII)I"⟩) ∈ TW := tw_t2 2 (by decide +kernel) (by decide +kernel)
theorem tw_244 : (Cond.instanceMethod ⟨"TextureUnits", "stored", "(LTextureUnits$Unit;IIII)I"⟩) ∈ TW := tw_t2 4 (by decide +kernel) (by decide +kernel)
theorem tw_245 : (Cond.code ⟨"TextureUnits", "stored", "(LTextureUnits$Unit;IIII)I"⟩ prog_1_method_15_code 12 (.some .int)) ∈ TW := tw_t2 5 (by decide +kernel) (by decide +kernel)
theorem tw_246 : (Cond.fieldLink "TextureUnits" 140 "TextureUnits" "CHANNEL_BITS" "[I") ∈ TW := tw_t2 6 (by decide +kernel) (by decide +kernel)
theorem tw_248 : (Cond.constant "TextureUnits" 143 (65536 : Int32)) ∈ TW := tw_t2 8 (by decide +kernel) (by decide +kernel)
theorem tw_249 : (Cond.methodLink "TextureUnits" 144 ⟨"TextureUnits$Unit", "numberOf", "(III)I"⟩) ∈ TW := tw_t2 9 (by decide +kernel) (by decide +kernel)
theorem tw_250 : (Cond.instanceMethod ⟨"TextureUnits$Unit", "numberOf", "(III)I"⟩) ∈ TW := tw_t2 10 (by decide +kernel) (by decide +kernel)
theorem tw_251 : (Cond.selects "TextureUnits$Unit" ⟨"TextureUnits$Unit", "numberOf", "(III)I"⟩ ⟨"TextureUnits$Unit", "numberOf", "(III)I"⟩) ∈ TW := tw_t2 11 (by decide +kernel) (by decide +kernel)
theorem tw_252 : (Cond.code ⟨"TextureUnits$Unit", "numberOf", "(III)I"⟩ prog_2_method_5_code 4 (.some .int)) ∈ TW := tw_t2 12 (by decide +kernel) (by decide +kernel)
theorem tw_253 : (Cond.fieldLink "TextureUnits" 147 "TextureUnits" "TEXEL_BITS" "[I") ∈ TW := tw_t2 13 (by decide +kernel) (by decide +kernel)
theorem tw_255 : (Cond.constantLong "TextureUnits" 150 (31 : Int64)) ∈ TW := tw_t2 15 (by decide +kernel) (by decide +kernel)
theorem tw_256 : (Cond.fieldLink "TextureUnits" 152 "TextureUnits" "CHANNEL_START" "[I") ∈ TW := tw_t2 16 (by decide +kernel) (by decide +kernel)
theorem tw_258 : (Cond.methodLink "TextureUnits" 155 ⟨"TextureUnits", "wordAt", "(J)I"⟩) ∈ TW := tw_t2 18 (by decide +kernel) (by decide +kernel)
theorem tw_260 : (Cond.instanceMethod ⟨"TextureUnits", "wordAt", "(J)I"⟩) ∈ TW := tw_t2 20 (by decide +kernel) (by decide +kernel)
theorem tw_261 : (Cond.code ⟨"TextureUnits", "wordAt", "(J)I"⟩ prog_1_method_16_code 3 (.some .int)) ∈ TW := tw_t2 21 (by decide +kernel) (by decide +kernel)
theorem tw_262 : (Cond.constantLong "TextureUnits" 158 (2048 : Int64)) ∈ TW := tw_t2 22 (by decide +kernel) (by decide +kernel)
theorem tw_277 : (Cond.methodLink "TextureUnits" 102 ⟨"TextureUnits", "cut", "(III)I"⟩) ∈ TW := tw_t2 37 (by decide +kernel) (by decide +kernel)
theorem tw_278 : (Cond.static ⟨"TextureUnits", "cut", "(III)I"⟩) ∈ TW := tw_t2 38 (by decide +kernel) (by decide +kernel)
theorem tw_279 : (Cond.code ⟨"TextureUnits", "cut", "(III)I"⟩ prog_1_method_22_code 3 (.some .int)) ∈ TW := tw_t2 39 (by decide +kernel) (by decide +kernel)
theorem tw_280 : (Cond.methodLink "TextureUnits" 166 ⟨"java/lang/Math", "min", "(II)I"⟩) ∈ TW := tw_t2 40 (by decide +kernel) (by decide +kernel)
theorem tw_281 : (Cond.static ⟨"java/lang/Math", "min", "(II)I"⟩) ∈ TW := tw_t2 41 (by decide +kernel) (by decide +kernel)
theorem tw_282 : (Cond.code ⟨"java/lang/Math", "min", "(II)I"⟩ prog_8_method_69_code 2 (.some .int)) ∈ TW := tw_t2 42 (by decide +kernel) (by decide +kernel)
theorem tw_283 : (Cond.methodLink "TextureUnits" 171 ⟨"java/lang/Math", "max", "(II)I"⟩) ∈ TW := tw_t2 43 (by decide +kernel) (by decide +kernel)
theorem tw_284 : (Cond.static ⟨"java/lang/Math", "max", "(II)I"⟩) ∈ TW := tw_t2 44 (by decide +kernel) (by decide +kernel)
theorem tw_285 : (Cond.code ⟨"java/lang/Math", "max", "(II)I"⟩ prog_8_method_65_code 2 (.some .int)) ∈ TW := tw_t2 45 (by decide +kernel) (by decide +kernel)
theorem tw_30 : (Cond.methodLink "TextureUnits$Unit" 32 ⟨"TextureUnits$Unit", "width", "(I)I"⟩) ∈ TW := tw_t1 30 (by decide +kernel) (by decide +kernel)
theorem tw_301 : (Cond.methodLink "TextureUnits" 160 ⟨"TextureUnits", "mirrored", "(II)I"⟩) ∈ TW := tw_t2 61 (by decide +kernel) (by decide +kernel)
theorem tw_302 : (Cond.static ⟨"TextureUnits", "mirrored", "(II)I"⟩) ∈ TW := tw_t2 62 (by decide +kernel) (by decide +kernel)
theorem tw_303 : (Cond.code ⟨"TextureUnits", "mirrored", "(II)I"⟩ prog_1_method_18_code 3 (.some .int)) ∈ TW := tw_t2 63 (by decide +kernel) (by decide +kernel)
theorem tw_307 : (Cond.constantLong "TextureUnits" 164 (65535 : Int64)) ∈ TW := tw_t2 67 (by decide +kernel) (by decide +kernel)
theorem tw_31 : (Cond.instanceMethod ⟨"TextureUnits$Unit", "width", "(I)I"⟩) ∈ TW := tw_t1 31 (by decide +kernel) (by decide +kernel)
theorem tw_32 : (Cond.selects "TextureUnits$Unit" ⟨"TextureUnits$Unit", "width", "(I)I"⟩ ⟨"TextureUnits$Unit", "width", "(I)I"⟩) ∈ TW := tw_t1 32 (by decide +kernel) (by decide +kernel)
theorem tw_33 : (Cond.code ⟨"TextureUnits$Unit", "width", "(I)I"⟩ prog_2_method_3_code 2 (.some .int)) ∈ TW := tw_t1 33 (by decide +kernel) (by decide +kernel)
theorem tw_38 : (Cond.fieldLink "TextureUnits" 52 "TextureUnits$Unit" "from" "I") ∈ TW := tw_t1 38 (by decide +kernel) (by decide +kernel)
theorem tw_39 : (Cond.fieldLink "TextureUnits" 56 "TextureUnits$Unit" "format" "I") ∈ TW := tw_t1 39 (by decide +kernel) (by decide +kernel)
theorem tw_40 : (Cond.fieldLink "TextureUnits$Unit" 22 "TextureUnits$Unit" "logWidth" "I") ∈ TW := tw_t1 40 (by decide +kernel) (by decide +kernel)
theorem tw_41 : (Cond.fieldLink "TextureUnits$Unit" 26 "TextureUnits$Unit" "logHeight" "I") ∈ TW := tw_t1 41 (by decide +kernel) (by decide +kernel)
theorem tw_48 : (Cond.fieldLink "TextureUnits" 76 "TextureUnits$Unit" "borderColour" "[I") ∈ TW := tw_t1 48 (by decide +kernel) (by decide +kernel)
theorem tw_49 : (Cond.fieldLink "TextureUnits$Unit" 15 "TextureUnits$Unit" "starts" "[I") ∈ TW := tw_t1 49 (by decide +kernel) (by decide +kernel)
theorem tw_73 : (Cond.fieldLink "TextureUnits" 9 "TextureUnits" "words" "[I") ∈ TW := tw_t1 73 (by decide +kernel) (by decide +kernel)
theorem tw_94 : (Cond.methodLink "TextureUnits" 26 ⟨"TextureUnits", "within", "(III)Z"⟩) ∈ TW := tw_t1 94 (by decide +kernel) (by decide +kernel)
theorem tw_95 : (Cond.static ⟨"TextureUnits", "within", "(III)Z"⟩) ∈ TW := tw_t1 95 (by decide +kernel) (by decide +kernel)
theorem tw_96 : (Cond.code ⟨"TextureUnits", "within", "(III)Z"⟩ prog_1_method_23_code 3 (.some .boolean)) ∈ TW := tw_t1 96 (by decide +kernel) (by decide +kernel)
theorem tw_p2 : (Cond.selects "TextureUnits" ⟨"TextureUnits", "stored", "(LTextureUnits$Unit;IIII)I"⟩ ⟨"TextureUnits", "stored", "(LTextureUnits$Unit;IIII)I"⟩) ∈ TW := tw_t0 2 (by decide +kernel) (by decide +kernel)
theorem tw_p3 : (Cond.selects "TextureUnits" ⟨"TextureUnits", "wordAt", "(J)I"⟩ ⟨"TextureUnits", "wordAt", "(J)I"⟩) ∈ TW := tw_t0 3 (by decide +kernel) (by decide +kernel)
set_option maxHeartbeats 4000000 in
set_option maxRecDepth 100000 in
theorem r_within (l : Launch) (p0 : Int32) (p1 : Int32) (p2 : Int32) : Met l yX1_within wsX1_within ({ frames := 0, cells := 0, slots := 0, locals := 0 }) (fun v _ => v = ([.int p0, .int p1, .int p2] : List Value).toArray) (QcRead (tu_win p0 p1 p2)) 0 0 (fun _ => False) := by
  refine Met.ofW (cc := cX1_within) (maxL := 3) (ret := some .boolean) (by decide) rfl ?_
  intro p e s m args below meth c s₁ B hml hv
  subst hv
  have hx := B.exec
  have hb := B.bytes
  have hr := B.returns
  have hts := atoms_spec (ws := wsX1_within) B.pre
  have hown : s.vm.findClass "TextureUnits" = some m.cls := findClass_of_methodNamed B.named
  have hlocks := B.notSynchronized
  have hl := lv_entry ([.int p0, .int p1, .int p2]) (n := 3) (Nat.le_of_ble_eq_true rfl)
  rw [lg_entry_eq]
  generalize (lg_sl ([.int p0, .int p1, .int p2]) ++ List.replicate (3 - (lg_sl ([.int p0, .int p1, .int p2])).length) Slot.unset).toArray = ls at hl ⊢
  have hl : lv_has ls 3 [(0, .int p0), (1, .int p1), (2, .int p2)] := hl
  refine lv_iload_n hx hb dX1_within_0 rfl (lv_at hl 0 rfl) ?_
  refine lv_iload_n hx hb dX1_within_1 rfl (lv_at hl 1 rfl) ?_
  refine lv_icmp_lt (tgt := 14) hx hb dX1_within_2 (by decide) (fun c_1 => ?_) (fun c_1 => ?_)
  · refine lv_iconst (v := 0) hx hb dX1_within_14 (by decide) ?_
    exact W.zret (ty := .boolean) (v := 0) hx hb hr rfl (fun t ht hW => rd_q (by simp only [tu_win, if_pos c_1]) ht) (fun q h => by cases h) dX1_within_15
  · refine lv_iload_n hx hb dX1_within_5 rfl (lv_at hl 0 rfl) ?_
    refine lv_iload_n hx hb dX1_within_6 rfl (lv_at hl 2 rfl) ?_
    refine lv_icmp_gt (tgt := 14) hx hb dX1_within_7 (by decide) (fun c_2 => ?_) (fun c_2 => ?_)
    · refine lv_iconst (v := 0) hx hb dX1_within_14 (by decide) ?_
      exact W.zret (ty := .boolean) (v := 0) hx hb hr rfl (fun t ht hW => rd_q (by simp only [tu_win, if_neg c_1, if_pos c_2]) ht) (fun q h => by cases h) dX1_within_15
    · refine lv_iconst (v := 1) hx hb dX1_within_10 (by decide) ?_
      refine lv_goto (tgt := 15) hx hb dX1_within_11 (by decide) ?_
      exact W.zret (ty := .boolean) (v := 1) hx hb hr rfl (fun t ht hW => rd_q (by simp only [tu_win, if_neg c_1, if_neg c_2]) ht) (fun q h => by cases h) dX1_within_15
set_option maxHeartbeats 4000000 in
set_option maxRecDepth 100000 in
theorem r_cut (l : Launch) (p0 : Int32) (p1 : Int32) (p2 : Int32) : Met l yX1_cut wsX1_cut ({ frames := 1, cells := 0, slots := 0, locals := 14 }) (fun v _ => v = ([.int p0, .int p1, .int p2] : List Value).toArray) (QcRead (tu_cut p0 p1 p2)) 0 0 (fun _ => False) := by
  refine Met.ofW (cc := cX1_cut) (maxL := 3) (ret := some .int) (by decide) rfl ?_
  intro p e s m args below meth c s₁ B hml hv
  subst hv
  have hx := B.exec
  have hb := B.bytes
  have hr := B.returns
  have hts := atoms_spec (ws := wsX1_cut) B.pre
  have hown : s.vm.findClass "TextureUnits" = some m.cls := findClass_of_methodNamed B.named
  have hlocks := B.notSynchronized
  have hl := lv_entry ([.int p0, .int p1, .int p2]) (n := 3) (Nat.le_of_ble_eq_true rfl)
  rw [lg_entry_eq]
  generalize (lg_sl ([.int p0, .int p1, .int p2]) ++ List.replicate (3 - (lg_sl ([.int p0, .int p1, .int p2])).length) Slot.unset).toArray = ls at hl ⊢
  have hl : lv_has ls 3 [(0, .int p0), (1, .int p1), (2, .int p2)] := hl
  refine lv_iload_n hx hb dX1_cut_0 rfl (lv_at hl 1 rfl) ?_
  refine lv_iload_n hx hb dX1_cut_1 rfl (lv_at hl 2 rfl) ?_
  refine lv_iload_n hx hb dX1_cut_2 rfl (lv_at hl 0 rfl) ?_
  refine va_mmin hx hb (hml.trans hl.1.symm) hown (hts _ (tw_c tw_280)) (hts _ (tw_c tw_281)) (hts _ (tw_c tw_10)) (hts _ (tw_c tw_282)) (Nat.le_of_ble_eq_true rfl) (Nat.le_of_ble_eq_true rfl) (Nat.le_of_ble_eq_true rfl) (Nat.le_of_ble_eq_true rfl) dX1_cut_3 ?_
  refine va_mmax hx hb (hml.trans hl.1.symm) hown (hts _ (tw_c tw_283)) (hts _ (tw_c tw_284)) (hts _ (tw_c tw_10)) (hts _ (tw_c tw_285)) (Nat.le_of_ble_eq_true rfl) (Nat.le_of_ble_eq_true rfl) (Nat.le_of_ble_eq_true rfl) (Nat.le_of_ble_eq_true rfl) dX1_cut_6 ?_
  exact W.iret (v := (if p1 < (if p0 < p2 then p0 else p2) then (if p0 < p2 then p0 else p2) else p1)) hx hb hr (fun t ht hW => rd_q (by simp only [tu_cut]) ht) (fun q h => by cases h) dX1_cut_9
set_option maxHeartbeats 4000000 in
set_option maxRecDepth 100000 in
theorem r_mirrored (l : Launch) (p0 : Int32) (p1 : Int32) : Met l yX1_mirrored wsX1_mirrored ({ frames := 0, cells := 0, slots := 0, locals := 0 }) (fun v _ => v = ([.int p0, .int p1] : List Value).toArray) (QcRead (tu_mir p0 p1)) 0 0 (fun _ => False) := by
  refine Met.ofW (cc := cX1_mirrored) (maxL := 3) (ret := some .int) (by decide) rfl ?_
  intro p e s m args below meth c s₁ B hml hv
  subst hv
  have hx := B.exec
  have hb := B.bytes
  have hr := B.returns
  have hts := atoms_spec (ws := wsX1_mirrored) B.pre
  have hown : s.vm.findClass "TextureUnits" = some m.cls := findClass_of_methodNamed B.named
  have hlocks := B.notSynchronized
  have hl := lv_entry ([.int p0, .int p1]) (n := 3) (Nat.le_of_ble_eq_true rfl)
  rw [lg_entry_eq]
  generalize (lg_sl ([.int p0, .int p1]) ++ List.replicate (3 - (lg_sl ([.int p0, .int p1])).length) Slot.unset).toArray = ls at hl ⊢
  have hl : lv_has ls 3 [(0, .int p0), (1, .int p1)] := hl
  refine lv_iload_n hx hb dX1_mirrored_0 rfl (lv_at hl 0 rfl) ?_
  refine lv_iconst (v := 2) hx hb dX1_mirrored_1 (by decide) ?_
  refine lv_iload_n hx hb dX1_mirrored_2 rfl (lv_at hl 1 rfl) ?_
  refine lv_imul hx hb dX1_mirrored_3 ?_
  refine lv_iconst (v := 1) hx hb dX1_mirrored_4 (by decide) ?_
  refine lv_isub hx hb dX1_mirrored_5 ?_
  refine lv_iand hx hb dX1_mirrored_6 ?_
  refine lv_istore_n (lv' := [(2, .int (p0 &&& (((2 : Int32) * p1) - (1 : Int32)))), (0, .int p0), (1, .int p1)]) hx hb dX1_mirrored_7 rfl hl (by decide) rfl (fun ls hl => ?_)
  refine lv_iload_n hx hb dX1_mirrored_8 rfl (lv_at hl 0 rfl) ?_
  refine lv_iload_n hx hb dX1_mirrored_9 rfl (lv_at hl 2 rfl) ?_
  refine lv_icmp_ge (tgt := 17) hx hb dX1_mirrored_10 (by decide) (fun c_1 => ?_) (fun c_1 => ?_)
  · refine lv_iconst (v := 2) hx hb dX1_mirrored_17 (by decide) ?_
    refine lv_iload_n hx hb dX1_mirrored_18 rfl (lv_at hl 2 rfl) ?_
    refine lv_imul hx hb dX1_mirrored_19 ?_
    refine lv_iconst (v := 1) hx hb dX1_mirrored_20 (by decide) ?_
    refine lv_isub hx hb dX1_mirrored_21 ?_
    refine lv_iload_n hx hb dX1_mirrored_22 rfl (lv_at hl 0 rfl) ?_
    refine lv_isub hx hb dX1_mirrored_23 ?_
    exact W.iret (v := ((((2 : Int32) * p1) - (1 : Int32)) - (p0 &&& (((2 : Int32) * p1) - (1 : Int32))))) hx hb hr (fun t ht hW => rd_q (by simp only [tu_mir, if_pos c_1]) ht) (fun q h => by cases h) dX1_mirrored_24
  · refine lv_iload_n hx hb dX1_mirrored_13 rfl (lv_at hl 0 rfl) ?_
    refine lv_goto (tgt := 24) hx hb dX1_mirrored_14 (by decide) ?_
    exact W.iret (v := (p0 &&& (((2 : Int32) * p1) - (1 : Int32)))) hx hb hr (fun t ht hW => rd_q (by simp only [tu_mir, if_neg c_1]) ht) (fun q h => by cases h) dX1_mirrored_24
set_option maxHeartbeats 4000000 in
set_option maxRecDepth 100000 in
theorem r_mix (l : Launch) (p0 : Int32) (p1 : Int32) (p2 : Int32) : Met l yX1_mix wsX1_mix ({ frames := 0, cells := 0, slots := 0, locals := 0 }) (fun v _ => v = ([.int p0, .int p1, .int p2] : List Value).toArray) (QcRead (tu_mix p0 p1 p2)) 0 0 (fun _ => False) := by
  refine Met.ofW (cc := cX1_mix) (maxL := 5) (ret := some .int) (by decide) rfl ?_
  intro p e s m args below meth c s₁ B hml hv
  subst hv
  have hx := B.exec
  have hb := B.bytes
  have hr := B.returns
  have hts := atoms_spec (ws := wsX1_mix) B.pre
  have hown : s.vm.findClass "TextureUnits" = some m.cls := findClass_of_methodNamed B.named
  have hlocks := B.notSynchronized
  have hl := lv_entry ([.int p0, .int p1, .int p2]) (n := 5) (Nat.le_of_ble_eq_true rfl)
  rw [lg_entry_eq]
  generalize (lg_sl ([.int p0, .int p1, .int p2]) ++ List.replicate (5 - (lg_sl ([.int p0, .int p1, .int p2])).length) Slot.unset).toArray = ls at hl ⊢
  have hl : lv_has ls 5 [(0, .int p0), (1, .int p1), (2, .int p2)] := hl
  refine lv_iload_n hx hb dX1_mix_0 rfl (lv_at hl 1 rfl) ?_
  refine lv_i2l hx hb dX1_mix_1 rfl ?_
  refine lv_iload_n hx hb dX1_mix_2 rfl (lv_at hl 0 rfl) ?_
  refine lv_i2l hx hb dX1_mix_3 rfl ?_
  refine lv_lsub hx hb dX1_mix_4 ?_
  refine lv_lstore_n (lv' := [(3, .long (((p1 : Int32).toInt64) - ((p0 : Int32).toInt64))), (0, .int p0), (1, .int p1), (2, .int p2)]) hx hb dX1_mix_5 rfl hl (by decide) rfl (fun ls hl => ?_)
  refine lv_iload_n hx hb dX1_mix_6 rfl (lv_at hl 1 rfl) ?_
  refine lv_i2l hx hb dX1_mix_7 rfl ?_
  refine lv_lload_n hx hb dX1_mix_8 rfl (lv_at hl 0 rfl) ?_
  refine lv_iload_n hx hb dX1_mix_9 rfl (lv_at hl 3 rfl) ?_
  refine lv_i2l hx hb dX1_mix_10 rfl ?_
  refine lv_lmul hx hb dX1_mix_11 ?_
  refine lv_bipush (v := 16) hx hb dX1_mix_12 (by decide) ?_
  refine lv_lshr hx hb dX1_mix_14 rfl ?_
  refine lv_ladd hx hb dX1_mix_15 ?_
  refine lv_l2i hx hb dX1_mix_16 rfl ?_
  exact W.iret (v := ((((p0 : Int32).toInt64) + (((((p1 : Int32).toInt64) - ((p0 : Int32).toInt64)) * ((p2 : Int32).toInt64)) >>> ((16 : Int32).toInt64 &&& 63))) : Int64).toInt32) hx hb hr (fun t ht hW => rd_q (by simp only [tu_mix]) ht) (fun q h => by cases h) dX1_mix_17
set_option maxHeartbeats 4000000 in
set_option maxRecDepth 100000 in
theorem r_whole (l : Launch) (p0 : Int64) : Met l yX1_whole wsX1_whole ({ frames := 0, cells := 0, slots := 0, locals := 0 }) (fun v _ => v = ([.long p0] : List Value).toArray) (QcRead (tu_whole p0)) 0 0 (fun _ => False) := by
  refine Met.ofW (cc := cX1_whole) (maxL := 2) (ret := some .int) (by decide) rfl ?_
  intro p e s m args below meth c s₁ B hml hv
  subst hv
  have hx := B.exec
  have hb := B.bytes
  have hr := B.returns
  have hts := atoms_spec (ws := wsX1_whole) B.pre
  have hown : s.vm.findClass "TextureUnits" = some m.cls := findClass_of_methodNamed B.named
  have hlocks := B.notSynchronized
  have hl := lv_entry ([.long p0]) (n := 2) (Nat.le_of_ble_eq_true rfl)
  rw [lg_entry_eq]
  generalize (lg_sl ([.long p0]) ++ List.replicate (2 - (lg_sl ([.long p0])).length) Slot.unset).toArray = ls at hl ⊢
  have hl : lv_has ls 2 [(0, .long p0)] := hl
  refine lv_lload_n hx hb dX1_whole_0 rfl (lv_at hl 0 rfl) ?_
  refine lv_bipush (v := 16) hx hb dX1_whole_1 (by decide) ?_
  refine lv_lshr hx hb dX1_whole_3 rfl ?_
  refine lv_l2i hx hb dX1_whole_4 rfl ?_
  exact W.iret (v := ((p0 >>> ((16 : Int32).toInt64 &&& 63)) : Int64).toInt32) hx hb hr (fun t ht hW => rd_q (by simp only [tu_whole]) ht) (fun q h => by cases h) dX1_whole_5
set_option maxHeartbeats 4000000 in
set_option maxRecDepth 100000 in
theorem r_rest (l : Launch) (p0 : Int64) : Met l yX1_rest wsX1_rest ({ frames := 0, cells := 0, slots := 0, locals := 0 }) (fun v _ => v = ([.long p0] : List Value).toArray) (QcRead (tu_rest p0)) 0 0 (fun _ => False) := by
  refine Met.ofW (cc := cX1_rest) (maxL := 2) (ret := some .int) (by decide) rfl ?_
  intro p e s m args below meth c s₁ B hml hv
  subst hv
  have hx := B.exec
  have hb := B.bytes
  have hr := B.returns
  have hts := atoms_spec (ws := wsX1_rest) B.pre
  have hown : s.vm.findClass "TextureUnits" = some m.cls := findClass_of_methodNamed B.named
  have hlocks := B.notSynchronized
  have hl := lv_entry ([.long p0]) (n := 2) (Nat.le_of_ble_eq_true rfl)
  rw [lg_entry_eq]
  generalize (lg_sl ([.long p0]) ++ List.replicate (2 - (lg_sl ([.long p0])).length) Slot.unset).toArray = ls at hl ⊢
  have hl : lv_has ls 2 [(0, .long p0)] := hl
  refine lv_lload_n hx hb dX1_rest_0 rfl (lv_at hl 0 rfl) ?_
  refine lv_ldc2 (v := 65535) hx hb hown (hts _ (tw_c tw_307)) dX1_rest_1 ?_
  refine lv_land hx hb dX1_rest_4 ?_
  refine lv_l2i hx hb dX1_rest_5 rfl ?_
  exact W.iret (v := ((p0 &&& (65535 : Int64)) : Int64).toInt32) hx hb hr (fun t ht hW => rd_q (by simp only [tu_rest]) ht) (fun q h => by cases h) dX1_rest_6
set_option maxHeartbeats 4000000 in
set_option maxRecDepth 100000 in
theorem r_wrapped (l : Launch) (p0 : Int32) (p1 : Int32) (p2 : Int32) : Met l yX1_wrapped wsX1_wrapped ({ frames := 2, cells := 0, slots := 0, locals := 36 }) (fun v _ => v = ([.int p0, .int p1, .int p2] : List Value).toArray) (QcRead (tu_wrap p0 p1 p2)) 0 0 (fun _ => False) := by
  refine Met.ofW (cc := cX1_wrapped) (maxL := 3) (ret := some .int) (by decide) rfl ?_
  intro p e s m args below meth c s₁ B hml hv
  subst hv
  have hx := B.exec
  have hb := B.bytes
  have hr := B.returns
  have hts := atoms_spec (ws := wsX1_wrapped) B.pre
  have hown : s.vm.findClass "TextureUnits" = some m.cls := findClass_of_methodNamed B.named
  have hlocks := B.notSynchronized
  have hl := lv_entry ([.int p0, .int p1, .int p2]) (n := 3) (Nat.le_of_ble_eq_true rfl)
  rw [lg_entry_eq]
  generalize (lg_sl ([.int p0, .int p1, .int p2]) ++ List.replicate (3 - (lg_sl ([.int p0, .int p1, .int p2])).length) Slot.unset).toArray = ls at hl ⊢
  have hl : lv_has ls 3 [(0, .int p0), (1, .int p1), (2, .int p2)] := hl
  refine lv_iload_n hx hb dX1_wrapped_0 rfl (lv_at hl 0 rfl) ?_
  by_cases c_1 : p0 = 0
  · refine lv_tableIn (off := 27) (tgt := 28) hx hb dX1_wrapped_1 (by rw [c_1]; decide) (by rw [c_1]; decide) (by rw [c_1]; rfl) (by decide) ?_
    refine lv_iload_n hx hb dX1_wrapped_28 rfl (lv_at hl 1 rfl) ?_
    refine lv_iload_n hx hb dX1_wrapped_29 rfl (lv_at hl 2 rfl) ?_
    refine lv_iconst (v := 1) hx hb dX1_wrapped_30 (by decide) ?_
    refine lv_isub hx hb dX1_wrapped_31 ?_
    refine lv_iand hx hb dX1_wrapped_32 ?_
    exact W.iret (v := (p1 &&& (p2 - (1 : Int32)))) hx hb hr (fun t ht hW => rd_q (by simp only [tu_wrap, if_pos c_1]) ht) (fun q h => by cases h) dX1_wrapped_33
  by_cases c_2 : p0 = 1
  · refine lv_tableIn (off := 33) (tgt := 34) hx hb dX1_wrapped_1 (by rw [c_2]; decide) (by rw [c_2]; decide) (by rw [c_2]; rfl) (by decide) ?_
    refine lv_iload_n hx hb dX1_wrapped_34 rfl (lv_at hl 1 rfl) ?_
    refine lv_iconst (v := 0) hx hb dX1_wrapped_35 (by decide) ?_
    refine lv_iload_n hx hb dX1_wrapped_36 rfl (lv_at hl 2 rfl) ?_
    refine lv_iconst (v := 1) hx hb dX1_wrapped_37 (by decide) ?_
    refine lv_isub hx hb dX1_wrapped_38 ?_
    refine rd_call (W.runS (As := [.int p1, .int 0, .int (p2 - (1 : Int32))]) (rest := []) ⟨hx, hb, hml, hown, hts⟩ (r_cut l p1 0 (p2 - (1 : Int32))) (va_cwS 3 hts (tg_S tw_277 tw_278 tw_1 tw_279) rfl rfl rfl (by decide +kernel) ⟨Nat.le_of_ble_eq_true rfl, Nat.le_of_ble_eq_true rfl⟩) preEq rfl rfl hl.1 rfl (lv_room (Nat.le_of_ble_eq_true rfl)) dX1_wrapped_39 ⟨Nat.le_of_ble_eq_true rfl, Nat.le_of_ble_eq_true rfl⟩) ?_
    exact W.iret (v := (tu_cut p1 0 (p2 - (1 : Int32)))) hx hb hr (fun t ht hW => rd_q (by simp only [tu_wrap, if_neg c_1, if_pos c_2]) ht) (fun q h => by cases h) dX1_wrapped_42
  by_cases c_3 : p0 = 2
  · refine lv_tableIn (off := 42) (tgt := 43) hx hb dX1_wrapped_1 (by rw [c_3]; decide) (by rw [c_3]; decide) (by rw [c_3]; rfl) (by decide) ?_
    refine lv_iload_n hx hb dX1_wrapped_43 rfl (lv_at hl 1 rfl) ?_
    refine lv_iload_n hx hb dX1_wrapped_44 rfl (lv_at hl 2 rfl) ?_
    refine rd_call (W.runS (As := [.int p1, .int p2]) (rest := []) ⟨hx, hb, hml, hown, hts⟩ (r_mirrored l p1 p2) (va_cwS 2 hts (tg_S tw_301 tw_302 tw_1 tw_303) rfl rfl rfl (by decide +kernel) ⟨Nat.le_of_ble_eq_true rfl, Nat.le_of_ble_eq_true rfl⟩) preEq rfl rfl hl.1 rfl (lv_room (Nat.le_of_ble_eq_true rfl)) dX1_wrapped_45 ⟨Nat.le_of_ble_eq_true rfl, Nat.le_of_ble_eq_true rfl⟩) ?_
    exact W.iret (v := (tu_mir p1 p2)) hx hb hr (fun t ht hW => rd_q (by simp only [tu_wrap, if_neg c_1, if_neg c_2, if_pos c_3]) ht) (fun q h => by cases h) dX1_wrapped_48
  have a0 : p0.toInt ≠ 0 := tu_ne c_1
  have a1 : p0.toInt ≠ 1 := tu_ne c_2
  have a2 : p0.toInt ≠ 2 := tu_ne c_3
  refine lv_tableOut (tgt := 49) hx hb dX1_wrapped_1 (by omega) (by decide) ?_
  refine lv_iload_n hx hb dX1_wrapped_49 rfl (lv_at hl 1 rfl) ?_
  refine lv_iconst (v := 0) hx hb dX1_wrapped_50 (by decide) ?_
  refine lv_iload_n hx hb dX1_wrapped_51 rfl (lv_at hl 2 rfl) ?_
  refine lv_iconst (v := 1) hx hb dX1_wrapped_52 (by decide) ?_
  refine lv_isub hx hb dX1_wrapped_53 ?_
  refine rd_call (W.runS (As := [.int p1, .int 0, .int (p2 - (1 : Int32))]) (rest := []) ⟨hx, hb, hml, hown, hts⟩ (r_within l p1 0 (p2 - (1 : Int32))) (va_cwS 3 hts (tg_S tw_94 tw_95 tw_1 tw_96) rfl rfl rfl (by decide +kernel) ⟨Nat.le_of_ble_eq_true rfl, Nat.le_of_ble_eq_true rfl⟩) preEq rfl rfl hl.1 rfl (lv_room (Nat.le_of_ble_eq_true rfl)) dX1_wrapped_54 ⟨Nat.le_of_ble_eq_true rfl, Nat.le_of_ble_eq_true rfl⟩) ?_
  refine lv_if_eq (tgt := 64) hx hb dX1_wrapped_57 (by decide) (fun c_4 => ?_) (fun c_4 => ?_)
  · refine lv_iconst (v := (-1)) hx hb dX1_wrapped_64 (by decide) ?_
    exact W.iret (v := (-1)) hx hb hr (fun t ht hW => rd_q (by simp only [tu_wrap, if_neg c_1, if_neg c_2, if_neg c_3, if_pos c_4]) ht) (fun q h => by cases h) dX1_wrapped_65
  · refine lv_iload_n hx hb dX1_wrapped_60 rfl (lv_at hl 1 rfl) ?_
    refine lv_goto (tgt := 65) hx hb dX1_wrapped_61 (by decide) ?_
    exact W.iret (v := p1) hx hb hr (fun t ht hW => rd_q (by simp only [tu_wrap, if_neg c_1, if_neg c_2, if_neg c_3, if_neg c_4]) ht) (fun q h => by cases h) dX1_wrapped_65
set_option maxHeartbeats 4000000 in
set_option maxRecDepth 100000 in
theorem r_width (l : Launch) (dC : Nat → ClassId) (dI : Nat → Nat → Nat) (u : Nat) (fr fo lw lh lv ac dn fi : Int32) (bc st : Nat) (p0 : Int32) : Met l yX0_width wsX0_width ({ frames := 0, cells := 0, slots := 0, locals := 0 }) (va_Pc [.ref u, .int p0] (rd_B (dC, dI) vwCl [(u, .inr (0, [.int fr, .int fo, .int lw, .int lh, .int lv, .int ac, .int dn, .int fi, .ref bc, .ref st]))] [])) (QcRead (tu_len lw p0)) 0 0 (fun _ => False) := by
  refine Met.ofW (cc := cX0_width) (maxL := 2) (ret := some .int) (by decide) rfl ?_
  intro p e s m args below meth c s₁ B hml hv
  obtain ⟨rfl, hP, hK⟩ := hv
  have hx := B.exec
  have hb := B.bytes
  have hr := B.returns
  have hts := atoms_spec (ws := wsX0_width) B.pre
  have hown : s.vm.findClass "TextureUnits$Unit" = some m.cls := findClass_of_methodNamed B.named
  have hlocks := B.notSynchronized
  have hl := lv_entry ([.ref u, .int p0]) (n := 2) (Nat.le_of_ble_eq_true rfl)
  rw [lg_entry_eq]
  generalize (lg_sl ([.ref u, .int p0]) ++ List.replicate (2 - (lg_sl ([.ref u, .int p0])).length) Slot.unset).toArray = ls at hl ⊢
  have hl : lv_has ls 2 [(0, .ref u), (1, .int p0)] := hl
  refine lv_iload_n hx hb dX0_width_0 rfl (lv_at hl 1 rfl) ?_
  refine lv_aload_n hx hb dX0_width_1 rfl (lv_at hl 0 rfl) ?_
  refine va_get (D := (dC, dI)) (ci := 0) (v := .int lw) (C := "TextureUnits$Unit") (T := TX0) (N := 10) hx hb hts (tw_s inX0) hown hK hP 0 rfl rfl 2 (by decide) (hts _ (tw_c tw_40)) (fun _ h9 => h9) rfl dX0_width_2 ?_
  refine lv_icmp_ge (tgt := 19) hx hb dX0_width_5 (by decide) (fun c_1 => ?_) (fun c_1 => ?_)
  · refine lv_iconst (v := 1) hx hb dX0_width_19 (by decide) ?_
    exact W.iret (v := 1) hx hb hr (fun t ht hW => rd_q (by simp only [tu_len, if_pos c_1]) ht) (fun q h => by cases h) dX0_width_20
  · refine lv_iconst (v := 1) hx hb dX0_width_8 (by decide) ?_
    refine lv_aload_n hx hb dX0_width_9 rfl (lv_at hl 0 rfl) ?_
    refine va_get (D := (dC, dI)) (ci := 0) (v := .int lw) (C := "TextureUnits$Unit") (T := TX0) (N := 10) hx hb hts (tw_s inX0) hown hK hP 0 rfl rfl 2 (by decide) (hts _ (tw_c tw_40)) (fun _ h9 => h9) rfl dX0_width_10 ?_
    refine lv_iload_n hx hb dX0_width_13 rfl (lv_at hl 1 rfl) ?_
    refine lv_isub hx hb dX0_width_14 ?_
    refine lv_ishl hx hb dX0_width_15 ?_
    refine lv_goto (tgt := 20) hx hb dX0_width_16 (by decide) ?_
    exact W.iret (v := ((1 : Int32) <<< ((lw - p0) &&& 31))) hx hb hr (fun t ht hW => rd_q (by simp only [tu_len, if_neg c_1]) ht) (fun q h => by cases h) dX0_width_20
set_option maxHeartbeats 4000000 in
set_option maxRecDepth 100000 in
theorem r_height (l : Launch) (dC : Nat → ClassId) (dI : Nat → Nat → Nat) (u : Nat) (fr fo lw lh lv ac dn fi : Int32) (bc st : Nat) (p0 : Int32) : Met l yX0_height wsX0_height ({ frames := 0, cells := 0, slots := 0, locals := 0 }) (va_Pc [.ref u, .int p0] (rd_B (dC, dI) vwCl [(u, .inr (0, [.int fr, .int fo, .int lw, .int lh, .int lv, .int ac, .int dn, .int fi, .ref bc, .ref st]))] [])) (QcRead (tu_len lh p0)) 0 0 (fun _ => False) := by
  refine Met.ofW (cc := cX0_height) (maxL := 2) (ret := some .int) (by decide) rfl ?_
  intro p e s m args below meth c s₁ B hml hv
  obtain ⟨rfl, hP, hK⟩ := hv
  have hx := B.exec
  have hb := B.bytes
  have hr := B.returns
  have hts := atoms_spec (ws := wsX0_height) B.pre
  have hown : s.vm.findClass "TextureUnits$Unit" = some m.cls := findClass_of_methodNamed B.named
  have hlocks := B.notSynchronized
  have hl := lv_entry ([.ref u, .int p0]) (n := 2) (Nat.le_of_ble_eq_true rfl)
  rw [lg_entry_eq]
  generalize (lg_sl ([.ref u, .int p0]) ++ List.replicate (2 - (lg_sl ([.ref u, .int p0])).length) Slot.unset).toArray = ls at hl ⊢
  have hl : lv_has ls 2 [(0, .ref u), (1, .int p0)] := hl
  refine lv_iload_n hx hb dX0_height_0 rfl (lv_at hl 1 rfl) ?_
  refine lv_aload_n hx hb dX0_height_1 rfl (lv_at hl 0 rfl) ?_
  refine va_get (D := (dC, dI)) (ci := 0) (v := .int lh) (C := "TextureUnits$Unit") (T := TX0) (N := 10) hx hb hts (tw_s inX0) hown hK hP 0 rfl rfl 3 (by decide) (hts _ (tw_c tw_41)) (fun _ h9 => h9) rfl dX0_height_2 ?_
  refine lv_icmp_ge (tgt := 19) hx hb dX0_height_5 (by decide) (fun c_1 => ?_) (fun c_1 => ?_)
  · refine lv_iconst (v := 1) hx hb dX0_height_19 (by decide) ?_
    exact W.iret (v := 1) hx hb hr (fun t ht hW => rd_q (by simp only [tu_len, if_pos c_1]) ht) (fun q h => by cases h) dX0_height_20
  · refine lv_iconst (v := 1) hx hb dX0_height_8 (by decide) ?_
    refine lv_aload_n hx hb dX0_height_9 rfl (lv_at hl 0 rfl) ?_
    refine va_get (D := (dC, dI)) (ci := 0) (v := .int lh) (C := "TextureUnits$Unit") (T := TX0) (N := 10) hx hb hts (tw_s inX0) hown hK hP 0 rfl rfl 3 (by decide) (hts _ (tw_c tw_41)) (fun _ h9 => h9) rfl dX0_height_10 ?_
    refine lv_iload_n hx hb dX0_height_13 rfl (lv_at hl 1 rfl) ?_
    refine lv_isub hx hb dX0_height_14 ?_
    refine lv_ishl hx hb dX0_height_15 ?_
    refine lv_goto (tgt := 20) hx hb dX0_height_16 (by decide) ?_
    exact W.iret (v := ((1 : Int32) <<< ((lh - p0) &&& 31))) hx hb hr (fun t ht hW => rd_q (by simp only [tu_len, if_neg c_1]) ht) (fun q h => by cases h) dX0_height_20
set_option maxHeartbeats 4000000 in
set_option maxRecDepth 100000 in
theorem r_numberOf (l : Launch) (dC : Nat → ClassId) (dI : Nat → Nat → Nat) (u : Nat) (fr fo lw lh lv ac dn fi : Int32) (bc st : Nat) (cI : ClassId) (sf : Nat → Int32) (p0 p1 p2 : Int32) (h0 : vp_in p0 12) : Met l yX0_numberOf wsX0_numberOf ({ frames := 1, cells := 0, slots := 0, locals := 21 }) (va_Pc [.ref u, .int p0, .int p1, .int p2] (rd_B (dC, dI) vwCl [(u, .inr (0, [.int fr, .int fo, .int lw, .int lh, .int lv, .int ac, .int dn, .int fi, .ref bc, .ref st])), (st, .inl (cI, 12, .inl sf))] [(cI, .int)])) (QcRead (tu_num sf lw p0 p1 p2)) 0 0 (fun _ => False) := by
  refine Met.ofW (cc := cX0_numberOf) (maxL := 4) (ret := some .int) (by decide) rfl ?_
  intro p e s m args below meth c s₁ B hml hv
  obtain ⟨rfl, hP, hK⟩ := hv
  have hx := B.exec
  have hb := B.bytes
  have hr := B.returns
  have hts := atoms_spec (ws := wsX0_numberOf) B.pre
  have hown : s.vm.findClass "TextureUnits$Unit" = some m.cls := findClass_of_methodNamed B.named
  have hlocks := B.notSynchronized
  have hl := lv_entry ([.ref u, .int p0, .int p1, .int p2]) (n := 4) (Nat.le_of_ble_eq_true rfl)
  rw [lg_entry_eq]
  generalize (lg_sl ([.ref u, .int p0, .int p1, .int p2]) ++ List.replicate (4 - (lg_sl ([.ref u, .int p0, .int p1, .int p2])).length) Slot.unset).toArray = ls at hl ⊢
  have hl : lv_has ls 4 [(0, .ref u), (1, .int p0), (2, .int p1), (3, .int p2)] := hl
  refine lv_aload_n hx hb dX0_numberOf_0 rfl (lv_at hl 0 rfl) ?_
  refine va_get (D := (dC, dI)) (ci := 0) (v := .ref st) (C := "TextureUnits$Unit") (T := TX0) (N := 10) hx hb hts (tw_s inX0) hown hK hP 0 rfl rfl 9 (by decide) (hts _ (tw_c tw_49)) (fun _ h9 => h9) rfl dX0_numberOf_1 ?_
  refine lv_iload_n hx hb dX0_numberOf_4 rfl (lv_at hl 1 rfl) ?_
  refine va_iald hx hb hK hP 1 0 rfl rfl h0 dX0_numberOf_5 ?_
  refine lv_iload_n hx hb dX0_numberOf_6 rfl (lv_at hl 3 rfl) ?_
  refine lv_aload_n hx hb dX0_numberOf_7 rfl (lv_at hl 0 rfl) ?_
  refine lv_iload_n hx hb dX0_numberOf_8 rfl (lv_at hl 1 rfl) ?_
  refine rd_call (W.runV (As := [.int p0]) (rest := [.int p2, .int (sf p0.toNatClampNeg)]) ⟨hx, hb, hml, hown, hts⟩ (r_width l dC dI u fr fo lw lh lv ac dn fi bc st p0) (cwV 1 hts (tg_V tw_30 tw_31 tw_32 tw_2 tw_33) rfl rfl rfl (by decide +kernel) ⟨Nat.le_of_ble_eq_true rfl, Nat.le_of_ble_eq_true rfl⟩) ⟨rd_blind, va_recv hK hP (ci := 0) (q0 := 0) rfl rfl, fun U hU hW => ⟨rfl, rd_use (hP.sub [0] rfl) (hK.sub [] rfl) U hU hW⟩⟩ rfl rfl hl.1 rfl (lv_room (Nat.le_of_ble_eq_true rfl)) dX0_numberOf_9 ⟨Nat.le_of_ble_eq_true rfl, Nat.le_of_ble_eq_true rfl⟩) ?_
  refine lv_imul hx hb dX0_numberOf_12 ?_
  refine lv_iadd hx hb dX0_numberOf_13 ?_
  refine lv_iload_n hx hb dX0_numberOf_14 rfl (lv_at hl 2 rfl) ?_
  refine lv_iadd hx hb dX0_numberOf_15 ?_
  exact W.iret (v := (((sf p0.toNatClampNeg) + (p2 * (tu_len lw p0))) + p1)) hx hb hr (fun t ht hW => rd_q (by simp only [tu_num]) ht) (fun q h => by cases h) dX0_numberOf_16
set_option maxHeartbeats 4000000 in
set_option maxRecDepth 100000 in
theorem r_wordAt (l : Launch) (dC : Nat → ClassId) (dI : Nat → Nat → Nat) (q wd us la nx : Nat) (cI : ClassId) (mem : Nat → Int32) (p0 : Int64) : Met l yX1_wordAt wsX1_wordAt ({ frames := 0, cells := 0, slots := 0, locals := 0 }) (va_Pc [.ref q, .long p0] (rd_B (dC, dI) vwCl [(q, .inr (1, [.ref wd, .ref us, .ref la, .ref nx])), (wd, .inl (cI, 2048, .inl mem))] [(cI, .int)])) (QcRead (tu_word mem p0)) 0 0 (fun _ => False) := by
  refine Met.ofW (cc := cX1_wordAt) (maxL := 3) (ret := some .int) (by decide) rfl ?_
  intro p e s m args below meth c s₁ B hml hv
  obtain ⟨rfl, hP, hK⟩ := hv
  have hx := B.exec
  have hb := B.bytes
  have hr := B.returns
  have hts := atoms_spec (ws := wsX1_wordAt) B.pre
  have hown : s.vm.findClass "TextureUnits" = some m.cls := findClass_of_methodNamed B.named
  have hlocks := B.notSynchronized
  have hl := lv_entry ([.ref q, .long p0]) (n := 3) (Nat.le_of_ble_eq_true rfl)
  rw [lg_entry_eq]
  generalize (lg_sl ([.ref q, .long p0]) ++ List.replicate (3 - (lg_sl ([.ref q, .long p0])).length) Slot.unset).toArray = ls at hl ⊢
  have hl : lv_has ls 3 [(0, .ref q), (1, .long p0)] := hl
  refine lv_lload_n hx hb dX1_wordAt_0 rfl (lv_at hl 1 rfl) ?_
  refine lv_lconst (v := 0) hx hb dX1_wordAt_1 (by decide) ?_
  refine W.lcmp hx hb dX1_wordAt_2 ?_
  refine lv_if_lt (tgt := 14) hx hb dX1_wordAt_3 (by decide) (fun c_1 => ?_) (fun c_1 => ?_)
  · refine lv_iconst (v := 0) hx hb dX1_wordAt_14 (by decide) ?_
    exact W.iret (v := 0) hx hb hr (fun t ht hW => rd_q (by simp only [tu_word, if_pos c_1]) ht) (fun q h => by cases h) dX1_wordAt_15
  · refine lv_lload_n hx hb dX1_wordAt_6 rfl (lv_at hl 1 rfl) ?_
    refine lv_ldc2 (v := 2048) hx hb hown (hts _ (tw_c tw_262)) dX1_wordAt_7 ?_
    refine W.lcmp hx hb dX1_wordAt_10 ?_
    refine lv_if_lt (tgt := 16) hx hb dX1_wordAt_11 (by decide) (fun c_2 => ?_) (fun c_2 => ?_)
    · refine lv_aload_n hx hb dX1_wordAt_16 rfl (lv_at hl 0 rfl) ?_
      refine va_get (D := (dC, dI)) (ci := 1) (v := .ref wd) (C := "TextureUnits") (T := TX1) (N := 4) hx hb hts (tw_s inX1) hown hK hP 0 rfl rfl 0 (by decide) (hts _ (tw_c tw_73)) (fun _ h9 => h9) rfl dX1_wordAt_17 ?_
      refine lv_lload_n hx hb dX1_wordAt_20 rfl (lv_at hl 1 rfl) ?_
      refine lv_l2i hx hb dX1_wordAt_21 rfl ?_
      refine va_iald hx hb hK hP 1 0 rfl rfl (tu_wordin c_1 c_2) dX1_wordAt_22 ?_
      exact W.iret (v := (mem (((p0 : Int64).toInt32).toNatClampNeg))) hx hb hr (fun t ht hW => rd_q (by simp only [tu_word, if_neg c_1, if_pos c_2]) ht) (fun q h => by cases h) dX1_wordAt_23
    · refine lv_iconst (v := 0) hx hb dX1_wordAt_14 (by decide) ?_
      exact W.iret (v := 0) hx hb hr (fun t ht hW => rd_q (by simp only [tu_word, if_neg c_1, if_neg c_2]) ht) (fun q h => by cases h) dX1_wordAt_15
set_option maxHeartbeats 4000000 in
set_option maxRecDepth 100000 in
theorem r_stored (l : Launch) (dC : Nat → ClassId) (dI : Nat → Nat → Nat) (q wd us la nx : Nat) (u : Nat) (fr fo lw lh lv ac dn fi : Int32) (bc st : Nat) (cI : ClassId) (mem sf : Nat → Int32) (tb : Nat × Nat × Nat) (p0 p1 p2 p3 : Int32) (h0 : vp_in p0 12) (h1 : vp_in fo 8) (h2 : vp_in (fo * 4 + p3) 32) : Met l yX1_stored wsX1_stored ({ frames := 2, cells := 0, slots := 0, locals := 44 }) (va_Pc [.ref q, .ref u, .int p0, .int p1, .int p2, .int p3] (rt_B (dC, dI) vwCl [(q, .inr (1, [.ref wd, .ref us, .ref la, .ref nx])), (u, .inr (0, [.int fr, .int fo, .int lw, .int lh, .int lv, .int ac, .int dn, .int fi, .ref bc, .ref st])), (wd, .inl (cI, 2048, .inl mem)), (st, .inl (cI, 12, .inl sf))] [(cI, .int)] tb)) (QcRead (tu_stored mem sf fr fo lw p0 p1 p2 p3)) 0 0 (fun _ => False) := by
  refine Met.ofW (cc := cX1_stored) (maxL := 12) (ret := some .int) (by decide) rfl ?_
  intro p e s m args below meth c s₁ B hml hv
  obtain ⟨rfl, hP, hK, hX⟩ := hv
  have hx := B.exec
  have hb := B.bytes
  have hr := B.returns
  have hts := atoms_spec (ws := wsX1_stored) B.pre
  have hown : s.vm.findClass "TextureUnits" = some m.cls := findClass_of_methodNamed B.named
  have hlocks := B.notSynchronized
  have hl := lv_entry ([.ref q, .ref u, .int p0, .int p1, .int p2, .int p3]) (n := 12) (Nat.le_of_ble_eq_true rfl)
  rw [lg_entry_eq]
  generalize (lg_sl ([.ref q, .ref u, .int p0, .int p1, .int p2, .int p3]) ++ List.replicate (12 - (lg_sl ([.ref q, .ref u, .int p0, .int p1, .int p2, .int p3])).length) Slot.unset).toArray = ls at hl ⊢
  have hl : lv_has ls 12 [(0, .ref q), (1, .ref u), (2, .int p0), (3, .int p1), (4, .int p2), (5, .int p3)] := hl
  refine lv_aload_n hx hb dX1_stored_0 rfl (lv_at hl 1 rfl) ?_
  refine va_get (D := (dC, dI)) (ci := 0) (v := .int fo) (C := "TextureUnits$Unit") (T := TX0) (N := 10) hx hb hts (tw_s inX0) hown hK hP 1 rfl rfl 1 (by decide) (hts _ (tw_c tw_39)) (fun _ h9 => h9) rfl dX1_stored_1 ?_
  refine lv_iconst (v := 4) hx hb dX1_stored_4 (by decide) ?_
  refine lv_imul hx hb dX1_stored_5 ?_
  refine lv_iload hx hb dX1_stored_6 (lv_at hl 5 rfl) ?_
  refine lv_iadd hx hb dX1_stored_8 ?_
  refine lv_istore (lv' := [(6, .int ((fo * (4 : Int32)) + p3)), (0, .ref q), (1, .ref u), (2, .int p0), (3, .int p1), (4, .int p2), (5, .int p3)]) hx hb dX1_stored_9 hl (by decide) rfl (fun ls hl => ?_)
  refine lv_iconst (v := 1) hx hb dX1_stored_11 (by decide) ?_
  refine va_gets (v := .ref tb.2.1) hx hb hX.2.1.1 va_S.rf hown (hts _ (tw_c tw_246)) (fun _ h9 => h9) dX1_stored_12 ?_
  refine lv_iload hx hb dX1_stored_15 (lv_at hl 0 rfl) ?_
  refine va_ti (v := .int (tu_CB (((fo * (4 : Int32)) + p3).toNatClampNeg))) hx hb hX.2.1.2 va_S.rf h2 rfl dX1_stored_17 ?_
  refine lv_ishl hx hb dX1_stored_18 ?_
  refine lv_iconst (v := 1) hx hb dX1_stored_19 (by decide) ?_
  refine lv_isub hx hb dX1_stored_20 ?_
  refine lv_istore (lv' := [(7, .int (((1 : Int32) <<< ((tu_CB (((fo * (4 : Int32)) + p3).toNatClampNeg)) &&& 31)) - (1 : Int32))), (6, .int ((fo * (4 : Int32)) + p3)), (0, .ref q), (1, .ref u), (2, .int p0), (3, .int p1), (4, .int p2), (5, .int p3)]) hx hb dX1_stored_21 hl (by decide) rfl (fun ls hl => ?_)
  refine lv_iload hx hb dX1_stored_23 (lv_at hl 0 rfl) ?_
  refine lv_if_ne (tgt := 41) hx hb dX1_stored_25 (by decide) (fun c_1 => ?_) (fun c_1 => ?_)
  · refine lv_aload_n hx hb dX1_stored_41 rfl (lv_at hl 3 rfl) ?_
    refine lv_iload_n hx hb dX1_stored_42 rfl (lv_at hl 4 rfl) ?_
    refine lv_iload_n hx hb dX1_stored_43 rfl (lv_at hl 5 rfl) ?_
    refine lv_iload hx hb dX1_stored_44 (lv_at hl 6 rfl) ?_
    refine rd_call (W.runV (As := [.int p0, .int p1, .int p2]) (rest := []) ⟨hx, hb, hml, hown, hts⟩ (r_numberOf l dC dI u fr fo lw lh lv ac dn fi bc st cI sf p0 p1 p2 h0) (cwV 3 hts (tg_V tw_249 tw_250 tw_251 tw_2 tw_252) rfl rfl rfl (by decide +kernel) ⟨Nat.le_of_ble_eq_true rfl, Nat.le_of_ble_eq_true rfl⟩) ⟨rd_blind, va_recv hK hP (ci := 0) (q0 := 1) rfl rfl, fun U hU hW => ⟨rfl, rd_use (hP.sub [1, 3] rfl) (hK.sub [0] rfl) U hU hW⟩⟩ rfl rfl hl.1 rfl (lv_room (Nat.le_of_ble_eq_true rfl)) dX1_stored_46 ⟨Nat.le_of_ble_eq_true rfl, Nat.le_of_ble_eq_true rfl⟩) ?_
    refine lv_i2l hx hb dX1_stored_49 rfl ?_
    refine va_gets (v := .ref tb.1) hx hb hX.1.1 va_S.rf hown (hts _ (tw_c tw_253)) (fun _ h9 => h9) dX1_stored_50 ?_
    refine lv_aload_n hx hb dX1_stored_53 rfl (lv_at hl 3 rfl) ?_
    refine va_get (D := (dC, dI)) (ci := 0) (v := .int fo) (C := "TextureUnits$Unit") (T := TX0) (N := 10) hx hb hts (tw_s inX0) hown hK hP 1 rfl rfl 1 (by decide) (hts _ (tw_c tw_39)) (fun _ h9 => h9) rfl dX1_stored_54 ?_
    refine va_ti (v := .int (tu_TB fo.toNatClampNeg)) hx hb hX.1.2 va_S.rf h1 rfl dX1_stored_57 ?_
    refine lv_i2l hx hb dX1_stored_58 rfl ?_
    refine lv_lmul hx hb dX1_stored_59 ?_
    refine lv_lstore (lv' := [(8, .long ((((tu_num sf lw p0 p1 p2) : Int32).toInt64) * (((tu_TB fo.toNatClampNeg) : Int32).toInt64))), (7, .int (((1 : Int32) <<< ((tu_CB (((fo * (4 : Int32)) + p3).toNatClampNeg)) &&& 31)) - (1 : Int32))), (6, .int ((fo * (4 : Int32)) + p3)), (0, .ref q), (1, .ref u), (2, .int p0), (3, .int p1), (4, .int p2), (5, .int p3)]) hx hb dX1_stored_60 hl (by decide) rfl (fun ls hl => ?_)
    refine lv_lload hx hb dX1_stored_62 (lv_at hl 0 rfl) ?_
    refine lv_ldc2 (v := 31) hx hb hown (hts _ (tw_c tw_255)) dX1_stored_64 ?_
    refine lv_land hx hb dX1_stored_67 ?_
    refine lv_l2i hx hb dX1_stored_68 rfl ?_
    refine va_gets (v := .ref tb.2.2) hx hb hX.2.2.1 va_S.rf hown (hts _ (tw_c tw_256)) (fun _ h9 => h9) dX1_stored_69 ?_
    refine lv_iload hx hb dX1_stored_72 (lv_at hl 2 rfl) ?_
    refine va_ti (v := .int (tu_CS (((fo * (4 : Int32)) + p3).toNatClampNeg))) hx hb hX.2.2.2 va_S.rf h2 rfl dX1_stored_74 ?_
    refine lv_iadd hx hb dX1_stored_75 ?_
    refine lv_istore (lv' := [(10, .int ((((((((tu_num sf lw p0 p1 p2) : Int32).toInt64) * (((tu_TB fo.toNatClampNeg) : Int32).toInt64)) &&& (31 : Int64)) : Int64).toInt32) + (tu_CS (((fo * (4 : Int32)) + p3).toNatClampNeg)))), (8, .long ((((tu_num sf lw p0 p1 p2) : Int32).toInt64) * (((tu_TB fo.toNatClampNeg) : Int32).toInt64))), (7, .int (((1 : Int32) <<< ((tu_CB (((fo * (4 : Int32)) + p3).toNatClampNeg)) &&& 31)) - (1 : Int32))), (6, .int ((fo * (4 : Int32)) + p3)), (0, .ref q), (1, .ref u), (2, .int p0), (3, .int p1), (4, .int p2), (5, .int p3)]) hx hb dX1_stored_76 hl (by decide) rfl (fun ls hl => ?_)
    refine lv_aload_n hx hb dX1_stored_78 rfl (lv_at hl 4 rfl) ?_
    refine lv_aload_n hx hb dX1_stored_79 rfl (lv_at hl 5 rfl) ?_
    refine va_get (D := (dC, dI)) (ci := 0) (v := .int fr) (C := "TextureUnits$Unit") (T := TX0) (N := 10) hx hb hts (tw_s inX0) hown hK hP 1 rfl rfl 0 (by decide) (hts _ (tw_c tw_38)) (fun _ h9 => h9) rfl dX1_stored_80 ?_
    refine lv_i2l hx hb dX1_stored_83 rfl ?_
    refine lv_lload hx hb dX1_stored_84 (lv_at hl 1 rfl) ?_
    refine lv_iconst (v := 5) hx hb dX1_stored_86 (by decide) ?_
    refine lv_lshr hx hb dX1_stored_87 rfl ?_
    refine lv_ladd hx hb dX1_stored_88 ?_
    refine rd_call (W.runV (As := [.long (((fr : Int32).toInt64) + (((((tu_num sf lw p0 p1 p2) : Int32).toInt64) * (((tu_TB fo.toNatClampNeg) : Int32).toInt64)) >>> ((5 : Int32).toInt64 &&& 63)))]) (rest := []) ⟨hx, hb, hml, hown, hts⟩ (r_wordAt l dC dI q wd us la nx cI mem (((fr : Int32).toInt64) + (((((tu_num sf lw p0 p1 p2) : Int32).toInt64) * (((tu_TB fo.toNatClampNeg) : Int32).toInt64)) >>> ((5 : Int32).toInt64 &&& 63)))) (cwV 1 hts (tg_V tw_258 tw_260 tw_p3 tw_1 tw_261) rfl rfl rfl (by decide +kernel) ⟨Nat.le_of_ble_eq_true rfl, Nat.le_of_ble_eq_true rfl⟩) ⟨rd_blind, va_recv hK hP (ci := 1) (q0 := 0) rfl rfl, fun U hU hW => ⟨rfl, rd_use (hP.sub [0, 2] rfl) (hK.sub [0] rfl) U hU hW⟩⟩ rfl rfl hl.1 rfl (lv_room (Nat.le_of_ble_eq_true rfl)) dX1_stored_89 ⟨Nat.le_of_ble_eq_true rfl, Nat.le_of_ble_eq_true rfl⟩) ?_
    refine lv_iload hx hb dX1_stored_92 (lv_at hl 0 rfl) ?_
    refine lv_iushr hx hb dX1_stored_94 rfl ?_
    refine lv_iload hx hb dX1_stored_95 (lv_at hl 2 rfl) ?_
    refine lv_iand hx hb dX1_stored_97 ?_
    refine lv_istore (lv' := [(11, .int (((((tu_word mem (((fr : Int32).toInt64) + (((((tu_num sf lw p0 p1 p2) : Int32).toInt64) * (((tu_TB fo.toNatClampNeg) : Int32).toInt64)) >>> ((5 : Int32).toInt64 &&& 63)))) : Int32).toUInt32 >>> ((((((((((tu_num sf lw p0 p1 p2) : Int32).toInt64) * (((tu_TB fo.toNatClampNeg) : Int32).toInt64)) &&& (31 : Int64)) : Int64).toInt32) + (tu_CS (((fo * (4 : Int32)) + p3).toNatClampNeg))) : Int32).toUInt32 &&& Int32.toUInt32 31)).toInt32) &&& (((1 : Int32) <<< ((tu_CB (((fo * (4 : Int32)) + p3).toNatClampNeg)) &&& 31)) - (1 : Int32)))), (10, .int ((((((((tu_num sf lw p0 p1 p2) : Int32).toInt64) * (((tu_TB fo.toNatClampNeg) : Int32).toInt64)) &&& (31 : Int64)) : Int64).toInt32) + (tu_CS (((fo * (4 : Int32)) + p3).toNatClampNeg)))), (8, .long ((((tu_num sf lw p0 p1 p2) : Int32).toInt64) * (((tu_TB fo.toNatClampNeg) : Int32).toInt64))), (7, .int (((1 : Int32) <<< ((tu_CB (((fo * (4 : Int32)) + p3).toNatClampNeg)) &&& 31)) - (1 : Int32))), (6, .int ((fo * (4 : Int32)) + p3)), (0, .ref q), (1, .ref u), (2, .int p0), (3, .int p1), (4, .int p2), (5, .int p3)]) hx hb dX1_stored_98 hl (by decide) rfl (fun ls hl => ?_)
    refine lv_iload hx hb dX1_stored_100 (lv_at hl 0 rfl) ?_
    refine lv_ldc (v := 65536) hx hb hown (hts _ (tw_c tw_248)) dX1_stored_102 ?_
    refine lv_imul hx hb dX1_stored_104 ?_
    refine lv_iload hx hb dX1_stored_105 (lv_at hl 3 rfl) ?_
    refine lv_iconst (v := 1) hx hb dX1_stored_107 (by decide) ?_
    refine lv_ishr hx hb dX1_stored_108 ?_
    refine lv_iadd hx hb dX1_stored_109 ?_
    refine lv_iload hx hb dX1_stored_110 (lv_at hl 3 rfl) ?_
    refine lv_idiv hx hb dX1_stored_112 c_1 ?_
    exact W.iret (v := ((((((((tu_word mem (((fr : Int32).toInt64) + (((((tu_num sf lw p0 p1 p2) : Int32).toInt64) * (((tu_TB fo.toNatClampNeg) : Int32).toInt64)) >>> ((5 : Int32).toInt64 &&& 63)))) : Int32).toUInt32 >>> ((((((((((tu_num sf lw p0 p1 p2) : Int32).toInt64) * (((tu_TB fo.toNatClampNeg) : Int32).toInt64)) &&& (31 : Int64)) : Int64).toInt32) + (tu_CS (((fo * (4 : Int32)) + p3).toNatClampNeg))) : Int32).toUInt32 &&& Int32.toUInt32 31)).toInt32) &&& (((1 : Int32) <<< ((tu_CB (((fo * (4 : Int32)) + p3).toNatClampNeg)) &&& 31)) - (1 : Int32))) * (65536 : Int32)) + ((((1 : Int32) <<< ((tu_CB (((fo * (4 : Int32)) + p3).toNatClampNeg)) &&& 31)) - (1 : Int32)) >>> ((1 : Int32) &&& 31))) / (((1 : Int32) <<< ((tu_CB (((fo * (4 : Int32)) + p3).toNatClampNeg)) &&& 31)) - (1 : Int32)))) hx hb hr (fun t ht hW => rd_q (by unfold tu_stored tu_most; rw [if_neg c_1]; rfl) ht) (fun q h => by cases h) dX1_stored_113
  · refine lv_iload hx hb dX1_stored_28 (lv_at hl 7 rfl) ?_
    refine lv_iconst (v := 3) hx hb dX1_stored_30 (by decide) ?_
    refine lv_icmp_ne (tgt := 39) hx hb dX1_stored_31 (by decide) (fun c_2 => ?_) (fun c_2 => ?_)
    · refine lv_iconst (v := 0) hx hb dX1_stored_39 (by decide) ?_
      exact W.iret (v := 0) hx hb hr (fun t ht hW => rd_q (by unfold tu_stored tu_most; rw [if_pos c_1, if_neg c_2]) ht) (fun q h => by cases h) dX1_stored_40
    · refine lv_ldc (v := 65536) hx hb hown (hts _ (tw_c tw_248)) dX1_stored_34 ?_
      refine lv_goto (tgt := 40) hx hb dX1_stored_36 (by decide) ?_
      exact W.iret (v := 65536) hx hb hr (fun t ht hW => rd_q (by unfold tu_stored tu_most; rw [if_pos c_1, if_pos c_2]) ht) (fun q h => by cases h) dX1_stored_40
set_option maxHeartbeats 4000000 in
set_option maxRecDepth 100000 in
theorem r_sob (l : Launch) (dC : Nat → ClassId) (dI : Nat → Nat → Nat) (q wd us la nx : Nat) (u : Nat) (fr fo lw lh lv ac dn fi : Int32) (bc st : Nat) (cI : ClassId) (mem sf bd : Nat → Int32) (tb : Nat × Nat × Nat) (p0 p1 p2 p3 : Int32) (h0 : vp_in p0 12) (h1 : vp_in fo 8) (h2 : vp_in (fo * 4 + p3) 32) (h3 : vp_in p3 4) : Met l yX1_storedOrBorder wsX1_storedOrBorder ({ frames := 3, cells := 0, slots := 0, locals := 75 }) (va_Pc [.ref q, .ref u, .int p0, .int p1, .int p2, .int p3] (rt_B (dC, dI) vwCl [(q, .inr (1, [.ref wd, .ref us, .ref la, .ref nx])), (u, .inr (0, [.int fr, .int fo, .int lw, .int lh, .int lv, .int ac, .int dn, .int fi, .ref bc, .ref st])), (wd, .inl (cI, 2048, .inl mem)), (st, .inl (cI, 12, .inl sf)), (bc, .inl (cI, 4, .inl bd))] [(cI, .int)] tb)) (QcRead (tu_sob mem sf bd fr fo lw p0 p1 p2 p3)) 0 0 (fun _ => False) := by
  refine Met.ofW (cc := cX1_storedOrBorder) (maxL := 6) (ret := some .int) (by decide) rfl ?_
  intro p e s m args below meth c s₁ B hml hv
  obtain ⟨rfl, hP, hK, hX⟩ := hv
  have hx := B.exec
  have hb := B.bytes
  have hr := B.returns
  have hts := atoms_spec (ws := wsX1_storedOrBorder) B.pre
  have hown : s.vm.findClass "TextureUnits" = some m.cls := findClass_of_methodNamed B.named
  have hlocks := B.notSynchronized
  have hl := lv_entry ([.ref q, .ref u, .int p0, .int p1, .int p2, .int p3]) (n := 6) (Nat.le_of_ble_eq_true rfl)
  rw [lg_entry_eq]
  generalize (lg_sl ([.ref q, .ref u, .int p0, .int p1, .int p2, .int p3]) ++ List.replicate (6 - (lg_sl ([.ref q, .ref u, .int p0, .int p1, .int p2, .int p3])).length) Slot.unset).toArray = ls at hl ⊢
  have hl : lv_has ls 6 [(0, .ref q), (1, .ref u), (2, .int p0), (3, .int p1), (4, .int p2), (5, .int p3)] := hl
  refine lv_iload_n hx hb dX1_storedOrBorder_0 rfl (lv_at hl 3 rfl) ?_
  refine lv_iconst (v := (-1)) hx hb dX1_storedOrBorder_1 (by decide) ?_
  refine lv_icmp_eq (tgt := 11) hx hb dX1_storedOrBorder_2 (by decide) (fun c_1 => ?_) (fun c_1 => ?_)
  · refine lv_aload_n hx hb dX1_storedOrBorder_11 rfl (lv_at hl 1 rfl) ?_
    refine va_get (D := (dC, dI)) (ci := 0) (v := .ref bc) (C := "TextureUnits$Unit") (T := TX0) (N := 10) hx hb hts (tw_s inX0) hown hK hP 1 rfl rfl 8 (by decide) (hts _ (tw_c tw_48)) (fun _ h9 => h9) rfl dX1_storedOrBorder_12 ?_
    refine lv_iload hx hb dX1_storedOrBorder_15 (lv_at hl 5 rfl) ?_
    refine va_iald hx hb hK hP 4 0 rfl rfl h3 dX1_storedOrBorder_17 ?_
    exact W.iret (v := (bd p3.toNatClampNeg)) hx hb hr (fun t ht hW => rd_q (by simp only [tu_sob, if_pos c_1]) ht) (fun q h => by cases h) dX1_storedOrBorder_18
  · refine lv_iload hx hb dX1_storedOrBorder_5 (lv_at hl 4 rfl) ?_
    refine lv_iconst (v := (-1)) hx hb dX1_storedOrBorder_7 (by decide) ?_
    refine lv_icmp_ne (tgt := 19) hx hb dX1_storedOrBorder_8 (by decide) (fun c_2 => ?_) (fun c_2 => ?_)
    · refine lv_aload_n hx hb dX1_storedOrBorder_19 rfl (lv_at hl 0 rfl) ?_
      refine lv_aload_n hx hb dX1_storedOrBorder_20 rfl (lv_at hl 1 rfl) ?_
      refine lv_iload_n hx hb dX1_storedOrBorder_21 rfl (lv_at hl 2 rfl) ?_
      refine lv_iload_n hx hb dX1_storedOrBorder_22 rfl (lv_at hl 3 rfl) ?_
      refine lv_iload hx hb dX1_storedOrBorder_23 (lv_at hl 4 rfl) ?_
      refine lv_iload hx hb dX1_storedOrBorder_25 (lv_at hl 5 rfl) ?_
      refine rd_call (W.runV (As := [.ref u, .int p0, .int p1, .int p2, .int p3]) (rest := []) ⟨hx, hb, hml, hown, hts⟩ (r_stored l dC dI q wd us la nx u fr fo lw lh lv ac dn fi bc st cI mem sf tb p0 p1 p2 p3 h0 h1 h2) (cwV 5 hts (tg_V tw_242 tw_244 tw_p2 tw_1 tw_245) rfl rfl rfl (by decide +kernel) ⟨Nat.le_of_ble_eq_true rfl, Nat.le_of_ble_eq_true rfl⟩) ⟨rt_blind, va_recv hK hP (ci := 1) (q0 := 0) rfl rfl, fun U hU hW => ⟨rfl, rt_use (hP.sub [0, 1, 2, 3] rfl) (hK.sub [0] rfl) hX U hU hW⟩⟩ rfl rfl hl.1 rfl (lv_room (Nat.le_of_ble_eq_true rfl)) dX1_storedOrBorder_27 ⟨Nat.le_of_ble_eq_true rfl, Nat.le_of_ble_eq_true rfl⟩) ?_
      exact W.iret (v := (tu_stored mem sf fr fo lw p0 p1 p2 p3)) hx hb hr (fun t ht hW => rd_q (by simp only [tu_sob, if_neg c_1, if_neg c_2]) ht) (fun q h => by cases h) dX1_storedOrBorder_30
    · refine lv_aload_n hx hb dX1_storedOrBorder_11 rfl (lv_at hl 1 rfl) ?_
      refine va_get (D := (dC, dI)) (ci := 0) (v := .ref bc) (C := "TextureUnits$Unit") (T := TX0) (N := 10) hx hb hts (tw_s inX0) hown hK hP 1 rfl rfl 8 (by decide) (hts _ (tw_c tw_48)) (fun _ h9 => h9) rfl dX1_storedOrBorder_12 ?_
      refine lv_iload hx hb dX1_storedOrBorder_15 (lv_at hl 5 rfl) ?_
      refine va_iald hx hb hK hP 4 0 rfl rfl h3 dX1_storedOrBorder_17 ?_
      exact W.iret (v := (bd p3.toNatClampNeg)) hx hb hr (fun t ht hW => rd_q (by simp only [tu_sob, if_neg c_1, if_pos c_2]) ht) (fun q h => by cases h) dX1_storedOrBorder_18
