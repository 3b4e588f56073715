theorem tw_3 : (Cond.initialized "TextureUnitsModel") ∈ TW := tw_t1 3 (by decide +kernel) (by decide +kernel)
theorem tw_333 : (Cond.fieldLink "TextureUnitsModel" 40 "TextureUnitsModel" "thrown" "I") ∈ TW := tw_t2 93 (by decide +kernel) (by decide +kernel)
theorem tw_334 : (Cond.fieldLink "TextureUnitsModel" 7 "TextureUnitsModel" "memory" "[I") ∈ TW := tw_t2 94 (by decide +kernel) (by decide +kernel)
theorem tw_335 : (Cond.fieldLink "TextureUnitsModel" 13 "TextureUnitsModel" "units" "[I") ∈ TW := tw_t2 95 (by decide +kernel) (by decide +kernel)
theorem tw_398 : (Cond.methodLink "TextureUnitsModel" 56 ⟨"TextureUnitsModel", "wide", "(II)I"⟩) ∈ TW := tw_t2 158 (by decide +kernel) (by decide +kernel)
theorem tw_400 : (Cond.instanceMethod ⟨"TextureUnitsModel", "wide", "(II)I"⟩) ∈ TW := tw_t2 160 (by decide +kernel) (by decide +kernel)
theorem tw_401 : (Cond.code ⟨"TextureUnitsModel", "wide", "(II)I"⟩ prog_4_method_10_code 3 (.some .int)) ∈ TW := tw_t2 161 (by decide +kernel) (by decide +kernel)
theorem tw_402 : (Cond.methodLink "TextureUnitsModel" 52 ⟨"TextureUnitsModel", "exponent", "(III)I"⟩) ∈ TW := tw_t2 162 (by decide +kernel) (by decide +kernel)
theorem tw_404 : (Cond.instanceMethod ⟨"TextureUnitsModel", "exponent", "(III)I"⟩) ∈ TW := tw_t2 164 (by decide +kernel) (by decide +kernel)
theorem tw_405 : (Cond.code ⟨"TextureUnitsModel", "exponent", "(III)I"⟩ prog_4_method_9_code 5 (.some .int)) ∈ TW := tw_t2 165 (by decide +kernel) (by decide +kernel)
theorem tw_406 : (Cond.methodLink "TextureUnitsModel" 60 ⟨"TextureUnitsModel", "high", "(II)I"⟩) ∈ TW := tw_t2 166 (by decide +kernel) (by decide +kernel)
theorem tw_408 : (Cond.instanceMethod ⟨"TextureUnitsModel", "high", "(II)I"⟩) ∈ TW := tw_t2 168 (by decide +kernel) (by decide +kernel)
theorem tw_409 : (Cond.code ⟨"TextureUnitsModel", "high", "(II)I"⟩ prog_4_method_11_code 3 (.some .int)) ∈ TW := tw_t2 169 (by decide +kernel) (by decide +kernel)
theorem tw_430 : (Cond.constantLong "TextureUnitsModel" 67 (32 : Int64)) ∈ TW := tw_t2 190 (by decide +kernel) (by decide +kernel)
theorem tw_431 : (Cond.constantLong "TextureUnitsModel" 69 (2048 : Int64)) ∈ TW := tw_t2 191 (by decide +kernel) (by decide +kernel)
theorem tw_p10 : (Cond.selects "TextureUnitsModel" ⟨"TextureUnitsModel", "exponent", "(III)I"⟩ ⟨"TextureUnitsModel", "exponent", "(III)I"⟩) ∈ TW := tw_t0 10 (by decide +kernel) (by decide +kernel)
theorem tw_p11 : (Cond.selects "TextureUnitsModel" ⟨"TextureUnitsModel", "high", "(II)I"⟩ ⟨"TextureUnitsModel", "high", "(II)I"⟩) ∈ TW := tw_t0 11 (by decide +kernel) (by decide +kernel)
theorem tw_p9 : (Cond.selects "TextureUnitsModel" ⟨"TextureUnitsModel", "wide", "(II)I"⟩ ⟨"TextureUnitsModel", "wide", "(II)I"⟩) ∈ TW := tw_t0 9 (by decide +kernel) (by decide +kernel)
set_option maxHeartbeats 4000000 in
set_option maxRecDepth 100000 in
theorem m_in (l : Launch) (p0 : Int32) (p1 : Int32) (p2 : Int32) : Met l yX2_in wsX2_in ({ frames := 0, cells := 0, slots := 0, locals := 0 }) (fun v _ => v = ([.int p0, .int p1, .int p2] : List Value).toArray) (QcRead (tu_win p0 p1 p2)) 0 0 (fun _ => False) := by
  refine Met.ofW (cc := cX2_in) (maxL := 3) (ret := some .boolean) (by decide) rfl ?_
  intro p e s m args below meth c s₁ B hml hv
  subst hv
  have hx := B.exec
  have hb := B.bytes
  have hr := B.returns
  have hts := atoms_spec (ws := wsX2_in) B.pre
  have hown : s.vm.findClass "TextureUnitsModel" = some m.cls := findClass_of_methodNamed B.named
  have hlocks := B.notSynchronized
  have hl := lv_entry ([.int p0, .int p1, .int p2]) (n := 3) (Nat.le_of_ble_eq_true rfl)
  rw [lg_entry_eq]
  generalize (lg_sl ([.int p0, .int p1, .int p2]) ++ List.replicate (3 - (lg_sl ([.int p0, .int p1, .int p2])).length) Slot.unset).toArray = ls at hl ⊢
  have hl : lv_has ls 3 [(0, .int p0), (1, .int p1), (2, .int p2)] := hl
  refine lv_iload_n hx hb dX2_in_0 rfl (lv_at hl 0 rfl) ?_
  refine lv_iload_n hx hb dX2_in_1 rfl (lv_at hl 1 rfl) ?_
  refine lv_icmp_lt (tgt := 14) hx hb dX2_in_2 (by decide) (fun c_1 => ?_) (fun c_1 => ?_)
  · refine lv_iconst (v := 0) hx hb dX2_in_14 (by decide) ?_
    exact W.zret (ty := .boolean) (v := 0) hx hb hr rfl (fun t ht hW => rd_q (by simp only [tu_win, if_pos c_1]) ht) (fun q h => by cases h) dX2_in_15
  · refine lv_iload_n hx hb dX2_in_5 rfl (lv_at hl 0 rfl) ?_
    refine lv_iload_n hx hb dX2_in_6 rfl (lv_at hl 2 rfl) ?_
    refine lv_icmp_gt (tgt := 14) hx hb dX2_in_7 (by decide) (fun c_2 => ?_) (fun c_2 => ?_)
    · refine lv_iconst (v := 0) hx hb dX2_in_14 (by decide) ?_
      exact W.zret (ty := .boolean) (v := 0) hx hb hr rfl (fun t ht hW => rd_q (by simp only [tu_win, if_neg c_1, if_pos c_2]) ht) (fun q h => by cases h) dX2_in_15
    · refine lv_iconst (v := 1) hx hb dX2_in_10 (by decide) ?_
      refine lv_goto (tgt := 15) hx hb dX2_in_11 (by decide) ?_
      exact W.zret (ty := .boolean) (v := 1) hx hb hr rfl (fun t ht hW => rd_q (by simp only [tu_win, if_neg c_1, if_neg c_2]) ht) (fun q h => by cases h) dX2_in_15
set_option maxHeartbeats 4000000 in
set_option maxRecDepth 100000 in
theorem m_mix (l : Launch) (p0 : Int32) (p1 : Int32) (p2 : Int32) : Met l yX2_mix wsX2_mix ({ frames := 0, cells := 0, slots := 0, locals := 0 }) (fun v _ => v = ([.int p0, .int p1, .int p2] : List Value).toArray) (QcRead (tu_mix p0 p1 p2)) 0 0 (fun _ => False) := by
  refine Met.ofW (cc := cX2_mix) (maxL := 3) (ret := some .int) (by decide) rfl ?_
  intro p e s m args below meth c s₁ B hml hv
  subst hv
  have hx := B.exec
  have hb := B.bytes
  have hr := B.returns
  have hts := atoms_spec (ws := wsX2_mix) B.pre
  have hown : s.vm.findClass "TextureUnitsModel" = some m.cls := findClass_of_methodNamed B.named
  have hlocks := B.notSynchronized
  have hl := lv_entry ([.int p0, .int p1, .int p2]) (n := 3) (Nat.le_of_ble_eq_true rfl)
  rw [lg_entry_eq]
  generalize (lg_sl ([.int p0, .int p1, .int p2]) ++ List.replicate (3 - (lg_sl ([.int p0, .int p1, .int p2])).length) Slot.unset).toArray = ls at hl ⊢
  have hl : lv_has ls 3 [(0, .int p0), (1, .int p1), (2, .int p2)] := hl
  refine lv_iload_n hx hb dX2_mix_0 rfl (lv_at hl 0 rfl) ?_
  refine lv_i2l hx hb dX2_mix_1 rfl ?_
  refine lv_iload_n hx hb dX2_mix_2 rfl (lv_at hl 1 rfl) ?_
  refine lv_i2l hx hb dX2_mix_3 rfl ?_
  refine lv_iload_n hx hb dX2_mix_4 rfl (lv_at hl 0 rfl) ?_
  refine lv_i2l hx hb dX2_mix_5 rfl ?_
  refine lv_lsub hx hb dX2_mix_6 ?_
  refine lv_iload_n hx hb dX2_mix_7 rfl (lv_at hl 2 rfl) ?_
  refine lv_i2l hx hb dX2_mix_8 rfl ?_
  refine lv_lmul hx hb dX2_mix_9 ?_
  refine lv_bipush (v := 16) hx hb dX2_mix_10 (by decide) ?_
  refine lv_lshr hx hb dX2_mix_12 rfl ?_
  refine lv_ladd hx hb dX2_mix_13 ?_
  refine lv_l2i hx hb dX2_mix_14 rfl ?_
  exact W.iret (v := ((((p0 : Int32).toInt64) + (((((p1 : Int32).toInt64) - ((p0 : Int32).toInt64)) * ((p2 : Int32).toInt64)) >>> ((16 : Int32).toInt64 &&& 63))) : Int64).toInt32) hx hb hr (fun t ht hW => rd_q (by simp only [tu_mix]) ht) (fun q h => by cases h) dX2_mix_15
set_option maxHeartbeats 4000000 in
set_option maxRecDepth 100000 in
theorem m_wrap (l : Launch) (p0 : Int32) (p1 : Int32) (p2 : Int32) (h0 : ¬ md_m p0 p1 p2 = 0) : Met l yX2_wrap wsX2_wrap ({ frames := 0, cells := 0, slots := 0, locals := 0 }) (fun v _ => v = ([.int p0, .int p1, .int p2] : List Value).toArray) (QcRead (md_wrap p0 p1 p2)) 0 0 (fun _ => False) := by
  refine Met.ofW (cc := cX2_wrap) (maxL := 5) (ret := some .int) (by decide) rfl ?_
  intro p e s m args below meth c s₁ B hml hv
  subst hv
  have hx := B.exec
  have hb := B.bytes
  have hr := B.returns
  have hts := atoms_spec (ws := wsX2_wrap) B.pre
  have hown : s.vm.findClass "TextureUnitsModel" = some m.cls := findClass_of_methodNamed B.named
  have hlocks := B.notSynchronized
  have hl := lv_entry ([.int p0, .int p1, .int p2]) (n := 5) (Nat.le_of_ble_eq_true rfl)
  rw [lg_entry_eq]
  generalize (lg_sl ([.int p0, .int p1, .int p2]) ++ List.replicate (5 - (lg_sl ([.int p0, .int p1, .int p2])).length) Slot.unset).toArray = ls at hl ⊢
  have hl : lv_has ls 5 [(0, .int p0), (1, .int p1), (2, .int p2)] := hl
  refine lv_iload_n hx hb dX2_wrap_0 rfl (lv_at hl 2 rfl) ?_
  refine lv_iconst (v := 2) hx hb dX2_wrap_1 (by decide) ?_
  refine lv_icmp_ne (tgt := 11) hx hb dX2_wrap_2 (by decide) (fun c_1 => ?_) (fun c_1 => ?_)
  · refine lv_iload_n hx hb dX2_wrap_11 rfl (lv_at hl 1 rfl) ?_
    refine W.eq (g2 := F0 m 12 ls [.int (md_m p0 p1 p2)]) (by unfold md_m; rw [if_neg c_1]) ?_
    refine lv_istore_n (lv' := [(3, .int (md_m p0 p1 p2)), (0, .int p0), (1, .int p1), (2, .int p2)]) hx hb dX2_wrap_12 rfl hl (by decide) rfl (fun ls hl => ?_)
    refine lv_iload_n hx hb dX2_wrap_13 rfl (lv_at hl 1 rfl) ?_
    refine lv_iload_n hx hb dX2_wrap_14 rfl (lv_at hl 0 rfl) ?_
    refine lv_irem hx hb dX2_wrap_15 h0 ?_
    refine lv_iload_n hx hb dX2_wrap_16 rfl (lv_at hl 0 rfl) ?_
    refine lv_iadd hx hb dX2_wrap_17 ?_
    refine lv_iload_n hx hb dX2_wrap_18 rfl (lv_at hl 0 rfl) ?_
    refine lv_irem hx hb dX2_wrap_19 h0 ?_
    refine W.eq (g2 := F0 m 20 ls [.int (md_j p0 (md_m p0 p1 p2))]) rfl ?_
    refine lv_istore (lv' := [(4, .int (md_j p0 (md_m p0 p1 p2))), (3, .int (md_m p0 p1 p2)), (0, .int p0), (1, .int p1), (2, .int p2)]) hx hb dX2_wrap_20 hl (by decide) rfl (fun ls hl => ?_)
    refine lv_iload_n hx hb dX2_wrap_22 rfl (lv_at hl 4 rfl) ?_
    by_cases d_1 : p2 = 0
    · refine lv_tableIn (off := 25) (tgt := 48) hx hb dX2_wrap_23 (by rw [d_1]; decide) (by rw [d_1]; decide) (by rw [d_1]; rfl) (by decide) ?_
      refine lv_iload hx hb dX2_wrap_48 (lv_at hl 0 rfl) ?_
      exact W.iret (v := (md_j p0 (md_m p0 p1 p2))) hx hb hr (fun t ht hW => rd_q (by simp only [md_wrap, if_pos d_1]) ht) (fun q h => by cases h) dX2_wrap_50
    by_cases d_2 : p2 = 1
    · refine lv_tableIn (off := 28) (tgt := 51) hx hb dX2_wrap_23 (by rw [d_2]; decide) (by rw [d_2]; decide) (by rw [d_2]; rfl) (by decide) ?_
      refine lv_iload_n hx hb dX2_wrap_51 rfl (lv_at hl 2 rfl) ?_
      refine lv_if_ge (tgt := 59) hx hb dX2_wrap_52 (by decide) (fun c_2 => ?_) (fun c_2 => ?_)
      · refine lv_iload_n hx hb dX2_wrap_59 rfl (lv_at hl 2 rfl) ?_
        refine lv_iload_n hx hb dX2_wrap_60 rfl (lv_at hl 3 rfl) ?_
        refine lv_icmp_lt (tgt := 70) hx hb dX2_wrap_61 (by decide) (fun c_3 => ?_) (fun c_3 => ?_)
        · refine lv_iload_n hx hb dX2_wrap_70 rfl (lv_at hl 2 rfl) ?_
          exact W.iret (v := p0) hx hb hr (fun t ht hW => rd_q (by simp only [md_wrap, if_neg d_1, if_pos d_2, if_pos c_2, if_pos c_3]) ht) (fun q h => by cases h) dX2_wrap_71
        · refine lv_iload_n hx hb dX2_wrap_64 rfl (lv_at hl 3 rfl) ?_
          refine lv_iconst (v := 1) hx hb dX2_wrap_65 (by decide) ?_
          refine lv_isub hx hb dX2_wrap_66 ?_
          refine lv_goto (tgt := 71) hx hb dX2_wrap_67 (by decide) ?_
          exact W.iret (v := (p1 - (1 : Int32))) hx hb hr (fun t ht hW => rd_q (by simp only [md_wrap, if_neg d_1, if_pos d_2, if_pos c_2, if_neg c_3]) ht) (fun q h => by cases h) dX2_wrap_71
      · refine lv_iconst (v := 0) hx hb dX2_wrap_55 (by decide) ?_
        refine lv_goto (tgt := 71) hx hb dX2_wrap_56 (by decide) ?_
        exact W.iret (v := 0) hx hb hr (fun t ht hW => rd_q (by simp only [md_wrap, if_neg d_1, if_pos d_2, if_neg c_2]) ht) (fun q h => by cases h) dX2_wrap_71
    by_cases d_3 : p2 = 2
    · refine lv_tableIn (off := 49) (tgt := 72) hx hb dX2_wrap_23 (by rw [d_3]; decide) (by rw [d_3]; decide) (by rw [d_3]; rfl) (by decide) ?_
      refine lv_iload hx hb dX2_wrap_72 (lv_at hl 0 rfl) ?_
      refine lv_iload_n hx hb dX2_wrap_74 rfl (lv_at hl 3 rfl) ?_
      refine lv_icmp_ge (tgt := 83) hx hb dX2_wrap_75 (by decide) (fun c_2 => ?_) (fun c_2 => ?_)
      · refine lv_iconst (v := 2) hx hb dX2_wrap_83 (by decide) ?_
        refine lv_iload_n hx hb dX2_wrap_84 rfl (lv_at hl 3 rfl) ?_
        refine lv_imul hx hb dX2_wrap_85 ?_
        refine lv_iconst (v := 1) hx hb dX2_wrap_86 (by decide) ?_
        refine lv_isub hx hb dX2_wrap_87 ?_
        refine lv_iload hx hb dX2_wrap_88 (lv_at hl 0 rfl) ?_
        refine lv_isub hx hb dX2_wrap_90 ?_
        exact W.iret (v := ((((2 : Int32) * p1) - (1 : Int32)) - (md_j p0 (md_m p0 p1 p2)))) hx hb hr (fun t ht hW => rd_q (by simp only [md_wrap, if_neg d_1, if_neg d_2, if_pos d_3, if_pos c_2]) ht) (fun q h => by cases h) dX2_wrap_91
      · refine lv_iload hx hb dX2_wrap_78 (lv_at hl 0 rfl) ?_
        refine lv_goto (tgt := 91) hx hb dX2_wrap_80 (by decide) ?_
        exact W.iret (v := (md_j p0 (md_m p0 p1 p2))) hx hb hr (fun t ht hW => rd_q (by simp only [md_wrap, if_neg d_1, if_neg d_2, if_pos d_3, if_neg c_2]) ht) (fun q h => by cases h) dX2_wrap_91
    have a0 : p2.toInt ≠ 0 := tu_ne d_1
    have a1 : p2.toInt ≠ 1 := tu_ne d_2
    have a2 : p2.toInt ≠ 2 := tu_ne d_3
    refine lv_tableOut (tgt := 92) hx hb dX2_wrap_23 (by omega) (by decide) ?_
    refine lv_iload_n hx hb dX2_wrap_92 rfl (lv_at hl 2 rfl) ?_
    refine lv_if_lt (tgt := 105) hx hb dX2_wrap_93 (by decide) (fun c_2 => ?_) (fun c_2 => ?_)
    · refine lv_iconst (v := (-1)) hx hb dX2_wrap_105 (by decide) ?_
      exact W.iret (v := (-1)) hx hb hr (fun t ht hW => rd_q (by simp only [md_wrap, if_neg d_1, if_neg d_2, if_neg d_3, if_pos c_2]) ht) (fun q h => by cases h) dX2_wrap_106
    · refine lv_iload_n hx hb dX2_wrap_96 rfl (lv_at hl 2 rfl) ?_
      refine lv_iload_n hx hb dX2_wrap_97 rfl (lv_at hl 3 rfl) ?_
      refine lv_icmp_ge (tgt := 105) hx hb dX2_wrap_98 (by decide) (fun c_3 => ?_) (fun c_3 => ?_)
      · refine lv_iconst (v := (-1)) hx hb dX2_wrap_105 (by decide) ?_
        exact W.iret (v := (-1)) hx hb hr (fun t ht hW => rd_q (by simp only [md_wrap, if_neg d_1, if_neg d_2, if_neg d_3, if_neg c_2, if_pos c_3]) ht) (fun q h => by cases h) dX2_wrap_106
      · refine lv_iload_n hx hb dX2_wrap_101 rfl (lv_at hl 2 rfl) ?_
        refine lv_goto (tgt := 106) hx hb dX2_wrap_102 (by decide) ?_
        exact W.iret (v := p0) hx hb hr (fun t ht hW => rd_q (by simp only [md_wrap, if_neg d_1, if_neg d_2, if_neg d_3, if_neg c_2, if_neg c_3]) ht) (fun q h => by cases h) dX2_wrap_106
  · refine lv_iconst (v := 2) hx hb dX2_wrap_5 (by decide) ?_
    refine lv_iload_n hx hb dX2_wrap_6 rfl (lv_at hl 1 rfl) ?_
    refine lv_imul hx hb dX2_wrap_7 ?_
    refine lv_goto (tgt := 12) hx hb dX2_wrap_8 (by decide) ?_
    refine W.eq (g2 := F0 m 12 ls [.int (md_m p0 p1 p2)]) (by unfold md_m; rw [if_pos c_1]) ?_
    refine lv_istore_n (lv' := [(3, .int (md_m p0 p1 p2)), (0, .int p0), (1, .int p1), (2, .int p2)]) hx hb dX2_wrap_12 rfl hl (by decide) rfl (fun ls hl => ?_)
    refine lv_iload_n hx hb dX2_wrap_13 rfl (lv_at hl 1 rfl) ?_
    refine lv_iload_n hx hb dX2_wrap_14 rfl (lv_at hl 0 rfl) ?_
    refine lv_irem hx hb dX2_wrap_15 h0 ?_
    refine lv_iload_n hx hb dX2_wrap_16 rfl (lv_at hl 0 rfl) ?_
    refine lv_iadd hx hb dX2_wrap_17 ?_
    refine lv_iload_n hx hb dX2_wrap_18 rfl (lv_at hl 0 rfl) ?_
    refine lv_irem hx hb dX2_wrap_19 h0 ?_
    refine W.eq (g2 := F0 m 20 ls [.int (md_j p0 (md_m p0 p1 p2))]) rfl ?_
    refine lv_istore (lv' := [(4, .int (md_j p0 (md_m p0 p1 p2))), (3, .int (md_m p0 p1 p2)), (0, .int p0), (1, .int p1), (2, .int p2)]) hx hb dX2_wrap_20 hl (by decide) rfl (fun ls hl => ?_)
    refine lv_iload_n hx hb dX2_wrap_22 rfl (lv_at hl 4 rfl) ?_
    by_cases d_1 : p2 = 0
    · refine lv_tableIn (off := 25) (tgt := 48) hx hb dX2_wrap_23 (by rw [d_1]; decide) (by rw [d_1]; decide) (by rw [d_1]; rfl) (by decide) ?_
      refine lv_iload hx hb dX2_wrap_48 (lv_at hl 0 rfl) ?_
      exact W.iret (v := (md_j p0 (md_m p0 p1 p2))) hx hb hr (fun t ht hW => rd_q (by simp only [md_wrap, if_pos d_1]) ht) (fun q h => by cases h) dX2_wrap_50
    by_cases d_2 : p2 = 1
    · refine lv_tableIn (off := 28) (tgt := 51) hx hb dX2_wrap_23 (by rw [d_2]; decide) (by rw [d_2]; decide) (by rw [d_2]; rfl) (by decide) ?_
      refine lv_iload_n hx hb dX2_wrap_51 rfl (lv_at hl 2 rfl) ?_
      refine lv_if_ge (tgt := 59) hx hb dX2_wrap_52 (by decide) (fun c_4 => ?_) (fun c_4 => ?_)
      · refine lv_iload_n hx hb dX2_wrap_59 rfl (lv_at hl 2 rfl) ?_
        refine lv_iload_n hx hb dX2_wrap_60 rfl (lv_at hl 3 rfl) ?_
        refine lv_icmp_lt (tgt := 70) hx hb dX2_wrap_61 (by decide) (fun c_5 => ?_) (fun c_5 => ?_)
        · refine lv_iload_n hx hb dX2_wrap_70 rfl (lv_at hl 2 rfl) ?_
          exact W.iret (v := p0) hx hb hr (fun t ht hW => rd_q (by simp only [md_wrap, if_neg d_1, if_pos d_2, if_pos c_4, if_pos c_5]) ht) (fun q h => by cases h) dX2_wrap_71
        · refine lv_iload_n hx hb dX2_wrap_64 rfl (lv_at hl 3 rfl) ?_
          refine lv_iconst (v := 1) hx hb dX2_wrap_65 (by decide) ?_
          refine lv_isub hx hb dX2_wrap_66 ?_
          refine lv_goto (tgt := 71) hx hb dX2_wrap_67 (by decide) ?_
          exact W.iret (v := (p1 - (1 : Int32))) hx hb hr (fun t ht hW => rd_q (by simp only [md_wrap, if_neg d_1, if_pos d_2, if_pos c_4, if_neg c_5]) ht) (fun q h => by cases h) dX2_wrap_71
      · refine lv_iconst (v := 0) hx hb dX2_wrap_55 (by decide) ?_
        refine lv_goto (tgt := 71) hx hb dX2_wrap_56 (by decide) ?_
        exact W.iret (v := 0) hx hb hr (fun t ht hW => rd_q (by simp only [md_wrap, if_neg d_1, if_pos d_2, if_neg c_4]) ht) (fun q h => by cases h) dX2_wrap_71
    by_cases d_3 : p2 = 2
    · refine lv_tableIn (off := 49) (tgt := 72) hx hb dX2_wrap_23 (by rw [d_3]; decide) (by rw [d_3]; decide) (by rw [d_3]; rfl) (by decide) ?_
      refine lv_iload hx hb dX2_wrap_72 (lv_at hl 0 rfl) ?_
      refine lv_iload_n hx hb dX2_wrap_74 rfl (lv_at hl 3 rfl) ?_
      refine lv_icmp_ge (tgt := 83) hx hb dX2_wrap_75 (by decide) (fun c_4 => ?_) (fun c_4 => ?_)
      · refine lv_iconst (v := 2) hx hb dX2_wrap_83 (by decide) ?_
        refine lv_iload_n hx hb dX2_wrap_84 rfl (lv_at hl 3 rfl) ?_
        refine lv_imul hx hb dX2_wrap_85 ?_
        refine lv_iconst (v := 1) hx hb dX2_wrap_86 (by decide) ?_
        refine lv_isub hx hb dX2_wrap_87 ?_
        refine lv_iload hx hb dX2_wrap_88 (lv_at hl 0 rfl) ?_
        refine lv_isub hx hb dX2_wrap_90 ?_
        exact W.iret (v := ((((2 : Int32) * p1) - (1 : Int32)) - (md_j p0 (md_m p0 p1 p2)))) hx hb hr (fun t ht hW => rd_q (by simp only [md_wrap, if_neg d_1, if_neg d_2, if_pos d_3, if_pos c_4]) ht) (fun q h => by cases h) dX2_wrap_91
      · refine lv_iload hx hb dX2_wrap_78 (lv_at hl 0 rfl) ?_
        refine lv_goto (tgt := 91) hx hb dX2_wrap_80 (by decide) ?_
        exact W.iret (v := (md_j p0 (md_m p0 p1 p2))) hx hb hr (fun t ht hW => rd_q (by simp only [md_wrap, if_neg d_1, if_neg d_2, if_pos d_3, if_neg c_4]) ht) (fun q h => by cases h) dX2_wrap_91
    have a0 : p2.toInt ≠ 0 := tu_ne d_1
    have a1 : p2.toInt ≠ 1 := tu_ne d_2
    have a2 : p2.toInt ≠ 2 := tu_ne d_3
    refine lv_tableOut (tgt := 92) hx hb dX2_wrap_23 (by omega) (by decide) ?_
    refine lv_iload_n hx hb dX2_wrap_92 rfl (lv_at hl 2 rfl) ?_
    refine lv_if_lt (tgt := 105) hx hb dX2_wrap_93 (by decide) (fun c_4 => ?_) (fun c_4 => ?_)
    · refine lv_iconst (v := (-1)) hx hb dX2_wrap_105 (by decide) ?_
      exact W.iret (v := (-1)) hx hb hr (fun t ht hW => rd_q (by simp only [md_wrap, if_neg d_1, if_neg d_2, if_neg d_3, if_pos c_4]) ht) (fun q h => by cases h) dX2_wrap_106
    · refine lv_iload_n hx hb dX2_wrap_96 rfl (lv_at hl 2 rfl) ?_
      refine lv_iload_n hx hb dX2_wrap_97 rfl (lv_at hl 3 rfl) ?_
      refine lv_icmp_ge (tgt := 105) hx hb dX2_wrap_98 (by decide) (fun c_5 => ?_) (fun c_5 => ?_)
      · refine lv_iconst (v := (-1)) hx hb dX2_wrap_105 (by decide) ?_
        exact W.iret (v := (-1)) hx hb hr (fun t ht hW => rd_q (by simp only [md_wrap, if_neg d_1, if_neg d_2, if_neg d_3, if_neg c_4, if_pos c_5]) ht) (fun q h => by cases h) dX2_wrap_106
      · refine lv_iload_n hx hb dX2_wrap_101 rfl (lv_at hl 2 rfl) ?_
        refine lv_goto (tgt := 106) hx hb dX2_wrap_102 (by decide) ?_
        exact W.iret (v := p0) hx hb hr (fun t ht hW => rd_q (by simp only [md_wrap, if_neg d_1, if_neg d_2, if_neg d_3, if_neg c_4, if_neg c_5]) ht) (fun q h => by cases h) dX2_wrap_106
set_option maxHeartbeats 4000000 in
set_option maxRecDepth 100000 in
theorem m_thrown (l : Launch) (dC : Nat → ClassId) (dI : Nat → Nat → Nat) (o : Nat) (th : Int32) (a1 a2 a3 a4 a5 a6 a7 a8 a9 a10 : Nat) : Met l yX2_thrown wsX2_thrown ({ frames := 0, cells := 0, slots := 0, locals := 0 }) (va_Pc [.ref o] (rd_B (dC, dI) vwCl [(o, .inr (2, [.int th, .ref a1, .ref a2, .ref a3, .ref a4, .ref a5, .ref a6, .ref a7, .ref a8, .ref a9, .ref a10]))] [])) (QcRead (th)) 0 0 (fun _ => False) := by
  refine Met.ofW (cc := cX2_thrown) (maxL := 1) (ret := some .int) (by decide) rfl ?_
  intro p e s m args below meth c s₁ B hml hv
  obtain ⟨rfl, hP, hK⟩ := hv
  have hx := B.exec
  have hb := B.bytes
  have hr := B.returns
  have hts := atoms_spec (ws := wsX2_thrown) B.pre
  have hown : s.vm.findClass "TextureUnitsModel" = some m.cls := findClass_of_methodNamed B.named
  have hlocks := B.notSynchronized
  have hl := lv_entry ([.ref o]) (n := 1) (Nat.le_of_ble_eq_true rfl)
  rw [lg_entry_eq]
  generalize (lg_sl ([.ref o]) ++ List.replicate (1 - (lg_sl ([.ref o])).length) Slot.unset).toArray = ls at hl ⊢
  have hl : lv_has ls 1 [(0, .ref o)] := hl
  refine lv_aload_n hx hb dX2_thrown_0 rfl (lv_at hl 0 rfl) ?_
  refine va_get (D := (dC, dI)) (ci := 2) (v := .int th) (C := "TextureUnitsModel") (T := TX2) (N := 11) hx hb hts (tw_s inX2) hown hK hP 0 rfl rfl 0 (by decide) (hts _ (tw_c tw_333)) (fun _ h9 => h9) rfl dX2_thrown_1 ?_
  exact W.iret (v := th) hx hb hr (fun t ht hW => rd_q rfl ht) (fun q h => by cases h) dX2_thrown_4
set_option maxHeartbeats 4000000 in
set_option maxRecDepth 100000 in
theorem m_exponent (l : Launch) (dC : Nat → ClassId) (dI : Nat → Nat → Nat) (o : Nat) (th : Int32) (a1 a2 a3 a4 a5 a6 a7 a8 a9 a10 : Nat) (cI : ClassId) (un : Nat → Int32) (j : Nat) (p1 : Int32) (w : Nat) (hj : j < 4) (hw : w < 2) : Met l yX2_exponent wsX2_exponent ({ frames := 0, cells := 0, slots := 0, locals := 0 }) (va_Pc [.ref o, .int (nI j), .int p1, .int (nI w)] (rd_B (dC, dI) vwCl [(o, .inr (2, [.int th, .ref a1, .ref a2, .ref a3, .ref a4, .ref a5, .ref a6, .ref a7, .ref a8, .ref a9, .ref a10])), (a2, .inl (cI, 32, .inl un))] [(cI, .int)])) (QcRead (md_e (un (8 * j + 1 + w)) p1)) 0 0 (fun _ => False) := by
  refine Met.ofW (cc := cX2_exponent) (maxL := 5) (ret := some .int) (by decide) rfl ?_
  intro p e s m args below meth c s₁ B hml hv
  obtain ⟨rfl, hP, hK⟩ := hv
  have hx := B.exec
  have hb := B.bytes
  have hr := B.returns
  have hts := atoms_spec (ws := wsX2_exponent) B.pre
  have hown : s.vm.findClass "TextureUnitsModel" = some m.cls := findClass_of_methodNamed B.named
  have hlocks := B.notSynchronized
  have hl := lv_entry ([.ref o, .int (nI j), .int p1, .int (nI w)]) (n := 5) (Nat.le_of_ble_eq_true rfl)
  rw [lg_entry_eq]
  generalize (lg_sl ([.ref o, .int (nI j), .int p1, .int (nI w)]) ++ List.replicate (5 - (lg_sl ([.ref o, .int (nI j), .int p1, .int (nI w)])).length) Slot.unset).toArray = ls at hl ⊢
  have hl : lv_has ls 5 [(0, .ref o), (1, .int (nI j)), (2, .int p1), (3, .int (nI w))] := hl
  refine lv_aload_n hx hb dX2_exponent_0 rfl (lv_at hl 0 rfl) ?_
  refine va_get (D := (dC, dI)) (ci := 2) (v := .ref a2) (C := "TextureUnitsModel") (T := TX2) (N := 11) hx hb hts (tw_s inX2) hown hK hP 0 rfl rfl 2 (by decide) (hts _ (tw_c tw_335)) (fun _ h9 => h9) rfl dX2_exponent_1 ?_
  refine lv_bipush (v := 8) hx hb dX2_exponent_4 (by decide) ?_
  refine lv_iload_n hx hb dX2_exponent_6 rfl (lv_at hl 1 rfl) ?_
  refine lv_imul hx hb dX2_exponent_7 ?_
  refine lv_topi (fun x_1 ex_1 => ?_)
  have ex_1 : x_1 = nI (8 * j) := ex_1.trans (pk_mul 8 j)
  subst ex_1
  refine lv_iconst (v := 1) hx hb dX2_exponent_8 (by decide) ?_
  refine lv_iadd hx hb dX2_exponent_9 ?_
  refine lv_topi (fun x_2 ex_2 => ?_)
  have ex_2 : x_2 = nI ((8 * j) + 1) := ex_2.trans (nI_add (8 * j) 1)
  subst ex_2
  refine lv_iload_n hx hb dX2_exponent_10 rfl (lv_at hl 3 rfl) ?_
  refine lv_iadd hx hb dX2_exponent_11 ?_
  refine lv_topi (fun x_3 ex_3 => ?_)
  have ex_3 : x_3 = nI (((8 * j) + 1) + w) := ex_3.trans (nI_add ((8 * j) + 1) w)
  subst ex_3
  refine va_iald hx hb hK hP 1 0 rfl rfl (vp_in_nI (by omega) (by decide)) dX2_exponent_12 ?_
  refine lv_topi (fun x_4 ex_4 => ?_)
  have ex_4 : x_4 = (un (((8 * j) + 1) + w)) := ex_4.trans (congrArg un (nI_clamp (by omega)))
  subst ex_4
  refine lv_iload_n hx hb dX2_exponent_13 rfl (lv_at hl 2 rfl) ?_
  refine lv_isub hx hb dX2_exponent_14 ?_
  refine lv_istore (lv' := [(4, .int ((un (((8 * j) + 1) + w)) - p1)), (0, .ref o), (1, .int (nI j)), (2, .int p1), (3, .int (nI w))]) hx hb dX2_exponent_15 hl (by decide) rfl (fun ls hl => ?_)
  refine lv_iload hx hb dX2_exponent_17 (lv_at hl 0 rfl) ?_
  refine lv_if_ge (tgt := 26) hx hb dX2_exponent_19 (by decide) (fun c_5 => ?_) (fun c_5 => ?_)
  · refine lv_iload hx hb dX2_exponent_26 (lv_at hl 0 rfl) ?_
    exact W.iret (v := ((un (((8 * j) + 1) + w)) - p1)) hx hb hr (fun t ht hW => rd_q (by simp only [md_e, if_pos c_5]) ht) (fun q h => by cases h) dX2_exponent_28
  · refine lv_iconst (v := 0) hx hb dX2_exponent_22 (by decide) ?_
    refine lv_goto (tgt := 28) hx hb dX2_exponent_23 (by decide) ?_
    exact W.iret (v := 0) hx hb hr (fun t ht hW => rd_q (by simp only [md_e, if_neg c_5]) ht) (fun q h => by cases h) dX2_exponent_28
set_option maxHeartbeats 4000000 in
set_option maxRecDepth 100000 in
theorem m_wide (l : Launch) (dC : Nat → ClassId) (dI : Nat → Nat → Nat) (o : Nat) (th : Int32) (a1 a2 a3 a4 a5 a6 a7 a8 a9 a10 : Nat) (cI : ClassId) (un : Nat → Int32) (j : Nat) (p1 : Int32) (hj : j < 4) : Met l yX2_wide wsX2_wide ({ frames := 1, cells := 0, slots := 0, locals := 24 }) (va_Pc [.ref o, .int (nI j), .int p1] (rd_B (dC, dI) vwCl [(o, .inr (2, [.int th, .ref a1, .ref a2, .ref a3, .ref a4, .ref a5, .ref a6, .ref a7, .ref a8, .ref a9, .ref a10])), (a2, .inl (cI, 32, .inl un))] [(cI, .int)])) (QcRead (md_len (un (8 * j + 1)) p1)) 0 0 (fun _ => False) := by
  refine Met.ofW (cc := cX2_wide) (maxL := 3) (ret := some .int) (by decide) rfl ?_
  intro p e s m args below meth c s₁ B hml hv
  obtain ⟨rfl, hP, hK⟩ := hv
  have hx := B.exec
  have hb := B.bytes
  have hr := B.returns
  have hts := atoms_spec (ws := wsX2_wide) B.pre
  have hown : s.vm.findClass "TextureUnitsModel" = some m.cls := findClass_of_methodNamed B.named
  have hlocks := B.notSynchronized
  have hl := lv_entry ([.ref o, .int (nI j), .int p1]) (n := 3) (Nat.le_of_ble_eq_true rfl)
  rw [lg_entry_eq]
  generalize (lg_sl ([.ref o, .int (nI j), .int p1]) ++ List.replicate (3 - (lg_sl ([.ref o, .int (nI j), .int p1])).length) Slot.unset).toArray = ls at hl ⊢
  have hl : lv_has ls 3 [(0, .ref o), (1, .int (nI j)), (2, .int p1)] := hl
  refine lv_iconst (v := 1) hx hb dX2_wide_0 (by decide) ?_
  refine lv_aload_n hx hb dX2_wide_1 rfl (lv_at hl 0 rfl) ?_
  refine lv_iload_n hx hb dX2_wide_2 rfl (lv_at hl 1 rfl) ?_
  refine lv_iload_n hx hb dX2_wide_3 rfl (lv_at hl 2 rfl) ?_
  refine lv_iconst (v := 0) hx hb dX2_wide_4 (by decide) ?_
  refine rd_call (W.runV (As := [.int (nI j), .int p1, .int 0]) (rest := [.int 1]) ⟨hx, hb, hml, hown, hts⟩ (m_exponent l dC dI o th a1 a2 a3 a4 a5 a6 a7 a8 a9 a10 cI un j p1 0 hj (by omega)) (cwV 3 hts (tg_V tw_402 tw_404 tw_p10 tw_3 tw_405) rfl rfl rfl (by decide +kernel) ⟨Nat.le_of_ble_eq_true rfl, Nat.le_of_ble_eq_true rfl⟩) ⟨rd_blind, va_recv hK hP (ci := 2) (q0 := 0) rfl rfl, fun U hU hW => ⟨rfl, rd_use (hP.sub [0, 1] rfl) (hK.sub [0] rfl) U hU hW⟩⟩ rfl rfl hl.1 rfl (lv_room (Nat.le_of_ble_eq_true rfl)) dX2_wide_5 ⟨Nat.le_of_ble_eq_true rfl, Nat.le_of_ble_eq_true rfl⟩) ?_
  refine lv_ishl hx hb dX2_wide_8 ?_
  exact W.iret (v := ((1 : Int32) <<< ((md_e (un (8 * j + 1 + 0)) p1) &&& 31))) hx hb hr (fun t ht hW => rd_q rfl ht) (fun q h => by cases h) dX2_wide_9
set_option maxHeartbeats 4000000 in
set_option maxRecDepth 100000 in
theorem m_high (l : Launch) (dC : Nat → ClassId) (dI : Nat → Nat → Nat) (o : Nat) (th : Int32) (a1 a2 a3 a4 a5 a6 a7 a8 a9 a10 : Nat) (cI : ClassId) (un : Nat → Int32) (j : Nat) (p1 : Int32) (hj : j < 4) : Met l yX2_high wsX2_high ({ frames := 1, cells := 0, slots := 0, locals := 24 }) (va_Pc [.ref o, .int (nI j), .int p1] (rd_B (dC, dI) vwCl [(o, .inr (2, [.int th, .ref a1, .ref a2, .ref a3, .ref a4, .ref a5, .ref a6, .ref a7, .ref a8, .ref a9, .ref a10])), (a2, .inl (cI, 32, .inl un))] [(cI, .int)])) (QcRead (md_len (un (8 * j + 2)) p1)) 0 0 (fun _ => False) := by
  refine Met.ofW (cc := cX2_high) (maxL := 3) (ret := some .int) (by decide) rfl ?_
  intro p e s m args below meth c s₁ B hml hv
  obtain ⟨rfl, hP, hK⟩ := hv
  have hx := B.exec
  have hb := B.bytes
  have hr := B.returns
  have hts := atoms_spec (ws := wsX2_high) B.pre
  have hown : s.vm.findClass "TextureUnitsModel" = some m.cls := findClass_of_methodNamed B.named
  have hlocks := B.notSynchronized
  have hl := lv_entry ([.ref o, .int (nI j), .int p1]) (n := 3) (Nat.le_of_ble_eq_true rfl)
  rw [lg_entry_eq]
  generalize (lg_sl ([.ref o, .int (nI j), .int p1]) ++ List.replicate (3 - (lg_sl ([.ref o, .int (nI j), .int p1])).length) Slot.unset).toArray = ls at hl ⊢
  have hl : lv_has ls 3 [(0, .ref o), (1, .int (nI j)), (2, .int p1)] := hl
  refine lv_iconst (v := 1) hx hb dX2_high_0 (by decide) ?_
  refine lv_aload_n hx hb dX2_high_1 rfl (lv_at hl 0 rfl) ?_
  refine lv_iload_n hx hb dX2_high_2 rfl (lv_at hl 1 rfl) ?_
  refine lv_iload_n hx hb dX2_high_3 rfl (lv_at hl 2 rfl) ?_
  refine lv_iconst (v := 1) hx hb dX2_high_4 (by decide) ?_
  refine rd_call (W.runV (As := [.int (nI j), .int p1, .int 1]) (rest := [.int 1]) ⟨hx, hb, hml, hown, hts⟩ (m_exponent l dC dI o th a1 a2 a3 a4 a5 a6 a7 a8 a9 a10 cI un j p1 1 hj (by omega)) (cwV 3 hts (tg_V tw_402 tw_404 tw_p10 tw_3 tw_405) rfl rfl rfl (by decide +kernel) ⟨Nat.le_of_ble_eq_true rfl, Nat.le_of_ble_eq_true rfl⟩) ⟨rd_blind, va_recv hK hP (ci := 2) (q0 := 0) rfl rfl, fun U hU hW => ⟨rfl, rd_use (hP.sub [0, 1] rfl) (hK.sub [0] rfl) U hU hW⟩⟩ rfl rfl hl.1 rfl (lv_room (Nat.le_of_ble_eq_true rfl)) dX2_high_5 ⟨Nat.le_of_ble_eq_true rfl, Nat.le_of_ble_eq_true rfl⟩) ?_
  refine lv_ishl hx hb dX2_high_8 ?_
  exact W.iret (v := ((1 : Int32) <<< ((md_e (un (8 * j + 1 + 1)) p1) &&& 31))) hx hb hr (fun t ht hW => rd_q rfl ht) (fun q h => by cases h) dX2_high_9
set_option maxHeartbeats 4000000 in
set_option maxRecDepth 100000 in
theorem m_ahead (l : Launch) (dC : Nat → ClassId) (dI : Nat → Nat → Nat) (o : Nat) (th : Int32) (a1 a2 a3 a4 a5 a6 a7 a8 a9 a10 : Nat) (cI : ClassId) (un : Nat → Int32) (j n : Nat) (hj : j < 4) (hn : n ≤ 11) : Met l yX2_ahead wsX2_ahead ({ frames := 2, cells := 0, slots := 0, locals := 46 }) (va_Pc [.ref o, .int (nI j), .int (nI n)] (rd_B (dC, dI) vwCl [(o, .inr (2, [.int th, .ref a1, .ref a2, .ref a3, .ref a4, .ref a5, .ref a6, .ref a7, .ref a8, .ref a9, .ref a10])), (a2, .inl (cI, 32, .inl un))] [(cI, .int)])) (QcRead (md_ah (un (8 * j + 1)) (un (8 * j + 2)) n)) 0 0 (fun _ => False) := by
  refine Met.ofW (cc := cX2_ahead) (maxL := 5) (ret := some .int) (by decide) rfl ?_
  intro p e s m args below meth c s₁ B hml hv
  obtain ⟨rfl, hP, hK⟩ := hv
  have hx := B.exec
  have hb := B.bytes
  have hr := B.returns
  have hts := atoms_spec (ws := wsX2_ahead) B.pre
  have hown : s.vm.findClass "TextureUnitsModel" = some m.cls := findClass_of_methodNamed B.named
  have hlocks := B.notSynchronized
  have hl := lv_entry ([.ref o, .int (nI j), .int (nI n)]) (n := 5) (Nat.le_of_ble_eq_true rfl)
  rw [lg_entry_eq]
  generalize (lg_sl ([.ref o, .int (nI j), .int (nI n)]) ++ List.replicate (5 - (lg_sl ([.ref o, .int (nI j), .int (nI n)])).length) Slot.unset).toArray = ls at hl ⊢
  have hl : lv_has ls 5 [(0, .ref o), (1, .int (nI j)), (2, .int (nI n))] := hl
  refine lv_iconst (v := 0) hx hb dX2_ahead_0 (by decide) ?_
  refine lv_istore_n (lv' := [(3, .int 0), (0, .ref o), (1, .int (nI j)), (2, .int (nI n))]) hx hb dX2_ahead_1 rfl hl (by decide) rfl (fun ls hl => ?_)
  refine lv_iconst (v := 0) hx hb dX2_ahead_2 (by decide) ?_
  refine lv_istore (lv' := [(4, .int 0), (3, .int 0), (0, .ref o), (1, .int (nI j)), (2, .int (nI n))]) hx hb dX2_ahead_3 hl (by decide) rfl (fun ls hl => ?_)
  refine tu_loop1 (W9 := fun ls => W p l e _ s m _ below meth c _ _ 0 0 _ (F0 m 5 ls [])) (I := fun k ls => lv_has ls 5 [(0, .ref o), (1, .int (nI j)), (2, .int (nI n)), (3, .int (md_ah (un (8 * j + 1)) (un (8 * j + 2)) k)), (4, .int (nI k))]) n ?_ ?_ ls (lv_sub hl [2, 3, 4, 1, 0] rfl)
  · intro ls hl
    refine lv_iload hx hb dX2_ahead_5 (lv_at hl 4 rfl) ?_
    refine lv_iload_n hx hb dX2_ahead_7 rfl (lv_at hl 2 rfl) ?_
    refine lv_icmp_ge (tgt := 35) hx hb dX2_ahead_8 (by decide) (fun c_1 => ?_) (fun c_1 => absurd (nI_le (Nat.le_refl n) (by omega)) c_1)
    refine lv_iload_n hx hb dX2_ahead_35 rfl (lv_at hl 3 rfl) ?_
    exact W.iret (v := (md_ah (un (8 * j + 1)) (un (8 * j + 2)) n)) hx hb hr (fun t ht hW => rd_q rfl ht) (fun q h => by cases h) dX2_ahead_36
  · intro k ls hk hl ih
    refine lv_iload hx hb dX2_ahead_5 (lv_at hl 4 rfl) ?_
    refine lv_iload_n hx hb dX2_ahead_7 rfl (lv_at hl 2 rfl) ?_
    refine lv_icmp_ge (tgt := 35) hx hb dX2_ahead_8 (by decide) (fun c_1 => absurd c_1 (nI_ge hk (by omega))) (fun c_1 => ?_)
    refine lv_iload_n hx hb dX2_ahead_11 rfl (lv_at hl 3 rfl) ?_
    refine lv_aload_n hx hb dX2_ahead_12 rfl (lv_at hl 0 rfl) ?_
    refine lv_iload_n hx hb dX2_ahead_13 rfl (lv_at hl 1 rfl) ?_
    refine lv_iload hx hb dX2_ahead_14 (lv_at hl 4 rfl) ?_
    refine rd_call (W.runV (As := [.int (nI j), .int (nI k)]) (rest := [.int (md_ah (un (8 * j + 1)) (un (8 * j + 2)) k)]) ⟨hx, hb, hml, hown, hts⟩ (m_wide l dC dI o th a1 a2 a3 a4 a5 a6 a7 a8 a9 a10 cI un j (nI k) hj) (cwV 2 hts (tg_V tw_398 tw_400 tw_p9 tw_3 tw_401) rfl rfl rfl (by decide +kernel) ⟨Nat.le_of_ble_eq_true rfl, Nat.le_of_ble_eq_true rfl⟩) ⟨rd_blind, va_recv hK hP (ci := 2) (q0 := 0) rfl rfl, fun U hU hW => ⟨rfl, rd_use (hP.sub [0, 1] rfl) (hK.sub [0] rfl) U hU hW⟩⟩ rfl rfl hl.1 rfl (lv_room (Nat.le_of_ble_eq_true rfl)) dX2_ahead_16 ⟨Nat.le_of_ble_eq_true rfl, Nat.le_of_ble_eq_true rfl⟩) ?_
    refine lv_aload_n hx hb dX2_ahead_19 rfl (lv_at hl 0 rfl) ?_
    refine lv_iload_n hx hb dX2_ahead_20 rfl (lv_at hl 1 rfl) ?_
    refine lv_iload hx hb dX2_ahead_21 (lv_at hl 4 rfl) ?_
    refine rd_call (W.runV (As := [.int (nI j), .int (nI k)]) (rest := [.int (md_len (un (8 * j + 1)) (nI k)), .int (md_ah (un (8 * j + 1)) (un (8 * j + 2)) k)]) ⟨hx, hb, hml, hown, hts⟩ (m_high l dC dI o th a1 a2 a3 a4 a5 a6 a7 a8 a9 a10 cI un j (nI k) hj) (cwV 2 hts (tg_V tw_406 tw_408 tw_p11 tw_3 tw_409) rfl rfl rfl (by decide +kernel) ⟨Nat.le_of_ble_eq_true rfl, Nat.le_of_ble_eq_true rfl⟩) ⟨rd_blind, va_recv hK hP (ci := 2) (q0 := 0) rfl rfl, fun U hU hW => ⟨rfl, rd_use (hP.sub [0, 1] rfl) (hK.sub [0] rfl) U hU hW⟩⟩ rfl rfl hl.1 rfl (lv_room (Nat.le_of_ble_eq_true rfl)) dX2_ahead_23 ⟨Nat.le_of_ble_eq_true rfl, Nat.le_of_ble_eq_true rfl⟩) ?_
    refine lv_imul hx hb dX2_ahead_26 ?_
    refine lv_iadd hx hb dX2_ahead_27 ?_
    refine lv_istore_n (lv' := [(3, .int ((md_ah (un (8 * j + 1)) (un (8 * j + 2)) k) + ((md_len (un (8 * j + 1)) (nI k)) * (md_len (un (8 * j + 2)) (nI k))))), (0, .ref o), (1, .int (nI j)), (2, .int (nI n)), (4, .int (nI k))]) hx hb dX2_ahead_28 rfl hl (by decide) rfl (fun ls hl => ?_)
    refine lv_iinc (v := (nI (k + 1))) (lv' := [(4, .int (nI (k + 1))), (3, .int ((md_ah (un (8 * j + 1)) (un (8 * j + 2)) k) + ((md_len (un (8 * j + 1)) (nI k)) * (md_len (un (8 * j + 2)) (nI k))))), (0, .ref o), (1, .int (nI j)), (2, .int (nI n))]) hx hb dX2_ahead_29 hl (k := 4) rfl (nI_1 k) (by decide) rfl (fun ls hl => ?_)
    refine lv_goto (tgt := 5) hx hb dX2_ahead_32 (by decide) ?_
    exact ih _ (lv_sub hl [2, 3, 4, 1, 0] rfl)
set_option maxHeartbeats 4000000 in
set_option maxRecDepth 100000 in
theorem m_bit (l : Launch) (dC : Nat → ClassId) (dI : Nat → Nat → Nat) (o : Nat) (th : Int32) (a1 a2 a3 a4 a5 a6 a7 a8 a9 a10 : Nat) (cI : ClassId) (mem : Nat → Int32) (a n : Nat) (ha : a < 2 ^ 31) (hn : n < 2 ^ 40) : Met l yX2_bit wsX2_bit ({ frames := 0, cells := 0, slots := 0, locals := 0 }) (va_Pc [.ref o, .int (nI a), .long (lN n)] (rd_B (dC, dI) vwCl [(o, .inr (2, [.int th, .ref a1, .ref a2, .ref a3, .ref a4, .ref a5, .ref a6, .ref a7, .ref a8, .ref a9, .ref a10])), (a1, .inl (cI, 2048, .inl mem))] [(cI, .int)])) (QcRead (md_bit mem a n)) 0 0 (fun _ => False) := by
  refine Met.ofW (cc := cX2_bit) (maxL := 6) (ret := some .int) (by decide) rfl ?_
  intro p e s m args below meth c s₁ B hml hv
  obtain ⟨rfl, hP, hK⟩ := hv
  have hx := B.exec
  have hb := B.bytes
  have hr := B.returns
  have hts := atoms_spec (ws := wsX2_bit) B.pre
  have hown : s.vm.findClass "TextureUnitsModel" = some m.cls := findClass_of_methodNamed B.named
  have hlocks := B.notSynchronized
  have hl := lv_entry ([.ref o, .int (nI a), .long (lN n)]) (n := 6) (Nat.le_of_ble_eq_true rfl)
  rw [lg_entry_eq]
  generalize (lg_sl ([.ref o, .int (nI a), .long (lN n)]) ++ List.replicate (6 - (lg_sl ([.ref o, .int (nI a), .long (lN n)])).length) Slot.unset).toArray = ls at hl ⊢
  have hl : lv_has ls 6 [(0, .ref o), (1, .int (nI a)), (2, .long (lN n))] := hl
  refine lv_iload_n hx hb dX2_bit_0 rfl (lv_at hl 1 rfl) ?_
  refine lv_i2l hx hb dX2_bit_1 rfl ?_
  refine lv_lload_n hx hb dX2_bit_2 rfl (lv_at hl 2 rfl) ?_
  refine lv_ldc2 (v := 32) hx hb hown (hts _ (tw_c tw_430)) dX2_bit_3 ?_
  refine lv_ldiv hx hb dX2_bit_6 (by decide) ?_
  refine lv_ladd hx hb dX2_bit_7 ?_
  refine lv_topl (fun x ex => ?_)
  have ex : x = lN (a + n / 32) := ex.trans (md_w ha hn)
  subst ex
  refine lv_lstore (lv' := [(4, .long (lN (a + n / 32))), (0, .ref o), (1, .int (nI a)), (2, .long (lN n))]) hx hb dX2_bit_8 hl (by decide) rfl (fun ls hl => ?_)
  refine lv_lload hx hb dX2_bit_10 (lv_at hl 0 rfl) ?_
  refine lv_ldc2 (v := 2048) hx hb hown (hts _ (tw_c tw_431)) dX2_bit_12 ?_
  refine W.lcmp hx hb dX2_bit_15 ?_
  refine lv_if_ge (tgt := 39) hx hb dX2_bit_16 (by decide) (fun c_1 => ?_) (fun c_1 => ?_)
  · refine lv_iconst (v := 0) hx hb dX2_bit_39 (by decide) ?_
    exact W.iret (v := 0) hx hb hr (fun t ht hW => rd_q (by unfold md_bit; rw [if_neg (by have := (md_c (w := a + n / 32) (by omega)).mp c_1; omega)]) ht) (fun q h => by cases h) dX2_bit_40
  · refine lv_aload_n hx hb dX2_bit_19 rfl (lv_at hl 1 rfl) ?_
    refine va_get (D := (dC, dI)) (ci := 2) (v := .ref a1) (C := "TextureUnitsModel") (T := TX2) (N := 11) hx hb hts (tw_s inX2) hown hK hP 0 rfl rfl 1 (by decide) (hts _ (tw_c tw_334)) (fun _ h9 => h9) rfl dX2_bit_20 ?_
    refine lv_lload hx hb dX2_bit_23 (lv_at hl 0 rfl) ?_
    refine lv_l2i hx hb dX2_bit_25 rfl ?_
    have hc := mt (md_c (w := a + n / 32) (by omega)).mpr c_1
    refine lv_topi (fun x ex => ?_)
    have ex : x = nI (a + n / 32) := ex.trans (lN_i _)
    subst ex
    refine va_iald hx hb hK hP 1 0 rfl rfl (vp_in_nI (by omega) (by decide)) dX2_bit_26 ?_
    refine lv_topi (fun x_2 ex_2 => ?_)
    have ex_2 : x_2 = (mem (a + n / 32)) := ex_2.trans (congrArg mem (nI_clamp (by omega)))
    subst ex_2
    refine lv_lload_n hx hb dX2_bit_27 rfl (lv_at hl 3 rfl) ?_
    refine lv_ldc2 (v := 32) hx hb hown (hts _ (tw_c tw_430)) dX2_bit_28 ?_
    refine lv_lrem hx hb dX2_bit_31 (by decide) ?_
    refine lv_l2i hx hb dX2_bit_32 rfl ?_
    refine lv_topi (fun x ex => ?_)
    have ex : x = nI (n % 32) := ex.trans (md_r hn)
    subst ex
    refine lv_ishr hx hb dX2_bit_33 ?_
    refine lv_iconst (v := 1) hx hb dX2_bit_34 (by decide) ?_
    refine lv_iand hx hb dX2_bit_35 ?_
    refine lv_goto (tgt := 40) hx hb dX2_bit_36 (by decide) ?_
    exact W.iret (v := (((mem (a + n / 32)) >>> ((nI (n % 32)) &&& 31)) &&& (1 : Int32))) hx hb hr (fun t ht hW => rd_q (by unfold md_bit; rw [if_pos (by omega)]) ht) (fun q h => by cases h) dX2_bit_40
