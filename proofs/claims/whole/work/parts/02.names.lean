def TX0 : u_T := fun k => match k with
  | 0 => ("TextureUnits$Unit", "from", "I", false)
  | 1 => ("TextureUnits$Unit", "format", "I", false)
  | 2 => ("TextureUnits$Unit", "logWidth", "I", false)
  | 3 => ("TextureUnits$Unit", "logHeight", "I", false)
  | 4 => ("TextureUnits$Unit", "levels", "I", false)
  | 5 => ("TextureUnits$Unit", "across", "I", false)
  | 6 => ("TextureUnits$Unit", "down", "I", false)
  | 7 => ("TextureUnits$Unit", "filter", "I", false)
  | 8 => ("TextureUnits$Unit", "borderColour", "[I", true)
  | _ => ("TextureUnits$Unit", "starts", "[I", true)
def tyX0 : Nat → FieldType := fun k => match k with
  | 0 => .int
  | 1 => .int
  | 2 => .int
  | 3 => .int
  | 4 => .int
  | 5 => .int
  | 6 => .int
  | 7 => .int
  | 8 => (.array .int)
  | _ => (.array .int)
theorem nmX0 : ∀ a, a < 10 → ∀ b, b < 10 → a ≠ b → (TX0 a).2.1 ≠ (TX0 b).2.1 := by decide +kernel
theorem tyX0_ok : ∀ k, k < 10 → parseFieldDescriptor (TX0 k).2.2.1 = some (tyX0 k) := by decide +kernel
def TX1 : u_T := fun k => match k with
  | 0 => ("TextureUnits", "words", "[I", true)
  | 1 => ("TextureUnits", "units", "[LTextureUnits$Unit;", true)
  | 2 => ("TextureUnits", "latest", "[I", true)
  | _ => ("TextureUnits", "nextLevel", "[I", true)
def tyX1 : Nat → FieldType := fun k => match k with
  | 0 => (.array .int)
  | 1 => (.array (.object "TextureUnits$Unit"))
  | 2 => (.array .int)
  | _ => (.array .int)
theorem nmX1 : ∀ a, a < 4 → ∀ b, b < 4 → a ≠ b → (TX1 a).2.1 ≠ (TX1 b).2.1 := by decide +kernel
theorem tyX1_ok : ∀ k, k < 4 → parseFieldDescriptor (TX1 k).2.2.1 = some (tyX1 k) := by decide +kernel
def TX2 : u_T := fun k => match k with
  | 0 => ("TextureUnitsModel", "thrown", "I", false)
  | 1 => ("TextureUnitsModel", "memory", "[I", true)
  | 2 => ("TextureUnitsModel", "units", "[I", true)
  | 3 => ("TextureUnitsModel", "borders", "[I", true)
  | 4 => ("TextureUnitsModel", "latest", "[I", true)
  | 5 => ("TextureUnitsModel", "found", "[I", true)
  | 6 => ("TextureUnitsModel", "row", "[I", true)
  | 7 => ("TextureUnitsModel", "upper", "[I", true)
  | 8 => ("TextureUnitsModel", "near", "[I", true)
  | 9 => ("TextureUnitsModel", "first", "[I", true)
  | _ => ("TextureUnitsModel", "size", "[I", true)
def tyX2 : Nat → FieldType := fun k => match k with
  | 0 => .int
  | 1 => (.array .int)
  | 2 => (.array .int)
  | 3 => (.array .int)
  | 4 => (.array .int)
  | 5 => (.array .int)
  | 6 => (.array .int)
  | 7 => (.array .int)
  | 8 => (.array .int)
  | 9 => (.array .int)
  | _ => (.array .int)
theorem nmX2 : ∀ a, a < 11 → ∀ b, b < 11 → a ≠ b → (TX2 a).2.1 ≠ (TX2 b).2.1 := by decide +kernel
theorem tyX2_ok : ∀ k, k < 11 → parseFieldDescriptor (TX2 k).2.2.1 = some (tyX2 k) := by decide +kernel
abbrev vwCl : List vw_C := [("TextureUnits$Unit", TX0, 10), ("TextureUnits", TX1, 4), ("TextureUnitsModel", TX2, 11)]
/-- the good ones of the law's words -/
def TW : List Cond := lw_tbl.filter goodWord
theorem tw_of {w : Cond} (h : w ∈ lw_tbl) (g : goodWord w = true) : w ∈ TW := List.mem_filter.mpr ⟨h, g⟩
theorem tw_in {w : Cond} (h : w ∈ TW) : w ∈ lw_tbl := (List.mem_filter.mp h).1
theorem tw_good {w : Cond} (h : w ∈ TW) : goodWord w = true := (List.mem_filter.mp h).2
theorem tw_t1 {w : Cond} (i : Nat) (h : tables_1_1[i]? = some w) (g : goodWord w = true) : w ∈ TW := tw_of (List.mem_append_right _ (List.mem_append_left _ (List.mem_of_getElem? h))) g
theorem tw_t2 {w : Cond} (i : Nat) (h : tables_1_2[i]? = some w) (g : goodWord w = true) : w ∈ TW := tw_of (List.mem_append_right _ (List.mem_append_right _ (List.mem_of_getElem? h))) g
theorem tw_t0 {w : Cond} (i : Nat) (h : (k2_sels lw_privs)[i]? = some w) (g : goodWord w = true) : w ∈ TW := tw_of (List.mem_append_left _ (List.mem_of_getElem? h)) g
theorem tw_c {w x : Cond} (h : w ∈ TW) : w ∈ x :: TW := List.mem_cons_of_mem _ h
theorem tw_s {x : Cond} {L : List Cond} (h : ∀ w ∈ L, w ∈ TW) : ∀ w ∈ L, w ∈ x :: TW := fun w hw => List.mem_cons_of_mem _ (h w hw)
theorem tg_1 {x w : Cond} (h : w ∈ TW) : w ∈ x :: TW ∧ ((w.onTables && w.keeps) = true ∨ ∃ ty, w = .arrayClass ty) := ⟨tw_c h, good_of_word (tw_good h)⟩
theorem tg_0 {x k : Cond} (h : k ∈ TW) : GoodIn (x :: TW) (k :: TW) := fun w hw => (List.mem_cons.mp hw).elim (fun e => by rw [e]; exact tg_1 h) (fun h => tg_1 h)
theorem tg_V {x : Cond} {own C : String} {idx : Nat} {y : MethodName} {k : Cond} (h1 : .methodLink own idx y ∈ TW) (h2 : .instanceMethod y ∈ TW) (h3 : .selects C y y ∈ TW) (h4 : .initialized C ∈ TW) (h5 : k ∈ TW) : GoodIn (x :: TW) (wsV own idx C y (k :: TW)) := by
  intro w hw
  unfold wsV at hw
  simp only [List.mem_append, List.mem_cons, List.not_mem_nil, or_false] at hw
  rcases hw with (rfl | rfl | rfl | rfl) | (rfl | hw)
  · exact tg_1 h1
  · exact tg_1 h2
  · exact tg_1 h3
  · exact tg_1 h4
  · exact tg_1 h5
  · exact tg_1 hw
theorem tg_S {x : Cond} {own : String} {idx : Nat} {y : MethodName} {k : Cond} (h1 : .methodLink own idx y ∈ TW) (h2 : .static y ∈ TW) (h4 : .initialized y.cls ∈ TW) (h5 : k ∈ TW) : GoodIn (x :: TW) (va_wsS own idx y (k :: TW)) := by
  intro w hw
  unfold va_wsS at hw
  simp only [List.mem_append, List.mem_cons, List.not_mem_nil, or_false] at hw
  rcases hw with (rfl | rfl | rfl) | (rfl | hw)
  · exact tg_1 h1
  · exact tg_1 h2
  · exact tg_1 h4
  · exact tg_1 h5
  · exact tg_1 hw
abbrev cX1_init : ByteArray := prog_1_method_1_code
abbrev yX1_init : MethodName := ⟨"TextureUnits", "<init>", "()V"⟩
abbrev wsX1_init : List Cond := (.code ⟨"TextureUnits", "<init>", "()V"⟩ prog_1_method_1_code 2 .none) :: TW
abbrev cX1_poke : ByteArray := prog_1_method_2_code
abbrev yX1_poke : MethodName := ⟨"TextureUnits", "poke", "(II)V"⟩
abbrev wsX1_poke : List Cond := (.code ⟨"TextureUnits", "poke", "(II)V"⟩ prog_1_method_2_code 3 .none) :: TW
abbrev cX1_picture : ByteArray := prog_1_method_3_code
abbrev yX1_picture : MethodName := ⟨"TextureUnits", "picture", "(IIIIII)V"⟩
abbrev wsX1_picture : List Cond := (.code ⟨"TextureUnits", "picture", "(IIIIII)V"⟩ prog_1_method_3_code 8 .none) :: TW
abbrev cX1_manner : ByteArray := prog_1_method_4_code
abbrev yX1_manner : MethodName := ⟨"TextureUnits", "manner", "(IIII)V"⟩
abbrev wsX1_manner : List Cond := (.code ⟨"TextureUnits", "manner", "(IIII)V"⟩ prog_1_method_4_code 6 .none) :: TW
abbrev cX1_border : ByteArray := prog_1_method_5_code
abbrev yX1_border : MethodName := ⟨"TextureUnits", "border", "(IIIII)V"⟩
abbrev wsX1_border : List Cond := (.code ⟨"TextureUnits", "border", "(IIIII)V"⟩ prog_1_method_5_code 7 .none) :: TW
abbrev cX1_texel : ByteArray := prog_1_method_6_code
abbrev yX1_texel : MethodName := ⟨"TextureUnits", "texel", "(IIIII)I"⟩
abbrev wsX1_texel : List Cond := (.code ⟨"TextureUnits", "texel", "(IIIII)I"⟩ prog_1_method_6_code 7 (.some .int)) :: TW
abbrev cX1_texels : ByteArray := prog_1_method_7_code
abbrev yX1_texels : MethodName := ⟨"TextureUnits", "texels", "(I)I"⟩
abbrev wsX1_texels : List Cond := (.code ⟨"TextureUnits", "texels", "(I)I"⟩ prog_1_method_7_code 3 (.some .int)) :: TW
abbrev cX1_read : ByteArray := prog_1_method_8_code
abbrev yX1_read : MethodName := ⟨"TextureUnits", "read", "(IIII)I"⟩
abbrev wsX1_read : List Cond := (.code ⟨"TextureUnits", "read", "(IIII)I"⟩ prog_1_method_8_code 10 (.some .int)) :: TW
abbrev cX1_also : ByteArray := prog_1_method_9_code
abbrev yX1_also : MethodName := ⟨"TextureUnits", "also", "(I)I"⟩
abbrev wsX1_also : List Cond := (.code ⟨"TextureUnits", "also", "(I)I"⟩ prog_1_method_9_code 2 (.some .int)) :: TW
abbrev cX1_unitAt : ByteArray := prog_1_method_10_code
abbrev yX1_unitAt : MethodName := ⟨"TextureUnits", "unitAt", "(I)LTextureUnits$Unit;"⟩
abbrev wsX1_unitAt : List Cond := (.code ⟨"TextureUnits", "unitAt", "(I)LTextureUnits$Unit;"⟩ prog_1_method_10_code 2 (.some (.object "TextureUnits$Unit"))) :: TW
abbrev cX1_sample : ByteArray := prog_1_method_11_code
abbrev yX1_sample : MethodName := ⟨"TextureUnits", "sample", "(LTextureUnits$Unit;III[I)V"⟩
abbrev wsX1_sample : List Cond := (.code ⟨"TextureUnits", "sample", "(LTextureUnits$Unit;III[I)V"⟩ prog_1_method_11_code 6 .none) :: TW
abbrev cX1_sampleOne : ByteArray := prog_1_method_12_code
abbrev yX1_sampleOne : MethodName := ⟨"TextureUnits", "sampleOne", "(LTextureUnits$Unit;III[I)V"⟩
abbrev wsX1_sampleOne : List Cond := (.code ⟨"TextureUnits", "sampleOne", "(LTextureUnits$Unit;III[I)V"⟩ prog_1_method_12_code 11 .none) :: TW
abbrev cX1_sampleFour : ByteArray := prog_1_method_13_code
abbrev yX1_sampleFour : MethodName := ⟨"TextureUnits", "sampleFour", "(LTextureUnits$Unit;III[I)V"⟩
abbrev wsX1_sampleFour : List Cond := (.code ⟨"TextureUnits", "sampleFour", "(LTextureUnits$Unit;III[I)V"⟩ prog_1_method_13_code 21 .none) :: TW
abbrev cX1_storedOrBorder : ByteArray := prog_1_method_14_code
abbrev yX1_storedOrBorder : MethodName := ⟨"TextureUnits", "storedOrBorder", "(LTextureUnits$Unit;IIII)I"⟩
abbrev wsX1_storedOrBorder : List Cond := (.code ⟨"TextureUnits", "storedOrBorder", "(LTextureUnits$Unit;IIII)I"⟩ prog_1_method_14_code 6 (.some .int)) :: TW
abbrev cX1_stored : ByteArray := prog_1_method_15_code
abbrev yX1_stored : MethodName := ⟨"TextureUnits", "stored", "(LTextureUnits$Unit;IIII)I"⟩
abbrev wsX1_stored : List Cond := (.code ⟨"TextureUnits", "stored", "(LTextureUnits$Unit;IIII)I"⟩ prog_1_method_15_code 12 (.some .int)) :: TW
abbrev cX1_wordAt : ByteArray := prog_1_method_16_code
abbrev yX1_wordAt : MethodName := ⟨"TextureUnits", "wordAt", "(J)I"⟩
abbrev wsX1_wordAt : List Cond := (.code ⟨"TextureUnits", "wordAt", "(J)I"⟩ prog_1_method_16_code 3 (.some .int)) :: TW
abbrev cX1_wrapped : ByteArray := prog_1_method_17_code
abbrev yX1_wrapped : MethodName := ⟨"TextureUnits", "wrapped", "(III)I"⟩
abbrev wsX1_wrapped : List Cond := (.code ⟨"TextureUnits", "wrapped", "(III)I"⟩ prog_1_method_17_code 3 (.some .int)) :: TW
abbrev cX1_mirrored : ByteArray := prog_1_method_18_code
abbrev yX1_mirrored : MethodName := ⟨"TextureUnits", "mirrored", "(II)I"⟩
abbrev wsX1_mirrored : List Cond := (.code ⟨"TextureUnits", "mirrored", "(II)I"⟩ prog_1_method_18_code 3 (.some .int)) :: TW
abbrev cX1_mix : ByteArray := prog_1_method_19_code
abbrev yX1_mix : MethodName := ⟨"TextureUnits", "mix", "(III)I"⟩
abbrev wsX1_mix : List Cond := (.code ⟨"TextureUnits", "mix", "(III)I"⟩ prog_1_method_19_code 5 (.some .int)) :: TW
abbrev cX1_whole : ByteArray := prog_1_method_20_code
abbrev yX1_whole : MethodName := ⟨"TextureUnits", "whole", "(J)I"⟩
abbrev wsX1_whole : List Cond := (.code ⟨"TextureUnits", "whole", "(J)I"⟩ prog_1_method_20_code 2 (.some .int)) :: TW
abbrev cX1_rest : ByteArray := prog_1_method_21_code
abbrev yX1_rest : MethodName := ⟨"TextureUnits", "rest", "(J)I"⟩
abbrev wsX1_rest : List Cond := (.code ⟨"TextureUnits", "rest", "(J)I"⟩ prog_1_method_21_code 2 (.some .int)) :: TW
abbrev cX1_cut : ByteArray := prog_1_method_22_code
abbrev yX1_cut : MethodName := ⟨"TextureUnits", "cut", "(III)I"⟩
abbrev wsX1_cut : List Cond := (.code ⟨"TextureUnits", "cut", "(III)I"⟩ prog_1_method_22_code 3 (.some .int)) :: TW
abbrev cX1_within : ByteArray := prog_1_method_23_code
abbrev yX1_within : MethodName := ⟨"TextureUnits", "within", "(III)Z"⟩
abbrev wsX1_within : List Cond := (.code ⟨"TextureUnits", "within", "(III)Z"⟩ prog_1_method_23_code 3 (.some .boolean)) :: TW
abbrev cX2_init : ByteArray := prog_4_method_1_code
abbrev yX2_init : MethodName := ⟨"TextureUnitsModel", "<init>", "()V"⟩
abbrev wsX2_init : List Cond := (.code ⟨"TextureUnitsModel", "<init>", "()V"⟩ prog_4_method_1_code 2 .none) :: TW
abbrev cX2_thrown : ByteArray := prog_4_method_2_code
abbrev yX2_thrown : MethodName := ⟨"TextureUnitsModel", "thrown", "()I"⟩
abbrev wsX2_thrown : List Cond := (.code ⟨"TextureUnitsModel", "thrown", "()I"⟩ prog_4_method_2_code 1 (.some .int)) :: TW
abbrev cX2_refuse : ByteArray := prog_4_method_3_code
abbrev yX2_refuse : MethodName := ⟨"TextureUnitsModel", "refuse", "(ZZ)Z"⟩
abbrev wsX2_refuse : List Cond := (.code ⟨"TextureUnitsModel", "refuse", "(ZZ)Z"⟩ prog_4_method_3_code 3 (.some .boolean)) :: TW
abbrev cX2_in : ByteArray := prog_4_method_4_code
abbrev yX2_in : MethodName := ⟨"TextureUnitsModel", "in", "(III)Z"⟩
abbrev wsX2_in : List Cond := (.code ⟨"TextureUnitsModel", "in", "(III)Z"⟩ prog_4_method_4_code 3 (.some .boolean)) :: TW
abbrev cX2_poke : ByteArray := prog_4_method_5_code
abbrev yX2_poke : MethodName := ⟨"TextureUnitsModel", "poke", "(II)V"⟩
abbrev wsX2_poke : List Cond := (.code ⟨"TextureUnitsModel", "poke", "(II)V"⟩ prog_4_method_5_code 3 .none) :: TW
abbrev cX2_picture : ByteArray := prog_4_method_6_code
abbrev yX2_picture : MethodName := ⟨"TextureUnitsModel", "picture", "(IIIIII)V"⟩
abbrev wsX2_picture : List Cond := (.code ⟨"TextureUnitsModel", "picture", "(IIIIII)V"⟩ prog_4_method_6_code 8 .none) :: TW
abbrev cX2_manner : ByteArray := prog_4_method_7_code
abbrev yX2_manner : MethodName := ⟨"TextureUnitsModel", "manner", "(IIII)V"⟩
abbrev wsX2_manner : List Cond := (.code ⟨"TextureUnitsModel", "manner", "(IIII)V"⟩ prog_4_method_7_code 5 .none) :: TW
abbrev cX2_border : ByteArray := prog_4_method_8_code
abbrev yX2_border : MethodName := ⟨"TextureUnitsModel", "border", "(IIIII)V"⟩
abbrev wsX2_border : List Cond := (.code ⟨"TextureUnitsModel", "border", "(IIIII)V"⟩ prog_4_method_8_code 6 .none) :: TW
abbrev cX2_exponent : ByteArray := prog_4_method_9_code
abbrev yX2_exponent : MethodName := ⟨"TextureUnitsModel", "exponent", "(III)I"⟩
abbrev wsX2_exponent : List Cond := (.code ⟨"TextureUnitsModel", "exponent", "(III)I"⟩ prog_4_method_9_code 5 (.some .int)) :: TW
abbrev cX2_wide : ByteArray := prog_4_method_10_code
abbrev yX2_wide : MethodName := ⟨"TextureUnitsModel", "wide", "(II)I"⟩
abbrev wsX2_wide : List Cond := (.code ⟨"TextureUnitsModel", "wide", "(II)I"⟩ prog_4_method_10_code 3 (.some .int)) :: TW
abbrev cX2_high : ByteArray := prog_4_method_11_code
abbrev yX2_high : MethodName := ⟨"TextureUnitsModel", "high", "(II)I"⟩
abbrev wsX2_high : List Cond := (.code ⟨"TextureUnitsModel", "high", "(II)I"⟩ prog_4_method_11_code 3 (.some .int)) :: TW
abbrev cX2_ahead : ByteArray := prog_4_method_12_code
abbrev yX2_ahead : MethodName := ⟨"TextureUnitsModel", "ahead", "(II)I"⟩
abbrev wsX2_ahead : List Cond := (.code ⟨"TextureUnitsModel", "ahead", "(II)I"⟩ prog_4_method_12_code 5 (.some .int)) :: TW
abbrev cX2_lay : ByteArray := prog_4_method_13_code
abbrev yX2_lay : MethodName := ⟨"TextureUnitsModel", "lay", "(IIIIIIII)V"⟩
abbrev wsX2_lay : List Cond := (.code ⟨"TextureUnitsModel", "lay", "(IIIIIIII)V"⟩ prog_4_method_13_code 9 .none) :: TW
abbrev cX2_layOut : ByteArray := prog_4_method_14_code
abbrev yX2_layOut : MethodName := ⟨"TextureUnitsModel", "layOut", "(I)I"⟩
abbrev wsX2_layOut : List Cond := (.code ⟨"TextureUnitsModel", "layOut", "(I)I"⟩ prog_4_method_14_code 2 (.some .int)) :: TW
abbrev cX2_bit : ByteArray := prog_4_method_15_code
abbrev yX2_bit : MethodName := ⟨"TextureUnitsModel", "bit", "(IJ)I"⟩
abbrev wsX2_bit : List Cond := (.code ⟨"TextureUnitsModel", "bit", "(IJ)I"⟩ prog_4_method_15_code 6 (.some .int)) :: TW
abbrev cX2_look : ByteArray := prog_4_method_16_code
abbrev yX2_look : MethodName := ⟨"TextureUnitsModel", "look", "(IIII)V"⟩
abbrev wsX2_look : List Cond := (.code ⟨"TextureUnitsModel", "look", "(IIII)V"⟩ prog_4_method_16_code 11 .none) :: TW
abbrev cX2_wrap : ByteArray := prog_4_method_17_code
abbrev yX2_wrap : MethodName := ⟨"TextureUnitsModel", "wrap", "(III)I"⟩
abbrev wsX2_wrap : List Cond := (.code ⟨"TextureUnitsModel", "wrap", "(III)I"⟩ prog_4_method_17_code 5 (.some .int)) :: TW
abbrev cX2_wrapped : ByteArray := prog_4_method_18_code
abbrev yX2_wrapped : MethodName := ⟨"TextureUnitsModel", "wrapped", "(IIII)V"⟩
abbrev wsX2_wrapped : List Cond := (.code ⟨"TextureUnitsModel", "wrapped", "(IIII)V"⟩ prog_4_method_18_code 8 .none) :: TW
abbrev cX2_mix : ByteArray := prog_4_method_19_code
abbrev yX2_mix : MethodName := ⟨"TextureUnitsModel", "mix", "(III)I"⟩
abbrev wsX2_mix : List Cond := (.code ⟨"TextureUnitsModel", "mix", "(III)I"⟩ prog_4_method_19_code 3 (.some .int)) :: TW
abbrev cX2_mixRow : ByteArray := prog_4_method_20_code
abbrev yX2_mixRow : MethodName := ⟨"TextureUnitsModel", "mixRow", "(IIIII)V"⟩
abbrev wsX2_mixRow : List Cond := (.code ⟨"TextureUnitsModel", "mixRow", "(IIIII)V"⟩ prog_4_method_20_code 7 .none) :: TW
abbrev cX2_readLevel : ByteArray := prog_4_method_21_code
abbrev yX2_readLevel : MethodName := ⟨"TextureUnitsModel", "readLevel", "(IIIIZ)V"⟩
abbrev wsX2_readLevel : List Cond := (.code ⟨"TextureUnitsModel", "readLevel", "(IIIIZ)V"⟩ prog_4_method_21_code 13 .none) :: TW
abbrev cX2_texel : ByteArray := prog_4_method_22_code
abbrev yX2_texel : MethodName := ⟨"TextureUnitsModel", "texel", "(IIIII)I"⟩
abbrev wsX2_texel : List Cond := (.code ⟨"TextureUnitsModel", "texel", "(IIIII)I"⟩ prog_4_method_22_code 9 (.some .int)) :: TW
abbrev cX2_texels : ByteArray := prog_4_method_23_code
abbrev yX2_texels : MethodName := ⟨"TextureUnitsModel", "texels", "(I)I"⟩
abbrev wsX2_texels : List Cond := (.code ⟨"TextureUnitsModel", "texels", "(I)I"⟩ prog_4_method_23_code 2 (.some .int)) :: TW
abbrev cX2_read : ByteArray := prog_4_method_24_code
abbrev yX2_read : MethodName := ⟨"TextureUnitsModel", "read", "(IIII)I"⟩
abbrev wsX2_read : List Cond := (.code ⟨"TextureUnitsModel", "read", "(IIII)I"⟩ prog_4_method_24_code 11 (.some .int)) :: TW
abbrev cX2_also : ByteArray := prog_4_method_25_code
abbrev yX2_also : MethodName := ⟨"TextureUnitsModel", "also", "(I)I"⟩
abbrev wsX2_also : List Cond := (.code ⟨"TextureUnitsModel", "also", "(I)I"⟩ prog_4_method_25_code 2 (.some .int)) :: TW
abbrev cX0_init : ByteArray := prog_2_method_1_code
abbrev yX0_init : MethodName := ⟨"TextureUnits$Unit", "<init>", "()V"⟩
abbrev wsX0_init : List Cond := (.code ⟨"TextureUnits$Unit", "<init>", "()V"⟩ prog_2_method_1_code 1 .none) :: TW
abbrev cX0_layOut : ByteArray := prog_2_method_2_code
abbrev yX0_layOut : MethodName := ⟨"TextureUnits$Unit", "layOut", "(III)V"⟩
abbrev wsX0_layOut : List Cond := (.code ⟨"TextureUnits$Unit", "layOut", "(III)V"⟩ prog_2_method_2_code 5 .none) :: TW
abbrev cX0_width : ByteArray := prog_2_method_3_code
abbrev yX0_width : MethodName := ⟨"TextureUnits$Unit", "width", "(I)I"⟩
abbrev wsX0_width : List Cond := (.code ⟨"TextureUnits$Unit", "width", "(I)I"⟩ prog_2_method_3_code 2 (.some .int)) :: TW
abbrev cX0_height : ByteArray := prog_2_method_4_code
abbrev yX0_height : MethodName := ⟨"TextureUnits$Unit", "height", "(I)I"⟩
abbrev wsX0_height : List Cond := (.code ⟨"TextureUnits$Unit", "height", "(I)I"⟩ prog_2_method_4_code 2 (.some .int)) :: TW
abbrev cX0_numberOf : ByteArray := prog_2_method_5_code
abbrev yX0_numberOf : MethodName := ⟨"TextureUnits$Unit", "numberOf", "(III)I"⟩
abbrev wsX0_numberOf : List Cond := (.code ⟨"TextureUnits$Unit", "numberOf", "(III)I"⟩ prog_2_method_5_code 4 (.some .int)) :: TW
abbrev cL_poke : ByteArray := method_3_code
abbrev yL_poke : MethodName := ⟨"TextureUnitsLaw", "poke", "(LTextureUnits;II)I"⟩
abbrev wsL_poke : List Cond := (.codeWith ⟨"TextureUnitsLaw", "poke", "(LTextureUnits;II)I"⟩ method_3_code 4 (.some .int) [(0, 6, 9, 13)]) :: TW
abbrev cL_picture : ByteArray := method_4_code
abbrev yL_picture : MethodName := ⟨"TextureUnitsLaw", "picture", "(LTextureUnits;IIIIII)I"⟩
abbrev wsL_picture : List Cond := (.codeWith ⟨"TextureUnitsLaw", "picture", "(LTextureUnits;IIIIII)I"⟩ method_4_code 8 (.some .int) [(0, 13, 16, 19), (0, 13, 20, 21)]) :: TW
abbrev cL_manner : ByteArray := method_5_code
abbrev yL_manner : MethodName := ⟨"TextureUnitsLaw", "manner", "(LTextureUnits;IIII)I"⟩
abbrev wsL_manner : List Cond := (.codeWith ⟨"TextureUnitsLaw", "manner", "(LTextureUnits;IIII)I"⟩ method_5_code 6 (.some .int) [(0, 9, 12, 19), (0, 9, 16, 21)]) :: TW
abbrev cL_border : ByteArray := method_6_code
abbrev yL_border : MethodName := ⟨"TextureUnitsLaw", "border", "(LTextureUnits;IIIII)I"⟩
abbrev wsL_border : List Cond := (.codeWith ⟨"TextureUnitsLaw", "border", "(LTextureUnits;IIIII)I"⟩ method_6_code 7 (.some .int) [(0, 11, 14, 19)]) :: TW
abbrev cL_texel : ByteArray := method_7_code
abbrev yL_texel : MethodName := ⟨"TextureUnitsLaw", "texel", "(LTextureUnits;IIIII[J)I"⟩
abbrev wsL_texel : List Cond := (.codeWith ⟨"TextureUnitsLaw", "texel", "(LTextureUnits;IIIII[J)I"⟩ method_7_code 8 (.some .int) [(0, 16, 19, 19), (0, 16, 23, 13)]) :: TW
abbrev cL_texels : ByteArray := method_8_code
abbrev yL_texels : MethodName := ⟨"TextureUnitsLaw", "texels", "(LTextureUnits;I[J)I"⟩
abbrev wsL_texels : List Cond := (.codeWith ⟨"TextureUnitsLaw", "texels", "(LTextureUnits;I[J)I"⟩ method_8_code 4 (.some .int) [(0, 9, 12, 19)]) :: TW
abbrev cL_read : ByteArray := method_9_code
abbrev yL_read : MethodName := ⟨"TextureUnitsLaw", "read", "(LTextureUnits;IIII[J)I"⟩
abbrev wsL_read : List Cond := (.codeWith ⟨"TextureUnitsLaw", "read", "(LTextureUnits;IIII[J)I"⟩ method_9_code 7 (.some .int) [(0, 14, 17, 19)]) :: TW
abbrev cL_also : ByteArray := method_10_code
abbrev yL_also : MethodName := ⟨"TextureUnitsLaw", "also", "(LTextureUnits;I[J)I"⟩
abbrev wsL_also : List Cond := (.codeWith ⟨"TextureUnitsLaw", "also", "(LTextureUnits;I[J)I"⟩ method_10_code 4 (.some .int) [(0, 9, 12, 13)]) :: TW
abbrev cL_law : ByteArray := code
abbrev yL_law : MethodName := ⟨"TextureUnitsLaw", "law", "([I)Z"⟩
abbrev wsL_law : List Cond := (.code ⟨"TextureUnitsLaw", "law", "([I)Z"⟩ code 7 (.some .boolean)) :: TW
theorem inX0 : ∀ w ∈ u_ws "TextureUnits$Unit" TX0 10, w ∈ TW := fun w h => tw_of (by revert w; decide +kernel) (by revert w; decide +kernel)
theorem inX1 : ∀ w ∈ u_ws "TextureUnits" TX1 4, w ∈ TW := fun w h => tw_of (by revert w; decide +kernel) (by revert w; decide +kernel)
theorem inX2 : ∀ w ∈ u_ws "TextureUnitsModel" TX2 11, w ∈ TW := fun w h => tw_of (by revert w; decide +kernel) (by revert w; decide +kernel)
