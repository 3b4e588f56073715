/-! what the start gives -/
theorem ao_blind {av : List Value} {D : va_G} {cl : List vw_C} {ws : va_W} {tys : List (ClassId × FieldType)} {sz : Nat} {C : String} : FrameBlind (va_Pc av (fun U => wr_P D cl ws tys sz U ∧ va_AO C U)) := fun a U g mk q => ⟨q.1, ⟨q.2.1.1, q.2.1.2.1, va_K.moved (u := U) (U := U.calling g mk a) (Vm.Alike.refl U.vm) q.2.1.2.2.1, q.2.1.2.2.2⟩, va_AO.moved (u := U) (U := U.calling g mk a) (Vm.Alike.refl U.vm) q.2.2⟩
theorem ao_use {s : State} {H : Heap} {D : va_G} {cl : List vw_C} {ws : va_W} {tys : List (ClassId × FieldType)} {A : Nat → Prop} {C : String} (hP : va_P D cl ws H) (hK : va_K D cl tys s) (hD : va_D A ws) (hV : va_AO C s) : ∀ U : State, U.heap = H → s.WarmedH U.vm → (wr_P D cl ws tys H.size U ∧ va_AO C U) := fun U hU hW => ⟨wr_use hP hK hD U hU hW, va_AO.moved hW.alike hV⟩
theorem sa_tb : ∀ j, j < 8 → (Cond.eq (.elem (.static "TextureUnits" "TEXEL_BITS" "[I") (.int (Int32.ofNat j))) (.int (([32, 16, 16, 16, 8, 8, 16, 4] : List Int32).getD j 0))) ∈ flatC (Jvm.Cond.and given_1 narrow_1) := by decide +kernel
theorem sa_cb : ∀ j, j < 32 → (Cond.eq (.elem (.static "TextureUnits" "CHANNEL_BITS" "[I") (.int (Int32.ofNat j))) (.int (([8, 8, 8, 8, 5, 6, 5, 0, 4, 4, 4, 4, 5, 5, 5, 1, 8, 8, 8, 0, 0, 0, 0, 8, 8, 8, 8, 8, 4, 4, 4, 0] : List Int32).getD j 0))) ∈ flatC (Jvm.Cond.and given_1 narrow_1) := by decide +kernel
theorem sa_cs : ∀ j, j < 32 → (Cond.eq (.elem (.static "TextureUnits" "CHANNEL_START" "[I") (.int (Int32.ofNat j))) (.int (([0, 8, 16, 24, 0, 5, 11, 0, 0, 4, 8, 12, 0, 5, 10, 15, 0, 0, 0, 0, 0, 0, 0, 0, 0, 0, 0, 8, 0, 0, 0, 0] : List Int32).getD j 0))) ∈ flatC (Jvm.Cond.and given_1 narrow_1) := by decide +kernel
theorem sa_strs : ∀ q ∈ ex_strs, (Cond.exactly (.string "TextureUnits" q.1) "java/lang/String") ∈ flatC (Jvm.Cond.and given_1 narrow_1) := by decide +kernel
theorem sa_refs : ∀ q ∈ ex_strs, (Cond.stringRef "TextureUnits" q.1 q.2) ∈ lw_tbl := by decide +kernel
theorem sa_T {args : Array Value} {s : State} (hg : (Jvm.Cond.and given_1 narrow_1).before args s = true) (ht : ∀ w ∈ lw_tbl, w.before args s = true) : ∃ tb, tb_T tb (fun q : Nat => s.heap.size ≤ q) s s.heap := by
  have hs := flat_of_before _ hg
  have hA : ∀ a : Nat, a < s.heap.size → ¬ (fun q : Nat => s.heap.size ≤ q) a := fun a h => Nat.not_le.mpr h
  obtain ⟨t1, e1, h1⟩ := va_Tof (A := fun q : Nat => s.heap.size ≤ q) (N := 8) (f := fun k => .int (([32, 16, 16, 16, 8, 8, 16, 4] : List Int32).getD k 0)) (by decide) (hs (.arrayOf (.static "TextureUnits" "TEXEL_BITS" "[I") .int) (by decide +kernel)) (va_eqt (hs (.eq (.length (.static "TextureUnits" "TEXEL_BITS" "[I")) (.int 8)) (by decide +kernel))) (fun j hj => va_eqt (hs _ (sa_tb j hj))) hA
  obtain ⟨t2, e2, h2⟩ := va_Tof (A := fun q : Nat => s.heap.size ≤ q) (N := 32) (f := fun k => .int (([8, 8, 8, 8, 5, 6, 5, 0, 4, 4, 4, 4, 5, 5, 5, 1, 8, 8, 8, 0, 0, 0, 0, 8, 8, 8, 8, 8, 4, 4, 4, 0] : List Int32).getD k 0)) (by decide) (hs (.arrayOf (.static "TextureUnits" "CHANNEL_BITS" "[I") .int) (by decide +kernel)) (va_eqt (hs (.eq (.length (.static "TextureUnits" "CHANNEL_BITS" "[I")) (.int 32)) (by decide +kernel))) (fun j hj => va_eqt (hs _ (sa_cb j hj))) hA
  obtain ⟨t3, e3, h3⟩ := va_Tof (A := fun q : Nat => s.heap.size ≤ q) (N := 32) (f := fun k => .int (([0, 8, 16, 24, 0, 5, 11, 0, 0, 4, 8, 12, 0, 5, 10, 15, 0, 0, 0, 0, 0, 0, 0, 0, 0, 0, 0, 8, 0, 0, 0, 0] : List Int32).getD k 0)) (by decide) (hs (.arrayOf (.static "TextureUnits" "CHANNEL_START" "[I") .int) (by decide +kernel)) (va_eqt (hs (.eq (.length (.static "TextureUnits" "CHANNEL_START" "[I")) (.int 32)) (by decide +kernel))) (fun j hj => va_eqt (hs _ (sa_cs j hj))) hA
  have hi := ht (.initialized "TextureUnits") (by decide +kernel)
  exact ⟨(t1, t2, t3), ⟨va_Zof (ht _ (by decide +kernel)) hi e1 hA, h1⟩, ⟨va_Zof (ht _ (by decide +kernel)) hi e2 hA, h2⟩, ⟨va_Zof (ht _ (by decide +kernel)) hi e3 hA, h3⟩⟩
theorem sa_E {args : Array Value} {s : State} (hg : (Jvm.Cond.and given_1 narrow_1).before args s = true) (ht : ∀ w ∈ lw_tbl, w.before args s = true) : ex_E (fun q : Nat => s.heap.size ≤ q) s s.heap := by
  have hs := flat_of_before _ hg
  have hA : ∀ a : Nat, a < s.heap.size → ¬ (fun q : Nat => s.heap.size ≤ q) a := fun a h => Nat.not_le.mpr h
  have hi := ht (.initialized "java/lang/Throwable") (by decide +kernel)
  refine ⟨fun w hw => va_Nw.of (ex_cd_on (List.all_eq_true.mp ex_bads_cd w hw)) (ht w (ex_bads_in w hw)), fun q hq => ?_, ⟨va_Nc.of (hs (.not (.castable "java/lang/IllegalArgumentException" "java/util/NoSuchElementException")) (by decide +kernel)), va_Nc.of (hs (.not (.castable "java/lang/IndexOutOfBoundsException" "java/util/NoSuchElementException")) (by decide +kernel))⟩, vx_Zqof (ht (.laysStatic "java/lang/Throwable" "UNASSIGNED_STACK" "[Ljava/lang/StackTraceElement;") (by decide +kernel)) hi (hs (.isRef (.static "java/lang/Throwable" "UNASSIGNED_STACK" "[Ljava/lang/StackTraceElement;")) (by decide +kernel)) hA, vx_Zqof (ht (.laysStatic "java/lang/Throwable" "SUPPRESSED_SENTINEL" "Ljava/util/List;") (by decide +kernel)) hi (hs (.isRef (.static "java/lang/Throwable" "SUPPRESSED_SENTINEL" "Ljava/util/List;")) (by decide +kernel)) hA⟩
  obtain ⟨a, c, cA, kA, q1, -⟩ := Cond.exactly_spec (args := args) (first := s) (o := none) (s := s) (idx := []) (t := .string "TextureUnits" q.1) (cls := "java/lang/String") (hs _ (sa_strs q hq))
  exact ⟨a, vk_R.of (ht _ (sa_refs q hq)) q1⟩
abbrev un0 : Nat → Int32 := upd (upd (upd (upd (fun _ => 0) 3 1) 11 1) 19 1) 27 1
theorem un0_at : ∀ k, k < 32 → un0 k = nI (if k % 8 = 3 then 1 else 0) := by decide +kernel
theorem sa_lI {un : Nat → Int32} (h : ∀ k, k < 32 → un k = nI (if k % 8 = 3 then 1 else 0)) : lI un (fun _ => 0) (fun _ => 0) (fun _ => 0) (fun _ _ => 0) (fun _ => tu_lay 0 0 (fun _ => 0) 11) := by
  refine ⟨fun j hj => ⟨0, 0, 0, 0, 1, 0, 0, 0, ⟨⟨by decide, by decide, by decide, by decide, ⟨by decide, by decide⟩, by decide, by decide, by decide⟩, ?_, ?_, ?_, ?_, ?_, ?_, ?_, ?_⟩, fun n hn => ?_⟩, fun j hj c hc => rfl, fun c hc => rfl⟩
  · rw [h _ (by omega), if_neg (by omega)]
  · rw [h _ (by omega), if_neg (by omega)]
  · rw [h _ (by omega), if_neg (by omega)]
  · rw [h _ (by omega), if_pos (by omega)]
  · rw [h _ (by omega), if_neg (by omega)]
  · rw [h _ (by omega), if_neg (by omega)]
  · rw [h _ (by omega), if_neg (by omega)]
  · rw [h _ (by omega), if_neg (by omega)]
  · exact eq_lay (A := 0) (B := 0) (by decide) (by decide) (fun _ => 0) rfl 11 n hn (by decide)
theorem lp_gt {L k : Nat} (hL : L ≤ 3584) (hk : k ≤ 3584) : (Int32.ofNat L - 7 < nI k) ↔ L < k + 7 := by
  show (nI L - nI 7 < nI k) ↔ _
  rw [Int32.lt_iff_toInt_lt, pk_sub_toInt (by omega) (by decide), nI_toInt (by omega)]
  omega
