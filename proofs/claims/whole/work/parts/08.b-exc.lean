/-! the exceptions of the class: what their making needs, beside the good words -/
abbrev ex_I : String := "java/lang/IndexOutOfBoundsException"
abbrev ex_A : String := "java/lang/IllegalArgumentException"
abbrev ex_S : String := "java/util/NoSuchElementException"
abbrev ex_lI : List Cond := ex_ats "TextureUnits" 34 ex_I "java/lang/RuntimeException" 7 prog_7_method_2_code ["java/lang/Exception"]
abbrev ex_lA : List Cond := ex_ats "TextureUnits" 45 ex_A "java/lang/RuntimeException" 7 prog_6_method_2_code ["java/lang/Exception"]
abbrev ex_lS : List Cond := ex_ats "TextureUnits" 118 ex_S "java/lang/RuntimeException" 13 prog_12_method_4_code ["java/lang/Exception"]
def ex_bads : List Cond := (ex_lI.filter (fun w => vx_no w && !goodWord w)) ++ ((ex_lA.filter (fun w => vx_no w && !goodWord w)) ++ ((ex_lS.filter (fun w => vx_no w && !goodWord w)) ++ [.castable ex_I ex_I, .castable ex_A ex_A, .castable ex_S ex_S]))
def ex_cd : Cond → Bool
  | .castable _ _ => true
  | .declares _ => true
  | _ => false
theorem ex_bads_cd : ex_bads.all ex_cd = true := by decide +kernel
theorem ex_bads_in : ∀ w ∈ ex_bads, w ∈ lw_tbl := by decide +kernel
theorem ex_gI : ∀ w ∈ ex_lI.filter (fun w => vx_no w && goodWord w), w ∈ lw_tbl := by decide +kernel
theorem ex_gA : ∀ w ∈ ex_lA.filter (fun w => vx_no w && goodWord w), w ∈ lw_tbl := by decide +kernel
theorem ex_gS : ∀ w ∈ ex_lS.filter (fun w => vx_no w && goodWord w), w ∈ lw_tbl := by decide +kernel
def ex_bad (U : State) : Prop := ∀ w ∈ ex_bads, va_Nw w U
theorem ex_cd_on {w : Cond} (h : ex_cd w = true) : w.onTables = true := by
  cases w <;> first | rfl | (simp [ex_cd] at h)
theorem ex_bad.warm {s U : State} (hW : s.WarmedH U.vm) (h : ex_bad s) : ex_bad U := by
  intro w hw
  have h1 := h w hw
  have h2 := List.all_eq_true.mp ex_bads_cd w hw
  cases w <;> first | exact va_Nw.warmC hW h1 | exact va_Nw.warmD hW h1 | (simp [ex_cd] at h2)
theorem ex_bad.use {U : State} {args : Array Value} (h : ex_bad U) {w : Cond} (hw : w ∈ ex_bads) : w.before args U = true := va_Nw.use (ex_cd_on (List.all_eq_true.mp ex_bads_cd w hw)) (h w hw)
def ex_strs : List (Nat × String) := [(32, "no such word"), (116, "no such unit"), (43, "from is below 0"), (46, "no such logarithm"), (48, "no such count of levels"), (50, "no such format"), (63, "no such wrap"), (65, "no such filter"), (82, "no such level"), (91, "no such texel"), (93, "no such channel")]
def ex_str (U : State) : Prop := ∀ q ∈ ex_strs, ∃ a : Nat, vk_R "TextureUnits" q.1 q.2 a U
theorem ex_str.warm {s U : State} (hW : s.WarmedH U.vm) (h : ex_str s) : ex_str U := fun q hq => by
  obtain ⟨a, ha⟩ := h q hq
  exact ⟨a, vk_R.warm hW ha⟩
/-- all of it, in a state and a heap; A: what may be written -/
def ex_E (A : Nat → Prop) (U : State) (H : Heap) : Prop :=
  ex_bad U ∧ ex_str U ∧ (va_Nc ex_A ex_S U ∧ va_Nc ex_I ex_S U) ∧ vx_Zq Bundle.tN "UNASSIGNED_STACK" Bundle.steD A U H ∧ vx_Zq Bundle.tN "SUPPRESSED_SENTINEL" Bundle.listD A U H
theorem ex_E.warm {A : Nat → Prop} {s U : State} {H : Heap} (hW : s.WarmedH U.vm) (h : ex_E A s H) : ex_E A U H :=
  ⟨h.1.warm hW, h.2.1.warm hW, ⟨h.2.2.1.1.moved hW.alike, h.2.2.1.2.moved hW.alike⟩, h.2.2.2.1.moved hW.alike, h.2.2.2.2.moved hW.alike⟩
theorem ex_E.kept {A : Nat → Prop} {U : State} {H H1 : Heap} (h : ex_E A U H) (hq : ∀ a : Nat, a < H.size → ¬ A a → H1[a]? = H[a]?) : ex_E A U H1 :=
  ⟨h.1, h.2.1, h.2.2.1, h.2.2.2.1.kept hq, h.2.2.2.2.kept hq⟩
theorem ex_E.narrow {A B : Nat → Prop} {U : State} {H : Heap} (h : ex_E A U H) (hAB : ∀ q, B q → A q) : ex_E B U H :=
  ⟨h.1, h.2.1, h.2.2.1, h.2.2.2.1.narrow hAB, h.2.2.2.2.narrow hAB⟩
theorem ex_hat {L : List Cond} {x : Cond} {args : Array Value} {s : State} {A : Nat → Prop} (hg : ∀ w ∈ L.filter (fun w => vx_no w && goodWord w), w ∈ lw_tbl) (hb : ∀ w ∈ L.filter (fun w => vx_no w && !goodWord w), w ∈ ex_bads) (hts : ∀ w ∈ x :: TW, w.before args s = true) (hE : ex_E A s s.heap) : ∀ w ∈ L, w.before args s = true := by
  refine vx_own (fun w hw => ?_) (vx_isRefq hE.2.2.2.1.1) (vx_isRefq hE.2.2.2.2.1) hE.2.2.2.1.2.word hE.2.2.2.2.2.word
  obtain ⟨h1, h2⟩ := List.mem_filter.mp hw
  cases hgw : goodWord w with
  | true => exact hts w (tw_c (tw_of (hg w (List.mem_filter.mpr ⟨h1, by rw [h2, hgw]; rfl⟩)) hgw))
  | false => exact hE.1.use (hb w (List.mem_filter.mpr ⟨h1, by rw [h2, hgw]; rfl⟩))
theorem ex_hI {x : Cond} {args : Array Value} {s : State} {A : Nat → Prop} (hts : ∀ w ∈ x :: TW, w.before args s = true) (hE : ex_E A s s.heap) : ∀ w ∈ ex_lI, w.before args s = true := ex_hat ex_gI (fun w hw => List.mem_append_left _ hw) hts hE
theorem ex_hA {x : Cond} {args : Array Value} {s : State} {A : Nat → Prop} (hts : ∀ w ∈ x :: TW, w.before args s = true) (hE : ex_E A s s.heap) : ∀ w ∈ ex_lA, w.before args s = true := ex_hat ex_gA (fun w hw => List.mem_append_right _ (List.mem_append_left _ hw)) hts hE
theorem ex_hS {x : Cond} {args : Array Value} {s : State} {A : Nat → Prop} (hts : ∀ w ∈ x :: TW, w.before args s = true) (hE : ex_E A s s.heap) : ∀ w ∈ ex_lS, w.before args s = true := ex_hat ex_gS (fun w hw => List.mem_append_right _ (List.mem_append_right _ (List.mem_append_left _ hw))) hts hE
theorem ex_x0 : decode prog_7_method_2_code 0 = .ok (.aload_n 0, 1) ∧ decode prog_7_method_2_code 1 = .ok (.aload_n 1, 1) ∧ decode prog_7_method_2_code 2 = .ok (.invokespecial 7, 3) ∧ decode prog_7_method_2_code 5 = .ok (.return_, 1) := by decide +kernel
theorem ex_x1 : decode prog_6_method_2_code 0 = .ok (.aload_n 0, 1) ∧ decode prog_6_method_2_code 1 = .ok (.aload_n 1, 1) ∧ decode prog_6_method_2_code 2 = .ok (.invokespecial 7, 3) ∧ decode prog_6_method_2_code 5 = .ok (.return_, 1) := by decide +kernel
theorem ex_x2 : decode prog_12_method_4_code 0 = .ok (.aload_n 0, 1) ∧ decode prog_12_method_4_code 1 = .ok (.aload_n 1, 1) ∧ decode prog_12_method_4_code 2 = .ok (.invokespecial 13, 3) ∧ decode prog_12_method_4_code 5 = .ok (.return_, 1) := by decide +kernel
/-- the start of a method that throws -/
def tx_B (D : va_G) (cl : List vw_C) (ws : va_W) (tys : List (ClassId × FieldType)) : State → Prop := fun U => va_P D cl ws U.heap ∧ va_K D cl tys U ∧ ex_E (fun _ => False) U U.heap
theorem tx_blind {av : List Value} {D : va_G} {cl : List vw_C} {ws : va_W} {tys : List (ClassId × FieldType)} : FrameBlind (va_Pc av (tx_B D cl ws tys)) := fun a U g mk q => ⟨q.1, q.2.1, va_K.moved (u := U) (U := U.calling g mk a) (Vm.Alike.refl U.vm) q.2.2.1, ex_E.warm (s := U) (U := U.calling g mk a) (State.WarmedH.refl U) q.2.2.2⟩
theorem tx_use {s : State} {H : Heap} {D : va_G} {cl : List vw_C} {ws : va_W} {tys : List (ClassId × FieldType)} (hP : va_P D cl ws H) (hK : va_K D cl tys s) (hT : ex_E (fun _ => False) s H) : ∀ U : State, U.heap = H → s.WarmedH U.vm → tx_B D cl ws tys U := fun U hU hW => ⟨by rw [hU]; exact hP, va_K.moved hW.alike hK, by rw [hU]; exact ex_E.warm hW hT⟩
abbrev tx_Met (l : Launch) (y : MethodName) (ws : List Cond) (rm : Room) (Pc : Array Value → State → Prop) (E : String) : Prop := vx_Met l y ws rm Pc tx_N (tx_X E) 1 6 (fun _ => False)
section TXC
variable {p : Program} {l : Launch} {e : Env} {R : Room} {s : State} {m : MethodId} {args : Array Value} {below : List Frame} {meth : Method} {c : Code} {H : Heap} {locs : List Loc} {cells slots : Nat} {Q : State → Prop}
theorem tx_call {E0 : String} {a : Array Value} {mc ms pc : Nat} {ls : Array Slot} {st0 rest : List Value} (hr : vx_Run p l e R s m args below meth c H locs cells slots mc ms (F0 m pc ls st0) rest (tx_N a) (tx_X E0) (fun _ => False))
    (kx : ∀ (H1 : Heap) (q : Addr) (ce : Cell), H.size ≤ H1.size → (∀ z : Nat, z < H.size → H1[z]? = H[z]?) → H1[q]? = some ce → ce.vm = .none → s.vm.findClass E0 = some ce.cls → vx_W p l e R s m args below meth c H1 locs (cells + mc) (slots + ms) Q (F0 m pc ls rest) q) : W p l e R s m args below meth c H locs cells slots Q (F0 m pc ls st0) := by
  intro T hT X
  rcases hr T hT X with ⟨v, st₀, t, T', L, h0, X', hL, e1, e2, hf, st⟩ | ⟨q, st₀, t, T', L, E, ce, h0, X', hL, e1, e2, hE, hce, hcv, hcl, st⟩
  · exact hf.elim
  · have hLn : L = [] := by
      cases L with
      | nil => rfl
      | cons z L => exact (hL z List.mem_cons_self).elim
    subst hLn
    rw [List.append_nil] at X'
    obtain ⟨hE, hz, hk⟩ := hE
    subst hE
    rw [h0] at hz hk
    obtain ⟨t2, a1, b1⟩ := kx T'.heap q ce (by rw [e1]; exact hz) (fun z h => by rw [e1]; exact hk z h (fun h => h)) (by rw [e1]; exact hce) hcv hcl T' rfl X'
    exact ⟨t2, st.trans a1, b1⟩
/-- a thrown exception leaves a method that has written nothing -/
theorem tx_out {E : String} {pc : Nat} {ls : Array Slot} {rest : List Value} (hEx : ∀ x ∈ c.exceptionTable.toList, False) (hlocks : meth.locks = false) {H1 : Heap} {q : Addr} {ce : Cell} (h1 : s.heap.size ≤ H1.size) (h2 : ∀ z : Nat, z < s.heap.size → H1[z]? = s.heap[z]?) (h3 : H1[q]? = some ce) (h4 : ce.vm = .none) (h5 : s.vm.findClass E = some ce.cls) (hc : cells ≤ 1) (hs : slots ≤ 6) :
    vx_W p l e R s m args below meth c H1 [] cells slots (vx_MQ below tx_N (tx_X E) args s 1 6 (fun _ => False)) (F0 m pc ls rest) q :=
  vx_out (E := E) (fun x hx => (hEx x hx).elim) hlocks h3 h4 h5 (fun t ht _ => ⟨rfl, by rw [ht]; exact h1, fun z hz _ => by rw [ht]; exact h2 z hz⟩) (fun z hz => by cases hz) hc hs
theorem rf_call {r : Value} {a : Array Value} {pc : Nat} {ls : Array Slot} {st0 rest : List Value} (hr : CallRun p l e R s m args below meth c H locs cells slots 0 0 (F0 m pc ls st0) rest (k2_QcV r a) (fun _ => False)) (kk : W p l e R s m args below meth c H locs cells slots Q (F0 m (pc + 3) ls (r :: rest))) : W p l e R s m args below meth c H locs cells slots Q (F0 m pc ls st0) := W.callV hr kk
end TXC
theorem tu_fo4 {fo c : Int32} (h : vp_in fo 8) (hc : vp_in c 4) : vp_in (fo * 4 + c) 32 := by
  obtain ⟨a, ha, rfl⟩ := vp_in_of h (by decide)
  obtain ⟨b, hb, rfl⟩ := vp_in_of hc (by decide)
  have e : nI a * 4 + nI b = nI (a * 4 + b) := by
    rw [show (4 : Int32) = nI 4 from rfl, pk_mul, nI_add]
  rw [e]
  exact vp_in_nI (by omega) (by decide)
theorem tb_use {t : Nat × Nat × Nat} {A : Nat → Prop} {s : State} {H : Heap} {locs : List Loc} (hX : tb_T t A s s.heap) (hS : va_S A s.heap H locs) : tb_T t (fun _ => False) s H := (hX.kept hS.2.1).narrow (fun _ h => h.elim)
/-- a writer's start and end -/
def wr_P (D : va_G) (cl : List vw_C) (ws : va_W) (tys : List (ClassId × FieldType)) (sz : Nat) : State → Prop := fun U => U.heap.size = sz ∧ va_P D cl ws U.heap ∧ va_K D cl tys U ∧ va_D (fun _ => True) ws
theorem wr_blind {av : List Value} {D : va_G} {cl : List vw_C} {ws : va_W} {tys : List (ClassId × FieldType)} {sz : Nat} : FrameBlind (va_Pc av (wr_P D cl ws tys sz)) := fun a U g mk q => ⟨q.1, q.2.1, q.2.2.1, va_K.moved (u := U) (U := U.calling g mk a) (Vm.Alike.refl U.vm) q.2.2.2.1, q.2.2.2.2⟩
theorem wr_use {s : State} {H : Heap} {D : va_G} {cl : List vw_C} {ws : va_W} {tys : List (ClassId × FieldType)} {A : Nat → Prop} (hP : va_P D cl ws H) (hK : va_K D cl tys s) (hD : va_D A ws) : ∀ U : State, U.heap = H → s.WarmedH U.vm → wr_P D cl ws tys H.size U := fun U hU hW => ⟨by rw [hU], by rw [hU]; exact hP, va_K.moved hW.alike hK, hD.weaken (fun _ _ _ _ => trivial)⟩
/-- .. with the tables -/
def wt_P (D : va_G) (cl : List vw_C) (ws : va_W) (tys : List (ClassId × FieldType)) (sz : Nat) (t : Nat × Nat × Nat) : State → Prop := fun U => U.heap.size = sz ∧ va_P D cl ws U.heap ∧ va_K D cl tys U ∧ va_D (fun _ => True) ws ∧ tb_T t (va_A ws sz) U U.heap
theorem wt_blind {av : List Value} {D : va_G} {cl : List vw_C} {ws : va_W} {tys : List (ClassId × FieldType)} {sz : Nat} {t : Nat × Nat × Nat} : FrameBlind (va_Pc av (wt_P D cl ws tys sz t)) := fun a U g mk q => ⟨q.1, q.2.1, q.2.2.1, va_K.moved (u := U) (U := U.calling g mk a) (Vm.Alike.refl U.vm) q.2.2.2.1, q.2.2.2.2.1, tb_T.moved (u := U) (U := U.calling g mk a) (Vm.Alike.refl U.vm) q.2.2.2.2.2⟩
theorem wt_use {s : State} {H0 H : Heap} {D : va_G} {cl : List vw_C} {ws : va_W} {tys : List (ClassId × FieldType)} {A : Nat → Prop} {t : Nat × Nat × Nat} {locs : List Loc} (hP : va_P D cl ws H) (hK : va_K D cl tys s) (hD : va_D A ws) (hX : tb_T t A s H0) (hS : va_S A H0 H locs) (hF : ∀ q, va_A ws H.size q → A q) : ∀ U : State, U.heap = H → s.WarmedH U.vm → wt_P D cl ws tys H.size t U := fun U hU hW => ⟨by rw [hU], by rw [hU]; exact hP, va_K.moved hW.alike hK, hD.weaken (fun _ _ _ _ => trivial), by rw [hU]; exact tb_T.moved hW.alike ((hX.kept hS.2.1).narrow hF)⟩
def wr_B (D : va_G) (cl : List vw_C) (ws : va_W) (tys : List (ClassId × FieldType)) (A : Nat → Prop) : Unit → State → Prop := fun _ t => va_P D cl ws t.heap ∧ va_K D cl tys t ∧ va_D A ws
