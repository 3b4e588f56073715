theorem tu_in {i : Int32} {n : Nat} (h : (decide (i < 0) || decide (n ≤ i.toNatClampNeg)) = false) : vp_in i n := by
  intro q
  rcases q with q | q
  · simp [q] at h
  · simp [q] at h
theorem tu_ne {x k : Int32} (h : ¬ x = k) : x.toInt ≠ k.toInt := fun e => h (Int32.toInt_inj.mp e)
/-- a reader's start: its cells, its types -/
def rd_B (D : va_G) (cl : List vw_C) (ws : va_W) (tys : List (ClassId × FieldType)) : State → Prop := fun U => va_P D cl ws U.heap ∧ va_K D cl tys U
theorem rd_blind {av : List Value} {D : va_G} {cl : List vw_C} {ws : va_W} {tys : List (ClassId × FieldType)} : FrameBlind (va_Pc av (rd_B D cl ws tys)) := fun a U g mk q => ⟨q.1, q.2.1, va_K.moved (u := U) (U := U.calling g mk a) (Vm.Alike.refl U.vm) q.2.2⟩
theorem rd_use {s : State} {H : Heap} {D : va_G} {cl : List vw_C} {ws : va_W} {tys : List (ClassId × FieldType)} (hP : va_P D cl ws H) (hK : va_K D cl tys s) : ∀ U : State, U.heap = H → s.WarmedH U.vm → rd_B D cl ws tys U := fun U hU hW => ⟨by rw [hU]; exact hP, va_K.moved hW.alike hK⟩
theorem rd_q {v r : Int32} {a : Array Value} {s t : State} (h : v = r) (ht : t.heap = s.heap) : QcRead r a s (.returned (some (.int v))) t := ⟨by rw [h], ht⟩
/-- the static tables of the class, where they lie -/
def tb_T (t : Nat × Nat × Nat) (A : Nat → Prop) (U : State) (H : Heap) : Prop :=
  (va_Z "TextureUnits" "TEXEL_BITS" "[I" (.ref t.1) A U H ∧ va_T .int t.1 8 (fun k => .int (([32, 16, 16, 16, 8, 8, 16, 4] : List Int32).getD k 0)) A U H) ∧
  (va_Z "TextureUnits" "CHANNEL_BITS" "[I" (.ref t.2.1) A U H ∧ va_T .int t.2.1 32 (fun k => .int (([8, 8, 8, 8, 5, 6, 5, 0, 4, 4, 4, 4, 5, 5, 5, 1, 8, 8, 8, 0, 0, 0, 0, 8, 8, 8, 8, 8, 4, 4, 4, 0] : List Int32).getD k 0)) A U H) ∧
  (va_Z "TextureUnits" "CHANNEL_START" "[I" (.ref t.2.2) A U H ∧ va_T .int t.2.2 32 (fun k => .int (([0, 8, 16, 24, 0, 5, 11, 0, 0, 4, 8, 12, 0, 5, 10, 15, 0, 0, 0, 0, 0, 0, 0, 0, 0, 0, 0, 8, 0, 0, 0, 0] : List Int32).getD k 0)) A U H)
theorem tb_T.moved {t : Nat × Nat × Nat} {A : Nat → Prop} {u U : State} {H : Heap} (hvm : u.vm.Alike U.vm) (h : tb_T t A u H) : tb_T t A U H :=
  ⟨⟨va_Z.moved hvm h.1.1, va_T.moved hvm h.1.2⟩, ⟨va_Z.moved hvm h.2.1.1, va_T.moved hvm h.2.1.2⟩, ⟨va_Z.moved hvm h.2.2.1, va_T.moved hvm h.2.2.2⟩⟩
theorem tb_T.kept {t : Nat × Nat × Nat} {A : Nat → Prop} {U : State} {H H1 : Heap} (h : tb_T t A U H) (hq : ∀ a : Nat, a < H.size → ¬ A a → H1[a]? = H[a]?) : tb_T t A U H1 :=
  ⟨⟨va_Z.kept h.1.1 hq, va_T.kept h.1.2 hq⟩, ⟨va_Z.kept h.2.1.1 hq, va_T.kept h.2.1.2 hq⟩, ⟨va_Z.kept h.2.2.1 hq, va_T.kept h.2.2.2 hq⟩⟩
theorem tb_T.narrow {t : Nat × Nat × Nat} {A B : Nat → Prop} {U : State} {H : Heap} (h : tb_T t A U H) (hAB : ∀ q, B q → A q) : tb_T t B U H :=
  ⟨⟨va_Z.narrow h.1.1 hAB, va_T.narrow h.1.2 hAB⟩, ⟨va_Z.narrow h.2.1.1 hAB, va_T.narrow h.2.1.2 hAB⟩, ⟨va_Z.narrow h.2.2.1 hAB, va_T.narrow h.2.2.2 hAB⟩⟩
/-- a reader's start, with the tables -/
def rt_B (D : va_G) (cl : List vw_C) (ws : va_W) (tys : List (ClassId × FieldType)) (t : Nat × Nat × Nat) : State → Prop := fun U => va_P D cl ws U.heap ∧ va_K D cl tys U ∧ tb_T t (fun _ => False) U U.heap
theorem rt_blind {av : List Value} {D : va_G} {cl : List vw_C} {ws : va_W} {tys : List (ClassId × FieldType)} {t : Nat × Nat × Nat} : FrameBlind (va_Pc av (rt_B D cl ws tys t)) := fun a U g mk q => ⟨q.1, q.2.1, va_K.moved (u := U) (U := U.calling g mk a) (Vm.Alike.refl U.vm) q.2.2.1, tb_T.moved (u := U) (U := U.calling g mk a) (Vm.Alike.refl U.vm) q.2.2.2⟩
theorem rt_use {s : State} {H : Heap} {D : va_G} {cl : List vw_C} {ws : va_W} {tys : List (ClassId × FieldType)} {t : Nat × Nat × Nat} (hP : va_P D cl ws H) (hK : va_K D cl tys s) (hT : tb_T t (fun _ => False) s H) : ∀ U : State, U.heap = H → s.WarmedH U.vm → rt_B D cl ws tys t U := fun U hU hW => ⟨by rw [hU]; exact hP, va_K.moved hW.alike hK, by rw [hU]; exact tb_T.moved hW.alike hT⟩
section TUC
variable {p : Program} {l : Launch} {e : Env} {R : Room} {s : State} {m : MethodId} {args : Array Value} {below : List Frame} {meth : Method} {c : Code} {H : Heap} {locs : List Loc} {cells slots : Nat} {Q : State → Prop}
theorem rd_call {r : Int32} {a : Array Value} {pc : Nat} {ls : Array Slot} {st0 rest : List Value} (hr : CallRun p l e R s m args below meth c H locs cells slots 0 0 (F0 m pc ls st0) rest (QcRead r a) (fun _ => False)) (kk : W p l e R s m args below meth c H locs cells slots Q (F0 m (pc + 3) ls (.int r :: rest))) : W p l e R s m args below meth c H locs cells slots Q (F0 m pc ls st0) := W.callR hr kk
end TUC
