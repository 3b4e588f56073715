section
-- ===== PART A: goes FIRST, ahead of the names: the tables' words, and 'selects' of the private methods out of them =====
/-- a private method of a class that the tables say can be made, by its rows of tables_1 -/
def lw_okq (q : MethodName × Nat) : Prop := (q.1.cls ≠ "java/lang/invoke/MethodHandle" ∧ q.1.cls ≠ "java/lang/invoke/VarHandle") ∧ Cond.instantiable q.1.cls q.2 ∈ tables_1 ∧ Cond.privateMethod q.1 ∈ tables_1 ∧ Cond.instanceMethod q.1 ∈ tables_1
theorem lw_p0 : lw_okq (⟨"java/lang/Throwable", "fillInStackTrace", "(I)Ljava/lang/Throwable;"⟩, 6) := ⟨⟨by decide +kernel, by decide +kernel⟩, List.mem_of_getElem? (i := 136) (by decide +kernel), List.mem_of_getElem? (i := 134) (by decide +kernel), List.mem_of_getElem? (i := 135) (by decide +kernel)⟩
theorem lw_p1 : lw_okq (⟨"TextureUnits", "unitAt", "(I)LTextureUnits$Unit;"⟩, 4) := ⟨⟨by decide +kernel, by decide +kernel⟩, List.mem_of_getElem? (i := 12) (by decide +kernel), List.mem_of_getElem? (i := 175) (by decide +kernel), List.mem_of_getElem? (i := 176) (by decide +kernel)⟩
theorem lw_p2 : lw_okq (⟨"TextureUnits", "stored", "(LTextureUnits$Unit;IIII)I"⟩, 4) := ⟨⟨by decide +kernel, by decide +kernel⟩, List.mem_of_getElem? (i := 12) (by decide +kernel), List.mem_of_getElem? (i := 243) (by decide +kernel), List.mem_of_getElem? (i := 244) (by decide +kernel)⟩
theorem lw_p3 : lw_okq (⟨"TextureUnits", "wordAt", "(J)I"⟩, 4) := ⟨⟨by decide +kernel, by decide +kernel⟩, List.mem_of_getElem? (i := 12) (by decide +kernel), List.mem_of_getElem? (i := 259) (by decide +kernel), List.mem_of_getElem? (i := 260) (by decide +kernel)⟩
theorem lw_p4 : lw_okq (⟨"TextureUnits", "sample", "(LTextureUnits$Unit;III[I)V"⟩, 4) := ⟨⟨by decide +kernel, by decide +kernel⟩, List.mem_of_getElem? (i := 12) (by decide +kernel), List.mem_of_getElem? (i := 287) (by decide +kernel), List.mem_of_getElem? (i := 288) (by decide +kernel)⟩
theorem lw_p5 : lw_okq (⟨"TextureUnits", "sampleFour", "(LTextureUnits$Unit;III[I)V"⟩, 4) := ⟨⟨by decide +kernel, by decide +kernel⟩, List.mem_of_getElem? (i := 12) (by decide +kernel), List.mem_of_getElem? (i := 291) (by decide +kernel), List.mem_of_getElem? (i := 292) (by decide +kernel)⟩
theorem lw_p6 : lw_okq (⟨"TextureUnits", "storedOrBorder", "(LTextureUnits$Unit;IIII)I"⟩, 4) := ⟨⟨by decide +kernel, by decide +kernel⟩, List.mem_of_getElem? (i := 12) (by decide +kernel), List.mem_of_getElem? (i := 309) (by decide +kernel), List.mem_of_getElem? (i := 310) (by decide +kernel)⟩
theorem lw_p7 : lw_okq (⟨"TextureUnits", "sampleOne", "(LTextureUnits$Unit;III[I)V"⟩, 4) := ⟨⟨by decide +kernel, by decide +kernel⟩, List.mem_of_getElem? (i := 12) (by decide +kernel), List.mem_of_getElem? (i := 316) (by decide +kernel), List.mem_of_getElem? (i := 317) (by decide +kernel)⟩
theorem lw_p8 : lw_okq (⟨"TextureUnitsModel", "refuse", "(ZZ)Z"⟩, 11) := ⟨⟨by decide +kernel, by decide +kernel⟩, List.mem_of_getElem? (i := 328) (by decide +kernel), List.mem_of_getElem? (i := 379) (by decide +kernel), List.mem_of_getElem? (i := 380) (by decide +kernel)⟩
theorem lw_p9 : lw_okq (⟨"TextureUnitsModel", "wide", "(II)I"⟩, 11) := ⟨⟨by decide +kernel, by decide +kernel⟩, List.mem_of_getElem? (i := 328) (by decide +kernel), List.mem_of_getElem? (i := 399) (by decide +kernel), List.mem_of_getElem? (i := 400) (by decide +kernel)⟩
theorem lw_p10 : lw_okq (⟨"TextureUnitsModel", "exponent", "(III)I"⟩, 11) := ⟨⟨by decide +kernel, by decide +kernel⟩, List.mem_of_getElem? (i := 328) (by decide +kernel), List.mem_of_getElem? (i := 403) (by decide +kernel), List.mem_of_getElem? (i := 404) (by decide +kernel)⟩
theorem lw_p11 : lw_okq (⟨"TextureUnitsModel", "high", "(II)I"⟩, 11) := ⟨⟨by decide +kernel, by decide +kernel⟩, List.mem_of_getElem? (i := 328) (by decide +kernel), List.mem_of_getElem? (i := 407) (by decide +kernel), List.mem_of_getElem? (i := 408) (by decide +kernel)⟩
theorem lw_p12 : lw_okq (⟨"TextureUnitsModel", "look", "(IIII)V"⟩, 11) := ⟨⟨by decide +kernel, by decide +kernel⟩, List.mem_of_getElem? (i := 328) (by decide +kernel), List.mem_of_getElem? (i := 411) (by decide +kernel), List.mem_of_getElem? (i := 412) (by decide +kernel)⟩
theorem lw_p13 : lw_okq (⟨"TextureUnitsModel", "layOut", "(I)I"⟩, 11) := ⟨⟨by decide +kernel, by decide +kernel⟩, List.mem_of_getElem? (i := 328) (by decide +kernel), List.mem_of_getElem? (i := 415) (by decide +kernel), List.mem_of_getElem? (i := 416) (by decide +kernel)⟩
theorem lw_p14 : lw_okq (⟨"TextureUnitsModel", "lay", "(IIIIIIII)V"⟩, 11) := ⟨⟨by decide +kernel, by decide +kernel⟩, List.mem_of_getElem? (i := 328) (by decide +kernel), List.mem_of_getElem? (i := 419) (by decide +kernel), List.mem_of_getElem? (i := 420) (by decide +kernel)⟩
theorem lw_p15 : lw_okq (⟨"TextureUnitsModel", "ahead", "(II)I"⟩, 11) := ⟨⟨by decide +kernel, by decide +kernel⟩, List.mem_of_getElem? (i := 328) (by decide +kernel), List.mem_of_getElem? (i := 423) (by decide +kernel), List.mem_of_getElem? (i := 424) (by decide +kernel)⟩
def lw_privs_1 : List (MethodName × Nat) := [(⟨"java/lang/Throwable", "fillInStackTrace", "(I)Ljava/lang/Throwable;"⟩, 6), (⟨"TextureUnits", "unitAt", "(I)LTextureUnits$Unit;"⟩, 4), (⟨"TextureUnits", "stored", "(LTextureUnits$Unit;IIII)I"⟩, 4), (⟨"TextureUnits", "wordAt", "(J)I"⟩, 4), (⟨"TextureUnits", "sample", "(LTextureUnits$Unit;III[I)V"⟩, 4), (⟨"TextureUnits", "sampleFour", "(LTextureUnits$Unit;III[I)V"⟩, 4), (⟨"TextureUnits", "storedOrBorder", "(LTextureUnits$Unit;IIII)I"⟩, 4), (⟨"TextureUnits", "sampleOne", "(LTextureUnits$Unit;III[I)V"⟩, 4), (⟨"TextureUnitsModel", "refuse", "(ZZ)Z"⟩, 11), (⟨"TextureUnitsModel", "wide", "(II)I"⟩, 11), (⟨"TextureUnitsModel", "exponent", "(III)I"⟩, 11), (⟨"TextureUnitsModel", "high", "(II)I"⟩, 11), (⟨"TextureUnitsModel", "look", "(IIII)V"⟩, 11), (⟨"TextureUnitsModel", "layOut", "(I)I"⟩, 11), (⟨"TextureUnitsModel", "lay", "(IIIIIIII)V"⟩, 11), (⟨"TextureUnitsModel", "ahead", "(II)I"⟩, 11)]
theorem lw_r1 : ∀ q ∈ lw_privs_1, lw_okq q := List.forall_mem_cons.mpr ⟨lw_p0, List.forall_mem_cons.mpr ⟨lw_p1, List.forall_mem_cons.mpr ⟨lw_p2, List.forall_mem_cons.mpr ⟨lw_p3, List.forall_mem_cons.mpr ⟨lw_p4, List.forall_mem_cons.mpr ⟨lw_p5, List.forall_mem_cons.mpr ⟨lw_p6, List.forall_mem_cons.mpr ⟨lw_p7, List.forall_mem_cons.mpr ⟨lw_p8, List.forall_mem_cons.mpr ⟨lw_p9, List.forall_mem_cons.mpr ⟨lw_p10, List.forall_mem_cons.mpr ⟨lw_p11, List.forall_mem_cons.mpr ⟨lw_p12, List.forall_mem_cons.mpr ⟨lw_p13, List.forall_mem_cons.mpr ⟨lw_p14, List.forall_mem_cons.mpr ⟨lw_p15, fun _ h => absurd h List.not_mem_nil⟩⟩⟩⟩⟩⟩⟩⟩⟩⟩⟩⟩⟩⟩⟩⟩
theorem lw_p16 : lw_okq (⟨"TextureUnitsModel", "bit", "(IJ)I"⟩, 11) := ⟨⟨by decide +kernel, by decide +kernel⟩, List.mem_of_getElem? (i := 328) (by decide +kernel), List.mem_of_getElem? (i := 427) (by decide +kernel), List.mem_of_getElem? (i := 428) (by decide +kernel)⟩
theorem lw_p17 : lw_okq (⟨"TextureUnitsModel", "readLevel", "(IIIIZ)V"⟩, 11) := ⟨⟨by decide +kernel, by decide +kernel⟩, List.mem_of_getElem? (i := 328) (by decide +kernel), List.mem_of_getElem? (i := 443) (by decide +kernel), List.mem_of_getElem? (i := 444) (by decide +kernel)⟩
theorem lw_p18 : lw_okq (⟨"TextureUnitsModel", "wrapped", "(IIII)V"⟩, 11) := ⟨⟨by decide +kernel, by decide +kernel⟩, List.mem_of_getElem? (i := 328) (by decide +kernel), List.mem_of_getElem? (i := 447) (by decide +kernel), List.mem_of_getElem? (i := 448) (by decide +kernel)⟩
theorem lw_p19 : lw_okq (⟨"TextureUnitsModel", "mixRow", "(IIIII)V"⟩, 11) := ⟨⟨by decide +kernel, by decide +kernel⟩, List.mem_of_getElem? (i := 328) (by decide +kernel), List.mem_of_getElem? (i := 456) (by decide +kernel), List.mem_of_getElem? (i := 457) (by decide +kernel)⟩
def lw_privs_2 : List (MethodName × Nat) := [(⟨"TextureUnitsModel", "bit", "(IJ)I"⟩, 11), (⟨"TextureUnitsModel", "readLevel", "(IIIIZ)V"⟩, 11), (⟨"TextureUnitsModel", "wrapped", "(IIII)V"⟩, 11), (⟨"TextureUnitsModel", "mixRow", "(IIIII)V"⟩, 11)]
theorem lw_r2 : ∀ q ∈ lw_privs_2, lw_okq q := List.forall_mem_cons.mpr ⟨lw_p16, List.forall_mem_cons.mpr ⟨lw_p17, List.forall_mem_cons.mpr ⟨lw_p18, List.forall_mem_cons.mpr ⟨lw_p19, fun _ h => absurd h List.not_mem_nil⟩⟩⟩⟩
def lw_privs : List (MethodName × Nat) := lw_privs_1 ++ (lw_privs_2)
def lw_tbl : List Cond := k2_sels lw_privs ++ tables_1
theorem lw_privs_ok : ∀ q ∈ lw_privs, lw_okq q := by
  show ∀ q ∈ lw_privs_1 ++ (lw_privs_2), lw_okq q
  exact List.forall_mem_append.mpr ⟨lw_r1, lw_r2⟩
end
section
/-! ===== BEGIN words of one list among another's, by their places ===== -/
theorem goodIn_r {big : List Cond} (ws : List Cond) (ps : List Nat) (hp : ws = ps.filterMap (fun i => big[i]?)) (h : ws.all goodWord = true) : GoodIn big ws := by
  intro w hw
  have h1 := List.all_eq_true.mp h w hw
  rw [hp] at hw
  obtain ⟨i, -, hi⟩ := List.mem_filterMap.mp hw
  have hm : w ∈ big := by first | exact List.mem_of_getElem? hi | exact List.getElem?_mem hi
  exact ⟨hm, good_of_word h1⟩
theorem goodIn_app {big a b : List Cond} (ha : GoodIn big a) (hb : GoodIn big b) : GoodIn big (a ++ b) := fun w h => (List.mem_append.mp h).elim (ha w) (hb w)
theorem goodIn_ca {big a b : List Cond} {c : Cond} (ha : GoodIn big (c :: a)) (hb : GoodIn big b) : GoodIn big (c :: (a ++ b)) := fun w h => (List.mem_cons.mp h).elim (fun e => ha w (List.mem_cons.mpr (Or.inl e))) (fun h => (List.mem_append.mp h).elim (fun h => ha w (List.mem_cons.mpr (Or.inr h))) (hb w))
theorem goodIn_sub {big ws : List Cond} (hm : ∀ w ∈ ws, w ∈ big) (h : ws.all goodWord = true) : GoodIn big ws := fun w hw => ⟨hm w hw, good_of_word (List.all_eq_true.mp h w hw)⟩
/-! ===== END ===== -/

/-! ===== BEGIN exceptions that leave a method, and their catching by the caller (launches without stack traces) ===== -/
section VXA
/-! The laws vx_back, vx_callV, vx_callS, vx_callSW, vx_throw0, vx_throwS follow proofs of the library, with one case more: JvmDerived/Free/Laws.lean (Back.of_free), Shelf42/LK1.lean (callV, callS), Shelf/KitTraced.lean (throwNew0V, throwNewS). -/
/-- where a method has thrown q: the class by its name, the cell, what was written, the world -/
def vx_T (XC : String → State → State → Prop) (st : State) (q : Addr) (t : State) (mc ms : Nat) (free : Addr → Prop) : Prop :=
  ∃ (E : String) (ce : Cell) (L : List Loc), XC E st t ∧ t.heap[q]? = some ce ∧ ce.vm = .none ∧ st.vm.findClass E = some ce.cls ∧ st.WarmedH t.vm ∧ st.sameButNew ({ t with vm := st.vm } : State) L mc ms ∧ ∀ z ∈ L, free z.base
def vx_Q (Qc : Array Value → State → Outcome → State → Prop) (XC : String → State → State → Prop) (mc ms : Nat) (free : Addr → Prop) : Array Value → State → Outcome → State → Prop := fun a st o t =>
  (Qc a st o t ∧ ∃ L, FrameEnd st o t L mc ms ∧ ∀ q ∈ L, free q.base) ∨ ∃ q, o = .threw q ∧ vx_T XC st q t mc ms free
/-- a callee that returns or throws -/
def vx_Met (l : Launch) (y : MethodName) (ws : List Cond) (rm : Room) (Pc : Array Value → State → Prop) (Qc : Array Value → State → Outcome → State → Prop) (XC : String → State → State → Prop) (mc ms : Nat) (free : Addr → Prop) : Prop :=
  MetFree l y (headSpec ws rm) Pc (fun _ _ _ _ _ => True) (vx_Q Qc XC mc ms free)
def vx_Post (XC : String → State → State → Prop) (mc ms : Nat) (free : Addr → Prop) : Pt → Array Value → Addr → Pt → Prop := fun A a q B =>
  ∃ (g : JFrame) (mk : MethodId) (t : State) (L : List Loc) (E : String) (ce : Cell), B.U.heap = t.heap ∧ B.U.vm = t.vm ∧ XC E (A.U.calling g mk a) t ∧ t.heap[q]? = some ce ∧ ce.vm = .none ∧ A.U.vm.findClass E = some ce.cls ∧ B.locs = A.locs ++ L ∧ (∀ z ∈ L, free z.base) ∧ B.cells = A.cells + mc ∧ B.slots = A.slots + ms
def vx_Back (l : Launch) (R : Room) (p : Program) (e : Env) (below : List Frame) (s : State) (sargs : Array Value) (y : MethodName) (len W9 : Nat)
    (Pre : Pt → Array Value → Prop) (Post : Pt → Array Value → Option Value → Pt → Prop) (PostX : Pt → Array Value → Addr → Pt → Prop) : Prop :=
  ∀ (m : MethodId) (meth : Method) (c : Code) (A : Pt) (g : JFrame) (ig : Instr) (mk : MethodId) (a : Array Value),
    Stand p l e R s m sargs below meth c A.U A.locs A.cells A.slots → g.method = m → g.locals.size = c.maxLocals → decode c.code g.pc = .ok (ig, len) →
    2 * g.monitorRoom + (g.stack.map fun v => v.category).sum ≤ W9 → A.U.methodNamed? y = some mk → Pre A a →
    (∃ (v : Option Value) (B : Pt), Stand p l e R s m sargs below meth c B.U B.locs B.cells B.slots ∧ Post A a v B ∧
      Steps p.tables e below (doInvoke e (A.U.setTop g) [] mk a).1 (B.U.setTop { g with pc := g.pc + len, stack := v.toList ++ g.stack })) ∨
    (∃ (q : Addr) (B : Pt), Stand p l e R s m sargs below meth c B.U B.locs B.cells B.slots ∧ PostX A a q B ∧
      Steps p.tables e below (doInvoke e (A.U.setTop g) [] mk a).1 ((B.U.setTop g).pushFrame (.throwing q)))
section Payer
variable {l : Launch} {R : Room} {p : Program} {e : Env} {below : List Frame} {s : State} {sargs : Array Value} {y : MethodName} {len W9 : Nat}
theorem vx_back {ws : List Cond} {rm : Room} {Pc : Array Value → State → Prop} {Qc : Array Value → State → Outcome → State → Prop} {XC : String → State → State → Prop} {mc ms : Nat} {free : Addr → Prop} {bytes : ByteArray} {maxL : Nat} {ret : Option FieldType}
    (hM : vx_Met l y ws rm Pc Qc XC mc ms free) (hblind : FrameBlind Pc) (hrc : rm.cells = mc) (hrs : rm.slots = ms)
    (hframes : rm.frames + 1 ≤ R.frames) (hlocals : W9 + (maxL + 11) + rm.locals ≤ R.locals)
    (hws : ∀ w ∈ ws, ∀ a' U, s.WarmedH U.vm → w.before a' U = true) (hcode : Cond.code y bytes maxL ret ∈ ws) (hinit : ∀ a' U, s.WarmedH U.vm → (Cond.initialized y.cls).before a' U = true) :
    vx_Back l R p e below s sargs y len W9 (PreOf R mc ms Pc) (PostOf Qc mc ms free) (vx_Post XC mc ms free) := by
  intro m meth c A g ig mk a X hg hsize hdg hW hn hp
  have h1 : (headSpec ws rm).pre.before a A.U = true := atoms_intro fun w hw => hws w hw _ _ X.warmed
  have h2 : (Cond.code y bytes maxL ret).before a A.U = true := hws _ hcode _ _ X.warmed
  have h3 : (Cond.initialized y.cls).before a A.U = true := hinit _ _ X.warmed
  have h4 : A.cells + (headSpec ws rm).room.cells ≤ R.cells := by rw [show (headSpec ws rm).room.cells = mc from hrc]; exact hp.1
  have h5 : A.slots + (headSpec ws rm).room.slots ≤ R.slots := by rw [show (headSpec ws rm).room.slots = ms from hrs]; exact hp.2.1
  have hPc : Pc a (A.U.calling g mk a) := hblind _ _ _ _ hp.2.2
  obtain ⟨U, Ls, c0, s0⟩ := A
  dsimp only [Pt.U, Pt.locs, Pt.cells, Pt.slots] at h1 h2 h3 h4 h5 X hn hPc ⊢
  obtain ⟨methY, cY, hmY, hcY, -, hlY, -, -, -, -⟩ := Cond.code_spec hn h2
  obtain ⟨kY, hkY, -⟩ := className_of_methodNamed hn
  have hinitY : kY.init = .initialized := Cond.initialized_spec (findClass_of_methodNamed hn) hkY h3
  have h : At U g.method c below := by rw [hg]; exact X.here
  have hlocals9 : W9 + (maxL + 11) + (headSpec ws rm).room.locals ≤ R.locals := hlocals
  have happ : (headSpec ws rm).appliesLoose y e.platform (U.calling g mk a) = true :=
    Spec.appliesLoose_calling (g := g) h hdg hn hkY hinitY
      (X.room_calling (g := g) (R' := (headSpec ws rm).room) hsize hmY hcY hframes (by rw [hlY]; omega) h4 h5) h1
  obtain ⟨mid, hmid⟩ := h.above
  have hfr : (U.setTop g).frames = (.java g :: mid) ++ below := by rw [State.frames_setTop' g h.top, hmid]; rfl
  obtain ⟨o, s₂, hsteps, -, hend, hq⟩ := Steps.callFree hM p X.admits X.cas X.clock (acts := []) hfr happ hPc trivial
  have hq' : vx_Q Qc XC mc ms free a (U.calling g mk a) o s₂ := hq
  rw [State.frames_setTop' g h.top] at hend
  obtain ⟨g₀, hg0⟩ := Option.isSome_iff_exists.mp h.top
  obtain ⟨r, hr⟩ := State.topJava?_eq_some.mp hg0
  have hr' : (({ U with heap := s₂.heap, slotsUsed := s₂.slotsUsed } : State).setVm s₂.vm).frames = .java g₀ :: r := hr
  rcases hq' with ⟨hqc, L, hfe, hL⟩ | ⟨q, rfl, E, ce, L, hx, hce, hcv, hcl, hW₂, hsm, hL⟩
  · obtain ⟨⟨v, rfl⟩, hW₂, e2, q2, q3, q4, q5, q6⟩ := id hfe
    have e3 : s₂ = ({ (U.calling g mk a).setFrames s₂.frames with heap := s₂.heap, slotsUsed := s₂.slotsUsed } : State).setVm s₂.vm := by
      have : s₂ = ({ s₂ with vm := (U.calling g mk a).vm } : State).setVm s₂.vm := rfl
      rw [e2] at this
      exact this
    obtain ⟨c₂, i₂, len₂, hc₂, hd₂, hf₂⟩ := hend
    have hW' : U.WarmedH s₂.vm := hW₂
    have hcc : c₂ = c := by
      have h1 : s₂.code? g.method = U.code? g.method := by
        rw [State.code?_eq, State.code?_eq, hW'.alike.method?]
      exact Option.some.inj (hc₂.symm.trans (h1.trans h.code))
    subst hcc
    have hlen : len₂ = len := by rw [hdg] at hd₂; cases hd₂; rfl
    subst hlen
    have hs₂ : s₂ = (({ U with heap := s₂.heap, slotsUsed := s₂.slotsUsed } : State).setVm s₂.vm).setTop { g with pc := g.pc + len₂, stack := v.toList ++ g.stack } := by
      refine e3.trans ?_
      rw [hf₂, State.calling_eq h.top, State.setFrames_setFrames, State.setTop_of_frames _ hr', hr]
      rfl
    have hsame : U.sameButNew ({ U with heap := s₂.heap, slotsUsed := s₂.slotsUsed } : State) L mc ms := by
      refine ⟨?_, q2, q3, q4, q5, q6⟩
      obtain ⟨t, ht, -⟩ := State.frames_cons hr
      show ({ U with heap := s₂.heap, slotsUsed := s₂.slotsUsed } : State) = { U.setFrames U.frames with heap := s₂.heap, slotsUsed := s₂.slotsUsed }
      rw [State.setFrames_self ht]
    subst hg
    refine Or.inl ⟨v, ⟨(({ U with heap := s₂.heap, slotsUsed := s₂.slotsUsed } : State).setVm s₂.vm), Ls ++ L, c0 + mc, s0 + ms⟩,
      ⟨X.admits, X.cas, X.clock, X.frames, X.room, X.hears, X.method, X.code, (X.here.setHeapUsed s₂.heap s₂.slotsUsed).setVm hW'.alike, X.tail, State.WarmedH.trans X.warmed hW', X.limits, X.bytes, X.same.trans (hsame.setVm s.vm)⟩,
      ⟨g, mk, s₂, L, rfl, rfl, hqc, rfl, hL, rfl, rfl⟩, ?_⟩
    show Steps p.tables e below _ ((({ U with heap := s₂.heap, slotsUsed := s₂.slotsUsed } : State).setVm s₂.vm).setTop { g with pc := g.pc + len₂, stack := v.toList ++ g.stack })
    rw [← hs₂]
    exact hsteps
  · obtain ⟨e2, q2, q3, q4, q5, q6⟩ := id hsm
    have e3 : s₂ = ({ (U.calling g mk a).setFrames s₂.frames with heap := s₂.heap, slotsUsed := s₂.slotsUsed } : State).setVm s₂.vm := by
      have : s₂ = ({ s₂ with vm := (U.calling g mk a).vm } : State).setVm s₂.vm := rfl
      rw [e2] at this
      exact this
    have hf₂ : s₂.frames = .throwing q :: .java g :: U.frames.tail := hend
    have hW' : U.WarmedH s₂.vm := hW₂
    have hs₂ : s₂ = ((({ U with heap := s₂.heap, slotsUsed := s₂.slotsUsed } : State).setVm s₂.vm).setTop g).pushFrame (.throwing q) := by
      refine e3.trans ?_
      rw [hf₂, State.calling_eq h.top, State.setFrames_setFrames, State.pushFrame, State.frames_setTop _ hr', State.setTop_of_frames _ hr', State.setFrames_setFrames, hr]
      rfl
    have hsame : U.sameButNew ({ U with heap := s₂.heap, slotsUsed := s₂.slotsUsed } : State) L mc ms := by
      refine ⟨?_, q2, q3, q4, q5, q6⟩
      obtain ⟨t, ht, -⟩ := State.frames_cons hr
      show ({ U with heap := s₂.heap, slotsUsed := s₂.slotsUsed } : State) = { U.setFrames U.frames with heap := s₂.heap, slotsUsed := s₂.slotsUsed }
      rw [State.setFrames_self ht]
    subst hg
    refine Or.inr ⟨q, ⟨(({ U with heap := s₂.heap, slotsUsed := s₂.slotsUsed } : State).setVm s₂.vm), Ls ++ L, c0 + mc, s0 + ms⟩,
      ⟨X.admits, X.cas, X.clock, X.frames, X.room, X.hears, X.method, X.code, (X.here.setHeapUsed s₂.heap s₂.slotsUsed).setVm hW'.alike, X.tail, State.WarmedH.trans X.warmed hW', X.limits, X.bytes, X.same.trans (hsame.setVm s.vm)⟩,
      ⟨g, mk, s₂, L, E, ce, rfl, rfl, hx, hce, hcv, hcl, rfl, hL, rfl, rfl⟩, ?_⟩
    show Steps p.tables e below _ (((({ U with heap := s₂.heap, slotsUsed := s₂.slotsUsed } : State).setVm s₂.vm).setTop g).pushFrame (.throwing q))
    rw [← hs₂]
    exact hsteps
end Payer
section Calls
variable {p : Program} {l : Launch} {e : Env} {R : Room} {s : State} {m : MethodId} {args : Array Value} {below : List Frame} {meth : Method} {c : Code} {T : State} {locs : List Loc} {cells slots : Nat}
theorem vx_callV (X : Stand p l e R s m args below meth c T locs cells slots) (hexec : p.tables.exec = Jvm.exec) {own C : String} {index : Nat} {y : MethodName} {bytes : ByteArray} {maxL : Nat} {ret : Option FieldType}
    (hown : s.vm.findClass own = some m.cls) (hlink : (Cond.methodLink own index y).before args s = true) (hinst : (Cond.instanceMethod y).before args s = true) (hsel : (Cond.selects C y y).before args s = true)
    (hcode : (Cond.code y bytes maxL ret).before args s = true) (hy : y.cls ≠ "java/lang/invoke/MethodHandle" ∧ y.cls ≠ "java/lang/invoke/VarHandle")
    {W9 : Nat} {Pre : Pt → Array Value → Prop} {Post : Pt → Array Value → Option Value → Pt → Prop} {PostX : Pt → Array Value → Addr → Pt → Prop} (hK : vx_Back l R p e below s args y 3 W9 Pre Post PostX)
    {b : Addr} {cellB : Cell} (hcell : T.heap[b]? = some cellB) (hobj : cellB.vm.isStatics = false) (hcls : s.vm.findClass C = some cellB.cls)
    {g : JFrame} (hg : g.method = m) (hsize : g.locals.size = c.maxLocals) {argsL rest : List Value} (hlen : ∀ sig, parseMethodDescriptor y.desc = some sig → argsL.length = sig.parameters.length)
    (hstack : g.stack = argsL.reverse ++ .ref b :: rest) (hW : 2 * g.monitorRoom + (rest.map fun v => v.category).sum ≤ W9) (hdg : decode c.code g.pc = .ok (.invokevirtual index, 3))
    (hpre : ∀ vm₁, s.WarmedH vm₁ → Pre ⟨T.setVm vm₁, locs, cells, slots⟩ (Value.ref b :: argsL).toArray) :
    (∃ (v : Option Value) (vm₁ : Vm) (B : Pt), s.WarmedH vm₁ ∧ Stand p l e R s m args below meth c B.U B.locs B.cells B.slots ∧ Post ⟨T.setVm vm₁, locs, cells, slots⟩ (Value.ref b :: argsL).toArray v B ∧
      ∀ target, Steps p.tables e below (B.U.setTop { g with pc := g.pc + 3, stack := v.toList ++ rest }) target → Steps p.tables e below (T.setTop g) target) ∨
    (∃ (q : Addr) (vm₁ : Vm) (B : Pt), s.WarmedH vm₁ ∧ Stand p l e R s m args below meth c B.U B.locs B.cells B.slots ∧ PostX ⟨T.setVm vm₁, locs, cells, slots⟩ (Value.ref b :: argsL).toArray q B ∧
      Steps p.tables e below (T.setTop g) ((B.U.setTop { g with stack := rest }).pushFrame (.throwing q))) := by
  obtain ⟨mk, methM, hnamed, hmethM, hstM, habM⟩ := Cond.instanceMethod_spec hinst
  obtain ⟨methM', cM, hmethM', -, -, -, -, -, -, hsigM⟩ := Cond.code_spec hnamed hcode
  cases hmethM.symm.trans hmethM'
  obtain ⟨c2, r2, m2, q1, q2, q3, q4, kP, hkP, hkPi⟩ := Cond.selects_spec hsel
  cases hcls.symm.trans q1
  cases (State.methodFound?_of_named hnamed hy).symm.trans q2
  cases hnamed.symm.trans q3
  have hselP : selectMethod e.platform s.vm cellB.cls mk = .method mk := by rw [Launch.admits_selectMethod X.admits]; exact q4
  obtain ⟨vm₁, X₁, hstep₁⟩ := X.invokevirtual hexec hown hlink hnamed hmethM hstM hkP hkPi hy (a := b) (cell := cellB) hcell
    (fun z h => by rw [h] at hobj; cases hobj) hselP hmethM habM hkP hkPi (g := g) hg (argsL := argsL) (rest := rest) (hlen _ hsigM) hstack hdg
  rcases hK m meth c ⟨T.setVm vm₁, locs, cells, slots⟩ { g with stack := rest } (.invokevirtual index) mk (Value.ref b :: argsL).toArray X₁ hg hsize hdg hW (X₁.named hnamed) (hpre vm₁ X₁.warmed) with ⟨v, B, X', hpost, hsteps⟩ | ⟨q, B, X', hpost, hsteps⟩
  · exact Or.inl ⟨v, vm₁, B, X₁.warmed, X', hpost, fun target h => hstep₁ _ fun acts => by rw [doInvoke_state]; exact hsteps.trans h⟩
  · exact Or.inr ⟨q, vm₁, B, X₁.warmed, X', hpost, hstep₁ _ fun acts => by rw [doInvoke_state]; exact hsteps⟩
theorem vx_callS (X : Stand p l e R s m args below meth c T locs cells slots) (hexec : p.tables.exec = Jvm.exec) {own : String} {index : Nat} {y : MethodName} {bytes : ByteArray} {maxL : Nat} {ret : Option FieldType}
    (hown : s.vm.findClass own = some m.cls) (hlink : (Cond.methodLink own index y).before args s = true) (hstat : (Cond.static y).before args s = true) (hinit : (Cond.initialized y.cls).before args s = true)
    (hcode : (Cond.code y bytes maxL ret).before args s = true) (hy : y.cls ≠ "java/lang/invoke/MethodHandle" ∧ y.cls ≠ "java/lang/invoke/VarHandle")
    {W9 : Nat} {Pre : Pt → Array Value → Prop} {Post : Pt → Array Value → Option Value → Pt → Prop} {PostX : Pt → Array Value → Addr → Pt → Prop} (hK : vx_Back l R p e below s args y 3 W9 Pre Post PostX)
    {g : JFrame} (hg : g.method = m) (hsize : g.locals.size = c.maxLocals) {argsL rest : List Value} (hlen : ∀ sig, parseMethodDescriptor y.desc = some sig → argsL.length = sig.parameters.length)
    (hstack : g.stack = argsL.reverse ++ rest) (hW : 2 * g.monitorRoom + (rest.map fun v => v.category).sum ≤ W9) (hdg : decode c.code g.pc = .ok (.invokestatic index, 3))
    (hpre : ∀ vm₁, s.WarmedH vm₁ → Pre ⟨T.setVm vm₁, locs, cells, slots⟩ argsL.toArray) :
    (∃ (v : Option Value) (vm₁ : Vm) (B : Pt), s.WarmedH vm₁ ∧ Stand p l e R s m args below meth c B.U B.locs B.cells B.slots ∧ Post ⟨T.setVm vm₁, locs, cells, slots⟩ argsL.toArray v B ∧
      ∀ target, Steps p.tables e below (B.U.setTop { g with pc := g.pc + 3, stack := v.toList ++ rest }) target → Steps p.tables e below (T.setTop g) target) ∨
    (∃ (q : Addr) (vm₁ : Vm) (B : Pt), s.WarmedH vm₁ ∧ Stand p l e R s m args below meth c B.U B.locs B.cells B.slots ∧ PostX ⟨T.setVm vm₁, locs, cells, slots⟩ argsL.toArray q B ∧
      Steps p.tables e below (T.setTop g) ((B.U.setTop { g with stack := rest }).pushFrame (.throwing q))) := by
  obtain ⟨mk, hnamed⟩ := Cond.code_named hcode
  obtain ⟨methM, cM, hmethM, -, -, -, -, -, -, hsigM⟩ := Cond.code_spec hnamed hcode
  have hstatic : methM.isStatic = true := Cond.static_spec hnamed hmethM hstat
  obtain ⟨kP, hkP, -⟩ := className_of_methodNamed hnamed
  have hinitP : kP.init = .initialized := Cond.initialized_spec (findClass_of_methodNamed hnamed) hkP hinit
  obtain ⟨vm₁, X₁, hstep₁⟩ := X.invokestatic hexec hown hlink hnamed hmethM hstatic hkP hinitP hy (g := g) hg (argsL := argsL) (rest := rest) (hlen _ hsigM) hstack hdg
  rcases hK m meth c ⟨T.setVm vm₁, locs, cells, slots⟩ { g with stack := rest } (.invokestatic index) mk argsL.toArray X₁ hg hsize hdg hW (X₁.named hnamed) (hpre vm₁ X₁.warmed) with ⟨v, B, X', hpost, hsteps⟩ | ⟨q, B, X', hpost, hsteps⟩
  · exact Or.inl ⟨v, vm₁, B, X₁.warmed, X', hpost, fun target h => hstep₁ _ fun acts => by rw [doInvoke_state]; exact hsteps.trans h⟩
  · exact Or.inr ⟨q, vm₁, B, X₁.warmed, X', hpost, hstep₁ _ fun acts => by rw [doInvoke_state]; exact hsteps⟩
end Calls
theorem vx_cls {s : State} {T : State} {vm₁ : Vm} {E : String} {k : ClassId} (hW : s.WarmedH vm₁) (h : (T.setVm vm₁).vm.findClass E = some k) : s.vm.findClass E = some k := by
  have h1 : vm₁.findClass E = some k := h
  rw [hW.alike.findClass] at h1
  exact h1
/-- the method's frame g, with q thrown over it -/
def vx_W (p : Program) (l : Launch) (e : Env) (R : Room) (s : State) (m : MethodId) (args : Array Value) (below : List Frame) (meth : Method) (c : Code) (H : Heap) (locs : List Loc) (cells slots : Nat) (Q : State → Prop) (g : JFrame) (q : Addr) : Prop :=
  ∀ T : State, T.heap = H → Stand p l e R s m args below meth c T locs cells slots → ∃ t, Steps p.tables e below ((T.setTop g).pushFrame (.throwing q)) t ∧ Q t
def vx_Run (p : Program) (l : Launch) (e : Env) (R : Room) (s : State) (m : MethodId) (args : Array Value) (below : List Frame) (meth : Method) (c : Code) (H : Heap) (locs : List Loc) (cells slots mc ms : Nat) (g : JFrame) (rest : List Value) (Qa : State → Outcome → State → Prop) (XC : String → State → State → Prop) (free : Addr → Prop) : Prop :=
  ∀ T : State, T.heap = H → Stand p l e R s m args below meth c T locs cells slots →
    (∃ (v : Option Value) (st₀ t T' : State) (L : List Loc), st₀.heap = H ∧ Stand p l e R s m args below meth c T' (locs ++ L) (cells + mc) (slots + ms) ∧ (∀ q ∈ L, free q.base) ∧ T'.heap = t.heap ∧ T'.vm = t.vm ∧ Qa st₀ (.returned v) t ∧
      Goes p e below T g T' { g with pc := g.pc + 3, stack := v.toList ++ rest }) ∨
    (∃ (q : Addr) (st₀ t T' : State) (L : List Loc) (E : String) (ce : Cell), st₀.heap = H ∧ Stand p l e R s m args below meth c T' (locs ++ L) (cells + mc) (slots + ms) ∧ (∀ z ∈ L, free z.base) ∧ T'.heap = t.heap ∧ T'.vm = t.vm ∧ XC E st₀ t ∧ t.heap[q]? = some ce ∧ ce.vm = .none ∧ s.vm.findClass E = some ce.cls ∧
      Steps p.tables e below (T.setTop g) ((T'.setTop { g with stack := rest }).pushFrame (.throwing q)))
def vx_X {S : Type} (px : S → Prop) (B : String → S → State → Prop) (A : Nat → Prop) : String → State → State → Prop := fun E st t => ∃ u : S, px u ∧ B E u t ∧ va_F A st t
section Runs
variable {p : Program} {l : Launch} {e : Env} {R : Room} {s : State} {m : MethodId} {args : Array Value} {below : List Frame} {meth : Method} {c : Code} {H : Heap} {locs : List Loc} {cells slots : Nat}
variable {y : MethodName} {bytes cc : ByteArray} {maxL nL mc ms n index : Nat} {ret : Option FieldType} {ws : List Cond} {rm : Room} {Pc : Array Value → State → Prop} {Qc : Array Value → State → Outcome → State → Prop} {XC : String → State → State → Prop} {free : Addr → Prop} {Ts : List Cond} {own C : String} {b : Addr} {As rest : List Value} {g : JFrame}
theorem vx_callBack (cb : CallB R s args own index y bytes maxL ret ws rm mc ms n) (hM : vx_Met l y ws rm Pc Qc XC mc ms free) (hbl : FrameBlind Pc) : vx_Back l R p e below s args y 3 8 (PreOf R mc ms Pc) (PostOf Qc mc ms free) (vx_Post XC mc ms free) := by
  obtain ⟨hrc, hrs, hfr, hlo, hws, hcw, -, hini, -⟩ := cb
  exact vx_back (bytes := bytes) (maxL := maxL) (ret := ret) hM hbl hrc hrs hfr hlo hws hcw (fun a' U hW => word_at hW (Or.inl (by first | rfl | simp [Cond.onTables, Cond.keeps, Cond.steady])) hini)
theorem vx_runV (S : CallFix p m c cc nL s args Ts own) (hM : vx_Met l y ws rm Pc Qc XC mc ms free) (cw : CallW R s args own C index y bytes maxL ret ws rm mc ms n) (hp : PreV s H C b Pc As)
    (hg : g.method = m) (hn : As.length = n) (hsize : g.locals.size = nL) (hstack : g.stack = As.reverse ++ .ref b :: rest) (hW : 2 * g.monitorRoom + (rest.map fun v => v.category).sum ≤ 8) (hdg : decode cc g.pc = .ok (.invokevirtual index, 3)) (hf : cells + mc ≤ R.cells ∧ slots + ms ≤ R.slots) :
    vx_Run p l e R s m args below meth c H locs cells slots mc ms g rest (Qc (Value.ref b :: As).toArray) XC free := by
  have hK : vx_Back l R p e below s args y 3 8 (PreOf R mc ms Pc) (PostOf Qc mc ms free) (vx_Post XC mc ms free) := vx_callBack cw.1 hM hp.1
  obtain ⟨⟨-, -, -, -, -, -, hcode, -, hy, hlen, hl⟩, hin, hse⟩ := cw
  obtain ⟨hx, hb, hml, ho, -⟩ := S
  obtain ⟨-, ⟨cellB, hcB, hoB, hclB⟩, hPc⟩ := hp
  intro T hT X
  rcases vx_callV X hx (C := C) (bytes := bytes) (maxL := maxL) (ret := ret) ho hl hin hse hcode hy hK (by rw [hT]; exact hcB) hoB hclB hg (hsize.trans hml.symm) (argsL := As) (rest := rest) (fun sig h => hn.trans (hlen sig h)) hstack hW (by rw [hb]; exact hdg)
    (fun vm₁ hW₁ => ⟨hf.1, hf.2, hPc (T.setVm vm₁) hT hW₁⟩) with ⟨v, vm₁, ⟨U', l2, c2, s2⟩, hW₁, X', ⟨g', mk, t, L, e1, e2, hq, h1, hL, h2, h3⟩, st⟩ | ⟨q, vm₁, ⟨U', l2, c2, s2⟩, hW₁, X', ⟨g', mk, t, L, E, ce, e1, e2, hq, hce, hcv, hcl, h1, hL, h2, h3⟩, st⟩
  · dsimp only [Pt.U, Pt.locs, Pt.cells, Pt.slots] at X' e1 e2 h1 h2 h3 st
    subst h1; subst h2; subst h3
    exact Or.inl ⟨v, (T.setVm vm₁).calling g' mk (Value.ref b :: As).toArray, t, U', L, hT, X', hL, e1, e2, hq, st⟩
  · dsimp only [Pt.U, Pt.locs, Pt.cells, Pt.slots] at X' e1 e2 h1 h2 h3 st hcl
    subst h1; subst h2; subst h3
    exact Or.inr ⟨q, (T.setVm vm₁).calling g' mk (Value.ref b :: As).toArray, t, U', L, E, ce, hT, X', hL, e1, e2, hq, hce, hcv, vx_cls hW₁ hcl, st⟩
theorem vx_runS (S : CallFix p m c cc nL s args Ts own) (hM : vx_Met l y ws rm Pc Qc XC mc ms free) (cw : CallB R s args own index y bytes maxL ret ws rm mc ms n ∧ (Cond.static y).before args s = true) (hp : PreS s H Pc As)
    (hg : g.method = m) (hn : As.length = n) (hsize : g.locals.size = nL) (hstack : g.stack = As.reverse ++ rest) (hW : 2 * g.monitorRoom + (rest.map fun v => v.category).sum ≤ 8) (hdg : decode cc g.pc = .ok (.invokestatic index, 3)) (hf : cells + mc ≤ R.cells ∧ slots + ms ≤ R.slots) :
    vx_Run p l e R s m args below meth c H locs cells slots mc ms g rest (Qc As.toArray) XC free := by
  have hK : vx_Back l R p e below s args y 3 8 (PreOf R mc ms Pc) (PostOf Qc mc ms free) (vx_Post XC mc ms free) := vx_callBack cw.1 hM hp.1
  obtain ⟨⟨-, -, -, -, -, -, hcode, hini, hy, hlen, hl⟩, hstt⟩ := cw
  obtain ⟨hx, hb, hml, ho, -⟩ := S
  intro T hT X
  rcases vx_callS X hx (bytes := bytes) (maxL := maxL) (ret := ret) ho hl hstt hini hcode hy hK hg (hsize.trans hml.symm) (argsL := As) (rest := rest) (fun sig h => hn.trans (hlen sig h)) hstack hW (by rw [hb]; exact hdg)
    (fun vm₁ hW₁ => ⟨hf.1, hf.2, hp.2 (T.setVm vm₁) hT hW₁⟩) with ⟨v, vm₁, ⟨U', l2, c2, s2⟩, hW₁, X', ⟨g', mk, t, L, e1, e2, hq, h1, hL, h2, h3⟩, st⟩ | ⟨q, vm₁, ⟨U', l2, c2, s2⟩, hW₁, X', ⟨g', mk, t, L, E, ce, e1, e2, hq, hce, hcv, hcl, h1, hL, h2, h3⟩, st⟩
  · dsimp only [Pt.U, Pt.locs, Pt.cells, Pt.slots] at X' e1 e2 h1 h2 h3 st
    subst h1; subst h2; subst h3
    exact Or.inl ⟨v, (T.setVm vm₁).calling g' mk As.toArray, t, U', L, hT, X', hL, e1, e2, hq, st⟩
  · dsimp only [Pt.U, Pt.locs, Pt.cells, Pt.slots] at X' e1 e2 h1 h2 h3 st hcl
    subst h1; subst h2; subst h3
    exact Or.inr ⟨q, (T.setVm vm₁).calling g' mk As.toArray, t, U', L, E, ce, hT, X', hL, e1, e2, hq, hce, hcv, vx_cls hW₁ hcl, st⟩
end Runs
section Rows
variable {p : Program} {l : Launch} {e : Env} {R : Room} {s : State} {m : MethodId} {args : Array Value} {below : List Frame} {meth : Method} {c : Code} {H : Heap} {locs : List Loc} {cells slots : Nat} {Q : State → Prop}
variable {mc ms : Nat} {free : Addr → Prop} {A0 A1 : Nat → Prop} {H0 : Heap} {a : Array Value} {pc : Nat} {ls : Array Slot} {st0 rest : List Value}
theorem vx_keep {st₀ t T' : State} {L : List Loc} (h0 : st₀.heap = H) (e1 : T'.heap = t.heap) (hS : va_S A0 H0 H locs) (hA : ∀ q, q < H.size → A1 q → A0 q) (hf : ∀ q, free q → A0 q) (hL : ∀ q ∈ L, free q.base) (hF : va_F A1 st₀ t) :
    H.size ≤ T'.heap.size ∧ (∀ q : Nat, q < H.size → ¬ A1 q → T'.heap[q]? = H[q]?) ∧ va_S A0 H0 T'.heap (locs ++ L) := by
  obtain ⟨hz, hk⟩ := hF
  rw [h0] at hz hk
  exact ⟨by rw [e1]; exact hz, fun q h1 h2 => by rw [e1]; exact hk q h1 h2,
    ⟨Nat.le_trans hS.1 (by rw [e1]; exact hz), fun q h1 h2 => by rw [e1, hk q (Nat.lt_of_lt_of_le h1 hS.1) (fun z => h2 (hA q (Nat.lt_of_lt_of_le h1 hS.1) z))]; exact hS.2.1 q h1 h2, fun q hq => by
      rcases List.mem_append.mp hq with h | h
      · exact hS.2.2 q h
      · exact hf _ (hL q h)⟩⟩
theorem vx_calli {S SX : Type} {post : Int32 → S → Prop} {px : SX → Prop} {B : S → State → Prop} {BX : String → SX → State → Prop} {AX : Nat → Prop} (hr : vx_Run p l e R s m args below meth c H locs cells slots mc ms (F0 m pc ls st0) rest (va_Qi post B A1 a) (vx_X px BX AX) free) (hS : va_S A0 H0 H locs) (hA : ∀ q, q < H.size → A1 q → A0 q) (hf : ∀ q, free q → A0 q) (hAX : ∀ q, q < H.size → AX q → A0 q)
    (kx : ∀ (E : String) (ce : Cell) (q9 : Addr) (u : SX) (t : State) (H1 : Heap) (locs1 : List Loc), t.heap = H1 → s.vm.Alike t.vm → px u → BX E u t → H.size ≤ H1.size → (∀ q : Nat, q < H.size → ¬ AX q → H1[q]? = H[q]?) → va_S A0 H0 H1 locs1 → H1[q9]? = some ce → ce.vm = .none → s.vm.findClass E = some ce.cls → vx_W p l e R s m args below meth c H1 locs1 (cells + mc) (slots + ms) Q (F0 m pc ls rest) q9)
    (kk : ∀ (r : Int32) (u : S) (t : State) (H1 : Heap) (locs1 : List Loc), t.heap = H1 → s.vm.Alike t.vm → post r u → B u t → H.size ≤ H1.size → (∀ q : Nat, q < H.size → ¬ A1 q → H1[q]? = H[q]?) → va_S A0 H0 H1 locs1 → W p l e R s m args below meth c H1 locs1 (cells + mc) (slots + ms) Q (F0 m (pc + 3) ls (.int r :: rest))) : W p l e R s m args below meth c H locs cells slots Q (F0 m pc ls st0) := by
  intro T hT X
  rcases hr T hT X with ⟨v, st₀, t, T', L, h0, X', hL, e1, e2, ⟨⟨r, u, hv, hp, hb⟩, hF⟩, st⟩ | ⟨q, st₀, t, T', L, E, ce, h0, X', hL, e1, e2, ⟨u, hp, hb, hF⟩, hce, hcv, hcl, st⟩
  · cases hv
    obtain ⟨k1, k2, k3⟩ := vx_keep h0 e1 hS hA hf hL hF
    obtain ⟨t2, a1, b1⟩ := kk r u t T'.heap (locs ++ L) e1.symm (by rw [← e2]; exact X'.warmed.alike) hp hb k1 k2 k3 T' rfl X'
    exact ⟨t2, st t2 a1, b1⟩
  · obtain ⟨k1, k2, k3⟩ := vx_keep h0 e1 hS hAX hf hL hF
    obtain ⟨t2, a1, b1⟩ := kx E ce q u t T'.heap (locs ++ L) e1.symm (by rw [← e2]; exact X'.warmed.alike) hp hb k1 k2 k3 (by rw [e1]; exact hce) hcv hcl T' rfl X'
    exact ⟨t2, st.trans a1, b1⟩
theorem vx_calll {S SX : Type} {post : Int64 → S → Prop} {px : SX → Prop} {B : S → State → Prop} {BX : String → SX → State → Prop} {AX : Nat → Prop} (hr : vx_Run p l e R s m args below meth c H locs cells slots mc ms (F0 m pc ls st0) rest (va_Ql post B A1 a) (vx_X px BX AX) free) (hS : va_S A0 H0 H locs) (hA : ∀ q, q < H.size → A1 q → A0 q) (hf : ∀ q, free q → A0 q) (hAX : ∀ q, q < H.size → AX q → A0 q)
    (kx : ∀ (E : String) (ce : Cell) (q9 : Addr) (u : SX) (t : State) (H1 : Heap) (locs1 : List Loc), t.heap = H1 → s.vm.Alike t.vm → px u → BX E u t → H.size ≤ H1.size → (∀ q : Nat, q < H.size → ¬ AX q → H1[q]? = H[q]?) → va_S A0 H0 H1 locs1 → H1[q9]? = some ce → ce.vm = .none → s.vm.findClass E = some ce.cls → vx_W p l e R s m args below meth c H1 locs1 (cells + mc) (slots + ms) Q (F0 m pc ls rest) q9)
    (kk : ∀ (r : Int64) (u : S) (t : State) (H1 : Heap) (locs1 : List Loc), t.heap = H1 → s.vm.Alike t.vm → post r u → B u t → H.size ≤ H1.size → (∀ q : Nat, q < H.size → ¬ A1 q → H1[q]? = H[q]?) → va_S A0 H0 H1 locs1 → W p l e R s m args below meth c H1 locs1 (cells + mc) (slots + ms) Q (F0 m (pc + 3) ls (.long r :: rest))) : W p l e R s m args below meth c H locs cells slots Q (F0 m pc ls st0) := by
  intro T hT X
  rcases hr T hT X with ⟨v, st₀, t, T', L, h0, X', hL, e1, e2, ⟨⟨r, u, hv, hp, hb⟩, hF⟩, st⟩ | ⟨q, st₀, t, T', L, E, ce, h0, X', hL, e1, e2, ⟨u, hp, hb, hF⟩, hce, hcv, hcl, st⟩
  · cases hv
    obtain ⟨k1, k2, k3⟩ := vx_keep h0 e1 hS hA hf hL hF
    obtain ⟨t2, a1, b1⟩ := kk r u t T'.heap (locs ++ L) e1.symm (by rw [← e2]; exact X'.warmed.alike) hp hb k1 k2 k3 T' rfl X'
    exact ⟨t2, st t2 a1, b1⟩
  · obtain ⟨k1, k2, k3⟩ := vx_keep h0 e1 hS hAX hf hL hF
    obtain ⟨t2, a1, b1⟩ := kx E ce q u t T'.heap (locs ++ L) e1.symm (by rw [← e2]; exact X'.warmed.alike) hp hb k1 k2 k3 (by rw [e1]; exact hce) hcv hcl T' rfl X'
    exact ⟨t2, st.trans a1, b1⟩
theorem vx_callf {S SX : Type} {post : UInt32 → S → Prop} {px : SX → Prop} {B : S → State → Prop} {BX : String → SX → State → Prop} {AX : Nat → Prop} (hr : vx_Run p l e R s m args below meth c H locs cells slots mc ms (F0 m pc ls st0) rest (va_Qf post B A1 a) (vx_X px BX AX) free) (hS : va_S A0 H0 H locs) (hA : ∀ q, q < H.size → A1 q → A0 q) (hf : ∀ q, free q → A0 q) (hAX : ∀ q, q < H.size → AX q → A0 q)
    (kx : ∀ (E : String) (ce : Cell) (q9 : Addr) (u : SX) (t : State) (H1 : Heap) (locs1 : List Loc), t.heap = H1 → s.vm.Alike t.vm → px u → BX E u t → H.size ≤ H1.size → (∀ q : Nat, q < H.size → ¬ AX q → H1[q]? = H[q]?) → va_S A0 H0 H1 locs1 → H1[q9]? = some ce → ce.vm = .none → s.vm.findClass E = some ce.cls → vx_W p l e R s m args below meth c H1 locs1 (cells + mc) (slots + ms) Q (F0 m pc ls rest) q9)
    (kk : ∀ (r : UInt32) (u : S) (t : State) (H1 : Heap) (locs1 : List Loc), t.heap = H1 → s.vm.Alike t.vm → post r u → B u t → H.size ≤ H1.size → (∀ q : Nat, q < H.size → ¬ A1 q → H1[q]? = H[q]?) → va_S A0 H0 H1 locs1 → W p l e R s m args below meth c H1 locs1 (cells + mc) (slots + ms) Q (F0 m (pc + 3) ls (.float r :: rest))) : W p l e R s m args below meth c H locs cells slots Q (F0 m pc ls st0) := by
  intro T hT X
  rcases hr T hT X with ⟨v, st₀, t, T', L, h0, X', hL, e1, e2, ⟨⟨r, u, hv, hp, hb⟩, hF⟩, st⟩ | ⟨q, st₀, t, T', L, E, ce, h0, X', hL, e1, e2, ⟨u, hp, hb, hF⟩, hce, hcv, hcl, st⟩
  · cases hv
    obtain ⟨k1, k2, k3⟩ := vx_keep h0 e1 hS hA hf hL hF
    obtain ⟨t2, a1, b1⟩ := kk r u t T'.heap (locs ++ L) e1.symm (by rw [← e2]; exact X'.warmed.alike) hp hb k1 k2 k3 T' rfl X'
    exact ⟨t2, st t2 a1, b1⟩
  · obtain ⟨k1, k2, k3⟩ := vx_keep h0 e1 hS hAX hf hL hF
    obtain ⟨t2, a1, b1⟩ := kx E ce q u t T'.heap (locs ++ L) e1.symm (by rw [← e2]; exact X'.warmed.alike) hp hb k1 k2 k3 (by rw [e1]; exact hce) hcv hcl T' rfl X'
    exact ⟨t2, st.trans a1, b1⟩
theorem vx_calld {S SX : Type} {post : UInt64 → S → Prop} {px : SX → Prop} {B : S → State → Prop} {BX : String → SX → State → Prop} {AX : Nat → Prop} (hr : vx_Run p l e R s m args below meth c H locs cells slots mc ms (F0 m pc ls st0) rest (va_Qd post B A1 a) (vx_X px BX AX) free) (hS : va_S A0 H0 H locs) (hA : ∀ q, q < H.size → A1 q → A0 q) (hf : ∀ q, free q → A0 q) (hAX : ∀ q, q < H.size → AX q → A0 q)
    (kx : ∀ (E : String) (ce : Cell) (q9 : Addr) (u : SX) (t : State) (H1 : Heap) (locs1 : List Loc), t.heap = H1 → s.vm.Alike t.vm → px u → BX E u t → H.size ≤ H1.size → (∀ q : Nat, q < H.size → ¬ AX q → H1[q]? = H[q]?) → va_S A0 H0 H1 locs1 → H1[q9]? = some ce → ce.vm = .none → s.vm.findClass E = some ce.cls → vx_W p l e R s m args below meth c H1 locs1 (cells + mc) (slots + ms) Q (F0 m pc ls rest) q9)
    (kk : ∀ (r : UInt64) (u : S) (t : State) (H1 : Heap) (locs1 : List Loc), t.heap = H1 → s.vm.Alike t.vm → post r u → B u t → H.size ≤ H1.size → (∀ q : Nat, q < H.size → ¬ A1 q → H1[q]? = H[q]?) → va_S A0 H0 H1 locs1 → W p l e R s m args below meth c H1 locs1 (cells + mc) (slots + ms) Q (F0 m (pc + 3) ls (.double r :: rest))) : W p l e R s m args below meth c H locs cells slots Q (F0 m pc ls st0) := by
  intro T hT X
  rcases hr T hT X with ⟨v, st₀, t, T', L, h0, X', hL, e1, e2, ⟨⟨r, u, hv, hp, hb⟩, hF⟩, st⟩ | ⟨q, st₀, t, T', L, E, ce, h0, X', hL, e1, e2, ⟨u, hp, hb, hF⟩, hce, hcv, hcl, st⟩
  · cases hv
    obtain ⟨k1, k2, k3⟩ := vx_keep h0 e1 hS hA hf hL hF
    obtain ⟨t2, a1, b1⟩ := kk r u t T'.heap (locs ++ L) e1.symm (by rw [← e2]; exact X'.warmed.alike) hp hb k1 k2 k3 T' rfl X'
    exact ⟨t2, st t2 a1, b1⟩
  · obtain ⟨k1, k2, k3⟩ := vx_keep h0 e1 hS hAX hf hL hF
    obtain ⟨t2, a1, b1⟩ := kx E ce q u t T'.heap (locs ++ L) e1.symm (by rw [← e2]; exact X'.warmed.alike) hp hb k1 k2 k3 (by rw [e1]; exact hce) hcv hcl T' rfl X'
    exact ⟨t2, st.trans a1, b1⟩
theorem vx_callv {S SX : Type} {post : S → Prop} {px : SX → Prop} {B : S → State → Prop} {BX : String → SX → State → Prop} {AX : Nat → Prop} (hr : vx_Run p l e R s m args below meth c H locs cells slots mc ms (F0 m pc ls st0) rest (va_Qv post B A1 a) (vx_X px BX AX) free) (hS : va_S A0 H0 H locs) (hA : ∀ q, q < H.size → A1 q → A0 q) (hf : ∀ q, free q → A0 q) (hAX : ∀ q, q < H.size → AX q → A0 q)
    (kx : ∀ (E : String) (ce : Cell) (q9 : Addr) (u : SX) (t : State) (H1 : Heap) (locs1 : List Loc), t.heap = H1 → s.vm.Alike t.vm → px u → BX E u t → H.size ≤ H1.size → (∀ q : Nat, q < H.size → ¬ AX q → H1[q]? = H[q]?) → va_S A0 H0 H1 locs1 → H1[q9]? = some ce → ce.vm = .none → s.vm.findClass E = some ce.cls → vx_W p l e R s m args below meth c H1 locs1 (cells + mc) (slots + ms) Q (F0 m pc ls rest) q9)
    (kk : ∀ (u : S) (t : State) (H1 : Heap) (locs1 : List Loc), t.heap = H1 → s.vm.Alike t.vm → post u → B u t → H.size ≤ H1.size → (∀ q : Nat, q < H.size → ¬ A1 q → H1[q]? = H[q]?) → va_S A0 H0 H1 locs1 → W p l e R s m args below meth c H1 locs1 (cells + mc) (slots + ms) Q (F0 m (pc + 3) ls (rest))) : W p l e R s m args below meth c H locs cells slots Q (F0 m pc ls st0) := by
  intro T hT X
  rcases hr T hT X with ⟨v, st₀, t, T', L, h0, X', hL, e1, e2, ⟨⟨u, hv, hp, hb⟩, hF⟩, st⟩ | ⟨q, st₀, t, T', L, E, ce, h0, X', hL, e1, e2, ⟨u, hp, hb, hF⟩, hce, hcv, hcl, st⟩
  · cases hv
    obtain ⟨k1, k2, k3⟩ := vx_keep h0 e1 hS hA hf hL hF
    obtain ⟨t2, a1, b1⟩ := kk u t T'.heap (locs ++ L) e1.symm (by rw [← e2]; exact X'.warmed.alike) hp hb k1 k2 k3 T' rfl X'
    exact ⟨t2, st t2 a1, b1⟩
  · obtain ⟨k1, k2, k3⟩ := vx_keep h0 e1 hS hAX hf hL hF
    obtain ⟨t2, a1, b1⟩ := kx E ce q u t T'.heap (locs ++ L) e1.symm (by rw [← e2]; exact X'.warmed.alike) hp hb k1 k2 k3 (by rw [e1]; exact hce) hcv hcl T' rfl X'
    exact ⟨t2, st.trans a1, b1⟩
/-- caught by the row x of this method's table; the rows ahead don't take it -/
theorem vx_catch {own name : String} {E : String} {ce : Cell} {q : Addr} (hown : s.vm.findClass own = some m.cls) (pre : List ExceptionTableEntry) (x : ExceptionTableEntry) (suf : List ExceptionTableEntry) (hsplit : c.exceptionTable.toList = pre ++ x :: suf)
    (hpass : ∀ z ∈ pre, covers z pc = false ∨ (z.catchType ≠ 0 ∧ ∃ nm : String, (Cond.classLink own z.catchType nm).before args s = true ∧ va_Nc E nm s)) (hx : covers x pc = true) (h0 : x.catchType ≠ 0)
    (hlink : (Cond.classLink own x.catchType name).before args s = true) (hcast : (Cond.castable E name).before args s = true) (hcell : H[q]? = some ce) (hv : ce.vm = .none) (hcl : s.vm.findClass E = some ce.cls)
    (kk : W p l e R s m args below meth c H locs cells slots Q (F0 m x.handlerPc ls [.ref q])) : vx_W p l e R s m args below meth c H locs cells slots Q (F0 m pc ls rest) q := by
  intro T hT X
  have hpl : e.platform.magicAccessors = ({} : Platform).magicAccessors := by rw [X.admits.platform]
  obtain ⟨c3, c4, hc3, hc4, hasg⟩ := Cond.castable_spec hcast
  cases Option.some.inj (hc3.symm.trans hcl)
  obtain ⟨c5, hc5, hcl5⟩ := Cond.classLink_spec hown hlink e.platform hpl
  cases Option.some.inj (hc4.symm.trans hc5)
  obtain ⟨vm', X', st⟩ := X.thenCaughtThrough q (g := F0 m pc ls rest) rfl (Steps.refl _) (by rw [hT]; exact hcell) (by rw [hv]; rfl) (by obtain ⟨k9, h9, -⟩ := Vm.findClass_spec hcl; exact ⟨k9, h9⟩) pre x suf hsplit
    (fun z hz => by
      rcases hpass z hz with h | ⟨hz0, nm, hl1, hn1⟩
      · exact Or.inl h
      · obtain ⟨c6, hc6, hcl6⟩ := Cond.classLink_spec hown hl1 e.platform hpl
        obtain ⟨a8, b8, h1, h2, h3⟩ := hn1
        cases Option.some.inj (h1.symm.trans hcl)
        cases Option.some.inj (h2.symm.trans hc6)
        exact Or.inr ⟨hz0, _, hcl6, h3⟩) hx (Or.inr ⟨h0, c4, hcl5, hasg⟩)
  obtain ⟨t, a1, b1⟩ := kk (T.setVm vm') hT X'
  exact ⟨t, st.trans a1, b1⟩
end Rows
section Ends
variable {p : Program} {l : Launch} {e : Env} {R : Room} {s : State} {m : MethodId} {args : Array Value} {below : List Frame} {meth : Method} {c : Code} {H : Heap} {locs : List Loc} {cells slots : Nat} {Q : State → Prop}
variable {mc ms : Nat} {free : Addr → Prop} {A0 A1 : Nat → Prop} {H0 : Heap} {a : Array Value} {ls : Array Slot} {st0 rest : List Value}
variable {Qc : Array Value → State → Outcome → State → Prop} {XC : String → State → State → Prop}
/-- what a body that may throw owes at its end -/
def vx_MQ (below : List Frame) (Qc : Array Value → State → Outcome → State → Prop) (XC : String → State → State → Prop) (a : Array Value) (s : State) (mc ms : Nat) (free : Addr → Prop) : State → Prop := fun t =>
  ∃ o, t.status = .running ∧ Ended t below o ∧ vx_Q Qc XC mc ms free a s o t
theorem vx_ret {g : JFrame} {mc ms : Nat} (k : W p l e R s m args below meth c H locs cells slots (MQ below Qc args s mc ms free) g) : W p l e R s m args below meth c H locs cells slots (vx_MQ below Qc XC args s mc ms free) g := by
  intro T hT X
  obtain ⟨t, a1, o, b1, b2, b3, b4⟩ := k T hT X
  exact ⟨t, a1, o, b1, b2, Or.inl ⟨b3, b4⟩⟩
/-- not caught here: it goes on to the caller -/
theorem vx_widen {g : JFrame} {q : Addr} {k n : Nat} (h1 : cells ≤ k) (h2 : slots ≤ n) (kk : vx_W p l e R s m args below meth c H locs k n Q g q) : vx_W p l e R s m args below meth c H locs cells slots Q g q := fun T hT X => kk T hT (stand_widen X h1 h2)
theorem vx_out {pc : Nat} {E : String} {ce : Cell} {q : Addr} {mc ms : Nat} (hout : ∀ x ∈ c.exceptionTable.toList, covers x pc = false) (hlocks : meth.locks = false) (hcell : H[q]? = some ce) (hv : ce.vm = .none) (hcl : s.vm.findClass E = some ce.cls)
    (hx : ∀ t : State, t.heap = H → s.vm.Alike t.vm → XC E s t) (hf : ∀ z ∈ locs, free z.base) (hc : cells ≤ mc) (hs : slots ≤ ms) :
    vx_W p l e R s m args below meth c H locs cells slots (vx_MQ below Qc XC args s mc ms free) (F0 m pc ls rest) q := by
  intro T hT X
  obtain ⟨st1, hrun, hend, hW, hsm⟩ := X.leaveThrown q (g := F0 m pc ls rest) rfl rfl rfl hout hlocks
  have hcell9 : (T.setFrames (.throwing q :: below)).heap[q]? = some ce := by
    show T.heap[q]? = some ce
    rw [hT]; exact hcell
  exact ⟨_, st1, .threw q, hrun, hend, Or.inr ⟨q, rfl, E, ce, locs, hx _ hT hW.alike, hcell9, hv, hcl, hW, hsm.mono hc hs, hf⟩⟩
theorem vx_frame {U : State} {k n : Nat} (h : s.sameButNew ({ U with vm := s.vm } : State) locs k n) : s.heap.size ≤ U.heap.size ∧ ∀ q : Nat, q < s.heap.size → (∀ z ∈ locs, z.base ≠ q) → U.heap[q]? = s.heap[q]? := by
  obtain ⟨-, h2, -, -, -, h6⟩ := h
  refine ⟨h2, fun q hq hz => ?_⟩
  obtain ⟨c9, e1, e2, e3, e4⟩ := h6 q _ (Array.getElem?_eq_getElem hq)
  have hs : c9.slots = (s.heap[q]).slots := Array.ext_getElem? fun i => e4 i fun hm => hz _ hm rfl
  have h9 : c9 = s.heap[q] := by
    rw [hs] at e2
    exact e2
  have e5 : U.heap[q]? = some c9 := e1
  rw [e5, h9, Array.getElem?_eq_getElem hq]
/-- the words of a throw but the four that speak of the heap -/
def vx_no (w : Cond) : Bool := decide (w ≠ .isRef (.static Bundle.tN "UNASSIGNED_STACK" Bundle.steD)) && decide (w ≠ .isRef (.static Bundle.tN "SUPPRESSED_SENTINEL" Bundle.listD)) && decide (w ≠ .laysStatic Bundle.tN "UNASSIGNED_STACK" Bundle.steD) && decide (w ≠ .laysStatic Bundle.tN "SUPPRESSED_SENTINEL" Bundle.listD)
def vx_at0 (own : String) (ic : Nat) (X : String) (names : List String) : List Cond := (Bundle.ownAtoms0 own ic X names).filter vx_no
def vx_atS (own : String) (ic : Nat) (X : String) (names : List String) : List Cond := (Bundle.ownAtoms own ic X names).filter vx_no
/-- a word that the tables alone decide, or a good one -/
def vx_ot (w : Cond) : Bool := w.onTables || goodWord w
theorem vx_ot_at {args a' : Array Value} {s U : State} {w : Cond} (hW : s.WarmedH U.vm) (hvm : s.vm = U.vm) (hg : vx_ot w = true) (h : w.before args s = true) : w.before a' U = true := by
  simp only [vx_ot, Bool.or_eq_true] at hg
  rcases hg with hg | hg
  · exact va_tabs hg hvm h
  · exact word_at hW (good_of_word hg) h
/-- a list's words: the good ones out of the method's own list, the others by premises of their own -/
theorem vx_hat {args : Array Value} {s : State} {L B : List Cond} (h1 : ∀ w ∈ L.filter goodWord, w.before args s = true) (h2 : ∀ w ∈ L.filter (fun w => !goodWord w), w ∈ B) (h3 : ∀ w ∈ B, w.before args s = true) : ∀ w ∈ L, w.before args s = true := by
  intro w hw
  by_cases g : goodWord w = true
  · exact h1 w (List.mem_filter.mpr ⟨hw, g⟩)
  · refine h3 w (h2 w (List.mem_filter.mpr ⟨hw, ?_⟩))
    show (!goodWord w) = true
    cases hgw : goodWord w
    · rfl
    · exact absurd hgw g
theorem vx_c {args : Array Value} {s : State} {w : Cond} {B : List Cond} (h : w.before args s = true) (t : ∀ w ∈ B, w.before args s = true) : ∀ w' ∈ w :: B, w'.before args s = true := fun w' h' => (List.mem_cons.mp h').elim (fun e => by rw [e]; exact h) (t w')
theorem vx_n {args : Array Value} {s : State} : ∀ w ∈ ([] : List Cond), w.before args s = true := fun _ h => nomatch h
theorem vx_own {args : Array Value} {s : State} {L : List Cond} (h1 : ∀ w ∈ L.filter vx_no, w.before args s = true)
    (hU : (Cond.isRef (.static Bundle.tN "UNASSIGNED_STACK" Bundle.steD)).before args s = true) (hN : (Cond.isRef (.static Bundle.tN "SUPPRESSED_SENTINEL" Bundle.listD)).before args s = true)
    (lU : (Cond.laysStatic Bundle.tN "UNASSIGNED_STACK" Bundle.steD).before args s = true) (lN : (Cond.laysStatic Bundle.tN "SUPPRESSED_SENTINEL" Bundle.listD).before args s = true) : ∀ w ∈ L, w.before args s = true := by
  intro w hw
  by_cases e1 : w = .isRef (.static Bundle.tN "UNASSIGNED_STACK" Bundle.steD)
  · rw [e1]; exact hU
  · by_cases e2 : w = .isRef (.static Bundle.tN "SUPPRESSED_SENTINEL" Bundle.listD)
    · rw [e2]; exact hN
    · by_cases e3 : w = .laysStatic Bundle.tN "UNASSIGNED_STACK" Bundle.steD
      · rw [e3]; exact lU
      · by_cases e4 : w = .laysStatic Bundle.tN "SUPPRESSED_SENTINEL" Bundle.listD
        · rw [e4]; exact lN
        · exact h1 w (List.mem_filter.mpr ⟨hw, by unfold vx_no; rw [decide_eq_true e1, decide_eq_true e2, decide_eq_true e3, decide_eq_true e4]; rfl⟩)
/-- where a static field lies, its class's statics cell in H -/
def vx_L (C n d : String) (A : Nat → Prop) (U : State) (H : Heap) : Prop := ∃ (c : ClassId) (k : Class) (i : Nat) (f : Field) (a : Nat) (cell : Cell), U.vm.findClass C = some c ∧ U.fieldFound? C n d = some (c, k, i, f) ∧ f.isStatic = true ∧ k.statics = some a ∧ H[a]? = some cell ∧ cell.vm.isStatics = true ∧ cell.cls = c ∧ f.slot < cell.slots.size ∧ k.staticTypes[f.slot]? = some f.type ∧ ¬ A a
theorem vx_L.moved {C n d : String} {A : Nat → Prop} {u U : State} {H : Heap} (hvm : u.vm.Alike U.vm) (h : vx_L C n d A u H) : vx_L C n d A U H := by
  obtain ⟨c, k, i, f, a, cell, h1, h2, h3, h4, h5, h6, h7, h8, h9, h10⟩ := h
  obtain ⟨k', hi', he⟩ := State.fieldFound?_setVm hvm h2
  exact ⟨c, k', i, f, a, cell, by rw [hvm.findClass]; exact h1, hi', h3, by rw [he]; exact h4, h5, h6, h7, h8, by rw [he]; exact h9, h10⟩
theorem vx_L.kept {C n d : String} {A : Nat → Prop} {U : State} {H H1 : Heap} (h : vx_L C n d A U H) (hq : ∀ a : Nat, a < H.size → ¬ A a → H1[a]? = H[a]?) : vx_L C n d A U H1 := by
  obtain ⟨c, k, i, f, a, cell, h1, h2, h3, h4, h5, h6, h7, h8, h9, h10⟩ := h
  exact ⟨c, k, i, f, a, cell, h1, h2, h3, h4, by rw [hq a (Array.getElem?_eq_some_iff.mp h5).1 h10]; exact h5, h6, h7, h8, h9, h10⟩
theorem vx_L.narrow {C n d : String} {A B : Nat → Prop} {U : State} {H : Heap} (h : vx_L C n d A U H) (hAB : ∀ q, B q → A q) : vx_L C n d B U H := by
  obtain ⟨c, k, i, f, a, cell, h1, h2, h3, h4, h5, h6, h7, h8, h9, h10⟩ := h
  exact ⟨c, k, i, f, a, cell, h1, h2, h3, h4, h5, h6, h7, h8, h9, fun z => h10 (hAB _ z)⟩
theorem vx_L.word {C n d : String} {A : Nat → Prop} {s : State} {args : Array Value} (h : vx_L C n d A s s.heap) : (Cond.laysStatic C n d).before args s = true := by
  obtain ⟨c, k, i, f, a, cell, h1, h2, h3, h4, h5, h6, h7, h8, h9, -⟩ := h
  show (Cond.laysStatic C n d).holds args s none s [] = true
  exact Cond.laysStatic_of h1 h2 h3 h4 h5 h6 h7 h8 h9
/-- .. and what it holds: null or some reference -/
def vx_Zq (C n d : String) (A : Nat → Prop) (U : State) (H : Heap) : Prop := va_Zq C n d A U H ∧ vx_L C n d A U H
theorem vx_Zq.moved {C n d : String} {A : Nat → Prop} {u U : State} {H : Heap} (hvm : u.vm.Alike U.vm) (h : vx_Zq C n d A u H) : vx_Zq C n d A U H := ⟨va_Zq.moved hvm h.1, vx_L.moved hvm h.2⟩
theorem vx_Zq.kept {C n d : String} {A : Nat → Prop} {U : State} {H H1 : Heap} (h : vx_Zq C n d A U H) (hq : ∀ a : Nat, a < H.size → ¬ A a → H1[a]? = H[a]?) : vx_Zq C n d A U H1 := ⟨va_Zq.kept h.1 hq, vx_L.kept h.2 hq⟩
theorem vx_Zq.narrow {C n d : String} {A B : Nat → Prop} {U : State} {H : Heap} (h : vx_Zq C n d A U H) (hAB : ∀ q, B q → A q) : vx_Zq C n d B U H := ⟨va_Zq.narrow h.1 hAB, vx_L.narrow h.2 hAB⟩
theorem vx_Zqof {args : Array Value} {s : State} {C n d : String} {A : Nat → Prop} (hl : (Cond.laysStatic C n d).before args s = true) (hini : (Cond.initialized C).before args s = true) (h : (Cond.isRef (.static C n d)).before args s = true) (hA : ∀ a : Nat, a < s.heap.size → ¬ A a) : vx_Zq C n d A s s.heap := by
  refine ⟨va_Zqof hl hini h hA, ?_⟩
  obtain ⟨c, k, i, f, a, cell, h1, h2, h3, h4, h5, h6, h7, h8, h9⟩ := Cond.laysStatic_spec hl
  exact ⟨c, k, i, f, a, cell, h1, h2, h3, h4, h5, h6, h7, h8, h9, hA a (Array.getElem?_eq_some_iff.mp h5).1⟩
theorem vx_isRef {C n d : String} {v : Value} {A : Nat → Prop} {s : State} {args : Array Value} (h : va_Z C n d v A s s.heap) (hv : v.isRef = true) : (Cond.isRef (.static C n d)).before args s = true := by
  obtain ⟨cf, kf, fi, f, a, cell, h1, h2, h3, h4, h5, h6, h7, -⟩ := h
  have he : (Term.static C n d).eval args s none [] s = some v := by
    simp [Term.eval, State.fieldNamed?, h1, h2, h4, h5, h6, h7]
  simp only [Cond.before, Cond.holds, Cond.value, he]
  cases v <;> simp_all [Value.isRef]
theorem vx_isRefq {C n d : String} {A : Nat → Prop} {s : State} {args : Array Value} (h : va_Zq C n d A s s.heap) : (Cond.isRef (.static C n d)).before args s = true := by
  rcases h with h | ⟨t, h⟩
  · exact vx_isRef h rfl
  · exact vx_isRef h rfl
/-- the same frame, seen from here: as if the method were called anew in this heap -/
theorem vx_rebase {T : State} (X : Stand p l e R s m args below meth c T locs cells slots) {R' : Room} (hf : R'.frames ≤ R.frames) (hl : R'.locals ≤ R.locals) (hc : cells + R'.cells ≤ R.cells) (hs : slots + R'.slots ≤ R.slots) :
    Stand p l e R' ((T.setVm s.vm).setFrames (.invoking m args :: below)) m args below meth c T [] 0 0 := by
  have htop : (T.setVm s.vm).topJava?.isSome := X.here.top
  have hF : ((T.setVm s.vm).setFrames (.invoking m args :: below)).frames = .invoking m args :: below := State.frames_setFrames _ (State.cur_lt_of_top htop)
  obtain ⟨g₀, hg0⟩ := Option.isSome_iff_exists.mp htop
  obtain ⟨r, hr⟩ := State.topJava?_eq_some.mp hg0
  have hl9 : e.platform.stackLimits (T.setVm s.vm).me = e.platform.stackLimits s.me := X.limits
  have hb9 : (T.setVm s.vm).me.stackBytes = s.me.stackBytes := X.bytes
  refine ⟨X.admits, X.cas, X.clock, hF, ?_, X.hears, X.method, X.code, X.here, X.tail, X.warmed, ?_, ?_, ?_⟩
  · have h := X.room
    have hU : ((T.setVm s.vm).setFrames (.invoking m args :: below)).localsInUse = s.localsInUse := by
      rw [State.localsInUse_invoking hF (meth := meth) (c := c) X.method X.code, State.localsInUse_invoking X.frames X.method X.code]
    simp only [State.hasRoom, Bool.and_eq_true, decide_eq_true_eq] at h ⊢
    obtain ⟨⟨⟨⟨h1, h2, h3, h4, h5, h6⟩, h7⟩, h8⟩, h9⟩ := h
    rw [X.frames, List.length_cons] at h2 h3
    have q1 := X.heapSize
    have q2 := X.used
    simp only [hF, hU, List.length_cons, State.stackLimits_setFrames, State.stackBytes_setFrames, hl9, hb9]
    refine ⟨⟨⟨⟨by omega, by omega, by omega, by omega, by omega, h6⟩, ?_⟩, ?_⟩, X.book⟩
    · show T.heap.size + R'.cells ≤ e.platform.maxCells
      omega
    · show T.slotsUsed + R'.slots ≤ e.platform.maxSlots
      omega
  · rw [State.stackLimits_setFrames]; rfl
  · rw [State.stackBytes_setFrames]; rfl
  · refine ⟨?_, Nat.le_refl _, Nat.le_refl _, ?_, ?_, fun a c9 h9 => ⟨c9, h9, rfl, rfl, fun _ _ => rfl⟩⟩
    · obtain ⟨t, ht, -⟩ := State.frames_cons hr
      show T.setVm s.vm = { ((T.setVm s.vm).setFrames (.invoking m args :: below)).setFrames (T.setVm s.vm).frames with heap := T.heap, slotsUsed := T.slotsUsed }
      rw [State.setFrames_setFrames, State.setFrames_self ht]
      rfl
    · show T.slotsUsed = T.slotsUsed + ((T.heap.toList.drop T.heap.size).map (·.slots.size)).sum
      rw [List.drop_eq_nil_of_le (Nat.le_of_eq Array.length_toList)]
      rfl
    · show ((T.heap.toList.drop T.heap.size).map (·.slots.size)).sum ≤ 0
      rw [List.drop_eq_nil_of_le (Nat.le_of_eq Array.length_toList)]
      exact Nat.le_refl _
/-- 'throw new E()': new; dup; invokespecial; athrow -/
theorem vx_throw0 {cc : ByteArray} {pc : Nat} (hexec : p.tables.exec = Jvm.exec) (hb : c.code = cc) (hl : l.stackTraces = false) {own cls : String} {names : List String} {ik ic mc ms : Nat} {A : Nat → Prop}
    (hown : s.vm.findClass own = some m.cls) (hcls : Bundle.fit cls = true) (hnames : ∀ n ∈ names, Bundle.fit n = true)
    (hk : (Cond.classLink own ik cls).before args s = true) (hini : (Cond.initialized cls).before args s = true) (hat : ∀ w ∈ vx_at0 own ic cls names, w.before args s = true)
    (hgood : ∀ w ∈ Cond.classLink own ik cls :: Cond.initialized cls :: vx_at0 own ic cls names, vx_ot w = true)
    (hU : vx_Zq Bundle.tN "UNASSIGNED_STACK" Bundle.steD A s s.heap) (hN : vx_Zq Bundle.tN "SUPPRESSED_SENTINEL" Bundle.listD A s s.heap) (hS : va_S A s.heap H locs) (hsize : ls.size = c.maxLocals)
    (d0 : decode cc pc = .ok (.new ik, 3)) (d3 : decode cc (pc + 3) = .ok (.dup, 1)) (d4 : decode cc (pc + 4) = .ok (.invokespecial ic, 3)) (d7 : decode cc (pc + 7) = .ok (.athrow, 1))
    (hout : ∀ x ∈ c.exceptionTable.toList, covers x (pc + 7) = false)
    (hRframes : names.length + 3 < R.frames) (hRlocals : (rest.map fun v => v.category).sum + (13 * (names.length + 1) + 42) ≤ R.locals) (hRcells : cells + 1 ≤ R.cells) (hRslots : slots + 6 ≤ R.slots) (hlocks : meth.locks = false)
    (hx : ∀ t : State, s.vm.Alike t.vm → H.size ≤ t.heap.size → (∀ q : Nat, q < H.size → t.heap[q]? = H[q]?) → XC cls s t)
    (hf : ∀ z ∈ locs, free z.base) (hc : cells + 1 ≤ mc) (hs : slots + 6 ≤ ms) :
    W p l e R s m args below meth c H locs cells slots (vx_MQ below Qc XC args s mc ms free) (F0 m pc ls rest) := by
  intro T hT X
  have htr : e.platform.stackTraces = false := (show e.platform.stackTraces = l.stackTraces by rw [X.admits.platform]).trans hl
  have Y := vx_rebase X (R' := { frames := R.frames, locals := R.locals, cells := 1, slots := 6 }) (Nat.le_refl _) (Nat.le_refl _) hRcells hRslots
  obtain ⟨s', hA⟩ : ∃ z, z = (T.setVm s.vm).setFrames (.invoking m args :: below) := ⟨_, rfl⟩
  rw [← hA] at Y
  have hvm : s'.vm = s.vm := by rw [hA]; rfl
  have hhp : s'.heap = H := by rw [hA]; exact hT
  have hW0 : s.WarmedH s'.vm := by rw [hvm]; exact State.WarmedH.refl s
  have hat' : ∀ w ∈ vx_at0 own ic cls names, w.before args s' = true := fun w hw => vx_ot_at hW0 hvm.symm (hgood w (List.mem_cons_of_mem _ (List.mem_cons_of_mem _ hw))) (hat w hw)
  have hk' : (Cond.classLink own ik cls).before args s' = true := vx_ot_at hW0 hvm.symm (hgood _ List.mem_cons_self) hk
  have hini' : (Cond.initialized cls).before args s' = true := vx_ot_at hW0 hvm.symm (hgood _ (List.mem_cons_of_mem _ List.mem_cons_self)) hini
  have hU' : vx_Zq Bundle.tN "UNASSIGNED_STACK" Bundle.steD A s' s'.heap := by rw [hhp]; exact vx_Zq.moved hW0.alike (hU.kept hS.2.1)
  have hN' : vx_Zq Bundle.tN "SUPPRESSED_SENTINEL" Bundle.listD A s' s'.heap := by rw [hhp]; exact vx_Zq.moved hW0.alike (hN.kept hS.2.1)
  have h : ∀ w ∈ Bundle.ownAtoms0 own ic cls names, w.before args s' = true := vx_own hat' (vx_isRefq hU'.1) (vx_isRefq hN'.1) hU'.2.word hN'.2.word
  have hown' : s'.vm.findClass own = some m.cls := by rw [hvm]; exact hown
  have hins : (Cond.instantiable cls 6).before args s' = true := h _ (by simp [Bundle.ownAtoms0])
  obtain ⟨vm₁, cX, kX, hfX, hkX, -, -, X₁, st1⟩ := Y.newCold hexec (own := own) (C := cls) (index := ik) (n := 6) hown' hk' hins hini'
    (g := F0 m pc ls rest) rfl (by rw [hb]; exact d0) (Nat.le_refl _) (Nat.le_refl _)
  generalize hT1 : (T.setVm vm₁).pushCell { cls := cX, slots := kX.instanceTypes.map defaultValue, vm := .none } = T1 at X₁ st1
  have hcat : (Value.ref T.heap.size).category = 1 := rfl
  have hcellA : T1.heap[T.heap.size]? = some (freshCell cX kX) := by rw [← hT1]; exact State.heap_pushCell_size _ _
  have d3' : decode c.code (pc + 3) = .ok (.dup, 1) := by rw [hb]; exact d3
  obtain ⟨U, hsteps, hrun, hend, hW, hsame, ce, hce, hO⟩ := X₁.ctorThrow0 hexec htr (own := own) (cls := cls) (names := names) (ic := ic) hown' hcls hnames h (fun x hx => nomatch hx) hfX hkX hcellA (by rw [hhp, hT]; exact Nat.le_refl _)
    (g := { method := m, pc := pc + 4, locals := ls, stack := .ref T.heap.size :: .ref T.heap.size :: rest, locked := none }) rfl hsize rfl rfl (rest := rest) rfl
    (by rw [hb]; exact d4) (by rw [hb]; exact d7) hout hRframes (by simp only [List.map_cons, List.sum_cons, hcat]; omega) hlocks
  obtain ⟨f1, f2⟩ := vx_frame hsame
  rw [hhp] at f1 f2
  have hWs : s.WarmedH U.vm := State.WarmedH.trans hW0 hW
  have hcl : s.vm.findClass cls = some ce.cls := by
    have h9 := hO.cls
    rw [hvm] at h9
    exact h9
  have hall : s.sameButNew ({ U with vm := s.vm } : State) locs mc ms := by
    subst hA
    obtain ⟨e1, e2⟩ := hsame
    rw [State.setFrames_setFrames] at e1
    have h2 : (T.setVm s.vm).sameButNew ({ U with vm := s.vm } : State) [] (0 + 1) (0 + 6) := ⟨e1, e2⟩
    have h3 := X.same.trans h2
    rw [List.append_nil] at h3
    exact h3.mono hc hs
  refine ⟨U, ?_, .threw T.heap.size, hrun, hend, Or.inr ⟨T.heap.size, rfl, cls, ce, locs, hx U hWs.alike f1 (fun q hq => f2 q hq (fun z hz => nomatch hz)), hce, hO.vm, hcl, hWs, hall, hf⟩⟩
  refine st1 _ ?_
  show Steps p.tables e below (T1.setTop { method := m, pc := pc + 3, locals := ls, stack := .ref T.heap.size :: rest, locked := none }) _
  jvm_step X₁.here [X₁.here.top, hexec, d3', Value.category]
  exact hsteps
/-- 'throw new E("text")': new; dup; ldc; invokespecial; athrow -/
theorem vx_throwS {cc : ByteArray} {pc : Nat} (hexec : p.tables.exec = Jvm.exec) (hb : c.code = cc) (hl : l.stackTraces = false) {own cls text : String} {names : List String} {ik is ic mc ms sa : Nat} {A : Nat → Prop}
    (hown : s.vm.findClass own = some m.cls) (hcls : Bundle.fit cls = true) (hnames : ∀ n ∈ names, Bundle.fit n = true)
    (hk : (Cond.classLink own ik cls).before args s = true) (hini : (Cond.initialized cls).before args s = true) (hstr : vk_R own is text sa s) (hat : ∀ w ∈ vx_atS own ic cls names, w.before args s = true)
    (hgood : ∀ w ∈ Cond.classLink own ik cls :: Cond.initialized cls :: vx_atS own ic cls names, vx_ot w = true)
    (hU : vx_Zq Bundle.tN "UNASSIGNED_STACK" Bundle.steD A s s.heap) (hN : vx_Zq Bundle.tN "SUPPRESSED_SENTINEL" Bundle.listD A s s.heap) (hS : va_S A s.heap H locs) (hsize : ls.size = c.maxLocals)
    (d0 : decode cc pc = .ok (.new ik, 3)) (d3 : decode cc (pc + 3) = .ok (.dup, 1)) (d4 : decode cc (pc + 4) = .ok (.ldc is, 2)) (d6 : decode cc (pc + 6) = .ok (.invokespecial ic, 3)) (d9 : decode cc (pc + 9) = .ok (.athrow, 1))
    (hout : ∀ x ∈ c.exceptionTable.toList, covers x (pc + 9) = false)
    (hRframes : names.length + 3 < R.frames) (hRlocals : (rest.map fun v => v.category).sum + (13 * (names.length + 1) + 43) ≤ R.locals) (hRcells : cells + 1 ≤ R.cells) (hRslots : slots + 6 ≤ R.slots) (hlocks : meth.locks = false)
    (hx : ∀ t : State, s.vm.Alike t.vm → H.size ≤ t.heap.size → (∀ q : Nat, q < H.size → t.heap[q]? = H[q]?) → XC cls s t)
    (hf : ∀ z ∈ locs, free z.base) (hc : cells + 1 ≤ mc) (hs : slots + 6 ≤ ms) :
    W p l e R s m args below meth c H locs cells slots (vx_MQ below Qc XC args s mc ms free) (F0 m pc ls rest) := by
  intro T hT X
  have htr : e.platform.stackTraces = false := (show e.platform.stackTraces = l.stackTraces by rw [X.admits.platform]).trans hl
  have Y := vx_rebase X (R' := { frames := R.frames, locals := R.locals, cells := 1, slots := 6 }) (Nat.le_refl _) (Nat.le_refl _) hRcells hRslots
  obtain ⟨s', hA⟩ : ∃ z, z = (T.setVm s.vm).setFrames (.invoking m args :: below) := ⟨_, rfl⟩
  rw [← hA] at Y
  have hvm : s'.vm = s.vm := by rw [hA]; rfl
  have hhp : s'.heap = H := by rw [hA]; exact hT
  have hW0 : s.WarmedH s'.vm := by rw [hvm]; exact State.WarmedH.refl s
  have hat' : ∀ w ∈ vx_atS own ic cls names, w.before args s' = true := fun w hw => vx_ot_at hW0 hvm.symm (hgood w (List.mem_cons_of_mem _ (List.mem_cons_of_mem _ hw))) (hat w hw)
  have hk' : (Cond.classLink own ik cls).before args s' = true := vx_ot_at hW0 hvm.symm (hgood _ List.mem_cons_self) hk
  have hini' : (Cond.initialized cls).before args s' = true := vx_ot_at hW0 hvm.symm (hgood _ (List.mem_cons_of_mem _ List.mem_cons_self)) hini
  have hU' : vx_Zq Bundle.tN "UNASSIGNED_STACK" Bundle.steD A s' s'.heap := by rw [hhp]; exact vx_Zq.moved hW0.alike (hU.kept hS.2.1)
  have hN' : vx_Zq Bundle.tN "SUPPRESSED_SENTINEL" Bundle.listD A s' s'.heap := by rw [hhp]; exact vx_Zq.moved hW0.alike (hN.kept hS.2.1)
  have h : ∀ w ∈ Bundle.ownAtoms own ic cls names, w.before args s' = true := vx_own hat' (vx_isRefq hU'.1) (vx_isRefq hN'.1) hU'.2.word hN'.2.word
  have hown' : s'.vm.findClass own = some m.cls := by rw [hvm]; exact hown
  have hins : (Cond.instantiable cls 6).before args s' = true := h _ (by simp [Bundle.ownAtoms])
  obtain ⟨vm₁, cX, kX, hfX, hkX, -, -, X₁, st1⟩ := Y.newCold hexec (own := own) (C := cls) (index := ik) (n := 6) hown' hk' hins hini'
    (g := F0 m pc ls rest) rfl (by rw [hb]; exact d0) (Nat.le_refl _) (Nat.le_refl _)
  generalize hT1 : (T.setVm vm₁).pushCell { cls := cX, slots := kX.instanceTypes.map defaultValue, vm := .none } = T1 at X₁ st1
  have hcat : (Value.ref T.heap.size).category = 1 := rfl
  have hcellA : T1.heap[T.heap.size]? = some (freshCell cX kX) := by rw [← hT1]; exact State.heap_pushCell_size _ _
  have d3' : decode c.code (pc + 3) = .ok (.dup, 1) := by rw [hb]; exact d3
  have d4' : decode c.code (pc + 4) = .ok (.ldc is, 2) := by rw [hb]; exact d4
  have hstr' : vk_R own is text sa s' := vk_R.warm hW0 hstr
  obtain ⟨U, hsteps, hrun, hend, hW, hsame, ce, hce, hO⟩ := X₁.ctorThrowS hexec htr (own := own) (cls := cls) (names := names) (ic := ic) hown' hcls hnames h (fun x hx => nomatch hx) hfX hkX hcellA (by rw [hhp, hT]; exact Nat.le_refl _) (msg := .ref sa) rfl
    (g := { method := m, pc := pc + 6, locals := ls, stack := .ref sa :: .ref T.heap.size :: .ref T.heap.size :: rest, locked := none }) rfl hsize rfl rfl (rest := rest) rfl
    (by rw [hb]; exact d6) (by rw [hb]; exact d9) hout hRframes (by simp only [List.map_cons, List.sum_cons, hcat]; omega) hlocks
  obtain ⟨f1, f2⟩ := vx_frame hsame
  rw [hhp] at f1 f2
  have hWs : s.WarmedH U.vm := State.WarmedH.trans hW0 hW
  have hcl : s.vm.findClass cls = some ce.cls := by
    have h9 := hO.cls
    rw [hvm] at h9
    exact h9
  have hall : s.sameButNew ({ U with vm := s.vm } : State) locs mc ms := by
    subst hA
    obtain ⟨e1, e2⟩ := hsame
    rw [State.setFrames_setFrames] at e1
    have h2 : (T.setVm s.vm).sameButNew ({ U with vm := s.vm } : State) [] (0 + 1) (0 + 6) := ⟨e1, e2⟩
    have h3 := X.same.trans h2
    rw [List.append_nil] at h3
    exact h3.mono hc hs
  refine ⟨U, ?_, .threw T.heap.size, hrun, hend, Or.inr ⟨T.heap.size, rfl, cls, ce, locs, hx U hWs.alike f1 (fun q hq => f2 q hq (fun z hz => nomatch hz)), hce, hO.vm, hcl, hWs, hall, hf⟩⟩
  refine st1 _ ?_
  show Steps p.tables e below (T1.setTop { method := m, pc := pc + 3, locals := ls, stack := .ref T.heap.size :: rest, locked := none }) _
  jvm_step X₁.here [X₁.here.top, hexec, d3', Value.category]
  exact X₁.ldcString hexec (own := own) (text := text) (index := is) (a := sa) hown' hstr'.1 hstr'.2
    (g := { method := m, pc := pc + 4, locals := ls, stack := .ref T.heap.size :: .ref T.heap.size :: rest, locked := none }) rfl d4' _ hsteps
/-- 'throw new E("text")', the text by a wide index -/
theorem vx_throwSW {cc : ByteArray} {pc : Nat} (hexec : p.tables.exec = Jvm.exec) (hb : c.code = cc) (hl : l.stackTraces = false) {own cls text : String} {names : List String} {ik is ic mc ms sa : Nat} {A : Nat → Prop}
    (hown : s.vm.findClass own = some m.cls) (hcls : Bundle.fit cls = true) (hnames : ∀ n ∈ names, Bundle.fit n = true)
    (hk : (Cond.classLink own ik cls).before args s = true) (hini : (Cond.initialized cls).before args s = true) (hstr : vk_R own is text sa s) (hat : ∀ w ∈ vx_atS own ic cls names, w.before args s = true)
    (hgood : ∀ w ∈ Cond.classLink own ik cls :: Cond.initialized cls :: vx_atS own ic cls names, vx_ot w = true)
    (hU : vx_Zq Bundle.tN "UNASSIGNED_STACK" Bundle.steD A s s.heap) (hN : vx_Zq Bundle.tN "SUPPRESSED_SENTINEL" Bundle.listD A s s.heap) (hS : va_S A s.heap H locs) (hsize : ls.size = c.maxLocals)
    (d0 : decode cc pc = .ok (.new ik, 3)) (d3 : decode cc (pc + 3) = .ok (.dup, 1)) (d4 : decode cc (pc + 4) = .ok (.ldc_w is, 3)) (d7 : decode cc (pc + 7) = .ok (.invokespecial ic, 3)) (d10 : decode cc (pc + 10) = .ok (.athrow, 1))
    (hout : ∀ x ∈ c.exceptionTable.toList, covers x (pc + 10) = false)
    (hRframes : names.length + 3 < R.frames) (hRlocals : (rest.map fun v => v.category).sum + (13 * (names.length + 1) + 43) ≤ R.locals) (hRcells : cells + 1 ≤ R.cells) (hRslots : slots + 6 ≤ R.slots) (hlocks : meth.locks = false)
    (hx : ∀ t : State, s.vm.Alike t.vm → H.size ≤ t.heap.size → (∀ q : Nat, q < H.size → t.heap[q]? = H[q]?) → XC cls s t)
    (hf : ∀ z ∈ locs, free z.base) (hc : cells + 1 ≤ mc) (hs : slots + 6 ≤ ms) :
    W p l e R s m args below meth c H locs cells slots (vx_MQ below Qc XC args s mc ms free) (F0 m pc ls rest) := by
  intro T hT X
  have htr : e.platform.stackTraces = false := (show e.platform.stackTraces = l.stackTraces by rw [X.admits.platform]).trans hl
  have Y := vx_rebase X (R' := { frames := R.frames, locals := R.locals, cells := 1, slots := 6 }) (Nat.le_refl _) (Nat.le_refl _) hRcells hRslots
  obtain ⟨s', hA⟩ : ∃ z, z = (T.setVm s.vm).setFrames (.invoking m args :: below) := ⟨_, rfl⟩
  rw [← hA] at Y
  have hvm : s'.vm = s.vm := by rw [hA]; rfl
  have hhp : s'.heap = H := by rw [hA]; exact hT
  have hW0 : s.WarmedH s'.vm := by rw [hvm]; exact State.WarmedH.refl s
  have hat' : ∀ w ∈ vx_atS own ic cls names, w.before args s' = true := fun w hw => vx_ot_at hW0 hvm.symm (hgood w (List.mem_cons_of_mem _ (List.mem_cons_of_mem _ hw))) (hat w hw)
  have hk' : (Cond.classLink own ik cls).before args s' = true := vx_ot_at hW0 hvm.symm (hgood _ List.mem_cons_self) hk
  have hini' : (Cond.initialized cls).before args s' = true := vx_ot_at hW0 hvm.symm (hgood _ (List.mem_cons_of_mem _ List.mem_cons_self)) hini
  have hU' : vx_Zq Bundle.tN "UNASSIGNED_STACK" Bundle.steD A s' s'.heap := by rw [hhp]; exact vx_Zq.moved hW0.alike (hU.kept hS.2.1)
  have hN' : vx_Zq Bundle.tN "SUPPRESSED_SENTINEL" Bundle.listD A s' s'.heap := by rw [hhp]; exact vx_Zq.moved hW0.alike (hN.kept hS.2.1)
  have h : ∀ w ∈ Bundle.ownAtoms own ic cls names, w.before args s' = true := vx_own hat' (vx_isRefq hU'.1) (vx_isRefq hN'.1) hU'.2.word hN'.2.word
  have hown' : s'.vm.findClass own = some m.cls := by rw [hvm]; exact hown
  have hins : (Cond.instantiable cls 6).before args s' = true := h _ (by simp [Bundle.ownAtoms])
  obtain ⟨vm₁, cX, kX, hfX, hkX, -, -, X₁, st1⟩ := Y.newCold hexec (own := own) (C := cls) (index := ik) (n := 6) hown' hk' hins hini'
    (g := F0 m pc ls rest) rfl (by rw [hb]; exact d0) (Nat.le_refl _) (Nat.le_refl _)
  generalize hT1 : (T.setVm vm₁).pushCell { cls := cX, slots := kX.instanceTypes.map defaultValue, vm := .none } = T1 at X₁ st1
  have hcat : (Value.ref T.heap.size).category = 1 := rfl
  have hcellA : T1.heap[T.heap.size]? = some (freshCell cX kX) := by rw [← hT1]; exact State.heap_pushCell_size _ _
  have d3' : decode c.code (pc + 3) = .ok (.dup, 1) := by rw [hb]; exact d3
  have d4' : decode c.code (pc + 4) = .ok (.ldc_w is, 3) := by rw [hb]; exact d4
  have hstr' : vk_R own is text sa s' := vk_R.warm hW0 hstr
  obtain ⟨U, hsteps, hrun, hend, hW, hsame, ce, hce, hO⟩ := X₁.ctorThrowS hexec htr (own := own) (cls := cls) (names := names) (ic := ic) hown' hcls hnames h (fun x hx => nomatch hx) hfX hkX hcellA (by rw [hhp, hT]; exact Nat.le_refl _) (msg := .ref sa) rfl
    (g := { method := m, pc := pc + 7, locals := ls, stack := .ref sa :: .ref T.heap.size :: .ref T.heap.size :: rest, locked := none }) rfl hsize rfl rfl (rest := rest) rfl
    (by rw [hb]; exact d7) (by rw [hb]; exact d10) hout hRframes (by simp only [List.map_cons, List.sum_cons, hcat]; omega) hlocks
  obtain ⟨f1, f2⟩ := vx_frame hsame
  rw [hhp] at f1 f2
  have hWs : s.WarmedH U.vm := State.WarmedH.trans hW0 hW
  have hcl : s.vm.findClass cls = some ce.cls := by
    have h9 := hO.cls
    rw [hvm] at h9
    exact h9
  have hall : s.sameButNew ({ U with vm := s.vm } : State) locs mc ms := by
    subst hA
    obtain ⟨e1, e2⟩ := hsame
    rw [State.setFrames_setFrames] at e1
    have h2 : (T.setVm s.vm).sameButNew ({ U with vm := s.vm } : State) [] (0 + 1) (0 + 6) := ⟨e1, e2⟩
    have h3 := X.same.trans h2
    rw [List.append_nil] at h3
    exact h3.mono hc hs
  refine ⟨U, ?_, .threw T.heap.size, hrun, hend, Or.inr ⟨T.heap.size, rfl, cls, ce, locs, hx U hWs.alike f1 (fun q hq => f2 q hq (fun z hz => nomatch hz)), hce, hO.vm, hcl, hWs, hall, hf⟩⟩
  refine st1 _ ?_
  show Steps p.tables e below (T1.setTop { method := m, pc := pc + 3, locals := ls, stack := .ref T.heap.size :: rest, locked := none }) _
  jvm_step X₁.here [X₁.here.top, hexec, d3', Value.category]
  exact X₁.ldcStringW hexec (own := own) (text := text) (index := is) (a := sa) hown' hstr'.1 hstr'.2
    (g := { method := m, pc := pc + 4, locals := ls, stack := .ref T.heap.size :: .ref T.heap.size :: rest, locked := none }) rfl d4' _ hsteps
end Ends
section Bodies
variable {l : Launch}
theorem vx_ofW {y : MethodName} {ws ws' : List Cond} {rm : Room} {Pc : Array Value → State → Prop} {Qc : Array Value → State → Outcome → State → Prop} {XC : String → State → State → Prop} {mc ms : Nat} {free : Addr → Prop} {cc : ByteArray} {maxL : Nat} {ret : Option FieldType}
    (hy : plainName y.cls = true) (hw : ws = Cond.code y cc maxL ret :: ws')
    (body : ∀ p e s m args below meth c s₁, BodyLoose p l y (headSpec ws rm) cc maxL ret e s m args below meth c s₁ → c.maxLocals = maxL → (∀ x ∈ c.exceptionTable.toList, False) → Pc args s →
      W p l e (headSpec ws rm).room s m args below meth c s.heap [] 0 0 (vx_MQ below Qc XC args s mc ms free) (entryFrame m args maxL)) : vx_Met l y ws rm Pc Qc XC mc ms free := by
  refine MetFree.of_bodyS (code := cc) (maxLocals := maxL) (ret := ret) hy ?_ ?_
  · intro args s m h hn
    obtain ⟨meth, c, h1, h2, h3, h4, h5, h6, -, -⟩ := Cond.code_spec hn (atoms_spec (ws := ws) h _ (by rw [hw]; exact List.mem_cons_self))
    exact ⟨meth, c, h1, h2, h3, h4, h5, h6⟩
  · intro p e s m args below meth c s₁ B hml hP _
    have hh0 : s₁.heap = s.heap := by rw [B.state]; rfl
    have ht : ∀ x ∈ c.exceptionTable.toList, False := by
      obtain ⟨meth9, c9, h1, h2, -, -, -, -, h7, -⟩ := Cond.code_spec B.named (atoms_spec (ws := ws) B.pre _ (by rw [hw]; exact List.mem_cons_self))
      cases Option.some.inj (h1.symm.trans B.method)
      cases Option.some.inj (h2.symm.trans (Stand.of_body B).code)
      intro x hx
      rw [Array.isEmpty_iff.mp h7] at hx
      cases hx
    obtain ⟨t, a1, o, b1, b2, b3⟩ := body p e s m args below meth c s₁ B hml ht hP s₁ hh0 (Stand.of_body B)
    exact ⟨t, o, a1, b1, b2, b3⟩
/-- the table of a body with handlers -/
theorem vx_table {p : Program} {x y : MethodName} {S : Spec} {cc bytes : ByteArray} {maxL maxL' : Nat} {ret ret' : Option FieldType} {e : Env} {s s₁ : State} {m : MethodId} {args : Array Value} {below : List Frame} {meth : Method} {c : Code} {hh : List (Nat × Nat × Nat × Nat)}
    (B : BodyLoose p l y S cc maxL ret e s m args below meth c s₁) (h : (Cond.codeWith y bytes maxL' ret' hh).before args s = true) : c.exceptionTable.toList = tableOf hh := by
  obtain ⟨m9, meth9, c9, hn9, h1, h2, -, -, h6, -⟩ := Cond.codeWith_spec h
  cases Option.some.inj (hn9.symm.trans B.named)
  cases Option.some.inj (h1.symm.trans B.method)
  cases Option.some.inj (h2.symm.trans (Stand.of_body B).code)
  rw [← h6, table_eq]
end Bodies
end VXA
/-! ===== END ===== -/
/-! ===== BEGIN a static call of a method with an exception table ===== -/
section VXS
variable {p : Program} {l : Launch} {e : Env} {R : Room} {s : State} {m : MethodId} {args : Array Value} {below : List Frame} {meth : Method} {c : Code} {T : State} {H : Heap} {locs : List Loc} {cells slots : Nat}
abbrev vx_CSW (R : Room) (s : State) (args : Array Value) (own : String) (index : Nat) (y : MethodName) (bytes : ByteArray) (maxL : Nat) (ret : Option FieldType) (hh : List (Nat × Nat × Nat × Nat)) (ws : List Cond) (rm : Room) (mc ms n : Nat) : Prop :=
  (rm.cells = mc ∧ rm.slots = ms ∧ rm.frames + 1 ≤ R.frames ∧ 8 + (maxL + 11) + rm.locals ≤ R.locals ∧ (∀ w ∈ ws, ∀ (a' : Array Value) (U : State), s.WarmedH U.vm → w.before a' U = true) ∧ Cond.codeWith y bytes maxL ret hh ∈ ws) ∧
  (Cond.codeWith y bytes maxL ret hh).before args s = true ∧ (Cond.initialized y.cls).before args s = true ∧ (y.cls ≠ "java/lang/invoke/MethodHandle" ∧ y.cls ≠ "java/lang/invoke/VarHandle") ∧
  (∀ sig, parseMethodDescriptor y.desc = some sig → n = sig.parameters.length) ∧ (Cond.methodLink own index y).before args s = true ∧ (Cond.static y).before args s = true
theorem vx_cwSW {own : String} {index maxL mc ms : Nat} {y : MethodName} {bytes : ByteArray} {ret : Option FieldType} {hh : List (Nat × Nat × Nat × Nat)} {Ts ws ws' : List Cond} {rm : Room} (n : Nat) (ht : ∀ w ∈ Ts, w.before args s = true) (hT : GoodIn Ts (va_wsS own index y ws)) (hw : ws = Cond.codeWith y bytes maxL ret hh :: ws') (hrc : rm.cells = mc) (hrs : rm.slots = ms)
    (hd : y.cls ≠ "java/lang/invoke/MethodHandle" ∧ y.cls ≠ "java/lang/invoke/VarHandle" ∧ (parseMethodDescriptor y.desc).map (fun d => d.parameters.length) = some n) (hR : rm.frames + 1 ≤ R.frames ∧ 8 + (maxL + 11) + rm.locals ≤ R.locals) :
    vx_CSW R s args own index y bytes maxL ret hh ws rm mc ms n := by
  have ok : ∀ w ∈ va_wsS own index y ws, w.before args s = true := fun w h => ht w (hT w h).1
  have hG : GoodIn Ts ws := fun w h => hT w (by unfold va_wsS; exact List.mem_append_right _ h)
  have hc : Cond.codeWith y bytes maxL ret hh ∈ ws := by rw [hw]; exact List.mem_cons_self
  refine ⟨⟨hrc, hrs, hR.1, hR.2, pay_in ht hG, hc⟩, ht _ (hG _ hc).1, ok _ (by simp [va_wsS]), ⟨hd.1, hd.2.1⟩, fun sig h => ?_, ok _ (by simp [va_wsS]), ok _ (by simp [va_wsS])⟩
  have h2 := hd.2.2
  rw [h] at h2
  exact (Option.some.inj h2).symm
theorem vx_callSW (X : Stand p l e R s m args below meth c T locs cells slots) (hexec : p.tables.exec = Jvm.exec) {own : String} {index : Nat} {y : MethodName} {bytes : ByteArray} {maxL : Nat} {ret : Option FieldType} {hh : List (Nat × Nat × Nat × Nat)}
    (hown : s.vm.findClass own = some m.cls) (hlink : (Cond.methodLink own index y).before args s = true) (hstat : (Cond.static y).before args s = true) (hinit : (Cond.initialized y.cls).before args s = true)
    (hcode : (Cond.codeWith y bytes maxL ret hh).before args s = true) (hy : y.cls ≠ "java/lang/invoke/MethodHandle" ∧ y.cls ≠ "java/lang/invoke/VarHandle")
    {W9 : Nat} {Pre : Pt → Array Value → Prop} {Post : Pt → Array Value → Option Value → Pt → Prop} (hK : Back l R p e below s args y 3 W9 Pre Post)
    {g : JFrame} (hg : g.method = m) (hsize : g.locals.size = c.maxLocals) {argsL rest : List Value} (hlen : ∀ sig, parseMethodDescriptor y.desc = some sig → argsL.length = sig.parameters.length)
    (hstack : g.stack = argsL.reverse ++ rest) (hW : 2 * g.monitorRoom + (rest.map fun v => v.category).sum ≤ W9) (hdg : decode c.code g.pc = .ok (.invokestatic index, 3))
    (hpre : ∀ vm₁, s.WarmedH vm₁ → Pre ⟨T.setVm vm₁, locs, cells, slots⟩ argsL.toArray) :
    ∃ (v : Option Value) (vm₁ : Vm) (B : Pt), s.WarmedH vm₁ ∧ Stand p l e R s m args below meth c B.U B.locs B.cells B.slots ∧ Post ⟨T.setVm vm₁, locs, cells, slots⟩ argsL.toArray v B ∧
      ∀ target, Steps p.tables e below (B.U.setTop { g with pc := g.pc + 3, stack := v.toList ++ rest }) target → Steps p.tables e below (T.setTop g) target := by
  obtain ⟨mk, methM, cM, hnamed, hmethM, -, -, -, -, -, -, hsigM⟩ := Cond.codeWith_spec hcode
  have hstatic : methM.isStatic = true := Cond.static_spec hnamed hmethM hstat
  obtain ⟨kP, hkP, -⟩ := className_of_methodNamed hnamed
  have hinitP : kP.init = .initialized := Cond.initialized_spec (findClass_of_methodNamed hnamed) hkP hinit
  obtain ⟨vm₁, X₁, hstep₁⟩ := X.invokestatic hexec hown hlink hnamed hmethM hstatic hkP hinitP hy (g := g) hg (argsL := argsL) (rest := rest) (hlen _ hsigM) hstack hdg
  obtain ⟨v, B, X', hpost, hsteps⟩ := hK m meth c ⟨T.setVm vm₁, locs, cells, slots⟩ { g with stack := rest } (.invokestatic index) mk argsL.toArray X₁ hg hsize hdg hW (X₁.named hnamed) (hpre vm₁ X₁.warmed)
  exact ⟨v, vm₁, B, X₁.warmed, X', hpost, fun target h => hstep₁ _ fun acts => by rw [doInvoke_state]; exact hsteps.trans h⟩
theorem vx_runSW {y : MethodName} {bytes cc : ByteArray} {maxL nL mc ms n index : Nat} {ret : Option FieldType} {hh : List (Nat × Nat × Nat × Nat)} {ws : List Cond} {rm : Room} {Pc : Array Value → State → Prop} {Qc : Array Value → State → Outcome → State → Prop} {free : Addr → Prop} {Ts : List Cond} {own : String} {As rest : List Value} {g : JFrame}
    (S : CallFix p m c cc nL s args Ts own) (hM : Met l y ws rm Pc Qc mc ms free) (cw : vx_CSW R s args own index y bytes maxL ret hh ws rm mc ms n) (hp : PreS s H Pc As)
    (hg : g.method = m) (hn : As.length = n) (hsize : g.locals.size = nL) (hstack : g.stack = As.reverse ++ rest) (hW : 2 * g.monitorRoom + (rest.map fun v => v.category).sum ≤ 8) (hdg : decode cc g.pc = .ok (.invokestatic index, 3)) (hf : cells + mc ≤ R.cells ∧ slots + ms ≤ R.slots) :
    va_Run p l e R s m args below meth c H locs cells slots mc ms g rest (Qc As.toArray) (free) := by
  obtain ⟨⟨hrc, hrs, hfr, hlo, hws, hcw⟩, hcode, hini, hy, hlen, hl, hstt⟩ := cw
  have hK : Back l R p e below s args y 3 8 (PreOf R mc ms Pc) (PostOf Qc mc ms free) := va_backW (hh := hh) (bytes := bytes) (maxL := maxL) (ret := ret) hM hp.1 hrc hrs hfr hlo hws hcw (fun a' U hW => word_at hW (Or.inl (by first | rfl | simp [Cond.onTables, Cond.keeps, Cond.steady])) hini)
  obtain ⟨hx, hb, hml, ho, -⟩ := S
  intro T hT X
  obtain ⟨v, vm₁, ⟨U', l2, c2, s2⟩, hW₁, X', ⟨g', mk, t, L, e1, e2, hq, h1, hL, h2, h3⟩, st⟩ := vx_callSW X hx (hh := hh) (bytes := bytes) (maxL := maxL) (ret := ret) ho hl hstt hini hcode hy hK hg (hsize.trans hml.symm) (argsL := As) (rest := rest) (fun sig h => hn.trans (hlen sig h)) hstack hW (by rw [hb]; exact hdg)
    (fun vm₁ hW₁ => ⟨hf.1, hf.2, hp.2 (T.setVm vm₁) hT hW₁⟩)
  dsimp only [Pt.U, Pt.locs, Pt.cells, Pt.slots] at X' e1 e2 h1 h2 h3 st
  subst h1; subst h2; subst h3
  exact ⟨v, (T.setVm vm₁).calling g' mk As.toArray, t, U', L, hT, X', hL, e1, e2, hq, st⟩
/-- not caught here, past rows that name other classes: it goes on to the caller -/
theorem vx_outP {p : Program} {l : Launch} {e : Env} {R : Room} {s : State} {m : MethodId} {args : Array Value} {below : List Frame} {meth : Method} {c : Code} {H : Heap} {locs : List Loc} {cells slots : Nat} {free : Addr → Prop} {ls : Array Slot} {rest : List Value} {Qc : Array Value → State → Outcome → State → Prop} {XC : String → State → State → Prop}
    {pc : Nat} {own E : String} {ce : Cell} {q : Addr} {mc ms : Nat} (hown : s.vm.findClass own = some m.cls) (hlocks : meth.locks = false)
    (hpass : ∀ z ∈ c.exceptionTable.toList, covers z pc = false ∨ (z.catchType ≠ 0 ∧ ∃ nm : String, (Cond.classLink own z.catchType nm).before args s = true ∧ va_Nc E nm s)) (hcell : H[q]? = some ce) (hv : ce.vm = .none) (hcl : s.vm.findClass E = some ce.cls)
    (hx : ∀ t : State, t.heap = H → s.vm.Alike t.vm → XC E s t) (hf : ∀ z ∈ locs, free z.base) (hc : cells ≤ mc) (hs : slots ≤ ms) :
    vx_W p l e R s m args below meth c H locs cells slots (vx_MQ below Qc XC args s mc ms free) (F0 m pc ls rest) q := by
  intro T hT X
  have hpl : e.platform.magicAccessors = ({} : Platform).magicAccessors := by rw [X.admits.platform]
  obtain ⟨vm', hW', X', st⟩ := X.outThrough hlocks q (g := F0 m pc ls rest) rfl rfl rfl (cell := ce) (by rw [hT]; exact hcell) (by rw [hv]; rfl)
    (by obtain ⟨k9, h9, -⟩ := Vm.findClass_spec hcl; exact ⟨k9, h9⟩) (fun z hz => by
      rcases hpass z hz with h | ⟨hz0, nm, hl1, hn1⟩
      · exact Or.inl h
      · obtain ⟨c6, hc6, hcl6⟩ := Cond.classLink_spec hown hl1 e.platform hpl
        obtain ⟨a8, b8, h1, h2, h3⟩ := hn1
        cases Option.some.inj (h1.symm.trans hcl)
        cases Option.some.inj (h2.symm.trans hc6)
        exact Or.inr ⟨hz0, _, hcl6, h3⟩)
  obtain ⟨g₀, hfr⟩ := X'.frames_eq
  have hcell9 : ((T.setVm vm').setFrames (.throwing q :: below)).heap[q]? = some ce := by
    show T.heap[q]? = some ce
    rw [hT]; exact hcell
  have hend : Ended ((T.setVm vm').setFrames (.throwing q :: below)) below (.threw q) := State.frames_setFrames _ (State.cur_lt_of_frames hfr)
  refine ⟨(T.setVm vm').setFrames (.throwing q :: below), ?_, .threw q, X'.here.running, hend, Or.inr ⟨q, rfl, E, ce, locs, hx _ hT (X'.ends _).1.alike, hcell9, hv, hcl, (X'.ends _).1, (X'.ends _).2.mono hc hs, hf⟩⟩
  rw [X.pushThrowing_eq]
  exact st
/-- a thing of a world lies in the heap -/
theorem vx_lt {D : va_G} {cl : List vw_C} {ws : va_W} {H1 : Heap} (h : va_P D cl ws H1) {k : Nat} {q : Nat × va_E} (hk : ws[k]? = some q) : q.1 < H1.size := (h k q hk).lt
end VXS
/-! ===== END ===== -/
/-! ===== BEGIN methods with a table of their own: called by a name, returning or throwing ===== -/
section VXH
/-! vx_backW, vx_callVX, vx_callSX, vx_callVW, vx_runVW, vx_runVX, vx_runSX, vx_ofWH follow the same proofs as their sisters above (Free/Laws.lean, Shelf42/LK1.lean); vx_outP calls Shelf42/NT130.lean (outThrough). -/
section
variable {l : Launch} {R : Room} {p : Program} {e : Env} {below : List Frame} {s : State} {sargs : Array Value} {y : MethodName} {len W9 : Nat}
theorem vx_backW {ws : List Cond} {rm : Room} {Pc : Array Value → State → Prop} {Qc : Array Value → State → Outcome → State → Prop} {XC : String → State → State → Prop} {mc ms : Nat} {free : Addr → Prop} {bytes : ByteArray} {maxL : Nat} {ret : Option FieldType} {hh : List (Nat × Nat × Nat × Nat)}
    (hM : vx_Met l y ws rm Pc Qc XC mc ms free) (hblind : FrameBlind Pc) (hrc : rm.cells = mc) (hrs : rm.slots = ms)
    (hframes : rm.frames + 1 ≤ R.frames) (hlocals : W9 + (maxL + 11) + rm.locals ≤ R.locals)
    (hws : ∀ w ∈ ws, ∀ a' U, s.WarmedH U.vm → w.before a' U = true) (hcode : Cond.codeWith y bytes maxL ret hh ∈ ws) (hinit : ∀ a' U, s.WarmedH U.vm → (Cond.initialized y.cls).before a' U = true) :
    vx_Back l R p e below s sargs y len W9 (PreOf R mc ms Pc) (PostOf Qc mc ms free) (vx_Post XC mc ms free) := by
  intro m meth c A g ig mk a X hg hsize hdg hW hn hp
  have h1 : (headSpec ws rm).pre.before a A.U = true := atoms_intro fun w hw => hws w hw _ _ X.warmed
  have h2 : (Cond.codeWith y bytes maxL ret hh).before a A.U = true := hws _ hcode _ _ X.warmed
  have h3 : (Cond.initialized y.cls).before a A.U = true := hinit _ _ X.warmed
  have h4 : A.cells + (headSpec ws rm).room.cells ≤ R.cells := by rw [show (headSpec ws rm).room.cells = mc from hrc]; exact hp.1
  have h5 : A.slots + (headSpec ws rm).room.slots ≤ R.slots := by rw [show (headSpec ws rm).room.slots = ms from hrs]; exact hp.2.1
  have hPc : Pc a (A.U.calling g mk a) := hblind _ _ _ _ hp.2.2
  obtain ⟨U, Ls, c0, s0⟩ := A
  dsimp only [Pt.U, Pt.locs, Pt.cells, Pt.slots] at h1 h2 h3 h4 h5 X hn hPc ⊢
  obtain ⟨m9, methY, cY, hn9, hmY, hcY, -, hlY, -⟩ := Cond.codeWith_spec h2
  cases Option.some.inj (hn9.symm.trans hn)
  obtain ⟨kY, hkY, -⟩ := className_of_methodNamed hn
  have hinitY : kY.init = .initialized := Cond.initialized_spec (findClass_of_methodNamed hn) hkY h3
  have h : At U g.method c below := by rw [hg]; exact X.here
  have hlocals9 : W9 + (maxL + 11) + (headSpec ws rm).room.locals ≤ R.locals := hlocals
  have happ : (headSpec ws rm).appliesLoose y e.platform (U.calling g mk a) = true :=
    Spec.appliesLoose_calling (g := g) h hdg hn hkY hinitY
      (X.room_calling (g := g) (R' := (headSpec ws rm).room) hsize hmY hcY hframes (by rw [hlY]; omega) h4 h5) h1
  obtain ⟨mid, hmid⟩ := h.above
  have hfr : (U.setTop g).frames = (.java g :: mid) ++ below := by rw [State.frames_setTop' g h.top, hmid]; rfl
  obtain ⟨o, s₂, hsteps, -, hend, hq⟩ := Steps.callFree hM p X.admits X.cas X.clock (acts := []) hfr happ hPc trivial
  have hq' : vx_Q Qc XC mc ms free a (U.calling g mk a) o s₂ := hq
  rw [State.frames_setTop' g h.top] at hend
  obtain ⟨g₀, hg0⟩ := Option.isSome_iff_exists.mp h.top
  obtain ⟨r, hr⟩ := State.topJava?_eq_some.mp hg0
  have hr' : (({ U with heap := s₂.heap, slotsUsed := s₂.slotsUsed } : State).setVm s₂.vm).frames = .java g₀ :: r := hr
  rcases hq' with ⟨hqc, L, hfe, hL⟩ | ⟨q, rfl, E, ce, L, hx, hce, hcv, hcl, hW₂, hsm, hL⟩
  · obtain ⟨⟨v, rfl⟩, hW₂, e2, q2, q3, q4, q5, q6⟩ := id hfe
    have e3 : s₂ = ({ (U.calling g mk a).setFrames s₂.frames with heap := s₂.heap, slotsUsed := s₂.slotsUsed } : State).setVm s₂.vm := by
      have : s₂ = ({ s₂ with vm := (U.calling g mk a).vm } : State).setVm s₂.vm := rfl
      rw [e2] at this
      exact this
    obtain ⟨c₂, i₂, len₂, hc₂, hd₂, hf₂⟩ := hend
    have hW' : U.WarmedH s₂.vm := hW₂
    have hcc : c₂ = c := by
      have h1 : s₂.code? g.method = U.code? g.method := by
        rw [State.code?_eq, State.code?_eq, hW'.alike.method?]
      exact Option.some.inj (hc₂.symm.trans (h1.trans h.code))
    subst hcc
    have hlen : len₂ = len := by rw [hdg] at hd₂; cases hd₂; rfl
    subst hlen
    have hs₂ : s₂ = (({ U with heap := s₂.heap, slotsUsed := s₂.slotsUsed } : State).setVm s₂.vm).setTop { g with pc := g.pc + len₂, stack := v.toList ++ g.stack } := by
      refine e3.trans ?_
      rw [hf₂, State.calling_eq h.top, State.setFrames_setFrames, State.setTop_of_frames _ hr', hr]
      rfl
    have hsame : U.sameButNew ({ U with heap := s₂.heap, slotsUsed := s₂.slotsUsed } : State) L mc ms := by
      refine ⟨?_, q2, q3, q4, q5, q6⟩
      obtain ⟨t, ht, -⟩ := State.frames_cons hr
      show ({ U with heap := s₂.heap, slotsUsed := s₂.slotsUsed } : State) = { U.setFrames U.frames with heap := s₂.heap, slotsUsed := s₂.slotsUsed }
      rw [State.setFrames_self ht]
    subst hg
    refine Or.inl ⟨v, ⟨(({ U with heap := s₂.heap, slotsUsed := s₂.slotsUsed } : State).setVm s₂.vm), Ls ++ L, c0 + mc, s0 + ms⟩,
      ⟨X.admits, X.cas, X.clock, X.frames, X.room, X.hears, X.method, X.code, (X.here.setHeapUsed s₂.heap s₂.slotsUsed).setVm hW'.alike, X.tail, State.WarmedH.trans X.warmed hW', X.limits, X.bytes, X.same.trans (hsame.setVm s.vm)⟩,
      ⟨g, mk, s₂, L, rfl, rfl, hqc, rfl, hL, rfl, rfl⟩, ?_⟩
    show Steps p.tables e below _ ((({ U with heap := s₂.heap, slotsUsed := s₂.slotsUsed } : State).setVm s₂.vm).setTop { g with pc := g.pc + len₂, stack := v.toList ++ g.stack })
    rw [← hs₂]
    exact hsteps
  · obtain ⟨e2, q2, q3, q4, q5, q6⟩ := id hsm
    have e3 : s₂ = ({ (U.calling g mk a).setFrames s₂.frames with heap := s₂.heap, slotsUsed := s₂.slotsUsed } : State).setVm s₂.vm := by
      have : s₂ = ({ s₂ with vm := (U.calling g mk a).vm } : State).setVm s₂.vm := rfl
      rw [e2] at this
      exact this
    have hf₂ : s₂.frames = .throwing q :: .java g :: U.frames.tail := hend
    have hW' : U.WarmedH s₂.vm := hW₂
    have hs₂ : s₂ = ((({ U with heap := s₂.heap, slotsUsed := s₂.slotsUsed } : State).setVm s₂.vm).setTop g).pushFrame (.throwing q) := by
      refine e3.trans ?_
      rw [hf₂, State.calling_eq h.top, State.setFrames_setFrames, State.pushFrame, State.frames_setTop _ hr', State.setTop_of_frames _ hr', State.setFrames_setFrames, hr]
      rfl
    have hsame : U.sameButNew ({ U with heap := s₂.heap, slotsUsed := s₂.slotsUsed } : State) L mc ms := by
      refine ⟨?_, q2, q3, q4, q5, q6⟩
      obtain ⟨t, ht, -⟩ := State.frames_cons hr
      show ({ U with heap := s₂.heap, slotsUsed := s₂.slotsUsed } : State) = { U.setFrames U.frames with heap := s₂.heap, slotsUsed := s₂.slotsUsed }
      rw [State.setFrames_self ht]
    subst hg
    refine Or.inr ⟨q, ⟨(({ U with heap := s₂.heap, slotsUsed := s₂.slotsUsed } : State).setVm s₂.vm), Ls ++ L, c0 + mc, s0 + ms⟩,
      ⟨X.admits, X.cas, X.clock, X.frames, X.room, X.hears, X.method, X.code, (X.here.setHeapUsed s₂.heap s₂.slotsUsed).setVm hW'.alike, X.tail, State.WarmedH.trans X.warmed hW', X.limits, X.bytes, X.same.trans (hsame.setVm s.vm)⟩,
      ⟨g, mk, s₂, L, E, ce, rfl, rfl, hx, hce, hcv, hcl, rfl, hL, rfl, rfl⟩, ?_⟩
    show Steps p.tables e below _ (((({ U with heap := s₂.heap, slotsUsed := s₂.slotsUsed } : State).setVm s₂.vm).setTop g).pushFrame (.throwing q))
    rw [← hs₂]
    exact hsteps
end
variable {p : Program} {l : Launch} {e : Env} {R : Room} {s : State} {m : MethodId} {args : Array Value} {below : List Frame} {meth : Method} {c : Code} {T : State} {H : Heap} {locs : List Loc} {cells slots : Nat}
theorem vx_callVX (X : Stand p l e R s m args below meth c T locs cells slots) (hexec : p.tables.exec = Jvm.exec) {own C : String} {index : Nat} {y : MethodName} {bytes : ByteArray} {maxL : Nat} {ret : Option FieldType} {hh : List (Nat × Nat × Nat × Nat)}
    (hown : s.vm.findClass own = some m.cls) (hlink : (Cond.methodLink own index y).before args s = true) (hinst : (Cond.instanceMethod y).before args s = true) (hsel : (Cond.selects C y y).before args s = true)
    (hcode : (Cond.codeWith y bytes maxL ret hh).before args s = true) (hy : y.cls ≠ "java/lang/invoke/MethodHandle" ∧ y.cls ≠ "java/lang/invoke/VarHandle")
    {W9 : Nat} {Pre : Pt → Array Value → Prop} {Post : Pt → Array Value → Option Value → Pt → Prop} {PostX : Pt → Array Value → Addr → Pt → Prop} (hK : vx_Back l R p e below s args y 3 W9 Pre Post PostX)
    {b : Addr} {cellB : Cell} (hcell : T.heap[b]? = some cellB) (hobj : cellB.vm.isStatics = false) (hcls : s.vm.findClass C = some cellB.cls)
    {g : JFrame} (hg : g.method = m) (hsize : g.locals.size = c.maxLocals) {argsL rest : List Value} (hlen : ∀ sig, parseMethodDescriptor y.desc = some sig → argsL.length = sig.parameters.length)
    (hstack : g.stack = argsL.reverse ++ .ref b :: rest) (hW : 2 * g.monitorRoom + (rest.map fun v => v.category).sum ≤ W9) (hdg : decode c.code g.pc = .ok (.invokevirtual index, 3))
    (hpre : ∀ vm₁, s.WarmedH vm₁ → Pre ⟨T.setVm vm₁, locs, cells, slots⟩ (Value.ref b :: argsL).toArray) :
    (∃ (v : Option Value) (vm₁ : Vm) (B : Pt), s.WarmedH vm₁ ∧ Stand p l e R s m args below meth c B.U B.locs B.cells B.slots ∧ Post ⟨T.setVm vm₁, locs, cells, slots⟩ (Value.ref b :: argsL).toArray v B ∧
      ∀ target, Steps p.tables e below (B.U.setTop { g with pc := g.pc + 3, stack := v.toList ++ rest }) target → Steps p.tables e below (T.setTop g) target) ∨
    (∃ (q : Addr) (vm₁ : Vm) (B : Pt), s.WarmedH vm₁ ∧ Stand p l e R s m args below meth c B.U B.locs B.cells B.slots ∧ PostX ⟨T.setVm vm₁, locs, cells, slots⟩ (Value.ref b :: argsL).toArray q B ∧
      Steps p.tables e below (T.setTop g) ((B.U.setTop { g with stack := rest }).pushFrame (.throwing q))) := by
  obtain ⟨mk, methM, hnamed, hmethM, hstM, habM⟩ := Cond.instanceMethod_spec hinst
  obtain ⟨m8, methM', cM, hn8, hmethM', -, -, -, -, -, -, hsigM⟩ := Cond.codeWith_spec hcode
  cases Option.some.inj (hn8.symm.trans hnamed)
  cases hmethM.symm.trans hmethM'
  obtain ⟨c2, r2, m2, q1, q2, q3, q4, kP, hkP, hkPi⟩ := Cond.selects_spec hsel
  cases hcls.symm.trans q1
  cases (State.methodFound?_of_named hnamed hy).symm.trans q2
  cases hnamed.symm.trans q3
  have hselP : selectMethod e.platform s.vm cellB.cls mk = .method mk := by rw [Launch.admits_selectMethod X.admits]; exact q4
  obtain ⟨vm₁, X₁, hstep₁⟩ := X.invokevirtual hexec hown hlink hnamed hmethM hstM hkP hkPi hy (a := b) (cell := cellB) hcell
    (fun z h => by rw [h] at hobj; cases hobj) hselP hmethM habM hkP hkPi (g := g) hg (argsL := argsL) (rest := rest) (hlen _ hsigM) hstack hdg
  rcases hK m meth c ⟨T.setVm vm₁, locs, cells, slots⟩ { g with stack := rest } (.invokevirtual index) mk (Value.ref b :: argsL).toArray X₁ hg hsize hdg hW (X₁.named hnamed) (hpre vm₁ X₁.warmed) with ⟨v, B, X', hpost, hsteps⟩ | ⟨q, B, X', hpost, hsteps⟩
  · exact Or.inl ⟨v, vm₁, B, X₁.warmed, X', hpost, fun target h => hstep₁ _ fun acts => by rw [doInvoke_state]; exact hsteps.trans h⟩
  · exact Or.inr ⟨q, vm₁, B, X₁.warmed, X', hpost, hstep₁ _ fun acts => by rw [doInvoke_state]; exact hsteps⟩
theorem vx_callSX (X : Stand p l e R s m args below meth c T locs cells slots) (hexec : p.tables.exec = Jvm.exec) {own : String} {index : Nat} {y : MethodName} {bytes : ByteArray} {maxL : Nat} {ret : Option FieldType} {hh : List (Nat × Nat × Nat × Nat)}
    (hown : s.vm.findClass own = some m.cls) (hlink : (Cond.methodLink own index y).before args s = true) (hstat : (Cond.static y).before args s = true) (hinit : (Cond.initialized y.cls).before args s = true)
    (hcode : (Cond.codeWith y bytes maxL ret hh).before args s = true) (hy : y.cls ≠ "java/lang/invoke/MethodHandle" ∧ y.cls ≠ "java/lang/invoke/VarHandle")
    {W9 : Nat} {Pre : Pt → Array Value → Prop} {Post : Pt → Array Value → Option Value → Pt → Prop} {PostX : Pt → Array Value → Addr → Pt → Prop} (hK : vx_Back l R p e below s args y 3 W9 Pre Post PostX)
    {g : JFrame} (hg : g.method = m) (hsize : g.locals.size = c.maxLocals) {argsL rest : List Value} (hlen : ∀ sig, parseMethodDescriptor y.desc = some sig → argsL.length = sig.parameters.length)
    (hstack : g.stack = argsL.reverse ++ rest) (hW : 2 * g.monitorRoom + (rest.map fun v => v.category).sum ≤ W9) (hdg : decode c.code g.pc = .ok (.invokestatic index, 3))
    (hpre : ∀ vm₁, s.WarmedH vm₁ → Pre ⟨T.setVm vm₁, locs, cells, slots⟩ argsL.toArray) :
    (∃ (v : Option Value) (vm₁ : Vm) (B : Pt), s.WarmedH vm₁ ∧ Stand p l e R s m args below meth c B.U B.locs B.cells B.slots ∧ Post ⟨T.setVm vm₁, locs, cells, slots⟩ argsL.toArray v B ∧
      ∀ target, Steps p.tables e below (B.U.setTop { g with pc := g.pc + 3, stack := v.toList ++ rest }) target → Steps p.tables e below (T.setTop g) target) ∨
    (∃ (q : Addr) (vm₁ : Vm) (B : Pt), s.WarmedH vm₁ ∧ Stand p l e R s m args below meth c B.U B.locs B.cells B.slots ∧ PostX ⟨T.setVm vm₁, locs, cells, slots⟩ argsL.toArray q B ∧
      Steps p.tables e below (T.setTop g) ((B.U.setTop { g with stack := rest }).pushFrame (.throwing q))) := by
  obtain ⟨mk, methM, cM, hnamed, hmethM, -, -, -, -, -, -, hsigM⟩ := Cond.codeWith_spec hcode
  have hstatic : methM.isStatic = true := Cond.static_spec hnamed hmethM hstat
  obtain ⟨kP, hkP, -⟩ := className_of_methodNamed hnamed
  have hinitP : kP.init = .initialized := Cond.initialized_spec (findClass_of_methodNamed hnamed) hkP hinit
  obtain ⟨vm₁, X₁, hstep₁⟩ := X.invokestatic hexec hown hlink hnamed hmethM hstatic hkP hinitP hy (g := g) hg (argsL := argsL) (rest := rest) (hlen _ hsigM) hstack hdg
  rcases hK m meth c ⟨T.setVm vm₁, locs, cells, slots⟩ { g with stack := rest } (.invokestatic index) mk argsL.toArray X₁ hg hsize hdg hW (X₁.named hnamed) (hpre vm₁ X₁.warmed) with ⟨v, B, X', hpost, hsteps⟩ | ⟨q, B, X', hpost, hsteps⟩
  · exact Or.inl ⟨v, vm₁, B, X₁.warmed, X', hpost, fun target h => hstep₁ _ fun acts => by rw [doInvoke_state]; exact hsteps.trans h⟩
  · exact Or.inr ⟨q, vm₁, B, X₁.warmed, X', hpost, hstep₁ _ fun acts => by rw [doInvoke_state]; exact hsteps⟩
theorem vx_callVW (X : Stand p l e R s m args below meth c T locs cells slots) (hexec : p.tables.exec = Jvm.exec) {own C : String} {index : Nat} {y : MethodName} {bytes : ByteArray} {maxL : Nat} {ret : Option FieldType} {hh : List (Nat × Nat × Nat × Nat)}
    (hown : s.vm.findClass own = some m.cls) (hlink : (Cond.methodLink own index y).before args s = true) (hinst : (Cond.instanceMethod y).before args s = true) (hsel : (Cond.selects C y y).before args s = true)
    (hcode : (Cond.codeWith y bytes maxL ret hh).before args s = true) (hy : y.cls ≠ "java/lang/invoke/MethodHandle" ∧ y.cls ≠ "java/lang/invoke/VarHandle")
    {W9 : Nat} {Pre : Pt → Array Value → Prop} {Post : Pt → Array Value → Option Value → Pt → Prop} (hK : Back l R p e below s args y 3 W9 Pre Post)
    {b : Addr} {cellB : Cell} (hcell : T.heap[b]? = some cellB) (hobj : cellB.vm.isStatics = false) (hcls : s.vm.findClass C = some cellB.cls)
    {g : JFrame} (hg : g.method = m) (hsize : g.locals.size = c.maxLocals) {argsL rest : List Value} (hlen : ∀ sig, parseMethodDescriptor y.desc = some sig → argsL.length = sig.parameters.length)
    (hstack : g.stack = argsL.reverse ++ .ref b :: rest) (hW : 2 * g.monitorRoom + (rest.map fun v => v.category).sum ≤ W9) (hdg : decode c.code g.pc = .ok (.invokevirtual index, 3))
    (hpre : ∀ vm₁, s.WarmedH vm₁ → Pre ⟨T.setVm vm₁, locs, cells, slots⟩ (Value.ref b :: argsL).toArray) :
    ∃ (v : Option Value) (vm₁ : Vm) (B : Pt), s.WarmedH vm₁ ∧ Stand p l e R s m args below meth c B.U B.locs B.cells B.slots ∧ Post ⟨T.setVm vm₁, locs, cells, slots⟩ (Value.ref b :: argsL).toArray v B ∧
      ∀ target, Steps p.tables e below (B.U.setTop { g with pc := g.pc + 3, stack := v.toList ++ rest }) target → Steps p.tables e below (T.setTop g) target := by
  obtain ⟨mk, methM, hnamed, hmethM, hstM, habM⟩ := Cond.instanceMethod_spec hinst
  obtain ⟨m8, methM', cM, hn8, hmethM', -, -, -, -, -, -, hsigM⟩ := Cond.codeWith_spec hcode
  cases Option.some.inj (hn8.symm.trans hnamed)
  cases hmethM.symm.trans hmethM'
  obtain ⟨c2, r2, m2, q1, q2, q3, q4, kP, hkP, hkPi⟩ := Cond.selects_spec hsel
  cases hcls.symm.trans q1
  cases (State.methodFound?_of_named hnamed hy).symm.trans q2
  cases hnamed.symm.trans q3
  have hselP : selectMethod e.platform s.vm cellB.cls mk = .method mk := by rw [Launch.admits_selectMethod X.admits]; exact q4
  obtain ⟨vm₁, X₁, hstep₁⟩ := X.invokevirtual hexec hown hlink hnamed hmethM hstM hkP hkPi hy (a := b) (cell := cellB) hcell
    (fun z h => by rw [h] at hobj; cases hobj) hselP hmethM habM hkP hkPi (g := g) hg (argsL := argsL) (rest := rest) (hlen _ hsigM) hstack hdg
  obtain ⟨v, B, X', hpost, hsteps⟩ := hK m meth c ⟨T.setVm vm₁, locs, cells, slots⟩ { g with stack := rest } (.invokevirtual index) mk (Value.ref b :: argsL).toArray X₁ hg hsize hdg hW (X₁.named hnamed) (hpre vm₁ X₁.warmed)
  exact ⟨v, vm₁, B, X₁.warmed, X', hpost, fun target h => hstep₁ _ fun acts => by rw [doInvoke_state]; exact hsteps.trans h⟩
abbrev vx_CVW (R : Room) (s : State) (args : Array Value) (own C : String) (index : Nat) (y : MethodName) (bytes : ByteArray) (maxL : Nat) (ret : Option FieldType) (hh : List (Nat × Nat × Nat × Nat)) (ws : List Cond) (rm : Room) (mc ms n : Nat) : Prop :=
  (rm.cells = mc ∧ rm.slots = ms ∧ rm.frames + 1 ≤ R.frames ∧ 8 + (maxL + 11) + rm.locals ≤ R.locals ∧ (∀ w ∈ ws, ∀ (a' : Array Value) (U : State), s.WarmedH U.vm → w.before a' U = true) ∧ Cond.codeWith y bytes maxL ret hh ∈ ws) ∧
  (Cond.codeWith y bytes maxL ret hh).before args s = true ∧ (Cond.initialized y.cls).before args s = true ∧ (y.cls ≠ "java/lang/invoke/MethodHandle" ∧ y.cls ≠ "java/lang/invoke/VarHandle") ∧
  (∀ sig, parseMethodDescriptor y.desc = some sig → n = sig.parameters.length) ∧ (Cond.methodLink own index y).before args s = true ∧ (Cond.instanceMethod y).before args s = true ∧ (Cond.selects C y y).before args s = true
theorem vx_cwVW {own C : String} {index maxL mc ms : Nat} {y : MethodName} {bytes : ByteArray} {ret : Option FieldType} {hh : List (Nat × Nat × Nat × Nat)} {Ts ws ws' : List Cond} {rm : Room} (n : Nat) (ht : ∀ w ∈ Ts, w.before args s = true) (hT : GoodIn Ts (wsV own index C y ws)) (hw : ws = Cond.codeWith y bytes maxL ret hh :: ws') (hrc : rm.cells = mc) (hrs : rm.slots = ms)
    (hd : y.cls = C ∧ y.cls ≠ "java/lang/invoke/MethodHandle" ∧ y.cls ≠ "java/lang/invoke/VarHandle" ∧ (parseMethodDescriptor y.desc).map (fun d => d.parameters.length) = some n) (hR : rm.frames + 1 ≤ R.frames ∧ 8 + (maxL + 11) + rm.locals ≤ R.locals) :
    vx_CVW R s args own C index y bytes maxL ret hh ws rm mc ms n := by
  obtain ⟨hC, hd⟩ := hd
  subst hC
  have ok : ∀ w ∈ wsV own index y.cls y ws, w.before args s = true := fun w h => ht w (hT w h).1
  have hG : GoodIn Ts ws := fun w h => hT w (by unfold wsV; exact List.mem_append_right _ h)
  have hc : Cond.codeWith y bytes maxL ret hh ∈ ws := by rw [hw]; exact List.mem_cons_self
  refine ⟨⟨hrc, hrs, hR.1, hR.2, pay_in ht hG, hc⟩, ht _ (hG _ hc).1, ok _ (by simp [wsV]), ⟨hd.1, hd.2.1⟩, fun sig h => ?_, ok _ (by simp [wsV]), ok _ (by simp [wsV]), ok _ (by simp [wsV])⟩
  have h2 := hd.2.2
  rw [h] at h2
  exact (Option.some.inj h2).symm
theorem vx_runVW {y : MethodName} {bytes cc : ByteArray} {maxL nL mc ms n index : Nat} {ret : Option FieldType} {hh : List (Nat × Nat × Nat × Nat)} {ws : List Cond} {rm : Room} {Pc : Array Value → State → Prop} {Qc : Array Value → State → Outcome → State → Prop} {free : Addr → Prop} {Ts : List Cond} {own C : String} {b : Addr} {As rest : List Value} {g : JFrame}
    (S : CallFix p m c cc nL s args Ts own) (hM : Met l y ws rm Pc Qc mc ms free) (cw : vx_CVW R s args own C index y bytes maxL ret hh ws rm mc ms n) (hp : PreV s H C b Pc As)
    (hg : g.method = m) (hn : As.length = n) (hsize : g.locals.size = nL) (hstack : g.stack = As.reverse ++ .ref b :: rest) (hW : 2 * g.monitorRoom + (rest.map fun v => v.category).sum ≤ 8) (hdg : decode cc g.pc = .ok (.invokevirtual index, 3)) (hf : cells + mc ≤ R.cells ∧ slots + ms ≤ R.slots) :
    va_Run p l e R s m args below meth c H locs cells slots mc ms g rest (Qc (Value.ref b :: As).toArray) free := by
  obtain ⟨⟨hrc, hrs, hfr, hlo, hws, hcw⟩, hcode, hini, hy, hlen, hl, hin, hse⟩ := cw
  have hK : Back l R p e below s args y 3 8 (PreOf R mc ms Pc) (PostOf Qc mc ms free) := va_backW (hh := hh) (bytes := bytes) (maxL := maxL) (ret := ret) hM hp.1 hrc hrs hfr hlo hws hcw (fun a' U hW => word_at hW (Or.inl (by first | rfl | simp [Cond.onTables, Cond.keeps, Cond.steady])) hini)
  obtain ⟨hx, hb, hml, ho, -⟩ := S
  obtain ⟨-, ⟨cellB, hcB, hoB, hclB⟩, hPc⟩ := hp
  intro T hT X
  obtain ⟨v, vm₁, ⟨U', l2, c2, s2⟩, hW₁, X', ⟨g', mk, t, L, e1, e2, hq, h1, hL, h2, h3⟩, st⟩ := vx_callVW X hx (C := C) (hh := hh) (bytes := bytes) (maxL := maxL) (ret := ret) ho hl hin hse hcode hy hK (by rw [hT]; exact hcB) hoB hclB hg (hsize.trans hml.symm) (argsL := As) (rest := rest) (fun sig h => hn.trans (hlen sig h)) hstack hW (by rw [hb]; exact hdg)
    (fun vm₁ hW₁ => ⟨hf.1, hf.2, hPc (T.setVm vm₁) hT hW₁⟩)
  dsimp only [Pt.U, Pt.locs, Pt.cells, Pt.slots] at X' e1 e2 h1 h2 h3 st
  subst h1; subst h2; subst h3
  exact ⟨v, (T.setVm vm₁).calling g' mk (Value.ref b :: As).toArray, t, U', L, hT, X', hL, e1, e2, hq, st⟩
section
variable {y : MethodName} {bytes cc : ByteArray} {maxL nL mc ms n index : Nat} {ret : Option FieldType} {ws : List Cond} {rm : Room} {Pc : Array Value → State → Prop} {Qc : Array Value → State → Outcome → State → Prop} {XC : String → State → State → Prop} {free : Addr → Prop} {Ts : List Cond} {own C : String} {b : Addr} {As rest : List Value} {g : JFrame}
theorem vx_runVX {hh : List (Nat × Nat × Nat × Nat)} (S : CallFix p m c cc nL s args Ts own) (hM : vx_Met l y ws rm Pc Qc XC mc ms free) (cw : vx_CVW R s args own C index y bytes maxL ret hh ws rm mc ms n) (hp : PreV s H C b Pc As)
    (hg : g.method = m) (hn : As.length = n) (hsize : g.locals.size = nL) (hstack : g.stack = As.reverse ++ .ref b :: rest) (hW : 2 * g.monitorRoom + (rest.map fun v => v.category).sum ≤ 8) (hdg : decode cc g.pc = .ok (.invokevirtual index, 3)) (hf : cells + mc ≤ R.cells ∧ slots + ms ≤ R.slots) :
    vx_Run p l e R s m args below meth c H locs cells slots mc ms g rest (Qc (Value.ref b :: As).toArray) XC free := by
  obtain ⟨⟨hrc, hrs, hfr, hlo, hws, hcw⟩, hcode, hini, hy, hlen, hl, hin, hse⟩ := cw
  have hK : vx_Back l R p e below s args y 3 8 (PreOf R mc ms Pc) (PostOf Qc mc ms free) (vx_Post XC mc ms free) := vx_backW (hh := hh) (bytes := bytes) (maxL := maxL) (ret := ret) hM hp.1 hrc hrs hfr hlo hws hcw (fun a' U hW => word_at hW (Or.inl (by first | rfl | simp [Cond.onTables, Cond.keeps, Cond.steady])) hini)
  obtain ⟨hx, hb, hml, ho, -⟩ := S
  obtain ⟨-, ⟨cellB, hcB, hoB, hclB⟩, hPc⟩ := hp
  intro T hT X
  rcases vx_callVX X hx (C := C) (hh := hh) (bytes := bytes) (maxL := maxL) (ret := ret) ho hl hin hse hcode hy hK (by rw [hT]; exact hcB) hoB hclB hg (hsize.trans hml.symm) (argsL := As) (rest := rest) (fun sig h => hn.trans (hlen sig h)) hstack hW (by rw [hb]; exact hdg)
    (fun vm₁ hW₁ => ⟨hf.1, hf.2, hPc (T.setVm vm₁) hT hW₁⟩) with ⟨v, vm₁, ⟨U', l2, c2, s2⟩, hW₁, X', ⟨g', mk, t, L, e1, e2, hq, h1, hL, h2, h3⟩, st⟩ | ⟨q, vm₁, ⟨U', l2, c2, s2⟩, hW₁, X', ⟨g', mk, t, L, E, ce, e1, e2, hq, hce, hcv, hcl, h1, hL, h2, h3⟩, st⟩
  · dsimp only [Pt.U, Pt.locs, Pt.cells, Pt.slots] at X' e1 e2 h1 h2 h3 st
    subst h1; subst h2; subst h3
    exact Or.inl ⟨v, (T.setVm vm₁).calling g' mk (Value.ref b :: As).toArray, t, U', L, hT, X', hL, e1, e2, hq, st⟩
  · dsimp only [Pt.U, Pt.locs, Pt.cells, Pt.slots] at X' e1 e2 h1 h2 h3 st hcl
    subst h1; subst h2; subst h3
    exact Or.inr ⟨q, (T.setVm vm₁).calling g' mk (Value.ref b :: As).toArray, t, U', L, E, ce, hT, X', hL, e1, e2, hq, hce, hcv, vx_cls hW₁ hcl, st⟩
theorem vx_runSX {hh : List (Nat × Nat × Nat × Nat)} (S : CallFix p m c cc nL s args Ts own) (hM : vx_Met l y ws rm Pc Qc XC mc ms free) (cw : vx_CSW R s args own index y bytes maxL ret hh ws rm mc ms n) (hp : PreS s H Pc As)
    (hg : g.method = m) (hn : As.length = n) (hsize : g.locals.size = nL) (hstack : g.stack = As.reverse ++ rest) (hW : 2 * g.monitorRoom + (rest.map fun v => v.category).sum ≤ 8) (hdg : decode cc g.pc = .ok (.invokestatic index, 3)) (hf : cells + mc ≤ R.cells ∧ slots + ms ≤ R.slots) :
    vx_Run p l e R s m args below meth c H locs cells slots mc ms g rest (Qc As.toArray) XC free := by
  obtain ⟨⟨hrc, hrs, hfr, hlo, hws, hcw⟩, hcode, hini, hy, hlen, hl, hstt⟩ := cw
  have hK : vx_Back l R p e below s args y 3 8 (PreOf R mc ms Pc) (PostOf Qc mc ms free) (vx_Post XC mc ms free) := vx_backW (hh := hh) (bytes := bytes) (maxL := maxL) (ret := ret) hM hp.1 hrc hrs hfr hlo hws hcw (fun a' U hW => word_at hW (Or.inl (by first | rfl | simp [Cond.onTables, Cond.keeps, Cond.steady])) hini)
  obtain ⟨hx, hb, hml, ho, -⟩ := S
  intro T hT X
  rcases vx_callSX X hx (hh := hh) (bytes := bytes) (maxL := maxL) (ret := ret) ho hl hstt hini hcode hy hK hg (hsize.trans hml.symm) (argsL := As) (rest := rest) (fun sig h => hn.trans (hlen sig h)) hstack hW (by rw [hb]; exact hdg)
    (fun vm₁ hW₁ => ⟨hf.1, hf.2, hp.2 (T.setVm vm₁) hT hW₁⟩) with ⟨v, vm₁, ⟨U', l2, c2, s2⟩, hW₁, X', ⟨g', mk, t, L, e1, e2, hq, h1, hL, h2, h3⟩, st⟩ | ⟨q, vm₁, ⟨U', l2, c2, s2⟩, hW₁, X', ⟨g', mk, t, L, E, ce, e1, e2, hq, hce, hcv, hcl, h1, hL, h2, h3⟩, st⟩
  · dsimp only [Pt.U, Pt.locs, Pt.cells, Pt.slots] at X' e1 e2 h1 h2 h3 st
    subst h1; subst h2; subst h3
    exact Or.inl ⟨v, (T.setVm vm₁).calling g' mk As.toArray, t, U', L, hT, X', hL, e1, e2, hq, st⟩
  · dsimp only [Pt.U, Pt.locs, Pt.cells, Pt.slots] at X' e1 e2 h1 h2 h3 st hcl
    subst h1; subst h2; subst h3
    exact Or.inr ⟨q, (T.setVm vm₁).calling g' mk As.toArray, t, U', L, E, ce, hT, X', hL, e1, e2, hq, hce, hcv, vx_cls hW₁ hcl, st⟩
end
end VXH
theorem vx_ofWH {l : Launch} {y : MethodName} {ws ws' : List Cond} {rm : Room} {Pc : Array Value → State → Prop} {Qc : Array Value → State → Outcome → State → Prop} {XC : String → State → State → Prop} {mc ms : Nat} {free : Addr → Prop} {cc : ByteArray} {maxL : Nat} {ret : Option FieldType} {hh : List (Nat × Nat × Nat × Nat)}
    (hy : plainName y.cls = true) (hw : ws = Cond.codeWith y cc maxL ret hh :: ws')
    (body : ∀ p e s m args below meth c s₁, BodyLoose p l y (headSpec ws rm) cc maxL ret e s m args below meth c s₁ → c.maxLocals = maxL → Pc args s →
      W p l e (headSpec ws rm).room s m args below meth c s.heap [] 0 0 (vx_MQ below Qc XC args s mc ms free) (entryFrame m args maxL)) : vx_Met l y ws rm Pc Qc XC mc ms free := by
  refine MetFree.of_bodyS (code := cc) (maxLocals := maxL) (ret := ret) hy ?_ ?_
  · intro args s m h hn
    obtain ⟨m9, meth, c, hn9, h1, h2, h3, h4, -, h5, h6, -⟩ := Cond.codeWith_spec (atoms_spec (ws := ws) h _ (by rw [hw]; exact List.mem_cons_self))
    cases hn.symm.trans hn9
    exact ⟨meth, c, h1, h2, h3, h4, h5, h6⟩
  · intro p e s m args below meth c s₁ B hml hP _
    have hh0 : s₁.heap = s.heap := by rw [B.state]; rfl
    obtain ⟨t, a1, o, b1, b2, b3⟩ := body p e s m args below meth c s₁ B hml hP s₁ hh0 (Stand.of_body B)
    exact ⟨t, o, a1, b1, b2, b3⟩
/-! ===== END ===== -/

/-! ===== BEGIN printed: names, fields, word lists, decode rows ===== -/
end
section
def TX0 : u_T := fun k => match k with
  | 0 => ("TextureUnits$Unit", "from", "I", false)
  | 1 => ("TextureUnits$Unit", "format", "I", false)
  | 2 => ("TextureUnits$Unit", "logWidth", "I", false)
  | 3 => ("TextureUnits$Unit", "logHeight", "I", false)
  | 4 => ("TextureUnits$Unit", "levels", "I", false)
  | 5 => ("TextureUnits$Unit", "across", "I", false)
  | 6 => ("TextureUnits$Unit", "down", "I", false)
  | 7 => ("TextureUnits$Unit", "filter", "I", false)
  | 8 => ("TextureUnits$Unit", "borderColour", "[I", true)
  | _ => ("TextureUnits$Unit", "starts", "[I", true)
def tyX0 : Nat → FieldType := fun k => match k with
  | 0 => .int
  | 1 => .int
  | 2 => .int
  | 3 => .int
  | 4 => .int
  | 5 => .int
  | 6 => .int
  | 7 => .int
  | 8 => (.array .int)
  | _ => (.array .int)
theorem nmX0 : ∀ a, a < 10 → ∀ b, b < 10 → a ≠ b → (TX0 a).2.1 ≠ (TX0 b).2.1 := by decide +kernel
theorem tyX0_ok : ∀ k, k < 10 → parseFieldDescriptor (TX0 k).2.2.1 = some (tyX0 k) := by decide +kernel
def TX1 : u_T := fun k => match k with
  | 0 => ("TextureUnits", "words", "[I", true)
  | 1 => ("TextureUnits", "units", "[LTextureUnits$Unit;", true)
  | 2 => ("TextureUnits", "latest", "[I", true)
  | _ => ("TextureUnits", "nextLevel", "[I", true)
def tyX1 : Nat → FieldType := fun k => match k with
  | 0 => (.array .int)
  | 1 => (.array (.object "TextureUnits$Unit"))
  | 2 => (.array .int)
  | _ => (.array .int)
theorem nmX1 : ∀ a, a < 4 → ∀ b, b < 4 → a ≠ b → (TX1 a).2.1 ≠ (TX1 b).2.1 := by decide +kernel
theorem tyX1_ok : ∀ k, k < 4 → parseFieldDescriptor (TX1 k).2.2.1 = some (tyX1 k) := by decide +kernel
def TX2 : u_T := fun k => match k with
  | 0 => ("TextureUnitsModel", "thrown", "I", false)
  | 1 => ("TextureUnitsModel", "memory", "[I", true)
  | 2 => ("TextureUnitsModel", "units", "[I", true)
  | 3 => ("TextureUnitsModel", "borders", "[I", true)
  | 4 => ("TextureUnitsModel", "latest", "[I", true)
  | 5 => ("TextureUnitsModel", "found", "[I", true)
  | 6 => ("TextureUnitsModel", "row", "[I", true)
  | 7 => ("TextureUnitsModel", "upper", "[I", true)
  | 8 => ("TextureUnitsModel", "near", "[I", true)
  | 9 => ("TextureUnitsModel", "first", "[I", true)
  | _ => ("TextureUnitsModel", "size", "[I", true)
def tyX2 : Nat → FieldType := fun k => match k with
  | 0 => .int
  | 1 => (.array .int)
  | 2 => (.array .int)
  | 3 => (.array .int)
  | 4 => (.array .int)
  | 5 => (.array .int)
  | 6 => (.array .int)
  | 7 => (.array .int)
  | 8 => (.array .int)
  | 9 => (.array .int)
  | _ => (.array .int)
theorem nmX2 : ∀ a, a < 11 → ∀ b, b < 11 → a ≠ b → (TX2 a).2.1 ≠ (TX2 b).2.1 := by decide +kernel
theorem tyX2_ok : ∀ k, k < 11 → parseFieldDescriptor (TX2 k).2.2.1 = some (tyX2 k) := by decide +kernel
abbrev vwCl : List vw_C := [("TextureUnits$Unit", TX0, 10), ("TextureUnits", TX1, 4), ("TextureUnitsModel", TX2, 11)]
/-- the good ones of the law's words -/
def TW : List Cond := lw_tbl.filter goodWord
theorem tw_of {w : Cond} (h : w ∈ lw_tbl) (g : goodWord w = true) : w ∈ TW := List.mem_filter.mpr ⟨h, g⟩
theorem tw_in {w : Cond} (h : w ∈ TW) : w ∈ lw_tbl := (List.mem_filter.mp h).1
theorem tw_good {w : Cond} (h : w ∈ TW) : goodWord w = true := (List.mem_filter.mp h).2
theorem tw_t1 {w : Cond} (i : Nat) (h : tables_1_1[i]? = some w) (g : goodWord w = true) : w ∈ TW := tw_of (List.mem_append_right _ (List.mem_append_left _ (List.mem_of_getElem? h))) g
theorem tw_t2 {w : Cond} (i : Nat) (h : tables_1_2[i]? = some w) (g : goodWord w = true) : w ∈ TW := tw_of (List.mem_append_right _ (List.mem_append_right _ (List.mem_of_getElem? h))) g
theorem tw_t0 {w : Cond} (i : Nat) (h : (k2_sels lw_privs)[i]? = some w) (g : goodWord w = true) : w ∈ TW := tw_of (List.mem_append_left _ (List.mem_of_getElem? h)) g
theorem tw_c {w x : Cond} (h : w ∈ TW) : w ∈ x :: TW := List.mem_cons_of_mem _ h
theorem tw_s {x : Cond} {L : List Cond} (h : ∀ w ∈ L, w ∈ TW) : ∀ w ∈ L, w ∈ x :: TW := fun w hw => List.mem_cons_of_mem _ (h w hw)
theorem tg_1 {x w : Cond} (h : w ∈ TW) : w ∈ x :: TW ∧ ((w.onTables && w.keeps) = true ∨ ∃ ty, w = .arrayClass ty) := ⟨tw_c h, good_of_word (tw_good h)⟩
theorem tg_0 {x k : Cond} (h : k ∈ TW) : GoodIn (x :: TW) (k :: TW) := fun w hw => (List.mem_cons.mp hw).elim (fun e => by rw [e]; exact tg_1 h) (fun h => tg_1 h)
theorem tg_V {x : Cond} {own C : String} {idx : Nat} {y : MethodName} {k : Cond} (h1 : .methodLink own idx y ∈ TW) (h2 : .instanceMethod y ∈ TW) (h3 : .selects C y y ∈ TW) (h4 : .initialized C ∈ TW) (h5 : k ∈ TW) : GoodIn (x :: TW) (wsV own idx C y (k :: TW)) := by
  intro w hw
  unfold wsV at hw
  simp only [List.mem_append, List.mem_cons, List.not_mem_nil, or_false] at hw
  rcases hw with (rfl | rfl | rfl | rfl) | (rfl | hw)
  · exact tg_1 h1
  · exact tg_1 h2
  · exact tg_1 h3
  · exact tg_1 h4
  · exact tg_1 h5
  · exact tg_1 hw
theorem tg_S {x : Cond} {own : String} {idx : Nat} {y : MethodName} {k : Cond} (h1 : .methodLink own idx y ∈ TW) (h2 : .static y ∈ TW) (h4 : .initialized y.cls ∈ TW) (h5 : k ∈ TW) : GoodIn (x :: TW) (va_wsS own idx y (k :: TW)) := by
  intro w hw
  unfold va_wsS at hw
  simp only [List.mem_append, List.mem_cons, List.not_mem_nil, or_false] at hw
  rcases hw with (rfl | rfl | rfl) | (rfl | hw)
  · exact tg_1 h1
  · exact tg_1 h2
  · exact tg_1 h4
  · exact tg_1 h5
  · exact tg_1 hw
abbrev cX1_init : ByteArray := prog_1_method_1_code
abbrev yX1_init : MethodName := ⟨"TextureUnits", "<init>", "()V"⟩
abbrev wsX1_init : List Cond := (.code ⟨"TextureUnits", "<init>", "()V"⟩ prog_1_method_1_code 2 .none) :: TW
abbrev cX1_poke : ByteArray := prog_1_method_2_code
abbrev yX1_poke : MethodName := ⟨"TextureUnits", "poke", "(II)V"⟩
abbrev wsX1_poke : List Cond := (.code ⟨"TextureUnits", "poke", "(II)V"⟩ prog_1_method_2_code 3 .none) :: TW
abbrev cX1_picture : ByteArray := prog_1_method_3_code
abbrev yX1_picture : MethodName := ⟨"TextureUnits", "picture", "(IIIIII)V"⟩
abbrev wsX1_picture : List Cond := (.code ⟨"TextureUnits", "picture", "(IIIIII)V"⟩ prog_1_method_3_code 8 .none) :: TW
abbrev cX1_manner : ByteArray := prog_1_method_4_code
abbrev yX1_manner : MethodName := ⟨"TextureUnits", "manner", "(IIII)V"⟩
abbrev wsX1_manner : List Cond := (.code ⟨"TextureUnits", "manner", "(IIII)V"⟩ prog_1_method_4_code 6 .none) :: TW
abbrev cX1_border : ByteArray := prog_1_method_5_code
abbrev yX1_border : MethodName := ⟨"TextureUnits", "border", "(IIIII)V"⟩
abbrev wsX1_border : List Cond := (.code ⟨"TextureUnits", "border", "(IIIII)V"⟩ prog_1_method_5_code 7 .none) :: TW
abbrev cX1_texel : ByteArray := prog_1_method_6_code
abbrev yX1_texel : MethodName := ⟨"TextureUnits", "texel", "(IIIII)I"⟩
abbrev wsX1_texel : List Cond := (.code ⟨"TextureUnits", "texel", "(IIIII)I"⟩ prog_1_method_6_code 7 (.some .int)) :: TW
abbrev cX1_texels : ByteArray := prog_1_method_7_code
abbrev yX1_texels : MethodName := ⟨"TextureUnits", "texels", "(I)I"⟩
abbrev wsX1_texels : List Cond := (.code ⟨"TextureUnits", "texels", "(I)I"⟩ prog_1_method_7_code 3 (.some .int)) :: TW
abbrev cX1_read : ByteArray := prog_1_method_8_code
abbrev yX1_read : MethodName := ⟨"TextureUnits", "read", "(IIII)I"⟩
abbrev wsX1_read : List Cond := (.code ⟨"TextureUnits", "read", "(IIII)I"⟩ prog_1_method_8_code 10 (.some .int)) :: TW
abbrev cX1_also : ByteArray := prog_1_method_9_code
abbrev yX1_also : MethodName := ⟨"TextureUnits", "also", "(I)I"⟩
abbrev wsX1_also : List Cond := (.code ⟨"TextureUnits", "also", "(I)I"⟩ prog_1_method_9_code 2 (.some .int)) :: TW
abbrev cX1_unitAt : ByteArray := prog_1_method_10_code
abbrev yX1_unitAt : MethodName := ⟨"TextureUnits", "unitAt", "(I)LTextureUnits$Unit;"⟩
abbrev wsX1_unitAt : List Cond := (.code ⟨"TextureUnits", "unitAt", "(I)LTextureUnits$Unit;"⟩ prog_1_method_10_code 2 (.some (.object "TextureUnits$Unit"))) :: TW
abbrev cX1_sample : ByteArray := prog_1_method_11_code
abbrev yX1_sample : MethodName := ⟨"TextureUnits", "sample", "(LTextureUnits$Unit;III[I)V"⟩
abbrev wsX1_sample : List Cond := (.code ⟨"TextureUnits", "sample", "(LTextureUnits$Unit;III[I)V"⟩ prog_1_method_11_code 6 .none) :: TW
abbrev cX1_sampleOne : ByteArray := prog_1_method_12_code
abbrev yX1_sampleOne : MethodName := ⟨"TextureUnits", "sampleOne", "(LTextureUnits$Unit;III[I)V"⟩
abbrev wsX1_sampleOne : List Cond := (.code ⟨"TextureUnits", "sampleOne", "(LTextureUnits$Unit;III[I)V"⟩ prog_1_method_12_code 11 .none) :: TW
abbrev cX1_sampleFour : ByteArray := prog_1_method_13_code
abbrev yX1_sampleFour : MethodName := ⟨"TextureUnits", "sampleFour", "(LTextureUnits$Unit;III[I)V"⟩
abbrev wsX1_sampleFour : List Cond := (.code ⟨"TextureUnits", "sampleFour", "(LTextureUnits$Unit;III[I)V"⟩ prog_1_method_13_code 21 .none) :: TW
abbrev cX1_storedOrBorder : ByteArray := prog_1_method_14_code
abbrev yX1_storedOrBorder : MethodName := ⟨"TextureUnits", "storedOrBorder", "(LTextureUnits$Unit;IIII)I"⟩
abbrev wsX1_storedOrBorder : List Cond := (.code ⟨"TextureUnits", "storedOrBorder", "(LTextureUnits$Unit;IIII)I"⟩ prog_1_method_14_code 6 (.some .int)) :: TW
abbrev cX1_stored : ByteArray := prog_1_method_15_code
abbrev yX1_stored : MethodName := ⟨"TextureUnits", "stored", "(LTextureUnits$Unit;IIII)I"⟩
abbrev wsX1_stored : List Cond := (.code ⟨"TextureUnits", "stored", "(LTextureUnits$Unit;IIII)I"⟩ prog_1_method_15_code 12 (.some .int)) :: TW
abbrev cX1_wordAt : ByteArray := prog_1_method_16_code
abbrev yX1_wordAt : MethodName := ⟨"TextureUnits", "wordAt", "(J)I"⟩
abbrev wsX1_wordAt : List Cond := (.code ⟨"TextureUnits", "wordAt", "(J)I"⟩ prog_1_method_16_code 3 (.some .int)) :: TW
abbrev cX1_wrapped : ByteArray := prog_1_method_17_code
abbrev yX1_wrapped : MethodName := ⟨"TextureUnits", "wrapped", "(III)I"⟩
abbrev wsX1_wrapped : List Cond := (.code ⟨"TextureUnits", "wrapped", "(III)I"⟩ prog_1_method_17_code 3 (.some .int)) :: TW
abbrev cX1_mirrored : ByteArray := prog_1_method_18_code
abbrev yX1_mirrored : MethodName := ⟨"TextureUnits", "mirrored", "(II)I"⟩
abbrev wsX1_mirrored : List Cond := (.code ⟨"TextureUnits", "mirrored", "(II)I"⟩ prog_1_method_18_code 3 (.some .int)) :: TW
abbrev cX1_mix : ByteArray := prog_1_method_19_code
abbrev yX1_mix : MethodName := ⟨"TextureUnits", "mix", "(III)I"⟩
abbrev wsX1_mix : List Cond := (.code ⟨"TextureUnits", "mix", "(III)I"⟩ prog_1_method_19_code 5 (.some .int)) :: TW
abbrev cX1_whole : ByteArray := prog_1_method_20_code
abbrev yX1_whole : MethodName := ⟨"TextureUnits", "whole", "(J)I"⟩
abbrev wsX1_whole : List Cond := (.code ⟨"TextureUnits", "whole", "(J)I"⟩ prog_1_method_20_code 2 (.some .int)) :: TW
abbrev cX1_rest : ByteArray := prog_1_method_21_code
abbrev yX1_rest : MethodName := ⟨"TextureUnits", "rest", "(J)I"⟩
abbrev wsX1_rest : List Cond := (.code ⟨"TextureUnits", "rest", "(J)I"⟩ prog_1_method_21_code 2 (.some .int)) :: TW
abbrev cX1_cut : ByteArray := prog_1_method_22_code
abbrev yX1_cut : MethodName := ⟨"TextureUnits", "cut", "(III)I"⟩
abbrev wsX1_cut : List Cond := (.code ⟨"TextureUnits", "cut", "(III)I"⟩ prog_1_method_22_code 3 (.some .int)) :: TW
abbrev cX1_within : ByteArray := prog_1_method_23_code
abbrev yX1_within : MethodName := ⟨"TextureUnits", "within", "(III)Z"⟩
abbrev wsX1_within : List Cond := (.code ⟨"TextureUnits", "within", "(III)Z"⟩ prog_1_method_23_code 3 (.some .boolean)) :: TW
abbrev cX2_init : ByteArray := prog_4_method_1_code
abbrev yX2_init : MethodName := ⟨"TextureUnitsModel", "<init>", "()V"⟩
abbrev wsX2_init : List Cond := (.code ⟨"TextureUnitsModel", "<init>", "()V"⟩ prog_4_method_1_code 2 .none) :: TW
abbrev cX2_thrown : ByteArray := prog_4_method_2_code
abbrev yX2_thrown : MethodName := ⟨"TextureUnitsModel", "thrown", "()I"⟩
abbrev wsX2_thrown : List Cond := (.code ⟨"TextureUnitsModel", "thrown", "()I"⟩ prog_4_method_2_code 1 (.some .int)) :: TW
abbrev cX2_refuse : ByteArray := prog_4_method_3_code
abbrev yX2_refuse : MethodName := ⟨"TextureUnitsModel", "refuse", "(ZZ)Z"⟩
abbrev wsX2_refuse : List Cond := (.code ⟨"TextureUnitsModel", "refuse", "(ZZ)Z"⟩ prog_4_method_3_code 3 (.some .boolean)) :: TW
abbrev cX2_in : ByteArray := prog_4_method_4_code
abbrev yX2_in : MethodName := ⟨"TextureUnitsModel", "in", "(III)Z"⟩
abbrev wsX2_in : List Cond := (.code ⟨"TextureUnitsModel", "in", "(III)Z"⟩ prog_4_method_4_code 3 (.some .boolean)) :: TW
abbrev cX2_poke : ByteArray := prog_4_method_5_code
abbrev yX2_poke : MethodName := ⟨"TextureUnitsModel", "poke", "(II)V"⟩
abbrev wsX2_poke : List Cond := (.code ⟨"TextureUnitsModel", "poke", "(II)V"⟩ prog_4_method_5_code 3 .none) :: TW
abbrev cX2_picture : ByteArray := prog_4_method_6_code
abbrev yX2_picture : MethodName := ⟨"TextureUnitsModel", "picture", "(IIIIII)V"⟩
abbrev wsX2_picture : List Cond := (.code ⟨"TextureUnitsModel", "picture", "(IIIIII)V"⟩ prog_4_method_6_code 8 .none) :: TW
abbrev cX2_manner : ByteArray := prog_4_method_7_code
abbrev yX2_manner : MethodName := ⟨"TextureUnitsModel", "manner", "(IIII)V"⟩
abbrev wsX2_manner : List Cond := (.code ⟨"TextureUnitsModel", "manner", "(IIII)V"⟩ prog_4_method_7_code 5 .none) :: TW
abbrev cX2_border : ByteArray := prog_4_method_8_code
abbrev yX2_border : MethodName := ⟨"TextureUnitsModel", "border", "(IIIII)V"⟩
abbrev wsX2_border : List Cond := (.code ⟨"TextureUnitsModel", "border", "(IIIII)V"⟩ prog_4_method_8_code 6 .none) :: TW
abbrev cX2_exponent : ByteArray := prog_4_method_9_code
abbrev yX2_exponent : MethodName := ⟨"TextureUnitsModel", "exponent", "(III)I"⟩
abbrev wsX2_exponent : List Cond := (.code ⟨"TextureUnitsModel", "exponent", "(III)I"⟩ prog_4_method_9_code 5 (.some .int)) :: TW
abbrev cX2_wide : ByteArray := prog_4_method_10_code
abbrev yX2_wide : MethodName := ⟨"TextureUnitsModel", "wide", "(II)I"⟩
abbrev wsX2_wide : List Cond := (.code ⟨"TextureUnitsModel", "wide", "(II)I"⟩ prog_4_method_10_code 3 (.some .int)) :: TW
abbrev cX2_high : ByteArray := prog_4_method_11_code
abbrev yX2_high : MethodName := ⟨"TextureUnitsModel", "high", "(II)I"⟩
abbrev wsX2_high : List Cond := (.code ⟨"TextureUnitsModel", "high", "(II)I"⟩ prog_4_method_11_code 3 (.some .int)) :: TW
abbrev cX2_ahead : ByteArray := prog_4_method_12_code
abbrev yX2_ahead : MethodName := ⟨"TextureUnitsModel", "ahead", "(II)I"⟩
abbrev wsX2_ahead : List Cond := (.code ⟨"TextureUnitsModel", "ahead", "(II)I"⟩ prog_4_method_12_code 5 (.some .int)) :: TW
abbrev cX2_lay : ByteArray := prog_4_method_13_code
abbrev yX2_lay : MethodName := ⟨"TextureUnitsModel", "lay", "(IIIIIIII)V"⟩
abbrev wsX2_lay : List Cond := (.code ⟨"TextureUnitsModel", "lay", "(IIIIIIII)V"⟩ prog_4_method_13_code 9 .none) :: TW
abbrev cX2_layOut : ByteArray := prog_4_method_14_code
abbrev yX2_layOut : MethodName := ⟨"TextureUnitsModel", "layOut", "(I)I"⟩
abbrev wsX2_layOut : List Cond := (.code ⟨"TextureUnitsModel", "layOut", "(I)I"⟩ prog_4_method_14_code 2 (.some .int)) :: TW
abbrev cX2_bit : ByteArray := prog_4_method_15_code
abbrev yX2_bit : MethodName := ⟨"TextureUnitsModel", "bit", "(IJ)I"⟩
abbrev wsX2_bit : List Cond := (.code ⟨"TextureUnitsModel", "bit", "(IJ)I"⟩ prog_4_method_15_code 6 (.some .int)) :: TW
abbrev cX2_look : ByteArray := prog_4_method_16_code
abbrev yX2_look : MethodName := ⟨"TextureUnitsModel", "look", "(IIII)V"⟩
abbrev wsX2_look : List Cond := (.code ⟨"TextureUnitsModel", "look", "(IIII)V"⟩ prog_4_method_16_code 11 .none) :: TW
abbrev cX2_wrap : ByteArray := prog_4_method_17_code
abbrev yX2_wrap : MethodName := ⟨"TextureUnitsModel", "wrap", "(III)I"⟩
abbrev wsX2_wrap : List Cond := (.code ⟨"TextureUnitsModel", "wrap", "(III)I"⟩ prog_4_method_17_code 5 (.some .int)) :: TW
abbrev cX2_wrapped : ByteArray := prog_4_method_18_code
abbrev yX2_wrapped : MethodName := ⟨"TextureUnitsModel", "wrapped", "(IIII)V"⟩
abbrev wsX2_wrapped : List Cond := (.code ⟨"TextureUnitsModel", "wrapped", "(IIII)V"⟩ prog_4_method_18_code 8 .none) :: TW
abbrev cX2_mix : ByteArray := prog_4_method_19_code
abbrev yX2_mix : MethodName := ⟨"TextureUnitsModel", "mix", "(III)I"⟩
abbrev wsX2_mix : List Cond := (.code ⟨"TextureUnitsModel", "mix", "(III)I"⟩ prog_4_method_19_code 3 (.some .int)) :: TW
abbrev cX2_mixRow : ByteArray := prog_4_method_20_code
abbrev yX2_mixRow : MethodName := ⟨"TextureUnitsModel", "mixRow", "(IIIII)V"⟩
abbrev wsX2_mixRow : List Cond := (.code ⟨"TextureUnitsModel", "mixRow", "(IIIII)V"⟩ prog_4_method_20_code 7 .none) :: TW
abbrev cX2_readLevel : ByteArray := prog_4_method_21_code
abbrev yX2_readLevel : MethodName := ⟨"TextureUnitsModel", "readLevel", "(IIIIZ)V"⟩
abbrev wsX2_readLevel : List Cond := (.code ⟨"TextureUnitsModel", "readLevel", "(IIIIZ)V"⟩ prog_4_method_21_code 13 .none) :: TW
abbrev cX2_texel : ByteArray := prog_4_method_22_code
abbrev yX2_texel : MethodName := ⟨"TextureUnitsModel", "texel", "(IIIII)I"⟩
abbrev wsX2_texel : List Cond := (.code ⟨"TextureUnitsModel", "texel", "(IIIII)I"⟩ prog_4_method_22_code 9 (.some .int)) :: TW
abbrev cX2_texels : ByteArray := prog_4_method_23_code
abbrev yX2_texels : MethodName := ⟨"TextureUnitsModel", "texels", "(I)I"⟩
abbrev wsX2_texels : List Cond := (.code ⟨"TextureUnitsModel", "texels", "(I)I"⟩ prog_4_method_23_code 2 (.some .int)) :: TW
abbrev cX2_read : ByteArray := prog_4_method_24_code
abbrev yX2_read : MethodName := ⟨"TextureUnitsModel", "read", "(IIII)I"⟩
abbrev wsX2_read : List Cond := (.code ⟨"TextureUnitsModel", "read", "(IIII)I"⟩ prog_4_method_24_code 11 (.some .int)) :: TW
abbrev cX2_also : ByteArray := prog_4_method_25_code
abbrev yX2_also : MethodName := ⟨"TextureUnitsModel", "also", "(I)I"⟩
abbrev wsX2_also : List Cond := (.code ⟨"TextureUnitsModel", "also", "(I)I"⟩ prog_4_method_25_code 2 (.some .int)) :: TW
abbrev cX0_init : ByteArray := prog_2_method_1_code
abbrev yX0_init : MethodName := ⟨"TextureUnits$Unit", "<init>", "()V"⟩
abbrev wsX0_init : List Cond := (.code ⟨"TextureUnits$Unit", "<init>", "()V"⟩ prog_2_method_1_code 1 .none) :: TW
abbrev cX0_layOut : ByteArray := prog_2_method_2_code
abbrev yX0_layOut : MethodName := ⟨"TextureUnits$Unit", "layOut", "(III)V"⟩
abbrev wsX0_layOut : List Cond := (.code ⟨"TextureUnits$Unit", "layOut", "(III)V"⟩ prog_2_method_2_code 5 .none) :: TW
abbrev cX0_width : ByteArray := prog_2_method_3_code
abbrev yX0_width : MethodName := ⟨"TextureUnits$Unit", "width", "(I)I"⟩
abbrev wsX0_width : List Cond := (.code ⟨"TextureUnits$Unit", "width", "(I)I"⟩ prog_2_method_3_code 2 (.some .int)) :: TW
abbrev cX0_height : ByteArray := prog_2_method_4_code
abbrev yX0_height : MethodName := ⟨"TextureUnits$Unit", "height", "(I)I"⟩
abbrev wsX0_height : List Cond := (.code ⟨"TextureUnits$Unit", "height", "(I)I"⟩ prog_2_method_4_code 2 (.some .int)) :: TW
abbrev cX0_numberOf : ByteArray := prog_2_method_5_code
abbrev yX0_numberOf : MethodName := ⟨"TextureUnits$Unit", "numberOf", "(III)I"⟩
abbrev wsX0_numberOf : List Cond := (.code ⟨"TextureUnits$Unit", "numberOf", "(III)I"⟩ prog_2_method_5_code 4 (.some .int)) :: TW
abbrev cL_poke : ByteArray := method_3_code
abbrev yL_poke : MethodName := ⟨"TextureUnitsLaw", "poke", "(LTextureUnits;II)I"⟩
abbrev wsL_poke : List Cond := (.codeWith ⟨"TextureUnitsLaw", "poke", "(LTextureUnits;II)I"⟩ method_3_code 4 (.some .int) [(0, 6, 9, 13)]) :: TW
abbrev cL_picture : ByteArray := method_4_code
abbrev yL_picture : MethodName := ⟨"TextureUnitsLaw", "picture", "(LTextureUnits;IIIIII)I"⟩
abbrev wsL_picture : List Cond := (.codeWith ⟨"TextureUnitsLaw", "picture", "(LTextureUnits;IIIIII)I"⟩ method_4_code 8 (.some .int) [(0, 13, 16, 19), (0, 13, 20, 21)]) :: TW
abbrev cL_manner : ByteArray := method_5_code
abbrev yL_manner : MethodName := ⟨"TextureUnitsLaw", "manner", "(LTextureUnits;IIII)I"⟩
abbrev wsL_manner : List Cond := (.codeWith ⟨"TextureUnitsLaw", "manner", "(LTextureUnits;IIII)I"⟩ method_5_code 6 (.some .int) [(0, 9, 12, 19), (0, 9, 16, 21)]) :: TW
abbrev cL_border : ByteArray := method_6_code
abbrev yL_border : MethodName := ⟨"TextureUnitsLaw", "border", "(LTextureUnits;IIIII)I"⟩
abbrev wsL_border : List Cond := (.codeWith ⟨"TextureUnitsLaw", "border", "(LTextureUnits;IIIII)I"⟩ method_6_code 7 (.some .int) [(0, 11, 14, 19)]) :: TW
abbrev cL_texel : ByteArray := method_7_code
abbrev yL_texel : MethodName := ⟨"TextureUnitsLaw", "texel", "(LTextureUnits;IIIII[J)I"⟩
abbrev wsL_texel : List Cond := (.codeWith ⟨"TextureUnitsLaw", "texel", "(LTextureUnits;IIIII[J)I"⟩ method_7_code 8 (.some .int) [(0, 16, 19, 19), (0, 16, 23, 13)]) :: TW
abbrev cL_texels : ByteArray := method_8_code
abbrev yL_texels : MethodName := ⟨"TextureUnitsLaw", "texels", "(LTextureUnits;I[J)I"⟩
abbrev wsL_texels : List Cond := (.codeWith ⟨"TextureUnitsLaw", "texels", "(LTextureUnits;I[J)I"⟩ method_8_code 4 (.some .int) [(0, 9, 12, 19)]) :: TW
abbrev cL_read : ByteArray := method_9_code
abbrev yL_read : MethodName := ⟨"TextureUnitsLaw", "read", "(LTextureUnits;IIII[J)I"⟩
abbrev wsL_read : List Cond := (.codeWith ⟨"TextureUnitsLaw", "read", "(LTextureUnits;IIII[J)I"⟩ method_9_code 7 (.some .int) [(0, 14, 17, 19)]) :: TW
abbrev cL_also : ByteArray := method_10_code
abbrev yL_also : MethodName := ⟨"TextureUnitsLaw", "also", "(LTextureUnits;I[J)I"⟩
abbrev wsL_also : List Cond := (.codeWith ⟨"TextureUnitsLaw", "also", "(LTextureUnits;I[J)I"⟩ method_10_code 4 (.some .int) [(0, 9, 12, 13)]) :: TW
abbrev cL_law : ByteArray := code
abbrev yL_law : MethodName := ⟨"TextureUnitsLaw", "law", "([I)Z"⟩
abbrev wsL_law : List Cond := (.code ⟨"TextureUnitsLaw", "law", "([I)Z"⟩ code 7 (.some .boolean)) :: TW
theorem inX0 : ∀ w ∈ u_ws "TextureUnits$Unit" TX0 10, w ∈ TW := fun w h => tw_of (by revert w; decide +kernel) (by revert w; decide +kernel)
theorem inX1 : ∀ w ∈ u_ws "TextureUnits" TX1 4, w ∈ TW := fun w h => tw_of (by revert w; decide +kernel) (by revert w; decide +kernel)
theorem inX2 : ∀ w ∈ u_ws "TextureUnitsModel" TX2 11, w ∈ TW := fun w h => tw_of (by revert w; decide +kernel) (by revert w; decide +kernel)
end
section
theorem dX0_init_0 : decode cX0_init 0 = .ok (.aload_n 0, 1) := by decide +kernel
theorem dX0_init_1 : decode cX0_init 1 = .ok (.invokespecial 3, 3) := by decide +kernel
theorem dX0_init_4 : decode cX0_init 4 = .ok (.aload_n 0, 1) := by decide +kernel
theorem dX0_init_5 : decode cX0_init 5 = .ok (.iconst 4, 1) := by decide +kernel
theorem dX0_init_6 : decode cX0_init 6 = .ok (.newarray .int, 2) := by decide +kernel
theorem dX0_init_8 : decode cX0_init 8 = .ok (.putfield 9, 3) := by decide +kernel
theorem dX0_init_11 : decode cX0_init 11 = .ok (.aload_n 0, 1) := by decide +kernel
theorem dX0_init_12 : decode cX0_init 12 = .ok (.bipush 12, 2) := by decide +kernel
theorem dX0_init_14 : decode cX0_init 14 = .ok (.newarray .int, 2) := by decide +kernel
theorem dX0_init_16 : decode cX0_init 16 = .ok (.putfield 15, 3) := by decide +kernel
theorem dX0_init_19 : decode cX0_init 19 = .ok (.aload_n 0, 1) := by decide +kernel
theorem dX0_init_20 : decode cX0_init 20 = .ok (.iconst 0, 1) := by decide +kernel
theorem dX0_init_21 : decode cX0_init 21 = .ok (.iconst 0, 1) := by decide +kernel
theorem dX0_init_22 : decode cX0_init 22 = .ok (.iconst 1, 1) := by decide +kernel
theorem dX0_init_23 : decode cX0_init 23 = .ok (.invokevirtual 18, 3) := by decide +kernel
theorem dX0_init_26 : decode cX0_init 26 = .ok (.return_, 1) := by decide +kernel
theorem dX0_layOut_0 : decode cX0_layOut 0 = .ok (.aload_n 0, 1) := by decide +kernel
theorem dX0_layOut_1 : decode cX0_layOut 1 = .ok (.iload_n 1, 1) := by decide +kernel
theorem dX0_layOut_2 : decode cX0_layOut 2 = .ok (.putfield 22, 3) := by decide +kernel
theorem dX0_layOut_5 : decode cX0_layOut 5 = .ok (.aload_n 0, 1) := by decide +kernel
theorem dX0_layOut_6 : decode cX0_layOut 6 = .ok (.iload_n 2, 1) := by decide +kernel
theorem dX0_layOut_7 : decode cX0_layOut 7 = .ok (.putfield 26, 3) := by decide +kernel
theorem dX0_layOut_10 : decode cX0_layOut 10 = .ok (.aload_n 0, 1) := by decide +kernel
theorem dX0_layOut_11 : decode cX0_layOut 11 = .ok (.iload_n 3, 1) := by decide +kernel
theorem dX0_layOut_12 : decode cX0_layOut 12 = .ok (.putfield 29, 3) := by decide +kernel
theorem dX0_layOut_15 : decode cX0_layOut 15 = .ok (.iconst 0, 1) := by decide +kernel
theorem dX0_layOut_16 : decode cX0_layOut 16 = .ok (.istore 4, 2) := by decide +kernel
theorem dX0_layOut_18 : decode cX0_layOut 18 = .ok (.iload 4, 2) := by decide +kernel
theorem dX0_layOut_20 : decode cX0_layOut 20 = .ok (.bipush 11, 2) := by decide +kernel
theorem dX0_layOut_22 : decode cX0_layOut 22 = .ok (.if_icmp .ge 39, 3) := by decide +kernel
theorem dX0_layOut_25 : decode cX0_layOut 25 = .ok (.aload_n 0, 1) := by decide +kernel
theorem dX0_layOut_26 : decode cX0_layOut 26 = .ok (.getfield 15, 3) := by decide +kernel
theorem dX0_layOut_29 : decode cX0_layOut 29 = .ok (.iload 4, 2) := by decide +kernel
theorem dX0_layOut_31 : decode cX0_layOut 31 = .ok (.iconst 1, 1) := by decide +kernel
theorem dX0_layOut_32 : decode cX0_layOut 32 = .ok (.iadd, 1) := by decide +kernel
theorem dX0_layOut_33 : decode cX0_layOut 33 = .ok (.aload_n 0, 1) := by decide +kernel
theorem dX0_layOut_34 : decode cX0_layOut 34 = .ok (.getfield 15, 3) := by decide +kernel
theorem dX0_layOut_37 : decode cX0_layOut 37 = .ok (.iload 4, 2) := by decide +kernel
theorem dX0_layOut_39 : decode cX0_layOut 39 = .ok (.iaload, 1) := by decide +kernel
theorem dX0_layOut_40 : decode cX0_layOut 40 = .ok (.aload_n 0, 1) := by decide +kernel
theorem dX0_layOut_41 : decode cX0_layOut 41 = .ok (.iload 4, 2) := by decide +kernel
theorem dX0_layOut_43 : decode cX0_layOut 43 = .ok (.invokevirtual 32, 3) := by decide +kernel
theorem dX0_layOut_46 : decode cX0_layOut 46 = .ok (.aload_n 0, 1) := by decide +kernel
theorem dX0_layOut_47 : decode cX0_layOut 47 = .ok (.iload 4, 2) := by decide +kernel
theorem dX0_layOut_49 : decode cX0_layOut 49 = .ok (.invokevirtual 36, 3) := by decide +kernel
theorem dX0_layOut_52 : decode cX0_layOut 52 = .ok (.imul, 1) := by decide +kernel
theorem dX0_layOut_53 : decode cX0_layOut 53 = .ok (.iadd, 1) := by decide +kernel
theorem dX0_layOut_54 : decode cX0_layOut 54 = .ok (.iastore, 1) := by decide +kernel
theorem dX0_layOut_55 : decode cX0_layOut 55 = .ok (.iinc 4 1, 3) := by decide +kernel
theorem dX0_layOut_58 : decode cX0_layOut 58 = .ok (.goto (-40), 3) := by decide +kernel
theorem dX0_layOut_61 : decode cX0_layOut 61 = .ok (.return_, 1) := by decide +kernel
theorem dX0_width_0 : decode cX0_width 0 = .ok (.iload_n 1, 1) := by decide +kernel
theorem dX0_width_1 : decode cX0_width 1 = .ok (.aload_n 0, 1) := by decide +kernel
theorem dX0_width_2 : decode cX0_width 2 = .ok (.getfield 22, 3) := by decide +kernel
theorem dX0_width_5 : decode cX0_width 5 = .ok (.if_icmp .ge 14, 3) := by decide +kernel
theorem dX0_width_8 : decode cX0_width 8 = .ok (.iconst 1, 1) := by decide +kernel
theorem dX0_width_9 : decode cX0_width 9 = .ok (.aload_n 0, 1) := by decide +kernel
theorem dX0_width_10 : decode cX0_width 10 = .ok (.getfield 22, 3) := by decide +kernel
theorem dX0_width_13 : decode cX0_width 13 = .ok (.iload_n 1, 1) := by decide +kernel
theorem dX0_width_14 : decode cX0_width 14 = .ok (.isub, 1) := by decide +kernel
theorem dX0_width_15 : decode cX0_width 15 = .ok (.ishl, 1) := by decide +kernel
theorem dX0_width_16 : decode cX0_width 16 = .ok (.goto 4, 3) := by decide +kernel
theorem dX0_width_19 : decode cX0_width 19 = .ok (.iconst 1, 1) := by decide +kernel
theorem dX0_width_20 : decode cX0_width 20 = .ok (.ireturn, 1) := by decide +kernel
theorem dX0_height_0 : decode cX0_height 0 = .ok (.iload_n 1, 1) := by decide +kernel
theorem dX0_height_1 : decode cX0_height 1 = .ok (.aload_n 0, 1) := by decide +kernel
theorem dX0_height_2 : decode cX0_height 2 = .ok (.getfield 26, 3) := by decide +kernel
theorem dX0_height_5 : decode cX0_height 5 = .ok (.if_icmp .ge 14, 3) := by decide +kernel
theorem dX0_height_8 : decode cX0_height 8 = .ok (.iconst 1, 1) := by decide +kernel
theorem dX0_height_9 : decode cX0_height 9 = .ok (.aload_n 0, 1) := by decide +kernel
theorem dX0_height_10 : decode cX0_height 10 = .ok (.getfield 26, 3) := by decide +kernel
theorem dX0_height_13 : decode cX0_height 13 = .ok (.iload_n 1, 1) := by decide +kernel
theorem dX0_height_14 : decode cX0_height 14 = .ok (.isub, 1) := by decide +kernel
theorem dX0_height_15 : decode cX0_height 15 = .ok (.ishl, 1) := by decide +kernel
theorem dX0_height_16 : decode cX0_height 16 = .ok (.goto 4, 3) := by decide +kernel
theorem dX0_height_19 : decode cX0_height 19 = .ok (.iconst 1, 1) := by decide +kernel
theorem dX0_height_20 : decode cX0_height 20 = .ok (.ireturn, 1) := by decide +kernel
theorem dX0_numberOf_0 : decode cX0_numberOf 0 = .ok (.aload_n 0, 1) := by decide +kernel
theorem dX0_numberOf_1 : decode cX0_numberOf 1 = .ok (.getfield 15, 3) := by decide +kernel
theorem dX0_numberOf_4 : decode cX0_numberOf 4 = .ok (.iload_n 1, 1) := by decide +kernel
theorem dX0_numberOf_5 : decode cX0_numberOf 5 = .ok (.iaload, 1) := by decide +kernel
theorem dX0_numberOf_6 : decode cX0_numberOf 6 = .ok (.iload_n 3, 1) := by decide +kernel
theorem dX0_numberOf_7 : decode cX0_numberOf 7 = .ok (.aload_n 0, 1) := by decide +kernel
theorem dX0_numberOf_8 : decode cX0_numberOf 8 = .ok (.iload_n 1, 1) := by decide +kernel
theorem dX0_numberOf_9 : decode cX0_numberOf 9 = .ok (.invokevirtual 32, 3) := by decide +kernel
theorem dX0_numberOf_12 : decode cX0_numberOf 12 = .ok (.imul, 1) := by decide +kernel
theorem dX0_numberOf_13 : decode cX0_numberOf 13 = .ok (.iadd, 1) := by decide +kernel
theorem dX0_numberOf_14 : decode cX0_numberOf 14 = .ok (.iload_n 2, 1) := by decide +kernel
theorem dX0_numberOf_15 : decode cX0_numberOf 15 = .ok (.iadd, 1) := by decide +kernel
theorem dX0_numberOf_16 : decode cX0_numberOf 16 = .ok (.ireturn, 1) := by decide +kernel
theorem dX1_init_0 : decode cX1_init 0 = .ok (.aload_n 0, 1) := by decide +kernel
theorem dX1_init_1 : decode cX1_init 1 = .ok (.invokespecial 1, 3) := by decide +kernel
theorem dX1_init_4 : decode cX1_init 4 = .ok (.aload_n 0, 1) := by decide +kernel
theorem dX1_init_5 : decode cX1_init 5 = .ok (.sipush 2048, 3) := by decide +kernel
theorem dX1_init_8 : decode cX1_init 8 = .ok (.newarray .int, 2) := by decide +kernel
theorem dX1_init_10 : decode cX1_init 10 = .ok (.putfield 9, 3) := by decide +kernel
theorem dX1_init_13 : decode cX1_init 13 = .ok (.aload_n 0, 1) := by decide +kernel
theorem dX1_init_14 : decode cX1_init 14 = .ok (.iconst 4, 1) := by decide +kernel
theorem dX1_init_15 : decode cX1_init 15 = .ok (.anewarray 13, 3) := by decide +kernel
theorem dX1_init_18 : decode cX1_init 18 = .ok (.putfield 15, 3) := by decide +kernel
theorem dX1_init_21 : decode cX1_init 21 = .ok (.iconst 0, 1) := by decide +kernel
theorem dX1_init_22 : decode cX1_init 22 = .ok (.istore_n 1, 1) := by decide +kernel
theorem dX1_init_23 : decode cX1_init 23 = .ok (.iload_n 1, 1) := by decide +kernel
theorem dX1_init_24 : decode cX1_init 24 = .ok (.iconst 4, 1) := by decide +kernel
theorem dX1_init_25 : decode cX1_init 25 = .ok (.if_icmp .ge 22, 3) := by decide +kernel
theorem dX1_init_28 : decode cX1_init 28 = .ok (.aload_n 0, 1) := by decide +kernel
theorem dX1_init_29 : decode cX1_init 29 = .ok (.getfield 15, 3) := by decide +kernel
theorem dX1_init_32 : decode cX1_init 32 = .ok (.iload_n 1, 1) := by decide +kernel
theorem dX1_init_33 : decode cX1_init 33 = .ok (.new 13, 3) := by decide +kernel
theorem dX1_init_36 : decode cX1_init 36 = .ok (.dup, 1) := by decide +kernel
theorem dX1_init_37 : decode cX1_init 37 = .ok (.invokespecial 19, 3) := by decide +kernel
theorem dX1_init_40 : decode cX1_init 40 = .ok (.aastore, 1) := by decide +kernel
theorem dX1_init_41 : decode cX1_init 41 = .ok (.iinc 1 1, 3) := by decide +kernel
theorem dX1_init_44 : decode cX1_init 44 = .ok (.goto (-21), 3) := by decide +kernel
theorem dX1_init_47 : decode cX1_init 47 = .ok (.aload_n 0, 1) := by decide +kernel
theorem dX1_init_48 : decode cX1_init 48 = .ok (.iconst 4, 1) := by decide +kernel
theorem dX1_init_49 : decode cX1_init 49 = .ok (.newarray .int, 2) := by decide +kernel
theorem dX1_init_51 : decode cX1_init 51 = .ok (.putfield 20, 3) := by decide +kernel
theorem dX1_init_54 : decode cX1_init 54 = .ok (.aload_n 0, 1) := by decide +kernel
theorem dX1_init_55 : decode cX1_init 55 = .ok (.iconst 4, 1) := by decide +kernel
theorem dX1_init_56 : decode cX1_init 56 = .ok (.newarray .int, 2) := by decide +kernel
theorem dX1_init_58 : decode cX1_init 58 = .ok (.putfield 23, 3) := by decide +kernel
theorem dX1_init_61 : decode cX1_init 61 = .ok (.return_, 1) := by decide +kernel
theorem dX1_poke_0 : decode cX1_poke 0 = .ok (.iload_n 1, 1) := by decide +kernel
theorem dX1_poke_1 : decode cX1_poke 1 = .ok (.iconst 0, 1) := by decide +kernel
theorem dX1_poke_2 : decode cX1_poke 2 = .ok (.sipush 2047, 3) := by decide +kernel
theorem dX1_poke_5 : decode cX1_poke 5 = .ok (.invokestatic 26, 3) := by decide +kernel
theorem dX1_poke_8 : decode cX1_poke 8 = .ok (.ifCond .ne 13, 3) := by decide +kernel
theorem dX1_poke_11 : decode cX1_poke 11 = .ok (.new 30, 3) := by decide +kernel
theorem dX1_poke_14 : decode cX1_poke 14 = .ok (.dup, 1) := by decide +kernel
theorem dX1_poke_15 : decode cX1_poke 15 = .ok (.ldc 32, 2) := by decide +kernel
theorem dX1_poke_17 : decode cX1_poke 17 = .ok (.invokespecial 34, 3) := by decide +kernel
theorem dX1_poke_20 : decode cX1_poke 20 = .ok (.athrow, 1) := by decide +kernel
theorem dX1_poke_21 : decode cX1_poke 21 = .ok (.aload_n 0, 1) := by decide +kernel
theorem dX1_poke_22 : decode cX1_poke 22 = .ok (.getfield 9, 3) := by decide +kernel
theorem dX1_poke_25 : decode cX1_poke 25 = .ok (.iload_n 1, 1) := by decide +kernel
theorem dX1_poke_26 : decode cX1_poke 26 = .ok (.iload_n 2, 1) := by decide +kernel
theorem dX1_poke_27 : decode cX1_poke 27 = .ok (.iastore, 1) := by decide +kernel
theorem dX1_poke_28 : decode cX1_poke 28 = .ok (.return_, 1) := by decide +kernel
theorem dX1_picture_0 : decode cX1_picture 0 = .ok (.aload_n 0, 1) := by decide +kernel
theorem dX1_picture_1 : decode cX1_picture 1 = .ok (.iload_n 1, 1) := by decide +kernel
theorem dX1_picture_2 : decode cX1_picture 2 = .ok (.invokevirtual 37, 3) := by decide +kernel
theorem dX1_picture_5 : decode cX1_picture 5 = .ok (.astore 7, 2) := by decide +kernel
theorem dX1_picture_7 : decode cX1_picture 7 = .ok (.iload_n 2, 1) := by decide +kernel
theorem dX1_picture_8 : decode cX1_picture 8 = .ok (.ifCond .ge 13, 3) := by decide +kernel
theorem dX1_picture_11 : decode cX1_picture 11 = .ok (.new 41, 3) := by decide +kernel
theorem dX1_picture_14 : decode cX1_picture 14 = .ok (.dup, 1) := by decide +kernel
theorem dX1_picture_15 : decode cX1_picture 15 = .ok (.ldc 43, 2) := by decide +kernel
theorem dX1_picture_17 : decode cX1_picture 17 = .ok (.invokespecial 45, 3) := by decide +kernel
theorem dX1_picture_20 : decode cX1_picture 20 = .ok (.athrow, 1) := by decide +kernel
theorem dX1_picture_21 : decode cX1_picture 21 = .ok (.iload_n 3, 1) := by decide +kernel
theorem dX1_picture_22 : decode cX1_picture 22 = .ok (.iconst 0, 1) := by decide +kernel
theorem dX1_picture_23 : decode cX1_picture 23 = .ok (.bipush 10, 2) := by decide +kernel
theorem dX1_picture_25 : decode cX1_picture 25 = .ok (.invokestatic 26, 3) := by decide +kernel
theorem dX1_picture_28 : decode cX1_picture 28 = .ok (.ifCond .eq 14, 3) := by decide +kernel
theorem dX1_picture_31 : decode cX1_picture 31 = .ok (.iload 4, 2) := by decide +kernel
theorem dX1_picture_33 : decode cX1_picture 33 = .ok (.iconst 0, 1) := by decide +kernel
theorem dX1_picture_34 : decode cX1_picture 34 = .ok (.bipush 10, 2) := by decide +kernel
theorem dX1_picture_36 : decode cX1_picture 36 = .ok (.invokestatic 26, 3) := by decide +kernel
theorem dX1_picture_39 : decode cX1_picture 39 = .ok (.ifCond .ne 13, 3) := by decide +kernel
theorem dX1_picture_42 : decode cX1_picture 42 = .ok (.new 41, 3) := by decide +kernel
theorem dX1_picture_45 : decode cX1_picture 45 = .ok (.dup, 1) := by decide +kernel
theorem dX1_picture_46 : decode cX1_picture 46 = .ok (.ldc 46, 2) := by decide +kernel
theorem dX1_picture_48 : decode cX1_picture 48 = .ok (.invokespecial 45, 3) := by decide +kernel
theorem dX1_picture_51 : decode cX1_picture 51 = .ok (.athrow, 1) := by decide +kernel
theorem dX1_picture_52 : decode cX1_picture 52 = .ok (.iload 5, 2) := by decide +kernel
theorem dX1_picture_54 : decode cX1_picture 54 = .ok (.iconst 1, 1) := by decide +kernel
theorem dX1_picture_55 : decode cX1_picture 55 = .ok (.bipush 11, 2) := by decide +kernel
theorem dX1_picture_57 : decode cX1_picture 57 = .ok (.invokestatic 26, 3) := by decide +kernel
theorem dX1_picture_60 : decode cX1_picture 60 = .ok (.ifCond .ne 13, 3) := by decide +kernel
theorem dX1_picture_63 : decode cX1_picture 63 = .ok (.new 41, 3) := by decide +kernel
theorem dX1_picture_66 : decode cX1_picture 66 = .ok (.dup, 1) := by decide +kernel
theorem dX1_picture_67 : decode cX1_picture 67 = .ok (.ldc 48, 2) := by decide +kernel
theorem dX1_picture_69 : decode cX1_picture 69 = .ok (.invokespecial 45, 3) := by decide +kernel
theorem dX1_picture_72 : decode cX1_picture 72 = .ok (.athrow, 1) := by decide +kernel
theorem dX1_picture_73 : decode cX1_picture 73 = .ok (.iload 6, 2) := by decide +kernel
theorem dX1_picture_75 : decode cX1_picture 75 = .ok (.iconst 0, 1) := by decide +kernel
theorem dX1_picture_76 : decode cX1_picture 76 = .ok (.bipush 7, 2) := by decide +kernel
theorem dX1_picture_78 : decode cX1_picture 78 = .ok (.invokestatic 26, 3) := by decide +kernel
theorem dX1_picture_81 : decode cX1_picture 81 = .ok (.ifCond .ne 13, 3) := by decide +kernel
theorem dX1_picture_84 : decode cX1_picture 84 = .ok (.new 41, 3) := by decide +kernel
theorem dX1_picture_87 : decode cX1_picture 87 = .ok (.dup, 1) := by decide +kernel
theorem dX1_picture_88 : decode cX1_picture 88 = .ok (.ldc 50, 2) := by decide +kernel
theorem dX1_picture_90 : decode cX1_picture 90 = .ok (.invokespecial 45, 3) := by decide +kernel
theorem dX1_picture_93 : decode cX1_picture 93 = .ok (.athrow, 1) := by decide +kernel
theorem dX1_picture_94 : decode cX1_picture 94 = .ok (.aload 7, 2) := by decide +kernel
theorem dX1_picture_96 : decode cX1_picture 96 = .ok (.iload_n 2, 1) := by decide +kernel
theorem dX1_picture_97 : decode cX1_picture 97 = .ok (.putfield 52, 3) := by decide +kernel
theorem dX1_picture_100 : decode cX1_picture 100 = .ok (.aload 7, 2) := by decide +kernel
theorem dX1_picture_102 : decode cX1_picture 102 = .ok (.iload 6, 2) := by decide +kernel
theorem dX1_picture_104 : decode cX1_picture 104 = .ok (.putfield 56, 3) := by decide +kernel
theorem dX1_picture_107 : decode cX1_picture 107 = .ok (.aload 7, 2) := by decide +kernel
theorem dX1_picture_109 : decode cX1_picture 109 = .ok (.iload_n 3, 1) := by decide +kernel
theorem dX1_picture_110 : decode cX1_picture 110 = .ok (.iload 4, 2) := by decide +kernel
theorem dX1_picture_112 : decode cX1_picture 112 = .ok (.iload 5, 2) := by decide +kernel
theorem dX1_picture_114 : decode cX1_picture 114 = .ok (.invokevirtual 59, 3) := by decide +kernel
theorem dX1_picture_117 : decode cX1_picture 117 = .ok (.return_, 1) := by decide +kernel
theorem dX1_manner_0 : decode cX1_manner 0 = .ok (.aload_n 0, 1) := by decide +kernel
theorem dX1_manner_1 : decode cX1_manner 1 = .ok (.iload_n 1, 1) := by decide +kernel
theorem dX1_manner_2 : decode cX1_manner 2 = .ok (.invokevirtual 37, 3) := by decide +kernel
theorem dX1_manner_5 : decode cX1_manner 5 = .ok (.astore 5, 2) := by decide +kernel
theorem dX1_manner_7 : decode cX1_manner 7 = .ok (.iload_n 2, 1) := by decide +kernel
theorem dX1_manner_8 : decode cX1_manner 8 = .ok (.iconst 0, 1) := by decide +kernel
theorem dX1_manner_9 : decode cX1_manner 9 = .ok (.iconst 3, 1) := by decide +kernel
theorem dX1_manner_10 : decode cX1_manner 10 = .ok (.invokestatic 26, 3) := by decide +kernel
theorem dX1_manner_13 : decode cX1_manner 13 = .ok (.ifCond .eq 12, 3) := by decide +kernel
theorem dX1_manner_16 : decode cX1_manner 16 = .ok (.iload_n 3, 1) := by decide +kernel
theorem dX1_manner_17 : decode cX1_manner 17 = .ok (.iconst 0, 1) := by decide +kernel
theorem dX1_manner_18 : decode cX1_manner 18 = .ok (.iconst 3, 1) := by decide +kernel
theorem dX1_manner_19 : decode cX1_manner 19 = .ok (.invokestatic 26, 3) := by decide +kernel
theorem dX1_manner_22 : decode cX1_manner 22 = .ok (.ifCond .ne 13, 3) := by decide +kernel
theorem dX1_manner_25 : decode cX1_manner 25 = .ok (.new 41, 3) := by decide +kernel
theorem dX1_manner_28 : decode cX1_manner 28 = .ok (.dup, 1) := by decide +kernel
theorem dX1_manner_29 : decode cX1_manner 29 = .ok (.ldc 63, 2) := by decide +kernel
theorem dX1_manner_31 : decode cX1_manner 31 = .ok (.invokespecial 45, 3) := by decide +kernel
theorem dX1_manner_34 : decode cX1_manner 34 = .ok (.athrow, 1) := by decide +kernel
theorem dX1_manner_35 : decode cX1_manner 35 = .ok (.iload 4, 2) := by decide +kernel
theorem dX1_manner_37 : decode cX1_manner 37 = .ok (.iconst 0, 1) := by decide +kernel
theorem dX1_manner_38 : decode cX1_manner 38 = .ok (.iconst 3, 1) := by decide +kernel
theorem dX1_manner_39 : decode cX1_manner 39 = .ok (.invokestatic 26, 3) := by decide +kernel
theorem dX1_manner_42 : decode cX1_manner 42 = .ok (.ifCond .ne 13, 3) := by decide +kernel
theorem dX1_manner_45 : decode cX1_manner 45 = .ok (.new 41, 3) := by decide +kernel
theorem dX1_manner_48 : decode cX1_manner 48 = .ok (.dup, 1) := by decide +kernel
theorem dX1_manner_49 : decode cX1_manner 49 = .ok (.ldc 65, 2) := by decide +kernel
theorem dX1_manner_51 : decode cX1_manner 51 = .ok (.invokespecial 45, 3) := by decide +kernel
theorem dX1_manner_54 : decode cX1_manner 54 = .ok (.athrow, 1) := by decide +kernel
theorem dX1_manner_55 : decode cX1_manner 55 = .ok (.aload 5, 2) := by decide +kernel
theorem dX1_manner_57 : decode cX1_manner 57 = .ok (.iload_n 2, 1) := by decide +kernel
theorem dX1_manner_58 : decode cX1_manner 58 = .ok (.putfield 67, 3) := by decide +kernel
theorem dX1_manner_61 : decode cX1_manner 61 = .ok (.aload 5, 2) := by decide +kernel
theorem dX1_manner_63 : decode cX1_manner 63 = .ok (.iload_n 3, 1) := by decide +kernel
theorem dX1_manner_64 : decode cX1_manner 64 = .ok (.putfield 70, 3) := by decide +kernel
theorem dX1_manner_67 : decode cX1_manner 67 = .ok (.aload 5, 2) := by decide +kernel
theorem dX1_manner_69 : decode cX1_manner 69 = .ok (.iload 4, 2) := by decide +kernel
theorem dX1_manner_71 : decode cX1_manner 71 = .ok (.putfield 73, 3) := by decide +kernel
theorem dX1_manner_74 : decode cX1_manner 74 = .ok (.return_, 1) := by decide +kernel
theorem dX1_border_0 : decode cX1_border 0 = .ok (.aload_n 0, 1) := by decide +kernel
theorem dX1_border_1 : decode cX1_border 1 = .ok (.iload_n 1, 1) := by decide +kernel
theorem dX1_border_2 : decode cX1_border 2 = .ok (.invokevirtual 37, 3) := by decide +kernel
theorem dX1_border_5 : decode cX1_border 5 = .ok (.getfield 76, 3) := by decide +kernel
theorem dX1_border_8 : decode cX1_border 8 = .ok (.astore 6, 2) := by decide +kernel
theorem dX1_border_10 : decode cX1_border 10 = .ok (.aload 6, 2) := by decide +kernel
theorem dX1_border_12 : decode cX1_border 12 = .ok (.iconst 0, 1) := by decide +kernel
theorem dX1_border_13 : decode cX1_border 13 = .ok (.iload_n 2, 1) := by decide +kernel
theorem dX1_border_14 : decode cX1_border 14 = .ok (.iastore, 1) := by decide +kernel
theorem dX1_border_15 : decode cX1_border 15 = .ok (.aload 6, 2) := by decide +kernel
theorem dX1_border_17 : decode cX1_border 17 = .ok (.iconst 1, 1) := by decide +kernel
theorem dX1_border_18 : decode cX1_border 18 = .ok (.iload_n 3, 1) := by decide +kernel
theorem dX1_border_19 : decode cX1_border 19 = .ok (.iastore, 1) := by decide +kernel
theorem dX1_border_20 : decode cX1_border 20 = .ok (.aload 6, 2) := by decide +kernel
theorem dX1_border_22 : decode cX1_border 22 = .ok (.iconst 2, 1) := by decide +kernel
theorem dX1_border_23 : decode cX1_border 23 = .ok (.iload 4, 2) := by decide +kernel
theorem dX1_border_25 : decode cX1_border 25 = .ok (.iastore, 1) := by decide +kernel
theorem dX1_border_26 : decode cX1_border 26 = .ok (.aload 6, 2) := by decide +kernel
theorem dX1_border_28 : decode cX1_border 28 = .ok (.iconst 3, 1) := by decide +kernel
theorem dX1_border_29 : decode cX1_border 29 = .ok (.iload 5, 2) := by decide +kernel
theorem dX1_border_31 : decode cX1_border 31 = .ok (.iastore, 1) := by decide +kernel
theorem dX1_border_32 : decode cX1_border 32 = .ok (.return_, 1) := by decide +kernel
theorem dX1_texel_0 : decode cX1_texel 0 = .ok (.aload_n 0, 1) := by decide +kernel
theorem dX1_texel_1 : decode cX1_texel 1 = .ok (.iload_n 1, 1) := by decide +kernel
theorem dX1_texel_2 : decode cX1_texel 2 = .ok (.invokevirtual 37, 3) := by decide +kernel
theorem dX1_texel_5 : decode cX1_texel 5 = .ok (.astore 6, 2) := by decide +kernel
theorem dX1_texel_7 : decode cX1_texel 7 = .ok (.iload_n 2, 1) := by decide +kernel
theorem dX1_texel_8 : decode cX1_texel 8 = .ok (.iconst 0, 1) := by decide +kernel
theorem dX1_texel_9 : decode cX1_texel 9 = .ok (.aload 6, 2) := by decide +kernel
theorem dX1_texel_11 : decode cX1_texel 11 = .ok (.getfield 79, 3) := by decide +kernel
theorem dX1_texel_14 : decode cX1_texel 14 = .ok (.iconst 1, 1) := by decide +kernel
theorem dX1_texel_15 : decode cX1_texel 15 = .ok (.isub, 1) := by decide +kernel
theorem dX1_texel_16 : decode cX1_texel 16 = .ok (.invokestatic 26, 3) := by decide +kernel
theorem dX1_texel_19 : decode cX1_texel 19 = .ok (.ifCond .ne 13, 3) := by decide +kernel
theorem dX1_texel_22 : decode cX1_texel 22 = .ok (.new 30, 3) := by decide +kernel
theorem dX1_texel_25 : decode cX1_texel 25 = .ok (.dup, 1) := by decide +kernel
theorem dX1_texel_26 : decode cX1_texel 26 = .ok (.ldc 82, 2) := by decide +kernel
theorem dX1_texel_28 : decode cX1_texel 28 = .ok (.invokespecial 34, 3) := by decide +kernel
theorem dX1_texel_31 : decode cX1_texel 31 = .ok (.athrow, 1) := by decide +kernel
theorem dX1_texel_32 : decode cX1_texel 32 = .ok (.iload_n 3, 1) := by decide +kernel
theorem dX1_texel_33 : decode cX1_texel 33 = .ok (.iconst 0, 1) := by decide +kernel
theorem dX1_texel_34 : decode cX1_texel 34 = .ok (.aload 6, 2) := by decide +kernel
theorem dX1_texel_36 : decode cX1_texel 36 = .ok (.iload_n 2, 1) := by decide +kernel
theorem dX1_texel_37 : decode cX1_texel 37 = .ok (.invokevirtual 84, 3) := by decide +kernel
theorem dX1_texel_40 : decode cX1_texel 40 = .ok (.iconst 1, 1) := by decide +kernel
theorem dX1_texel_41 : decode cX1_texel 41 = .ok (.isub, 1) := by decide +kernel
theorem dX1_texel_42 : decode cX1_texel 42 = .ok (.invokestatic 26, 3) := by decide +kernel
theorem dX1_texel_45 : decode cX1_texel 45 = .ok (.ifCond .eq 20, 3) := by decide +kernel
theorem dX1_texel_48 : decode cX1_texel 48 = .ok (.iload 4, 2) := by decide +kernel
theorem dX1_texel_50 : decode cX1_texel 50 = .ok (.iconst 0, 1) := by decide +kernel
theorem dX1_texel_51 : decode cX1_texel 51 = .ok (.aload 6, 2) := by decide +kernel
theorem dX1_texel_53 : decode cX1_texel 53 = .ok (.iload_n 2, 1) := by decide +kernel
theorem dX1_texel_54 : decode cX1_texel 54 = .ok (.invokevirtual 88, 3) := by decide +kernel
theorem dX1_texel_57 : decode cX1_texel 57 = .ok (.iconst 1, 1) := by decide +kernel
theorem dX1_texel_58 : decode cX1_texel 58 = .ok (.isub, 1) := by decide +kernel
theorem dX1_texel_59 : decode cX1_texel 59 = .ok (.invokestatic 26, 3) := by decide +kernel
theorem dX1_texel_62 : decode cX1_texel 62 = .ok (.ifCond .ne 13, 3) := by decide +kernel
theorem dX1_texel_65 : decode cX1_texel 65 = .ok (.new 30, 3) := by decide +kernel
theorem dX1_texel_68 : decode cX1_texel 68 = .ok (.dup, 1) := by decide +kernel
theorem dX1_texel_69 : decode cX1_texel 69 = .ok (.ldc 91, 2) := by decide +kernel
theorem dX1_texel_71 : decode cX1_texel 71 = .ok (.invokespecial 34, 3) := by decide +kernel
theorem dX1_texel_74 : decode cX1_texel 74 = .ok (.athrow, 1) := by decide +kernel
theorem dX1_texel_75 : decode cX1_texel 75 = .ok (.iload 5, 2) := by decide +kernel
theorem dX1_texel_77 : decode cX1_texel 77 = .ok (.iconst 0, 1) := by decide +kernel
theorem dX1_texel_78 : decode cX1_texel 78 = .ok (.iconst 3, 1) := by decide +kernel
theorem dX1_texel_79 : decode cX1_texel 79 = .ok (.invokestatic 26, 3) := by decide +kernel
theorem dX1_texel_82 : decode cX1_texel 82 = .ok (.ifCond .ne 13, 3) := by decide +kernel
theorem dX1_texel_85 : decode cX1_texel 85 = .ok (.new 30, 3) := by decide +kernel
theorem dX1_texel_88 : decode cX1_texel 88 = .ok (.dup, 1) := by decide +kernel
theorem dX1_texel_89 : decode cX1_texel 89 = .ok (.ldc 93, 2) := by decide +kernel
theorem dX1_texel_91 : decode cX1_texel 91 = .ok (.invokespecial 34, 3) := by decide +kernel
theorem dX1_texel_94 : decode cX1_texel 94 = .ok (.athrow, 1) := by decide +kernel
theorem dX1_texel_95 : decode cX1_texel 95 = .ok (.aload_n 0, 1) := by decide +kernel
theorem dX1_texel_96 : decode cX1_texel 96 = .ok (.aload 6, 2) := by decide +kernel
theorem dX1_texel_98 : decode cX1_texel 98 = .ok (.iload_n 2, 1) := by decide +kernel
theorem dX1_texel_99 : decode cX1_texel 99 = .ok (.iload_n 3, 1) := by decide +kernel
theorem dX1_texel_100 : decode cX1_texel 100 = .ok (.iload 4, 2) := by decide +kernel
theorem dX1_texel_102 : decode cX1_texel 102 = .ok (.iload 5, 2) := by decide +kernel
theorem dX1_texel_104 : decode cX1_texel 104 = .ok (.invokevirtual 95, 3) := by decide +kernel
theorem dX1_texel_107 : decode cX1_texel 107 = .ok (.ireturn, 1) := by decide +kernel
theorem dX1_texels_0 : decode cX1_texels 0 = .ok (.aload_n 0, 1) := by decide +kernel
theorem dX1_texels_1 : decode cX1_texels 1 = .ok (.iload_n 1, 1) := by decide +kernel
theorem dX1_texels_2 : decode cX1_texels 2 = .ok (.invokevirtual 37, 3) := by decide +kernel
theorem dX1_texels_5 : decode cX1_texels 5 = .ok (.astore_n 2, 1) := by decide +kernel
theorem dX1_texels_6 : decode cX1_texels 6 = .ok (.aload_n 2, 1) := by decide +kernel
theorem dX1_texels_7 : decode cX1_texels 7 = .ok (.getfield 99, 3) := by decide +kernel
theorem dX1_texels_10 : decode cX1_texels 10 = .ok (.aload_n 2, 1) := by decide +kernel
theorem dX1_texels_11 : decode cX1_texels 11 = .ok (.getfield 79, 3) := by decide +kernel
theorem dX1_texels_14 : decode cX1_texels 14 = .ok (.iaload, 1) := by decide +kernel
theorem dX1_texels_15 : decode cX1_texels 15 = .ok (.ireturn, 1) := by decide +kernel
theorem dX1_read_0 : decode cX1_read 0 = .ok (.aload_n 0, 1) := by decide +kernel
theorem dX1_read_1 : decode cX1_read 1 = .ok (.iload_n 1, 1) := by decide +kernel
theorem dX1_read_2 : decode cX1_read 2 = .ok (.invokevirtual 37, 3) := by decide +kernel
theorem dX1_read_5 : decode cX1_read 5 = .ok (.astore 5, 2) := by decide +kernel
theorem dX1_read_7 : decode cX1_read 7 = .ok (.iload 4, 2) := by decide +kernel
theorem dX1_read_9 : decode cX1_read 9 = .ok (.iconst 0, 1) := by decide +kernel
theorem dX1_read_10 : decode cX1_read 10 = .ok (.aload 5, 2) := by decide +kernel
theorem dX1_read_12 : decode cX1_read 12 = .ok (.getfield 79, 3) := by decide +kernel
theorem dX1_read_15 : decode cX1_read 15 = .ok (.iconst 1, 1) := by decide +kernel
theorem dX1_read_16 : decode cX1_read 16 = .ok (.isub, 1) := by decide +kernel
theorem dX1_read_17 : decode cX1_read 17 = .ok (.bipush 16, 2) := by decide +kernel
theorem dX1_read_19 : decode cX1_read 19 = .ok (.ishl, 1) := by decide +kernel
theorem dX1_read_20 : decode cX1_read 20 = .ok (.invokestatic 102, 3) := by decide +kernel
theorem dX1_read_23 : decode cX1_read 23 = .ok (.istore 6, 2) := by decide +kernel
theorem dX1_read_25 : decode cX1_read 25 = .ok (.iload 6, 2) := by decide +kernel
theorem dX1_read_27 : decode cX1_read 27 = .ok (.bipush 16, 2) := by decide +kernel
theorem dX1_read_29 : decode cX1_read 29 = .ok (.ishr, 1) := by decide +kernel
theorem dX1_read_30 : decode cX1_read 30 = .ok (.istore 7, 2) := by decide +kernel
theorem dX1_read_32 : decode cX1_read 32 = .ok (.aload_n 0, 1) := by decide +kernel
theorem dX1_read_33 : decode cX1_read 33 = .ok (.aload 5, 2) := by decide +kernel
theorem dX1_read_35 : decode cX1_read 35 = .ok (.iload 7, 2) := by decide +kernel
theorem dX1_read_37 : decode cX1_read 37 = .ok (.iload_n 2, 1) := by decide +kernel
theorem dX1_read_38 : decode cX1_read 38 = .ok (.iload_n 3, 1) := by decide +kernel
theorem dX1_read_39 : decode cX1_read 39 = .ok (.aload_n 0, 1) := by decide +kernel
theorem dX1_read_40 : decode cX1_read 40 = .ok (.getfield 20, 3) := by decide +kernel
theorem dX1_read_43 : decode cX1_read 43 = .ok (.invokevirtual 106, 3) := by decide +kernel
theorem dX1_read_46 : decode cX1_read 46 = .ok (.aload 5, 2) := by decide +kernel
theorem dX1_read_48 : decode cX1_read 48 = .ok (.getfield 73, 3) := by decide +kernel
theorem dX1_read_51 : decode cX1_read 51 = .ok (.iconst 2, 1) := by decide +kernel
theorem dX1_read_52 : decode cX1_read 52 = .ok (.if_icmp .eq 12, 3) := by decide +kernel
theorem dX1_read_55 : decode cX1_read 55 = .ok (.aload 5, 2) := by decide +kernel
theorem dX1_read_57 : decode cX1_read 57 = .ok (.getfield 73, 3) := by decide +kernel
theorem dX1_read_60 : decode cX1_read 60 = .ok (.iconst 3, 1) := by decide +kernel
theorem dX1_read_61 : decode cX1_read 61 = .ok (.if_icmp .ne 7, 3) := by decide +kernel
theorem dX1_read_64 : decode cX1_read 64 = .ok (.iconst 1, 1) := by decide +kernel
theorem dX1_read_65 : decode cX1_read 65 = .ok (.goto 4, 3) := by decide +kernel
theorem dX1_read_68 : decode cX1_read 68 = .ok (.iconst 0, 1) := by decide +kernel
theorem dX1_read_69 : decode cX1_read 69 = .ok (.istore 8, 2) := by decide +kernel
theorem dX1_read_71 : decode cX1_read 71 = .ok (.iload 8, 2) := by decide +kernel
theorem dX1_read_73 : decode cX1_read 73 = .ok (.ifCond .eq 75, 3) := by decide +kernel
theorem dX1_read_76 : decode cX1_read 76 = .ok (.iload 7, 2) := by decide +kernel
theorem dX1_read_78 : decode cX1_read 78 = .ok (.iconst 1, 1) := by decide +kernel
theorem dX1_read_79 : decode cX1_read 79 = .ok (.iadd, 1) := by decide +kernel
theorem dX1_read_80 : decode cX1_read 80 = .ok (.aload 5, 2) := by decide +kernel
theorem dX1_read_82 : decode cX1_read 82 = .ok (.getfield 79, 3) := by decide +kernel
theorem dX1_read_85 : decode cX1_read 85 = .ok (.if_icmp .ge 63, 3) := by decide +kernel
theorem dX1_read_88 : decode cX1_read 88 = .ok (.aload_n 0, 1) := by decide +kernel
theorem dX1_read_89 : decode cX1_read 89 = .ok (.aload 5, 2) := by decide +kernel
theorem dX1_read_91 : decode cX1_read 91 = .ok (.iload 7, 2) := by decide +kernel
theorem dX1_read_93 : decode cX1_read 93 = .ok (.iconst 1, 1) := by decide +kernel
theorem dX1_read_94 : decode cX1_read 94 = .ok (.iadd, 1) := by decide +kernel
theorem dX1_read_95 : decode cX1_read 95 = .ok (.iload_n 2, 1) := by decide +kernel
theorem dX1_read_96 : decode cX1_read 96 = .ok (.iload_n 3, 1) := by decide +kernel
theorem dX1_read_97 : decode cX1_read 97 = .ok (.aload_n 0, 1) := by decide +kernel
theorem dX1_read_98 : decode cX1_read 98 = .ok (.getfield 23, 3) := by decide +kernel
theorem dX1_read_101 : decode cX1_read 101 = .ok (.invokevirtual 106, 3) := by decide +kernel
theorem dX1_read_104 : decode cX1_read 104 = .ok (.iconst 0, 1) := by decide +kernel
theorem dX1_read_105 : decode cX1_read 105 = .ok (.istore 9, 2) := by decide +kernel
theorem dX1_read_107 : decode cX1_read 107 = .ok (.iload 9, 2) := by decide +kernel
theorem dX1_read_109 : decode cX1_read 109 = .ok (.iconst 4, 1) := by decide +kernel
theorem dX1_read_110 : decode cX1_read 110 = .ok (.if_icmp .ge 38, 3) := by decide +kernel
theorem dX1_read_113 : decode cX1_read 113 = .ok (.aload_n 0, 1) := by decide +kernel
theorem dX1_read_114 : decode cX1_read 114 = .ok (.getfield 20, 3) := by decide +kernel
theorem dX1_read_117 : decode cX1_read 117 = .ok (.iload 9, 2) := by decide +kernel
theorem dX1_read_119 : decode cX1_read 119 = .ok (.aload_n 0, 1) := by decide +kernel
theorem dX1_read_120 : decode cX1_read 120 = .ok (.getfield 20, 3) := by decide +kernel
theorem dX1_read_123 : decode cX1_read 123 = .ok (.iload 9, 2) := by decide +kernel
theorem dX1_read_125 : decode cX1_read 125 = .ok (.iaload, 1) := by decide +kernel
theorem dX1_read_126 : decode cX1_read 126 = .ok (.aload_n 0, 1) := by decide +kernel
theorem dX1_read_127 : decode cX1_read 127 = .ok (.getfield 23, 3) := by decide +kernel
theorem dX1_read_130 : decode cX1_read 130 = .ok (.iload 9, 2) := by decide +kernel
theorem dX1_read_132 : decode cX1_read 132 = .ok (.iaload, 1) := by decide +kernel
theorem dX1_read_133 : decode cX1_read 133 = .ok (.iload 6, 2) := by decide +kernel
theorem dX1_read_135 : decode cX1_read 135 = .ok (.ldc 110, 2) := by decide +kernel
theorem dX1_read_137 : decode cX1_read 137 = .ok (.iand, 1) := by decide +kernel
theorem dX1_read_138 : decode cX1_read 138 = .ok (.invokestatic 111, 3) := by decide +kernel
theorem dX1_read_141 : decode cX1_read 141 = .ok (.iastore, 1) := by decide +kernel
theorem dX1_read_142 : decode cX1_read 142 = .ok (.iinc 9 1, 3) := by decide +kernel
theorem dX1_read_145 : decode cX1_read 145 = .ok (.goto (-38), 3) := by decide +kernel
theorem dX1_read_148 : decode cX1_read 148 = .ok (.aload_n 0, 1) := by decide +kernel
theorem dX1_read_149 : decode cX1_read 149 = .ok (.getfield 20, 3) := by decide +kernel
theorem dX1_read_152 : decode cX1_read 152 = .ok (.iconst 0, 1) := by decide +kernel
theorem dX1_read_153 : decode cX1_read 153 = .ok (.iaload, 1) := by decide +kernel
theorem dX1_read_154 : decode cX1_read 154 = .ok (.ireturn, 1) := by decide +kernel
theorem dX1_also_0 : decode cX1_also 0 = .ok (.iload_n 1, 1) := by decide +kernel
theorem dX1_also_1 : decode cX1_also 1 = .ok (.iconst 0, 1) := by decide +kernel
theorem dX1_also_2 : decode cX1_also 2 = .ok (.iconst 3, 1) := by decide +kernel
theorem dX1_also_3 : decode cX1_also 3 = .ok (.invokestatic 26, 3) := by decide +kernel
theorem dX1_also_6 : decode cX1_also 6 = .ok (.ifCond .ne 13, 3) := by decide +kernel
theorem dX1_also_9 : decode cX1_also 9 = .ok (.new 30, 3) := by decide +kernel
theorem dX1_also_12 : decode cX1_also 12 = .ok (.dup, 1) := by decide +kernel
theorem dX1_also_13 : decode cX1_also 13 = .ok (.ldc 93, 2) := by decide +kernel
theorem dX1_also_15 : decode cX1_also 15 = .ok (.invokespecial 34, 3) := by decide +kernel
theorem dX1_also_18 : decode cX1_also 18 = .ok (.athrow, 1) := by decide +kernel
theorem dX1_also_19 : decode cX1_also 19 = .ok (.aload_n 0, 1) := by decide +kernel
theorem dX1_also_20 : decode cX1_also 20 = .ok (.getfield 20, 3) := by decide +kernel
theorem dX1_also_23 : decode cX1_also 23 = .ok (.iload_n 1, 1) := by decide +kernel
theorem dX1_also_24 : decode cX1_also 24 = .ok (.iaload, 1) := by decide +kernel
theorem dX1_also_25 : decode cX1_also 25 = .ok (.ireturn, 1) := by decide +kernel
theorem dX1_unitAt_0 : decode cX1_unitAt 0 = .ok (.iload_n 1, 1) := by decide +kernel
theorem dX1_unitAt_1 : decode cX1_unitAt 1 = .ok (.iconst 0, 1) := by decide +kernel
theorem dX1_unitAt_2 : decode cX1_unitAt 2 = .ok (.iconst 3, 1) := by decide +kernel
theorem dX1_unitAt_3 : decode cX1_unitAt 3 = .ok (.invokestatic 26, 3) := by decide +kernel
theorem dX1_unitAt_6 : decode cX1_unitAt 6 = .ok (.ifCond .ne 13, 3) := by decide +kernel
theorem dX1_unitAt_9 : decode cX1_unitAt 9 = .ok (.new 114, 3) := by decide +kernel
theorem dX1_unitAt_12 : decode cX1_unitAt 12 = .ok (.dup, 1) := by decide +kernel
theorem dX1_unitAt_13 : decode cX1_unitAt 13 = .ok (.ldc 116, 2) := by decide +kernel
theorem dX1_unitAt_15 : decode cX1_unitAt 15 = .ok (.invokespecial 118, 3) := by decide +kernel
theorem dX1_unitAt_18 : decode cX1_unitAt 18 = .ok (.athrow, 1) := by decide +kernel
theorem dX1_unitAt_19 : decode cX1_unitAt 19 = .ok (.aload_n 0, 1) := by decide +kernel
theorem dX1_unitAt_20 : decode cX1_unitAt 20 = .ok (.getfield 15, 3) := by decide +kernel
theorem dX1_unitAt_23 : decode cX1_unitAt 23 = .ok (.iload_n 1, 1) := by decide +kernel
theorem dX1_unitAt_24 : decode cX1_unitAt 24 = .ok (.aaload, 1) := by decide +kernel
theorem dX1_unitAt_25 : decode cX1_unitAt 25 = .ok (.areturn, 1) := by decide +kernel
theorem dX1_sample_0 : decode cX1_sample 0 = .ok (.aload_n 1, 1) := by decide +kernel
theorem dX1_sample_1 : decode cX1_sample 1 = .ok (.getfield 73, 3) := by decide +kernel
theorem dX1_sample_4 : decode cX1_sample 4 = .ok (.iconst 1, 1) := by decide +kernel
theorem dX1_sample_5 : decode cX1_sample 5 = .ok (.if_icmp .eq 11, 3) := by decide +kernel
theorem dX1_sample_8 : decode cX1_sample 8 = .ok (.aload_n 1, 1) := by decide +kernel
theorem dX1_sample_9 : decode cX1_sample 9 = .ok (.getfield 73, 3) := by decide +kernel
theorem dX1_sample_12 : decode cX1_sample 12 = .ok (.iconst 3, 1) := by decide +kernel
theorem dX1_sample_13 : decode cX1_sample 13 = .ok (.if_icmp .ne 17, 3) := by decide +kernel
theorem dX1_sample_16 : decode cX1_sample 16 = .ok (.aload_n 0, 1) := by decide +kernel
theorem dX1_sample_17 : decode cX1_sample 17 = .ok (.aload_n 1, 1) := by decide +kernel
theorem dX1_sample_18 : decode cX1_sample 18 = .ok (.iload_n 2, 1) := by decide +kernel
theorem dX1_sample_19 : decode cX1_sample 19 = .ok (.iload_n 3, 1) := by decide +kernel
theorem dX1_sample_20 : decode cX1_sample 20 = .ok (.iload 4, 2) := by decide +kernel
theorem dX1_sample_22 : decode cX1_sample 22 = .ok (.aload 5, 2) := by decide +kernel
theorem dX1_sample_24 : decode cX1_sample 24 = .ok (.invokevirtual 119, 3) := by decide +kernel
theorem dX1_sample_27 : decode cX1_sample 27 = .ok (.goto 14, 3) := by decide +kernel
theorem dX1_sample_30 : decode cX1_sample 30 = .ok (.aload_n 0, 1) := by decide +kernel
theorem dX1_sample_31 : decode cX1_sample 31 = .ok (.aload_n 1, 1) := by decide +kernel
theorem dX1_sample_32 : decode cX1_sample 32 = .ok (.iload_n 2, 1) := by decide +kernel
theorem dX1_sample_33 : decode cX1_sample 33 = .ok (.iload_n 3, 1) := by decide +kernel
theorem dX1_sample_34 : decode cX1_sample 34 = .ok (.iload 4, 2) := by decide +kernel
theorem dX1_sample_36 : decode cX1_sample 36 = .ok (.aload 5, 2) := by decide +kernel
theorem dX1_sample_38 : decode cX1_sample 38 = .ok (.invokevirtual 122, 3) := by decide +kernel
theorem dX1_sample_41 : decode cX1_sample 41 = .ok (.return_, 1) := by decide +kernel
theorem dX1_sampleOne_0 : decode cX1_sampleOne 0 = .ok (.aload_n 1, 1) := by decide +kernel
theorem dX1_sampleOne_1 : decode cX1_sampleOne 1 = .ok (.iload_n 2, 1) := by decide +kernel
theorem dX1_sampleOne_2 : decode cX1_sampleOne 2 = .ok (.invokevirtual 84, 3) := by decide +kernel
theorem dX1_sampleOne_5 : decode cX1_sampleOne 5 = .ok (.istore 6, 2) := by decide +kernel
theorem dX1_sampleOne_7 : decode cX1_sampleOne 7 = .ok (.aload_n 1, 1) := by decide +kernel
theorem dX1_sampleOne_8 : decode cX1_sampleOne 8 = .ok (.iload_n 2, 1) := by decide +kernel
theorem dX1_sampleOne_9 : decode cX1_sampleOne 9 = .ok (.invokevirtual 88, 3) := by decide +kernel
theorem dX1_sampleOne_12 : decode cX1_sampleOne 12 = .ok (.istore 7, 2) := by decide +kernel
theorem dX1_sampleOne_14 : decode cX1_sampleOne 14 = .ok (.aload_n 1, 1) := by decide +kernel
theorem dX1_sampleOne_15 : decode cX1_sampleOne 15 = .ok (.getfield 67, 3) := by decide +kernel
theorem dX1_sampleOne_18 : decode cX1_sampleOne 18 = .ok (.iload_n 3, 1) := by decide +kernel
theorem dX1_sampleOne_19 : decode cX1_sampleOne 19 = .ok (.i2l, 1) := by decide +kernel
theorem dX1_sampleOne_20 : decode cX1_sampleOne 20 = .ok (.iload 6, 2) := by decide +kernel
theorem dX1_sampleOne_22 : decode cX1_sampleOne 22 = .ok (.i2l, 1) := by decide +kernel
theorem dX1_sampleOne_23 : decode cX1_sampleOne 23 = .ok (.lmul, 1) := by decide +kernel
theorem dX1_sampleOne_24 : decode cX1_sampleOne 24 = .ok (.invokestatic 125, 3) := by decide +kernel
theorem dX1_sampleOne_27 : decode cX1_sampleOne 27 = .ok (.iload 6, 2) := by decide +kernel
theorem dX1_sampleOne_29 : decode cX1_sampleOne 29 = .ok (.invokestatic 129, 3) := by decide +kernel
theorem dX1_sampleOne_32 : decode cX1_sampleOne 32 = .ok (.istore 8, 2) := by decide +kernel
theorem dX1_sampleOne_34 : decode cX1_sampleOne 34 = .ok (.aload_n 1, 1) := by decide +kernel
theorem dX1_sampleOne_35 : decode cX1_sampleOne 35 = .ok (.getfield 70, 3) := by decide +kernel
theorem dX1_sampleOne_38 : decode cX1_sampleOne 38 = .ok (.iload 4, 2) := by decide +kernel
theorem dX1_sampleOne_40 : decode cX1_sampleOne 40 = .ok (.i2l, 1) := by decide +kernel
theorem dX1_sampleOne_41 : decode cX1_sampleOne 41 = .ok (.iload 7, 2) := by decide +kernel
theorem dX1_sampleOne_43 : decode cX1_sampleOne 43 = .ok (.i2l, 1) := by decide +kernel
theorem dX1_sampleOne_44 : decode cX1_sampleOne 44 = .ok (.lmul, 1) := by decide +kernel
theorem dX1_sampleOne_45 : decode cX1_sampleOne 45 = .ok (.invokestatic 125, 3) := by decide +kernel
theorem dX1_sampleOne_48 : decode cX1_sampleOne 48 = .ok (.iload 7, 2) := by decide +kernel
theorem dX1_sampleOne_50 : decode cX1_sampleOne 50 = .ok (.invokestatic 129, 3) := by decide +kernel
theorem dX1_sampleOne_53 : decode cX1_sampleOne 53 = .ok (.istore 9, 2) := by decide +kernel
theorem dX1_sampleOne_55 : decode cX1_sampleOne 55 = .ok (.iconst 0, 1) := by decide +kernel
theorem dX1_sampleOne_56 : decode cX1_sampleOne 56 = .ok (.istore 10, 2) := by decide +kernel
theorem dX1_sampleOne_58 : decode cX1_sampleOne 58 = .ok (.iload 10, 2) := by decide +kernel
theorem dX1_sampleOne_60 : decode cX1_sampleOne 60 = .ok (.iconst 4, 1) := by decide +kernel
theorem dX1_sampleOne_61 : decode cX1_sampleOne 61 = .ok (.if_icmp .ge 26, 3) := by decide +kernel
theorem dX1_sampleOne_64 : decode cX1_sampleOne 64 = .ok (.aload 5, 2) := by decide +kernel
theorem dX1_sampleOne_66 : decode cX1_sampleOne 66 = .ok (.iload 10, 2) := by decide +kernel
theorem dX1_sampleOne_68 : decode cX1_sampleOne 68 = .ok (.aload_n 0, 1) := by decide +kernel
theorem dX1_sampleOne_69 : decode cX1_sampleOne 69 = .ok (.aload_n 1, 1) := by decide +kernel
theorem dX1_sampleOne_70 : decode cX1_sampleOne 70 = .ok (.iload_n 2, 1) := by decide +kernel
theorem dX1_sampleOne_71 : decode cX1_sampleOne 71 = .ok (.iload 8, 2) := by decide +kernel
theorem dX1_sampleOne_73 : decode cX1_sampleOne 73 = .ok (.iload 9, 2) := by decide +kernel
theorem dX1_sampleOne_75 : decode cX1_sampleOne 75 = .ok (.iload 10, 2) := by decide +kernel
theorem dX1_sampleOne_77 : decode cX1_sampleOne 77 = .ok (.invokevirtual 132, 3) := by decide +kernel
theorem dX1_sampleOne_80 : decode cX1_sampleOne 80 = .ok (.iastore, 1) := by decide +kernel
theorem dX1_sampleOne_81 : decode cX1_sampleOne 81 = .ok (.iinc 10 1, 3) := by decide +kernel
theorem dX1_sampleOne_84 : decode cX1_sampleOne 84 = .ok (.goto (-26), 3) := by decide +kernel
theorem dX1_sampleOne_87 : decode cX1_sampleOne 87 = .ok (.return_, 1) := by decide +kernel
theorem dX1_sampleFour_0 : decode cX1_sampleFour 0 = .ok (.aload_n 1, 1) := by decide +kernel
theorem dX1_sampleFour_1 : decode cX1_sampleFour 1 = .ok (.iload_n 2, 1) := by decide +kernel
theorem dX1_sampleFour_2 : decode cX1_sampleFour 2 = .ok (.invokevirtual 84, 3) := by decide +kernel
theorem dX1_sampleFour_5 : decode cX1_sampleFour 5 = .ok (.istore 6, 2) := by decide +kernel
theorem dX1_sampleFour_7 : decode cX1_sampleFour 7 = .ok (.aload_n 1, 1) := by decide +kernel
theorem dX1_sampleFour_8 : decode cX1_sampleFour 8 = .ok (.iload_n 2, 1) := by decide +kernel
theorem dX1_sampleFour_9 : decode cX1_sampleFour 9 = .ok (.invokevirtual 88, 3) := by decide +kernel
theorem dX1_sampleFour_12 : decode cX1_sampleFour 12 = .ok (.istore 7, 2) := by decide +kernel
theorem dX1_sampleFour_14 : decode cX1_sampleFour 14 = .ok (.iload_n 3, 1) := by decide +kernel
theorem dX1_sampleFour_15 : decode cX1_sampleFour 15 = .ok (.i2l, 1) := by decide +kernel
theorem dX1_sampleFour_16 : decode cX1_sampleFour 16 = .ok (.iload 6, 2) := by decide +kernel
theorem dX1_sampleFour_18 : decode cX1_sampleFour 18 = .ok (.i2l, 1) := by decide +kernel
theorem dX1_sampleFour_19 : decode cX1_sampleFour 19 = .ok (.lmul, 1) := by decide +kernel
theorem dX1_sampleFour_20 : decode cX1_sampleFour 20 = .ok (.ldc2_w 135, 3) := by decide +kernel
theorem dX1_sampleFour_23 : decode cX1_sampleFour 23 = .ok (.lsub, 1) := by decide +kernel
theorem dX1_sampleFour_24 : decode cX1_sampleFour 24 = .ok (.lstore 8, 2) := by decide +kernel
theorem dX1_sampleFour_26 : decode cX1_sampleFour 26 = .ok (.iload 4, 2) := by decide +kernel
theorem dX1_sampleFour_28 : decode cX1_sampleFour 28 = .ok (.i2l, 1) := by decide +kernel
theorem dX1_sampleFour_29 : decode cX1_sampleFour 29 = .ok (.iload 7, 2) := by decide +kernel
theorem dX1_sampleFour_31 : decode cX1_sampleFour 31 = .ok (.i2l, 1) := by decide +kernel
theorem dX1_sampleFour_32 : decode cX1_sampleFour 32 = .ok (.lmul, 1) := by decide +kernel
theorem dX1_sampleFour_33 : decode cX1_sampleFour 33 = .ok (.ldc2_w 135, 3) := by decide +kernel
theorem dX1_sampleFour_36 : decode cX1_sampleFour 36 = .ok (.lsub, 1) := by decide +kernel
theorem dX1_sampleFour_37 : decode cX1_sampleFour 37 = .ok (.lstore 10, 2) := by decide +kernel
theorem dX1_sampleFour_39 : decode cX1_sampleFour 39 = .ok (.aload_n 1, 1) := by decide +kernel
theorem dX1_sampleFour_40 : decode cX1_sampleFour 40 = .ok (.getfield 67, 3) := by decide +kernel
theorem dX1_sampleFour_43 : decode cX1_sampleFour 43 = .ok (.lload 8, 2) := by decide +kernel
theorem dX1_sampleFour_45 : decode cX1_sampleFour 45 = .ok (.invokestatic 125, 3) := by decide +kernel
theorem dX1_sampleFour_48 : decode cX1_sampleFour 48 = .ok (.iload 6, 2) := by decide +kernel
theorem dX1_sampleFour_50 : decode cX1_sampleFour 50 = .ok (.invokestatic 129, 3) := by decide +kernel
theorem dX1_sampleFour_53 : decode cX1_sampleFour 53 = .ok (.istore 12, 2) := by decide +kernel
theorem dX1_sampleFour_55 : decode cX1_sampleFour 55 = .ok (.aload_n 1, 1) := by decide +kernel
theorem dX1_sampleFour_56 : decode cX1_sampleFour 56 = .ok (.getfield 67, 3) := by decide +kernel
theorem dX1_sampleFour_59 : decode cX1_sampleFour 59 = .ok (.lload 8, 2) := by decide +kernel
theorem dX1_sampleFour_61 : decode cX1_sampleFour 61 = .ok (.invokestatic 125, 3) := by decide +kernel
theorem dX1_sampleFour_64 : decode cX1_sampleFour 64 = .ok (.iconst 1, 1) := by decide +kernel
theorem dX1_sampleFour_65 : decode cX1_sampleFour 65 = .ok (.iadd, 1) := by decide +kernel
theorem dX1_sampleFour_66 : decode cX1_sampleFour 66 = .ok (.iload 6, 2) := by decide +kernel
theorem dX1_sampleFour_68 : decode cX1_sampleFour 68 = .ok (.invokestatic 129, 3) := by decide +kernel
theorem dX1_sampleFour_71 : decode cX1_sampleFour 71 = .ok (.istore 13, 2) := by decide +kernel
theorem dX1_sampleFour_73 : decode cX1_sampleFour 73 = .ok (.aload_n 1, 1) := by decide +kernel
theorem dX1_sampleFour_74 : decode cX1_sampleFour 74 = .ok (.getfield 70, 3) := by decide +kernel
theorem dX1_sampleFour_77 : decode cX1_sampleFour 77 = .ok (.lload 10, 2) := by decide +kernel
theorem dX1_sampleFour_79 : decode cX1_sampleFour 79 = .ok (.invokestatic 125, 3) := by decide +kernel
theorem dX1_sampleFour_82 : decode cX1_sampleFour 82 = .ok (.iload 7, 2) := by decide +kernel
theorem dX1_sampleFour_84 : decode cX1_sampleFour 84 = .ok (.invokestatic 129, 3) := by decide +kernel
theorem dX1_sampleFour_87 : decode cX1_sampleFour 87 = .ok (.istore 14, 2) := by decide +kernel
theorem dX1_sampleFour_89 : decode cX1_sampleFour 89 = .ok (.aload_n 1, 1) := by decide +kernel
theorem dX1_sampleFour_90 : decode cX1_sampleFour 90 = .ok (.getfield 70, 3) := by decide +kernel
theorem dX1_sampleFour_93 : decode cX1_sampleFour 93 = .ok (.lload 10, 2) := by decide +kernel
theorem dX1_sampleFour_95 : decode cX1_sampleFour 95 = .ok (.invokestatic 125, 3) := by decide +kernel
theorem dX1_sampleFour_98 : decode cX1_sampleFour 98 = .ok (.iconst 1, 1) := by decide +kernel
theorem dX1_sampleFour_99 : decode cX1_sampleFour 99 = .ok (.iadd, 1) := by decide +kernel
theorem dX1_sampleFour_100 : decode cX1_sampleFour 100 = .ok (.iload 7, 2) := by decide +kernel
theorem dX1_sampleFour_102 : decode cX1_sampleFour 102 = .ok (.invokestatic 129, 3) := by decide +kernel
theorem dX1_sampleFour_105 : decode cX1_sampleFour 105 = .ok (.istore 15, 2) := by decide +kernel
theorem dX1_sampleFour_107 : decode cX1_sampleFour 107 = .ok (.lload 8, 2) := by decide +kernel
theorem dX1_sampleFour_109 : decode cX1_sampleFour 109 = .ok (.invokestatic 137, 3) := by decide +kernel
theorem dX1_sampleFour_112 : decode cX1_sampleFour 112 = .ok (.istore 16, 2) := by decide +kernel
theorem dX1_sampleFour_114 : decode cX1_sampleFour 114 = .ok (.lload 10, 2) := by decide +kernel
theorem dX1_sampleFour_116 : decode cX1_sampleFour 116 = .ok (.invokestatic 137, 3) := by decide +kernel
theorem dX1_sampleFour_119 : decode cX1_sampleFour 119 = .ok (.istore 17, 2) := by decide +kernel
theorem dX1_sampleFour_121 : decode cX1_sampleFour 121 = .ok (.iconst 0, 1) := by decide +kernel
theorem dX1_sampleFour_122 : decode cX1_sampleFour 122 = .ok (.istore 18, 2) := by decide +kernel
theorem dX1_sampleFour_124 : decode cX1_sampleFour 124 = .ok (.iload 18, 2) := by decide +kernel
theorem dX1_sampleFour_126 : decode cX1_sampleFour 126 = .ok (.iconst 4, 1) := by decide +kernel
theorem dX1_sampleFour_127 : decode cX1_sampleFour 127 = .ok (.if_icmp .ge 85, 3) := by decide +kernel
theorem dX1_sampleFour_130 : decode cX1_sampleFour 130 = .ok (.aload_n 0, 1) := by decide +kernel
theorem dX1_sampleFour_131 : decode cX1_sampleFour 131 = .ok (.aload_n 1, 1) := by decide +kernel
theorem dX1_sampleFour_132 : decode cX1_sampleFour 132 = .ok (.iload_n 2, 1) := by decide +kernel
theorem dX1_sampleFour_133 : decode cX1_sampleFour 133 = .ok (.iload 12, 2) := by decide +kernel
theorem dX1_sampleFour_135 : decode cX1_sampleFour 135 = .ok (.iload 14, 2) := by decide +kernel
theorem dX1_sampleFour_137 : decode cX1_sampleFour 137 = .ok (.iload 18, 2) := by decide +kernel
theorem dX1_sampleFour_139 : decode cX1_sampleFour 139 = .ok (.invokevirtual 132, 3) := by decide +kernel
theorem dX1_sampleFour_142 : decode cX1_sampleFour 142 = .ok (.aload_n 0, 1) := by decide +kernel
theorem dX1_sampleFour_143 : decode cX1_sampleFour 143 = .ok (.aload_n 1, 1) := by decide +kernel
theorem dX1_sampleFour_144 : decode cX1_sampleFour 144 = .ok (.iload_n 2, 1) := by decide +kernel
theorem dX1_sampleFour_145 : decode cX1_sampleFour 145 = .ok (.iload 13, 2) := by decide +kernel
theorem dX1_sampleFour_147 : decode cX1_sampleFour 147 = .ok (.iload 14, 2) := by decide +kernel
theorem dX1_sampleFour_149 : decode cX1_sampleFour 149 = .ok (.iload 18, 2) := by decide +kernel
theorem dX1_sampleFour_151 : decode cX1_sampleFour 151 = .ok (.invokevirtual 132, 3) := by decide +kernel
theorem dX1_sampleFour_154 : decode cX1_sampleFour 154 = .ok (.iload 16, 2) := by decide +kernel
theorem dX1_sampleFour_156 : decode cX1_sampleFour 156 = .ok (.invokestatic 111, 3) := by decide +kernel
theorem dX1_sampleFour_159 : decode cX1_sampleFour 159 = .ok (.istore 19, 2) := by decide +kernel
theorem dX1_sampleFour_161 : decode cX1_sampleFour 161 = .ok (.aload_n 0, 1) := by decide +kernel
theorem dX1_sampleFour_162 : decode cX1_sampleFour 162 = .ok (.aload_n 1, 1) := by decide +kernel
theorem dX1_sampleFour_163 : decode cX1_sampleFour 163 = .ok (.iload_n 2, 1) := by decide +kernel
theorem dX1_sampleFour_164 : decode cX1_sampleFour 164 = .ok (.iload 12, 2) := by decide +kernel
theorem dX1_sampleFour_166 : decode cX1_sampleFour 166 = .ok (.iload 15, 2) := by decide +kernel
theorem dX1_sampleFour_168 : decode cX1_sampleFour 168 = .ok (.iload 18, 2) := by decide +kernel
theorem dX1_sampleFour_170 : decode cX1_sampleFour 170 = .ok (.invokevirtual 132, 3) := by decide +kernel
theorem dX1_sampleFour_173 : decode cX1_sampleFour 173 = .ok (.aload_n 0, 1) := by decide +kernel
theorem dX1_sampleFour_174 : decode cX1_sampleFour 174 = .ok (.aload_n 1, 1) := by decide +kernel
theorem dX1_sampleFour_175 : decode cX1_sampleFour 175 = .ok (.iload_n 2, 1) := by decide +kernel
theorem dX1_sampleFour_176 : decode cX1_sampleFour 176 = .ok (.iload 13, 2) := by decide +kernel
theorem dX1_sampleFour_178 : decode cX1_sampleFour 178 = .ok (.iload 15, 2) := by decide +kernel
theorem dX1_sampleFour_180 : decode cX1_sampleFour 180 = .ok (.iload 18, 2) := by decide +kernel
theorem dX1_sampleFour_182 : decode cX1_sampleFour 182 = .ok (.invokevirtual 132, 3) := by decide +kernel
theorem dX1_sampleFour_185 : decode cX1_sampleFour 185 = .ok (.iload 16, 2) := by decide +kernel
theorem dX1_sampleFour_187 : decode cX1_sampleFour 187 = .ok (.invokestatic 111, 3) := by decide +kernel
theorem dX1_sampleFour_190 : decode cX1_sampleFour 190 = .ok (.istore 20, 2) := by decide +kernel
theorem dX1_sampleFour_192 : decode cX1_sampleFour 192 = .ok (.aload 5, 2) := by decide +kernel
theorem dX1_sampleFour_194 : decode cX1_sampleFour 194 = .ok (.iload 18, 2) := by decide +kernel
theorem dX1_sampleFour_196 : decode cX1_sampleFour 196 = .ok (.iload 19, 2) := by decide +kernel
theorem dX1_sampleFour_198 : decode cX1_sampleFour 198 = .ok (.iload 20, 2) := by decide +kernel
theorem dX1_sampleFour_200 : decode cX1_sampleFour 200 = .ok (.iload 17, 2) := by decide +kernel
theorem dX1_sampleFour_202 : decode cX1_sampleFour 202 = .ok (.invokestatic 111, 3) := by decide +kernel
theorem dX1_sampleFour_205 : decode cX1_sampleFour 205 = .ok (.iastore, 1) := by decide +kernel
theorem dX1_sampleFour_206 : decode cX1_sampleFour 206 = .ok (.iinc 18 1, 3) := by decide +kernel
theorem dX1_sampleFour_209 : decode cX1_sampleFour 209 = .ok (.goto (-85), 3) := by decide +kernel
theorem dX1_sampleFour_212 : decode cX1_sampleFour 212 = .ok (.return_, 1) := by decide +kernel
theorem dX1_storedOrBorder_0 : decode cX1_storedOrBorder 0 = .ok (.iload_n 3, 1) := by decide +kernel
theorem dX1_storedOrBorder_1 : decode cX1_storedOrBorder 1 = .ok (.iconst (-1), 1) := by decide +kernel
theorem dX1_storedOrBorder_2 : decode cX1_storedOrBorder 2 = .ok (.if_icmp .eq 9, 3) := by decide +kernel
theorem dX1_storedOrBorder_5 : decode cX1_storedOrBorder 5 = .ok (.iload 4, 2) := by decide +kernel
theorem dX1_storedOrBorder_7 : decode cX1_storedOrBorder 7 = .ok (.iconst (-1), 1) := by decide +kernel
theorem dX1_storedOrBorder_8 : decode cX1_storedOrBorder 8 = .ok (.if_icmp .ne 11, 3) := by decide +kernel
theorem dX1_storedOrBorder_11 : decode cX1_storedOrBorder 11 = .ok (.aload_n 1, 1) := by decide +kernel
theorem dX1_storedOrBorder_12 : decode cX1_storedOrBorder 12 = .ok (.getfield 76, 3) := by decide +kernel
theorem dX1_storedOrBorder_15 : decode cX1_storedOrBorder 15 = .ok (.iload 5, 2) := by decide +kernel
theorem dX1_storedOrBorder_17 : decode cX1_storedOrBorder 17 = .ok (.iaload, 1) := by decide +kernel
theorem dX1_storedOrBorder_18 : decode cX1_storedOrBorder 18 = .ok (.ireturn, 1) := by decide +kernel
theorem dX1_storedOrBorder_19 : decode cX1_storedOrBorder 19 = .ok (.aload_n 0, 1) := by decide +kernel
theorem dX1_storedOrBorder_20 : decode cX1_storedOrBorder 20 = .ok (.aload_n 1, 1) := by decide +kernel
theorem dX1_storedOrBorder_21 : decode cX1_storedOrBorder 21 = .ok (.iload_n 2, 1) := by decide +kernel
theorem dX1_storedOrBorder_22 : decode cX1_storedOrBorder 22 = .ok (.iload_n 3, 1) := by decide +kernel
theorem dX1_storedOrBorder_23 : decode cX1_storedOrBorder 23 = .ok (.iload 4, 2) := by decide +kernel
theorem dX1_storedOrBorder_25 : decode cX1_storedOrBorder 25 = .ok (.iload 5, 2) := by decide +kernel
theorem dX1_storedOrBorder_27 : decode cX1_storedOrBorder 27 = .ok (.invokevirtual 95, 3) := by decide +kernel
theorem dX1_storedOrBorder_30 : decode cX1_storedOrBorder 30 = .ok (.ireturn, 1) := by decide +kernel
theorem dX1_stored_0 : decode cX1_stored 0 = .ok (.aload_n 1, 1) := by decide +kernel
theorem dX1_stored_1 : decode cX1_stored 1 = .ok (.getfield 56, 3) := by decide +kernel
theorem dX1_stored_4 : decode cX1_stored 4 = .ok (.iconst 4, 1) := by decide +kernel
theorem dX1_stored_5 : decode cX1_stored 5 = .ok (.imul, 1) := by decide +kernel
theorem dX1_stored_6 : decode cX1_stored 6 = .ok (.iload 5, 2) := by decide +kernel
theorem dX1_stored_8 : decode cX1_stored 8 = .ok (.iadd, 1) := by decide +kernel
theorem dX1_stored_9 : decode cX1_stored 9 = .ok (.istore 6, 2) := by decide +kernel
theorem dX1_stored_11 : decode cX1_stored 11 = .ok (.iconst 1, 1) := by decide +kernel
theorem dX1_stored_12 : decode cX1_stored 12 = .ok (.getstatic 140, 3) := by decide +kernel
theorem dX1_stored_15 : decode cX1_stored 15 = .ok (.iload 6, 2) := by decide +kernel
theorem dX1_stored_17 : decode cX1_stored 17 = .ok (.iaload, 1) := by decide +kernel
theorem dX1_stored_18 : decode cX1_stored 18 = .ok (.ishl, 1) := by decide +kernel
theorem dX1_stored_19 : decode cX1_stored 19 = .ok (.iconst 1, 1) := by decide +kernel
theorem dX1_stored_20 : decode cX1_stored 20 = .ok (.isub, 1) := by decide +kernel
theorem dX1_stored_21 : decode cX1_stored 21 = .ok (.istore 7, 2) := by decide +kernel
theorem dX1_stored_23 : decode cX1_stored 23 = .ok (.iload 7, 2) := by decide +kernel
theorem dX1_stored_25 : decode cX1_stored 25 = .ok (.ifCond .ne 16, 3) := by decide +kernel
theorem dX1_stored_28 : decode cX1_stored 28 = .ok (.iload 5, 2) := by decide +kernel
theorem dX1_stored_30 : decode cX1_stored 30 = .ok (.iconst 3, 1) := by decide +kernel
theorem dX1_stored_31 : decode cX1_stored 31 = .ok (.if_icmp .ne 8, 3) := by decide +kernel
theorem dX1_stored_34 : decode cX1_stored 34 = .ok (.ldc 143, 2) := by decide +kernel
theorem dX1_stored_36 : decode cX1_stored 36 = .ok (.goto 4, 3) := by decide +kernel
theorem dX1_stored_39 : decode cX1_stored 39 = .ok (.iconst 0, 1) := by decide +kernel
theorem dX1_stored_40 : decode cX1_stored 40 = .ok (.ireturn, 1) := by decide +kernel
theorem dX1_stored_41 : decode cX1_stored 41 = .ok (.aload_n 1, 1) := by decide +kernel
theorem dX1_stored_42 : decode cX1_stored 42 = .ok (.iload_n 2, 1) := by decide +kernel
theorem dX1_stored_43 : decode cX1_stored 43 = .ok (.iload_n 3, 1) := by decide +kernel
theorem dX1_stored_44 : decode cX1_stored 44 = .ok (.iload 4, 2) := by decide +kernel
theorem dX1_stored_46 : decode cX1_stored 46 = .ok (.invokevirtual 144, 3) := by decide +kernel
theorem dX1_stored_49 : decode cX1_stored 49 = .ok (.i2l, 1) := by decide +kernel
theorem dX1_stored_50 : decode cX1_stored 50 = .ok (.getstatic 147, 3) := by decide +kernel
theorem dX1_stored_53 : decode cX1_stored 53 = .ok (.aload_n 1, 1) := by decide +kernel
theorem dX1_stored_54 : decode cX1_stored 54 = .ok (.getfield 56, 3) := by decide +kernel
theorem dX1_stored_57 : decode cX1_stored 57 = .ok (.iaload, 1) := by decide +kernel
theorem dX1_stored_58 : decode cX1_stored 58 = .ok (.i2l, 1) := by decide +kernel
theorem dX1_stored_59 : decode cX1_stored 59 = .ok (.lmul, 1) := by decide +kernel
theorem dX1_stored_60 : decode cX1_stored 60 = .ok (.lstore 8, 2) := by decide +kernel
theorem dX1_stored_62 : decode cX1_stored 62 = .ok (.lload 8, 2) := by decide +kernel
theorem dX1_stored_64 : decode cX1_stored 64 = .ok (.ldc2_w 150, 3) := by decide +kernel
theorem dX1_stored_67 : decode cX1_stored 67 = .ok (.land, 1) := by decide +kernel
theorem dX1_stored_68 : decode cX1_stored 68 = .ok (.l2i, 1) := by decide +kernel
theorem dX1_stored_69 : decode cX1_stored 69 = .ok (.getstatic 152, 3) := by decide +kernel
theorem dX1_stored_72 : decode cX1_stored 72 = .ok (.iload 6, 2) := by decide +kernel
theorem dX1_stored_74 : decode cX1_stored 74 = .ok (.iaload, 1) := by decide +kernel
theorem dX1_stored_75 : decode cX1_stored 75 = .ok (.iadd, 1) := by decide +kernel
theorem dX1_stored_76 : decode cX1_stored 76 = .ok (.istore 10, 2) := by decide +kernel
theorem dX1_stored_78 : decode cX1_stored 78 = .ok (.aload_n 0, 1) := by decide +kernel
theorem dX1_stored_79 : decode cX1_stored 79 = .ok (.aload_n 1, 1) := by decide +kernel
theorem dX1_stored_80 : decode cX1_stored 80 = .ok (.getfield 52, 3) := by decide +kernel
theorem dX1_stored_83 : decode cX1_stored 83 = .ok (.i2l, 1) := by decide +kernel
theorem dX1_stored_84 : decode cX1_stored 84 = .ok (.lload 8, 2) := by decide +kernel
theorem dX1_stored_86 : decode cX1_stored 86 = .ok (.iconst 5, 1) := by decide +kernel
theorem dX1_stored_87 : decode cX1_stored 87 = .ok (.lshr, 1) := by decide +kernel
theorem dX1_stored_88 : decode cX1_stored 88 = .ok (.ladd, 1) := by decide +kernel
theorem dX1_stored_89 : decode cX1_stored 89 = .ok (.invokevirtual 155, 3) := by decide +kernel
theorem dX1_stored_92 : decode cX1_stored 92 = .ok (.iload 10, 2) := by decide +kernel
theorem dX1_stored_94 : decode cX1_stored 94 = .ok (.iushr, 1) := by decide +kernel
theorem dX1_stored_95 : decode cX1_stored 95 = .ok (.iload 7, 2) := by decide +kernel
theorem dX1_stored_97 : decode cX1_stored 97 = .ok (.iand, 1) := by decide +kernel
theorem dX1_stored_98 : decode cX1_stored 98 = .ok (.istore 11, 2) := by decide +kernel
theorem dX1_stored_100 : decode cX1_stored 100 = .ok (.iload 11, 2) := by decide +kernel
theorem dX1_stored_102 : decode cX1_stored 102 = .ok (.ldc 143, 2) := by decide +kernel
theorem dX1_stored_104 : decode cX1_stored 104 = .ok (.imul, 1) := by decide +kernel
theorem dX1_stored_105 : decode cX1_stored 105 = .ok (.iload 7, 2) := by decide +kernel
theorem dX1_stored_107 : decode cX1_stored 107 = .ok (.iconst 1, 1) := by decide +kernel
theorem dX1_stored_108 : decode cX1_stored 108 = .ok (.ishr, 1) := by decide +kernel
theorem dX1_stored_109 : decode cX1_stored 109 = .ok (.iadd, 1) := by decide +kernel
theorem dX1_stored_110 : decode cX1_stored 110 = .ok (.iload 7, 2) := by decide +kernel
theorem dX1_stored_112 : decode cX1_stored 112 = .ok (.idiv, 1) := by decide +kernel
theorem dX1_stored_113 : decode cX1_stored 113 = .ok (.ireturn, 1) := by decide +kernel
theorem dX1_wordAt_0 : decode cX1_wordAt 0 = .ok (.lload_n 1, 1) := by decide +kernel
theorem dX1_wordAt_1 : decode cX1_wordAt 1 = .ok (.lconst 0, 1) := by decide +kernel
theorem dX1_wordAt_2 : decode cX1_wordAt 2 = .ok (.lcmp, 1) := by decide +kernel
theorem dX1_wordAt_3 : decode cX1_wordAt 3 = .ok (.ifCond .lt 11, 3) := by decide +kernel
theorem dX1_wordAt_6 : decode cX1_wordAt 6 = .ok (.lload_n 1, 1) := by decide +kernel
theorem dX1_wordAt_7 : decode cX1_wordAt 7 = .ok (.ldc2_w 158, 3) := by decide +kernel
theorem dX1_wordAt_10 : decode cX1_wordAt 10 = .ok (.lcmp, 1) := by decide +kernel
theorem dX1_wordAt_11 : decode cX1_wordAt 11 = .ok (.ifCond .lt 5, 3) := by decide +kernel
theorem dX1_wordAt_14 : decode cX1_wordAt 14 = .ok (.iconst 0, 1) := by decide +kernel
theorem dX1_wordAt_15 : decode cX1_wordAt 15 = .ok (.ireturn, 1) := by decide +kernel
theorem dX1_wordAt_16 : decode cX1_wordAt 16 = .ok (.aload_n 0, 1) := by decide +kernel
theorem dX1_wordAt_17 : decode cX1_wordAt 17 = .ok (.getfield 9, 3) := by decide +kernel
theorem dX1_wordAt_20 : decode cX1_wordAt 20 = .ok (.lload_n 1, 1) := by decide +kernel
theorem dX1_wordAt_21 : decode cX1_wordAt 21 = .ok (.l2i, 1) := by decide +kernel
theorem dX1_wordAt_22 : decode cX1_wordAt 22 = .ok (.iaload, 1) := by decide +kernel
theorem dX1_wordAt_23 : decode cX1_wordAt 23 = .ok (.ireturn, 1) := by decide +kernel
theorem dX1_wrapped_0 : decode cX1_wrapped 0 = .ok (.iload_n 0, 1) := by decide +kernel
theorem dX1_wrapped_1 : decode cX1_wrapped 1 = .ok (.tableswitch 48 0 2 #[27, 33, 42], 27) := by decide +kernel
theorem dX1_wrapped_28 : decode cX1_wrapped 28 = .ok (.iload_n 1, 1) := by decide +kernel
theorem dX1_wrapped_29 : decode cX1_wrapped 29 = .ok (.iload_n 2, 1) := by decide +kernel
theorem dX1_wrapped_30 : decode cX1_wrapped 30 = .ok (.iconst 1, 1) := by decide +kernel
theorem dX1_wrapped_31 : decode cX1_wrapped 31 = .ok (.isub, 1) := by decide +kernel
theorem dX1_wrapped_32 : decode cX1_wrapped 32 = .ok (.iand, 1) := by decide +kernel
theorem dX1_wrapped_33 : decode cX1_wrapped 33 = .ok (.ireturn, 1) := by decide +kernel
theorem dX1_wrapped_34 : decode cX1_wrapped 34 = .ok (.iload_n 1, 1) := by decide +kernel
theorem dX1_wrapped_35 : decode cX1_wrapped 35 = .ok (.iconst 0, 1) := by decide +kernel
theorem dX1_wrapped_36 : decode cX1_wrapped 36 = .ok (.iload_n 2, 1) := by decide +kernel
theorem dX1_wrapped_37 : decode cX1_wrapped 37 = .ok (.iconst 1, 1) := by decide +kernel
theorem dX1_wrapped_38 : decode cX1_wrapped 38 = .ok (.isub, 1) := by decide +kernel
theorem dX1_wrapped_39 : decode cX1_wrapped 39 = .ok (.invokestatic 102, 3) := by decide +kernel
theorem dX1_wrapped_42 : decode cX1_wrapped 42 = .ok (.ireturn, 1) := by decide +kernel
theorem dX1_wrapped_43 : decode cX1_wrapped 43 = .ok (.iload_n 1, 1) := by decide +kernel
theorem dX1_wrapped_44 : decode cX1_wrapped 44 = .ok (.iload_n 2, 1) := by decide +kernel
theorem dX1_wrapped_45 : decode cX1_wrapped 45 = .ok (.invokestatic 160, 3) := by decide +kernel
theorem dX1_wrapped_48 : decode cX1_wrapped 48 = .ok (.ireturn, 1) := by decide +kernel
theorem dX1_wrapped_49 : decode cX1_wrapped 49 = .ok (.iload_n 1, 1) := by decide +kernel
theorem dX1_wrapped_50 : decode cX1_wrapped 50 = .ok (.iconst 0, 1) := by decide +kernel
theorem dX1_wrapped_51 : decode cX1_wrapped 51 = .ok (.iload_n 2, 1) := by decide +kernel
theorem dX1_wrapped_52 : decode cX1_wrapped 52 = .ok (.iconst 1, 1) := by decide +kernel
theorem dX1_wrapped_53 : decode cX1_wrapped 53 = .ok (.isub, 1) := by decide +kernel
theorem dX1_wrapped_54 : decode cX1_wrapped 54 = .ok (.invokestatic 26, 3) := by decide +kernel
theorem dX1_wrapped_57 : decode cX1_wrapped 57 = .ok (.ifCond .eq 7, 3) := by decide +kernel
theorem dX1_wrapped_60 : decode cX1_wrapped 60 = .ok (.iload_n 1, 1) := by decide +kernel
theorem dX1_wrapped_61 : decode cX1_wrapped 61 = .ok (.goto 4, 3) := by decide +kernel
theorem dX1_wrapped_64 : decode cX1_wrapped 64 = .ok (.iconst (-1), 1) := by decide +kernel
theorem dX1_wrapped_65 : decode cX1_wrapped 65 = .ok (.ireturn, 1) := by decide +kernel
theorem dX1_mirrored_0 : decode cX1_mirrored 0 = .ok (.iload_n 0, 1) := by decide +kernel
theorem dX1_mirrored_1 : decode cX1_mirrored 1 = .ok (.iconst 2, 1) := by decide +kernel
theorem dX1_mirrored_2 : decode cX1_mirrored 2 = .ok (.iload_n 1, 1) := by decide +kernel
theorem dX1_mirrored_3 : decode cX1_mirrored 3 = .ok (.imul, 1) := by decide +kernel
theorem dX1_mirrored_4 : decode cX1_mirrored 4 = .ok (.iconst 1, 1) := by decide +kernel
theorem dX1_mirrored_5 : decode cX1_mirrored 5 = .ok (.isub, 1) := by decide +kernel
theorem dX1_mirrored_6 : decode cX1_mirrored 6 = .ok (.iand, 1) := by decide +kernel
theorem dX1_mirrored_7 : decode cX1_mirrored 7 = .ok (.istore_n 2, 1) := by decide +kernel
theorem dX1_mirrored_8 : decode cX1_mirrored 8 = .ok (.iload_n 2, 1) := by decide +kernel
theorem dX1_mirrored_9 : decode cX1_mirrored 9 = .ok (.iload_n 1, 1) := by decide +kernel
theorem dX1_mirrored_10 : decode cX1_mirrored 10 = .ok (.if_icmp .ge 7, 3) := by decide +kernel
theorem dX1_mirrored_13 : decode cX1_mirrored 13 = .ok (.iload_n 2, 1) := by decide +kernel
theorem dX1_mirrored_14 : decode cX1_mirrored 14 = .ok (.goto 10, 3) := by decide +kernel
theorem dX1_mirrored_17 : decode cX1_mirrored 17 = .ok (.iconst 2, 1) := by decide +kernel
theorem dX1_mirrored_18 : decode cX1_mirrored 18 = .ok (.iload_n 1, 1) := by decide +kernel
theorem dX1_mirrored_19 : decode cX1_mirrored 19 = .ok (.imul, 1) := by decide +kernel
theorem dX1_mirrored_20 : decode cX1_mirrored 20 = .ok (.iconst 1, 1) := by decide +kernel
theorem dX1_mirrored_21 : decode cX1_mirrored 21 = .ok (.isub, 1) := by decide +kernel
theorem dX1_mirrored_22 : decode cX1_mirrored 22 = .ok (.iload_n 2, 1) := by decide +kernel
theorem dX1_mirrored_23 : decode cX1_mirrored 23 = .ok (.isub, 1) := by decide +kernel
theorem dX1_mirrored_24 : decode cX1_mirrored 24 = .ok (.ireturn, 1) := by decide +kernel
theorem dX1_mix_0 : decode cX1_mix 0 = .ok (.iload_n 1, 1) := by decide +kernel
theorem dX1_mix_1 : decode cX1_mix 1 = .ok (.i2l, 1) := by decide +kernel
theorem dX1_mix_2 : decode cX1_mix 2 = .ok (.iload_n 0, 1) := by decide +kernel
theorem dX1_mix_3 : decode cX1_mix 3 = .ok (.i2l, 1) := by decide +kernel
theorem dX1_mix_4 : decode cX1_mix 4 = .ok (.lsub, 1) := by decide +kernel
theorem dX1_mix_5 : decode cX1_mix 5 = .ok (.lstore_n 3, 1) := by decide +kernel
theorem dX1_mix_6 : decode cX1_mix 6 = .ok (.iload_n 0, 1) := by decide +kernel
theorem dX1_mix_7 : decode cX1_mix 7 = .ok (.i2l, 1) := by decide +kernel
theorem dX1_mix_8 : decode cX1_mix 8 = .ok (.lload_n 3, 1) := by decide +kernel
theorem dX1_mix_9 : decode cX1_mix 9 = .ok (.iload_n 2, 1) := by decide +kernel
theorem dX1_mix_10 : decode cX1_mix 10 = .ok (.i2l, 1) := by decide +kernel
theorem dX1_mix_11 : decode cX1_mix 11 = .ok (.lmul, 1) := by decide +kernel
theorem dX1_mix_12 : decode cX1_mix 12 = .ok (.bipush 16, 2) := by decide +kernel
theorem dX1_mix_14 : decode cX1_mix 14 = .ok (.lshr, 1) := by decide +kernel
theorem dX1_mix_15 : decode cX1_mix 15 = .ok (.ladd, 1) := by decide +kernel
theorem dX1_mix_16 : decode cX1_mix 16 = .ok (.l2i, 1) := by decide +kernel
theorem dX1_mix_17 : decode cX1_mix 17 = .ok (.ireturn, 1) := by decide +kernel
theorem dX1_whole_0 : decode cX1_whole 0 = .ok (.lload_n 0, 1) := by decide +kernel
theorem dX1_whole_1 : decode cX1_whole 1 = .ok (.bipush 16, 2) := by decide +kernel
theorem dX1_whole_3 : decode cX1_whole 3 = .ok (.lshr, 1) := by decide +kernel
theorem dX1_whole_4 : decode cX1_whole 4 = .ok (.l2i, 1) := by decide +kernel
theorem dX1_whole_5 : decode cX1_whole 5 = .ok (.ireturn, 1) := by decide +kernel
theorem dX1_rest_0 : decode cX1_rest 0 = .ok (.lload_n 0, 1) := by decide +kernel
theorem dX1_rest_1 : decode cX1_rest 1 = .ok (.ldc2_w 164, 3) := by decide +kernel
theorem dX1_rest_4 : decode cX1_rest 4 = .ok (.land, 1) := by decide +kernel
theorem dX1_rest_5 : decode cX1_rest 5 = .ok (.l2i, 1) := by decide +kernel
theorem dX1_rest_6 : decode cX1_rest 6 = .ok (.ireturn, 1) := by decide +kernel
theorem dX1_cut_0 : decode cX1_cut 0 = .ok (.iload_n 1, 1) := by decide +kernel
theorem dX1_cut_1 : decode cX1_cut 1 = .ok (.iload_n 2, 1) := by decide +kernel
theorem dX1_cut_2 : decode cX1_cut 2 = .ok (.iload_n 0, 1) := by decide +kernel
theorem dX1_cut_3 : decode cX1_cut 3 = .ok (.invokestatic 166, 3) := by decide +kernel
theorem dX1_cut_6 : decode cX1_cut 6 = .ok (.invokestatic 171, 3) := by decide +kernel
theorem dX1_cut_9 : decode cX1_cut 9 = .ok (.ireturn, 1) := by decide +kernel
theorem dX1_within_0 : decode cX1_within 0 = .ok (.iload_n 0, 1) := by decide +kernel
theorem dX1_within_1 : decode cX1_within 1 = .ok (.iload_n 1, 1) := by decide +kernel
theorem dX1_within_2 : decode cX1_within 2 = .ok (.if_icmp .lt 12, 3) := by decide +kernel
theorem dX1_within_5 : decode cX1_within 5 = .ok (.iload_n 0, 1) := by decide +kernel
theorem dX1_within_6 : decode cX1_within 6 = .ok (.iload_n 2, 1) := by decide +kernel
theorem dX1_within_7 : decode cX1_within 7 = .ok (.if_icmp .gt 7, 3) := by decide +kernel
theorem dX1_within_10 : decode cX1_within 10 = .ok (.iconst 1, 1) := by decide +kernel
theorem dX1_within_11 : decode cX1_within 11 = .ok (.goto 4, 3) := by decide +kernel
theorem dX1_within_14 : decode cX1_within 14 = .ok (.iconst 0, 1) := by decide +kernel
theorem dX1_within_15 : decode cX1_within 15 = .ok (.ireturn, 1) := by decide +kernel
end
section
theorem dL_poke_0 : decode cL_poke 0 = .ok (.aload_n 0, 1) := by decide +kernel
theorem dL_poke_1 : decode cL_poke 1 = .ok (.iload_n 1, 1) := by decide +kernel
theorem dL_poke_2 : decode cL_poke 2 = .ok (.iload_n 2, 1) := by decide +kernel
theorem dL_poke_3 : decode cL_poke 3 = .ok (.invokevirtual 7, 3) := by decide +kernel
theorem dL_poke_6 : decode cL_poke 6 = .ok (.goto 6, 3) := by decide +kernel
theorem dL_poke_9 : decode cL_poke 9 = .ok (.astore_n 3, 1) := by decide +kernel
theorem dL_poke_10 : decode cL_poke 10 = .ok (.iconst 1, 1) := by decide +kernel
theorem dL_poke_11 : decode cL_poke 11 = .ok (.ireturn, 1) := by decide +kernel
theorem dL_poke_12 : decode cL_poke 12 = .ok (.iconst 0, 1) := by decide +kernel
theorem dL_poke_13 : decode cL_poke 13 = .ok (.ireturn, 1) := by decide +kernel
theorem dL_picture_0 : decode cL_picture 0 = .ok (.aload_n 0, 1) := by decide +kernel
theorem dL_picture_1 : decode cL_picture 1 = .ok (.iload_n 1, 1) := by decide +kernel
theorem dL_picture_2 : decode cL_picture 2 = .ok (.iload_n 2, 1) := by decide +kernel
theorem dL_picture_3 : decode cL_picture 3 = .ok (.iload_n 3, 1) := by decide +kernel
theorem dL_picture_4 : decode cL_picture 4 = .ok (.iload 4, 2) := by decide +kernel
theorem dL_picture_6 : decode cL_picture 6 = .ok (.iload 5, 2) := by decide +kernel
theorem dL_picture_8 : decode cL_picture 8 = .ok (.iload 6, 2) := by decide +kernel
theorem dL_picture_10 : decode cL_picture 10 = .ok (.invokevirtual 15, 3) := by decide +kernel
theorem dL_picture_13 : decode cL_picture 13 = .ok (.goto 11, 3) := by decide +kernel
theorem dL_picture_16 : decode cL_picture 16 = .ok (.astore 7, 2) := by decide +kernel
theorem dL_picture_18 : decode cL_picture 18 = .ok (.iconst 1, 1) := by decide +kernel
theorem dL_picture_19 : decode cL_picture 19 = .ok (.ireturn, 1) := by decide +kernel
theorem dL_picture_20 : decode cL_picture 20 = .ok (.astore 7, 2) := by decide +kernel
theorem dL_picture_22 : decode cL_picture 22 = .ok (.iconst 2, 1) := by decide +kernel
theorem dL_picture_23 : decode cL_picture 23 = .ok (.ireturn, 1) := by decide +kernel
theorem dL_picture_24 : decode cL_picture 24 = .ok (.iconst 0, 1) := by decide +kernel
theorem dL_picture_25 : decode cL_picture 25 = .ok (.ireturn, 1) := by decide +kernel
theorem dL_manner_0 : decode cL_manner 0 = .ok (.aload_n 0, 1) := by decide +kernel
theorem dL_manner_1 : decode cL_manner 1 = .ok (.iload_n 1, 1) := by decide +kernel
theorem dL_manner_2 : decode cL_manner 2 = .ok (.iload_n 2, 1) := by decide +kernel
theorem dL_manner_3 : decode cL_manner 3 = .ok (.iload_n 3, 1) := by decide +kernel
theorem dL_manner_4 : decode cL_manner 4 = .ok (.iload 4, 2) := by decide +kernel
theorem dL_manner_6 : decode cL_manner 6 = .ok (.invokevirtual 23, 3) := by decide +kernel
theorem dL_manner_9 : decode cL_manner 9 = .ok (.goto 11, 3) := by decide +kernel
theorem dL_manner_12 : decode cL_manner 12 = .ok (.astore 5, 2) := by decide +kernel
theorem dL_manner_14 : decode cL_manner 14 = .ok (.iconst 1, 1) := by decide +kernel
theorem dL_manner_15 : decode cL_manner 15 = .ok (.ireturn, 1) := by decide +kernel
theorem dL_manner_16 : decode cL_manner 16 = .ok (.astore 5, 2) := by decide +kernel
theorem dL_manner_18 : decode cL_manner 18 = .ok (.iconst 2, 1) := by decide +kernel
theorem dL_manner_19 : decode cL_manner 19 = .ok (.ireturn, 1) := by decide +kernel
theorem dL_manner_20 : decode cL_manner 20 = .ok (.iconst 0, 1) := by decide +kernel
theorem dL_manner_21 : decode cL_manner 21 = .ok (.ireturn, 1) := by decide +kernel
theorem dL_border_0 : decode cL_border 0 = .ok (.aload_n 0, 1) := by decide +kernel
theorem dL_border_1 : decode cL_border 1 = .ok (.iload_n 1, 1) := by decide +kernel
theorem dL_border_2 : decode cL_border 2 = .ok (.iload_n 2, 1) := by decide +kernel
theorem dL_border_3 : decode cL_border 3 = .ok (.iload_n 3, 1) := by decide +kernel
theorem dL_border_4 : decode cL_border 4 = .ok (.iload 4, 2) := by decide +kernel
theorem dL_border_6 : decode cL_border 6 = .ok (.iload 5, 2) := by decide +kernel
theorem dL_border_8 : decode cL_border 8 = .ok (.invokevirtual 27, 3) := by decide +kernel
theorem dL_border_11 : decode cL_border 11 = .ok (.goto 7, 3) := by decide +kernel
theorem dL_border_14 : decode cL_border 14 = .ok (.astore 6, 2) := by decide +kernel
theorem dL_border_16 : decode cL_border 16 = .ok (.iconst 1, 1) := by decide +kernel
theorem dL_border_17 : decode cL_border 17 = .ok (.ireturn, 1) := by decide +kernel
theorem dL_border_18 : decode cL_border 18 = .ok (.iconst 0, 1) := by decide +kernel
theorem dL_border_19 : decode cL_border 19 = .ok (.ireturn, 1) := by decide +kernel
theorem dL_texel_0 : decode cL_texel 0 = .ok (.aload 6, 2) := by decide +kernel
theorem dL_texel_2 : decode cL_texel 2 = .ok (.iconst 0, 1) := by decide +kernel
theorem dL_texel_3 : decode cL_texel 3 = .ok (.aload_n 0, 1) := by decide +kernel
theorem dL_texel_4 : decode cL_texel 4 = .ok (.iload_n 1, 1) := by decide +kernel
theorem dL_texel_5 : decode cL_texel 5 = .ok (.iload_n 2, 1) := by decide +kernel
theorem dL_texel_6 : decode cL_texel 6 = .ok (.iload_n 3, 1) := by decide +kernel
theorem dL_texel_7 : decode cL_texel 7 = .ok (.iload 4, 2) := by decide +kernel
theorem dL_texel_9 : decode cL_texel 9 = .ok (.iload 5, 2) := by decide +kernel
theorem dL_texel_11 : decode cL_texel 11 = .ok (.invokevirtual 31, 3) := by decide +kernel
theorem dL_texel_14 : decode cL_texel 14 = .ok (.i2l, 1) := by decide +kernel
theorem dL_texel_15 : decode cL_texel 15 = .ok (.lastore, 1) := by decide +kernel
theorem dL_texel_16 : decode cL_texel 16 = .ok (.goto 11, 3) := by decide +kernel
theorem dL_texel_19 : decode cL_texel 19 = .ok (.astore 7, 2) := by decide +kernel
theorem dL_texel_21 : decode cL_texel 21 = .ok (.iconst 1, 1) := by decide +kernel
theorem dL_texel_22 : decode cL_texel 22 = .ok (.ireturn, 1) := by decide +kernel
theorem dL_texel_23 : decode cL_texel 23 = .ok (.astore 7, 2) := by decide +kernel
theorem dL_texel_25 : decode cL_texel 25 = .ok (.iconst 2, 1) := by decide +kernel
theorem dL_texel_26 : decode cL_texel 26 = .ok (.ireturn, 1) := by decide +kernel
theorem dL_texel_27 : decode cL_texel 27 = .ok (.iconst 0, 1) := by decide +kernel
theorem dL_texel_28 : decode cL_texel 28 = .ok (.ireturn, 1) := by decide +kernel
theorem dL_texels_0 : decode cL_texels 0 = .ok (.aload_n 2, 1) := by decide +kernel
theorem dL_texels_1 : decode cL_texels 1 = .ok (.iconst 0, 1) := by decide +kernel
theorem dL_texels_2 : decode cL_texels 2 = .ok (.aload_n 0, 1) := by decide +kernel
theorem dL_texels_3 : decode cL_texels 3 = .ok (.iload_n 1, 1) := by decide +kernel
theorem dL_texels_4 : decode cL_texels 4 = .ok (.invokevirtual 35, 3) := by decide +kernel
theorem dL_texels_7 : decode cL_texels 7 = .ok (.i2l, 1) := by decide +kernel
theorem dL_texels_8 : decode cL_texels 8 = .ok (.lastore, 1) := by decide +kernel
theorem dL_texels_9 : decode cL_texels 9 = .ok (.goto 6, 3) := by decide +kernel
theorem dL_texels_12 : decode cL_texels 12 = .ok (.astore_n 3, 1) := by decide +kernel
theorem dL_texels_13 : decode cL_texels 13 = .ok (.iconst 1, 1) := by decide +kernel
theorem dL_texels_14 : decode cL_texels 14 = .ok (.ireturn, 1) := by decide +kernel
theorem dL_texels_15 : decode cL_texels 15 = .ok (.iconst 0, 1) := by decide +kernel
theorem dL_texels_16 : decode cL_texels 16 = .ok (.ireturn, 1) := by decide +kernel
theorem dL_read_0 : decode cL_read 0 = .ok (.aload 5, 2) := by decide +kernel
theorem dL_read_2 : decode cL_read 2 = .ok (.iconst 0, 1) := by decide +kernel
theorem dL_read_3 : decode cL_read 3 = .ok (.aload_n 0, 1) := by decide +kernel
theorem dL_read_4 : decode cL_read 4 = .ok (.iload_n 1, 1) := by decide +kernel
theorem dL_read_5 : decode cL_read 5 = .ok (.iload_n 2, 1) := by decide +kernel
theorem dL_read_6 : decode cL_read 6 = .ok (.iload_n 3, 1) := by decide +kernel
theorem dL_read_7 : decode cL_read 7 = .ok (.iload 4, 2) := by decide +kernel
theorem dL_read_9 : decode cL_read 9 = .ok (.invokevirtual 39, 3) := by decide +kernel
theorem dL_read_12 : decode cL_read 12 = .ok (.i2l, 1) := by decide +kernel
theorem dL_read_13 : decode cL_read 13 = .ok (.lastore, 1) := by decide +kernel
theorem dL_read_14 : decode cL_read 14 = .ok (.goto 7, 3) := by decide +kernel
theorem dL_read_17 : decode cL_read 17 = .ok (.astore 6, 2) := by decide +kernel
theorem dL_read_19 : decode cL_read 19 = .ok (.iconst 1, 1) := by decide +kernel
theorem dL_read_20 : decode cL_read 20 = .ok (.ireturn, 1) := by decide +kernel
theorem dL_read_21 : decode cL_read 21 = .ok (.iconst 0, 1) := by decide +kernel
theorem dL_read_22 : decode cL_read 22 = .ok (.ireturn, 1) := by decide +kernel
theorem dL_also_0 : decode cL_also 0 = .ok (.aload_n 2, 1) := by decide +kernel
theorem dL_also_1 : decode cL_also 1 = .ok (.iconst 0, 1) := by decide +kernel
theorem dL_also_2 : decode cL_also 2 = .ok (.aload_n 0, 1) := by decide +kernel
theorem dL_also_3 : decode cL_also 3 = .ok (.iload_n 1, 1) := by decide +kernel
theorem dL_also_4 : decode cL_also 4 = .ok (.invokevirtual 43, 3) := by decide +kernel
theorem dL_also_7 : decode cL_also 7 = .ok (.i2l, 1) := by decide +kernel
theorem dL_also_8 : decode cL_also 8 = .ok (.lastore, 1) := by decide +kernel
theorem dL_also_9 : decode cL_also 9 = .ok (.goto 6, 3) := by decide +kernel
theorem dL_also_12 : decode cL_also 12 = .ok (.astore_n 3, 1) := by decide +kernel
theorem dL_also_13 : decode cL_also 13 = .ok (.iconst 1, 1) := by decide +kernel
theorem dL_also_14 : decode cL_also 14 = .ok (.ireturn, 1) := by decide +kernel
theorem dL_also_15 : decode cL_also 15 = .ok (.iconst 0, 1) := by decide +kernel
theorem dL_also_16 : decode cL_also 16 = .ok (.ireturn, 1) := by decide +kernel
theorem dL_law_0 : decode cL_law 0 = .ok (.new 8, 3) := by decide +kernel
theorem dL_law_3 : decode cL_law 3 = .ok (.dup, 1) := by decide +kernel
theorem dL_law_4 : decode cL_law 4 = .ok (.invokespecial 46, 3) := by decide +kernel
theorem dL_law_7 : decode cL_law 7 = .ok (.astore_n 1, 1) := by decide +kernel
theorem dL_law_8 : decode cL_law 8 = .ok (.new 47, 3) := by decide +kernel
theorem dL_law_11 : decode cL_law 11 = .ok (.dup, 1) := by decide +kernel
theorem dL_law_12 : decode cL_law 12 = .ok (.invokespecial 49, 3) := by decide +kernel
theorem dL_law_15 : decode cL_law 15 = .ok (.astore_n 2, 1) := by decide +kernel
theorem dL_law_16 : decode cL_law 16 = .ok (.iconst 1, 1) := by decide +kernel
theorem dL_law_17 : decode cL_law 17 = .ok (.newarray .long, 2) := by decide +kernel
theorem dL_law_19 : decode cL_law 19 = .ok (.astore_n 3, 1) := by decide +kernel
theorem dL_law_20 : decode cL_law 20 = .ok (.iconst 0, 1) := by decide +kernel
theorem dL_law_21 : decode cL_law 21 = .ok (.istore 4, 2) := by decide +kernel
theorem dL_law_23 : decode cL_law 23 = .ok (.iload 4, 2) := by decide +kernel
theorem dL_law_25 : decode cL_law 25 = .ok (.aload_n 0, 1) := by decide +kernel
theorem dL_law_26 : decode cL_law 26 = .ok (.arraylength, 1) := by decide +kernel
theorem dL_law_27 : decode cL_law 27 = .ok (.bipush 7, 2) := by decide +kernel
theorem dL_law_29 : decode cL_law 29 = .ok (.isub, 1) := by decide +kernel
theorem dL_law_30 : decode cL_law 30 = .ok (.if_icmp .gt 674, 3) := by decide +kernel
theorem dL_law_33 : decode cL_law 33 = .ok (.aload_n 0, 1) := by decide +kernel
theorem dL_law_34 : decode cL_law 34 = .ok (.iload 4, 2) := by decide +kernel
theorem dL_law_36 : decode cL_law 36 = .ok (.iaload, 1) := by decide +kernel
theorem dL_law_37 : decode cL_law 37 = .ok (.bipush 7, 2) := by decide +kernel
theorem dL_law_39 : decode cL_law 39 = .ok (.iand, 1) := by decide +kernel
theorem dL_law_40 : decode cL_law 40 = .ok (.tableswitch 658 0 7 #[48, 96, 194, 266, 350, 454, 510, 602], 48) := by decide +kernel
theorem dL_law_88 : decode cL_law 88 = .ok (.aload_n 1, 1) := by decide +kernel
theorem dL_law_89 : decode cL_law 89 = .ok (.aload_n 0, 1) := by decide +kernel
theorem dL_law_90 : decode cL_law 90 = .ok (.iload 4, 2) := by decide +kernel
theorem dL_law_92 : decode cL_law 92 = .ok (.iconst 1, 1) := by decide +kernel
theorem dL_law_93 : decode cL_law 93 = .ok (.iadd, 1) := by decide +kernel
theorem dL_law_94 : decode cL_law 94 = .ok (.iaload, 1) := by decide +kernel
theorem dL_law_95 : decode cL_law 95 = .ok (.aload_n 0, 1) := by decide +kernel
theorem dL_law_96 : decode cL_law 96 = .ok (.iload 4, 2) := by decide +kernel
theorem dL_law_98 : decode cL_law 98 = .ok (.iconst 2, 1) := by decide +kernel
theorem dL_law_99 : decode cL_law 99 = .ok (.iadd, 1) := by decide +kernel
theorem dL_law_100 : decode cL_law 100 = .ok (.iaload, 1) := by decide +kernel
theorem dL_law_101 : decode cL_law 101 = .ok (.invokestatic 50, 3) := by decide +kernel
theorem dL_law_104 : decode cL_law 104 = .ok (.istore 5, 2) := by decide +kernel
theorem dL_law_106 : decode cL_law 106 = .ok (.aload_n 2, 1) := by decide +kernel
theorem dL_law_107 : decode cL_law 107 = .ok (.aload_n 0, 1) := by decide +kernel
theorem dL_law_108 : decode cL_law 108 = .ok (.iload 4, 2) := by decide +kernel
theorem dL_law_110 : decode cL_law 110 = .ok (.iconst 1, 1) := by decide +kernel
theorem dL_law_111 : decode cL_law 111 = .ok (.iadd, 1) := by decide +kernel
theorem dL_law_112 : decode cL_law 112 = .ok (.iaload, 1) := by decide +kernel
theorem dL_law_113 : decode cL_law 113 = .ok (.aload_n 0, 1) := by decide +kernel
theorem dL_law_114 : decode cL_law 114 = .ok (.iload 4, 2) := by decide +kernel
theorem dL_law_116 : decode cL_law 116 = .ok (.iconst 2, 1) := by decide +kernel
theorem dL_law_117 : decode cL_law 117 = .ok (.iadd, 1) := by decide +kernel
theorem dL_law_118 : decode cL_law 118 = .ok (.iaload, 1) := by decide +kernel
theorem dL_law_119 : decode cL_law 119 = .ok (.invokevirtual 55, 3) := by decide +kernel
theorem dL_law_122 : decode cL_law 122 = .ok (.aload_n 2, 1) := by decide +kernel
theorem dL_law_123 : decode cL_law 123 = .ok (.invokevirtual 56, 3) := by decide +kernel
theorem dL_law_126 : decode cL_law 126 = .ok (.iload 5, 2) := by decide +kernel
theorem dL_law_128 : decode cL_law 128 = .ok (.if_icmp .eq 5, 3) := by decide +kernel
theorem dL_law_131 : decode cL_law 131 = .ok (.iconst 0, 1) := by decide +kernel
theorem dL_law_132 : decode cL_law 132 = .ok (.ireturn, 1) := by decide +kernel
theorem dL_law_133 : decode cL_law 133 = .ok (.goto 565, 3) := by decide +kernel
theorem dL_law_136 : decode cL_law 136 = .ok (.aload_n 1, 1) := by decide +kernel
theorem dL_law_137 : decode cL_law 137 = .ok (.aload_n 0, 1) := by decide +kernel
theorem dL_law_138 : decode cL_law 138 = .ok (.iload 4, 2) := by decide +kernel
theorem dL_law_140 : decode cL_law 140 = .ok (.iconst 1, 1) := by decide +kernel
theorem dL_law_141 : decode cL_law 141 = .ok (.iadd, 1) := by decide +kernel
theorem dL_law_142 : decode cL_law 142 = .ok (.iaload, 1) := by decide +kernel
theorem dL_law_143 : decode cL_law 143 = .ok (.aload_n 0, 1) := by decide +kernel
theorem dL_law_144 : decode cL_law 144 = .ok (.iload 4, 2) := by decide +kernel
theorem dL_law_146 : decode cL_law 146 = .ok (.iconst 2, 1) := by decide +kernel
theorem dL_law_147 : decode cL_law 147 = .ok (.iadd, 1) := by decide +kernel
theorem dL_law_148 : decode cL_law 148 = .ok (.iaload, 1) := by decide +kernel
theorem dL_law_149 : decode cL_law 149 = .ok (.aload_n 0, 1) := by decide +kernel
theorem dL_law_150 : decode cL_law 150 = .ok (.iload 4, 2) := by decide +kernel
theorem dL_law_152 : decode cL_law 152 = .ok (.iconst 3, 1) := by decide +kernel
theorem dL_law_153 : decode cL_law 153 = .ok (.iadd, 1) := by decide +kernel
theorem dL_law_154 : decode cL_law 154 = .ok (.iaload, 1) := by decide +kernel
theorem dL_law_155 : decode cL_law 155 = .ok (.aload_n 0, 1) := by decide +kernel
theorem dL_law_156 : decode cL_law 156 = .ok (.iload 4, 2) := by decide +kernel
theorem dL_law_158 : decode cL_law 158 = .ok (.iconst 4, 1) := by decide +kernel
theorem dL_law_159 : decode cL_law 159 = .ok (.iadd, 1) := by decide +kernel
theorem dL_law_160 : decode cL_law 160 = .ok (.iaload, 1) := by decide +kernel
theorem dL_law_161 : decode cL_law 161 = .ok (.aload_n 0, 1) := by decide +kernel
theorem dL_law_162 : decode cL_law 162 = .ok (.iload 4, 2) := by decide +kernel
theorem dL_law_164 : decode cL_law 164 = .ok (.iconst 5, 1) := by decide +kernel
theorem dL_law_165 : decode cL_law 165 = .ok (.iadd, 1) := by decide +kernel
theorem dL_law_166 : decode cL_law 166 = .ok (.iaload, 1) := by decide +kernel
theorem dL_law_167 : decode cL_law 167 = .ok (.aload_n 0, 1) := by decide +kernel
theorem dL_law_168 : decode cL_law 168 = .ok (.iload 4, 2) := by decide +kernel
theorem dL_law_170 : decode cL_law 170 = .ok (.bipush 6, 2) := by decide +kernel
theorem dL_law_172 : decode cL_law 172 = .ok (.iadd, 1) := by decide +kernel
theorem dL_law_173 : decode cL_law 173 = .ok (.iaload, 1) := by decide +kernel
theorem dL_law_174 : decode cL_law 174 = .ok (.invokestatic 60, 3) := by decide +kernel
theorem dL_law_177 : decode cL_law 177 = .ok (.istore 5, 2) := by decide +kernel
theorem dL_law_179 : decode cL_law 179 = .ok (.aload_n 2, 1) := by decide +kernel
theorem dL_law_180 : decode cL_law 180 = .ok (.aload_n 0, 1) := by decide +kernel
theorem dL_law_181 : decode cL_law 181 = .ok (.iload 4, 2) := by decide +kernel
theorem dL_law_183 : decode cL_law 183 = .ok (.iconst 1, 1) := by decide +kernel
theorem dL_law_184 : decode cL_law 184 = .ok (.iadd, 1) := by decide +kernel
theorem dL_law_185 : decode cL_law 185 = .ok (.iaload, 1) := by decide +kernel
theorem dL_law_186 : decode cL_law 186 = .ok (.aload_n 0, 1) := by decide +kernel
theorem dL_law_187 : decode cL_law 187 = .ok (.iload 4, 2) := by decide +kernel
theorem dL_law_189 : decode cL_law 189 = .ok (.iconst 2, 1) := by decide +kernel
theorem dL_law_190 : decode cL_law 190 = .ok (.iadd, 1) := by decide +kernel
theorem dL_law_191 : decode cL_law 191 = .ok (.iaload, 1) := by decide +kernel
theorem dL_law_192 : decode cL_law 192 = .ok (.aload_n 0, 1) := by decide +kernel
theorem dL_law_193 : decode cL_law 193 = .ok (.iload 4, 2) := by decide +kernel
theorem dL_law_195 : decode cL_law 195 = .ok (.iconst 3, 1) := by decide +kernel
theorem dL_law_196 : decode cL_law 196 = .ok (.iadd, 1) := by decide +kernel
theorem dL_law_197 : decode cL_law 197 = .ok (.iaload, 1) := by decide +kernel
theorem dL_law_198 : decode cL_law 198 = .ok (.aload_n 0, 1) := by decide +kernel
theorem dL_law_199 : decode cL_law 199 = .ok (.iload 4, 2) := by decide +kernel
theorem dL_law_201 : decode cL_law 201 = .ok (.iconst 4, 1) := by decide +kernel
theorem dL_law_202 : decode cL_law 202 = .ok (.iadd, 1) := by decide +kernel
theorem dL_law_203 : decode cL_law 203 = .ok (.iaload, 1) := by decide +kernel
theorem dL_law_204 : decode cL_law 204 = .ok (.aload_n 0, 1) := by decide +kernel
theorem dL_law_205 : decode cL_law 205 = .ok (.iload 4, 2) := by decide +kernel
theorem dL_law_207 : decode cL_law 207 = .ok (.iconst 5, 1) := by decide +kernel
theorem dL_law_208 : decode cL_law 208 = .ok (.iadd, 1) := by decide +kernel
theorem dL_law_209 : decode cL_law 209 = .ok (.iaload, 1) := by decide +kernel
theorem dL_law_210 : decode cL_law 210 = .ok (.aload_n 0, 1) := by decide +kernel
theorem dL_law_211 : decode cL_law 211 = .ok (.iload 4, 2) := by decide +kernel
theorem dL_law_213 : decode cL_law 213 = .ok (.bipush 6, 2) := by decide +kernel
theorem dL_law_215 : decode cL_law 215 = .ok (.iadd, 1) := by decide +kernel
theorem dL_law_216 : decode cL_law 216 = .ok (.iaload, 1) := by decide +kernel
theorem dL_law_217 : decode cL_law 217 = .ok (.invokevirtual 63, 3) := by decide +kernel
theorem dL_law_220 : decode cL_law 220 = .ok (.aload_n 2, 1) := by decide +kernel
theorem dL_law_221 : decode cL_law 221 = .ok (.invokevirtual 56, 3) := by decide +kernel
theorem dL_law_224 : decode cL_law 224 = .ok (.iload 5, 2) := by decide +kernel
theorem dL_law_226 : decode cL_law 226 = .ok (.if_icmp .eq 5, 3) := by decide +kernel
theorem dL_law_229 : decode cL_law 229 = .ok (.iconst 0, 1) := by decide +kernel
theorem dL_law_230 : decode cL_law 230 = .ok (.ireturn, 1) := by decide +kernel
theorem dL_law_231 : decode cL_law 231 = .ok (.goto 467, 3) := by decide +kernel
theorem dL_law_234 : decode cL_law 234 = .ok (.aload_n 1, 1) := by decide +kernel
theorem dL_law_235 : decode cL_law 235 = .ok (.aload_n 0, 1) := by decide +kernel
theorem dL_law_236 : decode cL_law 236 = .ok (.iload 4, 2) := by decide +kernel
theorem dL_law_238 : decode cL_law 238 = .ok (.iconst 1, 1) := by decide +kernel
theorem dL_law_239 : decode cL_law 239 = .ok (.iadd, 1) := by decide +kernel
theorem dL_law_240 : decode cL_law 240 = .ok (.iaload, 1) := by decide +kernel
theorem dL_law_241 : decode cL_law 241 = .ok (.aload_n 0, 1) := by decide +kernel
theorem dL_law_242 : decode cL_law 242 = .ok (.iload 4, 2) := by decide +kernel
theorem dL_law_244 : decode cL_law 244 = .ok (.iconst 2, 1) := by decide +kernel
theorem dL_law_245 : decode cL_law 245 = .ok (.iadd, 1) := by decide +kernel
theorem dL_law_246 : decode cL_law 246 = .ok (.iaload, 1) := by decide +kernel
theorem dL_law_247 : decode cL_law 247 = .ok (.aload_n 0, 1) := by decide +kernel
theorem dL_law_248 : decode cL_law 248 = .ok (.iload 4, 2) := by decide +kernel
theorem dL_law_250 : decode cL_law 250 = .ok (.iconst 3, 1) := by decide +kernel
theorem dL_law_251 : decode cL_law 251 = .ok (.iadd, 1) := by decide +kernel
theorem dL_law_252 : decode cL_law 252 = .ok (.iaload, 1) := by decide +kernel
theorem dL_law_253 : decode cL_law 253 = .ok (.aload_n 0, 1) := by decide +kernel
theorem dL_law_254 : decode cL_law 254 = .ok (.iload 4, 2) := by decide +kernel
theorem dL_law_256 : decode cL_law 256 = .ok (.iconst 4, 1) := by decide +kernel
theorem dL_law_257 : decode cL_law 257 = .ok (.iadd, 1) := by decide +kernel
theorem dL_law_258 : decode cL_law 258 = .ok (.iaload, 1) := by decide +kernel
theorem dL_law_259 : decode cL_law 259 = .ok (.invokestatic 64, 3) := by decide +kernel
theorem dL_law_262 : decode cL_law 262 = .ok (.istore 5, 2) := by decide +kernel
theorem dL_law_264 : decode cL_law 264 = .ok (.aload_n 2, 1) := by decide +kernel
theorem dL_law_265 : decode cL_law 265 = .ok (.aload_n 0, 1) := by decide +kernel
theorem dL_law_266 : decode cL_law 266 = .ok (.iload 4, 2) := by decide +kernel
theorem dL_law_268 : decode cL_law 268 = .ok (.iconst 1, 1) := by decide +kernel
theorem dL_law_269 : decode cL_law 269 = .ok (.iadd, 1) := by decide +kernel
theorem dL_law_270 : decode cL_law 270 = .ok (.iaload, 1) := by decide +kernel
theorem dL_law_271 : decode cL_law 271 = .ok (.aload_n 0, 1) := by decide +kernel
theorem dL_law_272 : decode cL_law 272 = .ok (.iload 4, 2) := by decide +kernel
theorem dL_law_274 : decode cL_law 274 = .ok (.iconst 2, 1) := by decide +kernel
theorem dL_law_275 : decode cL_law 275 = .ok (.iadd, 1) := by decide +kernel
theorem dL_law_276 : decode cL_law 276 = .ok (.iaload, 1) := by decide +kernel
theorem dL_law_277 : decode cL_law 277 = .ok (.aload_n 0, 1) := by decide +kernel
theorem dL_law_278 : decode cL_law 278 = .ok (.iload 4, 2) := by decide +kernel
theorem dL_law_280 : decode cL_law 280 = .ok (.iconst 3, 1) := by decide +kernel
theorem dL_law_281 : decode cL_law 281 = .ok (.iadd, 1) := by decide +kernel
theorem dL_law_282 : decode cL_law 282 = .ok (.iaload, 1) := by decide +kernel
theorem dL_law_283 : decode cL_law 283 = .ok (.aload_n 0, 1) := by decide +kernel
theorem dL_law_284 : decode cL_law 284 = .ok (.iload 4, 2) := by decide +kernel
theorem dL_law_286 : decode cL_law 286 = .ok (.iconst 4, 1) := by decide +kernel
theorem dL_law_287 : decode cL_law 287 = .ok (.iadd, 1) := by decide +kernel
theorem dL_law_288 : decode cL_law 288 = .ok (.iaload, 1) := by decide +kernel
theorem dL_law_289 : decode cL_law 289 = .ok (.invokevirtual 67, 3) := by decide +kernel
theorem dL_law_292 : decode cL_law 292 = .ok (.aload_n 2, 1) := by decide +kernel
theorem dL_law_293 : decode cL_law 293 = .ok (.invokevirtual 56, 3) := by decide +kernel
theorem dL_law_296 : decode cL_law 296 = .ok (.iload 5, 2) := by decide +kernel
theorem dL_law_298 : decode cL_law 298 = .ok (.if_icmp .eq 5, 3) := by decide +kernel
theorem dL_law_301 : decode cL_law 301 = .ok (.iconst 0, 1) := by decide +kernel
theorem dL_law_302 : decode cL_law 302 = .ok (.ireturn, 1) := by decide +kernel
theorem dL_law_303 : decode cL_law 303 = .ok (.goto 395, 3) := by decide +kernel
theorem dL_law_306 : decode cL_law 306 = .ok (.aload_n 1, 1) := by decide +kernel
theorem dL_law_307 : decode cL_law 307 = .ok (.aload_n 0, 1) := by decide +kernel
theorem dL_law_308 : decode cL_law 308 = .ok (.iload 4, 2) := by decide +kernel
theorem dL_law_310 : decode cL_law 310 = .ok (.iconst 1, 1) := by decide +kernel
theorem dL_law_311 : decode cL_law 311 = .ok (.iadd, 1) := by decide +kernel
theorem dL_law_312 : decode cL_law 312 = .ok (.iaload, 1) := by decide +kernel
theorem dL_law_313 : decode cL_law 313 = .ok (.aload_n 0, 1) := by decide +kernel
theorem dL_law_314 : decode cL_law 314 = .ok (.iload 4, 2) := by decide +kernel
theorem dL_law_316 : decode cL_law 316 = .ok (.iconst 2, 1) := by decide +kernel
theorem dL_law_317 : decode cL_law 317 = .ok (.iadd, 1) := by decide +kernel
theorem dL_law_318 : decode cL_law 318 = .ok (.iaload, 1) := by decide +kernel
theorem dL_law_319 : decode cL_law 319 = .ok (.aload_n 0, 1) := by decide +kernel
theorem dL_law_320 : decode cL_law 320 = .ok (.iload 4, 2) := by decide +kernel
theorem dL_law_322 : decode cL_law 322 = .ok (.iconst 3, 1) := by decide +kernel
theorem dL_law_323 : decode cL_law 323 = .ok (.iadd, 1) := by decide +kernel
theorem dL_law_324 : decode cL_law 324 = .ok (.iaload, 1) := by decide +kernel
theorem dL_law_325 : decode cL_law 325 = .ok (.aload_n 0, 1) := by decide +kernel
theorem dL_law_326 : decode cL_law 326 = .ok (.iload 4, 2) := by decide +kernel
theorem dL_law_328 : decode cL_law 328 = .ok (.iconst 4, 1) := by decide +kernel
theorem dL_law_329 : decode cL_law 329 = .ok (.iadd, 1) := by decide +kernel
theorem dL_law_330 : decode cL_law 330 = .ok (.iaload, 1) := by decide +kernel
theorem dL_law_331 : decode cL_law 331 = .ok (.aload_n 0, 1) := by decide +kernel
theorem dL_law_332 : decode cL_law 332 = .ok (.iload 4, 2) := by decide +kernel
theorem dL_law_334 : decode cL_law 334 = .ok (.iconst 5, 1) := by decide +kernel
theorem dL_law_335 : decode cL_law 335 = .ok (.iadd, 1) := by decide +kernel
theorem dL_law_336 : decode cL_law 336 = .ok (.iaload, 1) := by decide +kernel
theorem dL_law_337 : decode cL_law 337 = .ok (.invokestatic 68, 3) := by decide +kernel
theorem dL_law_340 : decode cL_law 340 = .ok (.istore 5, 2) := by decide +kernel
theorem dL_law_342 : decode cL_law 342 = .ok (.aload_n 2, 1) := by decide +kernel
theorem dL_law_343 : decode cL_law 343 = .ok (.aload_n 0, 1) := by decide +kernel
theorem dL_law_344 : decode cL_law 344 = .ok (.iload 4, 2) := by decide +kernel
theorem dL_law_346 : decode cL_law 346 = .ok (.iconst 1, 1) := by decide +kernel
theorem dL_law_347 : decode cL_law 347 = .ok (.iadd, 1) := by decide +kernel
theorem dL_law_348 : decode cL_law 348 = .ok (.iaload, 1) := by decide +kernel
theorem dL_law_349 : decode cL_law 349 = .ok (.aload_n 0, 1) := by decide +kernel
theorem dL_law_350 : decode cL_law 350 = .ok (.iload 4, 2) := by decide +kernel
theorem dL_law_352 : decode cL_law 352 = .ok (.iconst 2, 1) := by decide +kernel
theorem dL_law_353 : decode cL_law 353 = .ok (.iadd, 1) := by decide +kernel
theorem dL_law_354 : decode cL_law 354 = .ok (.iaload, 1) := by decide +kernel
theorem dL_law_355 : decode cL_law 355 = .ok (.aload_n 0, 1) := by decide +kernel
theorem dL_law_356 : decode cL_law 356 = .ok (.iload 4, 2) := by decide +kernel
theorem dL_law_358 : decode cL_law 358 = .ok (.iconst 3, 1) := by decide +kernel
theorem dL_law_359 : decode cL_law 359 = .ok (.iadd, 1) := by decide +kernel
theorem dL_law_360 : decode cL_law 360 = .ok (.iaload, 1) := by decide +kernel
theorem dL_law_361 : decode cL_law 361 = .ok (.aload_n 0, 1) := by decide +kernel
theorem dL_law_362 : decode cL_law 362 = .ok (.iload 4, 2) := by decide +kernel
theorem dL_law_364 : decode cL_law 364 = .ok (.iconst 4, 1) := by decide +kernel
theorem dL_law_365 : decode cL_law 365 = .ok (.iadd, 1) := by decide +kernel
theorem dL_law_366 : decode cL_law 366 = .ok (.iaload, 1) := by decide +kernel
theorem dL_law_367 : decode cL_law 367 = .ok (.aload_n 0, 1) := by decide +kernel
theorem dL_law_368 : decode cL_law 368 = .ok (.iload 4, 2) := by decide +kernel
theorem dL_law_370 : decode cL_law 370 = .ok (.iconst 5, 1) := by decide +kernel
theorem dL_law_371 : decode cL_law 371 = .ok (.iadd, 1) := by decide +kernel
theorem dL_law_372 : decode cL_law 372 = .ok (.iaload, 1) := by decide +kernel
theorem dL_law_373 : decode cL_law 373 = .ok (.invokevirtual 71, 3) := by decide +kernel
theorem dL_law_376 : decode cL_law 376 = .ok (.aload_n 2, 1) := by decide +kernel
theorem dL_law_377 : decode cL_law 377 = .ok (.invokevirtual 56, 3) := by decide +kernel
theorem dL_law_380 : decode cL_law 380 = .ok (.iload 5, 2) := by decide +kernel
theorem dL_law_382 : decode cL_law 382 = .ok (.if_icmp .eq 5, 3) := by decide +kernel
theorem dL_law_385 : decode cL_law 385 = .ok (.iconst 0, 1) := by decide +kernel
theorem dL_law_386 : decode cL_law 386 = .ok (.ireturn, 1) := by decide +kernel
theorem dL_law_387 : decode cL_law 387 = .ok (.goto 311, 3) := by decide +kernel
theorem dL_law_390 : decode cL_law 390 = .ok (.aload_n 1, 1) := by decide +kernel
theorem dL_law_391 : decode cL_law 391 = .ok (.aload_n 0, 1) := by decide +kernel
theorem dL_law_392 : decode cL_law 392 = .ok (.iload 4, 2) := by decide +kernel
theorem dL_law_394 : decode cL_law 394 = .ok (.iconst 1, 1) := by decide +kernel
theorem dL_law_395 : decode cL_law 395 = .ok (.iadd, 1) := by decide +kernel
theorem dL_law_396 : decode cL_law 396 = .ok (.iaload, 1) := by decide +kernel
theorem dL_law_397 : decode cL_law 397 = .ok (.aload_n 0, 1) := by decide +kernel
theorem dL_law_398 : decode cL_law 398 = .ok (.iload 4, 2) := by decide +kernel
theorem dL_law_400 : decode cL_law 400 = .ok (.iconst 2, 1) := by decide +kernel
theorem dL_law_401 : decode cL_law 401 = .ok (.iadd, 1) := by decide +kernel
theorem dL_law_402 : decode cL_law 402 = .ok (.iaload, 1) := by decide +kernel
theorem dL_law_403 : decode cL_law 403 = .ok (.aload_n 0, 1) := by decide +kernel
theorem dL_law_404 : decode cL_law 404 = .ok (.iload 4, 2) := by decide +kernel
theorem dL_law_406 : decode cL_law 406 = .ok (.iconst 3, 1) := by decide +kernel
theorem dL_law_407 : decode cL_law 407 = .ok (.iadd, 1) := by decide +kernel
theorem dL_law_408 : decode cL_law 408 = .ok (.iaload, 1) := by decide +kernel
theorem dL_law_409 : decode cL_law 409 = .ok (.aload_n 0, 1) := by decide +kernel
theorem dL_law_410 : decode cL_law 410 = .ok (.iload 4, 2) := by decide +kernel
theorem dL_law_412 : decode cL_law 412 = .ok (.iconst 4, 1) := by decide +kernel
theorem dL_law_413 : decode cL_law 413 = .ok (.iadd, 1) := by decide +kernel
theorem dL_law_414 : decode cL_law 414 = .ok (.iaload, 1) := by decide +kernel
theorem dL_law_415 : decode cL_law 415 = .ok (.aload_n 0, 1) := by decide +kernel
theorem dL_law_416 : decode cL_law 416 = .ok (.iload 4, 2) := by decide +kernel
theorem dL_law_418 : decode cL_law 418 = .ok (.iconst 5, 1) := by decide +kernel
theorem dL_law_419 : decode cL_law 419 = .ok (.iadd, 1) := by decide +kernel
theorem dL_law_420 : decode cL_law 420 = .ok (.iaload, 1) := by decide +kernel
theorem dL_law_421 : decode cL_law 421 = .ok (.aload_n 3, 1) := by decide +kernel
theorem dL_law_422 : decode cL_law 422 = .ok (.invokestatic 72, 3) := by decide +kernel
theorem dL_law_425 : decode cL_law 425 = .ok (.istore 5, 2) := by decide +kernel
theorem dL_law_427 : decode cL_law 427 = .ok (.aload_n 2, 1) := by decide +kernel
theorem dL_law_428 : decode cL_law 428 = .ok (.aload_n 0, 1) := by decide +kernel
theorem dL_law_429 : decode cL_law 429 = .ok (.iload 4, 2) := by decide +kernel
theorem dL_law_431 : decode cL_law 431 = .ok (.iconst 1, 1) := by decide +kernel
theorem dL_law_432 : decode cL_law 432 = .ok (.iadd, 1) := by decide +kernel
theorem dL_law_433 : decode cL_law 433 = .ok (.iaload, 1) := by decide +kernel
theorem dL_law_434 : decode cL_law 434 = .ok (.aload_n 0, 1) := by decide +kernel
theorem dL_law_435 : decode cL_law 435 = .ok (.iload 4, 2) := by decide +kernel
theorem dL_law_437 : decode cL_law 437 = .ok (.iconst 2, 1) := by decide +kernel
theorem dL_law_438 : decode cL_law 438 = .ok (.iadd, 1) := by decide +kernel
theorem dL_law_439 : decode cL_law 439 = .ok (.iaload, 1) := by decide +kernel
theorem dL_law_440 : decode cL_law 440 = .ok (.aload_n 0, 1) := by decide +kernel
theorem dL_law_441 : decode cL_law 441 = .ok (.iload 4, 2) := by decide +kernel
theorem dL_law_443 : decode cL_law 443 = .ok (.iconst 3, 1) := by decide +kernel
theorem dL_law_444 : decode cL_law 444 = .ok (.iadd, 1) := by decide +kernel
theorem dL_law_445 : decode cL_law 445 = .ok (.iaload, 1) := by decide +kernel
theorem dL_law_446 : decode cL_law 446 = .ok (.aload_n 0, 1) := by decide +kernel
theorem dL_law_447 : decode cL_law 447 = .ok (.iload 4, 2) := by decide +kernel
theorem dL_law_449 : decode cL_law 449 = .ok (.iconst 4, 1) := by decide +kernel
theorem dL_law_450 : decode cL_law 450 = .ok (.iadd, 1) := by decide +kernel
theorem dL_law_451 : decode cL_law 451 = .ok (.iaload, 1) := by decide +kernel
theorem dL_law_452 : decode cL_law 452 = .ok (.aload_n 0, 1) := by decide +kernel
theorem dL_law_453 : decode cL_law 453 = .ok (.iload 4, 2) := by decide +kernel
theorem dL_law_455 : decode cL_law 455 = .ok (.iconst 5, 1) := by decide +kernel
theorem dL_law_456 : decode cL_law 456 = .ok (.iadd, 1) := by decide +kernel
theorem dL_law_457 : decode cL_law 457 = .ok (.iaload, 1) := by decide +kernel
theorem dL_law_458 : decode cL_law 458 = .ok (.invokevirtual 75, 3) := by decide +kernel
theorem dL_law_461 : decode cL_law 461 = .ok (.istore 6, 2) := by decide +kernel
theorem dL_law_463 : decode cL_law 463 = .ok (.aload_n 2, 1) := by decide +kernel
theorem dL_law_464 : decode cL_law 464 = .ok (.invokevirtual 56, 3) := by decide +kernel
theorem dL_law_467 : decode cL_law 467 = .ok (.iload 5, 2) := by decide +kernel
theorem dL_law_469 : decode cL_law 469 = .ok (.if_icmp .eq 5, 3) := by decide +kernel
theorem dL_law_472 : decode cL_law 472 = .ok (.iconst 0, 1) := by decide +kernel
theorem dL_law_473 : decode cL_law 473 = .ok (.ireturn, 1) := by decide +kernel
theorem dL_law_474 : decode cL_law 474 = .ok (.iload 5, 2) := by decide +kernel
theorem dL_law_476 : decode cL_law 476 = .ok (.ifCond .ne 15, 3) := by decide +kernel
theorem dL_law_479 : decode cL_law 479 = .ok (.aload_n 3, 1) := by decide +kernel
theorem dL_law_480 : decode cL_law 480 = .ok (.iconst 0, 1) := by decide +kernel
theorem dL_law_481 : decode cL_law 481 = .ok (.laload, 1) := by decide +kernel
theorem dL_law_482 : decode cL_law 482 = .ok (.iload 6, 2) := by decide +kernel
theorem dL_law_484 : decode cL_law 484 = .ok (.i2l, 1) := by decide +kernel
theorem dL_law_485 : decode cL_law 485 = .ok (.lcmp, 1) := by decide +kernel
theorem dL_law_486 : decode cL_law 486 = .ok (.ifCond .eq 5, 3) := by decide +kernel
theorem dL_law_489 : decode cL_law 489 = .ok (.iconst 0, 1) := by decide +kernel
theorem dL_law_490 : decode cL_law 490 = .ok (.ireturn, 1) := by decide +kernel
theorem dL_law_491 : decode cL_law 491 = .ok (.goto 207, 3) := by decide +kernel
theorem dL_law_494 : decode cL_law 494 = .ok (.aload_n 1, 1) := by decide +kernel
theorem dL_law_495 : decode cL_law 495 = .ok (.aload_n 0, 1) := by decide +kernel
theorem dL_law_496 : decode cL_law 496 = .ok (.iload 4, 2) := by decide +kernel
theorem dL_law_498 : decode cL_law 498 = .ok (.iconst 1, 1) := by decide +kernel
theorem dL_law_499 : decode cL_law 499 = .ok (.iadd, 1) := by decide +kernel
theorem dL_law_500 : decode cL_law 500 = .ok (.iaload, 1) := by decide +kernel
theorem dL_law_501 : decode cL_law 501 = .ok (.aload_n 3, 1) := by decide +kernel
theorem dL_law_502 : decode cL_law 502 = .ok (.invokestatic 76, 3) := by decide +kernel
theorem dL_law_505 : decode cL_law 505 = .ok (.istore 5, 2) := by decide +kernel
theorem dL_law_507 : decode cL_law 507 = .ok (.aload_n 2, 1) := by decide +kernel
theorem dL_law_508 : decode cL_law 508 = .ok (.aload_n 0, 1) := by decide +kernel
theorem dL_law_509 : decode cL_law 509 = .ok (.iload 4, 2) := by decide +kernel
theorem dL_law_511 : decode cL_law 511 = .ok (.iconst 1, 1) := by decide +kernel
theorem dL_law_512 : decode cL_law 512 = .ok (.iadd, 1) := by decide +kernel
theorem dL_law_513 : decode cL_law 513 = .ok (.iaload, 1) := by decide +kernel
theorem dL_law_514 : decode cL_law 514 = .ok (.invokevirtual 79, 3) := by decide +kernel
theorem dL_law_517 : decode cL_law 517 = .ok (.istore 6, 2) := by decide +kernel
theorem dL_law_519 : decode cL_law 519 = .ok (.aload_n 2, 1) := by decide +kernel
theorem dL_law_520 : decode cL_law 520 = .ok (.invokevirtual 56, 3) := by decide +kernel
theorem dL_law_523 : decode cL_law 523 = .ok (.iload 5, 2) := by decide +kernel
theorem dL_law_525 : decode cL_law 525 = .ok (.if_icmp .eq 5, 3) := by decide +kernel
theorem dL_law_528 : decode cL_law 528 = .ok (.iconst 0, 1) := by decide +kernel
theorem dL_law_529 : decode cL_law 529 = .ok (.ireturn, 1) := by decide +kernel
theorem dL_law_530 : decode cL_law 530 = .ok (.iload 5, 2) := by decide +kernel
theorem dL_law_532 : decode cL_law 532 = .ok (.ifCond .ne 15, 3) := by decide +kernel
theorem dL_law_535 : decode cL_law 535 = .ok (.aload_n 3, 1) := by decide +kernel
theorem dL_law_536 : decode cL_law 536 = .ok (.iconst 0, 1) := by decide +kernel
theorem dL_law_537 : decode cL_law 537 = .ok (.laload, 1) := by decide +kernel
theorem dL_law_538 : decode cL_law 538 = .ok (.iload 6, 2) := by decide +kernel
theorem dL_law_540 : decode cL_law 540 = .ok (.i2l, 1) := by decide +kernel
theorem dL_law_541 : decode cL_law 541 = .ok (.lcmp, 1) := by decide +kernel
theorem dL_law_542 : decode cL_law 542 = .ok (.ifCond .eq 5, 3) := by decide +kernel
theorem dL_law_545 : decode cL_law 545 = .ok (.iconst 0, 1) := by decide +kernel
theorem dL_law_546 : decode cL_law 546 = .ok (.ireturn, 1) := by decide +kernel
theorem dL_law_547 : decode cL_law 547 = .ok (.goto 151, 3) := by decide +kernel
theorem dL_law_550 : decode cL_law 550 = .ok (.aload_n 1, 1) := by decide +kernel
theorem dL_law_551 : decode cL_law 551 = .ok (.aload_n 0, 1) := by decide +kernel
theorem dL_law_552 : decode cL_law 552 = .ok (.iload 4, 2) := by decide +kernel
theorem dL_law_554 : decode cL_law 554 = .ok (.iconst 1, 1) := by decide +kernel
theorem dL_law_555 : decode cL_law 555 = .ok (.iadd, 1) := by decide +kernel
theorem dL_law_556 : decode cL_law 556 = .ok (.iaload, 1) := by decide +kernel
theorem dL_law_557 : decode cL_law 557 = .ok (.aload_n 0, 1) := by decide +kernel
theorem dL_law_558 : decode cL_law 558 = .ok (.iload 4, 2) := by decide +kernel
theorem dL_law_560 : decode cL_law 560 = .ok (.iconst 2, 1) := by decide +kernel
theorem dL_law_561 : decode cL_law 561 = .ok (.iadd, 1) := by decide +kernel
theorem dL_law_562 : decode cL_law 562 = .ok (.iaload, 1) := by decide +kernel
theorem dL_law_563 : decode cL_law 563 = .ok (.aload_n 0, 1) := by decide +kernel
theorem dL_law_564 : decode cL_law 564 = .ok (.iload 4, 2) := by decide +kernel
theorem dL_law_566 : decode cL_law 566 = .ok (.iconst 3, 1) := by decide +kernel
theorem dL_law_567 : decode cL_law 567 = .ok (.iadd, 1) := by decide +kernel
theorem dL_law_568 : decode cL_law 568 = .ok (.iaload, 1) := by decide +kernel
theorem dL_law_569 : decode cL_law 569 = .ok (.aload_n 0, 1) := by decide +kernel
theorem dL_law_570 : decode cL_law 570 = .ok (.iload 4, 2) := by decide +kernel
theorem dL_law_572 : decode cL_law 572 = .ok (.iconst 4, 1) := by decide +kernel
theorem dL_law_573 : decode cL_law 573 = .ok (.iadd, 1) := by decide +kernel
theorem dL_law_574 : decode cL_law 574 = .ok (.iaload, 1) := by decide +kernel
theorem dL_law_575 : decode cL_law 575 = .ok (.aload_n 3, 1) := by decide +kernel
theorem dL_law_576 : decode cL_law 576 = .ok (.invokestatic 80, 3) := by decide +kernel
theorem dL_law_579 : decode cL_law 579 = .ok (.istore 5, 2) := by decide +kernel
theorem dL_law_581 : decode cL_law 581 = .ok (.aload_n 2, 1) := by decide +kernel
theorem dL_law_582 : decode cL_law 582 = .ok (.aload_n 0, 1) := by decide +kernel
theorem dL_law_583 : decode cL_law 583 = .ok (.iload 4, 2) := by decide +kernel
theorem dL_law_585 : decode cL_law 585 = .ok (.iconst 1, 1) := by decide +kernel
theorem dL_law_586 : decode cL_law 586 = .ok (.iadd, 1) := by decide +kernel
theorem dL_law_587 : decode cL_law 587 = .ok (.iaload, 1) := by decide +kernel
theorem dL_law_588 : decode cL_law 588 = .ok (.aload_n 0, 1) := by decide +kernel
theorem dL_law_589 : decode cL_law 589 = .ok (.iload 4, 2) := by decide +kernel
theorem dL_law_591 : decode cL_law 591 = .ok (.iconst 2, 1) := by decide +kernel
theorem dL_law_592 : decode cL_law 592 = .ok (.iadd, 1) := by decide +kernel
theorem dL_law_593 : decode cL_law 593 = .ok (.iaload, 1) := by decide +kernel
theorem dL_law_594 : decode cL_law 594 = .ok (.aload_n 0, 1) := by decide +kernel
theorem dL_law_595 : decode cL_law 595 = .ok (.iload 4, 2) := by decide +kernel
theorem dL_law_597 : decode cL_law 597 = .ok (.iconst 3, 1) := by decide +kernel
theorem dL_law_598 : decode cL_law 598 = .ok (.iadd, 1) := by decide +kernel
theorem dL_law_599 : decode cL_law 599 = .ok (.iaload, 1) := by decide +kernel
theorem dL_law_600 : decode cL_law 600 = .ok (.aload_n 0, 1) := by decide +kernel
theorem dL_law_601 : decode cL_law 601 = .ok (.iload 4, 2) := by decide +kernel
theorem dL_law_603 : decode cL_law 603 = .ok (.iconst 4, 1) := by decide +kernel
theorem dL_law_604 : decode cL_law 604 = .ok (.iadd, 1) := by decide +kernel
theorem dL_law_605 : decode cL_law 605 = .ok (.iaload, 1) := by decide +kernel
theorem dL_law_606 : decode cL_law 606 = .ok (.invokevirtual 83, 3) := by decide +kernel
theorem dL_law_609 : decode cL_law 609 = .ok (.istore 6, 2) := by decide +kernel
theorem dL_law_611 : decode cL_law 611 = .ok (.aload_n 2, 1) := by decide +kernel
theorem dL_law_612 : decode cL_law 612 = .ok (.invokevirtual 56, 3) := by decide +kernel
theorem dL_law_615 : decode cL_law 615 = .ok (.iload 5, 2) := by decide +kernel
theorem dL_law_617 : decode cL_law 617 = .ok (.if_icmp .eq 5, 3) := by decide +kernel
theorem dL_law_620 : decode cL_law 620 = .ok (.iconst 0, 1) := by decide +kernel
theorem dL_law_621 : decode cL_law 621 = .ok (.ireturn, 1) := by decide +kernel
theorem dL_law_622 : decode cL_law 622 = .ok (.iload 5, 2) := by decide +kernel
theorem dL_law_624 : decode cL_law 624 = .ok (.ifCond .ne 15, 3) := by decide +kernel
theorem dL_law_627 : decode cL_law 627 = .ok (.aload_n 3, 1) := by decide +kernel
theorem dL_law_628 : decode cL_law 628 = .ok (.iconst 0, 1) := by decide +kernel
theorem dL_law_629 : decode cL_law 629 = .ok (.laload, 1) := by decide +kernel
theorem dL_law_630 : decode cL_law 630 = .ok (.iload 6, 2) := by decide +kernel
theorem dL_law_632 : decode cL_law 632 = .ok (.i2l, 1) := by decide +kernel
theorem dL_law_633 : decode cL_law 633 = .ok (.lcmp, 1) := by decide +kernel
theorem dL_law_634 : decode cL_law 634 = .ok (.ifCond .eq 5, 3) := by decide +kernel
theorem dL_law_637 : decode cL_law 637 = .ok (.iconst 0, 1) := by decide +kernel
theorem dL_law_638 : decode cL_law 638 = .ok (.ireturn, 1) := by decide +kernel
theorem dL_law_639 : decode cL_law 639 = .ok (.goto 59, 3) := by decide +kernel
theorem dL_law_642 : decode cL_law 642 = .ok (.aload_n 1, 1) := by decide +kernel
theorem dL_law_643 : decode cL_law 643 = .ok (.aload_n 0, 1) := by decide +kernel
theorem dL_law_644 : decode cL_law 644 = .ok (.iload 4, 2) := by decide +kernel
theorem dL_law_646 : decode cL_law 646 = .ok (.iconst 1, 1) := by decide +kernel
theorem dL_law_647 : decode cL_law 647 = .ok (.iadd, 1) := by decide +kernel
theorem dL_law_648 : decode cL_law 648 = .ok (.iaload, 1) := by decide +kernel
theorem dL_law_649 : decode cL_law 649 = .ok (.aload_n 3, 1) := by decide +kernel
theorem dL_law_650 : decode cL_law 650 = .ok (.invokestatic 84, 3) := by decide +kernel
theorem dL_law_653 : decode cL_law 653 = .ok (.istore 5, 2) := by decide +kernel
theorem dL_law_655 : decode cL_law 655 = .ok (.aload_n 2, 1) := by decide +kernel
theorem dL_law_656 : decode cL_law 656 = .ok (.aload_n 0, 1) := by decide +kernel
theorem dL_law_657 : decode cL_law 657 = .ok (.iload 4, 2) := by decide +kernel
theorem dL_law_659 : decode cL_law 659 = .ok (.iconst 1, 1) := by decide +kernel
theorem dL_law_660 : decode cL_law 660 = .ok (.iadd, 1) := by decide +kernel
theorem dL_law_661 : decode cL_law 661 = .ok (.iaload, 1) := by decide +kernel
theorem dL_law_662 : decode cL_law 662 = .ok (.invokevirtual 86, 3) := by decide +kernel
theorem dL_law_665 : decode cL_law 665 = .ok (.istore 6, 2) := by decide +kernel
theorem dL_law_667 : decode cL_law 667 = .ok (.aload_n 2, 1) := by decide +kernel
theorem dL_law_668 : decode cL_law 668 = .ok (.invokevirtual 56, 3) := by decide +kernel
theorem dL_law_671 : decode cL_law 671 = .ok (.iload 5, 2) := by decide +kernel
theorem dL_law_673 : decode cL_law 673 = .ok (.if_icmp .eq 5, 3) := by decide +kernel
theorem dL_law_676 : decode cL_law 676 = .ok (.iconst 0, 1) := by decide +kernel
theorem dL_law_677 : decode cL_law 677 = .ok (.ireturn, 1) := by decide +kernel
theorem dL_law_678 : decode cL_law 678 = .ok (.iload 5, 2) := by decide +kernel
theorem dL_law_680 : decode cL_law 680 = .ok (.ifCond .ne 15, 3) := by decide +kernel
theorem dL_law_683 : decode cL_law 683 = .ok (.aload_n 3, 1) := by decide +kernel
theorem dL_law_684 : decode cL_law 684 = .ok (.iconst 0, 1) := by decide +kernel
theorem dL_law_685 : decode cL_law 685 = .ok (.laload, 1) := by decide +kernel
theorem dL_law_686 : decode cL_law 686 = .ok (.iload 6, 2) := by decide +kernel
theorem dL_law_688 : decode cL_law 688 = .ok (.i2l, 1) := by decide +kernel
theorem dL_law_689 : decode cL_law 689 = .ok (.lcmp, 1) := by decide +kernel
theorem dL_law_690 : decode cL_law 690 = .ok (.ifCond .eq 5, 3) := by decide +kernel
theorem dL_law_693 : decode cL_law 693 = .ok (.iconst 0, 1) := by decide +kernel
theorem dL_law_694 : decode cL_law 694 = .ok (.ireturn, 1) := by decide +kernel
theorem dL_law_695 : decode cL_law 695 = .ok (.goto 3, 3) := by decide +kernel
theorem dL_law_698 : decode cL_law 698 = .ok (.iinc 4 7, 3) := by decide +kernel
theorem dL_law_701 : decode cL_law 701 = .ok (.goto (-678), 3) := by decide +kernel
theorem dL_law_704 : decode cL_law 704 = .ok (.iconst 1, 1) := by decide +kernel
theorem dL_law_705 : decode cL_law 705 = .ok (.ireturn, 1) := by decide +kernel
end
section
theorem dX2_init_0 : decode cX2_init 0 = .ok (.aload_n 0, 1) := by decide +kernel
theorem dX2_init_1 : decode cX2_init 1 = .ok (.invokespecial 1, 3) := by decide +kernel
theorem dX2_init_4 : decode cX2_init 4 = .ok (.aload_n 0, 1) := by decide +kernel
theorem dX2_init_5 : decode cX2_init 5 = .ok (.sipush 2048, 3) := by decide +kernel
theorem dX2_init_8 : decode cX2_init 8 = .ok (.newarray .int, 2) := by decide +kernel
theorem dX2_init_10 : decode cX2_init 10 = .ok (.putfield 7, 3) := by decide +kernel
theorem dX2_init_13 : decode cX2_init 13 = .ok (.aload_n 0, 1) := by decide +kernel
theorem dX2_init_14 : decode cX2_init 14 = .ok (.bipush 32, 2) := by decide +kernel
theorem dX2_init_16 : decode cX2_init 16 = .ok (.newarray .int, 2) := by decide +kernel
theorem dX2_init_18 : decode cX2_init 18 = .ok (.putfield 13, 3) := by decide +kernel
theorem dX2_init_21 : decode cX2_init 21 = .ok (.aload_n 0, 1) := by decide +kernel
theorem dX2_init_22 : decode cX2_init 22 = .ok (.bipush 16, 2) := by decide +kernel
theorem dX2_init_24 : decode cX2_init 24 = .ok (.newarray .int, 2) := by decide +kernel
theorem dX2_init_26 : decode cX2_init 26 = .ok (.putfield 16, 3) := by decide +kernel
theorem dX2_init_29 : decode cX2_init 29 = .ok (.aload_n 0, 1) := by decide +kernel
theorem dX2_init_30 : decode cX2_init 30 = .ok (.iconst 4, 1) := by decide +kernel
theorem dX2_init_31 : decode cX2_init 31 = .ok (.newarray .int, 2) := by decide +kernel
theorem dX2_init_33 : decode cX2_init 33 = .ok (.putfield 19, 3) := by decide +kernel
theorem dX2_init_36 : decode cX2_init 36 = .ok (.aload_n 0, 1) := by decide +kernel
theorem dX2_init_37 : decode cX2_init 37 = .ok (.iconst 4, 1) := by decide +kernel
theorem dX2_init_38 : decode cX2_init 38 = .ok (.newarray .int, 2) := by decide +kernel
theorem dX2_init_40 : decode cX2_init 40 = .ok (.putfield 22, 3) := by decide +kernel
theorem dX2_init_43 : decode cX2_init 43 = .ok (.aload_n 0, 1) := by decide +kernel
theorem dX2_init_44 : decode cX2_init 44 = .ok (.iconst 4, 1) := by decide +kernel
theorem dX2_init_45 : decode cX2_init 45 = .ok (.newarray .int, 2) := by decide +kernel
theorem dX2_init_47 : decode cX2_init 47 = .ok (.putfield 25, 3) := by decide +kernel
theorem dX2_init_50 : decode cX2_init 50 = .ok (.aload_n 0, 1) := by decide +kernel
theorem dX2_init_51 : decode cX2_init 51 = .ok (.iconst 4, 1) := by decide +kernel
theorem dX2_init_52 : decode cX2_init 52 = .ok (.newarray .int, 2) := by decide +kernel
theorem dX2_init_54 : decode cX2_init 54 = .ok (.putfield 28, 3) := by decide +kernel
theorem dX2_init_57 : decode cX2_init 57 = .ok (.aload_n 0, 1) := by decide +kernel
theorem dX2_init_58 : decode cX2_init 58 = .ok (.iconst 4, 1) := by decide +kernel
theorem dX2_init_59 : decode cX2_init 59 = .ok (.newarray .int, 2) := by decide +kernel
theorem dX2_init_61 : decode cX2_init 61 = .ok (.putfield 31, 3) := by decide +kernel
theorem dX2_init_64 : decode cX2_init 64 = .ok (.aload_n 0, 1) := by decide +kernel
theorem dX2_init_65 : decode cX2_init 65 = .ok (.iconst 4, 1) := by decide +kernel
theorem dX2_init_66 : decode cX2_init 66 = .ok (.newarray .int, 2) := by decide +kernel
theorem dX2_init_68 : decode cX2_init 68 = .ok (.putfield 34, 3) := by decide +kernel
theorem dX2_init_71 : decode cX2_init 71 = .ok (.aload_n 0, 1) := by decide +kernel
theorem dX2_init_72 : decode cX2_init 72 = .ok (.iconst 4, 1) := by decide +kernel
theorem dX2_init_73 : decode cX2_init 73 = .ok (.newarray .int, 2) := by decide +kernel
theorem dX2_init_75 : decode cX2_init 75 = .ok (.putfield 37, 3) := by decide +kernel
theorem dX2_init_78 : decode cX2_init 78 = .ok (.iconst 0, 1) := by decide +kernel
theorem dX2_init_79 : decode cX2_init 79 = .ok (.istore_n 1, 1) := by decide +kernel
theorem dX2_init_80 : decode cX2_init 80 = .ok (.iload_n 1, 1) := by decide +kernel
theorem dX2_init_81 : decode cX2_init 81 = .ok (.iconst 4, 1) := by decide +kernel
theorem dX2_init_82 : decode cX2_init 82 = .ok (.if_icmp .ge 21, 3) := by decide +kernel
theorem dX2_init_85 : decode cX2_init 85 = .ok (.aload_n 0, 1) := by decide +kernel
theorem dX2_init_86 : decode cX2_init 86 = .ok (.getfield 13, 3) := by decide +kernel
theorem dX2_init_89 : decode cX2_init 89 = .ok (.bipush 8, 2) := by decide +kernel
theorem dX2_init_91 : decode cX2_init 91 = .ok (.iload_n 1, 1) := by decide +kernel
theorem dX2_init_92 : decode cX2_init 92 = .ok (.imul, 1) := by decide +kernel
theorem dX2_init_93 : decode cX2_init 93 = .ok (.iconst 3, 1) := by decide +kernel
theorem dX2_init_94 : decode cX2_init 94 = .ok (.iadd, 1) := by decide +kernel
theorem dX2_init_95 : decode cX2_init 95 = .ok (.iconst 1, 1) := by decide +kernel
theorem dX2_init_96 : decode cX2_init 96 = .ok (.iastore, 1) := by decide +kernel
theorem dX2_init_97 : decode cX2_init 97 = .ok (.iinc 1 1, 3) := by decide +kernel
theorem dX2_init_100 : decode cX2_init 100 = .ok (.goto (-20), 3) := by decide +kernel
theorem dX2_init_103 : decode cX2_init 103 = .ok (.return_, 1) := by decide +kernel
theorem dX2_thrown_0 : decode cX2_thrown 0 = .ok (.aload_n 0, 1) := by decide +kernel
theorem dX2_thrown_1 : decode cX2_thrown 1 = .ok (.getfield 40, 3) := by decide +kernel
theorem dX2_thrown_4 : decode cX2_thrown 4 = .ok (.ireturn, 1) := by decide +kernel
theorem dX2_refuse_0 : decode cX2_refuse 0 = .ok (.aload_n 0, 1) := by decide +kernel
theorem dX2_refuse_1 : decode cX2_refuse 1 = .ok (.iload_n 1, 1) := by decide +kernel
theorem dX2_refuse_2 : decode cX2_refuse 2 = .ok (.ifCond .eq 7, 3) := by decide +kernel
theorem dX2_refuse_5 : decode cX2_refuse 5 = .ok (.iconst 1, 1) := by decide +kernel
theorem dX2_refuse_6 : decode cX2_refuse 6 = .ok (.goto 12, 3) := by decide +kernel
theorem dX2_refuse_9 : decode cX2_refuse 9 = .ok (.iload_n 2, 1) := by decide +kernel
theorem dX2_refuse_10 : decode cX2_refuse 10 = .ok (.ifCond .eq 7, 3) := by decide +kernel
theorem dX2_refuse_13 : decode cX2_refuse 13 = .ok (.iconst 2, 1) := by decide +kernel
theorem dX2_refuse_14 : decode cX2_refuse 14 = .ok (.goto 4, 3) := by decide +kernel
theorem dX2_refuse_17 : decode cX2_refuse 17 = .ok (.iconst 0, 1) := by decide +kernel
theorem dX2_refuse_18 : decode cX2_refuse 18 = .ok (.putfield 40, 3) := by decide +kernel
theorem dX2_refuse_21 : decode cX2_refuse 21 = .ok (.aload_n 0, 1) := by decide +kernel
theorem dX2_refuse_22 : decode cX2_refuse 22 = .ok (.getfield 40, 3) := by decide +kernel
theorem dX2_refuse_25 : decode cX2_refuse 25 = .ok (.ifCond .le 7, 3) := by decide +kernel
theorem dX2_refuse_28 : decode cX2_refuse 28 = .ok (.iconst 1, 1) := by decide +kernel
theorem dX2_refuse_29 : decode cX2_refuse 29 = .ok (.goto 4, 3) := by decide +kernel
theorem dX2_refuse_32 : decode cX2_refuse 32 = .ok (.iconst 0, 1) := by decide +kernel
theorem dX2_refuse_33 : decode cX2_refuse 33 = .ok (.ireturn, 1) := by decide +kernel
theorem dX2_in_0 : decode cX2_in 0 = .ok (.iload_n 0, 1) := by decide +kernel
theorem dX2_in_1 : decode cX2_in 1 = .ok (.iload_n 1, 1) := by decide +kernel
theorem dX2_in_2 : decode cX2_in 2 = .ok (.if_icmp .lt 12, 3) := by decide +kernel
theorem dX2_in_5 : decode cX2_in 5 = .ok (.iload_n 0, 1) := by decide +kernel
theorem dX2_in_6 : decode cX2_in 6 = .ok (.iload_n 2, 1) := by decide +kernel
theorem dX2_in_7 : decode cX2_in 7 = .ok (.if_icmp .gt 7, 3) := by decide +kernel
theorem dX2_in_10 : decode cX2_in 10 = .ok (.iconst 1, 1) := by decide +kernel
theorem dX2_in_11 : decode cX2_in 11 = .ok (.goto 4, 3) := by decide +kernel
theorem dX2_in_14 : decode cX2_in 14 = .ok (.iconst 0, 1) := by decide +kernel
theorem dX2_in_15 : decode cX2_in 15 = .ok (.ireturn, 1) := by decide +kernel
theorem dX2_poke_0 : decode cX2_poke 0 = .ok (.aload_n 0, 1) := by decide +kernel
theorem dX2_poke_1 : decode cX2_poke 1 = .ok (.iload_n 1, 1) := by decide +kernel
theorem dX2_poke_2 : decode cX2_poke 2 = .ok (.iconst 0, 1) := by decide +kernel
theorem dX2_poke_3 : decode cX2_poke 3 = .ok (.sipush 2047, 3) := by decide +kernel
theorem dX2_poke_6 : decode cX2_poke 6 = .ok (.invokestatic 44, 3) := by decide +kernel
theorem dX2_poke_9 : decode cX2_poke 9 = .ok (.ifCond .ne 7, 3) := by decide +kernel
theorem dX2_poke_12 : decode cX2_poke 12 = .ok (.iconst 1, 1) := by decide +kernel
theorem dX2_poke_13 : decode cX2_poke 13 = .ok (.goto 4, 3) := by decide +kernel
theorem dX2_poke_16 : decode cX2_poke 16 = .ok (.iconst 0, 1) := by decide +kernel
theorem dX2_poke_17 : decode cX2_poke 17 = .ok (.iconst 0, 1) := by decide +kernel
theorem dX2_poke_18 : decode cX2_poke 18 = .ok (.invokevirtual 48, 3) := by decide +kernel
theorem dX2_poke_21 : decode cX2_poke 21 = .ok (.ifCond .ne 10, 3) := by decide +kernel
theorem dX2_poke_24 : decode cX2_poke 24 = .ok (.aload_n 0, 1) := by decide +kernel
theorem dX2_poke_25 : decode cX2_poke 25 = .ok (.getfield 7, 3) := by decide +kernel
theorem dX2_poke_28 : decode cX2_poke 28 = .ok (.iload_n 1, 1) := by decide +kernel
theorem dX2_poke_29 : decode cX2_poke 29 = .ok (.iload_n 2, 1) := by decide +kernel
theorem dX2_poke_30 : decode cX2_poke 30 = .ok (.iastore, 1) := by decide +kernel
theorem dX2_poke_31 : decode cX2_poke 31 = .ok (.return_, 1) := by decide +kernel
theorem dX2_picture_0 : decode cX2_picture 0 = .ok (.iload_n 2, 1) := by decide +kernel
theorem dX2_picture_1 : decode cX2_picture 1 = .ok (.ifCond .lt 50, 3) := by decide +kernel
theorem dX2_picture_4 : decode cX2_picture 4 = .ok (.iload_n 3, 1) := by decide +kernel
theorem dX2_picture_5 : decode cX2_picture 5 = .ok (.iconst 0, 1) := by decide +kernel
theorem dX2_picture_6 : decode cX2_picture 6 = .ok (.bipush 10, 2) := by decide +kernel
theorem dX2_picture_8 : decode cX2_picture 8 = .ok (.invokestatic 44, 3) := by decide +kernel
theorem dX2_picture_11 : decode cX2_picture 11 = .ok (.ifCond .eq 40, 3) := by decide +kernel
theorem dX2_picture_14 : decode cX2_picture 14 = .ok (.iload 4, 2) := by decide +kernel
theorem dX2_picture_16 : decode cX2_picture 16 = .ok (.iconst 0, 1) := by decide +kernel
theorem dX2_picture_17 : decode cX2_picture 17 = .ok (.bipush 10, 2) := by decide +kernel
theorem dX2_picture_19 : decode cX2_picture 19 = .ok (.invokestatic 44, 3) := by decide +kernel
theorem dX2_picture_22 : decode cX2_picture 22 = .ok (.ifCond .eq 29, 3) := by decide +kernel
theorem dX2_picture_25 : decode cX2_picture 25 = .ok (.iload 5, 2) := by decide +kernel
theorem dX2_picture_27 : decode cX2_picture 27 = .ok (.iconst 1, 1) := by decide +kernel
theorem dX2_picture_28 : decode cX2_picture 28 = .ok (.bipush 11, 2) := by decide +kernel
theorem dX2_picture_30 : decode cX2_picture 30 = .ok (.invokestatic 44, 3) := by decide +kernel
theorem dX2_picture_33 : decode cX2_picture 33 = .ok (.ifCond .eq 18, 3) := by decide +kernel
theorem dX2_picture_36 : decode cX2_picture 36 = .ok (.iload 6, 2) := by decide +kernel
theorem dX2_picture_38 : decode cX2_picture 38 = .ok (.iconst 0, 1) := by decide +kernel
theorem dX2_picture_39 : decode cX2_picture 39 = .ok (.bipush 7, 2) := by decide +kernel
theorem dX2_picture_41 : decode cX2_picture 41 = .ok (.invokestatic 44, 3) := by decide +kernel
theorem dX2_picture_44 : decode cX2_picture 44 = .ok (.ifCond .eq 7, 3) := by decide +kernel
theorem dX2_picture_47 : decode cX2_picture 47 = .ok (.iconst 1, 1) := by decide +kernel
theorem dX2_picture_48 : decode cX2_picture 48 = .ok (.goto 4, 3) := by decide +kernel
theorem dX2_picture_51 : decode cX2_picture 51 = .ok (.iconst 0, 1) := by decide +kernel
theorem dX2_picture_52 : decode cX2_picture 52 = .ok (.istore 7, 2) := by decide +kernel
theorem dX2_picture_54 : decode cX2_picture 54 = .ok (.aload_n 0, 1) := by decide +kernel
theorem dX2_picture_55 : decode cX2_picture 55 = .ok (.iload_n 1, 1) := by decide +kernel
theorem dX2_picture_56 : decode cX2_picture 56 = .ok (.iconst 0, 1) := by decide +kernel
theorem dX2_picture_57 : decode cX2_picture 57 = .ok (.iconst 3, 1) := by decide +kernel
theorem dX2_picture_58 : decode cX2_picture 58 = .ok (.invokestatic 44, 3) := by decide +kernel
theorem dX2_picture_61 : decode cX2_picture 61 = .ok (.ifCond .ne 7, 3) := by decide +kernel
theorem dX2_picture_64 : decode cX2_picture 64 = .ok (.iconst 1, 1) := by decide +kernel
theorem dX2_picture_65 : decode cX2_picture 65 = .ok (.goto 4, 3) := by decide +kernel
theorem dX2_picture_68 : decode cX2_picture 68 = .ok (.iconst 0, 1) := by decide +kernel
theorem dX2_picture_69 : decode cX2_picture 69 = .ok (.iload 7, 2) := by decide +kernel
theorem dX2_picture_71 : decode cX2_picture 71 = .ok (.ifCond .ne 7, 3) := by decide +kernel
theorem dX2_picture_74 : decode cX2_picture 74 = .ok (.iconst 1, 1) := by decide +kernel
theorem dX2_picture_75 : decode cX2_picture 75 = .ok (.goto 4, 3) := by decide +kernel
theorem dX2_picture_78 : decode cX2_picture 78 = .ok (.iconst 0, 1) := by decide +kernel
theorem dX2_picture_79 : decode cX2_picture 79 = .ok (.invokevirtual 48, 3) := by decide +kernel
theorem dX2_picture_82 : decode cX2_picture 82 = .ok (.ifCond .eq 4, 3) := by decide +kernel
theorem dX2_picture_85 : decode cX2_picture 85 = .ok (.return_, 1) := by decide +kernel
theorem dX2_picture_86 : decode cX2_picture 86 = .ok (.aload_n 0, 1) := by decide +kernel
theorem dX2_picture_87 : decode cX2_picture 87 = .ok (.getfield 13, 3) := by decide +kernel
theorem dX2_picture_90 : decode cX2_picture 90 = .ok (.bipush 8, 2) := by decide +kernel
theorem dX2_picture_92 : decode cX2_picture 92 = .ok (.iload_n 1, 1) := by decide +kernel
theorem dX2_picture_93 : decode cX2_picture 93 = .ok (.imul, 1) := by decide +kernel
theorem dX2_picture_94 : decode cX2_picture 94 = .ok (.iload_n 2, 1) := by decide +kernel
theorem dX2_picture_95 : decode cX2_picture 95 = .ok (.iastore, 1) := by decide +kernel
theorem dX2_picture_96 : decode cX2_picture 96 = .ok (.aload_n 0, 1) := by decide +kernel
theorem dX2_picture_97 : decode cX2_picture 97 = .ok (.getfield 13, 3) := by decide +kernel
theorem dX2_picture_100 : decode cX2_picture 100 = .ok (.bipush 8, 2) := by decide +kernel
theorem dX2_picture_102 : decode cX2_picture 102 = .ok (.iload_n 1, 1) := by decide +kernel
theorem dX2_picture_103 : decode cX2_picture 103 = .ok (.imul, 1) := by decide +kernel
theorem dX2_picture_104 : decode cX2_picture 104 = .ok (.iconst 1, 1) := by decide +kernel
theorem dX2_picture_105 : decode cX2_picture 105 = .ok (.iadd, 1) := by decide +kernel
theorem dX2_picture_106 : decode cX2_picture 106 = .ok (.iload_n 3, 1) := by decide +kernel
theorem dX2_picture_107 : decode cX2_picture 107 = .ok (.iastore, 1) := by decide +kernel
theorem dX2_picture_108 : decode cX2_picture 108 = .ok (.aload_n 0, 1) := by decide +kernel
theorem dX2_picture_109 : decode cX2_picture 109 = .ok (.getfield 13, 3) := by decide +kernel
theorem dX2_picture_112 : decode cX2_picture 112 = .ok (.bipush 8, 2) := by decide +kernel
theorem dX2_picture_114 : decode cX2_picture 114 = .ok (.iload_n 1, 1) := by decide +kernel
theorem dX2_picture_115 : decode cX2_picture 115 = .ok (.imul, 1) := by decide +kernel
theorem dX2_picture_116 : decode cX2_picture 116 = .ok (.iconst 2, 1) := by decide +kernel
theorem dX2_picture_117 : decode cX2_picture 117 = .ok (.iadd, 1) := by decide +kernel
theorem dX2_picture_118 : decode cX2_picture 118 = .ok (.iload 4, 2) := by decide +kernel
theorem dX2_picture_120 : decode cX2_picture 120 = .ok (.iastore, 1) := by decide +kernel
theorem dX2_picture_121 : decode cX2_picture 121 = .ok (.aload_n 0, 1) := by decide +kernel
theorem dX2_picture_122 : decode cX2_picture 122 = .ok (.getfield 13, 3) := by decide +kernel
theorem dX2_picture_125 : decode cX2_picture 125 = .ok (.bipush 8, 2) := by decide +kernel
theorem dX2_picture_127 : decode cX2_picture 127 = .ok (.iload_n 1, 1) := by decide +kernel
theorem dX2_picture_128 : decode cX2_picture 128 = .ok (.imul, 1) := by decide +kernel
theorem dX2_picture_129 : decode cX2_picture 129 = .ok (.iconst 3, 1) := by decide +kernel
theorem dX2_picture_130 : decode cX2_picture 130 = .ok (.iadd, 1) := by decide +kernel
theorem dX2_picture_131 : decode cX2_picture 131 = .ok (.iload 5, 2) := by decide +kernel
theorem dX2_picture_133 : decode cX2_picture 133 = .ok (.iastore, 1) := by decide +kernel
theorem dX2_picture_134 : decode cX2_picture 134 = .ok (.aload_n 0, 1) := by decide +kernel
theorem dX2_picture_135 : decode cX2_picture 135 = .ok (.getfield 13, 3) := by decide +kernel
theorem dX2_picture_138 : decode cX2_picture 138 = .ok (.bipush 8, 2) := by decide +kernel
theorem dX2_picture_140 : decode cX2_picture 140 = .ok (.iload_n 1, 1) := by decide +kernel
theorem dX2_picture_141 : decode cX2_picture 141 = .ok (.imul, 1) := by decide +kernel
theorem dX2_picture_142 : decode cX2_picture 142 = .ok (.iconst 4, 1) := by decide +kernel
theorem dX2_picture_143 : decode cX2_picture 143 = .ok (.iadd, 1) := by decide +kernel
theorem dX2_picture_144 : decode cX2_picture 144 = .ok (.iload 6, 2) := by decide +kernel
theorem dX2_picture_146 : decode cX2_picture 146 = .ok (.iastore, 1) := by decide +kernel
theorem dX2_picture_147 : decode cX2_picture 147 = .ok (.return_, 1) := by decide +kernel
theorem dX2_manner_0 : decode cX2_manner 0 = .ok (.aload_n 0, 1) := by decide +kernel
theorem dX2_manner_1 : decode cX2_manner 1 = .ok (.iload_n 1, 1) := by decide +kernel
theorem dX2_manner_2 : decode cX2_manner 2 = .ok (.iconst 0, 1) := by decide +kernel
theorem dX2_manner_3 : decode cX2_manner 3 = .ok (.iconst 3, 1) := by decide +kernel
theorem dX2_manner_4 : decode cX2_manner 4 = .ok (.invokestatic 44, 3) := by decide +kernel
theorem dX2_manner_7 : decode cX2_manner 7 = .ok (.ifCond .ne 7, 3) := by decide +kernel
theorem dX2_manner_10 : decode cX2_manner 10 = .ok (.iconst 1, 1) := by decide +kernel
theorem dX2_manner_11 : decode cX2_manner 11 = .ok (.goto 4, 3) := by decide +kernel
theorem dX2_manner_14 : decode cX2_manner 14 = .ok (.iconst 0, 1) := by decide +kernel
theorem dX2_manner_15 : decode cX2_manner 15 = .ok (.iload_n 2, 1) := by decide +kernel
theorem dX2_manner_16 : decode cX2_manner 16 = .ok (.iconst 0, 1) := by decide +kernel
theorem dX2_manner_17 : decode cX2_manner 17 = .ok (.iconst 3, 1) := by decide +kernel
theorem dX2_manner_18 : decode cX2_manner 18 = .ok (.invokestatic 44, 3) := by decide +kernel
theorem dX2_manner_21 : decode cX2_manner 21 = .ok (.ifCond .eq 22, 3) := by decide +kernel
theorem dX2_manner_24 : decode cX2_manner 24 = .ok (.iload_n 3, 1) := by decide +kernel
theorem dX2_manner_25 : decode cX2_manner 25 = .ok (.iconst 0, 1) := by decide +kernel
theorem dX2_manner_26 : decode cX2_manner 26 = .ok (.iconst 3, 1) := by decide +kernel
theorem dX2_manner_27 : decode cX2_manner 27 = .ok (.invokestatic 44, 3) := by decide +kernel
theorem dX2_manner_30 : decode cX2_manner 30 = .ok (.ifCond .eq 13, 3) := by decide +kernel
theorem dX2_manner_33 : decode cX2_manner 33 = .ok (.iload 4, 2) := by decide +kernel
theorem dX2_manner_35 : decode cX2_manner 35 = .ok (.iconst 0, 1) := by decide +kernel
theorem dX2_manner_36 : decode cX2_manner 36 = .ok (.iconst 3, 1) := by decide +kernel
theorem dX2_manner_37 : decode cX2_manner 37 = .ok (.invokestatic 44, 3) := by decide +kernel
theorem dX2_manner_40 : decode cX2_manner 40 = .ok (.ifCond .ne 7, 3) := by decide +kernel
theorem dX2_manner_43 : decode cX2_manner 43 = .ok (.iconst 1, 1) := by decide +kernel
theorem dX2_manner_44 : decode cX2_manner 44 = .ok (.goto 4, 3) := by decide +kernel
theorem dX2_manner_47 : decode cX2_manner 47 = .ok (.iconst 0, 1) := by decide +kernel
theorem dX2_manner_48 : decode cX2_manner 48 = .ok (.invokevirtual 48, 3) := by decide +kernel
theorem dX2_manner_51 : decode cX2_manner 51 = .ok (.ifCond .eq 4, 3) := by decide +kernel
theorem dX2_manner_54 : decode cX2_manner 54 = .ok (.return_, 1) := by decide +kernel
theorem dX2_manner_55 : decode cX2_manner 55 = .ok (.aload_n 0, 1) := by decide +kernel
theorem dX2_manner_56 : decode cX2_manner 56 = .ok (.getfield 13, 3) := by decide +kernel
theorem dX2_manner_59 : decode cX2_manner 59 = .ok (.bipush 8, 2) := by decide +kernel
theorem dX2_manner_61 : decode cX2_manner 61 = .ok (.iload_n 1, 1) := by decide +kernel
theorem dX2_manner_62 : decode cX2_manner 62 = .ok (.imul, 1) := by decide +kernel
theorem dX2_manner_63 : decode cX2_manner 63 = .ok (.iconst 5, 1) := by decide +kernel
theorem dX2_manner_64 : decode cX2_manner 64 = .ok (.iadd, 1) := by decide +kernel
theorem dX2_manner_65 : decode cX2_manner 65 = .ok (.iload_n 2, 1) := by decide +kernel
theorem dX2_manner_66 : decode cX2_manner 66 = .ok (.iastore, 1) := by decide +kernel
theorem dX2_manner_67 : decode cX2_manner 67 = .ok (.aload_n 0, 1) := by decide +kernel
theorem dX2_manner_68 : decode cX2_manner 68 = .ok (.getfield 13, 3) := by decide +kernel
theorem dX2_manner_71 : decode cX2_manner 71 = .ok (.bipush 8, 2) := by decide +kernel
theorem dX2_manner_73 : decode cX2_manner 73 = .ok (.iload_n 1, 1) := by decide +kernel
theorem dX2_manner_74 : decode cX2_manner 74 = .ok (.imul, 1) := by decide +kernel
theorem dX2_manner_75 : decode cX2_manner 75 = .ok (.bipush 6, 2) := by decide +kernel
theorem dX2_manner_77 : decode cX2_manner 77 = .ok (.iadd, 1) := by decide +kernel
theorem dX2_manner_78 : decode cX2_manner 78 = .ok (.iload_n 3, 1) := by decide +kernel
theorem dX2_manner_79 : decode cX2_manner 79 = .ok (.iastore, 1) := by decide +kernel
theorem dX2_manner_80 : decode cX2_manner 80 = .ok (.aload_n 0, 1) := by decide +kernel
theorem dX2_manner_81 : decode cX2_manner 81 = .ok (.getfield 13, 3) := by decide +kernel
theorem dX2_manner_84 : decode cX2_manner 84 = .ok (.bipush 8, 2) := by decide +kernel
theorem dX2_manner_86 : decode cX2_manner 86 = .ok (.iload_n 1, 1) := by decide +kernel
theorem dX2_manner_87 : decode cX2_manner 87 = .ok (.imul, 1) := by decide +kernel
theorem dX2_manner_88 : decode cX2_manner 88 = .ok (.bipush 7, 2) := by decide +kernel
theorem dX2_manner_90 : decode cX2_manner 90 = .ok (.iadd, 1) := by decide +kernel
theorem dX2_manner_91 : decode cX2_manner 91 = .ok (.iload 4, 2) := by decide +kernel
theorem dX2_manner_93 : decode cX2_manner 93 = .ok (.iastore, 1) := by decide +kernel
theorem dX2_manner_94 : decode cX2_manner 94 = .ok (.return_, 1) := by decide +kernel
theorem dX2_border_0 : decode cX2_border 0 = .ok (.aload_n 0, 1) := by decide +kernel
theorem dX2_border_1 : decode cX2_border 1 = .ok (.iload_n 1, 1) := by decide +kernel
theorem dX2_border_2 : decode cX2_border 2 = .ok (.iconst 0, 1) := by decide +kernel
theorem dX2_border_3 : decode cX2_border 3 = .ok (.iconst 3, 1) := by decide +kernel
theorem dX2_border_4 : decode cX2_border 4 = .ok (.invokestatic 44, 3) := by decide +kernel
theorem dX2_border_7 : decode cX2_border 7 = .ok (.ifCond .ne 7, 3) := by decide +kernel
theorem dX2_border_10 : decode cX2_border 10 = .ok (.iconst 1, 1) := by decide +kernel
theorem dX2_border_11 : decode cX2_border 11 = .ok (.goto 4, 3) := by decide +kernel
theorem dX2_border_14 : decode cX2_border 14 = .ok (.iconst 0, 1) := by decide +kernel
theorem dX2_border_15 : decode cX2_border 15 = .ok (.iconst 0, 1) := by decide +kernel
theorem dX2_border_16 : decode cX2_border 16 = .ok (.invokevirtual 48, 3) := by decide +kernel
theorem dX2_border_19 : decode cX2_border 19 = .ok (.ifCond .eq 4, 3) := by decide +kernel
theorem dX2_border_22 : decode cX2_border 22 = .ok (.return_, 1) := by decide +kernel
theorem dX2_border_23 : decode cX2_border 23 = .ok (.aload_n 0, 1) := by decide +kernel
theorem dX2_border_24 : decode cX2_border 24 = .ok (.getfield 16, 3) := by decide +kernel
theorem dX2_border_27 : decode cX2_border 27 = .ok (.iconst 4, 1) := by decide +kernel
theorem dX2_border_28 : decode cX2_border 28 = .ok (.iload_n 1, 1) := by decide +kernel
theorem dX2_border_29 : decode cX2_border 29 = .ok (.imul, 1) := by decide +kernel
theorem dX2_border_30 : decode cX2_border 30 = .ok (.iload_n 2, 1) := by decide +kernel
theorem dX2_border_31 : decode cX2_border 31 = .ok (.iastore, 1) := by decide +kernel
theorem dX2_border_32 : decode cX2_border 32 = .ok (.aload_n 0, 1) := by decide +kernel
theorem dX2_border_33 : decode cX2_border 33 = .ok (.getfield 16, 3) := by decide +kernel
theorem dX2_border_36 : decode cX2_border 36 = .ok (.iconst 4, 1) := by decide +kernel
theorem dX2_border_37 : decode cX2_border 37 = .ok (.iload_n 1, 1) := by decide +kernel
theorem dX2_border_38 : decode cX2_border 38 = .ok (.imul, 1) := by decide +kernel
theorem dX2_border_39 : decode cX2_border 39 = .ok (.iconst 1, 1) := by decide +kernel
theorem dX2_border_40 : decode cX2_border 40 = .ok (.iadd, 1) := by decide +kernel
theorem dX2_border_41 : decode cX2_border 41 = .ok (.iload_n 3, 1) := by decide +kernel
theorem dX2_border_42 : decode cX2_border 42 = .ok (.iastore, 1) := by decide +kernel
theorem dX2_border_43 : decode cX2_border 43 = .ok (.aload_n 0, 1) := by decide +kernel
theorem dX2_border_44 : decode cX2_border 44 = .ok (.getfield 16, 3) := by decide +kernel
theorem dX2_border_47 : decode cX2_border 47 = .ok (.iconst 4, 1) := by decide +kernel
theorem dX2_border_48 : decode cX2_border 48 = .ok (.iload_n 1, 1) := by decide +kernel
theorem dX2_border_49 : decode cX2_border 49 = .ok (.imul, 1) := by decide +kernel
theorem dX2_border_50 : decode cX2_border 50 = .ok (.iconst 2, 1) := by decide +kernel
theorem dX2_border_51 : decode cX2_border 51 = .ok (.iadd, 1) := by decide +kernel
theorem dX2_border_52 : decode cX2_border 52 = .ok (.iload 4, 2) := by decide +kernel
theorem dX2_border_54 : decode cX2_border 54 = .ok (.iastore, 1) := by decide +kernel
theorem dX2_border_55 : decode cX2_border 55 = .ok (.aload_n 0, 1) := by decide +kernel
theorem dX2_border_56 : decode cX2_border 56 = .ok (.getfield 16, 3) := by decide +kernel
theorem dX2_border_59 : decode cX2_border 59 = .ok (.iconst 4, 1) := by decide +kernel
theorem dX2_border_60 : decode cX2_border 60 = .ok (.iload_n 1, 1) := by decide +kernel
theorem dX2_border_61 : decode cX2_border 61 = .ok (.imul, 1) := by decide +kernel
theorem dX2_border_62 : decode cX2_border 62 = .ok (.iconst 3, 1) := by decide +kernel
theorem dX2_border_63 : decode cX2_border 63 = .ok (.iadd, 1) := by decide +kernel
theorem dX2_border_64 : decode cX2_border 64 = .ok (.iload 5, 2) := by decide +kernel
theorem dX2_border_66 : decode cX2_border 66 = .ok (.iastore, 1) := by decide +kernel
theorem dX2_border_67 : decode cX2_border 67 = .ok (.return_, 1) := by decide +kernel
theorem dX2_exponent_0 : decode cX2_exponent 0 = .ok (.aload_n 0, 1) := by decide +kernel
theorem dX2_exponent_1 : decode cX2_exponent 1 = .ok (.getfield 13, 3) := by decide +kernel
theorem dX2_exponent_4 : decode cX2_exponent 4 = .ok (.bipush 8, 2) := by decide +kernel
theorem dX2_exponent_6 : decode cX2_exponent 6 = .ok (.iload_n 1, 1) := by decide +kernel
theorem dX2_exponent_7 : decode cX2_exponent 7 = .ok (.imul, 1) := by decide +kernel
theorem dX2_exponent_8 : decode cX2_exponent 8 = .ok (.iconst 1, 1) := by decide +kernel
theorem dX2_exponent_9 : decode cX2_exponent 9 = .ok (.iadd, 1) := by decide +kernel
theorem dX2_exponent_10 : decode cX2_exponent 10 = .ok (.iload_n 3, 1) := by decide +kernel
theorem dX2_exponent_11 : decode cX2_exponent 11 = .ok (.iadd, 1) := by decide +kernel
theorem dX2_exponent_12 : decode cX2_exponent 12 = .ok (.iaload, 1) := by decide +kernel
theorem dX2_exponent_13 : decode cX2_exponent 13 = .ok (.iload_n 2, 1) := by decide +kernel
theorem dX2_exponent_14 : decode cX2_exponent 14 = .ok (.isub, 1) := by decide +kernel
theorem dX2_exponent_15 : decode cX2_exponent 15 = .ok (.istore 4, 2) := by decide +kernel
theorem dX2_exponent_17 : decode cX2_exponent 17 = .ok (.iload 4, 2) := by decide +kernel
theorem dX2_exponent_19 : decode cX2_exponent 19 = .ok (.ifCond .ge 7, 3) := by decide +kernel
theorem dX2_exponent_22 : decode cX2_exponent 22 = .ok (.iconst 0, 1) := by decide +kernel
theorem dX2_exponent_23 : decode cX2_exponent 23 = .ok (.goto 5, 3) := by decide +kernel
theorem dX2_exponent_26 : decode cX2_exponent 26 = .ok (.iload 4, 2) := by decide +kernel
theorem dX2_exponent_28 : decode cX2_exponent 28 = .ok (.ireturn, 1) := by decide +kernel
theorem dX2_wide_0 : decode cX2_wide 0 = .ok (.iconst 1, 1) := by decide +kernel
theorem dX2_wide_1 : decode cX2_wide 1 = .ok (.aload_n 0, 1) := by decide +kernel
theorem dX2_wide_2 : decode cX2_wide 2 = .ok (.iload_n 1, 1) := by decide +kernel
theorem dX2_wide_3 : decode cX2_wide 3 = .ok (.iload_n 2, 1) := by decide +kernel
theorem dX2_wide_4 : decode cX2_wide 4 = .ok (.iconst 0, 1) := by decide +kernel
theorem dX2_wide_5 : decode cX2_wide 5 = .ok (.invokevirtual 52, 3) := by decide +kernel
theorem dX2_wide_8 : decode cX2_wide 8 = .ok (.ishl, 1) := by decide +kernel
theorem dX2_wide_9 : decode cX2_wide 9 = .ok (.ireturn, 1) := by decide +kernel
theorem dX2_high_0 : decode cX2_high 0 = .ok (.iconst 1, 1) := by decide +kernel
theorem dX2_high_1 : decode cX2_high 1 = .ok (.aload_n 0, 1) := by decide +kernel
theorem dX2_high_2 : decode cX2_high 2 = .ok (.iload_n 1, 1) := by decide +kernel
theorem dX2_high_3 : decode cX2_high 3 = .ok (.iload_n 2, 1) := by decide +kernel
theorem dX2_high_4 : decode cX2_high 4 = .ok (.iconst 1, 1) := by decide +kernel
theorem dX2_high_5 : decode cX2_high 5 = .ok (.invokevirtual 52, 3) := by decide +kernel
theorem dX2_high_8 : decode cX2_high 8 = .ok (.ishl, 1) := by decide +kernel
theorem dX2_high_9 : decode cX2_high 9 = .ok (.ireturn, 1) := by decide +kernel
theorem dX2_ahead_0 : decode cX2_ahead 0 = .ok (.iconst 0, 1) := by decide +kernel
theorem dX2_ahead_1 : decode cX2_ahead 1 = .ok (.istore_n 3, 1) := by decide +kernel
theorem dX2_ahead_2 : decode cX2_ahead 2 = .ok (.iconst 0, 1) := by decide +kernel
theorem dX2_ahead_3 : decode cX2_ahead 3 = .ok (.istore 4, 2) := by decide +kernel
theorem dX2_ahead_5 : decode cX2_ahead 5 = .ok (.iload 4, 2) := by decide +kernel
theorem dX2_ahead_7 : decode cX2_ahead 7 = .ok (.iload_n 2, 1) := by decide +kernel
theorem dX2_ahead_8 : decode cX2_ahead 8 = .ok (.if_icmp .ge 27, 3) := by decide +kernel
theorem dX2_ahead_11 : decode cX2_ahead 11 = .ok (.iload_n 3, 1) := by decide +kernel
theorem dX2_ahead_12 : decode cX2_ahead 12 = .ok (.aload_n 0, 1) := by decide +kernel
theorem dX2_ahead_13 : decode cX2_ahead 13 = .ok (.iload_n 1, 1) := by decide +kernel
theorem dX2_ahead_14 : decode cX2_ahead 14 = .ok (.iload 4, 2) := by decide +kernel
theorem dX2_ahead_16 : decode cX2_ahead 16 = .ok (.invokevirtual 56, 3) := by decide +kernel
theorem dX2_ahead_19 : decode cX2_ahead 19 = .ok (.aload_n 0, 1) := by decide +kernel
theorem dX2_ahead_20 : decode cX2_ahead 20 = .ok (.iload_n 1, 1) := by decide +kernel
theorem dX2_ahead_21 : decode cX2_ahead 21 = .ok (.iload 4, 2) := by decide +kernel
theorem dX2_ahead_23 : decode cX2_ahead 23 = .ok (.invokevirtual 60, 3) := by decide +kernel
theorem dX2_ahead_26 : decode cX2_ahead 26 = .ok (.imul, 1) := by decide +kernel
theorem dX2_ahead_27 : decode cX2_ahead 27 = .ok (.iadd, 1) := by decide +kernel
theorem dX2_ahead_28 : decode cX2_ahead 28 = .ok (.istore_n 3, 1) := by decide +kernel
theorem dX2_ahead_29 : decode cX2_ahead 29 = .ok (.iinc 4 1, 3) := by decide +kernel
theorem dX2_ahead_32 : decode cX2_ahead 32 = .ok (.goto (-27), 3) := by decide +kernel
theorem dX2_ahead_35 : decode cX2_ahead 35 = .ok (.iload_n 3, 1) := by decide +kernel
theorem dX2_ahead_36 : decode cX2_ahead 36 = .ok (.ireturn, 1) := by decide +kernel
theorem dX2_lay_0 : decode cX2_lay 0 = .ok (.aload_n 0, 1) := by decide +kernel
theorem dX2_lay_1 : decode cX2_lay 1 = .ok (.getfield 34, 3) := by decide +kernel
theorem dX2_lay_4 : decode cX2_lay 4 = .ok (.iconst 0, 1) := by decide +kernel
theorem dX2_lay_5 : decode cX2_lay 5 = .ok (.iload_n 1, 1) := by decide +kernel
theorem dX2_lay_6 : decode cX2_lay 6 = .ok (.iastore, 1) := by decide +kernel
theorem dX2_lay_7 : decode cX2_lay 7 = .ok (.aload_n 0, 1) := by decide +kernel
theorem dX2_lay_8 : decode cX2_lay 8 = .ok (.getfield 34, 3) := by decide +kernel
theorem dX2_lay_11 : decode cX2_lay 11 = .ok (.iconst 1, 1) := by decide +kernel
theorem dX2_lay_12 : decode cX2_lay 12 = .ok (.iload_n 2, 1) := by decide +kernel
theorem dX2_lay_13 : decode cX2_lay 13 = .ok (.iastore, 1) := by decide +kernel
theorem dX2_lay_14 : decode cX2_lay 14 = .ok (.aload_n 0, 1) := by decide +kernel
theorem dX2_lay_15 : decode cX2_lay 15 = .ok (.getfield 34, 3) := by decide +kernel
theorem dX2_lay_18 : decode cX2_lay 18 = .ok (.iconst 2, 1) := by decide +kernel
theorem dX2_lay_19 : decode cX2_lay 19 = .ok (.iload_n 3, 1) := by decide +kernel
theorem dX2_lay_20 : decode cX2_lay 20 = .ok (.iastore, 1) := by decide +kernel
theorem dX2_lay_21 : decode cX2_lay 21 = .ok (.aload_n 0, 1) := by decide +kernel
theorem dX2_lay_22 : decode cX2_lay 22 = .ok (.getfield 34, 3) := by decide +kernel
theorem dX2_lay_25 : decode cX2_lay 25 = .ok (.iconst 3, 1) := by decide +kernel
theorem dX2_lay_26 : decode cX2_lay 26 = .ok (.iload 4, 2) := by decide +kernel
theorem dX2_lay_28 : decode cX2_lay 28 = .ok (.iastore, 1) := by decide +kernel
theorem dX2_lay_29 : decode cX2_lay 29 = .ok (.aload_n 0, 1) := by decide +kernel
theorem dX2_lay_30 : decode cX2_lay 30 = .ok (.getfield 37, 3) := by decide +kernel
theorem dX2_lay_33 : decode cX2_lay 33 = .ok (.iconst 0, 1) := by decide +kernel
theorem dX2_lay_34 : decode cX2_lay 34 = .ok (.iload 5, 2) := by decide +kernel
theorem dX2_lay_36 : decode cX2_lay 36 = .ok (.iastore, 1) := by decide +kernel
theorem dX2_lay_37 : decode cX2_lay 37 = .ok (.aload_n 0, 1) := by decide +kernel
theorem dX2_lay_38 : decode cX2_lay 38 = .ok (.getfield 37, 3) := by decide +kernel
theorem dX2_lay_41 : decode cX2_lay 41 = .ok (.iconst 1, 1) := by decide +kernel
theorem dX2_lay_42 : decode cX2_lay 42 = .ok (.iload 6, 2) := by decide +kernel
theorem dX2_lay_44 : decode cX2_lay 44 = .ok (.iastore, 1) := by decide +kernel
theorem dX2_lay_45 : decode cX2_lay 45 = .ok (.aload_n 0, 1) := by decide +kernel
theorem dX2_lay_46 : decode cX2_lay 46 = .ok (.getfield 37, 3) := by decide +kernel
theorem dX2_lay_49 : decode cX2_lay 49 = .ok (.iconst 2, 1) := by decide +kernel
theorem dX2_lay_50 : decode cX2_lay 50 = .ok (.iload 7, 2) := by decide +kernel
theorem dX2_lay_52 : decode cX2_lay 52 = .ok (.iastore, 1) := by decide +kernel
theorem dX2_lay_53 : decode cX2_lay 53 = .ok (.aload_n 0, 1) := by decide +kernel
theorem dX2_lay_54 : decode cX2_lay 54 = .ok (.getfield 37, 3) := by decide +kernel
theorem dX2_lay_57 : decode cX2_lay 57 = .ok (.iconst 3, 1) := by decide +kernel
theorem dX2_lay_58 : decode cX2_lay 58 = .ok (.iload 8, 2) := by decide +kernel
theorem dX2_lay_60 : decode cX2_lay 60 = .ok (.iastore, 1) := by decide +kernel
theorem dX2_lay_61 : decode cX2_lay 61 = .ok (.return_, 1) := by decide +kernel
theorem dX2_layOut_0 : decode cX2_layOut 0 = .ok (.iload_n 1, 1) := by decide +kernel
theorem dX2_layOut_1 : decode cX2_layOut 1 = .ok (.tableswitch 170 0 6 #[43, 65, 82, 99, 116, 134, 150], 43) := by decide +kernel
theorem dX2_layOut_44 : decode cX2_layOut 44 = .ok (.aload_n 0, 1) := by decide +kernel
theorem dX2_layOut_45 : decode cX2_layOut 45 = .ok (.iconst 0, 1) := by decide +kernel
theorem dX2_layOut_46 : decode cX2_layOut 46 = .ok (.bipush 8, 2) := by decide +kernel
theorem dX2_layOut_48 : decode cX2_layOut 48 = .ok (.bipush 16, 2) := by decide +kernel
theorem dX2_layOut_50 : decode cX2_layOut 50 = .ok (.bipush 24, 2) := by decide +kernel
theorem dX2_layOut_52 : decode cX2_layOut 52 = .ok (.bipush 8, 2) := by decide +kernel
theorem dX2_layOut_54 : decode cX2_layOut 54 = .ok (.bipush 8, 2) := by decide +kernel
theorem dX2_layOut_56 : decode cX2_layOut 56 = .ok (.bipush 8, 2) := by decide +kernel
theorem dX2_layOut_58 : decode cX2_layOut 58 = .ok (.bipush 8, 2) := by decide +kernel
theorem dX2_layOut_60 : decode cX2_layOut 60 = .ok (.invokevirtual 63, 3) := by decide +kernel
theorem dX2_layOut_63 : decode cX2_layOut 63 = .ok (.bipush 32, 2) := by decide +kernel
theorem dX2_layOut_65 : decode cX2_layOut 65 = .ok (.ireturn, 1) := by decide +kernel
theorem dX2_layOut_66 : decode cX2_layOut 66 = .ok (.aload_n 0, 1) := by decide +kernel
theorem dX2_layOut_67 : decode cX2_layOut 67 = .ok (.iconst 0, 1) := by decide +kernel
theorem dX2_layOut_68 : decode cX2_layOut 68 = .ok (.iconst 5, 1) := by decide +kernel
theorem dX2_layOut_69 : decode cX2_layOut 69 = .ok (.bipush 11, 2) := by decide +kernel
theorem dX2_layOut_71 : decode cX2_layOut 71 = .ok (.iconst 0, 1) := by decide +kernel
theorem dX2_layOut_72 : decode cX2_layOut 72 = .ok (.iconst 5, 1) := by decide +kernel
theorem dX2_layOut_73 : decode cX2_layOut 73 = .ok (.bipush 6, 2) := by decide +kernel
theorem dX2_layOut_75 : decode cX2_layOut 75 = .ok (.iconst 5, 1) := by decide +kernel
theorem dX2_layOut_76 : decode cX2_layOut 76 = .ok (.iconst 0, 1) := by decide +kernel
theorem dX2_layOut_77 : decode cX2_layOut 77 = .ok (.invokevirtual 63, 3) := by decide +kernel
theorem dX2_layOut_80 : decode cX2_layOut 80 = .ok (.bipush 16, 2) := by decide +kernel
theorem dX2_layOut_82 : decode cX2_layOut 82 = .ok (.ireturn, 1) := by decide +kernel
theorem dX2_layOut_83 : decode cX2_layOut 83 = .ok (.aload_n 0, 1) := by decide +kernel
theorem dX2_layOut_84 : decode cX2_layOut 84 = .ok (.iconst 0, 1) := by decide +kernel
theorem dX2_layOut_85 : decode cX2_layOut 85 = .ok (.iconst 4, 1) := by decide +kernel
theorem dX2_layOut_86 : decode cX2_layOut 86 = .ok (.bipush 8, 2) := by decide +kernel
theorem dX2_layOut_88 : decode cX2_layOut 88 = .ok (.bipush 12, 2) := by decide +kernel
theorem dX2_layOut_90 : decode cX2_layOut 90 = .ok (.iconst 4, 1) := by decide +kernel
theorem dX2_layOut_91 : decode cX2_layOut 91 = .ok (.iconst 4, 1) := by decide +kernel
theorem dX2_layOut_92 : decode cX2_layOut 92 = .ok (.iconst 4, 1) := by decide +kernel
theorem dX2_layOut_93 : decode cX2_layOut 93 = .ok (.iconst 4, 1) := by decide +kernel
theorem dX2_layOut_94 : decode cX2_layOut 94 = .ok (.invokevirtual 63, 3) := by decide +kernel
theorem dX2_layOut_97 : decode cX2_layOut 97 = .ok (.bipush 16, 2) := by decide +kernel
theorem dX2_layOut_99 : decode cX2_layOut 99 = .ok (.ireturn, 1) := by decide +kernel
theorem dX2_layOut_100 : decode cX2_layOut 100 = .ok (.aload_n 0, 1) := by decide +kernel
theorem dX2_layOut_101 : decode cX2_layOut 101 = .ok (.iconst 0, 1) := by decide +kernel
theorem dX2_layOut_102 : decode cX2_layOut 102 = .ok (.iconst 5, 1) := by decide +kernel
theorem dX2_layOut_103 : decode cX2_layOut 103 = .ok (.bipush 10, 2) := by decide +kernel
theorem dX2_layOut_105 : decode cX2_layOut 105 = .ok (.bipush 15, 2) := by decide +kernel
theorem dX2_layOut_107 : decode cX2_layOut 107 = .ok (.iconst 5, 1) := by decide +kernel
theorem dX2_layOut_108 : decode cX2_layOut 108 = .ok (.iconst 5, 1) := by decide +kernel
theorem dX2_layOut_109 : decode cX2_layOut 109 = .ok (.iconst 5, 1) := by decide +kernel
theorem dX2_layOut_110 : decode cX2_layOut 110 = .ok (.iconst 1, 1) := by decide +kernel
theorem dX2_layOut_111 : decode cX2_layOut 111 = .ok (.invokevirtual 63, 3) := by decide +kernel
theorem dX2_layOut_114 : decode cX2_layOut 114 = .ok (.bipush 16, 2) := by decide +kernel
theorem dX2_layOut_116 : decode cX2_layOut 116 = .ok (.ireturn, 1) := by decide +kernel
theorem dX2_layOut_117 : decode cX2_layOut 117 = .ok (.aload_n 0, 1) := by decide +kernel
theorem dX2_layOut_118 : decode cX2_layOut 118 = .ok (.iconst 0, 1) := by decide +kernel
theorem dX2_layOut_119 : decode cX2_layOut 119 = .ok (.iconst 0, 1) := by decide +kernel
theorem dX2_layOut_120 : decode cX2_layOut 120 = .ok (.iconst 0, 1) := by decide +kernel
theorem dX2_layOut_121 : decode cX2_layOut 121 = .ok (.iconst 0, 1) := by decide +kernel
theorem dX2_layOut_122 : decode cX2_layOut 122 = .ok (.bipush 8, 2) := by decide +kernel
theorem dX2_layOut_124 : decode cX2_layOut 124 = .ok (.bipush 8, 2) := by decide +kernel
theorem dX2_layOut_126 : decode cX2_layOut 126 = .ok (.bipush 8, 2) := by decide +kernel
theorem dX2_layOut_128 : decode cX2_layOut 128 = .ok (.iconst 0, 1) := by decide +kernel
theorem dX2_layOut_129 : decode cX2_layOut 129 = .ok (.invokevirtual 63, 3) := by decide +kernel
theorem dX2_layOut_132 : decode cX2_layOut 132 = .ok (.bipush 8, 2) := by decide +kernel
theorem dX2_layOut_134 : decode cX2_layOut 134 = .ok (.ireturn, 1) := by decide +kernel
theorem dX2_layOut_135 : decode cX2_layOut 135 = .ok (.aload_n 0, 1) := by decide +kernel
theorem dX2_layOut_136 : decode cX2_layOut 136 = .ok (.iconst 0, 1) := by decide +kernel
theorem dX2_layOut_137 : decode cX2_layOut 137 = .ok (.iconst 0, 1) := by decide +kernel
theorem dX2_layOut_138 : decode cX2_layOut 138 = .ok (.iconst 0, 1) := by decide +kernel
theorem dX2_layOut_139 : decode cX2_layOut 139 = .ok (.iconst 0, 1) := by decide +kernel
theorem dX2_layOut_140 : decode cX2_layOut 140 = .ok (.iconst 0, 1) := by decide +kernel
theorem dX2_layOut_141 : decode cX2_layOut 141 = .ok (.iconst 0, 1) := by decide +kernel
theorem dX2_layOut_142 : decode cX2_layOut 142 = .ok (.iconst 0, 1) := by decide +kernel
theorem dX2_layOut_143 : decode cX2_layOut 143 = .ok (.bipush 8, 2) := by decide +kernel
theorem dX2_layOut_145 : decode cX2_layOut 145 = .ok (.invokevirtual 63, 3) := by decide +kernel
theorem dX2_layOut_148 : decode cX2_layOut 148 = .ok (.bipush 8, 2) := by decide +kernel
theorem dX2_layOut_150 : decode cX2_layOut 150 = .ok (.ireturn, 1) := by decide +kernel
theorem dX2_layOut_151 : decode cX2_layOut 151 = .ok (.aload_n 0, 1) := by decide +kernel
theorem dX2_layOut_152 : decode cX2_layOut 152 = .ok (.iconst 0, 1) := by decide +kernel
theorem dX2_layOut_153 : decode cX2_layOut 153 = .ok (.iconst 0, 1) := by decide +kernel
theorem dX2_layOut_154 : decode cX2_layOut 154 = .ok (.iconst 0, 1) := by decide +kernel
theorem dX2_layOut_155 : decode cX2_layOut 155 = .ok (.bipush 8, 2) := by decide +kernel
theorem dX2_layOut_157 : decode cX2_layOut 157 = .ok (.bipush 8, 2) := by decide +kernel
theorem dX2_layOut_159 : decode cX2_layOut 159 = .ok (.bipush 8, 2) := by decide +kernel
theorem dX2_layOut_161 : decode cX2_layOut 161 = .ok (.bipush 8, 2) := by decide +kernel
theorem dX2_layOut_163 : decode cX2_layOut 163 = .ok (.bipush 8, 2) := by decide +kernel
theorem dX2_layOut_165 : decode cX2_layOut 165 = .ok (.invokevirtual 63, 3) := by decide +kernel
theorem dX2_layOut_168 : decode cX2_layOut 168 = .ok (.bipush 16, 2) := by decide +kernel
theorem dX2_layOut_170 : decode cX2_layOut 170 = .ok (.ireturn, 1) := by decide +kernel
theorem dX2_layOut_171 : decode cX2_layOut 171 = .ok (.aload_n 0, 1) := by decide +kernel
theorem dX2_layOut_172 : decode cX2_layOut 172 = .ok (.iconst 0, 1) := by decide +kernel
theorem dX2_layOut_173 : decode cX2_layOut 173 = .ok (.iconst 0, 1) := by decide +kernel
theorem dX2_layOut_174 : decode cX2_layOut 174 = .ok (.iconst 0, 1) := by decide +kernel
theorem dX2_layOut_175 : decode cX2_layOut 175 = .ok (.iconst 0, 1) := by decide +kernel
theorem dX2_layOut_176 : decode cX2_layOut 176 = .ok (.iconst 4, 1) := by decide +kernel
theorem dX2_layOut_177 : decode cX2_layOut 177 = .ok (.iconst 4, 1) := by decide +kernel
theorem dX2_layOut_178 : decode cX2_layOut 178 = .ok (.iconst 4, 1) := by decide +kernel
theorem dX2_layOut_179 : decode cX2_layOut 179 = .ok (.iconst 0, 1) := by decide +kernel
theorem dX2_layOut_180 : decode cX2_layOut 180 = .ok (.invokevirtual 63, 3) := by decide +kernel
theorem dX2_layOut_183 : decode cX2_layOut 183 = .ok (.iconst 4, 1) := by decide +kernel
theorem dX2_layOut_184 : decode cX2_layOut 184 = .ok (.ireturn, 1) := by decide +kernel
theorem dX2_bit_0 : decode cX2_bit 0 = .ok (.iload_n 1, 1) := by decide +kernel
theorem dX2_bit_1 : decode cX2_bit 1 = .ok (.i2l, 1) := by decide +kernel
theorem dX2_bit_2 : decode cX2_bit 2 = .ok (.lload_n 2, 1) := by decide +kernel
theorem dX2_bit_3 : decode cX2_bit 3 = .ok (.ldc2_w 67, 3) := by decide +kernel
theorem dX2_bit_6 : decode cX2_bit 6 = .ok (.ldiv, 1) := by decide +kernel
theorem dX2_bit_7 : decode cX2_bit 7 = .ok (.ladd, 1) := by decide +kernel
theorem dX2_bit_8 : decode cX2_bit 8 = .ok (.lstore 4, 2) := by decide +kernel
theorem dX2_bit_10 : decode cX2_bit 10 = .ok (.lload 4, 2) := by decide +kernel
theorem dX2_bit_12 : decode cX2_bit 12 = .ok (.ldc2_w 69, 3) := by decide +kernel
theorem dX2_bit_15 : decode cX2_bit 15 = .ok (.lcmp, 1) := by decide +kernel
theorem dX2_bit_16 : decode cX2_bit 16 = .ok (.ifCond .ge 23, 3) := by decide +kernel
theorem dX2_bit_19 : decode cX2_bit 19 = .ok (.aload_n 0, 1) := by decide +kernel
theorem dX2_bit_20 : decode cX2_bit 20 = .ok (.getfield 7, 3) := by decide +kernel
theorem dX2_bit_23 : decode cX2_bit 23 = .ok (.lload 4, 2) := by decide +kernel
theorem dX2_bit_25 : decode cX2_bit 25 = .ok (.l2i, 1) := by decide +kernel
theorem dX2_bit_26 : decode cX2_bit 26 = .ok (.iaload, 1) := by decide +kernel
theorem dX2_bit_27 : decode cX2_bit 27 = .ok (.lload_n 2, 1) := by decide +kernel
theorem dX2_bit_28 : decode cX2_bit 28 = .ok (.ldc2_w 67, 3) := by decide +kernel
theorem dX2_bit_31 : decode cX2_bit 31 = .ok (.lrem, 1) := by decide +kernel
theorem dX2_bit_32 : decode cX2_bit 32 = .ok (.l2i, 1) := by decide +kernel
theorem dX2_bit_33 : decode cX2_bit 33 = .ok (.ishr, 1) := by decide +kernel
theorem dX2_bit_34 : decode cX2_bit 34 = .ok (.iconst 1, 1) := by decide +kernel
theorem dX2_bit_35 : decode cX2_bit 35 = .ok (.iand, 1) := by decide +kernel
theorem dX2_bit_36 : decode cX2_bit 36 = .ok (.goto 4, 3) := by decide +kernel
theorem dX2_bit_39 : decode cX2_bit 39 = .ok (.iconst 0, 1) := by decide +kernel
theorem dX2_bit_40 : decode cX2_bit 40 = .ok (.ireturn, 1) := by decide +kernel
theorem dX2_look_0 : decode cX2_look 0 = .ok (.aload_n 0, 1) := by decide +kernel
theorem dX2_look_1 : decode cX2_look 1 = .ok (.aload_n 0, 1) := by decide +kernel
theorem dX2_look_2 : decode cX2_look 2 = .ok (.getfield 13, 3) := by decide +kernel
theorem dX2_look_5 : decode cX2_look 5 = .ok (.bipush 8, 2) := by decide +kernel
theorem dX2_look_7 : decode cX2_look 7 = .ok (.iload_n 1, 1) := by decide +kernel
theorem dX2_look_8 : decode cX2_look 8 = .ok (.imul, 1) := by decide +kernel
theorem dX2_look_9 : decode cX2_look 9 = .ok (.iconst 4, 1) := by decide +kernel
theorem dX2_look_10 : decode cX2_look 10 = .ok (.iadd, 1) := by decide +kernel
theorem dX2_look_11 : decode cX2_look 11 = .ok (.iaload, 1) := by decide +kernel
theorem dX2_look_12 : decode cX2_look 12 = .ok (.invokevirtual 71, 3) := by decide +kernel
theorem dX2_look_15 : decode cX2_look 15 = .ok (.istore 5, 2) := by decide +kernel
theorem dX2_look_17 : decode cX2_look 17 = .ok (.aload_n 0, 1) := by decide +kernel
theorem dX2_look_18 : decode cX2_look 18 = .ok (.iload_n 1, 1) := by decide +kernel
theorem dX2_look_19 : decode cX2_look 19 = .ok (.iload_n 2, 1) := by decide +kernel
theorem dX2_look_20 : decode cX2_look 20 = .ok (.invokevirtual 75, 3) := by decide +kernel
theorem dX2_look_23 : decode cX2_look 23 = .ok (.iload 4, 2) := by decide +kernel
theorem dX2_look_25 : decode cX2_look 25 = .ok (.aload_n 0, 1) := by decide +kernel
theorem dX2_look_26 : decode cX2_look 26 = .ok (.iload_n 1, 1) := by decide +kernel
theorem dX2_look_27 : decode cX2_look 27 = .ok (.iload_n 2, 1) := by decide +kernel
theorem dX2_look_28 : decode cX2_look 28 = .ok (.invokevirtual 56, 3) := by decide +kernel
theorem dX2_look_31 : decode cX2_look 31 = .ok (.imul, 1) := by decide +kernel
theorem dX2_look_32 : decode cX2_look 32 = .ok (.iadd, 1) := by decide +kernel
theorem dX2_look_33 : decode cX2_look 33 = .ok (.iload_n 3, 1) := by decide +kernel
theorem dX2_look_34 : decode cX2_look 34 = .ok (.iadd, 1) := by decide +kernel
theorem dX2_look_35 : decode cX2_look 35 = .ok (.i2l, 1) := by decide +kernel
theorem dX2_look_36 : decode cX2_look 36 = .ok (.iload 5, 2) := by decide +kernel
theorem dX2_look_38 : decode cX2_look 38 = .ok (.i2l, 1) := by decide +kernel
theorem dX2_look_39 : decode cX2_look 39 = .ok (.lmul, 1) := by decide +kernel
theorem dX2_look_40 : decode cX2_look 40 = .ok (.lstore 6, 2) := by decide +kernel
theorem dX2_look_42 : decode cX2_look 42 = .ok (.iconst 0, 1) := by decide +kernel
theorem dX2_look_43 : decode cX2_look 43 = .ok (.istore 8, 2) := by decide +kernel
theorem dX2_look_45 : decode cX2_look 45 = .ok (.iload 8, 2) := by decide +kernel
theorem dX2_look_47 : decode cX2_look 47 = .ok (.iconst 4, 1) := by decide +kernel
theorem dX2_look_48 : decode cX2_look 48 = .ok (.if_icmp .ge 122, 3) := by decide +kernel
theorem dX2_look_51 : decode cX2_look 51 = .ok (.iconst 0, 1) := by decide +kernel
theorem dX2_look_52 : decode cX2_look 52 = .ok (.istore 9, 2) := by decide +kernel
theorem dX2_look_54 : decode cX2_look 54 = .ok (.aload_n 0, 1) := by decide +kernel
theorem dX2_look_55 : decode cX2_look 55 = .ok (.getfield 37, 3) := by decide +kernel
theorem dX2_look_58 : decode cX2_look 58 = .ok (.iload 8, 2) := by decide +kernel
theorem dX2_look_60 : decode cX2_look 60 = .ok (.iaload, 1) := by decide +kernel
theorem dX2_look_61 : decode cX2_look 61 = .ok (.iconst 1, 1) := by decide +kernel
theorem dX2_look_62 : decode cX2_look 62 = .ok (.isub, 1) := by decide +kernel
theorem dX2_look_63 : decode cX2_look 63 = .ok (.istore 10, 2) := by decide +kernel
theorem dX2_look_65 : decode cX2_look 65 = .ok (.iload 10, 2) := by decide +kernel
theorem dX2_look_67 : decode cX2_look 67 = .ok (.ifCond .lt 44, 3) := by decide +kernel
theorem dX2_look_70 : decode cX2_look 70 = .ok (.iconst 2, 1) := by decide +kernel
theorem dX2_look_71 : decode cX2_look 71 = .ok (.iload 9, 2) := by decide +kernel
theorem dX2_look_73 : decode cX2_look 73 = .ok (.imul, 1) := by decide +kernel
theorem dX2_look_74 : decode cX2_look 74 = .ok (.aload_n 0, 1) := by decide +kernel
theorem dX2_look_75 : decode cX2_look 75 = .ok (.aload_n 0, 1) := by decide +kernel
theorem dX2_look_76 : decode cX2_look 76 = .ok (.getfield 13, 3) := by decide +kernel
theorem dX2_look_79 : decode cX2_look 79 = .ok (.bipush 8, 2) := by decide +kernel
theorem dX2_look_81 : decode cX2_look 81 = .ok (.iload_n 1, 1) := by decide +kernel
theorem dX2_look_82 : decode cX2_look 82 = .ok (.imul, 1) := by decide +kernel
theorem dX2_look_83 : decode cX2_look 83 = .ok (.iaload, 1) := by decide +kernel
theorem dX2_look_84 : decode cX2_look 84 = .ok (.lload 6, 2) := by decide +kernel
theorem dX2_look_86 : decode cX2_look 86 = .ok (.aload_n 0, 1) := by decide +kernel
theorem dX2_look_87 : decode cX2_look 87 = .ok (.getfield 34, 3) := by decide +kernel
theorem dX2_look_90 : decode cX2_look 90 = .ok (.iload 8, 2) := by decide +kernel
theorem dX2_look_92 : decode cX2_look 92 = .ok (.iaload, 1) := by decide +kernel
theorem dX2_look_93 : decode cX2_look 93 = .ok (.i2l, 1) := by decide +kernel
theorem dX2_look_94 : decode cX2_look 94 = .ok (.ladd, 1) := by decide +kernel
theorem dX2_look_95 : decode cX2_look 95 = .ok (.iload 10, 2) := by decide +kernel
theorem dX2_look_97 : decode cX2_look 97 = .ok (.i2l, 1) := by decide +kernel
theorem dX2_look_98 : decode cX2_look 98 = .ok (.ladd, 1) := by decide +kernel
theorem dX2_look_99 : decode cX2_look 99 = .ok (.invokevirtual 78, 3) := by decide +kernel
theorem dX2_look_102 : decode cX2_look 102 = .ok (.iadd, 1) := by decide +kernel
theorem dX2_look_103 : decode cX2_look 103 = .ok (.istore 9, 2) := by decide +kernel
theorem dX2_look_105 : decode cX2_look 105 = .ok (.iinc 10 (-1), 3) := by decide +kernel
theorem dX2_look_108 : decode cX2_look 108 = .ok (.goto (-43), 3) := by decide +kernel
theorem dX2_look_111 : decode cX2_look 111 = .ok (.iconst 1, 1) := by decide +kernel
theorem dX2_look_112 : decode cX2_look 112 = .ok (.aload_n 0, 1) := by decide +kernel
theorem dX2_look_113 : decode cX2_look 113 = .ok (.getfield 37, 3) := by decide +kernel
theorem dX2_look_116 : decode cX2_look 116 = .ok (.iload 8, 2) := by decide +kernel
theorem dX2_look_118 : decode cX2_look 118 = .ok (.iaload, 1) := by decide +kernel
theorem dX2_look_119 : decode cX2_look 119 = .ok (.ishl, 1) := by decide +kernel
theorem dX2_look_120 : decode cX2_look 120 = .ok (.iconst 1, 1) := by decide +kernel
theorem dX2_look_121 : decode cX2_look 121 = .ok (.isub, 1) := by decide +kernel
theorem dX2_look_122 : decode cX2_look 122 = .ok (.istore 10, 2) := by decide +kernel
theorem dX2_look_124 : decode cX2_look 124 = .ok (.aload_n 0, 1) := by decide +kernel
theorem dX2_look_125 : decode cX2_look 125 = .ok (.getfield 22, 3) := by decide +kernel
theorem dX2_look_128 : decode cX2_look 128 = .ok (.iload 8, 2) := by decide +kernel
theorem dX2_look_130 : decode cX2_look 130 = .ok (.iload 10, 2) := by decide +kernel
theorem dX2_look_132 : decode cX2_look 132 = .ok (.ifCond .ne 18, 3) := by decide +kernel
theorem dX2_look_135 : decode cX2_look 135 = .ok (.iload 8, 2) := by decide +kernel
theorem dX2_look_137 : decode cX2_look 137 = .ok (.iconst 3, 1) := by decide +kernel
theorem dX2_look_138 : decode cX2_look 138 = .ok (.if_icmp .ne 8, 3) := by decide +kernel
theorem dX2_look_141 : decode cX2_look 141 = .ok (.ldc 82, 2) := by decide +kernel
theorem dX2_look_143 : decode cX2_look 143 = .ok (.goto 20, 3) := by decide +kernel
theorem dX2_look_146 : decode cX2_look 146 = .ok (.iconst 0, 1) := by decide +kernel
theorem dX2_look_147 : decode cX2_look 147 = .ok (.goto 16, 3) := by decide +kernel
theorem dX2_look_150 : decode cX2_look 150 = .ok (.ldc 83, 2) := by decide +kernel
theorem dX2_look_152 : decode cX2_look 152 = .ok (.iload 9, 2) := by decide +kernel
theorem dX2_look_154 : decode cX2_look 154 = .ok (.imul, 1) := by decide +kernel
theorem dX2_look_155 : decode cX2_look 155 = .ok (.iload 10, 2) := by decide +kernel
theorem dX2_look_157 : decode cX2_look 157 = .ok (.iadd, 1) := by decide +kernel
theorem dX2_look_158 : decode cX2_look 158 = .ok (.iconst 2, 1) := by decide +kernel
theorem dX2_look_159 : decode cX2_look 159 = .ok (.iload 10, 2) := by decide +kernel
theorem dX2_look_161 : decode cX2_look 161 = .ok (.imul, 1) := by decide +kernel
theorem dX2_look_162 : decode cX2_look 162 = .ok (.idiv, 1) := by decide +kernel
theorem dX2_look_163 : decode cX2_look 163 = .ok (.iastore, 1) := by decide +kernel
theorem dX2_look_164 : decode cX2_look 164 = .ok (.iinc 8 1, 3) := by decide +kernel
theorem dX2_look_167 : decode cX2_look 167 = .ok (.goto (-122), 3) := by decide +kernel
theorem dX2_look_170 : decode cX2_look 170 = .ok (.return_, 1) := by decide +kernel
theorem dX2_wrap_0 : decode cX2_wrap 0 = .ok (.iload_n 2, 1) := by decide +kernel
theorem dX2_wrap_1 : decode cX2_wrap 1 = .ok (.iconst 2, 1) := by decide +kernel
theorem dX2_wrap_2 : decode cX2_wrap 2 = .ok (.if_icmp .ne 9, 3) := by decide +kernel
theorem dX2_wrap_5 : decode cX2_wrap 5 = .ok (.iconst 2, 1) := by decide +kernel
theorem dX2_wrap_6 : decode cX2_wrap 6 = .ok (.iload_n 1, 1) := by decide +kernel
theorem dX2_wrap_7 : decode cX2_wrap 7 = .ok (.imul, 1) := by decide +kernel
theorem dX2_wrap_8 : decode cX2_wrap 8 = .ok (.goto 4, 3) := by decide +kernel
theorem dX2_wrap_11 : decode cX2_wrap 11 = .ok (.iload_n 1, 1) := by decide +kernel
theorem dX2_wrap_12 : decode cX2_wrap 12 = .ok (.istore_n 3, 1) := by decide +kernel
theorem dX2_wrap_13 : decode cX2_wrap 13 = .ok (.iload_n 0, 1) := by decide +kernel
theorem dX2_wrap_14 : decode cX2_wrap 14 = .ok (.iload_n 3, 1) := by decide +kernel
theorem dX2_wrap_15 : decode cX2_wrap 15 = .ok (.irem, 1) := by decide +kernel
theorem dX2_wrap_16 : decode cX2_wrap 16 = .ok (.iload_n 3, 1) := by decide +kernel
theorem dX2_wrap_17 : decode cX2_wrap 17 = .ok (.iadd, 1) := by decide +kernel
theorem dX2_wrap_18 : decode cX2_wrap 18 = .ok (.iload_n 3, 1) := by decide +kernel
theorem dX2_wrap_19 : decode cX2_wrap 19 = .ok (.irem, 1) := by decide +kernel
theorem dX2_wrap_20 : decode cX2_wrap 20 = .ok (.istore 4, 2) := by decide +kernel
theorem dX2_wrap_22 : decode cX2_wrap 22 = .ok (.iload_n 2, 1) := by decide +kernel
theorem dX2_wrap_23 : decode cX2_wrap 23 = .ok (.tableswitch 69 0 2 #[25, 28, 49], 25) := by decide +kernel
theorem dX2_wrap_48 : decode cX2_wrap 48 = .ok (.iload 4, 2) := by decide +kernel
theorem dX2_wrap_50 : decode cX2_wrap 50 = .ok (.ireturn, 1) := by decide +kernel
theorem dX2_wrap_51 : decode cX2_wrap 51 = .ok (.iload_n 0, 1) := by decide +kernel
theorem dX2_wrap_52 : decode cX2_wrap 52 = .ok (.ifCond .ge 7, 3) := by decide +kernel
theorem dX2_wrap_55 : decode cX2_wrap 55 = .ok (.iconst 0, 1) := by decide +kernel
theorem dX2_wrap_56 : decode cX2_wrap 56 = .ok (.goto 15, 3) := by decide +kernel
theorem dX2_wrap_59 : decode cX2_wrap 59 = .ok (.iload_n 0, 1) := by decide +kernel
theorem dX2_wrap_60 : decode cX2_wrap 60 = .ok (.iload_n 1, 1) := by decide +kernel
theorem dX2_wrap_61 : decode cX2_wrap 61 = .ok (.if_icmp .lt 9, 3) := by decide +kernel
theorem dX2_wrap_64 : decode cX2_wrap 64 = .ok (.iload_n 1, 1) := by decide +kernel
theorem dX2_wrap_65 : decode cX2_wrap 65 = .ok (.iconst 1, 1) := by decide +kernel
theorem dX2_wrap_66 : decode cX2_wrap 66 = .ok (.isub, 1) := by decide +kernel
theorem dX2_wrap_67 : decode cX2_wrap 67 = .ok (.goto 4, 3) := by decide +kernel
theorem dX2_wrap_70 : decode cX2_wrap 70 = .ok (.iload_n 0, 1) := by decide +kernel
theorem dX2_wrap_71 : decode cX2_wrap 71 = .ok (.ireturn, 1) := by decide +kernel
theorem dX2_wrap_72 : decode cX2_wrap 72 = .ok (.iload 4, 2) := by decide +kernel
theorem dX2_wrap_74 : decode cX2_wrap 74 = .ok (.iload_n 1, 1) := by decide +kernel
theorem dX2_wrap_75 : decode cX2_wrap 75 = .ok (.if_icmp .ge 8, 3) := by decide +kernel
theorem dX2_wrap_78 : decode cX2_wrap 78 = .ok (.iload 4, 2) := by decide +kernel
theorem dX2_wrap_80 : decode cX2_wrap 80 = .ok (.goto 11, 3) := by decide +kernel
theorem dX2_wrap_83 : decode cX2_wrap 83 = .ok (.iconst 2, 1) := by decide +kernel
theorem dX2_wrap_84 : decode cX2_wrap 84 = .ok (.iload_n 1, 1) := by decide +kernel
theorem dX2_wrap_85 : decode cX2_wrap 85 = .ok (.imul, 1) := by decide +kernel
theorem dX2_wrap_86 : decode cX2_wrap 86 = .ok (.iconst 1, 1) := by decide +kernel
theorem dX2_wrap_87 : decode cX2_wrap 87 = .ok (.isub, 1) := by decide +kernel
theorem dX2_wrap_88 : decode cX2_wrap 88 = .ok (.iload 4, 2) := by decide +kernel
theorem dX2_wrap_90 : decode cX2_wrap 90 = .ok (.isub, 1) := by decide +kernel
theorem dX2_wrap_91 : decode cX2_wrap 91 = .ok (.ireturn, 1) := by decide +kernel
theorem dX2_wrap_92 : decode cX2_wrap 92 = .ok (.iload_n 0, 1) := by decide +kernel
theorem dX2_wrap_93 : decode cX2_wrap 93 = .ok (.ifCond .lt 12, 3) := by decide +kernel
theorem dX2_wrap_96 : decode cX2_wrap 96 = .ok (.iload_n 0, 1) := by decide +kernel
theorem dX2_wrap_97 : decode cX2_wrap 97 = .ok (.iload_n 1, 1) := by decide +kernel
theorem dX2_wrap_98 : decode cX2_wrap 98 = .ok (.if_icmp .ge 7, 3) := by decide +kernel
theorem dX2_wrap_101 : decode cX2_wrap 101 = .ok (.iload_n 0, 1) := by decide +kernel
theorem dX2_wrap_102 : decode cX2_wrap 102 = .ok (.goto 4, 3) := by decide +kernel
theorem dX2_wrap_105 : decode cX2_wrap 105 = .ok (.iconst (-1), 1) := by decide +kernel
theorem dX2_wrap_106 : decode cX2_wrap 106 = .ok (.ireturn, 1) := by decide +kernel
theorem dX2_wrapped_0 : decode cX2_wrapped 0 = .ok (.iload_n 3, 1) := by decide +kernel
theorem dX2_wrapped_1 : decode cX2_wrapped 1 = .ok (.aload_n 0, 1) := by decide +kernel
theorem dX2_wrapped_2 : decode cX2_wrapped 2 = .ok (.iload_n 1, 1) := by decide +kernel
theorem dX2_wrapped_3 : decode cX2_wrapped 3 = .ok (.iload_n 2, 1) := by decide +kernel
theorem dX2_wrapped_4 : decode cX2_wrapped 4 = .ok (.invokevirtual 56, 3) := by decide +kernel
theorem dX2_wrapped_7 : decode cX2_wrapped 7 = .ok (.aload_n 0, 1) := by decide +kernel
theorem dX2_wrapped_8 : decode cX2_wrapped 8 = .ok (.getfield 13, 3) := by decide +kernel
theorem dX2_wrapped_11 : decode cX2_wrapped 11 = .ok (.bipush 8, 2) := by decide +kernel
theorem dX2_wrapped_13 : decode cX2_wrapped 13 = .ok (.iload_n 1, 1) := by decide +kernel
theorem dX2_wrapped_14 : decode cX2_wrapped 14 = .ok (.imul, 1) := by decide +kernel
theorem dX2_wrapped_15 : decode cX2_wrapped 15 = .ok (.iconst 5, 1) := by decide +kernel
theorem dX2_wrapped_16 : decode cX2_wrapped 16 = .ok (.iadd, 1) := by decide +kernel
theorem dX2_wrapped_17 : decode cX2_wrapped 17 = .ok (.iaload, 1) := by decide +kernel
theorem dX2_wrapped_18 : decode cX2_wrapped 18 = .ok (.invokestatic 84, 3) := by decide +kernel
theorem dX2_wrapped_21 : decode cX2_wrapped 21 = .ok (.istore 5, 2) := by decide +kernel
theorem dX2_wrapped_23 : decode cX2_wrapped 23 = .ok (.iload 4, 2) := by decide +kernel
theorem dX2_wrapped_25 : decode cX2_wrapped 25 = .ok (.aload_n 0, 1) := by decide +kernel
theorem dX2_wrapped_26 : decode cX2_wrapped 26 = .ok (.iload_n 1, 1) := by decide +kernel
theorem dX2_wrapped_27 : decode cX2_wrapped 27 = .ok (.iload_n 2, 1) := by decide +kernel
theorem dX2_wrapped_28 : decode cX2_wrapped 28 = .ok (.invokevirtual 60, 3) := by decide +kernel
theorem dX2_wrapped_31 : decode cX2_wrapped 31 = .ok (.aload_n 0, 1) := by decide +kernel
theorem dX2_wrapped_32 : decode cX2_wrapped 32 = .ok (.getfield 13, 3) := by decide +kernel
theorem dX2_wrapped_35 : decode cX2_wrapped 35 = .ok (.bipush 8, 2) := by decide +kernel
theorem dX2_wrapped_37 : decode cX2_wrapped 37 = .ok (.iload_n 1, 1) := by decide +kernel
theorem dX2_wrapped_38 : decode cX2_wrapped 38 = .ok (.imul, 1) := by decide +kernel
theorem dX2_wrapped_39 : decode cX2_wrapped 39 = .ok (.bipush 6, 2) := by decide +kernel
theorem dX2_wrapped_41 : decode cX2_wrapped 41 = .ok (.iadd, 1) := by decide +kernel
theorem dX2_wrapped_42 : decode cX2_wrapped 42 = .ok (.iaload, 1) := by decide +kernel
theorem dX2_wrapped_43 : decode cX2_wrapped 43 = .ok (.invokestatic 84, 3) := by decide +kernel
theorem dX2_wrapped_46 : decode cX2_wrapped 46 = .ok (.istore 6, 2) := by decide +kernel
theorem dX2_wrapped_48 : decode cX2_wrapped 48 = .ok (.iload 5, 2) := by decide +kernel
theorem dX2_wrapped_50 : decode cX2_wrapped 50 = .ok (.ifCond .lt 19, 3) := by decide +kernel
theorem dX2_wrapped_53 : decode cX2_wrapped 53 = .ok (.iload 6, 2) := by decide +kernel
theorem dX2_wrapped_55 : decode cX2_wrapped 55 = .ok (.ifCond .lt 14, 3) := by decide +kernel
theorem dX2_wrapped_58 : decode cX2_wrapped 58 = .ok (.aload_n 0, 1) := by decide +kernel
theorem dX2_wrapped_59 : decode cX2_wrapped 59 = .ok (.iload_n 1, 1) := by decide +kernel
theorem dX2_wrapped_60 : decode cX2_wrapped 60 = .ok (.iload_n 2, 1) := by decide +kernel
theorem dX2_wrapped_61 : decode cX2_wrapped 61 = .ok (.iload 5, 2) := by decide +kernel
theorem dX2_wrapped_63 : decode cX2_wrapped 63 = .ok (.iload 6, 2) := by decide +kernel
theorem dX2_wrapped_65 : decode cX2_wrapped 65 = .ok (.invokevirtual 87, 3) := by decide +kernel
theorem dX2_wrapped_68 : decode cX2_wrapped 68 = .ok (.return_, 1) := by decide +kernel
theorem dX2_wrapped_69 : decode cX2_wrapped 69 = .ok (.iconst 0, 1) := by decide +kernel
theorem dX2_wrapped_70 : decode cX2_wrapped 70 = .ok (.istore 7, 2) := by decide +kernel
theorem dX2_wrapped_72 : decode cX2_wrapped 72 = .ok (.iload 7, 2) := by decide +kernel
theorem dX2_wrapped_74 : decode cX2_wrapped 74 = .ok (.iconst 4, 1) := by decide +kernel
theorem dX2_wrapped_75 : decode cX2_wrapped 75 = .ok (.if_icmp .ge 27, 3) := by decide +kernel
theorem dX2_wrapped_78 : decode cX2_wrapped 78 = .ok (.aload_n 0, 1) := by decide +kernel
theorem dX2_wrapped_79 : decode cX2_wrapped 79 = .ok (.getfield 22, 3) := by decide +kernel
theorem dX2_wrapped_82 : decode cX2_wrapped 82 = .ok (.iload 7, 2) := by decide +kernel
theorem dX2_wrapped_84 : decode cX2_wrapped 84 = .ok (.aload_n 0, 1) := by decide +kernel
theorem dX2_wrapped_85 : decode cX2_wrapped 85 = .ok (.getfield 16, 3) := by decide +kernel
theorem dX2_wrapped_88 : decode cX2_wrapped 88 = .ok (.iconst 4, 1) := by decide +kernel
theorem dX2_wrapped_89 : decode cX2_wrapped 89 = .ok (.iload_n 1, 1) := by decide +kernel
theorem dX2_wrapped_90 : decode cX2_wrapped 90 = .ok (.imul, 1) := by decide +kernel
theorem dX2_wrapped_91 : decode cX2_wrapped 91 = .ok (.iload 7, 2) := by decide +kernel
theorem dX2_wrapped_93 : decode cX2_wrapped 93 = .ok (.iadd, 1) := by decide +kernel
theorem dX2_wrapped_94 : decode cX2_wrapped 94 = .ok (.iaload, 1) := by decide +kernel
theorem dX2_wrapped_95 : decode cX2_wrapped 95 = .ok (.iastore, 1) := by decide +kernel
theorem dX2_wrapped_96 : decode cX2_wrapped 96 = .ok (.iinc 7 1, 3) := by decide +kernel
theorem dX2_wrapped_99 : decode cX2_wrapped 99 = .ok (.goto (-27), 3) := by decide +kernel
theorem dX2_wrapped_102 : decode cX2_wrapped 102 = .ok (.return_, 1) := by decide +kernel
theorem dX2_mix_0 : decode cX2_mix 0 = .ok (.iload_n 0, 1) := by decide +kernel
theorem dX2_mix_1 : decode cX2_mix 1 = .ok (.i2l, 1) := by decide +kernel
theorem dX2_mix_2 : decode cX2_mix 2 = .ok (.iload_n 1, 1) := by decide +kernel
theorem dX2_mix_3 : decode cX2_mix 3 = .ok (.i2l, 1) := by decide +kernel
theorem dX2_mix_4 : decode cX2_mix 4 = .ok (.iload_n 0, 1) := by decide +kernel
theorem dX2_mix_5 : decode cX2_mix 5 = .ok (.i2l, 1) := by decide +kernel
theorem dX2_mix_6 : decode cX2_mix 6 = .ok (.lsub, 1) := by decide +kernel
theorem dX2_mix_7 : decode cX2_mix 7 = .ok (.iload_n 2, 1) := by decide +kernel
theorem dX2_mix_8 : decode cX2_mix 8 = .ok (.i2l, 1) := by decide +kernel
theorem dX2_mix_9 : decode cX2_mix 9 = .ok (.lmul, 1) := by decide +kernel
theorem dX2_mix_10 : decode cX2_mix 10 = .ok (.bipush 16, 2) := by decide +kernel
theorem dX2_mix_12 : decode cX2_mix 12 = .ok (.lshr, 1) := by decide +kernel
theorem dX2_mix_13 : decode cX2_mix 13 = .ok (.ladd, 1) := by decide +kernel
theorem dX2_mix_14 : decode cX2_mix 14 = .ok (.l2i, 1) := by decide +kernel
theorem dX2_mix_15 : decode cX2_mix 15 = .ok (.ireturn, 1) := by decide +kernel
theorem dX2_mixRow_0 : decode cX2_mixRow 0 = .ok (.aload_n 0, 1) := by decide +kernel
theorem dX2_mixRow_1 : decode cX2_mixRow 1 = .ok (.iload_n 1, 1) := by decide +kernel
theorem dX2_mixRow_2 : decode cX2_mixRow 2 = .ok (.iload_n 2, 1) := by decide +kernel
theorem dX2_mixRow_3 : decode cX2_mixRow 3 = .ok (.iload_n 3, 1) := by decide +kernel
theorem dX2_mixRow_4 : decode cX2_mixRow 4 = .ok (.iload 4, 2) := by decide +kernel
theorem dX2_mixRow_6 : decode cX2_mixRow 6 = .ok (.invokevirtual 91, 3) := by decide +kernel
theorem dX2_mixRow_9 : decode cX2_mixRow 9 = .ok (.iconst 0, 1) := by decide +kernel
theorem dX2_mixRow_10 : decode cX2_mixRow 10 = .ok (.istore 6, 2) := by decide +kernel
theorem dX2_mixRow_12 : decode cX2_mixRow 12 = .ok (.iload 6, 2) := by decide +kernel
theorem dX2_mixRow_14 : decode cX2_mixRow 14 = .ok (.iconst 4, 1) := by decide +kernel
theorem dX2_mixRow_15 : decode cX2_mixRow 15 = .ok (.if_icmp .ge 23, 3) := by decide +kernel
theorem dX2_mixRow_18 : decode cX2_mixRow 18 = .ok (.aload_n 0, 1) := by decide +kernel
theorem dX2_mixRow_19 : decode cX2_mixRow 19 = .ok (.getfield 25, 3) := by decide +kernel
theorem dX2_mixRow_22 : decode cX2_mixRow 22 = .ok (.iload 6, 2) := by decide +kernel
theorem dX2_mixRow_24 : decode cX2_mixRow 24 = .ok (.aload_n 0, 1) := by decide +kernel
theorem dX2_mixRow_25 : decode cX2_mixRow 25 = .ok (.getfield 22, 3) := by decide +kernel
theorem dX2_mixRow_28 : decode cX2_mixRow 28 = .ok (.iload 6, 2) := by decide +kernel
theorem dX2_mixRow_30 : decode cX2_mixRow 30 = .ok (.iaload, 1) := by decide +kernel
theorem dX2_mixRow_31 : decode cX2_mixRow 31 = .ok (.iastore, 1) := by decide +kernel
theorem dX2_mixRow_32 : decode cX2_mixRow 32 = .ok (.iinc 6 1, 3) := by decide +kernel
theorem dX2_mixRow_35 : decode cX2_mixRow 35 = .ok (.goto (-23), 3) := by decide +kernel
theorem dX2_mixRow_38 : decode cX2_mixRow 38 = .ok (.aload_n 0, 1) := by decide +kernel
theorem dX2_mixRow_39 : decode cX2_mixRow 39 = .ok (.iload_n 1, 1) := by decide +kernel
theorem dX2_mixRow_40 : decode cX2_mixRow 40 = .ok (.iload_n 2, 1) := by decide +kernel
theorem dX2_mixRow_41 : decode cX2_mixRow 41 = .ok (.iload_n 3, 1) := by decide +kernel
theorem dX2_mixRow_42 : decode cX2_mixRow 42 = .ok (.iconst 1, 1) := by decide +kernel
theorem dX2_mixRow_43 : decode cX2_mixRow 43 = .ok (.iadd, 1) := by decide +kernel
theorem dX2_mixRow_44 : decode cX2_mixRow 44 = .ok (.iload 4, 2) := by decide +kernel
theorem dX2_mixRow_46 : decode cX2_mixRow 46 = .ok (.invokevirtual 91, 3) := by decide +kernel
theorem dX2_mixRow_49 : decode cX2_mixRow 49 = .ok (.iconst 0, 1) := by decide +kernel
theorem dX2_mixRow_50 : decode cX2_mixRow 50 = .ok (.istore 6, 2) := by decide +kernel
theorem dX2_mixRow_52 : decode cX2_mixRow 52 = .ok (.iload 6, 2) := by decide +kernel
theorem dX2_mixRow_54 : decode cX2_mixRow 54 = .ok (.iconst 4, 1) := by decide +kernel
theorem dX2_mixRow_55 : decode cX2_mixRow 55 = .ok (.if_icmp .ge 35, 3) := by decide +kernel
theorem dX2_mixRow_58 : decode cX2_mixRow 58 = .ok (.aload_n 0, 1) := by decide +kernel
theorem dX2_mixRow_59 : decode cX2_mixRow 59 = .ok (.getfield 25, 3) := by decide +kernel
theorem dX2_mixRow_62 : decode cX2_mixRow 62 = .ok (.iload 6, 2) := by decide +kernel
theorem dX2_mixRow_64 : decode cX2_mixRow 64 = .ok (.aload_n 0, 1) := by decide +kernel
theorem dX2_mixRow_65 : decode cX2_mixRow 65 = .ok (.getfield 25, 3) := by decide +kernel
theorem dX2_mixRow_68 : decode cX2_mixRow 68 = .ok (.iload 6, 2) := by decide +kernel
theorem dX2_mixRow_70 : decode cX2_mixRow 70 = .ok (.iaload, 1) := by decide +kernel
theorem dX2_mixRow_71 : decode cX2_mixRow 71 = .ok (.aload_n 0, 1) := by decide +kernel
theorem dX2_mixRow_72 : decode cX2_mixRow 72 = .ok (.getfield 22, 3) := by decide +kernel
theorem dX2_mixRow_75 : decode cX2_mixRow 75 = .ok (.iload 6, 2) := by decide +kernel
theorem dX2_mixRow_77 : decode cX2_mixRow 77 = .ok (.iaload, 1) := by decide +kernel
theorem dX2_mixRow_78 : decode cX2_mixRow 78 = .ok (.iload 5, 2) := by decide +kernel
theorem dX2_mixRow_80 : decode cX2_mixRow 80 = .ok (.invokestatic 94, 3) := by decide +kernel
theorem dX2_mixRow_83 : decode cX2_mixRow 83 = .ok (.iastore, 1) := by decide +kernel
theorem dX2_mixRow_84 : decode cX2_mixRow 84 = .ok (.iinc 6 1, 3) := by decide +kernel
theorem dX2_mixRow_87 : decode cX2_mixRow 87 = .ok (.goto (-35), 3) := by decide +kernel
theorem dX2_mixRow_90 : decode cX2_mixRow 90 = .ok (.return_, 1) := by decide +kernel
theorem dX2_readLevel_0 : decode cX2_readLevel 0 = .ok (.iload_n 3, 1) := by decide +kernel
theorem dX2_readLevel_1 : decode cX2_readLevel 1 = .ok (.i2l, 1) := by decide +kernel
theorem dX2_readLevel_2 : decode cX2_readLevel 2 = .ok (.aload_n 0, 1) := by decide +kernel
theorem dX2_readLevel_3 : decode cX2_readLevel 3 = .ok (.iload_n 1, 1) := by decide +kernel
theorem dX2_readLevel_4 : decode cX2_readLevel 4 = .ok (.iload_n 2, 1) := by decide +kernel
theorem dX2_readLevel_5 : decode cX2_readLevel 5 = .ok (.iconst 0, 1) := by decide +kernel
theorem dX2_readLevel_6 : decode cX2_readLevel 6 = .ok (.invokevirtual 52, 3) := by decide +kernel
theorem dX2_readLevel_9 : decode cX2_readLevel 9 = .ok (.lshl, 1) := by decide +kernel
theorem dX2_readLevel_10 : decode cX2_readLevel 10 = .ok (.lstore 6, 2) := by decide +kernel
theorem dX2_readLevel_12 : decode cX2_readLevel 12 = .ok (.iload 4, 2) := by decide +kernel
theorem dX2_readLevel_14 : decode cX2_readLevel 14 = .ok (.i2l, 1) := by decide +kernel
theorem dX2_readLevel_15 : decode cX2_readLevel 15 = .ok (.aload_n 0, 1) := by decide +kernel
theorem dX2_readLevel_16 : decode cX2_readLevel 16 = .ok (.iload_n 1, 1) := by decide +kernel
theorem dX2_readLevel_17 : decode cX2_readLevel 17 = .ok (.iload_n 2, 1) := by decide +kernel
theorem dX2_readLevel_18 : decode cX2_readLevel 18 = .ok (.iconst 1, 1) := by decide +kernel
theorem dX2_readLevel_19 : decode cX2_readLevel 19 = .ok (.invokevirtual 52, 3) := by decide +kernel
theorem dX2_readLevel_22 : decode cX2_readLevel 22 = .ok (.lshl, 1) := by decide +kernel
theorem dX2_readLevel_23 : decode cX2_readLevel 23 = .ok (.lstore 8, 2) := by decide +kernel
theorem dX2_readLevel_25 : decode cX2_readLevel 25 = .ok (.iload 5, 2) := by decide +kernel
theorem dX2_readLevel_27 : decode cX2_readLevel 27 = .ok (.ifCond .ne 22, 3) := by decide +kernel
theorem dX2_readLevel_30 : decode cX2_readLevel 30 = .ok (.aload_n 0, 1) := by decide +kernel
theorem dX2_readLevel_31 : decode cX2_readLevel 31 = .ok (.iload_n 1, 1) := by decide +kernel
theorem dX2_readLevel_32 : decode cX2_readLevel 32 = .ok (.iload_n 2, 1) := by decide +kernel
theorem dX2_readLevel_33 : decode cX2_readLevel 33 = .ok (.lload 6, 2) := by decide +kernel
theorem dX2_readLevel_35 : decode cX2_readLevel 35 = .ok (.bipush 16, 2) := by decide +kernel
theorem dX2_readLevel_37 : decode cX2_readLevel 37 = .ok (.lshr, 1) := by decide +kernel
theorem dX2_readLevel_38 : decode cX2_readLevel 38 = .ok (.l2i, 1) := by decide +kernel
theorem dX2_readLevel_39 : decode cX2_readLevel 39 = .ok (.lload 8, 2) := by decide +kernel
theorem dX2_readLevel_41 : decode cX2_readLevel 41 = .ok (.bipush 16, 2) := by decide +kernel
theorem dX2_readLevel_43 : decode cX2_readLevel 43 = .ok (.lshr, 1) := by decide +kernel
theorem dX2_readLevel_44 : decode cX2_readLevel 44 = .ok (.l2i, 1) := by decide +kernel
theorem dX2_readLevel_45 : decode cX2_readLevel 45 = .ok (.invokevirtual 91, 3) := by decide +kernel
theorem dX2_readLevel_48 : decode cX2_readLevel 48 = .ok (.return_, 1) := by decide +kernel
theorem dX2_readLevel_49 : decode cX2_readLevel 49 = .ok (.lload 6, 2) := by decide +kernel
theorem dX2_readLevel_51 : decode cX2_readLevel 51 = .ok (.ldc2_w 97, 3) := by decide +kernel
theorem dX2_readLevel_54 : decode cX2_readLevel 54 = .ok (.lsub, 1) := by decide +kernel
theorem dX2_readLevel_55 : decode cX2_readLevel 55 = .ok (.lstore 6, 2) := by decide +kernel
theorem dX2_readLevel_57 : decode cX2_readLevel 57 = .ok (.lload 8, 2) := by decide +kernel
theorem dX2_readLevel_59 : decode cX2_readLevel 59 = .ok (.ldc2_w 97, 3) := by decide +kernel
theorem dX2_readLevel_62 : decode cX2_readLevel 62 = .ok (.lsub, 1) := by decide +kernel
theorem dX2_readLevel_63 : decode cX2_readLevel 63 = .ok (.lstore 8, 2) := by decide +kernel
theorem dX2_readLevel_65 : decode cX2_readLevel 65 = .ok (.lload 6, 2) := by decide +kernel
theorem dX2_readLevel_67 : decode cX2_readLevel 67 = .ok (.bipush 16, 2) := by decide +kernel
theorem dX2_readLevel_69 : decode cX2_readLevel 69 = .ok (.lshr, 1) := by decide +kernel
theorem dX2_readLevel_70 : decode cX2_readLevel 70 = .ok (.l2i, 1) := by decide +kernel
theorem dX2_readLevel_71 : decode cX2_readLevel 71 = .ok (.istore 10, 2) := by decide +kernel
theorem dX2_readLevel_73 : decode cX2_readLevel 73 = .ok (.lload 8, 2) := by decide +kernel
theorem dX2_readLevel_75 : decode cX2_readLevel 75 = .ok (.bipush 16, 2) := by decide +kernel
theorem dX2_readLevel_77 : decode cX2_readLevel 77 = .ok (.lshr, 1) := by decide +kernel
theorem dX2_readLevel_78 : decode cX2_readLevel 78 = .ok (.l2i, 1) := by decide +kernel
theorem dX2_readLevel_79 : decode cX2_readLevel 79 = .ok (.istore 11, 2) := by decide +kernel
theorem dX2_readLevel_81 : decode cX2_readLevel 81 = .ok (.aload_n 0, 1) := by decide +kernel
theorem dX2_readLevel_82 : decode cX2_readLevel 82 = .ok (.iload_n 1, 1) := by decide +kernel
theorem dX2_readLevel_83 : decode cX2_readLevel 83 = .ok (.iload_n 2, 1) := by decide +kernel
theorem dX2_readLevel_84 : decode cX2_readLevel 84 = .ok (.iload 10, 2) := by decide +kernel
theorem dX2_readLevel_86 : decode cX2_readLevel 86 = .ok (.iload 11, 2) := by decide +kernel
theorem dX2_readLevel_88 : decode cX2_readLevel 88 = .ok (.lload 6, 2) := by decide +kernel
theorem dX2_readLevel_90 : decode cX2_readLevel 90 = .ok (.ldc2_w 99, 3) := by decide +kernel
theorem dX2_readLevel_93 : decode cX2_readLevel 93 = .ok (.land, 1) := by decide +kernel
theorem dX2_readLevel_94 : decode cX2_readLevel 94 = .ok (.l2i, 1) := by decide +kernel
theorem dX2_readLevel_95 : decode cX2_readLevel 95 = .ok (.invokevirtual 101, 3) := by decide +kernel
theorem dX2_readLevel_98 : decode cX2_readLevel 98 = .ok (.iconst 0, 1) := by decide +kernel
theorem dX2_readLevel_99 : decode cX2_readLevel 99 = .ok (.istore 12, 2) := by decide +kernel
theorem dX2_readLevel_101 : decode cX2_readLevel 101 = .ok (.iload 12, 2) := by decide +kernel
theorem dX2_readLevel_103 : decode cX2_readLevel 103 = .ok (.iconst 4, 1) := by decide +kernel
theorem dX2_readLevel_104 : decode cX2_readLevel 104 = .ok (.if_icmp .ge 23, 3) := by decide +kernel
theorem dX2_readLevel_107 : decode cX2_readLevel 107 = .ok (.aload_n 0, 1) := by decide +kernel
theorem dX2_readLevel_108 : decode cX2_readLevel 108 = .ok (.getfield 28, 3) := by decide +kernel
theorem dX2_readLevel_111 : decode cX2_readLevel 111 = .ok (.iload 12, 2) := by decide +kernel
theorem dX2_readLevel_113 : decode cX2_readLevel 113 = .ok (.aload_n 0, 1) := by decide +kernel
theorem dX2_readLevel_114 : decode cX2_readLevel 114 = .ok (.getfield 25, 3) := by decide +kernel
theorem dX2_readLevel_117 : decode cX2_readLevel 117 = .ok (.iload 12, 2) := by decide +kernel
theorem dX2_readLevel_119 : decode cX2_readLevel 119 = .ok (.iaload, 1) := by decide +kernel
theorem dX2_readLevel_120 : decode cX2_readLevel 120 = .ok (.iastore, 1) := by decide +kernel
theorem dX2_readLevel_121 : decode cX2_readLevel 121 = .ok (.iinc 12 1, 3) := by decide +kernel
theorem dX2_readLevel_124 : decode cX2_readLevel 124 = .ok (.goto (-23), 3) := by decide +kernel
theorem dX2_readLevel_127 : decode cX2_readLevel 127 = .ok (.aload_n 0, 1) := by decide +kernel
theorem dX2_readLevel_128 : decode cX2_readLevel 128 = .ok (.iload_n 1, 1) := by decide +kernel
theorem dX2_readLevel_129 : decode cX2_readLevel 129 = .ok (.iload_n 2, 1) := by decide +kernel
theorem dX2_readLevel_130 : decode cX2_readLevel 130 = .ok (.iload 10, 2) := by decide +kernel
theorem dX2_readLevel_132 : decode cX2_readLevel 132 = .ok (.iload 11, 2) := by decide +kernel
theorem dX2_readLevel_134 : decode cX2_readLevel 134 = .ok (.iconst 1, 1) := by decide +kernel
theorem dX2_readLevel_135 : decode cX2_readLevel 135 = .ok (.iadd, 1) := by decide +kernel
theorem dX2_readLevel_136 : decode cX2_readLevel 136 = .ok (.lload 6, 2) := by decide +kernel
theorem dX2_readLevel_138 : decode cX2_readLevel 138 = .ok (.ldc2_w 99, 3) := by decide +kernel
theorem dX2_readLevel_141 : decode cX2_readLevel 141 = .ok (.land, 1) := by decide +kernel
theorem dX2_readLevel_142 : decode cX2_readLevel 142 = .ok (.l2i, 1) := by decide +kernel
theorem dX2_readLevel_143 : decode cX2_readLevel 143 = .ok (.invokevirtual 101, 3) := by decide +kernel
theorem dX2_readLevel_146 : decode cX2_readLevel 146 = .ok (.iconst 0, 1) := by decide +kernel
theorem dX2_readLevel_147 : decode cX2_readLevel 147 = .ok (.istore 12, 2) := by decide +kernel
theorem dX2_readLevel_149 : decode cX2_readLevel 149 = .ok (.iload 12, 2) := by decide +kernel
theorem dX2_readLevel_151 : decode cX2_readLevel 151 = .ok (.iconst 4, 1) := by decide +kernel
theorem dX2_readLevel_152 : decode cX2_readLevel 152 = .ok (.if_icmp .ge 40, 3) := by decide +kernel
theorem dX2_readLevel_155 : decode cX2_readLevel 155 = .ok (.aload_n 0, 1) := by decide +kernel
theorem dX2_readLevel_156 : decode cX2_readLevel 156 = .ok (.getfield 22, 3) := by decide +kernel
theorem dX2_readLevel_159 : decode cX2_readLevel 159 = .ok (.iload 12, 2) := by decide +kernel
theorem dX2_readLevel_161 : decode cX2_readLevel 161 = .ok (.aload_n 0, 1) := by decide +kernel
theorem dX2_readLevel_162 : decode cX2_readLevel 162 = .ok (.getfield 28, 3) := by decide +kernel
theorem dX2_readLevel_165 : decode cX2_readLevel 165 = .ok (.iload 12, 2) := by decide +kernel
theorem dX2_readLevel_167 : decode cX2_readLevel 167 = .ok (.iaload, 1) := by decide +kernel
theorem dX2_readLevel_168 : decode cX2_readLevel 168 = .ok (.aload_n 0, 1) := by decide +kernel
theorem dX2_readLevel_169 : decode cX2_readLevel 169 = .ok (.getfield 25, 3) := by decide +kernel
theorem dX2_readLevel_172 : decode cX2_readLevel 172 = .ok (.iload 12, 2) := by decide +kernel
theorem dX2_readLevel_174 : decode cX2_readLevel 174 = .ok (.iaload, 1) := by decide +kernel
theorem dX2_readLevel_175 : decode cX2_readLevel 175 = .ok (.lload 8, 2) := by decide +kernel
theorem dX2_readLevel_177 : decode cX2_readLevel 177 = .ok (.ldc2_w 99, 3) := by decide +kernel
theorem dX2_readLevel_180 : decode cX2_readLevel 180 = .ok (.land, 1) := by decide +kernel
theorem dX2_readLevel_181 : decode cX2_readLevel 181 = .ok (.l2i, 1) := by decide +kernel
theorem dX2_readLevel_182 : decode cX2_readLevel 182 = .ok (.invokestatic 94, 3) := by decide +kernel
theorem dX2_readLevel_185 : decode cX2_readLevel 185 = .ok (.iastore, 1) := by decide +kernel
theorem dX2_readLevel_186 : decode cX2_readLevel 186 = .ok (.iinc 12 1, 3) := by decide +kernel
theorem dX2_readLevel_189 : decode cX2_readLevel 189 = .ok (.goto (-40), 3) := by decide +kernel
theorem dX2_readLevel_192 : decode cX2_readLevel 192 = .ok (.return_, 1) := by decide +kernel
theorem dX2_texel_0 : decode cX2_texel 0 = .ok (.iload_n 1, 1) := by decide +kernel
theorem dX2_texel_1 : decode cX2_texel 1 = .ok (.iconst 0, 1) := by decide +kernel
theorem dX2_texel_2 : decode cX2_texel 2 = .ok (.iconst 3, 1) := by decide +kernel
theorem dX2_texel_3 : decode cX2_texel 3 = .ok (.invokestatic 44, 3) := by decide +kernel
theorem dX2_texel_6 : decode cX2_texel 6 = .ok (.istore 6, 2) := by decide +kernel
theorem dX2_texel_8 : decode cX2_texel 8 = .ok (.iload 6, 2) := by decide +kernel
theorem dX2_texel_10 : decode cX2_texel 10 = .ok (.ifCond .eq 7, 3) := by decide +kernel
theorem dX2_texel_13 : decode cX2_texel 13 = .ok (.iload_n 1, 1) := by decide +kernel
theorem dX2_texel_14 : decode cX2_texel 14 = .ok (.goto 4, 3) := by decide +kernel
theorem dX2_texel_17 : decode cX2_texel 17 = .ok (.iconst 0, 1) := by decide +kernel
theorem dX2_texel_18 : decode cX2_texel 18 = .ok (.istore 7, 2) := by decide +kernel
theorem dX2_texel_20 : decode cX2_texel 20 = .ok (.iload_n 2, 1) := by decide +kernel
theorem dX2_texel_21 : decode cX2_texel 21 = .ok (.iconst 0, 1) := by decide +kernel
theorem dX2_texel_22 : decode cX2_texel 22 = .ok (.aload_n 0, 1) := by decide +kernel
theorem dX2_texel_23 : decode cX2_texel 23 = .ok (.getfield 13, 3) := by decide +kernel
theorem dX2_texel_26 : decode cX2_texel 26 = .ok (.bipush 8, 2) := by decide +kernel
theorem dX2_texel_28 : decode cX2_texel 28 = .ok (.iload 7, 2) := by decide +kernel
theorem dX2_texel_30 : decode cX2_texel 30 = .ok (.imul, 1) := by decide +kernel
theorem dX2_texel_31 : decode cX2_texel 31 = .ok (.iconst 3, 1) := by decide +kernel
theorem dX2_texel_32 : decode cX2_texel 32 = .ok (.iadd, 1) := by decide +kernel
theorem dX2_texel_33 : decode cX2_texel 33 = .ok (.iaload, 1) := by decide +kernel
theorem dX2_texel_34 : decode cX2_texel 34 = .ok (.iconst 1, 1) := by decide +kernel
theorem dX2_texel_35 : decode cX2_texel 35 = .ok (.isub, 1) := by decide +kernel
theorem dX2_texel_36 : decode cX2_texel 36 = .ok (.invokestatic 44, 3) := by decide +kernel
theorem dX2_texel_39 : decode cX2_texel 39 = .ok (.ifCond .eq 26, 3) := by decide +kernel
theorem dX2_texel_42 : decode cX2_texel 42 = .ok (.iload_n 3, 1) := by decide +kernel
theorem dX2_texel_43 : decode cX2_texel 43 = .ok (.ifCond .lt 22, 3) := by decide +kernel
theorem dX2_texel_46 : decode cX2_texel 46 = .ok (.iload 4, 2) := by decide +kernel
theorem dX2_texel_48 : decode cX2_texel 48 = .ok (.ifCond .lt 17, 3) := by decide +kernel
theorem dX2_texel_51 : decode cX2_texel 51 = .ok (.iload 5, 2) := by decide +kernel
theorem dX2_texel_53 : decode cX2_texel 53 = .ok (.iconst 0, 1) := by decide +kernel
theorem dX2_texel_54 : decode cX2_texel 54 = .ok (.iconst 3, 1) := by decide +kernel
theorem dX2_texel_55 : decode cX2_texel 55 = .ok (.invokestatic 44, 3) := by decide +kernel
theorem dX2_texel_58 : decode cX2_texel 58 = .ok (.ifCond .eq 7, 3) := by decide +kernel
theorem dX2_texel_61 : decode cX2_texel 61 = .ok (.iconst 1, 1) := by decide +kernel
theorem dX2_texel_62 : decode cX2_texel 62 = .ok (.goto 4, 3) := by decide +kernel
theorem dX2_texel_65 : decode cX2_texel 65 = .ok (.iconst 0, 1) := by decide +kernel
theorem dX2_texel_66 : decode cX2_texel 66 = .ok (.istore 8, 2) := by decide +kernel
theorem dX2_texel_68 : decode cX2_texel 68 = .ok (.iload 8, 2) := by decide +kernel
theorem dX2_texel_70 : decode cX2_texel 70 = .ok (.ifCond .eq 30, 3) := by decide +kernel
theorem dX2_texel_73 : decode cX2_texel 73 = .ok (.iload_n 3, 1) := by decide +kernel
theorem dX2_texel_74 : decode cX2_texel 74 = .ok (.aload_n 0, 1) := by decide +kernel
theorem dX2_texel_75 : decode cX2_texel 75 = .ok (.iload 7, 2) := by decide +kernel
theorem dX2_texel_77 : decode cX2_texel 77 = .ok (.iload_n 2, 1) := by decide +kernel
theorem dX2_texel_78 : decode cX2_texel 78 = .ok (.invokevirtual 56, 3) := by decide +kernel
theorem dX2_texel_81 : decode cX2_texel 81 = .ok (.if_icmp .ge 19, 3) := by decide +kernel
theorem dX2_texel_84 : decode cX2_texel 84 = .ok (.iload 4, 2) := by decide +kernel
theorem dX2_texel_86 : decode cX2_texel 86 = .ok (.aload_n 0, 1) := by decide +kernel
theorem dX2_texel_87 : decode cX2_texel 87 = .ok (.iload 7, 2) := by decide +kernel
theorem dX2_texel_89 : decode cX2_texel 89 = .ok (.iload_n 2, 1) := by decide +kernel
theorem dX2_texel_90 : decode cX2_texel 90 = .ok (.invokevirtual 60, 3) := by decide +kernel
theorem dX2_texel_93 : decode cX2_texel 93 = .ok (.if_icmp .ge 7, 3) := by decide +kernel
theorem dX2_texel_96 : decode cX2_texel 96 = .ok (.iconst 1, 1) := by decide +kernel
theorem dX2_texel_97 : decode cX2_texel 97 = .ok (.goto 4, 3) := by decide +kernel
theorem dX2_texel_100 : decode cX2_texel 100 = .ok (.iconst 0, 1) := by decide +kernel
theorem dX2_texel_101 : decode cX2_texel 101 = .ok (.istore 8, 2) := by decide +kernel
theorem dX2_texel_103 : decode cX2_texel 103 = .ok (.aload_n 0, 1) := by decide +kernel
theorem dX2_texel_104 : decode cX2_texel 104 = .ok (.iload 6, 2) := by decide +kernel
theorem dX2_texel_106 : decode cX2_texel 106 = .ok (.ifCond .ne 7, 3) := by decide +kernel
theorem dX2_texel_109 : decode cX2_texel 109 = .ok (.iconst 1, 1) := by decide +kernel
theorem dX2_texel_110 : decode cX2_texel 110 = .ok (.goto 4, 3) := by decide +kernel
theorem dX2_texel_113 : decode cX2_texel 113 = .ok (.iconst 0, 1) := by decide +kernel
theorem dX2_texel_114 : decode cX2_texel 114 = .ok (.iload 8, 2) := by decide +kernel
theorem dX2_texel_116 : decode cX2_texel 116 = .ok (.ifCond .ne 7, 3) := by decide +kernel
theorem dX2_texel_119 : decode cX2_texel 119 = .ok (.iconst 1, 1) := by decide +kernel
theorem dX2_texel_120 : decode cX2_texel 120 = .ok (.goto 4, 3) := by decide +kernel
theorem dX2_texel_123 : decode cX2_texel 123 = .ok (.iconst 0, 1) := by decide +kernel
theorem dX2_texel_124 : decode cX2_texel 124 = .ok (.invokevirtual 48, 3) := by decide +kernel
theorem dX2_texel_127 : decode cX2_texel 127 = .ok (.ifCond .eq 5, 3) := by decide +kernel
theorem dX2_texel_130 : decode cX2_texel 130 = .ok (.iconst 0, 1) := by decide +kernel
theorem dX2_texel_131 : decode cX2_texel 131 = .ok (.ireturn, 1) := by decide +kernel
theorem dX2_texel_132 : decode cX2_texel 132 = .ok (.aload_n 0, 1) := by decide +kernel
theorem dX2_texel_133 : decode cX2_texel 133 = .ok (.iload_n 1, 1) := by decide +kernel
theorem dX2_texel_134 : decode cX2_texel 134 = .ok (.iload_n 2, 1) := by decide +kernel
theorem dX2_texel_135 : decode cX2_texel 135 = .ok (.iload_n 3, 1) := by decide +kernel
theorem dX2_texel_136 : decode cX2_texel 136 = .ok (.iload 4, 2) := by decide +kernel
theorem dX2_texel_138 : decode cX2_texel 138 = .ok (.invokevirtual 87, 3) := by decide +kernel
theorem dX2_texel_141 : decode cX2_texel 141 = .ok (.aload_n 0, 1) := by decide +kernel
theorem dX2_texel_142 : decode cX2_texel 142 = .ok (.getfield 22, 3) := by decide +kernel
theorem dX2_texel_145 : decode cX2_texel 145 = .ok (.iload 5, 2) := by decide +kernel
theorem dX2_texel_147 : decode cX2_texel 147 = .ok (.iaload, 1) := by decide +kernel
theorem dX2_texel_148 : decode cX2_texel 148 = .ok (.ireturn, 1) := by decide +kernel
theorem dX2_texels_0 : decode cX2_texels 0 = .ok (.aload_n 0, 1) := by decide +kernel
theorem dX2_texels_1 : decode cX2_texels 1 = .ok (.iload_n 1, 1) := by decide +kernel
theorem dX2_texels_2 : decode cX2_texels 2 = .ok (.iconst 0, 1) := by decide +kernel
theorem dX2_texels_3 : decode cX2_texels 3 = .ok (.iconst 3, 1) := by decide +kernel
theorem dX2_texels_4 : decode cX2_texels 4 = .ok (.invokestatic 44, 3) := by decide +kernel
theorem dX2_texels_7 : decode cX2_texels 7 = .ok (.ifCond .ne 7, 3) := by decide +kernel
theorem dX2_texels_10 : decode cX2_texels 10 = .ok (.iconst 1, 1) := by decide +kernel
theorem dX2_texels_11 : decode cX2_texels 11 = .ok (.goto 4, 3) := by decide +kernel
theorem dX2_texels_14 : decode cX2_texels 14 = .ok (.iconst 0, 1) := by decide +kernel
theorem dX2_texels_15 : decode cX2_texels 15 = .ok (.iconst 0, 1) := by decide +kernel
theorem dX2_texels_16 : decode cX2_texels 16 = .ok (.invokevirtual 48, 3) := by decide +kernel
theorem dX2_texels_19 : decode cX2_texels 19 = .ok (.ifCond .eq 5, 3) := by decide +kernel
theorem dX2_texels_22 : decode cX2_texels 22 = .ok (.iconst 0, 1) := by decide +kernel
theorem dX2_texels_23 : decode cX2_texels 23 = .ok (.ireturn, 1) := by decide +kernel
theorem dX2_texels_24 : decode cX2_texels 24 = .ok (.aload_n 0, 1) := by decide +kernel
theorem dX2_texels_25 : decode cX2_texels 25 = .ok (.iload_n 1, 1) := by decide +kernel
theorem dX2_texels_26 : decode cX2_texels 26 = .ok (.aload_n 0, 1) := by decide +kernel
theorem dX2_texels_27 : decode cX2_texels 27 = .ok (.getfield 13, 3) := by decide +kernel
theorem dX2_texels_30 : decode cX2_texels 30 = .ok (.bipush 8, 2) := by decide +kernel
theorem dX2_texels_32 : decode cX2_texels 32 = .ok (.iload_n 1, 1) := by decide +kernel
theorem dX2_texels_33 : decode cX2_texels 33 = .ok (.imul, 1) := by decide +kernel
theorem dX2_texels_34 : decode cX2_texels 34 = .ok (.iconst 3, 1) := by decide +kernel
theorem dX2_texels_35 : decode cX2_texels 35 = .ok (.iadd, 1) := by decide +kernel
theorem dX2_texels_36 : decode cX2_texels 36 = .ok (.iaload, 1) := by decide +kernel
theorem dX2_texels_37 : decode cX2_texels 37 = .ok (.invokevirtual 75, 3) := by decide +kernel
theorem dX2_texels_40 : decode cX2_texels 40 = .ok (.ireturn, 1) := by decide +kernel
theorem dX2_read_0 : decode cX2_read 0 = .ok (.aload_n 0, 1) := by decide +kernel
theorem dX2_read_1 : decode cX2_read 1 = .ok (.iload_n 1, 1) := by decide +kernel
theorem dX2_read_2 : decode cX2_read 2 = .ok (.iconst 0, 1) := by decide +kernel
theorem dX2_read_3 : decode cX2_read 3 = .ok (.iconst 3, 1) := by decide +kernel
theorem dX2_read_4 : decode cX2_read 4 = .ok (.invokestatic 44, 3) := by decide +kernel
theorem dX2_read_7 : decode cX2_read 7 = .ok (.ifCond .ne 7, 3) := by decide +kernel
theorem dX2_read_10 : decode cX2_read 10 = .ok (.iconst 1, 1) := by decide +kernel
theorem dX2_read_11 : decode cX2_read 11 = .ok (.goto 4, 3) := by decide +kernel
theorem dX2_read_14 : decode cX2_read 14 = .ok (.iconst 0, 1) := by decide +kernel
theorem dX2_read_15 : decode cX2_read 15 = .ok (.iconst 0, 1) := by decide +kernel
theorem dX2_read_16 : decode cX2_read 16 = .ok (.invokevirtual 48, 3) := by decide +kernel
theorem dX2_read_19 : decode cX2_read 19 = .ok (.ifCond .eq 5, 3) := by decide +kernel
theorem dX2_read_22 : decode cX2_read 22 = .ok (.iconst 0, 1) := by decide +kernel
theorem dX2_read_23 : decode cX2_read 23 = .ok (.ireturn, 1) := by decide +kernel
theorem dX2_read_24 : decode cX2_read 24 = .ok (.ldc 82, 2) := by decide +kernel
theorem dX2_read_26 : decode cX2_read 26 = .ok (.aload_n 0, 1) := by decide +kernel
theorem dX2_read_27 : decode cX2_read 27 = .ok (.getfield 13, 3) := by decide +kernel
theorem dX2_read_30 : decode cX2_read 30 = .ok (.bipush 8, 2) := by decide +kernel
theorem dX2_read_32 : decode cX2_read 32 = .ok (.iload_n 1, 1) := by decide +kernel
theorem dX2_read_33 : decode cX2_read 33 = .ok (.imul, 1) := by decide +kernel
theorem dX2_read_34 : decode cX2_read 34 = .ok (.iconst 3, 1) := by decide +kernel
theorem dX2_read_35 : decode cX2_read 35 = .ok (.iadd, 1) := by decide +kernel
theorem dX2_read_36 : decode cX2_read 36 = .ok (.iaload, 1) := by decide +kernel
theorem dX2_read_37 : decode cX2_read 37 = .ok (.iconst 1, 1) := by decide +kernel
theorem dX2_read_38 : decode cX2_read 38 = .ok (.isub, 1) := by decide +kernel
theorem dX2_read_39 : decode cX2_read 39 = .ok (.imul, 1) := by decide +kernel
theorem dX2_read_40 : decode cX2_read 40 = .ok (.istore 5, 2) := by decide +kernel
theorem dX2_read_42 : decode cX2_read 42 = .ok (.iload 4, 2) := by decide +kernel
theorem dX2_read_44 : decode cX2_read 44 = .ok (.ifCond .ge 7, 3) := by decide +kernel
theorem dX2_read_47 : decode cX2_read 47 = .ok (.iconst 0, 1) := by decide +kernel
theorem dX2_read_48 : decode cX2_read 48 = .ok (.goto 17, 3) := by decide +kernel
theorem dX2_read_51 : decode cX2_read 51 = .ok (.iload 4, 2) := by decide +kernel
theorem dX2_read_53 : decode cX2_read 53 = .ok (.iload 5, 2) := by decide +kernel
theorem dX2_read_55 : decode cX2_read 55 = .ok (.if_icmp .le 8, 3) := by decide +kernel
theorem dX2_read_58 : decode cX2_read 58 = .ok (.iload 5, 2) := by decide +kernel
theorem dX2_read_60 : decode cX2_read 60 = .ok (.goto 5, 3) := by decide +kernel
theorem dX2_read_63 : decode cX2_read 63 = .ok (.iload 4, 2) := by decide +kernel
theorem dX2_read_65 : decode cX2_read 65 = .ok (.istore 6, 2) := by decide +kernel
theorem dX2_read_67 : decode cX2_read 67 = .ok (.aload_n 0, 1) := by decide +kernel
theorem dX2_read_68 : decode cX2_read 68 = .ok (.getfield 13, 3) := by decide +kernel
theorem dX2_read_71 : decode cX2_read 71 = .ok (.bipush 8, 2) := by decide +kernel
theorem dX2_read_73 : decode cX2_read 73 = .ok (.iload_n 1, 1) := by decide +kernel
theorem dX2_read_74 : decode cX2_read 74 = .ok (.imul, 1) := by decide +kernel
theorem dX2_read_75 : decode cX2_read 75 = .ok (.bipush 7, 2) := by decide +kernel
theorem dX2_read_77 : decode cX2_read 77 = .ok (.iadd, 1) := by decide +kernel
theorem dX2_read_78 : decode cX2_read 78 = .ok (.iaload, 1) := by decide +kernel
theorem dX2_read_79 : decode cX2_read 79 = .ok (.istore 7, 2) := by decide +kernel
theorem dX2_read_81 : decode cX2_read 81 = .ok (.iload 7, 2) := by decide +kernel
theorem dX2_read_83 : decode cX2_read 83 = .ok (.iconst 2, 1) := by decide +kernel
theorem dX2_read_84 : decode cX2_read 84 = .ok (.irem, 1) := by decide +kernel
theorem dX2_read_85 : decode cX2_read 85 = .ok (.iconst 1, 1) := by decide +kernel
theorem dX2_read_86 : decode cX2_read 86 = .ok (.if_icmp .ne 7, 3) := by decide +kernel
theorem dX2_read_89 : decode cX2_read 89 = .ok (.iconst 1, 1) := by decide +kernel
theorem dX2_read_90 : decode cX2_read 90 = .ok (.goto 4, 3) := by decide +kernel
theorem dX2_read_93 : decode cX2_read 93 = .ok (.iconst 0, 1) := by decide +kernel
theorem dX2_read_94 : decode cX2_read 94 = .ok (.istore 8, 2) := by decide +kernel
theorem dX2_read_96 : decode cX2_read 96 = .ok (.iload 6, 2) := by decide +kernel
theorem dX2_read_98 : decode cX2_read 98 = .ok (.bipush 16, 2) := by decide +kernel
theorem dX2_read_100 : decode cX2_read 100 = .ok (.ishr, 1) := by decide +kernel
theorem dX2_read_101 : decode cX2_read 101 = .ok (.istore 9, 2) := by decide +kernel
theorem dX2_read_103 : decode cX2_read 103 = .ok (.aload_n 0, 1) := by decide +kernel
theorem dX2_read_104 : decode cX2_read 104 = .ok (.iload_n 1, 1) := by decide +kernel
theorem dX2_read_105 : decode cX2_read 105 = .ok (.iload 9, 2) := by decide +kernel
theorem dX2_read_107 : decode cX2_read 107 = .ok (.iload_n 2, 1) := by decide +kernel
theorem dX2_read_108 : decode cX2_read 108 = .ok (.iload_n 3, 1) := by decide +kernel
theorem dX2_read_109 : decode cX2_read 109 = .ok (.iload 8, 2) := by decide +kernel
theorem dX2_read_111 : decode cX2_read 111 = .ok (.invokevirtual 105, 3) := by decide +kernel
theorem dX2_read_114 : decode cX2_read 114 = .ok (.iload 7, 2) := by decide +kernel
theorem dX2_read_116 : decode cX2_read 116 = .ok (.iconst 1, 1) := by decide +kernel
theorem dX2_read_117 : decode cX2_read 117 = .ok (.if_icmp .le 107, 3) := by decide +kernel
theorem dX2_read_120 : decode cX2_read 120 = .ok (.iload 9, 2) := by decide +kernel
theorem dX2_read_122 : decode cX2_read 122 = .ok (.iconst 1, 1) := by decide +kernel
theorem dX2_read_123 : decode cX2_read 123 = .ok (.iadd, 1) := by decide +kernel
theorem dX2_read_124 : decode cX2_read 124 = .ok (.aload_n 0, 1) := by decide +kernel
theorem dX2_read_125 : decode cX2_read 125 = .ok (.getfield 13, 3) := by decide +kernel
theorem dX2_read_128 : decode cX2_read 128 = .ok (.bipush 8, 2) := by decide +kernel
theorem dX2_read_130 : decode cX2_read 130 = .ok (.iload_n 1, 1) := by decide +kernel
theorem dX2_read_131 : decode cX2_read 131 = .ok (.imul, 1) := by decide +kernel
theorem dX2_read_132 : decode cX2_read 132 = .ok (.iconst 3, 1) := by decide +kernel
theorem dX2_read_133 : decode cX2_read 133 = .ok (.iadd, 1) := by decide +kernel
theorem dX2_read_134 : decode cX2_read 134 = .ok (.iaload, 1) := by decide +kernel
theorem dX2_read_135 : decode cX2_read 135 = .ok (.if_icmp .ge 89, 3) := by decide +kernel
theorem dX2_read_138 : decode cX2_read 138 = .ok (.iconst 0, 1) := by decide +kernel
theorem dX2_read_139 : decode cX2_read 139 = .ok (.istore 10, 2) := by decide +kernel
theorem dX2_read_141 : decode cX2_read 141 = .ok (.iload 10, 2) := by decide +kernel
theorem dX2_read_143 : decode cX2_read 143 = .ok (.iconst 4, 1) := by decide +kernel
theorem dX2_read_144 : decode cX2_read 144 = .ok (.if_icmp .ge 23, 3) := by decide +kernel
theorem dX2_read_147 : decode cX2_read 147 = .ok (.aload_n 0, 1) := by decide +kernel
theorem dX2_read_148 : decode cX2_read 148 = .ok (.getfield 31, 3) := by decide +kernel
theorem dX2_read_151 : decode cX2_read 151 = .ok (.iload 10, 2) := by decide +kernel
theorem dX2_read_153 : decode cX2_read 153 = .ok (.aload_n 0, 1) := by decide +kernel
theorem dX2_read_154 : decode cX2_read 154 = .ok (.getfield 22, 3) := by decide +kernel
theorem dX2_read_157 : decode cX2_read 157 = .ok (.iload 10, 2) := by decide +kernel
theorem dX2_read_159 : decode cX2_read 159 = .ok (.iaload, 1) := by decide +kernel
theorem dX2_read_160 : decode cX2_read 160 = .ok (.iastore, 1) := by decide +kernel
theorem dX2_read_161 : decode cX2_read 161 = .ok (.iinc 10 1, 3) := by decide +kernel
theorem dX2_read_164 : decode cX2_read 164 = .ok (.goto (-23), 3) := by decide +kernel
theorem dX2_read_167 : decode cX2_read 167 = .ok (.aload_n 0, 1) := by decide +kernel
theorem dX2_read_168 : decode cX2_read 168 = .ok (.iload_n 1, 1) := by decide +kernel
theorem dX2_read_169 : decode cX2_read 169 = .ok (.iload 9, 2) := by decide +kernel
theorem dX2_read_171 : decode cX2_read 171 = .ok (.iconst 1, 1) := by decide +kernel
theorem dX2_read_172 : decode cX2_read 172 = .ok (.iadd, 1) := by decide +kernel
theorem dX2_read_173 : decode cX2_read 173 = .ok (.iload_n 2, 1) := by decide +kernel
theorem dX2_read_174 : decode cX2_read 174 = .ok (.iload_n 3, 1) := by decide +kernel
theorem dX2_read_175 : decode cX2_read 175 = .ok (.iload 8, 2) := by decide +kernel
theorem dX2_read_177 : decode cX2_read 177 = .ok (.invokevirtual 105, 3) := by decide +kernel
theorem dX2_read_180 : decode cX2_read 180 = .ok (.iconst 0, 1) := by decide +kernel
theorem dX2_read_181 : decode cX2_read 181 = .ok (.istore 10, 2) := by decide +kernel
theorem dX2_read_183 : decode cX2_read 183 = .ok (.iload 10, 2) := by decide +kernel
theorem dX2_read_185 : decode cX2_read 185 = .ok (.iconst 4, 1) := by decide +kernel
theorem dX2_read_186 : decode cX2_read 186 = .ok (.if_icmp .ge 38, 3) := by decide +kernel
theorem dX2_read_189 : decode cX2_read 189 = .ok (.aload_n 0, 1) := by decide +kernel
theorem dX2_read_190 : decode cX2_read 190 = .ok (.getfield 22, 3) := by decide +kernel
theorem dX2_read_193 : decode cX2_read 193 = .ok (.iload 10, 2) := by decide +kernel
theorem dX2_read_195 : decode cX2_read 195 = .ok (.aload_n 0, 1) := by decide +kernel
theorem dX2_read_196 : decode cX2_read 196 = .ok (.getfield 31, 3) := by decide +kernel
theorem dX2_read_199 : decode cX2_read 199 = .ok (.iload 10, 2) := by decide +kernel
theorem dX2_read_201 : decode cX2_read 201 = .ok (.iaload, 1) := by decide +kernel
theorem dX2_read_202 : decode cX2_read 202 = .ok (.aload_n 0, 1) := by decide +kernel
theorem dX2_read_203 : decode cX2_read 203 = .ok (.getfield 22, 3) := by decide +kernel
theorem dX2_read_206 : decode cX2_read 206 = .ok (.iload 10, 2) := by decide +kernel
theorem dX2_read_208 : decode cX2_read 208 = .ok (.iaload, 1) := by decide +kernel
theorem dX2_read_209 : decode cX2_read 209 = .ok (.iload 6, 2) := by decide +kernel
theorem dX2_read_211 : decode cX2_read 211 = .ok (.ldc 109, 2) := by decide +kernel
theorem dX2_read_213 : decode cX2_read 213 = .ok (.iand, 1) := by decide +kernel
theorem dX2_read_214 : decode cX2_read 214 = .ok (.invokestatic 94, 3) := by decide +kernel
theorem dX2_read_217 : decode cX2_read 217 = .ok (.iastore, 1) := by decide +kernel
theorem dX2_read_218 : decode cX2_read 218 = .ok (.iinc 10 1, 3) := by decide +kernel
theorem dX2_read_221 : decode cX2_read 221 = .ok (.goto (-38), 3) := by decide +kernel
theorem dX2_read_224 : decode cX2_read 224 = .ok (.iconst 0, 1) := by decide +kernel
theorem dX2_read_225 : decode cX2_read 225 = .ok (.istore 10, 2) := by decide +kernel
theorem dX2_read_227 : decode cX2_read 227 = .ok (.iload 10, 2) := by decide +kernel
theorem dX2_read_229 : decode cX2_read 229 = .ok (.iconst 4, 1) := by decide +kernel
theorem dX2_read_230 : decode cX2_read 230 = .ok (.if_icmp .ge 23, 3) := by decide +kernel
theorem dX2_read_233 : decode cX2_read 233 = .ok (.aload_n 0, 1) := by decide +kernel
theorem dX2_read_234 : decode cX2_read 234 = .ok (.getfield 19, 3) := by decide +kernel
theorem dX2_read_237 : decode cX2_read 237 = .ok (.iload 10, 2) := by decide +kernel
theorem dX2_read_239 : decode cX2_read 239 = .ok (.aload_n 0, 1) := by decide +kernel
theorem dX2_read_240 : decode cX2_read 240 = .ok (.getfield 22, 3) := by decide +kernel
theorem dX2_read_243 : decode cX2_read 243 = .ok (.iload 10, 2) := by decide +kernel
theorem dX2_read_245 : decode cX2_read 245 = .ok (.iaload, 1) := by decide +kernel
theorem dX2_read_246 : decode cX2_read 246 = .ok (.iastore, 1) := by decide +kernel
theorem dX2_read_247 : decode cX2_read 247 = .ok (.iinc 10 1, 3) := by decide +kernel
theorem dX2_read_250 : decode cX2_read 250 = .ok (.goto (-23), 3) := by decide +kernel
theorem dX2_read_253 : decode cX2_read 253 = .ok (.aload_n 0, 1) := by decide +kernel
theorem dX2_read_254 : decode cX2_read 254 = .ok (.getfield 19, 3) := by decide +kernel
theorem dX2_read_257 : decode cX2_read 257 = .ok (.iconst 0, 1) := by decide +kernel
theorem dX2_read_258 : decode cX2_read 258 = .ok (.iaload, 1) := by decide +kernel
theorem dX2_read_259 : decode cX2_read 259 = .ok (.ireturn, 1) := by decide +kernel
theorem dX2_also_0 : decode cX2_also 0 = .ok (.aload_n 0, 1) := by decide +kernel
theorem dX2_also_1 : decode cX2_also 1 = .ok (.iload_n 1, 1) := by decide +kernel
theorem dX2_also_2 : decode cX2_also 2 = .ok (.iconst 0, 1) := by decide +kernel
theorem dX2_also_3 : decode cX2_also 3 = .ok (.iconst 3, 1) := by decide +kernel
theorem dX2_also_4 : decode cX2_also 4 = .ok (.invokestatic 44, 3) := by decide +kernel
theorem dX2_also_7 : decode cX2_also 7 = .ok (.ifCond .ne 7, 3) := by decide +kernel
theorem dX2_also_10 : decode cX2_also 10 = .ok (.iconst 1, 1) := by decide +kernel
theorem dX2_also_11 : decode cX2_also 11 = .ok (.goto 4, 3) := by decide +kernel
theorem dX2_also_14 : decode cX2_also 14 = .ok (.iconst 0, 1) := by decide +kernel
theorem dX2_also_15 : decode cX2_also 15 = .ok (.iconst 0, 1) := by decide +kernel
theorem dX2_also_16 : decode cX2_also 16 = .ok (.invokevirtual 48, 3) := by decide +kernel
theorem dX2_also_19 : decode cX2_also 19 = .ok (.ifCond .eq 5, 3) := by decide +kernel
theorem dX2_also_22 : decode cX2_also 22 = .ok (.iconst 0, 1) := by decide +kernel
theorem dX2_also_23 : decode cX2_also 23 = .ok (.ireturn, 1) := by decide +kernel
theorem dX2_also_24 : decode cX2_also 24 = .ok (.aload_n 0, 1) := by decide +kernel
theorem dX2_also_25 : decode cX2_also 25 = .ok (.getfield 19, 3) := by decide +kernel
theorem dX2_also_28 : decode cX2_also 28 = .ok (.iload_n 1, 1) := by decide +kernel
theorem dX2_also_29 : decode cX2_also 29 = .ok (.iaload, 1) := by decide +kernel
theorem dX2_also_30 : decode cX2_also 30 = .ok (.ireturn, 1) := by decide +kernel
end
section
theorem tu_in {i : Int32} {n : Nat} (h : (decide (i < 0) || decide (n ≤ i.toNatClampNeg)) = false) : vp_in i n := by
  intro q
  rcases q with q | q
  · simp [q] at h
  · simp [q] at h
theorem tu_ne {x k : Int32} (h : ¬ x = k) : x.toInt ≠ k.toInt := fun e => h (Int32.toInt_inj.mp e)
/-- a reader's start: its cells, its types -/
def rd_B (D : va_G) (cl : List vw_C) (ws : va_W) (tys : List (ClassId × FieldType)) : State → Prop := fun U => va_P D cl ws U.heap ∧ va_K D cl tys U
theorem rd_blind {av : List Value} {D : va_G} {cl : List vw_C} {ws : va_W} {tys : List (ClassId × FieldType)} : FrameBlind (va_Pc av (rd_B D cl ws tys)) := fun a U g mk q => ⟨q.1, q.2.1, va_K.moved (u := U) (U := U.calling g mk a) (Vm.Alike.refl U.vm) q.2.2⟩
theorem rd_use {s : State} {H : Heap} {D : va_G} {cl : List vw_C} {ws : va_W} {tys : List (ClassId × FieldType)} (hP : va_P D cl ws H) (hK : va_K D cl tys s) : ∀ U : State, U.heap = H → s.WarmedH U.vm → rd_B D cl ws tys U := fun U hU hW => ⟨by rw [hU]; exact hP, va_K.moved hW.alike hK⟩
theorem rd_q {v r : Int32} {a : Array Value} {s t : State} (h : v = r) (ht : t.heap = s.heap) : QcRead r a s (.returned (some (.int v))) t := ⟨by rw [h], ht⟩
/-- the static tables of the class, where they lie -/
def tb_T (t : Nat × Nat × Nat) (A : Nat → Prop) (U : State) (H : Heap) : Prop :=
  (va_Z "TextureUnits" "TEXEL_BITS" "[I" (.ref t.1) A U H ∧ va_T .int t.1 8 (fun k => .int (([32, 16, 16, 16, 8, 8, 16, 4] : List Int32).getD k 0)) A U H) ∧
  (va_Z "TextureUnits" "CHANNEL_BITS" "[I" (.ref t.2.1) A U H ∧ va_T .int t.2.1 32 (fun k => .int (([8, 8, 8, 8, 5, 6, 5, 0, 4, 4, 4, 4, 5, 5, 5, 1, 8, 8, 8, 0, 0, 0, 0, 8, 8, 8, 8, 8, 4, 4, 4, 0] : List Int32).getD k 0)) A U H) ∧
  (va_Z "TextureUnits" "CHANNEL_START" "[I" (.ref t.2.2) A U H ∧ va_T .int t.2.2 32 (fun k => .int (([0, 8, 16, 24, 0, 5, 11, 0, 0, 4, 8, 12, 0, 5, 10, 15, 0, 0, 0, 0, 0, 0, 0, 0, 0, 0, 0, 8, 0, 0, 0, 0] : List Int32).getD k 0)) A U H)
theorem tb_T.moved {t : Nat × Nat × Nat} {A : Nat → Prop} {u U : State} {H : Heap} (hvm : u.vm.Alike U.vm) (h : tb_T t A u H) : tb_T t A U H :=
  ⟨⟨va_Z.moved hvm h.1.1, va_T.moved hvm h.1.2⟩, ⟨va_Z.moved hvm h.2.1.1, va_T.moved hvm h.2.1.2⟩, ⟨va_Z.moved hvm h.2.2.1, va_T.moved hvm h.2.2.2⟩⟩
theorem tb_T.kept {t : Nat × Nat × Nat} {A : Nat → Prop} {U : State} {H H1 : Heap} (h : tb_T t A U H) (hq : ∀ a : Nat, a < H.size → ¬ A a → H1[a]? = H[a]?) : tb_T t A U H1 :=
  ⟨⟨va_Z.kept h.1.1 hq, va_T.kept h.1.2 hq⟩, ⟨va_Z.kept h.2.1.1 hq, va_T.kept h.2.1.2 hq⟩, ⟨va_Z.kept h.2.2.1 hq, va_T.kept h.2.2.2 hq⟩⟩
theorem tb_T.narrow {t : Nat × Nat × Nat} {A B : Nat → Prop} {U : State} {H : Heap} (h : tb_T t A U H) (hAB : ∀ q, B q → A q) : tb_T t B U H :=
  ⟨⟨va_Z.narrow h.1.1 hAB, va_T.narrow h.1.2 hAB⟩, ⟨va_Z.narrow h.2.1.1 hAB, va_T.narrow h.2.1.2 hAB⟩, ⟨va_Z.narrow h.2.2.1 hAB, va_T.narrow h.2.2.2 hAB⟩⟩
/-- a reader's start, with the tables -/
def rt_B (D : va_G) (cl : List vw_C) (ws : va_W) (tys : List (ClassId × FieldType)) (t : Nat × Nat × Nat) : State → Prop := fun U => va_P D cl ws U.heap ∧ va_K D cl tys U ∧ tb_T t (fun _ => False) U U.heap
theorem rt_blind {av : List Value} {D : va_G} {cl : List vw_C} {ws : va_W} {tys : List (ClassId × FieldType)} {t : Nat × Nat × Nat} : FrameBlind (va_Pc av (rt_B D cl ws tys t)) := fun a U g mk q => ⟨q.1, q.2.1, va_K.moved (u := U) (U := U.calling g mk a) (Vm.Alike.refl U.vm) q.2.2.1, tb_T.moved (u := U) (U := U.calling g mk a) (Vm.Alike.refl U.vm) q.2.2.2⟩
theorem rt_use {s : State} {H : Heap} {D : va_G} {cl : List vw_C} {ws : va_W} {tys : List (ClassId × FieldType)} {t : Nat × Nat × Nat} (hP : va_P D cl ws H) (hK : va_K D cl tys s) (hT : tb_T t (fun _ => False) s H) : ∀ U : State, U.heap = H → s.WarmedH U.vm → rt_B D cl ws tys t U := fun U hU hW => ⟨by rw [hU]; exact hP, va_K.moved hW.alike hK, by rw [hU]; exact tb_T.moved hW.alike hT⟩
section TUC
variable {p : Program} {l : Launch} {e : Env} {R : Room} {s : State} {m : MethodId} {args : Array Value} {below : List Frame} {meth : Method} {c : Code} {H : Heap} {locs : List Loc} {cells slots : Nat} {Q : State → Prop}
theorem rd_call {r : Int32} {a : Array Value} {pc : Nat} {ls : Array Slot} {st0 rest : List Value} (hr : CallRun p l e R s m args below meth c H locs cells slots 0 0 (F0 m pc ls st0) rest (QcRead r a) (fun _ => False)) (kk : W p l e R s m args below meth c H locs cells slots Q (F0 m (pc + 3) ls (.int r :: rest))) : W p l e R s m args below meth c H locs cells slots Q (F0 m pc ls st0) := W.callR hr kk
end TUC
end
section
/-! what the class's small methods answer, as the bytecode has it -/
def tu_win (i lo hi : Int32) : Int32 := if i < lo then 0 else if hi < i then 0 else 1
def tu_cut (i lo hi : Int32) : Int32 := if lo < (if i < hi then i else hi) then (if i < hi then i else hi) else lo
def tu_mir (i n : Int32) : Int32 := if n ≤ (i &&& (2 * n - 1)) then 2 * n - 1 - (i &&& (2 * n - 1)) else i &&& (2 * n - 1)
def tu_wrap (w i n : Int32) : Int32 := if w = 0 then i &&& (n - 1) else if w = 1 then tu_cut i 0 (n - 1) else if w = 2 then tu_mir i n else if tu_win i 0 (n - 1) = 0 then -1 else i
def tu_mix (p q f : Int32) : Int32 := (p.toInt64 + (((q.toInt64 - p.toInt64) * f.toInt64) >>> ((16 : Int32).toInt64 &&& 63))).toInt32
def tu_whole (x : Int64) : Int32 := (x >>> ((16 : Int32).toInt64 &&& 63)).toInt32
def tu_rest (x : Int64) : Int32 := (x &&& 65535).toInt32
def tu_len (g k : Int32) : Int32 := if g ≤ k then 1 else 1 <<< ((g - k) &&& 31)
def tu_num (st : Nat → Int32) (lw k x y : Int32) : Int32 := st k.toNatClampNeg + y * tu_len lw k + x
def tu_word (mem : Nat → Int32) (k : Int64) : Int32 := if lg_cmp k 0 < 0 then 0 else if lg_cmp k 2048 < 0 then mem k.toInt32.toNatClampNeg else 0
def tu_TB (k : Nat) : Int32 := ([32, 16, 16, 16, 8, 8, 16, 4] : List Int32).getD k 0
def tu_CB (k : Nat) : Int32 := ([8, 8, 8, 8, 5, 6, 5, 0, 4, 4, 4, 4, 5, 5, 5, 1, 8, 8, 8, 0, 0, 0, 0, 8, 8, 8, 8, 8, 4, 4, 4, 0] : List Int32).getD k 0
def tu_CS (k : Nat) : Int32 := ([0, 8, 16, 24, 0, 5, 11, 0, 0, 4, 8, 12, 0, 5, 10, 15, 0, 0, 0, 0, 0, 0, 0, 0, 0, 0, 0, 8, 0, 0, 0, 0] : List Int32).getD k 0
def tu_most (fo ch : Int32) : Int32 := 1 <<< (tu_CB (fo * 4 + ch).toNatClampNeg &&& 31) - 1
def tu_bit (st : Nat → Int32) (fo lw k x y : Int32) : Int64 := (tu_num st lw k x y).toInt64 * (tu_TB fo.toNatClampNeg).toInt64
def tu_stored (mem st : Nat → Int32) (fr fo lw k x y ch : Int32) : Int32 :=
  if tu_most fo ch = 0 then (if ch = 3 then 65536 else 0)
  else ((((tu_word mem (fr.toInt64 + (tu_bit st fo lw k x y >>> ((5 : Int32).toInt64 &&& 63)))).toUInt32 >>> (((tu_bit st fo lw k x y &&& 31).toInt32 + tu_CS (fo * 4 + ch).toNatClampNeg).toUInt32 &&& Int32.toUInt32 31)).toInt32 &&& tu_most fo ch) * 65536 + (tu_most fo ch >>> ((1 : Int32) &&& 31))) / tu_most fo ch
def tu_sob (mem st bd : Nat → Int32) (fr fo lw k x y ch : Int32) : Int32 := if x = -1 then bd ch.toNatClampNeg else if y = -1 then bd ch.toNatClampNeg else tu_stored mem st fr fo lw k x y ch
theorem tu_wordin {k : Int64} (h1 : ¬ lg_cmp k 0 < 0) (h2 : lg_cmp k 2048 < 0) : vp_in k.toInt32 2048 := by
  have a1 : ¬ k < 0 := fun h => h1 ((lg_cmp_lt _ _).mpr h)
  have a2 : k < 2048 := (lg_cmp_lt _ _).mp h2
  rw [Int64.lt_iff_toInt_lt] at a1 a2
  have b1 : (0 : Int64).toInt = 0 := by decide
  have b2 : (2048 : Int64).toInt = 2048 := by decide
  rw [b1] at a1
  rw [b2] at a2
  rw [vp_in_iff, Int64.toInt_toInt32]
  have : k.toInt.bmod (2 ^ 32) = k.toInt := by
    rw [Int.bmod_eq_of_le] <;> omega
  rw [this]
  omega
def tu_put4 (f : Nat → Int32) (a b c d : Int32) : Nat → Int32 := upd (upd (upd (upd f 0 a) 1 b) 2 c) 3 d
/-- one texel: its place in one direction -/
def tu_x1 (w g k s : Int32) : Int32 := tu_wrap w (tu_whole (s.toInt64 * (tu_len g k).toInt64)) (tu_len g k)
def tu_one (mem sf bd : Nat → Int32) (fr fo lw lh ac dn k s t c : Int32) : Int32 := tu_sob mem sf bd fr fo lw k (tu_x1 ac lw k s) (tu_x1 dn lh k t) c
def tu_U (g k s : Int32) : Int64 := s.toInt64 * (tu_len g k).toInt64 - 32768
def tu_xa (w g k s : Int32) : Int32 := tu_wrap w (tu_whole (tu_U g k s)) (tu_len g k)
def tu_xb (w g k s : Int32) : Int32 := tu_wrap w (tu_whole (tu_U g k s) + 1) (tu_len g k)
def tu_four (mem sf bd : Nat → Int32) (fr fo lw lh ac dn k s t c : Int32) : Int32 :=
  tu_mix (tu_mix (tu_sob mem sf bd fr fo lw k (tu_xa ac lw k s) (tu_xa dn lh k t) c) (tu_sob mem sf bd fr fo lw k (tu_xb ac lw k s) (tu_xa dn lh k t) c) (tu_rest (tu_U lw k s)))
    (tu_mix (tu_sob mem sf bd fr fo lw k (tu_xa ac lw k s) (tu_xb dn lh k t) c) (tu_sob mem sf bd fr fo lw k (tu_xb ac lw k s) (tu_xb dn lh k t) c) (tu_rest (tu_U lw k s))) (tu_rest (tu_U lh k t))
def tu_smp (mem sf bd : Nat → Int32) (fr fo lw lh ac dn fi k s t c : Int32) : Int32 :=
  if fi = 1 then tu_four mem sf bd fr fo lw lh ac dn k s t c else if fi = 3 then tu_four mem sf bd fr fo lw lh ac dn k s t c else tu_one mem sf bd fr fo lw lh ac dn k s t c
def tu_smp4 (mem sf bd : Nat → Int32) (fr fo lw lh ac dn fi k s t : Int32) (f : Nat → Int32) : Nat → Int32 :=
  tu_put4 f (tu_smp mem sf bd fr fo lw lh ac dn fi k s t 0) (tu_smp mem sf bd fr fo lw lh ac dn fi k s t 1) (tu_smp mem sf bd fr fo lw lh ac dn fi k s t 2) (tu_smp mem sf bd fr fo lw lh ac dn fi k s t 3)
theorem tu_smp4_f {mem sf bd : Nat → Int32} {fr fo lw lh ac dn fi k s t : Int32} {f : Nat → Int32} (h : fi = 1 ∨ fi = 3) : tu_smp4 mem sf bd fr fo lw lh ac dn fi k s t f = tu_put4 f (tu_four mem sf bd fr fo lw lh ac dn k s t 0) (tu_four mem sf bd fr fo lw lh ac dn k s t 1) (tu_four mem sf bd fr fo lw lh ac dn k s t 2) (tu_four mem sf bd fr fo lw lh ac dn k s t 3) := by
  unfold tu_smp4 tu_smp
  rcases h with rfl | rfl <;> simp
theorem tu_smp4_o {mem sf bd : Nat → Int32} {fr fo lw lh ac dn fi k s t : Int32} {f : Nat → Int32} (h1 : ¬ fi = 1) (h3 : ¬ fi = 3) : tu_smp4 mem sf bd fr fo lw lh ac dn fi k s t f = tu_put4 f (tu_one mem sf bd fr fo lw lh ac dn k s t 0) (tu_one mem sf bd fr fo lw lh ac dn k s t 1) (tu_one mem sf bd fr fo lw lh ac dn k s t 2) (tu_one mem sf bd fr fo lw lh ac dn k s t 3) := by
  unfold tu_smp4 tu_smp
  simp [h1, h3]
/-- the texels ahead of each level -/
def tu_lay (a b : Int32) (f : Nat → Int32) : Nat → (Nat → Int32)
  | 0 => f
  | k + 1 => upd (tu_lay a b f k) (k + 1) (tu_lay a b f k k + tu_len a (nI k) * tu_len b (nI k))
theorem tu_lay_s (a b : Int32) (f : Nat → Int32) {k : Nat} (hk : k < 11) : upd (tu_lay a b f k) (nI k + 1).toNatClampNeg (tu_lay a b f k (nI k).toNatClampNeg + tu_len a (nI k) * tu_len b (nI k)) = tu_lay a b f (k + 1) := by
  rw [nI_1, nI_clamp (by omega), nI_clamp (by omega)]
  rfl
theorem tu_loop {W9 : Heap → List Loc → Array Slot → Prop} (I : Nat → Heap → List Loc → Array Slot → Prop) (N : Nat) (hend : ∀ H locs ls, I N H locs ls → W9 H locs ls)
    (hstep : ∀ k H locs ls, k < N → I k H locs ls → (∀ H locs ls, I (k + 1) H locs ls → W9 H locs ls) → W9 H locs ls) : ∀ H locs ls, I 0 H locs ls → W9 H locs ls := by
  have key : ∀ (n k : Nat), k + n = N → ∀ H locs ls, I k H locs ls → W9 H locs ls := by
    intro n
    induction n with
    | zero =>
      intro k hk H locs ls h
      have : k = N := by omega
      subst this
      exact hend H locs ls h
    | succ n ih =>
      intro k hk H locs ls h
      exact hstep k H locs ls (by omega) h (ih (k + 1) (by omega))
  exact key N 0 (by omega)
theorem tu_cA {D : va_G} {cl : List vw_C} {tys : List (ClassId × FieldType)} {s : State} (hK : va_K D cl tys s) (i j : Nat) {a b : ClassId} (h1 : tys[i]? = some (a, .int)) (h2 : tys[j]? = some (b, .int)) : a = b := by
  have x := (hK.2 i _ h1).2
  have y := (hK.2 j _ h2).2
  exact Option.some.inj (Eq.trans (Eq.symm x) y)
theorem tu_win_iff {i lo hi : Int32} : ¬ tu_win i lo hi = 0 ↔ ¬ i < lo ∧ ¬ hi < i := by
  unfold tu_win
  by_cases h1 : i < lo
  · simp [h1]
  · by_cases h2 : hi < i
    · simp [h1, h2]
    · simp [h1, h2]
theorem tu_win_in {i hi : Int32} {n : Nat} (h : ¬ tu_win i 0 hi = 0) (hn : hi.toInt + 1 = n) : vp_in i n := by
  obtain ⟨h1, h2⟩ := tu_win_iff.mp h
  rw [vp_in_iff]
  rw [Int32.lt_iff_toInt_lt] at h1 h2
  rw [Int32.toInt_zero] at h1
  omega
def tu_mix4 (a b : Nat → Int32) (f : Int32) : Nat → Int32 := tu_put4 a (tu_mix (a 0) (b 0) f) (tu_mix (a 1) (b 1) f) (tu_mix (a 2) (b 2) f) (tu_mix (a 3) (b 3) f)
def tu_lod (lv l : Int32) : Int32 := tu_cut l 0 ((lv - 1) <<< ((16 : Int32) &&& 31))
def tu_lev (lv l : Int32) : Int32 := tu_lod lv l >>> ((16 : Int32) &&& 31)
/-- what latest and nextLevel hold behind a reading -/
def tu_rd (mem sf bd : Nat → Int32) (fr fo lw lh lv ac dn fi s t l : Int32) (la nx : Nat → Int32) : Nat → Int32 :=
  if fi = 2 ∨ fi = 3 then (if lv ≤ tu_lev lv l + 1 then tu_smp4 mem sf bd fr fo lw lh ac dn fi (tu_lev lv l) s t la
    else tu_mix4 (tu_smp4 mem sf bd fr fo lw lh ac dn fi (tu_lev lv l) s t la) (tu_smp4 mem sf bd fr fo lw lh ac dn fi (tu_lev lv l + 1) s t nx) (tu_lod lv l &&& 65535))
  else tu_smp4 mem sf bd fr fo lw lh ac dn fi (tu_lev lv l) s t la
def tu_rn (mem sf bd : Nat → Int32) (fr fo lw lh lv ac dn fi s t l : Int32) (nx : Nat → Int32) : Nat → Int32 :=
  if fi = 2 ∨ fi = 3 then (if lv ≤ tu_lev lv l + 1 then nx else tu_smp4 mem sf bd fr fo lw lh ac dn fi (tu_lev lv l + 1) s t nx) else nx
section TRD
variable {mem sf bd : Nat → Int32} {fr fo lw lh lv ac dn fi s t l : Int32} {la nx : Nat → Int32}
theorem tu_rd_a (h : fi = 2 ∨ fi = 3) (h2 : ¬ lv ≤ tu_lev lv l + 1) : tu_rd mem sf bd fr fo lw lh lv ac dn fi s t l la nx = tu_mix4 (tu_smp4 mem sf bd fr fo lw lh ac dn fi (tu_lev lv l) s t la) (tu_smp4 mem sf bd fr fo lw lh ac dn fi (tu_lev lv l + 1) s t nx) (tu_lod lv l &&& 65535) := by unfold tu_rd; rw [if_pos h, if_neg h2]
theorem tu_rd_b (h : fi = 2 ∨ fi = 3) (h2 : lv ≤ tu_lev lv l + 1) : tu_rd mem sf bd fr fo lw lh lv ac dn fi s t l la nx = tu_smp4 mem sf bd fr fo lw lh ac dn fi (tu_lev lv l) s t la := by unfold tu_rd; rw [if_pos h, if_pos h2]
theorem tu_rd_c (h1 : ¬ fi = 2) (h2 : ¬ fi = 3) : tu_rd mem sf bd fr fo lw lh lv ac dn fi s t l la nx = tu_smp4 mem sf bd fr fo lw lh ac dn fi (tu_lev lv l) s t la := by unfold tu_rd; rw [if_neg (fun h => h.elim h1 h2)]
theorem tu_rn_a (h : fi = 2 ∨ fi = 3) (h2 : ¬ lv ≤ tu_lev lv l + 1) : tu_rn mem sf bd fr fo lw lh lv ac dn fi s t l nx = tu_smp4 mem sf bd fr fo lw lh ac dn fi (tu_lev lv l + 1) s t nx := by unfold tu_rn; rw [if_pos h, if_neg h2]
theorem tu_rn_b (h : fi = 2 ∨ fi = 3) (h2 : lv ≤ tu_lev lv l + 1) : tu_rn mem sf bd fr fo lw lh lv ac dn fi s t l nx = nx := by unfold tu_rn; rw [if_pos h, if_pos h2]
theorem tu_rn_c (h1 : ¬ fi = 2) (h2 : ¬ fi = 3) : tu_rn mem sf bd fr fo lw lh lv ac dn fi s t l nx = nx := by unfold tu_rn; rw [if_neg (fun h => h.elim h1 h2)]
end TRD
end
section
abbrev tx_N : Array Value → State → Outcome → State → Prop := fun _ _ _ _ => False
def tx_X (E0 : String) : String → State → State → Prop := fun E st t => E = E0 ∧ va_F (fun _ => False) st t
/-! an exception whose constructor calls the next one's by any entry of its pool (NoSuchElementException: 13): what its making needs, and its throwing. The road is the library's own (its laws are called one by one); of the cell only its class is kept in mind. -/
def ex_ats (own : String) (ic : Nat) (X Y : String) (ix : Nat) (rx : ByteArray) (r : List String) : List Cond :=
  Bundle.throwableAtoms ++ Bundle.throwableSAtoms ++ Bundle.passSAtoms X Y ix rx ++ Bundle.chainSAtoms Y r ++
  [.methodLink own ic (Bundle.initS X), .instantiable X 6, .selects X Bundle.tFill0 Bundle.tFill0, .selects X Bundle.tFill Bundle.tFill,
   .lays X Bundle.tN "cause" "Ljava/lang/Throwable;", .lays X Bundle.tN "stackTrace" Bundle.steD, .lays X Bundle.tN "suppressedExceptions" Bundle.listD, .lays X Bundle.tN "detailMessage" "Ljava/lang/String;",
   .isRef (.static Bundle.tN "UNASSIGNED_STACK" Bundle.steD), .isRef (.static Bundle.tN "SUPPRESSED_SENTINEL" Bundle.listD),
   .fieldLink Bundle.tN 198 Bundle.tN "backtrace" "Ljava/lang/Object;", .lays Bundle.tN Bundle.tN "backtrace" "Ljava/lang/Object;", .lays X Bundle.tN "backtrace" "Ljava/lang/Object;"]
section EXC
variable {p : Program} {l : Launch} {e : Env} {R : Room} {s : State} {m : MethodId} {args : Array Value} {below : List Frame} {meth : Method} {c : Code}
set_option maxHeartbeats 4000000 in
theorem ex_ctor {V : State} {cells slots : Nat} (X : Stand p l e R s m args below meth c V [] cells slots) (hexec : p.tables.exec = Jvm.exec) (htr : e.platform.stackTraces = false) {own cls Y : String} {r : List String} {ic ix : Nat} {rx : ByteArray}
    (x0 : decode rx 0 = .ok (.aload_n 0, 1)) (x1 : decode rx 1 = .ok (.aload_n 1, 1)) (x2 : decode rx 2 = .ok (.invokespecial ix, 3)) (x5 : decode rx 5 = .ok (.return_, 1))
    (hown : s.vm.findClass own = some m.cls) (hcls : Bundle.fit cls = true) (hnames : ∀ n ∈ Y :: r, Bundle.fit n = true)
    (h : ∀ a ∈ ex_ats own ic cls Y ix rx r, a.before args s = true)
    {a : Addr} {cX : ClassId} {kX : Class} (hfoundX : s.vm.findClass cls = some cX) (hkX : s.vm.classes[cX]? = some kX) (hcell : V.heap[a]? = some (freshCell cX kX)) (hnew : s.heap.size ≤ a)
    {msg : Value} (hmsg : msg.isRef = true)
    {g : JFrame} (hg : g.method = m) (hsize : g.locals.size = c.maxLocals) (hlocked : g.locked = none) (hentered : g.entered = []) {rest : List Value} (hstack : g.stack = msg :: .ref a :: .ref a :: rest)
    (hd6 : decode c.code g.pc = .ok (.invokespecial ic, 3)) (hd9 : decode c.code (g.pc + 3) = .ok (.athrow, 1)) (hout : ∀ x ∈ c.exceptionTable.toList, covers x (g.pc + 3) = false)
    (hRframes : r.length + 4 < R.frames) (hRlocals : 2 * g.monitorRoom + ((Value.ref a :: rest).map fun v => v.category).sum + (13 * (r.length + 2) + 42) ≤ R.locals) (hlocks : meth.locks = false) :
    ∃ U : State, Steps p.tables e below (V.setTop g) U ∧ U.status = .running ∧ Ended U below (.threw a) ∧ s.WarmedH U.vm ∧ s.sameButNew ({ U with vm := s.vm } : State) [] cells slots ∧
      ∃ ce : Cell, U.heap[a]? = some ce ∧ ce.vm = .none ∧ ce.cls = cX := by
  have howns : e.platform.frameOwnsMonitors = true := by rw [X.admits.platform]
  have hfin : e.platform.finalization = false := by rw [X.admits.platform]
  have hpl : e.platform.magicAccessors = ({} : Platform).magicAccessors := by rw [X.admits.platform]
  have a' : ∀ x, x ∈ ex_ats own ic cls Y ix rx r → x.holds args s none s [] = true := fun x hx => h x hx
  obtain ⟨T, Z0, L, -, Ti⟩ := ThrowableC.of_atoms (args := args) howns hfin hpl (fun x hx => h x (by simp [ex_ats, hx]))
  obtain ⟨Z, M, LZ, LM, hnZ⟩ := Init0T.ofS_atoms (args := args) hpl L Ti (fun x hx => h x (by simp [ex_ats, hx]))
  obtain ⟨P1, L1, hP1m, hP1s⟩ := PassC.ofS_atoms (args := args) (s := s) hpl (X := cls) (Y := Y) (Bundle.fit_spec hcls).1 (Bundle.fit_spec (hnames Y List.mem_cons_self)).2 x0 x1 x2 x5 (fun x hx => h x (by simp [ex_ats, hx]))
  obtain ⟨P2, Ps, hlen, L2, hL, hP2m, hlink1, hlink⟩ := Bundle.chainS (args := args) hpl hnZ r Y (hnames Y List.mem_cons_self) (fun n hn => hnames n (List.mem_cons_of_mem _ hn)) (fun x hx => h x (by simp [ex_ats, hx]))
  have h12 : P1.sup = P2.m := Option.some.inj (hP1s.symm.trans hP2m)
  have hfound : s.vm.findClass cls = some P1.m.cls := findClass_of_methodNamed hP1m
  cases Option.some.inj (hfoundX.symm.trans hfound)
  obtain ⟨c1, kX', hc1, hk, hord, -, -, hn6⟩ := Cond.instantiable_spec (a' (.instantiable cls 6) (by simp [ex_ats]))
  cases Option.some.inj (hc1.symm.trans hfound)
  cases Option.some.inj (hkX.symm.trans hk)
  have hsel0 : selectMethod e.platform s.vm P1.m.cls T.fill0 = .method T.fill0 := by
    obtain ⟨c2, r2, m2, q1, q2, q3, q4, -⟩ := Cond.selects_spec (a' (.selects cls Bundle.tFill0 Bundle.tFill0) (by simp [ex_ats]))
    cases Option.some.inj (q1.symm.trans hfound)
    cases Option.some.inj (q2.symm.trans (State.methodFound?_of_named Ti.fill0 (by decide)))
    cases Option.some.inj (q3.symm.trans Ti.fill0)
    rw [Launch.admits_selectMethod X.admits]; exact q4
  have hselF : selectMethod e.platform s.vm P1.m.cls T.fill = .method T.fill := by
    obtain ⟨c2, r2, m2, q1, q2, q3, q4, -⟩ := Cond.selects_spec (a' (.selects cls Bundle.tFill Bundle.tFill) (by simp [ex_ats]))
    cases Option.some.inj (q1.symm.trans hfound)
    cases Option.some.inj (q2.symm.trans (State.methodFound?_of_named Ti.fill (by decide)))
    cases Option.some.inj (q3.symm.trans Ti.fill)
    rw [Launch.admits_selectMethod X.admits]; exact q4
  obtain ⟨cellS0, hcS0, hiss⟩ := Ti.statics
  obtain ⟨u0, hu0⟩ := Cond.staticRefV Ti.unassigned L.unassignedStatic L.statics hcS0 hiss (a' (.isRef (.static Bundle.tN "UNASSIGNED_STACK" Bundle.steD)) (by simp [ex_ats]))
  obtain ⟨sen, hsen⟩ := Cond.staticRefV Ti.sentinel L.sentinelStatic L.statics hcS0 hiss (a' (.isRef (.static Bundle.tN "SUPPRESSED_SENTINEL" Bundle.listD)) (by simp [ex_ats]))
  obtain ⟨ci198, i198, fB, hk198, hg198, ha198, hsB, -, hnB, htB, hffB⟩ := Cond.ownField (t := .object "java/lang/Object") Ti.found L.cls (by decide +kernel) (a' (.fieldLink Bundle.tN 198 Bundle.tN "backtrace" "Ljava/lang/Object;") (by simp [ex_ats])) (a' (.lays Bundle.tN Bundle.tN "backtrace" "Ljava/lang/Object;") (by simp [ex_ats])) e.platform hpl
  obtain ⟨cellS, hcellS, heS, -, hkeep⟩ := X.same.2.2.2.2.2 T.aS cellS0 hcS0
  have hcellS : V.heap[T.aS]? = some cellS := hcellS
  have hknownS : cellS.vm ≠ .unknown := by
    rw [heS]; intro hu
    rw [show cellS0.vm = .unknown from hu] at hiss
    cases hiss
  have hneS : T.aS ≠ a := Nat.ne_of_lt (Nat.lt_of_lt_of_le (Array.getElem?_eq_some_iff.mp hcS0).1 hnew)
  obtain ⟨iM, hffM⟩ := Ti.msg
  obtain ⟨tyC, dC, hdC, hdnC⟩ := Cond.laysAt hfound hk Ti.cause (a' (.lays cls Bundle.tN "cause" "Ljava/lang/Throwable;") (by simp [ex_ats]))
  obtain ⟨tyS, dS, hdS, hdnS⟩ := Cond.laysAt hfound hk Ti.stack (a' (.lays cls Bundle.tN "stackTrace" Bundle.steD) (by simp [ex_ats]))
  obtain ⟨tyP, dP, hdP, hdnP⟩ := Cond.laysAt hfound hk Ti.supp (a' (.lays cls Bundle.tN "suppressedExceptions" Bundle.listD) (by simp [ex_ats]))
  obtain ⟨tyM, dM, hdM, hdnM⟩ := Cond.laysAt hfound hk hffM (a' (.lays cls Bundle.tN "detailMessage" "Ljava/lang/String;") (by simp [ex_ats]))
  obtain ⟨tyB, dB, hdB, hdnB⟩ := Cond.laysAt hfound hk hffB (a' (.lays cls Bundle.tN "backtrace" "Ljava/lang/Object;") (by simp [ex_ats]))
  have bC := Cond.laysApart hdB hdC hdnB hdnC (by rw [hnB, Ti.causeName]; decide)
  have bS := Cond.laysApart hdB hdS hdnB hdnS (by rw [hnB, Ti.stackName]; decide)
  have bP := Cond.laysApart hdB hdP hdnB hdnP (by rw [hnB, Ti.suppName]; decide)
  have hskip : SkipFacts T e.platform s (fun u => u) u0 ((preparedCellV T.toThrowableT (freshCell P1.m.cls kX) a u0 sen).withEntry V.cur) :=
    ⟨{ ci198 := ci198, i198 := i198, fBack := fB }, ⟨hk198, hg198, ha198, hsB⟩, by
      have := fresh_default (c := P1.m.cls) tyB
      rw [htB] at this
      simpa [preparedCellV, Cell.setSlot, Cell.withEntry, Array.getElem?_setIfInBounds, bC, bS, bP, bC.symm, bS.symm, bP.symm, defaultValue] using this, fun _ _ => rfl⟩
  obtain ⟨tm, methC, cdC, kC, vm₁, hnC, -, -, -, -, -, -, -, hW₁, st1⟩ := Steps.initColdS (tb := p.tables) (e := e) (below := below) (s := s) (U := V) X.here hexec X.warmed hpl hown (t := Bundle.initS cls) rfl rfl (Bundle.fit_spec hcls).2
    (a' (.methodLink own ic (Bundle.initS cls)) (by simp [ex_ats])) (h (.instanceMethod (Bundle.initS cls)) (by simp [ex_ats, Bundle.passSAtoms])) (bytes := rx) (maxL := 2) (h (.code (Bundle.initS cls) rx 2 none) (by simp [ex_ats, Bundle.passSAtoms]))
    (f := g) hg (a := a) (msg := msg) (rest := .ref a :: rest) hstack hd6
  cases Option.some.inj (hnC.symm.trans hP1m)
  have X₁ := X.noted hW₁
  obtain ⟨vm₂, X₂, st2⟩ := X₁.ctorMessageOffV hexec (g := { g with stack := .ref a :: rest }) hg hsize T L Z LZ M LM (P1 :: P2 :: Ps)
    (fun P hP => by
      rcases List.mem_cons.mp hP with rfl | hP
      · exact L1
      · rcases List.mem_cons.mp hP with rfl | hP
        · exact L2
        · exact hL P hP) ⟨h12, hlink1, hlink⟩ (u0 := u0) (sen := sen) (self := a) hmsg (cell := freshCell P1.m.cls kX) (cellS := cellS)
    hcell (fun _ => by simp) (by simp) rfl rfl hsel0 hselF hcellS hneS hknownS (by rw [hkeep _ (fun h => nomatch h)]; exact hu0) (by rw [hkeep _ (fun h => nomatch h)]; exact hsen)
    (Takes.of_laid hk hord tyC (by rw [Ti.causeType]; rfl)) (Takes.of_laid hk hord tyS (by rw [Ti.stackType]; exact fits_refV_array _ u0)) (Takes.of_laid hk hord tyP (by rw [Ti.suppType]; exact fits_refV_object _ sen))
    (Takes.of_laid hk hord tyM (by rw [Ti.msgType]; exact fits_refV_object _ ⟨msg, hmsg⟩)) Ti.objLocals hskip htr [] hd6
    (by simp only [List.length_cons, hlen]; omega) (by simp only [List.length_cons, hlen]; exact hRlocals)
  obtain ⟨hwalk, hrun, hended, hWU, hsame⟩ := X₂.athrowLeaves hexec (g := { g with stack := .ref a :: rest, pc := g.pc + 3 }) hg hlocked hentered hout (a := a) (rest := rest) rfl hd9 hlocks
  have hlt : a < ((V.setVm vm₁).setVm vm₂).heap.size := (Array.getElem?_eq_some_iff.mp hcell).1
  have hU := heapAt_setCell_self (s := (V.setVm vm₁).setVm vm₂) (plainBareV T.toThrowableT (freshCell P1.m.cls kX) a u0 sen msg) hlt
  refine ⟨_, st1 _ (fun acts => ?_), hrun, hended, hWU, hsame.weaken (fun y hy hlt' => ?_) (Nat.le_refl _) (Nat.le_refl _), _, hU, rfl, rfl⟩
  · rw [doInvoke_state]
    exact st2 _ hwalk
  · rcases List.mem_append.mp hy with h1 | h1
    · exact h1
    · exfalso
      have hb : y.base = a := by
        simp only [List.mem_cons, List.not_mem_nil, or_false] at h1
        rcases h1 with rfl | rfl | rfl | rfl | rfl <;> rfl
      rw [hb] at hlt'
      exact Nat.not_lt.mpr hnew hlt'
/-- 'throw new E("text")' in a method that has written nothing -/
theorem ex_throw {cc : ByteArray} {pc : Nat} (hexec : p.tables.exec = Jvm.exec) (hb : c.code = cc) (hl : l.stackTraces = false) {own cls Y text : String} {r : List String} {ik is ic ix : Nat} {rx : ByteArray}
    (x0 : decode rx 0 = .ok (.aload_n 0, 1)) (x1 : decode rx 1 = .ok (.aload_n 1, 1)) (x2 : decode rx 2 = .ok (.invokespecial ix, 3)) (x5 : decode rx 5 = .ok (.return_, 1))
    (hown : s.vm.findClass own = some m.cls) (hcls : Bundle.fit cls = true) (hnames : ∀ n ∈ Y :: r, Bundle.fit n = true)
    (hk : (Cond.classLink own ik cls).before args s = true) (hini : (Cond.initialized cls).before args s = true) (hstr : ∃ sa : Nat, vk_R own is text sa s)
    (h : ∀ w ∈ ex_ats own ic cls Y ix rx r, w.before args s = true) {ls : Array Slot} {rest : List Value} (hsize : ls.size = c.maxLocals)
    (d0 : decode cc pc = .ok (.new ik, 3)) (d3 : decode cc (pc + 3) = .ok (.dup, 1)) (d4 : decode cc (pc + 4) = .ok (.ldc is, 2)) (d6 : decode cc (pc + 6) = .ok (.invokespecial ic, 3)) (d9 : decode cc (pc + 9) = .ok (.athrow, 1))
    (hout : ∀ x ∈ c.exceptionTable.toList, covers x (pc + 9) = false)
    (hRframes : r.length + 4 < R.frames) (hRlocals : (rest.map fun v => v.category).sum + (13 * (r.length + 2) + 43) ≤ R.locals) (hRcells : 1 ≤ R.cells) (hRslots : 6 ≤ R.slots) (hlocks : meth.locks = false) :
    W p l e R s m args below meth c s.heap [] 0 0 (vx_MQ below tx_N (tx_X cls) args s 1 6 (fun _ => False)) (F0 m pc ls rest) := by
  intro T hT X
  have htr : e.platform.stackTraces = false := (show e.platform.stackTraces = l.stackTraces by rw [X.admits.platform]).trans hl
  obtain ⟨sa, hstr⟩ := hstr
  have hins : (Cond.instantiable cls 6).before args s = true := h _ (by simp [ex_ats])
  obtain ⟨vm₁, cX, kX, hfX, hkX, -, -, X₁, st1⟩ := X.newCold hexec (own := own) (C := cls) (index := ik) (n := 6) hown hk hins hini
    (g := F0 m pc ls rest) rfl (by rw [hb]; exact d0) (by omega) (by omega)
  generalize hT1 : (T.setVm vm₁).pushCell { cls := cX, slots := kX.instanceTypes.map defaultValue, vm := .none } = T1 at X₁ st1
  have hcat : (Value.ref T.heap.size).category = 1 := rfl
  have hcellA : T1.heap[T.heap.size]? = some (freshCell cX kX) := by rw [← hT1]; exact State.heap_pushCell_size _ _
  have d3' : decode c.code (pc + 3) = .ok (.dup, 1) := by rw [hb]; exact d3
  have d4' : decode c.code (pc + 4) = .ok (.ldc is, 2) := by rw [hb]; exact d4
  obtain ⟨U, hsteps, hrun, hend, hW, hsame, ce, hce, hv, hcl⟩ := ex_ctor X₁ hexec htr (own := own) (cls := cls) (ic := ic) x0 x1 x2 x5 hown hcls hnames h hfX hkX hcellA (by rw [hT]; exact Nat.le_refl _) (msg := .ref sa) rfl
    (g := { method := m, pc := pc + 6, locals := ls, stack := .ref sa :: .ref T.heap.size :: .ref T.heap.size :: rest, locked := none }) rfl hsize rfl rfl (rest := rest) rfl
    (by rw [hb]; exact d6) (by rw [hb]; exact d9) hout hRframes (by simp only [List.map_cons, List.sum_cons, hcat]; show 2 * 0 + _ + _ ≤ _; omega) hlocks
  obtain ⟨f1, f2⟩ := vx_frame hsame
  refine ⟨U, ?_, .threw T.heap.size, hrun, hend, Or.inr ⟨T.heap.size, rfl, cls, ce, [], ⟨rfl, f1, fun q hq _ => f2 q hq (fun z hz => nomatch hz)⟩, hce, hv, by rw [hcl]; exact hfX, hW, hsame.mono (by omega) (by omega), fun z hz => nomatch hz⟩⟩
  refine st1 _ ?_
  show Steps p.tables e below (T1.setTop { method := m, pc := pc + 3, locals := ls, stack := .ref T.heap.size :: rest, locked := none }) _
  jvm_step X₁.here [X₁.here.top, hexec, d3', Value.category]
  exact X₁.ldcString hexec (own := own) (text := text) (index := is) (a := sa) hown hstr.1 hstr.2
    (g := { method := m, pc := pc + 4, locals := ls, stack := .ref T.heap.size :: .ref T.heap.size :: rest, locked := none }) rfl d4' _ hsteps
end EXC
end
section
/-! the exceptions of the class: what their making needs, beside the good words -/
abbrev ex_I : String := "java/lang/IndexOutOfBoundsException"
abbrev ex_A : String := "java/lang/IllegalArgumentException"
abbrev ex_S : String := "java/util/NoSuchElementException"
abbrev ex_lI : List Cond := ex_ats "TextureUnits" 34 ex_I "java/lang/RuntimeException" 7 prog_7_method_2_code ["java/lang/Exception"]
abbrev ex_lA : List Cond := ex_ats "TextureUnits" 45 ex_A "java/lang/RuntimeException" 7 prog_6_method_2_code ["java/lang/Exception"]
abbrev ex_lS : List Cond := ex_ats "TextureUnits" 118 ex_S "java/lang/RuntimeException" 13 prog_12_method_4_code ["java/lang/Exception"]
def ex_bads : List Cond := (ex_lI.filter (fun w => vx_no w && !goodWord w)) ++ ((ex_lA.filter (fun w => vx_no w && !goodWord w)) ++ ((ex_lS.filter (fun w => vx_no w && !goodWord w)) ++ [.castable ex_I ex_I, .castable ex_A ex_A, .castable ex_S ex_S]))
def ex_cd : Cond → Bool
  | .castable _ _ => true
  | .declares _ => true
  | _ => false
theorem ex_bads_cd : ex_bads.all ex_cd = true := by decide +kernel
theorem ex_bads_in : ∀ w ∈ ex_bads, w ∈ lw_tbl := by decide +kernel
theorem ex_gI : ∀ w ∈ ex_lI.filter (fun w => vx_no w && goodWord w), w ∈ lw_tbl := by decide +kernel
theorem ex_gA : ∀ w ∈ ex_lA.filter (fun w => vx_no w && goodWord w), w ∈ lw_tbl := by decide +kernel
theorem ex_gS : ∀ w ∈ ex_lS.filter (fun w => vx_no w && goodWord w), w ∈ lw_tbl := by decide +kernel
def ex_bad (U : State) : Prop := ∀ w ∈ ex_bads, va_Nw w U
theorem ex_cd_on {w : Cond} (h : ex_cd w = true) : w.onTables = true := by
  cases w <;> first | rfl | (simp [ex_cd] at h)
theorem ex_bad.warm {s U : State} (hW : s.WarmedH U.vm) (h : ex_bad s) : ex_bad U := by
  intro w hw
  have h1 := h w hw
  have h2 := List.all_eq_true.mp ex_bads_cd w hw
  cases w <;> first | exact va_Nw.warmC hW h1 | exact va_Nw.warmD hW h1 | (simp [ex_cd] at h2)
theorem ex_bad.use {U : State} {args : Array Value} (h : ex_bad U) {w : Cond} (hw : w ∈ ex_bads) : w.before args U = true := va_Nw.use (ex_cd_on (List.all_eq_true.mp ex_bads_cd w hw)) (h w hw)
def ex_strs : List (Nat × String) := [(32, "no such word"), (116, "no such unit"), (43, "from is below 0"), (46, "no such logarithm"), (48, "no such count of levels"), (50, "no such format"), (63, "no such wrap"), (65, "no such filter"), (82, "no such level"), (91, "no such texel"), (93, "no such channel")]
def ex_str (U : State) : Prop := ∀ q ∈ ex_strs, ∃ a : Nat, vk_R "TextureUnits" q.1 q.2 a U
theorem ex_str.warm {s U : State} (hW : s.WarmedH U.vm) (h : ex_str s) : ex_str U := fun q hq => by
  obtain ⟨a, ha⟩ := h q hq
  exact ⟨a, vk_R.warm hW ha⟩
/-- all of it, in a state and a heap; A: what may be written -/
def ex_E (A : Nat → Prop) (U : State) (H : Heap) : Prop :=
  ex_bad U ∧ ex_str U ∧ (va_Nc ex_A ex_S U ∧ va_Nc ex_I ex_S U) ∧ vx_Zq Bundle.tN "UNASSIGNED_STACK" Bundle.steD A U H ∧ vx_Zq Bundle.tN "SUPPRESSED_SENTINEL" Bundle.listD A U H
theorem ex_E.warm {A : Nat → Prop} {s U : State} {H : Heap} (hW : s.WarmedH U.vm) (h : ex_E A s H) : ex_E A U H :=
  ⟨h.1.warm hW, h.2.1.warm hW, ⟨h.2.2.1.1.moved hW.alike, h.2.2.1.2.moved hW.alike⟩, h.2.2.2.1.moved hW.alike, h.2.2.2.2.moved hW.alike⟩
theorem ex_E.kept {A : Nat → Prop} {U : State} {H H1 : Heap} (h : ex_E A U H) (hq : ∀ a : Nat, a < H.size → ¬ A a → H1[a]? = H[a]?) : ex_E A U H1 :=
  ⟨h.1, h.2.1, h.2.2.1, h.2.2.2.1.kept hq, h.2.2.2.2.kept hq⟩
theorem ex_E.narrow {A B : Nat → Prop} {U : State} {H : Heap} (h : ex_E A U H) (hAB : ∀ q, B q → A q) : ex_E B U H :=
  ⟨h.1, h.2.1, h.2.2.1, h.2.2.2.1.narrow hAB, h.2.2.2.2.narrow hAB⟩
theorem ex_hat {L : List Cond} {x : Cond} {args : Array Value} {s : State} {A : Nat → Prop} (hg : ∀ w ∈ L.filter (fun w => vx_no w && goodWord w), w ∈ lw_tbl) (hb : ∀ w ∈ L.filter (fun w => vx_no w && !goodWord w), w ∈ ex_bads) (hts : ∀ w ∈ x :: TW, w.before args s = true) (hE : ex_E A s s.heap) : ∀ w ∈ L, w.before args s = true := by
  refine vx_own (fun w hw => ?_) (vx_isRefq hE.2.2.2.1.1) (vx_isRefq hE.2.2.2.2.1) hE.2.2.2.1.2.word hE.2.2.2.2.2.word
  obtain ⟨h1, h2⟩ := List.mem_filter.mp hw
  cases hgw : goodWord w with
  | true => exact hts w (tw_c (tw_of (hg w (List.mem_filter.mpr ⟨h1, by rw [h2, hgw]; rfl⟩)) hgw))
  | false => exact hE.1.use (hb w (List.mem_filter.mpr ⟨h1, by rw [h2, hgw]; rfl⟩))
theorem ex_hI {x : Cond} {args : Array Value} {s : State} {A : Nat → Prop} (hts : ∀ w ∈ x :: TW, w.before args s = true) (hE : ex_E A s s.heap) : ∀ w ∈ ex_lI, w.before args s = true := ex_hat ex_gI (fun w hw => List.mem_append_left _ hw) hts hE
theorem ex_hA {x : Cond} {args : Array Value} {s : State} {A : Nat → Prop} (hts : ∀ w ∈ x :: TW, w.before args s = true) (hE : ex_E A s s.heap) : ∀ w ∈ ex_lA, w.before args s = true := ex_hat ex_gA (fun w hw => List.mem_append_right _ (List.mem_append_left _ hw)) hts hE
theorem ex_hS {x : Cond} {args : Array Value} {s : State} {A : Nat → Prop} (hts : ∀ w ∈ x :: TW, w.before args s = true) (hE : ex_E A s s.heap) : ∀ w ∈ ex_lS, w.before args s = true := ex_hat ex_gS (fun w hw => List.mem_append_right _ (List.mem_append_right _ (List.mem_append_left _ hw))) hts hE
theorem ex_x0 : decode prog_7_method_2_code 0 = .ok (.aload_n 0, 1) ∧ decode prog_7_method_2_code 1 = .ok (.aload_n 1, 1) ∧ decode prog_7_method_2_code 2 = .ok (.invokespecial 7, 3) ∧ decode prog_7_method_2_code 5 = .ok (.return_, 1) := by decide +kernel
theorem ex_x1 : decode prog_6_method_2_code 0 = .ok (.aload_n 0, 1) ∧ decode prog_6_method_2_code 1 = .ok (.aload_n 1, 1) ∧ decode prog_6_method_2_code 2 = .ok (.invokespecial 7, 3) ∧ decode prog_6_method_2_code 5 = .ok (.return_, 1) := by decide +kernel
theorem ex_x2 : decode prog_12_method_4_code 0 = .ok (.aload_n 0, 1) ∧ decode prog_12_method_4_code 1 = .ok (.aload_n 1, 1) ∧ decode prog_12_method_4_code 2 = .ok (.invokespecial 13, 3) ∧ decode prog_12_method_4_code 5 = .ok (.return_, 1) := by decide +kernel
/-- the start of a method that throws -/
def tx_B (D : va_G) (cl : List vw_C) (ws : va_W) (tys : List (ClassId × FieldType)) : State → Prop := fun U => va_P D cl ws U.heap ∧ va_K D cl tys U ∧ ex_E (fun _ => False) U U.heap
theorem tx_blind {av : List Value} {D : va_G} {cl : List vw_C} {ws : va_W} {tys : List (ClassId × FieldType)} : FrameBlind (va_Pc av (tx_B D cl ws tys)) := fun a U g mk q => ⟨q.1, q.2.1, va_K.moved (u := U) (U := U.calling g mk a) (Vm.Alike.refl U.vm) q.2.2.1, ex_E.warm (s := U) (U := U.calling g mk a) (State.WarmedH.refl U) q.2.2.2⟩
theorem tx_use {s : State} {H : Heap} {D : va_G} {cl : List vw_C} {ws : va_W} {tys : List (ClassId × FieldType)} (hP : va_P D cl ws H) (hK : va_K D cl tys s) (hT : ex_E (fun _ => False) s H) : ∀ U : State, U.heap = H → s.WarmedH U.vm → tx_B D cl ws tys U := fun U hU hW => ⟨by rw [hU]; exact hP, va_K.moved hW.alike hK, by rw [hU]; exact ex_E.warm hW hT⟩
abbrev tx_Met (l : Launch) (y : MethodName) (ws : List Cond) (rm : Room) (Pc : Array Value → State → Prop) (E : String) : Prop := vx_Met l y ws rm Pc tx_N (tx_X E) 1 6 (fun _ => False)
section TXC
variable {p : Program} {l : Launch} {e : Env} {R : Room} {s : State} {m : MethodId} {args : Array Value} {below : List Frame} {meth : Method} {c : Code} {H : Heap} {locs : List Loc} {cells slots : Nat} {Q : State → Prop}
theorem tx_call {E0 : String} {a : Array Value} {mc ms pc : Nat} {ls : Array Slot} {st0 rest : List Value} (hr : vx_Run p l e R s m args below meth c H locs cells slots mc ms (F0 m pc ls st0) rest (tx_N a) (tx_X E0) (fun _ => False))
    (kx : ∀ (H1 : Heap) (q : Addr) (ce : Cell), H.size ≤ H1.size → (∀ z : Nat, z < H.size → H1[z]? = H[z]?) → H1[q]? = some ce → ce.vm = .none → s.vm.findClass E0 = some ce.cls → vx_W p l e R s m args below meth c H1 locs (cells + mc) (slots + ms) Q (F0 m pc ls rest) q) : W p l e R s m args below meth c H locs cells slots Q (F0 m pc ls st0) := by
  intro T hT X
  rcases hr T hT X with ⟨v, st₀, t, T', L, h0, X', hL, e1, e2, hf, st⟩ | ⟨q, st₀, t, T', L, E, ce, h0, X', hL, e1, e2, hE, hce, hcv, hcl, st⟩
  · exact hf.elim
  · have hLn : L = [] := by
      cases L with
      | nil => rfl
      | cons z L => exact (hL z List.mem_cons_self).elim
    subst hLn
    rw [List.append_nil] at X'
    obtain ⟨hE, hz, hk⟩ := hE
    subst hE
    rw [h0] at hz hk
    obtain ⟨t2, a1, b1⟩ := kx T'.heap q ce (by rw [e1]; exact hz) (fun z h => by rw [e1]; exact hk z h (fun h => h)) (by rw [e1]; exact hce) hcv hcl T' rfl X'
    exact ⟨t2, st.trans a1, b1⟩
/-- a thrown exception leaves a method that has written nothing -/
theorem tx_out {E : String} {pc : Nat} {ls : Array Slot} {rest : List Value} (hEx : ∀ x ∈ c.exceptionTable.toList, False) (hlocks : meth.locks = false) {H1 : Heap} {q : Addr} {ce : Cell} (h1 : s.heap.size ≤ H1.size) (h2 : ∀ z : Nat, z < s.heap.size → H1[z]? = s.heap[z]?) (h3 : H1[q]? = some ce) (h4 : ce.vm = .none) (h5 : s.vm.findClass E = some ce.cls) (hc : cells ≤ 1) (hs : slots ≤ 6) :
    vx_W p l e R s m args below meth c H1 [] cells slots (vx_MQ below tx_N (tx_X E) args s 1 6 (fun _ => False)) (F0 m pc ls rest) q :=
  vx_out (E := E) (fun x hx => (hEx x hx).elim) hlocks h3 h4 h5 (fun t ht _ => ⟨rfl, by rw [ht]; exact h1, fun z hz _ => by rw [ht]; exact h2 z hz⟩) (fun z hz => by cases hz) hc hs
theorem rf_call {r : Value} {a : Array Value} {pc : Nat} {ls : Array Slot} {st0 rest : List Value} (hr : CallRun p l e R s m args below meth c H locs cells slots 0 0 (F0 m pc ls st0) rest (k2_QcV r a) (fun _ => False)) (kk : W p l e R s m args below meth c H locs cells slots Q (F0 m (pc + 3) ls (r :: rest))) : W p l e R s m args below meth c H locs cells slots Q (F0 m pc ls st0) := W.callV hr kk
end TXC
theorem tu_fo4 {fo c : Int32} (h : vp_in fo 8) (hc : vp_in c 4) : vp_in (fo * 4 + c) 32 := by
  obtain ⟨a, ha, rfl⟩ := vp_in_of h (by decide)
  obtain ⟨b, hb, rfl⟩ := vp_in_of hc (by decide)
  have e : nI a * 4 + nI b = nI (a * 4 + b) := by
    rw [show (4 : Int32) = nI 4 from rfl, pk_mul, nI_add]
  rw [e]
  exact vp_in_nI (by omega) (by decide)
theorem tb_use {t : Nat × Nat × Nat} {A : Nat → Prop} {s : State} {H : Heap} {locs : List Loc} (hX : tb_T t A s s.heap) (hS : va_S A s.heap H locs) : tb_T t (fun _ => False) s H := (hX.kept hS.2.1).narrow (fun _ h => h.elim)
/-- a writer's start and end -/
def wr_P (D : va_G) (cl : List vw_C) (ws : va_W) (tys : List (ClassId × FieldType)) (sz : Nat) : State → Prop := fun U => U.heap.size = sz ∧ va_P D cl ws U.heap ∧ va_K D cl tys U ∧ va_D (fun _ => True) ws
theorem wr_blind {av : List Value} {D : va_G} {cl : List vw_C} {ws : va_W} {tys : List (ClassId × FieldType)} {sz : Nat} : FrameBlind (va_Pc av (wr_P D cl ws tys sz)) := fun a U g mk q => ⟨q.1, q.2.1, q.2.2.1, va_K.moved (u := U) (U := U.calling g mk a) (Vm.Alike.refl U.vm) q.2.2.2.1, q.2.2.2.2⟩
theorem wr_use {s : State} {H : Heap} {D : va_G} {cl : List vw_C} {ws : va_W} {tys : List (ClassId × FieldType)} {A : Nat → Prop} (hP : va_P D cl ws H) (hK : va_K D cl tys s) (hD : va_D A ws) : ∀ U : State, U.heap = H → s.WarmedH U.vm → wr_P D cl ws tys H.size U := fun U hU hW => ⟨by rw [hU], by rw [hU]; exact hP, va_K.moved hW.alike hK, hD.weaken (fun _ _ _ _ => trivial)⟩
/-- .. with the tables -/
def wt_P (D : va_G) (cl : List vw_C) (ws : va_W) (tys : List (ClassId × FieldType)) (sz : Nat) (t : Nat × Nat × Nat) : State → Prop := fun U => U.heap.size = sz ∧ va_P D cl ws U.heap ∧ va_K D cl tys U ∧ va_D (fun _ => True) ws ∧ tb_T t (va_A ws sz) U U.heap
theorem wt_blind {av : List Value} {D : va_G} {cl : List vw_C} {ws : va_W} {tys : List (ClassId × FieldType)} {sz : Nat} {t : Nat × Nat × Nat} : FrameBlind (va_Pc av (wt_P D cl ws tys sz t)) := fun a U g mk q => ⟨q.1, q.2.1, q.2.2.1, va_K.moved (u := U) (U := U.calling g mk a) (Vm.Alike.refl U.vm) q.2.2.2.1, q.2.2.2.2.1, tb_T.moved (u := U) (U := U.calling g mk a) (Vm.Alike.refl U.vm) q.2.2.2.2.2⟩
theorem wt_use {s : State} {H0 H : Heap} {D : va_G} {cl : List vw_C} {ws : va_W} {tys : List (ClassId × FieldType)} {A : Nat → Prop} {t : Nat × Nat × Nat} {locs : List Loc} (hP : va_P D cl ws H) (hK : va_K D cl tys s) (hD : va_D A ws) (hX : tb_T t A s H0) (hS : va_S A H0 H locs) (hF : ∀ q, va_A ws H.size q → A q) : ∀ U : State, U.heap = H → s.WarmedH U.vm → wt_P D cl ws tys H.size t U := fun U hU hW => ⟨by rw [hU], by rw [hU]; exact hP, va_K.moved hW.alike hK, hD.weaken (fun _ _ _ _ => trivial), by rw [hU]; exact tb_T.moved hW.alike ((hX.kept hS.2.1).narrow hF)⟩
def wr_B (D : va_G) (cl : List vw_C) (ws : va_W) (tys : List (ClassId × FieldType)) (A : Nat → Prop) : Unit → State → Prop := fun _ t => va_P D cl ws t.heap ∧ va_K D cl tys t ∧ va_D A ws
end
section
theorem tw_1 : (Cond.initialized "TextureUnits") ∈ TW := tw_t1 1 (by decide +kernel) (by decide +kernel)
theorem tw_10 : (Cond.initialized "java/lang/Math") ∈ TW := tw_t1 10 (by decide +kernel) (by decide +kernel)
theorem tw_2 : (Cond.initialized "TextureUnits$Unit") ∈ TW := tw_t1 2 (by decide +kernel) (by decide +kernel)
theorem tw_242 : (Cond.methodLink "TextureUnits" 95 ⟨"TextureUnits", "stored", "(LTextureUnits$Unit;IIII)I"⟩) ∈ TW := tw_t2 2 (by decide +kernel) (by decide +kernel)
theorem tw_244 : (Cond.instanceMethod ⟨"TextureUnits", "stored", "(LTextureUnits$Unit;IIII)I"⟩) ∈ TW := tw_t2 4 (by decide +kernel) (by decide +kernel)
theorem tw_245 : (Cond.code ⟨"TextureUnits", "stored", "(LTextureUnits$Unit;IIII)I"⟩ prog_1_method_15_code 12 (.some .int)) ∈ TW := tw_t2 5 (by decide +kernel) (by decide +kernel)
theorem tw_246 : (Cond.fieldLink "TextureUnits" 140 "TextureUnits" "CHANNEL_BITS" "[I") ∈ TW := tw_t2 6 (by decide +kernel) (by decide +kernel)
theorem tw_248 : (Cond.constant "TextureUnits" 143 (65536 : Int32)) ∈ TW := tw_t2 8 (by decide +kernel) (by decide +kernel)
theorem tw_249 : (Cond.methodLink "TextureUnits" 144 ⟨"TextureUnits$Unit", "numberOf", "(III)I"⟩) ∈ TW := tw_t2 9 (by decide +kernel) (by decide +kernel)
theorem tw_250 : (Cond.instanceMethod ⟨"TextureUnits$Unit", "numberOf", "(III)I"⟩) ∈ TW := tw_t2 10 (by decide +kernel) (by decide +kernel)
theorem tw_251 : (Cond.selects "TextureUnits$Unit" ⟨"TextureUnits$Unit", "numberOf", "(III)I"⟩ ⟨"TextureUnits$Unit", "numberOf", "(III)I"⟩) ∈ TW := tw_t2 11 (by decide +kernel) (by decide +kernel)
theorem tw_252 : (Cond.code ⟨"TextureUnits$Unit", "numberOf", "(III)I"⟩ prog_2_method_5_code 4 (.some .int)) ∈ TW := tw_t2 12 (by decide +kernel) (by decide +kernel)
theorem tw_253 : (Cond.fieldLink "TextureUnits" 147 "TextureUnits" "TEXEL_BITS" "[I") ∈ TW := tw_t2 13 (by decide +kernel) (by decide +kernel)
theorem tw_255 : (Cond.constantLong "TextureUnits" 150 (31 : Int64)) ∈ TW := tw_t2 15 (by decide +kernel) (by decide +kernel)
theorem tw_256 : (Cond.fieldLink "TextureUnits" 152 "TextureUnits" "CHANNEL_START" "[I") ∈ TW := tw_t2 16 (by decide +kernel) (by decide +kernel)
theorem tw_258 : (Cond.methodLink "TextureUnits" 155 ⟨"TextureUnits", "wordAt", "(J)I"⟩) ∈ TW := tw_t2 18 (by decide +kernel) (by decide +kernel)
theorem tw_260 : (Cond.instanceMethod ⟨"TextureUnits", "wordAt", "(J)I"⟩) ∈ TW := tw_t2 20 (by decide +kernel) (by decide +kernel)
theorem tw_261 : (Cond.code ⟨"TextureUnits", "wordAt", "(J)I"⟩ prog_1_method_16_code 3 (.some .int)) ∈ TW := tw_t2 21 (by decide +kernel) (by decide +kernel)
theorem tw_262 : (Cond.constantLong "TextureUnits" 158 (2048 : Int64)) ∈ TW := tw_t2 22 (by decide +kernel) (by decide +kernel)
theorem tw_277 : (Cond.methodLink "TextureUnits" 102 ⟨"TextureUnits", "cut", "(III)I"⟩) ∈ TW := tw_t2 37 (by decide +kernel) (by decide +kernel)
theorem tw_278 : (Cond.static ⟨"TextureUnits", "cut", "(III)I"⟩) ∈ TW := tw_t2 38 (by decide +kernel) (by decide +kernel)
theorem tw_279 : (Cond.code ⟨"TextureUnits", "cut", "(III)I"⟩ prog_1_method_22_code 3 (.some .int)) ∈ TW := tw_t2 39 (by decide +kernel) (by decide +kernel)
theorem tw_280 : (Cond.methodLink "TextureUnits" 166 ⟨"java/lang/Math", "min", "(II)I"⟩) ∈ TW := tw_t2 40 (by decide +kernel) (by decide +kernel)
theorem tw_281 : (Cond.static ⟨"java/lang/Math", "min", "(II)I"⟩) ∈ TW := tw_t2 41 (by decide +kernel) (by decide +kernel)
theorem tw_282 : (Cond.code ⟨"java/lang/Math", "min", "(II)I"⟩ prog_8_method_69_code 2 (.some .int)) ∈ TW := tw_t2 42 (by decide +kernel) (by decide +kernel)
theorem tw_283 : (Cond.methodLink "TextureUnits" 171 ⟨"java/lang/Math", "max", "(II)I"⟩) ∈ TW := tw_t2 43 (by decide +kernel) (by decide +kernel)
theorem tw_284 : (Cond.static ⟨"java/lang/Math", "max", "(II)I"⟩) ∈ TW := tw_t2 44 (by decide +kernel) (by decide +kernel)
theorem tw_285 : (Cond.code ⟨"java/lang/Math", "max", "(II)I"⟩ prog_8_method_65_code 2 (.some .int)) ∈ TW := tw_t2 45 (by decide +kernel) (by decide +kernel)
theorem tw_30 : (Cond.methodLink "TextureUnits$Unit" 32 ⟨"TextureUnits$Unit", "width", "(I)I"⟩) ∈ TW := tw_t1 30 (by decide +kernel) (by decide +kernel)
theorem tw_301 : (Cond.methodLink "TextureUnits" 160 ⟨"TextureUnits", "mirrored", "(II)I"⟩) ∈ TW := tw_t2 61 (by decide +kernel) (by decide +kernel)
theorem tw_302 : (Cond.static ⟨"TextureUnits", "mirrored", "(II)I"⟩) ∈ TW := tw_t2 62 (by decide +kernel) (by decide +kernel)
theorem tw_303 : (Cond.code ⟨"TextureUnits", "mirrored", "(II)I"⟩ prog_1_method_18_code 3 (.some .int)) ∈ TW := tw_t2 63 (by decide +kernel) (by decide +kernel)
theorem tw_307 : (Cond.constantLong "TextureUnits" 164 (65535 : Int64)) ∈ TW := tw_t2 67 (by decide +kernel) (by decide +kernel)
theorem tw_31 : (Cond.instanceMethod ⟨"TextureUnits$Unit", "width", "(I)I"⟩) ∈ TW := tw_t1 31 (by decide +kernel) (by decide +kernel)
theorem tw_32 : (Cond.selects "TextureUnits$Unit" ⟨"TextureUnits$Unit", "width", "(I)I"⟩ ⟨"TextureUnits$Unit", "width", "(I)I"⟩) ∈ TW := tw_t1 32 (by decide +kernel) (by decide +kernel)
theorem tw_33 : (Cond.code ⟨"TextureUnits$Unit", "width", "(I)I"⟩ prog_2_method_3_code 2 (.some .int)) ∈ TW := tw_t1 33 (by decide +kernel) (by decide +kernel)
theorem tw_38 : (Cond.fieldLink "TextureUnits" 52 "TextureUnits$Unit" "from" "I") ∈ TW := tw_t1 38 (by decide +kernel) (by decide +kernel)
theorem tw_39 : (Cond.fieldLink "TextureUnits" 56 "TextureUnits$Unit" "format" "I") ∈ TW := tw_t1 39 (by decide +kernel) (by decide +kernel)
theorem tw_40 : (Cond.fieldLink "TextureUnits$Unit" 22 "TextureUnits$Unit" "logWidth" "I") ∈ TW := tw_t1 40 (by decide +kernel) (by decide +kernel)
theorem tw_41 : (Cond.fieldLink "TextureUnits$Unit" 26 "TextureUnits$Unit" "logHeight" "I") ∈ TW := tw_t1 41 (by decide +kernel) (by decide +kernel)
theorem tw_48 : (Cond.fieldLink "TextureUnits" 76 "TextureUnits$Unit" "borderColour" "[I") ∈ TW := tw_t1 48 (by decide +kernel) (by decide +kernel)
theorem tw_49 : (Cond.fieldLink "TextureUnits$Unit" 15 "TextureUnits$Unit" "starts" "[I") ∈ TW := tw_t1 49 (by decide +kernel) (by decide +kernel)
theorem tw_73 : (Cond.fieldLink "TextureUnits" 9 "TextureUnits" "words" "[I") ∈ TW := tw_t1 73 (by decide +kernel) (by decide +kernel)
theorem tw_94 : (Cond.methodLink "TextureUnits" 26 ⟨"TextureUnits", "within", "(III)Z"⟩) ∈ TW := tw_t1 94 (by decide +kernel) (by decide +kernel)
theorem tw_95 : (Cond.static ⟨"TextureUnits", "within", "(III)Z"⟩) ∈ TW := tw_t1 95 (by decide +kernel) (by decide +kernel)
theorem tw_96 : (Cond.code ⟨"TextureUnits", "within", "(III)Z"⟩ prog_1_method_23_code 3 (.some .boolean)) ∈ TW := tw_t1 96 (by decide +kernel) (by decide +kernel)
theorem tw_p2 : (Cond.selects "TextureUnits" ⟨"TextureUnits", "stored", "(LTextureUnits$Unit;IIII)I"⟩ ⟨"TextureUnits", "stored", "(LTextureUnits$Unit;IIII)I"⟩) ∈ TW := tw_t0 2 (by decide +kernel) (by decide +kernel)
theorem tw_p3 : (Cond.selects "TextureUnits" ⟨"TextureUnits", "wordAt", "(J)I"⟩ ⟨"TextureUnits", "wordAt", "(J)I"⟩) ∈ TW := tw_t0 3 (by decide +kernel) (by decide +kernel)
set_option maxHeartbeats 4000000 in
set_option maxRecDepth 100000 in
theorem r_within (l : Launch) (p0 : Int32) (p1 : Int32) (p2 : Int32) : Met l yX1_within wsX1_within ({ frames := 0, cells := 0, slots := 0, locals := 0 }) (fun v _ => v = ([.int p0, .int p1, .int p2] : List Value).toArray) (QcRead (tu_win p0 p1 p2)) 0 0 (fun _ => False) := by
  refine Met.ofW (cc := cX1_within) (maxL := 3) (ret := some .boolean) (by decide) rfl ?_
  intro p e s m args below meth c s₁ B hml hv
  subst hv
  have hx := B.exec
  have hb := B.bytes
  have hr := B.returns
  have hts := atoms_spec (ws := wsX1_within) B.pre
  have hown : s.vm.findClass "TextureUnits" = some m.cls := findClass_of_methodNamed B.named
  have hlocks := B.notSynchronized
  have hl := lv_entry ([.int p0, .int p1, .int p2]) (n := 3) (Nat.le_of_ble_eq_true rfl)
  rw [lg_entry_eq]
  generalize (lg_sl ([.int p0, .int p1, .int p2]) ++ List.replicate (3 - (lg_sl ([.int p0, .int p1, .int p2])).length) Slot.unset).toArray = ls at hl ⊢
  have hl : lv_has ls 3 [(0, .int p0), (1, .int p1), (2, .int p2)] := hl
  refine lv_iload_n hx hb dX1_within_0 rfl (lv_at hl 0 rfl) ?_
  refine lv_iload_n hx hb dX1_within_1 rfl (lv_at hl 1 rfl) ?_
  refine lv_icmp_lt (tgt := 14) hx hb dX1_within_2 (by decide) (fun c_1 => ?_) (fun c_1 => ?_)
  · refine lv_iconst (v := 0) hx hb dX1_within_14 (by decide) ?_
    exact W.zret (ty := .boolean) (v := 0) hx hb hr rfl (fun t ht hW => rd_q (by simp only [tu_win, if_pos c_1]) ht) (fun q h => by cases h) dX1_within_15
  · refine lv_iload_n hx hb dX1_within_5 rfl (lv_at hl 0 rfl) ?_
    refine lv_iload_n hx hb dX1_within_6 rfl (lv_at hl 2 rfl) ?_
    refine lv_icmp_gt (tgt := 14) hx hb dX1_within_7 (by decide) (fun c_2 => ?_) (fun c_2 => ?_)
    · refine lv_iconst (v := 0) hx hb dX1_within_14 (by decide) ?_
      exact W.zret (ty := .boolean) (v := 0) hx hb hr rfl (fun t ht hW => rd_q (by simp only [tu_win, if_neg c_1, if_pos c_2]) ht) (fun q h => by cases h) dX1_within_15
    · refine lv_iconst (v := 1) hx hb dX1_within_10 (by decide) ?_
      refine lv_goto (tgt := 15) hx hb dX1_within_11 (by decide) ?_
      exact W.zret (ty := .boolean) (v := 1) hx hb hr rfl (fun t ht hW => rd_q (by simp only [tu_win, if_neg c_1, if_neg c_2]) ht) (fun q h => by cases h) dX1_within_15
set_option maxHeartbeats 4000000 in
set_option maxRecDepth 100000 in
theorem r_cut (l : Launch) (p0 : Int32) (p1 : Int32) (p2 : Int32) : Met l yX1_cut wsX1_cut ({ frames := 1, cells := 0, slots := 0, locals := 14 }) (fun v _ => v = ([.int p0, .int p1, .int p2] : List Value).toArray) (QcRead (tu_cut p0 p1 p2)) 0 0 (fun _ => False) := by
  refine Met.ofW (cc := cX1_cut) (maxL := 3) (ret := some .int) (by decide) rfl ?_
  intro p e s m args below meth c s₁ B hml hv
  subst hv
  have hx := B.exec
  have hb := B.bytes
  have hr := B.returns
  have hts := atoms_spec (ws := wsX1_cut) B.pre
  have hown : s.vm.findClass "TextureUnits" = some m.cls := findClass_of_methodNamed B.named
  have hlocks := B.notSynchronized
  have hl := lv_entry ([.int p0, .int p1, .int p2]) (n := 3) (Nat.le_of_ble_eq_true rfl)
  rw [lg_entry_eq]
  generalize (lg_sl ([.int p0, .int p1, .int p2]) ++ List.replicate (3 - (lg_sl ([.int p0, .int p1, .int p2])).length) Slot.unset).toArray = ls at hl ⊢
  have hl : lv_has ls 3 [(0, .int p0), (1, .int p1), (2, .int p2)] := hl
  refine lv_iload_n hx hb dX1_cut_0 rfl (lv_at hl 1 rfl) ?_
  refine lv_iload_n hx hb dX1_cut_1 rfl (lv_at hl 2 rfl) ?_
  refine lv_iload_n hx hb dX1_cut_2 rfl (lv_at hl 0 rfl) ?_
  refine va_mmin hx hb (hml.trans hl.1.symm) hown (hts _ (tw_c tw_280)) (hts _ (tw_c tw_281)) (hts _ (tw_c tw_10)) (hts _ (tw_c tw_282)) (Nat.le_of_ble_eq_true rfl) (Nat.le_of_ble_eq_true rfl) (Nat.le_of_ble_eq_true rfl) (Nat.le_of_ble_eq_true rfl) dX1_cut_3 ?_
  refine va_mmax hx hb (hml.trans hl.1.symm) hown (hts _ (tw_c tw_283)) (hts _ (tw_c tw_284)) (hts _ (tw_c tw_10)) (hts _ (tw_c tw_285)) (Nat.le_of_ble_eq_true rfl) (Nat.le_of_ble_eq_true rfl) (Nat.le_of_ble_eq_true rfl) (Nat.le_of_ble_eq_true rfl) dX1_cut_6 ?_
  exact W.iret (v := (if p1 < (if p0 < p2 then p0 else p2) then (if p0 < p2 then p0 else p2) else p1)) hx hb hr (fun t ht hW => rd_q (by simp only [tu_cut]) ht) (fun q h => by cases h) dX1_cut_9
set_option maxHeartbeats 4000000 in
set_option maxRecDepth 100000 in
theorem r_mirrored (l : Launch) (p0 : Int32) (p1 : Int32) : Met l yX1_mirrored wsX1_mirrored ({ frames := 0, cells := 0, slots := 0, locals := 0 }) (fun v _ => v = ([.int p0, .int p1] : List Value).toArray) (QcRead (tu_mir p0 p1)) 0 0 (fun _ => False) := by
  refine Met.ofW (cc := cX1_mirrored) (maxL := 3) (ret := some .int) (by decide) rfl ?_
  intro p e s m args below meth c s₁ B hml hv
  subst hv
  have hx := B.exec
  have hb := B.bytes
  have hr := B.returns
  have hts := atoms_spec (ws := wsX1_mirrored) B.pre
  have hown : s.vm.findClass "TextureUnits" = some m.cls := findClass_of_methodNamed B.named
  have hlocks := B.notSynchronized
  have hl := lv_entry ([.int p0, .int p1]) (n := 3) (Nat.le_of_ble_eq_true rfl)
  rw [lg_entry_eq]
  generalize (lg_sl ([.int p0, .int p1]) ++ List.replicate (3 - (lg_sl ([.int p0, .int p1])).length) Slot.unset).toArray = ls at hl ⊢
  have hl : lv_has ls 3 [(0, .int p0), (1, .int p1)] := hl
  refine lv_iload_n hx hb dX1_mirrored_0 rfl (lv_at hl 0 rfl) ?_
  refine lv_iconst (v := 2) hx hb dX1_mirrored_1 (by decide) ?_
  refine lv_iload_n hx hb dX1_mirrored_2 rfl (lv_at hl 1 rfl) ?_
  refine lv_imul hx hb dX1_mirrored_3 ?_
  refine lv_iconst (v := 1) hx hb dX1_mirrored_4 (by decide) ?_
  refine lv_isub hx hb dX1_mirrored_5 ?_
  refine lv_iand hx hb dX1_mirrored_6 ?_
  refine lv_istore_n (lv' := [(2, .int (p0 &&& (((2 : Int32) * p1) - (1 : Int32)))), (0, .int p0), (1, .int p1)]) hx hb dX1_mirrored_7 rfl hl (by decide) rfl (fun ls hl => ?_)
  refine lv_iload_n hx hb dX1_mirrored_8 rfl (lv_at hl 0 rfl) ?_
  refine lv_iload_n hx hb dX1_mirrored_9 rfl (lv_at hl 2 rfl) ?_
  refine lv_icmp_ge (tgt := 17) hx hb dX1_mirrored_10 (by decide) (fun c_1 => ?_) (fun c_1 => ?_)
  · refine lv_iconst (v := 2) hx hb dX1_mirrored_17 (by decide) ?_
    refine lv_iload_n hx hb dX1_mirrored_18 rfl (lv_at hl 2 rfl) ?_
    refine lv_imul hx hb dX1_mirrored_19 ?_
    refine lv_iconst (v := 1) hx hb dX1_mirrored_20 (by decide) ?_
    refine lv_isub hx hb dX1_mirrored_21 ?_
    refine lv_iload_n hx hb dX1_mirrored_22 rfl (lv_at hl 0 rfl) ?_
    refine lv_isub hx hb dX1_mirrored_23 ?_
    exact W.iret (v := ((((2 : Int32) * p1) - (1 : Int32)) - (p0 &&& (((2 : Int32) * p1) - (1 : Int32))))) hx hb hr (fun t ht hW => rd_q (by simp only [tu_mir, if_pos c_1]) ht) (fun q h => by cases h) dX1_mirrored_24
  · refine lv_iload_n hx hb dX1_mirrored_13 rfl (lv_at hl 0 rfl) ?_
    refine lv_goto (tgt := 24) hx hb dX1_mirrored_14 (by decide) ?_
    exact W.iret (v := (p0 &&& (((2 : Int32) * p1) - (1 : Int32)))) hx hb hr (fun t ht hW => rd_q (by simp only [tu_mir, if_neg c_1]) ht) (fun q h => by cases h) dX1_mirrored_24
set_option maxHeartbeats 4000000 in
set_option maxRecDepth 100000 in
theorem r_mix (l : Launch) (p0 : Int32) (p1 : Int32) (p2 : Int32) : Met l yX1_mix wsX1_mix ({ frames := 0, cells := 0, slots := 0, locals := 0 }) (fun v _ => v = ([.int p0, .int p1, .int p2] : List Value).toArray) (QcRead (tu_mix p0 p1 p2)) 0 0 (fun _ => False) := by
  refine Met.ofW (cc := cX1_mix) (maxL := 5) (ret := some .int) (by decide) rfl ?_
  intro p e s m args below meth c s₁ B hml hv
  subst hv
  have hx := B.exec
  have hb := B.bytes
  have hr := B.returns
  have hts := atoms_spec (ws := wsX1_mix) B.pre
  have hown : s.vm.findClass "TextureUnits" = some m.cls := findClass_of_methodNamed B.named
  have hlocks := B.notSynchronized
  have hl := lv_entry ([.int p0, .int p1, .int p2]) (n := 5) (Nat.le_of_ble_eq_true rfl)
  rw [lg_entry_eq]
  generalize (lg_sl ([.int p0, .int p1, .int p2]) ++ List.replicate (5 - (lg_sl ([.int p0, .int p1, .int p2])).length) Slot.unset).toArray = ls at hl ⊢
  have hl : lv_has ls 5 [(0, .int p0), (1, .int p1), (2, .int p2)] := hl
  refine lv_iload_n hx hb dX1_mix_0 rfl (lv_at hl 1 rfl) ?_
  refine lv_i2l hx hb dX1_mix_1 rfl ?_
  refine lv_iload_n hx hb dX1_mix_2 rfl (lv_at hl 0 rfl) ?_
  refine lv_i2l hx hb dX1_mix_3 rfl ?_
  refine lv_lsub hx hb dX1_mix_4 ?_
  refine lv_lstore_n (lv' := [(3, .long (((p1 : Int32).toInt64) - ((p0 : Int32).toInt64))), (0, .int p0), (1, .int p1), (2, .int p2)]) hx hb dX1_mix_5 rfl hl (by decide) rfl (fun ls hl => ?_)
  refine lv_iload_n hx hb dX1_mix_6 rfl (lv_at hl 1 rfl) ?_
  refine lv_i2l hx hb dX1_mix_7 rfl ?_
  refine lv_lload_n hx hb dX1_mix_8 rfl (lv_at hl 0 rfl) ?_
  refine lv_iload_n hx hb dX1_mix_9 rfl (lv_at hl 3 rfl) ?_
  refine lv_i2l hx hb dX1_mix_10 rfl ?_
  refine lv_lmul hx hb dX1_mix_11 ?_
  refine lv_bipush (v := 16) hx hb dX1_mix_12 (by decide) ?_
  refine lv_lshr hx hb dX1_mix_14 rfl ?_
  refine lv_ladd hx hb dX1_mix_15 ?_
  refine lv_l2i hx hb dX1_mix_16 rfl ?_
  exact W.iret (v := ((((p0 : Int32).toInt64) + (((((p1 : Int32).toInt64) - ((p0 : Int32).toInt64)) * ((p2 : Int32).toInt64)) >>> ((16 : Int32).toInt64 &&& 63))) : Int64).toInt32) hx hb hr (fun t ht hW => rd_q (by simp only [tu_mix]) ht) (fun q h => by cases h) dX1_mix_17
set_option maxHeartbeats 4000000 in
set_option maxRecDepth 100000 in
theorem r_whole (l : Launch) (p0 : Int64) : Met l yX1_whole wsX1_whole ({ frames := 0, cells := 0, slots := 0, locals := 0 }) (fun v _ => v = ([.long p0] : List Value).toArray) (QcRead (tu_whole p0)) 0 0 (fun _ => False) := by
  refine Met.ofW (cc := cX1_whole) (maxL := 2) (ret := some .int) (by decide) rfl ?_
  intro p e s m args below meth c s₁ B hml hv
  subst hv
  have hx := B.exec
  have hb := B.bytes
  have hr := B.returns
  have hts := atoms_spec (ws := wsX1_whole) B.pre
  have hown : s.vm.findClass "TextureUnits" = some m.cls := findClass_of_methodNamed B.named
  have hlocks := B.notSynchronized
  have hl := lv_entry ([.long p0]) (n := 2) (Nat.le_of_ble_eq_true rfl)
  rw [lg_entry_eq]
  generalize (lg_sl ([.long p0]) ++ List.replicate (2 - (lg_sl ([.long p0])).length) Slot.unset).toArray = ls at hl ⊢
  have hl : lv_has ls 2 [(0, .long p0)] := hl
  refine lv_lload_n hx hb dX1_whole_0 rfl (lv_at hl 0 rfl) ?_
  refine lv_bipush (v := 16) hx hb dX1_whole_1 (by decide) ?_
  refine lv_lshr hx hb dX1_whole_3 rfl ?_
  refine lv_l2i hx hb dX1_whole_4 rfl ?_
  exact W.iret (v := ((p0 >>> ((16 : Int32).toInt64 &&& 63)) : Int64).toInt32) hx hb hr (fun t ht hW => rd_q (by simp only [tu_whole]) ht) (fun q h => by cases h) dX1_whole_5
set_option maxHeartbeats 4000000 in
set_option maxRecDepth 100000 in
theorem r_rest (l : Launch) (p0 : Int64) : Met l yX1_rest wsX1_rest ({ frames := 0, cells := 0, slots := 0, locals := 0 }) (fun v _ => v = ([.long p0] : List Value).toArray) (QcRead (tu_rest p0)) 0 0 (fun _ => False) := by
  refine Met.ofW (cc := cX1_rest) (maxL := 2) (ret := some .int) (by decide) rfl ?_
  intro p e s m args below meth c s₁ B hml hv
  subst hv
  have hx := B.exec
  have hb := B.bytes
  have hr := B.returns
  have hts := atoms_spec (ws := wsX1_rest) B.pre
  have hown : s.vm.findClass "TextureUnits" = some m.cls := findClass_of_methodNamed B.named
  have hlocks := B.notSynchronized
  have hl := lv_entry ([.long p0]) (n := 2) (Nat.le_of_ble_eq_true rfl)
  rw [lg_entry_eq]
  generalize (lg_sl ([.long p0]) ++ List.replicate (2 - (lg_sl ([.long p0])).length) Slot.unset).toArray = ls at hl ⊢
  have hl : lv_has ls 2 [(0, .long p0)] := hl
  refine lv_lload_n hx hb dX1_rest_0 rfl (lv_at hl 0 rfl) ?_
  refine lv_ldc2 (v := 65535) hx hb hown (hts _ (tw_c tw_307)) dX1_rest_1 ?_
  refine lv_land hx hb dX1_rest_4 ?_
  refine lv_l2i hx hb dX1_rest_5 rfl ?_
  exact W.iret (v := ((p0 &&& (65535 : Int64)) : Int64).toInt32) hx hb hr (fun t ht hW => rd_q (by simp only [tu_rest]) ht) (fun q h => by cases h) dX1_rest_6
set_option maxHeartbeats 4000000 in
set_option maxRecDepth 100000 in
theorem r_wrapped (l : Launch) (p0 : Int32) (p1 : Int32) (p2 : Int32) : Met l yX1_wrapped wsX1_wrapped ({ frames := 2, cells := 0, slots := 0, locals := 36 }) (fun v _ => v = ([.int p0, .int p1, .int p2] : List Value).toArray) (QcRead (tu_wrap p0 p1 p2)) 0 0 (fun _ => False) := by
  refine Met.ofW (cc := cX1_wrapped) (maxL := 3) (ret := some .int) (by decide) rfl ?_
  intro p e s m args below meth c s₁ B hml hv
  subst hv
  have hx := B.exec
  have hb := B.bytes
  have hr := B.returns
  have hts := atoms_spec (ws := wsX1_wrapped) B.pre
  have hown : s.vm.findClass "TextureUnits" = some m.cls := findClass_of_methodNamed B.named
  have hlocks := B.notSynchronized
  have hl := lv_entry ([.int p0, .int p1, .int p2]) (n := 3) (Nat.le_of_ble_eq_true rfl)
  rw [lg_entry_eq]
  generalize (lg_sl ([.int p0, .int p1, .int p2]) ++ List.replicate (3 - (lg_sl ([.int p0, .int p1, .int p2])).length) Slot.unset).toArray = ls at hl ⊢
  have hl : lv_has ls 3 [(0, .int p0), (1, .int p1), (2, .int p2)] := hl
  refine lv_iload_n hx hb dX1_wrapped_0 rfl (lv_at hl 0 rfl) ?_
  by_cases c_1 : p0 = 0
  · refine lv_tableIn (off := 27) (tgt := 28) hx hb dX1_wrapped_1 (by rw [c_1]; decide) (by rw [c_1]; decide) (by rw [c_1]; rfl) (by decide) ?_
    refine lv_iload_n hx hb dX1_wrapped_28 rfl (lv_at hl 1 rfl) ?_
    refine lv_iload_n hx hb dX1_wrapped_29 rfl (lv_at hl 2 rfl) ?_
    refine lv_iconst (v := 1) hx hb dX1_wrapped_30 (by decide) ?_
    refine lv_isub hx hb dX1_wrapped_31 ?_
    refine lv_iand hx hb dX1_wrapped_32 ?_
    exact W.iret (v := (p1 &&& (p2 - (1 : Int32)))) hx hb hr (fun t ht hW => rd_q (by simp only [tu_wrap, if_pos c_1]) ht) (fun q h => by cases h) dX1_wrapped_33
  by_cases c_2 : p0 = 1
  · refine lv_tableIn (off := 33) (tgt := 34) hx hb dX1_wrapped_1 (by rw [c_2]; decide) (by rw [c_2]; decide) (by rw [c_2]; rfl) (by decide) ?_
    refine lv_iload_n hx hb dX1_wrapped_34 rfl (lv_at hl 1 rfl) ?_
    refine lv_iconst (v := 0) hx hb dX1_wrapped_35 (by decide) ?_
    refine lv_iload_n hx hb dX1_wrapped_36 rfl (lv_at hl 2 rfl) ?_
    refine lv_iconst (v := 1) hx hb dX1_wrapped_37 (by decide) ?_
    refine lv_isub hx hb dX1_wrapped_38 ?_
    refine rd_call (W.runS (As := [.int p1, .int 0, .int (p2 - (1 : Int32))]) (rest := []) ⟨hx, hb, hml, hown, hts⟩ (r_cut l p1 0 (p2 - (1 : Int32))) (va_cwS 3 hts (tg_S tw_277 tw_278 tw_1 tw_279) rfl rfl rfl (by decide +kernel) ⟨Nat.le_of_ble_eq_true rfl, Nat.le_of_ble_eq_true rfl⟩) preEq rfl rfl hl.1 rfl (lv_room (Nat.le_of_ble_eq_true rfl)) dX1_wrapped_39 ⟨Nat.le_of_ble_eq_true rfl, Nat.le_of_ble_eq_true rfl⟩) ?_
    exact W.iret (v := (tu_cut p1 0 (p2 - (1 : Int32)))) hx hb hr (fun t ht hW => rd_q (by simp only [tu_wrap, if_neg c_1, if_pos c_2]) ht) (fun q h => by cases h) dX1_wrapped_42
  by_cases c_3 : p0 = 2
  · refine lv_tableIn (off := 42) (tgt := 43) hx hb dX1_wrapped_1 (by rw [c_3]; decide) (by rw [c_3]; decide) (by rw [c_3]; rfl) (by decide) ?_
    refine lv_iload_n hx hb dX1_wrapped_43 rfl (lv_at hl 1 rfl) ?_
    refine lv_iload_n hx hb dX1_wrapped_44 rfl (lv_at hl 2 rfl) ?_
    refine rd_call (W.runS (As := [.int p1, .int p2]) (rest := []) ⟨hx, hb, hml, hown, hts⟩ (r_mirrored l p1 p2) (va_cwS 2 hts (tg_S tw_301 tw_302 tw_1 tw_303) rfl rfl rfl (by decide +kernel) ⟨Nat.le_of_ble_eq_true rfl, Nat.le_of_ble_eq_true rfl⟩) preEq rfl rfl hl.1 rfl (lv_room (Nat.le_of_ble_eq_true rfl)) dX1_wrapped_45 ⟨Nat.le_of_ble_eq_true rfl, Nat.le_of_ble_eq_true rfl⟩) ?_
    exact W.iret (v := (tu_mir p1 p2)) hx hb hr (fun t ht hW => rd_q (by simp only [tu_wrap, if_neg c_1, if_neg c_2, if_pos c_3]) ht) (fun q h => by cases h) dX1_wrapped_48
  have a0 : p0.toInt ≠ 0 := tu_ne c_1
  have a1 : p0.toInt ≠ 1 := tu_ne c_2
  have a2 : p0.toInt ≠ 2 := tu_ne c_3
  refine lv_tableOut (tgt := 49) hx hb dX1_wrapped_1 (by omega) (by decide) ?_
  refine lv_iload_n hx hb dX1_wrapped_49 rfl (lv_at hl 1 rfl) ?_
  refine lv_iconst (v := 0) hx hb dX1_wrapped_50 (by decide) ?_
  refine lv_iload_n hx hb dX1_wrapped_51 rfl (lv_at hl 2 rfl) ?_
  refine lv_iconst (v := 1) hx hb dX1_wrapped_52 (by decide) ?_
  refine lv_isub hx hb dX1_wrapped_53 ?_
  refine rd_call (W.runS (As := [.int p1, .int 0, .int (p2 - (1 : Int32))]) (rest := []) ⟨hx, hb, hml, hown, hts⟩ (r_within l p1 0 (p2 - (1 : Int32))) (va_cwS 3 hts (tg_S tw_94 tw_95 tw_1 tw_96) rfl rfl rfl (by decide +kernel) ⟨Nat.le_of_ble_eq_true rfl, Nat.le_of_ble_eq_true rfl⟩) preEq rfl rfl hl.1 rfl (lv_room (Nat.le_of_ble_eq_true rfl)) dX1_wrapped_54 ⟨Nat.le_of_ble_eq_true rfl, Nat.le_of_ble_eq_true rfl⟩) ?_
  refine lv_if_eq (tgt := 64) hx hb dX1_wrapped_57 (by decide) (fun c_4 => ?_) (fun c_4 => ?_)
  · refine lv_iconst (v := (-1)) hx hb dX1_wrapped_64 (by decide) ?_
    exact W.iret (v := (-1)) hx hb hr (fun t ht hW => rd_q (by simp only [tu_wrap, if_neg c_1, if_neg c_2, if_neg c_3, if_pos c_4]) ht) (fun q h => by cases h) dX1_wrapped_65
  · refine lv_iload_n hx hb dX1_wrapped_60 rfl (lv_at hl 1 rfl) ?_
    refine lv_goto (tgt := 65) hx hb dX1_wrapped_61 (by decide) ?_
    exact W.iret (v := p1) hx hb hr (fun t ht hW => rd_q (by simp only [tu_wrap, if_neg c_1, if_neg c_2, if_neg c_3, if_neg c_4]) ht) (fun q h => by cases h) dX1_wrapped_65
set_option maxHeartbeats 4000000 in
set_option maxRecDepth 100000 in
theorem r_width (l : Launch) (dC : Nat → ClassId) (dI : Nat → Nat → Nat) (u : Nat) (fr fo lw lh lv ac dn fi : Int32) (bc st : Nat) (p0 : Int32) : Met l yX0_width wsX0_width ({ frames := 0, cells := 0, slots := 0, locals := 0 }) (va_Pc [.ref u, .int p0] (rd_B (dC, dI) vwCl [(u, .inr (0, [.int fr, .int fo, .int lw, .int lh, .int lv, .int ac, .int dn, .int fi, .ref bc, .ref st]))] [])) (QcRead (tu_len lw p0)) 0 0 (fun _ => False) := by
  refine Met.ofW (cc := cX0_width) (maxL := 2) (ret := some .int) (by decide) rfl ?_
  intro p e s m args below meth c s₁ B hml hv
  obtain ⟨rfl, hP, hK⟩ := hv
  have hx := B.exec
  have hb := B.bytes
  have hr := B.returns
  have hts := atoms_spec (ws := wsX0_width) B.pre
  have hown : s.vm.findClass "TextureUnits$Unit" = some m.cls := findClass_of_methodNamed B.named
  have hlocks := B.notSynchronized
  have hl := lv_entry ([.ref u, .int p0]) (n := 2) (Nat.le_of_ble_eq_true rfl)
  rw [lg_entry_eq]
  generalize (lg_sl ([.ref u, .int p0]) ++ List.replicate (2 - (lg_sl ([.ref u, .int p0])).length) Slot.unset).toArray = ls at hl ⊢
  have hl : lv_has ls 2 [(0, .ref u), (1, .int p0)] := hl
  refine lv_iload_n hx hb dX0_width_0 rfl (lv_at hl 1 rfl) ?_
  refine lv_aload_n hx hb dX0_width_1 rfl (lv_at hl 0 rfl) ?_
  refine va_get (D := (dC, dI)) (ci := 0) (v := .int lw) (C := "TextureUnits$Unit") (T := TX0) (N := 10) hx hb hts (tw_s inX0) hown hK hP 0 rfl rfl 2 (by decide) (hts _ (tw_c tw_40)) (fun _ h9 => h9) rfl dX0_width_2 ?_
  refine lv_icmp_ge (tgt := 19) hx hb dX0_width_5 (by decide) (fun c_1 => ?_) (fun c_1 => ?_)
  · refine lv_iconst (v := 1) hx hb dX0_width_19 (by decide) ?_
    exact W.iret (v := 1) hx hb hr (fun t ht hW => rd_q (by simp only [tu_len, if_pos c_1]) ht) (fun q h => by cases h) dX0_width_20
  · refine lv_iconst (v := 1) hx hb dX0_width_8 (by decide) ?_
    refine lv_aload_n hx hb dX0_width_9 rfl (lv_at hl 0 rfl) ?_
    refine va_get (D := (dC, dI)) (ci := 0) (v := .int lw) (C := "TextureUnits$Unit") (T := TX0) (N := 10) hx hb hts (tw_s inX0) hown hK hP 0 rfl rfl 2 (by decide) (hts _ (tw_c tw_40)) (fun _ h9 => h9) rfl dX0_width_10 ?_
    refine lv_iload_n hx hb dX0_width_13 rfl (lv_at hl 1 rfl) ?_
    refine lv_isub hx hb dX0_width_14 ?_
    refine lv_ishl hx hb dX0_width_15 ?_
    refine lv_goto (tgt := 20) hx hb dX0_width_16 (by decide) ?_
    exact W.iret (v := ((1 : Int32) <<< ((lw - p0) &&& 31))) hx hb hr (fun t ht hW => rd_q (by simp only [tu_len, if_neg c_1]) ht) (fun q h => by cases h) dX0_width_20
set_option maxHeartbeats 4000000 in
set_option maxRecDepth 100000 in
theorem r_height (l : Launch) (dC : Nat → ClassId) (dI : Nat → Nat → Nat) (u : Nat) (fr fo lw lh lv ac dn fi : Int32) (bc st : Nat) (p0 : Int32) : Met l yX0_height wsX0_height ({ frames := 0, cells := 0, slots := 0, locals := 0 }) (va_Pc [.ref u, .int p0] (rd_B (dC, dI) vwCl [(u, .inr (0, [.int fr, .int fo, .int lw, .int lh, .int lv, .int ac, .int dn, .int fi, .ref bc, .ref st]))] [])) (QcRead (tu_len lh p0)) 0 0 (fun _ => False) := by
  refine Met.ofW (cc := cX0_height) (maxL := 2) (ret := some .int) (by decide) rfl ?_
  intro p e s m args below meth c s₁ B hml hv
  obtain ⟨rfl, hP, hK⟩ := hv
  have hx := B.exec
  have hb := B.bytes
  have hr := B.returns
  have hts := atoms_spec (ws := wsX0_height) B.pre
  have hown : s.vm.findClass "TextureUnits$Unit" = some m.cls := findClass_of_methodNamed B.named
  have hlocks := B.notSynchronized
  have hl := lv_entry ([.ref u, .int p0]) (n := 2) (Nat.le_of_ble_eq_true rfl)
  rw [lg_entry_eq]
  generalize (lg_sl ([.ref u, .int p0]) ++ List.replicate (2 - (lg_sl ([.ref u, .int p0])).length) Slot.unset).toArray = ls at hl ⊢
  have hl : lv_has ls 2 [(0, .ref u), (1, .int p0)] := hl
  refine lv_iload_n hx hb dX0_height_0 rfl (lv_at hl 1 rfl) ?_
  refine lv_aload_n hx hb dX0_height_1 rfl (lv_at hl 0 rfl) ?_
  refine va_get (D := (dC, dI)) (ci := 0) (v := .int lh) (C := "TextureUnits$Unit") (T := TX0) (N := 10) hx hb hts (tw_s inX0) hown hK hP 0 rfl rfl 3 (by decide) (hts _ (tw_c tw_41)) (fun _ h9 => h9) rfl dX0_height_2 ?_
  refine lv_icmp_ge (tgt := 19) hx hb dX0_height_5 (by decide) (fun c_1 => ?_) (fun c_1 => ?_)
  · refine lv_iconst (v := 1) hx hb dX0_height_19 (by decide) ?_
    exact W.iret (v := 1) hx hb hr (fun t ht hW => rd_q (by simp only [tu_len, if_pos c_1]) ht) (fun q h => by cases h) dX0_height_20
  · refine lv_iconst (v := 1) hx hb dX0_height_8 (by decide) ?_
    refine lv_aload_n hx hb dX0_height_9 rfl (lv_at hl 0 rfl) ?_
    refine va_get (D := (dC, dI)) (ci := 0) (v := .int lh) (C := "TextureUnits$Unit") (T := TX0) (N := 10) hx hb hts (tw_s inX0) hown hK hP 0 rfl rfl 3 (by decide) (hts _ (tw_c tw_41)) (fun _ h9 => h9) rfl dX0_height_10 ?_
    refine lv_iload_n hx hb dX0_height_13 rfl (lv_at hl 1 rfl) ?_
    refine lv_isub hx hb dX0_height_14 ?_
    refine lv_ishl hx hb dX0_height_15 ?_
    refine lv_goto (tgt := 20) hx hb dX0_height_16 (by decide) ?_
    exact W.iret (v := ((1 : Int32) <<< ((lh - p0) &&& 31))) hx hb hr (fun t ht hW => rd_q (by simp only [tu_len, if_neg c_1]) ht) (fun q h => by cases h) dX0_height_20
set_option maxHeartbeats 4000000 in
set_option maxRecDepth 100000 in
theorem r_numberOf (l : Launch) (dC : Nat → ClassId) (dI : Nat → Nat → Nat) (u : Nat) (fr fo lw lh lv ac dn fi : Int32) (bc st : Nat) (cI : ClassId) (sf : Nat → Int32) (p0 p1 p2 : Int32) (h0 : vp_in p0 12) : Met l yX0_numberOf wsX0_numberOf ({ frames := 1, cells := 0, slots := 0, locals := 21 }) (va_Pc [.ref u, .int p0, .int p1, .int p2] (rd_B (dC, dI) vwCl [(u, .inr (0, [.int fr, .int fo, .int lw, .int lh, .int lv, .int ac, .int dn, .int fi, .ref bc, .ref st])), (st, .inl (cI, 12, .inl sf))] [(cI, .int)])) (QcRead (tu_num sf lw p0 p1 p2)) 0 0 (fun _ => False) := by
  refine Met.ofW (cc := cX0_numberOf) (maxL := 4) (ret := some .int) (by decide) rfl ?_
  intro p e s m args below meth c s₁ B hml hv
  obtain ⟨rfl, hP, hK⟩ := hv
  have hx := B.exec
  have hb := B.bytes
  have hr := B.returns
  have hts := atoms_spec (ws := wsX0_numberOf) B.pre
  have hown : s.vm.findClass "TextureUnits$Unit" = some m.cls := findClass_of_methodNamed B.named
  have hlocks := B.notSynchronized
  have hl := lv_entry ([.ref u, .int p0, .int p1, .int p2]) (n := 4) (Nat.le_of_ble_eq_true rfl)
  rw [lg_entry_eq]
  generalize (lg_sl ([.ref u, .int p0, .int p1, .int p2]) ++ List.replicate (4 - (lg_sl ([.ref u, .int p0, .int p1, .int p2])).length) Slot.unset).toArray = ls at hl ⊢
  have hl : lv_has ls 4 [(0, .ref u), (1, .int p0), (2, .int p1), (3, .int p2)] := hl
  refine lv_aload_n hx hb dX0_numberOf_0 rfl (lv_at hl 0 rfl) ?_
  refine va_get (D := (dC, dI)) (ci := 0) (v := .ref st) (C := "TextureUnits$Unit") (T := TX0) (N := 10) hx hb hts (tw_s inX0) hown hK hP 0 rfl rfl 9 (by decide) (hts _ (tw_c tw_49)) (fun _ h9 => h9) rfl dX0_numberOf_1 ?_
  refine lv_iload_n hx hb dX0_numberOf_4 rfl (lv_at hl 1 rfl) ?_
  refine va_iald hx hb hK hP 1 0 rfl rfl h0 dX0_numberOf_5 ?_
  refine lv_iload_n hx hb dX0_numberOf_6 rfl (lv_at hl 3 rfl) ?_
  refine lv_aload_n hx hb dX0_numberOf_7 rfl (lv_at hl 0 rfl) ?_
  refine lv_iload_n hx hb dX0_numberOf_8 rfl (lv_at hl 1 rfl) ?_
  refine rd_call (W.runV (As := [.int p0]) (rest := [.int p2, .int (sf p0.toNatClampNeg)]) ⟨hx, hb, hml, hown, hts⟩ (r_width l dC dI u fr fo lw lh lv ac dn fi bc st p0) (cwV 1 hts (tg_V tw_30 tw_31 tw_32 tw_2 tw_33) rfl rfl rfl (by decide +kernel) ⟨Nat.le_of_ble_eq_true rfl, Nat.le_of_ble_eq_true rfl⟩) ⟨rd_blind, va_recv hK hP (ci := 0) (q0 := 0) rfl rfl, fun U hU hW => ⟨rfl, rd_use (hP.sub [0] rfl) (hK.sub [] rfl) U hU hW⟩⟩ rfl rfl hl.1 rfl (lv_room (Nat.le_of_ble_eq_true rfl)) dX0_numberOf_9 ⟨Nat.le_of_ble_eq_true rfl, Nat.le_of_ble_eq_true rfl⟩) ?_
  refine lv_imul hx hb dX0_numberOf_12 ?_
  refine lv_iadd hx hb dX0_numberOf_13 ?_
  refine lv_iload_n hx hb dX0_numberOf_14 rfl (lv_at hl 2 rfl) ?_
  refine lv_iadd hx hb dX0_numberOf_15 ?_
  exact W.iret (v := (((sf p0.toNatClampNeg) + (p2 * (tu_len lw p0))) + p1)) hx hb hr (fun t ht hW => rd_q (by simp only [tu_num]) ht) (fun q h => by cases h) dX0_numberOf_16
set_option maxHeartbeats 4000000 in
set_option maxRecDepth 100000 in
theorem r_wordAt (l : Launch) (dC : Nat → ClassId) (dI : Nat → Nat → Nat) (q wd us la nx : Nat) (cI : ClassId) (mem : Nat → Int32) (p0 : Int64) : Met l yX1_wordAt wsX1_wordAt ({ frames := 0, cells := 0, slots := 0, locals := 0 }) (va_Pc [.ref q, .long p0] (rd_B (dC, dI) vwCl [(q, .inr (1, [.ref wd, .ref us, .ref la, .ref nx])), (wd, .inl (cI, 2048, .inl mem))] [(cI, .int)])) (QcRead (tu_word mem p0)) 0 0 (fun _ => False) := by
  refine Met.ofW (cc := cX1_wordAt) (maxL := 3) (ret := some .int) (by decide) rfl ?_
  intro p e s m args below meth c s₁ B hml hv
  obtain ⟨rfl, hP, hK⟩ := hv
  have hx := B.exec
  have hb := B.bytes
  have hr := B.returns
  have hts := atoms_spec (ws := wsX1_wordAt) B.pre
  have hown : s.vm.findClass "TextureUnits" = some m.cls := findClass_of_methodNamed B.named
  have hlocks := B.notSynchronized
  have hl := lv_entry ([.ref q, .long p0]) (n := 3) (Nat.le_of_ble_eq_true rfl)
  rw [lg_entry_eq]
  generalize (lg_sl ([.ref q, .long p0]) ++ List.replicate (3 - (lg_sl ([.ref q, .long p0])).length) Slot.unset).toArray = ls at hl ⊢
  have hl : lv_has ls 3 [(0, .ref q), (1, .long p0)] := hl
  refine lv_lload_n hx hb dX1_wordAt_0 rfl (lv_at hl 1 rfl) ?_
  refine lv_lconst (v := 0) hx hb dX1_wordAt_1 (by decide) ?_
  refine W.lcmp hx hb dX1_wordAt_2 ?_
  refine lv_if_lt (tgt := 14) hx hb dX1_wordAt_3 (by decide) (fun c_1 => ?_) (fun c_1 => ?_)
  · refine lv_iconst (v := 0) hx hb dX1_wordAt_14 (by decide) ?_
    exact W.iret (v := 0) hx hb hr (fun t ht hW => rd_q (by simp only [tu_word, if_pos c_1]) ht) (fun q h => by cases h) dX1_wordAt_15
  · refine lv_lload_n hx hb dX1_wordAt_6 rfl (lv_at hl 1 rfl) ?_
    refine lv_ldc2 (v := 2048) hx hb hown (hts _ (tw_c tw_262)) dX1_wordAt_7 ?_
    refine W.lcmp hx hb dX1_wordAt_10 ?_
    refine lv_if_lt (tgt := 16) hx hb dX1_wordAt_11 (by decide) (fun c_2 => ?_) (fun c_2 => ?_)
    · refine lv_aload_n hx hb dX1_wordAt_16 rfl (lv_at hl 0 rfl) ?_
      refine va_get (D := (dC, dI)) (ci := 1) (v := .ref wd) (C := "TextureUnits") (T := TX1) (N := 4) hx hb hts (tw_s inX1) hown hK hP 0 rfl rfl 0 (by decide) (hts _ (tw_c tw_73)) (fun _ h9 => h9) rfl dX1_wordAt_17 ?_
      refine lv_lload_n hx hb dX1_wordAt_20 rfl (lv_at hl 1 rfl) ?_
      refine lv_l2i hx hb dX1_wordAt_21 rfl ?_
      refine va_iald hx hb hK hP 1 0 rfl rfl (tu_wordin c_1 c_2) dX1_wordAt_22 ?_
      exact W.iret (v := (mem (((p0 : Int64).toInt32).toNatClampNeg))) hx hb hr (fun t ht hW => rd_q (by simp only [tu_word, if_neg c_1, if_pos c_2]) ht) (fun q h => by cases h) dX1_wordAt_23
    · refine lv_iconst (v := 0) hx hb dX1_wordAt_14 (by decide) ?_
      exact W.iret (v := 0) hx hb hr (fun t ht hW => rd_q (by simp only [tu_word, if_neg c_1, if_neg c_2]) ht) (fun q h => by cases h) dX1_wordAt_15
set_option maxHeartbeats 4000000 in
set_option maxRecDepth 100000 in
theorem r_stored (l : Launch) (dC : Nat → ClassId) (dI : Nat → Nat → Nat) (q wd us la nx : Nat) (u : Nat) (fr fo lw lh lv ac dn fi : Int32) (bc st : Nat) (cI : ClassId) (mem sf : Nat → Int32) (tb : Nat × Nat × Nat) (p0 p1 p2 p3 : Int32) (h0 : vp_in p0 12) (h1 : vp_in fo 8) (h2 : vp_in (fo * 4 + p3) 32) : Met l yX1_stored wsX1_stored ({ frames := 2, cells := 0, slots := 0, locals := 44 }) (va_Pc [.ref q, .ref u, .int p0, .int p1, .int p2, .int p3] (rt_B (dC, dI) vwCl [(q, .inr (1, [.ref wd, .ref us, .ref la, .ref nx])), (u, .inr (0, [.int fr, .int fo, .int lw, .int lh, .int lv, .int ac, .int dn, .int fi, .ref bc, .ref st])), (wd, .inl (cI, 2048, .inl mem)), (st, .inl (cI, 12, .inl sf))] [(cI, .int)] tb)) (QcRead (tu_stored mem sf fr fo lw p0 p1 p2 p3)) 0 0 (fun _ => False) := by
  refine Met.ofW (cc := cX1_stored) (maxL := 12) (ret := some .int) (by decide) rfl ?_
  intro p e s m args below meth c s₁ B hml hv
  obtain ⟨rfl, hP, hK, hX⟩ := hv
  have hx := B.exec
  have hb := B.bytes
  have hr := B.returns
  have hts := atoms_spec (ws := wsX1_stored) B.pre
  have hown : s.vm.findClass "TextureUnits" = some m.cls := findClass_of_methodNamed B.named
  have hlocks := B.notSynchronized
  have hl := lv_entry ([.ref q, .ref u, .int p0, .int p1, .int p2, .int p3]) (n := 12) (Nat.le_of_ble_eq_true rfl)
  rw [lg_entry_eq]
  generalize (lg_sl ([.ref q, .ref u, .int p0, .int p1, .int p2, .int p3]) ++ List.replicate (12 - (lg_sl ([.ref q, .ref u, .int p0, .int p1, .int p2, .int p3])).length) Slot.unset).toArray = ls at hl ⊢
  have hl : lv_has ls 12 [(0, .ref q), (1, .ref u), (2, .int p0), (3, .int p1), (4, .int p2), (5, .int p3)] := hl
  refine lv_aload_n hx hb dX1_stored_0 rfl (lv_at hl 1 rfl) ?_
  refine va_get (D := (dC, dI)) (ci := 0) (v := .int fo) (C := "TextureUnits$Unit") (T := TX0) (N := 10) hx hb hts (tw_s inX0) hown hK hP 1 rfl rfl 1 (by decide) (hts _ (tw_c tw_39)) (fun _ h9 => h9) rfl dX1_stored_1 ?_
  refine lv_iconst (v := 4) hx hb dX1_stored_4 (by decide) ?_
  refine lv_imul hx hb dX1_stored_5 ?_
  refine lv_iload hx hb dX1_stored_6 (lv_at hl 5 rfl) ?_
  refine lv_iadd hx hb dX1_stored_8 ?_
  refine lv_istore (lv' := [(6, .int ((fo * (4 : Int32)) + p3)), (0, .ref q), (1, .ref u), (2, .int p0), (3, .int p1), (4, .int p2), (5, .int p3)]) hx hb dX1_stored_9 hl (by decide) rfl (fun ls hl => ?_)
  refine lv_iconst (v := 1) hx hb dX1_stored_11 (by decide) ?_
  refine va_gets (v := .ref tb.2.1) hx hb hX.2.1.1 va_S.rf hown (hts _ (tw_c tw_246)) (fun _ h9 => h9) dX1_stored_12 ?_
  refine lv_iload hx hb dX1_stored_15 (lv_at hl 0 rfl) ?_
  refine va_ti (v := .int (tu_CB (((fo * (4 : Int32)) + p3).toNatClampNeg))) hx hb hX.2.1.2 va_S.rf h2 rfl dX1_stored_17 ?_
  refine lv_ishl hx hb dX1_stored_18 ?_
  refine lv_iconst (v := 1) hx hb dX1_stored_19 (by decide) ?_
  refine lv_isub hx hb dX1_stored_20 ?_
  refine lv_istore (lv' := [(7, .int (((1 : Int32) <<< ((tu_CB (((fo * (4 : Int32)) + p3).toNatClampNeg)) &&& 31)) - (1 : Int32))), (6, .int ((fo * (4 : Int32)) + p3)), (0, .ref q), (1, .ref u), (2, .int p0), (3, .int p1), (4, .int p2), (5, .int p3)]) hx hb dX1_stored_21 hl (by decide) rfl (fun ls hl => ?_)
  refine lv_iload hx hb dX1_stored_23 (lv_at hl 0 rfl) ?_
  refine lv_if_ne (tgt := 41) hx hb dX1_stored_25 (by decide) (fun c_1 => ?_) (fun c_1 => ?_)
  · refine lv_aload_n hx hb dX1_stored_41 rfl (lv_at hl 3 rfl) ?_
    refine lv_iload_n hx hb dX1_stored_42 rfl (lv_at hl 4 rfl) ?_
    refine lv_iload_n hx hb dX1_stored_43 rfl (lv_at hl 5 rfl) ?_
    refine lv_iload hx hb dX1_stored_44 (lv_at hl 6 rfl) ?_
    refine rd_call (W.runV (As := [.int p0, .int p1, .int p2]) (rest := []) ⟨hx, hb, hml, hown, hts⟩ (r_numberOf l dC dI u fr fo lw lh lv ac dn fi bc st cI sf p0 p1 p2 h0) (cwV 3 hts (tg_V tw_249 tw_250 tw_251 tw_2 tw_252) rfl rfl rfl (by decide +kernel) ⟨Nat.le_of_ble_eq_true rfl, Nat.le_of_ble_eq_true rfl⟩) ⟨rd_blind, va_recv hK hP (ci := 0) (q0 := 1) rfl rfl, fun U hU hW => ⟨rfl, rd_use (hP.sub [1, 3] rfl) (hK.sub [0] rfl) U hU hW⟩⟩ rfl rfl hl.1 rfl (lv_room (Nat.le_of_ble_eq_true rfl)) dX1_stored_46 ⟨Nat.le_of_ble_eq_true rfl, Nat.le_of_ble_eq_true rfl⟩) ?_
    refine lv_i2l hx hb dX1_stored_49 rfl ?_
    refine va_gets (v := .ref tb.1) hx hb hX.1.1 va_S.rf hown (hts _ (tw_c tw_253)) (fun _ h9 => h9) dX1_stored_50 ?_
    refine lv_aload_n hx hb dX1_stored_53 rfl (lv_at hl 3 rfl) ?_
    refine va_get (D := (dC, dI)) (ci := 0) (v := .int fo) (C := "TextureUnits$Unit") (T := TX0) (N := 10) hx hb hts (tw_s inX0) hown hK hP 1 rfl rfl 1 (by decide) (hts _ (tw_c tw_39)) (fun _ h9 => h9) rfl dX1_stored_54 ?_
    refine va_ti (v := .int (tu_TB fo.toNatClampNeg)) hx hb hX.1.2 va_S.rf h1 rfl dX1_stored_57 ?_
    refine lv_i2l hx hb dX1_stored_58 rfl ?_
    refine lv_lmul hx hb dX1_stored_59 ?_
    refine lv_lstore (lv' := [(8, .long ((((tu_num sf lw p0 p1 p2) : Int32).toInt64) * (((tu_TB fo.toNatClampNeg) : Int32).toInt64))), (7, .int (((1 : Int32) <<< ((tu_CB (((fo * (4 : Int32)) + p3).toNatClampNeg)) &&& 31)) - (1 : Int32))), (6, .int ((fo * (4 : Int32)) + p3)), (0, .ref q), (1, .ref u), (2, .int p0), (3, .int p1), (4, .int p2), (5, .int p3)]) hx hb dX1_stored_60 hl (by decide) rfl (fun ls hl => ?_)
    refine lv_lload hx hb dX1_stored_62 (lv_at hl 0 rfl) ?_
    refine lv_ldc2 (v := 31) hx hb hown (hts _ (tw_c tw_255)) dX1_stored_64 ?_
    refine lv_land hx hb dX1_stored_67 ?_
    refine lv_l2i hx hb dX1_stored_68 rfl ?_
    refine va_gets (v := .ref tb.2.2) hx hb hX.2.2.1 va_S.rf hown (hts _ (tw_c tw_256)) (fun _ h9 => h9) dX1_stored_69 ?_
    refine lv_iload hx hb dX1_stored_72 (lv_at hl 2 rfl) ?_
    refine va_ti (v := .int (tu_CS (((fo * (4 : Int32)) + p3).toNatClampNeg))) hx hb hX.2.2.2 va_S.rf h2 rfl dX1_stored_74 ?_
    refine lv_iadd hx hb dX1_stored_75 ?_
    refine lv_istore (lv' := [(10, .int ((((((((tu_num sf lw p0 p1 p2) : Int32).toInt64) * (((tu_TB fo.toNatClampNeg) : Int32).toInt64)) &&& (31 : Int64)) : Int64).toInt32) + (tu_CS (((fo * (4 : Int32)) + p3).toNatClampNeg)))), (8, .long ((((tu_num sf lw p0 p1 p2) : Int32).toInt64) * (((tu_TB fo.toNatClampNeg) : Int32).toInt64))), (7, .int (((1 : Int32) <<< ((tu_CB (((fo * (4 : Int32)) + p3).toNatClampNeg)) &&& 31)) - (1 : Int32))), (6, .int ((fo * (4 : Int32)) + p3)), (0, .ref q), (1, .ref u), (2, .int p0), (3, .int p1), (4, .int p2), (5, .int p3)]) hx hb dX1_stored_76 hl (by decide) rfl (fun ls hl => ?_)
    refine lv_aload_n hx hb dX1_stored_78 rfl (lv_at hl 4 rfl) ?_
    refine lv_aload_n hx hb dX1_stored_79 rfl (lv_at hl 5 rfl) ?_
    refine va_get (D := (dC, dI)) (ci := 0) (v := .int fr) (C := "TextureUnits$Unit") (T := TX0) (N := 10) hx hb hts (tw_s inX0) hown hK hP 1 rfl rfl 0 (by decide) (hts _ (tw_c tw_38)) (fun _ h9 => h9) rfl dX1_stored_80 ?_
    refine lv_i2l hx hb dX1_stored_83 rfl ?_
    refine lv_lload hx hb dX1_stored_84 (lv_at hl 1 rfl) ?_
    refine lv_iconst (v := 5) hx hb dX1_stored_86 (by decide) ?_
    refine lv_lshr hx hb dX1_stored_87 rfl ?_
    refine lv_ladd hx hb dX1_stored_88 ?_
    refine rd_call (W.runV (As := [.long (((fr : Int32).toInt64) + (((((tu_num sf lw p0 p1 p2) : Int32).toInt64) * (((tu_TB fo.toNatClampNeg) : Int32).toInt64)) >>> ((5 : Int32).toInt64 &&& 63)))]) (rest := []) ⟨hx, hb, hml, hown, hts⟩ (r_wordAt l dC dI q wd us la nx cI mem (((fr : Int32).toInt64) + (((((tu_num sf lw p0 p1 p2) : Int32).toInt64) * (((tu_TB fo.toNatClampNeg) : Int32).toInt64)) >>> ((5 : Int32).toInt64 &&& 63)))) (cwV 1 hts (tg_V tw_258 tw_260 tw_p3 tw_1 tw_261) rfl rfl rfl (by decide +kernel) ⟨Nat.le_of_ble_eq_true rfl, Nat.le_of_ble_eq_true rfl⟩) ⟨rd_blind, va_recv hK hP (ci := 1) (q0 := 0) rfl rfl, fun U hU hW => ⟨rfl, rd_use (hP.sub [0, 2] rfl) (hK.sub [0] rfl) U hU hW⟩⟩ rfl rfl hl.1 rfl (lv_room (Nat.le_of_ble_eq_true rfl)) dX1_stored_89 ⟨Nat.le_of_ble_eq_true rfl, Nat.le_of_ble_eq_true rfl⟩) ?_
    refine lv_iload hx hb dX1_stored_92 (lv_at hl 0 rfl) ?_
    refine lv_iushr hx hb dX1_stored_94 rfl ?_
    refine lv_iload hx hb dX1_stored_95 (lv_at hl 2 rfl) ?_
    refine lv_iand hx hb dX1_stored_97 ?_
    refine lv_istore (lv' := [(11, .int (((((tu_word mem (((fr : Int32).toInt64) + (((((tu_num sf lw p0 p1 p2) : Int32).toInt64) * (((tu_TB fo.toNatClampNeg) : Int32).toInt64)) >>> ((5 : Int32).toInt64 &&& 63)))) : Int32).toUInt32 >>> ((((((((((tu_num sf lw p0 p1 p2) : Int32).toInt64) * (((tu_TB fo.toNatClampNeg) : Int32).toInt64)) &&& (31 : Int64)) : Int64).toInt32) + (tu_CS (((fo * (4 : Int32)) + p3).toNatClampNeg))) : Int32).toUInt32 &&& Int32.toUInt32 31)).toInt32) &&& (((1 : Int32) <<< ((tu_CB (((fo * (4 : Int32)) + p3).toNatClampNeg)) &&& 31)) - (1 : Int32)))), (10, .int ((((((((tu_num sf lw p0 p1 p2) : Int32).toInt64) * (((tu_TB fo.toNatClampNeg) : Int32).toInt64)) &&& (31 : Int64)) : Int64).toInt32) + (tu_CS (((fo * (4 : Int32)) + p3).toNatClampNeg)))), (8, .long ((((tu_num sf lw p0 p1 p2) : Int32).toInt64) * (((tu_TB fo.toNatClampNeg) : Int32).toInt64))), (7, .int (((1 : Int32) <<< ((tu_CB (((fo * (4 : Int32)) + p3).toNatClampNeg)) &&& 31)) - (1 : Int32))), (6, .int ((fo * (4 : Int32)) + p3)), (0, .ref q), (1, .ref u), (2, .int p0), (3, .int p1), (4, .int p2), (5, .int p3)]) hx hb dX1_stored_98 hl (by decide) rfl (fun ls hl => ?_)
    refine lv_iload hx hb dX1_stored_100 (lv_at hl 0 rfl) ?_
    refine lv_ldc (v := 65536) hx hb hown (hts _ (tw_c tw_248)) dX1_stored_102 ?_
    refine lv_imul hx hb dX1_stored_104 ?_
    refine lv_iload hx hb dX1_stored_105 (lv_at hl 3 rfl) ?_
    refine lv_iconst (v := 1) hx hb dX1_stored_107 (by decide) ?_
    refine lv_ishr hx hb dX1_stored_108 ?_
    refine lv_iadd hx hb dX1_stored_109 ?_
    refine lv_iload hx hb dX1_stored_110 (lv_at hl 3 rfl) ?_
    refine lv_idiv hx hb dX1_stored_112 c_1 ?_
    exact W.iret (v := ((((((((tu_word mem (((fr : Int32).toInt64) + (((((tu_num sf lw p0 p1 p2) : Int32).toInt64) * (((tu_TB fo.toNatClampNeg) : Int32).toInt64)) >>> ((5 : Int32).toInt64 &&& 63)))) : Int32).toUInt32 >>> ((((((((((tu_num sf lw p0 p1 p2) : Int32).toInt64) * (((tu_TB fo.toNatClampNeg) : Int32).toInt64)) &&& (31 : Int64)) : Int64).toInt32) + (tu_CS (((fo * (4 : Int32)) + p3).toNatClampNeg))) : Int32).toUInt32 &&& Int32.toUInt32 31)).toInt32) &&& (((1 : Int32) <<< ((tu_CB (((fo * (4 : Int32)) + p3).toNatClampNeg)) &&& 31)) - (1 : Int32))) * (65536 : Int32)) + ((((1 : Int32) <<< ((tu_CB (((fo * (4 : Int32)) + p3).toNatClampNeg)) &&& 31)) - (1 : Int32)) >>> ((1 : Int32) &&& 31))) / (((1 : Int32) <<< ((tu_CB (((fo * (4 : Int32)) + p3).toNatClampNeg)) &&& 31)) - (1 : Int32)))) hx hb hr (fun t ht hW => rd_q (by unfold tu_stored tu_most; rw [if_neg c_1]; rfl) ht) (fun q h => by cases h) dX1_stored_113
  · refine lv_iload hx hb dX1_stored_28 (lv_at hl 7 rfl) ?_
    refine lv_iconst (v := 3) hx hb dX1_stored_30 (by decide) ?_
    refine lv_icmp_ne (tgt := 39) hx hb dX1_stored_31 (by decide) (fun c_2 => ?_) (fun c_2 => ?_)
    · refine lv_iconst (v := 0) hx hb dX1_stored_39 (by decide) ?_
      exact W.iret (v := 0) hx hb hr (fun t ht hW => rd_q (by unfold tu_stored tu_most; rw [if_pos c_1, if_neg c_2]) ht) (fun q h => by cases h) dX1_stored_40
    · refine lv_ldc (v := 65536) hx hb hown (hts _ (tw_c tw_248)) dX1_stored_34 ?_
      refine lv_goto (tgt := 40) hx hb dX1_stored_36 (by decide) ?_
      exact W.iret (v := 65536) hx hb hr (fun t ht hW => rd_q (by unfold tu_stored tu_most; rw [if_pos c_1, if_pos c_2]) ht) (fun q h => by cases h) dX1_stored_40
set_option maxHeartbeats 4000000 in
set_option maxRecDepth 100000 in
theorem r_sob (l : Launch) (dC : Nat → ClassId) (dI : Nat → Nat → Nat) (q wd us la nx : Nat) (u : Nat) (fr fo lw lh lv ac dn fi : Int32) (bc st : Nat) (cI : ClassId) (mem sf bd : Nat → Int32) (tb : Nat × Nat × Nat) (p0 p1 p2 p3 : Int32) (h0 : vp_in p0 12) (h1 : vp_in fo 8) (h2 : vp_in (fo * 4 + p3) 32) (h3 : vp_in p3 4) : Met l yX1_storedOrBorder wsX1_storedOrBorder ({ frames := 3, cells := 0, slots := 0, locals := 75 }) (va_Pc [.ref q, .ref u, .int p0, .int p1, .int p2, .int p3] (rt_B (dC, dI) vwCl [(q, .inr (1, [.ref wd, .ref us, .ref la, .ref nx])), (u, .inr (0, [.int fr, .int fo, .int lw, .int lh, .int lv, .int ac, .int dn, .int fi, .ref bc, .ref st])), (wd, .inl (cI, 2048, .inl mem)), (st, .inl (cI, 12, .inl sf)), (bc, .inl (cI, 4, .inl bd))] [(cI, .int)] tb)) (QcRead (tu_sob mem sf bd fr fo lw p0 p1 p2 p3)) 0 0 (fun _ => False) := by
  refine Met.ofW (cc := cX1_storedOrBorder) (maxL := 6) (ret := some .int) (by decide) rfl ?_
  intro p e s m args below meth c s₁ B hml hv
  obtain ⟨rfl, hP, hK, hX⟩ := hv
  have hx := B.exec
  have hb := B.bytes
  have hr := B.returns
  have hts := atoms_spec (ws := wsX1_storedOrBorder) B.pre
  have hown : s.vm.findClass "TextureUnits" = some m.cls := findClass_of_methodNamed B.named
  have hlocks := B.notSynchronized
  have hl := lv_entry ([.ref q, .ref u, .int p0, .int p1, .int p2, .int p3]) (n := 6) (Nat.le_of_ble_eq_true rfl)
  rw [lg_entry_eq]
  generalize (lg_sl ([.ref q, .ref u, .int p0, .int p1, .int p2, .int p3]) ++ List.replicate (6 - (lg_sl ([.ref q, .ref u, .int p0, .int p1, .int p2, .int p3])).length) Slot.unset).toArray = ls at hl ⊢
  have hl : lv_has ls 6 [(0, .ref q), (1, .ref u), (2, .int p0), (3, .int p1), (4, .int p2), (5, .int p3)] := hl
  refine lv_iload_n hx hb dX1_storedOrBorder_0 rfl (lv_at hl 3 rfl) ?_
  refine lv_iconst (v := (-1)) hx hb dX1_storedOrBorder_1 (by decide) ?_
  refine lv_icmp_eq (tgt := 11) hx hb dX1_storedOrBorder_2 (by decide) (fun c_1 => ?_) (fun c_1 => ?_)
  · refine lv_aload_n hx hb dX1_storedOrBorder_11 rfl (lv_at hl 1 rfl) ?_
    refine va_get (D := (dC, dI)) (ci := 0) (v := .ref bc) (C := "TextureUnits$Unit") (T := TX0) (N := 10) hx hb hts (tw_s inX0) hown hK hP 1 rfl rfl 8 (by decide) (hts _ (tw_c tw_48)) (fun _ h9 => h9) rfl dX1_storedOrBorder_12 ?_
    refine lv_iload hx hb dX1_storedOrBorder_15 (lv_at hl 5 rfl) ?_
    refine va_iald hx hb hK hP 4 0 rfl rfl h3 dX1_storedOrBorder_17 ?_
    exact W.iret (v := (bd p3.toNatClampNeg)) hx hb hr (fun t ht hW => rd_q (by simp only [tu_sob, if_pos c_1]) ht) (fun q h => by cases h) dX1_storedOrBorder_18
  · refine lv_iload hx hb dX1_storedOrBorder_5 (lv_at hl 4 rfl) ?_
    refine lv_iconst (v := (-1)) hx hb dX1_storedOrBorder_7 (by decide) ?_
    refine lv_icmp_ne (tgt := 19) hx hb dX1_storedOrBorder_8 (by decide) (fun c_2 => ?_) (fun c_2 => ?_)
    · refine lv_aload_n hx hb dX1_storedOrBorder_19 rfl (lv_at hl 0 rfl) ?_
      refine lv_aload_n hx hb dX1_storedOrBorder_20 rfl (lv_at hl 1 rfl) ?_
      refine lv_iload_n hx hb dX1_storedOrBorder_21 rfl (lv_at hl 2 rfl) ?_
      refine lv_iload_n hx hb dX1_storedOrBorder_22 rfl (lv_at hl 3 rfl) ?_
      refine lv_iload hx hb dX1_storedOrBorder_23 (lv_at hl 4 rfl) ?_
      refine lv_iload hx hb dX1_storedOrBorder_25 (lv_at hl 5 rfl) ?_
      refine rd_call (W.runV (As := [.ref u, .int p0, .int p1, .int p2, .int p3]) (rest := []) ⟨hx, hb, hml, hown, hts⟩ (r_stored l dC dI q wd us la nx u fr fo lw lh lv ac dn fi bc st cI mem sf tb p0 p1 p2 p3 h0 h1 h2) (cwV 5 hts (tg_V tw_242 tw_244 tw_p2 tw_1 tw_245) rfl rfl rfl (by decide +kernel) ⟨Nat.le_of_ble_eq_true rfl, Nat.le_of_ble_eq_true rfl⟩) ⟨rt_blind, va_recv hK hP (ci := 1) (q0 := 0) rfl rfl, fun U hU hW => ⟨rfl, rt_use (hP.sub [0, 1, 2, 3] rfl) (hK.sub [0] rfl) hX U hU hW⟩⟩ rfl rfl hl.1 rfl (lv_room (Nat.le_of_ble_eq_true rfl)) dX1_storedOrBorder_27 ⟨Nat.le_of_ble_eq_true rfl, Nat.le_of_ble_eq_true rfl⟩) ?_
      exact W.iret (v := (tu_stored mem sf fr fo lw p0 p1 p2 p3)) hx hb hr (fun t ht hW => rd_q (by simp only [tu_sob, if_neg c_1, if_neg c_2]) ht) (fun q h => by cases h) dX1_storedOrBorder_30
    · refine lv_aload_n hx hb dX1_storedOrBorder_11 rfl (lv_at hl 1 rfl) ?_
      refine va_get (D := (dC, dI)) (ci := 0) (v := .ref bc) (C := "TextureUnits$Unit") (T := TX0) (N := 10) hx hb hts (tw_s inX0) hown hK hP 1 rfl rfl 8 (by decide) (hts _ (tw_c tw_48)) (fun _ h9 => h9) rfl dX1_storedOrBorder_12 ?_
      refine lv_iload hx hb dX1_storedOrBorder_15 (lv_at hl 5 rfl) ?_
      refine va_iald hx hb hK hP 4 0 rfl rfl h3 dX1_storedOrBorder_17 ?_
      exact W.iret (v := (bd p3.toNatClampNeg)) hx hb hr (fun t ht hW => rd_q (by simp only [tu_sob, if_neg c_1, if_pos c_2]) ht) (fun q h => by cases h) dX1_storedOrBorder_18
end
section
theorem tw_238 : (Cond.methodLink "TextureUnits" 84 ⟨"TextureUnits$Unit", "width", "(I)I"⟩) ∈ TW := tw_t1 238 (by decide +kernel) (by decide +kernel)
theorem tw_239 : (Cond.methodLink "TextureUnits" 88 ⟨"TextureUnits$Unit", "height", "(I)I"⟩) ∈ TW := tw_t1 239 (by decide +kernel) (by decide +kernel)
theorem tw_290 : (Cond.methodLink "TextureUnits" 119 ⟨"TextureUnits", "sampleFour", "(LTextureUnits$Unit;III[I)V"⟩) ∈ TW := tw_t2 50 (by decide +kernel) (by decide +kernel)
theorem tw_292 : (Cond.instanceMethod ⟨"TextureUnits", "sampleFour", "(LTextureUnits$Unit;III[I)V"⟩) ∈ TW := tw_t2 52 (by decide +kernel) (by decide +kernel)
theorem tw_293 : (Cond.code ⟨"TextureUnits", "sampleFour", "(LTextureUnits$Unit;III[I)V"⟩ prog_1_method_13_code 21 .none) ∈ TW := tw_t2 53 (by decide +kernel) (by decide +kernel)
theorem tw_294 : (Cond.constantLong "TextureUnits" 135 (32768 : Int64)) ∈ TW := tw_t2 54 (by decide +kernel) (by decide +kernel)
theorem tw_295 : (Cond.methodLink "TextureUnits" 125 ⟨"TextureUnits", "whole", "(J)I"⟩) ∈ TW := tw_t2 55 (by decide +kernel) (by decide +kernel)
theorem tw_296 : (Cond.static ⟨"TextureUnits", "whole", "(J)I"⟩) ∈ TW := tw_t2 56 (by decide +kernel) (by decide +kernel)
theorem tw_297 : (Cond.code ⟨"TextureUnits", "whole", "(J)I"⟩ prog_1_method_20_code 2 (.some .int)) ∈ TW := tw_t2 57 (by decide +kernel) (by decide +kernel)
theorem tw_298 : (Cond.methodLink "TextureUnits" 129 ⟨"TextureUnits", "wrapped", "(III)I"⟩) ∈ TW := tw_t2 58 (by decide +kernel) (by decide +kernel)
theorem tw_299 : (Cond.static ⟨"TextureUnits", "wrapped", "(III)I"⟩) ∈ TW := tw_t2 59 (by decide +kernel) (by decide +kernel)
theorem tw_300 : (Cond.code ⟨"TextureUnits", "wrapped", "(III)I"⟩ prog_1_method_17_code 3 (.some .int)) ∈ TW := tw_t2 60 (by decide +kernel) (by decide +kernel)
theorem tw_304 : (Cond.methodLink "TextureUnits" 137 ⟨"TextureUnits", "rest", "(J)I"⟩) ∈ TW := tw_t2 64 (by decide +kernel) (by decide +kernel)
theorem tw_305 : (Cond.static ⟨"TextureUnits", "rest", "(J)I"⟩) ∈ TW := tw_t2 65 (by decide +kernel) (by decide +kernel)
theorem tw_306 : (Cond.code ⟨"TextureUnits", "rest", "(J)I"⟩ prog_1_method_21_code 2 (.some .int)) ∈ TW := tw_t2 66 (by decide +kernel) (by decide +kernel)
theorem tw_308 : (Cond.methodLink "TextureUnits" 132 ⟨"TextureUnits", "storedOrBorder", "(LTextureUnits$Unit;IIII)I"⟩) ∈ TW := tw_t2 68 (by decide +kernel) (by decide +kernel)
theorem tw_310 : (Cond.instanceMethod ⟨"TextureUnits", "storedOrBorder", "(LTextureUnits$Unit;IIII)I"⟩) ∈ TW := tw_t2 70 (by decide +kernel) (by decide +kernel)
theorem tw_311 : (Cond.code ⟨"TextureUnits", "storedOrBorder", "(LTextureUnits$Unit;IIII)I"⟩ prog_1_method_14_code 6 (.some .int)) ∈ TW := tw_t2 71 (by decide +kernel) (by decide +kernel)
theorem tw_312 : (Cond.methodLink "TextureUnits" 111 ⟨"TextureUnits", "mix", "(III)I"⟩) ∈ TW := tw_t2 72 (by decide +kernel) (by decide +kernel)
theorem tw_313 : (Cond.static ⟨"TextureUnits", "mix", "(III)I"⟩) ∈ TW := tw_t2 73 (by decide +kernel) (by decide +kernel)
theorem tw_314 : (Cond.code ⟨"TextureUnits", "mix", "(III)I"⟩ prog_1_method_19_code 5 (.some .int)) ∈ TW := tw_t2 74 (by decide +kernel) (by decide +kernel)
theorem tw_315 : (Cond.methodLink "TextureUnits" 122 ⟨"TextureUnits", "sampleOne", "(LTextureUnits$Unit;III[I)V"⟩) ∈ TW := tw_t2 75 (by decide +kernel) (by decide +kernel)
theorem tw_317 : (Cond.instanceMethod ⟨"TextureUnits", "sampleOne", "(LTextureUnits$Unit;III[I)V"⟩) ∈ TW := tw_t2 77 (by decide +kernel) (by decide +kernel)
theorem tw_318 : (Cond.code ⟨"TextureUnits", "sampleOne", "(LTextureUnits$Unit;III[I)V"⟩ prog_1_method_12_code 11 .none) ∈ TW := tw_t2 78 (by decide +kernel) (by decide +kernel)
theorem tw_35 : (Cond.instanceMethod ⟨"TextureUnits$Unit", "height", "(I)I"⟩) ∈ TW := tw_t1 35 (by decide +kernel) (by decide +kernel)
theorem tw_36 : (Cond.selects "TextureUnits$Unit" ⟨"TextureUnits$Unit", "height", "(I)I"⟩ ⟨"TextureUnits$Unit", "height", "(I)I"⟩) ∈ TW := tw_t1 36 (by decide +kernel) (by decide +kernel)
theorem tw_37 : (Cond.code ⟨"TextureUnits$Unit", "height", "(I)I"⟩ prog_2_method_4_code 2 (.some .int)) ∈ TW := tw_t1 37 (by decide +kernel) (by decide +kernel)
theorem tw_44 : (Cond.fieldLink "TextureUnits" 67 "TextureUnits$Unit" "across" "I") ∈ TW := tw_t1 44 (by decide +kernel) (by decide +kernel)
theorem tw_45 : (Cond.fieldLink "TextureUnits" 70 "TextureUnits$Unit" "down" "I") ∈ TW := tw_t1 45 (by decide +kernel) (by decide +kernel)
theorem tw_46 : (Cond.fieldLink "TextureUnits" 73 "TextureUnits$Unit" "filter" "I") ∈ TW := tw_t1 46 (by decide +kernel) (by decide +kernel)
theorem tw_p5 : (Cond.selects "TextureUnits" ⟨"TextureUnits", "sampleFour", "(LTextureUnits$Unit;III[I)V"⟩ ⟨"TextureUnits", "sampleFour", "(LTextureUnits$Unit;III[I)V"⟩) ∈ TW := tw_t0 5 (by decide +kernel) (by decide +kernel)
theorem tw_p6 : (Cond.selects "TextureUnits" ⟨"TextureUnits", "storedOrBorder", "(LTextureUnits$Unit;IIII)I"⟩ ⟨"TextureUnits", "storedOrBorder", "(LTextureUnits$Unit;IIII)I"⟩) ∈ TW := tw_t0 6 (by decide +kernel) (by decide +kernel)
theorem tw_p7 : (Cond.selects "TextureUnits" ⟨"TextureUnits", "sampleOne", "(LTextureUnits$Unit;III[I)V"⟩ ⟨"TextureUnits", "sampleOne", "(LTextureUnits$Unit;III[I)V"⟩) ∈ TW := tw_t0 7 (by decide +kernel) (by decide +kernel)
set_option maxHeartbeats 4000000 in
set_option maxRecDepth 100000 in
theorem w_sampleOne (l : Launch) (dC : Nat → ClassId) (dI : Nat → Nat → Nat) (q wd us la nx : Nat) (u : Nat) (fr fo lw lh lv ac dn fi : Int32) (bc st : Nat) (it : Nat) (cI : ClassId) (mem sf bd g : Nat → Int32) (tb : Nat × Nat × Nat) (p0 p1 p2 : Int32) (sz : Nat) (h0 : vp_in p0 12) (h1 : vp_in fo 8) : Met l yX1_sampleOne wsX1_sampleOne ({ frames := 4, cells := 0, slots := 0, locals := 100 }) (va_Pc [.ref q, .ref u, .int p0, .int p1, .int p2, .ref it] (wt_P (dC, dI) vwCl [(q, .inr (1, [.ref wd, .ref us, .ref la, .ref nx])), (u, .inr (0, [.int fr, .int fo, .int lw, .int lh, .int lv, .int ac, .int dn, .int fi, .ref bc, .ref st])), (wd, .inl (cI, 2048, .inl mem)), (st, .inl (cI, 12, .inl sf)), (bc, .inl (cI, 4, .inl bd)), (it, .inl (cI, 4, .inl g))] [(cI, .int)] sz tb)) (va_Qv (fun _ : Unit => True) (wr_B (dC, dI) vwCl [(q, .inr (1, [.ref wd, .ref us, .ref la, .ref nx])), (u, .inr (0, [.int fr, .int fo, .int lw, .int lh, .int lv, .int ac, .int dn, .int fi, .ref bc, .ref st])), (wd, .inl (cI, 2048, .inl mem)), (st, .inl (cI, 12, .inl sf)), (bc, .inl (cI, 4, .inl bd)), (it, .inl (cI, 4, .inl (tu_put4 g (tu_one mem sf bd fr fo lw lh ac dn p0 p1 p2 0) (tu_one mem sf bd fr fo lw lh ac dn p0 p1 p2 1) (tu_one mem sf bd fr fo lw lh ac dn p0 p1 p2 2) (tu_one mem sf bd fr fo lw lh ac dn p0 p1 p2 3))))] [(cI, .int)] (va_A [(q, .inr (1, [.ref wd, .ref us, .ref la, .ref nx])), (u, .inr (0, [.int fr, .int fo, .int lw, .int lh, .int lv, .int ac, .int dn, .int fi, .ref bc, .ref st])), (wd, .inl (cI, 2048, .inl mem)), (st, .inl (cI, 12, .inl sf)), (bc, .inl (cI, 4, .inl bd)), (it, .inl (cI, 4, .inl g))] sz)) (va_A [(q, .inr (1, [.ref wd, .ref us, .ref la, .ref nx])), (u, .inr (0, [.int fr, .int fo, .int lw, .int lh, .int lv, .int ac, .int dn, .int fi, .ref bc, .ref st])), (wd, .inl (cI, 2048, .inl mem)), (st, .inl (cI, 12, .inl sf)), (bc, .inl (cI, 4, .inl bd)), (it, .inl (cI, 4, .inl g))] sz)) 0 0 (va_A [(q, .inr (1, [.ref wd, .ref us, .ref la, .ref nx])), (u, .inr (0, [.int fr, .int fo, .int lw, .int lh, .int lv, .int ac, .int dn, .int fi, .ref bc, .ref st])), (wd, .inl (cI, 2048, .inl mem)), (st, .inl (cI, 12, .inl sf)), (bc, .inl (cI, 4, .inl bd)), (it, .inl (cI, 4, .inl g))] sz) := by
  refine Met.ofW (cc := cX1_sampleOne) (maxL := 11) (ret := none) (by decide) rfl ?_
  intro p e s m args below meth c s₁ B hml hv
  obtain ⟨rfl, hsz, hP, hK, hD0, hX⟩ := hv
  have hx := B.exec
  have hb := B.bytes
  have hr := B.returns
  have hts := atoms_spec (ws := wsX1_sampleOne) B.pre
  have hown : s.vm.findClass "TextureUnits" = some m.cls := findClass_of_methodNamed B.named
  have hlocks := B.notSynchronized
  subst hsz
  have hD := hD0.self (sz := s.heap.size)
  generalize hAe : va_A [(q, .inr (1, [.ref wd, .ref us, .ref la, .ref nx])), (u, .inr (0, [.int fr, .int fo, .int lw, .int lh, .int lv, .int ac, .int dn, .int fi, .ref bc, .ref st])), (wd, .inl (cI, 2048, .inl mem)), (st, .inl (cI, 12, .inl sf)), (bc, .inl (cI, 4, .inl bd)), (it, .inl (cI, 4, .inl g))] s.heap.size = A at hD hX ⊢
  have hA : ∀ q : Nat, s.heap.size ≤ q → A q := fun q h => by rw [← hAe]; exact Or.inr h
  have hS : va_S A s.heap s.heap [] := va_S.rf
  have hP : va_P (dC, dI) vwCl [(q, .inr (1, [.ref wd, .ref us, .ref la, .ref nx])), (u, .inr (0, [.int fr, .int fo, .int lw, .int lh, .int lv, .int ac, .int dn, .int fi, .ref bc, .ref st])), (wd, .inl (cI, 2048, .inl mem)), (st, .inl (cI, 12, .inl sf)), (bc, .inl (cI, 4, .inl bd)), (it, .inl (cI, 4, .inl g))] s.heap := hP
  have hl := lv_entry ([.ref q, .ref u, .int p0, .int p1, .int p2, .ref it]) (n := 11) (Nat.le_of_ble_eq_true rfl)
  rw [lg_entry_eq]
  generalize (lg_sl ([.ref q, .ref u, .int p0, .int p1, .int p2, .ref it]) ++ List.replicate (11 - (lg_sl ([.ref q, .ref u, .int p0, .int p1, .int p2, .ref it])).length) Slot.unset).toArray = ls at hl ⊢
  have hl : lv_has ls 11 [(0, .ref q), (1, .ref u), (2, .int p0), (3, .int p1), (4, .int p2), (5, .ref it)] := hl
  refine lv_aload_n hx hb dX1_sampleOne_0 rfl (lv_at hl 1 rfl) ?_
  refine lv_iload_n hx hb dX1_sampleOne_1 rfl (lv_at hl 2 rfl) ?_
  refine rd_call (W.runV (As := [.int p0]) (rest := []) ⟨hx, hb, hml, hown, hts⟩ (r_width l dC dI u fr fo lw lh lv ac dn fi bc st p0) (cwV 1 hts (tg_V tw_238 tw_31 tw_32 tw_2 tw_33) rfl rfl rfl (by decide +kernel) ⟨Nat.le_of_ble_eq_true rfl, Nat.le_of_ble_eq_true rfl⟩) ⟨rd_blind, va_recv hK hP (ci := 0) (q0 := 1) rfl rfl, fun U hU hW => ⟨rfl, rd_use (hP.sub [1] rfl) (hK.sub [] rfl) U hU hW⟩⟩ rfl rfl hl.1 rfl (lv_room (Nat.le_of_ble_eq_true rfl)) dX1_sampleOne_2 ⟨Nat.le_of_ble_eq_true rfl, Nat.le_of_ble_eq_true rfl⟩) ?_
  refine lv_istore (lv' := [(6, .int (tu_len lw p0)), (0, .ref q), (1, .ref u), (2, .int p0), (3, .int p1), (4, .int p2), (5, .ref it)]) hx hb dX1_sampleOne_5 hl (by decide) rfl (fun ls hl => ?_)
  refine lv_aload_n hx hb dX1_sampleOne_7 rfl (lv_at hl 2 rfl) ?_
  refine lv_iload_n hx hb dX1_sampleOne_8 rfl (lv_at hl 3 rfl) ?_
  refine rd_call (W.runV (As := [.int p0]) (rest := []) ⟨hx, hb, hml, hown, hts⟩ (r_height l dC dI u fr fo lw lh lv ac dn fi bc st p0) (cwV 1 hts (tg_V tw_239 tw_35 tw_36 tw_2 tw_37) rfl rfl rfl (by decide +kernel) ⟨Nat.le_of_ble_eq_true rfl, Nat.le_of_ble_eq_true rfl⟩) ⟨rd_blind, va_recv hK hP (ci := 0) (q0 := 1) rfl rfl, fun U hU hW => ⟨rfl, rd_use (hP.sub [1] rfl) (hK.sub [] rfl) U hU hW⟩⟩ rfl rfl hl.1 rfl (lv_room (Nat.le_of_ble_eq_true rfl)) dX1_sampleOne_9 ⟨Nat.le_of_ble_eq_true rfl, Nat.le_of_ble_eq_true rfl⟩) ?_
  refine lv_istore (lv' := [(7, .int (tu_len lh p0)), (6, .int (tu_len lw p0)), (0, .ref q), (1, .ref u), (2, .int p0), (3, .int p1), (4, .int p2), (5, .ref it)]) hx hb dX1_sampleOne_12 hl (by decide) rfl (fun ls hl => ?_)
  refine lv_aload_n hx hb dX1_sampleOne_14 rfl (lv_at hl 3 rfl) ?_
  refine va_get (D := (dC, dI)) (ci := 0) (v := .int ac) (C := "TextureUnits$Unit") (T := TX0) (N := 10) hx hb hts (tw_s inX0) hown hK hP 1 rfl rfl 5 (by decide) (hts _ (tw_c tw_44)) (fun _ h9 => h9) rfl dX1_sampleOne_15 ?_
  refine lv_iload_n hx hb dX1_sampleOne_18 rfl (lv_at hl 5 rfl) ?_
  refine lv_i2l hx hb dX1_sampleOne_19 rfl ?_
  refine lv_iload hx hb dX1_sampleOne_20 (lv_at hl 1 rfl) ?_
  refine lv_i2l hx hb dX1_sampleOne_22 rfl ?_
  refine lv_lmul hx hb dX1_sampleOne_23 ?_
  refine rd_call (W.runS (As := [.long (((p1 : Int32).toInt64) * (((tu_len lw p0) : Int32).toInt64))]) (rest := [.int ac]) ⟨hx, hb, hml, hown, hts⟩ (r_whole l (((p1 : Int32).toInt64) * (((tu_len lw p0) : Int32).toInt64))) (va_cwS 1 hts (tg_S tw_295 tw_296 tw_1 tw_297) rfl rfl rfl (by decide +kernel) ⟨Nat.le_of_ble_eq_true rfl, Nat.le_of_ble_eq_true rfl⟩) preEq rfl rfl hl.1 rfl (lv_room (Nat.le_of_ble_eq_true rfl)) dX1_sampleOne_24 ⟨Nat.le_of_ble_eq_true rfl, Nat.le_of_ble_eq_true rfl⟩) ?_
  refine lv_iload hx hb dX1_sampleOne_27 (lv_at hl 1 rfl) ?_
  refine rd_call (W.runS (As := [.int ac, .int (tu_whole (((p1 : Int32).toInt64) * (((tu_len lw p0) : Int32).toInt64))), .int (tu_len lw p0)]) (rest := []) ⟨hx, hb, hml, hown, hts⟩ (r_wrapped l ac (tu_whole (((p1 : Int32).toInt64) * (((tu_len lw p0) : Int32).toInt64))) (tu_len lw p0)) (va_cwS 3 hts (tg_S tw_298 tw_299 tw_1 tw_300) rfl rfl rfl (by decide +kernel) ⟨Nat.le_of_ble_eq_true rfl, Nat.le_of_ble_eq_true rfl⟩) preEq rfl rfl hl.1 rfl (lv_room (Nat.le_of_ble_eq_true rfl)) dX1_sampleOne_29 ⟨Nat.le_of_ble_eq_true rfl, Nat.le_of_ble_eq_true rfl⟩) ?_
  refine lv_istore (lv' := [(8, .int (tu_wrap ac (tu_whole (((p1 : Int32).toInt64) * (((tu_len lw p0) : Int32).toInt64))) (tu_len lw p0))), (7, .int (tu_len lh p0)), (6, .int (tu_len lw p0)), (0, .ref q), (1, .ref u), (2, .int p0), (3, .int p1), (4, .int p2), (5, .ref it)]) hx hb dX1_sampleOne_32 hl (by decide) rfl (fun ls hl => ?_)
  refine lv_aload_n hx hb dX1_sampleOne_34 rfl (lv_at hl 4 rfl) ?_
  refine va_get (D := (dC, dI)) (ci := 0) (v := .int dn) (C := "TextureUnits$Unit") (T := TX0) (N := 10) hx hb hts (tw_s inX0) hown hK hP 1 rfl rfl 6 (by decide) (hts _ (tw_c tw_45)) (fun _ h9 => h9) rfl dX1_sampleOne_35 ?_
  refine lv_iload hx hb dX1_sampleOne_38 (lv_at hl 7 rfl) ?_
  refine lv_i2l hx hb dX1_sampleOne_40 rfl ?_
  refine lv_iload hx hb dX1_sampleOne_41 (lv_at hl 1 rfl) ?_
  refine lv_i2l hx hb dX1_sampleOne_43 rfl ?_
  refine lv_lmul hx hb dX1_sampleOne_44 ?_
  refine rd_call (W.runS (As := [.long (((p2 : Int32).toInt64) * (((tu_len lh p0) : Int32).toInt64))]) (rest := [.int dn]) ⟨hx, hb, hml, hown, hts⟩ (r_whole l (((p2 : Int32).toInt64) * (((tu_len lh p0) : Int32).toInt64))) (va_cwS 1 hts (tg_S tw_295 tw_296 tw_1 tw_297) rfl rfl rfl (by decide +kernel) ⟨Nat.le_of_ble_eq_true rfl, Nat.le_of_ble_eq_true rfl⟩) preEq rfl rfl hl.1 rfl (lv_room (Nat.le_of_ble_eq_true rfl)) dX1_sampleOne_45 ⟨Nat.le_of_ble_eq_true rfl, Nat.le_of_ble_eq_true rfl⟩) ?_
  refine lv_iload hx hb dX1_sampleOne_48 (lv_at hl 1 rfl) ?_
  refine rd_call (W.runS (As := [.int dn, .int (tu_whole (((p2 : Int32).toInt64) * (((tu_len lh p0) : Int32).toInt64))), .int (tu_len lh p0)]) (rest := []) ⟨hx, hb, hml, hown, hts⟩ (r_wrapped l dn (tu_whole (((p2 : Int32).toInt64) * (((tu_len lh p0) : Int32).toInt64))) (tu_len lh p0)) (va_cwS 3 hts (tg_S tw_298 tw_299 tw_1 tw_300) rfl rfl rfl (by decide +kernel) ⟨Nat.le_of_ble_eq_true rfl, Nat.le_of_ble_eq_true rfl⟩) preEq rfl rfl hl.1 rfl (lv_room (Nat.le_of_ble_eq_true rfl)) dX1_sampleOne_50 ⟨Nat.le_of_ble_eq_true rfl, Nat.le_of_ble_eq_true rfl⟩) ?_
  refine lv_istore (lv' := [(9, .int (tu_wrap dn (tu_whole (((p2 : Int32).toInt64) * (((tu_len lh p0) : Int32).toInt64))) (tu_len lh p0))), (8, .int (tu_wrap ac (tu_whole (((p1 : Int32).toInt64) * (((tu_len lw p0) : Int32).toInt64))) (tu_len lw p0))), (7, .int (tu_len lh p0)), (6, .int (tu_len lw p0)), (0, .ref q), (1, .ref u), (2, .int p0), (3, .int p1), (4, .int p2), (5, .ref it)]) hx hb dX1_sampleOne_53 hl (by decide) rfl (fun ls hl => ?_)
  refine lv_iconst (v := 0) hx hb dX1_sampleOne_55 (by decide) ?_
  refine lv_istore (lv' := [(10, .int 0), (9, .int (tu_wrap dn (tu_whole (((p2 : Int32).toInt64) * (((tu_len lh p0) : Int32).toInt64))) (tu_len lh p0))), (8, .int (tu_wrap ac (tu_whole (((p1 : Int32).toInt64) * (((tu_len lw p0) : Int32).toInt64))) (tu_len lw p0))), (7, .int (tu_len lh p0)), (6, .int (tu_len lw p0)), (0, .ref q), (1, .ref u), (2, .int p0), (3, .int p1), (4, .int p2), (5, .ref it)]) hx hb dX1_sampleOne_56 hl (by decide) rfl (fun ls hl => ?_)
  refine lv_iload hx hb dX1_sampleOne_58 (lv_at hl 0 rfl) ?_
  refine lv_iconst (v := 4) hx hb dX1_sampleOne_60 (by decide) ?_
  refine lv_icmp_ge (tgt := 87) hx hb dX1_sampleOne_61 (by decide) (fun c_1 => absurd c_1 (by decide)) (fun c_1 => ?_)
  refine lv_aload hx hb dX1_sampleOne_64 (lv_at hl 10 rfl) ?_
  refine lv_iload hx hb dX1_sampleOne_66 (lv_at hl 0 rfl) ?_
  refine lv_aload_n hx hb dX1_sampleOne_68 rfl (lv_at hl 5 rfl) ?_
  refine lv_aload_n hx hb dX1_sampleOne_69 rfl (lv_at hl 6 rfl) ?_
  refine lv_iload_n hx hb dX1_sampleOne_70 rfl (lv_at hl 7 rfl) ?_
  refine lv_iload hx hb dX1_sampleOne_71 (lv_at hl 2 rfl) ?_
  refine lv_iload hx hb dX1_sampleOne_73 (lv_at hl 1 rfl) ?_
  refine lv_iload hx hb dX1_sampleOne_75 (lv_at hl 0 rfl) ?_
  refine rd_call (W.runV (As := [.ref u, .int p0, .int (tu_wrap ac (tu_whole (((p1 : Int32).toInt64) * (((tu_len lw p0) : Int32).toInt64))) (tu_len lw p0)), .int (tu_wrap dn (tu_whole (((p2 : Int32).toInt64) * (((tu_len lh p0) : Int32).toInt64))) (tu_len lh p0)), .int 0]) (rest := [.int 0, .ref it]) ⟨hx, hb, hml, hown, hts⟩ (r_sob l dC dI q wd us la nx u fr fo lw lh lv ac dn fi bc st cI mem sf bd tb p0 (tu_wrap ac (tu_whole (((p1 : Int32).toInt64) * (((tu_len lw p0) : Int32).toInt64))) (tu_len lw p0)) (tu_wrap dn (tu_whole (((p2 : Int32).toInt64) * (((tu_len lh p0) : Int32).toInt64))) (tu_len lh p0)) 0 h0 h1 (tu_fo4 h1 (tu_in (by decide))) (tu_in (by decide))) (cwV 5 hts (tg_V tw_308 tw_310 tw_p6 tw_1 tw_311) rfl rfl rfl (by decide +kernel) ⟨Nat.le_of_ble_eq_true rfl, Nat.le_of_ble_eq_true rfl⟩) ⟨rt_blind, va_recv hK hP (ci := 1) (q0 := 0) rfl rfl, fun U hU hW => ⟨rfl, rt_use (hP.sub [0, 1, 2, 3, 4] rfl) (hK.sub [0] rfl) (tb_use hX hS) U hU hW⟩⟩ rfl rfl hl.1 rfl (lv_room (Nat.le_of_ble_eq_true rfl)) dX1_sampleOne_77 ⟨Nat.le_of_ble_eq_true rfl, Nat.le_of_ble_eq_true rfl⟩) ?_
  refine va_iast hx hb hK hP hD hS 5 0 rfl rfl (tu_in (by decide)) dX1_sampleOne_80 (fun H locs hP hD hS => ?_)
  have hP : va_P (dC, dI) vwCl [(q, .inr (1, [.ref wd, .ref us, .ref la, .ref nx])), (u, .inr (0, [.int fr, .int fo, .int lw, .int lh, .int lv, .int ac, .int dn, .int fi, .ref bc, .ref st])), (wd, .inl (cI, 2048, .inl mem)), (st, .inl (cI, 12, .inl sf)), (bc, .inl (cI, 4, .inl bd)), (it, .inl (cI, 4, .inl (upd g 0 (tu_sob mem sf bd fr fo lw p0 (tu_wrap ac (tu_whole (((p1 : Int32).toInt64) * (((tu_len lw p0) : Int32).toInt64))) (tu_len lw p0)) (tu_wrap dn (tu_whole (((p2 : Int32).toInt64) * (((tu_len lh p0) : Int32).toInt64))) (tu_len lh p0)) 0))))] H := hP
  have hD : va_D A [(q, .inr (1, [.ref wd, .ref us, .ref la, .ref nx])), (u, .inr (0, [.int fr, .int fo, .int lw, .int lh, .int lv, .int ac, .int dn, .int fi, .ref bc, .ref st])), (wd, .inl (cI, 2048, .inl mem)), (st, .inl (cI, 12, .inl sf)), (bc, .inl (cI, 4, .inl bd)), (it, .inl (cI, 4, .inl (upd g 0 (tu_sob mem sf bd fr fo lw p0 (tu_wrap ac (tu_whole (((p1 : Int32).toInt64) * (((tu_len lw p0) : Int32).toInt64))) (tu_len lw p0)) (tu_wrap dn (tu_whole (((p2 : Int32).toInt64) * (((tu_len lh p0) : Int32).toInt64))) (tu_len lh p0)) 0))))] := hD
  refine lv_iinc (v := 1) (lv' := [(10, .int 1), (9, .int (tu_wrap dn (tu_whole (((p2 : Int32).toInt64) * (((tu_len lh p0) : Int32).toInt64))) (tu_len lh p0))), (8, .int (tu_wrap ac (tu_whole (((p1 : Int32).toInt64) * (((tu_len lw p0) : Int32).toInt64))) (tu_len lw p0))), (7, .int (tu_len lh p0)), (6, .int (tu_len lw p0)), (0, .ref q), (1, .ref u), (2, .int p0), (3, .int p1), (4, .int p2), (5, .ref it)]) hx hb dX1_sampleOne_81 hl (k := 0) rfl (by decide) (by decide) rfl (fun ls hl => ?_)
  refine lv_goto (tgt := 58) hx hb dX1_sampleOne_84 (by decide) ?_
  refine lv_iload hx hb dX1_sampleOne_58 (lv_at hl 0 rfl) ?_
  refine lv_iconst (v := 4) hx hb dX1_sampleOne_60 (by decide) ?_
  refine lv_icmp_ge (tgt := 87) hx hb dX1_sampleOne_61 (by decide) (fun c_2 => absurd c_2 (by decide)) (fun c_2 => ?_)
  refine lv_aload hx hb dX1_sampleOne_64 (lv_at hl 10 rfl) ?_
  refine lv_iload hx hb dX1_sampleOne_66 (lv_at hl 0 rfl) ?_
  refine lv_aload_n hx hb dX1_sampleOne_68 rfl (lv_at hl 5 rfl) ?_
  refine lv_aload_n hx hb dX1_sampleOne_69 rfl (lv_at hl 6 rfl) ?_
  refine lv_iload_n hx hb dX1_sampleOne_70 rfl (lv_at hl 7 rfl) ?_
  refine lv_iload hx hb dX1_sampleOne_71 (lv_at hl 2 rfl) ?_
  refine lv_iload hx hb dX1_sampleOne_73 (lv_at hl 1 rfl) ?_
  refine lv_iload hx hb dX1_sampleOne_75 (lv_at hl 0 rfl) ?_
  refine rd_call (W.runV (As := [.ref u, .int p0, .int (tu_wrap ac (tu_whole (((p1 : Int32).toInt64) * (((tu_len lw p0) : Int32).toInt64))) (tu_len lw p0)), .int (tu_wrap dn (tu_whole (((p2 : Int32).toInt64) * (((tu_len lh p0) : Int32).toInt64))) (tu_len lh p0)), .int 1]) (rest := [.int 1, .ref it]) ⟨hx, hb, hml, hown, hts⟩ (r_sob l dC dI q wd us la nx u fr fo lw lh lv ac dn fi bc st cI mem sf bd tb p0 (tu_wrap ac (tu_whole (((p1 : Int32).toInt64) * (((tu_len lw p0) : Int32).toInt64))) (tu_len lw p0)) (tu_wrap dn (tu_whole (((p2 : Int32).toInt64) * (((tu_len lh p0) : Int32).toInt64))) (tu_len lh p0)) 1 h0 h1 (tu_fo4 h1 (tu_in (by decide))) (tu_in (by decide))) (cwV 5 hts (tg_V tw_308 tw_310 tw_p6 tw_1 tw_311) rfl rfl rfl (by decide +kernel) ⟨Nat.le_of_ble_eq_true rfl, Nat.le_of_ble_eq_true rfl⟩) ⟨rt_blind, va_recv hK hP (ci := 1) (q0 := 0) rfl rfl, fun U hU hW => ⟨rfl, rt_use (hP.sub [0, 1, 2, 3, 4] rfl) (hK.sub [0] rfl) (tb_use hX hS) U hU hW⟩⟩ rfl rfl hl.1 rfl (lv_room (Nat.le_of_ble_eq_true rfl)) dX1_sampleOne_77 ⟨Nat.le_of_ble_eq_true rfl, Nat.le_of_ble_eq_true rfl⟩) ?_
  refine va_iast hx hb hK hP hD hS 5 0 rfl rfl (tu_in (by decide)) dX1_sampleOne_80 (fun H locs hP hD hS => ?_)
  have hP : va_P (dC, dI) vwCl [(q, .inr (1, [.ref wd, .ref us, .ref la, .ref nx])), (u, .inr (0, [.int fr, .int fo, .int lw, .int lh, .int lv, .int ac, .int dn, .int fi, .ref bc, .ref st])), (wd, .inl (cI, 2048, .inl mem)), (st, .inl (cI, 12, .inl sf)), (bc, .inl (cI, 4, .inl bd)), (it, .inl (cI, 4, .inl (upd (upd g 0 (tu_sob mem sf bd fr fo lw p0 (tu_wrap ac (tu_whole (((p1 : Int32).toInt64) * (((tu_len lw p0) : Int32).toInt64))) (tu_len lw p0)) (tu_wrap dn (tu_whole (((p2 : Int32).toInt64) * (((tu_len lh p0) : Int32).toInt64))) (tu_len lh p0)) 0)) 1 (tu_sob mem sf bd fr fo lw p0 (tu_wrap ac (tu_whole (((p1 : Int32).toInt64) * (((tu_len lw p0) : Int32).toInt64))) (tu_len lw p0)) (tu_wrap dn (tu_whole (((p2 : Int32).toInt64) * (((tu_len lh p0) : Int32).toInt64))) (tu_len lh p0)) 1))))] H := hP
  have hD : va_D A [(q, .inr (1, [.ref wd, .ref us, .ref la, .ref nx])), (u, .inr (0, [.int fr, .int fo, .int lw, .int lh, .int lv, .int ac, .int dn, .int fi, .ref bc, .ref st])), (wd, .inl (cI, 2048, .inl mem)), (st, .inl (cI, 12, .inl sf)), (bc, .inl (cI, 4, .inl bd)), (it, .inl (cI, 4, .inl (upd (upd g 0 (tu_sob mem sf bd fr fo lw p0 (tu_wrap ac (tu_whole (((p1 : Int32).toInt64) * (((tu_len lw p0) : Int32).toInt64))) (tu_len lw p0)) (tu_wrap dn (tu_whole (((p2 : Int32).toInt64) * (((tu_len lh p0) : Int32).toInt64))) (tu_len lh p0)) 0)) 1 (tu_sob mem sf bd fr fo lw p0 (tu_wrap ac (tu_whole (((p1 : Int32).toInt64) * (((tu_len lw p0) : Int32).toInt64))) (tu_len lw p0)) (tu_wrap dn (tu_whole (((p2 : Int32).toInt64) * (((tu_len lh p0) : Int32).toInt64))) (tu_len lh p0)) 1))))] := hD
  refine lv_iinc (v := 2) (lv' := [(10, .int 2), (9, .int (tu_wrap dn (tu_whole (((p2 : Int32).toInt64) * (((tu_len lh p0) : Int32).toInt64))) (tu_len lh p0))), (8, .int (tu_wrap ac (tu_whole (((p1 : Int32).toInt64) * (((tu_len lw p0) : Int32).toInt64))) (tu_len lw p0))), (7, .int (tu_len lh p0)), (6, .int (tu_len lw p0)), (0, .ref q), (1, .ref u), (2, .int p0), (3, .int p1), (4, .int p2), (5, .ref it)]) hx hb dX1_sampleOne_81 hl (k := 0) rfl (by decide) (by decide) rfl (fun ls hl => ?_)
  refine lv_goto (tgt := 58) hx hb dX1_sampleOne_84 (by decide) ?_
  refine lv_iload hx hb dX1_sampleOne_58 (lv_at hl 0 rfl) ?_
  refine lv_iconst (v := 4) hx hb dX1_sampleOne_60 (by decide) ?_
  refine lv_icmp_ge (tgt := 87) hx hb dX1_sampleOne_61 (by decide) (fun c_3 => absurd c_3 (by decide)) (fun c_3 => ?_)
  refine lv_aload hx hb dX1_sampleOne_64 (lv_at hl 10 rfl) ?_
  refine lv_iload hx hb dX1_sampleOne_66 (lv_at hl 0 rfl) ?_
  refine lv_aload_n hx hb dX1_sampleOne_68 rfl (lv_at hl 5 rfl) ?_
  refine lv_aload_n hx hb dX1_sampleOne_69 rfl (lv_at hl 6 rfl) ?_
  refine lv_iload_n hx hb dX1_sampleOne_70 rfl (lv_at hl 7 rfl) ?_
  refine lv_iload hx hb dX1_sampleOne_71 (lv_at hl 2 rfl) ?_
  refine lv_iload hx hb dX1_sampleOne_73 (lv_at hl 1 rfl) ?_
  refine lv_iload hx hb dX1_sampleOne_75 (lv_at hl 0 rfl) ?_
  refine rd_call (W.runV (As := [.ref u, .int p0, .int (tu_wrap ac (tu_whole (((p1 : Int32).toInt64) * (((tu_len lw p0) : Int32).toInt64))) (tu_len lw p0)), .int (tu_wrap dn (tu_whole (((p2 : Int32).toInt64) * (((tu_len lh p0) : Int32).toInt64))) (tu_len lh p0)), .int 2]) (rest := [.int 2, .ref it]) ⟨hx, hb, hml, hown, hts⟩ (r_sob l dC dI q wd us la nx u fr fo lw lh lv ac dn fi bc st cI mem sf bd tb p0 (tu_wrap ac (tu_whole (((p1 : Int32).toInt64) * (((tu_len lw p0) : Int32).toInt64))) (tu_len lw p0)) (tu_wrap dn (tu_whole (((p2 : Int32).toInt64) * (((tu_len lh p0) : Int32).toInt64))) (tu_len lh p0)) 2 h0 h1 (tu_fo4 h1 (tu_in (by decide))) (tu_in (by decide))) (cwV 5 hts (tg_V tw_308 tw_310 tw_p6 tw_1 tw_311) rfl rfl rfl (by decide +kernel) ⟨Nat.le_of_ble_eq_true rfl, Nat.le_of_ble_eq_true rfl⟩) ⟨rt_blind, va_recv hK hP (ci := 1) (q0 := 0) rfl rfl, fun U hU hW => ⟨rfl, rt_use (hP.sub [0, 1, 2, 3, 4] rfl) (hK.sub [0] rfl) (tb_use hX hS) U hU hW⟩⟩ rfl rfl hl.1 rfl (lv_room (Nat.le_of_ble_eq_true rfl)) dX1_sampleOne_77 ⟨Nat.le_of_ble_eq_true rfl, Nat.le_of_ble_eq_true rfl⟩) ?_
  refine va_iast hx hb hK hP hD hS 5 0 rfl rfl (tu_in (by decide)) dX1_sampleOne_80 (fun H locs hP hD hS => ?_)
  have hP : va_P (dC, dI) vwCl [(q, .inr (1, [.ref wd, .ref us, .ref la, .ref nx])), (u, .inr (0, [.int fr, .int fo, .int lw, .int lh, .int lv, .int ac, .int dn, .int fi, .ref bc, .ref st])), (wd, .inl (cI, 2048, .inl mem)), (st, .inl (cI, 12, .inl sf)), (bc, .inl (cI, 4, .inl bd)), (it, .inl (cI, 4, .inl (upd (upd (upd g 0 (tu_sob mem sf bd fr fo lw p0 (tu_wrap ac (tu_whole (((p1 : Int32).toInt64) * (((tu_len lw p0) : Int32).toInt64))) (tu_len lw p0)) (tu_wrap dn (tu_whole (((p2 : Int32).toInt64) * (((tu_len lh p0) : Int32).toInt64))) (tu_len lh p0)) 0)) 1 (tu_sob mem sf bd fr fo lw p0 (tu_wrap ac (tu_whole (((p1 : Int32).toInt64) * (((tu_len lw p0) : Int32).toInt64))) (tu_len lw p0)) (tu_wrap dn (tu_whole (((p2 : Int32).toInt64) * (((tu_len lh p0) : Int32).toInt64))) (tu_len lh p0)) 1)) 2 (tu_sob mem sf bd fr fo lw p0 (tu_wrap ac (tu_whole (((p1 : Int32).toInt64) * (((tu_len lw p0) : Int32).toInt64))) (tu_len lw p0)) (tu_wrap dn (tu_whole (((p2 : Int32).toInt64) * (((tu_len lh p0) : Int32).toInt64))) (tu_len lh p0)) 2))))] H := hP
  have hD : va_D A [(q, .inr (1, [.ref wd, .ref us, .ref la, .ref nx])), (u, .inr (0, [.int fr, .int fo, .int lw, .int lh, .int lv, .int ac, .int dn, .int fi, .ref bc, .ref st])), (wd, .inl (cI, 2048, .inl mem)), (st, .inl (cI, 12, .inl sf)), (bc, .inl (cI, 4, .inl bd)), (it, .inl (cI, 4, .inl (upd (upd (upd g 0 (tu_sob mem sf bd fr fo lw p0 (tu_wrap ac (tu_whole (((p1 : Int32).toInt64) * (((tu_len lw p0) : Int32).toInt64))) (tu_len lw p0)) (tu_wrap dn (tu_whole (((p2 : Int32).toInt64) * (((tu_len lh p0) : Int32).toInt64))) (tu_len lh p0)) 0)) 1 (tu_sob mem sf bd fr fo lw p0 (tu_wrap ac (tu_whole (((p1 : Int32).toInt64) * (((tu_len lw p0) : Int32).toInt64))) (tu_len lw p0)) (tu_wrap dn (tu_whole (((p2 : Int32).toInt64) * (((tu_len lh p0) : Int32).toInt64))) (tu_len lh p0)) 1)) 2 (tu_sob mem sf bd fr fo lw p0 (tu_wrap ac (tu_whole (((p1 : Int32).toInt64) * (((tu_len lw p0) : Int32).toInt64))) (tu_len lw p0)) (tu_wrap dn (tu_whole (((p2 : Int32).toInt64) * (((tu_len lh p0) : Int32).toInt64))) (tu_len lh p0)) 2))))] := hD
  refine lv_iinc (v := 3) (lv' := [(10, .int 3), (9, .int (tu_wrap dn (tu_whole (((p2 : Int32).toInt64) * (((tu_len lh p0) : Int32).toInt64))) (tu_len lh p0))), (8, .int (tu_wrap ac (tu_whole (((p1 : Int32).toInt64) * (((tu_len lw p0) : Int32).toInt64))) (tu_len lw p0))), (7, .int (tu_len lh p0)), (6, .int (tu_len lw p0)), (0, .ref q), (1, .ref u), (2, .int p0), (3, .int p1), (4, .int p2), (5, .ref it)]) hx hb dX1_sampleOne_81 hl (k := 0) rfl (by decide) (by decide) rfl (fun ls hl => ?_)
  refine lv_goto (tgt := 58) hx hb dX1_sampleOne_84 (by decide) ?_
  refine lv_iload hx hb dX1_sampleOne_58 (lv_at hl 0 rfl) ?_
  refine lv_iconst (v := 4) hx hb dX1_sampleOne_60 (by decide) ?_
  refine lv_icmp_ge (tgt := 87) hx hb dX1_sampleOne_61 (by decide) (fun c_4 => absurd c_4 (by decide)) (fun c_4 => ?_)
  refine lv_aload hx hb dX1_sampleOne_64 (lv_at hl 10 rfl) ?_
  refine lv_iload hx hb dX1_sampleOne_66 (lv_at hl 0 rfl) ?_
  refine lv_aload_n hx hb dX1_sampleOne_68 rfl (lv_at hl 5 rfl) ?_
  refine lv_aload_n hx hb dX1_sampleOne_69 rfl (lv_at hl 6 rfl) ?_
  refine lv_iload_n hx hb dX1_sampleOne_70 rfl (lv_at hl 7 rfl) ?_
  refine lv_iload hx hb dX1_sampleOne_71 (lv_at hl 2 rfl) ?_
  refine lv_iload hx hb dX1_sampleOne_73 (lv_at hl 1 rfl) ?_
  refine lv_iload hx hb dX1_sampleOne_75 (lv_at hl 0 rfl) ?_
  refine rd_call (W.runV (As := [.ref u, .int p0, .int (tu_wrap ac (tu_whole (((p1 : Int32).toInt64) * (((tu_len lw p0) : Int32).toInt64))) (tu_len lw p0)), .int (tu_wrap dn (tu_whole (((p2 : Int32).toInt64) * (((tu_len lh p0) : Int32).toInt64))) (tu_len lh p0)), .int 3]) (rest := [.int 3, .ref it]) ⟨hx, hb, hml, hown, hts⟩ (r_sob l dC dI q wd us la nx u fr fo lw lh lv ac dn fi bc st cI mem sf bd tb p0 (tu_wrap ac (tu_whole (((p1 : Int32).toInt64) * (((tu_len lw p0) : Int32).toInt64))) (tu_len lw p0)) (tu_wrap dn (tu_whole (((p2 : Int32).toInt64) * (((tu_len lh p0) : Int32).toInt64))) (tu_len lh p0)) 3 h0 h1 (tu_fo4 h1 (tu_in (by decide))) (tu_in (by decide))) (cwV 5 hts (tg_V tw_308 tw_310 tw_p6 tw_1 tw_311) rfl rfl rfl (by decide +kernel) ⟨Nat.le_of_ble_eq_true rfl, Nat.le_of_ble_eq_true rfl⟩) ⟨rt_blind, va_recv hK hP (ci := 1) (q0 := 0) rfl rfl, fun U hU hW => ⟨rfl, rt_use (hP.sub [0, 1, 2, 3, 4] rfl) (hK.sub [0] rfl) (tb_use hX hS) U hU hW⟩⟩ rfl rfl hl.1 rfl (lv_room (Nat.le_of_ble_eq_true rfl)) dX1_sampleOne_77 ⟨Nat.le_of_ble_eq_true rfl, Nat.le_of_ble_eq_true rfl⟩) ?_
  refine va_iast hx hb hK hP hD hS 5 0 rfl rfl (tu_in (by decide)) dX1_sampleOne_80 (fun H locs hP hD hS => ?_)
  have hP : va_P (dC, dI) vwCl [(q, .inr (1, [.ref wd, .ref us, .ref la, .ref nx])), (u, .inr (0, [.int fr, .int fo, .int lw, .int lh, .int lv, .int ac, .int dn, .int fi, .ref bc, .ref st])), (wd, .inl (cI, 2048, .inl mem)), (st, .inl (cI, 12, .inl sf)), (bc, .inl (cI, 4, .inl bd)), (it, .inl (cI, 4, .inl (upd (upd (upd (upd g 0 (tu_sob mem sf bd fr fo lw p0 (tu_wrap ac (tu_whole (((p1 : Int32).toInt64) * (((tu_len lw p0) : Int32).toInt64))) (tu_len lw p0)) (tu_wrap dn (tu_whole (((p2 : Int32).toInt64) * (((tu_len lh p0) : Int32).toInt64))) (tu_len lh p0)) 0)) 1 (tu_sob mem sf bd fr fo lw p0 (tu_wrap ac (tu_whole (((p1 : Int32).toInt64) * (((tu_len lw p0) : Int32).toInt64))) (tu_len lw p0)) (tu_wrap dn (tu_whole (((p2 : Int32).toInt64) * (((tu_len lh p0) : Int32).toInt64))) (tu_len lh p0)) 1)) 2 (tu_sob mem sf bd fr fo lw p0 (tu_wrap ac (tu_whole (((p1 : Int32).toInt64) * (((tu_len lw p0) : Int32).toInt64))) (tu_len lw p0)) (tu_wrap dn (tu_whole (((p2 : Int32).toInt64) * (((tu_len lh p0) : Int32).toInt64))) (tu_len lh p0)) 2)) 3 (tu_sob mem sf bd fr fo lw p0 (tu_wrap ac (tu_whole (((p1 : Int32).toInt64) * (((tu_len lw p0) : Int32).toInt64))) (tu_len lw p0)) (tu_wrap dn (tu_whole (((p2 : Int32).toInt64) * (((tu_len lh p0) : Int32).toInt64))) (tu_len lh p0)) 3))))] H := hP
  have hD : va_D A [(q, .inr (1, [.ref wd, .ref us, .ref la, .ref nx])), (u, .inr (0, [.int fr, .int fo, .int lw, .int lh, .int lv, .int ac, .int dn, .int fi, .ref bc, .ref st])), (wd, .inl (cI, 2048, .inl mem)), (st, .inl (cI, 12, .inl sf)), (bc, .inl (cI, 4, .inl bd)), (it, .inl (cI, 4, .inl (upd (upd (upd (upd g 0 (tu_sob mem sf bd fr fo lw p0 (tu_wrap ac (tu_whole (((p1 : Int32).toInt64) * (((tu_len lw p0) : Int32).toInt64))) (tu_len lw p0)) (tu_wrap dn (tu_whole (((p2 : Int32).toInt64) * (((tu_len lh p0) : Int32).toInt64))) (tu_len lh p0)) 0)) 1 (tu_sob mem sf bd fr fo lw p0 (tu_wrap ac (tu_whole (((p1 : Int32).toInt64) * (((tu_len lw p0) : Int32).toInt64))) (tu_len lw p0)) (tu_wrap dn (tu_whole (((p2 : Int32).toInt64) * (((tu_len lh p0) : Int32).toInt64))) (tu_len lh p0)) 1)) 2 (tu_sob mem sf bd fr fo lw p0 (tu_wrap ac (tu_whole (((p1 : Int32).toInt64) * (((tu_len lw p0) : Int32).toInt64))) (tu_len lw p0)) (tu_wrap dn (tu_whole (((p2 : Int32).toInt64) * (((tu_len lh p0) : Int32).toInt64))) (tu_len lh p0)) 2)) 3 (tu_sob mem sf bd fr fo lw p0 (tu_wrap ac (tu_whole (((p1 : Int32).toInt64) * (((tu_len lw p0) : Int32).toInt64))) (tu_len lw p0)) (tu_wrap dn (tu_whole (((p2 : Int32).toInt64) * (((tu_len lh p0) : Int32).toInt64))) (tu_len lh p0)) 3))))] := hD
  refine lv_iinc (v := 4) (lv' := [(10, .int 4), (9, .int (tu_wrap dn (tu_whole (((p2 : Int32).toInt64) * (((tu_len lh p0) : Int32).toInt64))) (tu_len lh p0))), (8, .int (tu_wrap ac (tu_whole (((p1 : Int32).toInt64) * (((tu_len lw p0) : Int32).toInt64))) (tu_len lw p0))), (7, .int (tu_len lh p0)), (6, .int (tu_len lw p0)), (0, .ref q), (1, .ref u), (2, .int p0), (3, .int p1), (4, .int p2), (5, .ref it)]) hx hb dX1_sampleOne_81 hl (k := 0) rfl (by decide) (by decide) rfl (fun ls hl => ?_)
  refine lv_goto (tgt := 58) hx hb dX1_sampleOne_84 (by decide) ?_
  refine lv_iload hx hb dX1_sampleOne_58 (lv_at hl 0 rfl) ?_
  refine lv_iconst (v := 4) hx hb dX1_sampleOne_60 (by decide) ?_
  refine lv_icmp_ge (tgt := 87) hx hb dX1_sampleOne_61 (by decide) (fun c_5 => ?_) (fun c_5 => absurd (by decide) c_5)
  have hP9 : va_P (dC, dI) vwCl [(q, .inr (1, [.ref wd, .ref us, .ref la, .ref nx])), (u, .inr (0, [.int fr, .int fo, .int lw, .int lh, .int lv, .int ac, .int dn, .int fi, .ref bc, .ref st])), (wd, .inl (cI, 2048, .inl mem)), (st, .inl (cI, 12, .inl sf)), (bc, .inl (cI, 4, .inl bd)), (it, .inl (cI, 4, .inl (tu_put4 g (tu_one mem sf bd fr fo lw lh ac dn p0 p1 p2 0) (tu_one mem sf bd fr fo lw lh ac dn p0 p1 p2 1) (tu_one mem sf bd fr fo lw lh ac dn p0 p1 p2 2) (tu_one mem sf bd fr fo lw lh ac dn p0 p1 p2 3))))] H := hP.sub [0, 1, 2, 3, 4, 5] rfl
  have hD9 : va_D A [(q, .inr (1, [.ref wd, .ref us, .ref la, .ref nx])), (u, .inr (0, [.int fr, .int fo, .int lw, .int lh, .int lv, .int ac, .int dn, .int fi, .ref bc, .ref st])), (wd, .inl (cI, 2048, .inl mem)), (st, .inl (cI, 12, .inl sf)), (bc, .inl (cI, 4, .inl bd)), (it, .inl (cI, 4, .inl (tu_put4 g (tu_one mem sf bd fr fo lw lh ac dn p0 p1 p2 0) (tu_one mem sf bd fr fo lw lh ac dn p0 p1 p2 1) (tu_one mem sf bd fr fo lw lh ac dn p0 p1 p2 2) (tu_one mem sf bd fr fo lw lh ac dn p0 p1 p2 3))))] := hD.sub [0, 1, 2, 3, 4, 5] (by decide) rfl
  have hK9 : va_K (dC, dI) vwCl [(cI, .int)] s := hK.sub [0] rfl
  exact W.vret hx hb hr (fun t ht hW => ⟨⟨(), rfl, trivial, by rw [ht]; exact hP9, va_K.moved hW.alike hK9, hD9⟩, hS.F ht⟩) hS.2.2 dX1_sampleOne_87
set_option maxHeartbeats 4000000 in
set_option maxRecDepth 100000 in
theorem w_sampleFour (l : Launch) (dC : Nat → ClassId) (dI : Nat → Nat → Nat) (q wd us la nx : Nat) (u : Nat) (fr fo lw lh lv ac dn fi : Int32) (bc st : Nat) (it : Nat) (cI : ClassId) (mem sf bd g : Nat → Int32) (tb : Nat × Nat × Nat) (p0 p1 p2 : Int32) (sz : Nat) (h0 : vp_in p0 12) (h1 : vp_in fo 8) : Met l yX1_sampleFour wsX1_sampleFour ({ frames := 4, cells := 0, slots := 0, locals := 100 }) (va_Pc [.ref q, .ref u, .int p0, .int p1, .int p2, .ref it] (wt_P (dC, dI) vwCl [(q, .inr (1, [.ref wd, .ref us, .ref la, .ref nx])), (u, .inr (0, [.int fr, .int fo, .int lw, .int lh, .int lv, .int ac, .int dn, .int fi, .ref bc, .ref st])), (wd, .inl (cI, 2048, .inl mem)), (st, .inl (cI, 12, .inl sf)), (bc, .inl (cI, 4, .inl bd)), (it, .inl (cI, 4, .inl g))] [(cI, .int)] sz tb)) (va_Qv (fun _ : Unit => True) (wr_B (dC, dI) vwCl [(q, .inr (1, [.ref wd, .ref us, .ref la, .ref nx])), (u, .inr (0, [.int fr, .int fo, .int lw, .int lh, .int lv, .int ac, .int dn, .int fi, .ref bc, .ref st])), (wd, .inl (cI, 2048, .inl mem)), (st, .inl (cI, 12, .inl sf)), (bc, .inl (cI, 4, .inl bd)), (it, .inl (cI, 4, .inl (tu_put4 g (tu_four mem sf bd fr fo lw lh ac dn p0 p1 p2 0) (tu_four mem sf bd fr fo lw lh ac dn p0 p1 p2 1) (tu_four mem sf bd fr fo lw lh ac dn p0 p1 p2 2) (tu_four mem sf bd fr fo lw lh ac dn p0 p1 p2 3))))] [(cI, .int)] (va_A [(q, .inr (1, [.ref wd, .ref us, .ref la, .ref nx])), (u, .inr (0, [.int fr, .int fo, .int lw, .int lh, .int lv, .int ac, .int dn, .int fi, .ref bc, .ref st])), (wd, .inl (cI, 2048, .inl mem)), (st, .inl (cI, 12, .inl sf)), (bc, .inl (cI, 4, .inl bd)), (it, .inl (cI, 4, .inl g))] sz)) (va_A [(q, .inr (1, [.ref wd, .ref us, .ref la, .ref nx])), (u, .inr (0, [.int fr, .int fo, .int lw, .int lh, .int lv, .int ac, .int dn, .int fi, .ref bc, .ref st])), (wd, .inl (cI, 2048, .inl mem)), (st, .inl (cI, 12, .inl sf)), (bc, .inl (cI, 4, .inl bd)), (it, .inl (cI, 4, .inl g))] sz)) 0 0 (va_A [(q, .inr (1, [.ref wd, .ref us, .ref la, .ref nx])), (u, .inr (0, [.int fr, .int fo, .int lw, .int lh, .int lv, .int ac, .int dn, .int fi, .ref bc, .ref st])), (wd, .inl (cI, 2048, .inl mem)), (st, .inl (cI, 12, .inl sf)), (bc, .inl (cI, 4, .inl bd)), (it, .inl (cI, 4, .inl g))] sz) := by
  refine Met.ofW (cc := cX1_sampleFour) (maxL := 21) (ret := none) (by decide) rfl ?_
  intro p e s m args below meth c s₁ B hml hv
  obtain ⟨rfl, hsz, hP, hK, hD0, hX⟩ := hv
  have hx := B.exec
  have hb := B.bytes
  have hr := B.returns
  have hts := atoms_spec (ws := wsX1_sampleFour) B.pre
  have hown : s.vm.findClass "TextureUnits" = some m.cls := findClass_of_methodNamed B.named
  have hlocks := B.notSynchronized
  subst hsz
  have hD := hD0.self (sz := s.heap.size)
  generalize hAe : va_A [(q, .inr (1, [.ref wd, .ref us, .ref la, .ref nx])), (u, .inr (0, [.int fr, .int fo, .int lw, .int lh, .int lv, .int ac, .int dn, .int fi, .ref bc, .ref st])), (wd, .inl (cI, 2048, .inl mem)), (st, .inl (cI, 12, .inl sf)), (bc, .inl (cI, 4, .inl bd)), (it, .inl (cI, 4, .inl g))] s.heap.size = A at hD hX ⊢
  have hA : ∀ q : Nat, s.heap.size ≤ q → A q := fun q h => by rw [← hAe]; exact Or.inr h
  have hS : va_S A s.heap s.heap [] := va_S.rf
  have hP : va_P (dC, dI) vwCl [(q, .inr (1, [.ref wd, .ref us, .ref la, .ref nx])), (u, .inr (0, [.int fr, .int fo, .int lw, .int lh, .int lv, .int ac, .int dn, .int fi, .ref bc, .ref st])), (wd, .inl (cI, 2048, .inl mem)), (st, .inl (cI, 12, .inl sf)), (bc, .inl (cI, 4, .inl bd)), (it, .inl (cI, 4, .inl g))] s.heap := hP
  have hl := lv_entry ([.ref q, .ref u, .int p0, .int p1, .int p2, .ref it]) (n := 21) (Nat.le_of_ble_eq_true rfl)
  rw [lg_entry_eq]
  generalize (lg_sl ([.ref q, .ref u, .int p0, .int p1, .int p2, .ref it]) ++ List.replicate (21 - (lg_sl ([.ref q, .ref u, .int p0, .int p1, .int p2, .ref it])).length) Slot.unset).toArray = ls at hl ⊢
  have hl : lv_has ls 21 [(0, .ref q), (1, .ref u), (2, .int p0), (3, .int p1), (4, .int p2), (5, .ref it)] := hl
  refine lv_aload_n hx hb dX1_sampleFour_0 rfl (lv_at hl 1 rfl) ?_
  refine lv_iload_n hx hb dX1_sampleFour_1 rfl (lv_at hl 2 rfl) ?_
  refine rd_call (W.runV (As := [.int p0]) (rest := []) ⟨hx, hb, hml, hown, hts⟩ (r_width l dC dI u fr fo lw lh lv ac dn fi bc st p0) (cwV 1 hts (tg_V tw_238 tw_31 tw_32 tw_2 tw_33) rfl rfl rfl (by decide +kernel) ⟨Nat.le_of_ble_eq_true rfl, Nat.le_of_ble_eq_true rfl⟩) ⟨rd_blind, va_recv hK hP (ci := 0) (q0 := 1) rfl rfl, fun U hU hW => ⟨rfl, rd_use (hP.sub [1] rfl) (hK.sub [] rfl) U hU hW⟩⟩ rfl rfl hl.1 rfl (lv_room (Nat.le_of_ble_eq_true rfl)) dX1_sampleFour_2 ⟨Nat.le_of_ble_eq_true rfl, Nat.le_of_ble_eq_true rfl⟩) ?_
  refine lv_istore (lv' := [(6, .int (tu_len lw p0)), (0, .ref q), (1, .ref u), (2, .int p0), (3, .int p1), (4, .int p2), (5, .ref it)]) hx hb dX1_sampleFour_5 hl (by decide) rfl (fun ls hl => ?_)
  refine lv_aload_n hx hb dX1_sampleFour_7 rfl (lv_at hl 2 rfl) ?_
  refine lv_iload_n hx hb dX1_sampleFour_8 rfl (lv_at hl 3 rfl) ?_
  refine rd_call (W.runV (As := [.int p0]) (rest := []) ⟨hx, hb, hml, hown, hts⟩ (r_height l dC dI u fr fo lw lh lv ac dn fi bc st p0) (cwV 1 hts (tg_V tw_239 tw_35 tw_36 tw_2 tw_37) rfl rfl rfl (by decide +kernel) ⟨Nat.le_of_ble_eq_true rfl, Nat.le_of_ble_eq_true rfl⟩) ⟨rd_blind, va_recv hK hP (ci := 0) (q0 := 1) rfl rfl, fun U hU hW => ⟨rfl, rd_use (hP.sub [1] rfl) (hK.sub [] rfl) U hU hW⟩⟩ rfl rfl hl.1 rfl (lv_room (Nat.le_of_ble_eq_true rfl)) dX1_sampleFour_9 ⟨Nat.le_of_ble_eq_true rfl, Nat.le_of_ble_eq_true rfl⟩) ?_
  refine lv_istore (lv' := [(7, .int (tu_len lh p0)), (6, .int (tu_len lw p0)), (0, .ref q), (1, .ref u), (2, .int p0), (3, .int p1), (4, .int p2), (5, .ref it)]) hx hb dX1_sampleFour_12 hl (by decide) rfl (fun ls hl => ?_)
  refine lv_iload_n hx hb dX1_sampleFour_14 rfl (lv_at hl 5 rfl) ?_
  refine lv_i2l hx hb dX1_sampleFour_15 rfl ?_
  refine lv_iload hx hb dX1_sampleFour_16 (lv_at hl 1 rfl) ?_
  refine lv_i2l hx hb dX1_sampleFour_18 rfl ?_
  refine lv_lmul hx hb dX1_sampleFour_19 ?_
  refine lv_ldc2 (v := 32768) hx hb hown (hts _ (tw_c tw_294)) dX1_sampleFour_20 ?_
  refine lv_lsub hx hb dX1_sampleFour_23 ?_
  refine lv_lstore (lv' := [(8, .long ((((p1 : Int32).toInt64) * (((tu_len lw p0) : Int32).toInt64)) - (32768 : Int64))), (7, .int (tu_len lh p0)), (6, .int (tu_len lw p0)), (0, .ref q), (1, .ref u), (2, .int p0), (3, .int p1), (4, .int p2), (5, .ref it)]) hx hb dX1_sampleFour_24 hl (by decide) rfl (fun ls hl => ?_)
  refine lv_iload hx hb dX1_sampleFour_26 (lv_at hl 7 rfl) ?_
  refine lv_i2l hx hb dX1_sampleFour_28 rfl ?_
  refine lv_iload hx hb dX1_sampleFour_29 (lv_at hl 1 rfl) ?_
  refine lv_i2l hx hb dX1_sampleFour_31 rfl ?_
  refine lv_lmul hx hb dX1_sampleFour_32 ?_
  refine lv_ldc2 (v := 32768) hx hb hown (hts _ (tw_c tw_294)) dX1_sampleFour_33 ?_
  refine lv_lsub hx hb dX1_sampleFour_36 ?_
  refine lv_lstore (lv' := [(10, .long ((((p2 : Int32).toInt64) * (((tu_len lh p0) : Int32).toInt64)) - (32768 : Int64))), (8, .long ((((p1 : Int32).toInt64) * (((tu_len lw p0) : Int32).toInt64)) - (32768 : Int64))), (7, .int (tu_len lh p0)), (6, .int (tu_len lw p0)), (0, .ref q), (1, .ref u), (2, .int p0), (3, .int p1), (4, .int p2), (5, .ref it)]) hx hb dX1_sampleFour_37 hl (by decide) rfl (fun ls hl => ?_)
  refine lv_aload_n hx hb dX1_sampleFour_39 rfl (lv_at hl 5 rfl) ?_
  refine va_get (D := (dC, dI)) (ci := 0) (v := .int ac) (C := "TextureUnits$Unit") (T := TX0) (N := 10) hx hb hts (tw_s inX0) hown hK hP 1 rfl rfl 5 (by decide) (hts _ (tw_c tw_44)) (fun _ h9 => h9) rfl dX1_sampleFour_40 ?_
  refine lv_lload hx hb dX1_sampleFour_43 (lv_at hl 1 rfl) ?_
  refine rd_call (W.runS (As := [.long ((((p1 : Int32).toInt64) * (((tu_len lw p0) : Int32).toInt64)) - (32768 : Int64))]) (rest := [.int ac]) ⟨hx, hb, hml, hown, hts⟩ (r_whole l ((((p1 : Int32).toInt64) * (((tu_len lw p0) : Int32).toInt64)) - (32768 : Int64))) (va_cwS 1 hts (tg_S tw_295 tw_296 tw_1 tw_297) rfl rfl rfl (by decide +kernel) ⟨Nat.le_of_ble_eq_true rfl, Nat.le_of_ble_eq_true rfl⟩) preEq rfl rfl hl.1 rfl (lv_room (Nat.le_of_ble_eq_true rfl)) dX1_sampleFour_45 ⟨Nat.le_of_ble_eq_true rfl, Nat.le_of_ble_eq_true rfl⟩) ?_
  refine lv_iload hx hb dX1_sampleFour_48 (lv_at hl 3 rfl) ?_
  refine rd_call (W.runS (As := [.int ac, .int (tu_whole ((((p1 : Int32).toInt64) * (((tu_len lw p0) : Int32).toInt64)) - (32768 : Int64))), .int (tu_len lw p0)]) (rest := []) ⟨hx, hb, hml, hown, hts⟩ (r_wrapped l ac (tu_whole ((((p1 : Int32).toInt64) * (((tu_len lw p0) : Int32).toInt64)) - (32768 : Int64))) (tu_len lw p0)) (va_cwS 3 hts (tg_S tw_298 tw_299 tw_1 tw_300) rfl rfl rfl (by decide +kernel) ⟨Nat.le_of_ble_eq_true rfl, Nat.le_of_ble_eq_true rfl⟩) preEq rfl rfl hl.1 rfl (lv_room (Nat.le_of_ble_eq_true rfl)) dX1_sampleFour_50 ⟨Nat.le_of_ble_eq_true rfl, Nat.le_of_ble_eq_true rfl⟩) ?_
  refine lv_istore (lv' := [(12, .int (tu_wrap ac (tu_whole ((((p1 : Int32).toInt64) * (((tu_len lw p0) : Int32).toInt64)) - (32768 : Int64))) (tu_len lw p0))), (10, .long ((((p2 : Int32).toInt64) * (((tu_len lh p0) : Int32).toInt64)) - (32768 : Int64))), (8, .long ((((p1 : Int32).toInt64) * (((tu_len lw p0) : Int32).toInt64)) - (32768 : Int64))), (7, .int (tu_len lh p0)), (6, .int (tu_len lw p0)), (0, .ref q), (1, .ref u), (2, .int p0), (3, .int p1), (4, .int p2), (5, .ref it)]) hx hb dX1_sampleFour_53 hl (by decide) rfl (fun ls hl => ?_)
  refine lv_aload_n hx hb dX1_sampleFour_55 rfl (lv_at hl 6 rfl) ?_
  refine va_get (D := (dC, dI)) (ci := 0) (v := .int ac) (C := "TextureUnits$Unit") (T := TX0) (N := 10) hx hb hts (tw_s inX0) hown hK hP 1 rfl rfl 5 (by decide) (hts _ (tw_c tw_44)) (fun _ h9 => h9) rfl dX1_sampleFour_56 ?_
  refine lv_lload hx hb dX1_sampleFour_59 (lv_at hl 2 rfl) ?_
  refine rd_call (W.runS (As := [.long ((((p1 : Int32).toInt64) * (((tu_len lw p0) : Int32).toInt64)) - (32768 : Int64))]) (rest := [.int ac]) ⟨hx, hb, hml, hown, hts⟩ (r_whole l ((((p1 : Int32).toInt64) * (((tu_len lw p0) : Int32).toInt64)) - (32768 : Int64))) (va_cwS 1 hts (tg_S tw_295 tw_296 tw_1 tw_297) rfl rfl rfl (by decide +kernel) ⟨Nat.le_of_ble_eq_true rfl, Nat.le_of_ble_eq_true rfl⟩) preEq rfl rfl hl.1 rfl (lv_room (Nat.le_of_ble_eq_true rfl)) dX1_sampleFour_61 ⟨Nat.le_of_ble_eq_true rfl, Nat.le_of_ble_eq_true rfl⟩) ?_
  refine lv_iconst (v := 1) hx hb dX1_sampleFour_64 (by decide) ?_
  refine lv_iadd hx hb dX1_sampleFour_65 ?_
  refine lv_iload hx hb dX1_sampleFour_66 (lv_at hl 4 rfl) ?_
  refine rd_call (W.runS (As := [.int ac, .int ((tu_whole ((((p1 : Int32).toInt64) * (((tu_len lw p0) : Int32).toInt64)) - (32768 : Int64))) + (1 : Int32)), .int (tu_len lw p0)]) (rest := []) ⟨hx, hb, hml, hown, hts⟩ (r_wrapped l ac ((tu_whole ((((p1 : Int32).toInt64) * (((tu_len lw p0) : Int32).toInt64)) - (32768 : Int64))) + (1 : Int32)) (tu_len lw p0)) (va_cwS 3 hts (tg_S tw_298 tw_299 tw_1 tw_300) rfl rfl rfl (by decide +kernel) ⟨Nat.le_of_ble_eq_true rfl, Nat.le_of_ble_eq_true rfl⟩) preEq rfl rfl hl.1 rfl (lv_room (Nat.le_of_ble_eq_true rfl)) dX1_sampleFour_68 ⟨Nat.le_of_ble_eq_true rfl, Nat.le_of_ble_eq_true rfl⟩) ?_
  refine lv_istore (lv' := [(13, .int (tu_wrap ac ((tu_whole ((((p1 : Int32).toInt64) * (((tu_len lw p0) : Int32).toInt64)) - (32768 : Int64))) + (1 : Int32)) (tu_len lw p0))), (12, .int (tu_wrap ac (tu_whole ((((p1 : Int32).toInt64) * (((tu_len lw p0) : Int32).toInt64)) - (32768 : Int64))) (tu_len lw p0))), (10, .long ((((p2 : Int32).toInt64) * (((tu_len lh p0) : Int32).toInt64)) - (32768 : Int64))), (8, .long ((((p1 : Int32).toInt64) * (((tu_len lw p0) : Int32).toInt64)) - (32768 : Int64))), (7, .int (tu_len lh p0)), (6, .int (tu_len lw p0)), (0, .ref q), (1, .ref u), (2, .int p0), (3, .int p1), (4, .int p2), (5, .ref it)]) hx hb dX1_sampleFour_71 hl (by decide) rfl (fun ls hl => ?_)
  refine lv_aload_n hx hb dX1_sampleFour_73 rfl (lv_at hl 7 rfl) ?_
  refine va_get (D := (dC, dI)) (ci := 0) (v := .int dn) (C := "TextureUnits$Unit") (T := TX0) (N := 10) hx hb hts (tw_s inX0) hown hK hP 1 rfl rfl 6 (by decide) (hts _ (tw_c tw_45)) (fun _ h9 => h9) rfl dX1_sampleFour_74 ?_
  refine lv_lload hx hb dX1_sampleFour_77 (lv_at hl 2 rfl) ?_
  refine rd_call (W.runS (As := [.long ((((p2 : Int32).toInt64) * (((tu_len lh p0) : Int32).toInt64)) - (32768 : Int64))]) (rest := [.int dn]) ⟨hx, hb, hml, hown, hts⟩ (r_whole l ((((p2 : Int32).toInt64) * (((tu_len lh p0) : Int32).toInt64)) - (32768 : Int64))) (va_cwS 1 hts (tg_S tw_295 tw_296 tw_1 tw_297) rfl rfl rfl (by decide +kernel) ⟨Nat.le_of_ble_eq_true rfl, Nat.le_of_ble_eq_true rfl⟩) preEq rfl rfl hl.1 rfl (lv_room (Nat.le_of_ble_eq_true rfl)) dX1_sampleFour_79 ⟨Nat.le_of_ble_eq_true rfl, Nat.le_of_ble_eq_true rfl⟩) ?_
  refine lv_iload hx hb dX1_sampleFour_82 (lv_at hl 4 rfl) ?_
  refine rd_call (W.runS (As := [.int dn, .int (tu_whole ((((p2 : Int32).toInt64) * (((tu_len lh p0) : Int32).toInt64)) - (32768 : Int64))), .int (tu_len lh p0)]) (rest := []) ⟨hx, hb, hml, hown, hts⟩ (r_wrapped l dn (tu_whole ((((p2 : Int32).toInt64) * (((tu_len lh p0) : Int32).toInt64)) - (32768 : Int64))) (tu_len lh p0)) (va_cwS 3 hts (tg_S tw_298 tw_299 tw_1 tw_300) rfl rfl rfl (by decide +kernel) ⟨Nat.le_of_ble_eq_true rfl, Nat.le_of_ble_eq_true rfl⟩) preEq rfl rfl hl.1 rfl (lv_room (Nat.le_of_ble_eq_true rfl)) dX1_sampleFour_84 ⟨Nat.le_of_ble_eq_true rfl, Nat.le_of_ble_eq_true rfl⟩) ?_
  refine lv_istore (lv' := [(14, .int (tu_wrap dn (tu_whole ((((p2 : Int32).toInt64) * (((tu_len lh p0) : Int32).toInt64)) - (32768 : Int64))) (tu_len lh p0))), (13, .int (tu_wrap ac ((tu_whole ((((p1 : Int32).toInt64) * (((tu_len lw p0) : Int32).toInt64)) - (32768 : Int64))) + (1 : Int32)) (tu_len lw p0))), (12, .int (tu_wrap ac (tu_whole ((((p1 : Int32).toInt64) * (((tu_len lw p0) : Int32).toInt64)) - (32768 : Int64))) (tu_len lw p0))), (10, .long ((((p2 : Int32).toInt64) * (((tu_len lh p0) : Int32).toInt64)) - (32768 : Int64))), (8, .long ((((p1 : Int32).toInt64) * (((tu_len lw p0) : Int32).toInt64)) - (32768 : Int64))), (7, .int (tu_len lh p0)), (6, .int (tu_len lw p0)), (0, .ref q), (1, .ref u), (2, .int p0), (3, .int p1), (4, .int p2), (5, .ref it)]) hx hb dX1_sampleFour_87 hl (by decide) rfl (fun ls hl => ?_)
  refine lv_aload_n hx hb dX1_sampleFour_89 rfl (lv_at hl 8 rfl) ?_
  refine va_get (D := (dC, dI)) (ci := 0) (v := .int dn) (C := "TextureUnits$Unit") (T := TX0) (N := 10) hx hb hts (tw_s inX0) hown hK hP 1 rfl rfl 6 (by decide) (hts _ (tw_c tw_45)) (fun _ h9 => h9) rfl dX1_sampleFour_90 ?_
  refine lv_lload hx hb dX1_sampleFour_93 (lv_at hl 3 rfl) ?_
  refine rd_call (W.runS (As := [.long ((((p2 : Int32).toInt64) * (((tu_len lh p0) : Int32).toInt64)) - (32768 : Int64))]) (rest := [.int dn]) ⟨hx, hb, hml, hown, hts⟩ (r_whole l ((((p2 : Int32).toInt64) * (((tu_len lh p0) : Int32).toInt64)) - (32768 : Int64))) (va_cwS 1 hts (tg_S tw_295 tw_296 tw_1 tw_297) rfl rfl rfl (by decide +kernel) ⟨Nat.le_of_ble_eq_true rfl, Nat.le_of_ble_eq_true rfl⟩) preEq rfl rfl hl.1 rfl (lv_room (Nat.le_of_ble_eq_true rfl)) dX1_sampleFour_95 ⟨Nat.le_of_ble_eq_true rfl, Nat.le_of_ble_eq_true rfl⟩) ?_
  refine lv_iconst (v := 1) hx hb dX1_sampleFour_98 (by decide) ?_
  refine lv_iadd hx hb dX1_sampleFour_99 ?_
  refine lv_iload hx hb dX1_sampleFour_100 (lv_at hl 5 rfl) ?_
  refine rd_call (W.runS (As := [.int dn, .int ((tu_whole ((((p2 : Int32).toInt64) * (((tu_len lh p0) : Int32).toInt64)) - (32768 : Int64))) + (1 : Int32)), .int (tu_len lh p0)]) (rest := []) ⟨hx, hb, hml, hown, hts⟩ (r_wrapped l dn ((tu_whole ((((p2 : Int32).toInt64) * (((tu_len lh p0) : Int32).toInt64)) - (32768 : Int64))) + (1 : Int32)) (tu_len lh p0)) (va_cwS 3 hts (tg_S tw_298 tw_299 tw_1 tw_300) rfl rfl rfl (by decide +kernel) ⟨Nat.le_of_ble_eq_true rfl, Nat.le_of_ble_eq_true rfl⟩) preEq rfl rfl hl.1 rfl (lv_room (Nat.le_of_ble_eq_true rfl)) dX1_sampleFour_102 ⟨Nat.le_of_ble_eq_true rfl, Nat.le_of_ble_eq_true rfl⟩) ?_
  refine lv_istore (lv' := [(15, .int (tu_wrap dn ((tu_whole ((((p2 : Int32).toInt64) * (((tu_len lh p0) : Int32).toInt64)) - (32768 : Int64))) + (1 : Int32)) (tu_len lh p0))), (14, .int (tu_wrap dn (tu_whole ((((p2 : Int32).toInt64) * (((tu_len lh p0) : Int32).toInt64)) - (32768 : Int64))) (tu_len lh p0))), (13, .int (tu_wrap ac ((tu_whole ((((p1 : Int32).toInt64) * (((tu_len lw p0) : Int32).toInt64)) - (32768 : Int64))) + (1 : Int32)) (tu_len lw p0))), (12, .int (tu_wrap ac (tu_whole ((((p1 : Int32).toInt64) * (((tu_len lw p0) : Int32).toInt64)) - (32768 : Int64))) (tu_len lw p0))), (10, .long ((((p2 : Int32).toInt64) * (((tu_len lh p0) : Int32).toInt64)) - (32768 : Int64))), (8, .long ((((p1 : Int32).toInt64) * (((tu_len lw p0) : Int32).toInt64)) - (32768 : Int64))), (7, .int (tu_len lh p0)), (6, .int (tu_len lw p0)), (0, .ref q), (1, .ref u), (2, .int p0), (3, .int p1), (4, .int p2), (5, .ref it)]) hx hb dX1_sampleFour_105 hl (by decide) rfl (fun ls hl => ?_)
  refine lv_lload hx hb dX1_sampleFour_107 (lv_at hl 5 rfl) ?_
  refine rd_call (W.runS (As := [.long ((((p1 : Int32).toInt64) * (((tu_len lw p0) : Int32).toInt64)) - (32768 : Int64))]) (rest := []) ⟨hx, hb, hml, hown, hts⟩ (r_rest l ((((p1 : Int32).toInt64) * (((tu_len lw p0) : Int32).toInt64)) - (32768 : Int64))) (va_cwS 1 hts (tg_S tw_304 tw_305 tw_1 tw_306) rfl rfl rfl (by decide +kernel) ⟨Nat.le_of_ble_eq_true rfl, Nat.le_of_ble_eq_true rfl⟩) preEq rfl rfl hl.1 rfl (lv_room (Nat.le_of_ble_eq_true rfl)) dX1_sampleFour_109 ⟨Nat.le_of_ble_eq_true rfl, Nat.le_of_ble_eq_true rfl⟩) ?_
  refine lv_istore (lv' := [(16, .int (tu_rest ((((p1 : Int32).toInt64) * (((tu_len lw p0) : Int32).toInt64)) - (32768 : Int64)))), (15, .int (tu_wrap dn ((tu_whole ((((p2 : Int32).toInt64) * (((tu_len lh p0) : Int32).toInt64)) - (32768 : Int64))) + (1 : Int32)) (tu_len lh p0))), (14, .int (tu_wrap dn (tu_whole ((((p2 : Int32).toInt64) * (((tu_len lh p0) : Int32).toInt64)) - (32768 : Int64))) (tu_len lh p0))), (13, .int (tu_wrap ac ((tu_whole ((((p1 : Int32).toInt64) * (((tu_len lw p0) : Int32).toInt64)) - (32768 : Int64))) + (1 : Int32)) (tu_len lw p0))), (12, .int (tu_wrap ac (tu_whole ((((p1 : Int32).toInt64) * (((tu_len lw p0) : Int32).toInt64)) - (32768 : Int64))) (tu_len lw p0))), (10, .long ((((p2 : Int32).toInt64) * (((tu_len lh p0) : Int32).toInt64)) - (32768 : Int64))), (8, .long ((((p1 : Int32).toInt64) * (((tu_len lw p0) : Int32).toInt64)) - (32768 : Int64))), (7, .int (tu_len lh p0)), (6, .int (tu_len lw p0)), (0, .ref q), (1, .ref u), (2, .int p0), (3, .int p1), (4, .int p2), (5, .ref it)]) hx hb dX1_sampleFour_112 hl (by decide) rfl (fun ls hl => ?_)
  refine lv_lload hx hb dX1_sampleFour_114 (lv_at hl 5 rfl) ?_
  refine rd_call (W.runS (As := [.long ((((p2 : Int32).toInt64) * (((tu_len lh p0) : Int32).toInt64)) - (32768 : Int64))]) (rest := []) ⟨hx, hb, hml, hown, hts⟩ (r_rest l ((((p2 : Int32).toInt64) * (((tu_len lh p0) : Int32).toInt64)) - (32768 : Int64))) (va_cwS 1 hts (tg_S tw_304 tw_305 tw_1 tw_306) rfl rfl rfl (by decide +kernel) ⟨Nat.le_of_ble_eq_true rfl, Nat.le_of_ble_eq_true rfl⟩) preEq rfl rfl hl.1 rfl (lv_room (Nat.le_of_ble_eq_true rfl)) dX1_sampleFour_116 ⟨Nat.le_of_ble_eq_true rfl, Nat.le_of_ble_eq_true rfl⟩) ?_
  refine lv_istore (lv' := [(17, .int (tu_rest ((((p2 : Int32).toInt64) * (((tu_len lh p0) : Int32).toInt64)) - (32768 : Int64)))), (16, .int (tu_rest ((((p1 : Int32).toInt64) * (((tu_len lw p0) : Int32).toInt64)) - (32768 : Int64)))), (15, .int (tu_wrap dn ((tu_whole ((((p2 : Int32).toInt64) * (((tu_len lh p0) : Int32).toInt64)) - (32768 : Int64))) + (1 : Int32)) (tu_len lh p0))), (14, .int (tu_wrap dn (tu_whole ((((p2 : Int32).toInt64) * (((tu_len lh p0) : Int32).toInt64)) - (32768 : Int64))) (tu_len lh p0))), (13, .int (tu_wrap ac ((tu_whole ((((p1 : Int32).toInt64) * (((tu_len lw p0) : Int32).toInt64)) - (32768 : Int64))) + (1 : Int32)) (tu_len lw p0))), (12, .int (tu_wrap ac (tu_whole ((((p1 : Int32).toInt64) * (((tu_len lw p0) : Int32).toInt64)) - (32768 : Int64))) (tu_len lw p0))), (10, .long ((((p2 : Int32).toInt64) * (((tu_len lh p0) : Int32).toInt64)) - (32768 : Int64))), (8, .long ((((p1 : Int32).toInt64) * (((tu_len lw p0) : Int32).toInt64)) - (32768 : Int64))), (7, .int (tu_len lh p0)), (6, .int (tu_len lw p0)), (0, .ref q), (1, .ref u), (2, .int p0), (3, .int p1), (4, .int p2), (5, .ref it)]) hx hb dX1_sampleFour_119 hl (by decide) rfl (fun ls hl => ?_)
  refine lv_iconst (v := 0) hx hb dX1_sampleFour_121 (by decide) ?_
  refine lv_istore (lv' := [(18, .int 0), (17, .int (tu_rest ((((p2 : Int32).toInt64) * (((tu_len lh p0) : Int32).toInt64)) - (32768 : Int64)))), (16, .int (tu_rest ((((p1 : Int32).toInt64) * (((tu_len lw p0) : Int32).toInt64)) - (32768 : Int64)))), (15, .int (tu_wrap dn ((tu_whole ((((p2 : Int32).toInt64) * (((tu_len lh p0) : Int32).toInt64)) - (32768 : Int64))) + (1 : Int32)) (tu_len lh p0))), (14, .int (tu_wrap dn (tu_whole ((((p2 : Int32).toInt64) * (((tu_len lh p0) : Int32).toInt64)) - (32768 : Int64))) (tu_len lh p0))), (13, .int (tu_wrap ac ((tu_whole ((((p1 : Int32).toInt64) * (((tu_len lw p0) : Int32).toInt64)) - (32768 : Int64))) + (1 : Int32)) (tu_len lw p0))), (12, .int (tu_wrap ac (tu_whole ((((p1 : Int32).toInt64) * (((tu_len lw p0) : Int32).toInt64)) - (32768 : Int64))) (tu_len lw p0))), (10, .long ((((p2 : Int32).toInt64) * (((tu_len lh p0) : Int32).toInt64)) - (32768 : Int64))), (8, .long ((((p1 : Int32).toInt64) * (((tu_len lw p0) : Int32).toInt64)) - (32768 : Int64))), (7, .int (tu_len lh p0)), (6, .int (tu_len lw p0)), (0, .ref q), (1, .ref u), (2, .int p0), (3, .int p1), (4, .int p2), (5, .ref it)]) hx hb dX1_sampleFour_122 hl (by decide) rfl (fun ls hl => ?_)
  refine lv_iload hx hb dX1_sampleFour_124 (lv_at hl 0 rfl) ?_
  refine lv_iconst (v := 4) hx hb dX1_sampleFour_126 (by decide) ?_
  refine lv_icmp_ge (tgt := 212) hx hb dX1_sampleFour_127 (by decide) (fun c_1 => absurd c_1 (by decide)) (fun c_1 => ?_)
  refine lv_aload_n hx hb dX1_sampleFour_130 rfl (lv_at hl 11 rfl) ?_
  refine lv_aload_n hx hb dX1_sampleFour_131 rfl (lv_at hl 12 rfl) ?_
  refine lv_iload_n hx hb dX1_sampleFour_132 rfl (lv_at hl 13 rfl) ?_
  refine lv_iload hx hb dX1_sampleFour_133 (lv_at hl 6 rfl) ?_
  refine lv_iload hx hb dX1_sampleFour_135 (lv_at hl 4 rfl) ?_
  refine lv_iload hx hb dX1_sampleFour_137 (lv_at hl 0 rfl) ?_
  refine rd_call (W.runV (As := [.ref u, .int p0, .int (tu_wrap ac (tu_whole ((((p1 : Int32).toInt64) * (((tu_len lw p0) : Int32).toInt64)) - (32768 : Int64))) (tu_len lw p0)), .int (tu_wrap dn (tu_whole ((((p2 : Int32).toInt64) * (((tu_len lh p0) : Int32).toInt64)) - (32768 : Int64))) (tu_len lh p0)), .int 0]) (rest := []) ⟨hx, hb, hml, hown, hts⟩ (r_sob l dC dI q wd us la nx u fr fo lw lh lv ac dn fi bc st cI mem sf bd tb p0 (tu_wrap ac (tu_whole ((((p1 : Int32).toInt64) * (((tu_len lw p0) : Int32).toInt64)) - (32768 : Int64))) (tu_len lw p0)) (tu_wrap dn (tu_whole ((((p2 : Int32).toInt64) * (((tu_len lh p0) : Int32).toInt64)) - (32768 : Int64))) (tu_len lh p0)) 0 h0 h1 (tu_fo4 h1 (tu_in (by decide))) (tu_in (by decide))) (cwV 5 hts (tg_V tw_308 tw_310 tw_p6 tw_1 tw_311) rfl rfl rfl (by decide +kernel) ⟨Nat.le_of_ble_eq_true rfl, Nat.le_of_ble_eq_true rfl⟩) ⟨rt_blind, va_recv hK hP (ci := 1) (q0 := 0) rfl rfl, fun U hU hW => ⟨rfl, rt_use (hP.sub [0, 1, 2, 3, 4] rfl) (hK.sub [0] rfl) (tb_use hX hS) U hU hW⟩⟩ rfl rfl hl.1 rfl (lv_room (Nat.le_of_ble_eq_true rfl)) dX1_sampleFour_139 ⟨Nat.le_of_ble_eq_true rfl, Nat.le_of_ble_eq_true rfl⟩) ?_
  refine lv_aload_n hx hb dX1_sampleFour_142 rfl (lv_at hl 11 rfl) ?_
  refine lv_aload_n hx hb dX1_sampleFour_143 rfl (lv_at hl 12 rfl) ?_
  refine lv_iload_n hx hb dX1_sampleFour_144 rfl (lv_at hl 13 rfl) ?_
  refine lv_iload hx hb dX1_sampleFour_145 (lv_at hl 5 rfl) ?_
  refine lv_iload hx hb dX1_sampleFour_147 (lv_at hl 4 rfl) ?_
  refine lv_iload hx hb dX1_sampleFour_149 (lv_at hl 0 rfl) ?_
  refine rd_call (W.runV (As := [.ref u, .int p0, .int (tu_wrap ac ((tu_whole ((((p1 : Int32).toInt64) * (((tu_len lw p0) : Int32).toInt64)) - (32768 : Int64))) + (1 : Int32)) (tu_len lw p0)), .int (tu_wrap dn (tu_whole ((((p2 : Int32).toInt64) * (((tu_len lh p0) : Int32).toInt64)) - (32768 : Int64))) (tu_len lh p0)), .int 0]) (rest := [.int (tu_sob mem sf bd fr fo lw p0 (tu_wrap ac (tu_whole ((((p1 : Int32).toInt64) * (((tu_len lw p0) : Int32).toInt64)) - (32768 : Int64))) (tu_len lw p0)) (tu_wrap dn (tu_whole ((((p2 : Int32).toInt64) * (((tu_len lh p0) : Int32).toInt64)) - (32768 : Int64))) (tu_len lh p0)) 0)]) ⟨hx, hb, hml, hown, hts⟩ (r_sob l dC dI q wd us la nx u fr fo lw lh lv ac dn fi bc st cI mem sf bd tb p0 (tu_wrap ac ((tu_whole ((((p1 : Int32).toInt64) * (((tu_len lw p0) : Int32).toInt64)) - (32768 : Int64))) + (1 : Int32)) (tu_len lw p0)) (tu_wrap dn (tu_whole ((((p2 : Int32).toInt64) * (((tu_len lh p0) : Int32).toInt64)) - (32768 : Int64))) (tu_len lh p0)) 0 h0 h1 (tu_fo4 h1 (tu_in (by decide))) (tu_in (by decide))) (cwV 5 hts (tg_V tw_308 tw_310 tw_p6 tw_1 tw_311) rfl rfl rfl (by decide +kernel) ⟨Nat.le_of_ble_eq_true rfl, Nat.le_of_ble_eq_true rfl⟩) ⟨rt_blind, va_recv hK hP (ci := 1) (q0 := 0) rfl rfl, fun U hU hW => ⟨rfl, rt_use (hP.sub [0, 1, 2, 3, 4] rfl) (hK.sub [0] rfl) (tb_use hX hS) U hU hW⟩⟩ rfl rfl hl.1 rfl (lv_room (Nat.le_of_ble_eq_true rfl)) dX1_sampleFour_151 ⟨Nat.le_of_ble_eq_true rfl, Nat.le_of_ble_eq_true rfl⟩) ?_
  refine lv_iload hx hb dX1_sampleFour_154 (lv_at hl 2 rfl) ?_
  refine rd_call (W.runS (As := [.int (tu_sob mem sf bd fr fo lw p0 (tu_wrap ac (tu_whole ((((p1 : Int32).toInt64) * (((tu_len lw p0) : Int32).toInt64)) - (32768 : Int64))) (tu_len lw p0)) (tu_wrap dn (tu_whole ((((p2 : Int32).toInt64) * (((tu_len lh p0) : Int32).toInt64)) - (32768 : Int64))) (tu_len lh p0)) 0), .int (tu_sob mem sf bd fr fo lw p0 (tu_wrap ac ((tu_whole ((((p1 : Int32).toInt64) * (((tu_len lw p0) : Int32).toInt64)) - (32768 : Int64))) + (1 : Int32)) (tu_len lw p0)) (tu_wrap dn (tu_whole ((((p2 : Int32).toInt64) * (((tu_len lh p0) : Int32).toInt64)) - (32768 : Int64))) (tu_len lh p0)) 0), .int (tu_rest ((((p1 : Int32).toInt64) * (((tu_len lw p0) : Int32).toInt64)) - (32768 : Int64)))]) (rest := []) ⟨hx, hb, hml, hown, hts⟩ (r_mix l (tu_sob mem sf bd fr fo lw p0 (tu_wrap ac (tu_whole ((((p1 : Int32).toInt64) * (((tu_len lw p0) : Int32).toInt64)) - (32768 : Int64))) (tu_len lw p0)) (tu_wrap dn (tu_whole ((((p2 : Int32).toInt64) * (((tu_len lh p0) : Int32).toInt64)) - (32768 : Int64))) (tu_len lh p0)) 0) (tu_sob mem sf bd fr fo lw p0 (tu_wrap ac ((tu_whole ((((p1 : Int32).toInt64) * (((tu_len lw p0) : Int32).toInt64)) - (32768 : Int64))) + (1 : Int32)) (tu_len lw p0)) (tu_wrap dn (tu_whole ((((p2 : Int32).toInt64) * (((tu_len lh p0) : Int32).toInt64)) - (32768 : Int64))) (tu_len lh p0)) 0) (tu_rest ((((p1 : Int32).toInt64) * (((tu_len lw p0) : Int32).toInt64)) - (32768 : Int64)))) (va_cwS 3 hts (tg_S tw_312 tw_313 tw_1 tw_314) rfl rfl rfl (by decide +kernel) ⟨Nat.le_of_ble_eq_true rfl, Nat.le_of_ble_eq_true rfl⟩) preEq rfl rfl hl.1 rfl (lv_room (Nat.le_of_ble_eq_true rfl)) dX1_sampleFour_156 ⟨Nat.le_of_ble_eq_true rfl, Nat.le_of_ble_eq_true rfl⟩) ?_
  refine lv_istore (lv' := [(19, .int (tu_mix (tu_sob mem sf bd fr fo lw p0 (tu_wrap ac (tu_whole ((((p1 : Int32).toInt64) * (((tu_len lw p0) : Int32).toInt64)) - (32768 : Int64))) (tu_len lw p0)) (tu_wrap dn (tu_whole ((((p2 : Int32).toInt64) * (((tu_len lh p0) : Int32).toInt64)) - (32768 : Int64))) (tu_len lh p0)) 0) (tu_sob mem sf bd fr fo lw p0 (tu_wrap ac ((tu_whole ((((p1 : Int32).toInt64) * (((tu_len lw p0) : Int32).toInt64)) - (32768 : Int64))) + (1 : Int32)) (tu_len lw p0)) (tu_wrap dn (tu_whole ((((p2 : Int32).toInt64) * (((tu_len lh p0) : Int32).toInt64)) - (32768 : Int64))) (tu_len lh p0)) 0) (tu_rest ((((p1 : Int32).toInt64) * (((tu_len lw p0) : Int32).toInt64)) - (32768 : Int64))))), (18, .int 0), (17, .int (tu_rest ((((p2 : Int32).toInt64) * (((tu_len lh p0) : Int32).toInt64)) - (32768 : Int64)))), (16, .int (tu_rest ((((p1 : Int32).toInt64) * (((tu_len lw p0) : Int32).toInt64)) - (32768 : Int64)))), (15, .int (tu_wrap dn ((tu_whole ((((p2 : Int32).toInt64) * (((tu_len lh p0) : Int32).toInt64)) - (32768 : Int64))) + (1 : Int32)) (tu_len lh p0))), (14, .int (tu_wrap dn (tu_whole ((((p2 : Int32).toInt64) * (((tu_len lh p0) : Int32).toInt64)) - (32768 : Int64))) (tu_len lh p0))), (13, .int (tu_wrap ac ((tu_whole ((((p1 : Int32).toInt64) * (((tu_len lw p0) : Int32).toInt64)) - (32768 : Int64))) + (1 : Int32)) (tu_len lw p0))), (12, .int (tu_wrap ac (tu_whole ((((p1 : Int32).toInt64) * (((tu_len lw p0) : Int32).toInt64)) - (32768 : Int64))) (tu_len lw p0))), (10, .long ((((p2 : Int32).toInt64) * (((tu_len lh p0) : Int32).toInt64)) - (32768 : Int64))), (8, .long ((((p1 : Int32).toInt64) * (((tu_len lw p0) : Int32).toInt64)) - (32768 : Int64))), (7, .int (tu_len lh p0)), (6, .int (tu_len lw p0)), (0, .ref q), (1, .ref u), (2, .int p0), (3, .int p1), (4, .int p2), (5, .ref it)]) hx hb dX1_sampleFour_159 hl (by decide) rfl (fun ls hl => ?_)
  refine lv_aload_n hx hb dX1_sampleFour_161 rfl (lv_at hl 12 rfl) ?_
  refine lv_aload_n hx hb dX1_sampleFour_162 rfl (lv_at hl 13 rfl) ?_
  refine lv_iload_n hx hb dX1_sampleFour_163 rfl (lv_at hl 14 rfl) ?_
  refine lv_iload hx hb dX1_sampleFour_164 (lv_at hl 7 rfl) ?_
  refine lv_iload hx hb dX1_sampleFour_166 (lv_at hl 4 rfl) ?_
  refine lv_iload hx hb dX1_sampleFour_168 (lv_at hl 1 rfl) ?_
  refine rd_call (W.runV (As := [.ref u, .int p0, .int (tu_wrap ac (tu_whole ((((p1 : Int32).toInt64) * (((tu_len lw p0) : Int32).toInt64)) - (32768 : Int64))) (tu_len lw p0)), .int (tu_wrap dn ((tu_whole ((((p2 : Int32).toInt64) * (((tu_len lh p0) : Int32).toInt64)) - (32768 : Int64))) + (1 : Int32)) (tu_len lh p0)), .int 0]) (rest := []) ⟨hx, hb, hml, hown, hts⟩ (r_sob l dC dI q wd us la nx u fr fo lw lh lv ac dn fi bc st cI mem sf bd tb p0 (tu_wrap ac (tu_whole ((((p1 : Int32).toInt64) * (((tu_len lw p0) : Int32).toInt64)) - (32768 : Int64))) (tu_len lw p0)) (tu_wrap dn ((tu_whole ((((p2 : Int32).toInt64) * (((tu_len lh p0) : Int32).toInt64)) - (32768 : Int64))) + (1 : Int32)) (tu_len lh p0)) 0 h0 h1 (tu_fo4 h1 (tu_in (by decide))) (tu_in (by decide))) (cwV 5 hts (tg_V tw_308 tw_310 tw_p6 tw_1 tw_311) rfl rfl rfl (by decide +kernel) ⟨Nat.le_of_ble_eq_true rfl, Nat.le_of_ble_eq_true rfl⟩) ⟨rt_blind, va_recv hK hP (ci := 1) (q0 := 0) rfl rfl, fun U hU hW => ⟨rfl, rt_use (hP.sub [0, 1, 2, 3, 4] rfl) (hK.sub [0] rfl) (tb_use hX hS) U hU hW⟩⟩ rfl rfl hl.1 rfl (lv_room (Nat.le_of_ble_eq_true rfl)) dX1_sampleFour_170 ⟨Nat.le_of_ble_eq_true rfl, Nat.le_of_ble_eq_true rfl⟩) ?_
  refine lv_aload_n hx hb dX1_sampleFour_173 rfl (lv_at hl 12 rfl) ?_
  refine lv_aload_n hx hb dX1_sampleFour_174 rfl (lv_at hl 13 rfl) ?_
  refine lv_iload_n hx hb dX1_sampleFour_175 rfl (lv_at hl 14 rfl) ?_
  refine lv_iload hx hb dX1_sampleFour_176 (lv_at hl 6 rfl) ?_
  refine lv_iload hx hb dX1_sampleFour_178 (lv_at hl 4 rfl) ?_
  refine lv_iload hx hb dX1_sampleFour_180 (lv_at hl 1 rfl) ?_
  refine rd_call (W.runV (As := [.ref u, .int p0, .int (tu_wrap ac ((tu_whole ((((p1 : Int32).toInt64) * (((tu_len lw p0) : Int32).toInt64)) - (32768 : Int64))) + (1 : Int32)) (tu_len lw p0)), .int (tu_wrap dn ((tu_whole ((((p2 : Int32).toInt64) * (((tu_len lh p0) : Int32).toInt64)) - (32768 : Int64))) + (1 : Int32)) (tu_len lh p0)), .int 0]) (rest := [.int (tu_sob mem sf bd fr fo lw p0 (tu_wrap ac (tu_whole ((((p1 : Int32).toInt64) * (((tu_len lw p0) : Int32).toInt64)) - (32768 : Int64))) (tu_len lw p0)) (tu_wrap dn ((tu_whole ((((p2 : Int32).toInt64) * (((tu_len lh p0) : Int32).toInt64)) - (32768 : Int64))) + (1 : Int32)) (tu_len lh p0)) 0)]) ⟨hx, hb, hml, hown, hts⟩ (r_sob l dC dI q wd us la nx u fr fo lw lh lv ac dn fi bc st cI mem sf bd tb p0 (tu_wrap ac ((tu_whole ((((p1 : Int32).toInt64) * (((tu_len lw p0) : Int32).toInt64)) - (32768 : Int64))) + (1 : Int32)) (tu_len lw p0)) (tu_wrap dn ((tu_whole ((((p2 : Int32).toInt64) * (((tu_len lh p0) : Int32).toInt64)) - (32768 : Int64))) + (1 : Int32)) (tu_len lh p0)) 0 h0 h1 (tu_fo4 h1 (tu_in (by decide))) (tu_in (by decide))) (cwV 5 hts (tg_V tw_308 tw_310 tw_p6 tw_1 tw_311) rfl rfl rfl (by decide +kernel) ⟨Nat.le_of_ble_eq_true rfl, Nat.le_of_ble_eq_true rfl⟩) ⟨rt_blind, va_recv hK hP (ci := 1) (q0 := 0) rfl rfl, fun U hU hW => ⟨rfl, rt_use (hP.sub [0, 1, 2, 3, 4] rfl) (hK.sub [0] rfl) (tb_use hX hS) U hU hW⟩⟩ rfl rfl hl.1 rfl (lv_room (Nat.le_of_ble_eq_true rfl)) dX1_sampleFour_182 ⟨Nat.le_of_ble_eq_true rfl, Nat.le_of_ble_eq_true rfl⟩) ?_
  refine lv_iload hx hb dX1_sampleFour_185 (lv_at hl 3 rfl) ?_
  refine rd_call (W.runS (As := [.int (tu_sob mem sf bd fr fo lw p0 (tu_wrap ac (tu_whole ((((p1 : Int32).toInt64) * (((tu_len lw p0) : Int32).toInt64)) - (32768 : Int64))) (tu_len lw p0)) (tu_wrap dn ((tu_whole ((((p2 : Int32).toInt64) * (((tu_len lh p0) : Int32).toInt64)) - (32768 : Int64))) + (1 : Int32)) (tu_len lh p0)) 0), .int (tu_sob mem sf bd fr fo lw p0 (tu_wrap ac ((tu_whole ((((p1 : Int32).toInt64) * (((tu_len lw p0) : Int32).toInt64)) - (32768 : Int64))) + (1 : Int32)) (tu_len lw p0)) (tu_wrap dn ((tu_whole ((((p2 : Int32).toInt64) * (((tu_len lh p0) : Int32).toInt64)) - (32768 : Int64))) + (1 : Int32)) (tu_len lh p0)) 0), .int (tu_rest ((((p1 : Int32).toInt64) * (((tu_len lw p0) : Int32).toInt64)) - (32768 : Int64)))]) (rest := []) ⟨hx, hb, hml, hown, hts⟩ (r_mix l (tu_sob mem sf bd fr fo lw p0 (tu_wrap ac (tu_whole ((((p1 : Int32).toInt64) * (((tu_len lw p0) : Int32).toInt64)) - (32768 : Int64))) (tu_len lw p0)) (tu_wrap dn ((tu_whole ((((p2 : Int32).toInt64) * (((tu_len lh p0) : Int32).toInt64)) - (32768 : Int64))) + (1 : Int32)) (tu_len lh p0)) 0) (tu_sob mem sf bd fr fo lw p0 (tu_wrap ac ((tu_whole ((((p1 : Int32).toInt64) * (((tu_len lw p0) : Int32).toInt64)) - (32768 : Int64))) + (1 : Int32)) (tu_len lw p0)) (tu_wrap dn ((tu_whole ((((p2 : Int32).toInt64) * (((tu_len lh p0) : Int32).toInt64)) - (32768 : Int64))) + (1 : Int32)) (tu_len lh p0)) 0) (tu_rest ((((p1 : Int32).toInt64) * (((tu_len lw p0) : Int32).toInt64)) - (32768 : Int64)))) (va_cwS 3 hts (tg_S tw_312 tw_313 tw_1 tw_314) rfl rfl rfl (by decide +kernel) ⟨Nat.le_of_ble_eq_true rfl, Nat.le_of_ble_eq_true rfl⟩) preEq rfl rfl hl.1 rfl (lv_room (Nat.le_of_ble_eq_true rfl)) dX1_sampleFour_187 ⟨Nat.le_of_ble_eq_true rfl, Nat.le_of_ble_eq_true rfl⟩) ?_
  refine lv_istore (lv' := [(20, .int (tu_mix (tu_sob mem sf bd fr fo lw p0 (tu_wrap ac (tu_whole ((((p1 : Int32).toInt64) * (((tu_len lw p0) : Int32).toInt64)) - (32768 : Int64))) (tu_len lw p0)) (tu_wrap dn ((tu_whole ((((p2 : Int32).toInt64) * (((tu_len lh p0) : Int32).toInt64)) - (32768 : Int64))) + (1 : Int32)) (tu_len lh p0)) 0) (tu_sob mem sf bd fr fo lw p0 (tu_wrap ac ((tu_whole ((((p1 : Int32).toInt64) * (((tu_len lw p0) : Int32).toInt64)) - (32768 : Int64))) + (1 : Int32)) (tu_len lw p0)) (tu_wrap dn ((tu_whole ((((p2 : Int32).toInt64) * (((tu_len lh p0) : Int32).toInt64)) - (32768 : Int64))) + (1 : Int32)) (tu_len lh p0)) 0) (tu_rest ((((p1 : Int32).toInt64) * (((tu_len lw p0) : Int32).toInt64)) - (32768 : Int64))))), (19, .int (tu_mix (tu_sob mem sf bd fr fo lw p0 (tu_wrap ac (tu_whole ((((p1 : Int32).toInt64) * (((tu_len lw p0) : Int32).toInt64)) - (32768 : Int64))) (tu_len lw p0)) (tu_wrap dn (tu_whole ((((p2 : Int32).toInt64) * (((tu_len lh p0) : Int32).toInt64)) - (32768 : Int64))) (tu_len lh p0)) 0) (tu_sob mem sf bd fr fo lw p0 (tu_wrap ac ((tu_whole ((((p1 : Int32).toInt64) * (((tu_len lw p0) : Int32).toInt64)) - (32768 : Int64))) + (1 : Int32)) (tu_len lw p0)) (tu_wrap dn (tu_whole ((((p2 : Int32).toInt64) * (((tu_len lh p0) : Int32).toInt64)) - (32768 : Int64))) (tu_len lh p0)) 0) (tu_rest ((((p1 : Int32).toInt64) * (((tu_len lw p0) : Int32).toInt64)) - (32768 : Int64))))), (18, .int 0), (17, .int (tu_rest ((((p2 : Int32).toInt64) * (((tu_len lh p0) : Int32).toInt64)) - (32768 : Int64)))), (16, .int (tu_rest ((((p1 : Int32).toInt64) * (((tu_len lw p0) : Int32).toInt64)) - (32768 : Int64)))), (15, .int (tu_wrap dn ((tu_whole ((((p2 : Int32).toInt64) * (((tu_len lh p0) : Int32).toInt64)) - (32768 : Int64))) + (1 : Int32)) (tu_len lh p0))), (14, .int (tu_wrap dn (tu_whole ((((p2 : Int32).toInt64) * (((tu_len lh p0) : Int32).toInt64)) - (32768 : Int64))) (tu_len lh p0))), (13, .int (tu_wrap ac ((tu_whole ((((p1 : Int32).toInt64) * (((tu_len lw p0) : Int32).toInt64)) - (32768 : Int64))) + (1 : Int32)) (tu_len lw p0))), (12, .int (tu_wrap ac (tu_whole ((((p1 : Int32).toInt64) * (((tu_len lw p0) : Int32).toInt64)) - (32768 : Int64))) (tu_len lw p0))), (10, .long ((((p2 : Int32).toInt64) * (((tu_len lh p0) : Int32).toInt64)) - (32768 : Int64))), (8, .long ((((p1 : Int32).toInt64) * (((tu_len lw p0) : Int32).toInt64)) - (32768 : Int64))), (7, .int (tu_len lh p0)), (6, .int (tu_len lw p0)), (0, .ref q), (1, .ref u), (2, .int p0), (3, .int p1), (4, .int p2), (5, .ref it)]) hx hb dX1_sampleFour_190 hl (by decide) rfl (fun ls hl => ?_)
  refine lv_aload hx hb dX1_sampleFour_192 (lv_at hl 18 rfl) ?_
  refine lv_iload hx hb dX1_sampleFour_194 (lv_at hl 2 rfl) ?_
  refine lv_iload hx hb dX1_sampleFour_196 (lv_at hl 1 rfl) ?_
  refine lv_iload hx hb dX1_sampleFour_198 (lv_at hl 0 rfl) ?_
  refine lv_iload hx hb dX1_sampleFour_200 (lv_at hl 3 rfl) ?_
  refine rd_call (W.runS (As := [.int (tu_mix (tu_sob mem sf bd fr fo lw p0 (tu_wrap ac (tu_whole ((((p1 : Int32).toInt64) * (((tu_len lw p0) : Int32).toInt64)) - (32768 : Int64))) (tu_len lw p0)) (tu_wrap dn (tu_whole ((((p2 : Int32).toInt64) * (((tu_len lh p0) : Int32).toInt64)) - (32768 : Int64))) (tu_len lh p0)) 0) (tu_sob mem sf bd fr fo lw p0 (tu_wrap ac ((tu_whole ((((p1 : Int32).toInt64) * (((tu_len lw p0) : Int32).toInt64)) - (32768 : Int64))) + (1 : Int32)) (tu_len lw p0)) (tu_wrap dn (tu_whole ((((p2 : Int32).toInt64) * (((tu_len lh p0) : Int32).toInt64)) - (32768 : Int64))) (tu_len lh p0)) 0) (tu_rest ((((p1 : Int32).toInt64) * (((tu_len lw p0) : Int32).toInt64)) - (32768 : Int64)))), .int (tu_mix (tu_sob mem sf bd fr fo lw p0 (tu_wrap ac (tu_whole ((((p1 : Int32).toInt64) * (((tu_len lw p0) : Int32).toInt64)) - (32768 : Int64))) (tu_len lw p0)) (tu_wrap dn ((tu_whole ((((p2 : Int32).toInt64) * (((tu_len lh p0) : Int32).toInt64)) - (32768 : Int64))) + (1 : Int32)) (tu_len lh p0)) 0) (tu_sob mem sf bd fr fo lw p0 (tu_wrap ac ((tu_whole ((((p1 : Int32).toInt64) * (((tu_len lw p0) : Int32).toInt64)) - (32768 : Int64))) + (1 : Int32)) (tu_len lw p0)) (tu_wrap dn ((tu_whole ((((p2 : Int32).toInt64) * (((tu_len lh p0) : Int32).toInt64)) - (32768 : Int64))) + (1 : Int32)) (tu_len lh p0)) 0) (tu_rest ((((p1 : Int32).toInt64) * (((tu_len lw p0) : Int32).toInt64)) - (32768 : Int64)))), .int (tu_rest ((((p2 : Int32).toInt64) * (((tu_len lh p0) : Int32).toInt64)) - (32768 : Int64)))]) (rest := [.int 0, .ref it]) ⟨hx, hb, hml, hown, hts⟩ (r_mix l (tu_mix (tu_sob mem sf bd fr fo lw p0 (tu_wrap ac (tu_whole ((((p1 : Int32).toInt64) * (((tu_len lw p0) : Int32).toInt64)) - (32768 : Int64))) (tu_len lw p0)) (tu_wrap dn (tu_whole ((((p2 : Int32).toInt64) * (((tu_len lh p0) : Int32).toInt64)) - (32768 : Int64))) (tu_len lh p0)) 0) (tu_sob mem sf bd fr fo lw p0 (tu_wrap ac ((tu_whole ((((p1 : Int32).toInt64) * (((tu_len lw p0) : Int32).toInt64)) - (32768 : Int64))) + (1 : Int32)) (tu_len lw p0)) (tu_wrap dn (tu_whole ((((p2 : Int32).toInt64) * (((tu_len lh p0) : Int32).toInt64)) - (32768 : Int64))) (tu_len lh p0)) 0) (tu_rest ((((p1 : Int32).toInt64) * (((tu_len lw p0) : Int32).toInt64)) - (32768 : Int64)))) (tu_mix (tu_sob mem sf bd fr fo lw p0 (tu_wrap ac (tu_whole ((((p1 : Int32).toInt64) * (((tu_len lw p0) : Int32).toInt64)) - (32768 : Int64))) (tu_len lw p0)) (tu_wrap dn ((tu_whole ((((p2 : Int32).toInt64) * (((tu_len lh p0) : Int32).toInt64)) - (32768 : Int64))) + (1 : Int32)) (tu_len lh p0)) 0) (tu_sob mem sf bd fr fo lw p0 (tu_wrap ac ((tu_whole ((((p1 : Int32).toInt64) * (((tu_len lw p0) : Int32).toInt64)) - (32768 : Int64))) + (1 : Int32)) (tu_len lw p0)) (tu_wrap dn ((tu_whole ((((p2 : Int32).toInt64) * (((tu_len lh p0) : Int32).toInt64)) - (32768 : Int64))) + (1 : Int32)) (tu_len lh p0)) 0) (tu_rest ((((p1 : Int32).toInt64) * (((tu_len lw p0) : Int32).toInt64)) - (32768 : Int64)))) (tu_rest ((((p2 : Int32).toInt64) * (((tu_len lh p0) : Int32).toInt64)) - (32768 : Int64)))) (va_cwS 3 hts (tg_S tw_312 tw_313 tw_1 tw_314) rfl rfl rfl (by decide +kernel) ⟨Nat.le_of_ble_eq_true rfl, Nat.le_of_ble_eq_true rfl⟩) preEq rfl rfl hl.1 rfl (lv_room (Nat.le_of_ble_eq_true rfl)) dX1_sampleFour_202 ⟨Nat.le_of_ble_eq_true rfl, Nat.le_of_ble_eq_true rfl⟩) ?_
  refine va_iast hx hb hK hP hD hS 5 0 rfl rfl (tu_in (by decide)) dX1_sampleFour_205 (fun H locs hP hD hS => ?_)
  have hP : va_P (dC, dI) vwCl [(q, .inr (1, [.ref wd, .ref us, .ref la, .ref nx])), (u, .inr (0, [.int fr, .int fo, .int lw, .int lh, .int lv, .int ac, .int dn, .int fi, .ref bc, .ref st])), (wd, .inl (cI, 2048, .inl mem)), (st, .inl (cI, 12, .inl sf)), (bc, .inl (cI, 4, .inl bd)), (it, .inl (cI, 4, .inl (upd g 0 (tu_mix (tu_mix (tu_sob mem sf bd fr fo lw p0 (tu_wrap ac (tu_whole ((((p1 : Int32).toInt64) * (((tu_len lw p0) : Int32).toInt64)) - (32768 : Int64))) (tu_len lw p0)) (tu_wrap dn (tu_whole ((((p2 : Int32).toInt64) * (((tu_len lh p0) : Int32).toInt64)) - (32768 : Int64))) (tu_len lh p0)) 0) (tu_sob mem sf bd fr fo lw p0 (tu_wrap ac ((tu_whole ((((p1 : Int32).toInt64) * (((tu_len lw p0) : Int32).toInt64)) - (32768 : Int64))) + (1 : Int32)) (tu_len lw p0)) (tu_wrap dn (tu_whole ((((p2 : Int32).toInt64) * (((tu_len lh p0) : Int32).toInt64)) - (32768 : Int64))) (tu_len lh p0)) 0) (tu_rest ((((p1 : Int32).toInt64) * (((tu_len lw p0) : Int32).toInt64)) - (32768 : Int64)))) (tu_mix (tu_sob mem sf bd fr fo lw p0 (tu_wrap ac (tu_whole ((((p1 : Int32).toInt64) * (((tu_len lw p0) : Int32).toInt64)) - (32768 : Int64))) (tu_len lw p0)) (tu_wrap dn ((tu_whole ((((p2 : Int32).toInt64) * (((tu_len lh p0) : Int32).toInt64)) - (32768 : Int64))) + (1 : Int32)) (tu_len lh p0)) 0) (tu_sob mem sf bd fr fo lw p0 (tu_wrap ac ((tu_whole ((((p1 : Int32).toInt64) * (((tu_len lw p0) : Int32).toInt64)) - (32768 : Int64))) + (1 : Int32)) (tu_len lw p0)) (tu_wrap dn ((tu_whole ((((p2 : Int32).toInt64) * (((tu_len lh p0) : Int32).toInt64)) - (32768 : Int64))) + (1 : Int32)) (tu_len lh p0)) 0) (tu_rest ((((p1 : Int32).toInt64) * (((tu_len lw p0) : Int32).toInt64)) - (32768 : Int64)))) (tu_rest ((((p2 : Int32).toInt64) * (((tu_len lh p0) : Int32).toInt64)) - (32768 : Int64)))))))] H := hP
  have hD : va_D A [(q, .inr (1, [.ref wd, .ref us, .ref la, .ref nx])), (u, .inr (0, [.int fr, .int fo, .int lw, .int lh, .int lv, .int ac, .int dn, .int fi, .ref bc, .ref st])), (wd, .inl (cI, 2048, .inl mem)), (st, .inl (cI, 12, .inl sf)), (bc, .inl (cI, 4, .inl bd)), (it, .inl (cI, 4, .inl (upd g 0 (tu_mix (tu_mix (tu_sob mem sf bd fr fo lw p0 (tu_wrap ac (tu_whole ((((p1 : Int32).toInt64) * (((tu_len lw p0) : Int32).toInt64)) - (32768 : Int64))) (tu_len lw p0)) (tu_wrap dn (tu_whole ((((p2 : Int32).toInt64) * (((tu_len lh p0) : Int32).toInt64)) - (32768 : Int64))) (tu_len lh p0)) 0) (tu_sob mem sf bd fr fo lw p0 (tu_wrap ac ((tu_whole ((((p1 : Int32).toInt64) * (((tu_len lw p0) : Int32).toInt64)) - (32768 : Int64))) + (1 : Int32)) (tu_len lw p0)) (tu_wrap dn (tu_whole ((((p2 : Int32).toInt64) * (((tu_len lh p0) : Int32).toInt64)) - (32768 : Int64))) (tu_len lh p0)) 0) (tu_rest ((((p1 : Int32).toInt64) * (((tu_len lw p0) : Int32).toInt64)) - (32768 : Int64)))) (tu_mix (tu_sob mem sf bd fr fo lw p0 (tu_wrap ac (tu_whole ((((p1 : Int32).toInt64) * (((tu_len lw p0) : Int32).toInt64)) - (32768 : Int64))) (tu_len lw p0)) (tu_wrap dn ((tu_whole ((((p2 : Int32).toInt64) * (((tu_len lh p0) : Int32).toInt64)) - (32768 : Int64))) + (1 : Int32)) (tu_len lh p0)) 0) (tu_sob mem sf bd fr fo lw p0 (tu_wrap ac ((tu_whole ((((p1 : Int32).toInt64) * (((tu_len lw p0) : Int32).toInt64)) - (32768 : Int64))) + (1 : Int32)) (tu_len lw p0)) (tu_wrap dn ((tu_whole ((((p2 : Int32).toInt64) * (((tu_len lh p0) : Int32).toInt64)) - (32768 : Int64))) + (1 : Int32)) (tu_len lh p0)) 0) (tu_rest ((((p1 : Int32).toInt64) * (((tu_len lw p0) : Int32).toInt64)) - (32768 : Int64)))) (tu_rest ((((p2 : Int32).toInt64) * (((tu_len lh p0) : Int32).toInt64)) - (32768 : Int64)))))))] := hD
  refine lv_iinc (v := 1) (lv' := [(18, .int 1), (20, .int (tu_mix (tu_sob mem sf bd fr fo lw p0 (tu_wrap ac (tu_whole ((((p1 : Int32).toInt64) * (((tu_len lw p0) : Int32).toInt64)) - (32768 : Int64))) (tu_len lw p0)) (tu_wrap dn ((tu_whole ((((p2 : Int32).toInt64) * (((tu_len lh p0) : Int32).toInt64)) - (32768 : Int64))) + (1 : Int32)) (tu_len lh p0)) 0) (tu_sob mem sf bd fr fo lw p0 (tu_wrap ac ((tu_whole ((((p1 : Int32).toInt64) * (((tu_len lw p0) : Int32).toInt64)) - (32768 : Int64))) + (1 : Int32)) (tu_len lw p0)) (tu_wrap dn ((tu_whole ((((p2 : Int32).toInt64) * (((tu_len lh p0) : Int32).toInt64)) - (32768 : Int64))) + (1 : Int32)) (tu_len lh p0)) 0) (tu_rest ((((p1 : Int32).toInt64) * (((tu_len lw p0) : Int32).toInt64)) - (32768 : Int64))))), (19, .int (tu_mix (tu_sob mem sf bd fr fo lw p0 (tu_wrap ac (tu_whole ((((p1 : Int32).toInt64) * (((tu_len lw p0) : Int32).toInt64)) - (32768 : Int64))) (tu_len lw p0)) (tu_wrap dn (tu_whole ((((p2 : Int32).toInt64) * (((tu_len lh p0) : Int32).toInt64)) - (32768 : Int64))) (tu_len lh p0)) 0) (tu_sob mem sf bd fr fo lw p0 (tu_wrap ac ((tu_whole ((((p1 : Int32).toInt64) * (((tu_len lw p0) : Int32).toInt64)) - (32768 : Int64))) + (1 : Int32)) (tu_len lw p0)) (tu_wrap dn (tu_whole ((((p2 : Int32).toInt64) * (((tu_len lh p0) : Int32).toInt64)) - (32768 : Int64))) (tu_len lh p0)) 0) (tu_rest ((((p1 : Int32).toInt64) * (((tu_len lw p0) : Int32).toInt64)) - (32768 : Int64))))), (17, .int (tu_rest ((((p2 : Int32).toInt64) * (((tu_len lh p0) : Int32).toInt64)) - (32768 : Int64)))), (16, .int (tu_rest ((((p1 : Int32).toInt64) * (((tu_len lw p0) : Int32).toInt64)) - (32768 : Int64)))), (15, .int (tu_wrap dn ((tu_whole ((((p2 : Int32).toInt64) * (((tu_len lh p0) : Int32).toInt64)) - (32768 : Int64))) + (1 : Int32)) (tu_len lh p0))), (14, .int (tu_wrap dn (tu_whole ((((p2 : Int32).toInt64) * (((tu_len lh p0) : Int32).toInt64)) - (32768 : Int64))) (tu_len lh p0))), (13, .int (tu_wrap ac ((tu_whole ((((p1 : Int32).toInt64) * (((tu_len lw p0) : Int32).toInt64)) - (32768 : Int64))) + (1 : Int32)) (tu_len lw p0))), (12, .int (tu_wrap ac (tu_whole ((((p1 : Int32).toInt64) * (((tu_len lw p0) : Int32).toInt64)) - (32768 : Int64))) (tu_len lw p0))), (10, .long ((((p2 : Int32).toInt64) * (((tu_len lh p0) : Int32).toInt64)) - (32768 : Int64))), (8, .long ((((p1 : Int32).toInt64) * (((tu_len lw p0) : Int32).toInt64)) - (32768 : Int64))), (7, .int (tu_len lh p0)), (6, .int (tu_len lw p0)), (0, .ref q), (1, .ref u), (2, .int p0), (3, .int p1), (4, .int p2), (5, .ref it)]) hx hb dX1_sampleFour_206 hl (k := 2) rfl (by decide) (by decide) rfl (fun ls hl => ?_)
  refine lv_goto (tgt := 124) hx hb dX1_sampleFour_209 (by decide) ?_
  refine lv_iload hx hb dX1_sampleFour_124 (lv_at hl 0 rfl) ?_
  refine lv_iconst (v := 4) hx hb dX1_sampleFour_126 (by decide) ?_
  refine lv_icmp_ge (tgt := 212) hx hb dX1_sampleFour_127 (by decide) (fun c_2 => absurd c_2 (by decide)) (fun c_2 => ?_)
  refine lv_aload_n hx hb dX1_sampleFour_130 rfl (lv_at hl 13 rfl) ?_
  refine lv_aload_n hx hb dX1_sampleFour_131 rfl (lv_at hl 14 rfl) ?_
  refine lv_iload_n hx hb dX1_sampleFour_132 rfl (lv_at hl 15 rfl) ?_
  refine lv_iload hx hb dX1_sampleFour_133 (lv_at hl 8 rfl) ?_
  refine lv_iload hx hb dX1_sampleFour_135 (lv_at hl 6 rfl) ?_
  refine lv_iload hx hb dX1_sampleFour_137 (lv_at hl 0 rfl) ?_
  refine rd_call (W.runV (As := [.ref u, .int p0, .int (tu_wrap ac (tu_whole ((((p1 : Int32).toInt64) * (((tu_len lw p0) : Int32).toInt64)) - (32768 : Int64))) (tu_len lw p0)), .int (tu_wrap dn (tu_whole ((((p2 : Int32).toInt64) * (((tu_len lh p0) : Int32).toInt64)) - (32768 : Int64))) (tu_len lh p0)), .int 1]) (rest := []) ⟨hx, hb, hml, hown, hts⟩ (r_sob l dC dI q wd us la nx u fr fo lw lh lv ac dn fi bc st cI mem sf bd tb p0 (tu_wrap ac (tu_whole ((((p1 : Int32).toInt64) * (((tu_len lw p0) : Int32).toInt64)) - (32768 : Int64))) (tu_len lw p0)) (tu_wrap dn (tu_whole ((((p2 : Int32).toInt64) * (((tu_len lh p0) : Int32).toInt64)) - (32768 : Int64))) (tu_len lh p0)) 1 h0 h1 (tu_fo4 h1 (tu_in (by decide))) (tu_in (by decide))) (cwV 5 hts (tg_V tw_308 tw_310 tw_p6 tw_1 tw_311) rfl rfl rfl (by decide +kernel) ⟨Nat.le_of_ble_eq_true rfl, Nat.le_of_ble_eq_true rfl⟩) ⟨rt_blind, va_recv hK hP (ci := 1) (q0 := 0) rfl rfl, fun U hU hW => ⟨rfl, rt_use (hP.sub [0, 1, 2, 3, 4] rfl) (hK.sub [0] rfl) (tb_use hX hS) U hU hW⟩⟩ rfl rfl hl.1 rfl (lv_room (Nat.le_of_ble_eq_true rfl)) dX1_sampleFour_139 ⟨Nat.le_of_ble_eq_true rfl, Nat.le_of_ble_eq_true rfl⟩) ?_
  refine lv_aload_n hx hb dX1_sampleFour_142 rfl (lv_at hl 13 rfl) ?_
  refine lv_aload_n hx hb dX1_sampleFour_143 rfl (lv_at hl 14 rfl) ?_
  refine lv_iload_n hx hb dX1_sampleFour_144 rfl (lv_at hl 15 rfl) ?_
  refine lv_iload hx hb dX1_sampleFour_145 (lv_at hl 7 rfl) ?_
  refine lv_iload hx hb dX1_sampleFour_147 (lv_at hl 6 rfl) ?_
  refine lv_iload hx hb dX1_sampleFour_149 (lv_at hl 0 rfl) ?_
  refine rd_call (W.runV (As := [.ref u, .int p0, .int (tu_wrap ac ((tu_whole ((((p1 : Int32).toInt64) * (((tu_len lw p0) : Int32).toInt64)) - (32768 : Int64))) + (1 : Int32)) (tu_len lw p0)), .int (tu_wrap dn (tu_whole ((((p2 : Int32).toInt64) * (((tu_len lh p0) : Int32).toInt64)) - (32768 : Int64))) (tu_len lh p0)), .int 1]) (rest := [.int (tu_sob mem sf bd fr fo lw p0 (tu_wrap ac (tu_whole ((((p1 : Int32).toInt64) * (((tu_len lw p0) : Int32).toInt64)) - (32768 : Int64))) (tu_len lw p0)) (tu_wrap dn (tu_whole ((((p2 : Int32).toInt64) * (((tu_len lh p0) : Int32).toInt64)) - (32768 : Int64))) (tu_len lh p0)) 1)]) ⟨hx, hb, hml, hown, hts⟩ (r_sob l dC dI q wd us la nx u fr fo lw lh lv ac dn fi bc st cI mem sf bd tb p0 (tu_wrap ac ((tu_whole ((((p1 : Int32).toInt64) * (((tu_len lw p0) : Int32).toInt64)) - (32768 : Int64))) + (1 : Int32)) (tu_len lw p0)) (tu_wrap dn (tu_whole ((((p2 : Int32).toInt64) * (((tu_len lh p0) : Int32).toInt64)) - (32768 : Int64))) (tu_len lh p0)) 1 h0 h1 (tu_fo4 h1 (tu_in (by decide))) (tu_in (by decide))) (cwV 5 hts (tg_V tw_308 tw_310 tw_p6 tw_1 tw_311) rfl rfl rfl (by decide +kernel) ⟨Nat.le_of_ble_eq_true rfl, Nat.le_of_ble_eq_true rfl⟩) ⟨rt_blind, va_recv hK hP (ci := 1) (q0 := 0) rfl rfl, fun U hU hW => ⟨rfl, rt_use (hP.sub [0, 1, 2, 3, 4] rfl) (hK.sub [0] rfl) (tb_use hX hS) U hU hW⟩⟩ rfl rfl hl.1 rfl (lv_room (Nat.le_of_ble_eq_true rfl)) dX1_sampleFour_151 ⟨Nat.le_of_ble_eq_true rfl, Nat.le_of_ble_eq_true rfl⟩) ?_
  refine lv_iload hx hb dX1_sampleFour_154 (lv_at hl 4 rfl) ?_
  refine rd_call (W.runS (As := [.int (tu_sob mem sf bd fr fo lw p0 (tu_wrap ac (tu_whole ((((p1 : Int32).toInt64) * (((tu_len lw p0) : Int32).toInt64)) - (32768 : Int64))) (tu_len lw p0)) (tu_wrap dn (tu_whole ((((p2 : Int32).toInt64) * (((tu_len lh p0) : Int32).toInt64)) - (32768 : Int64))) (tu_len lh p0)) 1), .int (tu_sob mem sf bd fr fo lw p0 (tu_wrap ac ((tu_whole ((((p1 : Int32).toInt64) * (((tu_len lw p0) : Int32).toInt64)) - (32768 : Int64))) + (1 : Int32)) (tu_len lw p0)) (tu_wrap dn (tu_whole ((((p2 : Int32).toInt64) * (((tu_len lh p0) : Int32).toInt64)) - (32768 : Int64))) (tu_len lh p0)) 1), .int (tu_rest ((((p1 : Int32).toInt64) * (((tu_len lw p0) : Int32).toInt64)) - (32768 : Int64)))]) (rest := []) ⟨hx, hb, hml, hown, hts⟩ (r_mix l (tu_sob mem sf bd fr fo lw p0 (tu_wrap ac (tu_whole ((((p1 : Int32).toInt64) * (((tu_len lw p0) : Int32).toInt64)) - (32768 : Int64))) (tu_len lw p0)) (tu_wrap dn (tu_whole ((((p2 : Int32).toInt64) * (((tu_len lh p0) : Int32).toInt64)) - (32768 : Int64))) (tu_len lh p0)) 1) (tu_sob mem sf bd fr fo lw p0 (tu_wrap ac ((tu_whole ((((p1 : Int32).toInt64) * (((tu_len lw p0) : Int32).toInt64)) - (32768 : Int64))) + (1 : Int32)) (tu_len lw p0)) (tu_wrap dn (tu_whole ((((p2 : Int32).toInt64) * (((tu_len lh p0) : Int32).toInt64)) - (32768 : Int64))) (tu_len lh p0)) 1) (tu_rest ((((p1 : Int32).toInt64) * (((tu_len lw p0) : Int32).toInt64)) - (32768 : Int64)))) (va_cwS 3 hts (tg_S tw_312 tw_313 tw_1 tw_314) rfl rfl rfl (by decide +kernel) ⟨Nat.le_of_ble_eq_true rfl, Nat.le_of_ble_eq_true rfl⟩) preEq rfl rfl hl.1 rfl (lv_room (Nat.le_of_ble_eq_true rfl)) dX1_sampleFour_156 ⟨Nat.le_of_ble_eq_true rfl, Nat.le_of_ble_eq_true rfl⟩) ?_
  refine lv_istore (lv' := [(19, .int (tu_mix (tu_sob mem sf bd fr fo lw p0 (tu_wrap ac (tu_whole ((((p1 : Int32).toInt64) * (((tu_len lw p0) : Int32).toInt64)) - (32768 : Int64))) (tu_len lw p0)) (tu_wrap dn (tu_whole ((((p2 : Int32).toInt64) * (((tu_len lh p0) : Int32).toInt64)) - (32768 : Int64))) (tu_len lh p0)) 1) (tu_sob mem sf bd fr fo lw p0 (tu_wrap ac ((tu_whole ((((p1 : Int32).toInt64) * (((tu_len lw p0) : Int32).toInt64)) - (32768 : Int64))) + (1 : Int32)) (tu_len lw p0)) (tu_wrap dn (tu_whole ((((p2 : Int32).toInt64) * (((tu_len lh p0) : Int32).toInt64)) - (32768 : Int64))) (tu_len lh p0)) 1) (tu_rest ((((p1 : Int32).toInt64) * (((tu_len lw p0) : Int32).toInt64)) - (32768 : Int64))))), (18, .int 1), (20, .int (tu_mix (tu_sob mem sf bd fr fo lw p0 (tu_wrap ac (tu_whole ((((p1 : Int32).toInt64) * (((tu_len lw p0) : Int32).toInt64)) - (32768 : Int64))) (tu_len lw p0)) (tu_wrap dn ((tu_whole ((((p2 : Int32).toInt64) * (((tu_len lh p0) : Int32).toInt64)) - (32768 : Int64))) + (1 : Int32)) (tu_len lh p0)) 0) (tu_sob mem sf bd fr fo lw p0 (tu_wrap ac ((tu_whole ((((p1 : Int32).toInt64) * (((tu_len lw p0) : Int32).toInt64)) - (32768 : Int64))) + (1 : Int32)) (tu_len lw p0)) (tu_wrap dn ((tu_whole ((((p2 : Int32).toInt64) * (((tu_len lh p0) : Int32).toInt64)) - (32768 : Int64))) + (1 : Int32)) (tu_len lh p0)) 0) (tu_rest ((((p1 : Int32).toInt64) * (((tu_len lw p0) : Int32).toInt64)) - (32768 : Int64))))), (17, .int (tu_rest ((((p2 : Int32).toInt64) * (((tu_len lh p0) : Int32).toInt64)) - (32768 : Int64)))), (16, .int (tu_rest ((((p1 : Int32).toInt64) * (((tu_len lw p0) : Int32).toInt64)) - (32768 : Int64)))), (15, .int (tu_wrap dn ((tu_whole ((((p2 : Int32).toInt64) * (((tu_len lh p0) : Int32).toInt64)) - (32768 : Int64))) + (1 : Int32)) (tu_len lh p0))), (14, .int (tu_wrap dn (tu_whole ((((p2 : Int32).toInt64) * (((tu_len lh p0) : Int32).toInt64)) - (32768 : Int64))) (tu_len lh p0))), (13, .int (tu_wrap ac ((tu_whole ((((p1 : Int32).toInt64) * (((tu_len lw p0) : Int32).toInt64)) - (32768 : Int64))) + (1 : Int32)) (tu_len lw p0))), (12, .int (tu_wrap ac (tu_whole ((((p1 : Int32).toInt64) * (((tu_len lw p0) : Int32).toInt64)) - (32768 : Int64))) (tu_len lw p0))), (10, .long ((((p2 : Int32).toInt64) * (((tu_len lh p0) : Int32).toInt64)) - (32768 : Int64))), (8, .long ((((p1 : Int32).toInt64) * (((tu_len lw p0) : Int32).toInt64)) - (32768 : Int64))), (7, .int (tu_len lh p0)), (6, .int (tu_len lw p0)), (0, .ref q), (1, .ref u), (2, .int p0), (3, .int p1), (4, .int p2), (5, .ref it)]) hx hb dX1_sampleFour_159 hl (by decide) rfl (fun ls hl => ?_)
  refine lv_aload_n hx hb dX1_sampleFour_161 rfl (lv_at hl 13 rfl) ?_
  refine lv_aload_n hx hb dX1_sampleFour_162 rfl (lv_at hl 14 rfl) ?_
  refine lv_iload_n hx hb dX1_sampleFour_163 rfl (lv_at hl 15 rfl) ?_
  refine lv_iload hx hb dX1_sampleFour_164 (lv_at hl 8 rfl) ?_
  refine lv_iload hx hb dX1_sampleFour_166 (lv_at hl 5 rfl) ?_
  refine lv_iload hx hb dX1_sampleFour_168 (lv_at hl 1 rfl) ?_
  refine rd_call (W.runV (As := [.ref u, .int p0, .int (tu_wrap ac (tu_whole ((((p1 : Int32).toInt64) * (((tu_len lw p0) : Int32).toInt64)) - (32768 : Int64))) (tu_len lw p0)), .int (tu_wrap dn ((tu_whole ((((p2 : Int32).toInt64) * (((tu_len lh p0) : Int32).toInt64)) - (32768 : Int64))) + (1 : Int32)) (tu_len lh p0)), .int 1]) (rest := []) ⟨hx, hb, hml, hown, hts⟩ (r_sob l dC dI q wd us la nx u fr fo lw lh lv ac dn fi bc st cI mem sf bd tb p0 (tu_wrap ac (tu_whole ((((p1 : Int32).toInt64) * (((tu_len lw p0) : Int32).toInt64)) - (32768 : Int64))) (tu_len lw p0)) (tu_wrap dn ((tu_whole ((((p2 : Int32).toInt64) * (((tu_len lh p0) : Int32).toInt64)) - (32768 : Int64))) + (1 : Int32)) (tu_len lh p0)) 1 h0 h1 (tu_fo4 h1 (tu_in (by decide))) (tu_in (by decide))) (cwV 5 hts (tg_V tw_308 tw_310 tw_p6 tw_1 tw_311) rfl rfl rfl (by decide +kernel) ⟨Nat.le_of_ble_eq_true rfl, Nat.le_of_ble_eq_true rfl⟩) ⟨rt_blind, va_recv hK hP (ci := 1) (q0 := 0) rfl rfl, fun U hU hW => ⟨rfl, rt_use (hP.sub [0, 1, 2, 3, 4] rfl) (hK.sub [0] rfl) (tb_use hX hS) U hU hW⟩⟩ rfl rfl hl.1 rfl (lv_room (Nat.le_of_ble_eq_true rfl)) dX1_sampleFour_170 ⟨Nat.le_of_ble_eq_true rfl, Nat.le_of_ble_eq_true rfl⟩) ?_
  refine lv_aload_n hx hb dX1_sampleFour_173 rfl (lv_at hl 13 rfl) ?_
  refine lv_aload_n hx hb dX1_sampleFour_174 rfl (lv_at hl 14 rfl) ?_
  refine lv_iload_n hx hb dX1_sampleFour_175 rfl (lv_at hl 15 rfl) ?_
  refine lv_iload hx hb dX1_sampleFour_176 (lv_at hl 7 rfl) ?_
  refine lv_iload hx hb dX1_sampleFour_178 (lv_at hl 5 rfl) ?_
  refine lv_iload hx hb dX1_sampleFour_180 (lv_at hl 1 rfl) ?_
  refine rd_call (W.runV (As := [.ref u, .int p0, .int (tu_wrap ac ((tu_whole ((((p1 : Int32).toInt64) * (((tu_len lw p0) : Int32).toInt64)) - (32768 : Int64))) + (1 : Int32)) (tu_len lw p0)), .int (tu_wrap dn ((tu_whole ((((p2 : Int32).toInt64) * (((tu_len lh p0) : Int32).toInt64)) - (32768 : Int64))) + (1 : Int32)) (tu_len lh p0)), .int 1]) (rest := [.int (tu_sob mem sf bd fr fo lw p0 (tu_wrap ac (tu_whole ((((p1 : Int32).toInt64) * (((tu_len lw p0) : Int32).toInt64)) - (32768 : Int64))) (tu_len lw p0)) (tu_wrap dn ((tu_whole ((((p2 : Int32).toInt64) * (((tu_len lh p0) : Int32).toInt64)) - (32768 : Int64))) + (1 : Int32)) (tu_len lh p0)) 1)]) ⟨hx, hb, hml, hown, hts⟩ (r_sob l dC dI q wd us la nx u fr fo lw lh lv ac dn fi bc st cI mem sf bd tb p0 (tu_wrap ac ((tu_whole ((((p1 : Int32).toInt64) * (((tu_len lw p0) : Int32).toInt64)) - (32768 : Int64))) + (1 : Int32)) (tu_len lw p0)) (tu_wrap dn ((tu_whole ((((p2 : Int32).toInt64) * (((tu_len lh p0) : Int32).toInt64)) - (32768 : Int64))) + (1 : Int32)) (tu_len lh p0)) 1 h0 h1 (tu_fo4 h1 (tu_in (by decide))) (tu_in (by decide))) (cwV 5 hts (tg_V tw_308 tw_310 tw_p6 tw_1 tw_311) rfl rfl rfl (by decide +kernel) ⟨Nat.le_of_ble_eq_true rfl, Nat.le_of_ble_eq_true rfl⟩) ⟨rt_blind, va_recv hK hP (ci := 1) (q0 := 0) rfl rfl, fun U hU hW => ⟨rfl, rt_use (hP.sub [0, 1, 2, 3, 4] rfl) (hK.sub [0] rfl) (tb_use hX hS) U hU hW⟩⟩ rfl rfl hl.1 rfl (lv_room (Nat.le_of_ble_eq_true rfl)) dX1_sampleFour_182 ⟨Nat.le_of_ble_eq_true rfl, Nat.le_of_ble_eq_true rfl⟩) ?_
  refine lv_iload hx hb dX1_sampleFour_185 (lv_at hl 4 rfl) ?_
  refine rd_call (W.runS (As := [.int (tu_sob mem sf bd fr fo lw p0 (tu_wrap ac (tu_whole ((((p1 : Int32).toInt64) * (((tu_len lw p0) : Int32).toInt64)) - (32768 : Int64))) (tu_len lw p0)) (tu_wrap dn ((tu_whole ((((p2 : Int32).toInt64) * (((tu_len lh p0) : Int32).toInt64)) - (32768 : Int64))) + (1 : Int32)) (tu_len lh p0)) 1), .int (tu_sob mem sf bd fr fo lw p0 (tu_wrap ac ((tu_whole ((((p1 : Int32).toInt64) * (((tu_len lw p0) : Int32).toInt64)) - (32768 : Int64))) + (1 : Int32)) (tu_len lw p0)) (tu_wrap dn ((tu_whole ((((p2 : Int32).toInt64) * (((tu_len lh p0) : Int32).toInt64)) - (32768 : Int64))) + (1 : Int32)) (tu_len lh p0)) 1), .int (tu_rest ((((p1 : Int32).toInt64) * (((tu_len lw p0) : Int32).toInt64)) - (32768 : Int64)))]) (rest := []) ⟨hx, hb, hml, hown, hts⟩ (r_mix l (tu_sob mem sf bd fr fo lw p0 (tu_wrap ac (tu_whole ((((p1 : Int32).toInt64) * (((tu_len lw p0) : Int32).toInt64)) - (32768 : Int64))) (tu_len lw p0)) (tu_wrap dn ((tu_whole ((((p2 : Int32).toInt64) * (((tu_len lh p0) : Int32).toInt64)) - (32768 : Int64))) + (1 : Int32)) (tu_len lh p0)) 1) (tu_sob mem sf bd fr fo lw p0 (tu_wrap ac ((tu_whole ((((p1 : Int32).toInt64) * (((tu_len lw p0) : Int32).toInt64)) - (32768 : Int64))) + (1 : Int32)) (tu_len lw p0)) (tu_wrap dn ((tu_whole ((((p2 : Int32).toInt64) * (((tu_len lh p0) : Int32).toInt64)) - (32768 : Int64))) + (1 : Int32)) (tu_len lh p0)) 1) (tu_rest ((((p1 : Int32).toInt64) * (((tu_len lw p0) : Int32).toInt64)) - (32768 : Int64)))) (va_cwS 3 hts (tg_S tw_312 tw_313 tw_1 tw_314) rfl rfl rfl (by decide +kernel) ⟨Nat.le_of_ble_eq_true rfl, Nat.le_of_ble_eq_true rfl⟩) preEq rfl rfl hl.1 rfl (lv_room (Nat.le_of_ble_eq_true rfl)) dX1_sampleFour_187 ⟨Nat.le_of_ble_eq_true rfl, Nat.le_of_ble_eq_true rfl⟩) ?_
  refine lv_istore (lv' := [(20, .int (tu_mix (tu_sob mem sf bd fr fo lw p0 (tu_wrap ac (tu_whole ((((p1 : Int32).toInt64) * (((tu_len lw p0) : Int32).toInt64)) - (32768 : Int64))) (tu_len lw p0)) (tu_wrap dn ((tu_whole ((((p2 : Int32).toInt64) * (((tu_len lh p0) : Int32).toInt64)) - (32768 : Int64))) + (1 : Int32)) (tu_len lh p0)) 1) (tu_sob mem sf bd fr fo lw p0 (tu_wrap ac ((tu_whole ((((p1 : Int32).toInt64) * (((tu_len lw p0) : Int32).toInt64)) - (32768 : Int64))) + (1 : Int32)) (tu_len lw p0)) (tu_wrap dn ((tu_whole ((((p2 : Int32).toInt64) * (((tu_len lh p0) : Int32).toInt64)) - (32768 : Int64))) + (1 : Int32)) (tu_len lh p0)) 1) (tu_rest ((((p1 : Int32).toInt64) * (((tu_len lw p0) : Int32).toInt64)) - (32768 : Int64))))), (19, .int (tu_mix (tu_sob mem sf bd fr fo lw p0 (tu_wrap ac (tu_whole ((((p1 : Int32).toInt64) * (((tu_len lw p0) : Int32).toInt64)) - (32768 : Int64))) (tu_len lw p0)) (tu_wrap dn (tu_whole ((((p2 : Int32).toInt64) * (((tu_len lh p0) : Int32).toInt64)) - (32768 : Int64))) (tu_len lh p0)) 1) (tu_sob mem sf bd fr fo lw p0 (tu_wrap ac ((tu_whole ((((p1 : Int32).toInt64) * (((tu_len lw p0) : Int32).toInt64)) - (32768 : Int64))) + (1 : Int32)) (tu_len lw p0)) (tu_wrap dn (tu_whole ((((p2 : Int32).toInt64) * (((tu_len lh p0) : Int32).toInt64)) - (32768 : Int64))) (tu_len lh p0)) 1) (tu_rest ((((p1 : Int32).toInt64) * (((tu_len lw p0) : Int32).toInt64)) - (32768 : Int64))))), (18, .int 1), (17, .int (tu_rest ((((p2 : Int32).toInt64) * (((tu_len lh p0) : Int32).toInt64)) - (32768 : Int64)))), (16, .int (tu_rest ((((p1 : Int32).toInt64) * (((tu_len lw p0) : Int32).toInt64)) - (32768 : Int64)))), (15, .int (tu_wrap dn ((tu_whole ((((p2 : Int32).toInt64) * (((tu_len lh p0) : Int32).toInt64)) - (32768 : Int64))) + (1 : Int32)) (tu_len lh p0))), (14, .int (tu_wrap dn (tu_whole ((((p2 : Int32).toInt64) * (((tu_len lh p0) : Int32).toInt64)) - (32768 : Int64))) (tu_len lh p0))), (13, .int (tu_wrap ac ((tu_whole ((((p1 : Int32).toInt64) * (((tu_len lw p0) : Int32).toInt64)) - (32768 : Int64))) + (1 : Int32)) (tu_len lw p0))), (12, .int (tu_wrap ac (tu_whole ((((p1 : Int32).toInt64) * (((tu_len lw p0) : Int32).toInt64)) - (32768 : Int64))) (tu_len lw p0))), (10, .long ((((p2 : Int32).toInt64) * (((tu_len lh p0) : Int32).toInt64)) - (32768 : Int64))), (8, .long ((((p1 : Int32).toInt64) * (((tu_len lw p0) : Int32).toInt64)) - (32768 : Int64))), (7, .int (tu_len lh p0)), (6, .int (tu_len lw p0)), (0, .ref q), (1, .ref u), (2, .int p0), (3, .int p1), (4, .int p2), (5, .ref it)]) hx hb dX1_sampleFour_190 hl (by decide) rfl (fun ls hl => ?_)
  refine lv_aload hx hb dX1_sampleFour_192 (lv_at hl 18 rfl) ?_
  refine lv_iload hx hb dX1_sampleFour_194 (lv_at hl 2 rfl) ?_
  refine lv_iload hx hb dX1_sampleFour_196 (lv_at hl 1 rfl) ?_
  refine lv_iload hx hb dX1_sampleFour_198 (lv_at hl 0 rfl) ?_
  refine lv_iload hx hb dX1_sampleFour_200 (lv_at hl 3 rfl) ?_
  refine rd_call (W.runS (As := [.int (tu_mix (tu_sob mem sf bd fr fo lw p0 (tu_wrap ac (tu_whole ((((p1 : Int32).toInt64) * (((tu_len lw p0) : Int32).toInt64)) - (32768 : Int64))) (tu_len lw p0)) (tu_wrap dn (tu_whole ((((p2 : Int32).toInt64) * (((tu_len lh p0) : Int32).toInt64)) - (32768 : Int64))) (tu_len lh p0)) 1) (tu_sob mem sf bd fr fo lw p0 (tu_wrap ac ((tu_whole ((((p1 : Int32).toInt64) * (((tu_len lw p0) : Int32).toInt64)) - (32768 : Int64))) + (1 : Int32)) (tu_len lw p0)) (tu_wrap dn (tu_whole ((((p2 : Int32).toInt64) * (((tu_len lh p0) : Int32).toInt64)) - (32768 : Int64))) (tu_len lh p0)) 1) (tu_rest ((((p1 : Int32).toInt64) * (((tu_len lw p0) : Int32).toInt64)) - (32768 : Int64)))), .int (tu_mix (tu_sob mem sf bd fr fo lw p0 (tu_wrap ac (tu_whole ((((p1 : Int32).toInt64) * (((tu_len lw p0) : Int32).toInt64)) - (32768 : Int64))) (tu_len lw p0)) (tu_wrap dn ((tu_whole ((((p2 : Int32).toInt64) * (((tu_len lh p0) : Int32).toInt64)) - (32768 : Int64))) + (1 : Int32)) (tu_len lh p0)) 1) (tu_sob mem sf bd fr fo lw p0 (tu_wrap ac ((tu_whole ((((p1 : Int32).toInt64) * (((tu_len lw p0) : Int32).toInt64)) - (32768 : Int64))) + (1 : Int32)) (tu_len lw p0)) (tu_wrap dn ((tu_whole ((((p2 : Int32).toInt64) * (((tu_len lh p0) : Int32).toInt64)) - (32768 : Int64))) + (1 : Int32)) (tu_len lh p0)) 1) (tu_rest ((((p1 : Int32).toInt64) * (((tu_len lw p0) : Int32).toInt64)) - (32768 : Int64)))), .int (tu_rest ((((p2 : Int32).toInt64) * (((tu_len lh p0) : Int32).toInt64)) - (32768 : Int64)))]) (rest := [.int 1, .ref it]) ⟨hx, hb, hml, hown, hts⟩ (r_mix l (tu_mix (tu_sob mem sf bd fr fo lw p0 (tu_wrap ac (tu_whole ((((p1 : Int32).toInt64) * (((tu_len lw p0) : Int32).toInt64)) - (32768 : Int64))) (tu_len lw p0)) (tu_wrap dn (tu_whole ((((p2 : Int32).toInt64) * (((tu_len lh p0) : Int32).toInt64)) - (32768 : Int64))) (tu_len lh p0)) 1) (tu_sob mem sf bd fr fo lw p0 (tu_wrap ac ((tu_whole ((((p1 : Int32).toInt64) * (((tu_len lw p0) : Int32).toInt64)) - (32768 : Int64))) + (1 : Int32)) (tu_len lw p0)) (tu_wrap dn (tu_whole ((((p2 : Int32).toInt64) * (((tu_len lh p0) : Int32).toInt64)) - (32768 : Int64))) (tu_len lh p0)) 1) (tu_rest ((((p1 : Int32).toInt64) * (((tu_len lw p0) : Int32).toInt64)) - (32768 : Int64)))) (tu_mix (tu_sob mem sf bd fr fo lw p0 (tu_wrap ac (tu_whole ((((p1 : Int32).toInt64) * (((tu_len lw p0) : Int32).toInt64)) - (32768 : Int64))) (tu_len lw p0)) (tu_wrap dn ((tu_whole ((((p2 : Int32).toInt64) * (((tu_len lh p0) : Int32).toInt64)) - (32768 : Int64))) + (1 : Int32)) (tu_len lh p0)) 1) (tu_sob mem sf bd fr fo lw p0 (tu_wrap ac ((tu_whole ((((p1 : Int32).toInt64) * (((tu_len lw p0) : Int32).toInt64)) - (32768 : Int64))) + (1 : Int32)) (tu_len lw p0)) (tu_wrap dn ((tu_whole ((((p2 : Int32).toInt64) * (((tu_len lh p0) : Int32).toInt64)) - (32768 : Int64))) + (1 : Int32)) (tu_len lh p0)) 1) (tu_rest ((((p1 : Int32).toInt64) * (((tu_len lw p0) : Int32).toInt64)) - (32768 : Int64)))) (tu_rest ((((p2 : Int32).toInt64) * (((tu_len lh p0) : Int32).toInt64)) - (32768 : Int64)))) (va_cwS 3 hts (tg_S tw_312 tw_313 tw_1 tw_314) rfl rfl rfl (by decide +kernel) ⟨Nat.le_of_ble_eq_true rfl, Nat.le_of_ble_eq_true rfl⟩) preEq rfl rfl hl.1 rfl (lv_room (Nat.le_of_ble_eq_true rfl)) dX1_sampleFour_202 ⟨Nat.le_of_ble_eq_true rfl, Nat.le_of_ble_eq_true rfl⟩) ?_
  refine va_iast hx hb hK hP hD hS 5 0 rfl rfl (tu_in (by decide)) dX1_sampleFour_205 (fun H locs hP hD hS => ?_)
  have hP : va_P (dC, dI) vwCl [(q, .inr (1, [.ref wd, .ref us, .ref la, .ref nx])), (u, .inr (0, [.int fr, .int fo, .int lw, .int lh, .int lv, .int ac, .int dn, .int fi, .ref bc, .ref st])), (wd, .inl (cI, 2048, .inl mem)), (st, .inl (cI, 12, .inl sf)), (bc, .inl (cI, 4, .inl bd)), (it, .inl (cI, 4, .inl (upd (upd g 0 (tu_mix (tu_mix (tu_sob mem sf bd fr fo lw p0 (tu_wrap ac (tu_whole ((((p1 : Int32).toInt64) * (((tu_len lw p0) : Int32).toInt64)) - (32768 : Int64))) (tu_len lw p0)) (tu_wrap dn (tu_whole ((((p2 : Int32).toInt64) * (((tu_len lh p0) : Int32).toInt64)) - (32768 : Int64))) (tu_len lh p0)) 0) (tu_sob mem sf bd fr fo lw p0 (tu_wrap ac ((tu_whole ((((p1 : Int32).toInt64) * (((tu_len lw p0) : Int32).toInt64)) - (32768 : Int64))) + (1 : Int32)) (tu_len lw p0)) (tu_wrap dn (tu_whole ((((p2 : Int32).toInt64) * (((tu_len lh p0) : Int32).toInt64)) - (32768 : Int64))) (tu_len lh p0)) 0) (tu_rest ((((p1 : Int32).toInt64) * (((tu_len lw p0) : Int32).toInt64)) - (32768 : Int64)))) (tu_mix (tu_sob mem sf bd fr fo lw p0 (tu_wrap ac (tu_whole ((((p1 : Int32).toInt64) * (((tu_len lw p0) : Int32).toInt64)) - (32768 : Int64))) (tu_len lw p0)) (tu_wrap dn ((tu_whole ((((p2 : Int32).toInt64) * (((tu_len lh p0) : Int32).toInt64)) - (32768 : Int64))) + (1 : Int32)) (tu_len lh p0)) 0) (tu_sob mem sf bd fr fo lw p0 (tu_wrap ac ((tu_whole ((((p1 : Int32).toInt64) * (((tu_len lw p0) : Int32).toInt64)) - (32768 : Int64))) + (1 : Int32)) (tu_len lw p0)) (tu_wrap dn ((tu_whole ((((p2 : Int32).toInt64) * (((tu_len lh p0) : Int32).toInt64)) - (32768 : Int64))) + (1 : Int32)) (tu_len lh p0)) 0) (tu_rest ((((p1 : Int32).toInt64) * (((tu_len lw p0) : Int32).toInt64)) - (32768 : Int64)))) (tu_rest ((((p2 : Int32).toInt64) * (((tu_len lh p0) : Int32).toInt64)) - (32768 : Int64))))) 1 (tu_mix (tu_mix (tu_sob mem sf bd fr fo lw p0 (tu_wrap ac (tu_whole ((((p1 : Int32).toInt64) * (((tu_len lw p0) : Int32).toInt64)) - (32768 : Int64))) (tu_len lw p0)) (tu_wrap dn (tu_whole ((((p2 : Int32).toInt64) * (((tu_len lh p0) : Int32).toInt64)) - (32768 : Int64))) (tu_len lh p0)) 1) (tu_sob mem sf bd fr fo lw p0 (tu_wrap ac ((tu_whole ((((p1 : Int32).toInt64) * (((tu_len lw p0) : Int32).toInt64)) - (32768 : Int64))) + (1 : Int32)) (tu_len lw p0)) (tu_wrap dn (tu_whole ((((p2 : Int32).toInt64) * (((tu_len lh p0) : Int32).toInt64)) - (32768 : Int64))) (tu_len lh p0)) 1) (tu_rest ((((p1 : Int32).toInt64) * (((tu_len lw p0) : Int32).toInt64)) - (32768 : Int64)))) (tu_mix (tu_sob mem sf bd fr fo lw p0 (tu_wrap ac (tu_whole ((((p1 : Int32).toInt64) * (((tu_len lw p0) : Int32).toInt64)) - (32768 : Int64))) (tu_len lw p0)) (tu_wrap dn ((tu_whole ((((p2 : Int32).toInt64) * (((tu_len lh p0) : Int32).toInt64)) - (32768 : Int64))) + (1 : Int32)) (tu_len lh p0)) 1) (tu_sob mem sf bd fr fo lw p0 (tu_wrap ac ((tu_whole ((((p1 : Int32).toInt64) * (((tu_len lw p0) : Int32).toInt64)) - (32768 : Int64))) + (1 : Int32)) (tu_len lw p0)) (tu_wrap dn ((tu_whole ((((p2 : Int32).toInt64) * (((tu_len lh p0) : Int32).toInt64)) - (32768 : Int64))) + (1 : Int32)) (tu_len lh p0)) 1) (tu_rest ((((p1 : Int32).toInt64) * (((tu_len lw p0) : Int32).toInt64)) - (32768 : Int64)))) (tu_rest ((((p2 : Int32).toInt64) * (((tu_len lh p0) : Int32).toInt64)) - (32768 : Int64)))))))] H := hP
  have hD : va_D A [(q, .inr (1, [.ref wd, .ref us, .ref la, .ref nx])), (u, .inr (0, [.int fr, .int fo, .int lw, .int lh, .int lv, .int ac, .int dn, .int fi, .ref bc, .ref st])), (wd, .inl (cI, 2048, .inl mem)), (st, .inl (cI, 12, .inl sf)), (bc, .inl (cI, 4, .inl bd)), (it, .inl (cI, 4, .inl (upd (upd g 0 (tu_mix (tu_mix (tu_sob mem sf bd fr fo lw p0 (tu_wrap ac (tu_whole ((((p1 : Int32).toInt64) * (((tu_len lw p0) : Int32).toInt64)) - (32768 : Int64))) (tu_len lw p0)) (tu_wrap dn (tu_whole ((((p2 : Int32).toInt64) * (((tu_len lh p0) : Int32).toInt64)) - (32768 : Int64))) (tu_len lh p0)) 0) (tu_sob mem sf bd fr fo lw p0 (tu_wrap ac ((tu_whole ((((p1 : Int32).toInt64) * (((tu_len lw p0) : Int32).toInt64)) - (32768 : Int64))) + (1 : Int32)) (tu_len lw p0)) (tu_wrap dn (tu_whole ((((p2 : Int32).toInt64) * (((tu_len lh p0) : Int32).toInt64)) - (32768 : Int64))) (tu_len lh p0)) 0) (tu_rest ((((p1 : Int32).toInt64) * (((tu_len lw p0) : Int32).toInt64)) - (32768 : Int64)))) (tu_mix (tu_sob mem sf bd fr fo lw p0 (tu_wrap ac (tu_whole ((((p1 : Int32).toInt64) * (((tu_len lw p0) : Int32).toInt64)) - (32768 : Int64))) (tu_len lw p0)) (tu_wrap dn ((tu_whole ((((p2 : Int32).toInt64) * (((tu_len lh p0) : Int32).toInt64)) - (32768 : Int64))) + (1 : Int32)) (tu_len lh p0)) 0) (tu_sob mem sf bd fr fo lw p0 (tu_wrap ac ((tu_whole ((((p1 : Int32).toInt64) * (((tu_len lw p0) : Int32).toInt64)) - (32768 : Int64))) + (1 : Int32)) (tu_len lw p0)) (tu_wrap dn ((tu_whole ((((p2 : Int32).toInt64) * (((tu_len lh p0) : Int32).toInt64)) - (32768 : Int64))) + (1 : Int32)) (tu_len lh p0)) 0) (tu_rest ((((p1 : Int32).toInt64) * (((tu_len lw p0) : Int32).toInt64)) - (32768 : Int64)))) (tu_rest ((((p2 : Int32).toInt64) * (((tu_len lh p0) : Int32).toInt64)) - (32768 : Int64))))) 1 (tu_mix (tu_mix (tu_sob mem sf bd fr fo lw p0 (tu_wrap ac (tu_whole ((((p1 : Int32).toInt64) * (((tu_len lw p0) : Int32).toInt64)) - (32768 : Int64))) (tu_len lw p0)) (tu_wrap dn (tu_whole ((((p2 : Int32).toInt64) * (((tu_len lh p0) : Int32).toInt64)) - (32768 : Int64))) (tu_len lh p0)) 1) (tu_sob mem sf bd fr fo lw p0 (tu_wrap ac ((tu_whole ((((p1 : Int32).toInt64) * (((tu_len lw p0) : Int32).toInt64)) - (32768 : Int64))) + (1 : Int32)) (tu_len lw p0)) (tu_wrap dn (tu_whole ((((p2 : Int32).toInt64) * (((tu_len lh p0) : Int32).toInt64)) - (32768 : Int64))) (tu_len lh p0)) 1) (tu_rest ((((p1 : Int32).toInt64) * (((tu_len lw p0) : Int32).toInt64)) - (32768 : Int64)))) (tu_mix (tu_sob mem sf bd fr fo lw p0 (tu_wrap ac (tu_whole ((((p1 : Int32).toInt64) * (((tu_len lw p0) : Int32).toInt64)) - (32768 : Int64))) (tu_len lw p0)) (tu_wrap dn ((tu_whole ((((p2 : Int32).toInt64) * (((tu_len lh p0) : Int32).toInt64)) - (32768 : Int64))) + (1 : Int32)) (tu_len lh p0)) 1) (tu_sob mem sf bd fr fo lw p0 (tu_wrap ac ((tu_whole ((((p1 : Int32).toInt64) * (((tu_len lw p0) : Int32).toInt64)) - (32768 : Int64))) + (1 : Int32)) (tu_len lw p0)) (tu_wrap dn ((tu_whole ((((p2 : Int32).toInt64) * (((tu_len lh p0) : Int32).toInt64)) - (32768 : Int64))) + (1 : Int32)) (tu_len lh p0)) 1) (tu_rest ((((p1 : Int32).toInt64) * (((tu_len lw p0) : Int32).toInt64)) - (32768 : Int64)))) (tu_rest ((((p2 : Int32).toInt64) * (((tu_len lh p0) : Int32).toInt64)) - (32768 : Int64)))))))] := hD
  refine lv_iinc (v := 2) (lv' := [(18, .int 2), (20, .int (tu_mix (tu_sob mem sf bd fr fo lw p0 (tu_wrap ac (tu_whole ((((p1 : Int32).toInt64) * (((tu_len lw p0) : Int32).toInt64)) - (32768 : Int64))) (tu_len lw p0)) (tu_wrap dn ((tu_whole ((((p2 : Int32).toInt64) * (((tu_len lh p0) : Int32).toInt64)) - (32768 : Int64))) + (1 : Int32)) (tu_len lh p0)) 1) (tu_sob mem sf bd fr fo lw p0 (tu_wrap ac ((tu_whole ((((p1 : Int32).toInt64) * (((tu_len lw p0) : Int32).toInt64)) - (32768 : Int64))) + (1 : Int32)) (tu_len lw p0)) (tu_wrap dn ((tu_whole ((((p2 : Int32).toInt64) * (((tu_len lh p0) : Int32).toInt64)) - (32768 : Int64))) + (1 : Int32)) (tu_len lh p0)) 1) (tu_rest ((((p1 : Int32).toInt64) * (((tu_len lw p0) : Int32).toInt64)) - (32768 : Int64))))), (19, .int (tu_mix (tu_sob mem sf bd fr fo lw p0 (tu_wrap ac (tu_whole ((((p1 : Int32).toInt64) * (((tu_len lw p0) : Int32).toInt64)) - (32768 : Int64))) (tu_len lw p0)) (tu_wrap dn (tu_whole ((((p2 : Int32).toInt64) * (((tu_len lh p0) : Int32).toInt64)) - (32768 : Int64))) (tu_len lh p0)) 1) (tu_sob mem sf bd fr fo lw p0 (tu_wrap ac ((tu_whole ((((p1 : Int32).toInt64) * (((tu_len lw p0) : Int32).toInt64)) - (32768 : Int64))) + (1 : Int32)) (tu_len lw p0)) (tu_wrap dn (tu_whole ((((p2 : Int32).toInt64) * (((tu_len lh p0) : Int32).toInt64)) - (32768 : Int64))) (tu_len lh p0)) 1) (tu_rest ((((p1 : Int32).toInt64) * (((tu_len lw p0) : Int32).toInt64)) - (32768 : Int64))))), (17, .int (tu_rest ((((p2 : Int32).toInt64) * (((tu_len lh p0) : Int32).toInt64)) - (32768 : Int64)))), (16, .int (tu_rest ((((p1 : Int32).toInt64) * (((tu_len lw p0) : Int32).toInt64)) - (32768 : Int64)))), (15, .int (tu_wrap dn ((tu_whole ((((p2 : Int32).toInt64) * (((tu_len lh p0) : Int32).toInt64)) - (32768 : Int64))) + (1 : Int32)) (tu_len lh p0))), (14, .int (tu_wrap dn (tu_whole ((((p2 : Int32).toInt64) * (((tu_len lh p0) : Int32).toInt64)) - (32768 : Int64))) (tu_len lh p0))), (13, .int (tu_wrap ac ((tu_whole ((((p1 : Int32).toInt64) * (((tu_len lw p0) : Int32).toInt64)) - (32768 : Int64))) + (1 : Int32)) (tu_len lw p0))), (12, .int (tu_wrap ac (tu_whole ((((p1 : Int32).toInt64) * (((tu_len lw p0) : Int32).toInt64)) - (32768 : Int64))) (tu_len lw p0))), (10, .long ((((p2 : Int32).toInt64) * (((tu_len lh p0) : Int32).toInt64)) - (32768 : Int64))), (8, .long ((((p1 : Int32).toInt64) * (((tu_len lw p0) : Int32).toInt64)) - (32768 : Int64))), (7, .int (tu_len lh p0)), (6, .int (tu_len lw p0)), (0, .ref q), (1, .ref u), (2, .int p0), (3, .int p1), (4, .int p2), (5, .ref it)]) hx hb dX1_sampleFour_206 hl (k := 2) rfl (by decide) (by decide) rfl (fun ls hl => ?_)
  refine lv_goto (tgt := 124) hx hb dX1_sampleFour_209 (by decide) ?_
  refine lv_iload hx hb dX1_sampleFour_124 (lv_at hl 0 rfl) ?_
  refine lv_iconst (v := 4) hx hb dX1_sampleFour_126 (by decide) ?_
  refine lv_icmp_ge (tgt := 212) hx hb dX1_sampleFour_127 (by decide) (fun c_3 => absurd c_3 (by decide)) (fun c_3 => ?_)
  refine lv_aload_n hx hb dX1_sampleFour_130 rfl (lv_at hl 13 rfl) ?_
  refine lv_aload_n hx hb dX1_sampleFour_131 rfl (lv_at hl 14 rfl) ?_
  refine lv_iload_n hx hb dX1_sampleFour_132 rfl (lv_at hl 15 rfl) ?_
  refine lv_iload hx hb dX1_sampleFour_133 (lv_at hl 8 rfl) ?_
  refine lv_iload hx hb dX1_sampleFour_135 (lv_at hl 6 rfl) ?_
  refine lv_iload hx hb dX1_sampleFour_137 (lv_at hl 0 rfl) ?_
  refine rd_call (W.runV (As := [.ref u, .int p0, .int (tu_wrap ac (tu_whole ((((p1 : Int32).toInt64) * (((tu_len lw p0) : Int32).toInt64)) - (32768 : Int64))) (tu_len lw p0)), .int (tu_wrap dn (tu_whole ((((p2 : Int32).toInt64) * (((tu_len lh p0) : Int32).toInt64)) - (32768 : Int64))) (tu_len lh p0)), .int 2]) (rest := []) ⟨hx, hb, hml, hown, hts⟩ (r_sob l dC dI q wd us la nx u fr fo lw lh lv ac dn fi bc st cI mem sf bd tb p0 (tu_wrap ac (tu_whole ((((p1 : Int32).toInt64) * (((tu_len lw p0) : Int32).toInt64)) - (32768 : Int64))) (tu_len lw p0)) (tu_wrap dn (tu_whole ((((p2 : Int32).toInt64) * (((tu_len lh p0) : Int32).toInt64)) - (32768 : Int64))) (tu_len lh p0)) 2 h0 h1 (tu_fo4 h1 (tu_in (by decide))) (tu_in (by decide))) (cwV 5 hts (tg_V tw_308 tw_310 tw_p6 tw_1 tw_311) rfl rfl rfl (by decide +kernel) ⟨Nat.le_of_ble_eq_true rfl, Nat.le_of_ble_eq_true rfl⟩) ⟨rt_blind, va_recv hK hP (ci := 1) (q0 := 0) rfl rfl, fun U hU hW => ⟨rfl, rt_use (hP.sub [0, 1, 2, 3, 4] rfl) (hK.sub [0] rfl) (tb_use hX hS) U hU hW⟩⟩ rfl rfl hl.1 rfl (lv_room (Nat.le_of_ble_eq_true rfl)) dX1_sampleFour_139 ⟨Nat.le_of_ble_eq_true rfl, Nat.le_of_ble_eq_true rfl⟩) ?_
  refine lv_aload_n hx hb dX1_sampleFour_142 rfl (lv_at hl 13 rfl) ?_
  refine lv_aload_n hx hb dX1_sampleFour_143 rfl (lv_at hl 14 rfl) ?_
  refine lv_iload_n hx hb dX1_sampleFour_144 rfl (lv_at hl 15 rfl) ?_
  refine lv_iload hx hb dX1_sampleFour_145 (lv_at hl 7 rfl) ?_
  refine lv_iload hx hb dX1_sampleFour_147 (lv_at hl 6 rfl) ?_
  refine lv_iload hx hb dX1_sampleFour_149 (lv_at hl 0 rfl) ?_
  refine rd_call (W.runV (As := [.ref u, .int p0, .int (tu_wrap ac ((tu_whole ((((p1 : Int32).toInt64) * (((tu_len lw p0) : Int32).toInt64)) - (32768 : Int64))) + (1 : Int32)) (tu_len lw p0)), .int (tu_wrap dn (tu_whole ((((p2 : Int32).toInt64) * (((tu_len lh p0) : Int32).toInt64)) - (32768 : Int64))) (tu_len lh p0)), .int 2]) (rest := [.int (tu_sob mem sf bd fr fo lw p0 (tu_wrap ac (tu_whole ((((p1 : Int32).toInt64) * (((tu_len lw p0) : Int32).toInt64)) - (32768 : Int64))) (tu_len lw p0)) (tu_wrap dn (tu_whole ((((p2 : Int32).toInt64) * (((tu_len lh p0) : Int32).toInt64)) - (32768 : Int64))) (tu_len lh p0)) 2)]) ⟨hx, hb, hml, hown, hts⟩ (r_sob l dC dI q wd us la nx u fr fo lw lh lv ac dn fi bc st cI mem sf bd tb p0 (tu_wrap ac ((tu_whole ((((p1 : Int32).toInt64) * (((tu_len lw p0) : Int32).toInt64)) - (32768 : Int64))) + (1 : Int32)) (tu_len lw p0)) (tu_wrap dn (tu_whole ((((p2 : Int32).toInt64) * (((tu_len lh p0) : Int32).toInt64)) - (32768 : Int64))) (tu_len lh p0)) 2 h0 h1 (tu_fo4 h1 (tu_in (by decide))) (tu_in (by decide))) (cwV 5 hts (tg_V tw_308 tw_310 tw_p6 tw_1 tw_311) rfl rfl rfl (by decide +kernel) ⟨Nat.le_of_ble_eq_true rfl, Nat.le_of_ble_eq_true rfl⟩) ⟨rt_blind, va_recv hK hP (ci := 1) (q0 := 0) rfl rfl, fun U hU hW => ⟨rfl, rt_use (hP.sub [0, 1, 2, 3, 4] rfl) (hK.sub [0] rfl) (tb_use hX hS) U hU hW⟩⟩ rfl rfl hl.1 rfl (lv_room (Nat.le_of_ble_eq_true rfl)) dX1_sampleFour_151 ⟨Nat.le_of_ble_eq_true rfl, Nat.le_of_ble_eq_true rfl⟩) ?_
  refine lv_iload hx hb dX1_sampleFour_154 (lv_at hl 4 rfl) ?_
  refine rd_call (W.runS (As := [.int (tu_sob mem sf bd fr fo lw p0 (tu_wrap ac (tu_whole ((((p1 : Int32).toInt64) * (((tu_len lw p0) : Int32).toInt64)) - (32768 : Int64))) (tu_len lw p0)) (tu_wrap dn (tu_whole ((((p2 : Int32).toInt64) * (((tu_len lh p0) : Int32).toInt64)) - (32768 : Int64))) (tu_len lh p0)) 2), .int (tu_sob mem sf bd fr fo lw p0 (tu_wrap ac ((tu_whole ((((p1 : Int32).toInt64) * (((tu_len lw p0) : Int32).toInt64)) - (32768 : Int64))) + (1 : Int32)) (tu_len lw p0)) (tu_wrap dn (tu_whole ((((p2 : Int32).toInt64) * (((tu_len lh p0) : Int32).toInt64)) - (32768 : Int64))) (tu_len lh p0)) 2), .int (tu_rest ((((p1 : Int32).toInt64) * (((tu_len lw p0) : Int32).toInt64)) - (32768 : Int64)))]) (rest := []) ⟨hx, hb, hml, hown, hts⟩ (r_mix l (tu_sob mem sf bd fr fo lw p0 (tu_wrap ac (tu_whole ((((p1 : Int32).toInt64) * (((tu_len lw p0) : Int32).toInt64)) - (32768 : Int64))) (tu_len lw p0)) (tu_wrap dn (tu_whole ((((p2 : Int32).toInt64) * (((tu_len lh p0) : Int32).toInt64)) - (32768 : Int64))) (tu_len lh p0)) 2) (tu_sob mem sf bd fr fo lw p0 (tu_wrap ac ((tu_whole ((((p1 : Int32).toInt64) * (((tu_len lw p0) : Int32).toInt64)) - (32768 : Int64))) + (1 : Int32)) (tu_len lw p0)) (tu_wrap dn (tu_whole ((((p2 : Int32).toInt64) * (((tu_len lh p0) : Int32).toInt64)) - (32768 : Int64))) (tu_len lh p0)) 2) (tu_rest ((((p1 : Int32).toInt64) * (((tu_len lw p0) : Int32).toInt64)) - (32768 : Int64)))) (va_cwS 3 hts (tg_S tw_312 tw_313 tw_1 tw_314) rfl rfl rfl (by decide +kernel) ⟨Nat.le_of_ble_eq_true rfl, Nat.le_of_ble_eq_true rfl⟩) preEq rfl rfl hl.1 rfl (lv_room (Nat.le_of_ble_eq_true rfl)) dX1_sampleFour_156 ⟨Nat.le_of_ble_eq_true rfl, Nat.le_of_ble_eq_true rfl⟩) ?_
  refine lv_istore (lv' := [(19, .int (tu_mix (tu_sob mem sf bd fr fo lw p0 (tu_wrap ac (tu_whole ((((p1 : Int32).toInt64) * (((tu_len lw p0) : Int32).toInt64)) - (32768 : Int64))) (tu_len lw p0)) (tu_wrap dn (tu_whole ((((p2 : Int32).toInt64) * (((tu_len lh p0) : Int32).toInt64)) - (32768 : Int64))) (tu_len lh p0)) 2) (tu_sob mem sf bd fr fo lw p0 (tu_wrap ac ((tu_whole ((((p1 : Int32).toInt64) * (((tu_len lw p0) : Int32).toInt64)) - (32768 : Int64))) + (1 : Int32)) (tu_len lw p0)) (tu_wrap dn (tu_whole ((((p2 : Int32).toInt64) * (((tu_len lh p0) : Int32).toInt64)) - (32768 : Int64))) (tu_len lh p0)) 2) (tu_rest ((((p1 : Int32).toInt64) * (((tu_len lw p0) : Int32).toInt64)) - (32768 : Int64))))), (18, .int 2), (20, .int (tu_mix (tu_sob mem sf bd fr fo lw p0 (tu_wrap ac (tu_whole ((((p1 : Int32).toInt64) * (((tu_len lw p0) : Int32).toInt64)) - (32768 : Int64))) (tu_len lw p0)) (tu_wrap dn ((tu_whole ((((p2 : Int32).toInt64) * (((tu_len lh p0) : Int32).toInt64)) - (32768 : Int64))) + (1 : Int32)) (tu_len lh p0)) 1) (tu_sob mem sf bd fr fo lw p0 (tu_wrap ac ((tu_whole ((((p1 : Int32).toInt64) * (((tu_len lw p0) : Int32).toInt64)) - (32768 : Int64))) + (1 : Int32)) (tu_len lw p0)) (tu_wrap dn ((tu_whole ((((p2 : Int32).toInt64) * (((tu_len lh p0) : Int32).toInt64)) - (32768 : Int64))) + (1 : Int32)) (tu_len lh p0)) 1) (tu_rest ((((p1 : Int32).toInt64) * (((tu_len lw p0) : Int32).toInt64)) - (32768 : Int64))))), (17, .int (tu_rest ((((p2 : Int32).toInt64) * (((tu_len lh p0) : Int32).toInt64)) - (32768 : Int64)))), (16, .int (tu_rest ((((p1 : Int32).toInt64) * (((tu_len lw p0) : Int32).toInt64)) - (32768 : Int64)))), (15, .int (tu_wrap dn ((tu_whole ((((p2 : Int32).toInt64) * (((tu_len lh p0) : Int32).toInt64)) - (32768 : Int64))) + (1 : Int32)) (tu_len lh p0))), (14, .int (tu_wrap dn (tu_whole ((((p2 : Int32).toInt64) * (((tu_len lh p0) : Int32).toInt64)) - (32768 : Int64))) (tu_len lh p0))), (13, .int (tu_wrap ac ((tu_whole ((((p1 : Int32).toInt64) * (((tu_len lw p0) : Int32).toInt64)) - (32768 : Int64))) + (1 : Int32)) (tu_len lw p0))), (12, .int (tu_wrap ac (tu_whole ((((p1 : Int32).toInt64) * (((tu_len lw p0) : Int32).toInt64)) - (32768 : Int64))) (tu_len lw p0))), (10, .long ((((p2 : Int32).toInt64) * (((tu_len lh p0) : Int32).toInt64)) - (32768 : Int64))), (8, .long ((((p1 : Int32).toInt64) * (((tu_len lw p0) : Int32).toInt64)) - (32768 : Int64))), (7, .int (tu_len lh p0)), (6, .int (tu_len lw p0)), (0, .ref q), (1, .ref u), (2, .int p0), (3, .int p1), (4, .int p2), (5, .ref it)]) hx hb dX1_sampleFour_159 hl (by decide) rfl (fun ls hl => ?_)
  refine lv_aload_n hx hb dX1_sampleFour_161 rfl (lv_at hl 13 rfl) ?_
  refine lv_aload_n hx hb dX1_sampleFour_162 rfl (lv_at hl 14 rfl) ?_
  refine lv_iload_n hx hb dX1_sampleFour_163 rfl (lv_at hl 15 rfl) ?_
  refine lv_iload hx hb dX1_sampleFour_164 (lv_at hl 8 rfl) ?_
  refine lv_iload hx hb dX1_sampleFour_166 (lv_at hl 5 rfl) ?_
  refine lv_iload hx hb dX1_sampleFour_168 (lv_at hl 1 rfl) ?_
  refine rd_call (W.runV (As := [.ref u, .int p0, .int (tu_wrap ac (tu_whole ((((p1 : Int32).toInt64) * (((tu_len lw p0) : Int32).toInt64)) - (32768 : Int64))) (tu_len lw p0)), .int (tu_wrap dn ((tu_whole ((((p2 : Int32).toInt64) * (((tu_len lh p0) : Int32).toInt64)) - (32768 : Int64))) + (1 : Int32)) (tu_len lh p0)), .int 2]) (rest := []) ⟨hx, hb, hml, hown, hts⟩ (r_sob l dC dI q wd us la nx u fr fo lw lh lv ac dn fi bc st cI mem sf bd tb p0 (tu_wrap ac (tu_whole ((((p1 : Int32).toInt64) * (((tu_len lw p0) : Int32).toInt64)) - (32768 : Int64))) (tu_len lw p0)) (tu_wrap dn ((tu_whole ((((p2 : Int32).toInt64) * (((tu_len lh p0) : Int32).toInt64)) - (32768 : Int64))) + (1 : Int32)) (tu_len lh p0)) 2 h0 h1 (tu_fo4 h1 (tu_in (by decide))) (tu_in (by decide))) (cwV 5 hts (tg_V tw_308 tw_310 tw_p6 tw_1 tw_311) rfl rfl rfl (by decide +kernel) ⟨Nat.le_of_ble_eq_true rfl, Nat.le_of_ble_eq_true rfl⟩) ⟨rt_blind, va_recv hK hP (ci := 1) (q0 := 0) rfl rfl, fun U hU hW => ⟨rfl, rt_use (hP.sub [0, 1, 2, 3, 4] rfl) (hK.sub [0] rfl) (tb_use hX hS) U hU hW⟩⟩ rfl rfl hl.1 rfl (lv_room (Nat.le_of_ble_eq_true rfl)) dX1_sampleFour_170 ⟨Nat.le_of_ble_eq_true rfl, Nat.le_of_ble_eq_true rfl⟩) ?_
  refine lv_aload_n hx hb dX1_sampleFour_173 rfl (lv_at hl 13 rfl) ?_
  refine lv_aload_n hx hb dX1_sampleFour_174 rfl (lv_at hl 14 rfl) ?_
  refine lv_iload_n hx hb dX1_sampleFour_175 rfl (lv_at hl 15 rfl) ?_
  refine lv_iload hx hb dX1_sampleFour_176 (lv_at hl 7 rfl) ?_
  refine lv_iload hx hb dX1_sampleFour_178 (lv_at hl 5 rfl) ?_
  refine lv_iload hx hb dX1_sampleFour_180 (lv_at hl 1 rfl) ?_
  refine rd_call (W.runV (As := [.ref u, .int p0, .int (tu_wrap ac ((tu_whole ((((p1 : Int32).toInt64) * (((tu_len lw p0) : Int32).toInt64)) - (32768 : Int64))) + (1 : Int32)) (tu_len lw p0)), .int (tu_wrap dn ((tu_whole ((((p2 : Int32).toInt64) * (((tu_len lh p0) : Int32).toInt64)) - (32768 : Int64))) + (1 : Int32)) (tu_len lh p0)), .int 2]) (rest := [.int (tu_sob mem sf bd fr fo lw p0 (tu_wrap ac (tu_whole ((((p1 : Int32).toInt64) * (((tu_len lw p0) : Int32).toInt64)) - (32768 : Int64))) (tu_len lw p0)) (tu_wrap dn ((tu_whole ((((p2 : Int32).toInt64) * (((tu_len lh p0) : Int32).toInt64)) - (32768 : Int64))) + (1 : Int32)) (tu_len lh p0)) 2)]) ⟨hx, hb, hml, hown, hts⟩ (r_sob l dC dI q wd us la nx u fr fo lw lh lv ac dn fi bc st cI mem sf bd tb p0 (tu_wrap ac ((tu_whole ((((p1 : Int32).toInt64) * (((tu_len lw p0) : Int32).toInt64)) - (32768 : Int64))) + (1 : Int32)) (tu_len lw p0)) (tu_wrap dn ((tu_whole ((((p2 : Int32).toInt64) * (((tu_len lh p0) : Int32).toInt64)) - (32768 : Int64))) + (1 : Int32)) (tu_len lh p0)) 2 h0 h1 (tu_fo4 h1 (tu_in (by decide))) (tu_in (by decide))) (cwV 5 hts (tg_V tw_308 tw_310 tw_p6 tw_1 tw_311) rfl rfl rfl (by decide +kernel) ⟨Nat.le_of_ble_eq_true rfl, Nat.le_of_ble_eq_true rfl⟩) ⟨rt_blind, va_recv hK hP (ci := 1) (q0 := 0) rfl rfl, fun U hU hW => ⟨rfl, rt_use (hP.sub [0, 1, 2, 3, 4] rfl) (hK.sub [0] rfl) (tb_use hX hS) U hU hW⟩⟩ rfl rfl hl.1 rfl (lv_room (Nat.le_of_ble_eq_true rfl)) dX1_sampleFour_182 ⟨Nat.le_of_ble_eq_true rfl, Nat.le_of_ble_eq_true rfl⟩) ?_
  refine lv_iload hx hb dX1_sampleFour_185 (lv_at hl 4 rfl) ?_
  refine rd_call (W.runS (As := [.int (tu_sob mem sf bd fr fo lw p0 (tu_wrap ac (tu_whole ((((p1 : Int32).toInt64) * (((tu_len lw p0) : Int32).toInt64)) - (32768 : Int64))) (tu_len lw p0)) (tu_wrap dn ((tu_whole ((((p2 : Int32).toInt64) * (((tu_len lh p0) : Int32).toInt64)) - (32768 : Int64))) + (1 : Int32)) (tu_len lh p0)) 2), .int (tu_sob mem sf bd fr fo lw p0 (tu_wrap ac ((tu_whole ((((p1 : Int32).toInt64) * (((tu_len lw p0) : Int32).toInt64)) - (32768 : Int64))) + (1 : Int32)) (tu_len lw p0)) (tu_wrap dn ((tu_whole ((((p2 : Int32).toInt64) * (((tu_len lh p0) : Int32).toInt64)) - (32768 : Int64))) + (1 : Int32)) (tu_len lh p0)) 2), .int (tu_rest ((((p1 : Int32).toInt64) * (((tu_len lw p0) : Int32).toInt64)) - (32768 : Int64)))]) (rest := []) ⟨hx, hb, hml, hown, hts⟩ (r_mix l (tu_sob mem sf bd fr fo lw p0 (tu_wrap ac (tu_whole ((((p1 : Int32).toInt64) * (((tu_len lw p0) : Int32).toInt64)) - (32768 : Int64))) (tu_len lw p0)) (tu_wrap dn ((tu_whole ((((p2 : Int32).toInt64) * (((tu_len lh p0) : Int32).toInt64)) - (32768 : Int64))) + (1 : Int32)) (tu_len lh p0)) 2) (tu_sob mem sf bd fr fo lw p0 (tu_wrap ac ((tu_whole ((((p1 : Int32).toInt64) * (((tu_len lw p0) : Int32).toInt64)) - (32768 : Int64))) + (1 : Int32)) (tu_len lw p0)) (tu_wrap dn ((tu_whole ((((p2 : Int32).toInt64) * (((tu_len lh p0) : Int32).toInt64)) - (32768 : Int64))) + (1 : Int32)) (tu_len lh p0)) 2) (tu_rest ((((p1 : Int32).toInt64) * (((tu_len lw p0) : Int32).toInt64)) - (32768 : Int64)))) (va_cwS 3 hts (tg_S tw_312 tw_313 tw_1 tw_314) rfl rfl rfl (by decide +kernel) ⟨Nat.le_of_ble_eq_true rfl, Nat.le_of_ble_eq_true rfl⟩) preEq rfl rfl hl.1 rfl (lv_room (Nat.le_of_ble_eq_true rfl)) dX1_sampleFour_187 ⟨Nat.le_of_ble_eq_true rfl, Nat.le_of_ble_eq_true rfl⟩) ?_
  refine lv_istore (lv' := [(20, .int (tu_mix (tu_sob mem sf bd fr fo lw p0 (tu_wrap ac (tu_whole ((((p1 : Int32).toInt64) * (((tu_len lw p0) : Int32).toInt64)) - (32768 : Int64))) (tu_len lw p0)) (tu_wrap dn ((tu_whole ((((p2 : Int32).toInt64) * (((tu_len lh p0) : Int32).toInt64)) - (32768 : Int64))) + (1 : Int32)) (tu_len lh p0)) 2) (tu_sob mem sf bd fr fo lw p0 (tu_wrap ac ((tu_whole ((((p1 : Int32).toInt64) * (((tu_len lw p0) : Int32).toInt64)) - (32768 : Int64))) + (1 : Int32)) (tu_len lw p0)) (tu_wrap dn ((tu_whole ((((p2 : Int32).toInt64) * (((tu_len lh p0) : Int32).toInt64)) - (32768 : Int64))) + (1 : Int32)) (tu_len lh p0)) 2) (tu_rest ((((p1 : Int32).toInt64) * (((tu_len lw p0) : Int32).toInt64)) - (32768 : Int64))))), (19, .int (tu_mix (tu_sob mem sf bd fr fo lw p0 (tu_wrap ac (tu_whole ((((p1 : Int32).toInt64) * (((tu_len lw p0) : Int32).toInt64)) - (32768 : Int64))) (tu_len lw p0)) (tu_wrap dn (tu_whole ((((p2 : Int32).toInt64) * (((tu_len lh p0) : Int32).toInt64)) - (32768 : Int64))) (tu_len lh p0)) 2) (tu_sob mem sf bd fr fo lw p0 (tu_wrap ac ((tu_whole ((((p1 : Int32).toInt64) * (((tu_len lw p0) : Int32).toInt64)) - (32768 : Int64))) + (1 : Int32)) (tu_len lw p0)) (tu_wrap dn (tu_whole ((((p2 : Int32).toInt64) * (((tu_len lh p0) : Int32).toInt64)) - (32768 : Int64))) (tu_len lh p0)) 2) (tu_rest ((((p1 : Int32).toInt64) * (((tu_len lw p0) : Int32).toInt64)) - (32768 : Int64))))), (18, .int 2), (17, .int (tu_rest ((((p2 : Int32).toInt64) * (((tu_len lh p0) : Int32).toInt64)) - (32768 : Int64)))), (16, .int (tu_rest ((((p1 : Int32).toInt64) * (((tu_len lw p0) : Int32).toInt64)) - (32768 : Int64)))), (15, .int (tu_wrap dn ((tu_whole ((((p2 : Int32).toInt64) * (((tu_len lh p0) : Int32).toInt64)) - (32768 : Int64))) + (1 : Int32)) (tu_len lh p0))), (14, .int (tu_wrap dn (tu_whole ((((p2 : Int32).toInt64) * (((tu_len lh p0) : Int32).toInt64)) - (32768 : Int64))) (tu_len lh p0))), (13, .int (tu_wrap ac ((tu_whole ((((p1 : Int32).toInt64) * (((tu_len lw p0) : Int32).toInt64)) - (32768 : Int64))) + (1 : Int32)) (tu_len lw p0))), (12, .int (tu_wrap ac (tu_whole ((((p1 : Int32).toInt64) * (((tu_len lw p0) : Int32).toInt64)) - (32768 : Int64))) (tu_len lw p0))), (10, .long ((((p2 : Int32).toInt64) * (((tu_len lh p0) : Int32).toInt64)) - (32768 : Int64))), (8, .long ((((p1 : Int32).toInt64) * (((tu_len lw p0) : Int32).toInt64)) - (32768 : Int64))), (7, .int (tu_len lh p0)), (6, .int (tu_len lw p0)), (0, .ref q), (1, .ref u), (2, .int p0), (3, .int p1), (4, .int p2), (5, .ref it)]) hx hb dX1_sampleFour_190 hl (by decide) rfl (fun ls hl => ?_)
  refine lv_aload hx hb dX1_sampleFour_192 (lv_at hl 18 rfl) ?_
  refine lv_iload hx hb dX1_sampleFour_194 (lv_at hl 2 rfl) ?_
  refine lv_iload hx hb dX1_sampleFour_196 (lv_at hl 1 rfl) ?_
  refine lv_iload hx hb dX1_sampleFour_198 (lv_at hl 0 rfl) ?_
  refine lv_iload hx hb dX1_sampleFour_200 (lv_at hl 3 rfl) ?_
  refine rd_call (W.runS (As := [.int (tu_mix (tu_sob mem sf bd fr fo lw p0 (tu_wrap ac (tu_whole ((((p1 : Int32).toInt64) * (((tu_len lw p0) : Int32).toInt64)) - (32768 : Int64))) (tu_len lw p0)) (tu_wrap dn (tu_whole ((((p2 : Int32).toInt64) * (((tu_len lh p0) : Int32).toInt64)) - (32768 : Int64))) (tu_len lh p0)) 2) (tu_sob mem sf bd fr fo lw p0 (tu_wrap ac ((tu_whole ((((p1 : Int32).toInt64) * (((tu_len lw p0) : Int32).toInt64)) - (32768 : Int64))) + (1 : Int32)) (tu_len lw p0)) (tu_wrap dn (tu_whole ((((p2 : Int32).toInt64) * (((tu_len lh p0) : Int32).toInt64)) - (32768 : Int64))) (tu_len lh p0)) 2) (tu_rest ((((p1 : Int32).toInt64) * (((tu_len lw p0) : Int32).toInt64)) - (32768 : Int64)))), .int (tu_mix (tu_sob mem sf bd fr fo lw p0 (tu_wrap ac (tu_whole ((((p1 : Int32).toInt64) * (((tu_len lw p0) : Int32).toInt64)) - (32768 : Int64))) (tu_len lw p0)) (tu_wrap dn ((tu_whole ((((p2 : Int32).toInt64) * (((tu_len lh p0) : Int32).toInt64)) - (32768 : Int64))) + (1 : Int32)) (tu_len lh p0)) 2) (tu_sob mem sf bd fr fo lw p0 (tu_wrap ac ((tu_whole ((((p1 : Int32).toInt64) * (((tu_len lw p0) : Int32).toInt64)) - (32768 : Int64))) + (1 : Int32)) (tu_len lw p0)) (tu_wrap dn ((tu_whole ((((p2 : Int32).toInt64) * (((tu_len lh p0) : Int32).toInt64)) - (32768 : Int64))) + (1 : Int32)) (tu_len lh p0)) 2) (tu_rest ((((p1 : Int32).toInt64) * (((tu_len lw p0) : Int32).toInt64)) - (32768 : Int64)))), .int (tu_rest ((((p2 : Int32).toInt64) * (((tu_len lh p0) : Int32).toInt64)) - (32768 : Int64)))]) (rest := [.int 2, .ref it]) ⟨hx, hb, hml, hown, hts⟩ (r_mix l (tu_mix (tu_sob mem sf bd fr fo lw p0 (tu_wrap ac (tu_whole ((((p1 : Int32).toInt64) * (((tu_len lw p0) : Int32).toInt64)) - (32768 : Int64))) (tu_len lw p0)) (tu_wrap dn (tu_whole ((((p2 : Int32).toInt64) * (((tu_len lh p0) : Int32).toInt64)) - (32768 : Int64))) (tu_len lh p0)) 2) (tu_sob mem sf bd fr fo lw p0 (tu_wrap ac ((tu_whole ((((p1 : Int32).toInt64) * (((tu_len lw p0) : Int32).toInt64)) - (32768 : Int64))) + (1 : Int32)) (tu_len lw p0)) (tu_wrap dn (tu_whole ((((p2 : Int32).toInt64) * (((tu_len lh p0) : Int32).toInt64)) - (32768 : Int64))) (tu_len lh p0)) 2) (tu_rest ((((p1 : Int32).toInt64) * (((tu_len lw p0) : Int32).toInt64)) - (32768 : Int64)))) (tu_mix (tu_sob mem sf bd fr fo lw p0 (tu_wrap ac (tu_whole ((((p1 : Int32).toInt64) * (((tu_len lw p0) : Int32).toInt64)) - (32768 : Int64))) (tu_len lw p0)) (tu_wrap dn ((tu_whole ((((p2 : Int32).toInt64) * (((tu_len lh p0) : Int32).toInt64)) - (32768 : Int64))) + (1 : Int32)) (tu_len lh p0)) 2) (tu_sob mem sf bd fr fo lw p0 (tu_wrap ac ((tu_whole ((((p1 : Int32).toInt64) * (((tu_len lw p0) : Int32).toInt64)) - (32768 : Int64))) + (1 : Int32)) (tu_len lw p0)) (tu_wrap dn ((tu_whole ((((p2 : Int32).toInt64) * (((tu_len lh p0) : Int32).toInt64)) - (32768 : Int64))) + (1 : Int32)) (tu_len lh p0)) 2) (tu_rest ((((p1 : Int32).toInt64) * (((tu_len lw p0) : Int32).toInt64)) - (32768 : Int64)))) (tu_rest ((((p2 : Int32).toInt64) * (((tu_len lh p0) : Int32).toInt64)) - (32768 : Int64)))) (va_cwS 3 hts (tg_S tw_312 tw_313 tw_1 tw_314) rfl rfl rfl (by decide +kernel) ⟨Nat.le_of_ble_eq_true rfl, Nat.le_of_ble_eq_true rfl⟩) preEq rfl rfl hl.1 rfl (lv_room (Nat.le_of_ble_eq_true rfl)) dX1_sampleFour_202 ⟨Nat.le_of_ble_eq_true rfl, Nat.le_of_ble_eq_true rfl⟩) ?_
  refine va_iast hx hb hK hP hD hS 5 0 rfl rfl (tu_in (by decide)) dX1_sampleFour_205 (fun H locs hP hD hS => ?_)
  have hP : va_P (dC, dI) vwCl [(q, .inr (1, [.ref wd, .ref us, .ref la, .ref nx])), (u, .inr (0, [.int fr, .int fo, .int lw, .int lh, .int lv, .int ac, .int dn, .int fi, .ref bc, .ref st])), (wd, .inl (cI, 2048, .inl mem)), (st, .inl (cI, 12, .inl sf)), (bc, .inl (cI, 4, .inl bd)), (it, .inl (cI, 4, .inl (upd (upd (upd g 0 (tu_mix (tu_mix (tu_sob mem sf bd fr fo lw p0 (tu_wrap ac (tu_whole ((((p1 : Int32).toInt64) * (((tu_len lw p0) : Int32).toInt64)) - (32768 : Int64))) (tu_len lw p0)) (tu_wrap dn (tu_whole ((((p2 : Int32).toInt64) * (((tu_len lh p0) : Int32).toInt64)) - (32768 : Int64))) (tu_len lh p0)) 0) (tu_sob mem sf bd fr fo lw p0 (tu_wrap ac ((tu_whole ((((p1 : Int32).toInt64) * (((tu_len lw p0) : Int32).toInt64)) - (32768 : Int64))) + (1 : Int32)) (tu_len lw p0)) (tu_wrap dn (tu_whole ((((p2 : Int32).toInt64) * (((tu_len lh p0) : Int32).toInt64)) - (32768 : Int64))) (tu_len lh p0)) 0) (tu_rest ((((p1 : Int32).toInt64) * (((tu_len lw p0) : Int32).toInt64)) - (32768 : Int64)))) (tu_mix (tu_sob mem sf bd fr fo lw p0 (tu_wrap ac (tu_whole ((((p1 : Int32).toInt64) * (((tu_len lw p0) : Int32).toInt64)) - (32768 : Int64))) (tu_len lw p0)) (tu_wrap dn ((tu_whole ((((p2 : Int32).toInt64) * (((tu_len lh p0) : Int32).toInt64)) - (32768 : Int64))) + (1 : Int32)) (tu_len lh p0)) 0) (tu_sob mem sf bd fr fo lw p0 (tu_wrap ac ((tu_whole ((((p1 : Int32).toInt64) * (((tu_len lw p0) : Int32).toInt64)) - (32768 : Int64))) + (1 : Int32)) (tu_len lw p0)) (tu_wrap dn ((tu_whole ((((p2 : Int32).toInt64) * (((tu_len lh p0) : Int32).toInt64)) - (32768 : Int64))) + (1 : Int32)) (tu_len lh p0)) 0) (tu_rest ((((p1 : Int32).toInt64) * (((tu_len lw p0) : Int32).toInt64)) - (32768 : Int64)))) (tu_rest ((((p2 : Int32).toInt64) * (((tu_len lh p0) : Int32).toInt64)) - (32768 : Int64))))) 1 (tu_mix (tu_mix (tu_sob mem sf bd fr fo lw p0 (tu_wrap ac (tu_whole ((((p1 : Int32).toInt64) * (((tu_len lw p0) : Int32).toInt64)) - (32768 : Int64))) (tu_len lw p0)) (tu_wrap dn (tu_whole ((((p2 : Int32).toInt64) * (((tu_len lh p0) : Int32).toInt64)) - (32768 : Int64))) (tu_len lh p0)) 1) (tu_sob mem sf bd fr fo lw p0 (tu_wrap ac ((tu_whole ((((p1 : Int32).toInt64) * (((tu_len lw p0) : Int32).toInt64)) - (32768 : Int64))) + (1 : Int32)) (tu_len lw p0)) (tu_wrap dn (tu_whole ((((p2 : Int32).toInt64) * (((tu_len lh p0) : Int32).toInt64)) - (32768 : Int64))) (tu_len lh p0)) 1) (tu_rest ((((p1 : Int32).toInt64) * (((tu_len lw p0) : Int32).toInt64)) - (32768 : Int64)))) (tu_mix (tu_sob mem sf bd fr fo lw p0 (tu_wrap ac (tu_whole ((((p1 : Int32).toInt64) * (((tu_len lw p0) : Int32).toInt64)) - (32768 : Int64))) (tu_len lw p0)) (tu_wrap dn ((tu_whole ((((p2 : Int32).toInt64) * (((tu_len lh p0) : Int32).toInt64)) - (32768 : Int64))) + (1 : Int32)) (tu_len lh p0)) 1) (tu_sob mem sf bd fr fo lw p0 (tu_wrap ac ((tu_whole ((((p1 : Int32).toInt64) * (((tu_len lw p0) : Int32).toInt64)) - (32768 : Int64))) + (1 : Int32)) (tu_len lw p0)) (tu_wrap dn ((tu_whole ((((p2 : Int32).toInt64) * (((tu_len lh p0) : Int32).toInt64)) - (32768 : Int64))) + (1 : Int32)) (tu_len lh p0)) 1) (tu_rest ((((p1 : Int32).toInt64) * (((tu_len lw p0) : Int32).toInt64)) - (32768 : Int64)))) (tu_rest ((((p2 : Int32).toInt64) * (((tu_len lh p0) : Int32).toInt64)) - (32768 : Int64))))) 2 (tu_mix (tu_mix (tu_sob mem sf bd fr fo lw p0 (tu_wrap ac (tu_whole ((((p1 : Int32).toInt64) * (((tu_len lw p0) : Int32).toInt64)) - (32768 : Int64))) (tu_len lw p0)) (tu_wrap dn (tu_whole ((((p2 : Int32).toInt64) * (((tu_len lh p0) : Int32).toInt64)) - (32768 : Int64))) (tu_len lh p0)) 2) (tu_sob mem sf bd fr fo lw p0 (tu_wrap ac ((tu_whole ((((p1 : Int32).toInt64) * (((tu_len lw p0) : Int32).toInt64)) - (32768 : Int64))) + (1 : Int32)) (tu_len lw p0)) (tu_wrap dn (tu_whole ((((p2 : Int32).toInt64) * (((tu_len lh p0) : Int32).toInt64)) - (32768 : Int64))) (tu_len lh p0)) 2) (tu_rest ((((p1 : Int32).toInt64) * (((tu_len lw p0) : Int32).toInt64)) - (32768 : Int64)))) (tu_mix (tu_sob mem sf bd fr fo lw p0 (tu_wrap ac (tu_whole ((((p1 : Int32).toInt64) * (((tu_len lw p0) : Int32).toInt64)) - (32768 : Int64))) (tu_len lw p0)) (tu_wrap dn ((tu_whole ((((p2 : Int32).toInt64) * (((tu_len lh p0) : Int32).toInt64)) - (32768 : Int64))) + (1 : Int32)) (tu_len lh p0)) 2) (tu_sob mem sf bd fr fo lw p0 (tu_wrap ac ((tu_whole ((((p1 : Int32).toInt64) * (((tu_len lw p0) : Int32).toInt64)) - (32768 : Int64))) + (1 : Int32)) (tu_len lw p0)) (tu_wrap dn ((tu_whole ((((p2 : Int32).toInt64) * (((tu_len lh p0) : Int32).toInt64)) - (32768 : Int64))) + (1 : Int32)) (tu_len lh p0)) 2) (tu_rest ((((p1 : Int32).toInt64) * (((tu_len lw p0) : Int32).toInt64)) - (32768 : Int64)))) (tu_rest ((((p2 : Int32).toInt64) * (((tu_len lh p0) : Int32).toInt64)) - (32768 : Int64)))))))] H := hP
  have hD : va_D A [(q, .inr (1, [.ref wd, .ref us, .ref la, .ref nx])), (u, .inr (0, [.int fr, .int fo, .int lw, .int lh, .int lv, .int ac, .int dn, .int fi, .ref bc, .ref st])), (wd, .inl (cI, 2048, .inl mem)), (st, .inl (cI, 12, .inl sf)), (bc, .inl (cI, 4, .inl bd)), (it, .inl (cI, 4, .inl (upd (upd (upd g 0 (tu_mix (tu_mix (tu_sob mem sf bd fr fo lw p0 (tu_wrap ac (tu_whole ((((p1 : Int32).toInt64) * (((tu_len lw p0) : Int32).toInt64)) - (32768 : Int64))) (tu_len lw p0)) (tu_wrap dn (tu_whole ((((p2 : Int32).toInt64) * (((tu_len lh p0) : Int32).toInt64)) - (32768 : Int64))) (tu_len lh p0)) 0) (tu_sob mem sf bd fr fo lw p0 (tu_wrap ac ((tu_whole ((((p1 : Int32).toInt64) * (((tu_len lw p0) : Int32).toInt64)) - (32768 : Int64))) + (1 : Int32)) (tu_len lw p0)) (tu_wrap dn (tu_whole ((((p2 : Int32).toInt64) * (((tu_len lh p0) : Int32).toInt64)) - (32768 : Int64))) (tu_len lh p0)) 0) (tu_rest ((((p1 : Int32).toInt64) * (((tu_len lw p0) : Int32).toInt64)) - (32768 : Int64)))) (tu_mix (tu_sob mem sf bd fr fo lw p0 (tu_wrap ac (tu_whole ((((p1 : Int32).toInt64) * (((tu_len lw p0) : Int32).toInt64)) - (32768 : Int64))) (tu_len lw p0)) (tu_wrap dn ((tu_whole ((((p2 : Int32).toInt64) * (((tu_len lh p0) : Int32).toInt64)) - (32768 : Int64))) + (1 : Int32)) (tu_len lh p0)) 0) (tu_sob mem sf bd fr fo lw p0 (tu_wrap ac ((tu_whole ((((p1 : Int32).toInt64) * (((tu_len lw p0) : Int32).toInt64)) - (32768 : Int64))) + (1 : Int32)) (tu_len lw p0)) (tu_wrap dn ((tu_whole ((((p2 : Int32).toInt64) * (((tu_len lh p0) : Int32).toInt64)) - (32768 : Int64))) + (1 : Int32)) (tu_len lh p0)) 0) (tu_rest ((((p1 : Int32).toInt64) * (((tu_len lw p0) : Int32).toInt64)) - (32768 : Int64)))) (tu_rest ((((p2 : Int32).toInt64) * (((tu_len lh p0) : Int32).toInt64)) - (32768 : Int64))))) 1 (tu_mix (tu_mix (tu_sob mem sf bd fr fo lw p0 (tu_wrap ac (tu_whole ((((p1 : Int32).toInt64) * (((tu_len lw p0) : Int32).toInt64)) - (32768 : Int64))) (tu_len lw p0)) (tu_wrap dn (tu_whole ((((p2 : Int32).toInt64) * (((tu_len lh p0) : Int32).toInt64)) - (32768 : Int64))) (tu_len lh p0)) 1) (tu_sob mem sf bd fr fo lw p0 (tu_wrap ac ((tu_whole ((((p1 : Int32).toInt64) * (((tu_len lw p0) : Int32).toInt64)) - (32768 : Int64))) + (1 : Int32)) (tu_len lw p0)) (tu_wrap dn (tu_whole ((((p2 : Int32).toInt64) * (((tu_len lh p0) : Int32).toInt64)) - (32768 : Int64))) (tu_len lh p0)) 1) (tu_rest ((((p1 : Int32).toInt64) * (((tu_len lw p0) : Int32).toInt64)) - (32768 : Int64)))) (tu_mix (tu_sob mem sf bd fr fo lw p0 (tu_wrap ac (tu_whole ((((p1 : Int32).toInt64) * (((tu_len lw p0) : Int32).toInt64)) - (32768 : Int64))) (tu_len lw p0)) (tu_wrap dn ((tu_whole ((((p2 : Int32).toInt64) * (((tu_len lh p0) : Int32).toInt64)) - (32768 : Int64))) + (1 : Int32)) (tu_len lh p0)) 1) (tu_sob mem sf bd fr fo lw p0 (tu_wrap ac ((tu_whole ((((p1 : Int32).toInt64) * (((tu_len lw p0) : Int32).toInt64)) - (32768 : Int64))) + (1 : Int32)) (tu_len lw p0)) (tu_wrap dn ((tu_whole ((((p2 : Int32).toInt64) * (((tu_len lh p0) : Int32).toInt64)) - (32768 : Int64))) + (1 : Int32)) (tu_len lh p0)) 1) (tu_rest ((((p1 : Int32).toInt64) * (((tu_len lw p0) : Int32).toInt64)) - (32768 : Int64)))) (tu_rest ((((p2 : Int32).toInt64) * (((tu_len lh p0) : Int32).toInt64)) - (32768 : Int64))))) 2 (tu_mix (tu_mix (tu_sob mem sf bd fr fo lw p0 (tu_wrap ac (tu_whole ((((p1 : Int32).toInt64) * (((tu_len lw p0) : Int32).toInt64)) - (32768 : Int64))) (tu_len lw p0)) (tu_wrap dn (tu_whole ((((p2 : Int32).toInt64) * (((tu_len lh p0) : Int32).toInt64)) - (32768 : Int64))) (tu_len lh p0)) 2) (tu_sob mem sf bd fr fo lw p0 (tu_wrap ac ((tu_whole ((((p1 : Int32).toInt64) * (((tu_len lw p0) : Int32).toInt64)) - (32768 : Int64))) + (1 : Int32)) (tu_len lw p0)) (tu_wrap dn (tu_whole ((((p2 : Int32).toInt64) * (((tu_len lh p0) : Int32).toInt64)) - (32768 : Int64))) (tu_len lh p0)) 2) (tu_rest ((((p1 : Int32).toInt64) * (((tu_len lw p0) : Int32).toInt64)) - (32768 : Int64)))) (tu_mix (tu_sob mem sf bd fr fo lw p0 (tu_wrap ac (tu_whole ((((p1 : Int32).toInt64) * (((tu_len lw p0) : Int32).toInt64)) - (32768 : Int64))) (tu_len lw p0)) (tu_wrap dn ((tu_whole ((((p2 : Int32).toInt64) * (((tu_len lh p0) : Int32).toInt64)) - (32768 : Int64))) + (1 : Int32)) (tu_len lh p0)) 2) (tu_sob mem sf bd fr fo lw p0 (tu_wrap ac ((tu_whole ((((p1 : Int32).toInt64) * (((tu_len lw p0) : Int32).toInt64)) - (32768 : Int64))) + (1 : Int32)) (tu_len lw p0)) (tu_wrap dn ((tu_whole ((((p2 : Int32).toInt64) * (((tu_len lh p0) : Int32).toInt64)) - (32768 : Int64))) + (1 : Int32)) (tu_len lh p0)) 2) (tu_rest ((((p1 : Int32).toInt64) * (((tu_len lw p0) : Int32).toInt64)) - (32768 : Int64)))) (tu_rest ((((p2 : Int32).toInt64) * (((tu_len lh p0) : Int32).toInt64)) - (32768 : Int64)))))))] := hD
  refine lv_iinc (v := 3) (lv' := [(18, .int 3), (20, .int (tu_mix (tu_sob mem sf bd fr fo lw p0 (tu_wrap ac (tu_whole ((((p1 : Int32).toInt64) * (((tu_len lw p0) : Int32).toInt64)) - (32768 : Int64))) (tu_len lw p0)) (tu_wrap dn ((tu_whole ((((p2 : Int32).toInt64) * (((tu_len lh p0) : Int32).toInt64)) - (32768 : Int64))) + (1 : Int32)) (tu_len lh p0)) 2) (tu_sob mem sf bd fr fo lw p0 (tu_wrap ac ((tu_whole ((((p1 : Int32).toInt64) * (((tu_len lw p0) : Int32).toInt64)) - (32768 : Int64))) + (1 : Int32)) (tu_len lw p0)) (tu_wrap dn ((tu_whole ((((p2 : Int32).toInt64) * (((tu_len lh p0) : Int32).toInt64)) - (32768 : Int64))) + (1 : Int32)) (tu_len lh p0)) 2) (tu_rest ((((p1 : Int32).toInt64) * (((tu_len lw p0) : Int32).toInt64)) - (32768 : Int64))))), (19, .int (tu_mix (tu_sob mem sf bd fr fo lw p0 (tu_wrap ac (tu_whole ((((p1 : Int32).toInt64) * (((tu_len lw p0) : Int32).toInt64)) - (32768 : Int64))) (tu_len lw p0)) (tu_wrap dn (tu_whole ((((p2 : Int32).toInt64) * (((tu_len lh p0) : Int32).toInt64)) - (32768 : Int64))) (tu_len lh p0)) 2) (tu_sob mem sf bd fr fo lw p0 (tu_wrap ac ((tu_whole ((((p1 : Int32).toInt64) * (((tu_len lw p0) : Int32).toInt64)) - (32768 : Int64))) + (1 : Int32)) (tu_len lw p0)) (tu_wrap dn (tu_whole ((((p2 : Int32).toInt64) * (((tu_len lh p0) : Int32).toInt64)) - (32768 : Int64))) (tu_len lh p0)) 2) (tu_rest ((((p1 : Int32).toInt64) * (((tu_len lw p0) : Int32).toInt64)) - (32768 : Int64))))), (17, .int (tu_rest ((((p2 : Int32).toInt64) * (((tu_len lh p0) : Int32).toInt64)) - (32768 : Int64)))), (16, .int (tu_rest ((((p1 : Int32).toInt64) * (((tu_len lw p0) : Int32).toInt64)) - (32768 : Int64)))), (15, .int (tu_wrap dn ((tu_whole ((((p2 : Int32).toInt64) * (((tu_len lh p0) : Int32).toInt64)) - (32768 : Int64))) + (1 : Int32)) (tu_len lh p0))), (14, .int (tu_wrap dn (tu_whole ((((p2 : Int32).toInt64) * (((tu_len lh p0) : Int32).toInt64)) - (32768 : Int64))) (tu_len lh p0))), (13, .int (tu_wrap ac ((tu_whole ((((p1 : Int32).toInt64) * (((tu_len lw p0) : Int32).toInt64)) - (32768 : Int64))) + (1 : Int32)) (tu_len lw p0))), (12, .int (tu_wrap ac (tu_whole ((((p1 : Int32).toInt64) * (((tu_len lw p0) : Int32).toInt64)) - (32768 : Int64))) (tu_len lw p0))), (10, .long ((((p2 : Int32).toInt64) * (((tu_len lh p0) : Int32).toInt64)) - (32768 : Int64))), (8, .long ((((p1 : Int32).toInt64) * (((tu_len lw p0) : Int32).toInt64)) - (32768 : Int64))), (7, .int (tu_len lh p0)), (6, .int (tu_len lw p0)), (0, .ref q), (1, .ref u), (2, .int p0), (3, .int p1), (4, .int p2), (5, .ref it)]) hx hb dX1_sampleFour_206 hl (k := 2) rfl (by decide) (by decide) rfl (fun ls hl => ?_)
  refine lv_goto (tgt := 124) hx hb dX1_sampleFour_209 (by decide) ?_
  refine lv_iload hx hb dX1_sampleFour_124 (lv_at hl 0 rfl) ?_
  refine lv_iconst (v := 4) hx hb dX1_sampleFour_126 (by decide) ?_
  refine lv_icmp_ge (tgt := 212) hx hb dX1_sampleFour_127 (by decide) (fun c_4 => absurd c_4 (by decide)) (fun c_4 => ?_)
  refine lv_aload_n hx hb dX1_sampleFour_130 rfl (lv_at hl 13 rfl) ?_
  refine lv_aload_n hx hb dX1_sampleFour_131 rfl (lv_at hl 14 rfl) ?_
  refine lv_iload_n hx hb dX1_sampleFour_132 rfl (lv_at hl 15 rfl) ?_
  refine lv_iload hx hb dX1_sampleFour_133 (lv_at hl 8 rfl) ?_
  refine lv_iload hx hb dX1_sampleFour_135 (lv_at hl 6 rfl) ?_
  refine lv_iload hx hb dX1_sampleFour_137 (lv_at hl 0 rfl) ?_
  refine rd_call (W.runV (As := [.ref u, .int p0, .int (tu_wrap ac (tu_whole ((((p1 : Int32).toInt64) * (((tu_len lw p0) : Int32).toInt64)) - (32768 : Int64))) (tu_len lw p0)), .int (tu_wrap dn (tu_whole ((((p2 : Int32).toInt64) * (((tu_len lh p0) : Int32).toInt64)) - (32768 : Int64))) (tu_len lh p0)), .int 3]) (rest := []) ⟨hx, hb, hml, hown, hts⟩ (r_sob l dC dI q wd us la nx u fr fo lw lh lv ac dn fi bc st cI mem sf bd tb p0 (tu_wrap ac (tu_whole ((((p1 : Int32).toInt64) * (((tu_len lw p0) : Int32).toInt64)) - (32768 : Int64))) (tu_len lw p0)) (tu_wrap dn (tu_whole ((((p2 : Int32).toInt64) * (((tu_len lh p0) : Int32).toInt64)) - (32768 : Int64))) (tu_len lh p0)) 3 h0 h1 (tu_fo4 h1 (tu_in (by decide))) (tu_in (by decide))) (cwV 5 hts (tg_V tw_308 tw_310 tw_p6 tw_1 tw_311) rfl rfl rfl (by decide +kernel) ⟨Nat.le_of_ble_eq_true rfl, Nat.le_of_ble_eq_true rfl⟩) ⟨rt_blind, va_recv hK hP (ci := 1) (q0 := 0) rfl rfl, fun U hU hW => ⟨rfl, rt_use (hP.sub [0, 1, 2, 3, 4] rfl) (hK.sub [0] rfl) (tb_use hX hS) U hU hW⟩⟩ rfl rfl hl.1 rfl (lv_room (Nat.le_of_ble_eq_true rfl)) dX1_sampleFour_139 ⟨Nat.le_of_ble_eq_true rfl, Nat.le_of_ble_eq_true rfl⟩) ?_
  refine lv_aload_n hx hb dX1_sampleFour_142 rfl (lv_at hl 13 rfl) ?_
  refine lv_aload_n hx hb dX1_sampleFour_143 rfl (lv_at hl 14 rfl) ?_
  refine lv_iload_n hx hb dX1_sampleFour_144 rfl (lv_at hl 15 rfl) ?_
  refine lv_iload hx hb dX1_sampleFour_145 (lv_at hl 7 rfl) ?_
  refine lv_iload hx hb dX1_sampleFour_147 (lv_at hl 6 rfl) ?_
  refine lv_iload hx hb dX1_sampleFour_149 (lv_at hl 0 rfl) ?_
  refine rd_call (W.runV (As := [.ref u, .int p0, .int (tu_wrap ac ((tu_whole ((((p1 : Int32).toInt64) * (((tu_len lw p0) : Int32).toInt64)) - (32768 : Int64))) + (1 : Int32)) (tu_len lw p0)), .int (tu_wrap dn (tu_whole ((((p2 : Int32).toInt64) * (((tu_len lh p0) : Int32).toInt64)) - (32768 : Int64))) (tu_len lh p0)), .int 3]) (rest := [.int (tu_sob mem sf bd fr fo lw p0 (tu_wrap ac (tu_whole ((((p1 : Int32).toInt64) * (((tu_len lw p0) : Int32).toInt64)) - (32768 : Int64))) (tu_len lw p0)) (tu_wrap dn (tu_whole ((((p2 : Int32).toInt64) * (((tu_len lh p0) : Int32).toInt64)) - (32768 : Int64))) (tu_len lh p0)) 3)]) ⟨hx, hb, hml, hown, hts⟩ (r_sob l dC dI q wd us la nx u fr fo lw lh lv ac dn fi bc st cI mem sf bd tb p0 (tu_wrap ac ((tu_whole ((((p1 : Int32).toInt64) * (((tu_len lw p0) : Int32).toInt64)) - (32768 : Int64))) + (1 : Int32)) (tu_len lw p0)) (tu_wrap dn (tu_whole ((((p2 : Int32).toInt64) * (((tu_len lh p0) : Int32).toInt64)) - (32768 : Int64))) (tu_len lh p0)) 3 h0 h1 (tu_fo4 h1 (tu_in (by decide))) (tu_in (by decide))) (cwV 5 hts (tg_V tw_308 tw_310 tw_p6 tw_1 tw_311) rfl rfl rfl (by decide +kernel) ⟨Nat.le_of_ble_eq_true rfl, Nat.le_of_ble_eq_true rfl⟩) ⟨rt_blind, va_recv hK hP (ci := 1) (q0 := 0) rfl rfl, fun U hU hW => ⟨rfl, rt_use (hP.sub [0, 1, 2, 3, 4] rfl) (hK.sub [0] rfl) (tb_use hX hS) U hU hW⟩⟩ rfl rfl hl.1 rfl (lv_room (Nat.le_of_ble_eq_true rfl)) dX1_sampleFour_151 ⟨Nat.le_of_ble_eq_true rfl, Nat.le_of_ble_eq_true rfl⟩) ?_
  refine lv_iload hx hb dX1_sampleFour_154 (lv_at hl 4 rfl) ?_
  refine rd_call (W.runS (As := [.int (tu_sob mem sf bd fr fo lw p0 (tu_wrap ac (tu_whole ((((p1 : Int32).toInt64) * (((tu_len lw p0) : Int32).toInt64)) - (32768 : Int64))) (tu_len lw p0)) (tu_wrap dn (tu_whole ((((p2 : Int32).toInt64) * (((tu_len lh p0) : Int32).toInt64)) - (32768 : Int64))) (tu_len lh p0)) 3), .int (tu_sob mem sf bd fr fo lw p0 (tu_wrap ac ((tu_whole ((((p1 : Int32).toInt64) * (((tu_len lw p0) : Int32).toInt64)) - (32768 : Int64))) + (1 : Int32)) (tu_len lw p0)) (tu_wrap dn (tu_whole ((((p2 : Int32).toInt64) * (((tu_len lh p0) : Int32).toInt64)) - (32768 : Int64))) (tu_len lh p0)) 3), .int (tu_rest ((((p1 : Int32).toInt64) * (((tu_len lw p0) : Int32).toInt64)) - (32768 : Int64)))]) (rest := []) ⟨hx, hb, hml, hown, hts⟩ (r_mix l (tu_sob mem sf bd fr fo lw p0 (tu_wrap ac (tu_whole ((((p1 : Int32).toInt64) * (((tu_len lw p0) : Int32).toInt64)) - (32768 : Int64))) (tu_len lw p0)) (tu_wrap dn (tu_whole ((((p2 : Int32).toInt64) * (((tu_len lh p0) : Int32).toInt64)) - (32768 : Int64))) (tu_len lh p0)) 3) (tu_sob mem sf bd fr fo lw p0 (tu_wrap ac ((tu_whole ((((p1 : Int32).toInt64) * (((tu_len lw p0) : Int32).toInt64)) - (32768 : Int64))) + (1 : Int32)) (tu_len lw p0)) (tu_wrap dn (tu_whole ((((p2 : Int32).toInt64) * (((tu_len lh p0) : Int32).toInt64)) - (32768 : Int64))) (tu_len lh p0)) 3) (tu_rest ((((p1 : Int32).toInt64) * (((tu_len lw p0) : Int32).toInt64)) - (32768 : Int64)))) (va_cwS 3 hts (tg_S tw_312 tw_313 tw_1 tw_314) rfl rfl rfl (by decide +kernel) ⟨Nat.le_of_ble_eq_true rfl, Nat.le_of_ble_eq_true rfl⟩) preEq rfl rfl hl.1 rfl (lv_room (Nat.le_of_ble_eq_true rfl)) dX1_sampleFour_156 ⟨Nat.le_of_ble_eq_true rfl, Nat.le_of_ble_eq_true rfl⟩) ?_
  refine lv_istore (lv' := [(19, .int (tu_mix (tu_sob mem sf bd fr fo lw p0 (tu_wrap ac (tu_whole ((((p1 : Int32).toInt64) * (((tu_len lw p0) : Int32).toInt64)) - (32768 : Int64))) (tu_len lw p0)) (tu_wrap dn (tu_whole ((((p2 : Int32).toInt64) * (((tu_len lh p0) : Int32).toInt64)) - (32768 : Int64))) (tu_len lh p0)) 3) (tu_sob mem sf bd fr fo lw p0 (tu_wrap ac ((tu_whole ((((p1 : Int32).toInt64) * (((tu_len lw p0) : Int32).toInt64)) - (32768 : Int64))) + (1 : Int32)) (tu_len lw p0)) (tu_wrap dn (tu_whole ((((p2 : Int32).toInt64) * (((tu_len lh p0) : Int32).toInt64)) - (32768 : Int64))) (tu_len lh p0)) 3) (tu_rest ((((p1 : Int32).toInt64) * (((tu_len lw p0) : Int32).toInt64)) - (32768 : Int64))))), (18, .int 3), (20, .int (tu_mix (tu_sob mem sf bd fr fo lw p0 (tu_wrap ac (tu_whole ((((p1 : Int32).toInt64) * (((tu_len lw p0) : Int32).toInt64)) - (32768 : Int64))) (tu_len lw p0)) (tu_wrap dn ((tu_whole ((((p2 : Int32).toInt64) * (((tu_len lh p0) : Int32).toInt64)) - (32768 : Int64))) + (1 : Int32)) (tu_len lh p0)) 2) (tu_sob mem sf bd fr fo lw p0 (tu_wrap ac ((tu_whole ((((p1 : Int32).toInt64) * (((tu_len lw p0) : Int32).toInt64)) - (32768 : Int64))) + (1 : Int32)) (tu_len lw p0)) (tu_wrap dn ((tu_whole ((((p2 : Int32).toInt64) * (((tu_len lh p0) : Int32).toInt64)) - (32768 : Int64))) + (1 : Int32)) (tu_len lh p0)) 2) (tu_rest ((((p1 : Int32).toInt64) * (((tu_len lw p0) : Int32).toInt64)) - (32768 : Int64))))), (17, .int (tu_rest ((((p2 : Int32).toInt64) * (((tu_len lh p0) : Int32).toInt64)) - (32768 : Int64)))), (16, .int (tu_rest ((((p1 : Int32).toInt64) * (((tu_len lw p0) : Int32).toInt64)) - (32768 : Int64)))), (15, .int (tu_wrap dn ((tu_whole ((((p2 : Int32).toInt64) * (((tu_len lh p0) : Int32).toInt64)) - (32768 : Int64))) + (1 : Int32)) (tu_len lh p0))), (14, .int (tu_wrap dn (tu_whole ((((p2 : Int32).toInt64) * (((tu_len lh p0) : Int32).toInt64)) - (32768 : Int64))) (tu_len lh p0))), (13, .int (tu_wrap ac ((tu_whole ((((p1 : Int32).toInt64) * (((tu_len lw p0) : Int32).toInt64)) - (32768 : Int64))) + (1 : Int32)) (tu_len lw p0))), (12, .int (tu_wrap ac (tu_whole ((((p1 : Int32).toInt64) * (((tu_len lw p0) : Int32).toInt64)) - (32768 : Int64))) (tu_len lw p0))), (10, .long ((((p2 : Int32).toInt64) * (((tu_len lh p0) : Int32).toInt64)) - (32768 : Int64))), (8, .long ((((p1 : Int32).toInt64) * (((tu_len lw p0) : Int32).toInt64)) - (32768 : Int64))), (7, .int (tu_len lh p0)), (6, .int (tu_len lw p0)), (0, .ref q), (1, .ref u), (2, .int p0), (3, .int p1), (4, .int p2), (5, .ref it)]) hx hb dX1_sampleFour_159 hl (by decide) rfl (fun ls hl => ?_)
  refine lv_aload_n hx hb dX1_sampleFour_161 rfl (lv_at hl 13 rfl) ?_
  refine lv_aload_n hx hb dX1_sampleFour_162 rfl (lv_at hl 14 rfl) ?_
  refine lv_iload_n hx hb dX1_sampleFour_163 rfl (lv_at hl 15 rfl) ?_
  refine lv_iload hx hb dX1_sampleFour_164 (lv_at hl 8 rfl) ?_
  refine lv_iload hx hb dX1_sampleFour_166 (lv_at hl 5 rfl) ?_
  refine lv_iload hx hb dX1_sampleFour_168 (lv_at hl 1 rfl) ?_
  refine rd_call (W.runV (As := [.ref u, .int p0, .int (tu_wrap ac (tu_whole ((((p1 : Int32).toInt64) * (((tu_len lw p0) : Int32).toInt64)) - (32768 : Int64))) (tu_len lw p0)), .int (tu_wrap dn ((tu_whole ((((p2 : Int32).toInt64) * (((tu_len lh p0) : Int32).toInt64)) - (32768 : Int64))) + (1 : Int32)) (tu_len lh p0)), .int 3]) (rest := []) ⟨hx, hb, hml, hown, hts⟩ (r_sob l dC dI q wd us la nx u fr fo lw lh lv ac dn fi bc st cI mem sf bd tb p0 (tu_wrap ac (tu_whole ((((p1 : Int32).toInt64) * (((tu_len lw p0) : Int32).toInt64)) - (32768 : Int64))) (tu_len lw p0)) (tu_wrap dn ((tu_whole ((((p2 : Int32).toInt64) * (((tu_len lh p0) : Int32).toInt64)) - (32768 : Int64))) + (1 : Int32)) (tu_len lh p0)) 3 h0 h1 (tu_fo4 h1 (tu_in (by decide))) (tu_in (by decide))) (cwV 5 hts (tg_V tw_308 tw_310 tw_p6 tw_1 tw_311) rfl rfl rfl (by decide +kernel) ⟨Nat.le_of_ble_eq_true rfl, Nat.le_of_ble_eq_true rfl⟩) ⟨rt_blind, va_recv hK hP (ci := 1) (q0 := 0) rfl rfl, fun U hU hW => ⟨rfl, rt_use (hP.sub [0, 1, 2, 3, 4] rfl) (hK.sub [0] rfl) (tb_use hX hS) U hU hW⟩⟩ rfl rfl hl.1 rfl (lv_room (Nat.le_of_ble_eq_true rfl)) dX1_sampleFour_170 ⟨Nat.le_of_ble_eq_true rfl, Nat.le_of_ble_eq_true rfl⟩) ?_
  refine lv_aload_n hx hb dX1_sampleFour_173 rfl (lv_at hl 13 rfl) ?_
  refine lv_aload_n hx hb dX1_sampleFour_174 rfl (lv_at hl 14 rfl) ?_
  refine lv_iload_n hx hb dX1_sampleFour_175 rfl (lv_at hl 15 rfl) ?_
  refine lv_iload hx hb dX1_sampleFour_176 (lv_at hl 7 rfl) ?_
  refine lv_iload hx hb dX1_sampleFour_178 (lv_at hl 5 rfl) ?_
  refine lv_iload hx hb dX1_sampleFour_180 (lv_at hl 1 rfl) ?_
  refine rd_call (W.runV (As := [.ref u, .int p0, .int (tu_wrap ac ((tu_whole ((((p1 : Int32).toInt64) * (((tu_len lw p0) : Int32).toInt64)) - (32768 : Int64))) + (1 : Int32)) (tu_len lw p0)), .int (tu_wrap dn ((tu_whole ((((p2 : Int32).toInt64) * (((tu_len lh p0) : Int32).toInt64)) - (32768 : Int64))) + (1 : Int32)) (tu_len lh p0)), .int 3]) (rest := [.int (tu_sob mem sf bd fr fo lw p0 (tu_wrap ac (tu_whole ((((p1 : Int32).toInt64) * (((tu_len lw p0) : Int32).toInt64)) - (32768 : Int64))) (tu_len lw p0)) (tu_wrap dn ((tu_whole ((((p2 : Int32).toInt64) * (((tu_len lh p0) : Int32).toInt64)) - (32768 : Int64))) + (1 : Int32)) (tu_len lh p0)) 3)]) ⟨hx, hb, hml, hown, hts⟩ (r_sob l dC dI q wd us la nx u fr fo lw lh lv ac dn fi bc st cI mem sf bd tb p0 (tu_wrap ac ((tu_whole ((((p1 : Int32).toInt64) * (((tu_len lw p0) : Int32).toInt64)) - (32768 : Int64))) + (1 : Int32)) (tu_len lw p0)) (tu_wrap dn ((tu_whole ((((p2 : Int32).toInt64) * (((tu_len lh p0) : Int32).toInt64)) - (32768 : Int64))) + (1 : Int32)) (tu_len lh p0)) 3 h0 h1 (tu_fo4 h1 (tu_in (by decide))) (tu_in (by decide))) (cwV 5 hts (tg_V tw_308 tw_310 tw_p6 tw_1 tw_311) rfl rfl rfl (by decide +kernel) ⟨Nat.le_of_ble_eq_true rfl, Nat.le_of_ble_eq_true rfl⟩) ⟨rt_blind, va_recv hK hP (ci := 1) (q0 := 0) rfl rfl, fun U hU hW => ⟨rfl, rt_use (hP.sub [0, 1, 2, 3, 4] rfl) (hK.sub [0] rfl) (tb_use hX hS) U hU hW⟩⟩ rfl rfl hl.1 rfl (lv_room (Nat.le_of_ble_eq_true rfl)) dX1_sampleFour_182 ⟨Nat.le_of_ble_eq_true rfl, Nat.le_of_ble_eq_true rfl⟩) ?_
  refine lv_iload hx hb dX1_sampleFour_185 (lv_at hl 4 rfl) ?_
  refine rd_call (W.runS (As := [.int (tu_sob mem sf bd fr fo lw p0 (tu_wrap ac (tu_whole ((((p1 : Int32).toInt64) * (((tu_len lw p0) : Int32).toInt64)) - (32768 : Int64))) (tu_len lw p0)) (tu_wrap dn ((tu_whole ((((p2 : Int32).toInt64) * (((tu_len lh p0) : Int32).toInt64)) - (32768 : Int64))) + (1 : Int32)) (tu_len lh p0)) 3), .int (tu_sob mem sf bd fr fo lw p0 (tu_wrap ac ((tu_whole ((((p1 : Int32).toInt64) * (((tu_len lw p0) : Int32).toInt64)) - (32768 : Int64))) + (1 : Int32)) (tu_len lw p0)) (tu_wrap dn ((tu_whole ((((p2 : Int32).toInt64) * (((tu_len lh p0) : Int32).toInt64)) - (32768 : Int64))) + (1 : Int32)) (tu_len lh p0)) 3), .int (tu_rest ((((p1 : Int32).toInt64) * (((tu_len lw p0) : Int32).toInt64)) - (32768 : Int64)))]) (rest := []) ⟨hx, hb, hml, hown, hts⟩ (r_mix l (tu_sob mem sf bd fr fo lw p0 (tu_wrap ac (tu_whole ((((p1 : Int32).toInt64) * (((tu_len lw p0) : Int32).toInt64)) - (32768 : Int64))) (tu_len lw p0)) (tu_wrap dn ((tu_whole ((((p2 : Int32).toInt64) * (((tu_len lh p0) : Int32).toInt64)) - (32768 : Int64))) + (1 : Int32)) (tu_len lh p0)) 3) (tu_sob mem sf bd fr fo lw p0 (tu_wrap ac ((tu_whole ((((p1 : Int32).toInt64) * (((tu_len lw p0) : Int32).toInt64)) - (32768 : Int64))) + (1 : Int32)) (tu_len lw p0)) (tu_wrap dn ((tu_whole ((((p2 : Int32).toInt64) * (((tu_len lh p0) : Int32).toInt64)) - (32768 : Int64))) + (1 : Int32)) (tu_len lh p0)) 3) (tu_rest ((((p1 : Int32).toInt64) * (((tu_len lw p0) : Int32).toInt64)) - (32768 : Int64)))) (va_cwS 3 hts (tg_S tw_312 tw_313 tw_1 tw_314) rfl rfl rfl (by decide +kernel) ⟨Nat.le_of_ble_eq_true rfl, Nat.le_of_ble_eq_true rfl⟩) preEq rfl rfl hl.1 rfl (lv_room (Nat.le_of_ble_eq_true rfl)) dX1_sampleFour_187 ⟨Nat.le_of_ble_eq_true rfl, Nat.le_of_ble_eq_true rfl⟩) ?_
  refine lv_istore (lv' := [(20, .int (tu_mix (tu_sob mem sf bd fr fo lw p0 (tu_wrap ac (tu_whole ((((p1 : Int32).toInt64) * (((tu_len lw p0) : Int32).toInt64)) - (32768 : Int64))) (tu_len lw p0)) (tu_wrap dn ((tu_whole ((((p2 : Int32).toInt64) * (((tu_len lh p0) : Int32).toInt64)) - (32768 : Int64))) + (1 : Int32)) (tu_len lh p0)) 3) (tu_sob mem sf bd fr fo lw p0 (tu_wrap ac ((tu_whole ((((p1 : Int32).toInt64) * (((tu_len lw p0) : Int32).toInt64)) - (32768 : Int64))) + (1 : Int32)) (tu_len lw p0)) (tu_wrap dn ((tu_whole ((((p2 : Int32).toInt64) * (((tu_len lh p0) : Int32).toInt64)) - (32768 : Int64))) + (1 : Int32)) (tu_len lh p0)) 3) (tu_rest ((((p1 : Int32).toInt64) * (((tu_len lw p0) : Int32).toInt64)) - (32768 : Int64))))), (19, .int (tu_mix (tu_sob mem sf bd fr fo lw p0 (tu_wrap ac (tu_whole ((((p1 : Int32).toInt64) * (((tu_len lw p0) : Int32).toInt64)) - (32768 : Int64))) (tu_len lw p0)) (tu_wrap dn (tu_whole ((((p2 : Int32).toInt64) * (((tu_len lh p0) : Int32).toInt64)) - (32768 : Int64))) (tu_len lh p0)) 3) (tu_sob mem sf bd fr fo lw p0 (tu_wrap ac ((tu_whole ((((p1 : Int32).toInt64) * (((tu_len lw p0) : Int32).toInt64)) - (32768 : Int64))) + (1 : Int32)) (tu_len lw p0)) (tu_wrap dn (tu_whole ((((p2 : Int32).toInt64) * (((tu_len lh p0) : Int32).toInt64)) - (32768 : Int64))) (tu_len lh p0)) 3) (tu_rest ((((p1 : Int32).toInt64) * (((tu_len lw p0) : Int32).toInt64)) - (32768 : Int64))))), (18, .int 3), (17, .int (tu_rest ((((p2 : Int32).toInt64) * (((tu_len lh p0) : Int32).toInt64)) - (32768 : Int64)))), (16, .int (tu_rest ((((p1 : Int32).toInt64) * (((tu_len lw p0) : Int32).toInt64)) - (32768 : Int64)))), (15, .int (tu_wrap dn ((tu_whole ((((p2 : Int32).toInt64) * (((tu_len lh p0) : Int32).toInt64)) - (32768 : Int64))) + (1 : Int32)) (tu_len lh p0))), (14, .int (tu_wrap dn (tu_whole ((((p2 : Int32).toInt64) * (((tu_len lh p0) : Int32).toInt64)) - (32768 : Int64))) (tu_len lh p0))), (13, .int (tu_wrap ac ((tu_whole ((((p1 : Int32).toInt64) * (((tu_len lw p0) : Int32).toInt64)) - (32768 : Int64))) + (1 : Int32)) (tu_len lw p0))), (12, .int (tu_wrap ac (tu_whole ((((p1 : Int32).toInt64) * (((tu_len lw p0) : Int32).toInt64)) - (32768 : Int64))) (tu_len lw p0))), (10, .long ((((p2 : Int32).toInt64) * (((tu_len lh p0) : Int32).toInt64)) - (32768 : Int64))), (8, .long ((((p1 : Int32).toInt64) * (((tu_len lw p0) : Int32).toInt64)) - (32768 : Int64))), (7, .int (tu_len lh p0)), (6, .int (tu_len lw p0)), (0, .ref q), (1, .ref u), (2, .int p0), (3, .int p1), (4, .int p2), (5, .ref it)]) hx hb dX1_sampleFour_190 hl (by decide) rfl (fun ls hl => ?_)
  refine lv_aload hx hb dX1_sampleFour_192 (lv_at hl 18 rfl) ?_
  refine lv_iload hx hb dX1_sampleFour_194 (lv_at hl 2 rfl) ?_
  refine lv_iload hx hb dX1_sampleFour_196 (lv_at hl 1 rfl) ?_
  refine lv_iload hx hb dX1_sampleFour_198 (lv_at hl 0 rfl) ?_
  refine lv_iload hx hb dX1_sampleFour_200 (lv_at hl 3 rfl) ?_
  refine rd_call (W.runS (As := [.int (tu_mix (tu_sob mem sf bd fr fo lw p0 (tu_wrap ac (tu_whole ((((p1 : Int32).toInt64) * (((tu_len lw p0) : Int32).toInt64)) - (32768 : Int64))) (tu_len lw p0)) (tu_wrap dn (tu_whole ((((p2 : Int32).toInt64) * (((tu_len lh p0) : Int32).toInt64)) - (32768 : Int64))) (tu_len lh p0)) 3) (tu_sob mem sf bd fr fo lw p0 (tu_wrap ac ((tu_whole ((((p1 : Int32).toInt64) * (((tu_len lw p0) : Int32).toInt64)) - (32768 : Int64))) + (1 : Int32)) (tu_len lw p0)) (tu_wrap dn (tu_whole ((((p2 : Int32).toInt64) * (((tu_len lh p0) : Int32).toInt64)) - (32768 : Int64))) (tu_len lh p0)) 3) (tu_rest ((((p1 : Int32).toInt64) * (((tu_len lw p0) : Int32).toInt64)) - (32768 : Int64)))), .int (tu_mix (tu_sob mem sf bd fr fo lw p0 (tu_wrap ac (tu_whole ((((p1 : Int32).toInt64) * (((tu_len lw p0) : Int32).toInt64)) - (32768 : Int64))) (tu_len lw p0)) (tu_wrap dn ((tu_whole ((((p2 : Int32).toInt64) * (((tu_len lh p0) : Int32).toInt64)) - (32768 : Int64))) + (1 : Int32)) (tu_len lh p0)) 3) (tu_sob mem sf bd fr fo lw p0 (tu_wrap ac ((tu_whole ((((p1 : Int32).toInt64) * (((tu_len lw p0) : Int32).toInt64)) - (32768 : Int64))) + (1 : Int32)) (tu_len lw p0)) (tu_wrap dn ((tu_whole ((((p2 : Int32).toInt64) * (((tu_len lh p0) : Int32).toInt64)) - (32768 : Int64))) + (1 : Int32)) (tu_len lh p0)) 3) (tu_rest ((((p1 : Int32).toInt64) * (((tu_len lw p0) : Int32).toInt64)) - (32768 : Int64)))), .int (tu_rest ((((p2 : Int32).toInt64) * (((tu_len lh p0) : Int32).toInt64)) - (32768 : Int64)))]) (rest := [.int 3, .ref it]) ⟨hx, hb, hml, hown, hts⟩ (r_mix l (tu_mix (tu_sob mem sf bd fr fo lw p0 (tu_wrap ac (tu_whole ((((p1 : Int32).toInt64) * (((tu_len lw p0) : Int32).toInt64)) - (32768 : Int64))) (tu_len lw p0)) (tu_wrap dn (tu_whole ((((p2 : Int32).toInt64) * (((tu_len lh p0) : Int32).toInt64)) - (32768 : Int64))) (tu_len lh p0)) 3) (tu_sob mem sf bd fr fo lw p0 (tu_wrap ac ((tu_whole ((((p1 : Int32).toInt64) * (((tu_len lw p0) : Int32).toInt64)) - (32768 : Int64))) + (1 : Int32)) (tu_len lw p0)) (tu_wrap dn (tu_whole ((((p2 : Int32).toInt64) * (((tu_len lh p0) : Int32).toInt64)) - (32768 : Int64))) (tu_len lh p0)) 3) (tu_rest ((((p1 : Int32).toInt64) * (((tu_len lw p0) : Int32).toInt64)) - (32768 : Int64)))) (tu_mix (tu_sob mem sf bd fr fo lw p0 (tu_wrap ac (tu_whole ((((p1 : Int32).toInt64) * (((tu_len lw p0) : Int32).toInt64)) - (32768 : Int64))) (tu_len lw p0)) (tu_wrap dn ((tu_whole ((((p2 : Int32).toInt64) * (((tu_len lh p0) : Int32).toInt64)) - (32768 : Int64))) + (1 : Int32)) (tu_len lh p0)) 3) (tu_sob mem sf bd fr fo lw p0 (tu_wrap ac ((tu_whole ((((p1 : Int32).toInt64) * (((tu_len lw p0) : Int32).toInt64)) - (32768 : Int64))) + (1 : Int32)) (tu_len lw p0)) (tu_wrap dn ((tu_whole ((((p2 : Int32).toInt64) * (((tu_len lh p0) : Int32).toInt64)) - (32768 : Int64))) + (1 : Int32)) (tu_len lh p0)) 3) (tu_rest ((((p1 : Int32).toInt64) * (((tu_len lw p0) : Int32).toInt64)) - (32768 : Int64)))) (tu_rest ((((p2 : Int32).toInt64) * (((tu_len lh p0) : Int32).toInt64)) - (32768 : Int64)))) (va_cwS 3 hts (tg_S tw_312 tw_313 tw_1 tw_314) rfl rfl rfl (by decide +kernel) ⟨Nat.le_of_ble_eq_true rfl, Nat.le_of_ble_eq_true rfl⟩) preEq rfl rfl hl.1 rfl (lv_room (Nat.le_of_ble_eq_true rfl)) dX1_sampleFour_202 ⟨Nat.le_of_ble_eq_true rfl, Nat.le_of_ble_eq_true rfl⟩) ?_
  refine va_iast hx hb hK hP hD hS 5 0 rfl rfl (tu_in (by decide)) dX1_sampleFour_205 (fun H locs hP hD hS => ?_)
  have hP : va_P (dC, dI) vwCl [(q, .inr (1, [.ref wd, .ref us, .ref la, .ref nx])), (u, .inr (0, [.int fr, .int fo, .int lw, .int lh, .int lv, .int ac, .int dn, .int fi, .ref bc, .ref st])), (wd, .inl (cI, 2048, .inl mem)), (st, .inl (cI, 12, .inl sf)), (bc, .inl (cI, 4, .inl bd)), (it, .inl (cI, 4, .inl (upd (upd (upd (upd g 0 (tu_mix (tu_mix (tu_sob mem sf bd fr fo lw p0 (tu_wrap ac (tu_whole ((((p1 : Int32).toInt64) * (((tu_len lw p0) : Int32).toInt64)) - (32768 : Int64))) (tu_len lw p0)) (tu_wrap dn (tu_whole ((((p2 : Int32).toInt64) * (((tu_len lh p0) : Int32).toInt64)) - (32768 : Int64))) (tu_len lh p0)) 0) (tu_sob mem sf bd fr fo lw p0 (tu_wrap ac ((tu_whole ((((p1 : Int32).toInt64) * (((tu_len lw p0) : Int32).toInt64)) - (32768 : Int64))) + (1 : Int32)) (tu_len lw p0)) (tu_wrap dn (tu_whole ((((p2 : Int32).toInt64) * (((tu_len lh p0) : Int32).toInt64)) - (32768 : Int64))) (tu_len lh p0)) 0) (tu_rest ((((p1 : Int32).toInt64) * (((tu_len lw p0) : Int32).toInt64)) - (32768 : Int64)))) (tu_mix (tu_sob mem sf bd fr fo lw p0 (tu_wrap ac (tu_whole ((((p1 : Int32).toInt64) * (((tu_len lw p0) : Int32).toInt64)) - (32768 : Int64))) (tu_len lw p0)) (tu_wrap dn ((tu_whole ((((p2 : Int32).toInt64) * (((tu_len lh p0) : Int32).toInt64)) - (32768 : Int64))) + (1 : Int32)) (tu_len lh p0)) 0) (tu_sob mem sf bd fr fo lw p0 (tu_wrap ac ((tu_whole ((((p1 : Int32).toInt64) * (((tu_len lw p0) : Int32).toInt64)) - (32768 : Int64))) + (1 : Int32)) (tu_len lw p0)) (tu_wrap dn ((tu_whole ((((p2 : Int32).toInt64) * (((tu_len lh p0) : Int32).toInt64)) - (32768 : Int64))) + (1 : Int32)) (tu_len lh p0)) 0) (tu_rest ((((p1 : Int32).toInt64) * (((tu_len lw p0) : Int32).toInt64)) - (32768 : Int64)))) (tu_rest ((((p2 : Int32).toInt64) * (((tu_len lh p0) : Int32).toInt64)) - (32768 : Int64))))) 1 (tu_mix (tu_mix (tu_sob mem sf bd fr fo lw p0 (tu_wrap ac (tu_whole ((((p1 : Int32).toInt64) * (((tu_len lw p0) : Int32).toInt64)) - (32768 : Int64))) (tu_len lw p0)) (tu_wrap dn (tu_whole ((((p2 : Int32).toInt64) * (((tu_len lh p0) : Int32).toInt64)) - (32768 : Int64))) (tu_len lh p0)) 1) (tu_sob mem sf bd fr fo lw p0 (tu_wrap ac ((tu_whole ((((p1 : Int32).toInt64) * (((tu_len lw p0) : Int32).toInt64)) - (32768 : Int64))) + (1 : Int32)) (tu_len lw p0)) (tu_wrap dn (tu_whole ((((p2 : Int32).toInt64) * (((tu_len lh p0) : Int32).toInt64)) - (32768 : Int64))) (tu_len lh p0)) 1) (tu_rest ((((p1 : Int32).toInt64) * (((tu_len lw p0) : Int32).toInt64)) - (32768 : Int64)))) (tu_mix (tu_sob mem sf bd fr fo lw p0 (tu_wrap ac (tu_whole ((((p1 : Int32).toInt64) * (((tu_len lw p0) : Int32).toInt64)) - (32768 : Int64))) (tu_len lw p0)) (tu_wrap dn ((tu_whole ((((p2 : Int32).toInt64) * (((tu_len lh p0) : Int32).toInt64)) - (32768 : Int64))) + (1 : Int32)) (tu_len lh p0)) 1) (tu_sob mem sf bd fr fo lw p0 (tu_wrap ac ((tu_whole ((((p1 : Int32).toInt64) * (((tu_len lw p0) : Int32).toInt64)) - (32768 : Int64))) + (1 : Int32)) (tu_len lw p0)) (tu_wrap dn ((tu_whole ((((p2 : Int32).toInt64) * (((tu_len lh p0) : Int32).toInt64)) - (32768 : Int64))) + (1 : Int32)) (tu_len lh p0)) 1) (tu_rest ((((p1 : Int32).toInt64) * (((tu_len lw p0) : Int32).toInt64)) - (32768 : Int64)))) (tu_rest ((((p2 : Int32).toInt64) * (((tu_len lh p0) : Int32).toInt64)) - (32768 : Int64))))) 2 (tu_mix (tu_mix (tu_sob mem sf bd fr fo lw p0 (tu_wrap ac (tu_whole ((((p1 : Int32).toInt64) * (((tu_len lw p0) : Int32).toInt64)) - (32768 : Int64))) (tu_len lw p0)) (tu_wrap dn (tu_whole ((((p2 : Int32).toInt64) * (((tu_len lh p0) : Int32).toInt64)) - (32768 : Int64))) (tu_len lh p0)) 2) (tu_sob mem sf bd fr fo lw p0 (tu_wrap ac ((tu_whole ((((p1 : Int32).toInt64) * (((tu_len lw p0) : Int32).toInt64)) - (32768 : Int64))) + (1 : Int32)) (tu_len lw p0)) (tu_wrap dn (tu_whole ((((p2 : Int32).toInt64) * (((tu_len lh p0) : Int32).toInt64)) - (32768 : Int64))) (tu_len lh p0)) 2) (tu_rest ((((p1 : Int32).toInt64) * (((tu_len lw p0) : Int32).toInt64)) - (32768 : Int64)))) (tu_mix (tu_sob mem sf bd fr fo lw p0 (tu_wrap ac (tu_whole ((((p1 : Int32).toInt64) * (((tu_len lw p0) : Int32).toInt64)) - (32768 : Int64))) (tu_len lw p0)) (tu_wrap dn ((tu_whole ((((p2 : Int32).toInt64) * (((tu_len lh p0) : Int32).toInt64)) - (32768 : Int64))) + (1 : Int32)) (tu_len lh p0)) 2) (tu_sob mem sf bd fr fo lw p0 (tu_wrap ac ((tu_whole ((((p1 : Int32).toInt64) * (((tu_len lw p0) : Int32).toInt64)) - (32768 : Int64))) + (1 : Int32)) (tu_len lw p0)) (tu_wrap dn ((tu_whole ((((p2 : Int32).toInt64) * (((tu_len lh p0) : Int32).toInt64)) - (32768 : Int64))) + (1 : Int32)) (tu_len lh p0)) 2) (tu_rest ((((p1 : Int32).toInt64) * (((tu_len lw p0) : Int32).toInt64)) - (32768 : Int64)))) (tu_rest ((((p2 : Int32).toInt64) * (((tu_len lh p0) : Int32).toInt64)) - (32768 : Int64))))) 3 (tu_mix (tu_mix (tu_sob mem sf bd fr fo lw p0 (tu_wrap ac (tu_whole ((((p1 : Int32).toInt64) * (((tu_len lw p0) : Int32).toInt64)) - (32768 : Int64))) (tu_len lw p0)) (tu_wrap dn (tu_whole ((((p2 : Int32).toInt64) * (((tu_len lh p0) : Int32).toInt64)) - (32768 : Int64))) (tu_len lh p0)) 3) (tu_sob mem sf bd fr fo lw p0 (tu_wrap ac ((tu_whole ((((p1 : Int32).toInt64) * (((tu_len lw p0) : Int32).toInt64)) - (32768 : Int64))) + (1 : Int32)) (tu_len lw p0)) (tu_wrap dn (tu_whole ((((p2 : Int32).toInt64) * (((tu_len lh p0) : Int32).toInt64)) - (32768 : Int64))) (tu_len lh p0)) 3) (tu_rest ((((p1 : Int32).toInt64) * (((tu_len lw p0) : Int32).toInt64)) - (32768 : Int64)))) (tu_mix (tu_sob mem sf bd fr fo lw p0 (tu_wrap ac (tu_whole ((((p1 : Int32).toInt64) * (((tu_len lw p0) : Int32).toInt64)) - (32768 : Int64))) (tu_len lw p0)) (tu_wrap dn ((tu_whole ((((p2 : Int32).toInt64) * (((tu_len lh p0) : Int32).toInt64)) - (32768 : Int64))) + (1 : Int32)) (tu_len lh p0)) 3) (tu_sob mem sf bd fr fo lw p0 (tu_wrap ac ((tu_whole ((((p1 : Int32).toInt64) * (((tu_len lw p0) : Int32).toInt64)) - (32768 : Int64))) + (1 : Int32)) (tu_len lw p0)) (tu_wrap dn ((tu_whole ((((p2 : Int32).toInt64) * (((tu_len lh p0) : Int32).toInt64)) - (32768 : Int64))) + (1 : Int32)) (tu_len lh p0)) 3) (tu_rest ((((p1 : Int32).toInt64) * (((tu_len lw p0) : Int32).toInt64)) - (32768 : Int64)))) (tu_rest ((((p2 : Int32).toInt64) * (((tu_len lh p0) : Int32).toInt64)) - (32768 : Int64)))))))] H := hP
  have hD : va_D A [(q, .inr (1, [.ref wd, .ref us, .ref la, .ref nx])), (u, .inr (0, [.int fr, .int fo, .int lw, .int lh, .int lv, .int ac, .int dn, .int fi, .ref bc, .ref st])), (wd, .inl (cI, 2048, .inl mem)), (st, .inl (cI, 12, .inl sf)), (bc, .inl (cI, 4, .inl bd)), (it, .inl (cI, 4, .inl (upd (upd (upd (upd g 0 (tu_mix (tu_mix (tu_sob mem sf bd fr fo lw p0 (tu_wrap ac (tu_whole ((((p1 : Int32).toInt64) * (((tu_len lw p0) : Int32).toInt64)) - (32768 : Int64))) (tu_len lw p0)) (tu_wrap dn (tu_whole ((((p2 : Int32).toInt64) * (((tu_len lh p0) : Int32).toInt64)) - (32768 : Int64))) (tu_len lh p0)) 0) (tu_sob mem sf bd fr fo lw p0 (tu_wrap ac ((tu_whole ((((p1 : Int32).toInt64) * (((tu_len lw p0) : Int32).toInt64)) - (32768 : Int64))) + (1 : Int32)) (tu_len lw p0)) (tu_wrap dn (tu_whole ((((p2 : Int32).toInt64) * (((tu_len lh p0) : Int32).toInt64)) - (32768 : Int64))) (tu_len lh p0)) 0) (tu_rest ((((p1 : Int32).toInt64) * (((tu_len lw p0) : Int32).toInt64)) - (32768 : Int64)))) (tu_mix (tu_sob mem sf bd fr fo lw p0 (tu_wrap ac (tu_whole ((((p1 : Int32).toInt64) * (((tu_len lw p0) : Int32).toInt64)) - (32768 : Int64))) (tu_len lw p0)) (tu_wrap dn ((tu_whole ((((p2 : Int32).toInt64) * (((tu_len lh p0) : Int32).toInt64)) - (32768 : Int64))) + (1 : Int32)) (tu_len lh p0)) 0) (tu_sob mem sf bd fr fo lw p0 (tu_wrap ac ((tu_whole ((((p1 : Int32).toInt64) * (((tu_len lw p0) : Int32).toInt64)) - (32768 : Int64))) + (1 : Int32)) (tu_len lw p0)) (tu_wrap dn ((tu_whole ((((p2 : Int32).toInt64) * (((tu_len lh p0) : Int32).toInt64)) - (32768 : Int64))) + (1 : Int32)) (tu_len lh p0)) 0) (tu_rest ((((p1 : Int32).toInt64) * (((tu_len lw p0) : Int32).toInt64)) - (32768 : Int64)))) (tu_rest ((((p2 : Int32).toInt64) * (((tu_len lh p0) : Int32).toInt64)) - (32768 : Int64))))) 1 (tu_mix (tu_mix (tu_sob mem sf bd fr fo lw p0 (tu_wrap ac (tu_whole ((((p1 : Int32).toInt64) * (((tu_len lw p0) : Int32).toInt64)) - (32768 : Int64))) (tu_len lw p0)) (tu_wrap dn (tu_whole ((((p2 : Int32).toInt64) * (((tu_len lh p0) : Int32).toInt64)) - (32768 : Int64))) (tu_len lh p0)) 1) (tu_sob mem sf bd fr fo lw p0 (tu_wrap ac ((tu_whole ((((p1 : Int32).toInt64) * (((tu_len lw p0) : Int32).toInt64)) - (32768 : Int64))) + (1 : Int32)) (tu_len lw p0)) (tu_wrap dn (tu_whole ((((p2 : Int32).toInt64) * (((tu_len lh p0) : Int32).toInt64)) - (32768 : Int64))) (tu_len lh p0)) 1) (tu_rest ((((p1 : Int32).toInt64) * (((tu_len lw p0) : Int32).toInt64)) - (32768 : Int64)))) (tu_mix (tu_sob mem sf bd fr fo lw p0 (tu_wrap ac (tu_whole ((((p1 : Int32).toInt64) * (((tu_len lw p0) : Int32).toInt64)) - (32768 : Int64))) (tu_len lw p0)) (tu_wrap dn ((tu_whole ((((p2 : Int32).toInt64) * (((tu_len lh p0) : Int32).toInt64)) - (32768 : Int64))) + (1 : Int32)) (tu_len lh p0)) 1) (tu_sob mem sf bd fr fo lw p0 (tu_wrap ac ((tu_whole ((((p1 : Int32).toInt64) * (((tu_len lw p0) : Int32).toInt64)) - (32768 : Int64))) + (1 : Int32)) (tu_len lw p0)) (tu_wrap dn ((tu_whole ((((p2 : Int32).toInt64) * (((tu_len lh p0) : Int32).toInt64)) - (32768 : Int64))) + (1 : Int32)) (tu_len lh p0)) 1) (tu_rest ((((p1 : Int32).toInt64) * (((tu_len lw p0) : Int32).toInt64)) - (32768 : Int64)))) (tu_rest ((((p2 : Int32).toInt64) * (((tu_len lh p0) : Int32).toInt64)) - (32768 : Int64))))) 2 (tu_mix (tu_mix (tu_sob mem sf bd fr fo lw p0 (tu_wrap ac (tu_whole ((((p1 : Int32).toInt64) * (((tu_len lw p0) : Int32).toInt64)) - (32768 : Int64))) (tu_len lw p0)) (tu_wrap dn (tu_whole ((((p2 : Int32).toInt64) * (((tu_len lh p0) : Int32).toInt64)) - (32768 : Int64))) (tu_len lh p0)) 2) (tu_sob mem sf bd fr fo lw p0 (tu_wrap ac ((tu_whole ((((p1 : Int32).toInt64) * (((tu_len lw p0) : Int32).toInt64)) - (32768 : Int64))) + (1 : Int32)) (tu_len lw p0)) (tu_wrap dn (tu_whole ((((p2 : Int32).toInt64) * (((tu_len lh p0) : Int32).toInt64)) - (32768 : Int64))) (tu_len lh p0)) 2) (tu_rest ((((p1 : Int32).toInt64) * (((tu_len lw p0) : Int32).toInt64)) - (32768 : Int64)))) (tu_mix (tu_sob mem sf bd fr fo lw p0 (tu_wrap ac (tu_whole ((((p1 : Int32).toInt64) * (((tu_len lw p0) : Int32).toInt64)) - (32768 : Int64))) (tu_len lw p0)) (tu_wrap dn ((tu_whole ((((p2 : Int32).toInt64) * (((tu_len lh p0) : Int32).toInt64)) - (32768 : Int64))) + (1 : Int32)) (tu_len lh p0)) 2) (tu_sob mem sf bd fr fo lw p0 (tu_wrap ac ((tu_whole ((((p1 : Int32).toInt64) * (((tu_len lw p0) : Int32).toInt64)) - (32768 : Int64))) + (1 : Int32)) (tu_len lw p0)) (tu_wrap dn ((tu_whole ((((p2 : Int32).toInt64) * (((tu_len lh p0) : Int32).toInt64)) - (32768 : Int64))) + (1 : Int32)) (tu_len lh p0)) 2) (tu_rest ((((p1 : Int32).toInt64) * (((tu_len lw p0) : Int32).toInt64)) - (32768 : Int64)))) (tu_rest ((((p2 : Int32).toInt64) * (((tu_len lh p0) : Int32).toInt64)) - (32768 : Int64))))) 3 (tu_mix (tu_mix (tu_sob mem sf bd fr fo lw p0 (tu_wrap ac (tu_whole ((((p1 : Int32).toInt64) * (((tu_len lw p0) : Int32).toInt64)) - (32768 : Int64))) (tu_len lw p0)) (tu_wrap dn (tu_whole ((((p2 : Int32).toInt64) * (((tu_len lh p0) : Int32).toInt64)) - (32768 : Int64))) (tu_len lh p0)) 3) (tu_sob mem sf bd fr fo lw p0 (tu_wrap ac ((tu_whole ((((p1 : Int32).toInt64) * (((tu_len lw p0) : Int32).toInt64)) - (32768 : Int64))) + (1 : Int32)) (tu_len lw p0)) (tu_wrap dn (tu_whole ((((p2 : Int32).toInt64) * (((tu_len lh p0) : Int32).toInt64)) - (32768 : Int64))) (tu_len lh p0)) 3) (tu_rest ((((p1 : Int32).toInt64) * (((tu_len lw p0) : Int32).toInt64)) - (32768 : Int64)))) (tu_mix (tu_sob mem sf bd fr fo lw p0 (tu_wrap ac (tu_whole ((((p1 : Int32).toInt64) * (((tu_len lw p0) : Int32).toInt64)) - (32768 : Int64))) (tu_len lw p0)) (tu_wrap dn ((tu_whole ((((p2 : Int32).toInt64) * (((tu_len lh p0) : Int32).toInt64)) - (32768 : Int64))) + (1 : Int32)) (tu_len lh p0)) 3) (tu_sob mem sf bd fr fo lw p0 (tu_wrap ac ((tu_whole ((((p1 : Int32).toInt64) * (((tu_len lw p0) : Int32).toInt64)) - (32768 : Int64))) + (1 : Int32)) (tu_len lw p0)) (tu_wrap dn ((tu_whole ((((p2 : Int32).toInt64) * (((tu_len lh p0) : Int32).toInt64)) - (32768 : Int64))) + (1 : Int32)) (tu_len lh p0)) 3) (tu_rest ((((p1 : Int32).toInt64) * (((tu_len lw p0) : Int32).toInt64)) - (32768 : Int64)))) (tu_rest ((((p2 : Int32).toInt64) * (((tu_len lh p0) : Int32).toInt64)) - (32768 : Int64)))))))] := hD
  refine lv_iinc (v := 4) (lv' := [(18, .int 4), (20, .int (tu_mix (tu_sob mem sf bd fr fo lw p0 (tu_wrap ac (tu_whole ((((p1 : Int32).toInt64) * (((tu_len lw p0) : Int32).toInt64)) - (32768 : Int64))) (tu_len lw p0)) (tu_wrap dn ((tu_whole ((((p2 : Int32).toInt64) * (((tu_len lh p0) : Int32).toInt64)) - (32768 : Int64))) + (1 : Int32)) (tu_len lh p0)) 3) (tu_sob mem sf bd fr fo lw p0 (tu_wrap ac ((tu_whole ((((p1 : Int32).toInt64) * (((tu_len lw p0) : Int32).toInt64)) - (32768 : Int64))) + (1 : Int32)) (tu_len lw p0)) (tu_wrap dn ((tu_whole ((((p2 : Int32).toInt64) * (((tu_len lh p0) : Int32).toInt64)) - (32768 : Int64))) + (1 : Int32)) (tu_len lh p0)) 3) (tu_rest ((((p1 : Int32).toInt64) * (((tu_len lw p0) : Int32).toInt64)) - (32768 : Int64))))), (19, .int (tu_mix (tu_sob mem sf bd fr fo lw p0 (tu_wrap ac (tu_whole ((((p1 : Int32).toInt64) * (((tu_len lw p0) : Int32).toInt64)) - (32768 : Int64))) (tu_len lw p0)) (tu_wrap dn (tu_whole ((((p2 : Int32).toInt64) * (((tu_len lh p0) : Int32).toInt64)) - (32768 : Int64))) (tu_len lh p0)) 3) (tu_sob mem sf bd fr fo lw p0 (tu_wrap ac ((tu_whole ((((p1 : Int32).toInt64) * (((tu_len lw p0) : Int32).toInt64)) - (32768 : Int64))) + (1 : Int32)) (tu_len lw p0)) (tu_wrap dn (tu_whole ((((p2 : Int32).toInt64) * (((tu_len lh p0) : Int32).toInt64)) - (32768 : Int64))) (tu_len lh p0)) 3) (tu_rest ((((p1 : Int32).toInt64) * (((tu_len lw p0) : Int32).toInt64)) - (32768 : Int64))))), (17, .int (tu_rest ((((p2 : Int32).toInt64) * (((tu_len lh p0) : Int32).toInt64)) - (32768 : Int64)))), (16, .int (tu_rest ((((p1 : Int32).toInt64) * (((tu_len lw p0) : Int32).toInt64)) - (32768 : Int64)))), (15, .int (tu_wrap dn ((tu_whole ((((p2 : Int32).toInt64) * (((tu_len lh p0) : Int32).toInt64)) - (32768 : Int64))) + (1 : Int32)) (tu_len lh p0))), (14, .int (tu_wrap dn (tu_whole ((((p2 : Int32).toInt64) * (((tu_len lh p0) : Int32).toInt64)) - (32768 : Int64))) (tu_len lh p0))), (13, .int (tu_wrap ac ((tu_whole ((((p1 : Int32).toInt64) * (((tu_len lw p0) : Int32).toInt64)) - (32768 : Int64))) + (1 : Int32)) (tu_len lw p0))), (12, .int (tu_wrap ac (tu_whole ((((p1 : Int32).toInt64) * (((tu_len lw p0) : Int32).toInt64)) - (32768 : Int64))) (tu_len lw p0))), (10, .long ((((p2 : Int32).toInt64) * (((tu_len lh p0) : Int32).toInt64)) - (32768 : Int64))), (8, .long ((((p1 : Int32).toInt64) * (((tu_len lw p0) : Int32).toInt64)) - (32768 : Int64))), (7, .int (tu_len lh p0)), (6, .int (tu_len lw p0)), (0, .ref q), (1, .ref u), (2, .int p0), (3, .int p1), (4, .int p2), (5, .ref it)]) hx hb dX1_sampleFour_206 hl (k := 2) rfl (by decide) (by decide) rfl (fun ls hl => ?_)
  refine lv_goto (tgt := 124) hx hb dX1_sampleFour_209 (by decide) ?_
  refine lv_iload hx hb dX1_sampleFour_124 (lv_at hl 0 rfl) ?_
  refine lv_iconst (v := 4) hx hb dX1_sampleFour_126 (by decide) ?_
  refine lv_icmp_ge (tgt := 212) hx hb dX1_sampleFour_127 (by decide) (fun c_5 => ?_) (fun c_5 => absurd (by decide) c_5)
  have hP9 : va_P (dC, dI) vwCl [(q, .inr (1, [.ref wd, .ref us, .ref la, .ref nx])), (u, .inr (0, [.int fr, .int fo, .int lw, .int lh, .int lv, .int ac, .int dn, .int fi, .ref bc, .ref st])), (wd, .inl (cI, 2048, .inl mem)), (st, .inl (cI, 12, .inl sf)), (bc, .inl (cI, 4, .inl bd)), (it, .inl (cI, 4, .inl (tu_put4 g (tu_four mem sf bd fr fo lw lh ac dn p0 p1 p2 0) (tu_four mem sf bd fr fo lw lh ac dn p0 p1 p2 1) (tu_four mem sf bd fr fo lw lh ac dn p0 p1 p2 2) (tu_four mem sf bd fr fo lw lh ac dn p0 p1 p2 3))))] H := hP.sub [0, 1, 2, 3, 4, 5] rfl
  have hD9 : va_D A [(q, .inr (1, [.ref wd, .ref us, .ref la, .ref nx])), (u, .inr (0, [.int fr, .int fo, .int lw, .int lh, .int lv, .int ac, .int dn, .int fi, .ref bc, .ref st])), (wd, .inl (cI, 2048, .inl mem)), (st, .inl (cI, 12, .inl sf)), (bc, .inl (cI, 4, .inl bd)), (it, .inl (cI, 4, .inl (tu_put4 g (tu_four mem sf bd fr fo lw lh ac dn p0 p1 p2 0) (tu_four mem sf bd fr fo lw lh ac dn p0 p1 p2 1) (tu_four mem sf bd fr fo lw lh ac dn p0 p1 p2 2) (tu_four mem sf bd fr fo lw lh ac dn p0 p1 p2 3))))] := hD.sub [0, 1, 2, 3, 4, 5] (by decide) rfl
  have hK9 : va_K (dC, dI) vwCl [(cI, .int)] s := hK.sub [0] rfl
  exact W.vret hx hb hr (fun t ht hW => ⟨⟨(), rfl, trivial, by rw [ht]; exact hP9, va_K.moved hW.alike hK9, hD9⟩, hS.F ht⟩) hS.2.2 dX1_sampleFour_212
set_option maxHeartbeats 4000000 in
set_option maxRecDepth 100000 in
theorem w_sample (l : Launch) (dC : Nat → ClassId) (dI : Nat → Nat → Nat) (q wd us la nx : Nat) (u : Nat) (fr fo lw lh lv ac dn fi : Int32) (bc st : Nat) (it : Nat) (cI : ClassId) (mem sf bd g : Nat → Int32) (tb : Nat × Nat × Nat) (p0 p1 p2 : Int32) (sz : Nat) (h0 : vp_in p0 12) (h1 : vp_in fo 8) : Met l yX1_sample wsX1_sample ({ frames := 5, cells := 0, slots := 0, locals := 140 }) (va_Pc [.ref q, .ref u, .int p0, .int p1, .int p2, .ref it] (wt_P (dC, dI) vwCl [(q, .inr (1, [.ref wd, .ref us, .ref la, .ref nx])), (u, .inr (0, [.int fr, .int fo, .int lw, .int lh, .int lv, .int ac, .int dn, .int fi, .ref bc, .ref st])), (wd, .inl (cI, 2048, .inl mem)), (st, .inl (cI, 12, .inl sf)), (bc, .inl (cI, 4, .inl bd)), (it, .inl (cI, 4, .inl g))] [(cI, .int)] sz tb)) (va_Qv (fun _ : Unit => True) (wr_B (dC, dI) vwCl [(q, .inr (1, [.ref wd, .ref us, .ref la, .ref nx])), (u, .inr (0, [.int fr, .int fo, .int lw, .int lh, .int lv, .int ac, .int dn, .int fi, .ref bc, .ref st])), (wd, .inl (cI, 2048, .inl mem)), (st, .inl (cI, 12, .inl sf)), (bc, .inl (cI, 4, .inl bd)), (it, .inl (cI, 4, .inl (tu_smp4 mem sf bd fr fo lw lh ac dn fi p0 p1 p2 g)))] [(cI, .int)] (va_A [(q, .inr (1, [.ref wd, .ref us, .ref la, .ref nx])), (u, .inr (0, [.int fr, .int fo, .int lw, .int lh, .int lv, .int ac, .int dn, .int fi, .ref bc, .ref st])), (wd, .inl (cI, 2048, .inl mem)), (st, .inl (cI, 12, .inl sf)), (bc, .inl (cI, 4, .inl bd)), (it, .inl (cI, 4, .inl g))] sz)) (va_A [(q, .inr (1, [.ref wd, .ref us, .ref la, .ref nx])), (u, .inr (0, [.int fr, .int fo, .int lw, .int lh, .int lv, .int ac, .int dn, .int fi, .ref bc, .ref st])), (wd, .inl (cI, 2048, .inl mem)), (st, .inl (cI, 12, .inl sf)), (bc, .inl (cI, 4, .inl bd)), (it, .inl (cI, 4, .inl g))] sz)) 0 0 (va_A [(q, .inr (1, [.ref wd, .ref us, .ref la, .ref nx])), (u, .inr (0, [.int fr, .int fo, .int lw, .int lh, .int lv, .int ac, .int dn, .int fi, .ref bc, .ref st])), (wd, .inl (cI, 2048, .inl mem)), (st, .inl (cI, 12, .inl sf)), (bc, .inl (cI, 4, .inl bd)), (it, .inl (cI, 4, .inl g))] sz) := by
  refine Met.ofW (cc := cX1_sample) (maxL := 6) (ret := none) (by decide) rfl ?_
  intro p e s m args below meth c s₁ B hml hv
  obtain ⟨rfl, hsz, hP, hK, hD0, hX⟩ := hv
  have hx := B.exec
  have hb := B.bytes
  have hr := B.returns
  have hts := atoms_spec (ws := wsX1_sample) B.pre
  have hown : s.vm.findClass "TextureUnits" = some m.cls := findClass_of_methodNamed B.named
  have hlocks := B.notSynchronized
  subst hsz
  have hD := hD0.self (sz := s.heap.size)
  generalize hAe : va_A [(q, .inr (1, [.ref wd, .ref us, .ref la, .ref nx])), (u, .inr (0, [.int fr, .int fo, .int lw, .int lh, .int lv, .int ac, .int dn, .int fi, .ref bc, .ref st])), (wd, .inl (cI, 2048, .inl mem)), (st, .inl (cI, 12, .inl sf)), (bc, .inl (cI, 4, .inl bd)), (it, .inl (cI, 4, .inl g))] s.heap.size = A at hD hX ⊢
  have hA : ∀ q : Nat, s.heap.size ≤ q → A q := fun q h => by rw [← hAe]; exact Or.inr h
  have hS : va_S A s.heap s.heap [] := va_S.rf
  have hP : va_P (dC, dI) vwCl [(q, .inr (1, [.ref wd, .ref us, .ref la, .ref nx])), (u, .inr (0, [.int fr, .int fo, .int lw, .int lh, .int lv, .int ac, .int dn, .int fi, .ref bc, .ref st])), (wd, .inl (cI, 2048, .inl mem)), (st, .inl (cI, 12, .inl sf)), (bc, .inl (cI, 4, .inl bd)), (it, .inl (cI, 4, .inl g))] s.heap := hP
  have hl := lv_entry ([.ref q, .ref u, .int p0, .int p1, .int p2, .ref it]) (n := 6) (Nat.le_of_ble_eq_true rfl)
  rw [lg_entry_eq]
  generalize (lg_sl ([.ref q, .ref u, .int p0, .int p1, .int p2, .ref it]) ++ List.replicate (6 - (lg_sl ([.ref q, .ref u, .int p0, .int p1, .int p2, .ref it])).length) Slot.unset).toArray = ls at hl ⊢
  have hl : lv_has ls 6 [(0, .ref q), (1, .ref u), (2, .int p0), (3, .int p1), (4, .int p2), (5, .ref it)] := hl
  refine lv_aload_n hx hb dX1_sample_0 rfl (lv_at hl 1 rfl) ?_
  refine va_get (D := (dC, dI)) (ci := 0) (v := .int fi) (C := "TextureUnits$Unit") (T := TX0) (N := 10) hx hb hts (tw_s inX0) hown hK hP 1 rfl rfl 7 (by decide) (hts _ (tw_c tw_46)) (fun _ h9 => h9) rfl dX1_sample_1 ?_
  refine lv_iconst (v := 1) hx hb dX1_sample_4 (by decide) ?_
  refine lv_icmp_eq (tgt := 16) hx hb dX1_sample_5 (by decide) (fun c_1 => ?_) (fun c_1 => ?_)
  · refine lv_aload_n hx hb dX1_sample_16 rfl (lv_at hl 0 rfl) ?_
    refine lv_aload_n hx hb dX1_sample_17 rfl (lv_at hl 1 rfl) ?_
    refine lv_iload_n hx hb dX1_sample_18 rfl (lv_at hl 2 rfl) ?_
    refine lv_iload_n hx hb dX1_sample_19 rfl (lv_at hl 3 rfl) ?_
    refine lv_iload hx hb dX1_sample_20 (lv_at hl 4 rfl) ?_
    refine lv_aload hx hb dX1_sample_22 (lv_at hl 5 rfl) ?_
    have hPc := hP.sub (ws' := [(q, .inr (1, [.ref wd, .ref us, .ref la, .ref nx])), (u, .inr (0, [.int fr, .int fo, .int lw, .int lh, .int lv, .int ac, .int dn, .int fi, .ref bc, .ref st])), (wd, .inl (cI, 2048, .inl mem)), (st, .inl (cI, 12, .inl sf)), (bc, .inl (cI, 4, .inl bd)), (it, .inl (cI, 4, .inl g))]) [0, 1, 2, 3, 4, 5] rfl
    have hDc := hD.sub (ws' := [(q, .inr (1, [.ref wd, .ref us, .ref la, .ref nx])), (u, .inr (0, [.int fr, .int fo, .int lw, .int lh, .int lv, .int ac, .int dn, .int fi, .ref bc, .ref st])), (wd, .inl (cI, 2048, .inl mem)), (st, .inl (cI, 12, .inl sf)), (bc, .inl (cI, 4, .inl bd)), (it, .inl (cI, 4, .inl g))]) [0, 1, 2, 3, 4, 5] (by decide) rfl
    have hFc := va_free (wc := [(q, .inr (1, [.ref wd, .ref us, .ref la, .ref nx])), (u, .inr (0, [.int fr, .int fo, .int lw, .int lh, .int lv, .int ac, .int dn, .int fi, .ref bc, .ref st])), (wd, .inl (cI, 2048, .inl mem)), (st, .inl (cI, 12, .inl sf)), (bc, .inl (cI, 4, .inl bd)), (it, .inl (cI, 4, .inl g))]) hD hS hA [0, 1, 2, 3, 4, 5] rfl
    refine va_callv (va_runV (As := [.ref u, .int p0, .int p1, .int p2, .ref it]) (rest := []) ⟨hx, hb, hml, hown, hts⟩ (w_sampleFour l dC dI q wd us la nx u fr fo lw lh lv ac dn fi bc st it cI mem sf bd g tb p0 p1 p2 s.heap.size h0 h1) (cwV 5 hts (tg_V tw_290 tw_292 tw_p5 tw_1 tw_293) rfl rfl rfl (by decide +kernel) ⟨Nat.le_of_ble_eq_true rfl, Nat.le_of_ble_eq_true rfl⟩) ⟨wt_blind, va_recv hK hP (ci := 1) (q0 := 0) rfl rfl, fun U hU hW => ⟨rfl, wt_use hPc (hK.sub [0] rfl) hDc hX hS hFc U hU hW⟩⟩ rfl rfl hl.1 rfl (lv_room (Nat.le_of_ble_eq_true rfl)) dX1_sample_24 ⟨Nat.le_of_ble_eq_true rfl, Nat.le_of_ble_eq_true rfl⟩) hS (fun q _ h => hFc q h) hFc (fun u9 t9 H1 locs ht hvm hw hB hz1 hk1 hS => ?_)
    obtain ⟨hP1, hK1, hD1⟩ := hB
    rw [ht] at hP1
    obtain ⟨hP, hD⟩ := va_join (wr := []) (w1 := [(q, .inr (1, [.ref wd, .ref us, .ref la, .ref nx])), (u, .inr (0, [.int fr, .int fo, .int lw, .int lh, .int lv, .int ac, .int dn, .int fi, .ref bc, .ref st])), (wd, .inl (cI, 2048, .inl mem)), (st, .inl (cI, 12, .inl sf)), (bc, .inl (cI, 4, .inl bd)), (it, .inl (cI, 4, .inl (tu_put4 g (tu_four mem sf bd fr fo lw lh ac dn p0 p1 p2 0) (tu_four mem sf bd fr fo lw lh ac dn p0 p1 p2 1) (tu_four mem sf bd fr fo lw lh ac dn p0 p1 p2 2) (tu_four mem sf bd fr fo lw lh ac dn p0 p1 p2 3))))]) hP hD [0, 1, 2, 3, 4, 5] [] rfl rfl (by decide) (by decide) hk1 hFc hP1 hD1
    have hP := hP.sub (ws' := [(q, .inr (1, [.ref wd, .ref us, .ref la, .ref nx])), (u, .inr (0, [.int fr, .int fo, .int lw, .int lh, .int lv, .int ac, .int dn, .int fi, .ref bc, .ref st])), (wd, .inl (cI, 2048, .inl mem)), (st, .inl (cI, 12, .inl sf)), (bc, .inl (cI, 4, .inl bd)), (it, .inl (cI, 4, .inl (tu_put4 g (tu_four mem sf bd fr fo lw lh ac dn p0 p1 p2 0) (tu_four mem sf bd fr fo lw lh ac dn p0 p1 p2 1) (tu_four mem sf bd fr fo lw lh ac dn p0 p1 p2 2) (tu_four mem sf bd fr fo lw lh ac dn p0 p1 p2 3))))]) [0, 1, 2, 3, 4, 5] rfl
    have hD := hD.sub (ws' := [(q, .inr (1, [.ref wd, .ref us, .ref la, .ref nx])), (u, .inr (0, [.int fr, .int fo, .int lw, .int lh, .int lv, .int ac, .int dn, .int fi, .ref bc, .ref st])), (wd, .inl (cI, 2048, .inl mem)), (st, .inl (cI, 12, .inl sf)), (bc, .inl (cI, 4, .inl bd)), (it, .inl (cI, 4, .inl (tu_put4 g (tu_four mem sf bd fr fo lw lh ac dn p0 p1 p2 0) (tu_four mem sf bd fr fo lw lh ac dn p0 p1 p2 1) (tu_four mem sf bd fr fo lw lh ac dn p0 p1 p2 2) (tu_four mem sf bd fr fo lw lh ac dn p0 p1 p2 3))))]) [0, 1, 2, 3, 4, 5] (by decide) rfl
    clear hPc hDc hFc hP1 hK1 hD1 hk1 hz1
    generalize H1 = H at hP hS ⊢
    refine lv_goto (tgt := 41) hx hb dX1_sample_27 (by decide) ?_
    rw [← tu_smp4_f (Or.inl c_1)] at hP hD
    have hP9 : va_P (dC, dI) vwCl [(q, .inr (1, [.ref wd, .ref us, .ref la, .ref nx])), (u, .inr (0, [.int fr, .int fo, .int lw, .int lh, .int lv, .int ac, .int dn, .int fi, .ref bc, .ref st])), (wd, .inl (cI, 2048, .inl mem)), (st, .inl (cI, 12, .inl sf)), (bc, .inl (cI, 4, .inl bd)), (it, .inl (cI, 4, .inl (tu_smp4 mem sf bd fr fo lw lh ac dn fi p0 p1 p2 g)))] H := hP.sub [0, 1, 2, 3, 4, 5] rfl
    have hD9 : va_D A [(q, .inr (1, [.ref wd, .ref us, .ref la, .ref nx])), (u, .inr (0, [.int fr, .int fo, .int lw, .int lh, .int lv, .int ac, .int dn, .int fi, .ref bc, .ref st])), (wd, .inl (cI, 2048, .inl mem)), (st, .inl (cI, 12, .inl sf)), (bc, .inl (cI, 4, .inl bd)), (it, .inl (cI, 4, .inl (tu_smp4 mem sf bd fr fo lw lh ac dn fi p0 p1 p2 g)))] := hD.sub [0, 1, 2, 3, 4, 5] (by decide) rfl
    have hK9 : va_K (dC, dI) vwCl [(cI, .int)] s := hK.sub [0] rfl
    exact W.vret hx hb hr (fun t ht hW => ⟨⟨(), rfl, trivial, by rw [ht]; exact hP9, va_K.moved hW.alike hK9, hD9⟩, hS.F ht⟩) hS.2.2 dX1_sample_41
  · refine lv_aload_n hx hb dX1_sample_8 rfl (lv_at hl 1 rfl) ?_
    refine va_get (D := (dC, dI)) (ci := 0) (v := .int fi) (C := "TextureUnits$Unit") (T := TX0) (N := 10) hx hb hts (tw_s inX0) hown hK hP 1 rfl rfl 7 (by decide) (hts _ (tw_c tw_46)) (fun _ h9 => h9) rfl dX1_sample_9 ?_
    refine lv_iconst (v := 3) hx hb dX1_sample_12 (by decide) ?_
    refine lv_icmp_ne (tgt := 30) hx hb dX1_sample_13 (by decide) (fun c_2 => ?_) (fun c_2 => ?_)
    · refine lv_aload_n hx hb dX1_sample_30 rfl (lv_at hl 0 rfl) ?_
      refine lv_aload_n hx hb dX1_sample_31 rfl (lv_at hl 1 rfl) ?_
      refine lv_iload_n hx hb dX1_sample_32 rfl (lv_at hl 2 rfl) ?_
      refine lv_iload_n hx hb dX1_sample_33 rfl (lv_at hl 3 rfl) ?_
      refine lv_iload hx hb dX1_sample_34 (lv_at hl 4 rfl) ?_
      refine lv_aload hx hb dX1_sample_36 (lv_at hl 5 rfl) ?_
      have hPc := hP.sub (ws' := [(q, .inr (1, [.ref wd, .ref us, .ref la, .ref nx])), (u, .inr (0, [.int fr, .int fo, .int lw, .int lh, .int lv, .int ac, .int dn, .int fi, .ref bc, .ref st])), (wd, .inl (cI, 2048, .inl mem)), (st, .inl (cI, 12, .inl sf)), (bc, .inl (cI, 4, .inl bd)), (it, .inl (cI, 4, .inl g))]) [0, 1, 2, 3, 4, 5] rfl
      have hDc := hD.sub (ws' := [(q, .inr (1, [.ref wd, .ref us, .ref la, .ref nx])), (u, .inr (0, [.int fr, .int fo, .int lw, .int lh, .int lv, .int ac, .int dn, .int fi, .ref bc, .ref st])), (wd, .inl (cI, 2048, .inl mem)), (st, .inl (cI, 12, .inl sf)), (bc, .inl (cI, 4, .inl bd)), (it, .inl (cI, 4, .inl g))]) [0, 1, 2, 3, 4, 5] (by decide) rfl
      have hFc := va_free (wc := [(q, .inr (1, [.ref wd, .ref us, .ref la, .ref nx])), (u, .inr (0, [.int fr, .int fo, .int lw, .int lh, .int lv, .int ac, .int dn, .int fi, .ref bc, .ref st])), (wd, .inl (cI, 2048, .inl mem)), (st, .inl (cI, 12, .inl sf)), (bc, .inl (cI, 4, .inl bd)), (it, .inl (cI, 4, .inl g))]) hD hS hA [0, 1, 2, 3, 4, 5] rfl
      refine va_callv (va_runV (As := [.ref u, .int p0, .int p1, .int p2, .ref it]) (rest := []) ⟨hx, hb, hml, hown, hts⟩ (w_sampleOne l dC dI q wd us la nx u fr fo lw lh lv ac dn fi bc st it cI mem sf bd g tb p0 p1 p2 s.heap.size h0 h1) (cwV 5 hts (tg_V tw_315 tw_317 tw_p7 tw_1 tw_318) rfl rfl rfl (by decide +kernel) ⟨Nat.le_of_ble_eq_true rfl, Nat.le_of_ble_eq_true rfl⟩) ⟨wt_blind, va_recv hK hP (ci := 1) (q0 := 0) rfl rfl, fun U hU hW => ⟨rfl, wt_use hPc (hK.sub [0] rfl) hDc hX hS hFc U hU hW⟩⟩ rfl rfl hl.1 rfl (lv_room (Nat.le_of_ble_eq_true rfl)) dX1_sample_38 ⟨Nat.le_of_ble_eq_true rfl, Nat.le_of_ble_eq_true rfl⟩) hS (fun q _ h => hFc q h) hFc (fun u9 t9 H1 locs ht hvm hw hB hz1 hk1 hS => ?_)
      obtain ⟨hP1, hK1, hD1⟩ := hB
      rw [ht] at hP1
      obtain ⟨hP, hD⟩ := va_join (wr := []) (w1 := [(q, .inr (1, [.ref wd, .ref us, .ref la, .ref nx])), (u, .inr (0, [.int fr, .int fo, .int lw, .int lh, .int lv, .int ac, .int dn, .int fi, .ref bc, .ref st])), (wd, .inl (cI, 2048, .inl mem)), (st, .inl (cI, 12, .inl sf)), (bc, .inl (cI, 4, .inl bd)), (it, .inl (cI, 4, .inl (tu_put4 g (tu_one mem sf bd fr fo lw lh ac dn p0 p1 p2 0) (tu_one mem sf bd fr fo lw lh ac dn p0 p1 p2 1) (tu_one mem sf bd fr fo lw lh ac dn p0 p1 p2 2) (tu_one mem sf bd fr fo lw lh ac dn p0 p1 p2 3))))]) hP hD [0, 1, 2, 3, 4, 5] [] rfl rfl (by decide) (by decide) hk1 hFc hP1 hD1
      have hP := hP.sub (ws' := [(q, .inr (1, [.ref wd, .ref us, .ref la, .ref nx])), (u, .inr (0, [.int fr, .int fo, .int lw, .int lh, .int lv, .int ac, .int dn, .int fi, .ref bc, .ref st])), (wd, .inl (cI, 2048, .inl mem)), (st, .inl (cI, 12, .inl sf)), (bc, .inl (cI, 4, .inl bd)), (it, .inl (cI, 4, .inl (tu_put4 g (tu_one mem sf bd fr fo lw lh ac dn p0 p1 p2 0) (tu_one mem sf bd fr fo lw lh ac dn p0 p1 p2 1) (tu_one mem sf bd fr fo lw lh ac dn p0 p1 p2 2) (tu_one mem sf bd fr fo lw lh ac dn p0 p1 p2 3))))]) [0, 1, 2, 3, 4, 5] rfl
      have hD := hD.sub (ws' := [(q, .inr (1, [.ref wd, .ref us, .ref la, .ref nx])), (u, .inr (0, [.int fr, .int fo, .int lw, .int lh, .int lv, .int ac, .int dn, .int fi, .ref bc, .ref st])), (wd, .inl (cI, 2048, .inl mem)), (st, .inl (cI, 12, .inl sf)), (bc, .inl (cI, 4, .inl bd)), (it, .inl (cI, 4, .inl (tu_put4 g (tu_one mem sf bd fr fo lw lh ac dn p0 p1 p2 0) (tu_one mem sf bd fr fo lw lh ac dn p0 p1 p2 1) (tu_one mem sf bd fr fo lw lh ac dn p0 p1 p2 2) (tu_one mem sf bd fr fo lw lh ac dn p0 p1 p2 3))))]) [0, 1, 2, 3, 4, 5] (by decide) rfl
      clear hPc hDc hFc hP1 hK1 hD1 hk1 hz1
      generalize H1 = H at hP hS ⊢
      rw [← tu_smp4_o c_1 c_2] at hP hD
      have hP9 : va_P (dC, dI) vwCl [(q, .inr (1, [.ref wd, .ref us, .ref la, .ref nx])), (u, .inr (0, [.int fr, .int fo, .int lw, .int lh, .int lv, .int ac, .int dn, .int fi, .ref bc, .ref st])), (wd, .inl (cI, 2048, .inl mem)), (st, .inl (cI, 12, .inl sf)), (bc, .inl (cI, 4, .inl bd)), (it, .inl (cI, 4, .inl (tu_smp4 mem sf bd fr fo lw lh ac dn fi p0 p1 p2 g)))] H := hP.sub [0, 1, 2, 3, 4, 5] rfl
      have hD9 : va_D A [(q, .inr (1, [.ref wd, .ref us, .ref la, .ref nx])), (u, .inr (0, [.int fr, .int fo, .int lw, .int lh, .int lv, .int ac, .int dn, .int fi, .ref bc, .ref st])), (wd, .inl (cI, 2048, .inl mem)), (st, .inl (cI, 12, .inl sf)), (bc, .inl (cI, 4, .inl bd)), (it, .inl (cI, 4, .inl (tu_smp4 mem sf bd fr fo lw lh ac dn fi p0 p1 p2 g)))] := hD.sub [0, 1, 2, 3, 4, 5] (by decide) rfl
      have hK9 : va_K (dC, dI) vwCl [(cI, .int)] s := hK.sub [0] rfl
      exact W.vret hx hb hr (fun t ht hW => ⟨⟨(), rfl, trivial, by rw [ht]; exact hP9, va_K.moved hW.alike hK9, hD9⟩, hS.F ht⟩) hS.2.2 dX1_sample_41
    · refine lv_aload_n hx hb dX1_sample_16 rfl (lv_at hl 0 rfl) ?_
      refine lv_aload_n hx hb dX1_sample_17 rfl (lv_at hl 1 rfl) ?_
      refine lv_iload_n hx hb dX1_sample_18 rfl (lv_at hl 2 rfl) ?_
      refine lv_iload_n hx hb dX1_sample_19 rfl (lv_at hl 3 rfl) ?_
      refine lv_iload hx hb dX1_sample_20 (lv_at hl 4 rfl) ?_
      refine lv_aload hx hb dX1_sample_22 (lv_at hl 5 rfl) ?_
      have hPc := hP.sub (ws' := [(q, .inr (1, [.ref wd, .ref us, .ref la, .ref nx])), (u, .inr (0, [.int fr, .int fo, .int lw, .int lh, .int lv, .int ac, .int dn, .int fi, .ref bc, .ref st])), (wd, .inl (cI, 2048, .inl mem)), (st, .inl (cI, 12, .inl sf)), (bc, .inl (cI, 4, .inl bd)), (it, .inl (cI, 4, .inl g))]) [0, 1, 2, 3, 4, 5] rfl
      have hDc := hD.sub (ws' := [(q, .inr (1, [.ref wd, .ref us, .ref la, .ref nx])), (u, .inr (0, [.int fr, .int fo, .int lw, .int lh, .int lv, .int ac, .int dn, .int fi, .ref bc, .ref st])), (wd, .inl (cI, 2048, .inl mem)), (st, .inl (cI, 12, .inl sf)), (bc, .inl (cI, 4, .inl bd)), (it, .inl (cI, 4, .inl g))]) [0, 1, 2, 3, 4, 5] (by decide) rfl
      have hFc := va_free (wc := [(q, .inr (1, [.ref wd, .ref us, .ref la, .ref nx])), (u, .inr (0, [.int fr, .int fo, .int lw, .int lh, .int lv, .int ac, .int dn, .int fi, .ref bc, .ref st])), (wd, .inl (cI, 2048, .inl mem)), (st, .inl (cI, 12, .inl sf)), (bc, .inl (cI, 4, .inl bd)), (it, .inl (cI, 4, .inl g))]) hD hS hA [0, 1, 2, 3, 4, 5] rfl
      refine va_callv (va_runV (As := [.ref u, .int p0, .int p1, .int p2, .ref it]) (rest := []) ⟨hx, hb, hml, hown, hts⟩ (w_sampleFour l dC dI q wd us la nx u fr fo lw lh lv ac dn fi bc st it cI mem sf bd g tb p0 p1 p2 s.heap.size h0 h1) (cwV 5 hts (tg_V tw_290 tw_292 tw_p5 tw_1 tw_293) rfl rfl rfl (by decide +kernel) ⟨Nat.le_of_ble_eq_true rfl, Nat.le_of_ble_eq_true rfl⟩) ⟨wt_blind, va_recv hK hP (ci := 1) (q0 := 0) rfl rfl, fun U hU hW => ⟨rfl, wt_use hPc (hK.sub [0] rfl) hDc hX hS hFc U hU hW⟩⟩ rfl rfl hl.1 rfl (lv_room (Nat.le_of_ble_eq_true rfl)) dX1_sample_24 ⟨Nat.le_of_ble_eq_true rfl, Nat.le_of_ble_eq_true rfl⟩) hS (fun q _ h => hFc q h) hFc (fun u9 t9 H1 locs ht hvm hw hB hz1 hk1 hS => ?_)
      obtain ⟨hP1, hK1, hD1⟩ := hB
      rw [ht] at hP1
      obtain ⟨hP, hD⟩ := va_join (wr := []) (w1 := [(q, .inr (1, [.ref wd, .ref us, .ref la, .ref nx])), (u, .inr (0, [.int fr, .int fo, .int lw, .int lh, .int lv, .int ac, .int dn, .int fi, .ref bc, .ref st])), (wd, .inl (cI, 2048, .inl mem)), (st, .inl (cI, 12, .inl sf)), (bc, .inl (cI, 4, .inl bd)), (it, .inl (cI, 4, .inl (tu_put4 g (tu_four mem sf bd fr fo lw lh ac dn p0 p1 p2 0) (tu_four mem sf bd fr fo lw lh ac dn p0 p1 p2 1) (tu_four mem sf bd fr fo lw lh ac dn p0 p1 p2 2) (tu_four mem sf bd fr fo lw lh ac dn p0 p1 p2 3))))]) hP hD [0, 1, 2, 3, 4, 5] [] rfl rfl (by decide) (by decide) hk1 hFc hP1 hD1
      have hP := hP.sub (ws' := [(q, .inr (1, [.ref wd, .ref us, .ref la, .ref nx])), (u, .inr (0, [.int fr, .int fo, .int lw, .int lh, .int lv, .int ac, .int dn, .int fi, .ref bc, .ref st])), (wd, .inl (cI, 2048, .inl mem)), (st, .inl (cI, 12, .inl sf)), (bc, .inl (cI, 4, .inl bd)), (it, .inl (cI, 4, .inl (tu_put4 g (tu_four mem sf bd fr fo lw lh ac dn p0 p1 p2 0) (tu_four mem sf bd fr fo lw lh ac dn p0 p1 p2 1) (tu_four mem sf bd fr fo lw lh ac dn p0 p1 p2 2) (tu_four mem sf bd fr fo lw lh ac dn p0 p1 p2 3))))]) [0, 1, 2, 3, 4, 5] rfl
      have hD := hD.sub (ws' := [(q, .inr (1, [.ref wd, .ref us, .ref la, .ref nx])), (u, .inr (0, [.int fr, .int fo, .int lw, .int lh, .int lv, .int ac, .int dn, .int fi, .ref bc, .ref st])), (wd, .inl (cI, 2048, .inl mem)), (st, .inl (cI, 12, .inl sf)), (bc, .inl (cI, 4, .inl bd)), (it, .inl (cI, 4, .inl (tu_put4 g (tu_four mem sf bd fr fo lw lh ac dn p0 p1 p2 0) (tu_four mem sf bd fr fo lw lh ac dn p0 p1 p2 1) (tu_four mem sf bd fr fo lw lh ac dn p0 p1 p2 2) (tu_four mem sf bd fr fo lw lh ac dn p0 p1 p2 3))))]) [0, 1, 2, 3, 4, 5] (by decide) rfl
      clear hPc hDc hFc hP1 hK1 hD1 hk1 hz1
      generalize H1 = H at hP hS ⊢
      refine lv_goto (tgt := 41) hx hb dX1_sample_27 (by decide) ?_
      rw [← tu_smp4_f (Or.inr c_2)] at hP hD
      have hP9 : va_P (dC, dI) vwCl [(q, .inr (1, [.ref wd, .ref us, .ref la, .ref nx])), (u, .inr (0, [.int fr, .int fo, .int lw, .int lh, .int lv, .int ac, .int dn, .int fi, .ref bc, .ref st])), (wd, .inl (cI, 2048, .inl mem)), (st, .inl (cI, 12, .inl sf)), (bc, .inl (cI, 4, .inl bd)), (it, .inl (cI, 4, .inl (tu_smp4 mem sf bd fr fo lw lh ac dn fi p0 p1 p2 g)))] H := hP.sub [0, 1, 2, 3, 4, 5] rfl
      have hD9 : va_D A [(q, .inr (1, [.ref wd, .ref us, .ref la, .ref nx])), (u, .inr (0, [.int fr, .int fo, .int lw, .int lh, .int lv, .int ac, .int dn, .int fi, .ref bc, .ref st])), (wd, .inl (cI, 2048, .inl mem)), (st, .inl (cI, 12, .inl sf)), (bc, .inl (cI, 4, .inl bd)), (it, .inl (cI, 4, .inl (tu_smp4 mem sf bd fr fo lw lh ac dn fi p0 p1 p2 g)))] := hD.sub [0, 1, 2, 3, 4, 5] (by decide) rfl
      have hK9 : va_K (dC, dI) vwCl [(cI, .int)] s := hK.sub [0] rfl
      exact W.vret hx hb hr (fun t ht hW => ⟨⟨(), rfl, trivial, by rw [ht]; exact hP9, va_K.moved hW.alike hK9, hD9⟩, hS.F ht⟩) hS.2.2 dX1_sample_41
end
section
theorem tw_17 : (Cond.instanceMethod ⟨"java/lang/Object", "<init>", "()V"⟩) ∈ TW := tw_t1 17 (by decide +kernel) (by decide +kernel)
theorem tw_18 : (Cond.code ⟨"java/lang/Object", "<init>", "()V"⟩ object_method_1_code 1 .none) ∈ TW := tw_t1 18 (by decide +kernel) (by decide +kernel)
theorem tw_25 : (Cond.methodLink "TextureUnits$Unit" 3 ⟨"java/lang/Object", "<init>", "()V"⟩) ∈ TW := tw_t1 25 (by decide +kernel) (by decide +kernel)
theorem tw_26 : (Cond.methodLink "TextureUnits$Unit" 18 ⟨"TextureUnits$Unit", "layOut", "(III)V"⟩) ∈ TW := tw_t1 26 (by decide +kernel) (by decide +kernel)
theorem tw_27 : (Cond.instanceMethod ⟨"TextureUnits$Unit", "layOut", "(III)V"⟩) ∈ TW := tw_t1 27 (by decide +kernel) (by decide +kernel)
theorem tw_28 : (Cond.selects "TextureUnits$Unit" ⟨"TextureUnits$Unit", "layOut", "(III)V"⟩ ⟨"TextureUnits$Unit", "layOut", "(III)V"⟩) ∈ TW := tw_t1 28 (by decide +kernel) (by decide +kernel)
theorem tw_29 : (Cond.code ⟨"TextureUnits$Unit", "layOut", "(III)V"⟩ prog_2_method_2_code 5 .none) ∈ TW := tw_t1 29 (by decide +kernel) (by decide +kernel)
theorem tw_34 : (Cond.methodLink "TextureUnits$Unit" 36 ⟨"TextureUnits$Unit", "height", "(I)I"⟩) ∈ TW := tw_t1 34 (by decide +kernel) (by decide +kernel)
theorem tw_42 : (Cond.fieldLink "TextureUnits$Unit" 29 "TextureUnits$Unit" "levels" "I") ∈ TW := tw_t1 42 (by decide +kernel) (by decide +kernel)
theorem tw_47 : (Cond.fieldLink "TextureUnits$Unit" 9 "TextureUnits$Unit" "borderColour" "[I") ∈ TW := tw_t1 47 (by decide +kernel) (by decide +kernel)
theorem tw_72 : (Cond.arrayClass .int) ∈ TW := tw_t1 72 (by decide +kernel) (by decide +kernel)
set_option maxHeartbeats 4000000 in
set_option maxRecDepth 100000 in
theorem w_layOut (l : Launch) (dC : Nat → ClassId) (dI : Nat → Nat → Nat) (u : Nat) (fr fo lw lh lv ac dn fi : Int32) (bc st : Nat) (cI : ClassId) (sf : Nat → Int32) (p0 p1 p2 : Int32) (sz : Nat) : Met l yX0_layOut wsX0_layOut ({ frames := 1, cells := 0, slots := 0, locals := 21 }) (va_Pc [.ref u, .int p0, .int p1, .int p2] (wr_P (dC, dI) vwCl [(u, .inr (0, [.int fr, .int fo, .int lw, .int lh, .int lv, .int ac, .int dn, .int fi, .ref bc, .ref st])), (st, .inl (cI, 12, .inl sf))] [(cI, .int)] sz)) (va_Qv (fun _ : Unit => True) (wr_B (dC, dI) vwCl [(u, .inr (0, [.int fr, .int fo, .int p0, .int p1, .int p2, .int ac, .int dn, .int fi, .ref bc, .ref st])), (st, .inl (cI, 12, .inl (tu_lay p0 p1 sf 11)))] [(cI, .int)] (va_A [(u, .inr (0, [.int fr, .int fo, .int lw, .int lh, .int lv, .int ac, .int dn, .int fi, .ref bc, .ref st])), (st, .inl (cI, 12, .inl sf))] sz)) (va_A [(u, .inr (0, [.int fr, .int fo, .int lw, .int lh, .int lv, .int ac, .int dn, .int fi, .ref bc, .ref st])), (st, .inl (cI, 12, .inl sf))] sz)) 0 0 (va_A [(u, .inr (0, [.int fr, .int fo, .int lw, .int lh, .int lv, .int ac, .int dn, .int fi, .ref bc, .ref st])), (st, .inl (cI, 12, .inl sf))] sz) := by
  refine Met.ofW (cc := cX0_layOut) (maxL := 5) (ret := none) (by decide) rfl ?_
  intro p e s m args below meth c s₁ B hml hv
  obtain ⟨rfl, hsz, hP, hK, hD0⟩ := hv
  have hx := B.exec
  have hb := B.bytes
  have hr := B.returns
  have hts := atoms_spec (ws := wsX0_layOut) B.pre
  have hown : s.vm.findClass "TextureUnits$Unit" = some m.cls := findClass_of_methodNamed B.named
  have hlocks := B.notSynchronized
  subst hsz
  have hD := hD0.self (sz := s.heap.size)
  generalize hAe : va_A [(u, .inr (0, [.int fr, .int fo, .int lw, .int lh, .int lv, .int ac, .int dn, .int fi, .ref bc, .ref st])), (st, .inl (cI, 12, .inl sf))] s.heap.size = A at hD ⊢
  have hA : ∀ q : Nat, s.heap.size ≤ q → A q := fun q h => by rw [← hAe]; exact Or.inr h
  have hS : va_S A s.heap s.heap [] := va_S.rf
  have hP : va_P (dC, dI) vwCl [(u, .inr (0, [.int fr, .int fo, .int lw, .int lh, .int lv, .int ac, .int dn, .int fi, .ref bc, .ref st])), (st, .inl (cI, 12, .inl sf))] s.heap := hP
  have hl := lv_entry ([.ref u, .int p0, .int p1, .int p2]) (n := 5) (Nat.le_of_ble_eq_true rfl)
  rw [lg_entry_eq]
  generalize (lg_sl ([.ref u, .int p0, .int p1, .int p2]) ++ List.replicate (5 - (lg_sl ([.ref u, .int p0, .int p1, .int p2])).length) Slot.unset).toArray = ls at hl ⊢
  have hl : lv_has ls 5 [(0, .ref u), (1, .int p0), (2, .int p1), (3, .int p2)] := hl
  refine lv_aload_n hx hb dX0_layOut_0 rfl (lv_at hl 0 rfl) ?_
  refine lv_iload_n hx hb dX0_layOut_1 rfl (lv_at hl 1 rfl) ?_
  refine va_put (D := (dC, dI)) (ci := 0) (v := .int p0) (ty := .int) (C := "TextureUnits$Unit") (T := TX0) (N := 10) hx hb hts (tw_s inX0) tyX0 tyX0_ok nmX0 hown hK hP hD hS 0 rfl rfl 2 (by decide) (hts _ (tw_c tw_40)) (fun _ h9 => h9) rfl (by decide +kernel) rfl rfl (Nat.le_of_ble_eq_true rfl) dX0_layOut_2 (fun H locs hP hD hS => ?_)
  have hP : va_P (dC, dI) vwCl [(u, .inr (0, [.int fr, .int fo, .int p0, .int lh, .int lv, .int ac, .int dn, .int fi, .ref bc, .ref st])), (st, .inl (cI, 12, .inl sf))] H := hP
  have hD : va_D A [(u, .inr (0, [.int fr, .int fo, .int p0, .int lh, .int lv, .int ac, .int dn, .int fi, .ref bc, .ref st])), (st, .inl (cI, 12, .inl sf))] := hD
  refine lv_aload_n hx hb dX0_layOut_5 rfl (lv_at hl 0 rfl) ?_
  refine lv_iload_n hx hb dX0_layOut_6 rfl (lv_at hl 2 rfl) ?_
  refine va_put (D := (dC, dI)) (ci := 0) (v := .int p1) (ty := .int) (C := "TextureUnits$Unit") (T := TX0) (N := 10) hx hb hts (tw_s inX0) tyX0 tyX0_ok nmX0 hown hK hP hD hS 0 rfl rfl 3 (by decide) (hts _ (tw_c tw_41)) (fun _ h9 => h9) rfl (by decide +kernel) rfl rfl (Nat.le_of_ble_eq_true rfl) dX0_layOut_7 (fun H locs hP hD hS => ?_)
  have hP : va_P (dC, dI) vwCl [(u, .inr (0, [.int fr, .int fo, .int p0, .int p1, .int lv, .int ac, .int dn, .int fi, .ref bc, .ref st])), (st, .inl (cI, 12, .inl sf))] H := hP
  have hD : va_D A [(u, .inr (0, [.int fr, .int fo, .int p0, .int p1, .int lv, .int ac, .int dn, .int fi, .ref bc, .ref st])), (st, .inl (cI, 12, .inl sf))] := hD
  refine lv_aload_n hx hb dX0_layOut_10 rfl (lv_at hl 0 rfl) ?_
  refine lv_iload_n hx hb dX0_layOut_11 rfl (lv_at hl 3 rfl) ?_
  refine va_put (D := (dC, dI)) (ci := 0) (v := .int p2) (ty := .int) (C := "TextureUnits$Unit") (T := TX0) (N := 10) hx hb hts (tw_s inX0) tyX0 tyX0_ok nmX0 hown hK hP hD hS 0 rfl rfl 4 (by decide) (hts _ (tw_c tw_42)) (fun _ h9 => h9) rfl (by decide +kernel) rfl rfl (Nat.le_of_ble_eq_true rfl) dX0_layOut_12 (fun H locs hP hD hS => ?_)
  have hP : va_P (dC, dI) vwCl [(u, .inr (0, [.int fr, .int fo, .int p0, .int p1, .int p2, .int ac, .int dn, .int fi, .ref bc, .ref st])), (st, .inl (cI, 12, .inl sf))] H := hP
  have hD : va_D A [(u, .inr (0, [.int fr, .int fo, .int p0, .int p1, .int p2, .int ac, .int dn, .int fi, .ref bc, .ref st])), (st, .inl (cI, 12, .inl sf))] := hD
  refine lv_iconst (v := 0) hx hb dX0_layOut_15 (by decide) ?_
  refine lv_istore (lv' := [(4, .int 0), (0, .ref u), (1, .int p0), (2, .int p1), (3, .int p2)]) hx hb dX0_layOut_16 hl (by decide) rfl (fun ls hl => ?_)
  refine tu_loop (W9 := fun H locs ls => W p l e _ s m _ below meth c H locs 0 0 _ (F0 m 18 ls [])) (I := fun k H locs ls => va_P (dC, dI) vwCl [(u, .inr (0, [.int fr, .int fo, .int p0, .int p1, .int p2, .int ac, .int dn, .int fi, .ref bc, .ref st])), (st, .inl (cI, 12, .inl (tu_lay p0 p1 sf k)))] H ∧ va_D A [(u, .inr (0, [.int fr, .int fo, .int p0, .int p1, .int p2, .int ac, .int dn, .int fi, .ref bc, .ref st])), (st, .inl (cI, 12, .inl (tu_lay p0 p1 sf k)))] ∧ va_S A s.heap H locs ∧ lv_has ls 5 [(0, .ref u), (1, .int p0), (2, .int p1), (3, .int p2), (4, .int (nI k))]) 11 ?_ ?_ H locs ls ⟨hP, hD, hS, lv_sub hl [1, 2, 3, 4, 0] rfl⟩
  · intro H locs ls ⟨hP, hD, hS, hl⟩
    refine lv_iload hx hb dX0_layOut_18 (lv_at hl 4 rfl) ?_
    refine lv_bipush (v := 11) hx hb dX0_layOut_20 (by decide) ?_
    refine lv_icmp_ge (tgt := 61) hx hb dX0_layOut_22 (by decide) (fun c_1 => ?_) (fun c_1 => absurd (by decide) c_1)
    have hP9 : va_P (dC, dI) vwCl [(u, .inr (0, [.int fr, .int fo, .int p0, .int p1, .int p2, .int ac, .int dn, .int fi, .ref bc, .ref st])), (st, .inl (cI, 12, .inl (tu_lay p0 p1 sf 11)))] H := hP.sub [0, 1] rfl
    have hD9 : va_D A [(u, .inr (0, [.int fr, .int fo, .int p0, .int p1, .int p2, .int ac, .int dn, .int fi, .ref bc, .ref st])), (st, .inl (cI, 12, .inl (tu_lay p0 p1 sf 11)))] := hD.sub [0, 1] (by decide) rfl
    have hK9 : va_K (dC, dI) vwCl [(cI, .int)] s := hK.sub [0] rfl
    exact W.vret hx hb hr (fun t ht hW => ⟨⟨(), rfl, trivial, by rw [ht]; exact hP9, va_K.moved hW.alike hK9, hD9⟩, hS.F ht⟩) hS.2.2 dX0_layOut_61
  · intro k H locs ls hk ⟨hP, hD, hS, hl⟩ ih
    refine lv_iload hx hb dX0_layOut_18 (lv_at hl 4 rfl) ?_
    refine lv_bipush (v := 11) hx hb dX0_layOut_20 (by decide) ?_
    refine lv_icmp_ge (tgt := 61) hx hb dX0_layOut_22 (by decide) (fun c_1 => absurd c_1 (nI_ge (b := 11) hk (by decide))) (fun c_1 => ?_)
    refine lv_aload_n hx hb dX0_layOut_25 rfl (lv_at hl 0 rfl) ?_
    refine va_get (D := (dC, dI)) (ci := 0) (v := .ref st) (C := "TextureUnits$Unit") (T := TX0) (N := 10) hx hb hts (tw_s inX0) hown hK hP 0 rfl rfl 9 (by decide) (hts _ (tw_c tw_49)) (fun _ h9 => h9) rfl dX0_layOut_26 ?_
    refine lv_iload hx hb dX0_layOut_29 (lv_at hl 4 rfl) ?_
    refine lv_iconst (v := 1) hx hb dX0_layOut_31 (by decide) ?_
    refine lv_iadd hx hb dX0_layOut_32 ?_
    refine lv_aload_n hx hb dX0_layOut_33 rfl (lv_at hl 0 rfl) ?_
    refine va_get (D := (dC, dI)) (ci := 0) (v := .ref st) (C := "TextureUnits$Unit") (T := TX0) (N := 10) hx hb hts (tw_s inX0) hown hK hP 0 rfl rfl 9 (by decide) (hts _ (tw_c tw_49)) (fun _ h9 => h9) rfl dX0_layOut_34 ?_
    refine lv_iload hx hb dX0_layOut_37 (lv_at hl 4 rfl) ?_
    refine va_iald hx hb hK hP 1 0 rfl rfl (vp_in_nI (by omega) (by decide)) dX0_layOut_39 ?_
    refine lv_aload_n hx hb dX0_layOut_40 rfl (lv_at hl 0 rfl) ?_
    refine lv_iload hx hb dX0_layOut_41 (lv_at hl 4 rfl) ?_
    refine rd_call (W.runV (As := [.int (nI k)]) (rest := [.int ((tu_lay p0 p1 sf k) ((nI k).toNatClampNeg)), .int ((nI k) + (1 : Int32)), .ref st]) ⟨hx, hb, hml, hown, hts⟩ (r_width l dC dI u fr fo p0 p1 p2 ac dn fi bc st (nI k)) (cwV 1 hts (tg_V tw_30 tw_31 tw_32 tw_2 tw_33) rfl rfl rfl (by decide +kernel) ⟨Nat.le_of_ble_eq_true rfl, Nat.le_of_ble_eq_true rfl⟩) ⟨rd_blind, va_recv hK hP (ci := 0) (q0 := 0) rfl rfl, fun U hU hW => ⟨rfl, rd_use (hP.sub [0] rfl) (hK.sub [] rfl) U hU hW⟩⟩ rfl rfl hl.1 rfl (lv_room (Nat.le_of_ble_eq_true rfl)) dX0_layOut_43 ⟨Nat.le_of_ble_eq_true rfl, Nat.le_of_ble_eq_true rfl⟩) ?_
    refine lv_aload_n hx hb dX0_layOut_46 rfl (lv_at hl 0 rfl) ?_
    refine lv_iload hx hb dX0_layOut_47 (lv_at hl 4 rfl) ?_
    refine rd_call (W.runV (As := [.int (nI k)]) (rest := [.int (tu_len p0 (nI k)), .int ((tu_lay p0 p1 sf k) ((nI k).toNatClampNeg)), .int ((nI k) + (1 : Int32)), .ref st]) ⟨hx, hb, hml, hown, hts⟩ (r_height l dC dI u fr fo p0 p1 p2 ac dn fi bc st (nI k)) (cwV 1 hts (tg_V tw_34 tw_35 tw_36 tw_2 tw_37) rfl rfl rfl (by decide +kernel) ⟨Nat.le_of_ble_eq_true rfl, Nat.le_of_ble_eq_true rfl⟩) ⟨rd_blind, va_recv hK hP (ci := 0) (q0 := 0) rfl rfl, fun U hU hW => ⟨rfl, rd_use (hP.sub [0] rfl) (hK.sub [] rfl) U hU hW⟩⟩ rfl rfl hl.1 rfl (lv_room (Nat.le_of_ble_eq_true rfl)) dX0_layOut_49 ⟨Nat.le_of_ble_eq_true rfl, Nat.le_of_ble_eq_true rfl⟩) ?_
    refine lv_imul hx hb dX0_layOut_52 ?_
    refine lv_iadd hx hb dX0_layOut_53 ?_
    refine va_iast hx hb hK hP hD hS 1 0 rfl rfl (by rw [nI_1]; exact vp_in_nI (by omega) (by decide)) dX0_layOut_54 (fun H locs hP hD hS => ?_)
    have hP : va_P (dC, dI) vwCl [(u, .inr (0, [.int fr, .int fo, .int p0, .int p1, .int p2, .int ac, .int dn, .int fi, .ref bc, .ref st])), (st, .inl (cI, 12, .inl (upd (tu_lay p0 p1 sf k) (((nI k) + (1 : Int32)).toNatClampNeg) (((tu_lay p0 p1 sf k) ((nI k).toNatClampNeg)) + ((tu_len p0 (nI k)) * (tu_len p1 (nI k)))))))] H := hP
    have hD : va_D A [(u, .inr (0, [.int fr, .int fo, .int p0, .int p1, .int p2, .int ac, .int dn, .int fi, .ref bc, .ref st])), (st, .inl (cI, 12, .inl (upd (tu_lay p0 p1 sf k) (((nI k) + (1 : Int32)).toNatClampNeg) (((tu_lay p0 p1 sf k) ((nI k).toNatClampNeg)) + ((tu_len p0 (nI k)) * (tu_len p1 (nI k)))))))] := hD
    rw [tu_lay_s p0 p1 sf hk] at hP hD
    refine lv_iinc (v := (nI (k + 1))) (lv' := [(4, .int (nI (k + 1))), (0, .ref u), (1, .int p0), (2, .int p1), (3, .int p2)]) hx hb dX0_layOut_55 hl (k := 4) rfl (nI_1 k) (by decide) rfl (fun ls hl => ?_)
    refine lv_goto (tgt := 18) hx hb dX0_layOut_58 (by decide) ?_
    exact ih _ _ _ ⟨hP, hD, hS, lv_sub hl [1, 2, 3, 4, 0] rfl⟩
set_option maxHeartbeats 4000000 in
set_option maxRecDepth 100000 in
theorem w_Unit (l : Launch) (dC : Nat → ClassId) (dI : Nat → Nat → Nat) (u : Nat) (cI : ClassId) (sz : Nat) : Met l yX0_init wsX0_init ({ frames := 2, cells := 2, slots := 16, locals := 45 }) (va_Pc [.ref u] (wr_P (dC, dI) vwCl [(u, .inr (0, [.int 0, .int 0, .int 0, .int 0, .int 0, .int 0, .int 0, .int 0, .null, .null]))] [(cI, .int)] sz)) (va_Qv (fun _ : Unit => True) (fun (_ : Unit) t9 => ∃ (bc st : Nat), wr_B (dC, dI) vwCl [(u, .inr (0, [.int 0, .int 0, .int 0, .int 0, .int 1, .int 0, .int 0, .int 0, .ref bc, .ref st])), (bc, .inl (cI, 4, .inl (fun _ => 0))), (st, .inl (cI, 12, .inl (tu_lay 0 0 (fun _ => 0) 11)))] [(cI, .int)] (va_A [(u, .inr (0, [.int 0, .int 0, .int 0, .int 0, .int 0, .int 0, .int 0, .int 0, .null, .null]))] sz) () t9) (va_A [(u, .inr (0, [.int 0, .int 0, .int 0, .int 0, .int 0, .int 0, .int 0, .int 0, .null, .null]))] sz)) 2 16 (va_A [(u, .inr (0, [.int 0, .int 0, .int 0, .int 0, .int 0, .int 0, .int 0, .int 0, .null, .null]))] sz) := by
  refine Met.ofW (cc := cX0_init) (maxL := 1) (ret := none) (by decide) rfl ?_
  intro p e s m args below meth c s₁ B hml hv
  obtain ⟨rfl, hsz, hP, hK, hD0⟩ := hv
  have hx := B.exec
  have hb := B.bytes
  have hr := B.returns
  have hts := atoms_spec (ws := wsX0_init) B.pre
  have hown : s.vm.findClass "TextureUnits$Unit" = some m.cls := findClass_of_methodNamed B.named
  have hlocks := B.notSynchronized
  have hin : meth.name = "<init>" := (name_of_methodNamed B.named B.method).1
  subst hsz
  have hD := hD0.self (sz := s.heap.size)
  generalize hAe : va_A [(u, .inr (0, [.int 0, .int 0, .int 0, .int 0, .int 0, .int 0, .int 0, .int 0, .null, .null]))] s.heap.size = A at hD ⊢
  have hA : ∀ q : Nat, s.heap.size ≤ q → A q := fun q h => by rw [← hAe]; exact Or.inr h
  have hS : va_S A s.heap s.heap [] := va_S.rf
  have hP : va_P (dC, dI) vwCl [(u, .inr (0, [.int 0, .int 0, .int 0, .int 0, .int 0, .int 0, .int 0, .int 0, .null, .null]))] s.heap := hP
  have hl := lv_entry ([.ref u]) (n := 1) (Nat.le_of_ble_eq_true rfl)
  rw [lg_entry_eq]
  generalize (lg_sl ([.ref u]) ++ List.replicate (1 - (lg_sl ([.ref u])).length) Slot.unset).toArray = ls at hl ⊢
  have hl : lv_has ls 1 [(0, .ref u)] := hl
  refine lv_aload_n hx hb dX0_init_0 rfl (lv_at hl 0 rfl) ?_
  refine W.objInit hx hb hown (hts _ (tw_c tw_25)) (hts _ (tw_c tw_17)) (hts _ (tw_c tw_18)) rfl (by rw [hml]; exact hl.1) rfl dX0_init_1 (Nat.le_of_ble_eq_true rfl) (Nat.le_of_ble_eq_true rfl) ?_
  refine W.eq (g2 := F0 m 4 ls []) rfl ?_
  refine lv_aload_n hx hb dX0_init_4 rfl (lv_at hl 0 rfl) ?_
  refine lv_iconst (v := 4) hx hb dX0_init_5 (by decide) ?_
  refine va_newa (atype := .int) (ty := .int) (a0 := (4, .inl (fun _ => 0))) (N' := 4) hx hb (hts _ (tw_c tw_72)) rfl hK hP hD hS hA (fun _ => rfl) (by decide) (by decide) (by decide) (Nat.le_of_ble_eq_true rfl) (Nat.le_of_ble_eq_true rfl) dX0_init_6 (fun q_1 cA_2 H hK hP hD hS => ?_)
  have e9 : cI = cA_2 := tu_cA hK 0 1 rfl rfl
  subst e9
  have hK := hK.sub (tys' := [(cI, .int)]) [0] rfl
  refine W.widen (k := 1) (n := 4) (Nat.le_of_ble_eq_true rfl) (Nat.le_of_ble_eq_true rfl) ?_
  have hP : va_P (dC, dI) vwCl [(u, .inr (0, [.int 0, .int 0, .int 0, .int 0, .int 0, .int 0, .int 0, .int 0, .null, .null])), (q_1, .inl (cI, 4, .inl (fun _ => 0)))] H := hP
  have hD : va_D A [(u, .inr (0, [.int 0, .int 0, .int 0, .int 0, .int 0, .int 0, .int 0, .int 0, .null, .null])), (q_1, .inl (cI, 4, .inl (fun _ => 0)))] := hD
  refine va_putF (D := (dC, dI)) (ci := 0) (v := .ref q_1) (ty := (.array .int)) (C := "TextureUnits$Unit") (T := TX0) (N := 10) hx hb hts (tw_s inX0) tyX0 tyX0_ok nmX0 hown hK hP hD hS 0 rfl rfl 8 (by decide) (hts _ (tw_c tw_47)) (fun _ h9 => h9) rfl hin rfl (by decide +kernel) rfl rfl (Nat.le_of_ble_eq_true rfl) dX0_init_8 (fun H locs hP hD hS => ?_)
  have hP : va_P (dC, dI) vwCl [(u, .inr (0, [.int 0, .int 0, .int 0, .int 0, .int 0, .int 0, .int 0, .int 0, .ref q_1, .null])), (q_1, .inl (cI, 4, .inl (fun _ => 0)))] H := hP
  have hD : va_D A [(u, .inr (0, [.int 0, .int 0, .int 0, .int 0, .int 0, .int 0, .int 0, .int 0, .ref q_1, .null])), (q_1, .inl (cI, 4, .inl (fun _ => 0)))] := hD
  refine lv_aload_n hx hb dX0_init_11 rfl (lv_at hl 0 rfl) ?_
  refine lv_bipush (v := 12) hx hb dX0_init_12 (by decide) ?_
  refine va_newa (atype := .int) (ty := .int) (a0 := (12, .inl (fun _ => 0))) (N' := 12) hx hb (hts _ (tw_c tw_72)) rfl hK hP hD hS hA (fun _ => rfl) (by decide) (by decide) (by decide) (Nat.le_of_ble_eq_true rfl) (Nat.le_of_ble_eq_true rfl) dX0_init_14 (fun q_3 cA_4 H hK hP hD hS => ?_)
  have e9 : cI = cA_4 := tu_cA hK 0 1 rfl rfl
  subst e9
  have hK := hK.sub (tys' := [(cI, .int)]) [0] rfl
  refine W.widen (k := 2) (n := 16) (Nat.le_of_ble_eq_true rfl) (Nat.le_of_ble_eq_true rfl) ?_
  have hP : va_P (dC, dI) vwCl [(u, .inr (0, [.int 0, .int 0, .int 0, .int 0, .int 0, .int 0, .int 0, .int 0, .ref q_1, .null])), (q_1, .inl (cI, 4, .inl (fun _ => 0))), (q_3, .inl (cI, 12, .inl (fun _ => 0)))] H := hP
  have hD : va_D A [(u, .inr (0, [.int 0, .int 0, .int 0, .int 0, .int 0, .int 0, .int 0, .int 0, .ref q_1, .null])), (q_1, .inl (cI, 4, .inl (fun _ => 0))), (q_3, .inl (cI, 12, .inl (fun _ => 0)))] := hD
  refine va_putF (D := (dC, dI)) (ci := 0) (v := .ref q_3) (ty := (.array .int)) (C := "TextureUnits$Unit") (T := TX0) (N := 10) hx hb hts (tw_s inX0) tyX0 tyX0_ok nmX0 hown hK hP hD hS 0 rfl rfl 9 (by decide) (hts _ (tw_c tw_49)) (fun _ h9 => h9) rfl hin rfl (by decide +kernel) rfl rfl (Nat.le_of_ble_eq_true rfl) dX0_init_16 (fun H locs hP hD hS => ?_)
  have hP : va_P (dC, dI) vwCl [(u, .inr (0, [.int 0, .int 0, .int 0, .int 0, .int 0, .int 0, .int 0, .int 0, .ref q_1, .ref q_3])), (q_1, .inl (cI, 4, .inl (fun _ => 0))), (q_3, .inl (cI, 12, .inl (fun _ => 0)))] H := hP
  have hD : va_D A [(u, .inr (0, [.int 0, .int 0, .int 0, .int 0, .int 0, .int 0, .int 0, .int 0, .ref q_1, .ref q_3])), (q_1, .inl (cI, 4, .inl (fun _ => 0))), (q_3, .inl (cI, 12, .inl (fun _ => 0)))] := hD
  refine lv_aload_n hx hb dX0_init_19 rfl (lv_at hl 0 rfl) ?_
  refine lv_iconst (v := 0) hx hb dX0_init_20 (by decide) ?_
  refine lv_iconst (v := 0) hx hb dX0_init_21 (by decide) ?_
  refine lv_iconst (v := 1) hx hb dX0_init_22 (by decide) ?_
  have hPc := hP.sub (ws' := [(u, .inr (0, [.int 0, .int 0, .int 0, .int 0, .int 0, .int 0, .int 0, .int 0, .ref q_1, .ref q_3])), (q_3, .inl (cI, 12, .inl (fun _ => 0)))]) [0, 2] rfl
  have hDc := hD.sub (ws' := [(u, .inr (0, [.int 0, .int 0, .int 0, .int 0, .int 0, .int 0, .int 0, .int 0, .ref q_1, .ref q_3])), (q_3, .inl (cI, 12, .inl (fun _ => 0)))]) [0, 2] (by decide) rfl
  have hFc := va_free (wc := [(u, .inr (0, [.int 0, .int 0, .int 0, .int 0, .int 0, .int 0, .int 0, .int 0, .ref q_1, .ref q_3])), (q_3, .inl (cI, 12, .inl (fun _ => 0)))]) hD hS hA [0, 2] rfl
  refine va_callv (va_runV (As := [.int 0, .int 0, .int 1]) (rest := []) ⟨hx, hb, hml, hown, hts⟩ (w_layOut l dC dI u 0 0 0 0 0 0 0 0 q_1 q_3 cI (fun _ => 0) 0 0 1 H.size) (cwV 3 hts (tg_V tw_26 tw_27 tw_28 tw_2 tw_29) rfl rfl rfl (by decide +kernel) ⟨Nat.le_of_ble_eq_true rfl, Nat.le_of_ble_eq_true rfl⟩) ⟨wr_blind, va_recv hK hP (ci := 0) (q0 := 0) rfl rfl, fun U hU hW => ⟨rfl, wr_use hPc (hK.sub [0] rfl) hDc U hU hW⟩⟩ rfl rfl hl.1 rfl (lv_room (Nat.le_of_ble_eq_true rfl)) dX0_init_23 ⟨Nat.le_of_ble_eq_true rfl, Nat.le_of_ble_eq_true rfl⟩) hS (fun q _ h => hFc q h) hFc (fun u9 t9 H1 locs ht hvm hw hB hz1 hk1 hS => ?_)
  obtain ⟨hP1, hK1, hD1⟩ := hB
  rw [ht] at hP1
  obtain ⟨hP, hD⟩ := va_join (wr := [(q_1, .inl (cI, 4, .inl (fun _ => 0)))]) (w1 := [(u, .inr (0, [.int 0, .int 0, .int 0, .int 0, .int 1, .int 0, .int 0, .int 0, .ref q_1, .ref q_3])), (q_3, .inl (cI, 12, .inl (tu_lay 0 0 (fun _ => 0) 11)))]) hP hD [0, 2] [1] rfl rfl (by decide) (by decide) hk1 hFc hP1 hD1
  have hP := hP.sub (ws' := [(u, .inr (0, [.int 0, .int 0, .int 0, .int 0, .int 1, .int 0, .int 0, .int 0, .ref q_1, .ref q_3])), (q_1, .inl (cI, 4, .inl (fun _ => 0))), (q_3, .inl (cI, 12, .inl (tu_lay 0 0 (fun _ => 0) 11)))]) [1, 0, 2] rfl
  have hD := hD.sub (ws' := [(u, .inr (0, [.int 0, .int 0, .int 0, .int 0, .int 1, .int 0, .int 0, .int 0, .ref q_1, .ref q_3])), (q_1, .inl (cI, 4, .inl (fun _ => 0))), (q_3, .inl (cI, 12, .inl (tu_lay 0 0 (fun _ => 0) 11)))]) [1, 0, 2] (by decide) rfl
  clear hPc hDc hFc hP1 hK1 hD1 hk1 hz1
  generalize H1 = H at hP hS ⊢
  have hP9 : va_P (dC, dI) vwCl [(u, .inr (0, [.int 0, .int 0, .int 0, .int 0, .int 1, .int 0, .int 0, .int 0, .ref q_1, .ref q_3])), (q_1, .inl (cI, 4, .inl (fun _ => 0))), (q_3, .inl (cI, 12, .inl (tu_lay 0 0 (fun _ => 0) 11)))] H := hP.sub [0, 1, 2] rfl
  have hD9 : va_D A [(u, .inr (0, [.int 0, .int 0, .int 0, .int 0, .int 1, .int 0, .int 0, .int 0, .ref q_1, .ref q_3])), (q_1, .inl (cI, 4, .inl (fun _ => 0))), (q_3, .inl (cI, 12, .inl (tu_lay 0 0 (fun _ => 0) 11)))] := hD.sub [0, 1, 2] (by decide) rfl
  have hK9 : va_K (dC, dI) vwCl [(cI, .int)] s := hK.sub [0] rfl
  refine W.widen (k := 2) (n := 16) (by omega) (by omega) ?_
  exact W.vret hx hb hr (fun t ht hW => ⟨⟨(), rfl, trivial, q_1, q_3, by rw [ht]; exact hP9, va_K.moved hW.alike hK9, hD9⟩, hS.F ht⟩) hS.2.2 dX0_init_26
end
section
theorem tw_16 : (Cond.methodLink "TextureUnits" 1 ⟨"java/lang/Object", "<init>", "()V"⟩) ∈ TW := tw_t1 16 (by decide +kernel) (by decide +kernel)
theorem tw_174 : (Cond.methodLink "TextureUnits" 37 ⟨"TextureUnits", "unitAt", "(I)LTextureUnits$Unit;"⟩) ∈ TW := tw_t1 174 (by decide +kernel) (by decide +kernel)
theorem tw_176 : (Cond.instanceMethod ⟨"TextureUnits", "unitAt", "(I)LTextureUnits$Unit;"⟩) ∈ TW := tw_t1 176 (by decide +kernel) (by decide +kernel)
theorem tw_177 : (Cond.code ⟨"TextureUnits", "unitAt", "(I)LTextureUnits$Unit;"⟩ prog_1_method_10_code 2 (.some (.object "TextureUnits$Unit"))) ∈ TW := tw_t1 177 (by decide +kernel) (by decide +kernel)
theorem tw_178 : (Cond.classLink "TextureUnits" 114 "java/util/NoSuchElementException") ∈ TW := tw_t1 178 (by decide +kernel) (by decide +kernel)
theorem tw_19 : (Cond.classLink "TextureUnits" 13 "TextureUnits$Unit") ∈ TW := tw_t1 19 (by decide +kernel) (by decide +kernel)
theorem tw_194 : (Cond.classLink "TextureUnits" 41 "java/lang/IllegalArgumentException") ∈ TW := tw_t1 194 (by decide +kernel) (by decide +kernel)
theorem tw_21 : (Cond.instantiable "TextureUnits$Unit" 10) ∈ TW := tw_t1 21 (by decide +kernel) (by decide +kernel)
theorem tw_22 : (Cond.methodLink "TextureUnits" 19 ⟨"TextureUnits$Unit", "<init>", "()V"⟩) ∈ TW := tw_t1 22 (by decide +kernel) (by decide +kernel)
theorem tw_23 : (Cond.instanceMethod ⟨"TextureUnits$Unit", "<init>", "()V"⟩) ∈ TW := tw_t1 23 (by decide +kernel) (by decide +kernel)
theorem tw_24 : (Cond.code ⟨"TextureUnits$Unit", "<init>", "()V"⟩ prog_2_method_1_code 1 .none) ∈ TW := tw_t1 24 (by decide +kernel) (by decide +kernel)
theorem tw_43 : (Cond.fieldLink "TextureUnits" 79 "TextureUnits$Unit" "levels" "I") ∈ TW := tw_t1 43 (by decide +kernel) (by decide +kernel)
theorem tw_7 : (Cond.initialized "java/lang/IndexOutOfBoundsException") ∈ TW := tw_t1 7 (by decide +kernel) (by decide +kernel)
theorem tw_74 : (Cond.fieldLink "TextureUnits" 15 "TextureUnits" "units" "[LTextureUnits$Unit;") ∈ TW := tw_t1 74 (by decide +kernel) (by decide +kernel)
theorem tw_75 : (Cond.fieldLink "TextureUnits" 20 "TextureUnits" "latest" "[I") ∈ TW := tw_t1 75 (by decide +kernel) (by decide +kernel)
theorem tw_76 : (Cond.fieldLink "TextureUnits" 23 "TextureUnits" "nextLevel" "[I") ∈ TW := tw_t1 76 (by decide +kernel) (by decide +kernel)
theorem tw_8 : (Cond.initialized "java/util/NoSuchElementException") ∈ TW := tw_t1 8 (by decide +kernel) (by decide +kernel)
theorem tw_9 : (Cond.initialized "java/lang/IllegalArgumentException") ∈ TW := tw_t1 9 (by decide +kernel) (by decide +kernel)
theorem tw_97 : (Cond.classLink "TextureUnits" 30 "java/lang/IndexOutOfBoundsException") ∈ TW := tw_t1 97 (by decide +kernel) (by decide +kernel)
theorem tw_p1 : (Cond.selects "TextureUnits" ⟨"TextureUnits", "unitAt", "(I)LTextureUnits$Unit;"⟩ ⟨"TextureUnits", "unitAt", "(I)LTextureUnits$Unit;"⟩) ∈ TW := tw_t0 1 (by decide +kernel) (by decide +kernel)
set_option maxHeartbeats 4000000 in
set_option maxRecDepth 100000 in
theorem w_TextureUnits (l : Launch) (dC : Nat → ClassId) (dI : Nat → Nat → Nat) (q : Nat) (sz : Nat) : Met l yX1_init wsX1_init ({ frames := 3, cells := 16, slots := 2164, locals := 65 }) (va_Pc [.ref q] (fun U => wr_P (dC, dI) vwCl [(q, .inr (1, [.null, .null, .null, .null]))] [] sz U ∧ va_AO "TextureUnits$Unit" U)) (va_Qv (fun _ : Unit => True) (fun (_ : Unit) t9 => ∃ (wd us u0 bc0 st0 u1 bc1 st1 u2 bc2 st2 u3 bc3 st3 la nx : Nat) (cI cU : ClassId), wr_B (dC, dI) vwCl [(q, .inr (1, [.ref wd, .ref us, .ref la, .ref nx])), (wd, .inl (cI, 2048, .inl (fun _ => 0))), (us, .inl (cU, 4, .inr (.inr (.inr (.inr (va_up (va_up (va_up (va_up (fun _ => none) 0 (some u0)) 1 (some u1)) 2 (some u2)) 3 (some u3))))))), (u0, .inr (0, [.int 0, .int 0, .int 0, .int 0, .int 1, .int 0, .int 0, .int 0, .ref bc0, .ref st0])), (bc0, .inl (cI, 4, .inl (fun _ => 0))), (st0, .inl (cI, 12, .inl (tu_lay 0 0 (fun _ => 0) 11))), (u1, .inr (0, [.int 0, .int 0, .int 0, .int 0, .int 1, .int 0, .int 0, .int 0, .ref bc1, .ref st1])), (bc1, .inl (cI, 4, .inl (fun _ => 0))), (st1, .inl (cI, 12, .inl (tu_lay 0 0 (fun _ => 0) 11))), (u2, .inr (0, [.int 0, .int 0, .int 0, .int 0, .int 1, .int 0, .int 0, .int 0, .ref bc2, .ref st2])), (bc2, .inl (cI, 4, .inl (fun _ => 0))), (st2, .inl (cI, 12, .inl (tu_lay 0 0 (fun _ => 0) 11))), (u3, .inr (0, [.int 0, .int 0, .int 0, .int 0, .int 1, .int 0, .int 0, .int 0, .ref bc3, .ref st3])), (bc3, .inl (cI, 4, .inl (fun _ => 0))), (st3, .inl (cI, 12, .inl (tu_lay 0 0 (fun _ => 0) 11))), (la, .inl (cI, 4, .inl (fun _ => 0))), (nx, .inl (cI, 4, .inl (fun _ => 0)))] [(cI, .int), (cU, .object "TextureUnits$Unit")] (va_A [(q, .inr (1, [.null, .null, .null, .null]))] sz) () t9) (va_A [(q, .inr (1, [.null, .null, .null, .null]))] sz)) 16 2164 (va_A [(q, .inr (1, [.null, .null, .null, .null]))] sz) := by
  refine Met.ofW (cc := cX1_init) (maxL := 2) (ret := none) (by decide) rfl ?_
  intro p e s m args below meth c s₁ B hml hv
  obtain ⟨rfl, ⟨hsz, hP, hK, hD0⟩, hV⟩ := hv
  have hx := B.exec
  have hb := B.bytes
  have hr := B.returns
  have hts := atoms_spec (ws := wsX1_init) B.pre
  have hown : s.vm.findClass "TextureUnits" = some m.cls := findClass_of_methodNamed B.named
  have hlocks := B.notSynchronized
  have hin : meth.name = "<init>" := (name_of_methodNamed B.named B.method).1
  subst hsz
  have hD := hD0.self (sz := s.heap.size)
  generalize hAe : va_A [(q, .inr (1, [.null, .null, .null, .null]))] s.heap.size = A at hD ⊢
  have hA : ∀ q : Nat, s.heap.size ≤ q → A q := fun q h => by rw [← hAe]; exact Or.inr h
  have hS : va_S A s.heap s.heap [] := va_S.rf
  have hP : va_P (dC, dI) vwCl [(q, .inr (1, [.null, .null, .null, .null]))] s.heap := hP
  have hl := lv_entry ([.ref q]) (n := 2) (Nat.le_of_ble_eq_true rfl)
  rw [lg_entry_eq]
  generalize (lg_sl ([.ref q]) ++ List.replicate (2 - (lg_sl ([.ref q])).length) Slot.unset).toArray = ls at hl ⊢
  have hl : lv_has ls 2 [(0, .ref q)] := hl
  refine lv_aload_n hx hb dX1_init_0 rfl (lv_at hl 0 rfl) ?_
  refine W.objInit hx hb hown (hts _ (tw_c tw_16)) (hts _ (tw_c tw_17)) (hts _ (tw_c tw_18)) rfl (by rw [hml]; exact hl.1) rfl dX1_init_1 (Nat.le_of_ble_eq_true rfl) (Nat.le_of_ble_eq_true rfl) ?_
  refine W.eq (g2 := F0 m 4 ls []) rfl ?_
  refine lv_aload_n hx hb dX1_init_4 rfl (lv_at hl 0 rfl) ?_
  refine lv_sipush (v := 2048) hx hb dX1_init_5 (by decide) ?_
  refine va_newa (atype := .int) (ty := .int) (a0 := (2048, .inl (fun _ => 0))) (N' := 2048) hx hb (hts _ (tw_c tw_72)) rfl hK hP hD hS hA (fun _ => rfl) (by decide) (by decide) (by decide) (Nat.le_of_ble_eq_true rfl) (Nat.le_of_ble_eq_true rfl) dX1_init_8 (fun q_1 cA_2 H hK hP hD hS => ?_)
  have hK := hK.sub (tys' := [(cA_2, .int)]) [0] rfl
  refine W.widen (k := 1) (n := 2048) (Nat.le_of_ble_eq_true rfl) (Nat.le_of_ble_eq_true rfl) ?_
  have hP : va_P (dC, dI) vwCl [(q, .inr (1, [.null, .null, .null, .null])), (q_1, .inl (cA_2, 2048, .inl (fun _ => 0)))] H := hP
  have hD : va_D A [(q, .inr (1, [.null, .null, .null, .null])), (q_1, .inl (cA_2, 2048, .inl (fun _ => 0)))] := hD
  refine va_putF (D := (dC, dI)) (ci := 1) (v := .ref q_1) (ty := (.array .int)) (C := "TextureUnits") (T := TX1) (N := 4) hx hb hts (tw_s inX1) tyX1 tyX1_ok nmX1 hown hK hP hD hS 0 rfl rfl 0 (by decide) (hts _ (tw_c tw_73)) (fun _ h9 => h9) rfl hin rfl (by decide +kernel) rfl rfl (Nat.le_of_ble_eq_true rfl) dX1_init_10 (fun H locs hP hD hS => ?_)
  have hP : va_P (dC, dI) vwCl [(q, .inr (1, [.ref q_1, .null, .null, .null])), (q_1, .inl (cA_2, 2048, .inl (fun _ => 0)))] H := hP
  have hD : va_D A [(q, .inr (1, [.ref q_1, .null, .null, .null])), (q_1, .inl (cA_2, 2048, .inl (fun _ => 0)))] := hD
  refine lv_aload_n hx hb dX1_init_13 rfl (lv_at hl 0 rfl) ?_
  refine lv_iconst (v := 4) hx hb dX1_init_14 (by decide) ?_
  refine va_newq (C := "TextureUnits$Unit") (N' := 4) hx hb hown (hts _ (tw_c tw_19)) hV hK hP hD hS hA (by decide) (by decide) (by decide) (Nat.le_of_ble_eq_true rfl) (Nat.le_of_ble_eq_true rfl) dX1_init_15 (fun q_3 cA_4 H hK hP hD hS => ?_)
  have hK := hK.sub (tys' := [(cA_2, .int), (cA_4, .object "TextureUnits$Unit")]) [0, 1] rfl
  refine W.widen (k := 2) (n := 2052) (Nat.le_of_ble_eq_true rfl) (Nat.le_of_ble_eq_true rfl) ?_
  have hP : va_P (dC, dI) vwCl [(q, .inr (1, [.ref q_1, .null, .null, .null])), (q_1, .inl (cA_2, 2048, .inl (fun _ => 0))), (q_3, .inl (cA_4, 4, .inr (.inr (.inr (.inr (fun _ => none))))))] H := hP
  have hD : va_D A [(q, .inr (1, [.ref q_1, .null, .null, .null])), (q_1, .inl (cA_2, 2048, .inl (fun _ => 0))), (q_3, .inl (cA_4, 4, .inr (.inr (.inr (.inr (fun _ => none))))))] := hD
  refine va_putF (D := (dC, dI)) (ci := 1) (v := .ref q_3) (ty := (.array (.object "TextureUnits$Unit"))) (C := "TextureUnits") (T := TX1) (N := 4) hx hb hts (tw_s inX1) tyX1 tyX1_ok nmX1 hown hK hP hD hS 0 rfl rfl 1 (by decide) (hts _ (tw_c tw_74)) (fun _ h9 => h9) rfl hin rfl (by decide +kernel) rfl rfl (Nat.le_of_ble_eq_true rfl) dX1_init_18 (fun H locs hP hD hS => ?_)
  have hP : va_P (dC, dI) vwCl [(q, .inr (1, [.ref q_1, .ref q_3, .null, .null])), (q_1, .inl (cA_2, 2048, .inl (fun _ => 0))), (q_3, .inl (cA_4, 4, .inr (.inr (.inr (.inr (fun _ => none))))))] H := hP
  have hD : va_D A [(q, .inr (1, [.ref q_1, .ref q_3, .null, .null])), (q_1, .inl (cA_2, 2048, .inl (fun _ => 0))), (q_3, .inl (cA_4, 4, .inr (.inr (.inr (.inr (fun _ => none))))))] := hD
  refine lv_iconst (v := 0) hx hb dX1_init_21 (by decide) ?_
  refine lv_istore_n (lv' := [(1, .int 0), (0, .ref q)]) hx hb dX1_init_22 rfl hl (by decide) rfl (fun ls hl => ?_)
  refine lv_iload_n hx hb dX1_init_23 rfl (lv_at hl 0 rfl) ?_
  refine lv_iconst (v := 4) hx hb dX1_init_24 (by decide) ?_
  refine lv_icmp_ge (tgt := 47) hx hb dX1_init_25 (by decide) (fun c_5 => absurd c_5 (by decide)) (fun c_5 => ?_)
  refine lv_aload_n hx hb dX1_init_28 rfl (lv_at hl 1 rfl) ?_
  refine va_get (D := (dC, dI)) (ci := 1) (v := .ref q_3) (C := "TextureUnits") (T := TX1) (N := 4) hx hb hts (tw_s inX1) hown hK hP 0 rfl rfl 1 (by decide) (hts _ (tw_c tw_74)) (fun _ h9 => h9) rfl dX1_init_29 ?_
  refine lv_iload_n hx hb dX1_init_32 rfl (lv_at hl 0 rfl) ?_
  refine va_new (ci := 0) (fs := [.int 0, .int 0, .int 0, .int 0, .int 0, .int 0, .int 0, .int 0, .null, .null]) (C := "TextureUnits$Unit") (T := TX0) (N := 10) hx hb hts (tw_s inX0) tyX0 tyX0_ok hown (hts _ (tw_c tw_19)) (hts _ (tw_c tw_21)) (hts _ (tw_c tw_2)) hK hP hD hS hA rfl (by decide) (Nat.le_of_ble_eq_true rfl) (Nat.le_of_ble_eq_true rfl) dX1_init_33 (fun q_6 H hP hD hS => ?_)
  refine W.widen (k := 3) (n := 2062) (Nat.le_of_ble_eq_true rfl) (Nat.le_of_ble_eq_true rfl) ?_
  have hP : va_P (dC, dI) vwCl [(q, .inr (1, [.ref q_1, .ref q_3, .null, .null])), (q_1, .inl (cA_2, 2048, .inl (fun _ => 0))), (q_3, .inl (cA_4, 4, .inr (.inr (.inr (.inr (fun _ => none)))))), (q_6, .inr (0, [.int 0, .int 0, .int 0, .int 0, .int 0, .int 0, .int 0, .int 0, .null, .null]))] H := hP
  have hD : va_D A [(q, .inr (1, [.ref q_1, .ref q_3, .null, .null])), (q_1, .inl (cA_2, 2048, .inl (fun _ => 0))), (q_3, .inl (cA_4, 4, .inr (.inr (.inr (.inr (fun _ => none)))))), (q_6, .inr (0, [.int 0, .int 0, .int 0, .int 0, .int 0, .int 0, .int 0, .int 0, .null, .null]))] := hD
  refine lv_dup hx hb dX1_init_36 rfl ?_
  have hPc := hP.sub (ws' := [(q_6, .inr (0, [.int 0, .int 0, .int 0, .int 0, .int 0, .int 0, .int 0, .int 0, .null, .null]))]) [3] rfl
  have hDc := hD.sub (ws' := [(q_6, .inr (0, [.int 0, .int 0, .int 0, .int 0, .int 0, .int 0, .int 0, .int 0, .null, .null]))]) [3] (by decide) rfl
  have hFc := va_free (wc := [(q_6, .inr (0, [.int 0, .int 0, .int 0, .int 0, .int 0, .int 0, .int 0, .int 0, .null, .null]))]) hD hS hA [3] rfl
  refine va_callv (va_runI (As := []) (rest := [.ref q_6, .int 0, .ref q_3]) ⟨hx, hb, hml, hown, hts⟩ (w_Unit l dC dI q_6 cA_2 H.size) (cwI 0 hts (tg_0 tw_24) rfl rfl rfl (hts _ (tw_c tw_2)) (hts _ (tw_c tw_22)) (hts _ (tw_c tw_23)) rfl (by decide +kernel) ⟨Nat.le_of_ble_eq_true rfl, Nat.le_of_ble_eq_true rfl⟩) ⟨wr_blind, fun U hU hW => ⟨rfl, wr_use hPc (hK.sub [0] rfl) hDc U hU hW⟩⟩ rfl rfl hl.1 rfl (lv_room (Nat.le_of_ble_eq_true rfl)) dX1_init_37 ⟨Nat.le_of_ble_eq_true rfl, Nat.le_of_ble_eq_true rfl⟩) hS (fun q _ h => hFc q h) hFc (fun u9 t9 H1 locs ht hvm hw hB hz1 hk1 hS => ?_)
  obtain ⟨q_7, q_8, hP1, hK1, hD1⟩ := hB
  rw [ht] at hP1
  obtain ⟨hP, hD⟩ := va_join (wr := [(q, .inr (1, [.ref q_1, .ref q_3, .null, .null])), (q_1, .inl (cA_2, 2048, .inl (fun _ => 0))), (q_3, .inl (cA_4, 4, .inr (.inr (.inr (.inr (fun _ => none))))))]) (w1 := [(q_6, .inr (0, [.int 0, .int 0, .int 0, .int 0, .int 1, .int 0, .int 0, .int 0, .ref q_7, .ref q_8])), (q_7, .inl (cA_2, 4, .inl (fun _ => 0))), (q_8, .inl (cA_2, 12, .inl (tu_lay 0 0 (fun _ => 0) 11)))]) hP hD [3] [0, 1, 2] rfl rfl (by decide) (by decide) hk1 hFc hP1 hD1
  have hP := hP.sub (ws' := [(q, .inr (1, [.ref q_1, .ref q_3, .null, .null])), (q_1, .inl (cA_2, 2048, .inl (fun _ => 0))), (q_3, .inl (cA_4, 4, .inr (.inr (.inr (.inr (fun _ => none)))))), (q_6, .inr (0, [.int 0, .int 0, .int 0, .int 0, .int 1, .int 0, .int 0, .int 0, .ref q_7, .ref q_8])), (q_7, .inl (cA_2, 4, .inl (fun _ => 0))), (q_8, .inl (cA_2, 12, .inl (tu_lay 0 0 (fun _ => 0) 11)))]) [0, 1, 2, 3, 4, 5] rfl
  have hD := hD.sub (ws' := [(q, .inr (1, [.ref q_1, .ref q_3, .null, .null])), (q_1, .inl (cA_2, 2048, .inl (fun _ => 0))), (q_3, .inl (cA_4, 4, .inr (.inr (.inr (.inr (fun _ => none)))))), (q_6, .inr (0, [.int 0, .int 0, .int 0, .int 0, .int 1, .int 0, .int 0, .int 0, .ref q_7, .ref q_8])), (q_7, .inl (cA_2, 4, .inl (fun _ => 0))), (q_8, .inl (cA_2, 12, .inl (tu_lay 0 0 (fun _ => 0) 11)))]) [0, 1, 2, 3, 4, 5] (by decide) rfl
  clear hPc hDc hFc hP1 hK1 hD1 hk1 hz1
  generalize H1 = H at hP hS ⊢
  refine W.widen (k := 5) (n := 2078) (Nat.le_of_ble_eq_true rfl) (Nat.le_of_ble_eq_true rfl) ?_
  refine va_astq hx hb hK hP hD hS 2 1 3 0 rfl rfl rfl rfl (tu_in (by decide)) dX1_init_40 (fun H locs hP hD hS => ?_)
  have hP : va_P (dC, dI) vwCl [(q, .inr (1, [.ref q_1, .ref q_3, .null, .null])), (q_1, .inl (cA_2, 2048, .inl (fun _ => 0))), (q_3, .inl (cA_4, 4, .inr (.inr (.inr (.inr (va_up (fun _ => none) 0 (some q_6))))))), (q_6, .inr (0, [.int 0, .int 0, .int 0, .int 0, .int 1, .int 0, .int 0, .int 0, .ref q_7, .ref q_8])), (q_7, .inl (cA_2, 4, .inl (fun _ => 0))), (q_8, .inl (cA_2, 12, .inl (tu_lay 0 0 (fun _ => 0) 11)))] H := hP
  have hD : va_D A [(q, .inr (1, [.ref q_1, .ref q_3, .null, .null])), (q_1, .inl (cA_2, 2048, .inl (fun _ => 0))), (q_3, .inl (cA_4, 4, .inr (.inr (.inr (.inr (va_up (fun _ => none) 0 (some q_6))))))), (q_6, .inr (0, [.int 0, .int 0, .int 0, .int 0, .int 1, .int 0, .int 0, .int 0, .ref q_7, .ref q_8])), (q_7, .inl (cA_2, 4, .inl (fun _ => 0))), (q_8, .inl (cA_2, 12, .inl (tu_lay 0 0 (fun _ => 0) 11)))] := hD
  refine lv_iinc (v := 1) (lv' := [(1, .int 1), (0, .ref q)]) hx hb dX1_init_41 hl (k := 0) rfl (by decide) (by decide) rfl (fun ls hl => ?_)
  refine lv_goto (tgt := 23) hx hb dX1_init_44 (by decide) ?_
  refine lv_iload_n hx hb dX1_init_23 rfl (lv_at hl 0 rfl) ?_
  refine lv_iconst (v := 4) hx hb dX1_init_24 (by decide) ?_
  refine lv_icmp_ge (tgt := 47) hx hb dX1_init_25 (by decide) (fun c_9 => absurd c_9 (by decide)) (fun c_9 => ?_)
  refine lv_aload_n hx hb dX1_init_28 rfl (lv_at hl 1 rfl) ?_
  refine va_get (D := (dC, dI)) (ci := 1) (v := .ref q_3) (C := "TextureUnits") (T := TX1) (N := 4) hx hb hts (tw_s inX1) hown hK hP 0 rfl rfl 1 (by decide) (hts _ (tw_c tw_74)) (fun _ h9 => h9) rfl dX1_init_29 ?_
  refine lv_iload_n hx hb dX1_init_32 rfl (lv_at hl 0 rfl) ?_
  refine va_new (ci := 0) (fs := [.int 0, .int 0, .int 0, .int 0, .int 0, .int 0, .int 0, .int 0, .null, .null]) (C := "TextureUnits$Unit") (T := TX0) (N := 10) hx hb hts (tw_s inX0) tyX0 tyX0_ok hown (hts _ (tw_c tw_19)) (hts _ (tw_c tw_21)) (hts _ (tw_c tw_2)) hK hP hD hS hA rfl (by decide) (Nat.le_of_ble_eq_true rfl) (Nat.le_of_ble_eq_true rfl) dX1_init_33 (fun q_10 H hP hD hS => ?_)
  refine W.widen (k := 6) (n := 2088) (Nat.le_of_ble_eq_true rfl) (Nat.le_of_ble_eq_true rfl) ?_
  have hP : va_P (dC, dI) vwCl [(q, .inr (1, [.ref q_1, .ref q_3, .null, .null])), (q_1, .inl (cA_2, 2048, .inl (fun _ => 0))), (q_3, .inl (cA_4, 4, .inr (.inr (.inr (.inr (va_up (fun _ => none) 0 (some q_6))))))), (q_6, .inr (0, [.int 0, .int 0, .int 0, .int 0, .int 1, .int 0, .int 0, .int 0, .ref q_7, .ref q_8])), (q_7, .inl (cA_2, 4, .inl (fun _ => 0))), (q_8, .inl (cA_2, 12, .inl (tu_lay 0 0 (fun _ => 0) 11))), (q_10, .inr (0, [.int 0, .int 0, .int 0, .int 0, .int 0, .int 0, .int 0, .int 0, .null, .null]))] H := hP
  have hD : va_D A [(q, .inr (1, [.ref q_1, .ref q_3, .null, .null])), (q_1, .inl (cA_2, 2048, .inl (fun _ => 0))), (q_3, .inl (cA_4, 4, .inr (.inr (.inr (.inr (va_up (fun _ => none) 0 (some q_6))))))), (q_6, .inr (0, [.int 0, .int 0, .int 0, .int 0, .int 1, .int 0, .int 0, .int 0, .ref q_7, .ref q_8])), (q_7, .inl (cA_2, 4, .inl (fun _ => 0))), (q_8, .inl (cA_2, 12, .inl (tu_lay 0 0 (fun _ => 0) 11))), (q_10, .inr (0, [.int 0, .int 0, .int 0, .int 0, .int 0, .int 0, .int 0, .int 0, .null, .null]))] := hD
  refine lv_dup hx hb dX1_init_36 rfl ?_
  have hPc := hP.sub (ws' := [(q_10, .inr (0, [.int 0, .int 0, .int 0, .int 0, .int 0, .int 0, .int 0, .int 0, .null, .null]))]) [6] rfl
  have hDc := hD.sub (ws' := [(q_10, .inr (0, [.int 0, .int 0, .int 0, .int 0, .int 0, .int 0, .int 0, .int 0, .null, .null]))]) [6] (by decide) rfl
  have hFc := va_free (wc := [(q_10, .inr (0, [.int 0, .int 0, .int 0, .int 0, .int 0, .int 0, .int 0, .int 0, .null, .null]))]) hD hS hA [6] rfl
  refine va_callv (va_runI (As := []) (rest := [.ref q_10, .int 1, .ref q_3]) ⟨hx, hb, hml, hown, hts⟩ (w_Unit l dC dI q_10 cA_2 H.size) (cwI 0 hts (tg_0 tw_24) rfl rfl rfl (hts _ (tw_c tw_2)) (hts _ (tw_c tw_22)) (hts _ (tw_c tw_23)) rfl (by decide +kernel) ⟨Nat.le_of_ble_eq_true rfl, Nat.le_of_ble_eq_true rfl⟩) ⟨wr_blind, fun U hU hW => ⟨rfl, wr_use hPc (hK.sub [0] rfl) hDc U hU hW⟩⟩ rfl rfl hl.1 rfl (lv_room (Nat.le_of_ble_eq_true rfl)) dX1_init_37 ⟨Nat.le_of_ble_eq_true rfl, Nat.le_of_ble_eq_true rfl⟩) hS (fun q _ h => hFc q h) hFc (fun u9 t9 H1 locs ht hvm hw hB hz1 hk1 hS => ?_)
  obtain ⟨q_11, q_12, hP1, hK1, hD1⟩ := hB
  rw [ht] at hP1
  obtain ⟨hP, hD⟩ := va_join (wr := [(q, .inr (1, [.ref q_1, .ref q_3, .null, .null])), (q_1, .inl (cA_2, 2048, .inl (fun _ => 0))), (q_3, .inl (cA_4, 4, .inr (.inr (.inr (.inr (va_up (fun _ => none) 0 (some q_6))))))), (q_6, .inr (0, [.int 0, .int 0, .int 0, .int 0, .int 1, .int 0, .int 0, .int 0, .ref q_7, .ref q_8])), (q_7, .inl (cA_2, 4, .inl (fun _ => 0))), (q_8, .inl (cA_2, 12, .inl (tu_lay 0 0 (fun _ => 0) 11)))]) (w1 := [(q_10, .inr (0, [.int 0, .int 0, .int 0, .int 0, .int 1, .int 0, .int 0, .int 0, .ref q_11, .ref q_12])), (q_11, .inl (cA_2, 4, .inl (fun _ => 0))), (q_12, .inl (cA_2, 12, .inl (tu_lay 0 0 (fun _ => 0) 11)))]) hP hD [6] [0, 1, 2, 3, 4, 5] rfl rfl (by decide) (by decide) hk1 hFc hP1 hD1
  have hP := hP.sub (ws' := [(q, .inr (1, [.ref q_1, .ref q_3, .null, .null])), (q_1, .inl (cA_2, 2048, .inl (fun _ => 0))), (q_3, .inl (cA_4, 4, .inr (.inr (.inr (.inr (va_up (fun _ => none) 0 (some q_6))))))), (q_6, .inr (0, [.int 0, .int 0, .int 0, .int 0, .int 1, .int 0, .int 0, .int 0, .ref q_7, .ref q_8])), (q_7, .inl (cA_2, 4, .inl (fun _ => 0))), (q_8, .inl (cA_2, 12, .inl (tu_lay 0 0 (fun _ => 0) 11))), (q_10, .inr (0, [.int 0, .int 0, .int 0, .int 0, .int 1, .int 0, .int 0, .int 0, .ref q_11, .ref q_12])), (q_11, .inl (cA_2, 4, .inl (fun _ => 0))), (q_12, .inl (cA_2, 12, .inl (tu_lay 0 0 (fun _ => 0) 11)))]) [0, 1, 2, 3, 4, 5, 6, 7, 8] rfl
  have hD := hD.sub (ws' := [(q, .inr (1, [.ref q_1, .ref q_3, .null, .null])), (q_1, .inl (cA_2, 2048, .inl (fun _ => 0))), (q_3, .inl (cA_4, 4, .inr (.inr (.inr (.inr (va_up (fun _ => none) 0 (some q_6))))))), (q_6, .inr (0, [.int 0, .int 0, .int 0, .int 0, .int 1, .int 0, .int 0, .int 0, .ref q_7, .ref q_8])), (q_7, .inl (cA_2, 4, .inl (fun _ => 0))), (q_8, .inl (cA_2, 12, .inl (tu_lay 0 0 (fun _ => 0) 11))), (q_10, .inr (0, [.int 0, .int 0, .int 0, .int 0, .int 1, .int 0, .int 0, .int 0, .ref q_11, .ref q_12])), (q_11, .inl (cA_2, 4, .inl (fun _ => 0))), (q_12, .inl (cA_2, 12, .inl (tu_lay 0 0 (fun _ => 0) 11)))]) [0, 1, 2, 3, 4, 5, 6, 7, 8] (by decide) rfl
  clear hPc hDc hFc hP1 hK1 hD1 hk1 hz1
  generalize H1 = H at hP hS ⊢
  refine W.widen (k := 8) (n := 2104) (Nat.le_of_ble_eq_true rfl) (Nat.le_of_ble_eq_true rfl) ?_
  refine va_astq hx hb hK hP hD hS 2 1 6 0 rfl rfl rfl rfl (tu_in (by decide)) dX1_init_40 (fun H locs hP hD hS => ?_)
  have hP : va_P (dC, dI) vwCl [(q, .inr (1, [.ref q_1, .ref q_3, .null, .null])), (q_1, .inl (cA_2, 2048, .inl (fun _ => 0))), (q_3, .inl (cA_4, 4, .inr (.inr (.inr (.inr (va_up (va_up (fun _ => none) 0 (some q_6)) 1 (some q_10))))))), (q_6, .inr (0, [.int 0, .int 0, .int 0, .int 0, .int 1, .int 0, .int 0, .int 0, .ref q_7, .ref q_8])), (q_7, .inl (cA_2, 4, .inl (fun _ => 0))), (q_8, .inl (cA_2, 12, .inl (tu_lay 0 0 (fun _ => 0) 11))), (q_10, .inr (0, [.int 0, .int 0, .int 0, .int 0, .int 1, .int 0, .int 0, .int 0, .ref q_11, .ref q_12])), (q_11, .inl (cA_2, 4, .inl (fun _ => 0))), (q_12, .inl (cA_2, 12, .inl (tu_lay 0 0 (fun _ => 0) 11)))] H := hP
  have hD : va_D A [(q, .inr (1, [.ref q_1, .ref q_3, .null, .null])), (q_1, .inl (cA_2, 2048, .inl (fun _ => 0))), (q_3, .inl (cA_4, 4, .inr (.inr (.inr (.inr (va_up (va_up (fun _ => none) 0 (some q_6)) 1 (some q_10))))))), (q_6, .inr (0, [.int 0, .int 0, .int 0, .int 0, .int 1, .int 0, .int 0, .int 0, .ref q_7, .ref q_8])), (q_7, .inl (cA_2, 4, .inl (fun _ => 0))), (q_8, .inl (cA_2, 12, .inl (tu_lay 0 0 (fun _ => 0) 11))), (q_10, .inr (0, [.int 0, .int 0, .int 0, .int 0, .int 1, .int 0, .int 0, .int 0, .ref q_11, .ref q_12])), (q_11, .inl (cA_2, 4, .inl (fun _ => 0))), (q_12, .inl (cA_2, 12, .inl (tu_lay 0 0 (fun _ => 0) 11)))] := hD
  refine lv_iinc (v := 2) (lv' := [(1, .int 2), (0, .ref q)]) hx hb dX1_init_41 hl (k := 0) rfl (by decide) (by decide) rfl (fun ls hl => ?_)
  refine lv_goto (tgt := 23) hx hb dX1_init_44 (by decide) ?_
  refine lv_iload_n hx hb dX1_init_23 rfl (lv_at hl 0 rfl) ?_
  refine lv_iconst (v := 4) hx hb dX1_init_24 (by decide) ?_
  refine lv_icmp_ge (tgt := 47) hx hb dX1_init_25 (by decide) (fun c_13 => absurd c_13 (by decide)) (fun c_13 => ?_)
  refine lv_aload_n hx hb dX1_init_28 rfl (lv_at hl 1 rfl) ?_
  refine va_get (D := (dC, dI)) (ci := 1) (v := .ref q_3) (C := "TextureUnits") (T := TX1) (N := 4) hx hb hts (tw_s inX1) hown hK hP 0 rfl rfl 1 (by decide) (hts _ (tw_c tw_74)) (fun _ h9 => h9) rfl dX1_init_29 ?_
  refine lv_iload_n hx hb dX1_init_32 rfl (lv_at hl 0 rfl) ?_
  refine va_new (ci := 0) (fs := [.int 0, .int 0, .int 0, .int 0, .int 0, .int 0, .int 0, .int 0, .null, .null]) (C := "TextureUnits$Unit") (T := TX0) (N := 10) hx hb hts (tw_s inX0) tyX0 tyX0_ok hown (hts _ (tw_c tw_19)) (hts _ (tw_c tw_21)) (hts _ (tw_c tw_2)) hK hP hD hS hA rfl (by decide) (Nat.le_of_ble_eq_true rfl) (Nat.le_of_ble_eq_true rfl) dX1_init_33 (fun q_14 H hP hD hS => ?_)
  refine W.widen (k := 9) (n := 2114) (Nat.le_of_ble_eq_true rfl) (Nat.le_of_ble_eq_true rfl) ?_
  have hP : va_P (dC, dI) vwCl [(q, .inr (1, [.ref q_1, .ref q_3, .null, .null])), (q_1, .inl (cA_2, 2048, .inl (fun _ => 0))), (q_3, .inl (cA_4, 4, .inr (.inr (.inr (.inr (va_up (va_up (fun _ => none) 0 (some q_6)) 1 (some q_10))))))), (q_6, .inr (0, [.int 0, .int 0, .int 0, .int 0, .int 1, .int 0, .int 0, .int 0, .ref q_7, .ref q_8])), (q_7, .inl (cA_2, 4, .inl (fun _ => 0))), (q_8, .inl (cA_2, 12, .inl (tu_lay 0 0 (fun _ => 0) 11))), (q_10, .inr (0, [.int 0, .int 0, .int 0, .int 0, .int 1, .int 0, .int 0, .int 0, .ref q_11, .ref q_12])), (q_11, .inl (cA_2, 4, .inl (fun _ => 0))), (q_12, .inl (cA_2, 12, .inl (tu_lay 0 0 (fun _ => 0) 11))), (q_14, .inr (0, [.int 0, .int 0, .int 0, .int 0, .int 0, .int 0, .int 0, .int 0, .null, .null]))] H := hP
  have hD : va_D A [(q, .inr (1, [.ref q_1, .ref q_3, .null, .null])), (q_1, .inl (cA_2, 2048, .inl (fun _ => 0))), (q_3, .inl (cA_4, 4, .inr (.inr (.inr (.inr (va_up (va_up (fun _ => none) 0 (some q_6)) 1 (some q_10))))))), (q_6, .inr (0, [.int 0, .int 0, .int 0, .int 0, .int 1, .int 0, .int 0, .int 0, .ref q_7, .ref q_8])), (q_7, .inl (cA_2, 4, .inl (fun _ => 0))), (q_8, .inl (cA_2, 12, .inl (tu_lay 0 0 (fun _ => 0) 11))), (q_10, .inr (0, [.int 0, .int 0, .int 0, .int 0, .int 1, .int 0, .int 0, .int 0, .ref q_11, .ref q_12])), (q_11, .inl (cA_2, 4, .inl (fun _ => 0))), (q_12, .inl (cA_2, 12, .inl (tu_lay 0 0 (fun _ => 0) 11))), (q_14, .inr (0, [.int 0, .int 0, .int 0, .int 0, .int 0, .int 0, .int 0, .int 0, .null, .null]))] := hD
  refine lv_dup hx hb dX1_init_36 rfl ?_
  have hPc := hP.sub (ws' := [(q_14, .inr (0, [.int 0, .int 0, .int 0, .int 0, .int 0, .int 0, .int 0, .int 0, .null, .null]))]) [9] rfl
  have hDc := hD.sub (ws' := [(q_14, .inr (0, [.int 0, .int 0, .int 0, .int 0, .int 0, .int 0, .int 0, .int 0, .null, .null]))]) [9] (by decide) rfl
  have hFc := va_free (wc := [(q_14, .inr (0, [.int 0, .int 0, .int 0, .int 0, .int 0, .int 0, .int 0, .int 0, .null, .null]))]) hD hS hA [9] rfl
  refine va_callv (va_runI (As := []) (rest := [.ref q_14, .int 2, .ref q_3]) ⟨hx, hb, hml, hown, hts⟩ (w_Unit l dC dI q_14 cA_2 H.size) (cwI 0 hts (tg_0 tw_24) rfl rfl rfl (hts _ (tw_c tw_2)) (hts _ (tw_c tw_22)) (hts _ (tw_c tw_23)) rfl (by decide +kernel) ⟨Nat.le_of_ble_eq_true rfl, Nat.le_of_ble_eq_true rfl⟩) ⟨wr_blind, fun U hU hW => ⟨rfl, wr_use hPc (hK.sub [0] rfl) hDc U hU hW⟩⟩ rfl rfl hl.1 rfl (lv_room (Nat.le_of_ble_eq_true rfl)) dX1_init_37 ⟨Nat.le_of_ble_eq_true rfl, Nat.le_of_ble_eq_true rfl⟩) hS (fun q _ h => hFc q h) hFc (fun u9 t9 H1 locs ht hvm hw hB hz1 hk1 hS => ?_)
  obtain ⟨q_15, q_16, hP1, hK1, hD1⟩ := hB
  rw [ht] at hP1
  obtain ⟨hP, hD⟩ := va_join (wr := [(q, .inr (1, [.ref q_1, .ref q_3, .null, .null])), (q_1, .inl (cA_2, 2048, .inl (fun _ => 0))), (q_3, .inl (cA_4, 4, .inr (.inr (.inr (.inr (va_up (va_up (fun _ => none) 0 (some q_6)) 1 (some q_10))))))), (q_6, .inr (0, [.int 0, .int 0, .int 0, .int 0, .int 1, .int 0, .int 0, .int 0, .ref q_7, .ref q_8])), (q_7, .inl (cA_2, 4, .inl (fun _ => 0))), (q_8, .inl (cA_2, 12, .inl (tu_lay 0 0 (fun _ => 0) 11))), (q_10, .inr (0, [.int 0, .int 0, .int 0, .int 0, .int 1, .int 0, .int 0, .int 0, .ref q_11, .ref q_12])), (q_11, .inl (cA_2, 4, .inl (fun _ => 0))), (q_12, .inl (cA_2, 12, .inl (tu_lay 0 0 (fun _ => 0) 11)))]) (w1 := [(q_14, .inr (0, [.int 0, .int 0, .int 0, .int 0, .int 1, .int 0, .int 0, .int 0, .ref q_15, .ref q_16])), (q_15, .inl (cA_2, 4, .inl (fun _ => 0))), (q_16, .inl (cA_2, 12, .inl (tu_lay 0 0 (fun _ => 0) 11)))]) hP hD [9] [0, 1, 2, 3, 4, 5, 6, 7, 8] rfl rfl (by decide) (by decide) hk1 hFc hP1 hD1
  have hP := hP.sub (ws' := [(q, .inr (1, [.ref q_1, .ref q_3, .null, .null])), (q_1, .inl (cA_2, 2048, .inl (fun _ => 0))), (q_3, .inl (cA_4, 4, .inr (.inr (.inr (.inr (va_up (va_up (fun _ => none) 0 (some q_6)) 1 (some q_10))))))), (q_6, .inr (0, [.int 0, .int 0, .int 0, .int 0, .int 1, .int 0, .int 0, .int 0, .ref q_7, .ref q_8])), (q_7, .inl (cA_2, 4, .inl (fun _ => 0))), (q_8, .inl (cA_2, 12, .inl (tu_lay 0 0 (fun _ => 0) 11))), (q_10, .inr (0, [.int 0, .int 0, .int 0, .int 0, .int 1, .int 0, .int 0, .int 0, .ref q_11, .ref q_12])), (q_11, .inl (cA_2, 4, .inl (fun _ => 0))), (q_12, .inl (cA_2, 12, .inl (tu_lay 0 0 (fun _ => 0) 11))), (q_14, .inr (0, [.int 0, .int 0, .int 0, .int 0, .int 1, .int 0, .int 0, .int 0, .ref q_15, .ref q_16])), (q_15, .inl (cA_2, 4, .inl (fun _ => 0))), (q_16, .inl (cA_2, 12, .inl (tu_lay 0 0 (fun _ => 0) 11)))]) [0, 1, 2, 3, 4, 5, 6, 7, 8, 9, 10, 11] rfl
  have hD := hD.sub (ws' := [(q, .inr (1, [.ref q_1, .ref q_3, .null, .null])), (q_1, .inl (cA_2, 2048, .inl (fun _ => 0))), (q_3, .inl (cA_4, 4, .inr (.inr (.inr (.inr (va_up (va_up (fun _ => none) 0 (some q_6)) 1 (some q_10))))))), (q_6, .inr (0, [.int 0, .int 0, .int 0, .int 0, .int 1, .int 0, .int 0, .int 0, .ref q_7, .ref q_8])), (q_7, .inl (cA_2, 4, .inl (fun _ => 0))), (q_8, .inl (cA_2, 12, .inl (tu_lay 0 0 (fun _ => 0) 11))), (q_10, .inr (0, [.int 0, .int 0, .int 0, .int 0, .int 1, .int 0, .int 0, .int 0, .ref q_11, .ref q_12])), (q_11, .inl (cA_2, 4, .inl (fun _ => 0))), (q_12, .inl (cA_2, 12, .inl (tu_lay 0 0 (fun _ => 0) 11))), (q_14, .inr (0, [.int 0, .int 0, .int 0, .int 0, .int 1, .int 0, .int 0, .int 0, .ref q_15, .ref q_16])), (q_15, .inl (cA_2, 4, .inl (fun _ => 0))), (q_16, .inl (cA_2, 12, .inl (tu_lay 0 0 (fun _ => 0) 11)))]) [0, 1, 2, 3, 4, 5, 6, 7, 8, 9, 10, 11] (by decide) rfl
  clear hPc hDc hFc hP1 hK1 hD1 hk1 hz1
  generalize H1 = H at hP hS ⊢
  refine W.widen (k := 11) (n := 2130) (Nat.le_of_ble_eq_true rfl) (Nat.le_of_ble_eq_true rfl) ?_
  refine va_astq hx hb hK hP hD hS 2 1 9 0 rfl rfl rfl rfl (tu_in (by decide)) dX1_init_40 (fun H locs hP hD hS => ?_)
  have hP : va_P (dC, dI) vwCl [(q, .inr (1, [.ref q_1, .ref q_3, .null, .null])), (q_1, .inl (cA_2, 2048, .inl (fun _ => 0))), (q_3, .inl (cA_4, 4, .inr (.inr (.inr (.inr (va_up (va_up (va_up (fun _ => none) 0 (some q_6)) 1 (some q_10)) 2 (some q_14))))))), (q_6, .inr (0, [.int 0, .int 0, .int 0, .int 0, .int 1, .int 0, .int 0, .int 0, .ref q_7, .ref q_8])), (q_7, .inl (cA_2, 4, .inl (fun _ => 0))), (q_8, .inl (cA_2, 12, .inl (tu_lay 0 0 (fun _ => 0) 11))), (q_10, .inr (0, [.int 0, .int 0, .int 0, .int 0, .int 1, .int 0, .int 0, .int 0, .ref q_11, .ref q_12])), (q_11, .inl (cA_2, 4, .inl (fun _ => 0))), (q_12, .inl (cA_2, 12, .inl (tu_lay 0 0 (fun _ => 0) 11))), (q_14, .inr (0, [.int 0, .int 0, .int 0, .int 0, .int 1, .int 0, .int 0, .int 0, .ref q_15, .ref q_16])), (q_15, .inl (cA_2, 4, .inl (fun _ => 0))), (q_16, .inl (cA_2, 12, .inl (tu_lay 0 0 (fun _ => 0) 11)))] H := hP
  have hD : va_D A [(q, .inr (1, [.ref q_1, .ref q_3, .null, .null])), (q_1, .inl (cA_2, 2048, .inl (fun _ => 0))), (q_3, .inl (cA_4, 4, .inr (.inr (.inr (.inr (va_up (va_up (va_up (fun _ => none) 0 (some q_6)) 1 (some q_10)) 2 (some q_14))))))), (q_6, .inr (0, [.int 0, .int 0, .int 0, .int 0, .int 1, .int 0, .int 0, .int 0, .ref q_7, .ref q_8])), (q_7, .inl (cA_2, 4, .inl (fun _ => 0))), (q_8, .inl (cA_2, 12, .inl (tu_lay 0 0 (fun _ => 0) 11))), (q_10, .inr (0, [.int 0, .int 0, .int 0, .int 0, .int 1, .int 0, .int 0, .int 0, .ref q_11, .ref q_12])), (q_11, .inl (cA_2, 4, .inl (fun _ => 0))), (q_12, .inl (cA_2, 12, .inl (tu_lay 0 0 (fun _ => 0) 11))), (q_14, .inr (0, [.int 0, .int 0, .int 0, .int 0, .int 1, .int 0, .int 0, .int 0, .ref q_15, .ref q_16])), (q_15, .inl (cA_2, 4, .inl (fun _ => 0))), (q_16, .inl (cA_2, 12, .inl (tu_lay 0 0 (fun _ => 0) 11)))] := hD
  refine lv_iinc (v := 3) (lv' := [(1, .int 3), (0, .ref q)]) hx hb dX1_init_41 hl (k := 0) rfl (by decide) (by decide) rfl (fun ls hl => ?_)
  refine lv_goto (tgt := 23) hx hb dX1_init_44 (by decide) ?_
  refine lv_iload_n hx hb dX1_init_23 rfl (lv_at hl 0 rfl) ?_
  refine lv_iconst (v := 4) hx hb dX1_init_24 (by decide) ?_
  refine lv_icmp_ge (tgt := 47) hx hb dX1_init_25 (by decide) (fun c_17 => absurd c_17 (by decide)) (fun c_17 => ?_)
  refine lv_aload_n hx hb dX1_init_28 rfl (lv_at hl 1 rfl) ?_
  refine va_get (D := (dC, dI)) (ci := 1) (v := .ref q_3) (C := "TextureUnits") (T := TX1) (N := 4) hx hb hts (tw_s inX1) hown hK hP 0 rfl rfl 1 (by decide) (hts _ (tw_c tw_74)) (fun _ h9 => h9) rfl dX1_init_29 ?_
  refine lv_iload_n hx hb dX1_init_32 rfl (lv_at hl 0 rfl) ?_
  refine va_new (ci := 0) (fs := [.int 0, .int 0, .int 0, .int 0, .int 0, .int 0, .int 0, .int 0, .null, .null]) (C := "TextureUnits$Unit") (T := TX0) (N := 10) hx hb hts (tw_s inX0) tyX0 tyX0_ok hown (hts _ (tw_c tw_19)) (hts _ (tw_c tw_21)) (hts _ (tw_c tw_2)) hK hP hD hS hA rfl (by decide) (Nat.le_of_ble_eq_true rfl) (Nat.le_of_ble_eq_true rfl) dX1_init_33 (fun q_18 H hP hD hS => ?_)
  refine W.widen (k := 12) (n := 2140) (Nat.le_of_ble_eq_true rfl) (Nat.le_of_ble_eq_true rfl) ?_
  have hP : va_P (dC, dI) vwCl [(q, .inr (1, [.ref q_1, .ref q_3, .null, .null])), (q_1, .inl (cA_2, 2048, .inl (fun _ => 0))), (q_3, .inl (cA_4, 4, .inr (.inr (.inr (.inr (va_up (va_up (va_up (fun _ => none) 0 (some q_6)) 1 (some q_10)) 2 (some q_14))))))), (q_6, .inr (0, [.int 0, .int 0, .int 0, .int 0, .int 1, .int 0, .int 0, .int 0, .ref q_7, .ref q_8])), (q_7, .inl (cA_2, 4, .inl (fun _ => 0))), (q_8, .inl (cA_2, 12, .inl (tu_lay 0 0 (fun _ => 0) 11))), (q_10, .inr (0, [.int 0, .int 0, .int 0, .int 0, .int 1, .int 0, .int 0, .int 0, .ref q_11, .ref q_12])), (q_11, .inl (cA_2, 4, .inl (fun _ => 0))), (q_12, .inl (cA_2, 12, .inl (tu_lay 0 0 (fun _ => 0) 11))), (q_14, .inr (0, [.int 0, .int 0, .int 0, .int 0, .int 1, .int 0, .int 0, .int 0, .ref q_15, .ref q_16])), (q_15, .inl (cA_2, 4, .inl (fun _ => 0))), (q_16, .inl (cA_2, 12, .inl (tu_lay 0 0 (fun _ => 0) 11))), (q_18, .inr (0, [.int 0, .int 0, .int 0, .int 0, .int 0, .int 0, .int 0, .int 0, .null, .null]))] H := hP
  have hD : va_D A [(q, .inr (1, [.ref q_1, .ref q_3, .null, .null])), (q_1, .inl (cA_2, 2048, .inl (fun _ => 0))), (q_3, .inl (cA_4, 4, .inr (.inr (.inr (.inr (va_up (va_up (va_up (fun _ => none) 0 (some q_6)) 1 (some q_10)) 2 (some q_14))))))), (q_6, .inr (0, [.int 0, .int 0, .int 0, .int 0, .int 1, .int 0, .int 0, .int 0, .ref q_7, .ref q_8])), (q_7, .inl (cA_2, 4, .inl (fun _ => 0))), (q_8, .inl (cA_2, 12, .inl (tu_lay 0 0 (fun _ => 0) 11))), (q_10, .inr (0, [.int 0, .int 0, .int 0, .int 0, .int 1, .int 0, .int 0, .int 0, .ref q_11, .ref q_12])), (q_11, .inl (cA_2, 4, .inl (fun _ => 0))), (q_12, .inl (cA_2, 12, .inl (tu_lay 0 0 (fun _ => 0) 11))), (q_14, .inr (0, [.int 0, .int 0, .int 0, .int 0, .int 1, .int 0, .int 0, .int 0, .ref q_15, .ref q_16])), (q_15, .inl (cA_2, 4, .inl (fun _ => 0))), (q_16, .inl (cA_2, 12, .inl (tu_lay 0 0 (fun _ => 0) 11))), (q_18, .inr (0, [.int 0, .int 0, .int 0, .int 0, .int 0, .int 0, .int 0, .int 0, .null, .null]))] := hD
  refine lv_dup hx hb dX1_init_36 rfl ?_
  have hPc := hP.sub (ws' := [(q_18, .inr (0, [.int 0, .int 0, .int 0, .int 0, .int 0, .int 0, .int 0, .int 0, .null, .null]))]) [12] rfl
  have hDc := hD.sub (ws' := [(q_18, .inr (0, [.int 0, .int 0, .int 0, .int 0, .int 0, .int 0, .int 0, .int 0, .null, .null]))]) [12] (by decide) rfl
  have hFc := va_free (wc := [(q_18, .inr (0, [.int 0, .int 0, .int 0, .int 0, .int 0, .int 0, .int 0, .int 0, .null, .null]))]) hD hS hA [12] rfl
  refine va_callv (va_runI (As := []) (rest := [.ref q_18, .int 3, .ref q_3]) ⟨hx, hb, hml, hown, hts⟩ (w_Unit l dC dI q_18 cA_2 H.size) (cwI 0 hts (tg_0 tw_24) rfl rfl rfl (hts _ (tw_c tw_2)) (hts _ (tw_c tw_22)) (hts _ (tw_c tw_23)) rfl (by decide +kernel) ⟨Nat.le_of_ble_eq_true rfl, Nat.le_of_ble_eq_true rfl⟩) ⟨wr_blind, fun U hU hW => ⟨rfl, wr_use hPc (hK.sub [0] rfl) hDc U hU hW⟩⟩ rfl rfl hl.1 rfl (lv_room (Nat.le_of_ble_eq_true rfl)) dX1_init_37 ⟨Nat.le_of_ble_eq_true rfl, Nat.le_of_ble_eq_true rfl⟩) hS (fun q _ h => hFc q h) hFc (fun u9 t9 H1 locs ht hvm hw hB hz1 hk1 hS => ?_)
  obtain ⟨q_19, q_20, hP1, hK1, hD1⟩ := hB
  rw [ht] at hP1
  obtain ⟨hP, hD⟩ := va_join (wr := [(q, .inr (1, [.ref q_1, .ref q_3, .null, .null])), (q_1, .inl (cA_2, 2048, .inl (fun _ => 0))), (q_3, .inl (cA_4, 4, .inr (.inr (.inr (.inr (va_up (va_up (va_up (fun _ => none) 0 (some q_6)) 1 (some q_10)) 2 (some q_14))))))), (q_6, .inr (0, [.int 0, .int 0, .int 0, .int 0, .int 1, .int 0, .int 0, .int 0, .ref q_7, .ref q_8])), (q_7, .inl (cA_2, 4, .inl (fun _ => 0))), (q_8, .inl (cA_2, 12, .inl (tu_lay 0 0 (fun _ => 0) 11))), (q_10, .inr (0, [.int 0, .int 0, .int 0, .int 0, .int 1, .int 0, .int 0, .int 0, .ref q_11, .ref q_12])), (q_11, .inl (cA_2, 4, .inl (fun _ => 0))), (q_12, .inl (cA_2, 12, .inl (tu_lay 0 0 (fun _ => 0) 11))), (q_14, .inr (0, [.int 0, .int 0, .int 0, .int 0, .int 1, .int 0, .int 0, .int 0, .ref q_15, .ref q_16])), (q_15, .inl (cA_2, 4, .inl (fun _ => 0))), (q_16, .inl (cA_2, 12, .inl (tu_lay 0 0 (fun _ => 0) 11)))]) (w1 := [(q_18, .inr (0, [.int 0, .int 0, .int 0, .int 0, .int 1, .int 0, .int 0, .int 0, .ref q_19, .ref q_20])), (q_19, .inl (cA_2, 4, .inl (fun _ => 0))), (q_20, .inl (cA_2, 12, .inl (tu_lay 0 0 (fun _ => 0) 11)))]) hP hD [12] [0, 1, 2, 3, 4, 5, 6, 7, 8, 9, 10, 11] rfl rfl (by decide) (by decide) hk1 hFc hP1 hD1
  have hP := hP.sub (ws' := [(q, .inr (1, [.ref q_1, .ref q_3, .null, .null])), (q_1, .inl (cA_2, 2048, .inl (fun _ => 0))), (q_3, .inl (cA_4, 4, .inr (.inr (.inr (.inr (va_up (va_up (va_up (fun _ => none) 0 (some q_6)) 1 (some q_10)) 2 (some q_14))))))), (q_6, .inr (0, [.int 0, .int 0, .int 0, .int 0, .int 1, .int 0, .int 0, .int 0, .ref q_7, .ref q_8])), (q_7, .inl (cA_2, 4, .inl (fun _ => 0))), (q_8, .inl (cA_2, 12, .inl (tu_lay 0 0 (fun _ => 0) 11))), (q_10, .inr (0, [.int 0, .int 0, .int 0, .int 0, .int 1, .int 0, .int 0, .int 0, .ref q_11, .ref q_12])), (q_11, .inl (cA_2, 4, .inl (fun _ => 0))), (q_12, .inl (cA_2, 12, .inl (tu_lay 0 0 (fun _ => 0) 11))), (q_14, .inr (0, [.int 0, .int 0, .int 0, .int 0, .int 1, .int 0, .int 0, .int 0, .ref q_15, .ref q_16])), (q_15, .inl (cA_2, 4, .inl (fun _ => 0))), (q_16, .inl (cA_2, 12, .inl (tu_lay 0 0 (fun _ => 0) 11))), (q_18, .inr (0, [.int 0, .int 0, .int 0, .int 0, .int 1, .int 0, .int 0, .int 0, .ref q_19, .ref q_20])), (q_19, .inl (cA_2, 4, .inl (fun _ => 0))), (q_20, .inl (cA_2, 12, .inl (tu_lay 0 0 (fun _ => 0) 11)))]) [0, 1, 2, 3, 4, 5, 6, 7, 8, 9, 10, 11, 12, 13, 14] rfl
  have hD := hD.sub (ws' := [(q, .inr (1, [.ref q_1, .ref q_3, .null, .null])), (q_1, .inl (cA_2, 2048, .inl (fun _ => 0))), (q_3, .inl (cA_4, 4, .inr (.inr (.inr (.inr (va_up (va_up (va_up (fun _ => none) 0 (some q_6)) 1 (some q_10)) 2 (some q_14))))))), (q_6, .inr (0, [.int 0, .int 0, .int 0, .int 0, .int 1, .int 0, .int 0, .int 0, .ref q_7, .ref q_8])), (q_7, .inl (cA_2, 4, .inl (fun _ => 0))), (q_8, .inl (cA_2, 12, .inl (tu_lay 0 0 (fun _ => 0) 11))), (q_10, .inr (0, [.int 0, .int 0, .int 0, .int 0, .int 1, .int 0, .int 0, .int 0, .ref q_11, .ref q_12])), (q_11, .inl (cA_2, 4, .inl (fun _ => 0))), (q_12, .inl (cA_2, 12, .inl (tu_lay 0 0 (fun _ => 0) 11))), (q_14, .inr (0, [.int 0, .int 0, .int 0, .int 0, .int 1, .int 0, .int 0, .int 0, .ref q_15, .ref q_16])), (q_15, .inl (cA_2, 4, .inl (fun _ => 0))), (q_16, .inl (cA_2, 12, .inl (tu_lay 0 0 (fun _ => 0) 11))), (q_18, .inr (0, [.int 0, .int 0, .int 0, .int 0, .int 1, .int 0, .int 0, .int 0, .ref q_19, .ref q_20])), (q_19, .inl (cA_2, 4, .inl (fun _ => 0))), (q_20, .inl (cA_2, 12, .inl (tu_lay 0 0 (fun _ => 0) 11)))]) [0, 1, 2, 3, 4, 5, 6, 7, 8, 9, 10, 11, 12, 13, 14] (by decide) rfl
  clear hPc hDc hFc hP1 hK1 hD1 hk1 hz1
  generalize H1 = H at hP hS ⊢
  refine W.widen (k := 14) (n := 2156) (Nat.le_of_ble_eq_true rfl) (Nat.le_of_ble_eq_true rfl) ?_
  refine va_astq hx hb hK hP hD hS 2 1 12 0 rfl rfl rfl rfl (tu_in (by decide)) dX1_init_40 (fun H locs hP hD hS => ?_)
  have hP : va_P (dC, dI) vwCl [(q, .inr (1, [.ref q_1, .ref q_3, .null, .null])), (q_1, .inl (cA_2, 2048, .inl (fun _ => 0))), (q_3, .inl (cA_4, 4, .inr (.inr (.inr (.inr (va_up (va_up (va_up (va_up (fun _ => none) 0 (some q_6)) 1 (some q_10)) 2 (some q_14)) 3 (some q_18))))))), (q_6, .inr (0, [.int 0, .int 0, .int 0, .int 0, .int 1, .int 0, .int 0, .int 0, .ref q_7, .ref q_8])), (q_7, .inl (cA_2, 4, .inl (fun _ => 0))), (q_8, .inl (cA_2, 12, .inl (tu_lay 0 0 (fun _ => 0) 11))), (q_10, .inr (0, [.int 0, .int 0, .int 0, .int 0, .int 1, .int 0, .int 0, .int 0, .ref q_11, .ref q_12])), (q_11, .inl (cA_2, 4, .inl (fun _ => 0))), (q_12, .inl (cA_2, 12, .inl (tu_lay 0 0 (fun _ => 0) 11))), (q_14, .inr (0, [.int 0, .int 0, .int 0, .int 0, .int 1, .int 0, .int 0, .int 0, .ref q_15, .ref q_16])), (q_15, .inl (cA_2, 4, .inl (fun _ => 0))), (q_16, .inl (cA_2, 12, .inl (tu_lay 0 0 (fun _ => 0) 11))), (q_18, .inr (0, [.int 0, .int 0, .int 0, .int 0, .int 1, .int 0, .int 0, .int 0, .ref q_19, .ref q_20])), (q_19, .inl (cA_2, 4, .inl (fun _ => 0))), (q_20, .inl (cA_2, 12, .inl (tu_lay 0 0 (fun _ => 0) 11)))] H := hP
  have hD : va_D A [(q, .inr (1, [.ref q_1, .ref q_3, .null, .null])), (q_1, .inl (cA_2, 2048, .inl (fun _ => 0))), (q_3, .inl (cA_4, 4, .inr (.inr (.inr (.inr (va_up (va_up (va_up (va_up (fun _ => none) 0 (some q_6)) 1 (some q_10)) 2 (some q_14)) 3 (some q_18))))))), (q_6, .inr (0, [.int 0, .int 0, .int 0, .int 0, .int 1, .int 0, .int 0, .int 0, .ref q_7, .ref q_8])), (q_7, .inl (cA_2, 4, .inl (fun _ => 0))), (q_8, .inl (cA_2, 12, .inl (tu_lay 0 0 (fun _ => 0) 11))), (q_10, .inr (0, [.int 0, .int 0, .int 0, .int 0, .int 1, .int 0, .int 0, .int 0, .ref q_11, .ref q_12])), (q_11, .inl (cA_2, 4, .inl (fun _ => 0))), (q_12, .inl (cA_2, 12, .inl (tu_lay 0 0 (fun _ => 0) 11))), (q_14, .inr (0, [.int 0, .int 0, .int 0, .int 0, .int 1, .int 0, .int 0, .int 0, .ref q_15, .ref q_16])), (q_15, .inl (cA_2, 4, .inl (fun _ => 0))), (q_16, .inl (cA_2, 12, .inl (tu_lay 0 0 (fun _ => 0) 11))), (q_18, .inr (0, [.int 0, .int 0, .int 0, .int 0, .int 1, .int 0, .int 0, .int 0, .ref q_19, .ref q_20])), (q_19, .inl (cA_2, 4, .inl (fun _ => 0))), (q_20, .inl (cA_2, 12, .inl (tu_lay 0 0 (fun _ => 0) 11)))] := hD
  refine lv_iinc (v := 4) (lv' := [(1, .int 4), (0, .ref q)]) hx hb dX1_init_41 hl (k := 0) rfl (by decide) (by decide) rfl (fun ls hl => ?_)
  refine lv_goto (tgt := 23) hx hb dX1_init_44 (by decide) ?_
  refine lv_iload_n hx hb dX1_init_23 rfl (lv_at hl 0 rfl) ?_
  refine lv_iconst (v := 4) hx hb dX1_init_24 (by decide) ?_
  refine lv_icmp_ge (tgt := 47) hx hb dX1_init_25 (by decide) (fun c_21 => ?_) (fun c_21 => absurd (by decide) c_21)
  refine lv_aload_n hx hb dX1_init_47 rfl (lv_at hl 1 rfl) ?_
  refine lv_iconst (v := 4) hx hb dX1_init_48 (by decide) ?_
  refine va_newa (atype := .int) (ty := .int) (a0 := (4, .inl (fun _ => 0))) (N' := 4) hx hb (hts _ (tw_c tw_72)) rfl hK hP hD hS hA (fun _ => rfl) (by decide) (by decide) (by decide) (Nat.le_of_ble_eq_true rfl) (Nat.le_of_ble_eq_true rfl) dX1_init_49 (fun q_22 cA_23 H hK hP hD hS => ?_)
  have e9 : cA_2 = cA_23 := tu_cA hK 0 2 rfl rfl
  subst e9
  have hK := hK.sub (tys' := [(cA_2, .int), (cA_4, .object "TextureUnits$Unit")]) [0, 1] rfl
  refine W.widen (k := 15) (n := 2160) (Nat.le_of_ble_eq_true rfl) (Nat.le_of_ble_eq_true rfl) ?_
  have hP : va_P (dC, dI) vwCl [(q, .inr (1, [.ref q_1, .ref q_3, .null, .null])), (q_1, .inl (cA_2, 2048, .inl (fun _ => 0))), (q_3, .inl (cA_4, 4, .inr (.inr (.inr (.inr (va_up (va_up (va_up (va_up (fun _ => none) 0 (some q_6)) 1 (some q_10)) 2 (some q_14)) 3 (some q_18))))))), (q_6, .inr (0, [.int 0, .int 0, .int 0, .int 0, .int 1, .int 0, .int 0, .int 0, .ref q_7, .ref q_8])), (q_7, .inl (cA_2, 4, .inl (fun _ => 0))), (q_8, .inl (cA_2, 12, .inl (tu_lay 0 0 (fun _ => 0) 11))), (q_10, .inr (0, [.int 0, .int 0, .int 0, .int 0, .int 1, .int 0, .int 0, .int 0, .ref q_11, .ref q_12])), (q_11, .inl (cA_2, 4, .inl (fun _ => 0))), (q_12, .inl (cA_2, 12, .inl (tu_lay 0 0 (fun _ => 0) 11))), (q_14, .inr (0, [.int 0, .int 0, .int 0, .int 0, .int 1, .int 0, .int 0, .int 0, .ref q_15, .ref q_16])), (q_15, .inl (cA_2, 4, .inl (fun _ => 0))), (q_16, .inl (cA_2, 12, .inl (tu_lay 0 0 (fun _ => 0) 11))), (q_18, .inr (0, [.int 0, .int 0, .int 0, .int 0, .int 1, .int 0, .int 0, .int 0, .ref q_19, .ref q_20])), (q_19, .inl (cA_2, 4, .inl (fun _ => 0))), (q_20, .inl (cA_2, 12, .inl (tu_lay 0 0 (fun _ => 0) 11))), (q_22, .inl (cA_2, 4, .inl (fun _ => 0)))] H := hP
  have hD : va_D A [(q, .inr (1, [.ref q_1, .ref q_3, .null, .null])), (q_1, .inl (cA_2, 2048, .inl (fun _ => 0))), (q_3, .inl (cA_4, 4, .inr (.inr (.inr (.inr (va_up (va_up (va_up (va_up (fun _ => none) 0 (some q_6)) 1 (some q_10)) 2 (some q_14)) 3 (some q_18))))))), (q_6, .inr (0, [.int 0, .int 0, .int 0, .int 0, .int 1, .int 0, .int 0, .int 0, .ref q_7, .ref q_8])), (q_7, .inl (cA_2, 4, .inl (fun _ => 0))), (q_8, .inl (cA_2, 12, .inl (tu_lay 0 0 (fun _ => 0) 11))), (q_10, .inr (0, [.int 0, .int 0, .int 0, .int 0, .int 1, .int 0, .int 0, .int 0, .ref q_11, .ref q_12])), (q_11, .inl (cA_2, 4, .inl (fun _ => 0))), (q_12, .inl (cA_2, 12, .inl (tu_lay 0 0 (fun _ => 0) 11))), (q_14, .inr (0, [.int 0, .int 0, .int 0, .int 0, .int 1, .int 0, .int 0, .int 0, .ref q_15, .ref q_16])), (q_15, .inl (cA_2, 4, .inl (fun _ => 0))), (q_16, .inl (cA_2, 12, .inl (tu_lay 0 0 (fun _ => 0) 11))), (q_18, .inr (0, [.int 0, .int 0, .int 0, .int 0, .int 1, .int 0, .int 0, .int 0, .ref q_19, .ref q_20])), (q_19, .inl (cA_2, 4, .inl (fun _ => 0))), (q_20, .inl (cA_2, 12, .inl (tu_lay 0 0 (fun _ => 0) 11))), (q_22, .inl (cA_2, 4, .inl (fun _ => 0)))] := hD
  refine va_putF (D := (dC, dI)) (ci := 1) (v := .ref q_22) (ty := (.array .int)) (C := "TextureUnits") (T := TX1) (N := 4) hx hb hts (tw_s inX1) tyX1 tyX1_ok nmX1 hown hK hP hD hS 0 rfl rfl 2 (by decide) (hts _ (tw_c tw_75)) (fun _ h9 => h9) rfl hin rfl (by decide +kernel) rfl rfl (Nat.le_of_ble_eq_true rfl) dX1_init_51 (fun H locs hP hD hS => ?_)
  have hP : va_P (dC, dI) vwCl [(q, .inr (1, [.ref q_1, .ref q_3, .ref q_22, .null])), (q_1, .inl (cA_2, 2048, .inl (fun _ => 0))), (q_3, .inl (cA_4, 4, .inr (.inr (.inr (.inr (va_up (va_up (va_up (va_up (fun _ => none) 0 (some q_6)) 1 (some q_10)) 2 (some q_14)) 3 (some q_18))))))), (q_6, .inr (0, [.int 0, .int 0, .int 0, .int 0, .int 1, .int 0, .int 0, .int 0, .ref q_7, .ref q_8])), (q_7, .inl (cA_2, 4, .inl (fun _ => 0))), (q_8, .inl (cA_2, 12, .inl (tu_lay 0 0 (fun _ => 0) 11))), (q_10, .inr (0, [.int 0, .int 0, .int 0, .int 0, .int 1, .int 0, .int 0, .int 0, .ref q_11, .ref q_12])), (q_11, .inl (cA_2, 4, .inl (fun _ => 0))), (q_12, .inl (cA_2, 12, .inl (tu_lay 0 0 (fun _ => 0) 11))), (q_14, .inr (0, [.int 0, .int 0, .int 0, .int 0, .int 1, .int 0, .int 0, .int 0, .ref q_15, .ref q_16])), (q_15, .inl (cA_2, 4, .inl (fun _ => 0))), (q_16, .inl (cA_2, 12, .inl (tu_lay 0 0 (fun _ => 0) 11))), (q_18, .inr (0, [.int 0, .int 0, .int 0, .int 0, .int 1, .int 0, .int 0, .int 0, .ref q_19, .ref q_20])), (q_19, .inl (cA_2, 4, .inl (fun _ => 0))), (q_20, .inl (cA_2, 12, .inl (tu_lay 0 0 (fun _ => 0) 11))), (q_22, .inl (cA_2, 4, .inl (fun _ => 0)))] H := hP
  have hD : va_D A [(q, .inr (1, [.ref q_1, .ref q_3, .ref q_22, .null])), (q_1, .inl (cA_2, 2048, .inl (fun _ => 0))), (q_3, .inl (cA_4, 4, .inr (.inr (.inr (.inr (va_up (va_up (va_up (va_up (fun _ => none) 0 (some q_6)) 1 (some q_10)) 2 (some q_14)) 3 (some q_18))))))), (q_6, .inr (0, [.int 0, .int 0, .int 0, .int 0, .int 1, .int 0, .int 0, .int 0, .ref q_7, .ref q_8])), (q_7, .inl (cA_2, 4, .inl (fun _ => 0))), (q_8, .inl (cA_2, 12, .inl (tu_lay 0 0 (fun _ => 0) 11))), (q_10, .inr (0, [.int 0, .int 0, .int 0, .int 0, .int 1, .int 0, .int 0, .int 0, .ref q_11, .ref q_12])), (q_11, .inl (cA_2, 4, .inl (fun _ => 0))), (q_12, .inl (cA_2, 12, .inl (tu_lay 0 0 (fun _ => 0) 11))), (q_14, .inr (0, [.int 0, .int 0, .int 0, .int 0, .int 1, .int 0, .int 0, .int 0, .ref q_15, .ref q_16])), (q_15, .inl (cA_2, 4, .inl (fun _ => 0))), (q_16, .inl (cA_2, 12, .inl (tu_lay 0 0 (fun _ => 0) 11))), (q_18, .inr (0, [.int 0, .int 0, .int 0, .int 0, .int 1, .int 0, .int 0, .int 0, .ref q_19, .ref q_20])), (q_19, .inl (cA_2, 4, .inl (fun _ => 0))), (q_20, .inl (cA_2, 12, .inl (tu_lay 0 0 (fun _ => 0) 11))), (q_22, .inl (cA_2, 4, .inl (fun _ => 0)))] := hD
  refine lv_aload_n hx hb dX1_init_54 rfl (lv_at hl 1 rfl) ?_
  refine lv_iconst (v := 4) hx hb dX1_init_55 (by decide) ?_
  refine va_newa (atype := .int) (ty := .int) (a0 := (4, .inl (fun _ => 0))) (N' := 4) hx hb (hts _ (tw_c tw_72)) rfl hK hP hD hS hA (fun _ => rfl) (by decide) (by decide) (by decide) (Nat.le_of_ble_eq_true rfl) (Nat.le_of_ble_eq_true rfl) dX1_init_56 (fun q_24 cA_25 H hK hP hD hS => ?_)
  have e9 : cA_2 = cA_25 := tu_cA hK 0 2 rfl rfl
  subst e9
  have hK := hK.sub (tys' := [(cA_2, .int), (cA_4, .object "TextureUnits$Unit")]) [0, 1] rfl
  refine W.widen (k := 16) (n := 2164) (Nat.le_of_ble_eq_true rfl) (Nat.le_of_ble_eq_true rfl) ?_
  have hP : va_P (dC, dI) vwCl [(q, .inr (1, [.ref q_1, .ref q_3, .ref q_22, .null])), (q_1, .inl (cA_2, 2048, .inl (fun _ => 0))), (q_3, .inl (cA_4, 4, .inr (.inr (.inr (.inr (va_up (va_up (va_up (va_up (fun _ => none) 0 (some q_6)) 1 (some q_10)) 2 (some q_14)) 3 (some q_18))))))), (q_6, .inr (0, [.int 0, .int 0, .int 0, .int 0, .int 1, .int 0, .int 0, .int 0, .ref q_7, .ref q_8])), (q_7, .inl (cA_2, 4, .inl (fun _ => 0))), (q_8, .inl (cA_2, 12, .inl (tu_lay 0 0 (fun _ => 0) 11))), (q_10, .inr (0, [.int 0, .int 0, .int 0, .int 0, .int 1, .int 0, .int 0, .int 0, .ref q_11, .ref q_12])), (q_11, .inl (cA_2, 4, .inl (fun _ => 0))), (q_12, .inl (cA_2, 12, .inl (tu_lay 0 0 (fun _ => 0) 11))), (q_14, .inr (0, [.int 0, .int 0, .int 0, .int 0, .int 1, .int 0, .int 0, .int 0, .ref q_15, .ref q_16])), (q_15, .inl (cA_2, 4, .inl (fun _ => 0))), (q_16, .inl (cA_2, 12, .inl (tu_lay 0 0 (fun _ => 0) 11))), (q_18, .inr (0, [.int 0, .int 0, .int 0, .int 0, .int 1, .int 0, .int 0, .int 0, .ref q_19, .ref q_20])), (q_19, .inl (cA_2, 4, .inl (fun _ => 0))), (q_20, .inl (cA_2, 12, .inl (tu_lay 0 0 (fun _ => 0) 11))), (q_22, .inl (cA_2, 4, .inl (fun _ => 0))), (q_24, .inl (cA_2, 4, .inl (fun _ => 0)))] H := hP
  have hD : va_D A [(q, .inr (1, [.ref q_1, .ref q_3, .ref q_22, .null])), (q_1, .inl (cA_2, 2048, .inl (fun _ => 0))), (q_3, .inl (cA_4, 4, .inr (.inr (.inr (.inr (va_up (va_up (va_up (va_up (fun _ => none) 0 (some q_6)) 1 (some q_10)) 2 (some q_14)) 3 (some q_18))))))), (q_6, .inr (0, [.int 0, .int 0, .int 0, .int 0, .int 1, .int 0, .int 0, .int 0, .ref q_7, .ref q_8])), (q_7, .inl (cA_2, 4, .inl (fun _ => 0))), (q_8, .inl (cA_2, 12, .inl (tu_lay 0 0 (fun _ => 0) 11))), (q_10, .inr (0, [.int 0, .int 0, .int 0, .int 0, .int 1, .int 0, .int 0, .int 0, .ref q_11, .ref q_12])), (q_11, .inl (cA_2, 4, .inl (fun _ => 0))), (q_12, .inl (cA_2, 12, .inl (tu_lay 0 0 (fun _ => 0) 11))), (q_14, .inr (0, [.int 0, .int 0, .int 0, .int 0, .int 1, .int 0, .int 0, .int 0, .ref q_15, .ref q_16])), (q_15, .inl (cA_2, 4, .inl (fun _ => 0))), (q_16, .inl (cA_2, 12, .inl (tu_lay 0 0 (fun _ => 0) 11))), (q_18, .inr (0, [.int 0, .int 0, .int 0, .int 0, .int 1, .int 0, .int 0, .int 0, .ref q_19, .ref q_20])), (q_19, .inl (cA_2, 4, .inl (fun _ => 0))), (q_20, .inl (cA_2, 12, .inl (tu_lay 0 0 (fun _ => 0) 11))), (q_22, .inl (cA_2, 4, .inl (fun _ => 0))), (q_24, .inl (cA_2, 4, .inl (fun _ => 0)))] := hD
  refine va_putF (D := (dC, dI)) (ci := 1) (v := .ref q_24) (ty := (.array .int)) (C := "TextureUnits") (T := TX1) (N := 4) hx hb hts (tw_s inX1) tyX1 tyX1_ok nmX1 hown hK hP hD hS 0 rfl rfl 3 (by decide) (hts _ (tw_c tw_76)) (fun _ h9 => h9) rfl hin rfl (by decide +kernel) rfl rfl (Nat.le_of_ble_eq_true rfl) dX1_init_58 (fun H locs hP hD hS => ?_)
  have hP : va_P (dC, dI) vwCl [(q, .inr (1, [.ref q_1, .ref q_3, .ref q_22, .ref q_24])), (q_1, .inl (cA_2, 2048, .inl (fun _ => 0))), (q_3, .inl (cA_4, 4, .inr (.inr (.inr (.inr (va_up (va_up (va_up (va_up (fun _ => none) 0 (some q_6)) 1 (some q_10)) 2 (some q_14)) 3 (some q_18))))))), (q_6, .inr (0, [.int 0, .int 0, .int 0, .int 0, .int 1, .int 0, .int 0, .int 0, .ref q_7, .ref q_8])), (q_7, .inl (cA_2, 4, .inl (fun _ => 0))), (q_8, .inl (cA_2, 12, .inl (tu_lay 0 0 (fun _ => 0) 11))), (q_10, .inr (0, [.int 0, .int 0, .int 0, .int 0, .int 1, .int 0, .int 0, .int 0, .ref q_11, .ref q_12])), (q_11, .inl (cA_2, 4, .inl (fun _ => 0))), (q_12, .inl (cA_2, 12, .inl (tu_lay 0 0 (fun _ => 0) 11))), (q_14, .inr (0, [.int 0, .int 0, .int 0, .int 0, .int 1, .int 0, .int 0, .int 0, .ref q_15, .ref q_16])), (q_15, .inl (cA_2, 4, .inl (fun _ => 0))), (q_16, .inl (cA_2, 12, .inl (tu_lay 0 0 (fun _ => 0) 11))), (q_18, .inr (0, [.int 0, .int 0, .int 0, .int 0, .int 1, .int 0, .int 0, .int 0, .ref q_19, .ref q_20])), (q_19, .inl (cA_2, 4, .inl (fun _ => 0))), (q_20, .inl (cA_2, 12, .inl (tu_lay 0 0 (fun _ => 0) 11))), (q_22, .inl (cA_2, 4, .inl (fun _ => 0))), (q_24, .inl (cA_2, 4, .inl (fun _ => 0)))] H := hP
  have hD : va_D A [(q, .inr (1, [.ref q_1, .ref q_3, .ref q_22, .ref q_24])), (q_1, .inl (cA_2, 2048, .inl (fun _ => 0))), (q_3, .inl (cA_4, 4, .inr (.inr (.inr (.inr (va_up (va_up (va_up (va_up (fun _ => none) 0 (some q_6)) 1 (some q_10)) 2 (some q_14)) 3 (some q_18))))))), (q_6, .inr (0, [.int 0, .int 0, .int 0, .int 0, .int 1, .int 0, .int 0, .int 0, .ref q_7, .ref q_8])), (q_7, .inl (cA_2, 4, .inl (fun _ => 0))), (q_8, .inl (cA_2, 12, .inl (tu_lay 0 0 (fun _ => 0) 11))), (q_10, .inr (0, [.int 0, .int 0, .int 0, .int 0, .int 1, .int 0, .int 0, .int 0, .ref q_11, .ref q_12])), (q_11, .inl (cA_2, 4, .inl (fun _ => 0))), (q_12, .inl (cA_2, 12, .inl (tu_lay 0 0 (fun _ => 0) 11))), (q_14, .inr (0, [.int 0, .int 0, .int 0, .int 0, .int 1, .int 0, .int 0, .int 0, .ref q_15, .ref q_16])), (q_15, .inl (cA_2, 4, .inl (fun _ => 0))), (q_16, .inl (cA_2, 12, .inl (tu_lay 0 0 (fun _ => 0) 11))), (q_18, .inr (0, [.int 0, .int 0, .int 0, .int 0, .int 1, .int 0, .int 0, .int 0, .ref q_19, .ref q_20])), (q_19, .inl (cA_2, 4, .inl (fun _ => 0))), (q_20, .inl (cA_2, 12, .inl (tu_lay 0 0 (fun _ => 0) 11))), (q_22, .inl (cA_2, 4, .inl (fun _ => 0))), (q_24, .inl (cA_2, 4, .inl (fun _ => 0)))] := hD
  skip
  have hP9 : va_P (dC, dI) vwCl [(q, .inr (1, [.ref q_1, .ref q_3, .ref q_22, .ref q_24])), (q_1, .inl (cA_2, 2048, .inl (fun _ => 0))), (q_3, .inl (cA_4, 4, .inr (.inr (.inr (.inr (va_up (va_up (va_up (va_up (fun _ => none) 0 (some q_6)) 1 (some q_10)) 2 (some q_14)) 3 (some q_18))))))), (q_6, .inr (0, [.int 0, .int 0, .int 0, .int 0, .int 1, .int 0, .int 0, .int 0, .ref q_7, .ref q_8])), (q_7, .inl (cA_2, 4, .inl (fun _ => 0))), (q_8, .inl (cA_2, 12, .inl (tu_lay 0 0 (fun _ => 0) 11))), (q_10, .inr (0, [.int 0, .int 0, .int 0, .int 0, .int 1, .int 0, .int 0, .int 0, .ref q_11, .ref q_12])), (q_11, .inl (cA_2, 4, .inl (fun _ => 0))), (q_12, .inl (cA_2, 12, .inl (tu_lay 0 0 (fun _ => 0) 11))), (q_14, .inr (0, [.int 0, .int 0, .int 0, .int 0, .int 1, .int 0, .int 0, .int 0, .ref q_15, .ref q_16])), (q_15, .inl (cA_2, 4, .inl (fun _ => 0))), (q_16, .inl (cA_2, 12, .inl (tu_lay 0 0 (fun _ => 0) 11))), (q_18, .inr (0, [.int 0, .int 0, .int 0, .int 0, .int 1, .int 0, .int 0, .int 0, .ref q_19, .ref q_20])), (q_19, .inl (cA_2, 4, .inl (fun _ => 0))), (q_20, .inl (cA_2, 12, .inl (tu_lay 0 0 (fun _ => 0) 11))), (q_22, .inl (cA_2, 4, .inl (fun _ => 0))), (q_24, .inl (cA_2, 4, .inl (fun _ => 0)))] H := hP.sub [0, 1, 2, 3, 4, 5, 6, 7, 8, 9, 10, 11, 12, 13, 14, 15, 16] rfl
  have hD9 : va_D A [(q, .inr (1, [.ref q_1, .ref q_3, .ref q_22, .ref q_24])), (q_1, .inl (cA_2, 2048, .inl (fun _ => 0))), (q_3, .inl (cA_4, 4, .inr (.inr (.inr (.inr (va_up (va_up (va_up (va_up (fun _ => none) 0 (some q_6)) 1 (some q_10)) 2 (some q_14)) 3 (some q_18))))))), (q_6, .inr (0, [.int 0, .int 0, .int 0, .int 0, .int 1, .int 0, .int 0, .int 0, .ref q_7, .ref q_8])), (q_7, .inl (cA_2, 4, .inl (fun _ => 0))), (q_8, .inl (cA_2, 12, .inl (tu_lay 0 0 (fun _ => 0) 11))), (q_10, .inr (0, [.int 0, .int 0, .int 0, .int 0, .int 1, .int 0, .int 0, .int 0, .ref q_11, .ref q_12])), (q_11, .inl (cA_2, 4, .inl (fun _ => 0))), (q_12, .inl (cA_2, 12, .inl (tu_lay 0 0 (fun _ => 0) 11))), (q_14, .inr (0, [.int 0, .int 0, .int 0, .int 0, .int 1, .int 0, .int 0, .int 0, .ref q_15, .ref q_16])), (q_15, .inl (cA_2, 4, .inl (fun _ => 0))), (q_16, .inl (cA_2, 12, .inl (tu_lay 0 0 (fun _ => 0) 11))), (q_18, .inr (0, [.int 0, .int 0, .int 0, .int 0, .int 1, .int 0, .int 0, .int 0, .ref q_19, .ref q_20])), (q_19, .inl (cA_2, 4, .inl (fun _ => 0))), (q_20, .inl (cA_2, 12, .inl (tu_lay 0 0 (fun _ => 0) 11))), (q_22, .inl (cA_2, 4, .inl (fun _ => 0))), (q_24, .inl (cA_2, 4, .inl (fun _ => 0)))] := hD.sub [0, 1, 2, 3, 4, 5, 6, 7, 8, 9, 10, 11, 12, 13, 14, 15, 16] (by decide) rfl
  have hK9 : va_K (dC, dI) vwCl [(cA_2, .int), (cA_4, .object "TextureUnits$Unit")] s := hK.sub [0, 1] rfl
  refine W.widen (k := 16) (n := 2164) (by omega) (by omega) ?_
  exact W.vret hx hb hr (fun t ht hW => ⟨⟨(), rfl, trivial, q_1, q_3, q_6, q_7, q_8, q_10, q_11, q_12, q_14, q_15, q_16, q_18, q_19, q_20, q_22, q_24, cA_2, cA_4, by rw [ht]; exact hP9, va_K.moved hW.alike hK9, hD9⟩, hS.F ht⟩) hS.2.2 dX1_init_61
set_option maxHeartbeats 4000000 in
set_option maxRecDepth 100000 in
theorem r_unitAt (l : Launch) (dC : Nat → ClassId) (dI : Nat → Nat → Nat) (q wd us la nx : Nat) (cU : ClassId) (g : Nat → Option Nat) (u : Nat) (p0 : Int32) (h0 : ¬ tu_win p0 0 3 = 0) (hg : g p0.toNatClampNeg = some u) : Met l yX1_unitAt wsX1_unitAt ({ frames := 1, cells := 0, slots := 0, locals := 22 }) (va_Pc [.ref q, .int p0] (rd_B (dC, dI) vwCl [(q, .inr (1, [.ref wd, .ref us, .ref la, .ref nx])), (us, .inl (cU, 4, .inr (.inr (.inr (.inr g)))))] [(cU, .object "TextureUnits$Unit")])) (k2_QcV (.ref u)) 0 0 (fun _ => False) := by
  refine Met.ofW (cc := cX1_unitAt) (maxL := 2) (ret := some (.object "TextureUnits$Unit")) (by decide) rfl ?_
  intro p e s m args below meth c s₁ B hml hv
  obtain ⟨rfl, hP, hK⟩ := hv
  have hx := B.exec
  have hb := B.bytes
  have hr := B.returns
  have hts := atoms_spec (ws := wsX1_unitAt) B.pre
  have hown : s.vm.findClass "TextureUnits" = some m.cls := findClass_of_methodNamed B.named
  have hlocks := B.notSynchronized
  have hl := lv_entry ([.ref q, .int p0]) (n := 2) (Nat.le_of_ble_eq_true rfl)
  rw [lg_entry_eq]
  generalize (lg_sl ([.ref q, .int p0]) ++ List.replicate (2 - (lg_sl ([.ref q, .int p0])).length) Slot.unset).toArray = ls at hl ⊢
  have hl : lv_has ls 2 [(0, .ref q), (1, .int p0)] := hl
  refine lv_iload_n hx hb dX1_unitAt_0 rfl (lv_at hl 1 rfl) ?_
  refine lv_iconst (v := 0) hx hb dX1_unitAt_1 (by decide) ?_
  refine lv_iconst (v := 3) hx hb dX1_unitAt_2 (by decide) ?_
  refine rd_call (W.runS (As := [.int p0, .int 0, .int 3]) (rest := []) ⟨hx, hb, hml, hown, hts⟩ (r_within l p0 0 3) (va_cwS 3 hts (tg_S tw_94 tw_95 tw_1 tw_96) rfl rfl rfl (by decide +kernel) ⟨Nat.le_of_ble_eq_true rfl, Nat.le_of_ble_eq_true rfl⟩) preEq rfl rfl hl.1 rfl (lv_room (Nat.le_of_ble_eq_true rfl)) dX1_unitAt_3 ⟨Nat.le_of_ble_eq_true rfl, Nat.le_of_ble_eq_true rfl⟩) ?_
  refine lv_if_ne (tgt := 19) hx hb dX1_unitAt_6 (by decide) (fun c_1 => ?_) (fun c_1 => absurd c_1 h0)
  refine lv_aload_n hx hb dX1_unitAt_19 rfl (lv_at hl 0 rfl) ?_
  refine va_get (D := (dC, dI)) (ci := 1) (v := .ref us) (C := "TextureUnits") (T := TX1) (N := 4) hx hb hts (tw_s inX1) hown hK hP 0 rfl rfl 1 (by decide) (hts _ (tw_c tw_74)) (fun _ h9 => h9) rfl dX1_unitAt_20 ?_
  refine lv_iload_n hx hb dX1_unitAt_23 rfl (lv_at hl 1 rfl) ?_
  refine va_aldq hx hb hK hP 1 0 rfl rfl (tu_win_in h0 (by decide)) dX1_unitAt_24 ?_
  refine W.eq (g2 := F0 m 25 ls [.ref u]) (by rw [hg]; rfl) ?_
  exact W.aret (v := .ref u) (rt := .object "TextureUnits$Unit") hx hb hr (Or.inl ⟨_, rfl⟩) (Or.inr ⟨_, rfl⟩) (fun t ht hW => ⟨rfl, ht⟩) (fun q h => by cases h) dX1_unitAt_25
set_option maxHeartbeats 4000000 in
set_option maxRecDepth 100000 in
theorem x_unitAt (l : Launch) (hst : l.stackTraces = false) (dC : Nat → ClassId) (dI : Nat → Nat → Nat) (q wd us la nx : Nat) (p0 : Int32) (h0 : tu_win p0 0 3 = 0) : tx_Met l yX1_unitAt wsX1_unitAt ({ frames := 6, cells := 1, slots := 6, locals := 82 }) (va_Pc [.ref q, .int p0] (tx_B (dC, dI) vwCl [(q, .inr (1, [.ref wd, .ref us, .ref la, .ref nx]))] [])) ex_S := by
  refine vx_ofW (cc := cX1_unitAt) (maxL := 2) (ret := some (.object "TextureUnits$Unit")) (by decide) rfl ?_
  intro p e s m args below meth c s₁ B hml hEx hv
  obtain ⟨rfl, hP, hK, hE⟩ := hv
  have hx := B.exec
  have hb := B.bytes
  have hr := B.returns
  have hts := atoms_spec (ws := wsX1_unitAt) B.pre
  have hown : s.vm.findClass "TextureUnits" = some m.cls := findClass_of_methodNamed B.named
  have hlocks := B.notSynchronized
  have hl := lv_entry ([.ref q, .int p0]) (n := 2) (Nat.le_of_ble_eq_true rfl)
  rw [lg_entry_eq]
  generalize (lg_sl ([.ref q, .int p0]) ++ List.replicate (2 - (lg_sl ([.ref q, .int p0])).length) Slot.unset).toArray = ls at hl ⊢
  have hl : lv_has ls 2 [(0, .ref q), (1, .int p0)] := hl
  refine lv_iload_n hx hb dX1_unitAt_0 rfl (lv_at hl 1 rfl) ?_
  refine lv_iconst (v := 0) hx hb dX1_unitAt_1 (by decide) ?_
  refine lv_iconst (v := 3) hx hb dX1_unitAt_2 (by decide) ?_
  refine rd_call (W.runS (As := [.int p0, .int 0, .int 3]) (rest := []) ⟨hx, hb, hml, hown, hts⟩ (r_within l p0 0 3) (va_cwS 3 hts (tg_S tw_94 tw_95 tw_1 tw_96) rfl rfl rfl (by decide +kernel) ⟨Nat.le_of_ble_eq_true rfl, Nat.le_of_ble_eq_true rfl⟩) preEq rfl rfl hl.1 rfl (lv_room (Nat.le_of_ble_eq_true rfl)) dX1_unitAt_3 ⟨Nat.le_of_ble_eq_true rfl, Nat.le_of_ble_eq_true rfl⟩) ?_
  refine lv_if_ne (tgt := 19) hx hb dX1_unitAt_6 (by decide) (fun c_1 => absurd h0 c_1) (fun c_1 => ?_)
  exact ex_throw (own := "TextureUnits") (cls := ex_S) (Y := "java/lang/RuntimeException") (r := ["java/lang/Exception"]) (text := "no such unit") hx hb hst ex_x2.1 ex_x2.2.1 ex_x2.2.2.1 ex_x2.2.2.2 hown (by decide +kernel) (by decide +kernel) (hts _ (tw_c tw_178)) (hts _ (tw_c tw_8)) (hE.2.1 (116, "no such unit") (by decide)) (ex_hS hts hE) (hl.1.trans hml.symm) dX1_unitAt_9 dX1_unitAt_12 dX1_unitAt_13 dX1_unitAt_15 dX1_unitAt_18 (fun x hx => (hEx x hx).elim) (Nat.le_of_ble_eq_true rfl) (Nat.le_of_ble_eq_true rfl) (Nat.le_of_ble_eq_true rfl) (Nat.le_of_ble_eq_true rfl) hlocks
set_option maxHeartbeats 4000000 in
set_option maxRecDepth 100000 in
theorem x_picture (l : Launch) (hst : l.stackTraces = false) (dC : Nat → ClassId) (dI : Nat → Nat → Nat) (q wd us la nx : Nat) (p0 p1 p2 p3 p4 p5 : Int32) (h0 : tu_win p0 0 3 = 0) : tx_Met l yX1_picture wsX1_picture ({ frames := 7, cells := 1, slots := 6, locals := 103 }) (va_Pc [.ref q, .int p0, .int p1, .int p2, .int p3, .int p4, .int p5] (tx_B (dC, dI) vwCl [(q, .inr (1, [.ref wd, .ref us, .ref la, .ref nx]))] [])) ex_S := by
  refine vx_ofW (cc := cX1_picture) (maxL := 8) (ret := none) (by decide) rfl ?_
  intro p e s m args below meth c s₁ B hml hEx hv
  obtain ⟨rfl, hP, hK, hE⟩ := hv
  have hx := B.exec
  have hb := B.bytes
  have hr := B.returns
  have hts := atoms_spec (ws := wsX1_picture) B.pre
  have hown : s.vm.findClass "TextureUnits" = some m.cls := findClass_of_methodNamed B.named
  have hlocks := B.notSynchronized
  have hl := lv_entry ([.ref q, .int p0, .int p1, .int p2, .int p3, .int p4, .int p5]) (n := 8) (Nat.le_of_ble_eq_true rfl)
  rw [lg_entry_eq]
  generalize (lg_sl ([.ref q, .int p0, .int p1, .int p2, .int p3, .int p4, .int p5]) ++ List.replicate (8 - (lg_sl ([.ref q, .int p0, .int p1, .int p2, .int p3, .int p4, .int p5])).length) Slot.unset).toArray = ls at hl ⊢
  have hl : lv_has ls 8 [(0, .ref q), (1, .int p0), (2, .int p1), (3, .int p2), (4, .int p3), (5, .int p4), (6, .int p5)] := hl
  refine lv_aload_n hx hb dX1_picture_0 rfl (lv_at hl 0 rfl) ?_
  refine lv_iload_n hx hb dX1_picture_1 rfl (lv_at hl 1 rfl) ?_
  refine tx_call (vx_runV (As := [.int p0]) (rest := []) ⟨hx, hb, hml, hown, hts⟩ (x_unitAt l hst dC dI q wd us la nx p0 h0) (cwV 1 hts (tg_V tw_174 tw_176 tw_p1 tw_1 tw_177) rfl rfl rfl (by decide +kernel) ⟨Nat.le_of_ble_eq_true rfl, Nat.le_of_ble_eq_true rfl⟩) ⟨tx_blind, va_recv hK hP (ci := 1) (q0 := 0) rfl rfl, fun U hU hW => ⟨rfl, tx_use (hP.sub [0] rfl) (hK.sub [] rfl) hE U hU hW⟩⟩ rfl rfl hl.1 rfl (lv_room (Nat.le_of_ble_eq_true rfl)) dX1_picture_2 ⟨Nat.le_of_ble_eq_true rfl, Nat.le_of_ble_eq_true rfl⟩) (fun H1 q1 ce h1 h2 h3 h4 h5 => ?_)
  exact tx_out hEx hlocks h1 h2 h3 h4 h5 (Nat.le_of_ble_eq_true rfl) (Nat.le_of_ble_eq_true rfl)
set_option maxHeartbeats 4000000 in
set_option maxRecDepth 100000 in
theorem x_manner (l : Launch) (hst : l.stackTraces = false) (dC : Nat → ClassId) (dI : Nat → Nat → Nat) (q wd us la nx : Nat) (p0 p1 p2 p3 : Int32) (h0 : tu_win p0 0 3 = 0) : tx_Met l yX1_manner wsX1_manner ({ frames := 7, cells := 1, slots := 6, locals := 103 }) (va_Pc [.ref q, .int p0, .int p1, .int p2, .int p3] (tx_B (dC, dI) vwCl [(q, .inr (1, [.ref wd, .ref us, .ref la, .ref nx]))] [])) ex_S := by
  refine vx_ofW (cc := cX1_manner) (maxL := 6) (ret := none) (by decide) rfl ?_
  intro p e s m args below meth c s₁ B hml hEx hv
  obtain ⟨rfl, hP, hK, hE⟩ := hv
  have hx := B.exec
  have hb := B.bytes
  have hr := B.returns
  have hts := atoms_spec (ws := wsX1_manner) B.pre
  have hown : s.vm.findClass "TextureUnits" = some m.cls := findClass_of_methodNamed B.named
  have hlocks := B.notSynchronized
  have hl := lv_entry ([.ref q, .int p0, .int p1, .int p2, .int p3]) (n := 6) (Nat.le_of_ble_eq_true rfl)
  rw [lg_entry_eq]
  generalize (lg_sl ([.ref q, .int p0, .int p1, .int p2, .int p3]) ++ List.replicate (6 - (lg_sl ([.ref q, .int p0, .int p1, .int p2, .int p3])).length) Slot.unset).toArray = ls at hl ⊢
  have hl : lv_has ls 6 [(0, .ref q), (1, .int p0), (2, .int p1), (3, .int p2), (4, .int p3)] := hl
  refine lv_aload_n hx hb dX1_manner_0 rfl (lv_at hl 0 rfl) ?_
  refine lv_iload_n hx hb dX1_manner_1 rfl (lv_at hl 1 rfl) ?_
  refine tx_call (vx_runV (As := [.int p0]) (rest := []) ⟨hx, hb, hml, hown, hts⟩ (x_unitAt l hst dC dI q wd us la nx p0 h0) (cwV 1 hts (tg_V tw_174 tw_176 tw_p1 tw_1 tw_177) rfl rfl rfl (by decide +kernel) ⟨Nat.le_of_ble_eq_true rfl, Nat.le_of_ble_eq_true rfl⟩) ⟨tx_blind, va_recv hK hP (ci := 1) (q0 := 0) rfl rfl, fun U hU hW => ⟨rfl, tx_use (hP.sub [0] rfl) (hK.sub [] rfl) hE U hU hW⟩⟩ rfl rfl hl.1 rfl (lv_room (Nat.le_of_ble_eq_true rfl)) dX1_manner_2 ⟨Nat.le_of_ble_eq_true rfl, Nat.le_of_ble_eq_true rfl⟩) (fun H1 q1 ce h1 h2 h3 h4 h5 => ?_)
  exact tx_out hEx hlocks h1 h2 h3 h4 h5 (Nat.le_of_ble_eq_true rfl) (Nat.le_of_ble_eq_true rfl)
set_option maxHeartbeats 4000000 in
set_option maxRecDepth 100000 in
theorem x_border (l : Launch) (hst : l.stackTraces = false) (dC : Nat → ClassId) (dI : Nat → Nat → Nat) (q wd us la nx : Nat) (p0 p1 p2 p3 p4 : Int32) (h0 : tu_win p0 0 3 = 0) : tx_Met l yX1_border wsX1_border ({ frames := 7, cells := 1, slots := 6, locals := 103 }) (va_Pc [.ref q, .int p0, .int p1, .int p2, .int p3, .int p4] (tx_B (dC, dI) vwCl [(q, .inr (1, [.ref wd, .ref us, .ref la, .ref nx]))] [])) ex_S := by
  refine vx_ofW (cc := cX1_border) (maxL := 7) (ret := none) (by decide) rfl ?_
  intro p e s m args below meth c s₁ B hml hEx hv
  obtain ⟨rfl, hP, hK, hE⟩ := hv
  have hx := B.exec
  have hb := B.bytes
  have hr := B.returns
  have hts := atoms_spec (ws := wsX1_border) B.pre
  have hown : s.vm.findClass "TextureUnits" = some m.cls := findClass_of_methodNamed B.named
  have hlocks := B.notSynchronized
  have hl := lv_entry ([.ref q, .int p0, .int p1, .int p2, .int p3, .int p4]) (n := 7) (Nat.le_of_ble_eq_true rfl)
  rw [lg_entry_eq]
  generalize (lg_sl ([.ref q, .int p0, .int p1, .int p2, .int p3, .int p4]) ++ List.replicate (7 - (lg_sl ([.ref q, .int p0, .int p1, .int p2, .int p3, .int p4])).length) Slot.unset).toArray = ls at hl ⊢
  have hl : lv_has ls 7 [(0, .ref q), (1, .int p0), (2, .int p1), (3, .int p2), (4, .int p3), (5, .int p4)] := hl
  refine lv_aload_n hx hb dX1_border_0 rfl (lv_at hl 0 rfl) ?_
  refine lv_iload_n hx hb dX1_border_1 rfl (lv_at hl 1 rfl) ?_
  refine tx_call (vx_runV (As := [.int p0]) (rest := []) ⟨hx, hb, hml, hown, hts⟩ (x_unitAt l hst dC dI q wd us la nx p0 h0) (cwV 1 hts (tg_V tw_174 tw_176 tw_p1 tw_1 tw_177) rfl rfl rfl (by decide +kernel) ⟨Nat.le_of_ble_eq_true rfl, Nat.le_of_ble_eq_true rfl⟩) ⟨tx_blind, va_recv hK hP (ci := 1) (q0 := 0) rfl rfl, fun U hU hW => ⟨rfl, tx_use (hP.sub [0] rfl) (hK.sub [] rfl) hE U hU hW⟩⟩ rfl rfl hl.1 rfl (lv_room (Nat.le_of_ble_eq_true rfl)) dX1_border_2 ⟨Nat.le_of_ble_eq_true rfl, Nat.le_of_ble_eq_true rfl⟩) (fun H1 q1 ce h1 h2 h3 h4 h5 => ?_)
  exact tx_out hEx hlocks h1 h2 h3 h4 h5 (Nat.le_of_ble_eq_true rfl) (Nat.le_of_ble_eq_true rfl)
set_option maxHeartbeats 4000000 in
set_option maxRecDepth 100000 in
theorem x_texel (l : Launch) (hst : l.stackTraces = false) (dC : Nat → ClassId) (dI : Nat → Nat → Nat) (q wd us la nx : Nat) (p0 p1 p2 p3 p4 : Int32) (h0 : tu_win p0 0 3 = 0) : tx_Met l yX1_texel wsX1_texel ({ frames := 7, cells := 1, slots := 6, locals := 103 }) (va_Pc [.ref q, .int p0, .int p1, .int p2, .int p3, .int p4] (tx_B (dC, dI) vwCl [(q, .inr (1, [.ref wd, .ref us, .ref la, .ref nx]))] [])) ex_S := by
  refine vx_ofW (cc := cX1_texel) (maxL := 7) (ret := some .int) (by decide) rfl ?_
  intro p e s m args below meth c s₁ B hml hEx hv
  obtain ⟨rfl, hP, hK, hE⟩ := hv
  have hx := B.exec
  have hb := B.bytes
  have hr := B.returns
  have hts := atoms_spec (ws := wsX1_texel) B.pre
  have hown : s.vm.findClass "TextureUnits" = some m.cls := findClass_of_methodNamed B.named
  have hlocks := B.notSynchronized
  have hl := lv_entry ([.ref q, .int p0, .int p1, .int p2, .int p3, .int p4]) (n := 7) (Nat.le_of_ble_eq_true rfl)
  rw [lg_entry_eq]
  generalize (lg_sl ([.ref q, .int p0, .int p1, .int p2, .int p3, .int p4]) ++ List.replicate (7 - (lg_sl ([.ref q, .int p0, .int p1, .int p2, .int p3, .int p4])).length) Slot.unset).toArray = ls at hl ⊢
  have hl : lv_has ls 7 [(0, .ref q), (1, .int p0), (2, .int p1), (3, .int p2), (4, .int p3), (5, .int p4)] := hl
  refine lv_aload_n hx hb dX1_texel_0 rfl (lv_at hl 0 rfl) ?_
  refine lv_iload_n hx hb dX1_texel_1 rfl (lv_at hl 1 rfl) ?_
  refine tx_call (vx_runV (As := [.int p0]) (rest := []) ⟨hx, hb, hml, hown, hts⟩ (x_unitAt l hst dC dI q wd us la nx p0 h0) (cwV 1 hts (tg_V tw_174 tw_176 tw_p1 tw_1 tw_177) rfl rfl rfl (by decide +kernel) ⟨Nat.le_of_ble_eq_true rfl, Nat.le_of_ble_eq_true rfl⟩) ⟨tx_blind, va_recv hK hP (ci := 1) (q0 := 0) rfl rfl, fun U hU hW => ⟨rfl, tx_use (hP.sub [0] rfl) (hK.sub [] rfl) hE U hU hW⟩⟩ rfl rfl hl.1 rfl (lv_room (Nat.le_of_ble_eq_true rfl)) dX1_texel_2 ⟨Nat.le_of_ble_eq_true rfl, Nat.le_of_ble_eq_true rfl⟩) (fun H1 q1 ce h1 h2 h3 h4 h5 => ?_)
  exact tx_out hEx hlocks h1 h2 h3 h4 h5 (Nat.le_of_ble_eq_true rfl) (Nat.le_of_ble_eq_true rfl)
set_option maxHeartbeats 4000000 in
set_option maxRecDepth 100000 in
theorem x_texels (l : Launch) (hst : l.stackTraces = false) (dC : Nat → ClassId) (dI : Nat → Nat → Nat) (q wd us la nx : Nat) (p0 : Int32) (h0 : tu_win p0 0 3 = 0) : tx_Met l yX1_texels wsX1_texels ({ frames := 7, cells := 1, slots := 6, locals := 103 }) (va_Pc [.ref q, .int p0] (tx_B (dC, dI) vwCl [(q, .inr (1, [.ref wd, .ref us, .ref la, .ref nx]))] [])) ex_S := by
  refine vx_ofW (cc := cX1_texels) (maxL := 3) (ret := some .int) (by decide) rfl ?_
  intro p e s m args below meth c s₁ B hml hEx hv
  obtain ⟨rfl, hP, hK, hE⟩ := hv
  have hx := B.exec
  have hb := B.bytes
  have hr := B.returns
  have hts := atoms_spec (ws := wsX1_texels) B.pre
  have hown : s.vm.findClass "TextureUnits" = some m.cls := findClass_of_methodNamed B.named
  have hlocks := B.notSynchronized
  have hl := lv_entry ([.ref q, .int p0]) (n := 3) (Nat.le_of_ble_eq_true rfl)
  rw [lg_entry_eq]
  generalize (lg_sl ([.ref q, .int p0]) ++ List.replicate (3 - (lg_sl ([.ref q, .int p0])).length) Slot.unset).toArray = ls at hl ⊢
  have hl : lv_has ls 3 [(0, .ref q), (1, .int p0)] := hl
  refine lv_aload_n hx hb dX1_texels_0 rfl (lv_at hl 0 rfl) ?_
  refine lv_iload_n hx hb dX1_texels_1 rfl (lv_at hl 1 rfl) ?_
  refine tx_call (vx_runV (As := [.int p0]) (rest := []) ⟨hx, hb, hml, hown, hts⟩ (x_unitAt l hst dC dI q wd us la nx p0 h0) (cwV 1 hts (tg_V tw_174 tw_176 tw_p1 tw_1 tw_177) rfl rfl rfl (by decide +kernel) ⟨Nat.le_of_ble_eq_true rfl, Nat.le_of_ble_eq_true rfl⟩) ⟨tx_blind, va_recv hK hP (ci := 1) (q0 := 0) rfl rfl, fun U hU hW => ⟨rfl, tx_use (hP.sub [0] rfl) (hK.sub [] rfl) hE U hU hW⟩⟩ rfl rfl hl.1 rfl (lv_room (Nat.le_of_ble_eq_true rfl)) dX1_texels_2 ⟨Nat.le_of_ble_eq_true rfl, Nat.le_of_ble_eq_true rfl⟩) (fun H1 q1 ce h1 h2 h3 h4 h5 => ?_)
  exact tx_out hEx hlocks h1 h2 h3 h4 h5 (Nat.le_of_ble_eq_true rfl) (Nat.le_of_ble_eq_true rfl)
set_option maxHeartbeats 4000000 in
set_option maxRecDepth 100000 in
theorem x_read (l : Launch) (hst : l.stackTraces = false) (dC : Nat → ClassId) (dI : Nat → Nat → Nat) (q wd us la nx : Nat) (p0 p1 p2 p3 : Int32) (h0 : tu_win p0 0 3 = 0) : tx_Met l yX1_read wsX1_read ({ frames := 7, cells := 1, slots := 6, locals := 103 }) (va_Pc [.ref q, .int p0, .int p1, .int p2, .int p3] (tx_B (dC, dI) vwCl [(q, .inr (1, [.ref wd, .ref us, .ref la, .ref nx]))] [])) ex_S := by
  refine vx_ofW (cc := cX1_read) (maxL := 10) (ret := some .int) (by decide) rfl ?_
  intro p e s m args below meth c s₁ B hml hEx hv
  obtain ⟨rfl, hP, hK, hE⟩ := hv
  have hx := B.exec
  have hb := B.bytes
  have hr := B.returns
  have hts := atoms_spec (ws := wsX1_read) B.pre
  have hown : s.vm.findClass "TextureUnits" = some m.cls := findClass_of_methodNamed B.named
  have hlocks := B.notSynchronized
  have hl := lv_entry ([.ref q, .int p0, .int p1, .int p2, .int p3]) (n := 10) (Nat.le_of_ble_eq_true rfl)
  rw [lg_entry_eq]
  generalize (lg_sl ([.ref q, .int p0, .int p1, .int p2, .int p3]) ++ List.replicate (10 - (lg_sl ([.ref q, .int p0, .int p1, .int p2, .int p3])).length) Slot.unset).toArray = ls at hl ⊢
  have hl : lv_has ls 10 [(0, .ref q), (1, .int p0), (2, .int p1), (3, .int p2), (4, .int p3)] := hl
  refine lv_aload_n hx hb dX1_read_0 rfl (lv_at hl 0 rfl) ?_
  refine lv_iload_n hx hb dX1_read_1 rfl (lv_at hl 1 rfl) ?_
  refine tx_call (vx_runV (As := [.int p0]) (rest := []) ⟨hx, hb, hml, hown, hts⟩ (x_unitAt l hst dC dI q wd us la nx p0 h0) (cwV 1 hts (tg_V tw_174 tw_176 tw_p1 tw_1 tw_177) rfl rfl rfl (by decide +kernel) ⟨Nat.le_of_ble_eq_true rfl, Nat.le_of_ble_eq_true rfl⟩) ⟨tx_blind, va_recv hK hP (ci := 1) (q0 := 0) rfl rfl, fun U hU hW => ⟨rfl, tx_use (hP.sub [0] rfl) (hK.sub [] rfl) hE U hU hW⟩⟩ rfl rfl hl.1 rfl (lv_room (Nat.le_of_ble_eq_true rfl)) dX1_read_2 ⟨Nat.le_of_ble_eq_true rfl, Nat.le_of_ble_eq_true rfl⟩) (fun H1 q1 ce h1 h2 h3 h4 h5 => ?_)
  exact tx_out hEx hlocks h1 h2 h3 h4 h5 (Nat.le_of_ble_eq_true rfl) (Nat.le_of_ble_eq_true rfl)
set_option maxHeartbeats 4000000 in
set_option maxRecDepth 100000 in
theorem x_poke (l : Launch) (hst : l.stackTraces = false) (dC : Nat → ClassId) (dI : Nat → Nat → Nat) (q wd us la nx : Nat) (p0 p1 : Int32) (h0 : tu_win p0 0 2047 = 0) : tx_Met l yX1_poke wsX1_poke ({ frames := 6, cells := 1, slots := 6, locals := 82 }) (va_Pc [.ref q, .int p0, .int p1] (tx_B (dC, dI) vwCl [(q, .inr (1, [.ref wd, .ref us, .ref la, .ref nx]))] [])) ex_I := by
  refine vx_ofW (cc := cX1_poke) (maxL := 3) (ret := none) (by decide) rfl ?_
  intro p e s m args below meth c s₁ B hml hEx hv
  obtain ⟨rfl, hP, hK, hE⟩ := hv
  have hx := B.exec
  have hb := B.bytes
  have hr := B.returns
  have hts := atoms_spec (ws := wsX1_poke) B.pre
  have hown : s.vm.findClass "TextureUnits" = some m.cls := findClass_of_methodNamed B.named
  have hlocks := B.notSynchronized
  have hl := lv_entry ([.ref q, .int p0, .int p1]) (n := 3) (Nat.le_of_ble_eq_true rfl)
  rw [lg_entry_eq]
  generalize (lg_sl ([.ref q, .int p0, .int p1]) ++ List.replicate (3 - (lg_sl ([.ref q, .int p0, .int p1])).length) Slot.unset).toArray = ls at hl ⊢
  have hl : lv_has ls 3 [(0, .ref q), (1, .int p0), (2, .int p1)] := hl
  refine lv_iload_n hx hb dX1_poke_0 rfl (lv_at hl 1 rfl) ?_
  refine lv_iconst (v := 0) hx hb dX1_poke_1 (by decide) ?_
  refine lv_sipush (v := 2047) hx hb dX1_poke_2 (by decide) ?_
  refine rd_call (W.runS (As := [.int p0, .int 0, .int 2047]) (rest := []) ⟨hx, hb, hml, hown, hts⟩ (r_within l p0 0 2047) (va_cwS 3 hts (tg_S tw_94 tw_95 tw_1 tw_96) rfl rfl rfl (by decide +kernel) ⟨Nat.le_of_ble_eq_true rfl, Nat.le_of_ble_eq_true rfl⟩) preEq rfl rfl hl.1 rfl (lv_room (Nat.le_of_ble_eq_true rfl)) dX1_poke_5 ⟨Nat.le_of_ble_eq_true rfl, Nat.le_of_ble_eq_true rfl⟩) ?_
  refine lv_if_ne (tgt := 21) hx hb dX1_poke_8 (by decide) (fun c_1 => absurd h0 c_1) (fun c_1 => ?_)
  exact ex_throw (own := "TextureUnits") (cls := ex_I) (Y := "java/lang/RuntimeException") (r := ["java/lang/Exception"]) (text := "no such word") hx hb hst ex_x0.1 ex_x0.2.1 ex_x0.2.2.1 ex_x0.2.2.2 hown (by decide +kernel) (by decide +kernel) (hts _ (tw_c tw_97)) (hts _ (tw_c tw_7)) (hE.2.1 (32, "no such word") (by decide)) (ex_hI hts hE) (hl.1.trans hml.symm) dX1_poke_11 dX1_poke_14 dX1_poke_15 dX1_poke_17 dX1_poke_20 (fun x hx => (hEx x hx).elim) (Nat.le_of_ble_eq_true rfl) (Nat.le_of_ble_eq_true rfl) (Nat.le_of_ble_eq_true rfl) (Nat.le_of_ble_eq_true rfl) hlocks
set_option maxHeartbeats 4000000 in
set_option maxRecDepth 100000 in
theorem x_also (l : Launch) (hst : l.stackTraces = false) (dC : Nat → ClassId) (dI : Nat → Nat → Nat) (q wd us la nx : Nat) (p0 : Int32) (h0 : tu_win p0 0 3 = 0) : tx_Met l yX1_also wsX1_also ({ frames := 6, cells := 1, slots := 6, locals := 82 }) (va_Pc [.ref q, .int p0] (tx_B (dC, dI) vwCl [(q, .inr (1, [.ref wd, .ref us, .ref la, .ref nx]))] [])) ex_I := by
  refine vx_ofW (cc := cX1_also) (maxL := 2) (ret := some .int) (by decide) rfl ?_
  intro p e s m args below meth c s₁ B hml hEx hv
  obtain ⟨rfl, hP, hK, hE⟩ := hv
  have hx := B.exec
  have hb := B.bytes
  have hr := B.returns
  have hts := atoms_spec (ws := wsX1_also) B.pre
  have hown : s.vm.findClass "TextureUnits" = some m.cls := findClass_of_methodNamed B.named
  have hlocks := B.notSynchronized
  have hl := lv_entry ([.ref q, .int p0]) (n := 2) (Nat.le_of_ble_eq_true rfl)
  rw [lg_entry_eq]
  generalize (lg_sl ([.ref q, .int p0]) ++ List.replicate (2 - (lg_sl ([.ref q, .int p0])).length) Slot.unset).toArray = ls at hl ⊢
  have hl : lv_has ls 2 [(0, .ref q), (1, .int p0)] := hl
  refine lv_iload_n hx hb dX1_also_0 rfl (lv_at hl 1 rfl) ?_
  refine lv_iconst (v := 0) hx hb dX1_also_1 (by decide) ?_
  refine lv_iconst (v := 3) hx hb dX1_also_2 (by decide) ?_
  refine rd_call (W.runS (As := [.int p0, .int 0, .int 3]) (rest := []) ⟨hx, hb, hml, hown, hts⟩ (r_within l p0 0 3) (va_cwS 3 hts (tg_S tw_94 tw_95 tw_1 tw_96) rfl rfl rfl (by decide +kernel) ⟨Nat.le_of_ble_eq_true rfl, Nat.le_of_ble_eq_true rfl⟩) preEq rfl rfl hl.1 rfl (lv_room (Nat.le_of_ble_eq_true rfl)) dX1_also_3 ⟨Nat.le_of_ble_eq_true rfl, Nat.le_of_ble_eq_true rfl⟩) ?_
  refine lv_if_ne (tgt := 19) hx hb dX1_also_6 (by decide) (fun c_1 => absurd h0 c_1) (fun c_1 => ?_)
  exact ex_throw (own := "TextureUnits") (cls := ex_I) (Y := "java/lang/RuntimeException") (r := ["java/lang/Exception"]) (text := "no such channel") hx hb hst ex_x0.1 ex_x0.2.1 ex_x0.2.2.1 ex_x0.2.2.2 hown (by decide +kernel) (by decide +kernel) (hts _ (tw_c tw_97)) (hts _ (tw_c tw_7)) (hE.2.1 (93, "no such channel") (by decide)) (ex_hI hts hE) (hl.1.trans hml.symm) dX1_also_9 dX1_also_12 dX1_also_13 dX1_also_15 dX1_also_18 (fun x hx => (hEx x hx).elim) (Nat.le_of_ble_eq_true rfl) (Nat.le_of_ble_eq_true rfl) (Nat.le_of_ble_eq_true rfl) (Nat.le_of_ble_eq_true rfl) hlocks
set_option maxHeartbeats 4000000 in
set_option maxRecDepth 100000 in
theorem y_picture (l : Launch) (hst : l.stackTraces = false) (dC : Nat → ClassId) (dI : Nat → Nat → Nat) (q wd us la nx : Nat) (cU : ClassId) (g : Nat → Option Nat) (u : Nat) (p0 p1 p2 p3 p4 p5 : Int32) (h0 : ¬ tu_win p0 0 3 = 0) (hg : g p0.toNatClampNeg = some u) (hn : ¬ (0 ≤ p1 ∧ ¬ tu_win p2 0 10 = 0 ∧ ¬ tu_win p3 0 10 = 0 ∧ ¬ tu_win p4 1 11 = 0 ∧ ¬ tu_win p5 0 7 = 0)) : tx_Met l yX1_picture wsX1_picture ({ frames := 6, cells := 1, slots := 6, locals := 82 }) (va_Pc [.ref q, .int p0, .int p1, .int p2, .int p3, .int p4, .int p5] (tx_B (dC, dI) vwCl [(q, .inr (1, [.ref wd, .ref us, .ref la, .ref nx])), (us, .inl (cU, 4, .inr (.inr (.inr (.inr g)))))] [(cU, .object "TextureUnits$Unit")])) ex_A := by
  refine vx_ofW (cc := cX1_picture) (maxL := 8) (ret := none) (by decide) rfl ?_
  intro p e s m args below meth c s₁ B hml hEx hv
  obtain ⟨rfl, hP, hK, hE⟩ := hv
  have hx := B.exec
  have hb := B.bytes
  have hr := B.returns
  have hts := atoms_spec (ws := wsX1_picture) B.pre
  have hown : s.vm.findClass "TextureUnits" = some m.cls := findClass_of_methodNamed B.named
  have hlocks := B.notSynchronized
  have hl := lv_entry ([.ref q, .int p0, .int p1, .int p2, .int p3, .int p4, .int p5]) (n := 8) (Nat.le_of_ble_eq_true rfl)
  rw [lg_entry_eq]
  generalize (lg_sl ([.ref q, .int p0, .int p1, .int p2, .int p3, .int p4, .int p5]) ++ List.replicate (8 - (lg_sl ([.ref q, .int p0, .int p1, .int p2, .int p3, .int p4, .int p5])).length) Slot.unset).toArray = ls at hl ⊢
  have hl : lv_has ls 8 [(0, .ref q), (1, .int p0), (2, .int p1), (3, .int p2), (4, .int p3), (5, .int p4), (6, .int p5)] := hl
  refine lv_aload_n hx hb dX1_picture_0 rfl (lv_at hl 0 rfl) ?_
  refine lv_iload_n hx hb dX1_picture_1 rfl (lv_at hl 1 rfl) ?_
  refine rf_call (W.runV (As := [.int p0]) (rest := []) ⟨hx, hb, hml, hown, hts⟩ (r_unitAt l dC dI q wd us la nx cU g u p0 h0 hg) (cwV 1 hts (tg_V tw_174 tw_176 tw_p1 tw_1 tw_177) rfl rfl rfl (by decide +kernel) ⟨Nat.le_of_ble_eq_true rfl, Nat.le_of_ble_eq_true rfl⟩) ⟨rd_blind, va_recv hK hP (ci := 1) (q0 := 0) rfl rfl, fun U hU hW => ⟨rfl, rd_use (hP.sub [0, 1] rfl) (hK.sub [0] rfl) U hU hW⟩⟩ rfl rfl hl.1 rfl (lv_room (Nat.le_of_ble_eq_true rfl)) dX1_picture_2 ⟨Nat.le_of_ble_eq_true rfl, Nat.le_of_ble_eq_true rfl⟩) ?_
  refine lv_astore (lv' := [(7, .ref u), (0, .ref q), (1, .int p0), (2, .int p1), (3, .int p2), (4, .int p3), (5, .int p4), (6, .int p5)]) hx hb dX1_picture_5 hl (by decide) rfl (fun ls hl => ?_)
  refine lv_iload_n hx hb dX1_picture_7 rfl (lv_at hl 3 rfl) ?_
  refine lv_if_ge (tgt := 21) hx hb dX1_picture_8 (by decide) (fun c_1 => ?_) (fun c_1 => ?_)
  · refine lv_iload_n hx hb dX1_picture_21 rfl (lv_at hl 4 rfl) ?_
    refine lv_iconst (v := 0) hx hb dX1_picture_22 (by decide) ?_
    refine lv_bipush (v := 10) hx hb dX1_picture_23 (by decide) ?_
    refine rd_call (W.runS (As := [.int p2, .int 0, .int 10]) (rest := []) ⟨hx, hb, hml, hown, hts⟩ (r_within l p2 0 10) (va_cwS 3 hts (tg_S tw_94 tw_95 tw_1 tw_96) rfl rfl rfl (by decide +kernel) ⟨Nat.le_of_ble_eq_true rfl, Nat.le_of_ble_eq_true rfl⟩) preEq rfl rfl hl.1 rfl (lv_room (Nat.le_of_ble_eq_true rfl)) dX1_picture_25 ⟨Nat.le_of_ble_eq_true rfl, Nat.le_of_ble_eq_true rfl⟩) ?_
    refine lv_if_eq (tgt := 42) hx hb dX1_picture_28 (by decide) (fun c_2 => ?_) (fun c_2 => ?_)
    · exact ex_throw (own := "TextureUnits") (cls := ex_A) (Y := "java/lang/RuntimeException") (r := ["java/lang/Exception"]) (text := "no such logarithm") hx hb hst ex_x1.1 ex_x1.2.1 ex_x1.2.2.1 ex_x1.2.2.2 hown (by decide +kernel) (by decide +kernel) (hts _ (tw_c tw_194)) (hts _ (tw_c tw_9)) (hE.2.1 (46, "no such logarithm") (by decide)) (ex_hA hts hE) (hl.1.trans hml.symm) dX1_picture_42 dX1_picture_45 dX1_picture_46 dX1_picture_48 dX1_picture_51 (fun x hx => (hEx x hx).elim) (Nat.le_of_ble_eq_true rfl) (Nat.le_of_ble_eq_true rfl) (Nat.le_of_ble_eq_true rfl) (Nat.le_of_ble_eq_true rfl) hlocks
    · refine lv_iload hx hb dX1_picture_31 (lv_at hl 5 rfl) ?_
      refine lv_iconst (v := 0) hx hb dX1_picture_33 (by decide) ?_
      refine lv_bipush (v := 10) hx hb dX1_picture_34 (by decide) ?_
      refine rd_call (W.runS (As := [.int p3, .int 0, .int 10]) (rest := []) ⟨hx, hb, hml, hown, hts⟩ (r_within l p3 0 10) (va_cwS 3 hts (tg_S tw_94 tw_95 tw_1 tw_96) rfl rfl rfl (by decide +kernel) ⟨Nat.le_of_ble_eq_true rfl, Nat.le_of_ble_eq_true rfl⟩) preEq rfl rfl hl.1 rfl (lv_room (Nat.le_of_ble_eq_true rfl)) dX1_picture_36 ⟨Nat.le_of_ble_eq_true rfl, Nat.le_of_ble_eq_true rfl⟩) ?_
      refine lv_if_ne (tgt := 52) hx hb dX1_picture_39 (by decide) (fun c_3 => ?_) (fun c_3 => ?_)
      · refine lv_iload hx hb dX1_picture_52 (lv_at hl 6 rfl) ?_
        refine lv_iconst (v := 1) hx hb dX1_picture_54 (by decide) ?_
        refine lv_bipush (v := 11) hx hb dX1_picture_55 (by decide) ?_
        refine rd_call (W.runS (As := [.int p4, .int 1, .int 11]) (rest := []) ⟨hx, hb, hml, hown, hts⟩ (r_within l p4 1 11) (va_cwS 3 hts (tg_S tw_94 tw_95 tw_1 tw_96) rfl rfl rfl (by decide +kernel) ⟨Nat.le_of_ble_eq_true rfl, Nat.le_of_ble_eq_true rfl⟩) preEq rfl rfl hl.1 rfl (lv_room (Nat.le_of_ble_eq_true rfl)) dX1_picture_57 ⟨Nat.le_of_ble_eq_true rfl, Nat.le_of_ble_eq_true rfl⟩) ?_
        refine lv_if_ne (tgt := 73) hx hb dX1_picture_60 (by decide) (fun c_4 => ?_) (fun c_4 => ?_)
        · refine lv_iload hx hb dX1_picture_73 (lv_at hl 7 rfl) ?_
          refine lv_iconst (v := 0) hx hb dX1_picture_75 (by decide) ?_
          refine lv_bipush (v := 7) hx hb dX1_picture_76 (by decide) ?_
          refine rd_call (W.runS (As := [.int p5, .int 0, .int 7]) (rest := []) ⟨hx, hb, hml, hown, hts⟩ (r_within l p5 0 7) (va_cwS 3 hts (tg_S tw_94 tw_95 tw_1 tw_96) rfl rfl rfl (by decide +kernel) ⟨Nat.le_of_ble_eq_true rfl, Nat.le_of_ble_eq_true rfl⟩) preEq rfl rfl hl.1 rfl (lv_room (Nat.le_of_ble_eq_true rfl)) dX1_picture_78 ⟨Nat.le_of_ble_eq_true rfl, Nat.le_of_ble_eq_true rfl⟩) ?_
          refine lv_if_ne (tgt := 94) hx hb dX1_picture_81 (by decide) (fun c_5 => ?_) (fun c_5 => ?_)
          · exact absurd ⟨c_1, c_2, c_3, c_4, c_5⟩ hn
          · exact ex_throw (own := "TextureUnits") (cls := ex_A) (Y := "java/lang/RuntimeException") (r := ["java/lang/Exception"]) (text := "no such format") hx hb hst ex_x1.1 ex_x1.2.1 ex_x1.2.2.1 ex_x1.2.2.2 hown (by decide +kernel) (by decide +kernel) (hts _ (tw_c tw_194)) (hts _ (tw_c tw_9)) (hE.2.1 (50, "no such format") (by decide)) (ex_hA hts hE) (hl.1.trans hml.symm) dX1_picture_84 dX1_picture_87 dX1_picture_88 dX1_picture_90 dX1_picture_93 (fun x hx => (hEx x hx).elim) (Nat.le_of_ble_eq_true rfl) (Nat.le_of_ble_eq_true rfl) (Nat.le_of_ble_eq_true rfl) (Nat.le_of_ble_eq_true rfl) hlocks
        · exact ex_throw (own := "TextureUnits") (cls := ex_A) (Y := "java/lang/RuntimeException") (r := ["java/lang/Exception"]) (text := "no such count of levels") hx hb hst ex_x1.1 ex_x1.2.1 ex_x1.2.2.1 ex_x1.2.2.2 hown (by decide +kernel) (by decide +kernel) (hts _ (tw_c tw_194)) (hts _ (tw_c tw_9)) (hE.2.1 (48, "no such count of levels") (by decide)) (ex_hA hts hE) (hl.1.trans hml.symm) dX1_picture_63 dX1_picture_66 dX1_picture_67 dX1_picture_69 dX1_picture_72 (fun x hx => (hEx x hx).elim) (Nat.le_of_ble_eq_true rfl) (Nat.le_of_ble_eq_true rfl) (Nat.le_of_ble_eq_true rfl) (Nat.le_of_ble_eq_true rfl) hlocks
      · exact ex_throw (own := "TextureUnits") (cls := ex_A) (Y := "java/lang/RuntimeException") (r := ["java/lang/Exception"]) (text := "no such logarithm") hx hb hst ex_x1.1 ex_x1.2.1 ex_x1.2.2.1 ex_x1.2.2.2 hown (by decide +kernel) (by decide +kernel) (hts _ (tw_c tw_194)) (hts _ (tw_c tw_9)) (hE.2.1 (46, "no such logarithm") (by decide)) (ex_hA hts hE) (hl.1.trans hml.symm) dX1_picture_42 dX1_picture_45 dX1_picture_46 dX1_picture_48 dX1_picture_51 (fun x hx => (hEx x hx).elim) (Nat.le_of_ble_eq_true rfl) (Nat.le_of_ble_eq_true rfl) (Nat.le_of_ble_eq_true rfl) (Nat.le_of_ble_eq_true rfl) hlocks
  · exact ex_throw (own := "TextureUnits") (cls := ex_A) (Y := "java/lang/RuntimeException") (r := ["java/lang/Exception"]) (text := "from is below 0") hx hb hst ex_x1.1 ex_x1.2.1 ex_x1.2.2.1 ex_x1.2.2.2 hown (by decide +kernel) (by decide +kernel) (hts _ (tw_c tw_194)) (hts _ (tw_c tw_9)) (hE.2.1 (43, "from is below 0") (by decide)) (ex_hA hts hE) (hl.1.trans hml.symm) dX1_picture_11 dX1_picture_14 dX1_picture_15 dX1_picture_17 dX1_picture_20 (fun x hx => (hEx x hx).elim) (Nat.le_of_ble_eq_true rfl) (Nat.le_of_ble_eq_true rfl) (Nat.le_of_ble_eq_true rfl) (Nat.le_of_ble_eq_true rfl) hlocks
set_option maxHeartbeats 4000000 in
set_option maxRecDepth 100000 in
theorem y_manner (l : Launch) (hst : l.stackTraces = false) (dC : Nat → ClassId) (dI : Nat → Nat → Nat) (q wd us la nx : Nat) (cU : ClassId) (g : Nat → Option Nat) (u : Nat) (p0 p1 p2 p3 : Int32) (h0 : ¬ tu_win p0 0 3 = 0) (hg : g p0.toNatClampNeg = some u) (hn : ¬ (¬ tu_win p1 0 3 = 0 ∧ ¬ tu_win p2 0 3 = 0 ∧ ¬ tu_win p3 0 3 = 0)) : tx_Met l yX1_manner wsX1_manner ({ frames := 6, cells := 1, slots := 6, locals := 82 }) (va_Pc [.ref q, .int p0, .int p1, .int p2, .int p3] (tx_B (dC, dI) vwCl [(q, .inr (1, [.ref wd, .ref us, .ref la, .ref nx])), (us, .inl (cU, 4, .inr (.inr (.inr (.inr g)))))] [(cU, .object "TextureUnits$Unit")])) ex_A := by
  refine vx_ofW (cc := cX1_manner) (maxL := 6) (ret := none) (by decide) rfl ?_
  intro p e s m args below meth c s₁ B hml hEx hv
  obtain ⟨rfl, hP, hK, hE⟩ := hv
  have hx := B.exec
  have hb := B.bytes
  have hr := B.returns
  have hts := atoms_spec (ws := wsX1_manner) B.pre
  have hown : s.vm.findClass "TextureUnits" = some m.cls := findClass_of_methodNamed B.named
  have hlocks := B.notSynchronized
  have hl := lv_entry ([.ref q, .int p0, .int p1, .int p2, .int p3]) (n := 6) (Nat.le_of_ble_eq_true rfl)
  rw [lg_entry_eq]
  generalize (lg_sl ([.ref q, .int p0, .int p1, .int p2, .int p3]) ++ List.replicate (6 - (lg_sl ([.ref q, .int p0, .int p1, .int p2, .int p3])).length) Slot.unset).toArray = ls at hl ⊢
  have hl : lv_has ls 6 [(0, .ref q), (1, .int p0), (2, .int p1), (3, .int p2), (4, .int p3)] := hl
  refine lv_aload_n hx hb dX1_manner_0 rfl (lv_at hl 0 rfl) ?_
  refine lv_iload_n hx hb dX1_manner_1 rfl (lv_at hl 1 rfl) ?_
  refine rf_call (W.runV (As := [.int p0]) (rest := []) ⟨hx, hb, hml, hown, hts⟩ (r_unitAt l dC dI q wd us la nx cU g u p0 h0 hg) (cwV 1 hts (tg_V tw_174 tw_176 tw_p1 tw_1 tw_177) rfl rfl rfl (by decide +kernel) ⟨Nat.le_of_ble_eq_true rfl, Nat.le_of_ble_eq_true rfl⟩) ⟨rd_blind, va_recv hK hP (ci := 1) (q0 := 0) rfl rfl, fun U hU hW => ⟨rfl, rd_use (hP.sub [0, 1] rfl) (hK.sub [0] rfl) U hU hW⟩⟩ rfl rfl hl.1 rfl (lv_room (Nat.le_of_ble_eq_true rfl)) dX1_manner_2 ⟨Nat.le_of_ble_eq_true rfl, Nat.le_of_ble_eq_true rfl⟩) ?_
  refine lv_astore (lv' := [(5, .ref u), (0, .ref q), (1, .int p0), (2, .int p1), (3, .int p2), (4, .int p3)]) hx hb dX1_manner_5 hl (by decide) rfl (fun ls hl => ?_)
  refine lv_iload_n hx hb dX1_manner_7 rfl (lv_at hl 3 rfl) ?_
  refine lv_iconst (v := 0) hx hb dX1_manner_8 (by decide) ?_
  refine lv_iconst (v := 3) hx hb dX1_manner_9 (by decide) ?_
  refine rd_call (W.runS (As := [.int p1, .int 0, .int 3]) (rest := []) ⟨hx, hb, hml, hown, hts⟩ (r_within l p1 0 3) (va_cwS 3 hts (tg_S tw_94 tw_95 tw_1 tw_96) rfl rfl rfl (by decide +kernel) ⟨Nat.le_of_ble_eq_true rfl, Nat.le_of_ble_eq_true rfl⟩) preEq rfl rfl hl.1 rfl (lv_room (Nat.le_of_ble_eq_true rfl)) dX1_manner_10 ⟨Nat.le_of_ble_eq_true rfl, Nat.le_of_ble_eq_true rfl⟩) ?_
  refine lv_if_eq (tgt := 25) hx hb dX1_manner_13 (by decide) (fun c_1 => ?_) (fun c_1 => ?_)
  · exact ex_throw (own := "TextureUnits") (cls := ex_A) (Y := "java/lang/RuntimeException") (r := ["java/lang/Exception"]) (text := "no such wrap") hx hb hst ex_x1.1 ex_x1.2.1 ex_x1.2.2.1 ex_x1.2.2.2 hown (by decide +kernel) (by decide +kernel) (hts _ (tw_c tw_194)) (hts _ (tw_c tw_9)) (hE.2.1 (63, "no such wrap") (by decide)) (ex_hA hts hE) (hl.1.trans hml.symm) dX1_manner_25 dX1_manner_28 dX1_manner_29 dX1_manner_31 dX1_manner_34 (fun x hx => (hEx x hx).elim) (Nat.le_of_ble_eq_true rfl) (Nat.le_of_ble_eq_true rfl) (Nat.le_of_ble_eq_true rfl) (Nat.le_of_ble_eq_true rfl) hlocks
  · refine lv_iload_n hx hb dX1_manner_16 rfl (lv_at hl 4 rfl) ?_
    refine lv_iconst (v := 0) hx hb dX1_manner_17 (by decide) ?_
    refine lv_iconst (v := 3) hx hb dX1_manner_18 (by decide) ?_
    refine rd_call (W.runS (As := [.int p2, .int 0, .int 3]) (rest := []) ⟨hx, hb, hml, hown, hts⟩ (r_within l p2 0 3) (va_cwS 3 hts (tg_S tw_94 tw_95 tw_1 tw_96) rfl rfl rfl (by decide +kernel) ⟨Nat.le_of_ble_eq_true rfl, Nat.le_of_ble_eq_true rfl⟩) preEq rfl rfl hl.1 rfl (lv_room (Nat.le_of_ble_eq_true rfl)) dX1_manner_19 ⟨Nat.le_of_ble_eq_true rfl, Nat.le_of_ble_eq_true rfl⟩) ?_
    refine lv_if_ne (tgt := 35) hx hb dX1_manner_22 (by decide) (fun c_2 => ?_) (fun c_2 => ?_)
    · refine lv_iload hx hb dX1_manner_35 (lv_at hl 5 rfl) ?_
      refine lv_iconst (v := 0) hx hb dX1_manner_37 (by decide) ?_
      refine lv_iconst (v := 3) hx hb dX1_manner_38 (by decide) ?_
      refine rd_call (W.runS (As := [.int p3, .int 0, .int 3]) (rest := []) ⟨hx, hb, hml, hown, hts⟩ (r_within l p3 0 3) (va_cwS 3 hts (tg_S tw_94 tw_95 tw_1 tw_96) rfl rfl rfl (by decide +kernel) ⟨Nat.le_of_ble_eq_true rfl, Nat.le_of_ble_eq_true rfl⟩) preEq rfl rfl hl.1 rfl (lv_room (Nat.le_of_ble_eq_true rfl)) dX1_manner_39 ⟨Nat.le_of_ble_eq_true rfl, Nat.le_of_ble_eq_true rfl⟩) ?_
      refine lv_if_ne (tgt := 55) hx hb dX1_manner_42 (by decide) (fun c_3 => ?_) (fun c_3 => ?_)
      · exact absurd ⟨c_1, c_2, c_3⟩ hn
      · exact ex_throw (own := "TextureUnits") (cls := ex_A) (Y := "java/lang/RuntimeException") (r := ["java/lang/Exception"]) (text := "no such filter") hx hb hst ex_x1.1 ex_x1.2.1 ex_x1.2.2.1 ex_x1.2.2.2 hown (by decide +kernel) (by decide +kernel) (hts _ (tw_c tw_194)) (hts _ (tw_c tw_9)) (hE.2.1 (65, "no such filter") (by decide)) (ex_hA hts hE) (hl.1.trans hml.symm) dX1_manner_45 dX1_manner_48 dX1_manner_49 dX1_manner_51 dX1_manner_54 (fun x hx => (hEx x hx).elim) (Nat.le_of_ble_eq_true rfl) (Nat.le_of_ble_eq_true rfl) (Nat.le_of_ble_eq_true rfl) (Nat.le_of_ble_eq_true rfl) hlocks
    · exact ex_throw (own := "TextureUnits") (cls := ex_A) (Y := "java/lang/RuntimeException") (r := ["java/lang/Exception"]) (text := "no such wrap") hx hb hst ex_x1.1 ex_x1.2.1 ex_x1.2.2.1 ex_x1.2.2.2 hown (by decide +kernel) (by decide +kernel) (hts _ (tw_c tw_194)) (hts _ (tw_c tw_9)) (hE.2.1 (63, "no such wrap") (by decide)) (ex_hA hts hE) (hl.1.trans hml.symm) dX1_manner_25 dX1_manner_28 dX1_manner_29 dX1_manner_31 dX1_manner_34 (fun x hx => (hEx x hx).elim) (Nat.le_of_ble_eq_true rfl) (Nat.le_of_ble_eq_true rfl) (Nat.le_of_ble_eq_true rfl) (Nat.le_of_ble_eq_true rfl) hlocks
set_option maxHeartbeats 4000000 in
set_option maxRecDepth 100000 in
theorem y_texel (l : Launch) (hst : l.stackTraces = false) (dC : Nat → ClassId) (dI : Nat → Nat → Nat) (q wd us la nx : Nat) (cU : ClassId) (g : Nat → Option Nat) (u : Nat) (fr fo lw lh lv ac dn fi : Int32) (bc st : Nat) (p0 p1 p2 p3 p4 : Int32) (h0 : ¬ tu_win p0 0 3 = 0) (hg : g p0.toNatClampNeg = some u) (hn : ¬ (¬ tu_win p1 0 (lv - 1) = 0 ∧ ¬ tu_win p2 0 (tu_len lw p1 - 1) = 0 ∧ ¬ tu_win p3 0 (tu_len lh p1 - 1) = 0 ∧ ¬ tu_win p4 0 3 = 0)) : tx_Met l yX1_texel wsX1_texel ({ frames := 6, cells := 1, slots := 6, locals := 82 }) (va_Pc [.ref q, .int p0, .int p1, .int p2, .int p3, .int p4] (tx_B (dC, dI) vwCl [(q, .inr (1, [.ref wd, .ref us, .ref la, .ref nx])), (us, .inl (cU, 4, .inr (.inr (.inr (.inr g))))), (u, .inr (0, [.int fr, .int fo, .int lw, .int lh, .int lv, .int ac, .int dn, .int fi, .ref bc, .ref st]))] [(cU, .object "TextureUnits$Unit")])) ex_I := by
  refine vx_ofW (cc := cX1_texel) (maxL := 7) (ret := some .int) (by decide) rfl ?_
  intro p e s m args below meth c s₁ B hml hEx hv
  obtain ⟨rfl, hP, hK, hE⟩ := hv
  have hx := B.exec
  have hb := B.bytes
  have hr := B.returns
  have hts := atoms_spec (ws := wsX1_texel) B.pre
  have hown : s.vm.findClass "TextureUnits" = some m.cls := findClass_of_methodNamed B.named
  have hlocks := B.notSynchronized
  have hl := lv_entry ([.ref q, .int p0, .int p1, .int p2, .int p3, .int p4]) (n := 7) (Nat.le_of_ble_eq_true rfl)
  rw [lg_entry_eq]
  generalize (lg_sl ([.ref q, .int p0, .int p1, .int p2, .int p3, .int p4]) ++ List.replicate (7 - (lg_sl ([.ref q, .int p0, .int p1, .int p2, .int p3, .int p4])).length) Slot.unset).toArray = ls at hl ⊢
  have hl : lv_has ls 7 [(0, .ref q), (1, .int p0), (2, .int p1), (3, .int p2), (4, .int p3), (5, .int p4)] := hl
  refine lv_aload_n hx hb dX1_texel_0 rfl (lv_at hl 0 rfl) ?_
  refine lv_iload_n hx hb dX1_texel_1 rfl (lv_at hl 1 rfl) ?_
  refine rf_call (W.runV (As := [.int p0]) (rest := []) ⟨hx, hb, hml, hown, hts⟩ (r_unitAt l dC dI q wd us la nx cU g u p0 h0 hg) (cwV 1 hts (tg_V tw_174 tw_176 tw_p1 tw_1 tw_177) rfl rfl rfl (by decide +kernel) ⟨Nat.le_of_ble_eq_true rfl, Nat.le_of_ble_eq_true rfl⟩) ⟨rd_blind, va_recv hK hP (ci := 1) (q0 := 0) rfl rfl, fun U hU hW => ⟨rfl, rd_use (hP.sub [0, 1] rfl) (hK.sub [0] rfl) U hU hW⟩⟩ rfl rfl hl.1 rfl (lv_room (Nat.le_of_ble_eq_true rfl)) dX1_texel_2 ⟨Nat.le_of_ble_eq_true rfl, Nat.le_of_ble_eq_true rfl⟩) ?_
  refine lv_astore (lv' := [(6, .ref u), (0, .ref q), (1, .int p0), (2, .int p1), (3, .int p2), (4, .int p3), (5, .int p4)]) hx hb dX1_texel_5 hl (by decide) rfl (fun ls hl => ?_)
  refine lv_iload_n hx hb dX1_texel_7 rfl (lv_at hl 3 rfl) ?_
  refine lv_iconst (v := 0) hx hb dX1_texel_8 (by decide) ?_
  refine lv_aload hx hb dX1_texel_9 (lv_at hl 0 rfl) ?_
  refine va_get (D := (dC, dI)) (ci := 0) (v := .int lv) (C := "TextureUnits$Unit") (T := TX0) (N := 10) hx hb hts (tw_s inX0) hown hK hP 2 rfl rfl 4 (by decide) (hts _ (tw_c tw_43)) (fun _ h9 => h9) rfl dX1_texel_11 ?_
  refine lv_iconst (v := 1) hx hb dX1_texel_14 (by decide) ?_
  refine lv_isub hx hb dX1_texel_15 ?_
  refine rd_call (W.runS (As := [.int p1, .int 0, .int (lv - (1 : Int32))]) (rest := []) ⟨hx, hb, hml, hown, hts⟩ (r_within l p1 0 (lv - (1 : Int32))) (va_cwS 3 hts (tg_S tw_94 tw_95 tw_1 tw_96) rfl rfl rfl (by decide +kernel) ⟨Nat.le_of_ble_eq_true rfl, Nat.le_of_ble_eq_true rfl⟩) preEq rfl rfl hl.1 rfl (lv_room (Nat.le_of_ble_eq_true rfl)) dX1_texel_16 ⟨Nat.le_of_ble_eq_true rfl, Nat.le_of_ble_eq_true rfl⟩) ?_
  refine lv_if_ne (tgt := 32) hx hb dX1_texel_19 (by decide) (fun c_1 => ?_) (fun c_1 => ?_)
  · refine lv_iload_n hx hb dX1_texel_32 rfl (lv_at hl 4 rfl) ?_
    refine lv_iconst (v := 0) hx hb dX1_texel_33 (by decide) ?_
    refine lv_aload hx hb dX1_texel_34 (lv_at hl 0 rfl) ?_
    refine lv_iload_n hx hb dX1_texel_36 rfl (lv_at hl 3 rfl) ?_
    refine rd_call (W.runV (As := [.int p1]) (rest := [.int 0, .int p2]) ⟨hx, hb, hml, hown, hts⟩ (r_width l dC dI u fr fo lw lh lv ac dn fi bc st p1) (cwV 1 hts (tg_V tw_238 tw_31 tw_32 tw_2 tw_33) rfl rfl rfl (by decide +kernel) ⟨Nat.le_of_ble_eq_true rfl, Nat.le_of_ble_eq_true rfl⟩) ⟨rd_blind, va_recv hK hP (ci := 0) (q0 := 2) rfl rfl, fun U hU hW => ⟨rfl, rd_use (hP.sub [2] rfl) (hK.sub [] rfl) U hU hW⟩⟩ rfl rfl hl.1 rfl (lv_room (Nat.le_of_ble_eq_true rfl)) dX1_texel_37 ⟨Nat.le_of_ble_eq_true rfl, Nat.le_of_ble_eq_true rfl⟩) ?_
    refine lv_iconst (v := 1) hx hb dX1_texel_40 (by decide) ?_
    refine lv_isub hx hb dX1_texel_41 ?_
    refine rd_call (W.runS (As := [.int p2, .int 0, .int ((tu_len lw p1) - (1 : Int32))]) (rest := []) ⟨hx, hb, hml, hown, hts⟩ (r_within l p2 0 ((tu_len lw p1) - (1 : Int32))) (va_cwS 3 hts (tg_S tw_94 tw_95 tw_1 tw_96) rfl rfl rfl (by decide +kernel) ⟨Nat.le_of_ble_eq_true rfl, Nat.le_of_ble_eq_true rfl⟩) preEq rfl rfl hl.1 rfl (lv_room (Nat.le_of_ble_eq_true rfl)) dX1_texel_42 ⟨Nat.le_of_ble_eq_true rfl, Nat.le_of_ble_eq_true rfl⟩) ?_
    refine lv_if_eq (tgt := 65) hx hb dX1_texel_45 (by decide) (fun c_2 => ?_) (fun c_2 => ?_)
    · exact ex_throw (own := "TextureUnits") (cls := ex_I) (Y := "java/lang/RuntimeException") (r := ["java/lang/Exception"]) (text := "no such texel") hx hb hst ex_x0.1 ex_x0.2.1 ex_x0.2.2.1 ex_x0.2.2.2 hown (by decide +kernel) (by decide +kernel) (hts _ (tw_c tw_97)) (hts _ (tw_c tw_7)) (hE.2.1 (91, "no such texel") (by decide)) (ex_hI hts hE) (hl.1.trans hml.symm) dX1_texel_65 dX1_texel_68 dX1_texel_69 dX1_texel_71 dX1_texel_74 (fun x hx => (hEx x hx).elim) (Nat.le_of_ble_eq_true rfl) (Nat.le_of_ble_eq_true rfl) (Nat.le_of_ble_eq_true rfl) (Nat.le_of_ble_eq_true rfl) hlocks
    · refine lv_iload hx hb dX1_texel_48 (lv_at hl 5 rfl) ?_
      refine lv_iconst (v := 0) hx hb dX1_texel_50 (by decide) ?_
      refine lv_aload hx hb dX1_texel_51 (lv_at hl 0 rfl) ?_
      refine lv_iload_n hx hb dX1_texel_53 rfl (lv_at hl 3 rfl) ?_
      refine rd_call (W.runV (As := [.int p1]) (rest := [.int 0, .int p3]) ⟨hx, hb, hml, hown, hts⟩ (r_height l dC dI u fr fo lw lh lv ac dn fi bc st p1) (cwV 1 hts (tg_V tw_239 tw_35 tw_36 tw_2 tw_37) rfl rfl rfl (by decide +kernel) ⟨Nat.le_of_ble_eq_true rfl, Nat.le_of_ble_eq_true rfl⟩) ⟨rd_blind, va_recv hK hP (ci := 0) (q0 := 2) rfl rfl, fun U hU hW => ⟨rfl, rd_use (hP.sub [2] rfl) (hK.sub [] rfl) U hU hW⟩⟩ rfl rfl hl.1 rfl (lv_room (Nat.le_of_ble_eq_true rfl)) dX1_texel_54 ⟨Nat.le_of_ble_eq_true rfl, Nat.le_of_ble_eq_true rfl⟩) ?_
      refine lv_iconst (v := 1) hx hb dX1_texel_57 (by decide) ?_
      refine lv_isub hx hb dX1_texel_58 ?_
      refine rd_call (W.runS (As := [.int p3, .int 0, .int ((tu_len lh p1) - (1 : Int32))]) (rest := []) ⟨hx, hb, hml, hown, hts⟩ (r_within l p3 0 ((tu_len lh p1) - (1 : Int32))) (va_cwS 3 hts (tg_S tw_94 tw_95 tw_1 tw_96) rfl rfl rfl (by decide +kernel) ⟨Nat.le_of_ble_eq_true rfl, Nat.le_of_ble_eq_true rfl⟩) preEq rfl rfl hl.1 rfl (lv_room (Nat.le_of_ble_eq_true rfl)) dX1_texel_59 ⟨Nat.le_of_ble_eq_true rfl, Nat.le_of_ble_eq_true rfl⟩) ?_
      refine lv_if_ne (tgt := 75) hx hb dX1_texel_62 (by decide) (fun c_3 => ?_) (fun c_3 => ?_)
      · refine lv_iload hx hb dX1_texel_75 (lv_at hl 6 rfl) ?_
        refine lv_iconst (v := 0) hx hb dX1_texel_77 (by decide) ?_
        refine lv_iconst (v := 3) hx hb dX1_texel_78 (by decide) ?_
        refine rd_call (W.runS (As := [.int p4, .int 0, .int 3]) (rest := []) ⟨hx, hb, hml, hown, hts⟩ (r_within l p4 0 3) (va_cwS 3 hts (tg_S tw_94 tw_95 tw_1 tw_96) rfl rfl rfl (by decide +kernel) ⟨Nat.le_of_ble_eq_true rfl, Nat.le_of_ble_eq_true rfl⟩) preEq rfl rfl hl.1 rfl (lv_room (Nat.le_of_ble_eq_true rfl)) dX1_texel_79 ⟨Nat.le_of_ble_eq_true rfl, Nat.le_of_ble_eq_true rfl⟩) ?_
        refine lv_if_ne (tgt := 95) hx hb dX1_texel_82 (by decide) (fun c_4 => ?_) (fun c_4 => ?_)
        · exact absurd ⟨c_1, c_2, c_3, c_4⟩ hn
        · exact ex_throw (own := "TextureUnits") (cls := ex_I) (Y := "java/lang/RuntimeException") (r := ["java/lang/Exception"]) (text := "no such channel") hx hb hst ex_x0.1 ex_x0.2.1 ex_x0.2.2.1 ex_x0.2.2.2 hown (by decide +kernel) (by decide +kernel) (hts _ (tw_c tw_97)) (hts _ (tw_c tw_7)) (hE.2.1 (93, "no such channel") (by decide)) (ex_hI hts hE) (hl.1.trans hml.symm) dX1_texel_85 dX1_texel_88 dX1_texel_89 dX1_texel_91 dX1_texel_94 (fun x hx => (hEx x hx).elim) (Nat.le_of_ble_eq_true rfl) (Nat.le_of_ble_eq_true rfl) (Nat.le_of_ble_eq_true rfl) (Nat.le_of_ble_eq_true rfl) hlocks
      · exact ex_throw (own := "TextureUnits") (cls := ex_I) (Y := "java/lang/RuntimeException") (r := ["java/lang/Exception"]) (text := "no such texel") hx hb hst ex_x0.1 ex_x0.2.1 ex_x0.2.2.1 ex_x0.2.2.2 hown (by decide +kernel) (by decide +kernel) (hts _ (tw_c tw_97)) (hts _ (tw_c tw_7)) (hE.2.1 (91, "no such texel") (by decide)) (ex_hI hts hE) (hl.1.trans hml.symm) dX1_texel_65 dX1_texel_68 dX1_texel_69 dX1_texel_71 dX1_texel_74 (fun x hx => (hEx x hx).elim) (Nat.le_of_ble_eq_true rfl) (Nat.le_of_ble_eq_true rfl) (Nat.le_of_ble_eq_true rfl) (Nat.le_of_ble_eq_true rfl) hlocks
  · exact ex_throw (own := "TextureUnits") (cls := ex_I) (Y := "java/lang/RuntimeException") (r := ["java/lang/Exception"]) (text := "no such level") hx hb hst ex_x0.1 ex_x0.2.1 ex_x0.2.2.1 ex_x0.2.2.2 hown (by decide +kernel) (by decide +kernel) (hts _ (tw_c tw_97)) (hts _ (tw_c tw_7)) (hE.2.1 (82, "no such level") (by decide)) (ex_hI hts hE) (hl.1.trans hml.symm) dX1_texel_22 dX1_texel_25 dX1_texel_26 dX1_texel_28 dX1_texel_31 (fun x hx => (hEx x hx).elim) (Nat.le_of_ble_eq_true rfl) (Nat.le_of_ble_eq_true rfl) (Nat.le_of_ble_eq_true rfl) (Nat.le_of_ble_eq_true rfl) hlocks
end
section
theorem tw_213 : (Cond.methodLink "TextureUnits" 59 ⟨"TextureUnits$Unit", "layOut", "(III)V"⟩) ∈ TW := tw_t1 213 (by decide +kernel) (by decide +kernel)
theorem tw_50 : (Cond.fieldLink "TextureUnits" 99 "TextureUnits$Unit" "starts" "[I") ∈ TW := tw_t1 50 (by decide +kernel) (by decide +kernel)
set_option maxHeartbeats 4000000 in
set_option maxRecDepth 100000 in
theorem w_poke (l : Launch) (dC : Nat → ClassId) (dI : Nat → Nat → Nat) (q wd us la nx : Nat) (cI : ClassId) (mem : Nat → Int32) (p0 p1 : Int32) (sz : Nat) (h0 : ¬ tu_win p0 0 2047 = 0) : Met l yX1_poke wsX1_poke ({ frames := 1, cells := 0, slots := 0, locals := 22 }) (va_Pc [.ref q, .int p0, .int p1] (wr_P (dC, dI) vwCl [(q, .inr (1, [.ref wd, .ref us, .ref la, .ref nx])), (wd, .inl (cI, 2048, .inl mem))] [(cI, .int)] sz)) (va_Qv (fun _ : Unit => True) (wr_B (dC, dI) vwCl [(q, .inr (1, [.ref wd, .ref us, .ref la, .ref nx])), (wd, .inl (cI, 2048, .inl (upd mem p0.toNatClampNeg p1)))] [(cI, .int)] (va_A [(q, .inr (1, [.ref wd, .ref us, .ref la, .ref nx])), (wd, .inl (cI, 2048, .inl mem))] sz)) (va_A [(q, .inr (1, [.ref wd, .ref us, .ref la, .ref nx])), (wd, .inl (cI, 2048, .inl mem))] sz)) 0 0 (va_A [(q, .inr (1, [.ref wd, .ref us, .ref la, .ref nx])), (wd, .inl (cI, 2048, .inl mem))] sz) := by
  refine Met.ofW (cc := cX1_poke) (maxL := 3) (ret := none) (by decide) rfl ?_
  intro p e s m args below meth c s₁ B hml hv
  obtain ⟨rfl, hsz, hP, hK, hD0⟩ := hv
  have hx := B.exec
  have hb := B.bytes
  have hr := B.returns
  have hts := atoms_spec (ws := wsX1_poke) B.pre
  have hown : s.vm.findClass "TextureUnits" = some m.cls := findClass_of_methodNamed B.named
  have hlocks := B.notSynchronized
  subst hsz
  have hD := hD0.self (sz := s.heap.size)
  generalize hAe : va_A [(q, .inr (1, [.ref wd, .ref us, .ref la, .ref nx])), (wd, .inl (cI, 2048, .inl mem))] s.heap.size = A at hD ⊢
  have hA : ∀ q : Nat, s.heap.size ≤ q → A q := fun q h => by rw [← hAe]; exact Or.inr h
  have hS : va_S A s.heap s.heap [] := va_S.rf
  have hP : va_P (dC, dI) vwCl [(q, .inr (1, [.ref wd, .ref us, .ref la, .ref nx])), (wd, .inl (cI, 2048, .inl mem))] s.heap := hP
  have hl := lv_entry ([.ref q, .int p0, .int p1]) (n := 3) (Nat.le_of_ble_eq_true rfl)
  rw [lg_entry_eq]
  generalize (lg_sl ([.ref q, .int p0, .int p1]) ++ List.replicate (3 - (lg_sl ([.ref q, .int p0, .int p1])).length) Slot.unset).toArray = ls at hl ⊢
  have hl : lv_has ls 3 [(0, .ref q), (1, .int p0), (2, .int p1)] := hl
  refine lv_iload_n hx hb dX1_poke_0 rfl (lv_at hl 1 rfl) ?_
  refine lv_iconst (v := 0) hx hb dX1_poke_1 (by decide) ?_
  refine lv_sipush (v := 2047) hx hb dX1_poke_2 (by decide) ?_
  refine rd_call (W.runS (As := [.int p0, .int 0, .int 2047]) (rest := []) ⟨hx, hb, hml, hown, hts⟩ (r_within l p0 0 2047) (va_cwS 3 hts (tg_S tw_94 tw_95 tw_1 tw_96) rfl rfl rfl (by decide +kernel) ⟨Nat.le_of_ble_eq_true rfl, Nat.le_of_ble_eq_true rfl⟩) preEq rfl rfl hl.1 rfl (lv_room (Nat.le_of_ble_eq_true rfl)) dX1_poke_5 ⟨Nat.le_of_ble_eq_true rfl, Nat.le_of_ble_eq_true rfl⟩) ?_
  refine lv_if_ne (tgt := 21) hx hb dX1_poke_8 (by decide) (fun c_1 => ?_) (fun c_1 => absurd c_1 h0)
  refine lv_aload_n hx hb dX1_poke_21 rfl (lv_at hl 0 rfl) ?_
  refine va_get (D := (dC, dI)) (ci := 1) (v := .ref wd) (C := "TextureUnits") (T := TX1) (N := 4) hx hb hts (tw_s inX1) hown hK hP 0 rfl rfl 0 (by decide) (hts _ (tw_c tw_73)) (fun _ h9 => h9) rfl dX1_poke_22 ?_
  refine lv_iload_n hx hb dX1_poke_25 rfl (lv_at hl 1 rfl) ?_
  refine lv_iload_n hx hb dX1_poke_26 rfl (lv_at hl 2 rfl) ?_
  refine va_iast hx hb hK hP hD hS 1 0 rfl rfl (tu_win_in h0 (by decide)) dX1_poke_27 (fun H locs hP hD hS => ?_)
  have hP : va_P (dC, dI) vwCl [(q, .inr (1, [.ref wd, .ref us, .ref la, .ref nx])), (wd, .inl (cI, 2048, .inl (upd mem p0.toNatClampNeg p1)))] H := hP
  have hD : va_D A [(q, .inr (1, [.ref wd, .ref us, .ref la, .ref nx])), (wd, .inl (cI, 2048, .inl (upd mem p0.toNatClampNeg p1)))] := hD
  have hP9 : va_P (dC, dI) vwCl [(q, .inr (1, [.ref wd, .ref us, .ref la, .ref nx])), (wd, .inl (cI, 2048, .inl (upd mem p0.toNatClampNeg p1)))] H := hP.sub [0, 1] rfl
  have hD9 : va_D A [(q, .inr (1, [.ref wd, .ref us, .ref la, .ref nx])), (wd, .inl (cI, 2048, .inl (upd mem p0.toNatClampNeg p1)))] := hD.sub [0, 1] (by decide) rfl
  have hK9 : va_K (dC, dI) vwCl [(cI, .int)] s := hK.sub [0] rfl
  exact W.vret hx hb hr (fun t ht hW => ⟨⟨(), rfl, trivial, by rw [ht]; exact hP9, va_K.moved hW.alike hK9, hD9⟩, hS.F ht⟩) hS.2.2 dX1_poke_28
set_option maxHeartbeats 4000000 in
set_option maxRecDepth 100000 in
theorem w_picture (l : Launch) (dC : Nat → ClassId) (dI : Nat → Nat → Nat) (q wd us la nx : Nat) (cU : ClassId) (g : Nat → Option Nat) (u : Nat) (fr fo lw lh lv ac dn fi : Int32) (bc st : Nat) (cI : ClassId) (sf : Nat → Int32) (p0 p1 p2 p3 p4 p5 : Int32) (sz : Nat) (h0 : ¬ tu_win p0 0 3 = 0) (hg : g p0.toNatClampNeg = some u) (hv : 0 ≤ p1 ∧ ¬ tu_win p2 0 10 = 0 ∧ ¬ tu_win p3 0 10 = 0 ∧ ¬ tu_win p4 1 11 = 0 ∧ ¬ tu_win p5 0 7 = 0) : Met l yX1_picture wsX1_picture ({ frames := 2, cells := 0, slots := 0, locals := 45 }) (va_Pc [.ref q, .int p0, .int p1, .int p2, .int p3, .int p4, .int p5] (wr_P (dC, dI) vwCl [(q, .inr (1, [.ref wd, .ref us, .ref la, .ref nx])), (us, .inl (cU, 4, .inr (.inr (.inr (.inr g))))), (u, .inr (0, [.int fr, .int fo, .int lw, .int lh, .int lv, .int ac, .int dn, .int fi, .ref bc, .ref st])), (st, .inl (cI, 12, .inl sf))] [(cU, .object "TextureUnits$Unit"), (cI, .int)] sz)) (va_Qv (fun _ : Unit => True) (wr_B (dC, dI) vwCl [(q, .inr (1, [.ref wd, .ref us, .ref la, .ref nx])), (us, .inl (cU, 4, .inr (.inr (.inr (.inr g))))), (u, .inr (0, [.int p1, .int p5, .int p2, .int p3, .int p4, .int ac, .int dn, .int fi, .ref bc, .ref st])), (st, .inl (cI, 12, .inl (tu_lay p2 p3 sf 11)))] [(cU, .object "TextureUnits$Unit"), (cI, .int)] (va_A [(q, .inr (1, [.ref wd, .ref us, .ref la, .ref nx])), (us, .inl (cU, 4, .inr (.inr (.inr (.inr g))))), (u, .inr (0, [.int fr, .int fo, .int lw, .int lh, .int lv, .int ac, .int dn, .int fi, .ref bc, .ref st])), (st, .inl (cI, 12, .inl sf))] sz)) (va_A [(q, .inr (1, [.ref wd, .ref us, .ref la, .ref nx])), (us, .inl (cU, 4, .inr (.inr (.inr (.inr g))))), (u, .inr (0, [.int fr, .int fo, .int lw, .int lh, .int lv, .int ac, .int dn, .int fi, .ref bc, .ref st])), (st, .inl (cI, 12, .inl sf))] sz)) 0 0 (va_A [(q, .inr (1, [.ref wd, .ref us, .ref la, .ref nx])), (us, .inl (cU, 4, .inr (.inr (.inr (.inr g))))), (u, .inr (0, [.int fr, .int fo, .int lw, .int lh, .int lv, .int ac, .int dn, .int fi, .ref bc, .ref st])), (st, .inl (cI, 12, .inl sf))] sz) := by
  refine Met.ofW (cc := cX1_picture) (maxL := 8) (ret := none) (by decide) rfl ?_
  intro p e s m args below meth c s₁ B hml hv
  obtain ⟨rfl, hsz, hP, hK, hD0⟩ := hv
  have hx := B.exec
  have hb := B.bytes
  have hr := B.returns
  have hts := atoms_spec (ws := wsX1_picture) B.pre
  have hown : s.vm.findClass "TextureUnits" = some m.cls := findClass_of_methodNamed B.named
  have hlocks := B.notSynchronized
  subst hsz
  have hD := hD0.self (sz := s.heap.size)
  generalize hAe : va_A [(q, .inr (1, [.ref wd, .ref us, .ref la, .ref nx])), (us, .inl (cU, 4, .inr (.inr (.inr (.inr g))))), (u, .inr (0, [.int fr, .int fo, .int lw, .int lh, .int lv, .int ac, .int dn, .int fi, .ref bc, .ref st])), (st, .inl (cI, 12, .inl sf))] s.heap.size = A at hD ⊢
  have hA : ∀ q : Nat, s.heap.size ≤ q → A q := fun q h => by rw [← hAe]; exact Or.inr h
  have hS : va_S A s.heap s.heap [] := va_S.rf
  have hP : va_P (dC, dI) vwCl [(q, .inr (1, [.ref wd, .ref us, .ref la, .ref nx])), (us, .inl (cU, 4, .inr (.inr (.inr (.inr g))))), (u, .inr (0, [.int fr, .int fo, .int lw, .int lh, .int lv, .int ac, .int dn, .int fi, .ref bc, .ref st])), (st, .inl (cI, 12, .inl sf))] s.heap := hP
  have hl := lv_entry ([.ref q, .int p0, .int p1, .int p2, .int p3, .int p4, .int p5]) (n := 8) (Nat.le_of_ble_eq_true rfl)
  rw [lg_entry_eq]
  generalize (lg_sl ([.ref q, .int p0, .int p1, .int p2, .int p3, .int p4, .int p5]) ++ List.replicate (8 - (lg_sl ([.ref q, .int p0, .int p1, .int p2, .int p3, .int p4, .int p5])).length) Slot.unset).toArray = ls at hl ⊢
  have hl : lv_has ls 8 [(0, .ref q), (1, .int p0), (2, .int p1), (3, .int p2), (4, .int p3), (5, .int p4), (6, .int p5)] := hl
  refine lv_aload_n hx hb dX1_picture_0 rfl (lv_at hl 0 rfl) ?_
  refine lv_iload_n hx hb dX1_picture_1 rfl (lv_at hl 1 rfl) ?_
  refine rf_call (W.runV (As := [.int p0]) (rest := []) ⟨hx, hb, hml, hown, hts⟩ (r_unitAt l dC dI q wd us la nx cU g u p0 h0 hg) (cwV 1 hts (tg_V tw_174 tw_176 tw_p1 tw_1 tw_177) rfl rfl rfl (by decide +kernel) ⟨Nat.le_of_ble_eq_true rfl, Nat.le_of_ble_eq_true rfl⟩) ⟨rd_blind, va_recv hK hP (ci := 1) (q0 := 0) rfl rfl, fun U hU hW => ⟨rfl, rd_use (hP.sub [0, 1] rfl) (hK.sub [0] rfl) U hU hW⟩⟩ rfl rfl hl.1 rfl (lv_room (Nat.le_of_ble_eq_true rfl)) dX1_picture_2 ⟨Nat.le_of_ble_eq_true rfl, Nat.le_of_ble_eq_true rfl⟩) ?_
  refine lv_astore (lv' := [(7, .ref u), (0, .ref q), (1, .int p0), (2, .int p1), (3, .int p2), (4, .int p3), (5, .int p4), (6, .int p5)]) hx hb dX1_picture_5 hl (by decide) rfl (fun ls hl => ?_)
  refine lv_iload_n hx hb dX1_picture_7 rfl (lv_at hl 3 rfl) ?_
  refine lv_if_ge (tgt := 21) hx hb dX1_picture_8 (by decide) (fun c_1 => ?_) (fun c_1 => absurd hv.1 c_1)
  refine lv_iload_n hx hb dX1_picture_21 rfl (lv_at hl 4 rfl) ?_
  refine lv_iconst (v := 0) hx hb dX1_picture_22 (by decide) ?_
  refine lv_bipush (v := 10) hx hb dX1_picture_23 (by decide) ?_
  refine rd_call (W.runS (As := [.int p2, .int 0, .int 10]) (rest := []) ⟨hx, hb, hml, hown, hts⟩ (r_within l p2 0 10) (va_cwS 3 hts (tg_S tw_94 tw_95 tw_1 tw_96) rfl rfl rfl (by decide +kernel) ⟨Nat.le_of_ble_eq_true rfl, Nat.le_of_ble_eq_true rfl⟩) preEq rfl rfl hl.1 rfl (lv_room (Nat.le_of_ble_eq_true rfl)) dX1_picture_25 ⟨Nat.le_of_ble_eq_true rfl, Nat.le_of_ble_eq_true rfl⟩) ?_
  refine lv_if_eq (tgt := 42) hx hb dX1_picture_28 (by decide) (fun c_2 => absurd c_2 hv.2.1) (fun c_2 => ?_)
  refine lv_iload hx hb dX1_picture_31 (lv_at hl 5 rfl) ?_
  refine lv_iconst (v := 0) hx hb dX1_picture_33 (by decide) ?_
  refine lv_bipush (v := 10) hx hb dX1_picture_34 (by decide) ?_
  refine rd_call (W.runS (As := [.int p3, .int 0, .int 10]) (rest := []) ⟨hx, hb, hml, hown, hts⟩ (r_within l p3 0 10) (va_cwS 3 hts (tg_S tw_94 tw_95 tw_1 tw_96) rfl rfl rfl (by decide +kernel) ⟨Nat.le_of_ble_eq_true rfl, Nat.le_of_ble_eq_true rfl⟩) preEq rfl rfl hl.1 rfl (lv_room (Nat.le_of_ble_eq_true rfl)) dX1_picture_36 ⟨Nat.le_of_ble_eq_true rfl, Nat.le_of_ble_eq_true rfl⟩) ?_
  refine lv_if_ne (tgt := 52) hx hb dX1_picture_39 (by decide) (fun c_3 => ?_) (fun c_3 => absurd c_3 hv.2.2.1)
  refine lv_iload hx hb dX1_picture_52 (lv_at hl 6 rfl) ?_
  refine lv_iconst (v := 1) hx hb dX1_picture_54 (by decide) ?_
  refine lv_bipush (v := 11) hx hb dX1_picture_55 (by decide) ?_
  refine rd_call (W.runS (As := [.int p4, .int 1, .int 11]) (rest := []) ⟨hx, hb, hml, hown, hts⟩ (r_within l p4 1 11) (va_cwS 3 hts (tg_S tw_94 tw_95 tw_1 tw_96) rfl rfl rfl (by decide +kernel) ⟨Nat.le_of_ble_eq_true rfl, Nat.le_of_ble_eq_true rfl⟩) preEq rfl rfl hl.1 rfl (lv_room (Nat.le_of_ble_eq_true rfl)) dX1_picture_57 ⟨Nat.le_of_ble_eq_true rfl, Nat.le_of_ble_eq_true rfl⟩) ?_
  refine lv_if_ne (tgt := 73) hx hb dX1_picture_60 (by decide) (fun c_4 => ?_) (fun c_4 => absurd c_4 hv.2.2.2.1)
  refine lv_iload hx hb dX1_picture_73 (lv_at hl 7 rfl) ?_
  refine lv_iconst (v := 0) hx hb dX1_picture_75 (by decide) ?_
  refine lv_bipush (v := 7) hx hb dX1_picture_76 (by decide) ?_
  refine rd_call (W.runS (As := [.int p5, .int 0, .int 7]) (rest := []) ⟨hx, hb, hml, hown, hts⟩ (r_within l p5 0 7) (va_cwS 3 hts (tg_S tw_94 tw_95 tw_1 tw_96) rfl rfl rfl (by decide +kernel) ⟨Nat.le_of_ble_eq_true rfl, Nat.le_of_ble_eq_true rfl⟩) preEq rfl rfl hl.1 rfl (lv_room (Nat.le_of_ble_eq_true rfl)) dX1_picture_78 ⟨Nat.le_of_ble_eq_true rfl, Nat.le_of_ble_eq_true rfl⟩) ?_
  refine lv_if_ne (tgt := 94) hx hb dX1_picture_81 (by decide) (fun c_5 => ?_) (fun c_5 => absurd c_5 hv.2.2.2.2)
  refine lv_aload hx hb dX1_picture_94 (lv_at hl 0 rfl) ?_
  refine lv_iload_n hx hb dX1_picture_96 rfl (lv_at hl 3 rfl) ?_
  refine va_put (D := (dC, dI)) (ci := 0) (v := .int p1) (ty := .int) (C := "TextureUnits$Unit") (T := TX0) (N := 10) hx hb hts (tw_s inX0) tyX0 tyX0_ok nmX0 hown hK hP hD hS 2 rfl rfl 0 (by decide) (hts _ (tw_c tw_38)) (fun _ h9 => h9) rfl (by decide +kernel) rfl rfl (Nat.le_of_ble_eq_true rfl) dX1_picture_97 (fun H locs hP hD hS => ?_)
  have hP : va_P (dC, dI) vwCl [(q, .inr (1, [.ref wd, .ref us, .ref la, .ref nx])), (us, .inl (cU, 4, .inr (.inr (.inr (.inr g))))), (u, .inr (0, [.int p1, .int fo, .int lw, .int lh, .int lv, .int ac, .int dn, .int fi, .ref bc, .ref st])), (st, .inl (cI, 12, .inl sf))] H := hP
  have hD : va_D A [(q, .inr (1, [.ref wd, .ref us, .ref la, .ref nx])), (us, .inl (cU, 4, .inr (.inr (.inr (.inr g))))), (u, .inr (0, [.int p1, .int fo, .int lw, .int lh, .int lv, .int ac, .int dn, .int fi, .ref bc, .ref st])), (st, .inl (cI, 12, .inl sf))] := hD
  refine lv_aload hx hb dX1_picture_100 (lv_at hl 0 rfl) ?_
  refine lv_iload hx hb dX1_picture_102 (lv_at hl 7 rfl) ?_
  refine va_put (D := (dC, dI)) (ci := 0) (v := .int p5) (ty := .int) (C := "TextureUnits$Unit") (T := TX0) (N := 10) hx hb hts (tw_s inX0) tyX0 tyX0_ok nmX0 hown hK hP hD hS 2 rfl rfl 1 (by decide) (hts _ (tw_c tw_39)) (fun _ h9 => h9) rfl (by decide +kernel) rfl rfl (Nat.le_of_ble_eq_true rfl) dX1_picture_104 (fun H locs hP hD hS => ?_)
  have hP : va_P (dC, dI) vwCl [(q, .inr (1, [.ref wd, .ref us, .ref la, .ref nx])), (us, .inl (cU, 4, .inr (.inr (.inr (.inr g))))), (u, .inr (0, [.int p1, .int p5, .int lw, .int lh, .int lv, .int ac, .int dn, .int fi, .ref bc, .ref st])), (st, .inl (cI, 12, .inl sf))] H := hP
  have hD : va_D A [(q, .inr (1, [.ref wd, .ref us, .ref la, .ref nx])), (us, .inl (cU, 4, .inr (.inr (.inr (.inr g))))), (u, .inr (0, [.int p1, .int p5, .int lw, .int lh, .int lv, .int ac, .int dn, .int fi, .ref bc, .ref st])), (st, .inl (cI, 12, .inl sf))] := hD
  refine lv_aload hx hb dX1_picture_107 (lv_at hl 0 rfl) ?_
  refine lv_iload_n hx hb dX1_picture_109 rfl (lv_at hl 4 rfl) ?_
  refine lv_iload hx hb dX1_picture_110 (lv_at hl 5 rfl) ?_
  refine lv_iload hx hb dX1_picture_112 (lv_at hl 6 rfl) ?_
  have hPc := hP.sub (ws' := [(u, .inr (0, [.int p1, .int p5, .int lw, .int lh, .int lv, .int ac, .int dn, .int fi, .ref bc, .ref st])), (st, .inl (cI, 12, .inl sf))]) [2, 3] rfl
  have hDc := hD.sub (ws' := [(u, .inr (0, [.int p1, .int p5, .int lw, .int lh, .int lv, .int ac, .int dn, .int fi, .ref bc, .ref st])), (st, .inl (cI, 12, .inl sf))]) [2, 3] (by decide) rfl
  have hFc := va_free (wc := [(u, .inr (0, [.int p1, .int p5, .int lw, .int lh, .int lv, .int ac, .int dn, .int fi, .ref bc, .ref st])), (st, .inl (cI, 12, .inl sf))]) hD hS hA [2, 3] rfl
  refine va_callv (va_runV (As := [.int p2, .int p3, .int p4]) (rest := []) ⟨hx, hb, hml, hown, hts⟩ (w_layOut l dC dI u p1 p5 lw lh lv ac dn fi bc st cI sf p2 p3 p4 H.size) (cwV 3 hts (tg_V tw_213 tw_27 tw_28 tw_2 tw_29) rfl rfl rfl (by decide +kernel) ⟨Nat.le_of_ble_eq_true rfl, Nat.le_of_ble_eq_true rfl⟩) ⟨wr_blind, va_recv hK hP (ci := 0) (q0 := 2) rfl rfl, fun U hU hW => ⟨rfl, wr_use hPc (hK.sub [1] rfl) hDc U hU hW⟩⟩ rfl rfl hl.1 rfl (lv_room (Nat.le_of_ble_eq_true rfl)) dX1_picture_114 ⟨Nat.le_of_ble_eq_true rfl, Nat.le_of_ble_eq_true rfl⟩) hS (fun q _ h => hFc q h) hFc (fun u9 t9 H1 locs ht hvm hw hB hz1 hk1 hS => ?_)
  obtain ⟨hP1, hK1, hD1⟩ := hB
  rw [ht] at hP1
  obtain ⟨hP, hD⟩ := va_join (wr := [(q, .inr (1, [.ref wd, .ref us, .ref la, .ref nx])), (us, .inl (cU, 4, .inr (.inr (.inr (.inr g)))))]) (w1 := [(u, .inr (0, [.int p1, .int p5, .int p2, .int p3, .int p4, .int ac, .int dn, .int fi, .ref bc, .ref st])), (st, .inl (cI, 12, .inl (tu_lay p2 p3 sf 11)))]) hP hD [2, 3] [0, 1] rfl rfl (by decide) (by decide) hk1 hFc hP1 hD1
  have hP := hP.sub (ws' := [(q, .inr (1, [.ref wd, .ref us, .ref la, .ref nx])), (us, .inl (cU, 4, .inr (.inr (.inr (.inr g))))), (u, .inr (0, [.int p1, .int p5, .int p2, .int p3, .int p4, .int ac, .int dn, .int fi, .ref bc, .ref st])), (st, .inl (cI, 12, .inl (tu_lay p2 p3 sf 11)))]) [0, 1, 2, 3] rfl
  have hD := hD.sub (ws' := [(q, .inr (1, [.ref wd, .ref us, .ref la, .ref nx])), (us, .inl (cU, 4, .inr (.inr (.inr (.inr g))))), (u, .inr (0, [.int p1, .int p5, .int p2, .int p3, .int p4, .int ac, .int dn, .int fi, .ref bc, .ref st])), (st, .inl (cI, 12, .inl (tu_lay p2 p3 sf 11)))]) [0, 1, 2, 3] (by decide) rfl
  clear hPc hDc hFc hP1 hK1 hD1 hk1 hz1
  generalize H1 = H at hP hS ⊢
  have hP9 : va_P (dC, dI) vwCl [(q, .inr (1, [.ref wd, .ref us, .ref la, .ref nx])), (us, .inl (cU, 4, .inr (.inr (.inr (.inr g))))), (u, .inr (0, [.int p1, .int p5, .int p2, .int p3, .int p4, .int ac, .int dn, .int fi, .ref bc, .ref st])), (st, .inl (cI, 12, .inl (tu_lay p2 p3 sf 11)))] H := hP.sub [0, 1, 2, 3] rfl
  have hD9 : va_D A [(q, .inr (1, [.ref wd, .ref us, .ref la, .ref nx])), (us, .inl (cU, 4, .inr (.inr (.inr (.inr g))))), (u, .inr (0, [.int p1, .int p5, .int p2, .int p3, .int p4, .int ac, .int dn, .int fi, .ref bc, .ref st])), (st, .inl (cI, 12, .inl (tu_lay p2 p3 sf 11)))] := hD.sub [0, 1, 2, 3] (by decide) rfl
  have hK9 : va_K (dC, dI) vwCl [(cU, .object "TextureUnits$Unit"), (cI, .int)] s := hK.sub [0, 1] rfl
  exact W.vret hx hb hr (fun t ht hW => ⟨⟨(), rfl, trivial, by rw [ht]; exact hP9, va_K.moved hW.alike hK9, hD9⟩, hS.F ht⟩) hS.2.2 dX1_picture_117
set_option maxHeartbeats 4000000 in
set_option maxRecDepth 100000 in
theorem w_manner (l : Launch) (dC : Nat → ClassId) (dI : Nat → Nat → Nat) (q wd us la nx : Nat) (cU : ClassId) (g : Nat → Option Nat) (u : Nat) (fr fo lw lh lv ac dn fi : Int32) (bc st : Nat) (p0 p1 p2 p3 : Int32) (sz : Nat) (h0 : ¬ tu_win p0 0 3 = 0) (hg : g p0.toNatClampNeg = some u) (hv : ¬ tu_win p1 0 3 = 0 ∧ ¬ tu_win p2 0 3 = 0 ∧ ¬ tu_win p3 0 3 = 0) : Met l yX1_manner wsX1_manner ({ frames := 2, cells := 0, slots := 0, locals := 43 }) (va_Pc [.ref q, .int p0, .int p1, .int p2, .int p3] (wr_P (dC, dI) vwCl [(q, .inr (1, [.ref wd, .ref us, .ref la, .ref nx])), (us, .inl (cU, 4, .inr (.inr (.inr (.inr g))))), (u, .inr (0, [.int fr, .int fo, .int lw, .int lh, .int lv, .int ac, .int dn, .int fi, .ref bc, .ref st]))] [(cU, .object "TextureUnits$Unit")] sz)) (va_Qv (fun _ : Unit => True) (wr_B (dC, dI) vwCl [(q, .inr (1, [.ref wd, .ref us, .ref la, .ref nx])), (us, .inl (cU, 4, .inr (.inr (.inr (.inr g))))), (u, .inr (0, [.int fr, .int fo, .int lw, .int lh, .int lv, .int p1, .int p2, .int p3, .ref bc, .ref st]))] [(cU, .object "TextureUnits$Unit")] (va_A [(q, .inr (1, [.ref wd, .ref us, .ref la, .ref nx])), (us, .inl (cU, 4, .inr (.inr (.inr (.inr g))))), (u, .inr (0, [.int fr, .int fo, .int lw, .int lh, .int lv, .int ac, .int dn, .int fi, .ref bc, .ref st]))] sz)) (va_A [(q, .inr (1, [.ref wd, .ref us, .ref la, .ref nx])), (us, .inl (cU, 4, .inr (.inr (.inr (.inr g))))), (u, .inr (0, [.int fr, .int fo, .int lw, .int lh, .int lv, .int ac, .int dn, .int fi, .ref bc, .ref st]))] sz)) 0 0 (va_A [(q, .inr (1, [.ref wd, .ref us, .ref la, .ref nx])), (us, .inl (cU, 4, .inr (.inr (.inr (.inr g))))), (u, .inr (0, [.int fr, .int fo, .int lw, .int lh, .int lv, .int ac, .int dn, .int fi, .ref bc, .ref st]))] sz) := by
  refine Met.ofW (cc := cX1_manner) (maxL := 6) (ret := none) (by decide) rfl ?_
  intro p e s m args below meth c s₁ B hml hv
  obtain ⟨rfl, hsz, hP, hK, hD0⟩ := hv
  have hx := B.exec
  have hb := B.bytes
  have hr := B.returns
  have hts := atoms_spec (ws := wsX1_manner) B.pre
  have hown : s.vm.findClass "TextureUnits" = some m.cls := findClass_of_methodNamed B.named
  have hlocks := B.notSynchronized
  subst hsz
  have hD := hD0.self (sz := s.heap.size)
  generalize hAe : va_A [(q, .inr (1, [.ref wd, .ref us, .ref la, .ref nx])), (us, .inl (cU, 4, .inr (.inr (.inr (.inr g))))), (u, .inr (0, [.int fr, .int fo, .int lw, .int lh, .int lv, .int ac, .int dn, .int fi, .ref bc, .ref st]))] s.heap.size = A at hD ⊢
  have hA : ∀ q : Nat, s.heap.size ≤ q → A q := fun q h => by rw [← hAe]; exact Or.inr h
  have hS : va_S A s.heap s.heap [] := va_S.rf
  have hP : va_P (dC, dI) vwCl [(q, .inr (1, [.ref wd, .ref us, .ref la, .ref nx])), (us, .inl (cU, 4, .inr (.inr (.inr (.inr g))))), (u, .inr (0, [.int fr, .int fo, .int lw, .int lh, .int lv, .int ac, .int dn, .int fi, .ref bc, .ref st]))] s.heap := hP
  have hl := lv_entry ([.ref q, .int p0, .int p1, .int p2, .int p3]) (n := 6) (Nat.le_of_ble_eq_true rfl)
  rw [lg_entry_eq]
  generalize (lg_sl ([.ref q, .int p0, .int p1, .int p2, .int p3]) ++ List.replicate (6 - (lg_sl ([.ref q, .int p0, .int p1, .int p2, .int p3])).length) Slot.unset).toArray = ls at hl ⊢
  have hl : lv_has ls 6 [(0, .ref q), (1, .int p0), (2, .int p1), (3, .int p2), (4, .int p3)] := hl
  refine lv_aload_n hx hb dX1_manner_0 rfl (lv_at hl 0 rfl) ?_
  refine lv_iload_n hx hb dX1_manner_1 rfl (lv_at hl 1 rfl) ?_
  refine rf_call (W.runV (As := [.int p0]) (rest := []) ⟨hx, hb, hml, hown, hts⟩ (r_unitAt l dC dI q wd us la nx cU g u p0 h0 hg) (cwV 1 hts (tg_V tw_174 tw_176 tw_p1 tw_1 tw_177) rfl rfl rfl (by decide +kernel) ⟨Nat.le_of_ble_eq_true rfl, Nat.le_of_ble_eq_true rfl⟩) ⟨rd_blind, va_recv hK hP (ci := 1) (q0 := 0) rfl rfl, fun U hU hW => ⟨rfl, rd_use (hP.sub [0, 1] rfl) (hK.sub [0] rfl) U hU hW⟩⟩ rfl rfl hl.1 rfl (lv_room (Nat.le_of_ble_eq_true rfl)) dX1_manner_2 ⟨Nat.le_of_ble_eq_true rfl, Nat.le_of_ble_eq_true rfl⟩) ?_
  refine lv_astore (lv' := [(5, .ref u), (0, .ref q), (1, .int p0), (2, .int p1), (3, .int p2), (4, .int p3)]) hx hb dX1_manner_5 hl (by decide) rfl (fun ls hl => ?_)
  refine lv_iload_n hx hb dX1_manner_7 rfl (lv_at hl 3 rfl) ?_
  refine lv_iconst (v := 0) hx hb dX1_manner_8 (by decide) ?_
  refine lv_iconst (v := 3) hx hb dX1_manner_9 (by decide) ?_
  refine rd_call (W.runS (As := [.int p1, .int 0, .int 3]) (rest := []) ⟨hx, hb, hml, hown, hts⟩ (r_within l p1 0 3) (va_cwS 3 hts (tg_S tw_94 tw_95 tw_1 tw_96) rfl rfl rfl (by decide +kernel) ⟨Nat.le_of_ble_eq_true rfl, Nat.le_of_ble_eq_true rfl⟩) preEq rfl rfl hl.1 rfl (lv_room (Nat.le_of_ble_eq_true rfl)) dX1_manner_10 ⟨Nat.le_of_ble_eq_true rfl, Nat.le_of_ble_eq_true rfl⟩) ?_
  refine lv_if_eq (tgt := 25) hx hb dX1_manner_13 (by decide) (fun c_1 => absurd c_1 hv.1) (fun c_1 => ?_)
  refine lv_iload_n hx hb dX1_manner_16 rfl (lv_at hl 4 rfl) ?_
  refine lv_iconst (v := 0) hx hb dX1_manner_17 (by decide) ?_
  refine lv_iconst (v := 3) hx hb dX1_manner_18 (by decide) ?_
  refine rd_call (W.runS (As := [.int p2, .int 0, .int 3]) (rest := []) ⟨hx, hb, hml, hown, hts⟩ (r_within l p2 0 3) (va_cwS 3 hts (tg_S tw_94 tw_95 tw_1 tw_96) rfl rfl rfl (by decide +kernel) ⟨Nat.le_of_ble_eq_true rfl, Nat.le_of_ble_eq_true rfl⟩) preEq rfl rfl hl.1 rfl (lv_room (Nat.le_of_ble_eq_true rfl)) dX1_manner_19 ⟨Nat.le_of_ble_eq_true rfl, Nat.le_of_ble_eq_true rfl⟩) ?_
  refine lv_if_ne (tgt := 35) hx hb dX1_manner_22 (by decide) (fun c_2 => ?_) (fun c_2 => absurd c_2 hv.2.1)
  refine lv_iload hx hb dX1_manner_35 (lv_at hl 5 rfl) ?_
  refine lv_iconst (v := 0) hx hb dX1_manner_37 (by decide) ?_
  refine lv_iconst (v := 3) hx hb dX1_manner_38 (by decide) ?_
  refine rd_call (W.runS (As := [.int p3, .int 0, .int 3]) (rest := []) ⟨hx, hb, hml, hown, hts⟩ (r_within l p3 0 3) (va_cwS 3 hts (tg_S tw_94 tw_95 tw_1 tw_96) rfl rfl rfl (by decide +kernel) ⟨Nat.le_of_ble_eq_true rfl, Nat.le_of_ble_eq_true rfl⟩) preEq rfl rfl hl.1 rfl (lv_room (Nat.le_of_ble_eq_true rfl)) dX1_manner_39 ⟨Nat.le_of_ble_eq_true rfl, Nat.le_of_ble_eq_true rfl⟩) ?_
  refine lv_if_ne (tgt := 55) hx hb dX1_manner_42 (by decide) (fun c_3 => ?_) (fun c_3 => absurd c_3 hv.2.2)
  refine lv_aload hx hb dX1_manner_55 (lv_at hl 0 rfl) ?_
  refine lv_iload_n hx hb dX1_manner_57 rfl (lv_at hl 3 rfl) ?_
  refine va_put (D := (dC, dI)) (ci := 0) (v := .int p1) (ty := .int) (C := "TextureUnits$Unit") (T := TX0) (N := 10) hx hb hts (tw_s inX0) tyX0 tyX0_ok nmX0 hown hK hP hD hS 2 rfl rfl 5 (by decide) (hts _ (tw_c tw_44)) (fun _ h9 => h9) rfl (by decide +kernel) rfl rfl (Nat.le_of_ble_eq_true rfl) dX1_manner_58 (fun H locs hP hD hS => ?_)
  have hP : va_P (dC, dI) vwCl [(q, .inr (1, [.ref wd, .ref us, .ref la, .ref nx])), (us, .inl (cU, 4, .inr (.inr (.inr (.inr g))))), (u, .inr (0, [.int fr, .int fo, .int lw, .int lh, .int lv, .int p1, .int dn, .int fi, .ref bc, .ref st]))] H := hP
  have hD : va_D A [(q, .inr (1, [.ref wd, .ref us, .ref la, .ref nx])), (us, .inl (cU, 4, .inr (.inr (.inr (.inr g))))), (u, .inr (0, [.int fr, .int fo, .int lw, .int lh, .int lv, .int p1, .int dn, .int fi, .ref bc, .ref st]))] := hD
  refine lv_aload hx hb dX1_manner_61 (lv_at hl 0 rfl) ?_
  refine lv_iload_n hx hb dX1_manner_63 rfl (lv_at hl 4 rfl) ?_
  refine va_put (D := (dC, dI)) (ci := 0) (v := .int p2) (ty := .int) (C := "TextureUnits$Unit") (T := TX0) (N := 10) hx hb hts (tw_s inX0) tyX0 tyX0_ok nmX0 hown hK hP hD hS 2 rfl rfl 6 (by decide) (hts _ (tw_c tw_45)) (fun _ h9 => h9) rfl (by decide +kernel) rfl rfl (Nat.le_of_ble_eq_true rfl) dX1_manner_64 (fun H locs hP hD hS => ?_)
  have hP : va_P (dC, dI) vwCl [(q, .inr (1, [.ref wd, .ref us, .ref la, .ref nx])), (us, .inl (cU, 4, .inr (.inr (.inr (.inr g))))), (u, .inr (0, [.int fr, .int fo, .int lw, .int lh, .int lv, .int p1, .int p2, .int fi, .ref bc, .ref st]))] H := hP
  have hD : va_D A [(q, .inr (1, [.ref wd, .ref us, .ref la, .ref nx])), (us, .inl (cU, 4, .inr (.inr (.inr (.inr g))))), (u, .inr (0, [.int fr, .int fo, .int lw, .int lh, .int lv, .int p1, .int p2, .int fi, .ref bc, .ref st]))] := hD
  refine lv_aload hx hb dX1_manner_67 (lv_at hl 0 rfl) ?_
  refine lv_iload hx hb dX1_manner_69 (lv_at hl 5 rfl) ?_
  refine va_put (D := (dC, dI)) (ci := 0) (v := .int p3) (ty := .int) (C := "TextureUnits$Unit") (T := TX0) (N := 10) hx hb hts (tw_s inX0) tyX0 tyX0_ok nmX0 hown hK hP hD hS 2 rfl rfl 7 (by decide) (hts _ (tw_c tw_46)) (fun _ h9 => h9) rfl (by decide +kernel) rfl rfl (Nat.le_of_ble_eq_true rfl) dX1_manner_71 (fun H locs hP hD hS => ?_)
  have hP : va_P (dC, dI) vwCl [(q, .inr (1, [.ref wd, .ref us, .ref la, .ref nx])), (us, .inl (cU, 4, .inr (.inr (.inr (.inr g))))), (u, .inr (0, [.int fr, .int fo, .int lw, .int lh, .int lv, .int p1, .int p2, .int p3, .ref bc, .ref st]))] H := hP
  have hD : va_D A [(q, .inr (1, [.ref wd, .ref us, .ref la, .ref nx])), (us, .inl (cU, 4, .inr (.inr (.inr (.inr g))))), (u, .inr (0, [.int fr, .int fo, .int lw, .int lh, .int lv, .int p1, .int p2, .int p3, .ref bc, .ref st]))] := hD
  have hP9 : va_P (dC, dI) vwCl [(q, .inr (1, [.ref wd, .ref us, .ref la, .ref nx])), (us, .inl (cU, 4, .inr (.inr (.inr (.inr g))))), (u, .inr (0, [.int fr, .int fo, .int lw, .int lh, .int lv, .int p1, .int p2, .int p3, .ref bc, .ref st]))] H := hP.sub [0, 1, 2] rfl
  have hD9 : va_D A [(q, .inr (1, [.ref wd, .ref us, .ref la, .ref nx])), (us, .inl (cU, 4, .inr (.inr (.inr (.inr g))))), (u, .inr (0, [.int fr, .int fo, .int lw, .int lh, .int lv, .int p1, .int p2, .int p3, .ref bc, .ref st]))] := hD.sub [0, 1, 2] (by decide) rfl
  have hK9 : va_K (dC, dI) vwCl [(cU, .object "TextureUnits$Unit")] s := hK.sub [0] rfl
  exact W.vret hx hb hr (fun t ht hW => ⟨⟨(), rfl, trivial, by rw [ht]; exact hP9, va_K.moved hW.alike hK9, hD9⟩, hS.F ht⟩) hS.2.2 dX1_manner_74
set_option maxHeartbeats 4000000 in
set_option maxRecDepth 100000 in
theorem w_border (l : Launch) (dC : Nat → ClassId) (dI : Nat → Nat → Nat) (q wd us la nx : Nat) (cU : ClassId) (g : Nat → Option Nat) (u : Nat) (fr fo lw lh lv ac dn fi : Int32) (bc st : Nat) (cI : ClassId) (bd : Nat → Int32) (p0 p1 p2 p3 p4 : Int32) (sz : Nat) (h0 : ¬ tu_win p0 0 3 = 0) (hg : g p0.toNatClampNeg = some u) : Met l yX1_border wsX1_border ({ frames := 2, cells := 0, slots := 0, locals := 43 }) (va_Pc [.ref q, .int p0, .int p1, .int p2, .int p3, .int p4] (wr_P (dC, dI) vwCl [(q, .inr (1, [.ref wd, .ref us, .ref la, .ref nx])), (us, .inl (cU, 4, .inr (.inr (.inr (.inr g))))), (u, .inr (0, [.int fr, .int fo, .int lw, .int lh, .int lv, .int ac, .int dn, .int fi, .ref bc, .ref st])), (bc, .inl (cI, 4, .inl bd))] [(cU, .object "TextureUnits$Unit"), (cI, .int)] sz)) (va_Qv (fun _ : Unit => True) (wr_B (dC, dI) vwCl [(q, .inr (1, [.ref wd, .ref us, .ref la, .ref nx])), (us, .inl (cU, 4, .inr (.inr (.inr (.inr g))))), (u, .inr (0, [.int fr, .int fo, .int lw, .int lh, .int lv, .int ac, .int dn, .int fi, .ref bc, .ref st])), (bc, .inl (cI, 4, .inl (tu_put4 bd p1 p2 p3 p4)))] [(cU, .object "TextureUnits$Unit"), (cI, .int)] (va_A [(q, .inr (1, [.ref wd, .ref us, .ref la, .ref nx])), (us, .inl (cU, 4, .inr (.inr (.inr (.inr g))))), (u, .inr (0, [.int fr, .int fo, .int lw, .int lh, .int lv, .int ac, .int dn, .int fi, .ref bc, .ref st])), (bc, .inl (cI, 4, .inl bd))] sz)) (va_A [(q, .inr (1, [.ref wd, .ref us, .ref la, .ref nx])), (us, .inl (cU, 4, .inr (.inr (.inr (.inr g))))), (u, .inr (0, [.int fr, .int fo, .int lw, .int lh, .int lv, .int ac, .int dn, .int fi, .ref bc, .ref st])), (bc, .inl (cI, 4, .inl bd))] sz)) 0 0 (va_A [(q, .inr (1, [.ref wd, .ref us, .ref la, .ref nx])), (us, .inl (cU, 4, .inr (.inr (.inr (.inr g))))), (u, .inr (0, [.int fr, .int fo, .int lw, .int lh, .int lv, .int ac, .int dn, .int fi, .ref bc, .ref st])), (bc, .inl (cI, 4, .inl bd))] sz) := by
  refine Met.ofW (cc := cX1_border) (maxL := 7) (ret := none) (by decide) rfl ?_
  intro p e s m args below meth c s₁ B hml hv
  obtain ⟨rfl, hsz, hP, hK, hD0⟩ := hv
  have hx := B.exec
  have hb := B.bytes
  have hr := B.returns
  have hts := atoms_spec (ws := wsX1_border) B.pre
  have hown : s.vm.findClass "TextureUnits" = some m.cls := findClass_of_methodNamed B.named
  have hlocks := B.notSynchronized
  subst hsz
  have hD := hD0.self (sz := s.heap.size)
  generalize hAe : va_A [(q, .inr (1, [.ref wd, .ref us, .ref la, .ref nx])), (us, .inl (cU, 4, .inr (.inr (.inr (.inr g))))), (u, .inr (0, [.int fr, .int fo, .int lw, .int lh, .int lv, .int ac, .int dn, .int fi, .ref bc, .ref st])), (bc, .inl (cI, 4, .inl bd))] s.heap.size = A at hD ⊢
  have hA : ∀ q : Nat, s.heap.size ≤ q → A q := fun q h => by rw [← hAe]; exact Or.inr h
  have hS : va_S A s.heap s.heap [] := va_S.rf
  have hP : va_P (dC, dI) vwCl [(q, .inr (1, [.ref wd, .ref us, .ref la, .ref nx])), (us, .inl (cU, 4, .inr (.inr (.inr (.inr g))))), (u, .inr (0, [.int fr, .int fo, .int lw, .int lh, .int lv, .int ac, .int dn, .int fi, .ref bc, .ref st])), (bc, .inl (cI, 4, .inl bd))] s.heap := hP
  have hl := lv_entry ([.ref q, .int p0, .int p1, .int p2, .int p3, .int p4]) (n := 7) (Nat.le_of_ble_eq_true rfl)
  rw [lg_entry_eq]
  generalize (lg_sl ([.ref q, .int p0, .int p1, .int p2, .int p3, .int p4]) ++ List.replicate (7 - (lg_sl ([.ref q, .int p0, .int p1, .int p2, .int p3, .int p4])).length) Slot.unset).toArray = ls at hl ⊢
  have hl : lv_has ls 7 [(0, .ref q), (1, .int p0), (2, .int p1), (3, .int p2), (4, .int p3), (5, .int p4)] := hl
  refine lv_aload_n hx hb dX1_border_0 rfl (lv_at hl 0 rfl) ?_
  refine lv_iload_n hx hb dX1_border_1 rfl (lv_at hl 1 rfl) ?_
  refine rf_call (W.runV (As := [.int p0]) (rest := []) ⟨hx, hb, hml, hown, hts⟩ (r_unitAt l dC dI q wd us la nx cU g u p0 h0 hg) (cwV 1 hts (tg_V tw_174 tw_176 tw_p1 tw_1 tw_177) rfl rfl rfl (by decide +kernel) ⟨Nat.le_of_ble_eq_true rfl, Nat.le_of_ble_eq_true rfl⟩) ⟨rd_blind, va_recv hK hP (ci := 1) (q0 := 0) rfl rfl, fun U hU hW => ⟨rfl, rd_use (hP.sub [0, 1] rfl) (hK.sub [0] rfl) U hU hW⟩⟩ rfl rfl hl.1 rfl (lv_room (Nat.le_of_ble_eq_true rfl)) dX1_border_2 ⟨Nat.le_of_ble_eq_true rfl, Nat.le_of_ble_eq_true rfl⟩) ?_
  refine va_get (D := (dC, dI)) (ci := 0) (v := .ref bc) (C := "TextureUnits$Unit") (T := TX0) (N := 10) hx hb hts (tw_s inX0) hown hK hP 2 rfl rfl 8 (by decide) (hts _ (tw_c tw_48)) (fun _ h9 => h9) rfl dX1_border_5 ?_
  refine lv_astore (lv' := [(6, .ref bc), (0, .ref q), (1, .int p0), (2, .int p1), (3, .int p2), (4, .int p3), (5, .int p4)]) hx hb dX1_border_8 hl (by decide) rfl (fun ls hl => ?_)
  refine lv_aload hx hb dX1_border_10 (lv_at hl 0 rfl) ?_
  refine lv_iconst (v := 0) hx hb dX1_border_12 (by decide) ?_
  refine lv_iload_n hx hb dX1_border_13 rfl (lv_at hl 3 rfl) ?_
  refine va_iast hx hb hK hP hD hS 3 1 rfl rfl (tu_in (by decide)) dX1_border_14 (fun H locs hP hD hS => ?_)
  have hP : va_P (dC, dI) vwCl [(q, .inr (1, [.ref wd, .ref us, .ref la, .ref nx])), (us, .inl (cU, 4, .inr (.inr (.inr (.inr g))))), (u, .inr (0, [.int fr, .int fo, .int lw, .int lh, .int lv, .int ac, .int dn, .int fi, .ref bc, .ref st])), (bc, .inl (cI, 4, .inl (upd bd 0 p1)))] H := hP
  have hD : va_D A [(q, .inr (1, [.ref wd, .ref us, .ref la, .ref nx])), (us, .inl (cU, 4, .inr (.inr (.inr (.inr g))))), (u, .inr (0, [.int fr, .int fo, .int lw, .int lh, .int lv, .int ac, .int dn, .int fi, .ref bc, .ref st])), (bc, .inl (cI, 4, .inl (upd bd 0 p1)))] := hD
  refine lv_aload hx hb dX1_border_15 (lv_at hl 0 rfl) ?_
  refine lv_iconst (v := 1) hx hb dX1_border_17 (by decide) ?_
  refine lv_iload_n hx hb dX1_border_18 rfl (lv_at hl 4 rfl) ?_
  refine va_iast hx hb hK hP hD hS 3 1 rfl rfl (tu_in (by decide)) dX1_border_19 (fun H locs hP hD hS => ?_)
  have hP : va_P (dC, dI) vwCl [(q, .inr (1, [.ref wd, .ref us, .ref la, .ref nx])), (us, .inl (cU, 4, .inr (.inr (.inr (.inr g))))), (u, .inr (0, [.int fr, .int fo, .int lw, .int lh, .int lv, .int ac, .int dn, .int fi, .ref bc, .ref st])), (bc, .inl (cI, 4, .inl (upd (upd bd 0 p1) 1 p2)))] H := hP
  have hD : va_D A [(q, .inr (1, [.ref wd, .ref us, .ref la, .ref nx])), (us, .inl (cU, 4, .inr (.inr (.inr (.inr g))))), (u, .inr (0, [.int fr, .int fo, .int lw, .int lh, .int lv, .int ac, .int dn, .int fi, .ref bc, .ref st])), (bc, .inl (cI, 4, .inl (upd (upd bd 0 p1) 1 p2)))] := hD
  refine lv_aload hx hb dX1_border_20 (lv_at hl 0 rfl) ?_
  refine lv_iconst (v := 2) hx hb dX1_border_22 (by decide) ?_
  refine lv_iload hx hb dX1_border_23 (lv_at hl 5 rfl) ?_
  refine va_iast hx hb hK hP hD hS 3 1 rfl rfl (tu_in (by decide)) dX1_border_25 (fun H locs hP hD hS => ?_)
  have hP : va_P (dC, dI) vwCl [(q, .inr (1, [.ref wd, .ref us, .ref la, .ref nx])), (us, .inl (cU, 4, .inr (.inr (.inr (.inr g))))), (u, .inr (0, [.int fr, .int fo, .int lw, .int lh, .int lv, .int ac, .int dn, .int fi, .ref bc, .ref st])), (bc, .inl (cI, 4, .inl (upd (upd (upd bd 0 p1) 1 p2) 2 p3)))] H := hP
  have hD : va_D A [(q, .inr (1, [.ref wd, .ref us, .ref la, .ref nx])), (us, .inl (cU, 4, .inr (.inr (.inr (.inr g))))), (u, .inr (0, [.int fr, .int fo, .int lw, .int lh, .int lv, .int ac, .int dn, .int fi, .ref bc, .ref st])), (bc, .inl (cI, 4, .inl (upd (upd (upd bd 0 p1) 1 p2) 2 p3)))] := hD
  refine lv_aload hx hb dX1_border_26 (lv_at hl 0 rfl) ?_
  refine lv_iconst (v := 3) hx hb dX1_border_28 (by decide) ?_
  refine lv_iload hx hb dX1_border_29 (lv_at hl 6 rfl) ?_
  refine va_iast hx hb hK hP hD hS 3 1 rfl rfl (tu_in (by decide)) dX1_border_31 (fun H locs hP hD hS => ?_)
  have hP : va_P (dC, dI) vwCl [(q, .inr (1, [.ref wd, .ref us, .ref la, .ref nx])), (us, .inl (cU, 4, .inr (.inr (.inr (.inr g))))), (u, .inr (0, [.int fr, .int fo, .int lw, .int lh, .int lv, .int ac, .int dn, .int fi, .ref bc, .ref st])), (bc, .inl (cI, 4, .inl (upd (upd (upd (upd bd 0 p1) 1 p2) 2 p3) 3 p4)))] H := hP
  have hD : va_D A [(q, .inr (1, [.ref wd, .ref us, .ref la, .ref nx])), (us, .inl (cU, 4, .inr (.inr (.inr (.inr g))))), (u, .inr (0, [.int fr, .int fo, .int lw, .int lh, .int lv, .int ac, .int dn, .int fi, .ref bc, .ref st])), (bc, .inl (cI, 4, .inl (upd (upd (upd (upd bd 0 p1) 1 p2) 2 p3) 3 p4)))] := hD
  have hP9 : va_P (dC, dI) vwCl [(q, .inr (1, [.ref wd, .ref us, .ref la, .ref nx])), (us, .inl (cU, 4, .inr (.inr (.inr (.inr g))))), (u, .inr (0, [.int fr, .int fo, .int lw, .int lh, .int lv, .int ac, .int dn, .int fi, .ref bc, .ref st])), (bc, .inl (cI, 4, .inl (tu_put4 bd p1 p2 p3 p4)))] H := hP.sub [0, 1, 2, 3] rfl
  have hD9 : va_D A [(q, .inr (1, [.ref wd, .ref us, .ref la, .ref nx])), (us, .inl (cU, 4, .inr (.inr (.inr (.inr g))))), (u, .inr (0, [.int fr, .int fo, .int lw, .int lh, .int lv, .int ac, .int dn, .int fi, .ref bc, .ref st])), (bc, .inl (cI, 4, .inl (tu_put4 bd p1 p2 p3 p4)))] := hD.sub [0, 1, 2, 3] (by decide) rfl
  have hK9 : va_K (dC, dI) vwCl [(cU, .object "TextureUnits$Unit"), (cI, .int)] s := hK.sub [0, 1] rfl
  exact W.vret hx hb hr (fun t ht hW => ⟨⟨(), rfl, trivial, by rw [ht]; exact hP9, va_K.moved hW.alike hK9, hD9⟩, hS.F ht⟩) hS.2.2 dX1_border_32
set_option maxHeartbeats 4000000 in
set_option maxRecDepth 100000 in
theorem r_texel (l : Launch) (dC : Nat → ClassId) (dI : Nat → Nat → Nat) (q wd us la nx : Nat) (cU : ClassId) (g : Nat → Option Nat) (u : Nat) (fr fo lw lh lv ac dn fi : Int32) (bc st : Nat) (cI : ClassId) (mem sf : Nat → Int32) (tb : Nat × Nat × Nat) (p0 p1 p2 p3 p4 : Int32) (h0 : ¬ tu_win p0 0 3 = 0) (hg : g p0.toNatClampNeg = some u) (hv : ¬ tu_win p1 0 (lv - 1) = 0 ∧ ¬ tu_win p2 0 (tu_len lw p1 - 1) = 0 ∧ ¬ tu_win p3 0 (tu_len lh p1 - 1) = 0 ∧ ¬ tu_win p4 0 3 = 0) (h1 : vp_in fo 8) (h2 : vp_in p1 12) : Met l yX1_texel wsX1_texel ({ frames := 3, cells := 0, slots := 0, locals := 75 }) (va_Pc [.ref q, .int p0, .int p1, .int p2, .int p3, .int p4] (rt_B (dC, dI) vwCl [(q, .inr (1, [.ref wd, .ref us, .ref la, .ref nx])), (us, .inl (cU, 4, .inr (.inr (.inr (.inr g))))), (u, .inr (0, [.int fr, .int fo, .int lw, .int lh, .int lv, .int ac, .int dn, .int fi, .ref bc, .ref st])), (wd, .inl (cI, 2048, .inl mem)), (st, .inl (cI, 12, .inl sf))] [(cU, .object "TextureUnits$Unit"), (cI, .int)] tb)) (QcRead (tu_stored mem sf fr fo lw p1 p2 p3 p4)) 0 0 (fun _ => False) := by
  refine Met.ofW (cc := cX1_texel) (maxL := 7) (ret := some .int) (by decide) rfl ?_
  intro p e s m args below meth c s₁ B hml hv
  obtain ⟨rfl, hP, hK, hX⟩ := hv
  have hx := B.exec
  have hb := B.bytes
  have hr := B.returns
  have hts := atoms_spec (ws := wsX1_texel) B.pre
  have hown : s.vm.findClass "TextureUnits" = some m.cls := findClass_of_methodNamed B.named
  have hlocks := B.notSynchronized
  have hl := lv_entry ([.ref q, .int p0, .int p1, .int p2, .int p3, .int p4]) (n := 7) (Nat.le_of_ble_eq_true rfl)
  rw [lg_entry_eq]
  generalize (lg_sl ([.ref q, .int p0, .int p1, .int p2, .int p3, .int p4]) ++ List.replicate (7 - (lg_sl ([.ref q, .int p0, .int p1, .int p2, .int p3, .int p4])).length) Slot.unset).toArray = ls at hl ⊢
  have hl : lv_has ls 7 [(0, .ref q), (1, .int p0), (2, .int p1), (3, .int p2), (4, .int p3), (5, .int p4)] := hl
  refine lv_aload_n hx hb dX1_texel_0 rfl (lv_at hl 0 rfl) ?_
  refine lv_iload_n hx hb dX1_texel_1 rfl (lv_at hl 1 rfl) ?_
  refine rf_call (W.runV (As := [.int p0]) (rest := []) ⟨hx, hb, hml, hown, hts⟩ (r_unitAt l dC dI q wd us la nx cU g u p0 h0 hg) (cwV 1 hts (tg_V tw_174 tw_176 tw_p1 tw_1 tw_177) rfl rfl rfl (by decide +kernel) ⟨Nat.le_of_ble_eq_true rfl, Nat.le_of_ble_eq_true rfl⟩) ⟨rd_blind, va_recv hK hP (ci := 1) (q0 := 0) rfl rfl, fun U hU hW => ⟨rfl, rd_use (hP.sub [0, 1] rfl) (hK.sub [0] rfl) U hU hW⟩⟩ rfl rfl hl.1 rfl (lv_room (Nat.le_of_ble_eq_true rfl)) dX1_texel_2 ⟨Nat.le_of_ble_eq_true rfl, Nat.le_of_ble_eq_true rfl⟩) ?_
  refine lv_astore (lv' := [(6, .ref u), (0, .ref q), (1, .int p0), (2, .int p1), (3, .int p2), (4, .int p3), (5, .int p4)]) hx hb dX1_texel_5 hl (by decide) rfl (fun ls hl => ?_)
  refine lv_iload_n hx hb dX1_texel_7 rfl (lv_at hl 3 rfl) ?_
  refine lv_iconst (v := 0) hx hb dX1_texel_8 (by decide) ?_
  refine lv_aload hx hb dX1_texel_9 (lv_at hl 0 rfl) ?_
  refine va_get (D := (dC, dI)) (ci := 0) (v := .int lv) (C := "TextureUnits$Unit") (T := TX0) (N := 10) hx hb hts (tw_s inX0) hown hK hP 2 rfl rfl 4 (by decide) (hts _ (tw_c tw_43)) (fun _ h9 => h9) rfl dX1_texel_11 ?_
  refine lv_iconst (v := 1) hx hb dX1_texel_14 (by decide) ?_
  refine lv_isub hx hb dX1_texel_15 ?_
  refine rd_call (W.runS (As := [.int p1, .int 0, .int (lv - (1 : Int32))]) (rest := []) ⟨hx, hb, hml, hown, hts⟩ (r_within l p1 0 (lv - (1 : Int32))) (va_cwS 3 hts (tg_S tw_94 tw_95 tw_1 tw_96) rfl rfl rfl (by decide +kernel) ⟨Nat.le_of_ble_eq_true rfl, Nat.le_of_ble_eq_true rfl⟩) preEq rfl rfl hl.1 rfl (lv_room (Nat.le_of_ble_eq_true rfl)) dX1_texel_16 ⟨Nat.le_of_ble_eq_true rfl, Nat.le_of_ble_eq_true rfl⟩) ?_
  refine lv_if_ne (tgt := 32) hx hb dX1_texel_19 (by decide) (fun c_1 => ?_) (fun c_1 => absurd c_1 hv.1)
  refine lv_iload_n hx hb dX1_texel_32 rfl (lv_at hl 4 rfl) ?_
  refine lv_iconst (v := 0) hx hb dX1_texel_33 (by decide) ?_
  refine lv_aload hx hb dX1_texel_34 (lv_at hl 0 rfl) ?_
  refine lv_iload_n hx hb dX1_texel_36 rfl (lv_at hl 3 rfl) ?_
  refine rd_call (W.runV (As := [.int p1]) (rest := [.int 0, .int p2]) ⟨hx, hb, hml, hown, hts⟩ (r_width l dC dI u fr fo lw lh lv ac dn fi bc st p1) (cwV 1 hts (tg_V tw_238 tw_31 tw_32 tw_2 tw_33) rfl rfl rfl (by decide +kernel) ⟨Nat.le_of_ble_eq_true rfl, Nat.le_of_ble_eq_true rfl⟩) ⟨rd_blind, va_recv hK hP (ci := 0) (q0 := 2) rfl rfl, fun U hU hW => ⟨rfl, rd_use (hP.sub [2] rfl) (hK.sub [] rfl) U hU hW⟩⟩ rfl rfl hl.1 rfl (lv_room (Nat.le_of_ble_eq_true rfl)) dX1_texel_37 ⟨Nat.le_of_ble_eq_true rfl, Nat.le_of_ble_eq_true rfl⟩) ?_
  refine lv_iconst (v := 1) hx hb dX1_texel_40 (by decide) ?_
  refine lv_isub hx hb dX1_texel_41 ?_
  refine rd_call (W.runS (As := [.int p2, .int 0, .int ((tu_len lw p1) - (1 : Int32))]) (rest := []) ⟨hx, hb, hml, hown, hts⟩ (r_within l p2 0 ((tu_len lw p1) - (1 : Int32))) (va_cwS 3 hts (tg_S tw_94 tw_95 tw_1 tw_96) rfl rfl rfl (by decide +kernel) ⟨Nat.le_of_ble_eq_true rfl, Nat.le_of_ble_eq_true rfl⟩) preEq rfl rfl hl.1 rfl (lv_room (Nat.le_of_ble_eq_true rfl)) dX1_texel_42 ⟨Nat.le_of_ble_eq_true rfl, Nat.le_of_ble_eq_true rfl⟩) ?_
  refine lv_if_eq (tgt := 65) hx hb dX1_texel_45 (by decide) (fun c_2 => absurd c_2 hv.2.1) (fun c_2 => ?_)
  refine lv_iload hx hb dX1_texel_48 (lv_at hl 5 rfl) ?_
  refine lv_iconst (v := 0) hx hb dX1_texel_50 (by decide) ?_
  refine lv_aload hx hb dX1_texel_51 (lv_at hl 0 rfl) ?_
  refine lv_iload_n hx hb dX1_texel_53 rfl (lv_at hl 3 rfl) ?_
  refine rd_call (W.runV (As := [.int p1]) (rest := [.int 0, .int p3]) ⟨hx, hb, hml, hown, hts⟩ (r_height l dC dI u fr fo lw lh lv ac dn fi bc st p1) (cwV 1 hts (tg_V tw_239 tw_35 tw_36 tw_2 tw_37) rfl rfl rfl (by decide +kernel) ⟨Nat.le_of_ble_eq_true rfl, Nat.le_of_ble_eq_true rfl⟩) ⟨rd_blind, va_recv hK hP (ci := 0) (q0 := 2) rfl rfl, fun U hU hW => ⟨rfl, rd_use (hP.sub [2] rfl) (hK.sub [] rfl) U hU hW⟩⟩ rfl rfl hl.1 rfl (lv_room (Nat.le_of_ble_eq_true rfl)) dX1_texel_54 ⟨Nat.le_of_ble_eq_true rfl, Nat.le_of_ble_eq_true rfl⟩) ?_
  refine lv_iconst (v := 1) hx hb dX1_texel_57 (by decide) ?_
  refine lv_isub hx hb dX1_texel_58 ?_
  refine rd_call (W.runS (As := [.int p3, .int 0, .int ((tu_len lh p1) - (1 : Int32))]) (rest := []) ⟨hx, hb, hml, hown, hts⟩ (r_within l p3 0 ((tu_len lh p1) - (1 : Int32))) (va_cwS 3 hts (tg_S tw_94 tw_95 tw_1 tw_96) rfl rfl rfl (by decide +kernel) ⟨Nat.le_of_ble_eq_true rfl, Nat.le_of_ble_eq_true rfl⟩) preEq rfl rfl hl.1 rfl (lv_room (Nat.le_of_ble_eq_true rfl)) dX1_texel_59 ⟨Nat.le_of_ble_eq_true rfl, Nat.le_of_ble_eq_true rfl⟩) ?_
  refine lv_if_ne (tgt := 75) hx hb dX1_texel_62 (by decide) (fun c_3 => ?_) (fun c_3 => absurd c_3 hv.2.2.1)
  refine lv_iload hx hb dX1_texel_75 (lv_at hl 6 rfl) ?_
  refine lv_iconst (v := 0) hx hb dX1_texel_77 (by decide) ?_
  refine lv_iconst (v := 3) hx hb dX1_texel_78 (by decide) ?_
  refine rd_call (W.runS (As := [.int p4, .int 0, .int 3]) (rest := []) ⟨hx, hb, hml, hown, hts⟩ (r_within l p4 0 3) (va_cwS 3 hts (tg_S tw_94 tw_95 tw_1 tw_96) rfl rfl rfl (by decide +kernel) ⟨Nat.le_of_ble_eq_true rfl, Nat.le_of_ble_eq_true rfl⟩) preEq rfl rfl hl.1 rfl (lv_room (Nat.le_of_ble_eq_true rfl)) dX1_texel_79 ⟨Nat.le_of_ble_eq_true rfl, Nat.le_of_ble_eq_true rfl⟩) ?_
  refine lv_if_ne (tgt := 95) hx hb dX1_texel_82 (by decide) (fun c_4 => ?_) (fun c_4 => absurd c_4 hv.2.2.2)
  refine lv_aload_n hx hb dX1_texel_95 rfl (lv_at hl 1 rfl) ?_
  refine lv_aload hx hb dX1_texel_96 (lv_at hl 0 rfl) ?_
  refine lv_iload_n hx hb dX1_texel_98 rfl (lv_at hl 3 rfl) ?_
  refine lv_iload_n hx hb dX1_texel_99 rfl (lv_at hl 4 rfl) ?_
  refine lv_iload hx hb dX1_texel_100 (lv_at hl 5 rfl) ?_
  refine lv_iload hx hb dX1_texel_102 (lv_at hl 6 rfl) ?_
  refine rd_call (W.runV (As := [.ref u, .int p1, .int p2, .int p3, .int p4]) (rest := []) ⟨hx, hb, hml, hown, hts⟩ (r_stored l dC dI q wd us la nx u fr fo lw lh lv ac dn fi bc st cI mem sf tb p1 p2 p3 p4 h2 h1 (tu_fo4 h1 (tu_win_in hv.2.2.2 (by decide)))) (cwV 5 hts (tg_V tw_242 tw_244 tw_p2 tw_1 tw_245) rfl rfl rfl (by decide +kernel) ⟨Nat.le_of_ble_eq_true rfl, Nat.le_of_ble_eq_true rfl⟩) ⟨rt_blind, va_recv hK hP (ci := 1) (q0 := 0) rfl rfl, fun U hU hW => ⟨rfl, rt_use (hP.sub [0, 2, 3, 4] rfl) (hK.sub [1] rfl) hX U hU hW⟩⟩ rfl rfl hl.1 rfl (lv_room (Nat.le_of_ble_eq_true rfl)) dX1_texel_104 ⟨Nat.le_of_ble_eq_true rfl, Nat.le_of_ble_eq_true rfl⟩) ?_
  exact W.iret (v := (tu_stored mem sf fr fo lw p1 p2 p3 p4)) hx hb hr (fun t ht hW => rd_q rfl ht) (fun q h => by cases h) dX1_texel_107
set_option maxHeartbeats 4000000 in
set_option maxRecDepth 100000 in
theorem r_texels (l : Launch) (dC : Nat → ClassId) (dI : Nat → Nat → Nat) (q wd us la nx : Nat) (cU : ClassId) (g : Nat → Option Nat) (u : Nat) (fr fo lw lh lv ac dn fi : Int32) (bc st : Nat) (cI : ClassId) (sf : Nat → Int32) (p0 : Int32) (h0 : ¬ tu_win p0 0 3 = 0) (hg : g p0.toNatClampNeg = some u) (h1 : vp_in lv 12) : Met l yX1_texels wsX1_texels ({ frames := 2, cells := 0, slots := 0, locals := 43 }) (va_Pc [.ref q, .int p0] (rd_B (dC, dI) vwCl [(q, .inr (1, [.ref wd, .ref us, .ref la, .ref nx])), (us, .inl (cU, 4, .inr (.inr (.inr (.inr g))))), (u, .inr (0, [.int fr, .int fo, .int lw, .int lh, .int lv, .int ac, .int dn, .int fi, .ref bc, .ref st])), (st, .inl (cI, 12, .inl sf))] [(cU, .object "TextureUnits$Unit"), (cI, .int)])) (QcRead (sf lv.toNatClampNeg)) 0 0 (fun _ => False) := by
  refine Met.ofW (cc := cX1_texels) (maxL := 3) (ret := some .int) (by decide) rfl ?_
  intro p e s m args below meth c s₁ B hml hv
  obtain ⟨rfl, hP, hK⟩ := hv
  have hx := B.exec
  have hb := B.bytes
  have hr := B.returns
  have hts := atoms_spec (ws := wsX1_texels) B.pre
  have hown : s.vm.findClass "TextureUnits" = some m.cls := findClass_of_methodNamed B.named
  have hlocks := B.notSynchronized
  have hl := lv_entry ([.ref q, .int p0]) (n := 3) (Nat.le_of_ble_eq_true rfl)
  rw [lg_entry_eq]
  generalize (lg_sl ([.ref q, .int p0]) ++ List.replicate (3 - (lg_sl ([.ref q, .int p0])).length) Slot.unset).toArray = ls at hl ⊢
  have hl : lv_has ls 3 [(0, .ref q), (1, .int p0)] := hl
  refine lv_aload_n hx hb dX1_texels_0 rfl (lv_at hl 0 rfl) ?_
  refine lv_iload_n hx hb dX1_texels_1 rfl (lv_at hl 1 rfl) ?_
  refine rf_call (W.runV (As := [.int p0]) (rest := []) ⟨hx, hb, hml, hown, hts⟩ (r_unitAt l dC dI q wd us la nx cU g u p0 h0 hg) (cwV 1 hts (tg_V tw_174 tw_176 tw_p1 tw_1 tw_177) rfl rfl rfl (by decide +kernel) ⟨Nat.le_of_ble_eq_true rfl, Nat.le_of_ble_eq_true rfl⟩) ⟨rd_blind, va_recv hK hP (ci := 1) (q0 := 0) rfl rfl, fun U hU hW => ⟨rfl, rd_use (hP.sub [0, 1] rfl) (hK.sub [0] rfl) U hU hW⟩⟩ rfl rfl hl.1 rfl (lv_room (Nat.le_of_ble_eq_true rfl)) dX1_texels_2 ⟨Nat.le_of_ble_eq_true rfl, Nat.le_of_ble_eq_true rfl⟩) ?_
  refine lv_astore_n (lv' := [(2, .ref u), (0, .ref q), (1, .int p0)]) hx hb dX1_texels_5 rfl hl (by decide) rfl (fun ls hl => ?_)
  refine lv_aload_n hx hb dX1_texels_6 rfl (lv_at hl 0 rfl) ?_
  refine va_get (D := (dC, dI)) (ci := 0) (v := .ref st) (C := "TextureUnits$Unit") (T := TX0) (N := 10) hx hb hts (tw_s inX0) hown hK hP 2 rfl rfl 9 (by decide) (hts _ (tw_c tw_50)) (fun _ h9 => h9) rfl dX1_texels_7 ?_
  refine lv_aload_n hx hb dX1_texels_10 rfl (lv_at hl 0 rfl) ?_
  refine va_get (D := (dC, dI)) (ci := 0) (v := .int lv) (C := "TextureUnits$Unit") (T := TX0) (N := 10) hx hb hts (tw_s inX0) hown hK hP 2 rfl rfl 4 (by decide) (hts _ (tw_c tw_43)) (fun _ h9 => h9) rfl dX1_texels_11 ?_
  refine va_iald hx hb hK hP 3 1 rfl rfl h1 dX1_texels_14 ?_
  exact W.iret (v := (sf lv.toNatClampNeg)) hx hb hr (fun t ht hW => rd_q rfl ht) (fun q h => by cases h) dX1_texels_15
set_option maxHeartbeats 4000000 in
set_option maxRecDepth 100000 in
theorem r_also (l : Launch) (dC : Nat → ClassId) (dI : Nat → Nat → Nat) (q wd us la nx : Nat) (cI : ClassId) (lat : Nat → Int32) (p0 : Int32) (h0 : ¬ tu_win p0 0 3 = 0) : Met l yX1_also wsX1_also ({ frames := 1, cells := 0, slots := 0, locals := 22 }) (va_Pc [.ref q, .int p0] (rd_B (dC, dI) vwCl [(q, .inr (1, [.ref wd, .ref us, .ref la, .ref nx])), (la, .inl (cI, 4, .inl lat))] [(cI, .int)])) (QcRead (lat p0.toNatClampNeg)) 0 0 (fun _ => False) := by
  refine Met.ofW (cc := cX1_also) (maxL := 2) (ret := some .int) (by decide) rfl ?_
  intro p e s m args below meth c s₁ B hml hv
  obtain ⟨rfl, hP, hK⟩ := hv
  have hx := B.exec
  have hb := B.bytes
  have hr := B.returns
  have hts := atoms_spec (ws := wsX1_also) B.pre
  have hown : s.vm.findClass "TextureUnits" = some m.cls := findClass_of_methodNamed B.named
  have hlocks := B.notSynchronized
  have hl := lv_entry ([.ref q, .int p0]) (n := 2) (Nat.le_of_ble_eq_true rfl)
  rw [lg_entry_eq]
  generalize (lg_sl ([.ref q, .int p0]) ++ List.replicate (2 - (lg_sl ([.ref q, .int p0])).length) Slot.unset).toArray = ls at hl ⊢
  have hl : lv_has ls 2 [(0, .ref q), (1, .int p0)] := hl
  refine lv_iload_n hx hb dX1_also_0 rfl (lv_at hl 1 rfl) ?_
  refine lv_iconst (v := 0) hx hb dX1_also_1 (by decide) ?_
  refine lv_iconst (v := 3) hx hb dX1_also_2 (by decide) ?_
  refine rd_call (W.runS (As := [.int p0, .int 0, .int 3]) (rest := []) ⟨hx, hb, hml, hown, hts⟩ (r_within l p0 0 3) (va_cwS 3 hts (tg_S tw_94 tw_95 tw_1 tw_96) rfl rfl rfl (by decide +kernel) ⟨Nat.le_of_ble_eq_true rfl, Nat.le_of_ble_eq_true rfl⟩) preEq rfl rfl hl.1 rfl (lv_room (Nat.le_of_ble_eq_true rfl)) dX1_also_3 ⟨Nat.le_of_ble_eq_true rfl, Nat.le_of_ble_eq_true rfl⟩) ?_
  refine lv_if_ne (tgt := 19) hx hb dX1_also_6 (by decide) (fun c_1 => ?_) (fun c_1 => absurd c_1 h0)
  refine lv_aload_n hx hb dX1_also_19 rfl (lv_at hl 0 rfl) ?_
  refine va_get (D := (dC, dI)) (ci := 1) (v := .ref la) (C := "TextureUnits") (T := TX1) (N := 4) hx hb hts (tw_s inX1) hown hK hP 0 rfl rfl 2 (by decide) (hts _ (tw_c tw_75)) (fun _ h9 => h9) rfl dX1_also_20 ?_
  refine lv_iload_n hx hb dX1_also_23 rfl (lv_at hl 1 rfl) ?_
  refine va_iald hx hb hK hP 1 0 rfl rfl (tu_win_in h0 (by decide)) dX1_also_24 ?_
  exact W.iret (v := (lat p0.toNatClampNeg)) hx hb hr (fun t ht hW => rd_q rfl ht) (fun q h => by cases h) dX1_also_25
end
section
theorem tw_286 : (Cond.methodLink "TextureUnits" 106 ⟨"TextureUnits", "sample", "(LTextureUnits$Unit;III[I)V"⟩) ∈ TW := tw_t2 46 (by decide +kernel) (by decide +kernel)
theorem tw_288 : (Cond.instanceMethod ⟨"TextureUnits", "sample", "(LTextureUnits$Unit;III[I)V"⟩) ∈ TW := tw_t2 48 (by decide +kernel) (by decide +kernel)
theorem tw_289 : (Cond.code ⟨"TextureUnits", "sample", "(LTextureUnits$Unit;III[I)V"⟩ prog_1_method_11_code 6 .none) ∈ TW := tw_t2 49 (by decide +kernel) (by decide +kernel)
theorem tw_319 : (Cond.constant "TextureUnits" 110 (65535 : Int32)) ∈ TW := tw_t2 79 (by decide +kernel) (by decide +kernel)
theorem tw_p4 : (Cond.selects "TextureUnits" ⟨"TextureUnits", "sample", "(LTextureUnits$Unit;III[I)V"⟩ ⟨"TextureUnits", "sample", "(LTextureUnits$Unit;III[I)V"⟩) ∈ TW := tw_t0 4 (by decide +kernel) (by decide +kernel)
set_option maxHeartbeats 4000000 in
set_option maxRecDepth 100000 in
theorem w_read (l : Launch) (dC : Nat → ClassId) (dI : Nat → Nat → Nat) (q wd us la nx : Nat) (cU : ClassId) (g : Nat → Option Nat) (u : Nat) (fr fo lw lh lv ac dn fi : Int32) (bc st : Nat) (cI : ClassId) (mem sf bd lat nxt : Nat → Int32) (tb : Nat × Nat × Nat) (p0 p1 p2 p3 : Int32) (sz : Nat) (h0 : ¬ tu_win p0 0 3 = 0) (hg : g p0.toNatClampNeg = some u) (h1 : vp_in fo 8) (h2 : vp_in (tu_lev lv p3) 12) (h3 : ¬ lv ≤ tu_lev lv p3 + 1 → vp_in (tu_lev lv p3 + 1) 12) : Met l yX1_read wsX1_read ({ frames := 6, cells := 0, slots := 0, locals := 165 }) (va_Pc [.ref q, .int p0, .int p1, .int p2, .int p3] (wt_P (dC, dI) vwCl [(q, .inr (1, [.ref wd, .ref us, .ref la, .ref nx])), (us, .inl (cU, 4, .inr (.inr (.inr (.inr g))))), (u, .inr (0, [.int fr, .int fo, .int lw, .int lh, .int lv, .int ac, .int dn, .int fi, .ref bc, .ref st])), (wd, .inl (cI, 2048, .inl mem)), (st, .inl (cI, 12, .inl sf)), (bc, .inl (cI, 4, .inl bd)), (la, .inl (cI, 4, .inl lat)), (nx, .inl (cI, 4, .inl nxt))] [(cU, .object "TextureUnits$Unit"), (cI, .int)] sz tb)) (va_Qi (fun (r9 : Int32) (_ : Unit) => r9 = (tu_rd mem sf bd fr fo lw lh lv ac dn fi p1 p2 p3 lat nxt) 0) (wr_B (dC, dI) vwCl [(q, .inr (1, [.ref wd, .ref us, .ref la, .ref nx])), (us, .inl (cU, 4, .inr (.inr (.inr (.inr g))))), (u, .inr (0, [.int fr, .int fo, .int lw, .int lh, .int lv, .int ac, .int dn, .int fi, .ref bc, .ref st])), (wd, .inl (cI, 2048, .inl mem)), (st, .inl (cI, 12, .inl sf)), (bc, .inl (cI, 4, .inl bd)), (la, .inl (cI, 4, .inl (tu_rd mem sf bd fr fo lw lh lv ac dn fi p1 p2 p3 lat nxt))), (nx, .inl (cI, 4, .inl (tu_rn mem sf bd fr fo lw lh lv ac dn fi p1 p2 p3 nxt)))] [(cU, .object "TextureUnits$Unit"), (cI, .int)] (va_A [(q, .inr (1, [.ref wd, .ref us, .ref la, .ref nx])), (us, .inl (cU, 4, .inr (.inr (.inr (.inr g))))), (u, .inr (0, [.int fr, .int fo, .int lw, .int lh, .int lv, .int ac, .int dn, .int fi, .ref bc, .ref st])), (wd, .inl (cI, 2048, .inl mem)), (st, .inl (cI, 12, .inl sf)), (bc, .inl (cI, 4, .inl bd)), (la, .inl (cI, 4, .inl lat)), (nx, .inl (cI, 4, .inl nxt))] sz)) (va_A [(q, .inr (1, [.ref wd, .ref us, .ref la, .ref nx])), (us, .inl (cU, 4, .inr (.inr (.inr (.inr g))))), (u, .inr (0, [.int fr, .int fo, .int lw, .int lh, .int lv, .int ac, .int dn, .int fi, .ref bc, .ref st])), (wd, .inl (cI, 2048, .inl mem)), (st, .inl (cI, 12, .inl sf)), (bc, .inl (cI, 4, .inl bd)), (la, .inl (cI, 4, .inl lat)), (nx, .inl (cI, 4, .inl nxt))] sz)) 0 0 (va_A [(q, .inr (1, [.ref wd, .ref us, .ref la, .ref nx])), (us, .inl (cU, 4, .inr (.inr (.inr (.inr g))))), (u, .inr (0, [.int fr, .int fo, .int lw, .int lh, .int lv, .int ac, .int dn, .int fi, .ref bc, .ref st])), (wd, .inl (cI, 2048, .inl mem)), (st, .inl (cI, 12, .inl sf)), (bc, .inl (cI, 4, .inl bd)), (la, .inl (cI, 4, .inl lat)), (nx, .inl (cI, 4, .inl nxt))] sz) := by
  refine Met.ofW (cc := cX1_read) (maxL := 10) (ret := some .int) (by decide) rfl ?_
  intro p e s m args below meth c s₁ B hml hv
  obtain ⟨rfl, hsz, hP, hK, hD0, hX⟩ := hv
  have hx := B.exec
  have hb := B.bytes
  have hr := B.returns
  have hts := atoms_spec (ws := wsX1_read) B.pre
  have hown : s.vm.findClass "TextureUnits" = some m.cls := findClass_of_methodNamed B.named
  have hlocks := B.notSynchronized
  subst hsz
  have hD := hD0.self (sz := s.heap.size)
  generalize hAe : va_A [(q, .inr (1, [.ref wd, .ref us, .ref la, .ref nx])), (us, .inl (cU, 4, .inr (.inr (.inr (.inr g))))), (u, .inr (0, [.int fr, .int fo, .int lw, .int lh, .int lv, .int ac, .int dn, .int fi, .ref bc, .ref st])), (wd, .inl (cI, 2048, .inl mem)), (st, .inl (cI, 12, .inl sf)), (bc, .inl (cI, 4, .inl bd)), (la, .inl (cI, 4, .inl lat)), (nx, .inl (cI, 4, .inl nxt))] s.heap.size = A at hD hX ⊢
  have hA : ∀ q : Nat, s.heap.size ≤ q → A q := fun q h => by rw [← hAe]; exact Or.inr h
  have hS : va_S A s.heap s.heap [] := va_S.rf
  have hP : va_P (dC, dI) vwCl [(q, .inr (1, [.ref wd, .ref us, .ref la, .ref nx])), (us, .inl (cU, 4, .inr (.inr (.inr (.inr g))))), (u, .inr (0, [.int fr, .int fo, .int lw, .int lh, .int lv, .int ac, .int dn, .int fi, .ref bc, .ref st])), (wd, .inl (cI, 2048, .inl mem)), (st, .inl (cI, 12, .inl sf)), (bc, .inl (cI, 4, .inl bd)), (la, .inl (cI, 4, .inl lat)), (nx, .inl (cI, 4, .inl nxt))] s.heap := hP
  have hl := lv_entry ([.ref q, .int p0, .int p1, .int p2, .int p3]) (n := 10) (Nat.le_of_ble_eq_true rfl)
  rw [lg_entry_eq]
  generalize (lg_sl ([.ref q, .int p0, .int p1, .int p2, .int p3]) ++ List.replicate (10 - (lg_sl ([.ref q, .int p0, .int p1, .int p2, .int p3])).length) Slot.unset).toArray = ls at hl ⊢
  have hl : lv_has ls 10 [(0, .ref q), (1, .int p0), (2, .int p1), (3, .int p2), (4, .int p3)] := hl
  refine lv_aload_n hx hb dX1_read_0 rfl (lv_at hl 0 rfl) ?_
  refine lv_iload_n hx hb dX1_read_1 rfl (lv_at hl 1 rfl) ?_
  refine rf_call (W.runV (As := [.int p0]) (rest := []) ⟨hx, hb, hml, hown, hts⟩ (r_unitAt l dC dI q wd us la nx cU g u p0 h0 hg) (cwV 1 hts (tg_V tw_174 tw_176 tw_p1 tw_1 tw_177) rfl rfl rfl (by decide +kernel) ⟨Nat.le_of_ble_eq_true rfl, Nat.le_of_ble_eq_true rfl⟩) ⟨rd_blind, va_recv hK hP (ci := 1) (q0 := 0) rfl rfl, fun U hU hW => ⟨rfl, rd_use (hP.sub [0, 1] rfl) (hK.sub [0] rfl) U hU hW⟩⟩ rfl rfl hl.1 rfl (lv_room (Nat.le_of_ble_eq_true rfl)) dX1_read_2 ⟨Nat.le_of_ble_eq_true rfl, Nat.le_of_ble_eq_true rfl⟩) ?_
  refine lv_astore (lv' := [(5, .ref u), (0, .ref q), (1, .int p0), (2, .int p1), (3, .int p2), (4, .int p3)]) hx hb dX1_read_5 hl (by decide) rfl (fun ls hl => ?_)
  refine lv_iload hx hb dX1_read_7 (lv_at hl 5 rfl) ?_
  refine lv_iconst (v := 0) hx hb dX1_read_9 (by decide) ?_
  refine lv_aload hx hb dX1_read_10 (lv_at hl 0 rfl) ?_
  refine va_get (D := (dC, dI)) (ci := 0) (v := .int lv) (C := "TextureUnits$Unit") (T := TX0) (N := 10) hx hb hts (tw_s inX0) hown hK hP 2 rfl rfl 4 (by decide) (hts _ (tw_c tw_43)) (fun _ h9 => h9) rfl dX1_read_12 ?_
  refine lv_iconst (v := 1) hx hb dX1_read_15 (by decide) ?_
  refine lv_isub hx hb dX1_read_16 ?_
  refine lv_bipush (v := 16) hx hb dX1_read_17 (by decide) ?_
  refine lv_ishl hx hb dX1_read_19 ?_
  refine rd_call (W.runS (As := [.int p3, .int 0, .int ((lv - (1 : Int32)) <<< ((16 : Int32) &&& 31))]) (rest := []) ⟨hx, hb, hml, hown, hts⟩ (r_cut l p3 0 ((lv - (1 : Int32)) <<< ((16 : Int32) &&& 31))) (va_cwS 3 hts (tg_S tw_277 tw_278 tw_1 tw_279) rfl rfl rfl (by decide +kernel) ⟨Nat.le_of_ble_eq_true rfl, Nat.le_of_ble_eq_true rfl⟩) preEq rfl rfl hl.1 rfl (lv_room (Nat.le_of_ble_eq_true rfl)) dX1_read_20 ⟨Nat.le_of_ble_eq_true rfl, Nat.le_of_ble_eq_true rfl⟩) ?_
  refine W.eq (g2 := F0 m 23 ls [.int (tu_lod lv p3)]) rfl ?_
  refine lv_istore (lv' := [(6, .int (tu_lod lv p3)), (5, .ref u), (0, .ref q), (1, .int p0), (2, .int p1), (3, .int p2), (4, .int p3)]) hx hb dX1_read_23 hl (by decide) rfl (fun ls hl => ?_)
  refine lv_iload hx hb dX1_read_25 (lv_at hl 0 rfl) ?_
  refine lv_bipush (v := 16) hx hb dX1_read_27 (by decide) ?_
  refine lv_ishr hx hb dX1_read_29 ?_
  refine W.eq (g2 := F0 m 30 ls [.int (tu_lev lv p3)]) rfl ?_
  refine lv_istore (lv' := [(7, .int (tu_lev lv p3)), (6, .int (tu_lod lv p3)), (5, .ref u), (0, .ref q), (1, .int p0), (2, .int p1), (3, .int p2), (4, .int p3)]) hx hb dX1_read_30 hl (by decide) rfl (fun ls hl => ?_)
  refine lv_aload_n hx hb dX1_read_32 rfl (lv_at hl 3 rfl) ?_
  refine lv_aload hx hb dX1_read_33 (lv_at hl 2 rfl) ?_
  refine lv_iload hx hb dX1_read_35 (lv_at hl 0 rfl) ?_
  refine lv_iload_n hx hb dX1_read_37 rfl (lv_at hl 5 rfl) ?_
  refine lv_iload_n hx hb dX1_read_38 rfl (lv_at hl 6 rfl) ?_
  refine lv_aload_n hx hb dX1_read_39 rfl (lv_at hl 3 rfl) ?_
  refine va_get (D := (dC, dI)) (ci := 1) (v := .ref la) (C := "TextureUnits") (T := TX1) (N := 4) hx hb hts (tw_s inX1) hown hK hP 0 rfl rfl 2 (by decide) (hts _ (tw_c tw_75)) (fun _ h9 => h9) rfl dX1_read_40 ?_
  have hPc := hP.sub (ws' := [(q, .inr (1, [.ref wd, .ref us, .ref la, .ref nx])), (u, .inr (0, [.int fr, .int fo, .int lw, .int lh, .int lv, .int ac, .int dn, .int fi, .ref bc, .ref st])), (wd, .inl (cI, 2048, .inl mem)), (st, .inl (cI, 12, .inl sf)), (bc, .inl (cI, 4, .inl bd)), (la, .inl (cI, 4, .inl lat))]) [0, 2, 3, 4, 5, 6] rfl
  have hDc := hD.sub (ws' := [(q, .inr (1, [.ref wd, .ref us, .ref la, .ref nx])), (u, .inr (0, [.int fr, .int fo, .int lw, .int lh, .int lv, .int ac, .int dn, .int fi, .ref bc, .ref st])), (wd, .inl (cI, 2048, .inl mem)), (st, .inl (cI, 12, .inl sf)), (bc, .inl (cI, 4, .inl bd)), (la, .inl (cI, 4, .inl lat))]) [0, 2, 3, 4, 5, 6] (by decide) rfl
  have hFc := va_free (wc := [(q, .inr (1, [.ref wd, .ref us, .ref la, .ref nx])), (u, .inr (0, [.int fr, .int fo, .int lw, .int lh, .int lv, .int ac, .int dn, .int fi, .ref bc, .ref st])), (wd, .inl (cI, 2048, .inl mem)), (st, .inl (cI, 12, .inl sf)), (bc, .inl (cI, 4, .inl bd)), (la, .inl (cI, 4, .inl lat))]) hD hS hA [0, 2, 3, 4, 5, 6] rfl
  refine va_callv (va_runV (As := [.ref u, .int (tu_lev lv p3), .int p1, .int p2, .ref la]) (rest := []) ⟨hx, hb, hml, hown, hts⟩ (w_sample l dC dI q wd us la nx u fr fo lw lh lv ac dn fi bc st la cI mem sf bd lat tb (tu_lev lv p3) p1 p2 s.heap.size h2 h1) (cwV 5 hts (tg_V tw_286 tw_288 tw_p4 tw_1 tw_289) rfl rfl rfl (by decide +kernel) ⟨Nat.le_of_ble_eq_true rfl, Nat.le_of_ble_eq_true rfl⟩) ⟨wt_blind, va_recv hK hP (ci := 1) (q0 := 0) rfl rfl, fun U hU hW => ⟨rfl, wt_use hPc (hK.sub [1] rfl) hDc hX hS hFc U hU hW⟩⟩ rfl rfl hl.1 rfl (lv_room (Nat.le_of_ble_eq_true rfl)) dX1_read_43 ⟨Nat.le_of_ble_eq_true rfl, Nat.le_of_ble_eq_true rfl⟩) hS (fun q _ h => hFc q h) hFc (fun u9 t9 H1 locs ht hvm hw hB hz1 hk1 hS => ?_)
  obtain ⟨hP1, hK1, hD1⟩ := hB
  rw [ht] at hP1
  obtain ⟨hP, hD⟩ := va_join (wr := [(us, .inl (cU, 4, .inr (.inr (.inr (.inr g))))), (nx, .inl (cI, 4, .inl nxt))]) (w1 := [(q, .inr (1, [.ref wd, .ref us, .ref la, .ref nx])), (u, .inr (0, [.int fr, .int fo, .int lw, .int lh, .int lv, .int ac, .int dn, .int fi, .ref bc, .ref st])), (wd, .inl (cI, 2048, .inl mem)), (st, .inl (cI, 12, .inl sf)), (bc, .inl (cI, 4, .inl bd)), (la, .inl (cI, 4, .inl (tu_smp4 mem sf bd fr fo lw lh ac dn fi (tu_lev lv p3) p1 p2 lat)))]) hP hD [0, 2, 3, 4, 5, 6] [1, 7] rfl rfl (by decide) (by decide) hk1 hFc hP1 hD1
  have hP := hP.sub (ws' := [(q, .inr (1, [.ref wd, .ref us, .ref la, .ref nx])), (us, .inl (cU, 4, .inr (.inr (.inr (.inr g))))), (u, .inr (0, [.int fr, .int fo, .int lw, .int lh, .int lv, .int ac, .int dn, .int fi, .ref bc, .ref st])), (wd, .inl (cI, 2048, .inl mem)), (st, .inl (cI, 12, .inl sf)), (bc, .inl (cI, 4, .inl bd)), (la, .inl (cI, 4, .inl (tu_smp4 mem sf bd fr fo lw lh ac dn fi (tu_lev lv p3) p1 p2 lat))), (nx, .inl (cI, 4, .inl nxt))]) [2, 0, 3, 4, 5, 6, 7, 1] rfl
  have hD := hD.sub (ws' := [(q, .inr (1, [.ref wd, .ref us, .ref la, .ref nx])), (us, .inl (cU, 4, .inr (.inr (.inr (.inr g))))), (u, .inr (0, [.int fr, .int fo, .int lw, .int lh, .int lv, .int ac, .int dn, .int fi, .ref bc, .ref st])), (wd, .inl (cI, 2048, .inl mem)), (st, .inl (cI, 12, .inl sf)), (bc, .inl (cI, 4, .inl bd)), (la, .inl (cI, 4, .inl (tu_smp4 mem sf bd fr fo lw lh ac dn fi (tu_lev lv p3) p1 p2 lat))), (nx, .inl (cI, 4, .inl nxt))]) [2, 0, 3, 4, 5, 6, 7, 1] (by decide) rfl
  clear hPc hDc hFc hP1 hK1 hD1 hk1 hz1
  generalize H1 = H at hP hS ⊢
  refine lv_aload hx hb dX1_read_46 (lv_at hl 2 rfl) ?_
  refine va_get (D := (dC, dI)) (ci := 0) (v := .int fi) (C := "TextureUnits$Unit") (T := TX0) (N := 10) hx hb hts (tw_s inX0) hown hK hP 2 rfl rfl 7 (by decide) (hts _ (tw_c tw_46)) (fun _ h9 => h9) rfl dX1_read_48 ?_
  refine lv_iconst (v := 2) hx hb dX1_read_51 (by decide) ?_
  refine lv_icmp_eq (tgt := 64) hx hb dX1_read_52 (by decide) (fun c_1 => ?_) (fun c_1 => ?_)
  · refine lv_iconst (v := 1) hx hb dX1_read_64 (by decide) ?_
    refine lv_goto (tgt := 69) hx hb dX1_read_65 (by decide) ?_
    refine lv_istore (lv' := [(8, .int 1), (7, .int (tu_lev lv p3)), (6, .int (tu_lod lv p3)), (5, .ref u), (0, .ref q), (1, .int p0), (2, .int p1), (3, .int p2), (4, .int p3)]) hx hb dX1_read_69 hl (by decide) rfl (fun ls hl => ?_)
    refine lv_iload hx hb dX1_read_71 (lv_at hl 0 rfl) ?_
    refine lv_if_eq (tgt := 148) hx hb dX1_read_73 (by decide) (fun c_2 => absurd c_2 (by decide)) (fun c_2 => ?_)
    refine lv_iload hx hb dX1_read_76 (lv_at hl 1 rfl) ?_
    refine lv_iconst (v := 1) hx hb dX1_read_78 (by decide) ?_
    refine lv_iadd hx hb dX1_read_79 ?_
    refine lv_aload hx hb dX1_read_80 (lv_at hl 3 rfl) ?_
    refine va_get (D := (dC, dI)) (ci := 0) (v := .int lv) (C := "TextureUnits$Unit") (T := TX0) (N := 10) hx hb hts (tw_s inX0) hown hK hP 2 rfl rfl 4 (by decide) (hts _ (tw_c tw_43)) (fun _ h9 => h9) rfl dX1_read_82 ?_
    refine lv_icmp_ge (tgt := 148) hx hb dX1_read_85 (by decide) (fun c_3 => ?_) (fun c_3 => ?_)
    · have hP : va_P (dC, dI) vwCl [(q, .inr (1, [.ref wd, .ref us, .ref la, .ref nx])), (us, .inl (cU, 4, .inr (.inr (.inr (.inr g))))), (u, .inr (0, [.int fr, .int fo, .int lw, .int lh, .int lv, .int ac, .int dn, .int fi, .ref bc, .ref st])), (wd, .inl (cI, 2048, .inl mem)), (st, .inl (cI, 12, .inl sf)), (bc, .inl (cI, 4, .inl bd)), (la, .inl (cI, 4, .inl (tu_rd mem sf bd fr fo lw lh lv ac dn fi p1 p2 p3 lat nxt))), (nx, .inl (cI, 4, .inl (tu_rn mem sf bd fr fo lw lh lv ac dn fi p1 p2 p3 nxt)))] H := by rw [tu_rd_b (Or.inl c_1) c_3, tu_rn_b (Or.inl c_1) c_3]; exact hP
      have hD : va_D A [(q, .inr (1, [.ref wd, .ref us, .ref la, .ref nx])), (us, .inl (cU, 4, .inr (.inr (.inr (.inr g))))), (u, .inr (0, [.int fr, .int fo, .int lw, .int lh, .int lv, .int ac, .int dn, .int fi, .ref bc, .ref st])), (wd, .inl (cI, 2048, .inl mem)), (st, .inl (cI, 12, .inl sf)), (bc, .inl (cI, 4, .inl bd)), (la, .inl (cI, 4, .inl (tu_rd mem sf bd fr fo lw lh lv ac dn fi p1 p2 p3 lat nxt))), (nx, .inl (cI, 4, .inl (tu_rn mem sf bd fr fo lw lh lv ac dn fi p1 p2 p3 nxt)))] := by rw [tu_rd_b (Or.inl c_1) c_3, tu_rn_b (Or.inl c_1) c_3]; exact hD
      refine lv_aload_n hx hb dX1_read_148 rfl (lv_at hl 4 rfl) ?_
      refine va_get (D := (dC, dI)) (ci := 1) (v := .ref la) (C := "TextureUnits") (T := TX1) (N := 4) hx hb hts (tw_s inX1) hown hK hP 0 rfl rfl 2 (by decide) (hts _ (tw_c tw_75)) (fun _ h9 => h9) rfl dX1_read_149 ?_
      refine lv_iconst (v := 0) hx hb dX1_read_152 (by decide) ?_
      refine va_iald hx hb hK hP 6 1 rfl rfl (tu_in (by decide)) dX1_read_153 ?_
      refine lv_topi (fun x_4 ex_4 => ?_)
      have ex_4 : x_4 = ((tu_rd mem sf bd fr fo lw lh lv ac dn fi p1 p2 p3 lat nxt) 0) := ex_4
      subst ex_4
      have hP9 : va_P (dC, dI) vwCl [(q, .inr (1, [.ref wd, .ref us, .ref la, .ref nx])), (us, .inl (cU, 4, .inr (.inr (.inr (.inr g))))), (u, .inr (0, [.int fr, .int fo, .int lw, .int lh, .int lv, .int ac, .int dn, .int fi, .ref bc, .ref st])), (wd, .inl (cI, 2048, .inl mem)), (st, .inl (cI, 12, .inl sf)), (bc, .inl (cI, 4, .inl bd)), (la, .inl (cI, 4, .inl (tu_rd mem sf bd fr fo lw lh lv ac dn fi p1 p2 p3 lat nxt))), (nx, .inl (cI, 4, .inl (tu_rn mem sf bd fr fo lw lh lv ac dn fi p1 p2 p3 nxt)))] H := hP.sub [0, 1, 2, 3, 4, 5, 6, 7] rfl
      have hD9 : va_D A [(q, .inr (1, [.ref wd, .ref us, .ref la, .ref nx])), (us, .inl (cU, 4, .inr (.inr (.inr (.inr g))))), (u, .inr (0, [.int fr, .int fo, .int lw, .int lh, .int lv, .int ac, .int dn, .int fi, .ref bc, .ref st])), (wd, .inl (cI, 2048, .inl mem)), (st, .inl (cI, 12, .inl sf)), (bc, .inl (cI, 4, .inl bd)), (la, .inl (cI, 4, .inl (tu_rd mem sf bd fr fo lw lh lv ac dn fi p1 p2 p3 lat nxt))), (nx, .inl (cI, 4, .inl (tu_rn mem sf bd fr fo lw lh lv ac dn fi p1 p2 p3 nxt)))] := hD.sub [0, 1, 2, 3, 4, 5, 6, 7] (by decide) rfl
      have hK9 : va_K (dC, dI) vwCl [(cU, .object "TextureUnits$Unit"), (cI, .int)] s := hK.sub [0, 1] rfl
      exact W.iret (v := ((tu_rd mem sf bd fr fo lw lh lv ac dn fi p1 p2 p3 lat nxt) 0)) hx hb hr (fun t ht hW => ⟨⟨((tu_rd mem sf bd fr fo lw lh lv ac dn fi p1 p2 p3 lat nxt) 0), (), rfl, rfl, by rw [ht]; exact hP9, va_K.moved hW.alike hK9, hD9⟩, hS.F ht⟩) hS.2.2 dX1_read_154
    · refine lv_aload_n hx hb dX1_read_88 rfl (lv_at hl 4 rfl) ?_
      refine lv_aload hx hb dX1_read_89 (lv_at hl 3 rfl) ?_
      refine lv_iload hx hb dX1_read_91 (lv_at hl 1 rfl) ?_
      refine lv_iconst (v := 1) hx hb dX1_read_93 (by decide) ?_
      refine lv_iadd hx hb dX1_read_94 ?_
      refine lv_iload_n hx hb dX1_read_95 rfl (lv_at hl 6 rfl) ?_
      refine lv_iload_n hx hb dX1_read_96 rfl (lv_at hl 7 rfl) ?_
      refine lv_aload_n hx hb dX1_read_97 rfl (lv_at hl 4 rfl) ?_
      refine va_get (D := (dC, dI)) (ci := 1) (v := .ref nx) (C := "TextureUnits") (T := TX1) (N := 4) hx hb hts (tw_s inX1) hown hK hP 0 rfl rfl 3 (by decide) (hts _ (tw_c tw_76)) (fun _ h9 => h9) rfl dX1_read_98 ?_
      have hPc := hP.sub (ws' := [(q, .inr (1, [.ref wd, .ref us, .ref la, .ref nx])), (u, .inr (0, [.int fr, .int fo, .int lw, .int lh, .int lv, .int ac, .int dn, .int fi, .ref bc, .ref st])), (wd, .inl (cI, 2048, .inl mem)), (st, .inl (cI, 12, .inl sf)), (bc, .inl (cI, 4, .inl bd)), (nx, .inl (cI, 4, .inl nxt))]) [0, 2, 3, 4, 5, 7] rfl
      have hDc := hD.sub (ws' := [(q, .inr (1, [.ref wd, .ref us, .ref la, .ref nx])), (u, .inr (0, [.int fr, .int fo, .int lw, .int lh, .int lv, .int ac, .int dn, .int fi, .ref bc, .ref st])), (wd, .inl (cI, 2048, .inl mem)), (st, .inl (cI, 12, .inl sf)), (bc, .inl (cI, 4, .inl bd)), (nx, .inl (cI, 4, .inl nxt))]) [0, 2, 3, 4, 5, 7] (by decide) rfl
      have hFc := va_free (wc := [(q, .inr (1, [.ref wd, .ref us, .ref la, .ref nx])), (u, .inr (0, [.int fr, .int fo, .int lw, .int lh, .int lv, .int ac, .int dn, .int fi, .ref bc, .ref st])), (wd, .inl (cI, 2048, .inl mem)), (st, .inl (cI, 12, .inl sf)), (bc, .inl (cI, 4, .inl bd)), (nx, .inl (cI, 4, .inl nxt))]) hD hS hA [0, 2, 3, 4, 5, 7] rfl
      refine va_callv (va_runV (As := [.ref u, .int ((tu_lev lv p3) + (1 : Int32)), .int p1, .int p2, .ref nx]) (rest := []) ⟨hx, hb, hml, hown, hts⟩ (w_sample l dC dI q wd us la nx u fr fo lw lh lv ac dn fi bc st nx cI mem sf bd nxt tb ((tu_lev lv p3) + (1 : Int32)) p1 p2 H.size (h3 c_3) h1) (cwV 5 hts (tg_V tw_286 tw_288 tw_p4 tw_1 tw_289) rfl rfl rfl (by decide +kernel) ⟨Nat.le_of_ble_eq_true rfl, Nat.le_of_ble_eq_true rfl⟩) ⟨wt_blind, va_recv hK hP (ci := 1) (q0 := 0) rfl rfl, fun U hU hW => ⟨rfl, wt_use hPc (hK.sub [1] rfl) hDc hX hS hFc U hU hW⟩⟩ rfl rfl hl.1 rfl (lv_room (Nat.le_of_ble_eq_true rfl)) dX1_read_101 ⟨Nat.le_of_ble_eq_true rfl, Nat.le_of_ble_eq_true rfl⟩) hS (fun q _ h => hFc q h) hFc (fun u9 t9 H1 locs ht hvm hw hB hz1 hk1 hS => ?_)
      obtain ⟨hP1, hK1, hD1⟩ := hB
      rw [ht] at hP1
      obtain ⟨hP, hD⟩ := va_join (wr := [(us, .inl (cU, 4, .inr (.inr (.inr (.inr g))))), (la, .inl (cI, 4, .inl (tu_smp4 mem sf bd fr fo lw lh ac dn fi (tu_lev lv p3) p1 p2 lat)))]) (w1 := [(q, .inr (1, [.ref wd, .ref us, .ref la, .ref nx])), (u, .inr (0, [.int fr, .int fo, .int lw, .int lh, .int lv, .int ac, .int dn, .int fi, .ref bc, .ref st])), (wd, .inl (cI, 2048, .inl mem)), (st, .inl (cI, 12, .inl sf)), (bc, .inl (cI, 4, .inl bd)), (nx, .inl (cI, 4, .inl (tu_smp4 mem sf bd fr fo lw lh ac dn fi ((tu_lev lv p3) + (1 : Int32)) p1 p2 nxt)))]) hP hD [0, 2, 3, 4, 5, 7] [1, 6] rfl rfl (by decide) (by decide) hk1 hFc hP1 hD1
      have hP := hP.sub (ws' := [(q, .inr (1, [.ref wd, .ref us, .ref la, .ref nx])), (us, .inl (cU, 4, .inr (.inr (.inr (.inr g))))), (u, .inr (0, [.int fr, .int fo, .int lw, .int lh, .int lv, .int ac, .int dn, .int fi, .ref bc, .ref st])), (wd, .inl (cI, 2048, .inl mem)), (st, .inl (cI, 12, .inl sf)), (bc, .inl (cI, 4, .inl bd)), (la, .inl (cI, 4, .inl (tu_smp4 mem sf bd fr fo lw lh ac dn fi (tu_lev lv p3) p1 p2 lat))), (nx, .inl (cI, 4, .inl (tu_smp4 mem sf bd fr fo lw lh ac dn fi ((tu_lev lv p3) + (1 : Int32)) p1 p2 nxt)))]) [2, 0, 3, 4, 5, 6, 1, 7] rfl
      have hD := hD.sub (ws' := [(q, .inr (1, [.ref wd, .ref us, .ref la, .ref nx])), (us, .inl (cU, 4, .inr (.inr (.inr (.inr g))))), (u, .inr (0, [.int fr, .int fo, .int lw, .int lh, .int lv, .int ac, .int dn, .int fi, .ref bc, .ref st])), (wd, .inl (cI, 2048, .inl mem)), (st, .inl (cI, 12, .inl sf)), (bc, .inl (cI, 4, .inl bd)), (la, .inl (cI, 4, .inl (tu_smp4 mem sf bd fr fo lw lh ac dn fi (tu_lev lv p3) p1 p2 lat))), (nx, .inl (cI, 4, .inl (tu_smp4 mem sf bd fr fo lw lh ac dn fi ((tu_lev lv p3) + (1 : Int32)) p1 p2 nxt)))]) [2, 0, 3, 4, 5, 6, 1, 7] (by decide) rfl
      clear hPc hDc hFc hP1 hK1 hD1 hk1 hz1
      generalize H1 = H at hP hS ⊢
      refine lv_iconst (v := 0) hx hb dX1_read_104 (by decide) ?_
      refine lv_istore (lv' := [(9, .int 0), (8, .int 1), (7, .int (tu_lev lv p3)), (6, .int (tu_lod lv p3)), (5, .ref u), (0, .ref q), (1, .int p0), (2, .int p1), (3, .int p2), (4, .int p3)]) hx hb dX1_read_105 hl (by decide) rfl (fun ls hl => ?_)
      refine lv_iload hx hb dX1_read_107 (lv_at hl 0 rfl) ?_
      refine lv_iconst (v := 4) hx hb dX1_read_109 (by decide) ?_
      refine lv_icmp_ge (tgt := 148) hx hb dX1_read_110 (by decide) (fun c_5 => absurd c_5 (by decide)) (fun c_5 => ?_)
      refine lv_aload_n hx hb dX1_read_113 rfl (lv_at hl 5 rfl) ?_
      refine va_get (D := (dC, dI)) (ci := 1) (v := .ref la) (C := "TextureUnits") (T := TX1) (N := 4) hx hb hts (tw_s inX1) hown hK hP 0 rfl rfl 2 (by decide) (hts _ (tw_c tw_75)) (fun _ h9 => h9) rfl dX1_read_114 ?_
      refine lv_iload hx hb dX1_read_117 (lv_at hl 0 rfl) ?_
      refine lv_aload_n hx hb dX1_read_119 rfl (lv_at hl 5 rfl) ?_
      refine va_get (D := (dC, dI)) (ci := 1) (v := .ref la) (C := "TextureUnits") (T := TX1) (N := 4) hx hb hts (tw_s inX1) hown hK hP 0 rfl rfl 2 (by decide) (hts _ (tw_c tw_75)) (fun _ h9 => h9) rfl dX1_read_120 ?_
      refine lv_iload hx hb dX1_read_123 (lv_at hl 0 rfl) ?_
      refine va_iald hx hb hK hP 6 1 rfl rfl (tu_in (by decide)) dX1_read_125 ?_
      refine lv_topi (fun x_6 ex_6 => ?_)
      have ex_6 : x_6 = ((tu_smp4 mem sf bd fr fo lw lh ac dn fi (tu_lev lv p3) p1 p2 lat) 0) := ex_6
      subst ex_6
      refine lv_aload_n hx hb dX1_read_126 rfl (lv_at hl 5 rfl) ?_
      refine va_get (D := (dC, dI)) (ci := 1) (v := .ref nx) (C := "TextureUnits") (T := TX1) (N := 4) hx hb hts (tw_s inX1) hown hK hP 0 rfl rfl 3 (by decide) (hts _ (tw_c tw_76)) (fun _ h9 => h9) rfl dX1_read_127 ?_
      refine lv_iload hx hb dX1_read_130 (lv_at hl 0 rfl) ?_
      refine va_iald hx hb hK hP 7 1 rfl rfl (tu_in (by decide)) dX1_read_132 ?_
      refine lv_topi (fun x_7 ex_7 => ?_)
      have ex_7 : x_7 = ((tu_smp4 mem sf bd fr fo lw lh ac dn fi ((tu_lev lv p3) + (1 : Int32)) p1 p2 nxt) 0) := ex_7
      subst ex_7
      refine lv_iload hx hb dX1_read_133 (lv_at hl 3 rfl) ?_
      refine lv_ldc (v := 65535) hx hb hown (hts _ (tw_c tw_319)) dX1_read_135 ?_
      refine lv_iand hx hb dX1_read_137 ?_
      refine rd_call (W.runS (As := [.int ((tu_smp4 mem sf bd fr fo lw lh ac dn fi (tu_lev lv p3) p1 p2 lat) 0), .int ((tu_smp4 mem sf bd fr fo lw lh ac dn fi ((tu_lev lv p3) + (1 : Int32)) p1 p2 nxt) 0), .int ((tu_lod lv p3) &&& (65535 : Int32))]) (rest := [.int 0, .ref la]) ⟨hx, hb, hml, hown, hts⟩ (r_mix l ((tu_smp4 mem sf bd fr fo lw lh ac dn fi (tu_lev lv p3) p1 p2 lat) 0) ((tu_smp4 mem sf bd fr fo lw lh ac dn fi ((tu_lev lv p3) + (1 : Int32)) p1 p2 nxt) 0) ((tu_lod lv p3) &&& (65535 : Int32))) (va_cwS 3 hts (tg_S tw_312 tw_313 tw_1 tw_314) rfl rfl rfl (by decide +kernel) ⟨Nat.le_of_ble_eq_true rfl, Nat.le_of_ble_eq_true rfl⟩) preEq rfl rfl hl.1 rfl (lv_room (Nat.le_of_ble_eq_true rfl)) dX1_read_138 ⟨Nat.le_of_ble_eq_true rfl, Nat.le_of_ble_eq_true rfl⟩) ?_
      refine va_iast hx hb hK hP hD hS 6 1 rfl rfl (tu_in (by decide)) dX1_read_141 (fun H locs hP hD hS => ?_)
      have hP : va_P (dC, dI) vwCl [(q, .inr (1, [.ref wd, .ref us, .ref la, .ref nx])), (us, .inl (cU, 4, .inr (.inr (.inr (.inr g))))), (u, .inr (0, [.int fr, .int fo, .int lw, .int lh, .int lv, .int ac, .int dn, .int fi, .ref bc, .ref st])), (wd, .inl (cI, 2048, .inl mem)), (st, .inl (cI, 12, .inl sf)), (bc, .inl (cI, 4, .inl bd)), (la, .inl (cI, 4, .inl (upd (tu_smp4 mem sf bd fr fo lw lh ac dn fi (tu_lev lv p3) p1 p2 lat) 0 (tu_mix ((tu_smp4 mem sf bd fr fo lw lh ac dn fi (tu_lev lv p3) p1 p2 lat) 0) ((tu_smp4 mem sf bd fr fo lw lh ac dn fi ((tu_lev lv p3) + (1 : Int32)) p1 p2 nxt) 0) ((tu_lod lv p3) &&& (65535 : Int32)))))), (nx, .inl (cI, 4, .inl (tu_smp4 mem sf bd fr fo lw lh ac dn fi ((tu_lev lv p3) + (1 : Int32)) p1 p2 nxt)))] H := hP
      have hD : va_D A [(q, .inr (1, [.ref wd, .ref us, .ref la, .ref nx])), (us, .inl (cU, 4, .inr (.inr (.inr (.inr g))))), (u, .inr (0, [.int fr, .int fo, .int lw, .int lh, .int lv, .int ac, .int dn, .int fi, .ref bc, .ref st])), (wd, .inl (cI, 2048, .inl mem)), (st, .inl (cI, 12, .inl sf)), (bc, .inl (cI, 4, .inl bd)), (la, .inl (cI, 4, .inl (upd (tu_smp4 mem sf bd fr fo lw lh ac dn fi (tu_lev lv p3) p1 p2 lat) 0 (tu_mix ((tu_smp4 mem sf bd fr fo lw lh ac dn fi (tu_lev lv p3) p1 p2 lat) 0) ((tu_smp4 mem sf bd fr fo lw lh ac dn fi ((tu_lev lv p3) + (1 : Int32)) p1 p2 nxt) 0) ((tu_lod lv p3) &&& (65535 : Int32)))))), (nx, .inl (cI, 4, .inl (tu_smp4 mem sf bd fr fo lw lh ac dn fi ((tu_lev lv p3) + (1 : Int32)) p1 p2 nxt)))] := hD
      refine lv_iinc (v := 1) (lv' := [(9, .int 1), (8, .int 1), (7, .int (tu_lev lv p3)), (6, .int (tu_lod lv p3)), (5, .ref u), (0, .ref q), (1, .int p0), (2, .int p1), (3, .int p2), (4, .int p3)]) hx hb dX1_read_142 hl (k := 0) rfl (by decide) (by decide) rfl (fun ls hl => ?_)
      refine lv_goto (tgt := 107) hx hb dX1_read_145 (by decide) ?_
      refine lv_iload hx hb dX1_read_107 (lv_at hl 0 rfl) ?_
      refine lv_iconst (v := 4) hx hb dX1_read_109 (by decide) ?_
      refine lv_icmp_ge (tgt := 148) hx hb dX1_read_110 (by decide) (fun c_8 => absurd c_8 (by decide)) (fun c_8 => ?_)
      refine lv_aload_n hx hb dX1_read_113 rfl (lv_at hl 5 rfl) ?_
      refine va_get (D := (dC, dI)) (ci := 1) (v := .ref la) (C := "TextureUnits") (T := TX1) (N := 4) hx hb hts (tw_s inX1) hown hK hP 0 rfl rfl 2 (by decide) (hts _ (tw_c tw_75)) (fun _ h9 => h9) rfl dX1_read_114 ?_
      refine lv_iload hx hb dX1_read_117 (lv_at hl 0 rfl) ?_
      refine lv_aload_n hx hb dX1_read_119 rfl (lv_at hl 5 rfl) ?_
      refine va_get (D := (dC, dI)) (ci := 1) (v := .ref la) (C := "TextureUnits") (T := TX1) (N := 4) hx hb hts (tw_s inX1) hown hK hP 0 rfl rfl 2 (by decide) (hts _ (tw_c tw_75)) (fun _ h9 => h9) rfl dX1_read_120 ?_
      refine lv_iload hx hb dX1_read_123 (lv_at hl 0 rfl) ?_
      refine va_iald hx hb hK hP 6 1 rfl rfl (tu_in (by decide)) dX1_read_125 ?_
      refine lv_topi (fun x_9 ex_9 => ?_)
      have ex_9 : x_9 = ((tu_smp4 mem sf bd fr fo lw lh ac dn fi (tu_lev lv p3) p1 p2 lat) 1) := (ex_9).trans (pk_un (by decide))
      subst ex_9
      refine lv_aload_n hx hb dX1_read_126 rfl (lv_at hl 5 rfl) ?_
      refine va_get (D := (dC, dI)) (ci := 1) (v := .ref nx) (C := "TextureUnits") (T := TX1) (N := 4) hx hb hts (tw_s inX1) hown hK hP 0 rfl rfl 3 (by decide) (hts _ (tw_c tw_76)) (fun _ h9 => h9) rfl dX1_read_127 ?_
      refine lv_iload hx hb dX1_read_130 (lv_at hl 0 rfl) ?_
      refine va_iald hx hb hK hP 7 1 rfl rfl (tu_in (by decide)) dX1_read_132 ?_
      refine lv_topi (fun x_10 ex_10 => ?_)
      have ex_10 : x_10 = ((tu_smp4 mem sf bd fr fo lw lh ac dn fi ((tu_lev lv p3) + (1 : Int32)) p1 p2 nxt) 1) := ex_10
      subst ex_10
      refine lv_iload hx hb dX1_read_133 (lv_at hl 3 rfl) ?_
      refine lv_ldc (v := 65535) hx hb hown (hts _ (tw_c tw_319)) dX1_read_135 ?_
      refine lv_iand hx hb dX1_read_137 ?_
      refine rd_call (W.runS (As := [.int ((tu_smp4 mem sf bd fr fo lw lh ac dn fi (tu_lev lv p3) p1 p2 lat) 1), .int ((tu_smp4 mem sf bd fr fo lw lh ac dn fi ((tu_lev lv p3) + (1 : Int32)) p1 p2 nxt) 1), .int ((tu_lod lv p3) &&& (65535 : Int32))]) (rest := [.int 1, .ref la]) ⟨hx, hb, hml, hown, hts⟩ (r_mix l ((tu_smp4 mem sf bd fr fo lw lh ac dn fi (tu_lev lv p3) p1 p2 lat) 1) ((tu_smp4 mem sf bd fr fo lw lh ac dn fi ((tu_lev lv p3) + (1 : Int32)) p1 p2 nxt) 1) ((tu_lod lv p3) &&& (65535 : Int32))) (va_cwS 3 hts (tg_S tw_312 tw_313 tw_1 tw_314) rfl rfl rfl (by decide +kernel) ⟨Nat.le_of_ble_eq_true rfl, Nat.le_of_ble_eq_true rfl⟩) preEq rfl rfl hl.1 rfl (lv_room (Nat.le_of_ble_eq_true rfl)) dX1_read_138 ⟨Nat.le_of_ble_eq_true rfl, Nat.le_of_ble_eq_true rfl⟩) ?_
      refine va_iast hx hb hK hP hD hS 6 1 rfl rfl (tu_in (by decide)) dX1_read_141 (fun H locs hP hD hS => ?_)
      have hP : va_P (dC, dI) vwCl [(q, .inr (1, [.ref wd, .ref us, .ref la, .ref nx])), (us, .inl (cU, 4, .inr (.inr (.inr (.inr g))))), (u, .inr (0, [.int fr, .int fo, .int lw, .int lh, .int lv, .int ac, .int dn, .int fi, .ref bc, .ref st])), (wd, .inl (cI, 2048, .inl mem)), (st, .inl (cI, 12, .inl sf)), (bc, .inl (cI, 4, .inl bd)), (la, .inl (cI, 4, .inl (upd (upd (tu_smp4 mem sf bd fr fo lw lh ac dn fi (tu_lev lv p3) p1 p2 lat) 0 (tu_mix ((tu_smp4 mem sf bd fr fo lw lh ac dn fi (tu_lev lv p3) p1 p2 lat) 0) ((tu_smp4 mem sf bd fr fo lw lh ac dn fi ((tu_lev lv p3) + (1 : Int32)) p1 p2 nxt) 0) ((tu_lod lv p3) &&& (65535 : Int32)))) 1 (tu_mix ((tu_smp4 mem sf bd fr fo lw lh ac dn fi (tu_lev lv p3) p1 p2 lat) 1) ((tu_smp4 mem sf bd fr fo lw lh ac dn fi ((tu_lev lv p3) + (1 : Int32)) p1 p2 nxt) 1) ((tu_lod lv p3) &&& (65535 : Int32)))))), (nx, .inl (cI, 4, .inl (tu_smp4 mem sf bd fr fo lw lh ac dn fi ((tu_lev lv p3) + (1 : Int32)) p1 p2 nxt)))] H := hP
      have hD : va_D A [(q, .inr (1, [.ref wd, .ref us, .ref la, .ref nx])), (us, .inl (cU, 4, .inr (.inr (.inr (.inr g))))), (u, .inr (0, [.int fr, .int fo, .int lw, .int lh, .int lv, .int ac, .int dn, .int fi, .ref bc, .ref st])), (wd, .inl (cI, 2048, .inl mem)), (st, .inl (cI, 12, .inl sf)), (bc, .inl (cI, 4, .inl bd)), (la, .inl (cI, 4, .inl (upd (upd (tu_smp4 mem sf bd fr fo lw lh ac dn fi (tu_lev lv p3) p1 p2 lat) 0 (tu_mix ((tu_smp4 mem sf bd fr fo lw lh ac dn fi (tu_lev lv p3) p1 p2 lat) 0) ((tu_smp4 mem sf bd fr fo lw lh ac dn fi ((tu_lev lv p3) + (1 : Int32)) p1 p2 nxt) 0) ((tu_lod lv p3) &&& (65535 : Int32)))) 1 (tu_mix ((tu_smp4 mem sf bd fr fo lw lh ac dn fi (tu_lev lv p3) p1 p2 lat) 1) ((tu_smp4 mem sf bd fr fo lw lh ac dn fi ((tu_lev lv p3) + (1 : Int32)) p1 p2 nxt) 1) ((tu_lod lv p3) &&& (65535 : Int32)))))), (nx, .inl (cI, 4, .inl (tu_smp4 mem sf bd fr fo lw lh ac dn fi ((tu_lev lv p3) + (1 : Int32)) p1 p2 nxt)))] := hD
      refine lv_iinc (v := 2) (lv' := [(9, .int 2), (8, .int 1), (7, .int (tu_lev lv p3)), (6, .int (tu_lod lv p3)), (5, .ref u), (0, .ref q), (1, .int p0), (2, .int p1), (3, .int p2), (4, .int p3)]) hx hb dX1_read_142 hl (k := 0) rfl (by decide) (by decide) rfl (fun ls hl => ?_)
      refine lv_goto (tgt := 107) hx hb dX1_read_145 (by decide) ?_
      refine lv_iload hx hb dX1_read_107 (lv_at hl 0 rfl) ?_
      refine lv_iconst (v := 4) hx hb dX1_read_109 (by decide) ?_
      refine lv_icmp_ge (tgt := 148) hx hb dX1_read_110 (by decide) (fun c_11 => absurd c_11 (by decide)) (fun c_11 => ?_)
      refine lv_aload_n hx hb dX1_read_113 rfl (lv_at hl 5 rfl) ?_
      refine va_get (D := (dC, dI)) (ci := 1) (v := .ref la) (C := "TextureUnits") (T := TX1) (N := 4) hx hb hts (tw_s inX1) hown hK hP 0 rfl rfl 2 (by decide) (hts _ (tw_c tw_75)) (fun _ h9 => h9) rfl dX1_read_114 ?_
      refine lv_iload hx hb dX1_read_117 (lv_at hl 0 rfl) ?_
      refine lv_aload_n hx hb dX1_read_119 rfl (lv_at hl 5 rfl) ?_
      refine va_get (D := (dC, dI)) (ci := 1) (v := .ref la) (C := "TextureUnits") (T := TX1) (N := 4) hx hb hts (tw_s inX1) hown hK hP 0 rfl rfl 2 (by decide) (hts _ (tw_c tw_75)) (fun _ h9 => h9) rfl dX1_read_120 ?_
      refine lv_iload hx hb dX1_read_123 (lv_at hl 0 rfl) ?_
      refine va_iald hx hb hK hP 6 1 rfl rfl (tu_in (by decide)) dX1_read_125 ?_
      refine lv_topi (fun x_12 ex_12 => ?_)
      have ex_12 : x_12 = ((tu_smp4 mem sf bd fr fo lw lh ac dn fi (tu_lev lv p3) p1 p2 lat) 2) := ((ex_12).trans (pk_un (by decide))).trans (pk_un (by decide))
      subst ex_12
      refine lv_aload_n hx hb dX1_read_126 rfl (lv_at hl 5 rfl) ?_
      refine va_get (D := (dC, dI)) (ci := 1) (v := .ref nx) (C := "TextureUnits") (T := TX1) (N := 4) hx hb hts (tw_s inX1) hown hK hP 0 rfl rfl 3 (by decide) (hts _ (tw_c tw_76)) (fun _ h9 => h9) rfl dX1_read_127 ?_
      refine lv_iload hx hb dX1_read_130 (lv_at hl 0 rfl) ?_
      refine va_iald hx hb hK hP 7 1 rfl rfl (tu_in (by decide)) dX1_read_132 ?_
      refine lv_topi (fun x_13 ex_13 => ?_)
      have ex_13 : x_13 = ((tu_smp4 mem sf bd fr fo lw lh ac dn fi ((tu_lev lv p3) + (1 : Int32)) p1 p2 nxt) 2) := ex_13
      subst ex_13
      refine lv_iload hx hb dX1_read_133 (lv_at hl 3 rfl) ?_
      refine lv_ldc (v := 65535) hx hb hown (hts _ (tw_c tw_319)) dX1_read_135 ?_
      refine lv_iand hx hb dX1_read_137 ?_
      refine rd_call (W.runS (As := [.int ((tu_smp4 mem sf bd fr fo lw lh ac dn fi (tu_lev lv p3) p1 p2 lat) 2), .int ((tu_smp4 mem sf bd fr fo lw lh ac dn fi ((tu_lev lv p3) + (1 : Int32)) p1 p2 nxt) 2), .int ((tu_lod lv p3) &&& (65535 : Int32))]) (rest := [.int 2, .ref la]) ⟨hx, hb, hml, hown, hts⟩ (r_mix l ((tu_smp4 mem sf bd fr fo lw lh ac dn fi (tu_lev lv p3) p1 p2 lat) 2) ((tu_smp4 mem sf bd fr fo lw lh ac dn fi ((tu_lev lv p3) + (1 : Int32)) p1 p2 nxt) 2) ((tu_lod lv p3) &&& (65535 : Int32))) (va_cwS 3 hts (tg_S tw_312 tw_313 tw_1 tw_314) rfl rfl rfl (by decide +kernel) ⟨Nat.le_of_ble_eq_true rfl, Nat.le_of_ble_eq_true rfl⟩) preEq rfl rfl hl.1 rfl (lv_room (Nat.le_of_ble_eq_true rfl)) dX1_read_138 ⟨Nat.le_of_ble_eq_true rfl, Nat.le_of_ble_eq_true rfl⟩) ?_
      refine va_iast hx hb hK hP hD hS 6 1 rfl rfl (tu_in (by decide)) dX1_read_141 (fun H locs hP hD hS => ?_)
      have hP : va_P (dC, dI) vwCl [(q, .inr (1, [.ref wd, .ref us, .ref la, .ref nx])), (us, .inl (cU, 4, .inr (.inr (.inr (.inr g))))), (u, .inr (0, [.int fr, .int fo, .int lw, .int lh, .int lv, .int ac, .int dn, .int fi, .ref bc, .ref st])), (wd, .inl (cI, 2048, .inl mem)), (st, .inl (cI, 12, .inl sf)), (bc, .inl (cI, 4, .inl bd)), (la, .inl (cI, 4, .inl (upd (upd (upd (tu_smp4 mem sf bd fr fo lw lh ac dn fi (tu_lev lv p3) p1 p2 lat) 0 (tu_mix ((tu_smp4 mem sf bd fr fo lw lh ac dn fi (tu_lev lv p3) p1 p2 lat) 0) ((tu_smp4 mem sf bd fr fo lw lh ac dn fi ((tu_lev lv p3) + (1 : Int32)) p1 p2 nxt) 0) ((tu_lod lv p3) &&& (65535 : Int32)))) 1 (tu_mix ((tu_smp4 mem sf bd fr fo lw lh ac dn fi (tu_lev lv p3) p1 p2 lat) 1) ((tu_smp4 mem sf bd fr fo lw lh ac dn fi ((tu_lev lv p3) + (1 : Int32)) p1 p2 nxt) 1) ((tu_lod lv p3) &&& (65535 : Int32)))) 2 (tu_mix ((tu_smp4 mem sf bd fr fo lw lh ac dn fi (tu_lev lv p3) p1 p2 lat) 2) ((tu_smp4 mem sf bd fr fo lw lh ac dn fi ((tu_lev lv p3) + (1 : Int32)) p1 p2 nxt) 2) ((tu_lod lv p3) &&& (65535 : Int32)))))), (nx, .inl (cI, 4, .inl (tu_smp4 mem sf bd fr fo lw lh ac dn fi ((tu_lev lv p3) + (1 : Int32)) p1 p2 nxt)))] H := hP
      have hD : va_D A [(q, .inr (1, [.ref wd, .ref us, .ref la, .ref nx])), (us, .inl (cU, 4, .inr (.inr (.inr (.inr g))))), (u, .inr (0, [.int fr, .int fo, .int lw, .int lh, .int lv, .int ac, .int dn, .int fi, .ref bc, .ref st])), (wd, .inl (cI, 2048, .inl mem)), (st, .inl (cI, 12, .inl sf)), (bc, .inl (cI, 4, .inl bd)), (la, .inl (cI, 4, .inl (upd (upd (upd (tu_smp4 mem sf bd fr fo lw lh ac dn fi (tu_lev lv p3) p1 p2 lat) 0 (tu_mix ((tu_smp4 mem sf bd fr fo lw lh ac dn fi (tu_lev lv p3) p1 p2 lat) 0) ((tu_smp4 mem sf bd fr fo lw lh ac dn fi ((tu_lev lv p3) + (1 : Int32)) p1 p2 nxt) 0) ((tu_lod lv p3) &&& (65535 : Int32)))) 1 (tu_mix ((tu_smp4 mem sf bd fr fo lw lh ac dn fi (tu_lev lv p3) p1 p2 lat) 1) ((tu_smp4 mem sf bd fr fo lw lh ac dn fi ((tu_lev lv p3) + (1 : Int32)) p1 p2 nxt) 1) ((tu_lod lv p3) &&& (65535 : Int32)))) 2 (tu_mix ((tu_smp4 mem sf bd fr fo lw lh ac dn fi (tu_lev lv p3) p1 p2 lat) 2) ((tu_smp4 mem sf bd fr fo lw lh ac dn fi ((tu_lev lv p3) + (1 : Int32)) p1 p2 nxt) 2) ((tu_lod lv p3) &&& (65535 : Int32)))))), (nx, .inl (cI, 4, .inl (tu_smp4 mem sf bd fr fo lw lh ac dn fi ((tu_lev lv p3) + (1 : Int32)) p1 p2 nxt)))] := hD
      refine lv_iinc (v := 3) (lv' := [(9, .int 3), (8, .int 1), (7, .int (tu_lev lv p3)), (6, .int (tu_lod lv p3)), (5, .ref u), (0, .ref q), (1, .int p0), (2, .int p1), (3, .int p2), (4, .int p3)]) hx hb dX1_read_142 hl (k := 0) rfl (by decide) (by decide) rfl (fun ls hl => ?_)
      refine lv_goto (tgt := 107) hx hb dX1_read_145 (by decide) ?_
      refine lv_iload hx hb dX1_read_107 (lv_at hl 0 rfl) ?_
      refine lv_iconst (v := 4) hx hb dX1_read_109 (by decide) ?_
      refine lv_icmp_ge (tgt := 148) hx hb dX1_read_110 (by decide) (fun c_14 => absurd c_14 (by decide)) (fun c_14 => ?_)
      refine lv_aload_n hx hb dX1_read_113 rfl (lv_at hl 5 rfl) ?_
      refine va_get (D := (dC, dI)) (ci := 1) (v := .ref la) (C := "TextureUnits") (T := TX1) (N := 4) hx hb hts (tw_s inX1) hown hK hP 0 rfl rfl 2 (by decide) (hts _ (tw_c tw_75)) (fun _ h9 => h9) rfl dX1_read_114 ?_
      refine lv_iload hx hb dX1_read_117 (lv_at hl 0 rfl) ?_
      refine lv_aload_n hx hb dX1_read_119 rfl (lv_at hl 5 rfl) ?_
      refine va_get (D := (dC, dI)) (ci := 1) (v := .ref la) (C := "TextureUnits") (T := TX1) (N := 4) hx hb hts (tw_s inX1) hown hK hP 0 rfl rfl 2 (by decide) (hts _ (tw_c tw_75)) (fun _ h9 => h9) rfl dX1_read_120 ?_
      refine lv_iload hx hb dX1_read_123 (lv_at hl 0 rfl) ?_
      refine va_iald hx hb hK hP 6 1 rfl rfl (tu_in (by decide)) dX1_read_125 ?_
      refine lv_topi (fun x_15 ex_15 => ?_)
      have ex_15 : x_15 = ((tu_smp4 mem sf bd fr fo lw lh ac dn fi (tu_lev lv p3) p1 p2 lat) 3) := (((ex_15).trans (pk_un (by decide))).trans (pk_un (by decide))).trans (pk_un (by decide))
      subst ex_15
      refine lv_aload_n hx hb dX1_read_126 rfl (lv_at hl 5 rfl) ?_
      refine va_get (D := (dC, dI)) (ci := 1) (v := .ref nx) (C := "TextureUnits") (T := TX1) (N := 4) hx hb hts (tw_s inX1) hown hK hP 0 rfl rfl 3 (by decide) (hts _ (tw_c tw_76)) (fun _ h9 => h9) rfl dX1_read_127 ?_
      refine lv_iload hx hb dX1_read_130 (lv_at hl 0 rfl) ?_
      refine va_iald hx hb hK hP 7 1 rfl rfl (tu_in (by decide)) dX1_read_132 ?_
      refine lv_topi (fun x_16 ex_16 => ?_)
      have ex_16 : x_16 = ((tu_smp4 mem sf bd fr fo lw lh ac dn fi ((tu_lev lv p3) + (1 : Int32)) p1 p2 nxt) 3) := ex_16
      subst ex_16
      refine lv_iload hx hb dX1_read_133 (lv_at hl 3 rfl) ?_
      refine lv_ldc (v := 65535) hx hb hown (hts _ (tw_c tw_319)) dX1_read_135 ?_
      refine lv_iand hx hb dX1_read_137 ?_
      refine rd_call (W.runS (As := [.int ((tu_smp4 mem sf bd fr fo lw lh ac dn fi (tu_lev lv p3) p1 p2 lat) 3), .int ((tu_smp4 mem sf bd fr fo lw lh ac dn fi ((tu_lev lv p3) + (1 : Int32)) p1 p2 nxt) 3), .int ((tu_lod lv p3) &&& (65535 : Int32))]) (rest := [.int 3, .ref la]) ⟨hx, hb, hml, hown, hts⟩ (r_mix l ((tu_smp4 mem sf bd fr fo lw lh ac dn fi (tu_lev lv p3) p1 p2 lat) 3) ((tu_smp4 mem sf bd fr fo lw lh ac dn fi ((tu_lev lv p3) + (1 : Int32)) p1 p2 nxt) 3) ((tu_lod lv p3) &&& (65535 : Int32))) (va_cwS 3 hts (tg_S tw_312 tw_313 tw_1 tw_314) rfl rfl rfl (by decide +kernel) ⟨Nat.le_of_ble_eq_true rfl, Nat.le_of_ble_eq_true rfl⟩) preEq rfl rfl hl.1 rfl (lv_room (Nat.le_of_ble_eq_true rfl)) dX1_read_138 ⟨Nat.le_of_ble_eq_true rfl, Nat.le_of_ble_eq_true rfl⟩) ?_
      refine va_iast hx hb hK hP hD hS 6 1 rfl rfl (tu_in (by decide)) dX1_read_141 (fun H locs hP hD hS => ?_)
      have hP : va_P (dC, dI) vwCl [(q, .inr (1, [.ref wd, .ref us, .ref la, .ref nx])), (us, .inl (cU, 4, .inr (.inr (.inr (.inr g))))), (u, .inr (0, [.int fr, .int fo, .int lw, .int lh, .int lv, .int ac, .int dn, .int fi, .ref bc, .ref st])), (wd, .inl (cI, 2048, .inl mem)), (st, .inl (cI, 12, .inl sf)), (bc, .inl (cI, 4, .inl bd)), (la, .inl (cI, 4, .inl (upd (upd (upd (upd (tu_smp4 mem sf bd fr fo lw lh ac dn fi (tu_lev lv p3) p1 p2 lat) 0 (tu_mix ((tu_smp4 mem sf bd fr fo lw lh ac dn fi (tu_lev lv p3) p1 p2 lat) 0) ((tu_smp4 mem sf bd fr fo lw lh ac dn fi ((tu_lev lv p3) + (1 : Int32)) p1 p2 nxt) 0) ((tu_lod lv p3) &&& (65535 : Int32)))) 1 (tu_mix ((tu_smp4 mem sf bd fr fo lw lh ac dn fi (tu_lev lv p3) p1 p2 lat) 1) ((tu_smp4 mem sf bd fr fo lw lh ac dn fi ((tu_lev lv p3) + (1 : Int32)) p1 p2 nxt) 1) ((tu_lod lv p3) &&& (65535 : Int32)))) 2 (tu_mix ((tu_smp4 mem sf bd fr fo lw lh ac dn fi (tu_lev lv p3) p1 p2 lat) 2) ((tu_smp4 mem sf bd fr fo lw lh ac dn fi ((tu_lev lv p3) + (1 : Int32)) p1 p2 nxt) 2) ((tu_lod lv p3) &&& (65535 : Int32)))) 3 (tu_mix ((tu_smp4 mem sf bd fr fo lw lh ac dn fi (tu_lev lv p3) p1 p2 lat) 3) ((tu_smp4 mem sf bd fr fo lw lh ac dn fi ((tu_lev lv p3) + (1 : Int32)) p1 p2 nxt) 3) ((tu_lod lv p3) &&& (65535 : Int32)))))), (nx, .inl (cI, 4, .inl (tu_smp4 mem sf bd fr fo lw lh ac dn fi ((tu_lev lv p3) + (1 : Int32)) p1 p2 nxt)))] H := hP
      have hD : va_D A [(q, .inr (1, [.ref wd, .ref us, .ref la, .ref nx])), (us, .inl (cU, 4, .inr (.inr (.inr (.inr g))))), (u, .inr (0, [.int fr, .int fo, .int lw, .int lh, .int lv, .int ac, .int dn, .int fi, .ref bc, .ref st])), (wd, .inl (cI, 2048, .inl mem)), (st, .inl (cI, 12, .inl sf)), (bc, .inl (cI, 4, .inl bd)), (la, .inl (cI, 4, .inl (upd (upd (upd (upd (tu_smp4 mem sf bd fr fo lw lh ac dn fi (tu_lev lv p3) p1 p2 lat) 0 (tu_mix ((tu_smp4 mem sf bd fr fo lw lh ac dn fi (tu_lev lv p3) p1 p2 lat) 0) ((tu_smp4 mem sf bd fr fo lw lh ac dn fi ((tu_lev lv p3) + (1 : Int32)) p1 p2 nxt) 0) ((tu_lod lv p3) &&& (65535 : Int32)))) 1 (tu_mix ((tu_smp4 mem sf bd fr fo lw lh ac dn fi (tu_lev lv p3) p1 p2 lat) 1) ((tu_smp4 mem sf bd fr fo lw lh ac dn fi ((tu_lev lv p3) + (1 : Int32)) p1 p2 nxt) 1) ((tu_lod lv p3) &&& (65535 : Int32)))) 2 (tu_mix ((tu_smp4 mem sf bd fr fo lw lh ac dn fi (tu_lev lv p3) p1 p2 lat) 2) ((tu_smp4 mem sf bd fr fo lw lh ac dn fi ((tu_lev lv p3) + (1 : Int32)) p1 p2 nxt) 2) ((tu_lod lv p3) &&& (65535 : Int32)))) 3 (tu_mix ((tu_smp4 mem sf bd fr fo lw lh ac dn fi (tu_lev lv p3) p1 p2 lat) 3) ((tu_smp4 mem sf bd fr fo lw lh ac dn fi ((tu_lev lv p3) + (1 : Int32)) p1 p2 nxt) 3) ((tu_lod lv p3) &&& (65535 : Int32)))))), (nx, .inl (cI, 4, .inl (tu_smp4 mem sf bd fr fo lw lh ac dn fi ((tu_lev lv p3) + (1 : Int32)) p1 p2 nxt)))] := hD
      refine lv_iinc (v := 4) (lv' := [(9, .int 4), (8, .int 1), (7, .int (tu_lev lv p3)), (6, .int (tu_lod lv p3)), (5, .ref u), (0, .ref q), (1, .int p0), (2, .int p1), (3, .int p2), (4, .int p3)]) hx hb dX1_read_142 hl (k := 0) rfl (by decide) (by decide) rfl (fun ls hl => ?_)
      refine lv_goto (tgt := 107) hx hb dX1_read_145 (by decide) ?_
      refine lv_iload hx hb dX1_read_107 (lv_at hl 0 rfl) ?_
      refine lv_iconst (v := 4) hx hb dX1_read_109 (by decide) ?_
      refine lv_icmp_ge (tgt := 148) hx hb dX1_read_110 (by decide) (fun c_17 => ?_) (fun c_17 => absurd (by decide) c_17)
      have hP : va_P (dC, dI) vwCl [(q, .inr (1, [.ref wd, .ref us, .ref la, .ref nx])), (us, .inl (cU, 4, .inr (.inr (.inr (.inr g))))), (u, .inr (0, [.int fr, .int fo, .int lw, .int lh, .int lv, .int ac, .int dn, .int fi, .ref bc, .ref st])), (wd, .inl (cI, 2048, .inl mem)), (st, .inl (cI, 12, .inl sf)), (bc, .inl (cI, 4, .inl bd)), (la, .inl (cI, 4, .inl (tu_rd mem sf bd fr fo lw lh lv ac dn fi p1 p2 p3 lat nxt))), (nx, .inl (cI, 4, .inl (tu_rn mem sf bd fr fo lw lh lv ac dn fi p1 p2 p3 nxt)))] H := by rw [tu_rd_a (Or.inl c_1) c_3, tu_rn_a (Or.inl c_1) c_3]; exact hP
      have hD : va_D A [(q, .inr (1, [.ref wd, .ref us, .ref la, .ref nx])), (us, .inl (cU, 4, .inr (.inr (.inr (.inr g))))), (u, .inr (0, [.int fr, .int fo, .int lw, .int lh, .int lv, .int ac, .int dn, .int fi, .ref bc, .ref st])), (wd, .inl (cI, 2048, .inl mem)), (st, .inl (cI, 12, .inl sf)), (bc, .inl (cI, 4, .inl bd)), (la, .inl (cI, 4, .inl (tu_rd mem sf bd fr fo lw lh lv ac dn fi p1 p2 p3 lat nxt))), (nx, .inl (cI, 4, .inl (tu_rn mem sf bd fr fo lw lh lv ac dn fi p1 p2 p3 nxt)))] := by rw [tu_rd_a (Or.inl c_1) c_3, tu_rn_a (Or.inl c_1) c_3]; exact hD
      refine lv_aload_n hx hb dX1_read_148 rfl (lv_at hl 5 rfl) ?_
      refine va_get (D := (dC, dI)) (ci := 1) (v := .ref la) (C := "TextureUnits") (T := TX1) (N := 4) hx hb hts (tw_s inX1) hown hK hP 0 rfl rfl 2 (by decide) (hts _ (tw_c tw_75)) (fun _ h9 => h9) rfl dX1_read_149 ?_
      refine lv_iconst (v := 0) hx hb dX1_read_152 (by decide) ?_
      refine va_iald hx hb hK hP 6 1 rfl rfl (tu_in (by decide)) dX1_read_153 ?_
      refine lv_topi (fun x_18 ex_18 => ?_)
      have ex_18 : x_18 = ((tu_rd mem sf bd fr fo lw lh lv ac dn fi p1 p2 p3 lat nxt) 0) := ex_18
      subst ex_18
      have hP9 : va_P (dC, dI) vwCl [(q, .inr (1, [.ref wd, .ref us, .ref la, .ref nx])), (us, .inl (cU, 4, .inr (.inr (.inr (.inr g))))), (u, .inr (0, [.int fr, .int fo, .int lw, .int lh, .int lv, .int ac, .int dn, .int fi, .ref bc, .ref st])), (wd, .inl (cI, 2048, .inl mem)), (st, .inl (cI, 12, .inl sf)), (bc, .inl (cI, 4, .inl bd)), (la, .inl (cI, 4, .inl (tu_rd mem sf bd fr fo lw lh lv ac dn fi p1 p2 p3 lat nxt))), (nx, .inl (cI, 4, .inl (tu_rn mem sf bd fr fo lw lh lv ac dn fi p1 p2 p3 nxt)))] H := hP.sub [0, 1, 2, 3, 4, 5, 6, 7] rfl
      have hD9 : va_D A [(q, .inr (1, [.ref wd, .ref us, .ref la, .ref nx])), (us, .inl (cU, 4, .inr (.inr (.inr (.inr g))))), (u, .inr (0, [.int fr, .int fo, .int lw, .int lh, .int lv, .int ac, .int dn, .int fi, .ref bc, .ref st])), (wd, .inl (cI, 2048, .inl mem)), (st, .inl (cI, 12, .inl sf)), (bc, .inl (cI, 4, .inl bd)), (la, .inl (cI, 4, .inl (tu_rd mem sf bd fr fo lw lh lv ac dn fi p1 p2 p3 lat nxt))), (nx, .inl (cI, 4, .inl (tu_rn mem sf bd fr fo lw lh lv ac dn fi p1 p2 p3 nxt)))] := hD.sub [0, 1, 2, 3, 4, 5, 6, 7] (by decide) rfl
      have hK9 : va_K (dC, dI) vwCl [(cU, .object "TextureUnits$Unit"), (cI, .int)] s := hK.sub [0, 1] rfl
      exact W.iret (v := ((tu_rd mem sf bd fr fo lw lh lv ac dn fi p1 p2 p3 lat nxt) 0)) hx hb hr (fun t ht hW => ⟨⟨((tu_rd mem sf bd fr fo lw lh lv ac dn fi p1 p2 p3 lat nxt) 0), (), rfl, rfl, by rw [ht]; exact hP9, va_K.moved hW.alike hK9, hD9⟩, hS.F ht⟩) hS.2.2 dX1_read_154
  · refine lv_aload hx hb dX1_read_55 (lv_at hl 2 rfl) ?_
    refine va_get (D := (dC, dI)) (ci := 0) (v := .int fi) (C := "TextureUnits$Unit") (T := TX0) (N := 10) hx hb hts (tw_s inX0) hown hK hP 2 rfl rfl 7 (by decide) (hts _ (tw_c tw_46)) (fun _ h9 => h9) rfl dX1_read_57 ?_
    refine lv_iconst (v := 3) hx hb dX1_read_60 (by decide) ?_
    refine lv_icmp_ne (tgt := 68) hx hb dX1_read_61 (by decide) (fun c_19 => ?_) (fun c_19 => ?_)
    · refine lv_iconst (v := 0) hx hb dX1_read_68 (by decide) ?_
      refine lv_istore (lv' := [(8, .int 0), (7, .int (tu_lev lv p3)), (6, .int (tu_lod lv p3)), (5, .ref u), (0, .ref q), (1, .int p0), (2, .int p1), (3, .int p2), (4, .int p3)]) hx hb dX1_read_69 hl (by decide) rfl (fun ls hl => ?_)
      refine lv_iload hx hb dX1_read_71 (lv_at hl 0 rfl) ?_
      refine lv_if_eq (tgt := 148) hx hb dX1_read_73 (by decide) (fun c_20 => ?_) (fun c_20 => absurd (by decide) c_20)
      rw [← tu_rd_c (la := lat) (nx := nxt) (l := p3) (lv := lv) c_1 c_19] at hP hD
      have hP : va_P (dC, dI) vwCl [(q, .inr (1, [.ref wd, .ref us, .ref la, .ref nx])), (us, .inl (cU, 4, .inr (.inr (.inr (.inr g))))), (u, .inr (0, [.int fr, .int fo, .int lw, .int lh, .int lv, .int ac, .int dn, .int fi, .ref bc, .ref st])), (wd, .inl (cI, 2048, .inl mem)), (st, .inl (cI, 12, .inl sf)), (bc, .inl (cI, 4, .inl bd)), (la, .inl (cI, 4, .inl (tu_rd mem sf bd fr fo lw lh lv ac dn fi p1 p2 p3 lat nxt))), (nx, .inl (cI, 4, .inl (tu_rn mem sf bd fr fo lw lh lv ac dn fi p1 p2 p3 nxt)))] H := by rw [tu_rn_c c_1 c_19]; exact hP
      have hD : va_D A [(q, .inr (1, [.ref wd, .ref us, .ref la, .ref nx])), (us, .inl (cU, 4, .inr (.inr (.inr (.inr g))))), (u, .inr (0, [.int fr, .int fo, .int lw, .int lh, .int lv, .int ac, .int dn, .int fi, .ref bc, .ref st])), (wd, .inl (cI, 2048, .inl mem)), (st, .inl (cI, 12, .inl sf)), (bc, .inl (cI, 4, .inl bd)), (la, .inl (cI, 4, .inl (tu_rd mem sf bd fr fo lw lh lv ac dn fi p1 p2 p3 lat nxt))), (nx, .inl (cI, 4, .inl (tu_rn mem sf bd fr fo lw lh lv ac dn fi p1 p2 p3 nxt)))] := by rw [tu_rn_c c_1 c_19]; exact hD
      refine lv_aload_n hx hb dX1_read_148 rfl (lv_at hl 4 rfl) ?_
      refine va_get (D := (dC, dI)) (ci := 1) (v := .ref la) (C := "TextureUnits") (T := TX1) (N := 4) hx hb hts (tw_s inX1) hown hK hP 0 rfl rfl 2 (by decide) (hts _ (tw_c tw_75)) (fun _ h9 => h9) rfl dX1_read_149 ?_
      refine lv_iconst (v := 0) hx hb dX1_read_152 (by decide) ?_
      refine va_iald hx hb hK hP 6 1 rfl rfl (tu_in (by decide)) dX1_read_153 ?_
      refine lv_topi (fun x_21 ex_21 => ?_)
      have ex_21 : x_21 = ((tu_rd mem sf bd fr fo lw lh lv ac dn fi p1 p2 p3 lat nxt) 0) := ex_21
      subst ex_21
      have hP9 : va_P (dC, dI) vwCl [(q, .inr (1, [.ref wd, .ref us, .ref la, .ref nx])), (us, .inl (cU, 4, .inr (.inr (.inr (.inr g))))), (u, .inr (0, [.int fr, .int fo, .int lw, .int lh, .int lv, .int ac, .int dn, .int fi, .ref bc, .ref st])), (wd, .inl (cI, 2048, .inl mem)), (st, .inl (cI, 12, .inl sf)), (bc, .inl (cI, 4, .inl bd)), (la, .inl (cI, 4, .inl (tu_rd mem sf bd fr fo lw lh lv ac dn fi p1 p2 p3 lat nxt))), (nx, .inl (cI, 4, .inl (tu_rn mem sf bd fr fo lw lh lv ac dn fi p1 p2 p3 nxt)))] H := hP.sub [0, 1, 2, 3, 4, 5, 6, 7] rfl
      have hD9 : va_D A [(q, .inr (1, [.ref wd, .ref us, .ref la, .ref nx])), (us, .inl (cU, 4, .inr (.inr (.inr (.inr g))))), (u, .inr (0, [.int fr, .int fo, .int lw, .int lh, .int lv, .int ac, .int dn, .int fi, .ref bc, .ref st])), (wd, .inl (cI, 2048, .inl mem)), (st, .inl (cI, 12, .inl sf)), (bc, .inl (cI, 4, .inl bd)), (la, .inl (cI, 4, .inl (tu_rd mem sf bd fr fo lw lh lv ac dn fi p1 p2 p3 lat nxt))), (nx, .inl (cI, 4, .inl (tu_rn mem sf bd fr fo lw lh lv ac dn fi p1 p2 p3 nxt)))] := hD.sub [0, 1, 2, 3, 4, 5, 6, 7] (by decide) rfl
      have hK9 : va_K (dC, dI) vwCl [(cU, .object "TextureUnits$Unit"), (cI, .int)] s := hK.sub [0, 1] rfl
      exact W.iret (v := ((tu_rd mem sf bd fr fo lw lh lv ac dn fi p1 p2 p3 lat nxt) 0)) hx hb hr (fun t ht hW => ⟨⟨((tu_rd mem sf bd fr fo lw lh lv ac dn fi p1 p2 p3 lat nxt) 0), (), rfl, rfl, by rw [ht]; exact hP9, va_K.moved hW.alike hK9, hD9⟩, hS.F ht⟩) hS.2.2 dX1_read_154
    · refine lv_iconst (v := 1) hx hb dX1_read_64 (by decide) ?_
      refine lv_goto (tgt := 69) hx hb dX1_read_65 (by decide) ?_
      refine lv_istore (lv' := [(8, .int 1), (7, .int (tu_lev lv p3)), (6, .int (tu_lod lv p3)), (5, .ref u), (0, .ref q), (1, .int p0), (2, .int p1), (3, .int p2), (4, .int p3)]) hx hb dX1_read_69 hl (by decide) rfl (fun ls hl => ?_)
      refine lv_iload hx hb dX1_read_71 (lv_at hl 0 rfl) ?_
      refine lv_if_eq (tgt := 148) hx hb dX1_read_73 (by decide) (fun c_22 => absurd c_22 (by decide)) (fun c_22 => ?_)
      refine lv_iload hx hb dX1_read_76 (lv_at hl 1 rfl) ?_
      refine lv_iconst (v := 1) hx hb dX1_read_78 (by decide) ?_
      refine lv_iadd hx hb dX1_read_79 ?_
      refine lv_aload hx hb dX1_read_80 (lv_at hl 3 rfl) ?_
      refine va_get (D := (dC, dI)) (ci := 0) (v := .int lv) (C := "TextureUnits$Unit") (T := TX0) (N := 10) hx hb hts (tw_s inX0) hown hK hP 2 rfl rfl 4 (by decide) (hts _ (tw_c tw_43)) (fun _ h9 => h9) rfl dX1_read_82 ?_
      refine lv_icmp_ge (tgt := 148) hx hb dX1_read_85 (by decide) (fun c_23 => ?_) (fun c_23 => ?_)
      · have hP : va_P (dC, dI) vwCl [(q, .inr (1, [.ref wd, .ref us, .ref la, .ref nx])), (us, .inl (cU, 4, .inr (.inr (.inr (.inr g))))), (u, .inr (0, [.int fr, .int fo, .int lw, .int lh, .int lv, .int ac, .int dn, .int fi, .ref bc, .ref st])), (wd, .inl (cI, 2048, .inl mem)), (st, .inl (cI, 12, .inl sf)), (bc, .inl (cI, 4, .inl bd)), (la, .inl (cI, 4, .inl (tu_rd mem sf bd fr fo lw lh lv ac dn fi p1 p2 p3 lat nxt))), (nx, .inl (cI, 4, .inl (tu_rn mem sf bd fr fo lw lh lv ac dn fi p1 p2 p3 nxt)))] H := by rw [tu_rd_b (Or.inr c_19) c_23, tu_rn_b (Or.inr c_19) c_23]; exact hP
        have hD : va_D A [(q, .inr (1, [.ref wd, .ref us, .ref la, .ref nx])), (us, .inl (cU, 4, .inr (.inr (.inr (.inr g))))), (u, .inr (0, [.int fr, .int fo, .int lw, .int lh, .int lv, .int ac, .int dn, .int fi, .ref bc, .ref st])), (wd, .inl (cI, 2048, .inl mem)), (st, .inl (cI, 12, .inl sf)), (bc, .inl (cI, 4, .inl bd)), (la, .inl (cI, 4, .inl (tu_rd mem sf bd fr fo lw lh lv ac dn fi p1 p2 p3 lat nxt))), (nx, .inl (cI, 4, .inl (tu_rn mem sf bd fr fo lw lh lv ac dn fi p1 p2 p3 nxt)))] := by rw [tu_rd_b (Or.inr c_19) c_23, tu_rn_b (Or.inr c_19) c_23]; exact hD
        refine lv_aload_n hx hb dX1_read_148 rfl (lv_at hl 4 rfl) ?_
        refine va_get (D := (dC, dI)) (ci := 1) (v := .ref la) (C := "TextureUnits") (T := TX1) (N := 4) hx hb hts (tw_s inX1) hown hK hP 0 rfl rfl 2 (by decide) (hts _ (tw_c tw_75)) (fun _ h9 => h9) rfl dX1_read_149 ?_
        refine lv_iconst (v := 0) hx hb dX1_read_152 (by decide) ?_
        refine va_iald hx hb hK hP 6 1 rfl rfl (tu_in (by decide)) dX1_read_153 ?_
        refine lv_topi (fun x_24 ex_24 => ?_)
        have ex_24 : x_24 = ((tu_rd mem sf bd fr fo lw lh lv ac dn fi p1 p2 p3 lat nxt) 0) := ex_24
        subst ex_24
        have hP9 : va_P (dC, dI) vwCl [(q, .inr (1, [.ref wd, .ref us, .ref la, .ref nx])), (us, .inl (cU, 4, .inr (.inr (.inr (.inr g))))), (u, .inr (0, [.int fr, .int fo, .int lw, .int lh, .int lv, .int ac, .int dn, .int fi, .ref bc, .ref st])), (wd, .inl (cI, 2048, .inl mem)), (st, .inl (cI, 12, .inl sf)), (bc, .inl (cI, 4, .inl bd)), (la, .inl (cI, 4, .inl (tu_rd mem sf bd fr fo lw lh lv ac dn fi p1 p2 p3 lat nxt))), (nx, .inl (cI, 4, .inl (tu_rn mem sf bd fr fo lw lh lv ac dn fi p1 p2 p3 nxt)))] H := hP.sub [0, 1, 2, 3, 4, 5, 6, 7] rfl
        have hD9 : va_D A [(q, .inr (1, [.ref wd, .ref us, .ref la, .ref nx])), (us, .inl (cU, 4, .inr (.inr (.inr (.inr g))))), (u, .inr (0, [.int fr, .int fo, .int lw, .int lh, .int lv, .int ac, .int dn, .int fi, .ref bc, .ref st])), (wd, .inl (cI, 2048, .inl mem)), (st, .inl (cI, 12, .inl sf)), (bc, .inl (cI, 4, .inl bd)), (la, .inl (cI, 4, .inl (tu_rd mem sf bd fr fo lw lh lv ac dn fi p1 p2 p3 lat nxt))), (nx, .inl (cI, 4, .inl (tu_rn mem sf bd fr fo lw lh lv ac dn fi p1 p2 p3 nxt)))] := hD.sub [0, 1, 2, 3, 4, 5, 6, 7] (by decide) rfl
        have hK9 : va_K (dC, dI) vwCl [(cU, .object "TextureUnits$Unit"), (cI, .int)] s := hK.sub [0, 1] rfl
        exact W.iret (v := ((tu_rd mem sf bd fr fo lw lh lv ac dn fi p1 p2 p3 lat nxt) 0)) hx hb hr (fun t ht hW => ⟨⟨((tu_rd mem sf bd fr fo lw lh lv ac dn fi p1 p2 p3 lat nxt) 0), (), rfl, rfl, by rw [ht]; exact hP9, va_K.moved hW.alike hK9, hD9⟩, hS.F ht⟩) hS.2.2 dX1_read_154
      · refine lv_aload_n hx hb dX1_read_88 rfl (lv_at hl 4 rfl) ?_
        refine lv_aload hx hb dX1_read_89 (lv_at hl 3 rfl) ?_
        refine lv_iload hx hb dX1_read_91 (lv_at hl 1 rfl) ?_
        refine lv_iconst (v := 1) hx hb dX1_read_93 (by decide) ?_
        refine lv_iadd hx hb dX1_read_94 ?_
        refine lv_iload_n hx hb dX1_read_95 rfl (lv_at hl 6 rfl) ?_
        refine lv_iload_n hx hb dX1_read_96 rfl (lv_at hl 7 rfl) ?_
        refine lv_aload_n hx hb dX1_read_97 rfl (lv_at hl 4 rfl) ?_
        refine va_get (D := (dC, dI)) (ci := 1) (v := .ref nx) (C := "TextureUnits") (T := TX1) (N := 4) hx hb hts (tw_s inX1) hown hK hP 0 rfl rfl 3 (by decide) (hts _ (tw_c tw_76)) (fun _ h9 => h9) rfl dX1_read_98 ?_
        have hPc := hP.sub (ws' := [(q, .inr (1, [.ref wd, .ref us, .ref la, .ref nx])), (u, .inr (0, [.int fr, .int fo, .int lw, .int lh, .int lv, .int ac, .int dn, .int fi, .ref bc, .ref st])), (wd, .inl (cI, 2048, .inl mem)), (st, .inl (cI, 12, .inl sf)), (bc, .inl (cI, 4, .inl bd)), (nx, .inl (cI, 4, .inl nxt))]) [0, 2, 3, 4, 5, 7] rfl
        have hDc := hD.sub (ws' := [(q, .inr (1, [.ref wd, .ref us, .ref la, .ref nx])), (u, .inr (0, [.int fr, .int fo, .int lw, .int lh, .int lv, .int ac, .int dn, .int fi, .ref bc, .ref st])), (wd, .inl (cI, 2048, .inl mem)), (st, .inl (cI, 12, .inl sf)), (bc, .inl (cI, 4, .inl bd)), (nx, .inl (cI, 4, .inl nxt))]) [0, 2, 3, 4, 5, 7] (by decide) rfl
        have hFc := va_free (wc := [(q, .inr (1, [.ref wd, .ref us, .ref la, .ref nx])), (u, .inr (0, [.int fr, .int fo, .int lw, .int lh, .int lv, .int ac, .int dn, .int fi, .ref bc, .ref st])), (wd, .inl (cI, 2048, .inl mem)), (st, .inl (cI, 12, .inl sf)), (bc, .inl (cI, 4, .inl bd)), (nx, .inl (cI, 4, .inl nxt))]) hD hS hA [0, 2, 3, 4, 5, 7] rfl
        refine va_callv (va_runV (As := [.ref u, .int ((tu_lev lv p3) + (1 : Int32)), .int p1, .int p2, .ref nx]) (rest := []) ⟨hx, hb, hml, hown, hts⟩ (w_sample l dC dI q wd us la nx u fr fo lw lh lv ac dn fi bc st nx cI mem sf bd nxt tb ((tu_lev lv p3) + (1 : Int32)) p1 p2 H.size (h3 c_23) h1) (cwV 5 hts (tg_V tw_286 tw_288 tw_p4 tw_1 tw_289) rfl rfl rfl (by decide +kernel) ⟨Nat.le_of_ble_eq_true rfl, Nat.le_of_ble_eq_true rfl⟩) ⟨wt_blind, va_recv hK hP (ci := 1) (q0 := 0) rfl rfl, fun U hU hW => ⟨rfl, wt_use hPc (hK.sub [1] rfl) hDc hX hS hFc U hU hW⟩⟩ rfl rfl hl.1 rfl (lv_room (Nat.le_of_ble_eq_true rfl)) dX1_read_101 ⟨Nat.le_of_ble_eq_true rfl, Nat.le_of_ble_eq_true rfl⟩) hS (fun q _ h => hFc q h) hFc (fun u9 t9 H1 locs ht hvm hw hB hz1 hk1 hS => ?_)
        obtain ⟨hP1, hK1, hD1⟩ := hB
        rw [ht] at hP1
        obtain ⟨hP, hD⟩ := va_join (wr := [(us, .inl (cU, 4, .inr (.inr (.inr (.inr g))))), (la, .inl (cI, 4, .inl (tu_smp4 mem sf bd fr fo lw lh ac dn fi (tu_lev lv p3) p1 p2 lat)))]) (w1 := [(q, .inr (1, [.ref wd, .ref us, .ref la, .ref nx])), (u, .inr (0, [.int fr, .int fo, .int lw, .int lh, .int lv, .int ac, .int dn, .int fi, .ref bc, .ref st])), (wd, .inl (cI, 2048, .inl mem)), (st, .inl (cI, 12, .inl sf)), (bc, .inl (cI, 4, .inl bd)), (nx, .inl (cI, 4, .inl (tu_smp4 mem sf bd fr fo lw lh ac dn fi ((tu_lev lv p3) + (1 : Int32)) p1 p2 nxt)))]) hP hD [0, 2, 3, 4, 5, 7] [1, 6] rfl rfl (by decide) (by decide) hk1 hFc hP1 hD1
        have hP := hP.sub (ws' := [(q, .inr (1, [.ref wd, .ref us, .ref la, .ref nx])), (us, .inl (cU, 4, .inr (.inr (.inr (.inr g))))), (u, .inr (0, [.int fr, .int fo, .int lw, .int lh, .int lv, .int ac, .int dn, .int fi, .ref bc, .ref st])), (wd, .inl (cI, 2048, .inl mem)), (st, .inl (cI, 12, .inl sf)), (bc, .inl (cI, 4, .inl bd)), (la, .inl (cI, 4, .inl (tu_smp4 mem sf bd fr fo lw lh ac dn fi (tu_lev lv p3) p1 p2 lat))), (nx, .inl (cI, 4, .inl (tu_smp4 mem sf bd fr fo lw lh ac dn fi ((tu_lev lv p3) + (1 : Int32)) p1 p2 nxt)))]) [2, 0, 3, 4, 5, 6, 1, 7] rfl
        have hD := hD.sub (ws' := [(q, .inr (1, [.ref wd, .ref us, .ref la, .ref nx])), (us, .inl (cU, 4, .inr (.inr (.inr (.inr g))))), (u, .inr (0, [.int fr, .int fo, .int lw, .int lh, .int lv, .int ac, .int dn, .int fi, .ref bc, .ref st])), (wd, .inl (cI, 2048, .inl mem)), (st, .inl (cI, 12, .inl sf)), (bc, .inl (cI, 4, .inl bd)), (la, .inl (cI, 4, .inl (tu_smp4 mem sf bd fr fo lw lh ac dn fi (tu_lev lv p3) p1 p2 lat))), (nx, .inl (cI, 4, .inl (tu_smp4 mem sf bd fr fo lw lh ac dn fi ((tu_lev lv p3) + (1 : Int32)) p1 p2 nxt)))]) [2, 0, 3, 4, 5, 6, 1, 7] (by decide) rfl
        clear hPc hDc hFc hP1 hK1 hD1 hk1 hz1
        generalize H1 = H at hP hS ⊢
        refine lv_iconst (v := 0) hx hb dX1_read_104 (by decide) ?_
        refine lv_istore (lv' := [(9, .int 0), (8, .int 1), (7, .int (tu_lev lv p3)), (6, .int (tu_lod lv p3)), (5, .ref u), (0, .ref q), (1, .int p0), (2, .int p1), (3, .int p2), (4, .int p3)]) hx hb dX1_read_105 hl (by decide) rfl (fun ls hl => ?_)
        refine lv_iload hx hb dX1_read_107 (lv_at hl 0 rfl) ?_
        refine lv_iconst (v := 4) hx hb dX1_read_109 (by decide) ?_
        refine lv_icmp_ge (tgt := 148) hx hb dX1_read_110 (by decide) (fun c_25 => absurd c_25 (by decide)) (fun c_25 => ?_)
        refine lv_aload_n hx hb dX1_read_113 rfl (lv_at hl 5 rfl) ?_
        refine va_get (D := (dC, dI)) (ci := 1) (v := .ref la) (C := "TextureUnits") (T := TX1) (N := 4) hx hb hts (tw_s inX1) hown hK hP 0 rfl rfl 2 (by decide) (hts _ (tw_c tw_75)) (fun _ h9 => h9) rfl dX1_read_114 ?_
        refine lv_iload hx hb dX1_read_117 (lv_at hl 0 rfl) ?_
        refine lv_aload_n hx hb dX1_read_119 rfl (lv_at hl 5 rfl) ?_
        refine va_get (D := (dC, dI)) (ci := 1) (v := .ref la) (C := "TextureUnits") (T := TX1) (N := 4) hx hb hts (tw_s inX1) hown hK hP 0 rfl rfl 2 (by decide) (hts _ (tw_c tw_75)) (fun _ h9 => h9) rfl dX1_read_120 ?_
        refine lv_iload hx hb dX1_read_123 (lv_at hl 0 rfl) ?_
        refine va_iald hx hb hK hP 6 1 rfl rfl (tu_in (by decide)) dX1_read_125 ?_
        refine lv_topi (fun x_26 ex_26 => ?_)
        have ex_26 : x_26 = ((tu_smp4 mem sf bd fr fo lw lh ac dn fi (tu_lev lv p3) p1 p2 lat) 0) := ex_26
        subst ex_26
        refine lv_aload_n hx hb dX1_read_126 rfl (lv_at hl 5 rfl) ?_
        refine va_get (D := (dC, dI)) (ci := 1) (v := .ref nx) (C := "TextureUnits") (T := TX1) (N := 4) hx hb hts (tw_s inX1) hown hK hP 0 rfl rfl 3 (by decide) (hts _ (tw_c tw_76)) (fun _ h9 => h9) rfl dX1_read_127 ?_
        refine lv_iload hx hb dX1_read_130 (lv_at hl 0 rfl) ?_
        refine va_iald hx hb hK hP 7 1 rfl rfl (tu_in (by decide)) dX1_read_132 ?_
        refine lv_topi (fun x_27 ex_27 => ?_)
        have ex_27 : x_27 = ((tu_smp4 mem sf bd fr fo lw lh ac dn fi ((tu_lev lv p3) + (1 : Int32)) p1 p2 nxt) 0) := ex_27
        subst ex_27
        refine lv_iload hx hb dX1_read_133 (lv_at hl 3 rfl) ?_
        refine lv_ldc (v := 65535) hx hb hown (hts _ (tw_c tw_319)) dX1_read_135 ?_
        refine lv_iand hx hb dX1_read_137 ?_
        refine rd_call (W.runS (As := [.int ((tu_smp4 mem sf bd fr fo lw lh ac dn fi (tu_lev lv p3) p1 p2 lat) 0), .int ((tu_smp4 mem sf bd fr fo lw lh ac dn fi ((tu_lev lv p3) + (1 : Int32)) p1 p2 nxt) 0), .int ((tu_lod lv p3) &&& (65535 : Int32))]) (rest := [.int 0, .ref la]) ⟨hx, hb, hml, hown, hts⟩ (r_mix l ((tu_smp4 mem sf bd fr fo lw lh ac dn fi (tu_lev lv p3) p1 p2 lat) 0) ((tu_smp4 mem sf bd fr fo lw lh ac dn fi ((tu_lev lv p3) + (1 : Int32)) p1 p2 nxt) 0) ((tu_lod lv p3) &&& (65535 : Int32))) (va_cwS 3 hts (tg_S tw_312 tw_313 tw_1 tw_314) rfl rfl rfl (by decide +kernel) ⟨Nat.le_of_ble_eq_true rfl, Nat.le_of_ble_eq_true rfl⟩) preEq rfl rfl hl.1 rfl (lv_room (Nat.le_of_ble_eq_true rfl)) dX1_read_138 ⟨Nat.le_of_ble_eq_true rfl, Nat.le_of_ble_eq_true rfl⟩) ?_
        refine va_iast hx hb hK hP hD hS 6 1 rfl rfl (tu_in (by decide)) dX1_read_141 (fun H locs hP hD hS => ?_)
        have hP : va_P (dC, dI) vwCl [(q, .inr (1, [.ref wd, .ref us, .ref la, .ref nx])), (us, .inl (cU, 4, .inr (.inr (.inr (.inr g))))), (u, .inr (0, [.int fr, .int fo, .int lw, .int lh, .int lv, .int ac, .int dn, .int fi, .ref bc, .ref st])), (wd, .inl (cI, 2048, .inl mem)), (st, .inl (cI, 12, .inl sf)), (bc, .inl (cI, 4, .inl bd)), (la, .inl (cI, 4, .inl (upd (tu_smp4 mem sf bd fr fo lw lh ac dn fi (tu_lev lv p3) p1 p2 lat) 0 (tu_mix ((tu_smp4 mem sf bd fr fo lw lh ac dn fi (tu_lev lv p3) p1 p2 lat) 0) ((tu_smp4 mem sf bd fr fo lw lh ac dn fi ((tu_lev lv p3) + (1 : Int32)) p1 p2 nxt) 0) ((tu_lod lv p3) &&& (65535 : Int32)))))), (nx, .inl (cI, 4, .inl (tu_smp4 mem sf bd fr fo lw lh ac dn fi ((tu_lev lv p3) + (1 : Int32)) p1 p2 nxt)))] H := hP
        have hD : va_D A [(q, .inr (1, [.ref wd, .ref us, .ref la, .ref nx])), (us, .inl (cU, 4, .inr (.inr (.inr (.inr g))))), (u, .inr (0, [.int fr, .int fo, .int lw, .int lh, .int lv, .int ac, .int dn, .int fi, .ref bc, .ref st])), (wd, .inl (cI, 2048, .inl mem)), (st, .inl (cI, 12, .inl sf)), (bc, .inl (cI, 4, .inl bd)), (la, .inl (cI, 4, .inl (upd (tu_smp4 mem sf bd fr fo lw lh ac dn fi (tu_lev lv p3) p1 p2 lat) 0 (tu_mix ((tu_smp4 mem sf bd fr fo lw lh ac dn fi (tu_lev lv p3) p1 p2 lat) 0) ((tu_smp4 mem sf bd fr fo lw lh ac dn fi ((tu_lev lv p3) + (1 : Int32)) p1 p2 nxt) 0) ((tu_lod lv p3) &&& (65535 : Int32)))))), (nx, .inl (cI, 4, .inl (tu_smp4 mem sf bd fr fo lw lh ac dn fi ((tu_lev lv p3) + (1 : Int32)) p1 p2 nxt)))] := hD
        refine lv_iinc (v := 1) (lv' := [(9, .int 1), (8, .int 1), (7, .int (tu_lev lv p3)), (6, .int (tu_lod lv p3)), (5, .ref u), (0, .ref q), (1, .int p0), (2, .int p1), (3, .int p2), (4, .int p3)]) hx hb dX1_read_142 hl (k := 0) rfl (by decide) (by decide) rfl (fun ls hl => ?_)
        refine lv_goto (tgt := 107) hx hb dX1_read_145 (by decide) ?_
        refine lv_iload hx hb dX1_read_107 (lv_at hl 0 rfl) ?_
        refine lv_iconst (v := 4) hx hb dX1_read_109 (by decide) ?_
        refine lv_icmp_ge (tgt := 148) hx hb dX1_read_110 (by decide) (fun c_28 => absurd c_28 (by decide)) (fun c_28 => ?_)
        refine lv_aload_n hx hb dX1_read_113 rfl (lv_at hl 5 rfl) ?_
        refine va_get (D := (dC, dI)) (ci := 1) (v := .ref la) (C := "TextureUnits") (T := TX1) (N := 4) hx hb hts (tw_s inX1) hown hK hP 0 rfl rfl 2 (by decide) (hts _ (tw_c tw_75)) (fun _ h9 => h9) rfl dX1_read_114 ?_
        refine lv_iload hx hb dX1_read_117 (lv_at hl 0 rfl) ?_
        refine lv_aload_n hx hb dX1_read_119 rfl (lv_at hl 5 rfl) ?_
        refine va_get (D := (dC, dI)) (ci := 1) (v := .ref la) (C := "TextureUnits") (T := TX1) (N := 4) hx hb hts (tw_s inX1) hown hK hP 0 rfl rfl 2 (by decide) (hts _ (tw_c tw_75)) (fun _ h9 => h9) rfl dX1_read_120 ?_
        refine lv_iload hx hb dX1_read_123 (lv_at hl 0 rfl) ?_
        refine va_iald hx hb hK hP 6 1 rfl rfl (tu_in (by decide)) dX1_read_125 ?_
        refine lv_topi (fun x_29 ex_29 => ?_)
        have ex_29 : x_29 = ((tu_smp4 mem sf bd fr fo lw lh ac dn fi (tu_lev lv p3) p1 p2 lat) 1) := (ex_29).trans (pk_un (by decide))
        subst ex_29
        refine lv_aload_n hx hb dX1_read_126 rfl (lv_at hl 5 rfl) ?_
        refine va_get (D := (dC, dI)) (ci := 1) (v := .ref nx) (C := "TextureUnits") (T := TX1) (N := 4) hx hb hts (tw_s inX1) hown hK hP 0 rfl rfl 3 (by decide) (hts _ (tw_c tw_76)) (fun _ h9 => h9) rfl dX1_read_127 ?_
        refine lv_iload hx hb dX1_read_130 (lv_at hl 0 rfl) ?_
        refine va_iald hx hb hK hP 7 1 rfl rfl (tu_in (by decide)) dX1_read_132 ?_
        refine lv_topi (fun x_30 ex_30 => ?_)
        have ex_30 : x_30 = ((tu_smp4 mem sf bd fr fo lw lh ac dn fi ((tu_lev lv p3) + (1 : Int32)) p1 p2 nxt) 1) := ex_30
        subst ex_30
        refine lv_iload hx hb dX1_read_133 (lv_at hl 3 rfl) ?_
        refine lv_ldc (v := 65535) hx hb hown (hts _ (tw_c tw_319)) dX1_read_135 ?_
        refine lv_iand hx hb dX1_read_137 ?_
        refine rd_call (W.runS (As := [.int ((tu_smp4 mem sf bd fr fo lw lh ac dn fi (tu_lev lv p3) p1 p2 lat) 1), .int ((tu_smp4 mem sf bd fr fo lw lh ac dn fi ((tu_lev lv p3) + (1 : Int32)) p1 p2 nxt) 1), .int ((tu_lod lv p3) &&& (65535 : Int32))]) (rest := [.int 1, .ref la]) ⟨hx, hb, hml, hown, hts⟩ (r_mix l ((tu_smp4 mem sf bd fr fo lw lh ac dn fi (tu_lev lv p3) p1 p2 lat) 1) ((tu_smp4 mem sf bd fr fo lw lh ac dn fi ((tu_lev lv p3) + (1 : Int32)) p1 p2 nxt) 1) ((tu_lod lv p3) &&& (65535 : Int32))) (va_cwS 3 hts (tg_S tw_312 tw_313 tw_1 tw_314) rfl rfl rfl (by decide +kernel) ⟨Nat.le_of_ble_eq_true rfl, Nat.le_of_ble_eq_true rfl⟩) preEq rfl rfl hl.1 rfl (lv_room (Nat.le_of_ble_eq_true rfl)) dX1_read_138 ⟨Nat.le_of_ble_eq_true rfl, Nat.le_of_ble_eq_true rfl⟩) ?_
        refine va_iast hx hb hK hP hD hS 6 1 rfl rfl (tu_in (by decide)) dX1_read_141 (fun H locs hP hD hS => ?_)
        have hP : va_P (dC, dI) vwCl [(q, .inr (1, [.ref wd, .ref us, .ref la, .ref nx])), (us, .inl (cU, 4, .inr (.inr (.inr (.inr g))))), (u, .inr (0, [.int fr, .int fo, .int lw, .int lh, .int lv, .int ac, .int dn, .int fi, .ref bc, .ref st])), (wd, .inl (cI, 2048, .inl mem)), (st, .inl (cI, 12, .inl sf)), (bc, .inl (cI, 4, .inl bd)), (la, .inl (cI, 4, .inl (upd (upd (tu_smp4 mem sf bd fr fo lw lh ac dn fi (tu_lev lv p3) p1 p2 lat) 0 (tu_mix ((tu_smp4 mem sf bd fr fo lw lh ac dn fi (tu_lev lv p3) p1 p2 lat) 0) ((tu_smp4 mem sf bd fr fo lw lh ac dn fi ((tu_lev lv p3) + (1 : Int32)) p1 p2 nxt) 0) ((tu_lod lv p3) &&& (65535 : Int32)))) 1 (tu_mix ((tu_smp4 mem sf bd fr fo lw lh ac dn fi (tu_lev lv p3) p1 p2 lat) 1) ((tu_smp4 mem sf bd fr fo lw lh ac dn fi ((tu_lev lv p3) + (1 : Int32)) p1 p2 nxt) 1) ((tu_lod lv p3) &&& (65535 : Int32)))))), (nx, .inl (cI, 4, .inl (tu_smp4 mem sf bd fr fo lw lh ac dn fi ((tu_lev lv p3) + (1 : Int32)) p1 p2 nxt)))] H := hP
        have hD : va_D A [(q, .inr (1, [.ref wd, .ref us, .ref la, .ref nx])), (us, .inl (cU, 4, .inr (.inr (.inr (.inr g))))), (u, .inr (0, [.int fr, .int fo, .int lw, .int lh, .int lv, .int ac, .int dn, .int fi, .ref bc, .ref st])), (wd, .inl (cI, 2048, .inl mem)), (st, .inl (cI, 12, .inl sf)), (bc, .inl (cI, 4, .inl bd)), (la, .inl (cI, 4, .inl (upd (upd (tu_smp4 mem sf bd fr fo lw lh ac dn fi (tu_lev lv p3) p1 p2 lat) 0 (tu_mix ((tu_smp4 mem sf bd fr fo lw lh ac dn fi (tu_lev lv p3) p1 p2 lat) 0) ((tu_smp4 mem sf bd fr fo lw lh ac dn fi ((tu_lev lv p3) + (1 : Int32)) p1 p2 nxt) 0) ((tu_lod lv p3) &&& (65535 : Int32)))) 1 (tu_mix ((tu_smp4 mem sf bd fr fo lw lh ac dn fi (tu_lev lv p3) p1 p2 lat) 1) ((tu_smp4 mem sf bd fr fo lw lh ac dn fi ((tu_lev lv p3) + (1 : Int32)) p1 p2 nxt) 1) ((tu_lod lv p3) &&& (65535 : Int32)))))), (nx, .inl (cI, 4, .inl (tu_smp4 mem sf bd fr fo lw lh ac dn fi ((tu_lev lv p3) + (1 : Int32)) p1 p2 nxt)))] := hD
        refine lv_iinc (v := 2) (lv' := [(9, .int 2), (8, .int 1), (7, .int (tu_lev lv p3)), (6, .int (tu_lod lv p3)), (5, .ref u), (0, .ref q), (1, .int p0), (2, .int p1), (3, .int p2), (4, .int p3)]) hx hb dX1_read_142 hl (k := 0) rfl (by decide) (by decide) rfl (fun ls hl => ?_)
        refine lv_goto (tgt := 107) hx hb dX1_read_145 (by decide) ?_
        refine lv_iload hx hb dX1_read_107 (lv_at hl 0 rfl) ?_
        refine lv_iconst (v := 4) hx hb dX1_read_109 (by decide) ?_
        refine lv_icmp_ge (tgt := 148) hx hb dX1_read_110 (by decide) (fun c_31 => absurd c_31 (by decide)) (fun c_31 => ?_)
        refine lv_aload_n hx hb dX1_read_113 rfl (lv_at hl 5 rfl) ?_
        refine va_get (D := (dC, dI)) (ci := 1) (v := .ref la) (C := "TextureUnits") (T := TX1) (N := 4) hx hb hts (tw_s inX1) hown hK hP 0 rfl rfl 2 (by decide) (hts _ (tw_c tw_75)) (fun _ h9 => h9) rfl dX1_read_114 ?_
        refine lv_iload hx hb dX1_read_117 (lv_at hl 0 rfl) ?_
        refine lv_aload_n hx hb dX1_read_119 rfl (lv_at hl 5 rfl) ?_
        refine va_get (D := (dC, dI)) (ci := 1) (v := .ref la) (C := "TextureUnits") (T := TX1) (N := 4) hx hb hts (tw_s inX1) hown hK hP 0 rfl rfl 2 (by decide) (hts _ (tw_c tw_75)) (fun _ h9 => h9) rfl dX1_read_120 ?_
        refine lv_iload hx hb dX1_read_123 (lv_at hl 0 rfl) ?_
        refine va_iald hx hb hK hP 6 1 rfl rfl (tu_in (by decide)) dX1_read_125 ?_
        refine lv_topi (fun x_32 ex_32 => ?_)
        have ex_32 : x_32 = ((tu_smp4 mem sf bd fr fo lw lh ac dn fi (tu_lev lv p3) p1 p2 lat) 2) := ((ex_32).trans (pk_un (by decide))).trans (pk_un (by decide))
        subst ex_32
        refine lv_aload_n hx hb dX1_read_126 rfl (lv_at hl 5 rfl) ?_
        refine va_get (D := (dC, dI)) (ci := 1) (v := .ref nx) (C := "TextureUnits") (T := TX1) (N := 4) hx hb hts (tw_s inX1) hown hK hP 0 rfl rfl 3 (by decide) (hts _ (tw_c tw_76)) (fun _ h9 => h9) rfl dX1_read_127 ?_
        refine lv_iload hx hb dX1_read_130 (lv_at hl 0 rfl) ?_
        refine va_iald hx hb hK hP 7 1 rfl rfl (tu_in (by decide)) dX1_read_132 ?_
        refine lv_topi (fun x_33 ex_33 => ?_)
        have ex_33 : x_33 = ((tu_smp4 mem sf bd fr fo lw lh ac dn fi ((tu_lev lv p3) + (1 : Int32)) p1 p2 nxt) 2) := ex_33
        subst ex_33
        refine lv_iload hx hb dX1_read_133 (lv_at hl 3 rfl) ?_
        refine lv_ldc (v := 65535) hx hb hown (hts _ (tw_c tw_319)) dX1_read_135 ?_
        refine lv_iand hx hb dX1_read_137 ?_
        refine rd_call (W.runS (As := [.int ((tu_smp4 mem sf bd fr fo lw lh ac dn fi (tu_lev lv p3) p1 p2 lat) 2), .int ((tu_smp4 mem sf bd fr fo lw lh ac dn fi ((tu_lev lv p3) + (1 : Int32)) p1 p2 nxt) 2), .int ((tu_lod lv p3) &&& (65535 : Int32))]) (rest := [.int 2, .ref la]) ⟨hx, hb, hml, hown, hts⟩ (r_mix l ((tu_smp4 mem sf bd fr fo lw lh ac dn fi (tu_lev lv p3) p1 p2 lat) 2) ((tu_smp4 mem sf bd fr fo lw lh ac dn fi ((tu_lev lv p3) + (1 : Int32)) p1 p2 nxt) 2) ((tu_lod lv p3) &&& (65535 : Int32))) (va_cwS 3 hts (tg_S tw_312 tw_313 tw_1 tw_314) rfl rfl rfl (by decide +kernel) ⟨Nat.le_of_ble_eq_true rfl, Nat.le_of_ble_eq_true rfl⟩) preEq rfl rfl hl.1 rfl (lv_room (Nat.le_of_ble_eq_true rfl)) dX1_read_138 ⟨Nat.le_of_ble_eq_true rfl, Nat.le_of_ble_eq_true rfl⟩) ?_
        refine va_iast hx hb hK hP hD hS 6 1 rfl rfl (tu_in (by decide)) dX1_read_141 (fun H locs hP hD hS => ?_)
        have hP : va_P (dC, dI) vwCl [(q, .inr (1, [.ref wd, .ref us, .ref la, .ref nx])), (us, .inl (cU, 4, .inr (.inr (.inr (.inr g))))), (u, .inr (0, [.int fr, .int fo, .int lw, .int lh, .int lv, .int ac, .int dn, .int fi, .ref bc, .ref st])), (wd, .inl (cI, 2048, .inl mem)), (st, .inl (cI, 12, .inl sf)), (bc, .inl (cI, 4, .inl bd)), (la, .inl (cI, 4, .inl (upd (upd (upd (tu_smp4 mem sf bd fr fo lw lh ac dn fi (tu_lev lv p3) p1 p2 lat) 0 (tu_mix ((tu_smp4 mem sf bd fr fo lw lh ac dn fi (tu_lev lv p3) p1 p2 lat) 0) ((tu_smp4 mem sf bd fr fo lw lh ac dn fi ((tu_lev lv p3) + (1 : Int32)) p1 p2 nxt) 0) ((tu_lod lv p3) &&& (65535 : Int32)))) 1 (tu_mix ((tu_smp4 mem sf bd fr fo lw lh ac dn fi (tu_lev lv p3) p1 p2 lat) 1) ((tu_smp4 mem sf bd fr fo lw lh ac dn fi ((tu_lev lv p3) + (1 : Int32)) p1 p2 nxt) 1) ((tu_lod lv p3) &&& (65535 : Int32)))) 2 (tu_mix ((tu_smp4 mem sf bd fr fo lw lh ac dn fi (tu_lev lv p3) p1 p2 lat) 2) ((tu_smp4 mem sf bd fr fo lw lh ac dn fi ((tu_lev lv p3) + (1 : Int32)) p1 p2 nxt) 2) ((tu_lod lv p3) &&& (65535 : Int32)))))), (nx, .inl (cI, 4, .inl (tu_smp4 mem sf bd fr fo lw lh ac dn fi ((tu_lev lv p3) + (1 : Int32)) p1 p2 nxt)))] H := hP
        have hD : va_D A [(q, .inr (1, [.ref wd, .ref us, .ref la, .ref nx])), (us, .inl (cU, 4, .inr (.inr (.inr (.inr g))))), (u, .inr (0, [.int fr, .int fo, .int lw, .int lh, .int lv, .int ac, .int dn, .int fi, .ref bc, .ref st])), (wd, .inl (cI, 2048, .inl mem)), (st, .inl (cI, 12, .inl sf)), (bc, .inl (cI, 4, .inl bd)), (la, .inl (cI, 4, .inl (upd (upd (upd (tu_smp4 mem sf bd fr fo lw lh ac dn fi (tu_lev lv p3) p1 p2 lat) 0 (tu_mix ((tu_smp4 mem sf bd fr fo lw lh ac dn fi (tu_lev lv p3) p1 p2 lat) 0) ((tu_smp4 mem sf bd fr fo lw lh ac dn fi ((tu_lev lv p3) + (1 : Int32)) p1 p2 nxt) 0) ((tu_lod lv p3) &&& (65535 : Int32)))) 1 (tu_mix ((tu_smp4 mem sf bd fr fo lw lh ac dn fi (tu_lev lv p3) p1 p2 lat) 1) ((tu_smp4 mem sf bd fr fo lw lh ac dn fi ((tu_lev lv p3) + (1 : Int32)) p1 p2 nxt) 1) ((tu_lod lv p3) &&& (65535 : Int32)))) 2 (tu_mix ((tu_smp4 mem sf bd fr fo lw lh ac dn fi (tu_lev lv p3) p1 p2 lat) 2) ((tu_smp4 mem sf bd fr fo lw lh ac dn fi ((tu_lev lv p3) + (1 : Int32)) p1 p2 nxt) 2) ((tu_lod lv p3) &&& (65535 : Int32)))))), (nx, .inl (cI, 4, .inl (tu_smp4 mem sf bd fr fo lw lh ac dn fi ((tu_lev lv p3) + (1 : Int32)) p1 p2 nxt)))] := hD
        refine lv_iinc (v := 3) (lv' := [(9, .int 3), (8, .int 1), (7, .int (tu_lev lv p3)), (6, .int (tu_lod lv p3)), (5, .ref u), (0, .ref q), (1, .int p0), (2, .int p1), (3, .int p2), (4, .int p3)]) hx hb dX1_read_142 hl (k := 0) rfl (by decide) (by decide) rfl (fun ls hl => ?_)
        refine lv_goto (tgt := 107) hx hb dX1_read_145 (by decide) ?_
        refine lv_iload hx hb dX1_read_107 (lv_at hl 0 rfl) ?_
        refine lv_iconst (v := 4) hx hb dX1_read_109 (by decide) ?_
        refine lv_icmp_ge (tgt := 148) hx hb dX1_read_110 (by decide) (fun c_34 => absurd c_34 (by decide)) (fun c_34 => ?_)
        refine lv_aload_n hx hb dX1_read_113 rfl (lv_at hl 5 rfl) ?_
        refine va_get (D := (dC, dI)) (ci := 1) (v := .ref la) (C := "TextureUnits") (T := TX1) (N := 4) hx hb hts (tw_s inX1) hown hK hP 0 rfl rfl 2 (by decide) (hts _ (tw_c tw_75)) (fun _ h9 => h9) rfl dX1_read_114 ?_
        refine lv_iload hx hb dX1_read_117 (lv_at hl 0 rfl) ?_
        refine lv_aload_n hx hb dX1_read_119 rfl (lv_at hl 5 rfl) ?_
        refine va_get (D := (dC, dI)) (ci := 1) (v := .ref la) (C := "TextureUnits") (T := TX1) (N := 4) hx hb hts (tw_s inX1) hown hK hP 0 rfl rfl 2 (by decide) (hts _ (tw_c tw_75)) (fun _ h9 => h9) rfl dX1_read_120 ?_
        refine lv_iload hx hb dX1_read_123 (lv_at hl 0 rfl) ?_
        refine va_iald hx hb hK hP 6 1 rfl rfl (tu_in (by decide)) dX1_read_125 ?_
        refine lv_topi (fun x_35 ex_35 => ?_)
        have ex_35 : x_35 = ((tu_smp4 mem sf bd fr fo lw lh ac dn fi (tu_lev lv p3) p1 p2 lat) 3) := (((ex_35).trans (pk_un (by decide))).trans (pk_un (by decide))).trans (pk_un (by decide))
        subst ex_35
        refine lv_aload_n hx hb dX1_read_126 rfl (lv_at hl 5 rfl) ?_
        refine va_get (D := (dC, dI)) (ci := 1) (v := .ref nx) (C := "TextureUnits") (T := TX1) (N := 4) hx hb hts (tw_s inX1) hown hK hP 0 rfl rfl 3 (by decide) (hts _ (tw_c tw_76)) (fun _ h9 => h9) rfl dX1_read_127 ?_
        refine lv_iload hx hb dX1_read_130 (lv_at hl 0 rfl) ?_
        refine va_iald hx hb hK hP 7 1 rfl rfl (tu_in (by decide)) dX1_read_132 ?_
        refine lv_topi (fun x_36 ex_36 => ?_)
        have ex_36 : x_36 = ((tu_smp4 mem sf bd fr fo lw lh ac dn fi ((tu_lev lv p3) + (1 : Int32)) p1 p2 nxt) 3) := ex_36
        subst ex_36
        refine lv_iload hx hb dX1_read_133 (lv_at hl 3 rfl) ?_
        refine lv_ldc (v := 65535) hx hb hown (hts _ (tw_c tw_319)) dX1_read_135 ?_
        refine lv_iand hx hb dX1_read_137 ?_
        refine rd_call (W.runS (As := [.int ((tu_smp4 mem sf bd fr fo lw lh ac dn fi (tu_lev lv p3) p1 p2 lat) 3), .int ((tu_smp4 mem sf bd fr fo lw lh ac dn fi ((tu_lev lv p3) + (1 : Int32)) p1 p2 nxt) 3), .int ((tu_lod lv p3) &&& (65535 : Int32))]) (rest := [.int 3, .ref la]) ⟨hx, hb, hml, hown, hts⟩ (r_mix l ((tu_smp4 mem sf bd fr fo lw lh ac dn fi (tu_lev lv p3) p1 p2 lat) 3) ((tu_smp4 mem sf bd fr fo lw lh ac dn fi ((tu_lev lv p3) + (1 : Int32)) p1 p2 nxt) 3) ((tu_lod lv p3) &&& (65535 : Int32))) (va_cwS 3 hts (tg_S tw_312 tw_313 tw_1 tw_314) rfl rfl rfl (by decide +kernel) ⟨Nat.le_of_ble_eq_true rfl, Nat.le_of_ble_eq_true rfl⟩) preEq rfl rfl hl.1 rfl (lv_room (Nat.le_of_ble_eq_true rfl)) dX1_read_138 ⟨Nat.le_of_ble_eq_true rfl, Nat.le_of_ble_eq_true rfl⟩) ?_
        refine va_iast hx hb hK hP hD hS 6 1 rfl rfl (tu_in (by decide)) dX1_read_141 (fun H locs hP hD hS => ?_)
        have hP : va_P (dC, dI) vwCl [(q, .inr (1, [.ref wd, .ref us, .ref la, .ref nx])), (us, .inl (cU, 4, .inr (.inr (.inr (.inr g))))), (u, .inr (0, [.int fr, .int fo, .int lw, .int lh, .int lv, .int ac, .int dn, .int fi, .ref bc, .ref st])), (wd, .inl (cI, 2048, .inl mem)), (st, .inl (cI, 12, .inl sf)), (bc, .inl (cI, 4, .inl bd)), (la, .inl (cI, 4, .inl (upd (upd (upd (upd (tu_smp4 mem sf bd fr fo lw lh ac dn fi (tu_lev lv p3) p1 p2 lat) 0 (tu_mix ((tu_smp4 mem sf bd fr fo lw lh ac dn fi (tu_lev lv p3) p1 p2 lat) 0) ((tu_smp4 mem sf bd fr fo lw lh ac dn fi ((tu_lev lv p3) + (1 : Int32)) p1 p2 nxt) 0) ((tu_lod lv p3) &&& (65535 : Int32)))) 1 (tu_mix ((tu_smp4 mem sf bd fr fo lw lh ac dn fi (tu_lev lv p3) p1 p2 lat) 1) ((tu_smp4 mem sf bd fr fo lw lh ac dn fi ((tu_lev lv p3) + (1 : Int32)) p1 p2 nxt) 1) ((tu_lod lv p3) &&& (65535 : Int32)))) 2 (tu_mix ((tu_smp4 mem sf bd fr fo lw lh ac dn fi (tu_lev lv p3) p1 p2 lat) 2) ((tu_smp4 mem sf bd fr fo lw lh ac dn fi ((tu_lev lv p3) + (1 : Int32)) p1 p2 nxt) 2) ((tu_lod lv p3) &&& (65535 : Int32)))) 3 (tu_mix ((tu_smp4 mem sf bd fr fo lw lh ac dn fi (tu_lev lv p3) p1 p2 lat) 3) ((tu_smp4 mem sf bd fr fo lw lh ac dn fi ((tu_lev lv p3) + (1 : Int32)) p1 p2 nxt) 3) ((tu_lod lv p3) &&& (65535 : Int32)))))), (nx, .inl (cI, 4, .inl (tu_smp4 mem sf bd fr fo lw lh ac dn fi ((tu_lev lv p3) + (1 : Int32)) p1 p2 nxt)))] H := hP
        have hD : va_D A [(q, .inr (1, [.ref wd, .ref us, .ref la, .ref nx])), (us, .inl (cU, 4, .inr (.inr (.inr (.inr g))))), (u, .inr (0, [.int fr, .int fo, .int lw, .int lh, .int lv, .int ac, .int dn, .int fi, .ref bc, .ref st])), (wd, .inl (cI, 2048, .inl mem)), (st, .inl (cI, 12, .inl sf)), (bc, .inl (cI, 4, .inl bd)), (la, .inl (cI, 4, .inl (upd (upd (upd (upd (tu_smp4 mem sf bd fr fo lw lh ac dn fi (tu_lev lv p3) p1 p2 lat) 0 (tu_mix ((tu_smp4 mem sf bd fr fo lw lh ac dn fi (tu_lev lv p3) p1 p2 lat) 0) ((tu_smp4 mem sf bd fr fo lw lh ac dn fi ((tu_lev lv p3) + (1 : Int32)) p1 p2 nxt) 0) ((tu_lod lv p3) &&& (65535 : Int32)))) 1 (tu_mix ((tu_smp4 mem sf bd fr fo lw lh ac dn fi (tu_lev lv p3) p1 p2 lat) 1) ((tu_smp4 mem sf bd fr fo lw lh ac dn fi ((tu_lev lv p3) + (1 : Int32)) p1 p2 nxt) 1) ((tu_lod lv p3) &&& (65535 : Int32)))) 2 (tu_mix ((tu_smp4 mem sf bd fr fo lw lh ac dn fi (tu_lev lv p3) p1 p2 lat) 2) ((tu_smp4 mem sf bd fr fo lw lh ac dn fi ((tu_lev lv p3) + (1 : Int32)) p1 p2 nxt) 2) ((tu_lod lv p3) &&& (65535 : Int32)))) 3 (tu_mix ((tu_smp4 mem sf bd fr fo lw lh ac dn fi (tu_lev lv p3) p1 p2 lat) 3) ((tu_smp4 mem sf bd fr fo lw lh ac dn fi ((tu_lev lv p3) + (1 : Int32)) p1 p2 nxt) 3) ((tu_lod lv p3) &&& (65535 : Int32)))))), (nx, .inl (cI, 4, .inl (tu_smp4 mem sf bd fr fo lw lh ac dn fi ((tu_lev lv p3) + (1 : Int32)) p1 p2 nxt)))] := hD
        refine lv_iinc (v := 4) (lv' := [(9, .int 4), (8, .int 1), (7, .int (tu_lev lv p3)), (6, .int (tu_lod lv p3)), (5, .ref u), (0, .ref q), (1, .int p0), (2, .int p1), (3, .int p2), (4, .int p3)]) hx hb dX1_read_142 hl (k := 0) rfl (by decide) (by decide) rfl (fun ls hl => ?_)
        refine lv_goto (tgt := 107) hx hb dX1_read_145 (by decide) ?_
        refine lv_iload hx hb dX1_read_107 (lv_at hl 0 rfl) ?_
        refine lv_iconst (v := 4) hx hb dX1_read_109 (by decide) ?_
        refine lv_icmp_ge (tgt := 148) hx hb dX1_read_110 (by decide) (fun c_37 => ?_) (fun c_37 => absurd (by decide) c_37)
        have hP : va_P (dC, dI) vwCl [(q, .inr (1, [.ref wd, .ref us, .ref la, .ref nx])), (us, .inl (cU, 4, .inr (.inr (.inr (.inr g))))), (u, .inr (0, [.int fr, .int fo, .int lw, .int lh, .int lv, .int ac, .int dn, .int fi, .ref bc, .ref st])), (wd, .inl (cI, 2048, .inl mem)), (st, .inl (cI, 12, .inl sf)), (bc, .inl (cI, 4, .inl bd)), (la, .inl (cI, 4, .inl (tu_rd mem sf bd fr fo lw lh lv ac dn fi p1 p2 p3 lat nxt))), (nx, .inl (cI, 4, .inl (tu_rn mem sf bd fr fo lw lh lv ac dn fi p1 p2 p3 nxt)))] H := by rw [tu_rd_a (Or.inr c_19) c_23, tu_rn_a (Or.inr c_19) c_23]; exact hP
        have hD : va_D A [(q, .inr (1, [.ref wd, .ref us, .ref la, .ref nx])), (us, .inl (cU, 4, .inr (.inr (.inr (.inr g))))), (u, .inr (0, [.int fr, .int fo, .int lw, .int lh, .int lv, .int ac, .int dn, .int fi, .ref bc, .ref st])), (wd, .inl (cI, 2048, .inl mem)), (st, .inl (cI, 12, .inl sf)), (bc, .inl (cI, 4, .inl bd)), (la, .inl (cI, 4, .inl (tu_rd mem sf bd fr fo lw lh lv ac dn fi p1 p2 p3 lat nxt))), (nx, .inl (cI, 4, .inl (tu_rn mem sf bd fr fo lw lh lv ac dn fi p1 p2 p3 nxt)))] := by rw [tu_rd_a (Or.inr c_19) c_23, tu_rn_a (Or.inr c_19) c_23]; exact hD
        refine lv_aload_n hx hb dX1_read_148 rfl (lv_at hl 5 rfl) ?_
        refine va_get (D := (dC, dI)) (ci := 1) (v := .ref la) (C := "TextureUnits") (T := TX1) (N := 4) hx hb hts (tw_s inX1) hown hK hP 0 rfl rfl 2 (by decide) (hts _ (tw_c tw_75)) (fun _ h9 => h9) rfl dX1_read_149 ?_
        refine lv_iconst (v := 0) hx hb dX1_read_152 (by decide) ?_
        refine va_iald hx hb hK hP 6 1 rfl rfl (tu_in (by decide)) dX1_read_153 ?_
        refine lv_topi (fun x_38 ex_38 => ?_)
        have ex_38 : x_38 = ((tu_rd mem sf bd fr fo lw lh lv ac dn fi p1 p2 p3 lat nxt) 0) := ex_38
        subst ex_38
        have hP9 : va_P (dC, dI) vwCl [(q, .inr (1, [.ref wd, .ref us, .ref la, .ref nx])), (us, .inl (cU, 4, .inr (.inr (.inr (.inr g))))), (u, .inr (0, [.int fr, .int fo, .int lw, .int lh, .int lv, .int ac, .int dn, .int fi, .ref bc, .ref st])), (wd, .inl (cI, 2048, .inl mem)), (st, .inl (cI, 12, .inl sf)), (bc, .inl (cI, 4, .inl bd)), (la, .inl (cI, 4, .inl (tu_rd mem sf bd fr fo lw lh lv ac dn fi p1 p2 p3 lat nxt))), (nx, .inl (cI, 4, .inl (tu_rn mem sf bd fr fo lw lh lv ac dn fi p1 p2 p3 nxt)))] H := hP.sub [0, 1, 2, 3, 4, 5, 6, 7] rfl
        have hD9 : va_D A [(q, .inr (1, [.ref wd, .ref us, .ref la, .ref nx])), (us, .inl (cU, 4, .inr (.inr (.inr (.inr g))))), (u, .inr (0, [.int fr, .int fo, .int lw, .int lh, .int lv, .int ac, .int dn, .int fi, .ref bc, .ref st])), (wd, .inl (cI, 2048, .inl mem)), (st, .inl (cI, 12, .inl sf)), (bc, .inl (cI, 4, .inl bd)), (la, .inl (cI, 4, .inl (tu_rd mem sf bd fr fo lw lh lv ac dn fi p1 p2 p3 lat nxt))), (nx, .inl (cI, 4, .inl (tu_rn mem sf bd fr fo lw lh lv ac dn fi p1 p2 p3 nxt)))] := hD.sub [0, 1, 2, 3, 4, 5, 6, 7] (by decide) rfl
        have hK9 : va_K (dC, dI) vwCl [(cU, .object "TextureUnits$Unit"), (cI, .int)] s := hK.sub [0, 1] rfl
        exact W.iret (v := ((tu_rd mem sf bd fr fo lw lh lv ac dn fi p1 p2 p3 lat nxt) 0)) hx hb hr (fun t ht hW => ⟨⟨((tu_rd mem sf bd fr fo lw lh lv ac dn fi p1 p2 p3 lat nxt) 0), (), rfl, rfl, by rw [ht]; exact hP9, va_K.moved hW.alike hK9, hD9⟩, hS.F ht⟩) hS.2.2 dX1_read_154
end
section
/-! what the reference's small methods answer, as the bytecode has it -/
theorem tu_loop1 {W9 : Array Slot → Prop} (I : Nat → Array Slot → Prop) (N : Nat) (hend : ∀ ls, I N ls → W9 ls)
    (hstep : ∀ k ls, k < N → I k ls → (∀ ls, I (k + 1) ls → W9 ls) → W9 ls) : ∀ ls, I 0 ls → W9 ls := by
  have key : ∀ (n k : Nat), k + n = N → ∀ ls, I k ls → W9 ls := by
    intro n
    induction n with
    | zero =>
      intro k hk ls h
      have : k = N := by omega
      subst this
      exact hend ls h
    | succ n ih =>
      intro k hk ls h
      exact hstep k ls (by omega) h (ih (k + 1) (by omega))
  exact key N 0 (by omega)
def md_e (g k : Int32) : Int32 := if 0 ≤ g - k then g - k else 0
def md_len (g k : Int32) : Int32 := 1 <<< (md_e g k &&& 31)
def md_ah (a b : Int32) : Nat → Int32
  | 0 => 0
  | n + 1 => md_ah a b n + md_len a (nI n) * md_len b (nI n)
def md_m (i n way : Int32) : Int32 := if way = 2 then 2 * n else n
def md_j (i m : Int32) : Int32 := (i - i / m * m + m) - (i - i / m * m + m) / m * m
def md_wrap (i n way : Int32) : Int32 :=
  if way = 0 then md_j i (md_m i n way) else if way = 1 then (if 0 ≤ i then (if i < n then i else n - 1) else 0)
  else if way = 2 then (if n ≤ md_j i (md_m i n way) then 2 * n - 1 - md_j i (md_m i n way) else md_j i (md_m i n way))
  else if i < 0 then -1 else if n ≤ i then -1 else i
def md_bit (mem : Nat → Int32) (a n : Nat) : Int32 := if a + n / 32 < 2048 then (mem (a + n / 32) >>> (nI (n % 32) &&& 31)) &&& 1 else 0
theorem md_w {a n : Nat} (ha : a < 2 ^ 31) (hn : n < 2 ^ 40) : (nI a).toInt64 + lN n / 32 = lN (a + n / 32) := by
  rw [nI_l ha, show (32 : Int64) = lN 32 from rfl, pk_lDiv (by omega) (by decide) (by decide), lN_add]
theorem md_r {n : Nat} (hn : n < 2 ^ 40) : (lN n - lN n / 32 * 32).toInt32 = nI (n % 32) := by
  rw [show (32 : Int64) = lN 32 from rfl, pk_lRem (by omega) (by decide) (by decide), lN_i]
theorem md_c {w : Nat} (hw : w < 2 ^ 41) : (0 ≤ lg_cmp (lN w) 2048) ↔ 2048 ≤ w := by
  rw [lg_cmp_ge, show (2048 : Int64) = lN 2048 from rfl, pk_lLE (by decide) (by omega)]
/-- the bits of a channel, the highest first: j of sz are in -/
def md_v (mem : Nat → Int32) (a base sz : Nat) : Nat → Int32
  | 0 => 0
  | j + 1 => 2 * md_v mem a base sz j + md_bit mem a (base + (sz - 1 - j))
end
section
theorem tw_3 : (Cond.initialized "TextureUnitsModel") ∈ TW := tw_t1 3 (by decide +kernel) (by decide +kernel)
theorem tw_333 : (Cond.fieldLink "TextureUnitsModel" 40 "TextureUnitsModel" "thrown" "I") ∈ TW := tw_t2 93 (by decide +kernel) (by decide +kernel)
theorem tw_334 : (Cond.fieldLink "TextureUnitsModel" 7 "TextureUnitsModel" "memory" "[I") ∈ TW := tw_t2 94 (by decide +kernel) (by decide +kernel)
theorem tw_335 : (Cond.fieldLink "TextureUnitsModel" 13 "TextureUnitsModel" "units" "[I") ∈ TW := tw_t2 95 (by decide +kernel) (by decide +kernel)
theorem tw_398 : (Cond.methodLink "TextureUnitsModel" 56 ⟨"TextureUnitsModel", "wide", "(II)I"⟩) ∈ TW := tw_t2 158 (by decide +kernel) (by decide +kernel)
theorem tw_400 : (Cond.instanceMethod ⟨"TextureUnitsModel", "wide", "(II)I"⟩) ∈ TW := tw_t2 160 (by decide +kernel) (by decide +kernel)
theorem tw_401 : (Cond.code ⟨"TextureUnitsModel", "wide", "(II)I"⟩ prog_4_method_10_code 3 (.some .int)) ∈ TW := tw_t2 161 (by decide +kernel) (by decide +kernel)
theorem tw_402 : (Cond.methodLink "TextureUnitsModel" 52 ⟨"TextureUnitsModel", "exponent", "(III)I"⟩) ∈ TW := tw_t2 162 (by decide +kernel) (by decide +kernel)
theorem tw_404 : (Cond.instanceMethod ⟨"TextureUnitsModel", "exponent", "(III)I"⟩) ∈ TW := tw_t2 164 (by decide +kernel) (by decide +kernel)
theorem tw_405 : (Cond.code ⟨"TextureUnitsModel", "exponent", "(III)I"⟩ prog_4_method_9_code 5 (.some .int)) ∈ TW := tw_t2 165 (by decide +kernel) (by decide +kernel)
theorem tw_406 : (Cond.methodLink "TextureUnitsModel" 60 ⟨"TextureUnitsModel", "high", "(II)I"⟩) ∈ TW := tw_t2 166 (by decide +kernel) (by decide +kernel)
theorem tw_408 : (Cond.instanceMethod ⟨"TextureUnitsModel", "high", "(II)I"⟩) ∈ TW := tw_t2 168 (by decide +kernel) (by decide +kernel)
theorem tw_409 : (Cond.code ⟨"TextureUnitsModel", "high", "(II)I"⟩ prog_4_method_11_code 3 (.some .int)) ∈ TW := tw_t2 169 (by decide +kernel) (by decide +kernel)
theorem tw_430 : (Cond.constantLong "TextureUnitsModel" 67 (32 : Int64)) ∈ TW := tw_t2 190 (by decide +kernel) (by decide +kernel)
theorem tw_431 : (Cond.constantLong "TextureUnitsModel" 69 (2048 : Int64)) ∈ TW := tw_t2 191 (by decide +kernel) (by decide +kernel)
theorem tw_p10 : (Cond.selects "TextureUnitsModel" ⟨"TextureUnitsModel", "exponent", "(III)I"⟩ ⟨"TextureUnitsModel", "exponent", "(III)I"⟩) ∈ TW := tw_t0 10 (by decide +kernel) (by decide +kernel)
theorem tw_p11 : (Cond.selects "TextureUnitsModel" ⟨"TextureUnitsModel", "high", "(II)I"⟩ ⟨"TextureUnitsModel", "high", "(II)I"⟩) ∈ TW := tw_t0 11 (by decide +kernel) (by decide +kernel)
theorem tw_p9 : (Cond.selects "TextureUnitsModel" ⟨"TextureUnitsModel", "wide", "(II)I"⟩ ⟨"TextureUnitsModel", "wide", "(II)I"⟩) ∈ TW := tw_t0 9 (by decide +kernel) (by decide +kernel)
set_option maxHeartbeats 4000000 in
set_option maxRecDepth 100000 in
theorem m_in (l : Launch) (p0 : Int32) (p1 : Int32) (p2 : Int32) : Met l yX2_in wsX2_in ({ frames := 0, cells := 0, slots := 0, locals := 0 }) (fun v _ => v = ([.int p0, .int p1, .int p2] : List Value).toArray) (QcRead (tu_win p0 p1 p2)) 0 0 (fun _ => False) := by
  refine Met.ofW (cc := cX2_in) (maxL := 3) (ret := some .boolean) (by decide) rfl ?_
  intro p e s m args below meth c s₁ B hml hv
  subst hv
  have hx := B.exec
  have hb := B.bytes
  have hr := B.returns
  have hts := atoms_spec (ws := wsX2_in) B.pre
  have hown : s.vm.findClass "TextureUnitsModel" = some m.cls := findClass_of_methodNamed B.named
  have hlocks := B.notSynchronized
  have hl := lv_entry ([.int p0, .int p1, .int p2]) (n := 3) (Nat.le_of_ble_eq_true rfl)
  rw [lg_entry_eq]
  generalize (lg_sl ([.int p0, .int p1, .int p2]) ++ List.replicate (3 - (lg_sl ([.int p0, .int p1, .int p2])).length) Slot.unset).toArray = ls at hl ⊢
  have hl : lv_has ls 3 [(0, .int p0), (1, .int p1), (2, .int p2)] := hl
  refine lv_iload_n hx hb dX2_in_0 rfl (lv_at hl 0 rfl) ?_
  refine lv_iload_n hx hb dX2_in_1 rfl (lv_at hl 1 rfl) ?_
  refine lv_icmp_lt (tgt := 14) hx hb dX2_in_2 (by decide) (fun c_1 => ?_) (fun c_1 => ?_)
  · refine lv_iconst (v := 0) hx hb dX2_in_14 (by decide) ?_
    exact W.zret (ty := .boolean) (v := 0) hx hb hr rfl (fun t ht hW => rd_q (by simp only [tu_win, if_pos c_1]) ht) (fun q h => by cases h) dX2_in_15
  · refine lv_iload_n hx hb dX2_in_5 rfl (lv_at hl 0 rfl) ?_
    refine lv_iload_n hx hb dX2_in_6 rfl (lv_at hl 2 rfl) ?_
    refine lv_icmp_gt (tgt := 14) hx hb dX2_in_7 (by decide) (fun c_2 => ?_) (fun c_2 => ?_)
    · refine lv_iconst (v := 0) hx hb dX2_in_14 (by decide) ?_
      exact W.zret (ty := .boolean) (v := 0) hx hb hr rfl (fun t ht hW => rd_q (by simp only [tu_win, if_neg c_1, if_pos c_2]) ht) (fun q h => by cases h) dX2_in_15
    · refine lv_iconst (v := 1) hx hb dX2_in_10 (by decide) ?_
      refine lv_goto (tgt := 15) hx hb dX2_in_11 (by decide) ?_
      exact W.zret (ty := .boolean) (v := 1) hx hb hr rfl (fun t ht hW => rd_q (by simp only [tu_win, if_neg c_1, if_neg c_2]) ht) (fun q h => by cases h) dX2_in_15
set_option maxHeartbeats 4000000 in
set_option maxRecDepth 100000 in
theorem m_mix (l : Launch) (p0 : Int32) (p1 : Int32) (p2 : Int32) : Met l yX2_mix wsX2_mix ({ frames := 0, cells := 0, slots := 0, locals := 0 }) (fun v _ => v = ([.int p0, .int p1, .int p2] : List Value).toArray) (QcRead (tu_mix p0 p1 p2)) 0 0 (fun _ => False) := by
  refine Met.ofW (cc := cX2_mix) (maxL := 3) (ret := some .int) (by decide) rfl ?_
  intro p e s m args below meth c s₁ B hml hv
  subst hv
  have hx := B.exec
  have hb := B.bytes
  have hr := B.returns
  have hts := atoms_spec (ws := wsX2_mix) B.pre
  have hown : s.vm.findClass "TextureUnitsModel" = some m.cls := findClass_of_methodNamed B.named
  have hlocks := B.notSynchronized
  have hl := lv_entry ([.int p0, .int p1, .int p2]) (n := 3) (Nat.le_of_ble_eq_true rfl)
  rw [lg_entry_eq]
  generalize (lg_sl ([.int p0, .int p1, .int p2]) ++ List.replicate (3 - (lg_sl ([.int p0, .int p1, .int p2])).length) Slot.unset).toArray = ls at hl ⊢
  have hl : lv_has ls 3 [(0, .int p0), (1, .int p1), (2, .int p2)] := hl
  refine lv_iload_n hx hb dX2_mix_0 rfl (lv_at hl 0 rfl) ?_
  refine lv_i2l hx hb dX2_mix_1 rfl ?_
  refine lv_iload_n hx hb dX2_mix_2 rfl (lv_at hl 1 rfl) ?_
  refine lv_i2l hx hb dX2_mix_3 rfl ?_
  refine lv_iload_n hx hb dX2_mix_4 rfl (lv_at hl 0 rfl) ?_
  refine lv_i2l hx hb dX2_mix_5 rfl ?_
  refine lv_lsub hx hb dX2_mix_6 ?_
  refine lv_iload_n hx hb dX2_mix_7 rfl (lv_at hl 2 rfl) ?_
  refine lv_i2l hx hb dX2_mix_8 rfl ?_
  refine lv_lmul hx hb dX2_mix_9 ?_
  refine lv_bipush (v := 16) hx hb dX2_mix_10 (by decide) ?_
  refine lv_lshr hx hb dX2_mix_12 rfl ?_
  refine lv_ladd hx hb dX2_mix_13 ?_
  refine lv_l2i hx hb dX2_mix_14 rfl ?_
  exact W.iret (v := ((((p0 : Int32).toInt64) + (((((p1 : Int32).toInt64) - ((p0 : Int32).toInt64)) * ((p2 : Int32).toInt64)) >>> ((16 : Int32).toInt64 &&& 63))) : Int64).toInt32) hx hb hr (fun t ht hW => rd_q (by simp only [tu_mix]) ht) (fun q h => by cases h) dX2_mix_15
set_option maxHeartbeats 4000000 in
set_option maxRecDepth 100000 in
theorem m_wrap (l : Launch) (p0 : Int32) (p1 : Int32) (p2 : Int32) (h0 : ¬ md_m p0 p1 p2 = 0) : Met l yX2_wrap wsX2_wrap ({ frames := 0, cells := 0, slots := 0, locals := 0 }) (fun v _ => v = ([.int p0, .int p1, .int p2] : List Value).toArray) (QcRead (md_wrap p0 p1 p2)) 0 0 (fun _ => False) := by
  refine Met.ofW (cc := cX2_wrap) (maxL := 5) (ret := some .int) (by decide) rfl ?_
  intro p e s m args below meth c s₁ B hml hv
  subst hv
  have hx := B.exec
  have hb := B.bytes
  have hr := B.returns
  have hts := atoms_spec (ws := wsX2_wrap) B.pre
  have hown : s.vm.findClass "TextureUnitsModel" = some m.cls := findClass_of_methodNamed B.named
  have hlocks := B.notSynchronized
  have hl := lv_entry ([.int p0, .int p1, .int p2]) (n := 5) (Nat.le_of_ble_eq_true rfl)
  rw [lg_entry_eq]
  generalize (lg_sl ([.int p0, .int p1, .int p2]) ++ List.replicate (5 - (lg_sl ([.int p0, .int p1, .int p2])).length) Slot.unset).toArray = ls at hl ⊢
  have hl : lv_has ls 5 [(0, .int p0), (1, .int p1), (2, .int p2)] := hl
  refine lv_iload_n hx hb dX2_wrap_0 rfl (lv_at hl 2 rfl) ?_
  refine lv_iconst (v := 2) hx hb dX2_wrap_1 (by decide) ?_
  refine lv_icmp_ne (tgt := 11) hx hb dX2_wrap_2 (by decide) (fun c_1 => ?_) (fun c_1 => ?_)
  · refine lv_iload_n hx hb dX2_wrap_11 rfl (lv_at hl 1 rfl) ?_
    refine W.eq (g2 := F0 m 12 ls [.int (md_m p0 p1 p2)]) (by unfold md_m; rw [if_neg c_1]) ?_
    refine lv_istore_n (lv' := [(3, .int (md_m p0 p1 p2)), (0, .int p0), (1, .int p1), (2, .int p2)]) hx hb dX2_wrap_12 rfl hl (by decide) rfl (fun ls hl => ?_)
    refine lv_iload_n hx hb dX2_wrap_13 rfl (lv_at hl 1 rfl) ?_
    refine lv_iload_n hx hb dX2_wrap_14 rfl (lv_at hl 0 rfl) ?_
    refine lv_irem hx hb dX2_wrap_15 h0 ?_
    refine lv_iload_n hx hb dX2_wrap_16 rfl (lv_at hl 0 rfl) ?_
    refine lv_iadd hx hb dX2_wrap_17 ?_
    refine lv_iload_n hx hb dX2_wrap_18 rfl (lv_at hl 0 rfl) ?_
    refine lv_irem hx hb dX2_wrap_19 h0 ?_
    refine W.eq (g2 := F0 m 20 ls [.int (md_j p0 (md_m p0 p1 p2))]) rfl ?_
    refine lv_istore (lv' := [(4, .int (md_j p0 (md_m p0 p1 p2))), (3, .int (md_m p0 p1 p2)), (0, .int p0), (1, .int p1), (2, .int p2)]) hx hb dX2_wrap_20 hl (by decide) rfl (fun ls hl => ?_)
    refine lv_iload_n hx hb dX2_wrap_22 rfl (lv_at hl 4 rfl) ?_
    by_cases d_1 : p2 = 0
    · refine lv_tableIn (off := 25) (tgt := 48) hx hb dX2_wrap_23 (by rw [d_1]; decide) (by rw [d_1]; decide) (by rw [d_1]; rfl) (by decide) ?_
      refine lv_iload hx hb dX2_wrap_48 (lv_at hl 0 rfl) ?_
      exact W.iret (v := (md_j p0 (md_m p0 p1 p2))) hx hb hr (fun t ht hW => rd_q (by simp only [md_wrap, if_pos d_1]) ht) (fun q h => by cases h) dX2_wrap_50
    by_cases d_2 : p2 = 1
    · refine lv_tableIn (off := 28) (tgt := 51) hx hb dX2_wrap_23 (by rw [d_2]; decide) (by rw [d_2]; decide) (by rw [d_2]; rfl) (by decide) ?_
      refine lv_iload_n hx hb dX2_wrap_51 rfl (lv_at hl 2 rfl) ?_
      refine lv_if_ge (tgt := 59) hx hb dX2_wrap_52 (by decide) (fun c_2 => ?_) (fun c_2 => ?_)
      · refine lv_iload_n hx hb dX2_wrap_59 rfl (lv_at hl 2 rfl) ?_
        refine lv_iload_n hx hb dX2_wrap_60 rfl (lv_at hl 3 rfl) ?_
        refine lv_icmp_lt (tgt := 70) hx hb dX2_wrap_61 (by decide) (fun c_3 => ?_) (fun c_3 => ?_)
        · refine lv_iload_n hx hb dX2_wrap_70 rfl (lv_at hl 2 rfl) ?_
          exact W.iret (v := p0) hx hb hr (fun t ht hW => rd_q (by simp only [md_wrap, if_neg d_1, if_pos d_2, if_pos c_2, if_pos c_3]) ht) (fun q h => by cases h) dX2_wrap_71
        · refine lv_iload_n hx hb dX2_wrap_64 rfl (lv_at hl 3 rfl) ?_
          refine lv_iconst (v := 1) hx hb dX2_wrap_65 (by decide) ?_
          refine lv_isub hx hb dX2_wrap_66 ?_
          refine lv_goto (tgt := 71) hx hb dX2_wrap_67 (by decide) ?_
          exact W.iret (v := (p1 - (1 : Int32))) hx hb hr (fun t ht hW => rd_q (by simp only [md_wrap, if_neg d_1, if_pos d_2, if_pos c_2, if_neg c_3]) ht) (fun q h => by cases h) dX2_wrap_71
      · refine lv_iconst (v := 0) hx hb dX2_wrap_55 (by decide) ?_
        refine lv_goto (tgt := 71) hx hb dX2_wrap_56 (by decide) ?_
        exact W.iret (v := 0) hx hb hr (fun t ht hW => rd_q (by simp only [md_wrap, if_neg d_1, if_pos d_2, if_neg c_2]) ht) (fun q h => by cases h) dX2_wrap_71
    by_cases d_3 : p2 = 2
    · refine lv_tableIn (off := 49) (tgt := 72) hx hb dX2_wrap_23 (by rw [d_3]; decide) (by rw [d_3]; decide) (by rw [d_3]; rfl) (by decide) ?_
      refine lv_iload hx hb dX2_wrap_72 (lv_at hl 0 rfl) ?_
      refine lv_iload_n hx hb dX2_wrap_74 rfl (lv_at hl 3 rfl) ?_
      refine lv_icmp_ge (tgt := 83) hx hb dX2_wrap_75 (by decide) (fun c_2 => ?_) (fun c_2 => ?_)
      · refine lv_iconst (v := 2) hx hb dX2_wrap_83 (by decide) ?_
        refine lv_iload_n hx hb dX2_wrap_84 rfl (lv_at hl 3 rfl) ?_
        refine lv_imul hx hb dX2_wrap_85 ?_
        refine lv_iconst (v := 1) hx hb dX2_wrap_86 (by decide) ?_
        refine lv_isub hx hb dX2_wrap_87 ?_
        refine lv_iload hx hb dX2_wrap_88 (lv_at hl 0 rfl) ?_
        refine lv_isub hx hb dX2_wrap_90 ?_
        exact W.iret (v := ((((2 : Int32) * p1) - (1 : Int32)) - (md_j p0 (md_m p0 p1 p2)))) hx hb hr (fun t ht hW => rd_q (by simp only [md_wrap, if_neg d_1, if_neg d_2, if_pos d_3, if_pos c_2]) ht) (fun q h => by cases h) dX2_wrap_91
      · refine lv_iload hx hb dX2_wrap_78 (lv_at hl 0 rfl) ?_
        refine lv_goto (tgt := 91) hx hb dX2_wrap_80 (by decide) ?_
        exact W.iret (v := (md_j p0 (md_m p0 p1 p2))) hx hb hr (fun t ht hW => rd_q (by simp only [md_wrap, if_neg d_1, if_neg d_2, if_pos d_3, if_neg c_2]) ht) (fun q h => by cases h) dX2_wrap_91
    have a0 : p2.toInt ≠ 0 := tu_ne d_1
    have a1 : p2.toInt ≠ 1 := tu_ne d_2
    have a2 : p2.toInt ≠ 2 := tu_ne d_3
    refine lv_tableOut (tgt := 92) hx hb dX2_wrap_23 (by omega) (by decide) ?_
    refine lv_iload_n hx hb dX2_wrap_92 rfl (lv_at hl 2 rfl) ?_
    refine lv_if_lt (tgt := 105) hx hb dX2_wrap_93 (by decide) (fun c_2 => ?_) (fun c_2 => ?_)
    · refine lv_iconst (v := (-1)) hx hb dX2_wrap_105 (by decide) ?_
      exact W.iret (v := (-1)) hx hb hr (fun t ht hW => rd_q (by simp only [md_wrap, if_neg d_1, if_neg d_2, if_neg d_3, if_pos c_2]) ht) (fun q h => by cases h) dX2_wrap_106
    · refine lv_iload_n hx hb dX2_wrap_96 rfl (lv_at hl 2 rfl) ?_
      refine lv_iload_n hx hb dX2_wrap_97 rfl (lv_at hl 3 rfl) ?_
      refine lv_icmp_ge (tgt := 105) hx hb dX2_wrap_98 (by decide) (fun c_3 => ?_) (fun c_3 => ?_)
      · refine lv_iconst (v := (-1)) hx hb dX2_wrap_105 (by decide) ?_
        exact W.iret (v := (-1)) hx hb hr (fun t ht hW => rd_q (by simp only [md_wrap, if_neg d_1, if_neg d_2, if_neg d_3, if_neg c_2, if_pos c_3]) ht) (fun q h => by cases h) dX2_wrap_106
      · refine lv_iload_n hx hb dX2_wrap_101 rfl (lv_at hl 2 rfl) ?_
        refine lv_goto (tgt := 106) hx hb dX2_wrap_102 (by decide) ?_
        exact W.iret (v := p0) hx hb hr (fun t ht hW => rd_q (by simp only [md_wrap, if_neg d_1, if_neg d_2, if_neg d_3, if_neg c_2, if_neg c_3]) ht) (fun q h => by cases h) dX2_wrap_106
  · refine lv_iconst (v := 2) hx hb dX2_wrap_5 (by decide) ?_
    refine lv_iload_n hx hb dX2_wrap_6 rfl (lv_at hl 1 rfl) ?_
    refine lv_imul hx hb dX2_wrap_7 ?_
    refine lv_goto (tgt := 12) hx hb dX2_wrap_8 (by decide) ?_
    refine W.eq (g2 := F0 m 12 ls [.int (md_m p0 p1 p2)]) (by unfold md_m; rw [if_pos c_1]) ?_
    refine lv_istore_n (lv' := [(3, .int (md_m p0 p1 p2)), (0, .int p0), (1, .int p1), (2, .int p2)]) hx hb dX2_wrap_12 rfl hl (by decide) rfl (fun ls hl => ?_)
    refine lv_iload_n hx hb dX2_wrap_13 rfl (lv_at hl 1 rfl) ?_
    refine lv_iload_n hx hb dX2_wrap_14 rfl (lv_at hl 0 rfl) ?_
    refine lv_irem hx hb dX2_wrap_15 h0 ?_
    refine lv_iload_n hx hb dX2_wrap_16 rfl (lv_at hl 0 rfl) ?_
    refine lv_iadd hx hb dX2_wrap_17 ?_
    refine lv_iload_n hx hb dX2_wrap_18 rfl (lv_at hl 0 rfl) ?_
    refine lv_irem hx hb dX2_wrap_19 h0 ?_
    refine W.eq (g2 := F0 m 20 ls [.int (md_j p0 (md_m p0 p1 p2))]) rfl ?_
    refine lv_istore (lv' := [(4, .int (md_j p0 (md_m p0 p1 p2))), (3, .int (md_m p0 p1 p2)), (0, .int p0), (1, .int p1), (2, .int p2)]) hx hb dX2_wrap_20 hl (by decide) rfl (fun ls hl => ?_)
    refine lv_iload_n hx hb dX2_wrap_22 rfl (lv_at hl 4 rfl) ?_
    by_cases d_1 : p2 = 0
    · refine lv_tableIn (off := 25) (tgt := 48) hx hb dX2_wrap_23 (by rw [d_1]; decide) (by rw [d_1]; decide) (by rw [d_1]; rfl) (by decide) ?_
      refine lv_iload hx hb dX2_wrap_48 (lv_at hl 0 rfl) ?_
      exact W.iret (v := (md_j p0 (md_m p0 p1 p2))) hx hb hr (fun t ht hW => rd_q (by simp only [md_wrap, if_pos d_1]) ht) (fun q h => by cases h) dX2_wrap_50
    by_cases d_2 : p2 = 1
    · refine lv_tableIn (off := 28) (tgt := 51) hx hb dX2_wrap_23 (by rw [d_2]; decide) (by rw [d_2]; decide) (by rw [d_2]; rfl) (by decide) ?_
      refine lv_iload_n hx hb dX2_wrap_51 rfl (lv_at hl 2 rfl) ?_
      refine lv_if_ge (tgt := 59) hx hb dX2_wrap_52 (by decide) (fun c_4 => ?_) (fun c_4 => ?_)
      · refine lv_iload_n hx hb dX2_wrap_59 rfl (lv_at hl 2 rfl) ?_
        refine lv_iload_n hx hb dX2_wrap_60 rfl (lv_at hl 3 rfl) ?_
        refine lv_icmp_lt (tgt := 70) hx hb dX2_wrap_61 (by decide) (fun c_5 => ?_) (fun c_5 => ?_)
        · refine lv_iload_n hx hb dX2_wrap_70 rfl (lv_at hl 2 rfl) ?_
          exact W.iret (v := p0) hx hb hr (fun t ht hW => rd_q (by simp only [md_wrap, if_neg d_1, if_pos d_2, if_pos c_4, if_pos c_5]) ht) (fun q h => by cases h) dX2_wrap_71
        · refine lv_iload_n hx hb dX2_wrap_64 rfl (lv_at hl 3 rfl) ?_
          refine lv_iconst (v := 1) hx hb dX2_wrap_65 (by decide) ?_
          refine lv_isub hx hb dX2_wrap_66 ?_
          refine lv_goto (tgt := 71) hx hb dX2_wrap_67 (by decide) ?_
          exact W.iret (v := (p1 - (1 : Int32))) hx hb hr (fun t ht hW => rd_q (by simp only [md_wrap, if_neg d_1, if_pos d_2, if_pos c_4, if_neg c_5]) ht) (fun q h => by cases h) dX2_wrap_71
      · refine lv_iconst (v := 0) hx hb dX2_wrap_55 (by decide) ?_
        refine lv_goto (tgt := 71) hx hb dX2_wrap_56 (by decide) ?_
        exact W.iret (v := 0) hx hb hr (fun t ht hW => rd_q (by simp only [md_wrap, if_neg d_1, if_pos d_2, if_neg c_4]) ht) (fun q h => by cases h) dX2_wrap_71
    by_cases d_3 : p2 = 2
    · refine lv_tableIn (off := 49) (tgt := 72) hx hb dX2_wrap_23 (by rw [d_3]; decide) (by rw [d_3]; decide) (by rw [d_3]; rfl) (by decide) ?_
      refine lv_iload hx hb dX2_wrap_72 (lv_at hl 0 rfl) ?_
      refine lv_iload_n hx hb dX2_wrap_74 rfl (lv_at hl 3 rfl) ?_
      refine lv_icmp_ge (tgt := 83) hx hb dX2_wrap_75 (by decide) (fun c_4 => ?_) (fun c_4 => ?_)
      · refine lv_iconst (v := 2) hx hb dX2_wrap_83 (by decide) ?_
        refine lv_iload_n hx hb dX2_wrap_84 rfl (lv_at hl 3 rfl) ?_
        refine lv_imul hx hb dX2_wrap_85 ?_
        refine lv_iconst (v := 1) hx hb dX2_wrap_86 (by decide) ?_
        refine lv_isub hx hb dX2_wrap_87 ?_
        refine lv_iload hx hb dX2_wrap_88 (lv_at hl 0 rfl) ?_
        refine lv_isub hx hb dX2_wrap_90 ?_
        exact W.iret (v := ((((2 : Int32) * p1) - (1 : Int32)) - (md_j p0 (md_m p0 p1 p2)))) hx hb hr (fun t ht hW => rd_q (by simp only [md_wrap, if_neg d_1, if_neg d_2, if_pos d_3, if_pos c_4]) ht) (fun q h => by cases h) dX2_wrap_91
      · refine lv_iload hx hb dX2_wrap_78 (lv_at hl 0 rfl) ?_
        refine lv_goto (tgt := 91) hx hb dX2_wrap_80 (by decide) ?_
        exact W.iret (v := (md_j p0 (md_m p0 p1 p2))) hx hb hr (fun t ht hW => rd_q (by simp only [md_wrap, if_neg d_1, if_neg d_2, if_pos d_3, if_neg c_4]) ht) (fun q h => by cases h) dX2_wrap_91
    have a0 : p2.toInt ≠ 0 := tu_ne d_1
    have a1 : p2.toInt ≠ 1 := tu_ne d_2
    have a2 : p2.toInt ≠ 2 := tu_ne d_3
    refine lv_tableOut (tgt := 92) hx hb dX2_wrap_23 (by omega) (by decide) ?_
    refine lv_iload_n hx hb dX2_wrap_92 rfl (lv_at hl 2 rfl) ?_
    refine lv_if_lt (tgt := 105) hx hb dX2_wrap_93 (by decide) (fun c_4 => ?_) (fun c_4 => ?_)
    · refine lv_iconst (v := (-1)) hx hb dX2_wrap_105 (by decide) ?_
      exact W.iret (v := (-1)) hx hb hr (fun t ht hW => rd_q (by simp only [md_wrap, if_neg d_1, if_neg d_2, if_neg d_3, if_pos c_4]) ht) (fun q h => by cases h) dX2_wrap_106
    · refine lv_iload_n hx hb dX2_wrap_96 rfl (lv_at hl 2 rfl) ?_
      refine lv_iload_n hx hb dX2_wrap_97 rfl (lv_at hl 3 rfl) ?_
      refine lv_icmp_ge (tgt := 105) hx hb dX2_wrap_98 (by decide) (fun c_5 => ?_) (fun c_5 => ?_)
      · refine lv_iconst (v := (-1)) hx hb dX2_wrap_105 (by decide) ?_
        exact W.iret (v := (-1)) hx hb hr (fun t ht hW => rd_q (by simp only [md_wrap, if_neg d_1, if_neg d_2, if_neg d_3, if_neg c_4, if_pos c_5]) ht) (fun q h => by cases h) dX2_wrap_106
      · refine lv_iload_n hx hb dX2_wrap_101 rfl (lv_at hl 2 rfl) ?_
        refine lv_goto (tgt := 106) hx hb dX2_wrap_102 (by decide) ?_
        exact W.iret (v := p0) hx hb hr (fun t ht hW => rd_q (by simp only [md_wrap, if_neg d_1, if_neg d_2, if_neg d_3, if_neg c_4, if_neg c_5]) ht) (fun q h => by cases h) dX2_wrap_106
set_option maxHeartbeats 4000000 in
set_option maxRecDepth 100000 in
theorem m_thrown (l : Launch) (dC : Nat → ClassId) (dI : Nat → Nat → Nat) (o : Nat) (th : Int32) (a1 a2 a3 a4 a5 a6 a7 a8 a9 a10 : Nat) : Met l yX2_thrown wsX2_thrown ({ frames := 0, cells := 0, slots := 0, locals := 0 }) (va_Pc [.ref o] (rd_B (dC, dI) vwCl [(o, .inr (2, [.int th, .ref a1, .ref a2, .ref a3, .ref a4, .ref a5, .ref a6, .ref a7, .ref a8, .ref a9, .ref a10]))] [])) (QcRead (th)) 0 0 (fun _ => False) := by
  refine Met.ofW (cc := cX2_thrown) (maxL := 1) (ret := some .int) (by decide) rfl ?_
  intro p e s m args below meth c s₁ B hml hv
  obtain ⟨rfl, hP, hK⟩ := hv
  have hx := B.exec
  have hb := B.bytes
  have hr := B.returns
  have hts := atoms_spec (ws := wsX2_thrown) B.pre
  have hown : s.vm.findClass "TextureUnitsModel" = some m.cls := findClass_of_methodNamed B.named
  have hlocks := B.notSynchronized
  have hl := lv_entry ([.ref o]) (n := 1) (Nat.le_of_ble_eq_true rfl)
  rw [lg_entry_eq]
  generalize (lg_sl ([.ref o]) ++ List.replicate (1 - (lg_sl ([.ref o])).length) Slot.unset).toArray = ls at hl ⊢
  have hl : lv_has ls 1 [(0, .ref o)] := hl
  refine lv_aload_n hx hb dX2_thrown_0 rfl (lv_at hl 0 rfl) ?_
  refine va_get (D := (dC, dI)) (ci := 2) (v := .int th) (C := "TextureUnitsModel") (T := TX2) (N := 11) hx hb hts (tw_s inX2) hown hK hP 0 rfl rfl 0 (by decide) (hts _ (tw_c tw_333)) (fun _ h9 => h9) rfl dX2_thrown_1 ?_
  exact W.iret (v := th) hx hb hr (fun t ht hW => rd_q rfl ht) (fun q h => by cases h) dX2_thrown_4
set_option maxHeartbeats 4000000 in
set_option maxRecDepth 100000 in
theorem m_exponent (l : Launch) (dC : Nat → ClassId) (dI : Nat → Nat → Nat) (o : Nat) (th : Int32) (a1 a2 a3 a4 a5 a6 a7 a8 a9 a10 : Nat) (cI : ClassId) (un : Nat → Int32) (j : Nat) (p1 : Int32) (w : Nat) (hj : j < 4) (hw : w < 2) : Met l yX2_exponent wsX2_exponent ({ frames := 0, cells := 0, slots := 0, locals := 0 }) (va_Pc [.ref o, .int (nI j), .int p1, .int (nI w)] (rd_B (dC, dI) vwCl [(o, .inr (2, [.int th, .ref a1, .ref a2, .ref a3, .ref a4, .ref a5, .ref a6, .ref a7, .ref a8, .ref a9, .ref a10])), (a2, .inl (cI, 32, .inl un))] [(cI, .int)])) (QcRead (md_e (un (8 * j + 1 + w)) p1)) 0 0 (fun _ => False) := by
  refine Met.ofW (cc := cX2_exponent) (maxL := 5) (ret := some .int) (by decide) rfl ?_
  intro p e s m args below meth c s₁ B hml hv
  obtain ⟨rfl, hP, hK⟩ := hv
  have hx := B.exec
  have hb := B.bytes
  have hr := B.returns
  have hts := atoms_spec (ws := wsX2_exponent) B.pre
  have hown : s.vm.findClass "TextureUnitsModel" = some m.cls := findClass_of_methodNamed B.named
  have hlocks := B.notSynchronized
  have hl := lv_entry ([.ref o, .int (nI j), .int p1, .int (nI w)]) (n := 5) (Nat.le_of_ble_eq_true rfl)
  rw [lg_entry_eq]
  generalize (lg_sl ([.ref o, .int (nI j), .int p1, .int (nI w)]) ++ List.replicate (5 - (lg_sl ([.ref o, .int (nI j), .int p1, .int (nI w)])).length) Slot.unset).toArray = ls at hl ⊢
  have hl : lv_has ls 5 [(0, .ref o), (1, .int (nI j)), (2, .int p1), (3, .int (nI w))] := hl
  refine lv_aload_n hx hb dX2_exponent_0 rfl (lv_at hl 0 rfl) ?_
  refine va_get (D := (dC, dI)) (ci := 2) (v := .ref a2) (C := "TextureUnitsModel") (T := TX2) (N := 11) hx hb hts (tw_s inX2) hown hK hP 0 rfl rfl 2 (by decide) (hts _ (tw_c tw_335)) (fun _ h9 => h9) rfl dX2_exponent_1 ?_
  refine lv_bipush (v := 8) hx hb dX2_exponent_4 (by decide) ?_
  refine lv_iload_n hx hb dX2_exponent_6 rfl (lv_at hl 1 rfl) ?_
  refine lv_imul hx hb dX2_exponent_7 ?_
  refine lv_topi (fun x_1 ex_1 => ?_)
  have ex_1 : x_1 = nI (8 * j) := ex_1.trans (pk_mul 8 j)
  subst ex_1
  refine lv_iconst (v := 1) hx hb dX2_exponent_8 (by decide) ?_
  refine lv_iadd hx hb dX2_exponent_9 ?_
  refine lv_topi (fun x_2 ex_2 => ?_)
  have ex_2 : x_2 = nI ((8 * j) + 1) := ex_2.trans (nI_add (8 * j) 1)
  subst ex_2
  refine lv_iload_n hx hb dX2_exponent_10 rfl (lv_at hl 3 rfl) ?_
  refine lv_iadd hx hb dX2_exponent_11 ?_
  refine lv_topi (fun x_3 ex_3 => ?_)
  have ex_3 : x_3 = nI (((8 * j) + 1) + w) := ex_3.trans (nI_add ((8 * j) + 1) w)
  subst ex_3
  refine va_iald hx hb hK hP 1 0 rfl rfl (vp_in_nI (by omega) (by decide)) dX2_exponent_12 ?_
  refine lv_topi (fun x_4 ex_4 => ?_)
  have ex_4 : x_4 = (un (((8 * j) + 1) + w)) := ex_4.trans (congrArg un (nI_clamp (by omega)))
  subst ex_4
  refine lv_iload_n hx hb dX2_exponent_13 rfl (lv_at hl 2 rfl) ?_
  refine lv_isub hx hb dX2_exponent_14 ?_
  refine lv_istore (lv' := [(4, .int ((un (((8 * j) + 1) + w)) - p1)), (0, .ref o), (1, .int (nI j)), (2, .int p1), (3, .int (nI w))]) hx hb dX2_exponent_15 hl (by decide) rfl (fun ls hl => ?_)
  refine lv_iload hx hb dX2_exponent_17 (lv_at hl 0 rfl) ?_
  refine lv_if_ge (tgt := 26) hx hb dX2_exponent_19 (by decide) (fun c_5 => ?_) (fun c_5 => ?_)
  · refine lv_iload hx hb dX2_exponent_26 (lv_at hl 0 rfl) ?_
    exact W.iret (v := ((un (((8 * j) + 1) + w)) - p1)) hx hb hr (fun t ht hW => rd_q (by simp only [md_e, if_pos c_5]) ht) (fun q h => by cases h) dX2_exponent_28
  · refine lv_iconst (v := 0) hx hb dX2_exponent_22 (by decide) ?_
    refine lv_goto (tgt := 28) hx hb dX2_exponent_23 (by decide) ?_
    exact W.iret (v := 0) hx hb hr (fun t ht hW => rd_q (by simp only [md_e, if_neg c_5]) ht) (fun q h => by cases h) dX2_exponent_28
set_option maxHeartbeats 4000000 in
set_option maxRecDepth 100000 in
theorem m_wide (l : Launch) (dC : Nat → ClassId) (dI : Nat → Nat → Nat) (o : Nat) (th : Int32) (a1 a2 a3 a4 a5 a6 a7 a8 a9 a10 : Nat) (cI : ClassId) (un : Nat → Int32) (j : Nat) (p1 : Int32) (hj : j < 4) : Met l yX2_wide wsX2_wide ({ frames := 1, cells := 0, slots := 0, locals := 24 }) (va_Pc [.ref o, .int (nI j), .int p1] (rd_B (dC, dI) vwCl [(o, .inr (2, [.int th, .ref a1, .ref a2, .ref a3, .ref a4, .ref a5, .ref a6, .ref a7, .ref a8, .ref a9, .ref a10])), (a2, .inl (cI, 32, .inl un))] [(cI, .int)])) (QcRead (md_len (un (8 * j + 1)) p1)) 0 0 (fun _ => False) := by
  refine Met.ofW (cc := cX2_wide) (maxL := 3) (ret := some .int) (by decide) rfl ?_
  intro p e s m args below meth c s₁ B hml hv
  obtain ⟨rfl, hP, hK⟩ := hv
  have hx := B.exec
  have hb := B.bytes
  have hr := B.returns
  have hts := atoms_spec (ws := wsX2_wide) B.pre
  have hown : s.vm.findClass "TextureUnitsModel" = some m.cls := findClass_of_methodNamed B.named
  have hlocks := B.notSynchronized
  have hl := lv_entry ([.ref o, .int (nI j), .int p1]) (n := 3) (Nat.le_of_ble_eq_true rfl)
  rw [lg_entry_eq]
  generalize (lg_sl ([.ref o, .int (nI j), .int p1]) ++ List.replicate (3 - (lg_sl ([.ref o, .int (nI j), .int p1])).length) Slot.unset).toArray = ls at hl ⊢
  have hl : lv_has ls 3 [(0, .ref o), (1, .int (nI j)), (2, .int p1)] := hl
  refine lv_iconst (v := 1) hx hb dX2_wide_0 (by decide) ?_
  refine lv_aload_n hx hb dX2_wide_1 rfl (lv_at hl 0 rfl) ?_
  refine lv_iload_n hx hb dX2_wide_2 rfl (lv_at hl 1 rfl) ?_
  refine lv_iload_n hx hb dX2_wide_3 rfl (lv_at hl 2 rfl) ?_
  refine lv_iconst (v := 0) hx hb dX2_wide_4 (by decide) ?_
  refine rd_call (W.runV (As := [.int (nI j), .int p1, .int 0]) (rest := [.int 1]) ⟨hx, hb, hml, hown, hts⟩ (m_exponent l dC dI o th a1 a2 a3 a4 a5 a6 a7 a8 a9 a10 cI un j p1 0 hj (by omega)) (cwV 3 hts (tg_V tw_402 tw_404 tw_p10 tw_3 tw_405) rfl rfl rfl (by decide +kernel) ⟨Nat.le_of_ble_eq_true rfl, Nat.le_of_ble_eq_true rfl⟩) ⟨rd_blind, va_recv hK hP (ci := 2) (q0 := 0) rfl rfl, fun U hU hW => ⟨rfl, rd_use (hP.sub [0, 1] rfl) (hK.sub [0] rfl) U hU hW⟩⟩ rfl rfl hl.1 rfl (lv_room (Nat.le_of_ble_eq_true rfl)) dX2_wide_5 ⟨Nat.le_of_ble_eq_true rfl, Nat.le_of_ble_eq_true rfl⟩) ?_
  refine lv_ishl hx hb dX2_wide_8 ?_
  exact W.iret (v := ((1 : Int32) <<< ((md_e (un (8 * j + 1 + 0)) p1) &&& 31))) hx hb hr (fun t ht hW => rd_q rfl ht) (fun q h => by cases h) dX2_wide_9
set_option maxHeartbeats 4000000 in
set_option maxRecDepth 100000 in
theorem m_high (l : Launch) (dC : Nat → ClassId) (dI : Nat → Nat → Nat) (o : Nat) (th : Int32) (a1 a2 a3 a4 a5 a6 a7 a8 a9 a10 : Nat) (cI : ClassId) (un : Nat → Int32) (j : Nat) (p1 : Int32) (hj : j < 4) : Met l yX2_high wsX2_high ({ frames := 1, cells := 0, slots := 0, locals := 24 }) (va_Pc [.ref o, .int (nI j), .int p1] (rd_B (dC, dI) vwCl [(o, .inr (2, [.int th, .ref a1, .ref a2, .ref a3, .ref a4, .ref a5, .ref a6, .ref a7, .ref a8, .ref a9, .ref a10])), (a2, .inl (cI, 32, .inl un))] [(cI, .int)])) (QcRead (md_len (un (8 * j + 2)) p1)) 0 0 (fun _ => False) := by
  refine Met.ofW (cc := cX2_high) (maxL := 3) (ret := some .int) (by decide) rfl ?_
  intro p e s m args below meth c s₁ B hml hv
  obtain ⟨rfl, hP, hK⟩ := hv
  have hx := B.exec
  have hb := B.bytes
  have hr := B.returns
  have hts := atoms_spec (ws := wsX2_high) B.pre
  have hown : s.vm.findClass "TextureUnitsModel" = some m.cls := findClass_of_methodNamed B.named
  have hlocks := B.notSynchronized
  have hl := lv_entry ([.ref o, .int (nI j), .int p1]) (n := 3) (Nat.le_of_ble_eq_true rfl)
  rw [lg_entry_eq]
  generalize (lg_sl ([.ref o, .int (nI j), .int p1]) ++ List.replicate (3 - (lg_sl ([.ref o, .int (nI j), .int p1])).length) Slot.unset).toArray = ls at hl ⊢
  have hl : lv_has ls 3 [(0, .ref o), (1, .int (nI j)), (2, .int p1)] := hl
  refine lv_iconst (v := 1) hx hb dX2_high_0 (by decide) ?_
  refine lv_aload_n hx hb dX2_high_1 rfl (lv_at hl 0 rfl) ?_
  refine lv_iload_n hx hb dX2_high_2 rfl (lv_at hl 1 rfl) ?_
  refine lv_iload_n hx hb dX2_high_3 rfl (lv_at hl 2 rfl) ?_
  refine lv_iconst (v := 1) hx hb dX2_high_4 (by decide) ?_
  refine rd_call (W.runV (As := [.int (nI j), .int p1, .int 1]) (rest := [.int 1]) ⟨hx, hb, hml, hown, hts⟩ (m_exponent l dC dI o th a1 a2 a3 a4 a5 a6 a7 a8 a9 a10 cI un j p1 1 hj (by omega)) (cwV 3 hts (tg_V tw_402 tw_404 tw_p10 tw_3 tw_405) rfl rfl rfl (by decide +kernel) ⟨Nat.le_of_ble_eq_true rfl, Nat.le_of_ble_eq_true rfl⟩) ⟨rd_blind, va_recv hK hP (ci := 2) (q0 := 0) rfl rfl, fun U hU hW => ⟨rfl, rd_use (hP.sub [0, 1] rfl) (hK.sub [0] rfl) U hU hW⟩⟩ rfl rfl hl.1 rfl (lv_room (Nat.le_of_ble_eq_true rfl)) dX2_high_5 ⟨Nat.le_of_ble_eq_true rfl, Nat.le_of_ble_eq_true rfl⟩) ?_
  refine lv_ishl hx hb dX2_high_8 ?_
  exact W.iret (v := ((1 : Int32) <<< ((md_e (un (8 * j + 1 + 1)) p1) &&& 31))) hx hb hr (fun t ht hW => rd_q rfl ht) (fun q h => by cases h) dX2_high_9
set_option maxHeartbeats 4000000 in
set_option maxRecDepth 100000 in
theorem m_ahead (l : Launch) (dC : Nat → ClassId) (dI : Nat → Nat → Nat) (o : Nat) (th : Int32) (a1 a2 a3 a4 a5 a6 a7 a8 a9 a10 : Nat) (cI : ClassId) (un : Nat → Int32) (j n : Nat) (hj : j < 4) (hn : n ≤ 11) : Met l yX2_ahead wsX2_ahead ({ frames := 2, cells := 0, slots := 0, locals := 46 }) (va_Pc [.ref o, .int (nI j), .int (nI n)] (rd_B (dC, dI) vwCl [(o, .inr (2, [.int th, .ref a1, .ref a2, .ref a3, .ref a4, .ref a5, .ref a6, .ref a7, .ref a8, .ref a9, .ref a10])), (a2, .inl (cI, 32, .inl un))] [(cI, .int)])) (QcRead (md_ah (un (8 * j + 1)) (un (8 * j + 2)) n)) 0 0 (fun _ => False) := by
  refine Met.ofW (cc := cX2_ahead) (maxL := 5) (ret := some .int) (by decide) rfl ?_
  intro p e s m args below meth c s₁ B hml hv
  obtain ⟨rfl, hP, hK⟩ := hv
  have hx := B.exec
  have hb := B.bytes
  have hr := B.returns
  have hts := atoms_spec (ws := wsX2_ahead) B.pre
  have hown : s.vm.findClass "TextureUnitsModel" = some m.cls := findClass_of_methodNamed B.named
  have hlocks := B.notSynchronized
  have hl := lv_entry ([.ref o, .int (nI j), .int (nI n)]) (n := 5) (Nat.le_of_ble_eq_true rfl)
  rw [lg_entry_eq]
  generalize (lg_sl ([.ref o, .int (nI j), .int (nI n)]) ++ List.replicate (5 - (lg_sl ([.ref o, .int (nI j), .int (nI n)])).length) Slot.unset).toArray = ls at hl ⊢
  have hl : lv_has ls 5 [(0, .ref o), (1, .int (nI j)), (2, .int (nI n))] := hl
  refine lv_iconst (v := 0) hx hb dX2_ahead_0 (by decide) ?_
  refine lv_istore_n (lv' := [(3, .int 0), (0, .ref o), (1, .int (nI j)), (2, .int (nI n))]) hx hb dX2_ahead_1 rfl hl (by decide) rfl (fun ls hl => ?_)
  refine lv_iconst (v := 0) hx hb dX2_ahead_2 (by decide) ?_
  refine lv_istore (lv' := [(4, .int 0), (3, .int 0), (0, .ref o), (1, .int (nI j)), (2, .int (nI n))]) hx hb dX2_ahead_3 hl (by decide) rfl (fun ls hl => ?_)
  refine tu_loop1 (W9 := fun ls => W p l e _ s m _ below meth c _ _ 0 0 _ (F0 m 5 ls [])) (I := fun k ls => lv_has ls 5 [(0, .ref o), (1, .int (nI j)), (2, .int (nI n)), (3, .int (md_ah (un (8 * j + 1)) (un (8 * j + 2)) k)), (4, .int (nI k))]) n ?_ ?_ ls (lv_sub hl [2, 3, 4, 1, 0] rfl)
  · intro ls hl
    refine lv_iload hx hb dX2_ahead_5 (lv_at hl 4 rfl) ?_
    refine lv_iload_n hx hb dX2_ahead_7 rfl (lv_at hl 2 rfl) ?_
    refine lv_icmp_ge (tgt := 35) hx hb dX2_ahead_8 (by decide) (fun c_1 => ?_) (fun c_1 => absurd (nI_le (Nat.le_refl n) (by omega)) c_1)
    refine lv_iload_n hx hb dX2_ahead_35 rfl (lv_at hl 3 rfl) ?_
    exact W.iret (v := (md_ah (un (8 * j + 1)) (un (8 * j + 2)) n)) hx hb hr (fun t ht hW => rd_q rfl ht) (fun q h => by cases h) dX2_ahead_36
  · intro k ls hk hl ih
    refine lv_iload hx hb dX2_ahead_5 (lv_at hl 4 rfl) ?_
    refine lv_iload_n hx hb dX2_ahead_7 rfl (lv_at hl 2 rfl) ?_
    refine lv_icmp_ge (tgt := 35) hx hb dX2_ahead_8 (by decide) (fun c_1 => absurd c_1 (nI_ge hk (by omega))) (fun c_1 => ?_)
    refine lv_iload_n hx hb dX2_ahead_11 rfl (lv_at hl 3 rfl) ?_
    refine lv_aload_n hx hb dX2_ahead_12 rfl (lv_at hl 0 rfl) ?_
    refine lv_iload_n hx hb dX2_ahead_13 rfl (lv_at hl 1 rfl) ?_
    refine lv_iload hx hb dX2_ahead_14 (lv_at hl 4 rfl) ?_
    refine rd_call (W.runV (As := [.int (nI j), .int (nI k)]) (rest := [.int (md_ah (un (8 * j + 1)) (un (8 * j + 2)) k)]) ⟨hx, hb, hml, hown, hts⟩ (m_wide l dC dI o th a1 a2 a3 a4 a5 a6 a7 a8 a9 a10 cI un j (nI k) hj) (cwV 2 hts (tg_V tw_398 tw_400 tw_p9 tw_3 tw_401) rfl rfl rfl (by decide +kernel) ⟨Nat.le_of_ble_eq_true rfl, Nat.le_of_ble_eq_true rfl⟩) ⟨rd_blind, va_recv hK hP (ci := 2) (q0 := 0) rfl rfl, fun U hU hW => ⟨rfl, rd_use (hP.sub [0, 1] rfl) (hK.sub [0] rfl) U hU hW⟩⟩ rfl rfl hl.1 rfl (lv_room (Nat.le_of_ble_eq_true rfl)) dX2_ahead_16 ⟨Nat.le_of_ble_eq_true rfl, Nat.le_of_ble_eq_true rfl⟩) ?_
    refine lv_aload_n hx hb dX2_ahead_19 rfl (lv_at hl 0 rfl) ?_
    refine lv_iload_n hx hb dX2_ahead_20 rfl (lv_at hl 1 rfl) ?_
    refine lv_iload hx hb dX2_ahead_21 (lv_at hl 4 rfl) ?_
    refine rd_call (W.runV (As := [.int (nI j), .int (nI k)]) (rest := [.int (md_len (un (8 * j + 1)) (nI k)), .int (md_ah (un (8 * j + 1)) (un (8 * j + 2)) k)]) ⟨hx, hb, hml, hown, hts⟩ (m_high l dC dI o th a1 a2 a3 a4 a5 a6 a7 a8 a9 a10 cI un j (nI k) hj) (cwV 2 hts (tg_V tw_406 tw_408 tw_p11 tw_3 tw_409) rfl rfl rfl (by decide +kernel) ⟨Nat.le_of_ble_eq_true rfl, Nat.le_of_ble_eq_true rfl⟩) ⟨rd_blind, va_recv hK hP (ci := 2) (q0 := 0) rfl rfl, fun U hU hW => ⟨rfl, rd_use (hP.sub [0, 1] rfl) (hK.sub [0] rfl) U hU hW⟩⟩ rfl rfl hl.1 rfl (lv_room (Nat.le_of_ble_eq_true rfl)) dX2_ahead_23 ⟨Nat.le_of_ble_eq_true rfl, Nat.le_of_ble_eq_true rfl⟩) ?_
    refine lv_imul hx hb dX2_ahead_26 ?_
    refine lv_iadd hx hb dX2_ahead_27 ?_
    refine lv_istore_n (lv' := [(3, .int ((md_ah (un (8 * j + 1)) (un (8 * j + 2)) k) + ((md_len (un (8 * j + 1)) (nI k)) * (md_len (un (8 * j + 2)) (nI k))))), (0, .ref o), (1, .int (nI j)), (2, .int (nI n)), (4, .int (nI k))]) hx hb dX2_ahead_28 rfl hl (by decide) rfl (fun ls hl => ?_)
    refine lv_iinc (v := (nI (k + 1))) (lv' := [(4, .int (nI (k + 1))), (3, .int ((md_ah (un (8 * j + 1)) (un (8 * j + 2)) k) + ((md_len (un (8 * j + 1)) (nI k)) * (md_len (un (8 * j + 2)) (nI k))))), (0, .ref o), (1, .int (nI j)), (2, .int (nI n))]) hx hb dX2_ahead_29 hl (k := 4) rfl (nI_1 k) (by decide) rfl (fun ls hl => ?_)
    refine lv_goto (tgt := 5) hx hb dX2_ahead_32 (by decide) ?_
    exact ih _ (lv_sub hl [2, 3, 4, 1, 0] rfl)
set_option maxHeartbeats 4000000 in
set_option maxRecDepth 100000 in
theorem m_bit (l : Launch) (dC : Nat → ClassId) (dI : Nat → Nat → Nat) (o : Nat) (th : Int32) (a1 a2 a3 a4 a5 a6 a7 a8 a9 a10 : Nat) (cI : ClassId) (mem : Nat → Int32) (a n : Nat) (ha : a < 2 ^ 31) (hn : n < 2 ^ 40) : Met l yX2_bit wsX2_bit ({ frames := 0, cells := 0, slots := 0, locals := 0 }) (va_Pc [.ref o, .int (nI a), .long (lN n)] (rd_B (dC, dI) vwCl [(o, .inr (2, [.int th, .ref a1, .ref a2, .ref a3, .ref a4, .ref a5, .ref a6, .ref a7, .ref a8, .ref a9, .ref a10])), (a1, .inl (cI, 2048, .inl mem))] [(cI, .int)])) (QcRead (md_bit mem a n)) 0 0 (fun _ => False) := by
  refine Met.ofW (cc := cX2_bit) (maxL := 6) (ret := some .int) (by decide) rfl ?_
  intro p e s m args below meth c s₁ B hml hv
  obtain ⟨rfl, hP, hK⟩ := hv
  have hx := B.exec
  have hb := B.bytes
  have hr := B.returns
  have hts := atoms_spec (ws := wsX2_bit) B.pre
  have hown : s.vm.findClass "TextureUnitsModel" = some m.cls := findClass_of_methodNamed B.named
  have hlocks := B.notSynchronized
  have hl := lv_entry ([.ref o, .int (nI a), .long (lN n)]) (n := 6) (Nat.le_of_ble_eq_true rfl)
  rw [lg_entry_eq]
  generalize (lg_sl ([.ref o, .int (nI a), .long (lN n)]) ++ List.replicate (6 - (lg_sl ([.ref o, .int (nI a), .long (lN n)])).length) Slot.unset).toArray = ls at hl ⊢
  have hl : lv_has ls 6 [(0, .ref o), (1, .int (nI a)), (2, .long (lN n))] := hl
  refine lv_iload_n hx hb dX2_bit_0 rfl (lv_at hl 1 rfl) ?_
  refine lv_i2l hx hb dX2_bit_1 rfl ?_
  refine lv_lload_n hx hb dX2_bit_2 rfl (lv_at hl 2 rfl) ?_
  refine lv_ldc2 (v := 32) hx hb hown (hts _ (tw_c tw_430)) dX2_bit_3 ?_
  refine lv_ldiv hx hb dX2_bit_6 (by decide) ?_
  refine lv_ladd hx hb dX2_bit_7 ?_
  refine lv_topl (fun x ex => ?_)
  have ex : x = lN (a + n / 32) := ex.trans (md_w ha hn)
  subst ex
  refine lv_lstore (lv' := [(4, .long (lN (a + n / 32))), (0, .ref o), (1, .int (nI a)), (2, .long (lN n))]) hx hb dX2_bit_8 hl (by decide) rfl (fun ls hl => ?_)
  refine lv_lload hx hb dX2_bit_10 (lv_at hl 0 rfl) ?_
  refine lv_ldc2 (v := 2048) hx hb hown (hts _ (tw_c tw_431)) dX2_bit_12 ?_
  refine W.lcmp hx hb dX2_bit_15 ?_
  refine lv_if_ge (tgt := 39) hx hb dX2_bit_16 (by decide) (fun c_1 => ?_) (fun c_1 => ?_)
  · refine lv_iconst (v := 0) hx hb dX2_bit_39 (by decide) ?_
    exact W.iret (v := 0) hx hb hr (fun t ht hW => rd_q (by unfold md_bit; rw [if_neg (by have := (md_c (w := a + n / 32) (by omega)).mp c_1; omega)]) ht) (fun q h => by cases h) dX2_bit_40
  · refine lv_aload_n hx hb dX2_bit_19 rfl (lv_at hl 1 rfl) ?_
    refine va_get (D := (dC, dI)) (ci := 2) (v := .ref a1) (C := "TextureUnitsModel") (T := TX2) (N := 11) hx hb hts (tw_s inX2) hown hK hP 0 rfl rfl 1 (by decide) (hts _ (tw_c tw_334)) (fun _ h9 => h9) rfl dX2_bit_20 ?_
    refine lv_lload hx hb dX2_bit_23 (lv_at hl 0 rfl) ?_
    refine lv_l2i hx hb dX2_bit_25 rfl ?_
    have hc := mt (md_c (w := a + n / 32) (by omega)).mpr c_1
    refine lv_topi (fun x ex => ?_)
    have ex : x = nI (a + n / 32) := ex.trans (lN_i _)
    subst ex
    refine va_iald hx hb hK hP 1 0 rfl rfl (vp_in_nI (by omega) (by decide)) dX2_bit_26 ?_
    refine lv_topi (fun x_2 ex_2 => ?_)
    have ex_2 : x_2 = (mem (a + n / 32)) := ex_2.trans (congrArg mem (nI_clamp (by omega)))
    subst ex_2
    refine lv_lload_n hx hb dX2_bit_27 rfl (lv_at hl 3 rfl) ?_
    refine lv_ldc2 (v := 32) hx hb hown (hts _ (tw_c tw_430)) dX2_bit_28 ?_
    refine lv_lrem hx hb dX2_bit_31 (by decide) ?_
    refine lv_l2i hx hb dX2_bit_32 rfl ?_
    refine lv_topi (fun x ex => ?_)
    have ex : x = nI (n % 32) := ex.trans (md_r hn)
    subst ex
    refine lv_ishr hx hb dX2_bit_33 ?_
    refine lv_iconst (v := 1) hx hb dX2_bit_34 (by decide) ?_
    refine lv_iand hx hb dX2_bit_35 ?_
    refine lv_goto (tgt := 40) hx hb dX2_bit_36 (by decide) ?_
    exact W.iret (v := (((mem (a + n / 32)) >>> ((nI (n % 32)) &&& 31)) &&& (1 : Int32))) hx hb hr (fun t ht hW => rd_q (by unfold md_bit; rw [if_pos (by omega)]) ht) (fun q h => by cases h) dX2_bit_40
end
section
theorem zz_end : True := trivial
end
