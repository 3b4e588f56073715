theorem tw_462 : (Cond.constant "TextureUnitsModel" 109 (65535 : Int32)) ∈ TW := tw_t2 222 (by decide +kernel) (by decide +kernel)
set_option maxHeartbeats 4000000 in
set_option maxRecDepth 100000 in
theorem m_read0_2 (l : Launch) (dC : Nat → ClassId) (dI : Nat → Nat → Nat) (o : Nat) (th : Int32) (a1 a2 a3 a4 a5 a6 a7 a8 a9 a10 : Nat) (cI : ClassId) (mem un bo lt fd ro up ne f1 s1 : Nat → Int32) (j n a f ga gb lv : Nat) (p1 p2 p3 L : Int32) (sz : Nat) (hj : j < 4) (hn : n ≤ 10) (hf : f < 8) (ha : a < 2 ^ 31) (hga : ga ≤ 10) (hgb : gb ≤ 10) (ea : un (8 * j) = nI a) (e1 : un (8 * j + 1) = nI ga) (e2 : un (8 * j + 2) = nI gb) (ef : un (8 * j + 4) = nI f) (hlv : lv ≤ 11) (elv : un (8 * j + 3) = nI lv) (efi : un (8 * j + 7) = nI 2) (eL : md_lod (un (8 * j + 3)) p3 = L) (eN : L >>> ((16 : Int32) &&& 31) = nI n) : Met l yX2_read wsX2_read ({ frames := 8, cells := 0, slots := 0, locals := 260 }) (va_Pc [.ref o, .int (nI j), .int p1, .int p2, .int p3] (wr_P (dC, dI) vwCl [(o, .inr (2, [.int th, .ref a1, .ref a2, .ref a3, .ref a4, .ref a5, .ref a6, .ref a7, .ref a8, .ref a9, .ref a10])), (a1, .inl (cI, 2048, .inl mem)), (a2, .inl (cI, 32, .inl un)), (a3, .inl (cI, 16, .inl bo)), (a4, .inl (cI, 4, .inl lt)), (a5, .inl (cI, 4, .inl fd)), (a6, .inl (cI, 4, .inl ro)), (a7, .inl (cI, 4, .inl up)), (a8, .inl (cI, 4, .inl ne)), (a9, .inl (cI, 4, .inl f1)), (a10, .inl (cI, 4, .inl s1))] [(cI, .int)] sz)) (va_Qi (fun (r9 : Int32) (_ : Unit) => r9 = (md_rdv mem un bo j a f ga gb 2 lv n p1 p2 L 0)) (fun (_ : Unit) t9 => ∃ (d2 r2 u2 n2 f2 s2 : Nat → Int32), wr_B (dC, dI) vwCl [(o, .inr (2, [.int 0, .ref a1, .ref a2, .ref a3, .ref a4, .ref a5, .ref a6, .ref a7, .ref a8, .ref a9, .ref a10])), (a1, .inl (cI, 2048, .inl mem)), (a2, .inl (cI, 32, .inl un)), (a3, .inl (cI, 16, .inl bo)), (a4, .inl (cI, 4, .inl (tu_put4 lt (md_rdv mem un bo j a f ga gb 2 lv n p1 p2 L 0) (md_rdv mem un bo j a f ga gb 2 lv n p1 p2 L 1) (md_rdv mem un bo j a f ga gb 2 lv n p1 p2 L 2) (md_rdv mem un bo j a f ga gb 2 lv n p1 p2 L 3)))), (a5, .inl (cI, 4, .inl d2)), (a6, .inl (cI, 4, .inl r2)), (a7, .inl (cI, 4, .inl u2)), (a8, .inl (cI, 4, .inl n2)), (a9, .inl (cI, 4, .inl f2)), (a10, .inl (cI, 4, .inl s2))] [(cI, .int)] (va_A [(o, .inr (2, [.int th, .ref a1, .ref a2, .ref a3, .ref a4, .ref a5, .ref a6, .ref a7, .ref a8, .ref a9, .ref a10])), (a1, .inl (cI, 2048, .inl mem)), (a2, .inl (cI, 32, .inl un)), (a3, .inl (cI, 16, .inl bo)), (a4, .inl (cI, 4, .inl lt)), (a5, .inl (cI, 4, .inl fd)), (a6, .inl (cI, 4, .inl ro)), (a7, .inl (cI, 4, .inl up)), (a8, .inl (cI, 4, .inl ne)), (a9, .inl (cI, 4, .inl f1)), (a10, .inl (cI, 4, .inl s1))] sz) () t9) (va_A [(o, .inr (2, [.int th, .ref a1, .ref a2, .ref a3, .ref a4, .ref a5, .ref a6, .ref a7, .ref a8, .ref a9, .ref a10])), (a1, .inl (cI, 2048, .inl mem)), (a2, .inl (cI, 32, .inl un)), (a3, .inl (cI, 16, .inl bo)), (a4, .inl (cI, 4, .inl lt)), (a5, .inl (cI, 4, .inl fd)), (a6, .inl (cI, 4, .inl ro)), (a7, .inl (cI, 4, .inl up)), (a8, .inl (cI, 4, .inl ne)), (a9, .inl (cI, 4, .inl f1)), (a10, .inl (cI, 4, .inl s1))] sz)) 0 0 (va_A [(o, .inr (2, [.int th, .ref a1, .ref a2, .ref a3, .ref a4, .ref a5, .ref a6, .ref a7, .ref a8, .ref a9, .ref a10])), (a1, .inl (cI, 2048, .inl mem)), (a2, .inl (cI, 32, .inl un)), (a3, .inl (cI, 16, .inl bo)), (a4, .inl (cI, 4, .inl lt)), (a5, .inl (cI, 4, .inl fd)), (a6, .inl (cI, 4, .inl ro)), (a7, .inl (cI, 4, .inl up)), (a8, .inl (cI, 4, .inl ne)), (a9, .inl (cI, 4, .inl f1)), (a10, .inl (cI, 4, .inl s1))] sz) := by
  refine Met.ofW (cc := cX2_read) (maxL := 11) (ret := some .int) (by decide) rfl ?_
  intro p e s m args below meth c s₁ B hml hv
  obtain ⟨rfl, hsz, hP, hK, hD0⟩ := hv
  have hx := B.exec
  have hb := B.bytes
  have hr := B.returns
  have hts := atoms_spec (ws := wsX2_read) B.pre
  have hown : s.vm.findClass "TextureUnitsModel" = some m.cls := findClass_of_methodNamed B.named
  have hlocks := B.notSynchronized
  subst hsz
  have hD := hD0.self (sz := s.heap.size)
  generalize hAe : va_A [(o, .inr (2, [.int th, .ref a1, .ref a2, .ref a3, .ref a4, .ref a5, .ref a6, .ref a7, .ref a8, .ref a9, .ref a10])), (a1, .inl (cI, 2048, .inl mem)), (a2, .inl (cI, 32, .inl un)), (a3, .inl (cI, 16, .inl bo)), (a4, .inl (cI, 4, .inl lt)), (a5, .inl (cI, 4, .inl fd)), (a6, .inl (cI, 4, .inl ro)), (a7, .inl (cI, 4, .inl up)), (a8, .inl (cI, 4, .inl ne)), (a9, .inl (cI, 4, .inl f1)), (a10, .inl (cI, 4, .inl s1))] s.heap.size = A at hD ⊢
  have hA : ∀ q : Nat, s.heap.size ≤ q → A q := fun q h => by rw [← hAe]; exact Or.inr h
  have hS : va_S A s.heap s.heap [] := va_S.rf
  have hP : va_P (dC, dI) vwCl [(o, .inr (2, [.int th, .ref a1, .ref a2, .ref a3, .ref a4, .ref a5, .ref a6, .ref a7, .ref a8, .ref a9, .ref a10])), (a1, .inl (cI, 2048, .inl mem)), (a2, .inl (cI, 32, .inl un)), (a3, .inl (cI, 16, .inl bo)), (a4, .inl (cI, 4, .inl lt)), (a5, .inl (cI, 4, .inl fd)), (a6, .inl (cI, 4, .inl ro)), (a7, .inl (cI, 4, .inl up)), (a8, .inl (cI, 4, .inl ne)), (a9, .inl (cI, 4, .inl f1)), (a10, .inl (cI, 4, .inl s1))] s.heap := hP
  have hl := lv_entry ([.ref o, .int (nI j), .int p1, .int p2, .int p3]) (n := 11) (Nat.le_of_ble_eq_true rfl)
  rw [lg_entry_eq]
  generalize (lg_sl ([.ref o, .int (nI j), .int p1, .int p2, .int p3]) ++ List.replicate (11 - (lg_sl ([.ref o, .int (nI j), .int p1, .int p2, .int p3])).length) Slot.unset).toArray = ls at hl ⊢
  have hl : lv_has ls 11 [(0, .ref o), (1, .int (nI j)), (2, .int p1), (3, .int p2), (4, .int p3)] := hl
  have hu := md_unit hj
  refine lv_aload_n hx hb dX2_read_0 rfl (lv_at hl 0 rfl) ?_
  refine lv_iload_n hx hb dX2_read_1 rfl (lv_at hl 1 rfl) ?_
  refine lv_iconst (v := 0) hx hb dX2_read_2 (by decide) ?_
  refine lv_iconst (v := 3) hx hb dX2_read_3 (by decide) ?_
  refine rd_call (W.runS (As := [.int (nI j), .int 0, .int 3]) (rest := [.ref o]) ⟨hx, hb, hml, hown, hts⟩ (m_in l (nI j) 0 3) (va_cwS 3 hts (tg_S tw_375 tw_376 tw_3 tw_377) rfl rfl rfl (by decide +kernel) ⟨Nat.le_of_ble_eq_true rfl, Nat.le_of_ble_eq_true rfl⟩) preEq rfl rfl hl.1 rfl (lv_room (Nat.le_of_ble_eq_true rfl)) dX2_read_4 ⟨Nat.le_of_ble_eq_true rfl, Nat.le_of_ble_eq_true rfl⟩) ?_
  refine lv_if_ne (tgt := 14) hx hb dX2_read_7 (by decide) (fun c_1 => ?_) (fun c_1 => absurd c_1 hu)
  refine lv_iconst (v := 0) hx hb dX2_read_14 (by decide) ?_
  refine lv_iconst (v := 0) hx hb dX2_read_15 (by decide) ?_
  have hPc := hP.sub (ws' := [(o, .inr (2, [.int th, .ref a1, .ref a2, .ref a3, .ref a4, .ref a5, .ref a6, .ref a7, .ref a8, .ref a9, .ref a10]))]) [0] rfl
  have hDc := hD.sub (ws' := [(o, .inr (2, [.int th, .ref a1, .ref a2, .ref a3, .ref a4, .ref a5, .ref a6, .ref a7, .ref a8, .ref a9, .ref a10]))]) [0] (by decide) rfl
  have hFc := va_free (wc := [(o, .inr (2, [.int th, .ref a1, .ref a2, .ref a3, .ref a4, .ref a5, .ref a6, .ref a7, .ref a8, .ref a9, .ref a10]))]) hD hS hA [0] rfl
  refine va_calli (va_runV (As := [.int 0, .int 0]) (rest := []) ⟨hx, hb, hml, hown, hts⟩ (m_refuse0 l dC dI o th a1 a2 a3 a4 a5 a6 a7 a8 a9 a10 0 0 s.heap.size rfl rfl) (cwV 2 hts (tg_V tw_378 tw_380 tw_p8 tw_3 tw_381) rfl rfl rfl (by decide +kernel) ⟨Nat.le_of_ble_eq_true rfl, Nat.le_of_ble_eq_true rfl⟩) ⟨wr_blind, va_recv hK hP (ci := 2) (q0 := 0) rfl rfl, fun U hU hW => ⟨rfl, wr_use hPc (hK.sub [] rfl) hDc U hU hW⟩⟩ rfl rfl hl.1 rfl (lv_room (Nat.le_of_ble_eq_true rfl)) dX2_read_16 ⟨Nat.le_of_ble_eq_true rfl, Nat.le_of_ble_eq_true rfl⟩) hS (fun q _ h => hFc q h) hFc (fun r9 u9 t9 H1 locs ht hvm hw hB hz1 hk1 hS => ?_)
  obtain ⟨hP1, hK1, hD1⟩ := hB
  rw [ht] at hP1
  subst hw
  obtain ⟨hP, hD⟩ := va_join (wr := [(a1, .inl (cI, 2048, .inl mem)), (a2, .inl (cI, 32, .inl un)), (a3, .inl (cI, 16, .inl bo)), (a4, .inl (cI, 4, .inl lt)), (a5, .inl (cI, 4, .inl fd)), (a6, .inl (cI, 4, .inl ro)), (a7, .inl (cI, 4, .inl up)), (a8, .inl (cI, 4, .inl ne)), (a9, .inl (cI, 4, .inl f1)), (a10, .inl (cI, 4, .inl s1))]) (w1 := [(o, .inr (2, [.int 0, .ref a1, .ref a2, .ref a3, .ref a4, .ref a5, .ref a6, .ref a7, .ref a8, .ref a9, .ref a10]))]) hP hD [0] [1, 2, 3, 4, 5, 6, 7, 8, 9, 10] rfl rfl (by decide) (by decide) hk1 hFc hP1 hD1
  have hP := hP.sub (ws' := [(o, .inr (2, [.int 0, .ref a1, .ref a2, .ref a3, .ref a4, .ref a5, .ref a6, .ref a7, .ref a8, .ref a9, .ref a10])), (a1, .inl (cI, 2048, .inl mem)), (a2, .inl (cI, 32, .inl un)), (a3, .inl (cI, 16, .inl bo)), (a4, .inl (cI, 4, .inl lt)), (a5, .inl (cI, 4, .inl fd)), (a6, .inl (cI, 4, .inl ro)), (a7, .inl (cI, 4, .inl up)), (a8, .inl (cI, 4, .inl ne)), (a9, .inl (cI, 4, .inl f1)), (a10, .inl (cI, 4, .inl s1))]) [10, 0, 1, 2, 3, 4, 5, 6, 7, 8, 9] rfl
  have hD := hD.sub (ws' := [(o, .inr (2, [.int 0, .ref a1, .ref a2, .ref a3, .ref a4, .ref a5, .ref a6, .ref a7, .ref a8, .ref a9, .ref a10])), (a1, .inl (cI, 2048, .inl mem)), (a2, .inl (cI, 32, .inl un)), (a3, .inl (cI, 16, .inl bo)), (a4, .inl (cI, 4, .inl lt)), (a5, .inl (cI, 4, .inl fd)), (a6, .inl (cI, 4, .inl ro)), (a7, .inl (cI, 4, .inl up)), (a8, .inl (cI, 4, .inl ne)), (a9, .inl (cI, 4, .inl f1)), (a10, .inl (cI, 4, .inl s1))]) [10, 0, 1, 2, 3, 4, 5, 6, 7, 8, 9] (by decide) rfl
  clear hPc hDc hFc hP1 hK1 hD1 hk1 hz1
  generalize H1 = H at hP hS ⊢
  refine lv_if_eq (tgt := 24) hx hb dX2_read_19 (by decide) (fun c_2 => ?_) (fun c_2 => absurd (by decide) c_2)
  refine lv_ldc (v := 65536) hx hb hown (hts _ (tw_c tw_432)) dX2_read_24 ?_
  refine lv_aload_n hx hb dX2_read_26 rfl (lv_at hl 0 rfl) ?_
  refine va_get (D := (dC, dI)) (ci := 2) (v := .ref a2) (C := "TextureUnitsModel") (T := TX2) (N := 11) hx hb hts (tw_s inX2) hown hK hP 0 rfl rfl 2 (by decide) (hts _ (tw_c tw_335)) (fun _ h9 => h9) rfl dX2_read_27 ?_
  refine lv_bipush (v := 8) hx hb dX2_read_30 (by decide) ?_
  refine lv_iload_n hx hb dX2_read_32 rfl (lv_at hl 1 rfl) ?_
  refine lv_imul hx hb dX2_read_33 ?_
  refine lv_topi (fun x_3 ex_3 => ?_)
  have ex_3 : x_3 = nI (8 * j) := ex_3.trans (pk_mul 8 j)
  subst ex_3
  refine lv_iconst (v := 3) hx hb dX2_read_34 (by decide) ?_
  refine lv_iadd hx hb dX2_read_35 ?_
  refine lv_topi (fun x_4 ex_4 => ?_)
  have ex_4 : x_4 = nI ((8 * j) + 3) := ex_4.trans (nI_add (8 * j) 3)
  subst ex_4
  refine va_iald hx hb hK hP 2 0 rfl rfl (vp_in_nI (by omega) (by decide)) dX2_read_36 ?_
  refine lv_topi (fun x_5 ex_5 => ?_)
  have ex_5 : x_5 = (un ((8 * j) + 3)) := ex_5.trans (congrArg un (nI_clamp (by omega)))
  subst ex_5
  refine lv_iconst (v := 1) hx hb dX2_read_37 (by decide) ?_
  refine lv_isub hx hb dX2_read_38 ?_
  refine lv_imul hx hb dX2_read_39 ?_
  refine lv_istore (lv' := [(5, .int ((65536 : Int32) * ((un ((8 * j) + 3)) - (1 : Int32)))), (0, .ref o), (1, .int (nI j)), (2, .int p1), (3, .int p2), (4, .int p3)]) hx hb dX2_read_40 hl (by decide) rfl (fun ls hl => ?_)
  refine lv_iload hx hb dX2_read_42 (lv_at hl 5 rfl) ?_
  refine tu_join (fun v => F0 m 65 ls [.int v]) L ?_ (fun key => ?_)
  · refine lv_istore (lv' := [(6, .int L), (5, .int ((65536 : Int32) * ((un ((8 * j) + 3)) - (1 : Int32)))), (0, .ref o), (1, .int (nI j)), (2, .int p1), (3, .int p2), (4, .int p3)]) hx hb dX2_read_65 hl (by decide) rfl (fun ls hl => ?_)
    refine lv_aload_n hx hb dX2_read_67 rfl (lv_at hl 2 rfl) ?_
    refine va_get (D := (dC, dI)) (ci := 2) (v := .ref a2) (C := "TextureUnitsModel") (T := TX2) (N := 11) hx hb hts (tw_s inX2) hown hK hP 0 rfl rfl 2 (by decide) (hts _ (tw_c tw_335)) (fun _ h9 => h9) rfl dX2_read_68 ?_
    refine lv_bipush (v := 8) hx hb dX2_read_71 (by decide) ?_
    refine lv_iload_n hx hb dX2_read_73 rfl (lv_at hl 3 rfl) ?_
    refine lv_imul hx hb dX2_read_74 ?_
    refine lv_topi (fun x_6 ex_6 => ?_)
    have ex_6 : x_6 = nI (8 * j) := ex_6.trans (pk_mul 8 j)
    subst ex_6
    refine lv_bipush (v := 7) hx hb dX2_read_75 (by decide) ?_
    refine lv_iadd hx hb dX2_read_77 ?_
    refine lv_topi (fun x_7 ex_7 => ?_)
    have ex_7 : x_7 = nI ((8 * j) + 7) := ex_7.trans (nI_add (8 * j) 7)
    subst ex_7
    refine va_iald hx hb hK hP 2 0 rfl rfl (vp_in_nI (by omega) (by decide)) dX2_read_78 ?_
    refine lv_topi (fun x_8 ex_8 => ?_)
    have ex_8 : x_8 = (un ((8 * j) + 7)) := ex_8.trans (congrArg un (nI_clamp (by omega)))
    subst ex_8
    refine lv_topi (fun y_9 ey_9 => ?_)
    have ey_9 : (2 : Int32) = y_9 := (ey_9.trans efi).symm
    subst ey_9
    refine lv_istore (lv' := [(7, .int 2), (6, .int L), (5, .int ((65536 : Int32) * ((un ((8 * j) + 3)) - (1 : Int32)))), (0, .ref o), (1, .int (nI j)), (2, .int p1), (3, .int p2), (4, .int p3)]) hx hb dX2_read_79 hl (by decide) rfl (fun ls hl => ?_)
    refine lv_iload hx hb dX2_read_81 (lv_at hl 0 rfl) ?_
    refine lv_iconst (v := 2) hx hb dX2_read_83 (by decide) ?_
    refine lv_irem hx hb dX2_read_84 (by decide) ?_
    refine lv_topi (fun x_10 ex_10 => ?_)
    have ex_10 : (0 : Int32) = x_10 := (ex_10.trans (by decide)).symm
    subst ex_10
    refine lv_iconst (v := 1) hx hb dX2_read_85 (by decide) ?_
    refine lv_icmp_ne (tgt := 93) hx hb dX2_read_86 (by decide) (fun c_11 => ?_) (fun c_11 => absurd c_11 (by decide))
    refine lv_iconst (v := 0) hx hb dX2_read_93 (by decide) ?_
    refine lv_istore (lv' := [(8, .int 0), (7, .int 2), (6, .int L), (5, .int ((65536 : Int32) * ((un ((8 * j) + 3)) - (1 : Int32)))), (0, .ref o), (1, .int (nI j)), (2, .int p1), (3, .int p2), (4, .int p3)]) hx hb dX2_read_94 hl (by decide) rfl (fun ls hl => ?_)
    refine lv_iload hx hb dX2_read_96 (lv_at hl 2 rfl) ?_
    refine lv_bipush (v := 16) hx hb dX2_read_98 (by decide) ?_
    refine lv_ishr hx hb dX2_read_100 ?_
    refine lv_topi (fun y_12 ey_12 => ?_)
    have ey_12 : (nI n) = y_12 := (ey_12.trans eN).symm
    subst ey_12
    refine lv_istore (lv' := [(9, .int (nI n)), (8, .int 0), (7, .int 2), (6, .int L), (5, .int ((65536 : Int32) * ((un ((8 * j) + 3)) - (1 : Int32)))), (0, .ref o), (1, .int (nI j)), (2, .int p1), (3, .int p2), (4, .int p3)]) hx hb dX2_read_101 hl (by decide) rfl (fun ls hl => ?_)
    refine lv_aload_n hx hb dX2_read_103 rfl (lv_at hl 5 rfl) ?_
    refine lv_iload_n hx hb dX2_read_104 rfl (lv_at hl 6 rfl) ?_
    refine lv_iload hx hb dX2_read_105 (lv_at hl 0 rfl) ?_
    refine lv_iload_n hx hb dX2_read_107 rfl (lv_at hl 7 rfl) ?_
    refine lv_iload_n hx hb dX2_read_108 rfl (lv_at hl 8 rfl) ?_
    refine lv_iload hx hb dX2_read_109 (lv_at hl 1 rfl) ?_
    have hPc := hP.sub (ws' := [(o, .inr (2, [.int 0, .ref a1, .ref a2, .ref a3, .ref a4, .ref a5, .ref a6, .ref a7, .ref a8, .ref a9, .ref a10])), (a1, .inl (cI, 2048, .inl mem)), (a2, .inl (cI, 32, .inl un)), (a3, .inl (cI, 16, .inl bo)), (a5, .inl (cI, 4, .inl fd)), (a6, .inl (cI, 4, .inl ro)), (a7, .inl (cI, 4, .inl up)), (a9, .inl (cI, 4, .inl f1)), (a10, .inl (cI, 4, .inl s1))]) [0, 1, 2, 3, 5, 6, 7, 9, 10] rfl
    have hDc := hD.sub (ws' := [(o, .inr (2, [.int 0, .ref a1, .ref a2, .ref a3, .ref a4, .ref a5, .ref a6, .ref a7, .ref a8, .ref a9, .ref a10])), (a1, .inl (cI, 2048, .inl mem)), (a2, .inl (cI, 32, .inl un)), (a3, .inl (cI, 16, .inl bo)), (a5, .inl (cI, 4, .inl fd)), (a6, .inl (cI, 4, .inl ro)), (a7, .inl (cI, 4, .inl up)), (a9, .inl (cI, 4, .inl f1)), (a10, .inl (cI, 4, .inl s1))]) [0, 1, 2, 3, 5, 6, 7, 9, 10] (by decide) rfl
    have hFc := va_free (wc := [(o, .inr (2, [.int 0, .ref a1, .ref a2, .ref a3, .ref a4, .ref a5, .ref a6, .ref a7, .ref a8, .ref a9, .ref a10])), (a1, .inl (cI, 2048, .inl mem)), (a2, .inl (cI, 32, .inl un)), (a3, .inl (cI, 16, .inl bo)), (a5, .inl (cI, 4, .inl fd)), (a6, .inl (cI, 4, .inl ro)), (a7, .inl (cI, 4, .inl up)), (a9, .inl (cI, 4, .inl f1)), (a10, .inl (cI, 4, .inl s1))]) hD hS hA [0, 1, 2, 3, 5, 6, 7, 9, 10] rfl
    refine va_callv (va_runV (As := [.int (nI j), .int (nI n), .int p1, .int p2, .int 0]) (rest := []) ⟨hx, hb, hml, hown, hts⟩ (m_readLevel0 l dC dI o 0 a1 a2 a3 a4 a5 a6 a7 a8 a9 a10 cI mem un bo fd ro up f1 s1 j n a f ga gb p1 p2 H.size hj (show n ≤ 11 by omega) hf ha hga hgb ea e1 e2 ef) (cwV 5 hts (tg_V tw_442 tw_444 tw_p17 tw_3 tw_445) rfl rfl rfl (by decide +kernel) ⟨Nat.le_of_ble_eq_true rfl, Nat.le_of_ble_eq_true rfl⟩) ⟨wr_blind, va_recv hK hP (ci := 2) (q0 := 0) rfl rfl, fun U hU hW => ⟨rfl, wr_use hPc (hK.sub [0] rfl) hDc U hU hW⟩⟩ rfl rfl hl.1 rfl (lv_room (Nat.le_of_ble_eq_true rfl)) dX2_read_111 ⟨Nat.le_of_ble_eq_true rfl, Nat.le_of_ble_eq_true rfl⟩) hS (fun q _ h => hFc q h) hFc (fun u9 t9 H1 locs ht hvm hw hB hz1 hk1 hS => ?_)
    obtain ⟨z_13, z_14, z_15, z_16, z_17, hP1, hK1, hD1⟩ := hB
    rw [ht] at hP1
    obtain ⟨hP, hD⟩ := va_join (wr := [(a4, .inl (cI, 4, .inl lt)), (a8, .inl (cI, 4, .inl ne))]) (w1 := [(o, .inr (2, [.int 0, .ref a1, .ref a2, .ref a3, .ref a4, .ref a5, .ref a6, .ref a7, .ref a8, .ref a9, .ref a10])), (a1, .inl (cI, 2048, .inl mem)), (a2, .inl (cI, 32, .inl un)), (a3, .inl (cI, 16, .inl bo)), (a5, .inl (cI, 4, .inl (tu_put4 z_13 (md_one mem un bo j a f ga gb n p1 p2 0) (md_one mem un bo j a f ga gb n p1 p2 1) (md_one mem un bo j a f ga gb n p1 p2 2) (md_one mem un bo j a f ga gb n p1 p2 3)))), (a6, .inl (cI, 4, .inl z_14)), (a7, .inl (cI, 4, .inl z_15)), (a9, .inl (cI, 4, .inl z_16)), (a10, .inl (cI, 4, .inl z_17))]) hP hD [0, 1, 2, 3, 5, 6, 7, 9, 10] [4, 8] rfl rfl (by decide) (by decide) hk1 hFc hP1 hD1
    have hP := hP.sub (ws' := [(o, .inr (2, [.int 0, .ref a1, .ref a2, .ref a3, .ref a4, .ref a5, .ref a6, .ref a7, .ref a8, .ref a9, .ref a10])), (a1, .inl (cI, 2048, .inl mem)), (a2, .inl (cI, 32, .inl un)), (a3, .inl (cI, 16, .inl bo)), (a4, .inl (cI, 4, .inl lt)), (a5, .inl (cI, 4, .inl (tu_put4 z_13 (md_one mem un bo j a f ga gb n p1 p2 0) (md_one mem un bo j a f ga gb n p1 p2 1) (md_one mem un bo j a f ga gb n p1 p2 2) (md_one mem un bo j a f ga gb n p1 p2 3)))), (a6, .inl (cI, 4, .inl z_14)), (a7, .inl (cI, 4, .inl z_15)), (a8, .inl (cI, 4, .inl ne)), (a9, .inl (cI, 4, .inl z_16)), (a10, .inl (cI, 4, .inl z_17))]) [2, 3, 4, 5, 0, 6, 7, 8, 1, 9, 10] rfl
    have hD := hD.sub (ws' := [(o, .inr (2, [.int 0, .ref a1, .ref a2, .ref a3, .ref a4, .ref a5, .ref a6, .ref a7, .ref a8, .ref a9, .ref a10])), (a1, .inl (cI, 2048, .inl mem)), (a2, .inl (cI, 32, .inl un)), (a3, .inl (cI, 16, .inl bo)), (a4, .inl (cI, 4, .inl lt)), (a5, .inl (cI, 4, .inl (tu_put4 z_13 (md_one mem un bo j a f ga gb n p1 p2 0) (md_one mem un bo j a f ga gb n p1 p2 1) (md_one mem un bo j a f ga gb n p1 p2 2) (md_one mem un bo j a f ga gb n p1 p2 3)))), (a6, .inl (cI, 4, .inl z_14)), (a7, .inl (cI, 4, .inl z_15)), (a8, .inl (cI, 4, .inl ne)), (a9, .inl (cI, 4, .inl z_16)), (a10, .inl (cI, 4, .inl z_17))]) [2, 3, 4, 5, 0, 6, 7, 8, 1, 9, 10] (by decide) rfl
    clear hPc hDc hFc hP1 hK1 hD1 hk1 hz1
    generalize H1 = H at hP hS ⊢
    refine lv_iload hx hb dX2_read_114 (lv_at hl 2 rfl) ?_
    refine lv_iconst (v := 1) hx hb dX2_read_116 (by decide) ?_
    refine lv_icmp_le (tgt := 224) hx hb dX2_read_117 (by decide) (fun c_18 => absurd c_18 (by decide)) (fun c_18 => ?_)
    refine lv_iload hx hb dX2_read_120 (lv_at hl 0 rfl) ?_
    refine lv_iconst (v := 1) hx hb dX2_read_122 (by decide) ?_
    refine lv_iadd hx hb dX2_read_123 ?_
    refine lv_topi (fun x_19 ex_19 => ?_)
    have ex_19 : x_19 = nI (n + 1) := ex_19.trans (nI_add n 1)
    subst ex_19
    refine lv_aload_n hx hb dX2_read_124 rfl (lv_at hl 5 rfl) ?_
    refine va_get (D := (dC, dI)) (ci := 2) (v := .ref a2) (C := "TextureUnitsModel") (T := TX2) (N := 11) hx hb hts (tw_s inX2) hown hK hP 0 rfl rfl 2 (by decide) (hts _ (tw_c tw_335)) (fun _ h9 => h9) rfl dX2_read_125 ?_
    refine lv_bipush (v := 8) hx hb dX2_read_128 (by decide) ?_
    refine lv_iload_n hx hb dX2_read_130 rfl (lv_at hl 6 rfl) ?_
    refine lv_imul hx hb dX2_read_131 ?_
    refine lv_topi (fun x_20 ex_20 => ?_)
    have ex_20 : x_20 = nI (8 * j) := ex_20.trans (pk_mul 8 j)
    subst ex_20
    refine lv_iconst (v := 3) hx hb dX2_read_132 (by decide) ?_
    refine lv_iadd hx hb dX2_read_133 ?_
    refine lv_topi (fun x_21 ex_21 => ?_)
    have ex_21 : x_21 = nI ((8 * j) + 3) := ex_21.trans (nI_add (8 * j) 3)
    subst ex_21
    refine va_iald hx hb hK hP 2 0 rfl rfl (vp_in_nI (by omega) (by decide)) dX2_read_134 ?_
    refine lv_topi (fun x_22 ex_22 => ?_)
    have ex_22 : x_22 = (un ((8 * j) + 3)) := ex_22.trans (congrArg un (nI_clamp (by omega)))
    subst ex_22
    refine lv_topi (fun y_23 ey_23 => ?_)
    have ey_23 : (nI lv) = y_23 := (ey_23.trans elv).symm
    subst ey_23
    refine lv_icmp_ge (tgt := 224) hx hb dX2_read_135 (by decide) (fun c_24 => ?_) (fun c_24 => ?_)
    · refine lv_iconst (v := 0) hx hb dX2_read_224 (by decide) ?_
      refine lv_istore (lv' := [(10, .int 0), (9, .int (nI n)), (8, .int 0), (7, .int 2), (6, .int L), (5, .int ((65536 : Int32) * ((un ((8 * j) + 3)) - (1 : Int32)))), (0, .ref o), (1, .int (nI j)), (2, .int p1), (3, .int p2), (4, .int p3)]) hx hb dX2_read_225 hl (by decide) rfl (fun ls hl => ?_)
      refine lv_iload hx hb dX2_read_227 (lv_at hl 0 rfl) ?_
      refine lv_iconst (v := 4) hx hb dX2_read_229 (by decide) ?_
      refine lv_icmp_ge (tgt := 253) hx hb dX2_read_230 (by decide) (fun c_25 => absurd c_25 (by decide)) (fun c_25 => ?_)
      refine lv_aload_n hx hb dX2_read_233 rfl (lv_at hl 6 rfl) ?_
      refine va_get (D := (dC, dI)) (ci := 2) (v := .ref a4) (C := "TextureUnitsModel") (T := TX2) (N := 11) hx hb hts (tw_s inX2) hown hK hP 0 rfl rfl 4 (by decide) (hts _ (tw_c tw_337)) (fun _ h9 => h9) rfl dX2_read_234 ?_
      refine lv_iload hx hb dX2_read_237 (lv_at hl 0 rfl) ?_
      refine lv_aload_n hx hb dX2_read_239 rfl (lv_at hl 6 rfl) ?_
      refine va_get (D := (dC, dI)) (ci := 2) (v := .ref a5) (C := "TextureUnitsModel") (T := TX2) (N := 11) hx hb hts (tw_s inX2) hown hK hP 0 rfl rfl 5 (by decide) (hts _ (tw_c tw_338)) (fun _ h9 => h9) rfl dX2_read_240 ?_
      refine lv_iload hx hb dX2_read_243 (lv_at hl 0 rfl) ?_
      refine va_iald hx hb hK hP 5 0 rfl rfl (tu_in (by decide)) dX2_read_245 ?_
      refine lv_topi (fun x_26 ex_26 => ?_)
      have ex_26 : x_26 = (md_one mem un bo j a f ga gb n p1 p2 0) := ((((ex_26).trans (pk_un (by decide))).trans (pk_un (by decide))).trans (pk_un (by decide))).trans pk_us
      subst ex_26
      refine va_iast hx hb hK hP hD hS 4 0 rfl rfl (tu_in (by decide)) dX2_read_246 (fun H locs hP hD hS => ?_)
      have hP : va_P (dC, dI) vwCl [(o, .inr (2, [.int 0, .ref a1, .ref a2, .ref a3, .ref a4, .ref a5, .ref a6, .ref a7, .ref a8, .ref a9, .ref a10])), (a1, .inl (cI, 2048, .inl mem)), (a2, .inl (cI, 32, .inl un)), (a3, .inl (cI, 16, .inl bo)), (a4, .inl (cI, 4, .inl (upd lt 0 (md_one mem un bo j a f ga gb n p1 p2 0)))), (a5, .inl (cI, 4, .inl (tu_put4 z_13 (md_one mem un bo j a f ga gb n p1 p2 0) (md_one mem un bo j a f ga gb n p1 p2 1) (md_one mem un bo j a f ga gb n p1 p2 2) (md_one mem un bo j a f ga gb n p1 p2 3)))), (a6, .inl (cI, 4, .inl z_14)), (a7, .inl (cI, 4, .inl z_15)), (a8, .inl (cI, 4, .inl ne)), (a9, .inl (cI, 4, .inl z_16)), (a10, .inl (cI, 4, .inl z_17))] H := hP
      have hD : va_D A [(o, .inr (2, [.int 0, .ref a1, .ref a2, .ref a3, .ref a4, .ref a5, .ref a6, .ref a7, .ref a8, .ref a9, .ref a10])), (a1, .inl (cI, 2048, .inl mem)), (a2, .inl (cI, 32, .inl un)), (a3, .inl (cI, 16, .inl bo)), (a4, .inl (cI, 4, .inl (upd lt 0 (md_one mem un bo j a f ga gb n p1 p2 0)))), (a5, .inl (cI, 4, .inl (tu_put4 z_13 (md_one mem un bo j a f ga gb n p1 p2 0) (md_one mem un bo j a f ga gb n p1 p2 1) (md_one mem un bo j a f ga gb n p1 p2 2) (md_one mem un bo j a f ga gb n p1 p2 3)))), (a6, .inl (cI, 4, .inl z_14)), (a7, .inl (cI, 4, .inl z_15)), (a8, .inl (cI, 4, .inl ne)), (a9, .inl (cI, 4, .inl z_16)), (a10, .inl (cI, 4, .inl z_17))] := hD
      refine lv_iinc (v := 1) (lv' := [(10, .int 1), (9, .int (nI n)), (8, .int 0), (7, .int 2), (6, .int L), (5, .int ((65536 : Int32) * ((un ((8 * j) + 3)) - (1 : Int32)))), (0, .ref o), (1, .int (nI j)), (2, .int p1), (3, .int p2), (4, .int p3)]) hx hb dX2_read_247 hl (k := 0) rfl (by decide) (by decide) rfl (fun ls hl => ?_)
      refine lv_goto (tgt := 227) hx hb dX2_read_250 (by decide) ?_
      refine lv_iload hx hb dX2_read_227 (lv_at hl 0 rfl) ?_
      refine lv_iconst (v := 4) hx hb dX2_read_229 (by decide) ?_
      refine lv_icmp_ge (tgt := 253) hx hb dX2_read_230 (by decide) (fun c_27 => absurd c_27 (by decide)) (fun c_27 => ?_)
      refine lv_aload_n hx hb dX2_read_233 rfl (lv_at hl 6 rfl) ?_
      refine va_get (D := (dC, dI)) (ci := 2) (v := .ref a4) (C := "TextureUnitsModel") (T := TX2) (N := 11) hx hb hts (tw_s inX2) hown hK hP 0 rfl rfl 4 (by decide) (hts _ (tw_c tw_337)) (fun _ h9 => h9) rfl dX2_read_234 ?_
      refine lv_iload hx hb dX2_read_237 (lv_at hl 0 rfl) ?_
      refine lv_aload_n hx hb dX2_read_239 rfl (lv_at hl 6 rfl) ?_
      refine va_get (D := (dC, dI)) (ci := 2) (v := .ref a5) (C := "TextureUnitsModel") (T := TX2) (N := 11) hx hb hts (tw_s inX2) hown hK hP 0 rfl rfl 5 (by decide) (hts _ (tw_c tw_338)) (fun _ h9 => h9) rfl dX2_read_240 ?_
      refine lv_iload hx hb dX2_read_243 (lv_at hl 0 rfl) ?_
      refine va_iald hx hb hK hP 5 0 rfl rfl (tu_in (by decide)) dX2_read_245 ?_
      refine lv_topi (fun x_28 ex_28 => ?_)
      have ex_28 : x_28 = (md_one mem un bo j a f ga gb n p1 p2 1) := (((ex_28).trans (pk_un (by decide))).trans (pk_un (by decide))).trans pk_us
      subst ex_28
      refine va_iast hx hb hK hP hD hS 4 0 rfl rfl (tu_in (by decide)) dX2_read_246 (fun H locs hP hD hS => ?_)
      have hP : va_P (dC, dI) vwCl [(o, .inr (2, [.int 0, .ref a1, .ref a2, .ref a3, .ref a4, .ref a5, .ref a6, .ref a7, .ref a8, .ref a9, .ref a10])), (a1, .inl (cI, 2048, .inl mem)), (a2, .inl (cI, 32, .inl un)), (a3, .inl (cI, 16, .inl bo)), (a4, .inl (cI, 4, .inl (upd (upd lt 0 (md_one mem un bo j a f ga gb n p1 p2 0)) 1 (md_one mem un bo j a f ga gb n p1 p2 1)))), (a5, .inl (cI, 4, .inl (tu_put4 z_13 (md_one mem un bo j a f ga gb n p1 p2 0) (md_one mem un bo j a f ga gb n p1 p2 1) (md_one mem un bo j a f ga gb n p1 p2 2) (md_one mem un bo j a f ga gb n p1 p2 3)))), (a6, .inl (cI, 4, .inl z_14)), (a7, .inl (cI, 4, .inl z_15)), (a8, .inl (cI, 4, .inl ne)), (a9, .inl (cI, 4, .inl z_16)), (a10, .inl (cI, 4, .inl z_17))] H := hP
      have hD : va_D A [(o, .inr (2, [.int 0, .ref a1, .ref a2, .ref a3, .ref a4, .ref a5, .ref a6, .ref a7, .ref a8, .ref a9, .ref a10])), (a1, .inl (cI, 2048, .inl mem)), (a2, .inl (cI, 32, .inl un)), (a3, .inl (cI, 16, .inl bo)), (a4, .inl (cI, 4, .inl (upd (upd lt 0 (md_one mem un bo j a f ga gb n p1 p2 0)) 1 (md_one mem un bo j a f ga gb n p1 p2 1)))), (a5, .inl (cI, 4, .inl (tu_put4 z_13 (md_one mem un bo j a f ga gb n p1 p2 0) (md_one mem un bo j a f ga gb n p1 p2 1) (md_one mem un bo j a f ga gb n p1 p2 2) (md_one mem un bo j a f ga gb n p1 p2 3)))), (a6, .inl (cI, 4, .inl z_14)), (a7, .inl (cI, 4, .inl z_15)), (a8, .inl (cI, 4, .inl ne)), (a9, .inl (cI, 4, .inl z_16)), (a10, .inl (cI, 4, .inl z_17))] := hD
      refine lv_iinc (v := 2) (lv' := [(10, .int 2), (9, .int (nI n)), (8, .int 0), (7, .int 2), (6, .int L), (5, .int ((65536 : Int32) * ((un ((8 * j) + 3)) - (1 : Int32)))), (0, .ref o), (1, .int (nI j)), (2, .int p1), (3, .int p2), (4, .int p3)]) hx hb dX2_read_247 hl (k := 0) rfl (by decide) (by decide) rfl (fun ls hl => ?_)
      refine lv_goto (tgt := 227) hx hb dX2_read_250 (by decide) ?_
      refine lv_iload hx hb dX2_read_227 (lv_at hl 0 rfl) ?_
      refine lv_iconst (v := 4) hx hb dX2_read_229 (by decide) ?_
      refine lv_icmp_ge (tgt := 253) hx hb dX2_read_230 (by decide) (fun c_29 => absurd c_29 (by decide)) (fun c_29 => ?_)
      refine lv_aload_n hx hb dX2_read_233 rfl (lv_at hl 6 rfl) ?_
      refine va_get (D := (dC, dI)) (ci := 2) (v := .ref a4) (C := "TextureUnitsModel") (T := TX2) (N := 11) hx hb hts (tw_s inX2) hown hK hP 0 rfl rfl 4 (by decide) (hts _ (tw_c tw_337)) (fun _ h9 => h9) rfl dX2_read_234 ?_
      refine lv_iload hx hb dX2_read_237 (lv_at hl 0 rfl) ?_
      refine lv_aload_n hx hb dX2_read_239 rfl (lv_at hl 6 rfl) ?_
      refine va_get (D := (dC, dI)) (ci := 2) (v := .ref a5) (C := "TextureUnitsModel") (T := TX2) (N := 11) hx hb hts (tw_s inX2) hown hK hP 0 rfl rfl 5 (by decide) (hts _ (tw_c tw_338)) (fun _ h9 => h9) rfl dX2_read_240 ?_
      refine lv_iload hx hb dX2_read_243 (lv_at hl 0 rfl) ?_
      refine va_iald hx hb hK hP 5 0 rfl rfl (tu_in (by decide)) dX2_read_245 ?_
      refine lv_topi (fun x_30 ex_30 => ?_)
      have ex_30 : x_30 = (md_one mem un bo j a f ga gb n p1 p2 2) := ((ex_30).trans (pk_un (by decide))).trans pk_us
      subst ex_30
      refine va_iast hx hb hK hP hD hS 4 0 rfl rfl (tu_in (by decide)) dX2_read_246 (fun H locs hP hD hS => ?_)
      have hP : va_P (dC, dI) vwCl [(o, .inr (2, [.int 0, .ref a1, .ref a2, .ref a3, .ref a4, .ref a5, .ref a6, .ref a7, .ref a8, .ref a9, .ref a10])), (a1, .inl (cI, 2048, .inl mem)), (a2, .inl (cI, 32, .inl un)), (a3, .inl (cI, 16, .inl bo)), (a4, .inl (cI, 4, .inl (upd (upd (upd lt 0 (md_one mem un bo j a f ga gb n p1 p2 0)) 1 (md_one mem un bo j a f ga gb n p1 p2 1)) 2 (md_one mem un bo j a f ga gb n p1 p2 2)))), (a5, .inl (cI, 4, .inl (tu_put4 z_13 (md_one mem un bo j a f ga gb n p1 p2 0) (md_one mem un bo j a f ga gb n p1 p2 1) (md_one mem un bo j a f ga gb n p1 p2 2) (md_one mem un bo j a f ga gb n p1 p2 3)))), (a6, .inl (cI, 4, .inl z_14)), (a7, .inl (cI, 4, .inl z_15)), (a8, .inl (cI, 4, .inl ne)), (a9, .inl (cI, 4, .inl z_16)), (a10, .inl (cI, 4, .inl z_17))] H := hP
      have hD : va_D A [(o, .inr (2, [.int 0, .ref a1, .ref a2, .ref a3, .ref a4, .ref a5, .ref a6, .ref a7, .ref a8, .ref a9, .ref a10])), (a1, .inl (cI, 2048, .inl mem)), (a2, .inl (cI, 32, .inl un)), (a3, .inl (cI, 16, .inl bo)), (a4, .inl (cI, 4, .inl (upd (upd (upd lt 0 (md_one mem un bo j a f ga gb n p1 p2 0)) 1 (md_one mem un bo j a f ga gb n p1 p2 1)) 2 (md_one mem un bo j a f ga gb n p1 p2 2)))), (a5, .inl (cI, 4, .inl (tu_put4 z_13 (md_one mem un bo j a f ga gb n p1 p2 0) (md_one mem un bo j a f ga gb n p1 p2 1) (md_one mem un bo j a f ga gb n p1 p2 2) (md_one mem un bo j a f ga gb n p1 p2 3)))), (a6, .inl (cI, 4, .inl z_14)), (a7, .inl (cI, 4, .inl z_15)), (a8, .inl (cI, 4, .inl ne)), (a9, .inl (cI, 4, .inl z_16)), (a10, .inl (cI, 4, .inl z_17))] := hD
      refine lv_iinc (v := 3) (lv' := [(10, .int 3), (9, .int (nI n)), (8, .int 0), (7, .int 2), (6, .int L), (5, .int ((65536 : Int32) * ((un ((8 * j) + 3)) - (1 : Int32)))), (0, .ref o), (1, .int (nI j)), (2, .int p1), (3, .int p2), (4, .int p3)]) hx hb dX2_read_247 hl (k := 0) rfl (by decide) (by decide) rfl (fun ls hl => ?_)
      refine lv_goto (tgt := 227) hx hb dX2_read_250 (by decide) ?_
      refine lv_iload hx hb dX2_read_227 (lv_at hl 0 rfl) ?_
      refine lv_iconst (v := 4) hx hb dX2_read_229 (by decide) ?_
      refine lv_icmp_ge (tgt := 253) hx hb dX2_read_230 (by decide) (fun c_31 => absurd c_31 (by decide)) (fun c_31 => ?_)
      refine lv_aload_n hx hb dX2_read_233 rfl (lv_at hl 6 rfl) ?_
      refine va_get (D := (dC, dI)) (ci := 2) (v := .ref a4) (C := "TextureUnitsModel") (T := TX2) (N := 11) hx hb hts (tw_s inX2) hown hK hP 0 rfl rfl 4 (by decide) (hts _ (tw_c tw_337)) (fun _ h9 => h9) rfl dX2_read_234 ?_
      refine lv_iload hx hb dX2_read_237 (lv_at hl 0 rfl) ?_
      refine lv_aload_n hx hb dX2_read_239 rfl (lv_at hl 6 rfl) ?_
      refine va_get (D := (dC, dI)) (ci := 2) (v := .ref a5) (C := "TextureUnitsModel") (T := TX2) (N := 11) hx hb hts (tw_s inX2) hown hK hP 0 rfl rfl 5 (by decide) (hts _ (tw_c tw_338)) (fun _ h9 => h9) rfl dX2_read_240 ?_
      refine lv_iload hx hb dX2_read_243 (lv_at hl 0 rfl) ?_
      refine va_iald hx hb hK hP 5 0 rfl rfl (tu_in (by decide)) dX2_read_245 ?_
      refine lv_topi (fun x_32 ex_32 => ?_)
      have ex_32 : x_32 = (md_one mem un bo j a f ga gb n p1 p2 3) := (ex_32).trans pk_us
      subst ex_32
      refine va_iast hx hb hK hP hD hS 4 0 rfl rfl (tu_in (by decide)) dX2_read_246 (fun H locs hP hD hS => ?_)
      have hP : va_P (dC, dI) vwCl [(o, .inr (2, [.int 0, .ref a1, .ref a2, .ref a3, .ref a4, .ref a5, .ref a6, .ref a7, .ref a8, .ref a9, .ref a10])), (a1, .inl (cI, 2048, .inl mem)), (a2, .inl (cI, 32, .inl un)), (a3, .inl (cI, 16, .inl bo)), (a4, .inl (cI, 4, .inl (upd (upd (upd (upd lt 0 (md_one mem un bo j a f ga gb n p1 p2 0)) 1 (md_one mem un bo j a f ga gb n p1 p2 1)) 2 (md_one mem un bo j a f ga gb n p1 p2 2)) 3 (md_one mem un bo j a f ga gb n p1 p2 3)))), (a5, .inl (cI, 4, .inl (tu_put4 z_13 (md_one mem un bo j a f ga gb n p1 p2 0) (md_one mem un bo j a f ga gb n p1 p2 1) (md_one mem un bo j a f ga gb n p1 p2 2) (md_one mem un bo j a f ga gb n p1 p2 3)))), (a6, .inl (cI, 4, .inl z_14)), (a7, .inl (cI, 4, .inl z_15)), (a8, .inl (cI, 4, .inl ne)), (a9, .inl (cI, 4, .inl z_16)), (a10, .inl (cI, 4, .inl z_17))] H := hP
      have hD : va_D A [(o, .inr (2, [.int 0, .ref a1, .ref a2, .ref a3, .ref a4, .ref a5, .ref a6, .ref a7, .ref a8, .ref a9, .ref a10])), (a1, .inl (cI, 2048, .inl mem)), (a2, .inl (cI, 32, .inl un)), (a3, .inl (cI, 16, .inl bo)), (a4, .inl (cI, 4, .inl (upd (upd (upd (upd lt 0 (md_one mem un bo j a f ga gb n p1 p2 0)) 1 (md_one mem un bo j a f ga gb n p1 p2 1)) 2 (md_one mem un bo j a f ga gb n p1 p2 2)) 3 (md_one mem un bo j a f ga gb n p1 p2 3)))), (a5, .inl (cI, 4, .inl (tu_put4 z_13 (md_one mem un bo j a f ga gb n p1 p2 0) (md_one mem un bo j a f ga gb n p1 p2 1) (md_one mem un bo j a f ga gb n p1 p2 2) (md_one mem un bo j a f ga gb n p1 p2 3)))), (a6, .inl (cI, 4, .inl z_14)), (a7, .inl (cI, 4, .inl z_15)), (a8, .inl (cI, 4, .inl ne)), (a9, .inl (cI, 4, .inl z_16)), (a10, .inl (cI, 4, .inl z_17))] := hD
      refine lv_iinc (v := 4) (lv' := [(10, .int 4), (9, .int (nI n)), (8, .int 0), (7, .int 2), (6, .int L), (5, .int ((65536 : Int32) * ((un ((8 * j) + 3)) - (1 : Int32)))), (0, .ref o), (1, .int (nI j)), (2, .int p1), (3, .int p2), (4, .int p3)]) hx hb dX2_read_247 hl (k := 0) rfl (by decide) (by decide) rfl (fun ls hl => ?_)
      refine lv_goto (tgt := 227) hx hb dX2_read_250 (by decide) ?_
      refine lv_iload hx hb dX2_read_227 (lv_at hl 0 rfl) ?_
      refine lv_iconst (v := 4) hx hb dX2_read_229 (by decide) ?_
      refine lv_icmp_ge (tgt := 253) hx hb dX2_read_230 (by decide) (fun c_33 => ?_) (fun c_33 => absurd (by decide) c_33)
      refine lv_aload_n hx hb dX2_read_253 rfl (lv_at hl 6 rfl) ?_
      refine va_get (D := (dC, dI)) (ci := 2) (v := .ref a4) (C := "TextureUnitsModel") (T := TX2) (N := 11) hx hb hts (tw_s inX2) hown hK hP 0 rfl rfl 4 (by decide) (hts _ (tw_c tw_337)) (fun _ h9 => h9) rfl dX2_read_254 ?_
      refine lv_iconst (v := 0) hx hb dX2_read_257 (by decide) ?_
      refine va_iald hx hb hK hP 4 0 rfl rfl (tu_in (by decide)) dX2_read_258 ?_
      refine lv_topi (fun x_34 ex_34 => ?_)
      have ex_34 : x_34 = (md_one mem un bo j a f ga gb n p1 p2 0) := ((((ex_34).trans (pk_un (by decide))).trans (pk_un (by decide))).trans (pk_un (by decide))).trans pk_us
      subst ex_34
      have hge : lv ≤ n + 1 := (nI_leI (by omega) (by omega)).mp c_24
      have hz : ∀ c : Nat, md_rdv mem un bo j a f ga gb 2 lv n p1 p2 L c = md_one mem un bo j a f ga gb n p1 p2 c := fun c => by rw [md_rdv_n (fun h => absurd h.2 (by omega)), md_lvl_o (by decide)]
      have hP : va_P (dC, dI) vwCl [(o, .inr (2, [.int 0, .ref a1, .ref a2, .ref a3, .ref a4, .ref a5, .ref a6, .ref a7, .ref a8, .ref a9, .ref a10])), (a1, .inl (cI, 2048, .inl mem)), (a2, .inl (cI, 32, .inl un)), (a3, .inl (cI, 16, .inl bo)), (a4, .inl (cI, 4, .inl (tu_put4 lt (md_rdv mem un bo j a f ga gb 2 lv n p1 p2 L 0) (md_rdv mem un bo j a f ga gb 2 lv n p1 p2 L 1) (md_rdv mem un bo j a f ga gb 2 lv n p1 p2 L 2) (md_rdv mem un bo j a f ga gb 2 lv n p1 p2 L 3)))), (a5, .inl (cI, 4, .inl (tu_put4 z_13 (md_one mem un bo j a f ga gb n p1 p2 0) (md_one mem un bo j a f ga gb n p1 p2 1) (md_one mem un bo j a f ga gb n p1 p2 2) (md_one mem un bo j a f ga gb n p1 p2 3)))), (a6, .inl (cI, 4, .inl z_14)), (a7, .inl (cI, 4, .inl z_15)), (a8, .inl (cI, 4, .inl ne)), (a9, .inl (cI, 4, .inl z_16)), (a10, .inl (cI, 4, .inl z_17))] H := by rw [hz, hz, hz, hz]; exact hP
      have hD : va_D A [(o, .inr (2, [.int 0, .ref a1, .ref a2, .ref a3, .ref a4, .ref a5, .ref a6, .ref a7, .ref a8, .ref a9, .ref a10])), (a1, .inl (cI, 2048, .inl mem)), (a2, .inl (cI, 32, .inl un)), (a3, .inl (cI, 16, .inl bo)), (a4, .inl (cI, 4, .inl (tu_put4 lt (md_rdv mem un bo j a f ga gb 2 lv n p1 p2 L 0) (md_rdv mem un bo j a f ga gb 2 lv n p1 p2 L 1) (md_rdv mem un bo j a f ga gb 2 lv n p1 p2 L 2) (md_rdv mem un bo j a f ga gb 2 lv n p1 p2 L 3)))), (a5, .inl (cI, 4, .inl (tu_put4 z_13 (md_one mem un bo j a f ga gb n p1 p2 0) (md_one mem un bo j a f ga gb n p1 p2 1) (md_one mem un bo j a f ga gb n p1 p2 2) (md_one mem un bo j a f ga gb n p1 p2 3)))), (a6, .inl (cI, 4, .inl z_14)), (a7, .inl (cI, 4, .inl z_15)), (a8, .inl (cI, 4, .inl ne)), (a9, .inl (cI, 4, .inl z_16)), (a10, .inl (cI, 4, .inl z_17))] := by rw [hz, hz, hz, hz]; exact hD
      skip
      have hP9 : va_P (dC, dI) vwCl [(o, .inr (2, [.int 0, .ref a1, .ref a2, .ref a3, .ref a4, .ref a5, .ref a6, .ref a7, .ref a8, .ref a9, .ref a10])), (a1, .inl (cI, 2048, .inl mem)), (a2, .inl (cI, 32, .inl un)), (a3, .inl (cI, 16, .inl bo)), (a4, .inl (cI, 4, .inl (tu_put4 lt (md_rdv mem un bo j a f ga gb 2 lv n p1 p2 L 0) (md_rdv mem un bo j a f ga gb 2 lv n p1 p2 L 1) (md_rdv mem un bo j a f ga gb 2 lv n p1 p2 L 2) (md_rdv mem un bo j a f ga gb 2 lv n p1 p2 L 3)))), (a5, .inl (cI, 4, .inl (tu_put4 z_13 (md_one mem un bo j a f ga gb n p1 p2 0) (md_one mem un bo j a f ga gb n p1 p2 1) (md_one mem un bo j a f ga gb n p1 p2 2) (md_one mem un bo j a f ga gb n p1 p2 3)))), (a6, .inl (cI, 4, .inl z_14)), (a7, .inl (cI, 4, .inl z_15)), (a8, .inl (cI, 4, .inl ne)), (a9, .inl (cI, 4, .inl z_16)), (a10, .inl (cI, 4, .inl z_17))] H := hP.sub [0, 1, 2, 3, 4, 5, 6, 7, 8, 9, 10] rfl
      have hD9 : va_D A [(o, .inr (2, [.int 0, .ref a1, .ref a2, .ref a3, .ref a4, .ref a5, .ref a6, .ref a7, .ref a8, .ref a9, .ref a10])), (a1, .inl (cI, 2048, .inl mem)), (a2, .inl (cI, 32, .inl un)), (a3, .inl (cI, 16, .inl bo)), (a4, .inl (cI, 4, .inl (tu_put4 lt (md_rdv mem un bo j a f ga gb 2 lv n p1 p2 L 0) (md_rdv mem un bo j a f ga gb 2 lv n p1 p2 L 1) (md_rdv mem un bo j a f ga gb 2 lv n p1 p2 L 2) (md_rdv mem un bo j a f ga gb 2 lv n p1 p2 L 3)))), (a5, .inl (cI, 4, .inl (tu_put4 z_13 (md_one mem un bo j a f ga gb n p1 p2 0) (md_one mem un bo j a f ga gb n p1 p2 1) (md_one mem un bo j a f ga gb n p1 p2 2) (md_one mem un bo j a f ga gb n p1 p2 3)))), (a6, .inl (cI, 4, .inl z_14)), (a7, .inl (cI, 4, .inl z_15)), (a8, .inl (cI, 4, .inl ne)), (a9, .inl (cI, 4, .inl z_16)), (a10, .inl (cI, 4, .inl z_17))] := hD.sub [0, 1, 2, 3, 4, 5, 6, 7, 8, 9, 10] (by decide) rfl
      have hK9 : va_K (dC, dI) vwCl [(cI, .int)] s := hK.sub [0] rfl
      exact W.iret (v := (md_one mem un bo j a f ga gb n p1 p2 0)) hx hb hr (fun t ht hW => ⟨⟨(md_one mem un bo j a f ga gb n p1 p2 0), (), rfl, (hz 0).symm, (tu_put4 z_13 (md_one mem un bo j a f ga gb n p1 p2 0) (md_one mem un bo j a f ga gb n p1 p2 1) (md_one mem un bo j a f ga gb n p1 p2 2) (md_one mem un bo j a f ga gb n p1 p2 3)), z_14, z_15, ne, z_16, z_17, by rw [ht]; exact hP9, va_K.moved hW.alike hK9, hD9⟩, hS.F ht⟩) hS.2.2 dX2_read_259
    · refine lv_iconst (v := 0) hx hb dX2_read_138 (by decide) ?_
      refine lv_istore (lv' := [(10, .int 0), (9, .int (nI n)), (8, .int 0), (7, .int 2), (6, .int L), (5, .int ((65536 : Int32) * ((un ((8 * j) + 3)) - (1 : Int32)))), (0, .ref o), (1, .int (nI j)), (2, .int p1), (3, .int p2), (4, .int p3)]) hx hb dX2_read_139 hl (by decide) rfl (fun ls hl => ?_)
      refine lv_iload hx hb dX2_read_141 (lv_at hl 0 rfl) ?_
      refine lv_iconst (v := 4) hx hb dX2_read_143 (by decide) ?_
      refine lv_icmp_ge (tgt := 167) hx hb dX2_read_144 (by decide) (fun c_35 => absurd c_35 (by decide)) (fun c_35 => ?_)
      refine lv_aload_n hx hb dX2_read_147 rfl (lv_at hl 6 rfl) ?_
      refine va_get (D := (dC, dI)) (ci := 2) (v := .ref a8) (C := "TextureUnitsModel") (T := TX2) (N := 11) hx hb hts (tw_s inX2) hown hK hP 0 rfl rfl 8 (by decide) (hts _ (tw_c tw_341)) (fun _ h9 => h9) rfl dX2_read_148 ?_
      refine lv_iload hx hb dX2_read_151 (lv_at hl 0 rfl) ?_
      refine lv_aload_n hx hb dX2_read_153 rfl (lv_at hl 6 rfl) ?_
      refine va_get (D := (dC, dI)) (ci := 2) (v := .ref a5) (C := "TextureUnitsModel") (T := TX2) (N := 11) hx hb hts (tw_s inX2) hown hK hP 0 rfl rfl 5 (by decide) (hts _ (tw_c tw_338)) (fun _ h9 => h9) rfl dX2_read_154 ?_
      refine lv_iload hx hb dX2_read_157 (lv_at hl 0 rfl) ?_
      refine va_iald hx hb hK hP 5 0 rfl rfl (tu_in (by decide)) dX2_read_159 ?_
      refine lv_topi (fun x_36 ex_36 => ?_)
      have ex_36 : x_36 = (md_one mem un bo j a f ga gb n p1 p2 0) := ((((ex_36).trans (pk_un (by decide))).trans (pk_un (by decide))).trans (pk_un (by decide))).trans pk_us
      subst ex_36
      refine va_iast hx hb hK hP hD hS 8 0 rfl rfl (tu_in (by decide)) dX2_read_160 (fun H locs hP hD hS => ?_)
      have hP : va_P (dC, dI) vwCl [(o, .inr (2, [.int 0, .ref a1, .ref a2, .ref a3, .ref a4, .ref a5, .ref a6, .ref a7, .ref a8, .ref a9, .ref a10])), (a1, .inl (cI, 2048, .inl mem)), (a2, .inl (cI, 32, .inl un)), (a3, .inl (cI, 16, .inl bo)), (a4, .inl (cI, 4, .inl lt)), (a5, .inl (cI, 4, .inl (tu_put4 z_13 (md_one mem un bo j a f ga gb n p1 p2 0) (md_one mem un bo j a f ga gb n p1 p2 1) (md_one mem un bo j a f ga gb n p1 p2 2) (md_one mem un bo j a f ga gb n p1 p2 3)))), (a6, .inl (cI, 4, .inl z_14)), (a7, .inl (cI, 4, .inl z_15)), (a8, .inl (cI, 4, .inl (upd ne 0 (md_one mem un bo j a f ga gb n p1 p2 0)))), (a9, .inl (cI, 4, .inl z_16)), (a10, .inl (cI, 4, .inl z_17))] H := hP
      have hD : va_D A [(o, .inr (2, [.int 0, .ref a1, .ref a2, .ref a3, .ref a4, .ref a5, .ref a6, .ref a7, .ref a8, .ref a9, .ref a10])), (a1, .inl (cI, 2048, .inl mem)), (a2, .inl (cI, 32, .inl un)), (a3, .inl (cI, 16, .inl bo)), (a4, .inl (cI, 4, .inl lt)), (a5, .inl (cI, 4, .inl (tu_put4 z_13 (md_one mem un bo j a f ga gb n p1 p2 0) (md_one mem un bo j a f ga gb n p1 p2 1) (md_one mem un bo j a f ga gb n p1 p2 2) (md_one mem un bo j a f ga gb n p1 p2 3)))), (a6, .inl (cI, 4, .inl z_14)), (a7, .inl (cI, 4, .inl z_15)), (a8, .inl (cI, 4, .inl (upd ne 0 (md_one mem un bo j a f ga gb n p1 p2 0)))), (a9, .inl (cI, 4, .inl z_16)), (a10, .inl (cI, 4, .inl z_17))] := hD
      refine lv_iinc (v := 1) (lv' := [(10, .int 1), (9, .int (nI n)), (8, .int 0), (7, .int 2), (6, .int L), (5, .int ((65536 : Int32) * ((un ((8 * j) + 3)) - (1 : Int32)))), (0, .ref o), (1, .int (nI j)), (2, .int p1), (3, .int p2), (4, .int p3)]) hx hb dX2_read_161 hl (k := 0) rfl (by decide) (by decide) rfl (fun ls hl => ?_)
      refine lv_goto (tgt := 141) hx hb dX2_read_164 (by decide) ?_
      refine lv_iload hx hb dX2_read_141 (lv_at hl 0 rfl) ?_
      refine lv_iconst (v := 4) hx hb dX2_read_143 (by decide) ?_
      refine lv_icmp_ge (tgt := 167) hx hb dX2_read_144 (by decide) (fun c_37 => absurd c_37 (by decide)) (fun c_37 => ?_)
      refine lv_aload_n hx hb dX2_read_147 rfl (lv_at hl 6 rfl) ?_
      refine va_get (D := (dC, dI)) (ci := 2) (v := .ref a8) (C := "TextureUnitsModel") (T := TX2) (N := 11) hx hb hts (tw_s inX2) hown hK hP 0 rfl rfl 8 (by decide) (hts _ (tw_c tw_341)) (fun _ h9 => h9) rfl dX2_read_148 ?_
      refine lv_iload hx hb dX2_read_151 (lv_at hl 0 rfl) ?_
      refine lv_aload_n hx hb dX2_read_153 rfl (lv_at hl 6 rfl) ?_
      refine va_get (D := (dC, dI)) (ci := 2) (v := .ref a5) (C := "TextureUnitsModel") (T := TX2) (N := 11) hx hb hts (tw_s inX2) hown hK hP 0 rfl rfl 5 (by decide) (hts _ (tw_c tw_338)) (fun _ h9 => h9) rfl dX2_read_154 ?_
      refine lv_iload hx hb dX2_read_157 (lv_at hl 0 rfl) ?_
      refine va_iald hx hb hK hP 5 0 rfl rfl (tu_in (by decide)) dX2_read_159 ?_
      refine lv_topi (fun x_38 ex_38 => ?_)
      have ex_38 : x_38 = (md_one mem un bo j a f ga gb n p1 p2 1) := (((ex_38).trans (pk_un (by decide))).trans (pk_un (by decide))).trans pk_us
      subst ex_38
      refine va_iast hx hb hK hP hD hS 8 0 rfl rfl (tu_in (by decide)) dX2_read_160 (fun H locs hP hD hS => ?_)
      have hP : va_P (dC, dI) vwCl [(o, .inr (2, [.int 0, .ref a1, .ref a2, .ref a3, .ref a4, .ref a5, .ref a6, .ref a7, .ref a8, .ref a9, .ref a10])), (a1, .inl (cI, 2048, .inl mem)), (a2, .inl (cI, 32, .inl un)), (a3, .inl (cI, 16, .inl bo)), (a4, .inl (cI, 4, .inl lt)), (a5, .inl (cI, 4, .inl (tu_put4 z_13 (md_one mem un bo j a f ga gb n p1 p2 0) (md_one mem un bo j a f ga gb n p1 p2 1) (md_one mem un bo j a f ga gb n p1 p2 2) (md_one mem un bo j a f ga gb n p1 p2 3)))), (a6, .inl (cI, 4, .inl z_14)), (a7, .inl (cI, 4, .inl z_15)), (a8, .inl (cI, 4, .inl (upd (upd ne 0 (md_one mem un bo j a f ga gb n p1 p2 0)) 1 (md_one mem un bo j a f ga gb n p1 p2 1)))), (a9, .inl (cI, 4, .inl z_16)), (a10, .inl (cI, 4, .inl z_17))] H := hP
      have hD : va_D A [(o, .inr (2, [.int 0, .ref a1, .ref a2, .ref a3, .ref a4, .ref a5, .ref a6, .ref a7, .ref a8, .ref a9, .ref a10])), (a1, .inl (cI, 2048, .inl mem)), (a2, .inl (cI, 32, .inl un)), (a3, .inl (cI, 16, .inl bo)), (a4, .inl (cI, 4, .inl lt)), (a5, .inl (cI, 4, .inl (tu_put4 z_13 (md_one mem un bo j a f ga gb n p1 p2 0) (md_one mem un bo j a f ga gb n p1 p2 1) (md_one mem un bo j a f ga gb n p1 p2 2) (md_one mem un bo j a f ga gb n p1 p2 3)))), (a6, .inl (cI, 4, .inl z_14)), (a7, .inl (cI, 4, .inl z_15)), (a8, .inl (cI, 4, .inl (upd (upd ne 0 (md_one mem un bo j a f ga gb n p1 p2 0)) 1 (md_one mem un bo j a f ga gb n p1 p2 1)))), (a9, .inl (cI, 4, .inl z_16)), (a10, .inl (cI, 4, .inl z_17))] := hD
      refine lv_iinc (v := 2) (lv' := [(10, .int 2), (9, .int (nI n)), (8, .int 0), (7, .int 2), (6, .int L), (5, .int ((65536 : Int32) * ((un ((8 * j) + 3)) - (1 : Int32)))), (0, .ref o), (1, .int (nI j)), (2, .int p1), (3, .int p2), (4, .int p3)]) hx hb dX2_read_161 hl (k := 0) rfl (by decide) (by decide) rfl (fun ls hl => ?_)
      refine lv_goto (tgt := 141) hx hb dX2_read_164 (by decide) ?_
      refine lv_iload hx hb dX2_read_141 (lv_at hl 0 rfl) ?_
      refine lv_iconst (v := 4) hx hb dX2_read_143 (by decide) ?_
      refine lv_icmp_ge (tgt := 167) hx hb dX2_read_144 (by decide) (fun c_39 => absurd c_39 (by decide)) (fun c_39 => ?_)
      refine lv_aload_n hx hb dX2_read_147 rfl (lv_at hl 6 rfl) ?_
      refine va_get (D := (dC, dI)) (ci := 2) (v := .ref a8) (C := "TextureUnitsModel") (T := TX2) (N := 11) hx hb hts (tw_s inX2) hown hK hP 0 rfl rfl 8 (by decide) (hts _ (tw_c tw_341)) (fun _ h9 => h9) rfl dX2_read_148 ?_
      refine lv_iload hx hb dX2_read_151 (lv_at hl 0 rfl) ?_
      refine lv_aload_n hx hb dX2_read_153 rfl (lv_at hl 6 rfl) ?_
      refine va_get (D := (dC, dI)) (ci := 2) (v := .ref a5) (C := "TextureUnitsModel") (T := TX2) (N := 11) hx hb hts (tw_s inX2) hown hK hP 0 rfl rfl 5 (by decide) (hts _ (tw_c tw_338)) (fun _ h9 => h9) rfl dX2_read_154 ?_
      refine lv_iload hx hb dX2_read_157 (lv_at hl 0 rfl) ?_
      refine va_iald hx hb hK hP 5 0 rfl rfl (tu_in (by decide)) dX2_read_159 ?_
      refine lv_topi (fun x_40 ex_40 => ?_)
      have ex_40 : x_40 = (md_one mem un bo j a f ga gb n p1 p2 2) := ((ex_40).trans (pk_un (by decide))).trans pk_us
      subst ex_40
      refine va_iast hx hb hK hP hD hS 8 0 rfl rfl (tu_in (by decide)) dX2_read_160 (fun H locs hP hD hS => ?_)
      have hP : va_P (dC, dI) vwCl [(o, .inr (2, [.int 0, .ref a1, .ref a2, .ref a3, .ref a4, .ref a5, .ref a6, .ref a7, .ref a8, .ref a9, .ref a10])), (a1, .inl (cI, 2048, .inl mem)), (a2, .inl (cI, 32, .inl un)), (a3, .inl (cI, 16, .inl bo)), (a4, .inl (cI, 4, .inl lt)), (a5, .inl (cI, 4, .inl (tu_put4 z_13 (md_one mem un bo j a f ga gb n p1 p2 0) (md_one mem un bo j a f ga gb n p1 p2 1) (md_one mem un bo j a f ga gb n p1 p2 2) (md_one mem un bo j a f ga gb n p1 p2 3)))), (a6, .inl (cI, 4, .inl z_14)), (a7, .inl (cI, 4, .inl z_15)), (a8, .inl (cI, 4, .inl (upd (upd (upd ne 0 (md_one mem un bo j a f ga gb n p1 p2 0)) 1 (md_one mem un bo j a f ga gb n p1 p2 1)) 2 (md_one mem un bo j a f ga gb n p1 p2 2)))), (a9, .inl (cI, 4, .inl z_16)), (a10, .inl (cI, 4, .inl z_17))] H := hP
      have hD : va_D A [(o, .inr (2, [.int 0, .ref a1, .ref a2, .ref a3, .ref a4, .ref a5, .ref a6, .ref a7, .ref a8, .ref a9, .ref a10])), (a1, .inl (cI, 2048, .inl mem)), (a2, .inl (cI, 32, .inl un)), (a3, .inl (cI, 16, .inl bo)), (a4, .inl (cI, 4, .inl lt)), (a5, .inl (cI, 4, .inl (tu_put4 z_13 (md_one mem un bo j a f ga gb n p1 p2 0) (md_one mem un bo j a f ga gb n p1 p2 1) (md_one mem un bo j a f ga gb n p1 p2 2) (md_one mem un bo j a f ga gb n p1 p2 3)))), (a6, .inl (cI, 4, .inl z_14)), (a7, .inl (cI, 4, .inl z_15)), (a8, .inl (cI, 4, .inl (upd (upd (upd ne 0 (md_one mem un bo j a f ga gb n p1 p2 0)) 1 (md_one mem un bo j a f ga gb n p1 p2 1)) 2 (md_one mem un bo j a f ga gb n p1 p2 2)))), (a9, .inl (cI, 4, .inl z_16)), (a10, .inl (cI, 4, .inl z_17))] := hD
      refine lv_iinc (v := 3) (lv' := [(10, .int 3), (9, .int (nI n)), (8, .int 0), (7, .int 2), (6, .int L), (5, .int ((65536 : Int32) * ((un ((8 * j) + 3)) - (1 : Int32)))), (0, .ref o), (1, .int (nI j)), (2, .int p1), (3, .int p2), (4, .int p3)]) hx hb dX2_read_161 hl (k := 0) rfl (by decide) (by decide) rfl (fun ls hl => ?_)
      refine lv_goto (tgt := 141) hx hb dX2_read_164 (by decide) ?_
      refine lv_iload hx hb dX2_read_141 (lv_at hl 0 rfl) ?_
      refine lv_iconst (v := 4) hx hb dX2_read_143 (by decide) ?_
      refine lv_icmp_ge (tgt := 167) hx hb dX2_read_144 (by decide) (fun c_41 => absurd c_41 (by decide)) (fun c_41 => ?_)
      refine lv_aload_n hx hb dX2_read_147 rfl (lv_at hl 6 rfl) ?_
      refine va_get (D := (dC, dI)) (ci := 2) (v := .ref a8) (C := "TextureUnitsModel") (T := TX2) (N := 11) hx hb hts (tw_s inX2) hown hK hP 0 rfl rfl 8 (by decide) (hts _ (tw_c tw_341)) (fun _ h9 => h9) rfl dX2_read_148 ?_
      refine lv_iload hx hb dX2_read_151 (lv_at hl 0 rfl) ?_
      refine lv_aload_n hx hb dX2_read_153 rfl (lv_at hl 6 rfl) ?_
      refine va_get (D := (dC, dI)) (ci := 2) (v := .ref a5) (C := "TextureUnitsModel") (T := TX2) (N := 11) hx hb hts (tw_s inX2) hown hK hP 0 rfl rfl 5 (by decide) (hts _ (tw_c tw_338)) (fun _ h9 => h9) rfl dX2_read_154 ?_
      refine lv_iload hx hb dX2_read_157 (lv_at hl 0 rfl) ?_
      refine va_iald hx hb hK hP 5 0 rfl rfl (tu_in (by decide)) dX2_read_159 ?_
      refine lv_topi (fun x_42 ex_42 => ?_)
      have ex_42 : x_42 = (md_one mem un bo j a f ga gb n p1 p2 3) := (ex_42).trans pk_us
      subst ex_42
      refine va_iast hx hb hK hP hD hS 8 0 rfl rfl (tu_in (by decide)) dX2_read_160 (fun H locs hP hD hS => ?_)
      have hP : va_P (dC, dI) vwCl [(o, .inr (2, [.int 0, .ref a1, .ref a2, .ref a3, .ref a4, .ref a5, .ref a6, .ref a7, .ref a8, .ref a9, .ref a10])), (a1, .inl (cI, 2048, .inl mem)), (a2, .inl (cI, 32, .inl un)), (a3, .inl (cI, 16, .inl bo)), (a4, .inl (cI, 4, .inl lt)), (a5, .inl (cI, 4, .inl (tu_put4 z_13 (md_one mem un bo j a f ga gb n p1 p2 0) (md_one mem un bo j a f ga gb n p1 p2 1) (md_one mem un bo j a f ga gb n p1 p2 2) (md_one mem un bo j a f ga gb n p1 p2 3)))), (a6, .inl (cI, 4, .inl z_14)), (a7, .inl (cI, 4, .inl z_15)), (a8, .inl (cI, 4, .inl (upd (upd (upd (upd ne 0 (md_one mem un bo j a f ga gb n p1 p2 0)) 1 (md_one mem un bo j a f ga gb n p1 p2 1)) 2 (md_one mem un bo j a f ga gb n p1 p2 2)) 3 (md_one mem un bo j a f ga gb n p1 p2 3)))), (a9, .inl (cI, 4, .inl z_16)), (a10, .inl (cI, 4, .inl z_17))] H := hP
      have hD : va_D A [(o, .inr (2, [.int 0, .ref a1, .ref a2, .ref a3, .ref a4, .ref a5, .ref a6, .ref a7, .ref a8, .ref a9, .ref a10])), (a1, .inl (cI, 2048, .inl mem)), (a2, .inl (cI, 32, .inl un)), (a3, .inl (cI, 16, .inl bo)), (a4, .inl (cI, 4, .inl lt)), (a5, .inl (cI, 4, .inl (tu_put4 z_13 (md_one mem un bo j a f ga gb n p1 p2 0) (md_one mem un bo j a f ga gb n p1 p2 1) (md_one mem un bo j a f ga gb n p1 p2 2) (md_one mem un bo j a f ga gb n p1 p2 3)))), (a6, .inl (cI, 4, .inl z_14)), (a7, .inl (cI, 4, .inl z_15)), (a8, .inl (cI, 4, .inl (upd (upd (upd (upd ne 0 (md_one mem un bo j a f ga gb n p1 p2 0)) 1 (md_one mem un bo j a f ga gb n p1 p2 1)) 2 (md_one mem un bo j a f ga gb n p1 p2 2)) 3 (md_one mem un bo j a f ga gb n p1 p2 3)))), (a9, .inl (cI, 4, .inl z_16)), (a10, .inl (cI, 4, .inl z_17))] := hD
      refine lv_iinc (v := 4) (lv' := [(10, .int 4), (9, .int (nI n)), (8, .int 0), (7, .int 2), (6, .int L), (5, .int ((65536 : Int32) * ((un ((8 * j) + 3)) - (1 : Int32)))), (0, .ref o), (1, .int (nI j)), (2, .int p1), (3, .int p2), (4, .int p3)]) hx hb dX2_read_161 hl (k := 0) rfl (by decide) (by decide) rfl (fun ls hl => ?_)
      refine lv_goto (tgt := 141) hx hb dX2_read_164 (by decide) ?_
      refine lv_iload hx hb dX2_read_141 (lv_at hl 0 rfl) ?_
      refine lv_iconst (v := 4) hx hb dX2_read_143 (by decide) ?_
      refine lv_icmp_ge (tgt := 167) hx hb dX2_read_144 (by decide) (fun c_43 => ?_) (fun c_43 => absurd (by decide) c_43)
      refine lv_aload_n hx hb dX2_read_167 rfl (lv_at hl 6 rfl) ?_
      refine lv_iload_n hx hb dX2_read_168 rfl (lv_at hl 7 rfl) ?_
      refine lv_iload hx hb dX2_read_169 (lv_at hl 1 rfl) ?_
      refine lv_iconst (v := 1) hx hb dX2_read_171 (by decide) ?_
      refine lv_iadd hx hb dX2_read_172 ?_
      refine lv_topi (fun x_44 ex_44 => ?_)
      have ex_44 : x_44 = nI (n + 1) := ex_44.trans (nI_add n 1)
      subst ex_44
      refine lv_iload_n hx hb dX2_read_173 rfl (lv_at hl 8 rfl) ?_
      refine lv_iload_n hx hb dX2_read_174 rfl (lv_at hl 9 rfl) ?_
      refine lv_iload hx hb dX2_read_175 (lv_at hl 2 rfl) ?_
      have hPc := hP.sub (ws' := [(o, .inr (2, [.int 0, .ref a1, .ref a2, .ref a3, .ref a4, .ref a5, .ref a6, .ref a7, .ref a8, .ref a9, .ref a10])), (a1, .inl (cI, 2048, .inl mem)), (a2, .inl (cI, 32, .inl un)), (a3, .inl (cI, 16, .inl bo)), (a5, .inl (cI, 4, .inl (tu_put4 z_13 (md_one mem un bo j a f ga gb n p1 p2 0) (md_one mem un bo j a f ga gb n p1 p2 1) (md_one mem un bo j a f ga gb n p1 p2 2) (md_one mem un bo j a f ga gb n p1 p2 3)))), (a6, .inl (cI, 4, .inl z_14)), (a7, .inl (cI, 4, .inl z_15)), (a9, .inl (cI, 4, .inl z_16)), (a10, .inl (cI, 4, .inl z_17))]) [0, 1, 2, 3, 5, 6, 7, 9, 10] rfl
      have hDc := hD.sub (ws' := [(o, .inr (2, [.int 0, .ref a1, .ref a2, .ref a3, .ref a4, .ref a5, .ref a6, .ref a7, .ref a8, .ref a9, .ref a10])), (a1, .inl (cI, 2048, .inl mem)), (a2, .inl (cI, 32, .inl un)), (a3, .inl (cI, 16, .inl bo)), (a5, .inl (cI, 4, .inl (tu_put4 z_13 (md_one mem un bo j a f ga gb n p1 p2 0) (md_one mem un bo j a f ga gb n p1 p2 1) (md_one mem un bo j a f ga gb n p1 p2 2) (md_one mem un bo j a f ga gb n p1 p2 3)))), (a6, .inl (cI, 4, .inl z_14)), (a7, .inl (cI, 4, .inl z_15)), (a9, .inl (cI, 4, .inl z_16)), (a10, .inl (cI, 4, .inl z_17))]) [0, 1, 2, 3, 5, 6, 7, 9, 10] (by decide) rfl
      have hFc := va_free (wc := [(o, .inr (2, [.int 0, .ref a1, .ref a2, .ref a3, .ref a4, .ref a5, .ref a6, .ref a7, .ref a8, .ref a9, .ref a10])), (a1, .inl (cI, 2048, .inl mem)), (a2, .inl (cI, 32, .inl un)), (a3, .inl (cI, 16, .inl bo)), (a5, .inl (cI, 4, .inl (tu_put4 z_13 (md_one mem un bo j a f ga gb n p1 p2 0) (md_one mem un bo j a f ga gb n p1 p2 1) (md_one mem un bo j a f ga gb n p1 p2 2) (md_one mem un bo j a f ga gb n p1 p2 3)))), (a6, .inl (cI, 4, .inl z_14)), (a7, .inl (cI, 4, .inl z_15)), (a9, .inl (cI, 4, .inl z_16)), (a10, .inl (cI, 4, .inl z_17))]) hD hS hA [0, 1, 2, 3, 5, 6, 7, 9, 10] rfl
      refine va_callv (va_runV (As := [.int (nI j), .int (nI (n + 1)), .int p1, .int p2, .int 0]) (rest := []) ⟨hx, hb, hml, hown, hts⟩ (m_readLevel0 l dC dI o 0 a1 a2 a3 a4 a5 a6 a7 a8 a9 a10 cI mem un bo (tu_put4 z_13 (md_one mem un bo j a f ga gb n p1 p2 0) (md_one mem un bo j a f ga gb n p1 p2 1) (md_one mem un bo j a f ga gb n p1 p2 2) (md_one mem un bo j a f ga gb n p1 p2 3)) z_14 z_15 z_16 z_17 j (n + 1) a f ga gb p1 p2 H.size hj (show n + 1 ≤ 11 by omega) hf ha hga hgb ea e1 e2 ef) (cwV 5 hts (tg_V tw_442 tw_444 tw_p17 tw_3 tw_445) rfl rfl rfl (by decide +kernel) ⟨Nat.le_of_ble_eq_true rfl, Nat.le_of_ble_eq_true rfl⟩) ⟨wr_blind, va_recv hK hP (ci := 2) (q0 := 0) rfl rfl, fun U hU hW => ⟨rfl, wr_use hPc (hK.sub [0] rfl) hDc U hU hW⟩⟩ rfl rfl hl.1 rfl (lv_room (Nat.le_of_ble_eq_true rfl)) dX2_read_177 ⟨Nat.le_of_ble_eq_true rfl, Nat.le_of_ble_eq_true rfl⟩) hS (fun q _ h => hFc q h) hFc (fun u9 t9 H1 locs ht hvm hw hB hz1 hk1 hS => ?_)
      obtain ⟨z_45, z_46, z_47, z_48, z_49, hP1, hK1, hD1⟩ := hB
      rw [ht] at hP1
      obtain ⟨hP, hD⟩ := va_join (wr := [(a4, .inl (cI, 4, .inl lt)), (a8, .inl (cI, 4, .inl (upd (upd (upd (upd ne 0 (md_one mem un bo j a f ga gb n p1 p2 0)) 1 (md_one mem un bo j a f ga gb n p1 p2 1)) 2 (md_one mem un bo j a f ga gb n p1 p2 2)) 3 (md_one mem un bo j a f ga gb n p1 p2 3))))]) (w1 := [(o, .inr (2, [.int 0, .ref a1, .ref a2, .ref a3, .ref a4, .ref a5, .ref a6, .ref a7, .ref a8, .ref a9, .ref a10])), (a1, .inl (cI, 2048, .inl mem)), (a2, .inl (cI, 32, .inl un)), (a3, .inl (cI, 16, .inl bo)), (a5, .inl (cI, 4, .inl (tu_put4 z_45 (md_one mem un bo j a f ga gb (n + 1) p1 p2 0) (md_one mem un bo j a f ga gb (n + 1) p1 p2 1) (md_one mem un bo j a f ga gb (n + 1) p1 p2 2) (md_one mem un bo j a f ga gb (n + 1) p1 p2 3)))), (a6, .inl (cI, 4, .inl z_46)), (a7, .inl (cI, 4, .inl z_47)), (a9, .inl (cI, 4, .inl z_48)), (a10, .inl (cI, 4, .inl z_49))]) hP hD [0, 1, 2, 3, 5, 6, 7, 9, 10] [4, 8] rfl rfl (by decide) (by decide) hk1 hFc hP1 hD1
      have hP := hP.sub (ws' := [(o, .inr (2, [.int 0, .ref a1, .ref a2, .ref a3, .ref a4, .ref a5, .ref a6, .ref a7, .ref a8, .ref a9, .ref a10])), (a1, .inl (cI, 2048, .inl mem)), (a2, .inl (cI, 32, .inl un)), (a3, .inl (cI, 16, .inl bo)), (a4, .inl (cI, 4, .inl lt)), (a5, .inl (cI, 4, .inl (tu_put4 z_45 (md_one mem un bo j a f ga gb (n + 1) p1 p2 0) (md_one mem un bo j a f ga gb (n + 1) p1 p2 1) (md_one mem un bo j a f ga gb (n + 1) p1 p2 2) (md_one mem un bo j a f ga gb (n + 1) p1 p2 3)))), (a6, .inl (cI, 4, .inl z_46)), (a7, .inl (cI, 4, .inl z_47)), (a8, .inl (cI, 4, .inl (upd (upd (upd (upd ne 0 (md_one mem un bo j a f ga gb n p1 p2 0)) 1 (md_one mem un bo j a f ga gb n p1 p2 1)) 2 (md_one mem un bo j a f ga gb n p1 p2 2)) 3 (md_one mem un bo j a f ga gb n p1 p2 3)))), (a9, .inl (cI, 4, .inl z_48)), (a10, .inl (cI, 4, .inl z_49))]) [2, 3, 4, 5, 0, 6, 7, 8, 1, 9, 10] rfl
      have hD := hD.sub (ws' := [(o, .inr (2, [.int 0, .ref a1, .ref a2, .ref a3, .ref a4, .ref a5, .ref a6, .ref a7, .ref a8, .ref a9, .ref a10])), (a1, .inl (cI, 2048, .inl mem)), (a2, .inl (cI, 32, .inl un)), (a3, .inl (cI, 16, .inl bo)), (a4, .inl (cI, 4, .inl lt)), (a5, .inl (cI, 4, .inl (tu_put4 z_45 (md_one mem un bo j a f ga gb (n + 1) p1 p2 0) (md_one mem un bo j a f ga gb (n + 1) p1 p2 1) (md_one mem un bo j a f ga gb (n + 1) p1 p2 2) (md_one mem un bo j a f ga gb (n + 1) p1 p2 3)))), (a6, .inl (cI, 4, .inl z_46)), (a7, .inl (cI, 4, .inl z_47)), (a8, .inl (cI, 4, .inl (upd (upd (upd (upd ne 0 (md_one mem un bo j a f ga gb n p1 p2 0)) 1 (md_one mem un bo j a f ga gb n p1 p2 1)) 2 (md_one mem un bo j a f ga gb n p1 p2 2)) 3 (md_one mem un bo j a f ga gb n p1 p2 3)))), (a9, .inl (cI, 4, .inl z_48)), (a10, .inl (cI, 4, .inl z_49))]) [2, 3, 4, 5, 0, 6, 7, 8, 1, 9, 10] (by decide) rfl
      clear hPc hDc hFc hP1 hK1 hD1 hk1 hz1
      generalize H1 = H at hP hS ⊢
      refine lv_iconst (v := 0) hx hb dX2_read_180 (by decide) ?_
      refine lv_istore (lv' := [(10, .int 0), (9, .int (nI n)), (8, .int 0), (7, .int 2), (6, .int L), (5, .int ((65536 : Int32) * ((un ((8 * j) + 3)) - (1 : Int32)))), (0, .ref o), (1, .int (nI j)), (2, .int p1), (3, .int p2), (4, .int p3)]) hx hb dX2_read_181 hl (by decide) rfl (fun ls hl => ?_)
      refine lv_iload hx hb dX2_read_183 (lv_at hl 0 rfl) ?_
      refine lv_iconst (v := 4) hx hb dX2_read_185 (by decide) ?_
      refine lv_icmp_ge (tgt := 224) hx hb dX2_read_186 (by decide) (fun c_50 => absurd c_50 (by decide)) (fun c_50 => ?_)
      refine lv_aload_n hx hb dX2_read_189 rfl (lv_at hl 6 rfl) ?_
      refine va_get (D := (dC, dI)) (ci := 2) (v := .ref a5) (C := "TextureUnitsModel") (T := TX2) (N := 11) hx hb hts (tw_s inX2) hown hK hP 0 rfl rfl 5 (by decide) (hts _ (tw_c tw_338)) (fun _ h9 => h9) rfl dX2_read_190 ?_
      refine lv_iload hx hb dX2_read_193 (lv_at hl 0 rfl) ?_
      refine lv_aload_n hx hb dX2_read_195 rfl (lv_at hl 6 rfl) ?_
      refine va_get (D := (dC, dI)) (ci := 2) (v := .ref a8) (C := "TextureUnitsModel") (T := TX2) (N := 11) hx hb hts (tw_s inX2) hown hK hP 0 rfl rfl 8 (by decide) (hts _ (tw_c tw_341)) (fun _ h9 => h9) rfl dX2_read_196 ?_
      refine lv_iload hx hb dX2_read_199 (lv_at hl 0 rfl) ?_
      refine va_iald hx hb hK hP 8 0 rfl rfl (tu_in (by decide)) dX2_read_201 ?_
      refine lv_topi (fun x_51 ex_51 => ?_)
      have ex_51 : x_51 = (md_one mem un bo j a f ga gb n p1 p2 0) := ((((ex_51).trans (pk_un (by decide))).trans (pk_un (by decide))).trans (pk_un (by decide))).trans pk_us
      subst ex_51
      refine lv_aload_n hx hb dX2_read_202 rfl (lv_at hl 6 rfl) ?_
      refine va_get (D := (dC, dI)) (ci := 2) (v := .ref a5) (C := "TextureUnitsModel") (T := TX2) (N := 11) hx hb hts (tw_s inX2) hown hK hP 0 rfl rfl 5 (by decide) (hts _ (tw_c tw_338)) (fun _ h9 => h9) rfl dX2_read_203 ?_
      refine lv_iload hx hb dX2_read_206 (lv_at hl 0 rfl) ?_
      refine va_iald hx hb hK hP 5 0 rfl rfl (tu_in (by decide)) dX2_read_208 ?_
      refine lv_topi (fun x_52 ex_52 => ?_)
      have ex_52 : x_52 = (md_one mem un bo j a f ga gb (n + 1) p1 p2 0) := ((((ex_52).trans (pk_un (by decide))).trans (pk_un (by decide))).trans (pk_un (by decide))).trans pk_us
      subst ex_52
      refine lv_iload hx hb dX2_read_209 (lv_at hl 4 rfl) ?_
      refine lv_ldc (v := 65535) hx hb hown (hts _ (tw_c tw_462)) dX2_read_211 ?_
      refine lv_iand hx hb dX2_read_213 ?_
      refine rd_call (W.runS (As := [.int (md_one mem un bo j a f ga gb n p1 p2 0), .int (md_one mem un bo j a f ga gb (n + 1) p1 p2 0), .int (L &&& (65535 : Int32))]) (rest := [.int 0, .ref a5]) ⟨hx, hb, hml, hown, hts⟩ (m_mix l (md_one mem un bo j a f ga gb n p1 p2 0) (md_one mem un bo j a f ga gb (n + 1) p1 p2 0) (L &&& (65535 : Int32))) (va_cwS 3 hts (tg_S tw_459 tw_460 tw_3 tw_461) rfl rfl rfl (by decide +kernel) ⟨Nat.le_of_ble_eq_true rfl, Nat.le_of_ble_eq_true rfl⟩) preEq rfl rfl hl.1 rfl (lv_room (Nat.le_of_ble_eq_true rfl)) dX2_read_214 ⟨Nat.le_of_ble_eq_true rfl, Nat.le_of_ble_eq_true rfl⟩) ?_
      refine va_iast hx hb hK hP hD hS 5 0 rfl rfl (tu_in (by decide)) dX2_read_217 (fun H locs hP hD hS => ?_)
      have hP : va_P (dC, dI) vwCl [(o, .inr (2, [.int 0, .ref a1, .ref a2, .ref a3, .ref a4, .ref a5, .ref a6, .ref a7, .ref a8, .ref a9, .ref a10])), (a1, .inl (cI, 2048, .inl mem)), (a2, .inl (cI, 32, .inl un)), (a3, .inl (cI, 16, .inl bo)), (a4, .inl (cI, 4, .inl lt)), (a5, .inl (cI, 4, .inl (upd (tu_put4 z_45 (md_one mem un bo j a f ga gb (n + 1) p1 p2 0) (md_one mem un bo j a f ga gb (n + 1) p1 p2 1) (md_one mem un bo j a f ga gb (n + 1) p1 p2 2) (md_one mem un bo j a f ga gb (n + 1) p1 p2 3)) 0 (tu_mix (md_one mem un bo j a f ga gb n p1 p2 0) (md_one mem un bo j a f ga gb (n + 1) p1 p2 0) (L &&& (65535 : Int32)))))), (a6, .inl (cI, 4, .inl z_46)), (a7, .inl (cI, 4, .inl z_47)), (a8, .inl (cI, 4, .inl (upd (upd (upd (upd ne 0 (md_one mem un bo j a f ga gb n p1 p2 0)) 1 (md_one mem un bo j a f ga gb n p1 p2 1)) 2 (md_one mem un bo j a f ga gb n p1 p2 2)) 3 (md_one mem un bo j a f ga gb n p1 p2 3)))), (a9, .inl (cI, 4, .inl z_48)), (a10, .inl (cI, 4, .inl z_49))] H := hP
      have hD : va_D A [(o, .inr (2, [.int 0, .ref a1, .ref a2, .ref a3, .ref a4, .ref a5, .ref a6, .ref a7, .ref a8, .ref a9, .ref a10])), (a1, .inl (cI, 2048, .inl mem)), (a2, .inl (cI, 32, .inl un)), (a3, .inl (cI, 16, .inl bo)), (a4, .inl (cI, 4, .inl lt)), (a5, .inl (cI, 4, .inl (upd (tu_put4 z_45 (md_one mem un bo j a f ga gb (n + 1) p1 p2 0) (md_one mem un bo j a f ga gb (n + 1) p1 p2 1) (md_one mem un bo j a f ga gb (n + 1) p1 p2 2) (md_one mem un bo j a f ga gb (n + 1) p1 p2 3)) 0 (tu_mix (md_one mem un bo j a f ga gb n p1 p2 0) (md_one mem un bo j a f ga gb (n + 1) p1 p2 0) (L &&& (65535 : Int32)))))), (a6, .inl (cI, 4, .inl z_46)), (a7, .inl (cI, 4, .inl z_47)), (a8, .inl (cI, 4, .inl (upd (upd (upd (upd ne 0 (md_one mem un bo j a f ga gb n p1 p2 0)) 1 (md_one mem un bo j a f ga gb n p1 p2 1)) 2 (md_one mem un bo j a f ga gb n p1 p2 2)) 3 (md_one mem un bo j a f ga gb n p1 p2 3)))), (a9, .inl (cI, 4, .inl z_48)), (a10, .inl (cI, 4, .inl z_49))] := hD
      refine lv_iinc (v := 1) (lv' := [(10, .int 1), (9, .int (nI n)), (8, .int 0), (7, .int 2), (6, .int L), (5, .int ((65536 : Int32) * ((un ((8 * j) + 3)) - (1 : Int32)))), (0, .ref o), (1, .int (nI j)), (2, .int p1), (3, .int p2), (4, .int p3)]) hx hb dX2_read_218 hl (k := 0) rfl (by decide) (by decide) rfl (fun ls hl => ?_)
      refine lv_goto (tgt := 183) hx hb dX2_read_221 (by decide) ?_
      refine lv_iload hx hb dX2_read_183 (lv_at hl 0 rfl) ?_
      refine lv_iconst (v := 4) hx hb dX2_read_185 (by decide) ?_
      refine lv_icmp_ge (tgt := 224) hx hb dX2_read_186 (by decide) (fun c_53 => absurd c_53 (by decide)) (fun c_53 => ?_)
      refine lv_aload_n hx hb dX2_read_189 rfl (lv_at hl 6 rfl) ?_
      refine va_get (D := (dC, dI)) (ci := 2) (v := .ref a5) (C := "TextureUnitsModel") (T := TX2) (N := 11) hx hb hts (tw_s inX2) hown hK hP 0 rfl rfl 5 (by decide) (hts _ (tw_c tw_338)) (fun _ h9 => h9) rfl dX2_read_190 ?_
      refine lv_iload hx hb dX2_read_193 (lv_at hl 0 rfl) ?_
      refine lv_aload_n hx hb dX2_read_195 rfl (lv_at hl 6 rfl) ?_
      refine va_get (D := (dC, dI)) (ci := 2) (v := .ref a8) (C := "TextureUnitsModel") (T := TX2) (N := 11) hx hb hts (tw_s inX2) hown hK hP 0 rfl rfl 8 (by decide) (hts _ (tw_c tw_341)) (fun _ h9 => h9) rfl dX2_read_196 ?_
      refine lv_iload hx hb dX2_read_199 (lv_at hl 0 rfl) ?_
      refine va_iald hx hb hK hP 8 0 rfl rfl (tu_in (by decide)) dX2_read_201 ?_
      refine lv_topi (fun x_54 ex_54 => ?_)
      have ex_54 : x_54 = (md_one mem un bo j a f ga gb n p1 p2 1) := (((ex_54).trans (pk_un (by decide))).trans (pk_un (by decide))).trans pk_us
      subst ex_54
      refine lv_aload_n hx hb dX2_read_202 rfl (lv_at hl 6 rfl) ?_
      refine va_get (D := (dC, dI)) (ci := 2) (v := .ref a5) (C := "TextureUnitsModel") (T := TX2) (N := 11) hx hb hts (tw_s inX2) hown hK hP 0 rfl rfl 5 (by decide) (hts _ (tw_c tw_338)) (fun _ h9 => h9) rfl dX2_read_203 ?_
      refine lv_iload hx hb dX2_read_206 (lv_at hl 0 rfl) ?_
      refine va_iald hx hb hK hP 5 0 rfl rfl (tu_in (by decide)) dX2_read_208 ?_
      refine lv_topi (fun x_55 ex_55 => ?_)
      have ex_55 : x_55 = (md_one mem un bo j a f ga gb (n + 1) p1 p2 1) := ((((ex_55).trans (pk_un (by decide))).trans (pk_un (by decide))).trans (pk_un (by decide))).trans pk_us
      subst ex_55
      refine lv_iload hx hb dX2_read_209 (lv_at hl 4 rfl) ?_
      refine lv_ldc (v := 65535) hx hb hown (hts _ (tw_c tw_462)) dX2_read_211 ?_
      refine lv_iand hx hb dX2_read_213 ?_
      refine rd_call (W.runS (As := [.int (md_one mem un bo j a f ga gb n p1 p2 1), .int (md_one mem un bo j a f ga gb (n + 1) p1 p2 1), .int (L &&& (65535 : Int32))]) (rest := [.int 1, .ref a5]) ⟨hx, hb, hml, hown, hts⟩ (m_mix l (md_one mem un bo j a f ga gb n p1 p2 1) (md_one mem un bo j a f ga gb (n + 1) p1 p2 1) (L &&& (65535 : Int32))) (va_cwS 3 hts (tg_S tw_459 tw_460 tw_3 tw_461) rfl rfl rfl (by decide +kernel) ⟨Nat.le_of_ble_eq_true rfl, Nat.le_of_ble_eq_true rfl⟩) preEq rfl rfl hl.1 rfl (lv_room (Nat.le_of_ble_eq_true rfl)) dX2_read_214 ⟨Nat.le_of_ble_eq_true rfl, Nat.le_of_ble_eq_true rfl⟩) ?_
      refine va_iast hx hb hK hP hD hS 5 0 rfl rfl (tu_in (by decide)) dX2_read_217 (fun H locs hP hD hS => ?_)
      have hP : va_P (dC, dI) vwCl [(o, .inr (2, [.int 0, .ref a1, .ref a2, .ref a3, .ref a4, .ref a5, .ref a6, .ref a7, .ref a8, .ref a9, .ref a10])), (a1, .inl (cI, 2048, .inl mem)), (a2, .inl (cI, 32, .inl un)), (a3, .inl (cI, 16, .inl bo)), (a4, .inl (cI, 4, .inl lt)), (a5, .inl (cI, 4, .inl (upd (upd (tu_put4 z_45 (md_one mem un bo j a f ga gb (n + 1) p1 p2 0) (md_one mem un bo j a f ga gb (n + 1) p1 p2 1) (md_one mem un bo j a f ga gb (n + 1) p1 p2 2) (md_one mem un bo j a f ga gb (n + 1) p1 p2 3)) 0 (tu_mix (md_one mem un bo j a f ga gb n p1 p2 0) (md_one mem un bo j a f ga gb (n + 1) p1 p2 0) (L &&& (65535 : Int32)))) 1 (tu_mix (md_one mem un bo j a f ga gb n p1 p2 1) (md_one mem un bo j a f ga gb (n + 1) p1 p2 1) (L &&& (65535 : Int32)))))), (a6, .inl (cI, 4, .inl z_46)), (a7, .inl (cI, 4, .inl z_47)), (a8, .inl (cI, 4, .inl (upd (upd (upd (upd ne 0 (md_one mem un bo j a f ga gb n p1 p2 0)) 1 (md_one mem un bo j a f ga gb n p1 p2 1)) 2 (md_one mem un bo j a f ga gb n p1 p2 2)) 3 (md_one mem un bo j a f ga gb n p1 p2 3)))), (a9, .inl (cI, 4, .inl z_48)), (a10, .inl (cI, 4, .inl z_49))] H := hP
      have hD : va_D A [(o, .inr (2, [.int 0, .ref a1, .ref a2, .ref a3, .ref a4, .ref a5, .ref a6, .ref a7, .ref a8, .ref a9, .ref a10])), (a1, .inl (cI, 2048, .inl mem)), (a2, .inl (cI, 32, .inl un)), (a3, .inl (cI, 16, .inl bo)), (a4, .inl (cI, 4, .inl lt)), (a5, .inl (cI, 4, .inl (upd (upd (tu_put4 z_45 (md_one mem un bo j a f ga gb (n + 1) p1 p2 0) (md_one mem un bo j a f ga gb (n + 1) p1 p2 1) (md_one mem un bo j a f ga gb (n + 1) p1 p2 2) (md_one mem un bo j a f ga gb (n + 1) p1 p2 3)) 0 (tu_mix (md_one mem un bo j a f ga gb n p1 p2 0) (md_one mem un bo j a f ga gb (n + 1) p1 p2 0) (L &&& (65535 : Int32)))) 1 (tu_mix (md_one mem un bo j a f ga gb n p1 p2 1) (md_one mem un bo j a f ga gb (n + 1) p1 p2 1) (L &&& (65535 : Int32)))))), (a6, .inl (cI, 4, .inl z_46)), (a7, .inl (cI, 4, .inl z_47)), (a8, .inl (cI, 4, .inl (upd (upd (upd (upd ne 0 (md_one mem un bo j a f ga gb n p1 p2 0)) 1 (md_one mem un bo j a f ga gb n p1 p2 1)) 2 (md_one mem un bo j a f ga gb n p1 p2 2)) 3 (md_one mem un bo j a f ga gb n p1 p2 3)))), (a9, .inl (cI, 4, .inl z_48)), (a10, .inl (cI, 4, .inl z_49))] := hD
      refine lv_iinc (v := 2) (lv' := [(10, .int 2), (9, .int (nI n)), (8, .int 0), (7, .int 2), (6, .int L), (5, .int ((65536 : Int32) * ((un ((8 * j) + 3)) - (1 : Int32)))), (0, .ref o), (1, .int (nI j)), (2, .int p1), (3, .int p2), (4, .int p3)]) hx hb dX2_read_218 hl (k := 0) rfl (by decide) (by decide) rfl (fun ls hl => ?_)
      refine lv_goto (tgt := 183) hx hb dX2_read_221 (by decide) ?_
      refine lv_iload hx hb dX2_read_183 (lv_at hl 0 rfl) ?_
      refine lv_iconst (v := 4) hx hb dX2_read_185 (by decide) ?_
      refine lv_icmp_ge (tgt := 224) hx hb dX2_read_186 (by decide) (fun c_56 => absurd c_56 (by decide)) (fun c_56 => ?_)
      refine lv_aload_n hx hb dX2_read_189 rfl (lv_at hl 6 rfl) ?_
      refine va_get (D := (dC, dI)) (ci := 2) (v := .ref a5) (C := "TextureUnitsModel") (T := TX2) (N := 11) hx hb hts (tw_s inX2) hown hK hP 0 rfl rfl 5 (by decide) (hts _ (tw_c tw_338)) (fun _ h9 => h9) rfl dX2_read_190 ?_
      refine lv_iload hx hb dX2_read_193 (lv_at hl 0 rfl) ?_
      refine lv_aload_n hx hb dX2_read_195 rfl (lv_at hl 6 rfl) ?_
      refine va_get (D := (dC, dI)) (ci := 2) (v := .ref a8) (C := "TextureUnitsModel") (T := TX2) (N := 11) hx hb hts (tw_s inX2) hown hK hP 0 rfl rfl 8 (by decide) (hts _ (tw_c tw_341)) (fun _ h9 => h9) rfl dX2_read_196 ?_
      refine lv_iload hx hb dX2_read_199 (lv_at hl 0 rfl) ?_
      refine va_iald hx hb hK hP 8 0 rfl rfl (tu_in (by decide)) dX2_read_201 ?_
      refine lv_topi (fun x_57 ex_57 => ?_)
      have ex_57 : x_57 = (md_one mem un bo j a f ga gb n p1 p2 2) := ((ex_57).trans (pk_un (by decide))).trans pk_us
      subst ex_57
      refine lv_aload_n hx hb dX2_read_202 rfl (lv_at hl 6 rfl) ?_
      refine va_get (D := (dC, dI)) (ci := 2) (v := .ref a5) (C := "TextureUnitsModel") (T := TX2) (N := 11) hx hb hts (tw_s inX2) hown hK hP 0 rfl rfl 5 (by decide) (hts _ (tw_c tw_338)) (fun _ h9 => h9) rfl dX2_read_203 ?_
      refine lv_iload hx hb dX2_read_206 (lv_at hl 0 rfl) ?_
      refine va_iald hx hb hK hP 5 0 rfl rfl (tu_in (by decide)) dX2_read_208 ?_
      refine lv_topi (fun x_58 ex_58 => ?_)
      have ex_58 : x_58 = (md_one mem un bo j a f ga gb (n + 1) p1 p2 2) := ((((ex_58).trans (pk_un (by decide))).trans (pk_un (by decide))).trans (pk_un (by decide))).trans pk_us
      subst ex_58
      refine lv_iload hx hb dX2_read_209 (lv_at hl 4 rfl) ?_
      refine lv_ldc (v := 65535) hx hb hown (hts _ (tw_c tw_462)) dX2_read_211 ?_
      refine lv_iand hx hb dX2_read_213 ?_
      refine rd_call (W.runS (As := [.int (md_one mem un bo j a f ga gb n p1 p2 2), .int (md_one mem un bo j a f ga gb (n + 1) p1 p2 2), .int (L &&& (65535 : Int32))]) (rest := [.int 2, .ref a5]) ⟨hx, hb, hml, hown, hts⟩ (m_mix l (md_one mem un bo j a f ga gb n p1 p2 2) (md_one mem un bo j a f ga gb (n + 1) p1 p2 2) (L &&& (65535 : Int32))) (va_cwS 3 hts (tg_S tw_459 tw_460 tw_3 tw_461) rfl rfl rfl (by decide +kernel) ⟨Nat.le_of_ble_eq_true rfl, Nat.le_of_ble_eq_true rfl⟩) preEq rfl rfl hl.1 rfl (lv_room (Nat.le_of_ble_eq_true rfl)) dX2_read_214 ⟨Nat.le_of_ble_eq_true rfl, Nat.le_of_ble_eq_true rfl⟩) ?_
      refine va_iast hx hb hK hP hD hS 5 0 rfl rfl (tu_in (by decide)) dX2_read_217 (fun H locs hP hD hS => ?_)
      have hP : va_P (dC, dI) vwCl [(o, .inr (2, [.int 0, .ref a1, .ref a2, .ref a3, .ref a4, .ref a5, .ref a6, .ref a7, .ref a8, .ref a9, .ref a10])), (a1, .inl (cI, 2048, .inl mem)), (a2, .inl (cI, 32, .inl un)), (a3, .inl (cI, 16, .inl bo)), (a4, .inl (cI, 4, .inl lt)), (a5, .inl (cI, 4, .inl (upd (upd (upd (tu_put4 z_45 (md_one mem un bo j a f ga gb (n + 1) p1 p2 0) (md_one mem un bo j a f ga gb (n + 1) p1 p2 1) (md_one mem un bo j a f ga gb (n + 1) p1 p2 2) (md_one mem un bo j a f ga gb (n + 1) p1 p2 3)) 0 (tu_mix (md_one mem un bo j a f ga gb n p1 p2 0) (md_one mem un bo j a f ga gb (n + 1) p1 p2 0) (L &&& (65535 : Int32)))) 1 (tu_mix (md_one mem un bo j a f ga gb n p1 p2 1) (md_one mem un bo j a f ga gb (n + 1) p1 p2 1) (L &&& (65535 : Int32)))) 2 (tu_mix (md_one mem un bo j a f ga gb n p1 p2 2) (md_one mem un bo j a f ga gb (n + 1) p1 p2 2) (L &&& (65535 : Int32)))))), (a6, .inl (cI, 4, .inl z_46)), (a7, .inl (cI, 4, .inl z_47)), (a8, .inl (cI, 4, .inl (upd (upd (upd (upd ne 0 (md_one mem un bo j a f ga gb n p1 p2 0)) 1 (md_one mem un bo j a f ga gb n p1 p2 1)) 2 (md_one mem un bo j a f ga gb n p1 p2 2)) 3 (md_one mem un bo j a f ga gb n p1 p2 3)))), (a9, .inl (cI, 4, .inl z_48)), (a10, .inl (cI, 4, .inl z_49))] H := hP
      have hD : va_D A [(o, .inr (2, [.int 0, .ref a1, .ref a2, .ref a3, .ref a4, .ref a5, .ref a6, .ref a7, .ref a8, .ref a9, .ref a10])), (a1, .inl (cI, 2048, .inl mem)), (a2, .inl (cI, 32, .inl un)), (a3, .inl (cI, 16, .inl bo)), (a4, .inl (cI, 4, .inl lt)), (a5, .inl (cI, 4, .inl (upd (upd (upd (tu_put4 z_45 (md_one mem un bo j a f ga gb (n + 1) p1 p2 0) (md_one mem un bo j a f ga gb (n + 1) p1 p2 1) (md_one mem un bo j a f ga gb (n + 1) p1 p2 2) (md_one mem un bo j a f ga gb (n + 1) p1 p2 3)) 0 (tu_mix (md_one mem un bo j a f ga gb n p1 p2 0) (md_one mem un bo j a f ga gb (n + 1) p1 p2 0) (L &&& (65535 : Int32)))) 1 (tu_mix (md_one mem un bo j a f ga gb n p1 p2 1) (md_one mem un bo j a f ga gb (n + 1) p1 p2 1) (L &&& (65535 : Int32)))) 2 (tu_mix (md_one mem un bo j a f ga gb n p1 p2 2) (md_one mem un bo j a f ga gb (n + 1) p1 p2 2) (L &&& (65535 : Int32)))))), (a6, .inl (cI, 4, .inl z_46)), (a7, .inl (cI, 4, .inl z_47)), (a8, .inl (cI, 4, .inl (upd (upd (upd (upd ne 0 (md_one mem un bo j a f ga gb n p1 p2 0)) 1 (md_one mem un bo j a f ga gb n p1 p2 1)) 2 (md_one mem un bo j a f ga gb n p1 p2 2)) 3 (md_one mem un bo j a f ga gb n p1 p2 3)))), (a9, .inl (cI, 4, .inl z_48)), (a10, .inl (cI, 4, .inl z_49))] := hD
      refine lv_iinc (v := 3) (lv' := [(10, .int 3), (9, .int (nI n)), (8, .int 0), (7, .int 2), (6, .int L), (5, .int ((65536 : Int32) * ((un ((8 * j) + 3)) - (1 : Int32)))), (0, .ref o), (1, .int (nI j)), (2, .int p1), (3, .int p2), (4, .int p3)]) hx hb dX2_read_218 hl (k := 0) rfl (by decide) (by decide) rfl (fun ls hl => ?_)
      refine lv_goto (tgt := 183) hx hb dX2_read_221 (by decide) ?_
      refine lv_iload hx hb dX2_read_183 (lv_at hl 0 rfl) ?_
      refine lv_iconst (v := 4) hx hb dX2_read_185 (by decide) ?_
      refine lv_icmp_ge (tgt := 224) hx hb dX2_read_186 (by decide) (fun c_59 => absurd c_59 (by decide)) (fun c_59 => ?_)
      refine lv_aload_n hx hb dX2_read_189 rfl (lv_at hl 6 rfl) ?_
      refine va_get (D := (dC, dI)) (ci := 2) (v := .ref a5) (C := "TextureUnitsModel") (T := TX2) (N := 11) hx hb hts (tw_s inX2) hown hK hP 0 rfl rfl 5 (by decide) (hts _ (tw_c tw_338)) (fun _ h9 => h9) rfl dX2_read_190 ?_
      refine lv_iload hx hb dX2_read_193 (lv_at hl 0 rfl) ?_
      refine lv_aload_n hx hb dX2_read_195 rfl (lv_at hl 6 rfl) ?_
      refine va_get (D := (dC, dI)) (ci := 2) (v := .ref a8) (C := "TextureUnitsModel") (T := TX2) (N := 11) hx hb hts (tw_s inX2) hown hK hP 0 rfl rfl 8 (by decide) (hts _ (tw_c tw_341)) (fun _ h9 => h9) rfl dX2_read_196 ?_
      refine lv_iload hx hb dX2_read_199 (lv_at hl 0 rfl) ?_
      refine va_iald hx hb hK hP 8 0 rfl rfl (tu_in (by decide)) dX2_read_201 ?_
      refine lv_topi (fun x_60 ex_60 => ?_)
      have ex_60 : x_60 = (md_one mem un bo j a f ga gb n p1 p2 3) := (ex_60).trans pk_us
      subst ex_60
      refine lv_aload_n hx hb dX2_read_202 rfl (lv_at hl 6 rfl) ?_
      refine va_get (D := (dC, dI)) (ci := 2) (v := .ref a5) (C := "TextureUnitsModel") (T := TX2) (N := 11) hx hb hts (tw_s inX2) hown hK hP 0 rfl rfl 5 (by decide) (hts _ (tw_c tw_338)) (fun _ h9 => h9) rfl dX2_read_203 ?_
      refine lv_iload hx hb dX2_read_206 (lv_at hl 0 rfl) ?_
      refine va_iald hx hb hK hP 5 0 rfl rfl (tu_in (by decide)) dX2_read_208 ?_
      refine lv_topi (fun x_61 ex_61 => ?_)
      have ex_61 : x_61 = (md_one mem un bo j a f ga gb (n + 1) p1 p2 3) := ((((ex_61).trans (pk_un (by decide))).trans (pk_un (by decide))).trans (pk_un (by decide))).trans pk_us
      subst ex_61
      refine lv_iload hx hb dX2_read_209 (lv_at hl 4 rfl) ?_
      refine lv_ldc (v := 65535) hx hb hown (hts _ (tw_c tw_462)) dX2_read_211 ?_
      refine lv_iand hx hb dX2_read_213 ?_
      refine rd_call (W.runS (As := [.int (md_one mem un bo j a f ga gb n p1 p2 3), .int (md_one mem un bo j a f ga gb (n + 1) p1 p2 3), .int (L &&& (65535 : Int32))]) (rest := [.int 3, .ref a5]) ⟨hx, hb, hml, hown, hts⟩ (m_mix l (md_one mem un bo j a f ga gb n p1 p2 3) (md_one mem un bo j a f ga gb (n + 1) p1 p2 3) (L &&& (65535 : Int32))) (va_cwS 3 hts (tg_S tw_459 tw_460 tw_3 tw_461) rfl rfl rfl (by decide +kernel) ⟨Nat.le_of_ble_eq_true rfl, Nat.le_of_ble_eq_true rfl⟩) preEq rfl rfl hl.1 rfl (lv_room (Nat.le_of_ble_eq_true rfl)) dX2_read_214 ⟨Nat.le_of_ble_eq_true rfl, Nat.le_of_ble_eq_true rfl⟩) ?_
      refine va_iast hx hb hK hP hD hS 5 0 rfl rfl (tu_in (by decide)) dX2_read_217 (fun H locs hP hD hS => ?_)
      have hP : va_P (dC, dI) vwCl [(o, .inr (2, [.int 0, .ref a1, .ref a2, .ref a3, .ref a4, .ref a5, .ref a6, .ref a7, .ref a8, .ref a9, .ref a10])), (a1, .inl (cI, 2048, .inl mem)), (a2, .inl (cI, 32, .inl un)), (a3, .inl (cI, 16, .inl bo)), (a4, .inl (cI, 4, .inl lt)), (a5, .inl (cI, 4, .inl (upd (upd (upd (upd (tu_put4 z_45 (md_one mem un bo j a f ga gb (n + 1) p1 p2 0) (md_one mem un bo j a f ga gb (n + 1) p1 p2 1) (md_one mem un bo j a f ga gb (n + 1) p1 p2 2) (md_one mem un bo j a f ga gb (n + 1) p1 p2 3)) 0 (tu_mix (md_one mem un bo j a f ga gb n p1 p2 0) (md_one mem un bo j a f ga gb (n + 1) p1 p2 0) (L &&& (65535 : Int32)))) 1 (tu_mix (md_one mem un bo j a f ga gb n p1 p2 1) (md_one mem un bo j a f ga gb (n + 1) p1 p2 1) (L &&& (65535 : Int32)))) 2 (tu_mix (md_one mem un bo j a f ga gb n p1 p2 2) (md_one mem un bo j a f ga gb (n + 1) p1 p2 2) (L &&& (65535 : Int32)))) 3 (tu_mix (md_one mem un bo j a f ga gb n p1 p2 3) (md_one mem un bo j a f ga gb (n + 1) p1 p2 3) (L &&& (65535 : Int32)))))), (a6, .inl (cI, 4, .inl z_46)), (a7, .inl (cI, 4, .inl z_47)), (a8, .inl (cI, 4, .inl (upd (upd (upd (upd ne 0 (md_one mem un bo j a f ga gb n p1 p2 0)) 1 (md_one mem un bo j a f ga gb n p1 p2 1)) 2 (md_one mem un bo j a f ga gb n p1 p2 2)) 3 (md_one mem un bo j a f ga gb n p1 p2 3)))), (a9, .inl (cI, 4, .inl z_48)), (a10, .inl (cI, 4, .inl z_49))] H := hP
      have hD : va_D A [(o, .inr (2, [.int 0, .ref a1, .ref a2, .ref a3, .ref a4, .ref a5, .ref a6, .ref a7, .ref a8, .ref a9, .ref a10])), (a1, .inl (cI, 2048, .inl mem)), (a2, .inl (cI, 32, .inl un)), (a3, .inl (cI, 16, .inl bo)), (a4, .inl (cI, 4, .inl lt)), (a5, .inl (cI, 4, .inl (upd (upd (upd (upd (tu_put4 z_45 (md_one mem un bo j a f ga gb (n + 1) p1 p2 0) (md_one mem un bo j a f ga gb (n + 1) p1 p2 1) (md_one mem un bo j a f ga gb (n + 1) p1 p2 2) (md_one mem un bo j a f ga gb (n + 1) p1 p2 3)) 0 (tu_mix (md_one mem un bo j a f ga gb n p1 p2 0) (md_one mem un bo j a f ga gb (n + 1) p1 p2 0) (L &&& (65535 : Int32)))) 1 (tu_mix (md_one mem un bo j a f ga gb n p1 p2 1) (md_one mem un bo j a f ga gb (n + 1) p1 p2 1) (L &&& (65535 : Int32)))) 2 (tu_mix (md_one mem un bo j a f ga gb n p1 p2 2) (md_one mem un bo j a f ga gb (n + 1) p1 p2 2) (L &&& (65535 : Int32)))) 3 (tu_mix (md_one mem un bo j a f ga gb n p1 p2 3) (md_one mem un bo j a f ga gb (n + 1) p1 p2 3) (L &&& (65535 : Int32)))))), (a6, .inl (cI, 4, .inl z_46)), (a7, .inl (cI, 4, .inl z_47)), (a8, .inl (cI, 4, .inl (upd (upd (upd (upd ne 0 (md_one mem un bo j a f ga gb n p1 p2 0)) 1 (md_one mem un bo j a f ga gb n p1 p2 1)) 2 (md_one mem un bo j a f ga gb n p1 p2 2)) 3 (md_one mem un bo j a f ga gb n p1 p2 3)))), (a9, .inl (cI, 4, .inl z_48)), (a10, .inl (cI, 4, .inl z_49))] := hD
      refine lv_iinc (v := 4) (lv' := [(10, .int 4), (9, .int (nI n)), (8, .int 0), (7, .int 2), (6, .int L), (5, .int ((65536 : Int32) * ((un ((8 * j) + 3)) - (1 : Int32)))), (0, .ref o), (1, .int (nI j)), (2, .int p1), (3, .int p2), (4, .int p3)]) hx hb dX2_read_218 hl (k := 0) rfl (by decide) (by decide) rfl (fun ls hl => ?_)
      refine lv_goto (tgt := 183) hx hb dX2_read_221 (by decide) ?_
      refine lv_iload hx hb dX2_read_183 (lv_at hl 0 rfl) ?_
      refine lv_iconst (v := 4) hx hb dX2_read_185 (by decide) ?_
      refine lv_icmp_ge (tgt := 224) hx hb dX2_read_186 (by decide) (fun c_62 => ?_) (fun c_62 => absurd (by decide) c_62)
      refine lv_iconst (v := 0) hx hb dX2_read_224 (by decide) ?_
      refine lv_istore (lv' := [(10, .int 0), (9, .int (nI n)), (8, .int 0), (7, .int 2), (6, .int L), (5, .int ((65536 : Int32) * ((un ((8 * j) + 3)) - (1 : Int32)))), (0, .ref o), (1, .int (nI j)), (2, .int p1), (3, .int p2), (4, .int p3)]) hx hb dX2_read_225 hl (by decide) rfl (fun ls hl => ?_)
      refine lv_iload hx hb dX2_read_227 (lv_at hl 0 rfl) ?_
      refine lv_iconst (v := 4) hx hb dX2_read_229 (by decide) ?_
      refine lv_icmp_ge (tgt := 253) hx hb dX2_read_230 (by decide) (fun c_63 => absurd c_63 (by decide)) (fun c_63 => ?_)
      refine lv_aload_n hx hb dX2_read_233 rfl (lv_at hl 6 rfl) ?_
      refine va_get (D := (dC, dI)) (ci := 2) (v := .ref a4) (C := "TextureUnitsModel") (T := TX2) (N := 11) hx hb hts (tw_s inX2) hown hK hP 0 rfl rfl 4 (by decide) (hts _ (tw_c tw_337)) (fun _ h9 => h9) rfl dX2_read_234 ?_
      refine lv_iload hx hb dX2_read_237 (lv_at hl 0 rfl) ?_
      refine lv_aload_n hx hb dX2_read_239 rfl (lv_at hl 6 rfl) ?_
      refine va_get (D := (dC, dI)) (ci := 2) (v := .ref a5) (C := "TextureUnitsModel") (T := TX2) (N := 11) hx hb hts (tw_s inX2) hown hK hP 0 rfl rfl 5 (by decide) (hts _ (tw_c tw_338)) (fun _ h9 => h9) rfl dX2_read_240 ?_
      refine lv_iload hx hb dX2_read_243 (lv_at hl 0 rfl) ?_
      refine va_iald hx hb hK hP 5 0 rfl rfl (tu_in (by decide)) dX2_read_245 ?_
      refine lv_topi (fun x_64 ex_64 => ?_)
      have ex_64 : x_64 = (tu_mix (md_one mem un bo j a f ga gb n p1 p2 0) (md_one mem un bo j a f ga gb (n + 1) p1 p2 0) (L &&& (65535 : Int32))) := ((((ex_64).trans (pk_un (by decide))).trans (pk_un (by decide))).trans (pk_un (by decide))).trans pk_us
      subst ex_64
      refine va_iast hx hb hK hP hD hS 4 0 rfl rfl (tu_in (by decide)) dX2_read_246 (fun H locs hP hD hS => ?_)
      have hP : va_P (dC, dI) vwCl [(o, .inr (2, [.int 0, .ref a1, .ref a2, .ref a3, .ref a4, .ref a5, .ref a6, .ref a7, .ref a8, .ref a9, .ref a10])), (a1, .inl (cI, 2048, .inl mem)), (a2, .inl (cI, 32, .inl un)), (a3, .inl (cI, 16, .inl bo)), (a4, .inl (cI, 4, .inl (upd lt 0 (tu_mix (md_one mem un bo j a f ga gb n p1 p2 0) (md_one mem un bo j a f ga gb (n + 1) p1 p2 0) (L &&& (65535 : Int32)))))), (a5, .inl (cI, 4, .inl (upd (upd (upd (upd (tu_put4 z_45 (md_one mem un bo j a f ga gb (n + 1) p1 p2 0) (md_one mem un bo j a f ga gb (n + 1) p1 p2 1) (md_one mem un bo j a f ga gb (n + 1) p1 p2 2) (md_one mem un bo j a f ga gb (n + 1) p1 p2 3)) 0 (tu_mix (md_one mem un bo j a f ga gb n p1 p2 0) (md_one mem un bo j a f ga gb (n + 1) p1 p2 0) (L &&& (65535 : Int32)))) 1 (tu_mix (md_one mem un bo j a f ga gb n p1 p2 1) (md_one mem un bo j a f ga gb (n + 1) p1 p2 1) (L &&& (65535 : Int32)))) 2 (tu_mix (md_one mem un bo j a f ga gb n p1 p2 2) (md_one mem un bo j a f ga gb (n + 1) p1 p2 2) (L &&& (65535 : Int32)))) 3 (tu_mix (md_one mem un bo j a f ga gb n p1 p2 3) (md_one mem un bo j a f ga gb (n + 1) p1 p2 3) (L &&& (65535 : Int32)))))), (a6, .inl (cI, 4, .inl z_46)), (a7, .inl (cI, 4, .inl z_47)), (a8, .inl (cI, 4, .inl (upd (upd (upd (upd ne 0 (md_one mem un bo j a f ga gb n p1 p2 0)) 1 (md_one mem un bo j a f ga gb n p1 p2 1)) 2 (md_one mem un bo j a f ga gb n p1 p2 2)) 3 (md_one mem un bo j a f ga gb n p1 p2 3)))), (a9, .inl (cI, 4, .inl z_48)), (a10, .inl (cI, 4, .inl z_49))] H := hP
      have hD : va_D A [(o, .inr (2, [.int 0, .ref a1, .ref a2, .ref a3, .ref a4, .ref a5, .ref a6, .ref a7, .ref a8, .ref a9, .ref a10])), (a1, .inl (cI, 2048, .inl mem)), (a2, .inl (cI, 32, .inl un)), (a3, .inl (cI, 16, .inl bo)), (a4, .inl (cI, 4, .inl (upd lt 0 (tu_mix (md_one mem un bo j a f ga gb n p1 p2 0) (md_one mem un bo j a f ga gb (n + 1) p1 p2 0) (L &&& (65535 : Int32)))))), (a5, .inl (cI, 4, .inl (upd (upd (upd (upd (tu_put4 z_45 (md_one mem un bo j a f ga gb (n + 1) p1 p2 0) (md_one mem un bo j a f ga gb (n + 1) p1 p2 1) (md_one mem un bo j a f ga gb (n + 1) p1 p2 2) (md_one mem un bo j a f ga gb (n + 1) p1 p2 3)) 0 (tu_mix (md_one mem un bo j a f ga gb n p1 p2 0) (md_one mem un bo j a f ga gb (n + 1) p1 p2 0) (L &&& (65535 : Int32)))) 1 (tu_mix (md_one mem un bo j a f ga gb n p1 p2 1) (md_one mem un bo j a f ga gb (n + 1) p1 p2 1) (L &&& (65535 : Int32)))) 2 (tu_mix (md_one mem un bo j a f ga gb n p1 p2 2) (md_one mem un bo j a f ga gb (n + 1) p1 p2 2) (L &&& (65535 : Int32)))) 3 (tu_mix (md_one mem un bo j a f ga gb n p1 p2 3) (md_one mem un bo j a f ga gb (n + 1) p1 p2 3) (L &&& (65535 : Int32)))))), (a6, .inl (cI, 4, .inl z_46)), (a7, .inl (cI, 4, .inl z_47)), (a8, .inl (cI, 4, .inl (upd (upd (upd (upd ne 0 (md_one mem un bo j a f ga gb n p1 p2 0)) 1 (md_one mem un bo j a f ga gb n p1 p2 1)) 2 (md_one mem un bo j a f ga gb n p1 p2 2)) 3 (md_one mem un bo j a f ga gb n p1 p2 3)))), (a9, .inl (cI, 4, .inl z_48)), (a10, .inl (cI, 4, .inl z_49))] := hD
      refine lv_iinc (v := 1) (lv' := [(10, .int 1), (9, .int (nI n)), (8, .int 0), (7, .int 2), (6, .int L), (5, .int ((65536 : Int32) * ((un ((8 * j) + 3)) - (1 : Int32)))), (0, .ref o), (1, .int (nI j)), (2, .int p1), (3, .int p2), (4, .int p3)]) hx hb dX2_read_247 hl (k := 0) rfl (by decide) (by decide) rfl (fun ls hl => ?_)
      refine lv_goto (tgt := 227) hx hb dX2_read_250 (by decide) ?_
      refine lv_iload hx hb dX2_read_227 (lv_at hl 0 rfl) ?_
      refine lv_iconst (v := 4) hx hb dX2_read_229 (by decide) ?_
      refine lv_icmp_ge (tgt := 253) hx hb dX2_read_230 (by decide) (fun c_65 => absurd c_65 (by decide)) (fun c_65 => ?_)
      refine lv_aload_n hx hb dX2_read_233 rfl (lv_at hl 6 rfl) ?_
      refine va_get (D := (dC, dI)) (ci := 2) (v := .ref a4) (C := "TextureUnitsModel") (T := TX2) (N := 11) hx hb hts (tw_s inX2) hown hK hP 0 rfl rfl 4 (by decide) (hts _ (tw_c tw_337)) (fun _ h9 => h9) rfl dX2_read_234 ?_
      refine lv_iload hx hb dX2_read_237 (lv_at hl 0 rfl) ?_
      refine lv_aload_n hx hb dX2_read_239 rfl (lv_at hl 6 rfl) ?_
      refine va_get (D := (dC, dI)) (ci := 2) (v := .ref a5) (C := "TextureUnitsModel") (T := TX2) (N := 11) hx hb hts (tw_s inX2) hown hK hP 0 rfl rfl 5 (by decide) (hts _ (tw_c tw_338)) (fun _ h9 => h9) rfl dX2_read_240 ?_
      refine lv_iload hx hb dX2_read_243 (lv_at hl 0 rfl) ?_
      refine va_iald hx hb hK hP 5 0 rfl rfl (tu_in (by decide)) dX2_read_245 ?_
      refine lv_topi (fun x_66 ex_66 => ?_)
      have ex_66 : x_66 = (tu_mix (md_one mem un bo j a f ga gb n p1 p2 1) (md_one mem un bo j a f ga gb (n + 1) p1 p2 1) (L &&& (65535 : Int32))) := (((ex_66).trans (pk_un (by decide))).trans (pk_un (by decide))).trans pk_us
      subst ex_66
      refine va_iast hx hb hK hP hD hS 4 0 rfl rfl (tu_in (by decide)) dX2_read_246 (fun H locs hP hD hS => ?_)
      have hP : va_P (dC, dI) vwCl [(o, .inr (2, [.int 0, .ref a1, .ref a2, .ref a3, .ref a4, .ref a5, .ref a6, .ref a7, .ref a8, .ref a9, .ref a10])), (a1, .inl (cI, 2048, .inl mem)), (a2, .inl (cI, 32, .inl un)), (a3, .inl (cI, 16, .inl bo)), (a4, .inl (cI, 4, .inl (upd (upd lt 0 (tu_mix (md_one mem un bo j a f ga gb n p1 p2 0) (md_one mem un bo j a f ga gb (n + 1) p1 p2 0) (L &&& (65535 : Int32)))) 1 (tu_mix (md_one mem un bo j a f ga gb n p1 p2 1) (md_one mem un bo j a f ga gb (n + 1) p1 p2 1) (L &&& (65535 : Int32)))))), (a5, .inl (cI, 4, .inl (upd (upd (upd (upd (tu_put4 z_45 (md_one mem un bo j a f ga gb (n + 1) p1 p2 0) (md_one mem un bo j a f ga gb (n + 1) p1 p2 1) (md_one mem un bo j a f ga gb (n + 1) p1 p2 2) (md_one mem un bo j a f ga gb (n + 1) p1 p2 3)) 0 (tu_mix (md_one mem un bo j a f ga gb n p1 p2 0) (md_one mem un bo j a f ga gb (n + 1) p1 p2 0) (L &&& (65535 : Int32)))) 1 (tu_mix (md_one mem un bo j a f ga gb n p1 p2 1) (md_one mem un bo j a f ga gb (n + 1) p1 p2 1) (L &&& (65535 : Int32)))) 2 (tu_mix (md_one mem un bo j a f ga gb n p1 p2 2) (md_one mem un bo j a f ga gb (n + 1) p1 p2 2) (L &&& (65535 : Int32)))) 3 (tu_mix (md_one mem un bo j a f ga gb n p1 p2 3) (md_one mem un bo j a f ga gb (n + 1) p1 p2 3) (L &&& (65535 : Int32)))))), (a6, .inl (cI, 4, .inl z_46)), (a7, .inl (cI, 4, .inl z_47)), (a8, .inl (cI, 4, .inl (upd (upd (upd (upd ne 0 (md_one mem un bo j a f ga gb n p1 p2 0)) 1 (md_one mem un bo j a f ga gb n p1 p2 1)) 2 (md_one mem un bo j a f ga gb n p1 p2 2)) 3 (md_one mem un bo j a f ga gb n p1 p2 3)))), (a9, .inl (cI, 4, .inl z_48)), (a10, .inl (cI, 4, .inl z_49))] H := hP
      have hD : va_D A [(o, .inr (2, [.int 0, .ref a1, .ref a2, .ref a3, .ref a4, .ref a5, .ref a6, .ref a7, .ref a8, .ref a9, .ref a10])), (a1, .inl (cI, 2048, .inl mem)), (a2, .inl (cI, 32, .inl un)), (a3, .inl (cI, 16, .inl bo)), (a4, .inl (cI, 4, .inl (upd (upd lt 0 (tu_mix (md_one mem un bo j a f ga gb n p1 p2 0) (md_one mem un bo j a f ga gb (n + 1) p1 p2 0) (L &&& (65535 : Int32)))) 1 (tu_mix (md_one mem un bo j a f ga gb n p1 p2 1) (md_one mem un bo j a f ga gb (n + 1) p1 p2 1) (L &&& (65535 : Int32)))))), (a5, .inl (cI, 4, .inl (upd (upd (upd (upd (tu_put4 z_45 (md_one mem un bo j a f ga gb (n + 1) p1 p2 0) (md_one mem un bo j a f ga gb (n + 1) p1 p2 1) (md_one mem un bo j a f ga gb (n + 1) p1 p2 2) (md_one mem un bo j a f ga gb (n + 1) p1 p2 3)) 0 (tu_mix (md_one mem un bo j a f ga gb n p1 p2 0) (md_one mem un bo j a f ga gb (n + 1) p1 p2 0) (L &&& (65535 : Int32)))) 1 (tu_mix (md_one mem un bo j a f ga gb n p1 p2 1) (md_one mem un bo j a f ga gb (n + 1) p1 p2 1) (L &&& (65535 : Int32)))) 2 (tu_mix (md_one mem un bo j a f ga gb n p1 p2 2) (md_one mem un bo j a f ga gb (n + 1) p1 p2 2) (L &&& (65535 : Int32)))) 3 (tu_mix (md_one mem un bo j a f ga gb n p1 p2 3) (md_one mem un bo j a f ga gb (n + 1) p1 p2 3) (L &&& (65535 : Int32)))))), (a6, .inl (cI, 4, .inl z_46)), (a7, .inl (cI, 4, .inl z_47)), (a8, .inl (cI, 4, .inl (upd (upd (upd (upd ne 0 (md_one mem un bo j a f ga gb n p1 p2 0)) 1 (md_one mem un bo j a f ga gb n p1 p2 1)) 2 (md_one mem un bo j a f ga gb n p1 p2 2)) 3 (md_one mem un bo j a f ga gb n p1 p2 3)))), (a9, .inl (cI, 4, .inl z_48)), (a10, .inl (cI, 4, .inl z_49))] := hD
      refine lv_iinc (v := 2) (lv' := [(10, .int 2), (9, .int (nI n)), (8, .int 0), (7, .int 2), (6, .int L), (5, .int ((65536 : Int32) * ((un ((8 * j) + 3)) - (1 : Int32)))), (0, .ref o), (1, .int (nI j)), (2, .int p1), (3, .int p2), (4, .int p3)]) hx hb dX2_read_247 hl (k := 0) rfl (by decide) (by decide) rfl (fun ls hl => ?_)
      refine lv_goto (tgt := 227) hx hb dX2_read_250 (by decide) ?_
      refine lv_iload hx hb dX2_read_227 (lv_at hl 0 rfl) ?_
      refine lv_iconst (v := 4) hx hb dX2_read_229 (by decide) ?_
      refine lv_icmp_ge (tgt := 253) hx hb dX2_read_230 (by decide) (fun c_67 => absurd c_67 (by decide)) (fun c_67 => ?_)
      refine lv_aload_n hx hb dX2_read_233 rfl (lv_at hl 6 rfl) ?_
      refine va_get (D := (dC, dI)) (ci := 2) (v := .ref a4) (C := "TextureUnitsModel") (T := TX2) (N := 11) hx hb hts (tw_s inX2) hown hK hP 0 rfl rfl 4 (by decide) (hts _ (tw_c tw_337)) (fun _ h9 => h9) rfl dX2_read_234 ?_
      refine lv_iload hx hb dX2_read_237 (lv_at hl 0 rfl) ?_
      refine lv_aload_n hx hb dX2_read_239 rfl (lv_at hl 6 rfl) ?_
      refine va_get (D := (dC, dI)) (ci := 2) (v := .ref a5) (C := "TextureUnitsModel") (T := TX2) (N := 11) hx hb hts (tw_s inX2) hown hK hP 0 rfl rfl 5 (by decide) (hts _ (tw_c tw_338)) (fun _ h9 => h9) rfl dX2_read_240 ?_
      refine lv_iload hx hb dX2_read_243 (lv_at hl 0 rfl) ?_
      refine va_iald hx hb hK hP 5 0 rfl rfl (tu_in (by decide)) dX2_read_245 ?_
      refine lv_topi (fun x_68 ex_68 => ?_)
      have ex_68 : x_68 = (tu_mix (md_one mem un bo j a f ga gb n p1 p2 2) (md_one mem un bo j a f ga gb (n + 1) p1 p2 2) (L &&& (65535 : Int32))) := ((ex_68).trans (pk_un (by decide))).trans pk_us
      subst ex_68
      refine va_iast hx hb hK hP hD hS 4 0 rfl rfl (tu_in (by decide)) dX2_read_246 (fun H locs hP hD hS => ?_)
      have hP : va_P (dC, dI) vwCl [(o, .inr (2, [.int 0, .ref a1, .ref a2, .ref a3, .ref a4, .ref a5, .ref a6, .ref a7, .ref a8, .ref a9, .ref a10])), (a1, .inl (cI, 2048, .inl mem)), (a2, .inl (cI, 32, .inl un)), (a3, .inl (cI, 16, .inl bo)), (a4, .inl (cI, 4, .inl (upd (upd (upd lt 0 (tu_mix (md_one mem un bo j a f ga gb n p1 p2 0) (md_one mem un bo j a f ga gb (n + 1) p1 p2 0) (L &&& (65535 : Int32)))) 1 (tu_mix (md_one mem un bo j a f ga gb n p1 p2 1) (md_one mem un bo j a f ga gb (n + 1) p1 p2 1) (L &&& (65535 : Int32)))) 2 (tu_mix (md_one mem un bo j a f ga gb n p1 p2 2) (md_one mem un bo j a f ga gb (n + 1) p1 p2 2) (L &&& (65535 : Int32)))))), (a5, .inl (cI, 4, .inl (upd (upd (upd (upd (tu_put4 z_45 (md_one mem un bo j a f ga gb (n + 1) p1 p2 0) (md_one mem un bo j a f ga gb (n + 1) p1 p2 1) (md_one mem un bo j a f ga gb (n + 1) p1 p2 2) (md_one mem un bo j a f ga gb (n + 1) p1 p2 3)) 0 (tu_mix (md_one mem un bo j a f ga gb n p1 p2 0) (md_one mem un bo j a f ga gb (n + 1) p1 p2 0) (L &&& (65535 : Int32)))) 1 (tu_mix (md_one mem un bo j a f ga gb n p1 p2 1) (md_one mem un bo j a f ga gb (n + 1) p1 p2 1) (L &&& (65535 : Int32)))) 2 (tu_mix (md_one mem un bo j a f ga gb n p1 p2 2) (md_one mem un bo j a f ga gb (n + 1) p1 p2 2) (L &&& (65535 : Int32)))) 3 (tu_mix (md_one mem un bo j a f ga gb n p1 p2 3) (md_one mem un bo j a f ga gb (n + 1) p1 p2 3) (L &&& (65535 : Int32)))))), (a6, .inl (cI, 4, .inl z_46)), (a7, .inl (cI, 4, .inl z_47)), (a8, .inl (cI, 4, .inl (upd (upd (upd (upd ne 0 (md_one mem un bo j a f ga gb n p1 p2 0)) 1 (md_one mem un bo j a f ga gb n p1 p2 1)) 2 (md_one mem un bo j a f ga gb n p1 p2 2)) 3 (md_one mem un bo j a f ga gb n p1 p2 3)))), (a9, .inl (cI, 4, .inl z_48)), (a10, .inl (cI, 4, .inl z_49))] H := hP
      have hD : va_D A [(o, .inr (2, [.int 0, .ref a1, .ref a2, .ref a3, .ref a4, .ref a5, .ref a6, .ref a7, .ref a8, .ref a9, .ref a10])), (a1, .inl (cI, 2048, .inl mem)), (a2, .inl (cI, 32, .inl un)), (a3, .inl (cI, 16, .inl bo)), (a4, .inl (cI, 4, .inl (upd (upd (upd lt 0 (tu_mix (md_one mem un bo j a f ga gb n p1 p2 0) (md_one mem un bo j a f ga gb (n + 1) p1 p2 0) (L &&& (65535 : Int32)))) 1 (tu_mix (md_one mem un bo j a f ga gb n p1 p2 1) (md_one mem un bo j a f ga gb (n + 1) p1 p2 1) (L &&& (65535 : Int32)))) 2 (tu_mix (md_one mem un bo j a f ga gb n p1 p2 2) (md_one mem un bo j a f ga gb (n + 1) p1 p2 2) (L &&& (65535 : Int32)))))), (a5, .inl (cI, 4, .inl (upd (upd (upd (upd (tu_put4 z_45 (md_one mem un bo j a f ga gb (n + 1) p1 p2 0) (md_one mem un bo j a f ga gb (n + 1) p1 p2 1) (md_one mem un bo j a f ga gb (n + 1) p1 p2 2) (md_one mem un bo j a f ga gb (n + 1) p1 p2 3)) 0 (tu_mix (md_one mem un bo j a f ga gb n p1 p2 0) (md_one mem un bo j a f ga gb (n + 1) p1 p2 0) (L &&& (65535 : Int32)))) 1 (tu_mix (md_one mem un bo j a f ga gb n p1 p2 1) (md_one mem un bo j a f ga gb (n + 1) p1 p2 1) (L &&& (65535 : Int32)))) 2 (tu_mix (md_one mem un bo j a f ga gb n p1 p2 2) (md_one mem un bo j a f ga gb (n + 1) p1 p2 2) (L &&& (65535 : Int32)))) 3 (tu_mix (md_one mem un bo j a f ga gb n p1 p2 3) (md_one mem un bo j a f ga gb (n + 1) p1 p2 3) (L &&& (65535 : Int32)))))), (a6, .inl (cI, 4, .inl z_46)), (a7, .inl (cI, 4, .inl z_47)), (a8, .inl (cI, 4, .inl (upd (upd (upd (upd ne 0 (md_one mem un bo j a f ga gb n p1 p2 0)) 1 (md_one mem un bo j a f ga gb n p1 p2 1)) 2 (md_one mem un bo j a f ga gb n p1 p2 2)) 3 (md_one mem un bo j a f ga gb n p1 p2 3)))), (a9, .inl (cI, 4, .inl z_48)), (a10, .inl (cI, 4, .inl z_49))] := hD
      refine lv_iinc (v := 3) (lv' := [(10, .int 3), (9, .int (nI n)), (8, .int 0), (7, .int 2), (6, .int L), (5, .int ((65536 : Int32) * ((un ((8 * j) + 3)) - (1 : Int32)))), (0, .ref o), (1, .int (nI j)), (2, .int p1), (3, .int p2), (4, .int p3)]) hx hb dX2_read_247 hl (k := 0) rfl (by decide) (by decide) rfl (fun ls hl => ?_)
      refine lv_goto (tgt := 227) hx hb dX2_read_250 (by decide) ?_
      refine lv_iload hx hb dX2_read_227 (lv_at hl 0 rfl) ?_
      refine lv_iconst (v := 4) hx hb dX2_read_229 (by decide) ?_
      refine lv_icmp_ge (tgt := 253) hx hb dX2_read_230 (by decide) (fun c_69 => absurd c_69 (by decide)) (fun c_69 => ?_)
      refine lv_aload_n hx hb dX2_read_233 rfl (lv_at hl 6 rfl) ?_
      refine va_get (D := (dC, dI)) (ci := 2) (v := .ref a4) (C := "TextureUnitsModel") (T := TX2) (N := 11) hx hb hts (tw_s inX2) hown hK hP 0 rfl rfl 4 (by decide) (hts _ (tw_c tw_337)) (fun _ h9 => h9) rfl dX2_read_234 ?_
      refine lv_iload hx hb dX2_read_237 (lv_at hl 0 rfl) ?_
      refine lv_aload_n hx hb dX2_read_239 rfl (lv_at hl 6 rfl) ?_
      refine va_get (D := (dC, dI)) (ci := 2) (v := .ref a5) (C := "TextureUnitsModel") (T := TX2) (N := 11) hx hb hts (tw_s inX2) hown hK hP 0 rfl rfl 5 (by decide) (hts _ (tw_c tw_338)) (fun _ h9 => h9) rfl dX2_read_240 ?_
      refine lv_iload hx hb dX2_read_243 (lv_at hl 0 rfl) ?_
      refine va_iald hx hb hK hP 5 0 rfl rfl (tu_in (by decide)) dX2_read_245 ?_
      refine lv_topi (fun x_70 ex_70 => ?_)
      have ex_70 : x_70 = (tu_mix (md_one mem un bo j a f ga gb n p1 p2 3) (md_one mem un bo j a f ga gb (n + 1) p1 p2 3) (L &&& (65535 : Int32))) := (ex_70).trans pk_us
      subst ex_70
      refine va_iast hx hb hK hP hD hS 4 0 rfl rfl (tu_in (by decide)) dX2_read_246 (fun H locs hP hD hS => ?_)
      have hP : va_P (dC, dI) vwCl [(o, .inr (2, [.int 0, .ref a1, .ref a2, .ref a3, .ref a4, .ref a5, .ref a6, .ref a7, .ref a8, .ref a9, .ref a10])), (a1, .inl (cI, 2048, .inl mem)), (a2, .inl (cI, 32, .inl un)), (a3, .inl (cI, 16, .inl bo)), (a4, .inl (cI, 4, .inl (upd (upd (upd (upd lt 0 (tu_mix (md_one mem un bo j a f ga gb n p1 p2 0) (md_one mem un bo j a f ga gb (n + 1) p1 p2 0) (L &&& (65535 : Int32)))) 1 (tu_mix (md_one mem un bo j a f ga gb n p1 p2 1) (md_one mem un bo j a f ga gb (n + 1) p1 p2 1) (L &&& (65535 : Int32)))) 2 (tu_mix (md_one mem un bo j a f ga gb n p1 p2 2) (md_one mem un bo j a f ga gb (n + 1) p1 p2 2) (L &&& (65535 : Int32)))) 3 (tu_mix (md_one mem un bo j a f ga gb n p1 p2 3) (md_one mem un bo j a f ga gb (n + 1) p1 p2 3) (L &&& (65535 : Int32)))))), (a5, .inl (cI, 4, .inl (upd (upd (upd (upd (tu_put4 z_45 (md_one mem un bo j a f ga gb (n + 1) p1 p2 0) (md_one mem un bo j a f ga gb (n + 1) p1 p2 1) (md_one mem un bo j a f ga gb (n + 1) p1 p2 2) (md_one mem un bo j a f ga gb (n + 1) p1 p2 3)) 0 (tu_mix (md_one mem un bo j a f ga gb n p1 p2 0) (md_one mem un bo j a f ga gb (n + 1) p1 p2 0) (L &&& (65535 : Int32)))) 1 (tu_mix (md_one mem un bo j a f ga gb n p1 p2 1) (md_one mem un bo j a f ga gb (n + 1) p1 p2 1) (L &&& (65535 : Int32)))) 2 (tu_mix (md_one mem un bo j a f ga gb n p1 p2 2) (md_one mem un bo j a f ga gb (n + 1) p1 p2 2) (L &&& (65535 : Int32)))) 3 (tu_mix (md_one mem un bo j a f ga gb n p1 p2 3) (md_one mem un bo j a f ga gb (n + 1) p1 p2 3) (L &&& (65535 : Int32)))))), (a6, .inl (cI, 4, .inl z_46)), (a7, .inl (cI, 4, .inl z_47)), (a8, .inl (cI, 4, .inl (upd (upd (upd (upd ne 0 (md_one mem un bo j a f ga gb n p1 p2 0)) 1 (md_one mem un bo j a f ga gb n p1 p2 1)) 2 (md_one mem un bo j a f ga gb n p1 p2 2)) 3 (md_one mem un bo j a f ga gb n p1 p2 3)))), (a9, .inl (cI, 4, .inl z_48)), (a10, .inl (cI, 4, .inl z_49))] H := hP
      have hD : va_D A [(o, .inr (2, [.int 0, .ref a1, .ref a2, .ref a3, .ref a4, .ref a5, .ref a6, .ref a7, .ref a8, .ref a9, .ref a10])), (a1, .inl (cI, 2048, .inl mem)), (a2, .inl (cI, 32, .inl un)), (a3, .inl (cI, 16, .inl bo)), (a4, .inl (cI, 4, .inl (upd (upd (upd (upd lt 0 (tu_mix (md_one mem un bo j a f ga gb n p1 p2 0) (md_one mem un bo j a f ga gb (n + 1) p1 p2 0) (L &&& (65535 : Int32)))) 1 (tu_mix (md_one mem un bo j a f ga gb n p1 p2 1) (md_one mem un bo j a f ga gb (n + 1) p1 p2 1) (L &&& (65535 : Int32)))) 2 (tu_mix (md_one mem un bo j a f ga gb n p1 p2 2) (md_one mem un bo j a f ga gb (n + 1) p1 p2 2) (L &&& (65535 : Int32)))) 3 (tu_mix (md_one mem un bo j a f ga gb n p1 p2 3) (md_one mem un bo j a f ga gb (n + 1) p1 p2 3) (L &&& (65535 : Int32)))))), (a5, .inl (cI, 4, .inl (upd (upd (upd (upd (tu_put4 z_45 (md_one mem un bo j a f ga gb (n + 1) p1 p2 0) (md_one mem un bo j a f ga gb (n + 1) p1 p2 1) (md_one mem un bo j a f ga gb (n + 1) p1 p2 2) (md_one mem un bo j a f ga gb (n + 1) p1 p2 3)) 0 (tu_mix (md_one mem un bo j a f ga gb n p1 p2 0) (md_one mem un bo j a f ga gb (n + 1) p1 p2 0) (L &&& (65535 : Int32)))) 1 (tu_mix (md_one mem un bo j a f ga gb n p1 p2 1) (md_one mem un bo j a f ga gb (n + 1) p1 p2 1) (L &&& (65535 : Int32)))) 2 (tu_mix (md_one mem un bo j a f ga gb n p1 p2 2) (md_one mem un bo j a f ga gb (n + 1) p1 p2 2) (L &&& (65535 : Int32)))) 3 (tu_mix (md_one mem un bo j a f ga gb n p1 p2 3) (md_one mem un bo j a f ga gb (n + 1) p1 p2 3) (L &&& (65535 : Int32)))))), (a6, .inl (cI, 4, .inl z_46)), (a7, .inl (cI, 4, .inl z_47)), (a8, .inl (cI, 4, .inl (upd (upd (upd (upd ne 0 (md_one mem un bo j a f ga gb n p1 p2 0)) 1 (md_one mem un bo j a f ga gb n p1 p2 1)) 2 (md_one mem un bo j a f ga gb n p1 p2 2)) 3 (md_one mem un bo j a f ga gb n p1 p2 3)))), (a9, .inl (cI, 4, .inl z_48)), (a10, .inl (cI, 4, .inl z_49))] := hD
      refine lv_iinc (v := 4) (lv' := [(10, .int 4), (9, .int (nI n)), (8, .int 0), (7, .int 2), (6, .int L), (5, .int ((65536 : Int32) * ((un ((8 * j) + 3)) - (1 : Int32)))), (0, .ref o), (1, .int (nI j)), (2, .int p1), (3, .int p2), (4, .int p3)]) hx hb dX2_read_247 hl (k := 0) rfl (by decide) (by decide) rfl (fun ls hl => ?_)
      refine lv_goto (tgt := 227) hx hb dX2_read_250 (by decide) ?_
      refine lv_iload hx hb dX2_read_227 (lv_at hl 0 rfl) ?_
      refine lv_iconst (v := 4) hx hb dX2_read_229 (by decide) ?_
      refine lv_icmp_ge (tgt := 253) hx hb dX2_read_230 (by decide) (fun c_71 => ?_) (fun c_71 => absurd (by decide) c_71)
      refine lv_aload_n hx hb dX2_read_253 rfl (lv_at hl 6 rfl) ?_
      refine va_get (D := (dC, dI)) (ci := 2) (v := .ref a4) (C := "TextureUnitsModel") (T := TX2) (N := 11) hx hb hts (tw_s inX2) hown hK hP 0 rfl rfl 4 (by decide) (hts _ (tw_c tw_337)) (fun _ h9 => h9) rfl dX2_read_254 ?_
      refine lv_iconst (v := 0) hx hb dX2_read_257 (by decide) ?_
      refine va_iald hx hb hK hP 4 0 rfl rfl (tu_in (by decide)) dX2_read_258 ?_
      refine lv_topi (fun x_72 ex_72 => ?_)
      have ex_72 : x_72 = (tu_mix (md_one mem un bo j a f ga gb n p1 p2 0) (md_one mem un bo j a f ga gb (n + 1) p1 p2 0) (L &&& (65535 : Int32))) := ((((ex_72).trans (pk_un (by decide))).trans (pk_un (by decide))).trans (pk_un (by decide))).trans pk_us
      subst ex_72
      have hge : n + 1 < lv := Nat.not_le.mp (fun h => c_24 ((nI_leI (by omega) (by omega)).mpr h))
      have hz : ∀ c : Nat, md_rdv mem un bo j a f ga gb 2 lv n p1 p2 L c = tu_mix (md_one mem un bo j a f ga gb n p1 p2 c) (md_one mem un bo j a f ga gb (n + 1) p1 p2 c) (L &&& 65535) := fun c => by rw [md_rdv_y (by decide) hge, md_lvl_o (by decide), md_lvl_o (by decide)]
      have hP : va_P (dC, dI) vwCl [(o, .inr (2, [.int 0, .ref a1, .ref a2, .ref a3, .ref a4, .ref a5, .ref a6, .ref a7, .ref a8, .ref a9, .ref a10])), (a1, .inl (cI, 2048, .inl mem)), (a2, .inl (cI, 32, .inl un)), (a3, .inl (cI, 16, .inl bo)), (a4, .inl (cI, 4, .inl (tu_put4 lt (md_rdv mem un bo j a f ga gb 2 lv n p1 p2 L 0) (md_rdv mem un bo j a f ga gb 2 lv n p1 p2 L 1) (md_rdv mem un bo j a f ga gb 2 lv n p1 p2 L 2) (md_rdv mem un bo j a f ga gb 2 lv n p1 p2 L 3)))), (a5, .inl (cI, 4, .inl (upd (upd (upd (upd (tu_put4 z_45 (md_one mem un bo j a f ga gb (n + 1) p1 p2 0) (md_one mem un bo j a f ga gb (n + 1) p1 p2 1) (md_one mem un bo j a f ga gb (n + 1) p1 p2 2) (md_one mem un bo j a f ga gb (n + 1) p1 p2 3)) 0 (tu_mix (md_one mem un bo j a f ga gb n p1 p2 0) (md_one mem un bo j a f ga gb (n + 1) p1 p2 0) (L &&& (65535 : Int32)))) 1 (tu_mix (md_one mem un bo j a f ga gb n p1 p2 1) (md_one mem un bo j a f ga gb (n + 1) p1 p2 1) (L &&& (65535 : Int32)))) 2 (tu_mix (md_one mem un bo j a f ga gb n p1 p2 2) (md_one mem un bo j a f ga gb (n + 1) p1 p2 2) (L &&& (65535 : Int32)))) 3 (tu_mix (md_one mem un bo j a f ga gb n p1 p2 3) (md_one mem un bo j a f ga gb (n + 1) p1 p2 3) (L &&& (65535 : Int32)))))), (a6, .inl (cI, 4, .inl z_46)), (a7, .inl (cI, 4, .inl z_47)), (a8, .inl (cI, 4, .inl (upd (upd (upd (upd ne 0 (md_one mem un bo j a f ga gb n p1 p2 0)) 1 (md_one mem un bo j a f ga gb n p1 p2 1)) 2 (md_one mem un bo j a f ga gb n p1 p2 2)) 3 (md_one mem un bo j a f ga gb n p1 p2 3)))), (a9, .inl (cI, 4, .inl z_48)), (a10, .inl (cI, 4, .inl z_49))] H := by rw [hz, hz, hz, hz]; exact hP
      have hD : va_D A [(o, .inr (2, [.int 0, .ref a1, .ref a2, .ref a3, .ref a4, .ref a5, .ref a6, .ref a7, .ref a8, .ref a9, .ref a10])), (a1, .inl (cI, 2048, .inl mem)), (a2, .inl (cI, 32, .inl un)), (a3, .inl (cI, 16, .inl bo)), (a4, .inl (cI, 4, .inl (tu_put4 lt (md_rdv mem un bo j a f ga gb 2 lv n p1 p2 L 0) (md_rdv mem un bo j a f ga gb 2 lv n p1 p2 L 1) (md_rdv mem un bo j a f ga gb 2 lv n p1 p2 L 2) (md_rdv mem un bo j a f ga gb 2 lv n p1 p2 L 3)))), (a5, .inl (cI, 4, .inl (upd (upd (upd (upd (tu_put4 z_45 (md_one mem un bo j a f ga gb (n + 1) p1 p2 0) (md_one mem un bo j a f ga gb (n + 1) p1 p2 1) (md_one mem un bo j a f ga gb (n + 1) p1 p2 2) (md_one mem un bo j a f ga gb (n + 1) p1 p2 3)) 0 (tu_mix (md_one mem un bo j a f ga gb n p1 p2 0) (md_one mem un bo j a f ga gb (n + 1) p1 p2 0) (L &&& (65535 : Int32)))) 1 (tu_mix (md_one mem un bo j a f ga gb n p1 p2 1) (md_one mem un bo j a f ga gb (n + 1) p1 p2 1) (L &&& (65535 : Int32)))) 2 (tu_mix (md_one mem un bo j a f ga gb n p1 p2 2) (md_one mem un bo j a f ga gb (n + 1) p1 p2 2) (L &&& (65535 : Int32)))) 3 (tu_mix (md_one mem un bo j a f ga gb n p1 p2 3) (md_one mem un bo j a f ga gb (n + 1) p1 p2 3) (L &&& (65535 : Int32)))))), (a6, .inl (cI, 4, .inl z_46)), (a7, .inl (cI, 4, .inl z_47)), (a8, .inl (cI, 4, .inl (upd (upd (upd (upd ne 0 (md_one mem un bo j a f ga gb n p1 p2 0)) 1 (md_one mem un bo j a f ga gb n p1 p2 1)) 2 (md_one mem un bo j a f ga gb n p1 p2 2)) 3 (md_one mem un bo j a f ga gb n p1 p2 3)))), (a9, .inl (cI, 4, .inl z_48)), (a10, .inl (cI, 4, .inl z_49))] := by rw [hz, hz, hz, hz]; exact hD
      skip
      have hP9 : va_P (dC, dI) vwCl [(o, .inr (2, [.int 0, .ref a1, .ref a2, .ref a3, .ref a4, .ref a5, .ref a6, .ref a7, .ref a8, .ref a9, .ref a10])), (a1, .inl (cI, 2048, .inl mem)), (a2, .inl (cI, 32, .inl un)), (a3, .inl (cI, 16, .inl bo)), (a4, .inl (cI, 4, .inl (tu_put4 lt (md_rdv mem un bo j a f ga gb 2 lv n p1 p2 L 0) (md_rdv mem un bo j a f ga gb 2 lv n p1 p2 L 1) (md_rdv mem un bo j a f ga gb 2 lv n p1 p2 L 2) (md_rdv mem un bo j a f ga gb 2 lv n p1 p2 L 3)))), (a5, .inl (cI, 4, .inl (upd (upd (upd (upd (tu_put4 z_45 (md_one mem un bo j a f ga gb (n + 1) p1 p2 0) (md_one mem un bo j a f ga gb (n + 1) p1 p2 1) (md_one mem un bo j a f ga gb (n + 1) p1 p2 2) (md_one mem un bo j a f ga gb (n + 1) p1 p2 3)) 0 (tu_mix (md_one mem un bo j a f ga gb n p1 p2 0) (md_one mem un bo j a f ga gb (n + 1) p1 p2 0) (L &&& (65535 : Int32)))) 1 (tu_mix (md_one mem un bo j a f ga gb n p1 p2 1) (md_one mem un bo j a f ga gb (n + 1) p1 p2 1) (L &&& (65535 : Int32)))) 2 (tu_mix (md_one mem un bo j a f ga gb n p1 p2 2) (md_one mem un bo j a f ga gb (n + 1) p1 p2 2) (L &&& (65535 : Int32)))) 3 (tu_mix (md_one mem un bo j a f ga gb n p1 p2 3) (md_one mem un bo j a f ga gb (n + 1) p1 p2 3) (L &&& (65535 : Int32)))))), (a6, .inl (cI, 4, .inl z_46)), (a7, .inl (cI, 4, .inl z_47)), (a8, .inl (cI, 4, .inl (upd (upd (upd (upd ne 0 (md_one mem un bo j a f ga gb n p1 p2 0)) 1 (md_one mem un bo j a f ga gb n p1 p2 1)) 2 (md_one mem un bo j a f ga gb n p1 p2 2)) 3 (md_one mem un bo j a f ga gb n p1 p2 3)))), (a9, .inl (cI, 4, .inl z_48)), (a10, .inl (cI, 4, .inl z_49))] H := hP.sub [0, 1, 2, 3, 4, 5, 6, 7, 8, 9, 10] rfl
      have hD9 : va_D A [(o, .inr (2, [.int 0, .ref a1, .ref a2, .ref a3, .ref a4, .ref a5, .ref a6, .ref a7, .ref a8, .ref a9, .ref a10])), (a1, .inl (cI, 2048, .inl mem)), (a2, .inl (cI, 32, .inl un)), (a3, .inl (cI, 16, .inl bo)), (a4, .inl (cI, 4, .inl (tu_put4 lt (md_rdv mem un bo j a f ga gb 2 lv n p1 p2 L 0) (md_rdv mem un bo j a f ga gb 2 lv n p1 p2 L 1) (md_rdv mem un bo j a f ga gb 2 lv n p1 p2 L 2) (md_rdv mem un bo j a f ga gb 2 lv n p1 p2 L 3)))), (a5, .inl (cI, 4, .inl (upd (upd (upd (upd (tu_put4 z_45 (md_one mem un bo j a f ga gb (n + 1) p1 p2 0) (md_one mem un bo j a f ga gb (n + 1) p1 p2 1) (md_one mem un bo j a f ga gb (n + 1) p1 p2 2) (md_one mem un bo j a f ga gb (n + 1) p1 p2 3)) 0 (tu_mix (md_one mem un bo j a f ga gb n p1 p2 0) (md_one mem un bo j a f ga gb (n + 1) p1 p2 0) (L &&& (65535 : Int32)))) 1 (tu_mix (md_one mem un bo j a f ga gb n p1 p2 1) (md_one mem un bo j a f ga gb (n + 1) p1 p2 1) (L &&& (65535 : Int32)))) 2 (tu_mix (md_one mem un bo j a f ga gb n p1 p2 2) (md_one mem un bo j a f ga gb (n + 1) p1 p2 2) (L &&& (65535 : Int32)))) 3 (tu_mix (md_one mem un bo j a f ga gb n p1 p2 3) (md_one mem un bo j a f ga gb (n + 1) p1 p2 3) (L &&& (65535 : Int32)))))), (a6, .inl (cI, 4, .inl z_46)), (a7, .inl (cI, 4, .inl z_47)), (a8, .inl (cI, 4, .inl (upd (upd (upd (upd ne 0 (md_one mem un bo j a f ga gb n p1 p2 0)) 1 (md_one mem un bo j a f ga gb n p1 p2 1)) 2 (md_one mem un bo j a f ga gb n p1 p2 2)) 3 (md_one mem un bo j a f ga gb n p1 p2 3)))), (a9, .inl (cI, 4, .inl z_48)), (a10, .inl (cI, 4, .inl z_49))] := hD.sub [0, 1, 2, 3, 4, 5, 6, 7, 8, 9, 10] (by decide) rfl
      have hK9 : va_K (dC, dI) vwCl [(cI, .int)] s := hK.sub [0] rfl
      exact W.iret (v := (tu_mix (md_one mem un bo j a f ga gb n p1 p2 0) (md_one mem un bo j a f ga gb (n + 1) p1 p2 0) (L &&& (65535 : Int32)))) hx hb hr (fun t ht hW => ⟨⟨(tu_mix (md_one mem un bo j a f ga gb n p1 p2 0) (md_one mem un bo j a f ga gb (n + 1) p1 p2 0) (L &&& (65535 : Int32))), (), rfl, (hz 0).symm, (upd (upd (upd (upd (tu_put4 z_45 (md_one mem un bo j a f ga gb (n + 1) p1 p2 0) (md_one mem un bo j a f ga gb (n + 1) p1 p2 1) (md_one mem un bo j a f ga gb (n + 1) p1 p2 2) (md_one mem un bo j a f ga gb (n + 1) p1 p2 3)) 0 (tu_mix (md_one mem un bo j a f ga gb n p1 p2 0) (md_one mem un bo j a f ga gb (n + 1) p1 p2 0) (L &&& (65535 : Int32)))) 1 (tu_mix (md_one mem un bo j a f ga gb n p1 p2 1) (md_one mem un bo j a f ga gb (n + 1) p1 p2 1) (L &&& (65535 : Int32)))) 2 (tu_mix (md_one mem un bo j a f ga gb n p1 p2 2) (md_one mem un bo j a f ga gb (n + 1) p1 p2 2) (L &&& (65535 : Int32)))) 3 (tu_mix (md_one mem un bo j a f ga gb n p1 p2 3) (md_one mem un bo j a f ga gb (n + 1) p1 p2 3) (L &&& (65535 : Int32)))), z_46, z_47, (upd (upd (upd (upd ne 0 (md_one mem un bo j a f ga gb n p1 p2 0)) 1 (md_one mem un bo j a f ga gb n p1 p2 1)) 2 (md_one mem un bo j a f ga gb n p1 p2 2)) 3 (md_one mem un bo j a f ga gb n p1 p2 3)), z_48, z_49, by rw [ht]; exact hP9, va_K.moved hW.alike hK9, hD9⟩, hS.F ht⟩) hS.2.2 dX2_read_259
  · refine lv_if_ge (tgt := 51) hx hb dX2_read_44 (by decide) (fun c_6 => ?_) (fun c_6 => ?_)
    · refine lv_iload hx hb dX2_read_51 (lv_at hl 5 rfl) ?_
      refine lv_iload hx hb dX2_read_53 (lv_at hl 0 rfl) ?_
      refine lv_icmp_le (tgt := 63) hx hb dX2_read_55 (by decide) (fun c_7 => ?_) (fun c_7 => ?_)
      · refine lv_iload hx hb dX2_read_63 (lv_at hl 5 rfl) ?_
        exact key _ (by rw [← eL]; unfold md_lod; rw [if_pos c_6, if_pos c_7])
      · refine lv_iload hx hb dX2_read_58 (lv_at hl 0 rfl) ?_
        refine lv_goto (tgt := 65) hx hb dX2_read_60 (by decide) ?_
        exact key _ (by rw [← eL]; unfold md_lod; rw [if_pos c_6, if_neg c_7])
    · refine lv_iconst (v := 0) hx hb dX2_read_47 (by decide) ?_
      refine lv_goto (tgt := 65) hx hb dX2_read_48 (by decide) ?_
      exact key _ (by rw [← eL]; unfold md_lod; rw [if_neg c_6])
