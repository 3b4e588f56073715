
set_option maxHeartbeats 4000000 in
set_option maxRecDepth 100000 in
theorem m_picture0 (l : Launch) (dC : Nat → ClassId) (dI : Nat → Nat → Nat) (o : Nat) (th : Int32) (a1 a2 a3 a4 a5 a6 a7 a8 a9 a10 : Nat) (cI : ClassId) (un : Nat → Int32) (j : Nat) (p1 p2 p3 p4 p5 : Int32) (sz : Nat) (hj : j < 4) (hv : 0 ≤ p1 ∧ ¬ tu_win p2 0 10 = 0 ∧ ¬ tu_win p3 0 10 = 0 ∧ ¬ tu_win p4 1 11 = 0 ∧ ¬ tu_win p5 0 7 = 0) : Met l yX2_picture wsX2_picture ({ frames := 1, cells := 0, slots := 0, locals := 22 }) (va_Pc [.ref o, .int (nI j), .int p1, .int p2, .int p3, .int p4, .int p5] (wr_P (dC, dI) vwCl [(o, .inr (2, [.int th, .ref a1, .ref a2, .ref a3, .ref a4, .ref a5, .ref a6, .ref a7, .ref a8, .ref a9, .ref a10])), (a2, .inl (cI, 32, .inl un))] [(cI, .int)] sz)) (va_Qv (fun _ : Unit => True) (wr_B (dC, dI) vwCl [(o, .inr (2, [.int 0, .ref a1, .ref a2, .ref a3, .ref a4, .ref a5, .ref a6, .ref a7, .ref a8, .ref a9, .ref a10])), (a2, .inl (cI, 32, .inl (upd (upd (upd (upd (upd un (8 * j) p1) (8 * j + 1) p2) (8 * j + 2) p3) (8 * j + 3) p4) (8 * j + 4) p5)))] [(cI, .int)] (va_A [(o, .inr (2, [.int th, .ref a1, .ref a2, .ref a3, .ref a4, .ref a5, .ref a6, .ref a7, .ref a8, .ref a9, .ref a10])), (a2, .inl (cI, 32, .inl un))] sz)) (va_A [(o, .inr (2, [.int th, .ref a1, .ref a2, .ref a3, .ref a4, .ref a5, .ref a6, .ref a7, .ref a8, .ref a9, .ref a10])), (a2, .inl (cI, 32, .inl un))] sz)) 0 0 (va_A [(o, .inr (2, [.int th, .ref a1, .ref a2, .ref a3, .ref a4, .ref a5, .ref a6, .ref a7, .ref a8, .ref a9, .ref a10])), (a2, .inl (cI, 32, .inl un))] sz) := by
  refine Met.ofW (cc := cX2_picture) (maxL := 8) (ret := none) (by decide) rfl ?_
  intro p e s m args below meth c s₁ B hml hv
  obtain ⟨rfl, hsz, hP, hK, hD0⟩ := hv
  have hx := B.exec
  have hb := B.bytes
  have hr := B.returns
  have hts := atoms_spec (ws := wsX2_picture) B.pre
  have hown : s.vm.findClass "TextureUnitsModel" = some m.cls := findClass_of_methodNamed B.named
  have hlocks := B.notSynchronized
  subst hsz
  have hD := hD0.self (sz := s.heap.size)
  generalize hAe : va_A [(o, .inr (2, [.int th, .ref a1, .ref a2, .ref a3, .ref a4, .ref a5, .ref a6, .ref a7, .ref a8, .ref a9, .ref a10])), (a2, .inl (cI, 32, .inl un))] s.heap.size = A at hD ⊢
  have hA : ∀ q : Nat, s.heap.size ≤ q → A q := fun q h => by rw [← hAe]; exact Or.inr h
  have hS : va_S A s.heap s.heap [] := va_S.rf
  have hP : va_P (dC, dI) vwCl [(o, .inr (2, [.int th, .ref a1, .ref a2, .ref a3, .ref a4, .ref a5, .ref a6, .ref a7, .ref a8, .ref a9, .ref a10])), (a2, .inl (cI, 32, .inl un))] s.heap := hP
  have hl := lv_entry ([.ref o, .int (nI j), .int p1, .int p2, .int p3, .int p4, .int p5]) (n := 8) (Nat.le_of_ble_eq_true rfl)
  rw [lg_entry_eq]
  generalize (lg_sl ([.ref o, .int (nI j), .int p1, .int p2, .int p3, .int p4, .int p5]) ++ List.replicate (8 - (lg_sl ([.ref o, .int (nI j), .int p1, .int p2, .int p3, .int p4, .int p5])).length) Slot.unset).toArray = ls at hl ⊢
  have hl : lv_has ls 8 [(0, .ref o), (1, .int (nI j)), (2, .int p1), (3, .int p2), (4, .int p3), (5, .int p4), (6, .int p5)] := hl
  have hu := md_unit hj
  refine lv_iload_n hx hb dX2_picture_0 rfl (lv_at hl 2 rfl) ?_
  refine lv_if_lt (tgt := 51) hx hb dX2_picture_1 (by decide) (fun c_1 => absurd hv.1 (k2_nle c_1)) (fun c_1 => ?_)
  refine lv_iload_n hx hb dX2_picture_4 rfl (lv_at hl 3 rfl) ?_
  refine lv_iconst (v := 0) hx hb dX2_picture_5 (by decide) ?_
  refine lv_bipush (v := 10) hx hb dX2_picture_6 (by decide) ?_
  refine rd_call (W.runS (As := [.int p2, .int 0, .int 10]) (rest := []) ⟨hx, hb, hml, hown, hts⟩ (m_in l p2 0 10) (va_cwS 3 hts (tg_S tw_375 tw_376 tw_3 tw_377) rfl rfl rfl (by decide +kernel) ⟨Nat.le_of_ble_eq_true rfl, Nat.le_of_ble_eq_true rfl⟩) preEq rfl rfl hl.1 rfl (lv_room (Nat.le_of_ble_eq_true rfl)) dX2_picture_8 ⟨Nat.le_of_ble_eq_true rfl, Nat.le_of_ble_eq_true rfl⟩) ?_
  refine lv_if_eq (tgt := 51) hx hb dX2_picture_11 (by decide) (fun c_2 => absurd c_2 hv.2.1) (fun c_2 => ?_)
  refine lv_iload hx hb dX2_picture_14 (lv_at hl 4 rfl) ?_
  refine lv_iconst (v := 0) hx hb dX2_picture_16 (by decide) ?_
  refine lv_bipush (v := 10) hx hb dX2_picture_17 (by decide) ?_
  refine rd_call (W.runS (As := [.int p3, .int 0, .int 10]) (rest := []) ⟨hx, hb, hml, hown, hts⟩ (m_in l p3 0 10) (va_cwS 3 hts (tg_S tw_375 tw_376 tw_3 tw_377) rfl rfl rfl (by decide +kernel) ⟨Nat.le_of_ble_eq_true rfl, Nat.le_of_ble_eq_true rfl⟩) preEq rfl rfl hl.1 rfl (lv_room (Nat.le_of_ble_eq_true rfl)) dX2_picture_19 ⟨Nat.le_of_ble_eq_true rfl, Nat.le_of_ble_eq_true rfl⟩) ?_
  refine lv_if_eq (tgt := 51) hx hb dX2_picture_22 (by decide) (fun c_3 => absurd c_3 hv.2.2.1) (fun c_3 => ?_)
  refine lv_iload hx hb dX2_picture_25 (lv_at hl 5 rfl) ?_
  refine lv_iconst (v := 1) hx hb dX2_picture_27 (by decide) ?_
  refine lv_bipush (v := 11) hx hb dX2_picture_28 (by decide) ?_
  refine rd_call (W.runS (As := [.int p4, .int 1, .int 11]) (rest := []) ⟨hx, hb, hml, hown, hts⟩ (m_in l p4 1 11) (va_cwS 3 hts (tg_S tw_375 tw_376 tw_3 tw_377) rfl rfl rfl (by decide +kernel) ⟨Nat.le_of_ble_eq_true rfl, Nat.le_of_ble_eq_true rfl⟩) preEq rfl rfl hl.1 rfl (lv_room (Nat.le_of_ble_eq_true rfl)) dX2_picture_30 ⟨Nat.le_of_ble_eq_true rfl, Nat.le_of_ble_eq_true rfl⟩) ?_
  refine lv_if_eq (tgt := 51) hx hb dX2_picture_33 (by decide) (fun c_4 => absurd c_4 hv.2.2.2.1) (fun c_4 => ?_)
  refine lv_iload hx hb dX2_picture_36 (lv_at hl 6 rfl) ?_
  refine lv_iconst (v := 0) hx hb dX2_picture_38 (by decide) ?_
  refine lv_bipush (v := 7) hx hb dX2_picture_39 (by decide) ?_
  refine rd_call (W.runS (As := [.int p5, .int 0, .int 7]) (rest := []) ⟨hx, hb, hml, hown, hts⟩ (m_in l p5 0 7) (va_cwS 3 hts (tg_S tw_375 tw_376 tw_3 tw_377) rfl rfl rfl (by decide +kernel) ⟨Nat.le_of_ble_eq_true rfl, Nat.le_of_ble_eq_true rfl⟩) preEq rfl rfl hl.1 rfl (lv_room (Nat.le_of_ble_eq_true rfl)) dX2_picture_41 ⟨Nat.le_of_ble_eq_true rfl, Nat.le_of_ble_eq_true rfl⟩) ?_
  refine lv_if_eq (tgt := 51) hx hb dX2_picture_44 (by decide) (fun c_5 => absurd c_5 hv.2.2.2.2) (fun c_5 => ?_)
  refine lv_iconst (v := 1) hx hb dX2_picture_47 (by decide) ?_
  refine lv_goto (tgt := 52) hx hb dX2_picture_48 (by decide) ?_
  refine lv_istore (lv' := [(7, .int 1), (0, .ref o), (1, .int (nI j)), (2, .int p1), (3, .int p2), (4, .int p3), (5, .int p4), (6, .int p5)]) hx hb dX2_picture_52 hl (by decide) rfl (fun ls hl => ?_)
  refine lv_aload_n hx hb dX2_picture_54 rfl (lv_at hl 1 rfl) ?_
  refine lv_iload_n hx hb dX2_picture_55 rfl (lv_at hl 2 rfl) ?_
  refine lv_iconst (v := 0) hx hb dX2_picture_56 (by decide) ?_
  refine lv_iconst (v := 3) hx hb dX2_picture_57 (by decide) ?_
  refine rd_call (W.runS (As := [.int (nI j), .int 0, .int 3]) (rest := [.ref o]) ⟨hx, hb, hml, hown, hts⟩ (m_in l (nI j) 0 3) (va_cwS 3 hts (tg_S tw_375 tw_376 tw_3 tw_377) rfl rfl rfl (by decide +kernel) ⟨Nat.le_of_ble_eq_true rfl, Nat.le_of_ble_eq_true rfl⟩) preEq rfl rfl hl.1 rfl (lv_room (Nat.le_of_ble_eq_true rfl)) dX2_picture_58 ⟨Nat.le_of_ble_eq_true rfl, Nat.le_of_ble_eq_true rfl⟩) ?_
  refine lv_if_ne (tgt := 68) hx hb dX2_picture_61 (by decide) (fun c_6 => ?_) (fun c_6 => absurd c_6 hu)
  refine lv_iconst (v := 0) hx hb dX2_picture_68 (by decide) ?_
  refine lv_iload hx hb dX2_picture_69 (lv_at hl 0 rfl) ?_
  refine lv_if_ne (tgt := 78) hx hb dX2_picture_71 (by decide) (fun c_7 => ?_) (fun c_7 => absurd c_7 (by decide))
  refine lv_iconst (v := 0) hx hb dX2_picture_78 (by decide) ?_
  have hPc := hP.sub (ws' := [(o, .inr (2, [.int th, .ref a1, .ref a2, .ref a3, .ref a4, .ref a5, .ref a6, .ref a7, .ref a8, .ref a9, .ref a10]))]) [0] rfl
  have hDc := hD.sub (ws' := [(o, .inr (2, [.int th, .ref a1, .ref a2, .ref a3, .ref a4, .ref a5, .ref a6, .ref a7, .ref a8, .ref a9, .ref a10]))]) [0] (by decide) rfl
  have hFc := va_free (wc := [(o, .inr (2, [.int th, .ref a1, .ref a2, .ref a3, .ref a4, .ref a5, .ref a6, .ref a7, .ref a8, .ref a9, .ref a10]))]) hD hS hA [0] rfl
  refine va_calli (va_runV (As := [.int 0, .int 0]) (rest := []) ⟨hx, hb, hml, hown, hts⟩ (m_refuse0 l dC dI o th a1 a2 a3 a4 a5 a6 a7 a8 a9 a10 0 0 s.heap.size rfl rfl) (cwV 2 hts (tg_V tw_378 tw_380 tw_p8 tw_3 tw_381) rfl rfl rfl (by decide +kernel) ⟨Nat.le_of_ble_eq_true rfl, Nat.le_of_ble_eq_true rfl⟩) ⟨wr_blind, va_recv hK hP (ci := 2) (q0 := 0) rfl rfl, fun U hU hW => ⟨rfl, wr_use hPc (hK.sub [] rfl) hDc U hU hW⟩⟩ rfl rfl hl.1 rfl (lv_room (Nat.le_of_ble_eq_true rfl)) dX2_picture_79 ⟨Nat.le_of_ble_eq_true rfl, Nat.le_of_ble_eq_true rfl⟩) hS (fun q _ h => hFc q h) hFc (fun r9 u9 t9 H1 locs ht hvm hw hB hz1 hk1 hS => ?_)
  obtain ⟨hP1, hK1, hD1⟩ := hB
  rw [ht] at hP1
  subst hw
  obtain ⟨hP, hD⟩ := va_join (wr := [(a2, .inl (cI, 32, .inl un))]) (w1 := [(o, .inr (2, [.int 0, .ref a1, .ref a2, .ref a3, .ref a4, .ref a5, .ref a6, .ref a7, .ref a8, .ref a9, .ref a10]))]) hP hD [0] [1] rfl rfl (by decide) (by decide) hk1 hFc hP1 hD1
  have hP := hP.sub (ws' := [(o, .inr (2, [.int 0, .ref a1, .ref a2, .ref a3, .ref a4, .ref a5, .ref a6, .ref a7, .ref a8, .ref a9, .ref a10])), (a2, .inl (cI, 32, .inl un))]) [1, 0] rfl
  have hD := hD.sub (ws' := [(o, .inr (2, [.int 0, .ref a1, .ref a2, .ref a3, .ref a4, .ref a5, .ref a6, .ref a7, .ref a8, .ref a9, .ref a10])), (a2, .inl (cI, 32, .inl un))]) [1, 0] (by decide) rfl
  clear hPc hDc hFc hP1 hK1 hD1 hk1 hz1
  generalize H1 = H at hP hS ⊢
  refine lv_if_eq (tgt := 86) hx hb dX2_picture_82 (by decide) (fun c_8 => ?_) (fun c_8 => absurd (by decide) c_8)
  refine lv_aload_n hx hb dX2_picture_86 rfl (lv_at hl 1 rfl) ?_
  refine va_get (D := (dC, dI)) (ci := 2) (v := .ref a2) (C := "TextureUnitsModel") (T := TX2) (N := 11) hx hb hts (tw_s inX2) hown hK hP 0 rfl rfl 2 (by decide) (hts _ (tw_c tw_335)) (fun _ h9 => h9) rfl dX2_picture_87 ?_
  refine lv_bipush (v := 8) hx hb dX2_picture_90 (by decide) ?_
  refine lv_iload_n hx hb dX2_picture_92 rfl (lv_at hl 2 rfl) ?_
  refine lv_imul hx hb dX2_picture_93 ?_
  refine lv_topi (fun x_9 ex_9 => ?_)
  have ex_9 : x_9 = nI (8 * j) := ex_9.trans (pk_mul 8 j)
  subst ex_9
  refine lv_iload_n hx hb dX2_picture_94 rfl (lv_at hl 3 rfl) ?_
  refine va_iast hx hb hK hP hD hS 1 0 rfl rfl (vp_in_nI (by omega) (by decide)) dX2_picture_95 (fun H locs hP hD hS => ?_)
  rw [show (nI (8 * j)).toNatClampNeg = (8 * j) from nI_clamp (by omega)] at hP hD
  have hP : va_P (dC, dI) vwCl [(o, .inr (2, [.int 0, .ref a1, .ref a2, .ref a3, .ref a4, .ref a5, .ref a6, .ref a7, .ref a8, .ref a9, .ref a10])), (a2, .inl (cI, 32, .inl (upd un (8 * j) p1)))] H := hP
  have hD : va_D A [(o, .inr (2, [.int 0, .ref a1, .ref a2, .ref a3, .ref a4, .ref a5, .ref a6, .ref a7, .ref a8, .ref a9, .ref a10])), (a2, .inl (cI, 32, .inl (upd un (8 * j) p1)))] := hD
  refine lv_aload_n hx hb dX2_picture_96 rfl (lv_at hl 1 rfl) ?_
  refine va_get (D := (dC, dI)) (ci := 2) (v := .ref a2) (C := "TextureUnitsModel") (T := TX2) (N := 11) hx hb hts (tw_s inX2) hown hK hP 0 rfl rfl 2 (by decide) (hts _ (tw_c tw_335)) (fun _ h9 => h9) rfl dX2_picture_97 ?_
  refine lv_bipush (v := 8) hx hb dX2_picture_100 (by decide) ?_
  refine lv_iload_n hx hb dX2_picture_102 rfl (lv_at hl 2 rfl) ?_
  refine lv_imul hx hb dX2_picture_103 ?_
  refine lv_topi (fun x_10 ex_10 => ?_)
  have ex_10 : x_10 = nI (8 * j) := ex_10.trans (pk_mul 8 j)
  subst ex_10
  refine lv_iconst (v := 1) hx hb dX2_picture_104 (by decide) ?_
  refine lv_iadd hx hb dX2_picture_105 ?_
  refine lv_topi (fun x_11 ex_11 => ?_)
  have ex_11 : x_11 = nI ((8 * j) + 1) := ex_11.trans (nI_add (8 * j) 1)
  subst ex_11
  refine lv_iload_n hx hb dX2_picture_106 rfl (lv_at hl 4 rfl) ?_
  refine va_iast hx hb hK hP hD hS 1 0 rfl rfl (vp_in_nI (by omega) (by decide)) dX2_picture_107 (fun H locs hP hD hS => ?_)
  rw [show (nI ((8 * j) + 1)).toNatClampNeg = ((8 * j) + 1) from nI_clamp (by omega)] at hP hD
  have hP : va_P (dC, dI) vwCl [(o, .inr (2, [.int 0, .ref a1, .ref a2, .ref a3, .ref a4, .ref a5, .ref a6, .ref a7, .ref a8, .ref a9, .ref a10])), (a2, .inl (cI, 32, .inl (upd (upd un (8 * j) p1) ((8 * j) + 1) p2)))] H := hP
  have hD : va_D A [(o, .inr (2, [.int 0, .ref a1, .ref a2, .ref a3, .ref a4, .ref a5, .ref a6, .ref a7, .ref a8, .ref a9, .ref a10])), (a2, .inl (cI, 32, .inl (upd (upd un (8 * j) p1) ((8 * j) + 1) p2)))] := hD
  refine lv_aload_n hx hb dX2_picture_108 rfl (lv_at hl 1 rfl) ?_
  refine va_get (D := (dC, dI)) (ci := 2) (v := .ref a2) (C := "TextureUnitsModel") (T := TX2) (N := 11) hx hb hts (tw_s inX2) hown hK hP 0 rfl rfl 2 (by decide) (hts _ (tw_c tw_335)) (fun _ h9 => h9) rfl dX2_picture_109 ?_
  refine lv_bipush (v := 8) hx hb dX2_picture_112 (by decide) ?_
  refine lv_iload_n hx hb dX2_picture_114 rfl (lv_at hl 2 rfl) ?_
  refine lv_imul hx hb dX2_picture_115 ?_
  refine lv_topi (fun x_12 ex_12 => ?_)
  have ex_12 : x_12 = nI (8 * j) := ex_12.trans (pk_mul 8 j)
  subst ex_12
  refine lv_iconst (v := 2) hx hb dX2_picture_116 (by decide) ?_
  refine lv_iadd hx hb dX2_picture_117 ?_
  refine lv_topi (fun x_13 ex_13 => ?_)
  have ex_13 : x_13 = nI ((8 * j) + 2) := ex_13.trans (nI_add (8 * j) 2)
  subst ex_13
  refine lv_iload hx hb dX2_picture_118 (lv_at hl 5 rfl) ?_
  refine va_iast hx hb hK hP hD hS 1 0 rfl rfl (vp_in_nI (by omega) (by decide)) dX2_picture_120 (fun H locs hP hD hS => ?_)
  rw [show (nI ((8 * j) + 2)).toNatClampNeg = ((8 * j) + 2) from nI_clamp (by omega)] at hP hD
  have hP : va_P (dC, dI) vwCl [(o, .inr (2, [.int 0, .ref a1, .ref a2, .ref a3, .ref a4, .ref a5, .ref a6, .ref a7, .ref a8, .ref a9, .ref a10])), (a2, .inl (cI, 32, .inl (upd (upd (upd un (8 * j) p1) ((8 * j) + 1) p2) ((8 * j) + 2) p3)))] H := hP
  have hD : va_D A [(o, .inr (2, [.int 0, .ref a1, .ref a2, .ref a3, .ref a4, .ref a5, .ref a6, .ref a7, .ref a8, .ref a9, .ref a10])), (a2, .inl (cI, 32, .inl (upd (upd (upd un (8 * j) p1) ((8 * j) + 1) p2) ((8 * j) + 2) p3)))] := hD
  refine lv_aload_n hx hb dX2_picture_121 rfl (lv_at hl 1 rfl) ?_
  refine va_get (D := (dC, dI)) (ci := 2) (v := .ref a2) (C := "TextureUnitsModel") (T := TX2) (N := 11) hx hb hts (tw_s inX2) hown hK hP 0 rfl rfl 2 (by decide) (hts _ (tw_c tw_335)) (fun _ h9 => h9) rfl dX2_picture_122 ?_
  refine lv_bipush (v := 8) hx hb dX2_picture_125 (by decide) ?_
  refine lv_iload_n hx hb dX2_picture_127 rfl (lv_at hl 2 rfl) ?_
  refine lv_imul hx hb dX2_picture_128 ?_
  refine lv_topi (fun x_14 ex_14 => ?_)
  have ex_14 : x_14 = nI (8 * j) := ex_14.trans (pk_mul 8 j)
  subst ex_14
  refine lv_iconst (v := 3) hx hb dX2_picture_129 (by decide) ?_
  refine lv_iadd hx hb dX2_picture_130 ?_
  refine lv_topi (fun x_15 ex_15 => ?_)
  have ex_15 : x_15 = nI ((8 * j) + 3) := ex_15.trans (nI_add (8 * j) 3)
  subst ex_15
  refine lv_iload hx hb dX2_picture_131 (lv_at hl 6 rfl) ?_
  refine va_iast hx hb hK hP hD hS 1 0 rfl rfl (vp_in_nI (by omega) (by decide)) dX2_picture_133 (fun H locs hP hD hS => ?_)
  rw [show (nI ((8 * j) + 3)).toNatClampNeg = ((8 * j) + 3) from nI_clamp (by omega)] at hP hD
  have hP : va_P (dC, dI) vwCl [(o, .inr (2, [.int 0, .ref a1, .ref a2, .ref a3, .ref a4, .ref a5, .ref a6, .ref a7, .ref a8, .ref a9, .ref a10])), (a2, .inl (cI, 32, .inl (upd (upd (upd (upd un (8 * j) p1) ((8 * j) + 1) p2) ((8 * j) + 2) p3) ((8 * j) + 3) p4)))] H := hP
  have hD : va_D A [(o, .inr (2, [.int 0, .ref a1, .ref a2, .ref a3, .ref a4, .ref a5, .ref a6, .ref a7, .ref a8, .ref a9, .ref a10])), (a2, .inl (cI, 32, .inl (upd (upd (upd (upd un (8 * j) p1) ((8 * j) + 1) p2) ((8 * j) + 2) p3) ((8 * j) + 3) p4)))] := hD
  refine lv_aload_n hx hb dX2_picture_134 rfl (lv_at hl 1 rfl) ?_
  refine va_get (D := (dC, dI)) (ci := 2) (v := .ref a2) (C := "TextureUnitsModel") (T := TX2) (N := 11) hx hb hts (tw_s inX2) hown hK hP 0 rfl rfl 2 (by decide) (hts _ (tw_c tw_335)) (fun _ h9 => h9) rfl dX2_picture_135 ?_
  refine lv_bipush (v := 8) hx hb dX2_picture_138 (by decide) ?_
  refine lv_iload_n hx hb dX2_picture_140 rfl (lv_at hl 2 rfl) ?_
  refine lv_imul hx hb dX2_picture_141 ?_
  refine lv_topi (fun x_16 ex_16 => ?_)
  have ex_16 : x_16 = nI (8 * j) := ex_16.trans (pk_mul 8 j)
  subst ex_16
  refine lv_iconst (v := 4) hx hb dX2_picture_142 (by decide) ?_
  refine lv_iadd hx hb dX2_picture_143 ?_
  refine lv_topi (fun x_17 ex_17 => ?_)
  have ex_17 : x_17 = nI ((8 * j) + 4) := ex_17.trans (nI_add (8 * j) 4)
  subst ex_17
  refine lv_iload hx hb dX2_picture_144 (lv_at hl 7 rfl) ?_
  refine va_iast hx hb hK hP hD hS 1 0 rfl rfl (vp_in_nI (by omega) (by decide)) dX2_picture_146 (fun H locs hP hD hS => ?_)
  rw [show (nI ((8 * j) + 4)).toNatClampNeg = ((8 * j) + 4) from nI_clamp (by omega)] at hP hD
  have hP : va_P (dC, dI) vwCl [(o, .inr (2, [.int 0, .ref a1, .ref a2, .ref a3, .ref a4, .ref a5, .ref a6, .ref a7, .ref a8, .ref a9, .ref a10])), (a2, .inl (cI, 32, .inl (upd (upd (upd (upd (upd un (8 * j) p1) ((8 * j) + 1) p2) ((8 * j) + 2) p3) ((8 * j) + 3) p4) ((8 * j) + 4) p5)))] H := hP
  have hD : va_D A [(o, .inr (2, [.int 0, .ref a1, .ref a2, .ref a3, .ref a4, .ref a5, .ref a6, .ref a7, .ref a8, .ref a9, .ref a10])), (a2, .inl (cI, 32, .inl (upd (upd (upd (upd (upd un (8 * j) p1) ((8 * j) + 1) p2) ((8 * j) + 2) p3) ((8 * j) + 3) p4) ((8 * j) + 4) p5)))] := hD
  have hP9 : va_P (dC, dI) vwCl [(o, .inr (2, [.int 0, .ref a1, .ref a2, .ref a3, .ref a4, .ref a5, .ref a6, .ref a7, .ref a8, .ref a9, .ref a10])), (a2, .inl (cI, 32, .inl (upd (upd (upd (upd (upd un (8 * j) p1) (8 * j + 1) p2) (8 * j + 2) p3) (8 * j + 3) p4) (8 * j + 4) p5)))] H := hP.sub [0, 1] rfl
  have hD9 : va_D A [(o, .inr (2, [.int 0, .ref a1, .ref a2, .ref a3, .ref a4, .ref a5, .ref a6, .ref a7, .ref a8, .ref a9, .ref a10])), (a2, .inl (cI, 32, .inl (upd (upd (upd (upd (upd un (8 * j) p1) (8 * j + 1) p2) (8 * j + 2) p3) (8 * j + 3) p4) (8 * j + 4) p5)))] := hD.sub [0, 1] (by decide) rfl
  have hK9 : va_K (dC, dI) vwCl [(cI, .int)] s := hK.sub [0] rfl
  exact W.vret hx hb hr (fun t ht hW => ⟨⟨(), rfl, trivial, by rw [ht]; exact hP9, va_K.moved hW.alike hK9, hD9⟩, hS.F ht⟩) hS.2.2 dX2_picture_147
set_option maxHeartbeats 4000000 in
set_option maxRecDepth 100000 in
theorem m_picture2 (l : Launch) (dC : Nat → ClassId) (dI : Nat → Nat → Nat) (o : Nat) (th : Int32) (a1 a2 a3 a4 a5 a6 a7 a8 a9 a10 : Nat) (j : Nat) (p1 p2 p3 p4 p5 : Int32) (sz : Nat) (hj : j < 4) (hn : ¬ (0 ≤ p1 ∧ ¬ tu_win p2 0 10 = 0 ∧ ¬ tu_win p3 0 10 = 0 ∧ ¬ tu_win p4 1 11 = 0 ∧ ¬ tu_win p5 0 7 = 0)) : Met l yX2_picture wsX2_picture ({ frames := 1, cells := 0, slots := 0, locals := 22 }) (va_Pc [.ref o, .int (nI j), .int p1, .int p2, .int p3, .int p4, .int p5] (wr_P (dC, dI) vwCl [(o, .inr (2, [.int th, .ref a1, .ref a2, .ref a3, .ref a4, .ref a5, .ref a6, .ref a7, .ref a8, .ref a9, .ref a10]))] [] sz)) (va_Qv (fun _ : Unit => True) (wr_B (dC, dI) vwCl [(o, .inr (2, [.int 2, .ref a1, .ref a2, .ref a3, .ref a4, .ref a5, .ref a6, .ref a7, .ref a8, .ref a9, .ref a10]))] [] (va_A [(o, .inr (2, [.int th, .ref a1, .ref a2, .ref a3, .ref a4, .ref a5, .ref a6, .ref a7, .ref a8, .ref a9, .ref a10]))] sz)) (va_A [(o, .inr (2, [.int th, .ref a1, .ref a2, .ref a3, .ref a4, .ref a5, .ref a6, .ref a7, .ref a8, .ref a9, .ref a10]))] sz)) 0 0 (va_A [(o, .inr (2, [.int th, .ref a1, .ref a2, .ref a3, .ref a4, .ref a5, .ref a6, .ref a7, .ref a8, .ref a9, .ref a10]))] sz) := by
  refine Met.ofW (cc := cX2_picture) (maxL := 8) (ret := none) (by decide) rfl ?_
  intro p e s m args below meth c s₁ B hml hv
  obtain ⟨rfl, hsz, hP, hK, hD0⟩ := hv
  have hx := B.exec
  have hb := B.bytes
  have hr := B.returns
  have hts := atoms_spec (ws := wsX2_picture) B.pre
  have hown : s.vm.findClass "TextureUnitsModel" = some m.cls := findClass_of_methodNamed B.named
  have hlocks := B.notSynchronized
  subst hsz
  have hD := hD0.self (sz := s.heap.size)
  generalize hAe : va_A [(o, .inr (2, [.int th, .ref a1, .ref a2, .ref a3, .ref a4, .ref a5, .ref a6, .ref a7, .ref a8, .ref a9, .ref a10]))] s.heap.size = A at hD ⊢
  have hA : ∀ q : Nat, s.heap.size ≤ q → A q := fun q h => by rw [← hAe]; exact Or.inr h
  have hS : va_S A s.heap s.heap [] := va_S.rf
  have hP : va_P (dC, dI) vwCl [(o, .inr (2, [.int th, .ref a1, .ref a2, .ref a3, .ref a4, .ref a5, .ref a6, .ref a7, .ref a8, .ref a9, .ref a10]))] s.heap := hP
  have hl := lv_entry ([.ref o, .int (nI j), .int p1, .int p2, .int p3, .int p4, .int p5]) (n := 8) (Nat.le_of_ble_eq_true rfl)
  rw [lg_entry_eq]
  generalize (lg_sl ([.ref o, .int (nI j), .int p1, .int p2, .int p3, .int p4, .int p5]) ++ List.replicate (8 - (lg_sl ([.ref o, .int (nI j), .int p1, .int p2, .int p3, .int p4, .int p5])).length) Slot.unset).toArray = ls at hl ⊢
  have hl : lv_has ls 8 [(0, .ref o), (1, .int (nI j)), (2, .int p1), (3, .int p2), (4, .int p3), (5, .int p4), (6, .int p5)] := hl
  have hu := md_unit hj
  refine lv_iload_n hx hb dX2_picture_0 rfl (lv_at hl 2 rfl) ?_
  refine lv_if_lt (tgt := 51) hx hb dX2_picture_1 (by decide) (fun c_1 => ?_) (fun c_1 => ?_)
  · refine lv_iconst (v := 0) hx hb dX2_picture_51 (by decide) ?_
    refine lv_istore (lv' := [(7, .int 0), (0, .ref o), (1, .int (nI j)), (2, .int p1), (3, .int p2), (4, .int p3), (5, .int p4), (6, .int p5)]) hx hb dX2_picture_52 hl (by decide) rfl (fun ls hl => ?_)
    refine lv_aload_n hx hb dX2_picture_54 rfl (lv_at hl 1 rfl) ?_
    refine lv_iload_n hx hb dX2_picture_55 rfl (lv_at hl 2 rfl) ?_
    refine lv_iconst (v := 0) hx hb dX2_picture_56 (by decide) ?_
    refine lv_iconst (v := 3) hx hb dX2_picture_57 (by decide) ?_
    refine rd_call (W.runS (As := [.int (nI j), .int 0, .int 3]) (rest := [.ref o]) ⟨hx, hb, hml, hown, hts⟩ (m_in l (nI j) 0 3) (va_cwS 3 hts (tg_S tw_375 tw_376 tw_3 tw_377) rfl rfl rfl (by decide +kernel) ⟨Nat.le_of_ble_eq_true rfl, Nat.le_of_ble_eq_true rfl⟩) preEq rfl rfl hl.1 rfl (lv_room (Nat.le_of_ble_eq_true rfl)) dX2_picture_58 ⟨Nat.le_of_ble_eq_true rfl, Nat.le_of_ble_eq_true rfl⟩) ?_
    refine lv_if_ne (tgt := 68) hx hb dX2_picture_61 (by decide) (fun c_2 => ?_) (fun c_2 => absurd c_2 hu)
    refine lv_iconst (v := 0) hx hb dX2_picture_68 (by decide) ?_
    refine lv_iload hx hb dX2_picture_69 (lv_at hl 0 rfl) ?_
    refine lv_if_ne (tgt := 78) hx hb dX2_picture_71 (by decide) (fun c_3 => absurd (by decide) c_3) (fun c_3 => ?_)
    refine lv_iconst (v := 1) hx hb dX2_picture_74 (by decide) ?_
    refine lv_goto (tgt := 79) hx hb dX2_picture_75 (by decide) ?_
    have hPc := hP.sub (ws' := [(o, .inr (2, [.int th, .ref a1, .ref a2, .ref a3, .ref a4, .ref a5, .ref a6, .ref a7, .ref a8, .ref a9, .ref a10]))]) [0] rfl
    have hDc := hD.sub (ws' := [(o, .inr (2, [.int th, .ref a1, .ref a2, .ref a3, .ref a4, .ref a5, .ref a6, .ref a7, .ref a8, .ref a9, .ref a10]))]) [0] (by decide) rfl
    have hFc := va_free (wc := [(o, .inr (2, [.int th, .ref a1, .ref a2, .ref a3, .ref a4, .ref a5, .ref a6, .ref a7, .ref a8, .ref a9, .ref a10]))]) hD hS hA [0] rfl
    refine va_calli (va_runV (As := [.int 0, .int 1]) (rest := []) ⟨hx, hb, hml, hown, hts⟩ (m_refuse2 l dC dI o th a1 a2 a3 a4 a5 a6 a7 a8 a9 a10 0 1 s.heap.size rfl (by decide)) (cwV 2 hts (tg_V tw_378 tw_380 tw_p8 tw_3 tw_381) rfl rfl rfl (by decide +kernel) ⟨Nat.le_of_ble_eq_true rfl, Nat.le_of_ble_eq_true rfl⟩) ⟨wr_blind, va_recv hK hP (ci := 2) (q0 := 0) rfl rfl, fun U hU hW => ⟨rfl, wr_use hPc (hK.sub [] rfl) hDc U hU hW⟩⟩ rfl rfl hl.1 rfl (lv_room (Nat.le_of_ble_eq_true rfl)) dX2_picture_79 ⟨Nat.le_of_ble_eq_true rfl, Nat.le_of_ble_eq_true rfl⟩) hS (fun q _ h => hFc q h) hFc (fun r9 u9 t9 H1 locs ht hvm hw hB hz1 hk1 hS => ?_)
    obtain ⟨hP1, hK1, hD1⟩ := hB
    rw [ht] at hP1
    subst hw
    obtain ⟨hP, hD⟩ := va_join (wr := []) (w1 := [(o, .inr (2, [.int 2, .ref a1, .ref a2, .ref a3, .ref a4, .ref a5, .ref a6, .ref a7, .ref a8, .ref a9, .ref a10]))]) hP hD [0] [] rfl rfl (by decide) (by decide) hk1 hFc hP1 hD1
    have hP := hP.sub (ws' := [(o, .inr (2, [.int 2, .ref a1, .ref a2, .ref a3, .ref a4, .ref a5, .ref a6, .ref a7, .ref a8, .ref a9, .ref a10]))]) [0] rfl
    have hD := hD.sub (ws' := [(o, .inr (2, [.int 2, .ref a1, .ref a2, .ref a3, .ref a4, .ref a5, .ref a6, .ref a7, .ref a8, .ref a9, .ref a10]))]) [0] (by decide) rfl
    clear hPc hDc hFc hP1 hK1 hD1 hk1 hz1
    generalize H1 = H at hP hS ⊢
    refine lv_if_eq (tgt := 86) hx hb dX2_picture_82 (by decide) (fun c_4 => absurd c_4 (by decide)) (fun c_4 => ?_)
    have hP9 : va_P (dC, dI) vwCl [(o, .inr (2, [.int 2, .ref a1, .ref a2, .ref a3, .ref a4, .ref a5, .ref a6, .ref a7, .ref a8, .ref a9, .ref a10]))] H := hP.sub [0] rfl
    have hD9 : va_D A [(o, .inr (2, [.int 2, .ref a1, .ref a2, .ref a3, .ref a4, .ref a5, .ref a6, .ref a7, .ref a8, .ref a9, .ref a10]))] := hD.sub [0] (by decide) rfl
    have hK9 : va_K (dC, dI) vwCl [] s := hK.sub [] rfl
    exact W.vret hx hb hr (fun t ht hW => ⟨⟨(), rfl, trivial, by rw [ht]; exact hP9, va_K.moved hW.alike hK9, hD9⟩, hS.F ht⟩) hS.2.2 dX2_picture_85
  · refine lv_iload_n hx hb dX2_picture_4 rfl (lv_at hl 3 rfl) ?_
    refine lv_iconst (v := 0) hx hb dX2_picture_5 (by decide) ?_
    refine lv_bipush (v := 10) hx hb dX2_picture_6 (by decide) ?_
    refine rd_call (W.runS (As := [.int p2, .int 0, .int 10]) (rest := []) ⟨hx, hb, hml, hown, hts⟩ (m_in l p2 0 10) (va_cwS 3 hts (tg_S tw_375 tw_376 tw_3 tw_377) rfl rfl rfl (by decide +kernel) ⟨Nat.le_of_ble_eq_true rfl, Nat.le_of_ble_eq_true rfl⟩) preEq rfl rfl hl.1 rfl (lv_room (Nat.le_of_ble_eq_true rfl)) dX2_picture_8 ⟨Nat.le_of_ble_eq_true rfl, Nat.le_of_ble_eq_true rfl⟩) ?_
    refine lv_if_eq (tgt := 51) hx hb dX2_picture_11 (by decide) (fun c_5 => ?_) (fun c_5 => ?_)
    · refine lv_iconst (v := 0) hx hb dX2_picture_51 (by decide) ?_
      refine lv_istore (lv' := [(7, .int 0), (0, .ref o), (1, .int (nI j)), (2, .int p1), (3, .int p2), (4, .int p3), (5, .int p4), (6, .int p5)]) hx hb dX2_picture_52 hl (by decide) rfl (fun ls hl => ?_)
      refine lv_aload_n hx hb dX2_picture_54 rfl (lv_at hl 1 rfl) ?_
      refine lv_iload_n hx hb dX2_picture_55 rfl (lv_at hl 2 rfl) ?_
      refine lv_iconst (v := 0) hx hb dX2_picture_56 (by decide) ?_
      refine lv_iconst (v := 3) hx hb dX2_picture_57 (by decide) ?_
      refine rd_call (W.runS (As := [.int (nI j), .int 0, .int 3]) (rest := [.ref o]) ⟨hx, hb, hml, hown, hts⟩ (m_in l (nI j) 0 3) (va_cwS 3 hts (tg_S tw_375 tw_376 tw_3 tw_377) rfl rfl rfl (by decide +kernel) ⟨Nat.le_of_ble_eq_true rfl, Nat.le_of_ble_eq_true rfl⟩) preEq rfl rfl hl.1 rfl (lv_room (Nat.le_of_ble_eq_true rfl)) dX2_picture_58 ⟨Nat.le_of_ble_eq_true rfl, Nat.le_of_ble_eq_true rfl⟩) ?_
      refine lv_if_ne (tgt := 68) hx hb dX2_picture_61 (by decide) (fun c_6 => ?_) (fun c_6 => absurd c_6 hu)
      refine lv_iconst (v := 0) hx hb dX2_picture_68 (by decide) ?_
      refine lv_iload hx hb dX2_picture_69 (lv_at hl 0 rfl) ?_
      refine lv_if_ne (tgt := 78) hx hb dX2_picture_71 (by decide) (fun c_7 => absurd (by decide) c_7) (fun c_7 => ?_)
      refine lv_iconst (v := 1) hx hb dX2_picture_74 (by decide) ?_
      refine lv_goto (tgt := 79) hx hb dX2_picture_75 (by decide) ?_
      have hPc := hP.sub (ws' := [(o, .inr (2, [.int th, .ref a1, .ref a2, .ref a3, .ref a4, .ref a5, .ref a6, .ref a7, .ref a8, .ref a9, .ref a10]))]) [0] rfl
      have hDc := hD.sub (ws' := [(o, .inr (2, [.int th, .ref a1, .ref a2, .ref a3, .ref a4, .ref a5, .ref a6, .ref a7, .ref a8, .ref a9, .ref a10]))]) [0] (by decide) rfl
      have hFc := va_free (wc := [(o, .inr (2, [.int th, .ref a1, .ref a2, .ref a3, .ref a4, .ref a5, .ref a6, .ref a7, .ref a8, .ref a9, .ref a10]))]) hD hS hA [0] rfl
      refine va_calli (va_runV (As := [.int 0, .int 1]) (rest := []) ⟨hx, hb, hml, hown, hts⟩ (m_refuse2 l dC dI o th a1 a2 a3 a4 a5 a6 a7 a8 a9 a10 0 1 s.heap.size rfl (by decide)) (cwV 2 hts (tg_V tw_378 tw_380 tw_p8 tw_3 tw_381) rfl rfl rfl (by decide +kernel) ⟨Nat.le_of_ble_eq_true rfl, Nat.le_of_ble_eq_true rfl⟩) ⟨wr_blind, va_recv hK hP (ci := 2) (q0 := 0) rfl rfl, fun U hU hW => ⟨rfl, wr_use hPc (hK.sub [] rfl) hDc U hU hW⟩⟩ rfl rfl hl.1 rfl (lv_room (Nat.le_of_ble_eq_true rfl)) dX2_picture_79 ⟨Nat.le_of_ble_eq_true rfl, Nat.le_of_ble_eq_true rfl⟩) hS (fun q _ h => hFc q h) hFc (fun r9 u9 t9 H1 locs ht hvm hw hB hz1 hk1 hS => ?_)
      obtain ⟨hP1, hK1, hD1⟩ := hB
      rw [ht] at hP1
      subst hw
      obtain ⟨hP, hD⟩ := va_join (wr := []) (w1 := [(o, .inr (2, [.int 2, .ref a1, .ref a2, .ref a3, .ref a4, .ref a5, .ref a6, .ref a7, .ref a8, .ref a9, .ref a10]))]) hP hD [0] [] rfl rfl (by decide) (by decide) hk1 hFc hP1 hD1
      have hP := hP.sub (ws' := [(o, .inr (2, [.int 2, .ref a1, .ref a2, .ref a3, .ref a4, .ref a5, .ref a6, .ref a7, .ref a8, .ref a9, .ref a10]))]) [0] rfl
      have hD := hD.sub (ws' := [(o, .inr (2, [.int 2, .ref a1, .ref a2, .ref a3, .ref a4, .ref a5, .ref a6, .ref a7, .ref a8, .ref a9, .ref a10]))]) [0] (by decide) rfl
      clear hPc hDc hFc hP1 hK1 hD1 hk1 hz1
      generalize H1 = H at hP hS ⊢
      refine lv_if_eq (tgt := 86) hx hb dX2_picture_82 (by decide) (fun c_8 => absurd c_8 (by decide)) (fun c_8 => ?_)
      have hP9 : va_P (dC, dI) vwCl [(o, .inr (2, [.int 2, .ref a1, .ref a2, .ref a3, .ref a4, .ref a5, .ref a6, .ref a7, .ref a8, .ref a9, .ref a10]))] H := hP.sub [0] rfl
      have hD9 : va_D A [(o, .inr (2, [.int 2, .ref a1, .ref a2, .ref a3, .ref a4, .ref a5, .ref a6, .ref a7, .ref a8, .ref a9, .ref a10]))] := hD.sub [0] (by decide) rfl
      have hK9 : va_K (dC, dI) vwCl [] s := hK.sub [] rfl
      exact W.vret hx hb hr (fun t ht hW => ⟨⟨(), rfl, trivial, by rw [ht]; exact hP9, va_K.moved hW.alike hK9, hD9⟩, hS.F ht⟩) hS.2.2 dX2_picture_85
    · refine lv_iload hx hb dX2_picture_14 (lv_at hl 4 rfl) ?_
      refine lv_iconst (v := 0) hx hb dX2_picture_16 (by decide) ?_
      refine lv_bipush (v := 10) hx hb dX2_picture_17 (by decide) ?_
      refine rd_call (W.runS (As := [.int p3, .int 0, .int 10]) (rest := []) ⟨hx, hb, hml, hown, hts⟩ (m_in l p3 0 10) (va_cwS 3 hts (tg_S tw_375 tw_376 tw_3 tw_377) rfl rfl rfl (by decide +kernel) ⟨Nat.le_of_ble_eq_true rfl, Nat.le_of_ble_eq_true rfl⟩) preEq rfl rfl hl.1 rfl (lv_room (Nat.le_of_ble_eq_true rfl)) dX2_picture_19 ⟨Nat.le_of_ble_eq_true rfl, Nat.le_of_ble_eq_true rfl⟩) ?_
      refine lv_if_eq (tgt := 51) hx hb dX2_picture_22 (by decide) (fun c_9 => ?_) (fun c_9 => ?_)
      · refine lv_iconst (v := 0) hx hb dX2_picture_51 (by decide) ?_
        refine lv_istore (lv' := [(7, .int 0), (0, .ref o), (1, .int (nI j)), (2, .int p1), (3, .int p2), (4, .int p3), (5, .int p4), (6, .int p5)]) hx hb dX2_picture_52 hl (by decide) rfl (fun ls hl => ?_)
        refine lv_aload_n hx hb dX2_picture_54 rfl (lv_at hl 1 rfl) ?_
        refine lv_iload_n hx hb dX2_picture_55 rfl (lv_at hl 2 rfl) ?_
        refine lv_iconst (v := 0) hx hb dX2_picture_56 (by decide) ?_
        refine lv_iconst (v := 3) hx hb dX2_picture_57 (by decide) ?_
        refine rd_call (W.runS (As := [.int (nI j), .int 0, .int 3]) (rest := [.ref o]) ⟨hx, hb, hml, hown, hts⟩ (m_in l (nI j) 0 3) (va_cwS 3 hts (tg_S tw_375 tw_376 tw_3 tw_377) rfl rfl rfl (by decide +kernel) ⟨Nat.le_of_ble_eq_true rfl, Nat.le_of_ble_eq_true rfl⟩) preEq rfl rfl hl.1 rfl (lv_room (Nat.le_of_ble_eq_true rfl)) dX2_picture_58 ⟨Nat.le_of_ble_eq_true rfl, Nat.le_of_ble_eq_true rfl⟩) ?_
        refine lv_if_ne (tgt := 68) hx hb dX2_picture_61 (by decide) (fun c_10 => ?_) (fun c_10 => absurd c_10 hu)
        refine lv_iconst (v := 0) hx hb dX2_picture_68 (by decide) ?_
        refine lv_iload hx hb dX2_picture_69 (lv_at hl 0 rfl) ?_
        refine lv_if_ne (tgt := 78) hx hb dX2_picture_71 (by decide) (fun c_11 => absurd (by decide) c_11) (fun c_11 => ?_)
        refine lv_iconst (v := 1) hx hb dX2_picture_74 (by decide) ?_
        refine lv_goto (tgt := 79) hx hb dX2_picture_75 (by decide) ?_
        have hPc := hP.sub (ws' := [(o, .inr (2, [.int th, .ref a1, .ref a2, .ref a3, .ref a4, .ref a5, .ref a6, .ref a7, .ref a8, .ref a9, .ref a10]))]) [0] rfl
        have hDc := hD.sub (ws' := [(o, .inr (2, [.int th, .ref a1, .ref a2, .ref a3, .ref a4, .ref a5, .ref a6, .ref a7, .ref a8, .ref a9, .ref a10]))]) [0] (by decide) rfl
        have hFc := va_free (wc := [(o, .inr (2, [.int th, .ref a1, .ref a2, .ref a3, .ref a4, .ref a5, .ref a6, .ref a7, .ref a8, .ref a9, .ref a10]))]) hD hS hA [0] rfl
        refine va_calli (va_runV (As := [.int 0, .int 1]) (rest := []) ⟨hx, hb, hml, hown, hts⟩ (m_refuse2 l dC dI o th a1 a2 a3 a4 a5 a6 a7 a8 a9 a10 0 1 s.heap.size rfl (by decide)) (cwV 2 hts (tg_V tw_378 tw_380 tw_p8 tw_3 tw_381) rfl rfl rfl (by decide +kernel) ⟨Nat.le_of_ble_eq_true rfl, Nat.le_of_ble_eq_true rfl⟩) ⟨wr_blind, va_recv hK hP (ci := 2) (q0 := 0) rfl rfl, fun U hU hW => ⟨rfl, wr_use hPc (hK.sub [] rfl) hDc U hU hW⟩⟩ rfl rfl hl.1 rfl (lv_room (Nat.le_of_ble_eq_true rfl)) dX2_picture_79 ⟨Nat.le_of_ble_eq_true rfl, Nat.le_of_ble_eq_true rfl⟩) hS (fun q _ h => hFc q h) hFc (fun r9 u9 t9 H1 locs ht hvm hw hB hz1 hk1 hS => ?_)
        obtain ⟨hP1, hK1, hD1⟩ := hB
        rw [ht] at hP1
        subst hw
        obtain ⟨hP, hD⟩ := va_join (wr := []) (w1 := [(o, .inr (2, [.int 2, .ref a1, .ref a2, .ref a3, .ref a4, .ref a5, .ref a6, .ref a7, .ref a8, .ref a9, .ref a10]))]) hP hD [0] [] rfl rfl (by decide) (by decide) hk1 hFc hP1 hD1
        have hP := hP.sub (ws' := [(o, .inr (2, [.int 2, .ref a1, .ref a2, .ref a3, .ref a4, .ref a5, .ref a6, .ref a7, .ref a8, .ref a9, .ref a10]))]) [0] rfl
        have hD := hD.sub (ws' := [(o, .inr (2, [.int 2, .ref a1, .ref a2, .ref a3, .ref a4, .ref a5, .ref a6, .ref a7, .ref a8, .ref a9, .ref a10]))]) [0] (by decide) rfl
        clear hPc hDc hFc hP1 hK1 hD1 hk1 hz1
        generalize H1 = H at hP hS ⊢
        refine lv_if_eq (tgt := 86) hx hb dX2_picture_82 (by decide) (fun c_12 => absurd c_12 (by decide)) (fun c_12 => ?_)
        have hP9 : va_P (dC, dI) vwCl [(o, .inr (2, [.int 2, .ref a1, .ref a2, .ref a3, .ref a4, .ref a5, .ref a6, .ref a7, .ref a8, .ref a9, .ref a10]))] H := hP.sub [0] rfl
        have hD9 : va_D A [(o, .inr (2, [.int 2, .ref a1, .ref a2, .ref a3, .ref a4, .ref a5, .ref a6, .ref a7, .ref a8, .ref a9, .ref a10]))] := hD.sub [0] (by decide) rfl
        have hK9 : va_K (dC, dI) vwCl [] s := hK.sub [] rfl
        exact W.vret hx hb hr (fun t ht hW => ⟨⟨(), rfl, trivial, by rw [ht]; exact hP9, va_K.moved hW.alike hK9, hD9⟩, hS.F ht⟩) hS.2.2 dX2_picture_85
      · refine lv_iload hx hb dX2_picture_25 (lv_at hl 5 rfl) ?_
        refine lv_iconst (v := 1) hx hb dX2_picture_27 (by decide) ?_
        refine lv_bipush (v := 11) hx hb dX2_picture_28 (by decide) ?_
        refine rd_call (W.runS (As := [.int p4, .int 1, .int 11]) (rest := []) ⟨hx, hb, hml, hown, hts⟩ (m_in l p4 1 11) (va_cwS 3 hts (tg_S tw_375 tw_376 tw_3 tw_377) rfl rfl rfl (by decide +kernel) ⟨Nat.le_of_ble_eq_true rfl, Nat.le_of_ble_eq_true rfl⟩) preEq rfl rfl hl.1 rfl (lv_room (Nat.le_of_ble_eq_true rfl)) dX2_picture_30 ⟨Nat.le_of_ble_eq_true rfl, Nat.le_of_ble_eq_true rfl⟩) ?_
        refine lv_if_eq (tgt := 51) hx hb dX2_picture_33 (by decide) (fun c_13 => ?_) (fun c_13 => ?_)
        · refine lv_iconst (v := 0) hx hb dX2_picture_51 (by decide) ?_
          refine lv_istore (lv' := [(7, .int 0), (0, .ref o), (1, .int (nI j)), (2, .int p1), (3, .int p2), (4, .int p3), (5, .int p4), (6, .int p5)]) hx hb dX2_picture_52 hl (by decide) rfl (fun ls hl => ?_)
          refine lv_aload_n hx hb dX2_picture_54 rfl (lv_at hl 1 rfl) ?_
          refine lv_iload_n hx hb dX2_picture_55 rfl (lv_at hl 2 rfl) ?_
          refine lv_iconst (v := 0) hx hb dX2_picture_56 (by decide) ?_
          refine lv_iconst (v := 3) hx hb dX2_picture_57 (by decide) ?_
          refine rd_call (W.runS (As := [.int (nI j), .int 0, .int 3]) (rest := [.ref o]) ⟨hx, hb, hml, hown, hts⟩ (m_in l (nI j) 0 3) (va_cwS 3 hts (tg_S tw_375 tw_376 tw_3 tw_377) rfl rfl rfl (by decide +kernel) ⟨Nat.le_of_ble_eq_true rfl, Nat.le_of_ble_eq_true rfl⟩) preEq rfl rfl hl.1 rfl (lv_room (Nat.le_of_ble_eq_true rfl)) dX2_picture_58 ⟨Nat.le_of_ble_eq_true rfl, Nat.le_of_ble_eq_true rfl⟩) ?_
          refine lv_if_ne (tgt := 68) hx hb dX2_picture_61 (by decide) (fun c_14 => ?_) (fun c_14 => absurd c_14 hu)
          refine lv_iconst (v := 0) hx hb dX2_picture_68 (by decide) ?_
          refine lv_iload hx hb dX2_picture_69 (lv_at hl 0 rfl) ?_
          refine lv_if_ne (tgt := 78) hx hb dX2_picture_71 (by decide) (fun c_15 => absurd (by decide) c_15) (fun c_15 => ?_)
          refine lv_iconst (v := 1) hx hb dX2_picture_74 (by decide) ?_
          refine lv_goto (tgt := 79) hx hb dX2_picture_75 (by decide) ?_
          have hPc := hP.sub (ws' := [(o, .inr (2, [.int th, .ref a1, .ref a2, .ref a3, .ref a4, .ref a5, .ref a6, .ref a7, .ref a8, .ref a9, .ref a10]))]) [0] rfl
          have hDc := hD.sub (ws' := [(o, .inr (2, [.int th, .ref a1, .ref a2, .ref a3, .ref a4, .ref a5, .ref a6, .ref a7, .ref a8, .ref a9, .ref a10]))]) [0] (by decide) rfl
          have hFc := va_free (wc := [(o, .inr (2, [.int th, .ref a1, .ref a2, .ref a3, .ref a4, .ref a5, .ref a6, .ref a7, .ref a8, .ref a9, .ref a10]))]) hD hS hA [0] rfl
          refine va_calli (va_runV (As := [.int 0, .int 1]) (rest := []) ⟨hx, hb, hml, hown, hts⟩ (m_refuse2 l dC dI o th a1 a2 a3 a4 a5 a6 a7 a8 a9 a10 0 1 s.heap.size rfl (by decide)) (cwV 2 hts (tg_V tw_378 tw_380 tw_p8 tw_3 tw_381) rfl rfl rfl (by decide +kernel) ⟨Nat.le_of_ble_eq_true rfl, Nat.le_of_ble_eq_true rfl⟩) ⟨wr_blind, va_recv hK hP (ci := 2) (q0 := 0) rfl rfl, fun U hU hW => ⟨rfl, wr_use hPc (hK.sub [] rfl) hDc U hU hW⟩⟩ rfl rfl hl.1 rfl (lv_room (Nat.le_of_ble_eq_true rfl)) dX2_picture_79 ⟨Nat.le_of_ble_eq_true rfl, Nat.le_of_ble_eq_true rfl⟩) hS (fun q _ h => hFc q h) hFc (fun r9 u9 t9 H1 locs ht hvm hw hB hz1 hk1 hS => ?_)
          obtain ⟨hP1, hK1, hD1⟩ := hB
          rw [ht] at hP1
          subst hw
          obtain ⟨hP, hD⟩ := va_join (wr := []) (w1 := [(o, .inr (2, [.int 2, .ref a1, .ref a2, .ref a3, .ref a4, .ref a5, .ref a6, .ref a7, .ref a8, .ref a9, .ref a10]))]) hP hD [0] [] rfl rfl (by decide) (by decide) hk1 hFc hP1 hD1
          have hP := hP.sub (ws' := [(o, .inr (2, [.int 2, .ref a1, .ref a2, .ref a3, .ref a4, .ref a5, .ref a6, .ref a7, .ref a8, .ref a9, .ref a10]))]) [0] rfl
          have hD := hD.sub (ws' := [(o, .inr (2, [.int 2, .ref a1, .ref a2, .ref a3, .ref a4, .ref a5, .ref a6, .ref a7, .ref a8, .ref a9, .ref a10]))]) [0] (by decide) rfl
          clear hPc hDc hFc hP1 hK1 hD1 hk1 hz1
          generalize H1 = H at hP hS ⊢
          refine lv_if_eq (tgt := 86) hx hb dX2_picture_82 (by decide) (fun c_16 => absurd c_16 (by decide)) (fun c_16 => ?_)
          have hP9 : va_P (dC, dI) vwCl [(o, .inr (2, [.int 2, .ref a1, .ref a2, .ref a3, .ref a4, .ref a5, .ref a6, .ref a7, .ref a8, .ref a9, .ref a10]))] H := hP.sub [0] rfl
          have hD9 : va_D A [(o, .inr (2, [.int 2, .ref a1, .ref a2, .ref a3, .ref a4, .ref a5, .ref a6, .ref a7, .ref a8, .ref a9, .ref a10]))] := hD.sub [0] (by decide) rfl
          have hK9 : va_K (dC, dI) vwCl [] s := hK.sub [] rfl
          exact W.vret hx hb hr (fun t ht hW => ⟨⟨(), rfl, trivial, by rw [ht]; exact hP9, va_K.moved hW.alike hK9, hD9⟩, hS.F ht⟩) hS.2.2 dX2_picture_85
        · refine lv_iload hx hb dX2_picture_36 (lv_at hl 6 rfl) ?_
          refine lv_iconst (v := 0) hx hb dX2_picture_38 (by decide) ?_
          refine lv_bipush (v := 7) hx hb dX2_picture_39 (by decide) ?_
          refine rd_call (W.runS (As := [.int p5, .int 0, .int 7]) (rest := []) ⟨hx, hb, hml, hown, hts⟩ (m_in l p5 0 7) (va_cwS 3 hts (tg_S tw_375 tw_376 tw_3 tw_377) rfl rfl rfl (by decide +kernel) ⟨Nat.le_of_ble_eq_true rfl, Nat.le_of_ble_eq_true rfl⟩) preEq rfl rfl hl.1 rfl (lv_room (Nat.le_of_ble_eq_true rfl)) dX2_picture_41 ⟨Nat.le_of_ble_eq_true rfl, Nat.le_of_ble_eq_true rfl⟩) ?_
          refine lv_if_eq (tgt := 51) hx hb dX2_picture_44 (by decide) (fun c_17 => ?_) (fun c_17 => ?_)
          · refine lv_iconst (v := 0) hx hb dX2_picture_51 (by decide) ?_
            refine lv_istore (lv' := [(7, .int 0), (0, .ref o), (1, .int (nI j)), (2, .int p1), (3, .int p2), (4, .int p3), (5, .int p4), (6, .int p5)]) hx hb dX2_picture_52 hl (by decide) rfl (fun ls hl => ?_)
            refine lv_aload_n hx hb dX2_picture_54 rfl (lv_at hl 1 rfl) ?_
            refine lv_iload_n hx hb dX2_picture_55 rfl (lv_at hl 2 rfl) ?_
            refine lv_iconst (v := 0) hx hb dX2_picture_56 (by decide) ?_
            refine lv_iconst (v := 3) hx hb dX2_picture_57 (by decide) ?_
            refine rd_call (W.runS (As := [.int (nI j), .int 0, .int 3]) (rest := [.ref o]) ⟨hx, hb, hml, hown, hts⟩ (m_in l (nI j) 0 3) (va_cwS 3 hts (tg_S tw_375 tw_376 tw_3 tw_377) rfl rfl rfl (by decide +kernel) ⟨Nat.le_of_ble_eq_true rfl, Nat.le_of_ble_eq_true rfl⟩) preEq rfl rfl hl.1 rfl (lv_room (Nat.le_of_ble_eq_true rfl)) dX2_picture_58 ⟨Nat.le_of_ble_eq_true rfl, Nat.le_of_ble_eq_true rfl⟩) ?_
            refine lv_if_ne (tgt := 68) hx hb dX2_picture_61 (by decide) (fun c_18 => ?_) (fun c_18 => absurd c_18 hu)
            refine lv_iconst (v := 0) hx hb dX2_picture_68 (by decide) ?_
            refine lv_iload hx hb dX2_picture_69 (lv_at hl 0 rfl) ?_
            refine lv_if_ne (tgt := 78) hx hb dX2_picture_71 (by decide) (fun c_19 => absurd (by decide) c_19) (fun c_19 => ?_)
            refine lv_iconst (v := 1) hx hb dX2_picture_74 (by decide) ?_
            refine lv_goto (tgt := 79) hx hb dX2_picture_75 (by decide) ?_
            have hPc := hP.sub (ws' := [(o, .inr (2, [.int th, .ref a1, .ref a2, .ref a3, .ref a4, .ref a5, .ref a6, .ref a7, .ref a8, .ref a9, .ref a10]))]) [0] rfl
            have hDc := hD.sub (ws' := [(o, .inr (2, [.int th, .ref a1, .ref a2, .ref a3, .ref a4, .ref a5, .ref a6, .ref a7, .ref a8, .ref a9, .ref a10]))]) [0] (by decide) rfl
            have hFc := va_free (wc := [(o, .inr (2, [.int th, .ref a1, .ref a2, .ref a3, .ref a4, .ref a5, .ref a6, .ref a7, .ref a8, .ref a9, .ref a10]))]) hD hS hA [0] rfl
            refine va_calli (va_runV (As := [.int 0, .int 1]) (rest := []) ⟨hx, hb, hml, hown, hts⟩ (m_refuse2 l dC dI o th a1 a2 a3 a4 a5 a6 a7 a8 a9 a10 0 1 s.heap.size rfl (by decide)) (cwV 2 hts (tg_V tw_378 tw_380 tw_p8 tw_3 tw_381) rfl rfl rfl (by decide +kernel) ⟨Nat.le_of_ble_eq_true rfl, Nat.le_of_ble_eq_true rfl⟩) ⟨wr_blind, va_recv hK hP (ci := 2) (q0 := 0) rfl rfl, fun U hU hW => ⟨rfl, wr_use hPc (hK.sub [] rfl) hDc U hU hW⟩⟩ rfl rfl hl.1 rfl (lv_room (Nat.le_of_ble_eq_true rfl)) dX2_picture_79 ⟨Nat.le_of_ble_eq_true rfl, Nat.le_of_ble_eq_true rfl⟩) hS (fun q _ h => hFc q h) hFc (fun r9 u9 t9 H1 locs ht hvm hw hB hz1 hk1 hS => ?_)
            obtain ⟨hP1, hK1, hD1⟩ := hB
            rw [ht] at hP1
            subst hw
            obtain ⟨hP, hD⟩ := va_join (wr := []) (w1 := [(o, .inr (2, [.int 2, .ref a1, .ref a2, .ref a3, .ref a4, .ref a5, .ref a6, .ref a7, .ref a8, .ref a9, .ref a10]))]) hP hD [0] [] rfl rfl (by decide) (by decide) hk1 hFc hP1 hD1
            have hP := hP.sub (ws' := [(o, .inr (2, [.int 2, .ref a1, .ref a2, .ref a3, .ref a4, .ref a5, .ref a6, .ref a7, .ref a8, .ref a9, .ref a10]))]) [0] rfl
            have hD := hD.sub (ws' := [(o, .inr (2, [.int 2, .ref a1, .ref a2, .ref a3, .ref a4, .ref a5, .ref a6, .ref a7, .ref a8, .ref a9, .ref a10]))]) [0] (by decide) rfl
            clear hPc hDc hFc hP1 hK1 hD1 hk1 hz1
            generalize H1 = H at hP hS ⊢
            refine lv_if_eq (tgt := 86) hx hb dX2_picture_82 (by decide) (fun c_20 => absurd c_20 (by decide)) (fun c_20 => ?_)
            have hP9 : va_P (dC, dI) vwCl [(o, .inr (2, [.int 2, .ref a1, .ref a2, .ref a3, .ref a4, .ref a5, .ref a6, .ref a7, .ref a8, .ref a9, .ref a10]))] H := hP.sub [0] rfl
            have hD9 : va_D A [(o, .inr (2, [.int 2, .ref a1, .ref a2, .ref a3, .ref a4, .ref a5, .ref a6, .ref a7, .ref a8, .ref a9, .ref a10]))] := hD.sub [0] (by decide) rfl
            have hK9 : va_K (dC, dI) vwCl [] s := hK.sub [] rfl
            exact W.vret hx hb hr (fun t ht hW => ⟨⟨(), rfl, trivial, by rw [ht]; exact hP9, va_K.moved hW.alike hK9, hD9⟩, hS.F ht⟩) hS.2.2 dX2_picture_85
          · exact absurd ⟨k2_le c_1, c_5, c_9, c_13, c_17⟩ hn
set_option maxHeartbeats 4000000 in
set_option maxRecDepth 100000 in
theorem m_manner0 (l : Launch) (dC : Nat → ClassId) (dI : Nat → Nat → Nat) (o : Nat) (th : Int32) (a1 a2 a3 a4 a5 a6 a7 a8 a9 a10 : Nat) (cI : ClassId) (un : Nat → Int32) (j : Nat) (p1 p2 p3 : Int32) (sz : Nat) (hj : j < 4) (hv : ¬ tu_win p1 0 3 = 0 ∧ ¬ tu_win p2 0 3 = 0 ∧ ¬ tu_win p3 0 3 = 0) : Met l yX2_manner wsX2_manner ({ frames := 1, cells := 0, slots := 0, locals := 22 }) (va_Pc [.ref o, .int (nI j), .int p1, .int p2, .int p3] (wr_P (dC, dI) vwCl [(o, .inr (2, [.int th, .ref a1, .ref a2, .ref a3, .ref a4, .ref a5, .ref a6, .ref a7, .ref a8, .ref a9, .ref a10])), (a2, .inl (cI, 32, .inl un))] [(cI, .int)] sz)) (va_Qv (fun _ : Unit => True) (wr_B (dC, dI) vwCl [(o, .inr (2, [.int 0, .ref a1, .ref a2, .ref a3, .ref a4, .ref a5, .ref a6, .ref a7, .ref a8, .ref a9, .ref a10])), (a2, .inl (cI, 32, .inl (upd (upd (upd un (8 * j + 5) p1) (8 * j + 6) p2) (8 * j + 7) p3)))] [(cI, .int)] (va_A [(o, .inr (2, [.int th, .ref a1, .ref a2, .ref a3, .ref a4, .ref a5, .ref a6, .ref a7, .ref a8, .ref a9, .ref a10])), (a2, .inl (cI, 32, .inl un))] sz)) (va_A [(o, .inr (2, [.int th, .ref a1, .ref a2, .ref a3, .ref a4, .ref a5, .ref a6, .ref a7, .ref a8, .ref a9, .ref a10])), (a2, .inl (cI, 32, .inl un))] sz)) 0 0 (va_A [(o, .inr (2, [.int th, .ref a1, .ref a2, .ref a3, .ref a4, .ref a5, .ref a6, .ref a7, .ref a8, .ref a9, .ref a10])), (a2, .inl (cI, 32, .inl un))] sz) := by
  refine Met.ofW (cc := cX2_manner) (maxL := 5) (ret := none) (by decide) rfl ?_
  intro p e s m args below meth c s₁ B hml hv
  obtain ⟨rfl, hsz, hP, hK, hD0⟩ := hv
  have hx := B.exec
  have hb := B.bytes
  have hr := B.returns
  have hts := atoms_spec (ws := wsX2_manner) B.pre
  have hown : s.vm.findClass "TextureUnitsModel" = some m.cls := findClass_of_methodNamed B.named
  have hlocks := B.notSynchronized
  subst hsz
  have hD := hD0.self (sz := s.heap.size)
  generalize hAe : va_A [(o, .inr (2, [.int th, .ref a1, .ref a2, .ref a3, .ref a4, .ref a5, .ref a6, .ref a7, .ref a8, .ref a9, .ref a10])), (a2, .inl (cI, 32, .inl un))] s.heap.size = A at hD ⊢
  have hA : ∀ q : Nat, s.heap.size ≤ q → A q := fun q h => by rw [← hAe]; exact Or.inr h
  have hS : va_S A s.heap s.heap [] := va_S.rf
  have hP : va_P (dC, dI) vwCl [(o, .inr (2, [.int th, .ref a1, .ref a2, .ref a3, .ref a4, .ref a5, .ref a6, .ref a7, .ref a8, .ref a9, .ref a10])), (a2, .inl (cI, 32, .inl un))] s.heap := hP
  have hl := lv_entry ([.ref o, .int (nI j), .int p1, .int p2, .int p3]) (n := 5) (Nat.le_of_ble_eq_true rfl)
  rw [lg_entry_eq]
  generalize (lg_sl ([.ref o, .int (nI j), .int p1, .int p2, .int p3]) ++ List.replicate (5 - (lg_sl ([.ref o, .int (nI j), .int p1, .int p2, .int p3])).length) Slot.unset).toArray = ls at hl ⊢
  have hl : lv_has ls 5 [(0, .ref o), (1, .int (nI j)), (2, .int p1), (3, .int p2), (4, .int p3)] := hl
  have hu := md_unit hj
  refine lv_aload_n hx hb dX2_manner_0 rfl (lv_at hl 0 rfl) ?_
  refine lv_iload_n hx hb dX2_manner_1 rfl (lv_at hl 1 rfl) ?_
  refine lv_iconst (v := 0) hx hb dX2_manner_2 (by decide) ?_
  refine lv_iconst (v := 3) hx hb dX2_manner_3 (by decide) ?_
  refine rd_call (W.runS (As := [.int (nI j), .int 0, .int 3]) (rest := [.ref o]) ⟨hx, hb, hml, hown, hts⟩ (m_in l (nI j) 0 3) (va_cwS 3 hts (tg_S tw_375 tw_376 tw_3 tw_377) rfl rfl rfl (by decide +kernel) ⟨Nat.le_of_ble_eq_true rfl, Nat.le_of_ble_eq_true rfl⟩) preEq rfl rfl hl.1 rfl (lv_room (Nat.le_of_ble_eq_true rfl)) dX2_manner_4 ⟨Nat.le_of_ble_eq_true rfl, Nat.le_of_ble_eq_true rfl⟩) ?_
  refine lv_if_ne (tgt := 14) hx hb dX2_manner_7 (by decide) (fun c_1 => ?_) (fun c_1 => absurd c_1 hu)
  refine lv_iconst (v := 0) hx hb dX2_manner_14 (by decide) ?_
  refine lv_iload_n hx hb dX2_manner_15 rfl (lv_at hl 2 rfl) ?_
  refine lv_iconst (v := 0) hx hb dX2_manner_16 (by decide) ?_
  refine lv_iconst (v := 3) hx hb dX2_manner_17 (by decide) ?_
  refine rd_call (W.runS (As := [.int p1, .int 0, .int 3]) (rest := [.int 0, .ref o]) ⟨hx, hb, hml, hown, hts⟩ (m_in l p1 0 3) (va_cwS 3 hts (tg_S tw_375 tw_376 tw_3 tw_377) rfl rfl rfl (by decide +kernel) ⟨Nat.le_of_ble_eq_true rfl, Nat.le_of_ble_eq_true rfl⟩) preEq rfl rfl hl.1 rfl (lv_room (Nat.le_of_ble_eq_true rfl)) dX2_manner_18 ⟨Nat.le_of_ble_eq_true rfl, Nat.le_of_ble_eq_true rfl⟩) ?_
  refine lv_if_eq (tgt := 43) hx hb dX2_manner_21 (by decide) (fun c_2 => absurd c_2 hv.1) (fun c_2 => ?_)
  refine lv_iload_n hx hb dX2_manner_24 rfl (lv_at hl 3 rfl) ?_
  refine lv_iconst (v := 0) hx hb dX2_manner_25 (by decide) ?_
  refine lv_iconst (v := 3) hx hb dX2_manner_26 (by decide) ?_
  refine rd_call (W.runS (As := [.int p2, .int 0, .int 3]) (rest := [.int 0, .ref o]) ⟨hx, hb, hml, hown, hts⟩ (m_in l p2 0 3) (va_cwS 3 hts (tg_S tw_375 tw_376 tw_3 tw_377) rfl rfl rfl (by decide +kernel) ⟨Nat.le_of_ble_eq_true rfl, Nat.le_of_ble_eq_true rfl⟩) preEq rfl rfl hl.1 rfl (lv_room (Nat.le_of_ble_eq_true rfl)) dX2_manner_27 ⟨Nat.le_of_ble_eq_true rfl, Nat.le_of_ble_eq_true rfl⟩) ?_
  refine lv_if_eq (tgt := 43) hx hb dX2_manner_30 (by decide) (fun c_3 => absurd c_3 hv.2.1) (fun c_3 => ?_)
  refine lv_iload hx hb dX2_manner_33 (lv_at hl 4 rfl) ?_
  refine lv_iconst (v := 0) hx hb dX2_manner_35 (by decide) ?_
  refine lv_iconst (v := 3) hx hb dX2_manner_36 (by decide) ?_
  refine rd_call (W.runS (As := [.int p3, .int 0, .int 3]) (rest := [.int 0, .ref o]) ⟨hx, hb, hml, hown, hts⟩ (m_in l p3 0 3) (va_cwS 3 hts (tg_S tw_375 tw_376 tw_3 tw_377) rfl rfl rfl (by decide +kernel) ⟨Nat.le_of_ble_eq_true rfl, Nat.le_of_ble_eq_true rfl⟩) preEq rfl rfl hl.1 rfl (lv_room (Nat.le_of_ble_eq_true rfl)) dX2_manner_37 ⟨Nat.le_of_ble_eq_true rfl, Nat.le_of_ble_eq_true rfl⟩) ?_
  refine lv_if_ne (tgt := 47) hx hb dX2_manner_40 (by decide) (fun c_4 => ?_) (fun c_4 => absurd c_4 hv.2.2)
  refine lv_iconst (v := 0) hx hb dX2_manner_47 (by decide) ?_
  have hPc := hP.sub (ws' := [(o, .inr (2, [.int th, .ref a1, .ref a2, .ref a3, .ref a4, .ref a5, .ref a6, .ref a7, .ref a8, .ref a9, .ref a10]))]) [0] rfl
  have hDc := hD.sub (ws' := [(o, .inr (2, [.int th, .ref a1, .ref a2, .ref a3, .ref a4, .ref a5, .ref a6, .ref a7, .ref a8, .ref a9, .ref a10]))]) [0] (by decide) rfl
  have hFc := va_free (wc := [(o, .inr (2, [.int th, .ref a1, .ref a2, .ref a3, .ref a4, .ref a5, .ref a6, .ref a7, .ref a8, .ref a9, .ref a10]))]) hD hS hA [0] rfl
  refine va_calli (va_runV (As := [.int 0, .int 0]) (rest := []) ⟨hx, hb, hml, hown, hts⟩ (m_refuse0 l dC dI o th a1 a2 a3 a4 a5 a6 a7 a8 a9 a10 0 0 s.heap.size rfl rfl) (cwV 2 hts (tg_V tw_378 tw_380 tw_p8 tw_3 tw_381) rfl rfl rfl (by decide +kernel) ⟨Nat.le_of_ble_eq_true rfl, Nat.le_of_ble_eq_true rfl⟩) ⟨wr_blind, va_recv hK hP (ci := 2) (q0 := 0) rfl rfl, fun U hU hW => ⟨rfl, wr_use hPc (hK.sub [] rfl) hDc U hU hW⟩⟩ rfl rfl hl.1 rfl (lv_room (Nat.le_of_ble_eq_true rfl)) dX2_manner_48 ⟨Nat.le_of_ble_eq_true rfl, Nat.le_of_ble_eq_true rfl⟩) hS (fun q _ h => hFc q h) hFc (fun r9 u9 t9 H1 locs ht hvm hw hB hz1 hk1 hS => ?_)
  obtain ⟨hP1, hK1, hD1⟩ := hB
  rw [ht] at hP1
  subst hw
  obtain ⟨hP, hD⟩ := va_join (wr := [(a2, .inl (cI, 32, .inl un))]) (w1 := [(o, .inr (2, [.int 0, .ref a1, .ref a2, .ref a3, .ref a4, .ref a5, .ref a6, .ref a7, .ref a8, .ref a9, .ref a10]))]) hP hD [0] [1] rfl rfl (by decide) (by decide) hk1 hFc hP1 hD1
  have hP := hP.sub (ws' := [(o, .inr (2, [.int 0, .ref a1, .ref a2, .ref a3, .ref a4, .ref a5, .ref a6, .ref a7, .ref a8, .ref a9, .ref a10])), (a2, .inl (cI, 32, .inl un))]) [1, 0] rfl
  have hD := hD.sub (ws' := [(o, .inr (2, [.int 0, .ref a1, .ref a2, .ref a3, .ref a4, .ref a5, .ref a6, .ref a7, .ref a8, .ref a9, .ref a10])), (a2, .inl (cI, 32, .inl un))]) [1, 0] (by decide) rfl
  clear hPc hDc hFc hP1 hK1 hD1 hk1 hz1
  generalize H1 = H at hP hS ⊢
  refine lv_if_eq (tgt := 55) hx hb dX2_manner_51 (by decide) (fun c_5 => ?_) (fun c_5 => absurd (by decide) c_5)
  refine lv_aload_n hx hb dX2_manner_55 rfl (lv_at hl 0 rfl) ?_
  refine va_get (D := (dC, dI)) (ci := 2) (v := .ref a2) (C := "TextureUnitsModel") (T := TX2) (N := 11) hx hb hts (tw_s inX2) hown hK hP 0 rfl rfl 2 (by decide) (hts _ (tw_c tw_335)) (fun _ h9 => h9) rfl dX2_manner_56 ?_
  refine lv_bipush (v := 8) hx hb dX2_manner_59 (by decide) ?_
  refine lv_iload_n hx hb dX2_manner_61 rfl (lv_at hl 1 rfl) ?_
  refine lv_imul hx hb dX2_manner_62 ?_
  refine lv_topi (fun x_6 ex_6 => ?_)
  have ex_6 : x_6 = nI (8 * j) := ex_6.trans (pk_mul 8 j)
  subst ex_6
  refine lv_iconst (v := 5) hx hb dX2_manner_63 (by decide) ?_
  refine lv_iadd hx hb dX2_manner_64 ?_
  refine lv_topi (fun x_7 ex_7 => ?_)
  have ex_7 : x_7 = nI ((8 * j) + 5) := ex_7.trans (nI_add (8 * j) 5)
  subst ex_7
  refine lv_iload_n hx hb dX2_manner_65 rfl (lv_at hl 2 rfl) ?_
  refine va_iast hx hb hK hP hD hS 1 0 rfl rfl (vp_in_nI (by omega) (by decide)) dX2_manner_66 (fun H locs hP hD hS => ?_)
  rw [show (nI ((8 * j) + 5)).toNatClampNeg = ((8 * j) + 5) from nI_clamp (by omega)] at hP hD
  have hP : va_P (dC, dI) vwCl [(o, .inr (2, [.int 0, .ref a1, .ref a2, .ref a3, .ref a4, .ref a5, .ref a6, .ref a7, .ref a8, .ref a9, .ref a10])), (a2, .inl (cI, 32, .inl (upd un ((8 * j) + 5) p1)))] H := hP
  have hD : va_D A [(o, .inr (2, [.int 0, .ref a1, .ref a2, .ref a3, .ref a4, .ref a5, .ref a6, .ref a7, .ref a8, .ref a9, .ref a10])), (a2, .inl (cI, 32, .inl (upd un ((8 * j) + 5) p1)))] := hD
  refine lv_aload_n hx hb dX2_manner_67 rfl (lv_at hl 0 rfl) ?_
  refine va_get (D := (dC, dI)) (ci := 2) (v := .ref a2) (C := "TextureUnitsModel") (T := TX2) (N := 11) hx hb hts (tw_s inX2) hown hK hP 0 rfl rfl 2 (by decide) (hts _ (tw_c tw_335)) (fun _ h9 => h9) rfl dX2_manner_68 ?_
  refine lv_bipush (v := 8) hx hb dX2_manner_71 (by decide) ?_
  refine lv_iload_n hx hb dX2_manner_73 rfl (lv_at hl 1 rfl) ?_
  refine lv_imul hx hb dX2_manner_74 ?_
  refine lv_topi (fun x_8 ex_8 => ?_)
  have ex_8 : x_8 = nI (8 * j) := ex_8.trans (pk_mul 8 j)
  subst ex_8
  refine lv_bipush (v := 6) hx hb dX2_manner_75 (by decide) ?_
  refine lv_iadd hx hb dX2_manner_77 ?_
  refine lv_topi (fun x_9 ex_9 => ?_)
  have ex_9 : x_9 = nI ((8 * j) + 6) := ex_9.trans (nI_add (8 * j) 6)
  subst ex_9
  refine lv_iload_n hx hb dX2_manner_78 rfl (lv_at hl 3 rfl) ?_
  refine va_iast hx hb hK hP hD hS 1 0 rfl rfl (vp_in_nI (by omega) (by decide)) dX2_manner_79 (fun H locs hP hD hS => ?_)
  rw [show (nI ((8 * j) + 6)).toNatClampNeg = ((8 * j) + 6) from nI_clamp (by omega)] at hP hD
  have hP : va_P (dC, dI) vwCl [(o, .inr (2, [.int 0, .ref a1, .ref a2, .ref a3, .ref a4, .ref a5, .ref a6, .ref a7, .ref a8, .ref a9, .ref a10])), (a2, .inl (cI, 32, .inl (upd (upd un ((8 * j) + 5) p1) ((8 * j) + 6) p2)))] H := hP
  have hD : va_D A [(o, .inr (2, [.int 0, .ref a1, .ref a2, .ref a3, .ref a4, .ref a5, .ref a6, .ref a7, .ref a8, .ref a9, .ref a10])), (a2, .inl (cI, 32, .inl (upd (upd un ((8 * j) + 5) p1) ((8 * j) + 6) p2)))] := hD
  refine lv_aload_n hx hb dX2_manner_80 rfl (lv_at hl 0 rfl) ?_
  refine va_get (D := (dC, dI)) (ci := 2) (v := .ref a2) (C := "TextureUnitsModel") (T := TX2) (N := 11) hx hb hts (tw_s inX2) hown hK hP 0 rfl rfl 2 (by decide) (hts _ (tw_c tw_335)) (fun _ h9 => h9) rfl dX2_manner_81 ?_
  refine lv_bipush (v := 8) hx hb dX2_manner_84 (by decide) ?_
  refine lv_iload_n hx hb dX2_manner_86 rfl (lv_at hl 1 rfl) ?_
  refine lv_imul hx hb dX2_manner_87 ?_
  refine lv_topi (fun x_10 ex_10 => ?_)
  have ex_10 : x_10 = nI (8 * j) := ex_10.trans (pk_mul 8 j)
  subst ex_10
  refine lv_bipush (v := 7) hx hb dX2_manner_88 (by decide) ?_
  refine lv_iadd hx hb dX2_manner_90 ?_
  refine lv_topi (fun x_11 ex_11 => ?_)
  have ex_11 : x_11 = nI ((8 * j) + 7) := ex_11.trans (nI_add (8 * j) 7)
  subst ex_11
  refine lv_iload hx hb dX2_manner_91 (lv_at hl 4 rfl) ?_
  refine va_iast hx hb hK hP hD hS 1 0 rfl rfl (vp_in_nI (by omega) (by decide)) dX2_manner_93 (fun H locs hP hD hS => ?_)
  rw [show (nI ((8 * j) + 7)).toNatClampNeg = ((8 * j) + 7) from nI_clamp (by omega)] at hP hD
  have hP : va_P (dC, dI) vwCl [(o, .inr (2, [.int 0, .ref a1, .ref a2, .ref a3, .ref a4, .ref a5, .ref a6, .ref a7, .ref a8, .ref a9, .ref a10])), (a2, .inl (cI, 32, .inl (upd (upd (upd un ((8 * j) + 5) p1) ((8 * j) + 6) p2) ((8 * j) + 7) p3)))] H := hP
  have hD : va_D A [(o, .inr (2, [.int 0, .ref a1, .ref a2, .ref a3, .ref a4, .ref a5, .ref a6, .ref a7, .ref a8, .ref a9, .ref a10])), (a2, .inl (cI, 32, .inl (upd (upd (upd un ((8 * j) + 5) p1) ((8 * j) + 6) p2) ((8 * j) + 7) p3)))] := hD
  have hP9 : va_P (dC, dI) vwCl [(o, .inr (2, [.int 0, .ref a1, .ref a2, .ref a3, .ref a4, .ref a5, .ref a6, .ref a7, .ref a8, .ref a9, .ref a10])), (a2, .inl (cI, 32, .inl (upd (upd (upd un (8 * j + 5) p1) (8 * j + 6) p2) (8 * j + 7) p3)))] H := hP.sub [0, 1] rfl
  have hD9 : va_D A [(o, .inr (2, [.int 0, .ref a1, .ref a2, .ref a3, .ref a4, .ref a5, .ref a6, .ref a7, .ref a8, .ref a9, .ref a10])), (a2, .inl (cI, 32, .inl (upd (upd (upd un (8 * j + 5) p1) (8 * j + 6) p2) (8 * j + 7) p3)))] := hD.sub [0, 1] (by decide) rfl
  have hK9 : va_K (dC, dI) vwCl [(cI, .int)] s := hK.sub [0] rfl
  exact W.vret hx hb hr (fun t ht hW => ⟨⟨(), rfl, trivial, by rw [ht]; exact hP9, va_K.moved hW.alike hK9, hD9⟩, hS.F ht⟩) hS.2.2 dX2_manner_94
set_option maxHeartbeats 4000000 in
set_option maxRecDepth 100000 in
theorem m_manner2 (l : Launch) (dC : Nat → ClassId) (dI : Nat → Nat → Nat) (o : Nat) (th : Int32) (a1 a2 a3 a4 a5 a6 a7 a8 a9 a10 : Nat) (j : Nat) (p1 p2 p3 : Int32) (sz : Nat) (hj : j < 4) (hn : ¬ (¬ tu_win p1 0 3 = 0 ∧ ¬ tu_win p2 0 3 = 0 ∧ ¬ tu_win p3 0 3 = 0)) : Met l yX2_manner wsX2_manner ({ frames := 1, cells := 0, slots := 0, locals := 22 }) (va_Pc [.ref o, .int (nI j), .int p1, .int p2, .int p3] (wr_P (dC, dI) vwCl [(o, .inr (2, [.int th, .ref a1, .ref a2, .ref a3, .ref a4, .ref a5, .ref a6, .ref a7, .ref a8, .ref a9, .ref a10]))] [] sz)) (va_Qv (fun _ : Unit => True) (wr_B (dC, dI) vwCl [(o, .inr (2, [.int 2, .ref a1, .ref a2, .ref a3, .ref a4, .ref a5, .ref a6, .ref a7, .ref a8, .ref a9, .ref a10]))] [] (va_A [(o, .inr (2, [.int th, .ref a1, .ref a2, .ref a3, .ref a4, .ref a5, .ref a6, .ref a7, .ref a8, .ref a9, .ref a10]))] sz)) (va_A [(o, .inr (2, [.int th, .ref a1, .ref a2, .ref a3, .ref a4, .ref a5, .ref a6, .ref a7, .ref a8, .ref a9, .ref a10]))] sz)) 0 0 (va_A [(o, .inr (2, [.int th, .ref a1, .ref a2, .ref a3, .ref a4, .ref a5, .ref a6, .ref a7, .ref a8, .ref a9, .ref a10]))] sz) := by
  refine Met.ofW (cc := cX2_manner) (maxL := 5) (ret := none) (by decide) rfl ?_
  intro p e s m args below meth c s₁ B hml hv
  obtain ⟨rfl, hsz, hP, hK, hD0⟩ := hv
  have hx := B.exec
  have hb := B.bytes
  have hr := B.returns
  have hts := atoms_spec (ws := wsX2_manner) B.pre
  have hown : s.vm.findClass "TextureUnitsModel" = some m.cls := findClass_of_methodNamed B.named
  have hlocks := B.notSynchronized
  subst hsz
  have hD := hD0.self (sz := s.heap.size)
  generalize hAe : va_A [(o, .inr (2, [.int th, .ref a1, .ref a2, .ref a3, .ref a4, .ref a5, .ref a6, .ref a7, .ref a8, .ref a9, .ref a10]))] s.heap.size = A at hD ⊢
  have hA : ∀ q : Nat, s.heap.size ≤ q → A q := fun q h => by rw [← hAe]; exact Or.inr h
  have hS : va_S A s.heap s.heap [] := va_S.rf
  have hP : va_P (dC, dI) vwCl [(o, .inr (2, [.int th, .ref a1, .ref a2, .ref a3, .ref a4, .ref a5, .ref a6, .ref a7, .ref a8, .ref a9, .ref a10]))] s.heap := hP
  have hl := lv_entry ([.ref o, .int (nI j), .int p1, .int p2, .int p3]) (n := 5) (Nat.le_of_ble_eq_true rfl)
  rw [lg_entry_eq]
  generalize (lg_sl ([.ref o, .int (nI j), .int p1, .int p2, .int p3]) ++ List.replicate (5 - (lg_sl ([.ref o, .int (nI j), .int p1, .int p2, .int p3])).length) Slot.unset).toArray = ls at hl ⊢
  have hl : lv_has ls 5 [(0, .ref o), (1, .int (nI j)), (2, .int p1), (3, .int p2), (4, .int p3)] := hl
  have hu := md_unit hj
  refine lv_aload_n hx hb dX2_manner_0 rfl (lv_at hl 0 rfl) ?_
  refine lv_iload_n hx hb dX2_manner_1 rfl (lv_at hl 1 rfl) ?_
  refine lv_iconst (v := 0) hx hb dX2_manner_2 (by decide) ?_
  refine lv_iconst (v := 3) hx hb dX2_manner_3 (by decide) ?_
  refine rd_call (W.runS (As := [.int (nI j), .int 0, .int 3]) (rest := [.ref o]) ⟨hx, hb, hml, hown, hts⟩ (m_in l (nI j) 0 3) (va_cwS 3 hts (tg_S tw_375 tw_376 tw_3 tw_377) rfl rfl rfl (by decide +kernel) ⟨Nat.le_of_ble_eq_true rfl, Nat.le_of_ble_eq_true rfl⟩) preEq rfl rfl hl.1 rfl (lv_room (Nat.le_of_ble_eq_true rfl)) dX2_manner_4 ⟨Nat.le_of_ble_eq_true rfl, Nat.le_of_ble_eq_true rfl⟩) ?_
  refine lv_if_ne (tgt := 14) hx hb dX2_manner_7 (by decide) (fun c_1 => ?_) (fun c_1 => absurd c_1 hu)
  refine lv_iconst (v := 0) hx hb dX2_manner_14 (by decide) ?_
  refine lv_iload_n hx hb dX2_manner_15 rfl (lv_at hl 2 rfl) ?_
  refine lv_iconst (v := 0) hx hb dX2_manner_16 (by decide) ?_
  refine lv_iconst (v := 3) hx hb dX2_manner_17 (by decide) ?_
  refine rd_call (W.runS (As := [.int p1, .int 0, .int 3]) (rest := [.int 0, .ref o]) ⟨hx, hb, hml, hown, hts⟩ (m_in l p1 0 3) (va_cwS 3 hts (tg_S tw_375 tw_376 tw_3 tw_377) rfl rfl rfl (by decide +kernel) ⟨Nat.le_of_ble_eq_true rfl, Nat.le_of_ble_eq_true rfl⟩) preEq rfl rfl hl.1 rfl (lv_room (Nat.le_of_ble_eq_true rfl)) dX2_manner_18 ⟨Nat.le_of_ble_eq_true rfl, Nat.le_of_ble_eq_true rfl⟩) ?_
  refine lv_if_eq (tgt := 43) hx hb dX2_manner_21 (by decide) (fun c_2 => ?_) (fun c_2 => ?_)
  · refine lv_iconst (v := 1) hx hb dX2_manner_43 (by decide) ?_
    refine lv_goto (tgt := 48) hx hb dX2_manner_44 (by decide) ?_
    have hPc := hP.sub (ws' := [(o, .inr (2, [.int th, .ref a1, .ref a2, .ref a3, .ref a4, .ref a5, .ref a6, .ref a7, .ref a8, .ref a9, .ref a10]))]) [0] rfl
    have hDc := hD.sub (ws' := [(o, .inr (2, [.int th, .ref a1, .ref a2, .ref a3, .ref a4, .ref a5, .ref a6, .ref a7, .ref a8, .ref a9, .ref a10]))]) [0] (by decide) rfl
    have hFc := va_free (wc := [(o, .inr (2, [.int th, .ref a1, .ref a2, .ref a3, .ref a4, .ref a5, .ref a6, .ref a7, .ref a8, .ref a9, .ref a10]))]) hD hS hA [0] rfl
    refine va_calli (va_runV (As := [.int 0, .int 1]) (rest := []) ⟨hx, hb, hml, hown, hts⟩ (m_refuse2 l dC dI o th a1 a2 a3 a4 a5 a6 a7 a8 a9 a10 0 1 s.heap.size rfl (by decide)) (cwV 2 hts (tg_V tw_378 tw_380 tw_p8 tw_3 tw_381) rfl rfl rfl (by decide +kernel) ⟨Nat.le_of_ble_eq_true rfl, Nat.le_of_ble_eq_true rfl⟩) ⟨wr_blind, va_recv hK hP (ci := 2) (q0 := 0) rfl rfl, fun U hU hW => ⟨rfl, wr_use hPc (hK.sub [] rfl) hDc U hU hW⟩⟩ rfl rfl hl.1 rfl (lv_room (Nat.le_of_ble_eq_true rfl)) dX2_manner_48 ⟨Nat.le_of_ble_eq_true rfl, Nat.le_of_ble_eq_true rfl⟩) hS (fun q _ h => hFc q h) hFc (fun r9 u9 t9 H1 locs ht hvm hw hB hz1 hk1 hS => ?_)
    obtain ⟨hP1, hK1, hD1⟩ := hB
    rw [ht] at hP1
    subst hw
    obtain ⟨hP, hD⟩ := va_join (wr := []) (w1 := [(o, .inr (2, [.int 2, .ref a1, .ref a2, .ref a3, .ref a4, .ref a5, .ref a6, .ref a7, .ref a8, .ref a9, .ref a10]))]) hP hD [0] [] rfl rfl (by decide) (by decide) hk1 hFc hP1 hD1
    have hP := hP.sub (ws' := [(o, .inr (2, [.int 2, .ref a1, .ref a2, .ref a3, .ref a4, .ref a5, .ref a6, .ref a7, .ref a8, .ref a9, .ref a10]))]) [0] rfl
    have hD := hD.sub (ws' := [(o, .inr (2, [.int 2, .ref a1, .ref a2, .ref a3, .ref a4, .ref a5, .ref a6, .ref a7, .ref a8, .ref a9, .ref a10]))]) [0] (by decide) rfl
    clear hPc hDc hFc hP1 hK1 hD1 hk1 hz1
    generalize H1 = H at hP hS ⊢
    refine lv_if_eq (tgt := 55) hx hb dX2_manner_51 (by decide) (fun c_3 => absurd c_3 (by decide)) (fun c_3 => ?_)
    have hP9 : va_P (dC, dI) vwCl [(o, .inr (2, [.int 2, .ref a1, .ref a2, .ref a3, .ref a4, .ref a5, .ref a6, .ref a7, .ref a8, .ref a9, .ref a10]))] H := hP.sub [0] rfl
    have hD9 : va_D A [(o, .inr (2, [.int 2, .ref a1, .ref a2, .ref a3, .ref a4, .ref a5, .ref a6, .ref a7, .ref a8, .ref a9, .ref a10]))] := hD.sub [0] (by decide) rfl
    have hK9 : va_K (dC, dI) vwCl [] s := hK.sub [] rfl
    exact W.vret hx hb hr (fun t ht hW => ⟨⟨(), rfl, trivial, by rw [ht]; exact hP9, va_K.moved hW.alike hK9, hD9⟩, hS.F ht⟩) hS.2.2 dX2_manner_54
  · refine lv_iload_n hx hb dX2_manner_24 rfl (lv_at hl 3 rfl) ?_
    refine lv_iconst (v := 0) hx hb dX2_manner_25 (by decide) ?_
    refine lv_iconst (v := 3) hx hb dX2_manner_26 (by decide) ?_
    refine rd_call (W.runS (As := [.int p2, .int 0, .int 3]) (rest := [.int 0, .ref o]) ⟨hx, hb, hml, hown, hts⟩ (m_in l p2 0 3) (va_cwS 3 hts (tg_S tw_375 tw_376 tw_3 tw_377) rfl rfl rfl (by decide +kernel) ⟨Nat.le_of_ble_eq_true rfl, Nat.le_of_ble_eq_true rfl⟩) preEq rfl rfl hl.1 rfl (lv_room (Nat.le_of_ble_eq_true rfl)) dX2_manner_27 ⟨Nat.le_of_ble_eq_true rfl, Nat.le_of_ble_eq_true rfl⟩) ?_
    refine lv_if_eq (tgt := 43) hx hb dX2_manner_30 (by decide) (fun c_4 => ?_) (fun c_4 => ?_)
    · refine lv_iconst (v := 1) hx hb dX2_manner_43 (by decide) ?_
      refine lv_goto (tgt := 48) hx hb dX2_manner_44 (by decide) ?_
      have hPc := hP.sub (ws' := [(o, .inr (2, [.int th, .ref a1, .ref a2, .ref a3, .ref a4, .ref a5, .ref a6, .ref a7, .ref a8, .ref a9, .ref a10]))]) [0] rfl
      have hDc := hD.sub (ws' := [(o, .inr (2, [.int th, .ref a1, .ref a2, .ref a3, .ref a4, .ref a5, .ref a6, .ref a7, .ref a8, .ref a9, .ref a10]))]) [0] (by decide) rfl
      have hFc := va_free (wc := [(o, .inr (2, [.int th, .ref a1, .ref a2, .ref a3, .ref a4, .ref a5, .ref a6, .ref a7, .ref a8, .ref a9, .ref a10]))]) hD hS hA [0] rfl
      refine va_calli (va_runV (As := [.int 0, .int 1]) (rest := []) ⟨hx, hb, hml, hown, hts⟩ (m_refuse2 l dC dI o th a1 a2 a3 a4 a5 a6 a7 a8 a9 a10 0 1 s.heap.size rfl (by decide)) (cwV 2 hts (tg_V tw_378 tw_380 tw_p8 tw_3 tw_381) rfl rfl rfl (by decide +kernel) ⟨Nat.le_of_ble_eq_true rfl, Nat.le_of_ble_eq_true rfl⟩) ⟨wr_blind, va_recv hK hP (ci := 2) (q0 := 0) rfl rfl, fun U hU hW => ⟨rfl, wr_use hPc (hK.sub [] rfl) hDc U hU hW⟩⟩ rfl rfl hl.1 rfl (lv_room (Nat.le_of_ble_eq_true rfl)) dX2_manner_48 ⟨Nat.le_of_ble_eq_true rfl, Nat.le_of_ble_eq_true rfl⟩) hS (fun q _ h => hFc q h) hFc (fun r9 u9 t9 H1 locs ht hvm hw hB hz1 hk1 hS => ?_)
      obtain ⟨hP1, hK1, hD1⟩ := hB
      rw [ht] at hP1
      subst hw
      obtain ⟨hP, hD⟩ := va_join (wr := []) (w1 := [(o, .inr (2, [.int 2, .ref a1, .ref a2, .ref a3, .ref a4, .ref a5, .ref a6, .ref a7, .ref a8, .ref a9, .ref a10]))]) hP hD [0] [] rfl rfl (by decide) (by decide) hk1 hFc hP1 hD1
      have hP := hP.sub (ws' := [(o, .inr (2, [.int 2, .ref a1, .ref a2, .ref a3, .ref a4, .ref a5, .ref a6, .ref a7, .ref a8, .ref a9, .ref a10]))]) [0] rfl
      have hD := hD.sub (ws' := [(o, .inr (2, [.int 2, .ref a1, .ref a2, .ref a3, .ref a4, .ref a5, .ref a6, .ref a7, .ref a8, .ref a9, .ref a10]))]) [0] (by decide) rfl
      clear hPc hDc hFc hP1 hK1 hD1 hk1 hz1
      generalize H1 = H at hP hS ⊢
      refine lv_if_eq (tgt := 55) hx hb dX2_manner_51 (by decide) (fun c_5 => absurd c_5 (by decide)) (fun c_5 => ?_)
      have hP9 : va_P (dC, dI) vwCl [(o, .inr (2, [.int 2, .ref a1, .ref a2, .ref a3, .ref a4, .ref a5, .ref a6, .ref a7, .ref a8, .ref a9, .ref a10]))] H := hP.sub [0] rfl
      have hD9 : va_D A [(o, .inr (2, [.int 2, .ref a1, .ref a2, .ref a3, .ref a4, .ref a5, .ref a6, .ref a7, .ref a8, .ref a9, .ref a10]))] := hD.sub [0] (by decide) rfl
      have hK9 : va_K (dC, dI) vwCl [] s := hK.sub [] rfl
      exact W.vret hx hb hr (fun t ht hW => ⟨⟨(), rfl, trivial, by rw [ht]; exact hP9, va_K.moved hW.alike hK9, hD9⟩, hS.F ht⟩) hS.2.2 dX2_manner_54
    · refine lv_iload hx hb dX2_manner_33 (lv_at hl 4 rfl) ?_
      refine lv_iconst (v := 0) hx hb dX2_manner_35 (by decide) ?_
      refine lv_iconst (v := 3) hx hb dX2_manner_36 (by decide) ?_
      refine rd_call (W.runS (As := [.int p3, .int 0, .int 3]) (rest := [.int 0, .ref o]) ⟨hx, hb, hml, hown, hts⟩ (m_in l p3 0 3) (va_cwS 3 hts (tg_S tw_375 tw_376 tw_3 tw_377) rfl rfl rfl (by decide +kernel) ⟨Nat.le_of_ble_eq_true rfl, Nat.le_of_ble_eq_true rfl⟩) preEq rfl rfl hl.1 rfl (lv_room (Nat.le_of_ble_eq_true rfl)) dX2_manner_37 ⟨Nat.le_of_ble_eq_true rfl, Nat.le_of_ble_eq_true rfl⟩) ?_
      refine lv_if_ne (tgt := 47) hx hb dX2_manner_40 (by decide) (fun c_6 => ?_) (fun c_6 => ?_)
      · exact absurd ⟨c_2, c_4, c_6⟩ hn
      · refine lv_iconst (v := 1) hx hb dX2_manner_43 (by decide) ?_
        refine lv_goto (tgt := 48) hx hb dX2_manner_44 (by decide) ?_
        have hPc := hP.sub (ws' := [(o, .inr (2, [.int th, .ref a1, .ref a2, .ref a3, .ref a4, .ref a5, .ref a6, .ref a7, .ref a8, .ref a9, .ref a10]))]) [0] rfl
        have hDc := hD.sub (ws' := [(o, .inr (2, [.int th, .ref a1, .ref a2, .ref a3, .ref a4, .ref a5, .ref a6, .ref a7, .ref a8, .ref a9, .ref a10]))]) [0] (by decide) rfl
        have hFc := va_free (wc := [(o, .inr (2, [.int th, .ref a1, .ref a2, .ref a3, .ref a4, .ref a5, .ref a6, .ref a7, .ref a8, .ref a9, .ref a10]))]) hD hS hA [0] rfl
        refine va_calli (va_runV (As := [.int 0, .int 1]) (rest := []) ⟨hx, hb, hml, hown, hts⟩ (m_refuse2 l dC dI o th a1 a2 a3 a4 a5 a6 a7 a8 a9 a10 0 1 s.heap.size rfl (by decide)) (cwV 2 hts (tg_V tw_378 tw_380 tw_p8 tw_3 tw_381) rfl rfl rfl (by decide +kernel) ⟨Nat.le_of_ble_eq_true rfl, Nat.le_of_ble_eq_true rfl⟩) ⟨wr_blind, va_recv hK hP (ci := 2) (q0 := 0) rfl rfl, fun U hU hW => ⟨rfl, wr_use hPc (hK.sub [] rfl) hDc U hU hW⟩⟩ rfl rfl hl.1 rfl (lv_room (Nat.le_of_ble_eq_true rfl)) dX2_manner_48 ⟨Nat.le_of_ble_eq_true rfl, Nat.le_of_ble_eq_true rfl⟩) hS (fun q _ h => hFc q h) hFc (fun r9 u9 t9 H1 locs ht hvm hw hB hz1 hk1 hS => ?_)
        obtain ⟨hP1, hK1, hD1⟩ := hB
        rw [ht] at hP1
        subst hw
        obtain ⟨hP, hD⟩ := va_join (wr := []) (w1 := [(o, .inr (2, [.int 2, .ref a1, .ref a2, .ref a3, .ref a4, .ref a5, .ref a6, .ref a7, .ref a8, .ref a9, .ref a10]))]) hP hD [0] [] rfl rfl (by decide) (by decide) hk1 hFc hP1 hD1
        have hP := hP.sub (ws' := [(o, .inr (2, [.int 2, .ref a1, .ref a2, .ref a3, .ref a4, .ref a5, .ref a6, .ref a7, .ref a8, .ref a9, .ref a10]))]) [0] rfl
        have hD := hD.sub (ws' := [(o, .inr (2, [.int 2, .ref a1, .ref a2, .ref a3, .ref a4, .ref a5, .ref a6, .ref a7, .ref a8, .ref a9, .ref a10]))]) [0] (by decide) rfl
        clear hPc hDc hFc hP1 hK1 hD1 hk1 hz1
        generalize H1 = H at hP hS ⊢
        refine lv_if_eq (tgt := 55) hx hb dX2_manner_51 (by decide) (fun c_7 => absurd c_7 (by decide)) (fun c_7 => ?_)
        have hP9 : va_P (dC, dI) vwCl [(o, .inr (2, [.int 2, .ref a1, .ref a2, .ref a3, .ref a4, .ref a5, .ref a6, .ref a7, .ref a8, .ref a9, .ref a10]))] H := hP.sub [0] rfl
        have hD9 : va_D A [(o, .inr (2, [.int 2, .ref a1, .ref a2, .ref a3, .ref a4, .ref a5, .ref a6, .ref a7, .ref a8, .ref a9, .ref a10]))] := hD.sub [0] (by decide) rfl
        have hK9 : va_K (dC, dI) vwCl [] s := hK.sub [] rfl
        exact W.vret hx hb hr (fun t ht hW => ⟨⟨(), rfl, trivial, by rw [ht]; exact hP9, va_K.moved hW.alike hK9, hD9⟩, hS.F ht⟩) hS.2.2 dX2_manner_54
set_option maxHeartbeats 4000000 in
set_option maxRecDepth 100000 in
theorem m_border0 (l : Launch) (dC : Nat → ClassId) (dI : Nat → Nat → Nat) (o : Nat) (th : Int32) (a1 a2 a3 a4 a5 a6 a7 a8 a9 a10 : Nat) (cI : ClassId) (bo : Nat → Int32) (j : Nat) (p1 p2 p3 p4 : Int32) (sz : Nat) (hj : j < 4) : Met l yX2_border wsX2_border ({ frames := 1, cells := 0, slots := 0, locals := 22 }) (va_Pc [.ref o, .int (nI j), .int p1, .int p2, .int p3, .int p4] (wr_P (dC, dI) vwCl [(o, .inr (2, [.int th, .ref a1, .ref a2, .ref a3, .ref a4, .ref a5, .ref a6, .ref a7, .ref a8, .ref a9, .ref a10])), (a3, .inl (cI, 16, .inl bo))] [(cI, .int)] sz)) (va_Qv (fun _ : Unit => True) (wr_B (dC, dI) vwCl [(o, .inr (2, [.int 0, .ref a1, .ref a2, .ref a3, .ref a4, .ref a5, .ref a6, .ref a7, .ref a8, .ref a9, .ref a10])), (a3, .inl (cI, 16, .inl (upd (upd (upd (upd bo (4 * j) p1) (4 * j + 1) p2) (4 * j + 2) p3) (4 * j + 3) p4)))] [(cI, .int)] (va_A [(o, .inr (2, [.int th, .ref a1, .ref a2, .ref a3, .ref a4, .ref a5, .ref a6, .ref a7, .ref a8, .ref a9, .ref a10])), (a3, .inl (cI, 16, .inl bo))] sz)) (va_A [(o, .inr (2, [.int th, .ref a1, .ref a2, .ref a3, .ref a4, .ref a5, .ref a6, .ref a7, .ref a8, .ref a9, .ref a10])), (a3, .inl (cI, 16, .inl bo))] sz)) 0 0 (va_A [(o, .inr (2, [.int th, .ref a1, .ref a2, .ref a3, .ref a4, .ref a5, .ref a6, .ref a7, .ref a8, .ref a9, .ref a10])), (a3, .inl (cI, 16, .inl bo))] sz) := by
  refine Met.ofW (cc := cX2_border) (maxL := 6) (ret := none) (by decide) rfl ?_
  intro p e s m args below meth c s₁ B hml hv
  obtain ⟨rfl, hsz, hP, hK, hD0⟩ := hv
  have hx := B.exec
  have hb := B.bytes
  have hr := B.returns
  have hts := atoms_spec (ws := wsX2_border) B.pre
  have hown : s.vm.findClass "TextureUnitsModel" = some m.cls := findClass_of_methodNamed B.named
  have hlocks := B.notSynchronized
  subst hsz
  have hD := hD0.self (sz := s.heap.size)
  generalize hAe : va_A [(o, .inr (2, [.int th, .ref a1, .ref a2, .ref a3, .ref a4, .ref a5, .ref a6, .ref a7, .ref a8, .ref a9, .ref a10])), (a3, .inl (cI, 16, .inl bo))] s.heap.size = A at hD ⊢
  have hA : ∀ q : Nat, s.heap.size ≤ q → A q := fun q h => by rw [← hAe]; exact Or.inr h
  have hS : va_S A s.heap s.heap [] := va_S.rf
  have hP : va_P (dC, dI) vwCl [(o, .inr (2, [.int th, .ref a1, .ref a2, .ref a3, .ref a4, .ref a5, .ref a6, .ref a7, .ref a8, .ref a9, .ref a10])), (a3, .inl (cI, 16, .inl bo))] s.heap := hP
  have hl := lv_entry ([.ref o, .int (nI j), .int p1, .int p2, .int p3, .int p4]) (n := 6) (Nat.le_of_ble_eq_true rfl)
  rw [lg_entry_eq]
  generalize (lg_sl ([.ref o, .int (nI j), .int p1, .int p2, .int p3, .int p4]) ++ List.replicate (6 - (lg_sl ([.ref o, .int (nI j), .int p1, .int p2, .int p3, .int p4])).length) Slot.unset).toArray = ls at hl ⊢
  have hl : lv_has ls 6 [(0, .ref o), (1, .int (nI j)), (2, .int p1), (3, .int p2), (4, .int p3), (5, .int p4)] := hl
  have hu := md_unit hj
  refine lv_aload_n hx hb dX2_border_0 rfl (lv_at hl 0 rfl) ?_
  refine lv_iload_n hx hb dX2_border_1 rfl (lv_at hl 1 rfl) ?_
  refine lv_iconst (v := 0) hx hb dX2_border_2 (by decide) ?_
  refine lv_iconst (v := 3) hx hb dX2_border_3 (by decide) ?_
  refine rd_call (W.runS (As := [.int (nI j), .int 0, .int 3]) (rest := [.ref o]) ⟨hx, hb, hml, hown, hts⟩ (m_in l (nI j) 0 3) (va_cwS 3 hts (tg_S tw_375 tw_376 tw_3 tw_377) rfl rfl rfl (by decide +kernel) ⟨Nat.le_of_ble_eq_true rfl, Nat.le_of_ble_eq_true rfl⟩) preEq rfl rfl hl.1 rfl (lv_room (Nat.le_of_ble_eq_true rfl)) dX2_border_4 ⟨Nat.le_of_ble_eq_true rfl, Nat.le_of_ble_eq_true rfl⟩) ?_
  refine lv_if_ne (tgt := 14) hx hb dX2_border_7 (by decide) (fun c_1 => ?_) (fun c_1 => absurd c_1 hu)
  refine lv_iconst (v := 0) hx hb dX2_border_14 (by decide) ?_
  refine lv_iconst (v := 0) hx hb dX2_border_15 (by decide) ?_
  have hPc := hP.sub (ws' := [(o, .inr (2, [.int th, .ref a1, .ref a2, .ref a3, .ref a4, .ref a5, .ref a6, .ref a7, .ref a8, .ref a9, .ref a10]))]) [0] rfl
  have hDc := hD.sub (ws' := [(o, .inr (2, [.int th, .ref a1, .ref a2, .ref a3, .ref a4, .ref a5, .ref a6, .ref a7, .ref a8, .ref a9, .ref a10]))]) [0] (by decide) rfl
  have hFc := va_free (wc := [(o, .inr (2, [.int th, .ref a1, .ref a2, .ref a3, .ref a4, .ref a5, .ref a6, .ref a7, .ref a8, .ref a9, .ref a10]))]) hD hS hA [0] rfl
  refine va_calli (va_runV (As := [.int 0, .int 0]) (rest := []) ⟨hx, hb, hml, hown, hts⟩ (m_refuse0 l dC dI o th a1 a2 a3 a4 a5 a6 a7 a8 a9 a10 0 0 s.heap.size rfl rfl) (cwV 2 hts (tg_V tw_378 tw_380 tw_p8 tw_3 tw_381) rfl rfl rfl (by decide +kernel) ⟨Nat.le_of_ble_eq_true rfl, Nat.le_of_ble_eq_true rfl⟩) ⟨wr_blind, va_recv hK hP (ci := 2) (q0 := 0) rfl rfl, fun U hU hW => ⟨rfl, wr_use hPc (hK.sub [] rfl) hDc U hU hW⟩⟩ rfl rfl hl.1 rfl (lv_room (Nat.le_of_ble_eq_true rfl)) dX2_border_16 ⟨Nat.le_of_ble_eq_true rfl, Nat.le_of_ble_eq_true rfl⟩) hS (fun q _ h => hFc q h) hFc (fun r9 u9 t9 H1 locs ht hvm hw hB hz1 hk1 hS => ?_)
  obtain ⟨hP1, hK1, hD1⟩ := hB
  rw [ht] at hP1
  subst hw
  obtain ⟨hP, hD⟩ := va_join (wr := [(a3, .inl (cI, 16, .inl bo))]) (w1 := [(o, .inr (2, [.int 0, .ref a1, .ref a2, .ref a3, .ref a4, .ref a5, .ref a6, .ref a7, .ref a8, .ref a9, .ref a10]))]) hP hD [0] [1] rfl rfl (by decide) (by decide) hk1 hFc hP1 hD1
  have hP := hP.sub (ws' := [(o, .inr (2, [.int 0, .ref a1, .ref a2, .ref a3, .ref a4, .ref a5, .ref a6, .ref a7, .ref a8, .ref a9, .ref a10])), (a3, .inl (cI, 16, .inl bo))]) [1, 0] rfl
  have hD := hD.sub (ws' := [(o, .inr (2, [.int 0, .ref a1, .ref a2, .ref a3, .ref a4, .ref a5, .ref a6, .ref a7, .ref a8, .ref a9, .ref a10])), (a3, .inl (cI, 16, .inl bo))]) [1, 0] (by decide) rfl
  clear hPc hDc hFc hP1 hK1 hD1 hk1 hz1
  generalize H1 = H at hP hS ⊢
  refine lv_if_eq (tgt := 23) hx hb dX2_border_19 (by decide) (fun c_2 => ?_) (fun c_2 => absurd (by decide) c_2)
  refine lv_aload_n hx hb dX2_border_23 rfl (lv_at hl 0 rfl) ?_
  refine va_get (D := (dC, dI)) (ci := 2) (v := .ref a3) (C := "TextureUnitsModel") (T := TX2) (N := 11) hx hb hts (tw_s inX2) hown hK hP 0 rfl rfl 3 (by decide) (hts _ (tw_c tw_336)) (fun _ h9 => h9) rfl dX2_border_24 ?_
  refine lv_iconst (v := 4) hx hb dX2_border_27 (by decide) ?_
  refine lv_iload_n hx hb dX2_border_28 rfl (lv_at hl 1 rfl) ?_
  refine lv_imul hx hb dX2_border_29 ?_
  refine lv_topi (fun x_3 ex_3 => ?_)
  have ex_3 : x_3 = nI (4 * j) := ex_3.trans (pk_mul 4 j)
  subst ex_3
  refine lv_iload_n hx hb dX2_border_30 rfl (lv_at hl 2 rfl) ?_
  refine va_iast hx hb hK hP hD hS 1 0 rfl rfl (vp_in_nI (by omega) (by decide)) dX2_border_31 (fun H locs hP hD hS => ?_)
  rw [show (nI (4 * j)).toNatClampNeg = (4 * j) from nI_clamp (by omega)] at hP hD
  have hP : va_P (dC, dI) vwCl [(o, .inr (2, [.int 0, .ref a1, .ref a2, .ref a3, .ref a4, .ref a5, .ref a6, .ref a7, .ref a8, .ref a9, .ref a10])), (a3, .inl (cI, 16, .inl (upd bo (4 * j) p1)))] H := hP
  have hD : va_D A [(o, .inr (2, [.int 0, .ref a1, .ref a2, .ref a3, .ref a4, .ref a5, .ref a6, .ref a7, .ref a8, .ref a9, .ref a10])), (a3, .inl (cI, 16, .inl (upd bo (4 * j) p1)))] := hD
  refine lv_aload_n hx hb dX2_border_32 rfl (lv_at hl 0 rfl) ?_
  refine va_get (D := (dC, dI)) (ci := 2) (v := .ref a3) (C := "TextureUnitsModel") (T := TX2) (N := 11) hx hb hts (tw_s inX2) hown hK hP 0 rfl rfl 3 (by decide) (hts _ (tw_c tw_336)) (fun _ h9 => h9) rfl dX2_border_33 ?_
  refine lv_iconst (v := 4) hx hb dX2_border_36 (by decide) ?_
  refine lv_iload_n hx hb dX2_border_37 rfl (lv_at hl 1 rfl) ?_
  refine lv_imul hx hb dX2_border_38 ?_
  refine lv_topi (fun x_4 ex_4 => ?_)
  have ex_4 : x_4 = nI (4 * j) := ex_4.trans (pk_mul 4 j)
  subst ex_4
  refine lv_iconst (v := 1) hx hb dX2_border_39 (by decide) ?_
  refine lv_iadd hx hb dX2_border_40 ?_
  refine lv_topi (fun x_5 ex_5 => ?_)
  have ex_5 : x_5 = nI ((4 * j) + 1) := ex_5.trans (nI_add (4 * j) 1)
  subst ex_5
  refine lv_iload_n hx hb dX2_border_41 rfl (lv_at hl 3 rfl) ?_
  refine va_iast hx hb hK hP hD hS 1 0 rfl rfl (vp_in_nI (by omega) (by decide)) dX2_border_42 (fun H locs hP hD hS => ?_)
  rw [show (nI ((4 * j) + 1)).toNatClampNeg = ((4 * j) + 1) from nI_clamp (by omega)] at hP hD
  have hP : va_P (dC, dI) vwCl [(o, .inr (2, [.int 0, .ref a1, .ref a2, .ref a3, .ref a4, .ref a5, .ref a6, .ref a7, .ref a8, .ref a9, .ref a10])), (a3, .inl (cI, 16, .inl (upd (upd bo (4 * j) p1) ((4 * j) + 1) p2)))] H := hP
  have hD : va_D A [(o, .inr (2, [.int 0, .ref a1, .ref a2, .ref a3, .ref a4, .ref a5, .ref a6, .ref a7, .ref a8, .ref a9, .ref a10])), (a3, .inl (cI, 16, .inl (upd (upd bo (4 * j) p1) ((4 * j) + 1) p2)))] := hD
  refine lv_aload_n hx hb dX2_border_43 rfl (lv_at hl 0 rfl) ?_
  refine va_get (D := (dC, dI)) (ci := 2) (v := .ref a3) (C := "TextureUnitsModel") (T := TX2) (N := 11) hx hb hts (tw_s inX2) hown hK hP 0 rfl rfl 3 (by decide) (hts _ (tw_c tw_336)) (fun _ h9 => h9) rfl dX2_border_44 ?_
  refine lv_iconst (v := 4) hx hb dX2_border_47 (by decide) ?_
  refine lv_iload_n hx hb dX2_border_48 rfl (lv_at hl 1 rfl) ?_
  refine lv_imul hx hb dX2_border_49 ?_
  refine lv_topi (fun x_6 ex_6 => ?_)
  have ex_6 : x_6 = nI (4 * j) := ex_6.trans (pk_mul 4 j)
  subst ex_6
  refine lv_iconst (v := 2) hx hb dX2_border_50 (by decide) ?_
  refine lv_iadd hx hb dX2_border_51 ?_
  refine lv_topi (fun x_7 ex_7 => ?_)
  have ex_7 : x_7 = nI ((4 * j) + 2) := ex_7.trans (nI_add (4 * j) 2)
  subst ex_7
  refine lv_iload hx hb dX2_border_52 (lv_at hl 4 rfl) ?_
  refine va_iast hx hb hK hP hD hS 1 0 rfl rfl (vp_in_nI (by omega) (by decide)) dX2_border_54 (fun H locs hP hD hS => ?_)
  rw [show (nI ((4 * j) + 2)).toNatClampNeg = ((4 * j) + 2) from nI_clamp (by omega)] at hP hD
  have hP : va_P (dC, dI) vwCl [(o, .inr (2, [.int 0, .ref a1, .ref a2, .ref a3, .ref a4, .ref a5, .ref a6, .ref a7, .ref a8, .ref a9, .ref a10])), (a3, .inl (cI, 16, .inl (upd (upd (upd bo (4 * j) p1) ((4 * j) + 1) p2) ((4 * j) + 2) p3)))] H := hP
  have hD : va_D A [(o, .inr (2, [.int 0, .ref a1, .ref a2, .ref a3, .ref a4, .ref a5, .ref a6, .ref a7, .ref a8, .ref a9, .ref a10])), (a3, .inl (cI, 16, .inl (upd (upd (upd bo (4 * j) p1) ((4 * j) + 1) p2) ((4 * j) + 2) p3)))] := hD
  refine lv_aload_n hx hb dX2_border_55 rfl (lv_at hl 0 rfl) ?_
  refine va_get (D := (dC, dI)) (ci := 2) (v := .ref a3) (C := "TextureUnitsModel") (T := TX2) (N := 11) hx hb hts (tw_s inX2) hown hK hP 0 rfl rfl 3 (by decide) (hts _ (tw_c tw_336)) (fun _ h9 => h9) rfl dX2_border_56 ?_
  refine lv_iconst (v := 4) hx hb dX2_border_59 (by decide) ?_
  refine lv_iload_n hx hb dX2_border_60 rfl (lv_at hl 1 rfl) ?_
  refine lv_imul hx hb dX2_border_61 ?_
  refine lv_topi (fun x_8 ex_8 => ?_)
  have ex_8 : x_8 = nI (4 * j) := ex_8.trans (pk_mul 4 j)
  subst ex_8
  refine lv_iconst (v := 3) hx hb dX2_border_62 (by decide) ?_
  refine lv_iadd hx hb dX2_border_63 ?_
  refine lv_topi (fun x_9 ex_9 => ?_)
  have ex_9 : x_9 = nI ((4 * j) + 3) := ex_9.trans (nI_add (4 * j) 3)
  subst ex_9
  refine lv_iload hx hb dX2_border_64 (lv_at hl 5 rfl) ?_
  refine va_iast hx hb hK hP hD hS 1 0 rfl rfl (vp_in_nI (by omega) (by decide)) dX2_border_66 (fun H locs hP hD hS => ?_)
  rw [show (nI ((4 * j) + 3)).toNatClampNeg = ((4 * j) + 3) from nI_clamp (by omega)] at hP hD
  have hP : va_P (dC, dI) vwCl [(o, .inr (2, [.int 0, .ref a1, .ref a2, .ref a3, .ref a4, .ref a5, .ref a6, .ref a7, .ref a8, .ref a9, .ref a10])), (a3, .inl (cI, 16, .inl (upd (upd (upd (upd bo (4 * j) p1) ((4 * j) + 1) p2) ((4 * j) + 2) p3) ((4 * j) + 3) p4)))] H := hP
  have hD : va_D A [(o, .inr (2, [.int 0, .ref a1, .ref a2, .ref a3, .ref a4, .ref a5, .ref a6, .ref a7, .ref a8, .ref a9, .ref a10])), (a3, .inl (cI, 16, .inl (upd (upd (upd (upd bo (4 * j) p1) ((4 * j) + 1) p2) ((4 * j) + 2) p3) ((4 * j) + 3) p4)))] := hD
  have hP9 : va_P (dC, dI) vwCl [(o, .inr (2, [.int 0, .ref a1, .ref a2, .ref a3, .ref a4, .ref a5, .ref a6, .ref a7, .ref a8, .ref a9, .ref a10])), (a3, .inl (cI, 16, .inl (upd (upd (upd (upd bo (4 * j) p1) (4 * j + 1) p2) (4 * j + 2) p3) (4 * j + 3) p4)))] H := hP.sub [0, 1] rfl
  have hD9 : va_D A [(o, .inr (2, [.int 0, .ref a1, .ref a2, .ref a3, .ref a4, .ref a5, .ref a6, .ref a7, .ref a8, .ref a9, .ref a10])), (a3, .inl (cI, 16, .inl (upd (upd (upd (upd bo (4 * j) p1) (4 * j + 1) p2) (4 * j + 2) p3) (4 * j + 3) p4)))] := hD.sub [0, 1] (by decide) rfl
  have hK9 : va_K (dC, dI) vwCl [(cI, .int)] s := hK.sub [0] rfl
  exact W.vret hx hb hr (fun t ht hW => ⟨⟨(), rfl, trivial, by rw [ht]; exact hP9, va_K.moved hW.alike hK9, hD9⟩, hS.F ht⟩) hS.2.2 dX2_border_67
set_option maxHeartbeats 4000000 in
set_option maxRecDepth 100000 in
theorem m_texels0 (l : Launch) (dC : Nat → ClassId) (dI : Nat → Nat → Nat) (o : Nat) (th : Int32) (a1 a2 a3 a4 a5 a6 a7 a8 a9 a10 : Nat) (cI : ClassId) (un : Nat → Int32) (j n : Nat) (sz : Nat) (hj : j < 4) (hn : n ≤ 11) (elv : un (8 * j + 3) = nI n) : Met l yX2_texels wsX2_texels ({ frames := 3, cells := 0, slots := 0, locals := 70 }) (va_Pc [.ref o, .int (nI j)] (wr_P (dC, dI) vwCl [(o, .inr (2, [.int th, .ref a1, .ref a2, .ref a3, .ref a4, .ref a5, .ref a6, .ref a7, .ref a8, .ref a9, .ref a10])), (a2, .inl (cI, 32, .inl un))] [(cI, .int)] sz)) (va_Qi (fun (r9 : Int32) (_ : Unit) => r9 = md_ah (un (8 * j + 1)) (un (8 * j + 2)) n) (wr_B (dC, dI) vwCl [(o, .inr (2, [.int 0, .ref a1, .ref a2, .ref a3, .ref a4, .ref a5, .ref a6, .ref a7, .ref a8, .ref a9, .ref a10])), (a2, .inl (cI, 32, .inl un))] [(cI, .int)] (va_A [(o, .inr (2, [.int th, .ref a1, .ref a2, .ref a3, .ref a4, .ref a5, .ref a6, .ref a7, .ref a8, .ref a9, .ref a10])), (a2, .inl (cI, 32, .inl un))] sz)) (va_A [(o, .inr (2, [.int th, .ref a1, .ref a2, .ref a3, .ref a4, .ref a5, .ref a6, .ref a7, .ref a8, .ref a9, .ref a10])), (a2, .inl (cI, 32, .inl un))] sz)) 0 0 (va_A [(o, .inr (2, [.int th, .ref a1, .ref a2, .ref a3, .ref a4, .ref a5, .ref a6, .ref a7, .ref a8, .ref a9, .ref a10])), (a2, .inl (cI, 32, .inl un))] sz) := by
  refine Met.ofW (cc := cX2_texels) (maxL := 2) (ret := some .int) (by decide) rfl ?_
  intro p e s m args below meth c s₁ B hml hv
  obtain ⟨rfl, hsz, hP, hK, hD0⟩ := hv
  have hx := B.exec
  have hb := B.bytes
  have hr := B.returns
  have hts := atoms_spec (ws := wsX2_texels) B.pre
  have hown : s.vm.findClass "TextureUnitsModel" = some m.cls := findClass_of_methodNamed B.named
  have hlocks := B.notSynchronized
  subst hsz
  have hD := hD0.self (sz := s.heap.size)
  generalize hAe : va_A [(o, .inr (2, [.int th, .ref a1, .ref a2, .ref a3, .ref a4, .ref a5, .ref a6, .ref a7, .ref a8, .ref a9, .ref a10])), (a2, .inl (cI, 32, .inl un))] s.heap.size = A at hD ⊢
  have hA : ∀ q : Nat, s.heap.size ≤ q → A q := fun q h => by rw [← hAe]; exact Or.inr h
  have hS : va_S A s.heap s.heap [] := va_S.rf
  have hP : va_P (dC, dI) vwCl [(o, .inr (2, [.int th, .ref a1, .ref a2, .ref a3, .ref a4, .ref a5, .ref a6, .ref a7, .ref a8, .ref a9, .ref a10])), (a2, .inl (cI, 32, .inl un))] s.heap := hP
  have hl := lv_entry ([.ref o, .int (nI j)]) (n := 2) (Nat.le_of_ble_eq_true rfl)
  rw [lg_entry_eq]
  generalize (lg_sl ([.ref o, .int (nI j)]) ++ List.replicate (2 - (lg_sl ([.ref o, .int (nI j)])).length) Slot.unset).toArray = ls at hl ⊢
  have hl : lv_has ls 2 [(0, .ref o), (1, .int (nI j))] := hl
  have hu := md_unit hj
  refine lv_aload_n hx hb dX2_texels_0 rfl (lv_at hl 0 rfl) ?_
  refine lv_iload_n hx hb dX2_texels_1 rfl (lv_at hl 1 rfl) ?_
  refine lv_iconst (v := 0) hx hb dX2_texels_2 (by decide) ?_
  refine lv_iconst (v := 3) hx hb dX2_texels_3 (by decide) ?_
  refine rd_call (W.runS (As := [.int (nI j), .int 0, .int 3]) (rest := [.ref o]) ⟨hx, hb, hml, hown, hts⟩ (m_in l (nI j) 0 3) (va_cwS 3 hts (tg_S tw_375 tw_376 tw_3 tw_377) rfl rfl rfl (by decide +kernel) ⟨Nat.le_of_ble_eq_true rfl, Nat.le_of_ble_eq_true rfl⟩) preEq rfl rfl hl.1 rfl (lv_room (Nat.le_of_ble_eq_true rfl)) dX2_texels_4 ⟨Nat.le_of_ble_eq_true rfl, Nat.le_of_ble_eq_true rfl⟩) ?_
  refine lv_if_ne (tgt := 14) hx hb dX2_texels_7 (by decide) (fun c_1 => ?_) (fun c_1 => absurd c_1 hu)
  refine lv_iconst (v := 0) hx hb dX2_texels_14 (by decide) ?_
  refine lv_iconst (v := 0) hx hb dX2_texels_15 (by decide) ?_
  have hPc := hP.sub (ws' := [(o, .inr (2, [.int th, .ref a1, .ref a2, .ref a3, .ref a4, .ref a5, .ref a6, .ref a7, .ref a8, .ref a9, .ref a10]))]) [0] rfl
  have hDc := hD.sub (ws' := [(o, .inr (2, [.int th, .ref a1, .ref a2, .ref a3, .ref a4, .ref a5, .ref a6, .ref a7, .ref a8, .ref a9, .ref a10]))]) [0] (by decide) rfl
  have hFc := va_free (wc := [(o, .inr (2, [.int th, .ref a1, .ref a2, .ref a3, .ref a4, .ref a5, .ref a6, .ref a7, .ref a8, .ref a9, .ref a10]))]) hD hS hA [0] rfl
  refine va_calli (va_runV (As := [.int 0, .int 0]) (rest := []) ⟨hx, hb, hml, hown, hts⟩ (m_refuse0 l dC dI o th a1 a2 a3 a4 a5 a6 a7 a8 a9 a10 0 0 s.heap.size rfl rfl) (cwV 2 hts (tg_V tw_378 tw_380 tw_p8 tw_3 tw_381) rfl rfl rfl (by decide +kernel) ⟨Nat.le_of_ble_eq_true rfl, Nat.le_of_ble_eq_true rfl⟩) ⟨wr_blind, va_recv hK hP (ci := 2) (q0 := 0) rfl rfl, fun U hU hW => ⟨rfl, wr_use hPc (hK.sub [] rfl) hDc U hU hW⟩⟩ rfl rfl hl.1 rfl (lv_room (Nat.le_of_ble_eq_true rfl)) dX2_texels_16 ⟨Nat.le_of_ble_eq_true rfl, Nat.le_of_ble_eq_true rfl⟩) hS (fun q _ h => hFc q h) hFc (fun r9 u9 t9 H1 locs ht hvm hw hB hz1 hk1 hS => ?_)
  obtain ⟨hP1, hK1, hD1⟩ := hB
  rw [ht] at hP1
  subst hw
  obtain ⟨hP, hD⟩ := va_join (wr := [(a2, .inl (cI, 32, .inl un))]) (w1 := [(o, .inr (2, [.int 0, .ref a1, .ref a2, .ref a3, .ref a4, .ref a5, .ref a6, .ref a7, .ref a8, .ref a9, .ref a10]))]) hP hD [0] [1] rfl rfl (by decide) (by decide) hk1 hFc hP1 hD1
  have hP := hP.sub (ws' := [(o, .inr (2, [.int 0, .ref a1, .ref a2, .ref a3, .ref a4, .ref a5, .ref a6, .ref a7, .ref a8, .ref a9, .ref a10])), (a2, .inl (cI, 32, .inl un))]) [1, 0] rfl
  have hD := hD.sub (ws' := [(o, .inr (2, [.int 0, .ref a1, .ref a2, .ref a3, .ref a4, .ref a5, .ref a6, .ref a7, .ref a8, .ref a9, .ref a10])), (a2, .inl (cI, 32, .inl un))]) [1, 0] (by decide) rfl
  clear hPc hDc hFc hP1 hK1 hD1 hk1 hz1
  generalize H1 = H at hP hS ⊢
  refine lv_if_eq (tgt := 24) hx hb dX2_texels_19 (by decide) (fun c_2 => ?_) (fun c_2 => absurd (by decide) c_2)
  refine lv_aload_n hx hb dX2_texels_24 rfl (lv_at hl 0 rfl) ?_
  refine lv_iload_n hx hb dX2_texels_25 rfl (lv_at hl 1 rfl) ?_
  refine lv_aload_n hx hb dX2_texels_26 rfl (lv_at hl 0 rfl) ?_
  refine va_get (D := (dC, dI)) (ci := 2) (v := .ref a2) (C := "TextureUnitsModel") (T := TX2) (N := 11) hx hb hts (tw_s inX2) hown hK hP 0 rfl rfl 2 (by decide) (hts _ (tw_c tw_335)) (fun _ h9 => h9) rfl dX2_texels_27 ?_
  refine lv_bipush (v := 8) hx hb dX2_texels_30 (by decide) ?_
  refine lv_iload_n hx hb dX2_texels_32 rfl (lv_at hl 1 rfl) ?_
  refine lv_imul hx hb dX2_texels_33 ?_
  refine lv_topi (fun x_3 ex_3 => ?_)
  have ex_3 : x_3 = nI (8 * j) := ex_3.trans (pk_mul 8 j)
  subst ex_3
  refine lv_iconst (v := 3) hx hb dX2_texels_34 (by decide) ?_
  refine lv_iadd hx hb dX2_texels_35 ?_
  refine lv_topi (fun x_4 ex_4 => ?_)
  have ex_4 : x_4 = nI ((8 * j) + 3) := ex_4.trans (nI_add (8 * j) 3)
  subst ex_4
  refine va_iald hx hb hK hP 1 0 rfl rfl (vp_in_nI (by omega) (by decide)) dX2_texels_36 ?_
  refine lv_topi (fun x_5 ex_5 => ?_)
  have ex_5 : x_5 = (un ((8 * j) + 3)) := ex_5.trans (congrArg un (nI_clamp (by omega)))
  subst ex_5
  refine lv_topi (fun y_6 ey_6 => ?_)
  have ey_6 : (nI n) = y_6 := (ey_6.trans elv).symm
  subst ey_6
  refine rd_call (W.runV (As := [.int (nI j), .int (nI n)]) (rest := []) ⟨hx, hb, hml, hown, hts⟩ (m_ahead l dC dI o 0 a1 a2 a3 a4 a5 a6 a7 a8 a9 a10 cI un j n hj hn) (cwV 2 hts (tg_V tw_422 tw_424 tw_p15 tw_3 tw_425) rfl rfl rfl (by decide +kernel) ⟨Nat.le_of_ble_eq_true rfl, Nat.le_of_ble_eq_true rfl⟩) ⟨rd_blind, va_recv hK hP (ci := 2) (q0 := 0) rfl rfl, fun U hU hW => ⟨rfl, rd_use (hP.sub [0, 1] rfl) (hK.sub [0] rfl) U hU hW⟩⟩ rfl rfl hl.1 rfl (lv_room (Nat.le_of_ble_eq_true rfl)) dX2_texels_37 ⟨Nat.le_of_ble_eq_true rfl, Nat.le_of_ble_eq_true rfl⟩) ?_
  have hP9 : va_P (dC, dI) vwCl [(o, .inr (2, [.int 0, .ref a1, .ref a2, .ref a3, .ref a4, .ref a5, .ref a6, .ref a7, .ref a8, .ref a9, .ref a10])), (a2, .inl (cI, 32, .inl un))] H := hP.sub [0, 1] rfl
  have hD9 : va_D A [(o, .inr (2, [.int 0, .ref a1, .ref a2, .ref a3, .ref a4, .ref a5, .ref a6, .ref a7, .ref a8, .ref a9, .ref a10])), (a2, .inl (cI, 32, .inl un))] := hD.sub [0, 1] (by decide) rfl
  have hK9 : va_K (dC, dI) vwCl [(cI, .int)] s := hK.sub [0] rfl
  exact W.iret (v := (md_ah (un (8 * j + 1)) (un (8 * j + 2)) n)) hx hb hr (fun t ht hW => ⟨⟨(md_ah (un (8 * j + 1)) (un (8 * j + 2)) n), (), rfl, rfl, by rw [ht]; exact hP9, va_K.moved hW.alike hK9, hD9⟩, hS.F ht⟩) hS.2.2 dX2_texels_40
set_option maxHeartbeats 4000000 in
set_option maxRecDepth 100000 in
theorem m_texel2 (l : Launch) (dC : Nat → ClassId) (dI : Nat → Nat → Nat) (o : Nat) (th : Int32) (a1 a2 a3 a4 a5 a6 a7 a8 a9 a10 : Nat) (cI : ClassId) (un : Nat → Int32) (j : Nat) (p1 p2 p3 p4 : Int32) (sz : Nat) (hj : j < 4) (hn9 : ¬ (¬ tu_win p1 0 (un (8 * j + 3) - 1) = 0 ∧ ¬ p2 < 0 ∧ ¬ p3 < 0 ∧ ¬ tu_win p4 0 3 = 0 ∧ ¬ md_len (un (8 * j + 1)) p1 ≤ p2 ∧ ¬ md_len (un (8 * j + 2)) p1 ≤ p3)) : Met l yX2_texel wsX2_texel ({ frames := 2, cells := 0, slots := 0, locals := 46 }) (va_Pc [.ref o, .int (nI j), .int p1, .int p2, .int p3, .int p4] (wr_P (dC, dI) vwCl [(o, .inr (2, [.int th, .ref a1, .ref a2, .ref a3, .ref a4, .ref a5, .ref a6, .ref a7, .ref a8, .ref a9, .ref a10])), (a2, .inl (cI, 32, .inl un))] [(cI, .int)] sz)) (va_Qi (fun (r9 : Int32) (_ : Unit) => r9 = 0) (wr_B (dC, dI) vwCl [(o, .inr (2, [.int 2, .ref a1, .ref a2, .ref a3, .ref a4, .ref a5, .ref a6, .ref a7, .ref a8, .ref a9, .ref a10])), (a2, .inl (cI, 32, .inl un))] [(cI, .int)] (va_A [(o, .inr (2, [.int th, .ref a1, .ref a2, .ref a3, .ref a4, .ref a5, .ref a6, .ref a7, .ref a8, .ref a9, .ref a10])), (a2, .inl (cI, 32, .inl un))] sz)) (va_A [(o, .inr (2, [.int th, .ref a1, .ref a2, .ref a3, .ref a4, .ref a5, .ref a6, .ref a7, .ref a8, .ref a9, .ref a10])), (a2, .inl (cI, 32, .inl un))] sz)) 0 0 (va_A [(o, .inr (2, [.int th, .ref a1, .ref a2, .ref a3, .ref a4, .ref a5, .ref a6, .ref a7, .ref a8, .ref a9, .ref a10])), (a2, .inl (cI, 32, .inl un))] sz) := by
  refine Met.ofW (cc := cX2_texel) (maxL := 9) (ret := some .int) (by decide) rfl ?_
  intro p e s m args below meth c s₁ B hml hv
  obtain ⟨rfl, hsz, hP, hK, hD0⟩ := hv
  have hx := B.exec
  have hb := B.bytes
  have hr := B.returns
  have hts := atoms_spec (ws := wsX2_texel) B.pre
  have hown : s.vm.findClass "TextureUnitsModel" = some m.cls := findClass_of_methodNamed B.named
  have hlocks := B.notSynchronized
  subst hsz
  have hD := hD0.self (sz := s.heap.size)
  generalize hAe : va_A [(o, .inr (2, [.int th, .ref a1, .ref a2, .ref a3, .ref a4, .ref a5, .ref a6, .ref a7, .ref a8, .ref a9, .ref a10])), (a2, .inl (cI, 32, .inl un))] s.heap.size = A at hD ⊢
  have hA : ∀ q : Nat, s.heap.size ≤ q → A q := fun q h => by rw [← hAe]; exact Or.inr h
  have hS : va_S A s.heap s.heap [] := va_S.rf
  have hP : va_P (dC, dI) vwCl [(o, .inr (2, [.int th, .ref a1, .ref a2, .ref a3, .ref a4, .ref a5, .ref a6, .ref a7, .ref a8, .ref a9, .ref a10])), (a2, .inl (cI, 32, .inl un))] s.heap := hP
  have hl := lv_entry ([.ref o, .int (nI j), .int p1, .int p2, .int p3, .int p4]) (n := 9) (Nat.le_of_ble_eq_true rfl)
  rw [lg_entry_eq]
  generalize (lg_sl ([.ref o, .int (nI j), .int p1, .int p2, .int p3, .int p4]) ++ List.replicate (9 - (lg_sl ([.ref o, .int (nI j), .int p1, .int p2, .int p3, .int p4])).length) Slot.unset).toArray = ls at hl ⊢
  have hl : lv_has ls 9 [(0, .ref o), (1, .int (nI j)), (2, .int p1), (3, .int p2), (4, .int p3), (5, .int p4)] := hl
  refine lv_iload_n hx hb dX2_texel_0 rfl (lv_at hl 1 rfl) ?_
  refine lv_iconst (v := 0) hx hb dX2_texel_1 (by decide) ?_
  refine lv_iconst (v := 3) hx hb dX2_texel_2 (by decide) ?_
  refine rd_call (W.runS (As := [.int (nI j), .int 0, .int 3]) (rest := []) ⟨hx, hb, hml, hown, hts⟩ (m_in l (nI j) 0 3) (va_cwS 3 hts (tg_S tw_375 tw_376 tw_3 tw_377) rfl rfl rfl (by decide +kernel) ⟨Nat.le_of_ble_eq_true rfl, Nat.le_of_ble_eq_true rfl⟩) preEq rfl rfl hl.1 rfl (lv_room (Nat.le_of_ble_eq_true rfl)) dX2_texel_3 ⟨Nat.le_of_ble_eq_true rfl, Nat.le_of_ble_eq_true rfl⟩) ?_
  refine W.eq (g2 := F0 m 6 ls [.int 1]) (by rw [md_unit1 hj]) ?_
  refine lv_istore (lv' := [(6, .int 1), (0, .ref o), (1, .int (nI j)), (2, .int p1), (3, .int p2), (4, .int p3), (5, .int p4)]) hx hb dX2_texel_6 hl (by decide) rfl (fun ls hl => ?_)
  refine lv_iload hx hb dX2_texel_8 (lv_at hl 0 rfl) ?_
  refine lv_if_eq (tgt := 17) hx hb dX2_texel_10 (by decide) (fun c_1 => absurd c_1 (by decide)) (fun c_1 => ?_)
  refine lv_iload_n hx hb dX2_texel_13 rfl (lv_at hl 2 rfl) ?_
  refine lv_goto (tgt := 18) hx hb dX2_texel_14 (by decide) ?_
  refine lv_istore (lv' := [(7, .int (nI j)), (6, .int 1), (0, .ref o), (1, .int (nI j)), (2, .int p1), (3, .int p2), (4, .int p3), (5, .int p4)]) hx hb dX2_texel_18 hl (by decide) rfl (fun ls hl => ?_)
  refine lv_iload_n hx hb dX2_texel_20 rfl (lv_at hl 4 rfl) ?_
  refine lv_iconst (v := 0) hx hb dX2_texel_21 (by decide) ?_
  refine lv_aload_n hx hb dX2_texel_22 rfl (lv_at hl 2 rfl) ?_
  refine va_get (D := (dC, dI)) (ci := 2) (v := .ref a2) (C := "TextureUnitsModel") (T := TX2) (N := 11) hx hb hts (tw_s inX2) hown hK hP 0 rfl rfl 2 (by decide) (hts _ (tw_c tw_335)) (fun _ h9 => h9) rfl dX2_texel_23 ?_
  refine lv_bipush (v := 8) hx hb dX2_texel_26 (by decide) ?_
  refine lv_iload hx hb dX2_texel_28 (lv_at hl 0 rfl) ?_
  refine lv_imul hx hb dX2_texel_30 ?_
  refine lv_topi (fun x_2 ex_2 => ?_)
  have ex_2 : x_2 = nI (8 * j) := ex_2.trans (pk_mul 8 j)
  subst ex_2
  refine lv_iconst (v := 3) hx hb dX2_texel_31 (by decide) ?_
  refine lv_iadd hx hb dX2_texel_32 ?_
  refine lv_topi (fun x_3 ex_3 => ?_)
  have ex_3 : x_3 = nI ((8 * j) + 3) := ex_3.trans (nI_add (8 * j) 3)
  subst ex_3
  refine va_iald hx hb hK hP 1 0 rfl rfl (vp_in_nI (by omega) (by decide)) dX2_texel_33 ?_
  refine lv_topi (fun x_4 ex_4 => ?_)
  have ex_4 : x_4 = (un ((8 * j) + 3)) := ex_4.trans (congrArg un (nI_clamp (by omega)))
  subst ex_4
  refine lv_iconst (v := 1) hx hb dX2_texel_34 (by decide) ?_
  refine lv_isub hx hb dX2_texel_35 ?_
  refine rd_call (W.runS (As := [.int p1, .int 0, .int ((un ((8 * j) + 3)) - (1 : Int32))]) (rest := []) ⟨hx, hb, hml, hown, hts⟩ (m_in l p1 0 ((un ((8 * j) + 3)) - (1 : Int32))) (va_cwS 3 hts (tg_S tw_375 tw_376 tw_3 tw_377) rfl rfl rfl (by decide +kernel) ⟨Nat.le_of_ble_eq_true rfl, Nat.le_of_ble_eq_true rfl⟩) preEq rfl rfl hl.1 rfl (lv_room (Nat.le_of_ble_eq_true rfl)) dX2_texel_36 ⟨Nat.le_of_ble_eq_true rfl, Nat.le_of_ble_eq_true rfl⟩) ?_
  refine lv_if_eq (tgt := 65) hx hb dX2_texel_39 (by decide) (fun c_5 => ?_) (fun c_5 => ?_)
  · refine lv_iconst (v := 0) hx hb dX2_texel_65 (by decide) ?_
    refine lv_istore (lv' := [(8, .int 0), (7, .int (nI j)), (6, .int 1), (0, .ref o), (1, .int (nI j)), (2, .int p1), (3, .int p2), (4, .int p3), (5, .int p4)]) hx hb dX2_texel_66 hl (by decide) rfl (fun ls hl => ?_)
    refine lv_iload hx hb dX2_texel_68 (lv_at hl 0 rfl) ?_
    refine lv_if_eq (tgt := 100) hx hb dX2_texel_70 (by decide) (fun c_6 => ?_) (fun c_6 => absurd (by decide) c_6)
    refine lv_iconst (v := 0) hx hb dX2_texel_100 (by decide) ?_
    refine lv_istore (lv' := [(8, .int 0), (7, .int (nI j)), (6, .int 1), (0, .ref o), (1, .int (nI j)), (2, .int p1), (3, .int p2), (4, .int p3), (5, .int p4)]) hx hb dX2_texel_101 hl (by decide) rfl (fun ls hl => ?_)
    refine lv_aload_n hx hb dX2_texel_103 rfl (lv_at hl 3 rfl) ?_
    refine lv_iload hx hb dX2_texel_104 (lv_at hl 2 rfl) ?_
    refine lv_if_ne (tgt := 113) hx hb dX2_texel_106 (by decide) (fun c_7 => ?_) (fun c_7 => absurd c_7 (by decide))
    refine lv_iconst (v := 0) hx hb dX2_texel_113 (by decide) ?_
    refine lv_iload hx hb dX2_texel_114 (lv_at hl 0 rfl) ?_
    refine lv_if_ne (tgt := 123) hx hb dX2_texel_116 (by decide) (fun c_8 => absurd (by decide) c_8) (fun c_8 => ?_)
    refine lv_iconst (v := 1) hx hb dX2_texel_119 (by decide) ?_
    refine lv_goto (tgt := 124) hx hb dX2_texel_120 (by decide) ?_
    have hPc := hP.sub (ws' := [(o, .inr (2, [.int th, .ref a1, .ref a2, .ref a3, .ref a4, .ref a5, .ref a6, .ref a7, .ref a8, .ref a9, .ref a10]))]) [0] rfl
    have hDc := hD.sub (ws' := [(o, .inr (2, [.int th, .ref a1, .ref a2, .ref a3, .ref a4, .ref a5, .ref a6, .ref a7, .ref a8, .ref a9, .ref a10]))]) [0] (by decide) rfl
    have hFc := va_free (wc := [(o, .inr (2, [.int th, .ref a1, .ref a2, .ref a3, .ref a4, .ref a5, .ref a6, .ref a7, .ref a8, .ref a9, .ref a10]))]) hD hS hA [0] rfl
    refine va_calli (va_runV (As := [.int 0, .int 1]) (rest := []) ⟨hx, hb, hml, hown, hts⟩ (m_refuse2 l dC dI o th a1 a2 a3 a4 a5 a6 a7 a8 a9 a10 0 1 s.heap.size rfl (by decide)) (cwV 2 hts (tg_V tw_378 tw_380 tw_p8 tw_3 tw_381) rfl rfl rfl (by decide +kernel) ⟨Nat.le_of_ble_eq_true rfl, Nat.le_of_ble_eq_true rfl⟩) ⟨wr_blind, va_recv hK hP (ci := 2) (q0 := 0) rfl rfl, fun U hU hW => ⟨rfl, wr_use hPc (hK.sub [] rfl) hDc U hU hW⟩⟩ rfl rfl hl.1 rfl (lv_room (Nat.le_of_ble_eq_true rfl)) dX2_texel_124 ⟨Nat.le_of_ble_eq_true rfl, Nat.le_of_ble_eq_true rfl⟩) hS (fun q _ h => hFc q h) hFc (fun r9 u9 t9 H1 locs ht hvm hw hB hz1 hk1 hS => ?_)
    obtain ⟨hP1, hK1, hD1⟩ := hB
    rw [ht] at hP1
    subst hw
    obtain ⟨hP, hD⟩ := va_join (wr := [(a2, .inl (cI, 32, .inl un))]) (w1 := [(o, .inr (2, [.int 2, .ref a1, .ref a2, .ref a3, .ref a4, .ref a5, .ref a6, .ref a7, .ref a8, .ref a9, .ref a10]))]) hP hD [0] [1] rfl rfl (by decide) (by decide) hk1 hFc hP1 hD1
    have hP := hP.sub (ws' := [(o, .inr (2, [.int 2, .ref a1, .ref a2, .ref a3, .ref a4, .ref a5, .ref a6, .ref a7, .ref a8, .ref a9, .ref a10])), (a2, .inl (cI, 32, .inl un))]) [1, 0] rfl
    have hD := hD.sub (ws' := [(o, .inr (2, [.int 2, .ref a1, .ref a2, .ref a3, .ref a4, .ref a5, .ref a6, .ref a7, .ref a8, .ref a9, .ref a10])), (a2, .inl (cI, 32, .inl un))]) [1, 0] (by decide) rfl
    clear hPc hDc hFc hP1 hK1 hD1 hk1 hz1
    generalize H1 = H at hP hS ⊢
    refine lv_if_eq (tgt := 132) hx hb dX2_texel_127 (by decide) (fun c_9 => absurd c_9 (by decide)) (fun c_9 => ?_)
    refine lv_iconst (v := 0) hx hb dX2_texel_130 (by decide) ?_
    have hP9 : va_P (dC, dI) vwCl [(o, .inr (2, [.int 2, .ref a1, .ref a2, .ref a3, .ref a4, .ref a5, .ref a6, .ref a7, .ref a8, .ref a9, .ref a10])), (a2, .inl (cI, 32, .inl un))] H := hP.sub [0, 1] rfl
    have hD9 : va_D A [(o, .inr (2, [.int 2, .ref a1, .ref a2, .ref a3, .ref a4, .ref a5, .ref a6, .ref a7, .ref a8, .ref a9, .ref a10])), (a2, .inl (cI, 32, .inl un))] := hD.sub [0, 1] (by decide) rfl
    have hK9 : va_K (dC, dI) vwCl [(cI, .int)] s := hK.sub [0] rfl
    exact W.iret (v := 0) hx hb hr (fun t ht hW => ⟨⟨0, (), rfl, rfl, by rw [ht]; exact hP9, va_K.moved hW.alike hK9, hD9⟩, hS.F ht⟩) hS.2.2 dX2_texel_131
  · refine lv_iload_n hx hb dX2_texel_42 rfl (lv_at hl 5 rfl) ?_
    refine lv_if_lt (tgt := 65) hx hb dX2_texel_43 (by decide) (fun c_10 => ?_) (fun c_10 => ?_)
    · refine lv_iconst (v := 0) hx hb dX2_texel_65 (by decide) ?_
      refine lv_istore (lv' := [(8, .int 0), (7, .int (nI j)), (6, .int 1), (0, .ref o), (1, .int (nI j)), (2, .int p1), (3, .int p2), (4, .int p3), (5, .int p4)]) hx hb dX2_texel_66 hl (by decide) rfl (fun ls hl => ?_)
      refine lv_iload hx hb dX2_texel_68 (lv_at hl 0 rfl) ?_
      refine lv_if_eq (tgt := 100) hx hb dX2_texel_70 (by decide) (fun c_11 => ?_) (fun c_11 => absurd (by decide) c_11)
      refine lv_iconst (v := 0) hx hb dX2_texel_100 (by decide) ?_
      refine lv_istore (lv' := [(8, .int 0), (7, .int (nI j)), (6, .int 1), (0, .ref o), (1, .int (nI j)), (2, .int p1), (3, .int p2), (4, .int p3), (5, .int p4)]) hx hb dX2_texel_101 hl (by decide) rfl (fun ls hl => ?_)
      refine lv_aload_n hx hb dX2_texel_103 rfl (lv_at hl 3 rfl) ?_
      refine lv_iload hx hb dX2_texel_104 (lv_at hl 2 rfl) ?_
      refine lv_if_ne (tgt := 113) hx hb dX2_texel_106 (by decide) (fun c_12 => ?_) (fun c_12 => absurd c_12 (by decide))
      refine lv_iconst (v := 0) hx hb dX2_texel_113 (by decide) ?_
      refine lv_iload hx hb dX2_texel_114 (lv_at hl 0 rfl) ?_
      refine lv_if_ne (tgt := 123) hx hb dX2_texel_116 (by decide) (fun c_13 => absurd (by decide) c_13) (fun c_13 => ?_)
      refine lv_iconst (v := 1) hx hb dX2_texel_119 (by decide) ?_
      refine lv_goto (tgt := 124) hx hb dX2_texel_120 (by decide) ?_
      have hPc := hP.sub (ws' := [(o, .inr (2, [.int th, .ref a1, .ref a2, .ref a3, .ref a4, .ref a5, .ref a6, .ref a7, .ref a8, .ref a9, .ref a10]))]) [0] rfl
      have hDc := hD.sub (ws' := [(o, .inr (2, [.int th, .ref a1, .ref a2, .ref a3, .ref a4, .ref a5, .ref a6, .ref a7, .ref a8, .ref a9, .ref a10]))]) [0] (by decide) rfl
      have hFc := va_free (wc := [(o, .inr (2, [.int th, .ref a1, .ref a2, .ref a3, .ref a4, .ref a5, .ref a6, .ref a7, .ref a8, .ref a9, .ref a10]))]) hD hS hA [0] rfl
      refine va_calli (va_runV (As := [.int 0, .int 1]) (rest := []) ⟨hx, hb, hml, hown, hts⟩ (m_refuse2 l dC dI o th a1 a2 a3 a4 a5 a6 a7 a8 a9 a10 0 1 s.heap.size rfl (by decide)) (cwV 2 hts (tg_V tw_378 tw_380 tw_p8 tw_3 tw_381) rfl rfl rfl (by decide +kernel) ⟨Nat.le_of_ble_eq_true rfl, Nat.le_of_ble_eq_true rfl⟩) ⟨wr_blind, va_recv hK hP (ci := 2) (q0 := 0) rfl rfl, fun U hU hW => ⟨rfl, wr_use hPc (hK.sub [] rfl) hDc U hU hW⟩⟩ rfl rfl hl.1 rfl (lv_room (Nat.le_of_ble_eq_true rfl)) dX2_texel_124 ⟨Nat.le_of_ble_eq_true rfl, Nat.le_of_ble_eq_true rfl⟩) hS (fun q _ h => hFc q h) hFc (fun r9 u9 t9 H1 locs ht hvm hw hB hz1 hk1 hS => ?_)
      obtain ⟨hP1, hK1, hD1⟩ := hB
      rw [ht] at hP1
      subst hw
      obtain ⟨hP, hD⟩ := va_join (wr := [(a2, .inl (cI, 32, .inl un))]) (w1 := [(o, .inr (2, [.int 2, .ref a1, .ref a2, .ref a3, .ref a4, .ref a5, .ref a6, .ref a7, .ref a8, .ref a9, .ref a10]))]) hP hD [0] [1] rfl rfl (by decide) (by decide) hk1 hFc hP1 hD1
      have hP := hP.sub (ws' := [(o, .inr (2, [.int 2, .ref a1, .ref a2, .ref a3, .ref a4, .ref a5, .ref a6, .ref a7, .ref a8, .ref a9, .ref a10])), (a2, .inl (cI, 32, .inl un))]) [1, 0] rfl
      have hD := hD.sub (ws' := [(o, .inr (2, [.int 2, .ref a1, .ref a2, .ref a3, .ref a4, .ref a5, .ref a6, .ref a7, .ref a8, .ref a9, .ref a10])), (a2, .inl (cI, 32, .inl un))]) [1, 0] (by decide) rfl
      clear hPc hDc hFc hP1 hK1 hD1 hk1 hz1
      generalize H1 = H at hP hS ⊢
      refine lv_if_eq (tgt := 132) hx hb dX2_texel_127 (by decide) (fun c_14 => absurd c_14 (by decide)) (fun c_14 => ?_)
      refine lv_iconst (v := 0) hx hb dX2_texel_130 (by decide) ?_
      have hP9 : va_P (dC, dI) vwCl [(o, .inr (2, [.int 2, .ref a1, .ref a2, .ref a3, .ref a4, .ref a5, .ref a6, .ref a7, .ref a8, .ref a9, .ref a10])), (a2, .inl (cI, 32, .inl un))] H := hP.sub [0, 1] rfl
      have hD9 : va_D A [(o, .inr (2, [.int 2, .ref a1, .ref a2, .ref a3, .ref a4, .ref a5, .ref a6, .ref a7, .ref a8, .ref a9, .ref a10])), (a2, .inl (cI, 32, .inl un))] := hD.sub [0, 1] (by decide) rfl
      have hK9 : va_K (dC, dI) vwCl [(cI, .int)] s := hK.sub [0] rfl
      exact W.iret (v := 0) hx hb hr (fun t ht hW => ⟨⟨0, (), rfl, rfl, by rw [ht]; exact hP9, va_K.moved hW.alike hK9, hD9⟩, hS.F ht⟩) hS.2.2 dX2_texel_131
    · refine lv_iload hx hb dX2_texel_46 (lv_at hl 6 rfl) ?_
      refine lv_if_lt (tgt := 65) hx hb dX2_texel_48 (by decide) (fun c_15 => ?_) (fun c_15 => ?_)
      · refine lv_iconst (v := 0) hx hb dX2_texel_65 (by decide) ?_
        refine lv_istore (lv' := [(8, .int 0), (7, .int (nI j)), (6, .int 1), (0, .ref o), (1, .int (nI j)), (2, .int p1), (3, .int p2), (4, .int p3), (5, .int p4)]) hx hb dX2_texel_66 hl (by decide) rfl (fun ls hl => ?_)
        refine lv_iload hx hb dX2_texel_68 (lv_at hl 0 rfl) ?_
        refine lv_if_eq (tgt := 100) hx hb dX2_texel_70 (by decide) (fun c_16 => ?_) (fun c_16 => absurd (by decide) c_16)
        refine lv_iconst (v := 0) hx hb dX2_texel_100 (by decide) ?_
        refine lv_istore (lv' := [(8, .int 0), (7, .int (nI j)), (6, .int 1), (0, .ref o), (1, .int (nI j)), (2, .int p1), (3, .int p2), (4, .int p3), (5, .int p4)]) hx hb dX2_texel_101 hl (by decide) rfl (fun ls hl => ?_)
        refine lv_aload_n hx hb dX2_texel_103 rfl (lv_at hl 3 rfl) ?_
        refine lv_iload hx hb dX2_texel_104 (lv_at hl 2 rfl) ?_
        refine lv_if_ne (tgt := 113) hx hb dX2_texel_106 (by decide) (fun c_17 => ?_) (fun c_17 => absurd c_17 (by decide))
        refine lv_iconst (v := 0) hx hb dX2_texel_113 (by decide) ?_
        refine lv_iload hx hb dX2_texel_114 (lv_at hl 0 rfl) ?_
        refine lv_if_ne (tgt := 123) hx hb dX2_texel_116 (by decide) (fun c_18 => absurd (by decide) c_18) (fun c_18 => ?_)
        refine lv_iconst (v := 1) hx hb dX2_texel_119 (by decide) ?_
        refine lv_goto (tgt := 124) hx hb dX2_texel_120 (by decide) ?_
        have hPc := hP.sub (ws' := [(o, .inr (2, [.int th, .ref a1, .ref a2, .ref a3, .ref a4, .ref a5, .ref a6, .ref a7, .ref a8, .ref a9, .ref a10]))]) [0] rfl
        have hDc := hD.sub (ws' := [(o, .inr (2, [.int th, .ref a1, .ref a2, .ref a3, .ref a4, .ref a5, .ref a6, .ref a7, .ref a8, .ref a9, .ref a10]))]) [0] (by decide) rfl
        have hFc := va_free (wc := [(o, .inr (2, [.int th, .ref a1, .ref a2, .ref a3, .ref a4, .ref a5, .ref a6, .ref a7, .ref a8, .ref a9, .ref a10]))]) hD hS hA [0] rfl
        refine va_calli (va_runV (As := [.int 0, .int 1]) (rest := []) ⟨hx, hb, hml, hown, hts⟩ (m_refuse2 l dC dI o th a1 a2 a3 a4 a5 a6 a7 a8 a9 a10 0 1 s.heap.size rfl (by decide)) (cwV 2 hts (tg_V tw_378 tw_380 tw_p8 tw_3 tw_381) rfl rfl rfl (by decide +kernel) ⟨Nat.le_of_ble_eq_true rfl, Nat.le_of_ble_eq_true rfl⟩) ⟨wr_blind, va_recv hK hP (ci := 2) (q0 := 0) rfl rfl, fun U hU hW => ⟨rfl, wr_use hPc (hK.sub [] rfl) hDc U hU hW⟩⟩ rfl rfl hl.1 rfl (lv_room (Nat.le_of_ble_eq_true rfl)) dX2_texel_124 ⟨Nat.le_of_ble_eq_true rfl, Nat.le_of_ble_eq_true rfl⟩) hS (fun q _ h => hFc q h) hFc (fun r9 u9 t9 H1 locs ht hvm hw hB hz1 hk1 hS => ?_)
        obtain ⟨hP1, hK1, hD1⟩ := hB
        rw [ht] at hP1
        subst hw
        obtain ⟨hP, hD⟩ := va_join (wr := [(a2, .inl (cI, 32, .inl un))]) (w1 := [(o, .inr (2, [.int 2, .ref a1, .ref a2, .ref a3, .ref a4, .ref a5, .ref a6, .ref a7, .ref a8, .ref a9, .ref a10]))]) hP hD [0] [1] rfl rfl (by decide) (by decide) hk1 hFc hP1 hD1
        have hP := hP.sub (ws' := [(o, .inr (2, [.int 2, .ref a1, .ref a2, .ref a3, .ref a4, .ref a5, .ref a6, .ref a7, .ref a8, .ref a9, .ref a10])), (a2, .inl (cI, 32, .inl un))]) [1, 0] rfl
        have hD := hD.sub (ws' := [(o, .inr (2, [.int 2, .ref a1, .ref a2, .ref a3, .ref a4, .ref a5, .ref a6, .ref a7, .ref a8, .ref a9, .ref a10])), (a2, .inl (cI, 32, .inl un))]) [1, 0] (by decide) rfl
        clear hPc hDc hFc hP1 hK1 hD1 hk1 hz1
        generalize H1 = H at hP hS ⊢
        refine lv_if_eq (tgt := 132) hx hb dX2_texel_127 (by decide) (fun c_19 => absurd c_19 (by decide)) (fun c_19 => ?_)
        refine lv_iconst (v := 0) hx hb dX2_texel_130 (by decide) ?_
        have hP9 : va_P (dC, dI) vwCl [(o, .inr (2, [.int 2, .ref a1, .ref a2, .ref a3, .ref a4, .ref a5, .ref a6, .ref a7, .ref a8, .ref a9, .ref a10])), (a2, .inl (cI, 32, .inl un))] H := hP.sub [0, 1] rfl
        have hD9 : va_D A [(o, .inr (2, [.int 2, .ref a1, .ref a2, .ref a3, .ref a4, .ref a5, .ref a6, .ref a7, .ref a8, .ref a9, .ref a10])), (a2, .inl (cI, 32, .inl un))] := hD.sub [0, 1] (by decide) rfl
        have hK9 : va_K (dC, dI) vwCl [(cI, .int)] s := hK.sub [0] rfl
        exact W.iret (v := 0) hx hb hr (fun t ht hW => ⟨⟨0, (), rfl, rfl, by rw [ht]; exact hP9, va_K.moved hW.alike hK9, hD9⟩, hS.F ht⟩) hS.2.2 dX2_texel_131
      · refine lv_iload hx hb dX2_texel_51 (lv_at hl 7 rfl) ?_
        refine lv_iconst (v := 0) hx hb dX2_texel_53 (by decide) ?_
        refine lv_iconst (v := 3) hx hb dX2_texel_54 (by decide) ?_
        refine rd_call (W.runS (As := [.int p4, .int 0, .int 3]) (rest := []) ⟨hx, hb, hml, hown, hts⟩ (m_in l p4 0 3) (va_cwS 3 hts (tg_S tw_375 tw_376 tw_3 tw_377) rfl rfl rfl (by decide +kernel) ⟨Nat.le_of_ble_eq_true rfl, Nat.le_of_ble_eq_true rfl⟩) preEq rfl rfl hl.1 rfl (lv_room (Nat.le_of_ble_eq_true rfl)) dX2_texel_55 ⟨Nat.le_of_ble_eq_true rfl, Nat.le_of_ble_eq_true rfl⟩) ?_
        refine lv_if_eq (tgt := 65) hx hb dX2_texel_58 (by decide) (fun c_20 => ?_) (fun c_20 => ?_)
        · refine lv_iconst (v := 0) hx hb dX2_texel_65 (by decide) ?_
          refine lv_istore (lv' := [(8, .int 0), (7, .int (nI j)), (6, .int 1), (0, .ref o), (1, .int (nI j)), (2, .int p1), (3, .int p2), (4, .int p3), (5, .int p4)]) hx hb dX2_texel_66 hl (by decide) rfl (fun ls hl => ?_)
          refine lv_iload hx hb dX2_texel_68 (lv_at hl 0 rfl) ?_
          refine lv_if_eq (tgt := 100) hx hb dX2_texel_70 (by decide) (fun c_21 => ?_) (fun c_21 => absurd (by decide) c_21)
          refine lv_iconst (v := 0) hx hb dX2_texel_100 (by decide) ?_
          refine lv_istore (lv' := [(8, .int 0), (7, .int (nI j)), (6, .int 1), (0, .ref o), (1, .int (nI j)), (2, .int p1), (3, .int p2), (4, .int p3), (5, .int p4)]) hx hb dX2_texel_101 hl (by decide) rfl (fun ls hl => ?_)
          refine lv_aload_n hx hb dX2_texel_103 rfl (lv_at hl 3 rfl) ?_
          refine lv_iload hx hb dX2_texel_104 (lv_at hl 2 rfl) ?_
          refine lv_if_ne (tgt := 113) hx hb dX2_texel_106 (by decide) (fun c_22 => ?_) (fun c_22 => absurd c_22 (by decide))
          refine lv_iconst (v := 0) hx hb dX2_texel_113 (by decide) ?_
          refine lv_iload hx hb dX2_texel_114 (lv_at hl 0 rfl) ?_
          refine lv_if_ne (tgt := 123) hx hb dX2_texel_116 (by decide) (fun c_23 => absurd (by decide) c_23) (fun c_23 => ?_)
          refine lv_iconst (v := 1) hx hb dX2_texel_119 (by decide) ?_
          refine lv_goto (tgt := 124) hx hb dX2_texel_120 (by decide) ?_
          have hPc := hP.sub (ws' := [(o, .inr (2, [.int th, .ref a1, .ref a2, .ref a3, .ref a4, .ref a5, .ref a6, .ref a7, .ref a8, .ref a9, .ref a10]))]) [0] rfl
          have hDc := hD.sub (ws' := [(o, .inr (2, [.int th, .ref a1, .ref a2, .ref a3, .ref a4, .ref a5, .ref a6, .ref a7, .ref a8, .ref a9, .ref a10]))]) [0] (by decide) rfl
          have hFc := va_free (wc := [(o, .inr (2, [.int th, .ref a1, .ref a2, .ref a3, .ref a4, .ref a5, .ref a6, .ref a7, .ref a8, .ref a9, .ref a10]))]) hD hS hA [0] rfl
          refine va_calli (va_runV (As := [.int 0, .int 1]) (rest := []) ⟨hx, hb, hml, hown, hts⟩ (m_refuse2 l dC dI o th a1 a2 a3 a4 a5 a6 a7 a8 a9 a10 0 1 s.heap.size rfl (by decide)) (cwV 2 hts (tg_V tw_378 tw_380 tw_p8 tw_3 tw_381) rfl rfl rfl (by decide +kernel) ⟨Nat.le_of_ble_eq_true rfl, Nat.le_of_ble_eq_true rfl⟩) ⟨wr_blind, va_recv hK hP (ci := 2) (q0 := 0) rfl rfl, fun U hU hW => ⟨rfl, wr_use hPc (hK.sub [] rfl) hDc U hU hW⟩⟩ rfl rfl hl.1 rfl (lv_room (Nat.le_of_ble_eq_true rfl)) dX2_texel_124 ⟨Nat.le_of_ble_eq_true rfl, Nat.le_of_ble_eq_true rfl⟩) hS (fun q _ h => hFc q h) hFc (fun r9 u9 t9 H1 locs ht hvm hw hB hz1 hk1 hS => ?_)
          obtain ⟨hP1, hK1, hD1⟩ := hB
          rw [ht] at hP1
          subst hw
          obtain ⟨hP, hD⟩ := va_join (wr := [(a2, .inl (cI, 32, .inl un))]) (w1 := [(o, .inr (2, [.int 2, .ref a1, .ref a2, .ref a3, .ref a4, .ref a5, .ref a6, .ref a7, .ref a8, .ref a9, .ref a10]))]) hP hD [0] [1] rfl rfl (by decide) (by decide) hk1 hFc hP1 hD1
          have hP := hP.sub (ws' := [(o, .inr (2, [.int 2, .ref a1, .ref a2, .ref a3, .ref a4, .ref a5, .ref a6, .ref a7, .ref a8, .ref a9, .ref a10])), (a2, .inl (cI, 32, .inl un))]) [1, 0] rfl
          have hD := hD.sub (ws' := [(o, .inr (2, [.int 2, .ref a1, .ref a2, .ref a3, .ref a4, .ref a5, .ref a6, .ref a7, .ref a8, .ref a9, .ref a10])), (a2, .inl (cI, 32, .inl un))]) [1, 0] (by decide) rfl
          clear hPc hDc hFc hP1 hK1 hD1 hk1 hz1
          generalize H1 = H at hP hS ⊢
          refine lv_if_eq (tgt := 132) hx hb dX2_texel_127 (by decide) (fun c_24 => absurd c_24 (by decide)) (fun c_24 => ?_)
          refine lv_iconst (v := 0) hx hb dX2_texel_130 (by decide) ?_
          have hP9 : va_P (dC, dI) vwCl [(o, .inr (2, [.int 2, .ref a1, .ref a2, .ref a3, .ref a4, .ref a5, .ref a6, .ref a7, .ref a8, .ref a9, .ref a10])), (a2, .inl (cI, 32, .inl un))] H := hP.sub [0, 1] rfl
          have hD9 : va_D A [(o, .inr (2, [.int 2, .ref a1, .ref a2, .ref a3, .ref a4, .ref a5, .ref a6, .ref a7, .ref a8, .ref a9, .ref a10])), (a2, .inl (cI, 32, .inl un))] := hD.sub [0, 1] (by decide) rfl
          have hK9 : va_K (dC, dI) vwCl [(cI, .int)] s := hK.sub [0] rfl
          exact W.iret (v := 0) hx hb hr (fun t ht hW => ⟨⟨0, (), rfl, rfl, by rw [ht]; exact hP9, va_K.moved hW.alike hK9, hD9⟩, hS.F ht⟩) hS.2.2 dX2_texel_131
        · refine lv_iconst (v := 1) hx hb dX2_texel_61 (by decide) ?_
          refine lv_goto (tgt := 66) hx hb dX2_texel_62 (by decide) ?_
          refine lv_istore (lv' := [(8, .int 1), (7, .int (nI j)), (6, .int 1), (0, .ref o), (1, .int (nI j)), (2, .int p1), (3, .int p2), (4, .int p3), (5, .int p4)]) hx hb dX2_texel_66 hl (by decide) rfl (fun ls hl => ?_)
          refine lv_iload hx hb dX2_texel_68 (lv_at hl 0 rfl) ?_
          refine lv_if_eq (tgt := 100) hx hb dX2_texel_70 (by decide) (fun c_25 => absurd c_25 (by decide)) (fun c_25 => ?_)
          refine lv_iload_n hx hb dX2_texel_73 rfl (lv_at hl 6 rfl) ?_
          refine lv_aload_n hx hb dX2_texel_74 rfl (lv_at hl 3 rfl) ?_
          refine lv_iload hx hb dX2_texel_75 (lv_at hl 1 rfl) ?_
          refine lv_iload_n hx hb dX2_texel_77 rfl (lv_at hl 5 rfl) ?_
          refine rd_call (W.runV (As := [.int (nI j), .int p1]) (rest := [.int p2]) ⟨hx, hb, hml, hown, hts⟩ (m_wide l dC dI o th a1 a2 a3 a4 a5 a6 a7 a8 a9 a10 cI un j p1 hj) (cwV 2 hts (tg_V tw_398 tw_400 tw_p9 tw_3 tw_401) rfl rfl rfl (by decide +kernel) ⟨Nat.le_of_ble_eq_true rfl, Nat.le_of_ble_eq_true rfl⟩) ⟨rd_blind, va_recv hK hP (ci := 2) (q0 := 0) rfl rfl, fun U hU hW => ⟨rfl, rd_use (hP.sub [0, 1] rfl) (hK.sub [0] rfl) U hU hW⟩⟩ rfl rfl hl.1 rfl (lv_room (Nat.le_of_ble_eq_true rfl)) dX2_texel_78 ⟨Nat.le_of_ble_eq_true rfl, Nat.le_of_ble_eq_true rfl⟩) ?_
          refine lv_icmp_ge (tgt := 100) hx hb dX2_texel_81 (by decide) (fun c_26 => ?_) (fun c_26 => ?_)
          · refine lv_iconst (v := 0) hx hb dX2_texel_100 (by decide) ?_
            refine lv_istore (lv' := [(8, .int 0), (7, .int (nI j)), (6, .int 1), (0, .ref o), (1, .int (nI j)), (2, .int p1), (3, .int p2), (4, .int p3), (5, .int p4)]) hx hb dX2_texel_101 hl (by decide) rfl (fun ls hl => ?_)
            refine lv_aload_n hx hb dX2_texel_103 rfl (lv_at hl 3 rfl) ?_
            refine lv_iload hx hb dX2_texel_104 (lv_at hl 2 rfl) ?_
            refine lv_if_ne (tgt := 113) hx hb dX2_texel_106 (by decide) (fun c_27 => ?_) (fun c_27 => absurd c_27 (by decide))
            refine lv_iconst (v := 0) hx hb dX2_texel_113 (by decide) ?_
            refine lv_iload hx hb dX2_texel_114 (lv_at hl 0 rfl) ?_
            refine lv_if_ne (tgt := 123) hx hb dX2_texel_116 (by decide) (fun c_28 => absurd (by decide) c_28) (fun c_28 => ?_)
            refine lv_iconst (v := 1) hx hb dX2_texel_119 (by decide) ?_
            refine lv_goto (tgt := 124) hx hb dX2_texel_120 (by decide) ?_
            have hPc := hP.sub (ws' := [(o, .inr (2, [.int th, .ref a1, .ref a2, .ref a3, .ref a4, .ref a5, .ref a6, .ref a7, .ref a8, .ref a9, .ref a10]))]) [0] rfl
            have hDc := hD.sub (ws' := [(o, .inr (2, [.int th, .ref a1, .ref a2, .ref a3, .ref a4, .ref a5, .ref a6, .ref a7, .ref a8, .ref a9, .ref a10]))]) [0] (by decide) rfl
            have hFc := va_free (wc := [(o, .inr (2, [.int th, .ref a1, .ref a2, .ref a3, .ref a4, .ref a5, .ref a6, .ref a7, .ref a8, .ref a9, .ref a10]))]) hD hS hA [0] rfl
            refine va_calli (va_runV (As := [.int 0, .int 1]) (rest := []) ⟨hx, hb, hml, hown, hts⟩ (m_refuse2 l dC dI o th a1 a2 a3 a4 a5 a6 a7 a8 a9 a10 0 1 s.heap.size rfl (by decide)) (cwV 2 hts (tg_V tw_378 tw_380 tw_p8 tw_3 tw_381) rfl rfl rfl (by decide +kernel) ⟨Nat.le_of_ble_eq_true rfl, Nat.le_of_ble_eq_true rfl⟩) ⟨wr_blind, va_recv hK hP (ci := 2) (q0 := 0) rfl rfl, fun U hU hW => ⟨rfl, wr_use hPc (hK.sub [] rfl) hDc U hU hW⟩⟩ rfl rfl hl.1 rfl (lv_room (Nat.le_of_ble_eq_true rfl)) dX2_texel_124 ⟨Nat.le_of_ble_eq_true rfl, Nat.le_of_ble_eq_true rfl⟩) hS (fun q _ h => hFc q h) hFc (fun r9 u9 t9 H1 locs ht hvm hw hB hz1 hk1 hS => ?_)
            obtain ⟨hP1, hK1, hD1⟩ := hB
            rw [ht] at hP1
            subst hw
            obtain ⟨hP, hD⟩ := va_join (wr := [(a2, .inl (cI, 32, .inl un))]) (w1 := [(o, .inr (2, [.int 2, .ref a1, .ref a2, .ref a3, .ref a4, .ref a5, .ref a6, .ref a7, .ref a8, .ref a9, .ref a10]))]) hP hD [0] [1] rfl rfl (by decide) (by decide) hk1 hFc hP1 hD1
            have hP := hP.sub (ws' := [(o, .inr (2, [.int 2, .ref a1, .ref a2, .ref a3, .ref a4, .ref a5, .ref a6, .ref a7, .ref a8, .ref a9, .ref a10])), (a2, .inl (cI, 32, .inl un))]) [1, 0] rfl
            have hD := hD.sub (ws' := [(o, .inr (2, [.int 2, .ref a1, .ref a2, .ref a3, .ref a4, .ref a5, .ref a6, .ref a7, .ref a8, .ref a9, .ref a10])), (a2, .inl (cI, 32, .inl un))]) [1, 0] (by decide) rfl
            clear hPc hDc hFc hP1 hK1 hD1 hk1 hz1
            generalize H1 = H at hP hS ⊢
            refine lv_if_eq (tgt := 132) hx hb dX2_texel_127 (by decide) (fun c_29 => absurd c_29 (by decide)) (fun c_29 => ?_)
            refine lv_iconst (v := 0) hx hb dX2_texel_130 (by decide) ?_
            have hP9 : va_P (dC, dI) vwCl [(o, .inr (2, [.int 2, .ref a1, .ref a2, .ref a3, .ref a4, .ref a5, .ref a6, .ref a7, .ref a8, .ref a9, .ref a10])), (a2, .inl (cI, 32, .inl un))] H := hP.sub [0, 1] rfl
            have hD9 : va_D A [(o, .inr (2, [.int 2, .ref a1, .ref a2, .ref a3, .ref a4, .ref a5, .ref a6, .ref a7, .ref a8, .ref a9, .ref a10])), (a2, .inl (cI, 32, .inl un))] := hD.sub [0, 1] (by decide) rfl
            have hK9 : va_K (dC, dI) vwCl [(cI, .int)] s := hK.sub [0] rfl
            exact W.iret (v := 0) hx hb hr (fun t ht hW => ⟨⟨0, (), rfl, rfl, by rw [ht]; exact hP9, va_K.moved hW.alike hK9, hD9⟩, hS.F ht⟩) hS.2.2 dX2_texel_131
          · refine lv_iload hx hb dX2_texel_84 (lv_at hl 7 rfl) ?_
            refine lv_aload_n hx hb dX2_texel_86 rfl (lv_at hl 3 rfl) ?_
            refine lv_iload hx hb dX2_texel_87 (lv_at hl 1 rfl) ?_
            refine lv_iload_n hx hb dX2_texel_89 rfl (lv_at hl 5 rfl) ?_
            refine rd_call (W.runV (As := [.int (nI j), .int p1]) (rest := [.int p3]) ⟨hx, hb, hml, hown, hts⟩ (m_high l dC dI o th a1 a2 a3 a4 a5 a6 a7 a8 a9 a10 cI un j p1 hj) (cwV 2 hts (tg_V tw_406 tw_408 tw_p11 tw_3 tw_409) rfl rfl rfl (by decide +kernel) ⟨Nat.le_of_ble_eq_true rfl, Nat.le_of_ble_eq_true rfl⟩) ⟨rd_blind, va_recv hK hP (ci := 2) (q0 := 0) rfl rfl, fun U hU hW => ⟨rfl, rd_use (hP.sub [0, 1] rfl) (hK.sub [0] rfl) U hU hW⟩⟩ rfl rfl hl.1 rfl (lv_room (Nat.le_of_ble_eq_true rfl)) dX2_texel_90 ⟨Nat.le_of_ble_eq_true rfl, Nat.le_of_ble_eq_true rfl⟩) ?_
            refine lv_icmp_ge (tgt := 100) hx hb dX2_texel_93 (by decide) (fun c_30 => ?_) (fun c_30 => ?_)
            · refine lv_iconst (v := 0) hx hb dX2_texel_100 (by decide) ?_
              refine lv_istore (lv' := [(8, .int 0), (7, .int (nI j)), (6, .int 1), (0, .ref o), (1, .int (nI j)), (2, .int p1), (3, .int p2), (4, .int p3), (5, .int p4)]) hx hb dX2_texel_101 hl (by decide) rfl (fun ls hl => ?_)
              refine lv_aload_n hx hb dX2_texel_103 rfl (lv_at hl 3 rfl) ?_
              refine lv_iload hx hb dX2_texel_104 (lv_at hl 2 rfl) ?_
              refine lv_if_ne (tgt := 113) hx hb dX2_texel_106 (by decide) (fun c_31 => ?_) (fun c_31 => absurd c_31 (by decide))
              refine lv_iconst (v := 0) hx hb dX2_texel_113 (by decide) ?_
              refine lv_iload hx hb dX2_texel_114 (lv_at hl 0 rfl) ?_
              refine lv_if_ne (tgt := 123) hx hb dX2_texel_116 (by decide) (fun c_32 => absurd (by decide) c_32) (fun c_32 => ?_)
              refine lv_iconst (v := 1) hx hb dX2_texel_119 (by decide) ?_
              refine lv_goto (tgt := 124) hx hb dX2_texel_120 (by decide) ?_
              have hPc := hP.sub (ws' := [(o, .inr (2, [.int th, .ref a1, .ref a2, .ref a3, .ref a4, .ref a5, .ref a6, .ref a7, .ref a8, .ref a9, .ref a10]))]) [0] rfl
              have hDc := hD.sub (ws' := [(o, .inr (2, [.int th, .ref a1, .ref a2, .ref a3, .ref a4, .ref a5, .ref a6, .ref a7, .ref a8, .ref a9, .ref a10]))]) [0] (by decide) rfl
              have hFc := va_free (wc := [(o, .inr (2, [.int th, .ref a1, .ref a2, .ref a3, .ref a4, .ref a5, .ref a6, .ref a7, .ref a8, .ref a9, .ref a10]))]) hD hS hA [0] rfl
              refine va_calli (va_runV (As := [.int 0, .int 1]) (rest := []) ⟨hx, hb, hml, hown, hts⟩ (m_refuse2 l dC dI o th a1 a2 a3 a4 a5 a6 a7 a8 a9 a10 0 1 s.heap.size rfl (by decide)) (cwV 2 hts (tg_V tw_378 tw_380 tw_p8 tw_3 tw_381) rfl rfl rfl (by decide +kernel) ⟨Nat.le_of_ble_eq_true rfl, Nat.le_of_ble_eq_true rfl⟩) ⟨wr_blind, va_recv hK hP (ci := 2) (q0 := 0) rfl rfl, fun U hU hW => ⟨rfl, wr_use hPc (hK.sub [] rfl) hDc U hU hW⟩⟩ rfl rfl hl.1 rfl (lv_room (Nat.le_of_ble_eq_true rfl)) dX2_texel_124 ⟨Nat.le_of_ble_eq_true rfl, Nat.le_of_ble_eq_true rfl⟩) hS (fun q _ h => hFc q h) hFc (fun r9 u9 t9 H1 locs ht hvm hw hB hz1 hk1 hS => ?_)
              obtain ⟨hP1, hK1, hD1⟩ := hB
              rw [ht] at hP1
              subst hw
              obtain ⟨hP, hD⟩ := va_join (wr := [(a2, .inl (cI, 32, .inl un))]) (w1 := [(o, .inr (2, [.int 2, .ref a1, .ref a2, .ref a3, .ref a4, .ref a5, .ref a6, .ref a7, .ref a8, .ref a9, .ref a10]))]) hP hD [0] [1] rfl rfl (by decide) (by decide) hk1 hFc hP1 hD1
              have hP := hP.sub (ws' := [(o, .inr (2, [.int 2, .ref a1, .ref a2, .ref a3, .ref a4, .ref a5, .ref a6, .ref a7, .ref a8, .ref a9, .ref a10])), (a2, .inl (cI, 32, .inl un))]) [1, 0] rfl
              have hD := hD.sub (ws' := [(o, .inr (2, [.int 2, .ref a1, .ref a2, .ref a3, .ref a4, .ref a5, .ref a6, .ref a7, .ref a8, .ref a9, .ref a10])), (a2, .inl (cI, 32, .inl un))]) [1, 0] (by decide) rfl
              clear hPc hDc hFc hP1 hK1 hD1 hk1 hz1
              generalize H1 = H at hP hS ⊢
              refine lv_if_eq (tgt := 132) hx hb dX2_texel_127 (by decide) (fun c_33 => absurd c_33 (by decide)) (fun c_33 => ?_)
              refine lv_iconst (v := 0) hx hb dX2_texel_130 (by decide) ?_
              have hP9 : va_P (dC, dI) vwCl [(o, .inr (2, [.int 2, .ref a1, .ref a2, .ref a3, .ref a4, .ref a5, .ref a6, .ref a7, .ref a8, .ref a9, .ref a10])), (a2, .inl (cI, 32, .inl un))] H := hP.sub [0, 1] rfl
              have hD9 : va_D A [(o, .inr (2, [.int 2, .ref a1, .ref a2, .ref a3, .ref a4, .ref a5, .ref a6, .ref a7, .ref a8, .ref a9, .ref a10])), (a2, .inl (cI, 32, .inl un))] := hD.sub [0, 1] (by decide) rfl
              have hK9 : va_K (dC, dI) vwCl [(cI, .int)] s := hK.sub [0] rfl
              exact W.iret (v := 0) hx hb hr (fun t ht hW => ⟨⟨0, (), rfl, rfl, by rw [ht]; exact hP9, va_K.moved hW.alike hK9, hD9⟩, hS.F ht⟩) hS.2.2 dX2_texel_131
            · exact absurd ⟨c_5, c_10, c_15, c_20, c_26, c_30⟩ hn9
set_option maxHeartbeats 4000000 in
set_option maxRecDepth 100000 in
theorem m_texel0 (l : Launch) (dC : Nat → ClassId) (dI : Nat → Nat → Nat) (o : Nat) (th : Int32) (a1 a2 a3 a4 a5 a6 a7 a8 a9 a10 : Nat) (cI : ClassId) (mem un fd f1 s1 : Nat → Int32) (j n a f ga gb x y c9 : Nat) (sz : Nat) (hj : j < 4) (hn : n ≤ 11) (hf : f < 8) (ha : a < 2 ^ 31) (hga : ga ≤ 10) (hgb : gb ≤ 10) (ea : un (8 * j) = nI a) (e1 : un (8 * j + 1) = nI ga) (e2 : un (8 * j + 2) = nI gb) (ef : un (8 * j + 4) = nI f) (hx9 : x < 1024) (hy9 : y < 1024) (hc9 : c9 < 4) (hv : ¬ tu_win (nI n) 0 (un (8 * j + 3) - 1) = 0 ∧ ¬ (nI x) < 0 ∧ ¬ (nI y) < 0 ∧ ¬ tu_win (nI c9) 0 3 = 0 ∧ ¬ md_len (un (8 * j + 1)) (nI n) ≤ (nI x) ∧ ¬ md_len (un (8 * j + 2)) (nI n) ≤ (nI y)) : Met l yX2_texel wsX2_texel ({ frames := 4, cells := 0, slots := 0, locals := 100 }) (va_Pc [.ref o, .int (nI j), .int (nI n), .int (nI x), .int (nI y), .int (nI c9)] (wr_P (dC, dI) vwCl [(o, .inr (2, [.int th, .ref a1, .ref a2, .ref a3, .ref a4, .ref a5, .ref a6, .ref a7, .ref a8, .ref a9, .ref a10])), (a1, .inl (cI, 2048, .inl mem)), (a2, .inl (cI, 32, .inl un)), (a5, .inl (cI, 4, .inl fd)), (a9, .inl (cI, 4, .inl f1)), (a10, .inl (cI, 4, .inl s1))] [(cI, .int)] sz)) (va_Qi (fun (r9 : Int32) (_ : Unit) => r9 = md_ch mem a f (md_T ga gb n x y) c9) (fun (_ : Unit) t9 => ∃ (d2 f2 s2 : Nat → Int32), wr_B (dC, dI) vwCl [(o, .inr (2, [.int 0, .ref a1, .ref a2, .ref a3, .ref a4, .ref a5, .ref a6, .ref a7, .ref a8, .ref a9, .ref a10])), (a1, .inl (cI, 2048, .inl mem)), (a2, .inl (cI, 32, .inl un)), (a5, .inl (cI, 4, .inl d2)), (a9, .inl (cI, 4, .inl f2)), (a10, .inl (cI, 4, .inl s2))] [(cI, .int)] (va_A [(o, .inr (2, [.int th, .ref a1, .ref a2, .ref a3, .ref a4, .ref a5, .ref a6, .ref a7, .ref a8, .ref a9, .ref a10])), (a1, .inl (cI, 2048, .inl mem)), (a2, .inl (cI, 32, .inl un)), (a5, .inl (cI, 4, .inl fd)), (a9, .inl (cI, 4, .inl f1)), (a10, .inl (cI, 4, .inl s1))] sz) () t9) (va_A [(o, .inr (2, [.int th, .ref a1, .ref a2, .ref a3, .ref a4, .ref a5, .ref a6, .ref a7, .ref a8, .ref a9, .ref a10])), (a1, .inl (cI, 2048, .inl mem)), (a2, .inl (cI, 32, .inl un)), (a5, .inl (cI, 4, .inl fd)), (a9, .inl (cI, 4, .inl f1)), (a10, .inl (cI, 4, .inl s1))] sz)) 0 0 (va_A [(o, .inr (2, [.int th, .ref a1, .ref a2, .ref a3, .ref a4, .ref a5, .ref a6, .ref a7, .ref a8, .ref a9, .ref a10])), (a1, .inl (cI, 2048, .inl mem)), (a2, .inl (cI, 32, .inl un)), (a5, .inl (cI, 4, .inl fd)), (a9, .inl (cI, 4, .inl f1)), (a10, .inl (cI, 4, .inl s1))] sz) := by
  refine Met.ofW (cc := cX2_texel) (maxL := 9) (ret := some .int) (by decide) rfl ?_
  intro p e s m args below meth c s₁ B hml hv
  obtain ⟨rfl, hsz, hP, hK, hD0⟩ := hv
  have hx := B.exec
  have hb := B.bytes
  have hr := B.returns
  have hts := atoms_spec (ws := wsX2_texel) B.pre
  have hown : s.vm.findClass "TextureUnitsModel" = some m.cls := findClass_of_methodNamed B.named
  have hlocks := B.notSynchronized
  subst hsz
  have hD := hD0.self (sz := s.heap.size)
  generalize hAe : va_A [(o, .inr (2, [.int th, .ref a1, .ref a2, .ref a3, .ref a4, .ref a5, .ref a6, .ref a7, .ref a8, .ref a9, .ref a10])), (a1, .inl (cI, 2048, .inl mem)), (a2, .inl (cI, 32, .inl un)), (a5, .inl (cI, 4, .inl fd)), (a9, .inl (cI, 4, .inl f1)), (a10, .inl (cI, 4, .inl s1))] s.heap.size = A at hD ⊢
  have hA : ∀ q : Nat, s.heap.size ≤ q → A q := fun q h => by rw [← hAe]; exact Or.inr h
  have hS : va_S A s.heap s.heap [] := va_S.rf
  have hP : va_P (dC, dI) vwCl [(o, .inr (2, [.int th, .ref a1, .ref a2, .ref a3, .ref a4, .ref a5, .ref a6, .ref a7, .ref a8, .ref a9, .ref a10])), (a1, .inl (cI, 2048, .inl mem)), (a2, .inl (cI, 32, .inl un)), (a5, .inl (cI, 4, .inl fd)), (a9, .inl (cI, 4, .inl f1)), (a10, .inl (cI, 4, .inl s1))] s.heap := hP
  have hl := lv_entry ([.ref o, .int (nI j), .int (nI n), .int (nI x), .int (nI y), .int (nI c9)]) (n := 9) (Nat.le_of_ble_eq_true rfl)
  rw [lg_entry_eq]
  generalize (lg_sl ([.ref o, .int (nI j), .int (nI n), .int (nI x), .int (nI y), .int (nI c9)]) ++ List.replicate (9 - (lg_sl ([.ref o, .int (nI j), .int (nI n), .int (nI x), .int (nI y), .int (nI c9)])).length) Slot.unset).toArray = ls at hl ⊢
  have hl : lv_has ls 9 [(0, .ref o), (1, .int (nI j)), (2, .int (nI n)), (3, .int (nI x)), (4, .int (nI y)), (5, .int (nI c9))] := hl
  refine lv_iload_n hx hb dX2_texel_0 rfl (lv_at hl 1 rfl) ?_
  refine lv_iconst (v := 0) hx hb dX2_texel_1 (by decide) ?_
  refine lv_iconst (v := 3) hx hb dX2_texel_2 (by decide) ?_
  refine rd_call (W.runS (As := [.int (nI j), .int 0, .int 3]) (rest := []) ⟨hx, hb, hml, hown, hts⟩ (m_in l (nI j) 0 3) (va_cwS 3 hts (tg_S tw_375 tw_376 tw_3 tw_377) rfl rfl rfl (by decide +kernel) ⟨Nat.le_of_ble_eq_true rfl, Nat.le_of_ble_eq_true rfl⟩) preEq rfl rfl hl.1 rfl (lv_room (Nat.le_of_ble_eq_true rfl)) dX2_texel_3 ⟨Nat.le_of_ble_eq_true rfl, Nat.le_of_ble_eq_true rfl⟩) ?_
  refine W.eq (g2 := F0 m 6 ls [.int 1]) (by rw [md_unit1 hj]) ?_
  refine lv_istore (lv' := [(6, .int 1), (0, .ref o), (1, .int (nI j)), (2, .int (nI n)), (3, .int (nI x)), (4, .int (nI y)), (5, .int (nI c9))]) hx hb dX2_texel_6 hl (by decide) rfl (fun ls hl => ?_)
  refine lv_iload hx hb dX2_texel_8 (lv_at hl 0 rfl) ?_
  refine lv_if_eq (tgt := 17) hx hb dX2_texel_10 (by decide) (fun c_1 => absurd c_1 (by decide)) (fun c_1 => ?_)
  refine lv_iload_n hx hb dX2_texel_13 rfl (lv_at hl 2 rfl) ?_
  refine lv_goto (tgt := 18) hx hb dX2_texel_14 (by decide) ?_
  refine lv_istore (lv' := [(7, .int (nI j)), (6, .int 1), (0, .ref o), (1, .int (nI j)), (2, .int (nI n)), (3, .int (nI x)), (4, .int (nI y)), (5, .int (nI c9))]) hx hb dX2_texel_18 hl (by decide) rfl (fun ls hl => ?_)
  refine lv_iload_n hx hb dX2_texel_20 rfl (lv_at hl 4 rfl) ?_
  refine lv_iconst (v := 0) hx hb dX2_texel_21 (by decide) ?_
  refine lv_aload_n hx hb dX2_texel_22 rfl (lv_at hl 2 rfl) ?_
  refine va_get (D := (dC, dI)) (ci := 2) (v := .ref a2) (C := "TextureUnitsModel") (T := TX2) (N := 11) hx hb hts (tw_s inX2) hown hK hP 0 rfl rfl 2 (by decide) (hts _ (tw_c tw_335)) (fun _ h9 => h9) rfl dX2_texel_23 ?_
  refine lv_bipush (v := 8) hx hb dX2_texel_26 (by decide) ?_
  refine lv_iload hx hb dX2_texel_28 (lv_at hl 0 rfl) ?_
  refine lv_imul hx hb dX2_texel_30 ?_
  refine lv_topi (fun x_2 ex_2 => ?_)
  have ex_2 : x_2 = nI (8 * j) := ex_2.trans (pk_mul 8 j)
  subst ex_2
  refine lv_iconst (v := 3) hx hb dX2_texel_31 (by decide) ?_
  refine lv_iadd hx hb dX2_texel_32 ?_
  refine lv_topi (fun x_3 ex_3 => ?_)
  have ex_3 : x_3 = nI ((8 * j) + 3) := ex_3.trans (nI_add (8 * j) 3)
  subst ex_3
  refine va_iald hx hb hK hP 2 0 rfl rfl (vp_in_nI (by omega) (by decide)) dX2_texel_33 ?_
  refine lv_topi (fun x_4 ex_4 => ?_)
  have ex_4 : x_4 = (un ((8 * j) + 3)) := ex_4.trans (congrArg un (nI_clamp (by omega)))
  subst ex_4
  refine lv_iconst (v := 1) hx hb dX2_texel_34 (by decide) ?_
  refine lv_isub hx hb dX2_texel_35 ?_
  refine rd_call (W.runS (As := [.int (nI n), .int 0, .int ((un ((8 * j) + 3)) - (1 : Int32))]) (rest := []) ⟨hx, hb, hml, hown, hts⟩ (m_in l (nI n) 0 ((un ((8 * j) + 3)) - (1 : Int32))) (va_cwS 3 hts (tg_S tw_375 tw_376 tw_3 tw_377) rfl rfl rfl (by decide +kernel) ⟨Nat.le_of_ble_eq_true rfl, Nat.le_of_ble_eq_true rfl⟩) preEq rfl rfl hl.1 rfl (lv_room (Nat.le_of_ble_eq_true rfl)) dX2_texel_36 ⟨Nat.le_of_ble_eq_true rfl, Nat.le_of_ble_eq_true rfl⟩) ?_
  refine lv_if_eq (tgt := 65) hx hb dX2_texel_39 (by decide) (fun c_5 => absurd c_5 hv.1) (fun c_5 => ?_)
  refine lv_iload_n hx hb dX2_texel_42 rfl (lv_at hl 5 rfl) ?_
  refine lv_if_lt (tgt := 65) hx hb dX2_texel_43 (by decide) (fun c_6 => absurd c_6 hv.2.1) (fun c_6 => ?_)
  refine lv_iload hx hb dX2_texel_46 (lv_at hl 6 rfl) ?_
  refine lv_if_lt (tgt := 65) hx hb dX2_texel_48 (by decide) (fun c_7 => absurd c_7 hv.2.2.1) (fun c_7 => ?_)
  refine lv_iload hx hb dX2_texel_51 (lv_at hl 7 rfl) ?_
  refine lv_iconst (v := 0) hx hb dX2_texel_53 (by decide) ?_
  refine lv_iconst (v := 3) hx hb dX2_texel_54 (by decide) ?_
  refine rd_call (W.runS (As := [.int (nI c9), .int 0, .int 3]) (rest := []) ⟨hx, hb, hml, hown, hts⟩ (m_in l (nI c9) 0 3) (va_cwS 3 hts (tg_S tw_375 tw_376 tw_3 tw_377) rfl rfl rfl (by decide +kernel) ⟨Nat.le_of_ble_eq_true rfl, Nat.le_of_ble_eq_true rfl⟩) preEq rfl rfl hl.1 rfl (lv_room (Nat.le_of_ble_eq_true rfl)) dX2_texel_55 ⟨Nat.le_of_ble_eq_true rfl, Nat.le_of_ble_eq_true rfl⟩) ?_
  refine lv_if_eq (tgt := 65) hx hb dX2_texel_58 (by decide) (fun c_8 => absurd c_8 hv.2.2.2.1) (fun c_8 => ?_)
  refine lv_iconst (v := 1) hx hb dX2_texel_61 (by decide) ?_
  refine lv_goto (tgt := 66) hx hb dX2_texel_62 (by decide) ?_
  refine lv_istore (lv' := [(8, .int 1), (7, .int (nI j)), (6, .int 1), (0, .ref o), (1, .int (nI j)), (2, .int (nI n)), (3, .int (nI x)), (4, .int (nI y)), (5, .int (nI c9))]) hx hb dX2_texel_66 hl (by decide) rfl (fun ls hl => ?_)
  refine lv_iload hx hb dX2_texel_68 (lv_at hl 0 rfl) ?_
  refine lv_if_eq (tgt := 100) hx hb dX2_texel_70 (by decide) (fun c_9 => absurd c_9 (by decide)) (fun c_9 => ?_)
  refine lv_iload_n hx hb dX2_texel_73 rfl (lv_at hl 6 rfl) ?_
  refine lv_aload_n hx hb dX2_texel_74 rfl (lv_at hl 3 rfl) ?_
  refine lv_iload hx hb dX2_texel_75 (lv_at hl 1 rfl) ?_
  refine lv_iload_n hx hb dX2_texel_77 rfl (lv_at hl 5 rfl) ?_
  refine rd_call (W.runV (As := [.int (nI j), .int (nI n)]) (rest := [.int (nI x)]) ⟨hx, hb, hml, hown, hts⟩ (m_wide l dC dI o th a1 a2 a3 a4 a5 a6 a7 a8 a9 a10 cI un j (nI n) hj) (cwV 2 hts (tg_V tw_398 tw_400 tw_p9 tw_3 tw_401) rfl rfl rfl (by decide +kernel) ⟨Nat.le_of_ble_eq_true rfl, Nat.le_of_ble_eq_true rfl⟩) ⟨rd_blind, va_recv hK hP (ci := 2) (q0 := 0) rfl rfl, fun U hU hW => ⟨rfl, rd_use (hP.sub [0, 2] rfl) (hK.sub [0] rfl) U hU hW⟩⟩ rfl rfl hl.1 rfl (lv_room (Nat.le_of_ble_eq_true rfl)) dX2_texel_78 ⟨Nat.le_of_ble_eq_true rfl, Nat.le_of_ble_eq_true rfl⟩) ?_
  refine lv_icmp_ge (tgt := 100) hx hb dX2_texel_81 (by decide) (fun c_10 => absurd c_10 hv.2.2.2.2.1) (fun c_10 => ?_)
  refine lv_iload hx hb dX2_texel_84 (lv_at hl 7 rfl) ?_
  refine lv_aload_n hx hb dX2_texel_86 rfl (lv_at hl 3 rfl) ?_
  refine lv_iload hx hb dX2_texel_87 (lv_at hl 1 rfl) ?_
  refine lv_iload_n hx hb dX2_texel_89 rfl (lv_at hl 5 rfl) ?_
  refine rd_call (W.runV (As := [.int (nI j), .int (nI n)]) (rest := [.int (nI y)]) ⟨hx, hb, hml, hown, hts⟩ (m_high l dC dI o th a1 a2 a3 a4 a5 a6 a7 a8 a9 a10 cI un j (nI n) hj) (cwV 2 hts (tg_V tw_406 tw_408 tw_p11 tw_3 tw_409) rfl rfl rfl (by decide +kernel) ⟨Nat.le_of_ble_eq_true rfl, Nat.le_of_ble_eq_true rfl⟩) ⟨rd_blind, va_recv hK hP (ci := 2) (q0 := 0) rfl rfl, fun U hU hW => ⟨rfl, rd_use (hP.sub [0, 2] rfl) (hK.sub [0] rfl) U hU hW⟩⟩ rfl rfl hl.1 rfl (lv_room (Nat.le_of_ble_eq_true rfl)) dX2_texel_90 ⟨Nat.le_of_ble_eq_true rfl, Nat.le_of_ble_eq_true rfl⟩) ?_
  refine lv_icmp_ge (tgt := 100) hx hb dX2_texel_93 (by decide) (fun c_11 => absurd c_11 hv.2.2.2.2.2) (fun c_11 => ?_)
  refine lv_iconst (v := 1) hx hb dX2_texel_96 (by decide) ?_
  refine lv_goto (tgt := 101) hx hb dX2_texel_97 (by decide) ?_
  refine lv_istore (lv' := [(8, .int 1), (7, .int (nI j)), (6, .int 1), (0, .ref o), (1, .int (nI j)), (2, .int (nI n)), (3, .int (nI x)), (4, .int (nI y)), (5, .int (nI c9))]) hx hb dX2_texel_101 hl (by decide) rfl (fun ls hl => ?_)
  refine lv_aload_n hx hb dX2_texel_103 rfl (lv_at hl 3 rfl) ?_
  refine lv_iload hx hb dX2_texel_104 (lv_at hl 2 rfl) ?_
  refine lv_if_ne (tgt := 113) hx hb dX2_texel_106 (by decide) (fun c_12 => ?_) (fun c_12 => absurd c_12 (by decide))
  refine lv_iconst (v := 0) hx hb dX2_texel_113 (by decide) ?_
  refine lv_iload hx hb dX2_texel_114 (lv_at hl 0 rfl) ?_
  refine lv_if_ne (tgt := 123) hx hb dX2_texel_116 (by decide) (fun c_13 => ?_) (fun c_13 => absurd c_13 (by decide))
  refine lv_iconst (v := 0) hx hb dX2_texel_123 (by decide) ?_
  have hPc := hP.sub (ws' := [(o, .inr (2, [.int th, .ref a1, .ref a2, .ref a3, .ref a4, .ref a5, .ref a6, .ref a7, .ref a8, .ref a9, .ref a10]))]) [0] rfl
  have hDc := hD.sub (ws' := [(o, .inr (2, [.int th, .ref a1, .ref a2, .ref a3, .ref a4, .ref a5, .ref a6, .ref a7, .ref a8, .ref a9, .ref a10]))]) [0] (by decide) rfl
  have hFc := va_free (wc := [(o, .inr (2, [.int th, .ref a1, .ref a2, .ref a3, .ref a4, .ref a5, .ref a6, .ref a7, .ref a8, .ref a9, .ref a10]))]) hD hS hA [0] rfl
  refine va_calli (va_runV (As := [.int 0, .int 0]) (rest := []) ⟨hx, hb, hml, hown, hts⟩ (m_refuse0 l dC dI o th a1 a2 a3 a4 a5 a6 a7 a8 a9 a10 0 0 s.heap.size rfl rfl) (cwV 2 hts (tg_V tw_378 tw_380 tw_p8 tw_3 tw_381) rfl rfl rfl (by decide +kernel) ⟨Nat.le_of_ble_eq_true rfl, Nat.le_of_ble_eq_true rfl⟩) ⟨wr_blind, va_recv hK hP (ci := 2) (q0 := 0) rfl rfl, fun U hU hW => ⟨rfl, wr_use hPc (hK.sub [] rfl) hDc U hU hW⟩⟩ rfl rfl hl.1 rfl (lv_room (Nat.le_of_ble_eq_true rfl)) dX2_texel_124 ⟨Nat.le_of_ble_eq_true rfl, Nat.le_of_ble_eq_true rfl⟩) hS (fun q _ h => hFc q h) hFc (fun r9 u9 t9 H1 locs ht hvm hw hB hz1 hk1 hS => ?_)
  obtain ⟨hP1, hK1, hD1⟩ := hB
  rw [ht] at hP1
  subst hw
  obtain ⟨hP, hD⟩ := va_join (wr := [(a1, .inl (cI, 2048, .inl mem)), (a2, .inl (cI, 32, .inl un)), (a5, .inl (cI, 4, .inl fd)), (a9, .inl (cI, 4, .inl f1)), (a10, .inl (cI, 4, .inl s1))]) (w1 := [(o, .inr (2, [.int 0, .ref a1, .ref a2, .ref a3, .ref a4, .ref a5, .ref a6, .ref a7, .ref a8, .ref a9, .ref a10]))]) hP hD [0] [1, 2, 3, 4, 5] rfl rfl (by decide) (by decide) hk1 hFc hP1 hD1
  have hP := hP.sub (ws' := [(o, .inr (2, [.int 0, .ref a1, .ref a2, .ref a3, .ref a4, .ref a5, .ref a6, .ref a7, .ref a8, .ref a9, .ref a10])), (a1, .inl (cI, 2048, .inl mem)), (a2, .inl (cI, 32, .inl un)), (a5, .inl (cI, 4, .inl fd)), (a9, .inl (cI, 4, .inl f1)), (a10, .inl (cI, 4, .inl s1))]) [5, 0, 1, 2, 3, 4] rfl
  have hD := hD.sub (ws' := [(o, .inr (2, [.int 0, .ref a1, .ref a2, .ref a3, .ref a4, .ref a5, .ref a6, .ref a7, .ref a8, .ref a9, .ref a10])), (a1, .inl (cI, 2048, .inl mem)), (a2, .inl (cI, 32, .inl un)), (a5, .inl (cI, 4, .inl fd)), (a9, .inl (cI, 4, .inl f1)), (a10, .inl (cI, 4, .inl s1))]) [5, 0, 1, 2, 3, 4] (by decide) rfl
  clear hPc hDc hFc hP1 hK1 hD1 hk1 hz1
  generalize H1 = H at hP hS ⊢
  refine lv_if_eq (tgt := 132) hx hb dX2_texel_127 (by decide) (fun c_14 => ?_) (fun c_14 => absurd (by decide) c_14)
  refine lv_aload_n hx hb dX2_texel_132 rfl (lv_at hl 3 rfl) ?_
  refine lv_iload_n hx hb dX2_texel_133 rfl (lv_at hl 4 rfl) ?_
  refine lv_iload_n hx hb dX2_texel_134 rfl (lv_at hl 5 rfl) ?_
  refine lv_iload_n hx hb dX2_texel_135 rfl (lv_at hl 6 rfl) ?_
  refine lv_iload hx hb dX2_texel_136 (lv_at hl 7 rfl) ?_
  have hPc := hP.sub (ws' := [(o, .inr (2, [.int 0, .ref a1, .ref a2, .ref a3, .ref a4, .ref a5, .ref a6, .ref a7, .ref a8, .ref a9, .ref a10])), (a1, .inl (cI, 2048, .inl mem)), (a2, .inl (cI, 32, .inl un)), (a5, .inl (cI, 4, .inl fd)), (a9, .inl (cI, 4, .inl f1)), (a10, .inl (cI, 4, .inl s1))]) [0, 1, 2, 3, 4, 5] rfl
  have hDc := hD.sub (ws' := [(o, .inr (2, [.int 0, .ref a1, .ref a2, .ref a3, .ref a4, .ref a5, .ref a6, .ref a7, .ref a8, .ref a9, .ref a10])), (a1, .inl (cI, 2048, .inl mem)), (a2, .inl (cI, 32, .inl un)), (a5, .inl (cI, 4, .inl fd)), (a9, .inl (cI, 4, .inl f1)), (a10, .inl (cI, 4, .inl s1))]) [0, 1, 2, 3, 4, 5] (by decide) rfl
  have hFc := va_free (wc := [(o, .inr (2, [.int 0, .ref a1, .ref a2, .ref a3, .ref a4, .ref a5, .ref a6, .ref a7, .ref a8, .ref a9, .ref a10])), (a1, .inl (cI, 2048, .inl mem)), (a2, .inl (cI, 32, .inl un)), (a5, .inl (cI, 4, .inl fd)), (a9, .inl (cI, 4, .inl f1)), (a10, .inl (cI, 4, .inl s1))]) hD hS hA [0, 1, 2, 3, 4, 5] rfl
  refine va_callv (va_runV (As := [.int (nI j), .int (nI n), .int (nI x), .int (nI y)]) (rest := []) ⟨hx, hb, hml, hown, hts⟩ (m_look l dC dI o 0 a1 a2 a3 a4 a5 a6 a7 a8 a9 a10 cI mem un fd f1 s1 j n x y a f ga gb H.size hj hn hf ha hga hgb hx9 hy9 ea e1 e2 ef) (cwV 4 hts (tg_V tw_410 tw_412 tw_p12 tw_3 tw_413) rfl rfl rfl (by decide +kernel) ⟨Nat.le_of_ble_eq_true rfl, Nat.le_of_ble_eq_true rfl⟩) ⟨wr_blind, va_recv hK hP (ci := 2) (q0 := 0) rfl rfl, fun U hU hW => ⟨rfl, wr_use hPc (hK.sub [0] rfl) hDc U hU hW⟩⟩ rfl rfl hl.1 rfl (lv_room (Nat.le_of_ble_eq_true rfl)) dX2_texel_138 ⟨Nat.le_of_ble_eq_true rfl, Nat.le_of_ble_eq_true rfl⟩) hS (fun q _ h => hFc q h) hFc (fun u9 t9 H1 locs ht hvm hw hB hz1 hk1 hS => ?_)
  obtain ⟨f_15, s_16, hP1, hK1, hD1⟩ := hB
  rw [ht] at hP1
  obtain ⟨hP, hD⟩ := va_join (wr := []) (w1 := [(o, .inr (2, [.int 0, .ref a1, .ref a2, .ref a3, .ref a4, .ref a5, .ref a6, .ref a7, .ref a8, .ref a9, .ref a10])), (a1, .inl (cI, 2048, .inl mem)), (a2, .inl (cI, 32, .inl un)), (a5, .inl (cI, 4, .inl (tu_put4 fd (md_ch mem a f (md_T ga gb n x y) 0) (md_ch mem a f (md_T ga gb n x y) 1) (md_ch mem a f (md_T ga gb n x y) 2) (md_ch mem a f (md_T ga gb n x y) 3)))), (a9, .inl (cI, 4, .inl f_15)), (a10, .inl (cI, 4, .inl s_16))]) hP hD [0, 1, 2, 3, 4, 5] [] rfl rfl (by decide) (by decide) hk1 hFc hP1 hD1
  have hP := hP.sub (ws' := [(o, .inr (2, [.int 0, .ref a1, .ref a2, .ref a3, .ref a4, .ref a5, .ref a6, .ref a7, .ref a8, .ref a9, .ref a10])), (a1, .inl (cI, 2048, .inl mem)), (a2, .inl (cI, 32, .inl un)), (a5, .inl (cI, 4, .inl (tu_put4 fd (md_ch mem a f (md_T ga gb n x y) 0) (md_ch mem a f (md_T ga gb n x y) 1) (md_ch mem a f (md_T ga gb n x y) 2) (md_ch mem a f (md_T ga gb n x y) 3)))), (a9, .inl (cI, 4, .inl f_15)), (a10, .inl (cI, 4, .inl s_16))]) [0, 1, 2, 3, 4, 5] rfl
  have hD := hD.sub (ws' := [(o, .inr (2, [.int 0, .ref a1, .ref a2, .ref a3, .ref a4, .ref a5, .ref a6, .ref a7, .ref a8, .ref a9, .ref a10])), (a1, .inl (cI, 2048, .inl mem)), (a2, .inl (cI, 32, .inl un)), (a5, .inl (cI, 4, .inl (tu_put4 fd (md_ch mem a f (md_T ga gb n x y) 0) (md_ch mem a f (md_T ga gb n x y) 1) (md_ch mem a f (md_T ga gb n x y) 2) (md_ch mem a f (md_T ga gb n x y) 3)))), (a9, .inl (cI, 4, .inl f_15)), (a10, .inl (cI, 4, .inl s_16))]) [0, 1, 2, 3, 4, 5] (by decide) rfl
  clear hPc hDc hFc hP1 hK1 hD1 hk1 hz1
  generalize H1 = H at hP hS ⊢
  refine lv_aload_n hx hb dX2_texel_141 rfl (lv_at hl 3 rfl) ?_
  refine va_get (D := (dC, dI)) (ci := 2) (v := .ref a5) (C := "TextureUnitsModel") (T := TX2) (N := 11) hx hb hts (tw_s inX2) hown hK hP 0 rfl rfl 5 (by decide) (hts _ (tw_c tw_338)) (fun _ h9 => h9) rfl dX2_texel_142 ?_
  refine lv_iload hx hb dX2_texel_145 (lv_at hl 8 rfl) ?_
  refine va_iald hx hb hK hP 3 0 rfl rfl (vp_in_nI (by omega) (by decide)) dX2_texel_147 ?_
  refine lv_topi (fun x_17 ex_17 => ?_)
  have ex_17 : x_17 = ((tu_put4 fd (md_ch mem a f (md_T ga gb n x y) 0) (md_ch mem a f (md_T ga gb n x y) 1) (md_ch mem a f (md_T ga gb n x y) 2) (md_ch mem a f (md_T ga gb n x y) 3)) c9) := ex_17.trans (congrArg (tu_put4 fd (md_ch mem a f (md_T ga gb n x y) 0) (md_ch mem a f (md_T ga gb n x y) 1) (md_ch mem a f (md_T ga gb n x y) 2) (md_ch mem a f (md_T ga gb n x y) 3)) (nI_clamp (by omega)))
  subst ex_17
  refine lv_topi (fun y_18 ey_18 => ?_)
  have ey_18 : (md_ch mem a f (md_T ga gb n x y) c9) = y_18 := (ey_18.trans (tu_put4_at _ (fun c => md_ch mem a f (md_T ga gb n x y) c) hc9)).symm
  subst ey_18
  skip
  have hP9 : va_P (dC, dI) vwCl [(o, .inr (2, [.int 0, .ref a1, .ref a2, .ref a3, .ref a4, .ref a5, .ref a6, .ref a7, .ref a8, .ref a9, .ref a10])), (a1, .inl (cI, 2048, .inl mem)), (a2, .inl (cI, 32, .inl un)), (a5, .inl (cI, 4, .inl (tu_put4 fd (md_ch mem a f (md_T ga gb n x y) 0) (md_ch mem a f (md_T ga gb n x y) 1) (md_ch mem a f (md_T ga gb n x y) 2) (md_ch mem a f (md_T ga gb n x y) 3)))), (a9, .inl (cI, 4, .inl f_15)), (a10, .inl (cI, 4, .inl s_16))] H := hP.sub [0, 1, 2, 3, 4, 5] rfl
  have hD9 : va_D A [(o, .inr (2, [.int 0, .ref a1, .ref a2, .ref a3, .ref a4, .ref a5, .ref a6, .ref a7, .ref a8, .ref a9, .ref a10])), (a1, .inl (cI, 2048, .inl mem)), (a2, .inl (cI, 32, .inl un)), (a5, .inl (cI, 4, .inl (tu_put4 fd (md_ch mem a f (md_T ga gb n x y) 0) (md_ch mem a f (md_T ga gb n x y) 1) (md_ch mem a f (md_T ga gb n x y) 2) (md_ch mem a f (md_T ga gb n x y) 3)))), (a9, .inl (cI, 4, .inl f_15)), (a10, .inl (cI, 4, .inl s_16))] := hD.sub [0, 1, 2, 3, 4, 5] (by decide) rfl
  have hK9 : va_K (dC, dI) vwCl [(cI, .int)] s := hK.sub [0] rfl
  exact W.iret (v := (md_ch mem a f (md_T ga gb n x y) c9)) hx hb hr (fun t ht hW => ⟨⟨(md_ch mem a f (md_T ga gb n x y) c9), (), rfl, rfl, (tu_put4 fd (md_ch mem a f (md_T ga gb n x y) 0) (md_ch mem a f (md_T ga gb n x y) 1) (md_ch mem a f (md_T ga gb n x y) 2) (md_ch mem a f (md_T ga gb n x y) 3)), f_15, s_16, by rw [ht]; exact hP9, va_K.moved hW.alike hK9, hD9⟩, hS.F ht⟩) hS.2.2 dX2_texel_148
