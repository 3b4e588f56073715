set_option maxHeartbeats 4000000 in
set_option maxRecDepth 100000 in
theorem st_poke {p : Program} {l : Launch} {e : Env} {s : State} {m : MethodId} {below : List Frame} {meth : Method} {c : Code} {dC : Nat → ClassId} {dI : Nat → Nat → Nat} {b L : Nat} {xs : Nat → Int32} (hst : l.stackTraces = false) (C0 : lw_At p s m meth c b L xs) {ad : Nat → Nat} {cI cU cJ : ClassId} {g : Nat → Option Nat} {tb : Nat × Nat × Nat} (hg9 : ∀ j, j < 4 → g j = some (ad (5 + 3 * j))) (hK : va_K (dC, dI) vwCl [(cI, .int), (cU, .object "TextureUnits$Unit"), (cJ, .long)] s) (hX9 : tb_T tb (fun q : Nat => s.heap.size ≤ q) s s.heap) (hE : ex_E (fun q : Nat => s.heap.size ≤ q) s s.heap) (hL : L ≤ 3584) {i : Nat} (hi : i + 7 ≤ L) {cells slots : Nat} (hc : cells + 1 ≤ room_1.cells) (hs : slots + 6 ≤ room_1.slots)
    (K9 : ∀ (mem un lat nxt : Nat → Int32) (B S : Nat → Nat → Int32) (th : Int32) (bo lt : Nat → Int32) (sc : Nat → Nat → Int32) (of : Nat → Int64), lI un bo lat lt B S → ∀ (H : Heap) (locs : List Loc), va_P (dC, dI) vwCl (lW ad cI cU cJ g mem un lat nxt B S th mem un bo lt sc of) H → va_D (fun q : Nat => s.heap.size ≤ q) (lW ad cI cU cJ g mem un lat nxt B S th mem un bo lt sc of) → va_S (fun q : Nat => s.heap.size ≤ q) s.heap H locs → ∀ (ls : Array Slot), lv_has ls 7 [(0, .ref b), (1, .ref (ad 0)), (2, .ref (ad 17)), (3, .ref (ad 28)), (4, .int (nI i))] → W p l e room_1 s m #[Value.ref b] below meth c H locs (cells + 1) (slots + 6) (lw_Z below #[Value.ref b] s) (F0 m 698 ls []))
    {mem un lat nxt : Nat → Int32} {B S : Nat → Nat → Int32} {th : Int32} {bo lt : Nat → Int32} {sc : Nat → Nat → Int32} {of : Nat → Int64} (hI : lI un bo lat lt B S) {H : Heap} {locs : List Loc} (hP : va_P (dC, dI) vwCl (lW ad cI cU cJ g mem un lat nxt B S th mem un bo lt sc of) H) (hD : va_D (fun q : Nat => s.heap.size ≤ q) (lW ad cI cU cJ g mem un lat nxt B S th mem un bo lt sc of)) (hS : va_S (fun q : Nat => s.heap.size ≤ q) s.heap H locs) {ls : Array Slot} (hl : lv_has ls 7 [(0, .ref b), (1, .ref (ad 0)), (2, .ref (ad 17)), (3, .ref (ad 28)), (4, .int (nI i))]) : W p l e room_1 s m #[Value.ref b] below meth c H locs cells slots (lw_Z below #[Value.ref b] s) (F0 m 88 ls []) := by
  obtain ⟨hx, hb, hr, hml, hown, hts0, hX, hbl, hlocks, hgv⟩ := id C0
  have hts := lw_hts hts0
  have hA : ∀ q : Nat, s.heap.size ≤ q → (fun q : Nat => s.heap.size ≤ q) q := fun _ h => h
  have hbA : ¬ (fun q : Nat => s.heap.size ≤ q) b := Nat.not_le.mpr hbl
  by_cases h0 : tu_win (xs (i + 1)) 0 2047 = 0
  · exact st_poke_1 hst C0 hg9 hK hX9 hE hL hi hc hs K9 hI hP hD hS hl h0
  · exact st_poke_0 hst C0 hg9 hK hX9 hE hL hi hc hs K9 hI hP hD hS hl h0

set_option maxHeartbeats 4000000 in
set_option maxRecDepth 100000 in
theorem st_also {p : Program} {l : Launch} {e : Env} {s : State} {m : MethodId} {below : List Frame} {meth : Method} {c : Code} {dC : Nat → ClassId} {dI : Nat → Nat → Nat} {b L : Nat} {xs : Nat → Int32} (hst : l.stackTraces = false) (C0 : lw_At p s m meth c b L xs) {ad : Nat → Nat} {cI cU cJ : ClassId} {g : Nat → Option Nat} {tb : Nat × Nat × Nat} (hg9 : ∀ j, j < 4 → g j = some (ad (5 + 3 * j))) (hK : va_K (dC, dI) vwCl [(cI, .int), (cU, .object "TextureUnits$Unit"), (cJ, .long)] s) (hX9 : tb_T tb (fun q : Nat => s.heap.size ≤ q) s s.heap) (hE : ex_E (fun q : Nat => s.heap.size ≤ q) s s.heap) (hL : L ≤ 3584) {i : Nat} (hi : i + 7 ≤ L) {cells slots : Nat} (hc : cells + 1 ≤ room_1.cells) (hs : slots + 6 ≤ room_1.slots)
    (K9 : ∀ (mem un lat nxt : Nat → Int32) (B S : Nat → Nat → Int32) (th : Int32) (bo lt : Nat → Int32) (sc : Nat → Nat → Int32) (of : Nat → Int64), lI un bo lat lt B S → ∀ (H : Heap) (locs : List Loc), va_P (dC, dI) vwCl (lW ad cI cU cJ g mem un lat nxt B S th mem un bo lt sc of) H → va_D (fun q : Nat => s.heap.size ≤ q) (lW ad cI cU cJ g mem un lat nxt B S th mem un bo lt sc of) → va_S (fun q : Nat => s.heap.size ≤ q) s.heap H locs → ∀ (ls : Array Slot), lv_has ls 7 [(0, .ref b), (1, .ref (ad 0)), (2, .ref (ad 17)), (3, .ref (ad 28)), (4, .int (nI i))] → W p l e room_1 s m #[Value.ref b] below meth c H locs (cells + 1) (slots + 6) (lw_Z below #[Value.ref b] s) (F0 m 698 ls []))
    {mem un lat nxt : Nat → Int32} {B S : Nat → Nat → Int32} {th : Int32} {bo lt : Nat → Int32} {sc : Nat → Nat → Int32} {of : Nat → Int64} (hI : lI un bo lat lt B S) {H : Heap} {locs : List Loc} (hP : va_P (dC, dI) vwCl (lW ad cI cU cJ g mem un lat nxt B S th mem un bo lt sc of) H) (hD : va_D (fun q : Nat => s.heap.size ≤ q) (lW ad cI cU cJ g mem un lat nxt B S th mem un bo lt sc of)) (hS : va_S (fun q : Nat => s.heap.size ≤ q) s.heap H locs) {ls : Array Slot} (hl : lv_has ls 7 [(0, .ref b), (1, .ref (ad 0)), (2, .ref (ad 17)), (3, .ref (ad 28)), (4, .int (nI i))]) : W p l e room_1 s m #[Value.ref b] below meth c H locs cells slots (lw_Z below #[Value.ref b] s) (F0 m 642 ls []) := by
  obtain ⟨hx, hb, hr, hml, hown, hts0, hX, hbl, hlocks, hgv⟩ := id C0
  have hts := lw_hts hts0
  have hA : ∀ q : Nat, s.heap.size ≤ q → (fun q : Nat => s.heap.size ≤ q) q := fun _ h => h
  have hbA : ¬ (fun q : Nat => s.heap.size ≤ q) b := Nat.not_le.mpr hbl
  by_cases h0 : tu_win (xs (i + 1)) 0 3 = 0
  · exact st_also_1 hst C0 hg9 hK hX9 hE hL hi hc hs K9 hI hP hD hS hl h0
  · exact st_also_0 hst C0 hg9 hK hX9 hE hL hi hc hs K9 hI hP hD hS hl h0

set_option maxHeartbeats 4000000 in
set_option maxRecDepth 100000 in
theorem st_picture {p : Program} {l : Launch} {e : Env} {s : State} {m : MethodId} {below : List Frame} {meth : Method} {c : Code} {dC : Nat → ClassId} {dI : Nat → Nat → Nat} {b L : Nat} {xs : Nat → Int32} (hst : l.stackTraces = false) (C0 : lw_At p s m meth c b L xs) {ad : Nat → Nat} {cI cU cJ : ClassId} {g : Nat → Option Nat} {tb : Nat × Nat × Nat} (hg9 : ∀ j, j < 4 → g j = some (ad (5 + 3 * j))) (hK : va_K (dC, dI) vwCl [(cI, .int), (cU, .object "TextureUnits$Unit"), (cJ, .long)] s) (hX9 : tb_T tb (fun q : Nat => s.heap.size ≤ q) s s.heap) (hE : ex_E (fun q : Nat => s.heap.size ≤ q) s s.heap) (hL : L ≤ 3584) {i : Nat} (hi : i + 7 ≤ L) {cells slots : Nat} (hc : cells + 1 ≤ room_1.cells) (hs : slots + 6 ≤ room_1.slots)
    (K9 : ∀ (mem un lat nxt : Nat → Int32) (B S : Nat → Nat → Int32) (th : Int32) (bo lt : Nat → Int32) (sc : Nat → Nat → Int32) (of : Nat → Int64), lI un bo lat lt B S → ∀ (H : Heap) (locs : List Loc), va_P (dC, dI) vwCl (lW ad cI cU cJ g mem un lat nxt B S th mem un bo lt sc of) H → va_D (fun q : Nat => s.heap.size ≤ q) (lW ad cI cU cJ g mem un lat nxt B S th mem un bo lt sc of) → va_S (fun q : Nat => s.heap.size ≤ q) s.heap H locs → ∀ (ls : Array Slot), lv_has ls 7 [(0, .ref b), (1, .ref (ad 0)), (2, .ref (ad 17)), (3, .ref (ad 28)), (4, .int (nI i))] → W p l e room_1 s m #[Value.ref b] below meth c H locs (cells + 1) (slots + 6) (lw_Z below #[Value.ref b] s) (F0 m 698 ls []))
    {mem un lat nxt : Nat → Int32} {B S : Nat → Nat → Int32} {th : Int32} {bo lt : Nat → Int32} {sc : Nat → Nat → Int32} {of : Nat → Int64} (hI : lI un bo lat lt B S) {H : Heap} {locs : List Loc} (hP : va_P (dC, dI) vwCl (lW ad cI cU cJ g mem un lat nxt B S th mem un bo lt sc of) H) (hD : va_D (fun q : Nat => s.heap.size ≤ q) (lW ad cI cU cJ g mem un lat nxt B S th mem un bo lt sc of)) (hS : va_S (fun q : Nat => s.heap.size ≤ q) s.heap H locs) {ls : Array Slot} (hl : lv_has ls 7 [(0, .ref b), (1, .ref (ad 0)), (2, .ref (ad 17)), (3, .ref (ad 28)), (4, .int (nI i))]) : W p l e room_1 s m #[Value.ref b] below meth c H locs cells slots (lw_Z below #[Value.ref b] s) (F0 m 136 ls []) := by
  obtain ⟨hx, hb, hr, hml, hown, hts0, hX, hbl, hlocks, hgv⟩ := id C0
  have hts := lw_hts hts0
  have hA : ∀ q : Nat, s.heap.size ≤ q → (fun q : Nat => s.heap.size ≤ q) q := fun _ h => h
  have hbA : ¬ (fun q : Nat => s.heap.size ≤ q) b := Nat.not_le.mpr hbl
  by_cases h0 : tu_win (xs (i + 1)) 0 3 = 0
  · exact st_picture_1 hst C0 hg9 hK hX9 hE hL hi hc hs K9 hI hP hD hS hl h0
  · obtain ⟨j, hj, ej⟩ := win_j h0
    by_cases hv : 0 ≤ (xs (i + 2)) ∧ ¬ tu_win (xs (i + 3)) 0 10 = 0 ∧ ¬ tu_win (xs (i + 4)) 0 10 = 0 ∧ ¬ tu_win (xs (i + 5)) 1 11 = 0 ∧ ¬ tu_win (xs (i + 6)) 0 7 = 0
    · rcases (show j = 0 ∨ j = 1 ∨ j = 2 ∨ j = 3 by omega) with rfl | rfl | rfl | rfl
      · exact st_picture_0_0 hst C0 hg9 hK hX9 hE hL hi hc hs K9 hI hP hD hS hl ej hv
      · exact st_picture_0_1 hst C0 hg9 hK hX9 hE hL hi hc hs K9 hI hP hD hS hl ej hv
      · exact st_picture_0_2 hst C0 hg9 hK hX9 hE hL hi hc hs K9 hI hP hD hS hl ej hv
      · exact st_picture_0_3 hst C0 hg9 hK hX9 hE hL hi hc hs K9 hI hP hD hS hl ej hv
    · exact st_picture_2 hst C0 hg9 hK hX9 hE hL hi hc hs K9 hI hP hD hS hl hj ej hv

set_option maxHeartbeats 4000000 in
set_option maxRecDepth 100000 in
theorem st_manner {p : Program} {l : Launch} {e : Env} {s : State} {m : MethodId} {below : List Frame} {meth : Method} {c : Code} {dC : Nat → ClassId} {dI : Nat → Nat → Nat} {b L : Nat} {xs : Nat → Int32} (hst : l.stackTraces = false) (C0 : lw_At p s m meth c b L xs) {ad : Nat → Nat} {cI cU cJ : ClassId} {g : Nat → Option Nat} {tb : Nat × Nat × Nat} (hg9 : ∀ j, j < 4 → g j = some (ad (5 + 3 * j))) (hK : va_K (dC, dI) vwCl [(cI, .int), (cU, .object "TextureUnits$Unit"), (cJ, .long)] s) (hX9 : tb_T tb (fun q : Nat => s.heap.size ≤ q) s s.heap) (hE : ex_E (fun q : Nat => s.heap.size ≤ q) s s.heap) (hL : L ≤ 3584) {i : Nat} (hi : i + 7 ≤ L) {cells slots : Nat} (hc : cells + 1 ≤ room_1.cells) (hs : slots + 6 ≤ room_1.slots)
    (K9 : ∀ (mem un lat nxt : Nat → Int32) (B S : Nat → Nat → Int32) (th : Int32) (bo lt : Nat → Int32) (sc : Nat → Nat → Int32) (of : Nat → Int64), lI un bo lat lt B S → ∀ (H : Heap) (locs : List Loc), va_P (dC, dI) vwCl (lW ad cI cU cJ g mem un lat nxt B S th mem un bo lt sc of) H → va_D (fun q : Nat => s.heap.size ≤ q) (lW ad cI cU cJ g mem un lat nxt B S th mem un bo lt sc of) → va_S (fun q : Nat => s.heap.size ≤ q) s.heap H locs → ∀ (ls : Array Slot), lv_has ls 7 [(0, .ref b), (1, .ref (ad 0)), (2, .ref (ad 17)), (3, .ref (ad 28)), (4, .int (nI i))] → W p l e room_1 s m #[Value.ref b] below meth c H locs (cells + 1) (slots + 6) (lw_Z below #[Value.ref b] s) (F0 m 698 ls []))
    {mem un lat nxt : Nat → Int32} {B S : Nat → Nat → Int32} {th : Int32} {bo lt : Nat → Int32} {sc : Nat → Nat → Int32} {of : Nat → Int64} (hI : lI un bo lat lt B S) {H : Heap} {locs : List Loc} (hP : va_P (dC, dI) vwCl (lW ad cI cU cJ g mem un lat nxt B S th mem un bo lt sc of) H) (hD : va_D (fun q : Nat => s.heap.size ≤ q) (lW ad cI cU cJ g mem un lat nxt B S th mem un bo lt sc of)) (hS : va_S (fun q : Nat => s.heap.size ≤ q) s.heap H locs) {ls : Array Slot} (hl : lv_has ls 7 [(0, .ref b), (1, .ref (ad 0)), (2, .ref (ad 17)), (3, .ref (ad 28)), (4, .int (nI i))]) : W p l e room_1 s m #[Value.ref b] below meth c H locs cells slots (lw_Z below #[Value.ref b] s) (F0 m 234 ls []) := by
  obtain ⟨hx, hb, hr, hml, hown, hts0, hX, hbl, hlocks, hgv⟩ := id C0
  have hts := lw_hts hts0
  have hA : ∀ q : Nat, s.heap.size ≤ q → (fun q : Nat => s.heap.size ≤ q) q := fun _ h => h
  have hbA : ¬ (fun q : Nat => s.heap.size ≤ q) b := Nat.not_le.mpr hbl
  by_cases h0 : tu_win (xs (i + 1)) 0 3 = 0
  · exact st_manner_1 hst C0 hg9 hK hX9 hE hL hi hc hs K9 hI hP hD hS hl h0
  · obtain ⟨j, hj, ej⟩ := win_j h0
    by_cases hv : ¬ tu_win (xs (i + 2)) 0 3 = 0 ∧ ¬ tu_win (xs (i + 3)) 0 3 = 0 ∧ ¬ tu_win (xs (i + 4)) 0 3 = 0
    · rcases (show j = 0 ∨ j = 1 ∨ j = 2 ∨ j = 3 by omega) with rfl | rfl | rfl | rfl
      · exact st_manner_0_0 hst C0 hg9 hK hX9 hE hL hi hc hs K9 hI hP hD hS hl ej hv
      · exact st_manner_0_1 hst C0 hg9 hK hX9 hE hL hi hc hs K9 hI hP hD hS hl ej hv
      · exact st_manner_0_2 hst C0 hg9 hK hX9 hE hL hi hc hs K9 hI hP hD hS hl ej hv
      · exact st_manner_0_3 hst C0 hg9 hK hX9 hE hL hi hc hs K9 hI hP hD hS hl ej hv
    · exact st_manner_2 hst C0 hg9 hK hX9 hE hL hi hc hs K9 hI hP hD hS hl hj ej hv

set_option maxHeartbeats 4000000 in
set_option maxRecDepth 100000 in
theorem st_border {p : Program} {l : Launch} {e : Env} {s : State} {m : MethodId} {below : List Frame} {meth : Method} {c : Code} {dC : Nat → ClassId} {dI : Nat → Nat → Nat} {b L : Nat} {xs : Nat → Int32} (hst : l.stackTraces = false) (C0 : lw_At p s m meth c b L xs) {ad : Nat → Nat} {cI cU cJ : ClassId} {g : Nat → Option Nat} {tb : Nat × Nat × Nat} (hg9 : ∀ j, j < 4 → g j = some (ad (5 + 3 * j))) (hK : va_K (dC, dI) vwCl [(cI, .int), (cU, .object "TextureUnits$Unit"), (cJ, .long)] s) (hX9 : tb_T tb (fun q : Nat => s.heap.size ≤ q) s s.heap) (hE : ex_E (fun q : Nat => s.heap.size ≤ q) s s.heap) (hL : L ≤ 3584) {i : Nat} (hi : i + 7 ≤ L) {cells slots : Nat} (hc : cells + 1 ≤ room_1.cells) (hs : slots + 6 ≤ room_1.slots)
    (K9 : ∀ (mem un lat nxt : Nat → Int32) (B S : Nat → Nat → Int32) (th : Int32) (bo lt : Nat → Int32) (sc : Nat → Nat → Int32) (of : Nat → Int64), lI un bo lat lt B S → ∀ (H : Heap) (locs : List Loc), va_P (dC, dI) vwCl (lW ad cI cU cJ g mem un lat nxt B S th mem un bo lt sc of) H → va_D (fun q : Nat => s.heap.size ≤ q) (lW ad cI cU cJ g mem un lat nxt B S th mem un bo lt sc of) → va_S (fun q : Nat => s.heap.size ≤ q) s.heap H locs → ∀ (ls : Array Slot), lv_has ls 7 [(0, .ref b), (1, .ref (ad 0)), (2, .ref (ad 17)), (3, .ref (ad 28)), (4, .int (nI i))] → W p l e room_1 s m #[Value.ref b] below meth c H locs (cells + 1) (slots + 6) (lw_Z below #[Value.ref b] s) (F0 m 698 ls []))
    {mem un lat nxt : Nat → Int32} {B S : Nat → Nat → Int32} {th : Int32} {bo lt : Nat → Int32} {sc : Nat → Nat → Int32} {of : Nat → Int64} (hI : lI un bo lat lt B S) {H : Heap} {locs : List Loc} (hP : va_P (dC, dI) vwCl (lW ad cI cU cJ g mem un lat nxt B S th mem un bo lt sc of) H) (hD : va_D (fun q : Nat => s.heap.size ≤ q) (lW ad cI cU cJ g mem un lat nxt B S th mem un bo lt sc of)) (hS : va_S (fun q : Nat => s.heap.size ≤ q) s.heap H locs) {ls : Array Slot} (hl : lv_has ls 7 [(0, .ref b), (1, .ref (ad 0)), (2, .ref (ad 17)), (3, .ref (ad 28)), (4, .int (nI i))]) : W p l e room_1 s m #[Value.ref b] below meth c H locs cells slots (lw_Z below #[Value.ref b] s) (F0 m 306 ls []) := by
  obtain ⟨hx, hb, hr, hml, hown, hts0, hX, hbl, hlocks, hgv⟩ := id C0
  have hts := lw_hts hts0
  have hA : ∀ q : Nat, s.heap.size ≤ q → (fun q : Nat => s.heap.size ≤ q) q := fun _ h => h
  have hbA : ¬ (fun q : Nat => s.heap.size ≤ q) b := Nat.not_le.mpr hbl
  by_cases h0 : tu_win (xs (i + 1)) 0 3 = 0
  · exact st_border_1 hst C0 hg9 hK hX9 hE hL hi hc hs K9 hI hP hD hS hl h0
  · obtain ⟨j, hj, ej⟩ := win_j h0
    rcases (show j = 0 ∨ j = 1 ∨ j = 2 ∨ j = 3 by omega) with rfl | rfl | rfl | rfl
    · exact st_border_0_0 hst C0 hg9 hK hX9 hE hL hi hc hs K9 hI hP hD hS hl ej
    · exact st_border_0_1 hst C0 hg9 hK hX9 hE hL hi hc hs K9 hI hP hD hS hl ej
    · exact st_border_0_2 hst C0 hg9 hK hX9 hE hL hi hc hs K9 hI hP hD hS hl ej
    · exact st_border_0_3 hst C0 hg9 hK hX9 hE hL hi hc hs K9 hI hP hD hS hl ej

set_option maxHeartbeats 4000000 in
set_option maxRecDepth 100000 in
theorem st_texels {p : Program} {l : Launch} {e : Env} {s : State} {m : MethodId} {below : List Frame} {meth : Method} {c : Code} {dC : Nat → ClassId} {dI : Nat → Nat → Nat} {b L : Nat} {xs : Nat → Int32} (hst : l.stackTraces = false) (C0 : lw_At p s m meth c b L xs) {ad : Nat → Nat} {cI cU cJ : ClassId} {g : Nat → Option Nat} {tb : Nat × Nat × Nat} (hg9 : ∀ j, j < 4 → g j = some (ad (5 + 3 * j))) (hK : va_K (dC, dI) vwCl [(cI, .int), (cU, .object "TextureUnits$Unit"), (cJ, .long)] s) (hX9 : tb_T tb (fun q : Nat => s.heap.size ≤ q) s s.heap) (hE : ex_E (fun q : Nat => s.heap.size ≤ q) s s.heap) (hL : L ≤ 3584) {i : Nat} (hi : i + 7 ≤ L) {cells slots : Nat} (hc : cells + 1 ≤ room_1.cells) (hs : slots + 6 ≤ room_1.slots)
    (K9 : ∀ (mem un lat nxt : Nat → Int32) (B S : Nat → Nat → Int32) (th : Int32) (bo lt : Nat → Int32) (sc : Nat → Nat → Int32) (of : Nat → Int64), lI un bo lat lt B S → ∀ (H : Heap) (locs : List Loc), va_P (dC, dI) vwCl (lW ad cI cU cJ g mem un lat nxt B S th mem un bo lt sc of) H → va_D (fun q : Nat => s.heap.size ≤ q) (lW ad cI cU cJ g mem un lat nxt B S th mem un bo lt sc of) → va_S (fun q : Nat => s.heap.size ≤ q) s.heap H locs → ∀ (ls : Array Slot), lv_has ls 7 [(0, .ref b), (1, .ref (ad 0)), (2, .ref (ad 17)), (3, .ref (ad 28)), (4, .int (nI i))] → W p l e room_1 s m #[Value.ref b] below meth c H locs (cells + 1) (slots + 6) (lw_Z below #[Value.ref b] s) (F0 m 698 ls []))
    {mem un lat nxt : Nat → Int32} {B S : Nat → Nat → Int32} {th : Int32} {bo lt : Nat → Int32} {sc : Nat → Nat → Int32} {of : Nat → Int64} (hI : lI un bo lat lt B S) {H : Heap} {locs : List Loc} (hP : va_P (dC, dI) vwCl (lW ad cI cU cJ g mem un lat nxt B S th mem un bo lt sc of) H) (hD : va_D (fun q : Nat => s.heap.size ≤ q) (lW ad cI cU cJ g mem un lat nxt B S th mem un bo lt sc of)) (hS : va_S (fun q : Nat => s.heap.size ≤ q) s.heap H locs) {ls : Array Slot} (hl : lv_has ls 7 [(0, .ref b), (1, .ref (ad 0)), (2, .ref (ad 17)), (3, .ref (ad 28)), (4, .int (nI i))]) : W p l e room_1 s m #[Value.ref b] below meth c H locs cells slots (lw_Z below #[Value.ref b] s) (F0 m 494 ls []) := by
  obtain ⟨hx, hb, hr, hml, hown, hts0, hX, hbl, hlocks, hgv⟩ := id C0
  have hts := lw_hts hts0
  have hA : ∀ q : Nat, s.heap.size ≤ q → (fun q : Nat => s.heap.size ≤ q) q := fun _ h => h
  have hbA : ¬ (fun q : Nat => s.heap.size ≤ q) b := Nat.not_le.mpr hbl
  by_cases h0 : tu_win (xs (i + 1)) 0 3 = 0
  · exact st_texels_1 hst C0 hg9 hK hX9 hE hL hi hc hs K9 hI hP hD hS hl h0
  · obtain ⟨j, hj, ej⟩ := win_j h0
    rcases (show j = 0 ∨ j = 1 ∨ j = 2 ∨ j = 3 by omega) with rfl | rfl | rfl | rfl
    · exact st_texels_0_0 hst C0 hg9 hK hX9 hE hL hi hc hs K9 hI hP hD hS hl ej
    · exact st_texels_0_1 hst C0 hg9 hK hX9 hE hL hi hc hs K9 hI hP hD hS hl ej
    · exact st_texels_0_2 hst C0 hg9 hK hX9 hE hL hi hc hs K9 hI hP hD hS hl ej
    · exact st_texels_0_3 hst C0 hg9 hK hX9 hE hL hi hc hs K9 hI hP hD hS hl ej

set_option maxHeartbeats 4000000 in
set_option maxRecDepth 100000 in
theorem st_read {p : Program} {l : Launch} {e : Env} {s : State} {m : MethodId} {below : List Frame} {meth : Method} {c : Code} {dC : Nat → ClassId} {dI : Nat → Nat → Nat} {b L : Nat} {xs : Nat → Int32} (hst : l.stackTraces = false) (C0 : lw_At p s m meth c b L xs) {ad : Nat → Nat} {cI cU cJ : ClassId} {g : Nat → Option Nat} {tb : Nat × Nat × Nat} (hg9 : ∀ j, j < 4 → g j = some (ad (5 + 3 * j))) (hK : va_K (dC, dI) vwCl [(cI, .int), (cU, .object "TextureUnits$Unit"), (cJ, .long)] s) (hX9 : tb_T tb (fun q : Nat => s.heap.size ≤ q) s s.heap) (hE : ex_E (fun q : Nat => s.heap.size ≤ q) s s.heap) (hL : L ≤ 3584) {i : Nat} (hi : i + 7 ≤ L) {cells slots : Nat} (hc : cells + 1 ≤ room_1.cells) (hs : slots + 6 ≤ room_1.slots)
    (K9 : ∀ (mem un lat nxt : Nat → Int32) (B S : Nat → Nat → Int32) (th : Int32) (bo lt : Nat → Int32) (sc : Nat → Nat → Int32) (of : Nat → Int64), lI un bo lat lt B S → ∀ (H : Heap) (locs : List Loc), va_P (dC, dI) vwCl (lW ad cI cU cJ g mem un lat nxt B S th mem un bo lt sc of) H → va_D (fun q : Nat => s.heap.size ≤ q) (lW ad cI cU cJ g mem un lat nxt B S th mem un bo lt sc of) → va_S (fun q : Nat => s.heap.size ≤ q) s.heap H locs → ∀ (ls : Array Slot), lv_has ls 7 [(0, .ref b), (1, .ref (ad 0)), (2, .ref (ad 17)), (3, .ref (ad 28)), (4, .int (nI i))] → W p l e room_1 s m #[Value.ref b] below meth c H locs (cells + 1) (slots + 6) (lw_Z below #[Value.ref b] s) (F0 m 698 ls []))
    {mem un lat nxt : Nat → Int32} {B S : Nat → Nat → Int32} {th : Int32} {bo lt : Nat → Int32} {sc : Nat → Nat → Int32} {of : Nat → Int64} (hI : lI un bo lat lt B S) {H : Heap} {locs : List Loc} (hP : va_P (dC, dI) vwCl (lW ad cI cU cJ g mem un lat nxt B S th mem un bo lt sc of) H) (hD : va_D (fun q : Nat => s.heap.size ≤ q) (lW ad cI cU cJ g mem un lat nxt B S th mem un bo lt sc of)) (hS : va_S (fun q : Nat => s.heap.size ≤ q) s.heap H locs) {ls : Array Slot} (hl : lv_has ls 7 [(0, .ref b), (1, .ref (ad 0)), (2, .ref (ad 17)), (3, .ref (ad 28)), (4, .int (nI i))]) : W p l e room_1 s m #[Value.ref b] below meth c H locs cells slots (lw_Z below #[Value.ref b] s) (F0 m 550 ls []) := by
  obtain ⟨hx, hb, hr, hml, hown, hts0, hX, hbl, hlocks, hgv⟩ := id C0
  have hts := lw_hts hts0
  have hA : ∀ q : Nat, s.heap.size ≤ q → (fun q : Nat => s.heap.size ≤ q) q := fun _ h => h
  have hbA : ¬ (fun q : Nat => s.heap.size ≤ q) b := Nat.not_le.mpr hbl
  by_cases h0 : tu_win (xs (i + 1)) 0 3 = 0
  · exact st_read_1 hst C0 hg9 hK hX9 hE hL hi hc hs K9 hI hP hD hS hl h0
  · obtain ⟨j, hj, ej⟩ := win_j h0
    rcases (show j = 0 ∨ j = 1 ∨ j = 2 ∨ j = 3 by omega) with rfl | rfl | rfl | rfl
    · exact st_read_0_0 hst C0 hg9 hK hX9 hE hL hi hc hs K9 hI hP hD hS hl ej
    · exact st_read_0_1 hst C0 hg9 hK hX9 hE hL hi hc hs K9 hI hP hD hS hl ej
    · exact st_read_0_2 hst C0 hg9 hK hX9 hE hL hi hc hs K9 hI hP hD hS hl ej
    · exact st_read_0_3 hst C0 hg9 hK hX9 hE hL hi hc hs K9 hI hP hD hS hl ej

set_option maxHeartbeats 4000000 in
set_option maxRecDepth 100000 in
theorem st_texel {p : Program} {l : Launch} {e : Env} {s : State} {m : MethodId} {below : List Frame} {meth : Method} {c : Code} {dC : Nat → ClassId} {dI : Nat → Nat → Nat} {b L : Nat} {xs : Nat → Int32} (hst : l.stackTraces = false) (C0 : lw_At p s m meth c b L xs) {ad : Nat → Nat} {cI cU cJ : ClassId} {g : Nat → Option Nat} {tb : Nat × Nat × Nat} (hg9 : ∀ j, j < 4 → g j = some (ad (5 + 3 * j))) (hK : va_K (dC, dI) vwCl [(cI, .int), (cU, .object "TextureUnits$Unit"), (cJ, .long)] s) (hX9 : tb_T tb (fun q : Nat => s.heap.size ≤ q) s s.heap) (hE : ex_E (fun q : Nat => s.heap.size ≤ q) s s.heap) (hL : L ≤ 3584) {i : Nat} (hi : i + 7 ≤ L) {cells slots : Nat} (hc : cells + 1 ≤ room_1.cells) (hs : slots + 6 ≤ room_1.slots)
    (K9 : ∀ (mem un lat nxt : Nat → Int32) (B S : Nat → Nat → Int32) (th : Int32) (bo lt : Nat → Int32) (sc : Nat → Nat → Int32) (of : Nat → Int64), lI un bo lat lt B S → ∀ (H : Heap) (locs : List Loc), va_P (dC, dI) vwCl (lW ad cI cU cJ g mem un lat nxt B S th mem un bo lt sc of) H → va_D (fun q : Nat => s.heap.size ≤ q) (lW ad cI cU cJ g mem un lat nxt B S th mem un bo lt sc of) → va_S (fun q : Nat => s.heap.size ≤ q) s.heap H locs → ∀ (ls : Array Slot), lv_has ls 7 [(0, .ref b), (1, .ref (ad 0)), (2, .ref (ad 17)), (3, .ref (ad 28)), (4, .int (nI i))] → W p l e room_1 s m #[Value.ref b] below meth c H locs (cells + 1) (slots + 6) (lw_Z below #[Value.ref b] s) (F0 m 698 ls []))
    {mem un lat nxt : Nat → Int32} {B S : Nat → Nat → Int32} {th : Int32} {bo lt : Nat → Int32} {sc : Nat → Nat → Int32} {of : Nat → Int64} (hI : lI un bo lat lt B S) {H : Heap} {locs : List Loc} (hP : va_P (dC, dI) vwCl (lW ad cI cU cJ g mem un lat nxt B S th mem un bo lt sc of) H) (hD : va_D (fun q : Nat => s.heap.size ≤ q) (lW ad cI cU cJ g mem un lat nxt B S th mem un bo lt sc of)) (hS : va_S (fun q : Nat => s.heap.size ≤ q) s.heap H locs) {ls : Array Slot} (hl : lv_has ls 7 [(0, .ref b), (1, .ref (ad 0)), (2, .ref (ad 17)), (3, .ref (ad 28)), (4, .int (nI i))]) : W p l e room_1 s m #[Value.ref b] below meth c H locs cells slots (lw_Z below #[Value.ref b] s) (F0 m 390 ls []) := by
  obtain ⟨hx, hb, hr, hml, hown, hts0, hX, hbl, hlocks, hgv⟩ := id C0
  have hts := lw_hts hts0
  have hA : ∀ q : Nat, s.heap.size ≤ q → (fun q : Nat => s.heap.size ≤ q) q := fun _ h => h
  have hbA : ¬ (fun q : Nat => s.heap.size ≤ q) b := Nat.not_le.mpr hbl
  by_cases h0 : tu_win (xs (i + 1)) 0 3 = 0
  · exact st_texel_1 hst C0 hg9 hK hX9 hE hL hi hc hs K9 hI hP hD hS hl h0
  · obtain ⟨j, hj, ej⟩ := win_j h0
    obtain ⟨a, f, ga, gb, lv, ac, dn, fi, hu, hs9⟩ := hI.1 j hj
    by_cases hv : ¬ tu_win (xs (i + 2)) 0 (un (8 * j + 3) - 1) = 0 ∧ ¬ tu_win (xs (i + 3)) 0 (tu_len (un (8 * j + 1)) (xs (i + 2)) - 1) = 0 ∧ ¬ tu_win (xs (i + 4)) 0 (tu_len (un (8 * j + 2)) (xs (i + 2)) - 1) = 0 ∧ ¬ tu_win (xs (i + 5)) 0 3 = 0
    · obtain ⟨n, x, y, c9, ⟨en, hn⟩, ⟨ex9, hx9⟩, ⟨ey9, hy9⟩, ec9, hc9⟩ := tx_nat hu hv
      rw [en, ex9, ey9, ec9] at hv
      rcases (show j = 0 ∨ j = 1 ∨ j = 2 ∨ j = 3 by omega) with rfl | rfl | rfl | rfl
      · exact st_texel_0_0 hst C0 hg9 hK hX9 hE hL hi hc hs K9 hI hP hD hS hl ej en ex9 ey9 ec9 hn hx9 hy9 hc9 hv
      · exact st_texel_0_1 hst C0 hg9 hK hX9 hE hL hi hc hs K9 hI hP hD hS hl ej en ex9 ey9 ec9 hn hx9 hy9 hc9 hv
      · exact st_texel_0_2 hst C0 hg9 hK hX9 hE hL hi hc hs K9 hI hP hD hS hl ej en ex9 ey9 ec9 hn hx9 hy9 hc9 hv
      · exact st_texel_0_3 hst C0 hg9 hK hX9 hE hL hi hc hs K9 hI hP hD hS hl ej en ex9 ey9 ec9 hn hx9 hy9 hc9 hv
    · rcases (show j = 0 ∨ j = 1 ∨ j = 2 ∨ j = 3 by omega) with rfl | rfl | rfl | rfl
      · exact st_texel_2_0 hst C0 hg9 hK hX9 hE hL hi hc hs K9 hI hP hD hS hl ej hv
      · exact st_texel_2_1 hst C0 hg9 hK hX9 hE hL hi hc hs K9 hI hP hD hS hl ej hv
      · exact st_texel_2_2 hst C0 hg9 hK hX9 hE hL hi hc hs K9 hI hP hD hS hl ej hv
      · exact st_texel_2_3 hst C0 hg9 hK hX9 hE hL hi hc hs K9 hI hP hD hS hl ej hv
