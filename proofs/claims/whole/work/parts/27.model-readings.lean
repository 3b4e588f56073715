/-! the reference's readings -/
def md_lod (lv l : Int32) : Int32 := if 0 ≤ l then (if l ≤ 65536 * (lv - 1) then l else 65536 * (lv - 1)) else 0
def md_lvl (mem un bo : Nat → Int32) (j a f ga gb fi n : Nat) (s t : Int32) (c : Nat) : Int32 := if fi % 2 = 1 then md_four mem un bo j a f ga gb n s t c else md_one mem un bo j a f ga gb n s t c
def md_rdv (mem un bo : Nat → Int32) (j a f ga gb fi lv n : Nat) (s t L : Int32) (c : Nat) : Int32 := if 1 < fi ∧ n + 1 < lv then tu_mix (md_lvl mem un bo j a f ga gb fi n s t c) (md_lvl mem un bo j a f ga gb fi (n + 1) s t c) (L &&& 65535) else md_lvl mem un bo j a f ga gb fi n s t c
theorem md_rdv_y {mem un bo : Nat → Int32} {j a f ga gb fi lv n : Nat} {s t L : Int32} {c : Nat} (h1 : 1 < fi) (h2 : n + 1 < lv) : md_rdv mem un bo j a f ga gb fi lv n s t L c = tu_mix (md_lvl mem un bo j a f ga gb fi n s t c) (md_lvl mem un bo j a f ga gb fi (n + 1) s t c) (L &&& 65535) := if_pos ⟨h1, h2⟩
theorem md_rdv_n {mem un bo : Nat → Int32} {j a f ga gb fi lv n : Nat} {s t L : Int32} {c : Nat} (h : ¬ (1 < fi ∧ n + 1 < lv)) : md_rdv mem un bo j a f ga gb fi lv n s t L c = md_lvl mem un bo j a f ga gb fi n s t c := if_neg h
theorem md_unit {j : Nat} (hj : j < 4) : ¬ tu_win (nI j) 0 3 = 0 := by
  have h : ∀ j, j < 4 → ¬ tu_win (nI j) 0 3 = 0 := by decide +kernel
  exact h j hj
theorem tu_put4_at (f g : Nat → Int32) {c : Nat} (hc : c < 4) : tu_put4 f (g 0) (g 1) (g 2) (g 3) c = g c := by
  rcases (show c = 0 ∨ c = 1 ∨ c = 2 ∨ c = 3 by omega) with rfl | rfl | rfl | rfl <;> simp [tu_put4, upd]
theorem md_unit1 {j : Nat} (hj : j < 4) : tu_win (nI j) 0 3 = 1 := by
  have h : ∀ j, j < 4 → tu_win (nI j) 0 3 = 1 := by decide +kernel
  exact h j hj
theorem md_lvl_f {mem un bo : Nat → Int32} {j a f ga gb fi n : Nat} {s t : Int32} {c : Nat} (h : fi % 2 = 1) : md_lvl mem un bo j a f ga gb fi n s t c = md_four mem un bo j a f ga gb n s t c := if_pos h
theorem md_lvl_o {mem un bo : Nat → Int32} {j a f ga gb fi n : Nat} {s t : Int32} {c : Nat} (h : ¬ fi % 2 = 1) : md_lvl mem un bo j a f ga gb fi n s t c = md_one mem un bo j a f ga gb n s t c := if_neg h
