/-- the words that callers and callees share: all of the tables' that stay good over a call -/
def bg_tbl : List Cond := lw_tbl.filter goodWord
theorem bg_mem {w : Cond} (i : Nat) (h : lw_tbl[i]? = some w) (hg : goodWord w = true) : w ∈ bg_tbl := List.mem_filter.mpr ⟨List.mem_of_getElem? h, hg⟩
theorem bg_good : ∀ w ∈ bg_tbl, (w.onTables && w.keeps) = true ∨ ∃ ty, w = .arrayClass ty := fun w h => good_of_word (List.mem_filter.mp h).2
theorem bg_in {w : Cond} (h : w ∈ bg_tbl) : w ∈ lw_tbl := (List.mem_filter.mp h).1
abbrev bg_cl : List vw_C := [(RX0, TX0, 9), (RX1, TX1, 5), (RX2, TX2, 6), (RX3, TX3, 12), (RX4, TX4, 9), (RX5, TX5, 6), (RX6, TX6, 23)]
theorem bg_w0 : ∀ w ∈ u_ws RX0 TX0 9, w ∈ bg_tbl := by decide +kernel
theorem bg_w1 : ∀ w ∈ u_ws RX1 TX1 5, w ∈ bg_tbl := by decide +kernel
theorem bg_w2 : ∀ w ∈ u_ws RX2 TX2 6, w ∈ bg_tbl := by decide +kernel
theorem bg_w3 : ∀ w ∈ u_ws RX3 TX3 12, w ∈ bg_tbl := by decide +kernel
theorem bg_w4 : ∀ w ∈ u_ws RX4 TX4 9, w ∈ bg_tbl := by decide +kernel
theorem bg_w5 : ∀ w ∈ u_ws RX5 TX5 6, w ∈ bg_tbl := by decide +kernel
theorem bg_w6 : ∀ w ∈ u_ws RX6 TX6 23, w ∈ bg_tbl := by decide +kernel
theorem bg_clok (ci : Nat) (C : String) (T : u_T) (N : Nat) (h : bg_cl[ci]? = some (C, T, N)) : (∀ w ∈ u_ws C T N, w ∈ bg_tbl) ∧ ∃ ty0 : Nat → FieldType, (∀ k, k < N → parseFieldDescriptor (T k).2.2.1 = some (ty0 k)) ∧ ∀ a, a < N → ∀ b, b < N → a ≠ b → (T a).2.1 ≠ (T b).2.1 := by
  match ci, h with
  | 0, h => cases h; exact ⟨bg_w0, tyX0, tyX0_ok, nmX0⟩
  | 1, h => cases h; exact ⟨bg_w1, tyX1, tyX1_ok, nmX1⟩
  | 2, h => cases h; exact ⟨bg_w2, tyX2, tyX2_ok, nmX2⟩
  | 3, h => cases h; exact ⟨bg_w3, tyX3, tyX3_ok, nmX3⟩
  | 4, h => cases h; exact ⟨bg_w4, tyX4, tyX4_ok, nmX4⟩
  | 5, h => cases h; exact ⟨bg_w5, tyX5, tyX5_ok, nmX5⟩
  | 6, h => cases h; exact ⟨bg_w6, tyX6, tyX6_ok, nmX6⟩
  | n + 7, h => simp [bg_cl] at h
