section MJ
variable {l : Launch} {A : Nat → Int → Int} {h : ev_H} {o : Nat → Int}
/-! the reference's shelves -/
def mSh (A : Nat → Int → Int) : Prop := (∀ d, 0 ≤ d → d < 8 → (0 ≤ A 2 d ∧ A 2 d ≤ 2) ∧ (0 ≤ A 3 d ∧ A 3 d ≤ 2) ∧ (0 ≤ A 4 d ∧ A 4 d ≤ 100) ∧ (A 8 d = 0 ∨ A 8 d = 1) ∧ (A 2 d = 1 → A 8 d = 0 → 0 ≤ A 6 d ∧ A 6 d < A 0 1)) ∧ ∀ i, 0 ≤ i → i < 800 → -2147483648 ≤ A 5 i ∧ A 5 i < 2147483648
def lstS (s : Int) : Int := if s = 0 then -128 else if s = 1 then -32768 else -2147483648
def sRow (A : Nat → Int → Int) (d q : Int) : Int := if ¬ (0 ≤ d ∧ d < 8) then -1 else if A 2 d = 0 then -11 else if A 2 d ≠ 2 ∨ (0 ≤ q ∧ A 3 d ≠ q) then -12 else 0
def sShf (A : Nat → Int → Int) (d : Int) : Int := if ¬ (0 ≤ d ∧ d < 8) then -1 else if A 2 d = 0 then -11 else if A 2 d = 1 then 0 else -12
/-- what is told of the traveller on a shelf -/
def hldS (A : Nat → Int → Int) (d i : Int) : Int := if A 8 d = 0 then A 0 (143 + 45 * A 6 d + i) else A 7 (45 * d + i)
theorem e6_leastOf {d : Int} (hw : MW h o A) (hS : mSh A) (hd : 0 ≤ d ∧ d < 8) : Ev l 0 yX6_leastOf.cls yX6_leastOf.name cX6_leastOf 2 (some .int) 0 [some (.ref 34), some (.int (iI d))] [] h (some (.int (iI (lstS (A 3 d))))) h := by
  obtain ⟨s1, s2, s3, s4, s5⟩ := hS.1 d hd.1 hd.2
  refine ev_aload_n (pc' := 1) dX6_leastOf_0 rfl rfl ?_
  refine ev_getfield (pc' := 4) fX6_19 dX6_leastOf_1 rfl hw.o rfl ?_
  refine ev_iload_n (pc' := 5) dX6_leastOf_4 rfl rfl ?_
  refine ev_ialoadI (pc' := 6) dX6_leastOf_5 rfl hw.a3 (by decide) (by omega) ?_
  refine ev_ifI_ne (pc' := 9) (tgt := 14) dX6_leastOf_6 (by decide) rfl (by omega) (fun c6 => ?_) (fun c6 => ?_)
  · refine ev_aload_n (pc' := 15) dX6_leastOf_14 rfl rfl ?_
    refine ev_getfield (pc' := 18) fX6_19 dX6_leastOf_15 rfl hw.o rfl ?_
    refine ev_iload_n (pc' := 19) dX6_leastOf_18 rfl rfl ?_
    refine ev_ialoadI (pc' := 20) dX6_leastOf_19 rfl hw.a3 (by decide) (by omega) ?_
    refine ev_iconst (pc' := 21) (iI (1)) dX6_leastOf_20 rfl (by decide) ?_
    refine ev_icmpI_ne (pc' := 24) (tgt := 30) dX6_leastOf_21 (by decide) rfl (by omega) (by omega) (fun c21 => ?_) (fun c21 => ?_)
    · refine ev_ldcI (pc' := 32) (-2147483648) nX6_222 dX6_leastOf_30 rfl (by decide) ?_
      exact ev_ireI dX6_leastOf_32 (by unfold lstS; (repeat (first | rw [if_pos (by omega)] | rw [if_neg (by omega)])))
    · refine ev_sipush (pc' := 27) (iI (-32768)) dX6_leastOf_24 rfl (by decide) ?_
      refine ev_goto (tgt := 32) dX6_leastOf_27 (by decide) ?_
      exact ev_ireI dX6_leastOf_32 (by unfold lstS; (repeat (first | rw [if_pos (by omega)] | rw [if_neg (by omega)])))
  · refine ev_bipush (pc' := 11) (iI (-128)) dX6_leastOf_9 rfl (by decide) ?_
    refine ev_goto (tgt := 32) dX6_leastOf_11 (by decide) ?_
    exact ev_ireI dX6_leastOf_32 (by unfold lstS; (repeat (first | rw [if_pos (by omega)] | rw [if_neg (by omega)])))
theorem e6_wrongRow {d q : Int} (hw : MW h o A) (hS : mSh A) (rd : -2147483648 ≤ d ∧ d < 2147483648) (rq : -2147483648 ≤ q ∧ q < 2147483648) : Ev l 2 yX6_wrongRow.cls yX6_wrongRow.name cX6_wrongRow 3 (some .int) 0 [some (.ref 34), some (.int (iI d)), some (.int (iI q))] [] h (some (.int (iI (sRow A d q)))) h := by
  by_cases hd : 0 ≤ d ∧ d < 8
  · obtain ⟨s1, s2, s3, s4, s5⟩ := hS.1 d hd.1 hd.2
    refine ev_iload_n (pc' := 1) dX6_wrongRow_0 rfl rfl ?_
    refine ev_callS1 (pc' := 4) kX6_90 mX6_isShelf dX6_wrongRow_1 rfl rfl (Nat.le_of_ble_eq_true rfl) (Nat.le_of_ble_eq_true rfl) (by decide) (e6_isShelf (by omega)) ?_
    refine ev_ifd_ne (pc' := 7) (tgt := 11) dX6_wrongRow_4 (by decide) rfl (fun c4 => ?_) (fun c4 => ?_)
    · refine ev_aload_n (pc' := 12) dX6_wrongRow_11 rfl rfl ?_
      refine ev_getfield (pc' := 15) fX6_16 dX6_wrongRow_12 rfl hw.o rfl ?_
      refine ev_iload_n (pc' := 16) dX6_wrongRow_15 rfl rfl ?_
      refine ev_ialoadI (pc' := 17) dX6_wrongRow_16 rfl hw.a2 (by decide) (by omega) ?_
      refine ev_ifI_ne (pc' := 20) (tgt := 25) dX6_wrongRow_17 (by decide) rfl (by omega) (fun c17 => ?_) (fun c17 => ?_)
      · refine ev_aload_n (pc' := 26) dX6_wrongRow_25 rfl rfl ?_
        refine ev_getfield (pc' := 29) fX6_16 dX6_wrongRow_26 rfl hw.o rfl ?_
        refine ev_iload_n (pc' := 30) dX6_wrongRow_29 rfl rfl ?_
        refine ev_ialoadI (pc' := 31) dX6_wrongRow_30 rfl hw.a2 (by decide) (by omega) ?_
        refine ev_iconst (pc' := 32) (iI (2)) dX6_wrongRow_31 rfl (by decide) ?_
        refine ev_icmpI_ne (pc' := 35) (tgt := 49) dX6_wrongRow_32 (by decide) rfl (by omega) (by omega) (fun c32 => ?_) (fun c32 => ?_)
        · refine ev_bipush (pc' := 51) (iI (-12)) dX6_wrongRow_49 rfl (by decide) ?_
          refine ev_goto (tgt := 55) dX6_wrongRow_51 (by decide) ?_
          exact ev_ireI dX6_wrongRow_55 (by unfold sRow; (repeat (first | rw [if_pos (by omega)] | rw [if_neg (by omega)])))
        · refine ev_iload_n (pc' := 36) dX6_wrongRow_35 rfl rfl ?_
          refine ev_ifI_lt (pc' := 39) (tgt := 54) dX6_wrongRow_36 (by decide) rfl (by omega) (fun c36 => ?_) (fun c36 => ?_)
          · refine ev_iconst (pc' := 55) (iI (0)) dX6_wrongRow_54 rfl (by decide) ?_
            exact ev_ireI dX6_wrongRow_55 (by unfold sRow; (repeat (first | rw [if_pos (by omega)] | rw [if_neg (by omega)])))
          · refine ev_aload_n (pc' := 40) dX6_wrongRow_39 rfl rfl ?_
            refine ev_getfield (pc' := 43) fX6_19 dX6_wrongRow_40 rfl hw.o rfl ?_
            refine ev_iload_n (pc' := 44) dX6_wrongRow_43 rfl rfl ?_
            refine ev_ialoadI (pc' := 45) dX6_wrongRow_44 rfl hw.a3 (by decide) (by omega) ?_
            refine ev_iload_n (pc' := 46) dX6_wrongRow_45 rfl rfl ?_
            refine ev_icmpI_eq (pc' := 49) (tgt := 54) dX6_wrongRow_46 (by decide) rfl (by omega) (by omega) (fun c46 => ?_) (fun c46 => ?_)
            · refine ev_iconst (pc' := 55) (iI (0)) dX6_wrongRow_54 rfl (by decide) ?_
              exact ev_ireI dX6_wrongRow_55 (by unfold sRow; (repeat (first | rw [if_pos (by omega)] | rw [if_neg (by omega)])))
            · refine ev_bipush (pc' := 51) (iI (-12)) dX6_wrongRow_49 rfl (by decide) ?_
              refine ev_goto (tgt := 55) dX6_wrongRow_51 (by decide) ?_
              exact ev_ireI dX6_wrongRow_55 (by unfold sRow; (repeat (first | rw [if_pos (by omega)] | rw [if_neg (by omega)])))
      · refine ev_bipush (pc' := 22) (iI (-11)) dX6_wrongRow_20 rfl (by decide) ?_
        refine ev_goto (tgt := 55) dX6_wrongRow_22 (by decide) ?_
        exact ev_ireI dX6_wrongRow_55 (by unfold sRow; (repeat (first | rw [if_pos (by omega)] | rw [if_neg (by omega)])))
    · refine ev_iconst (pc' := 8) (iI (-1)) dX6_wrongRow_7 rfl (by decide) ?_
      refine ev_goto (tgt := 55) dX6_wrongRow_8 (by decide) ?_
      exact ev_ireI dX6_wrongRow_55 (by unfold sRow; (repeat (first | rw [if_pos (by omega)] | rw [if_neg (by omega)])))
  · skip
    refine ev_iload_n (pc' := 1) dX6_wrongRow_0 rfl rfl ?_
    refine ev_callS1 (pc' := 4) kX6_90 mX6_isShelf dX6_wrongRow_1 rfl rfl (Nat.le_of_ble_eq_true rfl) (Nat.le_of_ble_eq_true rfl) (by decide) (e6_isShelf (by omega)) ?_
    refine ev_ifd_ne (pc' := 7) (tgt := 11) dX6_wrongRow_4 (by decide) rfl (fun c4 => ?_) (fun c4 => ?_)
    · omega
    · refine ev_iconst (pc' := 8) (iI (-1)) dX6_wrongRow_7 rfl (by decide) ?_
      refine ev_goto (tgt := 55) dX6_wrongRow_8 (by decide) ?_
      exact ev_ireI dX6_wrongRow_55 (by unfold sRow; (repeat (first | rw [if_pos (by omega)] | rw [if_neg (by omega)])))
theorem e6_wrongShelf {d : Int} (hw : MW h o A) (hS : mSh A) (rd : -2147483648 ≤ d ∧ d < 2147483648) : Ev l 2 yX6_wrongShelf.cls yX6_wrongShelf.name cX6_wrongShelf 2 (some .int) 0 [some (.ref 34), some (.int (iI d))] [] h (some (.int (iI (sShf A d)))) h := by
  by_cases hd : 0 ≤ d ∧ d < 8
  · obtain ⟨s1, s2, s3, s4, s5⟩ := hS.1 d hd.1 hd.2
    refine ev_iload_n (pc' := 1) dX6_wrongShelf_0 rfl rfl ?_
    refine ev_callS1 (pc' := 4) kX6_90 mX6_isShelf dX6_wrongShelf_1 rfl rfl (Nat.le_of_ble_eq_true rfl) (Nat.le_of_ble_eq_true rfl) (by decide) (e6_isShelf (by omega)) ?_
    refine ev_ifd_ne (pc' := 7) (tgt := 11) dX6_wrongShelf_4 (by decide) rfl (fun c4 => ?_) (fun c4 => ?_)
    · refine ev_aload_n (pc' := 12) dX6_wrongShelf_11 rfl rfl ?_
      refine ev_getfield (pc' := 15) fX6_16 dX6_wrongShelf_12 rfl hw.o rfl ?_
      refine ev_iload_n (pc' := 16) dX6_wrongShelf_15 rfl rfl ?_
      refine ev_ialoadI (pc' := 17) dX6_wrongShelf_16 rfl hw.a2 (by decide) (by omega) ?_
      refine ev_ifI_ne (pc' := 20) (tgt := 25) dX6_wrongShelf_17 (by decide) rfl (by omega) (fun c17 => ?_) (fun c17 => ?_)
      · refine ev_aload_n (pc' := 26) dX6_wrongShelf_25 rfl rfl ?_
        refine ev_getfield (pc' := 29) fX6_16 dX6_wrongShelf_26 rfl hw.o rfl ?_
        refine ev_iload_n (pc' := 30) dX6_wrongShelf_29 rfl rfl ?_
        refine ev_ialoadI (pc' := 31) dX6_wrongShelf_30 rfl hw.a2 (by decide) (by omega) ?_
        refine ev_iconst (pc' := 32) (iI (1)) dX6_wrongShelf_31 rfl (by decide) ?_
        refine ev_icmpI_ne (pc' := 35) (tgt := 39) dX6_wrongShelf_32 (by decide) rfl (by omega) (by omega) (fun c32 => ?_) (fun c32 => ?_)
        · refine ev_bipush (pc' := 41) (iI (-12)) dX6_wrongShelf_39 rfl (by decide) ?_
          exact ev_ireI dX6_wrongShelf_41 (by unfold sShf; (repeat (first | rw [if_pos (by omega)] | rw [if_neg (by omega)])))
        · refine ev_iconst (pc' := 36) (iI (0)) dX6_wrongShelf_35 rfl (by decide) ?_
          refine ev_goto (tgt := 41) dX6_wrongShelf_36 (by decide) ?_
          exact ev_ireI dX6_wrongShelf_41 (by unfold sShf; (repeat (first | rw [if_pos (by omega)] | rw [if_neg (by omega)])))
      · refine ev_bipush (pc' := 22) (iI (-11)) dX6_wrongShelf_20 rfl (by decide) ?_
        refine ev_goto (tgt := 41) dX6_wrongShelf_22 (by decide) ?_
        exact ev_ireI dX6_wrongShelf_41 (by unfold sShf; (repeat (first | rw [if_pos (by omega)] | rw [if_neg (by omega)])))
    · refine ev_iconst (pc' := 8) (iI (-1)) dX6_wrongShelf_7 rfl (by decide) ?_
      refine ev_goto (tgt := 41) dX6_wrongShelf_8 (by decide) ?_
      exact ev_ireI dX6_wrongShelf_41 (by unfold sShf; (repeat (first | rw [if_pos (by omega)] | rw [if_neg (by omega)])))
  · skip
    refine ev_iload_n (pc' := 1) dX6_wrongShelf_0 rfl rfl ?_
    refine ev_callS1 (pc' := 4) kX6_90 mX6_isShelf dX6_wrongShelf_1 rfl rfl (Nat.le_of_ble_eq_true rfl) (Nat.le_of_ble_eq_true rfl) (by decide) (e6_isShelf (by omega)) ?_
    refine ev_ifd_ne (pc' := 7) (tgt := 11) dX6_wrongShelf_4 (by decide) rfl (fun c4 => ?_) (fun c4 => ?_)
    · omega
    · refine ev_iconst (pc' := 8) (iI (-1)) dX6_wrongShelf_7 rfl (by decide) ?_
      refine ev_goto (tgt := 41) dX6_wrongShelf_8 (by decide) ?_
      exact ev_ireI dX6_wrongShelf_41 (by unfold sShf; (repeat (first | rw [if_pos (by omega)] | rw [if_neg (by omega)])))
theorem e6_held {d i : Int} (hw : MW h o A) (hS : mSh A) (hd : 0 ≤ d ∧ d < 8) (hI : mI0 (A 0)) (hk : A 2 d = 1) (hi : 0 ≤ i ∧ i < 45) : Ev l 1 yX6_held.cls yX6_held.name cX6_held 3 (some .int) 0 [some (.ref 34), some (.int (iI d)), some (.int (iI i))] [] h (some (.int (iI (hldS A d i)))) h := by
  obtain ⟨s1, s2, s3, s4, s5⟩ := hS.1 d hd.1 hd.2
  obtain ⟨⟨i1, i2⟩, ⟨i3, i4⟩, i5, i6⟩ := id hI
  refine ev_aload_n (pc' := 1) dX6_held_0 rfl rfl ?_
  refine ev_getfield (pc' := 4) fX6_34 dX6_held_1 rfl hw.o rfl ?_
  refine ev_iload_n (pc' := 5) dX6_held_4 rfl rfl ?_
  refine ev_baloadI (pc' := 6) dX6_held_5 rfl hw.a8 (by decide) (by omega) ?_
  refine ev_ifI_eq (pc' := 9) (tgt := 23) dX6_held_6 (by decide) rfl (by omega) (fun c6 => ?_) (fun c6 => ?_)
  · refine ev_aload_n (pc' := 24) dX6_held_23 rfl rfl ?_
    refine ev_aload_n (pc' := 25) dX6_held_24 rfl rfl ?_
    refine ev_getfield (pc' := 28) fX6_28 dX6_held_25 rfl hw.o rfl ?_
    refine ev_iload_n (pc' := 29) dX6_held_28 rfl rfl ?_
    refine ev_ialoadI (pc' := 30) dX6_held_29 rfl hw.a6 (by decide) (by omega) ?_
    refine ev_iload_n (pc' := 31) dX6_held_30 rfl rfl ?_
    refine ev_callV2 (pc' := 34) kX6_150 mX6_tell dX6_held_31 rfl rfl (Nat.le_of_ble_eq_true rfl) (Nat.le_of_ble_eq_true rfl) (by decide) rfl hw.o (e6_tell hw (by omega)) ?_
    exact ev_ireI dX6_held_34 (by unfold hldS; first | rw [if_pos (by omega)] | rw [if_neg (by omega)])
  · refine ev_aload_n (pc' := 10) dX6_held_9 rfl rfl ?_
    refine ev_getfield (pc' := 13) fX6_31 dX6_held_10 rfl hw.o rfl ?_
    refine ev_bipush (pc' := 15) (iI (45)) dX6_held_13 rfl (by decide) ?_
    refine ev_iload_n (pc' := 16) dX6_held_15 rfl rfl ?_
    refine ev_imulI (pc' := 17) dX6_held_16 rfl ?_
    refine ev_iload_n (pc' := 18) dX6_held_17 rfl rfl ?_
    refine ev_iaddI (pc' := 19) dX6_held_18 rfl ?_
    refine ev_ialoadI (pc' := 20) dX6_held_19 rfl hw.a7 (by decide) (by omega) ?_
    refine ev_goto (tgt := 34) dX6_held_20 (by decide) ?_
    exact ev_ireI dX6_held_34 (by unfold hldS; first | rw [if_pos (by omega)] | rw [if_neg (by omega)])
/-- the travellers on shelves are as travellers are -/
def mHd (A : Nat → Int → Int) : Prop := ∀ d, 0 ≤ d → d < 8 → A 2 d = 1 → (0 ≤ hldS A d 0 ∧ hldS A d 0 ≤ 7) ∧ (0 ≤ hldS A d 1 ∧ hldS A d 1 ≤ 9) ∧ (0 ≤ hldS A d 2 ∧ hldS A d 2 ≤ 30) ∧ (0 ≤ hldS A d 3 ∧ hldS A d 3 ≤ 6) ∧ (0 ≤ hldS A d 28 ∧ hldS A d 28 ≤ 8) ∧ (0 ≤ A 6 d ∧ A 6 d < 8)
def wgt (k l h s c : Int) : Int := if k = 1 then 10 + l + 1 else if k = 2 then 2 * (10 + l) else if k = 3 then 10 + l + h else if k = 4 then 10 + l + 1 + c else if k = 5 then 2 * (10 + l + 1) else if k = 6 then 2 * (10 + l) + s else if k = 7 then 10 + l + h + 100 else 10 + l
def sWeight (A : Nat → Int → Int) (d : Int) : Int := if sShf A d ≠ 0 then sShf A d else wgt (hldS A d 0) (hldS A d 3) (hldS A d 1) (hldS A d 2) (hldS A d 28)
def tss (k l s n : Int) : Int := if k = 3 ∨ k = 7 ∨ l = 0 then -15 else if k = 4 then 100 + n else if k = 6 then 200 + s else n
def sToss (A : Nat → Int → Int) (d : Int) : Int := if sShf A d ≠ 0 then sShf A d else tss (hldS A d 0) (hldS A d 3) (hldS A d 2) (A 6 d)
theorem sShf_0 {A : Nat → Int → Int} {d : Int} (h : sShf A d = 0) : (0 ≤ d ∧ d < 8) ∧ A 2 d = 1 := by
  unfold sShf at h
  split at h
  · omega
  · split at h
    · omega
    · split at h
      · exact ⟨by omega, by omega⟩
      · omega
theorem sRow_0 {A : Nat → Int → Int} {d q : Int} (h : sRow A d q = 0) : (0 ≤ d ∧ d < 8) ∧ A 2 d = 2 ∧ (0 ≤ q → A 3 d = q) := by
  unfold sRow at h
  split at h
  · omega
  · split at h
    · omega
    · split at h
      · omega
      · exact ⟨by omega, by omega, by omega⟩
theorem sShf_b (A : Nat → Int → Int) (d : Int) : -15 ≤ sShf A d ∧ sShf A d ≤ 0 := by
  unfold sShf; repeat' split
  all_goals omega
theorem sRow_b (A : Nat → Int → Int) (d q : Int) : -15 ≤ sRow A d q ∧ sRow A d q ≤ 0 := by
  unfold sRow; repeat' split
  all_goals omega
theorem e6_weight {d : Int} (hw : MW h o A) (hS : mSh A) (hH : mHd A) (hI : mI0 (A 0)) (rd : -2147483648 ≤ d ∧ d < 2147483648) : Ev l 3 yX6_weight.cls yX6_weight.name cX6_weight 4 (some .int) 0 [some (.ref 34), some (.int (iI d)), none, none] [] h (some (.int (iI (sWeight A d)))) h := by
  have zb := sShf_b A d
  refine ev_aload_n (pc' := 1) dX6_weight_0 rfl rfl ?_
  refine ev_iload_n (pc' := 2) dX6_weight_1 rfl rfl ?_
  refine ev_callV1 (pc' := 5) kX6_244 mX6_wrongShelf dX6_weight_2 rfl rfl (Nat.le_of_ble_eq_true rfl) (Nat.le_of_ble_eq_true rfl) (by decide) rfl hw.o (e6_wrongShelf hw hS (by omega)) ?_
  refine ev_istore_2 (pc' := 6) dX6_weight_5 rfl (by decide) rfl ?_
  refine ev_iload_n (pc' := 7) dX6_weight_6 rfl rfl ?_
  refine ev_ifI_eq (pc' := 10) (tgt := 12) dX6_weight_7 (by decide) rfl (by omega) (fun c7 => ?_) (fun c7 => ?_)
  · have hz : sShf A d = 0 := by omega
    obtain ⟨hd, hk⟩ := sShf_0 hz
    obtain ⟨u0, u1, u2, u3, u4, u5⟩ := hH d hd.1 hd.2 hk
    refine ev_bipush (pc' := 14) (iI (10)) dX6_weight_12 rfl (by decide) ?_
    refine ev_aload_n (pc' := 15) dX6_weight_14 rfl rfl ?_
    refine ev_iload_n (pc' := 16) dX6_weight_15 rfl rfl ?_
    refine ev_iconst (pc' := 17) (iI (3)) dX6_weight_16 rfl (by decide) ?_
    refine ev_callV2 (pc' := 20) kX6_247 mX6_held dX6_weight_17 rfl rfl (Nat.le_of_ble_eq_true rfl) (Nat.le_of_ble_eq_true rfl) (by decide) rfl hw.o (e6_held hw hS hd hI hk (by omega)) ?_
    refine ev_iaddI (pc' := 21) dX6_weight_20 rfl ?_
    refine ev_istore_3 (pc' := 22) dX6_weight_21 rfl (by decide) rfl ?_
    refine ev_aload_n (pc' := 23) dX6_weight_22 rfl rfl ?_
    refine ev_iload_n (pc' := 24) dX6_weight_23 rfl rfl ?_
    refine ev_iconst (pc' := 25) (iI (0)) dX6_weight_24 rfl (by decide) ?_
    refine ev_callV2 (pc' := 28) kX6_247 mX6_held dX6_weight_25 rfl rfl (Nat.le_of_ble_eq_true rfl) (Nat.le_of_ble_eq_true rfl) (by decide) rfl hw.o (e6_held hw hS hd hI hk (by omega)) ?_
    by_cases c28_1 : hldS A d 0 = 1
    · refine ev_tableInI dX6_weight_28 c28_1 (by decide) (by decide) (by decide) (off := 44) (by decide) (tgt := 72) (by decide) ?_
      refine ev_iload_n (pc' := 73) dX6_weight_72 rfl rfl ?_
      refine ev_iconst (pc' := 74) (iI (1)) dX6_weight_73 rfl (by decide) ?_
      refine ev_iaddI (pc' := 75) dX6_weight_74 rfl ?_
      exact ev_ireI dX6_weight_75 (by unfold sWeight; first | (rw [if_neg (by omega)]; unfold wgt; (repeat (first | rw [if_pos (by omega)] | rw [if_neg (by omega)]))) | rw [if_pos (by omega)])
    · skip
      by_cases c28_2 : hldS A d 0 = 2
      · refine ev_tableInI dX6_weight_28 c28_2 (by decide) (by decide) (by decide) (off := 48) (by decide) (tgt := 76) (by decide) ?_
        refine ev_iconst (pc' := 77) (iI (2)) dX6_weight_76 rfl (by decide) ?_
        refine ev_iload_n (pc' := 78) dX6_weight_77 rfl rfl ?_
        refine ev_imulI (pc' := 79) dX6_weight_78 rfl ?_
        exact ev_ireI dX6_weight_79 (by unfold sWeight; first | (rw [if_neg (by omega)]; unfold wgt; (repeat (first | rw [if_pos (by omega)] | rw [if_neg (by omega)]))) | rw [if_pos (by omega)])
      · skip
        by_cases c28_3 : hldS A d 0 = 3
        · refine ev_tableInI dX6_weight_28 c28_3 (by decide) (by decide) (by decide) (off := 52) (by decide) (tgt := 80) (by decide) ?_
          refine ev_iload_n (pc' := 81) dX6_weight_80 rfl rfl ?_
          refine ev_aload_n (pc' := 82) dX6_weight_81 rfl rfl ?_
          refine ev_iload_n (pc' := 83) dX6_weight_82 rfl rfl ?_
          refine ev_iconst (pc' := 84) (iI (1)) dX6_weight_83 rfl (by decide) ?_
          refine ev_callV2 (pc' := 87) kX6_247 mX6_held dX6_weight_84 rfl rfl (Nat.le_of_ble_eq_true rfl) (Nat.le_of_ble_eq_true rfl) (by decide) rfl hw.o (e6_held hw hS hd hI hk (by omega)) ?_
          refine ev_iaddI (pc' := 88) dX6_weight_87 rfl ?_
          exact ev_ireI dX6_weight_88 (by unfold sWeight; first | (rw [if_neg (by omega)]; unfold wgt; (repeat (first | rw [if_pos (by omega)] | rw [if_neg (by omega)]))) | rw [if_pos (by omega)])
        · skip
          by_cases c28_4 : hldS A d 0 = 4
          · refine ev_tableInI dX6_weight_28 c28_4 (by decide) (by decide) (by decide) (off := 61) (by decide) (tgt := 89) (by decide) ?_
            refine ev_iload_n (pc' := 90) dX6_weight_89 rfl rfl ?_
            refine ev_iconst (pc' := 91) (iI (1)) dX6_weight_90 rfl (by decide) ?_
            refine ev_iaddI (pc' := 92) dX6_weight_91 rfl ?_
            refine ev_aload_n (pc' := 93) dX6_weight_92 rfl rfl ?_
            refine ev_iload_n (pc' := 94) dX6_weight_93 rfl rfl ?_
            refine ev_bipush (pc' := 96) (iI (28)) dX6_weight_94 rfl (by decide) ?_
            refine ev_callV2 (pc' := 99) kX6_247 mX6_held dX6_weight_96 rfl rfl (Nat.le_of_ble_eq_true rfl) (Nat.le_of_ble_eq_true rfl) (by decide) rfl hw.o (e6_held hw hS hd hI hk (by omega)) ?_
            refine ev_iaddI (pc' := 100) dX6_weight_99 rfl ?_
            exact ev_ireI dX6_weight_100 (by unfold sWeight; first | (rw [if_neg (by omega)]; unfold wgt; (repeat (first | rw [if_pos (by omega)] | rw [if_neg (by omega)]))) | rw [if_pos (by omega)])
          · skip
            by_cases c28_5 : hldS A d 0 = 5
            · refine ev_tableInI dX6_weight_28 c28_5 (by decide) (by decide) (by decide) (off := 73) (by decide) (tgt := 101) (by decide) ?_
              refine ev_iconst (pc' := 102) (iI (2)) dX6_weight_101 rfl (by decide) ?_
              refine ev_iload_n (pc' := 103) dX6_weight_102 rfl rfl ?_
              refine ev_iconst (pc' := 104) (iI (1)) dX6_weight_103 rfl (by decide) ?_
              refine ev_iaddI (pc' := 105) dX6_weight_104 rfl ?_
              refine ev_imulI (pc' := 106) dX6_weight_105 rfl ?_
              exact ev_ireI dX6_weight_106 (by unfold sWeight; first | (rw [if_neg (by omega)]; unfold wgt; (repeat (first | rw [if_pos (by omega)] | rw [if_neg (by omega)]))) | rw [if_pos (by omega)])
            · skip
              by_cases c28_6 : hldS A d 0 = 6
              · refine ev_tableInI dX6_weight_28 c28_6 (by decide) (by decide) (by decide) (off := 79) (by decide) (tgt := 107) (by decide) ?_
                refine ev_iconst (pc' := 108) (iI (2)) dX6_weight_107 rfl (by decide) ?_
                refine ev_iload_n (pc' := 109) dX6_weight_108 rfl rfl ?_
                refine ev_imulI (pc' := 110) dX6_weight_109 rfl ?_
                refine ev_aload_n (pc' := 111) dX6_weight_110 rfl rfl ?_
                refine ev_iload_n (pc' := 112) dX6_weight_111 rfl rfl ?_
                refine ev_iconst (pc' := 113) (iI (2)) dX6_weight_112 rfl (by decide) ?_
                refine ev_callV2 (pc' := 116) kX6_247 mX6_held dX6_weight_113 rfl rfl (Nat.le_of_ble_eq_true rfl) (Nat.le_of_ble_eq_true rfl) (by decide) rfl hw.o (e6_held hw hS hd hI hk (by omega)) ?_
                refine ev_iaddI (pc' := 117) dX6_weight_116 rfl ?_
                exact ev_ireI dX6_weight_117 (by unfold sWeight; first | (rw [if_neg (by omega)]; unfold wgt; (repeat (first | rw [if_pos (by omega)] | rw [if_neg (by omega)]))) | rw [if_pos (by omega)])
              · skip
                by_cases c28_7 : hldS A d 0 = 7
                · refine ev_tableInI dX6_weight_28 c28_7 (by decide) (by decide) (by decide) (off := 90) (by decide) (tgt := 118) (by decide) ?_
                  refine ev_iload_n (pc' := 119) dX6_weight_118 rfl rfl ?_
                  refine ev_aload_n (pc' := 120) dX6_weight_119 rfl rfl ?_
                  refine ev_iload_n (pc' := 121) dX6_weight_120 rfl rfl ?_
                  refine ev_iconst (pc' := 122) (iI (1)) dX6_weight_121 rfl (by decide) ?_
                  refine ev_callV2 (pc' := 125) kX6_247 mX6_held dX6_weight_122 rfl rfl (Nat.le_of_ble_eq_true rfl) (Nat.le_of_ble_eq_true rfl) (by decide) rfl hw.o (e6_held hw hS hd hI hk (by omega)) ?_
                  refine ev_iaddI (pc' := 126) dX6_weight_125 rfl ?_
                  refine ev_bipush (pc' := 128) (iI (100)) dX6_weight_126 rfl (by decide) ?_
                  refine ev_iaddI (pc' := 129) dX6_weight_128 rfl ?_
                  exact ev_ireI dX6_weight_129 (by unfold sWeight; first | (rw [if_neg (by omega)]; unfold wgt; (repeat (first | rw [if_pos (by omega)] | rw [if_neg (by omega)]))) | rw [if_pos (by omega)])
                · skip
                  refine ev_tableOutI dX6_weight_28 (by omega) (by omega) (tgt := 130) (by decide) ?_
                  refine ev_iload_n (pc' := 131) dX6_weight_130 rfl rfl ?_
                  exact ev_ireI dX6_weight_131 (by unfold sWeight; first | (rw [if_neg (by omega)]; unfold wgt; (repeat (first | rw [if_pos (by omega)] | rw [if_neg (by omega)]))) | rw [if_pos (by omega)])
  · refine ev_iload_n (pc' := 11) dX6_weight_10 rfl rfl ?_
    exact ev_ireI dX6_weight_11 (by unfold sWeight; first | (rw [if_neg (by omega)]; unfold wgt; (repeat (first | rw [if_pos (by omega)] | rw [if_neg (by omega)]))) | rw [if_pos (by omega)])
theorem e6_toss {d : Int} (hw : MW h o A) (hS : mSh A) (hH : mHd A) (hI : mI0 (A 0)) (rd : -2147483648 ≤ d ∧ d < 2147483648) : Ev l 3 yX6_toss.cls yX6_toss.name cX6_toss 4 (some .int) 0 [some (.ref 34), some (.int (iI d)), none, none] [] h (some (.int (iI (sToss A d)))) h := by
  have zb := sShf_b A d
  refine ev_aload_n (pc' := 1) dX6_toss_0 rfl rfl ?_
  refine ev_iload_n (pc' := 2) dX6_toss_1 rfl rfl ?_
  refine ev_callV1 (pc' := 5) kX6_244 mX6_wrongShelf dX6_toss_2 rfl rfl (Nat.le_of_ble_eq_true rfl) (Nat.le_of_ble_eq_true rfl) (by decide) rfl hw.o (e6_wrongShelf hw hS (by omega)) ?_
  refine ev_istore_2 (pc' := 6) dX6_toss_5 rfl (by decide) rfl ?_
  refine ev_iload_n (pc' := 7) dX6_toss_6 rfl rfl ?_
  refine ev_ifI_eq (pc' := 10) (tgt := 12) dX6_toss_7 (by decide) rfl (by omega) (fun c7 => ?_) (fun c7 => ?_)
  · have hz : sShf A d = 0 := by omega
    obtain ⟨hd, hk⟩ := sShf_0 hz
    obtain ⟨u0, u1, u2, u3, u4, u5⟩ := hH d hd.1 hd.2 hk
    refine ev_aload_n (pc' := 13) dX6_toss_12 rfl rfl ?_
    refine ev_iload_n (pc' := 14) dX6_toss_13 rfl rfl ?_
    refine ev_iconst (pc' := 15) (iI (0)) dX6_toss_14 rfl (by decide) ?_
    refine ev_callV2 (pc' := 18) kX6_247 mX6_held dX6_toss_15 rfl rfl (Nat.le_of_ble_eq_true rfl) (Nat.le_of_ble_eq_true rfl) (by decide) rfl hw.o (e6_held hw hS hd hI hk (by omega)) ?_
    refine ev_istore_3 (pc' := 19) dX6_toss_18 rfl (by decide) rfl ?_
    refine ev_iload_n (pc' := 20) dX6_toss_19 rfl rfl ?_
    refine ev_iconst (pc' := 21) (iI (3)) dX6_toss_20 rfl (by decide) ?_
    refine ev_icmpI_eq (pc' := 24) (tgt := 39) dX6_toss_21 (by decide) rfl (by omega) (by omega) (fun c21 => ?_) (fun c21 => ?_)
    · refine ev_bipush (pc' := 41) (iI (-15)) dX6_toss_39 rfl (by decide) ?_
      exact ev_ireI dX6_toss_41 (by unfold sToss; first | (rw [if_neg (by omega)]; unfold tss; (repeat (first | rw [if_pos (by omega)] | rw [if_neg (by omega)]))) | rw [if_pos (by omega)])
    · refine ev_iload_n (pc' := 25) dX6_toss_24 rfl rfl ?_
      refine ev_bipush (pc' := 27) (iI (7)) dX6_toss_25 rfl (by decide) ?_
      refine ev_icmpI_eq (pc' := 30) (tgt := 39) dX6_toss_27 (by decide) rfl (by omega) (by omega) (fun c27 => ?_) (fun c27 => ?_)
      · refine ev_bipush (pc' := 41) (iI (-15)) dX6_toss_39 rfl (by decide) ?_
        exact ev_ireI dX6_toss_41 (by unfold sToss; first | (rw [if_neg (by omega)]; unfold tss; (repeat (first | rw [if_pos (by omega)] | rw [if_neg (by omega)]))) | rw [if_pos (by omega)])
      · refine ev_aload_n (pc' := 31) dX6_toss_30 rfl rfl ?_
        refine ev_iload_n (pc' := 32) dX6_toss_31 rfl rfl ?_
        refine ev_iconst (pc' := 33) (iI (3)) dX6_toss_32 rfl (by decide) ?_
        refine ev_callV2 (pc' := 36) kX6_247 mX6_held dX6_toss_33 rfl rfl (Nat.le_of_ble_eq_true rfl) (Nat.le_of_ble_eq_true rfl) (by decide) rfl hw.o (e6_held hw hS hd hI hk (by omega)) ?_
        refine ev_ifI_ne (pc' := 39) (tgt := 42) dX6_toss_36 (by decide) rfl (by omega) (fun c36 => ?_) (fun c36 => ?_)
        · refine ev_iload_n (pc' := 43) dX6_toss_42 rfl rfl ?_
          refine ev_iconst (pc' := 44) (iI (4)) dX6_toss_43 rfl (by decide) ?_
          refine ev_icmpI_ne (pc' := 47) (tgt := 59) dX6_toss_44 (by decide) rfl (by omega) (by omega) (fun c44 => ?_) (fun c44 => ?_)
          · refine ev_iload_n (pc' := 60) dX6_toss_59 rfl rfl ?_
            refine ev_bipush (pc' := 62) (iI (6)) dX6_toss_60 rfl (by decide) ?_
            refine ev_icmpI_ne (pc' := 65) (tgt := 78) dX6_toss_62 (by decide) rfl (by omega) (by omega) (fun c62 => ?_) (fun c62 => ?_)
            · refine ev_aload_n (pc' := 79) dX6_toss_78 rfl rfl ?_
              refine ev_getfield (pc' := 82) fX6_28 dX6_toss_79 rfl hw.o rfl ?_
              refine ev_iload_n (pc' := 83) dX6_toss_82 rfl rfl ?_
              refine ev_ialoadI (pc' := 84) dX6_toss_83 rfl hw.a6 (by decide) (by omega) ?_
              exact ev_ireI dX6_toss_84 (by unfold sToss; first | (rw [if_neg (by omega)]; unfold tss; (repeat (first | rw [if_pos (by omega)] | rw [if_neg (by omega)]))) | rw [if_pos (by omega)])
            · refine ev_sipush (pc' := 68) (iI (200)) dX6_toss_65 rfl (by decide) ?_
              refine ev_aload_n (pc' := 69) dX6_toss_68 rfl rfl ?_
              refine ev_iload_n (pc' := 70) dX6_toss_69 rfl rfl ?_
              refine ev_iconst (pc' := 71) (iI (2)) dX6_toss_70 rfl (by decide) ?_
              refine ev_callV2 (pc' := 74) kX6_247 mX6_held dX6_toss_71 rfl rfl (Nat.le_of_ble_eq_true rfl) (Nat.le_of_ble_eq_true rfl) (by decide) rfl hw.o (e6_held hw hS hd hI hk (by omega)) ?_
              refine ev_iaddI (pc' := 75) dX6_toss_74 rfl ?_
              refine ev_goto (tgt := 84) dX6_toss_75 (by decide) ?_
              exact ev_ireI dX6_toss_84 (by unfold sToss; first | (rw [if_neg (by omega)]; unfold tss; (repeat (first | rw [if_pos (by omega)] | rw [if_neg (by omega)]))) | rw [if_pos (by omega)])
          · refine ev_bipush (pc' := 49) (iI (100)) dX6_toss_47 rfl (by decide) ?_
            refine ev_aload_n (pc' := 50) dX6_toss_49 rfl rfl ?_
            refine ev_getfield (pc' := 53) fX6_28 dX6_toss_50 rfl hw.o rfl ?_
            refine ev_iload_n (pc' := 54) dX6_toss_53 rfl rfl ?_
            refine ev_ialoadI (pc' := 55) dX6_toss_54 rfl hw.a6 (by decide) (by omega) ?_
            refine ev_iaddI (pc' := 56) dX6_toss_55 rfl ?_
            refine ev_goto (tgt := 84) dX6_toss_56 (by decide) ?_
            exact ev_ireI dX6_toss_84 (by unfold sToss; first | (rw [if_neg (by omega)]; unfold tss; (repeat (first | rw [if_pos (by omega)] | rw [if_neg (by omega)]))) | rw [if_pos (by omega)])
        · refine ev_bipush (pc' := 41) (iI (-15)) dX6_toss_39 rfl (by decide) ?_
          exact ev_ireI dX6_toss_41 (by unfold sToss; first | (rw [if_neg (by omega)]; unfold tss; (repeat (first | rw [if_pos (by omega)] | rw [if_neg (by omega)]))) | rw [if_pos (by omega)])
  · refine ev_iload_n (pc' := 11) dX6_toss_10 rfl rfl ?_
    exact ev_ireI dX6_toss_11 (by unfold sToss; first | (rw [if_neg (by omega)]; unfold tss; (repeat (first | rw [if_pos (by omega)] | rw [if_neg (by omega)]))) | rw [if_pos (by omega)])
end MJ
