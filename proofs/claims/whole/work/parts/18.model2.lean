section MC
variable {l : Launch} {h : ev_H} {o : Nat → Int} {A : Nat → Int → Int}
def sPlace (S : Int → Int) (p w : Int) : Int := if (0 ≤ p ∧ p < S 0) ∧ (0 ≤ w ∧ w ≤ 3) then S (3 + 4 * p + w) else -1000000001
def sTrade (S : Int → Int) (a b : Int) : Int := if (0 ≤ a ∧ a < S 0) ∧ (0 ≤ b ∧ b < S 0) ∧ a ≠ b then S (43 + 10 * a + b) else -1
def sDayOf (S : Int → Int) (p t : Int) : Int := if (0 ≤ p ∧ p < S 0) ∧ (0 ≤ t ∧ t ≤ 19999) then dP S p t else -1000000001
def sHourOf (S : Int → Int) (p t : Int) : Int := if (0 ≤ p ∧ p < S 0) ∧ (0 ≤ t ∧ t ≤ 19999) then (t - 720 + 4 * eS S (S (3 + 4 * p + 0))) % 1440 else -1
theorem e6_place {p w : Int} (hw : MW h o A) (hI : mI0 (A 0)) (rp : -2147483648 ≤ p ∧ p < 2147483648) (rw : -2147483648 ≤ w ∧ w < 2147483648) : Ev l 2 yX6_place.cls yX6_place.name cX6_place 3 (some .int) 0 [some (.ref 34), some (.int (iI p)), some (.int (iI w))] [] h (some (.int (iI (sPlace (A 0) p w)))) h := by
  have i := hI
  obtain ⟨⟨i1, i2⟩, ⟨i3, i4⟩, i5, i6⟩ := i
  refine ev_aload_n dX6_place_0 rfl rfl ?_
  refine ev_iload_n dX6_place_1 rfl rfl ?_
  refine ev_callV1 kX6_103 mX6_isPlace dX6_place_2 rfl rfl (Nat.le_of_ble_eq_true rfl) (Nat.le_of_ble_eq_true rfl) (by decide) rfl hw.o (e6_isPlace hw hI (by omega)) ?_
  refine ev_ifd_eq (tgt := 29) dX6_place_5 (by decide) rfl (fun c5 => ?_) (fun c5 => ?_)
  · refine ev_ldcI (-1000000001) nX6_111 dX6_place_29 rfl (by decide) ?_
    exact ev_ireI dX6_place_31 (by unfold sPlace; first | rw [if_pos (by omega)] | rw [if_neg (by omega)])
  · refine ev_iload_n dX6_place_8 rfl rfl ?_
    refine ev_i2lI dX6_place_9 rfl (by omega) ?_
    refine ev_lconst (jJ (0)) dX6_place_10 rfl (by decide) ?_
    refine ev_ldc2I (3) nX6_106 dX6_place_11 rfl (by decide) ?_
    refine ev_callS3 kX6_48 mX6_isIn dX6_place_14 rfl rfl (Nat.le_of_ble_eq_true rfl) (Nat.le_of_ble_eq_true rfl) (by decide) (e6_isIn (by omega) (by omega) (by omega)) ?_
    refine ev_ifd_eq (tgt := 29) dX6_place_17 (by decide) rfl (fun c17 => ?_) (fun c17 => ?_)
    · refine ev_ldcI (-1000000001) nX6_111 dX6_place_29 rfl (by decide) ?_
      exact ev_ireI dX6_place_31 (by unfold sPlace; first | rw [if_pos (by omega)] | rw [if_neg (by omega)])
    · refine ev_aload_n dX6_place_20 rfl rfl ?_
      refine ev_iload_n dX6_place_21 rfl rfl ?_
      refine ev_iload_n dX6_place_22 rfl rfl ?_
      refine ev_callV2 kX6_108 mX6_get dX6_place_23 rfl rfl (Nat.le_of_ble_eq_true rfl) (Nat.le_of_ble_eq_true rfl) (by decide) rfl hw.o (e6_get hw (by omega)) ?_
      refine ev_goto (tgt := 31) dX6_place_26 (by decide) ?_
      exact ev_ireI dX6_place_31 (by unfold sPlace; first | rw [if_pos (by omega)] | rw [if_neg (by omega)])
theorem e6_trade {a b : Int} (hw : MW h o A) (hI : mI0 (A 0)) (ra : -2147483648 ≤ a ∧ a < 2147483648) (rb : -2147483648 ≤ b ∧ b < 2147483648) : Ev l 2 yX6_trade.cls yX6_trade.name cX6_trade 3 (some .int) 0 [some (.ref 34), some (.int (iI a)), some (.int (iI b))] [] h (some (.int (iI (sTrade (A 0) a b)))) h := by
  have i := hI
  obtain ⟨⟨i1, i2⟩, ⟨i3, i4⟩, i5, i6⟩ := i
  refine ev_aload_n dX6_trade_0 rfl rfl ?_
  refine ev_iload_n dX6_trade_1 rfl rfl ?_
  refine ev_callV1 kX6_103 mX6_isPlace dX6_trade_2 rfl rfl (Nat.le_of_ble_eq_true rfl) (Nat.le_of_ble_eq_true rfl) (by decide) rfl hw.o (e6_isPlace hw hI (by omega)) ?_
  refine ev_ifd_eq (tgt := 38) dX6_trade_5 (by decide) rfl (fun c5 => ?_) (fun c5 => ?_)
  · refine ev_iconst (iI (-1)) dX6_trade_38 rfl (by decide) ?_
    exact ev_ireI dX6_trade_39 (by unfold sTrade; first | rw [if_pos (by omega)] | rw [if_neg (by omega)])
  · refine ev_aload_n dX6_trade_8 rfl rfl ?_
    refine ev_iload_n dX6_trade_9 rfl rfl ?_
    refine ev_callV1 kX6_103 mX6_isPlace dX6_trade_10 rfl rfl (Nat.le_of_ble_eq_true rfl) (Nat.le_of_ble_eq_true rfl) (by decide) rfl hw.o (e6_isPlace hw hI (by omega)) ?_
    refine ev_ifd_eq (tgt := 38) dX6_trade_13 (by decide) rfl (fun c13 => ?_) (fun c13 => ?_)
    · refine ev_iconst (iI (-1)) dX6_trade_38 rfl (by decide) ?_
      exact ev_ireI dX6_trade_39 (by unfold sTrade; first | rw [if_pos (by omega)] | rw [if_neg (by omega)])
    · refine ev_iload_n dX6_trade_16 rfl rfl ?_
      refine ev_iload_n dX6_trade_17 rfl rfl ?_
      refine ev_icmpI_eq (tgt := 38) dX6_trade_18 (by decide) rfl (by omega) (by omega) (fun c18 => ?_) (fun c18 => ?_)
      · refine ev_iconst (iI (-1)) dX6_trade_38 rfl (by decide) ?_
        exact ev_ireI dX6_trade_39 (by unfold sTrade; first | rw [if_pos (by omega)] | rw [if_neg (by omega)])
      · refine ev_aload_n dX6_trade_21 rfl rfl ?_
        refine ev_getfield fX6_9 dX6_trade_22 rfl hw.o rfl ?_
        refine ev_bipush (iI (43)) dX6_trade_25 rfl (by decide) ?_
        refine ev_bipush (iI (10)) dX6_trade_27 rfl (by decide) ?_
        refine ev_iload_n dX6_trade_29 rfl rfl ?_
        refine ev_imulI dX6_trade_30 rfl ?_
        refine ev_iaddI dX6_trade_31 rfl ?_
        refine ev_iload_n dX6_trade_32 rfl rfl ?_
        refine ev_iaddI dX6_trade_33 rfl ?_
        refine ev_ialoadI dX6_trade_34 rfl hw.a0 (by decide) (by omega) ?_
        refine ev_goto (tgt := 39) dX6_trade_35 (by decide) ?_
        exact ev_ireI dX6_trade_39 (by unfold sTrade; first | rw [if_pos (by omega)] | rw [if_neg (by omega)])
theorem e6_dayOf {p t : Int} (hw : MW h o A) (hI : mI0 (A 0)) (hJ : mIP (A 0)) (rp : -2147483648 ≤ p ∧ p < 2147483648) (rt : -2147483648 ≤ t ∧ t < 2147483648) : Ev l 3 yX6_dayOf.cls yX6_dayOf.name cX6_dayOf 3 (some .int) 0 [some (.ref 34), some (.int (iI p)), some (.int (iI t))] [] h (some (.int (iI (sDayOf (A 0) p t)))) h := by
  have i := hI
  obtain ⟨⟨i1, i2⟩, ⟨i3, i4⟩, i5, i6⟩ := i
  refine ev_aload_n dX6_dayOf_0 rfl rfl ?_
  refine ev_iload_n dX6_dayOf_1 rfl rfl ?_
  refine ev_callV1 kX6_103 mX6_isPlace dX6_dayOf_2 rfl rfl (Nat.le_of_ble_eq_true rfl) (Nat.le_of_ble_eq_true rfl) (by decide) rfl hw.o (e6_isPlace hw hI (by omega)) ?_
  refine ev_ifd_eq (tgt := 25) dX6_dayOf_5 (by decide) rfl (fun c5 => ?_) (fun c5 => ?_)
  · refine ev_ldcI (-1000000001) nX6_111 dX6_dayOf_25 rfl (by decide) ?_
    exact ev_ireI dX6_dayOf_27 (by unfold sDayOf; first | rw [if_pos (by omega)] | rw [if_neg (by omega)])
  · refine ev_iload_n dX6_dayOf_8 rfl rfl ?_
    refine ev_i2lI dX6_dayOf_9 rfl (by omega) ?_
    refine ev_callS1 kX6_141 mX6_isMinute dX6_dayOf_10 rfl rfl (Nat.le_of_ble_eq_true rfl) (Nat.le_of_ble_eq_true rfl) (by decide) (e6_isMinute (by omega)) ?_
    refine ev_ifd_eq (tgt := 25) dX6_dayOf_13 (by decide) rfl (fun c13 => ?_) (fun c13 => ?_)
    · refine ev_ldcI (-1000000001) nX6_111 dX6_dayOf_25 rfl (by decide) ?_
      exact ev_ireI dX6_dayOf_27 (by unfold sDayOf; first | rw [if_pos (by omega)] | rw [if_neg (by omega)])
    · refine ev_aload_n dX6_dayOf_16 rfl rfl ?_
      refine ev_iload_n dX6_dayOf_17 rfl rfl ?_
      refine ev_iload_n dX6_dayOf_18 rfl rfl ?_
      refine ev_callV2 kX6_145 mX6_dayIn dX6_dayOf_19 rfl rfl (Nat.le_of_ble_eq_true rfl) (Nat.le_of_ble_eq_true rfl) (by decide) rfl hw.o (e6_dayIn hw hI hJ (by omega) (by omega)) ?_
      refine ev_goto (tgt := 27) dX6_dayOf_22 (by decide) ?_
      exact ev_ireI dX6_dayOf_27 (by unfold sDayOf; first | rw [if_pos (by omega)] | rw [if_neg (by omega)])
theorem e6_hourOf {p t : Int} (hw : MW h o A) (hI : mI0 (A 0)) (hJ : mIP (A 0)) (rp : -2147483648 ≤ p ∧ p < 2147483648) (rt : -2147483648 ≤ t ∧ t < 2147483648) : Ev l 2 yX6_hourOf.cls yX6_hourOf.name cX6_hourOf 4 (some .int) 0 [some (.ref 34), some (.int (iI p)), some (.int (iI t)), none] [] h (some (.int (iI (sHourOf (A 0) p t)))) h := by
  have i := hI
  obtain ⟨⟨i1, i2⟩, ⟨i3, i4⟩, i5, i6⟩ := i
  have b1 := eS_b (A 0) (A 0 (3 + 4 * p + 0))
  refine ev_aload_n dX6_hourOf_0 rfl rfl ?_
  refine ev_iload_n dX6_hourOf_1 rfl rfl ?_
  refine ev_callV1 kX6_103 mX6_isPlace dX6_hourOf_2 rfl rfl (Nat.le_of_ble_eq_true rfl) (Nat.le_of_ble_eq_true rfl) (by decide) rfl hw.o (e6_isPlace hw hI (by omega)) ?_
  refine ev_ifd_eq (tgt := 16) dX6_hourOf_5 (by decide) rfl (fun c5 => ?_) (fun c5 => ?_)
  · refine ev_iconst (iI (-1)) dX6_hourOf_16 rfl (by decide) ?_
    exact ev_ireI dX6_hourOf_17 (by unfold sHourOf; first | (rw [if_pos (by omega)]; omega) | rw [if_neg (by omega)])
  · refine ev_iload_n dX6_hourOf_8 rfl rfl ?_
    refine ev_i2lI dX6_hourOf_9 rfl (by omega) ?_
    refine ev_callS1 kX6_141 mX6_isMinute dX6_hourOf_10 rfl rfl (Nat.le_of_ble_eq_true rfl) (Nat.le_of_ble_eq_true rfl) (by decide) (e6_isMinute (by omega)) ?_
    refine ev_ifd_ne (tgt := 18) dX6_hourOf_13 (by decide) rfl (fun c13 => ?_) (fun c13 => ?_)
    · refine ev_iload_n dX6_hourOf_18 rfl rfl ?_
      refine ev_sipush (iI (720)) dX6_hourOf_19 rfl (by decide) ?_
      refine ev_isubI dX6_hourOf_22 rfl ?_
      refine ev_iconst (iI (4)) dX6_hourOf_23 rfl (by decide) ?_
      refine ev_aload_n dX6_hourOf_24 rfl rfl ?_
      refine ev_aload_n dX6_hourOf_25 rfl rfl ?_
      refine ev_iload_n dX6_hourOf_26 rfl rfl ?_
      refine ev_iconst (iI (0)) dX6_hourOf_27 rfl (by decide) ?_
      refine ev_callV2 kX6_108 mX6_get dX6_hourOf_28 rfl rfl (Nat.le_of_ble_eq_true rfl) (Nat.le_of_ble_eq_true rfl) (by decide) rfl hw.o (e6_get hw (by omega)) ?_
      refine ev_callV1 kX6_133 mX6_eastOf dX6_hourOf_31 rfl rfl (Nat.le_of_ble_eq_true rfl) (Nat.le_of_ble_eq_true rfl) (by decide) rfl hw.o (e6_eastOf hw hI (hJ p (by omega) (by omega)).1) ?_
      refine ev_imulI dX6_hourOf_34 rfl ?_
      refine ev_iaddI dX6_hourOf_35 rfl ?_
      refine ev_istore_3 dX6_hourOf_36 rfl (by decide) rfl ?_
      refine ev_iload_n dX6_hourOf_37 rfl rfl ?_
      refine ev_i2lI dX6_hourOf_38 rfl (by omega) ?_
      refine ev_ldc2I (1440) nX6_127 dX6_hourOf_39 rfl (by decide) ?_
      refine ev_iload_n dX6_hourOf_42 rfl rfl ?_
      refine ev_i2lI dX6_hourOf_43 rfl (by omega) ?_
      refine ev_ldc2I (1440) nX6_127 dX6_hourOf_44 rfl (by decide) ?_
      refine ev_callS2 kX6_129 mX6_floor dX6_hourOf_47 rfl rfl (Nat.le_of_ble_eq_true rfl) (Nat.le_of_ble_eq_true rfl) (by decide) (e6_floor (by omega) (by omega)) ?_
      refine ev_lmulI dX6_hourOf_50 rfl ?_
      refine ev_lsubI dX6_hourOf_51 rfl ?_
      refine ev_l2iI dX6_hourOf_52 rfl ?_
      exact ev_ireI dX6_hourOf_53 (by unfold sHourOf; first | (rw [if_pos (by omega)]; omega) | rw [if_neg (by omega)])
    · refine ev_iconst (iI (-1)) dX6_hourOf_16 rfl (by decide) ?_
      exact ev_ireI dX6_hourOf_17 (by unfold sHourOf; first | (rw [if_pos (by omega)]; omega) | rw [if_neg (by omega)])
theorem e6_becomes {a z : Int} (hw : MW h o A) (ha : 0 ≤ a ∧ a < 503) : Ex l 0 yX6_becomes.cls yX6_becomes.name cX6_becomes 4 (some .int) 0 [some (.ref 34), some (.int (iI a)), some (.int (iI z)), none] [] h (fun v h2 => v = some (.int (iI (A 0 a))) ∧ MW h2 o (upA A 0 (upI (A 0) a z)) ∧ FrM h h2) := by
  have fr := FrM.rf h
  refine ex_of (fun _ _ => ev_aload_n dX6_becomes_0 rfl rfl) ?_
  refine ex_of (fun _ _ => ev_getfield fX6_9 dX6_becomes_1 rfl hw.o rfl) ?_
  refine ex_of (fun _ _ => ev_iload_n dX6_becomes_4 rfl rfl) ?_
  refine ex_of (fun _ _ => ev_ialoadI dX6_becomes_5 rfl hw.a0 (by decide) (by omega)) ?_
  refine ex_of (fun _ _ => ev_istore_3 dX6_becomes_6 rfl (by decide) rfl) ?_
  refine ex_of (fun _ _ => ev_aload_n dX6_becomes_7 rfl rfl) ?_
  refine ex_of (fun _ _ => ev_getfield fX6_9 dX6_becomes_8 rfl hw.o rfl) ?_
  refine ex_of (fun _ _ => ev_iload_n dX6_becomes_11 rfl rfl) ?_
  refine ex_of (fun _ _ => ev_iload_n dX6_becomes_12 rfl rfl) ?_
  refine xst_0 dX6_becomes_13 rfl hw fr (by omega) (fun h hw fr => ?_)
  refine ex_of (fun _ _ => ev_iload_n dX6_becomes_14 rfl rfl) ?_
  exact ex_end (ev_iret dX6_becomes_15 rfl) (⟨rfl, hw, fr⟩)
def sChoose (S : Int → Int) (p n : Int) : Int := if (0 ≤ p ∧ p < S 0) ∧ (-1 ≤ n ∧ n ≤ 1) then S (3 + 4 * p + 2) else -1000000001
def sChooseS (S : Int → Int) (p n : Int) : Int → Int := if (0 ≤ p ∧ p < S 0) ∧ (-1 ≤ n ∧ n ≤ 1) then upI S (3 + 4 * p + 2) n else S
def sLine (S : Int → Int) (g : Int) : Int := if 0 ≤ g ∧ g ≤ 359 then S 2 else -1
def sLineS (S : Int → Int) (g : Int) : Int → Int := if 0 ≤ g ∧ g ≤ 359 then upI S 2 g else S
theorem upA_id (A : Nat → Int → Int) (k : Nat) : upA A k (A k) = A := by funext j; unfold upA; split; rename_i h; rw [h]; rfl
theorem e6_choose {p n : Int} (hw : MW h o A) (hI : mI0 (A 0)) (rp : -2147483648 ≤ p ∧ p < 2147483648) (rn : -2147483648 ≤ n ∧ n < 2147483648) : Ex l 2 yX6_choose.cls yX6_choose.name cX6_choose 3 (some .int) 0 [some (.ref 34), some (.int (iI p)), some (.int (iI n))] [] h (fun v h2 => v = some (.int (iI (sChoose (A 0) p n))) ∧ MW h2 o (upA A 0 (sChooseS (A 0) p n)) ∧ FrM h h2) := by
  have i := hI
  obtain ⟨⟨i1, i2⟩, ⟨i3, i4⟩, i5, i6⟩ := i
  refine ex_of (fun _ _ => ev_aload_n dX6_choose_0 rfl rfl) ?_
  refine ex_of (fun _ _ => ev_iload_n dX6_choose_1 rfl rfl) ?_
  refine ex_of (fun _ _ => ev_callV1 kX6_103 mX6_isPlace dX6_choose_2 rfl rfl (Nat.le_of_ble_eq_true rfl) (Nat.le_of_ble_eq_true rfl) (by decide) rfl hw.o (e6_isPlace hw hI (by omega))) ?_
  refine ex_ifd_eq (tgt := 35) dX6_choose_5 (by decide) rfl (fun c5 => ?_) (fun c5 => ?_)
  · refine ex_of (fun _ _ => ev_ldcI (-1000000001) nX6_111 dX6_choose_35 rfl (by decide)) ?_
    exact ex_end (ev_iret dX6_choose_37 rfl) (by unfold sChoose sChooseS; first | (rw [if_pos (by omega), if_pos (by omega)]; exact ⟨rfl, hw1, fr1⟩) | (rw [if_neg (by omega), if_neg (by omega), upA_id]; exact ⟨rfl, hw, FrM.rf h⟩))
  · refine ex_of (fun _ _ => ev_iload_n dX6_choose_8 rfl rfl) ?_
    refine ex_of (fun _ _ => ev_i2lI dX6_choose_9 rfl (by omega)) ?_
    refine ex_of (fun _ _ => ev_ldc2I (-1) nX6_112 dX6_choose_10 rfl (by decide)) ?_
    refine ex_of (fun _ _ => ev_lconst (jJ (1)) dX6_choose_13 rfl (by decide)) ?_
    refine ex_of (fun _ _ => ev_callS3 kX6_48 mX6_isIn dX6_choose_14 rfl rfl (Nat.le_of_ble_eq_true rfl) (Nat.le_of_ble_eq_true rfl) (by decide) (e6_isIn (by omega) (by omega) (by omega))) ?_
    refine ex_ifd_eq (tgt := 35) dX6_choose_17 (by decide) rfl (fun c17 => ?_) (fun c17 => ?_)
    · refine ex_of (fun _ _ => ev_ldcI (-1000000001) nX6_111 dX6_choose_35 rfl (by decide)) ?_
      exact ex_end (ev_iret dX6_choose_37 rfl) (by unfold sChoose sChooseS; first | (rw [if_pos (by omega), if_pos (by omega)]; exact ⟨rfl, hw1, fr1⟩) | (rw [if_neg (by omega), if_neg (by omega), upA_id]; exact ⟨rfl, hw, FrM.rf h⟩))
    · refine ex_of (fun _ _ => ev_aload_n dX6_choose_20 rfl rfl) ?_
      refine ex_of (fun _ _ => ev_iconst (iI (3)) dX6_choose_21 rfl (by decide)) ?_
      refine ex_of (fun _ _ => ev_iconst (iI (4)) dX6_choose_22 rfl (by decide)) ?_
      refine ex_of (fun _ _ => ev_iload_n dX6_choose_23 rfl rfl) ?_
      refine ex_of (fun _ _ => ev_imulI dX6_choose_24 rfl) ?_
      refine ex_of (fun _ _ => ev_iaddI dX6_choose_25 rfl) ?_
      refine ex_of (fun _ _ => ev_iconst (iI (2)) dX6_choose_26 rfl (by decide)) ?_
      refine ex_of (fun _ _ => ev_iaddI dX6_choose_27 rfl) ?_
      refine ex_of (fun _ _ => ev_iload_n dX6_choose_28 rfl rfl) ?_
      have hO := hw.o
      obtain ⟨w1, h1, E1, rfl, hw1, fr1⟩ := e6_becomes (l := l) (a := 3 + 4 * p + 2) (z := n) hw (by omega)
      refine ex_of (fun _ _ => ev_callV2 kX6_114 mX6_becomes dX6_choose_29 rfl rfl (Nat.le_of_ble_eq_true rfl) (Nat.le_of_ble_eq_true rfl) (by decide) rfl hO E1) ?_
      refine ex_of (fun _ _ => ev_goto (tgt := 37) dX6_choose_32 (by decide)) ?_
      exact ex_end (ev_iret dX6_choose_37 rfl) (by unfold sChoose sChooseS; first | (rw [if_pos (by omega), if_pos (by omega)]; exact ⟨rfl, hw1, fr1⟩) | (rw [if_neg (by omega), if_neg (by omega), upA_id]; exact ⟨rfl, hw, FrM.rf h⟩))
theorem e6_line {g : Int} (hw : MW h o A) (hI : mI0 (A 0)) (rg : -2147483648 ≤ g ∧ g < 2147483648) : Ex l 2 yX6_line.cls yX6_line.name cX6_line 2 (some .int) 0 [some (.ref 34), some (.int (iI g))] [] h (fun v h2 => v = some (.int (iI (sLine (A 0) g))) ∧ MW h2 o (upA A 0 (sLineS (A 0) g)) ∧ FrM h h2) := by
  have i := hI
  obtain ⟨⟨i1, i2⟩, ⟨i3, i4⟩, i5, i6⟩ := i
  refine ex_of (fun _ _ => ev_iload_n dX6_line_0 rfl rfl) ?_
  refine ex_of (fun _ _ => ev_i2lI dX6_line_1 rfl (by omega)) ?_
  refine ex_of (fun _ _ => ev_lconst (jJ (0)) dX6_line_2 rfl (by decide)) ?_
  refine ex_of (fun _ _ => ev_ldc2I (359) nX6_117 dX6_line_3 rfl (by decide)) ?_
  refine ex_of (fun _ _ => ev_callS3 kX6_48 mX6_isIn dX6_line_6 rfl rfl (Nat.le_of_ble_eq_true rfl) (Nat.le_of_ble_eq_true rfl) (by decide) (e6_isIn (by omega) (by omega) (by omega))) ?_
  refine ex_ifd_eq (tgt := 21) dX6_line_9 (by decide) rfl (fun c9 => ?_) (fun c9 => ?_)
  · refine ex_of (fun _ _ => ev_iconst (iI (-1)) dX6_line_21 rfl (by decide)) ?_
    exact ex_end (ev_iret dX6_line_22 rfl) (by unfold sLine sLineS; first | (rw [if_pos (by omega), if_pos (by omega)]; exact ⟨rfl, hw1, fr1⟩) | (rw [if_neg (by omega), if_neg (by omega), upA_id]; exact ⟨rfl, hw, FrM.rf h⟩))
  · refine ex_of (fun _ _ => ev_aload_n dX6_line_12 rfl rfl) ?_
    refine ex_of (fun _ _ => ev_iconst (iI (2)) dX6_line_13 rfl (by decide)) ?_
    refine ex_of (fun _ _ => ev_iload_n dX6_line_14 rfl rfl) ?_
    have hO := hw.o
    obtain ⟨w1, h1, E1, rfl, hw1, fr1⟩ := e6_becomes (l := l) (a := 2) (z := g) hw (by omega)
    refine ex_of (fun _ _ => ev_callV2 kX6_114 mX6_becomes dX6_line_15 rfl rfl (Nat.le_of_ble_eq_true rfl) (Nat.le_of_ble_eq_true rfl) (by decide) rfl hO E1) ?_
    refine ex_of (fun _ _ => ev_goto (tgt := 22) dX6_line_18 (by decide)) ?_
    exact ex_end (ev_iret dX6_line_22 rfl) (by unfold sLine sLineS; first | (rw [if_pos (by omega), if_pos (by omega)]; exact ⟨rfl, hw1, fr1⟩) | (rw [if_neg (by omega), if_neg (by omega), upA_id]; exact ⟨rfl, hw, FrM.rf h⟩))
end MC
