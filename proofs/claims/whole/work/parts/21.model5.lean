section MF
variable {l : Launch} {A : Nat → Int → Int}
/-- nothing but what is worked out anew is changed -/
def scP (h0 : ev_H) (o0 : Nat → Int) (A : Nat → Int → Int) (r : Option Value) : Option Value → ev_H → Prop := fun v h2 => v = r ∧ ∃ o2, MW h2 o2 A ∧ FrM h0 h2 ∧ ∀ j, j < 19 → o2 j = o0 j
variable {h : ev_H} {o : Nat → Int}
theorem e6_chgL {k t : Int} (hw : MW h o A) (hI : mI0 (A 0)) (hJ : mIP (A 0)) (hk : 0 ≤ k ∧ k < 8) (hT : mT (A 0) k) (ht : -100000 ≤ t ∧ t ≤ 100000) : ∀ (n i : Nat) (a4 : Option Value), A 0 (143 + 45 * k + 28) = i + n → Ev l 1 yX6_changesTo.cls yX6_changesTo.name cX6_changesTo 5 (some .int) 5 [some (.ref 34), some (.int (iI k)), some (.int (iI t)), some (.int (iI (chS (A 0) k t i))), some (.int (iI (i : Int)))] [] h (some (.int (iI (sChg (A 0) k t)))) h := by
  intro n
  obtain ⟨⟨i1, i2⟩, ⟨i3, i4⟩, i5, i6⟩ := id hI
  obtain ⟨t0, t1, t2, t3, t4, t5, t6, t7⟩ := id hT
  induction n with
  | zero =>
    intro i a4 hn
    refine ev_iload (pc' := 7) dX6_changesTo_5 rfl rfl ?_
    refine ev_aload_n (pc' := 8) dX6_changesTo_7 rfl rfl ?_
    refine ev_iload_n (pc' := 9) dX6_changesTo_8 rfl rfl ?_
    refine ev_bipush (pc' := 11) (iI (28)) dX6_changesTo_9 rfl (by decide) ?_
    refine ev_callV2 (pc' := 14) kX6_150 mX6_tell dX6_changesTo_11 rfl rfl (Nat.le_of_ble_eq_true rfl) (Nat.le_of_ble_eq_true rfl) (by decide) rfl hw.o (e6_tell hw (by omega)) ?_
    refine ev_icmpI_ge (pc' := 17) (tgt := 58) dX6_changesTo_14 (by decide) rfl (by omega) (by omega) (fun c14 => ?_) (fun c14 => ?_)
    · refine ev_iload_n (pc' := 59) dX6_changesTo_58 rfl rfl ?_
      exact ev_ireI dX6_changesTo_59 (by unfold sChg; rw [hn]; simp)
    · omega
  | succ n ih =>
    intro i a4 hn
    obtain ⟨u1, u2⟩ := t6 (i : Int) (by omega) (by omega)
    refine ev_iload (pc' := 7) dX6_changesTo_5 rfl rfl ?_
    refine ev_aload_n (pc' := 8) dX6_changesTo_7 rfl rfl ?_
    refine ev_iload_n (pc' := 9) dX6_changesTo_8 rfl rfl ?_
    refine ev_bipush (pc' := 11) (iI (28)) dX6_changesTo_9 rfl (by decide) ?_
    refine ev_callV2 (pc' := 14) kX6_150 mX6_tell dX6_changesTo_11 rfl rfl (Nat.le_of_ble_eq_true rfl) (Nat.le_of_ble_eq_true rfl) (by decide) rfl hw.o (e6_tell hw (by omega)) ?_
    refine ev_icmpI_ge (pc' := 17) (tgt := 58) dX6_changesTo_14 (by decide) rfl (by omega) (by omega) (fun c14 => ?_) (fun c14 => ?_)
    · omega
    · refine ev_iload_n (pc' := 18) dX6_changesTo_17 rfl rfl ?_
      refine ev_aload_n (pc' := 19) dX6_changesTo_18 rfl rfl ?_
      refine ev_iload_n (pc' := 20) dX6_changesTo_19 rfl rfl ?_
      refine ev_bipush (pc' := 22) (iI (29)) dX6_changesTo_20 rfl (by decide) ?_
      refine ev_iconst (pc' := 23) (iI (2)) dX6_changesTo_22 rfl (by decide) ?_
      refine ev_iload (pc' := 25) dX6_changesTo_23 rfl rfl ?_
      refine ev_imulI (pc' := 26) dX6_changesTo_25 rfl ?_
      refine ev_iaddI (pc' := 27) dX6_changesTo_26 rfl ?_
      refine ev_callV2 (pc' := 30) kX6_150 mX6_tell dX6_changesTo_27 rfl rfl (Nat.le_of_ble_eq_true rfl) (Nat.le_of_ble_eq_true rfl) (by decide) rfl hw.o (e6_tell hw (by omega)) ?_
      refine ev_iload_n (pc' := 31) dX6_changesTo_30 rfl rfl ?_
      refine ev_icmpI_gt (pc' := 34) (tgt := 49) dX6_changesTo_31 (by decide) rfl (by omega) (by omega) (fun c31 => ?_) (fun c31 => ?_)
      · refine ev_iconst (pc' := 50) (iI (0)) dX6_changesTo_49 rfl (by decide) ?_
        refine ev_iaddI (pc' := 51) dX6_changesTo_50 rfl ?_
        refine ev_istore_3 (pc' := 52) dX6_changesTo_51 rfl (by decide) rfl ?_
        refine ev_iincI_4 (pc' := 55) dX6_changesTo_52 rfl (by decide) rfl ?_
        refine ev_goto (tgt := 5) dX6_changesTo_55 (by decide) ?_
        have K := ih (i + 1) a4 (by omega)
        refine ev_ll ?_ K
        show _ = [_, _, _, some (Value.int (iI (chS (A 0) k t i + if A 0 (143 + 45 * k + (29 + 2 * (i : Int))) ≤ t then A 0 (143 + 45 * k + (30 + 2 * (i : Int))) else 0))), some (Value.int (iI ((i + 1 : Nat) : Int)))]
        first | rw [if_pos (by omega)] | rw [if_neg (by omega)]
        rfl
      · refine ev_aload_n (pc' := 35) dX6_changesTo_34 rfl rfl ?_
        refine ev_iload_n (pc' := 36) dX6_changesTo_35 rfl rfl ?_
        refine ev_bipush (pc' := 38) (iI (30)) dX6_changesTo_36 rfl (by decide) ?_
        refine ev_iconst (pc' := 39) (iI (2)) dX6_changesTo_38 rfl (by decide) ?_
        refine ev_iload (pc' := 41) dX6_changesTo_39 rfl rfl ?_
        refine ev_imulI (pc' := 42) dX6_changesTo_41 rfl ?_
        refine ev_iaddI (pc' := 43) dX6_changesTo_42 rfl ?_
        refine ev_callV2 (pc' := 46) kX6_150 mX6_tell dX6_changesTo_43 rfl rfl (Nat.le_of_ble_eq_true rfl) (Nat.le_of_ble_eq_true rfl) (by decide) rfl hw.o (e6_tell hw (by omega)) ?_
        refine ev_goto (tgt := 50) dX6_changesTo_46 (by decide) ?_
        refine ev_iaddI (pc' := 51) dX6_changesTo_50 rfl ?_
        refine ev_istore_3 (pc' := 52) dX6_changesTo_51 rfl (by decide) rfl ?_
        refine ev_iincI_4 (pc' := 55) dX6_changesTo_52 rfl (by decide) rfl ?_
        refine ev_goto (tgt := 5) dX6_changesTo_55 (by decide) ?_
        have K := ih (i + 1) a4 (by omega)
        refine ev_ll ?_ K
        show _ = [_, _, _, some (Value.int (iI (chS (A 0) k t i + if A 0 (143 + 45 * k + (29 + 2 * (i : Int))) ≤ t then A 0 (143 + 45 * k + (30 + 2 * (i : Int))) else 0))), some (Value.int (iI ((i + 1 : Nat) : Int)))]
        first | rw [if_pos (by omega)] | rw [if_neg (by omega)]
        rfl
theorem e6_changesTo {k t : Int} (hw : MW h o A) (hI : mI0 (A 0)) (hJ : mIP (A 0)) (hk : 0 ≤ k ∧ k < 8) (hT : mT (A 0) k) (ht : -100000 ≤ t ∧ t ≤ 100000) : Ev l 1 yX6_changesTo.cls yX6_changesTo.name cX6_changesTo 5 (some .int) 0 [some (.ref 34), some (.int (iI k)), some (.int (iI t)), none, none] [] h (some (.int (iI (sChg (A 0) k t)))) h := by
  obtain ⟨⟨i1, i2⟩, ⟨i3, i4⟩, i5, i6⟩ := id hI
  obtain ⟨t0, t1, t2, t3, t4, t5, t6, t7⟩ := id hT
  refine ev_iconst (pc' := 1) (iI (0)) dX6_changesTo_0 rfl (by decide) ?_
  refine ev_istore_3 (pc' := 2) dX6_changesTo_1 rfl (by decide) rfl ?_
  refine ev_iconst (pc' := 3) (iI (0)) dX6_changesTo_2 rfl (by decide) ?_
  refine ev_istore_4 (pc' := 5) dX6_changesTo_3 rfl (by decide) rfl ?_
  exact e6_chgL hw hI hJ hk hT ht (A 0 (143 + 45 * k + 28)).toNat 0 none (by omega)
theorem e6_dayAs {k kd t : Int} (hw : MW h o A) (hI : mI0 (A 0)) (hJ : mIP (A 0)) (hk : 0 ≤ k ∧ k < 8) (hT : mT (A 0) k) (ht : -100000 ≤ t ∧ t ≤ 100000) (hkd : 0 ≤ kd ∧ kd ≤ 7) : Ex l 4 yX6_dayAs.cls yX6_dayAs.name cX6_dayAs 5 (some .int) 0 [some (.ref 34), some (.int (iI k)), some (.int (iI kd)), some (.int (iI t)), none] [] h (scP h o A (some (.int (iI (sDayAs (A 0) (mea (A 0) k) k kd t))))) := by
  obtain ⟨⟨i1, i2⟩, ⟨i3, i4⟩, i5, i6⟩ := id hI
  obtain ⟨t0, t1, t2, t3, t4, t5, t6, t7⟩ := id hT
  refine ex_of (fun _ _ => ev_aload_n (pc' := 1) dX6_dayAs_0 rfl rfl) ?_
  refine ex_of (fun _ _ => ev_iload_n (pc' := 2) dX6_dayAs_1 rfl rfl) ?_
  refine ex_of (fun _ _ => ev_iload_n (pc' := 3) dX6_dayAs_2 rfl rfl) ?_
  have hO := hw.o
  obtain ⟨w1, h1, E1, rfl, o1, hw, fr1, hs, hr⟩ := e6_findWhere (l := l) hw hI hJ hk hT ht
  refine ex_of (fun _ _ => ev_callV2v (pc' := 6) kX6_182 mX6_findWhere dX6_dayAs_3 rfl rfl (Nat.le_of_ble_eq_true rfl) (Nat.le_of_ble_eq_true rfl) (by decide) rfl hO E1) ?_
  obtain ⟨fa, fb, fc, fd, hf, g1, g2, g3, g4⟩ := fw_b (ea := mea (A 0) k) hT ht.2
  have q := hr
  rw [hf] at q
  simp only [Prod.mk.injEq] at q
  obtain ⟨q1, q2, q3, q4⟩ := q
  have b1 : -100000000 ≤ o1 19 ∧ o1 19 ≤ 100000000 := by omega
  have b2 : 0 < o1 20 ∧ o1 20 ≤ 12000 := by omega
  have b4 : o1 21 = -4 ∨ (0 ≤ o1 21 ∧ o1 21 < A 0 0) := by omega
  have eD : sDayAs (A 0) (mea (A 0) k) k kd t = sDay (A 0) k kd t (o1 19) (o1 20) (o1 21) (o1 22) := by unfold sDayAs; rw [← hr]
  obtain ⟨v1, -⟩ := hJ _ t1.1 t1.2
  have e1 := eS_b (A 0) (A 0 (3 + 4 * A 0 (143 + 45 * k + 1) + 0))
  have b3 := mul_bd (x := eS (A 0) (A 0 (3 + 4 * A 0 (143 + 45 * k + 1) + 0))) (y := o1 20) (X := 360) (Y := 12000) (by omega) (by omega)
  have e3 : -200000000 ≤ eN (A 0) k (o1 19) (o1 20) ∧ eN (A 0) k (o1 19) (o1 20) ≤ 200000000 := by unfold eN; omega
  have e4 := Int.emod_nonneg (eN (A 0) k (o1 19) (o1 20)) (show 360 * o1 20 ≠ 0 by omega)
  have e5 := Int.emod_lt_of_pos (eN (A 0) k (o1 19) (o1 20)) (show 0 < 360 * o1 20 by omega)
  refine ex_of (fun _ _ => ev_aload_n (pc' := 7) dX6_dayAs_6 rfl rfl) ?_
  refine ex_of (fun _ _ => ev_iload_n (pc' := 8) dX6_dayAs_7 rfl rfl) ?_
  refine ex_of (fun _ _ => ev_iconst (pc' := 9) (iI (1)) dX6_dayAs_8 rfl (by decide)) ?_
  refine ex_of (fun _ _ => ev_callV2 (pc' := 12) kX6_150 mX6_tell dX6_dayAs_9 rfl rfl (Nat.le_of_ble_eq_true rfl) (Nat.le_of_ble_eq_true rfl) (by decide) rfl hw.o (e6_tell hw (by omega))) ?_
  refine ex_of (fun _ _ => ev_istore_4 (pc' := 14) dX6_dayAs_12 rfl (by decide) rfl) ?_
  refine ex_of (fun _ _ => ev_iload_n (pc' := 15) dX6_dayAs_14 rfl rfl) ?_
  by_cases c15_1 : kd = 1
  · refine ex_of (fun _ _ => ev_tableInI dX6_dayAs_15 c15_1 (by decide) (by decide) (by decide) (off := 41) (by decide) (tgt := 56) (by decide)) ?_
    refine ex_of (fun _ _ => ev_aload_n (pc' := 57) dX6_dayAs_56 rfl rfl) ?_
    refine ex_of (fun _ _ => ev_iload_n (pc' := 58) dX6_dayAs_57 rfl rfl) ?_
    refine ex_of (fun _ _ => ev_iload_n (pc' := 59) dX6_dayAs_58 rfl rfl) ?_
    refine ex_of (fun _ _ => ev_callV2 (pc' := 62) kX6_193 mX6_seenDay dX6_dayAs_59 rfl rfl (Nat.le_of_ble_eq_true rfl) (Nat.le_of_ble_eq_true rfl) (by decide) rfl hw.o (e6_seenDay hw hI hJ hk hT b1 b2 ht)) ?_
    exact ex_end (ev_iret dX6_dayAs_62 rfl) (⟨by rw [eD]; unfold sDay; repeat (first | rw [if_pos (by omega)] | rw [if_neg (by omega)]), o1, hw, fr1, hs⟩)
  · skip
    by_cases c15_2 : kd = 2
    · refine ex_of (fun _ _ => ev_tableInI dX6_dayAs_15 c15_2 (by decide) (by decide) (by decide) (off := 48) (by decide) (tgt := 63) (by decide)) ?_
      refine ex_of (fun _ _ => ev_aload_n (pc' := 64) dX6_dayAs_63 rfl rfl) ?_
      refine ex_of (fun _ _ => ev_iload_n (pc' := 65) dX6_dayAs_64 rfl rfl) ?_
      refine ex_of (fun _ _ => ev_iload_n (pc' := 66) dX6_dayAs_65 rfl rfl) ?_
      refine ex_of (fun _ _ => ev_callV2 (pc' := 69) kX6_196 mX6_hereDay dX6_dayAs_66 rfl rfl (Nat.le_of_ble_eq_true rfl) (Nat.le_of_ble_eq_true rfl) (by decide) rfl hw.o (e6_hereDay hw hI hJ hk hT b1 b2 ht b4)) ?_
      exact ex_end (ev_iret dX6_dayAs_69 rfl) (⟨by rw [eD]; unfold sDay; repeat (first | rw [if_pos (by omega)] | rw [if_neg (by omega)]), o1, hw, fr1, hs⟩)
    · skip
      by_cases c15_3 : kd = 3
      · refine ex_of (fun _ _ => ev_tableInI dX6_dayAs_15 c15_3 (by decide) (by decide) (by decide) (off := 55) (by decide) (tgt := 70) (by decide)) ?_
        refine ex_of (fun _ _ => ev_aload_n (pc' := 71) dX6_dayAs_70 rfl rfl) ?_
        refine ex_of (fun _ _ => ev_iload (pc' := 73) dX6_dayAs_71 rfl rfl) ?_
        refine ex_of (fun _ _ => ev_iload_n (pc' := 74) dX6_dayAs_73 rfl rfl) ?_
        refine ex_of (fun _ _ => ev_callV2 (pc' := 77) kX6_145 mX6_dayIn dX6_dayAs_74 rfl rfl (Nat.le_of_ble_eq_true rfl) (Nat.le_of_ble_eq_true rfl) (by decide) rfl hw.o (e6_dayIn hw hI hJ (by omega) ht)) ?_
        exact ex_end (ev_iret dX6_dayAs_77 rfl) (⟨by rw [eD]; unfold sDay; repeat (first | rw [if_pos (by omega)] | rw [if_neg (by omega)]), o1, hw, fr1, hs⟩)
      · skip
        by_cases c15_4 : kd = 4
        · refine ex_of (fun _ _ => ev_tableInI dX6_dayAs_15 c15_4 (by decide) (by decide) (by decide) (off := 63) (by decide) (tgt := 78) (by decide)) ?_
          refine ex_of (fun _ _ => ev_aload_n (pc' := 79) dX6_dayAs_78 rfl rfl) ?_
          refine ex_of (fun _ _ => ev_iload_n (pc' := 80) dX6_dayAs_79 rfl rfl) ?_
          refine ex_of (fun _ _ => ev_iload_n (pc' := 81) dX6_dayAs_80 rfl rfl) ?_
          refine ex_of (fun _ _ => ev_callV2 (pc' := 84) kX6_193 mX6_seenDay dX6_dayAs_81 rfl rfl (Nat.le_of_ble_eq_true rfl) (Nat.le_of_ble_eq_true rfl) (by decide) rfl hw.o (e6_seenDay hw hI hJ hk hT b1 b2 ht)) ?_
          refine ex_of (fun _ _ => ev_aload_n (pc' := 85) dX6_dayAs_84 rfl rfl) ?_
          refine ex_of (fun _ _ => ev_iload_n (pc' := 86) dX6_dayAs_85 rfl rfl) ?_
          refine ex_of (fun _ _ => ev_iload_n (pc' := 87) dX6_dayAs_86 rfl rfl) ?_
          refine ex_of (fun _ _ => ev_callV2 (pc' := 90) kX6_199 mX6_changesTo dX6_dayAs_87 rfl rfl (Nat.le_of_ble_eq_true rfl) (Nat.le_of_ble_eq_true rfl) (by decide) rfl hw.o (e6_changesTo hw hI hJ hk hT ht)) ?_
          refine ex_of (fun _ _ => ev_iaddI (pc' := 91) dX6_dayAs_90 rfl) ?_
          exact ex_end (ev_iret dX6_dayAs_91 rfl) (⟨by rw [eD]; unfold sDay; repeat (first | rw [if_pos (by omega)] | rw [if_neg (by omega)]), o1, hw, fr1, hs⟩)
        · skip
          by_cases c15_5 : kd = 5
          · refine ex_of (fun _ _ => ev_tableInI dX6_dayAs_15 c15_5 (by decide) (by decide) (by decide) (off := 77) (by decide) (tgt := 92) (by decide)) ?_
            refine ex_of (fun _ _ => ev_aload_n (pc' := 93) dX6_dayAs_92 rfl rfl) ?_
            refine ex_of (fun _ _ => ev_iload_n (pc' := 94) dX6_dayAs_93 rfl rfl) ?_
            refine ex_of (fun _ _ => ev_iload_n (pc' := 95) dX6_dayAs_94 rfl rfl) ?_
            refine ex_of (fun _ _ => ev_callV2 (pc' := 98) kX6_193 mX6_seenDay dX6_dayAs_95 rfl rfl (Nat.le_of_ble_eq_true rfl) (Nat.le_of_ble_eq_true rfl) (by decide) rfl hw.o (e6_seenDay hw hI hJ hk hT b1 b2 ht)) ?_
            refine ex_of (fun _ _ => ev_aload_n (pc' := 99) dX6_dayAs_98 rfl rfl) ?_
            refine ex_of (fun _ _ => ev_iload_n (pc' := 100) dX6_dayAs_99 rfl rfl) ?_
            refine ex_of (fun _ _ => ev_callV1 (pc' := 103) kX6_202 mX6_roundsNow dX6_dayAs_100 rfl rfl (Nat.le_of_ble_eq_true rfl) (Nat.le_of_ble_eq_true rfl) (by decide) rfl hw.o (e6_roundsNow hw hI hJ hk hT b1 b2)) ?_
            refine ex_of (fun _ _ => ev_isubI (pc' := 104) dX6_dayAs_103 rfl) ?_
            exact ex_end (ev_iret dX6_dayAs_104 rfl) (⟨by rw [eD]; unfold sDay; repeat (first | rw [if_pos (by omega)] | rw [if_neg (by omega)]), o1, hw, fr1, hs⟩)
          · skip
            by_cases c15_6 : kd = 6
            · refine ex_of (fun _ _ => ev_tableInI dX6_dayAs_15 c15_6 (by decide) (by decide) (by decide) (off := 90) (by decide) (tgt := 105) (by decide)) ?_
              refine ex_of (fun _ _ => ev_aload_n (pc' := 106) dX6_dayAs_105 rfl rfl) ?_
              refine ex_of (fun _ _ => ev_getfield (pc' := 109) fX6_172 dX6_dayAs_106 rfl hw.o rfl) ?_
              refine ex_ifI_lt (pc' := 112) (tgt := 149) dX6_dayAs_109 (by decide) rfl (by omega) (fun c109 => ?_) (fun c109 => ?_)
              · refine ex_of (fun _ _ => ev_aload_n (pc' := 150) dX6_dayAs_149 rfl rfl) ?_
                refine ex_of (fun _ _ => ev_iload (pc' := 152) dX6_dayAs_150 rfl rfl) ?_
                refine ex_of (fun _ _ => ev_iload_n (pc' := 153) dX6_dayAs_152 rfl rfl) ?_
                refine ex_of (fun _ _ => ev_callV2 (pc' := 156) kX6_145 mX6_dayIn dX6_dayAs_153 rfl rfl (Nat.le_of_ble_eq_true rfl) (Nat.le_of_ble_eq_true rfl) (by decide) rfl hw.o (e6_dayIn hw hI hJ (by omega) ht)) ?_
                exact ex_end (ev_iret dX6_dayAs_156 rfl) (⟨by rw [eD]; unfold sDay sHere; repeat (first | rw [if_pos (by omega)] | rw [if_neg (by omega)]), o1, hw, fr1, hs⟩)
              · refine ex_of (fun _ _ => ev_aload_n (pc' := 113) dX6_dayAs_112 rfl rfl) ?_
                refine ex_of (fun _ _ => ev_getfield (pc' := 116) fX6_172 dX6_dayAs_113 rfl hw.o rfl) ?_
                refine ex_of (fun _ _ => ev_iload (pc' := 118) dX6_dayAs_116 rfl rfl) ?_
                refine ex_icmpI_eq (pc' := 121) (tgt := 149) dX6_dayAs_118 (by decide) rfl (by omega) (by omega) (fun c118 => ?_) (fun c118 => ?_)
                · refine ex_of (fun _ _ => ev_aload_n (pc' := 150) dX6_dayAs_149 rfl rfl) ?_
                  refine ex_of (fun _ _ => ev_iload (pc' := 152) dX6_dayAs_150 rfl rfl) ?_
                  refine ex_of (fun _ _ => ev_iload_n (pc' := 153) dX6_dayAs_152 rfl rfl) ?_
                  refine ex_of (fun _ _ => ev_callV2 (pc' := 156) kX6_145 mX6_dayIn dX6_dayAs_153 rfl rfl (Nat.le_of_ble_eq_true rfl) (Nat.le_of_ble_eq_true rfl) (by decide) rfl hw.o (e6_dayIn hw hI hJ (by omega) ht)) ?_
                  exact ex_end (ev_iret dX6_dayAs_156 rfl) (⟨by rw [eD]; unfold sDay sHere; repeat (first | rw [if_pos (by omega)] | rw [if_neg (by omega)]), o1, hw, fr1, hs⟩)
                · refine ex_of (fun _ _ => ev_iload_n (pc' := 122) dX6_dayAs_121 rfl rfl) ?_
                  refine ex_of (fun _ _ => ev_aload_n (pc' := 123) dX6_dayAs_122 rfl rfl) ?_
                  refine ex_of (fun _ _ => ev_getfield (pc' := 126) fX6_175 dX6_dayAs_123 rfl hw.o rfl) ?_
                  refine ex_of (fun _ _ => ev_sipush (pc' := 129) (iI (1440)) dX6_dayAs_126 rfl (by decide)) ?_
                  refine ex_of (fun _ _ => ev_aload_n (pc' := 130) dX6_dayAs_129 rfl rfl) ?_
                  refine ex_of (fun _ _ => ev_iload_n (pc' := 131) dX6_dayAs_130 rfl rfl) ?_
                  refine ex_of (fun _ _ => ev_iconst (pc' := 132) (iI (2)) dX6_dayAs_131 rfl (by decide)) ?_
                  refine ex_of (fun _ _ => ev_callV2 (pc' := 135) kX6_150 mX6_tell dX6_dayAs_132 rfl rfl (Nat.le_of_ble_eq_true rfl) (Nat.le_of_ble_eq_true rfl) (by decide) rfl hw.o (e6_tell hw (by omega))) ?_
                  refine ex_of (fun _ _ => ev_imulI (pc' := 136) dX6_dayAs_135 rfl) ?_
                  refine ex_of (fun _ _ => ev_iaddI (pc' := 137) dX6_dayAs_136 rfl) ?_
                  refine ex_icmpI_lt (pc' := 140) (tgt := 149) dX6_dayAs_137 (by decide) rfl (by omega) (by omega) (fun c137 => ?_) (fun c137 => ?_)
                  · refine ex_of (fun _ _ => ev_aload_n (pc' := 150) dX6_dayAs_149 rfl rfl) ?_
                    refine ex_of (fun _ _ => ev_iload (pc' := 152) dX6_dayAs_150 rfl rfl) ?_
                    refine ex_of (fun _ _ => ev_iload_n (pc' := 153) dX6_dayAs_152 rfl rfl) ?_
                    refine ex_of (fun _ _ => ev_callV2 (pc' := 156) kX6_145 mX6_dayIn dX6_dayAs_153 rfl rfl (Nat.le_of_ble_eq_true rfl) (Nat.le_of_ble_eq_true rfl) (by decide) rfl hw.o (e6_dayIn hw hI hJ (by omega) ht)) ?_
                    exact ex_end (ev_iret dX6_dayAs_156 rfl) (⟨by rw [eD]; unfold sDay sHere; repeat (first | rw [if_pos (by omega)] | rw [if_neg (by omega)]), o1, hw, fr1, hs⟩)
                  · refine ex_of (fun _ _ => ev_aload_n (pc' := 141) dX6_dayAs_140 rfl rfl) ?_
                    refine ex_of (fun _ _ => ev_iload_n (pc' := 142) dX6_dayAs_141 rfl rfl) ?_
                    refine ex_of (fun _ _ => ev_iload_n (pc' := 143) dX6_dayAs_142 rfl rfl) ?_
                    refine ex_of (fun _ _ => ev_callV2 (pc' := 146) kX6_196 mX6_hereDay dX6_dayAs_143 rfl rfl (Nat.le_of_ble_eq_true rfl) (Nat.le_of_ble_eq_true rfl) (by decide) rfl hw.o (e6_hereDay hw hI hJ hk hT b1 b2 ht b4)) ?_
                    refine ex_of (fun _ _ => ev_goto (tgt := 156) dX6_dayAs_146 (by decide)) ?_
                    exact ex_end (ev_iret dX6_dayAs_156 rfl) (⟨by rw [eD]; unfold sDay sHere; repeat (first | rw [if_pos (by omega)] | rw [if_neg (by omega)]), o1, hw, fr1, hs⟩)
            · skip
              by_cases c15_7 : kd = 7
              · refine ex_of (fun _ _ => ev_tableInI dX6_dayAs_15 c15_7 (by decide) (by decide) (by decide) (off := 142) (by decide) (tgt := 157) (by decide)) ?_
                refine ex_of (fun _ _ => ev_aload_n (pc' := 158) dX6_dayAs_157 rfl rfl) ?_
                refine ex_of (fun _ _ => ev_iload (pc' := 160) dX6_dayAs_158 rfl rfl) ?_
                refine ex_of (fun _ _ => ev_iload_n (pc' := 161) dX6_dayAs_160 rfl rfl) ?_
                refine ex_of (fun _ _ => ev_callV2 (pc' := 164) kX6_145 mX6_dayIn dX6_dayAs_161 rfl rfl (Nat.le_of_ble_eq_true rfl) (Nat.le_of_ble_eq_true rfl) (by decide) rfl hw.o (e6_dayIn hw hI hJ (by omega) ht)) ?_
                refine ex_of (fun _ _ => ev_aload_n (pc' := 165) dX6_dayAs_164 rfl rfl) ?_
                refine ex_of (fun _ _ => ev_getfield (pc' := 168) fX6_172 dX6_dayAs_165 rfl hw.o rfl) ?_
                refine ex_ifI_ge (pc' := 171) (tgt := 175) dX6_dayAs_168 (by decide) rfl (by omega) (fun c168 => ?_) (fun c168 => ?_)
                · refine ex_of (fun _ _ => ev_iconst (pc' := 176) (iI (0)) dX6_dayAs_175 rfl (by decide)) ?_
                  refine ex_of (fun _ _ => ev_iaddI (pc' := 177) dX6_dayAs_176 rfl) ?_
                  exact ex_end (ev_iret dX6_dayAs_177 rfl) (⟨by rw [eD]; unfold sDay; repeat (first | rw [if_pos (by omega)] | rw [if_neg (by omega)]), o1, hw, fr1, hs⟩)
                · refine ex_of (fun _ _ => ev_iconst (pc' := 172) (iI (1)) dX6_dayAs_171 rfl (by decide)) ?_
                  refine ex_of (fun _ _ => ev_goto (tgt := 176) dX6_dayAs_172 (by decide)) ?_
                  refine ex_of (fun _ _ => ev_iaddI (pc' := 177) dX6_dayAs_176 rfl) ?_
                  exact ex_end (ev_iret dX6_dayAs_177 rfl) (⟨by rw [eD]; unfold sDay; repeat (first | rw [if_pos (by omega)] | rw [if_neg (by omega)]), o1, hw, fr1, hs⟩)
              · skip
                refine ex_of (fun _ _ => ev_tableOutI dX6_dayAs_15 (by omega) (by omega) (tgt := 178) (by decide)) ?_
                refine ex_of (fun _ _ => ev_aload_n (pc' := 179) dX6_dayAs_178 rfl rfl) ?_
                refine ex_of (fun _ _ => ev_iload_n (pc' := 180) dX6_dayAs_179 rfl rfl) ?_
                refine ex_of (fun _ _ => ev_iconst (pc' := 181) (iI (1)) dX6_dayAs_180 rfl (by decide)) ?_
                refine ex_of (fun _ _ => ev_callV2 (pc' := 184) kX6_189 mX6_eastNow dX6_dayAs_181 rfl rfl (Nat.le_of_ble_eq_true rfl) (Nat.le_of_ble_eq_true rfl) (by decide) rfl hw.o (e6_eastNow1 hw hI hJ hk hT b1 b2)) ?_
                refine ex_of (fun _ _ => ev_aload_n (pc' := 185) dX6_dayAs_184 rfl rfl) ?_
                refine ex_of (fun _ _ => ev_getfield (pc' := 188) fX6_169 dX6_dayAs_185 rfl hw.o rfl) ?_
                refine ex_of (fun _ _ => ev_iconst (pc' := 189) (iI (0)) dX6_dayAs_188 rfl (by decide)) ?_
                refine ex_of (fun _ _ => ev_iload_n (pc' := 190) dX6_dayAs_189 rfl rfl) ?_
                refine ex_of (fun _ _ => ev_callS4 (pc' := 193) kX6_137 mX6_dayAt dX6_dayAs_190 rfl rfl (Nat.le_of_ble_eq_true rfl) (Nat.le_of_ble_eq_true rfl) (by decide) (e6_dayAt (by omega) b2 (by omega) ht)) ?_
                exact ex_end (ev_iret dX6_dayAs_193 rfl) (⟨by rw [eD]; unfold sDay; (repeat (first | rw [if_pos (by omega)] | rw [if_neg (by omega)])); rfl, o1, hw, fr1, hs⟩)
theorem e6_dayNow {k t : Int} (hw : MW h o A) (hI : mI0 (A 0)) (hJ : mIP (A 0)) (hk : 0 ≤ k ∧ k < 8) (hT : mT (A 0) k) (ht : -100000 ≤ t ∧ t ≤ 100000) : Ex l 5 yX6_dayNow.cls yX6_dayNow.name cX6_dayNow 3 (some .int) 0 [some (.ref 34), some (.int (iI k)), some (.int (iI t))] [] h (scP h o A (some (.int (iI (sDayAs (A 0) (mea (A 0) k) k (A 0 (143 + 45 * k + 0)) t))))) := by
  obtain ⟨⟨i1, i2⟩, ⟨i3, i4⟩, i5, i6⟩ := id hI
  obtain ⟨t0, t1, t2, t3, t4, t5, t6, t7⟩ := id hT
  refine ex_of (fun _ _ => ev_aload_n (pc' := 1) dX6_dayNow_0 rfl rfl) ?_
  refine ex_of (fun _ _ => ev_iload_n (pc' := 2) dX6_dayNow_1 rfl rfl) ?_
  refine ex_of (fun _ _ => ev_aload_n (pc' := 3) dX6_dayNow_2 rfl rfl) ?_
  refine ex_of (fun _ _ => ev_iload_n (pc' := 4) dX6_dayNow_3 rfl rfl) ?_
  refine ex_of (fun _ _ => ev_iconst (pc' := 5) (iI (0)) dX6_dayNow_4 rfl (by decide)) ?_
  refine ex_of (fun _ _ => ev_callV2 (pc' := 8) kX6_150 mX6_tell dX6_dayNow_5 rfl rfl (Nat.le_of_ble_eq_true rfl) (Nat.le_of_ble_eq_true rfl) (by decide) rfl hw.o (e6_tell hw (by omega))) ?_
  refine ex_of (fun _ _ => ev_iload_n (pc' := 9) dX6_dayNow_8 rfl rfl) ?_
  have hO := hw.o
  obtain ⟨w1, h1, E1, rfl, o1, hw, fr1, hs⟩ := e6_dayAs (l := l) hw hI hJ hk hT ht t0
  refine ex_of (fun _ _ => ev_callV3 (pc' := 12) kX6_205 mX6_dayAs dX6_dayNow_9 rfl rfl (Nat.le_of_ble_eq_true rfl) (Nat.le_of_ble_eq_true rfl) (by decide) rfl hO E1) ?_
  exact ex_end (ev_iret dX6_dayNow_12 rfl) (⟨rfl, o1, hw, fr1, hs⟩)
def sDayN (S : Int → Int) (k t : Int) : Int := sDayAs S (mea S k) k (S (143 + 45 * k + 0)) t
def sDayQ (S : Int → Int) (k t : Int) : Int := if (0 ≤ k ∧ k < S 1) ∧ (0 ≤ t ∧ t ≤ 19999) then sDayN S k t else -1000000001
def sDayBy (S : Int → Int) (k kd t : Int) : Int := if (0 ≤ k ∧ k < S 1) ∧ (0 ≤ kd ∧ kd ≤ 7) ∧ (0 ≤ t ∧ t ≤ 19999) then sDayAs S (mea S k) k kd t else -1000000001
def sGain (S : Int → Int) (k kd t : Int) : Int := if (0 ≤ k ∧ k < S 1) ∧ (0 ≤ kd ∧ kd ≤ 7) ∧ (0 ≤ t ∧ t ≤ 19999) then sDayAs S (mea S k) k kd t - dP S (S (143 + 45 * k + 1)) t else -1000000001
def sDiffer (S : Int → Int) (a b t : Int) : Int := if (0 ≤ a ∧ a < S 1) ∧ (0 ≤ b ∧ b < S 1) ∧ (0 ≤ t ∧ t ≤ 19999) then sDayN S a t - sDayN S b t else -1000000001
def sIn (S : Int → Int) (k t : Int) : Int := if (0 ≤ k ∧ k < S 1) ∧ (0 ≤ t ∧ t ≤ 19999) then (fw S (mea S k) k t).2.2.1 else -1
def sRounds (S : Int → Int) (k t : Int) : Int := if (0 ≤ k ∧ k < S 1) ∧ (0 ≤ t ∧ t ≤ 19999) then sRnd S k (fw S (mea S k) k t).1 (fw S (mea S k) k t).2.1 else -1000000001
theorem e6_isKind {t : Int} (rt : -2147483648 ≤ t ∧ t < 2147483648) : Ev l 1 yX6_isKind.cls yX6_isKind.name cX6_isKind 1 (some .boolean) 0 [some (.int (iI t))] [] h (some (.int (b2i (decide (0 ≤ t ∧ t ≤ 7))))) h := by
  refine ev_iload_n (pc' := 1) dX6_isKind_0 rfl rfl ?_
  refine ev_i2lI (pc' := 2) dX6_isKind_1 rfl (by omega) ?_
  refine ev_lconst (pc' := 3) (jJ (0)) dX6_isKind_2 rfl (by decide) ?_
  refine ev_ldc2I (pc' := 6) (7) nX6_54 dX6_isKind_3 rfl (by decide) ?_
  refine ev_callS3 (pc' := 9) kX6_48 mX6_isIn dX6_isKind_6 rfl rfl (Nat.le_of_ble_eq_true rfl) (Nat.le_of_ble_eq_true rfl) (by decide) (e6_isIn (by omega) (by omega) (by omega)) ?_
  exact ev_zreE dX6_isKind_9 (b2i_cg (by omega))
theorem e6_day {k t : Int} (hw : MW h o A) (hI : mI0 (A 0)) (hJ : mIP (A 0)) (hK : ∀ k, 0 ≤ k → k < A 0 1 → mT (A 0) k) (rk : -2147483648 ≤ k ∧ k < 2147483648) (rt : -2147483648 ≤ t ∧ t < 2147483648) : Ex l 6 yX6_day.cls yX6_day.name cX6_day 3 (some .int) 0 [some (.ref 34), some (.int (iI k)), some (.int (iI t))] [] h (scP h o A (some (.int (iI (sDayQ (A 0) k t))))) := by
  obtain ⟨⟨i1, i2⟩, ⟨i3, i4⟩, i5, i6⟩ := id hI
  have fr := FrM.rf h
  have hs : ∀ j, j < 19 → o j = o j := fun _ _ => rfl
  refine ex_of (fun _ _ => ev_aload_n (pc' := 1) dX6_day_0 rfl rfl) ?_
  refine ex_of (fun _ _ => ev_iload_n (pc' := 2) dX6_day_1 rfl rfl) ?_
  refine ex_of (fun _ _ => ev_callV1 (pc' := 5) kX6_157 mX6_isOne dX6_day_2 rfl rfl (Nat.le_of_ble_eq_true rfl) (Nat.le_of_ble_eq_true rfl) (by decide) rfl hw.o (e6_isOne hw hI (by omega))) ?_
  refine ex_ifd_eq (pc' := 8) (tgt := 25) dX6_day_5 (by decide) rfl (fun c5 => ?_) (fun c5 => ?_)
  · refine ex_of (fun _ _ => ev_ldcI (pc' := 27) (-1000000001) nX6_111 dX6_day_25 rfl (by decide)) ?_
    exact ex_end (ev_iret dX6_day_27 rfl) (⟨by unfold sDayQ; first | (rw [if_pos (by omega)]; rfl) | rw [if_neg (by omega)], _, hw, fr, hs⟩)
  · refine ex_of (fun _ _ => ev_iload_n (pc' := 9) dX6_day_8 rfl rfl) ?_
    refine ex_of (fun _ _ => ev_i2lI (pc' := 10) dX6_day_9 rfl (by omega)) ?_
    refine ex_of (fun _ _ => ev_callS1 (pc' := 13) kX6_141 mX6_isMinute dX6_day_10 rfl rfl (Nat.le_of_ble_eq_true rfl) (Nat.le_of_ble_eq_true rfl) (by decide) (e6_isMinute (by omega))) ?_
    refine ex_ifd_eq (pc' := 16) (tgt := 25) dX6_day_13 (by decide) rfl (fun c13 => ?_) (fun c13 => ?_)
    · refine ex_of (fun _ _ => ev_ldcI (pc' := 27) (-1000000001) nX6_111 dX6_day_25 rfl (by decide)) ?_
      exact ex_end (ev_iret dX6_day_27 rfl) (⟨by unfold sDayQ; first | (rw [if_pos (by omega)]; rfl) | rw [if_neg (by omega)], _, hw, fr, hs⟩)
    · refine ex_of (fun _ _ => ev_aload_n (pc' := 17) dX6_day_16 rfl rfl) ?_
      refine ex_of (fun _ _ => ev_iload_n (pc' := 18) dX6_day_17 rfl rfl) ?_
      refine ex_of (fun _ _ => ev_iload_n (pc' := 19) dX6_day_18 rfl rfl) ?_
      have hO := hw.o
      obtain ⟨w1, h1, E1, rfl, o1, hw, fr1, hs1⟩ := e6_dayNow (l := l) (k := k) hw hI hJ (by omega) (hK k (by omega) (by omega)) (t := t) (by omega)
      refine ex_of (fun _ _ => ev_callV2 (pc' := 22) kX6_208 mX6_dayNow dX6_day_19 rfl rfl (Nat.le_of_ble_eq_true rfl) (Nat.le_of_ble_eq_true rfl) (by decide) rfl hO E1) ?_
      have fr := fr.tr fr1
      have hs : ∀ j, j < 19 → _ := fun j hj => (hs1 j hj).trans (hs j hj)
      refine ex_of (fun _ _ => ev_goto (tgt := 27) dX6_day_22 (by decide)) ?_
      exact ex_end (ev_iret dX6_day_27 rfl) (⟨by unfold sDayQ; first | (rw [if_pos (by omega)]; rfl) | rw [if_neg (by omega)], _, hw, fr, hs⟩)
theorem e6_dayBy {k kd t : Int} (hw : MW h o A) (hI : mI0 (A 0)) (hJ : mIP (A 0)) (hK : ∀ k, 0 ≤ k → k < A 0 1 → mT (A 0) k) (rk : -2147483648 ≤ k ∧ k < 2147483648) (rkd : -2147483648 ≤ kd ∧ kd < 2147483648) (rt : -2147483648 ≤ t ∧ t < 2147483648) : Ex l 5 yX6_dayBy.cls yX6_dayBy.name cX6_dayBy 4 (some .int) 0 [some (.ref 34), some (.int (iI k)), some (.int (iI kd)), some (.int (iI t))] [] h (scP h o A (some (.int (iI (sDayBy (A 0) k kd t))))) := by
  obtain ⟨⟨i1, i2⟩, ⟨i3, i4⟩, i5, i6⟩ := id hI
  have fr := FrM.rf h
  have hs : ∀ j, j < 19 → o j = o j := fun _ _ => rfl
  refine ex_of (fun _ _ => ev_aload_n (pc' := 1) dX6_dayBy_0 rfl rfl) ?_
  refine ex_of (fun _ _ => ev_iload_n (pc' := 2) dX6_dayBy_1 rfl rfl) ?_
  refine ex_of (fun _ _ => ev_callV1 (pc' := 5) kX6_157 mX6_isOne dX6_dayBy_2 rfl rfl (Nat.le_of_ble_eq_true rfl) (Nat.le_of_ble_eq_true rfl) (by decide) rfl hw.o (e6_isOne hw hI (by omega))) ?_
  refine ex_ifd_eq (pc' := 8) (tgt := 33) dX6_dayBy_5 (by decide) rfl (fun c5 => ?_) (fun c5 => ?_)
  · refine ex_of (fun _ _ => ev_ldcI (pc' := 35) (-1000000001) nX6_111 dX6_dayBy_33 rfl (by decide)) ?_
    exact ex_end (ev_iret dX6_dayBy_35 rfl) (⟨by unfold sDayBy; first | (rw [if_pos (by omega)]) | rw [if_neg (by omega)], _, hw, fr, hs⟩)
  · refine ex_of (fun _ _ => ev_iload_n (pc' := 9) dX6_dayBy_8 rfl rfl) ?_
    refine ex_of (fun _ _ => ev_callS1 (pc' := 12) kX6_211 mX6_isKind dX6_dayBy_9 rfl rfl (Nat.le_of_ble_eq_true rfl) (Nat.le_of_ble_eq_true rfl) (by decide) (e6_isKind (by omega))) ?_
    refine ex_ifd_eq (pc' := 15) (tgt := 33) dX6_dayBy_12 (by decide) rfl (fun c12 => ?_) (fun c12 => ?_)
    · refine ex_of (fun _ _ => ev_ldcI (pc' := 35) (-1000000001) nX6_111 dX6_dayBy_33 rfl (by decide)) ?_
      exact ex_end (ev_iret dX6_dayBy_35 rfl) (⟨by unfold sDayBy; first | (rw [if_pos (by omega)]) | rw [if_neg (by omega)], _, hw, fr, hs⟩)
    · refine ex_of (fun _ _ => ev_iload_n (pc' := 16) dX6_dayBy_15 rfl rfl) ?_
      refine ex_of (fun _ _ => ev_i2lI (pc' := 17) dX6_dayBy_16 rfl (by omega)) ?_
      refine ex_of (fun _ _ => ev_callS1 (pc' := 20) kX6_141 mX6_isMinute dX6_dayBy_17 rfl rfl (Nat.le_of_ble_eq_true rfl) (Nat.le_of_ble_eq_true rfl) (by decide) (e6_isMinute (by omega))) ?_
      refine ex_ifd_eq (pc' := 23) (tgt := 33) dX6_dayBy_20 (by decide) rfl (fun c20 => ?_) (fun c20 => ?_)
      · refine ex_of (fun _ _ => ev_ldcI (pc' := 35) (-1000000001) nX6_111 dX6_dayBy_33 rfl (by decide)) ?_
        exact ex_end (ev_iret dX6_dayBy_35 rfl) (⟨by unfold sDayBy; first | (rw [if_pos (by omega)]) | rw [if_neg (by omega)], _, hw, fr, hs⟩)
      · refine ex_of (fun _ _ => ev_aload_n (pc' := 24) dX6_dayBy_23 rfl rfl) ?_
        refine ex_of (fun _ _ => ev_iload_n (pc' := 25) dX6_dayBy_24 rfl rfl) ?_
        refine ex_of (fun _ _ => ev_iload_n (pc' := 26) dX6_dayBy_25 rfl rfl) ?_
        refine ex_of (fun _ _ => ev_iload_n (pc' := 27) dX6_dayBy_26 rfl rfl) ?_
        have hO := hw.o
        obtain ⟨w1, h1, E1, rfl, o1, hw, fr1, hs1⟩ := e6_dayAs (l := l) (k := k) (kd := kd) (t := t) hw hI hJ (by omega) (hK k (by omega) (by omega)) (by omega) (by omega)
        refine ex_of (fun _ _ => ev_callV3 (pc' := 30) kX6_205 mX6_dayAs dX6_dayBy_27 rfl rfl (Nat.le_of_ble_eq_true rfl) (Nat.le_of_ble_eq_true rfl) (by decide) rfl hO E1) ?_
        have fr := fr.tr fr1
        have hs : ∀ j, j < 19 → _ := fun j hj => (hs1 j hj).trans (hs j hj)
        refine ex_of (fun _ _ => ev_goto (tgt := 35) dX6_dayBy_30 (by decide)) ?_
        exact ex_end (ev_iret dX6_dayBy_35 rfl) (⟨by unfold sDayBy; first | (rw [if_pos (by omega)]) | rw [if_neg (by omega)], _, hw, fr, hs⟩)
theorem e6_gain {k kd t : Int} (hw : MW h o A) (hI : mI0 (A 0)) (hJ : mIP (A 0)) (hK : ∀ k, 0 ≤ k → k < A 0 1 → mT (A 0) k) (rk : -2147483648 ≤ k ∧ k < 2147483648) (rkd : -2147483648 ≤ kd ∧ kd < 2147483648) (rt : -2147483648 ≤ t ∧ t < 2147483648) : Ex l 5 yX6_gain.cls yX6_gain.name cX6_gain 4 (some .int) 0 [some (.ref 34), some (.int (iI k)), some (.int (iI kd)), some (.int (iI t))] [] h (scP h o A (some (.int (iI (sGain (A 0) k kd t))))) := by
  obtain ⟨⟨i1, i2⟩, ⟨i3, i4⟩, i5, i6⟩ := id hI
  have fr := FrM.rf h
  have hs : ∀ j, j < 19 → o j = o j := fun _ _ => rfl
  refine ex_of (fun _ _ => ev_aload_n (pc' := 1) dX6_gain_0 rfl rfl) ?_
  refine ex_of (fun _ _ => ev_iload_n (pc' := 2) dX6_gain_1 rfl rfl) ?_
  refine ex_of (fun _ _ => ev_callV1 (pc' := 5) kX6_157 mX6_isOne dX6_gain_2 rfl rfl (Nat.le_of_ble_eq_true rfl) (Nat.le_of_ble_eq_true rfl) (by decide) rfl hw.o (e6_isOne hw hI (by omega))) ?_
  refine ex_ifd_eq (pc' := 8) (tgt := 45) dX6_gain_5 (by decide) rfl (fun c5 => ?_) (fun c5 => ?_)
  · refine ex_of (fun _ _ => ev_ldcI (pc' := 47) (-1000000001) nX6_111 dX6_gain_45 rfl (by decide)) ?_
    exact ex_end (ev_iret dX6_gain_47 rfl) (⟨by unfold sGain; first | (rw [if_pos (by omega)]) | rw [if_neg (by omega)], _, hw, fr, hs⟩)
  · refine ex_of (fun _ _ => ev_iload_n (pc' := 9) dX6_gain_8 rfl rfl) ?_
    refine ex_of (fun _ _ => ev_callS1 (pc' := 12) kX6_211 mX6_isKind dX6_gain_9 rfl rfl (Nat.le_of_ble_eq_true rfl) (Nat.le_of_ble_eq_true rfl) (by decide) (e6_isKind (by omega))) ?_
    refine ex_ifd_eq (pc' := 15) (tgt := 45) dX6_gain_12 (by decide) rfl (fun c12 => ?_) (fun c12 => ?_)
    · refine ex_of (fun _ _ => ev_ldcI (pc' := 47) (-1000000001) nX6_111 dX6_gain_45 rfl (by decide)) ?_
      exact ex_end (ev_iret dX6_gain_47 rfl) (⟨by unfold sGain; first | (rw [if_pos (by omega)]) | rw [if_neg (by omega)], _, hw, fr, hs⟩)
    · refine ex_of (fun _ _ => ev_iload_n (pc' := 16) dX6_gain_15 rfl rfl) ?_
      refine ex_of (fun _ _ => ev_i2lI (pc' := 17) dX6_gain_16 rfl (by omega)) ?_
      refine ex_of (fun _ _ => ev_callS1 (pc' := 20) kX6_141 mX6_isMinute dX6_gain_17 rfl rfl (Nat.le_of_ble_eq_true rfl) (Nat.le_of_ble_eq_true rfl) (by decide) (e6_isMinute (by omega))) ?_
      refine ex_ifd_eq (pc' := 23) (tgt := 45) dX6_gain_20 (by decide) rfl (fun c20 => ?_) (fun c20 => ?_)
      · refine ex_of (fun _ _ => ev_ldcI (pc' := 47) (-1000000001) nX6_111 dX6_gain_45 rfl (by decide)) ?_
        exact ex_end (ev_iret dX6_gain_47 rfl) (⟨by unfold sGain; first | (rw [if_pos (by omega)]) | rw [if_neg (by omega)], _, hw, fr, hs⟩)
      · refine ex_of (fun _ _ => ev_aload_n (pc' := 24) dX6_gain_23 rfl rfl) ?_
        refine ex_of (fun _ _ => ev_iload_n (pc' := 25) dX6_gain_24 rfl rfl) ?_
        refine ex_of (fun _ _ => ev_iload_n (pc' := 26) dX6_gain_25 rfl rfl) ?_
        refine ex_of (fun _ _ => ev_iload_n (pc' := 27) dX6_gain_26 rfl rfl) ?_
        have hO := hw.o
        obtain ⟨w1, h1, E1, rfl, o1, hw, fr1, hs1⟩ := e6_dayAs (l := l) (k := k) (kd := kd) (t := t) hw hI hJ (by omega) (hK k (by omega) (by omega)) (by omega) (by omega)
        refine ex_of (fun _ _ => ev_callV3 (pc' := 30) kX6_205 mX6_dayAs dX6_gain_27 rfl rfl (Nat.le_of_ble_eq_true rfl) (Nat.le_of_ble_eq_true rfl) (by decide) rfl hO E1) ?_
        have fr := fr.tr fr1
        have hs : ∀ j, j < 19 → _ := fun j hj => (hs1 j hj).trans (hs j hj)
        refine ex_of (fun _ _ => ev_aload_n (pc' := 31) dX6_gain_30 rfl rfl) ?_
        refine ex_of (fun _ _ => ev_aload_n (pc' := 32) dX6_gain_31 rfl rfl) ?_
        refine ex_of (fun _ _ => ev_iload_n (pc' := 33) dX6_gain_32 rfl rfl) ?_
        refine ex_of (fun _ _ => ev_iconst (pc' := 34) (iI (1)) dX6_gain_33 rfl (by decide)) ?_
        refine ex_of (fun _ _ => ev_callV2 (pc' := 37) kX6_150 mX6_tell dX6_gain_34 rfl rfl (Nat.le_of_ble_eq_true rfl) (Nat.le_of_ble_eq_true rfl) (by decide) rfl hw.o (e6_tell hw (by omega))) ?_
        refine ex_of (fun _ _ => ev_iload_n (pc' := 38) dX6_gain_37 rfl rfl) ?_
        refine ex_of (fun _ _ => ev_callV2 (pc' := 41) kX6_145 mX6_dayIn dX6_gain_38 rfl rfl (Nat.le_of_ble_eq_true rfl) (Nat.le_of_ble_eq_true rfl) (by decide) rfl hw.o (e6_dayIn hw hI hJ (hK k (by omega) (by omega)).2.1 (by omega))) ?_
        refine ex_of (fun _ _ => ev_isubI (pc' := 42) dX6_gain_41 rfl) ?_
        refine ex_of (fun _ _ => ev_goto (tgt := 47) dX6_gain_42 (by decide)) ?_
        exact ex_end (ev_iret dX6_gain_47 rfl) (⟨by unfold sGain; first | (rw [if_pos (by omega)]) | rw [if_neg (by omega)], _, hw, fr, hs⟩)
theorem e6_differ {a b t : Int} (hw : MW h o A) (hI : mI0 (A 0)) (hJ : mIP (A 0)) (hK : ∀ k, 0 ≤ k → k < A 0 1 → mT (A 0) k) (ra : -2147483648 ≤ a ∧ a < 2147483648) (rb : -2147483648 ≤ b ∧ b < 2147483648) (rt : -2147483648 ≤ t ∧ t < 2147483648) : Ex l 6 yX6_differ.cls yX6_differ.name cX6_differ 4 (some .int) 0 [some (.ref 34), some (.int (iI a)), some (.int (iI b)), some (.int (iI t))] [] h (scP h o A (some (.int (iI (sDiffer (A 0) a b t))))) := by
  obtain ⟨⟨i1, i2⟩, ⟨i3, i4⟩, i5, i6⟩ := id hI
  have fr := FrM.rf h
  have hs : ∀ j, j < 19 → o j = o j := fun _ _ => rfl
  refine ex_of (fun _ _ => ev_aload_n (pc' := 1) dX6_differ_0 rfl rfl) ?_
  refine ex_of (fun _ _ => ev_iload_n (pc' := 2) dX6_differ_1 rfl rfl) ?_
  refine ex_of (fun _ _ => ev_callV1 (pc' := 5) kX6_157 mX6_isOne dX6_differ_2 rfl rfl (Nat.le_of_ble_eq_true rfl) (Nat.le_of_ble_eq_true rfl) (by decide) rfl hw.o (e6_isOne hw hI (by omega))) ?_
  refine ex_ifd_eq (pc' := 8) (tgt := 40) dX6_differ_5 (by decide) rfl (fun c5 => ?_) (fun c5 => ?_)
  · refine ex_of (fun _ _ => ev_ldcI (pc' := 42) (-1000000001) nX6_111 dX6_differ_40 rfl (by decide)) ?_
    exact ex_end (ev_iret dX6_differ_42 rfl) (⟨by unfold sDiffer; first | (rw [if_pos (by omega)]; rfl) | rw [if_neg (by omega)], _, hw, fr, hs⟩)
  · refine ex_of (fun _ _ => ev_aload_n (pc' := 9) dX6_differ_8 rfl rfl) ?_
    refine ex_of (fun _ _ => ev_iload_n (pc' := 10) dX6_differ_9 rfl rfl) ?_
    refine ex_of (fun _ _ => ev_callV1 (pc' := 13) kX6_157 mX6_isOne dX6_differ_10 rfl rfl (Nat.le_of_ble_eq_true rfl) (Nat.le_of_ble_eq_true rfl) (by decide) rfl hw.o (e6_isOne hw hI (by omega))) ?_
    refine ex_ifd_eq (pc' := 16) (tgt := 40) dX6_differ_13 (by decide) rfl (fun c13 => ?_) (fun c13 => ?_)
    · refine ex_of (fun _ _ => ev_ldcI (pc' := 42) (-1000000001) nX6_111 dX6_differ_40 rfl (by decide)) ?_
      exact ex_end (ev_iret dX6_differ_42 rfl) (⟨by unfold sDiffer; first | (rw [if_pos (by omega)]; rfl) | rw [if_neg (by omega)], _, hw, fr, hs⟩)
    · refine ex_of (fun _ _ => ev_iload_n (pc' := 17) dX6_differ_16 rfl rfl) ?_
      refine ex_of (fun _ _ => ev_i2lI (pc' := 18) dX6_differ_17 rfl (by omega)) ?_
      refine ex_of (fun _ _ => ev_callS1 (pc' := 21) kX6_141 mX6_isMinute dX6_differ_18 rfl rfl (Nat.le_of_ble_eq_true rfl) (Nat.le_of_ble_eq_true rfl) (by decide) (e6_isMinute (by omega))) ?_
      refine ex_ifd_eq (pc' := 24) (tgt := 40) dX6_differ_21 (by decide) rfl (fun c21 => ?_) (fun c21 => ?_)
      · refine ex_of (fun _ _ => ev_ldcI (pc' := 42) (-1000000001) nX6_111 dX6_differ_40 rfl (by decide)) ?_
        exact ex_end (ev_iret dX6_differ_42 rfl) (⟨by unfold sDiffer; first | (rw [if_pos (by omega)]; rfl) | rw [if_neg (by omega)], _, hw, fr, hs⟩)
      · refine ex_of (fun _ _ => ev_aload_n (pc' := 25) dX6_differ_24 rfl rfl) ?_
        refine ex_of (fun _ _ => ev_iload_n (pc' := 26) dX6_differ_25 rfl rfl) ?_
        refine ex_of (fun _ _ => ev_iload_n (pc' := 27) dX6_differ_26 rfl rfl) ?_
        have hO := hw.o
        obtain ⟨w1, h1, E1, rfl, o1, hw, fr1, hs1⟩ := e6_dayNow (l := l) (k := a) hw hI hJ (by omega) (hK a (by omega) (by omega)) (t := t) (by omega)
        refine ex_of (fun _ _ => ev_callV2 (pc' := 30) kX6_208 mX6_dayNow dX6_differ_27 rfl rfl (Nat.le_of_ble_eq_true rfl) (Nat.le_of_ble_eq_true rfl) (by decide) rfl hO E1) ?_
        have fr := fr.tr fr1
        have hs : ∀ j, j < 19 → _ := fun j hj => (hs1 j hj).trans (hs j hj)
        refine ex_of (fun _ _ => ev_aload_n (pc' := 31) dX6_differ_30 rfl rfl) ?_
        refine ex_of (fun _ _ => ev_iload_n (pc' := 32) dX6_differ_31 rfl rfl) ?_
        refine ex_of (fun _ _ => ev_iload_n (pc' := 33) dX6_differ_32 rfl rfl) ?_
        have hO := hw.o
        obtain ⟨w1, h1, E1, rfl, o1, hw, fr1, hs1⟩ := e6_dayNow (l := l) (k := b) hw hI hJ (by omega) (hK b (by omega) (by omega)) (t := t) (by omega)
        refine ex_of (fun _ _ => ev_callV2 (pc' := 36) kX6_208 mX6_dayNow dX6_differ_33 rfl rfl (Nat.le_of_ble_eq_true rfl) (Nat.le_of_ble_eq_true rfl) (by decide) rfl hO E1) ?_
        have fr := fr.tr fr1
        have hs : ∀ j, j < 19 → _ := fun j hj => (hs1 j hj).trans (hs j hj)
        refine ex_of (fun _ _ => ev_isubI (pc' := 37) dX6_differ_36 rfl) ?_
        refine ex_of (fun _ _ => ev_goto (tgt := 42) dX6_differ_37 (by decide)) ?_
        exact ex_end (ev_iret dX6_differ_42 rfl) (⟨by unfold sDiffer; first | (rw [if_pos (by omega)]; rfl) | rw [if_neg (by omega)], _, hw, fr, hs⟩)
theorem e6_in {k t : Int} (hw : MW h o A) (hI : mI0 (A 0)) (hJ : mIP (A 0)) (hK : ∀ k, 0 ≤ k → k < A 0 1 → mT (A 0) k) (rk : -2147483648 ≤ k ∧ k < 2147483648) (rt : -2147483648 ≤ t ∧ t < 2147483648) : Ex l 4 yX6_in.cls yX6_in.name cX6_in 3 (some .int) 0 [some (.ref 34), some (.int (iI k)), some (.int (iI t))] [] h (scP h o A (some (.int (iI (sIn (A 0) k t))))) := by
  obtain ⟨⟨i1, i2⟩, ⟨i3, i4⟩, i5, i6⟩ := id hI
  have fr := FrM.rf h
  have hs : ∀ j, j < 19 → o j = o j := fun _ _ => rfl
  refine ex_of (fun _ _ => ev_aload_n (pc' := 1) dX6_in_0 rfl rfl) ?_
  refine ex_of (fun _ _ => ev_iload_n (pc' := 2) dX6_in_1 rfl rfl) ?_
  refine ex_of (fun _ _ => ev_callV1 (pc' := 5) kX6_157 mX6_isOne dX6_in_2 rfl rfl (Nat.le_of_ble_eq_true rfl) (Nat.le_of_ble_eq_true rfl) (by decide) rfl hw.o (e6_isOne hw hI (by omega))) ?_
  refine ex_ifd_eq (pc' := 8) (tgt := 16) dX6_in_5 (by decide) rfl (fun c5 => ?_) (fun c5 => ?_)
  · refine ex_of (fun _ _ => ev_iconst (pc' := 17) (iI (-1)) dX6_in_16 rfl (by decide)) ?_
    exact ex_end (ev_iret dX6_in_17 rfl) (⟨by unfold sIn; first | (rw [if_pos (by omega), ← hr]) | rw [if_neg (by omega)], _, hw, fr, hs⟩)
  · refine ex_of (fun _ _ => ev_iload_n (pc' := 9) dX6_in_8 rfl rfl) ?_
    refine ex_of (fun _ _ => ev_i2lI (pc' := 10) dX6_in_9 rfl (by omega)) ?_
    refine ex_of (fun _ _ => ev_callS1 (pc' := 13) kX6_141 mX6_isMinute dX6_in_10 rfl rfl (Nat.le_of_ble_eq_true rfl) (Nat.le_of_ble_eq_true rfl) (by decide) (e6_isMinute (by omega))) ?_
    refine ex_ifd_ne (pc' := 16) (tgt := 18) dX6_in_13 (by decide) rfl (fun c13 => ?_) (fun c13 => ?_)
    · refine ex_of (fun _ _ => ev_aload_n (pc' := 19) dX6_in_18 rfl rfl) ?_
      refine ex_of (fun _ _ => ev_iload_n (pc' := 20) dX6_in_19 rfl rfl) ?_
      refine ex_of (fun _ _ => ev_iload_n (pc' := 21) dX6_in_20 rfl rfl) ?_
      have hO := hw.o
      obtain ⟨w1, h1, E1, rfl, o1, hw, fr1, hs1, hr⟩ := e6_findWhere (l := l) (k := k) (t := t) hw hI hJ (by omega) (hK k (by omega) (by omega)) (by omega)
      refine ex_of (fun _ _ => ev_callV2v (pc' := 24) kX6_182 mX6_findWhere dX6_in_21 rfl rfl (Nat.le_of_ble_eq_true rfl) (Nat.le_of_ble_eq_true rfl) (by decide) rfl hO E1) ?_
      obtain ⟨fa, fb, fc, fd, hf, g1, g2, g3, g4⟩ := fw_b (ea := mea (A 0) k) (t := t) (hK k (by omega) (by omega)) (by omega)
      have q := hr
      rw [hf] at q
      simp only [Prod.mk.injEq] at q
      obtain ⟨q1, q2, q3, q4⟩ := q
      have b1 : -100000000 ≤ o1 19 ∧ o1 19 ≤ 100000000 := by omega
      have b2 : 0 < o1 20 ∧ o1 20 ≤ 12000 := by omega
      have b4 : o1 21 = -4 ∨ (0 ≤ o1 21 ∧ o1 21 < A 0 0) := by omega
      have fr := fr.tr fr1
      have hs : ∀ j, j < 19 → _ := fun j hj => (hs1 j hj).trans (hs j hj)
      refine ex_of (fun _ _ => ev_aload_n (pc' := 25) dX6_in_24 rfl rfl) ?_
      refine ex_of (fun _ _ => ev_getfield (pc' := 28) fX6_172 dX6_in_25 rfl hw.o rfl) ?_
      exact ex_end (ev_iret dX6_in_28 rfl) (⟨by unfold sIn; first | (rw [if_pos (by omega), ← hr]) | rw [if_neg (by omega)], _, hw, fr, hs⟩)
    · refine ex_of (fun _ _ => ev_iconst (pc' := 17) (iI (-1)) dX6_in_16 rfl (by decide)) ?_
      exact ex_end (ev_iret dX6_in_17 rfl) (⟨by unfold sIn; first | (rw [if_pos (by omega), ← hr]) | rw [if_neg (by omega)], _, hw, fr, hs⟩)
theorem e6_rounds {k t : Int} (hw : MW h o A) (hI : mI0 (A 0)) (hJ : mIP (A 0)) (hK : ∀ k, 0 ≤ k → k < A 0 1 → mT (A 0) k) (rk : -2147483648 ≤ k ∧ k < 2147483648) (rt : -2147483648 ≤ t ∧ t < 2147483648) : Ex l 4 yX6_rounds.cls yX6_rounds.name cX6_rounds 3 (some .int) 0 [some (.ref 34), some (.int (iI k)), some (.int (iI t))] [] h (scP h o A (some (.int (iI (sRounds (A 0) k t))))) := by
  obtain ⟨⟨i1, i2⟩, ⟨i3, i4⟩, i5, i6⟩ := id hI
  have fr := FrM.rf h
  have hs : ∀ j, j < 19 → o j = o j := fun _ _ => rfl
  refine ex_of (fun _ _ => ev_aload_n (pc' := 1) dX6_rounds_0 rfl rfl) ?_
  refine ex_of (fun _ _ => ev_iload_n (pc' := 2) dX6_rounds_1 rfl rfl) ?_
  refine ex_of (fun _ _ => ev_callV1 (pc' := 5) kX6_157 mX6_isOne dX6_rounds_2 rfl rfl (Nat.le_of_ble_eq_true rfl) (Nat.le_of_ble_eq_true rfl) (by decide) rfl hw.o (e6_isOne hw hI (by omega))) ?_
  refine ex_ifd_eq (pc' := 8) (tgt := 16) dX6_rounds_5 (by decide) rfl (fun c5 => ?_) (fun c5 => ?_)
  · refine ex_of (fun _ _ => ev_ldcI (pc' := 18) (-1000000001) nX6_111 dX6_rounds_16 rfl (by decide)) ?_
    exact ex_end (ev_iret dX6_rounds_18 rfl) (⟨by unfold sRounds; first | (rw [if_pos (by omega), ← hr]) | rw [if_neg (by omega)], _, hw, fr, hs⟩)
  · refine ex_of (fun _ _ => ev_iload_n (pc' := 9) dX6_rounds_8 rfl rfl) ?_
    refine ex_of (fun _ _ => ev_i2lI (pc' := 10) dX6_rounds_9 rfl (by omega)) ?_
    refine ex_of (fun _ _ => ev_callS1 (pc' := 13) kX6_141 mX6_isMinute dX6_rounds_10 rfl rfl (Nat.le_of_ble_eq_true rfl) (Nat.le_of_ble_eq_true rfl) (by decide) (e6_isMinute (by omega))) ?_
    refine ex_ifd_ne (pc' := 16) (tgt := 19) dX6_rounds_13 (by decide) rfl (fun c13 => ?_) (fun c13 => ?_)
    · refine ex_of (fun _ _ => ev_aload_n (pc' := 20) dX6_rounds_19 rfl rfl) ?_
      refine ex_of (fun _ _ => ev_iload_n (pc' := 21) dX6_rounds_20 rfl rfl) ?_
      refine ex_of (fun _ _ => ev_iload_n (pc' := 22) dX6_rounds_21 rfl rfl) ?_
      have hO := hw.o
      obtain ⟨w1, h1, E1, rfl, o1, hw, fr1, hs1, hr⟩ := e6_findWhere (l := l) (k := k) (t := t) hw hI hJ (by omega) (hK k (by omega) (by omega)) (by omega)
      refine ex_of (fun _ _ => ev_callV2v (pc' := 25) kX6_182 mX6_findWhere dX6_rounds_22 rfl rfl (Nat.le_of_ble_eq_true rfl) (Nat.le_of_ble_eq_true rfl) (by decide) rfl hO E1) ?_
      obtain ⟨fa, fb, fc, fd, hf, g1, g2, g3, g4⟩ := fw_b (ea := mea (A 0) k) (t := t) (hK k (by omega) (by omega)) (by omega)
      have q := hr
      rw [hf] at q
      simp only [Prod.mk.injEq] at q
      obtain ⟨q1, q2, q3, q4⟩ := q
      have b1 : -100000000 ≤ o1 19 ∧ o1 19 ≤ 100000000 := by omega
      have b2 : 0 < o1 20 ∧ o1 20 ≤ 12000 := by omega
      have b4 : o1 21 = -4 ∨ (0 ≤ o1 21 ∧ o1 21 < A 0 0) := by omega
      have fr := fr.tr fr1
      have hs : ∀ j, j < 19 → _ := fun j hj => (hs1 j hj).trans (hs j hj)
      refine ex_of (fun _ _ => ev_aload_n (pc' := 26) dX6_rounds_25 rfl rfl) ?_
      refine ex_of (fun _ _ => ev_iload_n (pc' := 27) dX6_rounds_26 rfl rfl) ?_
      refine ex_of (fun _ _ => ev_callV1 (pc' := 30) kX6_202 mX6_roundsNow dX6_rounds_27 rfl rfl (Nat.le_of_ble_eq_true rfl) (Nat.le_of_ble_eq_true rfl) (by decide) rfl hw.o (e6_roundsNow hw hI hJ (by omega) (hK k (by omega) (by omega)) b1 b2)) ?_
      exact ex_end (ev_iret dX6_rounds_30 rfl) (⟨by unfold sRounds; first | (rw [if_pos (by omega), ← hr]) | rw [if_neg (by omega)], _, hw, fr, hs⟩)
    · refine ex_of (fun _ _ => ev_ldcI (pc' := 18) (-1000000001) nX6_111 dX6_rounds_16 rfl (by decide)) ?_
      exact ex_end (ev_iret dX6_rounds_18 rfl) (⟨by unfold sRounds; first | (rw [if_pos (by omega), ← hr]) | rw [if_neg (by omega)], _, hw, fr, hs⟩)
end MF
