section MQ
variable {l : Launch} {A : Nat → Int → Int} {h : ev_H} {o : Nat → Int}
/-! the reference's told days -/
def jdP (A : Nat → Int → Int) (k d t n : Int) : Int → Bool := fun i => decide (A 5 (100 * d + i) ≠ lstS (A 3 d) ∧ A 5 (100 * d + i) ≠ sDayN (A 0) k (t + i * n))
def sJudge (A : Nat → Int → Int) (k d t n : Int) : Int := if ¬ ((0 ≤ k ∧ k < A 0 1) ∧ (0 ≤ d ∧ d < 8) ∧ (0 ≤ t ∧ t ≤ 19999) ∧ (1 ≤ n ∧ n ≤ 9999)) then -1 else if sRow A d (-1) ≠ 0 then sRow A d (-1) else if 0 < A 4 d ∧ ¬ (0 ≤ t + (A 4 d - 1) * n ∧ t + (A 4 d - 1) * n ≤ 19999) then -1 else fstM (jdP A k d t n) (A 4 d).toNat 0
theorem lstS_b (s : Int) : -2147483648 ≤ lstS s ∧ lstS s ≤ -128 := by
  unfold lstS
  repeat' split
  all_goals omega
theorem e6_jdL {h0 : ev_H} {o0 : Nat → Int} {k d t n : Int} (hI : mI0 (A 0)) (hJ : mIP (A 0)) (hK : ∀ k, 0 ≤ k → k < A 0 1 → mT (A 0) k) (hS : mSh A) (hk : 0 ≤ k ∧ k < A 0 1) (hd : 0 ≤ d ∧ d < 8) (ht : 0 ≤ t ∧ t ≤ 19999) (hn1 : 1 ≤ n ∧ n ≤ 9999) (hv : 0 < A 4 d → t + (A 4 d - 1) * n ≤ 19999) : ∀ (c : Nat) (i : Int) (a5 : Int32) (a6 a7 : Option Value) (h : ev_H) (o : Nat → Int), MW h o A → FrM h0 h → (∀ j, j < 19 → o j = o0 j) → 0 ≤ i → A 4 d - i = c → Ex l 6 yX6_judge.cls yX6_judge.name cX6_judge 8 (some .int) 90 [some (.ref 34), some (.int (iI k)), some (.int (iI d)), some (.int (iI t)), some (.int (iI n)), some (.int a5), some (.int (iI i)), a7] [] h (scP h0 o0 A (some (.int (iI (fstM (jdP A k d t n) c i))))) := by
  intro c
  obtain ⟨⟨i1, i2⟩, ⟨i3, i4⟩, i5, i6⟩ := id hI
  obtain ⟨s1, s2, s3, s4, s5⟩ := hS.1 d hd.1 hd.2
  induction c with
  | zero =>
    intro i a5 a6 a7 h o hw fr hs hi hn
    refine ex_of (fun _ _ => ev_iload (pc' := 92) dX6_judge_90 rfl rfl) ?_
    refine ex_of (fun _ _ => ev_aload_n (pc' := 93) dX6_judge_92 rfl rfl) ?_
    refine ex_of (fun _ _ => ev_getfield (pc' := 96) fX6_22 dX6_judge_93 rfl hw.o rfl) ?_
    refine ex_of (fun _ _ => ev_iload_n (pc' := 97) dX6_judge_96 rfl rfl) ?_
    refine ex_of (fun _ _ => ev_ialoadI (pc' := 98) dX6_judge_97 rfl hw.a4 (by decide) (by omega)) ?_
    refine ex_icmpI_ge (pc' := 101) (tgt := 151) dX6_judge_98 (by decide) rfl (by omega) (by omega) (fun c98 => ?_) (fun c98 => ?_)
    · refine ex_of (fun _ _ => ev_bipush (pc' := 153) (iI (-4)) dX6_judge_151 rfl (by decide)) ?_
      exact ex_end (ev_iret dX6_judge_153 rfl) (⟨rfl, _, hw, fr, hs⟩)
    · omega
  | succ c ih =>
    intro i a5 a6 a7 h o hw fr hs hi hn
    have e5 := hS.2 (100 * d + i) (by omega) (by omega)
    have lb := lstS_b (A 3 d)
    have m1 : i * n ≤ (A 4 d - 1) * n := Int.mul_le_mul_of_nonneg_right (by omega) (by omega)
    have m2 : 0 ≤ i * n := Int.mul_nonneg hi (by omega)
    have hv2 := hv (by omega)
    have zb := sDayAs_b (ea := mea (A 0) k) (kd := A 0 (143 + 45 * k + 0)) hJ (hK k (by omega) (by omega)) (t := t + i * n) (by omega)
    refine ex_of (fun _ _ => ev_iload (pc' := 92) dX6_judge_90 rfl rfl) ?_
    refine ex_of (fun _ _ => ev_aload_n (pc' := 93) dX6_judge_92 rfl rfl) ?_
    refine ex_of (fun _ _ => ev_getfield (pc' := 96) fX6_22 dX6_judge_93 rfl hw.o rfl) ?_
    refine ex_of (fun _ _ => ev_iload_n (pc' := 97) dX6_judge_96 rfl rfl) ?_
    refine ex_of (fun _ _ => ev_ialoadI (pc' := 98) dX6_judge_97 rfl hw.a4 (by decide) (by omega)) ?_
    refine ex_icmpI_ge (pc' := 101) (tgt := 151) dX6_judge_98 (by decide) rfl (by omega) (by omega) (fun c98 => ?_) (fun c98 => ?_)
    · omega
    · refine ex_of (fun _ _ => ev_aload_n (pc' := 102) dX6_judge_101 rfl rfl) ?_
      refine ex_of (fun _ _ => ev_getfield (pc' := 105) fX6_25 dX6_judge_102 rfl hw.o rfl) ?_
      refine ex_of (fun _ _ => ev_bipush (pc' := 107) (iI (100)) dX6_judge_105 rfl (by decide)) ?_
      refine ex_of (fun _ _ => ev_iload_n (pc' := 108) dX6_judge_107 rfl rfl) ?_
      refine ex_of (fun _ _ => ev_imulI (pc' := 109) dX6_judge_108 rfl) ?_
      refine ex_of (fun _ _ => ev_iload (pc' := 111) dX6_judge_109 rfl rfl) ?_
      refine ex_of (fun _ _ => ev_iaddI (pc' := 112) dX6_judge_111 rfl) ?_
      refine ex_of (fun _ _ => ev_ialoadI (pc' := 113) dX6_judge_112 rfl hw.a5 (by decide) (by omega)) ?_
      refine ex_of (fun _ _ => ev_istore_7 (pc' := 115) dX6_judge_113 rfl (by decide) rfl) ?_
      refine ex_of (fun _ _ => ev_iload (pc' := 117) dX6_judge_115 rfl rfl) ?_
      refine ex_of (fun _ _ => ev_aload_n (pc' := 118) dX6_judge_117 rfl rfl) ?_
      refine ex_of (fun _ _ => ev_iload_n (pc' := 119) dX6_judge_118 rfl rfl) ?_
      refine ex_of (fun _ _ => ev_callV1 (pc' := 122) kX6_225 mX6_leastOf dX6_judge_119 rfl rfl (Nat.le_of_ble_eq_true rfl) (Nat.le_of_ble_eq_true rfl) (by decide) rfl hw.o (e6_leastOf hw hS hd)) ?_
      refine ex_icmpI_eq (pc' := 125) (tgt := 145) dX6_judge_122 (by decide) rfl (by omega) (by omega) (fun c122 => ?_) (fun c122 => ?_)
      · refine ex_of (fun _ _ => ev_iincI_6 (pc' := 148) dX6_judge_145 rfl (by decide) rfl) ?_
        refine ex_of (fun _ _ => ev_goto (tgt := 90) dX6_judge_148 (by decide)) ?_
        rw [fstM_f (decide_eq_false (by unfold sDayN; omega))]
        exact ih (i + 1) _ none _ _ _ hw fr hs (by omega) (by omega)
      · refine ex_of (fun _ _ => ev_iload (pc' := 127) dX6_judge_125 rfl rfl) ?_
        refine ex_of (fun _ _ => ev_aload_n (pc' := 128) dX6_judge_127 rfl rfl) ?_
        refine ex_of (fun _ _ => ev_iload_n (pc' := 129) dX6_judge_128 rfl rfl) ?_
        refine ex_of (fun _ _ => ev_iload_n (pc' := 130) dX6_judge_129 rfl rfl) ?_
        refine ex_of (fun _ _ => ev_iload (pc' := 132) dX6_judge_130 rfl rfl) ?_
        refine ex_of (fun _ _ => ev_iload (pc' := 134) dX6_judge_132 rfl rfl) ?_
        refine ex_of (fun _ _ => ev_imulI (pc' := 135) dX6_judge_134 rfl) ?_
        refine ex_of (fun _ _ => ev_iaddI (pc' := 136) dX6_judge_135 rfl) ?_
        have hO := hw.o
        obtain ⟨w1, h1, E1, rfl, o1, hw, fr1, hs1⟩ := e6_dayNow (l := l) (k := k) hw hI hJ (by omega) (hK k (by omega) (by omega)) (t := t + i * n) (by omega)
        refine ex_of (fun _ _ => ev_callV2 (pc' := 139) kX6_208 mX6_dayNow dX6_judge_136 rfl rfl (Nat.le_of_ble_eq_true rfl) (Nat.le_of_ble_eq_true rfl) (by decide) rfl hO E1) ?_
        have fr := fr.tr fr1
        have hs : ∀ j, j < 19 → _ := fun j hj => (hs1 j hj).trans (hs j hj)
        refine ex_icmpI_eq (pc' := 142) (tgt := 145) dX6_judge_139 (by decide) rfl (by omega) (by omega) (fun c139 => ?_) (fun c139 => ?_)
        · refine ex_of (fun _ _ => ev_iincI_6 (pc' := 148) dX6_judge_145 rfl (by decide) rfl) ?_
          refine ex_of (fun _ _ => ev_goto (tgt := 90) dX6_judge_148 (by decide)) ?_
          rw [fstM_f (decide_eq_false (by unfold sDayN; omega))]
          exact ih (i + 1) _ none _ _ _ hw fr hs (by omega) (by omega)
        · refine ex_of (fun _ _ => ev_iload (pc' := 144) dX6_judge_142 rfl rfl) ?_
          exact ex_end (ev_iret dX6_judge_144 rfl) (⟨by rw [fstM_t (decide_eq_true ⟨by omega, by unfold sDayN; omega⟩)], _, hw, fr, hs⟩)
theorem e6_judge {k d t n : Int} (hw : MW h o A) (hI : mI0 (A 0)) (hJ : mIP (A 0)) (hK : ∀ k, 0 ≤ k → k < A 0 1 → mT (A 0) k) (hS : mSh A) (rk : -2147483648 ≤ k ∧ k < 2147483648) (rd : -2147483648 ≤ d ∧ d < 2147483648) (rt : -2147483648 ≤ t ∧ t < 2147483648) (rn : -2147483648 ≤ n ∧ n < 2147483648) : Ex l 7 yX6_judge.cls yX6_judge.name cX6_judge 8 (some .int) 0 [some (.ref 34), some (.int (iI k)), some (.int (iI d)), some (.int (iI t)), some (.int (iI n)), none, none, none] [] h (scP h o A (some (.int (iI (sJudge A k d t n))))) := by
  obtain ⟨⟨i1, i2⟩, ⟨i3, i4⟩, i5, i6⟩ := id hI
  have fr := FrM.rf h
  have hs : ∀ j, j < 19 → o j = o j := fun _ _ => rfl
  have zb := sRow_b A d (-1)
  refine ex_of (fun _ _ => ev_aload_n (pc' := 1) dX6_judge_0 rfl rfl) ?_
  refine ex_of (fun _ _ => ev_iload_n (pc' := 2) dX6_judge_1 rfl rfl) ?_
  refine ex_of (fun _ _ => ev_callV1 (pc' := 5) kX6_157 mX6_isOne dX6_judge_2 rfl rfl (Nat.le_of_ble_eq_true rfl) (Nat.le_of_ble_eq_true rfl) (by decide) rfl hw.o (e6_isOne hw hI (by omega))) ?_
  refine ex_ifd_eq (pc' := 8) (tgt := 36) dX6_judge_5 (by decide) rfl (fun c5 => ?_) (fun c5 => ?_)
  · refine ex_of (fun _ _ => ev_iconst (pc' := 37) (iI (-1)) dX6_judge_36 rfl (by decide)) ?_
    exact ex_end (ev_iret dX6_judge_37 rfl) (⟨by unfold sJudge; (repeat (first | rw [if_pos (by omega)] | rw [if_neg (by omega)])), _, hw, fr, hs⟩)
  · refine ex_of (fun _ _ => ev_iload_n (pc' := 9) dX6_judge_8 rfl rfl) ?_
    refine ex_of (fun _ _ => ev_callS1 (pc' := 12) kX6_90 mX6_isShelf dX6_judge_9 rfl rfl (Nat.le_of_ble_eq_true rfl) (Nat.le_of_ble_eq_true rfl) (by decide) (e6_isShelf (by omega))) ?_
    refine ex_ifd_eq (pc' := 15) (tgt := 36) dX6_judge_12 (by decide) rfl (fun c12 => ?_) (fun c12 => ?_)
    · refine ex_of (fun _ _ => ev_iconst (pc' := 37) (iI (-1)) dX6_judge_36 rfl (by decide)) ?_
      exact ex_end (ev_iret dX6_judge_37 rfl) (⟨by unfold sJudge; (repeat (first | rw [if_pos (by omega)] | rw [if_neg (by omega)])), _, hw, fr, hs⟩)
    · refine ex_of (fun _ _ => ev_iload_n (pc' := 16) dX6_judge_15 rfl rfl) ?_
      refine ex_of (fun _ _ => ev_i2lI (pc' := 17) dX6_judge_16 rfl (by omega)) ?_
      refine ex_of (fun _ _ => ev_callS1 (pc' := 20) kX6_141 mX6_isMinute dX6_judge_17 rfl rfl (Nat.le_of_ble_eq_true rfl) (Nat.le_of_ble_eq_true rfl) (by decide) (e6_isMinute (by omega))) ?_
      refine ex_ifd_eq (pc' := 23) (tgt := 36) dX6_judge_20 (by decide) rfl (fun c20 => ?_) (fun c20 => ?_)
      · refine ex_of (fun _ _ => ev_iconst (pc' := 37) (iI (-1)) dX6_judge_36 rfl (by decide)) ?_
        exact ex_end (ev_iret dX6_judge_37 rfl) (⟨by unfold sJudge; (repeat (first | rw [if_pos (by omega)] | rw [if_neg (by omega)])), _, hw, fr, hs⟩)
      · refine ex_of (fun _ _ => ev_iload (pc' := 25) dX6_judge_23 rfl rfl) ?_
        refine ex_of (fun _ _ => ev_i2lI (pc' := 26) dX6_judge_25 rfl (by omega)) ?_
        refine ex_of (fun _ _ => ev_lconst (pc' := 27) (jJ (1)) dX6_judge_26 rfl (by decide)) ?_
        refine ex_of (fun _ _ => ev_ldc2I (pc' := 30) (9999) nX6_223 dX6_judge_27 rfl (by decide)) ?_
        refine ex_of (fun _ _ => ev_callS3 (pc' := 33) kX6_48 mX6_isIn dX6_judge_30 rfl rfl (Nat.le_of_ble_eq_true rfl) (Nat.le_of_ble_eq_true rfl) (by decide) (e6_isIn (by omega) (by omega) (by omega))) ?_
        refine ex_ifd_ne (pc' := 36) (tgt := 38) dX6_judge_33 (by decide) rfl (fun c33 => ?_) (fun c33 => ?_)
        · refine ex_of (fun _ _ => ev_aload_n (pc' := 39) dX6_judge_38 rfl rfl) ?_
          refine ex_of (fun _ _ => ev_iload_n (pc' := 40) dX6_judge_39 rfl rfl) ?_
          refine ex_of (fun _ _ => ev_iconst (pc' := 41) (iI (-1)) dX6_judge_40 rfl (by decide)) ?_
          refine ex_of (fun _ _ => ev_callV2 (pc' := 44) kX6_93 mX6_wrongRow dX6_judge_41 rfl rfl (Nat.le_of_ble_eq_true rfl) (Nat.le_of_ble_eq_true rfl) (by decide) rfl hw.o (e6_wrongRow hw hS (by omega) (by omega))) ?_
          refine ex_of (fun _ _ => ev_istore_5 (pc' := 46) dX6_judge_44 rfl (by decide) rfl) ?_
          refine ex_of (fun _ _ => ev_iload (pc' := 48) dX6_judge_46 rfl rfl) ?_
          refine ex_ifI_eq (pc' := 51) (tgt := 54) dX6_judge_48 (by decide) rfl (by omega) (fun c48 => ?_) (fun c48 => ?_)
          · have hz : sRow A d (-1) = 0 := by omega
            obtain ⟨hd, hk2, -⟩ := sRow_0 hz
            obtain ⟨s1, s2, s3, s4, s5⟩ := hS.1 d hd.1 hd.2
            have m1 := mul_bd (x := A 4 d - 1) (y := n) (X := 100) (Y := 9999) (by omega) (by omega)
            refine ex_of (fun _ _ => ev_aload_n (pc' := 55) dX6_judge_54 rfl rfl) ?_
            refine ex_of (fun _ _ => ev_getfield (pc' := 58) fX6_22 dX6_judge_55 rfl hw.o rfl) ?_
            refine ex_of (fun _ _ => ev_iload_n (pc' := 59) dX6_judge_58 rfl rfl) ?_
            refine ex_of (fun _ _ => ev_ialoadI (pc' := 60) dX6_judge_59 rfl hw.a4 (by decide) (by omega)) ?_
            refine ex_ifI_le (pc' := 63) (tgt := 87) dX6_judge_60 (by decide) rfl (by omega) (fun c60 => ?_) (fun c60 => ?_)
            · refine ex_of (fun _ _ => ev_iconst (pc' := 88) (iI (0)) dX6_judge_87 rfl (by decide)) ?_
              refine ex_of (fun _ _ => ev_istore_6 (pc' := 90) dX6_judge_88 rfl (by decide) rfl) ?_
              rw [show sJudge A k d t n = fstM (jdP A k d t n) (A 4 d).toNat 0 by unfold sJudge; (repeat (first | rw [if_pos (by omega)] | rw [if_neg (by omega)]))]
              exact ev_deepx (by decide) (e6_jdL hI hJ hK hS (by omega) hd (by omega) (by omega) (by omega) (A 4 d).toNat 0 _ none _ _ _ hw fr hs (by omega) (by omega))
            · refine ex_of (fun _ _ => ev_iload_n (pc' := 64) dX6_judge_63 rfl rfl) ?_
              refine ex_of (fun _ _ => ev_i2lI (pc' := 65) dX6_judge_64 rfl (by omega)) ?_
              refine ex_of (fun _ _ => ev_aload_n (pc' := 66) dX6_judge_65 rfl rfl) ?_
              refine ex_of (fun _ _ => ev_getfield (pc' := 69) fX6_22 dX6_judge_66 rfl hw.o rfl) ?_
              refine ex_of (fun _ _ => ev_iload_n (pc' := 70) dX6_judge_69 rfl rfl) ?_
              refine ex_of (fun _ _ => ev_ialoadI (pc' := 71) dX6_judge_70 rfl hw.a4 (by decide) (by omega)) ?_
              refine ex_of (fun _ _ => ev_i2lI (pc' := 72) dX6_judge_71 rfl (by omega)) ?_
              refine ex_of (fun _ _ => ev_lconst (pc' := 73) (jJ (1)) dX6_judge_72 rfl (by decide)) ?_
              refine ex_of (fun _ _ => ev_lsubI (pc' := 74) dX6_judge_73 rfl) ?_
              refine ex_of (fun _ _ => ev_iload (pc' := 76) dX6_judge_74 rfl rfl) ?_
              refine ex_of (fun _ _ => ev_i2lI (pc' := 77) dX6_judge_76 rfl (by omega)) ?_
              refine ex_of (fun _ _ => ev_lmulI (pc' := 78) dX6_judge_77 rfl) ?_
              refine ex_of (fun _ _ => ev_laddI (pc' := 79) dX6_judge_78 rfl) ?_
              refine ex_of (fun _ _ => ev_callS1 (pc' := 82) kX6_141 mX6_isMinute dX6_judge_79 rfl rfl (Nat.le_of_ble_eq_true rfl) (Nat.le_of_ble_eq_true rfl) (by decide) (e6_isMinute (by omega))) ?_
              refine ex_ifd_ne (pc' := 85) (tgt := 87) dX6_judge_82 (by decide) rfl (fun c82 => ?_) (fun c82 => ?_)
              · refine ex_of (fun _ _ => ev_iconst (pc' := 88) (iI (0)) dX6_judge_87 rfl (by decide)) ?_
                refine ex_of (fun _ _ => ev_istore_6 (pc' := 90) dX6_judge_88 rfl (by decide) rfl) ?_
                rw [show sJudge A k d t n = fstM (jdP A k d t n) (A 4 d).toNat 0 by unfold sJudge; (repeat (first | rw [if_pos (by omega)] | rw [if_neg (by omega)]))]
                exact ev_deepx (by decide) (e6_jdL hI hJ hK hS (by omega) hd (by omega) (by omega) (by omega) (A 4 d).toNat 0 _ none _ _ _ hw fr hs (by omega) (by omega))
              · refine ex_of (fun _ _ => ev_iconst (pc' := 86) (iI (-1)) dX6_judge_85 rfl (by decide)) ?_
                exact ex_end (ev_iret dX6_judge_86 rfl) (⟨by unfold sJudge; (repeat (first | rw [if_pos (by omega)] | rw [if_neg (by omega)])), _, hw, fr, hs⟩)
          · refine ex_of (fun _ _ => ev_iload (pc' := 53) dX6_judge_51 rfl rfl) ?_
            exact ex_end (ev_iret dX6_judge_53 rfl) (⟨by unfold sJudge; (repeat (first | rw [if_pos (by omega)] | rw [if_neg (by omega)])), _, hw, fr, hs⟩)
        · refine ex_of (fun _ _ => ev_iconst (pc' := 37) (iI (-1)) dX6_judge_36 rfl (by decide)) ?_
          exact ex_end (ev_iret dX6_judge_37 rfl) (⟨by unfold sJudge; (repeat (first | rw [if_pos (by omega)] | rw [if_neg (by omega)])), _, hw, fr, hs⟩)
def ntM (A : Nat → Int → Int) (d : Int) : Nat → Int → Int
  | 0, _ => 0
  | c + 1, i => if 0 ≤ A 5 (100 * d + i) ∧ A 5 (100 * d + i) ≤ 19999 then ntM A d c (i + 1) else -13
def sWk (A : Nat → Int → Int) (k d r : Int) : Int := if ¬ ((0 ≤ k ∧ k < A 0 1) ∧ (0 ≤ d ∧ d < 8) ∧ (0 ≤ r ∧ r ≤ 6)) then -1 else if sRow A d 2 ≠ 0 then sRow A d 2 else ntM A d (A 4 d).toNat 0
theorem ntM_all {A : Nat → Int → Int} {d : Int} : ∀ (c : Nat) (i : Int), ntM A d c i = 0 → ∀ j, i ≤ j → j < i + c → 0 ≤ A 5 (100 * d + j) ∧ A 5 (100 * d + j) ≤ 19999
  | 0, i, _, j, h1, h2 => by omega
  | c + 1, i, h, j, h1, h2 => by
    unfold ntM at h
    split at h
    · by_cases e : j = i
      · subst e; assumption
      · exact ntM_all c (i + 1) h j (by omega) (by omega)
    · omega
theorem ntM_b (A : Nat → Int → Int) (d : Int) : ∀ (c : Nat) (i : Int), ntM A d c i = 0 ∨ ntM A d c i = -13
  | 0, _ => Or.inl rfl
  | c + 1, i => by
    unfold ntM
    split
    · exact ntM_b A d c (i + 1)
    · exact Or.inr rfl
theorem sWk_b (A : Nat → Int → Int) (k d r : Int) : -15 ≤ sWk A k d r ∧ sWk A k d r ≤ 0 := by
  have z1 := sRow_b A d 2
  have z2 := ntM_b A d (A 4 d).toNat 0
  unfold sWk
  repeat' split
  all_goals omega
theorem sWk_0 {A : Nat → Int → Int} {k d r : Int} (h : sWk A k d r = 0) : (0 ≤ k ∧ k < A 0 1) ∧ (0 ≤ d ∧ d < 8) ∧ (0 ≤ r ∧ r ≤ 6) ∧ A 2 d = 2 ∧ A 3 d = 2 ∧ ∀ j, 0 ≤ j → j < A 4 d → 0 ≤ A 5 (100 * d + j) ∧ A 5 (100 * d + j) ≤ 19999 := by
  unfold sWk at h
  split at h
  · omega
  · split at h
    · omega
    · rename_i q1 q2
      obtain ⟨a, b, c⟩ := sRow_0 (show sRow A d 2 = 0 by omega)
      exact ⟨by omega, a, by omega, b, c (by omega), fun j h1 h2 => ntM_all _ 0 h j h1 (by omega)⟩
theorem e6_wkL {k d r : Int} (hw : MW h o A) (hI : mI0 (A 0)) (hS : mSh A) (hd : 0 ≤ d ∧ d < 8) (a4 : Int32) : ∀ (c : Nat) (i : Int), 0 ≤ i → A 4 d - i = c → Ev l 2 yX6_wrongKept.cls yX6_wrongKept.name cX6_wrongKept 6 (some .int) 48 [some (.ref 34), some (.int (iI k)), some (.int (iI d)), some (.int (iI r)), some (.int a4), some (.int (iI i))] [] h (some (.int (iI (ntM A d c i)))) h := by
  intro c
  obtain ⟨s1, s2, s3, s4, s5⟩ := hS.1 d hd.1 hd.2
  induction c with
  | zero =>
    intro i hi hn
    refine ev_iload (pc' := 50) dX6_wrongKept_48 rfl rfl ?_
    refine ev_aload_n (pc' := 51) dX6_wrongKept_50 rfl rfl ?_
    refine ev_getfield (pc' := 54) fX6_22 dX6_wrongKept_51 rfl hw.o rfl ?_
    refine ev_iload_n (pc' := 55) dX6_wrongKept_54 rfl rfl ?_
    refine ev_ialoadI (pc' := 56) dX6_wrongKept_55 rfl hw.a4 (by decide) (by omega) ?_
    refine ev_icmpI_ge (pc' := 59) (tgt := 87) dX6_wrongKept_56 (by decide) rfl (by omega) (by omega) (fun c56 => ?_) (fun c56 => ?_)
    · refine ev_iconst (pc' := 88) (iI (0)) dX6_wrongKept_87 rfl (by decide) ?_
      exact ev_ireI dX6_wrongKept_88 (rfl)
    · omega
  | succ c ih =>
    intro i hi hn
    have e5 := hS.2 (100 * d + i) (by omega) (by omega)
    refine ev_iload (pc' := 50) dX6_wrongKept_48 rfl rfl ?_
    refine ev_aload_n (pc' := 51) dX6_wrongKept_50 rfl rfl ?_
    refine ev_getfield (pc' := 54) fX6_22 dX6_wrongKept_51 rfl hw.o rfl ?_
    refine ev_iload_n (pc' := 55) dX6_wrongKept_54 rfl rfl ?_
    refine ev_ialoadI (pc' := 56) dX6_wrongKept_55 rfl hw.a4 (by decide) (by omega) ?_
    refine ev_icmpI_ge (pc' := 59) (tgt := 87) dX6_wrongKept_56 (by decide) rfl (by omega) (by omega) (fun c56 => ?_) (fun c56 => ?_)
    · omega
    · refine ev_aload_n (pc' := 60) dX6_wrongKept_59 rfl rfl ?_
      refine ev_getfield (pc' := 63) fX6_25 dX6_wrongKept_60 rfl hw.o rfl ?_
      refine ev_bipush (pc' := 65) (iI (100)) dX6_wrongKept_63 rfl (by decide) ?_
      refine ev_iload_n (pc' := 66) dX6_wrongKept_65 rfl rfl ?_
      refine ev_imulI (pc' := 67) dX6_wrongKept_66 rfl ?_
      refine ev_iload (pc' := 69) dX6_wrongKept_67 rfl rfl ?_
      refine ev_iaddI (pc' := 70) dX6_wrongKept_69 rfl ?_
      refine ev_ialoadI (pc' := 71) dX6_wrongKept_70 rfl hw.a5 (by decide) (by omega) ?_
      refine ev_i2lI (pc' := 72) dX6_wrongKept_71 rfl (by omega) ?_
      refine ev_callS1 (pc' := 75) kX6_141 mX6_isMinute dX6_wrongKept_72 rfl rfl (Nat.le_of_ble_eq_true rfl) (Nat.le_of_ble_eq_true rfl) (by decide) (e6_isMinute (by omega)) ?_
      refine ev_ifd_ne (pc' := 78) (tgt := 81) dX6_wrongKept_75 (by decide) rfl (fun c75 => ?_) (fun c75 => ?_)
      · refine ev_iincI_5 (pc' := 84) dX6_wrongKept_81 rfl (by decide) rfl ?_
        refine ev_goto (tgt := 48) dX6_wrongKept_84 (by decide) ?_
        rw [show ntM A d (c + 1) i = ntM A d c (i + 1) by conv => lhs; unfold ntM; rw [if_pos (by omega)]]
        exact ih (i + 1) (by omega) (by omega)
      · refine ev_bipush (pc' := 80) (iI (-13)) dX6_wrongKept_78 rfl (by decide) ?_
        exact ev_ireI dX6_wrongKept_80 (by unfold ntM; rw [if_neg (by omega)])
theorem e6_wrongKept {k d r : Int} (hw : MW h o A) (hI : mI0 (A 0)) (hS : mSh A) (rk : -2147483648 ≤ k ∧ k < 2147483648) (rd : -2147483648 ≤ d ∧ d < 2147483648) (rr : -2147483648 ≤ r ∧ r < 2147483648) : Ev l 3 yX6_wrongKept.cls yX6_wrongKept.name cX6_wrongKept 6 (some .int) 0 [some (.ref 34), some (.int (iI k)), some (.int (iI d)), some (.int (iI r)), none, none] [] h (some (.int (iI (sWk A k d r)))) h := by
  have zb := sRow_b A d 2
  obtain ⟨⟨i1, i2⟩, ⟨i3, i4⟩, i5, i6⟩ := id hI
  refine ev_aload_n (pc' := 1) dX6_wrongKept_0 rfl rfl ?_
  refine ev_iload_n (pc' := 2) dX6_wrongKept_1 rfl rfl ?_
  refine ev_callV1 (pc' := 5) kX6_157 mX6_isOne dX6_wrongKept_2 rfl rfl (Nat.le_of_ble_eq_true rfl) (Nat.le_of_ble_eq_true rfl) (by decide) rfl hw.o (e6_isOne hw hI (by omega)) ?_
  refine ev_ifd_eq (pc' := 8) (tgt := 27) dX6_wrongKept_5 (by decide) rfl (fun c5 => ?_) (fun c5 => ?_)
  · refine ev_iconst (pc' := 28) (iI (-1)) dX6_wrongKept_27 rfl (by decide) ?_
    exact ev_ireI dX6_wrongKept_28 (by unfold sWk; (repeat (first | rw [if_pos (by omega)] | rw [if_neg (by omega)])))
  · refine ev_iload_n (pc' := 9) dX6_wrongKept_8 rfl rfl ?_
    refine ev_callS1 (pc' := 12) kX6_90 mX6_isShelf dX6_wrongKept_9 rfl rfl (Nat.le_of_ble_eq_true rfl) (Nat.le_of_ble_eq_true rfl) (by decide) (e6_isShelf (by omega)) ?_
    refine ev_ifd_eq (pc' := 15) (tgt := 27) dX6_wrongKept_12 (by decide) rfl (fun c12 => ?_) (fun c12 => ?_)
    · refine ev_iconst (pc' := 28) (iI (-1)) dX6_wrongKept_27 rfl (by decide) ?_
      exact ev_ireI dX6_wrongKept_28 (by unfold sWk; (repeat (first | rw [if_pos (by omega)] | rw [if_neg (by omega)])))
    · refine ev_iload_n (pc' := 16) dX6_wrongKept_15 rfl rfl ?_
      refine ev_i2lI (pc' := 17) dX6_wrongKept_16 rfl (by omega) ?_
      refine ev_lconst (pc' := 18) (jJ (0)) dX6_wrongKept_17 rfl (by decide) ?_
      refine ev_ldc2I (pc' := 21) (6) nX6_228 dX6_wrongKept_18 rfl (by decide) ?_
      refine ev_callS3 (pc' := 24) kX6_48 mX6_isIn dX6_wrongKept_21 rfl rfl (Nat.le_of_ble_eq_true rfl) (Nat.le_of_ble_eq_true rfl) (by decide) (e6_isIn (by omega) (by omega) (by omega)) ?_
      refine ev_ifd_ne (pc' := 27) (tgt := 29) dX6_wrongKept_24 (by decide) rfl (fun c24 => ?_) (fun c24 => ?_)
      · refine ev_aload_n (pc' := 30) dX6_wrongKept_29 rfl rfl ?_
        refine ev_iload_n (pc' := 31) dX6_wrongKept_30 rfl rfl ?_
        refine ev_iconst (pc' := 32) (iI (2)) dX6_wrongKept_31 rfl (by decide) ?_
        refine ev_callV2 (pc' := 35) kX6_93 mX6_wrongRow dX6_wrongKept_32 rfl rfl (Nat.le_of_ble_eq_true rfl) (Nat.le_of_ble_eq_true rfl) (by decide) rfl hw.o (e6_wrongRow hw hS (by omega) (by omega)) ?_
        refine ev_istore_4 (pc' := 37) dX6_wrongKept_35 rfl (by decide) rfl ?_
        refine ev_iload (pc' := 39) dX6_wrongKept_37 rfl rfl ?_
        refine ev_ifI_eq (pc' := 42) (tgt := 45) dX6_wrongKept_39 (by decide) rfl (by omega) (fun c39 => ?_) (fun c39 => ?_)
        · have hz : sRow A d 2 = 0 := by omega
          obtain ⟨hd, hk2, -⟩ := sRow_0 hz
          obtain ⟨s1, s2, s3, s4, s5⟩ := hS.1 d hd.1 hd.2
          refine ev_iconst (pc' := 46) (iI (0)) dX6_wrongKept_45 rfl (by decide) ?_
          refine ev_istore_5 (pc' := 48) dX6_wrongKept_46 rfl (by decide) rfl ?_
          rw [show sWk A k d r = ntM A d (A 4 d).toNat 0 by unfold sWk; (repeat (first | rw [if_pos (by omega)] | rw [if_neg (by omega)]))]
          exact ev_deep (e6_wkL hw hI hS hd _ (A 4 d).toNat 0 (by omega) (by omega)) (by decide)
        · refine ev_iload (pc' := 44) dX6_wrongKept_42 rfl rfl ?_
          exact ev_ireI dX6_wrongKept_44 (by unfold sWk; (repeat (first | rw [if_pos (by omega)] | rw [if_neg (by omega)])))
      · refine ev_iconst (pc' := 28) (iI (-1)) dX6_wrongKept_27 rfl (by decide) ?_
        exact ev_ireI dX6_wrongKept_28 (by unfold sWk; (repeat (first | rw [if_pos (by omega)] | rw [if_neg (by omega)])))
def kpP (A : Nat → Int → Int) (ea : Int → Bool) (k d r : Int) : Int → Bool := fun i => decide ((fw (A 0) ea k (A 5 (100 * d + i))).2.2.1 < 0 ∧ sMid (A 0) k (fw (A 0) ea k (A 5 (100 * d + i))).1 (fw (A 0) ea k (A 5 (100 * d + i))).2.1 (A 5 (100 * d + i)) % 7 = r)
def sKp (A : Nat → Int → Int) (ea : Int → Bool) (k d r : Int) : Int := fstM (kpP A ea k d r) (A 4 d).toNat 0
theorem e6_kpL {h0 : ev_H} {o0 : Nat → Int} {k d r : Int} (hI : mI0 (A 0)) (hJ : mIP (A 0)) (hK : ∀ k, 0 ≤ k → k < A 0 1 → mT (A 0) k) (hS : mSh A) (hk : 0 ≤ k ∧ k < A 0 1) (hd : 0 ≤ d ∧ d < 8) (hr1 : 0 ≤ r ∧ r ≤ 6) (hm : ∀ j, 0 ≤ j → j < A 4 d → 0 ≤ A 5 (100 * d + j) ∧ A 5 (100 * d + j) ≤ 19999) : ∀ (c : Nat) (i : Int) (a5 a6 a7 : Option Value) (h : ev_H) (o : Nat → Int), MW h o A → FrM h0 h → (∀ j, j < 19 → o j = o0 j) → 0 ≤ i → A 4 d - i = c → Ex l 4 yX6_keptOf.cls yX6_keptOf.name cX6_keptOf 7 (some .int) 3 [some (.ref 34), some (.int (iI k)), some (.int (iI d)), some (.int (iI r)), some (.int (iI i)), a5, a6] [] h (scP h0 o0 A (some (.int (iI (fstM (kpP A (mea (A 0) k) k d r) c i))))) := by
  intro c
  obtain ⟨⟨i1, i2⟩, ⟨i3, i4⟩, i5, i6⟩ := id hI
  obtain ⟨s1, s2, s3, s4, s5⟩ := hS.1 d hd.1 hd.2
  induction c with
  | zero =>
    intro i a5 a6 a7 h o hw fr hs hi hn
    refine ex_of (fun _ _ => ev_iload (pc' := 5) dX6_keptOf_3 rfl rfl) ?_
    refine ex_of (fun _ _ => ev_aload_n (pc' := 6) dX6_keptOf_5 rfl rfl) ?_
    refine ex_of (fun _ _ => ev_getfield (pc' := 9) fX6_22 dX6_keptOf_6 rfl hw.o rfl) ?_
    refine ex_of (fun _ _ => ev_iload_n (pc' := 10) dX6_keptOf_9 rfl rfl) ?_
    refine ex_of (fun _ _ => ev_ialoadI (pc' := 11) dX6_keptOf_10 rfl hw.a4 (by decide) (by omega)) ?_
    refine ex_icmpI_ge (pc' := 14) (tgt := 86) dX6_keptOf_11 (by decide) rfl (by omega) (by omega) (fun c11 => ?_) (fun c11 => ?_)
    · refine ex_of (fun _ _ => ev_bipush (pc' := 88) (iI (-4)) dX6_keptOf_86 rfl (by decide)) ?_
      exact ex_end (ev_iret dX6_keptOf_88 rfl) (⟨rfl, _, hw, fr, hs⟩)
    · omega
  | succ c ih =>
    intro i a5 a6 a7 h o hw fr hs hi hn
    have e5 := hm i (by omega) (by omega)
    refine ex_of (fun _ _ => ev_iload (pc' := 5) dX6_keptOf_3 rfl rfl) ?_
    refine ex_of (fun _ _ => ev_aload_n (pc' := 6) dX6_keptOf_5 rfl rfl) ?_
    refine ex_of (fun _ _ => ev_getfield (pc' := 9) fX6_22 dX6_keptOf_6 rfl hw.o rfl) ?_
    refine ex_of (fun _ _ => ev_iload_n (pc' := 10) dX6_keptOf_9 rfl rfl) ?_
    refine ex_of (fun _ _ => ev_ialoadI (pc' := 11) dX6_keptOf_10 rfl hw.a4 (by decide) (by omega)) ?_
    refine ex_icmpI_ge (pc' := 14) (tgt := 86) dX6_keptOf_11 (by decide) rfl (by omega) (by omega) (fun c11 => ?_) (fun c11 => ?_)
    · omega
    · refine ex_of (fun _ _ => ev_aload_n (pc' := 15) dX6_keptOf_14 rfl rfl) ?_
      refine ex_of (fun _ _ => ev_getfield (pc' := 18) fX6_25 dX6_keptOf_15 rfl hw.o rfl) ?_
      refine ex_of (fun _ _ => ev_bipush (pc' := 20) (iI (100)) dX6_keptOf_18 rfl (by decide)) ?_
      refine ex_of (fun _ _ => ev_iload_n (pc' := 21) dX6_keptOf_20 rfl rfl) ?_
      refine ex_of (fun _ _ => ev_imulI (pc' := 22) dX6_keptOf_21 rfl) ?_
      refine ex_of (fun _ _ => ev_iload (pc' := 24) dX6_keptOf_22 rfl rfl) ?_
      refine ex_of (fun _ _ => ev_iaddI (pc' := 25) dX6_keptOf_24 rfl) ?_
      refine ex_of (fun _ _ => ev_ialoadI (pc' := 26) dX6_keptOf_25 rfl hw.a5 (by decide) (by omega)) ?_
      refine ex_of (fun _ _ => ev_istore_5 (pc' := 28) dX6_keptOf_26 rfl (by decide) rfl) ?_
      refine ex_of (fun _ _ => ev_aload_n (pc' := 29) dX6_keptOf_28 rfl rfl) ?_
      refine ex_of (fun _ _ => ev_iload_n (pc' := 30) dX6_keptOf_29 rfl rfl) ?_
      refine ex_of (fun _ _ => ev_iload (pc' := 32) dX6_keptOf_30 rfl rfl) ?_
      have hO := hw.o
      obtain ⟨w1, h1, E1, rfl, o1, hw, fr1, hs1, hr⟩ := e6_findWhere (l := l) (k := k) (t := A 5 (100 * d + i)) hw hI hJ (by omega) (hK k (by omega) (by omega)) (by omega)
      refine ex_of (fun _ _ => ev_callV2v (pc' := 35) kX6_182 mX6_findWhere dX6_keptOf_32 rfl rfl (Nat.le_of_ble_eq_true rfl) (Nat.le_of_ble_eq_true rfl) (by decide) rfl hO E1) ?_
      obtain ⟨fa, fb, fc, fd, hf, g1, g2, g3, g4⟩ := fw_b (ea := mea (A 0) k) (t := A 5 (100 * d + i)) (hK k (by omega) (by omega)) (by omega)
      have q := hr
      rw [hf] at q
      simp only [Prod.mk.injEq] at q
      obtain ⟨q1, q2, q3, q4⟩ := q
      have b1 : -100000000 ≤ o1 19 ∧ o1 19 ≤ 100000000 := by omega
      have b2 : 0 < o1 20 ∧ o1 20 ≤ 12000 := by omega
      have b4 : o1 21 = -4 ∨ (0 ≤ o1 21 ∧ o1 21 < A 0 0) := by omega
      have fr := fr.tr fr1
      have hs : ∀ j, j < 19 → _ := fun j hj => (hs1 j hj).trans (hs j hj)
      have zm := sMid_b (S := A 0) (k := k) (ab := o1 19) (be := o1 20) (t := A 5 (100 * d + i)) b2.1 (by omega)
      have eP : kpP A (mea (A 0) k) k d r i = decide (o1 21 < 0 ∧ sMid (A 0) k (o1 19) (o1 20) (A 5 (100 * d + i)) % 7 = r) := by unfold kpP; rw [← hr]
      refine ex_of (fun _ _ => ev_aload_n (pc' := 36) dX6_keptOf_35 rfl rfl) ?_
      refine ex_of (fun _ _ => ev_getfield (pc' := 39) fX6_172 dX6_keptOf_36 rfl hw.o rfl) ?_
      refine ex_ifI_lt (pc' := 42) (tgt := 45) dX6_keptOf_39 (by decide) rfl (by omega) (fun c39 => ?_) (fun c39 => ?_)
      · refine ex_of (fun _ _ => ev_aload_n (pc' := 46) dX6_keptOf_45 rfl rfl) ?_
        refine ex_of (fun _ _ => ev_iload_n (pc' := 47) dX6_keptOf_46 rfl rfl) ?_
        refine ex_of (fun _ _ => ev_iload (pc' := 49) dX6_keptOf_47 rfl rfl) ?_
        refine ex_of (fun _ _ => ev_callV2 (pc' := 52) kX6_196 mX6_hereDay dX6_keptOf_49 rfl rfl (Nat.le_of_ble_eq_true rfl) (Nat.le_of_ble_eq_true rfl) (by decide) rfl hw.o (e6_hereDay hw hI hJ (by omega) (hK k (by omega) (by omega)) b1 b2 (by omega) b4)) ?_
        rw [show sHere (A 0) k (o1 19) (o1 20) (o1 21) (A 5 (100 * d + i)) = sMid (A 0) k (o1 19) (o1 20) (A 5 (100 * d + i)) by unfold sHere; rw [if_neg (by omega)]]
        refine ex_of (fun _ _ => ev_istore_6 (pc' := 54) dX6_keptOf_52 rfl (by decide) rfl) ?_
        refine ex_of (fun _ _ => ev_iload (pc' := 56) dX6_keptOf_54 rfl rfl) ?_
        refine ex_of (fun _ _ => ev_i2lI (pc' := 57) dX6_keptOf_56 rfl (by omega)) ?_
        refine ex_of (fun _ _ => ev_ldc2I (pc' := 60) (7) nX6_54 dX6_keptOf_57 rfl (by decide)) ?_
        refine ex_of (fun _ _ => ev_iload (pc' := 62) dX6_keptOf_60 rfl rfl) ?_
        refine ex_of (fun _ _ => ev_i2lI (pc' := 63) dX6_keptOf_62 rfl (by omega)) ?_
        refine ex_of (fun _ _ => ev_ldc2I (pc' := 66) (7) nX6_54 dX6_keptOf_63 rfl (by decide)) ?_
        refine ex_of (fun _ _ => ev_callS2 (pc' := 69) kX6_129 mX6_floor dX6_keptOf_66 rfl rfl (Nat.le_of_ble_eq_true rfl) (Nat.le_of_ble_eq_true rfl) (by decide) (e6_floor (by omega) (by omega))) ?_
        refine ex_of (fun _ _ => ev_lmulI (pc' := 70) dX6_keptOf_69 rfl) ?_
        refine ex_of (fun _ _ => ev_lsubI (pc' := 71) dX6_keptOf_70 rfl) ?_
        refine ex_of (fun _ _ => ev_iload_n (pc' := 72) dX6_keptOf_71 rfl rfl) ?_
        refine ex_of (fun _ _ => ev_i2lI (pc' := 73) dX6_keptOf_72 rfl (by omega)) ?_
        refine ex_lcmpI_ne (pc' := 77) (tgt := 80) dX6_keptOf_73 dX6_keptOf_74 (by decide) rfl (by omega) (by omega) (fun c73 => ?_) (fun c73 => ?_)
        · refine ex_of (fun _ _ => ev_iincI_4 (pc' := 83) dX6_keptOf_80 rfl (by decide) rfl) ?_
          refine ex_of (fun _ _ => ev_goto (tgt := 3) dX6_keptOf_83 (by decide)) ?_
          rw [fstM_f (by rw [eP]; exact decide_eq_false (by omega))]
          exact ih (i + 1) _ _ none _ _ hw fr hs (by omega) (by omega)
        · refine ex_of (fun _ _ => ev_iload (pc' := 79) dX6_keptOf_77 rfl rfl) ?_
          exact ex_end (ev_iret dX6_keptOf_79 rfl) (⟨by rw [fstM_t (by rw [eP]; exact decide_eq_true ⟨by omega, by omega⟩)], _, hw, fr, hs⟩)
      · refine ex_of (fun _ _ => ev_goto (tgt := 80) dX6_keptOf_42 (by decide)) ?_
        refine ex_of (fun _ _ => ev_iincI_4 (pc' := 83) dX6_keptOf_80 rfl (by decide) rfl) ?_
        refine ex_of (fun _ _ => ev_goto (tgt := 3) dX6_keptOf_83 (by decide)) ?_
        rw [fstM_f (by rw [eP]; exact decide_eq_false (by omega))]
        exact ih (i + 1) _ _ none _ _ hw fr hs (by omega) (by omega)
theorem e6_keptOf {k d r : Int} (hw : MW h o A) (hI : mI0 (A 0)) (hJ : mIP (A 0)) (hK : ∀ k, 0 ≤ k → k < A 0 1 → mT (A 0) k) (hS : mSh A) (hk : 0 ≤ k ∧ k < A 0 1) (hd : 0 ≤ d ∧ d < 8) (hr1 : 0 ≤ r ∧ r ≤ 6) (hm : ∀ j, 0 ≤ j → j < A 4 d → 0 ≤ A 5 (100 * d + j) ∧ A 5 (100 * d + j) ≤ 19999) : Ex l 4 yX6_keptOf.cls yX6_keptOf.name cX6_keptOf 7 (some .int) 0 [some (.ref 34), some (.int (iI k)), some (.int (iI d)), some (.int (iI r)), none, none, none] [] h (scP h o A (some (.int (iI (sKp A (mea (A 0) k) k d r))))) := by
  obtain ⟨⟨i1, i2⟩, ⟨i3, i4⟩, i5, i6⟩ := id hI
  have fr := FrM.rf h
  have hs : ∀ j, j < 19 → o j = o j := fun _ _ => rfl
  obtain ⟨s1, s2, s3, s4, s5⟩ := hS.1 d hd.1 hd.2
  refine ex_of (fun _ _ => ev_iconst (pc' := 1) (iI (0)) dX6_keptOf_0 rfl (by decide)) ?_
  refine ex_of (fun _ _ => ev_istore_4 (pc' := 3) dX6_keptOf_1 rfl (by decide) rfl) ?_
  exact e6_kpL hI hJ hK hS hk hd hr1 hm (A 4 d).toNat 0 _ _ none _ _ hw fr hs (by omega) (by omega)
def sKept (A : Nat → Int → Int) (k d r : Int) : Int := if sWk A k d r ≠ 0 then sWk A k d r else sKp A (mea (A 0) k) k d r
theorem e6_kept {k d r : Int} (hw : MW h o A) (hI : mI0 (A 0)) (hJ : mIP (A 0)) (hK : ∀ k, 0 ≤ k → k < A 0 1 → mT (A 0) k) (hS : mSh A) (rk : -2147483648 ≤ k ∧ k < 2147483648) (rd : -2147483648 ≤ d ∧ d < 2147483648) (rr : -2147483648 ≤ r ∧ r < 2147483648) : Ex l 5 yX6_kept.cls yX6_kept.name cX6_kept 5 (some .int) 0 [some (.ref 34), some (.int (iI k)), some (.int (iI d)), some (.int (iI r)), none] [] h (scP h o A (some (.int (iI (sKept A k d r))))) := by
  obtain ⟨⟨i1, i2⟩, ⟨i3, i4⟩, i5, i6⟩ := id hI
  have fr := FrM.rf h
  have hs : ∀ j, j < 19 → o j = o j := fun _ _ => rfl
  have zb := sWk_b A k d r
  refine ex_of (fun _ _ => ev_aload_n (pc' := 1) dX6_kept_0 rfl rfl) ?_
  refine ex_of (fun _ _ => ev_iload_n (pc' := 2) dX6_kept_1 rfl rfl) ?_
  refine ex_of (fun _ _ => ev_iload_n (pc' := 3) dX6_kept_2 rfl rfl) ?_
  refine ex_of (fun _ _ => ev_iload_n (pc' := 4) dX6_kept_3 rfl rfl) ?_
  refine ex_of (fun _ _ => ev_callV3 (pc' := 7) kX6_230 mX6_wrongKept dX6_kept_4 rfl rfl (Nat.le_of_ble_eq_true rfl) (Nat.le_of_ble_eq_true rfl) (by decide) rfl hw.o (e6_wrongKept hw hI hS (by omega) (by omega) (by omega))) ?_
  refine ex_of (fun _ _ => ev_istore_4 (pc' := 9) dX6_kept_7 rfl (by decide) rfl) ?_
  refine ex_of (fun _ _ => ev_iload (pc' := 11) dX6_kept_9 rfl rfl) ?_
  refine ex_ifI_eq (pc' := 14) (tgt := 19) dX6_kept_11 (by decide) rfl (by omega) (fun c11 => ?_) (fun c11 => ?_)
  · obtain ⟨y1, y2, y3, y4, y5, y6⟩ := sWk_0 (show sWk A k d r = 0 by omega)
    refine ex_of (fun _ _ => ev_aload_n (pc' := 20) dX6_kept_19 rfl rfl) ?_
    refine ex_of (fun _ _ => ev_iload_n (pc' := 21) dX6_kept_20 rfl rfl) ?_
    refine ex_of (fun _ _ => ev_iload_n (pc' := 22) dX6_kept_21 rfl rfl) ?_
    refine ex_of (fun _ _ => ev_iload_n (pc' := 23) dX6_kept_22 rfl rfl) ?_
    have hO := hw.o
    obtain ⟨w1, h1, E1, rfl, o1, hw, fr1, hs1⟩ := e6_keptOf (l := l) (k := k) (d := d) (r := r) hw hI hJ hK hS y1 y2 y3 y6
    refine ex_of (fun _ _ => ev_callV3 (pc' := 26) kX6_233 mX6_keptOf dX6_kept_23 rfl rfl (Nat.le_of_ble_eq_true rfl) (Nat.le_of_ble_eq_true rfl) (by decide) rfl hO E1) ?_
    have fr := fr.tr fr1
    have hs : ∀ j, j < 19 → _ := fun j hj => (hs1 j hj).trans (hs j hj)
    exact ex_end (ev_iret dX6_kept_26 rfl) (⟨by unfold sKept; first | rw [if_pos (by omega)] | rw [if_neg (by omega)], _, hw, fr, hs⟩)
  · refine ex_of (fun _ _ => ev_iload (pc' := 16) dX6_kept_14 rfl rfl) ?_
    refine ex_of (fun _ _ => ev_goto (tgt := 26) dX6_kept_16 (by decide)) ?_
    exact ex_end (ev_iret dX6_kept_26 rfl) (⟨by unfold sKept; first | rw [if_pos (by omega)] | rw [if_neg (by omega)], _, hw, fr, hs⟩)
end MQ
