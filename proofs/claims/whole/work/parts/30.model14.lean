section MO
variable {l : Launch} {A : Nat → Int → Int} {h : ev_H} {o : Nat → Int}
/-! the reference's counts; fractions in least terms -/
def cnL (S : Int → Int) : Nat → Int
  | 0 => 0
  | n + 1 => cnL S n + S (143 + 45 * (n : Int) + 3)
def cnP (S : Int → Int) : Nat → Int
  | 0 => 0
  | n + 1 => cnP S n + S (3 + 4 * (n : Int) + 3)
def cnI (S : Int → Int) (a : Int) : Nat → Int
  | 0 => 0
  | n + 1 => cnI S a n + if 0 < S (43 + 10 * a + (n : Int)) then 1 else 0
def cnO (S : Int → Int) : Nat → Int
  | 0 => 0
  | n + 1 => cnO S n + cnI S (n : Int) n
def sCount (S : Int → Int) (w : Int) : Int := if w = 0 then S 0 else if w = 1 then S 1 else if w = 2 then cnL S (S 1).toNat else if w = 3 then S 2 else if w = 4 then cnP S (S 0).toNat else if w = 5 then cnO S (S 0).toNat else -1
theorem e6_cnL {w : Int} (hw : MW h o A) (hI : mI0 (A 0)) (hT : mIT (A 0)) : ∀ (n i : Nat), A 0 1 = i + n → Ev l 1 yX6_count.cls yX6_count.name cX6_count 5 (some .int) 56 [some (.ref 34), some (.int (iI w)), some (.int (iI (cnL (A 0) i))), some (.int (iI (i : Int))), none] [] h (some (.int (iI (cnL (A 0) (A 0 1).toNat)))) h := by
  intro n
  obtain ⟨⟨i1, i2⟩, ⟨i3, i4⟩, i5, i6⟩ := id hI
  induction n with
  | zero =>
    intro i hn
    have ei : (A 0 1).toNat = i := by omega
    rw [ei]
    refine ev_iload_n (pc' := 57) dX6_count_56 rfl rfl ?_
    refine ev_aload_n (pc' := 58) dX6_count_57 rfl rfl ?_
    refine ev_getfield (pc' := 61) fX6_9 dX6_count_58 rfl hw.o rfl ?_
    refine ev_iconst (pc' := 62) (iI (1)) dX6_count_61 rfl (by decide) ?_
    refine ev_ialoadI (pc' := 63) dX6_count_62 rfl hw.a0 (by decide) (by omega) ?_
    refine ev_icmpI_ge (pc' := 66) (tgt := 81) dX6_count_63 (by decide) rfl (by omega) (by omega) (fun c63 => ?_) (fun c63 => ?_)
    · refine ev_iload_n (pc' := 82) dX6_count_81 rfl rfl ?_
      exact ev_ireI dX6_count_82 (rfl)
    · omega
  | succ n ih =>
    intro i hn
    refine ev_iload_n (pc' := 57) dX6_count_56 rfl rfl ?_
    refine ev_aload_n (pc' := 58) dX6_count_57 rfl rfl ?_
    refine ev_getfield (pc' := 61) fX6_9 dX6_count_58 rfl hw.o rfl ?_
    refine ev_iconst (pc' := 62) (iI (1)) dX6_count_61 rfl (by decide) ?_
    refine ev_ialoadI (pc' := 63) dX6_count_62 rfl hw.a0 (by decide) (by omega) ?_
    refine ev_icmpI_ge (pc' := 66) (tgt := 81) dX6_count_63 (by decide) rfl (by omega) (by omega) (fun c63 => ?_) (fun c63 => ?_)
    · omega
    · refine ev_iload_n (pc' := 67) dX6_count_66 rfl rfl ?_
      refine ev_aload_n (pc' := 68) dX6_count_67 rfl rfl ?_
      refine ev_iload_n (pc' := 69) dX6_count_68 rfl rfl ?_
      refine ev_iconst (pc' := 70) (iI (3)) dX6_count_69 rfl (by decide) ?_
      refine ev_callV2 (pc' := 73) kX6_150 mX6_tell dX6_count_70 rfl rfl (Nat.le_of_ble_eq_true rfl) (Nat.le_of_ble_eq_true rfl) (by decide) rfl hw.o (e6_tell hw (by omega)) ?_
      refine ev_iaddI (pc' := 74) dX6_count_73 rfl ?_
      refine ev_istore_2 (pc' := 75) dX6_count_74 rfl (by decide) rfl ?_
      refine ev_iincI_3 (pc' := 78) dX6_count_75 rfl (by decide) rfl ?_
      refine ev_goto (tgt := 56) dX6_count_78 (by decide) ?_
      exact ih (i + 1) (by omega)
theorem e6_cnP {w : Int} (hw : MW h o A) (hI : mI0 (A 0)) (hT : mIT (A 0)) : ∀ (n i : Nat), A 0 0 = i + n → Ev l 1 yX6_count.cls yX6_count.name cX6_count 5 (some .int) 92 [some (.ref 34), some (.int (iI w)), some (.int (iI (cnP (A 0) i))), some (.int (iI (i : Int))), none] [] h (some (.int (iI (cnP (A 0) (A 0 0).toNat)))) h := by
  intro n
  obtain ⟨⟨i1, i2⟩, ⟨i3, i4⟩, i5, i6⟩ := id hI
  induction n with
  | zero =>
    intro i hn
    have ei : (A 0 0).toNat = i := by omega
    rw [ei]
    refine ev_iload_n (pc' := 93) dX6_count_92 rfl rfl ?_
    refine ev_aload_n (pc' := 94) dX6_count_93 rfl rfl ?_
    refine ev_getfield (pc' := 97) fX6_9 dX6_count_94 rfl hw.o rfl ?_
    refine ev_iconst (pc' := 98) (iI (0)) dX6_count_97 rfl (by decide) ?_
    refine ev_ialoadI (pc' := 99) dX6_count_98 rfl hw.a0 (by decide) (by omega) ?_
    refine ev_icmpI_ge (pc' := 102) (tgt := 117) dX6_count_99 (by decide) rfl (by omega) (by omega) (fun c99 => ?_) (fun c99 => ?_)
    · refine ev_iload_n (pc' := 118) dX6_count_117 rfl rfl ?_
      exact ev_ireI dX6_count_118 (rfl)
    · omega
  | succ n ih =>
    intro i hn
    refine ev_iload_n (pc' := 93) dX6_count_92 rfl rfl ?_
    refine ev_aload_n (pc' := 94) dX6_count_93 rfl rfl ?_
    refine ev_getfield (pc' := 97) fX6_9 dX6_count_94 rfl hw.o rfl ?_
    refine ev_iconst (pc' := 98) (iI (0)) dX6_count_97 rfl (by decide) ?_
    refine ev_ialoadI (pc' := 99) dX6_count_98 rfl hw.a0 (by decide) (by omega) ?_
    refine ev_icmpI_ge (pc' := 102) (tgt := 117) dX6_count_99 (by decide) rfl (by omega) (by omega) (fun c99 => ?_) (fun c99 => ?_)
    · omega
    · refine ev_iload_n (pc' := 103) dX6_count_102 rfl rfl ?_
      refine ev_aload_n (pc' := 104) dX6_count_103 rfl rfl ?_
      refine ev_iload_n (pc' := 105) dX6_count_104 rfl rfl ?_
      refine ev_iconst (pc' := 106) (iI (3)) dX6_count_105 rfl (by decide) ?_
      refine ev_callV2 (pc' := 109) kX6_108 mX6_get dX6_count_106 rfl rfl (Nat.le_of_ble_eq_true rfl) (Nat.le_of_ble_eq_true rfl) (by decide) rfl hw.o (e6_get hw (by omega)) ?_
      refine ev_iaddI (pc' := 110) dX6_count_109 rfl ?_
      refine ev_istore_2 (pc' := 111) dX6_count_110 rfl (by decide) rfl ?_
      refine ev_iincI_3 (pc' := 114) dX6_count_111 rfl (by decide) rfl ?_
      refine ev_goto (tgt := 92) dX6_count_114 (by decide) ?_
      exact ih (i + 1) (by omega)
theorem e6_cnI {w : Int} (hw : MW h o A) (hI : mI0 (A 0)) (hT : mIT (A 0)) {a v0 r : Int} (ha : 0 ≤ a ∧ a < A 0 0) : ∀ (n b : Nat), a = b + n → Ev l 1 yX6_count.cls yX6_count.name cX6_count 5 (some .int) 172 [some (.ref 34), some (.int (iI w)), some (.int (iI (v0 + cnI (A 0) a a.toNat))), some (.int (iI (a))), some (.int (iI a))] [] h (some (.int (iI (r)))) h → Ev l 1 yX6_count.cls yX6_count.name cX6_count 5 (some .int) 134 [some (.ref 34), some (.int (iI w)), some (.int (iI (v0 + cnI (A 0) a b))), some (.int (iI (a))), some (.int (iI (b : Int)))] [] h (some (.int (iI (r)))) h := by
  intro n
  obtain ⟨⟨i1, i2⟩, ⟨i3, i4⟩, i5, i6⟩ := id hI
  induction n with
  | zero =>
    intro b hn k
    have eb : a.toNat = b := by omega
    have ea : a = (b : Int) := by omega
    subst ea
    refine ev_iload (pc' := 136) dX6_count_134 rfl rfl ?_
    refine ev_iload_n (pc' := 137) dX6_count_136 rfl rfl ?_
    refine ev_icmpI_ge (pc' := 140) (tgt := 172) dX6_count_137 (by decide) rfl (by omega) (by omega) (fun c137 => ?_) (fun c137 => ?_)
    · rw [eb] at k
      exact k
    · omega
  | succ n ih =>
    intro b hn k
    obtain ⟨q1, -⟩ := hT a (b : Int) (by omega) (by omega) (by omega) (by omega)
    have e1 : v0 + cnI (A 0) a (b + 1) = v0 + cnI (A 0) a b + if 0 < A 0 (43 + 10 * a + (b : Int)) then 1 else 0 := by rw [Int.add_assoc]; rfl
    refine ev_iload (pc' := 136) dX6_count_134 rfl rfl ?_
    refine ev_iload_n (pc' := 137) dX6_count_136 rfl rfl ?_
    refine ev_icmpI_ge (pc' := 140) (tgt := 172) dX6_count_137 (by decide) rfl (by omega) (by omega) (fun c137 => ?_) (fun c137 => ?_)
    · omega
    · refine ev_iload_n (pc' := 141) dX6_count_140 rfl rfl ?_
      refine ev_aload_n (pc' := 142) dX6_count_141 rfl rfl ?_
      refine ev_getfield (pc' := 145) fX6_9 dX6_count_142 rfl hw.o rfl ?_
      refine ev_bipush (pc' := 147) (iI (43)) dX6_count_145 rfl (by decide) ?_
      refine ev_bipush (pc' := 149) (iI (10)) dX6_count_147 rfl (by decide) ?_
      refine ev_iload_n (pc' := 150) dX6_count_149 rfl rfl ?_
      refine ev_imulI (pc' := 151) dX6_count_150 rfl ?_
      refine ev_iaddI (pc' := 152) dX6_count_151 rfl ?_
      refine ev_iload (pc' := 154) dX6_count_152 rfl rfl ?_
      refine ev_iaddI (pc' := 155) dX6_count_154 rfl ?_
      refine ev_ialoadI (pc' := 156) dX6_count_155 rfl hw.a0 (by decide) (by omega) ?_
      refine ev_ifI_le (pc' := 159) (tgt := 163) dX6_count_156 (by decide) rfl (by omega) (fun c156 => ?_) (fun c156 => ?_)
      · refine ev_iconst (pc' := 164) (iI (0)) dX6_count_163 rfl (by decide) ?_
        refine ev_iaddI (pc' := 165) dX6_count_164 rfl ?_
        refine ev_istore_2 (pc' := 166) dX6_count_165 rfl (by decide) rfl ?_
        refine ev_iincI_4 (pc' := 169) dX6_count_166 rfl (by decide) rfl ?_
        refine ev_goto (tgt := 134) dX6_count_169 (by decide) ?_
        have K := ih (b + 1) (by omega) k
        rw [e1] at K
        first | rw [if_pos (by omega)] at K | rw [if_neg (by omega)] at K
        exact K
      · refine ev_iconst (pc' := 160) (iI (1)) dX6_count_159 rfl (by decide) ?_
        refine ev_goto (tgt := 164) dX6_count_160 (by decide) ?_
        refine ev_iaddI (pc' := 165) dX6_count_164 rfl ?_
        refine ev_istore_2 (pc' := 166) dX6_count_165 rfl (by decide) rfl ?_
        refine ev_iincI_4 (pc' := 169) dX6_count_166 rfl (by decide) rfl ?_
        refine ev_goto (tgt := 134) dX6_count_169 (by decide) ?_
        have K := ih (b + 1) (by omega) k
        rw [e1] at K
        first | rw [if_pos (by omega)] at K | rw [if_neg (by omega)] at K
        exact K
theorem e6_cnO {w : Int} (hw : MW h o A) (hI : mI0 (A 0)) (hT : mIT (A 0)) : ∀ (n a : Nat) (a4 : Option Value), A 0 0 = a + n → Ev l 1 yX6_count.cls yX6_count.name cX6_count 5 (some .int) 121 [some (.ref 34), some (.int (iI w)), some (.int (iI (cnO (A 0) a))), some (.int (iI ((a : Int)))), a4] [] h (some (.int (iI (cnO (A 0) (A 0 0).toNat)))) h := by
  intro n
  obtain ⟨⟨i1, i2⟩, ⟨i3, i4⟩, i5, i6⟩ := id hI
  induction n with
  | zero =>
    intro a a4 hn
    have eb : (A 0 0).toNat = a := by omega
    rw [eb]
    refine ev_iload_n (pc' := 122) dX6_count_121 rfl rfl ?_
    refine ev_aload_n (pc' := 123) dX6_count_122 rfl rfl ?_
    refine ev_getfield (pc' := 126) fX6_9 dX6_count_123 rfl hw.o rfl ?_
    refine ev_iconst (pc' := 127) (iI (0)) dX6_count_126 rfl (by decide) ?_
    refine ev_ialoadI (pc' := 128) dX6_count_127 rfl hw.a0 (by decide) (by omega) ?_
    refine ev_icmpI_ge (pc' := 131) (tgt := 178) dX6_count_128 (by decide) rfl (by omega) (by omega) (fun c128 => ?_) (fun c128 => ?_)
    · refine ev_iload_n (pc' := 179) dX6_count_178 rfl rfl ?_
      exact ev_ireI dX6_count_179 (rfl)
    · omega
  | succ n ih =>
    intro a a4 hn
    refine ev_iload_n (pc' := 122) dX6_count_121 rfl rfl ?_
    refine ev_aload_n (pc' := 123) dX6_count_122 rfl rfl ?_
    refine ev_getfield (pc' := 126) fX6_9 dX6_count_123 rfl hw.o rfl ?_
    refine ev_iconst (pc' := 127) (iI (0)) dX6_count_126 rfl (by decide) ?_
    refine ev_ialoadI (pc' := 128) dX6_count_127 rfl hw.a0 (by decide) (by omega) ?_
    refine ev_icmpI_ge (pc' := 131) (tgt := 178) dX6_count_128 (by decide) rfl (by omega) (by omega) (fun c128 => ?_) (fun c128 => ?_)
    · omega
    · refine ev_iconst (pc' := 132) (iI (0)) dX6_count_131 rfl (by decide) ?_
      refine ev_istore_4 (pc' := 134) dX6_count_132 rfl (by decide) rfl ?_
      refine ev_ll (lc := [some (.ref 34), some (.int (iI w)), some (.int (iI (cnO (A 0) a + cnI (A 0) (a : Int) (0 : Nat)))), some (.int (iI ((a : Int)))), some (.int (iI ((0 : Nat) : Int)))]) ?_ (e6_cnI hw hI hT (a := (a : Int)) (by omega) a 0 (by omega) ?_)
      · rw [show cnO (A 0) a + cnI (A 0) (a : Int) 0 = cnO (A 0) a from Int.add_zero _]
        rfl
      · rw [show ((a : Int)).toNat = a by omega]
        refine ev_iincI_3 (pc' := 175) dX6_count_172 rfl (by decide) rfl ?_
        refine ev_goto (tgt := 121) dX6_count_175 (by decide) ?_
        exact ih (a + 1) _ (by omega)
theorem e6_count {w : Int} (hw : MW h o A) (hI : mI0 (A 0)) (hT : mIT (A 0)) (rw : -2147483648 ≤ w ∧ w < 2147483648) : Ev l 1 yX6_count.cls yX6_count.name cX6_count 5 (some .int) 0 [some (.ref 34), some (.int (iI w)), none, none, none] [] h (some (.int (iI (sCount (A 0) w)))) h := by
  obtain ⟨⟨i1, i2⟩, ⟨i3, i4⟩, i5, i6⟩ := id hI
  refine ev_iconst (pc' := 1) (iI (0)) dX6_count_0 rfl (by decide) ?_
  refine ev_istore_2 (pc' := 2) dX6_count_1 rfl (by decide) rfl ?_
  refine ev_iload_n (pc' := 3) dX6_count_2 rfl rfl ?_
  by_cases c3_0 : w = 0
  · refine ev_tableInI dX6_count_3 c3_0 (by decide) (by decide) (by decide) (off := 37) (by decide) (tgt := 40) (by decide) ?_
    refine ev_aload_n (pc' := 41) dX6_count_40 rfl rfl ?_
    refine ev_getfield (pc' := 44) fX6_9 dX6_count_41 rfl hw.o rfl ?_
    refine ev_iconst (pc' := 45) (iI (0)) dX6_count_44 rfl (by decide) ?_
    refine ev_ialoadI (pc' := 46) dX6_count_45 rfl hw.a0 (by decide) (by omega) ?_
    exact ev_ireI dX6_count_46 (by unfold sCount; (repeat (first | rw [if_pos (by omega)] | rw [if_neg (by omega)])))
  · skip
    by_cases c3_1 : w = 1
    · refine ev_tableInI dX6_count_3 c3_1 (by decide) (by decide) (by decide) (off := 44) (by decide) (tgt := 47) (by decide) ?_
      refine ev_aload_n (pc' := 48) dX6_count_47 rfl rfl ?_
      refine ev_getfield (pc' := 51) fX6_9 dX6_count_48 rfl hw.o rfl ?_
      refine ev_iconst (pc' := 52) (iI (1)) dX6_count_51 rfl (by decide) ?_
      refine ev_ialoadI (pc' := 53) dX6_count_52 rfl hw.a0 (by decide) (by omega) ?_
      exact ev_ireI dX6_count_53 (by unfold sCount; (repeat (first | rw [if_pos (by omega)] | rw [if_neg (by omega)])))
    · skip
      by_cases c3_2 : w = 2
      · refine ev_tableInI dX6_count_3 c3_2 (by decide) (by decide) (by decide) (off := 51) (by decide) (tgt := 54) (by decide) ?_
        refine ev_iconst (pc' := 55) (iI (0)) dX6_count_54 rfl (by decide) ?_
        refine ev_istore_3 (pc' := 56) dX6_count_55 rfl (by decide) rfl ?_
        rw [show sCount (A 0) w = cnL (A 0) (A 0 1).toNat by unfold sCount; (repeat (first | rw [if_pos (by omega)] | rw [if_neg (by omega)]))]
        exact e6_cnL hw hI hT (A 0 1).toNat 0 (by omega)
      · skip
        by_cases c3_3 : w = 3
        · refine ev_tableInI dX6_count_3 c3_3 (by decide) (by decide) (by decide) (off := 80) (by decide) (tgt := 83) (by decide) ?_
          refine ev_aload_n (pc' := 84) dX6_count_83 rfl rfl ?_
          refine ev_getfield (pc' := 87) fX6_9 dX6_count_84 rfl hw.o rfl ?_
          refine ev_iconst (pc' := 88) (iI (2)) dX6_count_87 rfl (by decide) ?_
          refine ev_ialoadI (pc' := 89) dX6_count_88 rfl hw.a0 (by decide) (by omega) ?_
          exact ev_ireI dX6_count_89 (by unfold sCount; (repeat (first | rw [if_pos (by omega)] | rw [if_neg (by omega)])))
        · skip
          by_cases c3_4 : w = 4
          · refine ev_tableInI dX6_count_3 c3_4 (by decide) (by decide) (by decide) (off := 87) (by decide) (tgt := 90) (by decide) ?_
            refine ev_iconst (pc' := 91) (iI (0)) dX6_count_90 rfl (by decide) ?_
            refine ev_istore_3 (pc' := 92) dX6_count_91 rfl (by decide) rfl ?_
            rw [show sCount (A 0) w = cnP (A 0) (A 0 0).toNat by unfold sCount; (repeat (first | rw [if_pos (by omega)] | rw [if_neg (by omega)]))]
            exact e6_cnP hw hI hT (A 0 0).toNat 0 (by omega)
          · skip
            by_cases c3_5 : w = 5
            · refine ev_tableInI dX6_count_3 c3_5 (by decide) (by decide) (by decide) (off := 116) (by decide) (tgt := 119) (by decide) ?_
              refine ev_iconst (pc' := 120) (iI (0)) dX6_count_119 rfl (by decide) ?_
              refine ev_istore_3 (pc' := 121) dX6_count_120 rfl (by decide) rfl ?_
              rw [show sCount (A 0) w = cnO (A 0) (A 0 0).toNat by unfold sCount; (repeat (first | rw [if_pos (by omega)] | rw [if_neg (by omega)]))]
              exact e6_cnO hw hI hT (A 0 0).toNat 0 none (by omega)
            · skip
              refine ev_tableOutI dX6_count_3 (by omega) (by omega) (tgt := 180) (by decide) ?_
              refine ev_iconst (pc' := 181) (iI (-1)) dX6_count_180 rfl (by decide) ?_
              exact ev_ireI dX6_count_181 (by unfold sCount; (repeat (first | rw [if_pos (by omega)] | rw [if_neg (by omega)])))
theorem e6_comL : ∀ (n x y : Nat) (a0 a2 a8 : Option Value), y < n → x < 4611686018427387904 → y < 4611686018427387904 → Ev l 0 yX6_common.cls yX6_common.name cX6_common 10 (some .long) 6 [a0, none, a2, none, some (.long (jJ ((x : Int)))), none, some (.long (jJ ((y : Int)))), none, a8, none] [] h (some (.long (jJ ((Nat.gcd x y : Nat) : Int)))) h := by
  intro n
  induction n with
  | zero => intro x y a0 a2 a8 hy; omega
  | succ n ih =>
    intro x y a0 a2 a8 hy hx1 hy1
    refine ev_lload (pc' := 8) dX6_common_6 rfl rfl ?_
    refine ev_lconst (pc' := 9) (jJ (0)) dX6_common_8 rfl (by decide) ?_
    refine ev_lcmpI_eq (pc' := 13) (tgt := 31) dX6_common_9 dX6_common_10 (by decide) rfl (by omega) (by omega) (fun c9 => ?_) (fun c9 => ?_)
    · refine ev_lload (pc' := 33) dX6_common_31 rfl rfl ?_
      exact ev_lreI dX6_common_33 (by rw [show y = 0 by omega, Nat.gcd_zero_right])
    · refine ev_lload (pc' := 15) dX6_common_13 rfl rfl ?_
      refine ev_lload (pc' := 17) dX6_common_15 rfl rfl ?_
      refine ev_lremI (pc' := 18) dX6_common_17 rfl (by omega) (by omega) (by omega) ?_
      refine ev_lstore_8 (pc' := 20) dX6_common_18 rfl (by decide) rfl ?_
      refine ev_lload (pc' := 22) dX6_common_20 rfl rfl ?_
      refine ev_lstore_4 (pc' := 24) dX6_common_22 rfl (by decide) rfl ?_
      refine ev_lload (pc' := 26) dX6_common_24 rfl rfl ?_
      refine ev_lstore_6 (pc' := 28) dX6_common_26 rfl (by decide) rfl ?_
      refine ev_goto (tgt := 6) dX6_common_28 (by decide) ?_
      rw [show Int.tmod (x : Int) (y : Int) = ((x % y : Nat) : Int) from (Int.ofNat_tmod x y).symm ▸ rfl]
      have hm : x % y < y := Nat.mod_lt _ (by omega)
      have K := ih y (x % y) a0 a2 (some (.long (jJ ((x % y : Nat) : Int)))) (by omega) hy1 (by omega)
      rw [Nat.gcd_comm y (x % y), ← Nat.gcd_rec, Nat.gcd_comm] at K
      exact K
theorem e6_common {a b : Int} (ha : 0 ≤ a ∧ a < 4611686018427387904) (hb : 0 ≤ b ∧ b < 4611686018427387904) : Ev l 0 yX6_common.cls yX6_common.name cX6_common 10 (some .long) 0 [some (.long (jJ a)), none, some (.long (jJ b)), none, none, none, none, none, none, none] [] h (some (.long (jJ ((Nat.gcd a.toNat b.toNat : Nat) : Int)))) h := by
  have ea : a = (a.toNat : Int) := by omega
  have eb : b = (b.toNat : Int) := by omega
  refine ev_lload_n (pc' := 1) dX6_common_0 rfl rfl ?_
  refine ev_lstore_4 (pc' := 3) dX6_common_1 rfl (by decide) rfl ?_
  refine ev_lload_n (pc' := 4) dX6_common_3 rfl rfl ?_
  refine ev_lstore_6 (pc' := 6) dX6_common_4 rfl (by decide) rfl ?_
  have K := e6_comL (l := l) (h := h) (b.toNat + 1) a.toNat b.toNat (some (.long (jJ a))) (some (.long (jJ b))) none (by omega) (by omega) (by omega)
  rw [← ea, ← eb] at K
  exact K
def whX (S : Int → Int) (k ab be : Int) : Int := (S (3 + 4 * S (143 + 45 * k + 1) + 0) * be + ab) % (360 * be)
def whG (S : Int → Int) (k ab be : Int) : Int := ((Nat.gcd (whX S k ab be).toNat be.toNat : Nat) : Int)
def sWhere (S : Int → Int) (k t p : Int) : Int := if (0 ≤ k ∧ k < S 1) ∧ (0 ≤ t ∧ t ≤ 19999) ∧ (0 ≤ p ∧ p ≤ 1) then (if p = 0 then whX S k (fw S (mea S k) k t).1 (fw S (mea S k) k t).2.1 / whG S k (fw S (mea S k) k t).1 (fw S (mea S k) k t).2.1 else (fw S (mea S k) k t).2.1 / whG S k (fw S (mea S k) k t).1 (fw S (mea S k) k t).2.1) else -4000000000000000001
theorem e6_where {k t p : Int} (hw : MW h o A) (hI : mI0 (A 0)) (hJ : mIP (A 0)) (hK : ∀ k, 0 ≤ k → k < A 0 1 → mT (A 0) k) (rk : -2147483648 ≤ k ∧ k < 2147483648) (rt : -2147483648 ≤ t ∧ t < 2147483648) (rp : -2147483648 ≤ p ∧ p < 2147483648) : Ex l 4 yX6_where.cls yX6_where.name cX6_where 8 (some .long) 0 [some (.ref 34), some (.int (iI k)), some (.int (iI t)), some (.int (iI p)), none, none, none, none] [] h (scP h o A (some (.long (jJ (sWhere (A 0) k t p))))) := by
  obtain ⟨⟨i1, i2⟩, ⟨i3, i4⟩, i5, i6⟩ := id hI
  have fr := FrM.rf h
  have hs : ∀ j, j < 19 → o j = o j := fun _ _ => rfl
  refine ex_of (fun _ _ => ev_aload_n (pc' := 1) dX6_where_0 rfl rfl) ?_
  refine ex_of (fun _ _ => ev_iload_n (pc' := 2) dX6_where_1 rfl rfl) ?_
  refine ex_of (fun _ _ => ev_callV1 (pc' := 5) kX6_157 mX6_isOne dX6_where_2 rfl rfl (Nat.le_of_ble_eq_true rfl) (Nat.le_of_ble_eq_true rfl) (by decide) rfl hw.o (e6_isOne hw hI (by omega))) ?_
  refine ex_ifd_eq (pc' := 8) (tgt := 26) dX6_where_5 (by decide) rfl (fun c5 => ?_) (fun c5 => ?_)
  · refine ex_of (fun _ _ => ev_ldc2I (pc' := 29) (-4000000000000000001) nX6_180 dX6_where_26 rfl (by decide)) ?_
    exact ex_end (ev_lret dX6_where_29) (⟨by unfold sWhere; rw [if_neg (by omega)], _, hw, fr, hs⟩)
  · refine ex_of (fun _ _ => ev_iload_n (pc' := 9) dX6_where_8 rfl rfl) ?_
    refine ex_of (fun _ _ => ev_i2lI (pc' := 10) dX6_where_9 rfl (by omega)) ?_
    refine ex_of (fun _ _ => ev_callS1 (pc' := 13) kX6_141 mX6_isMinute dX6_where_10 rfl rfl (Nat.le_of_ble_eq_true rfl) (Nat.le_of_ble_eq_true rfl) (by decide) (e6_isMinute (by omega))) ?_
    refine ex_ifd_eq (pc' := 16) (tgt := 26) dX6_where_13 (by decide) rfl (fun c13 => ?_) (fun c13 => ?_)
    · refine ex_of (fun _ _ => ev_ldc2I (pc' := 29) (-4000000000000000001) nX6_180 dX6_where_26 rfl (by decide)) ?_
      exact ex_end (ev_lret dX6_where_29) (⟨by unfold sWhere; rw [if_neg (by omega)], _, hw, fr, hs⟩)
    · refine ex_of (fun _ _ => ev_iload_n (pc' := 17) dX6_where_16 rfl rfl) ?_
      refine ex_of (fun _ _ => ev_i2lI (pc' := 18) dX6_where_17 rfl (by omega)) ?_
      refine ex_of (fun _ _ => ev_lconst (pc' := 19) (jJ (0)) dX6_where_18 rfl (by decide)) ?_
      refine ex_of (fun _ _ => ev_lconst (pc' := 20) (jJ (1)) dX6_where_19 rfl (by decide)) ?_
      refine ex_of (fun _ _ => ev_callS3 (pc' := 23) kX6_48 mX6_isIn dX6_where_20 rfl rfl (Nat.le_of_ble_eq_true rfl) (Nat.le_of_ble_eq_true rfl) (by decide) (e6_isIn (by omega) (by omega) (by omega))) ?_
      refine ex_ifd_ne (pc' := 26) (tgt := 30) dX6_where_23 (by decide) rfl (fun c23 => ?_) (fun c23 => ?_)
      · refine ex_of (fun _ _ => ev_aload_n (pc' := 31) dX6_where_30 rfl rfl) ?_
        refine ex_of (fun _ _ => ev_iload_n (pc' := 32) dX6_where_31 rfl rfl) ?_
        refine ex_of (fun _ _ => ev_iload_n (pc' := 33) dX6_where_32 rfl rfl) ?_
        have hO := hw.o
        obtain ⟨w1, h1, E1, rfl, o1, hw, fr1, hs1, hr⟩ := e6_findWhere (l := l) (k := k) (t := t) hw hI hJ (by omega) (hK k (by omega) (by omega)) (by omega)
        refine ex_of (fun _ _ => ev_callV2v (pc' := 36) kX6_182 mX6_findWhere dX6_where_33 rfl rfl (Nat.le_of_ble_eq_true rfl) (Nat.le_of_ble_eq_true rfl) (by decide) rfl hO E1) ?_
        obtain ⟨fa, fb, fc, fd, hf, g1, g2, g3, g4⟩ := fw_b (ea := mea (A 0) k) (t := t) (hK k (by omega) (by omega)) (by omega)
        have q := hr
        rw [hf] at q
        simp only [Prod.mk.injEq] at q
        obtain ⟨q1, q2, q3, q4⟩ := q
        have b1 : -100000000 ≤ o1 19 ∧ o1 19 ≤ 100000000 := by omega
        have b2 : 0 < o1 20 ∧ o1 20 ≤ 12000 := by omega
        have b4 : o1 21 = -4 ∨ (0 ≤ o1 21 ∧ o1 21 < A 0 0) := by omega
        have fr := fr.tr fr1
        have hs : ∀ j, j < 19 → _ := fun j hj => (hs1 j hj).trans (hs j hj)
        obtain ⟨t0, t1, -⟩ := hK k (by omega) (by omega)
        obtain ⟨v1, -⟩ := hJ _ t1.1 t1.2
        have b3 := mul_bd (x := A 0 (3 + 4 * A 0 (143 + 45 * k + 1) + 0)) (y := o1 20) (X := 360) (Y := 12000) (by omega) (by omega)
        have e4 := Int.emod_nonneg (A 0 (3 + 4 * A 0 (143 + 45 * k + 1) + 0) * o1 20 + o1 19) (show 360 * o1 20 ≠ 0 by omega)
        have e5 := Int.emod_lt_of_pos (A 0 (3 + 4 * A 0 (143 + 45 * k + 1) + 0) * o1 20 + o1 19) (show 0 < 360 * o1 20 by omega)
        have g6 : 0 < Nat.gcd (whX (A 0) k (o1 19) (o1 20)).toNat (o1 20).toNat := Nat.gcd_pos_of_pos_right _ (by omega)
        have g7 : Nat.gcd (whX (A 0) k (o1 19) (o1 20)).toNat (o1 20).toNat ≤ (o1 20).toNat := Nat.gcd_le_right _ (by omega)
        have eX : whX (A 0) k (o1 19) (o1 20) = (A 0 (3 + 4 * A 0 (143 + 45 * k + 1) + 0) * o1 20 + o1 19) % (360 * o1 20) := rfl
        have eD := Int.emod_def (A 0 (3 + 4 * A 0 (143 + 45 * k + 1) + 0) * o1 20 + o1 19) (360 * o1 20)
        refine ex_of (fun _ _ => ev_aload_n (pc' := 37) dX6_where_36 rfl rfl) ?_
        refine ex_of (fun _ _ => ev_aload_n (pc' := 38) dX6_where_37 rfl rfl) ?_
        refine ex_of (fun _ _ => ev_iload_n (pc' := 39) dX6_where_38 rfl rfl) ?_
        refine ex_of (fun _ _ => ev_iconst (pc' := 40) (iI (1)) dX6_where_39 rfl (by decide)) ?_
        refine ex_of (fun _ _ => ev_callV2 (pc' := 43) kX6_150 mX6_tell dX6_where_40 rfl rfl (Nat.le_of_ble_eq_true rfl) (Nat.le_of_ble_eq_true rfl) (by decide) rfl hw.o (e6_tell hw (by omega))) ?_
        refine ex_of (fun _ _ => ev_iconst (pc' := 44) (iI (0)) dX6_where_43 rfl (by decide)) ?_
        refine ex_of (fun _ _ => ev_callV2 (pc' := 47) kX6_108 mX6_get dX6_where_44 rfl rfl (Nat.le_of_ble_eq_true rfl) (Nat.le_of_ble_eq_true rfl) (by decide) rfl hw.o (e6_get hw (by omega))) ?_
        refine ex_of (fun _ _ => ev_i2lI (pc' := 48) dX6_where_47 rfl (by omega)) ?_
        refine ex_of (fun _ _ => ev_aload_n (pc' := 49) dX6_where_48 rfl rfl) ?_
        refine ex_of (fun _ _ => ev_getfield (pc' := 52) fX6_169 dX6_where_49 rfl hw.o rfl) ?_
        refine ex_of (fun _ _ => ev_lmulI (pc' := 53) dX6_where_52 rfl) ?_
        refine ex_of (fun _ _ => ev_aload_n (pc' := 54) dX6_where_53 rfl rfl) ?_
        refine ex_of (fun _ _ => ev_getfield (pc' := 57) fX6_165 dX6_where_54 rfl hw.o rfl) ?_
        refine ex_of (fun _ _ => ev_laddI (pc' := 58) dX6_where_57 rfl) ?_
        refine ex_of (fun _ _ => ev_lstore_4 (pc' := 60) dX6_where_58 rfl (by decide) rfl) ?_
        refine ex_of (fun _ _ => ev_lload (pc' := 62) dX6_where_60 rfl rfl) ?_
        refine ex_of (fun _ _ => ev_ldc2I (pc' := 65) (360) nX6_121 dX6_where_62 rfl (by decide)) ?_
        refine ex_of (fun _ _ => ev_aload_n (pc' := 66) dX6_where_65 rfl rfl) ?_
        refine ex_of (fun _ _ => ev_getfield (pc' := 69) fX6_169 dX6_where_66 rfl hw.o rfl) ?_
        refine ex_of (fun _ _ => ev_lmulI (pc' := 70) dX6_where_69 rfl) ?_
        refine ex_of (fun _ _ => ev_lload (pc' := 72) dX6_where_70 rfl rfl) ?_
        refine ex_of (fun _ _ => ev_ldc2I (pc' := 75) (360) nX6_121 dX6_where_72 rfl (by decide)) ?_
        refine ex_of (fun _ _ => ev_aload_n (pc' := 76) dX6_where_75 rfl rfl) ?_
        refine ex_of (fun _ _ => ev_getfield (pc' := 79) fX6_169 dX6_where_76 rfl hw.o rfl) ?_
        refine ex_of (fun _ _ => ev_lmulI (pc' := 80) dX6_where_79 rfl) ?_
        refine ex_of (fun _ _ => ev_callS2 (pc' := 83) kX6_129 mX6_floor dX6_where_80 rfl rfl (Nat.le_of_ble_eq_true rfl) (Nat.le_of_ble_eq_true rfl) (by decide) (e6_floor (by omega) (by omega))) ?_
        refine ex_of (fun _ _ => ev_lmulI (pc' := 84) dX6_where_83 rfl) ?_
        refine ex_of (fun _ _ => ev_lsubI (pc' := 85) dX6_where_84 rfl) ?_
        rw [← eD, ← eX]
        refine ex_of (fun _ _ => ev_lstore_4 (pc' := 87) dX6_where_85 rfl (by decide) rfl) ?_
        refine ex_of (fun _ _ => ev_lload (pc' := 89) dX6_where_87 rfl rfl) ?_
        refine ex_of (fun _ _ => ev_aload_n (pc' := 90) dX6_where_89 rfl rfl) ?_
        refine ex_of (fun _ _ => ev_getfield (pc' := 93) fX6_169 dX6_where_90 rfl hw.o rfl) ?_
        refine ex_of (fun _ _ => ev_callS2 (pc' := 96) kX6_186 mX6_common dX6_where_93 rfl rfl (Nat.le_of_ble_eq_true rfl) (Nat.le_of_ble_eq_true rfl) (by decide) (e6_common (by omega) (by omega))) ?_
        refine ex_of (fun _ _ => ev_lstore_6 (pc' := 98) dX6_where_96 rfl (by decide) rfl) ?_
        refine ex_of (fun _ _ => ev_iload_n (pc' := 99) dX6_where_98 rfl rfl) ?_
        refine ex_ifI_ne (pc' := 102) (tgt := 110) dX6_where_99 (by decide) rfl (by omega) (fun c99 => ?_) (fun c99 => ?_)
        · refine ex_of (fun _ _ => ev_aload_n (pc' := 111) dX6_where_110 rfl rfl) ?_
          refine ex_of (fun _ _ => ev_getfield (pc' := 114) fX6_169 dX6_where_111 rfl hw.o rfl) ?_
          refine ex_of (fun _ _ => ev_lload (pc' := 116) dX6_where_114 rfl rfl) ?_
          refine ex_of (fun _ _ => ev_ldivI (pc' := 117) dX6_where_116 rfl (by omega) (by omega) (by omega)) ?_
          exact ex_end (ev_lret dX6_where_117) (⟨by unfold sWhere; rw [if_pos (by omega), ← hr]; first | (rw [if_pos (by omega)]; rw [fd_pos (by omega)]; rfl) | (rw [if_neg (by omega)]; rw [fd_pos (by omega)]; rfl), _, hw, fr, hs⟩)
        · refine ex_of (fun _ _ => ev_lload (pc' := 104) dX6_where_102 rfl rfl) ?_
          refine ex_of (fun _ _ => ev_lload (pc' := 106) dX6_where_104 rfl rfl) ?_
          refine ex_of (fun _ _ => ev_ldivI (pc' := 107) dX6_where_106 rfl (by omega) (by omega) (by omega)) ?_
          refine ex_of (fun _ _ => ev_goto (tgt := 117) dX6_where_107 (by decide)) ?_
          exact ex_end (ev_lret dX6_where_117) (⟨by unfold sWhere; rw [if_pos (by omega), ← hr]; first | (rw [if_pos (by omega)]; rw [fd_pos (by omega)]; rfl) | (rw [if_neg (by omega)]; rw [fd_pos (by omega)]; rfl), _, hw, fr, hs⟩)
      · refine ex_of (fun _ _ => ev_ldc2I (pc' := 29) (-4000000000000000001) nX6_180 dX6_where_26 rfl (by decide)) ?_
        exact ex_end (ev_lret dX6_where_29) (⟨by unfold sWhere; rw [if_neg (by omega)], _, hw, fr, hs⟩)
end MO
