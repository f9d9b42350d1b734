section CL1
variable {l : Launch} {h h0 : ev_H} {A : Nat → Int → Int} {F w : Nat → Option Nat} {d t : Nat} {k : Int}
theorem lst_b (s : Int) : -2147483648 ≤ lstS s ∧ lstS s < 2147483648 := by unfold lstS; split; omega; split <;> omega
theorem e5_judL {tt n : Int} (hk : 0 ≤ k ∧ k < A 0 1) (ht : F k.toNat = some t) (hA : mSh A) (hd : d < 8) (hI : mI0 (A 0)) (hJ : mIP (A 0)) (hM : mT (A 0) k) (rt : 0 ≤ tt ∧ tt ≤ 19999) (rn : 1 ≤ n ∧ n ≤ 9999) (hl : ∀ i : Int, 0 ≤ i → i < A 4 d → 0 ≤ tt + i * n ∧ tt + i * n ≤ 19999) : ∀ (c i : Nat) (a9 : Option Value) (h : ev_H), A 4 d = i + c → FrS h0 h → RC h (A 0) F → SC h A w → Ex l 5 yX5_judge.cls yX5_judge.name cX5_judge 10 (some .int) 102 [some (.ref 0), some (.int (iI k)), some (.int (iI (d : Int))), some (.int (iI tt)), some (.int (iI n)), some (.ref t), some (.ref (18 + 2 * d)), some (.int (iI (lstS (A 3 d)))), some (.int (iI (i : Int))), a9] [] h (lkP h0 (A 0) F (some (.int (iI (fstM (jdP A k d tt n) c i))))) := by
  obtain ⟨s1, s2, s3, s4, s5⟩ := hA.1 (d : Int) (by omega) (by omega)
  obtain ⟨tk, -⟩ := id hM
  have lb := lst_b (A 3 d)
  intro c
  induction c with
  | zero =>
    intro i a9 h hn fr hR hS
    obtain ⟨⟨im, hX⟩, -⟩ := id hR
    have hW := hR.w
    obtain ⟨el, hSh, ⟨hel, eel⟩, hw1, hw2⟩ := SC.op hS hd
    obtain ⟨ea, to, fro, en, ca, cb, -, hT, -⟩ := CT.op (hR.tr hk ht).1
    refine ex_of (fun _ _ => ev_iload (pc' := 104) dX5_judge_102 rfl rfl) ?_
    refine ex_of (fun _ _ => ev_aload (pc' := 106) dX5_judge_104 rfl rfl) ?_
    refine ex_of (fun _ _ => ev_getfield (pc' := 109) fX5_220 dX5_judge_106 rfl hSh rfl) ?_
    refine ex_icmpI_ge (pc' := 112) (tgt := 161) dX5_judge_109 (by decide) rfl (by omega) (by omega) (fun c109 => ?_) (fun c109 => ?_)
    · refine ex_of (fun _ _ => ev_bipush (pc' := 163) (iI (-4)) dX5_judge_161 rfl (by decide)) ?_
      exact ex_end (ev_iret dX5_judge_163 rfl) (⟨rfl, fr, hR⟩)
    · omega
  | succ c ih =>
    intro i a9 h hn fr hR hS
    obtain ⟨⟨im, hX⟩, -⟩ := id hR
    have hW := hR.w
    obtain ⟨el, hSh, ⟨hel, eel⟩, hw1, hw2⟩ := SC.op hS hd
    obtain ⟨ea, to, fro, en, ca, cb, -, hT, -⟩ := CT.op (hR.tr hk ht).1
    have e1 := hA.2 (100 * (d : Int) + i) (by omega) (by omega)
    have e2 := hl i (by omega) (by omega)
    have e3 := dyF_b (S := A 0) (k := k) (kd := (A 0 (143 + 45 * k + 0))) (m := tt + (i : Int) * n) hJ hM (by omega)
    refine ex_of (fun _ _ => ev_iload (pc' := 104) dX5_judge_102 rfl rfl) ?_
    refine ex_of (fun _ _ => ev_aload (pc' := 106) dX5_judge_104 rfl rfl) ?_
    refine ex_of (fun _ _ => ev_getfield (pc' := 109) fX5_220 dX5_judge_106 rfl hSh rfl) ?_
    refine ex_icmpI_ge (pc' := 112) (tgt := 161) dX5_judge_109 (by decide) rfl (by omega) (by omega) (fun c109 => ?_) (fun c109 => ?_)
    · omega
    · refine ex_of (fun _ _ => ev_aload (pc' := 114) dX5_judge_112 rfl rfl) ?_
      refine ex_of (fun _ _ => ev_getfield (pc' := 117) fX5_226 dX5_judge_114 rfl hSh rfl) ?_
      refine ex_of (fun _ _ => ev_iload (pc' := 119) dX5_judge_117 rfl rfl) ?_
      refine ex_of (fun _ _ => ev_ialoadI (pc' := 120) dX5_judge_119 rfl hel (by decide) (by omega)) ?_
      rw [eel _ (by omega) (by omega)]
      refine ex_of (fun _ _ => ev_istore_9 (pc' := 122) dX5_judge_120 rfl (by decide) rfl) ?_
      refine ex_of (fun _ _ => ev_iload (pc' := 124) dX5_judge_122 rfl rfl) ?_
      refine ex_of (fun _ _ => ev_iload (pc' := 126) dX5_judge_124 rfl rfl) ?_
      refine ex_icmpI_eq (pc' := 129) (tgt := 155) dX5_judge_126 (by decide) rfl (by omega) (by omega) (fun c126 => ?_) (fun c126 => ?_)
      · refine ex_of (fun _ _ => ev_iincI_8 (pc' := 158) dX5_judge_155 rfl (by decide) rfl) ?_
        refine ex_of (fun _ _ => ev_goto (tgt := 102) dX5_judge_158 (by decide)) ?_
        rw [fstM_f (show jdP A k d tt n (i : Int) = false from decide_eq_false (show ¬ (A 5 (100 * (d : Int) + i) ≠ lstS (A 3 d) ∧ A 5 (100 * (d : Int) + i) ≠ dyF (A 0) k (A 0 (143 + 45 * k + 0)) (tt + i * n)) by omega))]
        exact ih (i + 1) _ _ (by omega) fr hR hS
      · refine ex_of (fun _ _ => ev_iload (pc' := 131) dX5_judge_129 rfl rfl) ?_
        refine ex_of (fun _ _ => ev_aload_n (pc' := 132) dX5_judge_131 rfl rfl) ?_
        refine ex_of (fun _ _ => ev_aload (pc' := 134) dX5_judge_132 rfl rfl) ?_
        refine ex_of (fun _ _ => ev_aload (pc' := 136) dX5_judge_134 rfl rfl) ?_
        refine ex_of (fun _ _ => ev_getfield (pc' := 139) fX5_124 dX5_judge_136 rfl hT rfl) ?_
        refine ex_of (fun _ _ => ev_iload_n (pc' := 140) dX5_judge_139 rfl rfl) ?_
        refine ex_of (fun _ _ => ev_iload (pc' := 142) dX5_judge_140 rfl rfl) ?_
        refine ex_of (fun _ _ => ev_iload (pc' := 144) dX5_judge_142 rfl rfl) ?_
        refine ex_of (fun _ _ => ev_imulI (pc' := 145) dX5_judge_144 rfl) ?_
        refine ex_of (fun _ _ => ev_iaddI (pc' := 146) dX5_judge_145 rfl) ?_
        have hO := hX
        obtain ⟨w1, h1, E1, rfl, fr1, hR⟩ := e5_dayD (l := l) (S := A 0) (kd := (A 0 (143 + 45 * k + 0))) (tt := tt + (i : Int) * n) hR hk ht hI hJ hM (by omega) (by omega)
        refine ex_of (fun _ _ => ev_callV3 (pc' := 149) kX5_194 mX5_dayTold dX5_judge_146 rfl rfl (Nat.le_of_ble_eq_true rfl) (Nat.le_of_ble_eq_true rfl) (by decide) rfl hO E1) ?_
        have fr := fr.tr fr1
        obtain ⟨⟨im, hX⟩, -⟩ := id hR
        have hW := hR.w
        have hS := hS.fr fr1
        obtain ⟨el, hSh, ⟨hel, eel⟩, hw1, hw2⟩ := SC.op hS hd
        obtain ⟨ea, to, fro, en, ca, cb, -, hT, -⟩ := CT.op (hR.tr hk ht).1
        refine ex_icmpI_eq (pc' := 152) (tgt := 155) dX5_judge_149 (by decide) rfl (by omega) (by omega) (fun c149 => ?_) (fun c149 => ?_)
        · refine ex_of (fun _ _ => ev_iincI_8 (pc' := 158) dX5_judge_155 rfl (by decide) rfl) ?_
          refine ex_of (fun _ _ => ev_goto (tgt := 102) dX5_judge_158 (by decide)) ?_
          rw [fstM_f (show jdP A k d tt n (i : Int) = false from decide_eq_false (show ¬ (A 5 (100 * (d : Int) + i) ≠ lstS (A 3 d) ∧ A 5 (100 * (d : Int) + i) ≠ dyF (A 0) k (A 0 (143 + 45 * k + 0)) (tt + i * n)) by omega))]
          exact ih (i + 1) _ _ (by omega) fr hR hS
        · refine ex_of (fun _ _ => ev_iload (pc' := 154) dX5_judge_152 rfl rfl) ?_
          exact ex_end (ev_iret dX5_judge_154 rfl) (⟨by rw [fstM_t (show jdP A k d tt n (i : Int) = true from decide_eq_true (show A 5 (100 * (d : Int) + i) ≠ lstS (A 3 d) ∧ A 5 (100 * (d : Int) + i) ≠ dyF (A 0) k (A 0 (143 + 45 * k + 0)) (tt + i * n) by omega))], fr, hR⟩)
theorem e5_judge {k q tt n : Int} (hR : RC h (A 0) F) (hS : SC h A w) (hA : mSh A) (hI : mI0 (A 0)) (hJ : mIP (A 0)) (hK : ∀ k, 0 ≤ k → k < A 0 1 → mT (A 0) k) (rk : -2147483648 ≤ k ∧ k < 2147483648) (rq : -2147483648 ≤ q ∧ q < 2147483648) (rtt : -2147483648 ≤ tt ∧ tt < 2147483648) (rn : -2147483648 ≤ n ∧ n < 2147483648) : Ex l 5 yX5_judge.cls yX5_judge.name cX5_judge 10 (some .int) 0 [some (.ref 0), some (.int (iI k)), some (.int (iI q)), some (.int (iI tt)), some (.int (iI n)), none, none, none, none, none] [] h (lkP h (A 0) F (some (.int (iI (sJudge A k q tt n))))) := by
  obtain ⟨⟨i1, i2⟩, ⟨i3, i4⟩, i5, i6⟩ := id hI
  obtain ⟨⟨im, hX⟩, -⟩ := id hR
  have hW := hR.w
  have fr := FrS.rf h
  by_cases hk : 0 ≤ k ∧ k < A 0 1
  · skip
    obtain ⟨t, ht, hC, h47⟩ := hR.2.2.2 k hk.1 hk.2
    have hM := hK k hk.1 hk.2
    obtain ⟨tk, -⟩ := id hM
    obtain ⟨ea, to, fro, en, ca, cb, ⟨be1, be2⟩, hT, -⟩ := CT.op hC
    by_cases hq : 0 ≤ q ∧ q < 8
    · skip
      obtain ⟨d, rfl⟩ : ∃ d : Nat, q = d := ⟨q.toNat, by omega⟩
      have hd : d < 8 := by omega
      obtain ⟨s1, s2, s3, s4, s5⟩ := hA.1 (d : Int) (by omega) (by omega)
      obtain ⟨el, hSh, ⟨hel, eel⟩, hw1, hw2⟩ := SC.op hS hd
      refine ex_of (fun _ _ => ev_aload_n (pc' := 1) dX5_judge_0 rfl rfl) ?_
      refine ex_of (fun _ _ => ev_getfield (pc' := 4) fX5_12 dX5_judge_1 rfl hX rfl) ?_
      refine ex_of (fun _ _ => ev_iload_n (pc' := 5) dX5_judge_4 rfl rfl) ?_
      refine ex_of (fun _ _ => ev_callV1 (pc' := 8) kX5_137 mX4_travellerOf dX5_judge_5 rfl rfl (Nat.le_of_ble_eq_true rfl) (Nat.le_of_ble_eq_true rfl) (by decide) rfl hW (e4_travellerOf hR.nw hI hk ht)) ?_
      refine ex_of (fun _ _ => ev_astore_5 (pc' := 10) dX5_judge_8 rfl (by decide) rfl) ?_
      refine ex_of (fun _ _ => ev_aload_n (pc' := 11) dX5_judge_10 rfl rfl) ?_
      refine ex_of (fun _ _ => ev_iload_n (pc' := 12) dX5_judge_11 rfl rfl) ?_
      refine ex_of (fun _ _ => ev_callV1 (pc' := 15) kX5_44 mX5_shelfOf dX5_judge_12 rfl rfl (Nat.le_of_ble_eq_true rfl) (Nat.le_of_ble_eq_true rfl) (by decide) rfl hX (e5_shelfOf hX hS hd)) ?_
      refine ex_of (fun _ _ => ev_astore_6 (pc' := 17) dX5_judge_15 rfl (by decide) rfl) ?_
      refine ex_of (fun _ _ => ev_aload (pc' := 19) dX5_judge_17 rfl rfl) ?_
      refine ex_of (fun _ _ => ev_ifnull (pc' := 22) dX5_judge_19 rfl) ?_
      refine ex_of (fun _ _ => ev_aload (pc' := 24) dX5_judge_22 rfl rfl) ?_
      refine ex_of (fun _ _ => ev_ifnull (pc' := 27) dX5_judge_24 rfl) ?_
      refine ex_of (fun _ _ => ev_iload_n (pc' := 28) dX5_judge_27 rfl rfl) ?_
      refine ex_of (fun _ _ => ev_callS1 (pc' := 31) kX5_96 mX5_isMinute dX5_judge_28 rfl rfl (Nat.le_of_ble_eq_true rfl) (Nat.le_of_ble_eq_true rfl) (by decide) (e5_isMinute (by omega))) ?_
      refine ex_ifd_eq (pc' := 34) (tgt := 48) dX5_judge_31 (by decide) rfl (fun c31 => ?_) (fun c31 => ?_)
      · refine ex_of (fun _ _ => ev_iconst (pc' := 49) (iI (-1)) dX5_judge_48 rfl (by decide)) ?_
        exact ex_end (ev_iret dX5_judge_49 rfl) (⟨by unfold sJudge; rw [if_pos (by omega)], fr, hR⟩)
      · refine ex_of (fun _ _ => ev_iload (pc' := 36) dX5_judge_34 rfl rfl) ?_
        refine ex_of (fun _ _ => ev_iconst (pc' := 37) (iI (1)) dX5_judge_36 rfl (by decide)) ?_
        refine ex_icmpI_lt (pc' := 40) (tgt := 48) dX5_judge_37 (by decide) rfl (by omega) (by omega) (fun c37 => ?_) (fun c37 => ?_)
        · refine ex_of (fun _ _ => ev_iconst (pc' := 49) (iI (-1)) dX5_judge_48 rfl (by decide)) ?_
          exact ex_end (ev_iret dX5_judge_49 rfl) (⟨by unfold sJudge; rw [if_pos (by omega)], fr, hR⟩)
        · refine ex_of (fun _ _ => ev_iload (pc' := 42) dX5_judge_40 rfl rfl) ?_
          refine ex_of (fun _ _ => ev_sipush (pc' := 45) (iI (9999)) dX5_judge_42 rfl (by decide)) ?_
          refine ex_icmpI_le (pc' := 48) (tgt := 50) dX5_judge_45 (by decide) rfl (by omega) (by omega) (fun c45 => ?_) (fun c45 => ?_)
          · refine ex_of (fun _ _ => ev_aload (pc' := 52) dX5_judge_50 rfl rfl) ?_
            refine ex_of (fun _ _ => ev_getfield (pc' := 55) fX5_213 dX5_judge_52 rfl hSh rfl) ?_
            refine ex_ifI_ne (pc' := 58) (tgt := 64) dX5_judge_55 (by decide) rfl (by unfold hr; split <;> omega) (fun c55 => ?_) (fun c55 => ?_)
            · have hk2 : A 2 (d : Int) = 2 := by unfold hr at c55; split at c55 <;> omega
              refine ex_of (fun _ _ => ev_aload (pc' := 66) dX5_judge_64 rfl rfl) ?_
              refine ex_of (fun _ _ => ev_getfield (pc' := 69) fX5_220 dX5_judge_66 rfl hSh rfl) ?_
              refine ex_ifI_le (pc' := 72) (tgt := 92) dX5_judge_69 (by decide) rfl (by omega) (fun c69 => ?_) (fun c69 => ?_)
              · have qz : (A 4 (d : Int) - 1) * n ≤ 0 := by rw [show A 4 (d : Int) = 0 by omega]; omega
                refine ex_of (fun _ _ => ev_aload (pc' := 94) dX5_judge_92 rfl rfl) ?_
                refine ex_of (fun _ _ => ev_callV0 (pc' := 97) kX5_223 mX1_leastNumber dX5_judge_94 rfl rfl (Nat.le_of_ble_eq_true rfl) (Nat.le_of_ble_eq_true rfl) (by decide) rfl hSh (e1_leastNumber hS hA hd)) ?_
                refine ex_of (fun _ _ => ev_istore_7 (pc' := 99) dX5_judge_97 rfl (by decide) rfl) ?_
                refine ex_of (fun _ _ => ev_iconst (pc' := 100) (iI (0)) dX5_judge_99 rfl (by decide)) ?_
                refine ex_of (fun _ _ => ev_istore_8 (pc' := 102) dX5_judge_100 rfl (by decide) rfl) ?_
                have hl : ∀ i : Int, 0 ≤ i → i < A 4 d → 0 ≤ tt + i * n ∧ tt + i * n ≤ 19999 := by
                  intro i i1 i2
                  have q1 : i * n ≤ (A 4 d - 1) * n := Int.mul_le_mul_of_nonneg_right (by omega) (by omega)
                  have q2 : 0 ≤ i * n := Int.mul_nonneg i1 (by omega)
                  omega
                rw [show sJudge A k d tt n = fstM (jdP A k d tt n) (A 4 d).toNat 0 by unfold sJudge; rw [if_neg (by omega), if_neg (by unfold sRow; rw [if_neg (by omega), if_neg (by omega), if_neg (by omega)]; decide), if_neg (by omega)]]
                exact ev_deepx (by decide) (e5_judL (l := l) hk ht hA hd hI hJ hM (by omega) (by omega) hl (A 4 d).toNat 0 none _ (by omega) fr hR hS)
              · have qz := mul_bd (x := A 4 (d : Int) - 1) (y := n) (X := 100) (Y := 9999) (by omega) (by omega)
                refine ex_of (fun _ _ => ev_iload_n (pc' := 73) dX5_judge_72 rfl rfl) ?_
                refine ex_of (fun _ _ => ev_aload (pc' := 75) dX5_judge_73 rfl rfl) ?_
                refine ex_of (fun _ _ => ev_getfield (pc' := 78) fX5_220 dX5_judge_75 rfl hSh rfl) ?_
                refine ex_of (fun _ _ => ev_iconst (pc' := 79) (iI (1)) dX5_judge_78 rfl (by decide)) ?_
                refine ex_of (fun _ _ => ev_isubI (pc' := 80) dX5_judge_79 rfl) ?_
                refine ex_of (fun _ _ => ev_iload (pc' := 82) dX5_judge_80 rfl rfl) ?_
                refine ex_of (fun _ _ => ev_imulI (pc' := 83) dX5_judge_82 rfl) ?_
                refine ex_of (fun _ _ => ev_iaddI (pc' := 84) dX5_judge_83 rfl) ?_
                refine ex_of (fun _ _ => ev_callS1 (pc' := 87) kX5_96 mX5_isMinute dX5_judge_84 rfl rfl (Nat.le_of_ble_eq_true rfl) (Nat.le_of_ble_eq_true rfl) (by decide) (e5_isMinute (by omega))) ?_
                refine ex_ifd_ne (pc' := 90) (tgt := 92) dX5_judge_87 (by decide) rfl (fun c87 => ?_) (fun c87 => ?_)
                · refine ex_of (fun _ _ => ev_aload (pc' := 94) dX5_judge_92 rfl rfl) ?_
                  refine ex_of (fun _ _ => ev_callV0 (pc' := 97) kX5_223 mX1_leastNumber dX5_judge_94 rfl rfl (Nat.le_of_ble_eq_true rfl) (Nat.le_of_ble_eq_true rfl) (by decide) rfl hSh (e1_leastNumber hS hA hd)) ?_
                  refine ex_of (fun _ _ => ev_istore_7 (pc' := 99) dX5_judge_97 rfl (by decide) rfl) ?_
                  refine ex_of (fun _ _ => ev_iconst (pc' := 100) (iI (0)) dX5_judge_99 rfl (by decide)) ?_
                  refine ex_of (fun _ _ => ev_istore_8 (pc' := 102) dX5_judge_100 rfl (by decide) rfl) ?_
                  have hl : ∀ i : Int, 0 ≤ i → i < A 4 d → 0 ≤ tt + i * n ∧ tt + i * n ≤ 19999 := by
                    intro i i1 i2
                    have q1 : i * n ≤ (A 4 d - 1) * n := Int.mul_le_mul_of_nonneg_right (by omega) (by omega)
                    have q2 : 0 ≤ i * n := Int.mul_nonneg i1 (by omega)
                    omega
                  rw [show sJudge A k d tt n = fstM (jdP A k d tt n) (A 4 d).toNat 0 by unfold sJudge; rw [if_neg (by omega), if_neg (by unfold sRow; rw [if_neg (by omega), if_neg (by omega), if_neg (by omega)]; decide), if_neg (by omega)]]
                  exact ev_deepx (by decide) (e5_judL (l := l) hk ht hA hd hI hJ hM (by omega) (by omega) hl (A 4 d).toNat 0 none _ (by omega) fr hR hS)
                · refine ex_of (fun _ _ => ev_iconst (pc' := 91) (iI (-1)) dX5_judge_90 rfl (by decide)) ?_
                  exact ex_end (ev_iret dX5_judge_91 rfl) (⟨by unfold sJudge; rw [if_neg (by omega), if_neg (by unfold sRow; rw [if_neg (by omega), if_neg (by omega), if_neg (by omega)]; decide), if_pos (by omega)], fr, hR⟩)
            · have hk2 : A 2 (d : Int) ≠ 2 := by unfold hr at c55; split at c55 <;> omega
              refine ex_of (fun _ _ => ev_aload (pc' := 60) dX5_judge_58 rfl rfl) ?_
              refine ex_of (fun _ _ => ev_callS1 (pc' := 63) kX5_216 mX5_refusalOfRow dX5_judge_60 rfl rfl (Nat.le_of_ble_eq_true rfl) (Nat.le_of_ble_eq_true rfl) (by decide) (e5_refusalOfRow hS hA hd)) ?_
              exact ex_end (ev_iret dX5_judge_63 rfl) (⟨by unfold sJudge; rw [if_neg (by omega), if_pos (by unfold sRow; (repeat' split) <;> omega)], fr, hR⟩)
          · refine ex_of (fun _ _ => ev_iconst (pc' := 49) (iI (-1)) dX5_judge_48 rfl (by decide)) ?_
            exact ex_end (ev_iret dX5_judge_49 rfl) (⟨by unfold sJudge; rw [if_pos (by omega)], fr, hR⟩)
    · skip
      refine ex_of (fun _ _ => ev_aload_n (pc' := 1) dX5_judge_0 rfl rfl) ?_
      refine ex_of (fun _ _ => ev_getfield (pc' := 4) fX5_12 dX5_judge_1 rfl hX rfl) ?_
      refine ex_of (fun _ _ => ev_iload_n (pc' := 5) dX5_judge_4 rfl rfl) ?_
      refine ex_of (fun _ _ => ev_callV1 (pc' := 8) kX5_137 mX4_travellerOf dX5_judge_5 rfl rfl (Nat.le_of_ble_eq_true rfl) (Nat.le_of_ble_eq_true rfl) (by decide) rfl hW (e4_travellerOf hR.nw hI hk ht)) ?_
      refine ex_of (fun _ _ => ev_astore_5 (pc' := 10) dX5_judge_8 rfl (by decide) rfl) ?_
      refine ex_of (fun _ _ => ev_aload_n (pc' := 11) dX5_judge_10 rfl rfl) ?_
      refine ex_of (fun _ _ => ev_iload_n (pc' := 12) dX5_judge_11 rfl rfl) ?_
      refine ex_of (fun _ _ => ev_callV1 (pc' := 15) kX5_44 mX5_shelfOf dX5_judge_12 rfl rfl (Nat.le_of_ble_eq_true rfl) (Nat.le_of_ble_eq_true rfl) (by decide) rfl hX (e5_shelfOf0 hq (by omega))) ?_
      refine ex_of (fun _ _ => ev_astore_6N (pc' := 17) dX5_judge_15 rfl (by decide) rfl) ?_
      refine ex_of (fun _ _ => ev_aload (pc' := 19) dX5_judge_17 rfl rfl) ?_
      refine ex_of (fun _ _ => ev_ifnull (pc' := 22) dX5_judge_19 rfl) ?_
      refine ex_of (fun _ _ => ev_aloadN (pc' := 24) dX5_judge_22 rfl rfl) ?_
      refine ex_of (fun _ _ => ev_ifnullN (tgt := 48) dX5_judge_24 (by decide)) ?_
      refine ex_of (fun _ _ => ev_iconst (pc' := 49) (iI (-1)) dX5_judge_48 rfl (by decide)) ?_
      exact ex_end (ev_iret dX5_judge_49 rfl) (⟨by unfold sJudge; rw [if_pos (by omega)], fr, hR⟩)
  · by_cases hq : 0 ≤ q ∧ q < 8
    · skip
      obtain ⟨d, rfl⟩ : ∃ d : Nat, q = d := ⟨q.toNat, by omega⟩
      have hd : d < 8 := by omega
      obtain ⟨s1, s2, s3, s4, s5⟩ := hA.1 (d : Int) (by omega) (by omega)
      obtain ⟨el, hSh, ⟨hel, eel⟩, hw1, hw2⟩ := SC.op hS hd
      refine ex_of (fun _ _ => ev_aload_n (pc' := 1) dX5_judge_0 rfl rfl) ?_
      refine ex_of (fun _ _ => ev_getfield (pc' := 4) fX5_12 dX5_judge_1 rfl hX rfl) ?_
      refine ex_of (fun _ _ => ev_iload_n (pc' := 5) dX5_judge_4 rfl rfl) ?_
      refine ex_of (fun _ _ => ev_callV1 (pc' := 8) kX5_137 mX4_travellerOf dX5_judge_5 rfl rfl (Nat.le_of_ble_eq_true rfl) (Nat.le_of_ble_eq_true rfl) (by decide) rfl hW (e4_travellerOf0 hR.nw hI (by omega) hk)) ?_
      refine ex_of (fun _ _ => ev_astore_5N (pc' := 10) dX5_judge_8 rfl (by decide) rfl) ?_
      refine ex_of (fun _ _ => ev_aload_n (pc' := 11) dX5_judge_10 rfl rfl) ?_
      refine ex_of (fun _ _ => ev_iload_n (pc' := 12) dX5_judge_11 rfl rfl) ?_
      refine ex_of (fun _ _ => ev_callV1 (pc' := 15) kX5_44 mX5_shelfOf dX5_judge_12 rfl rfl (Nat.le_of_ble_eq_true rfl) (Nat.le_of_ble_eq_true rfl) (by decide) rfl hX (e5_shelfOf hX hS hd)) ?_
      refine ex_of (fun _ _ => ev_astore_6 (pc' := 17) dX5_judge_15 rfl (by decide) rfl) ?_
      refine ex_of (fun _ _ => ev_aloadN (pc' := 19) dX5_judge_17 rfl rfl) ?_
      refine ex_of (fun _ _ => ev_ifnullN (tgt := 48) dX5_judge_19 (by decide)) ?_
      refine ex_of (fun _ _ => ev_iconst (pc' := 49) (iI (-1)) dX5_judge_48 rfl (by decide)) ?_
      exact ex_end (ev_iret dX5_judge_49 rfl) (⟨by unfold sJudge; rw [if_pos (by omega)], fr, hR⟩)
    · skip
      refine ex_of (fun _ _ => ev_aload_n (pc' := 1) dX5_judge_0 rfl rfl) ?_
      refine ex_of (fun _ _ => ev_getfield (pc' := 4) fX5_12 dX5_judge_1 rfl hX rfl) ?_
      refine ex_of (fun _ _ => ev_iload_n (pc' := 5) dX5_judge_4 rfl rfl) ?_
      refine ex_of (fun _ _ => ev_callV1 (pc' := 8) kX5_137 mX4_travellerOf dX5_judge_5 rfl rfl (Nat.le_of_ble_eq_true rfl) (Nat.le_of_ble_eq_true rfl) (by decide) rfl hW (e4_travellerOf0 hR.nw hI (by omega) hk)) ?_
      refine ex_of (fun _ _ => ev_astore_5N (pc' := 10) dX5_judge_8 rfl (by decide) rfl) ?_
      refine ex_of (fun _ _ => ev_aload_n (pc' := 11) dX5_judge_10 rfl rfl) ?_
      refine ex_of (fun _ _ => ev_iload_n (pc' := 12) dX5_judge_11 rfl rfl) ?_
      refine ex_of (fun _ _ => ev_callV1 (pc' := 15) kX5_44 mX5_shelfOf dX5_judge_12 rfl rfl (Nat.le_of_ble_eq_true rfl) (Nat.le_of_ble_eq_true rfl) (by decide) rfl hX (e5_shelfOf0 hq (by omega))) ?_
      refine ex_of (fun _ _ => ev_astore_6N (pc' := 17) dX5_judge_15 rfl (by decide) rfl) ?_
      refine ex_of (fun _ _ => ev_aloadN (pc' := 19) dX5_judge_17 rfl rfl) ?_
      refine ex_of (fun _ _ => ev_ifnullN (tgt := 48) dX5_judge_19 (by decide)) ?_
      refine ex_of (fun _ _ => ev_iconst (pc' := 49) (iI (-1)) dX5_judge_48 rfl (by decide)) ?_
      exact ex_end (ev_iret dX5_judge_49 rfl) (⟨by unfold sJudge; rw [if_pos (by omega)], fr, hR⟩)
/-- the first broken duty; the spot tells the leg at it -/
def fbP (h0 : ev_H) (A : Nat → Int → Int) (F : Nat → Option Nat) (k : Int) (d : Nat) (z : Int) : Option Value → ev_H → Prop := fun v h2 => v = some (.int (iI z)) ∧ FrS h0 h2 ∧ RC h2 (A 0) F ∧ (0 ≤ z → ∃ pl le ca go ea be, h2[16]? = some (cSp pl le ca go ea be) ∧ le = lgI (A 0) k (A 5 (100 * (d : Int) + z)) (A 0 (143 + 45 * k + 3)).toNat 0)
theorem e5_fbL {e r : Int} (hk : 0 ≤ k ∧ k < A 0 1) (ht : F k.toNat = some t) (hA : mSh A) (hd : d < 8) (hI : mI0 (A 0)) (hJ : mIP (A 0)) (hM : mT (A 0) k) (he : 0 ≤ e ∧ e < 64) (rr1 : 0 ≤ r ∧ r ≤ 6) (hm : ∀ j, 0 ≤ j → j < A 4 d → 0 ≤ A 5 (100 * (d : Int) + j) ∧ A 5 (100 * (d : Int) + j) ≤ 19999) : ∀ (c i : Nat) (a6 : Option Value) (h : ev_H), A 4 d = i + c → FrS h0 h → RC h (A 0) F → SC h A w → Ex l 3 yX5_firstBroken.cls yX5_firstBroken.name cX5_firstBroken 7 (some .int) 3 [some (.ref 0), some (.ref t), some (.int (iI e)), some (.ref (18 + 2 * d)), some (.int (iI r)), some (.int (iI (i : Int))), a6] [] h (fbP h0 A F k d (fstM (kpP A (bea e) k d r) c i)) := by
  obtain ⟨s1, s2, s3, s4, s5⟩ := hA.1 (d : Int) (by omega) (by omega)
  obtain ⟨⟨i1, i2⟩, ⟨i3, i4⟩, i5, i6⟩ := id hI
  intro c
  induction c with
  | zero =>
    intro i a6 h hn fr hR hS
    obtain ⟨⟨im, hX⟩, -⟩ := id hR
    have hW := hR.w
    obtain ⟨el, hSh, ⟨hel, eel⟩, hw1, hw2⟩ := SC.op hS hd
    obtain ⟨ea, to, fro, en, ca, cb, -, hT, -⟩ := CT.op (hR.tr hk ht).1
    refine ex_of (fun _ _ => ev_iload (pc' := 5) dX5_firstBroken_3 rfl rfl) ?_
    refine ex_of (fun _ _ => ev_aload_n (pc' := 6) dX5_firstBroken_5 rfl rfl) ?_
    refine ex_of (fun _ _ => ev_getfield (pc' := 9) fX5_220 dX5_firstBroken_6 rfl hSh rfl) ?_
    refine ex_icmpI_ge (pc' := 12) (tgt := 74) dX5_firstBroken_9 (by decide) rfl (by omega) (by omega) (fun c9 => ?_) (fun c9 => ?_)
    · refine ex_of (fun _ _ => ev_bipush (pc' := 76) (iI (-4)) dX5_firstBroken_74 rfl (by decide)) ?_
      exact ex_end (ev_iret dX5_firstBroken_76 rfl) (⟨rfl, fr, hR, fun q => absurd q (show ¬ (0 : Int) ≤ -4 by decide)⟩)
    · omega
  | succ c ih =>
    intro i a6 h hn fr hR hS
    obtain ⟨⟨im, hX⟩, -⟩ := id hR
    have hW := hR.w
    obtain ⟨el, hSh, ⟨hel, eel⟩, hw1, hw2⟩ := SC.op hS hd
    obtain ⟨ea, to, fro, en, ca, cb, -, hT, -⟩ := CT.op (hR.tr hk ht).1
    have e2 := hm i (by omega) (by omega)
    obtain ⟨a, b, cc, dd, e1, b1, b2, b3, b4⟩ := fw_b (ea := bea e) (t := A 5 (100 * (d : Int) + i)) hM (by omega)
    have bN := eN_bc (S := A 0) (k := k) b1 b2
    have mb := sMid_b (S := A 0) (k := k) (ab := a) (t := A 5 (100 * (d : Int) + i)) b2.1 (by omega)
    refine ex_of (fun _ _ => ev_iload (pc' := 5) dX5_firstBroken_3 rfl rfl) ?_
    refine ex_of (fun _ _ => ev_aload_n (pc' := 6) dX5_firstBroken_5 rfl rfl) ?_
    refine ex_of (fun _ _ => ev_getfield (pc' := 9) fX5_220 dX5_firstBroken_6 rfl hSh rfl) ?_
    refine ex_icmpI_ge (pc' := 12) (tgt := 74) dX5_firstBroken_9 (by decide) rfl (by omega) (by omega) (fun c9 => ?_) (fun c9 => ?_)
    · omega
    · refine ex_of (fun _ _ => ev_aload_n (pc' := 13) dX5_firstBroken_12 rfl rfl) ?_
      refine ex_of (fun _ _ => ev_getfield (pc' := 16) fX5_226 dX5_firstBroken_13 rfl hSh rfl) ?_
      refine ex_of (fun _ _ => ev_iload (pc' := 18) dX5_firstBroken_16 rfl rfl) ?_
      refine ex_of (fun _ _ => ev_ialoadI (pc' := 19) dX5_firstBroken_18 rfl hel (by decide) (by omega)) ?_
      rw [eel _ (by omega) (by omega)]
      refine ex_of (fun _ _ => ev_istore_6 (pc' := 21) dX5_firstBroken_19 rfl (by decide) rfl) ?_
      refine ex_of (fun _ _ => ev_aload_n (pc' := 22) dX5_firstBroken_21 rfl rfl) ?_
      refine ex_of (fun _ _ => ev_getfield (pc' := 25) fX5_12 dX5_firstBroken_22 rfl hX rfl) ?_
      refine ex_of (fun _ _ => ev_aload_n (pc' := 26) dX5_firstBroken_25 rfl rfl) ?_
      refine ex_of (fun _ _ => ev_iload_n (pc' := 27) dX5_firstBroken_26 rfl rfl) ?_
      refine ex_of (fun _ _ => ev_iload (pc' := 29) dX5_firstBroken_27 rfl rfl) ?_
      refine ex_of (fun _ _ => ev_aload_n (pc' := 30) dX5_firstBroken_29 rfl rfl) ?_
      refine ex_of (fun _ _ => ev_getfield (pc' := 33) fX5_32 dX5_firstBroken_30 rfl hX rfl) ?_
      have hO := hW
      obtain ⟨w1, h1, E1, rfl, fr1, pl, le, ca1, go, ea1, be, hSp, efw, rfl, ele⟩ := e4_locate (l := l) (S := A 0) (e := e) (tt := A 5 (100 * (d : Int) + i)) hR.nw (hR.tr hk ht).1 (hR.tr hk ht).2 hI hJ hM (by omega) he (by omega) hR.2.2.1
      refine ex_of (fun _ _ => ev_callV4v (pc' := 36) kX5_165 mX4_locate dX5_firstBroken_33 rfl rfl (Nat.le_of_ble_eq_true rfl) (Nat.le_of_ble_eq_true rfl) (by decide) rfl hO E1) ?_
      have fr := fr.tr fr1
      have hR := hR.fr fr1 ⟨_, _, _, _, _, _, hSp⟩
      obtain ⟨⟨im, hX⟩, -⟩ := id hR
      have hW := hR.w
      have hS := hS.fr fr1
      rw [e1] at efw
      obtain ⟨rfl, rfl, rfl, rfl⟩ : go = a ∧ be = b ∧ pl = cc ∧ ca1 = dd := by simpa using efw
      have eM : dAt (eN (A 0) k go be % (360 * be)) be 0 (A 5 (100 * (d : Int) + i)) = sMid (A 0) k go be (A 5 (100 * (d : Int) + i)) := rfl
      have eP : kpP A (bea e) k d r (i : Int) = decide (pl < 0 ∧ sMid (A 0) k go be (A 5 (100 * (d : Int) + i)) % 7 = r) := by unfold kpP; rw [e1]
      refine ex_of (fun _ _ => ev_aload_n (pc' := 37) dX5_firstBroken_36 rfl rfl) ?_
      refine ex_of (fun _ _ => ev_getfield (pc' := 40) fX5_32 dX5_firstBroken_37 rfl hX rfl) ?_
      refine ex_of (fun _ _ => ev_callV0 (pc' := 43) kX5_187 mX2_isUnderWay dX5_firstBroken_40 rfl rfl (Nat.le_of_ble_eq_true rfl) (Nat.le_of_ble_eq_true rfl) (by decide) rfl hSp (e2_isUnderWay hSp (by omega))) ?_
      refine ex_ifd_eq (pc' := 46) (tgt := 68) dX5_firstBroken_43 (by decide) rfl (fun c43 => ?_) (fun c43 => ?_)
      · refine ex_of (fun _ _ => ev_iincI_5 (pc' := 71) dX5_firstBroken_68 rfl (by decide) rfl) ?_
        refine ex_of (fun _ _ => ev_goto (tgt := 3) dX5_firstBroken_71 (by decide)) ?_
        rw [fstM_f (eP.trans (decide_eq_false (by omega)))]
        exact ih (i + 1) _ _ (by omega) fr hR hS
      · refine ex_of (fun _ _ => ev_aload_n (pc' := 47) dX5_firstBroken_46 rfl rfl) ?_
        refine ex_of (fun _ _ => ev_getfield (pc' := 50) fX5_32 dX5_firstBroken_47 rfl hX rfl) ?_
        refine ex_of (fun _ _ => ev_iload (pc' := 52) dX5_firstBroken_50 rfl rfl) ?_
        refine ex_of (fun _ _ => ev_callV1 (pc' := 55) kX5_389 mX2_dayByMidnight dX5_firstBroken_52 rfl rfl (Nat.le_of_ble_eq_true rfl) (Nat.le_of_ble_eq_true rfl) (by decide) rfl hSp (e2_dayByMidnight hSp bN b2 (by omega))) ?_
        rw [eM]
        refine ex_of (fun _ _ => ev_bipush (pc' := 57) (iI (7)) dX5_firstBroken_55 rfl (by decide)) ?_
        refine ex_of (fun _ _ => ev_callS2 (pc' := 60) kX5_106 mJ9_floorMod_7cf53 dX5_firstBroken_57 rfl rfl (Nat.le_of_ble_eq_true rfl) (Nat.le_of_ble_eq_true rfl) (by decide) (e_fmI (by omega) (by omega))) ?_
        refine ex_of (fun _ _ => ev_iload (pc' := 62) dX5_firstBroken_60 rfl rfl) ?_
        refine ex_icmpI_ne (pc' := 65) (tgt := 68) dX5_firstBroken_62 (by decide) rfl (by omega) (by omega) (fun c62 => ?_) (fun c62 => ?_)
        · refine ex_of (fun _ _ => ev_iincI_5 (pc' := 71) dX5_firstBroken_68 rfl (by decide) rfl) ?_
          refine ex_of (fun _ _ => ev_goto (tgt := 3) dX5_firstBroken_71 (by decide)) ?_
          rw [fstM_f (eP.trans (decide_eq_false (by omega)))]
          exact ih (i + 1) _ _ (by omega) fr hR hS
        · refine ex_of (fun _ _ => ev_iload (pc' := 67) dX5_firstBroken_65 rfl rfl) ?_
          exact ex_end (ev_iret dX5_firstBroken_67 rfl) (⟨by rw [fstM_t (eP.trans (decide_eq_true (by omega)))], fr, hR, fun _ => ⟨_, _, _, _, _, _, hSp, by rw [fstM_t (eP.trans (decide_eq_true (by omega)))]; exact ele (by omega)⟩⟩)
theorem e5_firstBroken {e r : Int} (hk : 0 ≤ k ∧ k < A 0 1) (ht : F k.toNat = some t) (hA : mSh A) (hd : d < 8) (hI : mI0 (A 0)) (hJ : mIP (A 0)) (hM : mT (A 0) k) (he : 0 ≤ e ∧ e < 64) (rr1 : 0 ≤ r ∧ r ≤ 6) (hm : ∀ j, 0 ≤ j → j < A 4 d → 0 ≤ A 5 (100 * (d : Int) + j) ∧ A 5 (100 * (d : Int) + j) ≤ 19999) (hR : RC h (A 0) F) (hS : SC h A w) : Ex l 3 yX5_firstBroken.cls yX5_firstBroken.name cX5_firstBroken 7 (some .int) 0 [some (.ref 0), some (.ref t), some (.int (iI e)), some (.ref (18 + 2 * d)), some (.int (iI r)), none, none] [] h (fbP h A F k d (sKp A (bea e) k d r)) := by
  obtain ⟨s1, s2, s3, s4, s5⟩ := hA.1 (d : Int) (by omega) (by omega)
  refine ex_of (fun _ _ => ev_iconst (pc' := 1) (iI (0)) dX5_firstBroken_0 rfl (by decide)) ?_
  refine ex_of (fun _ _ => ev_istore_5 (pc' := 3) dX5_firstBroken_1 rfl (by decide) rfl) ?_
  exact e5_fbL (l := l) hk ht hA hd hI hJ hM he rr1 hm (A 4 d).toNat 0 none h (by omega) (FrS.rf h) hR hS
theorem ntM_z (A : Nat → Int → Int) (d : Int) : ∀ (c : Nat) (i : Int), ntM A d c i = 0 ∨ ntM A d c i = -13
  | 0, _ => Or.inl rfl
  | c + 1, i => by unfold ntM; split; exact ntM_z A d c (i + 1); exact Or.inr rfl
theorem kp_cg {A : Nat → Int → Int} {e1 e2 : Int → Bool} {k d r : Int} (hM : mT (A 0) k) (h : ∀ i, 0 ≤ i → i < 6 → e1 i = e2 i) : sKp A e1 k d r = sKp A e2 k d r := by
  have : kpP A e1 k d r = kpP A e2 k d r := by
    funext i
    unfold kpP
    rw [fw_cg h hM]
  unfold sKp
  rw [this]
theorem e5_kept {k q r : Int} (hR : RC h (A 0) F) (hS : SC h A w) (hA : mSh A) (hI : mI0 (A 0)) (hJ : mIP (A 0)) (hK : ∀ k, 0 ≤ k → k < A 0 1 → mT (A 0) k) (rk : -2147483648 ≤ k ∧ k < 2147483648) (rq : -2147483648 ≤ q ∧ q < 2147483648) (rr : -2147483648 ≤ r ∧ r < 2147483648) : Ex l 4 yX5_kept.cls yX5_kept.name cX5_kept 7 (some .int) 0 [some (.ref 0), some (.int (iI k)), some (.int (iI q)), some (.int (iI r)), none, none, none] [] h (lkP h (A 0) F (some (.int (iI (sKept A k q r))))) := by
  obtain ⟨⟨i1, i2⟩, ⟨i3, i4⟩, i5, i6⟩ := id hI
  obtain ⟨⟨im, hX⟩, -⟩ := id hR
  have hW := hR.w
  have fr := FrS.rf h
  by_cases hk : 0 ≤ k ∧ k < A 0 1
  · skip
    obtain ⟨t, ht, hC, h47⟩ := hR.2.2.2 k hk.1 hk.2
    have hM := hK k hk.1 hk.2
    obtain ⟨tk, -⟩ := id hM
    obtain ⟨ea, to, fro, en, ca, cb, ⟨be1, be2⟩, hT, -⟩ := CT.op hC
    by_cases hq : 0 ≤ q ∧ q < 8
    · skip
      obtain ⟨d, rfl⟩ : ∃ d : Nat, q = d := ⟨q.toNat, by omega⟩
      have hd : d < 8 := by omega
      obtain ⟨s1, s2, s3, s4, s5⟩ := hA.1 (d : Int) (by omega) (by omega)
      obtain ⟨el, hSh, ⟨hel, eel⟩, hw1, hw2⟩ := SC.op hS hd
      have zr := sRow_b A (d : Int) 2
      have zn : ntM A d (A 4 d).toNat 0 = 0 ∨ ntM A d (A 4 d).toNat 0 = -13 := ntM_z _ _ _ _
      refine ex_of (fun _ _ => ev_aload_n (pc' := 1) dX5_kept_0 rfl rfl) ?_
      refine ex_of (fun _ _ => ev_getfield (pc' := 4) fX5_12 dX5_kept_1 rfl hX rfl) ?_
      refine ex_of (fun _ _ => ev_iload_n (pc' := 5) dX5_kept_4 rfl rfl) ?_
      refine ex_of (fun _ _ => ev_callV1 (pc' := 8) kX5_137 mX4_travellerOf dX5_kept_5 rfl rfl (Nat.le_of_ble_eq_true rfl) (Nat.le_of_ble_eq_true rfl) (by decide) rfl hW (e4_travellerOf hR.nw hI hk ht)) ?_
      refine ex_of (fun _ _ => ev_astore_4 (pc' := 10) dX5_kept_8 rfl (by decide) rfl) ?_
      refine ex_of (fun _ _ => ev_aload_n (pc' := 11) dX5_kept_10 rfl rfl) ?_
      refine ex_of (fun _ _ => ev_iload_n (pc' := 12) dX5_kept_11 rfl rfl) ?_
      refine ex_of (fun _ _ => ev_callV1 (pc' := 15) kX5_44 mX5_shelfOf dX5_kept_12 rfl rfl (Nat.le_of_ble_eq_true rfl) (Nat.le_of_ble_eq_true rfl) (by decide) rfl hX (e5_shelfOf hX hS hd)) ?_
      refine ex_of (fun _ _ => ev_astore_5 (pc' := 17) dX5_kept_15 rfl (by decide) rfl) ?_
      refine ex_of (fun _ _ => ev_aload (pc' := 19) dX5_kept_17 rfl rfl) ?_
      refine ex_of (fun _ _ => ev_ifnull (pc' := 22) dX5_kept_19 rfl) ?_
      refine ex_of (fun _ _ => ev_aload (pc' := 24) dX5_kept_22 rfl rfl) ?_
      refine ex_of (fun _ _ => ev_ifnull (pc' := 27) dX5_kept_24 rfl) ?_
      refine ex_of (fun _ _ => ev_iload_n (pc' := 28) dX5_kept_27 rfl rfl) ?_
      refine ex_of (fun _ _ => ev_callS1 (pc' := 31) kX5_229 mX5_isRestDay dX5_kept_28 rfl rfl (Nat.le_of_ble_eq_true rfl) (Nat.le_of_ble_eq_true rfl) (by decide) (e5_isRestDay (by omega))) ?_
      refine ex_ifd_ne (pc' := 34) (tgt := 36) dX5_kept_31 (by decide) rfl (fun c31 => ?_) (fun c31 => ?_)
      · refine ex_of (fun _ _ => ev_aload (pc' := 38) dX5_kept_36 rfl rfl) ?_
        refine ex_of (fun _ _ => ev_callS1 (pc' := 41) kX5_232 mX5_refusalOfDuties dX5_kept_38 rfl rfl (Nat.le_of_ble_eq_true rfl) (Nat.le_of_ble_eq_true rfl) (by decide) (e5_refusalOfDuties hS hA hd)) ?_
        have zq : -15 ≤ (if sRow A (d : Int) 2 ≠ 0 then sRow A (d : Int) 2 else ntM A (d : Int) (A 4 (d : Int)).toNat 0) ∧ (if sRow A (d : Int) 2 ≠ 0 then sRow A (d : Int) 2 else ntM A (d : Int) (A 4 (d : Int)).toNat 0) ≤ 0 := by split <;> omega
        refine ex_of (fun _ _ => ev_istore_6 (pc' := 43) dX5_kept_41 rfl (by decide) rfl) ?_
        refine ex_of (fun _ _ => ev_iload (pc' := 45) dX5_kept_43 rfl rfl) ?_
        refine ex_ifI_eq (pc' := 48) (tgt := 51) dX5_kept_45 (by decide) rfl (by omega) (fun c45 => ?_) (fun c45 => ?_)
        · have hz := c45
          have hm : ∀ j, 0 ≤ j → j < A 4 d → 0 ≤ A 5 (100 * (d : Int) + j) ∧ A 5 (100 * (d : Int) + j) ≤ 19999 := by
            intro j j1 j2
            split at hz
            · omega
            · exact ntM_all (A 4 d).toNat 0 hz j j1 (by omega)
          refine ex_of (fun _ _ => ev_aload_n (pc' := 52) dX5_kept_51 rfl rfl) ?_
          refine ex_of (fun _ _ => ev_aload (pc' := 54) dX5_kept_52 rfl rfl) ?_
          refine ex_of (fun _ _ => ev_aload (pc' := 56) dX5_kept_54 rfl rfl) ?_
          refine ex_of (fun _ _ => ev_getfield (pc' := 59) fX5_162 dX5_kept_56 rfl hT rfl) ?_
          refine ex_of (fun _ _ => ev_aload (pc' := 61) dX5_kept_59 rfl rfl) ?_
          refine ex_of (fun _ _ => ev_iload_n (pc' := 62) dX5_kept_61 rfl rfl) ?_
          have hO := hX
          obtain ⟨w1, h1, E1, rfl, fr1, hR, fb⟩ := e5_firstBroken (l := l) (e := ea) (r := r) hk ht hA hd hI hJ hM (by omega) (by omega) hm hR hS
          refine ex_of (fun _ _ => ev_callV4 (pc' := 65) kX5_235 mX5_firstBroken dX5_kept_62 rfl rfl (Nat.le_of_ble_eq_true rfl) (Nat.le_of_ble_eq_true rfl) (by decide) rfl hO E1) ?_
          have fr := fr.tr fr1
          exact ex_end (ev_iret dX5_kept_65 rfl) (by have ew : sWk A k (d : Int) r = (if sRow A d 2 ≠ 0 then sRow A d 2 else ntM A d (A 4 d).toNat 0) := (by unfold sWk; rw [if_neg (by omega)]); unfold sKept; rw [ew, if_neg (by omega), kp_cg hM (fun i h1 h2 => (bea_mea be2 i h1 h2).symm)]; exact ⟨rfl, fr, hR⟩)
        · refine ex_of (fun _ _ => ev_iload (pc' := 50) dX5_kept_48 rfl rfl) ?_
          exact ex_end (ev_iret dX5_kept_50 rfl) (by have ew : sWk A k (d : Int) r = (if sRow A d 2 ≠ 0 then sRow A d 2 else ntM A d (A 4 d).toNat 0) := (by unfold sWk; rw [if_neg (by omega)]); unfold sKept; rw [ew, if_pos (by omega)]; exact ⟨rfl, fr, hR⟩)
      · refine ex_of (fun _ _ => ev_iconst (pc' := 35) (iI (-1)) dX5_kept_34 rfl (by decide)) ?_
        exact ex_end (ev_iret dX5_kept_35 rfl) (⟨by unfold sKept; rw [if_pos (by unfold sWk; rw [if_pos (by omega)]; decide)]; unfold sWk; rw [if_pos (by omega)], fr, hR⟩)
    · skip
      refine ex_of (fun _ _ => ev_aload_n (pc' := 1) dX5_kept_0 rfl rfl) ?_
      refine ex_of (fun _ _ => ev_getfield (pc' := 4) fX5_12 dX5_kept_1 rfl hX rfl) ?_
      refine ex_of (fun _ _ => ev_iload_n (pc' := 5) dX5_kept_4 rfl rfl) ?_
      refine ex_of (fun _ _ => ev_callV1 (pc' := 8) kX5_137 mX4_travellerOf dX5_kept_5 rfl rfl (Nat.le_of_ble_eq_true rfl) (Nat.le_of_ble_eq_true rfl) (by decide) rfl hW (e4_travellerOf hR.nw hI hk ht)) ?_
      refine ex_of (fun _ _ => ev_astore_4 (pc' := 10) dX5_kept_8 rfl (by decide) rfl) ?_
      refine ex_of (fun _ _ => ev_aload_n (pc' := 11) dX5_kept_10 rfl rfl) ?_
      refine ex_of (fun _ _ => ev_iload_n (pc' := 12) dX5_kept_11 rfl rfl) ?_
      refine ex_of (fun _ _ => ev_callV1 (pc' := 15) kX5_44 mX5_shelfOf dX5_kept_12 rfl rfl (Nat.le_of_ble_eq_true rfl) (Nat.le_of_ble_eq_true rfl) (by decide) rfl hX (e5_shelfOf0 hq (by omega))) ?_
      refine ex_of (fun _ _ => ev_astore_5N (pc' := 17) dX5_kept_15 rfl (by decide) rfl) ?_
      refine ex_of (fun _ _ => ev_aload (pc' := 19) dX5_kept_17 rfl rfl) ?_
      refine ex_of (fun _ _ => ev_ifnull (pc' := 22) dX5_kept_19 rfl) ?_
      refine ex_of (fun _ _ => ev_aloadN (pc' := 24) dX5_kept_22 rfl rfl) ?_
      refine ex_of (fun _ _ => ev_ifnullN (tgt := 34) dX5_kept_24 (by decide)) ?_
      refine ex_of (fun _ _ => ev_iconst (pc' := 35) (iI (-1)) dX5_kept_34 rfl (by decide)) ?_
      exact ex_end (ev_iret dX5_kept_35 rfl) (⟨by unfold sKept; rw [if_pos (by unfold sWk; rw [if_pos (by omega)]; decide)]; unfold sWk; rw [if_pos (by omega)], fr, hR⟩)
  · by_cases hq : 0 ≤ q ∧ q < 8
    · skip
      obtain ⟨d, rfl⟩ : ∃ d : Nat, q = d := ⟨q.toNat, by omega⟩
      have hd : d < 8 := by omega
      obtain ⟨s1, s2, s3, s4, s5⟩ := hA.1 (d : Int) (by omega) (by omega)
      obtain ⟨el, hSh, ⟨hel, eel⟩, hw1, hw2⟩ := SC.op hS hd
      refine ex_of (fun _ _ => ev_aload_n (pc' := 1) dX5_kept_0 rfl rfl) ?_
      refine ex_of (fun _ _ => ev_getfield (pc' := 4) fX5_12 dX5_kept_1 rfl hX rfl) ?_
      refine ex_of (fun _ _ => ev_iload_n (pc' := 5) dX5_kept_4 rfl rfl) ?_
      refine ex_of (fun _ _ => ev_callV1 (pc' := 8) kX5_137 mX4_travellerOf dX5_kept_5 rfl rfl (Nat.le_of_ble_eq_true rfl) (Nat.le_of_ble_eq_true rfl) (by decide) rfl hW (e4_travellerOf0 hR.nw hI (by omega) hk)) ?_
      refine ex_of (fun _ _ => ev_astore_4N (pc' := 10) dX5_kept_8 rfl (by decide) rfl) ?_
      refine ex_of (fun _ _ => ev_aload_n (pc' := 11) dX5_kept_10 rfl rfl) ?_
      refine ex_of (fun _ _ => ev_iload_n (pc' := 12) dX5_kept_11 rfl rfl) ?_
      refine ex_of (fun _ _ => ev_callV1 (pc' := 15) kX5_44 mX5_shelfOf dX5_kept_12 rfl rfl (Nat.le_of_ble_eq_true rfl) (Nat.le_of_ble_eq_true rfl) (by decide) rfl hX (e5_shelfOf hX hS hd)) ?_
      refine ex_of (fun _ _ => ev_astore_5 (pc' := 17) dX5_kept_15 rfl (by decide) rfl) ?_
      refine ex_of (fun _ _ => ev_aloadN (pc' := 19) dX5_kept_17 rfl rfl) ?_
      refine ex_of (fun _ _ => ev_ifnullN (tgt := 34) dX5_kept_19 (by decide)) ?_
      refine ex_of (fun _ _ => ev_iconst (pc' := 35) (iI (-1)) dX5_kept_34 rfl (by decide)) ?_
      exact ex_end (ev_iret dX5_kept_35 rfl) (⟨by unfold sKept; rw [if_pos (by unfold sWk; rw [if_pos (by omega)]; decide)]; unfold sWk; rw [if_pos (by omega)], fr, hR⟩)
    · skip
      refine ex_of (fun _ _ => ev_aload_n (pc' := 1) dX5_kept_0 rfl rfl) ?_
      refine ex_of (fun _ _ => ev_getfield (pc' := 4) fX5_12 dX5_kept_1 rfl hX rfl) ?_
      refine ex_of (fun _ _ => ev_iload_n (pc' := 5) dX5_kept_4 rfl rfl) ?_
      refine ex_of (fun _ _ => ev_callV1 (pc' := 8) kX5_137 mX4_travellerOf dX5_kept_5 rfl rfl (Nat.le_of_ble_eq_true rfl) (Nat.le_of_ble_eq_true rfl) (by decide) rfl hW (e4_travellerOf0 hR.nw hI (by omega) hk)) ?_
      refine ex_of (fun _ _ => ev_astore_4N (pc' := 10) dX5_kept_8 rfl (by decide) rfl) ?_
      refine ex_of (fun _ _ => ev_aload_n (pc' := 11) dX5_kept_10 rfl rfl) ?_
      refine ex_of (fun _ _ => ev_iload_n (pc' := 12) dX5_kept_11 rfl rfl) ?_
      refine ex_of (fun _ _ => ev_callV1 (pc' := 15) kX5_44 mX5_shelfOf dX5_kept_12 rfl rfl (Nat.le_of_ble_eq_true rfl) (Nat.le_of_ble_eq_true rfl) (by decide) rfl hX (e5_shelfOf0 hq (by omega))) ?_
      refine ex_of (fun _ _ => ev_astore_5N (pc' := 17) dX5_kept_15 rfl (by decide) rfl) ?_
      refine ex_of (fun _ _ => ev_aloadN (pc' := 19) dX5_kept_17 rfl rfl) ?_
      refine ex_of (fun _ _ => ev_ifnullN (tgt := 34) dX5_kept_19 (by decide)) ?_
      refine ex_of (fun _ _ => ev_iconst (pc' := 35) (iI (-1)) dX5_kept_34 rfl (by decide)) ?_
      exact ex_end (ev_iret dX5_kept_35 rfl) (⟨by unfold sKept; rw [if_pos (by unfold sWk; rw [if_pos (by omega)]; decide)]; unfold sWk; rw [if_pos (by omega)], fr, hR⟩)
end CL1
