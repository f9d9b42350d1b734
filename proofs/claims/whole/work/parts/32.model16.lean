section MR
variable {l : Launch} {A : Nat → Int → Int} {h : ev_H} {o : Nat → Int}
/-! the reference's log and plan -/
def lgBit (z : Int) : Int32 := if -3 ≤ z ∧ z ≤ 3 then iI 1 <<< (iI (z + 3) &&& 31) else iI 0
def sSeenAt (S : Int → Int) (k t : Int) : Int := sSeen S k (fw S (mea S k) k t).1 (fw S (mea S k) k t).2.1 t
def lgM (A : Nat → Int → Int) (k d : Int) : Nat → Int → Int32 → Int32
  | 0, _, b => b
  | c + 1, i, b => if A 5 (100 * d + i) = lstS (A 3 d) ∨ A 5 (100 * d + i + 1) = lstS (A 3 d) then lgM A k d c (i + 2) b else if 0 ≤ A 5 (100 * d + i) ∧ A 5 (100 * d + i) ≤ 19999 then lgM A k d c (i + 2) (b &&& lgBit (sSeenAt (A 0) k (A 5 (100 * d + i)) - A 5 (100 * d + i + 1))) else iI (-13)
def sLog (A : Nat → Int → Int) (k d : Int) : Int32 := if ¬ (0 ≤ k ∧ k < A 0 1) then iI (-1) else if sRow A d (-1) ≠ 0 then iI (sRow A d (-1)) else if A 4 d % 2 = 1 then iI (-13) else lgM A k d (A 4 d / 2).toNat 0 (iI 127)
theorem bm_near {x : Int} (hx : -2147493648 ≤ x ∧ x ≤ 2147493648) : ((iI x).toInt = x ∧ (-2147483648 ≤ x ∧ x < 2147483648)) ∨ ((iI x).toInt < -1000 ∧ 3 < x) ∨ (1000 < (iI x).toInt ∧ x < -3) := by
  have h1 : (iI x).toInt = x.bmod (2 ^ 32) := Int32.toInt_ofInt
  rw [Int.bmod_def] at h1
  have h2 : ((2 ^ 32 : Nat) : Int) = 4294967296 := by decide
  rw [h2] at h1
  split at h1 <;> omega
theorem e6_lgL {h0 : ev_H} {o0 : Nat → Int} {k d : Int} {a3 : Int32} (hI : mI0 (A 0)) (hJ : mIP (A 0)) (hK : ∀ k, 0 ≤ k → k < A 0 1 → mT (A 0) k) (hS : mSh A) (hk : 0 ≤ k ∧ k < A 0 1) (hd : 0 ≤ d ∧ d < 8) : ∀ (c : Nat) (i : Int) (b : Int32) (a6 a7 a8 : Option Value) (h : ev_H) (o : Nat → Int), MW h o A → FrM h0 h → (∀ j, j < 19 → o j = o0 j) → 0 ≤ i → A 4 d - i = 2 * c → Ex l 4 yX6_log.cls yX6_log.name cX6_log 9 (some .int) 45 [some (.ref 34), some (.int (iI k)), some (.int (iI d)), some (.int a3), some (.int b), some (.int (iI i)), a6, a7, a8] [] h (scP h0 o0 A (some (.int (lgM A k d c i b)))) := by
  intro c
  obtain ⟨⟨i1, i2⟩, ⟨i3, i4⟩, i5, i6⟩ := id hI
  obtain ⟨s1, s2, s3, s4, s5⟩ := hS.1 d hd.1 hd.2
  induction c with
  | zero =>
    intro i b a6 a7 a8 h o hw fr hs hi hn
    refine ex_of (fun _ _ => ev_iload (pc' := 47) dX6_log_45 rfl rfl) ?_
    refine ex_of (fun _ _ => ev_iconst (pc' := 48) (iI (1)) dX6_log_47 rfl (by decide)) ?_
    refine ex_of (fun _ _ => ev_iaddI (pc' := 49) dX6_log_48 rfl) ?_
    refine ex_of (fun _ _ => ev_aload_n (pc' := 50) dX6_log_49 rfl rfl) ?_
    refine ex_of (fun _ _ => ev_getfield (pc' := 53) fX6_22 dX6_log_50 rfl hw.o rfl) ?_
    refine ex_of (fun _ _ => ev_iload_n (pc' := 54) dX6_log_53 rfl rfl) ?_
    refine ex_of (fun _ _ => ev_ialoadI (pc' := 55) dX6_log_54 rfl hw.a4 (by decide) (by omega)) ?_
    refine ex_icmpI_ge (pc' := 58) (tgt := 178) dX6_log_55 (by decide) rfl (by omega) (by omega) (fun c55 => ?_) (fun c55 => ?_)
    · refine ex_of (fun _ _ => ev_iload (pc' := 180) dX6_log_178 rfl rfl) ?_
      exact ex_end (ev_iret dX6_log_180 rfl) (⟨rfl, _, hw, fr, hs⟩)
    · omega
  | succ c ih =>
    intro i b a6 a7 a8 h o hw fr hs hi hn
    have e5 := hS.2 (100 * d + i) (by omega) (by omega)
    have e6 := hS.2 (100 * d + i + 1) (by omega) (by omega)
    have lb := lstS_b (A 3 d)
    refine ex_of (fun _ _ => ev_iload (pc' := 47) dX6_log_45 rfl rfl) ?_
    refine ex_of (fun _ _ => ev_iconst (pc' := 48) (iI (1)) dX6_log_47 rfl (by decide)) ?_
    refine ex_of (fun _ _ => ev_iaddI (pc' := 49) dX6_log_48 rfl) ?_
    refine ex_of (fun _ _ => ev_aload_n (pc' := 50) dX6_log_49 rfl rfl) ?_
    refine ex_of (fun _ _ => ev_getfield (pc' := 53) fX6_22 dX6_log_50 rfl hw.o rfl) ?_
    refine ex_of (fun _ _ => ev_iload_n (pc' := 54) dX6_log_53 rfl rfl) ?_
    refine ex_of (fun _ _ => ev_ialoadI (pc' := 55) dX6_log_54 rfl hw.a4 (by decide) (by omega)) ?_
    refine ex_icmpI_ge (pc' := 58) (tgt := 178) dX6_log_55 (by decide) rfl (by omega) (by omega) (fun c55 => ?_) (fun c55 => ?_)
    · omega
    · refine ex_of (fun _ _ => ev_aload_n (pc' := 59) dX6_log_58 rfl rfl) ?_
      refine ex_of (fun _ _ => ev_getfield (pc' := 62) fX6_25 dX6_log_59 rfl hw.o rfl) ?_
      refine ex_of (fun _ _ => ev_bipush (pc' := 64) (iI (100)) dX6_log_62 rfl (by decide)) ?_
      refine ex_of (fun _ _ => ev_iload_n (pc' := 65) dX6_log_64 rfl rfl) ?_
      refine ex_of (fun _ _ => ev_imulI (pc' := 66) dX6_log_65 rfl) ?_
      refine ex_of (fun _ _ => ev_iload (pc' := 68) dX6_log_66 rfl rfl) ?_
      refine ex_of (fun _ _ => ev_iaddI (pc' := 69) dX6_log_68 rfl) ?_
      refine ex_of (fun _ _ => ev_ialoadI (pc' := 70) dX6_log_69 rfl hw.a5 (by decide) (by omega)) ?_
      refine ex_of (fun _ _ => ev_istore_6 (pc' := 72) dX6_log_70 rfl (by decide) rfl) ?_
      refine ex_of (fun _ _ => ev_aload_n (pc' := 73) dX6_log_72 rfl rfl) ?_
      refine ex_of (fun _ _ => ev_getfield (pc' := 76) fX6_25 dX6_log_73 rfl hw.o rfl) ?_
      refine ex_of (fun _ _ => ev_bipush (pc' := 78) (iI (100)) dX6_log_76 rfl (by decide)) ?_
      refine ex_of (fun _ _ => ev_iload_n (pc' := 79) dX6_log_78 rfl rfl) ?_
      refine ex_of (fun _ _ => ev_imulI (pc' := 80) dX6_log_79 rfl) ?_
      refine ex_of (fun _ _ => ev_iload (pc' := 82) dX6_log_80 rfl rfl) ?_
      refine ex_of (fun _ _ => ev_iaddI (pc' := 83) dX6_log_82 rfl) ?_
      refine ex_of (fun _ _ => ev_iconst (pc' := 84) (iI (1)) dX6_log_83 rfl (by decide)) ?_
      refine ex_of (fun _ _ => ev_iaddI (pc' := 85) dX6_log_84 rfl) ?_
      refine ex_of (fun _ _ => ev_ialoadI (pc' := 86) dX6_log_85 rfl hw.a5 (by decide) (by omega)) ?_
      refine ex_of (fun _ _ => ev_istore_7 (pc' := 88) dX6_log_86 rfl (by decide) rfl) ?_
      refine ex_of (fun _ _ => ev_iload (pc' := 90) dX6_log_88 rfl rfl) ?_
      refine ex_of (fun _ _ => ev_aload_n (pc' := 91) dX6_log_90 rfl rfl) ?_
      refine ex_of (fun _ _ => ev_iload_n (pc' := 92) dX6_log_91 rfl rfl) ?_
      refine ex_of (fun _ _ => ev_callV1 (pc' := 95) kX6_225 mX6_leastOf dX6_log_92 rfl rfl (Nat.le_of_ble_eq_true rfl) (Nat.le_of_ble_eq_true rfl) (by decide) rfl hw.o (e6_leastOf hw hS hd)) ?_
      refine ex_icmpI_eq (pc' := 98) (tgt := 172) dX6_log_95 (by decide) rfl (by omega) (by omega) (fun c95 => ?_) (fun c95 => ?_)
      · refine ex_of (fun _ _ => ev_iincI_5 (pc' := 175) dX6_log_172 rfl (by decide) rfl) ?_
        refine ex_of (fun _ _ => ev_goto (tgt := 45) dX6_log_175 (by decide)) ?_
        first
        | (rw [show lgM A k d (c + 1) i b = lgM A k d c (i + 2) b by conv => lhs; unfold lgM; rw [if_pos (by omega)]]; exact ih (i + 2) _ _ _ _ _ _ hw fr hs (by omega) (by omega))
        | (rw [show lgM A k d (c + 1) i b = lgM A k d c (i + 2) (b &&& lgBit (sSeenAt (A 0) k (A 5 (100 * d + i)) - A 5 (100 * d + i + 1))) by conv => lhs; unfold lgM; rw [if_neg (by omega), if_pos (by omega)]]; rw [eSn]; unfold lgBit; (first | rw [if_pos (by omega)] | rw [if_neg (by omega)]); exact ih (i + 2) _ _ _ _ _ _ hw fr hs (by omega) (by omega))
        | (rw [show lgM A k d (c + 1) i b = lgM A k d c (i + 2) (b &&& lgBit (sSeenAt (A 0) k (A 5 (100 * d + i)) - A 5 (100 * d + i + 1))) by conv => lhs; unfold lgM; rw [if_neg (by omega), if_pos (by omega)]]; rw [eSn]; unfold lgBit; rw [if_pos (by omega)]; rw [show (iI (sSeen (A 0) k (o1 19) (o1 20) (A 5 (100 * d + i)) - A 5 (100 * d + i + 1))).toInt = sSeen (A 0) k (o1 19) (o1 20) (A 5 (100 * d + i)) - A 5 (100 * d + i + 1) by omega]; exact ih (i + 2) _ _ _ _ _ _ hw fr hs (by omega) (by omega))
      · refine ex_of (fun _ _ => ev_iload (pc' := 100) dX6_log_98 rfl rfl) ?_
        refine ex_of (fun _ _ => ev_aload_n (pc' := 101) dX6_log_100 rfl rfl) ?_
        refine ex_of (fun _ _ => ev_iload_n (pc' := 102) dX6_log_101 rfl rfl) ?_
        refine ex_of (fun _ _ => ev_callV1 (pc' := 105) kX6_225 mX6_leastOf dX6_log_102 rfl rfl (Nat.le_of_ble_eq_true rfl) (Nat.le_of_ble_eq_true rfl) (by decide) rfl hw.o (e6_leastOf hw hS hd)) ?_
        refine ex_icmpI_ne (pc' := 108) (tgt := 111) dX6_log_105 (by decide) rfl (by omega) (by omega) (fun c105 => ?_) (fun c105 => ?_)
        · refine ex_of (fun _ _ => ev_iload (pc' := 113) dX6_log_111 rfl rfl) ?_
          refine ex_of (fun _ _ => ev_i2lI (pc' := 114) dX6_log_113 rfl (by omega)) ?_
          refine ex_of (fun _ _ => ev_callS1 (pc' := 117) kX6_141 mX6_isMinute dX6_log_114 rfl rfl (Nat.le_of_ble_eq_true rfl) (Nat.le_of_ble_eq_true rfl) (by decide) (e6_isMinute (by omega))) ?_
          refine ex_ifd_ne (pc' := 120) (tgt := 123) dX6_log_117 (by decide) rfl (fun c117 => ?_) (fun c117 => ?_)
          · refine ex_of (fun _ _ => ev_aload_n (pc' := 124) dX6_log_123 rfl rfl) ?_
            refine ex_of (fun _ _ => ev_iload_n (pc' := 125) dX6_log_124 rfl rfl) ?_
            refine ex_of (fun _ _ => ev_iload (pc' := 127) dX6_log_125 rfl rfl) ?_
            have hO := hw.o
            obtain ⟨w1, h1, E1, rfl, o1, hw, fr1, hs1, hr⟩ := e6_findWhere (l := l) (k := k) (t := A 5 (100 * d + i)) hw hI hJ (by omega) (hK k (by omega) (by omega)) (by omega)
            refine ex_of (fun _ _ => ev_callV2v (pc' := 130) kX6_182 mX6_findWhere dX6_log_127 rfl rfl (Nat.le_of_ble_eq_true rfl) (Nat.le_of_ble_eq_true rfl) (by decide) rfl hO E1) ?_
            obtain ⟨fa, fb, fc, fd, hf, g1, g2, g3, g4⟩ := fw_b (ea := mea (A 0) k) (t := A 5 (100 * d + i)) (hK k (by omega) (by omega)) (by omega)
            have q := hr
            rw [hf] at q
            simp only [Prod.mk.injEq] at q
            obtain ⟨q1, q2, q3, q4⟩ := q
            have b1 : -100000000 ≤ o1 19 ∧ o1 19 ≤ 100000000 := by omega
            have b2 : 0 < o1 20 ∧ o1 20 ≤ 12000 := by omega
            have b4 : o1 21 = -4 ∨ (0 ≤ o1 21 ∧ o1 21 < A 0 0) := by omega
            have fr := fr.tr fr1
            have hs : ∀ j, j < 19 → _ := fun j hj => (hs1 j hj).trans (hs j hj)
            have eSn : sSeenAt (A 0) k (A 5 (100 * d + i)) = sSeen (A 0) k (o1 19) (o1 20) (A 5 (100 * d + i)) := by unfold sSeenAt; rw [← hr]
            have wb := fw_b2 (ea := mea (A 0) k) (t := A 5 (100 * d + i)) (hK k (by omega) (by omega))
            rw [← hr] at wb
            have wb2 : -2160 * o1 20 ≤ o1 19 ∧ o1 19 ≤ 2160 * o1 20 := wb
            have zs : -200 ≤ sSeen (A 0) k (o1 19) (o1 20) (A 5 (100 * d + i)) ∧ sSeen (A 0) k (o1 19) (o1 20) (A 5 (100 * d + i)) ≤ 200 := dAt_b (by have := eN_b (S := A 0) (k := k) wb2 b2.1; omega) b2.1 (by omega)
            have bn := bm_near (x := sSeen (A 0) k (o1 19) (o1 20) (A 5 (100 * d + i)) - A 5 (100 * d + i + 1)) (by omega)
            have rz := iI_rng (iI (sSeen (A 0) k (o1 19) (o1 20) (A 5 (100 * d + i)) - A 5 (100 * d + i + 1)))
            refine ex_of (fun _ _ => ev_aload_n (pc' := 131) dX6_log_130 rfl rfl) ?_
            refine ex_of (fun _ _ => ev_iload_n (pc' := 132) dX6_log_131 rfl rfl) ?_
            refine ex_of (fun _ _ => ev_iload (pc' := 134) dX6_log_132 rfl rfl) ?_
            refine ex_of (fun _ _ => ev_callV2 (pc' := 137) kX6_193 mX6_seenDay dX6_log_134 rfl rfl (Nat.le_of_ble_eq_true rfl) (Nat.le_of_ble_eq_true rfl) (by decide) rfl hw.o (e6_seenDay hw hI hJ (by omega) (hK k (by omega) (by omega)) b1 b2 (by omega))) ?_
            refine ex_of (fun _ _ => ev_iload (pc' := 139) dX6_log_137 rfl rfl) ?_
            refine ex_of (fun _ _ => ev_isubI (pc' := 140) dX6_log_139 rfl) ?_
            rw [← iI_of (iI (sSeen (A 0) k (o1 19) (o1 20) (A 5 (100 * d + i)) - A 5 (100 * d + i + 1)))]
            refine ex_of (fun _ _ => ev_istore_8 (pc' := 142) dX6_log_140 rfl (by decide) rfl) ?_
            refine ex_of (fun _ _ => ev_iload (pc' := 144) dX6_log_142 rfl rfl) ?_
            refine ex_of (fun _ _ => ev_iload (pc' := 146) dX6_log_144 rfl rfl) ?_
            refine ex_of (fun _ _ => ev_i2lI (pc' := 147) dX6_log_146 rfl (by omega)) ?_
            refine ex_of (fun _ _ => ev_ldc2I (pc' := 150) (-3) nX6_236 dX6_log_147 rfl (by decide)) ?_
            refine ex_of (fun _ _ => ev_ldc2I (pc' := 153) (3) nX6_106 dX6_log_150 rfl (by decide)) ?_
            refine ex_of (fun _ _ => ev_callS3 (pc' := 156) kX6_48 mX6_isIn dX6_log_153 rfl rfl (Nat.le_of_ble_eq_true rfl) (Nat.le_of_ble_eq_true rfl) (by decide) (e6_isIn (by omega) (by omega) (by omega))) ?_
            refine ex_ifd_eq (pc' := 159) (tgt := 168) dX6_log_156 (by decide) rfl (fun c156 => ?_) (fun c156 => ?_)
            · refine ex_of (fun _ _ => ev_iconst (pc' := 169) (iI (0)) dX6_log_168 rfl (by decide)) ?_
              refine ex_of (fun _ _ => ev_iand (pc' := 170) dX6_log_169 rfl) ?_
              refine ex_of (fun _ _ => ev_istore_4 (pc' := 172) dX6_log_170 rfl (by decide) rfl) ?_
              refine ex_of (fun _ _ => ev_iincI_5 (pc' := 175) dX6_log_172 rfl (by decide) rfl) ?_
              refine ex_of (fun _ _ => ev_goto (tgt := 45) dX6_log_175 (by decide)) ?_
              first
              | (rw [show lgM A k d (c + 1) i b = lgM A k d c (i + 2) b by conv => lhs; unfold lgM; rw [if_pos (by omega)]]; exact ih (i + 2) _ _ _ _ _ _ hw fr hs (by omega) (by omega))
              | (rw [show lgM A k d (c + 1) i b = lgM A k d c (i + 2) (b &&& lgBit (sSeenAt (A 0) k (A 5 (100 * d + i)) - A 5 (100 * d + i + 1))) by conv => lhs; unfold lgM; rw [if_neg (by omega), if_pos (by omega)]]; rw [eSn]; unfold lgBit; (first | rw [if_pos (by omega)] | rw [if_neg (by omega)]); exact ih (i + 2) _ _ _ _ _ _ hw fr hs (by omega) (by omega))
              | (rw [show lgM A k d (c + 1) i b = lgM A k d c (i + 2) (b &&& lgBit (sSeenAt (A 0) k (A 5 (100 * d + i)) - A 5 (100 * d + i + 1))) by conv => lhs; unfold lgM; rw [if_neg (by omega), if_pos (by omega)]]; rw [eSn]; unfold lgBit; rw [if_pos (by omega)]; rw [show (iI (sSeen (A 0) k (o1 19) (o1 20) (A 5 (100 * d + i)) - A 5 (100 * d + i + 1))).toInt = sSeen (A 0) k (o1 19) (o1 20) (A 5 (100 * d + i)) - A 5 (100 * d + i + 1) by omega]; exact ih (i + 2) _ _ _ _ _ _ hw fr hs (by omega) (by omega))
            · refine ex_of (fun _ _ => ev_iconst (pc' := 160) (iI (1)) dX6_log_159 rfl (by decide)) ?_
              refine ex_of (fun _ _ => ev_iload (pc' := 162) dX6_log_160 rfl rfl) ?_
              refine ex_of (fun _ _ => ev_iconst (pc' := 163) (iI (3)) dX6_log_162 rfl (by decide)) ?_
              refine ex_of (fun _ _ => ev_iaddI (pc' := 164) dX6_log_163 rfl) ?_
              refine ex_of (fun _ _ => ev_ishl (pc' := 165) dX6_log_164 rfl) ?_
              refine ex_of (fun _ _ => ev_goto (tgt := 169) dX6_log_165 (by decide)) ?_
              refine ex_of (fun _ _ => ev_iand (pc' := 170) dX6_log_169 rfl) ?_
              refine ex_of (fun _ _ => ev_istore_4 (pc' := 172) dX6_log_170 rfl (by decide) rfl) ?_
              refine ex_of (fun _ _ => ev_iincI_5 (pc' := 175) dX6_log_172 rfl (by decide) rfl) ?_
              refine ex_of (fun _ _ => ev_goto (tgt := 45) dX6_log_175 (by decide)) ?_
              first
              | (rw [show lgM A k d (c + 1) i b = lgM A k d c (i + 2) b by conv => lhs; unfold lgM; rw [if_pos (by omega)]]; exact ih (i + 2) _ _ _ _ _ _ hw fr hs (by omega) (by omega))
              | (rw [show lgM A k d (c + 1) i b = lgM A k d c (i + 2) (b &&& lgBit (sSeenAt (A 0) k (A 5 (100 * d + i)) - A 5 (100 * d + i + 1))) by conv => lhs; unfold lgM; rw [if_neg (by omega), if_pos (by omega)]]; rw [eSn]; unfold lgBit; (first | rw [if_pos (by omega)] | rw [if_neg (by omega)]); exact ih (i + 2) _ _ _ _ _ _ hw fr hs (by omega) (by omega))
              | (rw [show lgM A k d (c + 1) i b = lgM A k d c (i + 2) (b &&& lgBit (sSeenAt (A 0) k (A 5 (100 * d + i)) - A 5 (100 * d + i + 1))) by conv => lhs; unfold lgM; rw [if_neg (by omega), if_pos (by omega)]]; rw [eSn]; unfold lgBit; rw [if_pos (by omega)]; rw [show (iI (sSeen (A 0) k (o1 19) (o1 20) (A 5 (100 * d + i)) - A 5 (100 * d + i + 1))).toInt = sSeen (A 0) k (o1 19) (o1 20) (A 5 (100 * d + i)) - A 5 (100 * d + i + 1) by omega]; exact ih (i + 2) _ _ _ _ _ _ hw fr hs (by omega) (by omega))
          · refine ex_of (fun _ _ => ev_bipush (pc' := 122) (iI (-13)) dX6_log_120 rfl (by decide)) ?_
            exact ex_end (ev_iret dX6_log_122 rfl) (⟨by unfold lgM; rw [if_neg (by omega), if_neg (by omega)], _, hw, fr, hs⟩)
        · refine ex_of (fun _ _ => ev_goto (tgt := 172) dX6_log_108 (by decide)) ?_
          refine ex_of (fun _ _ => ev_iincI_5 (pc' := 175) dX6_log_172 rfl (by decide) rfl) ?_
          refine ex_of (fun _ _ => ev_goto (tgt := 45) dX6_log_175 (by decide)) ?_
          first
          | (rw [show lgM A k d (c + 1) i b = lgM A k d c (i + 2) b by conv => lhs; unfold lgM; rw [if_pos (by omega)]]; exact ih (i + 2) _ _ _ _ _ _ hw fr hs (by omega) (by omega))
          | (rw [show lgM A k d (c + 1) i b = lgM A k d c (i + 2) (b &&& lgBit (sSeenAt (A 0) k (A 5 (100 * d + i)) - A 5 (100 * d + i + 1))) by conv => lhs; unfold lgM; rw [if_neg (by omega), if_pos (by omega)]]; rw [eSn]; unfold lgBit; (first | rw [if_pos (by omega)] | rw [if_neg (by omega)]); exact ih (i + 2) _ _ _ _ _ _ hw fr hs (by omega) (by omega))
          | (rw [show lgM A k d (c + 1) i b = lgM A k d c (i + 2) (b &&& lgBit (sSeenAt (A 0) k (A 5 (100 * d + i)) - A 5 (100 * d + i + 1))) by conv => lhs; unfold lgM; rw [if_neg (by omega), if_pos (by omega)]]; rw [eSn]; unfold lgBit; rw [if_pos (by omega)]; rw [show (iI (sSeen (A 0) k (o1 19) (o1 20) (A 5 (100 * d + i)) - A 5 (100 * d + i + 1))).toInt = sSeen (A 0) k (o1 19) (o1 20) (A 5 (100 * d + i)) - A 5 (100 * d + i + 1) by omega]; exact ih (i + 2) _ _ _ _ _ _ hw fr hs (by omega) (by omega))
theorem e6_log {k d : Int} (hw : MW h o A) (hI : mI0 (A 0)) (hJ : mIP (A 0)) (hK : ∀ k, 0 ≤ k → k < A 0 1 → mT (A 0) k) (hS : mSh A) (rk : -2147483648 ≤ k ∧ k < 2147483648) (rd : -2147483648 ≤ d ∧ d < 2147483648) : Ex l 5 yX6_log.cls yX6_log.name cX6_log 9 (some .int) 0 [some (.ref 34), some (.int (iI k)), some (.int (iI d)), none, none, none, none, none, none] [] h (scP h o A (some (.int (sLog A k d)))) := by
  obtain ⟨⟨i1, i2⟩, ⟨i3, i4⟩, i5, i6⟩ := id hI
  have fr := FrM.rf h
  have hs : ∀ j, j < 19 → o j = o j := fun _ _ => rfl
  have zb := sRow_b A d (-1)
  refine ex_of (fun _ _ => ev_aload_n (pc' := 1) dX6_log_0 rfl rfl) ?_
  refine ex_of (fun _ _ => ev_iload_n (pc' := 2) dX6_log_1 rfl rfl) ?_
  refine ex_of (fun _ _ => ev_callV1 (pc' := 5) kX6_157 mX6_isOne dX6_log_2 rfl rfl (Nat.le_of_ble_eq_true rfl) (Nat.le_of_ble_eq_true rfl) (by decide) rfl hw.o (e6_isOne hw hI (by omega))) ?_
  refine ex_ifd_ne (pc' := 8) (tgt := 10) dX6_log_5 (by decide) rfl (fun c5 => ?_) (fun c5 => ?_)
  · refine ex_of (fun _ _ => ev_aload_n (pc' := 11) dX6_log_10 rfl rfl) ?_
    refine ex_of (fun _ _ => ev_iload_n (pc' := 12) dX6_log_11 rfl rfl) ?_
    refine ex_of (fun _ _ => ev_iconst (pc' := 13) (iI (-1)) dX6_log_12 rfl (by decide)) ?_
    refine ex_of (fun _ _ => ev_callV2 (pc' := 16) kX6_93 mX6_wrongRow dX6_log_13 rfl rfl (Nat.le_of_ble_eq_true rfl) (Nat.le_of_ble_eq_true rfl) (by decide) rfl hw.o (e6_wrongRow hw hS (by omega) (by omega))) ?_
    refine ex_of (fun _ _ => ev_istore_3 (pc' := 17) dX6_log_16 rfl (by decide) rfl) ?_
    refine ex_of (fun _ _ => ev_iload_n (pc' := 18) dX6_log_17 rfl rfl) ?_
    refine ex_ifI_eq (pc' := 21) (tgt := 23) dX6_log_18 (by decide) rfl (by omega) (fun c18 => ?_) (fun c18 => ?_)
    · have hz : sRow A d (-1) = 0 := by omega
      obtain ⟨hd, hk2, -⟩ := sRow_0 hz
      obtain ⟨s1, s2, s3, s4, s5⟩ := hS.1 d hd.1 hd.2
      have tm : Int.tmod (A 4 d) 2 = A 4 d % 2 := fm_pos (by omega)
      refine ex_of (fun _ _ => ev_aload_n (pc' := 24) dX6_log_23 rfl rfl) ?_
      refine ex_of (fun _ _ => ev_getfield (pc' := 27) fX6_22 dX6_log_24 rfl hw.o rfl) ?_
      refine ex_of (fun _ _ => ev_iload_n (pc' := 28) dX6_log_27 rfl rfl) ?_
      refine ex_of (fun _ _ => ev_ialoadI (pc' := 29) dX6_log_28 rfl hw.a4 (by decide) (by omega)) ?_
      refine ex_of (fun _ _ => ev_iconst (pc' := 30) (iI (2)) dX6_log_29 rfl (by decide)) ?_
      refine ex_of (fun _ _ => ev_iremI (pc' := 31) dX6_log_30 rfl (by omega) (by omega) (by omega)) ?_
      rw [tm]
      refine ex_of (fun _ _ => ev_iconst (pc' := 32) (iI (1)) dX6_log_31 rfl (by decide)) ?_
      refine ex_icmpI_ne (pc' := 35) (tgt := 38) dX6_log_32 (by decide) rfl (by omega) (by omega) (fun c32 => ?_) (fun c32 => ?_)
      · refine ex_of (fun _ _ => ev_bipush (pc' := 40) (iI (127)) dX6_log_38 rfl (by decide)) ?_
        refine ex_of (fun _ _ => ev_istore_4 (pc' := 42) dX6_log_40 rfl (by decide) rfl) ?_
        refine ex_of (fun _ _ => ev_iconst (pc' := 43) (iI (0)) dX6_log_42 rfl (by decide)) ?_
        refine ex_of (fun _ _ => ev_istore_5 (pc' := 45) dX6_log_43 rfl (by decide) rfl) ?_
        rw [show sLog A k d = lgM A k d (A 4 d / 2).toNat 0 (iI 127) by unfold sLog; (repeat (first | rw [if_pos (by omega)] | rw [if_neg (by omega)]))]
        exact ev_deepx (by decide) (e6_lgL hI hJ hK hS (by omega) hd (A 4 d / 2).toNat 0 _ _ _ _ _ _ hw fr hs (by omega) (by omega))
      · refine ex_of (fun _ _ => ev_bipush (pc' := 37) (iI (-13)) dX6_log_35 rfl (by decide)) ?_
        exact ex_end (ev_iret dX6_log_37 rfl) (⟨by unfold sLog; (repeat (first | rw [if_pos (by omega)] | rw [if_neg (by omega)])), _, hw, fr, hs⟩)
    · refine ex_of (fun _ _ => ev_iload_n (pc' := 22) dX6_log_21 rfl rfl) ?_
      exact ex_end (ev_iret dX6_log_22 rfl) (⟨by unfold sLog; (repeat (first | rw [if_pos (by omega)] | rw [if_neg (by omega)])), _, hw, fr, hs⟩)
  · refine ex_of (fun _ _ => ev_iconst (pc' := 9) (iI (-1)) dX6_log_8 rfl (by decide)) ?_
    exact ex_end (ev_iret dX6_log_9 rfl) (⟨by unfold sLog; (repeat (first | rw [if_pos (by omega)] | rw [if_neg (by omega)])), _, hw, fr, hs⟩)
end MR
