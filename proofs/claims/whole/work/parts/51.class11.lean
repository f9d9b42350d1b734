section CM1
variable {l : Launch} {h h0 : ev_H} {A : Nat → Int → Int} {F w : Nat → Option Nat} {d t : Nat} {k : Int}
def lgT (A : Nat → Int → Int) (d i : Int) : Prop := A 5 (100 * d + i) ≠ lstS (A 3 d) ∧ A 5 (100 * d + (i + 1)) ≠ lstS (A 3 d)
def lgW (A : Nat → Int → Int) (d : Int) : Nat → Int → Bool
  | 0, _ => true
  | c + 1, i => if (A 5 (100 * d + i) ≠ lstS (A 3 d) ∧ A 5 (100 * d + (i + 1)) ≠ lstS (A 3 d)) ∧ ¬ (0 ≤ A 5 (100 * d + i) ∧ A 5 (100 * d + i) ≤ 19999) then false else lgW A d c (i + 2)
theorem lgM_w {A : Nat → Int → Int} {k d : Int} : ∀ (c : Nat) (i : Int) (b : Int32), lgW A d c i = false → lgM A k d c i b = iI (-13)
  | 0, _, _, h => absurd h (by unfold lgW; decide)
  | c + 1, i, b, h => by
    unfold lgW at h
    unfold lgM
    rw [show 100 * d + i + 1 = 100 * d + (i + 1) by omega]
    by_cases q : A 5 (100 * d + i) = lstS (A 3 d) ∨ A 5 (100 * d + (i + 1)) = lstS (A 3 d)
    · rw [if_pos q]
      rw [if_neg (by omega)] at h
      exact lgM_w c _ _ h
    · rw [if_neg q]
      by_cases q2 : 0 ≤ A 5 (100 * d + i) ∧ A 5 (100 * d + i) ≤ 19999
      · rw [if_pos q2]
        rw [if_neg (fun z => z.2 q2)] at h
        exact lgM_w c _ _ h
      · rw [if_neg q2]
theorem e5_ilL (hS : SC h A w) (hA : mSh A) (hd : d < 8) (hk : A 2 d = 2) : ∀ (c i : Nat), A 4 d = i + 2 * c → Ev l 2 yX5_isLog.cls yX5_isLog.name cX5_isLog 2 (some .boolean) 13 [some (.ref (18 + 2 * d)), some (.int (iI (i : Int)))] [] h (some (.int (b2i (lgW A d c i)))) h := by
  obtain ⟨el, hSh, ⟨hel, eel⟩, hw1, hw2⟩ := SC.op hS hd
  obtain ⟨s1, s2, s3, s4, s5⟩ := hA.1 (d : Int) (by omega) (by omega)
  have hr1 : hr A d = 0 ∨ hr A d = 1 := by unfold hr; split <;> omega
  intro c
  induction c with
  | zero =>
    intro i hn
    refine ev_iload_n (pc' := 14) dX5_isLog_13 rfl rfl ?_
    refine ev_iconst (pc' := 15) (iI (1)) dX5_isLog_14 rfl (by decide) ?_
    refine ev_iaddI (pc' := 16) dX5_isLog_15 rfl ?_
    refine ev_aload_n (pc' := 17) dX5_isLog_16 rfl rfl ?_
    refine ev_getfield (pc' := 20) fX5_220 dX5_isLog_17 rfl hSh rfl ?_
    refine ev_icmpI_ge (pc' := 23) (tgt := 51) dX5_isLog_20 (by decide) rfl (by omega) (by omega) (fun c20 => ?_) (fun c20 => ?_)
    · refine ev_iconst (pc' := 52) (iI (1)) dX5_isLog_51 rfl (by decide) ?_
      exact ev_zreI dX5_isLog_52 rfl
    · omega
  | succ c ih =>
    intro i hn
    have e1 := hA.2 (100 * (d : Int) + i) (by omega) (by omega)
    refine ev_iload_n (pc' := 14) dX5_isLog_13 rfl rfl ?_
    refine ev_iconst (pc' := 15) (iI (1)) dX5_isLog_14 rfl (by decide) ?_
    refine ev_iaddI (pc' := 16) dX5_isLog_15 rfl ?_
    refine ev_aload_n (pc' := 17) dX5_isLog_16 rfl rfl ?_
    refine ev_getfield (pc' := 20) fX5_220 dX5_isLog_17 rfl hSh rfl ?_
    refine ev_icmpI_ge (pc' := 23) (tgt := 51) dX5_isLog_20 (by decide) rfl (by omega) (by omega) (fun c20 => ?_) (fun c20 => ?_)
    · omega
    · refine ev_aload_n (pc' := 24) dX5_isLog_23 rfl rfl ?_
      refine ev_iload_n (pc' := 25) dX5_isLog_24 rfl rfl ?_
      refine ev_callV1 (pc' := 28) kX5_247 mX1_tellsPair dX5_isLog_25 rfl rfl (Nat.le_of_ble_eq_true rfl) (Nat.le_of_ble_eq_true rfl) (by decide) rfl hSh (e1_tellsPair hS hA hd hk (by omega)) ?_
      refine ev_ifd_eq (pc' := 31) (tgt := 45) dX5_isLog_28 (by decide) rfl (fun c28 => ?_) (fun c28 => ?_)
      · refine ev_iincI_1 (pc' := 48) dX5_isLog_45 rfl (by decide) rfl ?_
        refine ev_goto (tgt := 13) dX5_isLog_48 (by decide) ?_
        rw [show lgW A d (c + 1) i = lgW A d c ((i + 2 : Nat) : Int) by (conv => lhs; unfold lgW; rw [if_neg (by omega)]); rfl]
        exact ih (i + 2) (by omega)
      · refine ev_aload_n (pc' := 32) dX5_isLog_31 rfl rfl ?_
        refine ev_getfield (pc' := 35) fX5_226 dX5_isLog_32 rfl hSh rfl ?_
        refine ev_iload_n (pc' := 36) dX5_isLog_35 rfl rfl ?_
        refine ev_ialoadI (pc' := 37) dX5_isLog_36 rfl hel (by decide) (by omega) ?_
        rw [eel _ (by omega) (by omega)]
        refine ev_callS1 (pc' := 40) kX5_96 mX5_isMinute dX5_isLog_37 rfl rfl (Nat.le_of_ble_eq_true rfl) (Nat.le_of_ble_eq_true rfl) (by decide) (e5_isMinute (by omega)) ?_
        refine ev_ifd_ne (pc' := 43) (tgt := 45) dX5_isLog_40 (by decide) rfl (fun c40 => ?_) (fun c40 => ?_)
        · refine ev_iincI_1 (pc' := 48) dX5_isLog_45 rfl (by decide) rfl ?_
          refine ev_goto (tgt := 13) dX5_isLog_48 (by decide) ?_
          rw [show lgW A d (c + 1) i = lgW A d c ((i + 2 : Nat) : Int) by (conv => lhs; unfold lgW; rw [if_neg (by omega)]); rfl]
          exact ih (i + 2) (by omega)
        · refine ev_iconst (pc' := 44) (iI (0)) dX5_isLog_43 rfl (by decide) ?_
          exact ev_zreI dX5_isLog_44 (by unfold lgW; rw [if_pos (by omega)]; rfl)
theorem e5_isLog (hS : SC h A w) (hA : mSh A) (hd : d < 8) (hk : A 2 d = 2) : Ev l 2 yX5_isLog.cls yX5_isLog.name cX5_isLog 2 (some .boolean) 0 [some (.ref (18 + 2 * d)), none] [] h (some (.int (b2i (decide (A 4 d % 2 = 0 ∧ lgW A d (A 4 d / 2).toNat 0 = true))))) h := by
  obtain ⟨el, hSh, ⟨hel, eel⟩, hw1, hw2⟩ := SC.op hS hd
  obtain ⟨s1, s2, s3, s4, s5⟩ := hA.1 (d : Int) (by omega) (by omega)
  have hr1 : hr A d = 0 ∨ hr A d = 1 := by unfold hr; split <;> omega
  refine ev_aload_n (pc' := 1) dX5_isLog_0 rfl rfl ?_
  refine ev_getfield (pc' := 4) fX5_220 dX5_isLog_1 rfl hSh rfl ?_
  refine ev_iconst (pc' := 5) (iI (2)) dX5_isLog_4 rfl (by decide) ?_
  refine ev_iremI (pc' := 6) dX5_isLog_5 rfl (by omega) (by omega) (by omega) ?_
  rw [Int.tmod_eq_emod_of_nonneg (by omega)]
  refine ev_ifI_eq (pc' := 9) (tgt := 11) dX5_isLog_6 (by decide) rfl (by omega) (fun c6 => ?_) (fun c6 => ?_)
  · refine ev_iconst (pc' := 12) (iI (0)) dX5_isLog_11 rfl (by decide) ?_
    refine ev_istore_1 (pc' := 13) dX5_isLog_12 rfl (by decide) rfl ?_
    have K := e5_ilL (l := l) hS hA hd hk (A 4 d / 2).toNat 0 (by omega)
    rw [show lgW A d (A 4 d / 2).toNat ((0 : Nat) : Int) = decide (A 4 d % 2 = 0 ∧ lgW A d (A 4 d / 2).toNat 0 = true) from by
      cases q : lgW A d (A 4 d / 2).toNat 0
      · rw [decide_eq_false (by simp)]; first | done | exact q
      · rw [decide_eq_true ⟨by omega, rfl⟩]; first | done | exact q] at K
    exact K
  · refine ev_iconst (pc' := 10) (iI (0)) dX5_isLog_9 rfl (by decide) ?_
    exact ev_zreI dX5_isLog_10 (by exact b2i_n (by omega))
theorem e5_shiftOf {tt v : Int} (hk : 0 ≤ k ∧ k < A 0 1) (ht : F k.toNat = some t) (hI : mI0 (A 0)) (hJ : mIP (A 0)) (hM : mT (A 0) k) (hR : RC h (A 0) F) (rt : 0 ≤ tt ∧ tt ≤ 19999) (rv : -2147483648 ≤ v ∧ v < 2147483648) : Ex l 4 yX5_shiftOf.cls yX5_shiftOf.name cX5_shiftOf 6 (some .int) 0 [some (.ref 0), some (.ref t), some (.int (iI tt)), some (.int (iI v)), none, none] [] h (lkP h (A 0) F (some (.int (lgBit (sSeenAt (A 0) k tt - v))))) := by
  obtain ⟨⟨im, hX⟩, -⟩ := id hR
  have fr := FrS.rf h
  have es : dyF (A 0) k 1 tt = sSeenAt (A 0) k tt := by unfold dyF sDayAs sDay; rw [if_pos rfl]; rfl
  have eb := dyF_b (S := A 0) (k := k) (kd := 1) (m := tt) hJ hM (by omega)
  rw [es] at eb
  refine ex_of (fun _ _ => ev_aload_n (pc' := 1) dX5_shiftOf_0 rfl rfl) ?_
  refine ex_of (fun _ _ => ev_aload_n (pc' := 2) dX5_shiftOf_1 rfl rfl) ?_
  refine ex_of (fun _ _ => ev_iconst (pc' := 3) (iI (1)) dX5_shiftOf_2 rfl (by decide)) ?_
  refine ex_of (fun _ _ => ev_iload_n (pc' := 4) dX5_shiftOf_3 rfl rfl) ?_
  have hO := hX
  obtain ⟨w1, h1, E1, rfl, fr1, hR⟩ := e5_dayD (l := l) (S := A 0) (kd := 1) (tt := tt) hR hk ht hI hJ hM (by omega) (by omega)
  refine ex_of (fun _ _ => ev_callV3 (pc' := 7) kX5_194 mX5_dayTold dX5_shiftOf_4 rfl rfl (Nat.le_of_ble_eq_true rfl) (Nat.le_of_ble_eq_true rfl) (by decide) rfl hO E1) ?_
  have fr := fr.tr fr1
  rw [es]
  refine ex_of (fun _ _ => ev_i2lI (pc' := 8) dX5_shiftOf_7 rfl (by omega)) ?_
  refine ex_of (fun _ _ => ev_iload_n (pc' := 9) dX5_shiftOf_8 rfl rfl) ?_
  refine ex_of (fun _ _ => ev_i2lI (pc' := 10) dX5_shiftOf_9 rfl (by omega)) ?_
  refine ex_of (fun _ _ => ev_lsubI (pc' := 11) dX5_shiftOf_10 rfl) ?_
  refine ex_of (fun _ _ => ev_lstore_4 (pc' := 13) dX5_shiftOf_11 rfl (by decide) rfl) ?_
  refine ex_of (fun _ _ => ev_lload (pc' := 15) dX5_shiftOf_13 rfl rfl) ?_
  refine ex_of (fun _ _ => ev_ldc2I (pc' := 18) (-3) nX5_331 dX5_shiftOf_15 rfl (by decide)) ?_
  refine ex_lcmpI_lt (pc' := 22) (tgt := 31) dX5_shiftOf_18 dX5_shiftOf_19 (by decide) rfl (by omega) (by omega) (fun c18 => ?_) (fun c18 => ?_)
  · refine ex_of (fun _ _ => ev_iconst (pc' := 32) (iI (0)) dX5_shiftOf_31 rfl (by decide)) ?_
    exact ex_end (ev_iret dX5_shiftOf_32 rfl) (⟨by unfold lgBit; rw [if_neg (by omega)], fr, hR⟩)
  · refine ex_of (fun _ _ => ev_lload (pc' := 24) dX5_shiftOf_22 rfl rfl) ?_
    refine ex_of (fun _ _ => ev_ldc2I (pc' := 27) (3) nX5_333 dX5_shiftOf_24 rfl (by decide)) ?_
    refine ex_lcmpI_le (pc' := 31) (tgt := 33) dX5_shiftOf_27 dX5_shiftOf_28 (by decide) rfl (by omega) (by omega) (fun c27 => ?_) (fun c27 => ?_)
    · refine ex_of (fun _ _ => ev_iconst (pc' := 34) (iI (1)) dX5_shiftOf_33 rfl (by decide)) ?_
      refine ex_of (fun _ _ => ev_lload (pc' := 36) dX5_shiftOf_34 rfl rfl) ?_
      refine ex_of (fun _ _ => ev_ldc2I (pc' := 39) (3) nX5_333 dX5_shiftOf_36 rfl (by decide)) ?_
      refine ex_of (fun _ _ => ev_laddI (pc' := 40) dX5_shiftOf_39 rfl) ?_
      refine ex_of (fun _ _ => ev_l2iI (pc' := 41) dX5_shiftOf_40 rfl) ?_
      refine ex_of (fun _ _ => ev_ishl (pc' := 42) dX5_shiftOf_41 rfl) ?_
      exact ex_end (ev_iret dX5_shiftOf_42 rfl) (⟨by unfold lgBit; rw [if_pos (by omega)], fr, hR⟩)
    · refine ex_of (fun _ _ => ev_iconst (pc' := 32) (iI (0)) dX5_shiftOf_31 rfl (by decide)) ?_
      exact ex_end (ev_iret dX5_shiftOf_32 rfl) (⟨by unfold lgBit; rw [if_neg (by omega)], fr, hR⟩)
theorem e5_logL (hk : 0 ≤ k ∧ k < A 0 1) (ht : F k.toNat = some t) (hA : mSh A) (hd : d < 8) (hI : mI0 (A 0)) (hJ : mIP (A 0)) (hM : mT (A 0) k) (hk2 : A 2 d = 2) : ∀ (c i : Nat) (b : Int32) (h : ev_H), A 4 d = i + 2 * c → lgW A d c i = true → FrS h0 h → RC h (A 0) F → SC h A w → Ex l 5 yX5_log.cls yX5_log.name cX5_log 7 (some .int) 59 [some (.ref 0), some (.int (iI k)), some (.int (iI (d : Int))), some (.ref t), some (.ref (18 + 2 * d)), some (.int b), some (.int (iI (i : Int)))] [] h (lkP h0 (A 0) F (some (.int (lgM A k d c i b)))) := by
  obtain ⟨s1, s2, s3, s4, s5⟩ := hA.1 (d : Int) (by omega) (by omega)
  intro c
  induction c with
  | zero =>
    intro i b h hn hg fr hR hS
    obtain ⟨⟨im, hX⟩, -⟩ := id hR
    have hW := hR.w
    obtain ⟨el, hSh, ⟨hel, eel⟩, hw1, hw2⟩ := SC.op hS hd
    obtain ⟨ea, to, fro, en, ca, cb, -, hT, -⟩ := CT.op (hR.tr hk ht).1
    refine ex_of (fun _ _ => ev_iload (pc' := 61) dX5_log_59 rfl rfl) ?_
    refine ex_of (fun _ _ => ev_iconst (pc' := 62) (iI (1)) dX5_log_61 rfl (by decide)) ?_
    refine ex_of (fun _ _ => ev_iaddI (pc' := 63) dX5_log_62 rfl) ?_
    refine ex_of (fun _ _ => ev_aload (pc' := 65) dX5_log_63 rfl rfl) ?_
    refine ex_of (fun _ _ => ev_getfield (pc' := 68) fX5_220 dX5_log_65 rfl hSh rfl) ?_
    refine ex_icmpI_ge (pc' := 71) (tgt := 115) dX5_log_68 (by decide) rfl (by omega) (by omega) (fun c68 => ?_) (fun c68 => ?_)
    · refine ex_of (fun _ _ => ev_iload (pc' := 117) dX5_log_115 rfl rfl) ?_
      exact ex_end (ev_iret dX5_log_117 rfl) (⟨rfl, fr, hR⟩)
    · omega
  | succ c ih =>
    intro i b h hn hg fr hR hS
    obtain ⟨⟨im, hX⟩, -⟩ := id hR
    have hW := hR.w
    obtain ⟨el, hSh, ⟨hel, eel⟩, hw1, hw2⟩ := SC.op hS hd
    obtain ⟨ea, to, fro, en, ca, cb, -, hT, -⟩ := CT.op (hR.tr hk ht).1
    have e1 := hA.2 (100 * (d : Int) + i) (by omega) (by omega)
    have e2 := hA.2 (100 * (d : Int) + (i + 1)) (by omega) (by omega)
    unfold lgW at hg
    have em : lgM A k d (c + 1) i b = if A 5 (100 * (d : Int) + i) = lstS (A 3 d) ∨ A 5 (100 * (d : Int) + (i + 1)) = lstS (A 3 d) then lgM A k d c ((i + 2 : Nat) : Int) b else if 0 ≤ A 5 (100 * (d : Int) + i) ∧ A 5 (100 * (d : Int) + i) ≤ 19999 then lgM A k d c ((i + 2 : Nat) : Int) (b &&& lgBit (sSeenAt (A 0) k (A 5 (100 * (d : Int) + i)) - A 5 (100 * (d : Int) + (i + 1)))) else iI (-13) := by
      conv => lhs; unfold lgM
      rw [show 100 * (d : Int) + i + 1 = 100 * (d : Int) + (i + 1) by omega]
      rfl
    refine ex_of (fun _ _ => ev_iload (pc' := 61) dX5_log_59 rfl rfl) ?_
    refine ex_of (fun _ _ => ev_iconst (pc' := 62) (iI (1)) dX5_log_61 rfl (by decide)) ?_
    refine ex_of (fun _ _ => ev_iaddI (pc' := 63) dX5_log_62 rfl) ?_
    refine ex_of (fun _ _ => ev_aload (pc' := 65) dX5_log_63 rfl rfl) ?_
    refine ex_of (fun _ _ => ev_getfield (pc' := 68) fX5_220 dX5_log_65 rfl hSh rfl) ?_
    refine ex_icmpI_ge (pc' := 71) (tgt := 115) dX5_log_68 (by decide) rfl (by omega) (by omega) (fun c68 => ?_) (fun c68 => ?_)
    · omega
    · refine ex_of (fun _ _ => ev_aload (pc' := 73) dX5_log_71 rfl rfl) ?_
      refine ex_of (fun _ _ => ev_iload (pc' := 75) dX5_log_73 rfl rfl) ?_
      refine ex_of (fun _ _ => ev_callV1 (pc' := 78) kX5_247 mX1_tellsPair dX5_log_75 rfl rfl (Nat.le_of_ble_eq_true rfl) (Nat.le_of_ble_eq_true rfl) (by decide) rfl hSh (e1_tellsPair hS hA hd hk2 (by omega))) ?_
      refine ex_ifd_eq (pc' := 81) (tgt := 109) dX5_log_78 (by decide) rfl (fun c78 => ?_) (fun c78 => ?_)
      · have hgf : lgW A d c ((i + 2 : Nat) : Int) = true := by rw [if_neg (fun y => c78 y.1)] at hg; exact hg
        refine ex_of (fun _ _ => ev_iincI_6 (pc' := 112) dX5_log_109 rfl (by decide) rfl) ?_
        refine ex_of (fun _ _ => ev_goto (tgt := 59) dX5_log_112 (by decide)) ?_
        first
        | (rw [em, if_neg (by omega), if_pos hgt.1]; exact ih (i + 2) _ _ (by omega) hgt.2 fr hR hS)
        | (rw [em, if_pos (by omega)]; exact ih (i + 2) _ _ (by omega) hgf fr hR hS)
      · have hgt : (0 ≤ A 5 (100 * (d : Int) + i) ∧ A 5 (100 * (d : Int) + i) ≤ 19999) ∧ lgW A d c ((i + 2 : Nat) : Int) = true := by
          by_cases z : 0 ≤ A 5 (100 * (d : Int) + i) ∧ A 5 (100 * (d : Int) + i) ≤ 19999
          · rw [if_neg (fun y => y.2 z)] at hg; exact ⟨z, hg⟩
          · rw [if_pos ⟨c78, z⟩] at hg; cases hg
        refine ex_of (fun _ _ => ev_iload (pc' := 83) dX5_log_81 rfl rfl) ?_
        refine ex_of (fun _ _ => ev_aload_n (pc' := 84) dX5_log_83 rfl rfl) ?_
        refine ex_of (fun _ _ => ev_aload_n (pc' := 85) dX5_log_84 rfl rfl) ?_
        refine ex_of (fun _ _ => ev_aload (pc' := 87) dX5_log_85 rfl rfl) ?_
        refine ex_of (fun _ _ => ev_getfield (pc' := 90) fX5_226 dX5_log_87 rfl hSh rfl) ?_
        refine ex_of (fun _ _ => ev_iload (pc' := 92) dX5_log_90 rfl rfl) ?_
        refine ex_of (fun _ _ => ev_ialoadI (pc' := 93) dX5_log_92 rfl hel (by decide) (by omega)) ?_
        rw [eel _ (by omega) (by omega)]
        refine ex_of (fun _ _ => ev_aload (pc' := 95) dX5_log_93 rfl rfl) ?_
        refine ex_of (fun _ _ => ev_getfield (pc' := 98) fX5_226 dX5_log_95 rfl hSh rfl) ?_
        refine ex_of (fun _ _ => ev_iload (pc' := 100) dX5_log_98 rfl rfl) ?_
        refine ex_of (fun _ _ => ev_iconst (pc' := 101) (iI (1)) dX5_log_100 rfl (by decide)) ?_
        refine ex_of (fun _ _ => ev_iaddI (pc' := 102) dX5_log_101 rfl) ?_
        refine ex_of (fun _ _ => ev_ialoadI (pc' := 103) dX5_log_102 rfl hel (by decide) (by omega)) ?_
        rw [eel _ (by omega) (by omega)]
        have hO := hX
        obtain ⟨w1, h1, E1, rfl, fr1, hR⟩ := e5_shiftOf (l := l) (tt := A 5 (100 * (d : Int) + i)) (v := A 5 (100 * (d : Int) + (i + 1))) hk ht hI hJ hM hR (by omega) (by omega)
        refine ex_of (fun _ _ => ev_callV3 (pc' := 106) kX5_250 mX5_shiftOf dX5_log_103 rfl rfl (Nat.le_of_ble_eq_true rfl) (Nat.le_of_ble_eq_true rfl) (by decide) rfl hO E1) ?_
        have fr := fr.tr fr1
        obtain ⟨⟨im, hX⟩, -⟩ := id hR
        have hW := hR.w
        have hS := hS.fr fr1
        obtain ⟨el, hSh, ⟨hel, eel⟩, hw1, hw2⟩ := SC.op hS hd
        obtain ⟨ea, to, fro, en, ca, cb, -, hT, -⟩ := CT.op (hR.tr hk ht).1
        refine ex_of (fun _ _ => ev_iand (pc' := 107) dX5_log_106 rfl) ?_
        refine ex_of (fun _ _ => ev_istore_5 (pc' := 109) dX5_log_107 rfl (by decide) rfl) ?_
        refine ex_of (fun _ _ => ev_iincI_6 (pc' := 112) dX5_log_109 rfl (by decide) rfl) ?_
        refine ex_of (fun _ _ => ev_goto (tgt := 59) dX5_log_112 (by decide)) ?_
        first
        | (rw [em, if_neg (by omega), if_pos hgt.1]; exact ih (i + 2) _ _ (by omega) hgt.2 fr hR hS)
        | (rw [em, if_pos (by omega)]; exact ih (i + 2) _ _ (by omega) hgf fr hR hS)
theorem e5_log {k q : Int} (hR : RC h (A 0) F) (hS : SC h A w) (hA : mSh A) (hI : mI0 (A 0)) (hJ : mIP (A 0)) (hK : ∀ k, 0 ≤ k → k < A 0 1 → mT (A 0) k) (rk : -2147483648 ≤ k ∧ k < 2147483648) (rq : -2147483648 ≤ q ∧ q < 2147483648) : Ex l 5 yX5_log.cls yX5_log.name cX5_log 7 (some .int) 0 [some (.ref 0), some (.int (iI k)), some (.int (iI q)), none, none, none, none] [] h (lkP h (A 0) F (some (.int (sLog A k q)))) := by
  obtain ⟨⟨i1, i2⟩, ⟨i3, i4⟩, i5, i6⟩ := id hI
  obtain ⟨⟨im, hX⟩, -⟩ := id hR
  have hW := hR.w
  have fr := FrS.rf h
  by_cases hk : 0 ≤ k ∧ k < A 0 1
  · skip
    obtain ⟨t, ht, hC, h47⟩ := hR.2.2.2 k hk.1 hk.2
    have hM := hK k hk.1 hk.2
    obtain ⟨tk, -⟩ := id hM
    obtain ⟨ea, to, fro, en, ca, cb, ⟨be1, be2⟩, hT, -⟩ := CT.op hC
    by_cases hq : 0 ≤ q ∧ q < 8
    · skip
      obtain ⟨d, rfl⟩ : ∃ d : Nat, q = d := ⟨q.toNat, by omega⟩
      have hd : d < 8 := by omega
      obtain ⟨s1, s2, s3, s4, s5⟩ := hA.1 (d : Int) (by omega) (by omega)
      obtain ⟨el, hSh, ⟨hel, eel⟩, hw1, hw2⟩ := SC.op hS hd
      refine ex_of (fun _ _ => ev_aload_n (pc' := 1) dX5_log_0 rfl rfl) ?_
      refine ex_of (fun _ _ => ev_getfield (pc' := 4) fX5_12 dX5_log_1 rfl hX rfl) ?_
      refine ex_of (fun _ _ => ev_iload_n (pc' := 5) dX5_log_4 rfl rfl) ?_
      refine ex_of (fun _ _ => ev_callV1 (pc' := 8) kX5_137 mX4_travellerOf dX5_log_5 rfl rfl (Nat.le_of_ble_eq_true rfl) (Nat.le_of_ble_eq_true rfl) (by decide) rfl hW (e4_travellerOf hR.nw hI hk ht)) ?_
      refine ex_of (fun _ _ => ev_astore_3 (pc' := 9) dX5_log_8 rfl (by decide) rfl) ?_
      refine ex_of (fun _ _ => ev_aload_n (pc' := 10) dX5_log_9 rfl rfl) ?_
      refine ex_of (fun _ _ => ev_iload_n (pc' := 11) dX5_log_10 rfl rfl) ?_
      refine ex_of (fun _ _ => ev_callV1 (pc' := 14) kX5_44 mX5_shelfOf dX5_log_11 rfl rfl (Nat.le_of_ble_eq_true rfl) (Nat.le_of_ble_eq_true rfl) (by decide) rfl hX (e5_shelfOf hX hS hd)) ?_
      refine ex_of (fun _ _ => ev_astore_4 (pc' := 16) dX5_log_14 rfl (by decide) rfl) ?_
      refine ex_of (fun _ _ => ev_aload_n (pc' := 17) dX5_log_16 rfl rfl) ?_
      refine ex_of (fun _ _ => ev_ifnull (pc' := 20) dX5_log_17 rfl) ?_
      refine ex_of (fun _ _ => ev_aload (pc' := 22) dX5_log_20 rfl rfl) ?_
      refine ex_of (fun _ _ => ev_ifnonnull (tgt := 27) dX5_log_22 (by decide)) ?_
      refine ex_of (fun _ _ => ev_aload (pc' := 29) dX5_log_27 rfl rfl) ?_
      refine ex_of (fun _ _ => ev_getfield (pc' := 32) fX5_213 dX5_log_29 rfl hSh rfl) ?_
      refine ex_ifI_ne (pc' := 35) (tgt := 41) dX5_log_32 (by decide) rfl (by unfold hr; split <;> omega) (fun c32 => ?_) (fun c32 => ?_)
      · have hk2 : A 2 (d : Int) = 2 := by unfold hr at c32; split at c32 <;> omega
        refine ex_of (fun _ _ => ev_aload (pc' := 43) dX5_log_41 rfl rfl) ?_
        refine ex_of (fun _ _ => ev_callS1 (pc' := 46) kX5_243 mX5_isLog dX5_log_43 rfl rfl (Nat.le_of_ble_eq_true rfl) (Nat.le_of_ble_eq_true rfl) (by decide) (e5_isLog hS hA hd hk2)) ?_
        refine ex_ifd_ne (pc' := 49) (tgt := 52) dX5_log_46 (by decide) rfl (fun c46 => ?_) (fun c46 => ?_)
        · refine ex_of (fun _ _ => ev_bipush (pc' := 54) (iI (127)) dX5_log_52 rfl (by decide)) ?_
          refine ex_of (fun _ _ => ev_istore_5 (pc' := 56) dX5_log_54 rfl (by decide) rfl) ?_
          refine ex_of (fun _ _ => ev_iconst (pc' := 57) (iI (0)) dX5_log_56 rfl (by decide)) ?_
          refine ex_of (fun _ _ => ev_istore_6 (pc' := 59) dX5_log_57 rfl (by decide) rfl) ?_
          rw [show sLog A k d = lgM A k d (A 4 d / 2).toNat 0 (iI 127) by unfold sLog; rw [if_neg (by omega), if_neg (by unfold sRow; rw [if_neg (by omega), if_neg (by omega), if_neg (by omega)]; decide), if_neg (by omega)]]
          exact ev_deepx (by decide) (e5_logL (l := l) hk ht hA hd hI hJ hM hk2 (A 4 d / 2).toNat 0 _ _ (by omega) c46.2 fr hR hS)
        · refine ex_of (fun _ _ => ev_bipush (pc' := 51) (iI (-13)) dX5_log_49 rfl (by decide)) ?_
          exact ex_end (ev_iret dX5_log_51 rfl) (⟨by unfold sLog; rw [if_neg (by omega), if_neg (by unfold sRow; rw [if_neg (by omega), if_neg (by omega), if_neg (by omega)]; decide)]; by_cases z : A 4 (d : Int) % 2 = 1; rw [if_pos z]; (rw [if_neg z, lgM_w _ _ _ (by cases y : lgW A d (A 4 d / 2).toNat 0; rfl; exact absurd ⟨by omega, y⟩ c46)]), fr, hR⟩)
      · have hk2 : A 2 (d : Int) ≠ 2 := by unfold hr at c32; split at c32 <;> omega
        refine ex_of (fun _ _ => ev_aload (pc' := 37) dX5_log_35 rfl rfl) ?_
        refine ex_of (fun _ _ => ev_callS1 (pc' := 40) kX5_216 mX5_refusalOfRow dX5_log_37 rfl rfl (Nat.le_of_ble_eq_true rfl) (Nat.le_of_ble_eq_true rfl) (by decide) (e5_refusalOfRow hS hA hd)) ?_
        exact ex_end (ev_iret dX5_log_40 rfl) (⟨by unfold sLog; rw [if_neg (by omega), if_pos (by unfold sRow; (repeat' split) <;> omega)], fr, hR⟩)
    · skip
      refine ex_of (fun _ _ => ev_aload_n (pc' := 1) dX5_log_0 rfl rfl) ?_
      refine ex_of (fun _ _ => ev_getfield (pc' := 4) fX5_12 dX5_log_1 rfl hX rfl) ?_
      refine ex_of (fun _ _ => ev_iload_n (pc' := 5) dX5_log_4 rfl rfl) ?_
      refine ex_of (fun _ _ => ev_callV1 (pc' := 8) kX5_137 mX4_travellerOf dX5_log_5 rfl rfl (Nat.le_of_ble_eq_true rfl) (Nat.le_of_ble_eq_true rfl) (by decide) rfl hW (e4_travellerOf hR.nw hI hk ht)) ?_
      refine ex_of (fun _ _ => ev_astore_3 (pc' := 9) dX5_log_8 rfl (by decide) rfl) ?_
      refine ex_of (fun _ _ => ev_aload_n (pc' := 10) dX5_log_9 rfl rfl) ?_
      refine ex_of (fun _ _ => ev_iload_n (pc' := 11) dX5_log_10 rfl rfl) ?_
      refine ex_of (fun _ _ => ev_callV1 (pc' := 14) kX5_44 mX5_shelfOf dX5_log_11 rfl rfl (Nat.le_of_ble_eq_true rfl) (Nat.le_of_ble_eq_true rfl) (by decide) rfl hX (e5_shelfOf0 hq (by omega))) ?_
      refine ex_of (fun _ _ => ev_astore_4N (pc' := 16) dX5_log_14 rfl (by decide) rfl) ?_
      refine ex_of (fun _ _ => ev_aload_n (pc' := 17) dX5_log_16 rfl rfl) ?_
      refine ex_of (fun _ _ => ev_ifnull (pc' := 20) dX5_log_17 rfl) ?_
      refine ex_of (fun _ _ => ev_aloadN (pc' := 22) dX5_log_20 rfl rfl) ?_
      refine ex_of (fun _ _ => ev_ifnonnullN (pc' := 25) dX5_log_22 rfl) ?_
      refine ex_of (fun _ _ => ev_iconst (pc' := 26) (iI (-1)) dX5_log_25 rfl (by decide)) ?_
      exact ex_end (ev_iret dX5_log_26 rfl) (⟨by unfold sLog; by_cases z : 0 ≤ k ∧ k < A 0 1; (rw [if_neg (fun y => y z), if_pos (by unfold sRow; rw [if_pos (by omega)]; decide)]; unfold sRow; rw [if_pos (by omega)]); rw [if_pos z], fr, hR⟩)
  · by_cases hq : 0 ≤ q ∧ q < 8
    · skip
      obtain ⟨d, rfl⟩ : ∃ d : Nat, q = d := ⟨q.toNat, by omega⟩
      have hd : d < 8 := by omega
      obtain ⟨s1, s2, s3, s4, s5⟩ := hA.1 (d : Int) (by omega) (by omega)
      obtain ⟨el, hSh, ⟨hel, eel⟩, hw1, hw2⟩ := SC.op hS hd
      refine ex_of (fun _ _ => ev_aload_n (pc' := 1) dX5_log_0 rfl rfl) ?_
      refine ex_of (fun _ _ => ev_getfield (pc' := 4) fX5_12 dX5_log_1 rfl hX rfl) ?_
      refine ex_of (fun _ _ => ev_iload_n (pc' := 5) dX5_log_4 rfl rfl) ?_
      refine ex_of (fun _ _ => ev_callV1 (pc' := 8) kX5_137 mX4_travellerOf dX5_log_5 rfl rfl (Nat.le_of_ble_eq_true rfl) (Nat.le_of_ble_eq_true rfl) (by decide) rfl hW (e4_travellerOf0 hR.nw hI (by omega) hk)) ?_
      refine ex_of (fun _ _ => ev_astore_3N (pc' := 9) dX5_log_8 rfl (by decide) rfl) ?_
      refine ex_of (fun _ _ => ev_aload_n (pc' := 10) dX5_log_9 rfl rfl) ?_
      refine ex_of (fun _ _ => ev_iload_n (pc' := 11) dX5_log_10 rfl rfl) ?_
      refine ex_of (fun _ _ => ev_callV1 (pc' := 14) kX5_44 mX5_shelfOf dX5_log_11 rfl rfl (Nat.le_of_ble_eq_true rfl) (Nat.le_of_ble_eq_true rfl) (by decide) rfl hX (e5_shelfOf hX hS hd)) ?_
      refine ex_of (fun _ _ => ev_astore_4 (pc' := 16) dX5_log_14 rfl (by decide) rfl) ?_
      refine ex_of (fun _ _ => ev_aload_nN (pc' := 17) dX5_log_16 rfl rfl) ?_
      refine ex_of (fun _ _ => ev_ifnullN (tgt := 25) dX5_log_17 (by decide)) ?_
      refine ex_of (fun _ _ => ev_iconst (pc' := 26) (iI (-1)) dX5_log_25 rfl (by decide)) ?_
      exact ex_end (ev_iret dX5_log_26 rfl) (⟨by unfold sLog; by_cases z : 0 ≤ k ∧ k < A 0 1; (rw [if_neg (fun y => y z), if_pos (by unfold sRow; rw [if_pos (by omega)]; decide)]; unfold sRow; rw [if_pos (by omega)]); rw [if_pos z], fr, hR⟩)
    · skip
      refine ex_of (fun _ _ => ev_aload_n (pc' := 1) dX5_log_0 rfl rfl) ?_
      refine ex_of (fun _ _ => ev_getfield (pc' := 4) fX5_12 dX5_log_1 rfl hX rfl) ?_
      refine ex_of (fun _ _ => ev_iload_n (pc' := 5) dX5_log_4 rfl rfl) ?_
      refine ex_of (fun _ _ => ev_callV1 (pc' := 8) kX5_137 mX4_travellerOf dX5_log_5 rfl rfl (Nat.le_of_ble_eq_true rfl) (Nat.le_of_ble_eq_true rfl) (by decide) rfl hW (e4_travellerOf0 hR.nw hI (by omega) hk)) ?_
      refine ex_of (fun _ _ => ev_astore_3N (pc' := 9) dX5_log_8 rfl (by decide) rfl) ?_
      refine ex_of (fun _ _ => ev_aload_n (pc' := 10) dX5_log_9 rfl rfl) ?_
      refine ex_of (fun _ _ => ev_iload_n (pc' := 11) dX5_log_10 rfl rfl) ?_
      refine ex_of (fun _ _ => ev_callV1 (pc' := 14) kX5_44 mX5_shelfOf dX5_log_11 rfl rfl (Nat.le_of_ble_eq_true rfl) (Nat.le_of_ble_eq_true rfl) (by decide) rfl hX (e5_shelfOf0 hq (by omega))) ?_
      refine ex_of (fun _ _ => ev_astore_4N (pc' := 16) dX5_log_14 rfl (by decide) rfl) ?_
      refine ex_of (fun _ _ => ev_aload_nN (pc' := 17) dX5_log_16 rfl rfl) ?_
      refine ex_of (fun _ _ => ev_ifnullN (tgt := 25) dX5_log_17 (by decide)) ?_
      refine ex_of (fun _ _ => ev_iconst (pc' := 26) (iI (-1)) dX5_log_25 rfl (by decide)) ?_
      exact ex_end (ev_iret dX5_log_26 rfl) (⟨by unfold sLog; by_cases z : 0 ≤ k ∧ k < A 0 1; (rw [if_neg (fun y => y z), if_pos (by unfold sRow; rw [if_pos (by omega)]; decide)]; unfold sRow; rw [if_pos (by omega)]); rw [if_pos z], fr, hR⟩)
theorem CT.ob {h : ev_H} {t : Nat} {U : Int → Int} {nu : Int} (x : CT h t U nu) : ∃ ea, h[t]? = some (cTr nu (U 0) (U 1) (U 2) (U 3) ea (U 28) (t + 1) (t + 2) (t + 3) (t + 4) (t + 5)) := by
  obtain ⟨ea, -, x1, -⟩ := x
  exact ⟨ea, x1⟩
theorem e3_weightBy {nu ki ho sy le ea ch q : Int} {r1 r2 r3 r4 r5 : Nat} (hT : h[t]? = some (cTr nu ki ho sy le ea ch r1 r2 r3 r4 r5)) (rq : 0 ≤ q ∧ q ≤ 7) : Ev l 0 yX3_weightBy.cls yX3_weightBy.name cX3_weightBy 3 (some .int) 0 [some (.ref t), some (.int (iI q)), none] [] h (some (.int (iI (wgt q le ho sy ch)))) h := by
  refine ev_bipush (pc' := 2) (iI (10)) dX3_weightBy_0 rfl (by decide) ?_
  refine ev_aload_n (pc' := 3) dX3_weightBy_2 rfl rfl ?_
  refine ev_getfield (pc' := 6) fX3_24 dX3_weightBy_3 rfl hT rfl ?_
  refine ev_iaddI (pc' := 7) dX3_weightBy_6 rfl ?_
  refine ev_istore_2 (pc' := 8) dX3_weightBy_7 rfl (by decide) rfl ?_
  refine ev_iload_n (pc' := 9) dX3_weightBy_8 rfl rfl ?_
  by_cases c9_1 : q = 1
  · refine ev_tableInI dX3_weightBy_9 c9_1 (by decide) (by decide) (by decide) (off := 43) (by decide) (tgt := 52) (by decide) ?_
    refine ev_iload_n (pc' := 53) dX3_weightBy_52 rfl rfl ?_
    refine ev_iconst (pc' := 54) (iI (1)) dX3_weightBy_53 rfl (by decide) ?_
    refine ev_iaddI (pc' := 55) dX3_weightBy_54 rfl ?_
    exact ev_ireI dX3_weightBy_55 (by unfold wgt; (repeat (first | rw [if_pos (by omega)] | rw [if_neg (by omega)])))
  · skip
    by_cases c9_2 : q = 2
    · refine ev_tableInI dX3_weightBy_9 c9_2 (by decide) (by decide) (by decide) (off := 47) (by decide) (tgt := 56) (by decide) ?_
      refine ev_iconst (pc' := 57) (iI (2)) dX3_weightBy_56 rfl (by decide) ?_
      refine ev_iload_n (pc' := 58) dX3_weightBy_57 rfl rfl ?_
      refine ev_imulI (pc' := 59) dX3_weightBy_58 rfl ?_
      exact ev_ireI dX3_weightBy_59 (by unfold wgt; (repeat (first | rw [if_pos (by omega)] | rw [if_neg (by omega)])))
    · skip
      by_cases c9_3 : q = 3
      · refine ev_tableInI dX3_weightBy_9 c9_3 (by decide) (by decide) (by decide) (off := 51) (by decide) (tgt := 60) (by decide) ?_
        refine ev_iload_n (pc' := 61) dX3_weightBy_60 rfl rfl ?_
        refine ev_aload_n (pc' := 62) dX3_weightBy_61 rfl rfl ?_
        refine ev_getfield (pc' := 65) fX3_18 dX3_weightBy_62 rfl hT rfl ?_
        refine ev_iaddI (pc' := 66) dX3_weightBy_65 rfl ?_
        exact ev_ireI dX3_weightBy_66 (by unfold wgt; (repeat (first | rw [if_pos (by omega)] | rw [if_neg (by omega)])))
      · skip
        by_cases c9_4 : q = 4
        · refine ev_tableInI dX3_weightBy_9 c9_4 (by decide) (by decide) (by decide) (off := 58) (by decide) (tgt := 67) (by decide) ?_
          refine ev_iload_n (pc' := 68) dX3_weightBy_67 rfl rfl ?_
          refine ev_iconst (pc' := 69) (iI (1)) dX3_weightBy_68 rfl (by decide) ?_
          refine ev_iaddI (pc' := 70) dX3_weightBy_69 rfl ?_
          refine ev_aload_n (pc' := 71) dX3_weightBy_70 rfl rfl ?_
          refine ev_getfield (pc' := 74) fX3_40 dX3_weightBy_71 rfl hT rfl ?_
          refine ev_iaddI (pc' := 75) dX3_weightBy_74 rfl ?_
          exact ev_ireI dX3_weightBy_75 (by unfold wgt; (repeat (first | rw [if_pos (by omega)] | rw [if_neg (by omega)])))
        · skip
          by_cases c9_5 : q = 5
          · refine ev_tableInI dX3_weightBy_9 c9_5 (by decide) (by decide) (by decide) (off := 67) (by decide) (tgt := 76) (by decide) ?_
            refine ev_iconst (pc' := 77) (iI (2)) dX3_weightBy_76 rfl (by decide) ?_
            refine ev_iload_n (pc' := 78) dX3_weightBy_77 rfl rfl ?_
            refine ev_iconst (pc' := 79) (iI (1)) dX3_weightBy_78 rfl (by decide) ?_
            refine ev_iaddI (pc' := 80) dX3_weightBy_79 rfl ?_
            refine ev_imulI (pc' := 81) dX3_weightBy_80 rfl ?_
            exact ev_ireI dX3_weightBy_81 (by unfold wgt; (repeat (first | rw [if_pos (by omega)] | rw [if_neg (by omega)])))
          · skip
            by_cases c9_6 : q = 6
            · refine ev_tableInI dX3_weightBy_9 c9_6 (by decide) (by decide) (by decide) (off := 73) (by decide) (tgt := 82) (by decide) ?_
              refine ev_iconst (pc' := 83) (iI (2)) dX3_weightBy_82 rfl (by decide) ?_
              refine ev_iload_n (pc' := 84) dX3_weightBy_83 rfl rfl ?_
              refine ev_imulI (pc' := 85) dX3_weightBy_84 rfl ?_
              refine ev_aload_n (pc' := 86) dX3_weightBy_85 rfl rfl ?_
              refine ev_getfield (pc' := 89) fX3_21 dX3_weightBy_86 rfl hT rfl ?_
              refine ev_iaddI (pc' := 90) dX3_weightBy_89 rfl ?_
              exact ev_ireI dX3_weightBy_90 (by unfold wgt; (repeat (first | rw [if_pos (by omega)] | rw [if_neg (by omega)])))
            · skip
              by_cases c9_7 : q = 7
              · refine ev_tableInI dX3_weightBy_9 c9_7 (by decide) (by decide) (by decide) (off := 82) (by decide) (tgt := 91) (by decide) ?_
                refine ev_iload_n (pc' := 92) dX3_weightBy_91 rfl rfl ?_
                refine ev_aload_n (pc' := 93) dX3_weightBy_92 rfl rfl ?_
                refine ev_getfield (pc' := 96) fX3_18 dX3_weightBy_93 rfl hT rfl ?_
                refine ev_iaddI (pc' := 97) dX3_weightBy_96 rfl ?_
                refine ev_bipush (pc' := 99) (iI (100)) dX3_weightBy_97 rfl (by decide) ?_
                refine ev_iaddI (pc' := 100) dX3_weightBy_99 rfl ?_
                exact ev_ireI dX3_weightBy_100 (by unfold wgt; (repeat (first | rw [if_pos (by omega)] | rw [if_neg (by omega)])))
              · skip
                refine ev_tableOutI dX3_weightBy_9 (by omega) (by omega) (tgt := 101) (by decide) ?_
                refine ev_iload_n (pc' := 102) dX3_weightBy_101 rfl rfl ?_
                exact ev_ireI dX3_weightBy_102 (by unfold wgt; (repeat (first | rw [if_pos (by omega)] | rw [if_neg (by omega)])))
theorem e5_weight {q im : Int} (hX : h[0]? = some (cWd (.ref 1) (.ref 8) im (.ref 15) (.ref 16) (.ref 17))) (hS : SC h A w) (hA : mSh A) (hH : mHd A) (hwt : ∀ d : Nat, d < 8 → A 2 d = 1 → ∃ t nu, w d = some t ∧ ∃ ea r1 r2 r3 r4 r5, h[t]? = some (cTr nu (hldS A d 0) (hldS A d 1) (hldS A d 2) (hldS A d 3) ea (hldS A d 28) r1 r2 r3 r4 r5)) (rq : -2147483648 ≤ q ∧ q < 2147483648) : Ev l 2 yX5_weight.cls yX5_weight.name cX5_weight 3 (some .int) 0 [some (.ref 0), some (.int (iI q)), none] [] h (some (.int (iI (sWeight A q)))) h := by
  by_cases hq : 0 ≤ q ∧ q < 8
  · obtain ⟨d, rfl⟩ : ∃ d : Nat, q = d := ⟨q.toNat, by omega⟩
    have hd : d < 8 := by omega
    obtain ⟨s1, s2, s3, s4, s5⟩ := hA.1 (d : Int) (by omega) (by omega)
    obtain ⟨el, hSh, ⟨hel, eel⟩, hw1, hw2⟩ := SC.op hS hd
    by_cases c1 : A 2 (d : Int) = 1
    · obtain ⟨t, nu, ht, ea, r1, r2, r3, r4, r5, hT⟩ := hwt d hd c1
      obtain ⟨u0, u1, u2, u3, u4, u5⟩ := hH (d : Int) (by omega) (by omega) c1
      rw [ht] at hSh
      refine ev_aload_n (pc' := 1) dX5_weight_0 rfl rfl ?_
      refine ev_iload_n (pc' := 2) dX5_weight_1 rfl rfl ?_
      refine ev_callV1 (pc' := 5) kX5_44 mX5_shelfOf dX5_weight_2 rfl rfl (Nat.le_of_ble_eq_true rfl) (Nat.le_of_ble_eq_true rfl) (by decide) rfl hX (e5_shelfOf hX hS hd) ?_
      refine ev_astore_2 (pc' := 6) dX5_weight_5 rfl (by decide) rfl ?_
      refine ev_aload_n (pc' := 7) dX5_weight_6 rfl rfl ?_
      refine ev_ifnonnull (tgt := 12) dX5_weight_7 (by decide) ?_
      refine ev_aload_n (pc' := 13) dX5_weight_12 rfl rfl ?_
      refine ev_getfield (pc' := 16) fX5_316 dX5_weight_13 rfl hSh rfl ?_
      refine ev_ifnonnull (tgt := 24) dX5_weight_16 (by decide) ?_
      refine ev_aload_n (pc' := 25) dX5_weight_24 rfl rfl ?_
      refine ev_getfield (pc' := 28) fX5_316 dX5_weight_25 rfl hSh rfl ?_
      refine ev_aload_n (pc' := 29) dX5_weight_28 rfl rfl ?_
      refine ev_getfield (pc' := 32) fX5_316 dX5_weight_29 rfl hSh rfl ?_
      refine ev_getfield (pc' := 35) fX5_124 dX5_weight_32 rfl hT rfl ?_
      refine ev_callV1 (pc' := 38) kX5_323 mX3_weightBy dX5_weight_35 rfl rfl (Nat.le_of_ble_eq_true rfl) (Nat.le_of_ble_eq_true rfl) (by decide) rfl hT (e3_weightBy hT (by omega)) ?_
      exact ev_ireI dX5_weight_38 (by unfold sWeight; rw [if_neg (by unfold sShf; rw [if_neg (by omega), if_neg (by omega), if_pos c1]; decide)])
    · rw [hw1 c1] at hSh
      refine ev_aload_n (pc' := 1) dX5_weight_0 rfl rfl ?_
      refine ev_iload_n (pc' := 2) dX5_weight_1 rfl rfl ?_
      refine ev_callV1 (pc' := 5) kX5_44 mX5_shelfOf dX5_weight_2 rfl rfl (Nat.le_of_ble_eq_true rfl) (Nat.le_of_ble_eq_true rfl) (by decide) rfl hX (e5_shelfOf hX hS hd) ?_
      refine ev_astore_2 (pc' := 6) dX5_weight_5 rfl (by decide) rfl ?_
      refine ev_aload_n (pc' := 7) dX5_weight_6 rfl rfl ?_
      refine ev_ifnonnull (tgt := 12) dX5_weight_7 (by decide) ?_
      refine ev_aload_n (pc' := 13) dX5_weight_12 rfl rfl ?_
      refine ev_getfield (pc' := 16) fX5_316 dX5_weight_13 rfl hSh rfl ?_
      refine ev_ifnonnullN (pc' := 19) dX5_weight_16 rfl ?_
      refine ev_aload_n (pc' := 20) dX5_weight_19 rfl rfl ?_
      refine ev_callS1 (pc' := 23) kX5_320 mX5_refusalOfTraveller dX5_weight_20 rfl rfl (Nat.le_of_ble_eq_true rfl) (Nat.le_of_ble_eq_true rfl) (by decide) (e5_refusalOfTraveller hS hA hd c1) ?_
      exact ev_ireI dX5_weight_23 (by unfold sWeight; rw [if_pos (by unfold sShf; (repeat' split) <;> omega)])
  · skip
    refine ev_aload_n (pc' := 1) dX5_weight_0 rfl rfl ?_
    refine ev_iload_n (pc' := 2) dX5_weight_1 rfl rfl ?_
    refine ev_callV1 (pc' := 5) kX5_44 mX5_shelfOf dX5_weight_2 rfl rfl (Nat.le_of_ble_eq_true rfl) (Nat.le_of_ble_eq_true rfl) (by decide) rfl hX (e5_shelfOf0 hq (by omega)) ?_
    refine ev_astore_2N (pc' := 6) dX5_weight_5 rfl (by decide) rfl ?_
    refine ev_aload_nN (pc' := 7) dX5_weight_6 rfl rfl ?_
    refine ev_ifnonnullN (pc' := 10) dX5_weight_7 rfl ?_
    refine ev_iconst (pc' := 11) (iI (-1)) dX5_weight_10 rfl (by decide) ?_
    exact ev_ireI dX5_weight_11 (by unfold sWeight; rw [if_pos (by unfold sShf; rw [if_pos (by omega)]; decide)]; unfold sShf; rw [if_pos (by omega)])
end CM1
