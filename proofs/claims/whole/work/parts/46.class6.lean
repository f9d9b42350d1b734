section CH
variable {l : Launch} {h h0 : ev_H} {S : Int → Int} {F : Nat → Option Nat} {t : Nat} {k : Int}
theorem e5_differ {a b t : Int} (hR : RC h S F) (hI : mI0 S) (hJ : mIP S) (hK : ∀ k, 0 ≤ k → k < S 1 → mT S k) (ra : -2147483648 ≤ a ∧ a < 2147483648) (rb : -2147483648 ≤ b ∧ b < 2147483648) (rt : -2147483648 ≤ t ∧ t < 2147483648) : Ex l 4 yX5_differ.cls yX5_differ.name cX5_differ 6 (some .int) 0 [some (.ref 0), some (.int (iI a)), some (.int (iI b)), some (.int (iI t)), none, none] [] h (lkP h S F (some (.int (iI (sDiffer S a b t))))) := by
  obtain ⟨⟨i1, i2⟩, ⟨i3, i4⟩, i5, i6⟩ := id hI
  obtain ⟨⟨im, hX⟩, -⟩ := id hR
  have hW := hR.w
  have fr := FrS.rf h
  by_cases hka : 0 ≤ a ∧ a < S 1
  · skip
    obtain ⟨wa, hta, hCa, h47a⟩ := hR.2.2.2 a hka.1 hka.2
    have hMa := hK a hka.1 hka.2
    obtain ⟨tka, -⟩ := id hMa
    obtain ⟨eaa, toa, froa, ena, caa, cba, -, hTa, -⟩ := CT.op hCa
    by_cases hkb : 0 ≤ b ∧ b < S 1
    · skip
      obtain ⟨wb, htb, hCb, h47b⟩ := hR.2.2.2 b hkb.1 hkb.2
      have hMb := hK b hkb.1 hkb.2
      obtain ⟨tkb, -⟩ := id hMb
      obtain ⟨eab, tob, frob, enb, cab, cbb, -, hTb, -⟩ := CT.op hCb
      refine ex_of (fun _ _ => ev_aload_n (pc' := 1) dX5_differ_0 rfl rfl) ?_
      refine ex_of (fun _ _ => ev_getfield (pc' := 4) fX5_12 dX5_differ_1 rfl hX rfl) ?_
      refine ex_of (fun _ _ => ev_iload_n (pc' := 5) dX5_differ_4 rfl rfl) ?_
      refine ex_of (fun _ _ => ev_callV1 (pc' := 8) kX5_137 mX4_travellerOf dX5_differ_5 rfl rfl (Nat.le_of_ble_eq_true rfl) (Nat.le_of_ble_eq_true rfl) (by decide) rfl hW (e4_travellerOf hR.nw hI hka hta)) ?_
      refine ex_of (fun _ _ => ev_astore_4 (pc' := 10) dX5_differ_8 rfl (by decide) rfl) ?_
      refine ex_of (fun _ _ => ev_aload_n (pc' := 11) dX5_differ_10 rfl rfl) ?_
      refine ex_of (fun _ _ => ev_getfield (pc' := 14) fX5_12 dX5_differ_11 rfl hX rfl) ?_
      refine ex_of (fun _ _ => ev_iload_n (pc' := 15) dX5_differ_14 rfl rfl) ?_
      refine ex_of (fun _ _ => ev_callV1 (pc' := 18) kX5_137 mX4_travellerOf dX5_differ_15 rfl rfl (Nat.le_of_ble_eq_true rfl) (Nat.le_of_ble_eq_true rfl) (by decide) rfl hW (e4_travellerOf hR.nw hI hkb htb)) ?_
      refine ex_of (fun _ _ => ev_astore_5 (pc' := 20) dX5_differ_18 rfl (by decide) rfl) ?_
      refine ex_of (fun _ _ => ev_aload (pc' := 22) dX5_differ_20 rfl rfl) ?_
      refine ex_of (fun _ _ => ev_ifnull (pc' := 25) dX5_differ_22 rfl) ?_
      refine ex_of (fun _ _ => ev_aload (pc' := 27) dX5_differ_25 rfl rfl) ?_
      refine ex_of (fun _ _ => ev_ifnull (pc' := 30) dX5_differ_27 rfl) ?_
      refine ex_of (fun _ _ => ev_iload_n (pc' := 31) dX5_differ_30 rfl rfl) ?_
      refine ex_of (fun _ _ => ev_callS1 (pc' := 34) kX5_96 mX5_isMinute dX5_differ_31 rfl rfl (Nat.le_of_ble_eq_true rfl) (Nat.le_of_ble_eq_true rfl) (by decide) (e5_isMinute (by omega))) ?_
      refine ex_ifd_ne (pc' := 37) (tgt := 40) dX5_differ_34 (by decide) rfl (fun c34 => ?_) (fun c34 => ?_)
      · refine ex_of (fun _ _ => ev_aload_n (pc' := 41) dX5_differ_40 rfl rfl) ?_
        refine ex_of (fun _ _ => ev_aload (pc' := 43) dX5_differ_41 rfl rfl) ?_
        refine ex_of (fun _ _ => ev_aload (pc' := 45) dX5_differ_43 rfl rfl) ?_
        refine ex_of (fun _ _ => ev_getfield (pc' := 48) fX5_124 dX5_differ_45 rfl hTa rfl) ?_
        refine ex_of (fun _ _ => ev_iload_n (pc' := 49) dX5_differ_48 rfl rfl) ?_
        have hO := hX
        obtain ⟨w1, h1, E1, rfl, fr1, hR⟩ := e5_dayD (l := l) (k := a) (kd := (S (143 + 45 * a + 0))) (tt := t) hR hka hta hI hJ hMa (by omega) (by omega)
        refine ex_of (fun _ _ => ev_callV3 (pc' := 52) kX5_194 mX5_dayTold dX5_differ_49 rfl rfl (Nat.le_of_ble_eq_true rfl) (Nat.le_of_ble_eq_true rfl) (by decide) rfl hO E1) ?_
        have fr := fr.tr fr1
        obtain ⟨⟨im, hX⟩, -⟩ := id hR
        have hW := hR.w
        obtain ⟨eaa, toa, froa, ena, caa, cba, -, hTa, -⟩ := CT.op (hR.tr hka hta).1
        obtain ⟨eab, tob, frob, enb, cab, cbb, -, hTb, -⟩ := CT.op (hR.tr hkb htb).1
        refine ex_of (fun _ _ => ev_aload_n (pc' := 53) dX5_differ_52 rfl rfl) ?_
        refine ex_of (fun _ _ => ev_aload (pc' := 55) dX5_differ_53 rfl rfl) ?_
        refine ex_of (fun _ _ => ev_aload (pc' := 57) dX5_differ_55 rfl rfl) ?_
        refine ex_of (fun _ _ => ev_getfield (pc' := 60) fX5_124 dX5_differ_57 rfl hTb rfl) ?_
        refine ex_of (fun _ _ => ev_iload_n (pc' := 61) dX5_differ_60 rfl rfl) ?_
        have hO := hX
        obtain ⟨w1, h1, E1, rfl, fr2, hR⟩ := e5_dayD (l := l) (k := b) (kd := (S (143 + 45 * b + 0))) (tt := t) hR hkb htb hI hJ hMb (by omega) (by omega)
        refine ex_of (fun _ _ => ev_callV3 (pc' := 64) kX5_194 mX5_dayTold dX5_differ_61 rfl rfl (Nat.le_of_ble_eq_true rfl) (Nat.le_of_ble_eq_true rfl) (by decide) rfl hO E1) ?_
        have fr := fr.tr fr2
        obtain ⟨⟨im, hX⟩, -⟩ := id hR
        have hW := hR.w
        obtain ⟨eaa, toa, froa, ena, caa, cba, -, hTa, -⟩ := CT.op (hR.tr hka hta).1
        obtain ⟨eab, tob, frob, enb, cab, cbb, -, hTb, -⟩ := CT.op (hR.tr hkb htb).1
        refine ex_of (fun _ _ => ev_isubI (pc' := 65) dX5_differ_64 rfl) ?_
        exact ex_end (ev_iret dX5_differ_65 rfl) (by unfold sDiffer; first | (rw [if_pos (by omega)]; exact ⟨rfl, fr, hR⟩) | (rw [if_neg (by omega)]; exact ⟨rfl, fr, hR⟩))
      · refine ex_of (fun _ _ => ev_ldcI (pc' := 39) (-1000000001) nX5_72 dX5_differ_37 rfl (by decide)) ?_
        exact ex_end (ev_iret dX5_differ_39 rfl) (by unfold sDiffer; first | (rw [if_pos (by omega)]; exact ⟨rfl, fr, hR⟩) | (rw [if_neg (by omega)]; exact ⟨rfl, fr, hR⟩))
    · skip
      refine ex_of (fun _ _ => ev_aload_n (pc' := 1) dX5_differ_0 rfl rfl) ?_
      refine ex_of (fun _ _ => ev_getfield (pc' := 4) fX5_12 dX5_differ_1 rfl hX rfl) ?_
      refine ex_of (fun _ _ => ev_iload_n (pc' := 5) dX5_differ_4 rfl rfl) ?_
      refine ex_of (fun _ _ => ev_callV1 (pc' := 8) kX5_137 mX4_travellerOf dX5_differ_5 rfl rfl (Nat.le_of_ble_eq_true rfl) (Nat.le_of_ble_eq_true rfl) (by decide) rfl hW (e4_travellerOf hR.nw hI hka hta)) ?_
      refine ex_of (fun _ _ => ev_astore_4 (pc' := 10) dX5_differ_8 rfl (by decide) rfl) ?_
      refine ex_of (fun _ _ => ev_aload_n (pc' := 11) dX5_differ_10 rfl rfl) ?_
      refine ex_of (fun _ _ => ev_getfield (pc' := 14) fX5_12 dX5_differ_11 rfl hX rfl) ?_
      refine ex_of (fun _ _ => ev_iload_n (pc' := 15) dX5_differ_14 rfl rfl) ?_
      refine ex_of (fun _ _ => ev_callV1 (pc' := 18) kX5_137 mX4_travellerOf dX5_differ_15 rfl rfl (Nat.le_of_ble_eq_true rfl) (Nat.le_of_ble_eq_true rfl) (by decide) rfl hW (e4_travellerOf0 hR.nw hI (by omega) hkb)) ?_
      refine ex_of (fun _ _ => ev_astore_5N (pc' := 20) dX5_differ_18 rfl (by decide) rfl) ?_
      refine ex_of (fun _ _ => ev_aload (pc' := 22) dX5_differ_20 rfl rfl) ?_
      refine ex_of (fun _ _ => ev_ifnull (pc' := 25) dX5_differ_22 rfl) ?_
      refine ex_of (fun _ _ => ev_aloadN (pc' := 27) dX5_differ_25 rfl rfl) ?_
      refine ex_of (fun _ _ => ev_ifnullN (tgt := 37) dX5_differ_27 (by decide)) ?_
      refine ex_of (fun _ _ => ev_ldcI (pc' := 39) (-1000000001) nX5_72 dX5_differ_37 rfl (by decide)) ?_
      exact ex_end (ev_iret dX5_differ_39 rfl) (⟨by unfold sDiffer; rw [if_neg (by omega)], fr, hR⟩)
  · by_cases hkb : 0 ≤ b ∧ b < S 1
    · skip
      obtain ⟨wb, htb, hCb, h47b⟩ := hR.2.2.2 b hkb.1 hkb.2
      have hMb := hK b hkb.1 hkb.2
      obtain ⟨tkb, -⟩ := id hMb
      obtain ⟨eab, tob, frob, enb, cab, cbb, -, hTb, -⟩ := CT.op hCb
      refine ex_of (fun _ _ => ev_aload_n (pc' := 1) dX5_differ_0 rfl rfl) ?_
      refine ex_of (fun _ _ => ev_getfield (pc' := 4) fX5_12 dX5_differ_1 rfl hX rfl) ?_
      refine ex_of (fun _ _ => ev_iload_n (pc' := 5) dX5_differ_4 rfl rfl) ?_
      refine ex_of (fun _ _ => ev_callV1 (pc' := 8) kX5_137 mX4_travellerOf dX5_differ_5 rfl rfl (Nat.le_of_ble_eq_true rfl) (Nat.le_of_ble_eq_true rfl) (by decide) rfl hW (e4_travellerOf0 hR.nw hI (by omega) hka)) ?_
      refine ex_of (fun _ _ => ev_astore_4N (pc' := 10) dX5_differ_8 rfl (by decide) rfl) ?_
      refine ex_of (fun _ _ => ev_aload_n (pc' := 11) dX5_differ_10 rfl rfl) ?_
      refine ex_of (fun _ _ => ev_getfield (pc' := 14) fX5_12 dX5_differ_11 rfl hX rfl) ?_
      refine ex_of (fun _ _ => ev_iload_n (pc' := 15) dX5_differ_14 rfl rfl) ?_
      refine ex_of (fun _ _ => ev_callV1 (pc' := 18) kX5_137 mX4_travellerOf dX5_differ_15 rfl rfl (Nat.le_of_ble_eq_true rfl) (Nat.le_of_ble_eq_true rfl) (by decide) rfl hW (e4_travellerOf hR.nw hI hkb htb)) ?_
      refine ex_of (fun _ _ => ev_astore_5 (pc' := 20) dX5_differ_18 rfl (by decide) rfl) ?_
      refine ex_of (fun _ _ => ev_aloadN (pc' := 22) dX5_differ_20 rfl rfl) ?_
      refine ex_of (fun _ _ => ev_ifnullN (tgt := 37) dX5_differ_22 (by decide)) ?_
      refine ex_of (fun _ _ => ev_ldcI (pc' := 39) (-1000000001) nX5_72 dX5_differ_37 rfl (by decide)) ?_
      exact ex_end (ev_iret dX5_differ_39 rfl) (⟨by unfold sDiffer; rw [if_neg (by omega)], fr, hR⟩)
    · skip
      refine ex_of (fun _ _ => ev_aload_n (pc' := 1) dX5_differ_0 rfl rfl) ?_
      refine ex_of (fun _ _ => ev_getfield (pc' := 4) fX5_12 dX5_differ_1 rfl hX rfl) ?_
      refine ex_of (fun _ _ => ev_iload_n (pc' := 5) dX5_differ_4 rfl rfl) ?_
      refine ex_of (fun _ _ => ev_callV1 (pc' := 8) kX5_137 mX4_travellerOf dX5_differ_5 rfl rfl (Nat.le_of_ble_eq_true rfl) (Nat.le_of_ble_eq_true rfl) (by decide) rfl hW (e4_travellerOf0 hR.nw hI (by omega) hka)) ?_
      refine ex_of (fun _ _ => ev_astore_4N (pc' := 10) dX5_differ_8 rfl (by decide) rfl) ?_
      refine ex_of (fun _ _ => ev_aload_n (pc' := 11) dX5_differ_10 rfl rfl) ?_
      refine ex_of (fun _ _ => ev_getfield (pc' := 14) fX5_12 dX5_differ_11 rfl hX rfl) ?_
      refine ex_of (fun _ _ => ev_iload_n (pc' := 15) dX5_differ_14 rfl rfl) ?_
      refine ex_of (fun _ _ => ev_callV1 (pc' := 18) kX5_137 mX4_travellerOf dX5_differ_15 rfl rfl (Nat.le_of_ble_eq_true rfl) (Nat.le_of_ble_eq_true rfl) (by decide) rfl hW (e4_travellerOf0 hR.nw hI (by omega) hkb)) ?_
      refine ex_of (fun _ _ => ev_astore_5N (pc' := 20) dX5_differ_18 rfl (by decide) rfl) ?_
      refine ex_of (fun _ _ => ev_aloadN (pc' := 22) dX5_differ_20 rfl rfl) ?_
      refine ex_of (fun _ _ => ev_ifnullN (tgt := 37) dX5_differ_22 (by decide)) ?_
      refine ex_of (fun _ _ => ev_ldcI (pc' := 39) (-1000000001) nX5_72 dX5_differ_37 rfl (by decide)) ?_
      exact ex_end (ev_iret dX5_differ_39 rfl) (⟨by unfold sDiffer; rw [if_neg (by omega)], fr, hR⟩)
theorem e5_agrL {wa wb : Nat} {a b t : Int} (hka : 0 ≤ a ∧ a < S 1) (hta : F a.toNat = some wa) (hMa : mT S a) (hkb : 0 ≤ b ∧ b < S 1) (htb : F b.toNat = some wb) (hMb : mT S b) (hI : mI0 S) (hJ : mIP S) (rt : 0 ≤ t ∧ t ≤ 19999) : ∀ (n : Nat) (at1 : Int) (i : Nat) (h : ev_H), 20000 - at1 ≤ n → (0 ≤ at1 ∧ at1 ≤ 20000) → t ≤ at1 → i ≤ at1 - t → FrS h0 h → RC h S F → Ex l 6 yX5_agree.cls yX5_agree.name cX5_agree 8 (some .int) 45 [some (.ref 0), some (.int (iI a)), some (.int (iI b)), some (.int (iI t)), some (.ref wa), some (.ref wb), some (.int (iI at1)), some (.int (iI (i : Int)))] [] h (lkP h0 S F (some (.int (iI (fstM (fun x => decide (dyF S a (S (143 + 45 * a + 0)) x = dyF S b (S (143 + 45 * b + 0)) x)) (20000 - at1).toNat at1))))) := by
  intro n
  obtain ⟨tka, -⟩ := id hMa
  obtain ⟨tkb, -⟩ := id hMb
  induction n with
  | zero =>
    intro at1 i h hn ha hb hi fr hR
    obtain ⟨⟨im, hX⟩, -⟩ := id hR
    have hW := hR.w
    refine ex_of (fun _ _ => ev_iload (pc' := 47) dX5_agree_45 rfl rfl) ?_
    refine ex_of (fun _ _ => ev_sipush (pc' := 50) (iI (19999)) dX5_agree_47 rfl (by decide)) ?_
    refine ex_icmpI_gt (pc' := 53) (tgt := 130) dX5_agree_50 (by decide) rfl (by omega) (by omega) (fun c50 => ?_) (fun c50 => ?_)
    · refine ex_of (fun _ _ => ev_bipush (pc' := 132) (iI (-4)) dX5_agree_130 rfl (by decide)) ?_
      exact ex_end (ev_iret dX5_agree_132 rfl) (⟨by rw [show at1 = 20000 by omega]; rfl, fr, hR⟩)
    · refine ex_of (fun _ _ => ev_iload (pc' := 55) dX5_agree_53 rfl rfl) ?_
      refine ex_of (fun _ _ => ev_sipush (pc' := 58) (iI (19999)) dX5_agree_55 rfl (by decide)) ?_
      refine ex_icmpI_gt (pc' := 61) (tgt := 130) dX5_agree_58 (by decide) rfl (by omega) (by omega) (fun c58 => ?_) (fun c58 => ?_)
      · refine ex_of (fun _ _ => ev_bipush (pc' := 132) (iI (-4)) dX5_agree_130 rfl (by decide)) ?_
        exact ex_end (ev_iret dX5_agree_132 rfl) (⟨by rw [show at1 = 20000 by omega]; rfl, fr, hR⟩)
      · omega
  | succ n ih =>
    intro at1 i h hn ha hb hi fr hR
    obtain ⟨⟨im, hX⟩, -⟩ := id hR
    have hW := hR.w
    obtain ⟨eaa, toa, froa, ena, caa, cba, -, hTa, -⟩ := CT.op (hR.tr hka hta).1
    obtain ⟨eab, tob, frob, enb, cab, cbb, -, hTb, -⟩ := CT.op (hR.tr hkb htb).1
    by_cases h20 : at1 = 20000
    · skip
      refine ex_of (fun _ _ => ev_iload (pc' := 47) dX5_agree_45 rfl rfl) ?_
      refine ex_of (fun _ _ => ev_sipush (pc' := 50) (iI (19999)) dX5_agree_47 rfl (by decide)) ?_
      refine ex_icmpI_gt (pc' := 53) (tgt := 130) dX5_agree_50 (by decide) rfl (by omega) (by omega) (fun c50 => ?_) (fun c50 => ?_)
      · refine ex_of (fun _ _ => ev_bipush (pc' := 132) (iI (-4)) dX5_agree_130 rfl (by decide)) ?_
        exact ex_end (ev_iret dX5_agree_132 rfl) (⟨by rw [show at1 = 20000 by omega]; rfl, fr, hR⟩)
      · refine ex_of (fun _ _ => ev_iload (pc' := 55) dX5_agree_53 rfl rfl) ?_
        refine ex_of (fun _ _ => ev_sipush (pc' := 58) (iI (19999)) dX5_agree_55 rfl (by decide)) ?_
        refine ex_icmpI_gt (pc' := 61) (tgt := 130) dX5_agree_58 (by decide) rfl (by omega) (by omega) (fun c58 => ?_) (fun c58 => ?_)
        · refine ex_of (fun _ _ => ev_bipush (pc' := 132) (iI (-4)) dX5_agree_130 rfl (by decide)) ?_
          exact ex_end (ev_iret dX5_agree_132 rfl) (⟨by rw [show at1 = 20000 by omega]; rfl, fr, hR⟩)
        · omega
    · have rm := dyF_b (S := S) (k := a) (kd := S (143 + 45 * a + 0)) (m := at1) hJ hMa (by omega)
      have rn := dyF_b (S := S) (k := b) (kd := S (143 + 45 * b + 0)) (m := at1) hJ hMb (by omega)
      have em : (20000 - at1).toNat = (19999 - at1).toNat + 1 := by omega
      refine ex_of (fun _ _ => ev_iload (pc' := 47) dX5_agree_45 rfl rfl) ?_
      refine ex_of (fun _ _ => ev_sipush (pc' := 50) (iI (19999)) dX5_agree_47 rfl (by decide)) ?_
      refine ex_icmpI_gt (pc' := 53) (tgt := 130) dX5_agree_50 (by decide) rfl (by omega) (by omega) (fun c50 => ?_) (fun c50 => ?_)
      · omega
      · refine ex_of (fun _ _ => ev_iload (pc' := 55) dX5_agree_53 rfl rfl) ?_
        refine ex_of (fun _ _ => ev_sipush (pc' := 58) (iI (19999)) dX5_agree_55 rfl (by decide)) ?_
        refine ex_icmpI_gt (pc' := 61) (tgt := 130) dX5_agree_58 (by decide) rfl (by omega) (by omega) (fun c58 => ?_) (fun c58 => ?_)
        · omega
        · refine ex_of (fun _ _ => ev_aload_n (pc' := 62) dX5_agree_61 rfl rfl) ?_
          refine ex_of (fun _ _ => ev_aload (pc' := 64) dX5_agree_62 rfl rfl) ?_
          refine ex_of (fun _ _ => ev_aload (pc' := 66) dX5_agree_64 rfl rfl) ?_
          refine ex_of (fun _ _ => ev_getfield (pc' := 69) fX5_124 dX5_agree_66 rfl hTa rfl) ?_
          refine ex_of (fun _ _ => ev_iload (pc' := 71) dX5_agree_69 rfl rfl) ?_
          have hO := hX
          obtain ⟨w1, h1, E1, rfl, fr1, hR⟩ := e5_dayD (l := l) (k := a) (kd := (S (143 + 45 * a + 0))) (tt := at1) hR hka hta hI hJ hMa (by omega) (by omega)
          refine ex_of (fun _ _ => ev_callV3 (pc' := 74) kX5_194 mX5_dayTold dX5_agree_71 rfl rfl (Nat.le_of_ble_eq_true rfl) (Nat.le_of_ble_eq_true rfl) (by decide) rfl hO E1) ?_
          have fr := fr.tr fr1
          obtain ⟨⟨im, hX⟩, -⟩ := id hR
          have hW := hR.w
          obtain ⟨eaa, toa, froa, ena, caa, cba, -, hTa, -⟩ := CT.op (hR.tr hka hta).1
          obtain ⟨eab, tob, frob, enb, cab, cbb, -, hTb, -⟩ := CT.op (hR.tr hkb htb).1
          refine ex_of (fun _ _ => ev_aload_n (pc' := 75) dX5_agree_74 rfl rfl) ?_
          refine ex_of (fun _ _ => ev_aload (pc' := 77) dX5_agree_75 rfl rfl) ?_
          refine ex_of (fun _ _ => ev_aload (pc' := 79) dX5_agree_77 rfl rfl) ?_
          refine ex_of (fun _ _ => ev_getfield (pc' := 82) fX5_124 dX5_agree_79 rfl hTb rfl) ?_
          refine ex_of (fun _ _ => ev_iload (pc' := 84) dX5_agree_82 rfl rfl) ?_
          have hO := hX
          obtain ⟨w1, h1, E1, rfl, fr2, hR⟩ := e5_dayD (l := l) (k := b) (kd := (S (143 + 45 * b + 0))) (tt := at1) hR hkb htb hI hJ hMb (by omega) (by omega)
          refine ex_of (fun _ _ => ev_callV3 (pc' := 87) kX5_194 mX5_dayTold dX5_agree_84 rfl rfl (Nat.le_of_ble_eq_true rfl) (Nat.le_of_ble_eq_true rfl) (by decide) rfl hO E1) ?_
          have fr := fr.tr fr2
          obtain ⟨⟨im, hX⟩, -⟩ := id hR
          have hW := hR.w
          obtain ⟨eaa, toa, froa, ena, caa, cba, -, hTa, -⟩ := CT.op (hR.tr hka hta).1
          obtain ⟨eab, tob, frob, enb, cab, cbb, -, hTb, -⟩ := CT.op (hR.tr hkb htb).1
          refine ex_icmpI_ne (pc' := 90) (tgt := 93) dX5_agree_87 (by decide) rfl (by omega) (by omega) (fun c87 => ?_) (fun c87 => ?_)
          · refine ex_of (fun _ _ => ev_aload_n (pc' := 94) dX5_agree_93 rfl rfl) ?_
            refine ex_of (fun _ _ => ev_aload (pc' := 96) dX5_agree_94 rfl rfl) ?_
            refine ex_of (fun _ _ => ev_aload (pc' := 98) dX5_agree_96 rfl rfl) ?_
            refine ex_of (fun _ _ => ev_getfield (pc' := 101) fX5_124 dX5_agree_98 rfl hTa rfl) ?_
            refine ex_of (fun _ _ => ev_iload (pc' := 103) dX5_agree_101 rfl rfl) ?_
            have hO := hX
            obtain ⟨w1, h1, E1, r1, rfl, ncr1, fr3, hR⟩ := e5_nextChange (l := l) (k := a) (kd := (S (143 + 45 * a + 0))) (tt := at1) hR hka hta hI hJ hMa (by omega) (by omega)
            refine ex_of (fun _ _ => ev_callV3 (pc' := 106) kX5_198 mX5_nextChange dX5_agree_103 rfl rfl (Nat.le_of_ble_eq_true rfl) (Nat.le_of_ble_eq_true rfl) (by decide) rfl hO E1) ?_
            have fr := fr.tr fr3
            obtain ⟨⟨im, hX⟩, -⟩ := id hR
            have hW := hR.w
            obtain ⟨eaa, toa, froa, ena, caa, cba, -, hTa, -⟩ := CT.op (hR.tr hka hta).1
            obtain ⟨eab, tob, frob, enb, cab, cbb, -, hTb, -⟩ := CT.op (hR.tr hkb htb).1
            refine ex_of (fun _ _ => ev_aload_n (pc' := 107) dX5_agree_106 rfl rfl) ?_
            refine ex_of (fun _ _ => ev_aload (pc' := 109) dX5_agree_107 rfl rfl) ?_
            refine ex_of (fun _ _ => ev_aload (pc' := 111) dX5_agree_109 rfl rfl) ?_
            refine ex_of (fun _ _ => ev_getfield (pc' := 114) fX5_124 dX5_agree_111 rfl hTb rfl) ?_
            refine ex_of (fun _ _ => ev_iload (pc' := 116) dX5_agree_114 rfl rfl) ?_
            have hO := hX
            obtain ⟨w1, h1, E1, r2, rfl, ncr2, fr4, hR⟩ := e5_nextChange (l := l) (k := b) (kd := (S (143 + 45 * b + 0))) (tt := at1) hR hkb htb hI hJ hMb (by omega) (by omega)
            refine ex_of (fun _ _ => ev_callV3 (pc' := 119) kX5_198 mX5_nextChange dX5_agree_116 rfl rfl (Nat.le_of_ble_eq_true rfl) (Nat.le_of_ble_eq_true rfl) (by decide) rfl hO E1) ?_
            have fr := fr.tr fr4
            obtain ⟨⟨im, hX⟩, -⟩ := id hR
            have hW := hR.w
            obtain ⟨eaa, toa, froa, ena, caa, cba, -, hTa, -⟩ := CT.op (hR.tr hka hta).1
            obtain ⟨eab, tob, frob, enb, cab, cbb, -, hTb, -⟩ := CT.op (hR.tr hkb htb).1
            refine ex_of (fun _ _ => ev_callS2 (pc' := 122) kX5_204 mJ9_min_7cf53 dX5_agree_119 rfl rfl (Nat.le_of_ble_eq_true rfl) (Nat.le_of_ble_eq_true rfl) (by decide) (e_min (by have := ncr1.1; omega) (by have := ncr2.1; omega))) ?_
            refine ex_of (fun _ _ => ev_istore_6 (pc' := 124) dX5_agree_122 rfl (by decide) rfl) ?_
            refine ex_of (fun _ _ => ev_iincI_7 (pc' := 127) dX5_agree_124 rfl (by decide) rfl) ?_
            refine ex_of (fun _ _ => ev_goto (tgt := 45) dX5_agree_127 (by decide)) ?_
            have nb1 := ncr1.1
            have nb2 := ncr2.1
            have nm : at1 < min r1 r2 ∧ min r1 r2 ≤ 20000 ∧ min r1 r2 ≤ r1 ∧ min r1 r2 ≤ r2 := by omega
            have sk := fst_skip (P := (fun x => decide (dyF S a (S (143 + 45 * a + 0)) x = dyF S b (S (143 + 45 * b + 0)) x))) (a := at1) (r := min r1 r2) (n := (20000 - at1).toNat) (by omega) (fun m m1 m2 => decide_eq_false (by rw [ncr1.sk m m1 (by omega), ncr2.sk m m1 (by omega)]; omega)) (by omega)
            rw [sk, show (20000 - at1).toNat - (min r1 r2 - at1).toNat = (20000 - min r1 r2).toNat by omega]
            exact ih (min r1 r2) (i + 1) _ (by omega) (by omega) (by omega) (by omega) fr hR
          · refine ex_of (fun _ _ => ev_iload (pc' := 92) dX5_agree_90 rfl rfl) ?_
            exact ex_end (ev_iret dX5_agree_92 rfl) (⟨by rw [em, fstM_t (decide_eq_true (by omega))], fr, hR⟩)
theorem e5_agree {a b t : Int} (hR : RC h S F) (hI : mI0 S) (hJ : mIP S) (hK : ∀ k, 0 ≤ k → k < S 1 → mT S k) (ra : -2147483648 ≤ a ∧ a < 2147483648) (rb : -2147483648 ≤ b ∧ b < 2147483648) (rt : -2147483648 ≤ t ∧ t < 2147483648) : Ex l 7 yX5_agree.cls yX5_agree.name cX5_agree 8 (some .int) 0 [some (.ref 0), some (.int (iI a)), some (.int (iI b)), some (.int (iI t)), none, none, none, none] [] h (lkP h S F (some (.int (iI (sAgree S a b t))))) := by
  obtain ⟨⟨i1, i2⟩, ⟨i3, i4⟩, i5, i6⟩ := id hI
  obtain ⟨⟨im, hX⟩, -⟩ := id hR
  have hW := hR.w
  have fr := FrS.rf h
  by_cases hka : 0 ≤ a ∧ a < S 1
  · skip
    obtain ⟨wa, hta, hCa, h47a⟩ := hR.2.2.2 a hka.1 hka.2
    have hMa := hK a hka.1 hka.2
    obtain ⟨tka, -⟩ := id hMa
    obtain ⟨eaa, toa, froa, ena, caa, cba, -, hTa, -⟩ := CT.op hCa
    by_cases hkb : 0 ≤ b ∧ b < S 1
    · skip
      obtain ⟨wb, htb, hCb, h47b⟩ := hR.2.2.2 b hkb.1 hkb.2
      have hMb := hK b hkb.1 hkb.2
      obtain ⟨tkb, -⟩ := id hMb
      obtain ⟨eab, tob, frob, enb, cab, cbb, -, hTb, -⟩ := CT.op hCb
      refine ex_of (fun _ _ => ev_aload_n (pc' := 1) dX5_agree_0 rfl rfl) ?_
      refine ex_of (fun _ _ => ev_getfield (pc' := 4) fX5_12 dX5_agree_1 rfl hX rfl) ?_
      refine ex_of (fun _ _ => ev_iload_n (pc' := 5) dX5_agree_4 rfl rfl) ?_
      refine ex_of (fun _ _ => ev_callV1 (pc' := 8) kX5_137 mX4_travellerOf dX5_agree_5 rfl rfl (Nat.le_of_ble_eq_true rfl) (Nat.le_of_ble_eq_true rfl) (by decide) rfl hW (e4_travellerOf hR.nw hI hka hta)) ?_
      refine ex_of (fun _ _ => ev_astore_4 (pc' := 10) dX5_agree_8 rfl (by decide) rfl) ?_
      refine ex_of (fun _ _ => ev_aload_n (pc' := 11) dX5_agree_10 rfl rfl) ?_
      refine ex_of (fun _ _ => ev_getfield (pc' := 14) fX5_12 dX5_agree_11 rfl hX rfl) ?_
      refine ex_of (fun _ _ => ev_iload_n (pc' := 15) dX5_agree_14 rfl rfl) ?_
      refine ex_of (fun _ _ => ev_callV1 (pc' := 18) kX5_137 mX4_travellerOf dX5_agree_15 rfl rfl (Nat.le_of_ble_eq_true rfl) (Nat.le_of_ble_eq_true rfl) (by decide) rfl hW (e4_travellerOf hR.nw hI hkb htb)) ?_
      refine ex_of (fun _ _ => ev_astore_5 (pc' := 20) dX5_agree_18 rfl (by decide) rfl) ?_
      refine ex_of (fun _ _ => ev_aload (pc' := 22) dX5_agree_20 rfl rfl) ?_
      refine ex_of (fun _ _ => ev_ifnull (pc' := 25) dX5_agree_22 rfl) ?_
      refine ex_of (fun _ _ => ev_aload (pc' := 27) dX5_agree_25 rfl rfl) ?_
      refine ex_of (fun _ _ => ev_ifnull (pc' := 30) dX5_agree_27 rfl) ?_
      refine ex_of (fun _ _ => ev_iload_n (pc' := 31) dX5_agree_30 rfl rfl) ?_
      refine ex_of (fun _ _ => ev_callS1 (pc' := 34) kX5_96 mX5_isMinute dX5_agree_31 rfl rfl (Nat.le_of_ble_eq_true rfl) (Nat.le_of_ble_eq_true rfl) (by decide) (e5_isMinute (by omega))) ?_
      refine ex_ifd_ne (pc' := 37) (tgt := 39) dX5_agree_34 (by decide) rfl (fun c34 => ?_) (fun c34 => ?_)
      · refine ex_of (fun _ _ => ev_iload_n (pc' := 40) dX5_agree_39 rfl rfl) ?_
        refine ex_of (fun _ _ => ev_istore_6 (pc' := 42) dX5_agree_40 rfl (by decide) rfl) ?_
        refine ex_of (fun _ _ => ev_iconst (pc' := 43) (iI (0)) dX5_agree_42 rfl (by decide)) ?_
        refine ex_of (fun _ _ => ev_istore_7 (pc' := 45) dX5_agree_43 rfl (by decide) rfl) ?_
        unfold sAgree
        rw [if_pos (by omega)]
        exact ev_deepx (by decide) (e5_agrL (l := l) hka hta hMa hkb htb hMb hI hJ (by omega) 20000 t 0 _ (by omega) (by omega) (by omega) (by omega) fr hR)
      · refine ex_of (fun _ _ => ev_iconst (pc' := 38) (iI (-1)) dX5_agree_37 rfl (by decide)) ?_
        exact ex_end (ev_iret dX5_agree_38 rfl) (by unfold sAgree; first | (rw [if_pos (by omega)]; exact ⟨rfl, fr, hR⟩) | (rw [if_neg (by omega)]; exact ⟨rfl, fr, hR⟩))
    · skip
      refine ex_of (fun _ _ => ev_aload_n (pc' := 1) dX5_agree_0 rfl rfl) ?_
      refine ex_of (fun _ _ => ev_getfield (pc' := 4) fX5_12 dX5_agree_1 rfl hX rfl) ?_
      refine ex_of (fun _ _ => ev_iload_n (pc' := 5) dX5_agree_4 rfl rfl) ?_
      refine ex_of (fun _ _ => ev_callV1 (pc' := 8) kX5_137 mX4_travellerOf dX5_agree_5 rfl rfl (Nat.le_of_ble_eq_true rfl) (Nat.le_of_ble_eq_true rfl) (by decide) rfl hW (e4_travellerOf hR.nw hI hka hta)) ?_
      refine ex_of (fun _ _ => ev_astore_4 (pc' := 10) dX5_agree_8 rfl (by decide) rfl) ?_
      refine ex_of (fun _ _ => ev_aload_n (pc' := 11) dX5_agree_10 rfl rfl) ?_
      refine ex_of (fun _ _ => ev_getfield (pc' := 14) fX5_12 dX5_agree_11 rfl hX rfl) ?_
      refine ex_of (fun _ _ => ev_iload_n (pc' := 15) dX5_agree_14 rfl rfl) ?_
      refine ex_of (fun _ _ => ev_callV1 (pc' := 18) kX5_137 mX4_travellerOf dX5_agree_15 rfl rfl (Nat.le_of_ble_eq_true rfl) (Nat.le_of_ble_eq_true rfl) (by decide) rfl hW (e4_travellerOf0 hR.nw hI (by omega) hkb)) ?_
      refine ex_of (fun _ _ => ev_astore_5N (pc' := 20) dX5_agree_18 rfl (by decide) rfl) ?_
      refine ex_of (fun _ _ => ev_aload (pc' := 22) dX5_agree_20 rfl rfl) ?_
      refine ex_of (fun _ _ => ev_ifnull (pc' := 25) dX5_agree_22 rfl) ?_
      refine ex_of (fun _ _ => ev_aloadN (pc' := 27) dX5_agree_25 rfl rfl) ?_
      refine ex_of (fun _ _ => ev_ifnullN (tgt := 37) dX5_agree_27 (by decide)) ?_
      refine ex_of (fun _ _ => ev_iconst (pc' := 38) (iI (-1)) dX5_agree_37 rfl (by decide)) ?_
      exact ex_end (ev_iret dX5_agree_38 rfl) (⟨by unfold sAgree; rw [if_neg (by omega)], fr, hR⟩)
  · by_cases hkb : 0 ≤ b ∧ b < S 1
    · skip
      obtain ⟨wb, htb, hCb, h47b⟩ := hR.2.2.2 b hkb.1 hkb.2
      have hMb := hK b hkb.1 hkb.2
      obtain ⟨tkb, -⟩ := id hMb
      obtain ⟨eab, tob, frob, enb, cab, cbb, -, hTb, -⟩ := CT.op hCb
      refine ex_of (fun _ _ => ev_aload_n (pc' := 1) dX5_agree_0 rfl rfl) ?_
      refine ex_of (fun _ _ => ev_getfield (pc' := 4) fX5_12 dX5_agree_1 rfl hX rfl) ?_
      refine ex_of (fun _ _ => ev_iload_n (pc' := 5) dX5_agree_4 rfl rfl) ?_
      refine ex_of (fun _ _ => ev_callV1 (pc' := 8) kX5_137 mX4_travellerOf dX5_agree_5 rfl rfl (Nat.le_of_ble_eq_true rfl) (Nat.le_of_ble_eq_true rfl) (by decide) rfl hW (e4_travellerOf0 hR.nw hI (by omega) hka)) ?_
      refine ex_of (fun _ _ => ev_astore_4N (pc' := 10) dX5_agree_8 rfl (by decide) rfl) ?_
      refine ex_of (fun _ _ => ev_aload_n (pc' := 11) dX5_agree_10 rfl rfl) ?_
      refine ex_of (fun _ _ => ev_getfield (pc' := 14) fX5_12 dX5_agree_11 rfl hX rfl) ?_
      refine ex_of (fun _ _ => ev_iload_n (pc' := 15) dX5_agree_14 rfl rfl) ?_
      refine ex_of (fun _ _ => ev_callV1 (pc' := 18) kX5_137 mX4_travellerOf dX5_agree_15 rfl rfl (Nat.le_of_ble_eq_true rfl) (Nat.le_of_ble_eq_true rfl) (by decide) rfl hW (e4_travellerOf hR.nw hI hkb htb)) ?_
      refine ex_of (fun _ _ => ev_astore_5 (pc' := 20) dX5_agree_18 rfl (by decide) rfl) ?_
      refine ex_of (fun _ _ => ev_aloadN (pc' := 22) dX5_agree_20 rfl rfl) ?_
      refine ex_of (fun _ _ => ev_ifnullN (tgt := 37) dX5_agree_22 (by decide)) ?_
      refine ex_of (fun _ _ => ev_iconst (pc' := 38) (iI (-1)) dX5_agree_37 rfl (by decide)) ?_
      exact ex_end (ev_iret dX5_agree_38 rfl) (⟨by unfold sAgree; rw [if_neg (by omega)], fr, hR⟩)
    · skip
      refine ex_of (fun _ _ => ev_aload_n (pc' := 1) dX5_agree_0 rfl rfl) ?_
      refine ex_of (fun _ _ => ev_getfield (pc' := 4) fX5_12 dX5_agree_1 rfl hX rfl) ?_
      refine ex_of (fun _ _ => ev_iload_n (pc' := 5) dX5_agree_4 rfl rfl) ?_
      refine ex_of (fun _ _ => ev_callV1 (pc' := 8) kX5_137 mX4_travellerOf dX5_agree_5 rfl rfl (Nat.le_of_ble_eq_true rfl) (Nat.le_of_ble_eq_true rfl) (by decide) rfl hW (e4_travellerOf0 hR.nw hI (by omega) hka)) ?_
      refine ex_of (fun _ _ => ev_astore_4N (pc' := 10) dX5_agree_8 rfl (by decide) rfl) ?_
      refine ex_of (fun _ _ => ev_aload_n (pc' := 11) dX5_agree_10 rfl rfl) ?_
      refine ex_of (fun _ _ => ev_getfield (pc' := 14) fX5_12 dX5_agree_11 rfl hX rfl) ?_
      refine ex_of (fun _ _ => ev_iload_n (pc' := 15) dX5_agree_14 rfl rfl) ?_
      refine ex_of (fun _ _ => ev_callV1 (pc' := 18) kX5_137 mX4_travellerOf dX5_agree_15 rfl rfl (Nat.le_of_ble_eq_true rfl) (Nat.le_of_ble_eq_true rfl) (by decide) rfl hW (e4_travellerOf0 hR.nw hI (by omega) hkb)) ?_
      refine ex_of (fun _ _ => ev_astore_5N (pc' := 20) dX5_agree_18 rfl (by decide) rfl) ?_
      refine ex_of (fun _ _ => ev_aloadN (pc' := 22) dX5_agree_20 rfl rfl) ?_
      refine ex_of (fun _ _ => ev_ifnullN (tgt := 37) dX5_agree_22 (by decide)) ?_
      refine ex_of (fun _ _ => ev_iconst (pc' := 38) (iI (-1)) dX5_agree_37 rfl (by decide)) ?_
      exact ex_end (ev_iret dX5_agree_38 rfl) (⟨by unfold sAgree; rw [if_neg (by omega)], fr, hR⟩)
theorem e5_parL {w : Nat} {a b t : Int} (hk : 0 ≤ k ∧ k < S 1) (ht : F k.toNat = some w) (hI : mI0 S) (hJ : mIP S) (hM : mT S k) (ra : 0 ≤ a ∧ a ≤ 7) (rb : 0 ≤ b ∧ b ≤ 7) (rt : 0 ≤ t ∧ t ≤ 19999) : ∀ (n : Nat) (at1 : Int) (i : Nat) (h : ev_H), 20000 - at1 ≤ n → (0 ≤ at1 ∧ at1 ≤ 20000) → t ≤ at1 → i ≤ at1 - t → FrS h0 h → RC h S F → Ex l 6 yX5_part.cls yX5_part.name cX5_part 8 (some .int) 51 [some (.ref 0), some (.int (iI k)), some (.int (iI a)), some (.int (iI b)), some (.int (iI t)), some (.ref w), some (.int (iI at1)), some (.int (iI (i : Int)))] [] h (lkP h0 S F (some (.int (iI (fstM (fun x => decide (dyF S k a x ≠ dyF S k b x)) (20000 - at1).toNat at1))))) := by
  intro n
  obtain ⟨tk, -⟩ := id hM
  induction n with
  | zero =>
    intro at1 i h hn ha hb hi fr hR
    obtain ⟨⟨im, hX⟩, -⟩ := id hR
    have hW := hR.w
    refine ex_of (fun _ _ => ev_iload (pc' := 53) dX5_part_51 rfl rfl) ?_
    refine ex_of (fun _ _ => ev_sipush (pc' := 56) (iI (19999)) dX5_part_53 rfl (by decide)) ?_
    refine ex_icmpI_gt (pc' := 59) (tgt := 120) dX5_part_56 (by decide) rfl (by omega) (by omega) (fun c56 => ?_) (fun c56 => ?_)
    · refine ex_of (fun _ _ => ev_bipush (pc' := 122) (iI (-4)) dX5_part_120 rfl (by decide)) ?_
      exact ex_end (ev_iret dX5_part_122 rfl) (⟨by rw [show at1 = 20000 by omega]; rfl, fr, hR⟩)
    · refine ex_of (fun _ _ => ev_iload (pc' := 61) dX5_part_59 rfl rfl) ?_
      refine ex_of (fun _ _ => ev_sipush (pc' := 64) (iI (19999)) dX5_part_61 rfl (by decide)) ?_
      refine ex_icmpI_gt (pc' := 67) (tgt := 120) dX5_part_64 (by decide) rfl (by omega) (by omega) (fun c64 => ?_) (fun c64 => ?_)
      · refine ex_of (fun _ _ => ev_bipush (pc' := 122) (iI (-4)) dX5_part_120 rfl (by decide)) ?_
        exact ex_end (ev_iret dX5_part_122 rfl) (⟨by rw [show at1 = 20000 by omega]; rfl, fr, hR⟩)
      · omega
  | succ n ih =>
    intro at1 i h hn ha hb hi fr hR
    obtain ⟨⟨im, hX⟩, -⟩ := id hR
    have hW := hR.w
    by_cases h20 : at1 = 20000
    · skip
      refine ex_of (fun _ _ => ev_iload (pc' := 53) dX5_part_51 rfl rfl) ?_
      refine ex_of (fun _ _ => ev_sipush (pc' := 56) (iI (19999)) dX5_part_53 rfl (by decide)) ?_
      refine ex_icmpI_gt (pc' := 59) (tgt := 120) dX5_part_56 (by decide) rfl (by omega) (by omega) (fun c56 => ?_) (fun c56 => ?_)
      · refine ex_of (fun _ _ => ev_bipush (pc' := 122) (iI (-4)) dX5_part_120 rfl (by decide)) ?_
        exact ex_end (ev_iret dX5_part_122 rfl) (⟨by rw [show at1 = 20000 by omega]; rfl, fr, hR⟩)
      · refine ex_of (fun _ _ => ev_iload (pc' := 61) dX5_part_59 rfl rfl) ?_
        refine ex_of (fun _ _ => ev_sipush (pc' := 64) (iI (19999)) dX5_part_61 rfl (by decide)) ?_
        refine ex_icmpI_gt (pc' := 67) (tgt := 120) dX5_part_64 (by decide) rfl (by omega) (by omega) (fun c64 => ?_) (fun c64 => ?_)
        · refine ex_of (fun _ _ => ev_bipush (pc' := 122) (iI (-4)) dX5_part_120 rfl (by decide)) ?_
          exact ex_end (ev_iret dX5_part_122 rfl) (⟨by rw [show at1 = 20000 by omega]; rfl, fr, hR⟩)
        · omega
    · have rm := dyF_b (S := S) (k := k) (kd := a) (m := at1) hJ hM (by omega)
      have rn := dyF_b (S := S) (k := k) (kd := b) (m := at1) hJ hM (by omega)
      have em : (20000 - at1).toNat = (19999 - at1).toNat + 1 := by omega
      refine ex_of (fun _ _ => ev_iload (pc' := 53) dX5_part_51 rfl rfl) ?_
      refine ex_of (fun _ _ => ev_sipush (pc' := 56) (iI (19999)) dX5_part_53 rfl (by decide)) ?_
      refine ex_icmpI_gt (pc' := 59) (tgt := 120) dX5_part_56 (by decide) rfl (by omega) (by omega) (fun c56 => ?_) (fun c56 => ?_)
      · omega
      · refine ex_of (fun _ _ => ev_iload (pc' := 61) dX5_part_59 rfl rfl) ?_
        refine ex_of (fun _ _ => ev_sipush (pc' := 64) (iI (19999)) dX5_part_61 rfl (by decide)) ?_
        refine ex_icmpI_gt (pc' := 67) (tgt := 120) dX5_part_64 (by decide) rfl (by omega) (by omega) (fun c64 => ?_) (fun c64 => ?_)
        · omega
        · refine ex_of (fun _ _ => ev_aload_n (pc' := 68) dX5_part_67 rfl rfl) ?_
          refine ex_of (fun _ _ => ev_aload (pc' := 70) dX5_part_68 rfl rfl) ?_
          refine ex_of (fun _ _ => ev_iload_n (pc' := 71) dX5_part_70 rfl rfl) ?_
          refine ex_of (fun _ _ => ev_iload (pc' := 73) dX5_part_71 rfl rfl) ?_
          have hO := hX
          obtain ⟨w1, h1, E1, rfl, fr1, hR⟩ := e5_dayD (l := l) (kd := a) (tt := at1) hR hk ht hI hJ hM (by omega) (by omega)
          refine ex_of (fun _ _ => ev_callV3 (pc' := 76) kX5_194 mX5_dayTold dX5_part_73 rfl rfl (Nat.le_of_ble_eq_true rfl) (Nat.le_of_ble_eq_true rfl) (by decide) rfl hO E1) ?_
          have fr := fr.tr fr1
          obtain ⟨⟨im, hX⟩, -⟩ := id hR
          have hW := hR.w
          obtain ⟨ea, to, fro, en, ca, cb, -, hT, -⟩ := CT.op (hR.tr hk ht).1
          refine ex_of (fun _ _ => ev_aload_n (pc' := 77) dX5_part_76 rfl rfl) ?_
          refine ex_of (fun _ _ => ev_aload (pc' := 79) dX5_part_77 rfl rfl) ?_
          refine ex_of (fun _ _ => ev_iload_n (pc' := 80) dX5_part_79 rfl rfl) ?_
          refine ex_of (fun _ _ => ev_iload (pc' := 82) dX5_part_80 rfl rfl) ?_
          have hO := hX
          obtain ⟨w1, h1, E1, rfl, fr2, hR⟩ := e5_dayD (l := l) (kd := b) (tt := at1) hR hk ht hI hJ hM (by omega) (by omega)
          refine ex_of (fun _ _ => ev_callV3 (pc' := 85) kX5_194 mX5_dayTold dX5_part_82 rfl rfl (Nat.le_of_ble_eq_true rfl) (Nat.le_of_ble_eq_true rfl) (by decide) rfl hO E1) ?_
          have fr := fr.tr fr2
          obtain ⟨⟨im, hX⟩, -⟩ := id hR
          have hW := hR.w
          obtain ⟨ea, to, fro, en, ca, cb, -, hT, -⟩ := CT.op (hR.tr hk ht).1
          refine ex_icmpI_eq (pc' := 88) (tgt := 91) dX5_part_85 (by decide) rfl (by omega) (by omega) (fun c85 => ?_) (fun c85 => ?_)
          · refine ex_of (fun _ _ => ev_aload_n (pc' := 92) dX5_part_91 rfl rfl) ?_
            refine ex_of (fun _ _ => ev_aload (pc' := 94) dX5_part_92 rfl rfl) ?_
            refine ex_of (fun _ _ => ev_iload_n (pc' := 95) dX5_part_94 rfl rfl) ?_
            refine ex_of (fun _ _ => ev_iload (pc' := 97) dX5_part_95 rfl rfl) ?_
            have hO := hX
            obtain ⟨w1, h1, E1, r1, rfl, ncr1, fr3, hR⟩ := e5_nextChange (l := l) (kd := a) (tt := at1) hR hk ht hI hJ hM (by omega) (by omega)
            refine ex_of (fun _ _ => ev_callV3 (pc' := 100) kX5_198 mX5_nextChange dX5_part_97 rfl rfl (Nat.le_of_ble_eq_true rfl) (Nat.le_of_ble_eq_true rfl) (by decide) rfl hO E1) ?_
            have fr := fr.tr fr3
            obtain ⟨⟨im, hX⟩, -⟩ := id hR
            have hW := hR.w
            obtain ⟨ea, to, fro, en, ca, cb, -, hT, -⟩ := CT.op (hR.tr hk ht).1
            refine ex_of (fun _ _ => ev_aload_n (pc' := 101) dX5_part_100 rfl rfl) ?_
            refine ex_of (fun _ _ => ev_aload (pc' := 103) dX5_part_101 rfl rfl) ?_
            refine ex_of (fun _ _ => ev_iload_n (pc' := 104) dX5_part_103 rfl rfl) ?_
            refine ex_of (fun _ _ => ev_iload (pc' := 106) dX5_part_104 rfl rfl) ?_
            have hO := hX
            obtain ⟨w1, h1, E1, r2, rfl, ncr2, fr4, hR⟩ := e5_nextChange (l := l) (kd := b) (tt := at1) hR hk ht hI hJ hM (by omega) (by omega)
            refine ex_of (fun _ _ => ev_callV3 (pc' := 109) kX5_198 mX5_nextChange dX5_part_106 rfl rfl (Nat.le_of_ble_eq_true rfl) (Nat.le_of_ble_eq_true rfl) (by decide) rfl hO E1) ?_
            have fr := fr.tr fr4
            obtain ⟨⟨im, hX⟩, -⟩ := id hR
            have hW := hR.w
            obtain ⟨ea, to, fro, en, ca, cb, -, hT, -⟩ := CT.op (hR.tr hk ht).1
            refine ex_of (fun _ _ => ev_callS2 (pc' := 112) kX5_204 mJ9_min_7cf53 dX5_part_109 rfl rfl (Nat.le_of_ble_eq_true rfl) (Nat.le_of_ble_eq_true rfl) (by decide) (e_min (by have := ncr1.1; omega) (by have := ncr2.1; omega))) ?_
            refine ex_of (fun _ _ => ev_istore_6 (pc' := 114) dX5_part_112 rfl (by decide) rfl) ?_
            refine ex_of (fun _ _ => ev_iincI_7 (pc' := 117) dX5_part_114 rfl (by decide) rfl) ?_
            refine ex_of (fun _ _ => ev_goto (tgt := 51) dX5_part_117 (by decide)) ?_
            have nb1 := ncr1.1
            have nb2 := ncr2.1
            have nm : at1 < min r1 r2 ∧ min r1 r2 ≤ 20000 ∧ min r1 r2 ≤ r1 ∧ min r1 r2 ≤ r2 := by omega
            have sk := fst_skip (P := (fun x => decide (dyF S k a x ≠ dyF S k b x))) (a := at1) (r := min r1 r2) (n := (20000 - at1).toNat) (by omega) (fun m m1 m2 => decide_eq_false (by rw [ncr1.sk m m1 (by omega), ncr2.sk m m1 (by omega)]; omega)) (by omega)
            rw [sk, show (20000 - at1).toNat - (min r1 r2 - at1).toNat = (20000 - min r1 r2).toNat by omega]
            exact ih (min r1 r2) (i + 1) _ (by omega) (by omega) (by omega) (by omega) fr hR
          · refine ex_of (fun _ _ => ev_iload (pc' := 90) dX5_part_88 rfl rfl) ?_
            exact ex_end (ev_iret dX5_part_90 rfl) (⟨by rw [em, fstM_t (decide_eq_true (by omega))], fr, hR⟩)
theorem e5_part {k a b t : Int} (hR : RC h S F) (hI : mI0 S) (hJ : mIP S) (hK : ∀ k, 0 ≤ k → k < S 1 → mT S k) (rk : -2147483648 ≤ k ∧ k < 2147483648) (ra : -2147483648 ≤ a ∧ a < 2147483648) (rb : -2147483648 ≤ b ∧ b < 2147483648) (rt : -2147483648 ≤ t ∧ t < 2147483648) : Ex l 7 yX5_part.cls yX5_part.name cX5_part 8 (some .int) 0 [some (.ref 0), some (.int (iI k)), some (.int (iI a)), some (.int (iI b)), some (.int (iI t)), none, none, none] [] h (lkP h S F (some (.int (iI (sPart S k a b t))))) := by
  obtain ⟨⟨i1, i2⟩, ⟨i3, i4⟩, i5, i6⟩ := id hI
  obtain ⟨⟨im, hX⟩, -⟩ := id hR
  have hW := hR.w
  have fr := FrS.rf h
  by_cases hk : 0 ≤ k ∧ k < S 1
  · obtain ⟨w, ht, hC, h47⟩ := hR.2.2.2 k hk.1 hk.2
    have hM := hK k hk.1 hk.2
    obtain ⟨ea, to, fro, en, ca, cb, -, hT, -⟩ := CT.op hC
    obtain ⟨tk, -⟩ := id hM
    refine ex_of (fun _ _ => ev_aload_n (pc' := 1) dX5_part_0 rfl rfl) ?_
    refine ex_of (fun _ _ => ev_getfield (pc' := 4) fX5_12 dX5_part_1 rfl hX rfl) ?_
    refine ex_of (fun _ _ => ev_iload_n (pc' := 5) dX5_part_4 rfl rfl) ?_
    refine ex_of (fun _ _ => ev_callV1 (pc' := 8) kX5_137 mX4_travellerOf dX5_part_5 rfl rfl (Nat.le_of_ble_eq_true rfl) (Nat.le_of_ble_eq_true rfl) (by decide) rfl hW (e4_travellerOf hR.nw hI hk ht)) ?_
    refine ex_of (fun _ _ => ev_astore_5 (pc' := 10) dX5_part_8 rfl (by decide) rfl) ?_
    refine ex_of (fun _ _ => ev_aload (pc' := 12) dX5_part_10 rfl rfl) ?_
    refine ex_of (fun _ _ => ev_ifnull (pc' := 15) dX5_part_12 rfl) ?_
    refine ex_of (fun _ _ => ev_iload_n (pc' := 16) dX5_part_15 rfl rfl) ?_
    refine ex_of (fun _ _ => ev_callS1 (pc' := 19) kX5_112 mX5_isKind dX5_part_16 rfl rfl (Nat.le_of_ble_eq_true rfl) (Nat.le_of_ble_eq_true rfl) (by decide) (e5_isKind (by omega))) ?_
    refine ex_ifd_eq (pc' := 22) (tgt := 42) dX5_part_19 (by decide) rfl (fun c19 => ?_) (fun c19 => ?_)
    · refine ex_of (fun _ _ => ev_iconst (pc' := 43) (iI (-1)) dX5_part_42 rfl (by decide)) ?_
      exact ex_end (ev_iret dX5_part_43 rfl) (by unfold sPart; first | (rw [if_pos (by omega)]; exact ⟨rfl, fr, hR⟩) | (rw [if_neg (by omega)]; exact ⟨rfl, fr, hR⟩))
    · refine ex_of (fun _ _ => ev_iload_n (pc' := 23) dX5_part_22 rfl rfl) ?_
      refine ex_of (fun _ _ => ev_callS1 (pc' := 26) kX5_112 mX5_isKind dX5_part_23 rfl rfl (Nat.le_of_ble_eq_true rfl) (Nat.le_of_ble_eq_true rfl) (by decide) (e5_isKind (by omega))) ?_
      refine ex_ifd_eq (pc' := 29) (tgt := 42) dX5_part_26 (by decide) rfl (fun c26 => ?_) (fun c26 => ?_)
      · refine ex_of (fun _ _ => ev_iconst (pc' := 43) (iI (-1)) dX5_part_42 rfl (by decide)) ?_
        exact ex_end (ev_iret dX5_part_43 rfl) (by unfold sPart; first | (rw [if_pos (by omega)]; exact ⟨rfl, fr, hR⟩) | (rw [if_neg (by omega)]; exact ⟨rfl, fr, hR⟩))
      · refine ex_of (fun _ _ => ev_iload_n (pc' := 30) dX5_part_29 rfl rfl) ?_
        refine ex_of (fun _ _ => ev_iload_n (pc' := 31) dX5_part_30 rfl rfl) ?_
        refine ex_icmpI_eq (pc' := 34) (tgt := 42) dX5_part_31 (by decide) rfl (by omega) (by omega) (fun c31 => ?_) (fun c31 => ?_)
        · refine ex_of (fun _ _ => ev_iconst (pc' := 43) (iI (-1)) dX5_part_42 rfl (by decide)) ?_
          exact ex_end (ev_iret dX5_part_43 rfl) (by unfold sPart; first | (rw [if_pos (by omega)]; exact ⟨rfl, fr, hR⟩) | (rw [if_neg (by omega)]; exact ⟨rfl, fr, hR⟩))
        · refine ex_of (fun _ _ => ev_iload (pc' := 36) dX5_part_34 rfl rfl) ?_
          refine ex_of (fun _ _ => ev_callS1 (pc' := 39) kX5_96 mX5_isMinute dX5_part_36 rfl rfl (Nat.le_of_ble_eq_true rfl) (Nat.le_of_ble_eq_true rfl) (by decide) (e5_isMinute (by omega))) ?_
          refine ex_ifd_ne (pc' := 42) (tgt := 44) dX5_part_39 (by decide) rfl (fun c39 => ?_) (fun c39 => ?_)
          · refine ex_of (fun _ _ => ev_iload (pc' := 46) dX5_part_44 rfl rfl) ?_
            refine ex_of (fun _ _ => ev_istore_6 (pc' := 48) dX5_part_46 rfl (by decide) rfl) ?_
            refine ex_of (fun _ _ => ev_iconst (pc' := 49) (iI (0)) dX5_part_48 rfl (by decide)) ?_
            refine ex_of (fun _ _ => ev_istore_7 (pc' := 51) dX5_part_49 rfl (by decide) rfl) ?_
            unfold sPart
            rw [if_pos (by omega)]
            exact ev_deepx (by decide) (e5_parL (l := l) hk ht hI hJ hM (by omega) (by omega) (by omega) 20000 t 0 _ (by omega) (by omega) (by omega) (by omega) fr hR)
          · refine ex_of (fun _ _ => ev_iconst (pc' := 43) (iI (-1)) dX5_part_42 rfl (by decide)) ?_
            exact ex_end (ev_iret dX5_part_43 rfl) (by unfold sPart; first | (rw [if_pos (by omega)]; exact ⟨rfl, fr, hR⟩) | (rw [if_neg (by omega)]; exact ⟨rfl, fr, hR⟩))
  · skip
    refine ex_of (fun _ _ => ev_aload_n (pc' := 1) dX5_part_0 rfl rfl) ?_
    refine ex_of (fun _ _ => ev_getfield (pc' := 4) fX5_12 dX5_part_1 rfl hX rfl) ?_
    refine ex_of (fun _ _ => ev_iload_n (pc' := 5) dX5_part_4 rfl rfl) ?_
    refine ex_of (fun _ _ => ev_callV1 (pc' := 8) kX5_137 mX4_travellerOf dX5_part_5 rfl rfl (Nat.le_of_ble_eq_true rfl) (Nat.le_of_ble_eq_true rfl) (by decide) rfl hW (e4_travellerOf0 hR.nw hI (by omega) hk)) ?_
    refine ex_of (fun _ _ => ev_astore_5N (pc' := 10) dX5_part_8 rfl (by decide) rfl) ?_
    refine ex_of (fun _ _ => ev_aloadN (pc' := 12) dX5_part_10 rfl rfl) ?_
    refine ex_of (fun _ _ => ev_ifnullN (tgt := 42) dX5_part_12 (by decide)) ?_
    refine ex_of (fun _ _ => ev_iconst (pc' := 43) (iI (-1)) dX5_part_42 rfl (by decide)) ?_
    exact ex_end (ev_iret dX5_part_43 rfl) (⟨by unfold sPart; rw [if_neg (by omega)], fr, hR⟩)
theorem bck_eq {D : Int → Int} {t g : Int} (h0 : 0 ≤ g ∧ g ≤ t) (h1 : ∀ m, g ≤ m → m ≤ t → D m = D t) (h2 : g = 0 ∨ D (g - 1) ≠ D t) : bckM (fun x => decide (D x = D t)) t.toNat t = g := by
  have key : ∀ (n : Nat) (m : Int), m = n → g ≤ m → m ≤ t → bckM (fun x => decide (D x = D t)) n m = g := by
    intro n
    induction n with
    | zero => intro m e a b; unfold bckM; omega
    | succ n ih =>
      intro m e a b
      by_cases c : m = g
      · subst c
        rw [bckM_f (decide_eq_false (by rcases h2 with q | q; omega; exact q))]
      · rw [bckM_t (decide_eq_true (h1 (m - 1) (by omega) (by omega)))]
        exact ih (m - 1) (by omega) (by omega) (by omega)
  exact key t.toNat t (by omega) h0.2 (Int.le_refl t)
/-- the count's stretches: one began at g, the next begins at x -/
def StG (D : Int → Int) (g x : Int) : Prop := NC D g x ∧ (g = 0 ∨ D (g - 1) ≠ D g)
theorem StG.nx {D : Int → Int} {g x y : Int} (h : StG D g x) (hg : 0 ≤ g) (hx : x ≤ 19999) (n : NC D x y) : StG D x y := by
  obtain ⟨⟨a, b, c⟩, d⟩ := h
  refine ⟨n, Or.inr ?_⟩
  rw [b (x - 1) (by omega) (by omega)]
  exact fun q => c hx q.symm
theorem StG.long {D : Int → Int} {t g x : Int} (h : StG D g x) (hg : 0 ≤ g ∧ g ≤ t) (hx : t < x) : fstM (fun y => decide (D y ≠ D t)) (19999 - t).toNat (t + 1) = (if x ≤ 19999 then x else -4) ∧ bckM (fun y => decide (D y = D t)) t.toNat t = g := by
  obtain ⟨⟨a, b, c⟩, d⟩ := h
  have et := b t (by omega) hx
  refine ⟨NC.no ⟨by omega, fun m m1 m2 => (b m (by omega) m2).trans et.symm, fun q1 q2 => c q1 (q2.trans et)⟩, bck_eq hg (fun m m1 m2 => (b m m1 (by omega)).trans et.symm) ?_⟩
  rw [et]; exact d
theorem e5_lonL {w : Nat} {t : Int} (hk : 0 ≤ k ∧ k < S 1) (ht : F k.toNat = some w) (hI : mI0 S) (hJ : mIP S) (hM : mT S k) (rt : 0 ≤ t ∧ t ≤ 19999) : ∀ (n : Nat) (g x : Int) (i : Nat) (h : ev_H), t - g ≤ n → (0 ≤ g ∧ g ≤ t) → i ≤ g → StG (dyF S k (S (143 + 45 * k + 0))) g x → FrS h0 h → RC h S F → Ex l 6 yX5_longDay.cls yX5_longDay.name cX5_longDay 7 (some .int) 41 [some (.ref 0), some (.int (iI k)), some (.int (iI t)), some (.ref w), some (.int (iI g)), some (.int (iI x)), some (.int (iI (i : Int)))] [] h (lkP h0 S F (some (.int (iI (sLong S k t))))) := by
  intro n
  obtain ⟨tk, -⟩ := id hM
  induction n with
  | zero =>
    intro g x i h hn hg hi hs fr hR
    have nb := hs.1.1
    refine ex_of (fun _ _ => ev_iload (pc' := 43) dX5_longDay_41 rfl rfl) ?_
    refine ex_of (fun _ _ => ev_sipush (pc' := 46) (iI (19999)) dX5_longDay_43 rfl (by decide)) ?_
    refine ex_icmpI_gt (pc' := 49) (tgt := 78) dX5_longDay_46 (by decide) rfl (by omega) (by omega) (fun c46 => ?_) (fun c46 => ?_)
    · omega
    · refine ex_of (fun _ _ => ev_iload (pc' := 51) dX5_longDay_49 rfl rfl) ?_
      refine ex_of (fun _ _ => ev_iload_n (pc' := 52) dX5_longDay_51 rfl rfl) ?_
      refine ex_icmpI_gt (pc' := 55) (tgt := 78) dX5_longDay_52 (by decide) rfl (by omega) (by omega) (fun c52 => ?_) (fun c52 => ?_)
      · refine ex_of (fun _ _ => ev_iload (pc' := 80) dX5_longDay_78 rfl rfl) ?_
        refine ex_of (fun _ _ => ev_sipush (pc' := 83) (iI (19999)) dX5_longDay_80 rfl (by decide)) ?_
        refine ex_icmpI_le (pc' := 86) (tgt := 91) dX5_longDay_83 (by decide) rfl (by omega) (by omega) (fun c83 => ?_) (fun c83 => ?_)
        · refine ex_of (fun _ _ => ev_iload (pc' := 93) dX5_longDay_91 rfl rfl) ?_
          refine ex_of (fun _ _ => ev_iload (pc' := 95) dX5_longDay_93 rfl rfl) ?_
          refine ex_of (fun _ _ => ev_isubI (pc' := 96) dX5_longDay_95 rfl) ?_
          exact ex_end (ev_iret dX5_longDay_96 rfl) (⟨by
    unfold sLong sBeg
    have z := hs.long hg (by omega)
    have z1 : fstM (fun y => decide (sDayN S k y ≠ sDayN S k t)) (19999 - t).toNat (t + 1) = (if x ≤ 19999 then x else -4) := z.1
    have z2 : bckM (fun y => decide (sDayN S k y = sDayN S k t)) t.toNat t = g := z.2
    rw [if_pos (by omega), z1, z2]
    repeat' split
    all_goals first | rfl | omega, fr, hR⟩)
        · refine ex_of (fun _ _ => ev_bipush (pc' := 88) (iI (-4)) dX5_longDay_86 rfl (by decide)) ?_
          refine ex_of (fun _ _ => ev_goto (tgt := 96) dX5_longDay_88 (by decide)) ?_
          exact ex_end (ev_iret dX5_longDay_96 rfl) (⟨by
    unfold sLong sBeg
    have z := hs.long hg (by omega)
    have z1 : fstM (fun y => decide (sDayN S k y ≠ sDayN S k t)) (19999 - t).toNat (t + 1) = (if x ≤ 19999 then x else -4) := z.1
    have z2 : bckM (fun y => decide (sDayN S k y = sDayN S k t)) t.toNat t = g := z.2
    rw [if_pos (by omega), z1, z2]
    repeat' split
    all_goals first | rfl | omega, fr, hR⟩)
      · omega
  | succ n ih =>
    intro g x i h hn hg hi hs fr hR
    have nb := hs.1.1
    obtain ⟨⟨im, hX⟩, -⟩ := id hR
    have hW := hR.w
    obtain ⟨ea, to, fro, en, ca, cb, -, hT, -⟩ := CT.op (hR.tr hk ht).1
    refine ex_of (fun _ _ => ev_iload (pc' := 43) dX5_longDay_41 rfl rfl) ?_
    refine ex_of (fun _ _ => ev_sipush (pc' := 46) (iI (19999)) dX5_longDay_43 rfl (by decide)) ?_
    refine ex_icmpI_gt (pc' := 49) (tgt := 78) dX5_longDay_46 (by decide) rfl (by omega) (by omega) (fun c46 => ?_) (fun c46 => ?_)
    · omega
    · refine ex_of (fun _ _ => ev_iload (pc' := 51) dX5_longDay_49 rfl rfl) ?_
      refine ex_of (fun _ _ => ev_iload_n (pc' := 52) dX5_longDay_51 rfl rfl) ?_
      refine ex_icmpI_gt (pc' := 55) (tgt := 78) dX5_longDay_52 (by decide) rfl (by omega) (by omega) (fun c52 => ?_) (fun c52 => ?_)
      · refine ex_of (fun _ _ => ev_iload (pc' := 80) dX5_longDay_78 rfl rfl) ?_
        refine ex_of (fun _ _ => ev_sipush (pc' := 83) (iI (19999)) dX5_longDay_80 rfl (by decide)) ?_
        refine ex_icmpI_le (pc' := 86) (tgt := 91) dX5_longDay_83 (by decide) rfl (by omega) (by omega) (fun c83 => ?_) (fun c83 => ?_)
        · refine ex_of (fun _ _ => ev_iload (pc' := 93) dX5_longDay_91 rfl rfl) ?_
          refine ex_of (fun _ _ => ev_iload (pc' := 95) dX5_longDay_93 rfl rfl) ?_
          refine ex_of (fun _ _ => ev_isubI (pc' := 96) dX5_longDay_95 rfl) ?_
          exact ex_end (ev_iret dX5_longDay_96 rfl) (⟨by
    unfold sLong sBeg
    have z := hs.long hg (by omega)
    have z1 : fstM (fun y => decide (sDayN S k y ≠ sDayN S k t)) (19999 - t).toNat (t + 1) = (if x ≤ 19999 then x else -4) := z.1
    have z2 : bckM (fun y => decide (sDayN S k y = sDayN S k t)) t.toNat t = g := z.2
    rw [if_pos (by omega), z1, z2]
    repeat' split
    all_goals first | rfl | omega, fr, hR⟩)
        · refine ex_of (fun _ _ => ev_bipush (pc' := 88) (iI (-4)) dX5_longDay_86 rfl (by decide)) ?_
          refine ex_of (fun _ _ => ev_goto (tgt := 96) dX5_longDay_88 (by decide)) ?_
          exact ex_end (ev_iret dX5_longDay_96 rfl) (⟨by
    unfold sLong sBeg
    have z := hs.long hg (by omega)
    have z1 : fstM (fun y => decide (sDayN S k y ≠ sDayN S k t)) (19999 - t).toNat (t + 1) = (if x ≤ 19999 then x else -4) := z.1
    have z2 : bckM (fun y => decide (sDayN S k y = sDayN S k t)) t.toNat t = g := z.2
    rw [if_pos (by omega), z1, z2]
    repeat' split
    all_goals first | rfl | omega, fr, hR⟩)
      · refine ex_of (fun _ _ => ev_iload (pc' := 57) dX5_longDay_55 rfl rfl) ?_
        refine ex_of (fun _ _ => ev_istore_4 (pc' := 59) dX5_longDay_57 rfl (by decide) rfl) ?_
        refine ex_of (fun _ _ => ev_aload_n (pc' := 60) dX5_longDay_59 rfl rfl) ?_
        refine ex_of (fun _ _ => ev_aload_n (pc' := 61) dX5_longDay_60 rfl rfl) ?_
        refine ex_of (fun _ _ => ev_aload_n (pc' := 62) dX5_longDay_61 rfl rfl) ?_
        refine ex_of (fun _ _ => ev_getfield (pc' := 65) fX5_124 dX5_longDay_62 rfl hT rfl) ?_
        refine ex_of (fun _ _ => ev_iload (pc' := 67) dX5_longDay_65 rfl rfl) ?_
        have hO := hX
        obtain ⟨w1, h1, E1, y, rfl, ncy, fr1, hR⟩ := e5_nextChange (l := l) (kd := (S (143 + 45 * k + 0))) (tt := x) hR hk ht hI hJ hM (by omega) (by omega)
        refine ex_of (fun _ _ => ev_callV3 (pc' := 70) kX5_198 mX5_nextChange dX5_longDay_67 rfl rfl (Nat.le_of_ble_eq_true rfl) (Nat.le_of_ble_eq_true rfl) (by decide) rfl hO E1) ?_
        have fr := fr.tr fr1
        obtain ⟨⟨im, hX⟩, -⟩ := id hR
        have hW := hR.w
        obtain ⟨ea, to, fro, en, ca, cb, -, hT, -⟩ := CT.op (hR.tr hk ht).1
        refine ex_of (fun _ _ => ev_istore_5 (pc' := 72) dX5_longDay_70 rfl (by decide) rfl) ?_
        refine ex_of (fun _ _ => ev_iincI_6 (pc' := 75) dX5_longDay_72 rfl (by decide) rfl) ?_
        refine ex_of (fun _ _ => ev_goto (tgt := 41) dX5_longDay_75 (by decide)) ?_
        exact ih x y (i + 1) _ (by omega) (by omega) (by omega) (hs.nx hg.1 (by omega) ncy) fr hR
theorem e5_longDay {k t : Int} (hR : RC h S F) (hI : mI0 S) (hJ : mIP S) (hK : ∀ k, 0 ≤ k → k < S 1 → mT S k) (rk : -2147483648 ≤ k ∧ k < 2147483648) (rt : -2147483648 ≤ t ∧ t < 2147483648) : Ex l 7 yX5_longDay.cls yX5_longDay.name cX5_longDay 7 (some .int) 0 [some (.ref 0), some (.int (iI k)), some (.int (iI t)), none, none, none, none] [] h (lkP h S F (some (.int (iI (sLong S k t))))) := by
  obtain ⟨⟨i1, i2⟩, ⟨i3, i4⟩, i5, i6⟩ := id hI
  obtain ⟨⟨im, hX⟩, -⟩ := id hR
  have hW := hR.w
  have fr := FrS.rf h
  by_cases hk : 0 ≤ k ∧ k < S 1
  · obtain ⟨w, ht, hC, h47⟩ := hR.2.2.2 k hk.1 hk.2
    have hM := hK k hk.1 hk.2
    obtain ⟨ea, to, fro, en, ca, cb, -, hT, -⟩ := CT.op hC
    obtain ⟨tk, -⟩ := id hM
    refine ex_of (fun _ _ => ev_aload_n (pc' := 1) dX5_longDay_0 rfl rfl) ?_
    refine ex_of (fun _ _ => ev_getfield (pc' := 4) fX5_12 dX5_longDay_1 rfl hX rfl) ?_
    refine ex_of (fun _ _ => ev_iload_n (pc' := 5) dX5_longDay_4 rfl rfl) ?_
    refine ex_of (fun _ _ => ev_callV1 (pc' := 8) kX5_137 mX4_travellerOf dX5_longDay_5 rfl rfl (Nat.le_of_ble_eq_true rfl) (Nat.le_of_ble_eq_true rfl) (by decide) rfl hW (e4_travellerOf hR.nw hI hk ht)) ?_
    refine ex_of (fun _ _ => ev_astore_3 (pc' := 9) dX5_longDay_8 rfl (by decide) rfl) ?_
    refine ex_of (fun _ _ => ev_aload_n (pc' := 10) dX5_longDay_9 rfl rfl) ?_
    refine ex_of (fun _ _ => ev_ifnull (pc' := 13) dX5_longDay_10 rfl) ?_
    refine ex_of (fun _ _ => ev_iload_n (pc' := 14) dX5_longDay_13 rfl rfl) ?_
    refine ex_of (fun _ _ => ev_callS1 (pc' := 17) kX5_96 mX5_isMinute dX5_longDay_14 rfl rfl (Nat.le_of_ble_eq_true rfl) (Nat.le_of_ble_eq_true rfl) (by decide) (e5_isMinute (by omega))) ?_
    refine ex_ifd_ne (pc' := 20) (tgt := 22) dX5_longDay_17 (by decide) rfl (fun c17 => ?_) (fun c17 => ?_)
    · refine ex_of (fun _ _ => ev_iconst (pc' := 23) (iI (0)) dX5_longDay_22 rfl (by decide)) ?_
      refine ex_of (fun _ _ => ev_istore_4 (pc' := 25) dX5_longDay_23 rfl (by decide) rfl) ?_
      refine ex_of (fun _ _ => ev_aload_n (pc' := 26) dX5_longDay_25 rfl rfl) ?_
      refine ex_of (fun _ _ => ev_aload_n (pc' := 27) dX5_longDay_26 rfl rfl) ?_
      refine ex_of (fun _ _ => ev_aload_n (pc' := 28) dX5_longDay_27 rfl rfl) ?_
      refine ex_of (fun _ _ => ev_getfield (pc' := 31) fX5_124 dX5_longDay_28 rfl hT rfl) ?_
      refine ex_of (fun _ _ => ev_iload (pc' := 33) dX5_longDay_31 rfl rfl) ?_
      have hO := hX
      obtain ⟨w1, h1, E1, y, rfl, ncy, fr1, hR⟩ := e5_nextChange (l := l) (kd := (S (143 + 45 * k + 0))) (tt := 0) hR hk ht hI hJ hM (by omega) (by omega)
      refine ex_of (fun _ _ => ev_callV3 (pc' := 36) kX5_198 mX5_nextChange dX5_longDay_33 rfl rfl (Nat.le_of_ble_eq_true rfl) (Nat.le_of_ble_eq_true rfl) (by decide) rfl hO E1) ?_
      have fr := fr.tr fr1
      obtain ⟨⟨im, hX⟩, -⟩ := id hR
      have hW := hR.w
      obtain ⟨ea, to, fro, en, ca, cb, -, hT, -⟩ := CT.op (hR.tr hk ht).1
      refine ex_of (fun _ _ => ev_istore_5 (pc' := 38) dX5_longDay_36 rfl (by decide) rfl) ?_
      refine ex_of (fun _ _ => ev_iconst (pc' := 39) (iI (0)) dX5_longDay_38 rfl (by decide)) ?_
      refine ex_of (fun _ _ => ev_istore_6 (pc' := 41) dX5_longDay_39 rfl (by decide) rfl) ?_
      exact ev_deepx (by decide) (e5_lonL (l := l) hk ht hI hJ hM (by omega) 20000 0 y 0 _ (by omega) (by omega) (by omega) ⟨ncy, Or.inl rfl⟩ fr hR)
    · refine ex_of (fun _ _ => ev_iconst (pc' := 21) (iI (-1)) dX5_longDay_20 rfl (by decide)) ?_
      exact ex_end (ev_iret dX5_longDay_21 rfl) (by unfold sLong; first | (rw [if_pos (by omega)]; exact ⟨rfl, fr, hR⟩) | (rw [if_neg (by omega)]; exact ⟨rfl, fr, hR⟩))
  · skip
    refine ex_of (fun _ _ => ev_aload_n (pc' := 1) dX5_longDay_0 rfl rfl) ?_
    refine ex_of (fun _ _ => ev_getfield (pc' := 4) fX5_12 dX5_longDay_1 rfl hX rfl) ?_
    refine ex_of (fun _ _ => ev_iload_n (pc' := 5) dX5_longDay_4 rfl rfl) ?_
    refine ex_of (fun _ _ => ev_callV1 (pc' := 8) kX5_137 mX4_travellerOf dX5_longDay_5 rfl rfl (Nat.le_of_ble_eq_true rfl) (Nat.le_of_ble_eq_true rfl) (by decide) rfl hW (e4_travellerOf0 hR.nw hI (by omega) hk)) ?_
    refine ex_of (fun _ _ => ev_astore_3N (pc' := 9) dX5_longDay_8 rfl (by decide) rfl) ?_
    refine ex_of (fun _ _ => ev_aload_nN (pc' := 10) dX5_longDay_9 rfl rfl) ?_
    refine ex_of (fun _ _ => ev_ifnullN (tgt := 20) dX5_longDay_10 (by decide)) ?_
    refine ex_of (fun _ _ => ev_iconst (pc' := 21) (iI (-1)) dX5_longDay_20 rfl (by decide)) ?_
    exact ex_end (ev_iret dX5_longDay_21 rfl) (⟨by unfold sLong; rw [if_neg (by omega)], fr, hR⟩)
theorem of_str {P : Int → Bool} {p : Bool} {r : Int} : ∀ (j n : Nat) (a was : Int), (j : Int) = r - a → 0 < j → j ≤ n → (∀ m, a ≤ m → m < r → P m = p) → ofM P n a was = (if p = true ∧ was = 0 then 1 else 0) + ofM P (n - j) r (if p = true then 1 else 0)
  | 0, _, _, _, _, h, _, _ => absurd h (by decide)
  | j + 1, n, a, was, e, _, hn, hp => by
    obtain ⟨n', rfl⟩ : ∃ n', n = n' + 1 := ⟨n - 1, by omega⟩
    have pa := hp a (by omega) (by omega)
    conv => lhs; unfold ofM
    rw [pa]
    by_cases c : j = 0
    · subst c
      rw [show a + 1 = r by omega]
      rfl
    · rw [of_str j n' (a + 1) (if p = true then 1 else 0) (by omega) (by omega) (by omega) (fun m m1 m2 => hp m (by omega) m2), show n' + 1 - (j + 1) = n' - j by omega]
      cases p
      · simp
      · simp
theorem e5_ofL {w : Nat} {t dd T : Int} (hk : 0 ≤ k ∧ k < S 1) (ht : F k.toNat = some w) (hI : mI0 S) (hJ : mIP S) (hM : mT S k) (rt : 0 ≤ t ∧ t ≤ 19999) (rdd : -2147483648 ≤ dd ∧ dd < 2147483648) : ∀ (n : Nat) (at1 acc was : Int) (i : Nat) (h : ev_H), 20000 - at1 ≤ n → (0 ≤ at1 ∧ at1 ≤ 20000) → i ≤ at1 → T = acc + ofM (fun x => decide (dyF S k (S (143 + 45 * k + 0)) x = dd)) (t + 1 - at1).toNat at1 was → (was = 0 ∨ dyF S k (S (143 + 45 * k + 0)) at1 ≠ dd ∨ at1 = 20000) → FrS h0 h → RC h S F → Ex l 6 yX5_often.cls yX5_often.name cX5_often 8 (some .int) 33 [some (.ref 0), some (.int (iI k)), some (.int (iI dd)), some (.int (iI t)), some (.ref w), some (.int (iI acc)), some (.int (iI at1)), some (.int (iI (i : Int)))] [] h (lkP h0 S F (some (.int (iI T)))) := by
  intro n
  obtain ⟨tk, -⟩ := id hM
  induction n with
  | zero =>
    intro at1 acc was i h hn ha hi hT hw fr hR
    refine ex_of (fun _ _ => ev_iload (pc' := 35) dX5_often_33 rfl rfl) ?_
    refine ex_of (fun _ _ => ev_sipush (pc' := 38) (iI (19999)) dX5_often_35 rfl (by decide)) ?_
    refine ex_icmpI_gt (pc' := 41) (tgt := 88) dX5_often_38 (by decide) rfl (by omega) (by omega) (fun c38 => ?_) (fun c38 => ?_)
    · refine ex_of (fun _ _ => ev_iload (pc' := 90) dX5_often_88 rfl rfl) ?_
      exact ex_end (ev_iret dX5_often_90 rfl) (⟨by rw [hT, show (t + 1 - at1).toNat = 0 by omega]; show _ = some (Value.int (iI (acc + 0))); rw [Int.add_zero], fr, hR⟩)
    · refine ex_of (fun _ _ => ev_iload (pc' := 43) dX5_often_41 rfl rfl) ?_
      refine ex_of (fun _ _ => ev_iload_n (pc' := 44) dX5_often_43 rfl rfl) ?_
      refine ex_icmpI_gt (pc' := 47) (tgt := 88) dX5_often_44 (by decide) rfl (by omega) (by omega) (fun c44 => ?_) (fun c44 => ?_)
      · refine ex_of (fun _ _ => ev_iload (pc' := 90) dX5_often_88 rfl rfl) ?_
        exact ex_end (ev_iret dX5_often_90 rfl) (⟨by rw [hT, show (t + 1 - at1).toNat = 0 by omega]; show _ = some (Value.int (iI (acc + 0))); rw [Int.add_zero], fr, hR⟩)
      · omega
  | succ n ih =>
    intro at1 acc was i h hn ha hi hTT hw fr hR
    obtain ⟨⟨im, hX⟩, -⟩ := id hR
    have hW := hR.w
    obtain ⟨ea, to, fro, en, ca, cb, -, hT, -⟩ := CT.op (hR.tr hk ht).1
    refine ex_of (fun _ _ => ev_iload (pc' := 35) dX5_often_33 rfl rfl) ?_
    refine ex_of (fun _ _ => ev_sipush (pc' := 38) (iI (19999)) dX5_often_35 rfl (by decide)) ?_
    refine ex_icmpI_gt (pc' := 41) (tgt := 88) dX5_often_38 (by decide) rfl (by omega) (by omega) (fun c38 => ?_) (fun c38 => ?_)
    · refine ex_of (fun _ _ => ev_iload (pc' := 90) dX5_often_88 rfl rfl) ?_
      exact ex_end (ev_iret dX5_often_90 rfl) (⟨by rw [hTT, show (t + 1 - at1).toNat = 0 by omega]; show _ = some (Value.int (iI (acc + 0))); rw [Int.add_zero], fr, hR⟩)
    · refine ex_of (fun _ _ => ev_iload (pc' := 43) dX5_often_41 rfl rfl) ?_
      refine ex_of (fun _ _ => ev_iload_n (pc' := 44) dX5_often_43 rfl rfl) ?_
      refine ex_icmpI_gt (pc' := 47) (tgt := 88) dX5_often_44 (by decide) rfl (by omega) (by omega) (fun c44 => ?_) (fun c44 => ?_)
      · refine ex_of (fun _ _ => ev_iload (pc' := 90) dX5_often_88 rfl rfl) ?_
        exact ex_end (ev_iret dX5_often_90 rfl) (⟨by rw [hTT, show (t + 1 - at1).toNat = 0 by omega]; show _ = some (Value.int (iI (acc + 0))); rw [Int.add_zero], fr, hR⟩)
      · have rm := dyF_b (S := S) (k := k) (kd := S (143 + 45 * k + 0)) (m := at1) hJ hM (by omega)
        refine ex_of (fun _ _ => ev_aload_n (pc' := 48) dX5_often_47 rfl rfl) ?_
        refine ex_of (fun _ _ => ev_aload (pc' := 50) dX5_often_48 rfl rfl) ?_
        refine ex_of (fun _ _ => ev_aload (pc' := 52) dX5_often_50 rfl rfl) ?_
        refine ex_of (fun _ _ => ev_getfield (pc' := 55) fX5_124 dX5_often_52 rfl hT rfl) ?_
        refine ex_of (fun _ _ => ev_iload (pc' := 57) dX5_often_55 rfl rfl) ?_
        have hO := hX
        obtain ⟨w1, h1, E1, rfl, fr1, hR⟩ := e5_dayD (l := l) (kd := (S (143 + 45 * k + 0))) (tt := at1) hR hk ht hI hJ hM (by omega) (by omega)
        refine ex_of (fun _ _ => ev_callV3 (pc' := 60) kX5_194 mX5_dayTold dX5_often_57 rfl rfl (Nat.le_of_ble_eq_true rfl) (Nat.le_of_ble_eq_true rfl) (by decide) rfl hO E1) ?_
        have fr := fr.tr fr1
        obtain ⟨⟨im, hX⟩, -⟩ := id hR
        have hW := hR.w
        obtain ⟨ea, to, fro, en, ca, cb, -, hT, -⟩ := CT.op (hR.tr hk ht).1
        refine ex_of (fun _ _ => ev_iload_n (pc' := 61) dX5_often_60 rfl rfl) ?_
        refine ex_icmpI_ne (pc' := 64) (tgt := 67) dX5_often_61 (by decide) rfl (by omega) (by omega) (fun c61 => ?_) (fun c61 => ?_)
        · refine ex_of (fun _ _ => ev_aload_n (pc' := 68) dX5_often_67 rfl rfl) ?_
          refine ex_of (fun _ _ => ev_aload (pc' := 70) dX5_often_68 rfl rfl) ?_
          refine ex_of (fun _ _ => ev_aload (pc' := 72) dX5_often_70 rfl rfl) ?_
          refine ex_of (fun _ _ => ev_getfield (pc' := 75) fX5_124 dX5_often_72 rfl hT rfl) ?_
          refine ex_of (fun _ _ => ev_iload (pc' := 77) dX5_often_75 rfl rfl) ?_
          have hO := hX
          obtain ⟨w1, h1, E1, r, rfl, ncr, fr2, hR⟩ := e5_nextChange (l := l) (kd := (S (143 + 45 * k + 0))) (tt := at1) hR hk ht hI hJ hM (by omega) (by omega)
          refine ex_of (fun _ _ => ev_callV3 (pc' := 80) kX5_198 mX5_nextChange dX5_often_77 rfl rfl (Nat.le_of_ble_eq_true rfl) (Nat.le_of_ble_eq_true rfl) (by decide) rfl hO E1) ?_
          have fr := fr.tr fr2
          obtain ⟨⟨im, hX⟩, -⟩ := id hR
          have hW := hR.w
          obtain ⟨ea, to, fro, en, ca, cb, -, hT, -⟩ := CT.op (hR.tr hk ht).1
          refine ex_of (fun _ _ => ev_istore_6 (pc' := 82) dX5_often_80 rfl (by decide) rfl) ?_
          refine ex_of (fun _ _ => ev_iincI_7 (pc' := 85) dX5_often_82 rfl (by decide) rfl) ?_
          refine ex_of (fun _ _ => ev_goto (tgt := 33) dX5_often_85 (by decide)) ?_
          have nb := ncr.1
          have key : T = acc + ofM (fun x => decide (dyF S k (S (143 + 45 * k + 0)) x = dd)) (t + 1 - r).toNat r 0 := by
            by_cases q : r ≤ t
            · have z := of_str (P := (fun x => decide (dyF S k (S (143 + 45 * k + 0)) x = dd))) (p := false) (r := r) (r - at1).toNat (t + 1 - at1).toNat at1 was (by omega) (by omega) (by omega) (fun m m1 m2 => decide_eq_false (fun z => c61 ((ncr.sk m m1 (by omega)).symm.trans z)))
              rw [show (t + 1 - at1).toNat - (r - at1).toNat = (t + 1 - r).toNat by omega] at z
              rw [hTT, z]
              rw [if_neg (fun z => absurd z.1 (by decide)), if_neg (by decide)]; first | omega | (show acc + (0 + 0) = acc + 0; omega)
            · have z := of_str (P := (fun x => decide (dyF S k (S (143 + 45 * k + 0)) x = dd))) (p := false) (r := t + 1) (t + 1 - at1).toNat (t + 1 - at1).toNat at1 was (by omega) (by omega) (by omega) (fun m m1 m2 => decide_eq_false (fun z => c61 ((ncr.sk m m1 (by omega)).symm.trans z)))
              rw [Nat.sub_self] at z
              rw [hTT, z, show (t + 1 - r).toNat = 0 by omega]
              rw [if_neg (fun z => absurd z.1 (by decide)), if_neg (by decide)]; first | omega | (show acc + (0 + 0) = acc + 0; omega)
          exact ih r acc 0 (i + 1) _ (by omega) (by omega) (by omega) key (Or.inl rfl) fr hR
        · refine ex_of (fun _ _ => ev_iincI_5 (pc' := 67) dX5_often_64 rfl (by decide) rfl) ?_
          refine ex_of (fun _ _ => ev_aload_n (pc' := 68) dX5_often_67 rfl rfl) ?_
          refine ex_of (fun _ _ => ev_aload (pc' := 70) dX5_often_68 rfl rfl) ?_
          refine ex_of (fun _ _ => ev_aload (pc' := 72) dX5_often_70 rfl rfl) ?_
          refine ex_of (fun _ _ => ev_getfield (pc' := 75) fX5_124 dX5_often_72 rfl hT rfl) ?_
          refine ex_of (fun _ _ => ev_iload (pc' := 77) dX5_often_75 rfl rfl) ?_
          have hO := hX
          obtain ⟨w1, h1, E1, r, rfl, ncr, fr2, hR⟩ := e5_nextChange (l := l) (kd := (S (143 + 45 * k + 0))) (tt := at1) hR hk ht hI hJ hM (by omega) (by omega)
          refine ex_of (fun _ _ => ev_callV3 (pc' := 80) kX5_198 mX5_nextChange dX5_often_77 rfl rfl (Nat.le_of_ble_eq_true rfl) (Nat.le_of_ble_eq_true rfl) (by decide) rfl hO E1) ?_
          have fr := fr.tr fr2
          obtain ⟨⟨im, hX⟩, -⟩ := id hR
          have hW := hR.w
          obtain ⟨ea, to, fro, en, ca, cb, -, hT, -⟩ := CT.op (hR.tr hk ht).1
          refine ex_of (fun _ _ => ev_istore_6 (pc' := 82) dX5_often_80 rfl (by decide) rfl) ?_
          refine ex_of (fun _ _ => ev_iincI_7 (pc' := 85) dX5_often_82 rfl (by decide) rfl) ?_
          refine ex_of (fun _ _ => ev_goto (tgt := 33) dX5_often_85 (by decide)) ?_
          have nb := ncr.1
          have key : T = (acc + 1) + ofM (fun x => decide (dyF S k (S (143 + 45 * k + 0)) x = dd)) (t + 1 - r).toNat r 1 := by
            by_cases q : r ≤ t
            · have z := of_str (P := (fun x => decide (dyF S k (S (143 + 45 * k + 0)) x = dd))) (p := true) (r := r) (r - at1).toNat (t + 1 - at1).toNat at1 was (by omega) (by omega) (by omega) (fun m m1 m2 => decide_eq_true ((ncr.sk m m1 (by omega)).trans c61))
              rw [show (t + 1 - at1).toNat - (r - at1).toNat = (t + 1 - r).toNat by omega] at z
              rw [hTT, z]
              rw [if_pos ⟨rfl, by rcases hw with z | z | z; exact z; exact absurd c61 z; omega⟩, if_pos rfl]; first | omega | (show acc + (1 + 0) = acc + 1 + 0; omega)
            · have z := of_str (P := (fun x => decide (dyF S k (S (143 + 45 * k + 0)) x = dd))) (p := true) (r := t + 1) (t + 1 - at1).toNat (t + 1 - at1).toNat at1 was (by omega) (by omega) (by omega) (fun m m1 m2 => decide_eq_true ((ncr.sk m m1 (by omega)).trans c61))
              rw [Nat.sub_self] at z
              rw [hTT, z, show (t + 1 - r).toNat = 0 by omega]
              rw [if_pos ⟨rfl, by rcases hw with z | z | z; exact z; exact absurd c61 z; omega⟩, if_pos rfl]; first | omega | (show acc + (1 + 0) = acc + 1 + 0; omega)
          exact ih r (acc + 1) 1 (i + 1) _ (by omega) (by omega) (by omega) key (Or.inr (by by_cases q : r = 20000; exact Or.inr q; exact Or.inl (fun z => ncr.2.2 (by omega) (z.trans c61.symm)))) fr hR
theorem e5_often {k dd t : Int} (hR : RC h S F) (hI : mI0 S) (hJ : mIP S) (hK : ∀ k, 0 ≤ k → k < S 1 → mT S k) (rk : -2147483648 ≤ k ∧ k < 2147483648) (rdd : -2147483648 ≤ dd ∧ dd < 2147483648) (rt : -2147483648 ≤ t ∧ t < 2147483648) : Ex l 7 yX5_often.cls yX5_often.name cX5_often 8 (some .int) 0 [some (.ref 0), some (.int (iI k)), some (.int (iI dd)), some (.int (iI t)), none, none, none, none] [] h (lkP h S F (some (.int (iI (sOften S k dd t))))) := by
  obtain ⟨⟨i1, i2⟩, ⟨i3, i4⟩, i5, i6⟩ := id hI
  obtain ⟨⟨im, hX⟩, -⟩ := id hR
  have hW := hR.w
  have fr := FrS.rf h
  by_cases hk : 0 ≤ k ∧ k < S 1
  · obtain ⟨w, ht, hC, h47⟩ := hR.2.2.2 k hk.1 hk.2
    have hM := hK k hk.1 hk.2
    obtain ⟨ea, to, fro, en, ca, cb, -, hT, -⟩ := CT.op hC
    obtain ⟨tk, -⟩ := id hM
    refine ex_of (fun _ _ => ev_aload_n (pc' := 1) dX5_often_0 rfl rfl) ?_
    refine ex_of (fun _ _ => ev_getfield (pc' := 4) fX5_12 dX5_often_1 rfl hX rfl) ?_
    refine ex_of (fun _ _ => ev_iload_n (pc' := 5) dX5_often_4 rfl rfl) ?_
    refine ex_of (fun _ _ => ev_callV1 (pc' := 8) kX5_137 mX4_travellerOf dX5_often_5 rfl rfl (Nat.le_of_ble_eq_true rfl) (Nat.le_of_ble_eq_true rfl) (by decide) rfl hW (e4_travellerOf hR.nw hI hk ht)) ?_
    refine ex_of (fun _ _ => ev_astore_4 (pc' := 10) dX5_often_8 rfl (by decide) rfl) ?_
    refine ex_of (fun _ _ => ev_aload (pc' := 12) dX5_often_10 rfl rfl) ?_
    refine ex_of (fun _ _ => ev_ifnull (pc' := 15) dX5_often_12 rfl) ?_
    refine ex_of (fun _ _ => ev_iload_n (pc' := 16) dX5_often_15 rfl rfl) ?_
    refine ex_of (fun _ _ => ev_callS1 (pc' := 19) kX5_96 mX5_isMinute dX5_often_16 rfl rfl (Nat.le_of_ble_eq_true rfl) (Nat.le_of_ble_eq_true rfl) (by decide) (e5_isMinute (by omega))) ?_
    refine ex_ifd_ne (pc' := 22) (tgt := 24) dX5_often_19 (by decide) rfl (fun c19 => ?_) (fun c19 => ?_)
    · refine ex_of (fun _ _ => ev_iconst (pc' := 25) (iI (0)) dX5_often_24 rfl (by decide)) ?_
      refine ex_of (fun _ _ => ev_istore_5 (pc' := 27) dX5_often_25 rfl (by decide) rfl) ?_
      refine ex_of (fun _ _ => ev_iconst (pc' := 28) (iI (0)) dX5_often_27 rfl (by decide)) ?_
      refine ex_of (fun _ _ => ev_istore_6 (pc' := 30) dX5_often_28 rfl (by decide) rfl) ?_
      refine ex_of (fun _ _ => ev_iconst (pc' := 31) (iI (0)) dX5_often_30 rfl (by decide)) ?_
      refine ex_of (fun _ _ => ev_istore_7 (pc' := 33) dX5_often_31 rfl (by decide) rfl) ?_
      exact ev_deepx (by decide) (e5_ofL (l := l) (T := sOften S k dd t) hk ht hI hJ hM (by omega) (by omega) 20000 0 0 0 0 _ (by omega) (by omega) (by omega) (by unfold sOften; rw [if_pos (by omega), Int.zero_add, show t + 1 - 0 = t + 1 by omega]; rfl) (Or.inl rfl) fr hR)
    · refine ex_of (fun _ _ => ev_iconst (pc' := 23) (iI (-1)) dX5_often_22 rfl (by decide)) ?_
      exact ex_end (ev_iret dX5_often_23 rfl) (by unfold sOften; first | (rw [if_pos (by omega)]; exact ⟨rfl, fr, hR⟩) | (rw [if_neg (by omega)]; exact ⟨rfl, fr, hR⟩))
  · skip
    refine ex_of (fun _ _ => ev_aload_n (pc' := 1) dX5_often_0 rfl rfl) ?_
    refine ex_of (fun _ _ => ev_getfield (pc' := 4) fX5_12 dX5_often_1 rfl hX rfl) ?_
    refine ex_of (fun _ _ => ev_iload_n (pc' := 5) dX5_often_4 rfl rfl) ?_
    refine ex_of (fun _ _ => ev_callV1 (pc' := 8) kX5_137 mX4_travellerOf dX5_often_5 rfl rfl (Nat.le_of_ble_eq_true rfl) (Nat.le_of_ble_eq_true rfl) (by decide) rfl hW (e4_travellerOf0 hR.nw hI (by omega) hk)) ?_
    refine ex_of (fun _ _ => ev_astore_4N (pc' := 10) dX5_often_8 rfl (by decide) rfl) ?_
    refine ex_of (fun _ _ => ev_aloadN (pc' := 12) dX5_often_10 rfl rfl) ?_
    refine ex_of (fun _ _ => ev_ifnullN (tgt := 22) dX5_often_12 (by decide)) ?_
    refine ex_of (fun _ _ => ev_iconst (pc' := 23) (iI (-1)) dX5_often_22 rfl (by decide)) ?_
    exact ex_end (ev_iret dX5_often_23 rfl) (⟨by unfold sOften; rw [if_neg (by omega)], fr, hR⟩)
end CH
