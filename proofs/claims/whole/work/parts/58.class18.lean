section CU
variable {l : Launch} {h h2 : ev_H} {im : Int} {A A' : Nat → Int → Int} {F F2 w w' : Nat → Option Nat} {t : Nat} {k : Int}
theorem cpS_o {S : Int → Int} {k t b y : Int} (hn : 0 ≤ S (143 + 45 * k + 28) ∧ S (143 + 45 * k + 28) < 8) (hy : y < 143 + 45 * k + 28 ∨ 143 + 45 * k + 45 ≤ y) : cpS S k t b y = S y := by
  unfold cpS
  rw [upI_n (by omega), upI_n (by omega), upI_n (by omega)]
theorem cpS_28 {S : Int → Int} {k t b : Int} : cpS S k t b (143 + 45 * k + 28) = S (143 + 45 * k + 28) + 1 := by unfold cpS; rw [upI_s]
theorem cpS_i {S : Int → Int} {k t b i : Int} (hn : 0 ≤ S (143 + 45 * k + 28) ∧ S (143 + 45 * k + 28) < 8) (hi : 0 ≤ i ∧ i < 8) : cpS S k t b (143 + 45 * k + (29 + 2 * i)) = (if i = S (143 + 45 * k + 28) then t else S (143 + 45 * k + (29 + 2 * i))) ∧ cpS S k t b (143 + 45 * k + (30 + 2 * i)) = (if i = S (143 + 45 * k + 28) then b else S (143 + 45 * k + (30 + 2 * i))) := by
  unfold cpS
  generalize hS : S (143 + 45 * k + 28) = n at *
  by_cases c : i = n
  · subst c
    refine ⟨?_, ?_⟩
    · rw [upI_n (by omega), upI_n (by omega), show 143 + 45 * k + (29 + 2 * i) = 143 + 45 * k + 28 + 1 + 2 * i by omega, upI_s, if_pos rfl]
    · rw [upI_n (by omega), show 143 + 45 * k + (30 + 2 * i) = 143 + 45 * k + 28 + 2 + 2 * i by omega, upI_s, if_pos rfl]
  · simp only [if_neg c]
    refine ⟨?_, ?_⟩ <;> rw [upI_n (by omega), upI_n (by omega), upI_n (by omega)]
theorem c_captain {k y b : Int} (x : CL h im A F F2 w) (hI : mI0 (A 0)) (hK : ∀ k, 0 ≤ k → k < A 0 1 → mT (A 0) k) (rk : -2147483648 ≤ k ∧ k < 2147483648) (ry : -2147483648 ≤ y ∧ y < 2147483648) (rb : -2147483648 ≤ b ∧ b < 2147483648) : Ex l 1 yX5_captain.cls yX5_captain.name cX5_captain 5 (some .int) 0 [some (.ref 0), some (.int (iI k)), some (.int (iI y)), some (.int (iI b)), none] [] h (clP h (if cpB (A 0) k y b then some (.int (iI (A 0 (143 + 45 * k + 28) + 1))) else some (.int (iI (cpX (A 0) k y b)))) im (if cpB (A 0) k y b then upA A 0 (cpS (A 0) k y b) else A)) := by
  obtain ⟨⟨i1, i2⟩, ⟨i3, i4⟩, i5, i6⟩ := id hI
  have hR := x.rc
  have hX0 := x.x0
  have hN := hR.nw
  obtain ⟨D, R, C, Q, X, hW, ⟨hD, eD⟩, ⟨hRu, eR⟩, ⟨hC, eC⟩, ⟨hQ, eQ⟩, ⟨hX, eX⟩, hF⟩ := CW.op hN
  by_cases hk : 0 ≤ k ∧ k < A 0 1
  · obtain ⟨t, ht, hCT, h47⟩ := hR.2.2.2 k hk.1 hk.2
    have hM := hK k hk.1 hk.2
    obtain ⟨t0, t1, t2, t3, t4, t5, t6, t7⟩ := id hM
    obtain ⟨ea, to, fro, en, ca, cb, ⟨be1, be2⟩, hT, ⟨hto, eto⟩, ⟨hfr, efr⟩, ⟨hen, een⟩, ⟨hca, eca⟩, ⟨hcb, ecb⟩⟩ := CT.op hCT
    refine ex_of (fun _ _ => ev_aload_n (pc' := 1) dX5_captain_0 rfl rfl) ?_
    refine ex_of (fun _ _ => ev_getfield (pc' := 4) fX5_12 dX5_captain_1 rfl hX0 rfl) ?_
    refine ex_of (fun _ _ => ev_iload_n (pc' := 5) dX5_captain_4 rfl rfl) ?_
    refine ex_of (fun _ _ => ev_callV1 (pc' := 8) kX5_137 mX4_travellerOf dX5_captain_5 rfl rfl (Nat.le_of_ble_eq_true rfl) (Nat.le_of_ble_eq_true rfl) (by decide) rfl hW (e4_travellerOf hN hI hk ht)) ?_
    refine ex_of (fun _ _ => ev_astore_4 (pc' := 10) dX5_captain_8 rfl (by decide) rfl) ?_
    refine ex_of (fun _ _ => ev_aload (pc' := 12) dX5_captain_10 rfl rfl) ?_
    refine ex_of (fun _ _ => ev_ifnull (pc' := 15) dX5_captain_12 rfl) ?_
    refine ex_of (fun _ _ => ev_iload_n (pc' := 16) dX5_captain_15 rfl rfl) ?_
    refine ex_of (fun _ _ => ev_callS1 (pc' := 19) kX5_96 mX5_isMinute dX5_captain_16 rfl rfl (Nat.le_of_ble_eq_true rfl) (Nat.le_of_ble_eq_true rfl) (by decide) (e5_isMinute (by omega))) ?_
    refine ex_ifd_eq (pc' := 22) (tgt := 32) dX5_captain_19 (by decide) rfl (fun c19 => ?_) (fun c19 => ?_)
    · refine ex_of (fun _ _ => ev_iconst (pc' := 33) (iI (-1)) dX5_captain_32 rfl (by decide)) ?_
      exact ex_end (ev_iret dX5_captain_33 rfl) (by rw [show cpB (A 0) k y b = false from decide_eq_false (by omega), show cpX (A 0) k y b = -1 by unfold cpX; (repeat (first | rw [if_pos (by omega)] | rw [if_neg (by omega)]))]; exact x.same)
    · refine ex_of (fun _ _ => ev_iload_n (pc' := 23) dX5_captain_22 rfl rfl) ?_
      refine ex_of (fun _ _ => ev_iconst (pc' := 24) (iI (1)) dX5_captain_23 rfl (by decide)) ?_
      refine ex_icmpI_eq (pc' := 27) (tgt := 34) dX5_captain_24 (by decide) rfl (by omega) (by omega) (fun c24 => ?_) (fun c24 => ?_)
      · refine ex_of (fun _ _ => ev_aload (pc' := 36) dX5_captain_34 rfl rfl) ?_
        refine ex_of (fun _ _ => ev_getfield (pc' := 39) fX5_151 dX5_captain_36 rfl hT rfl) ?_
        refine ex_of (fun _ _ => ev_bipush (pc' := 41) (iI (8)) dX5_captain_39 rfl (by decide)) ?_
        refine ex_icmpI_lt (pc' := 44) (tgt := 47) dX5_captain_41 (by decide) rfl (by omega) (by omega) (fun c41 => ?_) (fun c41 => ?_)
        · refine ex_of (fun _ _ => ev_aload (pc' := 49) dX5_captain_47 rfl rfl) ?_
          refine ex_of (fun _ _ => ev_getfield (pc' := 52) fX5_124 dX5_captain_49 rfl hT rfl) ?_
          refine ex_of (fun _ _ => ev_iconst (pc' := 53) (iI (4)) dX5_captain_52 rfl (by decide)) ?_
          refine ex_icmpI_eq (pc' := 56) (tgt := 59) dX5_captain_53 (by decide) rfl (by omega) (by omega) (fun c53 => ?_) (fun c53 => ?_)
          · have g1 : (h.set (t + 4) (mA 8 (upI ca (A 0 (143 + 45 * k + 28)) y)))[t]? = _ := ev_gn (by omega) hT
            have g2 : ((h.set (t + 4) (mA 8 (upI ca (A 0 (143 + 45 * k + 28)) y))).set (t + 5) (mA 8 (upI cb (A 0 (143 + 45 * k + 28)) b)))[t]? = _ := ev_gn (by omega) g1
            refine ex_of (fun _ _ => ev_aload (pc' := 61) dX5_captain_59 rfl rfl) ?_
            refine ex_of (fun _ _ => ev_getfield (pc' := 64) fX5_154 dX5_captain_61 rfl hT rfl) ?_
            refine ex_of (fun _ _ => ev_aload (pc' := 66) dX5_captain_64 rfl rfl) ?_
            refine ex_of (fun _ _ => ev_getfield (pc' := 69) fX5_151 dX5_captain_66 rfl hT rfl) ?_
            refine ex_of (fun _ _ => ev_iload_n (pc' := 70) dX5_captain_69 rfl rfl) ?_
            refine ex_of (fun _ _ => ev_iastoreI (pc' := 71) dX5_captain_70 rfl hca (by decide) (by omega)) ?_
            refine ex_of (fun _ _ => ev_aload (pc' := 73) dX5_captain_71 rfl rfl) ?_
            refine ex_of (fun _ _ => ev_getfield (pc' := 76) fX5_157 dX5_captain_73 rfl g1 rfl) ?_
            refine ex_of (fun _ _ => ev_aload (pc' := 78) dX5_captain_76 rfl rfl) ?_
            refine ex_of (fun _ _ => ev_getfield (pc' := 81) fX5_151 dX5_captain_78 rfl g1 rfl) ?_
            refine ex_of (fun _ _ => ev_iload_n (pc' := 82) dX5_captain_81 rfl rfl) ?_
            refine ex_of (fun _ _ => ev_iastoreI (pc' := 83) dX5_captain_82 rfl ((set_ne (by omega)).trans hcb) (by decide) (by omega)) ?_
            refine ex_of (fun _ _ => ev_aload (pc' := 85) dX5_captain_83 rfl rfl) ?_
            refine ex_of (fun _ _ => ev_dup (pc' := 86) dX5_captain_85 rfl rfl) ?_
            refine ex_of (fun _ _ => ev_getfield (pc' := 89) fX5_151 dX5_captain_86 rfl g2 rfl) ?_
            refine ex_of (fun _ _ => ev_iconst (pc' := 90) (iI (1)) dX5_captain_89 rfl (by decide)) ?_
            refine ex_of (fun _ _ => ev_iaddI (pc' := 91) dX5_captain_90 rfl) ?_
            refine ex_of (fun _ _ => ev_putfield (pc' := 94) (pX5_151 _) dX5_captain_91 rfl g2 rfl rfl (Nat.le_of_ble_eq_true rfl)) ?_
            refine ex_of (fun _ _ => ev_aload (pc' := 96) dX5_captain_94 rfl rfl) ?_
            refine ex_of (fun _ _ => ev_getfield (pc' := 99) fX5_151 dX5_captain_96 rfl (ev_gs g2) rfl) ?_
            exact ex_end (ev_iret dX5_captain_99 rfl) (by
    rw [show cpB (A 0) k y b = true from decide_eq_true (by omega)]
    have hn6 : 0 ≤ A 0 (143 + 45 * k + 28) ∧ A 0 (143 + 45 * k + 28) < 8 := by omega
    have li := fun i hi => cpS_i (S := A 0) (k := k) (t := y) (b := b) (i := i) hn6 hi
    have L : (((h.set (t + 4) (mA 8 (upI ca (A 0 (143 + 45 * k + 28)) y))).set (t + 5) (mA 8 (upI cb (A 0 (143 + 45 * k + 28)) b))).set t (cTr k (A 0 (143 + 45 * k + 0)) (A 0 (143 + 45 * k + 1)) (A 0 (143 + 45 * k + 2)) (A 0 (143 + 45 * k + 3)) ea (A 0 (143 + 45 * k + 28) + 1) (t + 1) (t + 2) (t + 3) (t + 4) (t + 5))).length = h.length := by rw [List.length_set, List.length_set, List.length_set]
    have e9 : ∀ j, ¬ (t ≤ j ∧ j ≤ t + 5) → (((h.set (t + 4) (mA 8 (upI ca (A 0 (143 + 45 * k + 28)) y))).set (t + 5) (mA 8 (upI cb (A 0 (143 + 45 * k + 28)) b))).set t (cTr k (A 0 (143 + 45 * k + 0)) (A 0 (143 + 45 * k + 1)) (A 0 (143 + 45 * k + 2)) (A 0 (143 + 45 * k + 3)) ea (A 0 (143 + 45 * k + 28) + 1) (t + 1) (t + 2) (t + 3) (t + 4) (t + 5)))[j]? = h[j]? := fun j hj => (set_ne (by omega)).trans ((set_ne (by omega)).trans (set_ne (by omega)))
    have e8 : ∀ j, t + 1 ≤ j → j ≤ t + 3 → (((h.set (t + 4) (mA 8 (upI ca (A 0 (143 + 45 * k + 28)) y))).set (t + 5) (mA 8 (upI cb (A 0 (143 + 45 * k + 28)) b))).set t (cTr k (A 0 (143 + 45 * k + 0)) (A 0 (143 + 45 * k + 1)) (A 0 (143 + 45 * k + 2)) (A 0 (143 + 45 * k + 3)) ea (A 0 (143 + 45 * k + 28) + 1) (t + 1) (t + 2) (t + 3) (t + 4) (t + 5)))[j]? = h[j]? := fun j h1 h2 => (set_ne (by omega)).trans ((set_ne (by omega)).trans (set_ne (by omega)))
    have hc : CT (((h.set (t + 4) (mA 8 (upI ca (A 0 (143 + 45 * k + 28)) y))).set (t + 5) (mA 8 (upI cb (A 0 (143 + 45 * k + 28)) b))).set t (cTr k (A 0 (143 + 45 * k + 0)) (A 0 (143 + 45 * k + 1)) (A 0 (143 + 45 * k + 2)) (A 0 (143 + 45 * k + 3)) ea (A 0 (143 + 45 * k + 28) + 1) (t + 1) (t + 2) (t + 3) (t + 4) (t + 5))) t (win (cpS (A 0) k y b) k) k := by
      refine ⟨ea, ⟨be1, fun i i1 i2 => ?_⟩, ?_, ⟨to, (e8 _ (by omega) (by omega)).trans hto, fun i i1 i2 => ?_⟩, ⟨fro, (e8 _ (by omega) (by omega)).trans hfr, fun i i1 i2 => ?_⟩, ⟨en, (e8 _ (by omega) (by omega)).trans hen, fun i i1 i2 => ?_⟩, ⟨_, (set_ne (by omega)).trans ((set_ne (by omega)).trans (ev_gs hca)), fun i i1 i2 => ?_⟩, ⟨_, (set_ne (by omega)).trans (ev_gs ((set_ne (by omega)).trans hcb)), fun i i1 i2 => ?_⟩⟩
      · show _ = cpS (A 0) k y b (143 + 45 * k + (4 + 4 * i + 1))
        rw [cpS_o hn6 (by omega), be2 i i1 i2]
      · rw [ev_gs g2]
        show _ = some (cTr k (cpS (A 0) k y b (143 + 45 * k + 0)) (cpS (A 0) k y b (143 + 45 * k + 1)) (cpS (A 0) k y b (143 + 45 * k + 2)) (cpS (A 0) k y b (143 + 45 * k + 3)) ea (cpS (A 0) k y b (143 + 45 * k + 28)) (t + 1) (t + 2) (t + 3) (t + 4) (t + 5))
        rw [cpS_o hn6 (by omega), cpS_o hn6 (by omega), cpS_o hn6 (by omega), cpS_o hn6 (by omega), cpS_28]
      · show to i = cpS (A 0) k y b (143 + 45 * k + (4 + 4 * i + 0))
        rw [cpS_o hn6 (by omega), eto i i1 i2]
      · show fro i = cpS (A 0) k y b (143 + 45 * k + (4 + 4 * i + 2))
        rw [cpS_o hn6 (by omega), efr i i1 i2]
      · show en i = cpS (A 0) k y b (143 + 45 * k + (4 + 4 * i + 2)) + 60 * cpS (A 0) k y b (143 + 45 * k + (4 + 4 * i + 3))
        rw [cpS_o hn6 (by omega), cpS_o hn6 (by omega), een i i1 i2]
      · show upI ca _ y i = cpS (A 0) k y b (143 + 45 * k + (29 + 2 * i))
        rw [(li i ⟨i1, i2⟩).1]
        by_cases z : i = A 0 (143 + 45 * k + 28)
        · rw [if_pos z, z, upI_s]
        · rw [if_neg z, upI_n z, eca i i1 i2]
      · show upI cb _ b i = cpS (A 0) k y b (143 + 45 * k + (30 + 2 * i))
        rw [(li i ⟨i1, i2⟩).2]
        by_cases z : i = A 0 (143 + 45 * k + 28)
        · rw [if_pos z, z, upI_s]
        · rw [if_neg z, upI_n z, ecb i i1 i2]
    have K := x.trv hk ht L e9 hc (fun p hp => cpS_o hn6 (by omega)) hI
    exact ⟨rfl, K.2, F, F2, w, K.1⟩)
          · refine ex_of (fun _ _ => ev_bipush (pc' := 58) (iI (-3)) dX5_captain_56 rfl (by decide)) ?_
            exact ex_end (ev_iret dX5_captain_58 rfl) (by rw [show cpB (A 0) k y b = false from decide_eq_false (by omega), show cpX (A 0) k y b = -3 by unfold cpX; (repeat (first | rw [if_pos (by omega)] | rw [if_neg (by omega)]))]; exact x.same)
        · refine ex_of (fun _ _ => ev_bipush (pc' := 46) (iI (-2)) dX5_captain_44 rfl (by decide)) ?_
          exact ex_end (ev_iret dX5_captain_46 rfl) (by rw [show cpB (A 0) k y b = false from decide_eq_false (by omega), show cpX (A 0) k y b = -2 by unfold cpX; (repeat (first | rw [if_pos (by omega)] | rw [if_neg (by omega)]))]; exact x.same)
      · refine ex_of (fun _ _ => ev_iload_n (pc' := 28) dX5_captain_27 rfl rfl) ?_
        refine ex_of (fun _ _ => ev_iconst (pc' := 29) (iI (-1)) dX5_captain_28 rfl (by decide)) ?_
        refine ex_icmpI_eq (pc' := 32) (tgt := 34) dX5_captain_29 (by decide) rfl (by omega) (by omega) (fun c29 => ?_) (fun c29 => ?_)
        · refine ex_of (fun _ _ => ev_aload (pc' := 36) dX5_captain_34 rfl rfl) ?_
          refine ex_of (fun _ _ => ev_getfield (pc' := 39) fX5_151 dX5_captain_36 rfl hT rfl) ?_
          refine ex_of (fun _ _ => ev_bipush (pc' := 41) (iI (8)) dX5_captain_39 rfl (by decide)) ?_
          refine ex_icmpI_lt (pc' := 44) (tgt := 47) dX5_captain_41 (by decide) rfl (by omega) (by omega) (fun c41 => ?_) (fun c41 => ?_)
          · refine ex_of (fun _ _ => ev_aload (pc' := 49) dX5_captain_47 rfl rfl) ?_
            refine ex_of (fun _ _ => ev_getfield (pc' := 52) fX5_124 dX5_captain_49 rfl hT rfl) ?_
            refine ex_of (fun _ _ => ev_iconst (pc' := 53) (iI (4)) dX5_captain_52 rfl (by decide)) ?_
            refine ex_icmpI_eq (pc' := 56) (tgt := 59) dX5_captain_53 (by decide) rfl (by omega) (by omega) (fun c53 => ?_) (fun c53 => ?_)
            · have g1 : (h.set (t + 4) (mA 8 (upI ca (A 0 (143 + 45 * k + 28)) y)))[t]? = _ := ev_gn (by omega) hT
              have g2 : ((h.set (t + 4) (mA 8 (upI ca (A 0 (143 + 45 * k + 28)) y))).set (t + 5) (mA 8 (upI cb (A 0 (143 + 45 * k + 28)) b)))[t]? = _ := ev_gn (by omega) g1
              refine ex_of (fun _ _ => ev_aload (pc' := 61) dX5_captain_59 rfl rfl) ?_
              refine ex_of (fun _ _ => ev_getfield (pc' := 64) fX5_154 dX5_captain_61 rfl hT rfl) ?_
              refine ex_of (fun _ _ => ev_aload (pc' := 66) dX5_captain_64 rfl rfl) ?_
              refine ex_of (fun _ _ => ev_getfield (pc' := 69) fX5_151 dX5_captain_66 rfl hT rfl) ?_
              refine ex_of (fun _ _ => ev_iload_n (pc' := 70) dX5_captain_69 rfl rfl) ?_
              refine ex_of (fun _ _ => ev_iastoreI (pc' := 71) dX5_captain_70 rfl hca (by decide) (by omega)) ?_
              refine ex_of (fun _ _ => ev_aload (pc' := 73) dX5_captain_71 rfl rfl) ?_
              refine ex_of (fun _ _ => ev_getfield (pc' := 76) fX5_157 dX5_captain_73 rfl g1 rfl) ?_
              refine ex_of (fun _ _ => ev_aload (pc' := 78) dX5_captain_76 rfl rfl) ?_
              refine ex_of (fun _ _ => ev_getfield (pc' := 81) fX5_151 dX5_captain_78 rfl g1 rfl) ?_
              refine ex_of (fun _ _ => ev_iload_n (pc' := 82) dX5_captain_81 rfl rfl) ?_
              refine ex_of (fun _ _ => ev_iastoreI (pc' := 83) dX5_captain_82 rfl ((set_ne (by omega)).trans hcb) (by decide) (by omega)) ?_
              refine ex_of (fun _ _ => ev_aload (pc' := 85) dX5_captain_83 rfl rfl) ?_
              refine ex_of (fun _ _ => ev_dup (pc' := 86) dX5_captain_85 rfl rfl) ?_
              refine ex_of (fun _ _ => ev_getfield (pc' := 89) fX5_151 dX5_captain_86 rfl g2 rfl) ?_
              refine ex_of (fun _ _ => ev_iconst (pc' := 90) (iI (1)) dX5_captain_89 rfl (by decide)) ?_
              refine ex_of (fun _ _ => ev_iaddI (pc' := 91) dX5_captain_90 rfl) ?_
              refine ex_of (fun _ _ => ev_putfield (pc' := 94) (pX5_151 _) dX5_captain_91 rfl g2 rfl rfl (Nat.le_of_ble_eq_true rfl)) ?_
              refine ex_of (fun _ _ => ev_aload (pc' := 96) dX5_captain_94 rfl rfl) ?_
              refine ex_of (fun _ _ => ev_getfield (pc' := 99) fX5_151 dX5_captain_96 rfl (ev_gs g2) rfl) ?_
              exact ex_end (ev_iret dX5_captain_99 rfl) (by
    rw [show cpB (A 0) k y b = true from decide_eq_true (by omega)]
    have hn6 : 0 ≤ A 0 (143 + 45 * k + 28) ∧ A 0 (143 + 45 * k + 28) < 8 := by omega
    have li := fun i hi => cpS_i (S := A 0) (k := k) (t := y) (b := b) (i := i) hn6 hi
    have L : (((h.set (t + 4) (mA 8 (upI ca (A 0 (143 + 45 * k + 28)) y))).set (t + 5) (mA 8 (upI cb (A 0 (143 + 45 * k + 28)) b))).set t (cTr k (A 0 (143 + 45 * k + 0)) (A 0 (143 + 45 * k + 1)) (A 0 (143 + 45 * k + 2)) (A 0 (143 + 45 * k + 3)) ea (A 0 (143 + 45 * k + 28) + 1) (t + 1) (t + 2) (t + 3) (t + 4) (t + 5))).length = h.length := by rw [List.length_set, List.length_set, List.length_set]
    have e9 : ∀ j, ¬ (t ≤ j ∧ j ≤ t + 5) → (((h.set (t + 4) (mA 8 (upI ca (A 0 (143 + 45 * k + 28)) y))).set (t + 5) (mA 8 (upI cb (A 0 (143 + 45 * k + 28)) b))).set t (cTr k (A 0 (143 + 45 * k + 0)) (A 0 (143 + 45 * k + 1)) (A 0 (143 + 45 * k + 2)) (A 0 (143 + 45 * k + 3)) ea (A 0 (143 + 45 * k + 28) + 1) (t + 1) (t + 2) (t + 3) (t + 4) (t + 5)))[j]? = h[j]? := fun j hj => (set_ne (by omega)).trans ((set_ne (by omega)).trans (set_ne (by omega)))
    have e8 : ∀ j, t + 1 ≤ j → j ≤ t + 3 → (((h.set (t + 4) (mA 8 (upI ca (A 0 (143 + 45 * k + 28)) y))).set (t + 5) (mA 8 (upI cb (A 0 (143 + 45 * k + 28)) b))).set t (cTr k (A 0 (143 + 45 * k + 0)) (A 0 (143 + 45 * k + 1)) (A 0 (143 + 45 * k + 2)) (A 0 (143 + 45 * k + 3)) ea (A 0 (143 + 45 * k + 28) + 1) (t + 1) (t + 2) (t + 3) (t + 4) (t + 5)))[j]? = h[j]? := fun j h1 h2 => (set_ne (by omega)).trans ((set_ne (by omega)).trans (set_ne (by omega)))
    have hc : CT (((h.set (t + 4) (mA 8 (upI ca (A 0 (143 + 45 * k + 28)) y))).set (t + 5) (mA 8 (upI cb (A 0 (143 + 45 * k + 28)) b))).set t (cTr k (A 0 (143 + 45 * k + 0)) (A 0 (143 + 45 * k + 1)) (A 0 (143 + 45 * k + 2)) (A 0 (143 + 45 * k + 3)) ea (A 0 (143 + 45 * k + 28) + 1) (t + 1) (t + 2) (t + 3) (t + 4) (t + 5))) t (win (cpS (A 0) k y b) k) k := by
      refine ⟨ea, ⟨be1, fun i i1 i2 => ?_⟩, ?_, ⟨to, (e8 _ (by omega) (by omega)).trans hto, fun i i1 i2 => ?_⟩, ⟨fro, (e8 _ (by omega) (by omega)).trans hfr, fun i i1 i2 => ?_⟩, ⟨en, (e8 _ (by omega) (by omega)).trans hen, fun i i1 i2 => ?_⟩, ⟨_, (set_ne (by omega)).trans ((set_ne (by omega)).trans (ev_gs hca)), fun i i1 i2 => ?_⟩, ⟨_, (set_ne (by omega)).trans (ev_gs ((set_ne (by omega)).trans hcb)), fun i i1 i2 => ?_⟩⟩
      · show _ = cpS (A 0) k y b (143 + 45 * k + (4 + 4 * i + 1))
        rw [cpS_o hn6 (by omega), be2 i i1 i2]
      · rw [ev_gs g2]
        show _ = some (cTr k (cpS (A 0) k y b (143 + 45 * k + 0)) (cpS (A 0) k y b (143 + 45 * k + 1)) (cpS (A 0) k y b (143 + 45 * k + 2)) (cpS (A 0) k y b (143 + 45 * k + 3)) ea (cpS (A 0) k y b (143 + 45 * k + 28)) (t + 1) (t + 2) (t + 3) (t + 4) (t + 5))
        rw [cpS_o hn6 (by omega), cpS_o hn6 (by omega), cpS_o hn6 (by omega), cpS_o hn6 (by omega), cpS_28]
      · show to i = cpS (A 0) k y b (143 + 45 * k + (4 + 4 * i + 0))
        rw [cpS_o hn6 (by omega), eto i i1 i2]
      · show fro i = cpS (A 0) k y b (143 + 45 * k + (4 + 4 * i + 2))
        rw [cpS_o hn6 (by omega), efr i i1 i2]
      · show en i = cpS (A 0) k y b (143 + 45 * k + (4 + 4 * i + 2)) + 60 * cpS (A 0) k y b (143 + 45 * k + (4 + 4 * i + 3))
        rw [cpS_o hn6 (by omega), cpS_o hn6 (by omega), een i i1 i2]
      · show upI ca _ y i = cpS (A 0) k y b (143 + 45 * k + (29 + 2 * i))
        rw [(li i ⟨i1, i2⟩).1]
        by_cases z : i = A 0 (143 + 45 * k + 28)
        · rw [if_pos z, z, upI_s]
        · rw [if_neg z, upI_n z, eca i i1 i2]
      · show upI cb _ b i = cpS (A 0) k y b (143 + 45 * k + (30 + 2 * i))
        rw [(li i ⟨i1, i2⟩).2]
        by_cases z : i = A 0 (143 + 45 * k + 28)
        · rw [if_pos z, z, upI_s]
        · rw [if_neg z, upI_n z, ecb i i1 i2]
    have K := x.trv hk ht L e9 hc (fun p hp => cpS_o hn6 (by omega)) hI
    exact ⟨rfl, K.2, F, F2, w, K.1⟩)
            · refine ex_of (fun _ _ => ev_bipush (pc' := 58) (iI (-3)) dX5_captain_56 rfl (by decide)) ?_
              exact ex_end (ev_iret dX5_captain_58 rfl) (by rw [show cpB (A 0) k y b = false from decide_eq_false (by omega), show cpX (A 0) k y b = -3 by unfold cpX; (repeat (first | rw [if_pos (by omega)] | rw [if_neg (by omega)]))]; exact x.same)
          · refine ex_of (fun _ _ => ev_bipush (pc' := 46) (iI (-2)) dX5_captain_44 rfl (by decide)) ?_
            exact ex_end (ev_iret dX5_captain_46 rfl) (by rw [show cpB (A 0) k y b = false from decide_eq_false (by omega), show cpX (A 0) k y b = -2 by unfold cpX; (repeat (first | rw [if_pos (by omega)] | rw [if_neg (by omega)]))]; exact x.same)
        · refine ex_of (fun _ _ => ev_iconst (pc' := 33) (iI (-1)) dX5_captain_32 rfl (by decide)) ?_
          exact ex_end (ev_iret dX5_captain_33 rfl) (by rw [show cpB (A 0) k y b = false from decide_eq_false (by omega), show cpX (A 0) k y b = -1 by unfold cpX; (repeat (first | rw [if_pos (by omega)] | rw [if_neg (by omega)]))]; exact x.same)
  · skip
    refine ex_of (fun _ _ => ev_aload_n (pc' := 1) dX5_captain_0 rfl rfl) ?_
    refine ex_of (fun _ _ => ev_getfield (pc' := 4) fX5_12 dX5_captain_1 rfl hX0 rfl) ?_
    refine ex_of (fun _ _ => ev_iload_n (pc' := 5) dX5_captain_4 rfl rfl) ?_
    refine ex_of (fun _ _ => ev_callV1 (pc' := 8) kX5_137 mX4_travellerOf dX5_captain_5 rfl rfl (Nat.le_of_ble_eq_true rfl) (Nat.le_of_ble_eq_true rfl) (by decide) rfl hW (e4_travellerOf0 hN hI (by omega) hk)) ?_
    refine ex_of (fun _ _ => ev_astore_4N (pc' := 10) dX5_captain_8 rfl (by decide) rfl) ?_
    refine ex_of (fun _ _ => ev_aloadN (pc' := 12) dX5_captain_10 rfl rfl) ?_
    refine ex_of (fun _ _ => ev_ifnullN (tgt := 32) dX5_captain_12 (by decide)) ?_
    refine ex_of (fun _ _ => ev_iconst (pc' := 33) (iI (-1)) dX5_captain_32 rfl (by decide)) ?_
    exact ex_end (ev_iret dX5_captain_33 rfl) (by rw [show cpB (A 0) k y b = false from decide_eq_false (by omega), show cpX (A 0) k y b = -1 by unfold cpX; (repeat (first | rw [if_pos (by omega)] | rw [if_neg (by omega)]))]; exact x.same)
theorem trS_o {S : Int → Int} {kd hm sy y : Int} (hn : 0 ≤ S 1) (hy : y < 143 + 45 * S 1 ∨ 143 + 45 * S 1 + 45 ≤ y) (h1 : y ≠ 1) : trS S kd hm sy y = S y := by
  unfold trS zrN
  rw [upI_n h1, upI_n (by omega), upI_n (by omega), upI_n (by omega), if_neg (by omega)]
theorem trS_z {S : Int → Int} {kd hm sy i : Int} (hn : 0 ≤ S 1) (hi : 3 ≤ i ∧ i < 45) : trS S kd hm sy (143 + 45 * S 1 + i) = 0 := by
  unfold trS zrN
  rw [upI_n (by omega), upI_n (by omega), upI_n (by omega), upI_n (by omega), if_pos (by omega)]
theorem trS_v {S : Int → Int} {kd hm sy : Int} (hn : 0 ≤ S 1) : trS S kd hm sy 1 = S 1 + 1 ∧ trS S kd hm sy (143 + 45 * S 1 + 0) = kd ∧ trS S kd hm sy (143 + 45 * S 1 + 1) = hm ∧ trS S kd hm sy (143 + 45 * S 1 + 2) = sy := by
  unfold trS
  refine ⟨upI_s _ _ _, ?_, ?_, ?_⟩
  · rw [upI_n (by omega), upI_n (by omega), upI_n (by omega), Int.add_zero, upI_s]
  · rw [upI_n (by omega), upI_n (by omega), upI_s]
  · rw [upI_n (by omega), upI_s]
theorem bit0 (i : Int) : bitI 0 i = 0 := by unfold bitI; simp
/-- a traveller has come -/
theorem CL.new {S' : Int → Int} (x : CL h im A F F2 w) (hI : mI0 (A 0)) (hA : mSh A) (h8 : A 0 1 < 8) (L : h2.length = h.length + 6) (e : ∀ j, j < h.length → j ≠ 1 → j ≠ 7 → h2[j]? = h[j]?) (e1 : h2[1]? = some (cWo (A 0 0) (A 0 1 + 1) (A 0 2) 2 3 4 5 6 7)) (e7 : h2[7]? = some (cRf 4 8 (va_up F (A 0 1).toNat (some h.length)))) (hc : CT h2 h.length (win S' (A 0 1)) (A 0 1)) (s1 : S' 1 = A 0 1 + 1) (so : ∀ p : Int, p ≠ 1 → ¬ (143 + 45 * A 0 1 ≤ p ∧ p < 143 + 45 * A 0 1 + 45) → S' p = A 0 p) : CL h2 im (upA A 0 S') (va_up F (A 0 1).toNat (some h.length)) F2 w ∧ KM h h2 := by
  obtain ⟨⟨⟨im0, x0⟩, xN, xs, xt⟩, x1, xr, ⟨sh0, sh1⟩, ⟨g1, g2⟩, ⟨⟨S2, t1, t1'⟩, t2, t3, t4, t5⟩, x6, x7, x8, x9⟩ := x
  have hi := hI.2.1
  have tgm : ∀ t, TG h t → TG h2 t := fun t q => q.mo (by omega)
  have ctm : ∀ t U nu, TG h t → CT h t U nu → CT h2 t U nu := fun t U nu q c => c.eq (fun j j1 j2 => e j (by have := q.2.2; omega) (by have := q.1; omega) (by have := q.1; omega))
  have lo : ∀ j, j < 47 → j ≠ 1 → j ≠ 7 → h2[j]? = h[j]? := fun j hj => e j (by omega)
  have fo : ∀ k : Int, 0 ≤ k → k < A 0 1 → va_up F (A 0 1).toNat (some h.length) k.toNat = F k.toNat := fun k k1 k2 => vu_n (by omega)
  have fn : va_up F (A 0 1).toNat (some h.length) (A 0 1).toNat = some h.length := vu_s _ _ _
  have tn : TG h2 h.length := ⟨x8, x9, by omega⟩
  obtain ⟨q1, q2, q3, q4, q5, q6, hsp⟩ := xs
  obtain ⟨z, a, b, c, d, e', f, g, i, hrd⟩ := xr
  obtain ⟨y0, y1, y2, y3, y4, y5, y6⟩ := xN
  have hNW : NW h2 S' (va_up F (A 0 1).toNat (some h.length)) := by
    refine ⟨?_, (y1.eq (lo _ (by decide) (by decide) (by decide))).cg (fun p p1 p2 => (so _ (by omega) (by omega)).symm), (y2.eq (lo _ (by decide) (by decide) (by decide))).cg (fun p p1 p2 => (so _ (by omega) (by omega)).symm), (y3.eq (lo _ (by decide) (by decide) (by decide))).cg (fun p p1 p2 => (so _ (by omega) (by omega)).symm), (y4.eq (lo _ (by decide) (by decide) (by decide))).cg (fun p p1 p2 => (so _ (by omega) (by omega)).symm), (y5.eq (lo _ (by decide) (by decide) (by decide))).cg (fun p p1 p2 => (so _ (by omega) (by omega)).symm), e7⟩
    rw [e1, s1, so 0 (by decide) (by omega), so 2 (by decide) (by omega)]
  have tof : ∀ (k : Int) (s : Nat), 0 ≤ k → k < A 0 1 + 1 → va_up F (A 0 1).toNat (some h.length) k.toNat = some s → (k < A 0 1 ∧ F k.toNat = some s ∧ TG h s) ∨ (k = A 0 1 ∧ s = h.length) := by
    intro k s k1 k2 q
    by_cases y : k < A 0 1
    · rw [fo k k1 y] at q
      exact Or.inl ⟨y, q, g1 k s k1 y q⟩
    · have : k = A 0 1 := by omega
      subst this
      rw [fn] at q
      injection q with q
      exact Or.inr ⟨rfl, q.symm⟩
  refine ⟨⟨⟨⟨im0, (lo 0 (by decide) (by decide) (by decide)).trans x0⟩, hNW, ⟨q1, q2, q3, q4, q5, q6, (lo 16 (by decide) (by decide) (by decide)).trans hsp⟩, fun k k1 k2 => ?_⟩, (lo 0 (by decide) (by decide) (by decide)).trans x1, ⟨z, a, b, c, d, e', f, g, i, (lo 17 (by decide) (by decide) (by decide)).trans hrd⟩, SC.eq (A := A) ⟨sh0, sh1⟩ (lo 15 (by decide) (by decide) (by decide)) (fun j j1 j2 => lo j (by omega) (by omega) (by omega)), ⟨fun k s k1 k2 k3 => ?_, fun i j s i1 i2 j1 j2 p1 p2 => ?_⟩, ⟨⟨S2, t1.eq (fun j j1 j2 => lo j (by omega) (by omega) (by omega)), t1'⟩, t2, fun q k' p1 p2 => ?_, fun j s p1 p2 => ?_, t5⟩, fun k j s k1 k2 j1 p1 p2 => ?_, fun d hd q => ?_, by omega, by omega⟩, fun j j1 j2 => lo j (by omega) (by omega) (by omega), by omega, by omega⟩
  · have k2 : k < A 0 1 + 1 := by rw [← s1]; exact k2
    by_cases y : k < A 0 1
    · obtain ⟨s, r1, r2, r3⟩ := xt k k1 y
      exact ⟨s, (fo k k1 y).trans r1, (ctm s _ _ (g1 k s k1 y r1) r2).cg (fun p p1 p2 => (so _ (by omega) (by omega)).symm), r3⟩
    · have : k = A 0 1 := by omega
      subst this
      exact ⟨h.length, fn, hc, x8⟩
  · have k2 : k < A 0 1 + 1 := by rw [← s1]; exact k2
    rcases tof k s k1 k2 k3 with ⟨-, -, r⟩ | ⟨-, r⟩
    · exact tgm s r
    · rw [r]; exact tn
  · have i2 : i < A 0 1 + 1 := by rw [← s1]; exact i2
    have j2 : j < A 0 1 + 1 := by rw [← s1]; exact j2
    rcases tof i s i1 i2 p1 with ⟨a1, a2, a3⟩ | ⟨a1, a2⟩
    · rcases tof j s j1 j2 p2 with ⟨b1, b2, b3⟩ | ⟨b1, b2⟩
      · exact g2 i j s i1 a1 j1 b1 a2 b2
      · have := a3.2.2; omega
    · rcases tof j s j1 j2 p2 with ⟨b1, b2, b3⟩ | ⟨b1, b2⟩
      · have := b3.2.2; omega
      · omega
  · obtain ⟨s, r1, r2, r3, r8⟩ := t3 q k' p1 p2
    exact ⟨s, r1, ctm s _ _ r3 r2, tgm s r3, r8⟩
  · obtain ⟨r1, U, nu, r2⟩ := t4 j s p1 p2
    exact ⟨tgm s r1, U, nu, ctm s _ _ r1 r2⟩
  · have k2 : k < A 0 1 + 1 := by rw [← s1]; exact k2
    rcases tof k s k1 k2 p1 with ⟨a1, a2, a3⟩ | ⟨a1, a2⟩
    · exact x6 k j s k1 a1 j1 a2 p2
    · have := (t4 j s j1 p2).1.2.2; omega
  · obtain ⟨s, r1, r2, r3, r4, r5⟩ := x7 d hd q
    obtain ⟨-, -, -, -, m5⟩ := hA.1 (d : Int) (by omega) (by omega)
    refine ⟨s, r1, tgm s r2, fun y => (fo _ (m5 q y).1 (m5 q y).2).trans (r3 y), fun y => ⟨ctm s _ _ r2 (r4 y).1, fun k k1 k2 k3 => ?_⟩, r5⟩
    have k2 : k < A 0 1 + 1 := by rw [← s1]; exact k2
    rcases tof k s k1 k2 k3 with ⟨a1, a2, a3⟩ | ⟨a1, a2⟩
    · exact (r4 y).2 k k1 a1 a2
    · have := r2.2.2; omega
theorem c_traveller {kd hm sy : Int} (x : CL h im A F F2 w) (hI : mI0 (A 0)) (hA : mSh A) (rkd : -2147483648 ≤ kd ∧ kd < 2147483648) (rhm : -2147483648 ≤ hm ∧ hm < 2147483648) (rsy : -2147483648 ≤ sy ∧ sy < 2147483648) : Ex l 2 yX5_traveller.cls yX5_traveller.name cX5_traveller 5 (some .int) 0 [some (.ref 0), some (.int (iI kd)), some (.int (iI hm)), some (.int (iI sy)), none] [] h (clP h (if trB (A 0) kd hm sy then some (.int (iI (A 0 1))) else some (.int (iI (trE (A 0) kd hm sy)))) im (if trB (A 0) kd hm sy then upA A 0 (trS (A 0) kd hm sy) else A)) := by
  obtain ⟨⟨i1, i2⟩, ⟨i3, i4⟩, i5, i6⟩ := id hI
  have hR := x.rc
  have hX0 := x.x0
  have hN := hR.nw
  obtain ⟨D, R, C, Q, X, hW, ⟨hD, eD⟩, ⟨hRu, eR⟩, ⟨hC, eC⟩, ⟨hQ, eQ⟩, ⟨hX, eX⟩, hF⟩ := CW.op hN
  have L47 : 47 ≤ h.length := x.2.2.2.2.2.2.2.2.1
  have ek : (iI (A 0 1)).toNatClampNeg = (A 0 1).toNat := by have := iI_cl (e := A 0 1) (by omega); omega
  refine ex_of (fun _ _ => ev_iload_n (pc' := 1) dX5_traveller_0 rfl rfl) ?_
  refine ex_of (fun _ _ => ev_callS1 (pc' := 4) kX5_112 mX5_isKind dX5_traveller_1 rfl rfl (Nat.le_of_ble_eq_true rfl) (Nat.le_of_ble_eq_true rfl) (by decide) (e5_isKind (by omega))) ?_
  refine ex_ifd_eq (pc' := 7) (tgt := 28) dX5_traveller_4 (by decide) rfl (fun c4 => ?_) (fun c4 => ?_)
  · refine ex_of (fun _ _ => ev_iconst (pc' := 29) (iI (-1)) dX5_traveller_28 rfl (by decide)) ?_
    exact ex_end (ev_iret dX5_traveller_29 rfl) (by rw [show trB (A 0) kd hm sy = false from decide_eq_false (by omega), show trE (A 0) kd hm sy = -1 by unfold trE; (repeat (first | rw [if_pos (by omega)] | rw [if_neg (by omega)]))]; exact x.same)
  · refine ex_of (fun _ _ => ev_aload_n (pc' := 8) dX5_traveller_7 rfl rfl) ?_
    refine ex_of (fun _ _ => ev_getfield (pc' := 11) fX5_12 dX5_traveller_8 rfl hX0 rfl) ?_
    refine ex_of (fun _ _ => ev_iload_n (pc' := 12) dX5_traveller_11 rfl rfl) ?_
    refine ex_of (fun _ _ => ev_callV1 (pc' := 15) kX5_68 mX4_hasPlace dX5_traveller_12 rfl rfl (Nat.le_of_ble_eq_true rfl) (Nat.le_of_ble_eq_true rfl) (by decide) rfl hW (e4_hasPlace hN hI (by omega))) ?_
    refine ex_ifd_eq (pc' := 18) (tgt := 28) dX5_traveller_15 (by decide) rfl (fun c15 => ?_) (fun c15 => ?_)
    · refine ex_of (fun _ _ => ev_iconst (pc' := 29) (iI (-1)) dX5_traveller_28 rfl (by decide)) ?_
      exact ex_end (ev_iret dX5_traveller_29 rfl) (by rw [show trB (A 0) kd hm sy = false from decide_eq_false (by omega), show trE (A 0) kd hm sy = -1 by unfold trE; (repeat (first | rw [if_pos (by omega)] | rw [if_neg (by omega)]))]; exact x.same)
    · refine ex_of (fun _ _ => ev_iload_n (pc' := 19) dX5_traveller_18 rfl rfl) ?_
      refine ex_ifI_lt (pc' := 22) (tgt := 28) dX5_traveller_19 (by decide) rfl (by omega) (fun c19 => ?_) (fun c19 => ?_)
      · refine ex_of (fun _ _ => ev_iconst (pc' := 29) (iI (-1)) dX5_traveller_28 rfl (by decide)) ?_
        exact ex_end (ev_iret dX5_traveller_29 rfl) (by rw [show trB (A 0) kd hm sy = false from decide_eq_false (by omega), show trE (A 0) kd hm sy = -1 by unfold trE; (repeat (first | rw [if_pos (by omega)] | rw [if_neg (by omega)]))]; exact x.same)
      · refine ex_of (fun _ _ => ev_iload_n (pc' := 23) dX5_traveller_22 rfl rfl) ?_
        refine ex_of (fun _ _ => ev_bipush (pc' := 25) (iI (30)) dX5_traveller_23 rfl (by decide)) ?_
        refine ex_icmpI_le (pc' := 28) (tgt := 30) dX5_traveller_25 (by decide) rfl (by omega) (by omega) (fun c25 => ?_) (fun c25 => ?_)
        · refine ex_of (fun _ _ => ev_aload_n (pc' := 31) dX5_traveller_30 rfl rfl) ?_
          refine ex_of (fun _ _ => ev_getfield (pc' := 34) fX5_12 dX5_traveller_31 rfl hX0 rfl) ?_
          refine ex_of (fun _ _ => ev_getfield (pc' := 37) fX5_115 dX5_traveller_34 rfl hW rfl) ?_
          refine ex_of (fun _ _ => ev_bipush (pc' := 39) (iI (8)) dX5_traveller_37 rfl (by decide)) ?_
          refine ex_icmpI_lt (pc' := 42) (tgt := 45) dX5_traveller_39 (by decide) rfl (by omega) (by omega) (fun c39 => ?_) (fun c39 => ?_)
          · refine ex_of (fun _ _ => ev_new (pc' := 48) nwX5_118 dX5_traveller_45 rfl) ?_
            refine ex_of (fun _ _ => ev_dup (pc' := 49) dX5_traveller_48 rfl rfl) ?_
            refine ex_of (fun _ _ => ev_callI0v (pc' := 52) kX5_120 mX3_init dX5_traveller_49 rfl rfl (Nat.le_of_ble_eq_true rfl) (Nat.le_of_ble_eq_true rfl) (by decide) (e3_init (g := h))) ?_
            refine ex_of (fun _ _ => ev_astore_4 (pc' := 54) dX5_traveller_52 rfl (by decide) rfl) ?_
            refine ex_of (fun _ _ => ev_aload (pc' := 56) dX5_traveller_54 rfl rfl) ?_
            refine ex_of (fun _ _ => ev_aload_n (pc' := 57) dX5_traveller_56 rfl rfl) ?_
            refine ex_of (fun _ _ => ev_getfield (pc' := 60) fX5_12 dX5_traveller_57 rfl ((gp_j (show 0 < h.length by omega)).trans hX0) rfl) ?_
            refine ex_of (fun _ _ => ev_getfield (pc' := 63) fX5_115 dX5_traveller_60 rfl ((gp_j (show 1 < h.length by omega)).trans hW) rfl) ?_
            refine ex_of (fun _ _ => ev_put_g (pc' := 66) (g := h) (fs' := [.int (iI (A 0 1)), .int (iI (0)), .int (iI (0)), .int (iI (0)), .int (iI 0), .int (iI 0), .ref (h.length + 1), .ref (h.length + 2), .ref (h.length + 3), .int (iI 0), .ref (h.length + 4), .ref (h.length + 5)]) (pX5_121 _) dX5_traveller_63 rfl rfl rfl (Nat.le_of_ble_eq_true rfl) rfl) ?_
            refine ex_of (fun _ _ => ev_aload (pc' := 68) dX5_traveller_66 rfl rfl) ?_
            refine ex_of (fun _ _ => ev_iload_n (pc' := 69) dX5_traveller_68 rfl rfl) ?_
            refine ex_of (fun _ _ => ev_put_g (pc' := 72) (g := h) (fs' := [.int (iI (A 0 1)), .int (iI (kd)), .int (iI (0)), .int (iI (0)), .int (iI 0), .int (iI 0), .ref (h.length + 1), .ref (h.length + 2), .ref (h.length + 3), .int (iI 0), .ref (h.length + 4), .ref (h.length + 5)]) (pX5_124 _) dX5_traveller_69 rfl rfl rfl (Nat.le_of_ble_eq_true rfl) rfl) ?_
            refine ex_of (fun _ _ => ev_aload (pc' := 74) dX5_traveller_72 rfl rfl) ?_
            refine ex_of (fun _ _ => ev_iload_n (pc' := 75) dX5_traveller_74 rfl rfl) ?_
            refine ex_of (fun _ _ => ev_put_g (pc' := 78) (g := h) (fs' := [.int (iI (A 0 1)), .int (iI (kd)), .int (iI (hm)), .int (iI (0)), .int (iI 0), .int (iI 0), .ref (h.length + 1), .ref (h.length + 2), .ref (h.length + 3), .int (iI 0), .ref (h.length + 4), .ref (h.length + 5)]) (pX5_127 _) dX5_traveller_75 rfl rfl rfl (Nat.le_of_ble_eq_true rfl) rfl) ?_
            refine ex_of (fun _ _ => ev_aload (pc' := 80) dX5_traveller_78 rfl rfl) ?_
            refine ex_of (fun _ _ => ev_iload_n (pc' := 81) dX5_traveller_80 rfl rfl) ?_
            refine ex_of (fun _ _ => ev_put_g (pc' := 84) (g := h) (fs' := [.int (iI (A 0 1)), .int (iI (kd)), .int (iI (hm)), .int (iI (sy)), .int (iI 0), .int (iI 0), .ref (h.length + 1), .ref (h.length + 2), .ref (h.length + 3), .int (iI 0), .ref (h.length + 4), .ref (h.length + 5)]) (pX5_130 _) dX5_traveller_81 rfl rfl rfl (Nat.le_of_ble_eq_true rfl) rfl) ?_
            refine ex_of (fun _ _ => ev_aload_n (pc' := 85) dX5_traveller_84 rfl rfl) ?_
            refine ex_of (fun _ _ => ev_getfield (pc' := 88) fX5_12 dX5_traveller_85 rfl ((gp_j (show 0 < h.length by omega)).trans hX0) rfl) ?_
            refine ex_of (fun _ _ => ev_getfield (pc' := 91) fX5_133 dX5_traveller_88 rfl ((gp_j (show 1 < h.length by omega)).trans hW) rfl) ?_
            refine ex_of (fun _ _ => ev_aload_n (pc' := 92) dX5_traveller_91 rfl rfl) ?_
            refine ex_of (fun _ _ => ev_getfield (pc' := 95) fX5_12 dX5_traveller_92 rfl ((gp_j (show 0 < h.length by omega)).trans hX0) rfl) ?_
            refine ex_of (fun _ _ => ev_getfield (pc' := 98) fX5_115 dX5_traveller_95 rfl ((gp_j (show 1 < h.length by omega)).trans hW) rfl) ?_
            refine ex_of (fun _ _ => ev_aload (pc' := 100) dX5_traveller_98 rfl rfl) ?_
            refine ex_of (fun _ _ => ev_aastore (pc' := 101) (Or.inr ⟨rfl, rfl⟩) dX5_traveller_100 rfl ((gp_j (show 7 < h.length by omega)).trans hF) gp_get (iI_in (by omega) (by decide))) ?_
            rw [ek]
            refine ex_of (fun _ _ => ev_aload_n (pc' := 102) dX5_traveller_101 rfl rfl) ?_
            refine ex_of (fun _ _ => ev_getfield (pc' := 105) fX5_12 dX5_traveller_102 rfl ((set_ne (by decide)).trans ((gp_j (show 0 < h.length by omega)).trans hX0)) rfl) ?_
            refine ex_of (fun _ _ => ev_dup (pc' := 106) dX5_traveller_105 rfl rfl) ?_
            refine ex_of (fun _ _ => ev_getfield (pc' := 109) fX5_115 dX5_traveller_106 rfl ((set_ne (by decide)).trans ((gp_j (show 1 < h.length by omega)).trans hW)) rfl) ?_
            refine ex_of (fun _ _ => ev_iconst (pc' := 110) (iI (1)) dX5_traveller_109 rfl (by decide)) ?_
            refine ex_of (fun _ _ => ev_iaddI (pc' := 111) dX5_traveller_110 rfl) ?_
            refine ex_of (fun _ _ => ev_putfield (pc' := 114) (pX5_115 _) dX5_traveller_111 rfl ((set_ne (by decide)).trans ((gp_j (show 1 < h.length by omega)).trans hW)) rfl rfl (Nat.le_of_ble_eq_true rfl)) ?_
            refine ex_of (fun _ _ => ev_aload (pc' := 116) dX5_traveller_114 rfl rfl) ?_
            refine ex_of (fun _ _ => ev_getfield (pc' := 119) fX5_121 dX5_traveller_116 rfl ((set_ne (by omega)).trans ((set_ne (by omega)).trans gp_get)) rfl) ?_
            exact ex_end (ev_iret dX5_traveller_119 rfl) (by
    rw [show trB (A 0) kd hm sy = true from decide_eq_true (by omega)]
    obtain ⟨v1, v2, v3, v4⟩ := trS_v (S := A 0) (kd := kd) (hm := hm) (sy := sy) i3
    have sz := fun i hi => trS_z (S := A 0) (kd := kd) (hm := hm) (sy := sy) (i := i) i3 hi
    have L : (((h ++ [.inr (3, [.int (iI (A 0 1)), .int (iI (kd)), .int (iI (hm)), .int (iI (sy)), .int (iI 0), .int (iI 0), .ref (h.length + 1), .ref (h.length + 2), .ref (h.length + 3), .int (iI 0), .ref (h.length + 4), .ref (h.length + 5)]), mA 6 (fun _ => 0), mA 6 (fun _ => 0), mA 6 (fun _ => 0), mA 8 (fun _ => 0), mA 8 (fun _ => 0)]).set 7 (cRf 4 8 (va_up F (A 0 1).toNat (some h.length)))).set 1 (cWo (A 0 0) (A 0 1 + 1) (A 0 2) 2 3 4 5 6 7)).length = h.length + 6 := by rw [List.length_set, List.length_set, List.length_append]; rfl
    have up : ∀ i, (((h ++ [.inr (3, [.int (iI (A 0 1)), .int (iI (kd)), .int (iI (hm)), .int (iI (sy)), .int (iI 0), .int (iI 0), .ref (h.length + 1), .ref (h.length + 2), .ref (h.length + 3), .int (iI 0), .ref (h.length + 4), .ref (h.length + 5)]), mA 6 (fun _ => 0), mA 6 (fun _ => 0), mA 6 (fun _ => 0), mA 8 (fun _ => 0), mA 8 (fun _ => 0)]).set 7 (cRf 4 8 (va_up F (A 0 1).toNat (some h.length)))).set 1 (cWo (A 0 0) (A 0 1 + 1) (A 0 2) 2 3 4 5 6 7))[h.length + i]? = (.inr (3, [.int (iI (A 0 1)), .int (iI (kd)), .int (iI (hm)), .int (iI (sy)), .int (iI 0), .int (iI 0), .ref (h.length + 1), .ref (h.length + 2), .ref (h.length + 3), .int (iI 0), .ref (h.length + 4), .ref (h.length + 5)]) :: [mA 6 (fun _ => 0), mA 6 (fun _ => 0), mA 6 (fun _ => 0), mA 8 (fun _ => 0), mA 8 (fun _ => 0)])[i]? := fun i => (set_ne (by omega)).trans ((set_ne (by omega)).trans (gp_i i))
    have hc : CT (((h ++ [.inr (3, [.int (iI (A 0 1)), .int (iI (kd)), .int (iI (hm)), .int (iI (sy)), .int (iI 0), .int (iI 0), .ref (h.length + 1), .ref (h.length + 2), .ref (h.length + 3), .int (iI 0), .ref (h.length + 4), .ref (h.length + 5)]), mA 6 (fun _ => 0), mA 6 (fun _ => 0), mA 6 (fun _ => 0), mA 8 (fun _ => 0), mA 8 (fun _ => 0)]).set 7 (cRf 4 8 (va_up F (A 0 1).toNat (some h.length)))).set 1 (cWo (A 0 0) (A 0 1 + 1) (A 0 2) 2 3 4 5 6 7)) h.length (win (trS (A 0) kd hm sy) (A 0 1)) (A 0 1) := by
      refine ⟨0, ⟨by decide, fun i i1 i2 => ?_⟩, ?_, ⟨fun _ => 0, up 1, fun i i1 i2 => ?_⟩, ⟨fun _ => 0, up 2, fun i i1 i2 => ?_⟩, ⟨fun _ => 0, up 3, fun i i1 i2 => ?_⟩, ⟨fun _ => 0, up 4, fun i i1 i2 => ?_⟩, ⟨fun _ => 0, up 5, fun i i1 i2 => ?_⟩⟩
      · rw [bit0]; exact (sz _ (by omega)).symm
      · refine (up 0).trans ?_
        show _ = some (cTr (A 0 1) (trS (A 0) kd hm sy (143 + 45 * A 0 1 + 0)) (trS (A 0) kd hm sy (143 + 45 * A 0 1 + 1)) (trS (A 0) kd hm sy (143 + 45 * A 0 1 + 2)) (trS (A 0) kd hm sy (143 + 45 * A 0 1 + 3)) 0 (trS (A 0) kd hm sy (143 + 45 * A 0 1 + 28)) (h.length + 1) (h.length + 2) (h.length + 3) (h.length + 4) (h.length + 5))
        rw [v2, v3, v4, sz 3 (by decide), sz 28 (by decide)]
        rfl
      · exact (sz _ (by omega)).symm
      · exact (sz _ (by omega)).symm
      · show 0 = trS (A 0) kd hm sy (143 + 45 * A 0 1 + (4 + 4 * i + 2)) + 60 * trS (A 0) kd hm sy (143 + 45 * A 0 1 + (4 + 4 * i + 3))
        rw [sz _ (by omega), sz _ (by omega)]; rfl
      · exact (sz _ (by omega)).symm
      · exact (sz _ (by omega)).symm
    have K := x.new hI hA (by omega) L (fun j j1 j2 j3 => (set_ne j2).trans ((set_ne j3).trans (gp_j j1))) (ev_gs ((set_ne (by decide)).trans ((gp_j (show 1 < h.length by omega)).trans hW))) ((set_ne (by decide)).trans (ev_gs ((gp_j (show 7 < h.length by omega)).trans hF))) hc v1 (fun p p1 p2 => trS_o i3 (by omega) p1)
    exact ⟨rfl, K.2, _, F2, w, K.1⟩)
          · refine ex_of (fun _ _ => ev_bipush (pc' := 44) (iI (-2)) dX5_traveller_42 rfl (by decide)) ?_
            exact ex_end (ev_iret dX5_traveller_44 rfl) (by rw [show trB (A 0) kd hm sy = false from decide_eq_false (by omega), show trE (A 0) kd hm sy = -2 by unfold trE; (repeat (first | rw [if_pos (by omega)] | rw [if_neg (by omega)]))]; exact x.same)
        · refine ex_of (fun _ _ => ev_iconst (pc' := 29) (iI (-1)) dX5_traveller_28 rfl (by decide)) ?_
          exact ex_end (ev_iret dX5_traveller_29 rfl) (by rw [show trB (A 0) kd hm sy = false from decide_eq_false (by omega), show trE (A 0) kd hm sy = -1 by unfold trE; (repeat (first | rw [if_pos (by omega)] | rw [if_neg (by omega)]))]; exact x.same)
end CU
