section CE
variable {l : Launch} {h h0 : ev_H} {S : Int → Int} {F : Nat → Option Nat} {t : Nat} {k : Int}
theorem RC.tr {h : ev_H} {S : Int → Int} {F : Nat → Option Nat} {k : Int} {t : Nat} (x : RC h S F) (hk : 0 ≤ k ∧ k < S 1) (ht : F k.toNat = some t) : CT h t (win S k) k ∧ 47 ≤ t := by
  obtain ⟨t', e, c, b⟩ := x.2.2.2 k hk.1 hk.2
  rw [ht] at e
  injection e with e
  subst e
  exact ⟨c, b⟩
theorem eN_bc {S : Int → Int} {k ab be : Int} (h1 : -100000000 ≤ ab ∧ ab ≤ 100000000) (h2 : 0 < be ∧ be ≤ 12000) : -1000000000 ≤ eN S k ab be ∧ eN S k ab be ≤ 1000000000 := by
  have b := eS_b S (S (3 + 4 * S (143 + 45 * k + 1) + 0))
  have m1 : eS S (S (3 + 4 * S (143 + 45 * k + 1) + 0)) * be ≤ 360 * be := Int.mul_le_mul_of_nonneg_right (by omega) (by omega)
  have m2 : 0 ≤ eS S (S (3 + 4 * S (143 + 45 * k + 1) + 0)) * be := Int.mul_nonneg (by omega) (by omega)
  unfold eN
  omega
theorem chS_bc {S : Int → Int} {k t : Int} (hM : mT S k) : ∀ n : Nat, (n : Int) ≤ S (143 + 45 * k + 28) → -(n : Int) ≤ chS S k t n ∧ chS S k t n ≤ n
  | 0, _ => by unfold chS; omega
  | n + 1, hn => by
    have ih := chS_bc hM (t := t) n (by omega)
    obtain ⟨-, -, -, -, -, t5, t6, -⟩ := hM
    have z := (t6 (n : Int) (by omega) (by omega)).2
    unfold chS
    split <;> omega
theorem e3_chgL {nu tt : Int} (hC : CT h t (win S k) nu) (hM : mT S k) (rt : -100000 ≤ tt ∧ tt ≤ 100000) : ∀ (n i : Nat), S (143 + 45 * k + 28) - i = n → Ev l 0 yX3_changedTill.cls yX3_changedTill.name cX3_changedTill 4 (some .int) 4 [some (.ref t), some (.int (iI tt)), some (.int (iI (chS S k tt i))), some (.int (iI (i : Int)))] [] h (some (.int (iI (sChg S k tt)))) h := by
  obtain ⟨t0, t1, t2, t3, t4, t5, t6, t7⟩ := id hM
  obtain ⟨ea, to, fro, en, ca, cb, ⟨be1, be2⟩, hT, ⟨hto, eto⟩, ⟨hfr, efr⟩, ⟨hen, een⟩, ⟨hca, eca⟩, ⟨hcb, ecb⟩⟩ := CT.op hC
  intro n
  induction n with
  | zero =>
    intro i hn
    have ei : (S (143 + 45 * k + 28)).toNat = i := by omega
    refine ev_iload_n (pc' := 5) dX3_changedTill_4 rfl rfl ?_
    refine ev_aload_n (pc' := 6) dX3_changedTill_5 rfl rfl ?_
    refine ev_getfield (pc' := 9) fX3_40 dX3_changedTill_6 rfl hT rfl ?_
    refine ev_icmpI_ge (pc' := 12) (tgt := 37) dX3_changedTill_9 (by decide) rfl (by omega) (by omega) (fun c9 => ?_) (fun c9 => ?_)
    · refine ev_iload_n (pc' := 38) dX3_changedTill_37 rfl rfl ?_
      exact ev_ireI dX3_changedTill_38 (by unfold sChg; rw [ei])
    · omega
  | succ n ih =>
    intro i hn
    have z := t6 (i : Int) (by omega) (by omega)
    have zb := chS_bc (t := tt) hM i (by omega)
    refine ev_iload_n (pc' := 5) dX3_changedTill_4 rfl rfl ?_
    refine ev_aload_n (pc' := 6) dX3_changedTill_5 rfl rfl ?_
    refine ev_getfield (pc' := 9) fX3_40 dX3_changedTill_6 rfl hT rfl ?_
    refine ev_icmpI_ge (pc' := 12) (tgt := 37) dX3_changedTill_9 (by decide) rfl (by omega) (by omega) (fun c9 => ?_) (fun c9 => ?_)
    · omega
    · refine ev_aload_n (pc' := 13) dX3_changedTill_12 rfl rfl ?_
      refine ev_getfield (pc' := 16) fX3_43 dX3_changedTill_13 rfl hT rfl ?_
      refine ev_iload_n (pc' := 17) dX3_changedTill_16 rfl rfl ?_
      refine ev_ialoadI (pc' := 18) dX3_changedTill_17 rfl hca (by decide) (by omega) ?_
      rw [eca _ (by omega) (by omega)]
      refine ev_iload_n (pc' := 19) dX3_changedTill_18 rfl rfl ?_
      refine ev_icmpI_gt (pc' := 22) (tgt := 31) dX3_changedTill_19 (by decide) rfl (by omega) (by omega) (fun c19 => ?_) (fun c19 => ?_)
      · have e5 : chS S k tt (i + 1) = chS S k tt i := by conv => lhs; unfold chS; rw [if_neg (by omega), Int.add_zero]
        refine ev_iincI_3 (pc' := 34) dX3_changedTill_31 rfl (by decide) rfl ?_
        refine ev_goto (tgt := 4) dX3_changedTill_34 (by decide) ?_
        rw [← e5]
        exact ih (i + 1) (by omega)
      · have e5 : chS S k tt (i + 1) = chS S k tt i + S (143 + 45 * k + (30 + 2 * (i : Int))) := by conv => lhs; unfold chS; rw [if_pos (by omega)]
        refine ev_iload_n (pc' := 23) dX3_changedTill_22 rfl rfl ?_
        refine ev_aload_n (pc' := 24) dX3_changedTill_23 rfl rfl ?_
        refine ev_getfield (pc' := 27) fX3_46 dX3_changedTill_24 rfl hT rfl ?_
        refine ev_iload_n (pc' := 28) dX3_changedTill_27 rfl rfl ?_
        refine ev_ialoadI (pc' := 29) dX3_changedTill_28 rfl hcb (by decide) (by omega) ?_
        rw [ecb _ (by omega) (by omega)]
        refine ev_iaddI (pc' := 30) dX3_changedTill_29 rfl ?_
        refine ev_istore_2 (pc' := 31) dX3_changedTill_30 rfl (by decide) rfl ?_
        refine ev_iincI_3 (pc' := 34) dX3_changedTill_31 rfl (by decide) rfl ?_
        refine ev_goto (tgt := 4) dX3_changedTill_34 (by decide) ?_
        rw [← e5]
        exact ih (i + 1) (by omega)
theorem e3_changedTill {nu tt : Int} (hC : CT h t (win S k) nu) (hM : mT S k) (rt : -100000 ≤ tt ∧ tt ≤ 100000) : Ev l 0 yX3_changedTill.cls yX3_changedTill.name cX3_changedTill 4 (some .int) 0 [some (.ref t), some (.int (iI tt)), none, none] [] h (some (.int (iI (sChg S k tt)))) h := by
  obtain ⟨t0, t1, t2, t3, t4, t5, t6, t7⟩ := id hM
  refine ev_iconst (pc' := 1) (iI (0)) dX3_changedTill_0 rfl (by decide) ?_
  refine ev_istore_2 (pc' := 2) dX3_changedTill_1 rfl (by decide) rfl ?_
  refine ev_iconst (pc' := 3) (iI (0)) dX3_changedTill_2 rfl (by decide) ?_
  refine ev_istore_3 (pc' := 4) dX3_changedTill_3 rfl (by decide) rfl ?_
  exact e3_chgL hC hM rt (S (143 + 45 * k + 28)).toNat 0 (by omega)
theorem e3_isSettled {nu tt pl le ca go ea be : Int} (hC : CT h t (win S k) nu) (hM : mT S k) (hSp : h[16]? = some (cSp pl le ca go ea be)) (rt : -100000 ≤ tt ∧ tt ≤ 100000) (rp : -4 ≤ pl ∧ pl < 1000) (rc : 0 ≤ ca ∧ ca ≤ 50000) (rh : 0 ≤ S (143 + 45 * k + 1) ∧ S (143 + 45 * k + 1) < 10) : Ev l 1 yX3_isSettled.cls yX3_isSettled.name cX3_isSettled 3 (some .boolean) 0 [some (.ref t), some (.ref 16), some (.int (iI tt))] [] h (some (.int (b2i (decide (¬ pl < -3 ∧ pl ≠ S (143 + 45 * k + 1) ∧ ca + 1440 * S (143 + 45 * k + 2) ≤ tt))))) h := by
  obtain ⟨t0, t1, t2, t3, t4, t5, t6, t7⟩ := id hM
  obtain ⟨ea0, to, fro, en0, ca0, cb, ⟨be1, be2⟩, hT, ⟨hto, eto⟩, ⟨hfr, efr⟩, ⟨hen0, een⟩, ⟨hca, eca⟩, ⟨hcb, ecb⟩⟩ := CT.op hC
  refine ev_aload_n (pc' := 1) dX3_isSettled_0 rfl rfl ?_
  refine ev_callV0 (pc' := 4) kX3_49 mX2_isUnderWay dX3_isSettled_1 rfl rfl (Nat.le_of_ble_eq_true rfl) (Nat.le_of_ble_eq_true rfl) (by decide) rfl hSp (e2_isUnderWay hSp rp) ?_
  refine ev_ifd_ne (pc' := 7) (tgt := 39) dX3_isSettled_4 (by decide) rfl (fun c4 => ?_) (fun c4 => ?_)
  · refine ev_iconst (pc' := 40) (iI (0)) dX3_isSettled_39 rfl (by decide) ?_
    exact ev_zreI dX3_isSettled_40 (by first | exact b2i_1 (by omega) | exact b2i_n (by omega))
  · refine ev_aload_n (pc' := 8) dX3_isSettled_7 rfl rfl ?_
    refine ev_getfield (pc' := 11) fX3_55 dX3_isSettled_8 rfl hSp rfl ?_
    refine ev_aload_n (pc' := 12) dX3_isSettled_11 rfl rfl ?_
    refine ev_getfield (pc' := 15) fX3_18 dX3_isSettled_12 rfl hT rfl ?_
    refine ev_icmpI_eq (pc' := 18) (tgt := 39) dX3_isSettled_15 (by decide) rfl (by omega) (by omega) (fun c15 => ?_) (fun c15 => ?_)
    · refine ev_iconst (pc' := 40) (iI (0)) dX3_isSettled_39 rfl (by decide) ?_
      exact ev_zreI dX3_isSettled_40 (by first | exact b2i_1 (by omega) | exact b2i_n (by omega))
    · refine ev_iload_n (pc' := 19) dX3_isSettled_18 rfl rfl ?_
      refine ev_aload_n (pc' := 20) dX3_isSettled_19 rfl rfl ?_
      refine ev_getfield (pc' := 23) fX3_58 dX3_isSettled_20 rfl hSp rfl ?_
      refine ev_aload_n (pc' := 24) dX3_isSettled_23 rfl rfl ?_
      refine ev_getfield (pc' := 27) fX3_21 dX3_isSettled_24 rfl hT rfl ?_
      refine ev_sipush (pc' := 30) (iI (1440)) dX3_isSettled_27 rfl (by decide) ?_
      refine ev_imulI (pc' := 31) dX3_isSettled_30 rfl ?_
      refine ev_iaddI (pc' := 32) dX3_isSettled_31 rfl ?_
      refine ev_icmpI_lt (pc' := 35) (tgt := 39) dX3_isSettled_32 (by decide) rfl (by omega) (by omega) (fun c32 => ?_) (fun c32 => ?_)
      · refine ev_iconst (pc' := 40) (iI (0)) dX3_isSettled_39 rfl (by decide) ?_
        exact ev_zreI dX3_isSettled_40 (by first | exact b2i_1 (by omega) | exact b2i_n (by omega))
      · refine ev_iconst (pc' := 36) (iI (1)) dX3_isSettled_35 rfl (by decide) ?_
        refine ev_goto (tgt := 40) dX3_isSettled_36 (by decide) ?_
        exact ev_zreI dX3_isSettled_40 (by first | exact b2i_1 (by omega) | exact b2i_n (by omega))
theorem e3_lastEnd {nu : Int} (hC : CT h t (win S k) nu) (hM : mT S k) : Ev l 0 yX3_lastEnd.cls yX3_lastEnd.name cX3_lastEnd 1 (some .int) 0 [some (.ref t)] [] h (some (.int (iI (if 0 < S (143 + 45 * k + 3) then S (143 + 45 * k + (4 + 4 * (S (143 + 45 * k + 3) - 1) + 2)) + 60 * S (143 + 45 * k + (4 + 4 * (S (143 + 45 * k + 3) - 1) + 3)) else 0)))) h := by
  obtain ⟨t0, t1, t2, t3, t4, t5, t6, t7⟩ := id hM
  obtain ⟨ea, to, fro, en, ca, cb, ⟨be1, be2⟩, hT, ⟨hto, eto⟩, ⟨hfr, efr⟩, ⟨hen, een⟩, ⟨hca, eca⟩, ⟨hcb, ecb⟩⟩ := CT.op hC
  refine ev_aload_n (pc' := 1) dX3_lastEnd_0 rfl rfl ?_
  refine ev_getfield (pc' := 4) fX3_24 dX3_lastEnd_1 rfl hT rfl ?_
  refine ev_ifI_le (pc' := 7) (tgt := 30) dX3_lastEnd_4 (by decide) rfl (by omega) (fun c4 => ?_) (fun c4 => ?_)
  · refine ev_iconst (pc' := 31) (iI (0)) dX3_lastEnd_30 rfl (by decide) ?_
    exact ev_ireI dX3_lastEnd_31 (by (repeat (first | rw [if_pos (by omega)] | rw [if_neg (by omega)])))
  · refine ev_aload_n (pc' := 8) dX3_lastEnd_7 rfl rfl ?_
    refine ev_getfield (pc' := 11) fX3_24 dX3_lastEnd_8 rfl hT rfl ?_
    refine ev_bipush (pc' := 13) (iI (6)) dX3_lastEnd_11 rfl (by decide) ?_
    refine ev_icmpI_gt (pc' := 16) (tgt := 30) dX3_lastEnd_13 (by decide) rfl (by omega) (by omega) (fun c13 => ?_) (fun c13 => ?_)
    · omega
    · refine ev_aload_n (pc' := 17) dX3_lastEnd_16 rfl rfl ?_
      refine ev_getfield (pc' := 20) fX3_37 dX3_lastEnd_17 rfl hT rfl ?_
      refine ev_aload_n (pc' := 21) dX3_lastEnd_20 rfl rfl ?_
      refine ev_getfield (pc' := 24) fX3_24 dX3_lastEnd_21 rfl hT rfl ?_
      refine ev_iconst (pc' := 25) (iI (1)) dX3_lastEnd_24 rfl (by decide) ?_
      refine ev_isubI (pc' := 26) dX3_lastEnd_25 rfl ?_
      refine ev_ialoadI (pc' := 27) dX3_lastEnd_26 rfl hen (by decide) (by omega) ?_
      rw [een _ (by omega) (by omega)]
      refine ev_goto (tgt := 31) dX3_lastEnd_27 (by decide) ?_
      exact ev_ireI dX3_lastEnd_31 (by (repeat (first | rw [if_pos (by omega)] | rw [if_neg (by omega)])))
/-- the nearer of two minutes above t -/
def nr (n e t : Int) : Int := if t < e ∧ e < n then e else n
theorem e3_nearer {n e t : Int} (rn : -2147483648 ≤ n ∧ n < 2147483648) (re : -2147483648 ≤ e ∧ e < 2147483648) (rt : -2147483648 ≤ t ∧ t < 2147483648) : Ev l 0 yX3_nearer.cls yX3_nearer.name cX3_nearer 3 (some .int) 0 [some (.int (iI n)), some (.int (iI e)), some (.int (iI t))] [] h (some (.int (iI (nr n e t)))) h := by
  refine ev_iload_n (pc' := 1) dX3_nearer_0 rfl rfl ?_
  refine ev_iload_n (pc' := 2) dX3_nearer_1 rfl rfl ?_
  refine ev_icmpI_le (pc' := 5) (tgt := 14) dX3_nearer_2 (by decide) rfl (by omega) (by omega) (fun c2 => ?_) (fun c2 => ?_)
  · refine ev_iload_n (pc' := 15) dX3_nearer_14 rfl rfl ?_
    exact ev_ireI dX3_nearer_15 (by unfold nr; (repeat (first | rw [if_pos (by omega)] | rw [if_neg (by omega)])))
  · refine ev_iload_n (pc' := 6) dX3_nearer_5 rfl rfl ?_
    refine ev_iload_n (pc' := 7) dX3_nearer_6 rfl rfl ?_
    refine ev_icmpI_ge (pc' := 10) (tgt := 14) dX3_nearer_7 (by decide) rfl (by omega) (by omega) (fun c7 => ?_) (fun c7 => ?_)
    · refine ev_iload_n (pc' := 15) dX3_nearer_14 rfl rfl ?_
      exact ev_ireI dX3_nearer_15 (by unfold nr; (repeat (first | rw [if_pos (by omega)] | rw [if_neg (by omega)])))
    · refine ev_iload_n (pc' := 11) dX3_nearer_10 rfl rfl ?_
      refine ev_goto (tgt := 15) dX3_nearer_11 (by decide) ?_
      exact ev_ireI dX3_nearer_15 (by unfold nr; (repeat (first | rw [if_pos (by omega)] | rw [if_neg (by omega)])))
def nxL (S : Int → Int) (k t : Int) : Nat → Int
  | 0 => 20000
  | n + 1 => nr (nr (nr (nxL S k t n) (S (143 + 45 * k + (4 + 4 * (n : Int) + 2)) + 1) t) (S (143 + 45 * k + (4 + 4 * (n : Int) + 2)) + 60 * S (143 + 45 * k + (4 + 4 * (n : Int) + 3))) t) (S (143 + 45 * k + (4 + 4 * (n : Int) + 2)) + 60 * S (143 + 45 * k + (4 + 4 * (n : Int) + 3)) + S (143 + 45 * k + 2) * 1440) t
def nxC (S : Int → Int) (k t : Int) : Nat → Int
  | 0 => nxL S k t (S (143 + 45 * k + 3)).toNat
  | n + 1 => nr (nxC S k t n) (S (143 + 45 * k + (29 + 2 * (n : Int)))) t
def sNxt (S : Int → Int) (k t : Int) : Int := nxC S k t (S (143 + 45 * k + 28)).toNat
theorem nr_b {n e t : Int} (h : t < n ∧ n ≤ 20000) : t < nr n e t ∧ nr n e t ≤ 20000 := by unfold nr; split <;> omega
theorem nxL_b {S : Int → Int} {k t : Int} (ht : t < 20000) : ∀ n, t < nxL S k t n ∧ nxL S k t n ≤ 20000
  | 0 => by unfold nxL; omega
  | n + 1 => nr_b (nr_b (nr_b (nxL_b ht n)))
theorem nxC_b {S : Int → Int} {k t : Int} (ht : t < 20000) : ∀ n, t < nxC S k t n ∧ nxC S k t n ≤ 20000
  | 0 => nxL_b ht _
  | n + 1 => nr_b (nxC_b ht n)
theorem e3_nxC {nu tt : Int} (hC : CT h t (win S k) nu) (hM : mT S k) (rt : 0 ≤ tt ∧ tt < 20000) : ∀ (n i : Nat), S (143 + 45 * k + 28) - i = n → Ev l 1 yX3_nextEvent.cls yX3_nextEvent.name cX3_nextEvent 4 (some .int) 69 [some (.ref t), some (.int (iI tt)), some (.int (iI (nxC S k tt i))), some (.int (iI (i : Int)))] [] h (some (.int (iI (sNxt S k tt)))) h := by
  obtain ⟨t0, t1, t2, t3, t4, t5, t6, t7⟩ := id hM
  obtain ⟨ea, to, fro, en, ca, cb, ⟨be1, be2⟩, hT, ⟨hto, eto⟩, ⟨hfr, efr⟩, ⟨hen, een⟩, ⟨hca, eca⟩, ⟨hcb, ecb⟩⟩ := CT.op hC
  intro n
  induction n with
  | zero =>
    intro i hn
    have ei : (S (143 + 45 * k + 28)).toNat = i := by omega
    refine ev_iload_n (pc' := 70) dX3_nextEvent_69 rfl rfl ?_
    refine ev_aload_n (pc' := 71) dX3_nextEvent_70 rfl rfl ?_
    refine ev_getfield (pc' := 74) fX3_40 dX3_nextEvent_71 rfl hT rfl ?_
    refine ev_icmpI_ge (pc' := 77) (tgt := 95) dX3_nextEvent_74 (by decide) rfl (by omega) (by omega) (fun c74 => ?_) (fun c74 => ?_)
    · refine ev_iload_n (pc' := 96) dX3_nextEvent_95 rfl rfl ?_
      exact ev_ireI dX3_nextEvent_96 (by unfold sNxt; rw [ei])
    · omega
  | succ n ih =>
    intro i hn
    have z := t6 (i : Int) (by omega) (by omega)
    have zb := nxC_b (S := S) (k := k) rt.2 i
    refine ev_iload_n (pc' := 70) dX3_nextEvent_69 rfl rfl ?_
    refine ev_aload_n (pc' := 71) dX3_nextEvent_70 rfl rfl ?_
    refine ev_getfield (pc' := 74) fX3_40 dX3_nextEvent_71 rfl hT rfl ?_
    refine ev_icmpI_ge (pc' := 77) (tgt := 95) dX3_nextEvent_74 (by decide) rfl (by omega) (by omega) (fun c74 => ?_) (fun c74 => ?_)
    · omega
    · refine ev_iload_n (pc' := 78) dX3_nextEvent_77 rfl rfl ?_
      refine ev_aload_n (pc' := 79) dX3_nextEvent_78 rfl rfl ?_
      refine ev_getfield (pc' := 82) fX3_43 dX3_nextEvent_79 rfl hT rfl ?_
      refine ev_iload_n (pc' := 83) dX3_nextEvent_82 rfl rfl ?_
      refine ev_ialoadI (pc' := 84) dX3_nextEvent_83 rfl hca (by decide) (by omega) ?_
      rw [eca _ (by omega) (by omega)]
      refine ev_iload_n (pc' := 85) dX3_nextEvent_84 rfl rfl ?_
      refine ev_callS3 (pc' := 88) kX3_61 mX3_nearer dX3_nextEvent_85 rfl rfl (Nat.le_of_ble_eq_true rfl) (Nat.le_of_ble_eq_true rfl) (by decide) (e3_nearer (by omega) (by omega) (by omega)) ?_
      refine ev_istore_2 (pc' := 89) dX3_nextEvent_88 rfl (by decide) rfl ?_
      refine ev_iincI_3 (pc' := 92) dX3_nextEvent_89 rfl (by decide) rfl ?_
      refine ev_goto (tgt := 69) dX3_nextEvent_92 (by decide) ?_
      exact ih (i + 1) (by omega)
theorem e3_nxL {nu tt : Int} (hC : CT h t (win S k) nu) (hM : mT S k) (rt : 0 ≤ tt ∧ tt < 20000) : ∀ (n i : Nat), S (143 + 45 * k + 3) - i = n → Ev l 1 yX3_nextEvent.cls yX3_nextEvent.name cX3_nextEvent 4 (some .int) 6 [some (.ref t), some (.int (iI tt)), some (.int (iI (nxL S k tt i))), some (.int (iI (i : Int)))] [] h (some (.int (iI (sNxt S k tt)))) h := by
  obtain ⟨t0, t1, t2, t3, t4, t5, t6, t7⟩ := id hM
  obtain ⟨ea, to, fro, en, ca, cb, ⟨be1, be2⟩, hT, ⟨hto, eto⟩, ⟨hfr, efr⟩, ⟨hen, een⟩, ⟨hca, eca⟩, ⟨hcb, ecb⟩⟩ := CT.op hC
  intro n
  induction n with
  | zero =>
    intro i hn
    have ei : nxL S k tt i = nxC S k tt 0 := by unfold nxC; congr 1; omega
    refine ev_iload_n (pc' := 7) dX3_nextEvent_6 rfl rfl ?_
    refine ev_aload_n (pc' := 8) dX3_nextEvent_7 rfl rfl ?_
    refine ev_getfield (pc' := 11) fX3_24 dX3_nextEvent_8 rfl hT rfl ?_
    refine ev_icmpI_ge (pc' := 14) (tgt := 67) dX3_nextEvent_11 (by decide) rfl (by omega) (by omega) (fun c11 => ?_) (fun c11 => ?_)
    · refine ev_iconst (pc' := 68) (iI (0)) dX3_nextEvent_67 rfl (by decide) ?_
      refine ev_istore_3 (pc' := 69) dX3_nextEvent_68 rfl (by decide) rfl ?_
      rw [ei]
      exact e3_nxC hC hM rt (S (143 + 45 * k + 28)).toNat 0 (by omega)
    · omega
  | succ n ih =>
    intro i hn
    obtain ⟨l0, l1, l2, l3⟩ := t4 (i : Int) (by omega) (by omega)
    have zb := nxL_b (S := S) (k := k) rt.2 i
    have zb1 := nr_b (e := S (143 + 45 * k + (4 + 4 * (i : Int) + 2)) + 1) zb
    have zb2 := nr_b (e := S (143 + 45 * k + (4 + 4 * (i : Int) + 2)) + 60 * S (143 + 45 * k + (4 + 4 * (i : Int) + 3))) zb1
    refine ev_iload_n (pc' := 7) dX3_nextEvent_6 rfl rfl ?_
    refine ev_aload_n (pc' := 8) dX3_nextEvent_7 rfl rfl ?_
    refine ev_getfield (pc' := 11) fX3_24 dX3_nextEvent_8 rfl hT rfl ?_
    refine ev_icmpI_ge (pc' := 14) (tgt := 67) dX3_nextEvent_11 (by decide) rfl (by omega) (by omega) (fun c11 => ?_) (fun c11 => ?_)
    · omega
    · refine ev_iload_n (pc' := 15) dX3_nextEvent_14 rfl rfl ?_
      refine ev_aload_n (pc' := 16) dX3_nextEvent_15 rfl rfl ?_
      refine ev_getfield (pc' := 19) fX3_34 dX3_nextEvent_16 rfl hT rfl ?_
      refine ev_iload_n (pc' := 20) dX3_nextEvent_19 rfl rfl ?_
      refine ev_ialoadI (pc' := 21) dX3_nextEvent_20 rfl hfr (by decide) (by omega) ?_
      rw [efr _ (by omega) (by omega)]
      refine ev_iconst (pc' := 22) (iI (1)) dX3_nextEvent_21 rfl (by decide) ?_
      refine ev_iaddI (pc' := 23) dX3_nextEvent_22 rfl ?_
      refine ev_iload_n (pc' := 24) dX3_nextEvent_23 rfl rfl ?_
      refine ev_callS3 (pc' := 27) kX3_61 mX3_nearer dX3_nextEvent_24 rfl rfl (Nat.le_of_ble_eq_true rfl) (Nat.le_of_ble_eq_true rfl) (by decide) (e3_nearer (by omega) (by omega) (by omega)) ?_
      refine ev_istore_2 (pc' := 28) dX3_nextEvent_27 rfl (by decide) rfl ?_
      refine ev_iload_n (pc' := 29) dX3_nextEvent_28 rfl rfl ?_
      refine ev_aload_n (pc' := 30) dX3_nextEvent_29 rfl rfl ?_
      refine ev_getfield (pc' := 33) fX3_37 dX3_nextEvent_30 rfl hT rfl ?_
      refine ev_iload_n (pc' := 34) dX3_nextEvent_33 rfl rfl ?_
      refine ev_ialoadI (pc' := 35) dX3_nextEvent_34 rfl hen (by decide) (by omega) ?_
      rw [een _ (by omega) (by omega)]
      refine ev_iload_n (pc' := 36) dX3_nextEvent_35 rfl rfl ?_
      refine ev_callS3 (pc' := 39) kX3_61 mX3_nearer dX3_nextEvent_36 rfl rfl (Nat.le_of_ble_eq_true rfl) (Nat.le_of_ble_eq_true rfl) (by decide) (e3_nearer (by omega) (by omega) (by omega)) ?_
      refine ev_istore_2 (pc' := 40) dX3_nextEvent_39 rfl (by decide) rfl ?_
      refine ev_iload_n (pc' := 41) dX3_nextEvent_40 rfl rfl ?_
      refine ev_aload_n (pc' := 42) dX3_nextEvent_41 rfl rfl ?_
      refine ev_getfield (pc' := 45) fX3_37 dX3_nextEvent_42 rfl hT rfl ?_
      refine ev_iload_n (pc' := 46) dX3_nextEvent_45 rfl rfl ?_
      refine ev_ialoadI (pc' := 47) dX3_nextEvent_46 rfl hen (by decide) (by omega) ?_
      rw [een _ (by omega) (by omega)]
      refine ev_aload_n (pc' := 48) dX3_nextEvent_47 rfl rfl ?_
      refine ev_getfield (pc' := 51) fX3_21 dX3_nextEvent_48 rfl hT rfl ?_
      refine ev_sipush (pc' := 54) (iI (1440)) dX3_nextEvent_51 rfl (by decide) ?_
      refine ev_imulI (pc' := 55) dX3_nextEvent_54 rfl ?_
      refine ev_iaddI (pc' := 56) dX3_nextEvent_55 rfl ?_
      refine ev_iload_n (pc' := 57) dX3_nextEvent_56 rfl rfl ?_
      refine ev_callS3 (pc' := 60) kX3_61 mX3_nearer dX3_nextEvent_57 rfl rfl (Nat.le_of_ble_eq_true rfl) (Nat.le_of_ble_eq_true rfl) (by decide) (e3_nearer (by omega) (by omega) (by omega)) ?_
      refine ev_istore_2 (pc' := 61) dX3_nextEvent_60 rfl (by decide) rfl ?_
      refine ev_iincI_3 (pc' := 64) dX3_nextEvent_61 rfl (by decide) rfl ?_
      refine ev_goto (tgt := 6) dX3_nextEvent_64 (by decide) ?_
      exact ih (i + 1) (by omega)
theorem e3_nextEvent {nu tt : Int} (hC : CT h t (win S k) nu) (hM : mT S k) (rt : 0 ≤ tt ∧ tt < 20000) : Ev l 1 yX3_nextEvent.cls yX3_nextEvent.name cX3_nextEvent 4 (some .int) 0 [some (.ref t), some (.int (iI tt)), none, none] [] h (some (.int (iI (sNxt S k tt)))) h := by
  obtain ⟨t0, t1, t2, t3, t4, t5, t6, t7⟩ := id hM
  refine ev_sipush (pc' := 3) (iI (20000)) dX3_nextEvent_0 rfl (by decide) ?_
  refine ev_istore_2 (pc' := 4) dX3_nextEvent_3 rfl (by decide) rfl ?_
  refine ev_iconst (pc' := 5) (iI (0)) dX3_nextEvent_4 rfl (by decide) ?_
  refine ev_istore_3 (pc' := 6) dX3_nextEvent_5 rfl (by decide) rfl ?_
  exact e3_nxL hC hM rt (S (143 + 45 * k + 3)).toNat 0 (by omega)
/-- a look: it answers r and has changed nothing but the spot -/
def lkP (h : ev_H) (S : Int → Int) (F : Nat → Option Nat) (r : Option Value) : Option Value → ev_H → Prop := fun v h2 => v = r ∧ FrS h h2 ∧ RC h2 S F
theorem bea_mea {S : Int → Int} {k ea : Int} (h : ∀ i, 0 ≤ i → i < 6 → bitI ea i = S (143 + 45 * k + (4 + 4 * i + 1))) : ∀ i, 0 ≤ i → i < 6 → bea ea i = mea S k i := by
  intro i h1 h2
  unfold bea mea
  rw [h i h1 h2]
theorem e5_roundsAt {tt : Int} (hR : RC h S F) (hk : 0 ≤ k ∧ k < S 1) (ht : F k.toNat = some t) (hI : mI0 S) (hJ : mIP S) (hM : mT S k) (rt : -1 ≤ tt ∧ tt ≤ 30000) : Ex l 3 yX5_roundsAt.cls yX5_roundsAt.name cX5_roundsAt 3 (some .int) 0 [some (.ref 0), some (.ref t), some (.int (iI tt))] [] h (lkP h S F (some (.int (iI (sRnd S k (fw S (mea S k) k tt).1 (fw S (mea S k) k tt).2.1))))) := by
  obtain ⟨t0, t1, t2, t3, t4, t5, t6, t7⟩ := id hM
  obtain ⟨⟨i1, i2⟩, ⟨i3, i4⟩, i5, i6⟩ := id hI
  obtain ⟨hC, h47⟩ := hR.tr hk ht
  obtain ⟨⟨im, hX⟩, hN, hs, -⟩ := id hR
  have hW := hN.1
  obtain ⟨ea0, to, fro, en0, ca0, cb, ⟨be1, be2⟩, hT, ⟨hto, eto⟩, ⟨hfr, efr⟩, ⟨hen0, een⟩, ⟨hca, eca⟩, ⟨hcb, ecb⟩⟩ := CT.op hC
  obtain ⟨a, b, c, dd, e1, b1, b2, b3, b4⟩ := fw_b (ea := mea S k) (t := tt) hM (by omega)
  have bN := eN_bc (S := S) (k := k) b1 b2
  refine ex_of (fun _ _ => ev_aload_n (pc' := 1) dX5_roundsAt_0 rfl rfl) ?_
  refine ex_of (fun _ _ => ev_getfield (pc' := 4) fX5_12 dX5_roundsAt_1 rfl hX rfl) ?_
  refine ex_of (fun _ _ => ev_aload_n (pc' := 5) dX5_roundsAt_4 rfl rfl) ?_
  refine ex_of (fun _ _ => ev_aload_n (pc' := 6) dX5_roundsAt_5 rfl rfl) ?_
  refine ex_of (fun _ _ => ev_getfield (pc' := 9) fX5_162 dX5_roundsAt_6 rfl hT rfl) ?_
  refine ex_of (fun _ _ => ev_iload_n (pc' := 10) dX5_roundsAt_9 rfl rfl) ?_
  refine ex_of (fun _ _ => ev_aload_n (pc' := 11) dX5_roundsAt_10 rfl rfl) ?_
  refine ex_of (fun _ _ => ev_getfield (pc' := 14) fX5_32 dX5_roundsAt_11 rfl hX rfl) ?_
  have hO := hW
  obtain ⟨w1, h1, E1, rfl, fr1, pl, le, ca, go, ea, be, hSp, efw, rfl, -⟩ := e4_locate (l := l) (e := ea0) (tt := tt) hN hC h47 hI hJ hM (by omega) be1 (by omega) hs
  refine ex_of (fun _ _ => ev_callV4v (pc' := 17) kX5_165 mX4_locate dX5_roundsAt_14 rfl rfl (Nat.le_of_ble_eq_true rfl) (Nat.le_of_ble_eq_true rfl) (by decide) rfl hO E1) ?_
  have fr := fr1
  have hN := hN.fr fr1 (by decide)
  have hW := hN.1
  have hX := (fr1.2 0 (by decide)).trans hX
  have hC := hC.fr fr1 h47
  have hT := (fr1.2 t (by omega)).trans hT
  have hR := hR.fr fr1 ⟨_, _, _, _, _, _, hSp⟩
  rw [fw_cg (bea_mea be2) hM, e1] at efw
  obtain ⟨rfl, rfl, rfl, rfl⟩ : go = a ∧ be = b ∧ pl = c ∧ ca = dd := by simpa using efw
  refine ex_of (fun _ _ => ev_aload_n (pc' := 18) dX5_roundsAt_17 rfl rfl) ?_
  refine ex_of (fun _ _ => ev_getfield (pc' := 21) fX5_32 dX5_roundsAt_18 rfl hX rfl) ?_
  refine ex_of (fun _ _ => ev_callV0 (pc' := 24) kX5_383 mX2_roundsDone dX5_roundsAt_21 rfl rfl (Nat.le_of_ble_eq_true rfl) (Nat.le_of_ble_eq_true rfl) (by decide) rfl hSp (e2_roundsDone hSp bN b2)) ?_
  exact ex_end (ev_iret dX5_roundsAt_24 rfl) (⟨by rw [e1]; rfl, fr, hR⟩)
theorem e5_dayTold {kd tt : Int} (hR : RC h S F) (hk : 0 ≤ k ∧ k < S 1) (ht : F k.toNat = some t) (hI : mI0 S) (hJ : mIP S) (hM : mT S k) (rt : -1 ≤ tt ∧ tt ≤ 30000) (rk : 0 ≤ kd ∧ kd ≤ 7) : Ex l 3 yX5_dayTold.cls yX5_dayTold.name cX5_dayTold 4 (some .int) 0 [some (.ref 0), some (.ref t), some (.int (iI kd)), some (.int (iI tt))] [] h (lkP h S F (some (.int (iI (sDayAs S (mea S k) k kd tt))))) := by
  obtain ⟨t0, t1, t2, t3, t4, t5, t6, t7⟩ := id hM
  obtain ⟨⟨i1, i2⟩, ⟨i3, i4⟩, i5, i6⟩ := id hI
  obtain ⟨hC, h47⟩ := hR.tr hk ht
  obtain ⟨⟨im, hX⟩, hN, hs, -⟩ := id hR
  have hW := hN.1
  obtain ⟨ea0, to, fro, en0, ca0, cb, ⟨be1, be2⟩, hT, ⟨hto, eto⟩, ⟨hfr, efr⟩, ⟨hen0, een⟩, ⟨hca, eca⟩, ⟨hcb, ecb⟩⟩ := CT.op hC
  obtain ⟨a, b, c, dd, e1, b1, b2, b3, b4⟩ := fw_b (ea := mea S k) (t := tt) hM (by omega)
  have bN := eN_bc (S := S) (k := k) b1 b2
  refine ex_of (fun _ _ => ev_aload_n (pc' := 1) dX5_dayTold_0 rfl rfl) ?_
  refine ex_of (fun _ _ => ev_getfield (pc' := 4) fX5_12 dX5_dayTold_1 rfl hX rfl) ?_
  refine ex_of (fun _ _ => ev_aload_n (pc' := 5) dX5_dayTold_4 rfl rfl) ?_
  refine ex_of (fun _ _ => ev_aload_n (pc' := 6) dX5_dayTold_5 rfl rfl) ?_
  refine ex_of (fun _ _ => ev_getfield (pc' := 9) fX5_162 dX5_dayTold_6 rfl hT rfl) ?_
  refine ex_of (fun _ _ => ev_iload_n (pc' := 10) dX5_dayTold_9 rfl rfl) ?_
  refine ex_of (fun _ _ => ev_aload_n (pc' := 11) dX5_dayTold_10 rfl rfl) ?_
  refine ex_of (fun _ _ => ev_getfield (pc' := 14) fX5_32 dX5_dayTold_11 rfl hX rfl) ?_
  have hO := hW
  obtain ⟨w1, h1, E1, rfl, fr1, pl, le, ca, go, ea, be, hSp, efw, rfl, -⟩ := e4_locate (l := l) (e := ea0) (tt := tt) hN hC h47 hI hJ hM (by omega) be1 (by omega) hs
  refine ex_of (fun _ _ => ev_callV4v (pc' := 17) kX5_165 mX4_locate dX5_dayTold_14 rfl rfl (Nat.le_of_ble_eq_true rfl) (Nat.le_of_ble_eq_true rfl) (by decide) rfl hO E1) ?_
  have fr := fr1
  have hN := hN.fr fr1 (by decide)
  have hW := hN.1
  have hX := (fr1.2 0 (by decide)).trans hX
  have hC := hC.fr fr1 h47
  have hT := (fr1.2 t (by omega)).trans hT
  have hR := hR.fr fr1 ⟨_, _, _, _, _, _, hSp⟩
  rw [fw_cg (bea_mea be2) hM, e1] at efw
  obtain ⟨rfl, rfl, rfl, rfl⟩ : go = a ∧ be = b ∧ pl = c ∧ ca = dd := by simpa using efw
  refine ex_of (fun _ _ => ev_iload_n (pc' := 18) dX5_dayTold_17 rfl rfl) ?_
  by_cases c18_1 : kd = 1
  · refine ex_of (fun _ _ => ev_tableInI dX5_dayTold_18 c18_1 (by decide) (by decide) (by decide) (off := 42) (by decide) (tgt := 60) (by decide)) ?_
    refine ex_of (fun _ _ => ev_aload_n (pc' := 61) dX5_dayTold_60 rfl rfl) ?_
    refine ex_of (fun _ _ => ev_getfield (pc' := 64) fX5_32 dX5_dayTold_61 rfl hX rfl) ?_
    refine ex_of (fun _ _ => ev_iload_n (pc' := 65) dX5_dayTold_64 rfl rfl) ?_
    refine ex_of (fun _ _ => ev_callV1 (pc' := 68) kX5_386 mX2_daysSeen dX5_dayTold_65 rfl rfl (Nat.le_of_ble_eq_true rfl) (Nat.le_of_ble_eq_true rfl) (by decide) rfl hSp (e2_daysSeen hSp bN b2 (by omega))) ?_
    exact ex_end (ev_iret dX5_dayTold_68 rfl) (⟨by unfold sDayAs; rw [e1]; unfold sDay sHere sSeen sRnd sMid; dsimp only; (repeat (first | rw [if_pos (by omega)] | rw [if_neg (by omega)])); first | done | rfl | rw [dPL_S], fr, hR⟩)
  · skip
    by_cases c18_2 : kd = 2
    · refine ex_of (fun _ _ => ev_tableInI dX5_dayTold_18 c18_2 (by decide) (by decide) (by decide) (off := 51) (by decide) (tgt := 69) (by decide)) ?_
      refine ex_of (fun _ _ => ev_aload_n (pc' := 70) dX5_dayTold_69 rfl rfl) ?_
      refine ex_of (fun _ _ => ev_getfield (pc' := 73) fX5_32 dX5_dayTold_70 rfl hX rfl) ?_
      refine ex_of (fun _ _ => ev_callV0 (pc' := 76) kX5_187 mX2_isUnderWay dX5_dayTold_73 rfl rfl (Nat.le_of_ble_eq_true rfl) (Nat.le_of_ble_eq_true rfl) (by decide) rfl hSp (e2_isUnderWay hSp (by omega))) ?_
      refine ex_ifd_eq (pc' := 79) (tgt := 90) dX5_dayTold_76 (by decide) rfl (fun c76 => ?_) (fun c76 => ?_)
      · refine ex_of (fun _ _ => ev_aload_n (pc' := 91) dX5_dayTold_90 rfl rfl) ?_
        refine ex_of (fun _ _ => ev_getfield (pc' := 94) fX5_12 dX5_dayTold_91 rfl hX rfl) ?_
        refine ex_of (fun _ _ => ev_aload_n (pc' := 95) dX5_dayTold_94 rfl rfl) ?_
        refine ex_of (fun _ _ => ev_getfield (pc' := 98) fX5_32 dX5_dayTold_95 rfl hX rfl) ?_
        refine ex_of (fun _ _ => ev_getfield (pc' := 101) fX5_191 dX5_dayTold_98 rfl hSp rfl) ?_
        refine ex_of (fun _ _ => ev_iload_n (pc' := 102) dX5_dayTold_101 rfl rfl) ?_
        refine ex_of (fun _ _ => ev_aload_n (pc' := 103) dX5_dayTold_102 rfl rfl) ?_
        refine ex_of (fun _ _ => ev_getfield (pc' := 106) fX5_12 dX5_dayTold_103 rfl hX rfl) ?_
        refine ex_of (fun _ _ => ev_getfield (pc' := 109) fX5_92 dX5_dayTold_106 rfl hW rfl) ?_
        refine ex_of (fun _ _ => ev_callV3 (pc' := 112) kX5_99 mX4_dayIn dX5_dayTold_109 rfl rfl (Nat.le_of_ble_eq_true rfl) (Nat.le_of_ble_eq_true rfl) (by decide) rfl hW (e4_dayIn hN hI hJ (by omega) (by omega) (by omega))) ?_
        exact ex_end (ev_iret dX5_dayTold_112 rfl) (⟨by unfold sDayAs; rw [e1]; unfold sDay sHere sSeen sRnd sMid; dsimp only; (repeat (first | rw [if_pos (by omega)] | rw [if_neg (by omega)])); first | done | rfl | rw [dPL_S], fr, hR⟩)
      · refine ex_of (fun _ _ => ev_aload_n (pc' := 80) dX5_dayTold_79 rfl rfl) ?_
        refine ex_of (fun _ _ => ev_getfield (pc' := 83) fX5_32 dX5_dayTold_80 rfl hX rfl) ?_
        refine ex_of (fun _ _ => ev_iload_n (pc' := 84) dX5_dayTold_83 rfl rfl) ?_
        refine ex_of (fun _ _ => ev_callV1 (pc' := 87) kX5_389 mX2_dayByMidnight dX5_dayTold_84 rfl rfl (Nat.le_of_ble_eq_true rfl) (Nat.le_of_ble_eq_true rfl) (by decide) rfl hSp (e2_dayByMidnight hSp bN b2 (by omega))) ?_
        refine ex_of (fun _ _ => ev_goto (tgt := 112) dX5_dayTold_87 (by decide)) ?_
        exact ex_end (ev_iret dX5_dayTold_112 rfl) (⟨by unfold sDayAs; rw [e1]; unfold sDay sHere sSeen sRnd sMid; dsimp only; (repeat (first | rw [if_pos (by omega)] | rw [if_neg (by omega)])); first | done | rfl | rw [dPL_S], fr, hR⟩)
    · skip
      by_cases c18_3 : kd = 3
      · refine ex_of (fun _ _ => ev_tableInI dX5_dayTold_18 c18_3 (by decide) (by decide) (by decide) (off := 95) (by decide) (tgt := 113) (by decide)) ?_
        refine ex_of (fun _ _ => ev_aload_n (pc' := 114) dX5_dayTold_113 rfl rfl) ?_
        refine ex_of (fun _ _ => ev_getfield (pc' := 117) fX5_12 dX5_dayTold_114 rfl hX rfl) ?_
        refine ex_of (fun _ _ => ev_aload_n (pc' := 118) dX5_dayTold_117 rfl rfl) ?_
        refine ex_of (fun _ _ => ev_getfield (pc' := 121) fX5_127 dX5_dayTold_118 rfl hT rfl) ?_
        refine ex_of (fun _ _ => ev_iload_n (pc' := 122) dX5_dayTold_121 rfl rfl) ?_
        refine ex_of (fun _ _ => ev_aload_n (pc' := 123) dX5_dayTold_122 rfl rfl) ?_
        refine ex_of (fun _ _ => ev_getfield (pc' := 126) fX5_12 dX5_dayTold_123 rfl hX rfl) ?_
        refine ex_of (fun _ _ => ev_getfield (pc' := 129) fX5_92 dX5_dayTold_126 rfl hW rfl) ?_
        refine ex_of (fun _ _ => ev_callV3 (pc' := 132) kX5_99 mX4_dayIn dX5_dayTold_129 rfl rfl (Nat.le_of_ble_eq_true rfl) (Nat.le_of_ble_eq_true rfl) (by decide) rfl hW (e4_dayIn hN hI hJ (by omega) (by omega) (by omega))) ?_
        exact ex_end (ev_iret dX5_dayTold_132 rfl) (⟨by unfold sDayAs; rw [e1]; unfold sDay sHere sSeen sRnd sMid; dsimp only; (repeat (first | rw [if_pos (by omega)] | rw [if_neg (by omega)])); first | done | rfl | rw [dPL_S], fr, hR⟩)
      · skip
        by_cases c18_4 : kd = 4
        · refine ex_of (fun _ _ => ev_tableInI dX5_dayTold_18 c18_4 (by decide) (by decide) (by decide) (off := 115) (by decide) (tgt := 133) (by decide)) ?_
          refine ex_of (fun _ _ => ev_aload_n (pc' := 134) dX5_dayTold_133 rfl rfl) ?_
          refine ex_of (fun _ _ => ev_getfield (pc' := 137) fX5_32 dX5_dayTold_134 rfl hX rfl) ?_
          refine ex_of (fun _ _ => ev_iload_n (pc' := 138) dX5_dayTold_137 rfl rfl) ?_
          refine ex_of (fun _ _ => ev_callV1 (pc' := 141) kX5_386 mX2_daysSeen dX5_dayTold_138 rfl rfl (Nat.le_of_ble_eq_true rfl) (Nat.le_of_ble_eq_true rfl) (by decide) rfl hSp (e2_daysSeen hSp bN b2 (by omega))) ?_
          refine ex_of (fun _ _ => ev_aload_n (pc' := 142) dX5_dayTold_141 rfl rfl) ?_
          refine ex_of (fun _ _ => ev_iload_n (pc' := 143) dX5_dayTold_142 rfl rfl) ?_
          refine ex_of (fun _ _ => ev_callV1 (pc' := 146) kX5_392 mX3_changedTill dX5_dayTold_143 rfl rfl (Nat.le_of_ble_eq_true rfl) (Nat.le_of_ble_eq_true rfl) (by decide) rfl hT (e3_changedTill hC hM (by omega))) ?_
          refine ex_of (fun _ _ => ev_iaddI (pc' := 147) dX5_dayTold_146 rfl) ?_
          exact ex_end (ev_iret dX5_dayTold_147 rfl) (⟨by unfold sDayAs; rw [e1]; unfold sDay sHere sSeen sRnd sMid; dsimp only; (repeat (first | rw [if_pos (by omega)] | rw [if_neg (by omega)])); first | done | rfl | rw [dPL_S], fr, hR⟩)
        · skip
          by_cases c18_5 : kd = 5
          · refine ex_of (fun _ _ => ev_tableInI dX5_dayTold_18 c18_5 (by decide) (by decide) (by decide) (off := 130) (by decide) (tgt := 148) (by decide)) ?_
            refine ex_of (fun _ _ => ev_aload_n (pc' := 149) dX5_dayTold_148 rfl rfl) ?_
            refine ex_of (fun _ _ => ev_getfield (pc' := 152) fX5_32 dX5_dayTold_149 rfl hX rfl) ?_
            refine ex_of (fun _ _ => ev_iload_n (pc' := 153) dX5_dayTold_152 rfl rfl) ?_
            refine ex_of (fun _ _ => ev_callV1 (pc' := 156) kX5_386 mX2_daysSeen dX5_dayTold_153 rfl rfl (Nat.le_of_ble_eq_true rfl) (Nat.le_of_ble_eq_true rfl) (by decide) rfl hSp (e2_daysSeen hSp bN b2 (by omega))) ?_
            refine ex_of (fun _ _ => ev_aload_n (pc' := 157) dX5_dayTold_156 rfl rfl) ?_
            refine ex_of (fun _ _ => ev_getfield (pc' := 160) fX5_32 dX5_dayTold_157 rfl hX rfl) ?_
            refine ex_of (fun _ _ => ev_callV0 (pc' := 163) kX5_383 mX2_roundsDone dX5_dayTold_160 rfl rfl (Nat.le_of_ble_eq_true rfl) (Nat.le_of_ble_eq_true rfl) (by decide) rfl hSp (e2_roundsDone hSp bN b2)) ?_
            refine ex_of (fun _ _ => ev_isubI (pc' := 164) dX5_dayTold_163 rfl) ?_
            exact ex_end (ev_iret dX5_dayTold_164 rfl) (⟨by unfold sDayAs; rw [e1]; unfold sDay sHere sSeen sRnd sMid; dsimp only; (repeat (first | rw [if_pos (by omega)] | rw [if_neg (by omega)])); first | done | rfl | rw [dPL_S], fr, hR⟩)
          · skip
            by_cases c18_6 : kd = 6
            · refine ex_of (fun _ _ => ev_tableInI dX5_dayTold_18 c18_6 (by decide) (by decide) (by decide) (off := 147) (by decide) (tgt := 165) (by decide)) ?_
              refine ex_of (fun _ _ => ev_aload_n (pc' := 166) dX5_dayTold_165 rfl rfl) ?_
              refine ex_of (fun _ _ => ev_getfield (pc' := 169) fX5_12 dX5_dayTold_166 rfl hX rfl) ?_
              refine ex_of (fun _ _ => ev_aload_n (pc' := 170) dX5_dayTold_169 rfl rfl) ?_
              refine ex_of (fun _ _ => ev_aload_n (pc' := 171) dX5_dayTold_170 rfl rfl) ?_
              refine ex_of (fun _ _ => ev_getfield (pc' := 174) fX5_32 dX5_dayTold_171 rfl hX rfl) ?_
              refine ex_of (fun _ _ => ev_iload_n (pc' := 175) dX5_dayTold_174 rfl rfl) ?_
              refine ex_of (fun _ _ => ev_callV2 (pc' := 178) kX5_395 mX3_isSettled dX5_dayTold_175 rfl rfl (Nat.le_of_ble_eq_true rfl) (Nat.le_of_ble_eq_true rfl) (by decide) rfl hT (e3_isSettled hC hM hSp (by omega) (by omega) (by omega) (by omega))) ?_
              refine ex_ifd_eq (pc' := 181) (tgt := 191) dX5_dayTold_178 (by decide) rfl (fun c178 => ?_) (fun c178 => ?_)
              · refine ex_of (fun _ _ => ev_aload_n (pc' := 192) dX5_dayTold_191 rfl rfl) ?_
                refine ex_of (fun _ _ => ev_getfield (pc' := 195) fX5_127 dX5_dayTold_192 rfl hT rfl) ?_
                refine ex_of (fun _ _ => ev_iload_n (pc' := 196) dX5_dayTold_195 rfl rfl) ?_
                refine ex_of (fun _ _ => ev_aload_n (pc' := 197) dX5_dayTold_196 rfl rfl) ?_
                refine ex_of (fun _ _ => ev_getfield (pc' := 200) fX5_12 dX5_dayTold_197 rfl hX rfl) ?_
                refine ex_of (fun _ _ => ev_getfield (pc' := 203) fX5_92 dX5_dayTold_200 rfl hW rfl) ?_
                refine ex_of (fun _ _ => ev_callV3 (pc' := 206) kX5_99 mX4_dayIn dX5_dayTold_203 rfl rfl (Nat.le_of_ble_eq_true rfl) (Nat.le_of_ble_eq_true rfl) (by decide) rfl hW (e4_dayIn hN hI hJ (by omega) (by omega) (by omega))) ?_
                exact ex_end (ev_iret dX5_dayTold_206 rfl) (⟨by unfold sDayAs; rw [e1]; unfold sDay sHere sSeen sRnd sMid; dsimp only; (repeat (first | rw [if_pos (by omega)] | rw [if_neg (by omega)])); first | done | rfl | rw [dPL_S], fr, hR⟩)
              · refine ex_of (fun _ _ => ev_aload_n (pc' := 182) dX5_dayTold_181 rfl rfl) ?_
                refine ex_of (fun _ _ => ev_getfield (pc' := 185) fX5_32 dX5_dayTold_182 rfl hX rfl) ?_
                refine ex_of (fun _ _ => ev_getfield (pc' := 188) fX5_191 dX5_dayTold_185 rfl hSp rfl) ?_
                refine ex_of (fun _ _ => ev_goto (tgt := 195) dX5_dayTold_188 (by decide)) ?_
                refine ex_of (fun _ _ => ev_iload_n (pc' := 196) dX5_dayTold_195 rfl rfl) ?_
                refine ex_of (fun _ _ => ev_aload_n (pc' := 197) dX5_dayTold_196 rfl rfl) ?_
                refine ex_of (fun _ _ => ev_getfield (pc' := 200) fX5_12 dX5_dayTold_197 rfl hX rfl) ?_
                refine ex_of (fun _ _ => ev_getfield (pc' := 203) fX5_92 dX5_dayTold_200 rfl hW rfl) ?_
                refine ex_of (fun _ _ => ev_callV3 (pc' := 206) kX5_99 mX4_dayIn dX5_dayTold_203 rfl rfl (Nat.le_of_ble_eq_true rfl) (Nat.le_of_ble_eq_true rfl) (by decide) rfl hW (e4_dayIn hN hI hJ (by omega) (by omega) (by omega))) ?_
                exact ex_end (ev_iret dX5_dayTold_206 rfl) (⟨by unfold sDayAs; rw [e1]; unfold sDay sHere sSeen sRnd sMid; dsimp only; (repeat (first | rw [if_pos (by omega)] | rw [if_neg (by omega)])); first | done | rfl | rw [dPL_S], fr, hR⟩)
            · skip
              by_cases c18_7 : kd = 7
              · refine ex_of (fun _ _ => ev_tableInI dX5_dayTold_18 c18_7 (by decide) (by decide) (by decide) (off := 189) (by decide) (tgt := 207) (by decide)) ?_
                refine ex_of (fun _ _ => ev_aload_n (pc' := 208) dX5_dayTold_207 rfl rfl) ?_
                refine ex_of (fun _ _ => ev_getfield (pc' := 211) fX5_12 dX5_dayTold_208 rfl hX rfl) ?_
                refine ex_of (fun _ _ => ev_aload_n (pc' := 212) dX5_dayTold_211 rfl rfl) ?_
                refine ex_of (fun _ _ => ev_getfield (pc' := 215) fX5_127 dX5_dayTold_212 rfl hT rfl) ?_
                refine ex_of (fun _ _ => ev_iload_n (pc' := 216) dX5_dayTold_215 rfl rfl) ?_
                refine ex_of (fun _ _ => ev_aload_n (pc' := 217) dX5_dayTold_216 rfl rfl) ?_
                refine ex_of (fun _ _ => ev_getfield (pc' := 220) fX5_12 dX5_dayTold_217 rfl hX rfl) ?_
                refine ex_of (fun _ _ => ev_getfield (pc' := 223) fX5_92 dX5_dayTold_220 rfl hW rfl) ?_
                refine ex_of (fun _ _ => ev_callV3 (pc' := 226) kX5_99 mX4_dayIn dX5_dayTold_223 rfl rfl (Nat.le_of_ble_eq_true rfl) (Nat.le_of_ble_eq_true rfl) (by decide) rfl hW (e4_dayIn hN hI hJ (by omega) (by omega) (by omega))) ?_
                refine ex_of (fun _ _ => ev_aload_n (pc' := 227) dX5_dayTold_226 rfl rfl) ?_
                refine ex_of (fun _ _ => ev_getfield (pc' := 230) fX5_32 dX5_dayTold_227 rfl hX rfl) ?_
                refine ex_of (fun _ _ => ev_callV0 (pc' := 233) kX5_187 mX2_isUnderWay dX5_dayTold_230 rfl rfl (Nat.le_of_ble_eq_true rfl) (Nat.le_of_ble_eq_true rfl) (by decide) rfl hSp (e2_isUnderWay hSp (by omega))) ?_
                refine ex_ifd_eq (pc' := 236) (tgt := 240) dX5_dayTold_233 (by decide) rfl (fun c233 => ?_) (fun c233 => ?_)
                · refine ex_of (fun _ _ => ev_iconst (pc' := 241) (iI (0)) dX5_dayTold_240 rfl (by decide)) ?_
                  refine ex_of (fun _ _ => ev_iaddI (pc' := 242) dX5_dayTold_241 rfl) ?_
                  exact ex_end (ev_iret dX5_dayTold_242 rfl) (⟨by unfold sDayAs; rw [e1]; unfold sDay sHere sSeen sRnd sMid; dsimp only; (repeat (first | rw [if_pos (by omega)] | rw [if_neg (by omega)])); first | done | rfl | rw [dPL_S], fr, hR⟩)
                · refine ex_of (fun _ _ => ev_iconst (pc' := 237) (iI (1)) dX5_dayTold_236 rfl (by decide)) ?_
                  refine ex_of (fun _ _ => ev_goto (tgt := 241) dX5_dayTold_237 (by decide)) ?_
                  refine ex_of (fun _ _ => ev_iaddI (pc' := 242) dX5_dayTold_241 rfl) ?_
                  exact ex_end (ev_iret dX5_dayTold_242 rfl) (⟨by unfold sDayAs; rw [e1]; unfold sDay sHere sSeen sRnd sMid; dsimp only; (repeat (first | rw [if_pos (by omega)] | rw [if_neg (by omega)])); first | done | rfl | rw [dPL_S], fr, hR⟩)
              · skip
                refine ex_of (fun _ _ => ev_tableOutI dX5_dayTold_18 (by omega) (by omega) (tgt := 243) (by decide)) ?_
                refine ex_of (fun _ _ => ev_aload_n (pc' := 244) dX5_dayTold_243 rfl rfl) ?_
                refine ex_of (fun _ _ => ev_getfield (pc' := 247) fX5_32 dX5_dayTold_244 rfl hX rfl) ?_
                refine ex_of (fun _ _ => ev_iload_n (pc' := 248) dX5_dayTold_247 rfl rfl) ?_
                refine ex_of (fun _ _ => ev_callV1 (pc' := 251) kX5_389 mX2_dayByMidnight dX5_dayTold_248 rfl rfl (Nat.le_of_ble_eq_true rfl) (Nat.le_of_ble_eq_true rfl) (by decide) rfl hSp (e2_dayByMidnight hSp bN b2 (by omega))) ?_
                exact ex_end (ev_iret dX5_dayTold_251 rfl) (⟨by unfold sDayAs; rw [e1]; unfold sDay sHere sSeen sRnd sMid; dsimp only; (repeat (first | rw [if_pos (by omega)] | rw [if_neg (by omega)])); first | done | rfl | rw [dPL_S], fr, hR⟩)
end CE
