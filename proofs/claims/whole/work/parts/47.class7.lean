section CI
variable {l : Launch} {h h0 : ev_H} {S : Int → Int} {F : Nat → Option Nat} {t : Nat} {k : Int}
/-! sums over pairs, row by row or the other way -/
def rwS (f : Nat → Nat → Int) (a : Nat) : Nat → Int
  | 0 => 0
  | n + 1 => rwS f a n + f a n
def trS2 (f : Nat → Nat → Int) : Nat → Int
  | 0 => 0
  | n + 1 => trS2 f n + rwS f n n
def inS (f : Nat → Nat → Int) (a : Nat) : Nat → Int
  | 0 => 0
  | m + 1 => inS f a m + f (a + 1 + m) a
def ouS (f : Nat → Nat → Int) (n : Nat) : Nat → Int
  | 0 => 0
  | a + 1 => ouS f n a + inS f a (n - 1 - a)
theorem ou_s (f : Nat → Nat → Int) (n : Nat) : ∀ m, m ≤ n → ouS f (n + 1) m = ouS f n m + rwS f n m
  | 0, _ => rfl
  | m + 1, h => by
    have ih := ou_s f n m (by omega)
    unfold ouS rwS
    rw [ih, show n + 1 - 1 - m = (n - 1 - m) + 1 by omega]
    show _ + (inS f m (n - 1 - m) + f (m + 1 + (n - 1 - m)) m) = _
    rw [show m + 1 + (n - 1 - m) = n by omega]
    omega
theorem ou_tr (f : Nat → Nat → Int) : ∀ n, ouS f n n = trS2 f n
  | 0 => rfl
  | n + 1 => by
    show ouS f (n + 1) n + inS f n (n + 1 - 1 - n) = trS2 f n + rwS f n n
    rw [ou_s f n n (Nat.le_refl n), ou_tr f n, show n + 1 - 1 - n = 0 by omega]
    show _ + 0 = _
    omega
theorem dPL_b {S : Int → Int} {u p t : Int} (hJ : mIP S) (hp : 0 ≤ p ∧ p < S 0) (h4 : -100000 ≤ t ∧ t ≤ 100000) : -201 ≤ dPL S u p t ∧ dPL S u p t ≤ 201 := by
  rw [← dPL_u]
  exact dP_b (mIP_line hJ) (by rw [upI_n (by decide)]; exact hp) h4
def fWr (S : Int → Int) (u t : Int) (a b : Nat) : Int := if dPL S u a t = dPL S u b t then 0 else S (43 + 10 * (a : Int) + b) * (S (3 + 4 * (a : Int) + 3) + S (3 + 4 * (b : Int) + 3))
theorem wr_row {S : Int → Int} {u t : Int} (a : Nat) : ∀ n : Nat, wrI (upI S 2 u) (a : Int) t n = rwS (fWr S u t) a n
  | 0 => rfl
  | n + 1 => by
    unfold wrI rwS fWr
    rw [wr_row a n, dPL_u, dPL_u, upI_n (by omega), upI_n (by omega), upI_n (by omega)]
    rfl
theorem wr_tri {S : Int → Int} {u t : Int} : ∀ n : Nat, wrO (upI S 2 u) t n = trS2 (fWr S u t) n
  | 0 => rfl
  | n + 1 => by
    unfold wrO trS2
    rw [wr_tri n, wr_row]
theorem sWr_ou (S : Int → Int) (u t : Int) : sWr S u t = ouS (fWr S u t) (S 0).toNat (S 0).toNat := by
  unfold sWr
  rw [wr_tri, ou_tr]
def fCn (S : Int → Int) (a b : Nat) : Int := if 0 < S (43 + 10 * (a : Int) + b) then 1 else 0
theorem cn_row {S : Int → Int} (a : Nat) : ∀ n : Nat, cnI S (a : Int) n = rwS (fCn S) a n
  | 0 => rfl
  | n + 1 => by unfold cnI rwS; rw [cn_row a n]; rfl
theorem cn_tri {S : Int → Int} : ∀ n : Nat, cnO S n = trS2 (fCn S) n
  | 0 => rfl
  | n + 1 => by unfold cnO trS2; rw [cn_tri n, cn_row]
theorem cnO_ou (S : Int → Int) : cnO S (S 0).toNat = ouS (fCn S) (S 0).toNat (S 0).toNat := by rw [cn_tri, ou_tr]
theorem e5_place {p w : Int} (hRC : RC h S F) (hI : mI0 S) (hJ : mIP S) (rp : -2147483648 ≤ p ∧ p < 2147483648) (rw : -2147483648 ≤ w ∧ w < 2147483648) : Ev l 2 yX5_place.cls yX5_place.name cX5_place 3 (some .int) 0 [some (.ref 0), some (.int (iI p)), some (.int (iI w))] [] h (some (.int (iI (sPlace S p w)))) h := by
  obtain ⟨⟨i1, i2⟩, ⟨i3, i4⟩, i5, i6⟩ := id hI
  obtain ⟨⟨im, hX0⟩, hN, -⟩ := id hRC
  obtain ⟨D, R, C, Q, X, hW, ⟨hD, eD⟩, ⟨hR, eR⟩, ⟨hC, eC⟩, ⟨hQ, eQ⟩, ⟨hX, eX⟩, hF⟩ := CW.op hN
  refine ev_aload_n (pc' := 1) dX5_place_0 rfl rfl ?_
  refine ev_getfield (pc' := 4) fX5_12 dX5_place_1 rfl hX0 rfl ?_
  refine ev_iload_n (pc' := 5) dX5_place_4 rfl rfl ?_
  refine ev_callV1 (pc' := 8) kX5_68 mX4_hasPlace dX5_place_5 rfl rfl (Nat.le_of_ble_eq_true rfl) (Nat.le_of_ble_eq_true rfl) (by decide) rfl hW (e4_hasPlace hN hI (by omega)) ?_
  refine ev_ifd_ne (pc' := 11) (tgt := 14) dX5_place_8 (by decide) rfl (fun c8 => ?_) (fun c8 => ?_)
  · refine ev_iload_n (pc' := 15) dX5_place_14 rfl rfl ?_
    by_cases c15_0 : w = 0
    · refine ev_tableInI dX5_place_15 c15_0 (by decide) (by decide) (by decide) (off := 29) (by decide) (tgt := 44) (by decide) ?_
      refine ev_aload_n (pc' := 45) dX5_place_44 rfl rfl ?_
      refine ev_getfield (pc' := 48) fX5_12 dX5_place_45 rfl hX0 rfl ?_
      refine ev_getfield (pc' := 51) fX5_73 dX5_place_48 rfl hW rfl ?_
      refine ev_iload_n (pc' := 52) dX5_place_51 rfl rfl ?_
      refine ev_ialoadI (pc' := 53) dX5_place_52 rfl hD (by decide) (by omega) ?_
      rw [eD _ (by omega) (by omega)]
      exact ev_ireI dX5_place_53 (by unfold sPlace; first | (rw [if_pos (by omega)]; congr 2; omega) | (rw [if_pos (by omega)]; congr 3; omega) | rw [if_neg (by omega)])
    · skip
      by_cases c15_1 : w = 1
      · refine ev_tableInI dX5_place_15 c15_1 (by decide) (by decide) (by decide) (off := 39) (by decide) (tgt := 54) (by decide) ?_
        refine ev_aload_n (pc' := 55) dX5_place_54 rfl rfl ?_
        refine ev_getfield (pc' := 58) fX5_12 dX5_place_55 rfl hX0 rfl ?_
        refine ev_getfield (pc' := 61) fX5_77 dX5_place_58 rfl hW rfl ?_
        refine ev_iload_n (pc' := 62) dX5_place_61 rfl rfl ?_
        refine ev_ialoadI (pc' := 63) dX5_place_62 rfl hR (by decide) (by omega) ?_
        rw [eR _ (by omega) (by omega)]
        exact ev_ireI dX5_place_63 (by unfold sPlace; first | (rw [if_pos (by omega)]; congr 2; omega) | (rw [if_pos (by omega)]; congr 3; omega) | rw [if_neg (by omega)])
      · skip
        by_cases c15_2 : w = 2
        · refine ev_tableInI dX5_place_15 c15_2 (by decide) (by decide) (by decide) (off := 49) (by decide) (tgt := 64) (by decide) ?_
          refine ev_aload_n (pc' := 65) dX5_place_64 rfl rfl ?_
          refine ev_getfield (pc' := 68) fX5_12 dX5_place_65 rfl hX0 rfl ?_
          refine ev_getfield (pc' := 71) fX5_80 dX5_place_68 rfl hW rfl ?_
          refine ev_iload_n (pc' := 72) dX5_place_71 rfl rfl ?_
          refine ev_ialoadI (pc' := 73) dX5_place_72 rfl hC (by decide) (by omega) ?_
          rw [eC _ (by omega) (by omega)]
          exact ev_ireI dX5_place_73 (by unfold sPlace; first | (rw [if_pos (by omega)]; congr 2; omega) | (rw [if_pos (by omega)]; congr 3; omega) | rw [if_neg (by omega)])
        · skip
          by_cases c15_3 : w = 3
          · refine ev_tableInI dX5_place_15 c15_3 (by decide) (by decide) (by decide) (off := 59) (by decide) (tgt := 74) (by decide) ?_
            refine ev_aload_n (pc' := 75) dX5_place_74 rfl rfl ?_
            refine ev_getfield (pc' := 78) fX5_12 dX5_place_75 rfl hX0 rfl ?_
            refine ev_getfield (pc' := 81) fX5_83 dX5_place_78 rfl hW rfl ?_
            refine ev_iload_n (pc' := 82) dX5_place_81 rfl rfl ?_
            refine ev_ialoadI (pc' := 83) dX5_place_82 rfl hQ (by decide) (by omega) ?_
            rw [eQ _ (by omega) (by omega)]
            exact ev_ireI dX5_place_83 (by unfold sPlace; first | (rw [if_pos (by omega)]; congr 2; omega) | (rw [if_pos (by omega)]; congr 3; omega) | rw [if_neg (by omega)])
          · skip
            refine ev_tableOutI dX5_place_15 (by omega) (by omega) (tgt := 84) (by decide) ?_
            refine ev_ldcI (pc' := 86) (-1000000001) nX5_72 dX5_place_84 rfl (by decide) ?_
            exact ev_ireI dX5_place_86 (by unfold sPlace; first | (rw [if_pos (by omega)]; congr 2; omega) | (rw [if_pos (by omega)]; congr 3; omega) | rw [if_neg (by omega)])
  · refine ev_ldcI (pc' := 13) (-1000000001) nX5_72 dX5_place_11 rfl (by decide) ?_
    exact ev_ireI dX5_place_13 (by unfold sPlace; first | (rw [if_pos (by omega)]; congr 2; omega) | (rw [if_pos (by omega)]; congr 3; omega) | rw [if_neg (by omega)])
theorem e5_trade {a b : Int} (hRC : RC h S F) (hI : mI0 S) (hJ : mIP S) (ra : -2147483648 ≤ a ∧ a < 2147483648) (rb : -2147483648 ≤ b ∧ b < 2147483648) : Ev l 2 yX5_trade.cls yX5_trade.name cX5_trade 3 (some .int) 0 [some (.ref 0), some (.int (iI a)), some (.int (iI b))] [] h (some (.int (iI (sTrade S a b)))) h := by
  obtain ⟨⟨i1, i2⟩, ⟨i3, i4⟩, i5, i6⟩ := id hI
  obtain ⟨⟨im, hX0⟩, hN, -⟩ := id hRC
  obtain ⟨D, R, C, Q, X, hW, ⟨hD, eD⟩, ⟨hR, eR⟩, ⟨hC, eC⟩, ⟨hQ, eQ⟩, ⟨hX, eX⟩, hF⟩ := CW.op hN
  refine ev_aload_n (pc' := 1) dX5_trade_0 rfl rfl ?_
  refine ev_getfield (pc' := 4) fX5_12 dX5_trade_1 rfl hX0 rfl ?_
  refine ev_iload_n (pc' := 5) dX5_trade_4 rfl rfl ?_
  refine ev_callV1 (pc' := 8) kX5_68 mX4_hasPlace dX5_trade_5 rfl rfl (Nat.le_of_ble_eq_true rfl) (Nat.le_of_ble_eq_true rfl) (by decide) rfl hW (e4_hasPlace hN hI (by omega)) ?_
  refine ev_ifd_eq (pc' := 11) (tgt := 27) dX5_trade_8 (by decide) rfl (fun c8 => ?_) (fun c8 => ?_)
  · refine ev_iconst (pc' := 28) (iI (-1)) dX5_trade_27 rfl (by decide) ?_
    exact ev_ireI dX5_trade_28 (by unfold sTrade; first | (rw [if_pos (by omega)]; congr 1; omega) | rw [if_neg (by omega)])
  · refine ev_aload_n (pc' := 12) dX5_trade_11 rfl rfl ?_
    refine ev_getfield (pc' := 15) fX5_12 dX5_trade_12 rfl hX0 rfl ?_
    refine ev_iload_n (pc' := 16) dX5_trade_15 rfl rfl ?_
    refine ev_callV1 (pc' := 19) kX5_68 mX4_hasPlace dX5_trade_16 rfl rfl (Nat.le_of_ble_eq_true rfl) (Nat.le_of_ble_eq_true rfl) (by decide) rfl hW (e4_hasPlace hN hI (by omega)) ?_
    refine ev_ifd_eq (pc' := 22) (tgt := 27) dX5_trade_19 (by decide) rfl (fun c19 => ?_) (fun c19 => ?_)
    · refine ev_iconst (pc' := 28) (iI (-1)) dX5_trade_27 rfl (by decide) ?_
      exact ev_ireI dX5_trade_28 (by unfold sTrade; first | (rw [if_pos (by omega)]; congr 1; omega) | rw [if_neg (by omega)])
    · refine ev_iload_n (pc' := 23) dX5_trade_22 rfl rfl ?_
      refine ev_iload_n (pc' := 24) dX5_trade_23 rfl rfl ?_
      refine ev_icmpI_ne (pc' := 27) (tgt := 29) dX5_trade_24 (by decide) rfl (by omega) (by omega) (fun c24 => ?_) (fun c24 => ?_)
      · refine ev_aload_n (pc' := 30) dX5_trade_29 rfl rfl ?_
        refine ev_getfield (pc' := 33) fX5_12 dX5_trade_30 rfl hX0 rfl ?_
        refine ev_getfield (pc' := 36) fX5_86 dX5_trade_33 rfl hW rfl ?_
        refine ev_iload_n (pc' := 37) dX5_trade_36 rfl rfl ?_
        refine ev_bipush (pc' := 39) (iI (10)) dX5_trade_37 rfl (by decide) ?_
        refine ev_imulI (pc' := 40) dX5_trade_39 rfl ?_
        refine ev_iload_n (pc' := 41) dX5_trade_40 rfl rfl ?_
        refine ev_iaddI (pc' := 42) dX5_trade_41 rfl ?_
        refine ev_ialoadI (pc' := 43) dX5_trade_42 rfl hX (by decide) (by omega) ?_
        rw [eX _ (by omega) (by omega)]
        exact ev_ireI dX5_trade_43 (by unfold sTrade; first | (rw [if_pos (by omega)]; congr 1; omega) | rw [if_neg (by omega)])
      · refine ev_iconst (pc' := 28) (iI (-1)) dX5_trade_27 rfl (by decide) ?_
        exact ev_ireI dX5_trade_28 (by unfold sTrade; first | (rw [if_pos (by omega)]; congr 1; omega) | rw [if_neg (by omega)])
theorem e5_dayOf {p t : Int} (hRC : RC h S F) (hI : mI0 S) (hJ : mIP S) (rp : -2147483648 ≤ p ∧ p < 2147483648) (rt : -2147483648 ≤ t ∧ t < 2147483648) : Ev l 3 yX5_dayOf.cls yX5_dayOf.name cX5_dayOf 3 (some .int) 0 [some (.ref 0), some (.int (iI p)), some (.int (iI t))] [] h (some (.int (iI (sDayOf S p t)))) h := by
  obtain ⟨⟨i1, i2⟩, ⟨i3, i4⟩, i5, i6⟩ := id hI
  obtain ⟨⟨im, hX0⟩, hN, -⟩ := id hRC
  obtain ⟨D, R, C, Q, X, hW, ⟨hD, eD⟩, ⟨hR, eR⟩, ⟨hC, eC⟩, ⟨hQ, eQ⟩, ⟨hX, eX⟩, hF⟩ := CW.op hN
  refine ev_aload_n (pc' := 1) dX5_dayOf_0 rfl rfl ?_
  refine ev_getfield (pc' := 4) fX5_12 dX5_dayOf_1 rfl hX0 rfl ?_
  refine ev_iload_n (pc' := 5) dX5_dayOf_4 rfl rfl ?_
  refine ev_callV1 (pc' := 8) kX5_68 mX4_hasPlace dX5_dayOf_5 rfl rfl (Nat.le_of_ble_eq_true rfl) (Nat.le_of_ble_eq_true rfl) (by decide) rfl hW (e4_hasPlace hN hI (by omega)) ?_
  refine ev_ifd_eq (pc' := 11) (tgt := 18) dX5_dayOf_8 (by decide) rfl (fun c8 => ?_) (fun c8 => ?_)
  · refine ev_ldcI (pc' := 20) (-1000000001) nX5_72 dX5_dayOf_18 rfl (by decide) ?_
    exact ev_ireI dX5_dayOf_20 (by unfold sDayOf; first | (rw [if_pos (by omega), dPL_S]) | rw [if_neg (by omega)])
  · refine ev_iload_n (pc' := 12) dX5_dayOf_11 rfl rfl ?_
    refine ev_callS1 (pc' := 15) kX5_96 mX5_isMinute dX5_dayOf_12 rfl rfl (Nat.le_of_ble_eq_true rfl) (Nat.le_of_ble_eq_true rfl) (by decide) (e5_isMinute (by omega)) ?_
    refine ev_ifd_ne (pc' := 18) (tgt := 21) dX5_dayOf_15 (by decide) rfl (fun c15 => ?_) (fun c15 => ?_)
    · refine ev_aload_n (pc' := 22) dX5_dayOf_21 rfl rfl ?_
      refine ev_getfield (pc' := 25) fX5_12 dX5_dayOf_22 rfl hX0 rfl ?_
      refine ev_iload_n (pc' := 26) dX5_dayOf_25 rfl rfl ?_
      refine ev_iload_n (pc' := 27) dX5_dayOf_26 rfl rfl ?_
      refine ev_aload_n (pc' := 28) dX5_dayOf_27 rfl rfl ?_
      refine ev_getfield (pc' := 31) fX5_12 dX5_dayOf_28 rfl hX0 rfl ?_
      refine ev_getfield (pc' := 34) fX5_92 dX5_dayOf_31 rfl hW rfl ?_
      refine ev_callV3 (pc' := 37) kX5_99 mX4_dayIn dX5_dayOf_34 rfl rfl (Nat.le_of_ble_eq_true rfl) (Nat.le_of_ble_eq_true rfl) (by decide) rfl hW (e4_dayIn hN hI hJ (by omega) (by omega) (by omega)) ?_
      exact ev_ireI dX5_dayOf_37 (by unfold sDayOf; first | (rw [if_pos (by omega), dPL_S]) | rw [if_neg (by omega)])
    · refine ev_ldcI (pc' := 20) (-1000000001) nX5_72 dX5_dayOf_18 rfl (by decide) ?_
      exact ev_ireI dX5_dayOf_20 (by unfold sDayOf; first | (rw [if_pos (by omega), dPL_S]) | rw [if_neg (by omega)])
theorem e5_hourOf {p t : Int} (hRC : RC h S F) (hI : mI0 S) (hJ : mIP S) (rp : -2147483648 ≤ p ∧ p < 2147483648) (rt : -2147483648 ≤ t ∧ t < 2147483648) : Ev l 2 yX5_hourOf.cls yX5_hourOf.name cX5_hourOf 3 (some .int) 0 [some (.ref 0), some (.int (iI p)), some (.int (iI t))] [] h (some (.int (iI (sHourOf S p t)))) h := by
  obtain ⟨⟨i1, i2⟩, ⟨i3, i4⟩, i5, i6⟩ := id hI
  obtain ⟨⟨im, hX0⟩, hN, -⟩ := id hRC
  obtain ⟨D, R, C, Q, X, hW, ⟨hD, eD⟩, ⟨hR, eR⟩, ⟨hC, eC⟩, ⟨hQ, eQ⟩, ⟨hX, eX⟩, hF⟩ := CW.op hN
  refine ev_aload_n (pc' := 1) dX5_hourOf_0 rfl rfl ?_
  refine ev_getfield (pc' := 4) fX5_12 dX5_hourOf_1 rfl hX0 rfl ?_
  refine ev_iload_n (pc' := 5) dX5_hourOf_4 rfl rfl ?_
  refine ev_callV1 (pc' := 8) kX5_68 mX4_hasPlace dX5_hourOf_5 rfl rfl (Nat.le_of_ble_eq_true rfl) (Nat.le_of_ble_eq_true rfl) (by decide) rfl hW (e4_hasPlace hN hI (by omega)) ?_
  refine ev_ifd_eq (pc' := 11) (tgt := 18) dX5_hourOf_8 (by decide) rfl (fun c8 => ?_) (fun c8 => ?_)
  · refine ev_iconst (pc' := 19) (iI (-1)) dX5_hourOf_18 rfl (by decide) ?_
    exact ev_ireI dX5_hourOf_19 (by unfold sHourOf eS; first | (rw [if_pos (by omega)]; congr 2; omega) | rw [if_neg (by omega)])
  · refine ev_iload_n (pc' := 12) dX5_hourOf_11 rfl rfl ?_
    refine ev_callS1 (pc' := 15) kX5_96 mX5_isMinute dX5_hourOf_12 rfl rfl (Nat.le_of_ble_eq_true rfl) (Nat.le_of_ble_eq_true rfl) (by decide) (e5_isMinute (by omega)) ?_
    refine ev_ifd_ne (pc' := 18) (tgt := 20) dX5_hourOf_15 (by decide) rfl (fun c15 => ?_) (fun c15 => ?_)
    · refine ev_aload_n (pc' := 21) dX5_hourOf_20 rfl rfl ?_
      refine ev_getfield (pc' := 24) fX5_12 dX5_hourOf_21 rfl hX0 rfl ?_
      refine ev_getfield (pc' := 27) fX5_73 dX5_hourOf_24 rfl hW rfl ?_
      refine ev_iload_n (pc' := 28) dX5_hourOf_27 rfl rfl ?_
      refine ev_ialoadI (pc' := 29) dX5_hourOf_28 rfl hD (by decide) (by omega) ?_
      rw [eD _ (by omega) (by omega)]
      refine ev_iload_n (pc' := 30) dX5_hourOf_29 rfl rfl ?_
      refine ev_aload_n (pc' := 31) dX5_hourOf_30 rfl rfl ?_
      refine ev_getfield (pc' := 34) fX5_12 dX5_hourOf_31 rfl hX0 rfl ?_
      refine ev_getfield (pc' := 37) fX5_92 dX5_hourOf_34 rfl hW rfl ?_
      refine ev_callS3 (pc' := 40) kX5_103 mX4_sunMinutes dX5_hourOf_37 rfl rfl (Nat.le_of_ble_eq_true rfl) (Nat.le_of_ble_eq_true rfl) (by decide) (e4_sunMinutes (by have := hJ p (by omega) (by omega); omega) (by omega) (by omega)) ?_
      refine ev_sipush (pc' := 43) (iI (1440)) dX5_hourOf_40 rfl (by decide) ?_
      have q1 : 0 ≤ (S (3 + 4 * p + 0) - S 2) % 360 ∧ (S (3 + 4 * p + 0) - S 2) % 360 < 360 := by omega
      refine ev_callS2 (pc' := 46) kX5_106 mJ9_floorMod_7cf53 dX5_hourOf_43 rfl rfl (Nat.le_of_ble_eq_true rfl) (Nat.le_of_ble_eq_true rfl) (by decide) (e_fmI (by omega) (by omega)) ?_
      exact ev_ireI dX5_hourOf_46 (by unfold sHourOf eS; first | (rw [if_pos (by omega)]; congr 2; omega) | rw [if_neg (by omega)])
    · refine ev_iconst (pc' := 19) (iI (-1)) dX5_hourOf_18 rfl (by decide) ?_
      exact ev_ireI dX5_hourOf_19 (by unfold sHourOf eS; first | (rw [if_pos (by omega)]; congr 2; omega) | rw [if_neg (by omega)])
theorem e4_wrI {t u V : Int} (hN : NW h S F) (hI : mI0 S) (hJ : mIP S) (hIT : mIT S) (ru : 0 ≤ u ∧ u < 360) (rt : 0 ≤ t ∧ t ≤ 19999) {a : Nat} {v0 : Int} (ha : (a : Int) < S 0) (fin : ∀ a6 a7, Ev l 3 yX4_wrongWith.cls yX4_wrongWith.name cX4_wrongWith 8 (some .int) 99 [some (.ref 1), some (.int (iI u)), some (.int (iI t)), some (.int (iI (v0 + inS (fWr S u t) a ((S 0).toNat - 1 - a)))), some (.int (iI (a : Int))), some (.int (iI (dPL S u (a : Int) t))), a6, a7] [] h (some (.int (iI V))) h) : ∀ (n j : Nat) (a7 : Option Value), S 0 - 1 - a - j = n → Ev l 3 yX4_wrongWith.cls yX4_wrongWith.name cX4_wrongWith 8 (some .int) 30 [some (.ref 1), some (.int (iI u)), some (.int (iI t)), some (.int (iI (v0 + inS (fWr S u t) a j))), some (.int (iI (a : Int))), some (.int (iI (dPL S u (a : Int) t))), some (.int (iI ((a : Int) + 1 + j))), a7] [] h (some (.int (iI V))) h := by
  obtain ⟨⟨i1, i2⟩, ⟨i3, i4⟩, i5, i6⟩ := id hI
  obtain ⟨D, R, C, Q, X, hW, ⟨hD, eD⟩, ⟨hR, eR⟩, ⟨hC, eC⟩, ⟨hQ, eQ⟩, ⟨hX, eX⟩, hF⟩ := CW.op hN
  intro n
  induction n with
  | zero =>
    intro j a7 hn
    have ej : j = (S 0).toNat - 1 - a := by omega
    subst ej
    refine ev_iload (pc' := 32) dX4_wrongWith_30 rfl rfl ?_
    refine ev_aload_n (pc' := 33) dX4_wrongWith_32 rfl rfl ?_
    refine ev_getfield (pc' := 36) fX4_9 dX4_wrongWith_33 rfl hW rfl ?_
    refine ev_icmpI_ge (pc' := 39) (tgt := 99) dX4_wrongWith_36 (by decide) rfl (by omega) (by omega) (fun c36 => ?_) (fun c36 => ?_)
    · exact fin _ _
    · omega
  | succ n ih =>
    intro j a7 hn
    have sy := hIT (a : Int) ((a : Int) + 1 + j) (by omega) (by omega) (by omega) (by omega)
    have d1 := dPL_b (u := u) (t := t) hJ (p := (a : Int)) (by omega) (by omega)
    have d2 := dPL_b (u := u) (t := t) hJ (p := (a : Int) + 1 + j) (by omega) (by omega)
    have ef : v0 + inS (fWr S u t) a (j + 1) = v0 + inS (fWr S u t) a j + fWr S u t (a + 1 + j) a := by rw [Int.add_assoc]; rfl
    have ec : (((a + 1 + j : Nat) : Int)) = (a : Int) + 1 + j := by omega
    refine ev_iload (pc' := 32) dX4_wrongWith_30 rfl rfl ?_
    refine ev_aload_n (pc' := 33) dX4_wrongWith_32 rfl rfl ?_
    refine ev_getfield (pc' := 36) fX4_9 dX4_wrongWith_33 rfl hW rfl ?_
    refine ev_icmpI_ge (pc' := 39) (tgt := 99) dX4_wrongWith_36 (by decide) rfl (by omega) (by omega) (fun c36 => ?_) (fun c36 => ?_)
    · omega
    · refine ev_aload_n (pc' := 40) dX4_wrongWith_39 rfl rfl ?_
      refine ev_getfield (pc' := 43) fX4_34 dX4_wrongWith_40 rfl hW rfl ?_
      refine ev_iload (pc' := 45) dX4_wrongWith_43 rfl rfl ?_
      refine ev_bipush (pc' := 47) (iI (10)) dX4_wrongWith_45 rfl (by decide) ?_
      refine ev_imulI (pc' := 48) dX4_wrongWith_47 rfl ?_
      refine ev_iload (pc' := 50) dX4_wrongWith_48 rfl rfl ?_
      refine ev_iaddI (pc' := 51) dX4_wrongWith_50 rfl ?_
      refine ev_ialoadI (pc' := 52) dX4_wrongWith_51 rfl hX (by decide) (by omega) ?_
      rw [eX _ (by omega) (by omega)]
      rw [show 43 + ((a : Int) * 10 + ((a : Int) + 1 + j)) = 43 + 10 * (a : Int) + ((a : Int) + 1 + j) by omega]
      refine ev_istore_7 (pc' := 54) dX4_wrongWith_52 rfl (by decide) rfl ?_
      refine ev_iload (pc' := 56) dX4_wrongWith_54 rfl rfl ?_
      refine ev_ifI_le (pc' := 59) (tgt := 93) dX4_wrongWith_56 (by decide) rfl (by omega) (fun c56 => ?_) (fun c56 => ?_)
      · refine ev_iincI_6 (pc' := 96) dX4_wrongWith_93 rfl (by decide) rfl ?_
        refine ev_goto (tgt := 30) dX4_wrongWith_96 (by decide) ?_
        skip
        have ew : fWr S u t (a + 1 + j) a = 0 := by
          unfold fWr
          rw [ec]
          rw [← sy.2]
          have z0 : S (43 + 10 * (a : Int) + ((a : Int) + 1 + j)) = 0 := by omega
          rw [z0, Int.zero_mul]; split <;> rfl
        have K := fun a7 => ih (j + 1) a7 (by omega)
        rw [ef, ew, show (a : Int) + 1 + ((j + 1 : Nat) : Int) = (a : Int) + 1 + j + 1 by omega] at K
        rw [Int.add_zero] at K
        exact K _
      · refine ev_iload (pc' := 61) dX4_wrongWith_59 rfl rfl ?_
        refine ev_aload_n (pc' := 62) dX4_wrongWith_61 rfl rfl ?_
        refine ev_iload (pc' := 64) dX4_wrongWith_62 rfl rfl ?_
        refine ev_iload_n (pc' := 65) dX4_wrongWith_64 rfl rfl ?_
        refine ev_iload_n (pc' := 66) dX4_wrongWith_65 rfl rfl ?_
        refine ev_callV3 (pc' := 69) kX4_60 mX4_dayIn dX4_wrongWith_66 rfl rfl (Nat.le_of_ble_eq_true rfl) (Nat.le_of_ble_eq_true rfl) (by decide) rfl hW (e4_dayIn hN hI hJ (by omega) (by omega) (by omega)) ?_
        refine ev_icmpI_eq (pc' := 72) (tgt := 93) dX4_wrongWith_69 (by decide) rfl (by omega) (by omega) (fun c69 => ?_) (fun c69 => ?_)
        · refine ev_iincI_6 (pc' := 96) dX4_wrongWith_93 rfl (by decide) rfl ?_
          refine ev_goto (tgt := 30) dX4_wrongWith_96 (by decide) ?_
          have ew : fWr S u t (a + 1 + j) a = 0 := by
            unfold fWr
            rw [ec]
            rw [if_pos (by omega)]
          have K := fun a7 => ih (j + 1) a7 (by omega)
          rw [ef, ew, show (a : Int) + 1 + ((j + 1 : Nat) : Int) = (a : Int) + 1 + j + 1 by omega] at K
          rw [Int.add_zero] at K
          exact K _
        · refine ev_iload_n (pc' := 73) dX4_wrongWith_72 rfl rfl ?_
          refine ev_iload (pc' := 75) dX4_wrongWith_73 rfl rfl ?_
          refine ev_aload_n (pc' := 76) dX4_wrongWith_75 rfl rfl ?_
          refine ev_getfield (pc' := 79) fX4_31 dX4_wrongWith_76 rfl hW rfl ?_
          refine ev_iload (pc' := 81) dX4_wrongWith_79 rfl rfl ?_
          refine ev_ialoadI (pc' := 82) dX4_wrongWith_81 rfl hQ (by decide) (by omega) ?_
          rw [eQ _ (by omega) (by omega)]
          refine ev_aload_n (pc' := 83) dX4_wrongWith_82 rfl rfl ?_
          refine ev_getfield (pc' := 86) fX4_31 dX4_wrongWith_83 rfl hW rfl ?_
          refine ev_iload (pc' := 88) dX4_wrongWith_86 rfl rfl ?_
          refine ev_ialoadI (pc' := 89) dX4_wrongWith_88 rfl hQ (by decide) (by omega) ?_
          rw [eQ _ (by omega) (by omega)]
          refine ev_iaddI (pc' := 90) dX4_wrongWith_89 rfl ?_
          refine ev_imulI (pc' := 91) dX4_wrongWith_90 rfl ?_
          refine ev_iaddI (pc' := 92) dX4_wrongWith_91 rfl ?_
          refine ev_istore_3 (pc' := 93) dX4_wrongWith_92 rfl (by decide) rfl ?_
          refine ev_iincI_6 (pc' := 96) dX4_wrongWith_93 rfl (by decide) rfl ?_
          refine ev_goto (tgt := 30) dX4_wrongWith_96 (by decide) ?_
          have ew : fWr S u t (a + 1 + j) a = S (43 + 10 * (a : Int) + ((a : Int) + 1 + j)) * (S (3 + 4 * (a : Int) + 3) + S (3 + 4 * ((a : Int) + 1 + j) + 3)) := by
            unfold fWr
            rw [ec]
            rw [if_neg (by omega), ← sy.2, Int.add_comm (S (3 + 4 * ((a : Int) + 1 + j) + 3))]
          have K := fun a7 => ih (j + 1) a7 (by omega)
          rw [ef, ew, show (a : Int) + 1 + ((j + 1 : Nat) : Int) = (a : Int) + 1 + j + 1 by omega] at K
          skip
          exact K _
theorem e4_wrO {t u : Int} (hN : NW h S F) (hI : mI0 S) (hJ : mIP S) (hIT : mIT S) (ru : 0 ≤ u ∧ u < 360) (rt : 0 ≤ t ∧ t ≤ 19999) : ∀ (n a : Nat) (a5 a6 a7 : Option Value), S 0 - a = n → Ev l 3 yX4_wrongWith.cls yX4_wrongWith.name cX4_wrongWith 8 (some .int) 5 [some (.ref 1), some (.int (iI u)), some (.int (iI t)), some (.int (iI (ouS (fWr S u t) (S 0).toNat a))), some (.int (iI (a : Int))), a5, a6, a7] [] h (some (.int (iI (sWr S u t)))) h := by
  obtain ⟨⟨i1, i2⟩, ⟨i3, i4⟩, i5, i6⟩ := id hI
  obtain ⟨D, R, C, Q, X, hW, ⟨hD, eD⟩, ⟨hR, eR⟩, ⟨hC, eC⟩, ⟨hQ, eQ⟩, ⟨hX, eX⟩, hF⟩ := CW.op hN
  intro n
  induction n with
  | zero =>
    intro a a5 a6 a7 hn
    have ea : a = (S 0).toNat := by omega
    subst ea
    refine ev_iload (pc' := 7) dX4_wrongWith_5 rfl rfl ?_
    refine ev_aload_n (pc' := 8) dX4_wrongWith_7 rfl rfl ?_
    refine ev_getfield (pc' := 11) fX4_9 dX4_wrongWith_8 rfl hW rfl ?_
    refine ev_icmpI_ge (pc' := 14) (tgt := 105) dX4_wrongWith_11 (by decide) rfl (by omega) (by omega) (fun c11 => ?_) (fun c11 => ?_)
    · refine ev_iload_n (pc' := 106) dX4_wrongWith_105 rfl rfl ?_
      exact ev_ireI dX4_wrongWith_106 (by rw [sWr_ou])
    · omega
  | succ n ih =>
    intro a a5 a6 a7 hn
    refine ev_iload (pc' := 7) dX4_wrongWith_5 rfl rfl ?_
    refine ev_aload_n (pc' := 8) dX4_wrongWith_7 rfl rfl ?_
    refine ev_getfield (pc' := 11) fX4_9 dX4_wrongWith_8 rfl hW rfl ?_
    refine ev_icmpI_ge (pc' := 14) (tgt := 105) dX4_wrongWith_11 (by decide) rfl (by omega) (by omega) (fun c11 => ?_) (fun c11 => ?_)
    · omega
    · refine ev_aload_n (pc' := 15) dX4_wrongWith_14 rfl rfl ?_
      refine ev_iload (pc' := 17) dX4_wrongWith_15 rfl rfl ?_
      refine ev_iload_n (pc' := 18) dX4_wrongWith_17 rfl rfl ?_
      refine ev_iload_n (pc' := 19) dX4_wrongWith_18 rfl rfl ?_
      refine ev_callV3 (pc' := 22) kX4_60 mX4_dayIn dX4_wrongWith_19 rfl rfl (Nat.le_of_ble_eq_true rfl) (Nat.le_of_ble_eq_true rfl) (by decide) rfl hW (e4_dayIn hN hI hJ (by omega) (by omega) (by omega)) ?_
      refine ev_istore_5 (pc' := 24) dX4_wrongWith_22 rfl (by decide) rfl ?_
      refine ev_iload (pc' := 26) dX4_wrongWith_24 rfl rfl ?_
      refine ev_iconst (pc' := 27) (iI (1)) dX4_wrongWith_26 rfl (by decide) ?_
      refine ev_iaddI (pc' := 28) dX4_wrongWith_27 rfl ?_
      refine ev_istore_6 (pc' := 30) dX4_wrongWith_28 rfl (by decide) rfl ?_
      have K := e4_wrI (l := l) (V := sWr S u t) hN hI hJ hIT ru rt (a := a) (v0 := ouS (fWr S u t) (S 0).toNat a) (by omega) (fun a6 a7 => ?_) ((S 0).toNat - 1 - a) 0 a7 (by omega)
      · refine ev_ll ?_ K
        rw [show ouS (fWr S u t) (S 0).toNat a + inS (fWr S u t) a 0 = ouS (fWr S u t) (S 0).toNat a from Int.add_zero _, show (a : Int) + 1 + ((0 : Nat) : Int) = (a : Int) + 1 by omega]
      refine ev_iincI_4 (pc' := 102) dX4_wrongWith_99 rfl (by decide) rfl ?_
      refine ev_goto (tgt := 5) dX4_wrongWith_102 (by decide) ?_
      exact ih (a + 1) _ _ _ (by omega)
theorem e4_wrongWith {t u : Int} (hN : NW h S F) (hI : mI0 S) (hJ : mIP S) (hIT : mIT S) (ru : 0 ≤ u ∧ u < 360) (rt : 0 ≤ t ∧ t ≤ 19999) : Ev l 3 yX4_wrongWith.cls yX4_wrongWith.name cX4_wrongWith 8 (some .int) 0 [some (.ref 1), some (.int (iI u)), some (.int (iI t)), none, none, none, none, none] [] h (some (.int (iI (sWr S u t)))) h := by
  obtain ⟨⟨i1, i2⟩, ⟨i3, i4⟩, i5, i6⟩ := id hI
  refine ev_iconst (pc' := 1) (iI (0)) dX4_wrongWith_0 rfl (by decide) ?_
  refine ev_istore_3 (pc' := 2) dX4_wrongWith_1 rfl (by decide) rfl ?_
  refine ev_iconst (pc' := 3) (iI (0)) dX4_wrongWith_2 rfl (by decide) ?_
  refine ev_istore_4 (pc' := 5) dX4_wrongWith_3 rfl (by decide) rfl ?_
  exact e4_wrO hN hI hJ hIT ru rt (S 0).toNat 0 none none none (by omega)
theorem e5_wrong {u t : Int} (hRC : RC h S F) (hI : mI0 S) (hJ : mIP S) (hIT : mIT S) (ru : -2147483648 ≤ u ∧ u < 2147483648) (rt : -2147483648 ≤ t ∧ t < 2147483648) : Ev l 4 yX5_wrong.cls yX5_wrong.name cX5_wrong 3 (some .int) 0 [some (.ref 0), some (.int (iI u)), some (.int (iI t))] [] h (some (.int (iI (sWrong S u t)))) h := by
  obtain ⟨⟨i1, i2⟩, ⟨i3, i4⟩, i5, i6⟩ := id hI
  obtain ⟨⟨im, hX0⟩, hN, -⟩ := id hRC
  obtain ⟨D, R, C, Q, X, hW, ⟨hD, eD⟩, ⟨hR, eR⟩, ⟨hC, eC⟩, ⟨hQ, eQ⟩, ⟨hX, eX⟩, hF⟩ := CW.op hN
  refine ev_iload_n (pc' := 1) dX5_wrong_0 rfl rfl ?_
  refine ev_callS1 (pc' := 4) kX5_89 mX5_isDegree dX5_wrong_1 rfl rfl (Nat.le_of_ble_eq_true rfl) (Nat.le_of_ble_eq_true rfl) (by decide) (e5_isDegree (by omega)) ?_
  refine ev_ifd_eq (pc' := 7) (tgt := 14) dX5_wrong_4 (by decide) rfl (fun c4 => ?_) (fun c4 => ?_)
  · refine ev_iconst (pc' := 15) (iI (-1)) dX5_wrong_14 rfl (by decide) ?_
    exact ev_ireI dX5_wrong_15 (by unfold sWrong; (repeat (first | rw [if_pos (by omega)] | rw [if_neg (by omega)])))
  · refine ev_iload_n (pc' := 8) dX5_wrong_7 rfl rfl ?_
    refine ev_callS1 (pc' := 11) kX5_96 mX5_isMinute dX5_wrong_8 rfl rfl (Nat.le_of_ble_eq_true rfl) (Nat.le_of_ble_eq_true rfl) (by decide) (e5_isMinute (by omega)) ?_
    refine ev_ifd_ne (pc' := 14) (tgt := 16) dX5_wrong_11 (by decide) rfl (fun c11 => ?_) (fun c11 => ?_)
    · refine ev_aload_n (pc' := 17) dX5_wrong_16 rfl rfl ?_
      refine ev_getfield (pc' := 20) fX5_12 dX5_wrong_17 rfl hX0 rfl ?_
      refine ev_iload_n (pc' := 21) dX5_wrong_20 rfl rfl ?_
      refine ev_iload_n (pc' := 22) dX5_wrong_21 rfl rfl ?_
      refine ev_callV2 (pc' := 25) kX5_207 mX4_wrongWith dX5_wrong_22 rfl rfl (Nat.le_of_ble_eq_true rfl) (Nat.le_of_ble_eq_true rfl) (by decide) rfl hW (e4_wrongWith hN hI hJ hIT (by omega) (by omega)) ?_
      exact ev_ireI dX5_wrong_25 (by unfold sWrong; (repeat (first | rw [if_pos (by omega)] | rw [if_neg (by omega)])))
    · refine ev_iconst (pc' := 15) (iI (-1)) dX5_wrong_14 rfl (by decide) ?_
      exact ev_ireI dX5_wrong_15 (by unfold sWrong; (repeat (first | rw [if_pos (by omega)] | rw [if_neg (by omega)])))
theorem e5_bstL {t w : Int} (hR : RC h S F) (hI : mI0 S) (hJ : mIP S) (hIT : mIT S) (rt : 0 ≤ t ∧ t ≤ 19999) (rw1 : 0 ≤ w ∧ w ≤ 1) : ∀ (n i : Nat) (a6 : Option Value), i + n = 23 → Ev l 4 yX5_bestLine.cls yX5_bestLine.name cX5_bestLine 7 (some .int) 35 [some (.ref 0), some (.int (iI t)), some (.int (iI w)), some (.int (iI (blL S t i))), some (.int (iI (sWr S (blL S t i) t))), some (.int (iI (15 * ((i : Int) + 1)))), a6] [] h (some (.int (iI (if w = 0 then blL S t 23 else sWr S (blL S t 23) t)))) h := by
  obtain ⟨⟨im, hX0⟩, hN, -⟩ := id hR
  have hW := hN.1
  intro n
  induction n with
  | zero =>
    intro i a6 hn
    have ei : i = 23 := by omega
    subst ei
    refine ev_iload (pc' := 37) dX5_bestLine_35 rfl rfl ?_
    refine ev_sipush (pc' := 40) (iI (360)) dX5_bestLine_37 rfl (by decide) ?_
    refine ev_icmpI_ge (pc' := 43) (tgt := 75) dX5_bestLine_40 (by decide) rfl (by omega) (by omega) (fun c40 => ?_) (fun c40 => ?_)
    · refine ev_iload_n (pc' := 76) dX5_bestLine_75 rfl rfl ?_
      refine ev_ifI_ne (pc' := 79) (tgt := 83) dX5_bestLine_76 (by decide) rfl (by omega) (fun c76 => ?_) (fun c76 => ?_)
      · refine ev_iload (pc' := 85) dX5_bestLine_83 rfl rfl ?_
        exact ev_ireI dX5_bestLine_85 (by first | rw [if_pos (by omega)] | rw [if_neg (by omega)])
      · refine ev_iload_n (pc' := 80) dX5_bestLine_79 rfl rfl ?_
        refine ev_goto (tgt := 85) dX5_bestLine_80 (by decide) ?_
        exact ev_ireI dX5_bestLine_85 (by first | rw [if_pos (by omega)] | rw [if_neg (by omega)])
    · omega
  | succ n ih =>
    intro i a6 hn
    have z0 := blL_b S t i
    have z1 := sWr_b (g := 15 * ((i : Int) + 1)) (t := t) hI hJ hIT (by omega)
    have z2 := sWr_b (g := blL S t i) (t := t) hI hJ hIT (by omega)
    have e1 : blL S t (i + 1) = if sWr S (15 * ((i : Int) + 1)) t < sWr S (blL S t i) t then 15 * ((i : Int) + 1) else blL S t i := rfl
    refine ev_iload (pc' := 37) dX5_bestLine_35 rfl rfl ?_
    refine ev_sipush (pc' := 40) (iI (360)) dX5_bestLine_37 rfl (by decide) ?_
    refine ev_icmpI_ge (pc' := 43) (tgt := 75) dX5_bestLine_40 (by decide) rfl (by omega) (by omega) (fun c40 => ?_) (fun c40 => ?_)
    · omega
    · refine ev_aload_n (pc' := 44) dX5_bestLine_43 rfl rfl ?_
      refine ev_getfield (pc' := 47) fX5_12 dX5_bestLine_44 rfl hX0 rfl ?_
      refine ev_iload (pc' := 49) dX5_bestLine_47 rfl rfl ?_
      refine ev_iload_n (pc' := 50) dX5_bestLine_49 rfl rfl ?_
      refine ev_callV2 (pc' := 53) kX5_207 mX4_wrongWith dX5_bestLine_50 rfl rfl (Nat.le_of_ble_eq_true rfl) (Nat.le_of_ble_eq_true rfl) (by decide) rfl hW (e4_wrongWith hN hI hJ hIT (by omega) (by omega)) ?_
      refine ev_istore_6 (pc' := 55) dX5_bestLine_53 rfl (by decide) rfl ?_
      refine ev_iload (pc' := 57) dX5_bestLine_55 rfl rfl ?_
      refine ev_iload (pc' := 59) dX5_bestLine_57 rfl rfl ?_
      refine ev_icmpI_ge (pc' := 62) (tgt := 69) dX5_bestLine_59 (by decide) rfl (by omega) (by omega) (fun c59 => ?_) (fun c59 => ?_)
      · refine ev_iincI_5 (pc' := 72) dX5_bestLine_69 rfl (by decide) rfl ?_
        refine ev_goto (tgt := 35) dX5_bestLine_72 (by decide) ?_
        have K := ih (i + 1) (some (.int (iI (sWr S (15 * ((i : Int) + 1)) t)))) (by omega)
        first | rw [e1, if_pos (by omega)] at K | rw [e1, if_neg (by omega)] at K
        rw [show 15 * (((i + 1 : Nat) : Int) + 1) = 15 * ((i : Int) + 1) + 15 by omega] at K
        exact K
      · refine ev_iload (pc' := 64) dX5_bestLine_62 rfl rfl ?_
        refine ev_istore_3 (pc' := 65) dX5_bestLine_64 rfl (by decide) rfl ?_
        refine ev_iload (pc' := 67) dX5_bestLine_65 rfl rfl ?_
        refine ev_istore_4 (pc' := 69) dX5_bestLine_67 rfl (by decide) rfl ?_
        refine ev_iincI_5 (pc' := 72) dX5_bestLine_69 rfl (by decide) rfl ?_
        refine ev_goto (tgt := 35) dX5_bestLine_72 (by decide) ?_
        have K := ih (i + 1) (some (.int (iI (sWr S (15 * ((i : Int) + 1)) t)))) (by omega)
        first | rw [e1, if_pos (by omega)] at K | rw [e1, if_neg (by omega)] at K
        rw [show 15 * (((i + 1 : Nat) : Int) + 1) = 15 * ((i : Int) + 1) + 15 by omega] at K
        exact K
theorem e5_bestLine {t w : Int} (hRC : RC h S F) (hI : mI0 S) (hJ : mIP S) (hIT : mIT S) (rt : -2147483648 ≤ t ∧ t < 2147483648) (rw : -2147483648 ≤ w ∧ w < 2147483648) : Ev l 4 yX5_bestLine.cls yX5_bestLine.name cX5_bestLine 7 (some .int) 0 [some (.ref 0), some (.int (iI t)), some (.int (iI w)), none, none, none, none] [] h (some (.int (iI (sBest S t w)))) h := by
  obtain ⟨⟨i1, i2⟩, ⟨i3, i4⟩, i5, i6⟩ := id hI
  obtain ⟨⟨im, hX0⟩, hN, -⟩ := id hRC
  obtain ⟨D, R, C, Q, X, hW, ⟨hD, eD⟩, ⟨hR, eR⟩, ⟨hC, eC⟩, ⟨hQ, eQ⟩, ⟨hX, eX⟩, hF⟩ := CW.op hN
  refine ev_iload_n (pc' := 1) dX5_bestLine_0 rfl rfl ?_
  refine ev_callS1 (pc' := 4) kX5_96 mX5_isMinute dX5_bestLine_1 rfl rfl (Nat.le_of_ble_eq_true rfl) (Nat.le_of_ble_eq_true rfl) (by decide) (e5_isMinute (by omega)) ?_
  refine ev_ifd_eq (pc' := 7) (tgt := 16) dX5_bestLine_4 (by decide) rfl (fun c4 => ?_) (fun c4 => ?_)
  · refine ev_iconst (pc' := 17) (iI (-1)) dX5_bestLine_16 rfl (by decide) ?_
    exact ev_ireI dX5_bestLine_17 (by unfold sBest; (repeat (first | rw [if_pos (by omega)] | rw [if_neg (by omega)])))
  · refine ev_iload_n (pc' := 8) dX5_bestLine_7 rfl rfl ?_
    refine ev_ifI_lt (pc' := 11) (tgt := 16) dX5_bestLine_8 (by decide) rfl (by omega) (fun c8 => ?_) (fun c8 => ?_)
    · refine ev_iconst (pc' := 17) (iI (-1)) dX5_bestLine_16 rfl (by decide) ?_
      exact ev_ireI dX5_bestLine_17 (by unfold sBest; (repeat (first | rw [if_pos (by omega)] | rw [if_neg (by omega)])))
    · refine ev_iload_n (pc' := 12) dX5_bestLine_11 rfl rfl ?_
      refine ev_iconst (pc' := 13) (iI (1)) dX5_bestLine_12 rfl (by decide) ?_
      refine ev_icmpI_le (pc' := 16) (tgt := 18) dX5_bestLine_13 (by decide) rfl (by omega) (by omega) (fun c13 => ?_) (fun c13 => ?_)
      · refine ev_iconst (pc' := 19) (iI (0)) dX5_bestLine_18 rfl (by decide) ?_
        refine ev_istore_3 (pc' := 20) dX5_bestLine_19 rfl (by decide) rfl ?_
        refine ev_aload_n (pc' := 21) dX5_bestLine_20 rfl rfl ?_
        refine ev_getfield (pc' := 24) fX5_12 dX5_bestLine_21 rfl hX0 rfl ?_
        refine ev_iconst (pc' := 25) (iI (0)) dX5_bestLine_24 rfl (by decide) ?_
        refine ev_iload_n (pc' := 26) dX5_bestLine_25 rfl rfl ?_
        refine ev_callV2 (pc' := 29) kX5_207 mX4_wrongWith dX5_bestLine_26 rfl rfl (Nat.le_of_ble_eq_true rfl) (Nat.le_of_ble_eq_true rfl) (by decide) rfl hW (e4_wrongWith hN hI hJ hIT (by omega) (by omega)) ?_
        refine ev_istore_4 (pc' := 31) dX5_bestLine_29 rfl (by decide) rfl ?_
        refine ev_bipush (pc' := 33) (iI (15)) dX5_bestLine_31 rfl (by decide) ?_
        refine ev_istore_5 (pc' := 35) dX5_bestLine_33 rfl (by decide) rfl ?_
        unfold sBest
        rw [if_pos (by omega)]
        exact e5_bstL hRC hI hJ hIT (by omega) (by omega) 23 0 none (by omega)
      · refine ev_iconst (pc' := 17) (iI (-1)) dX5_bestLine_16 rfl (by decide) ?_
        exact ev_ireI dX5_bestLine_17 (by unfold sBest; (repeat (first | rw [if_pos (by omega)] | rw [if_neg (by omega)])))
theorem e5_movL {u t : Int} (hR : RC h S F) (hI : mI0 S) (hJ : mIP S) (ru : 0 ≤ u ∧ u < 360) (rt : 0 ≤ t ∧ t ≤ 19999) : ∀ (n i : Nat), S 0 = i + n → Ev l 4 yX5_moved.cls yX5_moved.name cX5_moved 5 (some .int) 21 [some (.ref 0), some (.int (iI u)), some (.int (iI t)), some (.int (mvL S u t i)), some (.int (iI (i : Int)))] [] h (some (.int (mvL S u t (S 0).toNat))) h := by
  obtain ⟨⟨i1, i2⟩, ⟨i3, i4⟩, i5, i6⟩ := id hI
  obtain ⟨⟨im, hX0⟩, hN, -⟩ := id hR
  obtain ⟨D, R, C, Q, X, hW, ⟨hD, eD⟩, ⟨hR, eR⟩, ⟨hC, eC⟩, ⟨hQ, eQ⟩, ⟨hX, eX⟩, hF⟩ := CW.op hN
  intro n
  induction n with
  | zero =>
    intro i hn
    have ei : (S 0).toNat = i := by omega
    rw [ei]
    refine ev_iload (pc' := 23) dX5_moved_21 rfl rfl ?_
    refine ev_aload_n (pc' := 24) dX5_moved_23 rfl rfl ?_
    refine ev_getfield (pc' := 27) fX5_12 dX5_moved_24 rfl hX0 rfl ?_
    refine ev_getfield (pc' := 30) fX5_210 dX5_moved_27 rfl hW rfl ?_
    refine ev_icmpI_ge (pc' := 33) (tgt := 77) dX5_moved_30 (by decide) rfl (by omega) (by omega) (fun c30 => ?_) (fun c30 => ?_)
    · refine ev_iload_n (pc' := 78) dX5_moved_77 rfl rfl ?_
      exact ev_iret dX5_moved_78 rfl
    · omega
  | succ n ih =>
    intro i hn
    have d1 := dPL_b (u := u) (t := t) hJ (p := (i : Int)) (by omega) (by omega)
    have d2 := dPL_b (u := S 2) (t := t) hJ (p := (i : Int)) (by omega) (by omega)
    have e1 : mvL S u t (i + 1) = mvL S u t i ||| if dPL S u (i : Int) t = dPL S (S 2) (i : Int) t then iI 0 else iI 1 <<< (iI (i : Int) &&& 31) := by rw [← dPL_u, dPL_S]; rfl
    refine ev_iload (pc' := 23) dX5_moved_21 rfl rfl ?_
    refine ev_aload_n (pc' := 24) dX5_moved_23 rfl rfl ?_
    refine ev_getfield (pc' := 27) fX5_12 dX5_moved_24 rfl hX0 rfl ?_
    refine ev_getfield (pc' := 30) fX5_210 dX5_moved_27 rfl hW rfl ?_
    refine ev_icmpI_ge (pc' := 33) (tgt := 77) dX5_moved_30 (by decide) rfl (by omega) (by omega) (fun c30 => ?_) (fun c30 => ?_)
    · omega
    · refine ev_aload_n (pc' := 34) dX5_moved_33 rfl rfl ?_
      refine ev_getfield (pc' := 37) fX5_12 dX5_moved_34 rfl hX0 rfl ?_
      refine ev_iload (pc' := 39) dX5_moved_37 rfl rfl ?_
      refine ev_iload_n (pc' := 40) dX5_moved_39 rfl rfl ?_
      refine ev_iload_n (pc' := 41) dX5_moved_40 rfl rfl ?_
      refine ev_callV3 (pc' := 44) kX5_99 mX4_dayIn dX5_moved_41 rfl rfl (Nat.le_of_ble_eq_true rfl) (Nat.le_of_ble_eq_true rfl) (by decide) rfl hW (e4_dayIn hN hI hJ (by omega) (by omega) (by omega)) ?_
      refine ev_aload_n (pc' := 45) dX5_moved_44 rfl rfl ?_
      refine ev_getfield (pc' := 48) fX5_12 dX5_moved_45 rfl hX0 rfl ?_
      refine ev_iload (pc' := 50) dX5_moved_48 rfl rfl ?_
      refine ev_iload_n (pc' := 51) dX5_moved_50 rfl rfl ?_
      refine ev_aload_n (pc' := 52) dX5_moved_51 rfl rfl ?_
      refine ev_getfield (pc' := 55) fX5_12 dX5_moved_52 rfl hX0 rfl ?_
      refine ev_getfield (pc' := 58) fX5_92 dX5_moved_55 rfl hW rfl ?_
      refine ev_callV3 (pc' := 61) kX5_99 mX4_dayIn dX5_moved_58 rfl rfl (Nat.le_of_ble_eq_true rfl) (Nat.le_of_ble_eq_true rfl) (by decide) rfl hW (e4_dayIn hN hI hJ (by omega) (by omega) (by omega)) ?_
      refine ev_icmpI_eq (pc' := 64) (tgt := 71) dX5_moved_61 (by decide) rfl (by omega) (by omega) (fun c61 => ?_) (fun c61 => ?_)
      · refine ev_iincI_4 (pc' := 74) dX5_moved_71 rfl (by decide) rfl ?_
        refine ev_goto (tgt := 21) dX5_moved_74 (by decide) ?_
        have K := ih (i + 1) (by omega)
        first | rw [e1, if_pos (by omega), show iI 0 = 0 from rfl, Int32.or_zero] at K | rw [e1, if_neg (by omega)] at K
        exact K
      · refine ev_iload_n (pc' := 65) dX5_moved_64 rfl rfl ?_
        refine ev_iconst (pc' := 66) (iI (1)) dX5_moved_65 rfl (by decide) ?_
        refine ev_iload (pc' := 68) dX5_moved_66 rfl rfl ?_
        refine ev_ishl (pc' := 69) dX5_moved_68 rfl ?_
        refine ev_ior (pc' := 70) dX5_moved_69 rfl ?_
        refine ev_istore_3 (pc' := 71) dX5_moved_70 rfl (by decide) rfl ?_
        refine ev_iincI_4 (pc' := 74) dX5_moved_71 rfl (by decide) rfl ?_
        refine ev_goto (tgt := 21) dX5_moved_74 (by decide) ?_
        have K := ih (i + 1) (by omega)
        first | rw [e1, if_pos (by omega), show iI 0 = 0 from rfl, Int32.or_zero] at K | rw [e1, if_neg (by omega)] at K
        exact K
theorem e5_moved {u t : Int} (hRC : RC h S F) (hI : mI0 S) (hJ : mIP S) (ru : -2147483648 ≤ u ∧ u < 2147483648) (rt : -2147483648 ≤ t ∧ t < 2147483648) : Ev l 4 yX5_moved.cls yX5_moved.name cX5_moved 5 (some .int) 0 [some (.ref 0), some (.int (iI u)), some (.int (iI t)), none, none] [] h (some (.int (sMoved S u t))) h := by
  obtain ⟨⟨i1, i2⟩, ⟨i3, i4⟩, i5, i6⟩ := id hI
  obtain ⟨⟨im, hX0⟩, hN, -⟩ := id hRC
  obtain ⟨D, R, C, Q, X, hW, ⟨hD, eD⟩, ⟨hR, eR⟩, ⟨hC, eC⟩, ⟨hQ, eQ⟩, ⟨hX, eX⟩, hF⟩ := CW.op hN
  refine ev_iload_n (pc' := 1) dX5_moved_0 rfl rfl ?_
  refine ev_callS1 (pc' := 4) kX5_89 mX5_isDegree dX5_moved_1 rfl rfl (Nat.le_of_ble_eq_true rfl) (Nat.le_of_ble_eq_true rfl) (by decide) (e5_isDegree (by omega)) ?_
  refine ev_ifd_eq (pc' := 7) (tgt := 14) dX5_moved_4 (by decide) rfl (fun c4 => ?_) (fun c4 => ?_)
  · refine ev_iconst (pc' := 15) (iI (-1)) dX5_moved_14 rfl (by decide) ?_
    exact ev_vw (by unfold sMoved; rw [if_neg (by omega)]) rfl (ev_iret dX5_moved_15 rfl)
  · refine ev_iload_n (pc' := 8) dX5_moved_7 rfl rfl ?_
    refine ev_callS1 (pc' := 11) kX5_96 mX5_isMinute dX5_moved_8 rfl rfl (Nat.le_of_ble_eq_true rfl) (Nat.le_of_ble_eq_true rfl) (by decide) (e5_isMinute (by omega)) ?_
    refine ev_ifd_ne (pc' := 14) (tgt := 16) dX5_moved_11 (by decide) rfl (fun c11 => ?_) (fun c11 => ?_)
    · refine ev_iconst (pc' := 17) (iI (0)) dX5_moved_16 rfl (by decide) ?_
      refine ev_istore_3 (pc' := 18) dX5_moved_17 rfl (by decide) rfl ?_
      refine ev_iconst (pc' := 19) (iI (0)) dX5_moved_18 rfl (by decide) ?_
      refine ev_istore_4 (pc' := 21) dX5_moved_19 rfl (by decide) rfl ?_
      rw [show sMoved S u t = mvL S u t (S 0).toNat by unfold sMoved; rw [if_pos (by omega)]]
      exact e5_movL hRC hI hJ (by omega) (by omega) (S 0).toNat 0 (by omega)
    · refine ev_iconst (pc' := 15) (iI (-1)) dX5_moved_14 rfl (by decide) ?_
      exact ev_vw (by unfold sMoved; rw [if_neg (by omega)]) rfl (ev_iret dX5_moved_15 rfl)
end CI
