section CJ
variable {l : Launch} {h h0 : ev_H} {S : Int → Int} {F : Nat → Option Nat} {t : Nat} {k : Int}
theorem e4_alL (hRC : RC h S F) (hI : mI0 S) (hK : ∀ k, 0 ≤ k → k < S 1 → mT S k) : ∀ (n i : Nat) (a3 : Option Value), S 1 = i + n → Ev l 0 yX4_allLegs.cls yX4_allLegs.name cX4_allLegs 4 (some .int) 4 [some (.ref 1), some (.int (iI (cnL S i))), some (.int (iI (i : Int))), a3] [] h (some (.int (iI (cnL S (S 1).toNat)))) h := by
  obtain ⟨⟨i1, i2⟩, ⟨i3, i4⟩, i5, i6⟩ := id hI
  obtain ⟨D, R, C, Q, X, hW, ⟨hD, eD⟩, ⟨hR, eR⟩, ⟨hC, eC⟩, ⟨hQ, eQ⟩, ⟨hX, eX⟩, hF⟩ := CW.op hRC.nw
  intro n
  induction n with
  | zero =>
    intro i a3 hn
    have ei : (S 1).toNat = i := by omega
    rw [ei]
    refine ev_iload_n (pc' := 5) dX4_allLegs_4 rfl rfl ?_
    refine ev_aload_n (pc' := 6) dX4_allLegs_5 rfl rfl ?_
    refine ev_getfield (pc' := 9) fX4_15 dX4_allLegs_6 rfl hW rfl ?_
    refine ev_icmpI_ge (pc' := 12) (tgt := 40) dX4_allLegs_9 (by decide) rfl (by omega) (by omega) (fun c9 => ?_) (fun c9 => ?_)
    · refine ev_iload_n (pc' := 41) dX4_allLegs_40 rfl rfl ?_
      exact ev_ireI dX4_allLegs_41 (rfl)
    · omega
  | succ n ih =>
    intro i a3 hn
    obtain ⟨w, hw1, hC, h47⟩ := hRC.2.2.2 (i : Int) (by omega) (by omega)
    obtain ⟨ea, to, fro, en, ca, cb, -, hT, -⟩ := CT.op hC
    have ek : (iI (i : Int)).toNatClampNeg = ((i : Int)).toNat := by have := iI_cl (e := (i : Int)) (by omega); omega
    refine ev_iload_n (pc' := 5) dX4_allLegs_4 rfl rfl ?_
    refine ev_aload_n (pc' := 6) dX4_allLegs_5 rfl rfl ?_
    refine ev_getfield (pc' := 9) fX4_15 dX4_allLegs_6 rfl hW rfl ?_
    refine ev_icmpI_ge (pc' := 12) (tgt := 40) dX4_allLegs_9 (by decide) rfl (by omega) (by omega) (fun c9 => ?_) (fun c9 => ?_)
    · omega
    · refine ev_aload_n (pc' := 13) dX4_allLegs_12 rfl rfl ?_
      refine ev_getfield (pc' := 16) fX4_39 dX4_allLegs_13 rfl hW rfl ?_
      refine ev_iload_n (pc' := 17) dX4_allLegs_16 rfl rfl ?_
      refine ev_aaload (pc' := 18) (Or.inr rfl) dX4_allLegs_17 rfl hF (iI_in (by omega) (by decide)) ?_
      rw [ek, hw1]
      refine ev_astore_3 (pc' := 19) dX4_allLegs_18 rfl (by decide) rfl ?_
      refine ev_iload_n (pc' := 20) dX4_allLegs_19 rfl rfl ?_
      refine ev_aload_n (pc' := 21) dX4_allLegs_20 rfl rfl ?_
      refine ev_ifnonnull (tgt := 28) dX4_allLegs_21 (by decide) ?_
      refine ev_aload_n (pc' := 29) dX4_allLegs_28 rfl rfl ?_
      refine ev_getfield (pc' := 32) fX4_75 dX4_allLegs_29 rfl hT rfl ?_
      refine ev_iaddI (pc' := 33) dX4_allLegs_32 rfl ?_
      refine ev_istore_1 (pc' := 34) dX4_allLegs_33 rfl (by decide) rfl ?_
      refine ev_iincI_2 (pc' := 37) dX4_allLegs_34 rfl (by decide) rfl ?_
      refine ev_goto (tgt := 4) dX4_allLegs_37 (by decide) ?_
      exact ih (i + 1) _ (by omega)
theorem e4_allLegs (hRC : RC h S F) (hI : mI0 S) (hK : ∀ k, 0 ≤ k → k < S 1 → mT S k) : Ev l 0 yX4_allLegs.cls yX4_allLegs.name cX4_allLegs 4 (some .int) 0 [some (.ref 1), none, none, none] [] h (some (.int (iI (cnL S (S 1).toNat)))) h := by
  obtain ⟨⟨i1, i2⟩, ⟨i3, i4⟩, i5, i6⟩ := id hI
  refine ev_iconst (pc' := 1) (iI (0)) dX4_allLegs_0 rfl (by decide) ?_
  refine ev_istore_1 (pc' := 2) dX4_allLegs_1 rfl (by decide) rfl ?_
  refine ev_iconst (pc' := 3) (iI (0)) dX4_allLegs_2 rfl (by decide) ?_
  refine ev_istore_2 (pc' := 4) dX4_allLegs_3 rfl (by decide) rfl ?_
  exact e4_alL hRC hI hK (S 1).toNat 0 none (by omega)
theorem e4_apL (hRC : RC h S F) (hI : mI0 S) : ∀ (n i : Nat), S 0 = i + n → Ev l 0 yX4_allPeople.cls yX4_allPeople.name cX4_allPeople 3 (some .int) 4 [some (.ref 1), some (.int (iI (cnP S i))), some (.int (iI (i : Int)))] [] h (some (.int (iI (cnP S (S 0).toNat)))) h := by
  obtain ⟨⟨i1, i2⟩, ⟨i3, i4⟩, i5, i6⟩ := id hI
  obtain ⟨D, R, C, Q, X, hW, ⟨hD, eD⟩, ⟨hR, eR⟩, ⟨hC, eC⟩, ⟨hQ, eQ⟩, ⟨hX, eX⟩, hF⟩ := CW.op hRC.nw
  intro n
  induction n with
  | zero =>
    intro i hn
    have ei : (S 0).toNat = i := by omega
    rw [ei]
    refine ev_iload_n (pc' := 5) dX4_allPeople_4 rfl rfl ?_
    refine ev_aload_n (pc' := 6) dX4_allPeople_5 rfl rfl ?_
    refine ev_getfield (pc' := 9) fX4_9 dX4_allPeople_6 rfl hW rfl ?_
    refine ev_icmpI_ge (pc' := 12) (tgt := 27) dX4_allPeople_9 (by decide) rfl (by omega) (by omega) (fun c9 => ?_) (fun c9 => ?_)
    · refine ev_iload_n (pc' := 28) dX4_allPeople_27 rfl rfl ?_
      exact ev_ireI dX4_allPeople_28 (rfl)
    · omega
  | succ n ih =>
    intro i hn
    refine ev_iload_n (pc' := 5) dX4_allPeople_4 rfl rfl ?_
    refine ev_aload_n (pc' := 6) dX4_allPeople_5 rfl rfl ?_
    refine ev_getfield (pc' := 9) fX4_9 dX4_allPeople_6 rfl hW rfl ?_
    refine ev_icmpI_ge (pc' := 12) (tgt := 27) dX4_allPeople_9 (by decide) rfl (by omega) (by omega) (fun c9 => ?_) (fun c9 => ?_)
    · omega
    · refine ev_iload_n (pc' := 13) dX4_allPeople_12 rfl rfl ?_
      refine ev_aload_n (pc' := 14) dX4_allPeople_13 rfl rfl ?_
      refine ev_getfield (pc' := 17) fX4_31 dX4_allPeople_14 rfl hW rfl ?_
      refine ev_iload_n (pc' := 18) dX4_allPeople_17 rfl rfl ?_
      refine ev_ialoadI (pc' := 19) dX4_allPeople_18 rfl hQ (by decide) (by omega) ?_
      rw [eQ _ (by omega) (by omega)]
      refine ev_iaddI (pc' := 20) dX4_allPeople_19 rfl ?_
      refine ev_istore_1 (pc' := 21) dX4_allPeople_20 rfl (by decide) rfl ?_
      refine ev_iincI_2 (pc' := 24) dX4_allPeople_21 rfl (by decide) rfl ?_
      refine ev_goto (tgt := 4) dX4_allPeople_24 (by decide) ?_
      exact ih (i + 1) (by omega)
theorem e4_allPeople (hRC : RC h S F) (hI : mI0 S) : Ev l 0 yX4_allPeople.cls yX4_allPeople.name cX4_allPeople 3 (some .int) 0 [some (.ref 1), none, none] [] h (some (.int (iI (cnP S (S 0).toNat)))) h := by
  obtain ⟨⟨i1, i2⟩, ⟨i3, i4⟩, i5, i6⟩ := id hI
  refine ev_iconst (pc' := 1) (iI (0)) dX4_allPeople_0 rfl (by decide) ?_
  refine ev_istore_1 (pc' := 2) dX4_allPeople_1 rfl (by decide) rfl ?_
  refine ev_iconst (pc' := 3) (iI (0)) dX4_allPeople_2 rfl (by decide) ?_
  refine ev_istore_2 (pc' := 4) dX4_allPeople_3 rfl (by decide) rfl ?_
  exact e4_apL hRC hI (S 0).toNat 0 (by omega)
theorem e4_tpI {V : Int} (hRC : RC h S F) (hI : mI0 S) (hIT : mIT S) {a : Nat} {v0 : Int} (ha : (a : Int) < S 0) (fin : ∀ a3, Ev l 0 yX4_tradingPairs.cls yX4_tradingPairs.name cX4_tradingPairs 4 (some .int) 47 [some (.ref 1), some (.int (iI (v0 + inS (fCn S) a ((S 0).toNat - 1 - a)))), some (.int (iI (a : Int))), a3] [] h (some (.int (iI V))) h) : ∀ (n j : Nat), S 0 - 1 - a - j = n → Ev l 0 yX4_tradingPairs.cls yX4_tradingPairs.name cX4_tradingPairs 4 (some .int) 16 [some (.ref 1), some (.int (iI (v0 + inS (fCn S) a j))), some (.int (iI (a : Int))), some (.int (iI ((a : Int) + 1 + j)))] [] h (some (.int (iI V))) h := by
  obtain ⟨⟨i1, i2⟩, ⟨i3, i4⟩, i5, i6⟩ := id hI
  obtain ⟨D, R, C, Q, X, hW, ⟨hD, eD⟩, ⟨hR, eR⟩, ⟨hC, eC⟩, ⟨hQ, eQ⟩, ⟨hX, eX⟩, hF⟩ := CW.op hRC.nw
  intro n
  induction n with
  | zero =>
    intro j hn
    have ej : j = (S 0).toNat - 1 - a := by omega
    subst ej
    refine ev_iload_n (pc' := 17) dX4_tradingPairs_16 rfl rfl ?_
    refine ev_aload_n (pc' := 18) dX4_tradingPairs_17 rfl rfl ?_
    refine ev_getfield (pc' := 21) fX4_9 dX4_tradingPairs_18 rfl hW rfl ?_
    refine ev_icmpI_ge (pc' := 24) (tgt := 47) dX4_tradingPairs_21 (by decide) rfl (by omega) (by omega) (fun c21 => ?_) (fun c21 => ?_)
    · exact fin _
    · omega
  | succ n ih =>
    intro j hn
    have sy := hIT (a : Int) ((a : Int) + 1 + j) (by omega) (by omega) (by omega) (by omega)
    have ef : v0 + inS (fCn S) a (j + 1) = v0 + inS (fCn S) a j + fCn S (a + 1 + j) a := by rw [Int.add_assoc]; rfl
    have ec : (((a + 1 + j : Nat) : Int)) = (a : Int) + 1 + j := by omega
    refine ev_iload_n (pc' := 17) dX4_tradingPairs_16 rfl rfl ?_
    refine ev_aload_n (pc' := 18) dX4_tradingPairs_17 rfl rfl ?_
    refine ev_getfield (pc' := 21) fX4_9 dX4_tradingPairs_18 rfl hW rfl ?_
    refine ev_icmpI_ge (pc' := 24) (tgt := 47) dX4_tradingPairs_21 (by decide) rfl (by omega) (by omega) (fun c21 => ?_) (fun c21 => ?_)
    · omega
    · refine ev_aload_n (pc' := 25) dX4_tradingPairs_24 rfl rfl ?_
      refine ev_getfield (pc' := 28) fX4_34 dX4_tradingPairs_25 rfl hW rfl ?_
      refine ev_iload_n (pc' := 29) dX4_tradingPairs_28 rfl rfl ?_
      refine ev_bipush (pc' := 31) (iI (10)) dX4_tradingPairs_29 rfl (by decide) ?_
      refine ev_imulI (pc' := 32) dX4_tradingPairs_31 rfl ?_
      refine ev_iload_n (pc' := 33) dX4_tradingPairs_32 rfl rfl ?_
      refine ev_iaddI (pc' := 34) dX4_tradingPairs_33 rfl ?_
      refine ev_ialoadI (pc' := 35) dX4_tradingPairs_34 rfl hX (by decide) (by omega) ?_
      rw [eX _ (by omega) (by omega)]
      rw [show 43 + ((a : Int) * 10 + ((a : Int) + 1 + j)) = 43 + 10 * (a : Int) + ((a : Int) + 1 + j) by omega]
      refine ev_ifI_le (pc' := 38) (tgt := 41) dX4_tradingPairs_35 (by decide) rfl (by omega) (fun c35 => ?_) (fun c35 => ?_)
      · refine ev_iincI_3 (pc' := 44) dX4_tradingPairs_41 rfl (by decide) rfl ?_
        refine ev_goto (tgt := 16) dX4_tradingPairs_44 (by decide) ?_
        have K := ih (j + 1) (by omega)
        rw [ef, show (a : Int) + 1 + ((j + 1 : Nat) : Int) = (a : Int) + 1 + j + 1 by omega] at K
        unfold fCn at K
        rw [ec, ← sy.2] at K
        first | rw [if_pos (by omega)] at K | rw [if_neg (by omega), Int.add_zero] at K
        exact K
      · refine ev_iincI_1 (pc' := 41) dX4_tradingPairs_38 rfl (by decide) rfl ?_
        refine ev_iincI_3 (pc' := 44) dX4_tradingPairs_41 rfl (by decide) rfl ?_
        refine ev_goto (tgt := 16) dX4_tradingPairs_44 (by decide) ?_
        have K := ih (j + 1) (by omega)
        rw [ef, show (a : Int) + 1 + ((j + 1 : Nat) : Int) = (a : Int) + 1 + j + 1 by omega] at K
        unfold fCn at K
        rw [ec, ← sy.2] at K
        first | rw [if_pos (by omega)] at K | rw [if_neg (by omega), Int.add_zero] at K
        exact K
theorem e4_tpO (hRC : RC h S F) (hI : mI0 S) (hIT : mIT S) : ∀ (n a : Nat) (a3 : Option Value), S 0 - a = n → Ev l 0 yX4_tradingPairs.cls yX4_tradingPairs.name cX4_tradingPairs 4 (some .int) 4 [some (.ref 1), some (.int (iI (ouS (fCn S) (S 0).toNat a))), some (.int (iI (a : Int))), a3] [] h (some (.int (iI (cnO S (S 0).toNat)))) h := by
  obtain ⟨⟨i1, i2⟩, ⟨i3, i4⟩, i5, i6⟩ := id hI
  obtain ⟨D, R, C, Q, X, hW, ⟨hD, eD⟩, ⟨hR, eR⟩, ⟨hC, eC⟩, ⟨hQ, eQ⟩, ⟨hX, eX⟩, hF⟩ := CW.op hRC.nw
  intro n
  induction n with
  | zero =>
    intro a a3 hn
    have ea : a = (S 0).toNat := by omega
    rw [ea]
    refine ev_iload_n (pc' := 5) dX4_tradingPairs_4 rfl rfl ?_
    refine ev_aload_n (pc' := 6) dX4_tradingPairs_5 rfl rfl ?_
    refine ev_getfield (pc' := 9) fX4_9 dX4_tradingPairs_6 rfl hW rfl ?_
    refine ev_icmpI_ge (pc' := 12) (tgt := 53) dX4_tradingPairs_9 (by decide) rfl (by omega) (by omega) (fun c9 => ?_) (fun c9 => ?_)
    · refine ev_iload_n (pc' := 54) dX4_tradingPairs_53 rfl rfl ?_
      exact ev_ireI dX4_tradingPairs_54 (by rw [cnO_ou])
    · omega
  | succ n ih =>
    intro a a3 hn
    refine ev_iload_n (pc' := 5) dX4_tradingPairs_4 rfl rfl ?_
    refine ev_aload_n (pc' := 6) dX4_tradingPairs_5 rfl rfl ?_
    refine ev_getfield (pc' := 9) fX4_9 dX4_tradingPairs_6 rfl hW rfl ?_
    refine ev_icmpI_ge (pc' := 12) (tgt := 53) dX4_tradingPairs_9 (by decide) rfl (by omega) (by omega) (fun c9 => ?_) (fun c9 => ?_)
    · omega
    · refine ev_iload_n (pc' := 13) dX4_tradingPairs_12 rfl rfl ?_
      refine ev_iconst (pc' := 14) (iI (1)) dX4_tradingPairs_13 rfl (by decide) ?_
      refine ev_iaddI (pc' := 15) dX4_tradingPairs_14 rfl ?_
      refine ev_istore_3 (pc' := 16) dX4_tradingPairs_15 rfl (by decide) rfl ?_
      have K := e4_tpI (l := l) (V := cnO S (S 0).toNat) hRC hI hIT (a := a) (v0 := ouS (fCn S) (S 0).toNat a) (by omega) (fun a3 => ?_) ((S 0).toNat - 1 - a) 0 (by omega)
      · refine ev_ll ?_ K
        rw [show ouS _ (S 0).toNat a + inS _ a 0 = ouS _ (S 0).toNat a from Int.add_zero _, show (a : Int) + 1 + ((0 : Nat) : Int) = (a : Int) + 1 by omega]
      refine ev_iincI_2 (pc' := 50) dX4_tradingPairs_47 rfl (by decide) rfl ?_
      refine ev_goto (tgt := 4) dX4_tradingPairs_50 (by decide) ?_
      exact ih (a + 1) _ (by omega)
theorem e4_tradingPairs (hRC : RC h S F) (hI : mI0 S) (hIT : mIT S) : Ev l 0 yX4_tradingPairs.cls yX4_tradingPairs.name cX4_tradingPairs 4 (some .int) 0 [some (.ref 1), none, none, none] [] h (some (.int (iI (cnO S (S 0).toNat)))) h := by
  obtain ⟨⟨i1, i2⟩, ⟨i3, i4⟩, i5, i6⟩ := id hI
  refine ev_iconst (pc' := 1) (iI (0)) dX4_tradingPairs_0 rfl (by decide) ?_
  refine ev_istore_1 (pc' := 2) dX4_tradingPairs_1 rfl (by decide) rfl ?_
  refine ev_iconst (pc' := 3) (iI (0)) dX4_tradingPairs_2 rfl (by decide) ?_
  refine ev_istore_2 (pc' := 4) dX4_tradingPairs_3 rfl (by decide) rfl ?_
  exact e4_tpO hRC hI hIT (S 0).toNat 0 none (by omega)
theorem e5_count {w : Int} (hRC : RC h S F) (hI : mI0 S) (hIT : mIT S) (hK : ∀ k, 0 ≤ k → k < S 1 → mT S k) (rw : -2147483648 ≤ w ∧ w < 2147483648) : Ev l 1 yX5_count.cls yX5_count.name cX5_count 2 (some .int) 0 [some (.ref 0), some (.int (iI w))] [] h (some (.int (iI (sCount S w)))) h := by
  obtain ⟨⟨i1, i2⟩, ⟨i3, i4⟩, i5, i6⟩ := id hI
  obtain ⟨⟨im, hX0⟩, -⟩ := id hRC
  have hW := hRC.w
  refine ev_iload_n (pc' := 1) dX5_count_0 rfl rfl ?_
  by_cases c1_0 : w = 0
  · refine ev_tableInI dX5_count_1 c1_0 (by decide) (by decide) (by decide) (off := 39) (by decide) (tgt := 40) (by decide) ?_
    refine ev_aload_n (pc' := 41) dX5_count_40 rfl rfl ?_
    refine ev_getfield (pc' := 44) fX5_12 dX5_count_41 rfl hX0 rfl ?_
    refine ev_getfield (pc' := 47) fX5_210 dX5_count_44 rfl hW rfl ?_
    exact ev_ireI dX5_count_47 (by unfold sCount; (repeat (first | rw [if_pos (by omega)] | rw [if_neg (by omega)])))
  · skip
    by_cases c1_1 : w = 1
    · refine ev_tableInI dX5_count_1 c1_1 (by decide) (by decide) (by decide) (off := 47) (by decide) (tgt := 48) (by decide) ?_
      refine ev_aload_n (pc' := 49) dX5_count_48 rfl rfl ?_
      refine ev_getfield (pc' := 52) fX5_12 dX5_count_49 rfl hX0 rfl ?_
      refine ev_getfield (pc' := 55) fX5_115 dX5_count_52 rfl hW rfl ?_
      exact ev_ireI dX5_count_55 (by unfold sCount; (repeat (first | rw [if_pos (by omega)] | rw [if_neg (by omega)])))
    · skip
      by_cases c1_2 : w = 2
      · refine ev_tableInI dX5_count_1 c1_2 (by decide) (by decide) (by decide) (off := 55) (by decide) (tgt := 56) (by decide) ?_
        refine ev_aload_n (pc' := 57) dX5_count_56 rfl rfl ?_
        refine ev_getfield (pc' := 60) fX5_12 dX5_count_57 rfl hX0 rfl ?_
        refine ev_callV0 (pc' := 63) kX5_265 mX4_allLegs dX5_count_60 rfl rfl (Nat.le_of_ble_eq_true rfl) (Nat.le_of_ble_eq_true rfl) (by decide) rfl hW (e4_allLegs hRC hI hK) ?_
        exact ev_ireI dX5_count_63 (by unfold sCount; (repeat (first | rw [if_pos (by omega)] | rw [if_neg (by omega)])))
      · skip
        by_cases c1_3 : w = 3
        · refine ev_tableInI dX5_count_1 c1_3 (by decide) (by decide) (by decide) (off := 63) (by decide) (tgt := 64) (by decide) ?_
          refine ev_aload_n (pc' := 65) dX5_count_64 rfl rfl ?_
          refine ev_getfield (pc' := 68) fX5_12 dX5_count_65 rfl hX0 rfl ?_
          refine ev_getfield (pc' := 71) fX5_92 dX5_count_68 rfl hW rfl ?_
          exact ev_ireI dX5_count_71 (by unfold sCount; (repeat (first | rw [if_pos (by omega)] | rw [if_neg (by omega)])))
        · skip
          by_cases c1_4 : w = 4
          · refine ev_tableInI dX5_count_1 c1_4 (by decide) (by decide) (by decide) (off := 71) (by decide) (tgt := 72) (by decide) ?_
            refine ev_aload_n (pc' := 73) dX5_count_72 rfl rfl ?_
            refine ev_getfield (pc' := 76) fX5_12 dX5_count_73 rfl hX0 rfl ?_
            refine ev_callV0 (pc' := 79) kX5_268 mX4_allPeople dX5_count_76 rfl rfl (Nat.le_of_ble_eq_true rfl) (Nat.le_of_ble_eq_true rfl) (by decide) rfl hW (e4_allPeople hRC hI) ?_
            exact ev_ireI dX5_count_79 (by unfold sCount; (repeat (first | rw [if_pos (by omega)] | rw [if_neg (by omega)])))
          · skip
            by_cases c1_5 : w = 5
            · refine ev_tableInI dX5_count_1 c1_5 (by decide) (by decide) (by decide) (off := 79) (by decide) (tgt := 80) (by decide) ?_
              refine ev_aload_n (pc' := 81) dX5_count_80 rfl rfl ?_
              refine ev_getfield (pc' := 84) fX5_12 dX5_count_81 rfl hX0 rfl ?_
              refine ev_callV0 (pc' := 87) kX5_271 mX4_tradingPairs dX5_count_84 rfl rfl (Nat.le_of_ble_eq_true rfl) (Nat.le_of_ble_eq_true rfl) (by decide) rfl hW (e4_tradingPairs hRC hI hIT) ?_
              exact ev_ireI dX5_count_87 (by unfold sCount; (repeat (first | rw [if_pos (by omega)] | rw [if_neg (by omega)])))
            · skip
              refine ev_tableOutI dX5_count_1 (by omega) (by omega) (tgt := 88) (by decide) ?_
              refine ev_iconst (pc' := 89) (iI (-1)) dX5_count_88 rfl (by decide) ?_
              exact ev_ireI dX5_count_89 (by unfold sCount; (repeat (first | rw [if_pos (by omega)] | rw [if_neg (by omega)])))
theorem e5_cdE {a : Nat} {i : Nat} {a0 a2 a9 : Option Value} (ha : 0 < a ∧ a < 4611686018427387904) (hi : i ≤ 1000) : Ev l 0 yX5_commonDivisor.cls yX5_commonDivisor.name cX5_commonDivisor 11 (some .long) 9 [a0, none, a2, none, some (.long (jJ ((a : Int)))), none, some (.long (jJ (0))), none, some (.int (iI (i : Int))), a9, none] [] h (some (.long (jJ ((a : Int))))) h := by
  refine ev_iload (pc' := 11) dX5_commonDivisor_9 rfl rfl ?_
  refine ev_bipush (pc' := 13) (iI (100)) dX5_commonDivisor_11 rfl (by decide) ?_
  refine ev_icmpI_ge (pc' := 16) (tgt := 44) dX5_commonDivisor_13 (by decide) rfl (by omega) (by omega) (fun c13 => ?_) (fun c13 => ?_)
  · refine ev_lload (pc' := 46) dX5_commonDivisor_44 rfl rfl ?_
    refine ev_lconst (pc' := 47) (jJ (0)) dX5_commonDivisor_46 rfl (by decide) ?_
    refine ev_lcmpI_ne (pc' := 51) (tgt := 55) dX5_commonDivisor_47 dX5_commonDivisor_48 (by decide) rfl (by omega) (by omega) (fun c47 => ?_) (fun c47 => ?_)
    · refine ev_lload (pc' := 57) dX5_commonDivisor_55 rfl rfl ?_
      exact ev_lreI dX5_commonDivisor_57 (rfl)
    · omega
  · refine ev_lload (pc' := 18) dX5_commonDivisor_16 rfl rfl ?_
    refine ev_lconst (pc' := 19) (jJ (0)) dX5_commonDivisor_18 rfl (by decide) ?_
    refine ev_lcmpI_eq (pc' := 23) (tgt := 44) dX5_commonDivisor_19 dX5_commonDivisor_20 (by decide) rfl (by omega) (by omega) (fun c19 => ?_) (fun c19 => ?_)
    · refine ev_lload (pc' := 46) dX5_commonDivisor_44 rfl rfl ?_
      refine ev_lconst (pc' := 47) (jJ (0)) dX5_commonDivisor_46 rfl (by decide) ?_
      refine ev_lcmpI_ne (pc' := 51) (tgt := 55) dX5_commonDivisor_47 dX5_commonDivisor_48 (by decide) rfl (by omega) (by omega) (fun c47 => ?_) (fun c47 => ?_)
      · refine ev_lload (pc' := 57) dX5_commonDivisor_55 rfl rfl ?_
        exact ev_lreI dX5_commonDivisor_57 (rfl)
      · omega
    · omega
theorem e5_cd1 {a b i : Nat} {a0 a2 a9 : Option Value} {V : Int} (ha : a < 4611686018427387904) (hb : 0 < b ∧ b < 4611686018427387904) (hi : i < 100) (K : ∀ a9, Ev l 0 yX5_commonDivisor.cls yX5_commonDivisor.name cX5_commonDivisor 11 (some .long) 9 [a0, none, a2, none, some (.long (jJ ((b : Int)))), none, some (.long (jJ (((a % b : Nat) : Int)))), none, some (.int (iI ((i + 1 : Nat) : Int))), a9, none] [] h (some (.long (jJ (V)))) h) : Ev l 0 yX5_commonDivisor.cls yX5_commonDivisor.name cX5_commonDivisor 11 (some .long) 9 [a0, none, a2, none, some (.long (jJ ((a : Int)))), none, some (.long (jJ ((b : Int)))), none, some (.int (iI (i : Int))), a9, none] [] h (some (.long (jJ (V)))) h := by
  refine ev_iload (pc' := 11) dX5_commonDivisor_9 rfl rfl ?_
  refine ev_bipush (pc' := 13) (iI (100)) dX5_commonDivisor_11 rfl (by decide) ?_
  refine ev_icmpI_ge (pc' := 16) (tgt := 44) dX5_commonDivisor_13 (by decide) rfl (by omega) (by omega) (fun c13 => ?_) (fun c13 => ?_)
  · omega
  · refine ev_lload (pc' := 18) dX5_commonDivisor_16 rfl rfl ?_
    refine ev_lconst (pc' := 19) (jJ (0)) dX5_commonDivisor_18 rfl (by decide) ?_
    refine ev_lcmpI_eq (pc' := 23) (tgt := 44) dX5_commonDivisor_19 dX5_commonDivisor_20 (by decide) rfl (by omega) (by omega) (fun c19 => ?_) (fun c19 => ?_)
    · omega
    · refine ev_lload (pc' := 25) dX5_commonDivisor_23 rfl rfl ?_
      refine ev_lload (pc' := 27) dX5_commonDivisor_25 rfl rfl ?_
      refine ev_lremI (pc' := 28) dX5_commonDivisor_27 rfl (by omega) (by omega) (by omega) ?_
      refine ev_lstore_9 (pc' := 30) dX5_commonDivisor_28 rfl (by decide) rfl ?_
      refine ev_lload (pc' := 32) dX5_commonDivisor_30 rfl rfl ?_
      refine ev_lstore_4 (pc' := 34) dX5_commonDivisor_32 rfl (by decide) rfl ?_
      refine ev_lload (pc' := 36) dX5_commonDivisor_34 rfl rfl ?_
      refine ev_lstore_6 (pc' := 38) dX5_commonDivisor_36 rfl (by decide) rfl ?_
      refine ev_iincI_8 (pc' := 41) dX5_commonDivisor_38 rfl (by decide) rfl ?_
      refine ev_goto (tgt := 9) dX5_commonDivisor_41 (by decide) ?_
      rw [show Int.tmod (a : Int) (b : Int) = ((a % b : Nat) : Int) from (Int.ofNat_tmod a b).symm ▸ rfl]
      exact K _
theorem e5_cdL : ∀ (j i a b : Nat) (a0 a2 a9 : Option Value), b < 2 ^ j → 2 * j + i ≤ 100 → (0 < a ∧ a < 4611686018427387904) → b < 4611686018427387904 → Ev l 0 yX5_commonDivisor.cls yX5_commonDivisor.name cX5_commonDivisor 11 (some .long) 9 [a0, none, a2, none, some (.long (jJ ((a : Int)))), none, some (.long (jJ ((b : Int)))), none, some (.int (iI (i : Int))), a9, none] [] h (some (.long (jJ (((Nat.gcd a b : Nat) : Int))))) h := by
  intro j
  induction j with
  | zero =>
    intro i a b a0 a2 a9 hb hi ha hb2
    rw [Nat.pow_zero] at hb
    rw [show b = 0 by omega, Nat.gcd_zero_right]
    exact e5_cdE ha (by omega)
  | succ j ih =>
    intro i a b a0 a2 a9 hb hi ha hb2
    rw [Nat.pow_succ] at hb
    by_cases c : b = 0
    · rw [c, Nat.gcd_zero_right]
      exact e5_cdE ha (by omega)
    · have m1 : a % b < b := Nat.mod_lt _ (by omega)
      refine e5_cd1 ha.2 (by omega) (by omega) (fun a9 => ?_)
      rw [Nat.gcd_comm a b, Nat.gcd_rec b a, Nat.gcd_comm (a % b) b]
      by_cases c2 : a % b = 0
      · rw [c2, Nat.gcd_zero_right]
        exact e5_cdE (by omega) (by omega)
      · refine e5_cd1 hb2 (by omega) (by omega) (fun a9 => ?_)
        rw [Nat.gcd_comm b (a % b), Nat.gcd_rec (a % b) b, Nat.gcd_comm (b % (a % b)) (a % b)]
        have m2 : b % (a % b) < a % b := Nat.mod_lt _ (by omega)
        have m3 := Nat.div_add_mod b (a % b)
        have m4 : 1 ≤ b / (a % b) := (Nat.le_div_iff_mul_le (by omega)).mpr (by omega)
        have m5 : a % b * 1 ≤ a % b * (b / (a % b)) := Nat.mul_le_mul_left _ m4
        exact ih (i + 1 + 1) (a % b) (b % (a % b)) a0 a2 a9 (by omega) (by omega) (by omega) (by omega)
theorem e5_commonDivisor {a b : Int} (ha : 0 ≤ a ∧ a < 8000000) (hb : 0 < b ∧ b ≤ 12000) : Ev l 0 yX5_commonDivisor.cls yX5_commonDivisor.name cX5_commonDivisor 11 (some .long) 0 [some (.long (jJ a)), none, some (.long (jJ b)), none, none, none, none, none, none, none, none] [] h (some (.long (jJ ((Nat.gcd a.toNat b.toNat : Nat) : Int)))) h := by
  have ea : a = (a.toNat : Int) := by omega
  have eb : b = (b.toNat : Int) := by omega
  refine ev_lload_n (pc' := 1) dX5_commonDivisor_0 rfl rfl ?_
  refine ev_lstore_4 (pc' := 3) dX5_commonDivisor_1 rfl (by decide) rfl ?_
  refine ev_lload_n (pc' := 4) dX5_commonDivisor_3 rfl rfl ?_
  refine ev_lstore_6 (pc' := 6) dX5_commonDivisor_4 rfl (by decide) rfl ?_
  refine ev_iconst (pc' := 7) (iI (0)) dX5_commonDivisor_6 rfl (by decide) ?_
  refine ev_istore_8 (pc' := 9) dX5_commonDivisor_7 rfl (by decide) rfl ?_
  have K := e5_cdL (l := l) (h := h) 23 0 b.toNat a.toNat (some (.long (jJ a))) (some (.long (jJ b))) none (by omega) (by omega) (by omega) (by omega)
  rw [← ea, ← eb, Nat.gcd_comm] at K
  exact K
theorem e5_where {k t p : Int} (hR : RC h S F) (hI : mI0 S) (hJ : mIP S) (hK : ∀ k, 0 ≤ k → k < S 1 → mT S k) (rk : -2147483648 ≤ k ∧ k < 2147483648) (rt : -2147483648 ≤ t ∧ t < 2147483648) (rp : -2147483648 ≤ p ∧ p < 2147483648) : Ex l 4 yX5_where.cls yX5_where.name cX5_where 11 (some .long) 0 [some (.ref 0), some (.int (iI k)), some (.int (iI t)), some (.int (iI p)), none, none, none, none, none, none, none] [] h (lkP h S F (some (.long (jJ (sWhere S k t p))))) := by
  obtain ⟨⟨i1, i2⟩, ⟨i3, i4⟩, i5, i6⟩ := id hI
  obtain ⟨⟨im, hX⟩, -⟩ := id hR
  have hW := hR.w
  have fr := FrS.rf h
  by_cases hk : 0 ≤ k ∧ k < S 1
  · obtain ⟨w, ht, hC, h47⟩ := hR.2.2.2 k hk.1 hk.2
    have hM := hK k hk.1 hk.2
    obtain ⟨ea0, to, fro, en0, ca0, cb, ⟨be1, be2⟩, hT, -⟩ := CT.op hC
    obtain ⟨tk, -⟩ := id hM
    refine ex_of (fun _ _ => ev_aload_n (pc' := 1) dX5_where_0 rfl rfl) ?_
    refine ex_of (fun _ _ => ev_getfield (pc' := 4) fX5_12 dX5_where_1 rfl hX rfl) ?_
    refine ex_of (fun _ _ => ev_iload_n (pc' := 5) dX5_where_4 rfl rfl) ?_
    refine ex_of (fun _ _ => ev_callV1 (pc' := 8) kX5_137 mX4_travellerOf dX5_where_5 rfl rfl (Nat.le_of_ble_eq_true rfl) (Nat.le_of_ble_eq_true rfl) (by decide) rfl hW (e4_travellerOf hR.nw hI hk ht)) ?_
    refine ex_of (fun _ _ => ev_astore_4 (pc' := 10) dX5_where_8 rfl (by decide) rfl) ?_
    refine ex_of (fun _ _ => ev_aload (pc' := 12) dX5_where_10 rfl rfl) ?_
    refine ex_of (fun _ _ => ev_ifnull (pc' := 15) dX5_where_12 rfl) ?_
    refine ex_of (fun _ _ => ev_iload_n (pc' := 16) dX5_where_15 rfl rfl) ?_
    refine ex_of (fun _ _ => ev_callS1 (pc' := 19) kX5_96 mX5_isMinute dX5_where_16 rfl rfl (Nat.le_of_ble_eq_true rfl) (Nat.le_of_ble_eq_true rfl) (by decide) (e5_isMinute (by omega))) ?_
    refine ex_ifd_eq (pc' := 22) (tgt := 31) dX5_where_19 (by decide) rfl (fun c19 => ?_) (fun c19 => ?_)
    · refine ex_of (fun _ _ => ev_ldc2I (pc' := 34) (-4000000000000000001) nX5_160 dX5_where_31 rfl (by decide)) ?_
      exact ex_end (ev_lret dX5_where_34) (⟨by unfold sWhere; rw [if_neg (by omega)], fr, hR⟩)
    · refine ex_of (fun _ _ => ev_iload_n (pc' := 23) dX5_where_22 rfl rfl) ?_
      refine ex_ifI_lt (pc' := 26) (tgt := 31) dX5_where_23 (by decide) rfl (by omega) (fun c23 => ?_) (fun c23 => ?_)
      · refine ex_of (fun _ _ => ev_ldc2I (pc' := 34) (-4000000000000000001) nX5_160 dX5_where_31 rfl (by decide)) ?_
        exact ex_end (ev_lret dX5_where_34) (⟨by unfold sWhere; rw [if_neg (by omega)], fr, hR⟩)
      · refine ex_of (fun _ _ => ev_iload_n (pc' := 27) dX5_where_26 rfl rfl) ?_
        refine ex_of (fun _ _ => ev_iconst (pc' := 28) (iI (1)) dX5_where_27 rfl (by decide)) ?_
        refine ex_icmpI_le (pc' := 31) (tgt := 35) dX5_where_28 (by decide) rfl (by omega) (by omega) (fun c28 => ?_) (fun c28 => ?_)
        · obtain ⟨a, b, c, dd, e1, b1, b2, b3, b4⟩ := fw_b (ea := mea S k) (t := t) hM (by omega)
          refine ex_of (fun _ _ => ev_aload_n (pc' := 36) dX5_where_35 rfl rfl) ?_
          refine ex_of (fun _ _ => ev_getfield (pc' := 39) fX5_12 dX5_where_36 rfl hX rfl) ?_
          refine ex_of (fun _ _ => ev_aload (pc' := 41) dX5_where_39 rfl rfl) ?_
          refine ex_of (fun _ _ => ev_aload (pc' := 43) dX5_where_41 rfl rfl) ?_
          refine ex_of (fun _ _ => ev_getfield (pc' := 46) fX5_162 dX5_where_43 rfl hT rfl) ?_
          refine ex_of (fun _ _ => ev_iload_n (pc' := 47) dX5_where_46 rfl rfl) ?_
          refine ex_of (fun _ _ => ev_aload_n (pc' := 48) dX5_where_47 rfl rfl) ?_
          refine ex_of (fun _ _ => ev_getfield (pc' := 51) fX5_32 dX5_where_48 rfl hX rfl) ?_
          have hO := hW
          obtain ⟨w1, h1, E1, rfl, fr1, pl, le, ca, go, ea, be, hSp, efw, rfl, -⟩ := e4_locate (l := l) (e := ea0) (tt := t) hR.nw hC h47 hI hJ hM (by omega) be1 (by omega) hR.2.2.1
          refine ex_of (fun _ _ => ev_callV4v (pc' := 54) kX5_165 mX4_locate dX5_where_51 rfl rfl (Nat.le_of_ble_eq_true rfl) (Nat.le_of_ble_eq_true rfl) (by decide) rfl hO E1) ?_
          have fr := fr.tr fr1
          have hR := hR.fr fr1 ⟨_, _, _, _, _, _, hSp⟩
          obtain ⟨⟨im, hX⟩, -⟩ := id hR
          have hW := hR.w
          have hT := (fr1.2 w (by omega)).trans hT
          rw [fw_cg (bea_mea be2) hM, e1] at efw
          obtain ⟨rfl, rfl, rfl, rfl⟩ : go = a ∧ be = b ∧ pl = c ∧ ca = dd := by simpa using efw
          obtain ⟨-, t1, -⟩ := id hM
          obtain ⟨v1, -⟩ := hJ _ t1.1 t1.2
          have b5 := mul_bd (x := S (3 + 4 * S (143 + 45 * k + 1) + 0)) (y := be) (X := 360) (Y := 12000) (by omega) (by omega)
          have e4 := Int.emod_nonneg (S (3 + 4 * S (143 + 45 * k + 1) + 0) * be + go) (show 360 * be ≠ 0 by omega)
          have e5 := Int.emod_lt_of_pos (S (3 + 4 * S (143 + 45 * k + 1) + 0) * be + go) (show 0 < 360 * be by omega)
          have eX : whX S k go be = (S (3 + 4 * S (143 + 45 * k + 1) + 0) * be + go) % (360 * be) := rfl
          have g6 : 0 < Nat.gcd (whX S k go be).toNat be.toNat := Nat.gcd_pos_of_pos_right _ (by omega)
          have g7 : Nat.gcd (whX S k go be).toNat be.toNat ≤ be.toNat := Nat.gcd_le_right _ (by omega)
          refine ex_of (fun _ _ => ev_aload_n (pc' := 55) dX5_where_54 rfl rfl) ?_
          refine ex_of (fun _ _ => ev_getfield (pc' := 58) fX5_32 dX5_where_55 rfl hX rfl) ?_
          refine ex_of (fun _ _ => ev_getfield (pc' := 61) fX5_169 dX5_where_58 rfl hSp rfl) ?_
          refine ex_of (fun _ _ => ev_lstore_5 (pc' := 63) dX5_where_61 rfl (by decide) rfl) ?_
          refine ex_of (fun _ _ => ev_aload_n (pc' := 64) dX5_where_63 rfl rfl) ?_
          refine ex_of (fun _ _ => ev_getfield (pc' := 67) fX5_12 dX5_where_64 rfl hX rfl) ?_
          refine ex_of (fun _ _ => ev_aload (pc' := 69) dX5_where_67 rfl rfl) ?_
          refine ex_of (fun _ _ => ev_getfield (pc' := 72) fX5_127 dX5_where_69 rfl hT rfl) ?_
          refine ex_of (fun _ _ => ev_callV1 (pc' := 75) kX5_173 mX4_degreeOf dX5_where_72 rfl rfl (Nat.le_of_ble_eq_true rfl) (Nat.le_of_ble_eq_true rfl) (by decide) rfl hW (e4_degreeOf hR.nw hI (by omega))) ?_
          refine ex_of (fun _ _ => ev_i2lI (pc' := 76) dX5_where_75 rfl (by omega)) ?_
          refine ex_of (fun _ _ => ev_lload (pc' := 78) dX5_where_76 rfl rfl) ?_
          refine ex_of (fun _ _ => ev_lmulI (pc' := 79) dX5_where_78 rfl) ?_
          refine ex_of (fun _ _ => ev_aload_n (pc' := 80) dX5_where_79 rfl rfl) ?_
          refine ex_of (fun _ _ => ev_getfield (pc' := 83) fX5_32 dX5_where_80 rfl hX rfl) ?_
          refine ex_of (fun _ _ => ev_getfield (pc' := 86) fX5_176 dX5_where_83 rfl hSp rfl) ?_
          refine ex_of (fun _ _ => ev_laddI (pc' := 87) dX5_where_86 rfl) ?_
          refine ex_of (fun _ _ => ev_ldc2I (pc' := 90) (360) nX5_179 dX5_where_87 rfl (by decide)) ?_
          refine ex_of (fun _ _ => ev_lload (pc' := 92) dX5_where_90 rfl rfl) ?_
          refine ex_of (fun _ _ => ev_lmulI (pc' := 93) dX5_where_92 rfl) ?_
          refine ex_of (fun _ _ => ev_callS2 (pc' := 96) kX5_181 mJ9_floorMod_f86c9 dX5_where_93 rfl rfl (Nat.le_of_ble_eq_true rfl) (Nat.le_of_ble_eq_true rfl) (by decide) (e_fmJ (by omega) (by omega))) ?_
          rw [← eX]
          refine ex_of (fun _ _ => ev_lstore_7 (pc' := 98) dX5_where_96 rfl (by decide) rfl) ?_
          refine ex_of (fun _ _ => ev_lload (pc' := 100) dX5_where_98 rfl rfl) ?_
          refine ex_of (fun _ _ => ev_lload (pc' := 102) dX5_where_100 rfl rfl) ?_
          refine ex_of (fun _ _ => ev_callS2 (pc' := 105) kX5_184 mX5_commonDivisor dX5_where_102 rfl rfl (Nat.le_of_ble_eq_true rfl) (Nat.le_of_ble_eq_true rfl) (by decide) (e5_commonDivisor (by omega) (by omega))) ?_
          refine ex_of (fun _ _ => ev_lstore_9 (pc' := 107) dX5_where_105 rfl (by decide) rfl) ?_
          refine ex_of (fun _ _ => ev_iload_n (pc' := 108) dX5_where_107 rfl rfl) ?_
          refine ex_ifI_ne (pc' := 111) (tgt := 116) dX5_where_108 (by decide) rfl (by omega) (fun c108 => ?_) (fun c108 => ?_)
          · refine ex_of (fun _ _ => ev_lload (pc' := 118) dX5_where_116 rfl rfl) ?_
            refine ex_of (fun _ _ => ev_lload (pc' := 120) dX5_where_118 rfl rfl) ?_
            refine ex_of (fun _ _ => ev_ldivI (pc' := 121) dX5_where_120 rfl (by omega) (by omega) (by omega)) ?_
            exact ex_end (ev_lret dX5_where_121) (⟨by unfold sWhere; rw [if_pos (by omega), e1]; first | (rw [if_pos (by omega)]; rw [Int.tdiv_eq_ediv_of_nonneg (by omega)]; rfl) | (rw [if_neg (by omega)]; rw [Int.tdiv_eq_ediv_of_nonneg (by omega)]; rfl), fr, hR⟩)
          · refine ex_of (fun _ _ => ev_lload (pc' := 113) dX5_where_111 rfl rfl) ?_
            refine ex_of (fun _ _ => ev_goto (tgt := 118) dX5_where_113 (by decide)) ?_
            refine ex_of (fun _ _ => ev_lload (pc' := 120) dX5_where_118 rfl rfl) ?_
            refine ex_of (fun _ _ => ev_ldivI (pc' := 121) dX5_where_120 rfl (by omega) (by omega) (by omega)) ?_
            exact ex_end (ev_lret dX5_where_121) (⟨by unfold sWhere; rw [if_pos (by omega), e1]; first | (rw [if_pos (by omega)]; rw [Int.tdiv_eq_ediv_of_nonneg (by omega)]; rfl) | (rw [if_neg (by omega)]; rw [Int.tdiv_eq_ediv_of_nonneg (by omega)]; rfl), fr, hR⟩)
        · refine ex_of (fun _ _ => ev_ldc2I (pc' := 34) (-4000000000000000001) nX5_160 dX5_where_31 rfl (by decide)) ?_
          exact ex_end (ev_lret dX5_where_34) (⟨by unfold sWhere; rw [if_neg (by omega)], fr, hR⟩)
  · skip
    refine ex_of (fun _ _ => ev_aload_n (pc' := 1) dX5_where_0 rfl rfl) ?_
    refine ex_of (fun _ _ => ev_getfield (pc' := 4) fX5_12 dX5_where_1 rfl hX rfl) ?_
    refine ex_of (fun _ _ => ev_iload_n (pc' := 5) dX5_where_4 rfl rfl) ?_
    refine ex_of (fun _ _ => ev_callV1 (pc' := 8) kX5_137 mX4_travellerOf dX5_where_5 rfl rfl (Nat.le_of_ble_eq_true rfl) (Nat.le_of_ble_eq_true rfl) (by decide) rfl hW (e4_travellerOf0 hR.nw hI (by omega) hk)) ?_
    refine ex_of (fun _ _ => ev_astore_4N (pc' := 10) dX5_where_8 rfl (by decide) rfl) ?_
    refine ex_of (fun _ _ => ev_aloadN (pc' := 12) dX5_where_10 rfl rfl) ?_
    refine ex_of (fun _ _ => ev_ifnullN (tgt := 31) dX5_where_12 (by decide)) ?_
    refine ex_of (fun _ _ => ev_ldc2I (pc' := 34) (-4000000000000000001) nX5_160 dX5_where_31 rfl (by decide)) ?_
    exact ex_end (ev_lret dX5_where_34) (⟨by unfold sWhere; rw [if_neg (by omega)], fr, hR⟩)
end CJ
