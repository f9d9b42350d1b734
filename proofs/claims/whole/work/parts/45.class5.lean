section CG
variable {l : Launch} {h h0 : ev_H} {S : Int → Int} {F : Nat → Option Nat} {t : Nat} {k : Int}
theorem RC.nw {h : ev_H} {S : Int → Int} {F : Nat → Option Nat} (x : RC h S F) : NW h S F := x.2.1
theorem RC.w {h : ev_H} {S : Int → Int} {F : Nat → Option Nat} (x : RC h S F) : h[1]? = some (cWo (S 0) (S 1) (S 2) 2 3 4 5 6 7) := x.2.1.1
/-! first minutes -/
theorem NC.no {D : Int → Int} {t r : Int} (h : NC D t r) : fstM (fun x => decide (D x ≠ D t)) (19999 - t).toNat (t + 1) = if r ≤ 19999 then r else -4 := by
  have key : ∀ (n : Nat) (m : Int), t < m → m ≤ r → 20000 - m = n → fstM (fun x => decide (D x ≠ D t)) n m = if r ≤ 19999 then r else -4 := by
    intro n
    induction n with
    | zero => intro m h1 h2 h3; unfold fstM; rw [if_neg (by omega)]
    | succ n ih =>
      intro m h1 h2 h3
      by_cases c : m = r
      · subst c
        rw [fstM_t (decide_eq_true (h.2.2 (by omega))), if_pos (by omega)]
      · rw [fstM_f (decide_eq_false (fun q => q (h.2.1 m (by omega) (by omega)))), ih (m + 1) (by omega) (by omega) (by omega)]
  have := h.1
  by_cases c : t = 19999
  · subst c
    rw [show (19999 - 19999 : Int).toNat = 0 from rfl, if_neg (by omega)]; rfl
  · exact key _ _ (by omega) (by omega) (by omega)
/-- a search may pass over minutes with the days of the one ahead -/
theorem fst_skip {P : Int → Bool} {a r : Int} {n : Nat} (h1 : a ≤ r) (h2 : ∀ m, a ≤ m → m < r → P m = false) (h3 : r - a ≤ n) : fstM P n a = fstM P (n - (r - a).toNat) r := by
  have key : ∀ (j n : Nat) (a : Int), r - a = j → (j : Int) ≤ n → (∀ m, a ≤ m → m < r → P m = false) → fstM P n a = fstM P (n - j) r := by
    intro j
    induction j with
    | zero => intro n a e _ _; rw [show a = r by omega]; rfl
    | succ j ih =>
      intro n a e hn hp
      obtain ⟨n', rfl⟩ : ∃ n', n = n' + 1 := ⟨n - 1, by omega⟩
      rw [fstM_f (hp a (by omega) (by omega)), ih n' (a + 1) (by omega) (by omega) (fun m m1 m2 => hp m (by omega) m2)]
      congr 1
      omega
  exact key (r - a).toNat n a (by omega) (by omega) h2
theorem e5_day {k t : Int} (hR : RC h S F) (hI : mI0 S) (hJ : mIP S) (hK : ∀ k, 0 ≤ k → k < S 1 → mT S k) (rk : -2147483648 ≤ k ∧ k < 2147483648) (rt : -2147483648 ≤ t ∧ t < 2147483648) : Ex l 4 yX5_day.cls yX5_day.name cX5_day 4 (some .int) 0 [some (.ref 0), some (.int (iI k)), some (.int (iI t)), none] [] h (lkP h S F (some (.int (iI (sDayQ S k t))))) := by
  obtain ⟨⟨i1, i2⟩, ⟨i3, i4⟩, i5, i6⟩ := id hI
  obtain ⟨⟨im, hX⟩, -⟩ := id hR
  have hW := hR.w
  have fr := FrS.rf h
  by_cases hk : 0 ≤ k ∧ k < S 1
  · obtain ⟨w, ht, hC, h47⟩ := hR.2.2.2 k hk.1 hk.2
    have hM := hK k hk.1 hk.2
    obtain ⟨ea, to, fro, en, ca, cb, -, hT, -⟩ := CT.op hC
    obtain ⟨tk, -⟩ := id hM
    refine ex_of (fun _ _ => ev_aload_n (pc' := 1) dX5_day_0 rfl rfl) ?_
    refine ex_of (fun _ _ => ev_getfield (pc' := 4) fX5_12 dX5_day_1 rfl hX rfl) ?_
    refine ex_of (fun _ _ => ev_iload_n (pc' := 5) dX5_day_4 rfl rfl) ?_
    refine ex_of (fun _ _ => ev_callV1 (pc' := 8) kX5_137 mX4_travellerOf dX5_day_5 rfl rfl (Nat.le_of_ble_eq_true rfl) (Nat.le_of_ble_eq_true rfl) (by decide) rfl hW (e4_travellerOf hR.nw hI hk ht)) ?_
    refine ex_of (fun _ _ => ev_astore_3 (pc' := 9) dX5_day_8 rfl (by decide) rfl) ?_
    refine ex_of (fun _ _ => ev_aload_n (pc' := 10) dX5_day_9 rfl rfl) ?_
    refine ex_of (fun _ _ => ev_ifnull (pc' := 13) dX5_day_10 rfl) ?_
    refine ex_of (fun _ _ => ev_iload_n (pc' := 14) dX5_day_13 rfl rfl) ?_
    refine ex_of (fun _ _ => ev_callS1 (pc' := 17) kX5_96 mX5_isMinute dX5_day_14 rfl rfl (Nat.le_of_ble_eq_true rfl) (Nat.le_of_ble_eq_true rfl) (by decide) (e5_isMinute (by omega))) ?_
    refine ex_ifd_ne (pc' := 20) (tgt := 23) dX5_day_17 (by decide) rfl (fun c17 => ?_) (fun c17 => ?_)
    · refine ex_of (fun _ _ => ev_aload_n (pc' := 24) dX5_day_23 rfl rfl) ?_
      refine ex_of (fun _ _ => ev_aload_n (pc' := 25) dX5_day_24 rfl rfl) ?_
      refine ex_of (fun _ _ => ev_aload_n (pc' := 26) dX5_day_25 rfl rfl) ?_
      refine ex_of (fun _ _ => ev_getfield (pc' := 29) fX5_124 dX5_day_26 rfl hT rfl) ?_
      refine ex_of (fun _ _ => ev_iload_n (pc' := 30) dX5_day_29 rfl rfl) ?_
      have hO := hX
      obtain ⟨w1, h1, E1, rfl, fr1, hR⟩ := e5_dayD (l := l) (kd := (S (143 + 45 * k + 0))) (tt := t) hR hk ht hI hJ hM (by omega) (by omega)
      refine ex_of (fun _ _ => ev_callV3 (pc' := 33) kX5_194 mX5_dayTold dX5_day_30 rfl rfl (Nat.le_of_ble_eq_true rfl) (Nat.le_of_ble_eq_true rfl) (by decide) rfl hO E1) ?_
      have fr := fr.tr fr1
      obtain ⟨⟨im, hX⟩, -⟩ := id hR
      have hW := hR.w
      obtain ⟨ea, to, fro, en, ca, cb, -, hT, -⟩ := CT.op (hR.tr hk ht).1
      exact ex_end (ev_iret dX5_day_33 rfl) (by unfold sDayQ; first | (rw [if_pos (by omega)]; exact ⟨rfl, fr, hR⟩) | (rw [if_neg (by omega)]; exact ⟨rfl, fr, hR⟩))
    · refine ex_of (fun _ _ => ev_ldcI (pc' := 22) (-1000000001) nX5_72 dX5_day_20 rfl (by decide)) ?_
      exact ex_end (ev_iret dX5_day_22 rfl) (by unfold sDayQ; first | (rw [if_pos (by omega)]; exact ⟨rfl, fr, hR⟩) | (rw [if_neg (by omega)]; exact ⟨rfl, fr, hR⟩))
  · skip
    refine ex_of (fun _ _ => ev_aload_n (pc' := 1) dX5_day_0 rfl rfl) ?_
    refine ex_of (fun _ _ => ev_getfield (pc' := 4) fX5_12 dX5_day_1 rfl hX rfl) ?_
    refine ex_of (fun _ _ => ev_iload_n (pc' := 5) dX5_day_4 rfl rfl) ?_
    refine ex_of (fun _ _ => ev_callV1 (pc' := 8) kX5_137 mX4_travellerOf dX5_day_5 rfl rfl (Nat.le_of_ble_eq_true rfl) (Nat.le_of_ble_eq_true rfl) (by decide) rfl hW (e4_travellerOf0 hR.nw hI (by omega) hk)) ?_
    refine ex_of (fun _ _ => ev_astore_3N (pc' := 9) dX5_day_8 rfl (by decide) rfl) ?_
    refine ex_of (fun _ _ => ev_aload_nN (pc' := 10) dX5_day_9 rfl rfl) ?_
    refine ex_of (fun _ _ => ev_ifnullN (tgt := 20) dX5_day_10 (by decide)) ?_
    refine ex_of (fun _ _ => ev_ldcI (pc' := 22) (-1000000001) nX5_72 dX5_day_20 rfl (by decide)) ?_
    exact ex_end (ev_iret dX5_day_22 rfl) (⟨by unfold sDayQ; rw [if_neg (by omega)], fr, hR⟩)
theorem e5_dayBy {k q t : Int} (hR : RC h S F) (hI : mI0 S) (hJ : mIP S) (hK : ∀ k, 0 ≤ k → k < S 1 → mT S k) (rk : -2147483648 ≤ k ∧ k < 2147483648) (rq : -2147483648 ≤ q ∧ q < 2147483648) (rt : -2147483648 ≤ t ∧ t < 2147483648) : Ex l 4 yX5_dayBy.cls yX5_dayBy.name cX5_dayBy 5 (some .int) 0 [some (.ref 0), some (.int (iI k)), some (.int (iI q)), some (.int (iI t)), none] [] h (lkP h S F (some (.int (iI (sDayBy S k q t))))) := by
  obtain ⟨⟨i1, i2⟩, ⟨i3, i4⟩, i5, i6⟩ := id hI
  obtain ⟨⟨im, hX⟩, -⟩ := id hR
  have hW := hR.w
  have fr := FrS.rf h
  by_cases hk : 0 ≤ k ∧ k < S 1
  · obtain ⟨w, ht, hC, h47⟩ := hR.2.2.2 k hk.1 hk.2
    have hM := hK k hk.1 hk.2
    obtain ⟨ea, to, fro, en, ca, cb, -, hT, -⟩ := CT.op hC
    obtain ⟨tk, -⟩ := id hM
    refine ex_of (fun _ _ => ev_aload_n (pc' := 1) dX5_dayBy_0 rfl rfl) ?_
    refine ex_of (fun _ _ => ev_getfield (pc' := 4) fX5_12 dX5_dayBy_1 rfl hX rfl) ?_
    refine ex_of (fun _ _ => ev_iload_n (pc' := 5) dX5_dayBy_4 rfl rfl) ?_
    refine ex_of (fun _ _ => ev_callV1 (pc' := 8) kX5_137 mX4_travellerOf dX5_dayBy_5 rfl rfl (Nat.le_of_ble_eq_true rfl) (Nat.le_of_ble_eq_true rfl) (by decide) rfl hW (e4_travellerOf hR.nw hI hk ht)) ?_
    refine ex_of (fun _ _ => ev_astore_4 (pc' := 10) dX5_dayBy_8 rfl (by decide) rfl) ?_
    refine ex_of (fun _ _ => ev_aload (pc' := 12) dX5_dayBy_10 rfl rfl) ?_
    refine ex_of (fun _ _ => ev_ifnull (pc' := 15) dX5_dayBy_12 rfl) ?_
    refine ex_of (fun _ _ => ev_iload_n (pc' := 16) dX5_dayBy_15 rfl rfl) ?_
    refine ex_of (fun _ _ => ev_callS1 (pc' := 19) kX5_112 mX5_isKind dX5_dayBy_16 rfl rfl (Nat.le_of_ble_eq_true rfl) (Nat.le_of_ble_eq_true rfl) (by decide) (e5_isKind (by omega))) ?_
    refine ex_ifd_eq (pc' := 22) (tgt := 29) dX5_dayBy_19 (by decide) rfl (fun c19 => ?_) (fun c19 => ?_)
    · refine ex_of (fun _ _ => ev_ldcI (pc' := 31) (-1000000001) nX5_72 dX5_dayBy_29 rfl (by decide)) ?_
      exact ex_end (ev_iret dX5_dayBy_31 rfl) (by unfold sDayBy; first | (rw [if_pos (by omega)]; exact ⟨rfl, fr, hR⟩) | (rw [if_neg (by omega)]; exact ⟨rfl, fr, hR⟩))
    · refine ex_of (fun _ _ => ev_iload_n (pc' := 23) dX5_dayBy_22 rfl rfl) ?_
      refine ex_of (fun _ _ => ev_callS1 (pc' := 26) kX5_96 mX5_isMinute dX5_dayBy_23 rfl rfl (Nat.le_of_ble_eq_true rfl) (Nat.le_of_ble_eq_true rfl) (by decide) (e5_isMinute (by omega))) ?_
      refine ex_ifd_ne (pc' := 29) (tgt := 32) dX5_dayBy_26 (by decide) rfl (fun c26 => ?_) (fun c26 => ?_)
      · refine ex_of (fun _ _ => ev_aload_n (pc' := 33) dX5_dayBy_32 rfl rfl) ?_
        refine ex_of (fun _ _ => ev_aload (pc' := 35) dX5_dayBy_33 rfl rfl) ?_
        refine ex_of (fun _ _ => ev_iload_n (pc' := 36) dX5_dayBy_35 rfl rfl) ?_
        refine ex_of (fun _ _ => ev_iload_n (pc' := 37) dX5_dayBy_36 rfl rfl) ?_
        have hO := hX
        obtain ⟨w1, h1, E1, rfl, fr1, hR⟩ := e5_dayD (l := l) (kd := q) (tt := t) hR hk ht hI hJ hM (by omega) (by omega)
        refine ex_of (fun _ _ => ev_callV3 (pc' := 40) kX5_194 mX5_dayTold dX5_dayBy_37 rfl rfl (Nat.le_of_ble_eq_true rfl) (Nat.le_of_ble_eq_true rfl) (by decide) rfl hO E1) ?_
        have fr := fr.tr fr1
        obtain ⟨⟨im, hX⟩, -⟩ := id hR
        have hW := hR.w
        obtain ⟨ea, to, fro, en, ca, cb, -, hT, -⟩ := CT.op (hR.tr hk ht).1
        exact ex_end (ev_iret dX5_dayBy_40 rfl) (by unfold sDayBy; first | (rw [if_pos (by omega)]; exact ⟨rfl, fr, hR⟩) | (rw [if_neg (by omega)]; exact ⟨rfl, fr, hR⟩))
      · refine ex_of (fun _ _ => ev_ldcI (pc' := 31) (-1000000001) nX5_72 dX5_dayBy_29 rfl (by decide)) ?_
        exact ex_end (ev_iret dX5_dayBy_31 rfl) (by unfold sDayBy; first | (rw [if_pos (by omega)]; exact ⟨rfl, fr, hR⟩) | (rw [if_neg (by omega)]; exact ⟨rfl, fr, hR⟩))
  · skip
    refine ex_of (fun _ _ => ev_aload_n (pc' := 1) dX5_dayBy_0 rfl rfl) ?_
    refine ex_of (fun _ _ => ev_getfield (pc' := 4) fX5_12 dX5_dayBy_1 rfl hX rfl) ?_
    refine ex_of (fun _ _ => ev_iload_n (pc' := 5) dX5_dayBy_4 rfl rfl) ?_
    refine ex_of (fun _ _ => ev_callV1 (pc' := 8) kX5_137 mX4_travellerOf dX5_dayBy_5 rfl rfl (Nat.le_of_ble_eq_true rfl) (Nat.le_of_ble_eq_true rfl) (by decide) rfl hW (e4_travellerOf0 hR.nw hI (by omega) hk)) ?_
    refine ex_of (fun _ _ => ev_astore_4N (pc' := 10) dX5_dayBy_8 rfl (by decide) rfl) ?_
    refine ex_of (fun _ _ => ev_aloadN (pc' := 12) dX5_dayBy_10 rfl rfl) ?_
    refine ex_of (fun _ _ => ev_ifnullN (tgt := 29) dX5_dayBy_12 (by decide)) ?_
    refine ex_of (fun _ _ => ev_ldcI (pc' := 31) (-1000000001) nX5_72 dX5_dayBy_29 rfl (by decide)) ?_
    exact ex_end (ev_iret dX5_dayBy_31 rfl) (⟨by unfold sDayBy; rw [if_neg (by omega)], fr, hR⟩)
theorem e5_gain {k q t : Int} (hR : RC h S F) (hI : mI0 S) (hJ : mIP S) (hK : ∀ k, 0 ≤ k → k < S 1 → mT S k) (rk : -2147483648 ≤ k ∧ k < 2147483648) (rq : -2147483648 ≤ q ∧ q < 2147483648) (rt : -2147483648 ≤ t ∧ t < 2147483648) : Ex l 4 yX5_gain.cls yX5_gain.name cX5_gain 5 (some .int) 0 [some (.ref 0), some (.int (iI k)), some (.int (iI q)), some (.int (iI t)), none] [] h (lkP h S F (some (.int (iI (sGain S k q t))))) := by
  obtain ⟨⟨i1, i2⟩, ⟨i3, i4⟩, i5, i6⟩ := id hI
  obtain ⟨⟨im, hX⟩, -⟩ := id hR
  have hW := hR.w
  have fr := FrS.rf h
  by_cases hk : 0 ≤ k ∧ k < S 1
  · obtain ⟨w, ht, hC, h47⟩ := hR.2.2.2 k hk.1 hk.2
    have hM := hK k hk.1 hk.2
    obtain ⟨ea, to, fro, en, ca, cb, -, hT, -⟩ := CT.op hC
    obtain ⟨tk, -⟩ := id hM
    refine ex_of (fun _ _ => ev_aload_n (pc' := 1) dX5_gain_0 rfl rfl) ?_
    refine ex_of (fun _ _ => ev_getfield (pc' := 4) fX5_12 dX5_gain_1 rfl hX rfl) ?_
    refine ex_of (fun _ _ => ev_iload_n (pc' := 5) dX5_gain_4 rfl rfl) ?_
    refine ex_of (fun _ _ => ev_callV1 (pc' := 8) kX5_137 mX4_travellerOf dX5_gain_5 rfl rfl (Nat.le_of_ble_eq_true rfl) (Nat.le_of_ble_eq_true rfl) (by decide) rfl hW (e4_travellerOf hR.nw hI hk ht)) ?_
    refine ex_of (fun _ _ => ev_astore_4 (pc' := 10) dX5_gain_8 rfl (by decide) rfl) ?_
    refine ex_of (fun _ _ => ev_aload (pc' := 12) dX5_gain_10 rfl rfl) ?_
    refine ex_of (fun _ _ => ev_ifnull (pc' := 15) dX5_gain_12 rfl) ?_
    refine ex_of (fun _ _ => ev_iload_n (pc' := 16) dX5_gain_15 rfl rfl) ?_
    refine ex_of (fun _ _ => ev_callS1 (pc' := 19) kX5_112 mX5_isKind dX5_gain_16 rfl rfl (Nat.le_of_ble_eq_true rfl) (Nat.le_of_ble_eq_true rfl) (by decide) (e5_isKind (by omega))) ?_
    refine ex_ifd_eq (pc' := 22) (tgt := 29) dX5_gain_19 (by decide) rfl (fun c19 => ?_) (fun c19 => ?_)
    · refine ex_of (fun _ _ => ev_ldcI (pc' := 31) (-1000000001) nX5_72 dX5_gain_29 rfl (by decide)) ?_
      exact ex_end (ev_iret dX5_gain_31 rfl) (by unfold sGain; first | (rw [if_pos (by omega)]; exact ⟨rfl, fr, hR⟩) | (rw [if_neg (by omega)]; exact ⟨rfl, fr, hR⟩))
    · refine ex_of (fun _ _ => ev_iload_n (pc' := 23) dX5_gain_22 rfl rfl) ?_
      refine ex_of (fun _ _ => ev_callS1 (pc' := 26) kX5_96 mX5_isMinute dX5_gain_23 rfl rfl (Nat.le_of_ble_eq_true rfl) (Nat.le_of_ble_eq_true rfl) (by decide) (e5_isMinute (by omega))) ?_
      refine ex_ifd_ne (pc' := 29) (tgt := 32) dX5_gain_26 (by decide) rfl (fun c26 => ?_) (fun c26 => ?_)
      · refine ex_of (fun _ _ => ev_aload_n (pc' := 33) dX5_gain_32 rfl rfl) ?_
        refine ex_of (fun _ _ => ev_aload (pc' := 35) dX5_gain_33 rfl rfl) ?_
        refine ex_of (fun _ _ => ev_iload_n (pc' := 36) dX5_gain_35 rfl rfl) ?_
        refine ex_of (fun _ _ => ev_iload_n (pc' := 37) dX5_gain_36 rfl rfl) ?_
        have hO := hX
        obtain ⟨w1, h1, E1, rfl, fr1, hR⟩ := e5_dayD (l := l) (kd := q) (tt := t) hR hk ht hI hJ hM (by omega) (by omega)
        refine ex_of (fun _ _ => ev_callV3 (pc' := 40) kX5_194 mX5_dayTold dX5_gain_37 rfl rfl (Nat.le_of_ble_eq_true rfl) (Nat.le_of_ble_eq_true rfl) (by decide) rfl hO E1) ?_
        have fr := fr.tr fr1
        obtain ⟨⟨im, hX⟩, -⟩ := id hR
        have hW := hR.w
        obtain ⟨ea, to, fro, en, ca, cb, -, hT, -⟩ := CT.op (hR.tr hk ht).1
        refine ex_of (fun _ _ => ev_aload_n (pc' := 41) dX5_gain_40 rfl rfl) ?_
        refine ex_of (fun _ _ => ev_aload (pc' := 43) dX5_gain_41 rfl rfl) ?_
        refine ex_of (fun _ _ => ev_iconst (pc' := 44) (iI (3)) dX5_gain_43 rfl (by decide)) ?_
        refine ex_of (fun _ _ => ev_iload_n (pc' := 45) dX5_gain_44 rfl rfl) ?_
        have hO := hX
        obtain ⟨w1, h1, E1, rfl, fr2, hR⟩ := e5_dayD (l := l) (kd := 3) (tt := t) hR hk ht hI hJ hM (by omega) (by omega)
        refine ex_of (fun _ _ => ev_callV3 (pc' := 48) kX5_194 mX5_dayTold dX5_gain_45 rfl rfl (Nat.le_of_ble_eq_true rfl) (Nat.le_of_ble_eq_true rfl) (by decide) rfl hO E1) ?_
        have fr := fr.tr fr2
        obtain ⟨⟨im, hX⟩, -⟩ := id hR
        have hW := hR.w
        obtain ⟨ea, to, fro, en, ca, cb, -, hT, -⟩ := CT.op (hR.tr hk ht).1
        refine ex_of (fun _ _ => ev_isubI (pc' := 49) dX5_gain_48 rfl) ?_
        exact ex_end (ev_iret dX5_gain_49 rfl) (by unfold sGain; rw [if_pos (by omega)]; exact ⟨rfl, fr, hR⟩)
      · refine ex_of (fun _ _ => ev_ldcI (pc' := 31) (-1000000001) nX5_72 dX5_gain_29 rfl (by decide)) ?_
        exact ex_end (ev_iret dX5_gain_31 rfl) (by unfold sGain; first | (rw [if_pos (by omega)]; exact ⟨rfl, fr, hR⟩) | (rw [if_neg (by omega)]; exact ⟨rfl, fr, hR⟩))
  · skip
    refine ex_of (fun _ _ => ev_aload_n (pc' := 1) dX5_gain_0 rfl rfl) ?_
    refine ex_of (fun _ _ => ev_getfield (pc' := 4) fX5_12 dX5_gain_1 rfl hX rfl) ?_
    refine ex_of (fun _ _ => ev_iload_n (pc' := 5) dX5_gain_4 rfl rfl) ?_
    refine ex_of (fun _ _ => ev_callV1 (pc' := 8) kX5_137 mX4_travellerOf dX5_gain_5 rfl rfl (Nat.le_of_ble_eq_true rfl) (Nat.le_of_ble_eq_true rfl) (by decide) rfl hW (e4_travellerOf0 hR.nw hI (by omega) hk)) ?_
    refine ex_of (fun _ _ => ev_astore_4N (pc' := 10) dX5_gain_8 rfl (by decide) rfl) ?_
    refine ex_of (fun _ _ => ev_aloadN (pc' := 12) dX5_gain_10 rfl rfl) ?_
    refine ex_of (fun _ _ => ev_ifnullN (tgt := 29) dX5_gain_12 (by decide)) ?_
    refine ex_of (fun _ _ => ev_ldcI (pc' := 31) (-1000000001) nX5_72 dX5_gain_29 rfl (by decide)) ?_
    exact ex_end (ev_iret dX5_gain_31 rfl) (⟨by unfold sGain; rw [if_neg (by omega)], fr, hR⟩)
theorem e5_rounds {k t : Int} (hR : RC h S F) (hI : mI0 S) (hJ : mIP S) (hK : ∀ k, 0 ≤ k → k < S 1 → mT S k) (rk : -2147483648 ≤ k ∧ k < 2147483648) (rt : -2147483648 ≤ t ∧ t < 2147483648) : Ex l 4 yX5_rounds.cls yX5_rounds.name cX5_rounds 4 (some .int) 0 [some (.ref 0), some (.int (iI k)), some (.int (iI t)), none] [] h (lkP h S F (some (.int (iI (sRounds S k t))))) := by
  obtain ⟨⟨i1, i2⟩, ⟨i3, i4⟩, i5, i6⟩ := id hI
  obtain ⟨⟨im, hX⟩, -⟩ := id hR
  have hW := hR.w
  have fr := FrS.rf h
  by_cases hk : 0 ≤ k ∧ k < S 1
  · obtain ⟨w, ht, hC, h47⟩ := hR.2.2.2 k hk.1 hk.2
    have hM := hK k hk.1 hk.2
    obtain ⟨ea, to, fro, en, ca, cb, -, hT, -⟩ := CT.op hC
    obtain ⟨tk, -⟩ := id hM
    refine ex_of (fun _ _ => ev_aload_n (pc' := 1) dX5_rounds_0 rfl rfl) ?_
    refine ex_of (fun _ _ => ev_getfield (pc' := 4) fX5_12 dX5_rounds_1 rfl hX rfl) ?_
    refine ex_of (fun _ _ => ev_iload_n (pc' := 5) dX5_rounds_4 rfl rfl) ?_
    refine ex_of (fun _ _ => ev_callV1 (pc' := 8) kX5_137 mX4_travellerOf dX5_rounds_5 rfl rfl (Nat.le_of_ble_eq_true rfl) (Nat.le_of_ble_eq_true rfl) (by decide) rfl hW (e4_travellerOf hR.nw hI hk ht)) ?_
    refine ex_of (fun _ _ => ev_astore_3 (pc' := 9) dX5_rounds_8 rfl (by decide) rfl) ?_
    refine ex_of (fun _ _ => ev_aload_n (pc' := 10) dX5_rounds_9 rfl rfl) ?_
    refine ex_of (fun _ _ => ev_ifnull (pc' := 13) dX5_rounds_10 rfl) ?_
    refine ex_of (fun _ _ => ev_iload_n (pc' := 14) dX5_rounds_13 rfl rfl) ?_
    refine ex_of (fun _ _ => ev_callS1 (pc' := 17) kX5_96 mX5_isMinute dX5_rounds_14 rfl rfl (Nat.le_of_ble_eq_true rfl) (Nat.le_of_ble_eq_true rfl) (by decide) (e5_isMinute (by omega))) ?_
    refine ex_ifd_ne (pc' := 20) (tgt := 23) dX5_rounds_17 (by decide) rfl (fun c17 => ?_) (fun c17 => ?_)
    · refine ex_of (fun _ _ => ev_aload_n (pc' := 24) dX5_rounds_23 rfl rfl) ?_
      refine ex_of (fun _ _ => ev_aload_n (pc' := 25) dX5_rounds_24 rfl rfl) ?_
      refine ex_of (fun _ _ => ev_iload_n (pc' := 26) dX5_rounds_25 rfl rfl) ?_
      have hO := hX
      obtain ⟨w1, h1, E1, rfl, fr1, hR⟩ := e5_roundsAt (l := l) (tt := t) hR hk ht hI hJ hM (by omega)
      refine ex_of (fun _ _ => ev_callV2 (pc' := 29) kX5_239 mX5_roundsAt dX5_rounds_26 rfl rfl (Nat.le_of_ble_eq_true rfl) (Nat.le_of_ble_eq_true rfl) (by decide) rfl hO E1) ?_
      have fr := fr.tr fr1
      obtain ⟨⟨im, hX⟩, -⟩ := id hR
      have hW := hR.w
      obtain ⟨ea, to, fro, en, ca, cb, -, hT, -⟩ := CT.op (hR.tr hk ht).1
      exact ex_end (ev_iret dX5_rounds_29 rfl) (by unfold sRounds; first | (rw [if_pos (by omega)]; exact ⟨rfl, fr, hR⟩) | (rw [if_neg (by omega)]; exact ⟨rfl, fr, hR⟩))
    · refine ex_of (fun _ _ => ev_ldcI (pc' := 22) (-1000000001) nX5_72 dX5_rounds_20 rfl (by decide)) ?_
      exact ex_end (ev_iret dX5_rounds_22 rfl) (by unfold sRounds; first | (rw [if_pos (by omega)]; exact ⟨rfl, fr, hR⟩) | (rw [if_neg (by omega)]; exact ⟨rfl, fr, hR⟩))
  · skip
    refine ex_of (fun _ _ => ev_aload_n (pc' := 1) dX5_rounds_0 rfl rfl) ?_
    refine ex_of (fun _ _ => ev_getfield (pc' := 4) fX5_12 dX5_rounds_1 rfl hX rfl) ?_
    refine ex_of (fun _ _ => ev_iload_n (pc' := 5) dX5_rounds_4 rfl rfl) ?_
    refine ex_of (fun _ _ => ev_callV1 (pc' := 8) kX5_137 mX4_travellerOf dX5_rounds_5 rfl rfl (Nat.le_of_ble_eq_true rfl) (Nat.le_of_ble_eq_true rfl) (by decide) rfl hW (e4_travellerOf0 hR.nw hI (by omega) hk)) ?_
    refine ex_of (fun _ _ => ev_astore_3N (pc' := 9) dX5_rounds_8 rfl (by decide) rfl) ?_
    refine ex_of (fun _ _ => ev_aload_nN (pc' := 10) dX5_rounds_9 rfl rfl) ?_
    refine ex_of (fun _ _ => ev_ifnullN (tgt := 20) dX5_rounds_10 (by decide)) ?_
    refine ex_of (fun _ _ => ev_ldcI (pc' := 22) (-1000000001) nX5_72 dX5_rounds_20 rfl (by decide)) ?_
    exact ex_end (ev_iret dX5_rounds_22 rfl) (⟨by unfold sRounds; rw [if_neg (by omega)], fr, hR⟩)
theorem e5_in {k t : Int} (hR : RC h S F) (hI : mI0 S) (hJ : mIP S) (hK : ∀ k, 0 ≤ k → k < S 1 → mT S k) (rk : -2147483648 ≤ k ∧ k < 2147483648) (rt : -2147483648 ≤ t ∧ t < 2147483648) : Ex l 4 yX5_in.cls yX5_in.name cX5_in 4 (some .int) 0 [some (.ref 0), some (.int (iI k)), some (.int (iI t)), none] [] h (lkP h S F (some (.int (iI (sIn S k t))))) := by
  obtain ⟨⟨i1, i2⟩, ⟨i3, i4⟩, i5, i6⟩ := id hI
  obtain ⟨⟨im, hX⟩, -⟩ := id hR
  have hW := hR.w
  have fr := FrS.rf h
  by_cases hk : 0 ≤ k ∧ k < S 1
  · obtain ⟨w, ht, hC, h47⟩ := hR.2.2.2 k hk.1 hk.2
    have hM := hK k hk.1 hk.2
    obtain ⟨ea0, to, fro, en0, ca0, cb, ⟨be1, be2⟩, hT, -⟩ := CT.op hC
    obtain ⟨tk, -⟩ := id hM
    refine ex_of (fun _ _ => ev_aload_n (pc' := 1) dX5_in_0 rfl rfl) ?_
    refine ex_of (fun _ _ => ev_getfield (pc' := 4) fX5_12 dX5_in_1 rfl hX rfl) ?_
    refine ex_of (fun _ _ => ev_iload_n (pc' := 5) dX5_in_4 rfl rfl) ?_
    refine ex_of (fun _ _ => ev_callV1 (pc' := 8) kX5_137 mX4_travellerOf dX5_in_5 rfl rfl (Nat.le_of_ble_eq_true rfl) (Nat.le_of_ble_eq_true rfl) (by decide) rfl hW (e4_travellerOf hR.nw hI hk ht)) ?_
    refine ex_of (fun _ _ => ev_astore_3 (pc' := 9) dX5_in_8 rfl (by decide) rfl) ?_
    refine ex_of (fun _ _ => ev_aload_n (pc' := 10) dX5_in_9 rfl rfl) ?_
    refine ex_of (fun _ _ => ev_ifnull (pc' := 13) dX5_in_10 rfl) ?_
    refine ex_of (fun _ _ => ev_iload_n (pc' := 14) dX5_in_13 rfl rfl) ?_
    refine ex_of (fun _ _ => ev_callS1 (pc' := 17) kX5_96 mX5_isMinute dX5_in_14 rfl rfl (Nat.le_of_ble_eq_true rfl) (Nat.le_of_ble_eq_true rfl) (by decide) (e5_isMinute (by omega))) ?_
    refine ex_ifd_ne (pc' := 20) (tgt := 22) dX5_in_17 (by decide) rfl (fun c17 => ?_) (fun c17 => ?_)
    · obtain ⟨a, b, c, dd, e1, b1, b2, b3, b4⟩ := fw_b (ea := mea S k) (t := t) hM (by omega)
      refine ex_of (fun _ _ => ev_aload_n (pc' := 23) dX5_in_22 rfl rfl) ?_
      refine ex_of (fun _ _ => ev_getfield (pc' := 26) fX5_12 dX5_in_23 rfl hX rfl) ?_
      refine ex_of (fun _ _ => ev_aload_n (pc' := 27) dX5_in_26 rfl rfl) ?_
      refine ex_of (fun _ _ => ev_aload_n (pc' := 28) dX5_in_27 rfl rfl) ?_
      refine ex_of (fun _ _ => ev_getfield (pc' := 31) fX5_162 dX5_in_28 rfl hT rfl) ?_
      refine ex_of (fun _ _ => ev_iload_n (pc' := 32) dX5_in_31 rfl rfl) ?_
      refine ex_of (fun _ _ => ev_aload_n (pc' := 33) dX5_in_32 rfl rfl) ?_
      refine ex_of (fun _ _ => ev_getfield (pc' := 36) fX5_32 dX5_in_33 rfl hX rfl) ?_
      have hO := hW
      obtain ⟨w1, h1, E1, rfl, fr1, pl, le, ca, go, ea, be, hSp, efw, rfl, -⟩ := e4_locate (l := l) (e := ea0) (tt := t) hR.nw hC h47 hI hJ hM (by omega) be1 (by omega) hR.2.2.1
      refine ex_of (fun _ _ => ev_callV4v (pc' := 39) kX5_165 mX4_locate dX5_in_36 rfl rfl (Nat.le_of_ble_eq_true rfl) (Nat.le_of_ble_eq_true rfl) (by decide) rfl hO E1) ?_
      have fr := fr.tr fr1
      have hR := hR.fr fr1 ⟨_, _, _, _, _, _, hSp⟩
      obtain ⟨⟨im, hX⟩, -⟩ := id hR
      have hW := hR.w
      rw [fw_cg (bea_mea be2) hM, e1] at efw
      obtain ⟨rfl, rfl, rfl, rfl⟩ : go = a ∧ be = b ∧ pl = c ∧ ca = dd := by simpa using efw
      refine ex_of (fun _ _ => ev_aload_n (pc' := 40) dX5_in_39 rfl rfl) ?_
      refine ex_of (fun _ _ => ev_getfield (pc' := 43) fX5_32 dX5_in_40 rfl hX rfl) ?_
      refine ex_of (fun _ _ => ev_callV0 (pc' := 46) kX5_187 mX2_isUnderWay dX5_in_43 rfl rfl (Nat.le_of_ble_eq_true rfl) (Nat.le_of_ble_eq_true rfl) (by decide) rfl hSp (e2_isUnderWay hSp (by omega))) ?_
      refine ex_ifd_eq (pc' := 49) (tgt := 54) dX5_in_46 (by decide) rfl (fun c46 => ?_) (fun c46 => ?_)
      · refine ex_of (fun _ _ => ev_aload_n (pc' := 55) dX5_in_54 rfl rfl) ?_
        refine ex_of (fun _ _ => ev_getfield (pc' := 58) fX5_32 dX5_in_55 rfl hX rfl) ?_
        refine ex_of (fun _ _ => ev_getfield (pc' := 61) fX5_191 dX5_in_58 rfl hSp rfl) ?_
        exact ex_end (ev_iret dX5_in_61 rfl) (by unfold sIn; rw [if_pos (by omega), e1]; exact ⟨by first | rfl | (congr 3; dsimp only; omega), fr, hR⟩)
      · refine ex_of (fun _ _ => ev_bipush (pc' := 51) (iI (-4)) dX5_in_49 rfl (by decide)) ?_
        refine ex_of (fun _ _ => ev_goto (tgt := 61) dX5_in_51 (by decide)) ?_
        exact ex_end (ev_iret dX5_in_61 rfl) (by unfold sIn; rw [if_pos (by omega), e1]; exact ⟨by first | rfl | (congr 3; dsimp only; omega), fr, hR⟩)
    · refine ex_of (fun _ _ => ev_iconst (pc' := 21) (iI (-1)) dX5_in_20 rfl (by decide)) ?_
      exact ex_end (ev_iret dX5_in_21 rfl) (by unfold sIn; first | (rw [if_pos (by omega)]; exact ⟨rfl, fr, hR⟩) | (rw [if_neg (by omega)]; exact ⟨rfl, fr, hR⟩))
  · skip
    refine ex_of (fun _ _ => ev_aload_n (pc' := 1) dX5_in_0 rfl rfl) ?_
    refine ex_of (fun _ _ => ev_getfield (pc' := 4) fX5_12 dX5_in_1 rfl hX rfl) ?_
    refine ex_of (fun _ _ => ev_iload_n (pc' := 5) dX5_in_4 rfl rfl) ?_
    refine ex_of (fun _ _ => ev_callV1 (pc' := 8) kX5_137 mX4_travellerOf dX5_in_5 rfl rfl (Nat.le_of_ble_eq_true rfl) (Nat.le_of_ble_eq_true rfl) (by decide) rfl hW (e4_travellerOf0 hR.nw hI (by omega) hk)) ?_
    refine ex_of (fun _ _ => ev_astore_3N (pc' := 9) dX5_in_8 rfl (by decide) rfl) ?_
    refine ex_of (fun _ _ => ev_aload_nN (pc' := 10) dX5_in_9 rfl rfl) ?_
    refine ex_of (fun _ _ => ev_ifnullN (tgt := 20) dX5_in_10 (by decide)) ?_
    refine ex_of (fun _ _ => ev_iconst (pc' := 21) (iI (-1)) dX5_in_20 rfl (by decide)) ?_
    exact ex_end (ev_iret dX5_in_21 rfl) (⟨by unfold sIn; rw [if_neg (by omega)], fr, hR⟩)
theorem e5_begins {k t : Int} (hR : RC h S F) (hI : mI0 S) (hJ : mIP S) (hK : ∀ k, 0 ≤ k → k < S 1 → mT S k) (rk : -2147483648 ≤ k ∧ k < 2147483648) (rt : -2147483648 ≤ t ∧ t < 2147483648) : Ex l 6 yX5_begins.cls yX5_begins.name cX5_begins 4 (some .int) 0 [some (.ref 0), some (.int (iI k)), some (.int (iI t)), none] [] h (lkP h S F (some (.int (iI (sBegins S k t))))) := by
  obtain ⟨⟨i1, i2⟩, ⟨i3, i4⟩, i5, i6⟩ := id hI
  obtain ⟨⟨im, hX⟩, -⟩ := id hR
  have hW := hR.w
  have fr := FrS.rf h
  by_cases hk : 0 ≤ k ∧ k < S 1
  · obtain ⟨w, ht, hC, h47⟩ := hR.2.2.2 k hk.1 hk.2
    have hM := hK k hk.1 hk.2
    obtain ⟨ea, to, fro, en, ca, cb, -, hT, -⟩ := CT.op hC
    obtain ⟨tk, -⟩ := id hM
    refine ex_of (fun _ _ => ev_aload_n (pc' := 1) dX5_begins_0 rfl rfl) ?_
    refine ex_of (fun _ _ => ev_getfield (pc' := 4) fX5_12 dX5_begins_1 rfl hX rfl) ?_
    refine ex_of (fun _ _ => ev_iload_n (pc' := 5) dX5_begins_4 rfl rfl) ?_
    refine ex_of (fun _ _ => ev_callV1 (pc' := 8) kX5_137 mX4_travellerOf dX5_begins_5 rfl rfl (Nat.le_of_ble_eq_true rfl) (Nat.le_of_ble_eq_true rfl) (by decide) rfl hW (e4_travellerOf hR.nw hI hk ht)) ?_
    refine ex_of (fun _ _ => ev_astore_3 (pc' := 9) dX5_begins_8 rfl (by decide) rfl) ?_
    refine ex_of (fun _ _ => ev_aload_n (pc' := 10) dX5_begins_9 rfl rfl) ?_
    refine ex_of (fun _ _ => ev_ifnull (pc' := 13) dX5_begins_10 rfl) ?_
    refine ex_of (fun _ _ => ev_iload_n (pc' := 14) dX5_begins_13 rfl rfl) ?_
    refine ex_of (fun _ _ => ev_callS1 (pc' := 17) kX5_96 mX5_isMinute dX5_begins_14 rfl rfl (Nat.le_of_ble_eq_true rfl) (Nat.le_of_ble_eq_true rfl) (by decide) (e5_isMinute (by omega))) ?_
    refine ex_ifd_ne (pc' := 20) (tgt := 22) dX5_begins_17 (by decide) rfl (fun c17 => ?_) (fun c17 => ?_)
    · refine ex_of (fun _ _ => ev_aload_n (pc' := 23) dX5_begins_22 rfl rfl) ?_
      refine ex_of (fun _ _ => ev_aload_n (pc' := 24) dX5_begins_23 rfl rfl) ?_
      refine ex_of (fun _ _ => ev_aload_n (pc' := 25) dX5_begins_24 rfl rfl) ?_
      refine ex_of (fun _ _ => ev_getfield (pc' := 28) fX5_124 dX5_begins_25 rfl hT rfl) ?_
      refine ex_of (fun _ _ => ev_iload_n (pc' := 29) dX5_begins_28 rfl rfl) ?_
      have hO := hX
      obtain ⟨w1, h1, E1, r, rfl, ncr, fr1, hR⟩ := e5_nextChange (l := l) (kd := (S (143 + 45 * k + 0))) (tt := t) hR hk ht hI hJ hM (by omega) (by omega)
      refine ex_of (fun _ _ => ev_callV3 (pc' := 32) kX5_198 mX5_nextChange dX5_begins_29 rfl rfl (Nat.le_of_ble_eq_true rfl) (Nat.le_of_ble_eq_true rfl) (by decide) rfl hO E1) ?_
      have fr := fr.tr fr1
      obtain ⟨⟨im, hX⟩, -⟩ := id hR
      have hW := hR.w
      obtain ⟨ea, to, fro, en, ca, cb, -, hT, -⟩ := CT.op (hR.tr hk ht).1
      refine ex_of (fun _ _ => ev_callS1 (pc' := 35) kX5_201 mX5_minuteOrNone dX5_begins_32 rfl rfl (Nat.le_of_ble_eq_true rfl) (Nat.le_of_ble_eq_true rfl) (by decide) (e5_minuteOrNone (by have := ncr.1; omega))) ?_
      exact ex_end (ev_iret dX5_begins_35 rfl) (by unfold sBegins; rw [if_pos (by omega)]; unfold sBeg; rw [show (fun x => decide (sDayN S k x ≠ sDayN S k t)) = fun x => decide (dyF S k (S (143 + 45 * k + 0)) x ≠ dyF S k (S (143 + 45 * k + 0)) t) from rfl, ncr.no]; exact ⟨by split <;> split <;> first | rfl | omega, fr, hR⟩)
    · refine ex_of (fun _ _ => ev_iconst (pc' := 21) (iI (-1)) dX5_begins_20 rfl (by decide)) ?_
      exact ex_end (ev_iret dX5_begins_21 rfl) (by unfold sBegins; first | (rw [if_pos (by omega)]; exact ⟨rfl, fr, hR⟩) | (rw [if_neg (by omega)]; exact ⟨rfl, fr, hR⟩))
  · skip
    refine ex_of (fun _ _ => ev_aload_n (pc' := 1) dX5_begins_0 rfl rfl) ?_
    refine ex_of (fun _ _ => ev_getfield (pc' := 4) fX5_12 dX5_begins_1 rfl hX rfl) ?_
    refine ex_of (fun _ _ => ev_iload_n (pc' := 5) dX5_begins_4 rfl rfl) ?_
    refine ex_of (fun _ _ => ev_callV1 (pc' := 8) kX5_137 mX4_travellerOf dX5_begins_5 rfl rfl (Nat.le_of_ble_eq_true rfl) (Nat.le_of_ble_eq_true rfl) (by decide) rfl hW (e4_travellerOf0 hR.nw hI (by omega) hk)) ?_
    refine ex_of (fun _ _ => ev_astore_3N (pc' := 9) dX5_begins_8 rfl (by decide) rfl) ?_
    refine ex_of (fun _ _ => ev_aload_nN (pc' := 10) dX5_begins_9 rfl rfl) ?_
    refine ex_of (fun _ _ => ev_ifnullN (tgt := 20) dX5_begins_10 (by decide)) ?_
    refine ex_of (fun _ _ => ev_iconst (pc' := 21) (iI (-1)) dX5_begins_20 rfl (by decide)) ?_
    exact ex_end (ev_iret dX5_begins_21 rfl) (⟨by unfold sBegins; rw [if_neg (by omega)], fr, hR⟩)
theorem NC.sk {D : Int → Int} {t r : Int} (h : NC D t r) : ∀ m, t ≤ m → m < r → D m = D t := h.2.1
theorem e5_dutL {w : Nat} {t q : Int} (hk : 0 ≤ k ∧ k < S 1) (ht : F k.toNat = some w) (hI : mI0 S) (hJ : mIP S) (hM : mT S k) (rt : 0 ≤ t ∧ t ≤ 19999) (rq : 0 ≤ q ∧ q ≤ 10) : ∀ (n : Nat) (at1 : Int) (i : Nat) (h : ev_H), 20000 - at1 ≤ n → (0 ≤ at1 ∧ at1 ≤ 20000) → t ≤ at1 → i ≤ at1 - t → FrS h0 h → RC h S F → Ex l 6 yX5_duty.cls yX5_duty.name cX5_duty 8 (some .int) 56 [some (.ref 0), some (.int (iI k)), some (.int (iI t)), some (.int (iI q)), some (.ref w), some (.int (iI (dyF S k (S (143 + 45 * k + 0)) t + q))), some (.int (iI at1)), some (.int (iI (i : Int)))] [] h (lkP h0 S F (some (.int (iI (fstM (fun x => decide (dyF S k (S (143 + 45 * k + 0)) t + q ≤ dyF S k (S (143 + 45 * k + 0)) x)) (20000 - at1).toNat at1))))) := by
  intro n
  obtain ⟨tk, -⟩ := id hM
  have rb := dyF_b (S := S) (k := k) (kd := S (143 + 45 * k + 0)) (m := t) hJ hM (by omega)
  induction n with
  | zero =>
    intro at1 i h hn ha hb hi fr hR
    obtain ⟨⟨im, hX⟩, -⟩ := id hR
    have hW := hR.w
    refine ex_of (fun _ _ => ev_iload (pc' := 58) dX5_duty_56 rfl rfl) ?_
    refine ex_of (fun _ _ => ev_sipush (pc' := 61) (iI (19999)) dX5_duty_58 rfl (by decide)) ?_
    refine ex_icmpI_gt (pc' := 64) (tgt := 114) dX5_duty_61 (by decide) rfl (by omega) (by omega) (fun c61 => ?_) (fun c61 => ?_)
    · refine ex_of (fun _ _ => ev_bipush (pc' := 116) (iI (-4)) dX5_duty_114 rfl (by decide)) ?_
      exact ex_end (ev_iret dX5_duty_116 rfl) (⟨by rw [show at1 = 20000 by omega]; rfl, fr, hR⟩)
    · refine ex_of (fun _ _ => ev_iload (pc' := 66) dX5_duty_64 rfl rfl) ?_
      refine ex_of (fun _ _ => ev_sipush (pc' := 69) (iI (19999)) dX5_duty_66 rfl (by decide)) ?_
      refine ex_icmpI_gt (pc' := 72) (tgt := 114) dX5_duty_69 (by decide) rfl (by omega) (by omega) (fun c69 => ?_) (fun c69 => ?_)
      · refine ex_of (fun _ _ => ev_bipush (pc' := 116) (iI (-4)) dX5_duty_114 rfl (by decide)) ?_
        exact ex_end (ev_iret dX5_duty_116 rfl) (⟨by rw [show at1 = 20000 by omega]; rfl, fr, hR⟩)
      · omega
  | succ n ih =>
    intro at1 i h hn ha hb hi fr hR
    obtain ⟨⟨im, hX⟩, -⟩ := id hR
    have hW := hR.w
    obtain ⟨ea, to, fro, en, ca, cb, -, hT, -⟩ := CT.op (hR.tr hk ht).1
    by_cases h20 : at1 = 20000
    · skip
      refine ex_of (fun _ _ => ev_iload (pc' := 58) dX5_duty_56 rfl rfl) ?_
      refine ex_of (fun _ _ => ev_sipush (pc' := 61) (iI (19999)) dX5_duty_58 rfl (by decide)) ?_
      refine ex_icmpI_gt (pc' := 64) (tgt := 114) dX5_duty_61 (by decide) rfl (by omega) (by omega) (fun c61 => ?_) (fun c61 => ?_)
      · refine ex_of (fun _ _ => ev_bipush (pc' := 116) (iI (-4)) dX5_duty_114 rfl (by decide)) ?_
        exact ex_end (ev_iret dX5_duty_116 rfl) (⟨by rw [show at1 = 20000 by omega]; rfl, fr, hR⟩)
      · refine ex_of (fun _ _ => ev_iload (pc' := 66) dX5_duty_64 rfl rfl) ?_
        refine ex_of (fun _ _ => ev_sipush (pc' := 69) (iI (19999)) dX5_duty_66 rfl (by decide)) ?_
        refine ex_icmpI_gt (pc' := 72) (tgt := 114) dX5_duty_69 (by decide) rfl (by omega) (by omega) (fun c69 => ?_) (fun c69 => ?_)
        · refine ex_of (fun _ _ => ev_bipush (pc' := 116) (iI (-4)) dX5_duty_114 rfl (by decide)) ?_
          exact ex_end (ev_iret dX5_duty_116 rfl) (⟨by rw [show at1 = 20000 by omega]; rfl, fr, hR⟩)
        · omega
    · have rm := dyF_b (S := S) (k := k) (kd := S (143 + 45 * k + 0)) (m := at1) hJ hM (by omega)
      have em : (20000 - at1).toNat = (19999 - at1).toNat + 1 := by omega
      refine ex_of (fun _ _ => ev_iload (pc' := 58) dX5_duty_56 rfl rfl) ?_
      refine ex_of (fun _ _ => ev_sipush (pc' := 61) (iI (19999)) dX5_duty_58 rfl (by decide)) ?_
      refine ex_icmpI_gt (pc' := 64) (tgt := 114) dX5_duty_61 (by decide) rfl (by omega) (by omega) (fun c61 => ?_) (fun c61 => ?_)
      · omega
      · refine ex_of (fun _ _ => ev_iload (pc' := 66) dX5_duty_64 rfl rfl) ?_
        refine ex_of (fun _ _ => ev_sipush (pc' := 69) (iI (19999)) dX5_duty_66 rfl (by decide)) ?_
        refine ex_icmpI_gt (pc' := 72) (tgt := 114) dX5_duty_69 (by decide) rfl (by omega) (by omega) (fun c69 => ?_) (fun c69 => ?_)
        · omega
        · refine ex_of (fun _ _ => ev_aload_n (pc' := 73) dX5_duty_72 rfl rfl) ?_
          refine ex_of (fun _ _ => ev_aload (pc' := 75) dX5_duty_73 rfl rfl) ?_
          refine ex_of (fun _ _ => ev_aload (pc' := 77) dX5_duty_75 rfl rfl) ?_
          refine ex_of (fun _ _ => ev_getfield (pc' := 80) fX5_124 dX5_duty_77 rfl hT rfl) ?_
          refine ex_of (fun _ _ => ev_iload (pc' := 82) dX5_duty_80 rfl rfl) ?_
          have hO := hX
          obtain ⟨w1, h1, E1, rfl, fr1, hR⟩ := e5_dayD (l := l) (kd := (S (143 + 45 * k + 0))) (tt := at1) hR hk ht hI hJ hM (by omega) (by omega)
          refine ex_of (fun _ _ => ev_callV3 (pc' := 85) kX5_194 mX5_dayTold dX5_duty_82 rfl rfl (Nat.le_of_ble_eq_true rfl) (Nat.le_of_ble_eq_true rfl) (by decide) rfl hO E1) ?_
          have fr := fr.tr fr1
          obtain ⟨⟨im, hX⟩, -⟩ := id hR
          have hW := hR.w
          obtain ⟨ea, to, fro, en, ca, cb, -, hT, -⟩ := CT.op (hR.tr hk ht).1
          refine ex_of (fun _ _ => ev_iload (pc' := 87) dX5_duty_85 rfl rfl) ?_
          refine ex_icmpI_lt (pc' := 90) (tgt := 93) dX5_duty_87 (by decide) rfl (by omega) (by omega) (fun c87 => ?_) (fun c87 => ?_)
          · refine ex_of (fun _ _ => ev_aload_n (pc' := 94) dX5_duty_93 rfl rfl) ?_
            refine ex_of (fun _ _ => ev_aload (pc' := 96) dX5_duty_94 rfl rfl) ?_
            refine ex_of (fun _ _ => ev_aload (pc' := 98) dX5_duty_96 rfl rfl) ?_
            refine ex_of (fun _ _ => ev_getfield (pc' := 101) fX5_124 dX5_duty_98 rfl hT rfl) ?_
            refine ex_of (fun _ _ => ev_iload (pc' := 103) dX5_duty_101 rfl rfl) ?_
            have hO := hX
            obtain ⟨w1, h1, E1, r, rfl, ncr, fr2, hR⟩ := e5_nextChange (l := l) (kd := (S (143 + 45 * k + 0))) (tt := at1) hR hk ht hI hJ hM (by omega) (by omega)
            refine ex_of (fun _ _ => ev_callV3 (pc' := 106) kX5_198 mX5_nextChange dX5_duty_103 rfl rfl (Nat.le_of_ble_eq_true rfl) (Nat.le_of_ble_eq_true rfl) (by decide) rfl hO E1) ?_
            have fr := fr.tr fr2
            obtain ⟨⟨im, hX⟩, -⟩ := id hR
            have hW := hR.w
            obtain ⟨ea, to, fro, en, ca, cb, -, hT, -⟩ := CT.op (hR.tr hk ht).1
            refine ex_of (fun _ _ => ev_istore_6 (pc' := 108) dX5_duty_106 rfl (by decide) rfl) ?_
            refine ex_of (fun _ _ => ev_iincI_7 (pc' := 111) dX5_duty_108 rfl (by decide) rfl) ?_
            refine ex_of (fun _ _ => ev_goto (tgt := 56) dX5_duty_111 (by decide)) ?_
            have nb := ncr.1
            have sk := fst_skip (P := (fun x => decide (dyF S k (S (143 + 45 * k + 0)) t + q ≤ dyF S k (S (143 + 45 * k + 0)) x))) (a := at1) (r := r) (n := (20000 - at1).toNat) (by omega) (fun m m1 m2 => decide_eq_false (by rw [ncr.sk m m1 m2]; omega)) (by omega)
            rw [sk, show (20000 - at1).toNat - (r - at1).toNat = (20000 - r).toNat by omega]
            exact ih r (i + 1) _ (by omega) (by omega) (by omega) (by omega) fr hR
          · refine ex_of (fun _ _ => ev_iload (pc' := 92) dX5_duty_90 rfl rfl) ?_
            exact ex_end (ev_iret dX5_duty_92 rfl) (⟨by rw [em, fstM_t (decide_eq_true (by omega))], fr, hR⟩)
theorem e5_duty {k t q : Int} (hR : RC h S F) (hI : mI0 S) (hJ : mIP S) (hK : ∀ k, 0 ≤ k → k < S 1 → mT S k) (rk : -2147483648 ≤ k ∧ k < 2147483648) (rt : -2147483648 ≤ t ∧ t < 2147483648) (rq : -2147483648 ≤ q ∧ q < 2147483648) : Ex l 7 yX5_duty.cls yX5_duty.name cX5_duty 8 (some .int) 0 [some (.ref 0), some (.int (iI k)), some (.int (iI t)), some (.int (iI q)), none, none, none, none] [] h (lkP h S F (some (.int (iI (sDuty S k t q))))) := by
  obtain ⟨⟨i1, i2⟩, ⟨i3, i4⟩, i5, i6⟩ := id hI
  obtain ⟨⟨im, hX⟩, -⟩ := id hR
  have hW := hR.w
  have fr := FrS.rf h
  by_cases hk : 0 ≤ k ∧ k < S 1
  · obtain ⟨w, ht, hC, h47⟩ := hR.2.2.2 k hk.1 hk.2
    have hM := hK k hk.1 hk.2
    obtain ⟨ea, to, fro, en, ca, cb, -, hT, -⟩ := CT.op hC
    obtain ⟨tk, -⟩ := id hM
    refine ex_of (fun _ _ => ev_aload_n (pc' := 1) dX5_duty_0 rfl rfl) ?_
    refine ex_of (fun _ _ => ev_getfield (pc' := 4) fX5_12 dX5_duty_1 rfl hX rfl) ?_
    refine ex_of (fun _ _ => ev_iload_n (pc' := 5) dX5_duty_4 rfl rfl) ?_
    refine ex_of (fun _ _ => ev_callV1 (pc' := 8) kX5_137 mX4_travellerOf dX5_duty_5 rfl rfl (Nat.le_of_ble_eq_true rfl) (Nat.le_of_ble_eq_true rfl) (by decide) rfl hW (e4_travellerOf hR.nw hI hk ht)) ?_
    refine ex_of (fun _ _ => ev_astore_4 (pc' := 10) dX5_duty_8 rfl (by decide) rfl) ?_
    refine ex_of (fun _ _ => ev_aload (pc' := 12) dX5_duty_10 rfl rfl) ?_
    refine ex_of (fun _ _ => ev_ifnull (pc' := 15) dX5_duty_12 rfl) ?_
    refine ex_of (fun _ _ => ev_iload_n (pc' := 16) dX5_duty_15 rfl rfl) ?_
    refine ex_of (fun _ _ => ev_callS1 (pc' := 19) kX5_96 mX5_isMinute dX5_duty_16 rfl rfl (Nat.le_of_ble_eq_true rfl) (Nat.le_of_ble_eq_true rfl) (by decide) (e5_isMinute (by omega))) ?_
    refine ex_ifd_eq (pc' := 22) (tgt := 32) dX5_duty_19 (by decide) rfl (fun c19 => ?_) (fun c19 => ?_)
    · refine ex_of (fun _ _ => ev_iconst (pc' := 33) (iI (-1)) dX5_duty_32 rfl (by decide)) ?_
      exact ex_end (ev_iret dX5_duty_33 rfl) (by unfold sDuty; first | (rw [if_pos (by omega)]; exact ⟨rfl, fr, hR⟩) | (rw [if_neg (by omega)]; exact ⟨rfl, fr, hR⟩))
    · refine ex_of (fun _ _ => ev_iload_n (pc' := 23) dX5_duty_22 rfl rfl) ?_
      refine ex_ifI_lt (pc' := 26) (tgt := 32) dX5_duty_23 (by decide) rfl (by omega) (fun c23 => ?_) (fun c23 => ?_)
      · refine ex_of (fun _ _ => ev_iconst (pc' := 33) (iI (-1)) dX5_duty_32 rfl (by decide)) ?_
        exact ex_end (ev_iret dX5_duty_33 rfl) (by unfold sDuty; first | (rw [if_pos (by omega)]; exact ⟨rfl, fr, hR⟩) | (rw [if_neg (by omega)]; exact ⟨rfl, fr, hR⟩))
      · refine ex_of (fun _ _ => ev_iload_n (pc' := 27) dX5_duty_26 rfl rfl) ?_
        refine ex_of (fun _ _ => ev_bipush (pc' := 29) (iI (10)) dX5_duty_27 rfl (by decide)) ?_
        refine ex_icmpI_le (pc' := 32) (tgt := 34) dX5_duty_29 (by decide) rfl (by omega) (by omega) (fun c29 => ?_) (fun c29 => ?_)
        · refine ex_of (fun _ _ => ev_aload_n (pc' := 35) dX5_duty_34 rfl rfl) ?_
          refine ex_of (fun _ _ => ev_aload (pc' := 37) dX5_duty_35 rfl rfl) ?_
          refine ex_of (fun _ _ => ev_aload (pc' := 39) dX5_duty_37 rfl rfl) ?_
          refine ex_of (fun _ _ => ev_getfield (pc' := 42) fX5_124 dX5_duty_39 rfl hT rfl) ?_
          refine ex_of (fun _ _ => ev_iload_n (pc' := 43) dX5_duty_42 rfl rfl) ?_
          have hO := hX
          obtain ⟨w1, h1, E1, rfl, fr1, hR⟩ := e5_dayD (l := l) (kd := (S (143 + 45 * k + 0))) (tt := t) hR hk ht hI hJ hM (by omega) (by omega)
          refine ex_of (fun _ _ => ev_callV3 (pc' := 46) kX5_194 mX5_dayTold dX5_duty_43 rfl rfl (Nat.le_of_ble_eq_true rfl) (Nat.le_of_ble_eq_true rfl) (by decide) rfl hO E1) ?_
          have fr := fr.tr fr1
          obtain ⟨⟨im, hX⟩, -⟩ := id hR
          have hW := hR.w
          obtain ⟨ea, to, fro, en, ca, cb, -, hT, -⟩ := CT.op (hR.tr hk ht).1
          refine ex_of (fun _ _ => ev_iload_n (pc' := 47) dX5_duty_46 rfl rfl) ?_
          refine ex_of (fun _ _ => ev_iaddI (pc' := 48) dX5_duty_47 rfl) ?_
          refine ex_of (fun _ _ => ev_istore_5 (pc' := 50) dX5_duty_48 rfl (by decide) rfl) ?_
          refine ex_of (fun _ _ => ev_iload_n (pc' := 51) dX5_duty_50 rfl rfl) ?_
          refine ex_of (fun _ _ => ev_istore_6 (pc' := 53) dX5_duty_51 rfl (by decide) rfl) ?_
          refine ex_of (fun _ _ => ev_iconst (pc' := 54) (iI (0)) dX5_duty_53 rfl (by decide)) ?_
          refine ex_of (fun _ _ => ev_istore_7 (pc' := 56) dX5_duty_54 rfl (by decide) rfl) ?_
          unfold sDuty
          rw [if_pos (by omega)]
          exact ev_deepx (by decide) (e5_dutL (l := l) hk ht hI hJ hM (by omega) (by omega) 20000 t 0 _ (by omega) (by omega) (by omega) (by omega) fr hR)
        · refine ex_of (fun _ _ => ev_iconst (pc' := 33) (iI (-1)) dX5_duty_32 rfl (by decide)) ?_
          exact ex_end (ev_iret dX5_duty_33 rfl) (by unfold sDuty; first | (rw [if_pos (by omega)]; exact ⟨rfl, fr, hR⟩) | (rw [if_neg (by omega)]; exact ⟨rfl, fr, hR⟩))
  · skip
    refine ex_of (fun _ _ => ev_aload_n (pc' := 1) dX5_duty_0 rfl rfl) ?_
    refine ex_of (fun _ _ => ev_getfield (pc' := 4) fX5_12 dX5_duty_1 rfl hX rfl) ?_
    refine ex_of (fun _ _ => ev_iload_n (pc' := 5) dX5_duty_4 rfl rfl) ?_
    refine ex_of (fun _ _ => ev_callV1 (pc' := 8) kX5_137 mX4_travellerOf dX5_duty_5 rfl rfl (Nat.le_of_ble_eq_true rfl) (Nat.le_of_ble_eq_true rfl) (by decide) rfl hW (e4_travellerOf0 hR.nw hI (by omega) hk)) ?_
    refine ex_of (fun _ _ => ev_astore_4N (pc' := 10) dX5_duty_8 rfl (by decide) rfl) ?_
    refine ex_of (fun _ _ => ev_aloadN (pc' := 12) dX5_duty_10 rfl rfl) ?_
    refine ex_of (fun _ _ => ev_ifnullN (tgt := 32) dX5_duty_12 (by decide)) ?_
    refine ex_of (fun _ _ => ev_iconst (pc' := 33) (iI (-1)) dX5_duty_32 rfl (by decide)) ?_
    exact ex_end (ev_iret dX5_duty_33 rfl) (⟨by unfold sDuty; rw [if_neg (by omega)], fr, hR⟩)
end CG
