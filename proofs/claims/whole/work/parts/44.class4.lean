section CF
variable {l : Launch} {h h0 : ev_H} {S : Int → Int} {F : Nat → Option Nat} {t : Nat} {k : Int}
theorem div_bd {x q B : Int} (hq : 0 < q) (hB : 0 ≤ B) (h : -B ≤ x ∧ x ≤ B) : -B ≤ x / q ∧ x / q ≤ B := by
  have m1 : B * 1 ≤ B * q := Int.mul_le_mul_of_nonneg_left (by omega) hB
  refine ⟨(Int.le_ediv_iff_mul_le hq).mpr (by rw [Int.neg_mul]; omega), ?_⟩
  have m2 : (B + 1) * 1 ≤ (B + 1) * q := Int.mul_le_mul_of_nonneg_left (by omega) (by omega)
  have := (Int.ediv_lt_iff_lt_mul hq (a := x) (b := B + 1)).mpr (by omega)
  omega
theorem rndF_b {S : Int → Int} {ea : Int → Bool} {k m : Int} (hM : mT S k) (hm : m ≤ 100000) : -1000000000 ≤ rndF S ea k m ∧ rndF S ea k m ≤ 1000000000 := by
  obtain ⟨a, b, c, d, e, b1, b2, -, -⟩ := fw_b (ea := ea) (t := m) hM hm
  unfold rndF sRnd
  rw [e]
  exact div_bd (by dsimp only; omega) (by decide) (eN_bc b1 b2)
def dyF (S : Int → Int) (k kd m : Int) : Int := sDayAs S (mea S k) k kd m
def rdF (S : Int → Int) (k m : Int) : Int := rndF S (mea S k) k m
theorem dyF_b {S : Int → Int} {k kd m : Int} (hJ : mIP S) (hM : mT S k) (hm : -100000 ≤ m ∧ m ≤ 100000) : -1000 ≤ dyF S k kd m ∧ dyF S k kd m ≤ 1000 := sDayAs_b hJ hM hm
theorem rdF_b {S : Int → Int} {k m : Int} (hM : mT S k) (hm : m ≤ 100000) : -1000000000 ≤ rdF S k m ∧ rdF S k m ≤ 1000000000 := rndF_b hM hm
theorem e5_dayD {kd tt : Int} (hR : RC h S F) (hk : 0 ≤ k ∧ k < S 1) (ht : F k.toNat = some t) (hI : mI0 S) (hJ : mIP S) (hM : mT S k) (rt : -1 ≤ tt ∧ tt ≤ 30000) (rk : 0 ≤ kd ∧ kd ≤ 7) : Ex l 3 yX5_dayTold.cls yX5_dayTold.name cX5_dayTold 4 (some .int) 0 [some (.ref 0), some (.ref t), some (.int (iI kd)), some (.int (iI tt))] [] h (lkP h S F (some (.int (iI (dyF S k kd tt))))) := e5_dayTold hR hk ht hI hJ hM rt rk
theorem e5_rndD {tt : Int} (hR : RC h S F) (hk : 0 ≤ k ∧ k < S 1) (ht : F k.toNat = some t) (hI : mI0 S) (hJ : mIP S) (hM : mT S k) (rt : -1 ≤ tt ∧ tt ≤ 30000) : Ex l 3 yX5_roundsAt.cls yX5_roundsAt.name cX5_roundsAt 3 (some .int) 0 [some (.ref 0), some (.ref t), some (.int (iI tt))] [] h (lkP h S F (some (.int (iI (rdF S k tt))))) := e5_roundsAt hR hk ht hI hJ hM rt
theorem e5_evL {tt til : Int} (hk : 0 ≤ k ∧ k < S 1) (ht : F k.toNat = some t) (hI : mI0 S) (hJ : mIP S) (hM : mT S k) (rt : 0 ≤ tt ∧ tt ≤ 19999) (rl : til ≤ 19999 ∧ til < sNxt S k tt) : ∀ (n i : Nat) (sm ot : Int) (h : ev_H) (a8 : Option Value), i + n = 16 → tt ≤ sm → sm < ot → ot ≤ til → rdF S k sm = rdF S k tt → FrS h0 h → RC h S F → Ex l 4 yX5_evenTill.cls yX5_evenTill.name cX5_evenTill 9 (some .int) 38 [some (.ref 0), some (.ref t), some (.int (iI tt)), some (.int (iI til)), some (.int (iI (rdF S k tt))), some (.int (iI sm)), some (.int (iI ot)), some (.int (iI (i : Int))), a8] [] h (fun v h2 => ∃ r, v = some (.int (iI r)) ∧ (tt ≤ r ∧ r ≤ 19999) ∧ r < sNxt S k tt ∧ rdF S k r = rdF S k tt ∧ FrS h0 h2 ∧ RC h2 S F) := by
  intro n
  have rb := rdF_b (S := S) (k := k) (m := tt) hM (by omega)
  induction n with
  | zero =>
    intro i sm ot h a8 hi g1 g2 g3 g4 fr hR
    refine ex_of (fun _ _ => ev_iload (pc' := 40) dX5_evenTill_38 rfl rfl) ?_
    refine ex_of (fun _ _ => ev_bipush (pc' := 42) (iI (16)) dX5_evenTill_40 rfl (by decide)) ?_
    refine ex_icmpI_ge (pc' := 45) (tgt := 92) dX5_evenTill_42 (by decide) rfl (by omega) (by omega) (fun c42 => ?_) (fun c42 => ?_)
    · refine ex_of (fun _ _ => ev_iload (pc' := 94) dX5_evenTill_92 rfl rfl) ?_
      exact ex_end (ev_iret dX5_evenTill_94 rfl) (⟨sm, rfl, by omega, by omega, g4, fr, hR⟩)
    · omega
  | succ n ih =>
    intro i sm ot h a8 hi g1 g2 g3 g4 fr hR
    obtain ⟨⟨im, hX⟩, -⟩ := id hR
    have rm := rdF_b (S := S) (k := k) (m := (sm + ot) / 2) hM (by omega)
    refine ex_of (fun _ _ => ev_iload (pc' := 40) dX5_evenTill_38 rfl rfl) ?_
    refine ex_of (fun _ _ => ev_bipush (pc' := 42) (iI (16)) dX5_evenTill_40 rfl (by decide)) ?_
    refine ex_icmpI_ge (pc' := 45) (tgt := 92) dX5_evenTill_42 (by decide) rfl (by omega) (by omega) (fun c42 => ?_) (fun c42 => ?_)
    · omega
    · refine ex_of (fun _ _ => ev_iload (pc' := 47) dX5_evenTill_45 rfl rfl) ?_
      refine ex_of (fun _ _ => ev_iload (pc' := 49) dX5_evenTill_47 rfl rfl) ?_
      refine ex_of (fun _ _ => ev_isubI (pc' := 50) dX5_evenTill_49 rfl) ?_
      refine ex_of (fun _ _ => ev_iconst (pc' := 51) (iI (1)) dX5_evenTill_50 rfl (by decide)) ?_
      refine ex_icmpI_le (pc' := 54) (tgt := 92) dX5_evenTill_51 (by decide) rfl (by omega) (by omega) (fun c51 => ?_) (fun c51 => ?_)
      · refine ex_of (fun _ _ => ev_iload (pc' := 94) dX5_evenTill_92 rfl rfl) ?_
        exact ex_end (ev_iret dX5_evenTill_94 rfl) (⟨sm, rfl, by omega, by omega, g4, fr, hR⟩)
      · refine ex_of (fun _ _ => ev_iload (pc' := 56) dX5_evenTill_54 rfl rfl) ?_
        refine ex_of (fun _ _ => ev_iload (pc' := 58) dX5_evenTill_56 rfl rfl) ?_
        refine ex_of (fun _ _ => ev_iaddI (pc' := 59) dX5_evenTill_58 rfl) ?_
        refine ex_of (fun _ _ => ev_iconst (pc' := 60) (iI (2)) dX5_evenTill_59 rfl (by decide)) ?_
        refine ex_of (fun _ _ => ev_idivI (pc' := 61) dX5_evenTill_60 rfl (by omega) (by omega) (by omega)) ?_
        rw [Int.tdiv_eq_ediv_of_nonneg (by omega)]
        refine ex_of (fun _ _ => ev_istore_8 (pc' := 63) dX5_evenTill_61 rfl (by decide) rfl) ?_
        refine ex_of (fun _ _ => ev_aload_n (pc' := 64) dX5_evenTill_63 rfl rfl) ?_
        refine ex_of (fun _ _ => ev_aload_n (pc' := 65) dX5_evenTill_64 rfl rfl) ?_
        refine ex_of (fun _ _ => ev_iload (pc' := 67) dX5_evenTill_65 rfl rfl) ?_
        have hO := hX
        obtain ⟨w1, h1, E1, rfl, fr1, hR⟩ := e5_rndD (l := l) (tt := (sm + ot) / 2) hR hk ht hI hJ hM (by omega)
        refine ex_of (fun _ _ => ev_callV2 (pc' := 70) kX5_239 mX5_roundsAt dX5_evenTill_67 rfl rfl (Nat.le_of_ble_eq_true rfl) (Nat.le_of_ble_eq_true rfl) (by decide) rfl hO E1) ?_
        have fr := fr.tr fr1
        obtain ⟨⟨im, hX⟩, -⟩ := id hR
        refine ex_of (fun _ _ => ev_iload (pc' := 72) dX5_evenTill_70 rfl rfl) ?_
        refine ex_icmpI_ne (pc' := 75) (tgt := 82) dX5_evenTill_72 (by decide) rfl (by omega) (by omega) (fun c72 => ?_) (fun c72 => ?_)
        · refine ex_of (fun _ _ => ev_iload (pc' := 84) dX5_evenTill_82 rfl rfl) ?_
          refine ex_of (fun _ _ => ev_istore_6 (pc' := 86) dX5_evenTill_84 rfl (by decide) rfl) ?_
          refine ex_of (fun _ _ => ev_iincI_7 (pc' := 89) dX5_evenTill_86 rfl (by decide) rfl) ?_
          refine ex_of (fun _ _ => ev_goto (tgt := 38) dX5_evenTill_89 (by decide)) ?_
          first
          | exact ih (i + 1) ((sm + ot) / 2) ot _ _ (by omega) (by omega) (by omega) g3 c72 fr hR
          | exact ih (i + 1) sm ((sm + ot) / 2) _ _ (by omega) g1 (by omega) (by omega) g4 fr hR
        · refine ex_of (fun _ _ => ev_iload (pc' := 77) dX5_evenTill_75 rfl rfl) ?_
          refine ex_of (fun _ _ => ev_istore_5 (pc' := 79) dX5_evenTill_77 rfl (by decide) rfl) ?_
          refine ex_of (fun _ _ => ev_goto (tgt := 86) dX5_evenTill_79 (by decide)) ?_
          refine ex_of (fun _ _ => ev_iincI_7 (pc' := 89) dX5_evenTill_86 rfl (by decide) rfl) ?_
          refine ex_of (fun _ _ => ev_goto (tgt := 38) dX5_evenTill_89 (by decide)) ?_
          first
          | exact ih (i + 1) ((sm + ot) / 2) ot _ _ (by omega) (by omega) (by omega) g3 c72 fr hR
          | exact ih (i + 1) sm ((sm + ot) / 2) _ _ (by omega) g1 (by omega) (by omega) g4 fr hR
theorem e5_evenTill {tt : Int} (hR : RC h0 S F) (hk : 0 ≤ k ∧ k < S 1) (ht : F k.toNat = some t) (hI : mI0 S) (hJ : mIP S) (hM : mT S k) (rt : 0 ≤ tt ∧ tt ≤ 19999) : Ex l 4 yX5_evenTill.cls yX5_evenTill.name cX5_evenTill 9 (some .int) 0 [some (.ref 0), some (.ref t), some (.int (iI tt)), none, none, none, none, none, none] [] h0 (fun v h2 => ∃ r, v = some (.int (iI r)) ∧ (tt ≤ r ∧ r ≤ 19999) ∧ r < sNxt S k tt ∧ rdF S k r = rdF S k tt ∧ FrS h0 h2 ∧ RC h2 S F) := by
  have fr := FrS.rf h0
  obtain ⟨⟨im, hX⟩, -⟩ := id hR
  obtain ⟨hC, h47⟩ := hR.tr hk ht
  obtain ⟨ea, to, fro, en, ca, cb, -, hT, -⟩ := CT.op hC
  have nb := nxC_b (S := S) (k := k) (t := tt) (by omega) (S (143 + 45 * k + 28)).toNat
  have ne : sNxt S k tt = nxC S k tt (S (143 + 45 * k + 28)).toNat := rfl
  have rb := rdF_b (S := S) (k := k) (m := tt) hM (by omega)
  have rb2 := rdF_b (S := S) (k := k) (m := sNxt S k tt - 1) hM (by omega)
  refine ex_of (fun _ _ => ev_aload_n (pc' := 1) dX5_evenTill_0 rfl rfl) ?_
  refine ex_of (fun _ _ => ev_iload_n (pc' := 2) dX5_evenTill_1 rfl rfl) ?_
  refine ex_of (fun _ _ => ev_callV1 (pc' := 5) kX5_406 mX3_nextEvent dX5_evenTill_2 rfl rfl (Nat.le_of_ble_eq_true rfl) (Nat.le_of_ble_eq_true rfl) (by decide) rfl hT (e3_nextEvent hC hM (by omega))) ?_
  refine ex_of (fun _ _ => ev_iconst (pc' := 6) (iI (1)) dX5_evenTill_5 rfl (by decide)) ?_
  refine ex_of (fun _ _ => ev_isubI (pc' := 7) dX5_evenTill_6 rfl) ?_
  refine ex_of (fun _ _ => ev_istore_3 (pc' := 8) dX5_evenTill_7 rfl (by decide) rfl) ?_
  refine ex_of (fun _ _ => ev_aload_n (pc' := 9) dX5_evenTill_8 rfl rfl) ?_
  refine ex_of (fun _ _ => ev_aload_n (pc' := 10) dX5_evenTill_9 rfl rfl) ?_
  refine ex_of (fun _ _ => ev_iload_n (pc' := 11) dX5_evenTill_10 rfl rfl) ?_
  have hO := hX
  obtain ⟨w1, h1, E1, rfl, fr1, hR⟩ := e5_rndD (l := l) (tt := tt) hR hk ht hI hJ hM (by omega)
  refine ex_of (fun _ _ => ev_callV2 (pc' := 14) kX5_239 mX5_roundsAt dX5_evenTill_11 rfl rfl (Nat.le_of_ble_eq_true rfl) (Nat.le_of_ble_eq_true rfl) (by decide) rfl hO E1) ?_
  have fr := fr.tr fr1
  obtain ⟨⟨im, hX⟩, -⟩ := id hR
  refine ex_of (fun _ _ => ev_istore_4 (pc' := 16) dX5_evenTill_14 rfl (by decide) rfl) ?_
  refine ex_of (fun _ _ => ev_aload_n (pc' := 17) dX5_evenTill_16 rfl rfl) ?_
  refine ex_of (fun _ _ => ev_aload_n (pc' := 18) dX5_evenTill_17 rfl rfl) ?_
  refine ex_of (fun _ _ => ev_iload_n (pc' := 19) dX5_evenTill_18 rfl rfl) ?_
  have hO := hX
  obtain ⟨w1, h1, E1, rfl, fr2, hR⟩ := e5_rndD (l := l) (tt := sNxt S k tt - 1) hR hk ht hI hJ hM (by omega)
  refine ex_of (fun _ _ => ev_callV2 (pc' := 22) kX5_239 mX5_roundsAt dX5_evenTill_19 rfl rfl (Nat.le_of_ble_eq_true rfl) (Nat.le_of_ble_eq_true rfl) (by decide) rfl hO E1) ?_
  have fr := fr.tr fr2
  obtain ⟨⟨im, hX⟩, -⟩ := id hR
  refine ex_of (fun _ _ => ev_iload (pc' := 24) dX5_evenTill_22 rfl rfl) ?_
  refine ex_icmpI_ne (pc' := 27) (tgt := 29) dX5_evenTill_24 (by decide) rfl (by omega) (by omega) (fun c24 => ?_) (fun c24 => ?_)
  · refine ex_of (fun _ _ => ev_iload_n (pc' := 30) dX5_evenTill_29 rfl rfl) ?_
    refine ex_of (fun _ _ => ev_istore_5 (pc' := 32) dX5_evenTill_30 rfl (by decide) rfl) ?_
    refine ex_of (fun _ _ => ev_iload_n (pc' := 33) dX5_evenTill_32 rfl rfl) ?_
    refine ex_of (fun _ _ => ev_istore_6 (pc' := 35) dX5_evenTill_33 rfl (by decide) rfl) ?_
    refine ex_of (fun _ _ => ev_iconst (pc' := 36) (iI (0)) dX5_evenTill_35 rfl (by decide)) ?_
    refine ex_of (fun _ _ => ev_istore_7 (pc' := 38) dX5_evenTill_36 rfl (by decide) rfl) ?_
    have lt : tt < sNxt S k tt - 1 := by
      by_cases q : tt < sNxt S k tt - 1
      · exact q
      · exact absurd (show rdF S k (sNxt S k tt - 1) = rdF S k tt by rw [show sNxt S k tt - 1 = tt by omega]) c24
    exact e5_evL hk ht hI hJ hM rt (by omega) 16 0 tt (sNxt S k tt - 1) _ none (by omega) (by omega) lt (by omega) rfl fr hR
  · refine ex_of (fun _ _ => ev_iload_n (pc' := 28) dX5_evenTill_27 rfl rfl) ?_
    exact ex_end (ev_iret dX5_evenTill_28 rfl) (⟨sNxt S k tt - 1, rfl, by omega, by omega, c24, fr, hR⟩)
theorem e5_foL {a b kd : Int} (hk : 0 ≤ k ∧ k < S 1) (ht : F k.toNat = some t) (hI : mI0 S) (hJ : mIP S) (hM : mT S k) (rk : 0 ≤ kd ∧ kd ≤ 7) (ra : 0 ≤ a ∧ b ≤ 19999) : ∀ (n i : Nat) (sm ot : Int) (h : ev_H) (a9 : Option Value), i + n = 16 → a ≤ sm → sm < ot → ot ≤ b → ot - sm ≤ (2 ^ n : Nat) → dyF S k kd sm = dyF S k kd a → dyF S k kd ot ≠ dyF S k kd a → FrS h0 h → RC h S F → Ex l 4 yX5_firstOther.cls yX5_firstOther.name cX5_firstOther 10 (some .int) 19 [some (.ref 0), some (.ref t), some (.int (iI kd)), some (.int (iI a)), some (.int (iI b)), some (.int (iI (dyF S k kd a))), some (.int (iI sm)), some (.int (iI ot)), some (.int (iI (i : Int))), a9] [] h (fun v h2 => ∃ r, v = some (.int (iI r)) ∧ (a < r ∧ r ≤ b) ∧ dyF S k kd r ≠ dyF S k kd a ∧ dyF S k kd (r - 1) = dyF S k kd a ∧ FrS h0 h2 ∧ RC h2 S F) := by
  intro n
  induction n with
  | zero =>
    intro i sm ot h a9 hi g1 g2 g3 hw g4 g5 fr hR
    rw [show ((2 ^ 0 : Nat) : Int) = 1 from rfl] at hw
    refine ex_of (fun _ _ => ev_iload (pc' := 21) dX5_firstOther_19 rfl rfl) ?_
    refine ex_of (fun _ _ => ev_bipush (pc' := 23) (iI (16)) dX5_firstOther_21 rfl (by decide)) ?_
    refine ex_icmpI_ge (pc' := 26) (tgt := 74) dX5_firstOther_23 (by decide) rfl (by omega) (by omega) (fun c23 => ?_) (fun c23 => ?_)
    · refine ex_of (fun _ _ => ev_iload (pc' := 76) dX5_firstOther_74 rfl rfl) ?_
      exact ex_end (ev_iret dX5_firstOther_76 rfl) (⟨ot, rfl, by omega, g5, by rw [show ot - 1 = sm by omega]; exact g4, fr, hR⟩)
    · omega
  | succ n ih =>
    intro i sm ot h a9 hi g1 g2 g3 hw g4 g5 fr hR
    rw [Nat.pow_succ] at hw
    obtain ⟨⟨im, hX⟩, -⟩ := id hR
    have rb := dyF_b (S := S) (k := k) (kd := kd) (m := a) hJ hM (by omega)
    have rm := dyF_b (S := S) (k := k) (kd := kd) (m := (sm + ot) / 2) hJ hM (by omega)
    refine ex_of (fun _ _ => ev_iload (pc' := 21) dX5_firstOther_19 rfl rfl) ?_
    refine ex_of (fun _ _ => ev_bipush (pc' := 23) (iI (16)) dX5_firstOther_21 rfl (by decide)) ?_
    refine ex_icmpI_ge (pc' := 26) (tgt := 74) dX5_firstOther_23 (by decide) rfl (by omega) (by omega) (fun c23 => ?_) (fun c23 => ?_)
    · omega
    · refine ex_of (fun _ _ => ev_iload (pc' := 28) dX5_firstOther_26 rfl rfl) ?_
      refine ex_of (fun _ _ => ev_iload (pc' := 30) dX5_firstOther_28 rfl rfl) ?_
      refine ex_of (fun _ _ => ev_isubI (pc' := 31) dX5_firstOther_30 rfl) ?_
      refine ex_of (fun _ _ => ev_iconst (pc' := 32) (iI (1)) dX5_firstOther_31 rfl (by decide)) ?_
      refine ex_icmpI_le (pc' := 35) (tgt := 74) dX5_firstOther_32 (by decide) rfl (by omega) (by omega) (fun c32 => ?_) (fun c32 => ?_)
      · refine ex_of (fun _ _ => ev_iload (pc' := 76) dX5_firstOther_74 rfl rfl) ?_
        exact ex_end (ev_iret dX5_firstOther_76 rfl) (⟨ot, rfl, by omega, g5, by rw [show ot - 1 = sm by omega]; exact g4, fr, hR⟩)
      · refine ex_of (fun _ _ => ev_iload (pc' := 37) dX5_firstOther_35 rfl rfl) ?_
        refine ex_of (fun _ _ => ev_iload (pc' := 39) dX5_firstOther_37 rfl rfl) ?_
        refine ex_of (fun _ _ => ev_iaddI (pc' := 40) dX5_firstOther_39 rfl) ?_
        refine ex_of (fun _ _ => ev_iconst (pc' := 41) (iI (2)) dX5_firstOther_40 rfl (by decide)) ?_
        refine ex_of (fun _ _ => ev_idivI (pc' := 42) dX5_firstOther_41 rfl (by omega) (by omega) (by omega)) ?_
        rw [Int.tdiv_eq_ediv_of_nonneg (by omega)]
        refine ex_of (fun _ _ => ev_istore_9 (pc' := 44) dX5_firstOther_42 rfl (by decide) rfl) ?_
        refine ex_of (fun _ _ => ev_aload_n (pc' := 45) dX5_firstOther_44 rfl rfl) ?_
        refine ex_of (fun _ _ => ev_aload_n (pc' := 46) dX5_firstOther_45 rfl rfl) ?_
        refine ex_of (fun _ _ => ev_iload_n (pc' := 47) dX5_firstOther_46 rfl rfl) ?_
        refine ex_of (fun _ _ => ev_iload (pc' := 49) dX5_firstOther_47 rfl rfl) ?_
        have hO := hX
        obtain ⟨w1, h1, E1, rfl, fr1, hR⟩ := e5_dayD (l := l) (kd := kd) (tt := (sm + ot) / 2) hR hk ht hI hJ hM (by omega) rk
        refine ex_of (fun _ _ => ev_callV3 (pc' := 52) kX5_194 mX5_dayTold dX5_firstOther_49 rfl rfl (Nat.le_of_ble_eq_true rfl) (Nat.le_of_ble_eq_true rfl) (by decide) rfl hO E1) ?_
        have fr := fr.tr fr1
        obtain ⟨⟨im, hX⟩, -⟩ := id hR
        refine ex_of (fun _ _ => ev_iload (pc' := 54) dX5_firstOther_52 rfl rfl) ?_
        refine ex_icmpI_ne (pc' := 57) (tgt := 64) dX5_firstOther_54 (by decide) rfl (by omega) (by omega) (fun c54 => ?_) (fun c54 => ?_)
        · refine ex_of (fun _ _ => ev_iload (pc' := 66) dX5_firstOther_64 rfl rfl) ?_
          refine ex_of (fun _ _ => ev_istore_7 (pc' := 68) dX5_firstOther_66 rfl (by decide) rfl) ?_
          refine ex_of (fun _ _ => ev_iincI_8 (pc' := 71) dX5_firstOther_68 rfl (by decide) rfl) ?_
          refine ex_of (fun _ _ => ev_goto (tgt := 19) dX5_firstOther_71 (by decide)) ?_
          first
          | exact ih (i + 1) ((sm + ot) / 2) ot _ _ (by omega) (by omega) (by omega) g3 (by omega) c54 g5 fr hR
          | exact ih (i + 1) sm ((sm + ot) / 2) _ _ (by omega) g1 (by omega) (by omega) (by omega) g4 c54 fr hR
        · refine ex_of (fun _ _ => ev_iload (pc' := 59) dX5_firstOther_57 rfl rfl) ?_
          refine ex_of (fun _ _ => ev_istore_6 (pc' := 61) dX5_firstOther_59 rfl (by decide) rfl) ?_
          refine ex_of (fun _ _ => ev_goto (tgt := 68) dX5_firstOther_61 (by decide)) ?_
          refine ex_of (fun _ _ => ev_iincI_8 (pc' := 71) dX5_firstOther_68 rfl (by decide) rfl) ?_
          refine ex_of (fun _ _ => ev_goto (tgt := 19) dX5_firstOther_71 (by decide)) ?_
          first
          | exact ih (i + 1) ((sm + ot) / 2) ot _ _ (by omega) (by omega) (by omega) g3 (by omega) c54 g5 fr hR
          | exact ih (i + 1) sm ((sm + ot) / 2) _ _ (by omega) g1 (by omega) (by omega) (by omega) g4 c54 fr hR
theorem e5_firstOther {a b kd : Int} (hR : RC h0 S F) (hk : 0 ≤ k ∧ k < S 1) (ht : F k.toNat = some t) (hI : mI0 S) (hJ : mIP S) (hM : mT S k) (rk : 0 ≤ kd ∧ kd ≤ 7) (ra : 0 ≤ a ∧ a ≤ b ∧ b ≤ 19999) (hne : dyF S k kd b ≠ dyF S k kd a) : Ex l 4 yX5_firstOther.cls yX5_firstOther.name cX5_firstOther 10 (some .int) 0 [some (.ref 0), some (.ref t), some (.int (iI kd)), some (.int (iI a)), some (.int (iI b)), none, none, none, none, none] [] h0 (fun v h2 => ∃ r, v = some (.int (iI r)) ∧ (a < r ∧ r ≤ b) ∧ dyF S k kd r ≠ dyF S k kd a ∧ dyF S k kd (r - 1) = dyF S k kd a ∧ FrS h0 h2 ∧ RC h2 S F) := by
  have fr := FrS.rf h0
  obtain ⟨⟨im, hX⟩, -⟩ := id hR
  have lt : a < b := by
    by_cases q : a < b
    · exact q
    · exact absurd (show dyF S k kd b = dyF S k kd a by rw [show b = a by omega]) hne
  refine ex_of (fun _ _ => ev_aload_n (pc' := 1) dX5_firstOther_0 rfl rfl) ?_
  refine ex_of (fun _ _ => ev_aload_n (pc' := 2) dX5_firstOther_1 rfl rfl) ?_
  refine ex_of (fun _ _ => ev_iload_n (pc' := 3) dX5_firstOther_2 rfl rfl) ?_
  refine ex_of (fun _ _ => ev_iload_n (pc' := 4) dX5_firstOther_3 rfl rfl) ?_
  have hO := hX
  obtain ⟨w1, h1, E1, rfl, fr1, hR⟩ := e5_dayD (l := l) (kd := kd) (tt := a) hR hk ht hI hJ hM (by omega) rk
  refine ex_of (fun _ _ => ev_callV3 (pc' := 7) kX5_194 mX5_dayTold dX5_firstOther_4 rfl rfl (Nat.le_of_ble_eq_true rfl) (Nat.le_of_ble_eq_true rfl) (by decide) rfl hO E1) ?_
  have fr := fr.tr fr1
  obtain ⟨⟨im, hX⟩, -⟩ := id hR
  refine ex_of (fun _ _ => ev_istore_5 (pc' := 9) dX5_firstOther_7 rfl (by decide) rfl) ?_
  refine ex_of (fun _ _ => ev_iload_n (pc' := 10) dX5_firstOther_9 rfl rfl) ?_
  refine ex_of (fun _ _ => ev_istore_6 (pc' := 12) dX5_firstOther_10 rfl (by decide) rfl) ?_
  refine ex_of (fun _ _ => ev_iload (pc' := 14) dX5_firstOther_12 rfl rfl) ?_
  refine ex_of (fun _ _ => ev_istore_7 (pc' := 16) dX5_firstOther_14 rfl (by decide) rfl) ?_
  refine ex_of (fun _ _ => ev_iconst (pc' := 17) (iI (0)) dX5_firstOther_16 rfl (by decide)) ?_
  refine ex_of (fun _ _ => ev_istore_8 (pc' := 19) dX5_firstOther_17 rfl (by decide) rfl) ?_
  exact e5_foL hk ht hI hJ hM rk (by omega) 16 0 a b _ none (by omega) (by omega) lt (by omega) (by rw [show ((2 ^ 16 : Nat) : Int) = 65536 from rfl]; omega) rfl hne fr hR
/-- r is the first minute behind t with another day; 20000 if none -/
def NC (D : Int → Int) (t r : Int) : Prop := (t < r ∧ r ≤ 20000) ∧ (∀ m, t ≤ m → m < r → D m = D t) ∧ (r ≤ 19999 → D r ≠ D t)
theorem e5_ncL {tt kd : Int} (hk : 0 ≤ k ∧ k < S 1) (ht : F k.toNat = some t) (hI : mI0 S) (hJ : mIP S) (hM : mT S k) (rk : 0 ≤ kd ∧ kd ≤ 7) (rt : 0 ≤ tt ∧ tt ≤ 19999) : ∀ (n : Nat) (i : Nat) (at1 : Int) (h : ev_H) (a7 : Option Value), 20000 - at1 ≤ n → at1 ≤ 20000 → tt ≤ at1 → i ≤ at1 - tt → (∀ m, tt ≤ m → m ≤ at1 → m ≤ 19999 → dyF S k kd m = dyF S k kd tt) → FrS h0 h → RC h S F → Ex l 5 yX5_nextChange.cls yX5_nextChange.name cX5_nextChange 8 (some .int) 15 [some (.ref 0), some (.ref t), some (.int (iI kd)), some (.int (iI tt)), some (.int (iI (dyF S k kd tt))), some (.int (iI at1)), some (.int (iI (i : Int))), a7] [] h (fun v h2 => ∃ r, v = some (.int (iI r)) ∧ NC (dyF S k kd) tt r ∧ FrS h0 h2 ∧ RC h2 S F) := by
  intro n
  have rb := dyF_b (S := S) (k := k) (kd := kd) (m := tt) hJ hM (by omega)
  induction n with
  | zero =>
    intro i at1 h a7 hn g1 g2 g3 g4 fr hR
    refine ex_of (fun _ _ => ev_iload (pc' := 17) dX5_nextChange_15 rfl rfl) ?_
    refine ex_of (fun _ _ => ev_sipush (pc' := 20) (iI (19999)) dX5_nextChange_17 rfl (by decide)) ?_
    refine ex_icmpI_gt (pc' := 23) (tgt := 100) dX5_nextChange_20 (by decide) rfl (by omega) (by omega) (fun c20 => ?_) (fun c20 => ?_)
    · refine ex_of (fun _ _ => ev_sipush (pc' := 103) (iI (20000)) dX5_nextChange_100 rfl (by decide)) ?_
      exact ex_end (ev_iret dX5_nextChange_103 rfl) (⟨20000, rfl, ⟨by omega, fun m m1 m2 => g4 m m1 (by omega) (by omega), fun q => absurd q (by decide)⟩, fr, hR⟩)
    · skip
      refine ex_of (fun _ _ => ev_iload (pc' := 25) dX5_nextChange_23 rfl rfl) ?_
      refine ex_of (fun _ _ => ev_sipush (pc' := 28) (iI (19999)) dX5_nextChange_25 rfl (by decide)) ?_
      refine ex_icmpI_gt (pc' := 31) (tgt := 100) dX5_nextChange_28 (by decide) rfl (by omega) (by omega) (fun c28 => ?_) (fun c28 => ?_)
      · refine ex_of (fun _ _ => ev_sipush (pc' := 103) (iI (20000)) dX5_nextChange_100 rfl (by decide)) ?_
        exact ex_end (ev_iret dX5_nextChange_103 rfl) (⟨20000, rfl, ⟨by omega, fun m m1 m2 => g4 m m1 (by omega) (by omega), fun q => absurd q (by decide)⟩, fr, hR⟩)
      · omega
  | succ n ih =>
    intro i at1 h a7 hn g1 g2 g3 g4 fr hR
    obtain ⟨⟨im, hX⟩, -⟩ := id hR
    refine ex_of (fun _ _ => ev_iload (pc' := 17) dX5_nextChange_15 rfl rfl) ?_
    refine ex_of (fun _ _ => ev_sipush (pc' := 20) (iI (19999)) dX5_nextChange_17 rfl (by decide)) ?_
    refine ex_icmpI_gt (pc' := 23) (tgt := 100) dX5_nextChange_20 (by decide) rfl (by omega) (by omega) (fun c20 => ?_) (fun c20 => ?_)
    · refine ex_of (fun _ _ => ev_sipush (pc' := 103) (iI (20000)) dX5_nextChange_100 rfl (by decide)) ?_
      exact ex_end (ev_iret dX5_nextChange_103 rfl) (⟨20000, rfl, ⟨by omega, fun m m1 m2 => g4 m m1 (by omega) (by omega), fun q => absurd q (by decide)⟩, fr, hR⟩)
    · refine ex_of (fun _ _ => ev_iload (pc' := 25) dX5_nextChange_23 rfl rfl) ?_
      refine ex_of (fun _ _ => ev_sipush (pc' := 28) (iI (19999)) dX5_nextChange_25 rfl (by decide)) ?_
      refine ex_icmpI_gt (pc' := 31) (tgt := 100) dX5_nextChange_28 (by decide) rfl (by omega) (by omega) (fun c28 => ?_) (fun c28 => ?_)
      · refine ex_of (fun _ _ => ev_sipush (pc' := 103) (iI (20000)) dX5_nextChange_100 rfl (by decide)) ?_
        exact ex_end (ev_iret dX5_nextChange_103 rfl) (⟨20000, rfl, ⟨by omega, fun m m1 m2 => g4 m m1 (by omega) (by omega), fun q => absurd q (by decide)⟩, fr, hR⟩)
      · refine ex_of (fun _ _ => ev_aload_n (pc' := 32) dX5_nextChange_31 rfl rfl) ?_
        refine ex_of (fun _ _ => ev_aload_n (pc' := 33) dX5_nextChange_32 rfl rfl) ?_
        refine ex_of (fun _ _ => ev_iload (pc' := 35) dX5_nextChange_33 rfl rfl) ?_
        have hO := hX
        obtain ⟨w1, h1, E1, til, rfl, rl1, rl2, rl3, fr1, hR⟩ := e5_evenTill (l := l) (tt := at1) hR hk ht hI hJ hM (by omega)
        refine ex_of (fun _ _ => ev_callV2 (pc' := 38) kX5_399 mX5_evenTill dX5_nextChange_35 rfl rfl (Nat.le_of_ble_eq_true rfl) (Nat.le_of_ble_eq_true rfl) (by decide) rfl hO E1) ?_
        have fr := fr.tr fr1
        obtain ⟨⟨im, hX⟩, -⟩ := id hR
        have ed : dyF S k kd at1 = dyF S k kd tt := g4 at1 (by omega) (by omega) (by omega)
        have rs := (rnd_mn (ea := mea S k) (a := at1) (b := til) hM rl2).sq rl3.symm
        have mn := day_mn (ea := mea S k) (kd := kd) (a := at1) (b := til) hM rl2 rs
        have rl := dyF_b (S := S) (k := k) (kd := kd) (m := til) hJ hM (by omega)
        refine ex_of (fun _ _ => ev_istore_7 (pc' := 40) dX5_nextChange_38 rfl (by decide) rfl) ?_
        refine ex_of (fun _ _ => ev_aload_n (pc' := 41) dX5_nextChange_40 rfl rfl) ?_
        refine ex_of (fun _ _ => ev_aload_n (pc' := 42) dX5_nextChange_41 rfl rfl) ?_
        refine ex_of (fun _ _ => ev_iload_n (pc' := 43) dX5_nextChange_42 rfl rfl) ?_
        refine ex_of (fun _ _ => ev_iload (pc' := 45) dX5_nextChange_43 rfl rfl) ?_
        have hO := hX
        obtain ⟨w1, h1, E1, rfl, fr2, hR⟩ := e5_dayD (l := l) (kd := kd) (tt := til) hR hk ht hI hJ hM (by omega) rk
        refine ex_of (fun _ _ => ev_callV3 (pc' := 48) kX5_194 mX5_dayTold dX5_nextChange_45 rfl rfl (Nat.le_of_ble_eq_true rfl) (Nat.le_of_ble_eq_true rfl) (by decide) rfl hO E1) ?_
        have fr := fr.tr fr2
        obtain ⟨⟨im, hX⟩, -⟩ := id hR
        refine ex_of (fun _ _ => ev_iload (pc' := 50) dX5_nextChange_48 rfl rfl) ?_
        refine ex_icmpI_eq (pc' := 53) (tgt := 64) dX5_nextChange_50 (by decide) rfl (by omega) (by omega) (fun c50 => ?_) (fun c50 => ?_)
        · have al : ∀ m, tt ≤ m → m ≤ til → dyF S k kd m = dyF S k kd tt := fun m m1 m2 => by
            by_cases q : m ≤ at1
            · exact g4 m m1 q (by omega)
            · exact (mn.sq (show dyF S k kd at1 = dyF S k kd til by omega) m (by omega) m2).trans ed
          have r2 := dyF_b (S := S) (k := k) (kd := kd) (m := til + 1) hJ hM (by omega)
          refine ex_of (fun _ _ => ev_iload (pc' := 66) dX5_nextChange_64 rfl rfl) ?_
          refine ex_of (fun _ _ => ev_iconst (pc' := 67) (iI (1)) dX5_nextChange_66 rfl (by decide)) ?_
          refine ex_of (fun _ _ => ev_iaddI (pc' := 68) dX5_nextChange_67 rfl) ?_
          refine ex_of (fun _ _ => ev_istore_5 (pc' := 70) dX5_nextChange_68 rfl (by decide) rfl) ?_
          refine ex_of (fun _ _ => ev_iload (pc' := 72) dX5_nextChange_70 rfl rfl) ?_
          refine ex_of (fun _ _ => ev_sipush (pc' := 75) (iI (19999)) dX5_nextChange_72 rfl (by decide)) ?_
          refine ex_icmpI_gt (pc' := 78) (tgt := 94) dX5_nextChange_75 (by decide) rfl (by omega) (by omega) (fun c75 => ?_) (fun c75 => ?_)
          · refine ex_of (fun _ _ => ev_iincI_6 (pc' := 97) dX5_nextChange_94 rfl (by decide) rfl) ?_
            refine ex_of (fun _ _ => ev_goto (tgt := 15) dX5_nextChange_97 (by decide)) ?_
            refine ih (i + 1) (til + 1) _ _ (by omega) (by omega) (by omega) (by omega) (fun m m1 m2 m3 => ?_) fr hR
            by_cases q : m ≤ til
            · exact al m m1 q
            · first
              | omega
              | (rw [show m = til + 1 by omega]; exact c88)
          · refine ex_of (fun _ _ => ev_aload_n (pc' := 79) dX5_nextChange_78 rfl rfl) ?_
            refine ex_of (fun _ _ => ev_aload_n (pc' := 80) dX5_nextChange_79 rfl rfl) ?_
            refine ex_of (fun _ _ => ev_iload_n (pc' := 81) dX5_nextChange_80 rfl rfl) ?_
            refine ex_of (fun _ _ => ev_iload (pc' := 83) dX5_nextChange_81 rfl rfl) ?_
            have hO := hX
            obtain ⟨w1, h1, E1, rfl, fr3, hR⟩ := e5_dayD (l := l) (kd := kd) (tt := til + 1) hR hk ht hI hJ hM (by omega) rk
            refine ex_of (fun _ _ => ev_callV3 (pc' := 86) kX5_194 mX5_dayTold dX5_nextChange_83 rfl rfl (Nat.le_of_ble_eq_true rfl) (Nat.le_of_ble_eq_true rfl) (by decide) rfl hO E1) ?_
            have fr := fr.tr fr3
            obtain ⟨⟨im, hX⟩, -⟩ := id hR
            refine ex_of (fun _ _ => ev_iload (pc' := 88) dX5_nextChange_86 rfl rfl) ?_
            refine ex_icmpI_eq (pc' := 91) (tgt := 94) dX5_nextChange_88 (by decide) rfl (by omega) (by omega) (fun c88 => ?_) (fun c88 => ?_)
            · refine ex_of (fun _ _ => ev_iincI_6 (pc' := 97) dX5_nextChange_94 rfl (by decide) rfl) ?_
              refine ex_of (fun _ _ => ev_goto (tgt := 15) dX5_nextChange_97 (by decide)) ?_
              refine ih (i + 1) (til + 1) _ _ (by omega) (by omega) (by omega) (by omega) (fun m m1 m2 m3 => ?_) fr hR
              by_cases q : m ≤ til
              · exact al m m1 q
              · first
                | omega
                | (rw [show m = til + 1 by omega]; exact c88)
            · refine ex_of (fun _ _ => ev_iload (pc' := 93) dX5_nextChange_91 rfl rfl) ?_
              exact ex_end (ev_iret dX5_nextChange_93 rfl) (⟨til + 1, rfl, ⟨by omega, fun m m1 m2 => al m m1 (by omega), fun _ => c88⟩, fr, hR⟩)
        · refine ex_of (fun _ _ => ev_aload_n (pc' := 54) dX5_nextChange_53 rfl rfl) ?_
          refine ex_of (fun _ _ => ev_aload_n (pc' := 55) dX5_nextChange_54 rfl rfl) ?_
          refine ex_of (fun _ _ => ev_iload_n (pc' := 56) dX5_nextChange_55 rfl rfl) ?_
          refine ex_of (fun _ _ => ev_iload (pc' := 58) dX5_nextChange_56 rfl rfl) ?_
          refine ex_of (fun _ _ => ev_iload (pc' := 60) dX5_nextChange_58 rfl rfl) ?_
          have hO := hX
          obtain ⟨w1, h1, E1, r, rfl, fo1, fo2, fo3, fr2, hR⟩ := e5_firstOther (l := l) (a := at1) (b := til) (kd := kd) hR hk ht hI hJ hM rk (by omega) (fun q => c50 (q.trans ed))
          refine ex_of (fun _ _ => ev_callV4 (pc' := 63) kX5_402 mX5_firstOther dX5_nextChange_60 rfl rfl (Nat.le_of_ble_eq_true rfl) (Nat.le_of_ble_eq_true rfl) (by decide) rfl hO E1) ?_
          have fr := fr.tr fr2
          exact ex_end (ev_iret dX5_nextChange_63 rfl) (by
    refine ⟨r, rfl, ⟨by omega, fun m m1 m2 => ?_, fun _ q => fo2 (q.trans ed.symm)⟩, fr, hR⟩
    by_cases q : m ≤ at1
    · exact g4 m m1 q (by omega)
    · have mn2 : Mn (fun m => dyF S k kd m) at1 (r - 1) := by
        rcases mn with z | z
        · exact Or.inl fun x y z1 z2 z3 => z x y z1 z2 (by omega)
        · exact Or.inr fun x y z1 z2 z3 => z x y z1 z2 (by omega)
      exact (mn2.sq (show dyF S k kd at1 = dyF S k kd (r - 1) from fo3.symm) m (by omega) (by omega)).trans ed)
theorem e5_nextChange {tt kd : Int} (hR : RC h0 S F) (hk : 0 ≤ k ∧ k < S 1) (ht : F k.toNat = some t) (hI : mI0 S) (hJ : mIP S) (hM : mT S k) (rk : 0 ≤ kd ∧ kd ≤ 7) (rt : 0 ≤ tt ∧ tt ≤ 19999) : Ex l 5 yX5_nextChange.cls yX5_nextChange.name cX5_nextChange 8 (some .int) 0 [some (.ref 0), some (.ref t), some (.int (iI kd)), some (.int (iI tt)), none, none, none, none] [] h0 (fun v h2 => ∃ r, v = some (.int (iI r)) ∧ NC (dyF S k kd) tt r ∧ FrS h0 h2 ∧ RC h2 S F) := by
  have fr := FrS.rf h0
  obtain ⟨⟨im, hX⟩, -⟩ := id hR
  refine ex_of (fun _ _ => ev_aload_n (pc' := 1) dX5_nextChange_0 rfl rfl) ?_
  refine ex_of (fun _ _ => ev_aload_n (pc' := 2) dX5_nextChange_1 rfl rfl) ?_
  refine ex_of (fun _ _ => ev_iload_n (pc' := 3) dX5_nextChange_2 rfl rfl) ?_
  refine ex_of (fun _ _ => ev_iload_n (pc' := 4) dX5_nextChange_3 rfl rfl) ?_
  have hO := hX
  obtain ⟨w1, h1, E1, rfl, fr1, hR⟩ := e5_dayD (l := l) (kd := kd) (tt := tt) hR hk ht hI hJ hM (by omega) rk
  refine ex_of (fun _ _ => ev_callV3 (pc' := 7) kX5_194 mX5_dayTold dX5_nextChange_4 rfl rfl (Nat.le_of_ble_eq_true rfl) (Nat.le_of_ble_eq_true rfl) (by decide) rfl hO E1) ?_
  have fr := fr.tr fr1
  obtain ⟨⟨im, hX⟩, -⟩ := id hR
  refine ex_of (fun _ _ => ev_istore_4 (pc' := 9) dX5_nextChange_7 rfl (by decide) rfl) ?_
  refine ex_of (fun _ _ => ev_iload_n (pc' := 10) dX5_nextChange_9 rfl rfl) ?_
  refine ex_of (fun _ _ => ev_istore_5 (pc' := 12) dX5_nextChange_10 rfl (by decide) rfl) ?_
  refine ex_of (fun _ _ => ev_iconst (pc' := 13) (iI (0)) dX5_nextChange_12 rfl (by decide)) ?_
  refine ex_of (fun _ _ => ev_istore_6 (pc' := 15) dX5_nextChange_13 rfl (by decide) rfl) ?_
  exact e5_ncL hk ht hI hJ hM rk rt 20000 0 tt _ none (by omega) (by omega) (by omega) (by omega) (fun m m1 m2 _ => by rw [show m = tt by omega]) fr hR
end CF
