section MM
variable {l : Launch} {A : Nat → Int → Int} {h : ev_H} {o : Nat → Int}
/-! the reference's travellers made and told -/
def zrN (S : Int → Int) (a n : Int) : Int → Int := fun x => if a ≤ x ∧ x < a + n then 0 else S x
theorem zrN_0 (S : Int → Int) (a : Int) : zrN S a 0 = S := by funext x; unfold zrN; rw [if_neg (by omega)]
theorem zrN_s (S : Int → Int) (a n : Int) (hn : 0 ≤ n) : upI (zrN S a n) (a + n) 0 = zrN S a (n + 1) := by
  funext x
  unfold upI zrN
  split
  · rw [if_pos (by omega)]
  · split
    · rw [if_pos (by omega)]
    · rw [if_neg (by omega)]
def trS (S : Int → Int) (kd hm sy : Int) : Int → Int := upI (upI (upI (upI (zrN S (143 + 45 * S 1) 45) (143 + 45 * S 1) kd) (143 + 45 * S 1 + 1) hm) (143 + 45 * S 1 + 2) sy) 1 (S 1 + 1)
def trB (S : Int → Int) (kd hm sy : Int) : Bool := decide (((0 ≤ kd ∧ kd ≤ 7) ∧ (0 ≤ hm ∧ hm < S 0) ∧ (0 ≤ sy ∧ sy ≤ 30)) ∧ S 1 ≠ 8)
def trE (S : Int → Int) (kd hm sy : Int) : Int := if (0 ≤ kd ∧ kd ≤ 7) ∧ (0 ≤ hm ∧ hm < S 0) ∧ (0 ≤ sy ∧ sy ≤ 30) then -2 else -1
theorem e6_trvL {h0 : ev_H} {kd hm sy : Int} {Post : Option Value → ev_H → Prop} (hk : 0 ≤ A 0 1 ∧ A 0 1 < 8) (fin : ∀ h2 a5, MW h2 o (upA A 0 (zrN (A 0) (143 + 45 * A 0 1) 45)) → FrM h0 h2 → Ex l 2 yX6_traveller.cls yX6_traveller.name cX6_traveller 6 (some .int) 90 [some (.ref 34), some (.int (iI kd)), some (.int (iI hm)), some (.int (iI sy)), some (.int (iI (143 + 45 * A 0 1))), a5] [] h2 Post) : ∀ (k i : Nat) (h : ev_H), i + k = 45 → MW h o (upA A 0 (zrN (A 0) (143 + 45 * A 0 1) i)) → FrM h0 h → Ex l 2 yX6_traveller.cls yX6_traveller.name cX6_traveller 6 (some .int) 66 [some (.ref 34), some (.int (iI kd)), some (.int (iI hm)), some (.int (iI sy)), some (.int (iI (143 + 45 * A 0 1))), some (.int (iI (i : Int)))] [] h Post := by
  intro k
  induction k with
  | zero =>
    intro i h hn hw fr
    have ei : i = 45 := by omega
    subst ei
    refine ex_of (fun _ _ => ev_iload (pc' := 68) dX6_traveller_66 rfl rfl) ?_
    refine ex_of (fun _ _ => ev_bipush (pc' := 70) (iI (45)) dX6_traveller_68 rfl (by decide)) ?_
    refine ex_icmpI_ge (pc' := 73) (tgt := 90) dX6_traveller_70 (by decide) rfl (by omega) (by omega) (fun c70 => ?_) (fun c70 => ?_)
    · exact fin _ _ hw fr
    · omega
  | succ k ih =>
    intro i h hn hw fr
    refine ex_of (fun _ _ => ev_iload (pc' := 68) dX6_traveller_66 rfl rfl) ?_
    refine ex_of (fun _ _ => ev_bipush (pc' := 70) (iI (45)) dX6_traveller_68 rfl (by decide)) ?_
    refine ex_icmpI_ge (pc' := 73) (tgt := 90) dX6_traveller_70 (by decide) rfl (by omega) (by omega) (fun c70 => ?_) (fun c70 => ?_)
    · omega
    · refine ex_of (fun _ _ => ev_aload_n (pc' := 74) dX6_traveller_73 rfl rfl) ?_
      refine ex_of (fun _ _ => ev_getfield (pc' := 77) fX6_9 dX6_traveller_74 rfl hw.o rfl) ?_
      refine ex_of (fun _ _ => ev_iload (pc' := 79) dX6_traveller_77 rfl rfl) ?_
      refine ex_of (fun _ _ => ev_iload (pc' := 81) dX6_traveller_79 rfl rfl) ?_
      refine ex_of (fun _ _ => ev_iaddI (pc' := 82) dX6_traveller_81 rfl) ?_
      refine ex_of (fun _ _ => ev_iconst (pc' := 83) (iI (0)) dX6_traveller_82 rfl (by decide)) ?_
      refine xst_0 (pc' := 84) dX6_traveller_83 rfl hw fr (by omega) (fun h hw fr => ?_)
      refine ex_of (fun _ _ => ev_iincI_5 (pc' := 87) dX6_traveller_84 rfl (by decide) rfl) ?_
      refine ex_of (fun _ _ => ev_goto (tgt := 66) dX6_traveller_87 (by decide)) ?_
      rw [upA_s, upA_2, zrN_s _ _ _ (by omega)] at hw
      exact ih (i + 1) _ (by omega) hw fr
theorem e6_traveller {kd hm sy : Int} (hw : MW h o A) (hI : mI0 (A 0)) (rkd : -2147483648 ≤ kd ∧ kd < 2147483648) (rhm : -2147483648 ≤ hm ∧ hm < 2147483648) (rsy : -2147483648 ≤ sy ∧ sy < 2147483648) : Ex l 2 yX6_traveller.cls yX6_traveller.name cX6_traveller 6 (some .int) 0 [some (.ref 34), some (.int (iI kd)), some (.int (iI hm)), some (.int (iI sy)), none, none] [] h (uP h o A (upA A 0 (trS (A 0) kd hm sy)) (trB (A 0) kd hm sy) (some (.int (iI (A 0 1)))) (some (.int (iI (trE (A 0) kd hm sy))))) := by
  obtain ⟨⟨i1, i2⟩, ⟨i3, i4⟩, i5, i6⟩ := id hI
  have fr := FrM.rf h
  refine ex_of (fun _ _ => ev_iload_n (pc' := 1) dX6_traveller_0 rfl rfl) ?_
  refine ex_of (fun _ _ => ev_i2lI (pc' := 2) dX6_traveller_1 rfl (by omega)) ?_
  refine ex_of (fun _ _ => ev_lconst (pc' := 3) (jJ (0)) dX6_traveller_2 rfl (by decide)) ?_
  refine ex_of (fun _ _ => ev_ldc2I (pc' := 6) (7) nX6_54 dX6_traveller_3 rfl (by decide)) ?_
  refine ex_of (fun _ _ => ev_callS3 (pc' := 9) kX6_48 mX6_isIn dX6_traveller_6 rfl rfl (Nat.le_of_ble_eq_true rfl) (Nat.le_of_ble_eq_true rfl) (by decide) (e6_isIn (by omega) (by omega) (by omega))) ?_
  refine ex_ifd_eq (pc' := 12) (tgt := 32) dX6_traveller_9 (by decide) rfl (fun c9 => ?_) (fun c9 => ?_)
  · refine ex_of (fun _ _ => ev_iconst (pc' := 33) (iI (-1)) dX6_traveller_32 rfl (by decide)) ?_
    exact ex_end (ev_iret dX6_traveller_33 rfl) (by have e : trE (A 0) kd hm sy = -1 := (by unfold trE; rw [if_neg (by omega)]); rw [e]; exact uP_f (by unfold trB; apply decide_eq_false; omega) hw fr)
  · refine ex_of (fun _ _ => ev_aload_n (pc' := 13) dX6_traveller_12 rfl rfl) ?_
    refine ex_of (fun _ _ => ev_iload_n (pc' := 14) dX6_traveller_13 rfl rfl) ?_
    refine ex_of (fun _ _ => ev_callV1 (pc' := 17) kX6_103 mX6_isPlace dX6_traveller_14 rfl rfl (Nat.le_of_ble_eq_true rfl) (Nat.le_of_ble_eq_true rfl) (by decide) rfl hw.o (e6_isPlace hw hI (by omega))) ?_
    refine ex_ifd_eq (pc' := 20) (tgt := 32) dX6_traveller_17 (by decide) rfl (fun c17 => ?_) (fun c17 => ?_)
    · refine ex_of (fun _ _ => ev_iconst (pc' := 33) (iI (-1)) dX6_traveller_32 rfl (by decide)) ?_
      exact ex_end (ev_iret dX6_traveller_33 rfl) (by have e : trE (A 0) kd hm sy = -1 := (by unfold trE; rw [if_neg (by omega)]); rw [e]; exact uP_f (by unfold trB; apply decide_eq_false; omega) hw fr)
    · refine ex_of (fun _ _ => ev_iload_n (pc' := 21) dX6_traveller_20 rfl rfl) ?_
      refine ex_of (fun _ _ => ev_i2lI (pc' := 22) dX6_traveller_21 rfl (by omega)) ?_
      refine ex_of (fun _ _ => ev_lconst (pc' := 23) (jJ (0)) dX6_traveller_22 rfl (by decide)) ?_
      refine ex_of (fun _ _ => ev_ldc2I (pc' := 26) (30) nX6_148 dX6_traveller_23 rfl (by decide)) ?_
      refine ex_of (fun _ _ => ev_callS3 (pc' := 29) kX6_48 mX6_isIn dX6_traveller_26 rfl rfl (Nat.le_of_ble_eq_true rfl) (Nat.le_of_ble_eq_true rfl) (by decide) (e6_isIn (by omega) (by omega) (by omega))) ?_
      refine ex_ifd_ne (pc' := 32) (tgt := 34) dX6_traveller_29 (by decide) rfl (fun c29 => ?_) (fun c29 => ?_)
      · refine ex_of (fun _ _ => ev_aload_n (pc' := 35) dX6_traveller_34 rfl rfl) ?_
        refine ex_of (fun _ _ => ev_getfield (pc' := 38) fX6_9 dX6_traveller_35 rfl hw.o rfl) ?_
        refine ex_of (fun _ _ => ev_iconst (pc' := 39) (iI (1)) dX6_traveller_38 rfl (by decide)) ?_
        refine ex_of (fun _ _ => ev_ialoadI (pc' := 40) dX6_traveller_39 rfl hw.a0 (by decide) (by omega)) ?_
        refine ex_of (fun _ _ => ev_bipush (pc' := 42) (iI (8)) dX6_traveller_40 rfl (by decide)) ?_
        refine ex_icmpI_ne (pc' := 45) (tgt := 48) dX6_traveller_42 (by decide) rfl (by omega) (by omega) (fun c42 => ?_) (fun c42 => ?_)
        · refine ex_of (fun _ _ => ev_sipush (pc' := 51) (iI (143)) dX6_traveller_48 rfl (by decide)) ?_
          refine ex_of (fun _ _ => ev_bipush (pc' := 53) (iI (45)) dX6_traveller_51 rfl (by decide)) ?_
          refine ex_of (fun _ _ => ev_aload_n (pc' := 54) dX6_traveller_53 rfl rfl) ?_
          refine ex_of (fun _ _ => ev_getfield (pc' := 57) fX6_9 dX6_traveller_54 rfl hw.o rfl) ?_
          refine ex_of (fun _ _ => ev_iconst (pc' := 58) (iI (1)) dX6_traveller_57 rfl (by decide)) ?_
          refine ex_of (fun _ _ => ev_ialoadI (pc' := 59) dX6_traveller_58 rfl hw.a0 (by decide) (by omega)) ?_
          refine ex_of (fun _ _ => ev_imulI (pc' := 60) dX6_traveller_59 rfl) ?_
          refine ex_of (fun _ _ => ev_iaddI (pc' := 61) dX6_traveller_60 rfl) ?_
          refine ex_of (fun _ _ => ev_istore_4 (pc' := 63) dX6_traveller_61 rfl (by decide) rfl) ?_
          refine ex_of (fun _ _ => ev_iconst (pc' := 64) (iI (0)) dX6_traveller_63 rfl (by decide)) ?_
          refine ex_of (fun _ _ => ev_istore_5 (pc' := 66) dX6_traveller_64 rfl (by decide) rfl) ?_
          have hw5 := hw
          rw [show A = upA A 0 (zrN (A 0) (143 + 45 * A 0 1) (0 : Nat)) by rw [show (((0 : Nat) : Int)) = 0 from rfl, zrN_0, upA_id]] at hw5
          refine e6_trvL (l := l) (o := o) (kd := kd) (hm := hm) (sy := sy) (by omega) (fun h2 a5 hw fr => ?_) 45 0 _ (by omega) hw5 fr
          refine ex_of (fun _ _ => ev_aload_n (pc' := 91) dX6_traveller_90 rfl rfl) ?_
          refine ex_of (fun _ _ => ev_getfield (pc' := 94) fX6_9 dX6_traveller_91 rfl hw.o rfl) ?_
          refine ex_of (fun _ _ => ev_iload (pc' := 96) dX6_traveller_94 rfl rfl) ?_
          refine ex_of (fun _ _ => ev_iload_n (pc' := 97) dX6_traveller_96 rfl rfl) ?_
          refine xst_0 (pc' := 98) dX6_traveller_97 rfl hw fr (by omega) (fun h hw fr => ?_)
          refine ex_of (fun _ _ => ev_aload_n (pc' := 99) dX6_traveller_98 rfl rfl) ?_
          refine ex_of (fun _ _ => ev_getfield (pc' := 102) fX6_9 dX6_traveller_99 rfl hw.o rfl) ?_
          refine ex_of (fun _ _ => ev_iload (pc' := 104) dX6_traveller_102 rfl rfl) ?_
          refine ex_of (fun _ _ => ev_iconst (pc' := 105) (iI (1)) dX6_traveller_104 rfl (by decide)) ?_
          refine ex_of (fun _ _ => ev_iaddI (pc' := 106) dX6_traveller_105 rfl) ?_
          refine ex_of (fun _ _ => ev_iload_n (pc' := 107) dX6_traveller_106 rfl rfl) ?_
          refine xst_0 (pc' := 108) dX6_traveller_107 rfl hw fr (by omega) (fun h hw fr => ?_)
          refine ex_of (fun _ _ => ev_aload_n (pc' := 109) dX6_traveller_108 rfl rfl) ?_
          refine ex_of (fun _ _ => ev_getfield (pc' := 112) fX6_9 dX6_traveller_109 rfl hw.o rfl) ?_
          refine ex_of (fun _ _ => ev_iload (pc' := 114) dX6_traveller_112 rfl rfl) ?_
          refine ex_of (fun _ _ => ev_iconst (pc' := 115) (iI (2)) dX6_traveller_114 rfl (by decide)) ?_
          refine ex_of (fun _ _ => ev_iaddI (pc' := 116) dX6_traveller_115 rfl) ?_
          refine ex_of (fun _ _ => ev_iload_n (pc' := 117) dX6_traveller_116 rfl rfl) ?_
          refine xst_0 (pc' := 118) dX6_traveller_117 rfl hw fr (by omega) (fun h hw fr => ?_)
          simp only [upA_s, upA_2] at hw
          obtain ⟨X, hX⟩ : ∃ X, X = upI (upI (upI (zrN (A 0) (143 + 45 * A 0 1) 45) (143 + 45 * A 0 1) kd) (143 + 45 * A 0 1 + 1) hm) (143 + 45 * A 0 1 + 2) sy := ⟨_, rfl⟩
          rw [← hX] at hw
          have x1 : X 1 = A 0 1 := by
            rw [hX, upI_n (by omega), upI_n (by omega), upI_n (by omega)]
            unfold zrN
            rw [if_neg (by omega)]
          refine ex_of (fun _ _ => ev_aload_n (pc' := 119) dX6_traveller_118 rfl rfl) ?_
          refine ex_of (fun _ _ => ev_getfield (pc' := 122) fX6_9 dX6_traveller_119 rfl hw.o rfl) ?_
          refine ex_of (fun _ _ => ev_iconst (pc' := 123) (iI (1)) dX6_traveller_122 rfl (by decide)) ?_
          refine ex_of (fun _ _ => ev_dup2 (pc' := 124) dX6_traveller_123 rfl rfl rfl) ?_
          refine ex_of (fun _ _ => ev_ialoadI (pc' := 125) dX6_traveller_124 rfl hw.a0 (by decide) (by omega)) ?_
          rw [upA_s, x1]
          refine ex_of (fun _ _ => ev_iconst (pc' := 126) (iI (1)) dX6_traveller_125 rfl (by decide)) ?_
          refine ex_of (fun _ _ => ev_iaddI (pc' := 127) dX6_traveller_126 rfl) ?_
          refine xst_0 (pc' := 128) dX6_traveller_127 rfl hw fr (by omega) (fun h hw fr => ?_)
          simp only [upA_s, upA_2] at hw
          refine ex_of (fun _ _ => ev_aload_n (pc' := 129) dX6_traveller_128 rfl rfl) ?_
          refine ex_of (fun _ _ => ev_getfield (pc' := 132) fX6_9 dX6_traveller_129 rfl hw.o rfl) ?_
          refine ex_of (fun _ _ => ev_iconst (pc' := 133) (iI (1)) dX6_traveller_132 rfl (by decide)) ?_
          refine ex_of (fun _ _ => ev_ialoadI (pc' := 134) dX6_traveller_133 rfl hw.a0 (by decide) (by omega)) ?_
          rw [upA_s, upI_s]
          refine ex_of (fun _ _ => ev_iconst (pc' := 135) (iI (1)) dX6_traveller_134 rfl (by decide)) ?_
          refine ex_of (fun _ _ => ev_isubI (pc' := 136) dX6_traveller_135 rfl) ?_
          exact ex_end (ev_iret dX6_traveller_136 rfl) (by rw [show A 0 1 + 1 - 1 = A 0 1 by omega]; exact uP_t (by unfold trB; apply decide_eq_true; omega) (by rw [hX] at hw; exact hw) fr)
        · refine ex_of (fun _ _ => ev_bipush (pc' := 47) (iI (-2)) dX6_traveller_45 rfl (by decide)) ?_
          exact ex_end (ev_iret dX6_traveller_47 rfl) (by have e : trE (A 0) kd hm sy = -2 := (by unfold trE; rw [if_pos (by omega)]); rw [e]; exact uP_f (by unfold trB; apply decide_eq_false; omega) hw fr)
      · refine ex_of (fun _ _ => ev_iconst (pc' := 33) (iI (-1)) dX6_traveller_32 rfl (by decide)) ?_
        exact ex_end (ev_iret dX6_traveller_33 rfl) (by have e : trE (A 0) kd hm sy = -1 := (by unfold trE; rw [if_neg (by omega)]); rw [e]; exact uP_f (by unfold trB; apply decide_eq_false; omega) hw fr)
def lgS (S : Int → Int) (k q ea f hr : Int) : Int → Int := upI (upI (upI (upI (upI S (143 + 45 * k + 4 + 4 * S (143 + 45 * k + 3)) q) (143 + 45 * k + 4 + 4 * S (143 + 45 * k + 3) + 1) (if ea = 0 then 0 else 1)) (143 + 45 * k + 4 + 4 * S (143 + 45 * k + 3) + 2) f) (143 + 45 * k + 4 + 4 * S (143 + 45 * k + 3) + 3) hr) (143 + 45 * k + 3) (S (143 + 45 * k + 3) + 1)
def lgV (S : Int → Int) (k q f hr : Int) : Bool := decide ((0 ≤ k ∧ k < S 1) ∧ (0 ≤ q ∧ q < S 0) ∧ (0 ≤ f ∧ f ≤ 19999) ∧ (1 ≤ hr ∧ hr ≤ 200))
def lgO (S : Int → Int) (k f : Int) : Bool := decide (0 < S (143 + 45 * k + 3) ∧ f < S (143 + 45 * k + (4 + 4 * (S (143 + 45 * k + 3) - 1) + 2)) + 60 * S (143 + 45 * k + (4 + 4 * (S (143 + 45 * k + 3) - 1) + 3)))
def lgB (S : Int → Int) (k q f hr : Int) : Bool := lgV S k q f hr && (!decide (S (143 + 45 * k + 3) = 6) && !lgO S k f)
def lgE (S : Int → Int) (k q f hr : Int) : Int := if lgV S k q f hr then (if S (143 + 45 * k + 3) = 6 then -2 else -3) else -1
theorem e6_leg {k q ea f hr : Int} (hw : MW h o A) (hI : mI0 (A 0)) (hK : ∀ k, 0 ≤ k → k < A 0 1 → mT (A 0) k) (rk : -2147483648 ≤ k ∧ k < 2147483648) (rq : -2147483648 ≤ q ∧ q < 2147483648) (rea : -2147483648 ≤ ea ∧ ea < 2147483648) (rf : -2147483648 ≤ f ∧ f < 2147483648) (rhr : -2147483648 ≤ hr ∧ hr < 2147483648) : Ex l 3 yX6_leg.cls yX6_leg.name cX6_leg 8 (some .int) 0 [some (.ref 34), some (.int (iI k)), some (.int (iI q)), some (.int (iI ea)), some (.int (iI f)), some (.int (iI hr)), none, none] [] h (uP h o A (upA A 0 (lgS (A 0) k q ea f hr)) (lgB (A 0) k q f hr) (some (.int (iI (A 0 (143 + 45 * k + 3) + 1)))) (some (.int (iI (lgE (A 0) k q f hr))))) := by
  obtain ⟨⟨i1, i2⟩, ⟨i3, i4⟩, i5, i6⟩ := id hI
  have fr := FrM.rf h
  refine ex_of (fun _ _ => ev_aload_n (pc' := 1) dX6_leg_0 rfl rfl) ?_
  refine ex_of (fun _ _ => ev_iload_n (pc' := 2) dX6_leg_1 rfl rfl) ?_
  refine ex_of (fun _ _ => ev_callV1 (pc' := 5) kX6_157 mX6_isOne dX6_leg_2 rfl rfl (Nat.le_of_ble_eq_true rfl) (Nat.le_of_ble_eq_true rfl) (by decide) rfl hw.o (e6_isOne hw hI (by omega))) ?_
  refine ex_ifd_eq (pc' := 8) (tgt := 38) dX6_leg_5 (by decide) rfl (fun c5 => ?_) (fun c5 => ?_)
  · refine ex_of (fun _ _ => ev_iconst (pc' := 39) (iI (-1)) dX6_leg_38 rfl (by decide)) ?_
    exact ex_end (ev_iret dX6_leg_39 rfl) (by have e1 : lgV (A 0) k q f hr = false := (by unfold lgV; apply decide_eq_false; omega); have e : lgE (A 0) k q f hr = -1 := (by unfold lgE; rw [if_neg (by rw [e1]; decide)]); rw [e]; exact uP_f (by unfold lgB; rw [e1]; rfl) hw fr)
  · refine ex_of (fun _ _ => ev_aload_n (pc' := 9) dX6_leg_8 rfl rfl) ?_
    refine ex_of (fun _ _ => ev_iload_n (pc' := 10) dX6_leg_9 rfl rfl) ?_
    refine ex_of (fun _ _ => ev_callV1 (pc' := 13) kX6_103 mX6_isPlace dX6_leg_10 rfl rfl (Nat.le_of_ble_eq_true rfl) (Nat.le_of_ble_eq_true rfl) (by decide) rfl hw.o (e6_isPlace hw hI (by omega))) ?_
    refine ex_ifd_eq (pc' := 16) (tgt := 38) dX6_leg_13 (by decide) rfl (fun c13 => ?_) (fun c13 => ?_)
    · refine ex_of (fun _ _ => ev_iconst (pc' := 39) (iI (-1)) dX6_leg_38 rfl (by decide)) ?_
      exact ex_end (ev_iret dX6_leg_39 rfl) (by have e1 : lgV (A 0) k q f hr = false := (by unfold lgV; apply decide_eq_false; omega); have e : lgE (A 0) k q f hr = -1 := (by unfold lgE; rw [if_neg (by rw [e1]; decide)]); rw [e]; exact uP_f (by unfold lgB; rw [e1]; rfl) hw fr)
    · refine ex_of (fun _ _ => ev_iload (pc' := 18) dX6_leg_16 rfl rfl) ?_
      refine ex_of (fun _ _ => ev_i2lI (pc' := 19) dX6_leg_18 rfl (by omega)) ?_
      refine ex_of (fun _ _ => ev_callS1 (pc' := 22) kX6_141 mX6_isMinute dX6_leg_19 rfl rfl (Nat.le_of_ble_eq_true rfl) (Nat.le_of_ble_eq_true rfl) (by decide) (e6_isMinute (by omega))) ?_
      refine ex_ifd_eq (pc' := 25) (tgt := 38) dX6_leg_22 (by decide) rfl (fun c22 => ?_) (fun c22 => ?_)
      · refine ex_of (fun _ _ => ev_iconst (pc' := 39) (iI (-1)) dX6_leg_38 rfl (by decide)) ?_
        exact ex_end (ev_iret dX6_leg_39 rfl) (by have e1 : lgV (A 0) k q f hr = false := (by unfold lgV; apply decide_eq_false; omega); have e : lgE (A 0) k q f hr = -1 := (by unfold lgE; rw [if_neg (by rw [e1]; decide)]); rw [e]; exact uP_f (by unfold lgB; rw [e1]; rfl) hw fr)
      · refine ex_of (fun _ _ => ev_iload (pc' := 27) dX6_leg_25 rfl rfl) ?_
        refine ex_of (fun _ _ => ev_i2lI (pc' := 28) dX6_leg_27 rfl (by omega)) ?_
        refine ex_of (fun _ _ => ev_lconst (pc' := 29) (jJ (1)) dX6_leg_28 rfl (by decide)) ?_
        refine ex_of (fun _ _ => ev_ldc2I (pc' := 32) (200) nX6_160 dX6_leg_29 rfl (by decide)) ?_
        refine ex_of (fun _ _ => ev_callS3 (pc' := 35) kX6_48 mX6_isIn dX6_leg_32 rfl rfl (Nat.le_of_ble_eq_true rfl) (Nat.le_of_ble_eq_true rfl) (by decide) (e6_isIn (by omega) (by omega) (by omega))) ?_
        refine ex_ifd_ne (pc' := 38) (tgt := 40) dX6_leg_35 (by decide) rfl (fun c35 => ?_) (fun c35 => ?_)
        · have hv : lgV (A 0) k q f hr = true := by unfold lgV; apply decide_eq_true; omega
          obtain ⟨t0, t1, t2, t3, t4, -⟩ := hK k (by omega) (by omega)
          have u3 : 0 < A 0 (143 + 45 * k + 3) → (0 ≤ A 0 (143 + 45 * k + (4 + 4 * (A 0 (143 + 45 * k + 3) - 1) + 2)) ∧ A 0 (143 + 45 * k + (4 + 4 * (A 0 (143 + 45 * k + 3) - 1) + 2)) ≤ 19999) ∧ (1 ≤ A 0 (143 + 45 * k + (4 + 4 * (A 0 (143 + 45 * k + 3) - 1) + 3)) ∧ A 0 (143 + 45 * k + (4 + 4 * (A 0 (143 + 45 * k + 3) - 1) + 3)) ≤ 200) := fun z => (t4 _ (by omega) (by omega)).2.2
          refine ex_of (fun _ _ => ev_aload_n (pc' := 41) dX6_leg_40 rfl rfl) ?_
          refine ex_of (fun _ _ => ev_iload_n (pc' := 42) dX6_leg_41 rfl rfl) ?_
          refine ex_of (fun _ _ => ev_iconst (pc' := 43) (iI (3)) dX6_leg_42 rfl (by decide)) ?_
          refine ex_of (fun _ _ => ev_callV2 (pc' := 46) kX6_150 mX6_tell dX6_leg_43 rfl rfl (Nat.le_of_ble_eq_true rfl) (Nat.le_of_ble_eq_true rfl) (by decide) rfl hw.o (e6_tell hw (by omega))) ?_
          refine ex_of (fun _ _ => ev_istore_6 (pc' := 48) dX6_leg_46 rfl (by decide) rfl) ?_
          refine ex_of (fun _ _ => ev_iload (pc' := 50) dX6_leg_48 rfl rfl) ?_
          refine ex_of (fun _ _ => ev_bipush (pc' := 52) (iI (6)) dX6_leg_50 rfl (by decide)) ?_
          refine ex_icmpI_ne (pc' := 55) (tgt := 58) dX6_leg_52 (by decide) rfl (by omega) (by omega) (fun c52 => ?_) (fun c52 => ?_)
          · refine ex_of (fun _ _ => ev_iload (pc' := 60) dX6_leg_58 rfl rfl) ?_
            refine ex_ifI_le (pc' := 63) (tgt := 80) dX6_leg_60 (by decide) rfl (by omega) (fun c60 => ?_) (fun c60 => ?_)
            · refine ex_of (fun _ _ => ev_sipush (pc' := 83) (iI (143)) dX6_leg_80 rfl (by decide)) ?_
              refine ex_of (fun _ _ => ev_bipush (pc' := 85) (iI (45)) dX6_leg_83 rfl (by decide)) ?_
              refine ex_of (fun _ _ => ev_iload_n (pc' := 86) dX6_leg_85 rfl rfl) ?_
              refine ex_of (fun _ _ => ev_imulI (pc' := 87) dX6_leg_86 rfl) ?_
              refine ex_of (fun _ _ => ev_iaddI (pc' := 88) dX6_leg_87 rfl) ?_
              refine ex_of (fun _ _ => ev_iconst (pc' := 89) (iI (4)) dX6_leg_88 rfl (by decide)) ?_
              refine ex_of (fun _ _ => ev_iaddI (pc' := 90) dX6_leg_89 rfl) ?_
              refine ex_of (fun _ _ => ev_iconst (pc' := 91) (iI (4)) dX6_leg_90 rfl (by decide)) ?_
              refine ex_of (fun _ _ => ev_iload (pc' := 93) dX6_leg_91 rfl rfl) ?_
              refine ex_of (fun _ _ => ev_imulI (pc' := 94) dX6_leg_93 rfl) ?_
              refine ex_of (fun _ _ => ev_iaddI (pc' := 95) dX6_leg_94 rfl) ?_
              refine ex_of (fun _ _ => ev_istore_7 (pc' := 97) dX6_leg_95 rfl (by decide) rfl) ?_
              refine ex_of (fun _ _ => ev_aload_n (pc' := 98) dX6_leg_97 rfl rfl) ?_
              refine ex_of (fun _ _ => ev_getfield (pc' := 101) fX6_9 dX6_leg_98 rfl hw.o rfl) ?_
              refine ex_of (fun _ _ => ev_iload (pc' := 103) dX6_leg_101 rfl rfl) ?_
              refine ex_of (fun _ _ => ev_iload_n (pc' := 104) dX6_leg_103 rfl rfl) ?_
              refine xst_0 (pc' := 105) dX6_leg_104 rfl hw fr (by omega) (fun h hw fr => ?_)
              refine ex_of (fun _ _ => ev_aload_n (pc' := 106) dX6_leg_105 rfl rfl) ?_
              refine ex_of (fun _ _ => ev_getfield (pc' := 109) fX6_9 dX6_leg_106 rfl hw.o rfl) ?_
              refine ex_of (fun _ _ => ev_iload (pc' := 111) dX6_leg_109 rfl rfl) ?_
              refine ex_of (fun _ _ => ev_iconst (pc' := 112) (iI (1)) dX6_leg_111 rfl (by decide)) ?_
              refine ex_of (fun _ _ => ev_iaddI (pc' := 113) dX6_leg_112 rfl) ?_
              refine ex_of (fun _ _ => ev_iload_n (pc' := 114) dX6_leg_113 rfl rfl) ?_
              refine ex_ifI_eq (pc' := 117) (tgt := 121) dX6_leg_114 (by decide) rfl (by omega) (fun c114 => ?_) (fun c114 => ?_)
              · refine ex_of (fun _ _ => ev_iconst (pc' := 122) (iI (0)) dX6_leg_121 rfl (by decide)) ?_
                refine xst_0 (pc' := 123) dX6_leg_122 rfl hw fr (by omega) (fun h hw fr => ?_)
                refine ex_of (fun _ _ => ev_aload_n (pc' := 124) dX6_leg_123 rfl rfl) ?_
                refine ex_of (fun _ _ => ev_getfield (pc' := 127) fX6_9 dX6_leg_124 rfl hw.o rfl) ?_
                refine ex_of (fun _ _ => ev_iload (pc' := 129) dX6_leg_127 rfl rfl) ?_
                refine ex_of (fun _ _ => ev_iconst (pc' := 130) (iI (2)) dX6_leg_129 rfl (by decide)) ?_
                refine ex_of (fun _ _ => ev_iaddI (pc' := 131) dX6_leg_130 rfl) ?_
                refine ex_of (fun _ _ => ev_iload (pc' := 133) dX6_leg_131 rfl rfl) ?_
                refine xst_0 (pc' := 134) dX6_leg_133 rfl hw fr (by omega) (fun h hw fr => ?_)
                refine ex_of (fun _ _ => ev_aload_n (pc' := 135) dX6_leg_134 rfl rfl) ?_
                refine ex_of (fun _ _ => ev_getfield (pc' := 138) fX6_9 dX6_leg_135 rfl hw.o rfl) ?_
                refine ex_of (fun _ _ => ev_iload (pc' := 140) dX6_leg_138 rfl rfl) ?_
                refine ex_of (fun _ _ => ev_iconst (pc' := 141) (iI (3)) dX6_leg_140 rfl (by decide)) ?_
                refine ex_of (fun _ _ => ev_iaddI (pc' := 142) dX6_leg_141 rfl) ?_
                refine ex_of (fun _ _ => ev_iload (pc' := 144) dX6_leg_142 rfl rfl) ?_
                refine xst_0 (pc' := 145) dX6_leg_144 rfl hw fr (by omega) (fun h hw fr => ?_)
                simp only [upA_s, upA_2] at hw
                refine ex_of (fun _ _ => ev_aload_n (pc' := 146) dX6_leg_145 rfl rfl) ?_
                refine ex_of (fun _ _ => ev_getfield (pc' := 149) fX6_9 dX6_leg_146 rfl hw.o rfl) ?_
                refine ex_of (fun _ _ => ev_sipush (pc' := 152) (iI (143)) dX6_leg_149 rfl (by decide)) ?_
                refine ex_of (fun _ _ => ev_bipush (pc' := 154) (iI (45)) dX6_leg_152 rfl (by decide)) ?_
                refine ex_of (fun _ _ => ev_iload_n (pc' := 155) dX6_leg_154 rfl rfl) ?_
                refine ex_of (fun _ _ => ev_imulI (pc' := 156) dX6_leg_155 rfl) ?_
                refine ex_of (fun _ _ => ev_iaddI (pc' := 157) dX6_leg_156 rfl) ?_
                refine ex_of (fun _ _ => ev_iconst (pc' := 158) (iI (3)) dX6_leg_157 rfl (by decide)) ?_
                refine ex_of (fun _ _ => ev_iaddI (pc' := 159) dX6_leg_158 rfl) ?_
                refine ex_of (fun _ _ => ev_dup2 (pc' := 160) dX6_leg_159 rfl rfl rfl) ?_
                refine ex_of (fun _ _ => ev_ialoadI (pc' := 161) dX6_leg_160 rfl hw.a0 (by decide) (by omega)) ?_
                have x1 : ∀ z : Int, upI (upI (upI (upI (A 0) (143 + 45 * k + 4 + 4 * A 0 (143 + 45 * k + 3)) q) (143 + 45 * k + 4 + 4 * A 0 (143 + 45 * k + 3) + 1) z) (143 + 45 * k + 4 + 4 * A 0 (143 + 45 * k + 3) + 2) f) (143 + 45 * k + 4 + 4 * A 0 (143 + 45 * k + 3) + 3) hr (143 + 45 * k + 3) = A 0 (143 + 45 * k + 3) := fun z => by rw [upI_n (by omega), upI_n (by omega), upI_n (by omega), upI_n (by omega)]
                rw [upA_s, x1]
                refine ex_of (fun _ _ => ev_iconst (pc' := 162) (iI (1)) dX6_leg_161 rfl (by decide)) ?_
                refine ex_of (fun _ _ => ev_iaddI (pc' := 163) dX6_leg_162 rfl) ?_
                refine xst_0 (pc' := 164) dX6_leg_163 rfl hw fr (by omega) (fun h hw fr => ?_)
                refine ex_of (fun _ _ => ev_iload (pc' := 166) dX6_leg_164 rfl rfl) ?_
                refine ex_of (fun _ _ => ev_iconst (pc' := 167) (iI (1)) dX6_leg_166 rfl (by decide)) ?_
                refine ex_of (fun _ _ => ev_iaddI (pc' := 168) dX6_leg_167 rfl) ?_
                exact ex_end (ev_iret dX6_leg_168 rfl) (by simp only [upA_s, upA_2] at hw; have e2 : lgO (A 0) k f = false := (by unfold lgO; apply decide_eq_false; omega); exact uP_t (by unfold lgB; rw [hv, e2, decide_eq_false (show ¬ A 0 (143 + 45 * k + 3) = 6 by omega)]; rfl) (by unfold lgS; (first | rw [if_pos (show ea = 0 by omega)] | rw [if_neg (show ¬ ea = 0 by omega)]); exact hw) fr)
              · refine ex_of (fun _ _ => ev_iconst (pc' := 118) (iI (1)) dX6_leg_117 rfl (by decide)) ?_
                refine ex_of (fun _ _ => ev_goto (tgt := 122) dX6_leg_118 (by decide)) ?_
                refine xst_0 (pc' := 123) dX6_leg_122 rfl hw fr (by omega) (fun h hw fr => ?_)
                refine ex_of (fun _ _ => ev_aload_n (pc' := 124) dX6_leg_123 rfl rfl) ?_
                refine ex_of (fun _ _ => ev_getfield (pc' := 127) fX6_9 dX6_leg_124 rfl hw.o rfl) ?_
                refine ex_of (fun _ _ => ev_iload (pc' := 129) dX6_leg_127 rfl rfl) ?_
                refine ex_of (fun _ _ => ev_iconst (pc' := 130) (iI (2)) dX6_leg_129 rfl (by decide)) ?_
                refine ex_of (fun _ _ => ev_iaddI (pc' := 131) dX6_leg_130 rfl) ?_
                refine ex_of (fun _ _ => ev_iload (pc' := 133) dX6_leg_131 rfl rfl) ?_
                refine xst_0 (pc' := 134) dX6_leg_133 rfl hw fr (by omega) (fun h hw fr => ?_)
                refine ex_of (fun _ _ => ev_aload_n (pc' := 135) dX6_leg_134 rfl rfl) ?_
                refine ex_of (fun _ _ => ev_getfield (pc' := 138) fX6_9 dX6_leg_135 rfl hw.o rfl) ?_
                refine ex_of (fun _ _ => ev_iload (pc' := 140) dX6_leg_138 rfl rfl) ?_
                refine ex_of (fun _ _ => ev_iconst (pc' := 141) (iI (3)) dX6_leg_140 rfl (by decide)) ?_
                refine ex_of (fun _ _ => ev_iaddI (pc' := 142) dX6_leg_141 rfl) ?_
                refine ex_of (fun _ _ => ev_iload (pc' := 144) dX6_leg_142 rfl rfl) ?_
                refine xst_0 (pc' := 145) dX6_leg_144 rfl hw fr (by omega) (fun h hw fr => ?_)
                simp only [upA_s, upA_2] at hw
                refine ex_of (fun _ _ => ev_aload_n (pc' := 146) dX6_leg_145 rfl rfl) ?_
                refine ex_of (fun _ _ => ev_getfield (pc' := 149) fX6_9 dX6_leg_146 rfl hw.o rfl) ?_
                refine ex_of (fun _ _ => ev_sipush (pc' := 152) (iI (143)) dX6_leg_149 rfl (by decide)) ?_
                refine ex_of (fun _ _ => ev_bipush (pc' := 154) (iI (45)) dX6_leg_152 rfl (by decide)) ?_
                refine ex_of (fun _ _ => ev_iload_n (pc' := 155) dX6_leg_154 rfl rfl) ?_
                refine ex_of (fun _ _ => ev_imulI (pc' := 156) dX6_leg_155 rfl) ?_
                refine ex_of (fun _ _ => ev_iaddI (pc' := 157) dX6_leg_156 rfl) ?_
                refine ex_of (fun _ _ => ev_iconst (pc' := 158) (iI (3)) dX6_leg_157 rfl (by decide)) ?_
                refine ex_of (fun _ _ => ev_iaddI (pc' := 159) dX6_leg_158 rfl) ?_
                refine ex_of (fun _ _ => ev_dup2 (pc' := 160) dX6_leg_159 rfl rfl rfl) ?_
                refine ex_of (fun _ _ => ev_ialoadI (pc' := 161) dX6_leg_160 rfl hw.a0 (by decide) (by omega)) ?_
                have x1 : ∀ z : Int, upI (upI (upI (upI (A 0) (143 + 45 * k + 4 + 4 * A 0 (143 + 45 * k + 3)) q) (143 + 45 * k + 4 + 4 * A 0 (143 + 45 * k + 3) + 1) z) (143 + 45 * k + 4 + 4 * A 0 (143 + 45 * k + 3) + 2) f) (143 + 45 * k + 4 + 4 * A 0 (143 + 45 * k + 3) + 3) hr (143 + 45 * k + 3) = A 0 (143 + 45 * k + 3) := fun z => by rw [upI_n (by omega), upI_n (by omega), upI_n (by omega), upI_n (by omega)]
                rw [upA_s, x1]
                refine ex_of (fun _ _ => ev_iconst (pc' := 162) (iI (1)) dX6_leg_161 rfl (by decide)) ?_
                refine ex_of (fun _ _ => ev_iaddI (pc' := 163) dX6_leg_162 rfl) ?_
                refine xst_0 (pc' := 164) dX6_leg_163 rfl hw fr (by omega) (fun h hw fr => ?_)
                refine ex_of (fun _ _ => ev_iload (pc' := 166) dX6_leg_164 rfl rfl) ?_
                refine ex_of (fun _ _ => ev_iconst (pc' := 167) (iI (1)) dX6_leg_166 rfl (by decide)) ?_
                refine ex_of (fun _ _ => ev_iaddI (pc' := 168) dX6_leg_167 rfl) ?_
                exact ex_end (ev_iret dX6_leg_168 rfl) (by simp only [upA_s, upA_2] at hw; have e2 : lgO (A 0) k f = false := (by unfold lgO; apply decide_eq_false; omega); exact uP_t (by unfold lgB; rw [hv, e2, decide_eq_false (show ¬ A 0 (143 + 45 * k + 3) = 6 by omega)]; rfl) (by unfold lgS; (first | rw [if_pos (show ea = 0 by omega)] | rw [if_neg (show ¬ ea = 0 by omega)]); exact hw) fr)
            · refine ex_of (fun _ _ => ev_iload (pc' := 65) dX6_leg_63 rfl rfl) ?_
              refine ex_of (fun _ _ => ev_aload_n (pc' := 66) dX6_leg_65 rfl rfl) ?_
              refine ex_of (fun _ _ => ev_iload_n (pc' := 67) dX6_leg_66 rfl rfl) ?_
              refine ex_of (fun _ _ => ev_iload (pc' := 69) dX6_leg_67 rfl rfl) ?_
              refine ex_of (fun _ _ => ev_iconst (pc' := 70) (iI (1)) dX6_leg_69 rfl (by decide)) ?_
              refine ex_of (fun _ _ => ev_isubI (pc' := 71) dX6_leg_70 rfl) ?_
              refine ex_of (fun _ _ => ev_callV2 (pc' := 74) kX6_162 mX6_endOf dX6_leg_71 rfl rfl (Nat.le_of_ble_eq_true rfl) (Nat.le_of_ble_eq_true rfl) (by decide) rfl hw.o (e6_endOf hw (by omega))) ?_
              refine ex_icmpI_ge (pc' := 77) (tgt := 80) dX6_leg_74 (by decide) rfl (by omega) (by omega) (fun c74 => ?_) (fun c74 => ?_)
              · refine ex_of (fun _ _ => ev_sipush (pc' := 83) (iI (143)) dX6_leg_80 rfl (by decide)) ?_
                refine ex_of (fun _ _ => ev_bipush (pc' := 85) (iI (45)) dX6_leg_83 rfl (by decide)) ?_
                refine ex_of (fun _ _ => ev_iload_n (pc' := 86) dX6_leg_85 rfl rfl) ?_
                refine ex_of (fun _ _ => ev_imulI (pc' := 87) dX6_leg_86 rfl) ?_
                refine ex_of (fun _ _ => ev_iaddI (pc' := 88) dX6_leg_87 rfl) ?_
                refine ex_of (fun _ _ => ev_iconst (pc' := 89) (iI (4)) dX6_leg_88 rfl (by decide)) ?_
                refine ex_of (fun _ _ => ev_iaddI (pc' := 90) dX6_leg_89 rfl) ?_
                refine ex_of (fun _ _ => ev_iconst (pc' := 91) (iI (4)) dX6_leg_90 rfl (by decide)) ?_
                refine ex_of (fun _ _ => ev_iload (pc' := 93) dX6_leg_91 rfl rfl) ?_
                refine ex_of (fun _ _ => ev_imulI (pc' := 94) dX6_leg_93 rfl) ?_
                refine ex_of (fun _ _ => ev_iaddI (pc' := 95) dX6_leg_94 rfl) ?_
                refine ex_of (fun _ _ => ev_istore_7 (pc' := 97) dX6_leg_95 rfl (by decide) rfl) ?_
                refine ex_of (fun _ _ => ev_aload_n (pc' := 98) dX6_leg_97 rfl rfl) ?_
                refine ex_of (fun _ _ => ev_getfield (pc' := 101) fX6_9 dX6_leg_98 rfl hw.o rfl) ?_
                refine ex_of (fun _ _ => ev_iload (pc' := 103) dX6_leg_101 rfl rfl) ?_
                refine ex_of (fun _ _ => ev_iload_n (pc' := 104) dX6_leg_103 rfl rfl) ?_
                refine xst_0 (pc' := 105) dX6_leg_104 rfl hw fr (by omega) (fun h hw fr => ?_)
                refine ex_of (fun _ _ => ev_aload_n (pc' := 106) dX6_leg_105 rfl rfl) ?_
                refine ex_of (fun _ _ => ev_getfield (pc' := 109) fX6_9 dX6_leg_106 rfl hw.o rfl) ?_
                refine ex_of (fun _ _ => ev_iload (pc' := 111) dX6_leg_109 rfl rfl) ?_
                refine ex_of (fun _ _ => ev_iconst (pc' := 112) (iI (1)) dX6_leg_111 rfl (by decide)) ?_
                refine ex_of (fun _ _ => ev_iaddI (pc' := 113) dX6_leg_112 rfl) ?_
                refine ex_of (fun _ _ => ev_iload_n (pc' := 114) dX6_leg_113 rfl rfl) ?_
                refine ex_ifI_eq (pc' := 117) (tgt := 121) dX6_leg_114 (by decide) rfl (by omega) (fun c114 => ?_) (fun c114 => ?_)
                · refine ex_of (fun _ _ => ev_iconst (pc' := 122) (iI (0)) dX6_leg_121 rfl (by decide)) ?_
                  refine xst_0 (pc' := 123) dX6_leg_122 rfl hw fr (by omega) (fun h hw fr => ?_)
                  refine ex_of (fun _ _ => ev_aload_n (pc' := 124) dX6_leg_123 rfl rfl) ?_
                  refine ex_of (fun _ _ => ev_getfield (pc' := 127) fX6_9 dX6_leg_124 rfl hw.o rfl) ?_
                  refine ex_of (fun _ _ => ev_iload (pc' := 129) dX6_leg_127 rfl rfl) ?_
                  refine ex_of (fun _ _ => ev_iconst (pc' := 130) (iI (2)) dX6_leg_129 rfl (by decide)) ?_
                  refine ex_of (fun _ _ => ev_iaddI (pc' := 131) dX6_leg_130 rfl) ?_
                  refine ex_of (fun _ _ => ev_iload (pc' := 133) dX6_leg_131 rfl rfl) ?_
                  refine xst_0 (pc' := 134) dX6_leg_133 rfl hw fr (by omega) (fun h hw fr => ?_)
                  refine ex_of (fun _ _ => ev_aload_n (pc' := 135) dX6_leg_134 rfl rfl) ?_
                  refine ex_of (fun _ _ => ev_getfield (pc' := 138) fX6_9 dX6_leg_135 rfl hw.o rfl) ?_
                  refine ex_of (fun _ _ => ev_iload (pc' := 140) dX6_leg_138 rfl rfl) ?_
                  refine ex_of (fun _ _ => ev_iconst (pc' := 141) (iI (3)) dX6_leg_140 rfl (by decide)) ?_
                  refine ex_of (fun _ _ => ev_iaddI (pc' := 142) dX6_leg_141 rfl) ?_
                  refine ex_of (fun _ _ => ev_iload (pc' := 144) dX6_leg_142 rfl rfl) ?_
                  refine xst_0 (pc' := 145) dX6_leg_144 rfl hw fr (by omega) (fun h hw fr => ?_)
                  simp only [upA_s, upA_2] at hw
                  refine ex_of (fun _ _ => ev_aload_n (pc' := 146) dX6_leg_145 rfl rfl) ?_
                  refine ex_of (fun _ _ => ev_getfield (pc' := 149) fX6_9 dX6_leg_146 rfl hw.o rfl) ?_
                  refine ex_of (fun _ _ => ev_sipush (pc' := 152) (iI (143)) dX6_leg_149 rfl (by decide)) ?_
                  refine ex_of (fun _ _ => ev_bipush (pc' := 154) (iI (45)) dX6_leg_152 rfl (by decide)) ?_
                  refine ex_of (fun _ _ => ev_iload_n (pc' := 155) dX6_leg_154 rfl rfl) ?_
                  refine ex_of (fun _ _ => ev_imulI (pc' := 156) dX6_leg_155 rfl) ?_
                  refine ex_of (fun _ _ => ev_iaddI (pc' := 157) dX6_leg_156 rfl) ?_
                  refine ex_of (fun _ _ => ev_iconst (pc' := 158) (iI (3)) dX6_leg_157 rfl (by decide)) ?_
                  refine ex_of (fun _ _ => ev_iaddI (pc' := 159) dX6_leg_158 rfl) ?_
                  refine ex_of (fun _ _ => ev_dup2 (pc' := 160) dX6_leg_159 rfl rfl rfl) ?_
                  refine ex_of (fun _ _ => ev_ialoadI (pc' := 161) dX6_leg_160 rfl hw.a0 (by decide) (by omega)) ?_
                  have x1 : ∀ z : Int, upI (upI (upI (upI (A 0) (143 + 45 * k + 4 + 4 * A 0 (143 + 45 * k + 3)) q) (143 + 45 * k + 4 + 4 * A 0 (143 + 45 * k + 3) + 1) z) (143 + 45 * k + 4 + 4 * A 0 (143 + 45 * k + 3) + 2) f) (143 + 45 * k + 4 + 4 * A 0 (143 + 45 * k + 3) + 3) hr (143 + 45 * k + 3) = A 0 (143 + 45 * k + 3) := fun z => by rw [upI_n (by omega), upI_n (by omega), upI_n (by omega), upI_n (by omega)]
                  rw [upA_s, x1]
                  refine ex_of (fun _ _ => ev_iconst (pc' := 162) (iI (1)) dX6_leg_161 rfl (by decide)) ?_
                  refine ex_of (fun _ _ => ev_iaddI (pc' := 163) dX6_leg_162 rfl) ?_
                  refine xst_0 (pc' := 164) dX6_leg_163 rfl hw fr (by omega) (fun h hw fr => ?_)
                  refine ex_of (fun _ _ => ev_iload (pc' := 166) dX6_leg_164 rfl rfl) ?_
                  refine ex_of (fun _ _ => ev_iconst (pc' := 167) (iI (1)) dX6_leg_166 rfl (by decide)) ?_
                  refine ex_of (fun _ _ => ev_iaddI (pc' := 168) dX6_leg_167 rfl) ?_
                  exact ex_end (ev_iret dX6_leg_168 rfl) (by simp only [upA_s, upA_2] at hw; have e2 : lgO (A 0) k f = false := (by unfold lgO; apply decide_eq_false; omega); exact uP_t (by unfold lgB; rw [hv, e2, decide_eq_false (show ¬ A 0 (143 + 45 * k + 3) = 6 by omega)]; rfl) (by unfold lgS; (first | rw [if_pos (show ea = 0 by omega)] | rw [if_neg (show ¬ ea = 0 by omega)]); exact hw) fr)
                · refine ex_of (fun _ _ => ev_iconst (pc' := 118) (iI (1)) dX6_leg_117 rfl (by decide)) ?_
                  refine ex_of (fun _ _ => ev_goto (tgt := 122) dX6_leg_118 (by decide)) ?_
                  refine xst_0 (pc' := 123) dX6_leg_122 rfl hw fr (by omega) (fun h hw fr => ?_)
                  refine ex_of (fun _ _ => ev_aload_n (pc' := 124) dX6_leg_123 rfl rfl) ?_
                  refine ex_of (fun _ _ => ev_getfield (pc' := 127) fX6_9 dX6_leg_124 rfl hw.o rfl) ?_
                  refine ex_of (fun _ _ => ev_iload (pc' := 129) dX6_leg_127 rfl rfl) ?_
                  refine ex_of (fun _ _ => ev_iconst (pc' := 130) (iI (2)) dX6_leg_129 rfl (by decide)) ?_
                  refine ex_of (fun _ _ => ev_iaddI (pc' := 131) dX6_leg_130 rfl) ?_
                  refine ex_of (fun _ _ => ev_iload (pc' := 133) dX6_leg_131 rfl rfl) ?_
                  refine xst_0 (pc' := 134) dX6_leg_133 rfl hw fr (by omega) (fun h hw fr => ?_)
                  refine ex_of (fun _ _ => ev_aload_n (pc' := 135) dX6_leg_134 rfl rfl) ?_
                  refine ex_of (fun _ _ => ev_getfield (pc' := 138) fX6_9 dX6_leg_135 rfl hw.o rfl) ?_
                  refine ex_of (fun _ _ => ev_iload (pc' := 140) dX6_leg_138 rfl rfl) ?_
                  refine ex_of (fun _ _ => ev_iconst (pc' := 141) (iI (3)) dX6_leg_140 rfl (by decide)) ?_
                  refine ex_of (fun _ _ => ev_iaddI (pc' := 142) dX6_leg_141 rfl) ?_
                  refine ex_of (fun _ _ => ev_iload (pc' := 144) dX6_leg_142 rfl rfl) ?_
                  refine xst_0 (pc' := 145) dX6_leg_144 rfl hw fr (by omega) (fun h hw fr => ?_)
                  simp only [upA_s, upA_2] at hw
                  refine ex_of (fun _ _ => ev_aload_n (pc' := 146) dX6_leg_145 rfl rfl) ?_
                  refine ex_of (fun _ _ => ev_getfield (pc' := 149) fX6_9 dX6_leg_146 rfl hw.o rfl) ?_
                  refine ex_of (fun _ _ => ev_sipush (pc' := 152) (iI (143)) dX6_leg_149 rfl (by decide)) ?_
                  refine ex_of (fun _ _ => ev_bipush (pc' := 154) (iI (45)) dX6_leg_152 rfl (by decide)) ?_
                  refine ex_of (fun _ _ => ev_iload_n (pc' := 155) dX6_leg_154 rfl rfl) ?_
                  refine ex_of (fun _ _ => ev_imulI (pc' := 156) dX6_leg_155 rfl) ?_
                  refine ex_of (fun _ _ => ev_iaddI (pc' := 157) dX6_leg_156 rfl) ?_
                  refine ex_of (fun _ _ => ev_iconst (pc' := 158) (iI (3)) dX6_leg_157 rfl (by decide)) ?_
                  refine ex_of (fun _ _ => ev_iaddI (pc' := 159) dX6_leg_158 rfl) ?_
                  refine ex_of (fun _ _ => ev_dup2 (pc' := 160) dX6_leg_159 rfl rfl rfl) ?_
                  refine ex_of (fun _ _ => ev_ialoadI (pc' := 161) dX6_leg_160 rfl hw.a0 (by decide) (by omega)) ?_
                  have x1 : ∀ z : Int, upI (upI (upI (upI (A 0) (143 + 45 * k + 4 + 4 * A 0 (143 + 45 * k + 3)) q) (143 + 45 * k + 4 + 4 * A 0 (143 + 45 * k + 3) + 1) z) (143 + 45 * k + 4 + 4 * A 0 (143 + 45 * k + 3) + 2) f) (143 + 45 * k + 4 + 4 * A 0 (143 + 45 * k + 3) + 3) hr (143 + 45 * k + 3) = A 0 (143 + 45 * k + 3) := fun z => by rw [upI_n (by omega), upI_n (by omega), upI_n (by omega), upI_n (by omega)]
                  rw [upA_s, x1]
                  refine ex_of (fun _ _ => ev_iconst (pc' := 162) (iI (1)) dX6_leg_161 rfl (by decide)) ?_
                  refine ex_of (fun _ _ => ev_iaddI (pc' := 163) dX6_leg_162 rfl) ?_
                  refine xst_0 (pc' := 164) dX6_leg_163 rfl hw fr (by omega) (fun h hw fr => ?_)
                  refine ex_of (fun _ _ => ev_iload (pc' := 166) dX6_leg_164 rfl rfl) ?_
                  refine ex_of (fun _ _ => ev_iconst (pc' := 167) (iI (1)) dX6_leg_166 rfl (by decide)) ?_
                  refine ex_of (fun _ _ => ev_iaddI (pc' := 168) dX6_leg_167 rfl) ?_
                  exact ex_end (ev_iret dX6_leg_168 rfl) (by simp only [upA_s, upA_2] at hw; have e2 : lgO (A 0) k f = false := (by unfold lgO; apply decide_eq_false; omega); exact uP_t (by unfold lgB; rw [hv, e2, decide_eq_false (show ¬ A 0 (143 + 45 * k + 3) = 6 by omega)]; rfl) (by unfold lgS; (first | rw [if_pos (show ea = 0 by omega)] | rw [if_neg (show ¬ ea = 0 by omega)]); exact hw) fr)
              · refine ex_of (fun _ _ => ev_bipush (pc' := 79) (iI (-3)) dX6_leg_77 rfl (by decide)) ?_
                exact ex_end (ev_iret dX6_leg_79 rfl) (by have e : lgE (A 0) k q f hr = -3 := (by unfold lgE; rw [if_pos hv, if_neg (by omega)]); have e2 : lgO (A 0) k f = true := (by unfold lgO; apply decide_eq_true; omega); rw [e]; exact uP_f (by unfold lgB; rw [hv, e2]; simp) hw fr)
          · refine ex_of (fun _ _ => ev_bipush (pc' := 57) (iI (-2)) dX6_leg_55 rfl (by decide)) ?_
            exact ex_end (ev_iret dX6_leg_57 rfl) (by have e : lgE (A 0) k q f hr = -2 := (by unfold lgE; rw [if_pos hv, if_pos (by omega)]); rw [e]; exact uP_f (by unfold lgB; rw [hv, decide_eq_true (show A 0 (143 + 45 * k + 3) = 6 by omega)]; rfl) hw fr)
        · refine ex_of (fun _ _ => ev_iconst (pc' := 39) (iI (-1)) dX6_leg_38 rfl (by decide)) ?_
          exact ex_end (ev_iret dX6_leg_39 rfl) (by have e1 : lgV (A 0) k q f hr = false := (by unfold lgV; apply decide_eq_false; omega); have e : lgE (A 0) k q f hr = -1 := (by unfold lgE; rw [if_neg (by rw [e1]; decide)]); rw [e]; exact uP_f (by unfold lgB; rw [e1]; rfl) hw fr)
def cpS (S : Int → Int) (k t b : Int) : Int → Int := upI (upI (upI S (143 + 45 * k + 28 + 1 + 2 * S (143 + 45 * k + 28)) t) (143 + 45 * k + 28 + 2 + 2 * S (143 + 45 * k + 28)) b) (143 + 45 * k + 28) (S (143 + 45 * k + 28) + 1)
def cpB (S : Int → Int) (k t b : Int) : Bool := decide (((0 ≤ k ∧ k < S 1) ∧ (0 ≤ t ∧ t ≤ 19999) ∧ (b = 1 ∨ b = -1)) ∧ S (143 + 45 * k + 28) ≠ 8 ∧ S (143 + 45 * k + 0) = 4)
def cpX (S : Int → Int) (k t b : Int) : Int := if (0 ≤ k ∧ k < S 1) ∧ (0 ≤ t ∧ t ≤ 19999) ∧ (b = 1 ∨ b = -1) then (if S (143 + 45 * k + 28) = 8 then -2 else -3) else -1
theorem e6_captain {k t b : Int} (hw : MW h o A) (hI : mI0 (A 0)) (hK : ∀ k, 0 ≤ k → k < A 0 1 → mT (A 0) k) (rk : -2147483648 ≤ k ∧ k < 2147483648) (rt : -2147483648 ≤ t ∧ t < 2147483648) (rb : -2147483648 ≤ b ∧ b < 2147483648) : Ex l 2 yX6_captain.cls yX6_captain.name cX6_captain 5 (some .int) 0 [some (.ref 34), some (.int (iI k)), some (.int (iI t)), some (.int (iI b)), none] [] h (uP h o A (upA A 0 (cpS (A 0) k t b)) (cpB (A 0) k t b) (some (.int (iI (A 0 (143 + 45 * k + 28) + 1)))) (some (.int (iI (cpX (A 0) k t b))))) := by
  obtain ⟨⟨i1, i2⟩, ⟨i3, i4⟩, i5, i6⟩ := id hI
  have fr := FrM.rf h
  refine ex_of (fun _ _ => ev_aload_n (pc' := 1) dX6_captain_0 rfl rfl) ?_
  refine ex_of (fun _ _ => ev_iload_n (pc' := 2) dX6_captain_1 rfl rfl) ?_
  refine ex_of (fun _ _ => ev_callV1 (pc' := 5) kX6_157 mX6_isOne dX6_captain_2 rfl rfl (Nat.le_of_ble_eq_true rfl) (Nat.le_of_ble_eq_true rfl) (by decide) rfl hw.o (e6_isOne hw hI (by omega))) ?_
  refine ex_ifd_eq (pc' := 8) (tgt := 26) dX6_captain_5 (by decide) rfl (fun c5 => ?_) (fun c5 => ?_)
  · refine ex_of (fun _ _ => ev_iconst (pc' := 27) (iI (-1)) dX6_captain_26 rfl (by decide)) ?_
    exact ex_end (ev_iret dX6_captain_27 rfl) (by have e : cpX (A 0) k t b = -1 := (by unfold cpX; rw [if_neg (by omega)]); rw [e]; exact uP_f (by unfold cpB; apply decide_eq_false; omega) hw fr)
  · refine ex_of (fun _ _ => ev_iload_n (pc' := 9) dX6_captain_8 rfl rfl) ?_
    refine ex_of (fun _ _ => ev_i2lI (pc' := 10) dX6_captain_9 rfl (by omega)) ?_
    refine ex_of (fun _ _ => ev_callS1 (pc' := 13) kX6_141 mX6_isMinute dX6_captain_10 rfl rfl (Nat.le_of_ble_eq_true rfl) (Nat.le_of_ble_eq_true rfl) (by decide) (e6_isMinute (by omega))) ?_
    refine ex_ifd_eq (pc' := 16) (tgt := 26) dX6_captain_13 (by decide) rfl (fun c13 => ?_) (fun c13 => ?_)
    · refine ex_of (fun _ _ => ev_iconst (pc' := 27) (iI (-1)) dX6_captain_26 rfl (by decide)) ?_
      exact ex_end (ev_iret dX6_captain_27 rfl) (by have e : cpX (A 0) k t b = -1 := (by unfold cpX; rw [if_neg (by omega)]); rw [e]; exact uP_f (by unfold cpB; apply decide_eq_false; omega) hw fr)
    · refine ex_of (fun _ _ => ev_iload_n (pc' := 17) dX6_captain_16 rfl rfl) ?_
      refine ex_of (fun _ _ => ev_iconst (pc' := 18) (iI (1)) dX6_captain_17 rfl (by decide)) ?_
      refine ex_icmpI_eq (pc' := 21) (tgt := 28) dX6_captain_18 (by decide) rfl (by omega) (by omega) (fun c18 => ?_) (fun c18 => ?_)
      · obtain ⟨t0, t1, t2, t3, t4, t5, -⟩ := hK k (by omega) (by omega)
        refine ex_of (fun _ _ => ev_sipush (pc' := 31) (iI (143)) dX6_captain_28 rfl (by decide)) ?_
        refine ex_of (fun _ _ => ev_bipush (pc' := 33) (iI (45)) dX6_captain_31 rfl (by decide)) ?_
        refine ex_of (fun _ _ => ev_iload_n (pc' := 34) dX6_captain_33 rfl rfl) ?_
        refine ex_of (fun _ _ => ev_imulI (pc' := 35) dX6_captain_34 rfl) ?_
        refine ex_of (fun _ _ => ev_iaddI (pc' := 36) dX6_captain_35 rfl) ?_
        refine ex_of (fun _ _ => ev_bipush (pc' := 38) (iI (28)) dX6_captain_36 rfl (by decide)) ?_
        refine ex_of (fun _ _ => ev_iaddI (pc' := 39) dX6_captain_38 rfl) ?_
        refine ex_of (fun _ _ => ev_istore_4 (pc' := 41) dX6_captain_39 rfl (by decide) rfl) ?_
        refine ex_of (fun _ _ => ev_aload_n (pc' := 42) dX6_captain_41 rfl rfl) ?_
        refine ex_of (fun _ _ => ev_getfield (pc' := 45) fX6_9 dX6_captain_42 rfl hw.o rfl) ?_
        refine ex_of (fun _ _ => ev_iload (pc' := 47) dX6_captain_45 rfl rfl) ?_
        refine ex_of (fun _ _ => ev_ialoadI (pc' := 48) dX6_captain_47 rfl hw.a0 (by decide) (by omega)) ?_
        refine ex_of (fun _ _ => ev_bipush (pc' := 50) (iI (8)) dX6_captain_48 rfl (by decide)) ?_
        refine ex_icmpI_ne (pc' := 53) (tgt := 56) dX6_captain_50 (by decide) rfl (by omega) (by omega) (fun c50 => ?_) (fun c50 => ?_)
        · refine ex_of (fun _ _ => ev_aload_n (pc' := 57) dX6_captain_56 rfl rfl) ?_
          refine ex_of (fun _ _ => ev_iload_n (pc' := 58) dX6_captain_57 rfl rfl) ?_
          refine ex_of (fun _ _ => ev_iconst (pc' := 59) (iI (0)) dX6_captain_58 rfl (by decide)) ?_
          refine ex_of (fun _ _ => ev_callV2 (pc' := 62) kX6_150 mX6_tell dX6_captain_59 rfl rfl (Nat.le_of_ble_eq_true rfl) (Nat.le_of_ble_eq_true rfl) (by decide) rfl hw.o (e6_tell hw (by omega))) ?_
          refine ex_of (fun _ _ => ev_iconst (pc' := 63) (iI (4)) dX6_captain_62 rfl (by decide)) ?_
          refine ex_icmpI_eq (pc' := 66) (tgt := 69) dX6_captain_63 (by decide) rfl (by omega) (by omega) (fun c63 => ?_) (fun c63 => ?_)
          · refine ex_of (fun _ _ => ev_aload_n (pc' := 70) dX6_captain_69 rfl rfl) ?_
            refine ex_of (fun _ _ => ev_getfield (pc' := 73) fX6_9 dX6_captain_70 rfl hw.o rfl) ?_
            refine ex_of (fun _ _ => ev_iload (pc' := 75) dX6_captain_73 rfl rfl) ?_
            refine ex_of (fun _ _ => ev_iconst (pc' := 76) (iI (1)) dX6_captain_75 rfl (by decide)) ?_
            refine ex_of (fun _ _ => ev_iaddI (pc' := 77) dX6_captain_76 rfl) ?_
            refine ex_of (fun _ _ => ev_iconst (pc' := 78) (iI (2)) dX6_captain_77 rfl (by decide)) ?_
            refine ex_of (fun _ _ => ev_aload_n (pc' := 79) dX6_captain_78 rfl rfl) ?_
            refine ex_of (fun _ _ => ev_getfield (pc' := 82) fX6_9 dX6_captain_79 rfl hw.o rfl) ?_
            refine ex_of (fun _ _ => ev_iload (pc' := 84) dX6_captain_82 rfl rfl) ?_
            refine ex_of (fun _ _ => ev_ialoadI (pc' := 85) dX6_captain_84 rfl hw.a0 (by decide) (by omega)) ?_
            refine ex_of (fun _ _ => ev_imulI (pc' := 86) dX6_captain_85 rfl) ?_
            refine ex_of (fun _ _ => ev_iaddI (pc' := 87) dX6_captain_86 rfl) ?_
            refine ex_of (fun _ _ => ev_iload_n (pc' := 88) dX6_captain_87 rfl rfl) ?_
            refine xst_0 (pc' := 89) dX6_captain_88 rfl hw fr (by omega) (fun h hw fr => ?_)
            refine ex_of (fun _ _ => ev_aload_n (pc' := 90) dX6_captain_89 rfl rfl) ?_
            refine ex_of (fun _ _ => ev_getfield (pc' := 93) fX6_9 dX6_captain_90 rfl hw.o rfl) ?_
            refine ex_of (fun _ _ => ev_iload (pc' := 95) dX6_captain_93 rfl rfl) ?_
            refine ex_of (fun _ _ => ev_iconst (pc' := 96) (iI (2)) dX6_captain_95 rfl (by decide)) ?_
            refine ex_of (fun _ _ => ev_iaddI (pc' := 97) dX6_captain_96 rfl) ?_
            refine ex_of (fun _ _ => ev_iconst (pc' := 98) (iI (2)) dX6_captain_97 rfl (by decide)) ?_
            refine ex_of (fun _ _ => ev_aload_n (pc' := 99) dX6_captain_98 rfl rfl) ?_
            refine ex_of (fun _ _ => ev_getfield (pc' := 102) fX6_9 dX6_captain_99 rfl hw.o rfl) ?_
            refine ex_of (fun _ _ => ev_iload (pc' := 104) dX6_captain_102 rfl rfl) ?_
            refine ex_of (fun _ _ => ev_ialoadI (pc' := 105) dX6_captain_104 rfl hw.a0 (by decide) (by omega)) ?_
            have x1 : upI (A 0) (143 + 45 * k + 28 + 1 + 2 * A 0 (143 + 45 * k + 28)) t (143 + 45 * k + 28) = A 0 (143 + 45 * k + 28) := upI_n (by omega)
            rw [upA_s, x1]
            refine ex_of (fun _ _ => ev_imulI (pc' := 106) dX6_captain_105 rfl) ?_
            refine ex_of (fun _ _ => ev_iaddI (pc' := 107) dX6_captain_106 rfl) ?_
            refine ex_of (fun _ _ => ev_iload_n (pc' := 108) dX6_captain_107 rfl rfl) ?_
            refine xst_0 (pc' := 109) dX6_captain_108 rfl hw fr (by omega) (fun h hw fr => ?_)
            simp only [upA_s, upA_2] at hw
            refine ex_of (fun _ _ => ev_aload_n (pc' := 110) dX6_captain_109 rfl rfl) ?_
            refine ex_of (fun _ _ => ev_getfield (pc' := 113) fX6_9 dX6_captain_110 rfl hw.o rfl) ?_
            refine ex_of (fun _ _ => ev_iload (pc' := 115) dX6_captain_113 rfl rfl) ?_
            refine ex_of (fun _ _ => ev_dup2 (pc' := 116) dX6_captain_115 rfl rfl rfl) ?_
            refine ex_of (fun _ _ => ev_ialoadI (pc' := 117) dX6_captain_116 rfl hw.a0 (by decide) (by omega)) ?_
            have x2 : upI (upI (A 0) (143 + 45 * k + 28 + 1 + 2 * A 0 (143 + 45 * k + 28)) t) (143 + 45 * k + 28 + 2 + 2 * A 0 (143 + 45 * k + 28)) b (143 + 45 * k + 28) = A 0 (143 + 45 * k + 28) := by rw [upI_n (by omega), upI_n (by omega)]
            rw [upA_s, x2]
            refine ex_of (fun _ _ => ev_iconst (pc' := 118) (iI (1)) dX6_captain_117 rfl (by decide)) ?_
            refine ex_of (fun _ _ => ev_iaddI (pc' := 119) dX6_captain_118 rfl) ?_
            refine xst_0 (pc' := 120) dX6_captain_119 rfl hw fr (by omega) (fun h hw fr => ?_)
            simp only [upA_s, upA_2] at hw
            refine ex_of (fun _ _ => ev_aload_n (pc' := 121) dX6_captain_120 rfl rfl) ?_
            refine ex_of (fun _ _ => ev_getfield (pc' := 124) fX6_9 dX6_captain_121 rfl hw.o rfl) ?_
            refine ex_of (fun _ _ => ev_iload (pc' := 126) dX6_captain_124 rfl rfl) ?_
            refine ex_of (fun _ _ => ev_ialoadI (pc' := 127) dX6_captain_126 rfl hw.a0 (by decide) (by omega)) ?_
            rw [upA_s, upI_s]
            exact ex_end (ev_iret dX6_captain_127 rfl) (uP_t (by unfold cpB; apply decide_eq_true; omega) hw fr)
          · refine ex_of (fun _ _ => ev_bipush (pc' := 68) (iI (-3)) dX6_captain_66 rfl (by decide)) ?_
            exact ex_end (ev_iret dX6_captain_68 rfl) (by have e : cpX (A 0) k t b = -3 := (by unfold cpX; rw [if_pos (by omega), if_neg (by omega)]); rw [e]; exact uP_f (by unfold cpB; apply decide_eq_false; omega) hw fr)
        · refine ex_of (fun _ _ => ev_bipush (pc' := 55) (iI (-2)) dX6_captain_53 rfl (by decide)) ?_
          exact ex_end (ev_iret dX6_captain_55 rfl) (by have e : cpX (A 0) k t b = -2 := (by unfold cpX; rw [if_pos (by omega), if_pos (by omega)]); rw [e]; exact uP_f (by unfold cpB; apply decide_eq_false; omega) hw fr)
      · refine ex_of (fun _ _ => ev_iload_n (pc' := 22) dX6_captain_21 rfl rfl) ?_
        refine ex_of (fun _ _ => ev_iconst (pc' := 23) (iI (-1)) dX6_captain_22 rfl (by decide)) ?_
        refine ex_icmpI_eq (pc' := 26) (tgt := 28) dX6_captain_23 (by decide) rfl (by omega) (by omega) (fun c23 => ?_) (fun c23 => ?_)
        · obtain ⟨t0, t1, t2, t3, t4, t5, -⟩ := hK k (by omega) (by omega)
          refine ex_of (fun _ _ => ev_sipush (pc' := 31) (iI (143)) dX6_captain_28 rfl (by decide)) ?_
          refine ex_of (fun _ _ => ev_bipush (pc' := 33) (iI (45)) dX6_captain_31 rfl (by decide)) ?_
          refine ex_of (fun _ _ => ev_iload_n (pc' := 34) dX6_captain_33 rfl rfl) ?_
          refine ex_of (fun _ _ => ev_imulI (pc' := 35) dX6_captain_34 rfl) ?_
          refine ex_of (fun _ _ => ev_iaddI (pc' := 36) dX6_captain_35 rfl) ?_
          refine ex_of (fun _ _ => ev_bipush (pc' := 38) (iI (28)) dX6_captain_36 rfl (by decide)) ?_
          refine ex_of (fun _ _ => ev_iaddI (pc' := 39) dX6_captain_38 rfl) ?_
          refine ex_of (fun _ _ => ev_istore_4 (pc' := 41) dX6_captain_39 rfl (by decide) rfl) ?_
          refine ex_of (fun _ _ => ev_aload_n (pc' := 42) dX6_captain_41 rfl rfl) ?_
          refine ex_of (fun _ _ => ev_getfield (pc' := 45) fX6_9 dX6_captain_42 rfl hw.o rfl) ?_
          refine ex_of (fun _ _ => ev_iload (pc' := 47) dX6_captain_45 rfl rfl) ?_
          refine ex_of (fun _ _ => ev_ialoadI (pc' := 48) dX6_captain_47 rfl hw.a0 (by decide) (by omega)) ?_
          refine ex_of (fun _ _ => ev_bipush (pc' := 50) (iI (8)) dX6_captain_48 rfl (by decide)) ?_
          refine ex_icmpI_ne (pc' := 53) (tgt := 56) dX6_captain_50 (by decide) rfl (by omega) (by omega) (fun c50 => ?_) (fun c50 => ?_)
          · refine ex_of (fun _ _ => ev_aload_n (pc' := 57) dX6_captain_56 rfl rfl) ?_
            refine ex_of (fun _ _ => ev_iload_n (pc' := 58) dX6_captain_57 rfl rfl) ?_
            refine ex_of (fun _ _ => ev_iconst (pc' := 59) (iI (0)) dX6_captain_58 rfl (by decide)) ?_
            refine ex_of (fun _ _ => ev_callV2 (pc' := 62) kX6_150 mX6_tell dX6_captain_59 rfl rfl (Nat.le_of_ble_eq_true rfl) (Nat.le_of_ble_eq_true rfl) (by decide) rfl hw.o (e6_tell hw (by omega))) ?_
            refine ex_of (fun _ _ => ev_iconst (pc' := 63) (iI (4)) dX6_captain_62 rfl (by decide)) ?_
            refine ex_icmpI_eq (pc' := 66) (tgt := 69) dX6_captain_63 (by decide) rfl (by omega) (by omega) (fun c63 => ?_) (fun c63 => ?_)
            · refine ex_of (fun _ _ => ev_aload_n (pc' := 70) dX6_captain_69 rfl rfl) ?_
              refine ex_of (fun _ _ => ev_getfield (pc' := 73) fX6_9 dX6_captain_70 rfl hw.o rfl) ?_
              refine ex_of (fun _ _ => ev_iload (pc' := 75) dX6_captain_73 rfl rfl) ?_
              refine ex_of (fun _ _ => ev_iconst (pc' := 76) (iI (1)) dX6_captain_75 rfl (by decide)) ?_
              refine ex_of (fun _ _ => ev_iaddI (pc' := 77) dX6_captain_76 rfl) ?_
              refine ex_of (fun _ _ => ev_iconst (pc' := 78) (iI (2)) dX6_captain_77 rfl (by decide)) ?_
              refine ex_of (fun _ _ => ev_aload_n (pc' := 79) dX6_captain_78 rfl rfl) ?_
              refine ex_of (fun _ _ => ev_getfield (pc' := 82) fX6_9 dX6_captain_79 rfl hw.o rfl) ?_
              refine ex_of (fun _ _ => ev_iload (pc' := 84) dX6_captain_82 rfl rfl) ?_
              refine ex_of (fun _ _ => ev_ialoadI (pc' := 85) dX6_captain_84 rfl hw.a0 (by decide) (by omega)) ?_
              refine ex_of (fun _ _ => ev_imulI (pc' := 86) dX6_captain_85 rfl) ?_
              refine ex_of (fun _ _ => ev_iaddI (pc' := 87) dX6_captain_86 rfl) ?_
              refine ex_of (fun _ _ => ev_iload_n (pc' := 88) dX6_captain_87 rfl rfl) ?_
              refine xst_0 (pc' := 89) dX6_captain_88 rfl hw fr (by omega) (fun h hw fr => ?_)
              refine ex_of (fun _ _ => ev_aload_n (pc' := 90) dX6_captain_89 rfl rfl) ?_
              refine ex_of (fun _ _ => ev_getfield (pc' := 93) fX6_9 dX6_captain_90 rfl hw.o rfl) ?_
              refine ex_of (fun _ _ => ev_iload (pc' := 95) dX6_captain_93 rfl rfl) ?_
              refine ex_of (fun _ _ => ev_iconst (pc' := 96) (iI (2)) dX6_captain_95 rfl (by decide)) ?_
              refine ex_of (fun _ _ => ev_iaddI (pc' := 97) dX6_captain_96 rfl) ?_
              refine ex_of (fun _ _ => ev_iconst (pc' := 98) (iI (2)) dX6_captain_97 rfl (by decide)) ?_
              refine ex_of (fun _ _ => ev_aload_n (pc' := 99) dX6_captain_98 rfl rfl) ?_
              refine ex_of (fun _ _ => ev_getfield (pc' := 102) fX6_9 dX6_captain_99 rfl hw.o rfl) ?_
              refine ex_of (fun _ _ => ev_iload (pc' := 104) dX6_captain_102 rfl rfl) ?_
              refine ex_of (fun _ _ => ev_ialoadI (pc' := 105) dX6_captain_104 rfl hw.a0 (by decide) (by omega)) ?_
              have x1 : upI (A 0) (143 + 45 * k + 28 + 1 + 2 * A 0 (143 + 45 * k + 28)) t (143 + 45 * k + 28) = A 0 (143 + 45 * k + 28) := upI_n (by omega)
              rw [upA_s, x1]
              refine ex_of (fun _ _ => ev_imulI (pc' := 106) dX6_captain_105 rfl) ?_
              refine ex_of (fun _ _ => ev_iaddI (pc' := 107) dX6_captain_106 rfl) ?_
              refine ex_of (fun _ _ => ev_iload_n (pc' := 108) dX6_captain_107 rfl rfl) ?_
              refine xst_0 (pc' := 109) dX6_captain_108 rfl hw fr (by omega) (fun h hw fr => ?_)
              simp only [upA_s, upA_2] at hw
              refine ex_of (fun _ _ => ev_aload_n (pc' := 110) dX6_captain_109 rfl rfl) ?_
              refine ex_of (fun _ _ => ev_getfield (pc' := 113) fX6_9 dX6_captain_110 rfl hw.o rfl) ?_
              refine ex_of (fun _ _ => ev_iload (pc' := 115) dX6_captain_113 rfl rfl) ?_
              refine ex_of (fun _ _ => ev_dup2 (pc' := 116) dX6_captain_115 rfl rfl rfl) ?_
              refine ex_of (fun _ _ => ev_ialoadI (pc' := 117) dX6_captain_116 rfl hw.a0 (by decide) (by omega)) ?_
              have x2 : upI (upI (A 0) (143 + 45 * k + 28 + 1 + 2 * A 0 (143 + 45 * k + 28)) t) (143 + 45 * k + 28 + 2 + 2 * A 0 (143 + 45 * k + 28)) b (143 + 45 * k + 28) = A 0 (143 + 45 * k + 28) := by rw [upI_n (by omega), upI_n (by omega)]
              rw [upA_s, x2]
              refine ex_of (fun _ _ => ev_iconst (pc' := 118) (iI (1)) dX6_captain_117 rfl (by decide)) ?_
              refine ex_of (fun _ _ => ev_iaddI (pc' := 119) dX6_captain_118 rfl) ?_
              refine xst_0 (pc' := 120) dX6_captain_119 rfl hw fr (by omega) (fun h hw fr => ?_)
              simp only [upA_s, upA_2] at hw
              refine ex_of (fun _ _ => ev_aload_n (pc' := 121) dX6_captain_120 rfl rfl) ?_
              refine ex_of (fun _ _ => ev_getfield (pc' := 124) fX6_9 dX6_captain_121 rfl hw.o rfl) ?_
              refine ex_of (fun _ _ => ev_iload (pc' := 126) dX6_captain_124 rfl rfl) ?_
              refine ex_of (fun _ _ => ev_ialoadI (pc' := 127) dX6_captain_126 rfl hw.a0 (by decide) (by omega)) ?_
              rw [upA_s, upI_s]
              exact ex_end (ev_iret dX6_captain_127 rfl) (uP_t (by unfold cpB; apply decide_eq_true; omega) hw fr)
            · refine ex_of (fun _ _ => ev_bipush (pc' := 68) (iI (-3)) dX6_captain_66 rfl (by decide)) ?_
              exact ex_end (ev_iret dX6_captain_68 rfl) (by have e : cpX (A 0) k t b = -3 := (by unfold cpX; rw [if_pos (by omega), if_neg (by omega)]); rw [e]; exact uP_f (by unfold cpB; apply decide_eq_false; omega) hw fr)
          · refine ex_of (fun _ _ => ev_bipush (pc' := 55) (iI (-2)) dX6_captain_53 rfl (by decide)) ?_
            exact ex_end (ev_iret dX6_captain_55 rfl) (by have e : cpX (A 0) k t b = -2 := (by unfold cpX; rw [if_pos (by omega), if_pos (by omega)]); rw [e]; exact uP_f (by unfold cpB; apply decide_eq_false; omega) hw fr)
        · refine ex_of (fun _ _ => ev_iconst (pc' := 27) (iI (-1)) dX6_captain_26 rfl (by decide)) ?_
          exact ex_end (ev_iret dX6_captain_27 rfl) (by have e : cpX (A 0) k t b = -1 := (by unfold cpX; rw [if_neg (by omega)]); rw [e]; exact uP_f (by unfold cpB; apply decide_eq_false; omega) hw fr)
end MM
