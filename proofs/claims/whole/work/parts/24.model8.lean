section MI
variable {l : Launch} {A : Nat → Int → Int} {h : ev_H} {o : Nat → Int}
theorem wrI_b {S : Int → Int} {a t : Int} (hI : mI0 S) (hJ : mIP S) (hT : mIT S) (ha : 0 ≤ a ∧ a < S 0) : ∀ n : Nat, (n : Int) ≤ S 0 → 0 ≤ wrI S a t n ∧ wrI S a t n ≤ 197802 * n
  | 0, _ => by simp [wrI]
  | n + 1, hn => by
    have ih := wrI_b (t := t) hI hJ hT ha n (by omega)
    obtain ⟨⟨i1, i2⟩, -⟩ := hI
    obtain ⟨-, -, -, p1⟩ := hJ a ha.1 ha.2
    obtain ⟨-, -, -, p2⟩ := hJ (n : Int) (by omega) (by omega)
    obtain ⟨q1, -⟩ := hT a (n : Int) (by omega) (by omega) (by omega) (by omega)
    have m1 := mul_bd (x := S (43 + 10 * a + (n : Int))) (y := S (3 + 4 * a + 3) + S (3 + 4 * (n : Int) + 3)) (X := 99) (Y := 1998) (by omega) (by omega)
    have m2 := Int.mul_nonneg q1.1 (show 0 ≤ S (3 + 4 * a + 3) + S (3 + 4 * (n : Int) + 3) by omega)
    unfold wrI
    split <;> omega
theorem wrO_b {S : Int → Int} {t : Int} (hI : mI0 S) (hJ : mIP S) (hT : mIT S) : ∀ n : Nat, (n : Int) ≤ S 0 → 0 ≤ wrO S t n ∧ wrO S t n ≤ 1978020 * n
  | 0, _ => by simp [wrO]
  | n + 1, hn => by
    have ih := wrO_b (t := t) hI hJ hT n (by omega)
    have := wrI_b (t := t) hI hJ hT (a := (n : Int)) (by omega) n (by omega)
    obtain ⟨⟨i1, i2⟩, -⟩ := hI
    unfold wrO
    omega
theorem mIT_line {S : Int → Int} {g : Int} (hT : mIT S) : mIT (upI S 2 g) := by
  intro a b h1 h2 h3 h4
  rw [upI_n (by omega), upI_n (by omega)]
  exact hT a b h1 h2 h3 h4
theorem sWr_b {S : Int → Int} {g t : Int} (hI : mI0 S) (hJ : mIP S) (hT : mIT S) (hg : 0 ≤ g ∧ g < 360) : 0 ≤ sWr S g t ∧ sWr S g t ≤ 20000000 := by
  have e0 : upI S 2 g 0 = S 0 := upI_n (by decide)
  obtain ⟨⟨i1, i2⟩, -⟩ := id hI
  have := wrO_b (t := t) (mI0_line hI hg) (mIP_line (g := g) hJ) (mIT_line (g := g) hT) (S 0).toNat (by omega)
  unfold sWr
  omega
def sWrong (S : Int → Int) (g t : Int) : Int := if (0 ≤ g ∧ g ≤ 359) ∧ (0 ≤ t ∧ t ≤ 19999) then sWr S g t else -1
def blL (S : Int → Int) (t : Int) : Nat → Int
  | 0 => 0
  | n + 1 => if sWr S (15 * ((n : Int) + 1)) t < sWr S (blL S t n) t then 15 * ((n : Int) + 1) else blL S t n
theorem blL_b (S : Int → Int) (t : Int) : ∀ n : Nat, 0 ≤ blL S t n ∧ blL S t n ≤ 15 * n
  | 0 => by simp [blL]
  | n + 1 => by
    have ih := blL_b S t n
    unfold blL
    split <;> omega
def sBest (S : Int → Int) (t w : Int) : Int := if (0 ≤ t ∧ t ≤ 19999) ∧ (0 ≤ w ∧ w ≤ 1) then (if w = 0 then blL S t 23 else sWr S (blL S t 23) t) else -1
theorem e6_wrong {g t : Int} (hw : MW h o A) (hI : mI0 (A 0)) (hJ : mIP (A 0)) (hT : mIT (A 0)) (rg : -2147483648 ≤ g ∧ g < 2147483648) (rt : -2147483648 ≤ t ∧ t < 2147483648) : Ex l 4 yX6_wrong.cls yX6_wrong.name cX6_wrong 3 (some .int) 0 [some (.ref 34), some (.int (iI g)), some (.int (iI t))] [] h (rP h o A (some (.int (iI (sWrong (A 0) g t))))) := by
  obtain ⟨⟨i1, i2⟩, ⟨i3, i4⟩, i5, i6⟩ := id hI
  have fr := FrM.rf h
  refine ex_of (fun _ _ => ev_iload_n (pc' := 1) dX6_wrong_0 rfl rfl) ?_
  refine ex_of (fun _ _ => ev_i2lI (pc' := 2) dX6_wrong_1 rfl (by omega)) ?_
  refine ex_of (fun _ _ => ev_lconst (pc' := 3) (jJ (0)) dX6_wrong_2 rfl (by decide)) ?_
  refine ex_of (fun _ _ => ev_ldc2I (pc' := 6) (359) nX6_117 dX6_wrong_3 rfl (by decide)) ?_
  refine ex_of (fun _ _ => ev_callS3 (pc' := 9) kX6_48 mX6_isIn dX6_wrong_6 rfl rfl (Nat.le_of_ble_eq_true rfl) (Nat.le_of_ble_eq_true rfl) (by decide) (e6_isIn (by omega) (by omega) (by omega))) ?_
  refine ex_ifd_eq (pc' := 12) (tgt := 29) dX6_wrong_9 (by decide) rfl (fun c9 => ?_) (fun c9 => ?_)
  · refine ex_of (fun _ _ => ev_iconst (pc' := 30) (iI (-1)) dX6_wrong_29 rfl (by decide)) ?_
    exact ex_end (ev_iret dX6_wrong_30 rfl) (⟨by unfold sWrong; first | rw [if_pos (by omega)] | rw [if_neg (by omega)], hw, fr⟩)
  · refine ex_of (fun _ _ => ev_iload_n (pc' := 13) dX6_wrong_12 rfl rfl) ?_
    refine ex_of (fun _ _ => ev_i2lI (pc' := 14) dX6_wrong_13 rfl (by omega)) ?_
    refine ex_of (fun _ _ => ev_callS1 (pc' := 17) kX6_141 mX6_isMinute dX6_wrong_14 rfl rfl (Nat.le_of_ble_eq_true rfl) (Nat.le_of_ble_eq_true rfl) (by decide) (e6_isMinute (by omega))) ?_
    refine ex_ifd_eq (pc' := 20) (tgt := 29) dX6_wrong_17 (by decide) rfl (fun c17 => ?_) (fun c17 => ?_)
    · refine ex_of (fun _ _ => ev_iconst (pc' := 30) (iI (-1)) dX6_wrong_29 rfl (by decide)) ?_
      exact ex_end (ev_iret dX6_wrong_30 rfl) (⟨by unfold sWrong; first | rw [if_pos (by omega)] | rw [if_neg (by omega)], hw, fr⟩)
    · refine ex_of (fun _ _ => ev_aload_n (pc' := 21) dX6_wrong_20 rfl rfl) ?_
      refine ex_of (fun _ _ => ev_iload_n (pc' := 22) dX6_wrong_21 rfl rfl) ?_
      refine ex_of (fun _ _ => ev_iload_n (pc' := 23) dX6_wrong_22 rfl rfl) ?_
      have hO := hw.o
      obtain ⟨w1, h1, E1, rfl, hw, fr1⟩ := e6_wrongBy (l := l) (g := g) (t := t) hw hI hJ hT (by omega) (by omega)
      refine ex_of (fun _ _ => ev_callV2 (pc' := 26) kX6_219 mX6_wrongBy dX6_wrong_23 rfl rfl (Nat.le_of_ble_eq_true rfl) (Nat.le_of_ble_eq_true rfl) (by decide) rfl hO E1) ?_
      have fr := fr.tr fr1
      refine ex_of (fun _ _ => ev_goto (tgt := 30) dX6_wrong_26 (by decide)) ?_
      exact ex_end (ev_iret dX6_wrong_30 rfl) (⟨by unfold sWrong; first | rw [if_pos (by omega)] | rw [if_neg (by omega)], hw, fr⟩)
theorem e6_bstL {h0 : ev_H} {t w : Int} (hI : mI0 (A 0)) (hJ : mIP (A 0)) (hT : mIT (A 0)) (ht : 0 ≤ t ∧ t ≤ 19999) (hww : 0 ≤ w ∧ w ≤ 1) : ∀ (n i : Nat) (h : ev_H), i + n = 23 → MW h o A → FrM h0 h → Ex l 4 yX6_bestLine.cls yX6_bestLine.name cX6_bestLine 5 (some .int) 26 [some (.ref 34), some (.int (iI t)), some (.int (iI w)), some (.int (iI (blL (A 0) t i))), some (.int (iI (15 * ((i : Int) + 1))))] [] h (rP h0 o A (some (.int (iI (if w = 0 then blL (A 0) t 23 else sWr (A 0) (blL (A 0) t 23) t))))) := by
  intro n
  obtain ⟨⟨i1, i2⟩, ⟨i3, i4⟩, i5, i6⟩ := id hI
  induction n with
  | zero =>
    intro i h hn hw fr
    have ei : i = 23 := by omega
    subst ei
    have z0 := blL_b (A 0) t 23
    refine ex_of (fun _ _ => ev_iload (pc' := 28) dX6_bestLine_26 rfl rfl) ?_
    refine ex_of (fun _ _ => ev_sipush (pc' := 31) (iI (360)) dX6_bestLine_28 rfl (by decide)) ?_
    refine ex_icmpI_ge (pc' := 34) (tgt := 63) dX6_bestLine_31 (by decide) rfl (by omega) (by omega) (fun c31 => ?_) (fun c31 => ?_)
    · refine ex_of (fun _ _ => ev_iload_n (pc' := 64) dX6_bestLine_63 rfl rfl) ?_
      refine ex_ifI_ne (pc' := 67) (tgt := 71) dX6_bestLine_64 (by decide) rfl (by omega) (fun c64 => ?_) (fun c64 => ?_)
      · refine ex_of (fun _ _ => ev_aload_n (pc' := 72) dX6_bestLine_71 rfl rfl) ?_
        refine ex_of (fun _ _ => ev_iload_n (pc' := 73) dX6_bestLine_72 rfl rfl) ?_
        refine ex_of (fun _ _ => ev_iload_n (pc' := 74) dX6_bestLine_73 rfl rfl) ?_
        have hO := hw.o
        obtain ⟨w1, h1, E1, rfl, hw, fr1⟩ := e6_wrongBy (l := l) (g := blL (A 0) t 23) (t := t) hw hI hJ hT (by omega) (by omega)
        refine ex_of (fun _ _ => ev_callV2 (pc' := 77) kX6_219 mX6_wrongBy dX6_bestLine_74 rfl rfl (Nat.le_of_ble_eq_true rfl) (Nat.le_of_ble_eq_true rfl) (by decide) rfl hO E1) ?_
        have fr := fr.tr fr1
        exact ex_end (ev_iret dX6_bestLine_77 rfl) (⟨by first | rw [if_pos (by omega)] | rw [if_neg (by omega)], hw, fr⟩)
      · refine ex_of (fun _ _ => ev_iload_n (pc' := 68) dX6_bestLine_67 rfl rfl) ?_
        refine ex_of (fun _ _ => ev_goto (tgt := 77) dX6_bestLine_68 (by decide)) ?_
        exact ex_end (ev_iret dX6_bestLine_77 rfl) (⟨by first | rw [if_pos (by omega)] | rw [if_neg (by omega)], hw, fr⟩)
    · omega
  | succ n ih =>
    intro i h hn hw fr
    have z0 := blL_b (A 0) t i
    have z1 := sWr_b (g := 15 * ((i : Int) + 1)) (t := t) hI hJ hT (by omega)
    have z2 := sWr_b (g := blL (A 0) t i) (t := t) hI hJ hT (by omega)
    have e1 : blL (A 0) t (i + 1) = if sWr (A 0) (15 * ((i : Int) + 1)) t < sWr (A 0) (blL (A 0) t i) t then 15 * ((i : Int) + 1) else blL (A 0) t i := rfl
    refine ex_of (fun _ _ => ev_iload (pc' := 28) dX6_bestLine_26 rfl rfl) ?_
    refine ex_of (fun _ _ => ev_sipush (pc' := 31) (iI (360)) dX6_bestLine_28 rfl (by decide)) ?_
    refine ex_icmpI_ge (pc' := 34) (tgt := 63) dX6_bestLine_31 (by decide) rfl (by omega) (by omega) (fun c31 => ?_) (fun c31 => ?_)
    · omega
    · refine ex_of (fun _ _ => ev_aload_n (pc' := 35) dX6_bestLine_34 rfl rfl) ?_
      refine ex_of (fun _ _ => ev_iload (pc' := 37) dX6_bestLine_35 rfl rfl) ?_
      refine ex_of (fun _ _ => ev_iload_n (pc' := 38) dX6_bestLine_37 rfl rfl) ?_
      have hO := hw.o
      obtain ⟨w1, h1, E1, rfl, hw, fr1⟩ := e6_wrongBy (l := l) (g := 15 * ((i : Int) + 1)) (t := t) hw hI hJ hT (by omega) (by omega)
      refine ex_of (fun _ _ => ev_callV2 (pc' := 41) kX6_219 mX6_wrongBy dX6_bestLine_38 rfl rfl (Nat.le_of_ble_eq_true rfl) (Nat.le_of_ble_eq_true rfl) (by decide) rfl hO E1) ?_
      have fr := fr.tr fr1
      refine ex_of (fun _ _ => ev_aload_n (pc' := 42) dX6_bestLine_41 rfl rfl) ?_
      refine ex_of (fun _ _ => ev_iload_n (pc' := 43) dX6_bestLine_42 rfl rfl) ?_
      refine ex_of (fun _ _ => ev_iload_n (pc' := 44) dX6_bestLine_43 rfl rfl) ?_
      have hO := hw.o
      obtain ⟨w1, h1, E1, rfl, hw, fr1⟩ := e6_wrongBy (l := l) (g := blL (A 0) t i) (t := t) hw hI hJ hT (by omega) (by omega)
      refine ex_of (fun _ _ => ev_callV2 (pc' := 47) kX6_219 mX6_wrongBy dX6_bestLine_44 rfl rfl (Nat.le_of_ble_eq_true rfl) (Nat.le_of_ble_eq_true rfl) (by decide) rfl hO E1) ?_
      have fr := fr.tr fr1
      refine ex_icmpI_ge (pc' := 50) (tgt := 55) dX6_bestLine_47 (by decide) rfl (by omega) (by omega) (fun c47 => ?_) (fun c47 => ?_)
      · refine ex_of (fun _ _ => ev_iload_n (pc' := 56) dX6_bestLine_55 rfl rfl) ?_
        refine ex_of (fun _ _ => ev_istore_3 (pc' := 57) dX6_bestLine_56 rfl (by decide) rfl) ?_
        refine ex_of (fun _ _ => ev_iincI_4 (pc' := 60) dX6_bestLine_57 rfl (by decide) rfl) ?_
        refine ex_of (fun _ _ => ev_goto (tgt := 26) dX6_bestLine_60 (by decide)) ?_
        have K := ih (i + 1) _ (by omega) hw fr
        first | rw [e1, if_pos (by omega)] at K | rw [e1, if_neg (by omega)] at K
        rw [show 15 * (((i + 1 : Nat) : Int) + 1) = 15 * ((i : Int) + 1) + 15 by omega] at K
        exact K
      · refine ex_of (fun _ _ => ev_iload (pc' := 52) dX6_bestLine_50 rfl rfl) ?_
        refine ex_of (fun _ _ => ev_goto (tgt := 56) dX6_bestLine_52 (by decide)) ?_
        refine ex_of (fun _ _ => ev_istore_3 (pc' := 57) dX6_bestLine_56 rfl (by decide) rfl) ?_
        refine ex_of (fun _ _ => ev_iincI_4 (pc' := 60) dX6_bestLine_57 rfl (by decide) rfl) ?_
        refine ex_of (fun _ _ => ev_goto (tgt := 26) dX6_bestLine_60 (by decide)) ?_
        have K := ih (i + 1) _ (by omega) hw fr
        first | rw [e1, if_pos (by omega)] at K | rw [e1, if_neg (by omega)] at K
        rw [show 15 * (((i + 1 : Nat) : Int) + 1) = 15 * ((i : Int) + 1) + 15 by omega] at K
        exact K
theorem e6_bestLine {t w : Int} (hw : MW h o A) (hI : mI0 (A 0)) (hJ : mIP (A 0)) (hT : mIT (A 0)) (rt : -2147483648 ≤ t ∧ t < 2147483648) (rw : -2147483648 ≤ w ∧ w < 2147483648) : Ex l 4 yX6_bestLine.cls yX6_bestLine.name cX6_bestLine 5 (some .int) 0 [some (.ref 34), some (.int (iI t)), some (.int (iI w)), none, none] [] h (rP h o A (some (.int (iI (sBest (A 0) t w))))) := by
  obtain ⟨⟨i1, i2⟩, ⟨i3, i4⟩, i5, i6⟩ := id hI
  have fr := FrM.rf h
  refine ex_of (fun _ _ => ev_iload_n (pc' := 1) dX6_bestLine_0 rfl rfl) ?_
  refine ex_of (fun _ _ => ev_i2lI (pc' := 2) dX6_bestLine_1 rfl (by omega)) ?_
  refine ex_of (fun _ _ => ev_callS1 (pc' := 5) kX6_141 mX6_isMinute dX6_bestLine_2 rfl rfl (Nat.le_of_ble_eq_true rfl) (Nat.le_of_ble_eq_true rfl) (by decide) (e6_isMinute (by omega))) ?_
  refine ex_ifd_eq (pc' := 8) (tgt := 18) dX6_bestLine_5 (by decide) rfl (fun c5 => ?_) (fun c5 => ?_)
  · refine ex_of (fun _ _ => ev_iconst (pc' := 19) (iI (-1)) dX6_bestLine_18 rfl (by decide)) ?_
    exact ex_end (ev_iret dX6_bestLine_19 rfl) (⟨by unfold sBest; rw [if_neg (by omega)], hw, fr⟩)
  · refine ex_of (fun _ _ => ev_iload_n (pc' := 9) dX6_bestLine_8 rfl rfl) ?_
    refine ex_of (fun _ _ => ev_i2lI (pc' := 10) dX6_bestLine_9 rfl (by omega)) ?_
    refine ex_of (fun _ _ => ev_lconst (pc' := 11) (jJ (0)) dX6_bestLine_10 rfl (by decide)) ?_
    refine ex_of (fun _ _ => ev_lconst (pc' := 12) (jJ (1)) dX6_bestLine_11 rfl (by decide)) ?_
    refine ex_of (fun _ _ => ev_callS3 (pc' := 15) kX6_48 mX6_isIn dX6_bestLine_12 rfl rfl (Nat.le_of_ble_eq_true rfl) (Nat.le_of_ble_eq_true rfl) (by decide) (e6_isIn (by omega) (by omega) (by omega))) ?_
    refine ex_ifd_ne (pc' := 18) (tgt := 20) dX6_bestLine_15 (by decide) rfl (fun c15 => ?_) (fun c15 => ?_)
    · refine ex_of (fun _ _ => ev_iconst (pc' := 21) (iI (0)) dX6_bestLine_20 rfl (by decide)) ?_
      refine ex_of (fun _ _ => ev_istore_3 (pc' := 22) dX6_bestLine_21 rfl (by decide) rfl) ?_
      refine ex_of (fun _ _ => ev_bipush (pc' := 24) (iI (15)) dX6_bestLine_22 rfl (by decide)) ?_
      refine ex_of (fun _ _ => ev_istore_4 (pc' := 26) dX6_bestLine_24 rfl (by decide) rfl) ?_
      unfold sBest
      rw [if_pos (by omega)]
      exact e6_bstL (t := t) (w := w) hI hJ hT (by omega) (by omega) 23 0 _ (by omega) hw fr
    · refine ex_of (fun _ _ => ev_iconst (pc' := 19) (iI (-1)) dX6_bestLine_18 rfl (by decide)) ?_
      exact ex_end (ev_iret dX6_bestLine_19 rfl) (⟨by unfold sBest; rw [if_neg (by omega)], hw, fr⟩)
/-- places whose day is another one with another line, as bits -/
def mvL (S : Int → Int) (g t : Int) : Nat → Int32
  | 0 => 0
  | n + 1 => mvL S g t n ||| if dP (upI S 2 g) (n : Int) t = dP S (n : Int) t then iI 0 else iI 1 <<< (iI (n : Int) &&& 31)
def sMoved (S : Int → Int) (g t : Int) : Int32 := if (0 ≤ g ∧ g ≤ 359) ∧ (0 ≤ t ∧ t ≤ 19999) then mvL S g t (S 0).toNat else iI (-1)
theorem e6_movL {h0 : ev_H} {g t : Int} (hI : mI0 (A 0)) (hJ : mIP (A 0)) (ht : 0 ≤ t ∧ t ≤ 19999) (hg : 0 ≤ g ∧ g < 360) : ∀ (n i : Nat) (a5 a6 : Option Value) (h : ev_H), A 0 0 = i + n → MW h o A → FrM h0 h → Ex l 3 yX6_moved.cls yX6_moved.name cX6_moved 7 (some .int) 27 [some (.ref 34), some (.int (iI g)), some (.int (iI t)), some (.int (mvL (A 0) g t i)), some (.int (iI (i : Int))), a5, a6] [] h (rP h0 o A (some (.int (mvL (A 0) g t (A 0 0).toNat)))) := by
  intro n
  obtain ⟨⟨i1, i2⟩, ⟨i3, i4⟩, i5, i6⟩ := id hI
  induction n with
  | zero =>
    intro i a5 a6 h hn hw fr
    have ei : (A 0 0).toNat = i := by omega
    rw [ei]
    refine ex_of (fun _ _ => ev_iload (pc' := 29) dX6_moved_27 rfl rfl) ?_
    refine ex_of (fun _ _ => ev_aload_n (pc' := 30) dX6_moved_29 rfl rfl) ?_
    refine ex_of (fun _ _ => ev_getfield (pc' := 33) fX6_9 dX6_moved_30 rfl hw.o rfl) ?_
    refine ex_of (fun _ _ => ev_iconst (pc' := 34) (iI (0)) dX6_moved_33 rfl (by decide)) ?_
    refine ex_of (fun _ _ => ev_ialoadI (pc' := 35) dX6_moved_34 rfl hw.a0 (by decide) (by omega)) ?_
    refine ex_icmpI_ge (pc' := 38) (tgt := 92) dX6_moved_35 (by decide) rfl (by omega) (by omega) (fun c35 => ?_) (fun c35 => ?_)
    · refine ex_of (fun _ _ => ev_iload_n (pc' := 93) dX6_moved_92 rfl rfl) ?_
      exact ex_end (ev_iret dX6_moved_93 rfl) (⟨rfl, hw, fr⟩)
    · omega
  | succ n ih =>
    intro i a5 a6 h hn hw fr
    have e0 : upI (A 0) 2 g 0 = A 0 0 := upI_n (by decide)
    have z1 := dP_b (p := (i : Int)) (t := t) hJ (by omega) (by omega)
    have z2 := dP_b (p := (i : Int)) (t := t) (mIP_line (g := g) hJ) (by omega) (by omega)
    have e1 : mvL (A 0) g t (i + 1) = mvL (A 0) g t i ||| if dP (upI (A 0) 2 g) (i : Int) t = dP (A 0) (i : Int) t then iI 0 else iI 1 <<< (iI (i : Int) &&& 31) := rfl
    refine ex_of (fun _ _ => ev_iload (pc' := 29) dX6_moved_27 rfl rfl) ?_
    refine ex_of (fun _ _ => ev_aload_n (pc' := 30) dX6_moved_29 rfl rfl) ?_
    refine ex_of (fun _ _ => ev_getfield (pc' := 33) fX6_9 dX6_moved_30 rfl hw.o rfl) ?_
    refine ex_of (fun _ _ => ev_iconst (pc' := 34) (iI (0)) dX6_moved_33 rfl (by decide)) ?_
    refine ex_of (fun _ _ => ev_ialoadI (pc' := 35) dX6_moved_34 rfl hw.a0 (by decide) (by omega)) ?_
    refine ex_icmpI_ge (pc' := 38) (tgt := 92) dX6_moved_35 (by decide) rfl (by omega) (by omega) (fun c35 => ?_) (fun c35 => ?_)
    · omega
    · refine ex_of (fun _ _ => ev_aload_n (pc' := 39) dX6_moved_38 rfl rfl) ?_
      refine ex_of (fun _ _ => ev_iload (pc' := 41) dX6_moved_39 rfl rfl) ?_
      refine ex_of (fun _ _ => ev_iload_n (pc' := 42) dX6_moved_41 rfl rfl) ?_
      refine ex_of (fun _ _ => ev_callV2 (pc' := 45) kX6_145 mX6_dayIn dX6_moved_42 rfl rfl (Nat.le_of_ble_eq_true rfl) (Nat.le_of_ble_eq_true rfl) (by decide) rfl hw.o (e6_dayIn hw hI hJ (by omega) (by omega))) ?_
      refine ex_of (fun _ _ => ev_istore_5 (pc' := 47) dX6_moved_45 rfl (by decide) rfl) ?_
      refine ex_of (fun _ _ => ev_aload_n (pc' := 48) dX6_moved_47 rfl rfl) ?_
      refine ex_of (fun _ _ => ev_iconst (pc' := 49) (iI (2)) dX6_moved_48 rfl (by decide)) ?_
      refine ex_of (fun _ _ => ev_iload_n (pc' := 50) dX6_moved_49 rfl rfl) ?_
      have hO := hw.o
      obtain ⟨w1, h1, E1, rfl, hw, fr1⟩ := e6_becomes (l := l) (a := 2) (z := g) hw (by omega)
      refine ex_of (fun _ _ => ev_callV2 (pc' := 53) kX6_114 mX6_becomes dX6_moved_50 rfl rfl (Nat.le_of_ble_eq_true rfl) (Nat.le_of_ble_eq_true rfl) (by decide) rfl hO E1) ?_
      have fr := fr.tr fr1
      refine ex_of (fun _ _ => ev_istore_6 (pc' := 55) dX6_moved_53 rfl (by decide) rfl) ?_
      refine ex_of (fun _ _ => ev_iload_n (pc' := 56) dX6_moved_55 rfl rfl) ?_
      refine ex_of (fun _ _ => ev_aload_n (pc' := 57) dX6_moved_56 rfl rfl) ?_
      refine ex_of (fun _ _ => ev_iload (pc' := 59) dX6_moved_57 rfl rfl) ?_
      refine ex_of (fun _ _ => ev_iload_n (pc' := 60) dX6_moved_59 rfl rfl) ?_
      refine ex_of (fun _ _ => ev_callV2 (pc' := 63) kX6_145 mX6_dayIn dX6_moved_60 rfl rfl (Nat.le_of_ble_eq_true rfl) (Nat.le_of_ble_eq_true rfl) (by decide) rfl hw.o (e6_dayIn (A := upA A 0 (upI (A 0) 2 g)) hw (by rw [upA_s]; exact mI0_line hI hg) (by rw [upA_s]; exact mIP_line hJ) (by rw [upA_s]; omega) (by omega))) ?_
      refine ex_of (fun _ _ => ev_iload (pc' := 65) dX6_moved_63 rfl rfl) ?_
      rw [upA_s]
      refine ex_icmpI_eq (pc' := 68) (tgt := 75) dX6_moved_65 (by decide) rfl (by omega) (by omega) (fun c65 => ?_) (fun c65 => ?_)
      · refine ex_of (fun _ _ => ev_iconst (pc' := 76) (iI (0)) dX6_moved_75 rfl (by decide)) ?_
        refine ex_of (fun _ _ => ev_ior (pc' := 77) dX6_moved_76 rfl) ?_
        refine ex_of (fun _ _ => ev_istore_3 (pc' := 78) dX6_moved_77 rfl (by decide) rfl) ?_
        refine ex_of (fun _ _ => ev_aload_n (pc' := 79) dX6_moved_78 rfl rfl) ?_
        refine ex_of (fun _ _ => ev_getfield (pc' := 82) fX6_9 dX6_moved_79 rfl hw.o rfl) ?_
        refine ex_of (fun _ _ => ev_iconst (pc' := 83) (iI (2)) dX6_moved_82 rfl (by decide)) ?_
        refine ex_of (fun _ _ => ev_iload (pc' := 85) dX6_moved_83 rfl rfl) ?_
        refine xst_0 (pc' := 86) dX6_moved_85 rfl hw fr (by omega) (fun h hw fr => ?_)
        refine ex_of (fun _ _ => ev_iincI_4 (pc' := 89) dX6_moved_86 rfl (by decide) rfl) ?_
        refine ex_of (fun _ _ => ev_goto (tgt := 27) dX6_moved_89 (by decide)) ?_
        rw [upA_s, upI_back, upA_back] at hw
        have K := ih (i + 1) (some (.int (iI (dP (A 0) (i : Int) t)))) (some (.int (iI (A 0 2)))) _ (by omega) hw fr
        first | rw [e1, if_pos c65] at K | rw [e1, if_neg c65] at K
        exact K
      · refine ex_of (fun _ _ => ev_iconst (pc' := 69) (iI (1)) dX6_moved_68 rfl (by decide)) ?_
        refine ex_of (fun _ _ => ev_iload (pc' := 71) dX6_moved_69 rfl rfl) ?_
        refine ex_of (fun _ _ => ev_ishl (pc' := 72) dX6_moved_71 rfl) ?_
        refine ex_of (fun _ _ => ev_goto (tgt := 76) dX6_moved_72 (by decide)) ?_
        refine ex_of (fun _ _ => ev_ior (pc' := 77) dX6_moved_76 rfl) ?_
        refine ex_of (fun _ _ => ev_istore_3 (pc' := 78) dX6_moved_77 rfl (by decide) rfl) ?_
        refine ex_of (fun _ _ => ev_aload_n (pc' := 79) dX6_moved_78 rfl rfl) ?_
        refine ex_of (fun _ _ => ev_getfield (pc' := 82) fX6_9 dX6_moved_79 rfl hw.o rfl) ?_
        refine ex_of (fun _ _ => ev_iconst (pc' := 83) (iI (2)) dX6_moved_82 rfl (by decide)) ?_
        refine ex_of (fun _ _ => ev_iload (pc' := 85) dX6_moved_83 rfl rfl) ?_
        refine xst_0 (pc' := 86) dX6_moved_85 rfl hw fr (by omega) (fun h hw fr => ?_)
        refine ex_of (fun _ _ => ev_iincI_4 (pc' := 89) dX6_moved_86 rfl (by decide) rfl) ?_
        refine ex_of (fun _ _ => ev_goto (tgt := 27) dX6_moved_89 (by decide)) ?_
        rw [upA_s, upI_back, upA_back] at hw
        have K := ih (i + 1) (some (.int (iI (dP (A 0) (i : Int) t)))) (some (.int (iI (A 0 2)))) _ (by omega) hw fr
        first | rw [e1, if_pos c65] at K | rw [e1, if_neg c65] at K
        exact K
theorem e6_moved {g t : Int} (hw : MW h o A) (hI : mI0 (A 0)) (hJ : mIP (A 0)) (rg : -2147483648 ≤ g ∧ g < 2147483648) (rt : -2147483648 ≤ t ∧ t < 2147483648) : Ex l 3 yX6_moved.cls yX6_moved.name cX6_moved 7 (some .int) 0 [some (.ref 34), some (.int (iI g)), some (.int (iI t)), none, none, none, none] [] h (rP h o A (some (.int (sMoved (A 0) g t)))) := by
  obtain ⟨⟨i1, i2⟩, ⟨i3, i4⟩, i5, i6⟩ := id hI
  have fr := FrM.rf h
  refine ex_of (fun _ _ => ev_iload_n (pc' := 1) dX6_moved_0 rfl rfl) ?_
  refine ex_of (fun _ _ => ev_i2lI (pc' := 2) dX6_moved_1 rfl (by omega)) ?_
  refine ex_of (fun _ _ => ev_lconst (pc' := 3) (jJ (0)) dX6_moved_2 rfl (by decide)) ?_
  refine ex_of (fun _ _ => ev_ldc2I (pc' := 6) (359) nX6_117 dX6_moved_3 rfl (by decide)) ?_
  refine ex_of (fun _ _ => ev_callS3 (pc' := 9) kX6_48 mX6_isIn dX6_moved_6 rfl rfl (Nat.le_of_ble_eq_true rfl) (Nat.le_of_ble_eq_true rfl) (by decide) (e6_isIn (by omega) (by omega) (by omega))) ?_
  refine ex_ifd_eq (pc' := 12) (tgt := 20) dX6_moved_9 (by decide) rfl (fun c9 => ?_) (fun c9 => ?_)
  · refine ex_of (fun _ _ => ev_iconst (pc' := 21) (iI (-1)) dX6_moved_20 rfl (by decide)) ?_
    exact ex_end (ev_iret dX6_moved_21 rfl) (⟨by unfold sMoved; rw [if_neg (by omega)], hw, fr⟩)
  · refine ex_of (fun _ _ => ev_iload_n (pc' := 13) dX6_moved_12 rfl rfl) ?_
    refine ex_of (fun _ _ => ev_i2lI (pc' := 14) dX6_moved_13 rfl (by omega)) ?_
    refine ex_of (fun _ _ => ev_callS1 (pc' := 17) kX6_141 mX6_isMinute dX6_moved_14 rfl rfl (Nat.le_of_ble_eq_true rfl) (Nat.le_of_ble_eq_true rfl) (by decide) (e6_isMinute (by omega))) ?_
    refine ex_ifd_ne (pc' := 20) (tgt := 22) dX6_moved_17 (by decide) rfl (fun c17 => ?_) (fun c17 => ?_)
    · refine ex_of (fun _ _ => ev_iconst (pc' := 23) (iI (0)) dX6_moved_22 rfl (by decide)) ?_
      refine ex_of (fun _ _ => ev_istore_3 (pc' := 24) dX6_moved_23 rfl (by decide) rfl) ?_
      refine ex_of (fun _ _ => ev_iconst (pc' := 25) (iI (0)) dX6_moved_24 rfl (by decide)) ?_
      refine ex_of (fun _ _ => ev_istore_4 (pc' := 27) dX6_moved_25 rfl (by decide) rfl) ?_
      unfold sMoved
      rw [if_pos (by omega)]
      exact e6_movL (g := g) (t := t) hI hJ (by omega) (by omega) (A 0 0).toNat 0 none none _ (by omega) hw fr
    · refine ex_of (fun _ _ => ev_iconst (pc' := 21) (iI (-1)) dX6_moved_20 rfl (by decide)) ?_
      exact ex_end (ev_iret dX6_moved_21 rfl) (⟨by unfold sMoved; rw [if_neg (by omega)], hw, fr⟩)
end MI
