section MH
variable {l : Launch} {A : Nat → Int → Int} {h : ev_H} {o : Nat → Int}
/-- back from m as long as P holds of the minute ahead -/
def bckM (P : Int → Bool) : Nat → Int → Int
  | 0, m => m
  | n + 1, m => if P (m - 1) then bckM P n (m - 1) else m
theorem bckM_t {P : Int → Bool} {n : Nat} {m : Int} (h : P (m - 1) = true) : bckM P (n + 1) m = bckM P n (m - 1) := by conv => lhs; unfold bckM; rw [if_pos h]
theorem bckM_f {P : Int → Bool} {n : Nat} {m : Int} (h : P (m - 1) = false) : bckM P (n + 1) m = m := by unfold bckM; rw [if_neg (by rw [h]; decide)]
/-- spells of P in n minutes from m on -/
def ofM (P : Int → Bool) : Nat → Int → Int → Int
  | 0, _, _ => 0
  | n + 1, m, was => (if P m = true ∧ was = 0 then 1 else 0) + ofM P n (m + 1) (if P m then 1 else 0)
theorem ofM_1 {P : Int → Bool} {n : Nat} {m was acc : Int} (hp : P m = true) (hw : was = 0) : acc + ofM P (n + 1) m was = acc + 1 + ofM P n (m + 1) 1 := by
  conv => lhs; unfold ofM
  rw [if_pos ⟨hp, hw⟩, if_pos hp]; omega
theorem ofM_2 {P : Int → Bool} {n : Nat} {m was acc : Int} (hp : P m = true) (hw : ¬ was = 0) : acc + ofM P (n + 1) m was = acc + 0 + ofM P n (m + 1) 1 := by
  conv => lhs; unfold ofM
  rw [if_neg (fun q => hw q.2), if_pos hp]; omega
theorem ofM_3 {P : Int → Bool} {n : Nat} {m was acc : Int} (hp : P m = false) : acc + ofM P (n + 1) m was = acc + 0 + ofM P n (m + 1) 0 := by
  conv => lhs; unfold ofM
  rw [if_neg (fun q => by rw [hp] at q; cases q.1), if_neg (by rw [hp]; decide)]; omega
theorem sBeg_b {S : Int → Int} {k t : Int} (ht : 0 ≤ t ∧ t ≤ 19999) : sBeg S k t = -4 ∨ (t < sBeg S k t ∧ sBeg S k t ≤ 19999) := by
  have key : ∀ (P : Int → Bool) (n : Nat) (m : Int), fstM P n m = -4 ∨ (m ≤ fstM P n m ∧ fstM P n m < m + n) := by
    intro P n
    induction n with
    | zero => intro m; exact Or.inl rfl
    | succ n ih =>
      intro m
      unfold fstM
      split
      · right; omega
      · rcases ih (m + 1) with q | q
        · exact Or.inl q
        · right; omega
  rcases key (fun x => decide (sDayN S k x ≠ sDayN S k t)) (19999 - t).toNat (t + 1) with q | q
  · exact Or.inl q
  · right
    unfold sBeg
    omega
theorem e6_lngL {h0 : ev_H} {o0 : Nat → Int} {k t to : Int} (hI : mI0 (A 0)) (hJ : mIP (A 0)) (hK : ∀ k, 0 ≤ k → k < A 0 1 → mT (A 0) k) (hk : 0 ≤ k ∧ k < A 0 1) (ht : 0 ≤ t ∧ t ≤ 19999) : ∀ (n : Nat) (m : Int) (h : ev_H) (o : Nat → Int), MW h o A → FrM h0 h → (∀ j, j < 19 → o j = o0 j) → m = n → m ≤ 19999 → Ex l 6 yX6_longDay.cls yX6_longDay.name cX6_longDay 5 (some .int) 35 [some (.ref 34), some (.int (iI k)), some (.int (iI t)), some (.int (iI to)), some (.int (iI m))] [] h (scP h0 o0 A (some (.int (iI (to - bckM (fun x => decide (sDayN (A 0) k x = sDayN (A 0) k t)) n m))))) := by
  intro n
  obtain ⟨⟨i1, i2⟩, ⟨i3, i4⟩, i5, i6⟩ := id hI
  induction n with
  | zero =>
    intro m h o hw fr hs hm hn
    refine ex_of (fun _ _ => ev_iload (pc' := 37) dX6_longDay_35 rfl rfl) ?_
    refine ex_ifI_le (pc' := 40) (tgt := 64) dX6_longDay_37 (by decide) rfl (by omega) (fun c37 => ?_) (fun c37 => ?_)
    · refine ex_of (fun _ _ => ev_iload_n (pc' := 65) dX6_longDay_64 rfl rfl) ?_
      refine ex_of (fun _ _ => ev_iload (pc' := 67) dX6_longDay_65 rfl rfl) ?_
      refine ex_of (fun _ _ => ev_isubI (pc' := 68) dX6_longDay_67 rfl) ?_
      exact ex_end (ev_iret dX6_longDay_68 rfl) (⟨rfl, _, hw, fr, hs⟩)
    · omega
  | succ n ih =>
    intro m h o hw fr hs hm hn
    have zb := sDayAs_b (ea := mea (A 0) k) (kd := A 0 (143 + 45 * k + 0)) hJ (hK k (by omega) (by omega)) (t := m - 1) (by omega)
    have zc := sDayAs_b (ea := mea (A 0) k) (kd := A 0 (143 + 45 * k + 0)) hJ (hK k (by omega) (by omega)) (t := t) (by omega)
    refine ex_of (fun _ _ => ev_iload (pc' := 37) dX6_longDay_35 rfl rfl) ?_
    refine ex_ifI_le (pc' := 40) (tgt := 64) dX6_longDay_37 (by decide) rfl (by omega) (fun c37 => ?_) (fun c37 => ?_)
    · omega
    · refine ex_of (fun _ _ => ev_aload_n (pc' := 41) dX6_longDay_40 rfl rfl) ?_
      refine ex_of (fun _ _ => ev_iload_n (pc' := 42) dX6_longDay_41 rfl rfl) ?_
      refine ex_of (fun _ _ => ev_iload (pc' := 44) dX6_longDay_42 rfl rfl) ?_
      refine ex_of (fun _ _ => ev_iconst (pc' := 45) (iI (1)) dX6_longDay_44 rfl (by decide)) ?_
      refine ex_of (fun _ _ => ev_isubI (pc' := 46) dX6_longDay_45 rfl) ?_
      have hO := hw.o
      obtain ⟨w1, h1, E1, rfl, o1, hw, fr1, hs1⟩ := e6_dayNow (l := l) (k := k) hw hI hJ (by omega) (hK k (by omega) (by omega)) (t := m - 1) (by omega)
      refine ex_of (fun _ _ => ev_callV2 (pc' := 49) kX6_208 mX6_dayNow dX6_longDay_46 rfl rfl (Nat.le_of_ble_eq_true rfl) (Nat.le_of_ble_eq_true rfl) (by decide) rfl hO E1) ?_
      have fr := fr.tr fr1
      have hs : ∀ j, j < 19 → _ := fun j hj => (hs1 j hj).trans (hs j hj)
      refine ex_of (fun _ _ => ev_aload_n (pc' := 50) dX6_longDay_49 rfl rfl) ?_
      refine ex_of (fun _ _ => ev_iload_n (pc' := 51) dX6_longDay_50 rfl rfl) ?_
      refine ex_of (fun _ _ => ev_iload_n (pc' := 52) dX6_longDay_51 rfl rfl) ?_
      have hO := hw.o
      obtain ⟨w1, h1, E1, rfl, o1, hw, fr1, hs1⟩ := e6_dayNow (l := l) (k := k) hw hI hJ (by omega) (hK k (by omega) (by omega)) (t := t) (by omega)
      refine ex_of (fun _ _ => ev_callV2 (pc' := 55) kX6_208 mX6_dayNow dX6_longDay_52 rfl rfl (Nat.le_of_ble_eq_true rfl) (Nat.le_of_ble_eq_true rfl) (by decide) rfl hO E1) ?_
      have fr := fr.tr fr1
      have hs : ∀ j, j < 19 → _ := fun j hj => (hs1 j hj).trans (hs j hj)
      refine ex_icmpI_ne (pc' := 58) (tgt := 64) dX6_longDay_55 (by decide) rfl (by omega) (by omega) (fun c55 => ?_) (fun c55 => ?_)
      · refine ex_of (fun _ _ => ev_iload_n (pc' := 65) dX6_longDay_64 rfl rfl) ?_
        refine ex_of (fun _ _ => ev_iload (pc' := 67) dX6_longDay_65 rfl rfl) ?_
        refine ex_of (fun _ _ => ev_isubI (pc' := 68) dX6_longDay_67 rfl) ?_
        exact ex_end (ev_iret dX6_longDay_68 rfl) (⟨by rw [bckM_f (by simpa [sDayN] using c55)], _, hw, fr, hs⟩)
      · refine ex_of (fun _ _ => ev_iincI_4 (pc' := 61) dX6_longDay_58 rfl (by decide) rfl) ?_
        refine ex_of (fun _ _ => ev_goto (tgt := 35) dX6_longDay_61 (by decide)) ?_
        rw [bckM_t (by simpa [sDayN] using c55)]
        exact ih (m - 1) _ _ hw fr hs (by omega) (by omega)
def sLong (S : Int → Int) (k t : Int) : Int := if (0 ≤ k ∧ k < S 1) ∧ (0 ≤ t ∧ t ≤ 19999) then (if sBeg S k t < 0 then -4 else sBeg S k t - bckM (fun x => decide (sDayN S k x = sDayN S k t)) t.toNat t) else -1
theorem e6_longDay {k t : Int} (hw : MW h o A) (hI : mI0 (A 0)) (hJ : mIP (A 0)) (hK : ∀ k, 0 ≤ k → k < A 0 1 → mT (A 0) k) (rk : -2147483648 ≤ k ∧ k < 2147483648) (rt : -2147483648 ≤ t ∧ t < 2147483648) : Ex l 7 yX6_longDay.cls yX6_longDay.name cX6_longDay 5 (some .int) 0 [some (.ref 34), some (.int (iI k)), some (.int (iI t)), none, none] [] h (scP h o A (some (.int (iI (sLong (A 0) k t))))) := by
  obtain ⟨⟨i1, i2⟩, ⟨i3, i4⟩, i5, i6⟩ := id hI
  have fr := FrM.rf h
  have hs : ∀ j, j < 19 → o j = o j := fun _ _ => rfl
  refine ex_of (fun _ _ => ev_aload_n (pc' := 1) dX6_longDay_0 rfl rfl) ?_
  refine ex_of (fun _ _ => ev_iload_n (pc' := 2) dX6_longDay_1 rfl rfl) ?_
  refine ex_of (fun _ _ => ev_callV1 (pc' := 5) kX6_157 mX6_isOne dX6_longDay_2 rfl rfl (Nat.le_of_ble_eq_true rfl) (Nat.le_of_ble_eq_true rfl) (by decide) rfl hw.o (e6_isOne hw hI (by omega))) ?_
  refine ex_ifd_eq (pc' := 8) (tgt := 16) dX6_longDay_5 (by decide) rfl (fun c5 => ?_) (fun c5 => ?_)
  · refine ex_of (fun _ _ => ev_iconst (pc' := 17) (iI (-1)) dX6_longDay_16 rfl (by decide)) ?_
    exact ex_end (ev_iret dX6_longDay_17 rfl) (⟨by unfold sLong; first | (rw [if_pos (by omega), if_pos (by omega)]) | rw [if_neg (by omega)], _, hw, fr, hs⟩)
  · refine ex_of (fun _ _ => ev_iload_n (pc' := 9) dX6_longDay_8 rfl rfl) ?_
    refine ex_of (fun _ _ => ev_i2lI (pc' := 10) dX6_longDay_9 rfl (by omega)) ?_
    refine ex_of (fun _ _ => ev_callS1 (pc' := 13) kX6_141 mX6_isMinute dX6_longDay_10 rfl rfl (Nat.le_of_ble_eq_true rfl) (Nat.le_of_ble_eq_true rfl) (by decide) (e6_isMinute (by omega))) ?_
    refine ex_ifd_ne (pc' := 16) (tgt := 18) dX6_longDay_13 (by decide) rfl (fun c13 => ?_) (fun c13 => ?_)
    · refine ex_of (fun _ _ => ev_aload_n (pc' := 19) dX6_longDay_18 rfl rfl) ?_
      refine ex_of (fun _ _ => ev_iload_n (pc' := 20) dX6_longDay_19 rfl rfl) ?_
      refine ex_of (fun _ _ => ev_iload_n (pc' := 21) dX6_longDay_20 rfl rfl) ?_
      have hO := hw.o
      obtain ⟨w1, h1, E1, rfl, o1, hw, fr1, hs1⟩ := e6_beginsOf (l := l) (k := k) (t := t) hw hI hJ hK (by omega) (by omega)
      refine ex_of (fun _ _ => ev_callV2 (pc' := 24) kX6_214 mX6_beginsOf dX6_longDay_21 rfl rfl (Nat.le_of_ble_eq_true rfl) (Nat.le_of_ble_eq_true rfl) (by decide) rfl hO E1) ?_
      have fr := fr.tr fr1
      have hs : ∀ j, j < 19 → _ := fun j hj => (hs1 j hj).trans (hs j hj)
      have bb := sBeg_b (S := A 0) (k := k) (t := t) (by omega)
      refine ex_of (fun _ _ => ev_istore_3 (pc' := 25) dX6_longDay_24 rfl (by decide) rfl) ?_
      refine ex_of (fun _ _ => ev_iload_n (pc' := 26) dX6_longDay_25 rfl rfl) ?_
      refine ex_ifI_ge (pc' := 29) (tgt := 32) dX6_longDay_26 (by decide) rfl (by omega) (fun c26 => ?_) (fun c26 => ?_)
      · refine ex_of (fun _ _ => ev_iload_n (pc' := 33) dX6_longDay_32 rfl rfl) ?_
        refine ex_of (fun _ _ => ev_istore_4 (pc' := 35) dX6_longDay_33 rfl (by decide) rfl) ?_
        unfold sLong
        rw [if_pos (by omega), if_neg (by omega)]
        exact ev_deepx (by decide) (e6_lngL (k := k) (t := t) hI hJ hK (by omega) (by omega) _ t _ _ hw fr hs (by omega) (by omega))
      · refine ex_of (fun _ _ => ev_bipush (pc' := 31) (iI (-4)) dX6_longDay_29 rfl (by decide)) ?_
        exact ex_end (ev_iret dX6_longDay_31 rfl) (⟨by unfold sLong; first | (rw [if_pos (by omega), if_pos (by omega)]) | rw [if_neg (by omega)], _, hw, fr, hs⟩)
    · refine ex_of (fun _ _ => ev_iconst (pc' := 17) (iI (-1)) dX6_longDay_16 rfl (by decide)) ?_
      exact ex_end (ev_iret dX6_longDay_17 rfl) (⟨by unfold sLong; first | (rw [if_pos (by omega), if_pos (by omega)]) | rw [if_neg (by omega)], _, hw, fr, hs⟩)
theorem e6_oftL {h0 : ev_H} {o0 : Nat → Int} {k dd t : Int} (hI : mI0 (A 0)) (hJ : mIP (A 0)) (hK : ∀ k, 0 ≤ k → k < A 0 1 → mT (A 0) k) (hk : 0 ≤ k ∧ k < A 0 1) (hd : -2147483648 ≤ dd ∧ dd < 2147483648) (ht : 0 ≤ t ∧ t ≤ 19999) : ∀ (n : Nat) (m acc : Int) (was : Int) (a7 : Option Value) (h : ev_H) (o : Nat → Int), MW h o A → FrM h0 h → (∀ j, j < 19 → o j = o0 j) → 0 ≤ m → t + 1 - m = n → (was = 0 ∨ was = 1) → Ex l 6 yX6_often.cls yX6_often.name cX6_often 8 (some .int) 27 [some (.ref 34), some (.int (iI k)), some (.int (iI dd)), some (.int (iI t)), some (.int (iI acc)), some (.int (iI was)), some (.int (iI m)), a7] [] h (scP h0 o0 A (some (.int (iI (acc + ofM (fun x => decide (sDayN (A 0) k x = dd)) n m was))))) := by
  intro n
  obtain ⟨⟨i1, i2⟩, ⟨i3, i4⟩, i5, i6⟩ := id hI
  induction n with
  | zero =>
    intro m acc was a7 h o hw fr hs hm hn hws
    refine ex_of (fun _ _ => ev_iload (pc' := 29) dX6_often_27 rfl rfl) ?_
    refine ex_of (fun _ _ => ev_iload_n (pc' := 30) dX6_often_29 rfl rfl) ?_
    refine ex_icmpI_gt (pc' := 33) (tgt := 81) dX6_often_30 (by decide) rfl (by omega) (by omega) (fun c30 => ?_) (fun c30 => ?_)
    · refine ex_of (fun _ _ => ev_iload (pc' := 83) dX6_often_81 rfl rfl) ?_
      exact ex_end (ev_iret dX6_often_83 rfl) (⟨by simp [ofM], _, hw, fr, hs⟩)
    · omega
  | succ n ih =>
    intro m acc was a7 h o hw fr hs hm hn hws
    have zb := sDayAs_b (ea := mea (A 0) k) (kd := A 0 (143 + 45 * k + 0)) hJ (hK k (by omega) (by omega)) (t := m) (by omega)
    refine ex_of (fun _ _ => ev_iload (pc' := 29) dX6_often_27 rfl rfl) ?_
    refine ex_of (fun _ _ => ev_iload_n (pc' := 30) dX6_often_29 rfl rfl) ?_
    refine ex_icmpI_gt (pc' := 33) (tgt := 81) dX6_often_30 (by decide) rfl (by omega) (by omega) (fun c30 => ?_) (fun c30 => ?_)
    · omega
    · refine ex_of (fun _ _ => ev_aload_n (pc' := 34) dX6_often_33 rfl rfl) ?_
      refine ex_of (fun _ _ => ev_iload_n (pc' := 35) dX6_often_34 rfl rfl) ?_
      refine ex_of (fun _ _ => ev_iload (pc' := 37) dX6_often_35 rfl rfl) ?_
      have hO := hw.o
      obtain ⟨w1, h1, E1, rfl, o1, hw, fr1, hs1⟩ := e6_dayNow (l := l) (k := k) hw hI hJ (by omega) (hK k (by omega) (by omega)) (t := m) (by omega)
      refine ex_of (fun _ _ => ev_callV2 (pc' := 40) kX6_208 mX6_dayNow dX6_often_37 rfl rfl (Nat.le_of_ble_eq_true rfl) (Nat.le_of_ble_eq_true rfl) (by decide) rfl hO E1) ?_
      have fr := fr.tr fr1
      have hs : ∀ j, j < 19 → _ := fun j hj => (hs1 j hj).trans (hs j hj)
      refine ex_of (fun _ _ => ev_iload_n (pc' := 41) dX6_often_40 rfl rfl) ?_
      refine ex_icmpI_ne (pc' := 44) (tgt := 48) dX6_often_41 (by decide) rfl (by omega) (by omega) (fun c41 => ?_) (fun c41 => ?_)
      · refine ex_of (fun _ _ => ev_iconst (pc' := 49) (iI (0)) dX6_often_48 rfl (by decide)) ?_
        refine ex_of (fun _ _ => ev_istore_7 (pc' := 51) dX6_often_49 rfl (by decide) rfl) ?_
        refine ex_of (fun _ _ => ev_iload (pc' := 53) dX6_often_51 rfl rfl) ?_
        refine ex_of (fun _ _ => ev_iload (pc' := 55) dX6_often_53 rfl rfl) ?_
        refine ex_ifI_eq (pc' := 58) (tgt := 67) dX6_often_55 (by decide) rfl (by omega) (fun c55 => ?_) (fun c55 => ?_)
        · refine ex_of (fun _ _ => ev_iconst (pc' := 68) (iI (0)) dX6_often_67 rfl (by decide)) ?_
          refine ex_of (fun _ _ => ev_iaddI (pc' := 69) dX6_often_68 rfl) ?_
          refine ex_of (fun _ _ => ev_istore_4 (pc' := 71) dX6_often_69 rfl (by decide) rfl) ?_
          refine ex_of (fun _ _ => ev_iload (pc' := 73) dX6_often_71 rfl rfl) ?_
          refine ex_of (fun _ _ => ev_istore_5 (pc' := 75) dX6_often_73 rfl (by decide) rfl) ?_
          refine ex_of (fun _ _ => ev_iincI_6 (pc' := 78) dX6_often_75 rfl (by decide) rfl) ?_
          refine ex_of (fun _ _ => ev_goto (tgt := 27) dX6_often_78 (by decide)) ?_
          first
          | (exfalso; omega)
          | (rw [ofM_1 (by simpa [sDayN] using c41) (by omega)]; exact ih (m + 1) _ 1 _ _ _ hw fr hs (by omega) (by omega) (by omega))
          | (rw [ofM_2 (by simpa [sDayN] using c41) (by omega)]; exact ih (m + 1) _ 1 _ _ _ hw fr hs (by omega) (by omega) (by omega))
          | (rw [ofM_3 (by simpa [sDayN] using c41)]; exact ih (m + 1) _ 0 _ _ _ hw fr hs (by omega) (by omega) (by omega))
        · refine ex_of (fun _ _ => ev_iload (pc' := 60) dX6_often_58 rfl rfl) ?_
          refine ex_ifI_ne (pc' := 63) (tgt := 67) dX6_often_60 (by decide) rfl (by omega) (fun c60 => ?_) (fun c60 => ?_)
          · refine ex_of (fun _ _ => ev_iconst (pc' := 68) (iI (0)) dX6_often_67 rfl (by decide)) ?_
            refine ex_of (fun _ _ => ev_iaddI (pc' := 69) dX6_often_68 rfl) ?_
            refine ex_of (fun _ _ => ev_istore_4 (pc' := 71) dX6_often_69 rfl (by decide) rfl) ?_
            refine ex_of (fun _ _ => ev_iload (pc' := 73) dX6_often_71 rfl rfl) ?_
            refine ex_of (fun _ _ => ev_istore_5 (pc' := 75) dX6_often_73 rfl (by decide) rfl) ?_
            refine ex_of (fun _ _ => ev_iincI_6 (pc' := 78) dX6_often_75 rfl (by decide) rfl) ?_
            refine ex_of (fun _ _ => ev_goto (tgt := 27) dX6_often_78 (by decide)) ?_
            first
            | (exfalso; omega)
            | (rw [ofM_1 (by simpa [sDayN] using c41) (by omega)]; exact ih (m + 1) _ 1 _ _ _ hw fr hs (by omega) (by omega) (by omega))
            | (rw [ofM_2 (by simpa [sDayN] using c41) (by omega)]; exact ih (m + 1) _ 1 _ _ _ hw fr hs (by omega) (by omega) (by omega))
            | (rw [ofM_3 (by simpa [sDayN] using c41)]; exact ih (m + 1) _ 0 _ _ _ hw fr hs (by omega) (by omega) (by omega))
          · refine ex_of (fun _ _ => ev_iconst (pc' := 64) (iI (1)) dX6_often_63 rfl (by decide)) ?_
            refine ex_of (fun _ _ => ev_goto (tgt := 68) dX6_often_64 (by decide)) ?_
            refine ex_of (fun _ _ => ev_iaddI (pc' := 69) dX6_often_68 rfl) ?_
            refine ex_of (fun _ _ => ev_istore_4 (pc' := 71) dX6_often_69 rfl (by decide) rfl) ?_
            refine ex_of (fun _ _ => ev_iload (pc' := 73) dX6_often_71 rfl rfl) ?_
            refine ex_of (fun _ _ => ev_istore_5 (pc' := 75) dX6_often_73 rfl (by decide) rfl) ?_
            refine ex_of (fun _ _ => ev_iincI_6 (pc' := 78) dX6_often_75 rfl (by decide) rfl) ?_
            refine ex_of (fun _ _ => ev_goto (tgt := 27) dX6_often_78 (by decide)) ?_
            first
            | (exfalso; omega)
            | (rw [ofM_1 (by simpa [sDayN] using c41) (by omega)]; exact ih (m + 1) _ 1 _ _ _ hw fr hs (by omega) (by omega) (by omega))
            | (rw [ofM_2 (by simpa [sDayN] using c41) (by omega)]; exact ih (m + 1) _ 1 _ _ _ hw fr hs (by omega) (by omega) (by omega))
            | (rw [ofM_3 (by simpa [sDayN] using c41)]; exact ih (m + 1) _ 0 _ _ _ hw fr hs (by omega) (by omega) (by omega))
      · refine ex_of (fun _ _ => ev_iconst (pc' := 45) (iI (1)) dX6_often_44 rfl (by decide)) ?_
        refine ex_of (fun _ _ => ev_goto (tgt := 49) dX6_often_45 (by decide)) ?_
        refine ex_of (fun _ _ => ev_istore_7 (pc' := 51) dX6_often_49 rfl (by decide) rfl) ?_
        refine ex_of (fun _ _ => ev_iload (pc' := 53) dX6_often_51 rfl rfl) ?_
        refine ex_of (fun _ _ => ev_iload (pc' := 55) dX6_often_53 rfl rfl) ?_
        refine ex_ifI_eq (pc' := 58) (tgt := 67) dX6_often_55 (by decide) rfl (by omega) (fun c55 => ?_) (fun c55 => ?_)
        · refine ex_of (fun _ _ => ev_iconst (pc' := 68) (iI (0)) dX6_often_67 rfl (by decide)) ?_
          refine ex_of (fun _ _ => ev_iaddI (pc' := 69) dX6_often_68 rfl) ?_
          refine ex_of (fun _ _ => ev_istore_4 (pc' := 71) dX6_often_69 rfl (by decide) rfl) ?_
          refine ex_of (fun _ _ => ev_iload (pc' := 73) dX6_often_71 rfl rfl) ?_
          refine ex_of (fun _ _ => ev_istore_5 (pc' := 75) dX6_often_73 rfl (by decide) rfl) ?_
          refine ex_of (fun _ _ => ev_iincI_6 (pc' := 78) dX6_often_75 rfl (by decide) rfl) ?_
          refine ex_of (fun _ _ => ev_goto (tgt := 27) dX6_often_78 (by decide)) ?_
          first
          | (exfalso; omega)
          | (rw [ofM_1 (by simpa [sDayN] using c41) (by omega)]; exact ih (m + 1) _ 1 _ _ _ hw fr hs (by omega) (by omega) (by omega))
          | (rw [ofM_2 (by simpa [sDayN] using c41) (by omega)]; exact ih (m + 1) _ 1 _ _ _ hw fr hs (by omega) (by omega) (by omega))
          | (rw [ofM_3 (by simpa [sDayN] using c41)]; exact ih (m + 1) _ 0 _ _ _ hw fr hs (by omega) (by omega) (by omega))
        · refine ex_of (fun _ _ => ev_iload (pc' := 60) dX6_often_58 rfl rfl) ?_
          refine ex_ifI_ne (pc' := 63) (tgt := 67) dX6_often_60 (by decide) rfl (by omega) (fun c60 => ?_) (fun c60 => ?_)
          · refine ex_of (fun _ _ => ev_iconst (pc' := 68) (iI (0)) dX6_often_67 rfl (by decide)) ?_
            refine ex_of (fun _ _ => ev_iaddI (pc' := 69) dX6_often_68 rfl) ?_
            refine ex_of (fun _ _ => ev_istore_4 (pc' := 71) dX6_often_69 rfl (by decide) rfl) ?_
            refine ex_of (fun _ _ => ev_iload (pc' := 73) dX6_often_71 rfl rfl) ?_
            refine ex_of (fun _ _ => ev_istore_5 (pc' := 75) dX6_often_73 rfl (by decide) rfl) ?_
            refine ex_of (fun _ _ => ev_iincI_6 (pc' := 78) dX6_often_75 rfl (by decide) rfl) ?_
            refine ex_of (fun _ _ => ev_goto (tgt := 27) dX6_often_78 (by decide)) ?_
            first
            | (exfalso; omega)
            | (rw [ofM_1 (by simpa [sDayN] using c41) (by omega)]; exact ih (m + 1) _ 1 _ _ _ hw fr hs (by omega) (by omega) (by omega))
            | (rw [ofM_2 (by simpa [sDayN] using c41) (by omega)]; exact ih (m + 1) _ 1 _ _ _ hw fr hs (by omega) (by omega) (by omega))
            | (rw [ofM_3 (by simpa [sDayN] using c41)]; exact ih (m + 1) _ 0 _ _ _ hw fr hs (by omega) (by omega) (by omega))
          · refine ex_of (fun _ _ => ev_iconst (pc' := 64) (iI (1)) dX6_often_63 rfl (by decide)) ?_
            refine ex_of (fun _ _ => ev_goto (tgt := 68) dX6_often_64 (by decide)) ?_
            refine ex_of (fun _ _ => ev_iaddI (pc' := 69) dX6_often_68 rfl) ?_
            refine ex_of (fun _ _ => ev_istore_4 (pc' := 71) dX6_often_69 rfl (by decide) rfl) ?_
            refine ex_of (fun _ _ => ev_iload (pc' := 73) dX6_often_71 rfl rfl) ?_
            refine ex_of (fun _ _ => ev_istore_5 (pc' := 75) dX6_often_73 rfl (by decide) rfl) ?_
            refine ex_of (fun _ _ => ev_iincI_6 (pc' := 78) dX6_often_75 rfl (by decide) rfl) ?_
            refine ex_of (fun _ _ => ev_goto (tgt := 27) dX6_often_78 (by decide)) ?_
            first
            | (exfalso; omega)
            | (rw [ofM_1 (by simpa [sDayN] using c41) (by omega)]; exact ih (m + 1) _ 1 _ _ _ hw fr hs (by omega) (by omega) (by omega))
            | (rw [ofM_2 (by simpa [sDayN] using c41) (by omega)]; exact ih (m + 1) _ 1 _ _ _ hw fr hs (by omega) (by omega) (by omega))
            | (rw [ofM_3 (by simpa [sDayN] using c41)]; exact ih (m + 1) _ 0 _ _ _ hw fr hs (by omega) (by omega) (by omega))
def sOften (S : Int → Int) (k dd t : Int) : Int := if (0 ≤ k ∧ k < S 1) ∧ (0 ≤ t ∧ t ≤ 19999) then ofM (fun x => decide (sDayN S k x = dd)) (t + 1).toNat 0 0 else -1
theorem e6_often {k dd t : Int} (hw : MW h o A) (hI : mI0 (A 0)) (hJ : mIP (A 0)) (hK : ∀ k, 0 ≤ k → k < A 0 1 → mT (A 0) k) (rk : -2147483648 ≤ k ∧ k < 2147483648) (rdd : -2147483648 ≤ dd ∧ dd < 2147483648) (rt : -2147483648 ≤ t ∧ t < 2147483648) : Ex l 6 yX6_often.cls yX6_often.name cX6_often 8 (some .int) 0 [some (.ref 34), some (.int (iI k)), some (.int (iI dd)), some (.int (iI t)), none, none, none, none] [] h (scP h o A (some (.int (iI (sOften (A 0) k dd t))))) := by
  obtain ⟨⟨i1, i2⟩, ⟨i3, i4⟩, i5, i6⟩ := id hI
  have fr := FrM.rf h
  have hs : ∀ j, j < 19 → o j = o j := fun _ _ => rfl
  refine ex_of (fun _ _ => ev_aload_n (pc' := 1) dX6_often_0 rfl rfl) ?_
  refine ex_of (fun _ _ => ev_iload_n (pc' := 2) dX6_often_1 rfl rfl) ?_
  refine ex_of (fun _ _ => ev_callV1 (pc' := 5) kX6_157 mX6_isOne dX6_often_2 rfl rfl (Nat.le_of_ble_eq_true rfl) (Nat.le_of_ble_eq_true rfl) (by decide) rfl hw.o (e6_isOne hw hI (by omega))) ?_
  refine ex_ifd_eq (pc' := 8) (tgt := 16) dX6_often_5 (by decide) rfl (fun c5 => ?_) (fun c5 => ?_)
  · refine ex_of (fun _ _ => ev_iconst (pc' := 17) (iI (-1)) dX6_often_16 rfl (by decide)) ?_
    exact ex_end (ev_iret dX6_often_17 rfl) (⟨by unfold sOften; rw [if_neg (by omega)], _, hw, fr, hs⟩)
  · refine ex_of (fun _ _ => ev_iload_n (pc' := 9) dX6_often_8 rfl rfl) ?_
    refine ex_of (fun _ _ => ev_i2lI (pc' := 10) dX6_often_9 rfl (by omega)) ?_
    refine ex_of (fun _ _ => ev_callS1 (pc' := 13) kX6_141 mX6_isMinute dX6_often_10 rfl rfl (Nat.le_of_ble_eq_true rfl) (Nat.le_of_ble_eq_true rfl) (by decide) (e6_isMinute (by omega))) ?_
    refine ex_ifd_ne (pc' := 16) (tgt := 18) dX6_often_13 (by decide) rfl (fun c13 => ?_) (fun c13 => ?_)
    · refine ex_of (fun _ _ => ev_iconst (pc' := 19) (iI (0)) dX6_often_18 rfl (by decide)) ?_
      refine ex_of (fun _ _ => ev_istore_4 (pc' := 21) dX6_often_19 rfl (by decide) rfl) ?_
      refine ex_of (fun _ _ => ev_iconst (pc' := 22) (iI (0)) dX6_often_21 rfl (by decide)) ?_
      refine ex_of (fun _ _ => ev_istore_5 (pc' := 24) dX6_often_22 rfl (by decide) rfl) ?_
      refine ex_of (fun _ _ => ev_iconst (pc' := 25) (iI (0)) dX6_often_24 rfl (by decide)) ?_
      refine ex_of (fun _ _ => ev_istore_6 (pc' := 27) dX6_often_25 rfl (by decide) rfl) ?_
      unfold sOften
      rw [if_pos (by omega)]
      have K := e6_oftL (l := l) (h0 := h) (o0 := o) (k := k) (dd := dd) (t := t) hI hJ hK (by omega) (by omega) (by omega) (t + 1).toNat 0 0 0 none _ _ hw fr hs (by omega) (by omega) (by omega)
      rw [Int.zero_add] at K
      exact K
    · refine ex_of (fun _ _ => ev_iconst (pc' := 17) (iI (-1)) dX6_often_16 rfl (by decide)) ?_
      exact ex_end (ev_iret dX6_often_17 rfl) (⟨by unfold sOften; rw [if_neg (by omega)], _, hw, fr, hs⟩)
def wrI (S : Int → Int) (a t : Int) : Nat → Int
  | 0 => 0
  | n + 1 => wrI S a t n + if dP S a t = dP S (n : Int) t then 0 else S (43 + 10 * a + (n : Int)) * (S (3 + 4 * a + 3) + S (3 + 4 * (n : Int) + 3))
def wrO (S : Int → Int) (t : Int) : Nat → Int
  | 0 => 0
  | n + 1 => wrO S t n + wrI S (n : Int) t n
def sWr (S : Int → Int) (g t : Int) : Int := wrO (upI S 2 g) t (S 0).toNat
def rP (h0 : ev_H) (o0 : Nat → Int) (A : Nat → Int → Int) (r : Option Value) : Option Value → ev_H → Prop := fun v h2 => v = r ∧ MW h2 o0 A ∧ FrM h0 h2
theorem mI0_line {S : Int → Int} {g : Int} (h : mI0 S) (hg : 0 ≤ g ∧ g < 360) : mI0 (upI S 2 g) := by
  obtain ⟨a, b, c⟩ := h
  refine ⟨?_, ?_, ?_⟩
  · rw [upI_n (by decide)]; exact a
  · rw [upI_n (by decide)]; exact b
  · rw [upI_s]; exact hg
theorem mIP_line {S : Int → Int} {g : Int} (h : mIP S) : mIP (upI S 2 g) := by
  intro p h1 h2
  rw [upI_n (by decide)] at h2
  rw [upI_n (by omega), upI_n (by omega), upI_n (by omega), upI_n (by omega)]
  exact h p h1 h2
theorem upI_back (S : Int → Int) (g : Int) : upI (upI S 2 g) 2 (S 2) = S := by
  funext k
  unfold upI
  split
  · rename_i q; rw [q]
  · rfl
theorem upA_back (A : Nat → Int → Int) (S' : Int → Int) : upA (upA A 0 S') 0 (A 0) = A := by
  funext k
  unfold upA
  split
  · rename_i q; rw [q]
  · rfl
theorem e6_wrIL {Post : Option Value → ev_H → Prop} {g t was : Int} (hw : MW h o A) (hI : mI0 (A 0)) (hJ : mIP (A 0)) (hT : mIT (A 0)) (ht : 0 ≤ t ∧ t ≤ 19999) {a v0 : Int} (ha : 0 ≤ a ∧ a < A 0 0) : ∀ (n b : Nat), a = b + n → Ex l 3 yX6_wrongBy.cls yX6_wrongBy.name cX6_wrongBy 7 (some .int) 98 [some (.ref 34), some (.int (iI g)), some (.int (iI t)), some (.int (iI was)), some (.int (iI (v0 + wrI (A 0) a t a.toNat))), some (.int (iI (a))), some (.int (iI a))] [] h Post → Ex l 3 yX6_wrongBy.cls yX6_wrongBy.name cX6_wrongBy 7 (some .int) 27 [some (.ref 34), some (.int (iI g)), some (.int (iI t)), some (.int (iI was)), some (.int (iI (v0 + wrI (A 0) a t b))), some (.int (iI (a))), some (.int (iI (b : Int)))] [] h Post := by
  intro n
  obtain ⟨⟨i1, i2⟩, ⟨i3, i4⟩, i5, i6⟩ := id hI
  induction n with
  | zero =>
    intro b hn k
    have eb : a.toNat = b := by omega
    have ea : a = (b : Int) := by omega
    subst ea
    refine ex_of (fun _ _ => ev_iload (pc' := 29) dX6_wrongBy_27 rfl rfl) ?_
    refine ex_of (fun _ _ => ev_iload (pc' := 31) dX6_wrongBy_29 rfl rfl) ?_
    refine ex_icmpI_ge (pc' := 34) (tgt := 98) dX6_wrongBy_31 (by decide) rfl (by omega) (by omega) (fun c31 => ?_) (fun c31 => ?_)
    · rw [eb] at k
      exact k
    · omega
  | succ n ih =>
    intro b hn k
    have z1 := dP_b (p := a) (t := t) hJ ha (by omega)
    have z2 := dP_b (p := (b : Int)) (t := t) hJ (by omega) (by omega)
    have e1 : v0 + wrI (A 0) a t (b + 1) = v0 + wrI (A 0) a t b + if dP (A 0) a t = dP (A 0) (b : Int) t then 0 else A 0 (43 + 10 * a + (b : Int)) * (A 0 (3 + 4 * a + 3) + A 0 (3 + 4 * (b : Int) + 3)) := by rw [Int.add_assoc]; rfl
    refine ex_of (fun _ _ => ev_iload (pc' := 29) dX6_wrongBy_27 rfl rfl) ?_
    refine ex_of (fun _ _ => ev_iload (pc' := 31) dX6_wrongBy_29 rfl rfl) ?_
    refine ex_icmpI_ge (pc' := 34) (tgt := 98) dX6_wrongBy_31 (by decide) rfl (by omega) (by omega) (fun c31 => ?_) (fun c31 => ?_)
    · omega
    · refine ex_of (fun _ _ => ev_iload (pc' := 36) dX6_wrongBy_34 rfl rfl) ?_
      refine ex_of (fun _ _ => ev_aload_n (pc' := 37) dX6_wrongBy_36 rfl rfl) ?_
      refine ex_of (fun _ _ => ev_iload (pc' := 39) dX6_wrongBy_37 rfl rfl) ?_
      refine ex_of (fun _ _ => ev_iload_n (pc' := 40) dX6_wrongBy_39 rfl rfl) ?_
      refine ex_of (fun _ _ => ev_callV2 (pc' := 43) kX6_145 mX6_dayIn dX6_wrongBy_40 rfl rfl (Nat.le_of_ble_eq_true rfl) (Nat.le_of_ble_eq_true rfl) (by decide) rfl hw.o (e6_dayIn hw hI hJ (by omega) (by omega))) ?_
      refine ex_of (fun _ _ => ev_aload_n (pc' := 44) dX6_wrongBy_43 rfl rfl) ?_
      refine ex_of (fun _ _ => ev_iload (pc' := 46) dX6_wrongBy_44 rfl rfl) ?_
      refine ex_of (fun _ _ => ev_iload_n (pc' := 47) dX6_wrongBy_46 rfl rfl) ?_
      refine ex_of (fun _ _ => ev_callV2 (pc' := 50) kX6_145 mX6_dayIn dX6_wrongBy_47 rfl rfl (Nat.le_of_ble_eq_true rfl) (Nat.le_of_ble_eq_true rfl) (by decide) rfl hw.o (e6_dayIn hw hI hJ (by omega) (by omega))) ?_
      refine ex_icmpI_ne (pc' := 53) (tgt := 57) dX6_wrongBy_50 (by decide) rfl (by omega) (by omega) (fun c50 => ?_) (fun c50 => ?_)
      · refine ex_of (fun _ _ => ev_aload_n (pc' := 58) dX6_wrongBy_57 rfl rfl) ?_
        refine ex_of (fun _ _ => ev_getfield (pc' := 61) fX6_9 dX6_wrongBy_58 rfl hw.o rfl) ?_
        refine ex_of (fun _ _ => ev_bipush (pc' := 63) (iI (43)) dX6_wrongBy_61 rfl (by decide)) ?_
        refine ex_of (fun _ _ => ev_bipush (pc' := 65) (iI (10)) dX6_wrongBy_63 rfl (by decide)) ?_
        refine ex_of (fun _ _ => ev_iload (pc' := 67) dX6_wrongBy_65 rfl rfl) ?_
        refine ex_of (fun _ _ => ev_imulI (pc' := 68) dX6_wrongBy_67 rfl) ?_
        refine ex_of (fun _ _ => ev_iaddI (pc' := 69) dX6_wrongBy_68 rfl) ?_
        refine ex_of (fun _ _ => ev_iload (pc' := 71) dX6_wrongBy_69 rfl rfl) ?_
        refine ex_of (fun _ _ => ev_iaddI (pc' := 72) dX6_wrongBy_71 rfl) ?_
        refine ex_of (fun _ _ => ev_ialoadI (pc' := 73) dX6_wrongBy_72 rfl hw.a0 (by decide) (by omega)) ?_
        refine ex_of (fun _ _ => ev_aload_n (pc' := 74) dX6_wrongBy_73 rfl rfl) ?_
        refine ex_of (fun _ _ => ev_iload (pc' := 76) dX6_wrongBy_74 rfl rfl) ?_
        refine ex_of (fun _ _ => ev_iconst (pc' := 77) (iI (3)) dX6_wrongBy_76 rfl (by decide)) ?_
        refine ex_of (fun _ _ => ev_callV2 (pc' := 80) kX6_108 mX6_get dX6_wrongBy_77 rfl rfl (Nat.le_of_ble_eq_true rfl) (Nat.le_of_ble_eq_true rfl) (by decide) rfl hw.o (e6_get hw (by omega))) ?_
        refine ex_of (fun _ _ => ev_aload_n (pc' := 81) dX6_wrongBy_80 rfl rfl) ?_
        refine ex_of (fun _ _ => ev_iload (pc' := 83) dX6_wrongBy_81 rfl rfl) ?_
        refine ex_of (fun _ _ => ev_iconst (pc' := 84) (iI (3)) dX6_wrongBy_83 rfl (by decide)) ?_
        refine ex_of (fun _ _ => ev_callV2 (pc' := 87) kX6_108 mX6_get dX6_wrongBy_84 rfl rfl (Nat.le_of_ble_eq_true rfl) (Nat.le_of_ble_eq_true rfl) (by decide) rfl hw.o (e6_get hw (by omega))) ?_
        refine ex_of (fun _ _ => ev_iaddI (pc' := 88) dX6_wrongBy_87 rfl) ?_
        refine ex_of (fun _ _ => ev_imulI (pc' := 89) dX6_wrongBy_88 rfl) ?_
        refine ex_of (fun _ _ => ev_iaddI (pc' := 90) dX6_wrongBy_89 rfl) ?_
        refine ex_of (fun _ _ => ev_istore_4 (pc' := 92) dX6_wrongBy_90 rfl (by decide) rfl) ?_
        refine ex_of (fun _ _ => ev_iincI_6 (pc' := 95) dX6_wrongBy_92 rfl (by decide) rfl) ?_
        refine ex_of (fun _ _ => ev_goto (tgt := 27) dX6_wrongBy_95 (by decide)) ?_
        have K := ih (b + 1) (by omega) k
        rw [e1] at K
        first | rw [if_pos c50] at K | rw [if_neg c50] at K
        exact K
      · refine ex_of (fun _ _ => ev_iconst (pc' := 54) (iI (0)) dX6_wrongBy_53 rfl (by decide)) ?_
        refine ex_of (fun _ _ => ev_goto (tgt := 89) dX6_wrongBy_54 (by decide)) ?_
        refine ex_of (fun _ _ => ev_iaddI (pc' := 90) dX6_wrongBy_89 rfl) ?_
        refine ex_of (fun _ _ => ev_istore_4 (pc' := 92) dX6_wrongBy_90 rfl (by decide) rfl) ?_
        refine ex_of (fun _ _ => ev_iincI_6 (pc' := 95) dX6_wrongBy_92 rfl (by decide) rfl) ?_
        refine ex_of (fun _ _ => ev_goto (tgt := 27) dX6_wrongBy_95 (by decide)) ?_
        have K := ih (b + 1) (by omega) k
        rw [e1] at K
        first | rw [if_pos c50] at K | rw [if_neg c50] at K
        exact K
theorem e6_wrOL {Post : Option Value → ev_H → Prop} {g t was : Int} (hw : MW h o A) (hI : mI0 (A 0)) (hJ : mIP (A 0)) (hT : mIT (A 0)) (ht : 0 ≤ t ∧ t ≤ 19999) : ∀ (n a : Nat) (a6 : Option Value), A 0 0 = a + n → (∀ a6, Ex l 3 yX6_wrongBy.cls yX6_wrongBy.name cX6_wrongBy 7 (some .int) 104 [some (.ref 34), some (.int (iI g)), some (.int (iI t)), some (.int (iI was)), some (.int (iI (wrO (A 0) t (A 0 0).toNat))), some (.int (iI (A 0 0))), a6] [] h Post) → Ex l 3 yX6_wrongBy.cls yX6_wrongBy.name cX6_wrongBy 7 (some .int) 13 [some (.ref 34), some (.int (iI g)), some (.int (iI t)), some (.int (iI was)), some (.int (iI (wrO (A 0) t a))), some (.int (iI ((a : Int)))), a6] [] h Post := by
  intro n
  obtain ⟨⟨i1, i2⟩, ⟨i3, i4⟩, i5, i6⟩ := id hI
  induction n with
  | zero =>
    intro a a6 hn k
    have eb : (A 0 0).toNat = a := by omega
    have ea : A 0 0 = (a : Int) := by omega
    have k := k a6
    rw [eb, ea] at k
    refine ex_of (fun _ _ => ev_iload (pc' := 15) dX6_wrongBy_13 rfl rfl) ?_
    refine ex_of (fun _ _ => ev_aload_n (pc' := 16) dX6_wrongBy_15 rfl rfl) ?_
    refine ex_of (fun _ _ => ev_getfield (pc' := 19) fX6_9 dX6_wrongBy_16 rfl hw.o rfl) ?_
    refine ex_of (fun _ _ => ev_iconst (pc' := 20) (iI (0)) dX6_wrongBy_19 rfl (by decide)) ?_
    refine ex_of (fun _ _ => ev_ialoadI (pc' := 21) dX6_wrongBy_20 rfl hw.a0 (by decide) (by omega)) ?_
    refine ex_icmpI_ge (pc' := 24) (tgt := 104) dX6_wrongBy_21 (by decide) rfl (by omega) (by omega) (fun c21 => ?_) (fun c21 => ?_)
    · exact k
    · omega
  | succ n ih =>
    intro a a6 hn k
    refine ex_of (fun _ _ => ev_iload (pc' := 15) dX6_wrongBy_13 rfl rfl) ?_
    refine ex_of (fun _ _ => ev_aload_n (pc' := 16) dX6_wrongBy_15 rfl rfl) ?_
    refine ex_of (fun _ _ => ev_getfield (pc' := 19) fX6_9 dX6_wrongBy_16 rfl hw.o rfl) ?_
    refine ex_of (fun _ _ => ev_iconst (pc' := 20) (iI (0)) dX6_wrongBy_19 rfl (by decide)) ?_
    refine ex_of (fun _ _ => ev_ialoadI (pc' := 21) dX6_wrongBy_20 rfl hw.a0 (by decide) (by omega)) ?_
    refine ex_icmpI_ge (pc' := 24) (tgt := 104) dX6_wrongBy_21 (by decide) rfl (by omega) (by omega) (fun c21 => ?_) (fun c21 => ?_)
    · omega
    · refine ex_of (fun _ _ => ev_iconst (pc' := 25) (iI (0)) dX6_wrongBy_24 rfl (by decide)) ?_
      refine ex_of (fun _ _ => ev_istore_6 (pc' := 27) dX6_wrongBy_25 rfl (by decide) rfl) ?_
      refine ex_of (fun _ _ => ev_ll (lc := [some (.ref 34), some (.int (iI g)), some (.int (iI t)), some (.int (iI was)), some (.int (iI (wrO (A 0) t a + wrI (A 0) (a : Int) t (0 : Nat)))), some (.int (iI ((a : Int)))), some (.int (iI ((0 : Nat) : Int)))]) ?_) (e6_wrIL hw hI hJ hT ht (a := (a : Int)) (by omega) a 0 (by omega) ?_)
      · show _ = _
        rw [show wrO (A 0) t a + wrI (A 0) (a : Int) t 0 = wrO (A 0) t a from Int.add_zero _]
        rfl
      · rw [show ((a : Int)).toNat = a by omega]
        refine ex_of (fun _ _ => ev_iincI_5 (pc' := 101) dX6_wrongBy_98 rfl (by decide) rfl) ?_
        refine ex_of (fun _ _ => ev_goto (tgt := 13) dX6_wrongBy_101 (by decide)) ?_
        exact ih (a + 1) _ (by omega) k
theorem e6_wrongBy {g t : Int} (hw : MW h o A) (hI : mI0 (A 0)) (hJ : mIP (A 0)) (hT : mIT (A 0)) (ht : 0 ≤ t ∧ t ≤ 19999) (hg : 0 ≤ g ∧ g < 360) : Ex l 3 yX6_wrongBy.cls yX6_wrongBy.name cX6_wrongBy 7 (some .int) 0 [some (.ref 34), some (.int (iI g)), some (.int (iI t)), none, none, none, none] [] h (rP h o A (some (.int (iI (sWr (A 0) g t))))) := by
  obtain ⟨⟨i1, i2⟩, ⟨i3, i4⟩, i5, i6⟩ := id hI
  refine ex_of (fun _ _ => ev_aload_n (pc' := 1) dX6_wrongBy_0 rfl rfl) ?_
  refine ex_of (fun _ _ => ev_iconst (pc' := 2) (iI (2)) dX6_wrongBy_1 rfl (by decide)) ?_
  refine ex_of (fun _ _ => ev_iload_n (pc' := 3) dX6_wrongBy_2 rfl rfl) ?_
  have hO := hw.o
  obtain ⟨w1, h1, E1, rfl, hw, fr⟩ := e6_becomes (l := l) (a := 2) (z := g) hw (by omega)
  refine ex_of (fun _ _ => ev_callV2 (pc' := 6) kX6_114 mX6_becomes dX6_wrongBy_3 rfl rfl (Nat.le_of_ble_eq_true rfl) (Nat.le_of_ble_eq_true rfl) (by decide) rfl hO E1) ?_
  refine ex_of (fun _ _ => ev_istore_3 (pc' := 7) dX6_wrongBy_6 rfl (by decide) rfl) ?_
  refine ex_of (fun _ _ => ev_iconst (pc' := 8) (iI (0)) dX6_wrongBy_7 rfl (by decide)) ?_
  refine ex_of (fun _ _ => ev_istore_4 (pc' := 10) dX6_wrongBy_8 rfl (by decide) rfl) ?_
  refine ex_of (fun _ _ => ev_iconst (pc' := 11) (iI (0)) dX6_wrongBy_10 rfl (by decide)) ?_
  refine ex_of (fun _ _ => ev_istore_5 (pc' := 13) dX6_wrongBy_11 rfl (by decide) rfl) ?_
  have hT' : mIT (upI (A 0) 2 g) := by
    intro a b h1 h2 h3 h4
    rw [upI_n (by omega), upI_n (by omega)]
    exact hT a b h1 h2 h3 h4
  have e0 : upI (A 0) 2 g 0 = A 0 0 := upI_n (by decide)
  have K := e6_wrOL (l := l) (Post := rP h o A (some (.int (iI (sWr (A 0) g t))))) (g := g) (t := t) (was := A 0 2) hw (by rw [upA_s]; exact mI0_line hI hg) (by rw [upA_s]; exact mIP_line hJ) (by rw [upA_s]; exact hT') ht (A 0 0).toNat 0 none (by rw [upA_s, e0]; omega)
  rw [upA_s, e0] at K
  refine K (fun a6 => ?_)
  refine ex_of (fun _ _ => ev_aload_n (pc' := 105) dX6_wrongBy_104 rfl rfl) ?_
  refine ex_of (fun _ _ => ev_getfield (pc' := 108) fX6_9 dX6_wrongBy_105 rfl hw.o rfl) ?_
  refine ex_of (fun _ _ => ev_iconst (pc' := 109) (iI (2)) dX6_wrongBy_108 rfl (by decide)) ?_
  refine ex_of (fun _ _ => ev_iload_n (pc' := 110) dX6_wrongBy_109 rfl rfl) ?_
  refine xst_0 (pc' := 111) dX6_wrongBy_110 rfl hw fr (by omega) (fun h hw fr => ?_)
  refine ex_of (fun _ _ => ev_iload (pc' := 113) dX6_wrongBy_111 rfl rfl) ?_
  exact ex_end (ev_iret dX6_wrongBy_113 rfl) (⟨rfl, by rw [upA_s, upI_back, upA_back] at hw; exact hw, fr⟩)
end MH
