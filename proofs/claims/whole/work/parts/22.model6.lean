/-! bounds of days -/
theorem fwL_b2 {S : Int → Int} {ea : Int → Bool} {k t : Int} (hT : mT S k) : ∀ (n : Nat) (i ab pn si : Int), 0 ≤ i → S (143 + 45 * k + 3) - i = n → (-360 * i ≤ ab ∧ ab ≤ 360 * i) → -2160 * (fwL S ea k t n i ab pn si).2.1 ≤ (fwL S ea k t n i ab pn si).1 ∧ (fwL S ea k t n i ab pn si).1 ≤ 2160 * (fwL S ea k t n i ab pn si).2.1 := by
  intro n
  obtain ⟨t0, t1, t2, t3, t4, t5, t6, t7⟩ := id hT
  induction n with
  | zero =>
    intro i ab pn si hi hn hb
    show -2160 * 1 ≤ ab ∧ ab ≤ 2160 * 1
    omega
  | succ n ih =>
    intro i ab pn si hi hn hb
    obtain ⟨u0, u1, u2, u3⟩ := t4 i hi (by omega)
    have sb := sgn_b S (ea i) pn (S (143 + 45 * k + (4 + 4 * i + 0)))
    unfold fwL
    by_cases c1 : t ≤ S (143 + 45 * k + (4 + 4 * i + 2))
    · rw [if_pos c1]
      show -2160 * 1 ≤ ab ∧ ab ≤ 2160 * 1
      omega
    · rw [if_neg c1]
      by_cases c2 : S (143 + 45 * k + (4 + 4 * i + 2)) + 60 * S (143 + 45 * k + (4 + 4 * i + 3)) ≤ t
      · rw [if_pos c2]
        exact ih (i + 1) _ _ _ (by omega) (by omega) (by omega)
      · rw [if_neg c2]
        have b1 := mul_bd (x := ab) (y := 60 * S (143 + 45 * k + (4 + 4 * i + 3))) (X := 1800) (Y := 60 * S (143 + 45 * k + (4 + 4 * i + 3))) (by omega) (by omega)
        have b2 := mul_bd (x := sgn S (ea i) pn (S (143 + 45 * k + (4 + 4 * i + 0)))) (y := t - S (143 + 45 * k + (4 + 4 * i + 2))) (X := 360) (Y := 60 * S (143 + 45 * k + (4 + 4 * i + 3))) (by omega) (by omega)
        show -2160 * (60 * S (143 + 45 * k + (4 + 4 * i + 3))) ≤ ab * (60 * S (143 + 45 * k + (4 + 4 * i + 3))) + sgn S (ea i) pn (S (143 + 45 * k + (4 + 4 * i + 0))) * (t - S (143 + 45 * k + (4 + 4 * i + 2))) ∧ ab * (60 * S (143 + 45 * k + (4 + 4 * i + 3))) + sgn S (ea i) pn (S (143 + 45 * k + (4 + 4 * i + 0))) * (t - S (143 + 45 * k + (4 + 4 * i + 2))) ≤ 2160 * (60 * S (143 + 45 * k + (4 + 4 * i + 3)))
        omega
theorem fw_b2 {S : Int → Int} {ea : Int → Bool} {k t : Int} (hT : mT S k) : -2160 * (fw S ea k t).2.1 ≤ (fw S ea k t).1 ∧ (fw S ea k t).1 ≤ 2160 * (fw S ea k t).2.1 := by
  obtain ⟨t0, t1, t2, t3, -⟩ := id hT
  exact fwL_b2 hT _ 0 0 _ 0 (by omega) (by omega) (by omega)
theorem dAt_b {ab be r t : Int} (h1 : -3000 * be ≤ ab ∧ ab ≤ 3000 * be) (h2 : 0 < be) (h4 : -100000 ≤ t ∧ t ≤ 100000) : -200 ≤ dAt ab be r t ∧ dAt ab be r t ≤ 200 := by
  have b2 := rr_b r
  have b1 := mul_bd (x := t - 720 + rr r) (y := be) (X := 101080) (Y := be) (by omega) (by omega)
  unfold dAt
  constructor
  · exact Int.le_ediv_of_mul_le (by omega) (by omega)
  · exact Int.le_of_lt_add_one (Int.ediv_lt_of_lt_mul (by omega) (by omega))
theorem dP_b {S : Int → Int} {p t : Int} (hJ : mIP S) (hp : 0 ≤ p ∧ p < S 0) (h4 : -100000 ≤ t ∧ t ≤ 100000) : -201 ≤ dP S p t ∧ dP S p t ≤ 201 := by
  have e1 := eS_b S (S (3 + 4 * p + 0))
  have := dAt_b (ab := eS S (S (3 + 4 * p + 0))) (be := 1) (r := S (3 + 4 * p + 1)) (t := t) (by omega) (by omega) h4
  obtain ⟨-, -, j3, -⟩ := hJ p hp.1 hp.2
  unfold dP
  omega
theorem chS_b {S : Int → Int} {k t : Int} (hT : mT S k) : ∀ n : Nat, (n : Int) ≤ S (143 + 45 * k + 28) → -(n : Int) ≤ chS S k t n ∧ chS S k t n ≤ n
  | 0, _ => by simp [chS]
  | n + 1, hn => by
    have ih := chS_b (t := t) hT n (by omega)
    obtain ⟨-, u2⟩ := hT.2.2.2.2.2.2.1 (n : Int) (by omega) (by omega)
    unfold chS
    split <;> omega
theorem sChg_b {S : Int → Int} {k t : Int} (hT : mT S k) : -8 ≤ sChg S k t ∧ sChg S k t ≤ 8 := by
  have t5 := hT.2.2.2.2.2.1
  have := chS_b (t := t) hT (S (143 + 45 * k + 28)).toNat (by omega)
  unfold sChg
  omega
theorem eN_b {S : Int → Int} {k ab be : Int} (h1 : -2160 * be ≤ ab ∧ ab ≤ 2160 * be) (h2 : 0 < be) : -2520 * be ≤ eN S k ab be ∧ eN S k ab be ≤ 2520 * be := by
  have e1 := eS_b S (S (3 + 4 * S (143 + 45 * k + 1) + 0))
  have b1 := mul_bd (x := eS S (S (3 + 4 * S (143 + 45 * k + 1) + 0))) (y := be) (X := 360) (Y := be) (by omega) (by omega)
  unfold eN
  omega
theorem sRnd_b {S : Int → Int} {k ab be : Int} (h1 : -2160 * be ≤ ab ∧ ab ≤ 2160 * be) (h2 : 0 < be) : -7 ≤ sRnd S k ab be ∧ sRnd S k ab be ≤ 7 := by
  have := eN_b (S := S) (k := k) h1 h2
  unfold sRnd
  constructor
  · exact Int.le_ediv_of_mul_le (by omega) (by omega)
  · exact Int.le_of_lt_add_one (Int.ediv_lt_of_lt_mul (by omega) (by omega))
theorem sMid_b {S : Int → Int} {k ab be t : Int} (h2 : 0 < be) (h4 : -100000 ≤ t ∧ t ≤ 100000) : -200 ≤ sMid S k ab be t ∧ sMid S k ab be t ≤ 200 := by
  have e4 := Int.emod_nonneg (eN S k ab be) (show 360 * be ≠ 0 by omega)
  have e5 := Int.emod_lt_of_pos (eN S k ab be) (show 0 < 360 * be by omega)
  exact dAt_b (by omega) h2 h4
theorem sDayAs_b {S : Int → Int} {ea : Int → Bool} {k kd t : Int} (hJ : mIP S) (hT : mT S k) (ht : -100000 ≤ t ∧ t ≤ 100000) : -1000 ≤ sDayAs S ea k kd t ∧ sDayAs S ea k kd t ≤ 1000 := by
  obtain ⟨fa, fb, fc, fd, hf, g1, g2, g3, g4⟩ := fw_b (ea := ea) hT ht.2
  have w := fw_b2 (ea := ea) (t := t) hT
  unfold sDayAs
  rw [hf] at w ⊢
  have hb : -2160 * fb ≤ fa ∧ fa ≤ 2160 * fb := w
  show -1000 ≤ sDay S k kd t fa fb fc fd ∧ sDay S k kd t fa fb fc fd ≤ 1000
  have z1 := dAt_b (ab := eN S k fa fb) (r := 1) (by have := eN_b (S := S) (k := k) hb g2.1; omega) g2.1 ht
  have z2 := sRnd_b (S := S) (k := k) hb g2.1
  have z3 := sMid_b (S := S) (k := k) (ab := fa) g2.1 ht
  have z4 := dP_b (t := t) hJ hT.2.1 ht
  have z5 := sChg_b (t := t) hT
  have z6 : 0 ≤ fc → -201 ≤ dP S fc t ∧ dP S fc t ≤ 201 := fun q => dP_b hJ (by omega) ht
  have z7 : sSeen S k fa fb t = dAt (eN S k fa fb) fb 1 t := rfl
  unfold sDay sHere
  repeat' split
  all_goals first | omega | (have := z6 (by omega); omega)
/-- the first minute from m on, of n minutes, at which P holds; -4 -/
def fstM (P : Int → Bool) : Nat → Int → Int
  | 0, _ => -4
  | n + 1, m => if P m then m else fstM P n (m + 1)
theorem fstM_t {P : Int → Bool} {n : Nat} {m : Int} (h : P m = true) : fstM P (n + 1) m = m := by unfold fstM; rw [if_pos h]
theorem fstM_f {P : Int → Bool} {n : Nat} {m : Int} (h : P m = false) : fstM P (n + 1) m = fstM P n (m + 1) := by conv => lhs; unfold fstM; rw [if_neg (by rw [h]; decide)]
theorem ev_deepx {l : Launch} {d d0 : Nat} {own nm : String} {cc : ByteArray} {nL : Nat} {ret : Option FieldType} {pc : Nat} {lc : ev_L} {st : List Value} {h : ev_H} {Post : Option Value → ev_H → Prop} (hd : d0 ≤ d) (k : Ex l d0 own nm cc nL ret pc lc st h Post) : Ex l d own nm cc nL ret pc lc st h Post := by
  obtain ⟨v, h2, E, p⟩ := k
  exact ⟨v, h2, ev_deep E hd, p⟩
section MG
variable {l : Launch} {A : Nat → Int → Int}
theorem e6_begL {h0 : ev_H} {o0 : Nat → Int} {k t day : Int} (hI : mI0 (A 0)) (hJ : mIP (A 0)) (hK : ∀ k, 0 ≤ k → k < A 0 1 → mT (A 0) k) (hk : 0 ≤ k ∧ k < A 0 1) (hd : -1000 ≤ day ∧ day ≤ 1000) : ∀ (n : Nat) (m : Int) (h : ev_H) (o : Nat → Int), MW h o A → FrM h0 h → (∀ j, j < 19 → o j = o0 j) → 0 ≤ m → 20000 - m = n → Ex l 6 yX6_beginsOf.cls yX6_beginsOf.name cX6_beginsOf 5 (some .int) 12 [some (.ref 34), some (.int (iI k)), some (.int (iI t)), some (.int (iI day)), some (.int (iI m))] [] h (scP h0 o0 A (some (.int (iI (fstM (fun x => decide (sDayN (A 0) k x ≠ day)) (n) (m)))))) := by
  intro n
  obtain ⟨⟨i1, i2⟩, ⟨i3, i4⟩, i5, i6⟩ := id hI
  induction n with
  | zero =>
    intro m h o hw fr hs hm hn
    refine ex_of (fun _ _ => ev_iload (pc' := 14) dX6_beginsOf_12 rfl rfl) ?_
    refine ex_of (fun _ _ => ev_sipush (pc' := 17) (iI (19999)) dX6_beginsOf_14 rfl (by decide)) ?_
    refine ex_icmpI_gt (pc' := 20) (tgt := 40) dX6_beginsOf_17 (by decide) rfl (by omega) (by omega) (fun c17 => ?_) (fun c17 => ?_)
    · refine ex_of (fun _ _ => ev_bipush (pc' := 42) (iI (-4)) dX6_beginsOf_40 rfl (by decide)) ?_
      exact ex_end (ev_iret dX6_beginsOf_42 rfl) (⟨rfl, _, hw, fr, hs⟩)
    · omega
  | succ n ih =>
    intro m h o hw fr hs hm hn
    have zb := sDayAs_b (ea := mea (A 0) k) (kd := A 0 (143 + 45 * k + 0)) hJ (hK k (by omega) (by omega)) (t := m) (by omega)
    refine ex_of (fun _ _ => ev_iload (pc' := 14) dX6_beginsOf_12 rfl rfl) ?_
    refine ex_of (fun _ _ => ev_sipush (pc' := 17) (iI (19999)) dX6_beginsOf_14 rfl (by decide)) ?_
    refine ex_icmpI_gt (pc' := 20) (tgt := 40) dX6_beginsOf_17 (by decide) rfl (by omega) (by omega) (fun c17 => ?_) (fun c17 => ?_)
    · omega
    · refine ex_of (fun _ _ => ev_aload_n (pc' := 21) dX6_beginsOf_20 rfl rfl) ?_
      refine ex_of (fun _ _ => ev_iload_n (pc' := 22) dX6_beginsOf_21 rfl rfl) ?_
      refine ex_of (fun _ _ => ev_iload (pc' := 24) dX6_beginsOf_22 rfl rfl) ?_
      have hO := hw.o
      obtain ⟨w1, h1, E1, rfl, o1, hw, fr1, hs1⟩ := e6_dayNow (l := l) (k := k) hw hI hJ (by omega) (hK k (by omega) (by omega)) (t := m) (by omega)
      refine ex_of (fun _ _ => ev_callV2 (pc' := 27) kX6_208 mX6_dayNow dX6_beginsOf_24 rfl rfl (Nat.le_of_ble_eq_true rfl) (Nat.le_of_ble_eq_true rfl) (by decide) rfl hO E1) ?_
      have fr := fr.tr fr1
      have hs : ∀ j, j < 19 → _ := fun j hj => (hs1 j hj).trans (hs j hj)
      refine ex_of (fun _ _ => ev_iload_n (pc' := 28) dX6_beginsOf_27 rfl rfl) ?_
      refine ex_icmpI_eq (pc' := 31) (tgt := 34) dX6_beginsOf_28 (by decide) rfl (by omega) (by omega) (fun c28 => ?_) (fun c28 => ?_)
      · refine ex_of (fun _ _ => ev_iincI_4 (pc' := 37) dX6_beginsOf_34 rfl (by decide) rfl) ?_
        refine ex_of (fun _ _ => ev_goto (tgt := 12) dX6_beginsOf_37 (by decide)) ?_
        rw [fstM_f (by simpa [sDayN] using c28)]
        exact ih (m + 1) _ _ hw fr hs (by omega) (by omega)
      · refine ex_of (fun _ _ => ev_iload (pc' := 33) dX6_beginsOf_31 rfl rfl) ?_
        exact ex_end (ev_iret dX6_beginsOf_33 rfl) (⟨by rw [fstM_t (by simpa [sDayN] using c28)], _, hw, fr, hs⟩)
def sBeg (S : Int → Int) (k t : Int) : Int := fstM (fun x => decide (sDayN S k x ≠ sDayN S k t)) (19999 - t).toNat (t + 1)
variable {h : ev_H} {o : Nat → Int}
theorem e6_beginsOf {k t : Int} (hw : MW h o A) (hI : mI0 (A 0)) (hJ : mIP (A 0)) (hK : ∀ k, 0 ≤ k → k < A 0 1 → mT (A 0) k) (hk : 0 ≤ k ∧ k < A 0 1) (ht : 0 ≤ t ∧ t ≤ 19999) : Ex l 6 yX6_beginsOf.cls yX6_beginsOf.name cX6_beginsOf 5 (some .int) 0 [some (.ref 34), some (.int (iI k)), some (.int (iI t)), none, none] [] h (scP h o A (some (.int (iI (sBeg (A 0) k t))))) := by
  obtain ⟨⟨i1, i2⟩, ⟨i3, i4⟩, i5, i6⟩ := id hI
  have fr := FrM.rf h
  have hs : ∀ j, j < 19 → o j = o j := fun _ _ => rfl
  have zb := sDayAs_b (ea := mea (A 0) k) (kd := A 0 (143 + 45 * k + 0)) hJ (hK k (by omega) (by omega)) (t := t) (by omega)
  refine ex_of (fun _ _ => ev_aload_n (pc' := 1) dX6_beginsOf_0 rfl rfl) ?_
  refine ex_of (fun _ _ => ev_iload_n (pc' := 2) dX6_beginsOf_1 rfl rfl) ?_
  refine ex_of (fun _ _ => ev_iload_n (pc' := 3) dX6_beginsOf_2 rfl rfl) ?_
  have hO := hw.o
  obtain ⟨w1, h1, E1, rfl, o1, hw, fr1, hs1⟩ := e6_dayNow (l := l) (k := k) hw hI hJ (by omega) (hK k (by omega) (by omega)) (t := t) (by omega)
  refine ex_of (fun _ _ => ev_callV2 (pc' := 6) kX6_208 mX6_dayNow dX6_beginsOf_3 rfl rfl (Nat.le_of_ble_eq_true rfl) (Nat.le_of_ble_eq_true rfl) (by decide) rfl hO E1) ?_
  have fr := fr.tr fr1
  have hs : ∀ j, j < 19 → _ := fun j hj => (hs1 j hj).trans (hs j hj)
  refine ex_of (fun _ _ => ev_istore_3 (pc' := 7) dX6_beginsOf_6 rfl (by decide) rfl) ?_
  refine ex_of (fun _ _ => ev_iload_n (pc' := 8) dX6_beginsOf_7 rfl rfl) ?_
  refine ex_of (fun _ _ => ev_iconst (pc' := 9) (iI (1)) dX6_beginsOf_8 rfl (by decide)) ?_
  refine ex_of (fun _ _ => ev_iaddI (pc' := 10) dX6_beginsOf_9 rfl) ?_
  refine ex_of (fun _ _ => ev_istore_4 (pc' := 12) dX6_beginsOf_10 rfl (by decide) rfl) ?_
  exact e6_begL hI hJ hK hk zb _ (t + 1) _ _ hw fr hs (by omega) (by omega)
def sBegins (S : Int → Int) (k t : Int) : Int := if (0 ≤ k ∧ k < S 1) ∧ (0 ≤ t ∧ t ≤ 19999) then sBeg S k t else -1
theorem e6_begins {k t : Int} (hw : MW h o A) (hI : mI0 (A 0)) (hJ : mIP (A 0)) (hK : ∀ k, 0 ≤ k → k < A 0 1 → mT (A 0) k) (rk : -2147483648 ≤ k ∧ k < 2147483648) (rt : -2147483648 ≤ t ∧ t < 2147483648) : Ex l 7 yX6_begins.cls yX6_begins.name cX6_begins 3 (some .int) 0 [some (.ref 34), some (.int (iI k)), some (.int (iI t))] [] h (scP h o A (some (.int (iI (sBegins (A 0) k t))))) := by
  obtain ⟨⟨i1, i2⟩, ⟨i3, i4⟩, i5, i6⟩ := id hI
  have fr := FrM.rf h
  have hs : ∀ j, j < 19 → o j = o j := fun _ _ => rfl
  refine ex_of (fun _ _ => ev_aload_n (pc' := 1) dX6_begins_0 rfl rfl) ?_
  refine ex_of (fun _ _ => ev_iload_n (pc' := 2) dX6_begins_1 rfl rfl) ?_
  refine ex_of (fun _ _ => ev_callV1 (pc' := 5) kX6_157 mX6_isOne dX6_begins_2 rfl rfl (Nat.le_of_ble_eq_true rfl) (Nat.le_of_ble_eq_true rfl) (by decide) rfl hw.o (e6_isOne hw hI (by omega))) ?_
  refine ex_ifd_eq (pc' := 8) (tgt := 25) dX6_begins_5 (by decide) rfl (fun c5 => ?_) (fun c5 => ?_)
  · refine ex_of (fun _ _ => ev_iconst (pc' := 26) (iI (-1)) dX6_begins_25 rfl (by decide)) ?_
    exact ex_end (ev_iret dX6_begins_26 rfl) (⟨by unfold sBegins; first | rw [if_pos (by omega)] | rw [if_neg (by omega)], _, hw, fr, hs⟩)
  · refine ex_of (fun _ _ => ev_iload_n (pc' := 9) dX6_begins_8 rfl rfl) ?_
    refine ex_of (fun _ _ => ev_i2lI (pc' := 10) dX6_begins_9 rfl (by omega)) ?_
    refine ex_of (fun _ _ => ev_callS1 (pc' := 13) kX6_141 mX6_isMinute dX6_begins_10 rfl rfl (Nat.le_of_ble_eq_true rfl) (Nat.le_of_ble_eq_true rfl) (by decide) (e6_isMinute (by omega))) ?_
    refine ex_ifd_eq (pc' := 16) (tgt := 25) dX6_begins_13 (by decide) rfl (fun c13 => ?_) (fun c13 => ?_)
    · refine ex_of (fun _ _ => ev_iconst (pc' := 26) (iI (-1)) dX6_begins_25 rfl (by decide)) ?_
      exact ex_end (ev_iret dX6_begins_26 rfl) (⟨by unfold sBegins; first | rw [if_pos (by omega)] | rw [if_neg (by omega)], _, hw, fr, hs⟩)
    · refine ex_of (fun _ _ => ev_aload_n (pc' := 17) dX6_begins_16 rfl rfl) ?_
      refine ex_of (fun _ _ => ev_iload_n (pc' := 18) dX6_begins_17 rfl rfl) ?_
      refine ex_of (fun _ _ => ev_iload_n (pc' := 19) dX6_begins_18 rfl rfl) ?_
      have hO := hw.o
      obtain ⟨w1, h1, E1, rfl, o1, hw, fr1, hs1⟩ := e6_beginsOf (l := l) (k := k) (t := t) hw hI hJ hK (by omega) (by omega)
      refine ex_of (fun _ _ => ev_callV2 (pc' := 22) kX6_214 mX6_beginsOf dX6_begins_19 rfl rfl (Nat.le_of_ble_eq_true rfl) (Nat.le_of_ble_eq_true rfl) (by decide) rfl hO E1) ?_
      have fr := fr.tr fr1
      have hs : ∀ j, j < 19 → _ := fun j hj => (hs1 j hj).trans (hs j hj)
      refine ex_of (fun _ _ => ev_goto (tgt := 26) dX6_begins_22 (by decide)) ?_
      exact ex_end (ev_iret dX6_begins_26 rfl) (⟨by unfold sBegins; first | rw [if_pos (by omega)] | rw [if_neg (by omega)], _, hw, fr, hs⟩)
theorem e6_dutL {h0 : ev_H} {o0 : Nat → Int} {k t q due : Int} (hI : mI0 (A 0)) (hJ : mIP (A 0)) (hK : ∀ k, 0 ≤ k → k < A 0 1 → mT (A 0) k) (hk : 0 ≤ k ∧ k < A 0 1) (hd : -2000 ≤ due ∧ due ≤ 2000) : ∀ (n : Nat) (m : Int) (h : ev_H) (o : Nat → Int), MW h o A → FrM h0 h → (∀ j, j < 19 → o j = o0 j) → 0 ≤ m → 20000 - m = n → Ex l 6 yX6_duty.cls yX6_duty.name cX6_duty 6 (some .int) 43 [some (.ref 34), some (.int (iI k)), some (.int (iI t)), some (.int (iI q)), some (.int (iI due)), some (.int (iI m))] [] h (scP h0 o0 A (some (.int (iI (fstM (fun x => decide (due ≤ sDayN (A 0) k x)) (n) (m)))))) := by
  intro n
  obtain ⟨⟨i1, i2⟩, ⟨i3, i4⟩, i5, i6⟩ := id hI
  induction n with
  | zero =>
    intro m h o hw fr hs hm hn
    refine ex_of (fun _ _ => ev_iload (pc' := 45) dX6_duty_43 rfl rfl) ?_
    refine ex_of (fun _ _ => ev_sipush (pc' := 48) (iI (19999)) dX6_duty_45 rfl (by decide)) ?_
    refine ex_icmpI_gt (pc' := 51) (tgt := 72) dX6_duty_48 (by decide) rfl (by omega) (by omega) (fun c48 => ?_) (fun c48 => ?_)
    · refine ex_of (fun _ _ => ev_bipush (pc' := 74) (iI (-4)) dX6_duty_72 rfl (by decide)) ?_
      exact ex_end (ev_iret dX6_duty_74 rfl) (⟨rfl, _, hw, fr, hs⟩)
    · omega
  | succ n ih =>
    intro m h o hw fr hs hm hn
    have zb := sDayAs_b (ea := mea (A 0) k) (kd := A 0 (143 + 45 * k + 0)) hJ (hK k (by omega) (by omega)) (t := m) (by omega)
    refine ex_of (fun _ _ => ev_iload (pc' := 45) dX6_duty_43 rfl rfl) ?_
    refine ex_of (fun _ _ => ev_sipush (pc' := 48) (iI (19999)) dX6_duty_45 rfl (by decide)) ?_
    refine ex_icmpI_gt (pc' := 51) (tgt := 72) dX6_duty_48 (by decide) rfl (by omega) (by omega) (fun c48 => ?_) (fun c48 => ?_)
    · omega
    · refine ex_of (fun _ _ => ev_aload_n (pc' := 52) dX6_duty_51 rfl rfl) ?_
      refine ex_of (fun _ _ => ev_iload_n (pc' := 53) dX6_duty_52 rfl rfl) ?_
      refine ex_of (fun _ _ => ev_iload (pc' := 55) dX6_duty_53 rfl rfl) ?_
      have hO := hw.o
      obtain ⟨w1, h1, E1, rfl, o1, hw, fr1, hs1⟩ := e6_dayNow (l := l) (k := k) hw hI hJ (by omega) (hK k (by omega) (by omega)) (t := m) (by omega)
      refine ex_of (fun _ _ => ev_callV2 (pc' := 58) kX6_208 mX6_dayNow dX6_duty_55 rfl rfl (Nat.le_of_ble_eq_true rfl) (Nat.le_of_ble_eq_true rfl) (by decide) rfl hO E1) ?_
      have fr := fr.tr fr1
      have hs : ∀ j, j < 19 → _ := fun j hj => (hs1 j hj).trans (hs j hj)
      refine ex_of (fun _ _ => ev_iload (pc' := 60) dX6_duty_58 rfl rfl) ?_
      refine ex_icmpI_lt (pc' := 63) (tgt := 66) dX6_duty_60 (by decide) rfl (by omega) (by omega) (fun c60 => ?_) (fun c60 => ?_)
      · refine ex_of (fun _ _ => ev_iincI_5 (pc' := 69) dX6_duty_66 rfl (by decide) rfl) ?_
        refine ex_of (fun _ _ => ev_goto (tgt := 43) dX6_duty_69 (by decide)) ?_
        rw [fstM_f (by simpa [sDayN] using c60)]
        exact ih (m + 1) _ _ hw fr hs (by omega) (by omega)
      · refine ex_of (fun _ _ => ev_iload (pc' := 65) dX6_duty_63 rfl rfl) ?_
        exact ex_end (ev_iret dX6_duty_65 rfl) (⟨by rw [fstM_t (by simpa [sDayN] using c60)], _, hw, fr, hs⟩)
def sDuty (S : Int → Int) (k t q : Int) : Int := if (0 ≤ k ∧ k < S 1) ∧ (0 ≤ t ∧ t ≤ 19999) ∧ (0 ≤ q ∧ q ≤ 10) then fstM (fun x => decide (sDayN S k t + q ≤ sDayN S k x)) (20000 - t).toNat t else -1
theorem e6_duty {k t q : Int} (hw : MW h o A) (hI : mI0 (A 0)) (hJ : mIP (A 0)) (hK : ∀ k, 0 ≤ k → k < A 0 1 → mT (A 0) k) (rk : -2147483648 ≤ k ∧ k < 2147483648) (rt : -2147483648 ≤ t ∧ t < 2147483648) (rq : -2147483648 ≤ q ∧ q < 2147483648) : Ex l 7 yX6_duty.cls yX6_duty.name cX6_duty 6 (some .int) 0 [some (.ref 34), some (.int (iI k)), some (.int (iI t)), some (.int (iI q)), none, none] [] h (scP h o A (some (.int (iI (sDuty (A 0) k t q))))) := by
  obtain ⟨⟨i1, i2⟩, ⟨i3, i4⟩, i5, i6⟩ := id hI
  have fr := FrM.rf h
  have hs : ∀ j, j < 19 → o j = o j := fun _ _ => rfl
  refine ex_of (fun _ _ => ev_aload_n (pc' := 1) dX6_duty_0 rfl rfl) ?_
  refine ex_of (fun _ _ => ev_iload_n (pc' := 2) dX6_duty_1 rfl rfl) ?_
  refine ex_of (fun _ _ => ev_callV1 (pc' := 5) kX6_157 mX6_isOne dX6_duty_2 rfl rfl (Nat.le_of_ble_eq_true rfl) (Nat.le_of_ble_eq_true rfl) (by decide) rfl hw.o (e6_isOne hw hI (by omega))) ?_
  refine ex_ifd_eq (pc' := 8) (tgt := 28) dX6_duty_5 (by decide) rfl (fun c5 => ?_) (fun c5 => ?_)
  · refine ex_of (fun _ _ => ev_iconst (pc' := 29) (iI (-1)) dX6_duty_28 rfl (by decide)) ?_
    exact ex_end (ev_iret dX6_duty_29 rfl) (⟨by unfold sDuty; rw [if_neg (by omega)], _, hw, fr, hs⟩)
  · refine ex_of (fun _ _ => ev_iload_n (pc' := 9) dX6_duty_8 rfl rfl) ?_
    refine ex_of (fun _ _ => ev_i2lI (pc' := 10) dX6_duty_9 rfl (by omega)) ?_
    refine ex_of (fun _ _ => ev_callS1 (pc' := 13) kX6_141 mX6_isMinute dX6_duty_10 rfl rfl (Nat.le_of_ble_eq_true rfl) (Nat.le_of_ble_eq_true rfl) (by decide) (e6_isMinute (by omega))) ?_
    refine ex_ifd_eq (pc' := 16) (tgt := 28) dX6_duty_13 (by decide) rfl (fun c13 => ?_) (fun c13 => ?_)
    · refine ex_of (fun _ _ => ev_iconst (pc' := 29) (iI (-1)) dX6_duty_28 rfl (by decide)) ?_
      exact ex_end (ev_iret dX6_duty_29 rfl) (⟨by unfold sDuty; rw [if_neg (by omega)], _, hw, fr, hs⟩)
    · refine ex_of (fun _ _ => ev_iload_n (pc' := 17) dX6_duty_16 rfl rfl) ?_
      refine ex_of (fun _ _ => ev_i2lI (pc' := 18) dX6_duty_17 rfl (by omega)) ?_
      refine ex_of (fun _ _ => ev_lconst (pc' := 19) (jJ (0)) dX6_duty_18 rfl (by decide)) ?_
      refine ex_of (fun _ _ => ev_ldc2I (pc' := 22) (10) nX6_217 dX6_duty_19 rfl (by decide)) ?_
      refine ex_of (fun _ _ => ev_callS3 (pc' := 25) kX6_48 mX6_isIn dX6_duty_22 rfl rfl (Nat.le_of_ble_eq_true rfl) (Nat.le_of_ble_eq_true rfl) (by decide) (e6_isIn (by omega) (by omega) (by omega))) ?_
      refine ex_ifd_ne (pc' := 28) (tgt := 30) dX6_duty_25 (by decide) rfl (fun c25 => ?_) (fun c25 => ?_)
      · refine ex_of (fun _ _ => ev_aload_n (pc' := 31) dX6_duty_30 rfl rfl) ?_
        refine ex_of (fun _ _ => ev_iload_n (pc' := 32) dX6_duty_31 rfl rfl) ?_
        refine ex_of (fun _ _ => ev_iload_n (pc' := 33) dX6_duty_32 rfl rfl) ?_
        have hO := hw.o
        obtain ⟨w1, h1, E1, rfl, o1, hw, fr1, hs1⟩ := e6_dayNow (l := l) (k := k) hw hI hJ (by omega) (hK k (by omega) (by omega)) (t := t) (by omega)
        refine ex_of (fun _ _ => ev_callV2 (pc' := 36) kX6_208 mX6_dayNow dX6_duty_33 rfl rfl (Nat.le_of_ble_eq_true rfl) (Nat.le_of_ble_eq_true rfl) (by decide) rfl hO E1) ?_
        have fr := fr.tr fr1
        have hs : ∀ j, j < 19 → _ := fun j hj => (hs1 j hj).trans (hs j hj)
        refine ex_of (fun _ _ => ev_iload_n (pc' := 37) dX6_duty_36 rfl rfl) ?_
        refine ex_of (fun _ _ => ev_iaddI (pc' := 38) dX6_duty_37 rfl) ?_
        refine ex_of (fun _ _ => ev_istore_4 (pc' := 40) dX6_duty_38 rfl (by decide) rfl) ?_
        refine ex_of (fun _ _ => ev_iload_n (pc' := 41) dX6_duty_40 rfl rfl) ?_
        refine ex_of (fun _ _ => ev_istore_5 (pc' := 43) dX6_duty_41 rfl (by decide) rfl) ?_
        have zb := sDayAs_b (ea := mea (A 0) k) (kd := A 0 (143 + 45 * k + 0)) hJ (hK k (by omega) (by omega)) (t := t) (by omega)
        unfold sDuty
        rw [if_pos (by omega)]
        exact ev_deepx (by decide) (e6_dutL (k := k) (t := t) (q := q) hI hJ hK (by omega) (by unfold sDayAs at *; omega) _ t _ _ hw fr hs (by omega) (by omega))
      · refine ex_of (fun _ _ => ev_iconst (pc' := 29) (iI (-1)) dX6_duty_28 rfl (by decide)) ?_
        exact ex_end (ev_iret dX6_duty_29 rfl) (⟨by unfold sDuty; rw [if_neg (by omega)], _, hw, fr, hs⟩)
theorem e6_agrL {h0 : ev_H} {o0 : Nat → Int} {a b t : Int} (hI : mI0 (A 0)) (hJ : mIP (A 0)) (hK : ∀ k, 0 ≤ k → k < A 0 1 → mT (A 0) k) (ha : 0 ≤ a ∧ a < A 0 1) (hb : 0 ≤ b ∧ b < A 0 1) : ∀ (n : Nat) (m : Int) (h : ev_H) (o : Nat → Int), MW h o A → FrM h0 h → (∀ j, j < 19 → o j = o0 j) → 0 ≤ m → 20000 - m = n → Ex l 6 yX6_agree.cls yX6_agree.name cX6_agree 5 (some .int) 29 [some (.ref 34), some (.int (iI a)), some (.int (iI b)), some (.int (iI t)), some (.int (iI m))] [] h (scP h0 o0 A (some (.int (iI (fstM (fun x => decide (sDayN (A 0) a x = sDayN (A 0) b x)) (n) (m)))))) := by
  intro n
  obtain ⟨⟨i1, i2⟩, ⟨i3, i4⟩, i5, i6⟩ := id hI
  induction n with
  | zero =>
    intro m h o hw fr hs hm hn
    refine ex_of (fun _ _ => ev_iload (pc' := 31) dX6_agree_29 rfl rfl) ?_
    refine ex_of (fun _ _ => ev_sipush (pc' := 34) (iI (19999)) dX6_agree_31 rfl (by decide)) ?_
    refine ex_icmpI_gt (pc' := 37) (tgt := 63) dX6_agree_34 (by decide) rfl (by omega) (by omega) (fun c34 => ?_) (fun c34 => ?_)
    · refine ex_of (fun _ _ => ev_bipush (pc' := 65) (iI (-4)) dX6_agree_63 rfl (by decide)) ?_
      exact ex_end (ev_iret dX6_agree_65 rfl) (⟨rfl, _, hw, fr, hs⟩)
    · omega
  | succ n ih =>
    intro m h o hw fr hs hm hn
    have zb := sDayAs_b (ea := mea (A 0) a) (kd := A 0 (143 + 45 * a + 0)) hJ (hK a (by omega) (by omega)) (t := m) (by omega)
    have zc := sDayAs_b (ea := mea (A 0) b) (kd := A 0 (143 + 45 * b + 0)) hJ (hK b (by omega) (by omega)) (t := m) (by omega)
    refine ex_of (fun _ _ => ev_iload (pc' := 31) dX6_agree_29 rfl rfl) ?_
    refine ex_of (fun _ _ => ev_sipush (pc' := 34) (iI (19999)) dX6_agree_31 rfl (by decide)) ?_
    refine ex_icmpI_gt (pc' := 37) (tgt := 63) dX6_agree_34 (by decide) rfl (by omega) (by omega) (fun c34 => ?_) (fun c34 => ?_)
    · omega
    · refine ex_of (fun _ _ => ev_aload_n (pc' := 38) dX6_agree_37 rfl rfl) ?_
      refine ex_of (fun _ _ => ev_iload_n (pc' := 39) dX6_agree_38 rfl rfl) ?_
      refine ex_of (fun _ _ => ev_iload (pc' := 41) dX6_agree_39 rfl rfl) ?_
      have hO := hw.o
      obtain ⟨w1, h1, E1, rfl, o1, hw, fr1, hs1⟩ := e6_dayNow (l := l) (k := a) hw hI hJ (by omega) (hK a (by omega) (by omega)) (t := m) (by omega)
      refine ex_of (fun _ _ => ev_callV2 (pc' := 44) kX6_208 mX6_dayNow dX6_agree_41 rfl rfl (Nat.le_of_ble_eq_true rfl) (Nat.le_of_ble_eq_true rfl) (by decide) rfl hO E1) ?_
      have fr := fr.tr fr1
      have hs : ∀ j, j < 19 → _ := fun j hj => (hs1 j hj).trans (hs j hj)
      refine ex_of (fun _ _ => ev_aload_n (pc' := 45) dX6_agree_44 rfl rfl) ?_
      refine ex_of (fun _ _ => ev_iload_n (pc' := 46) dX6_agree_45 rfl rfl) ?_
      refine ex_of (fun _ _ => ev_iload (pc' := 48) dX6_agree_46 rfl rfl) ?_
      have hO := hw.o
      obtain ⟨w1, h1, E1, rfl, o1, hw, fr1, hs1⟩ := e6_dayNow (l := l) (k := b) hw hI hJ (by omega) (hK b (by omega) (by omega)) (t := m) (by omega)
      refine ex_of (fun _ _ => ev_callV2 (pc' := 51) kX6_208 mX6_dayNow dX6_agree_48 rfl rfl (Nat.le_of_ble_eq_true rfl) (Nat.le_of_ble_eq_true rfl) (by decide) rfl hO E1) ?_
      have fr := fr.tr fr1
      have hs : ∀ j, j < 19 → _ := fun j hj => (hs1 j hj).trans (hs j hj)
      refine ex_icmpI_ne (pc' := 54) (tgt := 57) dX6_agree_51 (by decide) rfl (by omega) (by omega) (fun c51 => ?_) (fun c51 => ?_)
      · refine ex_of (fun _ _ => ev_iincI_4 (pc' := 60) dX6_agree_57 rfl (by decide) rfl) ?_
        refine ex_of (fun _ _ => ev_goto (tgt := 29) dX6_agree_60 (by decide)) ?_
        rw [fstM_f (by simpa [sDayN] using c51)]
        exact ih (m + 1) _ _ hw fr hs (by omega) (by omega)
      · refine ex_of (fun _ _ => ev_iload (pc' := 56) dX6_agree_54 rfl rfl) ?_
        exact ex_end (ev_iret dX6_agree_56 rfl) (⟨by rw [fstM_t (by simpa [sDayN] using c51)], _, hw, fr, hs⟩)
def sAgree (S : Int → Int) (a b t : Int) : Int := if (0 ≤ a ∧ a < S 1) ∧ (0 ≤ b ∧ b < S 1) ∧ (0 ≤ t ∧ t ≤ 19999) then fstM (fun x => decide (sDayN S a x = sDayN S b x)) (20000 - t).toNat t else -1
theorem e6_agree {a b t : Int} (hw : MW h o A) (hI : mI0 (A 0)) (hJ : mIP (A 0)) (hK : ∀ k, 0 ≤ k → k < A 0 1 → mT (A 0) k) (ra : -2147483648 ≤ a ∧ a < 2147483648) (rb : -2147483648 ≤ b ∧ b < 2147483648) (rt : -2147483648 ≤ t ∧ t < 2147483648) : Ex l 6 yX6_agree.cls yX6_agree.name cX6_agree 5 (some .int) 0 [some (.ref 34), some (.int (iI a)), some (.int (iI b)), some (.int (iI t)), none] [] h (scP h o A (some (.int (iI (sAgree (A 0) a b t))))) := by
  obtain ⟨⟨i1, i2⟩, ⟨i3, i4⟩, i5, i6⟩ := id hI
  have fr := FrM.rf h
  have hs : ∀ j, j < 19 → o j = o j := fun _ _ => rfl
  refine ex_of (fun _ _ => ev_aload_n (pc' := 1) dX6_agree_0 rfl rfl) ?_
  refine ex_of (fun _ _ => ev_iload_n (pc' := 2) dX6_agree_1 rfl rfl) ?_
  refine ex_of (fun _ _ => ev_callV1 (pc' := 5) kX6_157 mX6_isOne dX6_agree_2 rfl rfl (Nat.le_of_ble_eq_true rfl) (Nat.le_of_ble_eq_true rfl) (by decide) rfl hw.o (e6_isOne hw hI (by omega))) ?_
  refine ex_ifd_eq (pc' := 8) (tgt := 24) dX6_agree_5 (by decide) rfl (fun c5 => ?_) (fun c5 => ?_)
  · refine ex_of (fun _ _ => ev_iconst (pc' := 25) (iI (-1)) dX6_agree_24 rfl (by decide)) ?_
    exact ex_end (ev_iret dX6_agree_25 rfl) (⟨by unfold sAgree; rw [if_neg (by omega)], _, hw, fr, hs⟩)
  · refine ex_of (fun _ _ => ev_aload_n (pc' := 9) dX6_agree_8 rfl rfl) ?_
    refine ex_of (fun _ _ => ev_iload_n (pc' := 10) dX6_agree_9 rfl rfl) ?_
    refine ex_of (fun _ _ => ev_callV1 (pc' := 13) kX6_157 mX6_isOne dX6_agree_10 rfl rfl (Nat.le_of_ble_eq_true rfl) (Nat.le_of_ble_eq_true rfl) (by decide) rfl hw.o (e6_isOne hw hI (by omega))) ?_
    refine ex_ifd_eq (pc' := 16) (tgt := 24) dX6_agree_13 (by decide) rfl (fun c13 => ?_) (fun c13 => ?_)
    · refine ex_of (fun _ _ => ev_iconst (pc' := 25) (iI (-1)) dX6_agree_24 rfl (by decide)) ?_
      exact ex_end (ev_iret dX6_agree_25 rfl) (⟨by unfold sAgree; rw [if_neg (by omega)], _, hw, fr, hs⟩)
    · refine ex_of (fun _ _ => ev_iload_n (pc' := 17) dX6_agree_16 rfl rfl) ?_
      refine ex_of (fun _ _ => ev_i2lI (pc' := 18) dX6_agree_17 rfl (by omega)) ?_
      refine ex_of (fun _ _ => ev_callS1 (pc' := 21) kX6_141 mX6_isMinute dX6_agree_18 rfl rfl (Nat.le_of_ble_eq_true rfl) (Nat.le_of_ble_eq_true rfl) (by decide) (e6_isMinute (by omega))) ?_
      refine ex_ifd_ne (pc' := 24) (tgt := 26) dX6_agree_21 (by decide) rfl (fun c21 => ?_) (fun c21 => ?_)
      · refine ex_of (fun _ _ => ev_iload_n (pc' := 27) dX6_agree_26 rfl rfl) ?_
        refine ex_of (fun _ _ => ev_istore_4 (pc' := 29) dX6_agree_27 rfl (by decide) rfl) ?_
        unfold sAgree
        rw [if_pos (by omega)]
        exact e6_agrL (a := a) (b := b) (t := t) hI hJ hK (by omega) (by omega) _ t _ _ hw fr hs (by omega) (by omega)
      · refine ex_of (fun _ _ => ev_iconst (pc' := 25) (iI (-1)) dX6_agree_24 rfl (by decide)) ?_
        exact ex_end (ev_iret dX6_agree_25 rfl) (⟨by unfold sAgree; rw [if_neg (by omega)], _, hw, fr, hs⟩)
theorem e6_parL {h0 : ev_H} {o0 : Nat → Int} {k a b t : Int} (hI : mI0 (A 0)) (hJ : mIP (A 0)) (hK : ∀ k, 0 ≤ k → k < A 0 1 → mT (A 0) k) (hk : 0 ≤ k ∧ k < A 0 1) (ha : 0 ≤ a ∧ a ≤ 7) (hb : 0 ≤ b ∧ b ≤ 7) : ∀ (n : Nat) (m : Int) (h : ev_H) (o : Nat → Int), MW h o A → FrM h0 h → (∀ j, j < 19 → o j = o0 j) → 0 ≤ m → 20000 - m = n → Ex l 6 yX6_part.cls yX6_part.name cX6_part 6 (some .int) 42 [some (.ref 34), some (.int (iI k)), some (.int (iI a)), some (.int (iI b)), some (.int (iI t)), some (.int (iI m))] [] h (scP h0 o0 A (some (.int (iI (fstM (fun x => decide (sDayAs (A 0) (mea (A 0) k) k a x ≠ sDayAs (A 0) (mea (A 0) k) k b x)) (n) (m)))))) := by
  intro n
  obtain ⟨⟨i1, i2⟩, ⟨i3, i4⟩, i5, i6⟩ := id hI
  induction n with
  | zero =>
    intro m h o hw fr hs hm hn
    refine ex_of (fun _ _ => ev_iload (pc' := 44) dX6_part_42 rfl rfl) ?_
    refine ex_of (fun _ _ => ev_sipush (pc' := 47) (iI (19999)) dX6_part_44 rfl (by decide)) ?_
    refine ex_icmpI_gt (pc' := 50) (tgt := 78) dX6_part_47 (by decide) rfl (by omega) (by omega) (fun c47 => ?_) (fun c47 => ?_)
    · refine ex_of (fun _ _ => ev_bipush (pc' := 80) (iI (-4)) dX6_part_78 rfl (by decide)) ?_
      exact ex_end (ev_iret dX6_part_80 rfl) (⟨rfl, _, hw, fr, hs⟩)
    · omega
  | succ n ih =>
    intro m h o hw fr hs hm hn
    have zb := sDayAs_b (ea := mea (A 0) k) (kd := a) hJ (hK k (by omega) (by omega)) (t := m) (by omega)
    have zc := sDayAs_b (ea := mea (A 0) k) (kd := b) hJ (hK k (by omega) (by omega)) (t := m) (by omega)
    refine ex_of (fun _ _ => ev_iload (pc' := 44) dX6_part_42 rfl rfl) ?_
    refine ex_of (fun _ _ => ev_sipush (pc' := 47) (iI (19999)) dX6_part_44 rfl (by decide)) ?_
    refine ex_icmpI_gt (pc' := 50) (tgt := 78) dX6_part_47 (by decide) rfl (by omega) (by omega) (fun c47 => ?_) (fun c47 => ?_)
    · omega
    · refine ex_of (fun _ _ => ev_aload_n (pc' := 51) dX6_part_50 rfl rfl) ?_
      refine ex_of (fun _ _ => ev_iload_n (pc' := 52) dX6_part_51 rfl rfl) ?_
      refine ex_of (fun _ _ => ev_iload_n (pc' := 53) dX6_part_52 rfl rfl) ?_
      refine ex_of (fun _ _ => ev_iload (pc' := 55) dX6_part_53 rfl rfl) ?_
      have hO := hw.o
      obtain ⟨w1, h1, E1, rfl, o1, hw, fr1, hs1⟩ := e6_dayAs (l := l) (k := k) (kd := a) (t := m) hw hI hJ (by omega) (hK k (by omega) (by omega)) (by omega) (by omega)
      refine ex_of (fun _ _ => ev_callV3 (pc' := 58) kX6_205 mX6_dayAs dX6_part_55 rfl rfl (Nat.le_of_ble_eq_true rfl) (Nat.le_of_ble_eq_true rfl) (by decide) rfl hO E1) ?_
      have fr := fr.tr fr1
      have hs : ∀ j, j < 19 → _ := fun j hj => (hs1 j hj).trans (hs j hj)
      refine ex_of (fun _ _ => ev_aload_n (pc' := 59) dX6_part_58 rfl rfl) ?_
      refine ex_of (fun _ _ => ev_iload_n (pc' := 60) dX6_part_59 rfl rfl) ?_
      refine ex_of (fun _ _ => ev_iload_n (pc' := 61) dX6_part_60 rfl rfl) ?_
      refine ex_of (fun _ _ => ev_iload (pc' := 63) dX6_part_61 rfl rfl) ?_
      have hO := hw.o
      obtain ⟨w1, h1, E1, rfl, o1, hw, fr1, hs1⟩ := e6_dayAs (l := l) (k := k) (kd := b) (t := m) hw hI hJ (by omega) (hK k (by omega) (by omega)) (by omega) (by omega)
      refine ex_of (fun _ _ => ev_callV3 (pc' := 66) kX6_205 mX6_dayAs dX6_part_63 rfl rfl (Nat.le_of_ble_eq_true rfl) (Nat.le_of_ble_eq_true rfl) (by decide) rfl hO E1) ?_
      have fr := fr.tr fr1
      have hs : ∀ j, j < 19 → _ := fun j hj => (hs1 j hj).trans (hs j hj)
      refine ex_icmpI_eq (pc' := 69) (tgt := 72) dX6_part_66 (by decide) rfl (by omega) (by omega) (fun c66 => ?_) (fun c66 => ?_)
      · refine ex_of (fun _ _ => ev_iincI_5 (pc' := 75) dX6_part_72 rfl (by decide) rfl) ?_
        refine ex_of (fun _ _ => ev_goto (tgt := 42) dX6_part_75 (by decide)) ?_
        rw [fstM_f (by simpa using c66)]
        exact ih (m + 1) _ _ hw fr hs (by omega) (by omega)
      · refine ex_of (fun _ _ => ev_iload (pc' := 71) dX6_part_69 rfl rfl) ?_
        exact ex_end (ev_iret dX6_part_71 rfl) (⟨by rw [fstM_t (by simpa using c66)], _, hw, fr, hs⟩)
def sPart (S : Int → Int) (k a b t : Int) : Int := if (0 ≤ k ∧ k < S 1) ∧ (0 ≤ a ∧ a ≤ 7) ∧ (0 ≤ b ∧ b ≤ 7) ∧ a ≠ b ∧ (0 ≤ t ∧ t ≤ 19999) then fstM (fun x => decide (sDayAs S (mea S k) k a x ≠ sDayAs S (mea S k) k b x)) (20000 - t).toNat t else -1
theorem e6_part {k a b t : Int} (hw : MW h o A) (hI : mI0 (A 0)) (hJ : mIP (A 0)) (hK : ∀ k, 0 ≤ k → k < A 0 1 → mT (A 0) k) (rk : -2147483648 ≤ k ∧ k < 2147483648) (ra : -2147483648 ≤ a ∧ a < 2147483648) (rb : -2147483648 ≤ b ∧ b < 2147483648) (rt : -2147483648 ≤ t ∧ t < 2147483648) : Ex l 6 yX6_part.cls yX6_part.name cX6_part 6 (some .int) 0 [some (.ref 34), some (.int (iI k)), some (.int (iI a)), some (.int (iI b)), some (.int (iI t)), none] [] h (scP h o A (some (.int (iI (sPart (A 0) k a b t))))) := by
  obtain ⟨⟨i1, i2⟩, ⟨i3, i4⟩, i5, i6⟩ := id hI
  have fr := FrM.rf h
  have hs : ∀ j, j < 19 → o j = o j := fun _ _ => rfl
  refine ex_of (fun _ _ => ev_aload_n (pc' := 1) dX6_part_0 rfl rfl) ?_
  refine ex_of (fun _ _ => ev_iload_n (pc' := 2) dX6_part_1 rfl rfl) ?_
  refine ex_of (fun _ _ => ev_callV1 (pc' := 5) kX6_157 mX6_isOne dX6_part_2 rfl rfl (Nat.le_of_ble_eq_true rfl) (Nat.le_of_ble_eq_true rfl) (by decide) rfl hw.o (e6_isOne hw hI (by omega))) ?_
  refine ex_ifd_eq (pc' := 8) (tgt := 36) dX6_part_5 (by decide) rfl (fun c5 => ?_) (fun c5 => ?_)
  · refine ex_of (fun _ _ => ev_iconst (pc' := 37) (iI (-1)) dX6_part_36 rfl (by decide)) ?_
    exact ex_end (ev_iret dX6_part_37 rfl) (⟨by unfold sPart; rw [if_neg (by omega)], _, hw, fr, hs⟩)
  · refine ex_of (fun _ _ => ev_iload_n (pc' := 9) dX6_part_8 rfl rfl) ?_
    refine ex_of (fun _ _ => ev_callS1 (pc' := 12) kX6_211 mX6_isKind dX6_part_9 rfl rfl (Nat.le_of_ble_eq_true rfl) (Nat.le_of_ble_eq_true rfl) (by decide) (e6_isKind (by omega))) ?_
    refine ex_ifd_eq (pc' := 15) (tgt := 36) dX6_part_12 (by decide) rfl (fun c12 => ?_) (fun c12 => ?_)
    · refine ex_of (fun _ _ => ev_iconst (pc' := 37) (iI (-1)) dX6_part_36 rfl (by decide)) ?_
      exact ex_end (ev_iret dX6_part_37 rfl) (⟨by unfold sPart; rw [if_neg (by omega)], _, hw, fr, hs⟩)
    · refine ex_of (fun _ _ => ev_iload_n (pc' := 16) dX6_part_15 rfl rfl) ?_
      refine ex_of (fun _ _ => ev_callS1 (pc' := 19) kX6_211 mX6_isKind dX6_part_16 rfl rfl (Nat.le_of_ble_eq_true rfl) (Nat.le_of_ble_eq_true rfl) (by decide) (e6_isKind (by omega))) ?_
      refine ex_ifd_eq (pc' := 22) (tgt := 36) dX6_part_19 (by decide) rfl (fun c19 => ?_) (fun c19 => ?_)
      · refine ex_of (fun _ _ => ev_iconst (pc' := 37) (iI (-1)) dX6_part_36 rfl (by decide)) ?_
        exact ex_end (ev_iret dX6_part_37 rfl) (⟨by unfold sPart; rw [if_neg (by omega)], _, hw, fr, hs⟩)
      · refine ex_of (fun _ _ => ev_iload_n (pc' := 23) dX6_part_22 rfl rfl) ?_
        refine ex_of (fun _ _ => ev_iload_n (pc' := 24) dX6_part_23 rfl rfl) ?_
        refine ex_icmpI_eq (pc' := 27) (tgt := 36) dX6_part_24 (by decide) rfl (by omega) (by omega) (fun c24 => ?_) (fun c24 => ?_)
        · refine ex_of (fun _ _ => ev_iconst (pc' := 37) (iI (-1)) dX6_part_36 rfl (by decide)) ?_
          exact ex_end (ev_iret dX6_part_37 rfl) (⟨by unfold sPart; rw [if_neg (by omega)], _, hw, fr, hs⟩)
        · refine ex_of (fun _ _ => ev_iload (pc' := 29) dX6_part_27 rfl rfl) ?_
          refine ex_of (fun _ _ => ev_i2lI (pc' := 30) dX6_part_29 rfl (by omega)) ?_
          refine ex_of (fun _ _ => ev_callS1 (pc' := 33) kX6_141 mX6_isMinute dX6_part_30 rfl rfl (Nat.le_of_ble_eq_true rfl) (Nat.le_of_ble_eq_true rfl) (by decide) (e6_isMinute (by omega))) ?_
          refine ex_ifd_ne (pc' := 36) (tgt := 38) dX6_part_33 (by decide) rfl (fun c33 => ?_) (fun c33 => ?_)
          · refine ex_of (fun _ _ => ev_iload (pc' := 40) dX6_part_38 rfl rfl) ?_
            refine ex_of (fun _ _ => ev_istore_5 (pc' := 42) dX6_part_40 rfl (by decide) rfl) ?_
            unfold sPart
            rw [if_pos (by omega)]
            exact e6_parL (k := k) (a := a) (b := b) (t := t) hI hJ hK (by omega) (by omega) (by omega) _ t _ _ hw fr hs (by omega) (by omega)
          · refine ex_of (fun _ _ => ev_iconst (pc' := 37) (iI (-1)) dX6_part_36 rfl (by decide)) ?_
            exact ex_end (ev_iret dX6_part_37 rfl) (⟨by unfold sPart; rw [if_neg (by omega)], _, hw, fr, hs⟩)
end MG
