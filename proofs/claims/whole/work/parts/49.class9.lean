section CK
variable {l : Launch} {h h0 : ev_H} {A : Nat → Int → Int} {w : Nat → Option Nat} {d : Nat}
/-- the shelves, w whom they hold -/
def SC (h : ev_H) (A : Nat → Int → Int) (w : Nat → Option Nat) : Prop := h[15]? = some (cRf 3 8 (shF 8)) ∧ ∀ d : Nat, d < 8 → h[18 + 2 * d]? = some (cSh (va_rf (w d)) (if A 2 d = 2 then 1 else 0) (A 3 d) (A 4 d) (19 + 2 * d)) ∧ agA h (19 + 2 * d) 100 (fun i => A 5 (100 * (d : Int) + i)) ∧ (A 2 d ≠ 1 → w d = none) ∧ (A 2 d = 1 → ∃ t, w d = some t)
theorem SC.fr {h h2 : ev_H} {A : Nat → Int → Int} {w : Nat → Option Nat} (x : SC h A w) (fr : FrS h h2) : SC h2 A w := by
  obtain ⟨x0, x1⟩ := x
  refine ⟨(fr.2 _ (by decide)).trans x0, fun d hd => ?_⟩
  obtain ⟨a, b, c⟩ := x1 d hd
  exact ⟨(fr.2 _ (by omega)).trans a, b.fr fr (by omega), c⟩
def hr (A : Nat → Int → Int) (d : Int) : Int := if A 2 d = 2 then 1 else 0
theorem SC.op {h : ev_H} {A : Nat → Int → Int} {w : Nat → Option Nat} {d : Nat} (x : SC h A w) (hd : d < 8) : ∃ el, h[18 + 2 * d]? = some (cSh (va_rf (w d)) (hr A d) (A 3 d) (A 4 d) (19 + 2 * d)) ∧ (h[19 + 2 * d]? = some (mA 100 el) ∧ ∀ i, 0 ≤ i → i < 100 → el i = A 5 (100 * (d : Int) + i)) ∧ (A 2 d ≠ 1 → w d = none) ∧ (A 2 d = 1 → ∃ t, w d = some t) := by
  obtain ⟨a, ⟨el, b1, b2⟩, c, e⟩ := x.2 d hd
  exact ⟨el, a, ⟨b1, b2⟩, c, e⟩
theorem e5_shelfOf {im : Int} (hX : h[0]? = some (cWd (.ref 1) (.ref 8) im (.ref 15) (.ref 16) (.ref 17))) (hS : SC h A w) (hd : d < 8) : Ev l 0 yX5_shelfOf.cls yX5_shelfOf.name cX5_shelfOf 2 (some (.object "WhichDay$Shelf")) 0 [some (.ref 0), some (.int (iI (d : Int)))] [] h (some (.ref (18 + 2 * d))) h := by
  have hsh := hS.1
  have ek : (iI (d : Int)).toNatClampNeg = d := by have := iI_cl (e := (d : Int)) (by omega); omega
  refine ev_iload_n (pc' := 1) dX5_shelfOf_0 rfl rfl ?_
  refine ev_ifI_lt (pc' := 4) (tgt := 19) dX5_shelfOf_1 (by decide) rfl (by omega) (fun c1 => ?_) (fun c1 => ?_)
  · omega
  · refine ev_iload_n (pc' := 5) dX5_shelfOf_4 rfl rfl ?_
    refine ev_bipush (pc' := 7) (iI (8)) dX5_shelfOf_5 rfl (by decide) ?_
    refine ev_icmpI_ge (pc' := 10) (tgt := 19) dX5_shelfOf_7 (by decide) rfl (by omega) (by omega) (fun c7 => ?_) (fun c7 => ?_)
    · omega
    · refine ev_aload_n (pc' := 11) dX5_shelfOf_10 rfl rfl ?_
      refine ev_getfield (pc' := 14) fX5_25 dX5_shelfOf_11 rfl hX rfl ?_
      refine ev_iload_n (pc' := 15) dX5_shelfOf_14 rfl rfl ?_
      refine ev_aaload (pc' := 16) (Or.inl rfl) dX5_shelfOf_15 rfl hsh (iI_in (by omega) (by decide)) ?_
      rw [ek, show shF 8 d = some (18 + 2 * d) by unfold shF; rw [if_pos hd]]
      refine ev_goto (tgt := 20) dX5_shelfOf_16 (by decide) ?_
      exact ev_aret dX5_shelfOf_20 (Or.inr ⟨_, rfl⟩)
theorem e5_shelfOf0 {q : Int} (hd : ¬ (0 ≤ q ∧ q < 8)) (rq : -2147483648 ≤ q ∧ q < 2147483648) : Ev l 0 yX5_shelfOf.cls yX5_shelfOf.name cX5_shelfOf 2 (some (.object "WhichDay$Shelf")) 0 [some (.ref 0), some (.int (iI q))] [] h (some .null) h := by
  refine ev_iload_n (pc' := 1) dX5_shelfOf_0 rfl rfl ?_
  refine ev_ifI_lt (pc' := 4) (tgt := 19) dX5_shelfOf_1 (by decide) rfl (by omega) (fun c1 => ?_) (fun c1 => ?_)
  · refine ev_null (pc' := 20) dX5_shelfOf_19 rfl ?_
    exact ev_aret dX5_shelfOf_20 (Or.inl rfl)
  · refine ev_iload_n (pc' := 5) dX5_shelfOf_4 rfl rfl ?_
    refine ev_bipush (pc' := 7) (iI (8)) dX5_shelfOf_5 rfl (by decide) ?_
    refine ev_icmpI_ge (pc' := 10) (tgt := 19) dX5_shelfOf_7 (by decide) rfl (by omega) (by omega) (fun c7 => ?_) (fun c7 => ?_)
    · refine ev_null (pc' := 20) dX5_shelfOf_19 rfl ?_
      exact ev_aret dX5_shelfOf_20 (Or.inl rfl)
    · omega
theorem e1_isEmptyN {a e : Nat} {r s z : Int} (hSh : h[a]? = some (cSh .null r s z e)) (hr1 : r = 0 ∨ r = 1) : Ev l 0 yX1_isEmpty.cls yX1_isEmpty.name cX1_isEmpty 1 (some .boolean) 0 [some (.ref a)] [] h (some (.int (b2i (decide (r = 0))))) h := by
  refine ev_aload_n (pc' := 1) dX1_isEmpty_0 rfl rfl ?_
  refine ev_getfield (pc' := 4) fX1_9 dX1_isEmpty_1 rfl hSh rfl ?_
  refine ev_ifnonnullN (pc' := 7) dX1_isEmpty_4 rfl ?_
  refine ev_aload_n (pc' := 8) dX1_isEmpty_7 rfl rfl ?_
  refine ev_getfield (pc' := 11) fX1_15 dX1_isEmpty_8 rfl hSh rfl ?_
  refine ev_ifI_ne (pc' := 14) (tgt := 18) dX1_isEmpty_11 (by decide) rfl (by omega) (fun c11 => ?_) (fun c11 => ?_)
  · refine ev_iconst (pc' := 19) (iI (0)) dX1_isEmpty_18 rfl (by decide) ?_
    exact ev_zreI dX1_isEmpty_19 (by first | exact b2i_1 (by omega) | exact b2i_n (by omega))
  · refine ev_iconst (pc' := 15) (iI (1)) dX1_isEmpty_14 rfl (by decide) ?_
    refine ev_goto (tgt := 19) dX1_isEmpty_15 (by decide) ?_
    exact ev_zreI dX1_isEmpty_19 (by first | exact b2i_1 (by omega) | exact b2i_n (by omega))
theorem e1_isEmptyR {t : Nat} {a e : Nat} {r s z : Int} (hSh : h[a]? = some (cSh (.ref t) r s z e)) (hr1 : r = 0 ∨ r = 1) : Ev l 0 yX1_isEmpty.cls yX1_isEmpty.name cX1_isEmpty 1 (some .boolean) 0 [some (.ref a)] [] h (some (.int (b2i (decide (1 = 0))))) h := by
  refine ev_aload_n (pc' := 1) dX1_isEmpty_0 rfl rfl ?_
  refine ev_getfield (pc' := 4) fX1_9 dX1_isEmpty_1 rfl hSh rfl ?_
  refine ev_ifnonnull (tgt := 18) dX1_isEmpty_4 (by decide) ?_
  refine ev_iconst (pc' := 19) (iI (0)) dX1_isEmpty_18 rfl (by decide) ?_
  exact ev_zreI dX1_isEmpty_19 (b2i_n (by decide))
theorem e1_isEmpty (hS : SC h A w) (hA : mSh A) (hd : d < 8) : Ev l 0 yX1_isEmpty.cls yX1_isEmpty.name cX1_isEmpty 1 (some .boolean) 0 [some (.ref (18 + 2 * d))] [] h (some (.int (b2i (decide (A 2 d = 0))))) h := by
  obtain ⟨el, hSh, ⟨hel, eel⟩, hw1, hw2⟩ := SC.op hS hd
  obtain ⟨s1, s2, s3, s4, s5⟩ := hA.1 (d : Int) (by omega) (by omega)
  have hr1 : hr A d = 0 ∨ hr A d = 1 := by unfold hr; split <;> omega
  by_cases c : A 2 d = 1
  · obtain ⟨t, ht⟩ := hw2 c
    rw [ht] at hSh
    have K := e1_isEmptyR (l := l) hSh hr1
    rw [b2i_cg (show (1 = 0) ↔ A 2 d = 0 by omega)] at K
    exact K
  · rw [hw1 c] at hSh
    have K := e1_isEmptyN (l := l) hSh hr1
    rw [b2i_cg (show hr A d = 0 ↔ A 2 d = 0 by unfold hr; split <;> omega)] at K
    exact K
theorem e5_refusalOfRow (hS : SC h A w) (hA : mSh A) (hd : d < 8) : Ev l 1 yX5_refusalOfRow.cls yX5_refusalOfRow.name cX5_refusalOfRow 1 (some .int) 0 [some (.ref (18 + 2 * d))] [] h (some (.int (iI (sRow A d (-1))))) h := by
  obtain ⟨el, hSh, ⟨hel, eel⟩, hw1, hw2⟩ := SC.op hS hd
  obtain ⟨s1, s2, s3, s4, s5⟩ := hA.1 (d : Int) (by omega) (by omega)
  have hr1 : hr A d = 0 ∨ hr A d = 1 := by unfold hr; split <;> omega
  refine ev_aload_n (pc' := 1) dX5_refusalOfRow_0 rfl rfl ?_
  refine ev_getfield (pc' := 4) fX5_213 dX5_refusalOfRow_1 rfl hSh rfl ?_
  refine ev_ifI_eq (pc' := 7) (tgt := 9) dX5_refusalOfRow_4 (by decide) rfl (by omega) (fun c4 => ?_) (fun c4 => ?_)
  · unfold hr at c4
    refine ev_aload_n (pc' := 10) dX5_refusalOfRow_9 rfl rfl ?_
    refine ev_callV0 (pc' := 13) kX5_300 mX1_isEmpty dX5_refusalOfRow_10 rfl rfl (Nat.le_of_ble_eq_true rfl) (Nat.le_of_ble_eq_true rfl) (by decide) rfl hSh (e1_isEmpty hS hA hd) ?_
    refine ev_ifd_eq (pc' := 16) (tgt := 21) dX5_refusalOfRow_13 (by decide) rfl (fun c13 => ?_) (fun c13 => ?_)
    · refine ev_bipush (pc' := 23) (iI (-12)) dX5_refusalOfRow_21 rfl (by decide) ?_
      exact ev_ireI dX5_refusalOfRow_23 (by split at c4 <;> first | omega | (unfold sRow; (repeat (first | rw [if_pos (by omega)] | rw [if_neg (by omega)]))))
    · refine ev_bipush (pc' := 18) (iI (-11)) dX5_refusalOfRow_16 rfl (by decide) ?_
      refine ev_goto (tgt := 23) dX5_refusalOfRow_18 (by decide) ?_
      exact ev_ireI dX5_refusalOfRow_23 (by split at c4 <;> first | omega | (unfold sRow; (repeat (first | rw [if_pos (by omega)] | rw [if_neg (by omega)]))))
  · unfold hr at c4
    refine ev_iconst (pc' := 8) (iI (0)) dX5_refusalOfRow_7 rfl (by decide) ?_
    exact ev_ireI dX5_refusalOfRow_8 (by split at c4 <;> first | omega | (unfold sRow; (repeat (first | rw [if_pos (by omega)] | rw [if_neg (by omega)]))))
theorem e5_refusalOfSort {q : Int} (hS : SC h A w) (hA : mSh A) (hd : d < 8) (rq : 0 ≤ q ∧ q ≤ 2) : Ev l 2 yX5_refusalOfSort.cls yX5_refusalOfSort.name cX5_refusalOfSort 2 (some .int) 0 [some (.ref (18 + 2 * d)), some (.int (iI q))] [] h (some (.int (iI (sRow A d q)))) h := by
  obtain ⟨el, hSh, ⟨hel, eel⟩, hw1, hw2⟩ := SC.op hS hd
  obtain ⟨s1, s2, s3, s4, s5⟩ := hA.1 (d : Int) (by omega) (by omega)
  have hr1 : hr A d = 0 ∨ hr A d = 1 := by unfold hr; split <;> omega
  refine ev_aload_n (pc' := 1) dX5_refusalOfSort_0 rfl rfl ?_
  refine ev_getfield (pc' := 4) fX5_213 dX5_refusalOfSort_1 rfl hSh rfl ?_
  refine ev_ifI_eq (pc' := 7) (tgt := 18) dX5_refusalOfSort_4 (by decide) rfl (by omega) (fun c4 => ?_) (fun c4 => ?_)
  · unfold hr at c4
    refine ev_aload_n (pc' := 19) dX5_refusalOfSort_18 rfl rfl ?_
    refine ev_callS1 (pc' := 22) kX5_216 mX5_refusalOfRow dX5_refusalOfSort_19 rfl rfl (Nat.le_of_ble_eq_true rfl) (Nat.le_of_ble_eq_true rfl) (by decide) (e5_refusalOfRow hS hA hd) ?_
    exact ev_ireI dX5_refusalOfSort_22 (by split at c4 <;> first | omega | (unfold sRow; (repeat' split) <;> omega))
  · unfold hr at c4
    refine ev_aload_n (pc' := 8) dX5_refusalOfSort_7 rfl rfl ?_
    refine ev_getfield (pc' := 11) fX5_303 dX5_refusalOfSort_8 rfl hSh rfl ?_
    refine ev_iload_n (pc' := 12) dX5_refusalOfSort_11 rfl rfl ?_
    refine ev_icmpI_eq (pc' := 15) (tgt := 18) dX5_refusalOfSort_12 (by decide) rfl (by omega) (by omega) (fun c12 => ?_) (fun c12 => ?_)
    · refine ev_aload_n (pc' := 19) dX5_refusalOfSort_18 rfl rfl ?_
      refine ev_callS1 (pc' := 22) kX5_216 mX5_refusalOfRow dX5_refusalOfSort_19 rfl rfl (Nat.le_of_ble_eq_true rfl) (Nat.le_of_ble_eq_true rfl) (by decide) (e5_refusalOfRow hS hA hd) ?_
      exact ev_ireI dX5_refusalOfSort_22 (by split at c4 <;> first | omega | (unfold sRow; (repeat' split) <;> omega))
    · refine ev_bipush (pc' := 17) (iI (-12)) dX5_refusalOfSort_15 rfl (by decide) ?_
      exact ev_ireI dX5_refusalOfSort_17 (by split at c4 <;> first | omega | (unfold sRow; (repeat' split) <;> omega))
theorem e5_refusalOfTraveller (hS : SC h A w) (hA : mSh A) (hd : d < 8) (hk : A 2 d ≠ 1) : Ev l 1 yX5_refusalOfTraveller.cls yX5_refusalOfTraveller.name cX5_refusalOfTraveller 1 (some .int) 0 [some (.ref (18 + 2 * d))] [] h (some (.int (iI (sShf A d)))) h := by
  obtain ⟨el, hSh, ⟨hel, eel⟩, hw1, hw2⟩ := SC.op hS hd
  obtain ⟨s1, s2, s3, s4, s5⟩ := hA.1 (d : Int) (by omega) (by omega)
  have hr1 : hr A d = 0 ∨ hr A d = 1 := by unfold hr; split <;> omega
  refine ev_aload_n (pc' := 1) dX5_refusalOfTraveller_0 rfl rfl ?_
  refine ev_callV0 (pc' := 4) kX5_300 mX1_isEmpty dX5_refusalOfTraveller_1 rfl rfl (Nat.le_of_ble_eq_true rfl) (Nat.le_of_ble_eq_true rfl) (by decide) rfl hSh (e1_isEmpty hS hA hd) ?_
  refine ev_ifd_eq (pc' := 7) (tgt := 12) dX5_refusalOfTraveller_4 (by decide) rfl (fun c4 => ?_) (fun c4 => ?_)
  · refine ev_bipush (pc' := 14) (iI (-12)) dX5_refusalOfTraveller_12 rfl (by decide) ?_
    exact ev_ireI dX5_refusalOfTraveller_14 (by unfold sShf; (repeat (first | rw [if_pos (by omega)] | rw [if_neg (by omega)])))
  · refine ev_bipush (pc' := 9) (iI (-11)) dX5_refusalOfTraveller_7 rfl (by decide) ?_
    refine ev_goto (tgt := 14) dX5_refusalOfTraveller_9 (by decide) ?_
    exact ev_ireI dX5_refusalOfTraveller_14 (by unfold sShf; (repeat (first | rw [if_pos (by omega)] | rw [if_neg (by omega)])))
theorem e1_hasElement {i : Int} (hS : SC h A w) (hA : mSh A) (hd : d < 8) (ri : -2147483648 ≤ i ∧ i < 2147483648) : Ev l 0 yX1_hasElement.cls yX1_hasElement.name cX1_hasElement 2 (some .boolean) 0 [some (.ref (18 + 2 * d)), some (.int (iI i))] [] h (some (.int (b2i (decide (A 2 d = 2 ∧ (0 ≤ i ∧ i < A 4 d)))))) h := by
  obtain ⟨el, hSh, ⟨hel, eel⟩, hw1, hw2⟩ := SC.op hS hd
  obtain ⟨s1, s2, s3, s4, s5⟩ := hA.1 (d : Int) (by omega) (by omega)
  have hr1 : hr A d = 0 ∨ hr A d = 1 := by unfold hr; split <;> omega
  refine ev_aload_n (pc' := 1) dX1_hasElement_0 rfl rfl ?_
  refine ev_getfield (pc' := 4) fX1_15 dX1_hasElement_1 rfl hSh rfl ?_
  refine ev_ifI_eq (pc' := 7) (tgt := 23) dX1_hasElement_4 (by decide) rfl (by omega) (fun c4 => ?_) (fun c4 => ?_)
  · unfold hr at c4
    refine ev_iconst (pc' := 24) (iI (0)) dX1_hasElement_23 rfl (by decide) ?_
    exact ev_zreI dX1_hasElement_24 (by split at c4 <;> first | omega | exact b2i_1 (by omega) | exact b2i_n (by omega))
  · unfold hr at c4
    refine ev_iload_n (pc' := 8) dX1_hasElement_7 rfl rfl ?_
    refine ev_ifI_lt (pc' := 11) (tgt := 23) dX1_hasElement_8 (by decide) rfl (by omega) (fun c8 => ?_) (fun c8 => ?_)
    · refine ev_iconst (pc' := 24) (iI (0)) dX1_hasElement_23 rfl (by decide) ?_
      exact ev_zreI dX1_hasElement_24 (by split at c4 <;> first | omega | exact b2i_1 (by omega) | exact b2i_n (by omega))
    · refine ev_iload_n (pc' := 12) dX1_hasElement_11 rfl rfl ?_
      refine ev_aload_n (pc' := 13) dX1_hasElement_12 rfl rfl ?_
      refine ev_getfield (pc' := 16) fX1_23 dX1_hasElement_13 rfl hSh rfl ?_
      refine ev_icmpI_ge (pc' := 19) (tgt := 23) dX1_hasElement_16 (by decide) rfl (by omega) (by omega) (fun c16 => ?_) (fun c16 => ?_)
      · refine ev_iconst (pc' := 24) (iI (0)) dX1_hasElement_23 rfl (by decide) ?_
        exact ev_zreI dX1_hasElement_24 (by split at c4 <;> first | omega | exact b2i_1 (by omega) | exact b2i_n (by omega))
      · refine ev_iconst (pc' := 20) (iI (1)) dX1_hasElement_19 rfl (by decide) ?_
        refine ev_goto (tgt := 24) dX1_hasElement_20 (by decide) ?_
        exact ev_zreI dX1_hasElement_24 (by split at c4 <;> first | omega | exact b2i_1 (by omega) | exact b2i_n (by omega))
theorem e1_hasSpan {i n : Int} (hS : SC h A w) (hA : mSh A) (hd : d < 8) (ri : -2147483648 ≤ i ∧ i < 2147483648) (rn : -2147483648 ≤ n ∧ n < 2147483648) : Ev l 0 yX1_hasSpan.cls yX1_hasSpan.name cX1_hasSpan 3 (some .boolean) 0 [some (.ref (18 + 2 * d)), some (.int (iI i)), some (.int (iI n))] [] h (some (.int (b2i (decide (A 2 d = 2 ∧ 0 ≤ i ∧ 0 ≤ n ∧ n ≤ A 4 d - i))))) h := by
  obtain ⟨el, hSh, ⟨hel, eel⟩, hw1, hw2⟩ := SC.op hS hd
  obtain ⟨s1, s2, s3, s4, s5⟩ := hA.1 (d : Int) (by omega) (by omega)
  have hr1 : hr A d = 0 ∨ hr A d = 1 := by unfold hr; split <;> omega
  refine ev_aload_n (pc' := 1) dX1_hasSpan_0 rfl rfl ?_
  refine ev_getfield (pc' := 4) fX1_15 dX1_hasSpan_1 rfl hSh rfl ?_
  refine ev_ifI_eq (pc' := 7) (tgt := 29) dX1_hasSpan_4 (by decide) rfl (by omega) (fun c4 => ?_) (fun c4 => ?_)
  · unfold hr at c4
    refine ev_iconst (pc' := 30) (iI (0)) dX1_hasSpan_29 rfl (by decide) ?_
    exact ev_zreI dX1_hasSpan_30 (by split at c4 <;> first | omega | exact b2i_1 (by omega) | exact b2i_n (by omega))
  · unfold hr at c4
    refine ev_iload_n (pc' := 8) dX1_hasSpan_7 rfl rfl ?_
    refine ev_ifI_lt (pc' := 11) (tgt := 29) dX1_hasSpan_8 (by decide) rfl (by omega) (fun c8 => ?_) (fun c8 => ?_)
    · refine ev_iconst (pc' := 30) (iI (0)) dX1_hasSpan_29 rfl (by decide) ?_
      exact ev_zreI dX1_hasSpan_30 (by split at c4 <;> first | omega | exact b2i_1 (by omega) | exact b2i_n (by omega))
    · refine ev_iload_n (pc' := 12) dX1_hasSpan_11 rfl rfl ?_
      refine ev_ifI_lt (pc' := 15) (tgt := 29) dX1_hasSpan_12 (by decide) rfl (by omega) (fun c12 => ?_) (fun c12 => ?_)
      · refine ev_iconst (pc' := 30) (iI (0)) dX1_hasSpan_29 rfl (by decide) ?_
        exact ev_zreI dX1_hasSpan_30 (by split at c4 <;> first | omega | exact b2i_1 (by omega) | exact b2i_n (by omega))
      · refine ev_iload_n (pc' := 16) dX1_hasSpan_15 rfl rfl ?_
        refine ev_aload_n (pc' := 17) dX1_hasSpan_16 rfl rfl ?_
        refine ev_getfield (pc' := 20) fX1_23 dX1_hasSpan_17 rfl hSh rfl ?_
        refine ev_iload_n (pc' := 21) dX1_hasSpan_20 rfl rfl ?_
        refine ev_isubI (pc' := 22) dX1_hasSpan_21 rfl ?_
        refine ev_icmpI_gt (pc' := 25) (tgt := 29) dX1_hasSpan_22 (by decide) rfl (by omega) (by omega) (fun c22 => ?_) (fun c22 => ?_)
        · refine ev_iconst (pc' := 30) (iI (0)) dX1_hasSpan_29 rfl (by decide) ?_
          exact ev_zreI dX1_hasSpan_30 (by split at c4 <;> first | omega | exact b2i_1 (by omega) | exact b2i_n (by omega))
        · refine ev_iconst (pc' := 26) (iI (1)) dX1_hasSpan_25 rfl (by decide) ?_
          refine ev_goto (tgt := 30) dX1_hasSpan_26 (by decide) ?_
          exact ev_zreI dX1_hasSpan_30 (by split at c4 <;> first | omega | exact b2i_1 (by omega) | exact b2i_n (by omega))
theorem e1_leastNumber (hS : SC h A w) (hA : mSh A) (hd : d < 8) : Ev l 0 yX1_leastNumber.cls yX1_leastNumber.name cX1_leastNumber 1 (some .int) 0 [some (.ref (18 + 2 * d))] [] h (some (.int (iI (lstS (A 3 d))))) h := by
  obtain ⟨el, hSh, ⟨hel, eel⟩, hw1, hw2⟩ := SC.op hS hd
  obtain ⟨s1, s2, s3, s4, s5⟩ := hA.1 (d : Int) (by omega) (by omega)
  have hr1 : hr A d = 0 ∨ hr A d = 1 := by unfold hr; split <;> omega
  refine ev_aload_n (pc' := 1) dX1_leastNumber_0 rfl rfl ?_
  refine ev_getfield (pc' := 4) fX1_19 dX1_leastNumber_1 rfl hSh rfl ?_
  refine ev_ifI_ne (pc' := 7) (tgt := 10) dX1_leastNumber_4 (by decide) rfl (by omega) (fun c4 => ?_) (fun c4 => ?_)
  · refine ev_aload_n (pc' := 11) dX1_leastNumber_10 rfl rfl ?_
    refine ev_getfield (pc' := 14) fX1_19 dX1_leastNumber_11 rfl hSh rfl ?_
    refine ev_iconst (pc' := 15) (iI (1)) dX1_leastNumber_14 rfl (by decide) ?_
    refine ev_icmpI_ne (pc' := 18) (tgt := 24) dX1_leastNumber_15 (by decide) rfl (by omega) (by omega) (fun c15 => ?_) (fun c15 => ?_)
    · refine ev_ldcI (pc' := 26) (-2147483648) nX1_30 dX1_leastNumber_24 rfl (by decide) ?_
      exact ev_ireI dX1_leastNumber_26 (by unfold lstS; (repeat (first | rw [if_pos (by omega)] | rw [if_neg (by omega)])))
    · refine ev_sipush (pc' := 21) (iI (-32768)) dX1_leastNumber_18 rfl (by decide) ?_
      refine ev_goto (tgt := 26) dX1_leastNumber_21 (by decide) ?_
      exact ev_ireI dX1_leastNumber_26 (by unfold lstS; (repeat (first | rw [if_pos (by omega)] | rw [if_neg (by omega)])))
  · refine ev_bipush (pc' := 9) (iI (-128)) dX1_leastNumber_7 rfl (by decide) ?_
    exact ev_ireI dX1_leastNumber_9 (by unfold lstS; (repeat (first | rw [if_pos (by omega)] | rw [if_neg (by omega)])))
theorem e1_lowestBits {v : Int} (hS : SC h A w) (hA : mSh A) (hd : d < 8) (rv : -2147483648 ≤ v ∧ v < 2147483648) : Ev l 0 yX1_lowestBits.cls yX1_lowestBits.name cX1_lowestBits 2 (some .int) 0 [some (.ref (18 + 2 * d)), some (.int (iI v))] [] h (some (.int (iI (lowS (A 3 d) v)))) h := by
  obtain ⟨el, hSh, ⟨hel, eel⟩, hw1, hw2⟩ := SC.op hS hd
  obtain ⟨s1, s2, s3, s4, s5⟩ := hA.1 (d : Int) (by omega) (by omega)
  have hr1 : hr A d = 0 ∨ hr A d = 1 := by unfold hr; split <;> omega
  refine ev_aload_n (pc' := 1) dX1_lowestBits_0 rfl rfl ?_
  refine ev_getfield (pc' := 4) fX1_19 dX1_lowestBits_1 rfl hSh rfl ?_
  refine ev_ifI_ne (pc' := 7) (tgt := 10) dX1_lowestBits_4 (by decide) rfl (by omega) (fun c4 => ?_) (fun c4 => ?_)
  · refine ev_aload_n (pc' := 11) dX1_lowestBits_10 rfl rfl ?_
    refine ev_getfield (pc' := 14) fX1_19 dX1_lowestBits_11 rfl hSh rfl ?_
    refine ev_iconst (pc' := 15) (iI (1)) dX1_lowestBits_14 rfl (by decide) ?_
    refine ev_icmpI_ne (pc' := 18) (tgt := 23) dX1_lowestBits_15 (by decide) rfl (by omega) (by omega) (fun c15 => ?_) (fun c15 => ?_)
    · refine ev_iload_n (pc' := 24) dX1_lowestBits_23 rfl rfl ?_
      exact ev_ireI dX1_lowestBits_24 (by unfold lowS; (repeat (first | rw [if_pos (by omega)] | rw [if_neg (by omega)])))
    · refine ev_iload_n (pc' := 19) dX1_lowestBits_18 rfl rfl ?_
      refine ev_i2s (pc' := 20) dX1_lowestBits_19 rfl ?_
      rw [← iI_of ((iI v).toInt16.toInt32)]
      refine ev_goto (tgt := 24) dX1_lowestBits_20 (by decide) ?_
      exact ev_ireI dX1_lowestBits_24 (by unfold lowS; (repeat (first | rw [if_pos (by omega)] | rw [if_neg (by omega)])))
  · refine ev_iload_n (pc' := 8) dX1_lowestBits_7 rfl rfl ?_
    refine ev_i2b (pc' := 9) dX1_lowestBits_8 rfl ?_
    rw [← iI_of ((iI v).toInt8.toInt32)]
    exact ev_ireI dX1_lowestBits_9 (by unfold lowS; (repeat (first | rw [if_pos (by omega)] | rw [if_neg (by omega)])))
theorem e1_tellsPair {i : Int} (hS : SC h A w) (hA : mSh A) (hd : d < 8) (hk : A 2 d = 2) (ri : 0 ≤ i ∧ i + 1 < A 4 d) : Ev l 1 yX1_tellsPair.cls yX1_tellsPair.name cX1_tellsPair 3 (some .boolean) 0 [some (.ref (18 + 2 * d)), some (.int (iI i)), none] [] h (some (.int (b2i (decide (A 5 (100 * (d : Int) + i) ≠ lstS (A 3 d) ∧ A 5 (100 * (d : Int) + (i + 1)) ≠ lstS (A 3 d)))))) h := by
  obtain ⟨el, hSh, ⟨hel, eel⟩, hw1, hw2⟩ := SC.op hS hd
  obtain ⟨s1, s2, s3, s4, s5⟩ := hA.1 (d : Int) (by omega) (by omega)
  have hr1 : hr A d = 0 ∨ hr A d = 1 := by unfold hr; split <;> omega
  have e1 := hA.2 (100 * (d : Int) + i) (by omega) (by omega)
  have e2 := hA.2 (100 * (d : Int) + (i + 1)) (by omega) (by omega)
  have e3 : -2147483648 ≤ lstS (A 3 d) ∧ lstS (A 3 d) < 2147483648 := by unfold lstS; (split; omega; split <;> omega)
  refine ev_aload_n (pc' := 1) dX1_tellsPair_0 rfl rfl ?_
  refine ev_callV0 (pc' := 4) kX1_31 mX1_leastNumber dX1_tellsPair_1 rfl rfl (Nat.le_of_ble_eq_true rfl) (Nat.le_of_ble_eq_true rfl) (by decide) rfl hSh (e1_leastNumber hS hA hd) ?_
  refine ev_istore_2 (pc' := 5) dX1_tellsPair_4 rfl (by decide) rfl ?_
  refine ev_aload_n (pc' := 6) dX1_tellsPair_5 rfl rfl ?_
  refine ev_iload_n (pc' := 7) dX1_tellsPair_6 rfl rfl ?_
  refine ev_callV1 (pc' := 10) kX1_35 mX1_hasElement dX1_tellsPair_7 rfl rfl (Nat.le_of_ble_eq_true rfl) (Nat.le_of_ble_eq_true rfl) (by decide) rfl hSh (e1_hasElement hS hA hd (by omega)) ?_
  refine ev_ifd_eq (pc' := 13) (tgt := 49) dX1_tellsPair_10 (by decide) rfl (fun c10 => ?_) (fun c10 => ?_)
  · omega
  · refine ev_aload_n (pc' := 14) dX1_tellsPair_13 rfl rfl ?_
    refine ev_iload_n (pc' := 15) dX1_tellsPair_14 rfl rfl ?_
    refine ev_iconst (pc' := 16) (iI (1)) dX1_tellsPair_15 rfl (by decide) ?_
    refine ev_iaddI (pc' := 17) dX1_tellsPair_16 rfl ?_
    refine ev_callV1 (pc' := 20) kX1_35 mX1_hasElement dX1_tellsPair_17 rfl rfl (Nat.le_of_ble_eq_true rfl) (Nat.le_of_ble_eq_true rfl) (by decide) rfl hSh (e1_hasElement hS hA hd (by omega)) ?_
    refine ev_ifd_eq (pc' := 23) (tgt := 49) dX1_tellsPair_20 (by decide) rfl (fun c20 => ?_) (fun c20 => ?_)
    · omega
    · refine ev_aload_n (pc' := 24) dX1_tellsPair_23 rfl rfl ?_
      refine ev_getfield (pc' := 27) fX1_26 dX1_tellsPair_24 rfl hSh rfl ?_
      refine ev_iload_n (pc' := 28) dX1_tellsPair_27 rfl rfl ?_
      refine ev_ialoadI (pc' := 29) dX1_tellsPair_28 rfl hel (by decide) (by omega) ?_
      rw [eel _ (by omega) (by omega)]
      refine ev_iload_n (pc' := 30) dX1_tellsPair_29 rfl rfl ?_
      refine ev_icmpI_eq (pc' := 33) (tgt := 49) dX1_tellsPair_30 (by decide) rfl (by omega) (by omega) (fun c30 => ?_) (fun c30 => ?_)
      · refine ev_iconst (pc' := 50) (iI (0)) dX1_tellsPair_49 rfl (by decide) ?_
        exact ev_zreI dX1_tellsPair_50 (by first | exact b2i_1 (by omega) | exact b2i_n (by omega))
      · refine ev_aload_n (pc' := 34) dX1_tellsPair_33 rfl rfl ?_
        refine ev_getfield (pc' := 37) fX1_26 dX1_tellsPair_34 rfl hSh rfl ?_
        refine ev_iload_n (pc' := 38) dX1_tellsPair_37 rfl rfl ?_
        refine ev_iconst (pc' := 39) (iI (1)) dX1_tellsPair_38 rfl (by decide) ?_
        refine ev_iaddI (pc' := 40) dX1_tellsPair_39 rfl ?_
        refine ev_ialoadI (pc' := 41) dX1_tellsPair_40 rfl hel (by decide) (by omega) ?_
        rw [eel _ (by omega) (by omega)]
        refine ev_iload_n (pc' := 42) dX1_tellsPair_41 rfl rfl ?_
        refine ev_icmpI_eq (pc' := 45) (tgt := 49) dX1_tellsPair_42 (by decide) rfl (by omega) (by omega) (fun c42 => ?_) (fun c42 => ?_)
        · refine ev_iconst (pc' := 50) (iI (0)) dX1_tellsPair_49 rfl (by decide) ?_
          exact ev_zreI dX1_tellsPair_50 (by first | exact b2i_1 (by omega) | exact b2i_n (by omega))
        · refine ev_iconst (pc' := 46) (iI (1)) dX1_tellsPair_45 rfl (by decide) ?_
          refine ev_goto (tgt := 50) dX1_tellsPair_46 (by decide) ?_
          exact ev_zreI dX1_tellsPair_50 (by first | exact b2i_1 (by omega) | exact b2i_n (by omega))
theorem e5_rdL (hS : SC h A w) (hA : mSh A) (hd : d < 8) (hk : sRow A d 2 = 0) : ∀ (n i : Nat), A 4 d = i + n → Ev l 3 yX5_refusalOfDuties.cls yX5_refusalOfDuties.name cX5_refusalOfDuties 3 (some .int) 14 [some (.ref (18 + 2 * d)), some (.int (iI (0 : Int))), some (.int (iI (i : Int)))] [] h (some (.int (iI (ntM A d n i)))) h := by
  obtain ⟨el, hSh, ⟨hel, eel⟩, hw1, hw2⟩ := SC.op hS hd
  obtain ⟨s1, s2, s3, s4, s5⟩ := hA.1 (d : Int) (by omega) (by omega)
  have hr1 : hr A d = 0 ∨ hr A d = 1 := by unfold hr; split <;> omega
  intro n
  induction n with
  | zero =>
    intro i hn
    refine ev_iload_n (pc' := 15) dX5_refusalOfDuties_14 rfl rfl ?_
    refine ev_aload_n (pc' := 16) dX5_refusalOfDuties_15 rfl rfl ?_
    refine ev_getfield (pc' := 19) fX5_220 dX5_refusalOfDuties_16 rfl hSh rfl ?_
    refine ev_icmpI_ge (pc' := 22) (tgt := 43) dX5_refusalOfDuties_19 (by decide) rfl (by omega) (by omega) (fun c19 => ?_) (fun c19 => ?_)
    · refine ev_iconst (pc' := 44) (iI (0)) dX5_refusalOfDuties_43 rfl (by decide) ?_
      exact ev_ireI dX5_refusalOfDuties_44 (by rfl)
    · omega
  | succ n ih =>
    intro i hn
    have e1 := hA.2 (100 * (d : Int) + i) (by omega) (by omega)
    refine ev_iload_n (pc' := 15) dX5_refusalOfDuties_14 rfl rfl ?_
    refine ev_aload_n (pc' := 16) dX5_refusalOfDuties_15 rfl rfl ?_
    refine ev_getfield (pc' := 19) fX5_220 dX5_refusalOfDuties_16 rfl hSh rfl ?_
    refine ev_icmpI_ge (pc' := 22) (tgt := 43) dX5_refusalOfDuties_19 (by decide) rfl (by omega) (by omega) (fun c19 => ?_) (fun c19 => ?_)
    · omega
    · refine ev_aload_n (pc' := 23) dX5_refusalOfDuties_22 rfl rfl ?_
      refine ev_getfield (pc' := 26) fX5_226 dX5_refusalOfDuties_23 rfl hSh rfl ?_
      refine ev_iload_n (pc' := 27) dX5_refusalOfDuties_26 rfl rfl ?_
      refine ev_ialoadI (pc' := 28) dX5_refusalOfDuties_27 rfl hel (by decide) (by omega) ?_
      rw [eel _ (by omega) (by omega)]
      refine ev_callS1 (pc' := 31) kX5_96 mX5_isMinute dX5_refusalOfDuties_28 rfl rfl (Nat.le_of_ble_eq_true rfl) (Nat.le_of_ble_eq_true rfl) (by decide) (e5_isMinute (by omega)) ?_
      refine ev_ifd_ne (pc' := 34) (tgt := 37) dX5_refusalOfDuties_31 (by decide) rfl (fun c31 => ?_) (fun c31 => ?_)
      · refine ev_iincI_2 (pc' := 40) dX5_refusalOfDuties_37 rfl (by decide) rfl ?_
        refine ev_goto (tgt := 14) dX5_refusalOfDuties_40 (by decide) ?_
        rw [show ntM A d (n + 1) i = ntM A d n ((i + 1 : Nat) : Int) by (conv => lhs; unfold ntM; rw [if_pos (by omega)]); rfl]
        exact ih (i + 1) (by omega)
      · refine ev_bipush (pc' := 36) (iI (-13)) dX5_refusalOfDuties_34 rfl (by decide) ?_
        exact ev_ireI dX5_refusalOfDuties_36 (by unfold ntM; rw [if_neg (by omega)])
theorem e5_refusalOfDuties (hS : SC h A w) (hA : mSh A) (hd : d < 8) : Ev l 3 yX5_refusalOfDuties.cls yX5_refusalOfDuties.name cX5_refusalOfDuties 3 (some .int) 0 [some (.ref (18 + 2 * d)), none, none] [] h (some (.int (iI (if sRow A d 2 ≠ 0 then sRow A d 2 else ntM A d (A 4 d).toNat 0)))) h := by
  obtain ⟨el, hSh, ⟨hel, eel⟩, hw1, hw2⟩ := SC.op hS hd
  obtain ⟨s1, s2, s3, s4, s5⟩ := hA.1 (d : Int) (by omega) (by omega)
  have hr1 : hr A d = 0 ∨ hr A d = 1 := by unfold hr; split <;> omega
  have zb := sRow_b A d 2
  refine ev_aload_n (pc' := 1) dX5_refusalOfDuties_0 rfl rfl ?_
  refine ev_iconst (pc' := 2) (iI (2)) dX5_refusalOfDuties_1 rfl (by decide) ?_
  refine ev_callS2 (pc' := 5) kX5_48 mX5_refusalOfSort dX5_refusalOfDuties_2 rfl rfl (Nat.le_of_ble_eq_true rfl) (Nat.le_of_ble_eq_true rfl) (by decide) (e5_refusalOfSort hS hA hd (by decide)) ?_
  refine ev_istore_1 (pc' := 6) dX5_refusalOfDuties_5 rfl (by decide) rfl ?_
  refine ev_iload_n (pc' := 7) dX5_refusalOfDuties_6 rfl rfl ?_
  refine ev_ifI_eq (pc' := 10) (tgt := 12) dX5_refusalOfDuties_7 (by decide) rfl (by omega) (fun c7 => ?_) (fun c7 => ?_)
  · refine ev_iconst (pc' := 13) (iI (0)) dX5_refusalOfDuties_12 rfl (by decide) ?_
    refine ev_istore_2 (pc' := 14) dX5_refusalOfDuties_13 rfl (by decide) rfl ?_
    rw [if_neg (by omega), show sRow A d 2 = 0 by omega]
    exact e5_rdL hS hA hd (by omega) (A 4 d).toNat 0 (by omega)
  · refine ev_iload_n (pc' := 11) dX5_refusalOfDuties_10 rfl rfl ?_
    exact ev_ireI dX5_refusalOfDuties_11 (by rw [if_pos (by omega)])
end CK
