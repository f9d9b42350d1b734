section CQ
variable {l : Launch} {h h2 : ev_H} {im : Int} {A A' : Nat → Int → Int} {F F2 w w' : Nat → Option Nat} {S' : Int → Int}
theorem CL.rc (x : CL h im A F F2 w) : RC h (A 0) F := x.1
theorem CL.x0 (x : CL h im A F F2 w) : h[0]? = some (cWd (.ref 1) (.ref 8) im (.ref 15) (.ref 16) (.ref 17)) := x.2.1
theorem CL.sc (x : CL h im A F F2 w) : SC h A w := x.2.2.2.1
theorem CL.same (x : CL h im A F F2 w) {r : Option Value} : clP h r im A r h := ⟨rfl, KM.rf h, F, F2, w, x⟩
theorem CL.sp (x : CL h im A F F2 w) : ∃ a b c d e f, h[16]? = some (cSp a b c d e f) := x.1.2.2.1
theorem CL.rd (x : CL h im A F F2 w) : ∃ z a b c d e f g i, h[17]? = some (cRd z a b c d e f g i) := x.2.2.1
theorem set_ne {h : ev_H} {k j : Nat} {e : va_E} (hn : j ≠ k) : (h.set k e)[j]? = h[j]? := List.getElem?_set_ne (Ne.symm hn)
theorem c_line {g : Int} (x : CL h im A F F2 w) (hI : mI0 (A 0)) (rg : -2147483648 ≤ g ∧ g < 2147483648) : Ex l 1 yX5_line.cls yX5_line.name cX5_line 3 (some .int) 0 [some (.ref 0), some (.int (iI g)), none] [] h (clP h (some (.int (iI (sLine (A 0) g)))) im (upA A 0 (sLineS (A 0) g))) := by
  obtain ⟨⟨i1, i2⟩, ⟨i3, i4⟩, i5, i6⟩ := id hI
  have hR := x.rc
  have hX0 := x.x0
  have hN := hR.nw
  obtain ⟨D, R, C, Q, X, hW, ⟨hD, eD⟩, ⟨hRu, eR⟩, ⟨hC, eC⟩, ⟨hQ, eQ⟩, ⟨hX, eX⟩, hF⟩ := CW.op hN
  refine ex_of (fun _ _ => ev_iload_n (pc' := 1) dX5_line_0 rfl rfl) ?_
  refine ex_of (fun _ _ => ev_callS1 (pc' := 4) kX5_89 mX5_isDegree dX5_line_1 rfl rfl (Nat.le_of_ble_eq_true rfl) (Nat.le_of_ble_eq_true rfl) (by decide) (e5_isDegree (by omega))) ?_
  refine ex_ifd_ne (pc' := 7) (tgt := 9) dX5_line_4 (by decide) rfl (fun c4 => ?_) (fun c4 => ?_)
  · refine ex_of (fun _ _ => ev_aload_n (pc' := 10) dX5_line_9 rfl rfl) ?_
    refine ex_of (fun _ _ => ev_getfield (pc' := 13) fX5_12 dX5_line_10 rfl hX0 rfl) ?_
    refine ex_of (fun _ _ => ev_getfield (pc' := 16) fX5_92 dX5_line_13 rfl hW rfl) ?_
    refine ex_of (fun _ _ => ev_istore_2 (pc' := 17) dX5_line_16 rfl (by decide) rfl) ?_
    refine ex_of (fun _ _ => ev_aload_n (pc' := 18) dX5_line_17 rfl rfl) ?_
    refine ex_of (fun _ _ => ev_getfield (pc' := 21) fX5_12 dX5_line_18 rfl hX0 rfl) ?_
    refine ex_of (fun _ _ => ev_iload_n (pc' := 22) dX5_line_21 rfl rfl) ?_
    refine ex_of (fun _ _ => ev_putfield (pc' := 25) (pX5_92 _) dX5_line_22 rfl hW rfl rfl (Nat.le_of_ble_eq_true rfl)) ?_
    refine ex_of (fun _ _ => ev_iload_n (pc' := 26) dX5_line_25 rfl rfl) ?_
    exact ex_end (ev_iret dX5_line_26 rfl) (by
    unfold sLine sLineS
    rw [if_pos (by omega), if_pos (by omega)]
    have hN2 : NW (h.set 1 (cWo (A 0 0) (A 0 1) g 2 3 4 5 6 7)) (upI (A 0) 2 g) F := by
      obtain ⟨y0, y1, y2, y3, y4, y5, y6⟩ := hN
      refine ⟨?_, (y1.eq (set_ne (by decide))).cg (fun p p1 p2 => (upI_n (by omega)).symm), (y2.eq (set_ne (by decide))).cg (fun p p1 p2 => (upI_n (by omega)).symm), (y3.eq (set_ne (by decide))).cg (fun p p1 p2 => (upI_n (by omega)).symm), (y4.eq (set_ne (by decide))).cg (fun p p1 p2 => (upI_n (by omega)).symm), (y5.eq (set_ne (by decide))).cg (fun p p1 p2 => (upI_n (by omega)).symm), (set_ne (by decide)).trans y6⟩
      rw [ev_gs hW, upI_s, upI_n (by decide), upI_n (by decide)]
    have K := x.wld (h2 := h.set 1 (cWo (A 0 0) (A 0 1) g 2 3 4 5 6 7)) List.length_set (fun j j1 j2 j3 => set_ne (by omega)) hN2 (by obtain ⟨a, b, c, d, e, f, q⟩ := x.sp; exact ⟨a, b, c, d, e, f, (set_ne (by decide)).trans q⟩) (by obtain ⟨z, a, b, c, d, e, f, g, i, q⟩ := x.rd; exact ⟨z, a, b, c, d, e, f, g, i, (set_ne (by decide)).trans q⟩) (upI_n (by decide)) (fun p p1 p2 => upI_n (by omega)) hI
    exact ⟨rfl, K.2, F, F2, w, K.1⟩)
  · refine ex_of (fun _ _ => ev_iconst (pc' := 8) (iI (-1)) dX5_line_7 rfl (by decide)) ?_
    exact ex_end (ev_iret dX5_line_8 rfl) (by unfold sLine sLineS; rw [if_neg (by omega), if_neg (by omega), upA_id]; exact x.same)
theorem c_choose {p n : Int} (x : CL h im A F F2 w) (hI : mI0 (A 0)) (rp : -2147483648 ≤ p ∧ p < 2147483648) (rn : -2147483648 ≤ n ∧ n < 2147483648) : Ex l 1 yX5_choose.cls yX5_choose.name cX5_choose 4 (some .int) 0 [some (.ref 0), some (.int (iI p)), some (.int (iI n)), none] [] h (clP h (some (.int (iI (sChoose (A 0) p n)))) im (upA A 0 (sChooseS (A 0) p n))) := by
  obtain ⟨⟨i1, i2⟩, ⟨i3, i4⟩, i5, i6⟩ := id hI
  have hR := x.rc
  have hX0 := x.x0
  have hN := hR.nw
  obtain ⟨D, R, C, Q, X, hW, ⟨hD, eD⟩, ⟨hRu, eR⟩, ⟨hC, eC⟩, ⟨hQ, eQ⟩, ⟨hX, eX⟩, hF⟩ := CW.op hN
  refine ex_of (fun _ _ => ev_aload_n (pc' := 1) dX5_choose_0 rfl rfl) ?_
  refine ex_of (fun _ _ => ev_getfield (pc' := 4) fX5_12 dX5_choose_1 rfl hX0 rfl) ?_
  refine ex_of (fun _ _ => ev_iload_n (pc' := 5) dX5_choose_4 rfl rfl) ?_
  refine ex_of (fun _ _ => ev_callV1 (pc' := 8) kX5_68 mX4_hasPlace dX5_choose_5 rfl rfl (Nat.le_of_ble_eq_true rfl) (Nat.le_of_ble_eq_true rfl) (by decide) rfl hW (e4_hasPlace hN hI (by omega))) ?_
  refine ex_ifd_eq (pc' := 11) (tgt := 21) dX5_choose_8 (by decide) rfl (fun c8 => ?_) (fun c8 => ?_)
  · refine ex_of (fun _ _ => ev_ldcI (pc' := 23) (-1000000001) nX5_72 dX5_choose_21 rfl (by decide)) ?_
    exact ex_end (ev_iret dX5_choose_23 rfl) (by unfold sChoose sChooseS; rw [if_neg (by omega), if_neg (by omega), upA_id]; exact x.same)
  · refine ex_of (fun _ _ => ev_iload_n (pc' := 12) dX5_choose_11 rfl rfl) ?_
    refine ex_of (fun _ _ => ev_iconst (pc' := 13) (iI (-1)) dX5_choose_12 rfl (by decide)) ?_
    refine ex_icmpI_lt (pc' := 16) (tgt := 21) dX5_choose_13 (by decide) rfl (by omega) (by omega) (fun c13 => ?_) (fun c13 => ?_)
    · refine ex_of (fun _ _ => ev_ldcI (pc' := 23) (-1000000001) nX5_72 dX5_choose_21 rfl (by decide)) ?_
      exact ex_end (ev_iret dX5_choose_23 rfl) (by unfold sChoose sChooseS; rw [if_neg (by omega), if_neg (by omega), upA_id]; exact x.same)
    · refine ex_of (fun _ _ => ev_iload_n (pc' := 17) dX5_choose_16 rfl rfl) ?_
      refine ex_of (fun _ _ => ev_iconst (pc' := 18) (iI (1)) dX5_choose_17 rfl (by decide)) ?_
      refine ex_icmpI_le (pc' := 21) (tgt := 24) dX5_choose_18 (by decide) rfl (by omega) (by omega) (fun c18 => ?_) (fun c18 => ?_)
      · refine ex_of (fun _ _ => ev_aload_n (pc' := 25) dX5_choose_24 rfl rfl) ?_
        refine ex_of (fun _ _ => ev_getfield (pc' := 28) fX5_12 dX5_choose_25 rfl hX0 rfl) ?_
        refine ex_of (fun _ _ => ev_getfield (pc' := 31) fX5_80 dX5_choose_28 rfl hW rfl) ?_
        refine ex_of (fun _ _ => ev_iload_n (pc' := 32) dX5_choose_31 rfl rfl) ?_
        refine ex_of (fun _ _ => ev_ialoadI (pc' := 33) dX5_choose_32 rfl hC (by decide) (by omega)) ?_
        rw [eC _ (by omega) (by omega)]
        refine ex_of (fun _ _ => ev_istore_3 (pc' := 34) dX5_choose_33 rfl (by decide) rfl) ?_
        refine ex_of (fun _ _ => ev_aload_n (pc' := 35) dX5_choose_34 rfl rfl) ?_
        refine ex_of (fun _ _ => ev_getfield (pc' := 38) fX5_12 dX5_choose_35 rfl hX0 rfl) ?_
        refine ex_of (fun _ _ => ev_getfield (pc' := 41) fX5_80 dX5_choose_38 rfl hW rfl) ?_
        refine ex_of (fun _ _ => ev_iload_n (pc' := 42) dX5_choose_41 rfl rfl) ?_
        refine ex_of (fun _ _ => ev_iload_n (pc' := 43) dX5_choose_42 rfl rfl) ?_
        refine ex_of (fun _ _ => ev_iastoreI (pc' := 44) dX5_choose_43 rfl hC (by decide) (by omega)) ?_
        refine ex_of (fun _ _ => ev_iload_n (pc' := 45) dX5_choose_44 rfl rfl) ?_
        exact ex_end (ev_iret dX5_choose_45 rfl) (by
    unfold sChoose sChooseS
    rw [if_pos (by omega), if_pos (by omega)]
    have hN2 : NW (h.set 4 (mA 10 (upI C p n))) (upI (A 0) (3 + 4 * p + 2) n) F := by
      obtain ⟨y0, y1, y2, y3, y4, y5, y6⟩ := hN
      refine ⟨?_, (y1.eq (set_ne (by decide))).cg (fun q p1 p2 => (upI_n (by omega)).symm), (y2.eq (set_ne (by decide))).cg (fun q p1 p2 => (upI_n (by omega)).symm), ⟨_, ev_gs hC, fun q q1 q2 => ?_⟩, (y4.eq (set_ne (by decide))).cg (fun q p1 p2 => (upI_n (by omega)).symm), (y5.eq (set_ne (by decide))).cg (fun q p1 p2 => (upI_n (by omega)).symm), (set_ne (by decide)).trans y6⟩
      · rw [set_ne (by decide), upI_n (by omega), upI_n (by omega), upI_n (by omega)]
        exact y0
      · show upI C p n q = upI (A 0) (3 + 4 * p + 2) n (3 + 4 * q + 2)
        by_cases z : q = p
        · rw [z, upI_s, upI_s]
        · rw [upI_n z, upI_n (by omega), eC q q1 q2]
    have K := x.wld (h2 := h.set 4 (mA 10 (upI C p n))) List.length_set (fun j j1 j2 j3 => set_ne (by omega)) hN2 (by obtain ⟨a, b, c, d, e, f, q⟩ := x.sp; exact ⟨a, b, c, d, e, f, (set_ne (by decide)).trans q⟩) (by obtain ⟨z, a, b, c, d, e, f, g, i, q⟩ := x.rd; exact ⟨z, a, b, c, d, e, f, g, i, (set_ne (by decide)).trans q⟩) (upI_n (by omega)) (fun q p1 p2 => upI_n (by omega)) hI
    exact ⟨rfl, K.2, F, F2, w, K.1⟩)
      · refine ex_of (fun _ _ => ev_ldcI (pc' := 23) (-1000000001) nX5_72 dX5_choose_21 rfl (by decide)) ?_
        exact ex_end (ev_iret dX5_choose_23 rfl) (by unfold sChoose sChooseS; rw [if_neg (by omega), if_neg (by omega), upA_id]; exact x.same)
theorem e1_holdN {a e t : Nat} {v : Value} {r s z : Int} (hSh : h[a]? = some (cSh v r s z e)) : Ev l 0 yX1_hold.cls yX1_hold.name cX1_hold 2 none 0 [some (.ref a), some (.null)] [] h none (h.set a (cSh (.null) 0 s z e)) := by
  refine ev_vw rfl (show (h.set a (cSh (.null) r s z e)).set a (cSh (.null) 0 s z e) = h.set a (cSh (.null) 0 s z e) from List.set_set ..) ?_
  refine ev_aload_n (pc' := 1) dX1_hold_0 rfl rfl ?_
  refine ev_aload_nN (pc' := 2) dX1_hold_1 rfl rfl ?_
  refine ev_putfield (pc' := 5) (pX1_9 _) dX1_hold_2 rfl hSh rfl rfl (Nat.le_of_ble_eq_true rfl) ?_
  refine ev_aload_n (pc' := 6) dX1_hold_5 rfl rfl ?_
  refine ev_iconst (pc' := 7) (iI (0)) dX1_hold_6 rfl (by decide) ?_
  refine ev_putfield (pc' := 10) (pX1_15 _) dX1_hold_7 rfl (ev_gs hSh) rfl rfl (Nat.le_of_ble_eq_true rfl) ?_
  exact ev_vret dX1_hold_10
theorem e1_holdR {a e t : Nat} {v : Value} {r s z : Int} (hSh : h[a]? = some (cSh v r s z e)) : Ev l 0 yX1_hold.cls yX1_hold.name cX1_hold 2 none 0 [some (.ref a), some (.ref t)] [] h none (h.set a (cSh (.ref t) 0 s z e)) := by
  refine ev_vw rfl (show (h.set a (cSh (.ref t) r s z e)).set a (cSh (.ref t) 0 s z e) = h.set a (cSh (.ref t) 0 s z e) from List.set_set ..) ?_
  refine ev_aload_n (pc' := 1) dX1_hold_0 rfl rfl ?_
  refine ev_aload_n (pc' := 2) dX1_hold_1 rfl rfl ?_
  refine ev_putfield (pc' := 5) (pX1_9 _) dX1_hold_2 rfl hSh rfl rfl (Nat.le_of_ble_eq_true rfl) ?_
  refine ev_aload_n (pc' := 6) dX1_hold_5 rfl rfl ?_
  refine ev_iconst (pc' := 7) (iI (0)) dX1_hold_6 rfl (by decide) ?_
  refine ev_putfield (pc' := 10) (pX1_15 _) dX1_hold_7 rfl (ev_gs hSh) rfl rfl (Nat.le_of_ble_eq_true rfl) ?_
  exact ev_vret dX1_hold_10
theorem vu_s {α : Type} (f : Nat → α) (k : Nat) (v : α) : va_up f k v k = v := by unfold va_up; rw [if_pos rfl]
theorem vu_n {α : Type} {f : Nat → α} {k j : Nat} {v : α} (h : j ≠ k) : va_up f k v j = f j := by unfold va_up; rw [if_neg h]
/-- a shelf's cell has changed: who, and whether a row -/
theorem SC.set {d : Nat} {v : Option Nat} (x : SC h A w) (hd : d < 8) (n0 : (A' 2 d ≠ 1 → v = none) ∧ (A' 2 d = 1 → ∃ t, v = some t)) (n2 : ∀ i : Nat, i ≠ d → A' 2 i = A 2 i) (n3 : A' 3 = A 3) (n4 : A' 4 = A 4) (n5 : A' 5 = A 5) : SC (h.set (18 + 2 * d) (cSh (va_rf v) (if A' 2 d = 2 then 1 else 0) (A 3 d) (A 4 d) (19 + 2 * d))) A' (va_up w d v) := by
  obtain ⟨x0, x1⟩ := x
  refine ⟨(set_ne (by omega)).trans x0, fun i hi => ?_⟩
  obtain ⟨a, b, c, e⟩ := x1 i hi
  rw [n3, n4, n5]
  by_cases q : i = d
  · subst q
    refine ⟨?_, b.eq (set_ne (by omega)), ?_⟩
    · rw [ev_gs a, vu_s]
    · rw [vu_s]; exact n0
  · rw [n2 i q]
    refine ⟨?_, b.eq (set_ne (by omega)), ?_⟩
    · rw [set_ne (by omega), vu_n q]; exact a
    · rw [vu_n q]; exact ⟨c, e⟩
theorem c_keep {q n k : Int} (x : CL h im A F F2 w) (hI : mI0 (A 0)) (hA : mSh A) (rq : -2147483648 ≤ q ∧ q < 2147483648) (rn : -2147483648 ≤ n ∧ n < 2147483648) (rk : -2147483648 ≤ k ∧ k < 2147483648) : Ex l 1 yX5_keep.cls yX5_keep.name cX5_keep 6 (some .int) 0 [some (.ref 0), some (.int (iI q)), some (.int (iI n)), some (.int (iI k)), none, none] [] h (clP h (if kpB A q n k then some (.int (iI 0)) else some (.int (iI (-1)))) im (if kpB A q n k then kpA A q n k else A)) := by
  obtain ⟨⟨i1, i2⟩, ⟨i3, i4⟩, i5, i6⟩ := id hI
  have hR := x.rc
  have hX0 := x.x0
  have hN := hR.nw
  obtain ⟨D, R, C, Q, X, hW, ⟨hD, eD⟩, ⟨hRu, eR⟩, ⟨hC, eC⟩, ⟨hQ, eQ⟩, ⟨hX, eX⟩, hF⟩ := CW.op hN
  have hS := x.sc
  by_cases hq : 0 ≤ q ∧ q < 8
  · obtain ⟨d, rfl⟩ : ∃ d : Nat, q = d := ⟨q.toNat, by omega⟩
    have hd : d < 8 := by omega
    obtain ⟨el, hSh, ⟨hel, eel⟩, hw1, hw2⟩ := SC.op hS hd
    by_cases hk : 0 ≤ k ∧ k < A 0 1
    · obtain ⟨t, ht, -⟩ := hR.2.2.2 k hk.1 hk.2
      refine ex_of (fun _ _ => ev_aload_n (pc' := 1) dX5_keep_0 rfl rfl) ?_
      refine ex_of (fun _ _ => ev_iload_n (pc' := 2) dX5_keep_1 rfl rfl) ?_
      refine ex_of (fun _ _ => ev_callV1 (pc' := 5) kX5_44 mX5_shelfOf dX5_keep_2 rfl rfl (Nat.le_of_ble_eq_true rfl) (Nat.le_of_ble_eq_true rfl) (by decide) rfl hX0 (e5_shelfOf hX0 hS hd)) ?_
      refine ex_of (fun _ _ => ev_astore_4 (pc' := 7) dX5_keep_5 rfl (by decide) rfl) ?_
      refine ex_of (fun _ _ => ev_aload (pc' := 9) dX5_keep_7 rfl rfl) ?_
      refine ex_of (fun _ _ => ev_ifnonnull (tgt := 14) dX5_keep_9 (by decide)) ?_
      refine ex_of (fun _ _ => ev_iload_n (pc' := 15) dX5_keep_14 rfl rfl) ?_
      refine ex_ifI_ne (pc' := 18) (tgt := 26) dX5_keep_15 (by decide) rfl (by omega) (fun c15 => ?_) (fun c15 => ?_)
      · refine ex_of (fun _ _ => ev_aload_n (pc' := 27) dX5_keep_26 rfl rfl) ?_
        refine ex_of (fun _ _ => ev_getfield (pc' := 30) fX5_12 dX5_keep_27 rfl hX0 rfl) ?_
        refine ex_of (fun _ _ => ev_iload_n (pc' := 31) dX5_keep_30 rfl rfl) ?_
        refine ex_of (fun _ _ => ev_callV1 (pc' := 34) kX5_137 mX4_travellerOf dX5_keep_31 rfl rfl (Nat.le_of_ble_eq_true rfl) (Nat.le_of_ble_eq_true rfl) (by decide) rfl hW (e4_travellerOf hN hI hk ht)) ?_
        refine ex_of (fun _ _ => ev_astore_5 (pc' := 36) dX5_keep_34 rfl (by decide) rfl) ?_
        refine ex_of (fun _ _ => ev_iload_n (pc' := 37) dX5_keep_36 rfl rfl) ?_
        refine ex_of (fun _ _ => ev_iconst (pc' := 38) (iI (1)) dX5_keep_37 rfl (by decide)) ?_
        refine ex_icmpI_ne (pc' := 41) (tgt := 46) dX5_keep_38 (by decide) rfl (by omega) (by omega) (fun c38 => ?_) (fun c38 => ?_)
        · refine ex_of (fun _ _ => ev_iconst (pc' := 47) (iI (-1)) dX5_keep_46 rfl (by decide)) ?_
          exact ex_end (ev_iret dX5_keep_47 rfl) (by rw [show kpB A _ n k = false from decide_eq_false (by omega)]; exact x.same)
        · refine ex_of (fun _ _ => ev_aload (pc' := 43) dX5_keep_41 rfl rfl) ?_
          refine ex_of (fun _ _ => ev_ifnonnull (tgt := 48) dX5_keep_43 (by decide)) ?_
          refine ex_of (fun _ _ => ev_aload (pc' := 50) dX5_keep_48 rfl rfl) ?_
          refine ex_of (fun _ _ => ev_aload (pc' := 52) dX5_keep_50 rfl rfl) ?_
          refine ex_of (fun _ _ => ev_callV1v (pc' := 55) kX5_274 mX1_hold dX5_keep_52 rfl rfl (Nat.le_of_ble_eq_true rfl) (Nat.le_of_ble_eq_true rfl) (by decide) rfl hSh (e1_holdR hSh)) ?_
          refine ex_of (fun _ _ => ev_iconst (pc' := 56) (iI (0)) dX5_keep_55 rfl (by decide)) ?_
          exact ex_end (ev_iret dX5_keep_56 rfl) (by
    rw [show kpB A (d : Int) n k = true from decide_eq_true (by omega)]
    have e2 : kpA A d n k 2 d = n := upI_s _ _ _
    have ec : (cSh (va_rf (some t)) (if kpA A d n k 2 d = 2 then 1 else 0) (A 3 d) (A 4 d) (19 + 2 * d)) = cSh (va_rf (some t)) 0 (A 3 d) (A 4 d) (19 + 2 * d) := by rw [e2, if_neg (by omega)]
    have hS2 := hS.set (A' := kpA A d n k) (v := (some t)) hd (by rw [e2]; exact ⟨fun y => absurd (by omega) y, fun _ => ⟨t, rfl⟩⟩) (fun i hi => upI_n (by omega)) rfl rfl rfl
    rw [ec] at hS2
    obtain ⟨-, -, -, -, cg, ct, cd, cw, -⟩ := id x
    have K := x.shf (A' := kpA A d n k) (h2 := h.set (18 + 2 * d) (cSh (va_rf (some t)) 0 (A 3 d) (A 4 d) (19 + 2 * d))) List.length_set (fun j hj => set_ne (by omega)) rfl rfl hS2 ?_
    · exact ⟨rfl, K.2, F, F2, _, K.1⟩
    · intro i hi hq2
      by_cases z : i = d
      · subst z
        refine ⟨t, by rw [vu_s], (cg.1 k t hk.1 hk.2 ht).mo (by rw [List.length_set]; omega), fun _ => ?_, fun y => ?_, fun j j1 => cd k j t hk.1 hk.2 j1 ht⟩
        · rw [show kpA A i n k 6 i = k from upI_s _ _ _]; exact ht
        · exact absurd (show kpA A i n k 8 i = 0 from upI_s _ _ _) y
      · obtain ⟨t', r1, r2, r3, r4, r5⟩ := cw i hi (by rw [← hq2]; exact (upI_n (by omega)).symm)
        have e8 : kpA A d n k 8 i = A 8 i := upI_n (by omega)
        have e6 : kpA A d n k 6 i = A 6 i := upI_n (by omega)
        rw [e8, e6]
        exact ⟨t', by rw [vu_n z]; exact r1, r2.mo (by rw [List.length_set]; omega), r3, fun y => ⟨(r4 y).1.eq (fun j j1 j2 => set_ne (by have := r2.1; omega)), (r4 y).2⟩, r5⟩)
      · refine ex_of (fun _ _ => ev_aload (pc' := 20) dX5_keep_18 rfl rfl) ?_
        refine ex_of (fun _ _ => ev_null (pc' := 21) dX5_keep_20 rfl) ?_
        refine ex_of (fun _ _ => ev_callV1v (pc' := 24) kX5_274 mX1_hold dX5_keep_21 rfl rfl (Nat.le_of_ble_eq_true rfl) (Nat.le_of_ble_eq_true rfl) (by decide) rfl hSh (e1_holdN (t := 0) hSh)) ?_
        refine ex_of (fun _ _ => ev_iconst (pc' := 25) (iI (0)) dX5_keep_24 rfl (by decide)) ?_
        exact ex_end (ev_iret dX5_keep_25 rfl) (by
    rw [show kpB A (d : Int) n k = true from decide_eq_true (by omega)]
    have e2 : kpA A d n k 2 d = n := upI_s _ _ _
    have ec : (cSh (va_rf none) (if kpA A d n k 2 d = 2 then 1 else 0) (A 3 d) (A 4 d) (19 + 2 * d)) = cSh (va_rf none) 0 (A 3 d) (A 4 d) (19 + 2 * d) := by rw [e2, if_neg (by omega)]
    have hS2 := hS.set (A' := kpA A d n k) (v := none) hd (by rw [e2]; exact ⟨fun _ => rfl, fun y => absurd y (by omega)⟩) (fun i hi => upI_n (by omega)) rfl rfl rfl
    rw [ec] at hS2
    obtain ⟨-, -, -, -, cg, ct, cd, cw, -⟩ := id x
    have K := x.shf (A' := kpA A d n k) (h2 := h.set (18 + 2 * d) (cSh (va_rf none) 0 (A 3 d) (A 4 d) (19 + 2 * d))) List.length_set (fun j hj => set_ne (by omega)) rfl rfl hS2 ?_
    · exact ⟨rfl, K.2, F, F2, _, K.1⟩
    · intro i hi hq2
      by_cases z : i = d
      · subst z
        rw [e2] at hq2; omega
      · obtain ⟨t', r1, r2, r3, r4, r5⟩ := cw i hi (by rw [← hq2]; exact (upI_n (by omega)).symm)
        have e8 : kpA A d n k 8 i = A 8 i := upI_n (by omega)
        have e6 : kpA A d n k 6 i = A 6 i := upI_n (by omega)
        rw [e8, e6]
        exact ⟨t', by rw [vu_n z]; exact r1, r2.mo (by rw [List.length_set]; omega), r3, fun y => ⟨(r4 y).1.eq (fun j j1 j2 => set_ne (by have := r2.1; omega)), (r4 y).2⟩, r5⟩)
    · skip
      refine ex_of (fun _ _ => ev_aload_n (pc' := 1) dX5_keep_0 rfl rfl) ?_
      refine ex_of (fun _ _ => ev_iload_n (pc' := 2) dX5_keep_1 rfl rfl) ?_
      refine ex_of (fun _ _ => ev_callV1 (pc' := 5) kX5_44 mX5_shelfOf dX5_keep_2 rfl rfl (Nat.le_of_ble_eq_true rfl) (Nat.le_of_ble_eq_true rfl) (by decide) rfl hX0 (e5_shelfOf hX0 hS hd)) ?_
      refine ex_of (fun _ _ => ev_astore_4 (pc' := 7) dX5_keep_5 rfl (by decide) rfl) ?_
      refine ex_of (fun _ _ => ev_aload (pc' := 9) dX5_keep_7 rfl rfl) ?_
      refine ex_of (fun _ _ => ev_ifnonnull (tgt := 14) dX5_keep_9 (by decide)) ?_
      refine ex_of (fun _ _ => ev_iload_n (pc' := 15) dX5_keep_14 rfl rfl) ?_
      refine ex_ifI_ne (pc' := 18) (tgt := 26) dX5_keep_15 (by decide) rfl (by omega) (fun c15 => ?_) (fun c15 => ?_)
      · refine ex_of (fun _ _ => ev_aload_n (pc' := 27) dX5_keep_26 rfl rfl) ?_
        refine ex_of (fun _ _ => ev_getfield (pc' := 30) fX5_12 dX5_keep_27 rfl hX0 rfl) ?_
        refine ex_of (fun _ _ => ev_iload_n (pc' := 31) dX5_keep_30 rfl rfl) ?_
        refine ex_of (fun _ _ => ev_callV1 (pc' := 34) kX5_137 mX4_travellerOf dX5_keep_31 rfl rfl (Nat.le_of_ble_eq_true rfl) (Nat.le_of_ble_eq_true rfl) (by decide) rfl hW (e4_travellerOf0 hN hI (by omega) hk)) ?_
        refine ex_of (fun _ _ => ev_astore_5N (pc' := 36) dX5_keep_34 rfl (by decide) rfl) ?_
        refine ex_of (fun _ _ => ev_iload_n (pc' := 37) dX5_keep_36 rfl rfl) ?_
        refine ex_of (fun _ _ => ev_iconst (pc' := 38) (iI (1)) dX5_keep_37 rfl (by decide)) ?_
        refine ex_icmpI_ne (pc' := 41) (tgt := 46) dX5_keep_38 (by decide) rfl (by omega) (by omega) (fun c38 => ?_) (fun c38 => ?_)
        · refine ex_of (fun _ _ => ev_iconst (pc' := 47) (iI (-1)) dX5_keep_46 rfl (by decide)) ?_
          exact ex_end (ev_iret dX5_keep_47 rfl) (by rw [show kpB A _ n k = false from decide_eq_false (by omega)]; exact x.same)
        · refine ex_of (fun _ _ => ev_aloadN (pc' := 43) dX5_keep_41 rfl rfl) ?_
          refine ex_of (fun _ _ => ev_ifnonnullN (pc' := 46) dX5_keep_43 rfl) ?_
          refine ex_of (fun _ _ => ev_iconst (pc' := 47) (iI (-1)) dX5_keep_46 rfl (by decide)) ?_
          exact ex_end (ev_iret dX5_keep_47 rfl) (by rw [show kpB A _ n k = false from decide_eq_false (by omega)]; exact x.same)
      · refine ex_of (fun _ _ => ev_aload (pc' := 20) dX5_keep_18 rfl rfl) ?_
        refine ex_of (fun _ _ => ev_null (pc' := 21) dX5_keep_20 rfl) ?_
        refine ex_of (fun _ _ => ev_callV1v (pc' := 24) kX5_274 mX1_hold dX5_keep_21 rfl rfl (Nat.le_of_ble_eq_true rfl) (Nat.le_of_ble_eq_true rfl) (by decide) rfl hSh (e1_holdN (t := 0) hSh)) ?_
        refine ex_of (fun _ _ => ev_iconst (pc' := 25) (iI (0)) dX5_keep_24 rfl (by decide)) ?_
        exact ex_end (ev_iret dX5_keep_25 rfl) (by
    rw [show kpB A (d : Int) n k = true from decide_eq_true (by omega)]
    have e2 : kpA A d n k 2 d = n := upI_s _ _ _
    have ec : (cSh (va_rf none) (if kpA A d n k 2 d = 2 then 1 else 0) (A 3 d) (A 4 d) (19 + 2 * d)) = cSh (va_rf none) 0 (A 3 d) (A 4 d) (19 + 2 * d) := by rw [e2, if_neg (by omega)]
    have hS2 := hS.set (A' := kpA A d n k) (v := none) hd (by rw [e2]; exact ⟨fun _ => rfl, fun y => absurd y (by omega)⟩) (fun i hi => upI_n (by omega)) rfl rfl rfl
    rw [ec] at hS2
    obtain ⟨-, -, -, -, cg, ct, cd, cw, -⟩ := id x
    have K := x.shf (A' := kpA A d n k) (h2 := h.set (18 + 2 * d) (cSh (va_rf none) 0 (A 3 d) (A 4 d) (19 + 2 * d))) List.length_set (fun j hj => set_ne (by omega)) rfl rfl hS2 ?_
    · exact ⟨rfl, K.2, F, F2, _, K.1⟩
    · intro i hi hq2
      by_cases z : i = d
      · subst z
        rw [e2] at hq2; omega
      · obtain ⟨t', r1, r2, r3, r4, r5⟩ := cw i hi (by rw [← hq2]; exact (upI_n (by omega)).symm)
        have e8 : kpA A d n k 8 i = A 8 i := upI_n (by omega)
        have e6 : kpA A d n k 6 i = A 6 i := upI_n (by omega)
        rw [e8, e6]
        exact ⟨t', by rw [vu_n z]; exact r1, r2.mo (by rw [List.length_set]; omega), r3, fun y => ⟨(r4 y).1.eq (fun j j1 j2 => set_ne (by have := r2.1; omega)), (r4 y).2⟩, r5⟩)
  · skip
    refine ex_of (fun _ _ => ev_aload_n (pc' := 1) dX5_keep_0 rfl rfl) ?_
    refine ex_of (fun _ _ => ev_iload_n (pc' := 2) dX5_keep_1 rfl rfl) ?_
    refine ex_of (fun _ _ => ev_callV1 (pc' := 5) kX5_44 mX5_shelfOf dX5_keep_2 rfl rfl (Nat.le_of_ble_eq_true rfl) (Nat.le_of_ble_eq_true rfl) (by decide) rfl hX0 (e5_shelfOf0 hq (by omega))) ?_
    refine ex_of (fun _ _ => ev_astore_4N (pc' := 7) dX5_keep_5 rfl (by decide) rfl) ?_
    refine ex_of (fun _ _ => ev_aloadN (pc' := 9) dX5_keep_7 rfl rfl) ?_
    refine ex_of (fun _ _ => ev_ifnonnullN (pc' := 12) dX5_keep_9 rfl) ?_
    refine ex_of (fun _ _ => ev_iconst (pc' := 13) (iI (-1)) dX5_keep_12 rfl (by decide)) ?_
    exact ex_end (ev_iret dX5_keep_13 rfl) (by rw [show kpB A _ n k = false from decide_eq_false (by omega)]; exact x.same)
end CQ
