section CA
variable {l : Launch} {d : Nat} {own nm : String} {cc : ByteArray} {nL : Nat} {ret : Option FieldType} {pc pc' : Nat} {lc : ev_L} {st : List Value} {h h' : ev_H} {v : Option Value}
theorem ev_iincW_4 {a0 a1 a2 a3 : Option Value} {r : ev_L} {x : Int} {n : Int} (hd : decode cc pc = .ok (.iinc 4 n, 6)) (hp : pc + 6 = pc') (hn : 4 < nL) (hq : ev_c1 a3 = true) (k : Ev l d own nm cc nL ret pc' (a0 :: a1 :: a2 :: a3 :: some (.int (iI (x + n))) :: r) st h v h') : Ev l d own nm cc nL ret pc (a0 :: a1 :: a2 :: a3 :: some (.int (iI x)) :: r) st h v h' := by
  subst hp
  rw [← iI_add] at k
  refine ev_loc (lc := a0 :: a1 :: a2 :: a3 :: some (.int (iI x)) :: r) (lc' := a0 :: a1 :: a2 :: a3 :: some (.int (iI x + Int32.ofInt n)) :: r) (fun o => o.sto (i := 4) (ok_int _ _) rfl) (fun p e R s m args below meth c H locs cells Q ls ad C hl w => ?_) k
  obtain ⟨kx, hk⟩ := List.getElem?_of_mem (ev_as_in (ad := ad) (a0 :: a1 :: a2 :: a3 :: some (.int (iI x)) :: r) 0 4 (.int (iI x)) rfl)
  rw [Nat.zero_add] at hk
  exact lv_iincW C.1 C.2.1 hd hl.has hk rfl hn rfl (fun ls' hl' => w ls' (ev_st1 (lc := a0 :: a1 :: a2 :: a3 :: some (.int (iI x)) :: r) (i := 4) (w := .int (iI x + Int32.ofInt n)) (ev_pvs (i := 3) rfl hq) hl'))
end CA
/-! the class's heap, by the reference's numbers -/
def agA (h : ev_H) (a n : Nat) (f : Int → Int) : Prop := ∃ D, h[a]? = some (mA n D) ∧ ∀ p : Int, 0 ≤ p → p < (n : Int) → D p = f p
/-- a world at b: S its numbers as the reference has them, F its travellers' tags -/
def CW (h : ev_H) (b : Nat) (S : Int → Int) (F : Nat → Option Nat) : Prop := h[b]? = some (cWo (S 0) (S 1) (S 2) (b + 1) (b + 2) (b + 3) (b + 4) (b + 5) (b + 6)) ∧ agA h (b + 1) 10 (fun p => S (3 + 4 * p + 0)) ∧ agA h (b + 2) 10 (fun p => S (3 + 4 * p + 1)) ∧ agA h (b + 3) 10 (fun p => S (3 + 4 * p + 2)) ∧ agA h (b + 4) 10 (fun p => S (3 + 4 * p + 3)) ∧ agA h (b + 5) 100 (fun x => S (43 + x)) ∧ h[b + 6]? = some (cRf 4 8 F)
abbrev NW (h : ev_H) (S : Int → Int) (F : Nat → Option Nat) : Prop := CW h 1 S F
/-- a traveller at t, U what the reference tells of it -/
def CT (h : ev_H) (t : Nat) (U : Int → Int) (nu : Int) : Prop := ∃ ea, ((0 ≤ ea ∧ ea < 64) ∧ ∀ i, 0 ≤ i → i < 6 → bitI ea i = U (4 + 4 * i + 1)) ∧ h[t]? = some (cTr nu (U 0) (U 1) (U 2) (U 3) ea (U 28) (t + 1) (t + 2) (t + 3) (t + 4) (t + 5)) ∧ agA h (t + 1) 6 (fun i => U (4 + 4 * i + 0)) ∧ agA h (t + 2) 6 (fun i => U (4 + 4 * i + 2)) ∧ agA h (t + 3) 6 (fun i => U (4 + 4 * i + 2) + 60 * U (4 + 4 * i + 3)) ∧ agA h (t + 4) 8 (fun i => U (29 + 2 * i)) ∧ agA h (t + 5) 8 (fun i => U (30 + 2 * i))
def win (S : Int → Int) (k : Int) : Int → Int := fun i => S (143 + 45 * k + i)
section CB
variable {l : Launch} {h : ev_H} {S : Int → Int} {F : Nat → Option Nat}
theorem e5_isMinute {t : Int} (rt : -2147483648 ≤ t ∧ t < 2147483648) : Ev l 0 yX5_isMinute.cls yX5_isMinute.name cX5_isMinute 1 (some .boolean) 0 [some (.int (iI t))] [] h (some (.int (b2i (decide (0 ≤ t ∧ t ≤ 19999))))) h := by
  refine ev_iload_n (pc' := 1) dX5_isMinute_0 rfl rfl ?_
  refine ev_ifI_lt (pc' := 4) (tgt := 15) dX5_isMinute_1 (by decide) rfl (by omega) (fun c1 => ?_) (fun c1 => ?_)
  · refine ev_iconst (pc' := 16) (iI (0)) dX5_isMinute_15 rfl (by decide) ?_
    exact ev_zreI dX5_isMinute_16 (by first | exact b2i_1 (by omega) | exact b2i_n (by omega))
  · refine ev_iload_n (pc' := 5) dX5_isMinute_4 rfl rfl ?_
    refine ev_sipush (pc' := 8) (iI (19999)) dX5_isMinute_5 rfl (by decide) ?_
    refine ev_icmpI_gt (pc' := 11) (tgt := 15) dX5_isMinute_8 (by decide) rfl (by omega) (by omega) (fun c8 => ?_) (fun c8 => ?_)
    · refine ev_iconst (pc' := 16) (iI (0)) dX5_isMinute_15 rfl (by decide) ?_
      exact ev_zreI dX5_isMinute_16 (by first | exact b2i_1 (by omega) | exact b2i_n (by omega))
    · refine ev_iconst (pc' := 12) (iI (1)) dX5_isMinute_11 rfl (by decide) ?_
      refine ev_goto (tgt := 16) dX5_isMinute_12 (by decide) ?_
      exact ev_zreI dX5_isMinute_16 (by first | exact b2i_1 (by omega) | exact b2i_n (by omega))
theorem e5_isDegree {t : Int} (rt : -2147483648 ≤ t ∧ t < 2147483648) : Ev l 0 yX5_isDegree.cls yX5_isDegree.name cX5_isDegree 1 (some .boolean) 0 [some (.int (iI t))] [] h (some (.int (b2i (decide (0 ≤ t ∧ t ≤ 359))))) h := by
  refine ev_iload_n (pc' := 1) dX5_isDegree_0 rfl rfl ?_
  refine ev_ifI_lt (pc' := 4) (tgt := 15) dX5_isDegree_1 (by decide) rfl (by omega) (fun c1 => ?_) (fun c1 => ?_)
  · refine ev_iconst (pc' := 16) (iI (0)) dX5_isDegree_15 rfl (by decide) ?_
    exact ev_zreI dX5_isDegree_16 (by first | exact b2i_1 (by omega) | exact b2i_n (by omega))
  · refine ev_iload_n (pc' := 5) dX5_isDegree_4 rfl rfl ?_
    refine ev_sipush (pc' := 8) (iI (360)) dX5_isDegree_5 rfl (by decide) ?_
    refine ev_icmpI_ge (pc' := 11) (tgt := 15) dX5_isDegree_8 (by decide) rfl (by omega) (by omega) (fun c8 => ?_) (fun c8 => ?_)
    · refine ev_iconst (pc' := 16) (iI (0)) dX5_isDegree_15 rfl (by decide) ?_
      exact ev_zreI dX5_isDegree_16 (by first | exact b2i_1 (by omega) | exact b2i_n (by omega))
    · refine ev_iconst (pc' := 12) (iI (1)) dX5_isDegree_11 rfl (by decide) ?_
      refine ev_goto (tgt := 16) dX5_isDegree_12 (by decide) ?_
      exact ev_zreI dX5_isDegree_16 (by first | exact b2i_1 (by omega) | exact b2i_n (by omega))
theorem e5_isKind {t : Int} (rt : -2147483648 ≤ t ∧ t < 2147483648) : Ev l 0 yX5_isKind.cls yX5_isKind.name cX5_isKind 1 (some .boolean) 0 [some (.int (iI t))] [] h (some (.int (b2i (decide (0 ≤ t ∧ t ≤ 7))))) h := by
  refine ev_iload_n (pc' := 1) dX5_isKind_0 rfl rfl ?_
  refine ev_ifI_lt (pc' := 4) (tgt := 14) dX5_isKind_1 (by decide) rfl (by omega) (fun c1 => ?_) (fun c1 => ?_)
  · refine ev_iconst (pc' := 15) (iI (0)) dX5_isKind_14 rfl (by decide) ?_
    exact ev_zreI dX5_isKind_15 (by first | exact b2i_1 (by omega) | exact b2i_n (by omega))
  · refine ev_iload_n (pc' := 5) dX5_isKind_4 rfl rfl ?_
    refine ev_bipush (pc' := 7) (iI (7)) dX5_isKind_5 rfl (by decide) ?_
    refine ev_icmpI_gt (pc' := 10) (tgt := 14) dX5_isKind_7 (by decide) rfl (by omega) (by omega) (fun c7 => ?_) (fun c7 => ?_)
    · refine ev_iconst (pc' := 15) (iI (0)) dX5_isKind_14 rfl (by decide) ?_
      exact ev_zreI dX5_isKind_15 (by first | exact b2i_1 (by omega) | exact b2i_n (by omega))
    · refine ev_iconst (pc' := 11) (iI (1)) dX5_isKind_10 rfl (by decide) ?_
      refine ev_goto (tgt := 15) dX5_isKind_11 (by decide) ?_
      exact ev_zreI dX5_isKind_15 (by first | exact b2i_1 (by omega) | exact b2i_n (by omega))
theorem e5_isRestDay {t : Int} (rt : -2147483648 ≤ t ∧ t < 2147483648) : Ev l 0 yX5_isRestDay.cls yX5_isRestDay.name cX5_isRestDay 1 (some .boolean) 0 [some (.int (iI t))] [] h (some (.int (b2i (decide (0 ≤ t ∧ t ≤ 6))))) h := by
  refine ev_iload_n (pc' := 1) dX5_isRestDay_0 rfl rfl ?_
  refine ev_ifI_lt (pc' := 4) (tgt := 14) dX5_isRestDay_1 (by decide) rfl (by omega) (fun c1 => ?_) (fun c1 => ?_)
  · refine ev_iconst (pc' := 15) (iI (0)) dX5_isRestDay_14 rfl (by decide) ?_
    exact ev_zreI dX5_isRestDay_15 (by first | exact b2i_1 (by omega) | exact b2i_n (by omega))
  · refine ev_iload_n (pc' := 5) dX5_isRestDay_4 rfl rfl ?_
    refine ev_bipush (pc' := 7) (iI (6)) dX5_isRestDay_5 rfl (by decide) ?_
    refine ev_icmpI_gt (pc' := 10) (tgt := 14) dX5_isRestDay_7 (by decide) rfl (by omega) (by omega) (fun c7 => ?_) (fun c7 => ?_)
    · refine ev_iconst (pc' := 15) (iI (0)) dX5_isRestDay_14 rfl (by decide) ?_
      exact ev_zreI dX5_isRestDay_15 (by first | exact b2i_1 (by omega) | exact b2i_n (by omega))
    · refine ev_iconst (pc' := 11) (iI (1)) dX5_isRestDay_10 rfl (by decide) ?_
      refine ev_goto (tgt := 15) dX5_isRestDay_11 (by decide) ?_
      exact ev_zreI dX5_isRestDay_15 (by first | exact b2i_1 (by omega) | exact b2i_n (by omega))
theorem e5_minuteOrNone {t : Int} (rt : -2147483648 ≤ t ∧ t < 2147483648) : Ev l 0 yX5_minuteOrNone.cls yX5_minuteOrNone.name cX5_minuteOrNone 1 (some .int) 0 [some (.int (iI t))] [] h (some (.int (iI (if 19999 < t then -4 else t)))) h := by
  refine ev_iload_n (pc' := 1) dX5_minuteOrNone_0 rfl rfl ?_
  refine ev_sipush (pc' := 4) (iI (19999)) dX5_minuteOrNone_1 rfl (by decide) ?_
  refine ev_icmpI_le (pc' := 7) (tgt := 12) dX5_minuteOrNone_4 (by decide) rfl (by omega) (by omega) (fun c4 => ?_) (fun c4 => ?_)
  · refine ev_iload_n (pc' := 13) dX5_minuteOrNone_12 rfl rfl ?_
    exact ev_ireI dX5_minuteOrNone_13 (by (repeat (first | rw [if_pos (by omega)] | rw [if_neg (by omega)])))
  · refine ev_bipush (pc' := 9) (iI (-4)) dX5_minuteOrNone_7 rfl (by decide) ?_
    refine ev_goto (tgt := 13) dX5_minuteOrNone_9 (by decide) ?_
    exact ev_ireI dX5_minuteOrNone_13 (by (repeat (first | rw [if_pos (by omega)] | rw [if_neg (by omega)])))
theorem e4_hasPlace {p : Int} (hN : NW h S F) (hI : mI0 S) (rp : -2147483648 ≤ p ∧ p < 2147483648) : Ev l 0 yX4_hasPlace.cls yX4_hasPlace.name cX4_hasPlace 2 (some .boolean) 0 [some (.ref 1), some (.int (iI p))] [] h (some (.int (b2i (decide (0 ≤ p ∧ p < S 0))))) h := by
  obtain ⟨⟨i1, i2⟩, ⟨i3, i4⟩, i5, i6⟩ := id hI
  have hW := hN.1
  refine ev_iload_n (pc' := 1) dX4_hasPlace_0 rfl rfl ?_
  refine ev_ifI_lt (pc' := 4) (tgt := 16) dX4_hasPlace_1 (by decide) rfl (by omega) (fun c1 => ?_) (fun c1 => ?_)
  · refine ev_iconst (pc' := 17) (iI (0)) dX4_hasPlace_16 rfl (by decide) ?_
    exact ev_zreI dX4_hasPlace_17 (by first | exact b2i_1 (by omega) | exact b2i_n (by omega))
  · refine ev_iload_n (pc' := 5) dX4_hasPlace_4 rfl rfl ?_
    refine ev_aload_n (pc' := 6) dX4_hasPlace_5 rfl rfl ?_
    refine ev_getfield (pc' := 9) fX4_9 dX4_hasPlace_6 rfl hW rfl ?_
    refine ev_icmpI_ge (pc' := 12) (tgt := 16) dX4_hasPlace_9 (by decide) rfl (by omega) (by omega) (fun c9 => ?_) (fun c9 => ?_)
    · refine ev_iconst (pc' := 17) (iI (0)) dX4_hasPlace_16 rfl (by decide) ?_
      exact ev_zreI dX4_hasPlace_17 (by first | exact b2i_1 (by omega) | exact b2i_n (by omega))
    · refine ev_iconst (pc' := 13) (iI (1)) dX4_hasPlace_12 rfl (by decide) ?_
      refine ev_goto (tgt := 17) dX4_hasPlace_13 (by decide) ?_
      exact ev_zreI dX4_hasPlace_17 (by first | exact b2i_1 (by omega) | exact b2i_n (by omega))
theorem e4_travellerOf {k : Int} {t : Nat} (hN : NW h S F) (hI : mI0 S) (hk : 0 ≤ k ∧ k < S 1) (ht : F k.toNat = some t) : Ev l 0 yX4_travellerOf.cls yX4_travellerOf.name cX4_travellerOf 2 (some (.object "WhichDay$Traveller")) 0 [some (.ref 1), some (.int (iI k))] [] h (some (.ref t)) h := by
  obtain ⟨⟨i1, i2⟩, ⟨i3, i4⟩, i5, i6⟩ := id hI
  obtain ⟨hW, ⟨D, hD, eD⟩, ⟨R, hR, eR⟩, ⟨C, hC, eC⟩, ⟨Q, hQ, eQ⟩, ⟨X, hX, eX⟩, hF⟩ := id hN
  have eD : ∀ p : Int, 0 ≤ p → p < 10 → D p = S (3 + 4 * p + 0) := eD
  have eR : ∀ p : Int, 0 ≤ p → p < 10 → R p = S (3 + 4 * p + 1) := eR
  have eC : ∀ p : Int, 0 ≤ p → p < 10 → C p = S (3 + 4 * p + 2) := eC
  have eQ : ∀ p : Int, 0 ≤ p → p < 10 → Q p = S (3 + 4 * p + 3) := eQ
  have eX : ∀ p : Int, 0 ≤ p → p < 100 → X p = S (43 + p) := eX
  have ek : (iI k).toNatClampNeg = k.toNat := by have := iI_cl (e := k) (by omega); omega
  refine ev_iload_n (pc' := 1) dX4_travellerOf_0 rfl rfl ?_
  refine ev_ifI_lt (pc' := 4) (tgt := 21) dX4_travellerOf_1 (by decide) rfl (by omega) (fun c1 => ?_) (fun c1 => ?_)
  · omega
  · refine ev_iload_n (pc' := 5) dX4_travellerOf_4 rfl rfl ?_
    refine ev_aload_n (pc' := 6) dX4_travellerOf_5 rfl rfl ?_
    refine ev_getfield (pc' := 9) fX4_15 dX4_travellerOf_6 rfl hW rfl ?_
    refine ev_icmpI_ge (pc' := 12) (tgt := 21) dX4_travellerOf_9 (by decide) rfl (by omega) (by omega) (fun c9 => ?_) (fun c9 => ?_)
    · omega
    · refine ev_aload_n (pc' := 13) dX4_travellerOf_12 rfl rfl ?_
      refine ev_getfield (pc' := 16) fX4_39 dX4_travellerOf_13 rfl hW rfl ?_
      refine ev_iload_n (pc' := 17) dX4_travellerOf_16 rfl rfl ?_
      refine ev_aaload (pc' := 18) (Or.inr rfl) dX4_travellerOf_17 rfl hF (iI_in (by omega) (by decide)) ?_
      rw [ek, ht]
      refine ev_goto (tgt := 22) dX4_travellerOf_18 (by decide) ?_
      exact ev_aret dX4_travellerOf_22 (Or.inr ⟨_, rfl⟩)
theorem e4_travellerOf0 {k : Int} (hN : NW h S F) (hI : mI0 S) (rk : -2147483648 ≤ k ∧ k < 2147483648) (hk : ¬ (0 ≤ k ∧ k < S 1)) : Ev l 0 yX4_travellerOf.cls yX4_travellerOf.name cX4_travellerOf 2 (some (.object "WhichDay$Traveller")) 0 [some (.ref 1), some (.int (iI k))] [] h (some .null) h := by
  obtain ⟨⟨i1, i2⟩, ⟨i3, i4⟩, i5, i6⟩ := id hI
  obtain ⟨hW, ⟨D, hD, eD⟩, ⟨R, hR, eR⟩, ⟨C, hC, eC⟩, ⟨Q, hQ, eQ⟩, ⟨X, hX, eX⟩, hF⟩ := id hN
  have eD : ∀ p : Int, 0 ≤ p → p < 10 → D p = S (3 + 4 * p + 0) := eD
  have eR : ∀ p : Int, 0 ≤ p → p < 10 → R p = S (3 + 4 * p + 1) := eR
  have eC : ∀ p : Int, 0 ≤ p → p < 10 → C p = S (3 + 4 * p + 2) := eC
  have eQ : ∀ p : Int, 0 ≤ p → p < 10 → Q p = S (3 + 4 * p + 3) := eQ
  have eX : ∀ p : Int, 0 ≤ p → p < 100 → X p = S (43 + p) := eX
  refine ev_iload_n (pc' := 1) dX4_travellerOf_0 rfl rfl ?_
  refine ev_ifI_lt (pc' := 4) (tgt := 21) dX4_travellerOf_1 (by decide) rfl (by omega) (fun c1 => ?_) (fun c1 => ?_)
  · refine ev_null (pc' := 22) dX4_travellerOf_21 rfl ?_
    exact ev_aret dX4_travellerOf_22 (Or.inl rfl)
  · refine ev_iload_n (pc' := 5) dX4_travellerOf_4 rfl rfl ?_
    refine ev_aload_n (pc' := 6) dX4_travellerOf_5 rfl rfl ?_
    refine ev_getfield (pc' := 9) fX4_15 dX4_travellerOf_6 rfl hW rfl ?_
    refine ev_icmpI_ge (pc' := 12) (tgt := 21) dX4_travellerOf_9 (by decide) rfl (by omega) (by omega) (fun c9 => ?_) (fun c9 => ?_)
    · refine ev_null (pc' := 22) dX4_travellerOf_21 rfl ?_
      exact ev_aret dX4_travellerOf_22 (Or.inl rfl)
    · omega
theorem e4_degreeOf {p : Int} (hN : NW h S F) (hI : mI0 S) (hp : 0 ≤ p ∧ p < S 0) : Ev l 0 yX4_degreeOf.cls yX4_degreeOf.name cX4_degreeOf 2 (some .int) 0 [some (.ref 1), some (.int (iI p))] [] h (some (.int (iI (S (3 + 4 * p + 0))))) h := by
  obtain ⟨⟨i1, i2⟩, ⟨i3, i4⟩, i5, i6⟩ := id hI
  obtain ⟨hW, ⟨D, hD, eD⟩, ⟨R, hR, eR⟩, ⟨C, hC, eC⟩, ⟨Q, hQ, eQ⟩, ⟨X, hX, eX⟩, hF⟩ := id hN
  have eD : ∀ p : Int, 0 ≤ p → p < 10 → D p = S (3 + 4 * p + 0) := eD
  have eR : ∀ p : Int, 0 ≤ p → p < 10 → R p = S (3 + 4 * p + 1) := eR
  have eC : ∀ p : Int, 0 ≤ p → p < 10 → C p = S (3 + 4 * p + 2) := eC
  have eQ : ∀ p : Int, 0 ≤ p → p < 10 → Q p = S (3 + 4 * p + 3) := eQ
  have eX : ∀ p : Int, 0 ≤ p → p < 100 → X p = S (43 + p) := eX
  refine ev_iload_n (pc' := 1) dX4_degreeOf_0 rfl rfl ?_
  refine ev_ifI_lt (pc' := 4) (tgt := 21) dX4_degreeOf_1 (by decide) rfl (by omega) (fun c1 => ?_) (fun c1 => ?_)
  · omega
  · refine ev_iload_n (pc' := 5) dX4_degreeOf_4 rfl rfl ?_
    refine ev_aload_n (pc' := 6) dX4_degreeOf_5 rfl rfl ?_
    refine ev_getfield (pc' := 9) fX4_9 dX4_degreeOf_6 rfl hW rfl ?_
    refine ev_icmpI_ge (pc' := 12) (tgt := 21) dX4_degreeOf_9 (by decide) rfl (by omega) (by omega) (fun c9 => ?_) (fun c9 => ?_)
    · omega
    · refine ev_aload_n (pc' := 13) dX4_degreeOf_12 rfl rfl ?_
      refine ev_getfield (pc' := 16) fX4_21 dX4_degreeOf_13 rfl hW rfl ?_
      refine ev_iload_n (pc' := 17) dX4_degreeOf_16 rfl rfl ?_
      refine ev_ialoadI (pc' := 18) dX4_degreeOf_17 rfl hD (by decide) (by omega) ?_
      rw [eD _ (by omega) (by omega)]
      refine ev_goto (tgt := 22) dX4_degreeOf_18 (by decide) ?_
      exact ev_ireI dX4_degreeOf_22 (rfl)
theorem e4_sunMinutes {g t u : Int} (hg : 0 ≤ g ∧ g < 360) (ht : -100000 ≤ t ∧ t ≤ 100000) (hu : 0 ≤ u ∧ u < 360) : Ev l 1 yX4_sunMinutes.cls yX4_sunMinutes.name cX4_sunMinutes 4 (some .int) 0 [some (.int (iI g)), some (.int (iI t)), some (.int (iI u)), none] [] h (some (.int (iI (t + 4 * ((g - u) % 360) - 720)))) h := by
  refine ev_iload_n (pc' := 1) dX4_sunMinutes_0 rfl rfl ?_
  refine ev_iload_n (pc' := 2) dX4_sunMinutes_1 rfl rfl ?_
  refine ev_isubI (pc' := 3) dX4_sunMinutes_2 rfl ?_
  refine ev_sipush (pc' := 6) (iI (360)) dX4_sunMinutes_3 rfl (by decide) ?_
  refine ev_callS2 (pc' := 9) kX4_47 mJ9_floorMod_7cf53 dX4_sunMinutes_6 rfl rfl (Nat.le_of_ble_eq_true rfl) (Nat.le_of_ble_eq_true rfl) (by decide) (e_fmI (by omega) (by omega)) ?_
  refine ev_istore_3 (pc' := 10) dX4_sunMinutes_9 rfl (by decide) rfl ?_
  refine ev_iload_n (pc' := 11) dX4_sunMinutes_10 rfl rfl ?_
  refine ev_iconst (pc' := 12) (iI (4)) dX4_sunMinutes_11 rfl (by decide) ?_
  refine ev_iload_n (pc' := 13) dX4_sunMinutes_12 rfl rfl ?_
  refine ev_imulI (pc' := 14) dX4_sunMinutes_13 rfl ?_
  refine ev_iaddI (pc' := 15) dX4_sunMinutes_14 rfl ?_
  refine ev_sipush (pc' := 18) (iI (720)) dX4_sunMinutes_15 rfl (by decide) ?_
  refine ev_isubI (pc' := 19) dX4_sunMinutes_18 rfl ?_
  exact ev_ireI dX4_sunMinutes_19 (rfl)
/-- the day in a place with the line at u -/
def dPL (S : Int → Int) (u p t : Int) : Int := (t + 4 * ((S (3 + 4 * p + 0) - u) % 360) - 720 + rr (S (3 + 4 * p + 1))) / 1440 + S (3 + 4 * p + 2)
theorem dPL_S (S : Int → Int) (p t : Int) : dPL S (S 2) p t = dP S p t := by
  unfold dPL dP dAt eS
  congr 2
  omega
theorem dPL_u (S : Int → Int) (u p t : Int) : dP (upI S 2 u) p t = dPL S u p t := by
  rw [← dPL_S]
  unfold dPL
  rw [upI_s, upI_n (by omega), upI_n (by omega), upI_n (by omega)]
theorem e4_dayIn {p t u : Int} (hN : NW h S F) (hI : mI0 S) (hJ : mIP S) (hp : 0 ≤ p ∧ p < S 0) (ht : -100000 ≤ t ∧ t ≤ 100000) (hu : 0 ≤ u ∧ u < 360) : Ev l 2 yX4_dayIn.cls yX4_dayIn.name cX4_dayIn 5 (some .int) 0 [some (.ref 1), some (.int (iI p)), some (.int (iI t)), some (.int (iI u)), none] [] h (some (.int (iI (dPL S u p t)))) h := by
  obtain ⟨⟨i1, i2⟩, ⟨i3, i4⟩, i5, i6⟩ := id hI
  obtain ⟨hW, ⟨D, hD, eD⟩, ⟨R, hR, eR⟩, ⟨C, hC, eC⟩, ⟨Q, hQ, eQ⟩, ⟨X, hX, eX⟩, hF⟩ := id hN
  have eD : ∀ p : Int, 0 ≤ p → p < 10 → D p = S (3 + 4 * p + 0) := eD
  have eR : ∀ p : Int, 0 ≤ p → p < 10 → R p = S (3 + 4 * p + 1) := eR
  have eC : ∀ p : Int, 0 ≤ p → p < 10 → C p = S (3 + 4 * p + 2) := eC
  have eQ : ∀ p : Int, 0 ≤ p → p < 10 → Q p = S (3 + 4 * p + 3) := eQ
  have eX : ∀ p : Int, 0 ≤ p → p < 100 → X p = S (43 + p) := eX
  obtain ⟨j0, j1, j2, j3⟩ := hJ p hp.1 hp.2
  refine ev_aload_n (pc' := 1) dX4_dayIn_0 rfl rfl ?_
  refine ev_iload_n (pc' := 2) dX4_dayIn_1 rfl rfl ?_
  refine ev_callV1 (pc' := 5) kX4_43 mX4_hasPlace dX4_dayIn_2 rfl rfl (Nat.le_of_ble_eq_true rfl) (Nat.le_of_ble_eq_true rfl) (by decide) rfl hW (e4_hasPlace hN hI (by omega)) ?_
  refine ev_ifd_ne (pc' := 8) (tgt := 10) dX4_dayIn_5 (by decide) rfl (fun c5 => ?_) (fun c5 => ?_)
  · refine ev_aload_n (pc' := 11) dX4_dayIn_10 rfl rfl ?_
    refine ev_getfield (pc' := 14) fX4_21 dX4_dayIn_11 rfl hW rfl ?_
    refine ev_iload_n (pc' := 15) dX4_dayIn_14 rfl rfl ?_
    refine ev_ialoadI (pc' := 16) dX4_dayIn_15 rfl hD (by decide) (by omega) ?_
    rw [eD _ (by omega) (by omega)]
    refine ev_iload_n (pc' := 17) dX4_dayIn_16 rfl rfl ?_
    refine ev_iload_n (pc' := 18) dX4_dayIn_17 rfl rfl ?_
    refine ev_callS3 (pc' := 21) kX4_53 mX4_sunMinutes dX4_dayIn_18 rfl rfl (Nat.le_of_ble_eq_true rfl) (Nat.le_of_ble_eq_true rfl) (by decide) (e4_sunMinutes (by omega) (by omega) (by omega)) ?_
    refine ev_istore_4 (pc' := 23) dX4_dayIn_21 rfl (by decide) rfl ?_
    refine ev_aload_n (pc' := 24) dX4_dayIn_23 rfl rfl ?_
    refine ev_getfield (pc' := 27) fX4_25 dX4_dayIn_24 rfl hW rfl ?_
    refine ev_iload_n (pc' := 28) dX4_dayIn_27 rfl rfl ?_
    refine ev_ialoadI (pc' := 29) dX4_dayIn_28 rfl hR (by decide) (by omega) ?_
    rw [eR _ (by omega) (by omega)]
    refine ev_iconst (pc' := 30) (iI (1)) dX4_dayIn_29 rfl (by decide) ?_
    refine ev_icmpI_ne (pc' := 33) (tgt := 42) dX4_dayIn_30 (by decide) rfl (by omega) (by omega) (fun c30 => ?_) (fun c30 => ?_)
    · refine ev_aload_n (pc' := 43) dX4_dayIn_42 rfl rfl ?_
      refine ev_getfield (pc' := 46) fX4_25 dX4_dayIn_43 rfl hW rfl ?_
      refine ev_iload_n (pc' := 47) dX4_dayIn_46 rfl rfl ?_
      refine ev_ialoadI (pc' := 48) dX4_dayIn_47 rfl hR (by decide) (by omega) ?_
      rw [eR _ (by omega) (by omega)]
      refine ev_iconst (pc' := 49) (iI (2)) dX4_dayIn_48 rfl (by decide) ?_
      refine ev_icmpI_ne (pc' := 52) (tgt := 58) dX4_dayIn_49 (by decide) rfl (by omega) (by omega) (fun c49 => ?_) (fun c49 => ?_)
      · refine ev_iload (pc' := 60) dX4_dayIn_58 rfl rfl ?_
        refine ev_sipush (pc' := 63) (iI (1440)) dX4_dayIn_60 rfl (by decide) ?_
        refine ev_callS2 (pc' := 66) kX4_57 mJ9_floorDiv_7cf53 dX4_dayIn_63 rfl rfl (Nat.le_of_ble_eq_true rfl) (Nat.le_of_ble_eq_true rfl) (by decide) (e_fdI (by omega) (by omega)) ?_
        refine ev_aload_n (pc' := 67) dX4_dayIn_66 rfl rfl ?_
        refine ev_getfield (pc' := 70) fX4_28 dX4_dayIn_67 rfl hW rfl ?_
        refine ev_iload_n (pc' := 71) dX4_dayIn_70 rfl rfl ?_
        refine ev_ialoadI (pc' := 72) dX4_dayIn_71 rfl hC (by decide) (by omega) ?_
        rw [eC _ (by omega) (by omega)]
        refine ev_iaddI (pc' := 73) dX4_dayIn_72 rfl ?_
        exact ev_ireI dX4_dayIn_73 (by unfold dPL rr; (repeat (first | rw [if_pos (by omega)] | rw [if_neg (by omega)])); first | done | (congr 2; omega) | omega)
      · refine ev_iincW_4 (pc' := 58) dX4_dayIn_52 rfl (by decide) rfl ?_
        refine ev_iload (pc' := 60) dX4_dayIn_58 rfl rfl ?_
        refine ev_sipush (pc' := 63) (iI (1440)) dX4_dayIn_60 rfl (by decide) ?_
        refine ev_callS2 (pc' := 66) kX4_57 mJ9_floorDiv_7cf53 dX4_dayIn_63 rfl rfl (Nat.le_of_ble_eq_true rfl) (Nat.le_of_ble_eq_true rfl) (by decide) (e_fdI (by omega) (by omega)) ?_
        refine ev_aload_n (pc' := 67) dX4_dayIn_66 rfl rfl ?_
        refine ev_getfield (pc' := 70) fX4_28 dX4_dayIn_67 rfl hW rfl ?_
        refine ev_iload_n (pc' := 71) dX4_dayIn_70 rfl rfl ?_
        refine ev_ialoadI (pc' := 72) dX4_dayIn_71 rfl hC (by decide) (by omega) ?_
        rw [eC _ (by omega) (by omega)]
        refine ev_iaddI (pc' := 73) dX4_dayIn_72 rfl ?_
        exact ev_ireI dX4_dayIn_73 (by unfold dPL rr; (repeat (first | rw [if_pos (by omega)] | rw [if_neg (by omega)])); first | done | (congr 2; omega) | omega)
    · refine ev_iincW_4 (pc' := 39) dX4_dayIn_33 rfl (by decide) rfl ?_
      refine ev_goto (tgt := 58) dX4_dayIn_39 (by decide) ?_
      refine ev_iload (pc' := 60) dX4_dayIn_58 rfl rfl ?_
      refine ev_sipush (pc' := 63) (iI (1440)) dX4_dayIn_60 rfl (by decide) ?_
      refine ev_callS2 (pc' := 66) kX4_57 mJ9_floorDiv_7cf53 dX4_dayIn_63 rfl rfl (Nat.le_of_ble_eq_true rfl) (Nat.le_of_ble_eq_true rfl) (by decide) (e_fdI (by omega) (by omega)) ?_
      refine ev_aload_n (pc' := 67) dX4_dayIn_66 rfl rfl ?_
      refine ev_getfield (pc' := 70) fX4_28 dX4_dayIn_67 rfl hW rfl ?_
      refine ev_iload_n (pc' := 71) dX4_dayIn_70 rfl rfl ?_
      refine ev_ialoadI (pc' := 72) dX4_dayIn_71 rfl hC (by decide) (by omega) ?_
      rw [eC _ (by omega) (by omega)]
      refine ev_iaddI (pc' := 73) dX4_dayIn_72 rfl ?_
      exact ev_ireI dX4_dayIn_73 (by unfold dPL rr; (repeat (first | rw [if_pos (by omega)] | rw [if_neg (by omega)])); first | done | (congr 2; omega) | omega)
  · omega
theorem e4_degreesOf {a b : Int} {e : Bool} (hN : NW h S F) (hI : mI0 S) (hJ : mIP S) (ha : 0 ≤ a ∧ a < S 0) (hb : 0 ≤ b ∧ b < S 0) : Ev l 1 yX4_degreesOf.cls yX4_degreesOf.name cX4_degreesOf 5 (some .int) 0 [some (.ref 1), some (.int (iI a)), some (.int (iI b)), some (.int (b2i e)), none] [] h (some (.int (iI (sgn S e a b)))) h := by
  obtain ⟨⟨i1, i2⟩, ⟨i3, i4⟩, i5, i6⟩ := id hI
  obtain ⟨hW, ⟨D, hD, eD⟩, ⟨R, hR, eR⟩, ⟨C, hC, eC⟩, ⟨Q, hQ, eQ⟩, ⟨X, hX, eX⟩, hF⟩ := id hN
  have eD : ∀ p : Int, 0 ≤ p → p < 10 → D p = S (3 + 4 * p + 0) := eD
  have eR : ∀ p : Int, 0 ≤ p → p < 10 → R p = S (3 + 4 * p + 1) := eR
  have eC : ∀ p : Int, 0 ≤ p → p < 10 → C p = S (3 + 4 * p + 2) := eC
  have eQ : ∀ p : Int, 0 ≤ p → p < 10 → Q p = S (3 + 4 * p + 3) := eQ
  have eX : ∀ p : Int, 0 ≤ p → p < 100 → X p = S (43 + p) := eX
  obtain ⟨j0, -⟩ := hJ a ha.1 ha.2
  obtain ⟨k0, -⟩ := hJ b hb.1 hb.2
  cases e
  · rw [show b2i false = iI 0 from rfl]
    refine ev_aload_n (pc' := 1) dX4_degreesOf_0 rfl rfl ?_
    refine ev_iload_n (pc' := 2) dX4_degreesOf_1 rfl rfl ?_
    refine ev_callV1 (pc' := 5) kX4_66 mX4_degreeOf dX4_degreesOf_2 rfl rfl (Nat.le_of_ble_eq_true rfl) (Nat.le_of_ble_eq_true rfl) (by decide) rfl hW (e4_degreeOf hN hI (by omega)) ?_
    refine ev_aload_n (pc' := 6) dX4_degreesOf_5 rfl rfl ?_
    refine ev_iload_n (pc' := 7) dX4_degreesOf_6 rfl rfl ?_
    refine ev_callV1 (pc' := 10) kX4_66 mX4_degreeOf dX4_degreesOf_7 rfl rfl (Nat.le_of_ble_eq_true rfl) (Nat.le_of_ble_eq_true rfl) (by decide) rfl hW (e4_degreeOf hN hI (by omega)) ?_
    refine ev_isubI (pc' := 11) dX4_degreesOf_10 rfl ?_
    refine ev_istore_4 (pc' := 13) dX4_degreesOf_11 rfl (by decide) rfl ?_
    refine ev_iload_n (pc' := 14) dX4_degreesOf_13 rfl rfl ?_
    refine ev_ifI_eq (pc' := 17) (tgt := 28) dX4_degreesOf_14 (by decide) rfl (by omega) (fun c14 => ?_) (fun c14 => ?_)
    · refine ev_iload (pc' := 30) dX4_degreesOf_28 rfl rfl ?_
      refine ev_inegI (pc' := 31) dX4_degreesOf_30 rfl ?_
      refine ev_sipush (pc' := 34) (iI (360)) dX4_degreesOf_31 rfl (by decide) ?_
      refine ev_callS2 (pc' := 37) kX4_47 mJ9_floorMod_7cf53 dX4_degreesOf_34 rfl rfl (Nat.le_of_ble_eq_true rfl) (Nat.le_of_ble_eq_true rfl) (by decide) (e_fmI (by omega) (by omega)) ?_
      refine ev_inegI (pc' := 38) dX4_degreesOf_37 rfl ?_
      exact ev_ireI dX4_degreesOf_38 (by unfold sgn; rw [if_neg (by decide)]; congr 2; omega)
    · omega
  · rw [show b2i true = iI 1 from rfl]
    refine ev_aload_n (pc' := 1) dX4_degreesOf_0 rfl rfl ?_
    refine ev_iload_n (pc' := 2) dX4_degreesOf_1 rfl rfl ?_
    refine ev_callV1 (pc' := 5) kX4_66 mX4_degreeOf dX4_degreesOf_2 rfl rfl (Nat.le_of_ble_eq_true rfl) (Nat.le_of_ble_eq_true rfl) (by decide) rfl hW (e4_degreeOf hN hI (by omega)) ?_
    refine ev_aload_n (pc' := 6) dX4_degreesOf_5 rfl rfl ?_
    refine ev_iload_n (pc' := 7) dX4_degreesOf_6 rfl rfl ?_
    refine ev_callV1 (pc' := 10) kX4_66 mX4_degreeOf dX4_degreesOf_7 rfl rfl (Nat.le_of_ble_eq_true rfl) (Nat.le_of_ble_eq_true rfl) (by decide) rfl hW (e4_degreeOf hN hI (by omega)) ?_
    refine ev_isubI (pc' := 11) dX4_degreesOf_10 rfl ?_
    refine ev_istore_4 (pc' := 13) dX4_degreesOf_11 rfl (by decide) rfl ?_
    refine ev_iload_n (pc' := 14) dX4_degreesOf_13 rfl rfl ?_
    refine ev_ifI_eq (pc' := 17) (tgt := 28) dX4_degreesOf_14 (by decide) rfl (by omega) (fun c14 => ?_) (fun c14 => ?_)
    · omega
    · refine ev_iload (pc' := 19) dX4_degreesOf_17 rfl rfl ?_
      refine ev_sipush (pc' := 22) (iI (360)) dX4_degreesOf_19 rfl (by decide) ?_
      refine ev_callS2 (pc' := 25) kX4_47 mJ9_floorMod_7cf53 dX4_degreesOf_22 rfl rfl (Nat.le_of_ble_eq_true rfl) (Nat.le_of_ble_eq_true rfl) (by decide) (e_fmI (by omega) (by omega)) ?_
      refine ev_goto (tgt := 38) dX4_degreesOf_25 (by decide) ?_
      exact ev_ireI dX4_degreesOf_38 (by unfold sgn; rw [if_pos rfl])
theorem e2_isUnderWay {pl le ca go ea be : Int} {a : Nat} (hSp : h[a]? = some (cSp pl le ca go ea be)) (rp : -4 ≤ pl ∧ pl < 1000) : Ev l 0 yX2_isUnderWay.cls yX2_isUnderWay.name cX2_isUnderWay 1 (some .boolean) 0 [some (.ref a)] [] h (some (.int (b2i (decide (pl < -3))))) h := by
  refine ev_aload_n (pc' := 1) dX2_isUnderWay_0 rfl rfl ?_
  refine ev_getfield (pc' := 4) fX2_9 dX2_isUnderWay_1 rfl hSp rfl ?_
  refine ev_bipush (pc' := 6) (iI (-4)) dX2_isUnderWay_4 rfl (by decide) ?_
  refine ev_icmpI_ne (pc' := 9) (tgt := 13) dX2_isUnderWay_6 (by decide) rfl (by omega) (by omega) (fun c6 => ?_) (fun c6 => ?_)
  · refine ev_iconst (pc' := 14) (iI (0)) dX2_isUnderWay_13 rfl (by decide) ?_
    exact ev_zreI dX2_isUnderWay_14 (by first | exact b2i_1 (by omega) | exact b2i_n (by omega))
  · refine ev_iconst (pc' := 10) (iI (1)) dX2_isUnderWay_9 rfl (by decide) ?_
    refine ev_goto (tgt := 14) dX2_isUnderWay_10 (by decide) ?_
    exact ev_zreI dX2_isUnderWay_14 (by first | exact b2i_1 (by omega) | exact b2i_n (by omega))
theorem e2_roundsDone {pl le ca go ea be : Int} {a : Nat} (hSp : h[a]? = some (cSp pl le ca go ea be)) (bea : -1000000000 ≤ ea ∧ ea ≤ 1000000000) (bbe : 0 < be ∧ be ≤ 12000) : Ev l 1 yX2_roundsDone.cls yX2_roundsDone.name cX2_roundsDone 1 (some .int) 0 [some (.ref a)] [] h (some (.int (iI (ea / (360 * be))))) h := by
  refine ev_aload_n (pc' := 1) dX2_roundsDone_0 rfl rfl ?_
  refine ev_getfield (pc' := 4) fX2_25 dX2_roundsDone_1 rfl hSp rfl ?_
  refine ev_ldc2I (pc' := 7) (360) nX2_31 dX2_roundsDone_4 rfl (by decide) ?_
  refine ev_aload_n (pc' := 8) dX2_roundsDone_7 rfl rfl ?_
  refine ev_getfield (pc' := 11) fX2_28 dX2_roundsDone_8 rfl hSp rfl ?_
  refine ev_lmulI (pc' := 12) dX2_roundsDone_11 rfl ?_
  refine ev_callS2 (pc' := 15) kX2_33 mJ9_floorDiv_f86c9 dX2_roundsDone_12 rfl rfl (Nat.le_of_ble_eq_true rfl) (Nat.le_of_ble_eq_true rfl) (by decide) (e_fdJ (by omega) (by omega)) ?_
  refine ev_l2iI (pc' := 16) dX2_roundsDone_15 rfl ?_
  exact ev_ireI dX2_roundsDone_16 (rfl)
theorem mul_bs {m b : Int} (hm : -200000 ≤ m ∧ m ≤ 200000) (hb : 0 < b ∧ b ≤ 12000) : -2400000000 ≤ m * b ∧ m * b ≤ 2400000000 := by
  have h1 : m * b ≤ 200000 * b := Int.mul_le_mul_of_nonneg_right hm.2 (by omega)
  have h2 : -200000 * b ≤ m * b := Int.mul_le_mul_of_nonneg_right hm.1 (by omega)
  omega
theorem e2_daysGone {m : Int} {pl le ca go ea be : Int} {a : Nat} (hSp : h[a]? = some (cSp pl le ca go ea be)) (bea : -1000000000 ≤ ea ∧ ea ≤ 1000000000) (bbe : 0 < be ∧ be ≤ 12000) (hm : -200000 ≤ m ∧ m ≤ 200000) : Ev l 1 yX2_daysGone.cls yX2_daysGone.name cX2_daysGone 2 (some .int) 0 [some (.ref a), some (.int (iI m))] [] h (some (.int (iI ((m * be + 4 * ea) / (1440 * be))))) h := by
  have mb := mul_bs hm bbe
  refine ev_iload_n (pc' := 1) dX2_daysGone_0 rfl rfl ?_
  refine ev_i2lI (pc' := 2) dX2_daysGone_1 rfl (by omega) ?_
  refine ev_aload_n (pc' := 3) dX2_daysGone_2 rfl rfl ?_
  refine ev_getfield (pc' := 6) fX2_28 dX2_daysGone_3 rfl hSp rfl ?_
  refine ev_lmulI (pc' := 7) dX2_daysGone_6 rfl ?_
  refine ev_ldc2I (pc' := 10) (4) nX2_47 dX2_daysGone_7 rfl (by decide) ?_
  refine ev_aload_n (pc' := 11) dX2_daysGone_10 rfl rfl ?_
  refine ev_getfield (pc' := 14) fX2_25 dX2_daysGone_11 rfl hSp rfl ?_
  refine ev_lmulI (pc' := 15) dX2_daysGone_14 rfl ?_
  refine ev_laddI (pc' := 16) dX2_daysGone_15 rfl ?_
  refine ev_ldc2I (pc' := 19) (1440) nX2_49 dX2_daysGone_16 rfl (by decide) ?_
  refine ev_aload_n (pc' := 20) dX2_daysGone_19 rfl rfl ?_
  refine ev_getfield (pc' := 23) fX2_28 dX2_daysGone_20 rfl hSp rfl ?_
  refine ev_lmulI (pc' := 24) dX2_daysGone_23 rfl ?_
  refine ev_callS2 (pc' := 27) kX2_33 mJ9_floorDiv_f86c9 dX2_daysGone_24 rfl rfl (Nat.le_of_ble_eq_true rfl) (Nat.le_of_ble_eq_true rfl) (by decide) (e_fdJ (by omega) (by omega)) ?_
  refine ev_l2iI (pc' := 28) dX2_daysGone_27 rfl ?_
  exact ev_ireI dX2_daysGone_28 (rfl)
theorem rnd_mid {x e b : Int} (hb : 0 < b) : (x + 4 * e) / (1440 * b) - e / (360 * b) = (x + 4 * (e % (360 * b))) / (1440 * b) := by
  have h1 : e % (360 * b) = e - (360 * b) * (e / (360 * b)) := Int.emod_def e (360 * b)
  have h2 : x + 4 * (e % (360 * b)) = (x + 4 * e) + (1440 * b) * (-(e / (360 * b))) := by
    rw [h1]
    have : 4 * (360 * b * (e / (360 * b))) = 1440 * b * (e / (360 * b)) := by rw [← Int.mul_assoc, ← Int.mul_assoc]; rfl
    rw [Int.mul_neg, Int.mul_sub]
    omega
  rw [h2, Int.add_mul_ediv_left _ _ (by omega)]
  omega
theorem e2_dayByMidnight {t : Int} {pl le ca go ea be : Int} {a : Nat} (hSp : h[a]? = some (cSp pl le ca go ea be)) (bea : -1000000000 ≤ ea ∧ ea ≤ 1000000000) (bbe : 0 < be ∧ be ≤ 12000) (ht : -100000 ≤ t ∧ t ≤ 100000) : Ev l 2 yX2_dayByMidnight.cls yX2_dayByMidnight.name cX2_dayByMidnight 2 (some .int) 0 [some (.ref a), some (.int (iI t))] [] h (some (.int (iI (dAt (ea % (360 * be)) be 0 t)))) h := by
  refine ev_aload_n (pc' := 1) dX2_dayByMidnight_0 rfl rfl ?_
  refine ev_iload_n (pc' := 2) dX2_dayByMidnight_1 rfl rfl ?_
  refine ev_sipush (pc' := 5) (iI (720)) dX2_dayByMidnight_2 rfl (by decide) ?_
  refine ev_isubI (pc' := 6) dX2_dayByMidnight_5 rfl ?_
  refine ev_callV1 (pc' := 9) kX2_39 mX2_daysGone dX2_dayByMidnight_6 rfl rfl (Nat.le_of_ble_eq_true rfl) (Nat.le_of_ble_eq_true rfl) (by decide) rfl hSp (e2_daysGone hSp bea bbe (by omega)) ?_
  refine ev_aload_n (pc' := 10) dX2_dayByMidnight_9 rfl rfl ?_
  refine ev_callV0 (pc' := 13) kX2_43 mX2_roundsDone dX2_dayByMidnight_10 rfl rfl (Nat.le_of_ble_eq_true rfl) (Nat.le_of_ble_eq_true rfl) (by decide) rfl hSp (e2_roundsDone hSp bea bbe) ?_
  refine ev_isubI (pc' := 14) dX2_dayByMidnight_13 rfl ?_
  exact ev_ireI dX2_dayByMidnight_14 (by rw [rnd_mid bbe.1]; unfold dAt rr; rw [if_neg (by decide), if_neg (by decide), Int.add_zero])
theorem e2_daysSeen {t : Int} {pl le ca go ea be : Int} {a : Nat} (hSp : h[a]? = some (cSp pl le ca go ea be)) (bea : -1000000000 ≤ ea ∧ ea ≤ 1000000000) (bbe : 0 < be ∧ be ≤ 12000) (ht : -100000 ≤ t ∧ t ≤ 100000) : Ev l 2 yX2_daysSeen.cls yX2_daysSeen.name cX2_daysSeen 2 (some .int) 0 [some (.ref a), some (.int (iI t))] [] h (some (.int (iI (dAt ea be 1 t)))) h := by
  refine ev_aload_n (pc' := 1) dX2_daysSeen_0 rfl rfl ?_
  refine ev_iload_n (pc' := 2) dX2_daysSeen_1 rfl rfl ?_
  refine ev_sipush (pc' := 5) (iI (720)) dX2_daysSeen_2 rfl (by decide) ?_
  refine ev_isubI (pc' := 6) dX2_daysSeen_5 rfl ?_
  refine ev_sipush (pc' := 9) (iI (360)) dX2_daysSeen_6 rfl (by decide) ?_
  refine ev_iaddI (pc' := 10) dX2_daysSeen_9 rfl ?_
  refine ev_callV1 (pc' := 13) kX2_39 mX2_daysGone dX2_daysSeen_10 rfl rfl (Nat.le_of_ble_eq_true rfl) (Nat.le_of_ble_eq_true rfl) (by decide) rfl hSp (e2_daysGone hSp bea bbe (by omega)) ?_
  exact ev_ireI dX2_daysSeen_13 (by unfold dAt rr; rw [if_pos rfl])
end CB
