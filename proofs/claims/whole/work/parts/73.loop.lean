section DN
variable {p : Program} {l : Launch} {e : Env} {s : State} {m : MethodId} {below : List Frame} {meth : Method} {c : Code} {H : Heap} {locs : List Loc} {cells : Nat} {ls : Array Slot} {D : va_G} {aC ad : Nat → Nat} {h : ev_H} {b L i : Nat} {xs : Nat → Int32}
theorem ofNat_iI (n : Nat) : Int32.ofNat n = iI (n : Int) := by unfold iI; exact (Int32.ofInt_eq_ofNat (n := n)).symm
set_option maxHeartbeats 4000000 in
/-- the law's switch: each case keeps the head of the loop -/
theorem law_sw (X : LX p s m meth c b L xs) (hXS : XS s) (hZ : XZ (fun q => s.heap.size ≤ q) s s.heap) (hst : l.stackTraces = false) (hi : i + 6 ≤ L) (hc : cells ≤ 5000) (S : LSt D aC s b i H locs ls h) (y : Int32) (kk : ∀ (H1 : Heap) (locs1 : List Loc) (ls1 : Array Slot) (h1 : ev_H) (cells1 : Nat), LSt D aC s b i H1 locs1 ls1 h1 → cells1 ≤ cells + 50 → W p l e room_1 s m #[Value.ref b] below meth c H1 locs1 cells1 (1000 * cells1) (lw_Z below #[Value.ref b] s) (F0 m 1923 ls1 [])) : W p l e room_1 s m #[Value.ref b] below meth c H locs cells (1000 * cells) (lw_Z below #[Value.ref b] s) (F0 m 40 ls [.int y]) := by
  have C := X.1
  by_cases hz : y.toInt < 0 ∨ 39 < y.toInt
  · exact lv_tableOut (tgt := 1923) C.1 C.2.1 dL_law_40 hz (by decide) (kk _ _ _ _ _ S (by omega))
  · have hz1 : ¬ y.toInt < 0 := fun q => hz (Or.inl q)
    have hz2 : ¬ 39 < y.toInt := fun q => hz (Or.inr q)
    by_cases k0 : y.toInt = 0
    · exact lv_tableIn (off := 176) (tgt := 216) C.1 C.2.1 dL_law_40 hz1 hz2 (by rw [k0]; decide) (by decide) (law_c0 X hi hc S kk)
    by_cases k1 : y.toInt = 1
    · exact lv_tableIn (off := 201) (tgt := 241) C.1 C.2.1 dL_law_40 hz1 hz2 (by rw [k1]; decide) (by decide) (law_c1 X hi hc S kk)
    by_cases k2 : y.toInt = 2
    · exact lv_tableIn (off := 238) (tgt := 278) C.1 C.2.1 dL_law_40 hz1 hz2 (by rw [k2]; decide) (by decide) (law_c2 X hi hc S kk)
    by_cases k3 : y.toInt = 3
    · exact lv_tableIn (off := 275) (tgt := 315) C.1 C.2.1 dL_law_40 hz1 hz2 (by rw [k3]; decide) (by decide) (law_c3 X hi hc S kk)
    by_cases k4 : y.toInt = 4
    · exact lv_tableIn (off := 312) (tgt := 352) C.1 C.2.1 dL_law_40 hz1 hz2 (by rw [k4]; decide) (by decide) (law_c4 X hi hc S kk)
    by_cases k5 : y.toInt = 5
    · exact lv_tableIn (off := 337) (tgt := 377) C.1 C.2.1 dL_law_40 hz1 hz2 (by rw [k5]; decide) (by decide) (law_c5 X hi hc S kk)
    by_cases k6 : y.toInt = 6
    · exact lv_tableIn (off := 374) (tgt := 414) C.1 C.2.1 dL_law_40 hz1 hz2 (by rw [k6]; decide) (by decide) (law_c6 X hi hc S kk)
    by_cases k7 : y.toInt = 7
    · exact lv_tableIn (off := 411) (tgt := 451) C.1 C.2.1 dL_law_40 hz1 hz2 (by rw [k7]; decide) (by decide) (law_c7 X hi hc S kk)
    by_cases k8 : y.toInt = 8
    · exact lv_tableIn (off := 460) (tgt := 500) C.1 C.2.1 dL_law_40 hz1 hz2 (by rw [k8]; decide) (by decide) (law_c8 X hi hc S kk)
    by_cases k9 : y.toInt = 9
    · exact lv_tableIn (off := 549) (tgt := 589) C.1 C.2.1 dL_law_40 hz1 hz2 (by rw [k9]; decide) (by decide) (law_c9 X hi hc S kk)
    by_cases k10 : y.toInt = 10
    · exact lv_tableIn (off := 598) (tgt := 638) C.1 C.2.1 dL_law_40 hz1 hz2 (by rw [k10]; decide) (by decide) (law_c10 X hi hc S kk)
    by_cases k11 : y.toInt = 11
    · exact lv_tableIn (off := 648) (tgt := 688) C.1 C.2.1 dL_law_40 hz1 hz2 (by rw [k11]; decide) (by decide) (law_c11 X hi hc S kk)
    by_cases k12 : y.toInt = 12
    · exact lv_tableIn (off := 685) (tgt := 725) C.1 C.2.1 dL_law_40 hz1 hz2 (by rw [k12]; decide) (by decide) (law_c12 X hi hc S kk)
    by_cases k13 : y.toInt = 13
    · exact lv_tableIn (off := 722) (tgt := 762) C.1 C.2.1 dL_law_40 hz1 hz2 (by rw [k13]; decide) (by decide) (law_c13 X hi hc S kk)
    by_cases k14 : y.toInt = 14
    · exact lv_tableIn (off := 771) (tgt := 811) C.1 C.2.1 dL_law_40 hz1 hz2 (by rw [k14]; decide) (by decide) (law_c14 X hi hc S kk)
    by_cases k15 : y.toInt = 15
    · exact lv_tableIn (off := 820) (tgt := 860) C.1 C.2.1 dL_law_40 hz1 hz2 (by rw [k15]; decide) (by decide) (law_c15 X hi hc S kk)
    by_cases k16 : y.toInt = 16
    · exact lv_tableIn (off := 857) (tgt := 897) C.1 C.2.1 dL_law_40 hz1 hz2 (by rw [k16]; decide) (by decide) (law_c16 X hi hc S kk)
    by_cases k17 : y.toInt = 17
    · exact lv_tableIn (off := 894) (tgt := 934) C.1 C.2.1 dL_law_40 hz1 hz2 (by rw [k17]; decide) (by decide) (law_c17 X hi hc S kk)
    by_cases k18 : y.toInt = 18
    · exact lv_tableIn (off := 943) (tgt := 983) C.1 C.2.1 dL_law_40 hz1 hz2 (by rw [k18]; decide) (by decide) (law_c18 X hi hc S kk)
    by_cases k19 : y.toInt = 19
    · exact lv_tableIn (off := 992) (tgt := 1032) C.1 C.2.1 dL_law_40 hz1 hz2 (by rw [k19]; decide) (by decide) (law_c19 X hi hc S kk)
    by_cases k20 : y.toInt = 20
    · exact lv_tableIn (off := 1041) (tgt := 1081) C.1 C.2.1 dL_law_40 hz1 hz2 (by rw [k20]; decide) (by decide) (law_c20 X hi hc S kk)
    by_cases k21 : y.toInt = 21
    · exact lv_tableIn (off := 1090) (tgt := 1130) C.1 C.2.1 dL_law_40 hz1 hz2 (by rw [k21]; decide) (by decide) (law_c21 X hi hc S kk)
    by_cases k22 : y.toInt = 22
    · exact lv_tableIn (off := 1151) (tgt := 1191) C.1 C.2.1 dL_law_40 hz1 hz2 (by rw [k22]; decide) (by decide) (law_c22 X hi hc S kk)
    by_cases k23 : y.toInt = 23
    · exact lv_tableIn (off := 1188) (tgt := 1228) C.1 C.2.1 dL_law_40 hz1 hz2 (by rw [k23]; decide) (by decide) (law_c23 X hi hc S kk)
    by_cases k24 : y.toInt = 24
    · exact lv_tableIn (off := 1225) (tgt := 1265) C.1 C.2.1 dL_law_40 hz1 hz2 (by rw [k24]; decide) (by decide) (law_c24 X hi hc S kk)
    by_cases k25 : y.toInt = 25
    · exact lv_tableIn (off := 1262) (tgt := 1302) C.1 C.2.1 dL_law_40 hz1 hz2 (by rw [k25]; decide) (by decide) (law_c25 X hi hc S kk)
    by_cases k26 : y.toInt = 26
    · exact lv_tableIn (off := 1323) (tgt := 1363) C.1 C.2.1 dL_law_40 hz1 hz2 (by rw [k26]; decide) (by decide) (law_c26 X hi hc S kk)
    by_cases k27 : y.toInt = 27
    · exact lv_tableIn (off := 1372) (tgt := 1412) C.1 C.2.1 dL_law_40 hz1 hz2 (by rw [k27]; decide) (by decide) (law_c27 X hi hc S kk)
    by_cases k28 : y.toInt = 28
    · exact lv_tableIn (off := 1409) (tgt := 1449) C.1 C.2.1 dL_law_40 hz1 hz2 (by rw [k28]; decide) (by decide) (law_c28 X hi hc S kk)
    by_cases k29 : y.toInt = 29
    · exact lv_tableIn (off := 1446) (tgt := 1486) C.1 C.2.1 dL_law_40 hz1 hz2 (by rw [k29]; decide) (by decide) (law_c29 X hi hc S kk)
    by_cases k30 : y.toInt = 30
    · exact lv_tableIn (off := 1495) (tgt := 1535) C.1 C.2.1 dL_law_40 hz1 hz2 (by rw [k30]; decide) (by decide) (law_c30 X hi hc S kk)
    by_cases k31 : y.toInt = 31
    · exact lv_tableIn (off := 1508) (tgt := 1548) C.1 C.2.1 dL_law_40 hz1 hz2 (by rw [k31]; decide) (by decide) (law_c31 X hi hc S kk)
    by_cases k32 : y.toInt = 32
    · exact lv_tableIn (off := 1521) (tgt := 1561) C.1 C.2.1 dL_law_40 hz1 hz2 (by rw [k32]; decide) (by decide) (law_c32 X hi hc S kk)
    by_cases k33 : y.toInt = 33
    · exact lv_tableIn (off := 1546) (tgt := 1586) C.1 C.2.1 dL_law_40 hz1 hz2 (by rw [k33]; decide) (by decide) (law_c33 X hi hc S kk)
    by_cases k34 : y.toInt = 34
    · exact lv_tableIn (off := 1595) (tgt := 1635) C.1 C.2.1 dL_law_40 hz1 hz2 (by rw [k34]; decide) (by decide) (law_c34 X hi hc S kk)
    by_cases k35 : y.toInt = 35
    · exact lv_tableIn (off := 1644) (tgt := 1684) C.1 C.2.1 dL_law_40 hz1 hz2 (by rw [k35]; decide) (by decide) (law_c35 X hi hc S kk)
    by_cases k36 : y.toInt = 36
    · exact lv_tableIn (off := 1693) (tgt := 1733) C.1 C.2.1 dL_law_40 hz1 hz2 (by rw [k36]; decide) (by decide) (law_c36 X hXS hZ hst hi hc S kk)
    by_cases k37 : y.toInt = 37
    · exact lv_tableIn (off := 1760) (tgt := 1800) C.1 C.2.1 dL_law_40 hz1 hz2 (by rw [k37]; decide) (by decide) (law_c37 X hi hc S kk)
    by_cases k38 : y.toInt = 38
    · exact lv_tableIn (off := 1833) (tgt := 1873) C.1 C.2.1 dL_law_40 hz1 hz2 (by rw [k38]; decide) (by decide) (law_c38 X hi hc S kk)
    have k39 : y.toInt = 39 := by omega
    exact lv_tableIn (off := 1858) (tgt := 1898) C.1 C.2.1 dL_law_40 hz1 hz2 (by rw [k39]; decide) (by decide) (law_c39 X hXS hZ hst hi hc S kk)
theorem law_loop (X : LX p s m meth c b L xs) (hXS : XS s) (hZ : XZ (fun q => s.heap.size ≤ q) s s.heap) (hst : l.stackTraces = false) : ∀ (n i cells : Nat) (H : Heap) (locs : List Loc) (ls : Array Slot) (h : ev_H), L ≤ i + 6 * n + 5 → i ≤ L + 6 → cells + 50 * n ≤ 4900 → LSt D aC s b i H locs ls h → W p l e room_1 s m #[Value.ref b] below meth c H locs cells (1000 * cells) (lw_Z below #[Value.ref b] s) (F0 m 23 ls []) := by
  obtain ⟨C, hX, hbl, hL⟩ := id X
  have hbA : ¬ (fun q : Nat => s.heap.size ≤ q) b := Nat.not_le.mpr hbl
  intro n
  induction n with
  | zero =>
    intro i cells H locs ls h h1 h2 h3 S
    obtain ⟨ad, Dd, hl, o, x⟩ := S
    refine lv_iload C.1 C.2.1 dL_law_23 (lv_at hl 4 rfl) ?_
    refine lv_aload_n C.1 C.2.1 dL_law_25 rfl (lv_at hl 0 rfl) ?_
    refine va_slen C.1 C.2.1 hX hbl hbA Dd.2.2.2.1 dL_law_26 ?_
    rw [ofNat_iI]
    refine lv_bipush (v := iI 6) C.1 C.2.1 dL_law_27 rfl ?_
    refine lv_isub C.1 C.2.1 dL_law_29 ?_
    rw [iI_sub]
    refine lv_icmp_gt (tgt := 1929) C.1 C.2.1 dL_law_30 (by decide) (fun q => ?_) (fun q => absurd ((iI_lt (by omega) (by omega)).mpr (by omega)) q)
    refine lv_iconst (v := 1) C.1 C.2.1 dL_law_1929 (by decide) ?_
    refine va_forget (fun q hq => Dd.2.2.2.1.2.2 q hq) ?_
    refine W.widen (k := 600128) (n := 7301098) (by omega) (by omega) ?_
    exact lw_ret C.1 C.2.1 C.2.2.1 C.2.2.2.2.2.2.1 dL_law_1930
  | succ n ih =>
    intro i cells H locs ls h h1 h2 h3 S
    obtain ⟨ad, Dd, hl, o, x⟩ := id S
    refine lv_iload C.1 C.2.1 dL_law_23 (lv_at hl 4 rfl) ?_
    refine lv_aload_n C.1 C.2.1 dL_law_25 rfl (lv_at hl 0 rfl) ?_
    refine va_slen C.1 C.2.1 hX hbl hbA Dd.2.2.2.1 dL_law_26 ?_
    rw [ofNat_iI]
    refine lv_bipush (v := iI 6) C.1 C.2.1 dL_law_27 rfl ?_
    refine lv_isub C.1 C.2.1 dL_law_29 ?_
    rw [iI_sub]
    refine lv_icmp_gt (tgt := 1929) C.1 C.2.1 dL_law_30 (by decide) (fun q => ?_) (fun q => ?_)
    · refine lv_iconst (v := 1) C.1 C.2.1 dL_law_1929 (by decide) ?_
      refine va_forget (fun q hq => Dd.2.2.2.1.2.2 q hq) ?_
      refine W.widen (k := 600128) (n := 7301098) (by omega) (by omega) ?_
      exact lw_ret C.1 C.2.1 C.2.2.1 C.2.2.2.2.2.2.1 dL_law_1930
    · have q : ¬ (L : Int) - 6 < (i : Int) := fun y => q ((iI_lt (by omega) (by omega)).mpr y)
      have hi : i + 6 ≤ L := by omega
      refine lv_aload_n C.1 C.2.1 dL_law_33 rfl (lv_at hl 0 rfl) ?_
      refine lv_iload C.1 C.2.1 dL_law_34 (lv_at hl 4 rfl) ?_
      refine va_sld C.1 C.2.1 hX hbl hbA Dd.2.2.2.1 (iI_in (by omega) (by omega)) dL_law_36 ?_
      refine lv_bipush (v := iI 63) C.1 C.2.1 dL_law_37 rfl ?_
      refine lv_iand C.1 C.2.1 dL_law_39 ?_
      refine law_sw X hXS hZ hst hi (by omega) S _ (fun H1 locs1 ls1 h1 cells1 S1 hle => ?_)
      obtain ⟨ad1, Dd1, hl1, o1, x1⟩ := S1
      refine lv_iinc (v := iI (((i + 6 : Nat)) : Int)) (lv' := [(4, .int (iI (((i + 6 : Nat)) : Int))), (0, .ref b), (1, .ref (ad1 0)), (2, .ref (ad1 34)), (3, .ref (ad1 46))]) C.1 C.2.1 dL_law_1923 hl1 (k := 4) rfl ?_ (by decide) rfl (fun ls2 hl2 => ?_)
      · show iI (i : Int) + iI 6 = _
        rw [iI_add, show ((i + 6 : Nat) : Int) = (i : Int) + 6 by omega]
      refine lv_goto (tgt := 23) C.1 C.2.1 dL_law_1926 (by decide) ?_
      exact ih (i + 6) cells1 H1 locs1 ls2 h1 (by omega) (by omega) (by omega) ⟨ad1, Dd1, lv_sub hl2 [1, 2, 3, 4, 0] rfl, o1, x1⟩
/-- the law's start: all is as the constructors leave it -/
theorem z0 (k : Nat) (x : Int) (hx : x ≠ 2) : mA0 k x = 0 := by
  unfold mA0 upA
  split
  · exact upI_n hx
  · rfl
theorem zk (k : Nat) (hk : k ≠ 0) (x : Int) : mA0 k x = 0 := by
  unfold mA0 upA
  rw [if_neg hk]
theorem LI_init (e : ∀ j, j < 34 → h[j]? = cH0[j]?) (hm : MW h (fun _ => 0) mA0) (h46 : ∃ f, h[46]? = some (.inl (1, 1, .inr (.inl f)))) (L0 : h.length = 47) : LI h := by
  have m2 : mA0 0 2 = 180 := rfl
  have hW : ∀ (bb : Nat), (bb = 1 ∨ bb = 8) → CW h bb (mA0 0) (fun _ => none) := by
    intro bb hb
    rcases hb with rfl | rfl
    · exact ⟨(e 1 (by decide)).trans rfl, ⟨_, (e 2 (by decide)).trans rfl, fun p p1 p2 => (z0 _ _ (by omega)).symm⟩, ⟨_, (e 3 (by decide)).trans rfl, fun p p1 p2 => (z0 _ _ (by omega)).symm⟩, ⟨_, (e 4 (by decide)).trans rfl, fun p p1 p2 => (z0 _ _ (by omega)).symm⟩, ⟨_, (e 5 (by decide)).trans rfl, fun p p1 p2 => (z0 _ _ (by omega)).symm⟩, ⟨_, (e 6 (by decide)).trans rfl, fun p p1 p2 => (z0 _ _ (by omega)).symm⟩, (e 7 (by decide)).trans rfl⟩
    · exact ⟨(e 8 (by decide)).trans rfl, ⟨_, (e 9 (by decide)).trans rfl, fun p p1 p2 => (z0 _ _ (by omega)).symm⟩, ⟨_, (e 10 (by decide)).trans rfl, fun p p1 p2 => (z0 _ _ (by omega)).symm⟩, ⟨_, (e 11 (by decide)).trans rfl, fun p p1 p2 => (z0 _ _ (by omega)).symm⟩, ⟨_, (e 12 (by decide)).trans rfl, fun p p1 p2 => (z0 _ _ (by omega)).symm⟩, ⟨_, (e 13 (by decide)).trans rfl, fun p p1 p2 => (z0 _ _ (by omega)).symm⟩, (e 14 (by decide)).trans rfl⟩
  have s1 : mA0 0 1 = 0 := rfl
  have s0 : mA0 0 0 = 0 := rfl
  have hSC : SC h mA0 (fun _ => none) := by
    refine ⟨(e 15 (by decide)).trans rfl, fun d hd => ?_⟩
    have a2 : mA0 2 (d : Int) = 0 := zk 2 (by decide) _
    refine ⟨?_, ?_, fun _ => rfl, fun q => absurd q (by rw [a2]; decide)⟩
    · rw [a2, zk 3 (by decide), zk 4 (by decide), if_neg (by decide), e _ (by omega)]
      rcases (show d = 0 ∨ d = 1 ∨ d = 2 ∨ d = 3 ∨ d = 4 ∨ d = 5 ∨ d = 6 ∨ d = 7 by omega) with rfl | rfl | rfl | rfl | rfl | rfl | rfl | rfl <;> rfl
    · refine ⟨fun _ => 0, ?_, fun p p1 p2 => (zk 5 (by decide) _).symm⟩
      rw [e _ (by omega)]
      rcases (show d = 0 ∨ d = 1 ∨ d = 2 ∨ d = 3 ∨ d = 4 ∨ d = 5 ∨ d = 6 ∨ d = 7 by omega) with rfl | rfl | rfl | rfl | rfl | rfl | rfl | rfl <;> rfl
  have hX : h[0]? = some (cWd (.ref 1) (.ref 8) 0 (.ref 15) (.ref 16) (.ref 17)) := (e 0 (by decide)).trans rfl
  have nn : ∀ (k t : Nat), (fun _ => none : Nat → Option Nat) k = some t → False := fun k t q => by cases q
  have hg : CLg h (mA0 0) (fun _ => none) := ⟨fun k t _ _ q => (nn 0 _ q).elim, fun i j t _ _ _ _ q _ => (nn 0 _ q).elim⟩
  have ht : CLt h 0 (mA0 1) (fun _ => none) := ⟨⟨_, hW 8 (Or.inr rfl), fun q => absurd q (by decide)⟩, fun _ _ => rfl, fun q => absurd q (by decide), fun j t _ q => (nn 0 _ q).elim, fun i j t _ _ q _ => (nn 0 _ q).elim⟩
  have hd : CLd (mA0 0) (fun _ => none) (fun _ => none) := fun k j t _ _ _ q => (nn 0 _ q).elim
  have hw : CLw h mA0 (fun _ => none) (fun _ => none) (fun _ => none) := fun d _ q => absurd q (by rw [zk 2 (by decide)]; decide)
  have hRC : RC h (mA0 0) (fun _ => none) := ⟨⟨0, hX⟩, hW 1 (Or.inl rfl), ⟨_, _, _, _, _, _, (e 16 (by decide)).trans rfl⟩, fun k k1 k2 => by rw [s1] at k2; omega⟩
  have mi : MI mA0 0 := by
    refine ⟨⟨?_, fun p p1 p2 => ?_, fun a b a1 a2 b1 b2 => ?_, fun k k1 k2 => ?_, fun k k1 k2 => ?_⟩, Or.inl rfl, fun q => absurd q (by decide), ⟨fun d d1 d2 => ?_, fun i i1 i2 => ?_⟩, fun d d1 d2 q => ?_⟩
    · unfold mI0; rw [s0, s1, m2]; decide
    · rw [s0] at p2; omega
    · rw [z0 _ _ (by omega), z0 _ _ (by omega)]; omega
    · rw [s1] at k2; omega
    · rw [s1] at k2; omega
    · rw [zk 2 (by decide), zk 3 (by decide), zk 4 (by decide), zk 8 (by decide)]
      exact ⟨by decide, by decide, by decide, Or.inl rfl, fun q => absurd q (by decide)⟩
    · rw [zk 5 (by decide)]; decide
    · exact absurd q (by rw [zk 2 (by decide)]; decide)
  exact ⟨0, fun _ => 0, mA0, fun _ => none, fun _ => none, fun _ => none, ⟨hRC, hX, ⟨_, _, _, _, _, _, _, _, _, (e 17 (by decide)).trans rfl⟩, hSC, hg, ht, hd, hw, by omega, by omega⟩, hm, mi, rfl, h46⟩
end DN
