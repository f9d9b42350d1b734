section DM
variable {p : Program} {l : Launch} {e : Env} {s : State} {m : MethodId} {below : List Frame} {meth : Method} {c : Code} {H : Heap} {locs : List Loc} {cells : Nat} {ls : Array Slot} {pc pc' : Nat} {D : va_G} {aC ad : Nat → Nat} {h h1 h2 : ev_H} {rest : List Value} {b L i : Nat} {xs : Nat → Int32} {im : Int} {om : Nat → Int} {A : Nat → Int → Int} {F F2 w : Nat → Option Nat}
theorem wT : Cond.codeWith yX5_toss cX5_toss 5 (some .int) hhT ∈ bg_tbl ∧ Cond.methodLink RL 190 yX5_toss ∈ bg_tbl ∧ Cond.instanceMethod yX5_toss ∈ bg_tbl ∧ Cond.selects RX5 yX5_toss yX5_toss ∈ bg_tbl ∧ Cond.initialized RX5 ∈ bg_tbl := ⟨bg_of (by decide +kernel) rfl, bg_of (by decide +kernel) rfl, bg_of (by decide +kernel) rfl, bg_of (by decide +kernel) rfl, bg_of (by decide +kernel) rfl⟩
theorem wE : Cond.codeWith yL_element cL_element 5 (some .int) hhE ∈ bg_tbl ∧ Cond.methodLink RL 172 yL_element ∈ bg_tbl ∧ Cond.static yL_element ∈ bg_tbl ∧ Cond.initialized RL ∈ bg_tbl := ⟨bg_of (by decide +kernel) rfl, bg_of (by decide +kernel) rfl, bg_of (by decide +kernel) rfl, bg_of (by decide +kernel) rfl⟩
theorem goodW {cw : Cond} (h : cw ∈ bg_tbl) : GoodIn bg_tbl (cw :: bg_tbl) := fun w hw => by
  rcases List.mem_cons.mp hw with rfl | hw
  · exact ⟨h, bg_good _ h⟩
  · exact ⟨hw, bg_good w hw⟩
theorem lenT : ∀ sig, parseMethodDescriptor yX5_toss.desc = some sig → 1 = sig.parameters.length := by
  have h2 : (parseMethodDescriptor yX5_toss.desc).map (fun d => d.parameters.length) = some 1 := by decide +kernel
  intro sig h
  rw [h] at h2
  exact (Option.some.inj h2).symm
theorem lenE : ∀ sig, parseMethodDescriptor yL_element.desc = some sig → 4 = sig.parameters.length := by
  have h2 : (parseMethodDescriptor yL_element.desc).map (fun d => d.parameters.length) = some 4 := by decide +kernel
  intro sig h
  rw [h] at h2
  exact (Option.some.inj h2).symm
theorem neX5 : RX5 ≠ "java/lang/invoke/MethodHandle" ∧ RX5 ≠ "java/lang/invoke/VarHandle" := by decide +kernel
theorem neL : RL ≠ "java/lang/invoke/MethodHandle" ∧ RL ≠ "java/lang/invoke/VarHandle" := by decide +kernel
/-- cells from 34 to 46 alone have changed -/
theorem CL.fr47 (x : CL h im A F F2 w) (L0 : h2.length = h.length) (e : ∀ j, (j < 34 ∨ 47 ≤ j) → h2[j]? = h[j]?) : CL h2 im A F F2 w := by
  obtain ⟨⟨⟨im0, x0⟩, xN, xs, xt⟩, x1, xr, ⟨sh0, sh1⟩, ⟨g1, g2⟩, ⟨⟨S2, t1, t1'⟩, t2, t3, t4, t5⟩, x6, x7, x8, x9⟩ := x
  have tgm : ∀ t, TG h t → TG h2 t := fun t q => q.mo (by omega)
  have ctm : ∀ t U nu, TG h t → CT h t U nu → CT h2 t U nu := fun t U nu q c => c.eq (fun j j1 j2 => e j (by have := q.1; omega))
  obtain ⟨s1, s2, s3, s4, s5, s6, hsp⟩ := xs
  obtain ⟨z, a, b, c, d, e', f, g, i, hrd⟩ := xr
  refine ⟨⟨⟨im0, (e 0 (by omega)).trans x0⟩, xN.eq (fun j j1 j2 => e j (by omega)), ⟨s1, s2, s3, s4, s5, s6, (e 16 (by omega)).trans hsp⟩, fun k k1 k2 => ?_⟩, (e 0 (by omega)).trans x1, ⟨z, a, b, c, d, e', f, g, i, (e 17 (by omega)).trans hrd⟩, SC.eq (A := A) ⟨sh0, sh1⟩ (e 15 (by omega)) (fun j j1 j2 => e j (by omega)), ⟨fun k t k1 k2 k3 => tgm t (g1 k t k1 k2 k3), g2⟩, ⟨⟨S2, t1.eq (fun j j1 j2 => e j (by omega)), t1'⟩, t2, fun q k q1 q2 => ?_, fun j t q1 q2 => ?_, t5⟩, x6, fun d hd q => ?_, by omega, by omega⟩
  · obtain ⟨t, r1, r2, r3⟩ := xt k k1 k2
    exact ⟨t, r1, ctm t _ _ (g1 k t k1 k2 r1) r2, r3⟩
  · obtain ⟨t, r1, r2, r3, r8⟩ := t3 q k q1 q2
    exact ⟨t, r1, ctm t _ _ r3 r2, tgm t r3, r8⟩
  · obtain ⟨r1, U, nu, r2⟩ := t4 j t q1 q2
    exact ⟨tgm t r1, U, nu, ctm t _ _ r1 r2⟩
  · obtain ⟨t, r1, r2, r3, r4, r5⟩ := x7 d hd q
    exact ⟨t, r1, tgm t r2, r3, fun y => ⟨ctm t _ _ r2 (r4 y).1, (r4 y).2⟩, r5⟩
theorem MW.eq45 (x : MW h om A) (e : ∀ j, 34 ≤ j → j < 46 → h2[j]? = h[j]?) : MW h2 om A := by
  obtain ⟨a0, a1, a2, a3, a4, a5, a6, a7, a8, a9, a10, a11⟩ := x
  exact ⟨(e _ (by decide) (by decide)).trans a0, (e _ (by decide) (by decide)).trans a1, (e _ (by decide) (by decide)).trans a2, (e _ (by decide) (by decide)).trans a3, (e _ (by decide) (by decide)).trans a4, (e _ (by decide) (by decide)).trans a5, (e _ (by decide) (by decide)).trans a6, (e _ (by decide) (by decide)).trans a7, (e _ (by decide) (by decide)).trans a8, (e _ (by decide) (by decide)).trans a9, (e _ (by decide) (by decide)).trans a10, (e _ (by decide) (by decide)).trans a11⟩
theorem elO_o {q j : Int} {f : Nat → Int64} (o : ok_h h) : ok_h (elO A q j f h) := by
  unfold elO
  split
  · exact o.set (fun f hf => by cases hf)
  · exact o
theorem elO_len {q j : Int} {f : Nat → Int64} : (elO A q j f h).length = h.length := by
  unfold elO
  split
  · exact List.length_set
  · rfl
theorem elO_ne {q j : Int} {f : Nat → Int64} {k : Nat} (hk : k ≠ 46) : (elO A q j f h)[k]? = h[k]? := by
  unfold elO
  split
  · exact set_ne hk
  · rfl
theorem elO_46 {q j : Int} {f : Nat → Int64} (hf : h[46]? = some (.inl (1, 1, .inr (.inl f)))) : ∃ g : Nat → Int64, (elO A q j f h)[46]? = some (.inl (1, 1, .inr (.inl g))) ∧ (sThr A q j = 0 → g (iI 0).toNatClampNeg = jJ (A 5 (100 * q + j))) := by
  unfold elO
  split
  · exact ⟨_, ev_gs hf, fun _ => by unfold vp_updL; rw [if_pos rfl]⟩
  · rename_i q; exact ⟨f, hf, fun y => absurd y q⟩
theorem law_c39 (X : LX p s m meth c b L xs) (hXS : XS s) (hZ : XZ (fun q => s.heap.size ≤ q) s s.heap) (hst : l.stackTraces = false) (hi : i + 6 ≤ L) (hc : cells ≤ 5000) (S : LSt D aC s b i H locs ls h) (kk : ∀ (H1 : Heap) (locs1 : List Loc) (ls1 : Array Slot) (h1 : ev_H) (cells1 : Nat), LSt D aC s b i H1 locs1 ls1 h1 → cells1 ≤ cells + 50 → W p l e room_1 s m #[Value.ref b] below meth c H1 locs1 cells1 (1000 * cells1) (lw_Z below #[Value.ref b] s) (F0 m 1923 ls1 [])) : W p l e room_1 s m #[Value.ref b] below meth c H locs cells (1000 * cells) (lw_Z below #[Value.ref b] s) (F0 m 1898 ls []) := by
  obtain ⟨ad, Dd, hl, o, x⟩ := S
  obtain ⟨C, hX, hbl, hL⟩ := id X
  obtain ⟨hx, hb, hr, hml, hown, hts, hlocks, hnm, hN⟩ := id C
  have l47 := x.len
  have x0 := x
  obtain ⟨im, om, A, F, F2, w, xc, hm, mi, h9, f, hf⟩ := x
  obtain ⟨⟨hI, hJ, hT, hK, hU⟩, h01, hW1, hS, -⟩ := id mi
  have hH := mi.hd
  obtain ⟨z1, hz1, r1⟩ : ∃ z : Int, xs (i + 1) = iI z ∧ (-2147483648 ≤ z ∧ z < 2147483648) := ⟨(xs (i + 1)).toInt, (iI_of _).symm, iI_rng _⟩
  refine lv_aload_n C.1 C.2.1 dL_law_1898 rfl (lv_at hl 1 rfl) ?_
  refine lw_sc (k := 1) (pc' := 1905) X Dd.2.2.2.1 (lv_at hl 0 rfl) (lv_at hl 4 rfl) (by omega) hz1 dL_law_1899 dL_law_1900 dL_law_1902 dL_law_1903 dL_law_1904 rfl ?_
  refine wc_after (mc := 1) (h1 := h) (w := some (.int (iI (sToss A z1)))) (rest := []) (pc' := 1908) (a := ([Value.ref 0, .int (iI z1)].map (ev_v ad)).toArray) Dd rfl (vx_runVW (As := [.int (iI z1)]) (b := ad 0) (rest := []) (n := 1) ⟨hx, hb, hml, hown, hts⟩ (x_toss hst xc.x0 xc.sc hS hH (xc.held mi) o l47 r1 D aC ad H.size) ⟨⟨rfl, rfl, (Nat.le_of_ble_eq_true rfl), (Nat.le_of_ble_eq_true rfl), pay_in hts (goodW wT.1), List.mem_cons_self⟩, hts _ wT.1, hts _ wT.2.2.2.2, neX5, lenT, hts _ wT.2.1, hts _ wT.2.2.1, hts _ wT.2.2.2.1⟩ ⟨xblind, va_recv Dd.1 Dd.2.1 (ci := 5) rfl (ev_w_get xc.x0), xc_pre C Dd hXS hZ [.ref 0, .int (iI z1)]⟩ rfl rfl hl.1 rfl (lv_room (Nat.le_of_ble_eq_true rfl)) dL_law_1905 (by show cells + 1 ≤ 600128 ∧ 1000 * cells + 1000 ≤ 7301098; omega)) (fun ad1 H1 locs1 ha1 Dd1 => ?_)
  have Dd1 := evD_ag o ha1 Dd1
  refine lv_aload_n C.1 C.2.1 dL_law_1908 rfl (lv_at hl 2 rfl) ?_
  refine lw_sc (k := 1) (pc' := 1915) X Dd1.2.2.2.1 (lv_at hl 0 rfl) (lv_at hl 4 rfl) (by omega) hz1 dL_law_1909 dL_law_1910 dL_law_1912 dL_law_1913 dL_law_1914 rfl ?_
  refine wc_V0 (ci := 6) (a := 34) (pc' := 1918) [.int (iI z1)] C Dd1 hl.1 o (ok2 (by omega) _ (int1 _)) kL_193 mX6_toss dL_law_1915 rfl rfl rfl rfl (Nat.le_of_ble_eq_true rfl) (Nat.le_of_ble_eq_true rfl) (by decide) (by show cells + 1 ≤ 600128 ∧ 1000 * (cells + 1) ≤ 7301098; omega) rfl hm.o (e6_toss hm hS hH hI r1) (fun H2 locs2 Dd2 => ?_)
  refine lv_icmp_eq (tgt := 1923) C.1 C.2.1 dL_law_1918 (by decide) (fun _ => ?_) (fun q => absurd rfl q)
  exact kk _ _ _ _ _ ⟨ad, Dd2, hl, o, x0⟩ (by omega)
theorem law_c36 (X : LX p s m meth c b L xs) (hXS : XS s) (hZ : XZ (fun q => s.heap.size ≤ q) s s.heap) (hst : l.stackTraces = false) (hi : i + 6 ≤ L) (hc : cells ≤ 5000) (S : LSt D aC s b i H locs ls h) (kk : ∀ (H1 : Heap) (locs1 : List Loc) (ls1 : Array Slot) (h1 : ev_H) (cells1 : Nat), LSt D aC s b i H1 locs1 ls1 h1 → cells1 ≤ cells + 50 → W p l e room_1 s m #[Value.ref b] below meth c H1 locs1 cells1 (1000 * cells1) (lw_Z below #[Value.ref b] s) (F0 m 1923 ls1 [])) : W p l e room_1 s m #[Value.ref b] below meth c H locs cells (1000 * cells) (lw_Z below #[Value.ref b] s) (F0 m 1733 ls []) := by
  obtain ⟨ad, Dd, hl, o, x⟩ := S
  obtain ⟨C, hX, hbl, hL⟩ := id X
  obtain ⟨hx, hb, hr, hml, hown, hts, hlocks, hnm, hN⟩ := id C
  have l47 := x.len
  have x0 := x
  obtain ⟨im, om, A, F, F2, w, xc, hm, mi, h9, f, hf⟩ := x
  obtain ⟨⟨hI, hJ, hT, hK, hU⟩, h01, hW1, hS, -⟩ := id mi
  have hH := mi.hd
  obtain ⟨z1, hz1, r1⟩ : ∃ z : Int, xs (i + 1) = iI z ∧ (-2147483648 ≤ z ∧ z < 2147483648) := ⟨(xs (i + 1)).toInt, (iI_of _).symm, iI_rng _⟩
  obtain ⟨z2, hz2, r2⟩ : ∃ z : Int, xs (i + 2) = iI z ∧ (-2147483648 ≤ z ∧ z < 2147483648) := ⟨(xs (i + 2)).toInt, (iI_of _).symm, iI_rng _⟩
  refine lv_aload_n C.1 C.2.1 dL_law_1733 rfl (lv_at hl 1 rfl) ?_
  refine lw_sc (k := 1) (pc' := 1740) X Dd.2.2.2.1 (lv_at hl 0 rfl) (lv_at hl 4 rfl) (by omega) hz1 dL_law_1734 dL_law_1735 dL_law_1737 dL_law_1738 dL_law_1739 rfl ?_
  refine lw_sc (k := 2) (pc' := 1746) X Dd.2.2.2.1 (lv_at hl 0 rfl) (lv_at hl 4 rfl) (by omega) hz2 dL_law_1740 dL_law_1741 dL_law_1743 dL_law_1744 dL_law_1745 rfl ?_
  refine lv_aload_n C.1 C.2.1 dL_law_1746 rfl (lv_at hl 3 rfl) ?_
  refine wc_after (mc := 1) (h1 := elO A z1 z2 f h) (w := some (.int (iI (sThr A z1 z2)))) (rest := []) (pc' := 1750) (a := ([Value.ref 0, .int (iI z1), .int (iI z2), .ref 46].map (ev_v ad)).toArray) Dd rfl (vx_runSW (As := [.ref (ad 0), .int (iI z1), .int (iI z2), .ref (ad 46)]) (rest := []) (n := 4) ⟨hx, hb, hml, hown, hts⟩ (x_Lel hst xc.x0 xc.sc hS hH o l47 r1 r2 hf D aC ad H.size) ⟨⟨rfl, rfl, (Nat.le_of_ble_eq_true rfl), (Nat.le_of_ble_eq_true rfl), pay_in hts (goodW wE.1), List.mem_cons_self⟩, hts _ wE.1, hts _ wE.2.2.2, neL, lenE, hts _ wE.2.1, hts _ wE.2.2.1⟩ ⟨xblind, xc_pre C Dd hXS hZ [.ref 0, .int (iI z1), .int (iI z2), .ref 46]⟩ rfl rfl hl.1 rfl (lv_room (Nat.le_of_ble_eq_true rfl)) dL_law_1747 (by show cells + 1 ≤ 600128 ∧ 1000 * cells + 1000 ≤ 7301098; omega)) (fun ad1 H1 locs1 ha1 Dd1 => ?_)
  have o1 : ok_h (elO A z1 z2 f h) := elO_o o
  have L1 : (elO A z1 z2 f h).length = h.length := elO_len
  have Dd1 := evD_ag o1 (fun k hk => ha1 k (by omega)) Dd1
  obtain ⟨g, hg, eg⟩ := elO_46 (A := A) (q := z1) (j := z2) hf
  have hm1 : MW (elO A z1 z2 f h) om A := hm.eq45 (fun j j1 j2 => elO_ne (by omega))
  have xc1 : CL (elO A z1 z2 f h) im A F F2 w := xc.fr47 L1 (fun j hj => elO_ne (by omega))
  generalize elO A z1 z2 f h = h1 at o1 L1 Dd1 hg hm1 xc1 ⊢
  refine lv_istore (lv' := (5, .int (iI (sThr A z1 z2))) :: lvL b ad i) C.1 C.2.1 dL_law_1750 hl (by decide) rfl (fun ls hl1 => ?_)
  refine lv_aload_n C.1 C.2.1 dL_law_1752 rfl (lv_at hl1 3 rfl) ?_
  refine lw_sc (k := 1) (pc' := 1759) X Dd1.2.2.2.1 (lv_at hl1 1 rfl) (lv_at hl1 5 rfl) (by omega) hz1 dL_law_1753 dL_law_1754 dL_law_1756 dL_law_1757 dL_law_1758 rfl ?_
  refine lw_sc (k := 2) (pc' := 1765) X Dd1.2.2.2.1 (lv_at hl1 1 rfl) (lv_at hl1 5 rfl) (by omega) hz2 dL_law_1759 dL_law_1760 dL_law_1762 dL_law_1763 dL_law_1764 rfl ?_
  obtain ⟨v2, h2, E2, rfl, m2, fr2⟩ := e6_element (l := l) hm1 hS r1 r2
  refine wc_V (ci := 6) (a := 34) (pc' := 1768) [.int (iI z1), .int (iI z2)] C Dd1 hl1.1 o1 (ok2 (by omega) _ (int2 _ _)) kL_177 mX6_element dL_law_1765 rfl rfl rfl rfl (Nat.le_of_ble_eq_true rfl) (Nat.le_of_ble_eq_true rfl) (by decide) (by rw [fr2.1, Nat.sub_self]; show cells + 1 + 0 ≤ 600128 ∧ 1000 * (cells + 1) + 1000 * 0 ≤ 7301098; omega) rfl hm1.o E2 (fun ad2 H2 locs2 ha2 o2 g2 Dd2 => ?_)
  have L2 := fr2.1
  have Dd2 := evD_ag o2 (fun k hk => ha2 k (by omega)) Dd2
  rw [L2, Nat.sub_self, Nat.add_zero]
  refine lv_lstore (lv' := (6, .long (jJ (sElm A z1 z2))) :: (5, .int (iI (sThr A z1 z2))) :: lvL b ad i) C.1 C.2.1 dL_law_1768 hl1 (by decide) rfl (fun ls hl2 => ?_)
  refine lv_aload_n C.1 C.2.1 dL_law_1770 rfl (lv_at hl2 4 rfl) ?_
  refine wc_V0 (ci := 6) (a := 34) (pc' := 1774) [] C Dd2 hl2.1 o2 (ok2 (by omega) _ (fun u hu => nomatch hu)) kL_178 mX6_thrown dL_law_1771 rfl rfl rfl rfl (Nat.le_of_ble_eq_true rfl) (Nat.le_of_ble_eq_true rfl) (by decide) (by show cells + 1 ≤ 600128 ∧ 1000 * (cells + 1) ≤ 7301098; omega) rfl m2.o (e6_thrown m2) (fun H3 locs3 Dd3 => ?_)
  refine lv_iload C.1 C.2.1 dL_law_1774 (lv_at hl2 1 rfl) ?_
  refine lv_icmp_eq (tgt := 1781) C.1 C.2.1 dL_law_1776 (by decide) (fun _ => ?_) (fun q => absurd rfl q)
  have fin : W p l e room_1 s m #[Value.ref b] below meth c H3 locs3 (cells + 1) (1000 * (cells + 1)) (lw_Z below #[Value.ref b] s) (F0 m 1797 ls []) := by
    refine lv_goto (tgt := 1923) C.1 C.2.1 dL_law_1797 (by decide) ?_
    refine kk _ _ _ h2 _ ⟨ad, Dd3, lv_sub hl2 [2, 3, 4, 5, 6] rfl, o2, im, _, A, F, F2, w, xc1.frM fr2, m2, mi, ?_, g, (fr2.2 46 (by decide)).trans hg⟩ (by omega)
    show upN om 10 _ 9 = im
    unfold upN
    rw [if_neg (by decide)]
    exact h9
  refine lv_iload C.1 C.2.1 dL_law_1781 (lv_at hl2 1 rfl) ?_
  refine lv_if_ne (tgt := 1797) C.1 C.2.1 dL_law_1783 (by decide) (fun _ => fin) (fun q => ?_)
  have q0 : sThr A z1 z2 = 0 := by
    unfold sThr at q ⊢
    split at q
    · exact absurd q (by decide)
    · rename_i y1
      rw [if_neg y1]
      split at q
      · exact absurd q (by decide)
      · rename_i y2; rw [if_neg y2]
  refine lv_aload_n C.1 C.2.1 dL_law_1786 rfl (lv_at hl2 5 rfl) ?_
  refine lv_iconst (v := iI 0) C.1 C.2.1 dL_law_1787 rfl ?_
  refine va_lald (n := 1) (f := g) C.1 C.2.1 Dd3.1 Dd3.2.1 46 1 (ev_w_get ((fr2.2 46 (by decide)).trans hg)) rfl (iI_in (e := 0) (n := 1) (by decide) (by decide)) dL_law_1788 ?_
  rw [eg q0]
  refine lv_lload C.1 C.2.1 dL_law_1789 (lv_at hl2 0 rfl) ?_
  rw [show sElm A z1 z2 = A 5 (100 * z1 + z2) by unfold sElm; rw [if_pos q0]]
  refine W.lcmp C.1 C.2.1 dL_law_1791 ?_
  exact lv_if_eq (tgt := 1797) C.1 C.2.1 dL_law_1792 (by decide) (fun _ => fin) (fun q => absurd (lg_cmp_self _) q)
end DM
