section DB
variable {l : Launch} {h h1 h2 : ev_H} {im im' : Int} {o o2 : Nat → Int} {A A' A2 : Nat → Int → Int} {F F2 w F' F2' w' : Nat → Option Nat}
/-! class and reference side by side: what holds at the head of the law's loop, and that each pair of calls keeps it and answers alike -/
def LI (h : ev_H) : Prop := ∃ im o A F F2 w, CL h im A F F2 w ∧ MW h o A ∧ MI A im ∧ o 9 = im ∧ ∃ f, h[46]? = some (.inl (1, 1, .inr (.inl f)))
theorem MW.eq (x : MW h o A) (e : ∀ j, 34 ≤ j → j < 47 → h2[j]? = h[j]?) : MW h2 o A := by
  obtain ⟨a0, a1, a2, a3, a4, a5, a6, a7, a8, a9, a10, a11⟩ := x
  exact ⟨(e _ (by decide) (by decide)).trans a0, (e _ (by decide) (by decide)).trans a1, (e _ (by decide) (by decide)).trans a2, (e _ (by decide) (by decide)).trans a3, (e _ (by decide) (by decide)).trans a4, (e _ (by decide) (by decide)).trans a5, (e _ (by decide) (by decide)).trans a6, (e _ (by decide) (by decide)).trans a7, (e _ (by decide) (by decide)).trans a8, (e _ (by decide) (by decide)).trans a9, (e _ (by decide) (by decide)).trans a10, (e _ (by decide) (by decide)).trans a11⟩
theorem MW.km (x : MW h o A) (k : KM h h1) : MW h1 o A := x.eq k.1
/-- the reference's cells alone have changed -/
theorem CL.frM (x : CL h im A F F2 w) (fr : FrM h h2) : CL h2 im A F F2 w := by
  obtain ⟨⟨⟨im0, x0⟩, xN, xs, xt⟩, x1, xr, ⟨sh0, sh1⟩, ⟨g1, g2⟩, ⟨⟨S2, t1, t1'⟩, t2, t3, t4, t5⟩, x6, x7, x8, x9⟩ := x
  obtain ⟨L, e⟩ := fr
  have tgm : ∀ t, TG h t → TG h2 t := fun t q => q.mo (by omega)
  have ctm : ∀ t U nu, TG h t → CT h t U nu → CT h2 t U nu := fun t U nu q c => c.eq (fun j j1 j2 => e j (by have := q.1; omega))
  obtain ⟨s1, s2, s3, s4, s5, s6, hsp⟩ := xs
  obtain ⟨z, a, b, c, d, e', f, g, i, hrd⟩ := xr
  refine ⟨⟨⟨im0, (e 0 (by omega)).trans x0⟩, xN.eq (fun j j1 j2 => e j (by omega)), ⟨s1, s2, s3, s4, s5, s6, (e 16 (by omega)).trans hsp⟩, fun k k1 k2 => ?_⟩, (e 0 (by omega)).trans x1, ⟨z, a, b, c, d, e', f, g, i, (e 17 (by omega)).trans hrd⟩, SC.eq (A := A) ⟨sh0, sh1⟩ (e 15 (by omega)) (fun j j1 j2 => e j (by omega)), ⟨fun k t k1 k2 k3 => tgm t (g1 k t k1 k2 k3), g2⟩, ⟨⟨S2, t1.eq (fun j j1 j2 => e j (by omega)), t1'⟩, t2, fun q k q1 q2 => ?_, fun j t q1 q2 => ?_, t5⟩, x6, fun d hd q => ?_, by omega, by omega⟩
  · obtain ⟨t, r1, r2, r3⟩ := xt k k1 k2
    exact ⟨t, r1, ctm t _ _ (g1 k t k1 k2 r1) r2, r3⟩
  · obtain ⟨t, r1, r2, r3, r8⟩ := t3 q k q1 q2
    exact ⟨t, r1, ctm t _ _ r3 r2, tgm t r3, r8⟩
  · obtain ⟨r1, U, nu, r2⟩ := t4 j t q1 q2
    exact ⟨tgm t r1, U, nu, ctm t _ _ r1 r2⟩
  · obtain ⟨t, r1, r2, r3, r4, r5⟩ := x7 d hd q
    exact ⟨t, r1, tgm t r2, r3, fun y => ⟨ctm t _ _ r2 (r4 y).1, (r4 y).2⟩, r5⟩
theorem CL.ag (x : CL h im A F F2 w) (e : ∀ j, j ≠ 9 → j ≠ 10 → A' j = A j) : CL h im A' F F2 w := by
  unfold CL SC CLw at x ⊢
  rw [e 0 (by decide) (by decide), e 1 (by decide) (by decide), e 2 (by decide) (by decide), e 3 (by decide) (by decide), e 4 (by decide) (by decide), e 5 (by decide) (by decide), e 6 (by decide) (by decide), e 7 (by decide) (by decide), e 8 (by decide) (by decide)]
  exact x
theorem LI.mk2 (x : CL h1 im A F F2 w) (km : KM h h1) (out : ∃ f, h[46]? = some (.inl (1, 1, .inr (.inl f)))) (m2 : MW h2 o2 A2) (fr : FrM h1 h2) (mi : MI A im) (ag : ∀ j, j ≠ 9 → j ≠ 10 → A2 j = A j) (h9 : o2 9 = im) : LI h2 := by
  obtain ⟨f, hf⟩ := out
  exact ⟨im, o2, A2, F, F2, w, (x.frM fr).ag ag, m2, mi.ag ag, h9, f, (fr.2 46 (by decide)).trans ((km.1 46 (by decide) (by decide)).trans hf)⟩
/-- the traveller on a shelf -/
theorem CL.held (x : CL h im A F F2 w) (mi : MI A im) : ∀ d : Nat, d < 8 → A 2 d = 1 → ∃ t, w d = some t ∧ ∃ ea, h[t]? = some (cTr (A 6 d) (hldS A d 0) (hldS A d 1) (hldS A d 2) (hldS A d 3) ea (hldS A d 28) (t + 1) (t + 2) (t + 3) (t + 4) (t + 5)) := by
  intro d hd q
  obtain ⟨xR, -, -, -, -, -, -, x7, -, -⟩ := x
  obtain ⟨t, r1, r2, r3, r4, r5⟩ := x7 d hd q
  obtain ⟨-, -, -, -, m5⟩ := mi.2.2.2.1.1 (d : Int) (by omega) (by omega)
  refine ⟨t, r1, ?_⟩
  unfold hldS
  by_cases c : A 8 (d : Int) = 0
  · simp only [if_pos c]
    have k := m5 q c
    obtain ⟨s, p1, p2, -⟩ := xR.2.2.2 (A 6 (d : Int)) k.1 k.2
    rw [r3 c] at p1
    injection p1 with p1
    subst p1
    exact p2.ob
  · simp only [if_neg c]
    exact (r4 c).1.ob
theorem lgS_1 {S : Int → Int} {k q ea f hr : Int} (h : mW S) (hb : lgB S k q f hr = true) : lgS S k q ea f hr 1 = S 1 := by
  unfold lgB at hb
  simp only [Bool.and_eq_true, Bool.not_eq_true'] at hb
  obtain ⟨b1, b2, b3⟩ := hb
  have b1 := of_decide_eq_true b1
  have b2 := of_decide_eq_false b2
  have t3 := (h.2.2.2.1 k (by omega) (by omega)).2.2.2.1
  exact lgS_o (by omega) (by omega)
theorem cpS_1 {S : Int → Int} {k t b : Int} (h : mW S) (hb : cpB S k t b = true) : cpS S k t b 1 = S 1 := by
  have hb := of_decide_eq_true hb
  have t5 := (h.2.2.2.1 k (by omega) (by omega)).2.2.2.2.2.1
  exact cpS_o (by omega) (by omega)
theorem s_place {z1 z2 : Int} (x : LI h) (r1 : -2147483648 ≤ z1 ∧ z1 < 2147483648) (r2 : -2147483648 ≤ z2 ∧ z2 < 2147483648) : ∃ (r : Int32) (h1 h2 : ev_H), Ev l 2 yX5_place.cls yX5_place.name cX5_place 3 (some .int) 0 [some (.ref 0), some (.int (iI z1)), some (.int (iI z2))] [] h (some (.int r)) h1 ∧ Ev l 2 yX6_place.cls yX6_place.name cX6_place 3 (some .int) 0 [some (.ref 34), some (.int (iI z1)), some (.int (iI z2))] [] h1 (some (.int r)) h2 ∧ LI h2 ∧ h1.length ≤ h.length + 48 ∧ h2.length = h1.length ∧ ∃ fs, h1[34]? = some (.inr (6, fs)) := by
  obtain ⟨im, o, A, F, F2, w, x, hm, mi, h9, out⟩ := x
  obtain ⟨⟨hI, hJ, hT, hK, hU⟩, h01, hW1, hS, -⟩ := id mi
  have hH := mi.hd
  exact ⟨_, h, h, e5_place x.rc hI hJ r1 r2, e6_place hm hI r1 r2, ⟨im, o, A, F, F2, w, x, hm, mi, h9, out⟩, by omega, rfl, _, hm.o⟩
theorem s_trade {z1 z2 : Int} (x : LI h) (r1 : -2147483648 ≤ z1 ∧ z1 < 2147483648) (r2 : -2147483648 ≤ z2 ∧ z2 < 2147483648) : ∃ (r : Int32) (h1 h2 : ev_H), Ev l 2 yX5_trade.cls yX5_trade.name cX5_trade 3 (some .int) 0 [some (.ref 0), some (.int (iI z1)), some (.int (iI z2))] [] h (some (.int r)) h1 ∧ Ev l 2 yX6_trade.cls yX6_trade.name cX6_trade 3 (some .int) 0 [some (.ref 34), some (.int (iI z1)), some (.int (iI z2))] [] h1 (some (.int r)) h2 ∧ LI h2 ∧ h1.length ≤ h.length + 48 ∧ h2.length = h1.length ∧ ∃ fs, h1[34]? = some (.inr (6, fs)) := by
  obtain ⟨im, o, A, F, F2, w, x, hm, mi, h9, out⟩ := x
  obtain ⟨⟨hI, hJ, hT, hK, hU⟩, h01, hW1, hS, -⟩ := id mi
  have hH := mi.hd
  exact ⟨_, h, h, e5_trade x.rc hI hJ r1 r2, e6_trade hm hI r1 r2, ⟨im, o, A, F, F2, w, x, hm, mi, h9, out⟩, by omega, rfl, _, hm.o⟩
theorem s_dayOf {z1 z2 : Int} (x : LI h) (r1 : -2147483648 ≤ z1 ∧ z1 < 2147483648) (r2 : -2147483648 ≤ z2 ∧ z2 < 2147483648) : ∃ (r : Int32) (h1 h2 : ev_H), Ev l 3 yX5_dayOf.cls yX5_dayOf.name cX5_dayOf 3 (some .int) 0 [some (.ref 0), some (.int (iI z1)), some (.int (iI z2))] [] h (some (.int r)) h1 ∧ Ev l 3 yX6_dayOf.cls yX6_dayOf.name cX6_dayOf 3 (some .int) 0 [some (.ref 34), some (.int (iI z1)), some (.int (iI z2))] [] h1 (some (.int r)) h2 ∧ LI h2 ∧ h1.length ≤ h.length + 48 ∧ h2.length = h1.length ∧ ∃ fs, h1[34]? = some (.inr (6, fs)) := by
  obtain ⟨im, o, A, F, F2, w, x, hm, mi, h9, out⟩ := x
  obtain ⟨⟨hI, hJ, hT, hK, hU⟩, h01, hW1, hS, -⟩ := id mi
  have hH := mi.hd
  exact ⟨_, h, h, e5_dayOf x.rc hI hJ r1 r2, e6_dayOf hm hI hJ r1 r2, ⟨im, o, A, F, F2, w, x, hm, mi, h9, out⟩, by omega, rfl, _, hm.o⟩
theorem s_hourOf {z1 z2 : Int} (x : LI h) (r1 : -2147483648 ≤ z1 ∧ z1 < 2147483648) (r2 : -2147483648 ≤ z2 ∧ z2 < 2147483648) : ∃ (r : Int32) (h1 h2 : ev_H), Ev l 2 yX5_hourOf.cls yX5_hourOf.name cX5_hourOf 3 (some .int) 0 [some (.ref 0), some (.int (iI z1)), some (.int (iI z2))] [] h (some (.int r)) h1 ∧ Ev l 2 yX6_hourOf.cls yX6_hourOf.name cX6_hourOf 4 (some .int) 0 [some (.ref 34), some (.int (iI z1)), some (.int (iI z2)), none] [] h1 (some (.int r)) h2 ∧ LI h2 ∧ h1.length ≤ h.length + 48 ∧ h2.length = h1.length ∧ ∃ fs, h1[34]? = some (.inr (6, fs)) := by
  obtain ⟨im, o, A, F, F2, w, x, hm, mi, h9, out⟩ := x
  obtain ⟨⟨hI, hJ, hT, hK, hU⟩, h01, hW1, hS, -⟩ := id mi
  have hH := mi.hd
  exact ⟨_, h, h, e5_hourOf x.rc hI hJ r1 r2, e6_hourOf hm hI hJ r1 r2, ⟨im, o, A, F, F2, w, x, hm, mi, h9, out⟩, by omega, rfl, _, hm.o⟩
theorem s_count {z1 : Int} (x : LI h) (r1 : -2147483648 ≤ z1 ∧ z1 < 2147483648) : ∃ (r : Int32) (h1 h2 : ev_H), Ev l 1 yX5_count.cls yX5_count.name cX5_count 2 (some .int) 0 [some (.ref 0), some (.int (iI z1))] [] h (some (.int r)) h1 ∧ Ev l 1 yX6_count.cls yX6_count.name cX6_count 5 (some .int) 0 [some (.ref 34), some (.int (iI z1)), none, none, none] [] h1 (some (.int r)) h2 ∧ LI h2 ∧ h1.length ≤ h.length + 48 ∧ h2.length = h1.length ∧ ∃ fs, h1[34]? = some (.inr (6, fs)) := by
  obtain ⟨im, o, A, F, F2, w, x, hm, mi, h9, out⟩ := x
  obtain ⟨⟨hI, hJ, hT, hK, hU⟩, h01, hW1, hS, -⟩ := id mi
  have hH := mi.hd
  exact ⟨_, h, h, e5_count x.rc hI hT hK r1, e6_count hm hI hT r1, ⟨im, o, A, F, F2, w, x, hm, mi, h9, out⟩, by omega, rfl, _, hm.o⟩
theorem s_weight {z1 : Int} (x : LI h) (r1 : -2147483648 ≤ z1 ∧ z1 < 2147483648) : ∃ (r : Int32) (h1 h2 : ev_H), Ev l 2 yX5_weight.cls yX5_weight.name cX5_weight 3 (some .int) 0 [some (.ref 0), some (.int (iI z1)), none] [] h (some (.int r)) h1 ∧ Ev l 3 yX6_weight.cls yX6_weight.name cX6_weight 4 (some .int) 0 [some (.ref 34), some (.int (iI z1)), none, none] [] h1 (some (.int r)) h2 ∧ LI h2 ∧ h1.length ≤ h.length + 48 ∧ h2.length = h1.length ∧ ∃ fs, h1[34]? = some (.inr (6, fs)) := by
  obtain ⟨im, o, A, F, F2, w, x, hm, mi, h9, out⟩ := x
  obtain ⟨⟨hI, hJ, hT, hK, hU⟩, h01, hW1, hS, -⟩ := id mi
  have hH := mi.hd
  refine ⟨_, h, h, e5_weight x.x0 x.sc hS hH (fun d hd q => ?_) r1, e6_weight hm hS hH hI r1, ⟨im, o, A, F, F2, w, x, hm, mi, h9, out⟩, by omega, rfl, _, hm.o⟩
  obtain ⟨t, w1, ea, w2⟩ := x.held mi d hd q
  exact ⟨t, _, w1, ea, _, _, _, _, _, w2⟩
theorem s_wrong {z1 z2 : Int} (x : LI h) (r1 : -2147483648 ≤ z1 ∧ z1 < 2147483648) (r2 : -2147483648 ≤ z2 ∧ z2 < 2147483648) : ∃ (r : Int32) (h1 h2 : ev_H), Ev l 4 yX5_wrong.cls yX5_wrong.name cX5_wrong 3 (some .int) 0 [some (.ref 0), some (.int (iI z1)), some (.int (iI z2))] [] h (some (.int r)) h1 ∧ Ev l 4 yX6_wrong.cls yX6_wrong.name cX6_wrong 3 (some .int) 0 [some (.ref 34), some (.int (iI z1)), some (.int (iI z2))] [] h1 (some (.int r)) h2 ∧ LI h2 ∧ h1.length ≤ h.length + 48 ∧ h2.length = h1.length ∧ ∃ fs, h1[34]? = some (.inr (6, fs)) := by
  obtain ⟨im, o, A, F, F2, w, x, hm, mi, h9, out⟩ := x
  obtain ⟨⟨hI, hJ, hT, hK, hU⟩, h01, hW1, hS, -⟩ := id mi
  have hH := mi.hd
  obtain ⟨v2, h2, E2, rfl, m2, fr2⟩ := e6_wrong (l := l) hm hI hJ hT r1 r2
  exact ⟨_, h, h2, e5_wrong x.rc hI hJ hT r1 r2, E2, LI.mk2 x (KM.rf h) out m2 fr2 mi (fun _ _ _ => rfl) h9, by omega, fr2.1, _, hm.o⟩
theorem s_bestLine {z1 z2 : Int} (x : LI h) (r1 : -2147483648 ≤ z1 ∧ z1 < 2147483648) (r2 : -2147483648 ≤ z2 ∧ z2 < 2147483648) : ∃ (r : Int32) (h1 h2 : ev_H), Ev l 4 yX5_bestLine.cls yX5_bestLine.name cX5_bestLine 7 (some .int) 0 [some (.ref 0), some (.int (iI z1)), some (.int (iI z2)), none, none, none, none] [] h (some (.int r)) h1 ∧ Ev l 4 yX6_bestLine.cls yX6_bestLine.name cX6_bestLine 5 (some .int) 0 [some (.ref 34), some (.int (iI z1)), some (.int (iI z2)), none, none] [] h1 (some (.int r)) h2 ∧ LI h2 ∧ h1.length ≤ h.length + 48 ∧ h2.length = h1.length ∧ ∃ fs, h1[34]? = some (.inr (6, fs)) := by
  obtain ⟨im, o, A, F, F2, w, x, hm, mi, h9, out⟩ := x
  obtain ⟨⟨hI, hJ, hT, hK, hU⟩, h01, hW1, hS, -⟩ := id mi
  have hH := mi.hd
  obtain ⟨v2, h2, E2, rfl, m2, fr2⟩ := e6_bestLine (l := l) hm hI hJ hT r1 r2
  exact ⟨_, h, h2, e5_bestLine x.rc hI hJ hT r1 r2, E2, LI.mk2 x (KM.rf h) out m2 fr2 mi (fun _ _ _ => rfl) h9, by omega, fr2.1, _, hm.o⟩
theorem s_moved {z1 z2 : Int} (x : LI h) (r1 : -2147483648 ≤ z1 ∧ z1 < 2147483648) (r2 : -2147483648 ≤ z2 ∧ z2 < 2147483648) : ∃ (r : Int32) (h1 h2 : ev_H), Ev l 4 yX5_moved.cls yX5_moved.name cX5_moved 5 (some .int) 0 [some (.ref 0), some (.int (iI z1)), some (.int (iI z2)), none, none] [] h (some (.int r)) h1 ∧ Ev l 3 yX6_moved.cls yX6_moved.name cX6_moved 7 (some .int) 0 [some (.ref 34), some (.int (iI z1)), some (.int (iI z2)), none, none, none, none] [] h1 (some (.int r)) h2 ∧ LI h2 ∧ h1.length ≤ h.length + 48 ∧ h2.length = h1.length ∧ ∃ fs, h1[34]? = some (.inr (6, fs)) := by
  obtain ⟨im, o, A, F, F2, w, x, hm, mi, h9, out⟩ := x
  obtain ⟨⟨hI, hJ, hT, hK, hU⟩, h01, hW1, hS, -⟩ := id mi
  have hH := mi.hd
  obtain ⟨v2, h2, E2, rfl, m2, fr2⟩ := e6_moved (l := l) hm hI hJ r1 r2
  exact ⟨_, h, h2, e5_moved x.rc hI hJ r1 r2, E2, LI.mk2 x (KM.rf h) out m2 fr2 mi (fun _ _ _ => rfl) h9, by omega, fr2.1, _, hm.o⟩
theorem s_where {z1 z2 z3 : Int} (x : LI h) (r1 : -2147483648 ≤ z1 ∧ z1 < 2147483648) (r2 : -2147483648 ≤ z2 ∧ z2 < 2147483648) (r3 : -2147483648 ≤ z3 ∧ z3 < 2147483648) : ∃ (r : Int64) (h1 h2 : ev_H), Ev l 4 yX5_where.cls yX5_where.name cX5_where 11 (some .long) 0 [some (.ref 0), some (.int (iI z1)), some (.int (iI z2)), some (.int (iI z3)), none, none, none, none, none, none, none] [] h (some (.long r)) h1 ∧ Ev l 4 yX6_where.cls yX6_where.name cX6_where 8 (some .long) 0 [some (.ref 34), some (.int (iI z1)), some (.int (iI z2)), some (.int (iI z3)), none, none, none, none] [] h1 (some (.long r)) h2 ∧ LI h2 ∧ h1.length ≤ h.length + 48 ∧ h2.length = h1.length ∧ ∃ fs, h1[34]? = some (.inr (6, fs)) := by
  obtain ⟨im, o, A, F, F2, w, x, hm, mi, h9, out⟩ := x
  obtain ⟨⟨hI, hJ, hT, hK, hU⟩, h01, hW1, hS, -⟩ := id mi
  have hH := mi.hd
  obtain ⟨v1, h1, E1, rfl, fr1, rc1⟩ := e5_where (l := l) x.rc hI hJ hK r1 r2 r3
  have x1 := x.frS fr1 rc1
  obtain ⟨v2, h2, E2, rfl, o2, m2, fr2, j2⟩ := e6_where (l := l) (hm.km fr1.km) hI hJ hK r1 r2 r3
  exact ⟨_, h1, h2, E1, E2, LI.mk2 x1 fr1.km out m2 fr2 mi (fun _ _ _ => rfl) ((j2 9 (by decide)).trans h9), by have := fr1.1; omega, fr2.1, _, (hm.km fr1.km).o⟩
theorem s_in {z1 z2 : Int} (x : LI h) (r1 : -2147483648 ≤ z1 ∧ z1 < 2147483648) (r2 : -2147483648 ≤ z2 ∧ z2 < 2147483648) : ∃ (r : Int32) (h1 h2 : ev_H), Ev l 4 yX5_in.cls yX5_in.name cX5_in 4 (some .int) 0 [some (.ref 0), some (.int (iI z1)), some (.int (iI z2)), none] [] h (some (.int r)) h1 ∧ Ev l 4 yX6_in.cls yX6_in.name cX6_in 3 (some .int) 0 [some (.ref 34), some (.int (iI z1)), some (.int (iI z2))] [] h1 (some (.int r)) h2 ∧ LI h2 ∧ h1.length ≤ h.length + 48 ∧ h2.length = h1.length ∧ ∃ fs, h1[34]? = some (.inr (6, fs)) := by
  obtain ⟨im, o, A, F, F2, w, x, hm, mi, h9, out⟩ := x
  obtain ⟨⟨hI, hJ, hT, hK, hU⟩, h01, hW1, hS, -⟩ := id mi
  have hH := mi.hd
  obtain ⟨v1, h1, E1, rfl, fr1, rc1⟩ := e5_in (l := l) x.rc hI hJ hK r1 r2
  have x1 := x.frS fr1 rc1
  obtain ⟨v2, h2, E2, rfl, o2, m2, fr2, j2⟩ := e6_in (l := l) (hm.km fr1.km) hI hJ hK r1 r2
  exact ⟨_, h1, h2, E1, E2, LI.mk2 x1 fr1.km out m2 fr2 mi (fun _ _ _ => rfl) ((j2 9 (by decide)).trans h9), by have := fr1.1; omega, fr2.1, _, (hm.km fr1.km).o⟩
theorem s_day {z1 z2 : Int} (x : LI h) (r1 : -2147483648 ≤ z1 ∧ z1 < 2147483648) (r2 : -2147483648 ≤ z2 ∧ z2 < 2147483648) : ∃ (r : Int32) (h1 h2 : ev_H), Ev l 4 yX5_day.cls yX5_day.name cX5_day 4 (some .int) 0 [some (.ref 0), some (.int (iI z1)), some (.int (iI z2)), none] [] h (some (.int r)) h1 ∧ Ev l 6 yX6_day.cls yX6_day.name cX6_day 3 (some .int) 0 [some (.ref 34), some (.int (iI z1)), some (.int (iI z2))] [] h1 (some (.int r)) h2 ∧ LI h2 ∧ h1.length ≤ h.length + 48 ∧ h2.length = h1.length ∧ ∃ fs, h1[34]? = some (.inr (6, fs)) := by
  obtain ⟨im, o, A, F, F2, w, x, hm, mi, h9, out⟩ := x
  obtain ⟨⟨hI, hJ, hT, hK, hU⟩, h01, hW1, hS, -⟩ := id mi
  have hH := mi.hd
  obtain ⟨v1, h1, E1, rfl, fr1, rc1⟩ := e5_day (l := l) x.rc hI hJ hK r1 r2
  have x1 := x.frS fr1 rc1
  obtain ⟨v2, h2, E2, rfl, o2, m2, fr2, j2⟩ := e6_day (l := l) (hm.km fr1.km) hI hJ hK r1 r2
  exact ⟨_, h1, h2, E1, E2, LI.mk2 x1 fr1.km out m2 fr2 mi (fun _ _ _ => rfl) ((j2 9 (by decide)).trans h9), by have := fr1.1; omega, fr2.1, _, (hm.km fr1.km).o⟩
theorem s_dayBy {z1 z2 z3 : Int} (x : LI h) (r1 : -2147483648 ≤ z1 ∧ z1 < 2147483648) (r2 : -2147483648 ≤ z2 ∧ z2 < 2147483648) (r3 : -2147483648 ≤ z3 ∧ z3 < 2147483648) : ∃ (r : Int32) (h1 h2 : ev_H), Ev l 4 yX5_dayBy.cls yX5_dayBy.name cX5_dayBy 5 (some .int) 0 [some (.ref 0), some (.int (iI z1)), some (.int (iI z2)), some (.int (iI z3)), none] [] h (some (.int r)) h1 ∧ Ev l 5 yX6_dayBy.cls yX6_dayBy.name cX6_dayBy 4 (some .int) 0 [some (.ref 34), some (.int (iI z1)), some (.int (iI z2)), some (.int (iI z3))] [] h1 (some (.int r)) h2 ∧ LI h2 ∧ h1.length ≤ h.length + 48 ∧ h2.length = h1.length ∧ ∃ fs, h1[34]? = some (.inr (6, fs)) := by
  obtain ⟨im, o, A, F, F2, w, x, hm, mi, h9, out⟩ := x
  obtain ⟨⟨hI, hJ, hT, hK, hU⟩, h01, hW1, hS, -⟩ := id mi
  have hH := mi.hd
  obtain ⟨v1, h1, E1, rfl, fr1, rc1⟩ := e5_dayBy (l := l) x.rc hI hJ hK r1 r2 r3
  have x1 := x.frS fr1 rc1
  obtain ⟨v2, h2, E2, rfl, o2, m2, fr2, j2⟩ := e6_dayBy (l := l) (hm.km fr1.km) hI hJ hK r1 r2 r3
  exact ⟨_, h1, h2, E1, E2, LI.mk2 x1 fr1.km out m2 fr2 mi (fun _ _ _ => rfl) ((j2 9 (by decide)).trans h9), by have := fr1.1; omega, fr2.1, _, (hm.km fr1.km).o⟩
theorem s_gain {z1 z2 z3 : Int} (x : LI h) (r1 : -2147483648 ≤ z1 ∧ z1 < 2147483648) (r2 : -2147483648 ≤ z2 ∧ z2 < 2147483648) (r3 : -2147483648 ≤ z3 ∧ z3 < 2147483648) : ∃ (r : Int32) (h1 h2 : ev_H), Ev l 4 yX5_gain.cls yX5_gain.name cX5_gain 5 (some .int) 0 [some (.ref 0), some (.int (iI z1)), some (.int (iI z2)), some (.int (iI z3)), none] [] h (some (.int r)) h1 ∧ Ev l 5 yX6_gain.cls yX6_gain.name cX6_gain 4 (some .int) 0 [some (.ref 34), some (.int (iI z1)), some (.int (iI z2)), some (.int (iI z3))] [] h1 (some (.int r)) h2 ∧ LI h2 ∧ h1.length ≤ h.length + 48 ∧ h2.length = h1.length ∧ ∃ fs, h1[34]? = some (.inr (6, fs)) := by
  obtain ⟨im, o, A, F, F2, w, x, hm, mi, h9, out⟩ := x
  obtain ⟨⟨hI, hJ, hT, hK, hU⟩, h01, hW1, hS, -⟩ := id mi
  have hH := mi.hd
  obtain ⟨v1, h1, E1, rfl, fr1, rc1⟩ := e5_gain (l := l) x.rc hI hJ hK r1 r2 r3
  have x1 := x.frS fr1 rc1
  obtain ⟨v2, h2, E2, rfl, o2, m2, fr2, j2⟩ := e6_gain (l := l) (hm.km fr1.km) hI hJ hK r1 r2 r3
  exact ⟨_, h1, h2, E1, E2, LI.mk2 x1 fr1.km out m2 fr2 mi (fun _ _ _ => rfl) ((j2 9 (by decide)).trans h9), by have := fr1.1; omega, fr2.1, _, (hm.km fr1.km).o⟩
theorem s_begins {z1 z2 : Int} (x : LI h) (r1 : -2147483648 ≤ z1 ∧ z1 < 2147483648) (r2 : -2147483648 ≤ z2 ∧ z2 < 2147483648) : ∃ (r : Int32) (h1 h2 : ev_H), Ev l 6 yX5_begins.cls yX5_begins.name cX5_begins 4 (some .int) 0 [some (.ref 0), some (.int (iI z1)), some (.int (iI z2)), none] [] h (some (.int r)) h1 ∧ Ev l 7 yX6_begins.cls yX6_begins.name cX6_begins 3 (some .int) 0 [some (.ref 34), some (.int (iI z1)), some (.int (iI z2))] [] h1 (some (.int r)) h2 ∧ LI h2 ∧ h1.length ≤ h.length + 48 ∧ h2.length = h1.length ∧ ∃ fs, h1[34]? = some (.inr (6, fs)) := by
  obtain ⟨im, o, A, F, F2, w, x, hm, mi, h9, out⟩ := x
  obtain ⟨⟨hI, hJ, hT, hK, hU⟩, h01, hW1, hS, -⟩ := id mi
  have hH := mi.hd
  obtain ⟨v1, h1, E1, rfl, fr1, rc1⟩ := e5_begins (l := l) x.rc hI hJ hK r1 r2
  have x1 := x.frS fr1 rc1
  obtain ⟨v2, h2, E2, rfl, o2, m2, fr2, j2⟩ := e6_begins (l := l) (hm.km fr1.km) hI hJ hK r1 r2
  exact ⟨_, h1, h2, E1, E2, LI.mk2 x1 fr1.km out m2 fr2 mi (fun _ _ _ => rfl) ((j2 9 (by decide)).trans h9), by have := fr1.1; omega, fr2.1, _, (hm.km fr1.km).o⟩
theorem s_longDay {z1 z2 : Int} (x : LI h) (r1 : -2147483648 ≤ z1 ∧ z1 < 2147483648) (r2 : -2147483648 ≤ z2 ∧ z2 < 2147483648) : ∃ (r : Int32) (h1 h2 : ev_H), Ev l 7 yX5_longDay.cls yX5_longDay.name cX5_longDay 7 (some .int) 0 [some (.ref 0), some (.int (iI z1)), some (.int (iI z2)), none, none, none, none] [] h (some (.int r)) h1 ∧ Ev l 7 yX6_longDay.cls yX6_longDay.name cX6_longDay 5 (some .int) 0 [some (.ref 34), some (.int (iI z1)), some (.int (iI z2)), none, none] [] h1 (some (.int r)) h2 ∧ LI h2 ∧ h1.length ≤ h.length + 48 ∧ h2.length = h1.length ∧ ∃ fs, h1[34]? = some (.inr (6, fs)) := by
  obtain ⟨im, o, A, F, F2, w, x, hm, mi, h9, out⟩ := x
  obtain ⟨⟨hI, hJ, hT, hK, hU⟩, h01, hW1, hS, -⟩ := id mi
  have hH := mi.hd
  obtain ⟨v1, h1, E1, rfl, fr1, rc1⟩ := e5_longDay (l := l) x.rc hI hJ hK r1 r2
  have x1 := x.frS fr1 rc1
  obtain ⟨v2, h2, E2, rfl, o2, m2, fr2, j2⟩ := e6_longDay (l := l) (hm.km fr1.km) hI hJ hK r1 r2
  exact ⟨_, h1, h2, E1, E2, LI.mk2 x1 fr1.km out m2 fr2 mi (fun _ _ _ => rfl) ((j2 9 (by decide)).trans h9), by have := fr1.1; omega, fr2.1, _, (hm.km fr1.km).o⟩
theorem s_often {z1 z2 z3 : Int} (x : LI h) (r1 : -2147483648 ≤ z1 ∧ z1 < 2147483648) (r2 : -2147483648 ≤ z2 ∧ z2 < 2147483648) (r3 : -2147483648 ≤ z3 ∧ z3 < 2147483648) : ∃ (r : Int32) (h1 h2 : ev_H), Ev l 7 yX5_often.cls yX5_often.name cX5_often 8 (some .int) 0 [some (.ref 0), some (.int (iI z1)), some (.int (iI z2)), some (.int (iI z3)), none, none, none, none] [] h (some (.int r)) h1 ∧ Ev l 6 yX6_often.cls yX6_often.name cX6_often 8 (some .int) 0 [some (.ref 34), some (.int (iI z1)), some (.int (iI z2)), some (.int (iI z3)), none, none, none, none] [] h1 (some (.int r)) h2 ∧ LI h2 ∧ h1.length ≤ h.length + 48 ∧ h2.length = h1.length ∧ ∃ fs, h1[34]? = some (.inr (6, fs)) := by
  obtain ⟨im, o, A, F, F2, w, x, hm, mi, h9, out⟩ := x
  obtain ⟨⟨hI, hJ, hT, hK, hU⟩, h01, hW1, hS, -⟩ := id mi
  have hH := mi.hd
  obtain ⟨v1, h1, E1, rfl, fr1, rc1⟩ := e5_often (l := l) x.rc hI hJ hK r1 r2 r3
  have x1 := x.frS fr1 rc1
  obtain ⟨v2, h2, E2, rfl, o2, m2, fr2, j2⟩ := e6_often (l := l) (hm.km fr1.km) hI hJ hK r1 r2 r3
  exact ⟨_, h1, h2, E1, E2, LI.mk2 x1 fr1.km out m2 fr2 mi (fun _ _ _ => rfl) ((j2 9 (by decide)).trans h9), by have := fr1.1; omega, fr2.1, _, (hm.km fr1.km).o⟩
theorem s_duty {z1 z2 z3 : Int} (x : LI h) (r1 : -2147483648 ≤ z1 ∧ z1 < 2147483648) (r2 : -2147483648 ≤ z2 ∧ z2 < 2147483648) (r3 : -2147483648 ≤ z3 ∧ z3 < 2147483648) : ∃ (r : Int32) (h1 h2 : ev_H), Ev l 7 yX5_duty.cls yX5_duty.name cX5_duty 8 (some .int) 0 [some (.ref 0), some (.int (iI z1)), some (.int (iI z2)), some (.int (iI z3)), none, none, none, none] [] h (some (.int r)) h1 ∧ Ev l 7 yX6_duty.cls yX6_duty.name cX6_duty 6 (some .int) 0 [some (.ref 34), some (.int (iI z1)), some (.int (iI z2)), some (.int (iI z3)), none, none] [] h1 (some (.int r)) h2 ∧ LI h2 ∧ h1.length ≤ h.length + 48 ∧ h2.length = h1.length ∧ ∃ fs, h1[34]? = some (.inr (6, fs)) := by
  obtain ⟨im, o, A, F, F2, w, x, hm, mi, h9, out⟩ := x
  obtain ⟨⟨hI, hJ, hT, hK, hU⟩, h01, hW1, hS, -⟩ := id mi
  have hH := mi.hd
  obtain ⟨v1, h1, E1, rfl, fr1, rc1⟩ := e5_duty (l := l) x.rc hI hJ hK r1 r2 r3
  have x1 := x.frS fr1 rc1
  obtain ⟨v2, h2, E2, rfl, o2, m2, fr2, j2⟩ := e6_duty (l := l) (hm.km fr1.km) hI hJ hK r1 r2 r3
  exact ⟨_, h1, h2, E1, E2, LI.mk2 x1 fr1.km out m2 fr2 mi (fun _ _ _ => rfl) ((j2 9 (by decide)).trans h9), by have := fr1.1; omega, fr2.1, _, (hm.km fr1.km).o⟩
theorem s_differ {z1 z2 z3 : Int} (x : LI h) (r1 : -2147483648 ≤ z1 ∧ z1 < 2147483648) (r2 : -2147483648 ≤ z2 ∧ z2 < 2147483648) (r3 : -2147483648 ≤ z3 ∧ z3 < 2147483648) : ∃ (r : Int32) (h1 h2 : ev_H), Ev l 4 yX5_differ.cls yX5_differ.name cX5_differ 6 (some .int) 0 [some (.ref 0), some (.int (iI z1)), some (.int (iI z2)), some (.int (iI z3)), none, none] [] h (some (.int r)) h1 ∧ Ev l 6 yX6_differ.cls yX6_differ.name cX6_differ 4 (some .int) 0 [some (.ref 34), some (.int (iI z1)), some (.int (iI z2)), some (.int (iI z3))] [] h1 (some (.int r)) h2 ∧ LI h2 ∧ h1.length ≤ h.length + 48 ∧ h2.length = h1.length ∧ ∃ fs, h1[34]? = some (.inr (6, fs)) := by
  obtain ⟨im, o, A, F, F2, w, x, hm, mi, h9, out⟩ := x
  obtain ⟨⟨hI, hJ, hT, hK, hU⟩, h01, hW1, hS, -⟩ := id mi
  have hH := mi.hd
  obtain ⟨v1, h1, E1, rfl, fr1, rc1⟩ := e5_differ (l := l) x.rc hI hJ hK r1 r2 r3
  have x1 := x.frS fr1 rc1
  obtain ⟨v2, h2, E2, rfl, o2, m2, fr2, j2⟩ := e6_differ (l := l) (hm.km fr1.km) hI hJ hK r1 r2 r3
  exact ⟨_, h1, h2, E1, E2, LI.mk2 x1 fr1.km out m2 fr2 mi (fun _ _ _ => rfl) ((j2 9 (by decide)).trans h9), by have := fr1.1; omega, fr2.1, _, (hm.km fr1.km).o⟩
theorem s_agree {z1 z2 z3 : Int} (x : LI h) (r1 : -2147483648 ≤ z1 ∧ z1 < 2147483648) (r2 : -2147483648 ≤ z2 ∧ z2 < 2147483648) (r3 : -2147483648 ≤ z3 ∧ z3 < 2147483648) : ∃ (r : Int32) (h1 h2 : ev_H), Ev l 7 yX5_agree.cls yX5_agree.name cX5_agree 8 (some .int) 0 [some (.ref 0), some (.int (iI z1)), some (.int (iI z2)), some (.int (iI z3)), none, none, none, none] [] h (some (.int r)) h1 ∧ Ev l 6 yX6_agree.cls yX6_agree.name cX6_agree 5 (some .int) 0 [some (.ref 34), some (.int (iI z1)), some (.int (iI z2)), some (.int (iI z3)), none] [] h1 (some (.int r)) h2 ∧ LI h2 ∧ h1.length ≤ h.length + 48 ∧ h2.length = h1.length ∧ ∃ fs, h1[34]? = some (.inr (6, fs)) := by
  obtain ⟨im, o, A, F, F2, w, x, hm, mi, h9, out⟩ := x
  obtain ⟨⟨hI, hJ, hT, hK, hU⟩, h01, hW1, hS, -⟩ := id mi
  have hH := mi.hd
  obtain ⟨v1, h1, E1, rfl, fr1, rc1⟩ := e5_agree (l := l) x.rc hI hJ hK r1 r2 r3
  have x1 := x.frS fr1 rc1
  obtain ⟨v2, h2, E2, rfl, o2, m2, fr2, j2⟩ := e6_agree (l := l) (hm.km fr1.km) hI hJ hK r1 r2 r3
  exact ⟨_, h1, h2, E1, E2, LI.mk2 x1 fr1.km out m2 fr2 mi (fun _ _ _ => rfl) ((j2 9 (by decide)).trans h9), by have := fr1.1; omega, fr2.1, _, (hm.km fr1.km).o⟩
theorem s_part {z1 z2 z3 z4 : Int} (x : LI h) (r1 : -2147483648 ≤ z1 ∧ z1 < 2147483648) (r2 : -2147483648 ≤ z2 ∧ z2 < 2147483648) (r3 : -2147483648 ≤ z3 ∧ z3 < 2147483648) (r4 : -2147483648 ≤ z4 ∧ z4 < 2147483648) : ∃ (r : Int32) (h1 h2 : ev_H), Ev l 7 yX5_part.cls yX5_part.name cX5_part 8 (some .int) 0 [some (.ref 0), some (.int (iI z1)), some (.int (iI z2)), some (.int (iI z3)), some (.int (iI z4)), none, none, none] [] h (some (.int r)) h1 ∧ Ev l 6 yX6_part.cls yX6_part.name cX6_part 6 (some .int) 0 [some (.ref 34), some (.int (iI z1)), some (.int (iI z2)), some (.int (iI z3)), some (.int (iI z4)), none] [] h1 (some (.int r)) h2 ∧ LI h2 ∧ h1.length ≤ h.length + 48 ∧ h2.length = h1.length ∧ ∃ fs, h1[34]? = some (.inr (6, fs)) := by
  obtain ⟨im, o, A, F, F2, w, x, hm, mi, h9, out⟩ := x
  obtain ⟨⟨hI, hJ, hT, hK, hU⟩, h01, hW1, hS, -⟩ := id mi
  have hH := mi.hd
  obtain ⟨v1, h1, E1, rfl, fr1, rc1⟩ := e5_part (l := l) x.rc hI hJ hK r1 r2 r3 r4
  have x1 := x.frS fr1 rc1
  obtain ⟨v2, h2, E2, rfl, o2, m2, fr2, j2⟩ := e6_part (l := l) (hm.km fr1.km) hI hJ hK r1 r2 r3 r4
  exact ⟨_, h1, h2, E1, E2, LI.mk2 x1 fr1.km out m2 fr2 mi (fun _ _ _ => rfl) ((j2 9 (by decide)).trans h9), by have := fr1.1; omega, fr2.1, _, (hm.km fr1.km).o⟩
theorem s_rounds {z1 z2 : Int} (x : LI h) (r1 : -2147483648 ≤ z1 ∧ z1 < 2147483648) (r2 : -2147483648 ≤ z2 ∧ z2 < 2147483648) : ∃ (r : Int32) (h1 h2 : ev_H), Ev l 4 yX5_rounds.cls yX5_rounds.name cX5_rounds 4 (some .int) 0 [some (.ref 0), some (.int (iI z1)), some (.int (iI z2)), none] [] h (some (.int r)) h1 ∧ Ev l 4 yX6_rounds.cls yX6_rounds.name cX6_rounds 3 (some .int) 0 [some (.ref 34), some (.int (iI z1)), some (.int (iI z2))] [] h1 (some (.int r)) h2 ∧ LI h2 ∧ h1.length ≤ h.length + 48 ∧ h2.length = h1.length ∧ ∃ fs, h1[34]? = some (.inr (6, fs)) := by
  obtain ⟨im, o, A, F, F2, w, x, hm, mi, h9, out⟩ := x
  obtain ⟨⟨hI, hJ, hT, hK, hU⟩, h01, hW1, hS, -⟩ := id mi
  have hH := mi.hd
  obtain ⟨v1, h1, E1, rfl, fr1, rc1⟩ := e5_rounds (l := l) x.rc hI hJ hK r1 r2
  have x1 := x.frS fr1 rc1
  obtain ⟨v2, h2, E2, rfl, o2, m2, fr2, j2⟩ := e6_rounds (l := l) (hm.km fr1.km) hI hJ hK r1 r2
  exact ⟨_, h1, h2, E1, E2, LI.mk2 x1 fr1.km out m2 fr2 mi (fun _ _ _ => rfl) ((j2 9 (by decide)).trans h9), by have := fr1.1; omega, fr2.1, _, (hm.km fr1.km).o⟩
theorem s_judge {z1 z2 z3 z4 : Int} (x : LI h) (r1 : -2147483648 ≤ z1 ∧ z1 < 2147483648) (r2 : -2147483648 ≤ z2 ∧ z2 < 2147483648) (r3 : -2147483648 ≤ z3 ∧ z3 < 2147483648) (r4 : -2147483648 ≤ z4 ∧ z4 < 2147483648) : ∃ (r : Int32) (h1 h2 : ev_H), Ev l 5 yX5_judge.cls yX5_judge.name cX5_judge 10 (some .int) 0 [some (.ref 0), some (.int (iI z1)), some (.int (iI z2)), some (.int (iI z3)), some (.int (iI z4)), none, none, none, none, none] [] h (some (.int r)) h1 ∧ Ev l 7 yX6_judge.cls yX6_judge.name cX6_judge 8 (some .int) 0 [some (.ref 34), some (.int (iI z1)), some (.int (iI z2)), some (.int (iI z3)), some (.int (iI z4)), none, none, none] [] h1 (some (.int r)) h2 ∧ LI h2 ∧ h1.length ≤ h.length + 48 ∧ h2.length = h1.length ∧ ∃ fs, h1[34]? = some (.inr (6, fs)) := by
  obtain ⟨im, o, A, F, F2, w, x, hm, mi, h9, out⟩ := x
  obtain ⟨⟨hI, hJ, hT, hK, hU⟩, h01, hW1, hS, -⟩ := id mi
  have hH := mi.hd
  obtain ⟨v1, h1, E1, rfl, fr1, rc1⟩ := e5_judge (l := l) x.rc x.sc hS hI hJ hK r1 r2 r3 r4
  have x1 := x.frS fr1 rc1
  obtain ⟨v2, h2, E2, rfl, o2, m2, fr2, j2⟩ := e6_judge (l := l) (hm.km fr1.km) hI hJ hK hS r1 r2 r3 r4
  exact ⟨_, h1, h2, E1, E2, LI.mk2 x1 fr1.km out m2 fr2 mi (fun _ _ _ => rfl) ((j2 9 (by decide)).trans h9), by have := fr1.1; omega, fr2.1, _, (hm.km fr1.km).o⟩
theorem s_kept {z1 z2 z3 : Int} (x : LI h) (r1 : -2147483648 ≤ z1 ∧ z1 < 2147483648) (r2 : -2147483648 ≤ z2 ∧ z2 < 2147483648) (r3 : -2147483648 ≤ z3 ∧ z3 < 2147483648) : ∃ (r : Int32) (h1 h2 : ev_H), Ev l 4 yX5_kept.cls yX5_kept.name cX5_kept 7 (some .int) 0 [some (.ref 0), some (.int (iI z1)), some (.int (iI z2)), some (.int (iI z3)), none, none, none] [] h (some (.int r)) h1 ∧ Ev l 5 yX6_kept.cls yX6_kept.name cX6_kept 5 (some .int) 0 [some (.ref 34), some (.int (iI z1)), some (.int (iI z2)), some (.int (iI z3)), none] [] h1 (some (.int r)) h2 ∧ LI h2 ∧ h1.length ≤ h.length + 48 ∧ h2.length = h1.length ∧ ∃ fs, h1[34]? = some (.inr (6, fs)) := by
  obtain ⟨im, o, A, F, F2, w, x, hm, mi, h9, out⟩ := x
  obtain ⟨⟨hI, hJ, hT, hK, hU⟩, h01, hW1, hS, -⟩ := id mi
  have hH := mi.hd
  obtain ⟨v1, h1, E1, rfl, fr1, rc1⟩ := e5_kept (l := l) x.rc x.sc hS hI hJ hK r1 r2 r3
  have x1 := x.frS fr1 rc1
  obtain ⟨v2, h2, E2, rfl, o2, m2, fr2, j2⟩ := e6_kept (l := l) (hm.km fr1.km) hI hJ hK hS r1 r2 r3
  exact ⟨_, h1, h2, E1, E2, LI.mk2 x1 fr1.km out m2 fr2 mi (fun _ _ _ => rfl) ((j2 9 (by decide)).trans h9), by have := fr1.1; omega, fr2.1, _, (hm.km fr1.km).o⟩
theorem s_log {z1 z2 : Int} (x : LI h) (r1 : -2147483648 ≤ z1 ∧ z1 < 2147483648) (r2 : -2147483648 ≤ z2 ∧ z2 < 2147483648) : ∃ (r : Int32) (h1 h2 : ev_H), Ev l 5 yX5_log.cls yX5_log.name cX5_log 7 (some .int) 0 [some (.ref 0), some (.int (iI z1)), some (.int (iI z2)), none, none, none, none] [] h (some (.int r)) h1 ∧ Ev l 5 yX6_log.cls yX6_log.name cX6_log 9 (some .int) 0 [some (.ref 34), some (.int (iI z1)), some (.int (iI z2)), none, none, none, none, none, none] [] h1 (some (.int r)) h2 ∧ LI h2 ∧ h1.length ≤ h.length + 48 ∧ h2.length = h1.length ∧ ∃ fs, h1[34]? = some (.inr (6, fs)) := by
  obtain ⟨im, o, A, F, F2, w, x, hm, mi, h9, out⟩ := x
  obtain ⟨⟨hI, hJ, hT, hK, hU⟩, h01, hW1, hS, -⟩ := id mi
  have hH := mi.hd
  obtain ⟨v1, h1, E1, rfl, fr1, rc1⟩ := e5_log (l := l) x.rc x.sc hS hI hJ hK r1 r2
  have x1 := x.frS fr1 rc1
  obtain ⟨v2, h2, E2, rfl, o2, m2, fr2, j2⟩ := e6_log (l := l) (hm.km fr1.km) hI hJ hK hS r1 r2
  exact ⟨_, h1, h2, E1, E2, LI.mk2 x1 fr1.km out m2 fr2 mi (fun _ _ _ => rfl) ((j2 9 (by decide)).trans h9), by have := fr1.1; omega, fr2.1, _, (hm.km fr1.km).o⟩
theorem s_plan {z1 z2 z3 : Int} (x : LI h) (r1 : -2147483648 ≤ z1 ∧ z1 < 2147483648) (r2 : -2147483648 ≤ z2 ∧ z2 < 2147483648) (r3 : -2147483648 ≤ z3 ∧ z3 < 2147483648) : ∃ (r : Int32) (h1 h2 : ev_H), Ev l 5 yX5_plan.cls yX5_plan.name cX5_plan 7 (some .int) 0 [some (.ref 0), some (.int (iI z1)), some (.int (iI z2)), some (.int (iI z3)), none, none, none] [] h (some (.int r)) h1 ∧ Ev l 5 yX6_plan.cls yX6_plan.name cX6_plan 11 (some .int) 0 [some (.ref 34), some (.int (iI z1)), some (.int (iI z2)), some (.int (iI z3)), none, none, none, none, none, none, none] [] h1 (some (.int r)) h2 ∧ LI h2 ∧ h1.length ≤ h.length + 48 ∧ h2.length = h1.length ∧ ∃ fs, h1[34]? = some (.inr (6, fs)) := by
  obtain ⟨im, o, A, F, F2, w, x, hm, mi, h9, out⟩ := x
  obtain ⟨⟨hI, hJ, hT, hK, hU⟩, h01, hW1, hS, -⟩ := id mi
  have hH := mi.hd
  obtain ⟨v1, h1, E1, rfl, fr1, rc1⟩ := e5_plan (l := l) x.rc x.sc hS hI hJ hK r1 r2 r3
  have x1 := x.frS fr1 rc1
  obtain ⟨v2, h2, E2, rfl, o2, m2, fr2, j2⟩ := e6_plan (l := l) (hm.km fr1.km) hI hJ hK hS r1 r2 r3
  exact ⟨_, h1, h2, E1, E2, LI.mk2 x1 fr1.km out m2 fr2 mi (fun _ _ _ => rfl) ((j2 9 (by decide)).trans h9), by have := fr1.1; omega, fr2.1, _, (hm.km fr1.km).o⟩
theorem s_choose {z1 z2 : Int} (x : LI h) (r1 : -2147483648 ≤ z1 ∧ z1 < 2147483648) (r2 : -2147483648 ≤ z2 ∧ z2 < 2147483648) : ∃ (r : Int32) (h1 h2 : ev_H), Ev l 1 yX5_choose.cls yX5_choose.name cX5_choose 4 (some .int) 0 [some (.ref 0), some (.int (iI z1)), some (.int (iI z2)), none] [] h (some (.int r)) h1 ∧ Ev l 2 yX6_choose.cls yX6_choose.name cX6_choose 3 (some .int) 0 [some (.ref 34), some (.int (iI z1)), some (.int (iI z2))] [] h1 (some (.int r)) h2 ∧ LI h2 ∧ h1.length ≤ h.length + 48 ∧ h2.length = h1.length ∧ ∃ fs, h1[34]? = some (.inr (6, fs)) := by
  obtain ⟨im, o, A, F, F2, w, x, hm, mi, h9, out⟩ := x
  obtain ⟨⟨hI, hJ, hT, hK, hU⟩, h01, hW1, hS, -⟩ := id mi
  have hH := mi.hd
  obtain ⟨v1, h1, E1, rfl, km, F', F2', w', x1⟩ := c_choose (l := l) x hI r1 r2
  obtain ⟨v2, h2, E2, rfl, m2, fr2⟩ := e6_choose (l := l) (hm.km km) hI r1 r2
  exact ⟨_, h1, h2, E1, E2, LI.mk2 x1 km out m2 fr2 (mi.w0 mi.1.choose (Int.le_of_eq (by unfold sChooseS; split; exact (upI_n (by omega)).symm; rfl))) (fun _ _ _ => rfl) h9, km.2.2, fr2.1, _, (hm.km km).o⟩
theorem s_line {z1 : Int} (x : LI h) (r1 : -2147483648 ≤ z1 ∧ z1 < 2147483648) : ∃ (r : Int32) (h1 h2 : ev_H), Ev l 1 yX5_line.cls yX5_line.name cX5_line 3 (some .int) 0 [some (.ref 0), some (.int (iI z1)), none] [] h (some (.int r)) h1 ∧ Ev l 2 yX6_line.cls yX6_line.name cX6_line 2 (some .int) 0 [some (.ref 34), some (.int (iI z1))] [] h1 (some (.int r)) h2 ∧ LI h2 ∧ h1.length ≤ h.length + 48 ∧ h2.length = h1.length ∧ ∃ fs, h1[34]? = some (.inr (6, fs)) := by
  obtain ⟨im, o, A, F, F2, w, x, hm, mi, h9, out⟩ := x
  obtain ⟨⟨hI, hJ, hT, hK, hU⟩, h01, hW1, hS, -⟩ := id mi
  have hH := mi.hd
  obtain ⟨v1, h1, E1, rfl, km, F', F2', w', x1⟩ := c_line (l := l) x hI r1
  obtain ⟨v2, h2, E2, rfl, m2, fr2⟩ := e6_line (l := l) (hm.km km) hI r1
  exact ⟨_, h1, h2, E1, E2, LI.mk2 x1 km out m2 fr2 (mi.w0 mi.1.line (Int.le_of_eq (by unfold sLineS; split; exact (upI_n (by omega)).symm; rfl))) (fun _ _ _ => rfl) h9, km.2.2, fr2.1, _, (hm.km km).o⟩
theorem s_traveller {z1 z2 z3 : Int} (x : LI h) (r1 : -2147483648 ≤ z1 ∧ z1 < 2147483648) (r2 : -2147483648 ≤ z2 ∧ z2 < 2147483648) (r3 : -2147483648 ≤ z3 ∧ z3 < 2147483648) : ∃ (r : Int32) (h1 h2 : ev_H), Ev l 2 yX5_traveller.cls yX5_traveller.name cX5_traveller 5 (some .int) 0 [some (.ref 0), some (.int (iI z1)), some (.int (iI z2)), some (.int (iI z3)), none] [] h (some (.int r)) h1 ∧ Ev l 2 yX6_traveller.cls yX6_traveller.name cX6_traveller 6 (some .int) 0 [some (.ref 34), some (.int (iI z1)), some (.int (iI z2)), some (.int (iI z3)), none, none] [] h1 (some (.int r)) h2 ∧ LI h2 ∧ h1.length ≤ h.length + 48 ∧ h2.length = h1.length ∧ ∃ fs, h1[34]? = some (.inr (6, fs)) := by
  obtain ⟨im, o, A, F, F2, w, x, hm, mi, h9, out⟩ := x
  obtain ⟨⟨hI, hJ, hT, hK, hU⟩, h01, hW1, hS, -⟩ := id mi
  have hH := mi.hd
  obtain ⟨v1, h1, E1, ev, km, F', F2', w', x1⟩ := c_traveller (l := l) x hI hS r1 r2 r3
  obtain ⟨v2, h2, E2, ew, m2, fr2⟩ := e6_traveller (l := l) (hm.km km) hI r1 r2 r3
  cases hb : trB (A 0) z1 z2 z3 with
  | true =>
    simp only [hb, ↓reduceIte] at ev ew x1 m2
    subst ev
    subst ew
    exact ⟨_, h1, h2, E1, E2, LI.mk2 x1 km out m2 fr2 (mi.w0 (mi.1.trav hb) (by rw [(trS_v hI.2.1.1).1]; omega)) (fun _ _ _ => rfl) h9, km.2.2, fr2.1, _, (hm.km km).o⟩
  | false =>
    simp only [hb, Bool.false_eq_true, ↓reduceIte] at ev ew x1 m2
    subst ev
    subst ew
    exact ⟨_, h1, h2, E1, E2, LI.mk2 x1 km out m2 fr2 mi (fun _ _ _ => rfl) h9, km.2.2, fr2.1, _, (hm.km km).o⟩
theorem s_leg {z1 z2 z3 z4 z5 : Int} (x : LI h) (r1 : -2147483648 ≤ z1 ∧ z1 < 2147483648) (r2 : -2147483648 ≤ z2 ∧ z2 < 2147483648) (r3 : -2147483648 ≤ z3 ∧ z3 < 2147483648) (r4 : -2147483648 ≤ z4 ∧ z4 < 2147483648) (r5 : -2147483648 ≤ z5 ∧ z5 < 2147483648) (hb0 : z3 = 0 ∨ z3 = 1) : ∃ (r : Int32) (h1 h2 : ev_H), Ev l 1 yX5_leg.cls yX5_leg.name cX5_leg 7 (some .int) 0 [some (.ref 0), some (.int (iI z1)), some (.int (iI z2)), some (.int (iI z3)), some (.int (iI z4)), some (.int (iI z5)), none] [] h (some (.int r)) h1 ∧ Ev l 3 yX6_leg.cls yX6_leg.name cX6_leg 8 (some .int) 0 [some (.ref 34), some (.int (iI z1)), some (.int (iI z2)), some (.int (iI z3)), some (.int (iI z4)), some (.int (iI z5)), none, none] [] h1 (some (.int r)) h2 ∧ LI h2 ∧ h1.length ≤ h.length + 48 ∧ h2.length = h1.length ∧ ∃ fs, h1[34]? = some (.inr (6, fs)) := by
  obtain ⟨im, o, A, F, F2, w, x, hm, mi, h9, out⟩ := x
  obtain ⟨⟨hI, hJ, hT, hK, hU⟩, h01, hW1, hS, -⟩ := id mi
  have hH := mi.hd
  obtain ⟨v1, h1, E1, ev, km, F', F2', w', x1⟩ := c_leg (l := l) x hI hJ hK hU hb0 r1 r2 r4 r5
  obtain ⟨v2, h2, E2, ew, m2, fr2⟩ := e6_leg (l := l) (hm.km km) hI hK r1 r2 r3 r4 r5
  cases hb : lgB (A 0) z1 z2 z4 z5 with
  | true =>
    simp only [hb, ↓reduceIte] at ev ew x1 m2
    subst ev
    subst ew
    exact ⟨_, h1, h2, E1, E2, LI.mk2 x1 km out m2 fr2 (mi.w0 (mi.1.leg hb) (Int.le_of_eq (lgS_1 mi.1 hb).symm)) (fun _ _ _ => rfl) h9, km.2.2, fr2.1, _, (hm.km km).o⟩
  | false =>
    simp only [hb, Bool.false_eq_true, ↓reduceIte] at ev ew x1 m2
    subst ev
    subst ew
    exact ⟨_, h1, h2, E1, E2, LI.mk2 x1 km out m2 fr2 mi (fun _ _ _ => rfl) h9, km.2.2, fr2.1, _, (hm.km km).o⟩
theorem s_captain {z1 z2 z3 : Int} (x : LI h) (r1 : -2147483648 ≤ z1 ∧ z1 < 2147483648) (r2 : -2147483648 ≤ z2 ∧ z2 < 2147483648) (r3 : -2147483648 ≤ z3 ∧ z3 < 2147483648) : ∃ (r : Int32) (h1 h2 : ev_H), Ev l 1 yX5_captain.cls yX5_captain.name cX5_captain 5 (some .int) 0 [some (.ref 0), some (.int (iI z1)), some (.int (iI z2)), some (.int (iI z3)), none] [] h (some (.int r)) h1 ∧ Ev l 2 yX6_captain.cls yX6_captain.name cX6_captain 5 (some .int) 0 [some (.ref 34), some (.int (iI z1)), some (.int (iI z2)), some (.int (iI z3)), none] [] h1 (some (.int r)) h2 ∧ LI h2 ∧ h1.length ≤ h.length + 48 ∧ h2.length = h1.length ∧ ∃ fs, h1[34]? = some (.inr (6, fs)) := by
  obtain ⟨im, o, A, F, F2, w, x, hm, mi, h9, out⟩ := x
  obtain ⟨⟨hI, hJ, hT, hK, hU⟩, h01, hW1, hS, -⟩ := id mi
  have hH := mi.hd
  obtain ⟨v1, h1, E1, ev, km, F', F2', w', x1⟩ := c_captain (l := l) x hI hK r1 r2 r3
  obtain ⟨v2, h2, E2, ew, m2, fr2⟩ := e6_captain (l := l) (hm.km km) hI hK r1 r2 r3
  cases hb : cpB (A 0) z1 z2 z3 with
  | true =>
    simp only [hb, ↓reduceIte] at ev ew x1 m2
    subst ev
    subst ew
    exact ⟨_, h1, h2, E1, E2, LI.mk2 x1 km out m2 fr2 (mi.w0 (mi.1.cap hb) (Int.le_of_eq (cpS_1 mi.1 hb).symm)) (fun _ _ _ => rfl) h9, km.2.2, fr2.1, _, (hm.km km).o⟩
  | false =>
    simp only [hb, Bool.false_eq_true, ↓reduceIte] at ev ew x1 m2
    subst ev
    subst ew
    exact ⟨_, h1, h2, E1, E2, LI.mk2 x1 km out m2 fr2 mi (fun _ _ _ => rfl) h9, km.2.2, fr2.1, _, (hm.km km).o⟩
theorem s_keep {z1 z2 z3 : Int} (x : LI h) (r1 : -2147483648 ≤ z1 ∧ z1 < 2147483648) (r2 : -2147483648 ≤ z2 ∧ z2 < 2147483648) (r3 : -2147483648 ≤ z3 ∧ z3 < 2147483648) : ∃ (r : Int32) (h1 h2 : ev_H), Ev l 1 yX5_keep.cls yX5_keep.name cX5_keep 6 (some .int) 0 [some (.ref 0), some (.int (iI z1)), some (.int (iI z2)), some (.int (iI z3)), none, none] [] h (some (.int r)) h1 ∧ Ev l 2 yX6_keep.cls yX6_keep.name cX6_keep 4 (some .int) 0 [some (.ref 34), some (.int (iI z1)), some (.int (iI z2)), some (.int (iI z3))] [] h1 (some (.int r)) h2 ∧ LI h2 ∧ h1.length ≤ h.length + 48 ∧ h2.length = h1.length ∧ ∃ fs, h1[34]? = some (.inr (6, fs)) := by
  obtain ⟨im, o, A, F, F2, w, x, hm, mi, h9, out⟩ := x
  obtain ⟨⟨hI, hJ, hT, hK, hU⟩, h01, hW1, hS, -⟩ := id mi
  have hH := mi.hd
  obtain ⟨v1, h1, E1, ev, km, F', F2', w', x1⟩ := c_keep (l := l) x hI hS r1 r2 r3
  obtain ⟨v2, h2, E2, ew, m2, fr2⟩ := e6_keep (l := l) (hm.km km) hI r1 r2 r3
  cases hb : kpB A z1 z2 z3 with
  | true =>
    simp only [hb, ↓reduceIte] at ev ew x1 m2
    subst ev
    subst ew
    exact ⟨_, h1, h2, E1, E2, LI.mk2 x1 km out m2 fr2 (mi.keep hb) (fun _ _ _ => rfl) h9, km.2.2, fr2.1, _, (hm.km km).o⟩
  | false =>
    simp only [hb, Bool.false_eq_true, ↓reduceIte] at ev ew x1 m2
    subst ev
    subst ew
    exact ⟨_, h1, h2, E1, E2, LI.mk2 x1 km out m2 fr2 mi (fun _ _ _ => rfl) h9, km.2.2, fr2.1, _, (hm.km km).o⟩
theorem s_row {z1 z2 z3 : Int} (x : LI h) (r1 : -2147483648 ≤ z1 ∧ z1 < 2147483648) (r2 : -2147483648 ≤ z2 ∧ z2 < 2147483648) (r3 : -2147483648 ≤ z3 ∧ z3 < 2147483648) : ∃ (r : Int32) (h1 h2 : ev_H), Ev l 1 yX5_row.cls yX5_row.name cX5_row 5 (some .int) 0 [some (.ref 0), some (.int (iI z1)), some (.int (iI z2)), some (.int (iI z3)), none] [] h (some (.int r)) h1 ∧ Ev l 2 yX6_row.cls yX6_row.name cX6_row 5 (some .int) 0 [some (.ref 34), some (.int (iI z1)), some (.int (iI z2)), some (.int (iI z3)), none] [] h1 (some (.int r)) h2 ∧ LI h2 ∧ h1.length ≤ h.length + 48 ∧ h2.length = h1.length ∧ ∃ fs, h1[34]? = some (.inr (6, fs)) := by
  obtain ⟨im, o, A, F, F2, w, x, hm, mi, h9, out⟩ := x
  obtain ⟨⟨hI, hJ, hT, hK, hU⟩, h01, hW1, hS, -⟩ := id mi
  have hH := mi.hd
  obtain ⟨v1, h1, E1, ev, km, F', F2', w', x1⟩ := c_row (l := l) x hI hS r1 r2 r3
  obtain ⟨v2, h2, E2, ew, m2, fr2⟩ := e6_row (l := l) (hm.km km)  r1 r2 r3
  cases hb : rwB z1 z2 z3 with
  | true =>
    simp only [hb, ↓reduceIte] at ev ew x1 m2
    subst ev
    subst ew
    exact ⟨_, h1, h2, E1, E2, LI.mk2 x1 km out m2 fr2 (mi.row hb) (fun _ _ _ => rfl) h9, km.2.2, fr2.1, _, (hm.km km).o⟩
  | false =>
    simp only [hb, Bool.false_eq_true, ↓reduceIte] at ev ew x1 m2
    subst ev
    subst ew
    exact ⟨_, h1, h2, E1, E2, LI.mk2 x1 km out m2 fr2 mi (fun _ _ _ => rfl) h9, km.2.2, fr2.1, _, (hm.km km).o⟩
theorem s_put {z1 z2 z3 : Int} (x : LI h) (r1 : -2147483648 ≤ z1 ∧ z1 < 2147483648) (r2 : -2147483648 ≤ z2 ∧ z2 < 2147483648) (r3 : -2147483648 ≤ z3 ∧ z3 < 2147483648) : ∃ (r : Int32) (h1 h2 : ev_H), Ev l 2 yX5_put.cls yX5_put.name cX5_put 5 (some .int) 0 [some (.ref 0), some (.int (iI z1)), some (.int (iI z2)), some (.int (iI z3)), none] [] h (some (.int r)) h1 ∧ Ev l 3 yX6_put.cls yX6_put.name cX6_put 5 (some .int) 0 [some (.ref 34), some (.int (iI z1)), some (.int (iI z2)), some (.int (iI z3)), none] [] h1 (some (.int r)) h2 ∧ LI h2 ∧ h1.length ≤ h.length + 48 ∧ h2.length = h1.length ∧ ∃ fs, h1[34]? = some (.inr (6, fs)) := by
  obtain ⟨im, o, A, F, F2, w, x, hm, mi, h9, out⟩ := x
  obtain ⟨⟨hI, hJ, hT, hK, hU⟩, h01, hW1, hS, -⟩ := id mi
  have hH := mi.hd
  obtain ⟨v1, h1, E1, ev, km, F', F2', w', x1⟩ := c_put (l := l) x hI hS r1 r2 r3
  obtain ⟨v2, h2, E2, ew, m2, fr2⟩ := e6_put (l := l) (hm.km km) hS r1 r2 r3
  cases hb : ptB A z1 z2 with
  | true =>
    simp only [hb, ↓reduceIte] at ev ew x1 m2
    subst ev
    subst ew
    exact ⟨_, h1, h2, E1, E2, LI.mk2 x1 km out m2 fr2 (mi.put r3) (fun _ _ _ => rfl) h9, km.2.2, fr2.1, _, (hm.km km).o⟩
  | false =>
    simp only [hb, Bool.false_eq_true, ↓reduceIte] at ev ew x1 m2
    subst ev
    subst ew
    exact ⟨_, h1, h2, E1, E2, LI.mk2 x1 km out m2 fr2 mi (fun _ _ _ => rfl) h9, km.2.2, fr2.1, _, (hm.km km).o⟩
theorem s_copy {z1 z2 z3 z4 z5 : Int} (x : LI h) (r1 : -2147483648 ≤ z1 ∧ z1 < 2147483648) (r2 : -2147483648 ≤ z2 ∧ z2 < 2147483648) (r3 : -2147483648 ≤ z3 ∧ z3 < 2147483648) (r4 : -2147483648 ≤ z4 ∧ z4 < 2147483648) (r5 : -2147483648 ≤ z5 ∧ z5 < 2147483648) : ∃ (r : Int32) (h1 h2 : ev_H), Ev l 1 yX5_copy.cls yX5_copy.name cX5_copy 8 (some .int) 0 [some (.ref 0), some (.int (iI z1)), some (.int (iI z2)), some (.int (iI z3)), some (.int (iI z4)), some (.int (iI z5)), none, none] [] h (some (.int r)) h1 ∧ Ev l 2 yX6_copy.cls yX6_copy.name cX6_copy 8 (some .int) 0 [some (.ref 34), some (.int (iI z1)), some (.int (iI z2)), some (.int (iI z3)), some (.int (iI z4)), some (.int (iI z5)), none, none] [] h1 (some (.int r)) h2 ∧ LI h2 ∧ h1.length ≤ h.length + 48 ∧ h2.length = h1.length ∧ ∃ fs, h1[34]? = some (.inr (6, fs)) := by
  obtain ⟨im, o, A, F, F2, w, x, hm, mi, h9, out⟩ := x
  obtain ⟨⟨hI, hJ, hT, hK, hU⟩, h01, hW1, hS, -⟩ := id mi
  have hH := mi.hd
  obtain ⟨v1, h1, E1, rfl, km, F', F2', w', x1⟩ := c_copy (l := l) x hI hS r1 r2 r3 r4 r5
  obtain ⟨v2, h2, E2, ew, m2, fr2⟩ := e6_copy (l := l) (hm.km km) hS r1 r2 r3 r4 r5
  cases hb : cyB A z1 z2 z3 z4 z5 with
  | true =>
    simp only [hb, ↓reduceIte] at ew x1 m2
    subst ew
    exact ⟨_, h1, h2, E1, E2, LI.mk2 x1 km out m2 fr2 (mi.copy hb) (fun _ _ _ => rfl) h9, km.2.2, fr2.1, _, (hm.km km).o⟩
  | false =>
    simp only [hb, Bool.false_eq_true, ↓reduceIte] at ew x1 m2
    subst ew
    exact ⟨_, h1, h2, E1, E2, LI.mk2 x1 km out m2 fr2 mi (fun _ _ _ => rfl) h9, km.2.2, fr2.1, _, (hm.km km).o⟩
theorem s_image (x : LI h)  : ∃ (r : Int32) (h1 h2 : ev_H), Ev l 3 yX5_image.cls yX5_image.name cX5_image 1 (some .int) 0 [some (.ref 0)] [] h (some (.int r)) h1 ∧ Ev l 0 yX6_image.cls yX6_image.name cX6_image 2 (some .int) 0 [some (.ref 34), none] [] h1 (some (.int r)) h2 ∧ LI h2 ∧ h1.length ≤ h.length + 48 ∧ h2.length = h1.length ∧ ∃ fs, h1[34]? = some (.inr (6, fs)) := by
  obtain ⟨im, o, A, F, F2, w, x, hm, mi, h9, out⟩ := x
  obtain ⟨⟨hI, hJ, hT, hK, hU⟩, h01, hW1, hS, -⟩ := id mi
  have hH := mi.hd
  obtain ⟨v1, h1, E1, rfl, km, F', F2', w', x1⟩ := c_image (l := l) x hI
  obtain ⟨v2, h2, E2, rfl, m2, fr2⟩ := e6_image (l := l) (hm.km km)
  exact ⟨_, h1, h2, E1, E2, LI.mk2 x1 km out m2 fr2 mi.img (fun _ _ _ => rfl) rfl, km.2.2, fr2.1, _, (hm.km km).o⟩
theorem s_restore (x : LI h)  : ∃ (r : Int32) (h1 h2 : ev_H), Ev l 3 yX5_restore.cls yX5_restore.name cX5_restore 1 (some .int) 0 [some (.ref 0)] [] h (some (.int r)) h1 ∧ Ev l 1 yX6_restore.cls yX6_restore.name cX6_restore 3 (some .int) 0 [some (.ref 34), none, none] [] h1 (some (.int r)) h2 ∧ LI h2 ∧ h1.length ≤ h.length + 48 ∧ h2.length = h1.length ∧ ∃ fs, h1[34]? = some (.inr (6, fs)) := by
  obtain ⟨im, o, A, F, F2, w, x, hm, mi, h9, out⟩ := x
  obtain ⟨⟨hI, hJ, hT, hK, hU⟩, h01, hW1, hS, -⟩ := id mi
  have hH := mi.hd
  obtain ⟨v1, h1, E1, ev, km, F', F2', w', x1⟩ := c_restore (l := l) x hI hS h01 (fun q => (hW1 q).1)
  obtain ⟨v2, h2, E2, ew, m2, fr2⟩ := e6_restore (l := l) (hm.km km) hI hS (by rw [h9]; exact h01)
  rw [h9] at ew m2
  by_cases hb : im = 1
  · simp only [hb, decide_true, ↓reduceIte] at ev ew x1 m2
    subst ev
    subst ew
    exact ⟨_, h1, h2, E1, E2, LI.mk2 x1 km out m2 fr2 (MI.rst (by rw [← hb]; exact mi)) (fun _ _ _ => rfl) (h9.trans hb), km.2.2, fr2.1, _, (hm.km km).o⟩
  · simp only [hb, decide_false, Bool.false_eq_true, ↓reduceIte] at ev ew x1 m2
    subst ev
    subst ew
    exact ⟨_, h1, h2, E1, E2, LI.mk2 x1 km out m2 fr2 mi (fun _ _ _ => rfl) h9, km.2.2, fr2.1, _, (hm.km km).o⟩
theorem s_world {z1 : Int} (x : LI h) (r1 : -2147483648 ≤ z1 ∧ z1 < 2147483648) : ∃ (r : Int32) (h1 h2 : ev_H), Ev l 6 yX5_world.cls yX5_world.name cX5_world 6 (some .int) 0 [some (.ref 0), some (.int (iI z1)), none, none, none, none] [] h (some (.int r)) h1 ∧ Ev l 4 yX6_world.cls yX6_world.name cX6_world 7 (some .int) 0 [some (.ref 34), some (.int (iI z1)), none, none, none, none, none] [] h1 (some (.int r)) h2 ∧ LI h2 ∧ h1.length ≤ h.length + 48 ∧ h2.length = h1.length ∧ ∃ fs, h1[34]? = some (.inr (6, fs)) := by
  obtain ⟨im, o, A, F, F2, w, x, hm, mi, h9, out⟩ := x
  obtain ⟨⟨hI, hJ, hT, hK, hU⟩, h01, hW1, hS, -⟩ := id mi
  have hH := mi.hd
  obtain ⟨v1, h1, E1, rfl, km, F', F2', w', x1⟩ := c_world (l := l) x hI hS r1
  obtain ⟨v2, h2, E2, rfl, o2, A2, m2, fr2, a0, aj, oj⟩ := e6_world (l := l) (hm.km km) hS hI r1
  refine ⟨_, h1, h2, E1, E2, LI.mk2 x1 km out m2 fr2 (mi.w0 mi.1.world (Int.le_of_eq (sWoS_1 hI).symm)) (fun j j1 j2 => ?_) ((oj 9 (by decide)).trans h9), km.2.2, fr2.1, _, (hm.km km).o⟩
  by_cases j0 : j = 0
  · rw [j0, upA_s]; exact a0
  · rw [upA_n j0]; exact aj j j0 j1 j2
end DB
