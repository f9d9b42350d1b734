section CP
variable {h h2 : ev_H} {im : Int} {A A' : Nat → Int → Int} {F F2 w w' : Nat → Option Nat} {S' : Int → Int}
theorem SC.eq {h h2 : ev_H} {A : Nat → Int → Int} {w : Nat → Option Nat} (x : SC h A w) (e0 : h2[15]? = h[15]?) (e : ∀ j, 18 ≤ j → j ≤ 33 → h2[j]? = h[j]?) : SC h2 A w := by
  obtain ⟨x0, x1⟩ := x
  refine ⟨e0.trans x0, fun d hd => ?_⟩
  obtain ⟨a, b, c⟩ := x1 d hd
  exact ⟨(e _ (by omega) (by omega)).trans a, b.eq (e _ (by omega) (by omega)), c⟩
/-- the world's rows have changed -/
theorem CL.wld (x : CL h im A F F2 w) (L : h2.length = h.length) (e : ∀ j, ¬ (1 ≤ j ∧ j ≤ 6) → j ≠ 16 → j ≠ 17 → h2[j]? = h[j]?) (hN : NW h2 S' F) (hs : ∃ a b c d e f, h2[16]? = some (cSp a b c d e f)) (hr : ∃ z a b c d e f g i, h2[17]? = some (cRd z a b c d e f g i)) (e1 : S' 1 = A 0 1) (e2 : ∀ p : Int, 143 ≤ p → p < 503 → S' p = A 0 p) (hI : mI0 (A 0)) : CL h2 im (upA A 0 S') F F2 w ∧ KM h h2 := by
  obtain ⟨⟨⟨im0, x0⟩, xN, xs, xt⟩, x1, xr, ⟨sh0, sh1⟩, ⟨g1, g2⟩, ⟨⟨S2, t1, t1'⟩, t2, t3, t4, t5⟩, x6, x7, x8, x9⟩ := x
  have hi := hI.2.1
  have tgm : ∀ t, TG h t → TG h2 t := fun t q => q.mo (by omega)
  have ctm : ∀ t U nu, TG h t → CT h t U nu → CT h2 t U nu := fun t U nu q c => c.eq (fun j j1 j2 => e j (by have := q.1; omega) (by have := q.1; omega) (by have := q.1; omega))
  refine ⟨⟨⟨⟨im0, (e 0 (by decide) (by decide) (by decide)).trans x0⟩, hN, hs, fun k k1 k2 => ?_⟩, (e 0 (by decide) (by decide) (by decide)).trans x1, hr, SC.eq (A := A) ⟨sh0, sh1⟩ (e 15 (by decide) (by decide) (by decide)) (fun j j1 j2 => e j (by omega) (by omega) (by omega)), ⟨fun k t k1 k2 k3 => tgm t (g1 k t k1 (by rw [← e1]; exact k2) k3), fun i j t i1 i2 j1 j2 => g2 i j t i1 (by rw [← e1]; exact i2) j1 (by rw [← e1]; exact j2)⟩, ⟨⟨S2, t1.eq (fun j j1 j2 => e j (by omega) (by omega) (by omega)), t1'⟩, t2, fun q k q1 q2 => ?_, fun j t q1 q2 => ?_, t5⟩, fun k j t k1 k2 => x6 k j t k1 (by rw [← e1]; exact k2), fun d hd q => ?_, by omega, by omega⟩, fun j j1 j2 => e j (by omega) (by omega) (by omega), by omega, by omega⟩
  · have k2 : k < A 0 1 := by rw [← e1]; exact k2
    obtain ⟨t, r1, r2, r3⟩ := xt k k1 k2
    exact ⟨t, r1, (ctm t _ _ (g1 k t k1 k2 r1) r2).cg (fun p p1 p2 => (e2 _ (by omega) (by omega)).symm), r3⟩
  · obtain ⟨t, r1, r2, r3, r8⟩ := t3 q k q1 q2
    exact ⟨t, r1, ctm t _ _ r3 r2, tgm t r3, r8⟩
  · obtain ⟨r1, U, nu, r2⟩ := t4 j t q1 q2
    exact ⟨tgm t r1, U, nu, ctm t _ _ r1 r2⟩
  · obtain ⟨t, r1, r2, r3, r4, r5⟩ := x7 d hd q
    exact ⟨t, r1, tgm t r2, r3, fun q2 => ⟨ctm t _ _ r2 (r4 q2).1, fun k k1 k2 => (r4 q2).2 k k1 (by rw [← e1]; exact k2)⟩, r5⟩
/-- the shelves have changed -/
theorem CL.shf (x : CL h im A F F2 w) (L : h2.length = h.length) (e : ∀ j, ¬ (18 ≤ j ∧ j ≤ 33) → h2[j]? = h[j]?) (e0 : A' 0 = A 0) (e1 : A' 1 = A 1) (hS : SC h2 A' w') (hw : CLw h2 A' F F2 w') : CL h2 im A' F F2 w' ∧ KM h h2 := by
  obtain ⟨⟨⟨im0, x0⟩, xN, xs, xt⟩, x1, xr, ⟨sh0, sh1⟩, ⟨g1, g2⟩, ⟨⟨S2, t1, t1'⟩, t2, t3, t4, t5⟩, x6, x7, x8, x9⟩ := x
  have tgm : ∀ t, TG h t → TG h2 t := fun t q => q.mo (by omega)
  have ctm : ∀ t U nu, TG h t → CT h t U nu → CT h2 t U nu := fun t U nu q c => c.eq (fun j j1 j2 => e j (by have := q.1; omega))
  obtain ⟨s1, s2, s3, s4, s5, s6, hsp⟩ := xs
  obtain ⟨z, a, b, c, d, e', f, g, i, hrd⟩ := xr
  refine ⟨⟨?_, (e 0 (by decide)).trans x1, ⟨z, a, b, c, d, e', f, g, i, (e 17 (by decide)).trans hrd⟩, hS, ?_, ?_, ?_, hw, by omega, by omega⟩, fun j j1 j2 => e j (by omega), by omega, by omega⟩
  · rw [e0]
    refine ⟨⟨im0, (e 0 (by decide)).trans x0⟩, xN.eq (fun j j1 j2 => e j (by omega)), ⟨s1, s2, s3, s4, s5, s6, (e 16 (by decide)).trans hsp⟩, fun k k1 k2 => ?_⟩
    obtain ⟨t, r1, r2, r3⟩ := xt k k1 k2
    exact ⟨t, r1, ctm t _ _ (g1 k t k1 k2 r1) r2, r3⟩
  · rw [e0]; exact ⟨fun k t k1 k2 k3 => tgm t (g1 k t k1 k2 k3), g2⟩
  · rw [e1]
    refine ⟨⟨S2, t1.eq (fun j j1 j2 => e j (by omega)), t1'⟩, t2, fun q k q1 q2 => ?_, fun j t q1 q2 => ?_, t5⟩
    · obtain ⟨t, r1, r2, r3, r8⟩ := t3 q k q1 q2
      exact ⟨t, r1, ctm t _ _ r3 r2, tgm t r3, r8⟩
    · obtain ⟨r1, U, nu, r2⟩ := t4 j t q1 q2
      exact ⟨tgm t r1, U, nu, ctm t _ _ r1 r2⟩
  · rw [e0]; exact x6
/-- a traveller that is here has changed -/
theorem CL.trv {k : Int} {t : Nat} (x : CL h im A F F2 w) (hk : 0 ≤ k ∧ k < A 0 1) (ht : F k.toNat = some t) (L : h2.length = h.length) (e : ∀ j, ¬ (t ≤ j ∧ j ≤ t + 5) → h2[j]? = h[j]?) (hc : CT h2 t (win S' k) k) (e2 : ∀ p : Int, ¬ (143 + 45 * k ≤ p ∧ p < 143 + 45 * k + 45) → S' p = A 0 p) (hI : mI0 (A 0)) : CL h2 im (upA A 0 S') F F2 w ∧ KM h h2 := by
  obtain ⟨⟨⟨im0, x0⟩, xN, xs, xt⟩, x1, xr, ⟨sh0, sh1⟩, ⟨g1, g2⟩, ⟨⟨S2, t1, t1'⟩, t2, t3, t4, t5⟩, x6, x7, x8, x9⟩ := x
  have hi := hI.2.1
  have e1 : S' 1 = A 0 1 := e2 1 (by omega)
  have T0 := g1 k t hk.1 hk.2 ht
  have b0 := T0.1
  have tgm : ∀ t, TG h t → TG h2 t := fun t q => q.mo (by omega)
  have ctm : ∀ s U nu, TG h s → s ≠ t → CT h s U nu → CT h2 s U nu := fun s U nu q n c => c.eq (fun j j1 j2 => e j (q.ne T0 n j1 j2))
  have lo : ∀ j, j < 47 → h2[j]? = h[j]? := fun j hj => e j (by omega)
  obtain ⟨s1, s2, s3, s4, s5, s6, hsp⟩ := xs
  obtain ⟨z, a, b, c, d, e', f, g, i, hrd⟩ := xr
  refine ⟨⟨⟨⟨im0, (lo 0 (by decide)).trans x0⟩, (xN.eq (fun j j1 j2 => lo j (by omega))).cg (fun p p1 p2 => (e2 p (by omega)).symm), ⟨s1, s2, s3, s4, s5, s6, (lo 16 (by decide)).trans hsp⟩, fun k' k1 k2 => ?_⟩, (lo 0 (by decide)).trans x1, ⟨z, a, b, c, d, e', f, g, i, (lo 17 (by decide)).trans hrd⟩, SC.eq (A := A) ⟨sh0, sh1⟩ (lo 15 (by decide)) (fun j j1 j2 => lo j (by omega)), ⟨fun k t k1 k2 k3 => tgm t (g1 k t k1 (by rw [← e1]; exact k2) k3), fun i j t i1 i2 j1 j2 => g2 i j t i1 (by rw [← e1]; exact i2) j1 (by rw [← e1]; exact j2)⟩, ⟨⟨S2, t1.eq (fun j j1 j2 => lo j (by omega)), t1'⟩, t2, fun q k' q1 q2 => ?_, fun j s q1 q2 => ?_, t5⟩, fun k j t k1 k2 => x6 k j t k1 (by rw [← e1]; exact k2), fun d hd q => ?_, by omega, by omega⟩, fun j j1 j2 => lo j (by omega), by omega, by omega⟩
  · have k2 : k' < A 0 1 := by rw [← e1]; exact k2
    obtain ⟨s, r1, r2, r3⟩ := xt k' k1 k2
    by_cases q : k' = k
    · subst q
      rw [ht] at r1
      injection r1 with r1
      subst r1
      exact ⟨t, ht, hc, b0⟩
    · have n : s ≠ t := fun z => q (g2 k' k t k1 k2 hk.1 hk.2 (by rw [← z]; exact r1) ht)
      exact ⟨s, r1, (ctm s _ _ (g1 k' s k1 k2 r1) n r2).cg (fun p p1 p2 => (e2 _ (by omega)).symm), r3⟩
  · obtain ⟨s, r1, r2, r3, r8⟩ := t3 q k' q1 q2
    exact ⟨s, r1, ctm s _ _ r3 (fun z => x6 k k'.toNat t hk.1 hk.2 (by omega) ht (by rw [← z]; exact r1)) r2, tgm s r3, r8⟩
  · obtain ⟨r1, U, nu, r2⟩ := t4 j s q1 q2
    exact ⟨tgm s r1, U, nu, ctm s _ _ r1 (fun z => x6 k j t hk.1 hk.2 q1 ht (by rw [← z]; exact q2)) r2⟩
  · obtain ⟨s, r1, r2, r3, r4, r5⟩ := x7 d hd q
    refine ⟨s, r1, tgm s r2, r3, fun q2 => ⟨ctm s _ _ r2 (fun z => (r4 q2).2 k hk.1 hk.2 (by rw [z]; exact ht)) (r4 q2).1, fun k k1 k2 => (r4 q2).2 k k1 (by rw [← e1]; exact k2)⟩, r5⟩
end CP
