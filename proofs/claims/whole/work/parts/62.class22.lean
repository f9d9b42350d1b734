section CZ
variable {l : Launch} {h h1 hm h2 h3 : ev_H} {im : Int} {A : Nat → Int → Int} {F F2 w G : Nat → Option Nat} {n : Nat}
/-- what restoring makes of the shelves' own rows -/
theorem rsN_v (A : Nat → Int → Int) : ∀ (n d : Nat), d < n → (rsN A n).2 d = (if A 2 d = 1 ∧ A 8 d = 0 then 1 else A 8 d) ∧ ∀ i : Int, 0 ≤ i → i < 45 → (rsN A n).1 (45 * (d : Int) + i) = (if A 2 d = 1 ∧ A 8 d = 0 then A 0 (143 + 45 * A 6 d + i) else A 7 (45 * (d : Int) + i))
  | 0, d, hd => absurd hd (by omega)
  | n + 1, d, hd => by
    unfold rsN
    by_cases q : d = n
    · subst q
      have i8 := rsN_8 A d (d : Int) (by omega)
      have i7 : ∀ (n : Nat) (x : Int), 45 * (n : Int) ≤ x → (rsN A n).1 x = A 7 x := by
        intro n
        induction n with
        | zero => intro x _; rfl
        | succ n ih =>
          intro x hx
          unfold rsN
          split
          · show ownI A (n : Int) 45 (rsN A n).1 x = _
            unfold ownI
            rw [if_neg (by omega)]
            exact ih x (by omega)
          · exact ih x (by omega)
      by_cases c : A 2 (d : Int) = 1 ∧ A 8 (d : Int) = 0
      · rw [if_pos c]
        refine ⟨by rw [if_pos c]; exact upI_s _ _ _, fun i i1 i2 => ?_⟩
        rw [if_pos c]
        show ownI A (d : Int) 45 (rsN A d).1 _ = _
        unfold ownI
        rw [if_pos (by omega)]
        congr 1
        omega
      · rw [if_neg c]
        exact ⟨by rw [if_neg c]; exact i8, fun i i1 i2 => by rw [if_neg c]; exact i7 d _ (by omega)⟩
    · obtain ⟨a, b⟩ := rsN_v A n d (by omega)
      by_cases c : A 2 (n : Int) = 1 ∧ A 8 (n : Int) = 0
      · rw [if_pos c]
        refine ⟨?_, fun i i1 i2 => ?_⟩
        · show upI (rsN A n).2 (n : Int) 1 (d : Int) = _
          rw [upI_n (by omega)]; exact a
        · show ownI A (n : Int) 45 (rsN A n).1 _ = _
          unfold ownI
          rw [if_neg (by omega)]
          exact b i i1 i2
      · rw [if_neg c]
        exact ⟨a, b⟩
theorem cpI_v {S T : Int → Int} {n x : Int} (h : 0 ≤ x ∧ x < n) : cpI S T n x = S x := by unfold cpI; rw [if_pos h]
/-- an image has been taken -/
theorem CL.img {z : Int} (x : CL h im A F F2 w) (hI : mI0 (A 0)) (hn : A 0 1 = (n : Int)) (L9 : h1.length = h.length) (g9 : ∀ j, ¬ (8 ≤ j ∧ j ≤ 13) → h1[j]? = h[j]?) (hC : CW h1 8 (upI (A 0) 1 z) F2) (L8 : hm.length = h1.length) (g8 : ∀ j, j ≠ 8 → hm[j]? = h1[j]?) (hW8 : hm[8]? = some (cWo (A 0 0) (n : Int) (A 0 2) 9 10 11 12 13 14)) (ti : TI hm 8 (A 0) F2 0 n h2 G) (L3 : h3.length = h2.length) (g3 : ∀ j, j ≠ 0 → h3[j]? = h2[j]?) (hX3 : h3[0]? = some (cWd (.ref 1) (.ref 8) 1 (.ref 15) (.ref 16) (.ref 17))) : CL h3 1 (upA A 1 (cpI (A 0) (A 1) 503)) F G w ∧ KM h h3 := by
  obtain ⟨⟨⟨im0, x0⟩, xN, xs, xt⟩, x1, xr, ⟨sh0, sh1⟩, ⟨g1, g2⟩, ⟨⟨S2, t1, t1'⟩, t2, t3, t4, t5⟩, x6, x7, x8, x9⟩ := x
  obtain ⟨⟨l1, l2, l3⟩, tb, tc, td, te, tf, tg⟩ := ti
  have hi := hI.2.1
  have hB : ∀ j, 0 ≤ j → j < 503 → A 0 j = cpI (A 0) (A 1) 503 j := fun j j1 j2 => (cpI_v ⟨j1, j2⟩).symm
  have lo : ∀ j, j < 47 → j ≠ 0 → ¬ (8 ≤ j ∧ j ≤ 14) → h3[j]? = h[j]? := fun j j1 j2 j3 => (g3 j j2).trans ((tb j (by omega) (by omega) (fun _ k t k8 kt => by have := (t4 k t k8 kt).1.1; omega)).trans ((g8 j (by omega)).trans (g9 j (by omega))))
  have up : ∀ j, 47 ≤ j → j < h.length → (∀ k t, k < 8 → F2 k = some t → ¬ (t ≤ j ∧ j ≤ t + 5)) → h3[j]? = h[j]? := fun j j1 j2 j3 => (g3 j (by omega)).trans ((tb j (by omega) (by omega) (fun _ => j3)).trans ((g8 j (by omega)).trans (g9 j (by omega))))
  have tgm : ∀ t, TG h t → TG h3 t := fun t q => q.mo (by omega)
  have ctm : ∀ t U nu, TG h t → (∀ k, k < 8 → F2 k ≠ some t) → CT h t U nu → CT h3 t U nu := fun t U nu q qn c => c.eq (fun j j1 j2 => up j (by have := q.1; omega) (by have := q.2.2; omega) (fun k s k8 ks => q.ne (t4 k s k8 ks).1 (fun e => qn k k8 (by rw [e]; exact ks)) j1 j2))
  have Gc : ∀ j t : Nat, j < 8 → G j = some t → h.length ≤ t ∨ F2 j = some t := by
    intro j t j8 q
    by_cases c : j < n
    · obtain ⟨s, s1, -, -, s4⟩ := td j c
      rw [s1] at q
      injection q with q
      subst q
      rcases s4 with s4 | ⟨-, s4⟩
      · exact Or.inl (by omega)
      · exact Or.inr s4
    · rw [te j (by omega)] at q
      exact Or.inr q
  obtain ⟨s1, s2, s3, s4, s5, s6, hsp⟩ := xs
  obtain ⟨z', a, b, c, d, e', f, g, i, hrd⟩ := xr
  obtain ⟨y0, y1, y2, y3, y4, y5, y6⟩ := hC
  have r3 : ∀ j, 9 ≤ j → j ≤ 13 → h3[j]? = h1[j]? := fun j j1 j2 => (g3 j (by omega)).trans ((tb j (by omega) (by omega) (fun _ k t k8 kt => by have := (t4 k t k8 kt).1.1; omega)).trans (g8 j (by omega)))
  have hCW : CW h3 8 (A 0) G := by
    refine ⟨?_, (y1.eq (r3 _ (by decide) (by decide))).cg (fun p p1 p2 => upI_n (by omega)), (y2.eq (r3 _ (by decide) (by decide))).cg (fun p p1 p2 => upI_n (by omega)), (y3.eq (r3 _ (by decide) (by decide))).cg (fun p p1 p2 => upI_n (by omega)), (y4.eq (r3 _ (by decide) (by decide))).cg (fun p p1 p2 => upI_n (by omega)), (y5.eq (r3 _ (by decide) (by decide))).cg (fun p p1 p2 => upI_n (by omega)), (g3 14 (by decide)).trans tc⟩
    rw [hn]
    exact (g3 8 (by decide)).trans ((tb 8 (by omega) (by omega) (fun _ k t k8 kt => by have := (t4 k t k8 kt).1.1; omega)).trans hW8)
  refine ⟨⟨⟨⟨1, hX3⟩, xN.eq (fun j j1 j2 => lo j (by omega) (by omega) (by omega)), ⟨s1, s2, s3, s4, s5, s6, (lo 16 (by decide) (by decide) (by decide)).trans hsp⟩, fun k k1 k2 => ?_⟩, hX3, ⟨z', a, b, c, d, e', f, g, i, (lo 17 (by decide) (by decide) (by decide)).trans hrd⟩, SC.eq (A := A) ⟨sh0, sh1⟩ (lo 15 (by decide) (by decide) (by decide)) (fun j j1 j2 => lo j (by omega) (by omega) (by omega)), ⟨fun k t k1 k2 k3 => tgm t (g1 k t k1 k2 k3), g2⟩, ⟨⟨_, hCW.cg (fun p p1 p2 => hB p p1 (by omega)), fun _ => rfl⟩, fun q => absurd q (by decide), fun _ k k1 k2 => ?_, fun j t j8 q => ?_, fun i j t i8 j8 p q => ?_⟩, fun k j t k1 k2 j8 p q => ?_, fun d hd q => ?_, by omega, by omega⟩, fun j j1 j2 => lo j (by omega) (by omega) (by omega), by omega, by omega⟩
  · obtain ⟨t, r1, r2, r8⟩ := xt k k1 k2
    have tt := g1 k t k1 k2 r1
    exact ⟨t, r1, ctm t _ _ tt (fun j j8 => x6 k j t k1 k2 j8 r1) r2, r8⟩
  · have k2 : k < A 0 1 := by rw [hB 1 (by decide) (by decide)]; exact k2
    obtain ⟨t, u1, u2, u3, -⟩ := td k.toNat (by omega)
    rw [Int.toNat_of_nonneg k1] at u2
    exact ⟨t, u1, (u2.eq (fun j j1 j2 => g3 j (by have := u3.1; omega))).cg (fun p p1 p2 => hB _ (by omega) (by omega)), u3.mo (by omega), by omega⟩
  · by_cases c : j < n
    · obtain ⟨s, u1, u2, u3, -⟩ := td j c
      rw [u1] at q
      injection q with q
      subst q
      exact ⟨u3.mo (by omega), _, _, u2.eq (fun j j1 j2 => g3 j (by have := u3.1; omega))⟩
    · rw [te j (by omega)] at q
      obtain ⟨u1, U, nu, u2⟩ := t4 j t j8 q
      have b0 := u1.1
      exact ⟨tgm t u1, U, nu, u2.eq (fun y y1 y2 => (g3 y (by omega)).trans ((tf rfl j t (by omega) j8 q y y1 y2).trans ((g8 y (by omega)).trans (g9 y (by omega)))))⟩
  · by_cases ci : i < n
    · by_cases cj : j < n
      · exact tg i j t ci cj p q
      · have q' := q
        rw [te j (by omega)] at q'
        rcases Gc i t i8 p with u | u
        · have := (t4 j t j8 q').1.2.2; omega
        · exact t5 i j t i8 j8 u q'
    · have p' := p
      rw [te i (by omega)] at p'
      rcases Gc j t j8 q with u | u
      · have := (t4 i t i8 p').1.2.2; omega
      · exact t5 i j t i8 j8 p' u
  · rcases Gc j t j8 q with u | u
    · have := (g1 k t k1 k2 p).2.2; omega
    · exact x6 k j t k1 k2 j8 p u
  · obtain ⟨s, r1, r2, r3, r4, r5⟩ := x7 d hd q
    refine ⟨s, r1, tgm s r2, r3, fun y => ⟨ctm s _ _ r2 r5 (r4 y).1, (r4 y).2⟩, fun j j8 p => ?_⟩
    rcases Gc j s j8 p with u | u
    · have := r2.2.2; omega
    · exact r5 j j8 u
/-- the image has been restored -/
theorem CL.rst {z : Int} (x : CL h 1 A F F2 w) (hI : mI0 (A 0)) (hA : mSh A) (hn : A 1 1 = (n : Int)) (hn8 : n ≤ 8) (L9 : h1.length = h.length) (g9 : ∀ j, ¬ (1 ≤ j ∧ j ≤ 6) → h1[j]? = h[j]?) (hC : CW h1 1 (upI (A 1) 1 z) F) (L8 : hm.length = h1.length) (g8 : ∀ j, j ≠ 1 → hm[j]? = h1[j]?) (hW8 : hm[1]? = some (cWo (A 1 0) (n : Int) (A 1 2) 2 3 4 5 6 7)) (ti : TI hm 1 (A 1) F 1 n h2 G) : CL h2 1 (rsX A) G F2 w ∧ KM h h2 := by
  obtain ⟨⟨⟨im0, x0⟩, xN, xs, xt⟩, x1, xr, ⟨sh0, sh1⟩, ⟨g1, g2⟩, ⟨⟨S2, t1, t1'⟩, t2, t3, t4, t5⟩, x6, x7, x8, x9⟩ := x
  obtain ⟨⟨l1, l2, l3⟩, tb, tc, td, te, tf, tg⟩ := ti
  have hi := hI.2.1
  have tb : ∀ j, j < hm.length → j ≠ 7 → h2[j]? = hm[j]? := fun j j1 j2 => tb j j1 j2 (fun e => absurd e (by decide))
  have td : ∀ k : Nat, k < n → ∃ t, G k = some t ∧ CT h2 t (win (A 1) k) k ∧ TG h2 t ∧ h.length ≤ t := by
    intro k hk
    obtain ⟨t, u1, u2, u3, u4⟩ := td k hk
    refine ⟨t, u1, u2, u3, ?_⟩
    rcases u4 with u | ⟨u, -⟩
    · omega
    · exact absurd u (by decide)
  have hB : ∀ j, 0 ≤ j → j < 503 → A 1 j = cpI (A 1) (A 0) 503 j := fun j j1 j2 => (cpI_v ⟨j1, j2⟩).symm
  have e0 : rsX A 0 = cpI (A 1) (A 0) 503 := rfl
  have en : rsX A 0 1 = n := by rw [e0, ← hB 1 (by decide) (by decide)]; exact hn
  have lo : ∀ j, j < h.length → ¬ (1 ≤ j ∧ j ≤ 7) → h2[j]? = h[j]? := fun j j1 j2 => (tb j (by omega) (by omega)).trans ((g8 j (by omega)).trans (g9 j (by omega)))
  have tgm : ∀ t, TG h t → TG h2 t := fun t q => q.mo (by omega)
  have ctm : ∀ t U nu, TG h t → CT h t U nu → CT h2 t U nu := fun t U nu q c => c.eq (fun j j1 j2 => lo j (by have := q.2.2; omega) (by have := q.1; omega))
  obtain ⟨s1, s2, s3, s4, s5, s6, hsp⟩ := xs
  obtain ⟨z', a, b, c, d, e', f, g, i, hrd⟩ := xr
  obtain ⟨y0, y1, y2, y3, y4, y5, y6⟩ := hC
  have r3 : ∀ j, 2 ≤ j → j ≤ 6 → h2[j]? = h1[j]? := fun j j1 j2 => (tb j (by omega) (by omega)).trans (g8 j (by omega))
  have hCW : NW h2 (A 1) G := by
    refine ⟨?_, (y1.eq (r3 _ (by decide) (by decide))).cg (fun p p1 p2 => upI_n (by omega)), (y2.eq (r3 _ (by decide) (by decide))).cg (fun p p1 p2 => upI_n (by omega)), (y3.eq (r3 _ (by decide) (by decide))).cg (fun p p1 p2 => upI_n (by omega)), (y4.eq (r3 _ (by decide) (by decide))).cg (fun p p1 p2 => upI_n (by omega)), (y5.eq (r3 _ (by decide) (by decide))).cg (fun p p1 p2 => upI_n (by omega)), tc⟩
    rw [hn]
    exact (tb 1 (by omega) (by decide)).trans hW8
  have new : ∀ (k : Int) (t : Nat), 0 ≤ k → k < n → G k.toNat = some t → CT h2 t (win (A 1) k) k ∧ TG h2 t ∧ h.length ≤ t := by
    intro k t k1 k2 q
    obtain ⟨s, u1, u2, u3, u4⟩ := td k.toNat (by omega)
    rw [u1] at q
    injection q with q
    subst q
    rw [Int.toNat_of_nonneg k1] at u2
    exact ⟨u2, u3, u4⟩
  refine ⟨⟨⟨⟨1, (lo 0 (by omega) (by omega)).trans x1⟩, hCW.cg (fun p p1 p2 => hB p p1 (by omega)), ⟨s1, s2, s3, s4, s5, s6, (lo 16 (by omega) (by omega)).trans hsp⟩, fun k k1 k2 => ?_⟩, (lo 0 (by omega) (by omega)).trans x1, ⟨z', a, b, c, d, e', f, g, i, (lo 17 (by omega) (by omega)).trans hrd⟩, SC.eq (A := A) ⟨sh0, sh1⟩ (lo 15 (by omega) (by omega)) (fun j j1 j2 => lo j (by omega) (by omega)), ⟨fun k t k1 k2 k3 => ?_, fun i j t i1 i2 j1 j2 p q => ?_⟩, ⟨⟨S2, t1.eq (fun j j1 j2 => lo j (by omega) (by omega)), t1'⟩, t2, fun q k k1 k2 => ?_, fun j t j8 q => ?_, t5⟩, fun k j t k1 k2 j8 p q => ?_, fun d hd q => ?_, by omega, by omega⟩, fun j j1 j2 => lo j (by omega) (by omega), by omega, by omega⟩
  · have k2 : k < n := by rw [← en]; exact k2
    obtain ⟨t, u1, u2, u3, u4⟩ := td k.toNat (by omega)
    rw [Int.toNat_of_nonneg k1] at u2
    exact ⟨t, u1, u2.cg (fun p p1 p2 => hB _ (by omega) (by omega)), u3.1⟩
  · exact (new k t k1 (by rw [← en]; exact k2) k3).2.1
  · have i2 : i < n := by rw [← en]; exact i2
    have j2 : j < n := by rw [← en]; exact j2
    have := tg i.toNat j.toNat t (by omega) (by omega) p q
    omega
  · obtain ⟨t, r1, r2, r3, r8⟩ := t3 q k k1 k2
    exact ⟨t, r1, ctm t _ _ r3 r2, tgm t r3, r8⟩
  · obtain ⟨r1, U, nu, r2⟩ := t4 j t j8 q
    exact ⟨tgm t r1, U, nu, ctm t _ _ r1 r2⟩
  · have k2 : k < n := by rw [← en]; exact k2
    have := (new k t k1 k2 p).2.2
    have := (t4 j t j8 q).1.2.2
    omega
  · obtain ⟨s, r1, r2, r3, r4, r5⟩ := x7 d hd q
    obtain ⟨v8, v7⟩ := rsN_v A 8 d hd
    have q : A 2 (d : Int) = 1 := q
    obtain ⟨-, -, -, m8, m6⟩ := hA.1 (d : Int) (by omega) (by omega)
    have e8 : rsX A 8 (d : Int) ≠ 0 := by
      show (rsN A 8).2 (d : Int) ≠ 0
      rw [v8]
      split <;> omega
    refine ⟨s, r1, tgm s r2, fun y => absurd y e8, fun _ => ⟨?_, fun k k1 k2 k3 => ?_⟩, r5⟩
    · by_cases c : A 8 (d : Int) = 0
      · have k0 := m6 q c
        obtain ⟨s', p1, p2, -⟩ := xt (A 6 (d : Int)) k0.1 k0.2
        rw [r3 c] at p1
        injection p1 with p1
        subst p1
        exact (ctm s _ _ r2 p2).cg (fun p q1 q2 => by
          show A 0 _ = (rsN A 8).1 (45 * (d : Int) + p)
          rw [v7 p q1 q2, if_pos ⟨q, c⟩])
      · exact (ctm s _ _ r2 (r4 c).1).cg (fun p q1 q2 => by
          show A 7 _ = (rsN A 8).1 (45 * (d : Int) + p)
          rw [v7 p q1 q2, if_neg (by omega)])
    · have k2 : k < n := by rw [← en]; exact k2
      have := (new k s k1 k2 k3).2.2
      have := r2.2.2
      omega
theorem c_image (x : CL h im A F F2 w) (hI : mI0 (A 0)) : Ex l 3 yX5_image.cls yX5_image.name cX5_image 1 (some .int) 0 [some (.ref 0)] [] h (clP h (some (.int (iI (A 0 1)))) 1 (upA A 1 (cpI (A 0) (A 1) 503))) := by
  obtain ⟨⟨i1, i2⟩, ⟨i3, i4⟩, i5, i6⟩ := id hI
  have hR := x.rc
  have hX0 := x.x0
  have hN := hR.nw
  obtain ⟨D, R, C, Q, X, hW, ⟨hD, eD⟩, ⟨hRu, eR⟩, ⟨hC, eC⟩, ⟨hQ, eQ⟩, ⟨hX, eX⟩, hF⟩ := CW.op hN
  obtain ⟨n, hn⟩ : ∃ n : Nat, A 0 1 = n := ⟨(A 0 1).toNat, by omega⟩
  obtain ⟨xR, x1, -, -, ⟨c1, c2⟩, ⟨⟨S2, t1, -⟩, -, -, t4, t5⟩, x6, -, h47, hm6⟩ := id x
  have hT0 := t1.1
  refine ex_of (fun _ _ => ev_aload_n (pc' := 1) dX5_image_0 rfl rfl) ?_
  refine ex_of (fun _ _ => ev_getfield (pc' := 4) fX5_16 dX5_image_1 rfl hX0 rfl) ?_
  refine ex_of (fun _ _ => ev_aload_n (pc' := 5) dX5_image_4 rfl rfl) ?_
  refine ex_of (fun _ _ => ev_getfield (pc' := 8) fX5_12 dX5_image_5 rfl hX0 rfl) ?_
  have hO := hT0
  obtain ⟨w1, h1, E1, rfl, L9, g9, hC9⟩ := e4_takeWorld (l := l) (a := 1) (b := 8) (S := A 0) hN t1 (by decide)
  refine ex_of (fun _ _ => ev_callV1v (pc' := 11) kX5_257 mX4_takeWorld dX5_image_8 rfl rfl (Nat.le_of_ble_eq_true rfl) (Nat.le_of_ble_eq_true rfl) (by decide) rfl hO E1) ?_
  have hX1 := (g9 0 (by decide)).trans hX0
  have hW1 := (g9 1 (by decide)).trans hW
  have hF1 := (g9 7 (by decide)).trans hF
  rw [hn] at hW1
  have hB1 : TB h1 F2 0 := fun _ => ⟨fun k t k8 kt => by
    obtain ⟨q1, U, nu, q2⟩ := t4 k t k8 kt
    exact ⟨q1.mo (by omega), U, nu, q2.eq (fun j j1 j2 => g9 j (by have := q1.1; omega))⟩, t5⟩
  have hA1 : TA h1 (A 0) F F2 0 n := fun k hk => by
    obtain ⟨t, q1, q2, -⟩ := xR.2.2.2 (k : Int) (by omega) (by omega)
    have tt := c1 (k : Int) t (by omega) (by omega) q1
    exact ⟨t, q1, q2.eq (fun j j1 j2 => g9 j (by have := tt.1; omega)), tt.mo (by omega), fun _ j j8 => x6 (k : Int) j t (by omega) (by omega) j8 q1⟩
  have hC8 := hC9.1
  rw [upI_s, upI_n (by decide), upI_n (by decide)] at hC8
  refine ex_of (fun _ _ => ev_aload_n (pc' := 12) dX5_image_11 rfl rfl) ?_
  refine ex_of (fun _ _ => ev_getfield (pc' := 15) fX5_16 dX5_image_12 rfl hX1 rfl) ?_
  refine ex_of (fun _ _ => ev_aload_n (pc' := 16) dX5_image_15 rfl rfl) ?_
  refine ex_of (fun _ _ => ev_getfield (pc' := 19) fX5_12 dX5_image_16 rfl hX1 rfl) ?_
  refine ex_of (fun _ _ => ev_iconst (pc' := 20) (iI (0)) dX5_image_19 rfl (by decide)) ?_
  have hO := hC8
  obtain ⟨w1, h1, E1, rfl, hm, G, L8, g8, hW8, ti⟩ := e4_takeTravellers (l := l) (na := 0) (a := 1) (b := 8) (S := A 0) (an := 0) (n := n) (Or.inl ⟨rfl, rfl⟩) (by omega) (by omega) hW1 hC8 hF1 hC9.2.2.2.2.2.2 (by omega) hB1 hA1 (Or.inl rfl)
  refine ex_of (fun _ _ => ev_callV2v (pc' := 23) kX5_261 mX4_takeTravellers dX5_image_20 rfl rfl (Nat.le_of_ble_eq_true rfl) (Nat.le_of_ble_eq_true rfl) (by decide) rfl hO E1) ?_
  have lo : ∀ j, j < 14 → h1[j]? = hm[j]? := fun j hj => ti.2.1 j (by omega) (by omega) (fun _ k t k8 kt => by have := (t4 k t k8 kt).1.1; omega)
  have hX2 := (lo 0 (by decide)).trans ((g8 0 (by decide)).trans hX1)
  have hT2 := (lo 8 (by decide)).trans hW8
  refine ex_of (fun _ _ => ev_aload_n (pc' := 24) dX5_image_23 rfl rfl) ?_
  refine ex_of (fun _ _ => ev_iconst (pc' := 25) (iI (1)) dX5_image_24 rfl (by decide)) ?_
  refine xpu (pc' := 28) (fs' := [.ref 1, .ref 8, .int (iI 1), .ref 15, .ref 16, .ref 17]) (pX5_19 _) dX5_image_25 rfl hX2 rfl rfl (Nat.le_of_ble_eq_true rfl) rfl (fun h3 L3 hX3 g3 => ?_)
  have hT3 := (g3 8 (by decide)).trans hT2
  refine ex_of (fun _ _ => ev_aload_n (pc' := 29) dX5_image_28 rfl rfl) ?_
  refine ex_of (fun _ _ => ev_getfield (pc' := 32) fX5_16 dX5_image_29 rfl hX3 rfl) ?_
  refine ex_of (fun _ _ => ev_getfield (pc' := 35) fX5_115 dX5_image_32 rfl hT3 rfl) ?_
  exact ex_end (ev_iret dX5_image_35 rfl) (by
    have K := x.img hI hn L9 g9 hC9 L8 g8 hW8 ti L3 g3 hX3
    rw [hn]
    exact ⟨rfl, K.2, F, G, w, K.1⟩)
theorem c_restore (x : CL h im A F F2 w) (hI : mI0 (A 0)) (hA : mSh A) (h01 : im = 0 ∨ im = 1) (hI1 : im = 1 → mI0 (A 1)) : Ex l 3 yX5_restore.cls yX5_restore.name cX5_restore 1 (some .int) 0 [some (.ref 0)] [] h (clP h (if decide (im = 1) then some (.int (iI (A 1 1))) else some (.int (iI (-3)))) im (if decide (im = 1) then rsX A else A)) := by
  obtain ⟨⟨i1, i2⟩, ⟨i3, i4⟩, i5, i6⟩ := id hI
  have hR := x.rc
  have hX0 := x.x0
  have hN := hR.nw
  obtain ⟨D, R, C, Q, X, hW, ⟨hD, eD⟩, ⟨hRu, eR⟩, ⟨hC, eC⟩, ⟨hQ, eQ⟩, ⟨hX, eX⟩, hF⟩ := CW.op hN
  obtain ⟨xR, x1, -, -, ⟨c1, c2⟩, ⟨⟨S2, t1, t1'⟩, -, t3, t4, t5⟩, x6, -, h47, hm6⟩ := id x
  refine ex_of (fun _ _ => ev_aload_n (pc' := 1) dX5_restore_0 rfl rfl) ?_
  refine ex_of (fun _ _ => ev_getfield (pc' := 4) fX5_19 dX5_restore_1 rfl hX0 rfl) ?_
  refine ex_ifI_ne (pc' := 7) (tgt := 10) dX5_restore_4 (by decide) rfl (by omega) (fun c4 => ?_) (fun c4 => ?_)
  · have hi : im = 1 := by omega
    subst hi
    have hJ := (hI1 rfl).2.1
    obtain ⟨n, hn⟩ : ∃ n : Nat, A 1 1 = n := ⟨(A 1 1).toNat, by omega⟩
    have e2 : S2 = A 1 := t1' rfl
    subst e2
    have hT0 := t1.1
    refine ex_of (fun _ _ => ev_aload_n (pc' := 11) dX5_restore_10 rfl rfl) ?_
    refine ex_of (fun _ _ => ev_getfield (pc' := 14) fX5_12 dX5_restore_11 rfl hX0 rfl) ?_
    refine ex_of (fun _ _ => ev_aload_n (pc' := 15) dX5_restore_14 rfl rfl) ?_
    refine ex_of (fun _ _ => ev_getfield (pc' := 18) fX5_16 dX5_restore_15 rfl hX0 rfl) ?_
    have hO := hW
    obtain ⟨w1, h1, E1, rfl, L9, g9, hC9⟩ := e4_takeWorld (l := l) (a := 8) (b := 1) (S := A 1) t1 hN (by decide)
    refine ex_of (fun _ _ => ev_callV1v (pc' := 21) kX5_257 mX4_takeWorld dX5_restore_18 rfl rfl (Nat.le_of_ble_eq_true rfl) (Nat.le_of_ble_eq_true rfl) (by decide) rfl hO E1) ?_
    have hX1 := (g9 0 (by decide)).trans hX0
    have hW1 := (g9 8 (by decide)).trans hT0
    have hF1 := (g9 14 (by decide)).trans t1.2.2.2.2.2.2
    rw [hn] at hW1
    have hB1 : TB h1 F 1 := fun q => absurd q (by decide)
    have hA1 : TA h1 (A 1) F2 F 1 n := fun k hk => by
      obtain ⟨t, q1, q2, tt, -⟩ := t3 rfl (k : Int) (by omega) (by omega)
      exact ⟨t, q1, q2.eq (fun j j1 j2 => g9 j (by have := tt.1; omega)), tt.mo (by omega), fun q => absurd q (by decide)⟩
    have hC8 := hC9.1
    rw [upI_s, upI_n (by decide), upI_n (by decide)] at hC8
    refine ex_of (fun _ _ => ev_aload_n (pc' := 22) dX5_restore_21 rfl rfl) ?_
    refine ex_of (fun _ _ => ev_getfield (pc' := 25) fX5_12 dX5_restore_22 rfl hX1 rfl) ?_
    refine ex_of (fun _ _ => ev_aload_n (pc' := 26) dX5_restore_25 rfl rfl) ?_
    refine ex_of (fun _ _ => ev_getfield (pc' := 29) fX5_16 dX5_restore_26 rfl hX1 rfl) ?_
    refine ex_of (fun _ _ => ev_iconst (pc' := 30) (iI (1)) dX5_restore_29 rfl (by decide)) ?_
    have hO := hC8
    obtain ⟨w1, h1, E1, rfl, hm, G, L8, g8, hW8, ti⟩ := e4_takeTravellers (l := l) (na := 0) (a := 8) (b := 1) (S := A 1) (an := 1) (n := n) (Or.inr ⟨rfl, rfl⟩) (by omega) (by omega) hW1 hC8 hF1 hC9.2.2.2.2.2.2 (by omega) hB1 hA1 (Or.inr rfl)
    refine ex_of (fun _ _ => ev_callV2v (pc' := 33) kX5_261 mX4_takeTravellers dX5_restore_30 rfl rfl (Nat.le_of_ble_eq_true rfl) (Nat.le_of_ble_eq_true rfl) (by decide) rfl hO E1) ?_
    have lo : ∀ j, j < 7 → h1[j]? = hm[j]? := fun j hj => ti.2.1 j (by omega) (by omega) (fun q => absurd q (by decide))
    have hX2 := (lo 0 (by decide)).trans ((g8 0 (by decide)).trans hX1)
    have hT2 := (lo 1 (by decide)).trans hW8
    refine ex_of (fun _ _ => ev_aload_n (pc' := 34) dX5_restore_33 rfl rfl) ?_
    refine ex_of (fun _ _ => ev_getfield (pc' := 37) fX5_12 dX5_restore_34 rfl hX2 rfl) ?_
    refine ex_of (fun _ _ => ev_getfield (pc' := 40) fX5_115 dX5_restore_37 rfl hT2 rfl) ?_
    exact ex_end (ev_iret dX5_restore_40 rfl) (by
    have K := x.rst hI hA hn (by omega) L9 g9 hC9 L8 g8 hW8 ti
    rw [hn]
    exact ⟨rfl, K.2, G, F2, w, K.1⟩)
  · refine ex_of (fun _ _ => ev_bipush (pc' := 9) (iI (-3)) dX5_restore_7 rfl (by decide)) ?_
    exact ex_end (ev_iret dX5_restore_9 rfl) (by rw [decide_eq_false (by omega)]; exact x.same)
end CZ
