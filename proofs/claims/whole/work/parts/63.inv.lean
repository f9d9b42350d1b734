section DA
variable {A A' : Nat → Int → Int} {S S' : Int → Int} {im : Int}
/-! what holds of the reference's rows between calls -/
def mW (S : Int → Int) : Prop := mI0 S ∧ mIP S ∧ mIT S ∧ (∀ k, 0 ≤ k → k < S 1 → mT S k) ∧ ∀ k, 0 ≤ k → k < S 1 → mU S k
def mOw (A : Nat → Int → Int) : Prop := ∀ d : Int, 0 ≤ d → d < 8 → A 2 d = 1 → A 8 d ≠ 0 → (0 ≤ A 7 (45 * d + 0) ∧ A 7 (45 * d + 0) ≤ 7) ∧ (0 ≤ A 7 (45 * d + 1) ∧ A 7 (45 * d + 1) ≤ 9) ∧ (0 ≤ A 7 (45 * d + 2) ∧ A 7 (45 * d + 2) ≤ 30) ∧ (0 ≤ A 7 (45 * d + 3) ∧ A 7 (45 * d + 3) ≤ 6) ∧ (0 ≤ A 7 (45 * d + 28) ∧ A 7 (45 * d + 28) ≤ 8) ∧ (0 ≤ A 6 d ∧ A 6 d < 8)
def MI (A : Nat → Int → Int) (im : Int) : Prop := mW (A 0) ∧ (im = 0 ∨ im = 1) ∧ (im = 1 → mW (A 1)) ∧ mSh A ∧ mOw A
theorem MI.hd (x : MI A im) : mHd A := by
  obtain ⟨⟨hI, -, -, hT, -⟩, -, -, hS, hO⟩ := x
  intro d d1 d2 q
  obtain ⟨-, -, -, -, h5⟩ := hS.1 d d1 d2
  have hI2 := hI.2.1
  have hI1 := hI.1
  by_cases c : A 8 d = 0
  · have k := h5 q c
    obtain ⟨t0, t1, t2, t3, -, t5, -, -⟩ := hT (A 6 d) k.1 k.2
    unfold hldS
    simp only [if_pos c]
    exact ⟨t0, by omega, t2, t3, t5, by omega⟩
  · unfold hldS
    simp only [if_neg c]
    exact hO d d1 d2 q c
theorem mT.cg {k : Int} (hk : 0 ≤ k ∧ k < 8) (e : ∀ x, 143 ≤ x → x < 503 → S' x = S x) (e0 : S 0 ≤ S' 0) (h : mT S k) : mT S' k := by
  obtain ⟨t0, t1, t2, t3, t4, t5, t6, t7⟩ := h
  have e3 := e (143 + 45 * k + 3) (by omega) (by omega)
  have e28 := e (143 + 45 * k + 28) (by omega) (by omega)
  refine ⟨?_, ?_, ?_, ?_, fun i i1 i2 => ?_, ?_, fun i i1 i2 => ?_, fun i i1 i2 => ?_⟩
  · rw [e _ (by omega) (by omega)]; exact t0
  · rw [e _ (by omega) (by omega)]; omega
  · rw [e _ (by omega) (by omega)]; exact t2
  · rw [e3]; exact t3
  · rw [e3] at i2
    obtain ⟨a, b, c, d⟩ := t4 i i1 i2
    rw [e (143 + 45 * k + (4 + 4 * i + 0)) (by omega) (by omega), e (143 + 45 * k + (4 + 4 * i + 1)) (by omega) (by omega), e (143 + 45 * k + (4 + 4 * i + 2)) (by omega) (by omega), e (143 + 45 * k + (4 + 4 * i + 3)) (by omega) (by omega)]
    exact ⟨by omega, b, c, d⟩
  · rw [e28]; exact t5
  · rw [e28] at i2
    rw [e _ (by omega) (by omega), e _ (by omega) (by omega)]
    exact t6 i i1 i2
  · rw [e3] at i2
    rw [e _ (by omega) (by omega), e _ (by omega) (by omega), e _ (by omega) (by omega)]
    exact t7 i i1 i2
theorem mU.cg {k : Int} (hk : 0 ≤ k ∧ k < 8) (h3 : 0 ≤ S (143 + 45 * k + 3)) (e : ∀ x, 143 ≤ x → x < 503 → S' x = S x) (h : mU S k) : mU S' k := by
  intro i i1 i2
  rw [e _ (by omega) (by omega)] at i1
  rw [e _ (by omega) (by omega)]
  exact h i i1 i2
theorem mIP.cg (hI : mI0 S) (e : ∀ x, 0 ≤ x → x < 43 → x ≠ 1 → x ≠ 2 → S' x = S x) (h : mIP S) : mIP S' := by
  intro p p1 p2
  rw [e 0 (by decide) (by decide) (by decide) (by decide)] at p2
  have := hI.1
  rw [e _ (by omega) (by omega) (by omega) (by omega), e _ (by omega) (by omega) (by omega) (by omega), e _ (by omega) (by omega) (by omega) (by omega), e _ (by omega) (by omega) (by omega) (by omega)]
  exact h p p1 p2
theorem mIT.cg (e : ∀ x, 43 ≤ x → x < 143 → S' x = S x) (h : mIT S) : mIT S' := by
  intro a b a1 a2 b1 b2
  rw [e _ (by omega) (by omega), e _ (by omega) (by omega)]
  exact h a b a1 a2 b1 b2
theorem mW.cg (h : mW S) (e : ∀ x, 0 ≤ x → x < 503 → S' x = S x) : mW S' := by
  obtain ⟨hI, hP, hT, hK, hU⟩ := h
  have e0 := e 0 (by decide) (by decide)
  have e1 := e 1 (by decide) (by decide)
  have e2 := e 2 (by decide) (by decide)
  have h8 := hI.2.1
  refine ⟨?_, hP.cg hI (fun x x1 x2 _ _ => e x x1 (by omega)), hT.cg (fun x x1 x2 => e x (by omega) (by omega)), fun k k1 k2 => ?_, fun k k1 k2 => ?_⟩
  · unfold mI0; rw [e0, e1, e2]; exact hI
  · rw [e1] at k2
    exact (hK k k1 k2).cg (by omega) (fun x x1 x2 => e x (by omega) x2) (by omega)
  · rw [e1] at k2
    exact (hU k k1 k2).cg (by omega) (hK k k1 k2).2.2.2.1.1 (fun x x1 x2 => e x (by omega) x2)
/-- the first rows alone have changed -/
theorem mW.lo (h : mW S) (hI : mI0 S') (hP : mIP S') (hT : mIT S') (e1 : S' 1 = S 1) (e0 : S 0 ≤ S' 0) (e : ∀ x, 143 ≤ x → x < 503 → S' x = S x) : mW S' := by
  obtain ⟨-, -, -, hK, hU⟩ := h
  have h8 := hI.2.1
  refine ⟨hI, hP, hT, fun k k1 k2 => ?_, fun k k1 k2 => ?_⟩
  · rw [e1] at k2
    exact (hK k k1 k2).cg (by omega) e e0
  · rw [e1] at k2
    exact (hU k k1 k2).cg (by omega) (hK k k1 k2).2.2.2.1.1 e
theorem mW.choose {p n : Int} (h : mW S) : mW (sChooseS S p n) := by
  unfold sChooseS
  split
  · rename_i c
    obtain ⟨⟨c1, c2⟩, c3, c4⟩ := c
    have hh := h
    obtain ⟨hI, hP, hT, -, -⟩ := h
    obtain ⟨⟨i1, i2⟩, ⟨i3, i4⟩, i5, i6⟩ := id hI
    refine hh.lo ?_ (fun q q1 q2 => ?_) (hT.cg (fun x x1 x2 => upI_n (by omega))) (upI_n (by omega)) (by rw [upI_n (by omega)]; omega) (fun x x1 x2 => upI_n (by omega))
    · unfold mI0
      rw [upI_n (by omega), upI_n (by omega), upI_n (by omega)]
      exact hI
    · rw [upI_n (by omega)] at q2
      obtain ⟨a, b, c, d⟩ := hP q q1 q2
      have w0 : upI S (3 + 4 * p + 2) n (3 + 4 * q + 0) = S (3 + 4 * q + 0) := upI_n (by omega)
      have w1 : upI S (3 + 4 * p + 2) n (3 + 4 * q + 1) = S (3 + 4 * q + 1) := upI_n (by omega)
      have w3 : upI S (3 + 4 * p + 2) n (3 + 4 * q + 3) = S (3 + 4 * q + 3) := upI_n (by omega)
      rw [w0, w1, w3]
      by_cases z : q = p
      · rw [z, upI_s]; rw [z] at a b d; exact ⟨a, b, by omega, d⟩
      · rw [upI_n (by omega)]; exact ⟨a, b, c, d⟩
  · exact h
theorem mW.line {g : Int} (h : mW S) : mW (sLineS S g) := by
  unfold sLineS
  split
  · rename_i c
    have hh := h
    obtain ⟨hI, hP, hT, -, -⟩ := h
    obtain ⟨⟨i1, i2⟩, ⟨i3, i4⟩, i5, i6⟩ := id hI
    refine hh.lo ?_ (hP.cg hI (fun x x1 x2 x3 x4 => upI_n x4)) (hT.cg (fun x x1 x2 => upI_n (by omega))) (upI_n (by omega)) (by rw [upI_n (by omega)]; omega) (fun x x1 x2 => upI_n (by omega))
    unfold mI0
    rw [upI_s, upI_n (by decide), upI_n (by decide)]
    omega
  · exact h
theorem mW.sm {T : Int → Int} {n p : Int} (ok : stOK T n p) (hk : smK T n p S = true) (h : mW S) : mW (smS T n p S) := by
  have hh := h
  obtain ⟨hI, hP, hT, -, -⟩ := h
  have nums := st_nums ok
  have v0 := smS_v0 ok hk hI.1
  have hi := smS_hi ok hk hI.1
  have hI2 := smS_I ok hk hI
  obtain ⟨⟨i1, i2⟩, ⟨i3, i4⟩, i5, i6⟩ := id hI
  have gG : -1 ≤ stG T n p ∧ stG T n p ≤ 1 := by unfold stG; (repeat' split) <;> omega
  refine hh.lo hI2 ?_ ?_ hi.1 (by rw [v0]; split <;> omega) (fun x x1 x2 => hi.2 x x1)
  · unfold smK cmK at hk
    by_cases c1 : chr T n p = 108
    · unfold smS
      rw [cmS_l c1]
      exact hP.cg hI (fun x x1 x2 x3 x4 => upI_n x4)
    · rw [if_neg c1] at hk
      have n2 := nums.2 c1
      by_cases c2 : chr T n p = 112
      · rw [if_pos c2] at hk
        have hk := of_decide_eq_true hk
        obtain ⟨⟨w0, -, -⟩, w3, -⟩ := cmS_p (R := S) (g := stG T n p) (v0 := rdV T n (p + 1)) (v1 := rdV T n (st0 T n p + 1)) (v2 := rdV T n (st1 T n p + 1)) c2 (by omega)
        intro q q1 q2
        unfold smS at q2 ⊢
        rw [w0] at q2
        obtain ⟨a, b, c, d⟩ := w3 q q1 (by omega)
        rw [a, b, c, d]
        by_cases z : q = S 0
        · simp only [if_pos z]
          omega
        · simp only [if_neg z]
          exact hP q q1 (by omega)
      · rw [if_neg c2] at hk
        have hk := of_decide_eq_true hk
        unfold smS
        rw [cmS_w ⟨c1, c2⟩]
        exact hP.cg hI (fun x x1 x2 x3 x4 => by rw [upI_n (by omega), upI_n (by omega)])
  · unfold smK cmK at hk
    by_cases c1 : chr T n p = 108
    · unfold smS
      rw [cmS_l c1]
      exact hT.cg (fun x x1 x2 => upI_n (by omega))
    · rw [if_neg c1] at hk
      have n2 := nums.2 c1
      by_cases c2 : chr T n p = 112
      · rw [if_pos c2] at hk
        have hk := of_decide_eq_true hk
        obtain ⟨-, -, w4⟩ := cmS_p (R := S) (g := stG T n p) (v0 := rdV T n (p + 1)) (v1 := rdV T n (st0 T n p + 1)) (v2 := rdV T n (st1 T n p + 1)) c2 (by omega)
        exact hT.cg (fun x x1 x2 => w4 x x1)
      · rw [if_neg c2] at hk
        have hk := of_decide_eq_true hk
        unfold smS
        rw [cmS_w ⟨c1, c2⟩]
        generalize rdV T n (p + 1) = a at *
        generalize rdV T n (st0 T n p + 1) = b at *
        generalize rdV T n (st1 T n p + 1) = c at *
        have key : ∀ x y : Int, 0 ≤ x → x < 10 → 0 ≤ y → y < 10 → upI (upI S (43 + 10 * a + b) c) (43 + 10 * b + a) c (43 + 10 * x + y) = (if (x = a ∧ y = b) ∨ (x = b ∧ y = a) then c else S (43 + 10 * x + y)) := by
          intro x y x1 x2 y1 y2
          by_cases q1 : x = b ∧ y = a
          · rw [if_pos (Or.inr q1), q1.1, q1.2, upI_s]
          · rw [upI_n (by omega)]
            by_cases q2 : x = a ∧ y = b
            · rw [if_pos (Or.inl q2), q2.1, q2.2, upI_s]
            · rw [upI_n (by omega), if_neg (by omega)]
        intro x y x1 x2 y1 y2
        rw [key x y x1 x2 y1 y2, key y x y1 y2 x1 x2]
        have hT' := hT x y x1 x2 y1 y2
        by_cases q : (x = a ∧ y = b) ∨ (x = b ∧ y = a)
        · rw [if_pos q, if_pos (by omega)]
          omega
        · rw [if_neg q, if_neg (by omega)]
          exact hT'
theorem mW.wKk {T : Int → Int} {n : Int} : ∀ (k : Nat) (p : Int) (S : Int → Int), wG T n k p → mW S → mW (wK T n k p S).2
  | 0, _, _, _, h => h
  | k + 1, p, S, hg, h => by
    obtain ⟨ok, hg2⟩ := hg
    unfold wK
    by_cases c : smK T n p S = true
    · rw [if_pos c]
      exact mW.wKk k _ _ hg2 (h.sm ok c)
    · rw [if_neg c]
      exact h
theorem mW.world {d : Int} (h : mW (A 0)) : mW (sWoS A d) := by
  unfold sWoS
  split
  · rename_i c
    obtain ⟨-, c2, -⟩ := c
    obtain ⟨j, ej, gj, -⟩ := wF_G (T := txt A (100 * d)) (n := A 4 d) 200 0 0 (by omega) (by omega) c2
    have ej : sWoF A d = 0 + 1 + j := ej
    unfold sWoK
    rw [show (sWoF A d).toNat = j + 1 by omega]
    exact mW.wKk _ _ _ gj h
  · exact h
theorem sWoS_1 {d : Int} (h : mI0 (A 0)) : sWoS A d 1 = A 0 1 := by
  unfold sWoS
  split
  · rename_i c
    obtain ⟨-, c2, -⟩ := c
    obtain ⟨j, ej, gj, -⟩ := wF_G (T := txt A (100 * d)) (n := A 4 d) 200 0 0 (by omega) (by omega) c2
    have ej : sWoF A d = 0 + 1 + j := ej
    unfold sWoK
    rw [show (sWoF A d).toNat = j + 1 by omega]
    exact (wK_hi _ _ _ gj h.1).1
  · rfl
theorem mW.trav {kd hm sy : Int} (h : mW S) (hb : trB S kd hm sy = true) : mW (trS S kd hm sy) := by
  have hb := of_decide_eq_true hb
  obtain ⟨hI, hP, hT, hK, hU⟩ := h
  obtain ⟨⟨i1, i2⟩, ⟨i3, i4⟩, i5, i6⟩ := id hI
  obtain ⟨v1, v2, v3, v4⟩ := trS_v (S := S) (kd := kd) (hm := hm) (sy := sy) i3
  have sz := fun i hi => trS_z (S := S) (kd := kd) (hm := hm) (sy := sy) (i := i) i3 hi
  have so := fun y hy h1 => trS_o (S := S) (kd := kd) (hm := hm) (sy := sy) (y := y) i3 hy h1
  have s0 := so 0 (by omega) (by decide)
  have s2 := so 2 (by omega) (by decide)
  have ks : ∀ k, 0 ≤ k → k < S 1 → ∀ x, 143 + 45 * k ≤ x → x < 143 + 45 * k + 45 → trS S kd hm sy x = S x := fun k k1 k2 x x1 x2 => so x (by omega) (by omega)
  refine ⟨?_, hP.cg hI (fun x x1 x2 x3 x4 => so x (by omega) x3), hT.cg (fun x x1 x2 => so x (by omega) (by omega)), fun k k1 k2 => ?_, fun k k1 k2 => ?_⟩
  · unfold mI0; rw [v1, s0, s2]; omega
  · rw [v1] at k2
    by_cases c : k = S 1
    · subst c
      refine ⟨by rw [v2]; omega, by rw [v3, s0]; omega, by rw [v4]; omega, by rw [sz _ (by omega)]; omega, fun i j1 j2 => ?_, by rw [sz _ (by omega)]; omega, fun i j1 j2 => ?_, fun i j1 j2 => ?_⟩
      · rw [sz 3 (by omega)] at j2; omega
      · rw [sz 28 (by omega)] at j2; omega
      · rw [sz 3 (by omega)] at j2; omega
    · obtain ⟨t0, t1, t2, t3, t4, t5, t6, t7⟩ := hK k k1 (by omega)
      have kk := ks k k1 (by omega)
      have e3 := kk (143 + 45 * k + 3) (by omega) (by omega)
      have e28 := kk (143 + 45 * k + 28) (by omega) (by omega)
      refine ⟨by rw [kk _ (by omega) (by omega)]; exact t0, by rw [kk _ (by omega) (by omega), s0]; exact t1, by rw [kk _ (by omega) (by omega)]; exact t2, by rw [e3]; exact t3, fun i j1 j2 => ?_, by rw [e28]; exact t5, fun i j1 j2 => ?_, fun i j1 j2 => ?_⟩
      · rw [e3] at j2
        rw [s0, kk _ (by omega) (by omega), kk _ (by omega) (by omega), kk _ (by omega) (by omega), kk _ (by omega) (by omega)]
        exact t4 i j1 j2
      · rw [e28] at j2
        rw [kk _ (by omega) (by omega), kk _ (by omega) (by omega)]
        exact t6 i j1 j2
      · rw [e3] at j2
        rw [kk _ (by omega) (by omega), kk _ (by omega) (by omega), kk _ (by omega) (by omega)]
        exact t7 i j1 j2
  · rw [v1] at k2
    by_cases c : k = S 1
    · subst c
      intro i j1 j2
      rw [sz 3 (by omega)] at j1
      exact sz _ (by omega)
    · have kk := ks k k1 (by omega)
      have h3 := (hK k k1 (by omega)).2.2.2.1.1
      intro i j1 j2
      rw [kk _ (by omega) (by omega)] at j1
      rw [kk _ (by omega) (by omega)]
      exact hU k k1 (by omega) i j1 j2
theorem mW.leg {k q ea f hr : Int} (h : mW S) (hb : lgB S k q f hr = true) : mW (lgS S k q ea f hr) := by
  obtain ⟨hI, hP, hT, hK, hU⟩ := h
  obtain ⟨⟨i1, i2⟩, ⟨i3, i4⟩, i5, i6⟩ := id hI
  unfold lgB at hb
  simp only [Bool.and_eq_true, Bool.not_eq_true'] at hb
  obtain ⟨b1, b2, b3⟩ := hb
  have b1 := of_decide_eq_true b1
  have b2 := of_decide_eq_false b2
  have b3 := of_decide_eq_false b3
  obtain ⟨t0, t1, t2, t3, t4, t5, t6, t7⟩ := hK k (by omega) (by omega)
  have hn6 : 0 ≤ S (143 + 45 * k + 3) ∧ S (143 + 45 * k + 3) < 6 := by omega
  have li := fun i hi => lgS_i (S := S) (k := k) (q := q) (ea := ea) (f := f) (hr := hr) (i := i) hn6 hi
  have lo := fun x hx => lgS_o (S := S) (k := k) (q := q) (ea := ea) (f := f) (hr := hr) (x := x) hn6 hx
  have l3 : lgS S k q ea f hr (143 + 45 * k + 3) = S (143 + 45 * k + 3) + 1 := lgS_3
  have s0 := lo 0 (by omega)
  have s1 := lo 1 (by omega)
  have s2 := lo 2 (by omega)
  have uk := hU k (by omega) (by omega)
  refine ⟨?_, hP.cg hI (fun x x1 x2 x3 x4 => lo x (by omega)), hT.cg (fun x x1 x2 => lo x (by omega)), fun k' k1 k2 => ?_, fun k' k1 k2 => ?_⟩
  · unfold mI0; rw [s0, s1, s2]; exact hI
  · rw [s1] at k2
    by_cases c : k' = k
    · subst c
      refine ⟨by rw [lo _ (by omega)]; exact t0, by rw [lo _ (by omega), s0]; exact t1, by rw [lo _ (by omega)]; exact t2, by rw [l3]; omega, fun i j1 j2 => ?_, by rw [lo _ (by omega)]; exact t5, fun i j1 j2 => ?_, fun i j1 j2 => ?_⟩
      · rw [l3] at j2
        obtain ⟨u0, u1, u2, u3⟩ := li i (by omega)
        rw [u0, u1, u2, u3, s0]
        by_cases z : i = S (143 + 45 * k' + 3)
        · simp only [if_pos z]
          refine ⟨by omega, ?_, by omega, by omega⟩
          by_cases z2 : ea = 0
          · rw [if_pos z2]; exact Or.inl rfl
          · rw [if_neg z2]; exact Or.inr rfl
        · simp only [if_neg z]
          exact t4 i j1 (by omega)
      · rw [lo _ (by omega)] at j2
        rw [lo _ (by omega), lo _ (by omega)]
        exact t6 i j1 j2
      · rw [l3] at j2
        obtain ⟨-, -, u2, u3⟩ := li i (by omega)
        obtain ⟨-, -, w2, -⟩ := li (i + 1) (by omega)
        rw [u2, u3, w2]
        rw [if_neg (by omega), if_neg (by omega)]
        by_cases z : i + 1 = S (143 + 45 * k' + 3)
        · rw [if_pos z]
          have e : S (143 + 45 * k' + 3) - 1 = i := by omega
          rw [e] at b3
          omega
        · rw [if_neg z]
          exact t7 i j1 (by omega)
    · obtain ⟨t0, t1, t2, t3, t4, t5, t6, t7⟩ := hK k' k1 k2
      have kk : ∀ x, 143 + 45 * k' ≤ x → x < 143 + 45 * k' + 45 → lgS S k q ea f hr x = S x := fun x x1 x2 => lo x (by omega)
      have e3 := kk (143 + 45 * k' + 3) (by omega) (by omega)
      have e28 := kk (143 + 45 * k' + 28) (by omega) (by omega)
      refine ⟨by rw [kk _ (by omega) (by omega)]; exact t0, by rw [kk _ (by omega) (by omega), s0]; exact t1, by rw [kk _ (by omega) (by omega)]; exact t2, by rw [e3]; exact t3, fun i j1 j2 => ?_, by rw [e28]; exact t5, fun i j1 j2 => ?_, fun i j1 j2 => ?_⟩
      · rw [e3] at j2
        rw [s0, kk _ (by omega) (by omega), kk _ (by omega) (by omega), kk _ (by omega) (by omega), kk _ (by omega) (by omega)]
        exact t4 i j1 j2
      · rw [e28] at j2
        rw [kk _ (by omega) (by omega), kk _ (by omega) (by omega)]
        exact t6 i j1 j2
      · rw [e3] at j2
        rw [kk _ (by omega) (by omega), kk _ (by omega) (by omega), kk _ (by omega) (by omega)]
        exact t7 i j1 j2
  · rw [s1] at k2
    by_cases c : k' = k
    · subst c
      intro i j1 j2
      rw [l3] at j1
      rw [(li i (by omega)).2.1, if_neg (by omega)]
      exact uk i (by omega) j2
    · have h3 := (hK k' k1 k2).2.2.2.1.1
      intro i j1 j2
      rw [lo _ (by omega)] at j1
      rw [lo _ (by omega)]
      exact hU k' k1 k2 i j1 j2
theorem mW.cap {k t b : Int} (h : mW S) (hb : cpB S k t b = true) : mW (cpS S k t b) := by
  have hb := of_decide_eq_true hb
  obtain ⟨hI, hP, hT, hK, hU⟩ := h
  obtain ⟨⟨i1, i2⟩, ⟨i3, i4⟩, i5, i6⟩ := id hI
  obtain ⟨t0, t1, t2, t3, t4, t5, t6, t7⟩ := hK k (by omega) (by omega)
  have hn6 : 0 ≤ S (143 + 45 * k + 28) ∧ S (143 + 45 * k + 28) < 8 := by omega
  have li := fun i hi => cpS_i (S := S) (k := k) (t := t) (b := b) (i := i) hn6 hi
  have lo := fun x hx => cpS_o (S := S) (k := k) (t := t) (b := b) (y := x) hn6 hx
  have l28 : cpS S k t b (143 + 45 * k + 28) = S (143 + 45 * k + 28) + 1 := cpS_28
  have s0 := lo 0 (by omega)
  have s1 := lo 1 (by omega)
  have s2 := lo 2 (by omega)
  refine ⟨?_, hP.cg hI (fun x x1 x2 x3 x4 => lo x (by omega)), hT.cg (fun x x1 x2 => lo x (by omega)), fun k' k1 k2 => ?_, fun k' k1 k2 => ?_⟩
  · unfold mI0; rw [s0, s1, s2]; exact hI
  · rw [s1] at k2
    by_cases c : k' = k
    · subst c
      have e3 := lo (143 + 45 * k' + 3) (by omega)
      refine ⟨by rw [lo _ (by omega)]; exact t0, by rw [lo _ (by omega), s0]; exact t1, by rw [lo _ (by omega)]; exact t2, by rw [e3]; exact t3, fun i j1 j2 => ?_, by rw [l28]; omega, fun i j1 j2 => ?_, fun i j1 j2 => ?_⟩
      · rw [e3] at j2
        rw [s0, lo _ (by omega), lo _ (by omega), lo _ (by omega), lo _ (by omega)]
        exact t4 i j1 j2
      · rw [l28] at j2
        obtain ⟨u0, u1⟩ := li i (by omega)
        rw [u0, u1]
        by_cases z : i = S (143 + 45 * k' + 28)
        · simp only [if_pos z]; omega
        · simp only [if_neg z]; exact t6 i j1 (by omega)
      · rw [e3] at j2
        rw [lo _ (by omega), lo _ (by omega), lo _ (by omega)]
        exact t7 i j1 j2
    · obtain ⟨t0, t1, t2, t3, t4, t5, t6, t7⟩ := hK k' k1 k2
      have kk : ∀ x, 143 + 45 * k' ≤ x → x < 143 + 45 * k' + 45 → cpS S k t b x = S x := fun x x1 x2 => lo x (by omega)
      have e3 := kk (143 + 45 * k' + 3) (by omega) (by omega)
      have e28 := kk (143 + 45 * k' + 28) (by omega) (by omega)
      refine ⟨by rw [kk _ (by omega) (by omega)]; exact t0, by rw [kk _ (by omega) (by omega), s0]; exact t1, by rw [kk _ (by omega) (by omega)]; exact t2, by rw [e3]; exact t3, fun i j1 j2 => ?_, by rw [e28]; exact t5, fun i j1 j2 => ?_, fun i j1 j2 => ?_⟩
      · rw [e3] at j2
        rw [s0, kk _ (by omega) (by omega), kk _ (by omega) (by omega), kk _ (by omega) (by omega), kk _ (by omega) (by omega)]
        exact t4 i j1 j2
      · rw [e28] at j2
        rw [kk _ (by omega) (by omega), kk _ (by omega) (by omega)]
        exact t6 i j1 j2
      · rw [e3] at j2
        rw [kk _ (by omega) (by omega), kk _ (by omega) (by omega), kk _ (by omega) (by omega)]
        exact t7 i j1 j2
  · rw [s1] at k2
    have h3 := (hK k' k1 k2).2.2.2.1
    have key : ∀ x, 143 + 45 * k' ≤ x → x < 143 + 45 * k' + 28 → cpS S k t b x = S x := by
      intro x x1 x2
      rcases Int.lt_trichotomy k' k with c | c | c
      · exact lo x (by omega)
      · exact lo x (by omega)
      · exact lo x (by omega)
    intro i j1 j2
    rw [key _ (by omega) (by omega)] at j1
    rw [key _ (by omega) (by omega)]
    exact hU k' k1 k2 i j1 j2
/-- the world alone has changed, no traveller went -/
theorem MI.w0 (x : MI A im) (h : mW S') (h1 : A 0 1 ≤ S' 1) : MI (upA A 0 S') im := by
  obtain ⟨-, x2, x3, ⟨x4, x5⟩, x6⟩ := x
  refine ⟨h, x2, x3, ⟨fun d d1 d2 => ?_, x5⟩, x6⟩
  obtain ⟨a, b, c, d', e⟩ := x4 d d1 d2
  exact ⟨a, b, c, d', fun q q2 => ⟨(e q q2).1, Int.lt_of_lt_of_le (e q q2).2 h1⟩⟩
theorem MI.ag (x : MI A im) (e : ∀ j, j ≠ 9 → j ≠ 10 → A' j = A j) : MI A' im := by
  unfold MI mSh mOw at x ⊢
  rw [e 0 (by decide) (by decide), e 1 (by decide) (by decide), e 2 (by decide) (by decide), e 3 (by decide) (by decide), e 4 (by decide) (by decide), e 5 (by decide) (by decide), e 6 (by decide) (by decide), e 7 (by decide) (by decide), e 8 (by decide) (by decide)]
  exact x
theorem MI.img (x : MI A im) : MI (upA A 1 (cpI (A 0) (A 1) 503)) 1 := ⟨x.1, Or.inr rfl, fun _ => x.1.cg (fun y y1 y2 => cpI_v ⟨y1, y2⟩), x.2.2.2.1, x.2.2.2.2⟩
theorem MI.rst (x : MI A 1) : MI (rsX A) 1 := by
  obtain ⟨x1, x2, x3, ⟨x4, x5⟩, x6⟩ := x
  have hI := x1.1
  have m1 : mW (rsX A 0) := (x3 rfl).cg (fun y y1 y2 => cpI_v ⟨y1, y2⟩)
  have e8 : ∀ d : Int, 0 ≤ d → d < 8 → rsX A 8 d = (if A 2 d = 1 ∧ A 8 d = 0 then 1 else A 8 d) ∧ ∀ i : Int, 0 ≤ i → i < 45 → rsX A 7 (45 * d + i) = (if A 2 d = 1 ∧ A 8 d = 0 then A 0 (143 + 45 * A 6 d + i) else A 7 (45 * d + i)) := by
    intro d d1 d2
    obtain ⟨n, rfl⟩ : ∃ n : Nat, d = n := ⟨d.toNat, by omega⟩
    exact rsN_v A 8 n (by omega)
  refine ⟨m1, x2, x3, ⟨fun d d1 d2 => ?_, x5⟩, fun d d1 d2 q q8 => ?_⟩
  · obtain ⟨a, b, c, f, e⟩ := x4 d d1 d2
    obtain ⟨v8, -⟩ := e8 d d1 d2
    refine ⟨a, b, c, ?_, fun q q8 => ?_⟩
    · rw [v8]; split <;> omega
    · exfalso
      have q : A 2 d = 1 := q
      rw [v8] at q8
      split at q8 <;> omega
  · have q : A 2 d = 1 := q
    obtain ⟨v8, v7⟩ := e8 d d1 d2
    obtain ⟨a, b, c, f, e⟩ := x4 d d1 d2
    have e6 : rsX A 6 d = A 6 d := rfl
    rw [v7 0 (by decide) (by decide), v7 1 (by decide) (by decide), v7 2 (by decide) (by decide), v7 3 (by decide) (by decide), v7 28 (by decide) (by decide), e6]
    by_cases z : A 8 d = 0
    · simp only [if_pos (show A 2 d = 1 ∧ A 8 d = 0 from ⟨q, z⟩)]
      have k := e q z
      obtain ⟨t0, t1, t2, t3, -, t5, -, -⟩ := x1.2.2.2.1 (A 6 d) k.1 k.2
      have := hI.1
      have := hI.2.1
      exact ⟨t0, by omega, t2, t3, t5, by omega⟩
    · simp only [if_neg (show ¬ (A 2 d = 1 ∧ A 8 d = 0) from fun y => z y.2)]
      exact x6 d d1 d2 q z
theorem MI.keep {d w k : Int} (x : MI A im) (hb : kpB A d w k = true) : MI (kpA A d w k) im := by
  have hb := of_decide_eq_true hb
  obtain ⟨x1, x2, x3, ⟨x4, x5⟩, x6⟩ := x
  have e2 : ∀ y, kpA A d w k 2 y = upI (A 2) d w y := fun _ => rfl
  have e6 : ∀ y, kpA A d w k 6 y = upI (A 6) d k y := fun _ => rfl
  have e8 : ∀ y, kpA A d w k 8 y = upI (A 8) d 0 y := fun _ => rfl
  refine ⟨x1, x2, x3, ⟨fun y y1 y2 => ?_, x5⟩, fun y y1 y2 q q8 => ?_⟩
  · obtain ⟨a, b, c, f, e⟩ := x4 y y1 y2
    by_cases z : y = d
    · subst z
      rw [e2, e6, e8, upI_s, upI_s, upI_s]
      exact ⟨by omega, b, c, Or.inl rfl, fun q _ => hb.2.2 q⟩
    · rw [e2, e6, e8, upI_n z, upI_n z, upI_n z]
      exact ⟨a, b, c, f, e⟩
  · rw [e2] at q
    rw [e8] at q8
    by_cases z : y = d
    · subst z; rw [upI_s] at q8; exact absurd rfl q8
    · rw [upI_n z] at q q8
      rw [e6, upI_n z]
      exact x6 y y1 y2 q q8
theorem MI.row {d q n : Int} (x : MI A im) (hb : rwB d q n = true) : MI (rwA A d q n) im := by
  have hb := of_decide_eq_true hb
  obtain ⟨x1, x2, x3, ⟨x4, x5⟩, x6⟩ := x
  have e2 : ∀ y, rwA A d q n 2 y = upI (A 2) d 2 y := fun _ => rfl
  have e3 : ∀ y, rwA A d q n 3 y = upI (A 3) d q y := fun _ => rfl
  have e4 : ∀ y, rwA A d q n 4 y = upI (A 4) d n y := fun _ => rfl
  refine ⟨x1, x2, x3, ⟨fun y y1 y2 => ?_, fun i i1 i2 => ?_⟩, fun y y1 y2 q' q8 => ?_⟩
  · obtain ⟨a, b, c, f, e⟩ := x4 y y1 y2
    by_cases z : y = d
    · subst z
      rw [e2, e3, e4, upI_s, upI_s, upI_s]
      exact ⟨by omega, by omega, by omega, f, fun q _ => absurd q (by decide)⟩
    · rw [e2, e3, e4, upI_n z, upI_n z, upI_n z]
      exact ⟨a, b, c, f, e⟩
  · show -2147483648 ≤ zeN (A 5) d 100 i ∧ zeN (A 5) d 100 i < 2147483648
    unfold zeN
    split
    · decide
    · exact x5 i i1 i2
  · rw [e2] at q'
    by_cases z : y = d
    · subst z; rw [upI_s] at q'; exact absurd q' (by decide)
    · rw [upI_n z] at q'
      exact x6 y y1 y2 q' q8
theorem lowS_r {s v : Int} (hv : -2147483648 ≤ v ∧ v < 2147483648) : -2147483648 ≤ lowS s v ∧ lowS s v < 2147483648 := by
  unfold lowS
  split
  · have h1 := Int32.le_toInt ((iI v).toInt8.toInt32); have h2 := Int32.toInt_lt ((iI v).toInt8.toInt32); omega
  · split
    · have h1 := Int32.le_toInt ((iI v).toInt16.toInt32); have h2 := Int32.toInt_lt ((iI v).toInt16.toInt32); omega
    · exact hv
theorem MI.put {d i v : Int} (x : MI A im) (hv : -2147483648 ≤ v ∧ v < 2147483648) : MI (ptA A d i v) im := by
  obtain ⟨x1, x2, x3, ⟨x4, x5⟩, x6⟩ := x
  refine ⟨x1, x2, x3, ⟨x4, fun j j1 j2 => ?_⟩, x6⟩
  show -2147483648 ≤ upI (A 5) (100 * d + i) (lowS (A 3 d) v) j ∧ upI (A 5) (100 * d + i) (lowS (A 3 d) v) j < 2147483648
  by_cases z : j = 100 * d + i
  · rw [z, upI_s]; exact lowS_r hv
  · rw [upI_n z]; exact x5 j j1 j2
theorem MI.copy {d i e j n : Int} (x : MI A im) (hb : cyB A d i e j n = true) : MI (cyA A d i e j n) im := by
  have hb := of_decide_eq_true hb
  obtain ⟨x1, x2, x3, ⟨x4, x5⟩, x6⟩ := x
  refine ⟨x1, x2, x3, ⟨x4, fun y y1 y2 => ?_⟩, x6⟩
  show -2147483648 ≤ cpE (A 5) (100 * d + i) (100 * e + j) n y ∧ cpE (A 5) (100 * d + i) (100 * e + j) n y < 2147483648
  unfold cyE at hb
  split at hb
  · omega
  · rename_i c1
    split at hb
    · omega
    · split at hb
      · omega
      · split at hb
        · omega
        · rename_i c4
          have c1 := Classical.not_not.mp c1
          obtain ⟨-, -, s4, -, -⟩ := x4 d (by omega) (by omega)
          unfold cpE
          split
          · exact x5 _ (by omega) (by omega)
          · exact x5 y y1 y2
end DA
