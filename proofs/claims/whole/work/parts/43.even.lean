section MN
/-! days on a stretch with nothing but even motion rise only or fall only -/
def Mn (f : Int → Int) (a b : Int) : Prop := (∀ x y, a ≤ x → x ≤ y → y ≤ b → f x ≤ f y) ∨ (∀ x y, a ≤ x → x ≤ y → y ≤ b → f y ≤ f x)
theorem Mn.cg {f g : Int → Int} {a b c : Int} (h : Mn f a b) (e : ∀ m, a ≤ m → m ≤ b → g m = f m + c) : Mn g a b := by
  rcases h with h | h
  · exact Or.inl fun x y h1 h2 h3 => by rw [e x h1 (by omega), e y (by omega) h3]; have := h x y h1 h2 h3; omega
  · exact Or.inr fun x y h1 h2 h3 => by rw [e x h1 (by omega), e y (by omega) h3]; have := h x y h1 h2 h3; omega
theorem Mn.lin {q c0 c1 a b : Int} (hq : 0 < q) : Mn (fun m => (c0 + c1 * m) / q) a b := by
  by_cases hc : 0 ≤ c1
  · exact Or.inl fun x y _ h2 _ => Int.ediv_le_ediv hq (by have := Int.mul_le_mul_of_nonneg_left h2 hc; omega)
  · refine Or.inr fun x y _ h2 _ => Int.ediv_le_ediv hq ?_
    have h4 : (-c1) * x ≤ (-c1) * y := Int.mul_le_mul_of_nonneg_left h2 (by omega)
    rw [Int.neg_mul, Int.neg_mul] at h4
    omega
theorem Mn.sq {f : Int → Int} {a b : Int} (h : Mn f a b) (e : f a = f b) : ∀ m, a ≤ m → m ≤ b → f m = f a := by
  intro m h1 h2
  rcases h with h | h
  · have p := h a m (by omega) h1 h2
    have q := h m b h1 h2 (by omega)
    omega
  · have p := h a m (by omega) h1 h2
    have q := h m b h1 h2 (by omega)
    omega
theorem dAt_lin {S : Int → Int} {k A B be r m : Int} : dAt (eN S k (A + B * m) be) be r m = (((-720 + rr r) * be + 4 * (eS S (S (3 + 4 * S (143 + 45 * k + 1) + 0)) * be + A)) + (be + 4 * B) * m) / (1440 * be) := by
  unfold dAt eN
  congr 1
  rw [show m - 720 + rr r = m + (-720 + rr r) by omega, Int.add_mul m, Int.add_mul be (4 * B) m, Int.mul_assoc 4 B m, Int.mul_comm m be]
  omega
theorem dAt_con {ab be r m : Int} : dAt ab be r m = (((-720 + rr r) * be + 4 * ab) + be * m) / (1440 * be) := by
  unfold dAt
  congr 1
  rw [show m - 720 + rr r = m + (-720 + rr r) by omega, Int.add_mul, Int.mul_comm m be]
  omega
theorem dAt_mnL {S : Int → Int} {k A B be r a b : Int} (hb : 0 < be) : Mn (fun m => dAt (eN S k (A + B * m) be) be r m) a b := by
  refine Mn.cg (c := 0) (Mn.lin (c0 := ((-720 + rr r) * be + 4 * (eS S (S (3 + 4 * S (143 + 45 * k + 1) + 0)) * be + A))) (c1 := be + 4 * B) (q := 1440 * be) (by omega)) (fun m _ _ => ?_)
  exact dAt_lin.trans (Int.add_zero _).symm
theorem dAt_mnC {ab be r a b : Int} (hb : 0 < be) : Mn (fun m => dAt ab be r m) a b := by
  refine Mn.cg (c := 0) (Mn.lin (c0 := (-720 + rr r) * be + 4 * ab) (c1 := be) (q := 1440 * be) (by omega)) (fun m _ _ => ?_)
  rw [dAt_con, Int.add_zero]
theorem dP_mn {S : Int → Int} {p a b : Int} : Mn (fun m => dP S p m) a b := Mn.cg (c := S (3 + 4 * p + 2)) (dAt_mnC (ab := eS S (S (3 + 4 * p + 0))) (be := 1) (r := S (3 + 4 * p + 1)) (by decide)) (fun _ _ _ => rfl)
theorem sMid_eq {S : Int → Int} {k ab be t : Int} (hb : 0 < be) : sMid S k ab be t = dAt (eN S k ab be) be 0 t - sRnd S k ab be := by
  unfold sMid sRnd dAt
  rw [rnd_mid hb]
/-! nextEvent: no event lies between -/
theorem nr_le {n e t : Int} : nr n e t ≤ n ∧ (e ≤ t ∨ nr n e t ≤ e) := by unfold nr; split <;> omega
theorem nxL_le {S : Int → Int} {k t : Int} : ∀ (n : Nat) (i : Int), 0 ≤ i → i < n → (S (143 + 45 * k + (4 + 4 * i + 2)) + 1 ≤ t ∨ nxL S k t n ≤ S (143 + 45 * k + (4 + 4 * i + 2)) + 1) ∧ (S (143 + 45 * k + (4 + 4 * i + 2)) + 60 * S (143 + 45 * k + (4 + 4 * i + 3)) ≤ t ∨ nxL S k t n ≤ S (143 + 45 * k + (4 + 4 * i + 2)) + 60 * S (143 + 45 * k + (4 + 4 * i + 3))) ∧ (S (143 + 45 * k + (4 + 4 * i + 2)) + 60 * S (143 + 45 * k + (4 + 4 * i + 3)) + S (143 + 45 * k + 2) * 1440 ≤ t ∨ nxL S k t n ≤ S (143 + 45 * k + (4 + 4 * i + 2)) + 60 * S (143 + 45 * k + (4 + 4 * i + 3)) + S (143 + 45 * k + 2) * 1440)
  | 0, i, h1, h2 => by omega
  | n + 1, i, h1, h2 => by
    have a1 := nr_le (n := nxL S k t n) (e := S (143 + 45 * k + (4 + 4 * (n : Int) + 2)) + 1) (t := t)
    have a2 := nr_le (n := nr (nxL S k t n) (S (143 + 45 * k + (4 + 4 * (n : Int) + 2)) + 1) t) (e := S (143 + 45 * k + (4 + 4 * (n : Int) + 2)) + 60 * S (143 + 45 * k + (4 + 4 * (n : Int) + 3))) (t := t)
    have a3 := nr_le (n := nr (nr (nxL S k t n) (S (143 + 45 * k + (4 + 4 * (n : Int) + 2)) + 1) t) (S (143 + 45 * k + (4 + 4 * (n : Int) + 2)) + 60 * S (143 + 45 * k + (4 + 4 * (n : Int) + 3))) t) (e := S (143 + 45 * k + (4 + 4 * (n : Int) + 2)) + 60 * S (143 + 45 * k + (4 + 4 * (n : Int) + 3)) + S (143 + 45 * k + 2) * 1440) (t := t)
    have e : nxL S k t (n + 1) = nr (nr (nr (nxL S k t n) (S (143 + 45 * k + (4 + 4 * (n : Int) + 2)) + 1) t) (S (143 + 45 * k + (4 + 4 * (n : Int) + 2)) + 60 * S (143 + 45 * k + (4 + 4 * (n : Int) + 3))) t) (S (143 + 45 * k + (4 + 4 * (n : Int) + 2)) + 60 * S (143 + 45 * k + (4 + 4 * (n : Int) + 3)) + S (143 + 45 * k + 2) * 1440) t := rfl
    by_cases c : i = n
    · subst c
      rw [e]
      omega
    · have ih := nxL_le (S := S) (k := k) (t := t) n i h1 (by omega)
      rw [e]
      omega
theorem nxC_le {S : Int → Int} {k t : Int} : ∀ (n : Nat), nxC S k t n ≤ nxC S k t 0 ∧ ∀ i : Int, 0 ≤ i → i < n → (S (143 + 45 * k + (29 + 2 * i)) ≤ t ∨ nxC S k t n ≤ S (143 + 45 * k + (29 + 2 * i)))
  | 0 => ⟨Int.le_refl _, fun i h1 h2 => by omega⟩
  | n + 1 => by
    have ih := nxC_le (S := S) (k := k) (t := t) n
    have a1 := nr_le (n := nxC S k t n) (e := S (143 + 45 * k + (29 + 2 * (n : Int)))) (t := t)
    have e : nxC S k t (n + 1) = nr (nxC S k t n) (S (143 + 45 * k + (29 + 2 * (n : Int)))) t := rfl
    rw [e]
    refine ⟨by omega, fun i h1 h2 => ?_⟩
    by_cases c : i = n
    · subst c; omega
    · have := ih.2 i h1 (by omega); omega
theorem nxt_ev {S : Int → Int} {k t : Int} (hM : mT S k) : (∀ i, 0 ≤ i → i < S (143 + 45 * k + 3) → (S (143 + 45 * k + (4 + 4 * i + 2)) + 1 ≤ t ∨ sNxt S k t ≤ S (143 + 45 * k + (4 + 4 * i + 2)) + 1) ∧ (S (143 + 45 * k + (4 + 4 * i + 2)) + 60 * S (143 + 45 * k + (4 + 4 * i + 3)) ≤ t ∨ sNxt S k t ≤ S (143 + 45 * k + (4 + 4 * i + 2)) + 60 * S (143 + 45 * k + (4 + 4 * i + 3))) ∧ (S (143 + 45 * k + (4 + 4 * i + 2)) + 60 * S (143 + 45 * k + (4 + 4 * i + 3)) + S (143 + 45 * k + 2) * 1440 ≤ t ∨ sNxt S k t ≤ S (143 + 45 * k + (4 + 4 * i + 2)) + 60 * S (143 + 45 * k + (4 + 4 * i + 3)) + S (143 + 45 * k + 2) * 1440)) ∧ ∀ i, 0 ≤ i → i < S (143 + 45 * k + 28) → (S (143 + 45 * k + (29 + 2 * i)) ≤ t ∨ sNxt S k t ≤ S (143 + 45 * k + (29 + 2 * i))) := by
  obtain ⟨-, -, -, t3, -, t5, -⟩ := hM
  have c := nxC_le (S := S) (k := k) (t := t) (S (143 + 45 * k + 28)).toNat
  refine ⟨fun i h1 h2 => ?_, fun i h1 h2 => c.2 i h1 (by omega)⟩
  have a := nxL_le (S := S) (k := k) (t := t) (S (143 + 45 * k + 3)).toNat i h1 (by omega)
  have e : nxC S k t 0 = nxL S k t (S (143 + 45 * k + 3)).toNat := rfl
  have f : sNxt S k t = nxC S k t (S (143 + 45 * k + 28)).toNat := rfl
  omega
/-- where one is on an even stretch -/
def fwC (S : Int → Int) (ea : Int → Bool) (k a E : Int) (g : Int → Int × Int × Int × Int) : Prop := (∃ ab pn si, 0 ≤ pn ∧ ((si = 0 ∧ pn = S (143 + 45 * k + 1)) ∨ ∃ j, 0 ≤ j ∧ j < S (143 + 45 * k + 3) ∧ si = S (143 + 45 * k + (4 + 4 * j + 2)) + 60 * S (143 + 45 * k + (4 + 4 * j + 3))) ∧ ∀ m, a ≤ m → m < E → g m = (ab, 1, pn, si)) ∨ (∃ A B be si, 0 < be ∧ ∀ m, a ≤ m → m < E → g m = (A + B * m, be, -4, si))
theorem fwL_ev {S : Int → Int} {ea : Int → Bool} {k a E : Int} (hM : mT S k) (hE : ∀ i, 0 ≤ i → i < S (143 + 45 * k + 3) → (S (143 + 45 * k + (4 + 4 * i + 2)) + 1 ≤ a ∨ E ≤ S (143 + 45 * k + (4 + 4 * i + 2)) + 1) ∧ (S (143 + 45 * k + (4 + 4 * i + 2)) + 60 * S (143 + 45 * k + (4 + 4 * i + 3)) ≤ a ∨ E ≤ S (143 + 45 * k + (4 + 4 * i + 2)) + 60 * S (143 + 45 * k + (4 + 4 * i + 3)))) : ∀ (n : Nat) (i ab pn si : Int), 0 ≤ i → S (143 + 45 * k + 3) - i = n → 0 ≤ pn → ((si = 0 ∧ pn = S (143 + 45 * k + 1)) ∨ ∃ j, 0 ≤ j ∧ j < S (143 + 45 * k + 3) ∧ si = S (143 + 45 * k + (4 + 4 * j + 2)) + 60 * S (143 + 45 * k + (4 + 4 * j + 3))) → fwC S ea k a E (fun m => fwL S ea k m n i ab pn si)
  | 0, i, ab, pn, si, h1, h2, h3, h4 => Or.inl ⟨ab, pn, si, h3, h4, fun m _ _ => rfl⟩
  | n + 1, i, ab, pn, si, h1, h2, h3, h4 => by
    obtain ⟨t0, t1, t2, t3, t4, t5, t6, t7⟩ := id hM
    obtain ⟨l0, l1, l2, l3⟩ := t4 i h1 (by omega)
    obtain ⟨v1, v2⟩ := hE i h1 (by omega)
    by_cases c1 : a ≤ S (143 + 45 * k + (4 + 4 * i + 2))
    · refine Or.inl ⟨ab, pn, si, h3, h4, fun m m1 m2 => ?_⟩
      show fwL S ea k m (n + 1) i ab pn si = _
      unfold fwL
      rw [if_pos (by omega)]
    · by_cases c2 : S (143 + 45 * k + (4 + 4 * i + 2)) + 60 * S (143 + 45 * k + (4 + 4 * i + 3)) ≤ a
      · have ih := fwL_ev (ea := ea) hM hE n (i + 1) (ab + sgn S (ea i) pn (S (143 + 45 * k + (4 + 4 * i + 0)))) (S (143 + 45 * k + (4 + 4 * i + 0))) (S (143 + 45 * k + (4 + 4 * i + 2)) + 60 * S (143 + 45 * k + (4 + 4 * i + 3))) (by omega) (by omega) (by omega) (Or.inr ⟨i, h1, by omega, rfl⟩)
        have e : ∀ m, a ≤ m → fwL S ea k m (n + 1) i ab pn si = fwL S ea k m n (i + 1) (ab + sgn S (ea i) pn (S (143 + 45 * k + (4 + 4 * i + 0)))) (S (143 + 45 * k + (4 + 4 * i + 0))) (S (143 + 45 * k + (4 + 4 * i + 2)) + 60 * S (143 + 45 * k + (4 + 4 * i + 3))) := by
          intro m m1
          conv => lhs; unfold fwL
          rw [if_neg (by omega), if_pos (by omega)]
        rcases ih with ⟨x1, x2, x3, x4, x5, x6⟩ | ⟨x1, x2, x3, x4, x5, x6⟩
        · exact Or.inl ⟨x1, x2, x3, x4, x5, fun m m1 m2 => (e m m1).trans (x6 m m1 m2)⟩
        · exact Or.inr ⟨x1, x2, x3, x4, x5, fun m m1 m2 => (e m m1).trans (x6 m m1 m2)⟩
      · refine Or.inr ⟨ab * (60 * S (143 + 45 * k + (4 + 4 * i + 3))) - sgn S (ea i) pn (S (143 + 45 * k + (4 + 4 * i + 0))) * S (143 + 45 * k + (4 + 4 * i + 2)), sgn S (ea i) pn (S (143 + 45 * k + (4 + 4 * i + 0))), 60 * S (143 + 45 * k + (4 + 4 * i + 3)), si, by omega, fun m m1 m2 => ?_⟩
        show fwL S ea k m (n + 1) i ab pn si = _
        unfold fwL
        rw [if_neg (by omega), if_neg (by omega), Int.mul_sub]
        refine Prod.ext ?_ rfl
        show _ + (_ - _) = _ - _ + _
        omega
theorem fw_ev {S : Int → Int} {ea : Int → Bool} {k a : Int} (hM : mT S k) : fwC S ea k a (sNxt S k a) (fun m => fw S ea k m) := by
  have ev := (nxt_ev (t := a) hM).1
  obtain ⟨-, t1, -, t3, -⟩ := id hM
  exact fwL_ev hM (fun i h1 h2 => ⟨(ev i h1 h2).1, (ev i h1 h2).2.1⟩) _ 0 0 _ 0 (by omega) (by omega) t1.1 (Or.inl ⟨rfl, rfl⟩)
theorem chg_con {S : Int → Int} {k a m : Int} (hM : mT S k) (h1 : a ≤ m) (h2 : m < sNxt S k a) : sChg S k m = sChg S k a := by
  have ev := (nxt_ev (t := a) hM).2
  obtain ⟨-, -, -, -, -, t5, -⟩ := id hM
  have : ∀ n : Nat, (n : Int) ≤ S (143 + 45 * k + 28) → chS S k m n = chS S k a n := by
    intro n
    induction n with
    | zero => intro _; rfl
    | succ n ih =>
      intro hn
      have e := ev n (by omega) (by omega)
      unfold chS
      rw [ih (by omega)]
      congr 1
      by_cases c : S (143 + 45 * k + (29 + 2 * (n : Int))) ≤ a
      · rw [if_pos c, if_pos (by omega)]
      · rw [if_neg c, if_neg (by omega)]
  exact this _ (by omega)
def rndF (S : Int → Int) (ea : Int → Bool) (k m : Int) : Int := sRnd S k (fw S ea k m).1 (fw S ea k m).2.1
theorem rnd_mn {S : Int → Int} {ea : Int → Bool} {k a b : Int} (hM : mT S k) (hE : b < sNxt S k a) : Mn (fun m => rndF S ea k m) a b := by
  rcases fw_ev (ea := ea) (a := a) hM with ⟨ab, pn, si, -, -, e⟩ | ⟨A, B, be, si, hb, e⟩
  · refine Or.inl fun x y h1 h2 h3 => ?_
    have e1 : fw S ea k x = _ := e x h1 (by omega)
    have e2 : fw S ea k y = _ := e y (by omega) (by omega)
    show rndF S ea k x ≤ rndF S ea k y
    unfold rndF
    rw [e1, e2]
    exact Int.le_refl _
  · refine Mn.cg (c := 0) (Mn.lin (c0 := eS S (S (3 + 4 * S (143 + 45 * k + 1) + 0)) * be + A) (c1 := B) (q := 360 * be) (by omega)) (fun m h1 h2 => ?_)
    have e1 : fw S ea k m = _ := e m h1 (by omega)
    show rndF S ea k m = _
    unfold rndF sRnd eN
    rw [e1]
    dsimp only
    rw [← Int.add_assoc]
    exact (Int.add_zero _).symm
theorem day_mn {S : Int → Int} {ea : Int → Bool} {k kd a b : Int} (hM : mT S k) (hE : b < sNxt S k a) (hR : ∀ m, a ≤ m → m ≤ b → rndF S ea k m = rndF S ea k a) : Mn (fun m => sDayAs S ea k kd m) a b := by
  have hC := fun m h1 h2 => chg_con (m := m) hM (a := a) h1 h2
  have ev := (nxt_ev (t := a) hM).1
  rcases fw_ev (ea := ea) (a := a) hM with ⟨ab, pn, si, hp, hs, e⟩ | ⟨A, B, be, si, hb, e⟩
  · have e2 : ∀ m, a ≤ m → m ≤ b → sDayAs S ea k kd m = sDay S k kd m ab 1 pn si := by
      intro m h1 h2
      have e1 : fw S ea k m = _ := e m h1 (by omega)
      unfold sDayAs
      rw [e1]
    refine Mn.cg (c := 0) (f := fun m => sDay S k kd m ab 1 pn si) ?_ (fun m h1 h2 => by rw [Int.add_zero]; exact e2 m h1 h2)
    unfold sDay
    by_cases k1 : kd = 1
    · simp only [if_pos k1]; exact dAt_mnC (by decide)
    · simp only [if_neg k1]
      by_cases k2 : kd = 2
      · simp only [if_pos k2]; unfold sHere; simp only [if_pos hp]; exact dP_mn
      · simp only [if_neg k2]
        by_cases k3 : kd = 3
        · simp only [if_pos k3]; exact dP_mn
        · simp only [if_neg k3]
          by_cases k4 : kd = 4
          · simp only [if_pos k4]
            exact Mn.cg (c := sChg S k a) (f := fun m => dAt (eN S k ab 1) 1 1 m) (dAt_mnC (by decide)) (fun m h1 h2 => by show sSeen S k ab 1 m + sChg S k m = _; rw [hC m h1 (by omega)]; rfl)
          · simp only [if_neg k4]
            by_cases k5 : kd = 5
            · simp only [if_pos k5]
              exact Mn.cg (c := -sRnd S k ab 1) (f := fun m => dAt (eN S k ab 1) 1 1 m) (dAt_mnC (by decide)) (fun m h1 h2 => by show sSeen S k ab 1 m - _ = _; unfold sSeen; omega)
            · simp only [if_neg k5]
              by_cases k6 : kd = 6
              · simp only [if_pos k6]
                by_cases c : 0 ≤ pn ∧ pn ≠ S (143 + 45 * k + 1) ∧ si + 1440 * S (143 + 45 * k + 2) ≤ a
                · exact Mn.cg (c := 0) (f := fun m => dP S pn m) dP_mn (fun m h1 h2 => by rw [if_pos ⟨c.1, c.2.1, by omega⟩, Int.add_zero])
                · refine Mn.cg (c := 0) (f := fun m => dP S (S (143 + 45 * k + 1)) m) dP_mn (fun m h1 h2 => ?_)
                  rw [if_neg, Int.add_zero]
                  intro q
                  rcases hs with ⟨_, hs⟩ | ⟨j, j1, j2, j3⟩
                  · exact q.2.1 hs
                  · have := (ev j j1 j2).2.2
                    omega
              · simp only [if_neg k6]
                by_cases k7 : kd = 7
                · simp only [if_pos k7]
                  exact Mn.cg (f := fun m => dP S (S (143 + 45 * k + 1)) m) (c := if pn < 0 then 1 else 0) dP_mn (fun m _ _ => rfl)
                · simp only [if_neg k7]
                  exact dAt_mnC (by decide)
  · have e2 : ∀ m, a ≤ m → m ≤ b → sDayAs S ea k kd m = sDay S k kd m (A + B * m) be (-4) si := by
      intro m h1 h2
      have e1 : fw S ea k m = _ := e m h1 (by omega)
      unfold sDayAs
      rw [e1]
    have e3 : ∀ m, a ≤ m → m ≤ b → sRnd S k (A + B * m) be = rndF S ea k a := by
      intro m h1 h2
      have e1 : fw S ea k m = _ := e m h1 (by omega)
      rw [← hR m h1 h2]
      unfold rndF
      rw [e1]
    have mid : Mn (fun m => sMid S k (A + B * m) be m) a b := Mn.cg (c := -rndF S ea k a) (f := fun m => dAt (eN S k (A + B * m) be) be 0 m) (dAt_mnL hb) (fun m h1 h2 => by rw [sMid_eq hb, e3 m h1 h2]; omega)
    refine Mn.cg (c := 0) (f := fun m => sDay S k kd m (A + B * m) be (-4) si) ?_ (fun m h1 h2 => by rw [Int.add_zero]; exact e2 m h1 h2)
    unfold sDay
    by_cases k1 : kd = 1
    · simp only [if_pos k1]; exact dAt_mnL hb
    · simp only [if_neg k1]
      by_cases k2 : kd = 2
      · simp only [if_pos k2]; unfold sHere; simp only [if_neg (show ¬ (0 : Int) ≤ -4 by decide)]; exact mid
      · simp only [if_neg k2]
        by_cases k3 : kd = 3
        · simp only [if_pos k3]; exact dP_mn
        · simp only [if_neg k3]
          by_cases k4 : kd = 4
          · simp only [if_pos k4]
            exact Mn.cg (c := sChg S k a) (f := fun m => dAt (eN S k (A + B * m) be) be 1 m) (dAt_mnL hb) (fun m h1 h2 => by show sSeen S k (A + B * m) be m + sChg S k m = _; rw [hC m h1 (by omega)]; rfl)
          · simp only [if_neg k4]
            by_cases k5 : kd = 5
            · simp only [if_pos k5]
              exact Mn.cg (c := -rndF S ea k a) (f := fun m => dAt (eN S k (A + B * m) be) be 1 m) (dAt_mnL hb) (fun m h1 h2 => by show sSeen S k (A + B * m) be m - _ = _; rw [e3 m h1 h2]; unfold sSeen; omega)
            · simp only [if_neg k5]
              by_cases k6 : kd = 6
              · simp only [if_pos k6, if_neg (show ¬ ((0 : Int) ≤ -4 ∧ _) from fun q => absurd q.1 (by decide))]
                exact dP_mn
              · simp only [if_neg k6]
                by_cases k7 : kd = 7
                · simp only [if_pos k7]
                  exact Mn.cg (f := fun m => dP S (S (143 + 45 * k + 1)) m) (c := if (-4 : Int) < 0 then 1 else 0) dP_mn (fun m _ _ => rfl)
                · simp only [if_neg k7]
                  exact mid
end MN
