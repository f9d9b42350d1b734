section CN1
variable {l : Launch} {h h0 : ev_H} {A : Nat → Int → Int} {F w : Nat → Option Nat} {d t : Nat} {k : Int}
theorem fstM_spec (P : Int → Bool) : ∀ (n : Nat) (a : Int), (fstM P n a = -4 ∧ ∀ s, a ≤ s → s < a + n → P s = false) ∨ ((a ≤ fstM P n a ∧ fstM P n a < a + n) ∧ P (fstM P n a) = true ∧ ∀ s, a ≤ s → s < fstM P n a → P s = false)
  | 0, a => Or.inl ⟨rfl, fun s h1 h2 => by omega⟩
  | n + 1, a => by
    cases q : P a
    · rw [fstM_f q]
      rcases fstM_spec P n (a + 1) with ⟨e, f⟩ | ⟨e, f, g⟩
      · exact Or.inl ⟨e, fun s h1 h2 => by by_cases c : s = a; rw [c]; exact q; exact f s (by omega) (by omega)⟩
      · exact Or.inr ⟨by omega, f, fun s h1 h2 => by by_cases c : s = a; rw [c]; exact q; exact g s (by omega) h2⟩
    · rw [fstM_t q]
      exact Or.inr ⟨by omega, q, fun s h1 h2 => by omega⟩
theorem fstM_at {P : Int → Bool} {n : Nat} {a z : Int} (h1 : a ≤ z ∧ z < a + n) (h2 : P z = true) (h3 : ∀ s, a ≤ s → s < z → P s = false) (ha : 0 ≤ a) : fstM P n a = z := by
  rcases fstM_spec P n a with ⟨e, f⟩ | ⟨e, f, g⟩
  · rw [f z h1.1 h1.2] at h2; cases h2
  · by_cases c : fstM P n a < z
    · rw [h3 _ e.1 c] at f; cases f
    · by_cases c2 : z < fstM P n a
      · rw [g z h1.1 c2] at h2; cases h2
      · omega
theorem fstM_no {P : Int → Bool} {n : Nat} {a : Int} (h3 : ∀ s, a ≤ s → s < a + n → P s = false) : fstM P n a = -4 := by
  rcases fstM_spec P n a with ⟨e, f⟩ | ⟨e, f, g⟩
  · exact e
  · rw [h3 _ e.1 e.2] at f; cases f
/-! where one is on a leg hangs, but for whole rounds, on this leg's direction alone -/
theorem sgn_t (S : Int → Int) (f t : Int) : sgn S true f t = (S (3 + 4 * t + 0) - S (3 + 4 * f + 0)) % 360 := rfl
theorem sgn_f (S : Int → Int) (f t : Int) : sgn S false f t = -((S (3 + 4 * f + 0) - S (3 + 4 * t + 0)) % 360) := rfl
theorem sgn_mod (S : Int → Int) (e1 e2 : Bool) (f t : Int) : ∃ c, sgn S e1 f t - sgn S e2 f t = 360 * c := by
  have key : ∀ x : Int, ∃ c, x % 360 + (-x) % 360 = 360 * c := fun x => ⟨(x % 360 + (-x) % 360) / 360, by omega⟩
  have e : S (3 + 4 * f + 0) - S (3 + 4 * t + 0) = -(S (3 + 4 * t + 0) - S (3 + 4 * f + 0)) := by omega
  obtain ⟨c, hc⟩ := key (S (3 + 4 * t + 0) - S (3 + 4 * f + 0))
  cases e1 <;> cases e2
  · exact ⟨0, by omega⟩
  · refine ⟨-c, ?_⟩
    rw [sgn_t, sgn_f, e]
    omega
  · refine ⟨c, ?_⟩
    rw [sgn_t, sgn_f, e]
    omega
  · exact ⟨0, by omega⟩
theorem fwL_dr {S : Int → Int} {k t : Int} {e1 e2 : Int → Bool} : ∀ (n : Nat) (i ab1 ab2 pn si : Int), 0 ≤ i → (∃ c, ab1 - ab2 = 360 * c) → (0 ≤ lgI S k t n i → e1 (lgI S k t n i) = e2 (lgI S k t n i)) → (fwL S e1 k t n i ab1 pn si).2 = (fwL S e2 k t n i ab2 pn si).2 ∧ ∃ c, (fwL S e1 k t n i ab1 pn si).1 - (fwL S e2 k t n i ab2 pn si).1 = 360 * (fwL S e1 k t n i ab1 pn si).2.1 * c
  | 0, i, ab1, ab2, pn, si, h1, ⟨c, hc⟩, h3 => ⟨rfl, c, by show ab1 - ab2 = 360 * 1 * c; omega⟩
  | n + 1, i, ab1, ab2, pn, si, h1, ⟨c, hc⟩, h3 => by
    unfold lgI at h3
    unfold fwL
    by_cases c1 : t ≤ S (143 + 45 * k + (4 + 4 * i + 2))
    · rw [if_pos c1, if_pos c1]
      exact ⟨rfl, c, by show ab1 - ab2 = 360 * 1 * c; omega⟩
    · rw [if_neg c1] at h3 ⊢
      rw [if_neg c1]
      by_cases c2 : S (143 + 45 * k + (4 + 4 * i + 2)) + 60 * S (143 + 45 * k + (4 + 4 * i + 3)) ≤ t
      · rw [if_pos c2] at h3 ⊢
        rw [if_pos c2]
        obtain ⟨g, hg⟩ := sgn_mod S (e1 i) (e2 i) pn (S (143 + 45 * k + (4 + 4 * i + 0)))
        exact fwL_dr n (i + 1) _ _ _ _ (by omega) ⟨c + g, by omega⟩ h3
      · rw [if_neg c2] at h3 ⊢
        rw [if_neg c2, h3 h1]
        refine ⟨rfl, c, ?_⟩
        show ab1 * (60 * S (143 + 45 * k + (4 + 4 * i + 3))) + _ - (ab2 * (60 * S (143 + 45 * k + (4 + 4 * i + 3))) + _) = 360 * (60 * S (143 + 45 * k + (4 + 4 * i + 3))) * c
        have m1 : (ab1 - ab2) * (60 * S (143 + 45 * k + (4 + 4 * i + 3))) = 360 * c * (60 * S (143 + 45 * k + (4 + 4 * i + 3))) := by rw [hc]
        rw [Int.sub_mul, Int.mul_assoc 360 c, Int.mul_comm c, ← Int.mul_assoc 360] at m1
        omega
theorem fwL_lg {S : Int → Int} {k t : Int} {ea : Int → Bool} (hM : mT S k) : ∀ (n : Nat) (i ab pn si : Int), 0 ≤ i → 0 ≤ pn → S (143 + 45 * k + 3) - i = n → ((fwL S ea k t n i ab pn si).2.2.1 < 0 → i ≤ lgI S k t n i ∧ lgI S k t n i < i + n)
  | 0, i, ab, pn, si, h1, h2, h3, h4 => by unfold fwL at h4; dsimp only at h4; omega
  | n + 1, i, ab, pn, si, h1, h2, h3, h4 => by
    obtain ⟨t0, t1, t2, t3, t4, t5, t6, t7⟩ := id hM
    obtain ⟨l0, l1, l2, l3⟩ := t4 i h1 (by omega)
    unfold fwL at h4
    unfold lgI
    by_cases c1 : t ≤ S (143 + 45 * k + (4 + 4 * i + 2))
    · rw [if_pos c1] at h4
      dsimp only at h4
      omega
    · rw [if_neg c1] at h4 ⊢
      by_cases c2 : S (143 + 45 * k + (4 + 4 * i + 2)) + 60 * S (143 + 45 * k + (4 + 4 * i + 3)) ≤ t
      · rw [if_pos c2] at h4 ⊢
        have := fwL_lg (ea := ea) hM n (i + 1) _ _ _ (by omega) l0.1 (by omega) h4
        omega
      · rw [if_neg c2]
        omega
def lgJ (A : Nat → Int → Int) (k d j : Int) : Int := lgI (A 0) k (A 5 (100 * d + j)) (A 0 (143 + 45 * k + 3)).toNat 0
theorem kp_dir {A : Nat → Int → Int} {e1 e2 : Int → Bool} {k d r j : Int} (h : 0 ≤ lgJ A k d j → e1 (lgJ A k d j) = e2 (lgJ A k d j)) : kpP A e1 k d r j = kpP A e2 k d r j := by
  obtain ⟨q1, c, q2⟩ := fwL_dr (S := A 0) (k := k) (t := A 5 (100 * d + j)) (e1 := e1) (e2 := e2) (A 0 (143 + 45 * k + 3)).toNat 0 0 0 (A 0 (143 + 45 * k + 1)) 0 (by decide) ⟨0, rfl⟩ h
  have q1 : (fw (A 0) e1 k (A 5 (100 * d + j))).2 = (fw (A 0) e2 k (A 5 (100 * d + j))).2 := q1
  have q2 : (fw (A 0) e1 k (A 5 (100 * d + j))).1 - (fw (A 0) e2 k (A 5 (100 * d + j))).1 = 360 * (fw (A 0) e1 k (A 5 (100 * d + j))).2.1 * c := q2
  have q3 : sMid (A 0) k (fw (A 0) e1 k (A 5 (100 * d + j))).1 (fw (A 0) e1 k (A 5 (100 * d + j))).2.1 (A 5 (100 * d + j)) = sMid (A 0) k (fw (A 0) e2 k (A 5 (100 * d + j))).1 (fw (A 0) e2 k (A 5 (100 * d + j))).2.1 (A 5 (100 * d + j)) := by
    rw [← q1]
    unfold sMid
    congr 1
    unfold eN
    rw [show (fw (A 0) e1 k (A 5 (100 * d + j))).1 = (fw (A 0) e2 k (A 5 (100 * d + j))).1 + 360 * (fw (A 0) e1 k (A 5 (100 * d + j))).2.1 * c by omega, ← Int.add_assoc, Int.add_mul_emod_self_left]
  unfold kpP
  rw [q3, q1]
theorem kp_lg {A : Nat → Int → Int} {ea : Int → Bool} {k d r j : Int} (hM : mT (A 0) k) (h : kpP A ea k d r j = true) : 0 ≤ lgJ A k d j ∧ lgJ A k d j < A 0 (143 + 45 * k + 3) := by
  obtain ⟨-, t1, -, t3, -⟩ := id hM
  have q := (of_decide_eq_true h).1
  have := fwL_lg (ea := ea) hM (A 0 (143 + 45 * k + 3)).toNat 0 0 (A 0 (143 + 45 * k + 1)) 0 (by decide) t1.1 (by omega) q
  unfold lgJ
  omega
/-! bits of sets of legs -/
def bN (E x : Nat) : Nat := E / 2 ^ x % 2
def pcN (E : Nat) : Nat := bN E 0 + bN E 1 + bN E 2 + bN E 3 + bN E 4 + bN E 5
theorem bN_I (E x : Nat) : bitI (E : Int) (x : Int) = (bN E x : Int) := by
  unfold bitI bN
  rw [Int.natCast_emod, Int.natCast_ediv]
  simp
theorem pn_and : ∀ x, x < 6 → ∀ E, E < 64 → iI (E : Nat) &&& (iI 1 <<< (iI (x : Nat) &&& 31)) = iI ((bN E x * 2 ^ x : Nat)) := by decide +kernel
theorem pn_or : ∀ x, x < 6 → ∀ E, E < 64 → bN E x = 0 → iI (E : Nat) ||| (iI 1 <<< (iI (x : Nat) &&& 31)) = iI ((E + 2 ^ x : Nat)) := by decide +kernel
theorem pn_bit1 : ∀ x, x < 6 → ∀ E, E < 64 → bN E x = 0 → bN (E + 2 ^ x) x = 1 := by decide +kernel
theorem pn_bit2 : ∀ x, x < 6 → ∀ E, E < 64 → bN E x = 0 → pcN (E + 2 ^ x) = pcN E + 1 := by decide +kernel
theorem pn_bit3 : ∀ x, x < 6 → ∀ E, E < 64 → ∀ y, y < 6 → (bN E x = 0 ∧ y ≠ x) → bN (E + 2 ^ x) y = bN E y := by decide +kernel
theorem pn_bit (x : Nat) (hx : x < 6) (E : Nat) (hE : E < 64) (h : bN E x = 0) : bN (E + 2 ^ x) x = 1 ∧ pcN (E + 2 ^ x) = pcN E + 1 ∧ ∀ y, y < 6 → y ≠ x → bN (E + 2 ^ x) y = bN E y := ⟨pn_bit1 x hx E hE h, pn_bit2 x hx E hE h, fun y h1 h2 => pn_bit3 x hx E hE y h1 ⟨h, h2⟩⟩
theorem pn_lt : ∀ L, L < 7 → ∀ x, x < L → ∀ E, E < 2 ^ L → bN E x = 0 → E + 2 ^ x < 2 ^ L := by decide +kernel
theorem pn_le : ∀ E, E < 64 → ∀ s, s < 64 → (∀ x, x < 6 → bN E x = 1 → bN s x = 1) → E ≤ s := by decide +kernel
theorem pn_p (E : Nat) : pcN E ≤ 6 := by
  have key : ∀ x, bN E x ≤ 1 := fun x => by unfold bN; omega
  have := key 0; have := key 1; have := key 2; have := key 3; have := key 4; have := key 5
  unfold pcN; omega
theorem bN_01 (E x : Nat) : bN E x = 0 ∨ bN E x = 1 := by unfold bN; omega
/-- this leg must go east -/
def mst (A : Nat → Int → Int) (k d r : Int) (x : Nat) : Prop := ∃ j, 0 ≤ j ∧ j < A 4 d ∧ lgJ A k d j = x ∧ ∀ e : Int → Bool, e (x : Int) = false → kpP A e k d r j = true
theorem bea_f {E x : Nat} (h : bN E x = 0) : bea (E : Int) (x : Int) = false := decide_eq_false (by rw [bN_I, h]; decide)
theorem bea_t {E x : Nat} (h : bN E x = 1) : bea (E : Int) (x : Int) = true := decide_eq_true (by rw [bN_I, h]; decide)
def plG (A : Nat → Int → Int) (k d r : Int) : Int → Bool := fun s => decide (sKp A (bea s) k d r = -4)
/-- a set that is good has all that must be -/
theorem plG_mst {A : Nat → Int → Int} {k d r : Int} {s x : Nat} (hs : 0 ≤ A 4 d) (g : plG A k d r s = true) (m : mst A k d r x) : bN s x = 1 := by
  rcases bN_01 s x with q | q
  · exfalso
    obtain ⟨j, j1, j2, -, j4⟩ := m
    have g := of_decide_eq_true g
    unfold sKp at g
    rcases fstM_spec (kpP A (bea s) k d r) (A 4 d).toNat 0 with ⟨-, f⟩ | ⟨e, -, -⟩
    · have := f j j1 (by omega)
      rw [j4 _ (bea_f q)] at this
      cases this
    · omega
  · exact q
theorem e5_lpL {r : Int} (hk : 0 ≤ k ∧ k < A 0 1) (ht : F k.toNat = some t) (hA : mSh A) (hd : d < 8) (hI : mI0 (A 0)) (hJ : mIP (A 0)) (hM : mT (A 0) k) (rr1 : 0 ≤ r ∧ r ≤ 6) (hm : ∀ j, 0 ≤ j → j < A 4 d → 0 ≤ A 5 (100 * (d : Int) + j) ∧ A 5 (100 * (d : Int) + j) ≤ 19999) : ∀ (n i E : Nat) (a6 : Option Value) (h : ev_H), i + n = 7 → pcN E = i → E < 2 ^ (A 0 (143 + 45 * k + 3)).toNat → (∀ x, x < 6 → bN E x = 1 → mst A k d r x) → FrS h0 h → RC h (A 0) F → SC h A w → Ex l 4 yX5_leastPlan.cls yX5_leastPlan.name cX5_leastPlan 7 (some .int) 6 [some (.ref 0), some (.ref t), some (.ref (18 + 2 * d)), some (.int (iI r)), some (.int (iI (E : Int))), some (.int (iI (i : Int))), a6] [] h (lkP h0 (A 0) F (some (.int (iI (fstM (plG A k d r) (2 ^ (A 0 (143 + 45 * k + 3)).toNat) 0))))) := by
  obtain ⟨s1, s2, s3, s4, s5⟩ := hA.1 (d : Int) (by omega) (by omega)
  obtain ⟨-, -, -, t3, -⟩ := id hM
  have L6 : (A 0 (143 + 45 * k + 3)).toNat < 7 := by omega
  have L64 := p2_le (n := (A 0 (143 + 45 * k + 3)).toNat) (by omega)
  intro n
  induction n with
  | zero =>
    intro i E a6 h hi hp
    have := pn_p E
    omega
  | succ n ih =>
    intro i E a6 h hi hp hE hm2 fr hR hS
    obtain ⟨⟨im, hX⟩, -⟩ := id hR
    have hW := hR.w
    obtain ⟨el, hSh, ⟨hel, eel⟩, hw1, hw2⟩ := SC.op hS hd
    obtain ⟨ea, to, fro, en, ca, cb, -, hT, -⟩ := CT.op (hR.tr hk ht).1
    have hE64 : E < 64 := by omega
    refine ex_of (fun _ _ => ev_iload (pc' := 8) dX5_leastPlan_6 rfl rfl) ?_
    refine ex_of (fun _ _ => ev_bipush (pc' := 10) (iI (6)) dX5_leastPlan_8 rfl (by decide)) ?_
    refine ex_icmpI_gt (pc' := 13) (tgt := 63) dX5_leastPlan_10 (by decide) rfl (by omega) (by omega) (fun c10 => ?_) (fun c10 => ?_)
    · omega
    · refine ex_of (fun _ _ => ev_aload_n (pc' := 14) dX5_leastPlan_13 rfl rfl) ?_
      refine ex_of (fun _ _ => ev_aload_n (pc' := 15) dX5_leastPlan_14 rfl rfl) ?_
      refine ex_of (fun _ _ => ev_iload (pc' := 17) dX5_leastPlan_15 rfl rfl) ?_
      refine ex_of (fun _ _ => ev_aload_n (pc' := 18) dX5_leastPlan_17 rfl rfl) ?_
      refine ex_of (fun _ _ => ev_iload_n (pc' := 19) dX5_leastPlan_18 rfl rfl) ?_
      have hO := hX
      obtain ⟨w1, h1, E1, rfl, fr1, hR, fb⟩ := e5_firstBroken (l := l) (e := (E : Int)) (r := r) hk ht hA hd hI hJ hM (by omega) (by omega) hm hR hS
      refine ex_of (fun _ _ => ev_callV4 (pc' := 22) kX5_235 mX5_firstBroken dX5_leastPlan_19 rfl rfl (Nat.le_of_ble_eq_true rfl) (Nat.le_of_ble_eq_true rfl) (by decide) rfl hO E1) ?_
      have fr := fr.tr fr1
      have hS := hS.fr fr1
      obtain ⟨⟨im, hX⟩, -⟩ := id hR
      have sp := fstM_spec (kpP A (bea (E : Int)) k d r) (A 4 (d : Int)).toNat 0
      have eK : sKp A (bea (E : Int)) k d r = fstM (kpP A (bea (E : Int)) k d r) (A 4 (d : Int)).toNat 0 := rfl
      rw [← eK] at sp
      refine ex_ifI_ge (pc' := 25) (tgt := 28) dX5_leastPlan_22 (by decide) rfl (by have := sp; omega) (fun c22 => ?_) (fun c22 => ?_)
      · obtain ⟨pl, le, ca, go, ea, be, hSp, ele⟩ := fb c22
        have fz : (0 ≤ sKp A (bea (E : Int)) k d r ∧ sKp A (bea (E : Int)) k d r < A 4 d) ∧ kpP A (bea (E : Int)) k d r (sKp A (bea (E : Int)) k d r) = true := by
          rcases sp with ⟨z, -⟩ | ⟨z1, z2, -⟩
          · omega
          · exact ⟨by omega, z2⟩
        have lb := kp_lg hM fz.2
        have el2 : le = lgJ A k d (sKp A (bea (E : Int)) k d r) := ele
        obtain ⟨x, hx⟩ : ∃ x : Nat, le = x := ⟨le.toNat, by omega⟩
        subst hx
        have hx6 : x < (A 0 (143 + 45 * k + 3)).toNat := by omega
        have an := pn_and x (by omega) E hE64
        have b01 := bN_01 E x
        have p2x := p2_le (n := x) (by omega)
        have p2p : 0 < 2 ^ x := Nat.two_pow_pos x
        have hbb : bN E x * 2 ^ x = if bN E x = 0 then 0 else 2 ^ x := by rcases b01 with q | q <;> rw [q] <;> simp
        refine ex_of (fun _ _ => ev_iconst (pc' := 29) (iI (1)) dX5_leastPlan_28 rfl (by decide)) ?_
        refine ex_of (fun _ _ => ev_aload_n (pc' := 30) dX5_leastPlan_29 rfl rfl) ?_
        refine ex_of (fun _ _ => ev_getfield (pc' := 33) fX5_32 dX5_leastPlan_30 rfl hX rfl) ?_
        refine ex_of (fun _ _ => ev_getfield (pc' := 36) fX5_409 dX5_leastPlan_33 rfl hSp rfl) ?_
        refine ex_of (fun _ _ => ev_ishl (pc' := 37) dX5_leastPlan_36 rfl) ?_
        refine ex_of (fun _ _ => ev_istore_6 (pc' := 39) dX5_leastPlan_37 rfl (by decide) rfl) ?_
        refine ex_of (fun _ _ => ev_iload (pc' := 41) dX5_leastPlan_39 rfl rfl) ?_
        refine ex_of (fun _ _ => ev_iload (pc' := 43) dX5_leastPlan_41 rfl rfl) ?_
        refine ex_of (fun _ _ => ev_iand (pc' := 44) dX5_leastPlan_43 rfl) ?_
        rw [an]
        refine ex_ifI_eq (pc' := 47) (tgt := 50) dX5_leastPlan_44 (by decide) rfl (by rcases b01 with q | q <;> rw [q] <;> omega) (fun c44 => ?_) (fun c44 => ?_)
        · have bz : bN E x = 0 := by
            rcases b01 with q | q
            · exact q
            · rw [q] at hbb; simp at hbb; rw [q] at c44; omega
          have ob := pn_or x (by omega) E hE64 bz
          obtain ⟨nb1, nb2, nb3⟩ := pn_bit x (by omega) E hE64 bz
          refine ex_of (fun _ _ => ev_iload (pc' := 52) dX5_leastPlan_50 rfl rfl) ?_
          refine ex_of (fun _ _ => ev_iload (pc' := 54) dX5_leastPlan_52 rfl rfl) ?_
          refine ex_of (fun _ _ => ev_ior (pc' := 55) dX5_leastPlan_54 rfl) ?_
          rw [ob]
          refine ex_of (fun _ _ => ev_istore_4 (pc' := 57) dX5_leastPlan_55 rfl (by decide) rfl) ?_
          refine ex_of (fun _ _ => ev_iincI_5 (pc' := 60) dX5_leastPlan_57 rfl (by decide) rfl) ?_
          refine ex_of (fun _ _ => ev_goto (tgt := 6) dX5_leastPlan_60 (by decide)) ?_
          refine ih (i + 1) (E + 2 ^ x) _ _ (by omega) (by omega) (pn_lt _ L6 x hx6 E hE bz) (fun y y1 y2 => ?_) fr hR hS
          by_cases c : y = x
          · subst c
            refine ⟨_, fz.1.1, fz.1.2, el2.symm, fun e he => ?_⟩
            rw [kp_dir (e2 := bea (E : Int)) (fun _ => ?_)]
            · exact fz.2
            · rw [← el2, he, bea_f bz]
          · exact hm2 y y1 (by rw [← nb3 y y1 c]; exact y2)
        · refine ex_of (fun _ _ => ev_bipush (pc' := 49) (iI (-4)) dX5_leastPlan_47 rfl (by decide)) ?_
          exact ex_end (ev_iret dX5_leastPlan_49 rfl) (⟨by
    have bo : bN E x = 1 := by
      rcases b01 with q | q
      · rw [q] at c44; omega
      · exact q
    obtain ⟨j, j1, j2, j3, j4⟩ := hm2 x (by omega) bo
    rw [fstM_no (P := plG A k d r) (fun s s1 s2 => ?_)]
    obtain ⟨s, rfl⟩ : ∃ s' : Nat, s = s' := ⟨s.toNat, by omega⟩
    cases q : plG A k d r (s : Int)
    · rfl
    · exfalso
      have sx := plG_mst s3.1 q (hm2 x (by omega) bo)
      have kz : kpP A (bea (s : Int)) k d r (sKp A (bea (E : Int)) k d r) = true := by
        rw [kp_dir (e2 := bea (E : Int)) (fun _ => ?_)]
        · exact fz.2
        · rw [← el2, bea_t sx, bea_t bo]
      have g := of_decide_eq_true q
      unfold sKp at g
      rcases fstM_spec (kpP A (bea (s : Int)) k d r) (A 4 (d : Int)).toNat 0 with ⟨-, f⟩ | ⟨e, -, -⟩
      · rw [f _ fz.1.1 (by omega)] at kz; cases kz
      · omega, fr, hR⟩)
      · refine ex_of (fun _ _ => ev_iload (pc' := 27) dX5_leastPlan_25 rfl rfl) ?_
        exact ex_end (ev_iret dX5_leastPlan_27 rfl) (⟨by
    rw [fstM_at (P := plG A k d r) (z := (E : Int)) (by omega) (decide_eq_true (by omega)) (fun s s1 s2 => ?_) (by decide)]
    obtain ⟨s, rfl⟩ : ∃ s' : Nat, s = s' := ⟨s.toNat, by omega⟩
    cases q : plG A k d r (s : Int)
    · rfl
    · exact absurd (pn_le E hE64 s (by omega) (fun x x1 x2 => plG_mst s3.1 q (hm2 x x1 x2))) (by omega), fr, hR⟩)
theorem e5_leastPlan {r : Int} (hk : 0 ≤ k ∧ k < A 0 1) (ht : F k.toNat = some t) (hA : mSh A) (hd : d < 8) (hI : mI0 (A 0)) (hJ : mIP (A 0)) (hM : mT (A 0) k) (rr1 : 0 ≤ r ∧ r ≤ 6) (hm : ∀ j, 0 ≤ j → j < A 4 d → 0 ≤ A 5 (100 * (d : Int) + j) ∧ A 5 (100 * (d : Int) + j) ≤ 19999) (hR : RC h (A 0) F) (hS : SC h A w) : Ex l 4 yX5_leastPlan.cls yX5_leastPlan.name cX5_leastPlan 7 (some .int) 0 [some (.ref 0), some (.ref t), some (.ref (18 + 2 * d)), some (.int (iI r)), none, none, none] [] h (lkP h (A 0) F (some (.int (iI (fstM (plG A k d r) (2 ^ (A 0 (143 + 45 * k + 3)).toNat) 0))))) := by
  refine ex_of (fun _ _ => ev_iconst (pc' := 1) (iI (0)) dX5_leastPlan_0 rfl (by decide)) ?_
  refine ex_of (fun _ _ => ev_istore_4 (pc' := 3) dX5_leastPlan_1 rfl (by decide) rfl) ?_
  refine ex_of (fun _ _ => ev_iconst (pc' := 4) (iI (0)) dX5_leastPlan_3 rfl (by decide)) ?_
  refine ex_of (fun _ _ => ev_istore_5 (pc' := 6) dX5_leastPlan_4 rfl (by decide) rfl) ?_
  exact e5_lpL (l := l) hk ht hA hd hI hJ hM rr1 hm 7 0 0 none h (by omega) (by decide) (Nat.two_pow_pos _) (fun x _ q => absurd q (by unfold bN; simp)) (FrS.rf h) hR hS
theorem e5_plan {k q r : Int} (hR : RC h (A 0) F) (hS : SC h A w) (hA : mSh A) (hI : mI0 (A 0)) (hJ : mIP (A 0)) (hK : ∀ k, 0 ≤ k → k < A 0 1 → mT (A 0) k) (rk : -2147483648 ≤ k ∧ k < 2147483648) (rq : -2147483648 ≤ q ∧ q < 2147483648) (rr : -2147483648 ≤ r ∧ r < 2147483648) : Ex l 5 yX5_plan.cls yX5_plan.name cX5_plan 7 (some .int) 0 [some (.ref 0), some (.int (iI k)), some (.int (iI q)), some (.int (iI r)), none, none, none] [] h (lkP h (A 0) F (some (.int (iI (sPlan A k q r))))) := by
  obtain ⟨⟨i1, i2⟩, ⟨i3, i4⟩, i5, i6⟩ := id hI
  obtain ⟨⟨im, hX⟩, -⟩ := id hR
  have hW := hR.w
  have fr := FrS.rf h
  by_cases hk : 0 ≤ k ∧ k < A 0 1
  · skip
    obtain ⟨t, ht, hC, h47⟩ := hR.2.2.2 k hk.1 hk.2
    have hM := hK k hk.1 hk.2
    obtain ⟨tk, -⟩ := id hM
    obtain ⟨ea, to, fro, en, ca, cb, ⟨be1, be2⟩, hT, -⟩ := CT.op hC
    by_cases hq : 0 ≤ q ∧ q < 8
    · skip
      obtain ⟨d, rfl⟩ : ∃ d : Nat, q = d := ⟨q.toNat, by omega⟩
      have hd : d < 8 := by omega
      obtain ⟨s1, s2, s3, s4, s5⟩ := hA.1 (d : Int) (by omega) (by omega)
      obtain ⟨el, hSh, ⟨hel, eel⟩, hw1, hw2⟩ := SC.op hS hd
      have zr := sRow_b A (d : Int) 2
      have zn : ntM A d (A 4 d).toNat 0 = 0 ∨ ntM A d (A 4 d).toNat 0 = -13 := ntM_z _ _ _ _
      refine ex_of (fun _ _ => ev_aload_n (pc' := 1) dX5_plan_0 rfl rfl) ?_
      refine ex_of (fun _ _ => ev_getfield (pc' := 4) fX5_12 dX5_plan_1 rfl hX rfl) ?_
      refine ex_of (fun _ _ => ev_iload_n (pc' := 5) dX5_plan_4 rfl rfl) ?_
      refine ex_of (fun _ _ => ev_callV1 (pc' := 8) kX5_137 mX4_travellerOf dX5_plan_5 rfl rfl (Nat.le_of_ble_eq_true rfl) (Nat.le_of_ble_eq_true rfl) (by decide) rfl hW (e4_travellerOf hR.nw hI hk ht)) ?_
      refine ex_of (fun _ _ => ev_astore_4 (pc' := 10) dX5_plan_8 rfl (by decide) rfl) ?_
      refine ex_of (fun _ _ => ev_aload_n (pc' := 11) dX5_plan_10 rfl rfl) ?_
      refine ex_of (fun _ _ => ev_iload_n (pc' := 12) dX5_plan_11 rfl rfl) ?_
      refine ex_of (fun _ _ => ev_callV1 (pc' := 15) kX5_44 mX5_shelfOf dX5_plan_12 rfl rfl (Nat.le_of_ble_eq_true rfl) (Nat.le_of_ble_eq_true rfl) (by decide) rfl hX (e5_shelfOf hX hS hd)) ?_
      refine ex_of (fun _ _ => ev_astore_5 (pc' := 17) dX5_plan_15 rfl (by decide) rfl) ?_
      refine ex_of (fun _ _ => ev_aload (pc' := 19) dX5_plan_17 rfl rfl) ?_
      refine ex_of (fun _ _ => ev_ifnull (pc' := 22) dX5_plan_19 rfl) ?_
      refine ex_of (fun _ _ => ev_aload (pc' := 24) dX5_plan_22 rfl rfl) ?_
      refine ex_of (fun _ _ => ev_ifnull (pc' := 27) dX5_plan_24 rfl) ?_
      refine ex_of (fun _ _ => ev_iload_n (pc' := 28) dX5_plan_27 rfl rfl) ?_
      refine ex_of (fun _ _ => ev_callS1 (pc' := 31) kX5_229 mX5_isRestDay dX5_plan_28 rfl rfl (Nat.le_of_ble_eq_true rfl) (Nat.le_of_ble_eq_true rfl) (by decide) (e5_isRestDay (by omega))) ?_
      refine ex_ifd_ne (pc' := 34) (tgt := 36) dX5_plan_31 (by decide) rfl (fun c31 => ?_) (fun c31 => ?_)
      · refine ex_of (fun _ _ => ev_aload (pc' := 38) dX5_plan_36 rfl rfl) ?_
        refine ex_of (fun _ _ => ev_callS1 (pc' := 41) kX5_232 mX5_refusalOfDuties dX5_plan_38 rfl rfl (Nat.le_of_ble_eq_true rfl) (Nat.le_of_ble_eq_true rfl) (by decide) (e5_refusalOfDuties hS hA hd)) ?_
        have zq : -15 ≤ (if sRow A (d : Int) 2 ≠ 0 then sRow A (d : Int) 2 else ntM A (d : Int) (A 4 (d : Int)).toNat 0) ∧ (if sRow A (d : Int) 2 ≠ 0 then sRow A (d : Int) 2 else ntM A (d : Int) (A 4 (d : Int)).toNat 0) ≤ 0 := by split <;> omega
        refine ex_of (fun _ _ => ev_istore_6 (pc' := 43) dX5_plan_41 rfl (by decide) rfl) ?_
        refine ex_of (fun _ _ => ev_iload (pc' := 45) dX5_plan_43 rfl rfl) ?_
        refine ex_ifI_eq (pc' := 48) (tgt := 51) dX5_plan_45 (by decide) rfl (by omega) (fun c45 => ?_) (fun c45 => ?_)
        · have hz := c45
          have hm : ∀ j, 0 ≤ j → j < A 4 d → 0 ≤ A 5 (100 * (d : Int) + j) ∧ A 5 (100 * (d : Int) + j) ≤ 19999 := by
            intro j j1 j2
            split at hz
            · omega
            · exact ntM_all (A 4 d).toNat 0 hz j j1 (by omega)
          refine ex_of (fun _ _ => ev_aload_n (pc' := 52) dX5_plan_51 rfl rfl) ?_
          refine ex_of (fun _ _ => ev_aload (pc' := 54) dX5_plan_52 rfl rfl) ?_
          refine ex_of (fun _ _ => ev_aload (pc' := 56) dX5_plan_54 rfl rfl) ?_
          refine ex_of (fun _ _ => ev_iload_n (pc' := 57) dX5_plan_56 rfl rfl) ?_
          have hO := hX
          obtain ⟨w1, h1, E1, rfl, fr1, hR⟩ := e5_leastPlan (l := l) (r := r) hk ht hA hd hI hJ hM (by omega) hm hR hS
          refine ex_of (fun _ _ => ev_callV3 (pc' := 60) kX5_253 mX5_leastPlan dX5_plan_57 rfl rfl (Nat.le_of_ble_eq_true rfl) (Nat.le_of_ble_eq_true rfl) (by decide) rfl hO E1) ?_
          have fr := fr.tr fr1
          exact ex_end (ev_iret dX5_plan_60 rfl) (by have ew : sWk A k (d : Int) r = (if sRow A d 2 ≠ 0 then sRow A d 2 else ntM A d (A 4 d).toNat 0) := (by unfold sWk; rw [if_neg (by omega)]); unfold sPlan; rw [ew, if_neg (by omega)]; exact ⟨rfl, fr, hR⟩)
        · refine ex_of (fun _ _ => ev_iload (pc' := 50) dX5_plan_48 rfl rfl) ?_
          exact ex_end (ev_iret dX5_plan_50 rfl) (by have ew : sWk A k (d : Int) r = (if sRow A d 2 ≠ 0 then sRow A d 2 else ntM A d (A 4 d).toNat 0) := (by unfold sWk; rw [if_neg (by omega)]); unfold sPlan; rw [ew, if_pos (by omega)]; exact ⟨rfl, fr, hR⟩)
      · refine ex_of (fun _ _ => ev_iconst (pc' := 35) (iI (-1)) dX5_plan_34 rfl (by decide)) ?_
        exact ex_end (ev_iret dX5_plan_35 rfl) (⟨by unfold sPlan; rw [if_pos (by unfold sWk; rw [if_pos (by omega)]; decide)]; unfold sWk; rw [if_pos (by omega)], fr, hR⟩)
    · skip
      refine ex_of (fun _ _ => ev_aload_n (pc' := 1) dX5_plan_0 rfl rfl) ?_
      refine ex_of (fun _ _ => ev_getfield (pc' := 4) fX5_12 dX5_plan_1 rfl hX rfl) ?_
      refine ex_of (fun _ _ => ev_iload_n (pc' := 5) dX5_plan_4 rfl rfl) ?_
      refine ex_of (fun _ _ => ev_callV1 (pc' := 8) kX5_137 mX4_travellerOf dX5_plan_5 rfl rfl (Nat.le_of_ble_eq_true rfl) (Nat.le_of_ble_eq_true rfl) (by decide) rfl hW (e4_travellerOf hR.nw hI hk ht)) ?_
      refine ex_of (fun _ _ => ev_astore_4 (pc' := 10) dX5_plan_8 rfl (by decide) rfl) ?_
      refine ex_of (fun _ _ => ev_aload_n (pc' := 11) dX5_plan_10 rfl rfl) ?_
      refine ex_of (fun _ _ => ev_iload_n (pc' := 12) dX5_plan_11 rfl rfl) ?_
      refine ex_of (fun _ _ => ev_callV1 (pc' := 15) kX5_44 mX5_shelfOf dX5_plan_12 rfl rfl (Nat.le_of_ble_eq_true rfl) (Nat.le_of_ble_eq_true rfl) (by decide) rfl hX (e5_shelfOf0 hq (by omega))) ?_
      refine ex_of (fun _ _ => ev_astore_5N (pc' := 17) dX5_plan_15 rfl (by decide) rfl) ?_
      refine ex_of (fun _ _ => ev_aload (pc' := 19) dX5_plan_17 rfl rfl) ?_
      refine ex_of (fun _ _ => ev_ifnull (pc' := 22) dX5_plan_19 rfl) ?_
      refine ex_of (fun _ _ => ev_aloadN (pc' := 24) dX5_plan_22 rfl rfl) ?_
      refine ex_of (fun _ _ => ev_ifnullN (tgt := 34) dX5_plan_24 (by decide)) ?_
      refine ex_of (fun _ _ => ev_iconst (pc' := 35) (iI (-1)) dX5_plan_34 rfl (by decide)) ?_
      exact ex_end (ev_iret dX5_plan_35 rfl) (⟨by unfold sPlan; rw [if_pos (by unfold sWk; rw [if_pos (by omega)]; decide)]; unfold sWk; rw [if_pos (by omega)], fr, hR⟩)
  · by_cases hq : 0 ≤ q ∧ q < 8
    · skip
      obtain ⟨d, rfl⟩ : ∃ d : Nat, q = d := ⟨q.toNat, by omega⟩
      have hd : d < 8 := by omega
      obtain ⟨s1, s2, s3, s4, s5⟩ := hA.1 (d : Int) (by omega) (by omega)
      obtain ⟨el, hSh, ⟨hel, eel⟩, hw1, hw2⟩ := SC.op hS hd
      refine ex_of (fun _ _ => ev_aload_n (pc' := 1) dX5_plan_0 rfl rfl) ?_
      refine ex_of (fun _ _ => ev_getfield (pc' := 4) fX5_12 dX5_plan_1 rfl hX rfl) ?_
      refine ex_of (fun _ _ => ev_iload_n (pc' := 5) dX5_plan_4 rfl rfl) ?_
      refine ex_of (fun _ _ => ev_callV1 (pc' := 8) kX5_137 mX4_travellerOf dX5_plan_5 rfl rfl (Nat.le_of_ble_eq_true rfl) (Nat.le_of_ble_eq_true rfl) (by decide) rfl hW (e4_travellerOf0 hR.nw hI (by omega) hk)) ?_
      refine ex_of (fun _ _ => ev_astore_4N (pc' := 10) dX5_plan_8 rfl (by decide) rfl) ?_
      refine ex_of (fun _ _ => ev_aload_n (pc' := 11) dX5_plan_10 rfl rfl) ?_
      refine ex_of (fun _ _ => ev_iload_n (pc' := 12) dX5_plan_11 rfl rfl) ?_
      refine ex_of (fun _ _ => ev_callV1 (pc' := 15) kX5_44 mX5_shelfOf dX5_plan_12 rfl rfl (Nat.le_of_ble_eq_true rfl) (Nat.le_of_ble_eq_true rfl) (by decide) rfl hX (e5_shelfOf hX hS hd)) ?_
      refine ex_of (fun _ _ => ev_astore_5 (pc' := 17) dX5_plan_15 rfl (by decide) rfl) ?_
      refine ex_of (fun _ _ => ev_aloadN (pc' := 19) dX5_plan_17 rfl rfl) ?_
      refine ex_of (fun _ _ => ev_ifnullN (tgt := 34) dX5_plan_19 (by decide)) ?_
      refine ex_of (fun _ _ => ev_iconst (pc' := 35) (iI (-1)) dX5_plan_34 rfl (by decide)) ?_
      exact ex_end (ev_iret dX5_plan_35 rfl) (⟨by unfold sPlan; rw [if_pos (by unfold sWk; rw [if_pos (by omega)]; decide)]; unfold sWk; rw [if_pos (by omega)], fr, hR⟩)
    · skip
      refine ex_of (fun _ _ => ev_aload_n (pc' := 1) dX5_plan_0 rfl rfl) ?_
      refine ex_of (fun _ _ => ev_getfield (pc' := 4) fX5_12 dX5_plan_1 rfl hX rfl) ?_
      refine ex_of (fun _ _ => ev_iload_n (pc' := 5) dX5_plan_4 rfl rfl) ?_
      refine ex_of (fun _ _ => ev_callV1 (pc' := 8) kX5_137 mX4_travellerOf dX5_plan_5 rfl rfl (Nat.le_of_ble_eq_true rfl) (Nat.le_of_ble_eq_true rfl) (by decide) rfl hW (e4_travellerOf0 hR.nw hI (by omega) hk)) ?_
      refine ex_of (fun _ _ => ev_astore_4N (pc' := 10) dX5_plan_8 rfl (by decide) rfl) ?_
      refine ex_of (fun _ _ => ev_aload_n (pc' := 11) dX5_plan_10 rfl rfl) ?_
      refine ex_of (fun _ _ => ev_iload_n (pc' := 12) dX5_plan_11 rfl rfl) ?_
      refine ex_of (fun _ _ => ev_callV1 (pc' := 15) kX5_44 mX5_shelfOf dX5_plan_12 rfl rfl (Nat.le_of_ble_eq_true rfl) (Nat.le_of_ble_eq_true rfl) (by decide) rfl hX (e5_shelfOf0 hq (by omega))) ?_
      refine ex_of (fun _ _ => ev_astore_5N (pc' := 17) dX5_plan_15 rfl (by decide) rfl) ?_
      refine ex_of (fun _ _ => ev_aloadN (pc' := 19) dX5_plan_17 rfl rfl) ?_
      refine ex_of (fun _ _ => ev_ifnullN (tgt := 34) dX5_plan_19 (by decide)) ?_
      refine ex_of (fun _ _ => ev_iconst (pc' := 35) (iI (-1)) dX5_plan_34 rfl (by decide)) ?_
      exact ex_end (ev_iret dX5_plan_35 rfl) (⟨by unfold sPlan; rw [if_pos (by unfold sWk; rw [if_pos (by omega)]; decide)]; unfold sWk; rw [if_pos (by omega)], fr, hR⟩)
end CN1
