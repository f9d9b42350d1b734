section MS
variable {l : Launch} {A : Nat → Int → Int} {h : ev_H} {o : Nat → Int}
/-! the reference's plan -/
def bitI (s i : Int) : Int := s / 2 ^ i.toNat % 2
theorem bitI_b (s i : Int) : bitI s i = 0 ∨ bitI s i = 1 := by unfold bitI; omega
theorem pl_or0 : ∀ i, i < 6 → ∀ b, b < 2 → ∀ a, a < 64 → a < 2 ^ i → (iI (a : Nat) ||| (iI (b : Nat) <<< (iI (i : Nat) &&& 31))) = iI ((a + b * 2 ^ i : Nat)) := by decide +kernel
theorem pl_sh0 : ∀ i, i < 6 → ∀ a, a < 64 → (iI (a : Nat) >>> (iI (i : Nat) &&& 31)) &&& iI 1 = iI ((a / 2 ^ i % 2 : Nat)) := by decide +kernel
theorem pl_on0 : ∀ n, n < 7 → iI 1 <<< (iI (n : Nat) &&& 31) = iI ((2 ^ n : Nat)) := by decide +kernel
theorem p2_le {n : Nat} (h : n ≤ 6) : (2 : Nat) ^ n ≤ 64 := by
  have := Nat.pow_le_pow_right (show 0 < 2 by decide) h
  omega
theorem pl_sh {a : Int} {i : Nat} (ha : 0 ≤ a ∧ a < 64) (hi : i < 6) : (iI a >>> (iI (i : Int) &&& 31)) &&& iI 1 = iI (bitI a i) := by
  have := pl_sh0 i hi a.toNat (by omega)
  rw [show ((a.toNat : Nat) : Int) = a by omega] at this
  rw [this]
  congr 1
  unfold bitI
  rw [Int.natCast_emod, Int.natCast_ediv, show ((a.toNat : Nat) : Int) = a by omega]
  simp
theorem pl_or {a b : Int} {i : Nat} (ha : 0 ≤ a ∧ a < (2 ^ i : Nat)) (hb : b = 0 ∨ b = 1) (hi : i < 6) : (iI a ||| (iI b <<< (iI (i : Int) &&& 31))) = iI (a + b * (2 ^ i : Nat)) := by
  have h6 := p2_le (show i ≤ 6 by omega)
  have := pl_or0 i hi b.toNat (by omega) a.toNat (by omega) (by omega)
  rw [show ((a.toNat : Nat) : Int) = a by omega, show ((b.toNat : Nat) : Int) = b by omega] at this
  rw [this]
  congr 1
  rw [Int.natCast_add, Int.natCast_mul, show ((a.toNat : Nat) : Int) = a by omega, show ((b.toNat : Nat) : Int) = b by omega]
def dirS (S : Int → Int) (k s n : Int) : Int → Int := fun x => if 0 ≤ x - (143 + 45 * k + 5) ∧ (x - (143 + 45 * k + 5)) % 4 = 0 ∧ (x - (143 + 45 * k + 5)) / 4 < n then bitI s ((x - (143 + 45 * k + 5)) / 4) else S x
theorem dirS_0 (S : Int → Int) (k s : Int) : dirS S k s 0 = S := by funext x; unfold dirS; rw [if_neg (by omega)]
theorem dirS_s (S : Int → Int) (k s n : Int) (hn : 0 ≤ n) : upI (dirS S k s n) (143 + 45 * k + 4 + 4 * n + 1) (bitI s n) = dirS S k s (n + 1) := by
  funext x
  unfold upI dirS
  by_cases c1 : x = 143 + 45 * k + 4 + 4 * n + 1
  · rw [if_pos c1, if_pos (by omega)]
    congr 1; omega
  · rw [if_neg c1]
    by_cases c2 : 0 ≤ x - (143 + 45 * k + 5) ∧ (x - (143 + 45 * k + 5)) % 4 = 0 ∧ (x - (143 + 45 * k + 5)) / 4 < n
    · rw [if_pos c2, if_pos (by omega)]
    · rw [if_neg c2, if_neg (by omega)]
theorem dirS_n {S : Int → Int} {k s n x : Int} (h : ¬ (0 ≤ x - (143 + 45 * k + 5) ∧ (x - (143 + 45 * k + 5)) % 4 = 0 ∧ (x - (143 + 45 * k + 5)) / 4 < n)) : dirS S k s n x = S x := by unfold dirS; rw [if_neg h]
theorem dirS_d {S : Int → Int} {k s n i : Int} (h : 0 ≤ i ∧ i < n) : dirS S k s n (143 + 45 * k + (4 + 4 * i + 1)) = bitI s i := by
  unfold dirS
  rw [if_pos (by omega)]
  congr 1; omega
theorem dirS_2 (S : Int → Int) (k s s2 n : Int) : dirS (dirS S k s n) k s2 n = dirS S k s2 n := by
  funext x
  by_cases c : 0 ≤ x - (143 + 45 * k + 5) ∧ (x - (143 + 45 * k + 5)) % 4 = 0 ∧ (x - (143 + 45 * k + 5)) / 4 < n
  · unfold dirS; rw [if_pos c, if_pos c]
  · rw [dirS_n c, dirS_n c, dirS_n c]
def wy (S : Int → Int) (k : Int) : Nat → Int
  | 0 => 0
  | n + 1 => wy S k n + S (143 + 45 * k + 4 + 4 * (n : Int) + 1) * (2 ^ n : Nat)
theorem wy_b {S : Int → Int} {k : Int} : ∀ n : Nat, (∀ i : Int, 0 ≤ i → i < n → S (143 + 45 * k + 4 + 4 * i + 1) = 0 ∨ S (143 + 45 * k + 4 + 4 * i + 1) = 1) → 0 ≤ wy S k n ∧ wy S k n < (2 ^ n : Nat)
  | 0, _ => by simp [wy]
  | n + 1, hb => by
    have ih := wy_b (S := S) (k := k) n (fun i h1 h2 => hb i h1 (by omega))
    have b := hb (n : Int) (by omega) (by omega)
    unfold wy
    have e : ((2 ^ (n + 1) : Nat) : Int) = 2 * ((2 ^ n : Nat) : Int) := by rw [Nat.pow_succ]; omega
    rw [e]
    rcases b with b | b <;> rw [b] <;> omega
theorem wy_bit {S : Int → Int} {k : Int} : ∀ n : Nat, (∀ i : Int, 0 ≤ i → i < n → S (143 + 45 * k + 4 + 4 * i + 1) = 0 ∨ S (143 + 45 * k + 4 + 4 * i + 1) = 1) → ∀ i : Nat, i < n → bitI (wy S k n) (i : Int) = S (143 + 45 * k + 4 + 4 * (i : Int) + 1)
  | 0, _, i, hi => by omega
  | n + 1, hb, i, hi => by
    have wb := wy_b (S := S) (k := k) n (fun i h1 h2 => hb i h1 (by omega))
    have b := hb (n : Int) (by omega) (by omega)
    have e2 : ∀ m : Nat, ((2 : Int) ^ m) = ((2 ^ m : Nat) : Int) := fun m => by simp
    by_cases c : i = n
    · subst c
      unfold bitI wy
      rw [show ((i : Int)).toNat = i by omega, e2, Int.add_mul_ediv_right _ _ (by have := Nat.pow_pos (n := i) (show 0 < 2 by decide); omega), Int.ediv_eq_zero_of_lt wb.1 wb.2]
      omega
    · have ih := wy_bit (S := S) (k := k) n (fun i h1 h2 => hb i h1 (by omega)) i (by omega)
      rw [← ih]
      unfold bitI
      conv => lhs; unfold wy
      rw [show ((i : Int)).toNat = i by omega, e2]
      obtain ⟨m, hm⟩ : ∃ m, n = i + 1 + m := ⟨n - (i + 1), by omega⟩
      have e3 : S (143 + 45 * k + 4 + 4 * (n : Int) + 1) * ((2 ^ n : Nat) : Int) = (S (143 + 45 * k + 4 + 4 * (n : Int) + 1) * ((2 ^ m : Nat) : Int) * 2) * ((2 ^ i : Nat) : Int) := by
        have : (2 ^ n : Nat) = 2 ^ m * 2 * 2 ^ i := by rw [hm, Nat.pow_add, Nat.pow_add, Nat.pow_one]; simp only [Nat.mul_comm, Nat.mul_left_comm, Nat.mul_assoc]
        rw [this, Int.natCast_mul, Int.natCast_mul]
        simp only [Int.mul_assoc]
        rfl
      rw [e3, Int.add_mul_ediv_right _ _ (by have := Nat.pow_pos (n := i) (show 0 < 2 by decide); omega)]
      omega
theorem dirS_wy {S : Int → Int} {k : Int} {n : Nat} (hb : ∀ i : Int, 0 ≤ i → i < n → S (143 + 45 * k + 4 + 4 * i + 1) = 0 ∨ S (143 + 45 * k + 4 + 4 * i + 1) = 1) : dirS S k (wy S k n) n = S := by
  funext x
  by_cases c : 0 ≤ x - (143 + 45 * k + 5) ∧ (x - (143 + 45 * k + 5)) % 4 = 0 ∧ (x - (143 + 45 * k + 5)) / 4 < n
  · unfold dirS
    rw [if_pos c]
    have := wy_bit (S := S) (k := k) n hb ((x - (143 + 45 * k + 5)) / 4).toNat (by omega)
    rw [show ((((x - (143 + 45 * k + 5)) / 4).toNat : Nat) : Int) = (x - (143 + 45 * k + 5)) / 4 by omega] at this
    rw [this]
    congr 1; omega
  · exact dirS_n c
/-! what another direction leaves as it was -/
def bea (s : Int) : Int → Bool := fun i => decide (bitI s i = 1)
theorem dir_I0 {S : Int → Int} {k s n : Int} (hk : 0 ≤ k) (h : mI0 S) : mI0 (dirS S k s n) := by
  obtain ⟨a, b, c⟩ := h
  refine ⟨?_, ?_, ?_⟩ <;> rw [dirS_n (by omega)] <;> assumption
theorem dir_IP {S : Int → Int} {k s n : Int} (hk : 0 ≤ k) (hI : mI0 S) (h : mIP S) : mIP (dirS S k s n) := by
  intro p h1 h2
  obtain ⟨⟨i1, i2⟩, -⟩ := hI
  rw [dirS_n (by omega)] at h2
  rw [dirS_n (by omega), dirS_n (by omega), dirS_n (by omega), dirS_n (by omega)]
  exact h p h1 h2
theorem dir_T {S : Int → Int} {k s n j : Int} (hk : 0 ≤ k ∧ k < 8) (hj : 0 ≤ j ∧ j < 8) (hn : n ≤ 6) (h : mT S j) : mT (dirS S k s n) j := by
  obtain ⟨t0, t1, t2, t3, t4, t5, t6, t7⟩ := h
  refine ⟨?_, ?_, ?_, ?_, ?_, ?_, ?_, ?_⟩
  · rw [dirS_n (by omega)]; exact t0
  · rw [dirS_n (by omega), dirS_n (by omega)]; exact t1
  · rw [dirS_n (by omega)]; exact t2
  · rw [dirS_n (by omega)]; exact t3
  · intro i h1 h2
    rw [dirS_n (by omega)] at h2
    obtain ⟨u0, u1, u2, u3⟩ := t4 i h1 h2
    refine ⟨?_, ?_, ?_, ?_⟩
    · rw [dirS_n (by omega), dirS_n (by omega)]; exact u0
    · by_cases c : j = k ∧ i < n
      · obtain ⟨rfl, c2⟩ := c
        rw [dirS_d ⟨h1, c2⟩]; exact bitI_b s i
      · rw [dirS_n (by omega)]; exact u1
    · rw [dirS_n (by omega)]; exact u2
    · rw [dirS_n (by omega)]; exact u3
  · rw [dirS_n (by omega)]; exact t5
  · intro i h1 h2
    rw [dirS_n (by omega)] at h2
    rw [dirS_n (by omega), dirS_n (by omega)]
    exact t6 i h1 h2
  · intro i h1 h2
    rw [dirS_n (by omega)] at h2
    rw [dirS_n (by omega), dirS_n (by omega), dirS_n (by omega)]
    exact t7 i h1 h2
theorem fwL_dir {S : Int → Int} {ea ea' : Int → Bool} {k s n t : Int} (hk : 0 ≤ k ∧ k < 8) (hn : n ≤ 6) (hI : mI0 S) (hT : mT S k) : ∀ (c : Nat) (i ab pn si : Int), 0 ≤ i → S (143 + 45 * k + 3) - i = c → (0 ≤ pn ∧ pn < S 0) → (∀ j, 0 ≤ j → j < S (143 + 45 * k + 3) → ea' j = ea j) → fwL (dirS S k s n) ea' k t c i ab pn si = fwL S ea k t c i ab pn si := by
  intro c
  obtain ⟨t0, t1, t2, t3, t4, t5, t6, t7⟩ := id hT
  obtain ⟨⟨i1, i2⟩, -⟩ := id hI
  induction c with
  | zero => intro i ab pn si _ _ _ _; rfl
  | succ c ih =>
    intro i ab pn si hi hc hp he
    obtain ⟨u0, -⟩ := t4 i hi (by omega)
    unfold fwL
    have e0 : dirS S k s n (143 + 45 * k + (4 + 4 * i + 0)) = S (143 + 45 * k + (4 + 4 * i + 0)) := dirS_n (by omega)
    have e2 : dirS S k s n (143 + 45 * k + (4 + 4 * i + 2)) = S (143 + 45 * k + (4 + 4 * i + 2)) := dirS_n (by omega)
    have e3 : dirS S k s n (143 + 45 * k + (4 + 4 * i + 3)) = S (143 + 45 * k + (4 + 4 * i + 3)) := dirS_n (by omega)
    have es : sgn (dirS S k s n) (ea' i) pn (S (143 + 45 * k + (4 + 4 * i + 0))) = sgn S (ea i) pn (S (143 + 45 * k + (4 + 4 * i + 0))) := by
      unfold sgn
      rw [dirS_n (by omega), dirS_n (by omega), he i hi (by omega)]
    rw [e0, e2, e3, es]
    split
    · rfl
    · split
      · exact ih (i + 1) _ _ _ (by omega) (by omega) u0 he
      · rfl
theorem fw_dir {S : Int → Int} {k s n t : Int} (hk : 0 ≤ k ∧ k < 8) (hI : mI0 S) (hT : mT S k) (hn : n = S (143 + 45 * k + 3)) : fw (dirS S k s n) (mea (dirS S k s n) k) k t = fw S (bea s) k t := by
  obtain ⟨t0, t1, t2, t3, -⟩ := id hT
  unfold fw
  rw [dirS_n (by omega), dirS_n (by omega)]
  exact fwL_dir hk (by omega) hI hT _ 0 0 _ 0 (by omega) (by omega) t1 (fun j h1 h2 => by unfold mea bea; rw [dirS_d ⟨h1, by omega⟩])
theorem sKp_dir {A : Nat → Int → Int} {k d r s n : Int} (hk : 0 ≤ k ∧ k < 8) (hI : mI0 (A 0)) (hT : mT (A 0) k) (hn : n = A 0 (143 + 45 * k + 3)) : sKp (upA A 0 (dirS (A 0) k s n)) (mea (dirS (A 0) k s n) k) k d r = sKp A (bea s) k d r := by
  obtain ⟨⟨i1, i2⟩, -⟩ := id hI
  obtain ⟨t0, t1, -⟩ := id hT
  unfold sKp
  rw [show upA A 0 (dirS (A 0) k s n) 4 = A 4 from rfl]
  congr 1
  funext i
  unfold kpP
  rw [show upA A 0 (dirS (A 0) k s n) 5 = A 5 from rfl, upA_s, fw_dir hk hI hT hn]
  have e : ∀ ab be t, sMid (dirS (A 0) k s n) k ab be t = sMid (A 0) k ab be t := by
    intro ab be t
    unfold sMid eN eS
    rw [show dirS (A 0) k s n (143 + 45 * k + 1) = A 0 (143 + 45 * k + 1) from dirS_n (by omega)]
    rw [show dirS (A 0) k s n (3 + 4 * A 0 (143 + 45 * k + 1) + 0) = A 0 (3 + 4 * A 0 (143 + 45 * k + 1) + 0) from dirS_n (by omega), show dirS (A 0) k s n 2 = A 0 2 from dirS_n (by omega)]
  rw [e]
def sPlan (A : Nat → Int → Int) (k d r : Int) : Int := if sWk A k d r ≠ 0 then sWk A k d r else fstM (fun s => decide (sKp A (bea s) k d r = -4)) (2 ^ (A 0 (143 + 45 * k + 3)).toNat) 0
theorem e6_plW {k d r : Int} {a4 : Int32} {n : Nat} {Post : Option Value → ev_H → Prop} (hw : MW h o A) (hk : 0 ≤ k ∧ k < 8) (hn : n ≤ 6) (hb : ∀ i : Int, 0 ≤ i → i < n → A 0 (143 + 45 * k + 4 + 4 * i + 1) = 0 ∨ A 0 (143 + 45 * k + 4 + 4 * i + 1) = 1) (fin : ∀ a8, Ex l 5 yX6_plan.cls yX6_plan.name cX6_plan 11 (some .int) 81 [some (.ref 34), some (.int (iI (k))), some (.int (iI (d))), some (.int (iI (r))), some (.int a4), some (.int (iI (143 + 45 * k))), some (.int (iI (((n : Nat) : Int)))), some (.int (iI (wy (A 0) k n))), a8, none, none] [] h Post) : ∀ (c i : Nat), i + c = n → Ex l 5 yX6_plan.cls yX6_plan.name cX6_plan 11 (some .int) 44 [some (.ref 34), some (.int (iI (k))), some (.int (iI (d))), some (.int (iI (r))), some (.int a4), some (.int (iI (143 + 45 * k))), some (.int (iI (((n : Nat) : Int)))), some (.int (iI (wy (A 0) k i))), some (.int (iI ((i : Int)))), none, none] [] h Post := by
  intro c
  induction c with
  | zero =>
    intro i hi
    have ei : i = n := by omega
    subst ei
    refine ex_of (fun _ _ => ev_iload (pc' := 46) dX6_plan_44 rfl rfl) ?_
    refine ex_of (fun _ _ => ev_iload (pc' := 48) dX6_plan_46 rfl rfl) ?_
    refine ex_icmpI_ge (pc' := 51) (tgt := 81) dX6_plan_48 (by decide) rfl (by omega) (by omega) (fun c48 => ?_) (fun c48 => ?_)
    · exact fin _
    · omega
  | succ c ih =>
    intro i hi
    have wb := wy_b (S := A 0) (k := k) i (fun j h1 h2 => hb j h1 (by omega))
    refine ex_of (fun _ _ => ev_iload (pc' := 46) dX6_plan_44 rfl rfl) ?_
    refine ex_of (fun _ _ => ev_iload (pc' := 48) dX6_plan_46 rfl rfl) ?_
    refine ex_icmpI_ge (pc' := 51) (tgt := 81) dX6_plan_48 (by decide) rfl (by omega) (by omega) (fun c48 => ?_) (fun c48 => ?_)
    · omega
    · refine ex_of (fun _ _ => ev_iload (pc' := 53) dX6_plan_51 rfl rfl) ?_
      refine ex_of (fun _ _ => ev_aload_n (pc' := 54) dX6_plan_53 rfl rfl) ?_
      refine ex_of (fun _ _ => ev_getfield (pc' := 57) fX6_9 dX6_plan_54 rfl hw.o rfl) ?_
      refine ex_of (fun _ _ => ev_iload (pc' := 59) dX6_plan_57 rfl rfl) ?_
      refine ex_of (fun _ _ => ev_iconst (pc' := 60) (iI (4)) dX6_plan_59 rfl (by decide)) ?_
      refine ex_of (fun _ _ => ev_iaddI (pc' := 61) dX6_plan_60 rfl) ?_
      refine ex_of (fun _ _ => ev_iconst (pc' := 62) (iI (4)) dX6_plan_61 rfl (by decide)) ?_
      refine ex_of (fun _ _ => ev_iload (pc' := 64) dX6_plan_62 rfl rfl) ?_
      refine ex_of (fun _ _ => ev_imulI (pc' := 65) dX6_plan_64 rfl) ?_
      refine ex_of (fun _ _ => ev_iaddI (pc' := 66) dX6_plan_65 rfl) ?_
      refine ex_of (fun _ _ => ev_iconst (pc' := 67) (iI (1)) dX6_plan_66 rfl (by decide)) ?_
      refine ex_of (fun _ _ => ev_iaddI (pc' := 68) dX6_plan_67 rfl) ?_
      refine ex_of (fun _ _ => ev_ialoadI (pc' := 69) dX6_plan_68 rfl hw.a0 (by decide) (by omega)) ?_
      refine ex_of (fun _ _ => ev_iload (pc' := 71) dX6_plan_69 rfl rfl) ?_
      refine ex_of (fun _ _ => ev_ishl (pc' := 72) dX6_plan_71 rfl) ?_
      refine ex_of (fun _ _ => ev_ior (pc' := 73) dX6_plan_72 rfl) ?_
      rw [pl_or wb (hb i (by omega) (by omega)) (by omega)]
      refine ex_of (fun _ _ => ev_istore_7 (pc' := 75) dX6_plan_73 rfl (by decide) rfl) ?_
      refine ex_of (fun _ _ => ev_iincI_8 (pc' := 78) dX6_plan_75 rfl (by decide) rfl) ?_
      refine ex_of (fun _ _ => ev_goto (tgt := 44) dX6_plan_78 (by decide)) ?_
      exact ih (i + 1) (by omega)
theorem e6_plD {h0 : ev_H} {k d r s : Int} {a4 : Int32} {n : Nat} {D : Int → Int} {Post : Option Value → ev_H → Prop} {x1 x2 : Int} (hk : 0 ≤ k ∧ k < 8) (hn : n ≤ 6) (hs : 0 ≤ s ∧ s < 64) (fin : ∀ h2 b, MW h2 o (upA A 0 (dirS D k s n)) → FrM h0 h2 → Ex l 5 yX6_plan.cls yX6_plan.name cX6_plan 11 (some .int) 141 [some (.ref 34), some (.int (iI (k))), some (.int (iI (d))), some (.int (iI (r))), some (.int a4), some (.int (iI (143 + 45 * k))), some (.int (iI (((n : Nat) : Int)))), some (.int (iI (x1))), some (.int (iI (x2))), some (.int (iI (s))), b] [] h2 Post) : ∀ (c i : Nat) (h : ev_H), i + c = n → MW h o (upA A 0 (dirS D k s i)) → FrM h0 h → Ex l 5 yX6_plan.cls yX6_plan.name cX6_plan 11 (some .int) 105 [some (.ref 34), some (.int (iI (k))), some (.int (iI (d))), some (.int (iI (r))), some (.int a4), some (.int (iI (143 + 45 * k))), some (.int (iI (((n : Nat) : Int)))), some (.int (iI (x1))), some (.int (iI (x2))), some (.int (iI (s))), some (.int (iI ((i : Int))))] [] h Post := by
  intro c
  induction c with
  | zero =>
    intro i h hi hw fr
    have ei : i = n := by omega
    subst ei
    refine ex_of (fun _ _ => ev_iload (pc' := 107) dX6_plan_105 rfl rfl) ?_
    refine ex_of (fun _ _ => ev_iload (pc' := 109) dX6_plan_107 rfl rfl) ?_
    refine ex_icmpI_ge (pc' := 112) (tgt := 141) dX6_plan_109 (by decide) rfl (by omega) (by omega) (fun c109 => ?_) (fun c109 => ?_)
    · exact fin _ _ hw fr
    · omega
  | succ c ih =>
    intro i h hi hw fr
    refine ex_of (fun _ _ => ev_iload (pc' := 107) dX6_plan_105 rfl rfl) ?_
    refine ex_of (fun _ _ => ev_iload (pc' := 109) dX6_plan_107 rfl rfl) ?_
    refine ex_icmpI_ge (pc' := 112) (tgt := 141) dX6_plan_109 (by decide) rfl (by omega) (by omega) (fun c109 => ?_) (fun c109 => ?_)
    · omega
    · refine ex_of (fun _ _ => ev_aload_n (pc' := 113) dX6_plan_112 rfl rfl) ?_
      refine ex_of (fun _ _ => ev_getfield (pc' := 116) fX6_9 dX6_plan_113 rfl hw.o rfl) ?_
      refine ex_of (fun _ _ => ev_iload (pc' := 118) dX6_plan_116 rfl rfl) ?_
      refine ex_of (fun _ _ => ev_iconst (pc' := 119) (iI (4)) dX6_plan_118 rfl (by decide)) ?_
      refine ex_of (fun _ _ => ev_iaddI (pc' := 120) dX6_plan_119 rfl) ?_
      refine ex_of (fun _ _ => ev_iconst (pc' := 121) (iI (4)) dX6_plan_120 rfl (by decide)) ?_
      refine ex_of (fun _ _ => ev_iload (pc' := 123) dX6_plan_121 rfl rfl) ?_
      refine ex_of (fun _ _ => ev_imulI (pc' := 124) dX6_plan_123 rfl) ?_
      refine ex_of (fun _ _ => ev_iaddI (pc' := 125) dX6_plan_124 rfl) ?_
      refine ex_of (fun _ _ => ev_iconst (pc' := 126) (iI (1)) dX6_plan_125 rfl (by decide)) ?_
      refine ex_of (fun _ _ => ev_iaddI (pc' := 127) dX6_plan_126 rfl) ?_
      refine ex_of (fun _ _ => ev_iload (pc' := 129) dX6_plan_127 rfl rfl) ?_
      refine ex_of (fun _ _ => ev_iload (pc' := 131) dX6_plan_129 rfl rfl) ?_
      refine ex_of (fun _ _ => ev_ishr (pc' := 132) dX6_plan_131 rfl) ?_
      refine ex_of (fun _ _ => ev_iconst (pc' := 133) (iI (1)) dX6_plan_132 rfl (by decide)) ?_
      refine ex_of (fun _ _ => ev_iand (pc' := 134) dX6_plan_133 rfl) ?_
      rw [pl_sh hs (by omega)]
      refine xst_0 (pc' := 135) dX6_plan_134 rfl hw fr (by omega) (fun h hw fr => ?_)
      refine ex_of (fun _ _ => ev_iincI_10 (pc' := 138) dX6_plan_135 rfl (by decide) rfl) ?_
      refine ex_of (fun _ _ => ev_goto (tgt := 105) dX6_plan_138 (by decide)) ?_
      rw [upA_s, upA_2, dirS_s _ _ _ _ (by omega)] at hw
      exact ih (i + 1) _ (by omega) hw fr
theorem e6_plR {x10 : Option Value} {h0 : ev_H} {k d r s : Int} {a4 : Int32} {n : Nat} {D : Int → Int} {Post : Option Value → ev_H → Prop} {x1 x2 : Int} (hk : 0 ≤ k ∧ k < 8) (hn : n ≤ 6) (hs : 0 ≤ s ∧ s < 64) (fin : ∀ h2 b, MW h2 o (upA A 0 (dirS D k s n)) → FrM h0 h2 → Ex l 5 yX6_plan.cls yX6_plan.name cX6_plan 11 (some .int) 207 [some (.ref 34), some (.int (iI (k))), some (.int (iI (d))), some (.int (iI (r))), some (.int a4), some (.int (iI (143 + 45 * k))), some (.int (iI (((n : Nat) : Int)))), some (.int (iI (s))), some (.int (iI (x2))), b, x10] [] h2 Post) : ∀ (c i : Nat) (h : ev_H), i + c = n → MW h o (upA A 0 (dirS D k s i)) → FrM h0 h → Ex l 5 yX6_plan.cls yX6_plan.name cX6_plan 11 (some .int) 171 [some (.ref 34), some (.int (iI (k))), some (.int (iI (d))), some (.int (iI (r))), some (.int a4), some (.int (iI (143 + 45 * k))), some (.int (iI (((n : Nat) : Int)))), some (.int (iI (s))), some (.int (iI (x2))), some (.int (iI ((i : Int)))), x10] [] h Post := by
  intro c
  induction c with
  | zero =>
    intro i h hi hw fr
    have ei : i = n := by omega
    subst ei
    refine ex_of (fun _ _ => ev_iload (pc' := 173) dX6_plan_171 rfl rfl) ?_
    refine ex_of (fun _ _ => ev_iload (pc' := 175) dX6_plan_173 rfl rfl) ?_
    refine ex_icmpI_ge (pc' := 178) (tgt := 207) dX6_plan_175 (by decide) rfl (by omega) (by omega) (fun c175 => ?_) (fun c175 => ?_)
    · exact fin _ _ hw fr
    · omega
  | succ c ih =>
    intro i h hi hw fr
    refine ex_of (fun _ _ => ev_iload (pc' := 173) dX6_plan_171 rfl rfl) ?_
    refine ex_of (fun _ _ => ev_iload (pc' := 175) dX6_plan_173 rfl rfl) ?_
    refine ex_icmpI_ge (pc' := 178) (tgt := 207) dX6_plan_175 (by decide) rfl (by omega) (by omega) (fun c175 => ?_) (fun c175 => ?_)
    · omega
    · refine ex_of (fun _ _ => ev_aload_n (pc' := 179) dX6_plan_178 rfl rfl) ?_
      refine ex_of (fun _ _ => ev_getfield (pc' := 182) fX6_9 dX6_plan_179 rfl hw.o rfl) ?_
      refine ex_of (fun _ _ => ev_iload (pc' := 184) dX6_plan_182 rfl rfl) ?_
      refine ex_of (fun _ _ => ev_iconst (pc' := 185) (iI (4)) dX6_plan_184 rfl (by decide)) ?_
      refine ex_of (fun _ _ => ev_iaddI (pc' := 186) dX6_plan_185 rfl) ?_
      refine ex_of (fun _ _ => ev_iconst (pc' := 187) (iI (4)) dX6_plan_186 rfl (by decide)) ?_
      refine ex_of (fun _ _ => ev_iload (pc' := 189) dX6_plan_187 rfl rfl) ?_
      refine ex_of (fun _ _ => ev_imulI (pc' := 190) dX6_plan_189 rfl) ?_
      refine ex_of (fun _ _ => ev_iaddI (pc' := 191) dX6_plan_190 rfl) ?_
      refine ex_of (fun _ _ => ev_iconst (pc' := 192) (iI (1)) dX6_plan_191 rfl (by decide)) ?_
      refine ex_of (fun _ _ => ev_iaddI (pc' := 193) dX6_plan_192 rfl) ?_
      refine ex_of (fun _ _ => ev_iload (pc' := 195) dX6_plan_193 rfl rfl) ?_
      refine ex_of (fun _ _ => ev_iload (pc' := 197) dX6_plan_195 rfl rfl) ?_
      refine ex_of (fun _ _ => ev_ishr (pc' := 198) dX6_plan_197 rfl) ?_
      refine ex_of (fun _ _ => ev_iconst (pc' := 199) (iI (1)) dX6_plan_198 rfl (by decide)) ?_
      refine ex_of (fun _ _ => ev_iand (pc' := 200) dX6_plan_199 rfl) ?_
      rw [pl_sh hs (by omega)]
      refine xst_0 (pc' := 201) dX6_plan_200 rfl hw fr (by omega) (fun h hw fr => ?_)
      refine ex_of (fun _ _ => ev_iincI_9 (pc' := 204) dX6_plan_201 rfl (by decide) rfl) ?_
      refine ex_of (fun _ _ => ev_goto (tgt := 171) dX6_plan_204 (by decide)) ?_
      rw [upA_s, upA_2, dirS_s _ _ _ _ (by omega)] at hw
      exact ih (i + 1) _ (by omega) hw fr
theorem e6_plO {h0 : ev_H} {o0 : Nat → Int} {k d r : Int} {a4 : Int32} {n : Nat} (hI : mI0 (A 0)) (hJ : mIP (A 0)) (hK : ∀ k, 0 ≤ k → k < A 0 1 → mT (A 0) k) (hS : mSh A) (hk : 0 ≤ k ∧ k < A 0 1) (hd : 0 ≤ d ∧ d < 8) (hr1 : 0 ≤ r ∧ r ≤ 6) (hm : ∀ j, 0 ≤ j → j < A 4 d → 0 ≤ A 5 (100 * d + j) ∧ A 5 (100 * d + j) ≤ 19999) (hn : A 0 (143 + 45 * k + 3) = n) : ∀ (c : Nat) (s fd : Int) (x10 : Option Value) (D : Int → Int) (h : ev_H) (o : Nat → Int), MW h o (upA A 0 D) → FrM h0 h → (∀ j, j < 19 → o j = o0 j) → (∀ q, dirS D k q n = dirS (A 0) k q n) → 0 ≤ s → s + c = (2 ^ n : Nat) → (fd = -4 ∨ (0 ≤ fd ∧ fd < 64)) → Ex l 5 yX6_plan.cls yX6_plan.name cX6_plan 11 (some .int) 88 [some (.ref 34), some (.int (iI (k))), some (.int (iI (d))), some (.int (iI (r))), some (.int a4), some (.int (iI (143 + 45 * k))), some (.int (iI (((n : Nat) : Int)))), some (.int (iI (wy (A 0) k n))), some (.int (iI (fd))), some (.int (iI (s))), x10] [] h (scP h0 o0 A (some (.int (iI (if fd < 0 then fstM (fun s => decide (sKp A (bea s) k d r = -4)) c s else fd))))) := by
  intro c
  obtain ⟨⟨i1, i2⟩, ⟨i3, i4⟩, i5, i6⟩ := id hI
  obtain ⟨t0, t1, t2, t3, t4, -⟩ := id (hK k hk.1 hk.2)
  have n6 : n ≤ 6 := by omega
  have p6 := p2_le n6
  have hb : ∀ i : Int, 0 ≤ i → i < n → A 0 (143 + 45 * k + 4 + 4 * i + 1) = 0 ∨ A 0 (143 + 45 * k + 4 + 4 * i + 1) = 1 := fun i h1 h2 => by
    have := (t4 i h1 (by omega)).2.1
    rw [show 143 + 45 * k + 4 + 4 * i + 1 = 143 + 45 * k + (4 + 4 * i + 1) by omega]
    exact this
  have wb := wy_b (S := A 0) (k := k) n hb
  have R : ∀ (fd : Int) (x9 x10 : Option Value) (D : Int → Int) (h : ev_H) (o : Nat → Int), MW h o (upA A 0 D) → FrM h0 h → (∀ j, j < 19 → o j = o0 j) → (∀ q, dirS D k q n = dirS (A 0) k q n) → Ex l 5 yX6_plan.cls yX6_plan.name cX6_plan 11 (some .int) 168 [some (.ref 34), some (.int (iI (k))), some (.int (iI (d))), some (.int (iI (r))), some (.int a4), some (.int (iI (143 + 45 * k))), some (.int (iI (((n : Nat) : Int)))), some (.int (iI (wy (A 0) k n))), some (.int (iI (fd))), x9, x10] [] h (scP h0 o0 A (some (.int (iI fd)))) := by
    intro fd x9 x10 D h o hw fr hs hD
    refine ex_of (fun _ _ => ev_iconst (pc' := 169) (iI (0)) dX6_plan_168 rfl (by decide)) ?_
    refine ex_of (fun _ _ => ev_istore_9 (pc' := 171) dX6_plan_169 rfl (by decide) rfl) ?_
    have hw5 := hw
    rw [show D = dirS D k (wy (A 0) k n) (0 : Nat) from (dirS_0 _ _ _).symm] at hw5
    refine e6_plR (l := l) (A := A) (D := D) (x1 := 0) (by omega) n6 (by omega) (fun h2 b hw fr => ?_) n 0 _ (by omega) hw5 fr
    refine ex_of (fun _ _ => ev_iload (pc' := 209) dX6_plan_207 rfl rfl) ?_
    exact ex_end (ev_iret dX6_plan_209 rfl) (⟨rfl, _, by rw [hD, dirS_wy hb, upA_id] at hw; exact hw, fr, hs⟩)
  induction c with
  | zero =>
    intro s fd x10 D h o hw fr hs hD h1 h2 h3
    have p1 := pl_on0 n (by omega)
    refine ex_of (fun _ _ => ev_iload (pc' := 90) dX6_plan_88 rfl rfl) ?_
    refine ex_of (fun _ _ => ev_iconst (pc' := 91) (iI (1)) dX6_plan_90 rfl (by decide)) ?_
    refine ex_of (fun _ _ => ev_iload (pc' := 93) dX6_plan_91 rfl rfl) ?_
    refine ex_of (fun _ _ => ev_ishl (pc' := 94) dX6_plan_93 rfl) ?_
    rw [p1]
    refine ex_icmpI_ge (pc' := 97) (tgt := 168) dX6_plan_94 (by decide) rfl (by omega) (by omega) (fun c94 => ?_) (fun c94 => ?_)
    · have K := R fd (some (.int (iI s))) x10 D _ _ hw fr hs hD
      rw [show (if fd < 0 then fstM (fun s => decide (sKp A (bea s) k d r = -4)) 0 s else fd) = fd by split; show -4 = fd; omega; rfl]
      exact K
    · omega
  | succ c ih =>
    intro s fd x10 D h o hw fr hs hD h1 h2 h3
    have p1 := pl_on0 n (by omega)
    refine ex_of (fun _ _ => ev_iload (pc' := 90) dX6_plan_88 rfl rfl) ?_
    refine ex_of (fun _ _ => ev_iconst (pc' := 91) (iI (1)) dX6_plan_90 rfl (by decide)) ?_
    refine ex_of (fun _ _ => ev_iload (pc' := 93) dX6_plan_91 rfl rfl) ?_
    refine ex_of (fun _ _ => ev_ishl (pc' := 94) dX6_plan_93 rfl) ?_
    rw [p1]
    refine ex_icmpI_ge (pc' := 97) (tgt := 168) dX6_plan_94 (by decide) rfl (by omega) (by omega) (fun c94 => ?_) (fun c94 => ?_)
    · omega
    · refine ex_of (fun _ _ => ev_iload (pc' := 99) dX6_plan_97 rfl rfl) ?_
      refine ex_ifI_ge (pc' := 102) (tgt := 168) dX6_plan_99 (by decide) rfl (by omega) (fun c99 => ?_) (fun c99 => ?_)
      · have K := R fd (some (.int (iI s))) x10 D _ _ hw fr hs hD
        rw [if_neg (by omega)]
        exact K
      · refine ex_of (fun _ _ => ev_iconst (pc' := 103) (iI (0)) dX6_plan_102 rfl (by decide)) ?_
        refine ex_of (fun _ _ => ev_istore_10 (pc' := 105) dX6_plan_103 rfl (by decide) rfl) ?_
        have hw5 := hw
        rw [show D = dirS D k s (0 : Nat) from (dirS_0 _ _ _).symm] at hw5
        refine e6_plD (l := l) (A := A) (D := D) (by omega) n6 (by omega) (fun h2 b hw fr => ?_) n 0 _ (by omega) hw5 fr
        refine ex_of (fun _ _ => ev_aload_n (pc' := 142) dX6_plan_141 rfl rfl) ?_
        refine ex_of (fun _ _ => ev_iload_n (pc' := 143) dX6_plan_142 rfl rfl) ?_
        refine ex_of (fun _ _ => ev_iload_n (pc' := 144) dX6_plan_143 rfl rfl) ?_
        refine ex_of (fun _ _ => ev_iload_n (pc' := 145) dX6_plan_144 rfl rfl) ?_
        have hO := hw.o
        obtain ⟨w1, h1, E1, rfl, o1, hw, fr1, hs1⟩ := e6_keptOf (l := l) (A := upA A 0 (dirS D k s n)) (k := k) (d := d) (r := r) hw (by rw [upA_s, hD]; exact dir_I0 (by omega) hI) (by rw [upA_s, hD]; exact dir_IP (by omega) hI hJ) (fun j q1 q2 => by rw [upA_s, hD] at q2 ⊢; rw [dirS_n (by omega)] at q2; exact dir_T (by omega) (by omega) (by omega) (hK j q1 q2)) (by rw [hD]; exact ⟨fun e q1 q2 => by have := hS.1 e q1 q2; rw [upA_s, dirS_n (by omega)]; exact this, hS.2⟩) (by rw [upA_s, hD, dirS_n (by omega)]; exact hk) hd hr1 hm
        refine ex_of (fun _ _ => ev_callV3 (pc' := 148) kX6_233 mX6_keptOf dX6_plan_145 rfl rfl (Nat.le_of_ble_eq_true rfl) (Nat.le_of_ble_eq_true rfl) (by decide) rfl hO E1) ?_
        have fr := fr.tr fr1
        have hs2 : ∀ j, j < 19 → o1 j = o0 j := fun j hj => (hs1 j hj).trans (hs j hj)
        rw [upA_s, hD, sKp_dir (by omega) hI (hK k hk.1 hk.2) hn.symm]
        have zk : -4 ≤ sKp A (bea s) k d r ∧ sKp A (bea s) k d r ≤ 100 := by
          have s3 := (hS.1 d hd.1 hd.2).2.2.1
          have key : ∀ (P : Int → Bool) (n : Nat) (m : Int), fstM P n m = -4 ∨ (m ≤ fstM P n m ∧ fstM P n m < m + n) := by
            intro P n
            induction n with
            | zero => intro m; exact Or.inl rfl
            | succ n ih =>
              intro m
              unfold fstM
              split
              · right; omega
              · rcases ih (m + 1) with q | q
                · exact Or.inl q
                · right; omega
          have := key (kpP A (bea s) k d r) (A 4 d).toNat 0
          unfold sKp
          omega
        refine ex_of (fun _ _ => ev_bipush (pc' := 150) (iI (-4)) dX6_plan_148 rfl (by decide)) ?_
        refine ex_icmpI_ne (pc' := 153) (tgt := 158) dX6_plan_150 (by decide) rfl (by omega) (by omega) (fun c150 => ?_) (fun c150 => ?_)
        · refine ex_of (fun _ _ => ev_bipush (pc' := 160) (iI (-4)) dX6_plan_158 rfl (by decide)) ?_
          refine ex_of (fun _ _ => ev_istore_8 (pc' := 162) dX6_plan_160 rfl (by decide) rfl) ?_
          refine ex_of (fun _ _ => ev_iincI_9 (pc' := 165) dX6_plan_162 rfl (by decide) rfl) ?_
          refine ex_of (fun _ _ => ev_goto (tgt := 88) dX6_plan_165 (by decide)) ?_
          first
          | (have K := ih (s + 1) s b _ _ _ hw fr hs2 (fun q => by rw [hD, dirS_2]) (by omega) (by omega) (by omega)
             rw [if_neg (show ¬ s < 0 by omega)] at K
             rw [if_pos (show fd < 0 by omega), fstM_t (decide_eq_true c150)]
             exact K)
          | (have K := ih (s + 1) (-4) b _ _ _ hw fr hs2 (fun q => by rw [hD, dirS_2]) (by omega) (by omega) (by omega)
             rw [if_pos (show (-4 : Int) < 0 by decide)] at K
             rw [if_pos (show fd < 0 by omega), fstM_f (decide_eq_false c150)]
             exact K)
        · refine ex_of (fun _ _ => ev_iload (pc' := 155) dX6_plan_153 rfl rfl) ?_
          refine ex_of (fun _ _ => ev_goto (tgt := 160) dX6_plan_155 (by decide)) ?_
          refine ex_of (fun _ _ => ev_istore_8 (pc' := 162) dX6_plan_160 rfl (by decide) rfl) ?_
          refine ex_of (fun _ _ => ev_iincI_9 (pc' := 165) dX6_plan_162 rfl (by decide) rfl) ?_
          refine ex_of (fun _ _ => ev_goto (tgt := 88) dX6_plan_165 (by decide)) ?_
          first
          | (have K := ih (s + 1) s b _ _ _ hw fr hs2 (fun q => by rw [hD, dirS_2]) (by omega) (by omega) (by omega)
             rw [if_neg (show ¬ s < 0 by omega)] at K
             rw [if_pos (show fd < 0 by omega), fstM_t (decide_eq_true c150)]
             exact K)
          | (have K := ih (s + 1) (-4) b _ _ _ hw fr hs2 (fun q => by rw [hD, dirS_2]) (by omega) (by omega) (by omega)
             rw [if_pos (show (-4 : Int) < 0 by decide)] at K
             rw [if_pos (show fd < 0 by omega), fstM_f (decide_eq_false c150)]
             exact K)
theorem e6_plan {k d r : Int} (hw : MW h o A) (hI : mI0 (A 0)) (hJ : mIP (A 0)) (hK : ∀ k, 0 ≤ k → k < A 0 1 → mT (A 0) k) (hS : mSh A) (rk : -2147483648 ≤ k ∧ k < 2147483648) (rd : -2147483648 ≤ d ∧ d < 2147483648) (rr : -2147483648 ≤ r ∧ r < 2147483648) : Ex l 5 yX6_plan.cls yX6_plan.name cX6_plan 11 (some .int) 0 [some (.ref 34), some (.int (iI k)), some (.int (iI d)), some (.int (iI r)), none, none, none, none, none, none, none] [] h (scP h o A (some (.int (iI (sPlan A k d r))))) := by
  obtain ⟨⟨i1, i2⟩, ⟨i3, i4⟩, i5, i6⟩ := id hI
  have fr := FrM.rf h
  have hs : ∀ j, j < 19 → o j = o j := fun _ _ => rfl
  have zb := sWk_b A k d r
  refine ex_of (fun _ _ => ev_aload_n (pc' := 1) dX6_plan_0 rfl rfl) ?_
  refine ex_of (fun _ _ => ev_iload_n (pc' := 2) dX6_plan_1 rfl rfl) ?_
  refine ex_of (fun _ _ => ev_iload_n (pc' := 3) dX6_plan_2 rfl rfl) ?_
  refine ex_of (fun _ _ => ev_iload_n (pc' := 4) dX6_plan_3 rfl rfl) ?_
  refine ex_of (fun _ _ => ev_callV3 (pc' := 7) kX6_230 mX6_wrongKept dX6_plan_4 rfl rfl (Nat.le_of_ble_eq_true rfl) (Nat.le_of_ble_eq_true rfl) (by decide) rfl hw.o (e6_wrongKept hw hI hS (by omega) (by omega) (by omega))) ?_
  refine ex_of (fun _ _ => ev_istore_4 (pc' := 9) dX6_plan_7 rfl (by decide) rfl) ?_
  refine ex_of (fun _ _ => ev_iload (pc' := 11) dX6_plan_9 rfl rfl) ?_
  refine ex_ifI_eq (pc' := 14) (tgt := 17) dX6_plan_11 (by decide) rfl (by omega) (fun c11 => ?_) (fun c11 => ?_)
  · obtain ⟨y1, y2, y3, y4, y5, y6⟩ := sWk_0 (show sWk A k d r = 0 by omega)
    obtain ⟨t0, t1, t2, t3, t4, -⟩ := id (hK k y1.1 y1.2)
    obtain ⟨n, en⟩ : ∃ n : Nat, A 0 (143 + 45 * k + 3) = n := ⟨(A 0 (143 + 45 * k + 3)).toNat, by omega⟩
    have hb : ∀ i : Int, 0 ≤ i → i < n → A 0 (143 + 45 * k + 4 + 4 * i + 1) = 0 ∨ A 0 (143 + 45 * k + 4 + 4 * i + 1) = 1 := fun i h1 h2 => by
      have := (t4 i h1 (by omega)).2.1
      rw [show 143 + 45 * k + 4 + 4 * i + 1 = 143 + 45 * k + (4 + 4 * i + 1) by omega]
      exact this
    refine ex_of (fun _ _ => ev_sipush (pc' := 20) (iI (143)) dX6_plan_17 rfl (by decide)) ?_
    refine ex_of (fun _ _ => ev_bipush (pc' := 22) (iI (45)) dX6_plan_20 rfl (by decide)) ?_
    refine ex_of (fun _ _ => ev_iload_n (pc' := 23) dX6_plan_22 rfl rfl) ?_
    refine ex_of (fun _ _ => ev_imulI (pc' := 24) dX6_plan_23 rfl) ?_
    refine ex_of (fun _ _ => ev_iaddI (pc' := 25) dX6_plan_24 rfl) ?_
    refine ex_of (fun _ _ => ev_istore_5 (pc' := 27) dX6_plan_25 rfl (by decide) rfl) ?_
    refine ex_of (fun _ _ => ev_aload_n (pc' := 28) dX6_plan_27 rfl rfl) ?_
    refine ex_of (fun _ _ => ev_getfield (pc' := 31) fX6_9 dX6_plan_28 rfl hw.o rfl) ?_
    refine ex_of (fun _ _ => ev_iload (pc' := 33) dX6_plan_31 rfl rfl) ?_
    refine ex_of (fun _ _ => ev_iconst (pc' := 34) (iI (3)) dX6_plan_33 rfl (by decide)) ?_
    refine ex_of (fun _ _ => ev_iaddI (pc' := 35) dX6_plan_34 rfl) ?_
    refine ex_of (fun _ _ => ev_ialoadI (pc' := 36) dX6_plan_35 rfl hw.a0 (by decide) (by omega)) ?_
    rw [en]
    refine ex_of (fun _ _ => ev_istore_6 (pc' := 38) dX6_plan_36 rfl (by decide) rfl) ?_
    refine ex_of (fun _ _ => ev_iconst (pc' := 39) (iI (0)) dX6_plan_38 rfl (by decide)) ?_
    refine ex_of (fun _ _ => ev_istore_7 (pc' := 41) dX6_plan_39 rfl (by decide) rfl) ?_
    refine ex_of (fun _ _ => ev_iconst (pc' := 42) (iI (0)) dX6_plan_41 rfl (by decide)) ?_
    refine ex_of (fun _ _ => ev_istore_8 (pc' := 44) dX6_plan_42 rfl (by decide) rfl) ?_
    refine e6_plW (l := l) hw (by omega) (by omega) hb (fun a8 => ?_) n 0 (by omega)
    refine ex_of (fun _ _ => ev_bipush (pc' := 83) (iI (-4)) dX6_plan_81 rfl (by decide)) ?_
    refine ex_of (fun _ _ => ev_istore_8 (pc' := 85) dX6_plan_83 rfl (by decide) rfl) ?_
    refine ex_of (fun _ _ => ev_iconst (pc' := 86) (iI (0)) dX6_plan_85 rfl (by decide)) ?_
    refine ex_of (fun _ _ => ev_istore_9 (pc' := 88) dX6_plan_86 rfl (by decide) rfl) ?_
    have K := e6_plO (l := l) (h0 := h) (o0 := o) (a4 := iI (sWk A k d r)) hI hJ hK hS y1 y2 y3 y6 en (2 ^ n) 0 (-4) none (A 0) _ _ (by rw [upA_id]; exact hw) fr hs (fun q => rfl) (by omega) (by omega) (by omega)
    rw [if_pos (show (-4 : Int) < 0 by decide)] at K
    rw [show sPlan A k d r = fstM (fun s => decide (sKp A (bea s) k d r = -4)) (2 ^ n) 0 by unfold sPlan; rw [if_neg (by omega), en]; rfl]
    exact K
  · refine ex_of (fun _ _ => ev_iload (pc' := 16) dX6_plan_14 rfl rfl) ?_
    exact ex_end (ev_iret dX6_plan_16 rfl) (⟨by unfold sPlan; rw [if_pos (by omega)], _, hw, fr, hs⟩)
end MS
