section EI
/-- numbers of the machine by whole numbers -/
def iI (z : Int) : Int32 := Int32.ofInt z
def jJ (z : Int) : Int64 := Int64.ofInt z
theorem iI_add (a b : Int) : iI a + iI b = iI (a + b) := (Int32.ofInt_add a b).symm
theorem iI_sub (a b : Int) : iI a - iI b = iI (a - b) := (Int32.ofInt_sub a b).symm
theorem iI_mul (a b : Int) : iI a * iI b = iI (a * b) := (Int32.ofInt_mul a b).symm
theorem iI_neg (a : Int) : -iI a = iI (-a) := (Int32.ofInt_neg a).symm
theorem jJ_add (a b : Int) : jJ a + jJ b = jJ (a + b) := (Int64.ofInt_add a b).symm
theorem jJ_sub (a b : Int) : jJ a - jJ b = jJ (a - b) := (Int64.ofInt_sub a b).symm
theorem jJ_mul (a b : Int) : jJ a * jJ b = jJ (a * b) := (Int64.ofInt_mul a b).symm
theorem jJ_neg (a : Int) : -jJ a = jJ (-a) := (Int64.ofInt_neg a).symm
theorem iI_toInt {a : Int} (h : -2147483648 ≤ a ∧ a < 2147483648) : (iI a).toInt = a := Int32.toInt_ofInt_of_le (by simpa using h.1) (by simpa using h.2)
theorem jJ_toInt {a : Int} (h : -9223372036854775808 ≤ a ∧ a < 9223372036854775808) : (jJ a).toInt = a := Int64.toInt_ofInt_of_le (by simpa using h.1) (by simpa using h.2)
theorem iI_of (x : Int32) : iI x.toInt = x := Int32.ofInt_toInt x
theorem iI_rng (x : Int32) : -2147483648 ≤ x.toInt ∧ x.toInt < 2147483648 := ⟨by have := x.le_toInt; simpa using this, by have := x.toInt_lt; simpa using this⟩
theorem iI_lt {a b : Int} (ha : -2147483648 ≤ a ∧ a < 2147483648) (hb : -2147483648 ≤ b ∧ b < 2147483648) : iI a < iI b ↔ a < b := by rw [Int32.lt_iff_toInt_lt, iI_toInt ha, iI_toInt hb]
theorem iI_le {a b : Int} (ha : -2147483648 ≤ a ∧ a < 2147483648) (hb : -2147483648 ≤ b ∧ b < 2147483648) : iI a ≤ iI b ↔ a ≤ b := by rw [Int32.le_iff_toInt_le, iI_toInt ha, iI_toInt hb]
theorem iI_eq {a b : Int} (ha : -2147483648 ≤ a ∧ a < 2147483648) (hb : -2147483648 ≤ b ∧ b < 2147483648) : iI a = iI b ↔ a = b := by rw [← Int32.toInt_inj, iI_toInt ha, iI_toInt hb]
theorem jJ_lt {a b : Int} (ha : -9223372036854775808 ≤ a ∧ a < 9223372036854775808) (hb : -9223372036854775808 ≤ b ∧ b < 9223372036854775808) : jJ a < jJ b ↔ a < b := by rw [Int64.lt_iff_toInt_lt, jJ_toInt ha, jJ_toInt hb]
theorem jJ_le {a b : Int} (ha : -9223372036854775808 ≤ a ∧ a < 9223372036854775808) (hb : -9223372036854775808 ≤ b ∧ b < 9223372036854775808) : jJ a ≤ jJ b ↔ a ≤ b := by rw [Int64.le_iff_toInt_le, jJ_toInt ha, jJ_toInt hb]
theorem jJ_eq {a b : Int} (ha : -9223372036854775808 ≤ a ∧ a < 9223372036854775808) (hb : -9223372036854775808 ≤ b ∧ b < 9223372036854775808) : jJ a = jJ b ↔ a = b := by rw [← Int64.toInt_inj, jJ_toInt ha, jJ_toInt hb]
theorem iI_l {a : Int} (ha : -2147483648 ≤ a ∧ a < 2147483648) : (iI a).toInt64 = jJ a := by
  rw [← Int64.toInt_inj, Int32.toInt_toInt64, iI_toInt ha, jJ_toInt ⟨by omega, by omega⟩]
theorem jJ_i (a : Int) : (jJ a).toInt32 = iI a := Int64.toInt32_ofInt
theorem iI_div {a b : Int} (ha : -2147483648 < a ∧ a < 2147483648) (hb : -2147483648 ≤ b ∧ b < 2147483648) : iI a / iI b = iI (a.tdiv b) := by
  have h1 : iI a ≠ Int32.minValue := by
    intro h
    have := congrArg Int32.toInt h
    rw [iI_toInt ⟨by omega, ha.2⟩] at this
    have h2 : Int32.minValue.toInt = -2147483648 := by decide
    omega
  rw [← Int32.ofInt_toInt (iI a / iI b), Int32.toInt_div_of_ne_left _ _ h1, iI_toInt ⟨by omega, ha.2⟩, iI_toInt hb]
  rfl
theorem jJ_div {a b : Int} (ha : -9223372036854775808 < a ∧ a < 9223372036854775808) (hb : -9223372036854775808 ≤ b ∧ b < 9223372036854775808) : jJ a / jJ b = jJ (a.tdiv b) := by
  have h1 : jJ a ≠ Int64.minValue := by
    intro h
    have := congrArg Int64.toInt h
    rw [jJ_toInt ⟨by omega, ha.2⟩] at this
    have h2 : Int64.minValue.toInt = -9223372036854775808 := by decide
    omega
  rw [← Int64.ofInt_toInt (jJ a / jJ b), Int64.toInt_div_of_ne_left _ _ h1, jJ_toInt ⟨by omega, ha.2⟩, jJ_toInt hb]
  rfl
theorem iI_in {e : Int} {n : Nat} (h1 : 0 ≤ e ∧ e < n) (hn : n ≤ 100000) : vp_in (iI e) n := by
  rw [vp_in_iff, iI_toInt ⟨by omega, by omega⟩]
  exact h1
theorem iI_cl {e : Int} (h1 : 0 ≤ e ∧ e < 2147483648) : (((iI e).toNatClampNeg : Nat) : Int) = e := by
  have h2 : (iI e).toNatClampNeg = (iI e).toInt.toNat := rfl
  rw [h2, iI_toInt ⟨by omega, by omega⟩]
  omega
/-- what an array of ints holds, by whole numbers -/
def arI (S : Int → Int) : Nat → Int32 := fun k => iI (S k)
def upI (S : Int → Int) (e z : Int) : Int → Int := fun k => if k = e then z else S k
theorem upI_s (S : Int → Int) (e z : Int) : upI S e z e = z := by simp [upI]
theorem upI_n {S : Int → Int} {e z k : Int} (h : k ≠ e) : upI S e z k = S k := by simp [upI, h]
theorem arI_up {S : Int → Int} {e z : Int} (h1 : 0 ≤ e ∧ e < 2147483648) : upd (arI S) (iI e).toNatClampNeg (iI z) = arI (upI S e z) := by
  funext k
  show (if k = (iI e).toNatClampNeg then iI z else iI (S k)) = iI (if (k : Int) = e then z else S k)
  have h2 := iI_cl h1
  by_cases hk : k = (iI e).toNatClampNeg
  · subst hk
    rw [if_pos rfl, if_pos h2]
  · rw [if_neg hk, if_neg (fun q => hk (by omega))]
theorem arI_of (f : Nat → Int32) : f = arI (fun k => (f k.toNat).toInt) := by
  funext k
  show f k = iI (f (k : Int).toNat).toInt
  rw [iI_of]
  rfl
theorem arI_cg {S S' : Int → Int} (h : ∀ k, 0 ≤ k → S k = S' k) : arI S = arI S' := by
  funext k
  show iI (S k) = iI (S' k)
  rw [h k (Int.natCast_nonneg k)]
variable {l : Launch} {d : Nat} {own nm : String} {cc : ByteArray} {nL : Nat} {ret : Option FieldType} {pc pc' : Nat} {lc : ev_L} {st : List Value} {h h' : ev_H} {v : Option Value}
theorem ev_iaddI {a b : Int} (hd : decode cc pc = .ok (.iadd, 1)) (hp : pc + 1 = pc') (k : Ev l d own nm cc nL ret pc' lc (.int (iI (a + b)) :: st) h v h') : Ev l d own nm cc nL ret pc lc (.int (iI b) :: .int (iI a) :: st) h v h' := ev_iadd hd hp (by rw [iI_add]; exact k)
theorem ev_isubI {a b : Int} (hd : decode cc pc = .ok (.isub, 1)) (hp : pc + 1 = pc') (k : Ev l d own nm cc nL ret pc' lc (.int (iI (a - b)) :: st) h v h') : Ev l d own nm cc nL ret pc lc (.int (iI b) :: .int (iI a) :: st) h v h' := ev_isub hd hp (by rw [iI_sub]; exact k)
theorem ev_imulI {a b : Int} (hd : decode cc pc = .ok (.imul, 1)) (hp : pc + 1 = pc') (k : Ev l d own nm cc nL ret pc' lc (.int (iI (a * b)) :: st) h v h') : Ev l d own nm cc nL ret pc lc (.int (iI b) :: .int (iI a) :: st) h v h' := ev_imul hd hp (by rw [iI_mul]; exact k)
theorem ev_laddI {a b : Int} (hd : decode cc pc = .ok (.ladd, 1)) (hp : pc + 1 = pc') (k : Ev l d own nm cc nL ret pc' lc (.long (jJ (a + b)) :: st) h v h') : Ev l d own nm cc nL ret pc lc (.long (jJ b) :: .long (jJ a) :: st) h v h' := ev_ladd hd hp (by rw [jJ_add]; exact k)
theorem ev_lsubI {a b : Int} (hd : decode cc pc = .ok (.lsub, 1)) (hp : pc + 1 = pc') (k : Ev l d own nm cc nL ret pc' lc (.long (jJ (a - b)) :: st) h v h') : Ev l d own nm cc nL ret pc lc (.long (jJ b) :: .long (jJ a) :: st) h v h' := ev_lsub hd hp (by rw [jJ_sub]; exact k)
theorem ev_lmulI {a b : Int} (hd : decode cc pc = .ok (.lmul, 1)) (hp : pc + 1 = pc') (k : Ev l d own nm cc nL ret pc' lc (.long (jJ (a * b)) :: st) h v h') : Ev l d own nm cc nL ret pc lc (.long (jJ b) :: .long (jJ a) :: st) h v h' := ev_lmul hd hp (by rw [jJ_mul]; exact k)
theorem ev_inegI {a : Int} (hd : decode cc pc = .ok (.ineg, 1)) (hp : pc + 1 = pc') (k : Ev l d own nm cc nL ret pc' lc (.int (iI (-a)) :: st) h v h') : Ev l d own nm cc nL ret pc lc (.int (iI a) :: st) h v h' := ev_ineg hd hp (by rw [iI_neg]; exact k)
theorem ev_lnegI {a : Int} (hd : decode cc pc = .ok (.lneg, 1)) (hp : pc + 1 = pc') (k : Ev l d own nm cc nL ret pc' lc (.long (jJ (-a)) :: st) h v h') : Ev l d own nm cc nL ret pc lc (.long (jJ a) :: st) h v h' := ev_lneg hd hp (by rw [jJ_neg]; exact k)
theorem ev_i2lI {a : Int} (hd : decode cc pc = .ok (.i2l, 1)) (hp : pc + 1 = pc') (ra : -2147483648 ≤ a ∧ a < 2147483648) (k : Ev l d own nm cc nL ret pc' lc (.long (jJ a) :: st) h v h') : Ev l d own nm cc nL ret pc lc (.int (iI a) :: st) h v h' := ev_i2l hd hp (by rw [iI_l ra]; exact k)
theorem ev_l2iI {a : Int} (hd : decode cc pc = .ok (.l2i, 1)) (hp : pc + 1 = pc') (k : Ev l d own nm cc nL ret pc' lc (.int (iI a) :: st) h v h') : Ev l d own nm cc nL ret pc lc (.long (jJ a) :: st) h v h' := ev_l2i hd hp (by rw [jJ_i]; exact k)
theorem ev_idivI {a b : Int} (hd : decode cc pc = .ok (.idiv, 1)) (hp : pc + 1 = pc') (ra : -2147483648 < a ∧ a < 2147483648) (rb : -2147483648 ≤ b ∧ b < 2147483648) (hb : b ≠ 0) (k : Ev l d own nm cc nL ret pc' lc (.int (iI (a.tdiv b)) :: st) h v h') : Ev l d own nm cc nL ret pc lc (.int (iI b) :: .int (iI a) :: st) h v h' := by
  refine ev_idiv hd hp (fun e => hb ((iI_eq (b := 0) rb ⟨by decide, by decide⟩).mp e)) ?_
  rw [iI_div ra rb]
  exact k
theorem ev_ldivI {a b : Int} (hd : decode cc pc = .ok (.ldiv, 1)) (hp : pc + 1 = pc') (ra : -9223372036854775808 < a ∧ a < 9223372036854775808) (rb : -9223372036854775808 ≤ b ∧ b < 9223372036854775808) (hb : b ≠ 0) (k : Ev l d own nm cc nL ret pc' lc (.long (jJ (a.tdiv b)) :: st) h v h') : Ev l d own nm cc nL ret pc lc (.long (jJ b) :: .long (jJ a) :: st) h v h' := by
  refine ev_ldiv hd hp (fun e => hb ((jJ_eq (b := 0) rb ⟨by decide, by decide⟩).mp e)) ?_
  rw [jJ_div ra rb]
  exact k
theorem ev_iremI {a b : Int} (hd : decode cc pc = .ok (.irem, 1)) (hp : pc + 1 = pc') (ra : -2147483648 < a ∧ a < 2147483648) (rb : -2147483648 ≤ b ∧ b < 2147483648) (hb : b ≠ 0) (k : Ev l d own nm cc nL ret pc' lc (.int (iI (a.tmod b)) :: st) h v h') : Ev l d own nm cc nL ret pc lc (.int (iI b) :: .int (iI a) :: st) h v h' := by
  refine ev_irem hd hp (fun e => hb ((iI_eq (b := 0) rb ⟨by decide, by decide⟩).mp e)) ?_
  rw [iI_div ra rb, iI_mul, iI_sub, show a - a.tdiv b * b = a.tmod b by rw [Int.tmod_def, Int.mul_comm]]
  exact k
theorem ev_lremI {a b : Int} (hd : decode cc pc = .ok (.lrem, 1)) (hp : pc + 1 = pc') (ra : -9223372036854775808 < a ∧ a < 9223372036854775808) (rb : -9223372036854775808 ≤ b ∧ b < 9223372036854775808) (hb : b ≠ 0) (k : Ev l d own nm cc nL ret pc' lc (.long (jJ (a.tmod b)) :: st) h v h') : Ev l d own nm cc nL ret pc lc (.long (jJ b) :: .long (jJ a) :: st) h v h' := by
  refine ev_lrem hd hp (fun e => hb ((jJ_eq (b := 0) rb ⟨by decide, by decide⟩).mp e)) ?_
  rw [jJ_div ra rb, jJ_mul, jJ_sub, show a - a.tdiv b * b = a.tmod b by rw [Int.tmod_def, Int.mul_comm]]
  exact k
theorem ev_ifI_eq {a : Int} {off : Int} {tgt : Nat} (hd : decode cc pc = .ok (.ifCond .eq off, 3)) (ht : (pc : Int) + off = (tgt : Int)) (hp : pc + 3 = pc') (ra : -2147483648 ≤ a ∧ a < 2147483648) (kt : a = 0 → Ev l d own nm cc nL ret tgt lc st h v h') (kf : ¬ a = 0 → Ev l d own nm cc nL ret pc' lc st h v h') : Ev l d own nm cc nL ret pc lc (.int (iI a) :: st) h v h' := by
  have rb : -2147483648 ≤ (0 : Int) ∧ (0 : Int) < 2147483648 := ⟨by decide, by decide⟩
  exact ev_if_eq hd ht hp (fun e => kt ((iI_eq ra rb).mp e)) (fun e => kf (fun q => e ((iI_eq ra rb).mpr q)))
theorem ev_icmpI_eq {a b : Int} {off : Int} {tgt : Nat} (hd : decode cc pc = .ok (.if_icmp .eq off, 3)) (ht : (pc : Int) + off = (tgt : Int)) (hp : pc + 3 = pc') (ra : -2147483648 ≤ a ∧ a < 2147483648) (rb : -2147483648 ≤ b ∧ b < 2147483648) (kt : a = b → Ev l d own nm cc nL ret tgt lc st h v h') (kf : ¬ a = b → Ev l d own nm cc nL ret pc' lc st h v h') : Ev l d own nm cc nL ret pc lc (.int (iI b) :: .int (iI a) :: st) h v h' := ev_icmp_eq hd ht hp (fun e => kt ((iI_eq ra rb).mp e)) (fun e => kf (fun q => e ((iI_eq ra rb).mpr q)))
theorem ev_lcmpI_eq {a b : Int} {off : Int} {tgt : Nat} (hd0 : decode cc pc = .ok (.lcmp, 1)) (hd : decode cc (pc + 1) = .ok (.ifCond .eq off, 3)) (ht : ((pc + 1 : Nat) : Int) + off = (tgt : Int)) (hp : pc + 1 + 3 = pc') (ra : -9223372036854775808 ≤ a ∧ a < 9223372036854775808) (rb : -9223372036854775808 ≤ b ∧ b < 9223372036854775808) (kt : a = b → Ev l d own nm cc nL ret tgt lc st h v h') (kf : ¬ a = b → Ev l d own nm cc nL ret pc' lc st h v h') : Ev l d own nm cc nL ret pc lc (.long (jJ b) :: .long (jJ a) :: st) h v h' :=
  ev_lcmp hd0 rfl (ev_if_eq hd ht hp (fun e => kt ((jJ_eq ra rb).mp ((lg_cmp_eq _ _).mp e))) (fun e => kf (fun q => e ((lg_cmp_eq _ _).mpr ((jJ_eq ra rb).mpr q)))))
theorem ev_ifI_ne {a : Int} {off : Int} {tgt : Nat} (hd : decode cc pc = .ok (.ifCond .ne off, 3)) (ht : (pc : Int) + off = (tgt : Int)) (hp : pc + 3 = pc') (ra : -2147483648 ≤ a ∧ a < 2147483648) (kt : ¬ a = 0 → Ev l d own nm cc nL ret tgt lc st h v h') (kf : a = 0 → Ev l d own nm cc nL ret pc' lc st h v h') : Ev l d own nm cc nL ret pc lc (.int (iI a) :: st) h v h' := by
  have rb : -2147483648 ≤ (0 : Int) ∧ (0 : Int) < 2147483648 := ⟨by decide, by decide⟩
  exact ev_if_ne hd ht hp (fun e => kt (fun q => e ((iI_eq ra rb).mpr q))) (fun e => kf ((iI_eq ra rb).mp e))
theorem ev_icmpI_ne {a b : Int} {off : Int} {tgt : Nat} (hd : decode cc pc = .ok (.if_icmp .ne off, 3)) (ht : (pc : Int) + off = (tgt : Int)) (hp : pc + 3 = pc') (ra : -2147483648 ≤ a ∧ a < 2147483648) (rb : -2147483648 ≤ b ∧ b < 2147483648) (kt : ¬ a = b → Ev l d own nm cc nL ret tgt lc st h v h') (kf : a = b → Ev l d own nm cc nL ret pc' lc st h v h') : Ev l d own nm cc nL ret pc lc (.int (iI b) :: .int (iI a) :: st) h v h' := ev_icmp_ne hd ht hp (fun e => kt (fun q => e ((iI_eq ra rb).mpr q))) (fun e => kf ((iI_eq ra rb).mp e))
theorem ev_lcmpI_ne {a b : Int} {off : Int} {tgt : Nat} (hd0 : decode cc pc = .ok (.lcmp, 1)) (hd : decode cc (pc + 1) = .ok (.ifCond .ne off, 3)) (ht : ((pc + 1 : Nat) : Int) + off = (tgt : Int)) (hp : pc + 1 + 3 = pc') (ra : -9223372036854775808 ≤ a ∧ a < 9223372036854775808) (rb : -9223372036854775808 ≤ b ∧ b < 9223372036854775808) (kt : ¬ a = b → Ev l d own nm cc nL ret tgt lc st h v h') (kf : a = b → Ev l d own nm cc nL ret pc' lc st h v h') : Ev l d own nm cc nL ret pc lc (.long (jJ b) :: .long (jJ a) :: st) h v h' :=
  ev_lcmp hd0 rfl (ev_if_ne hd ht hp (fun e => kt (fun q => e ((lg_cmp_eq _ _).mpr ((jJ_eq ra rb).mpr q)))) (fun e => kf ((jJ_eq ra rb).mp ((lg_cmp_eq _ _).mp e))))
theorem ev_ifI_lt {a : Int} {off : Int} {tgt : Nat} (hd : decode cc pc = .ok (.ifCond .lt off, 3)) (ht : (pc : Int) + off = (tgt : Int)) (hp : pc + 3 = pc') (ra : -2147483648 ≤ a ∧ a < 2147483648) (kt : a < 0 → Ev l d own nm cc nL ret tgt lc st h v h') (kf : ¬ a < 0 → Ev l d own nm cc nL ret pc' lc st h v h') : Ev l d own nm cc nL ret pc lc (.int (iI a) :: st) h v h' := by
  have rb : -2147483648 ≤ (0 : Int) ∧ (0 : Int) < 2147483648 := ⟨by decide, by decide⟩
  exact ev_if_lt hd ht hp (fun e => kt ((iI_lt ra rb).mp e)) (fun e => kf (fun q => e ((iI_lt ra rb).mpr q)))
theorem ev_icmpI_lt {a b : Int} {off : Int} {tgt : Nat} (hd : decode cc pc = .ok (.if_icmp .lt off, 3)) (ht : (pc : Int) + off = (tgt : Int)) (hp : pc + 3 = pc') (ra : -2147483648 ≤ a ∧ a < 2147483648) (rb : -2147483648 ≤ b ∧ b < 2147483648) (kt : a < b → Ev l d own nm cc nL ret tgt lc st h v h') (kf : ¬ a < b → Ev l d own nm cc nL ret pc' lc st h v h') : Ev l d own nm cc nL ret pc lc (.int (iI b) :: .int (iI a) :: st) h v h' := ev_icmp_lt hd ht hp (fun e => kt ((iI_lt ra rb).mp e)) (fun e => kf (fun q => e ((iI_lt ra rb).mpr q)))
theorem ev_lcmpI_lt {a b : Int} {off : Int} {tgt : Nat} (hd0 : decode cc pc = .ok (.lcmp, 1)) (hd : decode cc (pc + 1) = .ok (.ifCond .lt off, 3)) (ht : ((pc + 1 : Nat) : Int) + off = (tgt : Int)) (hp : pc + 1 + 3 = pc') (ra : -9223372036854775808 ≤ a ∧ a < 9223372036854775808) (rb : -9223372036854775808 ≤ b ∧ b < 9223372036854775808) (kt : a < b → Ev l d own nm cc nL ret tgt lc st h v h') (kf : ¬ a < b → Ev l d own nm cc nL ret pc' lc st h v h') : Ev l d own nm cc nL ret pc lc (.long (jJ b) :: .long (jJ a) :: st) h v h' :=
  ev_lcmp hd0 rfl (ev_if_lt hd ht hp (fun e => kt ((jJ_lt ra rb).mp ((lg_cmp_lt _ _).mp e))) (fun e => kf (fun q => e ((lg_cmp_lt _ _).mpr ((jJ_lt ra rb).mpr q)))))
theorem ev_ifI_ge {a : Int} {off : Int} {tgt : Nat} (hd : decode cc pc = .ok (.ifCond .ge off, 3)) (ht : (pc : Int) + off = (tgt : Int)) (hp : pc + 3 = pc') (ra : -2147483648 ≤ a ∧ a < 2147483648) (kt : 0 ≤ a → Ev l d own nm cc nL ret tgt lc st h v h') (kf : ¬ 0 ≤ a → Ev l d own nm cc nL ret pc' lc st h v h') : Ev l d own nm cc nL ret pc lc (.int (iI a) :: st) h v h' := by
  have rb : -2147483648 ≤ (0 : Int) ∧ (0 : Int) < 2147483648 := ⟨by decide, by decide⟩
  exact ev_if_ge hd ht hp (fun e => kt ((iI_le rb ra).mp e)) (fun e => kf (fun q => e ((iI_le rb ra).mpr q)))
theorem ev_icmpI_ge {a b : Int} {off : Int} {tgt : Nat} (hd : decode cc pc = .ok (.if_icmp .ge off, 3)) (ht : (pc : Int) + off = (tgt : Int)) (hp : pc + 3 = pc') (ra : -2147483648 ≤ a ∧ a < 2147483648) (rb : -2147483648 ≤ b ∧ b < 2147483648) (kt : b ≤ a → Ev l d own nm cc nL ret tgt lc st h v h') (kf : ¬ b ≤ a → Ev l d own nm cc nL ret pc' lc st h v h') : Ev l d own nm cc nL ret pc lc (.int (iI b) :: .int (iI a) :: st) h v h' := ev_icmp_ge hd ht hp (fun e => kt ((iI_le rb ra).mp e)) (fun e => kf (fun q => e ((iI_le rb ra).mpr q)))
theorem ev_lcmpI_ge {a b : Int} {off : Int} {tgt : Nat} (hd0 : decode cc pc = .ok (.lcmp, 1)) (hd : decode cc (pc + 1) = .ok (.ifCond .ge off, 3)) (ht : ((pc + 1 : Nat) : Int) + off = (tgt : Int)) (hp : pc + 1 + 3 = pc') (ra : -9223372036854775808 ≤ a ∧ a < 9223372036854775808) (rb : -9223372036854775808 ≤ b ∧ b < 9223372036854775808) (kt : b ≤ a → Ev l d own nm cc nL ret tgt lc st h v h') (kf : ¬ b ≤ a → Ev l d own nm cc nL ret pc' lc st h v h') : Ev l d own nm cc nL ret pc lc (.long (jJ b) :: .long (jJ a) :: st) h v h' :=
  ev_lcmp hd0 rfl (ev_if_ge hd ht hp (fun e => kt ((jJ_le rb ra).mp ((lg_cmp_ge _ _).mp e))) (fun e => kf (fun q => e ((lg_cmp_ge _ _).mpr ((jJ_le rb ra).mpr q)))))
theorem ev_ifI_gt {a : Int} {off : Int} {tgt : Nat} (hd : decode cc pc = .ok (.ifCond .gt off, 3)) (ht : (pc : Int) + off = (tgt : Int)) (hp : pc + 3 = pc') (ra : -2147483648 ≤ a ∧ a < 2147483648) (kt : 0 < a → Ev l d own nm cc nL ret tgt lc st h v h') (kf : ¬ 0 < a → Ev l d own nm cc nL ret pc' lc st h v h') : Ev l d own nm cc nL ret pc lc (.int (iI a) :: st) h v h' := by
  have rb : -2147483648 ≤ (0 : Int) ∧ (0 : Int) < 2147483648 := ⟨by decide, by decide⟩
  exact ev_if_gt hd ht hp (fun e => kt ((iI_lt rb ra).mp e)) (fun e => kf (fun q => e ((iI_lt rb ra).mpr q)))
theorem ev_icmpI_gt {a b : Int} {off : Int} {tgt : Nat} (hd : decode cc pc = .ok (.if_icmp .gt off, 3)) (ht : (pc : Int) + off = (tgt : Int)) (hp : pc + 3 = pc') (ra : -2147483648 ≤ a ∧ a < 2147483648) (rb : -2147483648 ≤ b ∧ b < 2147483648) (kt : b < a → Ev l d own nm cc nL ret tgt lc st h v h') (kf : ¬ b < a → Ev l d own nm cc nL ret pc' lc st h v h') : Ev l d own nm cc nL ret pc lc (.int (iI b) :: .int (iI a) :: st) h v h' := ev_icmp_gt hd ht hp (fun e => kt ((iI_lt rb ra).mp e)) (fun e => kf (fun q => e ((iI_lt rb ra).mpr q)))
theorem ev_lcmpI_gt {a b : Int} {off : Int} {tgt : Nat} (hd0 : decode cc pc = .ok (.lcmp, 1)) (hd : decode cc (pc + 1) = .ok (.ifCond .gt off, 3)) (ht : ((pc + 1 : Nat) : Int) + off = (tgt : Int)) (hp : pc + 1 + 3 = pc') (ra : -9223372036854775808 ≤ a ∧ a < 9223372036854775808) (rb : -9223372036854775808 ≤ b ∧ b < 9223372036854775808) (kt : b < a → Ev l d own nm cc nL ret tgt lc st h v h') (kf : ¬ b < a → Ev l d own nm cc nL ret pc' lc st h v h') : Ev l d own nm cc nL ret pc lc (.long (jJ b) :: .long (jJ a) :: st) h v h' :=
  ev_lcmp hd0 rfl (ev_if_gt hd ht hp (fun e => kt ((jJ_lt rb ra).mp ((lg_cmp_gt _ _).mp e))) (fun e => kf (fun q => e ((lg_cmp_gt _ _).mpr ((jJ_lt rb ra).mpr q)))))
theorem ev_ifI_le {a : Int} {off : Int} {tgt : Nat} (hd : decode cc pc = .ok (.ifCond .le off, 3)) (ht : (pc : Int) + off = (tgt : Int)) (hp : pc + 3 = pc') (ra : -2147483648 ≤ a ∧ a < 2147483648) (kt : a ≤ 0 → Ev l d own nm cc nL ret tgt lc st h v h') (kf : ¬ a ≤ 0 → Ev l d own nm cc nL ret pc' lc st h v h') : Ev l d own nm cc nL ret pc lc (.int (iI a) :: st) h v h' := by
  have rb : -2147483648 ≤ (0 : Int) ∧ (0 : Int) < 2147483648 := ⟨by decide, by decide⟩
  exact ev_if_le hd ht hp (fun e => kt ((iI_le ra rb).mp e)) (fun e => kf (fun q => e ((iI_le ra rb).mpr q)))
theorem ev_icmpI_le {a b : Int} {off : Int} {tgt : Nat} (hd : decode cc pc = .ok (.if_icmp .le off, 3)) (ht : (pc : Int) + off = (tgt : Int)) (hp : pc + 3 = pc') (ra : -2147483648 ≤ a ∧ a < 2147483648) (rb : -2147483648 ≤ b ∧ b < 2147483648) (kt : a ≤ b → Ev l d own nm cc nL ret tgt lc st h v h') (kf : ¬ a ≤ b → Ev l d own nm cc nL ret pc' lc st h v h') : Ev l d own nm cc nL ret pc lc (.int (iI b) :: .int (iI a) :: st) h v h' := ev_icmp_le hd ht hp (fun e => kt ((iI_le ra rb).mp e)) (fun e => kf (fun q => e ((iI_le ra rb).mpr q)))
theorem ev_lcmpI_le {a b : Int} {off : Int} {tgt : Nat} (hd0 : decode cc pc = .ok (.lcmp, 1)) (hd : decode cc (pc + 1) = .ok (.ifCond .le off, 3)) (ht : ((pc + 1 : Nat) : Int) + off = (tgt : Int)) (hp : pc + 1 + 3 = pc') (ra : -9223372036854775808 ≤ a ∧ a < 9223372036854775808) (rb : -9223372036854775808 ≤ b ∧ b < 9223372036854775808) (kt : a ≤ b → Ev l d own nm cc nL ret tgt lc st h v h') (kf : ¬ a ≤ b → Ev l d own nm cc nL ret pc' lc st h v h') : Ev l d own nm cc nL ret pc lc (.long (jJ b) :: .long (jJ a) :: st) h v h' :=
  ev_lcmp hd0 rfl (ev_if_le hd ht hp (fun e => kt ((jJ_le ra rb).mp ((lg_cmp_le _ _).mp e))) (fun e => kf (fun q => e ((lg_cmp_le _ _).mpr ((jJ_le ra rb).mpr q)))))
theorem ev_ifd_eq {P : Prop} {iP : Decidable P} {off : Int} {tgt : Nat} (hd : decode cc pc = .ok (.ifCond .eq off, 3)) (ht : (pc : Int) + off = (tgt : Int)) (hp : pc + 3 = pc') (kt : ¬ P → Ev l d own nm cc nL ret tgt lc st h v h') (kf : P → Ev l d own nm cc nL ret pc' lc st h v h') : Ev l d own nm cc nL ret pc lc (.int (b2i (decide P)) :: st) h v h' := ev_ifz_eq hd ht hp (fun e => kt (of_decide_eq_false e)) (fun e => kf (of_decide_eq_true e))
theorem ev_ifd_ne {P : Prop} {iP : Decidable P} {off : Int} {tgt : Nat} (hd : decode cc pc = .ok (.ifCond .ne off, 3)) (ht : (pc : Int) + off = (tgt : Int)) (hp : pc + 3 = pc') (kt : P → Ev l d own nm cc nL ret tgt lc st h v h') (kf : ¬ P → Ev l d own nm cc nL ret pc' lc st h v h') : Ev l d own nm cc nL ret pc lc (.int (b2i (decide P)) :: st) h v h' := ev_ifz_ne hd ht hp (fun e => kt (of_decide_eq_true e)) (fun e => kf (of_decide_eq_false e))
theorem ev_ialoadI {a n : Nat} {S : Int → Int} {e : Int} (hd : decode cc pc = .ok (.iaload, 1)) (hp : pc + 1 = pc') (ho : h[a]? = some (.inl (0, n, .inl (arI S)))) (hn : n ≤ 100000) (hin : 0 ≤ e ∧ e < n) (kk : Ev l d own nm cc nL ret pc' lc (.int (iI (S e)) :: st) h v h') : Ev l d own nm cc nL ret pc lc (.int (iI e) :: .ref a :: st) h v h' := by
  refine ev_iaload hd hp ho (iI_in hin hn) ?_
  have e1 : arI S (iI e).toNatClampNeg = iI (S e) := by
    show iI (S ((iI e).toNatClampNeg : Nat)) = iI (S e)
    rw [iI_cl ⟨hin.1, by omega⟩]
  rw [e1]
  exact kk
theorem ev_baloadI {a n : Nat} {S : Int → Int} {e : Int} (hd : decode cc pc = .ok (.baload, 1)) (hp : pc + 1 = pc') (ho : h[a]? = some (.inl (2, n, .inl (arI S)))) (hn : n ≤ 100000) (hin : 0 ≤ e ∧ e < n) (kk : Ev l d own nm cc nL ret pc' lc (.int (iI (S e)) :: st) h v h') : Ev l d own nm cc nL ret pc lc (.int (iI e) :: .ref a :: st) h v h' := by
  refine ev_baload hd hp ho (iI_in hin hn) ?_
  have e1 : arI S (iI e).toNatClampNeg = iI (S e) := by
    show iI (S ((iI e).toNatClampNeg : Nat)) = iI (S e)
    rw [iI_cl ⟨hin.1, by omega⟩]
  rw [e1]
  exact kk
theorem ev_iastoreI {a n : Nat} {S : Int → Int} {e z : Int} (hd : decode cc pc = .ok (.iastore, 1)) (hp : pc + 1 = pc') (ho : h[a]? = some (.inl (0, n, .inl (arI S)))) (hn : n ≤ 100000) (hin : 0 ≤ e ∧ e < n) (kk : Ev l d own nm cc nL ret pc' lc st (h.set a (.inl (0, n, .inl (arI (upI S e z))))) v h') : Ev l d own nm cc nL ret pc lc (.int (iI z) :: .int (iI e) :: .ref a :: st) h v h' := by
  refine ev_iastore hd hp ho (iI_in hin hn) ?_
  rw [arI_up ⟨hin.1, by omega⟩]
  exact kk
theorem vp_nar01 {z : Int} (hz : z = 0 ∨ z = 1) : vp_nar .boolean (iI z) = iI z := by rcases hz with rfl | rfl <;> rfl
theorem ev_bastoreI {a n : Nat} {S : Int → Int} {e z : Int} (hd : decode cc pc = .ok (.bastore, 1)) (hp : pc + 1 = pc') (ho : h[a]? = some (.inl (2, n, .inl (arI S)))) (hn : n ≤ 100000) (hin : 0 ≤ e ∧ e < n) (hz : z = 0 ∨ z = 1) (kk : Ev l d own nm cc nL ret pc' lc st (h.set a (.inl (2, n, .inl (arI (upI S e z))))) v h') : Ev l d own nm cc nL ret pc lc (.int (iI z) :: .int (iI e) :: .ref a :: st) h v h' := by
  refine ev_bastore hd hp ho (iI_in hin hn) ?_
  rw [vp_nar01 hz, arI_up ⟨hin.1, by omega⟩]
  exact kk
theorem ev_ldcI {i : Nat} {x : Int32} (z : Int) (hw : Cond.constant own i x ∈ bg_tbl) (hd : decode cc pc = .ok (.ldc i, 2)) (hp : pc + 2 = pc') (hx : x = iI z) (k : Ev l d own nm cc nL ret pc' lc (.int (iI z) :: st) h v h') : Ev l d own nm cc nL ret pc lc st h v h' := by
  subst hx
  exact ev_ldc hw hd hp k
theorem ev_ldcwI {i : Nat} {x : Int32} (z : Int) (hw : Cond.constant own i x ∈ bg_tbl) (hd : decode cc pc = .ok (.ldc_w i, 3)) (hp : pc + 3 = pc') (hx : x = iI z) (k : Ev l d own nm cc nL ret pc' lc (.int (iI z) :: st) h v h') : Ev l d own nm cc nL ret pc lc st h v h' := by
  subst hx
  exact ev_ldcw hw hd hp k
theorem ev_ldc2I {i : Nat} {x : Int64} (z : Int) (hw : Cond.constantLong own i x ∈ bg_tbl) (hd : decode cc pc = .ok (.ldc2_w i, 3)) (hp : pc + 3 = pc') (hx : x = jJ z) (k : Ev l d own nm cc nL ret pc' lc (.long (jJ z) :: st) h v h') : Ev l d own nm cc nL ret pc lc st h v h' := by
  subst hx
  exact ev_ldc2 hw hd hp k
theorem ev_iincI_0 {r : ev_L} {x : Int} {n : Int} (hd : decode cc pc = .ok (.iinc 0 n, 3)) (hp : pc + 3 = pc') (hn : 0 < nL) (k : Ev l d own nm cc nL ret pc' (some (.int (iI (x + n))) :: r) st h v h') : Ev l d own nm cc nL ret pc (some (.int (iI x)) :: r) st h v h' := ev_iinc_0 (iI n) hd hp rfl hn (by rw [iI_add]; exact k)
theorem ev_iincI_1 {a0 : Option Value} {r : ev_L} {x : Int} {n : Int} (hd : decode cc pc = .ok (.iinc 1 n, 3)) (hp : pc + 3 = pc') (hn : 1 < nL) (hq : ev_c1 a0 = true) (k : Ev l d own nm cc nL ret pc' (a0 :: some (.int (iI (x + n))) :: r) st h v h') : Ev l d own nm cc nL ret pc (a0 :: some (.int (iI x)) :: r) st h v h' := ev_iinc_1 (iI n) hd hp rfl hn hq (by rw [iI_add]; exact k)
theorem ev_iincI_2 {a0 a1 : Option Value} {r : ev_L} {x : Int} {n : Int} (hd : decode cc pc = .ok (.iinc 2 n, 3)) (hp : pc + 3 = pc') (hn : 2 < nL) (hq : ev_c1 a1 = true) (k : Ev l d own nm cc nL ret pc' (a0 :: a1 :: some (.int (iI (x + n))) :: r) st h v h') : Ev l d own nm cc nL ret pc (a0 :: a1 :: some (.int (iI x)) :: r) st h v h' := ev_iinc_2 (iI n) hd hp rfl hn hq (by rw [iI_add]; exact k)
theorem ev_iincI_3 {a0 a1 a2 : Option Value} {r : ev_L} {x : Int} {n : Int} (hd : decode cc pc = .ok (.iinc 3 n, 3)) (hp : pc + 3 = pc') (hn : 3 < nL) (hq : ev_c1 a2 = true) (k : Ev l d own nm cc nL ret pc' (a0 :: a1 :: a2 :: some (.int (iI (x + n))) :: r) st h v h') : Ev l d own nm cc nL ret pc (a0 :: a1 :: a2 :: some (.int (iI x)) :: r) st h v h' := ev_iinc_3 (iI n) hd hp rfl hn hq (by rw [iI_add]; exact k)
theorem ev_iincI_4 {a0 a1 a2 a3 : Option Value} {r : ev_L} {x : Int} {n : Int} (hd : decode cc pc = .ok (.iinc 4 n, 3)) (hp : pc + 3 = pc') (hn : 4 < nL) (hq : ev_c1 a3 = true) (k : Ev l d own nm cc nL ret pc' (a0 :: a1 :: a2 :: a3 :: some (.int (iI (x + n))) :: r) st h v h') : Ev l d own nm cc nL ret pc (a0 :: a1 :: a2 :: a3 :: some (.int (iI x)) :: r) st h v h' := ev_iinc_4 (iI n) hd hp rfl hn hq (by rw [iI_add]; exact k)
theorem ev_iincI_5 {a0 a1 a2 a3 a4 : Option Value} {r : ev_L} {x : Int} {n : Int} (hd : decode cc pc = .ok (.iinc 5 n, 3)) (hp : pc + 3 = pc') (hn : 5 < nL) (hq : ev_c1 a4 = true) (k : Ev l d own nm cc nL ret pc' (a0 :: a1 :: a2 :: a3 :: a4 :: some (.int (iI (x + n))) :: r) st h v h') : Ev l d own nm cc nL ret pc (a0 :: a1 :: a2 :: a3 :: a4 :: some (.int (iI x)) :: r) st h v h' := ev_iinc_5 (iI n) hd hp rfl hn hq (by rw [iI_add]; exact k)
theorem ev_iincI_6 {a0 a1 a2 a3 a4 a5 : Option Value} {r : ev_L} {x : Int} {n : Int} (hd : decode cc pc = .ok (.iinc 6 n, 3)) (hp : pc + 3 = pc') (hn : 6 < nL) (hq : ev_c1 a5 = true) (k : Ev l d own nm cc nL ret pc' (a0 :: a1 :: a2 :: a3 :: a4 :: a5 :: some (.int (iI (x + n))) :: r) st h v h') : Ev l d own nm cc nL ret pc (a0 :: a1 :: a2 :: a3 :: a4 :: a5 :: some (.int (iI x)) :: r) st h v h' := ev_iinc_6 (iI n) hd hp rfl hn hq (by rw [iI_add]; exact k)
theorem ev_iincI_7 {a0 a1 a2 a3 a4 a5 a6 : Option Value} {r : ev_L} {x : Int} {n : Int} (hd : decode cc pc = .ok (.iinc 7 n, 3)) (hp : pc + 3 = pc') (hn : 7 < nL) (hq : ev_c1 a6 = true) (k : Ev l d own nm cc nL ret pc' (a0 :: a1 :: a2 :: a3 :: a4 :: a5 :: a6 :: some (.int (iI (x + n))) :: r) st h v h') : Ev l d own nm cc nL ret pc (a0 :: a1 :: a2 :: a3 :: a4 :: a5 :: a6 :: some (.int (iI x)) :: r) st h v h' := ev_iinc_7 (iI n) hd hp rfl hn hq (by rw [iI_add]; exact k)
theorem ev_iincI_8 {a0 a1 a2 a3 a4 a5 a6 a7 : Option Value} {r : ev_L} {x : Int} {n : Int} (hd : decode cc pc = .ok (.iinc 8 n, 3)) (hp : pc + 3 = pc') (hn : 8 < nL) (hq : ev_c1 a7 = true) (k : Ev l d own nm cc nL ret pc' (a0 :: a1 :: a2 :: a3 :: a4 :: a5 :: a6 :: a7 :: some (.int (iI (x + n))) :: r) st h v h') : Ev l d own nm cc nL ret pc (a0 :: a1 :: a2 :: a3 :: a4 :: a5 :: a6 :: a7 :: some (.int (iI x)) :: r) st h v h' := ev_iinc_8 (iI n) hd hp rfl hn hq (by rw [iI_add]; exact k)
theorem ev_iincI_9 {a0 a1 a2 a3 a4 a5 a6 a7 a8 : Option Value} {r : ev_L} {x : Int} {n : Int} (hd : decode cc pc = .ok (.iinc 9 n, 3)) (hp : pc + 3 = pc') (hn : 9 < nL) (hq : ev_c1 a8 = true) (k : Ev l d own nm cc nL ret pc' (a0 :: a1 :: a2 :: a3 :: a4 :: a5 :: a6 :: a7 :: a8 :: some (.int (iI (x + n))) :: r) st h v h') : Ev l d own nm cc nL ret pc (a0 :: a1 :: a2 :: a3 :: a4 :: a5 :: a6 :: a7 :: a8 :: some (.int (iI x)) :: r) st h v h' := ev_iinc_9 (iI n) hd hp rfl hn hq (by rw [iI_add]; exact k)
theorem ev_iincI_10 {a0 a1 a2 a3 a4 a5 a6 a7 a8 a9 : Option Value} {r : ev_L} {x : Int} {n : Int} (hd : decode cc pc = .ok (.iinc 10 n, 3)) (hp : pc + 3 = pc') (hn : 10 < nL) (hq : ev_c1 a9 = true) (k : Ev l d own nm cc nL ret pc' (a0 :: a1 :: a2 :: a3 :: a4 :: a5 :: a6 :: a7 :: a8 :: a9 :: some (.int (iI (x + n))) :: r) st h v h') : Ev l d own nm cc nL ret pc (a0 :: a1 :: a2 :: a3 :: a4 :: a5 :: a6 :: a7 :: a8 :: a9 :: some (.int (iI x)) :: r) st h v h' := ev_iinc_10 (iI n) hd hp rfl hn hq (by rw [iI_add]; exact k)
theorem ev_iincI_11 {a0 a1 a2 a3 a4 a5 a6 a7 a8 a9 a10 : Option Value} {r : ev_L} {x : Int} {n : Int} (hd : decode cc pc = .ok (.iinc 11 n, 3)) (hp : pc + 3 = pc') (hn : 11 < nL) (hq : ev_c1 a10 = true) (k : Ev l d own nm cc nL ret pc' (a0 :: a1 :: a2 :: a3 :: a4 :: a5 :: a6 :: a7 :: a8 :: a9 :: a10 :: some (.int (iI (x + n))) :: r) st h v h') : Ev l d own nm cc nL ret pc (a0 :: a1 :: a2 :: a3 :: a4 :: a5 :: a6 :: a7 :: a8 :: a9 :: a10 :: some (.int (iI x)) :: r) st h v h' := ev_iinc_11 (iI n) hd hp rfl hn hq (by rw [iI_add]; exact k)
theorem ev_iincI_12 {a0 a1 a2 a3 a4 a5 a6 a7 a8 a9 a10 a11 : Option Value} {r : ev_L} {x : Int} {n : Int} (hd : decode cc pc = .ok (.iinc 12 n, 3)) (hp : pc + 3 = pc') (hn : 12 < nL) (hq : ev_c1 a11 = true) (k : Ev l d own nm cc nL ret pc' (a0 :: a1 :: a2 :: a3 :: a4 :: a5 :: a6 :: a7 :: a8 :: a9 :: a10 :: a11 :: some (.int (iI (x + n))) :: r) st h v h') : Ev l d own nm cc nL ret pc (a0 :: a1 :: a2 :: a3 :: a4 :: a5 :: a6 :: a7 :: a8 :: a9 :: a10 :: a11 :: some (.int (iI x)) :: r) st h v h' := ev_iinc_12 (iI n) hd hp rfl hn hq (by rw [iI_add]; exact k)
theorem ev_iincI_13 {a0 a1 a2 a3 a4 a5 a6 a7 a8 a9 a10 a11 a12 : Option Value} {r : ev_L} {x : Int} {n : Int} (hd : decode cc pc = .ok (.iinc 13 n, 3)) (hp : pc + 3 = pc') (hn : 13 < nL) (hq : ev_c1 a12 = true) (k : Ev l d own nm cc nL ret pc' (a0 :: a1 :: a2 :: a3 :: a4 :: a5 :: a6 :: a7 :: a8 :: a9 :: a10 :: a11 :: a12 :: some (.int (iI (x + n))) :: r) st h v h') : Ev l d own nm cc nL ret pc (a0 :: a1 :: a2 :: a3 :: a4 :: a5 :: a6 :: a7 :: a8 :: a9 :: a10 :: a11 :: a12 :: some (.int (iI x)) :: r) st h v h' := ev_iinc_13 (iI n) hd hp rfl hn hq (by rw [iI_add]; exact k)
theorem ev_ireI {x y : Int} (hd : decode cc pc = .ok (.ireturn, 1)) (hv : x = y) : Ev l d own nm cc nL (some .int) pc lc [.int (iI x)] h (some (.int (iI y))) h := ev_ireE hd (congrArg iI hv)
theorem ev_lreI {x y : Int} (hd : decode cc pc = .ok (.lreturn, 1)) (hv : x = y) : Ev l d own nm cc nL (some .long) pc lc [.long (jJ x)] h (some (.long (jJ y))) h := ev_lreE hd (congrArg jJ hv)
theorem ev_zreI {x : Int} {b : Bool} (hd : decode cc pc = .ok (.ireturn, 1)) (hv : iI x = b2i b) : Ev l d own nm cc nL (some .boolean) pc lc [.int (iI x)] h (some (.int (b2i b))) h := ev_zreE hd hv
theorem b2i_1 {P : Prop} {iP : Decidable P} (h : P) : iI 1 = b2i (decide P) := by rw [decide_eq_true h]; rfl
theorem b2i_n {P : Prop} {iP : Decidable P} (h : ¬ P) : iI 0 = b2i (decide P) := by rw [decide_eq_false h]; rfl
theorem b2i_cg {P Q : Prop} {iP : Decidable P} {iQ : Decidable Q} (h : P ↔ Q) : b2i (decide P) = b2i (decide Q) := by rw [decide_eq_decide.mpr h]
end EI
