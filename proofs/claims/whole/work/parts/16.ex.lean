/-- a method that writes: it returns, and what it leaves is as Post says -/
def Ex (l : Launch) (d : Nat) (own nm : String) (cc : ByteArray) (nL : Nat) (ret : Option FieldType) (pc : Nat) (lc : ev_L) (st : List Value) (h : ev_H) (Post : Option Value → ev_H → Prop) : Prop := ∃ v h', Ev l d own nm cc nL ret pc lc st h v h' ∧ Post v h'
section XX
variable {l : Launch} {d : Nat} {own nm : String} {cc : ByteArray} {nL : Nat} {ret : Option FieldType} {pc pc' : Nat} {lc lc' : ev_L} {st st' : List Value} {h h2 : ev_H} {v : Option Value} {Post : Option Value → ev_H → Prop}
theorem ex_of (f : ∀ v h', Ev l d own nm cc nL ret pc' lc' st' h2 v h' → Ev l d own nm cc nL ret pc lc st h v h') (k : Ex l d own nm cc nL ret pc' lc' st' h2 Post) : Ex l d own nm cc nL ret pc lc st h Post := by
  obtain ⟨v, h', E, p⟩ := k
  exact ⟨v, h', f v h' E, p⟩
theorem ex_end {v : Option Value} {h' : ev_H} (E : Ev l d own nm cc nL ret pc lc st h v h') (p : Post v h') : Ex l d own nm cc nL ret pc lc st h Post := ⟨v, h', E, p⟩
theorem Ex.mono {Post' : Option Value → ev_H → Prop} (k : Ex l d own nm cc nL ret pc lc st h Post) (hp : ∀ v h', Post v h' → Post' v h') : Ex l d own nm cc nL ret pc lc st h Post' := by
  obtain ⟨v, h', E, p⟩ := k
  exact ⟨v, h', E, hp v h' p⟩
theorem ex_ifI_eq {a : Int} {off : Int} {tgt : Nat} (hd : decode cc pc = .ok (.ifCond .eq off, 3)) (ht : (pc : Int) + off = (tgt : Int)) (hp : pc + 3 = pc') (ra : -2147483648 ≤ a ∧ a < 2147483648) (kt : a = 0 → Ex l d own nm cc nL ret tgt lc st h Post) (kf : ¬ a = 0 → Ex l d own nm cc nL ret pc' lc st h Post) : Ex l d own nm cc nL ret pc lc (.int (iI a) :: st) h Post := by
  by_cases hc : a = 0
  · exact ex_of (fun _ _ E => ev_ifI_eq hd ht hp ra (fun _ => E) (fun hn => absurd hc hn)) (kt hc)
  · exact ex_of (fun _ _ E => ev_ifI_eq hd ht hp ra (fun hn => absurd hn hc) (fun _ => E)) (kf hc)
theorem ex_icmpI_eq {a b : Int} {off : Int} {tgt : Nat} (hd : decode cc pc = .ok (.if_icmp .eq off, 3)) (ht : (pc : Int) + off = (tgt : Int)) (hp : pc + 3 = pc') (ra : -2147483648 ≤ a ∧ a < 2147483648) (rb : -2147483648 ≤ b ∧ b < 2147483648) (kt : a = b → Ex l d own nm cc nL ret tgt lc st h Post) (kf : ¬ a = b → Ex l d own nm cc nL ret pc' lc st h Post) : Ex l d own nm cc nL ret pc lc (.int (iI b) :: .int (iI a) :: st) h Post := by
  by_cases hc : a = b
  · exact ex_of (fun _ _ E => ev_icmpI_eq hd ht hp ra rb (fun _ => E) (fun hn => absurd hc hn)) (kt hc)
  · exact ex_of (fun _ _ E => ev_icmpI_eq hd ht hp ra rb (fun hn => absurd hn hc) (fun _ => E)) (kf hc)
theorem ex_lcmpI_eq {a b : Int} {off : Int} {tgt : Nat} (hd0 : decode cc pc = .ok (.lcmp, 1)) (hd : decode cc (pc + 1) = .ok (.ifCond .eq off, 3)) (ht : ((pc + 1 : Nat) : Int) + off = (tgt : Int)) (hp : pc + 1 + 3 = pc') (ra : -9223372036854775808 ≤ a ∧ a < 9223372036854775808) (rb : -9223372036854775808 ≤ b ∧ b < 9223372036854775808) (kt : a = b → Ex l d own nm cc nL ret tgt lc st h Post) (kf : ¬ a = b → Ex l d own nm cc nL ret pc' lc st h Post) : Ex l d own nm cc nL ret pc lc (.long (jJ b) :: .long (jJ a) :: st) h Post := by
  by_cases hc : a = b
  · exact ex_of (fun _ _ E => ev_lcmpI_eq hd0 hd ht hp ra rb (fun _ => E) (fun hn => absurd hc hn)) (kt hc)
  · exact ex_of (fun _ _ E => ev_lcmpI_eq hd0 hd ht hp ra rb (fun hn => absurd hn hc) (fun _ => E)) (kf hc)
theorem ex_ifI_ne {a : Int} {off : Int} {tgt : Nat} (hd : decode cc pc = .ok (.ifCond .ne off, 3)) (ht : (pc : Int) + off = (tgt : Int)) (hp : pc + 3 = pc') (ra : -2147483648 ≤ a ∧ a < 2147483648) (kt : ¬ a = 0 → Ex l d own nm cc nL ret tgt lc st h Post) (kf : a = 0 → Ex l d own nm cc nL ret pc' lc st h Post) : Ex l d own nm cc nL ret pc lc (.int (iI a) :: st) h Post := by
  by_cases hc : a = 0
  · exact ex_of (fun _ _ E => ev_ifI_ne hd ht hp ra (fun hn => absurd hc hn) (fun _ => E)) (kf hc)
  · exact ex_of (fun _ _ E => ev_ifI_ne hd ht hp ra (fun _ => E) (fun hn => absurd hn hc)) (kt hc)
theorem ex_icmpI_ne {a b : Int} {off : Int} {tgt : Nat} (hd : decode cc pc = .ok (.if_icmp .ne off, 3)) (ht : (pc : Int) + off = (tgt : Int)) (hp : pc + 3 = pc') (ra : -2147483648 ≤ a ∧ a < 2147483648) (rb : -2147483648 ≤ b ∧ b < 2147483648) (kt : ¬ a = b → Ex l d own nm cc nL ret tgt lc st h Post) (kf : a = b → Ex l d own nm cc nL ret pc' lc st h Post) : Ex l d own nm cc nL ret pc lc (.int (iI b) :: .int (iI a) :: st) h Post := by
  by_cases hc : a = b
  · exact ex_of (fun _ _ E => ev_icmpI_ne hd ht hp ra rb (fun hn => absurd hc hn) (fun _ => E)) (kf hc)
  · exact ex_of (fun _ _ E => ev_icmpI_ne hd ht hp ra rb (fun _ => E) (fun hn => absurd hn hc)) (kt hc)
theorem ex_lcmpI_ne {a b : Int} {off : Int} {tgt : Nat} (hd0 : decode cc pc = .ok (.lcmp, 1)) (hd : decode cc (pc + 1) = .ok (.ifCond .ne off, 3)) (ht : ((pc + 1 : Nat) : Int) + off = (tgt : Int)) (hp : pc + 1 + 3 = pc') (ra : -9223372036854775808 ≤ a ∧ a < 9223372036854775808) (rb : -9223372036854775808 ≤ b ∧ b < 9223372036854775808) (kt : ¬ a = b → Ex l d own nm cc nL ret tgt lc st h Post) (kf : a = b → Ex l d own nm cc nL ret pc' lc st h Post) : Ex l d own nm cc nL ret pc lc (.long (jJ b) :: .long (jJ a) :: st) h Post := by
  by_cases hc : a = b
  · exact ex_of (fun _ _ E => ev_lcmpI_ne hd0 hd ht hp ra rb (fun hn => absurd hc hn) (fun _ => E)) (kf hc)
  · exact ex_of (fun _ _ E => ev_lcmpI_ne hd0 hd ht hp ra rb (fun _ => E) (fun hn => absurd hn hc)) (kt hc)
theorem ex_ifI_lt {a : Int} {off : Int} {tgt : Nat} (hd : decode cc pc = .ok (.ifCond .lt off, 3)) (ht : (pc : Int) + off = (tgt : Int)) (hp : pc + 3 = pc') (ra : -2147483648 ≤ a ∧ a < 2147483648) (kt : a < 0 → Ex l d own nm cc nL ret tgt lc st h Post) (kf : ¬ a < 0 → Ex l d own nm cc nL ret pc' lc st h Post) : Ex l d own nm cc nL ret pc lc (.int (iI a) :: st) h Post := by
  by_cases hc : a < 0
  · exact ex_of (fun _ _ E => ev_ifI_lt hd ht hp ra (fun _ => E) (fun hn => absurd hc hn)) (kt hc)
  · exact ex_of (fun _ _ E => ev_ifI_lt hd ht hp ra (fun hn => absurd hn hc) (fun _ => E)) (kf hc)
theorem ex_icmpI_lt {a b : Int} {off : Int} {tgt : Nat} (hd : decode cc pc = .ok (.if_icmp .lt off, 3)) (ht : (pc : Int) + off = (tgt : Int)) (hp : pc + 3 = pc') (ra : -2147483648 ≤ a ∧ a < 2147483648) (rb : -2147483648 ≤ b ∧ b < 2147483648) (kt : a < b → Ex l d own nm cc nL ret tgt lc st h Post) (kf : ¬ a < b → Ex l d own nm cc nL ret pc' lc st h Post) : Ex l d own nm cc nL ret pc lc (.int (iI b) :: .int (iI a) :: st) h Post := by
  by_cases hc : a < b
  · exact ex_of (fun _ _ E => ev_icmpI_lt hd ht hp ra rb (fun _ => E) (fun hn => absurd hc hn)) (kt hc)
  · exact ex_of (fun _ _ E => ev_icmpI_lt hd ht hp ra rb (fun hn => absurd hn hc) (fun _ => E)) (kf hc)
theorem ex_lcmpI_lt {a b : Int} {off : Int} {tgt : Nat} (hd0 : decode cc pc = .ok (.lcmp, 1)) (hd : decode cc (pc + 1) = .ok (.ifCond .lt off, 3)) (ht : ((pc + 1 : Nat) : Int) + off = (tgt : Int)) (hp : pc + 1 + 3 = pc') (ra : -9223372036854775808 ≤ a ∧ a < 9223372036854775808) (rb : -9223372036854775808 ≤ b ∧ b < 9223372036854775808) (kt : a < b → Ex l d own nm cc nL ret tgt lc st h Post) (kf : ¬ a < b → Ex l d own nm cc nL ret pc' lc st h Post) : Ex l d own nm cc nL ret pc lc (.long (jJ b) :: .long (jJ a) :: st) h Post := by
  by_cases hc : a < b
  · exact ex_of (fun _ _ E => ev_lcmpI_lt hd0 hd ht hp ra rb (fun _ => E) (fun hn => absurd hc hn)) (kt hc)
  · exact ex_of (fun _ _ E => ev_lcmpI_lt hd0 hd ht hp ra rb (fun hn => absurd hn hc) (fun _ => E)) (kf hc)
theorem ex_ifI_ge {a : Int} {off : Int} {tgt : Nat} (hd : decode cc pc = .ok (.ifCond .ge off, 3)) (ht : (pc : Int) + off = (tgt : Int)) (hp : pc + 3 = pc') (ra : -2147483648 ≤ a ∧ a < 2147483648) (kt : 0 ≤ a → Ex l d own nm cc nL ret tgt lc st h Post) (kf : ¬ 0 ≤ a → Ex l d own nm cc nL ret pc' lc st h Post) : Ex l d own nm cc nL ret pc lc (.int (iI a) :: st) h Post := by
  by_cases hc : 0 ≤ a
  · exact ex_of (fun _ _ E => ev_ifI_ge hd ht hp ra (fun _ => E) (fun hn => absurd hc hn)) (kt hc)
  · exact ex_of (fun _ _ E => ev_ifI_ge hd ht hp ra (fun hn => absurd hn hc) (fun _ => E)) (kf hc)
theorem ex_icmpI_ge {a b : Int} {off : Int} {tgt : Nat} (hd : decode cc pc = .ok (.if_icmp .ge off, 3)) (ht : (pc : Int) + off = (tgt : Int)) (hp : pc + 3 = pc') (ra : -2147483648 ≤ a ∧ a < 2147483648) (rb : -2147483648 ≤ b ∧ b < 2147483648) (kt : b ≤ a → Ex l d own nm cc nL ret tgt lc st h Post) (kf : ¬ b ≤ a → Ex l d own nm cc nL ret pc' lc st h Post) : Ex l d own nm cc nL ret pc lc (.int (iI b) :: .int (iI a) :: st) h Post := by
  by_cases hc : b ≤ a
  · exact ex_of (fun _ _ E => ev_icmpI_ge hd ht hp ra rb (fun _ => E) (fun hn => absurd hc hn)) (kt hc)
  · exact ex_of (fun _ _ E => ev_icmpI_ge hd ht hp ra rb (fun hn => absurd hn hc) (fun _ => E)) (kf hc)
theorem ex_lcmpI_ge {a b : Int} {off : Int} {tgt : Nat} (hd0 : decode cc pc = .ok (.lcmp, 1)) (hd : decode cc (pc + 1) = .ok (.ifCond .ge off, 3)) (ht : ((pc + 1 : Nat) : Int) + off = (tgt : Int)) (hp : pc + 1 + 3 = pc') (ra : -9223372036854775808 ≤ a ∧ a < 9223372036854775808) (rb : -9223372036854775808 ≤ b ∧ b < 9223372036854775808) (kt : b ≤ a → Ex l d own nm cc nL ret tgt lc st h Post) (kf : ¬ b ≤ a → Ex l d own nm cc nL ret pc' lc st h Post) : Ex l d own nm cc nL ret pc lc (.long (jJ b) :: .long (jJ a) :: st) h Post := by
  by_cases hc : b ≤ a
  · exact ex_of (fun _ _ E => ev_lcmpI_ge hd0 hd ht hp ra rb (fun _ => E) (fun hn => absurd hc hn)) (kt hc)
  · exact ex_of (fun _ _ E => ev_lcmpI_ge hd0 hd ht hp ra rb (fun hn => absurd hn hc) (fun _ => E)) (kf hc)
theorem ex_ifI_gt {a : Int} {off : Int} {tgt : Nat} (hd : decode cc pc = .ok (.ifCond .gt off, 3)) (ht : (pc : Int) + off = (tgt : Int)) (hp : pc + 3 = pc') (ra : -2147483648 ≤ a ∧ a < 2147483648) (kt : 0 < a → Ex l d own nm cc nL ret tgt lc st h Post) (kf : ¬ 0 < a → Ex l d own nm cc nL ret pc' lc st h Post) : Ex l d own nm cc nL ret pc lc (.int (iI a) :: st) h Post := by
  by_cases hc : 0 < a
  · exact ex_of (fun _ _ E => ev_ifI_gt hd ht hp ra (fun _ => E) (fun hn => absurd hc hn)) (kt hc)
  · exact ex_of (fun _ _ E => ev_ifI_gt hd ht hp ra (fun hn => absurd hn hc) (fun _ => E)) (kf hc)
theorem ex_icmpI_gt {a b : Int} {off : Int} {tgt : Nat} (hd : decode cc pc = .ok (.if_icmp .gt off, 3)) (ht : (pc : Int) + off = (tgt : Int)) (hp : pc + 3 = pc') (ra : -2147483648 ≤ a ∧ a < 2147483648) (rb : -2147483648 ≤ b ∧ b < 2147483648) (kt : b < a → Ex l d own nm cc nL ret tgt lc st h Post) (kf : ¬ b < a → Ex l d own nm cc nL ret pc' lc st h Post) : Ex l d own nm cc nL ret pc lc (.int (iI b) :: .int (iI a) :: st) h Post := by
  by_cases hc : b < a
  · exact ex_of (fun _ _ E => ev_icmpI_gt hd ht hp ra rb (fun _ => E) (fun hn => absurd hc hn)) (kt hc)
  · exact ex_of (fun _ _ E => ev_icmpI_gt hd ht hp ra rb (fun hn => absurd hn hc) (fun _ => E)) (kf hc)
theorem ex_lcmpI_gt {a b : Int} {off : Int} {tgt : Nat} (hd0 : decode cc pc = .ok (.lcmp, 1)) (hd : decode cc (pc + 1) = .ok (.ifCond .gt off, 3)) (ht : ((pc + 1 : Nat) : Int) + off = (tgt : Int)) (hp : pc + 1 + 3 = pc') (ra : -9223372036854775808 ≤ a ∧ a < 9223372036854775808) (rb : -9223372036854775808 ≤ b ∧ b < 9223372036854775808) (kt : b < a → Ex l d own nm cc nL ret tgt lc st h Post) (kf : ¬ b < a → Ex l d own nm cc nL ret pc' lc st h Post) : Ex l d own nm cc nL ret pc lc (.long (jJ b) :: .long (jJ a) :: st) h Post := by
  by_cases hc : b < a
  · exact ex_of (fun _ _ E => ev_lcmpI_gt hd0 hd ht hp ra rb (fun _ => E) (fun hn => absurd hc hn)) (kt hc)
  · exact ex_of (fun _ _ E => ev_lcmpI_gt hd0 hd ht hp ra rb (fun hn => absurd hn hc) (fun _ => E)) (kf hc)
theorem ex_ifI_le {a : Int} {off : Int} {tgt : Nat} (hd : decode cc pc = .ok (.ifCond .le off, 3)) (ht : (pc : Int) + off = (tgt : Int)) (hp : pc + 3 = pc') (ra : -2147483648 ≤ a ∧ a < 2147483648) (kt : a ≤ 0 → Ex l d own nm cc nL ret tgt lc st h Post) (kf : ¬ a ≤ 0 → Ex l d own nm cc nL ret pc' lc st h Post) : Ex l d own nm cc nL ret pc lc (.int (iI a) :: st) h Post := by
  by_cases hc : a ≤ 0
  · exact ex_of (fun _ _ E => ev_ifI_le hd ht hp ra (fun _ => E) (fun hn => absurd hc hn)) (kt hc)
  · exact ex_of (fun _ _ E => ev_ifI_le hd ht hp ra (fun hn => absurd hn hc) (fun _ => E)) (kf hc)
theorem ex_icmpI_le {a b : Int} {off : Int} {tgt : Nat} (hd : decode cc pc = .ok (.if_icmp .le off, 3)) (ht : (pc : Int) + off = (tgt : Int)) (hp : pc + 3 = pc') (ra : -2147483648 ≤ a ∧ a < 2147483648) (rb : -2147483648 ≤ b ∧ b < 2147483648) (kt : a ≤ b → Ex l d own nm cc nL ret tgt lc st h Post) (kf : ¬ a ≤ b → Ex l d own nm cc nL ret pc' lc st h Post) : Ex l d own nm cc nL ret pc lc (.int (iI b) :: .int (iI a) :: st) h Post := by
  by_cases hc : a ≤ b
  · exact ex_of (fun _ _ E => ev_icmpI_le hd ht hp ra rb (fun _ => E) (fun hn => absurd hc hn)) (kt hc)
  · exact ex_of (fun _ _ E => ev_icmpI_le hd ht hp ra rb (fun hn => absurd hn hc) (fun _ => E)) (kf hc)
theorem ex_lcmpI_le {a b : Int} {off : Int} {tgt : Nat} (hd0 : decode cc pc = .ok (.lcmp, 1)) (hd : decode cc (pc + 1) = .ok (.ifCond .le off, 3)) (ht : ((pc + 1 : Nat) : Int) + off = (tgt : Int)) (hp : pc + 1 + 3 = pc') (ra : -9223372036854775808 ≤ a ∧ a < 9223372036854775808) (rb : -9223372036854775808 ≤ b ∧ b < 9223372036854775808) (kt : a ≤ b → Ex l d own nm cc nL ret tgt lc st h Post) (kf : ¬ a ≤ b → Ex l d own nm cc nL ret pc' lc st h Post) : Ex l d own nm cc nL ret pc lc (.long (jJ b) :: .long (jJ a) :: st) h Post := by
  by_cases hc : a ≤ b
  · exact ex_of (fun _ _ E => ev_lcmpI_le hd0 hd ht hp ra rb (fun _ => E) (fun hn => absurd hc hn)) (kt hc)
  · exact ex_of (fun _ _ E => ev_lcmpI_le hd0 hd ht hp ra rb (fun hn => absurd hn hc) (fun _ => E)) (kf hc)
theorem ex_ifd_eq {P : Prop} {iP : Decidable P} {off : Int} {tgt : Nat} (hd : decode cc pc = .ok (.ifCond .eq off, 3)) (ht : (pc : Int) + off = (tgt : Int)) (hp : pc + 3 = pc') (kt : ¬ P → Ex l d own nm cc nL ret tgt lc st h Post) (kf : P → Ex l d own nm cc nL ret pc' lc st h Post) : Ex l d own nm cc nL ret pc lc (.int (b2i (decide P)) :: st) h Post := by
  by_cases hc : P
  · exact ex_of (fun _ _ E => ev_ifd_eq hd ht hp (fun hn => absurd hc hn) (fun _ => E)) (kf hc)
  · exact ex_of (fun _ _ E => ev_ifd_eq hd ht hp (fun _ => E) (fun hn => absurd hn hc)) (kt hc)
theorem ex_ifd_ne {P : Prop} {iP : Decidable P} {off : Int} {tgt : Nat} (hd : decode cc pc = .ok (.ifCond .ne off, 3)) (ht : (pc : Int) + off = (tgt : Int)) (hp : pc + 3 = pc') (kt : P → Ex l d own nm cc nL ret tgt lc st h Post) (kf : ¬ P → Ex l d own nm cc nL ret pc' lc st h Post) : Ex l d own nm cc nL ret pc lc (.int (b2i (decide P)) :: st) h Post := by
  by_cases hc : P
  · exact ex_of (fun _ _ E => ev_ifd_ne hd ht hp (fun _ => E) (fun hn => absurd hc hn)) (kt hc)
  · exact ex_of (fun _ _ E => ev_ifd_ne hd ht hp (fun hn => absurd hn hc) (fun _ => E)) (kf hc)
end XX
/-! the reference object's cells: it is 34, its rows 35 .. 45 -/
abbrev mO (o : Nat → Int) : va_E := .inr (6, [.ref 35, .ref 36, .ref 37, .ref 38, .ref 39, .ref 40, .ref 41, .ref 42, .ref 43, .int (iI (o 9)), .int (iI (o 10)), .int (iI (o 11)), .int (iI (o 12)), .int (iI (o 13)), .int (iI (o 14)), .int (iI (o 15)), .int (iI (o 16)), .ref 44, .ref 45, .long (jJ (o 19)), .long (jJ (o 20)), .int (iI (o 21)), .int (iI (o 22))])
abbrev mA (n : Nat) (S : Int → Int) : va_E := .inl (0, n, .inl (arI S))
abbrev mZ (n : Nat) (S : Int → Int) : va_E := .inl (2, n, .inl (arI S))
def upN (o : Nat → Int) (k : Nat) (z : Int) : Nat → Int := fun j => if j = k then z else o j
def upA (A : Nat → Int → Int) (k : Nat) (S : Int → Int) : Nat → Int → Int := fun j => if j = k then S else A j
theorem upN_s (o : Nat → Int) (k : Nat) (z : Int) : upN o k z k = z := by simp [upN]
theorem upN_n {o : Nat → Int} {k j : Nat} {z : Int} (h : j ≠ k) : upN o k z j = o j := by simp [upN, h]
theorem upA_s (A : Nat → Int → Int) (k : Nat) (S : Int → Int) : upA A k S k = S := by simp [upA]
theorem upA_n {A : Nat → Int → Int} {k j : Nat} {S : Int → Int} (h : j ≠ k) : upA A k S j = A j := by simp [upA, h]
def MW (h : ev_H) (o : Nat → Int) (A : Nat → Int → Int) : Prop := h[34]? = some (mO o) ∧ h[35]? = some (mA 503 (A 0)) ∧ h[36]? = some (mA 503 (A 1)) ∧ h[37]? = some (mA 8 (A 2)) ∧ h[38]? = some (mA 8 (A 3)) ∧ h[39]? = some (mA 8 (A 4)) ∧ h[40]? = some (mA 800 (A 5)) ∧ h[41]? = some (mA 8 (A 6)) ∧ h[42]? = some (mA 360 (A 7)) ∧ h[43]? = some (mZ 8 (A 8)) ∧ h[44]? = some (mA 3 (A 9)) ∧ h[45]? = some (mA 503 (A 10))
theorem MW.o {h : ev_H} {o : Nat → Int} {A : Nat → Int → Int} (w : MW h o A) : h[34]? = some (mO o) := w.1
theorem MW.a0 {h : ev_H} {o : Nat → Int} {A : Nat → Int → Int} (w : MW h o A) : h[35]? = some (mA 503 (A 0)) := w.2.1
theorem MW.a1 {h : ev_H} {o : Nat → Int} {A : Nat → Int → Int} (w : MW h o A) : h[36]? = some (mA 503 (A 1)) := w.2.2.1
theorem MW.a2 {h : ev_H} {o : Nat → Int} {A : Nat → Int → Int} (w : MW h o A) : h[37]? = some (mA 8 (A 2)) := w.2.2.2.1
theorem MW.a3 {h : ev_H} {o : Nat → Int} {A : Nat → Int → Int} (w : MW h o A) : h[38]? = some (mA 8 (A 3)) := w.2.2.2.2.1
theorem MW.a4 {h : ev_H} {o : Nat → Int} {A : Nat → Int → Int} (w : MW h o A) : h[39]? = some (mA 8 (A 4)) := w.2.2.2.2.2.1
theorem MW.a5 {h : ev_H} {o : Nat → Int} {A : Nat → Int → Int} (w : MW h o A) : h[40]? = some (mA 800 (A 5)) := w.2.2.2.2.2.2.1
theorem MW.a6 {h : ev_H} {o : Nat → Int} {A : Nat → Int → Int} (w : MW h o A) : h[41]? = some (mA 8 (A 6)) := w.2.2.2.2.2.2.2.1
theorem MW.a7 {h : ev_H} {o : Nat → Int} {A : Nat → Int → Int} (w : MW h o A) : h[42]? = some (mA 360 (A 7)) := w.2.2.2.2.2.2.2.2.1
theorem MW.a8 {h : ev_H} {o : Nat → Int} {A : Nat → Int → Int} (w : MW h o A) : h[43]? = some (mZ 8 (A 8)) := w.2.2.2.2.2.2.2.2.2.1
theorem MW.a9 {h : ev_H} {o : Nat → Int} {A : Nat → Int → Int} (w : MW h o A) : h[44]? = some (mA 3 (A 9)) := w.2.2.2.2.2.2.2.2.2.2.1
theorem MW.a10 {h : ev_H} {o : Nat → Int} {A : Nat → Int → Int} (w : MW h o A) : h[45]? = some (mA 503 (A 10)) := w.2.2.2.2.2.2.2.2.2.2.2
/-- cells apart from the reference's stay -/
def FrM (h0 h : ev_H) : Prop := h.length = h0.length ∧ ∀ j, (j < 34 ∨ 46 ≤ j) → h[j]? = h0[j]?
theorem FrM.rf (h : ev_H) : FrM h h := ⟨rfl, fun _ _ => rfl⟩
theorem FrM.tr {h0 h1 h2 : ev_H} (a : FrM h0 h1) (b : FrM h1 h2) : FrM h0 h2 := ⟨b.1.trans a.1, fun j hj => (b.2 j hj).trans (a.2 j hj)⟩
theorem FrM.set (h : ev_H) {k : Nat} (hk : 34 ≤ k ∧ k < 46) (e : va_E) : FrM h (h.set k e) := ⟨List.length_set, fun j hj => List.getElem?_set_ne (by omega)⟩
theorem MW.p9 {h : ev_H} {o : Nat → Int} {A : Nat → Int → Int} (w : MW h o A) (z : Int) : MW (h.set 34 (mO (upN o 9 z))) (upN o 9 z) A := ⟨ev_gs w.1, ev_gn (by decide) w.a0, ev_gn (by decide) w.a1, ev_gn (by decide) w.a2, ev_gn (by decide) w.a3, ev_gn (by decide) w.a4, ev_gn (by decide) w.a5, ev_gn (by decide) w.a6, ev_gn (by decide) w.a7, ev_gn (by decide) w.a8, ev_gn (by decide) w.a9, ev_gn (by decide) w.a10⟩
theorem MW.p10 {h : ev_H} {o : Nat → Int} {A : Nat → Int → Int} (w : MW h o A) (z : Int) : MW (h.set 34 (mO (upN o 10 z))) (upN o 10 z) A := ⟨ev_gs w.1, ev_gn (by decide) w.a0, ev_gn (by decide) w.a1, ev_gn (by decide) w.a2, ev_gn (by decide) w.a3, ev_gn (by decide) w.a4, ev_gn (by decide) w.a5, ev_gn (by decide) w.a6, ev_gn (by decide) w.a7, ev_gn (by decide) w.a8, ev_gn (by decide) w.a9, ev_gn (by decide) w.a10⟩
theorem MW.p11 {h : ev_H} {o : Nat → Int} {A : Nat → Int → Int} (w : MW h o A) (z : Int) : MW (h.set 34 (mO (upN o 11 z))) (upN o 11 z) A := ⟨ev_gs w.1, ev_gn (by decide) w.a0, ev_gn (by decide) w.a1, ev_gn (by decide) w.a2, ev_gn (by decide) w.a3, ev_gn (by decide) w.a4, ev_gn (by decide) w.a5, ev_gn (by decide) w.a6, ev_gn (by decide) w.a7, ev_gn (by decide) w.a8, ev_gn (by decide) w.a9, ev_gn (by decide) w.a10⟩
theorem MW.p12 {h : ev_H} {o : Nat → Int} {A : Nat → Int → Int} (w : MW h o A) (z : Int) : MW (h.set 34 (mO (upN o 12 z))) (upN o 12 z) A := ⟨ev_gs w.1, ev_gn (by decide) w.a0, ev_gn (by decide) w.a1, ev_gn (by decide) w.a2, ev_gn (by decide) w.a3, ev_gn (by decide) w.a4, ev_gn (by decide) w.a5, ev_gn (by decide) w.a6, ev_gn (by decide) w.a7, ev_gn (by decide) w.a8, ev_gn (by decide) w.a9, ev_gn (by decide) w.a10⟩
theorem MW.p13 {h : ev_H} {o : Nat → Int} {A : Nat → Int → Int} (w : MW h o A) (z : Int) : MW (h.set 34 (mO (upN o 13 z))) (upN o 13 z) A := ⟨ev_gs w.1, ev_gn (by decide) w.a0, ev_gn (by decide) w.a1, ev_gn (by decide) w.a2, ev_gn (by decide) w.a3, ev_gn (by decide) w.a4, ev_gn (by decide) w.a5, ev_gn (by decide) w.a6, ev_gn (by decide) w.a7, ev_gn (by decide) w.a8, ev_gn (by decide) w.a9, ev_gn (by decide) w.a10⟩
theorem MW.p14 {h : ev_H} {o : Nat → Int} {A : Nat → Int → Int} (w : MW h o A) (z : Int) : MW (h.set 34 (mO (upN o 14 z))) (upN o 14 z) A := ⟨ev_gs w.1, ev_gn (by decide) w.a0, ev_gn (by decide) w.a1, ev_gn (by decide) w.a2, ev_gn (by decide) w.a3, ev_gn (by decide) w.a4, ev_gn (by decide) w.a5, ev_gn (by decide) w.a6, ev_gn (by decide) w.a7, ev_gn (by decide) w.a8, ev_gn (by decide) w.a9, ev_gn (by decide) w.a10⟩
theorem MW.p15 {h : ev_H} {o : Nat → Int} {A : Nat → Int → Int} (w : MW h o A) (z : Int) : MW (h.set 34 (mO (upN o 15 z))) (upN o 15 z) A := ⟨ev_gs w.1, ev_gn (by decide) w.a0, ev_gn (by decide) w.a1, ev_gn (by decide) w.a2, ev_gn (by decide) w.a3, ev_gn (by decide) w.a4, ev_gn (by decide) w.a5, ev_gn (by decide) w.a6, ev_gn (by decide) w.a7, ev_gn (by decide) w.a8, ev_gn (by decide) w.a9, ev_gn (by decide) w.a10⟩
theorem MW.p16 {h : ev_H} {o : Nat → Int} {A : Nat → Int → Int} (w : MW h o A) (z : Int) : MW (h.set 34 (mO (upN o 16 z))) (upN o 16 z) A := ⟨ev_gs w.1, ev_gn (by decide) w.a0, ev_gn (by decide) w.a1, ev_gn (by decide) w.a2, ev_gn (by decide) w.a3, ev_gn (by decide) w.a4, ev_gn (by decide) w.a5, ev_gn (by decide) w.a6, ev_gn (by decide) w.a7, ev_gn (by decide) w.a8, ev_gn (by decide) w.a9, ev_gn (by decide) w.a10⟩
theorem MW.p19 {h : ev_H} {o : Nat → Int} {A : Nat → Int → Int} (w : MW h o A) (z : Int) : MW (h.set 34 (mO (upN o 19 z))) (upN o 19 z) A := ⟨ev_gs w.1, ev_gn (by decide) w.a0, ev_gn (by decide) w.a1, ev_gn (by decide) w.a2, ev_gn (by decide) w.a3, ev_gn (by decide) w.a4, ev_gn (by decide) w.a5, ev_gn (by decide) w.a6, ev_gn (by decide) w.a7, ev_gn (by decide) w.a8, ev_gn (by decide) w.a9, ev_gn (by decide) w.a10⟩
theorem MW.p20 {h : ev_H} {o : Nat → Int} {A : Nat → Int → Int} (w : MW h o A) (z : Int) : MW (h.set 34 (mO (upN o 20 z))) (upN o 20 z) A := ⟨ev_gs w.1, ev_gn (by decide) w.a0, ev_gn (by decide) w.a1, ev_gn (by decide) w.a2, ev_gn (by decide) w.a3, ev_gn (by decide) w.a4, ev_gn (by decide) w.a5, ev_gn (by decide) w.a6, ev_gn (by decide) w.a7, ev_gn (by decide) w.a8, ev_gn (by decide) w.a9, ev_gn (by decide) w.a10⟩
theorem MW.p21 {h : ev_H} {o : Nat → Int} {A : Nat → Int → Int} (w : MW h o A) (z : Int) : MW (h.set 34 (mO (upN o 21 z))) (upN o 21 z) A := ⟨ev_gs w.1, ev_gn (by decide) w.a0, ev_gn (by decide) w.a1, ev_gn (by decide) w.a2, ev_gn (by decide) w.a3, ev_gn (by decide) w.a4, ev_gn (by decide) w.a5, ev_gn (by decide) w.a6, ev_gn (by decide) w.a7, ev_gn (by decide) w.a8, ev_gn (by decide) w.a9, ev_gn (by decide) w.a10⟩
theorem MW.p22 {h : ev_H} {o : Nat → Int} {A : Nat → Int → Int} (w : MW h o A) (z : Int) : MW (h.set 34 (mO (upN o 22 z))) (upN o 22 z) A := ⟨ev_gs w.1, ev_gn (by decide) w.a0, ev_gn (by decide) w.a1, ev_gn (by decide) w.a2, ev_gn (by decide) w.a3, ev_gn (by decide) w.a4, ev_gn (by decide) w.a5, ev_gn (by decide) w.a6, ev_gn (by decide) w.a7, ev_gn (by decide) w.a8, ev_gn (by decide) w.a9, ev_gn (by decide) w.a10⟩
theorem MW.q0 {h : ev_H} {o : Nat → Int} {A : Nat → Int → Int} (w : MW h o A) (S : Int → Int) : MW (h.set 35 (mA 503 S)) o (upA A 0 S) := ⟨ev_gn (by decide) w.o, ev_gs w.a0, ev_gn (by decide) w.a1, ev_gn (by decide) w.a2, ev_gn (by decide) w.a3, ev_gn (by decide) w.a4, ev_gn (by decide) w.a5, ev_gn (by decide) w.a6, ev_gn (by decide) w.a7, ev_gn (by decide) w.a8, ev_gn (by decide) w.a9, ev_gn (by decide) w.a10⟩
theorem MW.q1 {h : ev_H} {o : Nat → Int} {A : Nat → Int → Int} (w : MW h o A) (S : Int → Int) : MW (h.set 36 (mA 503 S)) o (upA A 1 S) := ⟨ev_gn (by decide) w.o, ev_gn (by decide) w.a0, ev_gs w.a1, ev_gn (by decide) w.a2, ev_gn (by decide) w.a3, ev_gn (by decide) w.a4, ev_gn (by decide) w.a5, ev_gn (by decide) w.a6, ev_gn (by decide) w.a7, ev_gn (by decide) w.a8, ev_gn (by decide) w.a9, ev_gn (by decide) w.a10⟩
theorem MW.q2 {h : ev_H} {o : Nat → Int} {A : Nat → Int → Int} (w : MW h o A) (S : Int → Int) : MW (h.set 37 (mA 8 S)) o (upA A 2 S) := ⟨ev_gn (by decide) w.o, ev_gn (by decide) w.a0, ev_gn (by decide) w.a1, ev_gs w.a2, ev_gn (by decide) w.a3, ev_gn (by decide) w.a4, ev_gn (by decide) w.a5, ev_gn (by decide) w.a6, ev_gn (by decide) w.a7, ev_gn (by decide) w.a8, ev_gn (by decide) w.a9, ev_gn (by decide) w.a10⟩
theorem MW.q3 {h : ev_H} {o : Nat → Int} {A : Nat → Int → Int} (w : MW h o A) (S : Int → Int) : MW (h.set 38 (mA 8 S)) o (upA A 3 S) := ⟨ev_gn (by decide) w.o, ev_gn (by decide) w.a0, ev_gn (by decide) w.a1, ev_gn (by decide) w.a2, ev_gs w.a3, ev_gn (by decide) w.a4, ev_gn (by decide) w.a5, ev_gn (by decide) w.a6, ev_gn (by decide) w.a7, ev_gn (by decide) w.a8, ev_gn (by decide) w.a9, ev_gn (by decide) w.a10⟩
theorem MW.q4 {h : ev_H} {o : Nat → Int} {A : Nat → Int → Int} (w : MW h o A) (S : Int → Int) : MW (h.set 39 (mA 8 S)) o (upA A 4 S) := ⟨ev_gn (by decide) w.o, ev_gn (by decide) w.a0, ev_gn (by decide) w.a1, ev_gn (by decide) w.a2, ev_gn (by decide) w.a3, ev_gs w.a4, ev_gn (by decide) w.a5, ev_gn (by decide) w.a6, ev_gn (by decide) w.a7, ev_gn (by decide) w.a8, ev_gn (by decide) w.a9, ev_gn (by decide) w.a10⟩
theorem MW.q5 {h : ev_H} {o : Nat → Int} {A : Nat → Int → Int} (w : MW h o A) (S : Int → Int) : MW (h.set 40 (mA 800 S)) o (upA A 5 S) := ⟨ev_gn (by decide) w.o, ev_gn (by decide) w.a0, ev_gn (by decide) w.a1, ev_gn (by decide) w.a2, ev_gn (by decide) w.a3, ev_gn (by decide) w.a4, ev_gs w.a5, ev_gn (by decide) w.a6, ev_gn (by decide) w.a7, ev_gn (by decide) w.a8, ev_gn (by decide) w.a9, ev_gn (by decide) w.a10⟩
theorem MW.q6 {h : ev_H} {o : Nat → Int} {A : Nat → Int → Int} (w : MW h o A) (S : Int → Int) : MW (h.set 41 (mA 8 S)) o (upA A 6 S) := ⟨ev_gn (by decide) w.o, ev_gn (by decide) w.a0, ev_gn (by decide) w.a1, ev_gn (by decide) w.a2, ev_gn (by decide) w.a3, ev_gn (by decide) w.a4, ev_gn (by decide) w.a5, ev_gs w.a6, ev_gn (by decide) w.a7, ev_gn (by decide) w.a8, ev_gn (by decide) w.a9, ev_gn (by decide) w.a10⟩
theorem MW.q7 {h : ev_H} {o : Nat → Int} {A : Nat → Int → Int} (w : MW h o A) (S : Int → Int) : MW (h.set 42 (mA 360 S)) o (upA A 7 S) := ⟨ev_gn (by decide) w.o, ev_gn (by decide) w.a0, ev_gn (by decide) w.a1, ev_gn (by decide) w.a2, ev_gn (by decide) w.a3, ev_gn (by decide) w.a4, ev_gn (by decide) w.a5, ev_gn (by decide) w.a6, ev_gs w.a7, ev_gn (by decide) w.a8, ev_gn (by decide) w.a9, ev_gn (by decide) w.a10⟩
theorem MW.q8 {h : ev_H} {o : Nat → Int} {A : Nat → Int → Int} (w : MW h o A) (S : Int → Int) : MW (h.set 43 (mZ 8 S)) o (upA A 8 S) := ⟨ev_gn (by decide) w.o, ev_gn (by decide) w.a0, ev_gn (by decide) w.a1, ev_gn (by decide) w.a2, ev_gn (by decide) w.a3, ev_gn (by decide) w.a4, ev_gn (by decide) w.a5, ev_gn (by decide) w.a6, ev_gn (by decide) w.a7, ev_gs w.a8, ev_gn (by decide) w.a9, ev_gn (by decide) w.a10⟩
theorem MW.q9 {h : ev_H} {o : Nat → Int} {A : Nat → Int → Int} (w : MW h o A) (S : Int → Int) : MW (h.set 44 (mA 3 S)) o (upA A 9 S) := ⟨ev_gn (by decide) w.o, ev_gn (by decide) w.a0, ev_gn (by decide) w.a1, ev_gn (by decide) w.a2, ev_gn (by decide) w.a3, ev_gn (by decide) w.a4, ev_gn (by decide) w.a5, ev_gn (by decide) w.a6, ev_gn (by decide) w.a7, ev_gn (by decide) w.a8, ev_gs w.a9, ev_gn (by decide) w.a10⟩
theorem MW.q10 {h : ev_H} {o : Nat → Int} {A : Nat → Int → Int} (w : MW h o A) (S : Int → Int) : MW (h.set 45 (mA 503 S)) o (upA A 10 S) := ⟨ev_gn (by decide) w.o, ev_gn (by decide) w.a0, ev_gn (by decide) w.a1, ev_gn (by decide) w.a2, ev_gn (by decide) w.a3, ev_gn (by decide) w.a4, ev_gn (by decide) w.a5, ev_gn (by decide) w.a6, ev_gn (by decide) w.a7, ev_gn (by decide) w.a8, ev_gn (by decide) w.a9, ev_gs w.a10⟩
section MP
variable {l : Launch} {d : Nat} {nm : String} {cc : ByteArray} {nL : Nat} {ret : Option FieldType} {pc pc' : Nat} {lc : ev_L} {st : List Value} {h h' : ev_H} {v : Option Value}
theorem mput_9 {o : Nat → Int} {A : Nat → Int → Int} {z : Int} (hd : decode cc pc = .ok (.putfield 238, 3)) (hp : pc + 3 = pc') (hw : MW h o A) (hz : z = 0 ∨ z = 1) (kk : Ev l d RX6 nm cc nL ret pc' lc st (h.set 34 (mO (upN o 9 z))) v h') : Ev l d RX6 nm cc nL ret pc lc (.int (iI z) :: .ref 34 :: st) h v h' :=
  ev_putfield (pX6_238 nm) hd hp hw.o (by rcases hz with rfl | rfl <;> rfl) (by rcases hz with rfl | rfl <;> rfl) (Nat.le_of_ble_eq_true rfl) kk
theorem mput_10 {o : Nat → Int} {A : Nat → Int → Int} {z : Int} (hd : decode cc pc = .ok (.putfield 44, 3)) (hp : pc + 3 = pc') (hw : MW h o A) (kk : Ev l d RX6 nm cc nL ret pc' lc st (h.set 34 (mO (upN o 10 z))) v h') : Ev l d RX6 nm cc nL ret pc lc (.int (iI z) :: .ref 34 :: st) h v h' :=
  ev_putfield (pX6_44 nm) hd hp hw.o rfl rfl (Nat.le_of_ble_eq_true rfl) kk
theorem mput_11 {o : Nat → Int} {A : Nat → Int → Int} {z : Int} (hd : decode cc pc = .ok (.putfield 56, 3)) (hp : pc + 3 = pc') (hw : MW h o A) (kk : Ev l d RX6 nm cc nL ret pc' lc st (h.set 34 (mO (upN o 11 z))) v h') : Ev l d RX6 nm cc nL ret pc lc (.int (iI z) :: .ref 34 :: st) h v h' :=
  ev_putfield (pX6_56 nm) hd hp hw.o rfl rfl (Nat.le_of_ble_eq_true rfl) kk
theorem mput_12 {o : Nat → Int} {A : Nat → Int → Int} {z : Int} (hd : decode cc pc = .ok (.putfield 62, 3)) (hp : pc + 3 = pc') (hw : MW h o A) (kk : Ev l d RX6 nm cc nL ret pc' lc st (h.set 34 (mO (upN o 12 z))) v h') : Ev l d RX6 nm cc nL ret pc lc (.int (iI z) :: .ref 34 :: st) h v h' :=
  ev_putfield (pX6_62 nm) hd hp hw.o rfl rfl (Nat.le_of_ble_eq_true rfl) kk
theorem mput_13 {o : Nat → Int} {A : Nat → Int → Int} {z : Int} (hd : decode cc pc = .ok (.putfield 59, 3)) (hp : pc + 3 = pc') (hw : MW h o A) (kk : Ev l d RX6 nm cc nL ret pc' lc st (h.set 34 (mO (upN o 13 z))) v h') : Ev l d RX6 nm cc nL ret pc lc (.int (iI z) :: .ref 34 :: st) h v h' :=
  ev_putfield (pX6_59 nm) hd hp hw.o rfl rfl (Nat.le_of_ble_eq_true rfl) kk
theorem mput_14 {o : Nat → Int} {A : Nat → Int → Int} {z : Int} (hd : decode cc pc = .ok (.putfield 73, 3)) (hp : pc + 3 = pc') (hw : MW h o A) (kk : Ev l d RX6 nm cc nL ret pc' lc st (h.set 34 (mO (upN o 14 z))) v h') : Ev l d RX6 nm cc nL ret pc lc (.int (iI z) :: .ref 34 :: st) h v h' :=
  ev_putfield (pX6_73 nm) hd hp hw.o rfl rfl (Nat.le_of_ble_eq_true rfl) kk
theorem mput_15 {o : Nat → Int} {A : Nat → Int → Int} {z : Int} (hd : decode cc pc = .ok (.putfield 76, 3)) (hp : pc + 3 = pc') (hw : MW h o A) (kk : Ev l d RX6 nm cc nL ret pc' lc st (h.set 34 (mO (upN o 15 z))) v h') : Ev l d RX6 nm cc nL ret pc lc (.int (iI z) :: .ref 34 :: st) h v h' :=
  ev_putfield (pX6_76 nm) hd hp hw.o rfl rfl (Nat.le_of_ble_eq_true rfl) kk
theorem mput_16 {o : Nat → Int} {A : Nat → Int → Int} {z : Int} (hd : decode cc pc = .ok (.putfield 79, 3)) (hp : pc + 3 = pc') (hw : MW h o A) (kk : Ev l d RX6 nm cc nL ret pc' lc st (h.set 34 (mO (upN o 16 z))) v h') : Ev l d RX6 nm cc nL ret pc lc (.int (iI z) :: .ref 34 :: st) h v h' :=
  ev_putfield (pX6_79 nm) hd hp hw.o rfl rfl (Nat.le_of_ble_eq_true rfl) kk
theorem mput_19 {o : Nat → Int} {A : Nat → Int → Int} {z : Int} (hd : decode cc pc = .ok (.putfield 165, 3)) (hp : pc + 3 = pc') (hw : MW h o A) (kk : Ev l d RX6 nm cc nL ret pc' lc st (h.set 34 (mO (upN o 19 z))) v h') : Ev l d RX6 nm cc nL ret pc lc (.long (jJ z) :: .ref 34 :: st) h v h' :=
  ev_putfield (pX6_165 nm) hd hp hw.o rfl rfl (Nat.le_of_ble_eq_true rfl) kk
theorem mput_20 {o : Nat → Int} {A : Nat → Int → Int} {z : Int} (hd : decode cc pc = .ok (.putfield 169, 3)) (hp : pc + 3 = pc') (hw : MW h o A) (kk : Ev l d RX6 nm cc nL ret pc' lc st (h.set 34 (mO (upN o 20 z))) v h') : Ev l d RX6 nm cc nL ret pc lc (.long (jJ z) :: .ref 34 :: st) h v h' :=
  ev_putfield (pX6_169 nm) hd hp hw.o rfl rfl (Nat.le_of_ble_eq_true rfl) kk
theorem mput_21 {o : Nat → Int} {A : Nat → Int → Int} {z : Int} (hd : decode cc pc = .ok (.putfield 172, 3)) (hp : pc + 3 = pc') (hw : MW h o A) (kk : Ev l d RX6 nm cc nL ret pc' lc st (h.set 34 (mO (upN o 21 z))) v h') : Ev l d RX6 nm cc nL ret pc lc (.int (iI z) :: .ref 34 :: st) h v h' :=
  ev_putfield (pX6_172 nm) hd hp hw.o rfl rfl (Nat.le_of_ble_eq_true rfl) kk
theorem mput_22 {o : Nat → Int} {A : Nat → Int → Int} {z : Int} (hd : decode cc pc = .ok (.putfield 175, 3)) (hp : pc + 3 = pc') (hw : MW h o A) (kk : Ev l d RX6 nm cc nL ret pc' lc st (h.set 34 (mO (upN o 22 z))) v h') : Ev l d RX6 nm cc nL ret pc lc (.int (iI z) :: .ref 34 :: st) h v h' :=
  ev_putfield (pX6_175 nm) hd hp hw.o rfl rfl (Nat.le_of_ble_eq_true rfl) kk
end MP
