section CV
variable {l : Launch} {dd : Nat} {own nm : String} {cc : ByteArray} {nL : Nat} {ret : Option FieldType} {pc pc' : Nat} {lc : ev_L} {st : List Value} {h h0 : ev_H} {Post : Option Value → ev_H → Prop}
/-- nothing but the reader has changed -/
def FrR (h0 h : ev_H) : Prop := h.length = h0.length ∧ ∀ j, j ≠ 17 → h[j]? = h0[j]?
theorem FrR.rf (h : ev_H) : FrR h h := ⟨rfl, fun _ _ => rfl⟩
theorem FrR.tr {h0 h1 h2 : ev_H} (a : FrR h0 h1) (b : FrR h1 h2) : FrR h0 h2 := ⟨b.1.trans a.1, fun j hj => (b.2 j hj).trans (a.2 j hj)⟩
theorem FrR.set (h : ev_H) (e : va_E) : FrR h (h.set 17 e) := ⟨List.length_set, fun j hj => List.getElem?_set_ne (Ne.symm hj)⟩
theorem SC.frR {h h2 : ev_H} {A : Nat → Int → Int} {w : Nat → Option Nat} (x : SC h A w) (fr : FrR h h2) : SC h2 A w := x.eq (fr.2 _ (by decide)) (fun j j1 j2 => fr.2 j (by omega))
theorem xrd_1 {idx : Nat} {tv : Value} {a1 a2 a3 a4 a5 a6 a7 a8 z : Int} (hf : ev_P own nm idx 0 1 .int) (hd : decode cc pc = .ok (.putfield idx, 3)) (hp : pc + 3 = pc') (hRd : h[17]? = some (cRd tv a1 a2 a3 a4 a5 a6 a7 a8)) (fr : FrR h0 h) (kk : ∀ h1, h1[17]? = some (cRd tv z a2 a3 a4 a5 a6 a7 a8) → FrR h0 h1 → Ex l dd own nm cc nL ret pc' lc st h1 Post) : Ex l dd own nm cc nL ret pc lc (.int (iI z) :: .ref 17 :: st) h Post :=
  ex_of (fun _ _ => ev_putfield hf hd hp hRd rfl rfl (Nat.le_of_ble_eq_true rfl)) (kk _ (ev_gs hRd) (fr.tr (FrR.set h _)))
theorem xrd_2 {idx : Nat} {tv : Value} {a1 a2 a3 a4 a5 a6 a7 a8 z : Int} (hf : ev_P own nm idx 0 2 .int) (hd : decode cc pc = .ok (.putfield idx, 3)) (hp : pc + 3 = pc') (hRd : h[17]? = some (cRd tv a1 a2 a3 a4 a5 a6 a7 a8)) (fr : FrR h0 h) (kk : ∀ h1, h1[17]? = some (cRd tv a1 z a3 a4 a5 a6 a7 a8) → FrR h0 h1 → Ex l dd own nm cc nL ret pc' lc st h1 Post) : Ex l dd own nm cc nL ret pc lc (.int (iI z) :: .ref 17 :: st) h Post :=
  ex_of (fun _ _ => ev_putfield hf hd hp hRd rfl rfl (Nat.le_of_ble_eq_true rfl)) (kk _ (ev_gs hRd) (fr.tr (FrR.set h _)))
theorem xrd_3 {idx : Nat} {tv : Value} {a1 a2 a3 a4 a5 a6 a7 a8 z : Int} (hf : ev_P own nm idx 0 3 .int) (hd : decode cc pc = .ok (.putfield idx, 3)) (hp : pc + 3 = pc') (hRd : h[17]? = some (cRd tv a1 a2 a3 a4 a5 a6 a7 a8)) (fr : FrR h0 h) (kk : ∀ h1, h1[17]? = some (cRd tv a1 a2 z a4 a5 a6 a7 a8) → FrR h0 h1 → Ex l dd own nm cc nL ret pc' lc st h1 Post) : Ex l dd own nm cc nL ret pc lc (.int (iI z) :: .ref 17 :: st) h Post :=
  ex_of (fun _ _ => ev_putfield hf hd hp hRd rfl rfl (Nat.le_of_ble_eq_true rfl)) (kk _ (ev_gs hRd) (fr.tr (FrR.set h _)))
theorem xrd_4 {idx : Nat} {tv : Value} {a1 a2 a3 a4 a5 a6 a7 a8 z : Int} (hf : ev_P own nm idx 0 4 .int) (hd : decode cc pc = .ok (.putfield idx, 3)) (hp : pc + 3 = pc') (hRd : h[17]? = some (cRd tv a1 a2 a3 a4 a5 a6 a7 a8)) (fr : FrR h0 h) (kk : ∀ h1, h1[17]? = some (cRd tv a1 a2 a3 z a5 a6 a7 a8) → FrR h0 h1 → Ex l dd own nm cc nL ret pc' lc st h1 Post) : Ex l dd own nm cc nL ret pc lc (.int (iI z) :: .ref 17 :: st) h Post :=
  ex_of (fun _ _ => ev_putfield hf hd hp hRd rfl rfl (Nat.le_of_ble_eq_true rfl)) (kk _ (ev_gs hRd) (fr.tr (FrR.set h _)))
theorem xrd_5 {idx : Nat} {tv : Value} {a1 a2 a3 a4 a5 a6 a7 a8 z : Int} (hf : ev_P own nm idx 0 5 .int) (hd : decode cc pc = .ok (.putfield idx, 3)) (hp : pc + 3 = pc') (hRd : h[17]? = some (cRd tv a1 a2 a3 a4 a5 a6 a7 a8)) (fr : FrR h0 h) (kk : ∀ h1, h1[17]? = some (cRd tv a1 a2 a3 a4 z a6 a7 a8) → FrR h0 h1 → Ex l dd own nm cc nL ret pc' lc st h1 Post) : Ex l dd own nm cc nL ret pc lc (.int (iI z) :: .ref 17 :: st) h Post :=
  ex_of (fun _ _ => ev_putfield hf hd hp hRd rfl rfl (Nat.le_of_ble_eq_true rfl)) (kk _ (ev_gs hRd) (fr.tr (FrR.set h _)))
theorem xrd_6 {idx : Nat} {tv : Value} {a1 a2 a3 a4 a5 a6 a7 a8 z : Int} (hf : ev_P own nm idx 0 6 .int) (hd : decode cc pc = .ok (.putfield idx, 3)) (hp : pc + 3 = pc') (hRd : h[17]? = some (cRd tv a1 a2 a3 a4 a5 a6 a7 a8)) (fr : FrR h0 h) (kk : ∀ h1, h1[17]? = some (cRd tv a1 a2 a3 a4 a5 z a7 a8) → FrR h0 h1 → Ex l dd own nm cc nL ret pc' lc st h1 Post) : Ex l dd own nm cc nL ret pc lc (.int (iI z) :: .ref 17 :: st) h Post :=
  ex_of (fun _ _ => ev_putfield hf hd hp hRd rfl rfl (Nat.le_of_ble_eq_true rfl)) (kk _ (ev_gs hRd) (fr.tr (FrR.set h _)))
theorem xrd_7 {idx : Nat} {tv : Value} {a1 a2 a3 a4 a5 a6 a7 a8 z : Int} (hf : ev_P own nm idx 0 7 .int) (hd : decode cc pc = .ok (.putfield idx, 3)) (hp : pc + 3 = pc') (hRd : h[17]? = some (cRd tv a1 a2 a3 a4 a5 a6 a7 a8)) (fr : FrR h0 h) (kk : ∀ h1, h1[17]? = some (cRd tv a1 a2 a3 a4 a5 a6 z a8) → FrR h0 h1 → Ex l dd own nm cc nL ret pc' lc st h1 Post) : Ex l dd own nm cc nL ret pc lc (.int (iI z) :: .ref 17 :: st) h Post :=
  ex_of (fun _ _ => ev_putfield hf hd hp hRd rfl rfl (Nat.le_of_ble_eq_true rfl)) (kk _ (ev_gs hRd) (fr.tr (FrR.set h _)))
theorem xrd_8 {idx : Nat} {tv : Value} {a1 a2 a3 a4 a5 a6 a7 a8 z : Int} (hf : ev_P own nm idx 0 8 .int) (hd : decode cc pc = .ok (.putfield idx, 3)) (hp : pc + 3 = pc') (hRd : h[17]? = some (cRd tv a1 a2 a3 a4 a5 a6 a7 a8)) (fr : FrR h0 h) (kk : ∀ h1, h1[17]? = some (cRd tv a1 a2 a3 a4 a5 a6 a7 z) → FrR h0 h1 → Ex l dd own nm cc nL ret pc' lc st h1 Post) : Ex l dd own nm cc nL ret pc lc (.int (iI z) :: .ref 17 :: st) h Post :=
  ex_of (fun _ _ => ev_putfield hf hd hp hRd rfl rfl (Nat.le_of_ble_eq_true rfl)) (kk _ (ev_gs hRd) (fr.tr (FrR.set h _)))
end CV
section CW1
variable {l : Launch} {h h0 : ev_H} {A : Nat → Int → Int} {w : Nat → Option Nat} {d : Nat} {p a2 a3 a4 a5 a6 a7 a8 : Int}
/-- the byte that comes, as the class has it -/
def nx (T : Int → Int) (n p : Int) : Int := if p < n then T p else -1
theorem nx_c {T : Int → Int} {n p : Int} : (nx T n p = chr T n p ∧ p < n) ∨ (nx T n p = -1 ∧ chr T n p = -1000) := by
  unfold nx chr
  by_cases c : p < n
  · rw [if_pos c, if_pos c]; exact Or.inl ⟨rfl, c⟩
  · rw [if_neg c, if_neg c]; exact Or.inr ⟨rfl, rfl⟩
theorem nx_b {A : Nat → Int → Int} {d : Nat} {p : Int} (hA : mSh A) (hd : d < 8) (hp : 0 ≤ p) : -2147483648 ≤ nx (txt A (100 * (d : Int))) (A 4 (d : Int)) p ∧ nx (txt A (100 * (d : Int))) (A 4 (d : Int)) p < 2147483648 := by
  obtain ⟨s1, s2, s3, s4, s5⟩ := hA.1 (d : Int) (by omega) (by omega)
  unfold nx txt
  split
  · exact hA.2 _ (by omega) (by omega)
  · omega
theorem e0_next (hS : SC h A w) (hA : mSh A) (hd : d < 8) (hk2 : A 2 (d : Int) = 2) (hp : 0 ≤ p ∧ p ≤ 300) (hRd : h[17]? = some (cRd (.ref (18 + 2 * d)) p a2 a3 a4 a5 a6 a7 a8)) : Ev l 1 yX0_next.cls yX0_next.name cX0_next 1 (some .int) 0 [some (.ref 17)] [] h (some (.int (iI (nx (txt A (100 * (d : Int))) (A 4 (d : Int)) p)))) h := by
  obtain ⟨el, hSh, ⟨hel, eel⟩, hw1, hw2⟩ := SC.op hS hd
  obtain ⟨s1, s2, s3, s4, s5⟩ := hA.1 (d : Int) (by omega) (by omega)
  refine ev_aload_n (pc' := 1) dX0_next_0 rfl rfl ?_
  refine ev_getfield (pc' := 4) fX0_9 dX0_next_1 rfl hRd rfl ?_
  refine ev_ifnull (pc' := 7) dX0_next_4 rfl ?_
  refine ev_aload_n (pc' := 8) dX0_next_7 rfl rfl ?_
  refine ev_getfield (pc' := 11) fX0_9 dX0_next_8 rfl hRd rfl ?_
  refine ev_aload_n (pc' := 12) dX0_next_11 rfl rfl ?_
  refine ev_getfield (pc' := 15) fX0_15 dX0_next_12 rfl hRd rfl ?_
  refine ev_callV1 (pc' := 18) kX0_45 mX1_hasElement dX0_next_15 rfl rfl (Nat.le_of_ble_eq_true rfl) (Nat.le_of_ble_eq_true rfl) (by decide) rfl hSh (e1_hasElement hS hA hd (by omega)) ?_
  refine ev_ifd_eq (pc' := 21) (tgt := 36) dX0_next_18 (by decide) rfl (fun c18 => ?_) (fun c18 => ?_)
  · refine ev_iconst (pc' := 37) (iI (-1)) dX0_next_36 rfl (by decide) ?_
    exact ev_ireI dX0_next_37 (by unfold nx txt; first | rw [if_pos (by omega)] | rw [if_neg (by omega)])
  · refine ev_aload_n (pc' := 22) dX0_next_21 rfl rfl ?_
    refine ev_getfield (pc' := 25) fX0_9 dX0_next_22 rfl hRd rfl ?_
    refine ev_getfield (pc' := 28) fX0_49 dX0_next_25 rfl hSh rfl ?_
    refine ev_aload_n (pc' := 29) dX0_next_28 rfl rfl ?_
    refine ev_getfield (pc' := 32) fX0_15 dX0_next_29 rfl hRd rfl ?_
    refine ev_ialoadI (pc' := 33) dX0_next_32 rfl hel (by decide) (by omega) ?_
    rw [eel _ (by omega) (by omega)]
    refine ev_goto (tgt := 37) dX0_next_33 (by decide) ?_
    exact ev_ireI dX0_next_37 (by unfold nx txt; first | rw [if_pos (by omega)] | rw [if_neg (by omega)])
theorem e0_isDigit {c : Int} (rc : -2147483648 ≤ c ∧ c < 2147483648) : Ev l 0 yX0_isDigit.cls yX0_isDigit.name cX0_isDigit 1 (some .boolean) 0 [some (.int (iI c))] [] h (some (.int (b2i (decide (48 ≤ c ∧ c ≤ 57))))) h := by
  refine ev_iload_n (pc' := 1) dX0_isDigit_0 rfl rfl ?_
  refine ev_bipush (pc' := 3) (iI (48)) dX0_isDigit_1 rfl (by decide) ?_
  refine ev_icmpI_lt (pc' := 6) (tgt := 16) dX0_isDigit_3 (by decide) rfl (by omega) (by omega) (fun c3 => ?_) (fun c3 => ?_)
  · refine ev_iconst (pc' := 17) (iI (0)) dX0_isDigit_16 rfl (by decide) ?_
    exact ev_zreI dX0_isDigit_17 (by first | exact b2i_1 (by omega) | exact b2i_n (by omega))
  · refine ev_iload_n (pc' := 7) dX0_isDigit_6 rfl rfl ?_
    refine ev_bipush (pc' := 9) (iI (57)) dX0_isDigit_7 rfl (by decide) ?_
    refine ev_icmpI_gt (pc' := 12) (tgt := 16) dX0_isDigit_9 (by decide) rfl (by omega) (by omega) (fun c9 => ?_) (fun c9 => ?_)
    · refine ev_iconst (pc' := 17) (iI (0)) dX0_isDigit_16 rfl (by decide) ?_
      exact ev_zreI dX0_isDigit_17 (by first | exact b2i_1 (by omega) | exact b2i_n (by omega))
    · refine ev_iconst (pc' := 13) (iI (1)) dX0_isDigit_12 rfl (by decide) ?_
      refine ev_goto (tgt := 17) dX0_isDigit_13 (by decide) ?_
      exact ev_zreI dX0_isDigit_17 (by first | exact b2i_1 (by omega) | exact b2i_n (by omega))
theorem e0_isAtEnd (hS : SC h A w) (hA : mSh A) (hd : d < 8) (hk2 : A 2 (d : Int) = 2) (hp : 0 ≤ p ∧ p ≤ 300) (hRd : h[17]? = some (cRd (.ref (18 + 2 * d)) p a2 a3 a4 a5 a6 a7 a8)) : Ev l 0 yX0_isAtEnd.cls yX0_isAtEnd.name cX0_isAtEnd 1 (some .boolean) 0 [some (.ref 17)] [] h (some (.int (b2i (decide ((A 4 (d : Int)) ≤ p))))) h := by
  obtain ⟨el, hSh, ⟨hel, eel⟩, hw1, hw2⟩ := SC.op hS hd
  obtain ⟨s1, s2, s3, s4, s5⟩ := hA.1 (d : Int) (by omega) (by omega)
  refine ev_aload_n (pc' := 1) dX0_isAtEnd_0 rfl rfl ?_
  refine ev_getfield (pc' := 4) fX0_9 dX0_isAtEnd_1 rfl hRd rfl ?_
  refine ev_ifnull (pc' := 7) dX0_isAtEnd_4 rfl ?_
  refine ev_aload_n (pc' := 8) dX0_isAtEnd_7 rfl rfl ?_
  refine ev_getfield (pc' := 11) fX0_15 dX0_isAtEnd_8 rfl hRd rfl ?_
  refine ev_aload_n (pc' := 12) dX0_isAtEnd_11 rfl rfl ?_
  refine ev_getfield (pc' := 15) fX0_9 dX0_isAtEnd_12 rfl hRd rfl ?_
  refine ev_getfield (pc' := 18) fX0_40 dX0_isAtEnd_15 rfl hSh rfl ?_
  refine ev_icmpI_lt (pc' := 21) (tgt := 25) dX0_isAtEnd_18 (by decide) rfl (by omega) (by omega) (fun c18 => ?_) (fun c18 => ?_)
  · refine ev_iconst (pc' := 26) (iI (0)) dX0_isAtEnd_25 rfl (by decide) ?_
    exact ev_zreI dX0_isAtEnd_26 (by first | exact b2i_1 (by omega) | exact b2i_n (by omega))
  · refine ev_iconst (pc' := 22) (iI (1)) dX0_isAtEnd_21 rfl (by decide) ?_
    refine ev_goto (tgt := 26) dX0_isAtEnd_22 (by decide) ?_
    exact ev_zreI dX0_isAtEnd_26 (by first | exact b2i_1 (by omega) | exact b2i_n (by omega))
theorem e0_pass {c : Int} (hS : SC h A w) (hA : mSh A) (hd : d < 8) (hk2 : A 2 (d : Int) = 2) (hp : 0 ≤ p ∧ p ≤ 300) (hRd : h[17]? = some (cRd (.ref (18 + 2 * d)) p a2 a3 a4 a5 a6 a7 a8)) (rc : 0 ≤ c ∧ c < 200) : Ex l 2 yX0_pass.cls yX0_pass.name cX0_pass 2 (some .boolean) 0 [some (.ref 17), some (.int (iI c))] [] h (fun v h2 => v = some (.int (b2i (decide (chr (txt A (100 * (d : Int))) (A 4 (d : Int)) p = c)))) ∧ FrR h h2 ∧ h2[17]? = some (cRd (.ref (18 + 2 * d)) (if chr (txt A (100 * (d : Int))) (A 4 (d : Int)) p = c then p + 1 else p) a2 a3 a4 a5 a6 a7 a8)) := by
  have fr := FrR.rf h
  have nb := nx_b (p := p) hA hd hp.1
  have nc := nx_c (T := (txt A (100 * (d : Int)))) (n := (A 4 (d : Int))) (p := p)
  refine ex_of (fun _ _ => ev_aload_n (pc' := 1) dX0_pass_0 rfl rfl) ?_
  refine ex_of (fun _ _ => ev_callV0 (pc' := 4) kX0_53 mX0_next dX0_pass_1 rfl rfl (Nat.le_of_ble_eq_true rfl) (Nat.le_of_ble_eq_true rfl) (by decide) rfl hRd (e0_next hS hA hd hk2 hp hRd)) ?_
  refine ex_of (fun _ _ => ev_iload_n (pc' := 5) dX0_pass_4 rfl rfl) ?_
  refine ex_icmpI_eq (pc' := 8) (tgt := 10) dX0_pass_5 (by decide) rfl (by omega) (by omega) (fun c5 => ?_) (fun c5 => ?_)
  · refine ex_of (fun _ _ => ev_aload_n (pc' := 11) dX0_pass_10 rfl rfl) ?_
    refine ex_of (fun _ _ => ev_dup (pc' := 12) dX0_pass_11 rfl rfl) ?_
    refine ex_of (fun _ _ => ev_getfield (pc' := 15) fX0_15 dX0_pass_12 rfl hRd rfl) ?_
    refine ex_of (fun _ _ => ev_iconst (pc' := 16) (iI (1)) dX0_pass_15 rfl (by decide)) ?_
    refine ex_of (fun _ _ => ev_iaddI (pc' := 17) dX0_pass_16 rfl) ?_
    refine xrd_1 (pc' := 20) (pX0_15 _) dX0_pass_17 rfl hRd fr (fun h hRd fr => ?_)
    refine ex_of (fun _ _ => ev_iconst (pc' := 21) (iI (1)) dX0_pass_20 rfl (by decide)) ?_
    exact ex_end (ev_iret dX0_pass_21 rfl) (⟨by rw [decide_eq_true (by omega)]; rfl, fr, by rw [if_pos (by omega)]; exact hRd⟩)
  · refine ex_of (fun _ _ => ev_iconst (pc' := 9) (iI (0)) dX0_pass_8 rfl (by decide)) ?_
    exact ex_end (ev_iret dX0_pass_9 rfl) (⟨by rw [decide_eq_false (by omega)]; rfl, fr, by rw [if_neg (by omega)]; exact hRd⟩)
theorem e0_rnL {h0 : ev_H} {r : Int × Int} (hS : SC h0 A w) (hA : mSh A) (hd : d < 8) (hk2 : A 2 (d : Int) = 2) : ∀ (c k : Nat) (v p : Int) (h : ev_H), k + c = 3 → rdL (txt A (100 * (d : Int))) (A 4 (d : Int)) c v p = r → FrR h0 h → h[17]? = some (cRd (.ref (18 + 2 * d)) p a2 a3 a4 a5 a6 a7 v) → (0 ≤ p ∧ p ≤ 250 + k) → (0 ≤ v ∧ v < 10 ^ k) → Ex l 2 yX0_readNumber.cls yX0_readNumber.name cX0_readNumber 2 (some .boolean) 35 [some (.ref 17), some (.int (iI (k : Int)))] [] h (fun v2 h2 => v2 = some (.int (b2i true)) ∧ FrR h0 h2 ∧ h2[17]? = some (cRd (.ref (18 + 2 * d)) r.2 a2 a3 a4 a5 a6 a7 r.1)) := by
  intro c
  induction c with
  | zero =>
    intro k v p h hk hr fr hRd hp hv
    subst hr
    refine ex_of (fun _ _ => ev_iload_n (pc' := 36) dX0_readNumber_35 rfl rfl) ?_
    refine ex_of (fun _ _ => ev_iconst (pc' := 37) (iI (3)) dX0_readNumber_36 rfl (by decide)) ?_
    refine ex_icmpI_ge (pc' := 40) (tgt := 92) dX0_readNumber_37 (by decide) rfl (by omega) (by omega) (fun c37 => ?_) (fun c37 => ?_)
    · refine ex_of (fun _ _ => ev_iconst (pc' := 93) (iI (1)) dX0_readNumber_92 rfl (by decide)) ?_
      exact ex_end (ev_iret dX0_readNumber_93 rfl) (⟨rfl, fr, hRd⟩)
    · omega
  | succ c ih =>
    intro k v p h hk hr fr hRd hp hv
    have k10 : (10 : Int) ^ k ≤ 100 := by
      rcases (show k = 0 ∨ k = 1 ∨ k = 2 by omega) with rfl | rfl | rfl <;> decide
    have k11 : (10 : Int) ^ (k + 1) = 10 * 10 ^ k := by rw [Int.pow_succ]; omega
    have nb := nx_b (p := p) hA hd hp.1
    have nc := nx_c (T := (txt A (100 * (d : Int)))) (n := (A 4 (d : Int))) (p := p)
    refine ex_of (fun _ _ => ev_iload_n (pc' := 36) dX0_readNumber_35 rfl rfl) ?_
    refine ex_of (fun _ _ => ev_iconst (pc' := 37) (iI (3)) dX0_readNumber_36 rfl (by decide)) ?_
    refine ex_icmpI_ge (pc' := 40) (tgt := 92) dX0_readNumber_37 (by decide) rfl (by omega) (by omega) (fun c37 => ?_) (fun c37 => ?_)
    · omega
    · refine ex_of (fun _ _ => ev_aload_n (pc' := 41) dX0_readNumber_40 rfl rfl) ?_
      refine ex_of (fun _ _ => ev_getfield (pc' := 44) fX0_37 dX0_readNumber_41 rfl hRd rfl) ?_
      refine ex_ifI_eq (pc' := 47) (tgt := 92) dX0_readNumber_44 (by decide) rfl (by omega) (fun c44 => ?_) (fun c44 => ?_)
      · refine ex_of (fun _ _ => ev_iconst (pc' := 93) (iI (1)) dX0_readNumber_92 rfl (by decide)) ?_
        exact ex_end (ev_iret dX0_readNumber_93 rfl) (⟨rfl, fr, by rw [← hr]; unfold rdL; rw [if_neg (by omega)]; exact hRd⟩)
      · refine ex_of (fun _ _ => ev_aload_n (pc' := 48) dX0_readNumber_47 rfl rfl) ?_
        refine ex_of (fun _ _ => ev_callV0 (pc' := 51) kX0_53 mX0_next dX0_readNumber_48 rfl rfl (Nat.le_of_ble_eq_true rfl) (Nat.le_of_ble_eq_true rfl) (by decide) rfl hRd (e0_next (hS.frR fr) hA hd hk2 (by omega) hRd)) ?_
        refine ex_of (fun _ _ => ev_callS1 (pc' := 54) kX0_70 mX0_isDigit dX0_readNumber_51 rfl rfl (Nat.le_of_ble_eq_true rfl) (Nat.le_of_ble_eq_true rfl) (by decide) (e0_isDigit (by omega))) ?_
        refine ex_ifd_eq (pc' := 57) (tgt := 92) dX0_readNumber_54 (by decide) rfl (fun c54 => ?_) (fun c54 => ?_)
        · refine ex_of (fun _ _ => ev_iconst (pc' := 93) (iI (1)) dX0_readNumber_92 rfl (by decide)) ?_
          exact ex_end (ev_iret dX0_readNumber_93 rfl) (⟨rfl, fr, by rw [← hr]; unfold rdL; rw [if_neg (by omega)]; exact hRd⟩)
        · refine ex_of (fun _ _ => ev_aload_n (pc' := 58) dX0_readNumber_57 rfl rfl) ?_
          refine ex_of (fun _ _ => ev_bipush (pc' := 60) (iI (10)) dX0_readNumber_58 rfl (by decide)) ?_
          refine ex_of (fun _ _ => ev_aload_n (pc' := 61) dX0_readNumber_60 rfl rfl) ?_
          refine ex_of (fun _ _ => ev_getfield (pc' := 64) fX0_37 dX0_readNumber_61 rfl hRd rfl) ?_
          refine ex_of (fun _ _ => ev_imulI (pc' := 65) dX0_readNumber_64 rfl) ?_
          refine ex_of (fun _ _ => ev_aload_n (pc' := 66) dX0_readNumber_65 rfl rfl) ?_
          refine ex_of (fun _ _ => ev_callV0 (pc' := 69) kX0_53 mX0_next dX0_readNumber_66 rfl rfl (Nat.le_of_ble_eq_true rfl) (Nat.le_of_ble_eq_true rfl) (by decide) rfl hRd (e0_next (hS.frR fr) hA hd hk2 (by omega) hRd)) ?_
          refine ex_of (fun _ _ => ev_iaddI (pc' := 70) dX0_readNumber_69 rfl) ?_
          refine ex_of (fun _ _ => ev_bipush (pc' := 72) (iI (48)) dX0_readNumber_70 rfl (by decide)) ?_
          refine ex_of (fun _ _ => ev_isubI (pc' := 73) dX0_readNumber_72 rfl) ?_
          refine xrd_8 (pc' := 76) (pX0_37 _) dX0_readNumber_73 rfl hRd fr (fun h hRd fr => ?_)
          refine ex_of (fun _ _ => ev_aload_n (pc' := 77) dX0_readNumber_76 rfl rfl) ?_
          refine ex_of (fun _ _ => ev_dup (pc' := 78) dX0_readNumber_77 rfl rfl) ?_
          refine ex_of (fun _ _ => ev_getfield (pc' := 81) fX0_15 dX0_readNumber_78 rfl hRd rfl) ?_
          refine ex_of (fun _ _ => ev_iconst (pc' := 82) (iI (1)) dX0_readNumber_81 rfl (by decide)) ?_
          refine ex_of (fun _ _ => ev_iaddI (pc' := 83) dX0_readNumber_82 rfl) ?_
          refine xrd_1 (pc' := 86) (pX0_15 _) dX0_readNumber_83 rfl hRd fr (fun h hRd fr => ?_)
          refine ex_of (fun _ _ => ev_iincI_1 (pc' := 89) dX0_readNumber_86 rfl (by decide) rfl) ?_
          refine ex_of (fun _ _ => ev_goto (tgt := 35) dX0_readNumber_89 (by decide)) ?_
          have hr2 : rdL (txt A (100 * (d : Int))) (A 4 (d : Int)) c (10 * v + nx (txt A (100 * (d : Int))) (A 4 (d : Int)) p - 48) (p + 1) = r := by
            rw [← hr]
            conv => rhs; unfold rdL
            rw [if_pos (by omega), show nx (txt A (100 * (d : Int))) (A 4 (d : Int)) p = chr (txt A (100 * (d : Int))) (A 4 (d : Int)) p by omega]
          exact ih (k + 1) _ _ _ (by omega) hr2 fr hRd (by omega) (by omega)
theorem e0_readNumber (hS : SC h A w) (hA : mSh A) (hd : d < 8) (hk2 : A 2 (d : Int) = 2) (hp : 0 ≤ p ∧ p ≤ 300) (hRd : h[17]? = some (cRd (.ref (18 + 2 * d)) p a2 a3 a4 a5 a6 a7 a8)) : Ex l 2 yX0_readNumber.cls yX0_readNumber.name cX0_readNumber 2 (some .boolean) 0 [some (.ref 17), none] [] h (fun v h2 => v = some (.int (b2i (decide (48 ≤ chr (txt A (100 * (d : Int))) (A 4 (d : Int)) p ∧ chr (txt A (100 * (d : Int))) (A 4 (d : Int)) p ≤ 57)))) ∧ FrR h h2 ∧ ∃ nu, h2[17]? = some (cRd (.ref (18 + 2 * d)) (if (48 ≤ chr (txt A (100 * (d : Int))) (A 4 (d : Int)) p ∧ chr (txt A (100 * (d : Int))) (A 4 (d : Int)) p ≤ 57) then rdP (txt A (100 * (d : Int))) (A 4 (d : Int)) p else p) a2 a3 a4 a5 a6 a7 nu) ∧ ((48 ≤ chr (txt A (100 * (d : Int))) (A 4 (d : Int)) p ∧ chr (txt A (100 * (d : Int))) (A 4 (d : Int)) p ≤ 57) → nu = rdV (txt A (100 * (d : Int))) (A 4 (d : Int)) p)) := by
  obtain ⟨s1, s2, s3, s4, s5⟩ := hA.1 (d : Int) (by omega) (by omega)
  have fr := FrR.rf h
  have nb := nx_b (p := p) hA hd hp.1
  have nc := nx_c (T := (txt A (100 * (d : Int)))) (n := (A 4 (d : Int))) (p := p)
  refine ex_of (fun _ _ => ev_aload_n (pc' := 1) dX0_readNumber_0 rfl rfl) ?_
  refine ex_of (fun _ _ => ev_callV0 (pc' := 4) kX0_53 mX0_next dX0_readNumber_1 rfl rfl (Nat.le_of_ble_eq_true rfl) (Nat.le_of_ble_eq_true rfl) (by decide) rfl hRd (e0_next (hS.frR fr) hA hd hk2 (by omega) hRd)) ?_
  refine ex_of (fun _ _ => ev_callS1 (pc' := 7) kX0_70 mX0_isDigit dX0_readNumber_4 rfl rfl (Nat.le_of_ble_eq_true rfl) (Nat.le_of_ble_eq_true rfl) (by decide) (e0_isDigit (by omega))) ?_
  refine ex_ifd_ne (pc' := 10) (tgt := 12) dX0_readNumber_7 (by decide) rfl (fun c7 => ?_) (fun c7 => ?_)
  · refine ex_of (fun _ _ => ev_aload_n (pc' := 13) dX0_readNumber_12 rfl rfl) ?_
    refine ex_of (fun _ _ => ev_aload_n (pc' := 14) dX0_readNumber_13 rfl rfl) ?_
    refine ex_of (fun _ _ => ev_callV0 (pc' := 17) kX0_53 mX0_next dX0_readNumber_14 rfl rfl (Nat.le_of_ble_eq_true rfl) (Nat.le_of_ble_eq_true rfl) (by decide) rfl hRd (e0_next (hS.frR fr) hA hd hk2 (by omega) hRd)) ?_
    refine ex_of (fun _ _ => ev_bipush (pc' := 19) (iI (48)) dX0_readNumber_17 rfl (by decide)) ?_
    refine ex_of (fun _ _ => ev_isubI (pc' := 20) dX0_readNumber_19 rfl) ?_
    refine xrd_8 (pc' := 23) (pX0_37 _) dX0_readNumber_20 rfl hRd fr (fun h hRd fr => ?_)
    refine ex_of (fun _ _ => ev_aload_n (pc' := 24) dX0_readNumber_23 rfl rfl) ?_
    refine ex_of (fun _ _ => ev_dup (pc' := 25) dX0_readNumber_24 rfl rfl) ?_
    refine ex_of (fun _ _ => ev_getfield (pc' := 28) fX0_15 dX0_readNumber_25 rfl hRd rfl) ?_
    refine ex_of (fun _ _ => ev_iconst (pc' := 29) (iI (1)) dX0_readNumber_28 rfl (by decide)) ?_
    refine ex_of (fun _ _ => ev_iaddI (pc' := 30) dX0_readNumber_29 rfl) ?_
    refine xrd_1 (pc' := 33) (pX0_15 _) dX0_readNumber_30 rfl hRd fr (fun h hRd fr => ?_)
    refine ex_of (fun _ _ => ev_iconst (pc' := 34) (iI (1)) dX0_readNumber_33 rfl (by decide)) ?_
    refine ex_of (fun _ _ => ev_istore_1 (pc' := 35) dX0_readNumber_34 rfl (by decide) rfl) ?_
    rw [show nx (txt A (100 * (d : Int))) (A 4 (d : Int)) p = chr (txt A (100 * (d : Int))) (A 4 (d : Int)) p by omega] at hRd
    refine Ex.mono (e0_rnL (l := l) hS hA hd hk2 2 1 _ _ _ (by omega) rfl fr hRd (by omega) (by omega)) (fun v h2 q => ?_)
    obtain ⟨q1, q2, q3⟩ := q
    exact ⟨by rw [q1, decide_eq_true (by omega)], q2, _, by rw [if_pos (by omega)]; exact q3, fun _ => rfl⟩
  · refine ex_of (fun _ _ => ev_iconst (pc' := 11) (iI (0)) dX0_readNumber_10 rfl (by decide)) ?_
    exact ex_end (ev_iret dX0_readNumber_11 rfl) (⟨by rw [decide_eq_false (by omega)]; rfl, fr, _, by rw [if_neg (by omega)]; exact hRd, fun q => absurd q (by omega)⟩)
theorem e0_readTwoMore {f1 f2 f3 : Int} (hS : SC h A w) (hA : mSh A) (hd : d < 8) (hk2 : A 2 (d : Int) = 2) (hb : 0 ≤ (st0 (txt A (100 * (d : Int))) (A 4 (d : Int)) p) ∧ (st0 (txt A (100 * (d : Int))) (A 4 (d : Int)) p) ≤ 200) (hRd : h[17]? = some (cRd (.ref (18 + 2 * d)) (st0 (txt A (100 * (d : Int))) (A 4 (d : Int)) p) a2 a3 f1 f2 f3 a7 a8)) : Ex l 3 yX0_readTwoMore.cls yX0_readTwoMore.name cX0_readTwoMore 1 (some .boolean) 0 [some (.ref 17)] [] h (fun v h2 => v = some (.int (b2i (decide (chr (txt A (100 * (d : Int))) (A 4 (d : Int)) (st0 (txt A (100 * (d : Int))) (A 4 (d : Int)) p) = 32 ∧ (48 ≤ chr (txt A (100 * (d : Int))) (A 4 (d : Int)) ((st0 (txt A (100 * (d : Int))) (A 4 (d : Int)) p) + 1) ∧ chr (txt A (100 * (d : Int))) (A 4 (d : Int)) ((st0 (txt A (100 * (d : Int))) (A 4 (d : Int)) p) + 1) ≤ 57) ∧ chr (txt A (100 * (d : Int))) (A 4 (d : Int)) (st1 (txt A (100 * (d : Int))) (A 4 (d : Int)) p) = 32 ∧ (48 ≤ chr (txt A (100 * (d : Int))) (A 4 (d : Int)) ((st1 (txt A (100 * (d : Int))) (A 4 (d : Int)) p) + 1) ∧ chr (txt A (100 * (d : Int))) (A 4 (d : Int)) ((st1 (txt A (100 * (d : Int))) (A 4 (d : Int)) p) + 1) ≤ 57))))) ∧ FrR h h2 ∧ ∃ g2 g3 nu, h2[17]? = some (cRd (.ref (18 + 2 * d)) (if chr (txt A (100 * (d : Int))) (A 4 (d : Int)) (st0 (txt A (100 * (d : Int))) (A 4 (d : Int)) p) ≠ 32 then (st0 (txt A (100 * (d : Int))) (A 4 (d : Int)) p) else if ¬ (48 ≤ chr (txt A (100 * (d : Int))) (A 4 (d : Int)) ((st0 (txt A (100 * (d : Int))) (A 4 (d : Int)) p) + 1) ∧ chr (txt A (100 * (d : Int))) (A 4 (d : Int)) ((st0 (txt A (100 * (d : Int))) (A 4 (d : Int)) p) + 1) ≤ 57) then (st0 (txt A (100 * (d : Int))) (A 4 (d : Int)) p) + 1 else if chr (txt A (100 * (d : Int))) (A 4 (d : Int)) (st1 (txt A (100 * (d : Int))) (A 4 (d : Int)) p) ≠ 32 then (st1 (txt A (100 * (d : Int))) (A 4 (d : Int)) p) else if ¬ (48 ≤ chr (txt A (100 * (d : Int))) (A 4 (d : Int)) ((st1 (txt A (100 * (d : Int))) (A 4 (d : Int)) p) + 1) ∧ chr (txt A (100 * (d : Int))) (A 4 (d : Int)) ((st1 (txt A (100 * (d : Int))) (A 4 (d : Int)) p) + 1) ≤ 57) then (st1 (txt A (100 * (d : Int))) (A 4 (d : Int)) p) + 1 else (st2 (txt A (100 * (d : Int))) (A 4 (d : Int)) p)) a2 a3 f1 g2 g3 a7 nu) ∧ ((chr (txt A (100 * (d : Int))) (A 4 (d : Int)) (st0 (txt A (100 * (d : Int))) (A 4 (d : Int)) p) = 32 ∧ (48 ≤ chr (txt A (100 * (d : Int))) (A 4 (d : Int)) ((st0 (txt A (100 * (d : Int))) (A 4 (d : Int)) p) + 1) ∧ chr (txt A (100 * (d : Int))) (A 4 (d : Int)) ((st0 (txt A (100 * (d : Int))) (A 4 (d : Int)) p) + 1) ≤ 57) ∧ chr (txt A (100 * (d : Int))) (A 4 (d : Int)) (st1 (txt A (100 * (d : Int))) (A 4 (d : Int)) p) = 32 ∧ (48 ≤ chr (txt A (100 * (d : Int))) (A 4 (d : Int)) ((st1 (txt A (100 * (d : Int))) (A 4 (d : Int)) p) + 1) ∧ chr (txt A (100 * (d : Int))) (A 4 (d : Int)) ((st1 (txt A (100 * (d : Int))) (A 4 (d : Int)) p) + 1) ≤ 57)) → g2 = rdV (txt A (100 * (d : Int))) (A 4 (d : Int)) ((st0 (txt A (100 * (d : Int))) (A 4 (d : Int)) p) + 1) ∧ g3 = rdV (txt A (100 * (d : Int))) (A 4 (d : Int)) ((st1 (txt A (100 * (d : Int))) (A 4 (d : Int)) p) + 1))) := by
  have fr := FrR.rf h
  obtain ⟨z1, z2, z3, z4, z5⟩ := hA.1 (d : Int) (by omega) (by omega)
  refine ex_of (fun _ _ => ev_aload_n (pc' := 1) dX0_readTwoMore_0 rfl rfl) ?_
  refine ex_of (fun _ _ => ev_bipush (pc' := 3) (iI (32)) dX0_readTwoMore_1 rfl (by decide)) ?_
  have hO := hRd
  obtain ⟨w1, h1, E1, rfl, fr1, hRd⟩ := e0_pass (l := l) (c := 32) (hS.frR fr) hA hd hk2 (p := (st0 (txt A (100 * (d : Int))) (A 4 (d : Int)) p)) (by omega) hRd (by omega)
  refine ex_of (fun _ _ => ev_callV1 (pc' := 6) kX0_67 mX0_pass dX0_readTwoMore_3 rfl rfl (Nat.le_of_ble_eq_true rfl) (Nat.le_of_ble_eq_true rfl) (by decide) rfl hO E1) ?_
  have fr := fr.tr fr1
  refine ex_ifd_eq (pc' := 9) (tgt := 16) dX0_readTwoMore_6 (by decide) rfl (fun c6 => ?_) (fun c6 => ?_)
  · rw [if_neg c6] at hRd
    refine ex_of (fun _ _ => ev_iconst (pc' := 17) (iI (0)) dX0_readTwoMore_16 rfl (by decide)) ?_
    exact ex_end (ev_iret dX0_readTwoMore_17 rfl) (⟨by rw [decide_eq_false (by omega)]; rfl, fr, _, _, _, by (repeat (first | rw [if_pos (by omega)] | rw [if_neg (by omega)])); exact hRd, fun q => absurd q (by omega)⟩)
  · rw [if_pos c6] at hRd
    refine ex_of (fun _ _ => ev_aload_n (pc' := 10) dX0_readTwoMore_9 rfl rfl) ?_
    have hO := hRd
    obtain ⟨w1, h1, E1, rfl, fr2, nu2, hRd, en2⟩ := e0_readNumber (l := l) (hS.frR fr) hA hd hk2 (p := (st0 (txt A (100 * (d : Int))) (A 4 (d : Int)) p) + 1) (by omega) hRd
    refine ex_of (fun _ _ => ev_callV0 (pc' := 13) kX0_57 mX0_readNumber dX0_readTwoMore_10 rfl rfl (Nat.le_of_ble_eq_true rfl) (Nat.le_of_ble_eq_true rfl) (by decide) rfl hO E1) ?_
    have fr := fr.tr fr2
    refine ex_ifd_ne (pc' := 16) (tgt := 18) dX0_readTwoMore_13 (by decide) rfl (fun c13 => ?_) (fun c13 => ?_)
    · rw [if_pos c13] at hRd
      have b3 := rd_b c13
      have e3 : rdP (txt A (100 * (d : Int))) (A 4 (d : Int)) ((st0 (txt A (100 * (d : Int))) (A 4 (d : Int)) p) + 1) = (st1 (txt A (100 * (d : Int))) (A 4 (d : Int)) p) := rfl
      rw [e3] at b3 hRd
      have v3 := en2 c13
      refine ex_of (fun _ _ => ev_aload_n (pc' := 19) dX0_readTwoMore_18 rfl rfl) ?_
      refine ex_of (fun _ _ => ev_aload_n (pc' := 20) dX0_readTwoMore_19 rfl rfl) ?_
      refine ex_of (fun _ _ => ev_getfield (pc' := 23) fX0_37 dX0_readTwoMore_20 rfl hRd rfl) ?_
      refine xrd_5 (pc' := 26) (pX0_28 _) dX0_readTwoMore_23 rfl hRd fr (fun h hRd fr => ?_)
      refine ex_of (fun _ _ => ev_aload_n (pc' := 27) dX0_readTwoMore_26 rfl rfl) ?_
      refine ex_of (fun _ _ => ev_bipush (pc' := 29) (iI (32)) dX0_readTwoMore_27 rfl (by decide)) ?_
      have hO := hRd
      obtain ⟨w1, h1, E1, rfl, fr3, hRd⟩ := e0_pass (l := l) (c := 32) (hS.frR fr) hA hd hk2 (p := (st1 (txt A (100 * (d : Int))) (A 4 (d : Int)) p)) (by omega) hRd (by omega)
      refine ex_of (fun _ _ => ev_callV1 (pc' := 32) kX0_67 mX0_pass dX0_readTwoMore_29 rfl rfl (Nat.le_of_ble_eq_true rfl) (Nat.le_of_ble_eq_true rfl) (by decide) rfl hO E1) ?_
      have fr := fr.tr fr3
      refine ex_ifd_eq (pc' := 35) (tgt := 42) dX0_readTwoMore_32 (by decide) rfl (fun c32 => ?_) (fun c32 => ?_)
      · rw [if_neg c32] at hRd
        refine ex_of (fun _ _ => ev_iconst (pc' := 43) (iI (0)) dX0_readTwoMore_42 rfl (by decide)) ?_
        exact ex_end (ev_iret dX0_readTwoMore_43 rfl) (⟨by rw [decide_eq_false (by omega)]; rfl, fr, _, _, _, by (repeat (first | rw [if_pos (by omega)] | rw [if_neg (by omega)])); exact hRd, fun q => absurd q (by omega)⟩)
      · rw [if_pos c32] at hRd
        refine ex_of (fun _ _ => ev_aload_n (pc' := 36) dX0_readTwoMore_35 rfl rfl) ?_
        have hO := hRd
        obtain ⟨w1, h1, E1, rfl, fr4, nu4, hRd, en4⟩ := e0_readNumber (l := l) (hS.frR fr) hA hd hk2 (p := (st1 (txt A (100 * (d : Int))) (A 4 (d : Int)) p) + 1) (by omega) hRd
        refine ex_of (fun _ _ => ev_callV0 (pc' := 39) kX0_57 mX0_readNumber dX0_readTwoMore_36 rfl rfl (Nat.le_of_ble_eq_true rfl) (Nat.le_of_ble_eq_true rfl) (by decide) rfl hO E1) ?_
        have fr := fr.tr fr4
        refine ex_ifd_ne (pc' := 42) (tgt := 44) dX0_readTwoMore_39 (by decide) rfl (fun c39 => ?_) (fun c39 => ?_)
        · rw [if_pos c39] at hRd
          have b5 := rd_b c39
          have e5 : rdP (txt A (100 * (d : Int))) (A 4 (d : Int)) ((st1 (txt A (100 * (d : Int))) (A 4 (d : Int)) p) + 1) = (st2 (txt A (100 * (d : Int))) (A 4 (d : Int)) p) := rfl
          rw [e5] at b5 hRd
          have v5 := en4 c39
          refine ex_of (fun _ _ => ev_aload_n (pc' := 45) dX0_readTwoMore_44 rfl rfl) ?_
          refine ex_of (fun _ _ => ev_aload_n (pc' := 46) dX0_readTwoMore_45 rfl rfl) ?_
          refine ex_of (fun _ _ => ev_getfield (pc' := 49) fX0_37 dX0_readTwoMore_46 rfl hRd rfl) ?_
          refine xrd_6 (pc' := 52) (pX0_31 _) dX0_readTwoMore_49 rfl hRd fr (fun h hRd fr => ?_)
          refine ex_of (fun _ _ => ev_iconst (pc' := 53) (iI (1)) dX0_readTwoMore_52 rfl (by decide)) ?_
          exact ex_end (ev_iret dX0_readTwoMore_53 rfl) (⟨by rw [decide_eq_true (by omega)]; rfl, fr, _, _, _, by (repeat (first | rw [if_pos (by omega)] | rw [if_neg (by omega)])); exact hRd, fun _ => ⟨v3, v5⟩⟩)
        · rw [if_neg c39] at hRd
          refine ex_of (fun _ _ => ev_iconst (pc' := 43) (iI (0)) dX0_readTwoMore_42 rfl (by decide)) ?_
          exact ex_end (ev_iret dX0_readTwoMore_43 rfl) (⟨by rw [decide_eq_false (by omega)]; rfl, fr, _, _, _, by (repeat (first | rw [if_pos (by omega)] | rw [if_neg (by omega)])); exact hRd, fun q => absurd q (by omega)⟩)
    · rw [if_neg c13] at hRd
      refine ex_of (fun _ _ => ev_iconst (pc' := 17) (iI (0)) dX0_readTwoMore_16 rfl (by decide)) ?_
      exact ex_end (ev_iret dX0_readTwoMore_17 rfl) (⟨by rw [decide_eq_false (by omega)]; rfl, fr, _, _, _, by (repeat (first | rw [if_pos (by omega)] | rw [if_neg (by omega)])); exact hRd, fun q => absurd q (by omega)⟩)
theorem e0_readChoice {q c : Int} (hS : SC h A w) (hA : mSh A) (hd : d < 8) (hk2 : A 2 (d : Int) = 2) (hq : 0 ≤ q ∧ q ≤ 250) (rc : -2147483648 ≤ c ∧ c < 2147483648) (hRd : h[17]? = some (cRd (.ref (18 + 2 * d)) q c a3 a4 a5 a6 a7 a8)) : Ex l 3 yX0_readChoice.cls yX0_readChoice.name cX0_readChoice 1 none 0 [some (.ref 17)] [] h (fun v h2 => v = none ∧ FrR h h2 ∧ h2[17]? = some (cRd (.ref (18 + 2 * d)) (tE (txt A (100 * (d : Int))) (A 4 (d : Int)) c q) c a3 a4 a5 a6 (tG (txt A (100 * (d : Int))) (A 4 (d : Int)) c q) a8)) := by
  have fr := FrR.rf h
  refine ex_of (fun _ _ => ev_aload_n (pc' := 1) dX0_readChoice_0 rfl rfl) ?_
  refine ex_of (fun _ _ => ev_iconst (pc' := 2) (iI (0)) dX0_readChoice_1 rfl (by decide)) ?_
  refine xrd_7 (pc' := 5) (pX0_34 _) dX0_readChoice_2 rfl hRd fr (fun h hRd fr => ?_)
  refine ex_of (fun _ _ => ev_aload_n (pc' := 6) dX0_readChoice_5 rfl rfl) ?_
  refine ex_of (fun _ _ => ev_getfield (pc' := 9) fX0_19 dX0_readChoice_6 rfl hRd rfl) ?_
  refine ex_of (fun _ _ => ev_bipush (pc' := 11) (iI (112)) dX0_readChoice_9 rfl (by decide)) ?_
  refine ex_icmpI_eq (pc' := 14) (tgt := 15) dX0_readChoice_11 (by decide) rfl (by omega) (by omega) (fun c11 => ?_) (fun c11 => ?_)
  · refine ex_of (fun _ _ => ev_aload_n (pc' := 16) dX0_readChoice_15 rfl rfl) ?_
    refine ex_of (fun _ _ => ev_bipush (pc' := 18) (iI (43)) dX0_readChoice_16 rfl (by decide)) ?_
    have hO := hRd
    obtain ⟨w1, h1, E1, rfl, fr1, hRd⟩ := e0_pass (l := l) (c := 43) (hS.frR fr) hA hd hk2 (p := q) (by omega) hRd (by omega)
    refine ex_of (fun _ _ => ev_callV1 (pc' := 21) kX0_67 mX0_pass dX0_readChoice_18 rfl rfl (Nat.le_of_ble_eq_true rfl) (Nat.le_of_ble_eq_true rfl) (by decide) rfl hO E1) ?_
    have fr := fr.tr fr1
    refine ex_ifd_eq (pc' := 24) (tgt := 32) dX0_readChoice_21 (by decide) rfl (fun c21 => ?_) (fun c21 => ?_)
    · rw [if_neg c21] at hRd
      refine ex_of (fun _ _ => ev_aload_n (pc' := 33) dX0_readChoice_32 rfl rfl) ?_
      refine ex_of (fun _ _ => ev_bipush (pc' := 35) (iI (45)) dX0_readChoice_33 rfl (by decide)) ?_
      have hO := hRd
      obtain ⟨w1, h1, E1, rfl, fr2, hRd⟩ := e0_pass (l := l) (c := 45) (hS.frR fr) hA hd hk2 (p := q) (by omega) hRd (by omega)
      refine ex_of (fun _ _ => ev_callV1 (pc' := 38) kX0_67 mX0_pass dX0_readChoice_35 rfl rfl (Nat.le_of_ble_eq_true rfl) (Nat.le_of_ble_eq_true rfl) (by decide) rfl hO E1) ?_
      have fr := fr.tr fr2
      refine ex_ifd_eq (pc' := 41) (tgt := 46) dX0_readChoice_38 (by decide) rfl (fun c38 => ?_) (fun c38 => ?_)
      · rw [if_neg c38] at hRd
        exact ex_end (ev_vret dX0_readChoice_46) (⟨rfl, fr, by unfold tE tG; (repeat (first | rw [if_pos (by omega)] | rw [if_neg (by omega)])); exact hRd⟩)
      · rw [if_pos c38] at hRd
        refine ex_of (fun _ _ => ev_aload_n (pc' := 42) dX0_readChoice_41 rfl rfl) ?_
        refine ex_of (fun _ _ => ev_iconst (pc' := 43) (iI (-1)) dX0_readChoice_42 rfl (by decide)) ?_
        refine xrd_7 (pc' := 46) (pX0_34 _) dX0_readChoice_43 rfl hRd fr (fun h hRd fr => ?_)
        exact ex_end (ev_vret dX0_readChoice_46) (⟨rfl, fr, by unfold tE tG; (repeat (first | rw [if_pos (by omega)] | rw [if_neg (by omega)])); exact hRd⟩)
    · rw [if_pos c21] at hRd
      refine ex_of (fun _ _ => ev_aload_n (pc' := 25) dX0_readChoice_24 rfl rfl) ?_
      refine ex_of (fun _ _ => ev_iconst (pc' := 26) (iI (1)) dX0_readChoice_25 rfl (by decide)) ?_
      refine xrd_7 (pc' := 29) (pX0_34 _) dX0_readChoice_26 rfl hRd fr (fun h hRd fr => ?_)
      refine ex_of (fun _ _ => ev_goto (tgt := 46) dX0_readChoice_29 (by decide)) ?_
      exact ex_end (ev_vret dX0_readChoice_46) (⟨rfl, fr, by unfold tE tG; (repeat (first | rw [if_pos (by omega)] | rw [if_neg (by omega)])); exact hRd⟩)
  · exact ex_end (ev_vret dX0_readChoice_14) (⟨rfl, fr, by unfold tE tG; (repeat (first | rw [if_pos (by omega)] | rw [if_neg (by omega)])); exact hRd⟩)
/-- what reading a statement leaves in the reader -/
def rsC (h : ev_H) (A : Nat → Int → Int) (d : Nat) (p : Int) : Option Value → ev_H → Prop := fun v h2 => v = some (.int (b2i (decide (stK (txt A (100 * (d : Int))) (A 4 (d : Int)) p = true)))) ∧ FrR h h2 ∧ ∃ le f1 f2 f3 ch nu, h2[17]? = some (cRd (.ref (18 + 2 * d)) (stP (txt A (100 * (d : Int))) (A 4 (d : Int)) p) le p f1 f2 f3 ch nu) ∧ (stOK (txt A (100 * (d : Int))) (A 4 (d : Int)) p → le = chr (txt A (100 * (d : Int))) (A 4 (d : Int)) p ∧ f1 = rdV (txt A (100 * (d : Int))) (A 4 (d : Int)) (p + 1) ∧ (chr (txt A (100 * (d : Int))) (A 4 (d : Int)) p ≠ 108 → f2 = rdV (txt A (100 * (d : Int))) (A 4 (d : Int)) ((st0 (txt A (100 * (d : Int))) (A 4 (d : Int)) p) + 1) ∧ f3 = rdV (txt A (100 * (d : Int))) (A 4 (d : Int)) ((st1 (txt A (100 * (d : Int))) (A 4 (d : Int)) p) + 1)) ∧ ch = stG (txt A (100 * (d : Int))) (A 4 (d : Int)) p)
theorem rsC_f {h h2 : ev_H} {le f1 f2 f3 ch nu : Int} (hk : ¬ stOK (txt A (100 * (d : Int))) (A 4 (d : Int)) p) (fr : FrR h h2) (hRd : h2[17]? = some (cRd (.ref (18 + 2 * d)) (stP (txt A (100 * (d : Int))) (A 4 (d : Int)) p) le p f1 f2 f3 ch nu)) : rsC h A d p (some (.int (iI 0))) h2 := ⟨by rw [stK_f hk]; rfl, fr, le, f1, f2, f3, ch, nu, hRd, fun q => absurd q hk⟩
theorem e0_rsT {h0 : ev_H} {q f1 f2 f3 ch nu : Int} (hS : SC h0 A w) (hA : mSh A) (hd : d < 8) (hk2 : A 2 (d : Int) = 2) (fr : FrR h0 h) (hq : 0 ≤ q ∧ q ≤ 240) (hc : chr (txt A (100 * (d : Int))) (A 4 (d : Int)) p = 112 ∨ chr (txt A (100 * (d : Int))) (A 4 (d : Int)) p = 108 ∨ chr (txt A (100 * (d : Int))) (A 4 (d : Int)) p = 119) (h1 : (48 ≤ chr (txt A (100 * (d : Int))) (A 4 (d : Int)) (p + 1) ∧ chr (txt A (100 * (d : Int))) (A 4 (d : Int)) (p + 1) ≤ 57)) (e1 : f1 = rdV (txt A (100 * (d : Int))) (A 4 (d : Int)) (p + 1)) (hl : (chr (txt A (100 * (d : Int))) (A 4 (d : Int)) p = 108 ∧ q = (st0 (txt A (100 * (d : Int))) (A 4 (d : Int)) p)) ∨ (chr (txt A (100 * (d : Int))) (A 4 (d : Int)) p ≠ 108 ∧ q = (st2 (txt A (100 * (d : Int))) (A 4 (d : Int)) p) ∧ (chr (txt A (100 * (d : Int))) (A 4 (d : Int)) (st0 (txt A (100 * (d : Int))) (A 4 (d : Int)) p) = 32 ∧ (48 ≤ chr (txt A (100 * (d : Int))) (A 4 (d : Int)) ((st0 (txt A (100 * (d : Int))) (A 4 (d : Int)) p) + 1) ∧ chr (txt A (100 * (d : Int))) (A 4 (d : Int)) ((st0 (txt A (100 * (d : Int))) (A 4 (d : Int)) p) + 1) ≤ 57) ∧ chr (txt A (100 * (d : Int))) (A 4 (d : Int)) (st1 (txt A (100 * (d : Int))) (A 4 (d : Int)) p) = 32 ∧ (48 ≤ chr (txt A (100 * (d : Int))) (A 4 (d : Int)) ((st1 (txt A (100 * (d : Int))) (A 4 (d : Int)) p) + 1) ∧ chr (txt A (100 * (d : Int))) (A 4 (d : Int)) ((st1 (txt A (100 * (d : Int))) (A 4 (d : Int)) p) + 1) ≤ 57)) ∧ f2 = rdV (txt A (100 * (d : Int))) (A 4 (d : Int)) ((st0 (txt A (100 * (d : Int))) (A 4 (d : Int)) p) + 1) ∧ f3 = rdV (txt A (100 * (d : Int))) (A 4 (d : Int)) ((st1 (txt A (100 * (d : Int))) (A 4 (d : Int)) p) + 1))) (hRd : h[17]? = some (cRd (.ref (18 + 2 * d)) q (chr (txt A (100 * (d : Int))) (A 4 (d : Int)) p) p f1 f2 f3 ch nu)) : Ex l 4 yX0_readStatement.cls yX0_readStatement.name cX0_readStatement 1 (some .boolean) 90 [some (.ref 17)] [] h (rsC h0 A d p) := by
  have eE : tE (txt A (100 * (d : Int))) (A 4 (d : Int)) (chr (txt A (100 * (d : Int))) (A 4 (d : Int)) p) q = stE (txt A (100 * (d : Int))) (A 4 (d : Int)) p := by
    rcases hl with ⟨y, z⟩ | ⟨y, z, -⟩
    · unfold tE stE; rw [if_pos y, if_neg (by omega), z]
    · unfold tE stE; rw [if_neg y, z]
  have eG : tG (txt A (100 * (d : Int))) (A 4 (d : Int)) (chr (txt A (100 * (d : Int))) (A 4 (d : Int)) p) q = stG (txt A (100 * (d : Int))) (A 4 (d : Int)) p := by
    rcases hl with ⟨y, z⟩ | ⟨y, z, -⟩
    · unfold tG stG; (repeat (first | rw [if_pos (by omega)] | rw [if_neg (by omega)]))
    · unfold tG stG; rw [z]
  have bE : 0 ≤ stE (txt A (100 * (d : Int))) (A 4 (d : Int)) p ∧ stE (txt A (100 * (d : Int))) (A 4 (d : Int)) p ≤ 260 := by rw [← eE]; unfold tE; split <;> omega
  refine ex_of (fun _ _ => ev_aload_n (pc' := 91) dX0_readStatement_90 rfl rfl) ?_
  have hO := hRd
  obtain ⟨w1, h1, E1, rfl, fr1, hRd⟩ := e0_readChoice (l := l) (q := q) (c := chr (txt A (100 * (d : Int))) (A 4 (d : Int)) p) (hS.frR fr) hA hd hk2 (by omega) (by omega) hRd
  refine ex_of (fun _ _ => ev_callV0v (pc' := 94) kX0_64 mX0_readChoice dX0_readStatement_91 rfl rfl (Nat.le_of_ble_eq_true rfl) (Nat.le_of_ble_eq_true rfl) (by decide) rfl hO E1) ?_
  have fr := fr.tr fr1
  rw [eE, eG] at hRd
  refine ex_of (fun _ _ => ev_aload_n (pc' := 95) dX0_readStatement_94 rfl rfl) ?_
  refine ex_of (fun _ _ => ev_bipush (pc' := 97) (iI (59)) dX0_readStatement_95 rfl (by decide)) ?_
  have hO := hRd
  obtain ⟨w1, h1, E1, rfl, fr2, hRd⟩ := e0_pass (l := l) (c := 59) (hS.frR fr) hA hd hk2 (p := stE (txt A (100 * (d : Int))) (A 4 (d : Int)) p) (by omega) hRd (by omega)
  refine ex_of (fun _ _ => ev_callV1 (pc' := 100) kX0_67 mX0_pass dX0_readStatement_97 rfl rfl (Nat.le_of_ble_eq_true rfl) (Nat.le_of_ble_eq_true rfl) (by decide) rfl hO E1) ?_
  have fr := fr.tr fr2
  exact ex_end (ev_iret dX0_readStatement_100 (b2i_nar _)) (by
    have eK : decide (chr (txt A (100 * (d : Int))) (A 4 (d : Int)) (stE (txt A (100 * (d : Int))) (A 4 (d : Int)) p) = 59) = decide (stK (txt A (100 * (d : Int))) (A 4 (d : Int)) p = true) := by
      by_cases y : chr (txt A (100 * (d : Int))) (A 4 (d : Int)) (stE (txt A (100 * (d : Int))) (A 4 (d : Int)) p) = 59
      · rw [decide_eq_true y, decide_eq_true (stK_iff.mpr (by unfold stOK; omega))]
      · rw [decide_eq_false y, decide_eq_false (by rw [stK_f (by unfold stOK; omega)]; decide)]
    have eP : (if chr (txt A (100 * (d : Int))) (A 4 (d : Int)) (stE (txt A (100 * (d : Int))) (A 4 (d : Int)) p) = 59 then stE (txt A (100 * (d : Int))) (A 4 (d : Int)) p + 1 else stE (txt A (100 * (d : Int))) (A 4 (d : Int)) p) = stP (txt A (100 * (d : Int))) (A 4 (d : Int)) p := by
      symm
      unfold stP
      (repeat (first | rw [if_pos (by omega)] | rw [if_neg (by omega)]))
      try (split <;> rfl)
    rw [eP] at hRd
    refine ⟨by rw [eK], fr, _, _, _, _, _, _, hRd, fun ok => ⟨rfl, e1, fun y => ?_, rfl⟩⟩
    rcases hl with ⟨z, -⟩ | ⟨-, -, -, z1, z2⟩
    · exact absurd z y
    · exact ⟨z1, z2⟩)
theorem e0_rsM {h0 : ev_H} {f1 f2 f3 ch nu : Int} (hS : SC h0 A w) (hA : mSh A) (hd : d < 8) (hk2 : A 2 (d : Int) = 2) (fr : FrR h0 h) (hp : 0 ≤ p ∧ p ≤ 100) (hc : chr (txt A (100 * (d : Int))) (A 4 (d : Int)) p = 112 ∨ chr (txt A (100 * (d : Int))) (A 4 (d : Int)) p = 108 ∨ chr (txt A (100 * (d : Int))) (A 4 (d : Int)) p = 119) (hRd : h[17]? = some (cRd (.ref (18 + 2 * d)) p (chr (txt A (100 * (d : Int))) (A 4 (d : Int)) p) p f1 f2 f3 ch nu)) : Ex l 4 yX0_readStatement.cls yX0_readStatement.name cX0_readStatement 1 (some .boolean) 45 [some (.ref 17)] [] h (rsC h0 A d p) := by
  obtain ⟨z1, z2, z3, z4, z5⟩ := hA.1 (d : Int) (by omega) (by omega)
  refine ex_of (fun _ _ => ev_aload_n (pc' := 46) dX0_readStatement_45 rfl rfl) ?_
  refine ex_of (fun _ _ => ev_dup (pc' := 47) dX0_readStatement_46 rfl rfl) ?_
  refine ex_of (fun _ _ => ev_getfield (pc' := 50) fX0_15 dX0_readStatement_47 rfl hRd rfl) ?_
  refine ex_of (fun _ _ => ev_iconst (pc' := 51) (iI (1)) dX0_readStatement_50 rfl (by decide)) ?_
  refine ex_of (fun _ _ => ev_iaddI (pc' := 52) dX0_readStatement_51 rfl) ?_
  refine xrd_1 (pc' := 55) (pX0_15 _) dX0_readStatement_52 rfl hRd fr (fun h hRd fr => ?_)
  refine ex_of (fun _ _ => ev_aload_n (pc' := 56) dX0_readStatement_55 rfl rfl) ?_
  have hO := hRd
  obtain ⟨w1, h1, E1, rfl, fr1, nu1, hRd, en1⟩ := e0_readNumber (l := l) (hS.frR fr) hA hd hk2 (p := p + 1) (by omega) hRd
  refine ex_of (fun _ _ => ev_callV0 (pc' := 59) kX0_57 mX0_readNumber dX0_readStatement_56 rfl rfl (Nat.le_of_ble_eq_true rfl) (Nat.le_of_ble_eq_true rfl) (by decide) rfl hO E1) ?_
  have fr := fr.tr fr1
  refine ex_ifd_ne (pc' := 62) (tgt := 64) dX0_readStatement_59 (by decide) rfl (fun c59 => ?_) (fun c59 => ?_)
  · rw [if_pos c59] at hRd
    have b1 := rd_b c59
    have e1 : rdP (txt A (100 * (d : Int))) (A 4 (d : Int)) (p + 1) = (st0 (txt A (100 * (d : Int))) (A 4 (d : Int)) p) := rfl
    rw [e1] at b1 hRd
    have v1 := en1 c59
    refine ex_of (fun _ _ => ev_aload_n (pc' := 65) dX0_readStatement_64 rfl rfl) ?_
    refine ex_of (fun _ _ => ev_aload_n (pc' := 66) dX0_readStatement_65 rfl rfl) ?_
    refine ex_of (fun _ _ => ev_getfield (pc' := 69) fX0_37 dX0_readStatement_66 rfl hRd rfl) ?_
    refine xrd_4 (pc' := 72) (pX0_25 _) dX0_readStatement_69 rfl hRd fr (fun h hRd fr => ?_)
    refine ex_of (fun _ _ => ev_aload_n (pc' := 73) dX0_readStatement_72 rfl rfl) ?_
    refine ex_of (fun _ _ => ev_getfield (pc' := 76) fX0_19 dX0_readStatement_73 rfl hRd rfl) ?_
    refine ex_of (fun _ _ => ev_bipush (pc' := 78) (iI (108)) dX0_readStatement_76 rfl (by decide)) ?_
    refine ex_icmpI_eq (pc' := 81) (tgt := 90) dX0_readStatement_78 (by decide) rfl (by omega) (by omega) (fun c78 => ?_) (fun c78 => ?_)
    · first
      | exact e0_rsT hS hA hd hk2 fr (by omega) hc c59 v1 (Or.inl ⟨c78, rfl⟩) hRd
      | exact e0_rsT hS hA hd hk2 fr (by omega) hc c59 v1 (Or.inr ⟨c78, rfl, c85, u2, u3⟩) hRd
    · refine ex_of (fun _ _ => ev_aload_n (pc' := 82) dX0_readStatement_81 rfl rfl) ?_
      have hO := hRd
      obtain ⟨w1, h1, E1, rfl, fr2, g2, g3, nu2, hRd, hg⟩ := e0_readTwoMore (l := l) (p := p) (hS.frR fr) hA hd hk2 (by omega) hRd
      refine ex_of (fun _ _ => ev_callV0 (pc' := 85) kX0_61 mX0_readTwoMore dX0_readStatement_82 rfl rfl (Nat.le_of_ble_eq_true rfl) (Nat.le_of_ble_eq_true rfl) (by decide) rfl hO E1) ?_
      have fr := fr.tr fr2
      refine ex_ifd_ne (pc' := 88) (tgt := 90) dX0_readStatement_85 (by decide) rfl (fun c85 => ?_) (fun c85 => ?_)
      · have b2 := rd_b c85.2.1
        have e2 : rdP (txt A (100 * (d : Int))) (A 4 (d : Int)) ((st0 (txt A (100 * (d : Int))) (A 4 (d : Int)) p) + 1) = (st1 (txt A (100 * (d : Int))) (A 4 (d : Int)) p) := rfl
        have b3 := rd_b c85.2.2.2
        have e3 : rdP (txt A (100 * (d : Int))) (A 4 (d : Int)) ((st1 (txt A (100 * (d : Int))) (A 4 (d : Int)) p) + 1) = (st2 (txt A (100 * (d : Int))) (A 4 (d : Int)) p) := rfl
        obtain ⟨u2, u3⟩ := hg c85
        rw [if_neg (by omega), if_neg (by omega), if_neg (by omega), if_neg (by omega)] at hRd
        first
        | exact e0_rsT hS hA hd hk2 fr (by omega) hc c59 v1 (Or.inl ⟨c78, rfl⟩) hRd
        | exact e0_rsT hS hA hd hk2 fr (by omega) hc c59 v1 (Or.inr ⟨c78, rfl, c85, u2, u3⟩) hRd
      · refine ex_of (fun _ _ => ev_iconst (pc' := 89) (iI (0)) dX0_readStatement_88 rfl (by decide)) ?_
        exact ex_end (ev_iret dX0_readStatement_89 rfl) (rsC_f (by unfold stOK; omega) fr (by rw [show stP (txt A (100 * (d : Int))) (A 4 (d : Int)) p = (if chr (txt A (100 * (d : Int))) (A 4 (d : Int)) (st0 (txt A (100 * (d : Int))) (A 4 (d : Int)) p) ≠ 32 then (st0 (txt A (100 * (d : Int))) (A 4 (d : Int)) p) else if ¬ (48 ≤ chr (txt A (100 * (d : Int))) (A 4 (d : Int)) ((st0 (txt A (100 * (d : Int))) (A 4 (d : Int)) p) + 1) ∧ chr (txt A (100 * (d : Int))) (A 4 (d : Int)) ((st0 (txt A (100 * (d : Int))) (A 4 (d : Int)) p) + 1) ≤ 57) then (st0 (txt A (100 * (d : Int))) (A 4 (d : Int)) p) + 1 else if chr (txt A (100 * (d : Int))) (A 4 (d : Int)) (st1 (txt A (100 * (d : Int))) (A 4 (d : Int)) p) ≠ 32 then (st1 (txt A (100 * (d : Int))) (A 4 (d : Int)) p) else if ¬ (48 ≤ chr (txt A (100 * (d : Int))) (A 4 (d : Int)) ((st1 (txt A (100 * (d : Int))) (A 4 (d : Int)) p) + 1) ∧ chr (txt A (100 * (d : Int))) (A 4 (d : Int)) ((st1 (txt A (100 * (d : Int))) (A 4 (d : Int)) p) + 1) ≤ 57) then (st1 (txt A (100 * (d : Int))) (A 4 (d : Int)) p) + 1 else (st2 (txt A (100 * (d : Int))) (A 4 (d : Int)) p)) by unfold stP; rw [if_neg (by omega), if_neg (by omega)]; (repeat' split) <;> omega]; exact hRd))
  · rw [if_neg c59] at hRd
    refine ex_of (fun _ _ => ev_iconst (pc' := 63) (iI (0)) dX0_readStatement_62 rfl (by decide)) ?_
    exact ex_end (ev_iret dX0_readStatement_63 rfl) (rsC_f (by unfold stOK; omega) fr (by rw [show stP (txt A (100 * (d : Int))) (A 4 (d : Int)) p = p + 1 by unfold stP; (repeat (first | rw [if_pos (by omega)] | rw [if_neg (by omega)]))]; exact hRd))
theorem e0_readStatement {b2 b3 f1 f2 f3 ch nu : Int} (hS : SC h A w) (hA : mSh A) (hd : d < 8) (hk2 : A 2 (d : Int) = 2) (hp : 0 ≤ p ∧ p ≤ 100) (hRd : h[17]? = some (cRd (.ref (18 + 2 * d)) p b2 b3 f1 f2 f3 ch nu)) : Ex l 4 yX0_readStatement.cls yX0_readStatement.name cX0_readStatement 1 (some .boolean) 0 [some (.ref 17)] [] h (rsC h A d p) := by
  have fr := FrR.rf h
  have nb := nx_b (p := p) hA hd hp.1
  have nc := nx_c (T := (txt A (100 * (d : Int)))) (n := (A 4 (d : Int))) (p := p)
  refine ex_of (fun _ _ => ev_aload_n (pc' := 1) dX0_readStatement_0 rfl rfl) ?_
  refine ex_of (fun _ _ => ev_aload_n (pc' := 2) dX0_readStatement_1 rfl rfl) ?_
  refine ex_of (fun _ _ => ev_getfield (pc' := 5) fX0_15 dX0_readStatement_2 rfl hRd rfl) ?_
  refine xrd_3 (pc' := 8) (pX0_22 _) dX0_readStatement_5 rfl hRd fr (fun h hRd fr => ?_)
  refine ex_of (fun _ _ => ev_aload_n (pc' := 9) dX0_readStatement_8 rfl rfl) ?_
  refine ex_of (fun _ _ => ev_aload_n (pc' := 10) dX0_readStatement_9 rfl rfl) ?_
  refine ex_of (fun _ _ => ev_callV0 (pc' := 13) kX0_53 mX0_next dX0_readStatement_10 rfl rfl (Nat.le_of_ble_eq_true rfl) (Nat.le_of_ble_eq_true rfl) (by decide) rfl hRd (e0_next (hS.frR fr) hA hd hk2 (by omega) hRd)) ?_
  refine xrd_2 (pc' := 16) (pX0_19 _) dX0_readStatement_13 rfl hRd fr (fun h hRd fr => ?_)
  refine ex_of (fun _ _ => ev_aload_n (pc' := 17) dX0_readStatement_16 rfl rfl) ?_
  refine ex_of (fun _ _ => ev_getfield (pc' := 20) fX0_19 dX0_readStatement_17 rfl hRd rfl) ?_
  refine ex_of (fun _ _ => ev_bipush (pc' := 22) (iI (112)) dX0_readStatement_20 rfl (by decide)) ?_
  refine ex_icmpI_eq (pc' := 25) (tgt := 45) dX0_readStatement_22 (by decide) rfl (by omega) (by omega) (fun c22 => ?_) (fun c22 => ?_)
  · rw [show nx (txt A (100 * (d : Int))) (A 4 (d : Int)) p = chr (txt A (100 * (d : Int))) (A 4 (d : Int)) p by omega] at hRd
    exact e0_rsM hS hA hd hk2 fr (by omega) (by omega) hRd
  · refine ex_of (fun _ _ => ev_aload_n (pc' := 26) dX0_readStatement_25 rfl rfl) ?_
    refine ex_of (fun _ _ => ev_getfield (pc' := 29) fX0_19 dX0_readStatement_26 rfl hRd rfl) ?_
    refine ex_of (fun _ _ => ev_bipush (pc' := 31) (iI (108)) dX0_readStatement_29 rfl (by decide)) ?_
    refine ex_icmpI_eq (pc' := 34) (tgt := 45) dX0_readStatement_31 (by decide) rfl (by omega) (by omega) (fun c31 => ?_) (fun c31 => ?_)
    · rw [show nx (txt A (100 * (d : Int))) (A 4 (d : Int)) p = chr (txt A (100 * (d : Int))) (A 4 (d : Int)) p by omega] at hRd
      exact e0_rsM hS hA hd hk2 fr (by omega) (by omega) hRd
    · refine ex_of (fun _ _ => ev_aload_n (pc' := 35) dX0_readStatement_34 rfl rfl) ?_
      refine ex_of (fun _ _ => ev_getfield (pc' := 38) fX0_19 dX0_readStatement_35 rfl hRd rfl) ?_
      refine ex_of (fun _ _ => ev_bipush (pc' := 40) (iI (119)) dX0_readStatement_38 rfl (by decide)) ?_
      refine ex_icmpI_eq (pc' := 43) (tgt := 45) dX0_readStatement_40 (by decide) rfl (by omega) (by omega) (fun c40 => ?_) (fun c40 => ?_)
      · rw [show nx (txt A (100 * (d : Int))) (A 4 (d : Int)) p = chr (txt A (100 * (d : Int))) (A 4 (d : Int)) p by omega] at hRd
        exact e0_rsM hS hA hd hk2 fr (by omega) (by omega) hRd
      · refine ex_of (fun _ _ => ev_iconst (pc' := 44) (iI (0)) dX0_readStatement_43 rfl (by decide)) ?_
        exact ex_end (ev_iret dX0_readStatement_44 rfl) (rsC_f (by unfold stOK; omega) fr (by rw [show stP (txt A (100 * (d : Int))) (A 4 (d : Int)) p = p by unfold stP; (repeat (first | rw [if_pos (by omega)] | rw [if_neg (by omega)]))]; exact hRd))
theorem e0_makesSense {tv : Value} {at1 c la v0 v1 v2 ch nu n : Int} (hRd : h[17]? = some (cRd tv at1 c la v0 v1 v2 ch nu)) (rc : -2147483648 ≤ c ∧ c < 2147483648) (r0 : 0 ≤ v0 ∧ v0 ≤ 999) (r12 : c ≠ 108 → (0 ≤ v1 ∧ v1 ≤ 999) ∧ (0 ≤ v2 ∧ v2 ≤ 999)) (rn : 0 ≤ n ∧ n ≤ 10) {R : Int → Int} (hR : R 0 = n) : Ev l 1 yX0_makesSense.cls yX0_makesSense.name cX0_makesSense 2 (some .boolean) 0 [some (.ref 17), some (.int (iI n))] [] h (some (.int (b2i (decide (cmK c v0 v1 v2 R = true))))) h := by
  refine ev_aload_n (pc' := 1) dX0_makesSense_0 rfl rfl ?_
  refine ev_getfield (pc' := 4) fX0_19 dX0_makesSense_1 rfl hRd rfl ?_
  refine ev_bipush (pc' := 6) (iI (112)) dX0_makesSense_4 rfl (by decide) ?_
  refine ev_icmpI_ne (pc' := 9) (tgt := 39) dX0_makesSense_6 (by decide) rfl (by omega) (by omega) (fun c6 => ?_) (fun c6 => ?_)
  · refine ev_aload_n (pc' := 40) dX0_makesSense_39 rfl rfl ?_
    refine ev_getfield (pc' := 43) fX0_19 dX0_makesSense_40 rfl hRd rfl ?_
    refine ev_bipush (pc' := 45) (iI (108)) dX0_makesSense_43 rfl (by decide) ?_
    refine ev_icmpI_ne (pc' := 48) (tgt := 56) dX0_makesSense_45 (by decide) rfl (by omega) (by omega) (fun c45 => ?_) (fun c45 => ?_)
    · have r12 := r12 (by omega)
      refine ev_aload_n (pc' := 57) dX0_makesSense_56 rfl rfl ?_
      refine ev_getfield (pc' := 60) fX0_25 dX0_makesSense_57 rfl hRd rfl ?_
      refine ev_iload_n (pc' := 61) dX0_makesSense_60 rfl rfl ?_
      refine ev_icmpI_ge (pc' := 64) (tgt := 96) dX0_makesSense_61 (by decide) rfl (by omega) (by omega) (fun c61 => ?_) (fun c61 => ?_)
      · refine ev_iconst (pc' := 97) (iI (0)) dX0_makesSense_96 rfl (by decide) ?_
        exact ev_zreI dX0_makesSense_97 (by first | exact b2i_1 (by unfold cmK; rw [hR]; (repeat (first | rw [if_pos (by omega)] | rw [if_neg (by omega)])); exact decide_eq_true (by omega)) | exact b2i_n (by unfold cmK; rw [hR]; (repeat (first | rw [if_pos (by omega)] | rw [if_neg (by omega)])); rw [decide_eq_false (by omega)]; decide))
      · refine ev_aload_n (pc' := 65) dX0_makesSense_64 rfl rfl ?_
        refine ev_getfield (pc' := 68) fX0_28 dX0_makesSense_65 rfl hRd rfl ?_
        refine ev_iload_n (pc' := 69) dX0_makesSense_68 rfl rfl ?_
        refine ev_icmpI_ge (pc' := 72) (tgt := 96) dX0_makesSense_69 (by decide) rfl (by omega) (by omega) (fun c69 => ?_) (fun c69 => ?_)
        · refine ev_iconst (pc' := 97) (iI (0)) dX0_makesSense_96 rfl (by decide) ?_
          exact ev_zreI dX0_makesSense_97 (by first | exact b2i_1 (by unfold cmK; rw [hR]; (repeat (first | rw [if_pos (by omega)] | rw [if_neg (by omega)])); exact decide_eq_true (by omega)) | exact b2i_n (by unfold cmK; rw [hR]; (repeat (first | rw [if_pos (by omega)] | rw [if_neg (by omega)])); rw [decide_eq_false (by omega)]; decide))
        · refine ev_aload_n (pc' := 73) dX0_makesSense_72 rfl rfl ?_
          refine ev_getfield (pc' := 76) fX0_25 dX0_makesSense_73 rfl hRd rfl ?_
          refine ev_aload_n (pc' := 77) dX0_makesSense_76 rfl rfl ?_
          refine ev_getfield (pc' := 80) fX0_28 dX0_makesSense_77 rfl hRd rfl ?_
          refine ev_icmpI_eq (pc' := 83) (tgt := 96) dX0_makesSense_80 (by decide) rfl (by omega) (by omega) (fun c80 => ?_) (fun c80 => ?_)
          · refine ev_iconst (pc' := 97) (iI (0)) dX0_makesSense_96 rfl (by decide) ?_
            exact ev_zreI dX0_makesSense_97 (by first | exact b2i_1 (by unfold cmK; rw [hR]; (repeat (first | rw [if_pos (by omega)] | rw [if_neg (by omega)])); exact decide_eq_true (by omega)) | exact b2i_n (by unfold cmK; rw [hR]; (repeat (first | rw [if_pos (by omega)] | rw [if_neg (by omega)])); rw [decide_eq_false (by omega)]; decide))
          · refine ev_aload_n (pc' := 84) dX0_makesSense_83 rfl rfl ?_
            refine ev_getfield (pc' := 87) fX0_31 dX0_makesSense_84 rfl hRd rfl ?_
            refine ev_bipush (pc' := 89) (iI (99)) dX0_makesSense_87 rfl (by decide) ?_
            refine ev_icmpI_gt (pc' := 92) (tgt := 96) dX0_makesSense_89 (by decide) rfl (by omega) (by omega) (fun c89 => ?_) (fun c89 => ?_)
            · refine ev_iconst (pc' := 97) (iI (0)) dX0_makesSense_96 rfl (by decide) ?_
              exact ev_zreI dX0_makesSense_97 (by first | exact b2i_1 (by unfold cmK; rw [hR]; (repeat (first | rw [if_pos (by omega)] | rw [if_neg (by omega)])); exact decide_eq_true (by omega)) | exact b2i_n (by unfold cmK; rw [hR]; (repeat (first | rw [if_pos (by omega)] | rw [if_neg (by omega)])); rw [decide_eq_false (by omega)]; decide))
            · refine ev_iconst (pc' := 93) (iI (1)) dX0_makesSense_92 rfl (by decide) ?_
              refine ev_goto (tgt := 97) dX0_makesSense_93 (by decide) ?_
              exact ev_zreI dX0_makesSense_97 (by first | exact b2i_1 (by unfold cmK; rw [hR]; (repeat (first | rw [if_pos (by omega)] | rw [if_neg (by omega)])); exact decide_eq_true (by omega)) | exact b2i_n (by unfold cmK; rw [hR]; (repeat (first | rw [if_pos (by omega)] | rw [if_neg (by omega)])); rw [decide_eq_false (by omega)]; decide))
    · refine ev_aload_n (pc' := 49) dX0_makesSense_48 rfl rfl ?_
      refine ev_getfield (pc' := 52) fX0_25 dX0_makesSense_49 rfl hRd rfl ?_
      refine ev_callS1 (pc' := 55) kX0_73 mX5_isDegree dX0_makesSense_52 rfl rfl (Nat.le_of_ble_eq_true rfl) (Nat.le_of_ble_eq_true rfl) (by decide) (e5_isDegree (by omega)) ?_
      exact ev_vw (by rw [show decide (cmK c v0 v1 v2 R = true) = decide (0 ≤ v0 ∧ v0 ≤ 359) from decide_eq_decide.mpr (by unfold cmK; rw [hR]; (repeat (first | rw [if_pos (by omega)] | rw [if_neg (by omega)])); rw [decide_eq_true_eq]; omega)]) rfl (ev_iret dX0_makesSense_55 (b2i_nar _))
  · have r12 := r12 (by omega)
    refine ev_aload_n (pc' := 10) dX0_makesSense_9 rfl rfl ?_
    refine ev_getfield (pc' := 13) fX0_25 dX0_makesSense_10 rfl hRd rfl ?_
    refine ev_callS1 (pc' := 16) kX0_73 mX5_isDegree dX0_makesSense_13 rfl rfl (Nat.le_of_ble_eq_true rfl) (Nat.le_of_ble_eq_true rfl) (by decide) (e5_isDegree (by omega)) ?_
    refine ev_ifd_eq (pc' := 19) (tgt := 37) dX0_makesSense_16 (by decide) rfl (fun c16 => ?_) (fun c16 => ?_)
    · refine ev_iconst (pc' := 38) (iI (0)) dX0_makesSense_37 rfl (by decide) ?_
      exact ev_zreI dX0_makesSense_38 (by first | exact b2i_1 (by unfold cmK; rw [hR]; (repeat (first | rw [if_pos (by omega)] | rw [if_neg (by omega)])); exact decide_eq_true (by omega)) | exact b2i_n (by unfold cmK; rw [hR]; (repeat (first | rw [if_pos (by omega)] | rw [if_neg (by omega)])); rw [decide_eq_false (by omega)]; decide))
    · refine ev_aload_n (pc' := 20) dX0_makesSense_19 rfl rfl ?_
      refine ev_getfield (pc' := 23) fX0_28 dX0_makesSense_20 rfl hRd rfl ?_
      refine ev_iconst (pc' := 24) (iI (2)) dX0_makesSense_23 rfl (by decide) ?_
      refine ev_icmpI_gt (pc' := 27) (tgt := 37) dX0_makesSense_24 (by decide) rfl (by omega) (by omega) (fun c24 => ?_) (fun c24 => ?_)
      · refine ev_iconst (pc' := 38) (iI (0)) dX0_makesSense_37 rfl (by decide) ?_
        exact ev_zreI dX0_makesSense_38 (by first | exact b2i_1 (by unfold cmK; rw [hR]; (repeat (first | rw [if_pos (by omega)] | rw [if_neg (by omega)])); exact decide_eq_true (by omega)) | exact b2i_n (by unfold cmK; rw [hR]; (repeat (first | rw [if_pos (by omega)] | rw [if_neg (by omega)])); rw [decide_eq_false (by omega)]; decide))
      · refine ev_iload_n (pc' := 28) dX0_makesSense_27 rfl rfl ?_
        refine ev_bipush (pc' := 30) (iI (10)) dX0_makesSense_28 rfl (by decide) ?_
        refine ev_icmpI_ge (pc' := 33) (tgt := 37) dX0_makesSense_30 (by decide) rfl (by omega) (by omega) (fun c30 => ?_) (fun c30 => ?_)
        · refine ev_iconst (pc' := 38) (iI (0)) dX0_makesSense_37 rfl (by decide) ?_
          exact ev_zreI dX0_makesSense_38 (by first | exact b2i_1 (by unfold cmK; rw [hR]; (repeat (first | rw [if_pos (by omega)] | rw [if_neg (by omega)])); exact decide_eq_true (by omega)) | exact b2i_n (by unfold cmK; rw [hR]; (repeat (first | rw [if_pos (by omega)] | rw [if_neg (by omega)])); rw [decide_eq_false (by omega)]; decide))
        · refine ev_iconst (pc' := 34) (iI (1)) dX0_makesSense_33 rfl (by decide) ?_
          refine ev_goto (tgt := 38) dX0_makesSense_34 (by decide) ?_
          exact ev_zreI dX0_makesSense_38 (by first | exact b2i_1 (by unfold cmK; rw [hR]; (repeat (first | rw [if_pos (by omega)] | rw [if_neg (by omega)])); exact decide_eq_true (by omega)) | exact b2i_n (by unfold cmK; rw [hR]; (repeat (first | rw [if_pos (by omega)] | rw [if_neg (by omega)])); rw [decide_eq_false (by omega)]; decide))
end CW1
