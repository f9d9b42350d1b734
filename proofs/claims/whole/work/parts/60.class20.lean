section CX1
variable {l : Launch} {dd : Nat} {own nm : String} {cc : ByteArray} {nL : Nat} {ret : Option FieldType} {pc pc' : Nat} {lc : ev_L} {st : List Value} {h : ev_H} {Post : Option Value → ev_H → Prop}
/-- a store into a row, the heap behind it by what is known of it -/
theorem xia {a n : Nat} {S : Int → Int} {e z : Int} (hd : decode cc pc = .ok (.iastore, 1)) (hp : pc + 1 = pc') (ho : h[a]? = some (mA n S)) (hn : n ≤ 100000) (hin : 0 ≤ e ∧ e < n) (kk : ∀ h1 : ev_H, h1.length = h.length → h1[a]? = some (mA n (upI S e z)) → (∀ j, j ≠ a → h1[j]? = h[j]?) → Ex l dd own nm cc nL ret pc' lc st h1 Post) : Ex l dd own nm cc nL ret pc lc (.int (iI z) :: .int (iI e) :: .ref a :: st) h Post :=
  ex_of (fun _ _ => ev_iastoreI hd hp ho hn hin) (kk _ List.length_set (ev_gs ho) (fun j hj => set_ne hj))
/-- a put into an object, the same -/
theorem xpu {idx ci k a : Nat} {fs fs' : List Value} {x : Value} {ty : FieldType} (hf : ev_P own nm idx ci k ty) (hd : decode cc pc = .ok (.putfield idx, 3)) (hp : pc + 3 = pc') (ho : h[a]? = some (.inr (ci, fs))) (hn : narrow ty x = x) (hfit : fits ty x = true) (hlen : k < fs.length) (hs : fs.set k x = fs') (kk : ∀ h1 : ev_H, h1.length = h.length → h1[a]? = some (.inr (ci, fs')) → (∀ j, j ≠ a → h1[j]? = h[j]?) → Ex l dd own nm cc nL ret pc' lc st h1 Post) : Ex l dd own nm cc nL ret pc lc (x :: .ref a :: st) h Post := by
  subst hs
  exact ex_of (fun _ _ => ev_putfield hf hd hp ho hn hfit hlen) (kk _ List.length_set (ev_gs ho) (fun j hj => set_ne hj))
end CX1
section CX2
variable {l : Launch} {h h0 : ev_H} {A : Nat → Int → Int} {w F : Nat → Option Nat} {d : Nat} {im : Int} {R : Int → Int}
/-- the world's rows and the reader alone have changed -/
def FrW (h0 h : ev_H) : Prop := h.length = h0.length ∧ ∀ j, ¬ (1 ≤ j ∧ j ≤ 6) → j ≠ 17 → h[j]? = h0[j]?
theorem FrW.rf (h : ev_H) : FrW h h := ⟨rfl, fun _ _ _ => rfl⟩
theorem FrW.tr {h0 h1 h2 : ev_H} (a : FrW h0 h1) (b : FrW h1 h2) : FrW h0 h2 := ⟨b.1.trans a.1, fun j h1 h2 => (b.2 j h1 h2).trans (a.2 j h1 h2)⟩
theorem FrR.wd {h0 h1 : ev_H} (a : FrR h0 h1) : FrW h0 h1 := ⟨a.1, fun j _ h2 => a.2 j h2⟩
theorem SC.frW {h h2 : ev_H} (x : SC h A w) (fr : FrW h h2) : SC h2 A w := x.eq (fr.2 _ (by decide) (by decide)) (fun j j1 j2 => fr.2 j (by omega) (by omega))
/-- the rows of the world behind a statement 'p' -/
theorem cmS_p {c g v0 v1 v2 : Int} (hc : c = 112) (hR : 0 ≤ R 0 ∧ R 0 < 10) : (cmS c g v0 v1 v2 R 0 = R 0 + 1 ∧ cmS c g v0 v1 v2 R 1 = R 1 ∧ cmS c g v0 v1 v2 R 2 = R 2) ∧ (∀ p, 0 ≤ p → p < 10 → cmS c g v0 v1 v2 R (3 + 4 * p + 0) = (if p = R 0 then v0 else R (3 + 4 * p + 0)) ∧ cmS c g v0 v1 v2 R (3 + 4 * p + 1) = (if p = R 0 then v1 else R (3 + 4 * p + 1)) ∧ cmS c g v0 v1 v2 R (3 + 4 * p + 2) = (if p = R 0 then g else R (3 + 4 * p + 2)) ∧ cmS c g v0 v1 v2 R (3 + 4 * p + 3) = (if p = R 0 then v2 else R (3 + 4 * p + 3))) ∧ ∀ x, 43 ≤ x → cmS c g v0 v1 v2 R x = R x := by
  unfold cmS
  rw [if_neg (by omega), if_pos hc]
  refine ⟨⟨upI_s _ _ _, ?_, ?_⟩, fun p p1 p2 => ?_, fun x hx => ?_⟩
  · rw [upI_n (by omega), upI_n (by omega), upI_n (by omega), upI_n (by omega), upI_n (by omega)]
  · rw [upI_n (by omega), upI_n (by omega), upI_n (by omega), upI_n (by omega), upI_n (by omega)]
  · by_cases q : p = R 0
    · rw [if_pos q, if_pos q, if_pos q, if_pos q, q]
      refine ⟨?_, ?_, ?_, ?_⟩
      · rw [upI_n (by omega), upI_n (by omega), upI_n (by omega), upI_n (by omega), show 3 + 4 * R 0 + 0 = 3 + 4 * R 0 by omega, upI_s]
      · rw [upI_n (by omega), upI_n (by omega), upI_n (by omega), upI_s]
      · rw [upI_n (by omega), upI_n (by omega), upI_s]
      · rw [upI_n (by omega), upI_s]
    · rw [if_neg q, if_neg q, if_neg q, if_neg q]
      refine ⟨?_, ?_, ?_, ?_⟩ <;> rw [upI_n (by omega), upI_n (by omega), upI_n (by omega), upI_n (by omega), upI_n (by omega)]
  · rw [upI_n (by omega), upI_n (by omega), upI_n (by omega), upI_n (by omega), upI_n (by omega)]
theorem cmS_l {c g v0 v1 v2 : Int} (hc : c = 108) : cmS c g v0 v1 v2 R = upI R 2 v0 := by unfold cmS; rw [if_pos hc]
theorem cmS_w {c g v0 v1 v2 : Int} (hc : c ≠ 108 ∧ c ≠ 112) : cmS c g v0 v1 v2 R = upI (upI R (43 + 10 * v0 + v1) v2) (43 + 10 * v1 + v0) v2 := by unfold cmS; rw [if_neg hc.1, if_neg hc.2]
theorem smS_v0 {T : Int → Int} {n p : Int} (ok : stOK T n p) (hk : smK T n p R = true) (hR : 0 ≤ R 0 ∧ R 0 ≤ 10) : smS T n p R 0 = (if chr T n p = 112 then R 0 + 1 else R 0) := by
  have nums := st_nums ok
  unfold smK cmK at hk
  unfold smS
  by_cases c1 : chr T n p = 108
  · rw [cmS_l c1, upI_n (by decide), if_neg (by omega)]
  · rw [if_neg c1] at hk
    have n2 := nums.2 c1
    by_cases c2 : chr T n p = 112
    · rw [if_pos c2] at hk
      have hk := of_decide_eq_true hk
      rw [if_pos c2, (cmS_p c2 (by omega)).1.1]
    · rw [cmS_w ⟨c1, c2⟩, if_neg c2, upI_n (by omega), upI_n (by omega)]
theorem smS_hi {T : Int → Int} {n p : Int} (ok : stOK T n p) (hk : smK T n p R = true) (hR : 0 ≤ R 0 ∧ R 0 ≤ 10) : smS T n p R 1 = R 1 ∧ ∀ x, 143 ≤ x → smS T n p R x = R x := by
  have nums := st_nums ok
  unfold smK cmK at hk
  unfold smS
  by_cases c1 : chr T n p = 108
  · rw [cmS_l c1]
    exact ⟨upI_n (by decide), fun x hx => upI_n (by omega)⟩
  · rw [if_neg c1] at hk
    have n2 := nums.2 c1
    by_cases c2 : chr T n p = 112
    · rw [if_pos c2] at hk
      have hk := of_decide_eq_true hk
      have q := cmS_p (R := R) (g := stG T n p) (v0 := rdV T n (p + 1)) (v1 := rdV T n (st0 T n p + 1)) (v2 := rdV T n (st1 T n p + 1)) c2 (by omega)
      exact ⟨q.1.2.1, fun x hx => q.2.2 x (by omega)⟩
    · rw [if_neg c2] at hk
      have hk := of_decide_eq_true hk
      rw [cmS_w ⟨c1, c2⟩]
      exact ⟨by rw [upI_n (by omega), upI_n (by omega)], fun x hx => by rw [upI_n (by omega), upI_n (by omega)]⟩
theorem smS_I {T : Int → Int} {n p : Int} (ok : stOK T n p) (hk : smK T n p R = true) (hI : mI0 R) : mI0 (smS T n p R) := by
  refine ⟨smS_0 ok hk hI.1, ?_, ?_⟩
  · rw [(smS_hi ok hk hI.1).1]; exact hI.2.1
  · have nums := st_nums ok
    unfold smK cmK at hk
    unfold smS
    by_cases c1 : chr T n p = 108
    · rw [if_pos c1] at hk
      have hk := of_decide_eq_true hk
      rw [cmS_l c1, upI_s]; omega
    · rw [if_neg c1] at hk
      have n2 := nums.2 c1
      by_cases c2 : chr T n p = 112
      · rw [if_pos c2] at hk
        have hk := of_decide_eq_true hk
        rw [(cmS_p c2 (by have := hI.1; omega)).1.2.2]; exact hI.2.2
      · rw [cmS_w ⟨c1, c2⟩, upI_n (by omega), upI_n (by omega)]; exact hI.2.2
theorem wK_hi {T : Int → Int} {n : Int} : ∀ (k : Nat) (p : Int) (R : Int → Int), wG T n k p → (0 ≤ R 0 ∧ R 0 ≤ 10) → (wK T n k p R).2 1 = R 1 ∧ ∀ x, 143 ≤ x → (wK T n k p R).2 x = R x
  | 0, p, R, _, _ => ⟨rfl, fun _ _ => rfl⟩
  | k + 1, p, R, hg, hR => by
    obtain ⟨ok, hg2⟩ := hg
    unfold wK
    by_cases c : smK T n p R = true
    · rw [if_pos c]
      obtain ⟨a, b⟩ := wK_hi k (stP T n p) (smS T n p R) hg2 (smS_0 ok c hR)
      obtain ⟨a2, b2⟩ := smS_hi ok c hR
      exact ⟨a.trans a2, fun x hx => (b x hx).trans (b2 x hx)⟩
    · rw [if_neg c]
      exact ⟨rfl, fun _ _ => rfl⟩
theorem e0_rewind {tv : Value} {a1 a2 a3 a4 a5 a6 a7 a8 : Int} (hRd : h[17]? = some (cRd tv a1 a2 a3 a4 a5 a6 a7 a8)) : Ev l 0 yX0_rewind.cls yX0_rewind.name cX0_rewind 1 none 0 [some (.ref 17)] [] h none (h.set 17 (cRd tv 0 a2 a3 a4 a5 a6 a7 a8)) := by
  refine ev_aload_n (pc' := 1) dX0_rewind_0 rfl rfl ?_
  refine ev_iconst (pc' := 2) (iI (0)) dX0_rewind_1 rfl (by decide) ?_
  refine ev_putfield (pc' := 5) (pX0_15 _) dX0_rewind_2 rfl hRd rfl rfl (Nat.le_of_ble_eq_true rfl) ?_
  exact ev_vret dX0_rewind_5
theorem e0_open {tv : Value} {a : Nat} {a1 a2 a3 a4 a5 a6 a7 a8 : Int} (hRd : h[17]? = some (cRd tv a1 a2 a3 a4 a5 a6 a7 a8)) : Ev l 0 yX0_open.cls yX0_open.name cX0_open 2 none 0 [some (.ref 17), some (.ref a)] [] h none (h.set 17 (cRd (.ref a) a1 a2 a3 a4 a5 a6 a7 a8)) := by
  refine ev_aload_n (pc' := 1) dX0_open_0 rfl rfl ?_
  refine ev_aload_n (pc' := 2) dX0_open_1 rfl rfl ?_
  refine ev_putfield (pc' := 5) (pX0_9 _) dX0_open_2 rfl hRd rfl rfl (Nat.le_of_ble_eq_true rfl) ?_
  exact ev_vret dX0_open_5
theorem e5_rfL {Z : Int} (hX : h0[0]? = some (cWd (.ref 1) (.ref 8) im (.ref 15) (.ref 16) (.ref 17))) (hS : SC h0 A w) (hA : mSh A) (hd : d < 8) (hk2 : A 2 (d : Int) = 2) : ∀ (c : Nat) (k p : Int) (h : ev_H) (a2 a3 a4 a5 a6 a7 a8 : Int), wF (txt A (100 * (d : Int))) (A 4 (d : Int)) c k p = Z → (A 4 (d : Int)) - p < c → (0 ≤ p ∧ p ≤ (A 4 (d : Int))) → 0 ≤ k → 3 * k ≤ p → FrR h0 h → h[17]? = some (cRd (.ref (18 + 2 * d)) p a2 a3 a4 a5 a6 a7 a8) → Ex l 5 yX5_readForm.cls yX5_readForm.name cX5_readForm 2 (some .int) 9 [some (.ref 0), some (.int (iI (k + 1)))] [] h (fun v h2 => v = some (.int (iI Z)) ∧ FrR h0 h2 ∧ ∃ a1 a2 a3 a4 a5 a6 a7 a8, h2[17]? = some (cRd (.ref (18 + 2 * d)) a1 a2 a3 a4 a5 a6 a7 a8)) := by
  obtain ⟨z1, z2, z3, z4, z5⟩ := hA.1 (d : Int) (by omega) (by omega)
  intro c
  induction c with
  | zero => intro k p h a2 a3 a4 a5 a6 a7 a8 hF h1 h2 h3 h4 fr hRd; omega
  | succ c ih =>
    intro k p h a2 a3 a4 a5 a6 a7 a8 hF h1 h2 h3 h4 fr hRd
    have hX0 := (fr.2 0 (by decide)).trans hX
    refine ex_of (fun _ _ => ev_iload_n (pc' := 10) dX5_readForm_9 rfl rfl) ?_
    refine ex_of (fun _ _ => ev_bipush (pc' := 12) (iI (100)) dX5_readForm_10 rfl (by decide)) ?_
    refine ex_icmpI_gt (pc' := 15) (tgt := 55) dX5_readForm_12 (by decide) rfl (by omega) (by omega) (fun c12 => ?_) (fun c12 => ?_)
    · omega
    · refine ex_of (fun _ _ => ev_aload_n (pc' := 16) dX5_readForm_15 rfl rfl) ?_
      refine ex_of (fun _ _ => ev_getfield (pc' := 19) fX5_39 dX5_readForm_16 rfl hX0 rfl) ?_
      have hO := hRd
      obtain ⟨w1, h1, E1, rfl, fr1, le, f1, f2, f3, ch, nu, hRd, ok1⟩ := e0_readStatement (l := l) (p := p) (hS.frR fr) hA hd hk2 (by omega) hRd
      refine ex_of (fun _ _ => ev_callV0 (pc' := 22) kX5_345 mX0_readStatement dX5_readForm_19 rfl rfl (Nat.le_of_ble_eq_true rfl) (Nat.le_of_ble_eq_true rfl) (by decide) rfl hO E1) ?_
      have fr := fr.tr fr1
      have hX0 := (fr.2 0 (by decide)).trans hX
      refine ex_ifd_ne (pc' := 25) (tgt := 37) dX5_readForm_22 (by decide) rfl (fun c22 => ?_) (fun c22 => ?_)
      · have ok := stK_iff.mp c22
        have sp := stP_ok ok
        refine ex_of (fun _ _ => ev_aload_n (pc' := 38) dX5_readForm_37 rfl rfl) ?_
        refine ex_of (fun _ _ => ev_getfield (pc' := 41) fX5_39 dX5_readForm_38 rfl hX0 rfl) ?_
        refine ex_of (fun _ _ => ev_callV0 (pc' := 44) kX5_351 mX0_isAtEnd dX5_readForm_41 rfl rfl (Nat.le_of_ble_eq_true rfl) (Nat.le_of_ble_eq_true rfl) (by decide) rfl hRd (e0_isAtEnd (hS.frR fr) hA hd hk2 (p := stP (txt A (100 * (d : Int))) (A 4 (d : Int)) p) (by omega) hRd)) ?_
        refine ex_ifd_eq (pc' := 47) (tgt := 49) dX5_readForm_44 (by decide) rfl (fun c44 => ?_) (fun c44 => ?_)
        · refine ex_of (fun _ _ => ev_iincI_1 (pc' := 52) dX5_readForm_49 rfl (by decide) rfl) ?_
          refine ex_of (fun _ _ => ev_goto (tgt := 9) dX5_readForm_52 (by decide)) ?_
          have hF2 : wF (txt A (100 * (d : Int))) (A 4 (d : Int)) c (k + 1) (stP (txt A (100 * (d : Int))) (A 4 (d : Int)) p) = Z := by
            rw [← hF]
            conv => rhs; unfold wF
            rw [if_pos c22, if_pos (by omega)]
          exact ih (k + 1) _ _ _ _ _ _ _ _ _ hF2 (by omega) (by omega) (by omega) (by omega) fr hRd
        · refine ex_of (fun _ _ => ev_iload_n (pc' := 48) dX5_readForm_47 rfl rfl) ?_
          exact ex_end (ev_iret dX5_readForm_48 rfl) (⟨by rw [← hF]; unfold wF; rw [if_pos c22, if_neg (by omega)], fr, _, _, _, _, _, _, _, _, hRd⟩)
      · refine ex_of (fun _ _ => ev_sipush (pc' := 28) (iI (-1000)) dX5_readForm_25 rfl (by decide)) ?_
        refine ex_of (fun _ _ => ev_aload_n (pc' := 29) dX5_readForm_28 rfl rfl) ?_
        refine ex_of (fun _ _ => ev_getfield (pc' := 32) fX5_39 dX5_readForm_29 rfl hX0 rfl) ?_
        refine ex_of (fun _ _ => ev_getfield (pc' := 35) fX5_348 dX5_readForm_32 rfl hRd rfl) ?_
        refine ex_of (fun _ _ => ev_isubI (pc' := 36) dX5_readForm_35 rfl) ?_
        exact ex_end (ev_iret dX5_readForm_36 rfl) (⟨by rw [← hF]; unfold wF; rw [if_neg c22], fr, _, _, _, _, _, _, _, _, hRd⟩)
theorem e5_readForm {tv : Value} {a1 a2 a3 a4 a5 a6 a7 a8 : Int} (hX : h0[0]? = some (cWd (.ref 1) (.ref 8) im (.ref 15) (.ref 16) (.ref 17))) (hS : SC h0 A w) (hA : mSh A) (hd : d < 8) (hk2 : A 2 (d : Int) = 2) (hRd : h0[17]? = some (cRd (.ref (18 + 2 * d)) a1 a2 a3 a4 a5 a6 a7 a8)) : Ex l 5 yX5_readForm.cls yX5_readForm.name cX5_readForm 2 (some .int) 0 [some (.ref 0), none] [] h0 (fun v h2 => v = some (.int (iI (wF (txt A (100 * (d : Int))) (A 4 (d : Int)) 200 0 0))) ∧ FrR h0 h2 ∧ ∃ a1 a2 a3 a4 a5 a6 a7 a8, h2[17]? = some (cRd (.ref (18 + 2 * d)) a1 a2 a3 a4 a5 a6 a7 a8)) := by
  obtain ⟨z1, z2, z3, z4, z5⟩ := hA.1 (d : Int) (by omega) (by omega)
  refine ex_of (fun _ _ => ev_aload_n (pc' := 1) dX5_readForm_0 rfl rfl) ?_
  refine ex_of (fun _ _ => ev_getfield (pc' := 4) fX5_39 dX5_readForm_1 rfl hX rfl) ?_
  refine ex_of (fun _ _ => ev_callV0v (pc' := 7) kX5_342 mX0_rewind dX5_readForm_4 rfl rfl (Nat.le_of_ble_eq_true rfl) (Nat.le_of_ble_eq_true rfl) (by decide) rfl hRd (e0_rewind hRd)) ?_
  refine ex_of (fun _ _ => ev_iconst (pc' := 8) (iI (1)) dX5_readForm_7 rfl (by decide)) ?_
  refine ex_of (fun _ _ => ev_istore_1 (pc' := 9) dX5_readForm_8 rfl (by decide) rfl) ?_
  exact e5_rfL hX hS hA hd hk2 200 0 0 _ _ _ _ _ _ _ _ rfl (by omega) (by omega) (by omega) (by omega) (FrR.set h0 _) (ev_gs hRd)
theorem e5_seL {M : Int} {r : Int × (Int → Int)} (hX : h0[0]? = some (cWd (.ref 1) (.ref 8) im (.ref 15) (.ref 16) (.ref 17))) (hS : SC h0 A w) (hA : mSh A) (hd : d < 8) (hk2 : A 2 (d : Int) = 2) : ∀ (k : Nat) (i q p : Int) (R : Int → Int) (h : ev_H) (a2 a3 a4 a5 a6 a7 a8 : Int), wG (txt A (100 * (d : Int))) (A 4 (d : Int)) k p → wK (txt A (100 * (d : Int))) (A 4 (d : Int)) k p R = r → R 0 = q → (0 ≤ q ∧ q ≤ 10) → i + k = M → 0 ≤ i → M ≤ 1000 → (0 ≤ p ∧ p ≤ (A 4 (d : Int))) → FrR h0 h → h[17]? = some (cRd (.ref (18 + 2 * d)) p a2 a3 a4 a5 a6 a7 a8) → Ex l 5 yX5_readSense.cls yX5_readSense.name cX5_readSense 4 (some .int) 17 [some (.ref 0), some (.int (iI M)), some (.int (iI q)), some (.int (iI i))] [] h (fun v h2 => v = some (.int (iI r.1)) ∧ FrR h0 h2 ∧ ∃ a1 a2 a3 a4 a5 a6 a7 a8, h2[17]? = some (cRd (.ref (18 + 2 * d)) a1 a2 a3 a4 a5 a6 a7 a8)) := by
  obtain ⟨z1, z2, z3, z4, z5⟩ := hA.1 (d : Int) (by omega) (by omega)
  intro k
  induction k with
  | zero =>
    intro i q p R h a2 a3 a4 a5 a6 a7 a8 hg hr hR hq hi i0 iM hp fr hRd
    refine ex_of (fun _ _ => ev_iload_n (pc' := 18) dX5_readSense_17 rfl rfl) ?_
    refine ex_of (fun _ _ => ev_iload_n (pc' := 19) dX5_readSense_18 rfl rfl) ?_
    refine ex_icmpI_ge (pc' := 22) (tgt := 76) dX5_readSense_19 (by decide) rfl (by omega) (by omega) (fun c19 => ?_) (fun c19 => ?_)
    · refine ex_of (fun _ _ => ev_iconst (pc' := 77) (iI (0)) dX5_readSense_76 rfl (by decide)) ?_
      exact ex_end (ev_iret dX5_readSense_77 rfl) (⟨by rw [← hr]; rfl, fr, _, _, _, _, _, _, _, _, hRd⟩)
    · omega
  | succ k ih =>
    intro i q p R h a2 a3 a4 a5 a6 a7 a8 hg hr hR hq hi i0 iM hp fr hRd
    obtain ⟨hok, hg2⟩ := hg
    have hX0 := (fr.2 0 (by decide)).trans hX
    have sp := stP_ok hok
    have nums := st_nums hok
    have hc := hok.1
    refine ex_of (fun _ _ => ev_iload_n (pc' := 18) dX5_readSense_17 rfl rfl) ?_
    refine ex_of (fun _ _ => ev_iload_n (pc' := 19) dX5_readSense_18 rfl rfl) ?_
    refine ex_icmpI_ge (pc' := 22) (tgt := 76) dX5_readSense_19 (by decide) rfl (by omega) (by omega) (fun c19 => ?_) (fun c19 => ?_)
    · omega
    · refine ex_of (fun _ _ => ev_aload_n (pc' := 23) dX5_readSense_22 rfl rfl) ?_
      refine ex_of (fun _ _ => ev_getfield (pc' := 26) fX5_39 dX5_readSense_23 rfl hX0 rfl) ?_
      have hO := hRd
      obtain ⟨w1, h1, E1, rfl, fr1, le, f1, f2, f3, ch, nu, hRd, ok1⟩ := e0_readStatement (l := l) (p := p) (hS.frR fr) hA hd hk2 (by omega) hRd
      refine ex_of (fun _ _ => ev_callV0 (pc' := 29) kX5_345 mX0_readStatement dX5_readSense_26 rfl rfl (Nat.le_of_ble_eq_true rfl) (Nat.le_of_ble_eq_true rfl) (by decide) rfl hO E1) ?_
      have fr := fr.tr fr1
      have hX0 := (fr.2 0 (by decide)).trans hX
      obtain ⟨rfl, rfl, u3, u4⟩ := ok1 hok
      have e9 : cmK (chr (txt A (100 * (d : Int))) (A 4 (d : Int)) p) (rdV (txt A (100 * (d : Int))) (A 4 (d : Int)) (p + 1)) f2 f3 R = smK (txt A (100 * (d : Int))) (A 4 (d : Int)) p R := (cmm_eq (g := 0) u3).1
      refine ex_ifd_eq (pc' := 32) (tgt := 43) dX5_readSense_29 (by decide) rfl (fun c29 => ?_) (fun c29 => ?_)
      · exact absurd (stK_iff.mpr hok) c29
      · refine ex_of (fun _ _ => ev_aload_n (pc' := 33) dX5_readSense_32 rfl rfl) ?_
        refine ex_of (fun _ _ => ev_getfield (pc' := 36) fX5_39 dX5_readSense_33 rfl hX0 rfl) ?_
        refine ex_of (fun _ _ => ev_iload_n (pc' := 37) dX5_readSense_36 rfl rfl) ?_
        refine ex_of (fun _ _ => ev_callV1 (pc' := 40) kX5_354 mX0_makesSense dX5_readSense_37 rfl rfl (Nat.le_of_ble_eq_true rfl) (Nat.le_of_ble_eq_true rfl) (by decide) rfl hRd (e0_makesSense hRd (by omega) nums.1 (fun y => by rw [(u3 y).1, (u3 y).2]; exact nums.2 y) hq hR)) ?_
        refine ex_ifd_ne (pc' := 43) (tgt := 55) dX5_readSense_40 (by decide) rfl (fun c40 => ?_) (fun c40 => ?_)
        · refine ex_of (fun _ _ => ev_aload_n (pc' := 56) dX5_readSense_55 rfl rfl) ?_
          refine ex_of (fun _ _ => ev_getfield (pc' := 59) fX5_39 dX5_readSense_56 rfl hX0 rfl) ?_
          refine ex_of (fun _ _ => ev_getfield (pc' := 62) fX5_360 dX5_readSense_59 rfl hRd rfl) ?_
          refine ex_of (fun _ _ => ev_bipush (pc' := 64) (iI (112)) dX5_readSense_62 rfl (by decide)) ?_
          refine ex_icmpI_ne (pc' := 67) (tgt := 70) dX5_readSense_64 (by decide) rfl (by omega) (by omega) (fun c64 => ?_) (fun c64 => ?_)
          · refine ex_of (fun _ _ => ev_iincI_3 (pc' := 73) dX5_readSense_70 rfl (by decide) rfl) ?_
            refine ex_of (fun _ _ => ev_goto (tgt := 17) dX5_readSense_73 (by decide)) ?_
            have hk9 : smK (txt A (100 * (d : Int))) (A 4 (d : Int)) p R = true := by rw [← e9]; exact c40
            have hr2 : wK (txt A (100 * (d : Int))) (A 4 (d : Int)) k (stP (txt A (100 * (d : Int))) (A 4 (d : Int)) p) (smS (txt A (100 * (d : Int))) (A 4 (d : Int)) p R) = r := by
              rw [← hr]
              conv => rhs; unfold wK
              rw [if_pos hk9]
            have v0 := smS_v0 hok hk9 (by omega)
            have v1 := smS_0 hok hk9 (by omega)
            refine ih (i + 1) _ _ _ _ _ _ _ _ _ _ _ hg2 hr2 ?_ ?_ (by omega) (by omega) iM (by omega) fr hRd
            · rw [v0]; first | rw [if_pos (by omega)]; omega | rw [if_neg (by omega)]; omega
            · first | (rw [if_pos (by omega)] at v0; omega) | (rw [if_neg (by omega)] at v0; omega)
          · refine ex_of (fun _ _ => ev_iincI_2 (pc' := 70) dX5_readSense_67 rfl (by decide) rfl) ?_
            refine ex_of (fun _ _ => ev_iincI_3 (pc' := 73) dX5_readSense_70 rfl (by decide) rfl) ?_
            refine ex_of (fun _ _ => ev_goto (tgt := 17) dX5_readSense_73 (by decide)) ?_
            have hk9 : smK (txt A (100 * (d : Int))) (A 4 (d : Int)) p R = true := by rw [← e9]; exact c40
            have hr2 : wK (txt A (100 * (d : Int))) (A 4 (d : Int)) k (stP (txt A (100 * (d : Int))) (A 4 (d : Int)) p) (smS (txt A (100 * (d : Int))) (A 4 (d : Int)) p R) = r := by
              rw [← hr]
              conv => rhs; unfold wK
              rw [if_pos hk9]
            have v0 := smS_v0 hok hk9 (by omega)
            have v1 := smS_0 hok hk9 (by omega)
            refine ih (i + 1) _ _ _ _ _ _ _ _ _ _ _ hg2 hr2 ?_ ?_ (by omega) (by omega) iM (by omega) fr hRd
            · rw [v0]; first | rw [if_pos (by omega)]; omega | rw [if_neg (by omega)]; omega
            · first | (rw [if_pos (by omega)] at v0; omega) | (rw [if_neg (by omega)] at v0; omega)
        · refine ex_of (fun _ _ => ev_sipush (pc' := 46) (iI (-2000)) dX5_readSense_43 rfl (by decide)) ?_
          refine ex_of (fun _ _ => ev_aload_n (pc' := 47) dX5_readSense_46 rfl rfl) ?_
          refine ex_of (fun _ _ => ev_getfield (pc' := 50) fX5_39 dX5_readSense_47 rfl hX0 rfl) ?_
          refine ex_of (fun _ _ => ev_getfield (pc' := 53) fX5_357 dX5_readSense_50 rfl hRd rfl) ?_
          refine ex_of (fun _ _ => ev_isubI (pc' := 54) dX5_readSense_53 rfl) ?_
          exact ex_end (ev_iret dX5_readSense_54 rfl) (⟨by rw [← hr]; unfold wK; rw [if_neg (by rw [← e9]; exact c40)], fr, _, _, _, _, _, _, _, _, hRd⟩)
theorem e5_readSense {a1 a2 a3 a4 a5 a6 a7 a8 M : Int} {k : Nat} (hX : h0[0]? = some (cWd (.ref 1) (.ref 8) im (.ref 15) (.ref 16) (.ref 17))) (hS : SC h0 A w) (hA : mSh A) (hd : d < 8) (hk2 : A 2 (d : Int) = 2) (hN : NW h0 (A 0) F) (hI : mI0 (A 0)) (hg : wG (txt A (100 * (d : Int))) (A 4 (d : Int)) k 0) (hM : (k : Int) = M) (hM2 : M ≤ 1000) (hRd : h0[17]? = some (cRd (.ref (18 + 2 * d)) a1 a2 a3 a4 a5 a6 a7 a8)) : Ex l 5 yX5_readSense.cls yX5_readSense.name cX5_readSense 4 (some .int) 0 [some (.ref 0), some (.int (iI M)), none, none] [] h0 (fun v h2 => v = some (.int (iI (wK (txt A (100 * (d : Int))) (A 4 (d : Int)) k 0 (A 0)).1)) ∧ FrR h0 h2 ∧ ∃ a1 a2 a3 a4 a5 a6 a7 a8, h2[17]? = some (cRd (.ref (18 + 2 * d)) a1 a2 a3 a4 a5 a6 a7 a8)) := by
  obtain ⟨z1, z2, z3, z4, z5⟩ := hA.1 (d : Int) (by omega) (by omega)
  obtain ⟨⟨i1, i2⟩, ⟨i3, i4⟩, i5, i6⟩ := id hI
  have hW := hN.1
  refine ex_of (fun _ _ => ev_aload_n (pc' := 1) dX5_readSense_0 rfl rfl) ?_
  refine ex_of (fun _ _ => ev_getfield (pc' := 4) fX5_39 dX5_readSense_1 rfl hX rfl) ?_
  refine ex_of (fun _ _ => ev_callV0v (pc' := 7) kX5_342 mX0_rewind dX5_readSense_4 rfl rfl (Nat.le_of_ble_eq_true rfl) (Nat.le_of_ble_eq_true rfl) (by decide) rfl hRd (e0_rewind hRd)) ?_
  refine ex_of (fun _ _ => ev_aload_n (pc' := 8) dX5_readSense_7 rfl rfl) ?_
  refine ex_of (fun _ _ => ev_getfield (pc' := 11) fX5_12 dX5_readSense_8 rfl ((FrR.set h0 _).2 0 (by decide) |>.trans hX) rfl) ?_
  refine ex_of (fun _ _ => ev_getfield (pc' := 14) fX5_210 dX5_readSense_11 rfl ((FrR.set h0 _).2 1 (by decide) |>.trans hW) rfl) ?_
  refine ex_of (fun _ _ => ev_istore_2 (pc' := 15) dX5_readSense_14 rfl (by decide) rfl) ?_
  refine ex_of (fun _ _ => ev_iconst (pc' := 16) (iI (0)) dX5_readSense_15 rfl (by decide)) ?_
  refine ex_of (fun _ _ => ev_istore_3 (pc' := 17) dX5_readSense_16 rfl (by decide) rfl) ?_
  exact e5_seL hX hS hA hd hk2 k 0 _ 0 (A 0) _ _ _ _ _ _ _ _ hg rfl rfl (by omega) (by omega) (by omega) hM2 (by omega) (FrR.set h0 _) (ev_gs hRd)
theorem e4_addPlace {c g v0 v1 v2 : Int} (hN : NW h0 R F) (hR : 0 ≤ R 0 ∧ R 0 < 10) (hc : c = 112) : Ex l 0 yX4_addPlace.cls yX4_addPlace.name cX4_addPlace 5 none 0 [some (.ref 1), some (.int (iI v0)), some (.int (iI v1)), some (.int (iI v2)), some (.int (iI g))] [] h0 (fun v h2 => v = none ∧ h2.length = h0.length ∧ (∀ j, ¬ (1 ≤ j ∧ j ≤ 6) → h2[j]? = h0[j]?) ∧ NW h2 (cmS c g v0 v1 v2 R) F) := by
  obtain ⟨D, U, C, Q, X, hW, ⟨hD, eD⟩, ⟨hU, eU⟩, ⟨hC, eC⟩, ⟨hQ, eQ⟩, ⟨hX, eX⟩, hF⟩ := CW.op hN
  have L : h0.length = h0.length := rfl
  have fr : ∀ j, ¬ (1 ≤ j ∧ j ≤ 6) → h0[j]? = h0[j]? := fun _ _ => rfl
  obtain ⟨⟨w0, w1, w2⟩, w3, w4⟩ := cmS_p (R := R) (g := g) (v0 := v0) (v1 := v1) (v2 := v2) hc hR
  refine ex_of (fun _ _ => ev_aload_n (pc' := 1) dX4_addPlace_0 rfl rfl) ?_
  refine ex_of (fun _ _ => ev_getfield (pc' := 4) fX4_9 dX4_addPlace_1 rfl hW rfl) ?_
  refine ex_of (fun _ _ => ev_bipush (pc' := 6) (iI (10)) dX4_addPlace_4 rfl (by decide)) ?_
  refine ex_icmpI_lt (pc' := 9) (tgt := 10) dX4_addPlace_6 (by decide) rfl (by omega) (by omega) (fun c6 => ?_) (fun c6 => ?_)
  · refine ex_of (fun _ _ => ev_aload_n (pc' := 11) dX4_addPlace_10 rfl rfl) ?_
    refine ex_of (fun _ _ => ev_getfield (pc' := 14) fX4_21 dX4_addPlace_11 rfl hW rfl) ?_
    refine ex_of (fun _ _ => ev_aload_n (pc' := 15) dX4_addPlace_14 rfl rfl) ?_
    refine ex_of (fun _ _ => ev_getfield (pc' := 18) fX4_9 dX4_addPlace_15 rfl hW rfl) ?_
    refine ex_of (fun _ _ => ev_iload_n (pc' := 19) dX4_addPlace_18 rfl rfl) ?_
    refine xia (pc' := 20) dX4_addPlace_19 rfl hD (by decide) (by omega) (fun h L1 hD g1 => ?_)
    have L := L1.trans L
    have fr : ∀ j, ¬ (1 ≤ j ∧ j ≤ 6) → h[j]? = h0[j]? := fun j hj => (g1 j (by omega)).trans (fr j hj)
    have hW := (g1 1 (by decide)).trans hW
    have hU := (g1 3 (by decide)).trans hU
    have hC := (g1 4 (by decide)).trans hC
    have hQ := (g1 5 (by decide)).trans hQ
    have hX := (g1 6 (by decide)).trans hX
    have hF := (g1 7 (by decide)).trans hF
    refine ex_of (fun _ _ => ev_aload_n (pc' := 21) dX4_addPlace_20 rfl rfl) ?_
    refine ex_of (fun _ _ => ev_getfield (pc' := 24) fX4_25 dX4_addPlace_21 rfl hW rfl) ?_
    refine ex_of (fun _ _ => ev_aload_n (pc' := 25) dX4_addPlace_24 rfl rfl) ?_
    refine ex_of (fun _ _ => ev_getfield (pc' := 28) fX4_9 dX4_addPlace_25 rfl hW rfl) ?_
    refine ex_of (fun _ _ => ev_iload_n (pc' := 29) dX4_addPlace_28 rfl rfl) ?_
    refine xia (pc' := 30) dX4_addPlace_29 rfl hU (by decide) (by omega) (fun h L1 hU g1 => ?_)
    have L := L1.trans L
    have fr : ∀ j, ¬ (1 ≤ j ∧ j ≤ 6) → h[j]? = h0[j]? := fun j hj => (g1 j (by omega)).trans (fr j hj)
    have hW := (g1 1 (by decide)).trans hW
    have hD := (g1 2 (by decide)).trans hD
    have hC := (g1 4 (by decide)).trans hC
    have hQ := (g1 5 (by decide)).trans hQ
    have hX := (g1 6 (by decide)).trans hX
    have hF := (g1 7 (by decide)).trans hF
    refine ex_of (fun _ _ => ev_aload_n (pc' := 31) dX4_addPlace_30 rfl rfl) ?_
    refine ex_of (fun _ _ => ev_getfield (pc' := 34) fX4_31 dX4_addPlace_31 rfl hW rfl) ?_
    refine ex_of (fun _ _ => ev_aload_n (pc' := 35) dX4_addPlace_34 rfl rfl) ?_
    refine ex_of (fun _ _ => ev_getfield (pc' := 38) fX4_9 dX4_addPlace_35 rfl hW rfl) ?_
    refine ex_of (fun _ _ => ev_iload_n (pc' := 39) dX4_addPlace_38 rfl rfl) ?_
    refine xia (pc' := 40) dX4_addPlace_39 rfl hQ (by decide) (by omega) (fun h L1 hQ g1 => ?_)
    have L := L1.trans L
    have fr : ∀ j, ¬ (1 ≤ j ∧ j ≤ 6) → h[j]? = h0[j]? := fun j hj => (g1 j (by omega)).trans (fr j hj)
    have hW := (g1 1 (by decide)).trans hW
    have hD := (g1 2 (by decide)).trans hD
    have hU := (g1 3 (by decide)).trans hU
    have hC := (g1 4 (by decide)).trans hC
    have hX := (g1 6 (by decide)).trans hX
    have hF := (g1 7 (by decide)).trans hF
    refine ex_of (fun _ _ => ev_aload_n (pc' := 41) dX4_addPlace_40 rfl rfl) ?_
    refine ex_of (fun _ _ => ev_getfield (pc' := 44) fX4_28 dX4_addPlace_41 rfl hW rfl) ?_
    refine ex_of (fun _ _ => ev_aload_n (pc' := 45) dX4_addPlace_44 rfl rfl) ?_
    refine ex_of (fun _ _ => ev_getfield (pc' := 48) fX4_9 dX4_addPlace_45 rfl hW rfl) ?_
    refine ex_of (fun _ _ => ev_iload (pc' := 50) dX4_addPlace_48 rfl rfl) ?_
    refine xia (pc' := 51) dX4_addPlace_50 rfl hC (by decide) (by omega) (fun h L1 hC g1 => ?_)
    have L := L1.trans L
    have fr : ∀ j, ¬ (1 ≤ j ∧ j ≤ 6) → h[j]? = h0[j]? := fun j hj => (g1 j (by omega)).trans (fr j hj)
    have hW := (g1 1 (by decide)).trans hW
    have hD := (g1 2 (by decide)).trans hD
    have hU := (g1 3 (by decide)).trans hU
    have hQ := (g1 5 (by decide)).trans hQ
    have hX := (g1 6 (by decide)).trans hX
    have hF := (g1 7 (by decide)).trans hF
    refine ex_of (fun _ _ => ev_aload_n (pc' := 52) dX4_addPlace_51 rfl rfl) ?_
    refine ex_of (fun _ _ => ev_dup (pc' := 53) dX4_addPlace_52 rfl rfl) ?_
    refine ex_of (fun _ _ => ev_getfield (pc' := 56) fX4_9 dX4_addPlace_53 rfl hW rfl) ?_
    refine ex_of (fun _ _ => ev_iconst (pc' := 57) (iI (1)) dX4_addPlace_56 rfl (by decide)) ?_
    refine ex_of (fun _ _ => ev_iaddI (pc' := 58) dX4_addPlace_57 rfl) ?_
    refine xpu (pc' := 61) (fs' := [.int (iI (R 0 + 1)), .int (iI (R 1)), .int (iI (R 2)), .ref 2, .ref 3, .ref 4, .ref 5, .ref 6, .ref 7]) (pX4_9 _) dX4_addPlace_58 rfl hW rfl rfl (Nat.le_of_ble_eq_true rfl) rfl (fun h L1 hW g1 => ?_)
    have L := L1.trans L
    have fr : ∀ j, ¬ (1 ≤ j ∧ j ≤ 6) → h[j]? = h0[j]? := fun j hj => (g1 j (by omega)).trans (fr j hj)
    have hD := (g1 2 (by decide)).trans hD
    have hU := (g1 3 (by decide)).trans hU
    have hC := (g1 4 (by decide)).trans hC
    have hQ := (g1 5 (by decide)).trans hQ
    have hX := (g1 6 (by decide)).trans hX
    have hF := (g1 7 (by decide)).trans hF
    exact ex_end (ev_vret dX4_addPlace_61) (by
    refine ⟨rfl, L, fr, ?_, ⟨_, hD, fun p p1 p2 => ?_⟩, ⟨_, hU, fun p p1 p2 => ?_⟩, ⟨_, hC, fun p p1 p2 => ?_⟩, ⟨_, hQ, fun p p1 p2 => ?_⟩, ⟨_, hX, fun p p1 p2 => ?_⟩, hF⟩
    · rw [w0, w1, w2]; exact hW
    · show upI D (R 0) v0 p = cmS c g v0 v1 v2 R (3 + 4 * p + 0)
      rw [(w3 p p1 p2).1]
      by_cases z : p = R 0
      · rw [if_pos z, z, upI_s]
      · rw [if_neg z, upI_n z, eD p p1 p2]
    · show upI U (R 0) v1 p = cmS c g v0 v1 v2 R (3 + 4 * p + 1)
      rw [(w3 p p1 p2).2.1]
      by_cases z : p = R 0
      · rw [if_pos z, z, upI_s]
      · rw [if_neg z, upI_n z, eU p p1 p2]
    · show upI C (R 0) g p = cmS c g v0 v1 v2 R (3 + 4 * p + 2)
      rw [(w3 p p1 p2).2.2.1]
      by_cases z : p = R 0
      · rw [if_pos z, z, upI_s]
      · rw [if_neg z, upI_n z, eC p p1 p2]
    · show upI Q (R 0) v2 p = cmS c g v0 v1 v2 R (3 + 4 * p + 3)
      rw [(w3 p p1 p2).2.2.2]
      by_cases z : p = R 0
      · rw [if_pos z, z, upI_s]
      · rw [if_neg z, upI_n z, eQ p p1 p2]
    · rw [eX p p1 p2]; exact (w4 _ (by omega)).symm)
  · omega
theorem e4_setTrade {c g v0 v1 v2 : Int} (hN : NW h0 R F) (hI : mI0 R) (hc : c ≠ 108 ∧ c ≠ 112) (b0 : 0 ≤ v0 ∧ v0 < R 0) (b1 : 0 ≤ v1 ∧ v1 < R 0) : Ex l 1 yX4_setTrade.cls yX4_setTrade.name cX4_setTrade 4 none 0 [some (.ref 1), some (.int (iI v0)), some (.int (iI v1)), some (.int (iI v2))] [] h0 (fun v h2 => v = none ∧ h2.length = h0.length ∧ (∀ j, ¬ (1 ≤ j ∧ j ≤ 6) → h2[j]? = h0[j]?) ∧ NW h2 (cmS c g v0 v1 v2 R) F) := by
  obtain ⟨⟨i1, i2⟩, ⟨i3, i4⟩, i5, i6⟩ := id hI
  obtain ⟨D, U, C, Q, X, hW, ⟨hD, eD⟩, ⟨hU, eU⟩, ⟨hC, eC⟩, ⟨hQ, eQ⟩, ⟨hX, eX⟩, hF⟩ := CW.op hN
  have L : h0.length = h0.length := rfl
  have fr : ∀ j, ¬ (1 ≤ j ∧ j ≤ 6) → h0[j]? = h0[j]? := fun _ _ => rfl
  refine ex_of (fun _ _ => ev_aload_n (pc' := 1) dX4_setTrade_0 rfl rfl) ?_
  refine ex_of (fun _ _ => ev_iload_n (pc' := 2) dX4_setTrade_1 rfl rfl) ?_
  refine ex_of (fun _ _ => ev_callV1 (pc' := 5) kX4_43 mX4_hasPlace dX4_setTrade_2 rfl rfl (Nat.le_of_ble_eq_true rfl) (Nat.le_of_ble_eq_true rfl) (by decide) rfl hW (e4_hasPlace hN hI (by omega))) ?_
  refine ex_ifd_eq (pc' := 8) (tgt := 40) dX4_setTrade_5 (by decide) rfl (fun c5 => ?_) (fun c5 => ?_)
  · omega
  · refine ex_of (fun _ _ => ev_aload_n (pc' := 9) dX4_setTrade_8 rfl rfl) ?_
    refine ex_of (fun _ _ => ev_iload_n (pc' := 10) dX4_setTrade_9 rfl rfl) ?_
    refine ex_of (fun _ _ => ev_callV1 (pc' := 13) kX4_43 mX4_hasPlace dX4_setTrade_10 rfl rfl (Nat.le_of_ble_eq_true rfl) (Nat.le_of_ble_eq_true rfl) (by decide) rfl hW (e4_hasPlace hN hI (by omega))) ?_
    refine ex_ifd_eq (pc' := 16) (tgt := 40) dX4_setTrade_13 (by decide) rfl (fun c13 => ?_) (fun c13 => ?_)
    · omega
    · refine ex_of (fun _ _ => ev_aload_n (pc' := 17) dX4_setTrade_16 rfl rfl) ?_
      refine ex_of (fun _ _ => ev_getfield (pc' := 20) fX4_34 dX4_setTrade_17 rfl hW rfl) ?_
      refine ex_of (fun _ _ => ev_iload_n (pc' := 21) dX4_setTrade_20 rfl rfl) ?_
      refine ex_of (fun _ _ => ev_bipush (pc' := 23) (iI (10)) dX4_setTrade_21 rfl (by decide)) ?_
      refine ex_of (fun _ _ => ev_imulI (pc' := 24) dX4_setTrade_23 rfl) ?_
      refine ex_of (fun _ _ => ev_iload_n (pc' := 25) dX4_setTrade_24 rfl rfl) ?_
      refine ex_of (fun _ _ => ev_iaddI (pc' := 26) dX4_setTrade_25 rfl) ?_
      refine ex_of (fun _ _ => ev_iload_n (pc' := 27) dX4_setTrade_26 rfl rfl) ?_
      refine xia (pc' := 28) dX4_setTrade_27 rfl hX (by decide) (by omega) (fun h L1 hX g1 => ?_)
      have L := L1.trans L
      have fr : ∀ j, ¬ (1 ≤ j ∧ j ≤ 6) → h[j]? = h0[j]? := fun j hj => (g1 j (by omega)).trans (fr j hj)
      have hW := (g1 1 (by decide)).trans hW
      have hD := (g1 2 (by decide)).trans hD
      have hU := (g1 3 (by decide)).trans hU
      have hC := (g1 4 (by decide)).trans hC
      have hQ := (g1 5 (by decide)).trans hQ
      have hF := (g1 7 (by decide)).trans hF
      refine ex_of (fun _ _ => ev_aload_n (pc' := 29) dX4_setTrade_28 rfl rfl) ?_
      refine ex_of (fun _ _ => ev_getfield (pc' := 32) fX4_34 dX4_setTrade_29 rfl hW rfl) ?_
      refine ex_of (fun _ _ => ev_iload_n (pc' := 33) dX4_setTrade_32 rfl rfl) ?_
      refine ex_of (fun _ _ => ev_bipush (pc' := 35) (iI (10)) dX4_setTrade_33 rfl (by decide)) ?_
      refine ex_of (fun _ _ => ev_imulI (pc' := 36) dX4_setTrade_35 rfl) ?_
      refine ex_of (fun _ _ => ev_iload_n (pc' := 37) dX4_setTrade_36 rfl rfl) ?_
      refine ex_of (fun _ _ => ev_iaddI (pc' := 38) dX4_setTrade_37 rfl) ?_
      refine ex_of (fun _ _ => ev_iload_n (pc' := 39) dX4_setTrade_38 rfl rfl) ?_
      refine xia (pc' := 40) dX4_setTrade_39 rfl hX (by decide) (by omega) (fun h L1 hX g1 => ?_)
      have L := L1.trans L
      have fr : ∀ j, ¬ (1 ≤ j ∧ j ≤ 6) → h[j]? = h0[j]? := fun j hj => (g1 j (by omega)).trans (fr j hj)
      have hW := (g1 1 (by decide)).trans hW
      have hD := (g1 2 (by decide)).trans hD
      have hU := (g1 3 (by decide)).trans hU
      have hC := (g1 4 (by decide)).trans hC
      have hQ := (g1 5 (by decide)).trans hQ
      have hF := (g1 7 (by decide)).trans hF
      exact ex_end (ev_vret dX4_setTrade_40) (by
    rw [cmS_w hc]
    refine ⟨rfl, L, fr, ?_, ⟨_, hD, fun p p1 p2 => ?_⟩, ⟨_, hU, fun p p1 p2 => ?_⟩, ⟨_, hC, fun p p1 p2 => ?_⟩, ⟨_, hQ, fun p p1 p2 => ?_⟩, ⟨_, hX, fun p p1 p2 => ?_⟩, hF⟩
    · rw [upI_n (by omega), upI_n (by omega), upI_n (by omega), upI_n (by omega), upI_n (by omega), upI_n (by omega)]; exact hW
    · rw [eD p p1 p2]; exact ((upI_n (by omega)).trans (upI_n (by omega))).symm
    · rw [eU p p1 p2]; exact ((upI_n (by omega)).trans (upI_n (by omega))).symm
    · rw [eC p p1 p2]; exact ((upI_n (by omega)).trans (upI_n (by omega))).symm
    · rw [eQ p p1 p2]; exact ((upI_n (by omega)).trans (upI_n (by omega))).symm
    · show upI (upI X (v0 * 10 + v1) v2) (v1 * 10 + v0) v2 p = upI (upI R (43 + 10 * v0 + v1) v2) (43 + 10 * v1 + v0) v2 (43 + p)
      by_cases z : p = v1 * 10 + v0
      · rw [z, upI_s, show 43 + (v1 * 10 + v0) = 43 + 10 * v1 + v0 by omega, upI_s]
      · rw [upI_n z, show upI (upI R (43 + 10 * v0 + v1) v2) (43 + 10 * v1 + v0) v2 (43 + p) = upI R (43 + 10 * v0 + v1) v2 (43 + p) from upI_n (by omega)]
        by_cases z2 : p = v0 * 10 + v1
        · rw [z2, upI_s, show 43 + (v0 * 10 + v1) = 43 + 10 * v0 + v1 by omega, upI_s]
        · rw [upI_n z2, upI_n (by omega), eX p p1 p2])
theorem NW.frR {h h2 : ev_H} (x : NW h R F) (fr : FrR h h2) : NW h2 R F := CW.eq x (fun j j1 j2 => fr.2 j (by omega))
theorem e5_maL {M : Int} {r : Int → Int} (hX : h0[0]? = some (cWd (.ref 1) (.ref 8) im (.ref 15) (.ref 16) (.ref 17))) (hS : SC h0 A w) (hA : mSh A) (hd : d < 8) (hk2 : A 2 (d : Int) = 2) : ∀ (k : Nat) (i p : Int) (R : Int → Int) (h : ev_H) (a2 a3 a4 a5 a6 a7 a8 : Int), wG (txt A (100 * (d : Int))) (A 4 (d : Int)) k p → 0 ≤ (wK (txt A (100 * (d : Int))) (A 4 (d : Int)) k p R).1 → (wK (txt A (100 * (d : Int))) (A 4 (d : Int)) k p R).2 = r → mI0 R → NW h R F → i + k = M → 0 ≤ i → M ≤ 1000 → (0 ≤ p ∧ p ≤ (A 4 (d : Int))) → FrW h0 h → h[17]? = some (cRd (.ref (18 + 2 * d)) p a2 a3 a4 a5 a6 a7 a8) → Ex l 5 yX5_makeAll.cls yX5_makeAll.name cX5_makeAll 3 none 9 [some (.ref 0), some (.int (iI M)), some (.int (iI i))] [] h (fun v h2 => v = none ∧ FrW h0 h2 ∧ NW h2 r F ∧ ∃ a1 a2 a3 a4 a5 a6 a7 a8, h2[17]? = some (cRd (.ref (18 + 2 * d)) a1 a2 a3 a4 a5 a6 a7 a8)) := by
  obtain ⟨z1, z2, z3, z4, z5⟩ := hA.1 (d : Int) (by omega) (by omega)
  intro k
  induction k with
  | zero =>
    intro i p R h a2 a3 a4 a5 a6 a7 a8 hg hz hr hI hN hi i0 iM hp fr hRd
    refine ex_of (fun _ _ => ev_iload_n (pc' := 10) dX5_makeAll_9 rfl rfl) ?_
    refine ex_of (fun _ _ => ev_iload_n (pc' := 11) dX5_makeAll_10 rfl rfl) ?_
    refine ex_icmpI_ge (pc' := 14) (tgt := 135) dX5_makeAll_11 (by decide) rfl (by omega) (by omega) (fun c11 => ?_) (fun c11 => ?_)
    · exact ex_end (ev_vret dX5_makeAll_135) (⟨rfl, fr, by rw [← hr]; exact hN, _, _, _, _, _, _, _, _, hRd⟩)
    · omega
  | succ k ih =>
    intro i p R h a2 a3 a4 a5 a6 a7 a8 hg hz hr hI hN hi i0 iM hp fr hRd
    obtain ⟨hok, hg2⟩ := hg
    have hX0 := (fr.2 0 (by decide) (by decide)).trans hX
    have sp := stP_ok hok
    have nums := st_nums hok
    have hc := hok.1
    have hI' := hI.1
    have hk9 : smK (txt A (100 * (d : Int))) (A 4 (d : Int)) p R = true := by
      by_cases q : smK (txt A (100 * (d : Int))) (A 4 (d : Int)) p R = true
      · exact q
      · unfold wK at hz
        rw [if_neg q] at hz
        have hz : 0 ≤ -2000 - p := hz
        omega
    have e1 : wK (txt A (100 * (d : Int))) (A 4 (d : Int)) (k + 1) p R = wK (txt A (100 * (d : Int))) (A 4 (d : Int)) k (stP (txt A (100 * (d : Int))) (A 4 (d : Int)) p) (smS (txt A (100 * (d : Int))) (A 4 (d : Int)) p R) := by
      conv => lhs; unfold wK
      rw [if_pos hk9]
    rw [e1] at hz hr
    have hI2 := smS_I hok hk9 hI
    have hkc : cmK (chr (txt A (100 * (d : Int))) (A 4 (d : Int)) p) (rdV (txt A (100 * (d : Int))) (A 4 (d : Int)) (p + 1)) (rdV (txt A (100 * (d : Int))) (A 4 (d : Int)) (st0 (txt A (100 * (d : Int))) (A 4 (d : Int)) p + 1)) (rdV (txt A (100 * (d : Int))) (A 4 (d : Int)) (st1 (txt A (100 * (d : Int))) (A 4 (d : Int)) p + 1)) R = true := hk9
    refine ex_of (fun _ _ => ev_iload_n (pc' := 10) dX5_makeAll_9 rfl rfl) ?_
    refine ex_of (fun _ _ => ev_iload_n (pc' := 11) dX5_makeAll_10 rfl rfl) ?_
    refine ex_icmpI_ge (pc' := 14) (tgt := 135) dX5_makeAll_11 (by decide) rfl (by omega) (by omega) (fun c11 => ?_) (fun c11 => ?_)
    · omega
    · refine ex_of (fun _ _ => ev_aload_n (pc' := 15) dX5_makeAll_14 rfl rfl) ?_
      refine ex_of (fun _ _ => ev_getfield (pc' := 18) fX5_39 dX5_makeAll_15 rfl hX0 rfl) ?_
      have hO := hRd
      obtain ⟨w1, h1, E1, rfl, fr1, le, f1, f2, f3, ch, nu, hRd, ok1⟩ := e0_readStatement (l := l) (p := p) (hS.frW fr) hA hd hk2 (by omega) hRd
      refine ex_of (fun _ _ => ev_callV0 (pc' := 21) kX5_345 mX0_readStatement dX5_makeAll_18 rfl rfl (Nat.le_of_ble_eq_true rfl) (Nat.le_of_ble_eq_true rfl) (by decide) rfl hO E1) ?_
      have fr := fr.tr fr1.wd
      have hX0 := (fr.2 0 (by decide) (by decide)).trans hX
      have hN := hN.frR fr1
      have hW := hN.1
      obtain ⟨rfl, rfl, u3, rfl⟩ := ok1 hok
      refine ex_of (fun _ _ => ev_pop (pc' := 22) dX5_makeAll_21 rfl rfl) ?_
      refine ex_of (fun _ _ => ev_aload_n (pc' := 23) dX5_makeAll_22 rfl rfl) ?_
      refine ex_of (fun _ _ => ev_getfield (pc' := 26) fX5_39 dX5_makeAll_23 rfl hX0 rfl) ?_
      refine ex_of (fun _ _ => ev_getfield (pc' := 29) fX5_360 dX5_makeAll_26 rfl hRd rfl) ?_
      refine ex_of (fun _ _ => ev_bipush (pc' := 31) (iI (112)) dX5_makeAll_29 rfl (by decide)) ?_
      refine ex_icmpI_ne (pc' := 34) (tgt := 72) dX5_makeAll_31 (by decide) rfl (by omega) (by omega) (fun c31 => ?_) (fun c31 => ?_)
      · refine ex_of (fun _ _ => ev_aload_n (pc' := 73) dX5_makeAll_72 rfl rfl) ?_
        refine ex_of (fun _ _ => ev_getfield (pc' := 76) fX5_39 dX5_makeAll_73 rfl hX0 rfl) ?_
        refine ex_of (fun _ _ => ev_getfield (pc' := 79) fX5_360 dX5_makeAll_76 rfl hRd rfl) ?_
        refine ex_of (fun _ _ => ev_bipush (pc' := 81) (iI (108)) dX5_makeAll_79 rfl (by decide)) ?_
        refine ex_icmpI_ne (pc' := 84) (tgt := 101) dX5_makeAll_81 (by decide) rfl (by omega) (by omega) (fun c81 => ?_) (fun c81 => ?_)
        · obtain ⟨rfl, rfl⟩ := u3 (by omega)
          unfold cmK at hkc
          rw [if_neg (by omega), if_neg (by omega)] at hkc
          have hkc := of_decide_eq_true hkc
          have nu2 := nums.2 (by omega)
          refine ex_of (fun _ _ => ev_aload_n (pc' := 102) dX5_makeAll_101 rfl rfl) ?_
          refine ex_of (fun _ _ => ev_getfield (pc' := 105) fX5_12 dX5_makeAll_102 rfl hX0 rfl) ?_
          refine ex_of (fun _ _ => ev_aload_n (pc' := 106) dX5_makeAll_105 rfl rfl) ?_
          refine ex_of (fun _ _ => ev_getfield (pc' := 109) fX5_39 dX5_makeAll_106 rfl hX0 rfl) ?_
          refine ex_of (fun _ _ => ev_getfield (pc' := 112) fX5_363 dX5_makeAll_109 rfl hRd rfl) ?_
          refine ex_of (fun _ _ => ev_aload_n (pc' := 113) dX5_makeAll_112 rfl rfl) ?_
          refine ex_of (fun _ _ => ev_getfield (pc' := 116) fX5_39 dX5_makeAll_113 rfl hX0 rfl) ?_
          refine ex_of (fun _ _ => ev_getfield (pc' := 119) fX5_366 dX5_makeAll_116 rfl hRd rfl) ?_
          refine ex_of (fun _ _ => ev_aload_n (pc' := 120) dX5_makeAll_119 rfl rfl) ?_
          refine ex_of (fun _ _ => ev_getfield (pc' := 123) fX5_39 dX5_makeAll_120 rfl hX0 rfl) ?_
          refine ex_of (fun _ _ => ev_getfield (pc' := 126) fX5_369 dX5_makeAll_123 rfl hRd rfl) ?_
          have hO := hW
          obtain ⟨w1, h1, E1, rfl, L9, g9, hN⟩ := e4_setTrade (l := l) (h0 := h1) (c := chr (txt A (100 * (d : Int))) (A 4 (d : Int)) p) (g := stG (txt A (100 * (d : Int))) (A 4 (d : Int)) p) (v0 := rdV (txt A (100 * (d : Int))) (A 4 (d : Int)) (p + 1)) (v1 := rdV (txt A (100 * (d : Int))) (A 4 (d : Int)) (st0 (txt A (100 * (d : Int))) (A 4 (d : Int)) p + 1)) (v2 := rdV (txt A (100 * (d : Int))) (A 4 (d : Int)) (st1 (txt A (100 * (d : Int))) (A 4 (d : Int)) p + 1)) hN hI (by omega) (by omega) (by omega)
          refine ex_of (fun _ _ => ev_callV3v (pc' := 129) kX5_379 mX4_setTrade dX5_makeAll_126 rfl rfl (Nat.le_of_ble_eq_true rfl) (Nat.le_of_ble_eq_true rfl) (by decide) rfl hO E1) ?_
          have hRd := (g9 17 (by omega)).trans hRd
          have fr : FrW h0 h1 := ⟨L9.trans fr.1, fun j j1 j2 => (g9 j j1).trans (fr.2 j j1 j2)⟩
          refine ex_of (fun _ _ => ev_iincI_2 (pc' := 132) dX5_makeAll_129 rfl (by decide) rfl) ?_
          refine ex_of (fun _ _ => ev_goto (tgt := 9) dX5_makeAll_132 (by decide)) ?_
          exact ih (i + 1) _ _ _ _ _ _ _ _ _ _ hg2 hz hr hI2 hN (by omega) (by omega) iM (by omega) fr hRd
        · refine ex_of (fun _ _ => ev_aload_n (pc' := 85) dX5_makeAll_84 rfl rfl) ?_
          refine ex_of (fun _ _ => ev_getfield (pc' := 88) fX5_12 dX5_makeAll_85 rfl hX0 rfl) ?_
          refine ex_of (fun _ _ => ev_aload_n (pc' := 89) dX5_makeAll_88 rfl rfl) ?_
          refine ex_of (fun _ _ => ev_getfield (pc' := 92) fX5_39 dX5_makeAll_89 rfl hX0 rfl) ?_
          refine ex_of (fun _ _ => ev_getfield (pc' := 95) fX5_363 dX5_makeAll_92 rfl hRd rfl) ?_
          refine xpu (pc' := 98) (fs' := [.int (iI (R 0)), .int (iI (R 1)), .int (iI (rdV (txt A (100 * (d : Int))) (A 4 (d : Int)) (p + 1))), .ref 2, .ref 3, .ref 4, .ref 5, .ref 6, .ref 7]) (pX5_92 _) dX5_makeAll_95 rfl hW rfl rfl (Nat.le_of_ble_eq_true rfl) rfl (fun h2 L1 hW2 g1 => ?_)
          have hRd := (g1 17 (by omega)).trans hRd
          have fr : FrW h0 h2 := ⟨L1.trans fr.1, fun j j1 j2 => (g1 j (by omega)).trans (fr.2 j j1 j2)⟩
          have hN : NW h2 (smS (txt A (100 * (d : Int))) (A 4 (d : Int)) p R) F := by
            unfold smS
            rw [cmS_l c81]
            obtain ⟨y0, y1, y2, y3, y4, y5, y6⟩ := hN
            refine ⟨?_, (y1.eq (g1 _ (by decide))).cg (fun q q1 q2 => (upI_n (by omega)).symm), (y2.eq (g1 _ (by decide))).cg (fun q q1 q2 => (upI_n (by omega)).symm), (y3.eq (g1 _ (by decide))).cg (fun q q1 q2 => (upI_n (by omega)).symm), (y4.eq (g1 _ (by decide))).cg (fun q q1 q2 => (upI_n (by omega)).symm), (y5.eq (g1 _ (by decide))).cg (fun q q1 q2 => (upI_n (by omega)).symm), (g1 _ (by decide)).trans y6⟩
            rw [upI_s, upI_n (by decide), upI_n (by decide)]; exact hW2
          refine ex_of (fun _ _ => ev_goto (tgt := 129) dX5_makeAll_98 (by decide)) ?_
          refine ex_of (fun _ _ => ev_iincI_2 (pc' := 132) dX5_makeAll_129 rfl (by decide) rfl) ?_
          refine ex_of (fun _ _ => ev_goto (tgt := 9) dX5_makeAll_132 (by decide)) ?_
          exact ih (i + 1) _ _ _ _ _ _ _ _ _ _ hg2 hz hr hI2 hN (by omega) (by omega) iM (by omega) fr hRd
      · obtain ⟨rfl, rfl⟩ := u3 (by omega)
        unfold cmK at hkc
        rw [if_neg (by omega), if_pos c31] at hkc
        have hkc := of_decide_eq_true hkc
        refine ex_of (fun _ _ => ev_aload_n (pc' := 35) dX5_makeAll_34 rfl rfl) ?_
        refine ex_of (fun _ _ => ev_getfield (pc' := 38) fX5_12 dX5_makeAll_35 rfl hX0 rfl) ?_
        refine ex_of (fun _ _ => ev_aload_n (pc' := 39) dX5_makeAll_38 rfl rfl) ?_
        refine ex_of (fun _ _ => ev_getfield (pc' := 42) fX5_39 dX5_makeAll_39 rfl hX0 rfl) ?_
        refine ex_of (fun _ _ => ev_getfield (pc' := 45) fX5_363 dX5_makeAll_42 rfl hRd rfl) ?_
        refine ex_of (fun _ _ => ev_aload_n (pc' := 46) dX5_makeAll_45 rfl rfl) ?_
        refine ex_of (fun _ _ => ev_getfield (pc' := 49) fX5_39 dX5_makeAll_46 rfl hX0 rfl) ?_
        refine ex_of (fun _ _ => ev_getfield (pc' := 52) fX5_366 dX5_makeAll_49 rfl hRd rfl) ?_
        refine ex_of (fun _ _ => ev_aload_n (pc' := 53) dX5_makeAll_52 rfl rfl) ?_
        refine ex_of (fun _ _ => ev_getfield (pc' := 56) fX5_39 dX5_makeAll_53 rfl hX0 rfl) ?_
        refine ex_of (fun _ _ => ev_getfield (pc' := 59) fX5_369 dX5_makeAll_56 rfl hRd rfl) ?_
        refine ex_of (fun _ _ => ev_aload_n (pc' := 60) dX5_makeAll_59 rfl rfl) ?_
        refine ex_of (fun _ _ => ev_getfield (pc' := 63) fX5_39 dX5_makeAll_60 rfl hX0 rfl) ?_
        refine ex_of (fun _ _ => ev_getfield (pc' := 66) fX5_372 dX5_makeAll_63 rfl hRd rfl) ?_
        have hO := hW
        obtain ⟨w1, h1, E1, rfl, L9, g9, hN⟩ := e4_addPlace (l := l) (h0 := h1) hN (by omega) c31
        refine ex_of (fun _ _ => ev_callV4v (pc' := 69) kX5_375 mX4_addPlace dX5_makeAll_66 rfl rfl (Nat.le_of_ble_eq_true rfl) (Nat.le_of_ble_eq_true rfl) (by decide) rfl hO E1) ?_
        have hRd := (g9 17 (by omega)).trans hRd
        have fr : FrW h0 h1 := ⟨L9.trans fr.1, fun j j1 j2 => (g9 j j1).trans (fr.2 j j1 j2)⟩
        refine ex_of (fun _ _ => ev_goto (tgt := 129) dX5_makeAll_69 (by decide)) ?_
        refine ex_of (fun _ _ => ev_iincI_2 (pc' := 132) dX5_makeAll_129 rfl (by decide) rfl) ?_
        refine ex_of (fun _ _ => ev_goto (tgt := 9) dX5_makeAll_132 (by decide)) ?_
        exact ih (i + 1) _ _ _ _ _ _ _ _ _ _ hg2 hz hr hI2 hN (by omega) (by omega) iM (by omega) fr hRd
theorem e5_makeAll {a1 a2 a3 a4 a5 a6 a7 a8 M : Int} {k : Nat} (hX : h0[0]? = some (cWd (.ref 1) (.ref 8) im (.ref 15) (.ref 16) (.ref 17))) (hS : SC h0 A w) (hA : mSh A) (hd : d < 8) (hk2 : A 2 (d : Int) = 2) (hN : NW h0 (A 0) F) (hI : mI0 (A 0)) (hg : wG (txt A (100 * (d : Int))) (A 4 (d : Int)) k 0) (hz : 0 ≤ (wK (txt A (100 * (d : Int))) (A 4 (d : Int)) k 0 (A 0)).1) (hM : (k : Int) = M) (hM2 : M ≤ 1000) (hRd : h0[17]? = some (cRd (.ref (18 + 2 * d)) a1 a2 a3 a4 a5 a6 a7 a8)) : Ex l 5 yX5_makeAll.cls yX5_makeAll.name cX5_makeAll 3 none 0 [some (.ref 0), some (.int (iI M)), none] [] h0 (fun v h2 => v = none ∧ FrW h0 h2 ∧ NW h2 (wK (txt A (100 * (d : Int))) (A 4 (d : Int)) k 0 (A 0)).2 F ∧ ∃ a1 a2 a3 a4 a5 a6 a7 a8, h2[17]? = some (cRd (.ref (18 + 2 * d)) a1 a2 a3 a4 a5 a6 a7 a8)) := by
  obtain ⟨z1, z2, z3, z4, z5⟩ := hA.1 (d : Int) (by omega) (by omega)
  refine ex_of (fun _ _ => ev_aload_n (pc' := 1) dX5_makeAll_0 rfl rfl) ?_
  refine ex_of (fun _ _ => ev_getfield (pc' := 4) fX5_39 dX5_makeAll_1 rfl hX rfl) ?_
  refine ex_of (fun _ _ => ev_callV0v (pc' := 7) kX5_342 mX0_rewind dX5_makeAll_4 rfl rfl (Nat.le_of_ble_eq_true rfl) (Nat.le_of_ble_eq_true rfl) (by decide) rfl hRd (e0_rewind hRd)) ?_
  refine ex_of (fun _ _ => ev_iconst (pc' := 8) (iI (0)) dX5_makeAll_7 rfl (by decide)) ?_
  refine ex_of (fun _ _ => ev_istore_2 (pc' := 9) dX5_makeAll_8 rfl (by decide) rfl) ?_
  exact e5_maL hX hS hA hd hk2 k 0 0 (A 0) _ _ _ _ _ _ _ _ hg hz rfl hI (hN.frR (FrR.set h0 _)) (by omega) (by omega) hM2 (by omega) (FrR.set h0 _).wd (ev_gs hRd)
end CX2
section CX3
variable {l : Launch} {h h2 : ev_H} {im : Int} {A A' : Nat → Int → Int} {F F2 w : Nat → Option Nat}
/-- the reader alone has changed -/
theorem CL.frR (x : CL h im A F F2 w) (hI : mI0 (A 0)) (fr : FrR h h2) (hr : ∃ z a b c d e f g i, h2[17]? = some (cRd z a b c d e f g i)) : CL h2 im A F F2 w ∧ KM h h2 := by
  have hN : NW h2 (A 0) F := x.rc.nw.frR fr
  have K := x.wld (S' := A 0) fr.1 (fun j j1 j2 j3 => fr.2 j j3) hN (by obtain ⟨a, b, c, d, e, f, q⟩ := x.sp; exact ⟨a, b, c, d, e, f, (fr.2 16 (by decide)).trans q⟩) hr rfl (fun _ _ _ => rfl) hI
  rw [upA_id] at K
  exact K
theorem stP_ub {T : Int → Int} {n p : Int} (hp : 0 ≤ p ∧ p ≤ n) : stP T n p ≤ n + 2 := by
  have q0 := fun (q : 48 ≤ chr T n (p + 1) ∧ chr T n (p + 1) ≤ 57) => rd_b q
  have e0 : rdP T n (p + 1) = st0 T n p := rfl
  have q1 := fun (q : 48 ≤ chr T n (st0 T n p + 1) ∧ chr T n (st0 T n p + 1) ≤ 57) => rd_b q
  have e1 : rdP T n (st0 T n p + 1) = st1 T n p := rfl
  have q2 := fun (q : 48 ≤ chr T n (st1 T n p + 1) ∧ chr T n (st1 T n p + 1) ≤ 57) => rd_b q
  have e2 : rdP T n (st1 T n p + 1) = st2 T n p := rfl
  unfold stP
  by_cases c1 : chr T n p = 112 ∨ chr T n p = 108 ∨ chr T n p = 119
  · rw [if_neg (by omega)]
    by_cases c2 : 48 ≤ chr T n (p + 1) ∧ chr T n (p + 1) ≤ 57
    · rw [if_neg (by omega)]
      have q0 := q0 c2
      by_cases c3 : chr T n p = 108
      · rw [if_neg (by omega), if_neg (by omega), if_neg (by omega), if_neg (by omega)]
        have : stE T n p = st0 T n p := by unfold stE; rw [if_pos c3]
        split <;> omega
      · by_cases c4 : chr T n (st0 T n p) = 32
        · rw [if_neg (by omega)]
          by_cases c5 : 48 ≤ chr T n (st0 T n p + 1) ∧ chr T n (st0 T n p + 1) ≤ 57
          · rw [if_neg (by omega)]
            have q1 := q1 c5
            by_cases c6 : chr T n (st1 T n p) = 32
            · rw [if_neg (by omega)]
              by_cases c7 : 48 ≤ chr T n (st1 T n p + 1) ∧ chr T n (st1 T n p + 1) ≤ 57
              · rw [if_neg (by omega)]
                have q2 := q2 c7
                have : stE T n p ≤ st2 T n p + 1 := by unfold stE; rw [if_neg c3]; split <;> omega
                split <;> omega
              · rw [if_pos (by omega)]; omega
            · rw [if_pos (by omega)]; omega
          · rw [if_pos (by omega)]; omega
        · rw [if_pos (by omega)]; omega
    · rw [if_pos (by omega)]; omega
  · rw [if_pos (by omega)]; omega
theorem wF_b {T : Int → Int} {n : Int} (hn : 0 ≤ n ∧ n ≤ 100) : ∀ (c : Nat) (k p : Int), 0 ≤ k → (0 ≤ p ∧ p ≤ n) → -3000 ≤ wF T n c k p ∧ wF T n c k p ≤ k + c
  | 0, k, p, hk, hp => by unfold wF; omega
  | c + 1, k, p, hk, hp => by
    unfold wF
    by_cases q : stK T n p = true
    · rw [if_pos q]
      have sp := stP_ok (stK_iff.mp q)
      split
      · have := wF_b (T := T) hn c (k + 1) (stP T n p) (by omega) (by omega)
        omega
      · omega
    · rw [if_neg q]
      have := stP_ub (T := T) (n := n) (p := p) hp
      have := stP_0 (T := T) (n := n) (p := p) hp.1
      omega
theorem wF_r {d : Nat} (hA : mSh A) (hd : d < 8) : -2147483648 ≤ wF (txt A (100 * (d : Int))) (A 4 (d : Int)) 200 0 0 ∧ wF (txt A (100 * (d : Int))) (A 4 (d : Int)) 200 0 0 < 2147483648 := by
  obtain ⟨z1, z2, z3, z4, z5⟩ := hA.1 (d : Int) (by omega) (by omega)
  have := wF_b (T := (txt A (100 * (d : Int)))) (n := (A 4 (d : Int))) (by omega) 200 0 0 (by omega) (by omega)
  omega
theorem wK_r {T : Int → Int} {n : Int} : ∀ (k : Nat) (p : Int) (R : Int → Int), wG T n k p → (0 ≤ p ∧ n ≤ 100) → -2147483648 ≤ (wK T n k p R).1 ∧ (wK T n k p R).1 < 2147483648
  | 0, p, R, hg, hp => by unfold wK; show (-2147483648 : Int) ≤ 0 ∧ (0 : Int) < 2147483648; decide
  | k + 1, p, R, hg, hp => by
    obtain ⟨ok, hg2⟩ := hg
    have sp := stP_ok ok
    unfold wK
    by_cases q : smK T n p R = true
    · rw [if_pos q]; exact wK_r k _ _ hg2 (by omega)
    · rw [if_neg q]; show _ ≤ -2000 - p ∧ -2000 - p < _; omega
theorem c_world {q : Int} (x : CL h im A F F2 w) (hI : mI0 (A 0)) (hA : mSh A) (rq : -2147483648 ≤ q ∧ q < 2147483648) : Ex l 6 yX5_world.cls yX5_world.name cX5_world 6 (some .int) 0 [some (.ref 0), some (.int (iI q)), none, none, none, none] [] h (clP h (some (.int (iI (sWo A q)))) im (upA A 0 (sWoS A q))) := by
  obtain ⟨⟨i1, i2⟩, ⟨i3, i4⟩, i5, i6⟩ := id hI
  have hR := x.rc
  have hX0 := x.x0
  have hN := hR.nw
  obtain ⟨D, R, C, Q, X, hW, ⟨hD, eD⟩, ⟨hRu, eR⟩, ⟨hC, eC⟩, ⟨hQ, eQ⟩, ⟨hX, eX⟩, hF⟩ := CW.op hN
  have hS := x.sc
  obtain ⟨tv, r1, r2, r3, r4, r5, r6, r7, r8, hRd⟩ := x.rd
  by_cases hq : 0 ≤ q ∧ q < 8
  · obtain ⟨d, rfl⟩ : ∃ d : Nat, q = d := ⟨q.toNat, by omega⟩
    have hd : d < 8 := by omega
    obtain ⟨el, hSh, ⟨hel, eel⟩, hw1, hw2⟩ := SC.op hS hd
    obtain ⟨z1, z2, z3, z4, z5⟩ := hA.1 (d : Int) (by omega) (by omega)
    have sb : -20 ≤ sRow A (d : Int) 0 ∧ sRow A (d : Int) 0 ≤ 0 := by unfold sRow; (repeat' split) <;> omega
    refine ex_of (fun _ _ => ev_aload_n (pc' := 1) dX5_world_0 rfl rfl) ?_
    refine ex_of (fun _ _ => ev_iload_n (pc' := 2) dX5_world_1 rfl rfl) ?_
    refine ex_of (fun _ _ => ev_callV1 (pc' := 5) kX5_44 mX5_shelfOf dX5_world_2 rfl rfl (Nat.le_of_ble_eq_true rfl) (Nat.le_of_ble_eq_true rfl) (by decide) rfl hX0 (e5_shelfOf hX0 hS hd)) ?_
    refine ex_of (fun _ _ => ev_astore_2 (pc' := 6) dX5_world_5 rfl (by decide) rfl) ?_
    refine ex_of (fun _ _ => ev_aload_n (pc' := 7) dX5_world_6 rfl rfl) ?_
    refine ex_of (fun _ _ => ev_ifnonnull (tgt := 12) dX5_world_7 (by decide)) ?_
    refine ex_of (fun _ _ => ev_aload_n (pc' := 13) dX5_world_12 rfl rfl) ?_
    refine ex_of (fun _ _ => ev_iconst (pc' := 14) (iI (0)) dX5_world_13 rfl (by decide)) ?_
    refine ex_of (fun _ _ => ev_callS2 (pc' := 17) kX5_48 mX5_refusalOfSort dX5_world_14 rfl rfl (Nat.le_of_ble_eq_true rfl) (Nat.le_of_ble_eq_true rfl) (by decide) (e5_refusalOfSort hS hA hd (by omega))) ?_
    refine ex_of (fun _ _ => ev_istore_3 (pc' := 18) dX5_world_17 rfl (by decide) rfl) ?_
    refine ex_of (fun _ _ => ev_iload_n (pc' := 19) dX5_world_18 rfl rfl) ?_
    refine ex_ifI_eq (pc' := 22) (tgt := 24) dX5_world_19 (by decide) rfl (by omega) (fun c19 => ?_) (fun c19 => ?_)
    · have hk2 : A 2 (d : Int) = 2 := by
        have := c19
        unfold sRow at this
        rw [if_neg (by omega)] at this
        by_cases y : A 2 (d : Int) = 0
        · rw [if_pos y] at this; omega
        · rw [if_neg y] at this
          by_cases y2 : A 2 (d : Int) ≠ 2 ∨ (0 ≤ (0 : Int) ∧ A 3 (d : Int) ≠ 0)
          · rw [if_pos y2] at this; omega
          · omega
      refine ex_of (fun _ _ => ev_aload_n (pc' := 25) dX5_world_24 rfl rfl) ?_
      refine ex_of (fun _ _ => ev_getfield (pc' := 28) fX5_39 dX5_world_25 rfl hX0 rfl) ?_
      refine ex_of (fun _ _ => ev_aload_n (pc' := 29) dX5_world_28 rfl rfl) ?_
      refine ex_of (fun _ _ => ev_callV1v (pc' := 32) kX5_52 mX0_open dX5_world_29 rfl rfl (Nat.le_of_ble_eq_true rfl) (Nat.le_of_ble_eq_true rfl) (by decide) rfl hRd (e0_open hRd)) ?_
      have fr := FrR.set h (cRd (.ref (18 + 2 * d)) r1 r2 r3 r4 r5 r6 r7 r8)
      have hRd2 := ev_gs (e := cRd (.ref (18 + 2 * d)) r1 r2 r3 r4 r5 r6 r7 r8) hRd
      have hX1 := (fr.2 0 (by decide)).trans hX0
      refine ex_of (fun _ _ => ev_aload_n (pc' := 33) dX5_world_32 rfl rfl) ?_
      have hO := hX1
      obtain ⟨w1, h1, E1, rfl, fr1, b1, b2, b3, b4, b5, b6, b7, b8, hRd⟩ := e5_readForm (l := l) (tv := .null) hX1 (hS.frR fr) hA hd hk2 hRd2
      refine ex_of (fun _ _ => ev_callV0 (pc' := 36) kX5_56 mX5_readForm dX5_world_33 rfl rfl (Nat.le_of_ble_eq_true rfl) (Nat.le_of_ble_eq_true rfl) (by decide) rfl hO E1) ?_
      have fr := fr.tr fr1
      have hX1 := (fr.2 0 (by decide)).trans hX0
      have eF : sWoF A (d : Int) = wF (txt A (100 * (d : Int))) (A 4 (d : Int)) 200 0 0 := rfl
      rw [← eF]
      refine ex_of (fun _ _ => ev_istore_4 (pc' := 38) dX5_world_36 rfl (by decide) rfl) ?_
      refine ex_of (fun _ _ => ev_iload (pc' := 40) dX5_world_38 rfl rfl) ?_
      refine ex_ifI_ge (pc' := 43) (tgt := 46) dX5_world_40 (by decide) rfl (by rw [eF]; exact wF_r hA hd) (fun c40 => ?_) (fun c40 => ?_)
      · obtain ⟨j, ej, gj, jl⟩ := wF_G 200 0 0 (by omega) (by omega) (show 0 ≤ wF (txt A (100 * (d : Int))) (A 4 (d : Int)) 200 0 0 from c40)
        have ej : sWoF A (d : Int) = 0 + 1 + j := ej
        have et : (sWoF A (d : Int)).toNat = j + 1 := by omega
        have eK : sWoK A (d : Int) = wK (txt A (100 * (d : Int))) (A 4 (d : Int)) (j + 1) 0 (A 0) := by unfold sWoK; rw [et]
        refine ex_of (fun _ _ => ev_aload_n (pc' := 47) dX5_world_46 rfl rfl) ?_
        refine ex_of (fun _ _ => ev_iload (pc' := 49) dX5_world_47 rfl rfl) ?_
        have hO := hX1
        obtain ⟨w1, h1, E1, rfl, fr2, b1, b2, b3, b4, b5, b6, b7, b8, hRd⟩ := e5_readSense (l := l) (F := F) (k := j + 1) (M := sWoF A (d : Int)) hX1 (hS.frR fr) hA hd hk2 (hN.frR fr) hI gj (by omega) (by omega) hRd
        refine ex_of (fun _ _ => ev_callV1 (pc' := 52) kX5_60 mX5_readSense dX5_world_49 rfl rfl (Nat.le_of_ble_eq_true rfl) (Nat.le_of_ble_eq_true rfl) (by decide) rfl hO E1) ?_
        have fr := fr.tr fr2
        have hX1 := (fr.2 0 (by decide)).trans hX0
        rw [← eK]
        refine ex_of (fun _ _ => ev_istore_5 (pc' := 54) dX5_world_52 rfl (by decide) rfl) ?_
        refine ex_of (fun _ _ => ev_iload (pc' := 56) dX5_world_54 rfl rfl) ?_
        refine ex_ifI_ge (pc' := 59) (tgt := 62) dX5_world_56 (by decide) rfl (by rw [eK]; exact wK_r _ _ _ gj (by omega)) (fun c56 => ?_) (fun c56 => ?_)
        · refine ex_of (fun _ _ => ev_aload_n (pc' := 63) dX5_world_62 rfl rfl) ?_
          refine ex_of (fun _ _ => ev_iload (pc' := 65) dX5_world_63 rfl rfl) ?_
          have hO := hX1
          obtain ⟨w1, h1, E1, rfl, fr3, hN3, b1, b2, b3, b4, b5, b6, b7, b8, hRd⟩ := e5_makeAll (l := l) (F := F) (k := j + 1) (M := sWoF A (d : Int)) hX1 (hS.frR fr) hA hd hk2 (hN.frR fr) hI gj (by rw [← eK]; omega) (by omega) (by omega) hRd
          refine ex_of (fun _ _ => ev_callV1v (pc' := 68) kX5_64 mX5_makeAll dX5_world_65 rfl rfl (Nat.le_of_ble_eq_true rfl) (Nat.le_of_ble_eq_true rfl) (by decide) rfl hO E1) ?_
          have fr := fr.wd.tr fr3
          rw [← eK] at hN3
          refine ex_of (fun _ _ => ev_iload (pc' := 70) dX5_world_68 rfl rfl) ?_
          exact ex_end (ev_iret dX5_world_70 rfl) (by
    rw [show sWo A (d : Int) = sWoF A (d : Int) by unfold sWo; rw [if_neg (by omega), if_neg (by omega), if_neg (by omega)], show sWoS A (d : Int) = (sWoK A (d : Int)).2 by unfold sWoS; rw [if_pos (by omega)]]
    have hh := wK_hi (T := (txt A (100 * (d : Int)))) (n := (A 4 (d : Int))) (j + 1) 0 (A 0) gj (by omega)
    rw [← eK] at hh
    have K := x.wld fr.1 (fun j j1 j2 j3 => fr.2 j j1 j3) hN3 (by obtain ⟨a, b, c, d, e, f, q⟩ := x.sp; exact ⟨a, b, c, d, e, f, (fr.2 16 (by decide) (by decide)).trans q⟩) ⟨_, _, _, _, _, _, _, _, _, hRd⟩ hh.1 (fun p p1 p2 => hh.2 p p1) hI
    exact ⟨rfl, K.2, F, F2, w, K.1⟩)
        · refine ex_of (fun _ _ => ev_iload (pc' := 61) dX5_world_59 rfl rfl) ?_
          exact ex_end (ev_iret dX5_world_61 rfl) (by rw [show sWo A (d : Int) = (sWoK A (d : Int)).1 by unfold sWo; rw [if_neg (by omega), if_neg (by omega), if_pos (by omega)], show sWoS A (d : Int) = A 0 by unfold sWoS; rw [if_neg (by omega)], upA_id]; have K := x.frR hI fr ⟨_, _, _, _, _, _, _, _, _, hRd⟩; exact ⟨rfl, K.2, F, F2, w, K.1⟩)
      · refine ex_of (fun _ _ => ev_iload (pc' := 45) dX5_world_43 rfl rfl) ?_
        exact ex_end (ev_iret dX5_world_45 rfl) (by rw [show sWo A (d : Int) = sWoF A (d : Int) by unfold sWo; rw [if_neg (by omega), if_pos (by omega)], show sWoS A (d : Int) = A 0 by unfold sWoS; rw [if_neg (by omega)], upA_id]; have K := x.frR hI fr ⟨_, _, _, _, _, _, _, _, _, hRd⟩; exact ⟨rfl, K.2, F, F2, w, K.1⟩)
    · refine ex_of (fun _ _ => ev_iload_n (pc' := 23) dX5_world_22 rfl rfl) ?_
      exact ex_end (ev_iret dX5_world_23 rfl) (by unfold sWo sWoS; rw [if_pos (by omega), if_neg (by omega), upA_id]; exact x.same)
  · skip
    refine ex_of (fun _ _ => ev_aload_n (pc' := 1) dX5_world_0 rfl rfl) ?_
    refine ex_of (fun _ _ => ev_iload_n (pc' := 2) dX5_world_1 rfl rfl) ?_
    refine ex_of (fun _ _ => ev_callV1 (pc' := 5) kX5_44 mX5_shelfOf dX5_world_2 rfl rfl (Nat.le_of_ble_eq_true rfl) (Nat.le_of_ble_eq_true rfl) (by decide) rfl hX0 (e5_shelfOf0 hq (by omega))) ?_
    refine ex_of (fun _ _ => ev_astore_2N (pc' := 6) dX5_world_5 rfl (by decide) rfl) ?_
    refine ex_of (fun _ _ => ev_aload_nN (pc' := 7) dX5_world_6 rfl rfl) ?_
    refine ex_of (fun _ _ => ev_ifnonnullN (pc' := 10) dX5_world_7 rfl) ?_
    refine ex_of (fun _ _ => ev_iconst (pc' := 11) (iI (-1)) dX5_world_10 rfl (by decide)) ?_
    exact ex_end (ev_iret dX5_world_11 rfl) (by have e9 : sRow A q 0 = -1 := (by unfold sRow; rw [if_pos (by omega)]); unfold sWo sWoS; rw [if_pos (by omega), if_neg (by omega), upA_id, e9]; exact x.same)
end CX3
