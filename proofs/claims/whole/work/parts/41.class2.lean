section CC
variable {l : Launch} {d : Nat} {own nm : String} {cc : ByteArray} {nL : Nat} {ret : Option FieldType} {pc pc' : Nat} {lc : ev_L} {st : List Value} {h h0 : ev_H} {Post : Option Value → ev_H → Prop}
/-- nothing but the spot has changed -/
def FrS (h0 h : ev_H) : Prop := h.length = h0.length ∧ ∀ j, j ≠ 16 → h[j]? = h0[j]?
theorem FrS.rf (h : ev_H) : FrS h h := ⟨rfl, fun _ _ => rfl⟩
theorem FrS.tr {h0 h1 h2 : ev_H} (a : FrS h0 h1) (b : FrS h1 h2) : FrS h0 h2 := ⟨b.1.trans a.1, fun j hj => (b.2 j hj).trans (a.2 j hj)⟩
theorem FrS.set (h : ev_H) (e : va_E) : FrS h (h.set 16 e) := ⟨List.length_set, fun j hj => List.getElem?_set_ne (Ne.symm hj)⟩
theorem xsp_0 {idx : Nat} {pl le ca go ea be z : Int} (hf : ev_P own nm idx 2 0 .int) (hd : decode cc pc = .ok (.putfield idx, 3)) (hp : pc + 3 = pc') (hSp : h[16]? = some (cSp pl le ca go ea be)) (fr : FrS h0 h) (kk : ∀ h1, h1[16]? = some (cSp z le ca go ea be) → FrS h0 h1 → Ex l d own nm cc nL ret pc' lc st h1 Post) : Ex l d own nm cc nL ret pc lc (.int (iI z) :: .ref 16 :: st) h Post :=
  ex_of (fun _ _ => ev_putfield hf hd hp hSp rfl rfl (Nat.le_of_ble_eq_true rfl)) (kk _ (ev_gs hSp) (fr.tr (FrS.set h _)))
theorem xsp_1 {idx : Nat} {pl le ca go ea be z : Int} (hf : ev_P own nm idx 2 1 .int) (hd : decode cc pc = .ok (.putfield idx, 3)) (hp : pc + 3 = pc') (hSp : h[16]? = some (cSp pl le ca go ea be)) (fr : FrS h0 h) (kk : ∀ h1, h1[16]? = some (cSp pl z ca go ea be) → FrS h0 h1 → Ex l d own nm cc nL ret pc' lc st h1 Post) : Ex l d own nm cc nL ret pc lc (.int (iI z) :: .ref 16 :: st) h Post :=
  ex_of (fun _ _ => ev_putfield hf hd hp hSp rfl rfl (Nat.le_of_ble_eq_true rfl)) (kk _ (ev_gs hSp) (fr.tr (FrS.set h _)))
theorem xsp_2 {idx : Nat} {pl le ca go ea be z : Int} (hf : ev_P own nm idx 2 2 .int) (hd : decode cc pc = .ok (.putfield idx, 3)) (hp : pc + 3 = pc') (hSp : h[16]? = some (cSp pl le ca go ea be)) (fr : FrS h0 h) (kk : ∀ h1, h1[16]? = some (cSp pl le z go ea be) → FrS h0 h1 → Ex l d own nm cc nL ret pc' lc st h1 Post) : Ex l d own nm cc nL ret pc lc (.int (iI z) :: .ref 16 :: st) h Post :=
  ex_of (fun _ _ => ev_putfield hf hd hp hSp rfl rfl (Nat.le_of_ble_eq_true rfl)) (kk _ (ev_gs hSp) (fr.tr (FrS.set h _)))
theorem xsp_3 {idx : Nat} {pl le ca go ea be z : Int} (hf : ev_P own nm idx 2 3 .long) (hd : decode cc pc = .ok (.putfield idx, 3)) (hp : pc + 3 = pc') (hSp : h[16]? = some (cSp pl le ca go ea be)) (fr : FrS h0 h) (kk : ∀ h1, h1[16]? = some (cSp pl le ca z ea be) → FrS h0 h1 → Ex l d own nm cc nL ret pc' lc st h1 Post) : Ex l d own nm cc nL ret pc lc (.long (jJ z) :: .ref 16 :: st) h Post :=
  ex_of (fun _ _ => ev_putfield hf hd hp hSp rfl rfl (Nat.le_of_ble_eq_true rfl)) (kk _ (ev_gs hSp) (fr.tr (FrS.set h _)))
theorem xsp_4 {idx : Nat} {pl le ca go ea be z : Int} (hf : ev_P own nm idx 2 4 .long) (hd : decode cc pc = .ok (.putfield idx, 3)) (hp : pc + 3 = pc') (hSp : h[16]? = some (cSp pl le ca go ea be)) (fr : FrS h0 h) (kk : ∀ h1, h1[16]? = some (cSp pl le ca go z be) → FrS h0 h1 → Ex l d own nm cc nL ret pc' lc st h1 Post) : Ex l d own nm cc nL ret pc lc (.long (jJ z) :: .ref 16 :: st) h Post :=
  ex_of (fun _ _ => ev_putfield hf hd hp hSp rfl rfl (Nat.le_of_ble_eq_true rfl)) (kk _ (ev_gs hSp) (fr.tr (FrS.set h _)))
theorem xsp_5 {idx : Nat} {pl le ca go ea be z : Int} (hf : ev_P own nm idx 2 5 .long) (hd : decode cc pc = .ok (.putfield idx, 3)) (hp : pc + 3 = pc') (hSp : h[16]? = some (cSp pl le ca go ea be)) (fr : FrS h0 h) (kk : ∀ h1, h1[16]? = some (cSp pl le ca go ea z) → FrS h0 h1 → Ex l d own nm cc nL ret pc' lc st h1 Post) : Ex l d own nm cc nL ret pc lc (.long (jJ z) :: .ref 16 :: st) h Post :=
  ex_of (fun _ _ => ev_putfield hf hd hp hSp rfl rfl (Nat.le_of_ble_eq_true rfl)) (kk _ (ev_gs hSp) (fr.tr (FrS.set h _)))
theorem agA.fr {h h2 : ev_H} {a n : Nat} {f : Int → Int} (x : agA h a n f) (fr : FrS h h2) (ha : a ≠ 16) : agA h2 a n f := by
  obtain ⟨D, h1, h2'⟩ := x
  exact ⟨D, (fr.2 a ha).trans h1, h2'⟩
theorem CW.fr {h h2 : ev_H} {b : Nat} {S : Int → Int} {F : Nat → Option Nat} (x : CW h b S F) (fr : FrS h h2) (hb : b + 6 < 16) : CW h2 b S F := by
  obtain ⟨x0, x1, x2, x3, x4, x5, x6⟩ := x
  exact ⟨(fr.2 _ (by omega)).trans x0, x1.fr fr (by omega), x2.fr fr (by omega), x3.fr fr (by omega), x4.fr fr (by omega), x5.fr fr (by omega), (fr.2 _ (by omega)).trans x6⟩
theorem CT.fr {h h2 : ev_H} {t : Nat} {U : Int → Int} {nu : Int} (x : CT h t U nu) (fr : FrS h h2) (ht : 47 ≤ t) : CT h2 t U nu := by
  obtain ⟨ea, x0, x1, x2, x3, x4, x5, x6⟩ := x
  exact ⟨ea, x0, (fr.2 _ (by omega)).trans x1, x2.fr fr (by omega), x3.fr fr (by omega), x4.fr fr (by omega), x5.fr fr (by omega), x6.fr fr (by omega)⟩
theorem CW.op {h : ev_H} {S : Int → Int} {F : Nat → Option Nat} (x : NW h S F) : ∃ D R C Q X, h[1]? = some (cWo (S 0) (S 1) (S 2) 2 3 4 5 6 7) ∧ (h[2]? = some (mA 10 D) ∧ ∀ p, 0 ≤ p → p < 10 → D p = S (3 + 4 * p + 0)) ∧ (h[3]? = some (mA 10 R) ∧ ∀ p, 0 ≤ p → p < 10 → R p = S (3 + 4 * p + 1)) ∧ (h[4]? = some (mA 10 C) ∧ ∀ p, 0 ≤ p → p < 10 → C p = S (3 + 4 * p + 2)) ∧ (h[5]? = some (mA 10 Q) ∧ ∀ p, 0 ≤ p → p < 10 → Q p = S (3 + 4 * p + 3)) ∧ (h[6]? = some (mA 100 X) ∧ ∀ p, 0 ≤ p → p < 100 → X p = S (43 + p)) ∧ h[7]? = some (cRf 4 8 F) := by
  obtain ⟨x0, ⟨D, d1, d2⟩, ⟨R, r1, r2⟩, ⟨C, c1, c2⟩, ⟨Q, q1, q2⟩, ⟨X, e1, e2⟩, x6⟩ := x
  exact ⟨D, R, C, Q, X, x0, ⟨d1, d2⟩, ⟨r1, r2⟩, ⟨c1, c2⟩, ⟨q1, q2⟩, ⟨e1, e2⟩, x6⟩
theorem CT.op {h : ev_H} {t : Nat} {S : Int → Int} {k nu : Int} (x : CT h t (win S k) nu) : ∃ ea to fro en ca cb, ((0 ≤ ea ∧ ea < 64) ∧ ∀ i, 0 ≤ i → i < 6 → bitI ea i = S (143 + 45 * k + (4 + 4 * i + 1))) ∧ h[t]? = some (cTr nu (S (143 + 45 * k + 0)) (S (143 + 45 * k + 1)) (S (143 + 45 * k + 2)) (S (143 + 45 * k + 3)) ea (S (143 + 45 * k + 28)) (t + 1) (t + 2) (t + 3) (t + 4) (t + 5)) ∧ (h[t + 1]? = some (mA 6 to) ∧ ∀ i, 0 ≤ i → i < 6 → to i = S (143 + 45 * k + (4 + 4 * i + 0))) ∧ (h[t + 2]? = some (mA 6 fro) ∧ ∀ i, 0 ≤ i → i < 6 → fro i = S (143 + 45 * k + (4 + 4 * i + 2))) ∧ (h[t + 3]? = some (mA 6 en) ∧ ∀ i, 0 ≤ i → i < 6 → en i = S (143 + 45 * k + (4 + 4 * i + 2)) + 60 * S (143 + 45 * k + (4 + 4 * i + 3))) ∧ (h[t + 4]? = some (mA 8 ca) ∧ ∀ i, 0 ≤ i → i < 8 → ca i = S (143 + 45 * k + (29 + 2 * i))) ∧ (h[t + 5]? = some (mA 8 cb) ∧ ∀ i, 0 ≤ i → i < 8 → cb i = S (143 + 45 * k + (30 + 2 * i))) := by
  obtain ⟨ea, x0, x1, ⟨to, d1, d2⟩, ⟨fro, r1, r2⟩, ⟨en, c1, c2⟩, ⟨ca, q1, q2⟩, ⟨cb, e1, e2⟩⟩ := x
  exact ⟨ea, to, fro, en, ca, cb, x0, x1, ⟨d1, d2⟩, ⟨r1, r2⟩, ⟨c1, c2⟩, ⟨q1, q2⟩, ⟨e1, e2⟩⟩
/-- the class's object and what its looks at the world need -/
def RC (h : ev_H) (S : Int → Int) (F : Nat → Option Nat) : Prop := (∃ im, h[0]? = some (cWd (.ref 1) (.ref 8) im (.ref 15) (.ref 16) (.ref 17))) ∧ NW h S F ∧ (∃ a b c d e f, h[16]? = some (cSp a b c d e f)) ∧ ∀ k, 0 ≤ k → k < S 1 → ∃ t, F k.toNat = some t ∧ CT h t (win S k) k ∧ 47 ≤ t
theorem RC.fr {h h2 : ev_H} {S : Int → Int} {F : Nat → Option Nat} (x : RC h S F) (fr : FrS h h2) (hs : ∃ a b c d e f, h2[16]? = some (cSp a b c d e f)) : RC h2 S F := by
  obtain ⟨⟨im, x0⟩, x1, -, x3⟩ := x
  refine ⟨⟨im, (fr.2 _ (by decide)).trans x0⟩, x1.fr fr (by decide), hs, fun k h1 h2 => ?_⟩
  obtain ⟨t, t1, t2, t3⟩ := x3 k h1 h2
  exact ⟨t, t1, t2.fr fr t3, t3⟩
/-- the leg one is on at t, of n from i on -/
def lgI (S : Int → Int) (k t : Int) : Nat → Int → Int
  | 0, _ => -1
  | n + 1, i => if t ≤ S (143 + 45 * k + (4 + 4 * i + 2)) then -1 else if S (143 + 45 * k + (4 + 4 * i + 2)) + 60 * S (143 + 45 * k + (4 + 4 * i + 3)) ≤ t then lgI S k t n (i + 1) else i
theorem fwL_cg {S : Int → Int} {k t : Int} {e1 e2 : Int → Bool} (h : ∀ i, 0 ≤ i → i < 6 → e1 i = e2 i) : ∀ (n : Nat) (i ab pn si : Int), 0 ≤ i → i + n ≤ 6 → fwL S e1 k t n i ab pn si = fwL S e2 k t n i ab pn si
  | 0, _, _, _, _, _, _ => rfl
  | n + 1, i, ab, pn, si, h1, h2 => by
    unfold fwL
    rw [h i h1 (by omega), fwL_cg h n (i + 1) _ _ _ (by omega) (by omega)]
theorem fw_cg {S : Int → Int} {k t : Int} {e1 e2 : Int → Bool} (h : ∀ i, 0 ≤ i → i < 6 → e1 i = e2 i) (hT : mT S k) : fw S e1 k t = fw S e2 k t := by
  obtain ⟨-, -, -, t3, -⟩ := hT
  exact fwL_cg h _ 0 _ _ _ (by omega) (by omega)
end CC
section CD
variable {l : Launch} {h h0 : ev_H} {S : Int → Int} {F : Nat → Option Nat} {t : Nat} {k : Int}
theorem e2_setIn {w : Int} {pl le ca go ea be : Int} (hSp : h[16]? = some (cSp pl le ca go ea be)) : Ex l 0 yX2_setIn.cls yX2_setIn.name cX2_setIn 2 none 0 [some (.ref 16), some (.int (iI w))] [] h (fun v h2 => v = none ∧ FrS h h2 ∧ h2[16]? = some (cSp w le ca go ea 1)) := by
  have fr := FrS.rf h
  refine ex_of (fun _ _ => ev_aload_n (pc' := 1) dX2_setIn_0 rfl rfl) ?_
  refine ex_of (fun _ _ => ev_iload_n (pc' := 2) dX2_setIn_1 rfl rfl) ?_
  refine xsp_0 (pc' := 5) (pX2_9 _) dX2_setIn_2 rfl hSp fr (fun h hSp fr => ?_)
  refine ex_of (fun _ _ => ev_aload_n (pc' := 6) dX2_setIn_5 rfl rfl) ?_
  refine ex_of (fun _ _ => ev_lconst (pc' := 7) (jJ (1)) dX2_setIn_6 rfl (by decide)) ?_
  refine xsp_5 (pc' := 10) (pX2_28 _) dX2_setIn_7 rfl hSp fr (fun h hSp fr => ?_)
  exact ex_end (ev_vret dX2_setIn_10) (⟨rfl, fr, hSp⟩)
theorem e2_setUnderWay {w z : Int} {pl le ca go ea be : Int} (hSp : h[16]? = some (cSp pl le ca go ea be)) (hz : 0 < z ∧ z ≤ 100000) : Ex l 0 yX2_setUnderWay.cls yX2_setUnderWay.name cX2_setUnderWay 3 none 0 [some (.ref 16), some (.int (iI w)), some (.int (iI z))] [] h (fun v h2 => v = none ∧ FrS h h2 ∧ h2[16]? = some (cSp (-4) w ca go ea z)) := by
  have fr := FrS.rf h
  refine ex_of (fun _ _ => ev_aload_n (pc' := 1) dX2_setUnderWay_0 rfl rfl) ?_
  refine ex_of (fun _ _ => ev_bipush (pc' := 3) (iI (-4)) dX2_setUnderWay_1 rfl (by decide)) ?_
  refine xsp_0 (pc' := 6) (pX2_9 _) dX2_setUnderWay_3 rfl hSp fr (fun h hSp fr => ?_)
  refine ex_of (fun _ _ => ev_aload_n (pc' := 7) dX2_setUnderWay_6 rfl rfl) ?_
  refine ex_of (fun _ _ => ev_iload_n (pc' := 8) dX2_setUnderWay_7 rfl rfl) ?_
  refine xsp_1 (pc' := 11) (pX2_15 _) dX2_setUnderWay_8 rfl hSp fr (fun h hSp fr => ?_)
  refine ex_of (fun _ _ => ev_aload_n (pc' := 12) dX2_setUnderWay_11 rfl rfl) ?_
  refine ex_of (fun _ _ => ev_iload_n (pc' := 13) dX2_setUnderWay_12 rfl rfl) ?_
  refine ex_ifI_le (pc' := 16) (tgt := 21) dX2_setUnderWay_13 (by decide) rfl (by omega) (fun c13 => ?_) (fun c13 => ?_)
  · omega
  · refine ex_of (fun _ _ => ev_iload_n (pc' := 17) dX2_setUnderWay_16 rfl rfl) ?_
    refine ex_of (fun _ _ => ev_i2lI (pc' := 18) dX2_setUnderWay_17 rfl (by omega)) ?_
    refine ex_of (fun _ _ => ev_goto (tgt := 22) dX2_setUnderWay_18 (by decide)) ?_
    refine xsp_5 (pc' := 25) (pX2_28 _) dX2_setUnderWay_22 rfl hSp fr (fun h hSp fr => ?_)
    exact ex_end (ev_vret dX2_setUnderWay_25) (⟨rfl, fr, hSp⟩)
theorem e4_locL {e tt : Int} (hN : NW h0 S F) (hC0 : CT h0 t (win S k) k) (ht : 47 ≤ t) (hI : mI0 S) (hJ : mIP S) (hM : mT S k) (hk : 0 ≤ k ∧ k < 8) (he : 0 ≤ e ∧ e < 64) (htt : -1 ≤ tt ∧ tt ≤ 30000) : ∀ (n i : Nat) (ab pn si : Int) (h : ev_H) (a9 : Option Value) (pl le go ea be : Int), FrS h0 h → h[16]? = some (cSp pl le si go ea be) → S (143 + 45 * k + 3) - i = n → (-360 * (i : Int) ≤ ab ∧ ab ≤ 360 * i) → (0 ≤ pn ∧ pn < S 0) → Ex l 2 yX4_locate.cls yX4_locate.name cX4_locate 10 none 37 [some (.ref 1), some (.ref t), some (.int (iI e)), some (.int (iI tt)), some (.ref 16), some (.int (iI pn)), some (.int (iI ab)), some (.int (iI (eS S (S (3 + 4 * S (143 + 45 * k + 1) + 0))))), some (.int (iI (i : Int))), a9] [] h (fun v h2 => v = none ∧ FrS h0 h2 ∧ ∃ pl le ca go ea be, h2[16]? = some (cSp pl le ca go ea be) ∧ (go, be, pl, ca) = fwL S (bea e) k tt n i ab pn si ∧ ea = eN S k go be ∧ (pl < 0 → le = lgI S k tt n i)) := by
  intro n
  obtain ⟨t0, t1, t2, t3, t4, t5, t6, t7⟩ := id hM
  obtain ⟨⟨i1, i2⟩, ⟨i3, i4⟩, i5, i6⟩ := id hI
  have eb := eS_b S (S (3 + 4 * S (143 + 45 * k + 1) + 0))
  induction n with
  | zero =>
    intro i ab pn si h a9 pl le go ea be fr hSp hn hb hp
    obtain ⟨D, R, C, Q, X, hW, ⟨hD, eD⟩, ⟨hR, eR⟩, ⟨hC, eC⟩, ⟨hQ, eQ⟩, ⟨hX, eX⟩, hF⟩ := CW.op (hN.fr fr (by decide))
    obtain ⟨ea0, to, fro, en, ca, cb, ⟨be1, be2⟩, hT, ⟨hto, eto⟩, ⟨hfr, efr⟩, ⟨hen, een⟩, ⟨hca, eca⟩, ⟨hcb, ecb⟩⟩ := CT.op (hC0.fr fr ht)
    refine ex_of (fun _ _ => ev_iload (pc' := 39) dX4_locate_37 rfl rfl) ?_
    refine ex_of (fun _ _ => ev_aload_n (pc' := 40) dX4_locate_39 rfl rfl) ?_
    refine ex_of (fun _ _ => ev_getfield (pc' := 43) fX4_75 dX4_locate_40 rfl hT rfl) ?_
    refine ex_icmpI_ge (pc' := 46) (tgt := 203) dX4_locate_43 (by decide) rfl (by omega) (by omega) (fun c43 => ?_) (fun c43 => ?_)
    · refine ex_of (fun _ _ => ev_aload (pc' := 205) dX4_locate_203 rfl rfl) ?_
      refine ex_of (fun _ _ => ev_iload (pc' := 207) dX4_locate_205 rfl rfl) ?_
      have hO := hSp
      obtain ⟨w1, h1, E1, rfl, fr1, hSp⟩ := e2_setIn (l := l) (w := pn) hSp
      refine ex_of (fun _ _ => ev_callV1v (pc' := 210) kX4_105 mX2_setIn dX4_locate_207 rfl rfl (Nat.le_of_ble_eq_true rfl) (Nat.le_of_ble_eq_true rfl) (by decide) rfl hO E1) ?_
      have fr := fr.tr fr1
      refine ex_of (fun _ _ => ev_aload (pc' := 212) dX4_locate_210 rfl rfl) ?_
      refine ex_of (fun _ _ => ev_iload (pc' := 214) dX4_locate_212 rfl rfl) ?_
      refine ex_of (fun _ _ => ev_i2lI (pc' := 215) dX4_locate_214 rfl (by omega)) ?_
      refine xsp_3 (pc' := 218) (pX4_99 _) dX4_locate_215 rfl hSp fr (fun h hSp fr => ?_)
      refine ex_of (fun _ _ => ev_aload (pc' := 220) dX4_locate_218 rfl rfl) ?_
      refine ex_of (fun _ _ => ev_iload (pc' := 222) dX4_locate_220 rfl rfl) ?_
      refine ex_of (fun _ _ => ev_iload (pc' := 224) dX4_locate_222 rfl rfl) ?_
      refine ex_of (fun _ _ => ev_iaddI (pc' := 225) dX4_locate_224 rfl) ?_
      refine ex_of (fun _ _ => ev_i2lI (pc' := 226) dX4_locate_225 rfl (by omega)) ?_
      refine xsp_4 (pc' := 229) (pX4_102 _) dX4_locate_226 rfl hSp fr (fun h hSp fr => ?_)
      exact ex_end (ev_vret dX4_locate_229) (⟨rfl, fr, _, _, _, _, _, _, hSp, rfl, by unfold eN; omega, fun q => absurd q (by omega)⟩)
    · omega
  | succ n ih =>
    intro i ab pn si h a9 pl le go ea be fr hSp hn hb hp
    obtain ⟨D, R, C, Q, X, hW, ⟨hD, eD⟩, ⟨hR, eR⟩, ⟨hC, eC⟩, ⟨hQ, eQ⟩, ⟨hX, eX⟩, hF⟩ := CW.op (hN.fr fr (by decide))
    obtain ⟨ea0, to, fro, en, ca, cb, ⟨be1, be2⟩, hT, ⟨hto, eto⟩, ⟨hfr, efr⟩, ⟨hen, een⟩, ⟨hca, eca⟩, ⟨hcb, ecb⟩⟩ := CT.op (hC0.fr fr ht)
    obtain ⟨l0, l1, l2, l3⟩ := t4 (i : Int) (by omega) (by omega)
    have gb := sgn_b S (bea e (i : Int)) pn (S (143 + 45 * k + (4 + 4 * (i : Int) + 0)))
    have p60 : S (143 + 45 * k + (4 + 4 * (i : Int) + 2)) + 60 * S (143 + 45 * k + (4 + 4 * (i : Int) + 3)) - S (143 + 45 * k + (4 + 4 * (i : Int) + 2)) = 60 * S (143 + 45 * k + (4 + 4 * (i : Int) + 3)) := by omega
    refine ex_of (fun _ _ => ev_iload (pc' := 39) dX4_locate_37 rfl rfl) ?_
    refine ex_of (fun _ _ => ev_aload_n (pc' := 40) dX4_locate_39 rfl rfl) ?_
    refine ex_of (fun _ _ => ev_getfield (pc' := 43) fX4_75 dX4_locate_40 rfl hT rfl) ?_
    refine ex_icmpI_ge (pc' := 46) (tgt := 203) dX4_locate_43 (by decide) rfl (by omega) (by omega) (fun c43 => ?_) (fun c43 => ?_)
    · omega
    · refine ex_of (fun _ _ => ev_iload_n (pc' := 47) dX4_locate_46 rfl rfl) ?_
      refine ex_of (fun _ _ => ev_aload_n (pc' := 48) dX4_locate_47 rfl rfl) ?_
      refine ex_of (fun _ _ => ev_getfield (pc' := 51) fX4_78 dX4_locate_48 rfl hT rfl) ?_
      refine ex_of (fun _ _ => ev_iload (pc' := 53) dX4_locate_51 rfl rfl) ?_
      refine ex_of (fun _ _ => ev_ialoadI (pc' := 54) dX4_locate_53 rfl hfr (by decide) (by omega)) ?_
      rw [efr _ (by omega) (by omega)]
      refine ex_icmpI_le (pc' := 57) (tgt := 203) dX4_locate_54 (by decide) rfl (by omega) (by omega) (fun c54 => ?_) (fun c54 => ?_)
      · refine ex_of (fun _ _ => ev_aload (pc' := 205) dX4_locate_203 rfl rfl) ?_
        refine ex_of (fun _ _ => ev_iload (pc' := 207) dX4_locate_205 rfl rfl) ?_
        have hO := hSp
        obtain ⟨w1, h1, E1, rfl, fr1, hSp⟩ := e2_setIn (l := l) (w := pn) hSp
        refine ex_of (fun _ _ => ev_callV1v (pc' := 210) kX4_105 mX2_setIn dX4_locate_207 rfl rfl (Nat.le_of_ble_eq_true rfl) (Nat.le_of_ble_eq_true rfl) (by decide) rfl hO E1) ?_
        have fr := fr.tr fr1
        refine ex_of (fun _ _ => ev_aload (pc' := 212) dX4_locate_210 rfl rfl) ?_
        refine ex_of (fun _ _ => ev_iload (pc' := 214) dX4_locate_212 rfl rfl) ?_
        refine ex_of (fun _ _ => ev_i2lI (pc' := 215) dX4_locate_214 rfl (by omega)) ?_
        refine xsp_3 (pc' := 218) (pX4_99 _) dX4_locate_215 rfl hSp fr (fun h hSp fr => ?_)
        obtain ⟨ea0, to, fro, en, ca, cb, ⟨be1, be2⟩, hT, ⟨hto, eto⟩, ⟨hfr, efr⟩, ⟨hen, een⟩, ⟨hca, eca⟩, ⟨hcb, ecb⟩⟩ := CT.op (hC0.fr fr ht)
        refine ex_of (fun _ _ => ev_aload (pc' := 220) dX4_locate_218 rfl rfl) ?_
        refine ex_of (fun _ _ => ev_iload (pc' := 222) dX4_locate_220 rfl rfl) ?_
        refine ex_of (fun _ _ => ev_iload (pc' := 224) dX4_locate_222 rfl rfl) ?_
        refine ex_of (fun _ _ => ev_iaddI (pc' := 225) dX4_locate_224 rfl) ?_
        refine ex_of (fun _ _ => ev_i2lI (pc' := 226) dX4_locate_225 rfl (by omega)) ?_
        refine xsp_4 (pc' := 229) (pX4_102 _) dX4_locate_226 rfl hSp fr (fun h hSp fr => ?_)
        obtain ⟨ea0, to, fro, en, ca, cb, ⟨be1, be2⟩, hT, ⟨hto, eto⟩, ⟨hfr, efr⟩, ⟨hen, een⟩, ⟨hca, eca⟩, ⟨hcb, ecb⟩⟩ := CT.op (hC0.fr fr ht)
        exact ex_end (ev_vret dX4_locate_229) (⟨rfl, fr, _, _, _, _, _, _, hSp, by unfold fwL; rw [if_pos (by omega)], by unfold eN; omega, fun q => absurd q (by omega)⟩)
      · refine ex_of (fun _ _ => ev_aload_n (pc' := 58) dX4_locate_57 rfl rfl) ?_
        refine ex_of (fun _ _ => ev_iload (pc' := 60) dX4_locate_58 rfl rfl) ?_
        refine ex_of (fun _ _ => ev_aload_n (pc' := 61) dX4_locate_60 rfl rfl) ?_
        refine ex_of (fun _ _ => ev_getfield (pc' := 64) fX4_81 dX4_locate_61 rfl hT rfl) ?_
        refine ex_of (fun _ _ => ev_iload (pc' := 66) dX4_locate_64 rfl rfl) ?_
        refine ex_of (fun _ _ => ev_ialoadI (pc' := 67) dX4_locate_66 rfl hto (by decide) (by omega)) ?_
        rw [eto _ (by omega) (by omega)]
        refine ex_of (fun _ _ => ev_iload_n (pc' := 68) dX4_locate_67 rfl rfl) ?_
        refine ex_of (fun _ _ => ev_iload (pc' := 70) dX4_locate_68 rfl rfl) ?_
        refine ex_of (fun _ _ => ev_ishr (pc' := 71) dX4_locate_70 rfl) ?_
        refine ex_of (fun _ _ => ev_iconst (pc' := 72) (iI (1)) dX4_locate_71 rfl (by decide)) ?_
        refine ex_of (fun _ _ => ev_iand (pc' := 73) dX4_locate_72 rfl) ?_
        rw [pl_sh he (by omega)]
        refine ex_ifI_eq (pc' := 76) (tgt := 80) dX4_locate_73 (by decide) rfl (by have := bitI_b e (i : Int); omega) (fun c73 => ?_) (fun c73 => ?_)
        · refine ex_of (fun _ _ => ev_iconst (pc' := 81) (iI (0)) dX4_locate_80 rfl (by decide)) ?_
          first
          | rw [show iI 0 = b2i (bea e (i : Int)) by unfold bea; rw [decide_eq_false (by omega)]; rfl]
          | rw [show iI 1 = b2i (bea e (i : Int)) by unfold bea; rw [decide_eq_true (by have := bitI_b e (i : Int); omega)]; rfl]
          refine ex_of (fun _ _ => ev_callV3 (pc' := 84) kX4_84 mX4_degreesOf dX4_locate_81 rfl rfl (Nat.le_of_ble_eq_true rfl) (Nat.le_of_ble_eq_true rfl) (by decide) rfl hW (e4_degreesOf (hN.fr fr (by decide)) hI hJ hp (by omega))) ?_
          refine ex_of (fun _ _ => ev_istore_9 (pc' := 86) dX4_locate_84 rfl (by decide) rfl) ?_
          refine ex_of (fun _ _ => ev_iload_n (pc' := 87) dX4_locate_86 rfl rfl) ?_
          refine ex_of (fun _ _ => ev_aload_n (pc' := 88) dX4_locate_87 rfl rfl) ?_
          refine ex_of (fun _ _ => ev_getfield (pc' := 91) fX4_88 dX4_locate_88 rfl hT rfl) ?_
          refine ex_of (fun _ _ => ev_iload (pc' := 93) dX4_locate_91 rfl rfl) ?_
          refine ex_of (fun _ _ => ev_ialoadI (pc' := 94) dX4_locate_93 rfl hen (by decide) (by omega)) ?_
          rw [een _ (by omega) (by omega)]
          refine ex_icmpI_ge (pc' := 97) (tgt := 169) dX4_locate_94 (by decide) rfl (by omega) (by omega) (fun c94 => ?_) (fun c94 => ?_)
          · refine ex_of (fun _ _ => ev_iload (pc' := 171) dX4_locate_169 rfl rfl) ?_
            refine ex_of (fun _ _ => ev_iload (pc' := 173) dX4_locate_171 rfl rfl) ?_
            refine ex_of (fun _ _ => ev_iaddI (pc' := 174) dX4_locate_173 rfl) ?_
            refine ex_of (fun _ _ => ev_istore_6 (pc' := 176) dX4_locate_174 rfl (by decide) rfl) ?_
            refine ex_of (fun _ _ => ev_aload_n (pc' := 177) dX4_locate_176 rfl rfl) ?_
            refine ex_of (fun _ _ => ev_getfield (pc' := 180) fX4_81 dX4_locate_177 rfl hT rfl) ?_
            refine ex_of (fun _ _ => ev_iload (pc' := 182) dX4_locate_180 rfl rfl) ?_
            refine ex_of (fun _ _ => ev_ialoadI (pc' := 183) dX4_locate_182 rfl hto (by decide) (by omega)) ?_
            rw [eto _ (by omega) (by omega)]
            refine ex_of (fun _ _ => ev_istore_5 (pc' := 185) dX4_locate_183 rfl (by decide) rfl) ?_
            refine ex_of (fun _ _ => ev_aload (pc' := 187) dX4_locate_185 rfl rfl) ?_
            refine ex_of (fun _ _ => ev_aload_n (pc' := 188) dX4_locate_187 rfl rfl) ?_
            refine ex_of (fun _ _ => ev_getfield (pc' := 191) fX4_88 dX4_locate_188 rfl hT rfl) ?_
            refine ex_of (fun _ _ => ev_iload (pc' := 193) dX4_locate_191 rfl rfl) ?_
            refine ex_of (fun _ _ => ev_ialoadI (pc' := 194) dX4_locate_193 rfl hen (by decide) (by omega)) ?_
            rw [een _ (by omega) (by omega)]
            refine xsp_2 (pc' := 197) (pX4_70 _) dX4_locate_194 rfl hSp fr (fun h hSp fr => ?_)
            obtain ⟨ea0, to, fro, en, ca, cb, ⟨be1, be2⟩, hT, ⟨hto, eto⟩, ⟨hfr, efr⟩, ⟨hen, een⟩, ⟨hca, eca⟩, ⟨hcb, ecb⟩⟩ := CT.op (hC0.fr fr ht)
            refine ex_of (fun _ _ => ev_iincI_8 (pc' := 200) dX4_locate_197 rfl (by decide) rfl) ?_
            refine ex_of (fun _ _ => ev_goto (tgt := 37) dX4_locate_200 (by decide)) ?_
            have e5 : fwL S (bea e) k tt (n + 1) i ab pn si = fwL S (bea e) k tt n ((i + 1 : Nat) : Int) (ab + sgn S (bea e (i : Int)) pn (S (143 + 45 * k + (4 + 4 * (i : Int) + 0)))) (S (143 + 45 * k + (4 + 4 * (i : Int) + 0))) (S (143 + 45 * k + (4 + 4 * (i : Int) + 2)) + 60 * S (143 + 45 * k + (4 + 4 * (i : Int) + 3))) := by
              conv => lhs; unfold fwL
              rw [if_neg (by omega), if_pos (by omega)]
              rfl
            have e6 : lgI S k tt (n + 1) i = lgI S k tt n ((i + 1 : Nat) : Int) := by
              conv => lhs; unfold lgI
              rw [if_neg (by omega), if_pos (by omega)]
              rfl
            rw [e5, e6]
            exact ih (i + 1) _ _ _ _ _ _ _ _ _ _ fr hSp (by omega) (by omega) (by omega)
          · refine ex_of (fun _ _ => ev_aload (pc' := 99) dX4_locate_97 rfl rfl) ?_
            refine ex_of (fun _ _ => ev_iload (pc' := 101) dX4_locate_99 rfl rfl) ?_
            refine ex_of (fun _ _ => ev_aload_n (pc' := 102) dX4_locate_101 rfl rfl) ?_
            refine ex_of (fun _ _ => ev_getfield (pc' := 105) fX4_88 dX4_locate_102 rfl hT rfl) ?_
            refine ex_of (fun _ _ => ev_iload (pc' := 107) dX4_locate_105 rfl rfl) ?_
            refine ex_of (fun _ _ => ev_ialoadI (pc' := 108) dX4_locate_107 rfl hen (by decide) (by omega)) ?_
            rw [een _ (by omega) (by omega)]
            refine ex_of (fun _ _ => ev_aload_n (pc' := 109) dX4_locate_108 rfl rfl) ?_
            refine ex_of (fun _ _ => ev_getfield (pc' := 112) fX4_78 dX4_locate_109 rfl hT rfl) ?_
            refine ex_of (fun _ _ => ev_iload (pc' := 114) dX4_locate_112 rfl rfl) ?_
            refine ex_of (fun _ _ => ev_ialoadI (pc' := 115) dX4_locate_114 rfl hfr (by decide) (by omega)) ?_
            rw [efr _ (by omega) (by omega)]
            refine ex_of (fun _ _ => ev_isubI (pc' := 116) dX4_locate_115 rfl) ?_
            rw [p60]
            have hO := hSp
            obtain ⟨w1, h1, E1, rfl, fr1, hSp⟩ := e2_setUnderWay (l := l) (w := (i : Int)) (z := 60 * S (143 + 45 * k + (4 + 4 * (i : Int) + 3))) hSp (by omega)
            refine ex_of (fun _ _ => ev_callV2v (pc' := 119) kX4_91 mX2_setUnderWay dX4_locate_116 rfl rfl (Nat.le_of_ble_eq_true rfl) (Nat.le_of_ble_eq_true rfl) (by decide) rfl hO E1) ?_
            have fr := fr.tr fr1
            obtain ⟨ea0, to, fro, en, ca, cb, ⟨be1, be2⟩, hT, ⟨hto, eto⟩, ⟨hfr, efr⟩, ⟨hen, een⟩, ⟨hca, eca⟩, ⟨hcb, ecb⟩⟩ := CT.op (hC0.fr fr ht)
            refine ex_of (fun _ _ => ev_aload (pc' := 121) dX4_locate_119 rfl rfl) ?_
            refine ex_of (fun _ _ => ev_iload (pc' := 123) dX4_locate_121 rfl rfl) ?_
            refine ex_of (fun _ _ => ev_i2lI (pc' := 124) dX4_locate_123 rfl (by omega)) ?_
            refine ex_of (fun _ _ => ev_aload (pc' := 126) dX4_locate_124 rfl rfl) ?_
            refine ex_of (fun _ _ => ev_getfield (pc' := 129) fX4_95 dX4_locate_126 rfl hSp rfl) ?_
            refine ex_of (fun _ _ => ev_lmulI (pc' := 130) dX4_locate_129 rfl) ?_
            refine ex_of (fun _ _ => ev_iload (pc' := 132) dX4_locate_130 rfl rfl) ?_
            refine ex_of (fun _ _ => ev_i2lI (pc' := 133) dX4_locate_132 rfl (by omega)) ?_
            refine ex_of (fun _ _ => ev_iload_n (pc' := 134) dX4_locate_133 rfl rfl) ?_
            refine ex_of (fun _ _ => ev_aload_n (pc' := 135) dX4_locate_134 rfl rfl) ?_
            refine ex_of (fun _ _ => ev_getfield (pc' := 138) fX4_78 dX4_locate_135 rfl hT rfl) ?_
            refine ex_of (fun _ _ => ev_iload (pc' := 140) dX4_locate_138 rfl rfl) ?_
            refine ex_of (fun _ _ => ev_ialoadI (pc' := 141) dX4_locate_140 rfl hfr (by decide) (by omega)) ?_
            rw [efr _ (by omega) (by omega)]
            refine ex_of (fun _ _ => ev_isubI (pc' := 142) dX4_locate_141 rfl) ?_
            refine ex_of (fun _ _ => ev_i2lI (pc' := 143) dX4_locate_142 rfl (by omega)) ?_
            refine ex_of (fun _ _ => ev_lmulI (pc' := 144) dX4_locate_143 rfl) ?_
            refine ex_of (fun _ _ => ev_laddI (pc' := 145) dX4_locate_144 rfl) ?_
            refine xsp_3 (pc' := 148) (pX4_99 _) dX4_locate_145 rfl hSp fr (fun h hSp fr => ?_)
            obtain ⟨ea0, to, fro, en, ca, cb, ⟨be1, be2⟩, hT, ⟨hto, eto⟩, ⟨hfr, efr⟩, ⟨hen, een⟩, ⟨hca, eca⟩, ⟨hcb, ecb⟩⟩ := CT.op (hC0.fr fr ht)
            refine ex_of (fun _ _ => ev_aload (pc' := 150) dX4_locate_148 rfl rfl) ?_
            refine ex_of (fun _ _ => ev_iload (pc' := 152) dX4_locate_150 rfl rfl) ?_
            refine ex_of (fun _ _ => ev_i2lI (pc' := 153) dX4_locate_152 rfl (by omega)) ?_
            refine ex_of (fun _ _ => ev_aload (pc' := 155) dX4_locate_153 rfl rfl) ?_
            refine ex_of (fun _ _ => ev_getfield (pc' := 158) fX4_95 dX4_locate_155 rfl hSp rfl) ?_
            refine ex_of (fun _ _ => ev_lmulI (pc' := 159) dX4_locate_158 rfl) ?_
            refine ex_of (fun _ _ => ev_aload (pc' := 161) dX4_locate_159 rfl rfl) ?_
            refine ex_of (fun _ _ => ev_getfield (pc' := 164) fX4_99 dX4_locate_161 rfl hSp rfl) ?_
            refine ex_of (fun _ _ => ev_laddI (pc' := 165) dX4_locate_164 rfl) ?_
            refine xsp_4 (pc' := 168) (pX4_102 _) dX4_locate_165 rfl hSp fr (fun h hSp fr => ?_)
            obtain ⟨ea0, to, fro, en, ca, cb, ⟨be1, be2⟩, hT, ⟨hto, eto⟩, ⟨hfr, efr⟩, ⟨hen, een⟩, ⟨hca, eca⟩, ⟨hcb, ecb⟩⟩ := CT.op (hC0.fr fr ht)
            exact ex_end (ev_vret dX4_locate_168) (⟨rfl, fr, _, _, _, _, _, _, hSp, by unfold fwL; rw [if_neg (by omega), if_neg (by omega)], rfl, fun _ => by unfold lgI; rw [if_neg (by omega), if_neg (by omega)]⟩)
        · refine ex_of (fun _ _ => ev_iconst (pc' := 77) (iI (1)) dX4_locate_76 rfl (by decide)) ?_
          refine ex_of (fun _ _ => ev_goto (tgt := 81) dX4_locate_77 (by decide)) ?_
          first
          | rw [show iI 0 = b2i (bea e (i : Int)) by unfold bea; rw [decide_eq_false (by omega)]; rfl]
          | rw [show iI 1 = b2i (bea e (i : Int)) by unfold bea; rw [decide_eq_true (by have := bitI_b e (i : Int); omega)]; rfl]
          refine ex_of (fun _ _ => ev_callV3 (pc' := 84) kX4_84 mX4_degreesOf dX4_locate_81 rfl rfl (Nat.le_of_ble_eq_true rfl) (Nat.le_of_ble_eq_true rfl) (by decide) rfl hW (e4_degreesOf (hN.fr fr (by decide)) hI hJ hp (by omega))) ?_
          refine ex_of (fun _ _ => ev_istore_9 (pc' := 86) dX4_locate_84 rfl (by decide) rfl) ?_
          refine ex_of (fun _ _ => ev_iload_n (pc' := 87) dX4_locate_86 rfl rfl) ?_
          refine ex_of (fun _ _ => ev_aload_n (pc' := 88) dX4_locate_87 rfl rfl) ?_
          refine ex_of (fun _ _ => ev_getfield (pc' := 91) fX4_88 dX4_locate_88 rfl hT rfl) ?_
          refine ex_of (fun _ _ => ev_iload (pc' := 93) dX4_locate_91 rfl rfl) ?_
          refine ex_of (fun _ _ => ev_ialoadI (pc' := 94) dX4_locate_93 rfl hen (by decide) (by omega)) ?_
          rw [een _ (by omega) (by omega)]
          refine ex_icmpI_ge (pc' := 97) (tgt := 169) dX4_locate_94 (by decide) rfl (by omega) (by omega) (fun c94 => ?_) (fun c94 => ?_)
          · refine ex_of (fun _ _ => ev_iload (pc' := 171) dX4_locate_169 rfl rfl) ?_
            refine ex_of (fun _ _ => ev_iload (pc' := 173) dX4_locate_171 rfl rfl) ?_
            refine ex_of (fun _ _ => ev_iaddI (pc' := 174) dX4_locate_173 rfl) ?_
            refine ex_of (fun _ _ => ev_istore_6 (pc' := 176) dX4_locate_174 rfl (by decide) rfl) ?_
            refine ex_of (fun _ _ => ev_aload_n (pc' := 177) dX4_locate_176 rfl rfl) ?_
            refine ex_of (fun _ _ => ev_getfield (pc' := 180) fX4_81 dX4_locate_177 rfl hT rfl) ?_
            refine ex_of (fun _ _ => ev_iload (pc' := 182) dX4_locate_180 rfl rfl) ?_
            refine ex_of (fun _ _ => ev_ialoadI (pc' := 183) dX4_locate_182 rfl hto (by decide) (by omega)) ?_
            rw [eto _ (by omega) (by omega)]
            refine ex_of (fun _ _ => ev_istore_5 (pc' := 185) dX4_locate_183 rfl (by decide) rfl) ?_
            refine ex_of (fun _ _ => ev_aload (pc' := 187) dX4_locate_185 rfl rfl) ?_
            refine ex_of (fun _ _ => ev_aload_n (pc' := 188) dX4_locate_187 rfl rfl) ?_
            refine ex_of (fun _ _ => ev_getfield (pc' := 191) fX4_88 dX4_locate_188 rfl hT rfl) ?_
            refine ex_of (fun _ _ => ev_iload (pc' := 193) dX4_locate_191 rfl rfl) ?_
            refine ex_of (fun _ _ => ev_ialoadI (pc' := 194) dX4_locate_193 rfl hen (by decide) (by omega)) ?_
            rw [een _ (by omega) (by omega)]
            refine xsp_2 (pc' := 197) (pX4_70 _) dX4_locate_194 rfl hSp fr (fun h hSp fr => ?_)
            obtain ⟨ea0, to, fro, en, ca, cb, ⟨be1, be2⟩, hT, ⟨hto, eto⟩, ⟨hfr, efr⟩, ⟨hen, een⟩, ⟨hca, eca⟩, ⟨hcb, ecb⟩⟩ := CT.op (hC0.fr fr ht)
            refine ex_of (fun _ _ => ev_iincI_8 (pc' := 200) dX4_locate_197 rfl (by decide) rfl) ?_
            refine ex_of (fun _ _ => ev_goto (tgt := 37) dX4_locate_200 (by decide)) ?_
            have e5 : fwL S (bea e) k tt (n + 1) i ab pn si = fwL S (bea e) k tt n ((i + 1 : Nat) : Int) (ab + sgn S (bea e (i : Int)) pn (S (143 + 45 * k + (4 + 4 * (i : Int) + 0)))) (S (143 + 45 * k + (4 + 4 * (i : Int) + 0))) (S (143 + 45 * k + (4 + 4 * (i : Int) + 2)) + 60 * S (143 + 45 * k + (4 + 4 * (i : Int) + 3))) := by
              conv => lhs; unfold fwL
              rw [if_neg (by omega), if_pos (by omega)]
              rfl
            have e6 : lgI S k tt (n + 1) i = lgI S k tt n ((i + 1 : Nat) : Int) := by
              conv => lhs; unfold lgI
              rw [if_neg (by omega), if_pos (by omega)]
              rfl
            rw [e5, e6]
            exact ih (i + 1) _ _ _ _ _ _ _ _ _ _ fr hSp (by omega) (by omega) (by omega)
          · refine ex_of (fun _ _ => ev_aload (pc' := 99) dX4_locate_97 rfl rfl) ?_
            refine ex_of (fun _ _ => ev_iload (pc' := 101) dX4_locate_99 rfl rfl) ?_
            refine ex_of (fun _ _ => ev_aload_n (pc' := 102) dX4_locate_101 rfl rfl) ?_
            refine ex_of (fun _ _ => ev_getfield (pc' := 105) fX4_88 dX4_locate_102 rfl hT rfl) ?_
            refine ex_of (fun _ _ => ev_iload (pc' := 107) dX4_locate_105 rfl rfl) ?_
            refine ex_of (fun _ _ => ev_ialoadI (pc' := 108) dX4_locate_107 rfl hen (by decide) (by omega)) ?_
            rw [een _ (by omega) (by omega)]
            refine ex_of (fun _ _ => ev_aload_n (pc' := 109) dX4_locate_108 rfl rfl) ?_
            refine ex_of (fun _ _ => ev_getfield (pc' := 112) fX4_78 dX4_locate_109 rfl hT rfl) ?_
            refine ex_of (fun _ _ => ev_iload (pc' := 114) dX4_locate_112 rfl rfl) ?_
            refine ex_of (fun _ _ => ev_ialoadI (pc' := 115) dX4_locate_114 rfl hfr (by decide) (by omega)) ?_
            rw [efr _ (by omega) (by omega)]
            refine ex_of (fun _ _ => ev_isubI (pc' := 116) dX4_locate_115 rfl) ?_
            rw [p60]
            have hO := hSp
            obtain ⟨w1, h1, E1, rfl, fr1, hSp⟩ := e2_setUnderWay (l := l) (w := (i : Int)) (z := 60 * S (143 + 45 * k + (4 + 4 * (i : Int) + 3))) hSp (by omega)
            refine ex_of (fun _ _ => ev_callV2v (pc' := 119) kX4_91 mX2_setUnderWay dX4_locate_116 rfl rfl (Nat.le_of_ble_eq_true rfl) (Nat.le_of_ble_eq_true rfl) (by decide) rfl hO E1) ?_
            have fr := fr.tr fr1
            obtain ⟨ea0, to, fro, en, ca, cb, ⟨be1, be2⟩, hT, ⟨hto, eto⟩, ⟨hfr, efr⟩, ⟨hen, een⟩, ⟨hca, eca⟩, ⟨hcb, ecb⟩⟩ := CT.op (hC0.fr fr ht)
            refine ex_of (fun _ _ => ev_aload (pc' := 121) dX4_locate_119 rfl rfl) ?_
            refine ex_of (fun _ _ => ev_iload (pc' := 123) dX4_locate_121 rfl rfl) ?_
            refine ex_of (fun _ _ => ev_i2lI (pc' := 124) dX4_locate_123 rfl (by omega)) ?_
            refine ex_of (fun _ _ => ev_aload (pc' := 126) dX4_locate_124 rfl rfl) ?_
            refine ex_of (fun _ _ => ev_getfield (pc' := 129) fX4_95 dX4_locate_126 rfl hSp rfl) ?_
            refine ex_of (fun _ _ => ev_lmulI (pc' := 130) dX4_locate_129 rfl) ?_
            refine ex_of (fun _ _ => ev_iload (pc' := 132) dX4_locate_130 rfl rfl) ?_
            refine ex_of (fun _ _ => ev_i2lI (pc' := 133) dX4_locate_132 rfl (by omega)) ?_
            refine ex_of (fun _ _ => ev_iload_n (pc' := 134) dX4_locate_133 rfl rfl) ?_
            refine ex_of (fun _ _ => ev_aload_n (pc' := 135) dX4_locate_134 rfl rfl) ?_
            refine ex_of (fun _ _ => ev_getfield (pc' := 138) fX4_78 dX4_locate_135 rfl hT rfl) ?_
            refine ex_of (fun _ _ => ev_iload (pc' := 140) dX4_locate_138 rfl rfl) ?_
            refine ex_of (fun _ _ => ev_ialoadI (pc' := 141) dX4_locate_140 rfl hfr (by decide) (by omega)) ?_
            rw [efr _ (by omega) (by omega)]
            refine ex_of (fun _ _ => ev_isubI (pc' := 142) dX4_locate_141 rfl) ?_
            refine ex_of (fun _ _ => ev_i2lI (pc' := 143) dX4_locate_142 rfl (by omega)) ?_
            refine ex_of (fun _ _ => ev_lmulI (pc' := 144) dX4_locate_143 rfl) ?_
            refine ex_of (fun _ _ => ev_laddI (pc' := 145) dX4_locate_144 rfl) ?_
            refine xsp_3 (pc' := 148) (pX4_99 _) dX4_locate_145 rfl hSp fr (fun h hSp fr => ?_)
            obtain ⟨ea0, to, fro, en, ca, cb, ⟨be1, be2⟩, hT, ⟨hto, eto⟩, ⟨hfr, efr⟩, ⟨hen, een⟩, ⟨hca, eca⟩, ⟨hcb, ecb⟩⟩ := CT.op (hC0.fr fr ht)
            refine ex_of (fun _ _ => ev_aload (pc' := 150) dX4_locate_148 rfl rfl) ?_
            refine ex_of (fun _ _ => ev_iload (pc' := 152) dX4_locate_150 rfl rfl) ?_
            refine ex_of (fun _ _ => ev_i2lI (pc' := 153) dX4_locate_152 rfl (by omega)) ?_
            refine ex_of (fun _ _ => ev_aload (pc' := 155) dX4_locate_153 rfl rfl) ?_
            refine ex_of (fun _ _ => ev_getfield (pc' := 158) fX4_95 dX4_locate_155 rfl hSp rfl) ?_
            refine ex_of (fun _ _ => ev_lmulI (pc' := 159) dX4_locate_158 rfl) ?_
            refine ex_of (fun _ _ => ev_aload (pc' := 161) dX4_locate_159 rfl rfl) ?_
            refine ex_of (fun _ _ => ev_getfield (pc' := 164) fX4_99 dX4_locate_161 rfl hSp rfl) ?_
            refine ex_of (fun _ _ => ev_laddI (pc' := 165) dX4_locate_164 rfl) ?_
            refine xsp_4 (pc' := 168) (pX4_102 _) dX4_locate_165 rfl hSp fr (fun h hSp fr => ?_)
            obtain ⟨ea0, to, fro, en, ca, cb, ⟨be1, be2⟩, hT, ⟨hto, eto⟩, ⟨hfr, efr⟩, ⟨hen, een⟩, ⟨hca, eca⟩, ⟨hcb, ecb⟩⟩ := CT.op (hC0.fr fr ht)
            exact ex_end (ev_vret dX4_locate_168) (⟨rfl, fr, _, _, _, _, _, _, hSp, by unfold fwL; rw [if_neg (by omega), if_neg (by omega)], rfl, fun _ => by unfold lgI; rw [if_neg (by omega), if_neg (by omega)]⟩)
theorem e4_locate {e tt : Int} (hN : NW h0 S F) (hC0 : CT h0 t (win S k) k) (ht : 47 ≤ t) (hI : mI0 S) (hJ : mIP S) (hM : mT S k) (hk : 0 ≤ k ∧ k < 8) (he : 0 ≤ e ∧ e < 64) (htt : -1 ≤ tt ∧ tt ≤ 30000) (hs : ∃ a b c d e f, h0[16]? = some (cSp a b c d e f)) : Ex l 2 yX4_locate.cls yX4_locate.name cX4_locate 10 none 0 [some (.ref 1), some (.ref t), some (.int (iI e)), some (.int (iI tt)), some (.ref 16), none, none, none, none, none] [] h0 (fun v h2 => v = none ∧ FrS h0 h2 ∧ ∃ pl le ca go ea be, h2[16]? = some (cSp pl le ca go ea be) ∧ (go, be, pl, ca) = fw S (bea e) k tt ∧ ea = eN S k go be ∧ (pl < 0 → le = lgI S k tt (S (143 + 45 * k + 3)).toNat 0)) := by
  have fr := FrS.rf h0
  obtain ⟨t0, t1, t2, t3, t4, t5, t6, t7⟩ := id hM
  obtain ⟨⟨i1, i2⟩, ⟨i3, i4⟩, i5, i6⟩ := id hI
  obtain ⟨j0, -⟩ := hJ (S (143 + 45 * k + 1)) (by omega) (by omega)
  obtain ⟨D, R, C, Q, X, hW, ⟨hD, eD⟩, ⟨hR, eR⟩, ⟨hC, eC⟩, ⟨hQ, eQ⟩, ⟨hX, eX⟩, hF⟩ := CW.op hN
  obtain ⟨ea0, to, fro, en, ca, cb, ⟨be1, be2⟩, hT, ⟨hto, eto⟩, ⟨hfr, efr⟩, ⟨hen, een⟩, ⟨hca, eca⟩, ⟨hcb, ecb⟩⟩ := CT.op hC0
  obtain ⟨pl, le, cm, go, ea, be, hSp⟩ := hs
  refine ex_of (fun _ _ => ev_aload_n (pc' := 1) dX4_locate_0 rfl rfl) ?_
  refine ex_of (fun _ _ => ev_getfield (pc' := 4) fX4_63 dX4_locate_1 rfl hT rfl) ?_
  refine ex_of (fun _ _ => ev_istore_5 (pc' := 6) dX4_locate_4 rfl (by decide) rfl) ?_
  refine ex_of (fun _ _ => ev_iconst (pc' := 7) (iI (0)) dX4_locate_6 rfl (by decide)) ?_
  refine ex_of (fun _ _ => ev_istore_6 (pc' := 9) dX4_locate_7 rfl (by decide) rfl) ?_
  refine ex_of (fun _ _ => ev_aload_n (pc' := 10) dX4_locate_9 rfl rfl) ?_
  refine ex_of (fun _ _ => ev_iload (pc' := 12) dX4_locate_10 rfl rfl) ?_
  refine ex_of (fun _ _ => ev_callV1 (pc' := 15) kX4_66 mX4_degreeOf dX4_locate_12 rfl rfl (Nat.le_of_ble_eq_true rfl) (Nat.le_of_ble_eq_true rfl) (by decide) rfl hW (e4_degreeOf hN hI (by omega))) ?_
  refine ex_of (fun _ _ => ev_aload_n (pc' := 16) dX4_locate_15 rfl rfl) ?_
  refine ex_of (fun _ _ => ev_getfield (pc' := 19) fX4_18 dX4_locate_16 rfl hW rfl) ?_
  refine ex_of (fun _ _ => ev_isubI (pc' := 20) dX4_locate_19 rfl) ?_
  refine ex_of (fun _ _ => ev_sipush (pc' := 23) (iI (360)) dX4_locate_20 rfl (by decide)) ?_
  refine ex_of (fun _ _ => ev_callS2 (pc' := 26) kX4_47 mJ9_floorMod_7cf53 dX4_locate_23 rfl rfl (Nat.le_of_ble_eq_true rfl) (Nat.le_of_ble_eq_true rfl) (by decide) (e_fmI (by omega) (by omega))) ?_
  rw [show (S (3 + 4 * S (143 + 45 * k + 1) + 0) - S 2) % 360 = eS S (S (3 + 4 * S (143 + 45 * k + 1) + 0)) from rfl]
  refine ex_of (fun _ _ => ev_istore_7 (pc' := 28) dX4_locate_26 rfl (by decide) rfl) ?_
  refine ex_of (fun _ _ => ev_aload (pc' := 30) dX4_locate_28 rfl rfl) ?_
  refine ex_of (fun _ _ => ev_iconst (pc' := 31) (iI (0)) dX4_locate_30 rfl (by decide)) ?_
  refine xsp_2 (pc' := 34) (pX4_70 _) dX4_locate_31 rfl hSp fr (fun h hSp fr => ?_)
  refine ex_of (fun _ _ => ev_iconst (pc' := 35) (iI (0)) dX4_locate_34 rfl (by decide)) ?_
  refine ex_of (fun _ _ => ev_istore_8 (pc' := 37) dX4_locate_35 rfl (by decide) rfl) ?_
  exact e4_locL hN hC0 ht hI hJ hM hk he htt (S (143 + 45 * k + 3)).toNat 0 0 (S (143 + 45 * k + 1)) 0 _ none _ _ _ _ _ fr hSp (by omega) (by omega) (by omega)
end CD
