section TS
variable {l : Launch} {d : Nat} {own nm : String} {cc : ByteArray} {nL : Nat} {ret : Option FieldType} {pc pc' : Nat} {lc : ev_L} {st : List Value} {h h' : ev_H} {v : Option Value}
theorem ev_tableInI {dflt lo hi : Int} {offs : Array Int} {len : Nat} {a j : Int} {off : Int} {tgt : Nat} (hd : decode cc pc = .ok (.tableswitch dflt lo hi offs, len)) (ha : a = j) (rj : -2147483648 ≤ j ∧ j < 2147483648) (h1 : ¬ j < lo) (h2 : ¬ hi < j) (ho : offs[(j - lo).toNat]? = some off) (ht : (pc : Int) + off = (tgt : Int)) (k : Ev l d own nm cc nL ret tgt lc st h v h') : Ev l d own nm cc nL ret pc lc (.int (iI a) :: st) h v h' := by
  subst ha
  exact ev_tableIn hd (by rw [iI_toInt rj]; exact h1) (by rw [iI_toInt rj]; exact h2) (by rw [iI_toInt rj]; exact ho) ht k
theorem ev_tableOutI {dflt lo hi : Int} {offs : Array Int} {len : Nat} {a : Int} {tgt : Nat} (hd : decode cc pc = .ok (.tableswitch dflt lo hi offs, len)) (ra : -2147483648 ≤ a ∧ a < 2147483648) (hx : a < lo ∨ hi < a) (ht : (pc : Int) + dflt = (tgt : Int)) (k : Ev l d own nm cc nL ret tgt lc st h v h') : Ev l d own nm cc nL ret pc lc (.int (iI a) :: st) h v h' :=
  ev_tableOut hd (by rw [iI_toInt ra]; exact hx) ht k
end TS
/-! what the reference tells of where one is -/
def eN (S : Int → Int) (k ab be : Int) : Int := eS S (S (3 + 4 * S (143 + 45 * k + 1) + 0)) * be + ab
def sSeen (S : Int → Int) (k ab be t : Int) : Int := dAt (eN S k ab be) be 1 t
def sRnd (S : Int → Int) (k ab be : Int) : Int := eN S k ab be / (360 * be)
def sMid (S : Int → Int) (k ab be t : Int) : Int := dAt (eN S k ab be % (360 * be)) be 0 t
def sHere (S : Int → Int) (k ab be pn t : Int) : Int := if 0 ≤ pn then dP S pn t else sMid S k ab be t
def chS (S : Int → Int) (k t : Int) : Nat → Int
  | 0 => 0
  | n + 1 => chS S k t n + if S (143 + 45 * k + (29 + 2 * (n : Int))) ≤ t then S (143 + 45 * k + (30 + 2 * (n : Int))) else 0
def sChg (S : Int → Int) (k t : Int) : Int := chS S k t (S (143 + 45 * k + 28)).toNat
/-- the day by a kind of count, where one is being told -/
def sDay (S : Int → Int) (k kd t ab be pn si : Int) : Int :=
  if kd = 1 then sSeen S k ab be t else if kd = 2 then sHere S k ab be pn t else if kd = 3 then dP S (S (143 + 45 * k + 1)) t else if kd = 4 then sSeen S k ab be t + sChg S k t else if kd = 5 then sSeen S k ab be t - sRnd S k ab be
  else if kd = 6 then (if 0 ≤ pn ∧ pn ≠ S (143 + 45 * k + 1) ∧ si + 1440 * S (143 + 45 * k + 2) ≤ t then dP S pn t else dP S (S (143 + 45 * k + 1)) t) else if kd = 7 then dP S (S (143 + 45 * k + 1)) t + (if pn < 0 then 1 else 0) else sMid S k ab be t
def sDayAs (S : Int → Int) (ea : Int → Bool) (k kd t : Int) : Int := sDay S k kd t (fw S ea k t).1 (fw S ea k t).2.1 (fw S ea k t).2.2.1 (fw S ea k t).2.2.2
theorem fwL_b {S : Int → Int} {ea : Int → Bool} {k t : Int} (hT : mT S k) (ht : t ≤ 100000) : ∀ (n : Nat) (i ab pn si : Int), 0 ≤ i → S (143 + 45 * k + 3) - i = n → (-360 * i ≤ ab ∧ ab ≤ 360 * i) → (0 ≤ pn ∧ pn < S 0) → (0 ≤ si ∧ si ≤ 50000) → ∃ a b c d, fwL S ea k t n i ab pn si = (a, b, c, d) ∧ (-100000000 ≤ a ∧ a ≤ 100000000) ∧ (0 < b ∧ b ≤ 12000) ∧ ((c = -4) ∨ (0 ≤ c ∧ c < S 0 ∧ b = 1)) ∧ (0 ≤ d ∧ d ≤ 50000) := by
  intro n
  obtain ⟨t0, t1, t2, t3, t4, t5, t6, t7⟩ := id hT
  induction n with
  | zero =>
    intro i ab pn si hi hn hb hp hs
    exact ⟨ab, 1, pn, si, rfl, by omega, by omega, Or.inr ⟨hp.1, hp.2, rfl⟩, hs⟩
  | succ n ih =>
    intro i ab pn si hi hn hb hp hs
    obtain ⟨u0, u1, u2, u3⟩ := t4 i hi (by omega)
    have sb := sgn_b S (ea i) pn (S (143 + 45 * k + (4 + 4 * i + 0)))
    unfold fwL
    by_cases c1 : t ≤ S (143 + 45 * k + (4 + 4 * i + 2))
    · rw [if_pos c1]
      exact ⟨ab, 1, pn, si, rfl, by omega, by omega, Or.inr ⟨hp.1, hp.2, rfl⟩, hs⟩
    · rw [if_neg c1]
      by_cases c2 : S (143 + 45 * k + (4 + 4 * i + 2)) + 60 * S (143 + 45 * k + (4 + 4 * i + 3)) ≤ t
      · rw [if_pos c2]
        exact ih (i + 1) _ _ _ (by omega) (by omega) (by omega) u0 (by omega)
      · rw [if_neg c2]
        refine ⟨_, _, _, _, rfl, ?_, by omega, Or.inl rfl, hs⟩
        have b1 := mul_bd (x := ab) (y := 60 * S (143 + 45 * k + (4 + 4 * i + 3))) (X := 2160) (Y := 12000) (by omega) (by omega)
        have b2 := mul_bd (x := sgn S (ea i) pn (S (143 + 45 * k + (4 + 4 * i + 0)))) (y := t - S (143 + 45 * k + (4 + 4 * i + 2))) (X := 360) (Y := 12000) (by omega) (by omega)
        omega
theorem fw_b {S : Int → Int} {ea : Int → Bool} {k t : Int} (hT : mT S k) (ht : t ≤ 100000) : ∃ a b c d, fw S ea k t = (a, b, c, d) ∧ (-100000000 ≤ a ∧ a ≤ 100000000) ∧ (0 < b ∧ b ≤ 12000) ∧ ((c = -4) ∨ (0 ≤ c ∧ c < S 0 ∧ b = 1)) ∧ (0 ≤ d ∧ d ≤ 50000) := by
  obtain ⟨t0, t1, t2, t3, -⟩ := id hT
  exact fwL_b hT ht _ 0 0 _ 0 (by omega) (by omega) (by omega) t1 (by omega)
section ME
variable {l : Launch} {A : Nat → Int → Int} {h : ev_H} {o : Nat → Int}
theorem e6_findWhere {k t : Int} (hw : MW h o A) (hI : mI0 (A 0)) (hJ : mIP (A 0)) (hk : 0 ≤ k ∧ k < 8) (hT : mT (A 0) k) (ht : -100000 ≤ t ∧ t ≤ 100000) : Ex l 3 yX6_findWhere.cls yX6_findWhere.name cX6_findWhere 10 none 0 [some (.ref 34), some (.int (iI k)), some (.int (iI t)), none, none, none, none, none, none, none] [] h (fwPost h o A (fw (A 0) (mea (A 0) k) k t)) := by
  obtain ⟨⟨i1, i2⟩, ⟨i3, i4⟩, i5, i6⟩ := id hI
  obtain ⟨t0, t1, t2, t3, t4, t5, t6, t7⟩ := id hT
  have fr := FrM.rf h
  refine ex_of (fun _ _ => ev_aload_n dX6_findWhere_0 rfl rfl) ?_
  refine ex_of (fun _ _ => ev_lconst (jJ (0)) dX6_findWhere_1 rfl (by decide)) ?_
  refine xput_19 dX6_findWhere_2 rfl hw fr (fun h hw fr => ?_)
  refine ex_of (fun _ _ => ev_aload_n dX6_findWhere_5 rfl rfl) ?_
  refine ex_of (fun _ _ => ev_lconst (jJ (1)) dX6_findWhere_6 rfl (by decide)) ?_
  refine xput_20 dX6_findWhere_7 rfl hw fr (fun h hw fr => ?_)
  refine ex_of (fun _ _ => ev_aload_n dX6_findWhere_10 rfl rfl) ?_
  refine ex_of (fun _ _ => ev_aload_n dX6_findWhere_11 rfl rfl) ?_
  refine ex_of (fun _ _ => ev_iload_n dX6_findWhere_12 rfl rfl) ?_
  refine ex_of (fun _ _ => ev_iconst (iI (1)) dX6_findWhere_13 rfl (by decide)) ?_
  refine ex_of (fun _ _ => ev_callV2 kX6_150 mX6_tell dX6_findWhere_14 rfl rfl (Nat.le_of_ble_eq_true rfl) (Nat.le_of_ble_eq_true rfl) (by decide) rfl hw.o (e6_tell hw (by omega))) ?_
  refine xput_21 dX6_findWhere_17 rfl hw fr (fun h hw fr => ?_)
  refine ex_of (fun _ _ => ev_aload_n dX6_findWhere_20 rfl rfl) ?_
  refine ex_of (fun _ _ => ev_iconst (iI (0)) dX6_findWhere_21 rfl (by decide)) ?_
  refine xput_22 dX6_findWhere_22 rfl hw fr (fun h hw fr => ?_)
  refine ex_of (fun _ _ => ev_iconst (iI (0)) dX6_findWhere_25 rfl (by decide)) ?_
  refine ex_of (fun _ _ => ev_istore_3 dX6_findWhere_26 rfl (by decide) rfl) ?_
  have K := e6_fwL (l := l) (h0 := _) (o0 := o) hI hJ hk hT ht (A 0 (143 + 45 * k + 3)).toNat 0 h _ none none none none none none hw fr (fun j hj => by rw [upN_n (by omega), upN_n (by omega), upN_n (by omega), upN_n (by omega)]) (by omega) (by omega) (by rw [upN_n (by decide), upN_n (by decide), upN_n (by decide), upN_s]; omega) (by rw [upN_n (by decide), upN_n (by decide), upN_s]) (by rw [upN_n (by decide), upN_s]; exact t1)
  rw [upN_n (by decide), upN_n (by decide), upN_n (by decide), upN_s, upN_n (by decide), upN_s, upN_s] at K
  exact K
theorem e6_eastNow1 {k : Int} (hw : MW h o A) (hI : mI0 (A 0)) (hJ : mIP (A 0)) (hk : 0 ≤ k ∧ k < 8) (hT : mT (A 0) k) (b1 : -100000000 ≤ o 19 ∧ o 19 ≤ 100000000) (b2 : 0 < o 20 ∧ o 20 ≤ 12000) : Ev l 1 yX6_eastNow.cls yX6_eastNow.name cX6_eastNow 5 (some .long) 0 [some (.ref 34), some (.int (iI k)), some (.int (iI 1)), none, none] [] h (some (.long (jJ (eN (A 0) k (o 19) (o 20) % (360 * o 20))))) h := by
  obtain ⟨⟨i1, i2⟩, ⟨i3, i4⟩, i5, i6⟩ := id hI
  obtain ⟨t0, t1, t2, t3, t4, t5, t6, t7⟩ := id hT
  obtain ⟨v1, -⟩ := hJ _ t1.1 t1.2
  have e1 := eS_b (A 0) (A 0 (3 + 4 * A 0 (143 + 45 * k + 1) + 0))
  have b3 := mul_bd (x := eS (A 0) (A 0 (3 + 4 * A 0 (143 + 45 * k + 1) + 0))) (y := o 20) (X := 360) (Y := 12000) (by omega) (by omega)
  refine ev_aload_n dX6_eastNow_0 rfl rfl ?_
  refine ev_aload_n dX6_eastNow_1 rfl rfl ?_
  refine ev_aload_n dX6_eastNow_2 rfl rfl ?_
  refine ev_iload_n dX6_eastNow_3 rfl rfl ?_
  refine ev_iconst (iI (1)) dX6_eastNow_4 rfl (by decide) ?_
  refine ev_callV2 kX6_150 mX6_tell dX6_eastNow_5 rfl rfl (Nat.le_of_ble_eq_true rfl) (Nat.le_of_ble_eq_true rfl) (by decide) rfl hw.o (e6_tell hw (by omega)) ?_
  refine ev_iconst (iI (0)) dX6_eastNow_8 rfl (by decide) ?_
  refine ev_callV2 kX6_108 mX6_get dX6_eastNow_9 rfl rfl (Nat.le_of_ble_eq_true rfl) (Nat.le_of_ble_eq_true rfl) (by decide) rfl hw.o (e6_get hw (by omega)) ?_
  refine ev_callV1 kX6_133 mX6_eastOf dX6_eastNow_12 rfl rfl (Nat.le_of_ble_eq_true rfl) (Nat.le_of_ble_eq_true rfl) (by decide) rfl hw.o (e6_eastOf hw hI v1) ?_
  refine ev_i2lI dX6_eastNow_15 rfl (by omega) ?_
  refine ev_aload_n dX6_eastNow_16 rfl rfl ?_
  refine ev_getfield fX6_169 dX6_eastNow_17 rfl hw.o rfl ?_
  refine ev_lmulI dX6_eastNow_20 rfl ?_
  refine ev_aload_n dX6_eastNow_21 rfl rfl ?_
  refine ev_getfield fX6_165 dX6_eastNow_22 rfl hw.o rfl ?_
  refine ev_laddI dX6_eastNow_25 rfl ?_
  refine ev_lstore_3 dX6_eastNow_26 rfl (by decide) rfl ?_
  refine ev_iload_n dX6_eastNow_27 rfl rfl ?_
  refine ev_ifI_eq (tgt := 57) dX6_eastNow_28 (by decide) rfl (by omega) (fun c28 => ?_) (fun c28 => ?_)
  · omega
  · refine ev_lload_n dX6_eastNow_31 rfl rfl ?_
    refine ev_ldc2I (360) nX6_121 dX6_eastNow_32 rfl (by decide) ?_
    refine ev_aload_n dX6_eastNow_35 rfl rfl ?_
    refine ev_getfield fX6_169 dX6_eastNow_36 rfl hw.o rfl ?_
    refine ev_lmulI dX6_eastNow_39 rfl ?_
    refine ev_lload_n dX6_eastNow_40 rfl rfl ?_
    refine ev_ldc2I (360) nX6_121 dX6_eastNow_41 rfl (by decide) ?_
    refine ev_aload_n dX6_eastNow_44 rfl rfl ?_
    refine ev_getfield fX6_169 dX6_eastNow_45 rfl hw.o rfl ?_
    refine ev_lmulI dX6_eastNow_48 rfl ?_
    refine ev_callS2 kX6_129 mX6_floor dX6_eastNow_49 rfl rfl (Nat.le_of_ble_eq_true rfl) (Nat.le_of_ble_eq_true rfl) (by decide) (e6_floor (by omega) (by omega)) ?_
    refine ev_lmulI dX6_eastNow_52 rfl ?_
    refine ev_lsubI dX6_eastNow_53 rfl ?_
    refine ev_goto (tgt := 58) dX6_eastNow_54 (by decide) ?_
    exact ev_lreI dX6_eastNow_58 (by show _ = eN (A 0) k (o 19) (o 20) % (360 * o 20); rw [Int.emod_def]; rfl)
theorem e6_eastNow0 {k : Int} (hw : MW h o A) (hI : mI0 (A 0)) (hJ : mIP (A 0)) (hk : 0 ≤ k ∧ k < 8) (hT : mT (A 0) k) (b1 : -100000000 ≤ o 19 ∧ o 19 ≤ 100000000) (b2 : 0 < o 20 ∧ o 20 ≤ 12000) : Ev l 1 yX6_eastNow.cls yX6_eastNow.name cX6_eastNow 5 (some .long) 0 [some (.ref 34), some (.int (iI k)), some (.int (iI 0)), none, none] [] h (some (.long (jJ (eN (A 0) k (o 19) (o 20))))) h := by
  obtain ⟨⟨i1, i2⟩, ⟨i3, i4⟩, i5, i6⟩ := id hI
  obtain ⟨t0, t1, t2, t3, t4, t5, t6, t7⟩ := id hT
  obtain ⟨v1, -⟩ := hJ _ t1.1 t1.2
  have e1 := eS_b (A 0) (A 0 (3 + 4 * A 0 (143 + 45 * k + 1) + 0))
  have b3 := mul_bd (x := eS (A 0) (A 0 (3 + 4 * A 0 (143 + 45 * k + 1) + 0))) (y := o 20) (X := 360) (Y := 12000) (by omega) (by omega)
  refine ev_aload_n dX6_eastNow_0 rfl rfl ?_
  refine ev_aload_n dX6_eastNow_1 rfl rfl ?_
  refine ev_aload_n dX6_eastNow_2 rfl rfl ?_
  refine ev_iload_n dX6_eastNow_3 rfl rfl ?_
  refine ev_iconst (iI (1)) dX6_eastNow_4 rfl (by decide) ?_
  refine ev_callV2 kX6_150 mX6_tell dX6_eastNow_5 rfl rfl (Nat.le_of_ble_eq_true rfl) (Nat.le_of_ble_eq_true rfl) (by decide) rfl hw.o (e6_tell hw (by omega)) ?_
  refine ev_iconst (iI (0)) dX6_eastNow_8 rfl (by decide) ?_
  refine ev_callV2 kX6_108 mX6_get dX6_eastNow_9 rfl rfl (Nat.le_of_ble_eq_true rfl) (Nat.le_of_ble_eq_true rfl) (by decide) rfl hw.o (e6_get hw (by omega)) ?_
  refine ev_callV1 kX6_133 mX6_eastOf dX6_eastNow_12 rfl rfl (Nat.le_of_ble_eq_true rfl) (Nat.le_of_ble_eq_true rfl) (by decide) rfl hw.o (e6_eastOf hw hI v1) ?_
  refine ev_i2lI dX6_eastNow_15 rfl (by omega) ?_
  refine ev_aload_n dX6_eastNow_16 rfl rfl ?_
  refine ev_getfield fX6_169 dX6_eastNow_17 rfl hw.o rfl ?_
  refine ev_lmulI dX6_eastNow_20 rfl ?_
  refine ev_aload_n dX6_eastNow_21 rfl rfl ?_
  refine ev_getfield fX6_165 dX6_eastNow_22 rfl hw.o rfl ?_
  refine ev_laddI dX6_eastNow_25 rfl ?_
  refine ev_lstore_3 dX6_eastNow_26 rfl (by decide) rfl ?_
  refine ev_iload_n dX6_eastNow_27 rfl rfl ?_
  refine ev_ifI_eq (tgt := 57) dX6_eastNow_28 (by decide) rfl (by omega) (fun c28 => ?_) (fun c28 => ?_)
  · refine ev_lload_n dX6_eastNow_57 rfl rfl ?_
    exact ev_lreI dX6_eastNow_58 (rfl)
  · omega
theorem e6_seenDay {k t : Int} (hw : MW h o A) (hI : mI0 (A 0)) (hJ : mIP (A 0)) (hk : 0 ≤ k ∧ k < 8) (hT : mT (A 0) k) (b1 : -100000000 ≤ o 19 ∧ o 19 ≤ 100000000) (b2 : 0 < o 20 ∧ o 20 ≤ 12000) (ht : -100000 ≤ t ∧ t ≤ 100000) : Ev l 2 yX6_seenDay.cls yX6_seenDay.name cX6_seenDay 3 (some .int) 0 [some (.ref 34), some (.int (iI k)), some (.int (iI t))] [] h (some (.int (iI (sSeen (A 0) k (o 19) (o 20) t)))) h := by
  obtain ⟨⟨i1, i2⟩, ⟨i3, i4⟩, i5, i6⟩ := id hI
  obtain ⟨t0, t1, t2, t3, t4, t5, t6, t7⟩ := id hT
  obtain ⟨v1, -⟩ := hJ _ t1.1 t1.2
  have e1 := eS_b (A 0) (A 0 (3 + 4 * A 0 (143 + 45 * k + 1) + 0))
  have b3 := mul_bd (x := eS (A 0) (A 0 (3 + 4 * A 0 (143 + 45 * k + 1) + 0))) (y := o 20) (X := 360) (Y := 12000) (by omega) (by omega)
  have e3 : -200000000 ≤ eN (A 0) k (o 19) (o 20) ∧ eN (A 0) k (o 19) (o 20) ≤ 200000000 := by unfold eN; omega
  have e4 := Int.emod_nonneg (eN (A 0) k (o 19) (o 20)) (show 360 * o 20 ≠ 0 by omega)
  have e5 := Int.emod_lt_of_pos (eN (A 0) k (o 19) (o 20)) (show 0 < 360 * o 20 by omega)
  refine ev_aload_n dX6_seenDay_0 rfl rfl ?_
  refine ev_iload_n dX6_seenDay_1 rfl rfl ?_
  refine ev_iconst (iI (0)) dX6_seenDay_2 rfl (by decide) ?_
  refine ev_callV2 kX6_189 mX6_eastNow dX6_seenDay_3 rfl rfl (Nat.le_of_ble_eq_true rfl) (Nat.le_of_ble_eq_true rfl) (by decide) rfl hw.o (e6_eastNow0 hw hI hJ hk hT b1 b2) ?_
  refine ev_aload_n dX6_seenDay_6 rfl rfl ?_
  refine ev_getfield fX6_169 dX6_seenDay_7 rfl hw.o rfl ?_
  refine ev_iconst (iI (1)) dX6_seenDay_10 rfl (by decide) ?_
  refine ev_iload_n dX6_seenDay_11 rfl rfl ?_
  refine ev_callS4 kX6_137 mX6_dayAt dX6_seenDay_12 rfl rfl (Nat.le_of_ble_eq_true rfl) (Nat.le_of_ble_eq_true rfl) (by decide) (e6_dayAt (by omega) b2 (by omega) ht) ?_
  exact ev_ireI dX6_seenDay_15 (rfl)
theorem e6_roundsNow {k : Int} (hw : MW h o A) (hI : mI0 (A 0)) (hJ : mIP (A 0)) (hk : 0 ≤ k ∧ k < 8) (hT : mT (A 0) k) (b1 : -100000000 ≤ o 19 ∧ o 19 ≤ 100000000) (b2 : 0 < o 20 ∧ o 20 ≤ 12000) : Ev l 2 yX6_roundsNow.cls yX6_roundsNow.name cX6_roundsNow 2 (some .int) 0 [some (.ref 34), some (.int (iI k))] [] h (some (.int (iI (sRnd (A 0) k (o 19) (o 20))))) h := by
  obtain ⟨⟨i1, i2⟩, ⟨i3, i4⟩, i5, i6⟩ := id hI
  obtain ⟨t0, t1, t2, t3, t4, t5, t6, t7⟩ := id hT
  obtain ⟨v1, -⟩ := hJ _ t1.1 t1.2
  have e1 := eS_b (A 0) (A 0 (3 + 4 * A 0 (143 + 45 * k + 1) + 0))
  have b3 := mul_bd (x := eS (A 0) (A 0 (3 + 4 * A 0 (143 + 45 * k + 1) + 0))) (y := o 20) (X := 360) (Y := 12000) (by omega) (by omega)
  have e3 : -200000000 ≤ eN (A 0) k (o 19) (o 20) ∧ eN (A 0) k (o 19) (o 20) ≤ 200000000 := by unfold eN; omega
  have e4 := Int.emod_nonneg (eN (A 0) k (o 19) (o 20)) (show 360 * o 20 ≠ 0 by omega)
  have e5 := Int.emod_lt_of_pos (eN (A 0) k (o 19) (o 20)) (show 0 < 360 * o 20 by omega)
  refine ev_aload_n dX6_roundsNow_0 rfl rfl ?_
  refine ev_iload_n dX6_roundsNow_1 rfl rfl ?_
  refine ev_iconst (iI (0)) dX6_roundsNow_2 rfl (by decide) ?_
  refine ev_callV2 kX6_189 mX6_eastNow dX6_roundsNow_3 rfl rfl (Nat.le_of_ble_eq_true rfl) (Nat.le_of_ble_eq_true rfl) (by decide) rfl hw.o (e6_eastNow0 hw hI hJ hk hT b1 b2) ?_
  refine ev_ldc2I (360) nX6_121 dX6_roundsNow_6 rfl (by decide) ?_
  refine ev_aload_n dX6_roundsNow_9 rfl rfl ?_
  refine ev_getfield fX6_169 dX6_roundsNow_10 rfl hw.o rfl ?_
  refine ev_lmulI dX6_roundsNow_13 rfl ?_
  refine ev_callS2 kX6_129 mX6_floor dX6_roundsNow_14 rfl rfl (Nat.le_of_ble_eq_true rfl) (Nat.le_of_ble_eq_true rfl) (by decide) (e6_floor (by omega) (by omega)) ?_
  refine ev_l2iI dX6_roundsNow_17 rfl ?_
  exact ev_ireI dX6_roundsNow_18 (rfl)
theorem e6_hereDay {k t : Int} (hw : MW h o A) (hI : mI0 (A 0)) (hJ : mIP (A 0)) (hk : 0 ≤ k ∧ k < 8) (hT : mT (A 0) k) (b1 : -100000000 ≤ o 19 ∧ o 19 ≤ 100000000) (b2 : 0 < o 20 ∧ o 20 ≤ 12000) (ht : -100000 ≤ t ∧ t ≤ 100000) (b4 : o 21 = -4 ∨ (0 ≤ o 21 ∧ o 21 < A 0 0)) : Ev l 3 yX6_hereDay.cls yX6_hereDay.name cX6_hereDay 3 (some .int) 0 [some (.ref 34), some (.int (iI k)), some (.int (iI t))] [] h (some (.int (iI (sHere (A 0) k (o 19) (o 20) (o 21) t)))) h := by
  obtain ⟨⟨i1, i2⟩, ⟨i3, i4⟩, i5, i6⟩ := id hI
  obtain ⟨t0, t1, t2, t3, t4, t5, t6, t7⟩ := id hT
  obtain ⟨v1, -⟩ := hJ _ t1.1 t1.2
  have e1 := eS_b (A 0) (A 0 (3 + 4 * A 0 (143 + 45 * k + 1) + 0))
  have b3 := mul_bd (x := eS (A 0) (A 0 (3 + 4 * A 0 (143 + 45 * k + 1) + 0))) (y := o 20) (X := 360) (Y := 12000) (by omega) (by omega)
  have e3 : -200000000 ≤ eN (A 0) k (o 19) (o 20) ∧ eN (A 0) k (o 19) (o 20) ≤ 200000000 := by unfold eN; omega
  have e4 := Int.emod_nonneg (eN (A 0) k (o 19) (o 20)) (show 360 * o 20 ≠ 0 by omega)
  have e5 := Int.emod_lt_of_pos (eN (A 0) k (o 19) (o 20)) (show 0 < 360 * o 20 by omega)
  refine ev_aload_n dX6_hereDay_0 rfl rfl ?_
  refine ev_getfield fX6_172 dX6_hereDay_1 rfl hw.o rfl ?_
  refine ev_ifI_lt (tgt := 19) dX6_hereDay_4 (by decide) rfl (by omega) (fun c4 => ?_) (fun c4 => ?_)
  · refine ev_aload_n dX6_hereDay_19 rfl rfl ?_
    refine ev_iload_n dX6_hereDay_20 rfl rfl ?_
    refine ev_iconst (iI (1)) dX6_hereDay_21 rfl (by decide) ?_
    refine ev_callV2 kX6_189 mX6_eastNow dX6_hereDay_22 rfl rfl (Nat.le_of_ble_eq_true rfl) (Nat.le_of_ble_eq_true rfl) (by decide) rfl hw.o (e6_eastNow1 hw hI hJ hk hT b1 b2) ?_
    refine ev_aload_n dX6_hereDay_25 rfl rfl ?_
    refine ev_getfield fX6_169 dX6_hereDay_26 rfl hw.o rfl ?_
    refine ev_iconst (iI (0)) dX6_hereDay_29 rfl (by decide) ?_
    refine ev_iload_n dX6_hereDay_30 rfl rfl ?_
    refine ev_callS4 kX6_137 mX6_dayAt dX6_hereDay_31 rfl rfl (Nat.le_of_ble_eq_true rfl) (Nat.le_of_ble_eq_true rfl) (by decide) (e6_dayAt (by omega) b2 (by omega) ht) ?_
    exact ev_ireI dX6_hereDay_34 (by unfold sHere; first | rw [if_pos (by omega)] | (rw [if_neg (by omega)]; rfl))
  · refine ev_aload_n dX6_hereDay_7 rfl rfl ?_
    refine ev_aload_n dX6_hereDay_8 rfl rfl ?_
    refine ev_getfield fX6_172 dX6_hereDay_9 rfl hw.o rfl ?_
    refine ev_iload_n dX6_hereDay_12 rfl rfl ?_
    refine ev_callV2 kX6_145 mX6_dayIn dX6_hereDay_13 rfl rfl (Nat.le_of_ble_eq_true rfl) (Nat.le_of_ble_eq_true rfl) (by decide) rfl hw.o (e6_dayIn hw hI hJ (by omega) ht) ?_
    refine ev_goto (tgt := 34) dX6_hereDay_16 (by decide) ?_
    exact ev_ireI dX6_hereDay_34 (by unfold sHere; first | rw [if_pos (by omega)] | (rw [if_neg (by omega)]; rfl))
end ME
