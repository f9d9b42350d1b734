/-! where a traveller is: the reference's findWhere -/
def lg (S : Int → Int) (k i w : Int) : Int := S (143 + 45 * k + (4 + 4 * i + w))
def tl (S : Int → Int) (k i : Int) : Int := S (143 + 45 * k + i)
def mT (S : Int → Int) (k : Int) : Prop := (0 ≤ S (143 + 45 * k + 0) ∧ S (143 + 45 * k + 0) ≤ 7) ∧ (0 ≤ S (143 + 45 * k + 1) ∧ S (143 + 45 * k + 1) < S 0) ∧ (0 ≤ S (143 + 45 * k + 2) ∧ S (143 + 45 * k + 2) ≤ 30) ∧ (0 ≤ S (143 + 45 * k + 3) ∧ S (143 + 45 * k + 3) ≤ 6) ∧
  (∀ i, 0 ≤ i → i < S (143 + 45 * k + 3) → (0 ≤ S (143 + 45 * k + (4 + 4 * i + 0)) ∧ S (143 + 45 * k + (4 + 4 * i + 0)) < S 0) ∧ (S (143 + 45 * k + (4 + 4 * i + 1)) = 0 ∨ S (143 + 45 * k + (4 + 4 * i + 1)) = 1) ∧ (0 ≤ S (143 + 45 * k + (4 + 4 * i + 2)) ∧ S (143 + 45 * k + (4 + 4 * i + 2)) ≤ 19999) ∧ (1 ≤ S (143 + 45 * k + (4 + 4 * i + 3)) ∧ S (143 + 45 * k + (4 + 4 * i + 3)) ≤ 200)) ∧
  (0 ≤ S (143 + 45 * k + 28) ∧ S (143 + 45 * k + 28) ≤ 8) ∧ (∀ i, 0 ≤ i → i < S (143 + 45 * k + 28) → (0 ≤ S (143 + 45 * k + (29 + 2 * i)) ∧ S (143 + 45 * k + (29 + 2 * i)) ≤ 19999) ∧ (S (143 + 45 * k + (30 + 2 * i)) = 1 ∨ S (143 + 45 * k + (30 + 2 * i)) = -1)) ∧
  (∀ i, 0 ≤ i → i + 1 < S (143 + 45 * k + 3) → S (143 + 45 * k + (4 + 4 * i + 2)) + 60 * S (143 + 45 * k + (4 + 4 * i + 3)) ≤ S (143 + 45 * k + (4 + 4 * (i + 1) + 2)))
/-- degrees of a leg, eastward above 0 -/
def sgn (S : Int → Int) (ea : Bool) (f t : Int) : Int := if ea then (S (3 + 4 * t + 0) - S (3 + 4 * f + 0)) % 360 else -((S (3 + 4 * f + 0) - S (3 + 4 * t + 0)) % 360)
theorem sgn_b (S : Int → Int) (ea : Bool) (f t : Int) : -360 < sgn S ea f t ∧ sgn S ea f t < 360 := by unfold sgn; split <;> omega
/-- above and below the line, the place (-4 under way), since when -/
def fwL (S : Int → Int) (ea : Int → Bool) (k t : Int) : Nat → Int → Int → Int → Int → Int × Int × Int × Int
  | 0, _, ab, pn, si => (ab, 1, pn, si)
  | n + 1, i, ab, pn, si => if t ≤ S (143 + 45 * k + (4 + 4 * i + 2)) then (ab, 1, pn, si) else if S (143 + 45 * k + (4 + 4 * i + 2)) + 60 * S (143 + 45 * k + (4 + 4 * i + 3)) ≤ t then fwL S ea k t n (i + 1) (ab + sgn S (ea i) pn (S (143 + 45 * k + (4 + 4 * i + 0)))) (S (143 + 45 * k + (4 + 4 * i + 0))) (S (143 + 45 * k + (4 + 4 * i + 2)) + 60 * S (143 + 45 * k + (4 + 4 * i + 3)))
    else (ab * (60 * S (143 + 45 * k + (4 + 4 * i + 3))) + sgn S (ea i) pn (S (143 + 45 * k + (4 + 4 * i + 0))) * (t - S (143 + 45 * k + (4 + 4 * i + 2))), 60 * S (143 + 45 * k + (4 + 4 * i + 3)), -4, si)
def mea (S : Int → Int) (k : Int) : Int → Bool := fun i => decide (S (143 + 45 * k + (4 + 4 * i + 1)) = 1)
def fw (S : Int → Int) (ea : Int → Bool) (k t : Int) : Int × Int × Int × Int := fwL S ea k t (S (143 + 45 * k + 3)).toNat 0 0 (S (143 + 45 * k + 1)) 0
section MD
variable {l : Launch} {A : Nat → Int → Int}
def fwPost (h0 : ev_H) (o0 : Nat → Int) (A : Nat → Int → Int) (r : Int × Int × Int × Int) : Option Value → ev_H → Prop := fun v h2 => v = none ∧ ∃ o2, MW h2 o2 A ∧ FrM h0 h2 ∧ (∀ j, j < 19 → o2 j = o0 j) ∧ (o2 19, o2 20, o2 21, o2 22) = r
theorem e6_fwL {h0 : ev_H} {o0 : Nat → Int} {k t : Int} (hI : mI0 (A 0)) (hJ : mIP (A 0)) (hk : 0 ≤ k ∧ k < 8) (hT : mT (A 0) k) (ht : -100000 ≤ t ∧ t ≤ 100000) : ∀ (n : Nat) (i : Int) (h : ev_H) (o : Nat → Int) (a4 a5 a6 a7 a8 a9 : Option Value), MW h o A → FrM h0 h → (∀ j, j < 19 → o j = o0 j) → 0 ≤ i → A 0 (143 + 45 * k + 3) - i = n → (-360 * i ≤ o 19 ∧ o 19 ≤ 360 * i) → o 20 = 1 → (0 ≤ o 21 ∧ o 21 < A 0 0) →
    Ex l 3 yX6_findWhere.cls yX6_findWhere.name cX6_findWhere 10 none 27 [some (.ref 34), some (.int (iI k)), some (.int (iI t)), some (.int (iI i)), a4, a5, a6, a7, a8, a9] [] h (fwPost h0 o0 A (fwL (A 0) (mea (A 0) k) k t n i (o 19) (o 21) (o 22))) := by
  intro n
  obtain ⟨⟨i1, i2⟩, ⟨i3, i4⟩, i5, i6⟩ := id hI
  obtain ⟨t0, t1, t2, t3, t4, t5, t6, t7⟩ := id hT
  induction n with
  | zero =>
    intro i h o a4 a5 a6 a7 a8 a9 hw fr hs hi hn hb h20 h21
    refine ex_of (fun _ _ => ev_iload_n dX6_findWhere_27 rfl rfl) ?_
    refine ex_of (fun _ _ => ev_aload_n dX6_findWhere_28 rfl rfl) ?_
    refine ex_of (fun _ _ => ev_iload_n dX6_findWhere_29 rfl rfl) ?_
    refine ex_of (fun _ _ => ev_iconst (iI (3)) dX6_findWhere_30 rfl (by decide)) ?_
    refine ex_of (fun _ _ => ev_callV2 kX6_150 mX6_tell dX6_findWhere_31 rfl rfl (Nat.le_of_ble_eq_true rfl) (Nat.le_of_ble_eq_true rfl) (by decide) rfl hw.o (e6_tell hw (by omega))) ?_
    refine ex_icmpI_ge (tgt := 240) dX6_findWhere_34 (by decide) rfl (by omega) (by omega) (fun c34 => ?_) (fun c34 => ?_)
    · exact ex_end (ev_vret dX6_findWhere_240) (⟨rfl, o, hw, fr, hs, by rw [h20]; rfl⟩)
    · omega
  | succ n ih =>
    intro i h o a4 a5 a6 a7 a8 a9 hw fr hs hi hn hb h20 h21
    obtain ⟨u0, u1, u2, u3⟩ := t4 i hi (by omega)
    obtain ⟨v0, -⟩ := hJ _ u0.1 u0.2
    obtain ⟨v1, -⟩ := hJ _ h21.1 h21.2
    have sb := sgn_b (A 0) (mea (A 0) k i) (o 21) (A 0 (143 + 45 * k + (4 + 4 * i + 0)))
    have B : ∀ (sg : Int) (a6 a7 a8 : Option Value), ev_c1 a8 = true → sg = sgn (A 0) (mea (A 0) k i) (o 21) (A 0 (143 + 45 * k + (4 + 4 * i + 0))) → A 0 (143 + 45 * k + (4 + 4 * i + 2)) < t → Ex l 3 yX6_findWhere.cls yX6_findWhere.name cX6_findWhere 10 none 147 [some (.ref 34), some (.int (iI k)), some (.int (iI t)), some (.int (iI i)), some (.int (iI (A 0 (143 + 45 * k + (4 + 4 * i + 2))))), some (.int (iI (A 0 (143 + 45 * k + (4 + 4 * i + 0))))), a6, a7, a8, some (.int (iI sg))] [] h (fwPost h0 o0 A (fwL (A 0) (mea (A 0) k) k t (n + 1) i (o 19) (o 21) (o 22))) := by
      intro sg a6 a7 a8 _ hsg hft
      have fl : fwL (A 0) (mea (A 0) k) k t (n + 1) i (o 19) (o 21) (o 22) = if A 0 (143 + 45 * k + (4 + 4 * i + 2)) + 60 * A 0 (143 + 45 * k + (4 + 4 * i + 3)) ≤ t then fwL (A 0) (mea (A 0) k) k t n (i + 1) (o 19 + sg) (A 0 (143 + 45 * k + (4 + 4 * i + 0))) (A 0 (143 + 45 * k + (4 + 4 * i + 2)) + 60 * A 0 (143 + 45 * k + (4 + 4 * i + 3))) else (o 19 * (60 * A 0 (143 + 45 * k + (4 + 4 * i + 3))) + sg * (t - A 0 (143 + 45 * k + (4 + 4 * i + 2))), 60 * A 0 (143 + 45 * k + (4 + 4 * i + 3)), -4, o 22) := by
        conv => lhs; unfold fwL
        rw [if_neg (by omega), hsg]
      rw [fl]
      refine ex_of (fun _ _ => ev_iload_n dX6_findWhere_147 rfl rfl) ?_
      refine ex_of (fun _ _ => ev_aload_n dX6_findWhere_148 rfl rfl) ?_
      refine ex_of (fun _ _ => ev_iload_n dX6_findWhere_149 rfl rfl) ?_
      refine ex_of (fun _ _ => ev_iload_n dX6_findWhere_150 rfl rfl) ?_
      refine ex_of (fun _ _ => ev_callV2 kX6_162 mX6_endOf dX6_findWhere_151 rfl rfl (Nat.le_of_ble_eq_true rfl) (Nat.le_of_ble_eq_true rfl) (by decide) rfl hw.o (e6_endOf hw (by omega))) ?_
      refine ex_icmpI_lt (tgt := 188) dX6_findWhere_154 (by decide) rfl (by omega) (by omega) (fun c154 => ?_) (fun c154 => ?_)
      · refine ex_of (fun _ _ => ev_aload_n dX6_findWhere_188 rfl rfl) ?_
        refine ex_of (fun _ _ => ev_ldc2I (60) nX6_178 dX6_findWhere_189 rfl (by decide)) ?_
        refine ex_of (fun _ _ => ev_aload_n dX6_findWhere_192 rfl rfl) ?_
        refine ex_of (fun _ _ => ev_iload_n dX6_findWhere_193 rfl rfl) ?_
        refine ex_of (fun _ _ => ev_iload_n dX6_findWhere_194 rfl rfl) ?_
        refine ex_of (fun _ _ => ev_iconst (iI (3)) dX6_findWhere_195 rfl (by decide)) ?_
        refine ex_of (fun _ _ => ev_callV3 kX6_153 mX6_legOf dX6_findWhere_196 rfl rfl (Nat.le_of_ble_eq_true rfl) (Nat.le_of_ble_eq_true rfl) (by decide) rfl hw.o (e6_legOf hw (by omega))) ?_
        refine ex_of (fun _ _ => ev_i2lI dX6_findWhere_199 rfl (by omega)) ?_
        refine ex_of (fun _ _ => ev_lmulI dX6_findWhere_200 rfl) ?_
        refine xput_20 dX6_findWhere_201 rfl hw fr (fun h hw fr => ?_)
        refine ex_of (fun _ _ => ev_aload_n dX6_findWhere_204 rfl rfl) ?_
        refine ex_of (fun _ _ => ev_aload_n dX6_findWhere_205 rfl rfl) ?_
        refine ex_of (fun _ _ => ev_getfield fX6_165 dX6_findWhere_206 rfl hw.o rfl) ?_
        refine ex_of (fun _ _ => ev_aload_n dX6_findWhere_209 rfl rfl) ?_
        refine ex_of (fun _ _ => ev_getfield fX6_169 dX6_findWhere_210 rfl hw.o rfl) ?_
        refine ex_of (fun _ _ => ev_lmulI dX6_findWhere_213 rfl) ?_
        refine ex_of (fun _ _ => ev_iload dX6_findWhere_214 rfl rfl) ?_
        refine ex_of (fun _ _ => ev_i2lI dX6_findWhere_216 rfl (by omega)) ?_
        refine ex_of (fun _ _ => ev_iload_n dX6_findWhere_217 rfl rfl) ?_
        refine ex_of (fun _ _ => ev_iload dX6_findWhere_218 rfl rfl) ?_
        refine ex_of (fun _ _ => ev_isubI dX6_findWhere_220 rfl) ?_
        refine ex_of (fun _ _ => ev_i2lI dX6_findWhere_221 rfl (by omega)) ?_
        refine ex_of (fun _ _ => ev_lmulI dX6_findWhere_222 rfl) ?_
        refine ex_of (fun _ _ => ev_laddI dX6_findWhere_223 rfl) ?_
        refine xput_19 dX6_findWhere_224 rfl hw fr (fun h hw fr => ?_)
        refine ex_of (fun _ _ => ev_aload_n dX6_findWhere_227 rfl rfl) ?_
        refine ex_of (fun _ _ => ev_bipush (iI (-4)) dX6_findWhere_228 rfl (by decide)) ?_
        refine xput_21 dX6_findWhere_230 rfl hw fr (fun h hw fr => ?_)
        exact ex_end (ev_vret dX6_findWhere_233) (by rw [if_neg (by omega)]; exact ⟨rfl, _, hw, fr, fun j hj => by rw [upN_n (by omega), upN_n (by omega), upN_n (by omega)]; exact hs j hj, by simp [upN]⟩)
      · refine ex_of (fun _ _ => ev_aload_n dX6_findWhere_157 rfl rfl) ?_
        refine ex_of (fun _ _ => ev_dup dX6_findWhere_158 rfl rfl) ?_
        refine ex_of (fun _ _ => ev_getfield fX6_165 dX6_findWhere_159 rfl hw.o rfl) ?_
        refine ex_of (fun _ _ => ev_iload dX6_findWhere_162 rfl rfl) ?_
        refine ex_of (fun _ _ => ev_i2lI dX6_findWhere_164 rfl (by omega)) ?_
        refine ex_of (fun _ _ => ev_laddI dX6_findWhere_165 rfl) ?_
        refine xput_19 dX6_findWhere_166 rfl hw fr (fun h hw fr => ?_)
        refine ex_of (fun _ _ => ev_aload_n dX6_findWhere_169 rfl rfl) ?_
        refine ex_of (fun _ _ => ev_iload dX6_findWhere_170 rfl rfl) ?_
        refine xput_21 dX6_findWhere_172 rfl hw fr (fun h hw fr => ?_)
        refine ex_of (fun _ _ => ev_aload_n dX6_findWhere_175 rfl rfl) ?_
        refine ex_of (fun _ _ => ev_aload_n dX6_findWhere_176 rfl rfl) ?_
        refine ex_of (fun _ _ => ev_iload_n dX6_findWhere_177 rfl rfl) ?_
        refine ex_of (fun _ _ => ev_iload_n dX6_findWhere_178 rfl rfl) ?_
        refine ex_of (fun _ _ => ev_callV2 kX6_162 mX6_endOf dX6_findWhere_179 rfl rfl (Nat.le_of_ble_eq_true rfl) (Nat.le_of_ble_eq_true rfl) (by decide) rfl hw.o (e6_endOf hw (by omega))) ?_
        refine xput_22 dX6_findWhere_182 rfl hw fr (fun h hw fr => ?_)
        refine ex_of (fun _ _ => ev_goto (tgt := 234) dX6_findWhere_185 (by decide)) ?_
        refine ex_of (fun _ _ => ev_iincI_3 dX6_findWhere_234 rfl (by decide) rfl) ?_
        refine ex_of (fun _ _ => ev_goto (tgt := 27) dX6_findWhere_237 (by decide)) ?_
        rw [if_pos (by omega)]
        have K := ih (i + 1) h _ (some (.int (iI (A 0 (143 + 45 * k + (4 + 4 * i + 2)))))) (some (.int (iI (A 0 (143 + 45 * k + (4 + 4 * i + 0)))))) a6 a7 a8 (some (.int (iI sg))) hw fr (fun j hj => by rw [upN_n (by omega), upN_n (by omega), upN_n (by omega)]; exact hs j hj) (by omega) (by omega) (by rw [upN_n (by decide), upN_n (by decide), upN_s]; omega) (by rw [upN_n (by decide), upN_n (by decide), upN_n (by decide)]; exact h20) (by rw [upN_n (by decide), upN_s]; exact u0)
        rw [upN_n (by decide), upN_n (by decide), upN_s, upN_n (by decide), upN_s, upN_s] at K
        exact K
    refine ex_of (fun _ _ => ev_iload_n dX6_findWhere_27 rfl rfl) ?_
    refine ex_of (fun _ _ => ev_aload_n dX6_findWhere_28 rfl rfl) ?_
    refine ex_of (fun _ _ => ev_iload_n dX6_findWhere_29 rfl rfl) ?_
    refine ex_of (fun _ _ => ev_iconst (iI (3)) dX6_findWhere_30 rfl (by decide)) ?_
    refine ex_of (fun _ _ => ev_callV2 kX6_150 mX6_tell dX6_findWhere_31 rfl rfl (Nat.le_of_ble_eq_true rfl) (Nat.le_of_ble_eq_true rfl) (by decide) rfl hw.o (e6_tell hw (by omega))) ?_
    refine ex_icmpI_ge (tgt := 240) dX6_findWhere_34 (by decide) rfl (by omega) (by omega) (fun c34 => ?_) (fun c34 => ?_)
    · omega
    · refine ex_of (fun _ _ => ev_aload_n dX6_findWhere_37 rfl rfl) ?_
      refine ex_of (fun _ _ => ev_iload_n dX6_findWhere_38 rfl rfl) ?_
      refine ex_of (fun _ _ => ev_iload_n dX6_findWhere_39 rfl rfl) ?_
      refine ex_of (fun _ _ => ev_iconst (iI (2)) dX6_findWhere_40 rfl (by decide)) ?_
      refine ex_of (fun _ _ => ev_callV3 kX6_153 mX6_legOf dX6_findWhere_41 rfl rfl (Nat.le_of_ble_eq_true rfl) (Nat.le_of_ble_eq_true rfl) (by decide) rfl hw.o (e6_legOf hw (by omega))) ?_
      refine ex_of (fun _ _ => ev_istore_4 dX6_findWhere_44 rfl (by decide) rfl) ?_
      refine ex_of (fun _ _ => ev_iload_n dX6_findWhere_46 rfl rfl) ?_
      refine ex_of (fun _ _ => ev_iload dX6_findWhere_47 rfl rfl) ?_
      refine ex_icmpI_gt (tgt := 53) dX6_findWhere_49 (by decide) rfl (by omega) (by omega) (fun c49 => ?_) (fun c49 => ?_)
      · refine ex_of (fun _ _ => ev_aload_n dX6_findWhere_53 rfl rfl) ?_
        refine ex_of (fun _ _ => ev_iload_n dX6_findWhere_54 rfl rfl) ?_
        refine ex_of (fun _ _ => ev_iload_n dX6_findWhere_55 rfl rfl) ?_
        refine ex_of (fun _ _ => ev_iconst (iI (0)) dX6_findWhere_56 rfl (by decide)) ?_
        refine ex_of (fun _ _ => ev_callV3 kX6_153 mX6_legOf dX6_findWhere_57 rfl rfl (Nat.le_of_ble_eq_true rfl) (Nat.le_of_ble_eq_true rfl) (by decide) rfl hw.o (e6_legOf hw (by omega))) ?_
        refine ex_of (fun _ _ => ev_istore_5 dX6_findWhere_60 rfl (by decide) rfl) ?_
        refine ex_of (fun _ _ => ev_aload_n dX6_findWhere_62 rfl rfl) ?_
        refine ex_of (fun _ _ => ev_iload dX6_findWhere_63 rfl rfl) ?_
        refine ex_of (fun _ _ => ev_iconst (iI (0)) dX6_findWhere_65 rfl (by decide)) ?_
        refine ex_of (fun _ _ => ev_callV2 kX6_108 mX6_get dX6_findWhere_66 rfl rfl (Nat.le_of_ble_eq_true rfl) (Nat.le_of_ble_eq_true rfl) (by decide) rfl hw.o (e6_get hw (by omega))) ?_
        refine ex_of (fun _ _ => ev_aload_n dX6_findWhere_69 rfl rfl) ?_
        refine ex_of (fun _ _ => ev_aload_n dX6_findWhere_70 rfl rfl) ?_
        refine ex_of (fun _ _ => ev_getfield fX6_172 dX6_findWhere_71 rfl hw.o rfl) ?_
        refine ex_of (fun _ _ => ev_iconst (iI (0)) dX6_findWhere_74 rfl (by decide)) ?_
        refine ex_of (fun _ _ => ev_callV2 kX6_108 mX6_get dX6_findWhere_75 rfl rfl (Nat.le_of_ble_eq_true rfl) (Nat.le_of_ble_eq_true rfl) (by decide) rfl hw.o (e6_get hw (by omega))) ?_
        refine ex_of (fun _ _ => ev_isubI dX6_findWhere_78 rfl) ?_
        refine ex_of (fun _ _ => ev_istore_6 dX6_findWhere_79 rfl (by decide) rfl) ?_
        refine ex_of (fun _ _ => ev_aload_n dX6_findWhere_81 rfl rfl) ?_
        refine ex_of (fun _ _ => ev_iload_n dX6_findWhere_82 rfl rfl) ?_
        refine ex_of (fun _ _ => ev_iload_n dX6_findWhere_83 rfl rfl) ?_
        refine ex_of (fun _ _ => ev_iconst (iI (1)) dX6_findWhere_84 rfl (by decide)) ?_
        refine ex_of (fun _ _ => ev_callV3 kX6_153 mX6_legOf dX6_findWhere_85 rfl rfl (Nat.le_of_ble_eq_true rfl) (Nat.le_of_ble_eq_true rfl) (by decide) rfl hw.o (e6_legOf hw (by omega))) ?_
        refine ex_of (fun _ _ => ev_iconst (iI (1)) dX6_findWhere_88 rfl (by decide)) ?_
        refine ex_icmpI_ne (tgt := 96) dX6_findWhere_89 (by decide) rfl (by omega) (by omega) (fun c89 => ?_) (fun c89 => ?_)
        · refine ex_of (fun _ _ => ev_iconst (iI (0)) dX6_findWhere_96 rfl (by decide)) ?_
          refine ex_of (fun _ _ => ev_istore_7 dX6_findWhere_97 rfl (by decide) rfl) ?_
          refine ex_of (fun _ _ => ev_iload dX6_findWhere_99 rfl rfl) ?_
          refine ex_ifI_eq (tgt := 109) dX6_findWhere_101 (by decide) rfl (by omega) (fun c101 => ?_) (fun c101 => ?_)
          · refine ex_of (fun _ _ => ev_iload dX6_findWhere_109 rfl rfl) ?_
            refine ex_of (fun _ _ => ev_inegI dX6_findWhere_111 rfl) ?_
            refine ex_of (fun _ _ => ev_istore_8 dX6_findWhere_112 rfl (by decide) rfl) ?_
            refine ex_of (fun _ _ => ev_iload dX6_findWhere_114 rfl rfl) ?_
            refine ex_ifI_ge (tgt := 128) dX6_findWhere_116 (by decide) rfl (by omega) (fun c116 => ?_) (fun c116 => ?_)
            · refine ex_of (fun _ _ => ev_iload dX6_findWhere_128 rfl rfl) ?_
              refine ex_of (fun _ _ => ev_istore_8 dX6_findWhere_130 rfl (by decide) rfl) ?_
              refine ex_of (fun _ _ => ev_iload dX6_findWhere_132 rfl rfl) ?_
              refine ex_ifI_eq (tgt := 142) dX6_findWhere_134 (by decide) rfl (by omega) (fun c134 => ?_) (fun c134 => ?_)
              · refine ex_of (fun _ _ => ev_iload dX6_findWhere_142 rfl rfl) ?_
                refine ex_of (fun _ _ => ev_inegI dX6_findWhere_144 rfl) ?_
                refine ex_of (fun _ _ => ev_istore_9 dX6_findWhere_145 rfl (by decide) rfl) ?_
                first | omega | exact B _ _ _ _ rfl (by unfold sgn mea; first | (rw [if_pos (by simpa using c89)]; omega) | (rw [if_neg (by simpa using c89)]; omega)) (by omega)
              · refine ex_of (fun _ _ => ev_iload dX6_findWhere_137 rfl rfl) ?_
                refine ex_of (fun _ _ => ev_goto (tgt := 145) dX6_findWhere_139 (by decide)) ?_
                refine ex_of (fun _ _ => ev_istore_9 dX6_findWhere_145 rfl (by decide) rfl) ?_
                first | omega | exact B _ _ _ _ rfl (by unfold sgn mea; first | (rw [if_pos (by simpa using c89)]; omega) | (rw [if_neg (by simpa using c89)]; omega)) (by omega)
            · refine ex_of (fun _ _ => ev_iload dX6_findWhere_119 rfl rfl) ?_
              refine ex_of (fun _ _ => ev_sipush (iI (360)) dX6_findWhere_121 rfl (by decide)) ?_
              refine ex_of (fun _ _ => ev_iaddI dX6_findWhere_124 rfl) ?_
              refine ex_of (fun _ _ => ev_goto (tgt := 130) dX6_findWhere_125 (by decide)) ?_
              refine ex_of (fun _ _ => ev_istore_8 dX6_findWhere_130 rfl (by decide) rfl) ?_
              refine ex_of (fun _ _ => ev_iload dX6_findWhere_132 rfl rfl) ?_
              refine ex_ifI_eq (tgt := 142) dX6_findWhere_134 (by decide) rfl (by omega) (fun c134 => ?_) (fun c134 => ?_)
              · refine ex_of (fun _ _ => ev_iload dX6_findWhere_142 rfl rfl) ?_
                refine ex_of (fun _ _ => ev_inegI dX6_findWhere_144 rfl) ?_
                refine ex_of (fun _ _ => ev_istore_9 dX6_findWhere_145 rfl (by decide) rfl) ?_
                first | omega | exact B _ _ _ _ rfl (by unfold sgn mea; first | (rw [if_pos (by simpa using c89)]; omega) | (rw [if_neg (by simpa using c89)]; omega)) (by omega)
              · refine ex_of (fun _ _ => ev_iload dX6_findWhere_137 rfl rfl) ?_
                refine ex_of (fun _ _ => ev_goto (tgt := 145) dX6_findWhere_139 (by decide)) ?_
                refine ex_of (fun _ _ => ev_istore_9 dX6_findWhere_145 rfl (by decide) rfl) ?_
                first | omega | exact B _ _ _ _ rfl (by unfold sgn mea; first | (rw [if_pos (by simpa using c89)]; omega) | (rw [if_neg (by simpa using c89)]; omega)) (by omega)
          · refine ex_of (fun _ _ => ev_iload dX6_findWhere_104 rfl rfl) ?_
            refine ex_of (fun _ _ => ev_goto (tgt := 112) dX6_findWhere_106 (by decide)) ?_
            refine ex_of (fun _ _ => ev_istore_8 dX6_findWhere_112 rfl (by decide) rfl) ?_
            refine ex_of (fun _ _ => ev_iload dX6_findWhere_114 rfl rfl) ?_
            refine ex_ifI_ge (tgt := 128) dX6_findWhere_116 (by decide) rfl (by omega) (fun c116 => ?_) (fun c116 => ?_)
            · refine ex_of (fun _ _ => ev_iload dX6_findWhere_128 rfl rfl) ?_
              refine ex_of (fun _ _ => ev_istore_8 dX6_findWhere_130 rfl (by decide) rfl) ?_
              refine ex_of (fun _ _ => ev_iload dX6_findWhere_132 rfl rfl) ?_
              refine ex_ifI_eq (tgt := 142) dX6_findWhere_134 (by decide) rfl (by omega) (fun c134 => ?_) (fun c134 => ?_)
              · refine ex_of (fun _ _ => ev_iload dX6_findWhere_142 rfl rfl) ?_
                refine ex_of (fun _ _ => ev_inegI dX6_findWhere_144 rfl) ?_
                refine ex_of (fun _ _ => ev_istore_9 dX6_findWhere_145 rfl (by decide) rfl) ?_
                first | omega | exact B _ _ _ _ rfl (by unfold sgn mea; first | (rw [if_pos (by simpa using c89)]; omega) | (rw [if_neg (by simpa using c89)]; omega)) (by omega)
              · refine ex_of (fun _ _ => ev_iload dX6_findWhere_137 rfl rfl) ?_
                refine ex_of (fun _ _ => ev_goto (tgt := 145) dX6_findWhere_139 (by decide)) ?_
                refine ex_of (fun _ _ => ev_istore_9 dX6_findWhere_145 rfl (by decide) rfl) ?_
                first | omega | exact B _ _ _ _ rfl (by unfold sgn mea; first | (rw [if_pos (by simpa using c89)]; omega) | (rw [if_neg (by simpa using c89)]; omega)) (by omega)
            · refine ex_of (fun _ _ => ev_iload dX6_findWhere_119 rfl rfl) ?_
              refine ex_of (fun _ _ => ev_sipush (iI (360)) dX6_findWhere_121 rfl (by decide)) ?_
              refine ex_of (fun _ _ => ev_iaddI dX6_findWhere_124 rfl) ?_
              refine ex_of (fun _ _ => ev_goto (tgt := 130) dX6_findWhere_125 (by decide)) ?_
              refine ex_of (fun _ _ => ev_istore_8 dX6_findWhere_130 rfl (by decide) rfl) ?_
              refine ex_of (fun _ _ => ev_iload dX6_findWhere_132 rfl rfl) ?_
              refine ex_ifI_eq (tgt := 142) dX6_findWhere_134 (by decide) rfl (by omega) (fun c134 => ?_) (fun c134 => ?_)
              · refine ex_of (fun _ _ => ev_iload dX6_findWhere_142 rfl rfl) ?_
                refine ex_of (fun _ _ => ev_inegI dX6_findWhere_144 rfl) ?_
                refine ex_of (fun _ _ => ev_istore_9 dX6_findWhere_145 rfl (by decide) rfl) ?_
                first | omega | exact B _ _ _ _ rfl (by unfold sgn mea; first | (rw [if_pos (by simpa using c89)]; omega) | (rw [if_neg (by simpa using c89)]; omega)) (by omega)
              · refine ex_of (fun _ _ => ev_iload dX6_findWhere_137 rfl rfl) ?_
                refine ex_of (fun _ _ => ev_goto (tgt := 145) dX6_findWhere_139 (by decide)) ?_
                refine ex_of (fun _ _ => ev_istore_9 dX6_findWhere_145 rfl (by decide) rfl) ?_
                first | omega | exact B _ _ _ _ rfl (by unfold sgn mea; first | (rw [if_pos (by simpa using c89)]; omega) | (rw [if_neg (by simpa using c89)]; omega)) (by omega)
        · refine ex_of (fun _ _ => ev_iconst (iI (1)) dX6_findWhere_92 rfl (by decide)) ?_
          refine ex_of (fun _ _ => ev_goto (tgt := 97) dX6_findWhere_93 (by decide)) ?_
          refine ex_of (fun _ _ => ev_istore_7 dX6_findWhere_97 rfl (by decide) rfl) ?_
          refine ex_of (fun _ _ => ev_iload dX6_findWhere_99 rfl rfl) ?_
          refine ex_ifI_eq (tgt := 109) dX6_findWhere_101 (by decide) rfl (by omega) (fun c101 => ?_) (fun c101 => ?_)
          · refine ex_of (fun _ _ => ev_iload dX6_findWhere_109 rfl rfl) ?_
            refine ex_of (fun _ _ => ev_inegI dX6_findWhere_111 rfl) ?_
            refine ex_of (fun _ _ => ev_istore_8 dX6_findWhere_112 rfl (by decide) rfl) ?_
            refine ex_of (fun _ _ => ev_iload dX6_findWhere_114 rfl rfl) ?_
            refine ex_ifI_ge (tgt := 128) dX6_findWhere_116 (by decide) rfl (by omega) (fun c116 => ?_) (fun c116 => ?_)
            · refine ex_of (fun _ _ => ev_iload dX6_findWhere_128 rfl rfl) ?_
              refine ex_of (fun _ _ => ev_istore_8 dX6_findWhere_130 rfl (by decide) rfl) ?_
              refine ex_of (fun _ _ => ev_iload dX6_findWhere_132 rfl rfl) ?_
              refine ex_ifI_eq (tgt := 142) dX6_findWhere_134 (by decide) rfl (by omega) (fun c134 => ?_) (fun c134 => ?_)
              · refine ex_of (fun _ _ => ev_iload dX6_findWhere_142 rfl rfl) ?_
                refine ex_of (fun _ _ => ev_inegI dX6_findWhere_144 rfl) ?_
                refine ex_of (fun _ _ => ev_istore_9 dX6_findWhere_145 rfl (by decide) rfl) ?_
                first | omega | exact B _ _ _ _ rfl (by unfold sgn mea; first | (rw [if_pos (by simpa using c89)]; omega) | (rw [if_neg (by simpa using c89)]; omega)) (by omega)
              · refine ex_of (fun _ _ => ev_iload dX6_findWhere_137 rfl rfl) ?_
                refine ex_of (fun _ _ => ev_goto (tgt := 145) dX6_findWhere_139 (by decide)) ?_
                refine ex_of (fun _ _ => ev_istore_9 dX6_findWhere_145 rfl (by decide) rfl) ?_
                first | omega | exact B _ _ _ _ rfl (by unfold sgn mea; first | (rw [if_pos (by simpa using c89)]; omega) | (rw [if_neg (by simpa using c89)]; omega)) (by omega)
            · refine ex_of (fun _ _ => ev_iload dX6_findWhere_119 rfl rfl) ?_
              refine ex_of (fun _ _ => ev_sipush (iI (360)) dX6_findWhere_121 rfl (by decide)) ?_
              refine ex_of (fun _ _ => ev_iaddI dX6_findWhere_124 rfl) ?_
              refine ex_of (fun _ _ => ev_goto (tgt := 130) dX6_findWhere_125 (by decide)) ?_
              refine ex_of (fun _ _ => ev_istore_8 dX6_findWhere_130 rfl (by decide) rfl) ?_
              refine ex_of (fun _ _ => ev_iload dX6_findWhere_132 rfl rfl) ?_
              refine ex_ifI_eq (tgt := 142) dX6_findWhere_134 (by decide) rfl (by omega) (fun c134 => ?_) (fun c134 => ?_)
              · refine ex_of (fun _ _ => ev_iload dX6_findWhere_142 rfl rfl) ?_
                refine ex_of (fun _ _ => ev_inegI dX6_findWhere_144 rfl) ?_
                refine ex_of (fun _ _ => ev_istore_9 dX6_findWhere_145 rfl (by decide) rfl) ?_
                first | omega | exact B _ _ _ _ rfl (by unfold sgn mea; first | (rw [if_pos (by simpa using c89)]; omega) | (rw [if_neg (by simpa using c89)]; omega)) (by omega)
              · refine ex_of (fun _ _ => ev_iload dX6_findWhere_137 rfl rfl) ?_
                refine ex_of (fun _ _ => ev_goto (tgt := 145) dX6_findWhere_139 (by decide)) ?_
                refine ex_of (fun _ _ => ev_istore_9 dX6_findWhere_145 rfl (by decide) rfl) ?_
                first | omega | exact B _ _ _ _ rfl (by unfold sgn mea; first | (rw [if_pos (by simpa using c89)]; omega) | (rw [if_neg (by simpa using c89)]; omega)) (by omega)
          · refine ex_of (fun _ _ => ev_iload dX6_findWhere_104 rfl rfl) ?_
            refine ex_of (fun _ _ => ev_goto (tgt := 112) dX6_findWhere_106 (by decide)) ?_
            refine ex_of (fun _ _ => ev_istore_8 dX6_findWhere_112 rfl (by decide) rfl) ?_
            refine ex_of (fun _ _ => ev_iload dX6_findWhere_114 rfl rfl) ?_
            refine ex_ifI_ge (tgt := 128) dX6_findWhere_116 (by decide) rfl (by omega) (fun c116 => ?_) (fun c116 => ?_)
            · refine ex_of (fun _ _ => ev_iload dX6_findWhere_128 rfl rfl) ?_
              refine ex_of (fun _ _ => ev_istore_8 dX6_findWhere_130 rfl (by decide) rfl) ?_
              refine ex_of (fun _ _ => ev_iload dX6_findWhere_132 rfl rfl) ?_
              refine ex_ifI_eq (tgt := 142) dX6_findWhere_134 (by decide) rfl (by omega) (fun c134 => ?_) (fun c134 => ?_)
              · refine ex_of (fun _ _ => ev_iload dX6_findWhere_142 rfl rfl) ?_
                refine ex_of (fun _ _ => ev_inegI dX6_findWhere_144 rfl) ?_
                refine ex_of (fun _ _ => ev_istore_9 dX6_findWhere_145 rfl (by decide) rfl) ?_
                first | omega | exact B _ _ _ _ rfl (by unfold sgn mea; first | (rw [if_pos (by simpa using c89)]; omega) | (rw [if_neg (by simpa using c89)]; omega)) (by omega)
              · refine ex_of (fun _ _ => ev_iload dX6_findWhere_137 rfl rfl) ?_
                refine ex_of (fun _ _ => ev_goto (tgt := 145) dX6_findWhere_139 (by decide)) ?_
                refine ex_of (fun _ _ => ev_istore_9 dX6_findWhere_145 rfl (by decide) rfl) ?_
                first | omega | exact B _ _ _ _ rfl (by unfold sgn mea; first | (rw [if_pos (by simpa using c89)]; omega) | (rw [if_neg (by simpa using c89)]; omega)) (by omega)
            · refine ex_of (fun _ _ => ev_iload dX6_findWhere_119 rfl rfl) ?_
              refine ex_of (fun _ _ => ev_sipush (iI (360)) dX6_findWhere_121 rfl (by decide)) ?_
              refine ex_of (fun _ _ => ev_iaddI dX6_findWhere_124 rfl) ?_
              refine ex_of (fun _ _ => ev_goto (tgt := 130) dX6_findWhere_125 (by decide)) ?_
              refine ex_of (fun _ _ => ev_istore_8 dX6_findWhere_130 rfl (by decide) rfl) ?_
              refine ex_of (fun _ _ => ev_iload dX6_findWhere_132 rfl rfl) ?_
              refine ex_ifI_eq (tgt := 142) dX6_findWhere_134 (by decide) rfl (by omega) (fun c134 => ?_) (fun c134 => ?_)
              · refine ex_of (fun _ _ => ev_iload dX6_findWhere_142 rfl rfl) ?_
                refine ex_of (fun _ _ => ev_inegI dX6_findWhere_144 rfl) ?_
                refine ex_of (fun _ _ => ev_istore_9 dX6_findWhere_145 rfl (by decide) rfl) ?_
                first | omega | exact B _ _ _ _ rfl (by unfold sgn mea; first | (rw [if_pos (by simpa using c89)]; omega) | (rw [if_neg (by simpa using c89)]; omega)) (by omega)
              · refine ex_of (fun _ _ => ev_iload dX6_findWhere_137 rfl rfl) ?_
                refine ex_of (fun _ _ => ev_goto (tgt := 145) dX6_findWhere_139 (by decide)) ?_
                refine ex_of (fun _ _ => ev_istore_9 dX6_findWhere_145 rfl (by decide) rfl) ?_
                first | omega | exact B _ _ _ _ rfl (by unfold sgn mea; first | (rw [if_pos (by simpa using c89)]; omega) | (rw [if_neg (by simpa using c89)]; omega)) (by omega)
      · exact ex_end (ev_vret dX6_findWhere_52) (⟨rfl, o, hw, fr, hs, by unfold fwL; rw [if_pos (by omega), h20]⟩)
end MD
