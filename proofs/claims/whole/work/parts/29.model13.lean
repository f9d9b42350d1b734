section MN
variable {l : Launch} {A : Nat → Int → Int} {h : ev_H} {o : Nat → Int}
/-! the reference's image, counts -/
def cpI (S T : Int → Int) (n : Int) : Int → Int := fun x => if 0 ≤ x ∧ x < n then S x else T x
theorem cpI_0 (S T : Int → Int) : cpI S T 0 = T := by funext x; unfold cpI; rw [if_neg (by omega)]
theorem cpI_s (S T : Int → Int) (n : Int) (hn : 0 ≤ n) : upI (cpI S T n) n (S n) = cpI S T (n + 1) := by
  funext x
  unfold upI cpI
  split
  · rename_i q; rw [if_pos (by omega), q]
  · split
    · rw [if_pos (by omega)]
    · rw [if_neg (by omega)]
theorem e6_thrown (hw : MW h o A) : Ev l 0 yX6_thrown.cls yX6_thrown.name cX6_thrown 1 (some .int) 0 [some (.ref 34)] [] h (some (.int (iI (o 10)))) h := by
  refine ev_aload_n (pc' := 1) dX6_thrown_0 rfl rfl ?_
  refine ev_getfield (pc' := 4) fX6_44 dX6_thrown_1 rfl hw.o rfl ?_
  exact ev_ireI dX6_thrown_4 (rfl)
theorem e6_imgL {h0 : ev_H} : ∀ (k i : Nat) (h : ev_H), i + k = 503 → MW h o (upA A 1 (cpI (A 0) (A 1) i)) → FrM h0 h → Ex l 0 yX6_image.cls yX6_image.name cX6_image 2 (some .int) 2 [some (.ref 34), some (.int (iI (i : Int)))] [] h (fun v h2 => v = some (.int (iI (A 0 1))) ∧ MW h2 (upN o 9 1) (upA A 1 (cpI (A 0) (A 1) 503)) ∧ FrM h0 h2) := by
  intro k
  induction k with
  | zero =>
    intro i h hn hw fr
    have ei : i = 503 := by omega
    subst ei
    refine ex_of (fun _ _ => ev_iload_n (pc' := 3) dX6_image_2 rfl rfl) ?_
    refine ex_of (fun _ _ => ev_sipush (pc' := 6) (iI (503)) dX6_image_3 rfl (by decide)) ?_
    refine ex_icmpI_ge (pc' := 9) (tgt := 27) dX6_image_6 (by decide) rfl (by omega) (by omega) (fun c6 => ?_) (fun c6 => ?_)
    · refine ex_of (fun _ _ => ev_aload_n (pc' := 28) dX6_image_27 rfl rfl) ?_
      refine ex_of (fun _ _ => ev_iconst (pc' := 29) (iI (1)) dX6_image_28 rfl (by decide)) ?_
      refine xput_9 (pc' := 32) dX6_image_29 rfl hw fr (by omega) (fun h hw fr => ?_)
      refine ex_of (fun _ _ => ev_aload_n (pc' := 33) dX6_image_32 rfl rfl) ?_
      refine ex_of (fun _ _ => ev_getfield (pc' := 36) fX6_9 dX6_image_33 rfl hw.o rfl) ?_
      refine ex_of (fun _ _ => ev_iconst (pc' := 37) (iI (1)) dX6_image_36 rfl (by decide)) ?_
      refine ex_of (fun _ _ => ev_ialoadI (pc' := 38) dX6_image_37 rfl hw.a0 (by decide) (by omega)) ?_
      exact ex_end (ev_iret dX6_image_38 rfl) (⟨rfl, hw, fr⟩)
    · omega
  | succ k ih =>
    intro i h hn hw fr
    refine ex_of (fun _ _ => ev_iload_n (pc' := 3) dX6_image_2 rfl rfl) ?_
    refine ex_of (fun _ _ => ev_sipush (pc' := 6) (iI (503)) dX6_image_3 rfl (by decide)) ?_
    refine ex_icmpI_ge (pc' := 9) (tgt := 27) dX6_image_6 (by decide) rfl (by omega) (by omega) (fun c6 => ?_) (fun c6 => ?_)
    · omega
    · refine ex_of (fun _ _ => ev_aload_n (pc' := 10) dX6_image_9 rfl rfl) ?_
      refine ex_of (fun _ _ => ev_getfield (pc' := 13) fX6_13 dX6_image_10 rfl hw.o rfl) ?_
      refine ex_of (fun _ _ => ev_iload_n (pc' := 14) dX6_image_13 rfl rfl) ?_
      refine ex_of (fun _ _ => ev_aload_n (pc' := 15) dX6_image_14 rfl rfl) ?_
      refine ex_of (fun _ _ => ev_getfield (pc' := 18) fX6_9 dX6_image_15 rfl hw.o rfl) ?_
      refine ex_of (fun _ _ => ev_iload_n (pc' := 19) dX6_image_18 rfl rfl) ?_
      refine ex_of (fun _ _ => ev_ialoadI (pc' := 20) dX6_image_19 rfl hw.a0 (by decide) (by omega)) ?_
      refine xst_1 (pc' := 21) dX6_image_20 rfl hw fr (by omega) (fun h hw fr => ?_)
      refine ex_of (fun _ _ => ev_iincI_1 (pc' := 24) dX6_image_21 rfl (by decide) rfl) ?_
      refine ex_of (fun _ _ => ev_goto (tgt := 2) dX6_image_24 (by decide)) ?_
      rw [upA_s, upA_2, show upA A 1 (cpI (A 0) (A 1) i) 0 = A 0 from rfl, cpI_s _ _ _ (by omega)] at hw
      exact ih (i + 1) _ (by omega) hw fr
theorem e6_image (hw : MW h o A) : Ex l 0 yX6_image.cls yX6_image.name cX6_image 2 (some .int) 0 [some (.ref 34), none] [] h (fun v h2 => v = some (.int (iI (A 0 1))) ∧ MW h2 (upN o 9 1) (upA A 1 (cpI (A 0) (A 1) 503)) ∧ FrM h h2) := by
  have fr := FrM.rf h
  refine ex_of (fun _ _ => ev_iconst (pc' := 1) (iI (0)) dX6_image_0 rfl (by decide)) ?_
  refine ex_of (fun _ _ => ev_istore_1 (pc' := 2) dX6_image_1 rfl (by decide) rfl) ?_
  have hw5 := hw
  rw [show A = upA A 1 (cpI (A 0) (A 1) (0 : Nat)) by rw [show (((0 : Nat) : Int)) = 0 from rfl, cpI_0, upA_id]] at hw5
  exact e6_imgL (l := l) 503 0 _ (by omega) hw5 fr
/-- the shelves' own travellers behind n shelves of a restoring -/
def ownI (A : Nat → Int → Int) (d n : Int) (T : Int → Int) : Int → Int := fun x => if 45 * d ≤ x ∧ x < 45 * d + n then A 0 (143 + 45 * A 6 d + (x - 45 * d)) else T x
theorem ownI_0 (A : Nat → Int → Int) (d : Int) (T : Int → Int) : ownI A d 0 T = T := by funext x; unfold ownI; rw [if_neg (by omega)]
theorem ownI_s (A : Nat → Int → Int) (d n : Int) (T : Int → Int) (hn : 0 ≤ n) : upI (ownI A d n T) (45 * d + n) (A 0 (143 + 45 * A 6 d + n)) = ownI A d (n + 1) T := by
  funext x
  unfold upI ownI
  split
  · rename_i q; rw [if_pos (by omega), q]; congr 1; omega
  · split
    · rw [if_pos (by omega)]
    · rw [if_neg (by omega)]
def rsN (A : Nat → Int → Int) : Nat → (Int → Int) × (Int → Int)
  | 0 => (A 7, A 8)
  | n + 1 => if A 2 (n : Int) = 1 ∧ A 8 (n : Int) = 0 then (ownI A (n : Int) 45 (rsN A n).1, upI (rsN A n).2 (n : Int) 1) else rsN A n
theorem rsN_8 (A : Nat → Int → Int) : ∀ (n : Nat) (x : Int), (n : Int) ≤ x → (rsN A n).2 x = A 8 x
  | 0, _, _ => rfl
  | n + 1, x, hx => by
    have ih := rsN_8 A n x (by omega)
    unfold rsN
    split
    · show upI (rsN A n).2 (n : Int) 1 x = _
      rw [upI_n (by omega), ih]
    · exact ih
def rsA (A : Nat → Int → Int) (n : Nat) : Nat → Int → Int := upA (upA A 7 (rsN A n).1) 8 (rsN A n).2
theorem rsA_0 (A : Nat → Int → Int) : rsA A 0 = A := by unfold rsA; funext j; unfold upA rsN; split; rename_i q; rw [q]; split; rename_i q; rw [q]; rfl
theorem e6_resI {h0 : ev_H} {d : Int} {B : Nat → Int → Int} {Post : Option Value → ev_H → Prop} (hd : 0 ≤ d ∧ d < 8) (hk : 0 ≤ B 6 d ∧ B 6 d < 8) (fin : ∀ h2 a2, MW h2 o (upA B 7 (ownI B d 45 (B 7))) → FrM h0 h2 → Ex l 1 yX6_restore.cls yX6_restore.name cX6_restore 3 (some .int) 76 [some (.ref 34), some (.int (iI d)), a2] [] h2 Post) : ∀ (k i : Nat) (h : ev_H), i + k = 45 → MW h o (upA B 7 (ownI B d i (B 7))) → FrM h0 h → Ex l 1 yX6_restore.cls yX6_restore.name cX6_restore 3 (some .int) 42 [some (.ref 34), some (.int (iI d)), some (.int (iI (i : Int)))] [] h Post := by
  intro k
  induction k with
  | zero =>
    intro i h hn hw fr
    have ei : i = 45 := by omega
    subst ei
    refine ex_of (fun _ _ => ev_iload_n (pc' := 43) dX6_restore_42 rfl rfl) ?_
    refine ex_of (fun _ _ => ev_bipush (pc' := 45) (iI (45)) dX6_restore_43 rfl (by decide)) ?_
    refine ex_icmpI_ge (pc' := 48) (tgt := 76) dX6_restore_45 (by decide) rfl (by omega) (by omega) (fun c45 => ?_) (fun c45 => ?_)
    · exact fin _ _ hw fr
    · omega
  | succ k ih =>
    intro i h hn hw fr
    have e6 : upA B 7 (ownI B d i (B 7)) 6 = B 6 := rfl
    have e0 : upA B 7 (ownI B d i (B 7)) 0 = B 0 := rfl
    refine ex_of (fun _ _ => ev_iload_n (pc' := 43) dX6_restore_42 rfl rfl) ?_
    refine ex_of (fun _ _ => ev_bipush (pc' := 45) (iI (45)) dX6_restore_43 rfl (by decide)) ?_
    refine ex_icmpI_ge (pc' := 48) (tgt := 76) dX6_restore_45 (by decide) rfl (by omega) (by omega) (fun c45 => ?_) (fun c45 => ?_)
    · omega
    · refine ex_of (fun _ _ => ev_aload_n (pc' := 49) dX6_restore_48 rfl rfl) ?_
      refine ex_of (fun _ _ => ev_getfield (pc' := 52) fX6_31 dX6_restore_49 rfl hw.o rfl) ?_
      refine ex_of (fun _ _ => ev_bipush (pc' := 54) (iI (45)) dX6_restore_52 rfl (by decide)) ?_
      refine ex_of (fun _ _ => ev_iload_n (pc' := 55) dX6_restore_54 rfl rfl) ?_
      refine ex_of (fun _ _ => ev_imulI (pc' := 56) dX6_restore_55 rfl) ?_
      refine ex_of (fun _ _ => ev_iload_n (pc' := 57) dX6_restore_56 rfl rfl) ?_
      refine ex_of (fun _ _ => ev_iaddI (pc' := 58) dX6_restore_57 rfl) ?_
      refine ex_of (fun _ _ => ev_aload_n (pc' := 59) dX6_restore_58 rfl rfl) ?_
      refine ex_of (fun _ _ => ev_aload_n (pc' := 60) dX6_restore_59 rfl rfl) ?_
      refine ex_of (fun _ _ => ev_getfield (pc' := 63) fX6_28 dX6_restore_60 rfl hw.o rfl) ?_
      refine ex_of (fun _ _ => ev_iload_n (pc' := 64) dX6_restore_63 rfl rfl) ?_
      refine ex_of (fun _ _ => ev_ialoadI (pc' := 65) dX6_restore_64 rfl hw.a6 (by decide) (by omega)) ?_
      refine ex_of (fun _ _ => ev_iload_n (pc' := 66) dX6_restore_65 rfl rfl) ?_
      refine ex_of (fun _ _ => ev_callV2 (pc' := 69) kX6_150 mX6_tell dX6_restore_66 rfl rfl (Nat.le_of_ble_eq_true rfl) (Nat.le_of_ble_eq_true rfl) (by decide) rfl hw.o (e6_tell hw (by rw [e6]; omega))) ?_
      rw [e6, e0]
      refine xst_7 (pc' := 70) dX6_restore_69 rfl hw fr (by omega) (fun h hw fr => ?_)
      refine ex_of (fun _ _ => ev_iincI_2 (pc' := 73) dX6_restore_70 rfl (by decide) rfl) ?_
      refine ex_of (fun _ _ => ev_goto (tgt := 42) dX6_restore_73 (by decide)) ?_
      rw [upA_s, upA_2, ownI_s _ _ _ _ (by omega)] at hw
      exact ih (i + 1) _ (by omega) hw fr
theorem e6_resD {h0 : ev_H} {Post : Option Value → ev_H → Prop} (hI : mI0 (A 0)) (hS : mSh A) (fin : ∀ h2 a2, MW h2 o (rsA A 8) → FrM h0 h2 → Ex l 1 yX6_restore.cls yX6_restore.name cX6_restore 3 (some .int) 89 [some (.ref 34), some (.int (iI 8)), a2] [] h2 Post) : ∀ (k d : Nat) (a2 : Option Value) (h : ev_H), d + k = 8 → MW h o (rsA A d) → FrM h0 h → Ex l 1 yX6_restore.cls yX6_restore.name cX6_restore 3 (some .int) 12 [some (.ref 34), some (.int (iI (d : Int))), a2] [] h Post := by
  intro k
  obtain ⟨⟨i1, i2⟩, ⟨i3, i4⟩, i5, i6⟩ := id hI
  induction k with
  | zero =>
    intro d a2 h hn hw fr
    have ei : d = 8 := by omega
    subst ei
    refine ex_of (fun _ _ => ev_iload_n (pc' := 13) dX6_restore_12 rfl rfl) ?_
    refine ex_of (fun _ _ => ev_bipush (pc' := 15) (iI (8)) dX6_restore_13 rfl (by decide)) ?_
    refine ex_icmpI_ge (pc' := 18) (tgt := 89) dX6_restore_15 (by decide) rfl (by omega) (by omega) (fun c15 => ?_) (fun c15 => ?_)
    · exact fin _ _ hw fr
    · omega
  | succ k ih =>
    intro d a2 h hn hw fr
    obtain ⟨s1, s2, s3, s4, s5⟩ := hS.1 (d : Int) (by omega) (by omega)
    have e2 : rsA A d 2 = A 2 := rfl
    have e8 : rsA A d 8 (d : Int) = A 8 (d : Int) := rsN_8 A d _ (by omega)
    refine ex_of (fun _ _ => ev_iload_n (pc' := 13) dX6_restore_12 rfl rfl) ?_
    refine ex_of (fun _ _ => ev_bipush (pc' := 15) (iI (8)) dX6_restore_13 rfl (by decide)) ?_
    refine ex_icmpI_ge (pc' := 18) (tgt := 89) dX6_restore_15 (by decide) rfl (by omega) (by omega) (fun c15 => ?_) (fun c15 => ?_)
    · omega
    · refine ex_of (fun _ _ => ev_aload_n (pc' := 19) dX6_restore_18 rfl rfl) ?_
      refine ex_of (fun _ _ => ev_getfield (pc' := 22) fX6_16 dX6_restore_19 rfl hw.o rfl) ?_
      refine ex_of (fun _ _ => ev_iload_n (pc' := 23) dX6_restore_22 rfl rfl) ?_
      refine ex_of (fun _ _ => ev_ialoadI (pc' := 24) dX6_restore_23 rfl hw.a2 (by decide) (by omega)) ?_
      rw [e2]
      refine ex_of (fun _ _ => ev_iconst (pc' := 25) (iI (1)) dX6_restore_24 rfl (by decide)) ?_
      refine ex_icmpI_ne (pc' := 28) (tgt := 83) dX6_restore_25 (by decide) rfl (by omega) (by omega) (fun c25 => ?_) (fun c25 => ?_)
      · refine ex_of (fun _ _ => ev_iincI_1 (pc' := 86) dX6_restore_83 rfl (by decide) rfl) ?_
        refine ex_of (fun _ _ => ev_goto (tgt := 12) dX6_restore_86 (by decide)) ?_
        have e7 : rsN A (d + 1) = rsN A d := by
          conv => lhs; unfold rsN
          rw [if_neg (by omega)]
        have e9 : rsA A (d + 1) = rsA A d := by unfold rsA; rw [e7]
        exact ih (d + 1) _ _ (by omega) (by rw [e9]; exact hw) fr
      · refine ex_of (fun _ _ => ev_aload_n (pc' := 29) dX6_restore_28 rfl rfl) ?_
        refine ex_of (fun _ _ => ev_getfield (pc' := 32) fX6_34 dX6_restore_29 rfl hw.o rfl) ?_
        refine ex_of (fun _ _ => ev_iload_n (pc' := 33) dX6_restore_32 rfl rfl) ?_
        refine ex_of (fun _ _ => ev_baloadI (pc' := 34) dX6_restore_33 rfl hw.a8 (by decide) (by omega)) ?_
        rw [e8]
        refine ex_ifI_eq (pc' := 37) (tgt := 40) dX6_restore_34 (by decide) rfl (by omega) (fun c34 => ?_) (fun c34 => ?_)
        · refine ex_of (fun _ _ => ev_iconst (pc' := 41) (iI (0)) dX6_restore_40 rfl (by decide)) ?_
          refine ex_of (fun _ _ => ev_istore_2 (pc' := 42) dX6_restore_41 rfl (by decide) rfl) ?_
          have hw5 := hw
          rw [show rsA A d = upA (rsA A d) 7 (ownI (rsA A d) (d : Int) (0 : Nat) (rsA A d 7)) by rw [show (((0 : Nat) : Int)) = 0 from rfl, ownI_0, upA_id]] at hw5
          refine e6_resI (l := l) (o := o) (d := (d : Int)) (B := rsA A d) (by omega) (show 0 ≤ A 6 (d : Int) ∧ A 6 (d : Int) < 8 by have := s5 (by omega) (by omega); omega) (fun h2 a2 hw fr => ?_) 45 0 _ (by omega) hw5 fr
          refine ex_of (fun _ _ => ev_aload_n (pc' := 77) dX6_restore_76 rfl rfl) ?_
          refine ex_of (fun _ _ => ev_getfield (pc' := 80) fX6_34 dX6_restore_77 rfl hw.o rfl) ?_
          refine ex_of (fun _ _ => ev_iload_n (pc' := 81) dX6_restore_80 rfl rfl) ?_
          refine ex_of (fun _ _ => ev_iconst (pc' := 82) (iI (1)) dX6_restore_81 rfl (by decide)) ?_
          refine xst_8 (pc' := 83) dX6_restore_82 rfl hw fr (by omega) (by omega) (fun h hw fr => ?_)
          refine ex_of (fun _ _ => ev_iincI_1 (pc' := 86) dX6_restore_83 rfl (by decide) rfl) ?_
          refine ex_of (fun _ _ => ev_goto (tgt := 12) dX6_restore_86 (by decide)) ?_
          have e9 : upA (upA (rsA A d) 7 (ownI (rsA A d) (d : Int) 45 (rsA A d 7))) 8 (upI (upA (rsA A d) 7 (ownI (rsA A d) (d : Int) 45 (rsA A d 7)) 8) (d : Int) 1) = rsA A (d + 1) := by
            conv => rhs; unfold rsA rsN
            rw [if_pos (by omega)]
            funext j
            unfold rsA upA
            split
            · rfl
            · split
              · rfl
              · rfl
          rw [e9] at hw
          exact ih (d + 1) _ _ (by omega) hw fr
        · refine ex_of (fun _ _ => ev_goto (tgt := 83) dX6_restore_37 (by decide)) ?_
          refine ex_of (fun _ _ => ev_iincI_1 (pc' := 86) dX6_restore_83 rfl (by decide) rfl) ?_
          refine ex_of (fun _ _ => ev_goto (tgt := 12) dX6_restore_86 (by decide)) ?_
          have e7 : rsN A (d + 1) = rsN A d := by
            conv => lhs; unfold rsN
            rw [if_neg (by omega)]
          have e9 : rsA A (d + 1) = rsA A d := by unfold rsA; rw [e7]
          exact ih (d + 1) _ _ (by omega) (by rw [e9]; exact hw) fr
theorem cpI_r (S T : Int → Int) (n : Int) : ∀ x, 0 ≤ x → x < n → cpI S T n x = S x := fun x h1 h2 => by unfold cpI; rw [if_pos ⟨h1, h2⟩]
theorem e6_resF {h0 : ev_H} {B : Nat → Int → Int} : ∀ (k i : Nat) (a2 : Option Value) (h : ev_H), i + k = 503 → MW h o (upA B 0 (cpI (B 1) (B 0) i)) → FrM h0 h → Ex l 1 yX6_restore.cls yX6_restore.name cX6_restore 3 (some .int) 91 [some (.ref 34), some (.int (iI (i : Int))), a2] [] h (fun v h2 => v = some (.int (iI (B 1 1))) ∧ MW h2 o (upA B 0 (cpI (B 1) (B 0) 503)) ∧ FrM h0 h2) := by
  intro k
  induction k with
  | zero =>
    intro i a2 h hn hw fr
    have ei : i = 503 := by omega
    subst ei
    refine ex_of (fun _ _ => ev_iload_n (pc' := 92) dX6_restore_91 rfl rfl) ?_
    refine ex_of (fun _ _ => ev_sipush (pc' := 95) (iI (503)) dX6_restore_92 rfl (by decide)) ?_
    refine ex_icmpI_ge (pc' := 98) (tgt := 116) dX6_restore_95 (by decide) rfl (by omega) (by omega) (fun c95 => ?_) (fun c95 => ?_)
    · refine ex_of (fun _ _ => ev_aload_n (pc' := 117) dX6_restore_116 rfl rfl) ?_
      refine ex_of (fun _ _ => ev_getfield (pc' := 120) fX6_9 dX6_restore_117 rfl hw.o rfl) ?_
      refine ex_of (fun _ _ => ev_iconst (pc' := 121) (iI (1)) dX6_restore_120 rfl (by decide)) ?_
      refine ex_of (fun _ _ => ev_ialoadI (pc' := 122) dX6_restore_121 rfl hw.a0 (by decide) (by omega)) ?_
      exact ex_end (ev_iret dX6_restore_122 rfl) (⟨rfl, hw, fr⟩)
    · omega
  | succ k ih =>
    intro i a2 h hn hw fr
    refine ex_of (fun _ _ => ev_iload_n (pc' := 92) dX6_restore_91 rfl rfl) ?_
    refine ex_of (fun _ _ => ev_sipush (pc' := 95) (iI (503)) dX6_restore_92 rfl (by decide)) ?_
    refine ex_icmpI_ge (pc' := 98) (tgt := 116) dX6_restore_95 (by decide) rfl (by omega) (by omega) (fun c95 => ?_) (fun c95 => ?_)
    · omega
    · refine ex_of (fun _ _ => ev_aload_n (pc' := 99) dX6_restore_98 rfl rfl) ?_
      refine ex_of (fun _ _ => ev_getfield (pc' := 102) fX6_9 dX6_restore_99 rfl hw.o rfl) ?_
      refine ex_of (fun _ _ => ev_iload_n (pc' := 103) dX6_restore_102 rfl rfl) ?_
      refine ex_of (fun _ _ => ev_aload_n (pc' := 104) dX6_restore_103 rfl rfl) ?_
      refine ex_of (fun _ _ => ev_getfield (pc' := 107) fX6_13 dX6_restore_104 rfl hw.o rfl) ?_
      refine ex_of (fun _ _ => ev_iload_n (pc' := 108) dX6_restore_107 rfl rfl) ?_
      refine ex_of (fun _ _ => ev_ialoadI (pc' := 109) dX6_restore_108 rfl hw.a1 (by decide) (by omega)) ?_
      refine xst_0 (pc' := 110) dX6_restore_109 rfl hw fr (by omega) (fun h hw fr => ?_)
      refine ex_of (fun _ _ => ev_iincI_1 (pc' := 113) dX6_restore_110 rfl (by decide) rfl) ?_
      refine ex_of (fun _ _ => ev_goto (tgt := 91) dX6_restore_113 (by decide)) ?_
      rw [upA_s, upA_2, show upA B 0 (cpI (B 1) (B 0) i) 1 = B 1 from rfl, cpI_s _ _ _ (by omega)] at hw
      exact ih (i + 1) _ _ (by omega) hw fr
def rsX (A : Nat → Int → Int) : Nat → Int → Int := upA (rsA A 8) 0 (cpI (A 1) (A 0) 503)
theorem e6_restore (hw : MW h o A) (hI : mI0 (A 0)) (hS : mSh A) (h9 : o 9 = 0 ∨ o 9 = 1) : Ex l 1 yX6_restore.cls yX6_restore.name cX6_restore 3 (some .int) 0 [some (.ref 34), none, none] [] h (uP h o A (rsX A) (decide (o 9 = 1)) (some (.int (iI (A 1 1)))) (some (.int (iI (-3))))) := by
  have fr := FrM.rf h
  refine ex_of (fun _ _ => ev_aload_n (pc' := 1) dX6_restore_0 rfl rfl) ?_
  refine ex_of (fun _ _ => ev_getfield (pc' := 4) fX6_238 dX6_restore_1 rfl hw.o rfl) ?_
  refine ex_ifI_ne (pc' := 7) (tgt := 10) dX6_restore_4 (by decide) rfl (by omega) (fun c4 => ?_) (fun c4 => ?_)
  · refine ex_of (fun _ _ => ev_iconst (pc' := 11) (iI (0)) dX6_restore_10 rfl (by decide)) ?_
    refine ex_of (fun _ _ => ev_istore_1 (pc' := 12) dX6_restore_11 rfl (by decide) rfl) ?_
    refine e6_resD (l := l) (o := o) hI hS (fun h2 a2 hw fr => ?_) 8 0 _ _ (by omega) (by rw [rsA_0]; exact hw) fr
    refine ex_of (fun _ _ => ev_iconst (pc' := 90) (iI (0)) dX6_restore_89 rfl (by decide)) ?_
    refine ex_of (fun _ _ => ev_istore_1 (pc' := 91) dX6_restore_90 rfl (by decide) rfl) ?_
    have hw5 := hw
    rw [show rsA A 8 = upA (rsA A 8) 0 (cpI (rsA A 8 1) (rsA A 8 0) (0 : Nat)) by rw [show (((0 : Nat) : Int)) = 0 from rfl, cpI_0, upA_id]] at hw5
    refine Ex.mono (e6_resF (l := l) 503 0 _ _ (by omega) hw5 fr) (fun v h2 q => ?_)
    obtain ⟨q1, q2, q3⟩ := q
    subst q1
    exact uP_t (decide_eq_true (by omega)) q2 q3
  · refine ex_of (fun _ _ => ev_bipush (pc' := 9) (iI (-3)) dX6_restore_7 rfl (by decide)) ?_
    exact ex_end (ev_iret dX6_restore_9 rfl) (uP_f (decide_eq_false (by omega)) hw fr)
end MN
