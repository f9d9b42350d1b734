/-! the reference's plain methods -/
def mI0 (S : Int → Int) : Prop := (0 ≤ S 0 ∧ S 0 ≤ 10) ∧ (0 ≤ S 1 ∧ S 1 ≤ 8) ∧ (0 ≤ S 2 ∧ S 2 < 360)
def mIP (S : Int → Int) : Prop := ∀ p, 0 ≤ p → p < S 0 → (0 ≤ S (3 + 4 * p + 0) ∧ S (3 + 4 * p + 0) < 360) ∧ (0 ≤ S (3 + 4 * p + 1) ∧ S (3 + 4 * p + 1) ≤ 2) ∧ (-1 ≤ S (3 + 4 * p + 2) ∧ S (3 + 4 * p + 2) ≤ 1) ∧ (0 ≤ S (3 + 4 * p + 3) ∧ S (3 + 4 * p + 3) ≤ 999)
def mIT (S : Int → Int) : Prop := ∀ a b, 0 ≤ a → a < 10 → 0 ≤ b → b < 10 → (0 ≤ S (43 + 10 * a + b) ∧ S (43 + 10 * a + b) ≤ 99) ∧ S (43 + 10 * a + b) = S (43 + 10 * b + a)
def rr (r : Int) : Int := if r = 1 then 360 else if r = 2 then -360 else 0
theorem rr_b (r : Int) : -360 ≤ rr r ∧ rr r ≤ 360 := by unfold rr; split; omega; split <;> omega
def eS (S : Int → Int) (g : Int) : Int := (g - S 2) % 360
theorem eS_b (S : Int → Int) (g : Int) : 0 ≤ eS S g ∧ eS S g < 360 := ⟨Int.emod_nonneg _ (by decide), Int.emod_lt_of_pos _ (by decide)⟩
theorem eS_eq {S : Int → Int} {g : Int} (h2 : 0 ≤ S 2 ∧ S 2 < 360) (hg : 0 ≤ g ∧ g < 360) : eS S g = if g - S 2 < 0 then g - S 2 + 360 else g - S 2 := by unfold eS; split <;> omega
/-- the day at a fraction of degrees east of the line -/
def dAt (ab be r t : Int) : Int := ((t - 720 + rr r) * be + 4 * ab) / (1440 * be)
def dP (S : Int → Int) (p t : Int) : Int := dAt (eS S (S (3 + 4 * p + 0))) 1 (S (3 + 4 * p + 1)) t + S (3 + 4 * p + 2)
theorem mul_bd {x y X Y : Int} (hx : -X ≤ x ∧ x ≤ X) (hy : 0 ≤ y ∧ y ≤ Y) : -(X * Y) ≤ x * y ∧ x * y ≤ X * Y := by
  have h0 : 0 ≤ X := by omega
  have a1 : x * y ≤ X * y := Int.mul_le_mul_of_nonneg_right hx.2 hy.1
  have a2 : X * y ≤ X * Y := Int.mul_le_mul_of_nonneg_left hy.2 h0
  have a3 : (-X) * y ≤ x * y := Int.mul_le_mul_of_nonneg_right hx.1 hy.1
  rw [Int.neg_mul] at a3
  omega
theorem fl_neg {a b : Int} (hb : 0 < b) : -((b - 1 - a) / b) = a / b := by
  have h1 := Int.mul_ediv_add_emod a b
  have h2 := Int.emod_nonneg a (Int.ne_of_gt hb)
  have h3 := Int.emod_lt_of_pos a hb
  have h4 : (b - 1 - a) / b = -(a / b) := by
    have : b - 1 - a = (b - 1 - a % b) + b * (-(a / b)) := by rw [Int.mul_neg]; omega
    rw [this, Int.add_mul_ediv_left _ _ (Int.ne_of_gt hb), Int.ediv_eq_zero_of_lt (by omega) (by omega)]
    omega
  rw [h4]
  omega
theorem dv_b {a b : Int} (hb : 0 < b) {M : Int} (ha : -M ≤ a ∧ a ≤ M) : -M - 1 ≤ a / b ∧ a / b ≤ M := by
  have h1 := Int.mul_ediv_add_emod a b
  have h2 := Int.emod_nonneg a (Int.ne_of_gt hb)
  have h3 := Int.emod_lt_of_pos a hb
  rcases Int.le_total 0 (a / b) with q | q
  · have : a / b ≤ b * (a / b) := by
      have := Int.mul_le_mul_of_nonneg_right (show 1 ≤ b by omega) q
      omega
    omega
  · have : b * (a / b) ≤ a / b := by
      have h5 := Int.mul_le_mul_of_nonneg_right (show 1 ≤ b by omega) (show 0 ≤ -(a / b) by omega)
      simp only [Int.mul_neg, Int.one_mul] at h5
      omega
    rcases Int.lt_or_le (a / b) (-M - 1) with g | g
    · exfalso
      have : b * (a / b) ≤ b * (-M - 2) := Int.mul_le_mul_of_nonneg_left (by omega) (by omega)
      have h7 : b * (-M - 2) = - (b * (M + 1)) - b := by rw [show -M - 2 = -(M + 1) - 1 by omega, Int.mul_sub, Int.mul_neg, Int.mul_one]
      have h8 : 1 * (M + 1) ≤ b * (M + 1) := Int.mul_le_mul_of_nonneg_right (by omega) (by omega)
      omega
    · omega
section MB
variable {l : Launch} {h : ev_H} {o : Nat → Int} {A : Nat → Int → Int}
theorem e6_isIn {a b c : Int} (ra : -9223372036854775808 ≤ a ∧ a < 9223372036854775808) (rb : -9223372036854775808 ≤ b ∧ b < 9223372036854775808) (rc : -9223372036854775808 ≤ c ∧ c < 9223372036854775808) : Ev l 0 yX6_isIn.cls yX6_isIn.name cX6_isIn 6 (some .boolean) 0 [some (.long (jJ a)), none, some (.long (jJ b)), none, some (.long (jJ c)), none] [] h (some (.int (b2i (decide (b ≤ a ∧ a ≤ c))))) h := by
  refine ev_lload_n dX6_isIn_0 rfl rfl ?_
  refine ev_lload_n dX6_isIn_1 rfl rfl ?_
  refine ev_lcmpI_lt (tgt := 17) dX6_isIn_2 dX6_isIn_3 (by decide) rfl (by omega) (by omega) (fun c2 => ?_) (fun c2 => ?_)
  · refine ev_iconst (iI (0)) dX6_isIn_17 rfl (by decide) ?_
    exact ev_zreI dX6_isIn_18 (by first | exact b2i_1 (by omega) | exact b2i_n (by omega))
  · refine ev_lload_n dX6_isIn_6 rfl rfl ?_
    refine ev_lload dX6_isIn_7 rfl rfl ?_
    refine ev_lcmpI_gt (tgt := 17) dX6_isIn_9 dX6_isIn_10 (by decide) rfl (by omega) (by omega) (fun c9 => ?_) (fun c9 => ?_)
    · refine ev_iconst (iI (0)) dX6_isIn_17 rfl (by decide) ?_
      exact ev_zreI dX6_isIn_18 (by first | exact b2i_1 (by omega) | exact b2i_n (by omega))
    · refine ev_iconst (iI (1)) dX6_isIn_13 rfl (by decide) ?_
      refine ev_goto (tgt := 18) dX6_isIn_14 (by decide) ?_
      exact ev_zreI dX6_isIn_18 (by first | exact b2i_1 (by omega) | exact b2i_n (by omega))
theorem e6_isPlace {p : Int} (hw : MW h o A) (hI : mI0 (A 0)) (rp : -2147483648 ≤ p ∧ p < 2147483648) : Ev l 1 yX6_isPlace.cls yX6_isPlace.name cX6_isPlace 2 (some .boolean) 0 [some (.ref 34), some (.int (iI p))] [] h (some (.int (b2i (decide (0 ≤ p ∧ p < A 0 0))))) h := by
  obtain ⟨⟨i1, i2⟩, ⟨i3, i4⟩, i5, i6⟩ := hI
  refine ev_iload_n dX6_isPlace_0 rfl rfl ?_
  refine ev_i2lI dX6_isPlace_1 rfl (by omega) ?_
  refine ev_lconst (jJ (0)) dX6_isPlace_2 rfl (by decide) ?_
  refine ev_aload_n dX6_isPlace_3 rfl rfl ?_
  refine ev_getfield fX6_9 dX6_isPlace_4 rfl hw.o rfl ?_
  refine ev_iconst (iI (0)) dX6_isPlace_7 rfl (by decide) ?_
  refine ev_ialoadI dX6_isPlace_8 rfl hw.a0 (by decide) (by omega) ?_
  refine ev_iconst (iI (1)) dX6_isPlace_9 rfl (by decide) ?_
  refine ev_isubI dX6_isPlace_10 rfl ?_
  refine ev_i2lI dX6_isPlace_11 rfl (by omega) ?_
  refine ev_callS3 kX6_48 mX6_isIn dX6_isPlace_12 rfl rfl (Nat.le_of_ble_eq_true rfl) (Nat.le_of_ble_eq_true rfl) (by decide) (e6_isIn (by omega) (by omega) (by omega)) ?_
  exact ev_zreE dX6_isPlace_15 (b2i_cg (by omega))
theorem e6_isOne {p : Int} (hw : MW h o A) (hI : mI0 (A 0)) (rp : -2147483648 ≤ p ∧ p < 2147483648) : Ev l 1 yX6_isOne.cls yX6_isOne.name cX6_isOne 2 (some .boolean) 0 [some (.ref 34), some (.int (iI p))] [] h (some (.int (b2i (decide (0 ≤ p ∧ p < A 0 1))))) h := by
  obtain ⟨⟨i1, i2⟩, ⟨i3, i4⟩, i5, i6⟩ := hI
  refine ev_iload_n dX6_isOne_0 rfl rfl ?_
  refine ev_i2lI dX6_isOne_1 rfl (by omega) ?_
  refine ev_lconst (jJ (0)) dX6_isOne_2 rfl (by decide) ?_
  refine ev_aload_n dX6_isOne_3 rfl rfl ?_
  refine ev_getfield fX6_9 dX6_isOne_4 rfl hw.o rfl ?_
  refine ev_iconst (iI (1)) dX6_isOne_7 rfl (by decide) ?_
  refine ev_ialoadI dX6_isOne_8 rfl hw.a0 (by decide) (by omega) ?_
  refine ev_iconst (iI (1)) dX6_isOne_9 rfl (by decide) ?_
  refine ev_isubI dX6_isOne_10 rfl ?_
  refine ev_i2lI dX6_isOne_11 rfl (by omega) ?_
  refine ev_callS3 kX6_48 mX6_isIn dX6_isOne_12 rfl rfl (Nat.le_of_ble_eq_true rfl) (Nat.le_of_ble_eq_true rfl) (by decide) (e6_isIn (by omega) (by omega) (by omega)) ?_
  exact ev_zreE dX6_isOne_15 (b2i_cg (by omega))
theorem e6_isMinute {t : Int} (rt : -9223372036854775808 ≤ t ∧ t < 9223372036854775808) : Ev l 1 yX6_isMinute.cls yX6_isMinute.name cX6_isMinute 2 (some .boolean) 0 [some (.long (jJ t)), none] [] h (some (.int (b2i (decide (0 ≤ t ∧ t ≤ 19999))))) h := by
  refine ev_lload_n dX6_isMinute_0 rfl rfl ?_
  refine ev_lconst (jJ (0)) dX6_isMinute_1 rfl (by decide) ?_
  refine ev_ldc2I (19999) nX6_52 dX6_isMinute_2 rfl (by decide) ?_
  refine ev_callS3 kX6_48 mX6_isIn dX6_isMinute_5 rfl rfl (Nat.le_of_ble_eq_true rfl) (Nat.le_of_ble_eq_true rfl) (by decide) (e6_isIn (by omega) (by omega) (by omega)) ?_
  exact ev_zreE dX6_isMinute_8 (b2i_cg (by omega))
theorem e6_isShelf {t : Int} (rt : -2147483648 ≤ t ∧ t < 2147483648) : Ev l 1 yX6_isShelf.cls yX6_isShelf.name cX6_isShelf 1 (some .boolean) 0 [some (.int (iI t))] [] h (some (.int (b2i (decide (0 ≤ t ∧ t < 8))))) h := by
  refine ev_iload_n dX6_isShelf_0 rfl rfl ?_
  refine ev_i2lI dX6_isShelf_1 rfl (by omega) ?_
  refine ev_lconst (jJ (0)) dX6_isShelf_2 rfl (by decide) ?_
  refine ev_ldc2I (7) nX6_54 dX6_isShelf_3 rfl (by decide) ?_
  refine ev_callS3 kX6_48 mX6_isIn dX6_isShelf_6 rfl rfl (Nat.le_of_ble_eq_true rfl) (Nat.le_of_ble_eq_true rfl) (by decide) (e6_isIn (by omega) (by omega) (by omega)) ?_
  exact ev_zreE dX6_isShelf_9 (b2i_cg (by omega))
theorem e6_get {p k : Int} (hw : MW h o A) (hp : 0 ≤ 3 + 4 * p + k ∧ 3 + 4 * p + k < 503) : Ev l 0 yX6_get.cls yX6_get.name cX6_get 3 (some .int) 0 [some (.ref 34), some (.int (iI p)), some (.int (iI k))] [] h (some (.int (iI (A 0 (3 + 4 * p + k))))) h := by
  refine ev_aload_n dX6_get_0 rfl rfl ?_
  refine ev_getfield fX6_9 dX6_get_1 rfl hw.o rfl ?_
  refine ev_iconst (iI (3)) dX6_get_4 rfl (by decide) ?_
  refine ev_iconst (iI (4)) dX6_get_5 rfl (by decide) ?_
  refine ev_iload_n dX6_get_6 rfl rfl ?_
  refine ev_imulI dX6_get_7 rfl ?_
  refine ev_iaddI dX6_get_8 rfl ?_
  refine ev_iload_n dX6_get_9 rfl rfl ?_
  refine ev_iaddI dX6_get_10 rfl ?_
  refine ev_ialoadI dX6_get_11 rfl hw.a0 (by decide) (by omega) ?_
  exact ev_ireI dX6_get_12 (rfl)
theorem e6_tell {k i : Int} (hw : MW h o A) (hp : 0 ≤ 143 + 45 * k + i ∧ 143 + 45 * k + i < 503) : Ev l 0 yX6_tell.cls yX6_tell.name cX6_tell 3 (some .int) 0 [some (.ref 34), some (.int (iI k)), some (.int (iI i))] [] h (some (.int (iI (A 0 (143 + 45 * k + i))))) h := by
  refine ev_aload_n dX6_tell_0 rfl rfl ?_
  refine ev_getfield fX6_9 dX6_tell_1 rfl hw.o rfl ?_
  refine ev_sipush (iI (143)) dX6_tell_4 rfl (by decide) ?_
  refine ev_bipush (iI (45)) dX6_tell_7 rfl (by decide) ?_
  refine ev_iload_n dX6_tell_9 rfl rfl ?_
  refine ev_imulI dX6_tell_10 rfl ?_
  refine ev_iaddI dX6_tell_11 rfl ?_
  refine ev_iload_n dX6_tell_12 rfl rfl ?_
  refine ev_iaddI dX6_tell_13 rfl ?_
  refine ev_ialoadI dX6_tell_14 rfl hw.a0 (by decide) (by omega) ?_
  exact ev_ireI dX6_tell_15 (rfl)
theorem e6_legOf {k i w : Int} (hw : MW h o A) (hp : 0 ≤ 143 + 45 * k + (4 + 4 * i + w) ∧ 143 + 45 * k + (4 + 4 * i + w) < 503) : Ev l 1 yX6_legOf.cls yX6_legOf.name cX6_legOf 4 (some .int) 0 [some (.ref 34), some (.int (iI k)), some (.int (iI i)), some (.int (iI w))] [] h (some (.int (iI (A 0 (143 + 45 * k + (4 + 4 * i + w)))))) h := by
  refine ev_aload_n dX6_legOf_0 rfl rfl ?_
  refine ev_iload_n dX6_legOf_1 rfl rfl ?_
  refine ev_iconst (iI (4)) dX6_legOf_2 rfl (by decide) ?_
  refine ev_iconst (iI (4)) dX6_legOf_3 rfl (by decide) ?_
  refine ev_iload_n dX6_legOf_4 rfl rfl ?_
  refine ev_imulI dX6_legOf_5 rfl ?_
  refine ev_iaddI dX6_legOf_6 rfl ?_
  refine ev_iload_n dX6_legOf_7 rfl rfl ?_
  refine ev_iaddI dX6_legOf_8 rfl ?_
  refine ev_callV2 kX6_150 mX6_tell dX6_legOf_9 rfl rfl (Nat.le_of_ble_eq_true rfl) (Nat.le_of_ble_eq_true rfl) (by decide) rfl hw.o (e6_tell hw hp) ?_
  exact ev_ireI dX6_legOf_12 (rfl)
theorem e6_endOf {k i : Int} (hw : MW h o A) (hp : 0 ≤ 45 * k + 4 * i ∧ 143 + 45 * k + 4 * i < 480) : Ev l 2 yX6_endOf.cls yX6_endOf.name cX6_endOf 3 (some .int) 0 [some (.ref 34), some (.int (iI k)), some (.int (iI i))] [] h (some (.int (iI (A 0 (143 + 45 * k + (4 + 4 * i + 2)) + 60 * A 0 (143 + 45 * k + (4 + 4 * i + 3)))))) h := by
  refine ev_aload_n dX6_endOf_0 rfl rfl ?_
  refine ev_iload_n dX6_endOf_1 rfl rfl ?_
  refine ev_iload_n dX6_endOf_2 rfl rfl ?_
  refine ev_iconst (iI (2)) dX6_endOf_3 rfl (by decide) ?_
  refine ev_callV3 kX6_153 mX6_legOf dX6_endOf_4 rfl rfl (Nat.le_of_ble_eq_true rfl) (Nat.le_of_ble_eq_true rfl) (by decide) rfl hw.o (e6_legOf hw (by omega)) ?_
  refine ev_bipush (iI (60)) dX6_endOf_7 rfl (by decide) ?_
  refine ev_aload_n dX6_endOf_9 rfl rfl ?_
  refine ev_iload_n dX6_endOf_10 rfl rfl ?_
  refine ev_iload_n dX6_endOf_11 rfl rfl ?_
  refine ev_iconst (iI (3)) dX6_endOf_12 rfl (by decide) ?_
  refine ev_callV3 kX6_153 mX6_legOf dX6_endOf_13 rfl rfl (Nat.le_of_ble_eq_true rfl) (Nat.le_of_ble_eq_true rfl) (by decide) rfl hw.o (e6_legOf hw (by omega)) ?_
  refine ev_imulI dX6_endOf_16 rfl ?_
  refine ev_iaddI dX6_endOf_17 rfl ?_
  exact ev_ireI dX6_endOf_18 (rfl)
theorem e6_floor {a b : Int} (ra : -4611686018427387904 ≤ a ∧ a ≤ 4611686018427387904) (rb : 0 < b ∧ b ≤ 4611686018427387904) : Ev l 0 yX6_floor.cls yX6_floor.name cX6_floor 4 (some .long) 0 [some (.long (jJ a)), none, some (.long (jJ b)), none] [] h (some (.long (jJ (a / b)))) h := by
  refine ev_lload_n dX6_floor_0 rfl rfl ?_
  refine ev_lconst (jJ (0)) dX6_floor_1 rfl (by decide) ?_
  refine ev_lcmpI_lt (tgt := 12) dX6_floor_2 dX6_floor_3 (by decide) rfl (by omega) (by omega) (fun c2 => ?_) (fun c2 => ?_)
  · refine ev_lload_n dX6_floor_12 rfl rfl ?_
    refine ev_lconst (jJ (1)) dX6_floor_13 rfl (by decide) ?_
    refine ev_lsubI dX6_floor_14 rfl ?_
    refine ev_lload_n dX6_floor_15 rfl rfl ?_
    refine ev_lsubI dX6_floor_16 rfl ?_
    refine ev_lload_n dX6_floor_17 rfl rfl ?_
    refine ev_ldivI dX6_floor_18 rfl (by omega) (by omega) (by omega) ?_
    refine ev_lnegI dX6_floor_19 rfl ?_
    exact ev_lreI dX6_floor_20 (by first | exact fd_pos (by omega) | (rw [fd_pos (by omega)]; exact fl_neg rb.1))
  · refine ev_lload_n dX6_floor_6 rfl rfl ?_
    refine ev_lload_n dX6_floor_7 rfl rfl ?_
    refine ev_ldivI dX6_floor_8 rfl (by omega) (by omega) (by omega) ?_
    refine ev_goto (tgt := 20) dX6_floor_9 (by decide) ?_
    exact ev_lreI dX6_floor_20 (by first | exact fd_pos (by omega) | (rw [fd_pos (by omega)]; exact fl_neg rb.1))
theorem e6_eastOf {g : Int} (hw : MW h o A) (hI : mI0 (A 0)) (hg : 0 ≤ g ∧ g < 360) : Ev l 0 yX6_eastOf.cls yX6_eastOf.name cX6_eastOf 3 (some .int) 0 [some (.ref 34), some (.int (iI g)), none] [] h (some (.int (iI (eS (A 0) g)))) h := by
  obtain ⟨⟨i1, i2⟩, ⟨i3, i4⟩, i5, i6⟩ := hI
  have e1 := eS_eq (S := A 0) ⟨i5, i6⟩ hg
  refine ev_iload_n dX6_eastOf_0 rfl rfl ?_
  refine ev_aload_n dX6_eastOf_1 rfl rfl ?_
  refine ev_getfield fX6_9 dX6_eastOf_2 rfl hw.o rfl ?_
  refine ev_iconst (iI (2)) dX6_eastOf_5 rfl (by decide) ?_
  refine ev_ialoadI dX6_eastOf_6 rfl hw.a0 (by decide) (by omega) ?_
  refine ev_isubI dX6_eastOf_7 rfl ?_
  refine ev_istore_2 dX6_eastOf_8 rfl (by decide) rfl ?_
  refine ev_iload_n dX6_eastOf_9 rfl rfl ?_
  refine ev_ifI_ge (tgt := 21) dX6_eastOf_10 (by decide) rfl (by omega) (fun c10 => ?_) (fun c10 => ?_)
  · refine ev_iload_n dX6_eastOf_21 rfl rfl ?_
    exact ev_ireI dX6_eastOf_22 (by rw [e1]; split <;> omega)
  · refine ev_iload_n dX6_eastOf_13 rfl rfl ?_
    refine ev_sipush (iI (360)) dX6_eastOf_14 rfl (by decide) ?_
    refine ev_iaddI dX6_eastOf_17 rfl ?_
    refine ev_goto (tgt := 22) dX6_eastOf_18 (by decide) ?_
    exact ev_ireI dX6_eastOf_22 (by rw [e1]; split <;> omega)
theorem e6_dayAt {ab be r t : Int} (h1 : -1000000000 ≤ ab ∧ ab ≤ 1000000000) (h2 : 0 < be ∧ be ≤ 12000) (h3 : 0 ≤ r ∧ r ≤ 2) (h4 : -100000 ≤ t ∧ t ≤ 100000) : Ev l 1 yX6_dayAt.cls yX6_dayAt.name cX6_dayAt 8 (some .int) 0 [some (.long (jJ ab)), none, some (.long (jJ be)), none, some (.int (iI r)), some (.int (iI t)), none, none] [] h (some (.int (iI (dAt ab be r t)))) h := by
  have b1 := mul_bd (x := t - 720 + rr r) (y := be) (X := 200000) (Y := 12000) (by have := rr_b r; omega) (by omega)
  have b2 := rr_b r
  refine ev_iload dX6_dayAt_0 rfl rfl ?_
  refine ev_i2lI dX6_dayAt_2 rfl (by omega) ?_
  refine ev_ldc2I (720) nX6_119 dX6_dayAt_3 rfl (by decide) ?_
  refine ev_lsubI dX6_dayAt_6 rfl ?_
  refine ev_iload dX6_dayAt_7 rfl rfl ?_
  refine ev_iconst (iI (1)) dX6_dayAt_9 rfl (by decide) ?_
  refine ev_icmpI_ne (tgt := 19) dX6_dayAt_10 (by decide) rfl (by omega) (by omega) (fun c10 => ?_) (fun c10 => ?_)
  · refine ev_iload dX6_dayAt_19 rfl rfl ?_
    refine ev_iconst (iI (2)) dX6_dayAt_21 rfl (by decide) ?_
    refine ev_icmpI_ne (tgt := 31) dX6_dayAt_22 (by decide) rfl (by omega) (by omega) (fun c22 => ?_) (fun c22 => ?_)
    · refine ev_lconst (jJ (rr r)) dX6_dayAt_31 rfl (by rw [show rr r = 0 by unfold rr; rw [if_neg (by omega), if_neg (by omega)]]; decide) ?_
      refine ev_laddI dX6_dayAt_32 rfl ?_
      refine ev_lload_n dX6_dayAt_33 rfl rfl ?_
      refine ev_lmulI dX6_dayAt_34 rfl ?_
      refine ev_ldc2I (4) nX6_125 dX6_dayAt_35 rfl (by decide) ?_
      refine ev_lload_n dX6_dayAt_38 rfl rfl ?_
      refine ev_lmulI dX6_dayAt_39 rfl ?_
      refine ev_laddI dX6_dayAt_40 rfl ?_
      refine ev_lstore_6 dX6_dayAt_41 rfl (by decide) rfl ?_
      refine ev_lload dX6_dayAt_43 rfl rfl ?_
      refine ev_ldc2I (1440) nX6_127 dX6_dayAt_45 rfl (by decide) ?_
      refine ev_lload_n dX6_dayAt_48 rfl rfl ?_
      refine ev_lmulI dX6_dayAt_49 rfl ?_
      refine ev_callS2 kX6_129 mX6_floor dX6_dayAt_50 rfl rfl (Nat.le_of_ble_eq_true rfl) (Nat.le_of_ble_eq_true rfl) (by decide) (e6_floor (by omega) (by omega)) ?_
      refine ev_l2iI dX6_dayAt_53 rfl ?_
      exact ev_ireI dX6_dayAt_54 (rfl)
    · refine ev_ldc2I (rr r) nX6_123 dX6_dayAt_25 rfl (by rw [show rr r = -360 by unfold rr; rw [if_neg (by omega), if_pos (by omega)]]; decide) ?_
      refine ev_goto (tgt := 32) dX6_dayAt_28 (by decide) ?_
      refine ev_laddI dX6_dayAt_32 rfl ?_
      refine ev_lload_n dX6_dayAt_33 rfl rfl ?_
      refine ev_lmulI dX6_dayAt_34 rfl ?_
      refine ev_ldc2I (4) nX6_125 dX6_dayAt_35 rfl (by decide) ?_
      refine ev_lload_n dX6_dayAt_38 rfl rfl ?_
      refine ev_lmulI dX6_dayAt_39 rfl ?_
      refine ev_laddI dX6_dayAt_40 rfl ?_
      refine ev_lstore_6 dX6_dayAt_41 rfl (by decide) rfl ?_
      refine ev_lload dX6_dayAt_43 rfl rfl ?_
      refine ev_ldc2I (1440) nX6_127 dX6_dayAt_45 rfl (by decide) ?_
      refine ev_lload_n dX6_dayAt_48 rfl rfl ?_
      refine ev_lmulI dX6_dayAt_49 rfl ?_
      refine ev_callS2 kX6_129 mX6_floor dX6_dayAt_50 rfl rfl (Nat.le_of_ble_eq_true rfl) (Nat.le_of_ble_eq_true rfl) (by decide) (e6_floor (by omega) (by omega)) ?_
      refine ev_l2iI dX6_dayAt_53 rfl ?_
      exact ev_ireI dX6_dayAt_54 (rfl)
  · refine ev_ldc2I (rr r) nX6_121 dX6_dayAt_13 rfl (by rw [show rr r = 360 by unfold rr; rw [if_pos (by omega)]]; decide) ?_
    refine ev_goto (tgt := 32) dX6_dayAt_16 (by decide) ?_
    refine ev_laddI dX6_dayAt_32 rfl ?_
    refine ev_lload_n dX6_dayAt_33 rfl rfl ?_
    refine ev_lmulI dX6_dayAt_34 rfl ?_
    refine ev_ldc2I (4) nX6_125 dX6_dayAt_35 rfl (by decide) ?_
    refine ev_lload_n dX6_dayAt_38 rfl rfl ?_
    refine ev_lmulI dX6_dayAt_39 rfl ?_
    refine ev_laddI dX6_dayAt_40 rfl ?_
    refine ev_lstore_6 dX6_dayAt_41 rfl (by decide) rfl ?_
    refine ev_lload dX6_dayAt_43 rfl rfl ?_
    refine ev_ldc2I (1440) nX6_127 dX6_dayAt_45 rfl (by decide) ?_
    refine ev_lload_n dX6_dayAt_48 rfl rfl ?_
    refine ev_lmulI dX6_dayAt_49 rfl ?_
    refine ev_callS2 kX6_129 mX6_floor dX6_dayAt_50 rfl rfl (Nat.le_of_ble_eq_true rfl) (Nat.le_of_ble_eq_true rfl) (by decide) (e6_floor (by omega) (by omega)) ?_
    refine ev_l2iI dX6_dayAt_53 rfl ?_
    exact ev_ireI dX6_dayAt_54 (rfl)
theorem e6_dayIn {p t : Int} (hw : MW h o A) (hI : mI0 (A 0)) (hJ : mIP (A 0)) (hp : 0 ≤ p ∧ p < A 0 0) (ht : -100000 ≤ t ∧ t ≤ 100000) : Ev l 2 yX6_dayIn.cls yX6_dayIn.name cX6_dayIn 3 (some .int) 0 [some (.ref 34), some (.int (iI p)), some (.int (iI t))] [] h (some (.int (iI (dP (A 0) p t)))) h := by
  have i := hI
  obtain ⟨⟨i1, i2⟩, ⟨i3, i4⟩, i5, i6⟩ := i
  obtain ⟨j1, j2, j3, j4⟩ := hJ p hp.1 hp.2
  have b1 := eS_b (A 0) (A 0 (3 + 4 * p + 0))
  refine ev_aload_n dX6_dayIn_0 rfl rfl ?_
  refine ev_aload_n dX6_dayIn_1 rfl rfl ?_
  refine ev_iload_n dX6_dayIn_2 rfl rfl ?_
  refine ev_iconst (iI (0)) dX6_dayIn_3 rfl (by decide) ?_
  refine ev_callV2 kX6_108 mX6_get dX6_dayIn_4 rfl rfl (Nat.le_of_ble_eq_true rfl) (Nat.le_of_ble_eq_true rfl) (by decide) rfl hw.o (e6_get hw (by omega)) ?_
  refine ev_callV1 kX6_133 mX6_eastOf dX6_dayIn_7 rfl rfl (Nat.le_of_ble_eq_true rfl) (Nat.le_of_ble_eq_true rfl) (by decide) rfl hw.o (e6_eastOf hw hI j1) ?_
  refine ev_i2lI dX6_dayIn_10 rfl (by omega) ?_
  refine ev_lconst (jJ (1)) dX6_dayIn_11 rfl (by decide) ?_
  refine ev_aload_n dX6_dayIn_12 rfl rfl ?_
  refine ev_iload_n dX6_dayIn_13 rfl rfl ?_
  refine ev_iconst (iI (1)) dX6_dayIn_14 rfl (by decide) ?_
  refine ev_callV2 kX6_108 mX6_get dX6_dayIn_15 rfl rfl (Nat.le_of_ble_eq_true rfl) (Nat.le_of_ble_eq_true rfl) (by decide) rfl hw.o (e6_get hw (by omega)) ?_
  refine ev_iload_n dX6_dayIn_18 rfl rfl ?_
  refine ev_callS4 kX6_137 mX6_dayAt dX6_dayIn_19 rfl rfl (Nat.le_of_ble_eq_true rfl) (Nat.le_of_ble_eq_true rfl) (by decide) (e6_dayAt (by omega) (by omega) j2 ht) ?_
  refine ev_aload_n dX6_dayIn_22 rfl rfl ?_
  refine ev_iload_n dX6_dayIn_23 rfl rfl ?_
  refine ev_iconst (iI (2)) dX6_dayIn_24 rfl (by decide) ?_
  refine ev_callV2 kX6_108 mX6_get dX6_dayIn_25 rfl rfl (Nat.le_of_ble_eq_true rfl) (Nat.le_of_ble_eq_true rfl) (by decide) rfl hw.o (e6_get hw (by omega)) ?_
  refine ev_iaddI dX6_dayIn_28 rfl ?_
  exact ev_ireI dX6_dayIn_29 (rfl)
end MB
