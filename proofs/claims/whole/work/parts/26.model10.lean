section MK
variable {l : Launch} {A : Nat → Int → Int} {h : ev_H} {o : Nat → Int}
/-- a call's answer and what it makes of the rows, if ok; else an answer alone -/
def uP (h0 : ev_H) (o0 : Nat → Int) (A A' : Nat → Int → Int) (ok : Bool) (r r' : Option Value) : Option Value → ev_H → Prop := fun v h2 => v = (if ok then r else r') ∧ MW h2 o0 (if ok then A' else A) ∧ FrM h0 h2
theorem uP_t {h0 h2 : ev_H} {o0 : Nat → Int} {A A' : Nat → Int → Int} {ok : Bool} {r r' : Option Value} (hk : ok = true) (hw : MW h2 o0 A') (fr : FrM h0 h2) : uP h0 o0 A A' ok r r' r h2 := by subst hk; exact ⟨rfl, hw, fr⟩
theorem uP_f {h0 h2 : ev_H} {o0 : Nat → Int} {A A' : Nat → Int → Int} {ok : Bool} {r r' : Option Value} (hk : ok = false) (hw : MW h2 o0 A) (fr : FrM h0 h2) : uP h0 o0 A A' ok r r' r' h2 := by subst hk; exact ⟨rfl, hw, fr⟩
def kpA (A : Nat → Int → Int) (d w k : Int) : Nat → Int → Int := upA (upA (upA A 2 (upI (A 2) d w)) 6 (upI (A 6) d k)) 8 (upI (A 8) d 0)
def kpB (A : Nat → Int → Int) (d w k : Int) : Bool := decide ((0 ≤ d ∧ d < 8) ∧ (0 ≤ w ∧ w ≤ 1) ∧ (w = 1 → 0 ≤ k ∧ k < A 0 1))
theorem e6_keep {d w k : Int} (hw : MW h o A) (hI : mI0 (A 0)) (rd : -2147483648 ≤ d ∧ d < 2147483648) (rw : -2147483648 ≤ w ∧ w < 2147483648) (rk : -2147483648 ≤ k ∧ k < 2147483648) : Ex l 2 yX6_keep.cls yX6_keep.name cX6_keep 4 (some .int) 0 [some (.ref 34), some (.int (iI d)), some (.int (iI w)), some (.int (iI k))] [] h (uP h o A (kpA A d w k) (kpB A d w k) (some (.int (iI 0))) (some (.int (iI (-1))))) := by
  obtain ⟨⟨i1, i2⟩, ⟨i3, i4⟩, i5, i6⟩ := id hI
  have fr := FrM.rf h
  refine ex_of (fun _ _ => ev_iload_n (pc' := 1) dX6_keep_0 rfl rfl) ?_
  refine ex_of (fun _ _ => ev_callS1 (pc' := 4) kX6_90 mX6_isShelf dX6_keep_1 rfl rfl (Nat.le_of_ble_eq_true rfl) (Nat.le_of_ble_eq_true rfl) (by decide) (e6_isShelf (by omega))) ?_
  refine ex_ifd_eq (pc' := 7) (tgt := 30) dX6_keep_4 (by decide) rfl (fun c4 => ?_) (fun c4 => ?_)
  · refine ex_of (fun _ _ => ev_iconst (pc' := 31) (iI (-1)) dX6_keep_30 rfl (by decide)) ?_
    exact ex_end (ev_iret dX6_keep_31 rfl) (by first | exact uP_f (by unfold kpB; apply decide_eq_false; omega) hw fr | exact uP_t (by unfold kpB; apply decide_eq_true; omega) hw fr)
  · refine ex_of (fun _ _ => ev_iload_n (pc' := 8) dX6_keep_7 rfl rfl) ?_
    refine ex_of (fun _ _ => ev_i2lI (pc' := 9) dX6_keep_8 rfl (by omega)) ?_
    refine ex_of (fun _ _ => ev_lconst (pc' := 10) (jJ (0)) dX6_keep_9 rfl (by decide)) ?_
    refine ex_of (fun _ _ => ev_lconst (pc' := 11) (jJ (1)) dX6_keep_10 rfl (by decide)) ?_
    refine ex_of (fun _ _ => ev_callS3 (pc' := 14) kX6_48 mX6_isIn dX6_keep_11 rfl rfl (Nat.le_of_ble_eq_true rfl) (Nat.le_of_ble_eq_true rfl) (by decide) (e6_isIn (by omega) (by omega) (by omega))) ?_
    refine ex_ifd_eq (pc' := 17) (tgt := 30) dX6_keep_14 (by decide) rfl (fun c14 => ?_) (fun c14 => ?_)
    · refine ex_of (fun _ _ => ev_iconst (pc' := 31) (iI (-1)) dX6_keep_30 rfl (by decide)) ?_
      exact ex_end (ev_iret dX6_keep_31 rfl) (by first | exact uP_f (by unfold kpB; apply decide_eq_false; omega) hw fr | exact uP_t (by unfold kpB; apply decide_eq_true; omega) hw fr)
    · refine ex_of (fun _ _ => ev_iload_n (pc' := 18) dX6_keep_17 rfl rfl) ?_
      refine ex_of (fun _ _ => ev_iconst (pc' := 19) (iI (1)) dX6_keep_18 rfl (by decide)) ?_
      refine ex_icmpI_ne (pc' := 22) (tgt := 32) dX6_keep_19 (by decide) rfl (by omega) (by omega) (fun c19 => ?_) (fun c19 => ?_)
      · refine ex_of (fun _ _ => ev_aload_n (pc' := 33) dX6_keep_32 rfl rfl) ?_
        refine ex_of (fun _ _ => ev_getfield (pc' := 36) fX6_16 dX6_keep_33 rfl hw.o rfl) ?_
        refine ex_of (fun _ _ => ev_iload_n (pc' := 37) dX6_keep_36 rfl rfl) ?_
        refine ex_of (fun _ _ => ev_iload_n (pc' := 38) dX6_keep_37 rfl rfl) ?_
        refine xst_2 (pc' := 39) dX6_keep_38 rfl hw fr (by omega) (fun h hw fr => ?_)
        refine ex_of (fun _ _ => ev_aload_n (pc' := 40) dX6_keep_39 rfl rfl) ?_
        refine ex_of (fun _ _ => ev_getfield (pc' := 43) fX6_28 dX6_keep_40 rfl hw.o rfl) ?_
        refine ex_of (fun _ _ => ev_iload_n (pc' := 44) dX6_keep_43 rfl rfl) ?_
        refine ex_of (fun _ _ => ev_iload_n (pc' := 45) dX6_keep_44 rfl rfl) ?_
        refine xst_6 (pc' := 46) dX6_keep_45 rfl hw fr (by omega) (fun h hw fr => ?_)
        refine ex_of (fun _ _ => ev_aload_n (pc' := 47) dX6_keep_46 rfl rfl) ?_
        refine ex_of (fun _ _ => ev_getfield (pc' := 50) fX6_34 dX6_keep_47 rfl hw.o rfl) ?_
        refine ex_of (fun _ _ => ev_iload_n (pc' := 51) dX6_keep_50 rfl rfl) ?_
        refine ex_of (fun _ _ => ev_iconst (pc' := 52) (iI (0)) dX6_keep_51 rfl (by decide)) ?_
        refine xst_8 (pc' := 53) dX6_keep_52 rfl hw fr (by omega) (by omega) (fun h hw fr => ?_)
        refine ex_of (fun _ _ => ev_iconst (pc' := 54) (iI (0)) dX6_keep_53 rfl (by decide)) ?_
        exact ex_end (ev_iret dX6_keep_54 rfl) (by first | exact uP_f (by unfold kpB; apply decide_eq_false; omega) hw fr | exact uP_t (by unfold kpB; apply decide_eq_true; omega) hw fr)
      · refine ex_of (fun _ _ => ev_aload_n (pc' := 23) dX6_keep_22 rfl rfl) ?_
        refine ex_of (fun _ _ => ev_iload_n (pc' := 24) dX6_keep_23 rfl rfl) ?_
        refine ex_of (fun _ _ => ev_callV1 (pc' := 27) kX6_157 mX6_isOne dX6_keep_24 rfl rfl (Nat.le_of_ble_eq_true rfl) (Nat.le_of_ble_eq_true rfl) (by decide) rfl hw.o (e6_isOne hw hI (by omega))) ?_
        refine ex_ifd_ne (pc' := 30) (tgt := 32) dX6_keep_27 (by decide) rfl (fun c27 => ?_) (fun c27 => ?_)
        · refine ex_of (fun _ _ => ev_aload_n (pc' := 33) dX6_keep_32 rfl rfl) ?_
          refine ex_of (fun _ _ => ev_getfield (pc' := 36) fX6_16 dX6_keep_33 rfl hw.o rfl) ?_
          refine ex_of (fun _ _ => ev_iload_n (pc' := 37) dX6_keep_36 rfl rfl) ?_
          refine ex_of (fun _ _ => ev_iload_n (pc' := 38) dX6_keep_37 rfl rfl) ?_
          refine xst_2 (pc' := 39) dX6_keep_38 rfl hw fr (by omega) (fun h hw fr => ?_)
          refine ex_of (fun _ _ => ev_aload_n (pc' := 40) dX6_keep_39 rfl rfl) ?_
          refine ex_of (fun _ _ => ev_getfield (pc' := 43) fX6_28 dX6_keep_40 rfl hw.o rfl) ?_
          refine ex_of (fun _ _ => ev_iload_n (pc' := 44) dX6_keep_43 rfl rfl) ?_
          refine ex_of (fun _ _ => ev_iload_n (pc' := 45) dX6_keep_44 rfl rfl) ?_
          refine xst_6 (pc' := 46) dX6_keep_45 rfl hw fr (by omega) (fun h hw fr => ?_)
          refine ex_of (fun _ _ => ev_aload_n (pc' := 47) dX6_keep_46 rfl rfl) ?_
          refine ex_of (fun _ _ => ev_getfield (pc' := 50) fX6_34 dX6_keep_47 rfl hw.o rfl) ?_
          refine ex_of (fun _ _ => ev_iload_n (pc' := 51) dX6_keep_50 rfl rfl) ?_
          refine ex_of (fun _ _ => ev_iconst (pc' := 52) (iI (0)) dX6_keep_51 rfl (by decide)) ?_
          refine xst_8 (pc' := 53) dX6_keep_52 rfl hw fr (by omega) (by omega) (fun h hw fr => ?_)
          refine ex_of (fun _ _ => ev_iconst (pc' := 54) (iI (0)) dX6_keep_53 rfl (by decide)) ?_
          exact ex_end (ev_iret dX6_keep_54 rfl) (by first | exact uP_f (by unfold kpB; apply decide_eq_false; omega) hw fr | exact uP_t (by unfold kpB; apply decide_eq_true; omega) hw fr)
        · refine ex_of (fun _ _ => ev_iconst (pc' := 31) (iI (-1)) dX6_keep_30 rfl (by decide)) ?_
          exact ex_end (ev_iret dX6_keep_31 rfl) (by first | exact uP_f (by unfold kpB; apply decide_eq_false; omega) hw fr | exact uP_t (by unfold kpB; apply decide_eq_true; omega) hw fr)
def zeN (S : Int → Int) (d n : Int) : Int → Int := fun x => if 100 * d ≤ x ∧ x < 100 * d + n then 0 else S x
theorem zeN_0 (S : Int → Int) (d : Int) : zeN S d 0 = S := by funext x; unfold zeN; rw [if_neg (by omega)]
theorem zeN_s (S : Int → Int) (d n : Int) (hn : 0 ≤ n) : upI (zeN S d n) (100 * d + n) 0 = zeN S d (n + 1) := by
  funext x
  unfold upI zeN
  split
  · rw [if_pos (by omega)]
  · split
    · rw [if_pos (by omega)]
    · rw [if_neg (by omega)]
def rwA (A : Nat → Int → Int) (d q n : Int) : Nat → Int → Int := upA (upA (upA (upA A 2 (upI (A 2) d 2)) 3 (upI (A 3) d q)) 4 (upI (A 4) d n)) 5 (zeN (A 5) d 100)
def rwB (d q n : Int) : Bool := decide ((0 ≤ d ∧ d < 8) ∧ (0 ≤ q ∧ q ≤ 2) ∧ (0 ≤ n ∧ n ≤ 100))
def rwE (d q n : Int) : Int := if (0 ≤ d ∧ d < 8) ∧ (0 ≤ q ∧ q ≤ 2) ∧ n ≤ 100 then -14 else -1
theorem upA_2 (A : Nat → Int → Int) (k : Nat) (S T : Int → Int) : upA (upA A k S) k T = upA A k T := by funext j; unfold upA; split <;> rfl
theorem e6_rowL {h0 : ev_H} {d q n : Int} {B : Nat → Int → Int} {Post : Option Value → ev_H → Prop} (hd : 0 ≤ d ∧ d < 8) (fin : ∀ h2 a4, MW h2 o (upA B 5 (zeN (B 5) d 100)) → FrM h0 h2 → Ex l 2 yX6_row.cls yX6_row.name cX6_row 5 (some .int) 84 [some (.ref 34), some (.int (iI d)), some (.int (iI q)), some (.int (iI n)), a4] [] h2 Post) : ∀ (k i : Nat) (h : ev_H), i + k = 100 → MW h o (upA B 5 (zeN (B 5) d (i : Int))) → FrM h0 h → Ex l 2 yX6_row.cls yX6_row.name cX6_row 5 (some .int) 58 [some (.ref 34), some (.int (iI d)), some (.int (iI q)), some (.int (iI n)), some (.int (iI (i : Int)))] [] h Post := by
  intro k
  induction k with
  | zero =>
    intro i h hn hw fr
    have ei : i = 100 := by omega
    subst ei
    refine ex_of (fun _ _ => ev_iload (pc' := 60) dX6_row_58 rfl rfl) ?_
    refine ex_of (fun _ _ => ev_bipush (pc' := 62) (iI (100)) dX6_row_60 rfl (by decide)) ?_
    refine ex_icmpI_ge (pc' := 65) (tgt := 84) dX6_row_62 (by decide) rfl (by omega) (by omega) (fun c62 => ?_) (fun c62 => ?_)
    · exact fin _ _ hw fr
    · omega
  | succ k ih =>
    intro i h hn hw fr
    refine ex_of (fun _ _ => ev_iload (pc' := 60) dX6_row_58 rfl rfl) ?_
    refine ex_of (fun _ _ => ev_bipush (pc' := 62) (iI (100)) dX6_row_60 rfl (by decide)) ?_
    refine ex_icmpI_ge (pc' := 65) (tgt := 84) dX6_row_62 (by decide) rfl (by omega) (by omega) (fun c62 => ?_) (fun c62 => ?_)
    · omega
    · refine ex_of (fun _ _ => ev_aload_n (pc' := 66) dX6_row_65 rfl rfl) ?_
      refine ex_of (fun _ _ => ev_getfield (pc' := 69) fX6_25 dX6_row_66 rfl hw.o rfl) ?_
      refine ex_of (fun _ _ => ev_bipush (pc' := 71) (iI (100)) dX6_row_69 rfl (by decide)) ?_
      refine ex_of (fun _ _ => ev_iload_n (pc' := 72) dX6_row_71 rfl rfl) ?_
      refine ex_of (fun _ _ => ev_imulI (pc' := 73) dX6_row_72 rfl) ?_
      refine ex_of (fun _ _ => ev_iload (pc' := 75) dX6_row_73 rfl rfl) ?_
      refine ex_of (fun _ _ => ev_iaddI (pc' := 76) dX6_row_75 rfl) ?_
      refine ex_of (fun _ _ => ev_iconst (pc' := 77) (iI (0)) dX6_row_76 rfl (by decide)) ?_
      refine xst_5 (pc' := 78) dX6_row_77 rfl hw fr (by omega) (fun h hw fr => ?_)
      refine ex_of (fun _ _ => ev_iincI_4 (pc' := 81) dX6_row_78 rfl (by decide) rfl) ?_
      refine ex_of (fun _ _ => ev_goto (tgt := 58) dX6_row_81 (by decide)) ?_
      rw [upA_s, upA_2, zeN_s _ _ _ (by omega)] at hw
      exact ih (i + 1) _ (by omega) hw fr
theorem e6_row {d q n : Int} (hw : MW h o A) (rd : -2147483648 ≤ d ∧ d < 2147483648) (rq : -2147483648 ≤ q ∧ q < 2147483648) (rn : -2147483648 ≤ n ∧ n < 2147483648) : Ex l 2 yX6_row.cls yX6_row.name cX6_row 5 (some .int) 0 [some (.ref 34), some (.int (iI d)), some (.int (iI q)), some (.int (iI n)), none] [] h (uP h o A (rwA A d q n) (rwB d q n) (some (.int (iI 0))) (some (.int (iI (rwE d q n))))) := by
  have fr := FrM.rf h
  refine ex_of (fun _ _ => ev_iload_n (pc' := 1) dX6_row_0 rfl rfl) ?_
  refine ex_of (fun _ _ => ev_callS1 (pc' := 4) kX6_90 mX6_isShelf dX6_row_1 rfl rfl (Nat.le_of_ble_eq_true rfl) (Nat.le_of_ble_eq_true rfl) (by decide) (e6_isShelf (by omega))) ?_
  refine ex_ifd_eq (pc' := 7) (tgt := 25) dX6_row_4 (by decide) rfl (fun c4 => ?_) (fun c4 => ?_)
  · refine ex_of (fun _ _ => ev_iconst (pc' := 26) (iI (-1)) dX6_row_25 rfl (by decide)) ?_
    exact ex_end (ev_iret dX6_row_26 rfl) (by have e : rwE d q n = -1 := (by unfold rwE; rw [if_neg (by omega)]); rw [e]; exact uP_f (by unfold rwB; apply decide_eq_false; omega) hw fr)
  · refine ex_of (fun _ _ => ev_iload_n (pc' := 8) dX6_row_7 rfl rfl) ?_
    refine ex_of (fun _ _ => ev_i2lI (pc' := 9) dX6_row_8 rfl (by omega)) ?_
    refine ex_of (fun _ _ => ev_lconst (pc' := 10) (jJ (0)) dX6_row_9 rfl (by decide)) ?_
    refine ex_of (fun _ _ => ev_ldc2I (pc' := 13) (2) nX6_242 dX6_row_10 rfl (by decide)) ?_
    refine ex_of (fun _ _ => ev_callS3 (pc' := 16) kX6_48 mX6_isIn dX6_row_13 rfl rfl (Nat.le_of_ble_eq_true rfl) (Nat.le_of_ble_eq_true rfl) (by decide) (e6_isIn (by omega) (by omega) (by omega))) ?_
    refine ex_ifd_eq (pc' := 19) (tgt := 25) dX6_row_16 (by decide) rfl (fun c16 => ?_) (fun c16 => ?_)
    · refine ex_of (fun _ _ => ev_iconst (pc' := 26) (iI (-1)) dX6_row_25 rfl (by decide)) ?_
      exact ex_end (ev_iret dX6_row_26 rfl) (by have e : rwE d q n = -1 := (by unfold rwE; rw [if_neg (by omega)]); rw [e]; exact uP_f (by unfold rwB; apply decide_eq_false; omega) hw fr)
    · refine ex_of (fun _ _ => ev_iload_n (pc' := 20) dX6_row_19 rfl rfl) ?_
      refine ex_of (fun _ _ => ev_bipush (pc' := 22) (iI (100)) dX6_row_20 rfl (by decide)) ?_
      refine ex_icmpI_le (pc' := 25) (tgt := 27) dX6_row_22 (by decide) rfl (by omega) (by omega) (fun c22 => ?_) (fun c22 => ?_)
      · refine ex_of (fun _ _ => ev_iload_n (pc' := 28) dX6_row_27 rfl rfl) ?_
        refine ex_ifI_ge (pc' := 31) (tgt := 34) dX6_row_28 (by decide) rfl (by omega) (fun c28 => ?_) (fun c28 => ?_)
        · refine ex_of (fun _ _ => ev_aload_n (pc' := 35) dX6_row_34 rfl rfl) ?_
          refine ex_of (fun _ _ => ev_getfield (pc' := 38) fX6_16 dX6_row_35 rfl hw.o rfl) ?_
          refine ex_of (fun _ _ => ev_iload_n (pc' := 39) dX6_row_38 rfl rfl) ?_
          refine ex_of (fun _ _ => ev_iconst (pc' := 40) (iI (2)) dX6_row_39 rfl (by decide)) ?_
          refine xst_2 (pc' := 41) dX6_row_40 rfl hw fr (by omega) (fun h hw fr => ?_)
          refine ex_of (fun _ _ => ev_aload_n (pc' := 42) dX6_row_41 rfl rfl) ?_
          refine ex_of (fun _ _ => ev_getfield (pc' := 45) fX6_19 dX6_row_42 rfl hw.o rfl) ?_
          refine ex_of (fun _ _ => ev_iload_n (pc' := 46) dX6_row_45 rfl rfl) ?_
          refine ex_of (fun _ _ => ev_iload_n (pc' := 47) dX6_row_46 rfl rfl) ?_
          refine xst_3 (pc' := 48) dX6_row_47 rfl hw fr (by omega) (fun h hw fr => ?_)
          refine ex_of (fun _ _ => ev_aload_n (pc' := 49) dX6_row_48 rfl rfl) ?_
          refine ex_of (fun _ _ => ev_getfield (pc' := 52) fX6_22 dX6_row_49 rfl hw.o rfl) ?_
          refine ex_of (fun _ _ => ev_iload_n (pc' := 53) dX6_row_52 rfl rfl) ?_
          refine ex_of (fun _ _ => ev_iload_n (pc' := 54) dX6_row_53 rfl rfl) ?_
          refine xst_4 (pc' := 55) dX6_row_54 rfl hw fr (by omega) (fun h hw fr => ?_)
          refine ex_of (fun _ _ => ev_iconst (pc' := 56) (iI (0)) dX6_row_55 rfl (by decide)) ?_
          refine ex_of (fun _ _ => ev_istore_4 (pc' := 58) dX6_row_56 rfl (by decide) rfl) ?_
          have e5 : upA (upA (upA A 2 (upI (A 2) d 2)) 3 (upI (A 3) d q)) 4 (upI (A 4) d n) 5 = A 5 := rfl
          have hw5 := hw
          rw [show (upA (upA (upA A 2 (upI (A 2) d 2)) 3 (upI (upA A 2 (upI (A 2) d 2) 3) d q)) 4 (upI (upA (upA A 2 (upI (A 2) d 2)) 3 (upI (upA A 2 (upI (A 2) d 2) 3) d q) 4) d n)) = upA (upA (upA (upA A 2 (upI (A 2) d 2)) 3 (upI (A 3) d q)) 4 (upI (A 4) d n)) 5 (zeN (upA (upA (upA A 2 (upI (A 2) d 2)) 3 (upI (A 3) d q)) 4 (upI (A 4) d n) 5) d 0) by rw [zeN_0, upA_id]; rfl] at hw5
          refine e6_rowL (l := l) (o := o) (d := d) (q := q) (n := n) (B := upA (upA (upA A 2 (upI (A 2) d 2)) 3 (upI (A 3) d q)) 4 (upI (A 4) d n)) (by omega) (fun h2 a4 hw fr => ?_) 100 0 _ (by omega) hw5 fr
          refine ex_of (fun _ _ => ev_iconst (pc' := 85) (iI (0)) dX6_row_84 rfl (by decide)) ?_
          exact ex_end (ev_iret dX6_row_85 rfl) (uP_t (by unfold rwB; apply decide_eq_true; omega) hw fr)
        · refine ex_of (fun _ _ => ev_bipush (pc' := 33) (iI (-14)) dX6_row_31 rfl (by decide)) ?_
          exact ex_end (ev_iret dX6_row_33 rfl) (by have e : rwE d q n = -14 := (by unfold rwE; rw [if_pos (by omega)]); rw [e]; exact uP_f (by unfold rwB; apply decide_eq_false; omega) hw fr)
      · refine ex_of (fun _ _ => ev_iconst (pc' := 26) (iI (-1)) dX6_row_25 rfl (by decide)) ?_
        exact ex_end (ev_iret dX6_row_26 rfl) (by have e : rwE d q n = -1 := (by unfold rwE; rw [if_neg (by omega)]); rw [e]; exact uP_f (by unfold rwB; apply decide_eq_false; omega) hw fr)
end MK
