section ML
variable {l : Launch} {A : Nat → Int → Int} {h : ev_H} {o : Nat → Int}
/-- what is put in keeps its lowest bits -/
def lowS (s v : Int) : Int := if s = 0 then ((iI v).toInt8.toInt32).toInt else if s = 1 then ((iI v).toInt16.toInt32).toInt else v
def ptA (A : Nat → Int → Int) (d i v : Int) : Nat → Int → Int := upA A 5 (upI (A 5) (100 * d + i) (lowS (A 3 d) v))
def ptB (A : Nat → Int → Int) (d i : Int) : Bool := decide (sRow A d (-1) = 0 ∧ (0 ≤ i ∧ i < A 4 d))
def ptE (A : Nat → Int → Int) (d : Int) : Int := if sRow A d (-1) = 0 then -13 else sRow A d (-1)
theorem e6_put {d i v : Int} (hw : MW h o A) (hS : mSh A) (rd : -2147483648 ≤ d ∧ d < 2147483648) (ri : -2147483648 ≤ i ∧ i < 2147483648) (rv : -2147483648 ≤ v ∧ v < 2147483648) : Ex l 3 yX6_put.cls yX6_put.name cX6_put 5 (some .int) 0 [some (.ref 34), some (.int (iI d)), some (.int (iI i)), some (.int (iI v)), none] [] h (uP h o A (ptA A d i v) (ptB A d i) (some (.int (iI 0))) (some (.int (iI (ptE A d))))) := by
  have fr := FrM.rf h
  have zb := sRow_b A d (-1)
  refine ex_of (fun _ _ => ev_aload_n (pc' := 1) dX6_put_0 rfl rfl) ?_
  refine ex_of (fun _ _ => ev_iload_n (pc' := 2) dX6_put_1 rfl rfl) ?_
  refine ex_of (fun _ _ => ev_iconst (pc' := 3) (iI (-1)) dX6_put_2 rfl (by decide)) ?_
  refine ex_of (fun _ _ => ev_callV2 (pc' := 6) kX6_93 mX6_wrongRow dX6_put_3 rfl rfl (Nat.le_of_ble_eq_true rfl) (Nat.le_of_ble_eq_true rfl) (by decide) rfl hw.o (e6_wrongRow hw hS (by omega) (by omega))) ?_
  refine ex_of (fun _ _ => ev_istore_4 (pc' := 8) dX6_put_6 rfl (by decide) rfl) ?_
  refine ex_of (fun _ _ => ev_iload (pc' := 10) dX6_put_8 rfl rfl) ?_
  refine ex_ifI_eq (pc' := 13) (tgt := 16) dX6_put_10 (by decide) rfl (by omega) (fun c10 => ?_) (fun c10 => ?_)
  · have hz : sRow A d (-1) = 0 := by omega
    obtain ⟨hd, hk, -⟩ := sRow_0 hz
    obtain ⟨s1, s2, s3, s4, s5⟩ := hS.1 d hd.1 hd.2
    refine ex_of (fun _ _ => ev_iload_n (pc' := 17) dX6_put_16 rfl rfl) ?_
    refine ex_of (fun _ _ => ev_i2lI (pc' := 18) dX6_put_17 rfl (by omega)) ?_
    refine ex_of (fun _ _ => ev_lconst (pc' := 19) (jJ (0)) dX6_put_18 rfl (by decide)) ?_
    refine ex_of (fun _ _ => ev_aload_n (pc' := 20) dX6_put_19 rfl rfl) ?_
    refine ex_of (fun _ _ => ev_getfield (pc' := 23) fX6_22 dX6_put_20 rfl hw.o rfl) ?_
    refine ex_of (fun _ _ => ev_iload_n (pc' := 24) dX6_put_23 rfl rfl) ?_
    refine ex_of (fun _ _ => ev_ialoadI (pc' := 25) dX6_put_24 rfl hw.a4 (by decide) (by omega)) ?_
    refine ex_of (fun _ _ => ev_iconst (pc' := 26) (iI (1)) dX6_put_25 rfl (by decide)) ?_
    refine ex_of (fun _ _ => ev_isubI (pc' := 27) dX6_put_26 rfl) ?_
    refine ex_of (fun _ _ => ev_i2lI (pc' := 28) dX6_put_27 rfl (by omega)) ?_
    refine ex_of (fun _ _ => ev_callS3 (pc' := 31) kX6_48 mX6_isIn dX6_put_28 rfl rfl (Nat.le_of_ble_eq_true rfl) (Nat.le_of_ble_eq_true rfl) (by decide) (e6_isIn (by omega) (by omega) (by omega))) ?_
    refine ex_ifd_ne (pc' := 34) (tgt := 37) dX6_put_31 (by decide) rfl (fun c31 => ?_) (fun c31 => ?_)
    · refine ex_of (fun _ _ => ev_aload_n (pc' := 38) dX6_put_37 rfl rfl) ?_
      refine ex_of (fun _ _ => ev_getfield (pc' := 41) fX6_25 dX6_put_38 rfl hw.o rfl) ?_
      refine ex_of (fun _ _ => ev_bipush (pc' := 43) (iI (100)) dX6_put_41 rfl (by decide)) ?_
      refine ex_of (fun _ _ => ev_iload_n (pc' := 44) dX6_put_43 rfl rfl) ?_
      refine ex_of (fun _ _ => ev_imulI (pc' := 45) dX6_put_44 rfl) ?_
      refine ex_of (fun _ _ => ev_iload_n (pc' := 46) dX6_put_45 rfl rfl) ?_
      refine ex_of (fun _ _ => ev_iaddI (pc' := 47) dX6_put_46 rfl) ?_
      refine ex_of (fun _ _ => ev_aload_n (pc' := 48) dX6_put_47 rfl rfl) ?_
      refine ex_of (fun _ _ => ev_getfield (pc' := 51) fX6_19 dX6_put_48 rfl hw.o rfl) ?_
      refine ex_of (fun _ _ => ev_iload_n (pc' := 52) dX6_put_51 rfl rfl) ?_
      refine ex_of (fun _ _ => ev_ialoadI (pc' := 53) dX6_put_52 rfl hw.a3 (by decide) (by omega)) ?_
      refine ex_ifI_ne (pc' := 56) (tgt := 61) dX6_put_53 (by decide) rfl (by omega) (fun c53 => ?_) (fun c53 => ?_)
      · refine ex_of (fun _ _ => ev_aload_n (pc' := 62) dX6_put_61 rfl rfl) ?_
        refine ex_of (fun _ _ => ev_getfield (pc' := 65) fX6_19 dX6_put_62 rfl hw.o rfl) ?_
        refine ex_of (fun _ _ => ev_iload_n (pc' := 66) dX6_put_65 rfl rfl) ?_
        refine ex_of (fun _ _ => ev_ialoadI (pc' := 67) dX6_put_66 rfl hw.a3 (by decide) (by omega)) ?_
        refine ex_of (fun _ _ => ev_iconst (pc' := 68) (iI (1)) dX6_put_67 rfl (by decide)) ?_
        refine ex_icmpI_ne (pc' := 71) (tgt := 76) dX6_put_68 (by decide) rfl (by omega) (by omega) (fun c68 => ?_) (fun c68 => ?_)
        · refine ex_of (fun _ _ => ev_iload_n (pc' := 77) dX6_put_76 rfl rfl) ?_
          first
          | rw [show ((iI v).toInt8.toInt32).toInt = lowS (A 3 d) v by unfold lowS; rw [if_pos (by omega)]]
          | rw [show ((iI v).toInt16.toInt32).toInt = lowS (A 3 d) v by unfold lowS; rw [if_neg (by omega), if_pos (by omega)]]
          | rw [show iI v = iI (lowS (A 3 d) v) by unfold lowS; rw [if_neg (by omega), if_neg (by omega)]]
          refine xst_5 (pc' := 78) dX6_put_77 rfl hw fr (by omega) (fun h hw fr => ?_)
          refine ex_of (fun _ _ => ev_iconst (pc' := 79) (iI (0)) dX6_put_78 rfl (by decide)) ?_
          exact ex_end (ev_iret dX6_put_79 rfl) (uP_t (by unfold ptB; apply decide_eq_true; omega) hw fr)
        · refine ex_of (fun _ _ => ev_iload_n (pc' := 72) dX6_put_71 rfl rfl) ?_
          refine ex_of (fun _ _ => ev_i2s (pc' := 73) dX6_put_72 rfl) ?_
          rw [← iI_of ((iI v).toInt16.toInt32)]
          refine ex_of (fun _ _ => ev_goto (tgt := 77) dX6_put_73 (by decide)) ?_
          first
          | rw [show ((iI v).toInt8.toInt32).toInt = lowS (A 3 d) v by unfold lowS; rw [if_pos (by omega)]]
          | rw [show ((iI v).toInt16.toInt32).toInt = lowS (A 3 d) v by unfold lowS; rw [if_neg (by omega), if_pos (by omega)]]
          | rw [show iI v = iI (lowS (A 3 d) v) by unfold lowS; rw [if_neg (by omega), if_neg (by omega)]]
          refine xst_5 (pc' := 78) dX6_put_77 rfl hw fr (by omega) (fun h hw fr => ?_)
          refine ex_of (fun _ _ => ev_iconst (pc' := 79) (iI (0)) dX6_put_78 rfl (by decide)) ?_
          exact ex_end (ev_iret dX6_put_79 rfl) (uP_t (by unfold ptB; apply decide_eq_true; omega) hw fr)
      · refine ex_of (fun _ _ => ev_iload_n (pc' := 57) dX6_put_56 rfl rfl) ?_
        refine ex_of (fun _ _ => ev_i2b (pc' := 58) dX6_put_57 rfl) ?_
        rw [← iI_of ((iI v).toInt8.toInt32)]
        refine ex_of (fun _ _ => ev_goto (tgt := 77) dX6_put_58 (by decide)) ?_
        first
        | rw [show ((iI v).toInt8.toInt32).toInt = lowS (A 3 d) v by unfold lowS; rw [if_pos (by omega)]]
        | rw [show ((iI v).toInt16.toInt32).toInt = lowS (A 3 d) v by unfold lowS; rw [if_neg (by omega), if_pos (by omega)]]
        | rw [show iI v = iI (lowS (A 3 d) v) by unfold lowS; rw [if_neg (by omega), if_neg (by omega)]]
        refine xst_5 (pc' := 78) dX6_put_77 rfl hw fr (by omega) (fun h hw fr => ?_)
        refine ex_of (fun _ _ => ev_iconst (pc' := 79) (iI (0)) dX6_put_78 rfl (by decide)) ?_
        exact ex_end (ev_iret dX6_put_79 rfl) (uP_t (by unfold ptB; apply decide_eq_true; omega) hw fr)
    · refine ex_of (fun _ _ => ev_bipush (pc' := 36) (iI (-13)) dX6_put_34 rfl (by decide)) ?_
      exact ex_end (ev_iret dX6_put_36 rfl) (by have e : ptE A d = -13 := (by unfold ptE; rw [if_pos (by omega)]); rw [e]; exact uP_f (by unfold ptB; apply decide_eq_false; omega) hw fr)
  · refine ex_of (fun _ _ => ev_iload (pc' := 15) dX6_put_13 rfl rfl) ?_
    exact ex_end (ev_iret dX6_put_15 rfl) (by have e : ptE A d = sRow A d (-1) := (by unfold ptE; rw [if_neg (by omega)]); rw [e]; exact uP_f (by unfold ptB; apply decide_eq_false; omega) hw fr)
def sThr (A : Nat → Int → Int) (d i : Int) : Int := if ¬ (0 ≤ d ∧ d < 8) then 1 else if A 2 d ≠ 2 ∨ ¬ (0 ≤ i ∧ i < A 4 d) then 2 else 0
def sElm (A : Nat → Int → Int) (d i : Int) : Int := if sThr A d i = 0 then A 5 (100 * d + i) else 0
def elP (h0 : ev_H) (o0 : Nat → Int) (A : Nat → Int → Int) (d i : Int) : Option Value → ev_H → Prop := fun v h2 => v = some (.long (jJ (sElm A d i))) ∧ MW h2 (upN o0 10 (sThr A d i)) A ∧ FrM h0 h2
theorem sThr_0 {A : Nat → Int → Int} {d i : Int} (h : sThr A d i = 0) : (0 ≤ d ∧ d < 8) ∧ A 2 d = 2 ∧ (0 ≤ i ∧ i < A 4 d) := by
  unfold sThr at h
  split at h
  · omega
  · split at h
    · omega
    · omega
theorem sThr_b (A : Nat → Int → Int) (d i : Int) : 0 ≤ sThr A d i ∧ sThr A d i ≤ 2 := by
  unfold sThr; repeat' split
  all_goals omega
theorem e6_elmB {d i : Int} {h0 : ev_H} (hw : MW h o A) (hS : mSh A) (fr : FrM h0 h) : Ex l 2 yX6_element.cls yX6_element.name cX6_element 3 (some .long) 45 [some (.ref 34), some (.int (iI d)), some (.int (iI i))] [.int (iI (sThr A d i)), .ref 34] h (elP h0 o A d i) := by
  have zb := sThr_b A d i
  refine xput_10 (pc' := 48) dX6_element_45 rfl hw fr (fun h hw fr => ?_)
  refine ex_of (fun _ _ => ev_aload_n (pc' := 49) dX6_element_48 rfl rfl) ?_
  refine ex_of (fun _ _ => ev_getfield (pc' := 52) fX6_44 dX6_element_49 rfl hw.o rfl) ?_
  rw [upN_s]
  refine ex_ifI_ne (pc' := 55) (tgt := 70) dX6_element_52 (by decide) rfl (by omega) (fun c52 => ?_) (fun c52 => ?_)
  · refine ex_of (fun _ _ => ev_lconst (pc' := 71) (jJ (0)) dX6_element_70 rfl (by decide)) ?_
    exact ex_end (ev_lret dX6_element_71) (⟨by unfold sElm; first | rw [if_pos (by omega)] | rw [if_neg (by omega)], hw, fr⟩)
  · obtain ⟨hd, hk, hi⟩ := sThr_0 (by omega)
    obtain ⟨s1, s2, s3, s4, s5⟩ := hS.1 d hd.1 hd.2
    have s6 := hS.2 (100 * d + i) (by omega) (by omega)
    refine ex_of (fun _ _ => ev_aload_n (pc' := 56) dX6_element_55 rfl rfl) ?_
    refine ex_of (fun _ _ => ev_getfield (pc' := 59) fX6_25 dX6_element_56 rfl hw.o rfl) ?_
    refine ex_of (fun _ _ => ev_bipush (pc' := 61) (iI (100)) dX6_element_59 rfl (by decide)) ?_
    refine ex_of (fun _ _ => ev_iload_n (pc' := 62) dX6_element_61 rfl rfl) ?_
    refine ex_of (fun _ _ => ev_imulI (pc' := 63) dX6_element_62 rfl) ?_
    refine ex_of (fun _ _ => ev_iload_n (pc' := 64) dX6_element_63 rfl rfl) ?_
    refine ex_of (fun _ _ => ev_iaddI (pc' := 65) dX6_element_64 rfl) ?_
    refine ex_of (fun _ _ => ev_ialoadI (pc' := 66) dX6_element_65 rfl hw.a5 (by decide) (by omega)) ?_
    refine ex_of (fun _ _ => ev_i2lI (pc' := 67) dX6_element_66 rfl (by omega)) ?_
    refine ex_of (fun _ _ => ev_goto (tgt := 71) dX6_element_67 (by decide)) ?_
    exact ex_end (ev_lret dX6_element_71) (⟨by unfold sElm; first | rw [if_pos (by omega)] | rw [if_neg (by omega)], hw, fr⟩)
theorem e6_element {d i : Int} (hw : MW h o A) (hS : mSh A) (rd : -2147483648 ≤ d ∧ d < 2147483648) (ri : -2147483648 ≤ i ∧ i < 2147483648) : Ex l 2 yX6_element.cls yX6_element.name cX6_element 3 (some .long) 0 [some (.ref 34), some (.int (iI d)), some (.int (iI i))] [] h (elP h o A d i) := by
  have fr := FrM.rf h
  by_cases hd : 0 ≤ d ∧ d < 8
  · obtain ⟨s1, s2, s3, s4, s5⟩ := hS.1 d hd.1 hd.2
    refine ex_of (fun _ _ => ev_aload_n (pc' := 1) dX6_element_0 rfl rfl) ?_
    refine ex_of (fun _ _ => ev_iload_n (pc' := 2) dX6_element_1 rfl rfl) ?_
    refine ex_of (fun _ _ => ev_callS1 (pc' := 5) kX6_90 mX6_isShelf dX6_element_2 rfl rfl (Nat.le_of_ble_eq_true rfl) (Nat.le_of_ble_eq_true rfl) (by decide) (e6_isShelf (by omega))) ?_
    refine ex_ifd_ne (pc' := 8) (tgt := 12) dX6_element_5 (by decide) rfl (fun c5 => ?_) (fun c5 => ?_)
    · refine ex_of (fun _ _ => ev_aload_n (pc' := 13) dX6_element_12 rfl rfl) ?_
      refine ex_of (fun _ _ => ev_getfield (pc' := 16) fX6_16 dX6_element_13 rfl hw.o rfl) ?_
      refine ex_of (fun _ _ => ev_iload_n (pc' := 17) dX6_element_16 rfl rfl) ?_
      refine ex_of (fun _ _ => ev_ialoadI (pc' := 18) dX6_element_17 rfl hw.a2 (by decide) (by omega)) ?_
      refine ex_of (fun _ _ => ev_iconst (pc' := 19) (iI (2)) dX6_element_18 rfl (by decide)) ?_
      refine ex_icmpI_ne (pc' := 22) (tgt := 40) dX6_element_19 (by decide) rfl (by omega) (by omega) (fun c19 => ?_) (fun c19 => ?_)
      · refine ex_of (fun _ _ => ev_iconst (pc' := 41) (iI (2)) dX6_element_40 rfl (by decide)) ?_
        refine ex_of (fun _ _ => ev_goto (tgt := 45) dX6_element_41 (by decide)) ?_
        first
        | (rw [show iI 0 = iI (sThr A d i) by congr 1; unfold sThr; (repeat (first | rw [if_pos (by omega)] | rw [if_neg (by omega)]))]; exact e6_elmB hw hS fr)
        | (rw [show iI 1 = iI (sThr A d i) by congr 1; unfold sThr; (repeat (first | rw [if_pos (by omega)] | rw [if_neg (by omega)]))]; exact e6_elmB hw hS fr)
        | (rw [show iI 2 = iI (sThr A d i) by congr 1; unfold sThr; (repeat (first | rw [if_pos (by omega)] | rw [if_neg (by omega)]))]; exact e6_elmB hw hS fr)
      · refine ex_of (fun _ _ => ev_iload_n (pc' := 23) dX6_element_22 rfl rfl) ?_
        refine ex_of (fun _ _ => ev_i2lI (pc' := 24) dX6_element_23 rfl (by omega)) ?_
        refine ex_of (fun _ _ => ev_lconst (pc' := 25) (jJ (0)) dX6_element_24 rfl (by decide)) ?_
        refine ex_of (fun _ _ => ev_aload_n (pc' := 26) dX6_element_25 rfl rfl) ?_
        refine ex_of (fun _ _ => ev_getfield (pc' := 29) fX6_22 dX6_element_26 rfl hw.o rfl) ?_
        refine ex_of (fun _ _ => ev_iload_n (pc' := 30) dX6_element_29 rfl rfl) ?_
        refine ex_of (fun _ _ => ev_ialoadI (pc' := 31) dX6_element_30 rfl hw.a4 (by decide) (by omega)) ?_
        refine ex_of (fun _ _ => ev_iconst (pc' := 32) (iI (1)) dX6_element_31 rfl (by decide)) ?_
        refine ex_of (fun _ _ => ev_isubI (pc' := 33) dX6_element_32 rfl) ?_
        refine ex_of (fun _ _ => ev_i2lI (pc' := 34) dX6_element_33 rfl (by omega)) ?_
        refine ex_of (fun _ _ => ev_callS3 (pc' := 37) kX6_48 mX6_isIn dX6_element_34 rfl rfl (Nat.le_of_ble_eq_true rfl) (Nat.le_of_ble_eq_true rfl) (by decide) (e6_isIn (by omega) (by omega) (by omega))) ?_
        refine ex_ifd_ne (pc' := 40) (tgt := 44) dX6_element_37 (by decide) rfl (fun c37 => ?_) (fun c37 => ?_)
        · refine ex_of (fun _ _ => ev_iconst (pc' := 45) (iI (0)) dX6_element_44 rfl (by decide)) ?_
          first
          | (rw [show iI 0 = iI (sThr A d i) by congr 1; unfold sThr; (repeat (first | rw [if_pos (by omega)] | rw [if_neg (by omega)]))]; exact e6_elmB hw hS fr)
          | (rw [show iI 1 = iI (sThr A d i) by congr 1; unfold sThr; (repeat (first | rw [if_pos (by omega)] | rw [if_neg (by omega)]))]; exact e6_elmB hw hS fr)
          | (rw [show iI 2 = iI (sThr A d i) by congr 1; unfold sThr; (repeat (first | rw [if_pos (by omega)] | rw [if_neg (by omega)]))]; exact e6_elmB hw hS fr)
        · refine ex_of (fun _ _ => ev_iconst (pc' := 41) (iI (2)) dX6_element_40 rfl (by decide)) ?_
          refine ex_of (fun _ _ => ev_goto (tgt := 45) dX6_element_41 (by decide)) ?_
          first
          | (rw [show iI 0 = iI (sThr A d i) by congr 1; unfold sThr; (repeat (first | rw [if_pos (by omega)] | rw [if_neg (by omega)]))]; exact e6_elmB hw hS fr)
          | (rw [show iI 1 = iI (sThr A d i) by congr 1; unfold sThr; (repeat (first | rw [if_pos (by omega)] | rw [if_neg (by omega)]))]; exact e6_elmB hw hS fr)
          | (rw [show iI 2 = iI (sThr A d i) by congr 1; unfold sThr; (repeat (first | rw [if_pos (by omega)] | rw [if_neg (by omega)]))]; exact e6_elmB hw hS fr)
    · refine ex_of (fun _ _ => ev_iconst (pc' := 9) (iI (1)) dX6_element_8 rfl (by decide)) ?_
      refine ex_of (fun _ _ => ev_goto (tgt := 45) dX6_element_9 (by decide)) ?_
      first
      | (rw [show iI 0 = iI (sThr A d i) by congr 1; unfold sThr; (repeat (first | rw [if_pos (by omega)] | rw [if_neg (by omega)]))]; exact e6_elmB hw hS fr)
      | (rw [show iI 1 = iI (sThr A d i) by congr 1; unfold sThr; (repeat (first | rw [if_pos (by omega)] | rw [if_neg (by omega)]))]; exact e6_elmB hw hS fr)
      | (rw [show iI 2 = iI (sThr A d i) by congr 1; unfold sThr; (repeat (first | rw [if_pos (by omega)] | rw [if_neg (by omega)]))]; exact e6_elmB hw hS fr)
  · skip
    refine ex_of (fun _ _ => ev_aload_n (pc' := 1) dX6_element_0 rfl rfl) ?_
    refine ex_of (fun _ _ => ev_iload_n (pc' := 2) dX6_element_1 rfl rfl) ?_
    refine ex_of (fun _ _ => ev_callS1 (pc' := 5) kX6_90 mX6_isShelf dX6_element_2 rfl rfl (Nat.le_of_ble_eq_true rfl) (Nat.le_of_ble_eq_true rfl) (by decide) (e6_isShelf (by omega))) ?_
    refine ex_ifd_ne (pc' := 8) (tgt := 12) dX6_element_5 (by decide) rfl (fun c5 => ?_) (fun c5 => ?_)
    · omega
    · refine ex_of (fun _ _ => ev_iconst (pc' := 9) (iI (1)) dX6_element_8 rfl (by decide)) ?_
      refine ex_of (fun _ _ => ev_goto (tgt := 45) dX6_element_9 (by decide)) ?_
      rw [show iI 1 = iI (sThr A d i) by congr 1; unfold sThr; (repeat (first | rw [if_pos (by omega)] | rw [if_neg (by omega)]))]
      exact e6_elmB hw hS fr
def cpE (S : Int → Int) (sp dp n : Int) : Int → Int := fun x => if dp ≤ x ∧ x < dp + n then S (sp + (x - dp)) else S x
def cpU (S : Int → Int) (sp dp n m : Int) : Int → Int := fun x => if dp ≤ x ∧ x < dp + m then S (sp + (x - dp)) else S x
def cpD (S : Int → Int) (sp dp n m : Int) : Int → Int := fun x => if dp + n - m ≤ x ∧ x < dp + n then S (sp + (x - dp)) else S x
def cpF (S : Int → Int) (i j sp dp n m : Int) : Int → Int := if j < i then cpU S sp dp n m else cpD S sp dp n m
theorem cpF_0 (S : Int → Int) (i j sp dp n : Int) : cpF S i j sp dp n 0 = S := by
  unfold cpF; split
  · funext x; unfold cpU; rw [if_neg (by omega)]
  · funext x; unfold cpD; rw [if_neg (by omega)]
theorem cpF_n (S : Int → Int) (i j sp dp n : Int) : cpF S i j sp dp n n = cpE S sp dp n := by
  unfold cpF; split
  · rfl
  · funext x; unfold cpD cpE; simp only [show dp + n - n = dp by omega]
theorem cpF_s (S : Int → Int) {i j d e n m : Int} (hi : 0 ≤ i ∧ i + n ≤ 100) (hj : 0 ≤ j ∧ j + n ≤ 100) (hm : 0 ≤ m ∧ m < n) : upI (cpF S i j (100 * d + i) (100 * e + j) n m) (100 * e + j + (if j < i then m else n - 1 - m)) (cpF S i j (100 * d + i) (100 * e + j) n m (100 * d + i + (if j < i then m else n - 1 - m))) = cpF S i j (100 * d + i) (100 * e + j) n (m + 1) := by
  unfold cpF
  by_cases hij : j < i
  · simp only [if_pos hij]
    funext x
    unfold upI cpU
    by_cases c1 : x = 100 * e + j + m
    · subst c1
      rw [if_pos rfl, if_neg (by omega), if_pos (by omega)]
      congr 1; omega
    · rw [if_neg c1]
      by_cases c2 : 100 * e + j ≤ x ∧ x < 100 * e + j + m
      · rw [if_pos c2, if_pos (by omega)]
      · rw [if_neg c2, if_neg (by omega)]
  · simp only [if_neg hij]
    funext x
    unfold upI cpD
    by_cases c1 : x = 100 * e + j + (n - 1 - m)
    · subst c1
      rw [if_pos rfl, if_neg (by omega), if_pos (by omega)]
      congr 1; omega
    · rw [if_neg c1]
      by_cases c2 : 100 * e + j + n - m ≤ x ∧ x < 100 * e + j + n
      · rw [if_pos c2, if_pos (by omega)]
      · rw [if_neg c2, if_neg (by omega)]
def cyA (A : Nat → Int → Int) (d i e j n : Int) : Nat → Int → Int := upA A 5 (cpE (A 5) (100 * d + i) (100 * e + j) n)
def cyE (A : Nat → Int → Int) (d i e j n : Int) : Int := if ¬ ((0 ≤ d ∧ d < 8) ∧ (0 ≤ e ∧ e < 8)) then -1 else if A 2 d = 0 ∨ A 2 e = 0 then -11 else if A 2 d ≠ 2 ∨ A 2 e ≠ 2 ∨ A 3 d ≠ A 3 e then -12 else if n < 0 ∨ i < 0 ∨ j < 0 ∨ A 4 d - i < n ∨ A 4 e - j < n then -13 else n
def cyB (A : Nat → Int → Int) (d i e j n : Int) : Bool := decide (0 ≤ cyE A d i e j n)
theorem e6_cpyL {h0 : ev_H} {d i e j n : Int} (hd : 0 ≤ d ∧ d < 8) (he : 0 ≤ e ∧ e < 8) (hi : 0 ≤ i ∧ i + n ≤ 100) (hj : 0 ≤ j ∧ j + n ≤ 100) : ∀ (k m : Nat) (a7 : Option Value) (h : ev_H), n = m + k → MW h o (upA A 5 (cpF (A 5) i j (100 * d + i) (100 * e + j) n m)) → FrM h0 h → Ex l 2 yX6_copy.cls yX6_copy.name cX6_copy 8 (some .int) 122 [some (.ref 34), some (.int (iI d)), some (.int (iI i)), some (.int (iI e)), some (.int (iI j)), some (.int (iI n)), some (.int (iI (m : Int))), a7] [] h (fun v h2 => v = some (.int (iI n)) ∧ MW h2 o (cyA A d i e j n) ∧ FrM h0 h2) := by
  intro k
  induction k with
  | zero =>
    intro m a7 h hn hw fr
    have em : (m : Int) = n := by omega
    rw [em, cpF_n] at hw
    refine ex_of (fun _ _ => ev_iload (pc' := 124) dX6_copy_122 rfl rfl) ?_
    refine ex_of (fun _ _ => ev_iload (pc' := 126) dX6_copy_124 rfl rfl) ?_
    refine ex_icmpI_ge (pc' := 129) (tgt := 184) dX6_copy_126 (by decide) rfl (by omega) (by omega) (fun c126 => ?_) (fun c126 => ?_)
    · refine ex_of (fun _ _ => ev_iload (pc' := 186) dX6_copy_184 rfl rfl) ?_
      exact ex_end (ev_iret dX6_copy_186 rfl) (⟨rfl, hw, fr⟩)
    · omega
  | succ k ih =>
    intro m a7 h hn hw fr
    have es := cpF_s (A 5) (d := d) (e := e) hi hj (m := (m : Int)) (by omega)
    refine ex_of (fun _ _ => ev_iload (pc' := 124) dX6_copy_122 rfl rfl) ?_
    refine ex_of (fun _ _ => ev_iload (pc' := 126) dX6_copy_124 rfl rfl) ?_
    refine ex_icmpI_ge (pc' := 129) (tgt := 184) dX6_copy_126 (by decide) rfl (by omega) (by omega) (fun c126 => ?_) (fun c126 => ?_)
    · omega
    · refine ex_of (fun _ _ => ev_iload_n (pc' := 130) dX6_copy_129 rfl rfl) ?_
      refine ex_of (fun _ _ => ev_iload (pc' := 132) dX6_copy_130 rfl rfl) ?_
      refine ex_icmpI_le (pc' := 135) (tgt := 140) dX6_copy_132 (by decide) rfl (by omega) (by omega) (fun c132 => ?_) (fun c132 => ?_)
      · refine ex_of (fun _ _ => ev_iload (pc' := 142) dX6_copy_140 rfl rfl) ?_
        refine ex_of (fun _ _ => ev_iconst (pc' := 143) (iI (1)) dX6_copy_142 rfl (by decide)) ?_
        refine ex_of (fun _ _ => ev_isubI (pc' := 144) dX6_copy_143 rfl) ?_
        refine ex_of (fun _ _ => ev_iload (pc' := 146) dX6_copy_144 rfl rfl) ?_
        refine ex_of (fun _ _ => ev_isubI (pc' := 147) dX6_copy_146 rfl) ?_
        refine ex_of (fun _ _ => ev_istore_7 (pc' := 149) dX6_copy_147 rfl (by decide) rfl) ?_
        refine ex_of (fun _ _ => ev_aload_n (pc' := 150) dX6_copy_149 rfl rfl) ?_
        refine ex_of (fun _ _ => ev_getfield (pc' := 153) fX6_25 dX6_copy_150 rfl hw.o rfl) ?_
        refine ex_of (fun _ _ => ev_bipush (pc' := 155) (iI (100)) dX6_copy_153 rfl (by decide)) ?_
        refine ex_of (fun _ _ => ev_iload_n (pc' := 156) dX6_copy_155 rfl rfl) ?_
        refine ex_of (fun _ _ => ev_imulI (pc' := 157) dX6_copy_156 rfl) ?_
        refine ex_of (fun _ _ => ev_iload (pc' := 159) dX6_copy_157 rfl rfl) ?_
        refine ex_of (fun _ _ => ev_iaddI (pc' := 160) dX6_copy_159 rfl) ?_
        refine ex_of (fun _ _ => ev_iload (pc' := 162) dX6_copy_160 rfl rfl) ?_
        refine ex_of (fun _ _ => ev_iaddI (pc' := 163) dX6_copy_162 rfl) ?_
        refine ex_of (fun _ _ => ev_aload_n (pc' := 164) dX6_copy_163 rfl rfl) ?_
        refine ex_of (fun _ _ => ev_getfield (pc' := 167) fX6_25 dX6_copy_164 rfl hw.o rfl) ?_
        refine ex_of (fun _ _ => ev_bipush (pc' := 169) (iI (100)) dX6_copy_167 rfl (by decide)) ?_
        refine ex_of (fun _ _ => ev_iload_n (pc' := 170) dX6_copy_169 rfl rfl) ?_
        refine ex_of (fun _ _ => ev_imulI (pc' := 171) dX6_copy_170 rfl) ?_
        refine ex_of (fun _ _ => ev_iload_n (pc' := 172) dX6_copy_171 rfl rfl) ?_
        refine ex_of (fun _ _ => ev_iaddI (pc' := 173) dX6_copy_172 rfl) ?_
        refine ex_of (fun _ _ => ev_iload (pc' := 175) dX6_copy_173 rfl rfl) ?_
        refine ex_of (fun _ _ => ev_iaddI (pc' := 176) dX6_copy_175 rfl) ?_
        refine ex_of (fun _ _ => ev_ialoadI (pc' := 177) dX6_copy_176 rfl hw.a5 (by decide) (by omega)) ?_
        refine xst_5 (pc' := 178) dX6_copy_177 rfl hw fr (by omega) (fun h hw fr => ?_)
        refine ex_of (fun _ _ => ev_iincI_6 (pc' := 181) dX6_copy_178 rfl (by decide) rfl) ?_
        refine ex_of (fun _ _ => ev_goto (tgt := 122) dX6_copy_181 (by decide)) ?_
        rw [upA_s, upA_2] at hw
        first | rw [if_pos (show j < i by omega)] at es | rw [if_neg (show ¬ j < i by omega)] at es
        rw [es] at hw
        exact ih (m + 1) _ _ (by omega) hw fr
      · refine ex_of (fun _ _ => ev_iload (pc' := 137) dX6_copy_135 rfl rfl) ?_
        refine ex_of (fun _ _ => ev_goto (tgt := 147) dX6_copy_137 (by decide)) ?_
        refine ex_of (fun _ _ => ev_istore_7 (pc' := 149) dX6_copy_147 rfl (by decide) rfl) ?_
        refine ex_of (fun _ _ => ev_aload_n (pc' := 150) dX6_copy_149 rfl rfl) ?_
        refine ex_of (fun _ _ => ev_getfield (pc' := 153) fX6_25 dX6_copy_150 rfl hw.o rfl) ?_
        refine ex_of (fun _ _ => ev_bipush (pc' := 155) (iI (100)) dX6_copy_153 rfl (by decide)) ?_
        refine ex_of (fun _ _ => ev_iload_n (pc' := 156) dX6_copy_155 rfl rfl) ?_
        refine ex_of (fun _ _ => ev_imulI (pc' := 157) dX6_copy_156 rfl) ?_
        refine ex_of (fun _ _ => ev_iload (pc' := 159) dX6_copy_157 rfl rfl) ?_
        refine ex_of (fun _ _ => ev_iaddI (pc' := 160) dX6_copy_159 rfl) ?_
        refine ex_of (fun _ _ => ev_iload (pc' := 162) dX6_copy_160 rfl rfl) ?_
        refine ex_of (fun _ _ => ev_iaddI (pc' := 163) dX6_copy_162 rfl) ?_
        refine ex_of (fun _ _ => ev_aload_n (pc' := 164) dX6_copy_163 rfl rfl) ?_
        refine ex_of (fun _ _ => ev_getfield (pc' := 167) fX6_25 dX6_copy_164 rfl hw.o rfl) ?_
        refine ex_of (fun _ _ => ev_bipush (pc' := 169) (iI (100)) dX6_copy_167 rfl (by decide)) ?_
        refine ex_of (fun _ _ => ev_iload_n (pc' := 170) dX6_copy_169 rfl rfl) ?_
        refine ex_of (fun _ _ => ev_imulI (pc' := 171) dX6_copy_170 rfl) ?_
        refine ex_of (fun _ _ => ev_iload_n (pc' := 172) dX6_copy_171 rfl rfl) ?_
        refine ex_of (fun _ _ => ev_iaddI (pc' := 173) dX6_copy_172 rfl) ?_
        refine ex_of (fun _ _ => ev_iload (pc' := 175) dX6_copy_173 rfl rfl) ?_
        refine ex_of (fun _ _ => ev_iaddI (pc' := 176) dX6_copy_175 rfl) ?_
        refine ex_of (fun _ _ => ev_ialoadI (pc' := 177) dX6_copy_176 rfl hw.a5 (by decide) (by omega)) ?_
        refine xst_5 (pc' := 178) dX6_copy_177 rfl hw fr (by omega) (fun h hw fr => ?_)
        refine ex_of (fun _ _ => ev_iincI_6 (pc' := 181) dX6_copy_178 rfl (by decide) rfl) ?_
        refine ex_of (fun _ _ => ev_goto (tgt := 122) dX6_copy_181 (by decide)) ?_
        rw [upA_s, upA_2] at hw
        first | rw [if_pos (show j < i by omega)] at es | rw [if_neg (show ¬ j < i by omega)] at es
        rw [es] at hw
        exact ih (m + 1) _ _ (by omega) hw fr
theorem e6_copy {d i e j n : Int} (hw : MW h o A) (hS : mSh A) (rd : -2147483648 ≤ d ∧ d < 2147483648) (ri : -2147483648 ≤ i ∧ i < 2147483648) (re : -2147483648 ≤ e ∧ e < 2147483648) (rj : -2147483648 ≤ j ∧ j < 2147483648) (rn : -2147483648 ≤ n ∧ n < 2147483648) : Ex l 2 yX6_copy.cls yX6_copy.name cX6_copy 8 (some .int) 0 [some (.ref 34), some (.int (iI d)), some (.int (iI i)), some (.int (iI e)), some (.int (iI j)), some (.int (iI n)), none, none] [] h (uP h o A (cyA A d i e j n) (cyB A d i e j n) (some (.int (iI (cyE A d i e j n)))) (some (.int (iI (cyE A d i e j n))))) := by
  have fr := FrM.rf h
  by_cases hde : (0 ≤ d ∧ d < 8) ∧ (0 ≤ e ∧ e < 8)
  · obtain ⟨s1, s2, s3, s4, s5⟩ := hS.1 d hde.1.1 hde.1.2
    obtain ⟨r1, r2, r3, r4, r5⟩ := hS.1 e hde.2.1 hde.2.2
    refine ex_of (fun _ _ => ev_iload_n (pc' := 1) dX6_copy_0 rfl rfl) ?_
    refine ex_of (fun _ _ => ev_callS1 (pc' := 4) kX6_90 mX6_isShelf dX6_copy_1 rfl rfl (Nat.le_of_ble_eq_true rfl) (Nat.le_of_ble_eq_true rfl) (by decide) (e6_isShelf (by omega))) ?_
    refine ex_ifd_eq (pc' := 7) (tgt := 14) dX6_copy_4 (by decide) rfl (fun c4 => ?_) (fun c4 => ?_)
    · refine ex_of (fun _ _ => ev_iconst (pc' := 15) (iI (-1)) dX6_copy_14 rfl (by decide)) ?_
      exact ex_end (ev_iret dX6_copy_15 rfl) (by have ee : cyE A d i e j n = -1 := (by unfold cyE; (repeat (first | rw [if_pos (by omega)] | rw [if_neg (by omega)]))); rw [ee]; exact uP_f (by unfold cyB; rw [ee]; decide) hw fr)
    · refine ex_of (fun _ _ => ev_iload_n (pc' := 8) dX6_copy_7 rfl rfl) ?_
      refine ex_of (fun _ _ => ev_callS1 (pc' := 11) kX6_90 mX6_isShelf dX6_copy_8 rfl rfl (Nat.le_of_ble_eq_true rfl) (Nat.le_of_ble_eq_true rfl) (by decide) (e6_isShelf (by omega))) ?_
      refine ex_ifd_ne (pc' := 14) (tgt := 16) dX6_copy_11 (by decide) rfl (fun c11 => ?_) (fun c11 => ?_)
      · refine ex_of (fun _ _ => ev_aload_n (pc' := 17) dX6_copy_16 rfl rfl) ?_
        refine ex_of (fun _ _ => ev_getfield (pc' := 20) fX6_16 dX6_copy_17 rfl hw.o rfl) ?_
        refine ex_of (fun _ _ => ev_iload_n (pc' := 21) dX6_copy_20 rfl rfl) ?_
        refine ex_of (fun _ _ => ev_ialoadI (pc' := 22) dX6_copy_21 rfl hw.a2 (by decide) (by omega)) ?_
        refine ex_ifI_eq (pc' := 25) (tgt := 34) dX6_copy_22 (by decide) rfl (by omega) (fun c22 => ?_) (fun c22 => ?_)
        · refine ex_of (fun _ _ => ev_bipush (pc' := 36) (iI (-11)) dX6_copy_34 rfl (by decide)) ?_
          exact ex_end (ev_iret dX6_copy_36 rfl) (by have ee : cyE A d i e j n = -11 := (by unfold cyE; (repeat (first | rw [if_pos (by omega)] | rw [if_neg (by omega)]))); rw [ee]; exact uP_f (by unfold cyB; rw [ee]; decide) hw fr)
        · refine ex_of (fun _ _ => ev_aload_n (pc' := 26) dX6_copy_25 rfl rfl) ?_
          refine ex_of (fun _ _ => ev_getfield (pc' := 29) fX6_16 dX6_copy_26 rfl hw.o rfl) ?_
          refine ex_of (fun _ _ => ev_iload_n (pc' := 30) dX6_copy_29 rfl rfl) ?_
          refine ex_of (fun _ _ => ev_ialoadI (pc' := 31) dX6_copy_30 rfl hw.a2 (by decide) (by omega)) ?_
          refine ex_ifI_ne (pc' := 34) (tgt := 37) dX6_copy_31 (by decide) rfl (by omega) (fun c31 => ?_) (fun c31 => ?_)
          · refine ex_of (fun _ _ => ev_aload_n (pc' := 38) dX6_copy_37 rfl rfl) ?_
            refine ex_of (fun _ _ => ev_getfield (pc' := 41) fX6_16 dX6_copy_38 rfl hw.o rfl) ?_
            refine ex_of (fun _ _ => ev_iload_n (pc' := 42) dX6_copy_41 rfl rfl) ?_
            refine ex_of (fun _ _ => ev_ialoadI (pc' := 43) dX6_copy_42 rfl hw.a2 (by decide) (by omega)) ?_
            refine ex_of (fun _ _ => ev_iconst (pc' := 44) (iI (2)) dX6_copy_43 rfl (by decide)) ?_
            refine ex_icmpI_ne (pc' := 47) (tgt := 72) dX6_copy_44 (by decide) rfl (by omega) (by omega) (fun c44 => ?_) (fun c44 => ?_)
            · refine ex_of (fun _ _ => ev_bipush (pc' := 74) (iI (-12)) dX6_copy_72 rfl (by decide)) ?_
              exact ex_end (ev_iret dX6_copy_74 rfl) (by have ee : cyE A d i e j n = -12 := (by unfold cyE; (repeat (first | rw [if_pos (by omega)] | rw [if_neg (by omega)]))); rw [ee]; exact uP_f (by unfold cyB; rw [ee]; decide) hw fr)
            · refine ex_of (fun _ _ => ev_aload_n (pc' := 48) dX6_copy_47 rfl rfl) ?_
              refine ex_of (fun _ _ => ev_getfield (pc' := 51) fX6_16 dX6_copy_48 rfl hw.o rfl) ?_
              refine ex_of (fun _ _ => ev_iload_n (pc' := 52) dX6_copy_51 rfl rfl) ?_
              refine ex_of (fun _ _ => ev_ialoadI (pc' := 53) dX6_copy_52 rfl hw.a2 (by decide) (by omega)) ?_
              refine ex_of (fun _ _ => ev_iconst (pc' := 54) (iI (2)) dX6_copy_53 rfl (by decide)) ?_
              refine ex_icmpI_ne (pc' := 57) (tgt := 72) dX6_copy_54 (by decide) rfl (by omega) (by omega) (fun c54 => ?_) (fun c54 => ?_)
              · refine ex_of (fun _ _ => ev_bipush (pc' := 74) (iI (-12)) dX6_copy_72 rfl (by decide)) ?_
                exact ex_end (ev_iret dX6_copy_74 rfl) (by have ee : cyE A d i e j n = -12 := (by unfold cyE; (repeat (first | rw [if_pos (by omega)] | rw [if_neg (by omega)]))); rw [ee]; exact uP_f (by unfold cyB; rw [ee]; decide) hw fr)
              · refine ex_of (fun _ _ => ev_aload_n (pc' := 58) dX6_copy_57 rfl rfl) ?_
                refine ex_of (fun _ _ => ev_getfield (pc' := 61) fX6_19 dX6_copy_58 rfl hw.o rfl) ?_
                refine ex_of (fun _ _ => ev_iload_n (pc' := 62) dX6_copy_61 rfl rfl) ?_
                refine ex_of (fun _ _ => ev_ialoadI (pc' := 63) dX6_copy_62 rfl hw.a3 (by decide) (by omega)) ?_
                refine ex_of (fun _ _ => ev_aload_n (pc' := 64) dX6_copy_63 rfl rfl) ?_
                refine ex_of (fun _ _ => ev_getfield (pc' := 67) fX6_19 dX6_copy_64 rfl hw.o rfl) ?_
                refine ex_of (fun _ _ => ev_iload_n (pc' := 68) dX6_copy_67 rfl rfl) ?_
                refine ex_of (fun _ _ => ev_ialoadI (pc' := 69) dX6_copy_68 rfl hw.a3 (by decide) (by omega)) ?_
                refine ex_icmpI_eq (pc' := 72) (tgt := 75) dX6_copy_69 (by decide) rfl (by omega) (by omega) (fun c69 => ?_) (fun c69 => ?_)
                · refine ex_of (fun _ _ => ev_iload (pc' := 77) dX6_copy_75 rfl rfl) ?_
                  refine ex_ifI_lt (pc' := 80) (tgt := 116) dX6_copy_77 (by decide) rfl (by omega) (fun c77 => ?_) (fun c77 => ?_)
                  · refine ex_of (fun _ _ => ev_bipush (pc' := 118) (iI (-13)) dX6_copy_116 rfl (by decide)) ?_
                    exact ex_end (ev_iret dX6_copy_118 rfl) (by have ee : cyE A d i e j n = -13 := (by unfold cyE; (repeat (first | rw [if_pos (by omega)] | rw [if_neg (by omega)]))); rw [ee]; exact uP_f (by unfold cyB; rw [ee]; decide) hw fr)
                  · refine ex_of (fun _ _ => ev_iload_n (pc' := 81) dX6_copy_80 rfl rfl) ?_
                    refine ex_ifI_lt (pc' := 84) (tgt := 116) dX6_copy_81 (by decide) rfl (by omega) (fun c81 => ?_) (fun c81 => ?_)
                    · refine ex_of (fun _ _ => ev_bipush (pc' := 118) (iI (-13)) dX6_copy_116 rfl (by decide)) ?_
                      exact ex_end (ev_iret dX6_copy_118 rfl) (by have ee : cyE A d i e j n = -13 := (by unfold cyE; (repeat (first | rw [if_pos (by omega)] | rw [if_neg (by omega)]))); rw [ee]; exact uP_f (by unfold cyB; rw [ee]; decide) hw fr)
                    · refine ex_of (fun _ _ => ev_iload (pc' := 86) dX6_copy_84 rfl rfl) ?_
                      refine ex_ifI_lt (pc' := 89) (tgt := 116) dX6_copy_86 (by decide) rfl (by omega) (fun c86 => ?_) (fun c86 => ?_)
                      · refine ex_of (fun _ _ => ev_bipush (pc' := 118) (iI (-13)) dX6_copy_116 rfl (by decide)) ?_
                        exact ex_end (ev_iret dX6_copy_118 rfl) (by have ee : cyE A d i e j n = -13 := (by unfold cyE; (repeat (first | rw [if_pos (by omega)] | rw [if_neg (by omega)]))); rw [ee]; exact uP_f (by unfold cyB; rw [ee]; decide) hw fr)
                      · refine ex_of (fun _ _ => ev_iload (pc' := 91) dX6_copy_89 rfl rfl) ?_
                        refine ex_of (fun _ _ => ev_aload_n (pc' := 92) dX6_copy_91 rfl rfl) ?_
                        refine ex_of (fun _ _ => ev_getfield (pc' := 95) fX6_22 dX6_copy_92 rfl hw.o rfl) ?_
                        refine ex_of (fun _ _ => ev_iload_n (pc' := 96) dX6_copy_95 rfl rfl) ?_
                        refine ex_of (fun _ _ => ev_ialoadI (pc' := 97) dX6_copy_96 rfl hw.a4 (by decide) (by omega)) ?_
                        refine ex_of (fun _ _ => ev_iload_n (pc' := 98) dX6_copy_97 rfl rfl) ?_
                        refine ex_of (fun _ _ => ev_isubI (pc' := 99) dX6_copy_98 rfl) ?_
                        refine ex_icmpI_gt (pc' := 102) (tgt := 116) dX6_copy_99 (by decide) rfl (by omega) (by omega) (fun c99 => ?_) (fun c99 => ?_)
                        · refine ex_of (fun _ _ => ev_bipush (pc' := 118) (iI (-13)) dX6_copy_116 rfl (by decide)) ?_
                          exact ex_end (ev_iret dX6_copy_118 rfl) (by have ee : cyE A d i e j n = -13 := (by unfold cyE; (repeat (first | rw [if_pos (by omega)] | rw [if_neg (by omega)]))); rw [ee]; exact uP_f (by unfold cyB; rw [ee]; decide) hw fr)
                        · refine ex_of (fun _ _ => ev_iload (pc' := 104) dX6_copy_102 rfl rfl) ?_
                          refine ex_of (fun _ _ => ev_aload_n (pc' := 105) dX6_copy_104 rfl rfl) ?_
                          refine ex_of (fun _ _ => ev_getfield (pc' := 108) fX6_22 dX6_copy_105 rfl hw.o rfl) ?_
                          refine ex_of (fun _ _ => ev_iload_n (pc' := 109) dX6_copy_108 rfl rfl) ?_
                          refine ex_of (fun _ _ => ev_ialoadI (pc' := 110) dX6_copy_109 rfl hw.a4 (by decide) (by omega)) ?_
                          refine ex_of (fun _ _ => ev_iload (pc' := 112) dX6_copy_110 rfl rfl) ?_
                          refine ex_of (fun _ _ => ev_isubI (pc' := 113) dX6_copy_112 rfl) ?_
                          refine ex_icmpI_le (pc' := 116) (tgt := 119) dX6_copy_113 (by decide) rfl (by omega) (by omega) (fun c113 => ?_) (fun c113 => ?_)
                          · refine ex_of (fun _ _ => ev_iconst (pc' := 120) (iI (0)) dX6_copy_119 rfl (by decide)) ?_
                            refine ex_of (fun _ _ => ev_istore_6 (pc' := 122) dX6_copy_120 rfl (by decide) rfl) ?_
                            have ee : cyE A d i e j n = n := by unfold cyE; (repeat (first | rw [if_pos (by omega)] | rw [if_neg (by omega)]))
                            rw [ee]
                            have hw5 := hw
                            rw [show A = upA A 5 (cpF (A 5) i j (100 * d + i) (100 * e + j) n (0 : Nat)) by rw [show (((0 : Nat) : Int)) = 0 from rfl, cpF_0, upA_id]] at hw5
                            refine Ex.mono (e6_cpyL (l := l) (by omega) (by omega) (by omega) (by omega) n.toNat 0 none _ (by omega) hw5 fr) (fun v h2 q => ?_)
                            obtain ⟨q1, q2, q3⟩ := q
                            subst q1
                            exact uP_t (by unfold cyB; rw [ee]; exact decide_eq_true (by omega)) q2 q3
                          · refine ex_of (fun _ _ => ev_bipush (pc' := 118) (iI (-13)) dX6_copy_116 rfl (by decide)) ?_
                            exact ex_end (ev_iret dX6_copy_118 rfl) (by have ee : cyE A d i e j n = -13 := (by unfold cyE; (repeat (first | rw [if_pos (by omega)] | rw [if_neg (by omega)]))); rw [ee]; exact uP_f (by unfold cyB; rw [ee]; decide) hw fr)
                · refine ex_of (fun _ _ => ev_bipush (pc' := 74) (iI (-12)) dX6_copy_72 rfl (by decide)) ?_
                  exact ex_end (ev_iret dX6_copy_74 rfl) (by have ee : cyE A d i e j n = -12 := (by unfold cyE; (repeat (first | rw [if_pos (by omega)] | rw [if_neg (by omega)]))); rw [ee]; exact uP_f (by unfold cyB; rw [ee]; decide) hw fr)
          · refine ex_of (fun _ _ => ev_bipush (pc' := 36) (iI (-11)) dX6_copy_34 rfl (by decide)) ?_
            exact ex_end (ev_iret dX6_copy_36 rfl) (by have ee : cyE A d i e j n = -11 := (by unfold cyE; (repeat (first | rw [if_pos (by omega)] | rw [if_neg (by omega)]))); rw [ee]; exact uP_f (by unfold cyB; rw [ee]; decide) hw fr)
      · refine ex_of (fun _ _ => ev_iconst (pc' := 15) (iI (-1)) dX6_copy_14 rfl (by decide)) ?_
        exact ex_end (ev_iret dX6_copy_15 rfl) (by have ee : cyE A d i e j n = -1 := (by unfold cyE; (repeat (first | rw [if_pos (by omega)] | rw [if_neg (by omega)]))); rw [ee]; exact uP_f (by unfold cyB; rw [ee]; decide) hw fr)
  · skip
    refine ex_of (fun _ _ => ev_iload_n (pc' := 1) dX6_copy_0 rfl rfl) ?_
    refine ex_of (fun _ _ => ev_callS1 (pc' := 4) kX6_90 mX6_isShelf dX6_copy_1 rfl rfl (Nat.le_of_ble_eq_true rfl) (Nat.le_of_ble_eq_true rfl) (by decide) (e6_isShelf (by omega))) ?_
    refine ex_ifd_eq (pc' := 7) (tgt := 14) dX6_copy_4 (by decide) rfl (fun c4 => ?_) (fun c4 => ?_)
    · refine ex_of (fun _ _ => ev_iconst (pc' := 15) (iI (-1)) dX6_copy_14 rfl (by decide)) ?_
      exact ex_end (ev_iret dX6_copy_15 rfl) (by have ee : cyE A d i e j n = -1 := (by unfold cyE; (repeat (first | rw [if_pos (by omega)] | rw [if_neg (by omega)]))); rw [ee]; exact uP_f (by unfold cyB; rw [ee]; decide) hw fr)
    · refine ex_of (fun _ _ => ev_iload_n (pc' := 8) dX6_copy_7 rfl rfl) ?_
      refine ex_of (fun _ _ => ev_callS1 (pc' := 11) kX6_90 mX6_isShelf dX6_copy_8 rfl rfl (Nat.le_of_ble_eq_true rfl) (Nat.le_of_ble_eq_true rfl) (by decide) (e6_isShelf (by omega))) ?_
      refine ex_ifd_ne (pc' := 14) (tgt := 16) dX6_copy_11 (by decide) rfl (fun c11 => ?_) (fun c11 => ?_)
      · omega
      · refine ex_of (fun _ _ => ev_iconst (pc' := 15) (iI (-1)) dX6_copy_14 rfl (by decide)) ?_
        exact ex_end (ev_iret dX6_copy_15 rfl) (by have ee : cyE A d i e j n = -1 := (by unfold cyE; (repeat (first | rw [if_pos (by omega)] | rw [if_neg (by omega)]))); rw [ee]; exact uP_f (by unfold cyB; rw [ee]; decide) hw fr)
end ML
