section IN2
variable {l : Launch}
/-- the shelves' tags, k of them made -/
def shF (k : Nat) : Nat → Option Nat := fun i => if i < k then some (18 + 2 * i) else none
theorem shF_0 : shF 0 = fun _ => none := by funext i; unfold shF; rw [if_neg (by omega)]
theorem shF_s (k : Nat) : va_up (shF k) k (some (18 + 2 * k)) = shF (k + 1) := by
  funext i
  unfold va_up shF
  by_cases e : i = k
  · rw [if_pos e, if_pos (by omega), e]
  · rw [if_neg e]
    by_cases q : i < k
    · rw [if_pos q, if_pos (by omega)]
    · rw [if_neg q, if_neg (by omega)]

def cH0 : ev_H := [.inr (5, [.ref 1, .ref 8, .int (iI 0), .ref 15, .ref 16, .ref 17]), cWo 0 0 180 2 3 4 5 6 7, mA 10 (fun _ => 0), mA 10 (fun _ => 0), mA 10 (fun _ => 0), mA 10 (fun _ => 0), mA 100 (fun _ => 0), cRf 4 8 (fun _ => none), cWo 0 0 180 9 10 11 12 13 14, mA 10 (fun _ => 0), mA 10 (fun _ => 0), mA 10 (fun _ => 0), mA 10 (fun _ => 0), mA 100 (fun _ => 0), cRf 4 8 (fun _ => none), cRf 3 8 (shF 8), cSp (-4) 0 0 0 0 1, cRd .null 0 0 0 0 0 0 0 0, cSh .null 0 0 0 19, mA 100 (fun _ => 0), cSh .null 0 0 0 21, mA 100 (fun _ => 0), cSh .null 0 0 0 23, mA 100 (fun _ => 0), cSh .null 0 0 0 25, mA 100 (fun _ => 0), cSh .null 0 0 0 27, mA 100 (fun _ => 0), cSh .null 0 0 0 29, mA 100 (fun _ => 0), cSh .null 0 0 0 31, mA 100 (fun _ => 0), cSh .null 0 0 0 33, mA 100 (fun _ => 0)]
theorem e5_init : Ev l 2 yX5_init.cls yX5_init.name cX5_init 2 none 0 [some (.ref 0), none] [] [.inr (5, [.null, .null, .int 0, .null, .null, .null])] none cH0 := by
  unfold cH0
  refine ev_aload_n (pc' := 1) dX5_init_0 rfl rfl ?_
  refine ev_objinit (pc' := 4) oX5_3 dX5_init_1 rfl (by decide) (Nat.le_of_ble_eq_true rfl) ?_
  refine ev_aload_n (pc' := 5) dX5_init_4 rfl rfl ?_
  refine ev_new (pc' := 8) nwX5_9 dX5_init_5 rfl ?_
  refine ev_dup (pc' := 9) dX5_init_8 rfl rfl ?_
  refine ev_callI0v (pc' := 12) kX5_11 mX4_init dX5_init_9 rfl rfl (Nat.le_of_ble_eq_true rfl) (Nat.le_of_ble_eq_true rfl) (by decide) (e4_init (g := [.inr (5, [.null, .null, .int 0, .null, .null, .null])])) ?_
  refine ev_hh (h := [.inr (5, [.null, .null, .int 0, .null, .null, .null]), cWo 0 0 180 2 3 4 5 6 7, mA 10 (fun _ => 0), mA 10 (fun _ => 0), mA 10 (fun _ => 0), mA 10 (fun _ => 0), mA 100 (fun _ => 0), cRf 4 8 (fun _ => none)]) rfl ?_
  refine ev_ss (st := [.ref 1, .ref 0]) rfl ?_
  refine ev_putfield (pc' := 15) pX5_12 dX5_init_12 rfl rfl rfl rfl (Nat.le_of_ble_eq_true rfl) ?_
  refine ev_hh (h := [.inr (5, [.ref 1, .null, .int 0, .null, .null, .null]), cWo 0 0 180 2 3 4 5 6 7, mA 10 (fun _ => 0), mA 10 (fun _ => 0), mA 10 (fun _ => 0), mA 10 (fun _ => 0), mA 100 (fun _ => 0), cRf 4 8 (fun _ => none)]) rfl ?_
  refine ev_ss (st := []) rfl ?_
  refine ev_aload_n (pc' := 16) dX5_init_15 rfl rfl ?_
  refine ev_new (pc' := 19) nwX5_9 dX5_init_16 rfl ?_
  refine ev_dup (pc' := 20) dX5_init_19 rfl rfl ?_
  refine ev_callI0v (pc' := 23) kX5_11 mX4_init dX5_init_20 rfl rfl (Nat.le_of_ble_eq_true rfl) (Nat.le_of_ble_eq_true rfl) (by decide) (e4_init (g := [.inr (5, [.ref 1, .null, .int 0, .null, .null, .null]), cWo 0 0 180 2 3 4 5 6 7, mA 10 (fun _ => 0), mA 10 (fun _ => 0), mA 10 (fun _ => 0), mA 10 (fun _ => 0), mA 100 (fun _ => 0), cRf 4 8 (fun _ => none)])) ?_
  refine ev_hh (h := [.inr (5, [.ref 1, .null, .int 0, .null, .null, .null]), cWo 0 0 180 2 3 4 5 6 7, mA 10 (fun _ => 0), mA 10 (fun _ => 0), mA 10 (fun _ => 0), mA 10 (fun _ => 0), mA 100 (fun _ => 0), cRf 4 8 (fun _ => none), cWo 0 0 180 9 10 11 12 13 14, mA 10 (fun _ => 0), mA 10 (fun _ => 0), mA 10 (fun _ => 0), mA 10 (fun _ => 0), mA 100 (fun _ => 0), cRf 4 8 (fun _ => none)]) rfl ?_
  refine ev_ss (st := [.ref 8, .ref 0]) rfl ?_
  refine ev_putfield (pc' := 26) pX5_16 dX5_init_23 rfl rfl rfl rfl (Nat.le_of_ble_eq_true rfl) ?_
  refine ev_hh (h := [.inr (5, [.ref 1, .ref 8, .int 0, .null, .null, .null]), cWo 0 0 180 2 3 4 5 6 7, mA 10 (fun _ => 0), mA 10 (fun _ => 0), mA 10 (fun _ => 0), mA 10 (fun _ => 0), mA 100 (fun _ => 0), cRf 4 8 (fun _ => none), cWo 0 0 180 9 10 11 12 13 14, mA 10 (fun _ => 0), mA 10 (fun _ => 0), mA 10 (fun _ => 0), mA 10 (fun _ => 0), mA 100 (fun _ => 0), cRf 4 8 (fun _ => none)]) rfl ?_
  refine ev_ss (st := []) rfl ?_
  refine ev_aload_n (pc' := 27) dX5_init_26 rfl rfl ?_
  refine ev_iconst (pc' := 28) (iI (0)) dX5_init_27 rfl (by decide) ?_
  refine ev_putfield (pc' := 31) (pX5_19 _) dX5_init_28 rfl rfl rfl rfl (Nat.le_of_ble_eq_true rfl) ?_
  refine ev_hh (h := [.inr (5, [.ref 1, .ref 8, .int (iI 0), .null, .null, .null]), cWo 0 0 180 2 3 4 5 6 7, mA 10 (fun _ => 0), mA 10 (fun _ => 0), mA 10 (fun _ => 0), mA 10 (fun _ => 0), mA 100 (fun _ => 0), cRf 4 8 (fun _ => none), cWo 0 0 180 9 10 11 12 13 14, mA 10 (fun _ => 0), mA 10 (fun _ => 0), mA 10 (fun _ => 0), mA 10 (fun _ => 0), mA 100 (fun _ => 0), cRf 4 8 (fun _ => none)]) rfl ?_
  refine ev_ss (st := []) rfl ?_
  refine ev_aload_n (pc' := 32) dX5_init_31 rfl rfl ?_
  refine ev_bipush (pc' := 34) (iI (8)) dX5_init_32 rfl (by decide) ?_
  refine ev_newA (pc' := 37) (N := 8) (Or.inl ⟨rfl, rfl⟩) lX5_23 dX5_init_34 rfl (by decide) (by decide) (by decide) ?_
  refine ev_hh (h := [.inr (5, [.ref 1, .ref 8, .int (iI 0), .null, .null, .null]), cWo 0 0 180 2 3 4 5 6 7, mA 10 (fun _ => 0), mA 10 (fun _ => 0), mA 10 (fun _ => 0), mA 10 (fun _ => 0), mA 100 (fun _ => 0), cRf 4 8 (fun _ => none), cWo 0 0 180 9 10 11 12 13 14, mA 10 (fun _ => 0), mA 10 (fun _ => 0), mA 10 (fun _ => 0), mA 10 (fun _ => 0), mA 100 (fun _ => 0), cRf 4 8 (fun _ => none), cRf 3 8 (shF 0)]) (by rw [shF_0]; rfl) ?_
  refine ev_ss (st := [.ref 15, .ref 0]) rfl ?_
  refine ev_putfield (pc' := 40) pX5_25 dX5_init_37 rfl rfl rfl rfl (Nat.le_of_ble_eq_true rfl) ?_
  refine ev_hh (h := [.inr (5, [.ref 1, .ref 8, .int (iI 0), .ref 15, .null, .null]), cWo 0 0 180 2 3 4 5 6 7, mA 10 (fun _ => 0), mA 10 (fun _ => 0), mA 10 (fun _ => 0), mA 10 (fun _ => 0), mA 100 (fun _ => 0), cRf 4 8 (fun _ => none), cWo 0 0 180 9 10 11 12 13 14, mA 10 (fun _ => 0), mA 10 (fun _ => 0), mA 10 (fun _ => 0), mA 10 (fun _ => 0), mA 100 (fun _ => 0), cRf 4 8 (fun _ => none), cRf 3 8 (shF 0)]) rfl ?_
  refine ev_ss (st := []) rfl ?_
  refine ev_aload_n (pc' := 41) dX5_init_40 rfl rfl ?_
  refine ev_new (pc' := 44) nwX5_29 dX5_init_41 rfl ?_
  refine ev_dup (pc' := 45) dX5_init_44 rfl rfl ?_
  refine ev_callI0v (pc' := 48) kX5_31 mX2_init dX5_init_45 rfl rfl (Nat.le_of_ble_eq_true rfl) (Nat.le_of_ble_eq_true rfl) (by decide) (e2_init (g := [.inr (5, [.ref 1, .ref 8, .int (iI 0), .ref 15, .null, .null]), cWo 0 0 180 2 3 4 5 6 7, mA 10 (fun _ => 0), mA 10 (fun _ => 0), mA 10 (fun _ => 0), mA 10 (fun _ => 0), mA 100 (fun _ => 0), cRf 4 8 (fun _ => none), cWo 0 0 180 9 10 11 12 13 14, mA 10 (fun _ => 0), mA 10 (fun _ => 0), mA 10 (fun _ => 0), mA 10 (fun _ => 0), mA 100 (fun _ => 0), cRf 4 8 (fun _ => none), cRf 3 8 (shF 0)])) ?_
  refine ev_hh (h := [.inr (5, [.ref 1, .ref 8, .int (iI 0), .ref 15, .null, .null]), cWo 0 0 180 2 3 4 5 6 7, mA 10 (fun _ => 0), mA 10 (fun _ => 0), mA 10 (fun _ => 0), mA 10 (fun _ => 0), mA 100 (fun _ => 0), cRf 4 8 (fun _ => none), cWo 0 0 180 9 10 11 12 13 14, mA 10 (fun _ => 0), mA 10 (fun _ => 0), mA 10 (fun _ => 0), mA 10 (fun _ => 0), mA 100 (fun _ => 0), cRf 4 8 (fun _ => none), cRf 3 8 (shF 0), cSp (-4) 0 0 0 0 1]) rfl ?_
  refine ev_ss (st := [.ref 16, .ref 0]) rfl ?_
  refine ev_putfield (pc' := 51) pX5_32 dX5_init_48 rfl rfl rfl rfl (Nat.le_of_ble_eq_true rfl) ?_
  refine ev_hh (h := [.inr (5, [.ref 1, .ref 8, .int (iI 0), .ref 15, .ref 16, .null]), cWo 0 0 180 2 3 4 5 6 7, mA 10 (fun _ => 0), mA 10 (fun _ => 0), mA 10 (fun _ => 0), mA 10 (fun _ => 0), mA 100 (fun _ => 0), cRf 4 8 (fun _ => none), cWo 0 0 180 9 10 11 12 13 14, mA 10 (fun _ => 0), mA 10 (fun _ => 0), mA 10 (fun _ => 0), mA 10 (fun _ => 0), mA 100 (fun _ => 0), cRf 4 8 (fun _ => none), cRf 3 8 (shF 0), cSp (-4) 0 0 0 0 1]) rfl ?_
  refine ev_ss (st := []) rfl ?_
  refine ev_aload_n (pc' := 52) dX5_init_51 rfl rfl ?_
  refine ev_new (pc' := 55) nwX5_36 dX5_init_52 rfl ?_
  refine ev_dup (pc' := 56) dX5_init_55 rfl rfl ?_
  refine ev_callI0v (pc' := 59) kX5_38 mX0_init dX5_init_56 rfl rfl (Nat.le_of_ble_eq_true rfl) (Nat.le_of_ble_eq_true rfl) (by decide) (e0_init (g := [.inr (5, [.ref 1, .ref 8, .int (iI 0), .ref 15, .ref 16, .null]), cWo 0 0 180 2 3 4 5 6 7, mA 10 (fun _ => 0), mA 10 (fun _ => 0), mA 10 (fun _ => 0), mA 10 (fun _ => 0), mA 100 (fun _ => 0), cRf 4 8 (fun _ => none), cWo 0 0 180 9 10 11 12 13 14, mA 10 (fun _ => 0), mA 10 (fun _ => 0), mA 10 (fun _ => 0), mA 10 (fun _ => 0), mA 100 (fun _ => 0), cRf 4 8 (fun _ => none), cRf 3 8 (shF 0), cSp (-4) 0 0 0 0 1])) ?_
  refine ev_hh (h := [.inr (5, [.ref 1, .ref 8, .int (iI 0), .ref 15, .ref 16, .null]), cWo 0 0 180 2 3 4 5 6 7, mA 10 (fun _ => 0), mA 10 (fun _ => 0), mA 10 (fun _ => 0), mA 10 (fun _ => 0), mA 100 (fun _ => 0), cRf 4 8 (fun _ => none), cWo 0 0 180 9 10 11 12 13 14, mA 10 (fun _ => 0), mA 10 (fun _ => 0), mA 10 (fun _ => 0), mA 10 (fun _ => 0), mA 100 (fun _ => 0), cRf 4 8 (fun _ => none), cRf 3 8 (shF 0), cSp (-4) 0 0 0 0 1, cRd .null 0 0 0 0 0 0 0 0]) rfl ?_
  refine ev_ss (st := [.ref 17, .ref 0]) rfl ?_
  refine ev_putfield (pc' := 62) pX5_39 dX5_init_59 rfl rfl rfl rfl (Nat.le_of_ble_eq_true rfl) ?_
  refine ev_hh (h := [.inr (5, [.ref 1, .ref 8, .int (iI 0), .ref 15, .ref 16, .ref 17]), cWo 0 0 180 2 3 4 5 6 7, mA 10 (fun _ => 0), mA 10 (fun _ => 0), mA 10 (fun _ => 0), mA 10 (fun _ => 0), mA 100 (fun _ => 0), cRf 4 8 (fun _ => none), cWo 0 0 180 9 10 11 12 13 14, mA 10 (fun _ => 0), mA 10 (fun _ => 0), mA 10 (fun _ => 0), mA 10 (fun _ => 0), mA 100 (fun _ => 0), cRf 4 8 (fun _ => none), cRf 3 8 (shF 0), cSp (-4) 0 0 0 0 1, cRd .null 0 0 0 0 0 0 0 0]) rfl ?_
  refine ev_ss (st := []) rfl ?_
  refine ev_iconst (pc' := 63) (iI (0)) dX5_init_62 rfl (by decide) ?_
  refine ev_istore_1 (pc' := 64) dX5_init_63 rfl (by decide) rfl ?_
  refine ev_iload_n (pc' := 65) dX5_init_64 rfl rfl ?_
  refine ev_bipush (pc' := 67) (iI (8)) dX5_init_65 rfl (by decide) ?_
  refine ev_icmpI_ge (pc' := 70) (tgt := 89) dX5_init_67 (by decide) rfl (by omega) (by omega) (fun c67 => ?_) (fun c67 => ?_)
  · exact absurd c67 (by decide)
  · refine ev_aload_n (pc' := 71) dX5_init_70 rfl rfl ?_
    refine ev_getfield (pc' := 74) fX5_25 dX5_init_71 rfl rfl rfl ?_
    refine ev_iload_n (pc' := 75) dX5_init_74 rfl rfl ?_
    refine ev_new (pc' := 78) nwX5_23 dX5_init_75 rfl ?_
    refine ev_dup (pc' := 79) dX5_init_78 rfl rfl ?_
    refine ev_callI0v (pc' := 82) kX5_43 mX1_init dX5_init_79 rfl rfl (Nat.le_of_ble_eq_true rfl) (Nat.le_of_ble_eq_true rfl) (by decide) (e1_init (g := [.inr (5, [.ref 1, .ref 8, .int (iI 0), .ref 15, .ref 16, .ref 17]), cWo 0 0 180 2 3 4 5 6 7, mA 10 (fun _ => 0), mA 10 (fun _ => 0), mA 10 (fun _ => 0), mA 10 (fun _ => 0), mA 100 (fun _ => 0), cRf 4 8 (fun _ => none), cWo 0 0 180 9 10 11 12 13 14, mA 10 (fun _ => 0), mA 10 (fun _ => 0), mA 10 (fun _ => 0), mA 10 (fun _ => 0), mA 100 (fun _ => 0), cRf 4 8 (fun _ => none), cRf 3 8 (shF 0), cSp (-4) 0 0 0 0 1, cRd .null 0 0 0 0 0 0 0 0])) ?_
    refine ev_hh (h := [.inr (5, [.ref 1, .ref 8, .int (iI 0), .ref 15, .ref 16, .ref 17]), cWo 0 0 180 2 3 4 5 6 7, mA 10 (fun _ => 0), mA 10 (fun _ => 0), mA 10 (fun _ => 0), mA 10 (fun _ => 0), mA 100 (fun _ => 0), cRf 4 8 (fun _ => none), cWo 0 0 180 9 10 11 12 13 14, mA 10 (fun _ => 0), mA 10 (fun _ => 0), mA 10 (fun _ => 0), mA 10 (fun _ => 0), mA 100 (fun _ => 0), cRf 4 8 (fun _ => none), cRf 3 8 (shF 0), cSp (-4) 0 0 0 0 1, cRd .null 0 0 0 0 0 0 0 0, cSh .null 0 0 0 19, mA 100 (fun _ => 0)]) rfl ?_
    refine ev_ss (st := [.ref 18, .int (iI (0)), .ref 15]) rfl ?_
    refine ev_aastore (pc' := 83) (Or.inl ⟨rfl, rfl⟩) dX5_init_82 rfl rfl rfl (iI_in (by decide) (by decide)) ?_
    refine ev_hh (h := [.inr (5, [.ref 1, .ref 8, .int (iI 0), .ref 15, .ref 16, .ref 17]), cWo 0 0 180 2 3 4 5 6 7, mA 10 (fun _ => 0), mA 10 (fun _ => 0), mA 10 (fun _ => 0), mA 10 (fun _ => 0), mA 100 (fun _ => 0), cRf 4 8 (fun _ => none), cWo 0 0 180 9 10 11 12 13 14, mA 10 (fun _ => 0), mA 10 (fun _ => 0), mA 10 (fun _ => 0), mA 10 (fun _ => 0), mA 100 (fun _ => 0), cRf 4 8 (fun _ => none), cRf 3 8 (shF 1), cSp (-4) 0 0 0 0 1, cRd .null 0 0 0 0 0 0 0 0, cSh .null 0 0 0 19, mA 100 (fun _ => 0)]) (by rw [← shF_s 0]; rfl) ?_
    refine ev_iincI_1 (pc' := 86) dX5_init_83 rfl (by decide) rfl ?_
    refine ev_ll (lc := [some (.ref 0), some (.int (iI (1)))]) rfl ?_
    refine ev_goto (tgt := 64) dX5_init_86 (by decide) ?_
    refine ev_iload_n (pc' := 65) dX5_init_64 rfl rfl ?_
    refine ev_bipush (pc' := 67) (iI (8)) dX5_init_65 rfl (by decide) ?_
    refine ev_icmpI_ge (pc' := 70) (tgt := 89) dX5_init_67 (by decide) rfl (by omega) (by omega) (fun c67 => ?_) (fun c67 => ?_)
    · exact absurd c67 (by decide)
    · refine ev_aload_n (pc' := 71) dX5_init_70 rfl rfl ?_
      refine ev_getfield (pc' := 74) fX5_25 dX5_init_71 rfl rfl rfl ?_
      refine ev_iload_n (pc' := 75) dX5_init_74 rfl rfl ?_
      refine ev_new (pc' := 78) nwX5_23 dX5_init_75 rfl ?_
      refine ev_dup (pc' := 79) dX5_init_78 rfl rfl ?_
      refine ev_callI0v (pc' := 82) kX5_43 mX1_init dX5_init_79 rfl rfl (Nat.le_of_ble_eq_true rfl) (Nat.le_of_ble_eq_true rfl) (by decide) (e1_init (g := [.inr (5, [.ref 1, .ref 8, .int (iI 0), .ref 15, .ref 16, .ref 17]), cWo 0 0 180 2 3 4 5 6 7, mA 10 (fun _ => 0), mA 10 (fun _ => 0), mA 10 (fun _ => 0), mA 10 (fun _ => 0), mA 100 (fun _ => 0), cRf 4 8 (fun _ => none), cWo 0 0 180 9 10 11 12 13 14, mA 10 (fun _ => 0), mA 10 (fun _ => 0), mA 10 (fun _ => 0), mA 10 (fun _ => 0), mA 100 (fun _ => 0), cRf 4 8 (fun _ => none), cRf 3 8 (shF 1), cSp (-4) 0 0 0 0 1, cRd .null 0 0 0 0 0 0 0 0, cSh .null 0 0 0 19, mA 100 (fun _ => 0)])) ?_
      refine ev_hh (h := [.inr (5, [.ref 1, .ref 8, .int (iI 0), .ref 15, .ref 16, .ref 17]), cWo 0 0 180 2 3 4 5 6 7, mA 10 (fun _ => 0), mA 10 (fun _ => 0), mA 10 (fun _ => 0), mA 10 (fun _ => 0), mA 100 (fun _ => 0), cRf 4 8 (fun _ => none), cWo 0 0 180 9 10 11 12 13 14, mA 10 (fun _ => 0), mA 10 (fun _ => 0), mA 10 (fun _ => 0), mA 10 (fun _ => 0), mA 100 (fun _ => 0), cRf 4 8 (fun _ => none), cRf 3 8 (shF 1), cSp (-4) 0 0 0 0 1, cRd .null 0 0 0 0 0 0 0 0, cSh .null 0 0 0 19, mA 100 (fun _ => 0), cSh .null 0 0 0 21, mA 100 (fun _ => 0)]) rfl ?_
      refine ev_ss (st := [.ref 20, .int (iI (1)), .ref 15]) rfl ?_
      refine ev_aastore (pc' := 83) (Or.inl ⟨rfl, rfl⟩) dX5_init_82 rfl rfl rfl (iI_in (by decide) (by decide)) ?_
      refine ev_hh (h := [.inr (5, [.ref 1, .ref 8, .int (iI 0), .ref 15, .ref 16, .ref 17]), cWo 0 0 180 2 3 4 5 6 7, mA 10 (fun _ => 0), mA 10 (fun _ => 0), mA 10 (fun _ => 0), mA 10 (fun _ => 0), mA 100 (fun _ => 0), cRf 4 8 (fun _ => none), cWo 0 0 180 9 10 11 12 13 14, mA 10 (fun _ => 0), mA 10 (fun _ => 0), mA 10 (fun _ => 0), mA 10 (fun _ => 0), mA 100 (fun _ => 0), cRf 4 8 (fun _ => none), cRf 3 8 (shF 2), cSp (-4) 0 0 0 0 1, cRd .null 0 0 0 0 0 0 0 0, cSh .null 0 0 0 19, mA 100 (fun _ => 0), cSh .null 0 0 0 21, mA 100 (fun _ => 0)]) (by rw [← shF_s 1]; rfl) ?_
      refine ev_iincI_1 (pc' := 86) dX5_init_83 rfl (by decide) rfl ?_
      refine ev_ll (lc := [some (.ref 0), some (.int (iI (2)))]) rfl ?_
      refine ev_goto (tgt := 64) dX5_init_86 (by decide) ?_
      refine ev_iload_n (pc' := 65) dX5_init_64 rfl rfl ?_
      refine ev_bipush (pc' := 67) (iI (8)) dX5_init_65 rfl (by decide) ?_
      refine ev_icmpI_ge (pc' := 70) (tgt := 89) dX5_init_67 (by decide) rfl (by omega) (by omega) (fun c67 => ?_) (fun c67 => ?_)
      · exact absurd c67 (by decide)
      · refine ev_aload_n (pc' := 71) dX5_init_70 rfl rfl ?_
        refine ev_getfield (pc' := 74) fX5_25 dX5_init_71 rfl rfl rfl ?_
        refine ev_iload_n (pc' := 75) dX5_init_74 rfl rfl ?_
        refine ev_new (pc' := 78) nwX5_23 dX5_init_75 rfl ?_
        refine ev_dup (pc' := 79) dX5_init_78 rfl rfl ?_
        refine ev_callI0v (pc' := 82) kX5_43 mX1_init dX5_init_79 rfl rfl (Nat.le_of_ble_eq_true rfl) (Nat.le_of_ble_eq_true rfl) (by decide) (e1_init (g := [.inr (5, [.ref 1, .ref 8, .int (iI 0), .ref 15, .ref 16, .ref 17]), cWo 0 0 180 2 3 4 5 6 7, mA 10 (fun _ => 0), mA 10 (fun _ => 0), mA 10 (fun _ => 0), mA 10 (fun _ => 0), mA 100 (fun _ => 0), cRf 4 8 (fun _ => none), cWo 0 0 180 9 10 11 12 13 14, mA 10 (fun _ => 0), mA 10 (fun _ => 0), mA 10 (fun _ => 0), mA 10 (fun _ => 0), mA 100 (fun _ => 0), cRf 4 8 (fun _ => none), cRf 3 8 (shF 2), cSp (-4) 0 0 0 0 1, cRd .null 0 0 0 0 0 0 0 0, cSh .null 0 0 0 19, mA 100 (fun _ => 0), cSh .null 0 0 0 21, mA 100 (fun _ => 0)])) ?_
        refine ev_hh (h := [.inr (5, [.ref 1, .ref 8, .int (iI 0), .ref 15, .ref 16, .ref 17]), cWo 0 0 180 2 3 4 5 6 7, mA 10 (fun _ => 0), mA 10 (fun _ => 0), mA 10 (fun _ => 0), mA 10 (fun _ => 0), mA 100 (fun _ => 0), cRf 4 8 (fun _ => none), cWo 0 0 180 9 10 11 12 13 14, mA 10 (fun _ => 0), mA 10 (fun _ => 0), mA 10 (fun _ => 0), mA 10 (fun _ => 0), mA 100 (fun _ => 0), cRf 4 8 (fun _ => none), cRf 3 8 (shF 2), cSp (-4) 0 0 0 0 1, cRd .null 0 0 0 0 0 0 0 0, cSh .null 0 0 0 19, mA 100 (fun _ => 0), cSh .null 0 0 0 21, mA 100 (fun _ => 0), cSh .null 0 0 0 23, mA 100 (fun _ => 0)]) rfl ?_
        refine ev_ss (st := [.ref 22, .int (iI (2)), .ref 15]) rfl ?_
        refine ev_aastore (pc' := 83) (Or.inl ⟨rfl, rfl⟩) dX5_init_82 rfl rfl rfl (iI_in (by decide) (by decide)) ?_
        refine ev_hh (h := [.inr (5, [.ref 1, .ref 8, .int (iI 0), .ref 15, .ref 16, .ref 17]), cWo 0 0 180 2 3 4 5 6 7, mA 10 (fun _ => 0), mA 10 (fun _ => 0), mA 10 (fun _ => 0), mA 10 (fun _ => 0), mA 100 (fun _ => 0), cRf 4 8 (fun _ => none), cWo 0 0 180 9 10 11 12 13 14, mA 10 (fun _ => 0), mA 10 (fun _ => 0), mA 10 (fun _ => 0), mA 10 (fun _ => 0), mA 100 (fun _ => 0), cRf 4 8 (fun _ => none), cRf 3 8 (shF 3), cSp (-4) 0 0 0 0 1, cRd .null 0 0 0 0 0 0 0 0, cSh .null 0 0 0 19, mA 100 (fun _ => 0), cSh .null 0 0 0 21, mA 100 (fun _ => 0), cSh .null 0 0 0 23, mA 100 (fun _ => 0)]) (by rw [← shF_s 2]; rfl) ?_
        refine ev_iincI_1 (pc' := 86) dX5_init_83 rfl (by decide) rfl ?_
        refine ev_ll (lc := [some (.ref 0), some (.int (iI (3)))]) rfl ?_
        refine ev_goto (tgt := 64) dX5_init_86 (by decide) ?_
        refine ev_iload_n (pc' := 65) dX5_init_64 rfl rfl ?_
        refine ev_bipush (pc' := 67) (iI (8)) dX5_init_65 rfl (by decide) ?_
        refine ev_icmpI_ge (pc' := 70) (tgt := 89) dX5_init_67 (by decide) rfl (by omega) (by omega) (fun c67 => ?_) (fun c67 => ?_)
        · exact absurd c67 (by decide)
        · refine ev_aload_n (pc' := 71) dX5_init_70 rfl rfl ?_
          refine ev_getfield (pc' := 74) fX5_25 dX5_init_71 rfl rfl rfl ?_
          refine ev_iload_n (pc' := 75) dX5_init_74 rfl rfl ?_
          refine ev_new (pc' := 78) nwX5_23 dX5_init_75 rfl ?_
          refine ev_dup (pc' := 79) dX5_init_78 rfl rfl ?_
          refine ev_callI0v (pc' := 82) kX5_43 mX1_init dX5_init_79 rfl rfl (Nat.le_of_ble_eq_true rfl) (Nat.le_of_ble_eq_true rfl) (by decide) (e1_init (g := [.inr (5, [.ref 1, .ref 8, .int (iI 0), .ref 15, .ref 16, .ref 17]), cWo 0 0 180 2 3 4 5 6 7, mA 10 (fun _ => 0), mA 10 (fun _ => 0), mA 10 (fun _ => 0), mA 10 (fun _ => 0), mA 100 (fun _ => 0), cRf 4 8 (fun _ => none), cWo 0 0 180 9 10 11 12 13 14, mA 10 (fun _ => 0), mA 10 (fun _ => 0), mA 10 (fun _ => 0), mA 10 (fun _ => 0), mA 100 (fun _ => 0), cRf 4 8 (fun _ => none), cRf 3 8 (shF 3), cSp (-4) 0 0 0 0 1, cRd .null 0 0 0 0 0 0 0 0, cSh .null 0 0 0 19, mA 100 (fun _ => 0), cSh .null 0 0 0 21, mA 100 (fun _ => 0), cSh .null 0 0 0 23, mA 100 (fun _ => 0)])) ?_
          refine ev_hh (h := [.inr (5, [.ref 1, .ref 8, .int (iI 0), .ref 15, .ref 16, .ref 17]), cWo 0 0 180 2 3 4 5 6 7, mA 10 (fun _ => 0), mA 10 (fun _ => 0), mA 10 (fun _ => 0), mA 10 (fun _ => 0), mA 100 (fun _ => 0), cRf 4 8 (fun _ => none), cWo 0 0 180 9 10 11 12 13 14, mA 10 (fun _ => 0), mA 10 (fun _ => 0), mA 10 (fun _ => 0), mA 10 (fun _ => 0), mA 100 (fun _ => 0), cRf 4 8 (fun _ => none), cRf 3 8 (shF 3), cSp (-4) 0 0 0 0 1, cRd .null 0 0 0 0 0 0 0 0, cSh .null 0 0 0 19, mA 100 (fun _ => 0), cSh .null 0 0 0 21, mA 100 (fun _ => 0), cSh .null 0 0 0 23, mA 100 (fun _ => 0), cSh .null 0 0 0 25, mA 100 (fun _ => 0)]) rfl ?_
          refine ev_ss (st := [.ref 24, .int (iI (3)), .ref 15]) rfl ?_
          refine ev_aastore (pc' := 83) (Or.inl ⟨rfl, rfl⟩) dX5_init_82 rfl rfl rfl (iI_in (by decide) (by decide)) ?_
          refine ev_hh (h := [.inr (5, [.ref 1, .ref 8, .int (iI 0), .ref 15, .ref 16, .ref 17]), cWo 0 0 180 2 3 4 5 6 7, mA 10 (fun _ => 0), mA 10 (fun _ => 0), mA 10 (fun _ => 0), mA 10 (fun _ => 0), mA 100 (fun _ => 0), cRf 4 8 (fun _ => none), cWo 0 0 180 9 10 11 12 13 14, mA 10 (fun _ => 0), mA 10 (fun _ => 0), mA 10 (fun _ => 0), mA 10 (fun _ => 0), mA 100 (fun _ => 0), cRf 4 8 (fun _ => none), cRf 3 8 (shF 4), cSp (-4) 0 0 0 0 1, cRd .null 0 0 0 0 0 0 0 0, cSh .null 0 0 0 19, mA 100 (fun _ => 0), cSh .null 0 0 0 21, mA 100 (fun _ => 0), cSh .null 0 0 0 23, mA 100 (fun _ => 0), cSh .null 0 0 0 25, mA 100 (fun _ => 0)]) (by rw [← shF_s 3]; rfl) ?_
          refine ev_iincI_1 (pc' := 86) dX5_init_83 rfl (by decide) rfl ?_
          refine ev_ll (lc := [some (.ref 0), some (.int (iI (4)))]) rfl ?_
          refine ev_goto (tgt := 64) dX5_init_86 (by decide) ?_
          refine ev_iload_n (pc' := 65) dX5_init_64 rfl rfl ?_
          refine ev_bipush (pc' := 67) (iI (8)) dX5_init_65 rfl (by decide) ?_
          refine ev_icmpI_ge (pc' := 70) (tgt := 89) dX5_init_67 (by decide) rfl (by omega) (by omega) (fun c67 => ?_) (fun c67 => ?_)
          · exact absurd c67 (by decide)
          · refine ev_aload_n (pc' := 71) dX5_init_70 rfl rfl ?_
            refine ev_getfield (pc' := 74) fX5_25 dX5_init_71 rfl rfl rfl ?_
            refine ev_iload_n (pc' := 75) dX5_init_74 rfl rfl ?_
            refine ev_new (pc' := 78) nwX5_23 dX5_init_75 rfl ?_
            refine ev_dup (pc' := 79) dX5_init_78 rfl rfl ?_
            refine ev_callI0v (pc' := 82) kX5_43 mX1_init dX5_init_79 rfl rfl (Nat.le_of_ble_eq_true rfl) (Nat.le_of_ble_eq_true rfl) (by decide) (e1_init (g := [.inr (5, [.ref 1, .ref 8, .int (iI 0), .ref 15, .ref 16, .ref 17]), cWo 0 0 180 2 3 4 5 6 7, mA 10 (fun _ => 0), mA 10 (fun _ => 0), mA 10 (fun _ => 0), mA 10 (fun _ => 0), mA 100 (fun _ => 0), cRf 4 8 (fun _ => none), cWo 0 0 180 9 10 11 12 13 14, mA 10 (fun _ => 0), mA 10 (fun _ => 0), mA 10 (fun _ => 0), mA 10 (fun _ => 0), mA 100 (fun _ => 0), cRf 4 8 (fun _ => none), cRf 3 8 (shF 4), cSp (-4) 0 0 0 0 1, cRd .null 0 0 0 0 0 0 0 0, cSh .null 0 0 0 19, mA 100 (fun _ => 0), cSh .null 0 0 0 21, mA 100 (fun _ => 0), cSh .null 0 0 0 23, mA 100 (fun _ => 0), cSh .null 0 0 0 25, mA 100 (fun _ => 0)])) ?_
            refine ev_hh (h := [.inr (5, [.ref 1, .ref 8, .int (iI 0), .ref 15, .ref 16, .ref 17]), cWo 0 0 180 2 3 4 5 6 7, mA 10 (fun _ => 0), mA 10 (fun _ => 0), mA 10 (fun _ => 0), mA 10 (fun _ => 0), mA 100 (fun _ => 0), cRf 4 8 (fun _ => none), cWo 0 0 180 9 10 11 12 13 14, mA 10 (fun _ => 0), mA 10 (fun _ => 0), mA 10 (fun _ => 0), mA 10 (fun _ => 0), mA 100 (fun _ => 0), cRf 4 8 (fun _ => none), cRf 3 8 (shF 4), cSp (-4) 0 0 0 0 1, cRd .null 0 0 0 0 0 0 0 0, cSh .null 0 0 0 19, mA 100 (fun _ => 0), cSh .null 0 0 0 21, mA 100 (fun _ => 0), cSh .null 0 0 0 23, mA 100 (fun _ => 0), cSh .null 0 0 0 25, mA 100 (fun _ => 0), cSh .null 0 0 0 27, mA 100 (fun _ => 0)]) rfl ?_
            refine ev_ss (st := [.ref 26, .int (iI (4)), .ref 15]) rfl ?_
            refine ev_aastore (pc' := 83) (Or.inl ⟨rfl, rfl⟩) dX5_init_82 rfl rfl rfl (iI_in (by decide) (by decide)) ?_
            refine ev_hh (h := [.inr (5, [.ref 1, .ref 8, .int (iI 0), .ref 15, .ref 16, .ref 17]), cWo 0 0 180 2 3 4 5 6 7, mA 10 (fun _ => 0), mA 10 (fun _ => 0), mA 10 (fun _ => 0), mA 10 (fun _ => 0), mA 100 (fun _ => 0), cRf 4 8 (fun _ => none), cWo 0 0 180 9 10 11 12 13 14, mA 10 (fun _ => 0), mA 10 (fun _ => 0), mA 10 (fun _ => 0), mA 10 (fun _ => 0), mA 100 (fun _ => 0), cRf 4 8 (fun _ => none), cRf 3 8 (shF 5), cSp (-4) 0 0 0 0 1, cRd .null 0 0 0 0 0 0 0 0, cSh .null 0 0 0 19, mA 100 (fun _ => 0), cSh .null 0 0 0 21, mA 100 (fun _ => 0), cSh .null 0 0 0 23, mA 100 (fun _ => 0), cSh .null 0 0 0 25, mA 100 (fun _ => 0), cSh .null 0 0 0 27, mA 100 (fun _ => 0)]) (by rw [← shF_s 4]; rfl) ?_
            refine ev_iincI_1 (pc' := 86) dX5_init_83 rfl (by decide) rfl ?_
            refine ev_ll (lc := [some (.ref 0), some (.int (iI (5)))]) rfl ?_
            refine ev_goto (tgt := 64) dX5_init_86 (by decide) ?_
            refine ev_iload_n (pc' := 65) dX5_init_64 rfl rfl ?_
            refine ev_bipush (pc' := 67) (iI (8)) dX5_init_65 rfl (by decide) ?_
            refine ev_icmpI_ge (pc' := 70) (tgt := 89) dX5_init_67 (by decide) rfl (by omega) (by omega) (fun c67 => ?_) (fun c67 => ?_)
            · exact absurd c67 (by decide)
            · refine ev_aload_n (pc' := 71) dX5_init_70 rfl rfl ?_
              refine ev_getfield (pc' := 74) fX5_25 dX5_init_71 rfl rfl rfl ?_
              refine ev_iload_n (pc' := 75) dX5_init_74 rfl rfl ?_
              refine ev_new (pc' := 78) nwX5_23 dX5_init_75 rfl ?_
              refine ev_dup (pc' := 79) dX5_init_78 rfl rfl ?_
              refine ev_callI0v (pc' := 82) kX5_43 mX1_init dX5_init_79 rfl rfl (Nat.le_of_ble_eq_true rfl) (Nat.le_of_ble_eq_true rfl) (by decide) (e1_init (g := [.inr (5, [.ref 1, .ref 8, .int (iI 0), .ref 15, .ref 16, .ref 17]), cWo 0 0 180 2 3 4 5 6 7, mA 10 (fun _ => 0), mA 10 (fun _ => 0), mA 10 (fun _ => 0), mA 10 (fun _ => 0), mA 100 (fun _ => 0), cRf 4 8 (fun _ => none), cWo 0 0 180 9 10 11 12 13 14, mA 10 (fun _ => 0), mA 10 (fun _ => 0), mA 10 (fun _ => 0), mA 10 (fun _ => 0), mA 100 (fun _ => 0), cRf 4 8 (fun _ => none), cRf 3 8 (shF 5), cSp (-4) 0 0 0 0 1, cRd .null 0 0 0 0 0 0 0 0, cSh .null 0 0 0 19, mA 100 (fun _ => 0), cSh .null 0 0 0 21, mA 100 (fun _ => 0), cSh .null 0 0 0 23, mA 100 (fun _ => 0), cSh .null 0 0 0 25, mA 100 (fun _ => 0), cSh .null 0 0 0 27, mA 100 (fun _ => 0)])) ?_
              refine ev_hh (h := [.inr (5, [.ref 1, .ref 8, .int (iI 0), .ref 15, .ref 16, .ref 17]), cWo 0 0 180 2 3 4 5 6 7, mA 10 (fun _ => 0), mA 10 (fun _ => 0), mA 10 (fun _ => 0), mA 10 (fun _ => 0), mA 100 (fun _ => 0), cRf 4 8 (fun _ => none), cWo 0 0 180 9 10 11 12 13 14, mA 10 (fun _ => 0), mA 10 (fun _ => 0), mA 10 (fun _ => 0), mA 10 (fun _ => 0), mA 100 (fun _ => 0), cRf 4 8 (fun _ => none), cRf 3 8 (shF 5), cSp (-4) 0 0 0 0 1, cRd .null 0 0 0 0 0 0 0 0, cSh .null 0 0 0 19, mA 100 (fun _ => 0), cSh .null 0 0 0 21, mA 100 (fun _ => 0), cSh .null 0 0 0 23, mA 100 (fun _ => 0), cSh .null 0 0 0 25, mA 100 (fun _ => 0), cSh .null 0 0 0 27, mA 100 (fun _ => 0), cSh .null 0 0 0 29, mA 100 (fun _ => 0)]) rfl ?_
              refine ev_ss (st := [.ref 28, .int (iI (5)), .ref 15]) rfl ?_
              refine ev_aastore (pc' := 83) (Or.inl ⟨rfl, rfl⟩) dX5_init_82 rfl rfl rfl (iI_in (by decide) (by decide)) ?_
              refine ev_hh (h := [.inr (5, [.ref 1, .ref 8, .int (iI 0), .ref 15, .ref 16, .ref 17]), cWo 0 0 180 2 3 4 5 6 7, mA 10 (fun _ => 0), mA 10 (fun _ => 0), mA 10 (fun _ => 0), mA 10 (fun _ => 0), mA 100 (fun _ => 0), cRf 4 8 (fun _ => none), cWo 0 0 180 9 10 11 12 13 14, mA 10 (fun _ => 0), mA 10 (fun _ => 0), mA 10 (fun _ => 0), mA 10 (fun _ => 0), mA 100 (fun _ => 0), cRf 4 8 (fun _ => none), cRf 3 8 (shF 6), cSp (-4) 0 0 0 0 1, cRd .null 0 0 0 0 0 0 0 0, cSh .null 0 0 0 19, mA 100 (fun _ => 0), cSh .null 0 0 0 21, mA 100 (fun _ => 0), cSh .null 0 0 0 23, mA 100 (fun _ => 0), cSh .null 0 0 0 25, mA 100 (fun _ => 0), cSh .null 0 0 0 27, mA 100 (fun _ => 0), cSh .null 0 0 0 29, mA 100 (fun _ => 0)]) (by rw [← shF_s 5]; rfl) ?_
              refine ev_iincI_1 (pc' := 86) dX5_init_83 rfl (by decide) rfl ?_
              refine ev_ll (lc := [some (.ref 0), some (.int (iI (6)))]) rfl ?_
              refine ev_goto (tgt := 64) dX5_init_86 (by decide) ?_
              refine ev_iload_n (pc' := 65) dX5_init_64 rfl rfl ?_
              refine ev_bipush (pc' := 67) (iI (8)) dX5_init_65 rfl (by decide) ?_
              refine ev_icmpI_ge (pc' := 70) (tgt := 89) dX5_init_67 (by decide) rfl (by omega) (by omega) (fun c67 => ?_) (fun c67 => ?_)
              · exact absurd c67 (by decide)
              · refine ev_aload_n (pc' := 71) dX5_init_70 rfl rfl ?_
                refine ev_getfield (pc' := 74) fX5_25 dX5_init_71 rfl rfl rfl ?_
                refine ev_iload_n (pc' := 75) dX5_init_74 rfl rfl ?_
                refine ev_new (pc' := 78) nwX5_23 dX5_init_75 rfl ?_
                refine ev_dup (pc' := 79) dX5_init_78 rfl rfl ?_
                refine ev_callI0v (pc' := 82) kX5_43 mX1_init dX5_init_79 rfl rfl (Nat.le_of_ble_eq_true rfl) (Nat.le_of_ble_eq_true rfl) (by decide) (e1_init (g := [.inr (5, [.ref 1, .ref 8, .int (iI 0), .ref 15, .ref 16, .ref 17]), cWo 0 0 180 2 3 4 5 6 7, mA 10 (fun _ => 0), mA 10 (fun _ => 0), mA 10 (fun _ => 0), mA 10 (fun _ => 0), mA 100 (fun _ => 0), cRf 4 8 (fun _ => none), cWo 0 0 180 9 10 11 12 13 14, mA 10 (fun _ => 0), mA 10 (fun _ => 0), mA 10 (fun _ => 0), mA 10 (fun _ => 0), mA 100 (fun _ => 0), cRf 4 8 (fun _ => none), cRf 3 8 (shF 6), cSp (-4) 0 0 0 0 1, cRd .null 0 0 0 0 0 0 0 0, cSh .null 0 0 0 19, mA 100 (fun _ => 0), cSh .null 0 0 0 21, mA 100 (fun _ => 0), cSh .null 0 0 0 23, mA 100 (fun _ => 0), cSh .null 0 0 0 25, mA 100 (fun _ => 0), cSh .null 0 0 0 27, mA 100 (fun _ => 0), cSh .null 0 0 0 29, mA 100 (fun _ => 0)])) ?_
                refine ev_hh (h := [.inr (5, [.ref 1, .ref 8, .int (iI 0), .ref 15, .ref 16, .ref 17]), cWo 0 0 180 2 3 4 5 6 7, mA 10 (fun _ => 0), mA 10 (fun _ => 0), mA 10 (fun _ => 0), mA 10 (fun _ => 0), mA 100 (fun _ => 0), cRf 4 8 (fun _ => none), cWo 0 0 180 9 10 11 12 13 14, mA 10 (fun _ => 0), mA 10 (fun _ => 0), mA 10 (fun _ => 0), mA 10 (fun _ => 0), mA 100 (fun _ => 0), cRf 4 8 (fun _ => none), cRf 3 8 (shF 6), cSp (-4) 0 0 0 0 1, cRd .null 0 0 0 0 0 0 0 0, cSh .null 0 0 0 19, mA 100 (fun _ => 0), cSh .null 0 0 0 21, mA 100 (fun _ => 0), cSh .null 0 0 0 23, mA 100 (fun _ => 0), cSh .null 0 0 0 25, mA 100 (fun _ => 0), cSh .null 0 0 0 27, mA 100 (fun _ => 0), cSh .null 0 0 0 29, mA 100 (fun _ => 0), cSh .null 0 0 0 31, mA 100 (fun _ => 0)]) rfl ?_
                refine ev_ss (st := [.ref 30, .int (iI (6)), .ref 15]) rfl ?_
                refine ev_aastore (pc' := 83) (Or.inl ⟨rfl, rfl⟩) dX5_init_82 rfl rfl rfl (iI_in (by decide) (by decide)) ?_
                refine ev_hh (h := [.inr (5, [.ref 1, .ref 8, .int (iI 0), .ref 15, .ref 16, .ref 17]), cWo 0 0 180 2 3 4 5 6 7, mA 10 (fun _ => 0), mA 10 (fun _ => 0), mA 10 (fun _ => 0), mA 10 (fun _ => 0), mA 100 (fun _ => 0), cRf 4 8 (fun _ => none), cWo 0 0 180 9 10 11 12 13 14, mA 10 (fun _ => 0), mA 10 (fun _ => 0), mA 10 (fun _ => 0), mA 10 (fun _ => 0), mA 100 (fun _ => 0), cRf 4 8 (fun _ => none), cRf 3 8 (shF 7), cSp (-4) 0 0 0 0 1, cRd .null 0 0 0 0 0 0 0 0, cSh .null 0 0 0 19, mA 100 (fun _ => 0), cSh .null 0 0 0 21, mA 100 (fun _ => 0), cSh .null 0 0 0 23, mA 100 (fun _ => 0), cSh .null 0 0 0 25, mA 100 (fun _ => 0), cSh .null 0 0 0 27, mA 100 (fun _ => 0), cSh .null 0 0 0 29, mA 100 (fun _ => 0), cSh .null 0 0 0 31, mA 100 (fun _ => 0)]) (by rw [← shF_s 6]; rfl) ?_
                refine ev_iincI_1 (pc' := 86) dX5_init_83 rfl (by decide) rfl ?_
                refine ev_ll (lc := [some (.ref 0), some (.int (iI (7)))]) rfl ?_
                refine ev_goto (tgt := 64) dX5_init_86 (by decide) ?_
                refine ev_iload_n (pc' := 65) dX5_init_64 rfl rfl ?_
                refine ev_bipush (pc' := 67) (iI (8)) dX5_init_65 rfl (by decide) ?_
                refine ev_icmpI_ge (pc' := 70) (tgt := 89) dX5_init_67 (by decide) rfl (by omega) (by omega) (fun c67 => ?_) (fun c67 => ?_)
                · exact absurd c67 (by decide)
                · refine ev_aload_n (pc' := 71) dX5_init_70 rfl rfl ?_
                  refine ev_getfield (pc' := 74) fX5_25 dX5_init_71 rfl rfl rfl ?_
                  refine ev_iload_n (pc' := 75) dX5_init_74 rfl rfl ?_
                  refine ev_new (pc' := 78) nwX5_23 dX5_init_75 rfl ?_
                  refine ev_dup (pc' := 79) dX5_init_78 rfl rfl ?_
                  refine ev_callI0v (pc' := 82) kX5_43 mX1_init dX5_init_79 rfl rfl (Nat.le_of_ble_eq_true rfl) (Nat.le_of_ble_eq_true rfl) (by decide) (e1_init (g := [.inr (5, [.ref 1, .ref 8, .int (iI 0), .ref 15, .ref 16, .ref 17]), cWo 0 0 180 2 3 4 5 6 7, mA 10 (fun _ => 0), mA 10 (fun _ => 0), mA 10 (fun _ => 0), mA 10 (fun _ => 0), mA 100 (fun _ => 0), cRf 4 8 (fun _ => none), cWo 0 0 180 9 10 11 12 13 14, mA 10 (fun _ => 0), mA 10 (fun _ => 0), mA 10 (fun _ => 0), mA 10 (fun _ => 0), mA 100 (fun _ => 0), cRf 4 8 (fun _ => none), cRf 3 8 (shF 7), cSp (-4) 0 0 0 0 1, cRd .null 0 0 0 0 0 0 0 0, cSh .null 0 0 0 19, mA 100 (fun _ => 0), cSh .null 0 0 0 21, mA 100 (fun _ => 0), cSh .null 0 0 0 23, mA 100 (fun _ => 0), cSh .null 0 0 0 25, mA 100 (fun _ => 0), cSh .null 0 0 0 27, mA 100 (fun _ => 0), cSh .null 0 0 0 29, mA 100 (fun _ => 0), cSh .null 0 0 0 31, mA 100 (fun _ => 0)])) ?_
                  refine ev_hh (h := [.inr (5, [.ref 1, .ref 8, .int (iI 0), .ref 15, .ref 16, .ref 17]), cWo 0 0 180 2 3 4 5 6 7, mA 10 (fun _ => 0), mA 10 (fun _ => 0), mA 10 (fun _ => 0), mA 10 (fun _ => 0), mA 100 (fun _ => 0), cRf 4 8 (fun _ => none), cWo 0 0 180 9 10 11 12 13 14, mA 10 (fun _ => 0), mA 10 (fun _ => 0), mA 10 (fun _ => 0), mA 10 (fun _ => 0), mA 100 (fun _ => 0), cRf 4 8 (fun _ => none), cRf 3 8 (shF 7), cSp (-4) 0 0 0 0 1, cRd .null 0 0 0 0 0 0 0 0, cSh .null 0 0 0 19, mA 100 (fun _ => 0), cSh .null 0 0 0 21, mA 100 (fun _ => 0), cSh .null 0 0 0 23, mA 100 (fun _ => 0), cSh .null 0 0 0 25, mA 100 (fun _ => 0), cSh .null 0 0 0 27, mA 100 (fun _ => 0), cSh .null 0 0 0 29, mA 100 (fun _ => 0), cSh .null 0 0 0 31, mA 100 (fun _ => 0), cSh .null 0 0 0 33, mA 100 (fun _ => 0)]) rfl ?_
                  refine ev_ss (st := [.ref 32, .int (iI (7)), .ref 15]) rfl ?_
                  refine ev_aastore (pc' := 83) (Or.inl ⟨rfl, rfl⟩) dX5_init_82 rfl rfl rfl (iI_in (by decide) (by decide)) ?_
                  refine ev_hh (h := [.inr (5, [.ref 1, .ref 8, .int (iI 0), .ref 15, .ref 16, .ref 17]), cWo 0 0 180 2 3 4 5 6 7, mA 10 (fun _ => 0), mA 10 (fun _ => 0), mA 10 (fun _ => 0), mA 10 (fun _ => 0), mA 100 (fun _ => 0), cRf 4 8 (fun _ => none), cWo 0 0 180 9 10 11 12 13 14, mA 10 (fun _ => 0), mA 10 (fun _ => 0), mA 10 (fun _ => 0), mA 10 (fun _ => 0), mA 100 (fun _ => 0), cRf 4 8 (fun _ => none), cRf 3 8 (shF 8), cSp (-4) 0 0 0 0 1, cRd .null 0 0 0 0 0 0 0 0, cSh .null 0 0 0 19, mA 100 (fun _ => 0), cSh .null 0 0 0 21, mA 100 (fun _ => 0), cSh .null 0 0 0 23, mA 100 (fun _ => 0), cSh .null 0 0 0 25, mA 100 (fun _ => 0), cSh .null 0 0 0 27, mA 100 (fun _ => 0), cSh .null 0 0 0 29, mA 100 (fun _ => 0), cSh .null 0 0 0 31, mA 100 (fun _ => 0), cSh .null 0 0 0 33, mA 100 (fun _ => 0)]) (by rw [← shF_s 7]; rfl) ?_
                  refine ev_iincI_1 (pc' := 86) dX5_init_83 rfl (by decide) rfl ?_
                  refine ev_ll (lc := [some (.ref 0), some (.int (iI (8)))]) rfl ?_
                  refine ev_goto (tgt := 64) dX5_init_86 (by decide) ?_
                  refine ev_iload_n (pc' := 65) dX5_init_64 rfl rfl ?_
                  refine ev_bipush (pc' := 67) (iI (8)) dX5_init_65 rfl (by decide) ?_
                  refine ev_icmpI_ge (pc' := 70) (tgt := 89) dX5_init_67 (by decide) rfl (by omega) (by omega) (fun c67 => ?_) (fun c67 => ?_)
                  · exact ev_vret dX5_init_89
                  · exact absurd (by decide) c67
end IN2
