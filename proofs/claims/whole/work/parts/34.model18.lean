section MU
variable {l : Launch}
/-! a world's text, as both read it: T its bytes, n its size -/
def chr (T : Int → Int) (n p : Int) : Int := if p < n then T p else -1000
def rdL (T : Int → Int) (n : Int) : Nat → Int → Int → Int × Int
  | 0, v, p => (v, p)
  | c + 1, v, p => if 0 < v ∧ 48 ≤ chr T n p ∧ chr T n p ≤ 57 then rdL T n c (10 * v + chr T n p - 48) (p + 1) else (v, p)
/-- a number that begins at p: its value, the place behind it -/
def rdV (T : Int → Int) (n p : Int) : Int := (rdL T n 2 (chr T n p - 48) (p + 1)).1
def rdP (T : Int → Int) (n p : Int) : Int := (rdL T n 2 (chr T n p - 48) (p + 1)).2
def st0 (T : Int → Int) (n p : Int) : Int := rdP T n (p + 1)
def st1 (T : Int → Int) (n p : Int) : Int := rdP T n (st0 T n p + 1)
def st2 (T : Int → Int) (n p : Int) : Int := rdP T n (st1 T n p + 1)
def stE (T : Int → Int) (n p : Int) : Int := if chr T n p = 108 then st0 T n p else if chr T n p = 112 ∧ (chr T n (st2 T n p) = 43 ∨ chr T n (st2 T n p) = 45) then st2 T n p + 1 else st2 T n p
def stG (T : Int → Int) (n p : Int) : Int := if chr T n p = 112 ∧ chr T n (st2 T n p) = 43 then 1 else if chr T n p = 112 ∧ chr T n (st2 T n p) = 45 then -1 else 0
def stOK (T : Int → Int) (n p : Int) : Prop := (chr T n p = 112 ∨ chr T n p = 108 ∨ chr T n p = 119) ∧ (48 ≤ chr T n (p + 1) ∧ chr T n (p + 1) ≤ 57) ∧ (chr T n p = 108 ∨ (chr T n (st0 T n p) = 32 ∧ (48 ≤ chr T n (st0 T n p + 1) ∧ chr T n (st0 T n p + 1) ≤ 57) ∧ chr T n (st1 T n p) = 32 ∧ (48 ≤ chr T n (st1 T n p + 1) ∧ chr T n (st1 T n p + 1) ≤ 57))) ∧ chr T n (stE T n p) = 59
def stK (T : Int → Int) (n p : Int) : Bool := decide (chr T n p = 112 ∨ chr T n p = 108 ∨ chr T n p = 119) && (decide (48 ≤ chr T n (p + 1) ∧ chr T n (p + 1) ≤ 57) && (decide (chr T n p = 108 ∨ (chr T n (st0 T n p) = 32 ∧ (48 ≤ chr T n (st0 T n p + 1) ∧ chr T n (st0 T n p + 1) ≤ 57) ∧ chr T n (st1 T n p) = 32 ∧ (48 ≤ chr T n (st1 T n p + 1) ∧ chr T n (st1 T n p + 1) ≤ 57))) && decide (chr T n (stE T n p) = 59)))
theorem stK_iff {T : Int → Int} {n p : Int} : stK T n p = true ↔ stOK T n p := by unfold stK stOK; simp only [Bool.and_eq_true, decide_eq_true_eq]
/-- the place at which reading one ends -/
def stP (T : Int → Int) (n p : Int) : Int := if ¬ (chr T n p = 112 ∨ chr T n p = 108 ∨ chr T n p = 119) then p else if ¬ (48 ≤ chr T n (p + 1) ∧ chr T n (p + 1) ≤ 57) then p + 1 else if chr T n p ≠ 108 ∧ chr T n (st0 T n p) ≠ 32 then st0 T n p else if chr T n p ≠ 108 ∧ ¬ (48 ≤ chr T n (st0 T n p + 1) ∧ chr T n (st0 T n p + 1) ≤ 57) then st0 T n p + 1 else if chr T n p ≠ 108 ∧ chr T n (st1 T n p) ≠ 32 then st1 T n p else if chr T n p ≠ 108 ∧ ¬ (48 ≤ chr T n (st1 T n p + 1) ∧ chr T n (st1 T n p + 1) ≤ 57) then st1 T n p + 1 else if chr T n (stE T n p) = 59 then stE T n p + 1 else stE T n p
theorem chr_lt {T : Int → Int} {n p : Int} (h : -999 ≤ chr T n p) : p < n := by unfold chr at h; split at h; assumption; omega
theorem rdL_b {T : Int → Int} {n : Int} : ∀ (c : Nat) (v p : Int), 0 ≤ v → (rdL T n c v p).2 ≥ p ∧ (p ≤ n → (rdL T n c v p).2 ≤ n) ∧ 0 ≤ (rdL T n c v p).1 ∧ (rdL T n c v p).1 ≤ 10 ^ c * v + (10 ^ c - 1)
  | 0, v, p, hv => by unfold rdL; simp [hv]
  | c + 1, v, p, hv => by
    unfold rdL
    have p10 : (10 : Int) ^ (c + 1) = 10 * 10 ^ c := by rw [Int.pow_succ]; omega
    have pp : (0 : Int) < 10 ^ c := Int.pow_pos (by decide)
    split
    · rename_i q
      have hl := chr_lt (T := T) (n := n) (p := p) (by omega)
      have ih := rdL_b (T := T) (n := n) c (10 * v + chr T n p - 48) (p + 1) (by omega)
      refine ⟨by omega, fun _ => by omega, ih.2.2.1, Int.le_trans ih.2.2.2 ?_⟩
      rw [p10]
      have m1 : (10 : Int) ^ c * (10 * v + chr T n p - 48) ≤ 10 ^ c * (10 * v + 9) := Int.mul_le_mul_of_nonneg_left (by omega) (by omega)
      have m2 : (10 : Int) ^ c * (10 * v + 9) = 10 * 10 ^ c * v + 9 * 10 ^ c := by rw [Int.mul_add, ← Int.mul_assoc, Int.mul_comm (10 ^ c) 10, Int.mul_comm (10 ^ c) 9]
      omega
    · refine ⟨by simp, fun h => h, hv, ?_⟩
      rw [p10]
      have m1 : 1 * v ≤ 10 * 10 ^ c * v := Int.mul_le_mul_of_nonneg_right (by omega) hv
      simp only
      omega
theorem rd_b {T : Int → Int} {n p : Int} (h : 48 ≤ chr T n p ∧ chr T n p ≤ 57) : p < rdP T n p ∧ rdP T n p ≤ n ∧ 0 ≤ rdV T n p ∧ rdV T n p ≤ 999 := by
  have hl := chr_lt (T := T) (n := n) (p := p) (by omega)
  have := rdL_b (T := T) (n := n) 2 (chr T n p - 48) (p + 1) (by omega)
  have e : (10 : Int) ^ 2 = 100 := by decide
  unfold rdP rdV
  rw [e] at this
  omega
variable {A : Nat → Int → Int} {h : ev_H} {o : Nat → Int}
/-- the reader's place in the text -/
def mTx (o : Nat → Int) (b n p : Int) : Prop := o 12 = b ∧ o 13 = n ∧ o 11 = p
def txt (A : Nat → Int → Int) (b : Int) : Int → Int := fun x => A 5 (b + x)
theorem e6_here {b n p : Int} (hw : MW h o A) (hS : mSh A) (hx : mTx o b n p) (hb : 0 ≤ b ∧ b ≤ 700) (hn : 0 ≤ n ∧ n ≤ 100) (hp : 0 ≤ p) (hp2 : p ≤ 1000) : Ev l 0 yX6_here.cls yX6_here.name cX6_here 1 (some .int) 0 [some (.ref 34)] [] h (some (.int (iI (chr (txt A b) n p)))) h := by
  obtain ⟨x1, x2, x3⟩ := hx
  refine ev_aload_n (pc' := 1) dX6_here_0 rfl rfl ?_
  refine ev_getfield (pc' := 4) fX6_56 dX6_here_1 rfl hw.o rfl ?_
  refine ev_aload_n (pc' := 5) dX6_here_4 rfl rfl ?_
  refine ev_getfield (pc' := 8) fX6_59 dX6_here_5 rfl hw.o rfl ?_
  rw [x2, x3]
  refine ev_icmpI_ge (pc' := 11) (tgt := 28) dX6_here_8 (by decide) rfl (by omega) (by omega) (fun c8 => ?_) (fun c8 => ?_)
  · refine ev_sipush (pc' := 31) (iI (-1000)) dX6_here_28 rfl (by decide) ?_
    exact ev_ireI dX6_here_31 (by unfold chr; first | (rw [if_pos (by omega)]; rfl) | rw [if_neg (by omega)])
  · refine ev_aload_n (pc' := 12) dX6_here_11 rfl rfl ?_
    refine ev_getfield (pc' := 15) fX6_25 dX6_here_12 rfl hw.o rfl ?_
    refine ev_aload_n (pc' := 16) dX6_here_15 rfl rfl ?_
    refine ev_getfield (pc' := 19) fX6_62 dX6_here_16 rfl hw.o rfl ?_
    refine ev_aload_n (pc' := 20) dX6_here_19 rfl rfl ?_
    refine ev_getfield (pc' := 23) fX6_56 dX6_here_20 rfl hw.o rfl ?_
    refine ev_iaddI (pc' := 24) dX6_here_23 rfl ?_
    rw [x1, x3]
    refine ev_ialoadI (pc' := 25) dX6_here_24 rfl hw.a5 (by decide) (by omega) ?_
    refine ev_goto (tgt := 31) dX6_here_25 (by decide) ?_
    exact ev_ireI dX6_here_31 (by unfold chr; first | (rw [if_pos (by omega)]; rfl) | rw [if_neg (by omega)])
theorem chr_b {A : Nat → Int → Int} {b n p : Int} (hS : mSh A) (hb : 0 ≤ b ∧ b ≤ 700) (hn : 0 ≤ n ∧ n ≤ 100) (hp : 0 ≤ p) : -2147483648 ≤ chr (txt A b) n p ∧ chr (txt A b) n p < 2147483648 := by
  unfold chr txt
  split
  · exact hS.2 (b + p) (by omega) (by omega)
  · omega
theorem e6_takes {b n p c : Int} (hw : MW h o A) (hS : mSh A) (hx : mTx o b n p) (hb : 0 ≤ b ∧ b ≤ 700) (hn : 0 ≤ n ∧ n ≤ 100) (hp : 0 ≤ p) (hp2 : p ≤ 1000) (rc : -2147483648 ≤ c ∧ c < 2147483648) : Ex l 1 yX6_takes.cls yX6_takes.name cX6_takes 2 (some .boolean) 0 [some (.ref 34), some (.int (iI c))] [] h (fun v h2 => v = some (.int (b2i (decide (chr (txt A b) n p = c)))) ∧ ∃ o2, MW h2 o2 A ∧ FrM h h2 ∧ mTx o2 b n (if chr (txt A b) n p = c then p + 1 else p) ∧ ∀ j, j ≠ 11 → o2 j = o j) := by
  have fr := FrM.rf h
  have zc := chr_b hS hb hn hp
  obtain ⟨x1, x2, x3⟩ := id hx
  refine ex_of (fun _ _ => ev_aload_n (pc' := 1) dX6_takes_0 rfl rfl) ?_
  refine ex_of (fun _ _ => ev_callV0 (pc' := 4) kX6_65 mX6_here dX6_takes_1 rfl rfl (Nat.le_of_ble_eq_true rfl) (Nat.le_of_ble_eq_true rfl) (by decide) rfl hw.o (e6_here hw hS hx hb hn (by omega) (by omega))) ?_
  refine ex_of (fun _ _ => ev_iload_n (pc' := 5) dX6_takes_4 rfl rfl) ?_
  refine ex_icmpI_eq (pc' := 8) (tgt := 10) dX6_takes_5 (by decide) rfl (by omega) (by omega) (fun c5 => ?_) (fun c5 => ?_)
  · refine ex_of (fun _ _ => ev_aload_n (pc' := 11) dX6_takes_10 rfl rfl) ?_
    refine ex_of (fun _ _ => ev_dup (pc' := 12) dX6_takes_11 rfl rfl) ?_
    refine ex_of (fun _ _ => ev_getfield (pc' := 15) fX6_56 dX6_takes_12 rfl hw.o rfl) ?_
    refine ex_of (fun _ _ => ev_iconst (pc' := 16) (iI (1)) dX6_takes_15 rfl (by decide)) ?_
    refine ex_of (fun _ _ => ev_iaddI (pc' := 17) dX6_takes_16 rfl) ?_
    refine xput_11 (pc' := 20) dX6_takes_17 rfl hw fr (fun h hw fr => ?_)
    refine ex_of (fun _ _ => ev_iconst (pc' := 21) (iI (1)) dX6_takes_20 rfl (by decide)) ?_
    exact ex_end (ev_iret dX6_takes_21 rfl) (⟨by rw [decide_eq_true (by omega)]; rfl, _, hw, fr, by rw [if_pos (by omega)]; exact ⟨by rw [upN_n (by decide)]; exact x1, by rw [upN_n (by decide)]; exact x2, by rw [upN_s, x3]⟩, fun j hj => upN_n hj⟩)
  · refine ex_of (fun _ _ => ev_iconst (pc' := 9) (iI (0)) dX6_takes_8 rfl (by decide)) ?_
    exact ex_end (ev_iret dX6_takes_9 rfl) (⟨by rw [decide_eq_false (by omega)]; rfl, o, hw, fr, by rw [if_neg (by omega)]; exact hx, fun _ _ => rfl⟩)
theorem e6_rnL {h0 : ev_H} {b n : Int} {Post : Option Value → ev_H → Prop} {o0 : Nat → Int} (hS : mSh A) (hb : 0 ≤ b ∧ b ≤ 700) (hn : 0 ≤ n ∧ n ≤ 100) (T : Int → Int) (hT : T = txt A b) (r : Int × Int) (fin : ∀ h2 o2 a1, MW h2 o2 A → FrM h0 h2 → mTx o2 b n r.2 → o2 14 = r.1 → (∀ j, j ≠ 11 → j ≠ 14 → o2 j = o0 j) → Ex l 2 yX6_readsNumber.cls yX6_readsNumber.name cX6_readsNumber 2 (some .boolean) 106 [some (.ref 34), a1] [] h2 Post) : ∀ (c k : Nat) (v p : Int) (h : ev_H) (o : Nat → Int), k + c = 3 → rdL T n c v p = r → MW h o A → FrM h0 h → mTx o b n p → o 14 = v → (∀ j, j ≠ 11 → j ≠ 14 → o j = o0 j) → 0 ≤ p → p ≤ 900 + k → (0 ≤ v ∧ v < 10 ^ k) → Ex l 2 yX6_readsNumber.cls yX6_readsNumber.name cX6_readsNumber 2 (some .boolean) 42 [some (.ref 34), some (.int (iI (k : Int)))] [] h Post := by
  intro c
  subst hT
  induction c with
  | zero =>
    intro k v p h o hk hr hw fr hx hv hj hp hp2 hv2
    have ek : k = 3 := by omega
    subst ek
    subst hr
    refine ex_of (fun _ _ => ev_iload_n (pc' := 43) dX6_readsNumber_42 rfl rfl) ?_
    refine ex_of (fun _ _ => ev_iconst (pc' := 44) (iI (3)) dX6_readsNumber_43 rfl (by decide)) ?_
    refine ex_icmpI_ge (pc' := 47) (tgt := 106) dX6_readsNumber_44 (by decide) rfl (by omega) (by omega) (fun c44 => ?_) (fun c44 => ?_)
    · exact fin _ _ _ hw fr hx hv hj
    · omega
  | succ c ih =>
    intro k v p h o hk hr hw fr hx hv hj hp hp2 hv2
    have k10 : (10 : Int) ^ k ≤ 100 := by
      rcases (show k = 0 ∨ k = 1 ∨ k = 2 by omega) with rfl | rfl | rfl <;> decide
    have k11 : (10 : Int) ^ (k + 1) = 10 * 10 ^ k := by rw [Int.pow_succ]; omega
    have zc := chr_b hS hb hn hp
    obtain ⟨x1, x2, x3⟩ := id hx
    refine ex_of (fun _ _ => ev_iload_n (pc' := 43) dX6_readsNumber_42 rfl rfl) ?_
    refine ex_of (fun _ _ => ev_iconst (pc' := 44) (iI (3)) dX6_readsNumber_43 rfl (by decide)) ?_
    refine ex_icmpI_ge (pc' := 47) (tgt := 106) dX6_readsNumber_44 (by decide) rfl (by omega) (by omega) (fun c44 => ?_) (fun c44 => ?_)
    · omega
    · refine ex_of (fun _ _ => ev_aload_n (pc' := 48) dX6_readsNumber_47 rfl rfl) ?_
      refine ex_of (fun _ _ => ev_getfield (pc' := 51) fX6_73 dX6_readsNumber_48 rfl hw.o rfl) ?_
      rw [hv]
      refine ex_ifI_le (pc' := 54) (tgt := 106) dX6_readsNumber_51 (by decide) rfl (by omega) (fun c51 => ?_) (fun c51 => ?_)
      · have hr2 : r = (v, p) := by
          rw [← hr]
          unfold rdL
          rw [if_neg (by omega)]
        subst hr2
        exact fin _ _ _ hw fr hx hv hj
      · refine ex_of (fun _ _ => ev_aload_n (pc' := 55) dX6_readsNumber_54 rfl rfl) ?_
        refine ex_of (fun _ _ => ev_callV0 (pc' := 58) kX6_65 mX6_here dX6_readsNumber_55 rfl rfl (Nat.le_of_ble_eq_true rfl) (Nat.le_of_ble_eq_true rfl) (by decide) rfl hw.o (e6_here hw hS hx hb hn (by omega) (by omega))) ?_
        refine ex_of (fun _ _ => ev_i2lI (pc' := 59) dX6_readsNumber_58 rfl (by omega)) ?_
        refine ex_of (fun _ _ => ev_ldc2I (pc' := 62) (48) nX6_69 dX6_readsNumber_59 rfl (by decide)) ?_
        refine ex_of (fun _ _ => ev_ldc2I (pc' := 65) (57) nX6_71 dX6_readsNumber_62 rfl (by decide)) ?_
        refine ex_of (fun _ _ => ev_callS3 (pc' := 68) kX6_48 mX6_isIn dX6_readsNumber_65 rfl rfl (Nat.le_of_ble_eq_true rfl) (Nat.le_of_ble_eq_true rfl) (by decide) (e6_isIn (by omega) (by omega) (by omega))) ?_
        refine ex_ifd_eq (pc' := 71) (tgt := 106) dX6_readsNumber_68 (by decide) rfl (fun c68 => ?_) (fun c68 => ?_)
        · have hr2 : r = (v, p) := by
            rw [← hr]
            unfold rdL
            rw [if_neg (by omega)]
          subst hr2
          exact fin _ _ _ hw fr hx hv hj
        · refine ex_of (fun _ _ => ev_aload_n (pc' := 72) dX6_readsNumber_71 rfl rfl) ?_
          refine ex_of (fun _ _ => ev_bipush (pc' := 74) (iI (10)) dX6_readsNumber_72 rfl (by decide)) ?_
          refine ex_of (fun _ _ => ev_aload_n (pc' := 75) dX6_readsNumber_74 rfl rfl) ?_
          refine ex_of (fun _ _ => ev_getfield (pc' := 78) fX6_73 dX6_readsNumber_75 rfl hw.o rfl) ?_
          rw [hv]
          refine ex_of (fun _ _ => ev_imulI (pc' := 79) dX6_readsNumber_78 rfl) ?_
          refine ex_of (fun _ _ => ev_aload_n (pc' := 80) dX6_readsNumber_79 rfl rfl) ?_
          refine ex_of (fun _ _ => ev_callV0 (pc' := 83) kX6_65 mX6_here dX6_readsNumber_80 rfl rfl (Nat.le_of_ble_eq_true rfl) (Nat.le_of_ble_eq_true rfl) (by decide) rfl hw.o (e6_here hw hS hx hb hn (by omega) (by omega))) ?_
          refine ex_of (fun _ _ => ev_iaddI (pc' := 84) dX6_readsNumber_83 rfl) ?_
          refine ex_of (fun _ _ => ev_bipush (pc' := 86) (iI (48)) dX6_readsNumber_84 rfl (by decide)) ?_
          refine ex_of (fun _ _ => ev_isubI (pc' := 87) dX6_readsNumber_86 rfl) ?_
          refine xput_14 (pc' := 90) dX6_readsNumber_87 rfl hw fr (fun h hw fr => ?_)
          refine ex_of (fun _ _ => ev_aload_n (pc' := 91) dX6_readsNumber_90 rfl rfl) ?_
          refine ex_of (fun _ _ => ev_dup (pc' := 92) dX6_readsNumber_91 rfl rfl) ?_
          refine ex_of (fun _ _ => ev_getfield (pc' := 95) fX6_56 dX6_readsNumber_92 rfl hw.o rfl) ?_
          refine ex_of (fun _ _ => ev_iconst (pc' := 96) (iI (1)) dX6_readsNumber_95 rfl (by decide)) ?_
          refine ex_of (fun _ _ => ev_iaddI (pc' := 97) dX6_readsNumber_96 rfl) ?_
          refine xput_11 (pc' := 100) dX6_readsNumber_97 rfl hw fr (fun h hw fr => ?_)
          refine ex_of (fun _ _ => ev_iincI_1 (pc' := 103) dX6_readsNumber_100 rfl (by decide) rfl) ?_
          refine ex_of (fun _ _ => ev_goto (tgt := 42) dX6_readsNumber_103 (by decide)) ?_
          have hr2 : rdL (txt A b) n c (10 * v + chr (txt A b) n p - 48) (p + 1) = r := by
            rw [← hr]
            conv => rhs; unfold rdL
            rw [if_pos (by omega)]
          exact ih (k + 1) _ _ _ _ (by omega) hr2 hw fr ⟨by rw [upN_n (by decide), upN_n (by decide)]; exact x1, by rw [upN_n (by decide), upN_n (by decide)]; exact x2, by rw [upN_s, upN_n (by decide), x3]⟩ (by rw [upN_n (by decide), upN_s]) (fun j h1 h2 => by rw [upN_n h1, upN_n h2]; exact hj j h1 h2) (by omega) (by omega) (by omega)
theorem e6_readsNumber {b n p : Int} (hw : MW h o A) (hS : mSh A) (hx : mTx o b n p) (hb : 0 ≤ b ∧ b ≤ 700) (hn : 0 ≤ n ∧ n ≤ 100) (hp : 0 ≤ p) (hp2 : p ≤ 900) (ht : 0 ≤ o 15 ∧ o 15 ≤ 2) : Ex l 2 yX6_readsNumber.cls yX6_readsNumber.name cX6_readsNumber 2 (some .boolean) 0 [some (.ref 34), none] [] h (fun v h2 => v = some (.int (b2i (decide (48 ≤ chr (txt A b) n p ∧ chr (txt A b) n p ≤ 57)))) ∧ ∃ o2 N2, MW h2 o2 (upA A 9 N2) ∧ FrM h h2 ∧ mTx o2 b n (if 48 ≤ chr (txt A b) n p ∧ chr (txt A b) n p ≤ 57 then rdP (txt A b) n p else p) ∧ (∀ j, j < 11 ∨ j = 16 → o2 j = o j) ∧ (48 ≤ chr (txt A b) n p ∧ chr (txt A b) n p ≤ 57 → N2 = upI (A 9) (o 15) (rdV (txt A b) n p) ∧ o2 15 = o 15 + 1) ∧ (¬ (48 ≤ chr (txt A b) n p ∧ chr (txt A b) n p ≤ 57) → o2 15 = o 15)) := by
  have fr := FrM.rf h
  have zc := chr_b hS hb hn hp
  obtain ⟨x1, x2, x3⟩ := id hx
  refine ex_of (fun _ _ => ev_aload_n (pc' := 1) dX6_readsNumber_0 rfl rfl) ?_
  refine ex_of (fun _ _ => ev_callV0 (pc' := 4) kX6_65 mX6_here dX6_readsNumber_1 rfl rfl (Nat.le_of_ble_eq_true rfl) (Nat.le_of_ble_eq_true rfl) (by decide) rfl hw.o (e6_here hw hS hx hb hn (by omega) (by omega))) ?_
  refine ex_of (fun _ _ => ev_i2lI (pc' := 5) dX6_readsNumber_4 rfl (by omega)) ?_
  refine ex_of (fun _ _ => ev_ldc2I (pc' := 8) (48) nX6_69 dX6_readsNumber_5 rfl (by decide)) ?_
  refine ex_of (fun _ _ => ev_ldc2I (pc' := 11) (57) nX6_71 dX6_readsNumber_8 rfl (by decide)) ?_
  refine ex_of (fun _ _ => ev_callS3 (pc' := 14) kX6_48 mX6_isIn dX6_readsNumber_11 rfl rfl (Nat.le_of_ble_eq_true rfl) (Nat.le_of_ble_eq_true rfl) (by decide) (e6_isIn (by omega) (by omega) (by omega))) ?_
  refine ex_ifd_ne (pc' := 17) (tgt := 19) dX6_readsNumber_14 (by decide) rfl (fun c14 => ?_) (fun c14 => ?_)
  · refine ex_of (fun _ _ => ev_aload_n (pc' := 20) dX6_readsNumber_19 rfl rfl) ?_
    refine ex_of (fun _ _ => ev_aload_n (pc' := 21) dX6_readsNumber_20 rfl rfl) ?_
    refine ex_of (fun _ _ => ev_callV0 (pc' := 24) kX6_65 mX6_here dX6_readsNumber_21 rfl rfl (Nat.le_of_ble_eq_true rfl) (Nat.le_of_ble_eq_true rfl) (by decide) rfl hw.o (e6_here hw hS hx hb hn (by omega) (by omega))) ?_
    refine ex_of (fun _ _ => ev_bipush (pc' := 26) (iI (48)) dX6_readsNumber_24 rfl (by decide)) ?_
    refine ex_of (fun _ _ => ev_isubI (pc' := 27) dX6_readsNumber_26 rfl) ?_
    refine xput_14 (pc' := 30) dX6_readsNumber_27 rfl hw fr (fun h hw fr => ?_)
    refine ex_of (fun _ _ => ev_aload_n (pc' := 31) dX6_readsNumber_30 rfl rfl) ?_
    refine ex_of (fun _ _ => ev_dup (pc' := 32) dX6_readsNumber_31 rfl rfl) ?_
    refine ex_of (fun _ _ => ev_getfield (pc' := 35) fX6_56 dX6_readsNumber_32 rfl hw.o rfl) ?_
    refine ex_of (fun _ _ => ev_iconst (pc' := 36) (iI (1)) dX6_readsNumber_35 rfl (by decide)) ?_
    refine ex_of (fun _ _ => ev_iaddI (pc' := 37) dX6_readsNumber_36 rfl) ?_
    refine xput_11 (pc' := 40) dX6_readsNumber_37 rfl hw fr (fun h hw fr => ?_)
    refine ex_of (fun _ _ => ev_iconst (pc' := 41) (iI (1)) dX6_readsNumber_40 rfl (by decide)) ?_
    refine ex_of (fun _ _ => ev_istore_1 (pc' := 42) dX6_readsNumber_41 rfl (by decide) rfl) ?_
    have zr := rd_b (T := txt A b) (n := n) (p := p) (by omega)
    refine e6_rnL (l := l) (o0 := o) (b := b) (n := n) hS hb hn _ rfl (rdV (txt A b) n p, rdP (txt A b) n p) (fun h2 o2 a1 hw fr hx hv hj => ?_) 2 1 _ _ _ _ (by omega) rfl hw fr ⟨by rw [upN_n (by decide), upN_n (by decide)]; exact x1, by rw [upN_n (by decide), upN_n (by decide)]; exact x2, by rw [upN_s, upN_n (by decide), x3]⟩ (by rw [upN_n (by decide), upN_s]) (fun j h1 h2 => by rw [upN_n h1, upN_n h2]) (by omega) (by omega) (by omega)
    have j15 : o2 15 = o 15 := hj 15 (by decide) (by decide)
    have hv2 : o2 14 = rdV (txt A b) n p := hv
    obtain ⟨w1, w2, w3⟩ := hx
    refine ex_of (fun _ _ => ev_aload_n (pc' := 107) dX6_readsNumber_106 rfl rfl) ?_
    refine ex_of (fun _ _ => ev_getfield (pc' := 110) fX6_38 dX6_readsNumber_107 rfl hw.o rfl) ?_
    refine ex_of (fun _ _ => ev_aload_n (pc' := 111) dX6_readsNumber_110 rfl rfl) ?_
    refine ex_of (fun _ _ => ev_getfield (pc' := 114) fX6_76 dX6_readsNumber_111 rfl hw.o rfl) ?_
    refine ex_of (fun _ _ => ev_aload_n (pc' := 115) dX6_readsNumber_114 rfl rfl) ?_
    refine ex_of (fun _ _ => ev_getfield (pc' := 118) fX6_73 dX6_readsNumber_115 rfl hw.o rfl) ?_
    rw [j15, hv2]
    refine xst_9 (pc' := 119) dX6_readsNumber_118 rfl hw fr (by omega) (fun h hw fr => ?_)
    refine ex_of (fun _ _ => ev_aload_n (pc' := 120) dX6_readsNumber_119 rfl rfl) ?_
    refine ex_of (fun _ _ => ev_dup (pc' := 121) dX6_readsNumber_120 rfl rfl) ?_
    refine ex_of (fun _ _ => ev_getfield (pc' := 124) fX6_76 dX6_readsNumber_121 rfl hw.o rfl) ?_
    rw [j15]
    refine ex_of (fun _ _ => ev_iconst (pc' := 125) (iI (1)) dX6_readsNumber_124 rfl (by decide)) ?_
    refine ex_of (fun _ _ => ev_iaddI (pc' := 126) dX6_readsNumber_125 rfl) ?_
    refine xput_15 (pc' := 129) dX6_readsNumber_126 rfl hw fr (fun h hw fr => ?_)
    refine ex_of (fun _ _ => ev_iconst (pc' := 130) (iI (1)) dX6_readsNumber_129 rfl (by decide)) ?_
    exact ex_end (ev_iret dX6_readsNumber_130 rfl) (⟨by rw [decide_eq_true (by omega)]; rfl, _, _, hw, fr, by rw [if_pos (by omega)]; exact ⟨by rw [upN_n (by decide)]; exact w1, by rw [upN_n (by decide)]; exact w2, by rw [upN_n (by decide)]; exact w3⟩, fun j hj2 => by rw [upN_n (by omega)]; exact hj j (by omega) (by omega), fun _ => ⟨rfl, by rw [upN_s]⟩, fun q => absurd (by omega) q⟩)
  · refine ex_of (fun _ _ => ev_iconst (pc' := 18) (iI (0)) dX6_readsNumber_17 rfl (by decide)) ?_
    exact ex_end (ev_iret dX6_readsNumber_18 rfl) (⟨by rw [decide_eq_false (by omega)]; rfl, o, A 9, by rw [upA_id]; exact hw, fr, by rw [if_neg (by omega)]; exact hx, fun _ _ => rfl, fun q => absurd q (by omega), fun _ => rfl⟩)
end MU
