section MV
variable {l : Launch} {A : Nat → Int → Int} {h : ev_H} {o : Nat → Int}
theorem mSh_9 {N : Int → Int} (hS : mSh A) : mSh (upA A 9 N) := hS
theorem txt_9 (N : Int → Int) (b : Int) : txt (upA A 9 N) b = txt A b := rfl
def tE (T : Int → Int) (n c q : Int) : Int := if c = 112 ∧ (chr T n q = 43 ∨ chr T n q = 45) then q + 1 else q
def tG (T : Int → Int) (n c q : Int) : Int := if c = 112 ∧ chr T n q = 43 then 1 else if c = 112 ∧ chr T n q = 45 then -1 else 0
theorem e6_rsU {h0 : ev_H} {b n p : Int} {a1 a2 : Option Value} (hw : MW h o A) (hS : mSh A) (hx : mTx o b n p) (hb : 0 ≤ b ∧ b ≤ 700) (hn : 0 ≤ n ∧ n ≤ 100) (hp : 0 ≤ p ∧ p ≤ 800) (fr : FrM h0 h) : Ex l 3 yX6_readsStatement.cls yX6_readsStatement.name cX6_readsStatement 3 (some .boolean) 144 [some (.ref 34), a1, a2] [] h (fun v h2 => v = some (.int (b2i (decide (chr (txt A b) n p = 59)))) ∧ ∃ o2, MW h2 o2 A ∧ FrM h0 h2 ∧ mTx o2 b n (if chr (txt A b) n p = 59 then p + 1 else p) ∧ ∀ j, j ≠ 11 → o2 j = o j) := by
  refine ex_of (fun _ _ => ev_aload_n (pc' := 145) dX6_readsStatement_144 rfl rfl) ?_
  refine ex_of (fun _ _ => ev_bipush (pc' := 147) (iI (59)) dX6_readsStatement_145 rfl (by decide)) ?_
  have hO := hw.o
  obtain ⟨w1, h1, E1, rfl, o1, hw, fr1, hx1, hj1⟩ := e6_takes (l := l) (p := p) (c := 59) hw hS hx hb hn (by omega) (by omega) (by omega)
  refine ex_of (fun _ _ => ev_callV1 (pc' := 150) kX6_86 mX6_takes dX6_readsStatement_147 rfl rfl (Nat.le_of_ble_eq_true rfl) (Nat.le_of_ble_eq_true rfl) (by decide) rfl hO E1) ?_
  exact ex_end (ev_iret dX6_readsStatement_150 (b2i_nar _)) (⟨rfl, o1, hw, fr.tr fr1, hx1, hj1⟩)
theorem e6_rsT {h0 : ev_H} {b n p c : Int} {a2 : Option Value} (hw : MW h o A) (hS : mSh A) (hx : mTx o b n p) (hb : 0 ≤ b ∧ b ≤ 700) (hn : 0 ≤ n ∧ n ≤ 100) (hp : 0 ≤ p ∧ p ≤ 800) (fr : FrM h0 h) (h16 : o 16 = 0) (rc : -2147483648 ≤ c ∧ c < 2147483648) (hp3 : p ≤ 700) : Ex l 3 yX6_readsStatement.cls yX6_readsStatement.name cX6_readsStatement 3 (some .boolean) 92 [some (.ref 34), some (.int (iI c)), a2] [] h (fun v h2 => v = some (.int (b2i (decide (chr (txt A b) n (tE (txt A b) n c p) = 59)))) ∧ ∃ o2, MW h2 o2 A ∧ FrM h0 h2 ∧ mTx o2 b n (if chr (txt A b) n (tE (txt A b) n c p) = 59 then tE (txt A b) n c p + 1 else tE (txt A b) n c p) ∧ (∀ j, j ≠ 11 → j ≠ 16 → o2 j = o j) ∧ o2 16 = tG (txt A b) n c p) := by
  have zc := chr_b hS hb hn hp.1
  obtain ⟨x1, x2, x3⟩ := id hx
  refine ex_of (fun _ _ => ev_iload_n (pc' := 93) dX6_readsStatement_92 rfl rfl) ?_
  refine ex_of (fun _ _ => ev_bipush (pc' := 95) (iI (112)) dX6_readsStatement_93 rfl (by decide)) ?_
  refine ex_icmpI_ne (pc' := 98) (tgt := 144) dX6_readsStatement_95 (by decide) rfl (by omega) (by omega) (fun c95 => ?_) (fun c95 => ?_)
  · rw [show tE (txt A b) n c p = p by unfold tE; rw [if_neg (by omega)], show tG (txt A b) n c p = 0 by unfold tG; rw [if_neg (by omega), if_neg (by omega)]]
    refine Ex.mono (e6_rsU hw hS hx hb hn hp fr) (fun v h2 q => ?_)
    obtain ⟨q1, o2, q2, q3, q4, q5⟩ := q
    exact ⟨q1, o2, q2, q3, q4, fun j h1 _ => q5 j h1, (q5 16 (by decide)).trans h16⟩
  · refine ex_of (fun _ _ => ev_aload_n (pc' := 99) dX6_readsStatement_98 rfl rfl) ?_
    refine ex_of (fun _ _ => ev_callV0 (pc' := 102) kX6_65 mX6_here dX6_readsStatement_99 rfl rfl (Nat.le_of_ble_eq_true rfl) (Nat.le_of_ble_eq_true rfl) (by decide) rfl hw.o (e6_here hw hS hx hb hn (by omega) (by omega))) ?_
    refine ex_of (fun _ _ => ev_bipush (pc' := 104) (iI (43)) dX6_readsStatement_102 rfl (by decide)) ?_
    refine ex_icmpI_eq (pc' := 107) (tgt := 116) dX6_readsStatement_104 (by decide) rfl (by omega) (by omega) (fun c104 => ?_) (fun c104 => ?_)
    · by_cases cs : chr (txt A b) n p = 43
      · skip
        refine ex_of (fun _ _ => ev_aload_n (pc' := 117) dX6_readsStatement_116 rfl rfl) ?_
        refine ex_of (fun _ _ => ev_aload_n (pc' := 118) dX6_readsStatement_117 rfl rfl) ?_
        refine ex_of (fun _ _ => ev_callV0 (pc' := 121) kX6_65 mX6_here dX6_readsStatement_118 rfl rfl (Nat.le_of_ble_eq_true rfl) (Nat.le_of_ble_eq_true rfl) (by decide) rfl hw.o (e6_here hw hS hx hb hn (by omega) (by omega))) ?_
        refine ex_of (fun _ _ => ev_bipush (pc' := 123) (iI (43)) dX6_readsStatement_121 rfl (by decide)) ?_
        refine ex_icmpI_ne (pc' := 126) (tgt := 130) dX6_readsStatement_123 (by decide) rfl (by omega) (by omega) (fun c123 => ?_) (fun c123 => ?_)
        · omega
        · refine ex_of (fun _ _ => ev_iconst (pc' := 127) (iI (1)) dX6_readsStatement_126 rfl (by decide)) ?_
          refine ex_of (fun _ _ => ev_goto (tgt := 131) dX6_readsStatement_127 (by decide)) ?_
          refine xput_16 (pc' := 134) dX6_readsStatement_131 rfl hw fr (fun h hw fr => ?_)
          refine ex_of (fun _ _ => ev_aload_n (pc' := 135) dX6_readsStatement_134 rfl rfl) ?_
          refine ex_of (fun _ _ => ev_dup (pc' := 136) dX6_readsStatement_135 rfl rfl) ?_
          refine ex_of (fun _ _ => ev_getfield (pc' := 139) fX6_56 dX6_readsStatement_136 rfl hw.o rfl) ?_
          rw [upN_n (by decide), x3]
          refine ex_of (fun _ _ => ev_iconst (pc' := 140) (iI (1)) dX6_readsStatement_139 rfl (by decide)) ?_
          refine ex_of (fun _ _ => ev_iaddI (pc' := 141) dX6_readsStatement_140 rfl) ?_
          refine xput_11 (pc' := 144) dX6_readsStatement_141 rfl hw fr (fun h hw fr => ?_)
          rw [show tE (txt A b) n c p = p + 1 by unfold tE; rw [if_pos (by omega)], show tG (txt A b) n c p = 1 by unfold tG; rw [if_pos (by omega)]]
          have hx2 : mTx (upN (upN o 16 (1)) 11 (p + 1)) b n (p + 1) := ⟨by rw [upN_n (by decide), upN_n (by decide)]; exact x1, by rw [upN_n (by decide), upN_n (by decide)]; exact x2, by rw [upN_s]⟩
          refine Ex.mono (e6_rsU (p := p + 1) hw hS hx2 hb hn (by omega) fr) (fun v h2 q => ?_)
          obtain ⟨q1, o2, q2, q3, q4, q5⟩ := q
          exact ⟨q1, o2, q2, q3, q4, fun j h1 h2 => by rw [q5 j h1, upN_n h1, upN_n h2], by rw [q5 16 (by decide), upN_n (by decide), upN_s]⟩
      · skip
        refine ex_of (fun _ _ => ev_aload_n (pc' := 117) dX6_readsStatement_116 rfl rfl) ?_
        refine ex_of (fun _ _ => ev_aload_n (pc' := 118) dX6_readsStatement_117 rfl rfl) ?_
        refine ex_of (fun _ _ => ev_callV0 (pc' := 121) kX6_65 mX6_here dX6_readsStatement_118 rfl rfl (Nat.le_of_ble_eq_true rfl) (Nat.le_of_ble_eq_true rfl) (by decide) rfl hw.o (e6_here hw hS hx hb hn (by omega) (by omega))) ?_
        refine ex_of (fun _ _ => ev_bipush (pc' := 123) (iI (43)) dX6_readsStatement_121 rfl (by decide)) ?_
        refine ex_icmpI_ne (pc' := 126) (tgt := 130) dX6_readsStatement_123 (by decide) rfl (by omega) (by omega) (fun c123 => ?_) (fun c123 => ?_)
        · refine ex_of (fun _ _ => ev_iconst (pc' := 131) (iI (-1)) dX6_readsStatement_130 rfl (by decide)) ?_
          refine xput_16 (pc' := 134) dX6_readsStatement_131 rfl hw fr (fun h hw fr => ?_)
          refine ex_of (fun _ _ => ev_aload_n (pc' := 135) dX6_readsStatement_134 rfl rfl) ?_
          refine ex_of (fun _ _ => ev_dup (pc' := 136) dX6_readsStatement_135 rfl rfl) ?_
          refine ex_of (fun _ _ => ev_getfield (pc' := 139) fX6_56 dX6_readsStatement_136 rfl hw.o rfl) ?_
          rw [upN_n (by decide), x3]
          refine ex_of (fun _ _ => ev_iconst (pc' := 140) (iI (1)) dX6_readsStatement_139 rfl (by decide)) ?_
          refine ex_of (fun _ _ => ev_iaddI (pc' := 141) dX6_readsStatement_140 rfl) ?_
          refine xput_11 (pc' := 144) dX6_readsStatement_141 rfl hw fr (fun h hw fr => ?_)
          rw [show tE (txt A b) n c p = p + 1 by unfold tE; rw [if_pos (by omega)], show tG (txt A b) n c p = -1 by unfold tG; rw [if_neg (by omega), if_pos (by omega)]]
          have hx2 : mTx (upN (upN o 16 (-1)) 11 (p + 1)) b n (p + 1) := ⟨by rw [upN_n (by decide), upN_n (by decide)]; exact x1, by rw [upN_n (by decide), upN_n (by decide)]; exact x2, by rw [upN_s]⟩
          refine Ex.mono (e6_rsU (p := p + 1) hw hS hx2 hb hn (by omega) fr) (fun v h2 q => ?_)
          obtain ⟨q1, o2, q2, q3, q4, q5⟩ := q
          exact ⟨q1, o2, q2, q3, q4, fun j h1 h2 => by rw [q5 j h1, upN_n h1, upN_n h2], by rw [q5 16 (by decide), upN_n (by decide), upN_s]⟩
        · omega
    · refine ex_of (fun _ _ => ev_aload_n (pc' := 108) dX6_readsStatement_107 rfl rfl) ?_
      refine ex_of (fun _ _ => ev_callV0 (pc' := 111) kX6_65 mX6_here dX6_readsStatement_108 rfl rfl (Nat.le_of_ble_eq_true rfl) (Nat.le_of_ble_eq_true rfl) (by decide) rfl hw.o (e6_here hw hS hx hb hn (by omega) (by omega))) ?_
      refine ex_of (fun _ _ => ev_bipush (pc' := 113) (iI (45)) dX6_readsStatement_111 rfl (by decide)) ?_
      refine ex_icmpI_ne (pc' := 116) (tgt := 144) dX6_readsStatement_113 (by decide) rfl (by omega) (by omega) (fun c113 => ?_) (fun c113 => ?_)
      · rw [show tE (txt A b) n c p = p by unfold tE; rw [if_neg (by omega)], show tG (txt A b) n c p = 0 by unfold tG; rw [if_neg (by omega), if_neg (by omega)]]
        refine Ex.mono (e6_rsU hw hS hx hb hn hp fr) (fun v h2 q => ?_)
        obtain ⟨q1, o2, q2, q3, q4, q5⟩ := q
        exact ⟨q1, o2, q2, q3, q4, fun j h1 _ => q5 j h1, (q5 16 (by decide)).trans h16⟩
      · by_cases cs : chr (txt A b) n p = 43
        · skip
          refine ex_of (fun _ _ => ev_aload_n (pc' := 117) dX6_readsStatement_116 rfl rfl) ?_
          refine ex_of (fun _ _ => ev_aload_n (pc' := 118) dX6_readsStatement_117 rfl rfl) ?_
          refine ex_of (fun _ _ => ev_callV0 (pc' := 121) kX6_65 mX6_here dX6_readsStatement_118 rfl rfl (Nat.le_of_ble_eq_true rfl) (Nat.le_of_ble_eq_true rfl) (by decide) rfl hw.o (e6_here hw hS hx hb hn (by omega) (by omega))) ?_
          refine ex_of (fun _ _ => ev_bipush (pc' := 123) (iI (43)) dX6_readsStatement_121 rfl (by decide)) ?_
          refine ex_icmpI_ne (pc' := 126) (tgt := 130) dX6_readsStatement_123 (by decide) rfl (by omega) (by omega) (fun c123 => ?_) (fun c123 => ?_)
          · omega
          · refine ex_of (fun _ _ => ev_iconst (pc' := 127) (iI (1)) dX6_readsStatement_126 rfl (by decide)) ?_
            refine ex_of (fun _ _ => ev_goto (tgt := 131) dX6_readsStatement_127 (by decide)) ?_
            refine xput_16 (pc' := 134) dX6_readsStatement_131 rfl hw fr (fun h hw fr => ?_)
            refine ex_of (fun _ _ => ev_aload_n (pc' := 135) dX6_readsStatement_134 rfl rfl) ?_
            refine ex_of (fun _ _ => ev_dup (pc' := 136) dX6_readsStatement_135 rfl rfl) ?_
            refine ex_of (fun _ _ => ev_getfield (pc' := 139) fX6_56 dX6_readsStatement_136 rfl hw.o rfl) ?_
            rw [upN_n (by decide), x3]
            refine ex_of (fun _ _ => ev_iconst (pc' := 140) (iI (1)) dX6_readsStatement_139 rfl (by decide)) ?_
            refine ex_of (fun _ _ => ev_iaddI (pc' := 141) dX6_readsStatement_140 rfl) ?_
            refine xput_11 (pc' := 144) dX6_readsStatement_141 rfl hw fr (fun h hw fr => ?_)
            rw [show tE (txt A b) n c p = p + 1 by unfold tE; rw [if_pos (by omega)], show tG (txt A b) n c p = 1 by unfold tG; rw [if_pos (by omega)]]
            have hx2 : mTx (upN (upN o 16 (1)) 11 (p + 1)) b n (p + 1) := ⟨by rw [upN_n (by decide), upN_n (by decide)]; exact x1, by rw [upN_n (by decide), upN_n (by decide)]; exact x2, by rw [upN_s]⟩
            refine Ex.mono (e6_rsU (p := p + 1) hw hS hx2 hb hn (by omega) fr) (fun v h2 q => ?_)
            obtain ⟨q1, o2, q2, q3, q4, q5⟩ := q
            exact ⟨q1, o2, q2, q3, q4, fun j h1 h2 => by rw [q5 j h1, upN_n h1, upN_n h2], by rw [q5 16 (by decide), upN_n (by decide), upN_s]⟩
        · skip
          refine ex_of (fun _ _ => ev_aload_n (pc' := 117) dX6_readsStatement_116 rfl rfl) ?_
          refine ex_of (fun _ _ => ev_aload_n (pc' := 118) dX6_readsStatement_117 rfl rfl) ?_
          refine ex_of (fun _ _ => ev_callV0 (pc' := 121) kX6_65 mX6_here dX6_readsStatement_118 rfl rfl (Nat.le_of_ble_eq_true rfl) (Nat.le_of_ble_eq_true rfl) (by decide) rfl hw.o (e6_here hw hS hx hb hn (by omega) (by omega))) ?_
          refine ex_of (fun _ _ => ev_bipush (pc' := 123) (iI (43)) dX6_readsStatement_121 rfl (by decide)) ?_
          refine ex_icmpI_ne (pc' := 126) (tgt := 130) dX6_readsStatement_123 (by decide) rfl (by omega) (by omega) (fun c123 => ?_) (fun c123 => ?_)
          · refine ex_of (fun _ _ => ev_iconst (pc' := 131) (iI (-1)) dX6_readsStatement_130 rfl (by decide)) ?_
            refine xput_16 (pc' := 134) dX6_readsStatement_131 rfl hw fr (fun h hw fr => ?_)
            refine ex_of (fun _ _ => ev_aload_n (pc' := 135) dX6_readsStatement_134 rfl rfl) ?_
            refine ex_of (fun _ _ => ev_dup (pc' := 136) dX6_readsStatement_135 rfl rfl) ?_
            refine ex_of (fun _ _ => ev_getfield (pc' := 139) fX6_56 dX6_readsStatement_136 rfl hw.o rfl) ?_
            rw [upN_n (by decide), x3]
            refine ex_of (fun _ _ => ev_iconst (pc' := 140) (iI (1)) dX6_readsStatement_139 rfl (by decide)) ?_
            refine ex_of (fun _ _ => ev_iaddI (pc' := 141) dX6_readsStatement_140 rfl) ?_
            refine xput_11 (pc' := 144) dX6_readsStatement_141 rfl hw fr (fun h hw fr => ?_)
            rw [show tE (txt A b) n c p = p + 1 by unfold tE; rw [if_pos (by omega)], show tG (txt A b) n c p = -1 by unfold tG; rw [if_neg (by omega), if_pos (by omega)]]
            have hx2 : mTx (upN (upN o 16 (-1)) 11 (p + 1)) b n (p + 1) := ⟨by rw [upN_n (by decide), upN_n (by decide)]; exact x1, by rw [upN_n (by decide), upN_n (by decide)]; exact x2, by rw [upN_s]⟩
            refine Ex.mono (e6_rsU (p := p + 1) hw hS hx2 hb hn (by omega) fr) (fun v h2 q => ?_)
            obtain ⟨q1, o2, q2, q3, q4, q5⟩ := q
            exact ⟨q1, o2, q2, q3, q4, fun j h1 h2 => by rw [q5 j h1, upN_n h1, upN_n h2], by rw [q5 16 (by decide), upN_n (by decide), upN_s]⟩
          · omega
theorem e6_rn9 {N : Int → Int} {b n p : Int} (hw : MW h o (upA A 9 N)) (hS : mSh A) (hx : mTx o b n p) (hb : 0 ≤ b ∧ b ≤ 700) (hn : 0 ≤ n ∧ n ≤ 100) (hp : 0 ≤ p ∧ p ≤ 800) (ht : 0 ≤ o 15 ∧ o 15 ≤ 2) : Ex l 2 yX6_readsNumber.cls yX6_readsNumber.name cX6_readsNumber 2 (some .boolean) 0 [some (.ref 34), none] [] h (fun v h2 => v = some (.int (b2i (decide (48 ≤ chr (txt A b) n p ∧ chr (txt A b) n p ≤ 57)))) ∧ ∃ o2 N2, MW h2 o2 (upA A 9 N2) ∧ FrM h h2 ∧ mTx o2 b n (if (48 ≤ chr (txt A b) n p ∧ chr (txt A b) n p ≤ 57) then rdP (txt A b) n p else p) ∧ (∀ j, j < 11 ∨ j = 16 → o2 j = o j) ∧ ((48 ≤ chr (txt A b) n p ∧ chr (txt A b) n p ≤ 57) → N2 = upI N (o 15) (rdV (txt A b) n p) ∧ o2 15 = o 15 + 1) ∧ (¬ (48 ≤ chr (txt A b) n p ∧ chr (txt A b) n p ≤ 57) → o2 15 = o 15)) := by
  refine Ex.mono (e6_readsNumber hw (mSh_9 hS) hx hb hn hp.1 (by omega) ht) (fun v h2 q => ?_)
  obtain ⟨q1, o2, N2, q2, q3, q4, q5, q6, q7⟩ := q
  rw [upA_2] at q2
  rw [txt_9] at q1 q4 q6 q7
  exact ⟨q1, o2, N2, q2, q3, q4, q5, q6, q7⟩
theorem e6_tk9 {N : Int → Int} {b n p c : Int} (hw : MW h o (upA A 9 N)) (hS : mSh A) (hx : mTx o b n p) (hb : 0 ≤ b ∧ b ≤ 700) (hn : 0 ≤ n ∧ n ≤ 100) (hp : 0 ≤ p ∧ p ≤ 800) (rc : -2147483648 ≤ c ∧ c < 2147483648) : Ex l 1 yX6_takes.cls yX6_takes.name cX6_takes 2 (some .boolean) 0 [some (.ref 34), some (.int (iI c))] [] h (fun v h2 => v = some (.int (b2i (decide (chr (txt A b) n p = c)))) ∧ ∃ o2, MW h2 o2 (upA A 9 N) ∧ FrM h h2 ∧ mTx o2 b n (if chr (txt A b) n p = c then p + 1 else p) ∧ ∀ j, j ≠ 11 → o2 j = o j) := by
  refine Ex.mono (e6_takes hw (mSh_9 hS) hx hb hn hp.1 (by omega) rc) (fun v h2 q => ?_)
  rw [txt_9] at q
  exact q
def rsP (A : Nat → Int → Int) (o : Nat → Int) (b n p : Int) (h0 : ev_H) : Option Value → ev_H → Prop := fun v h2 => v = some (.int (b2i (stK (txt A b) n p))) ∧ ∃ o2 N2, MW h2 o2 (upA A 9 N2) ∧ FrM h0 h2 ∧ mTx o2 b n (stP (txt A b) n p) ∧ (∀ j, j < 11 → o2 j = o j) ∧ (stOK (txt A b) n p → N2 0 = rdV (txt A b) n (p + 1) ∧ (chr (txt A b) n p ≠ 108 → N2 1 = rdV (txt A b) n (st0 (txt A b) n p + 1) ∧ N2 2 = rdV (txt A b) n (st1 (txt A b) n p + 1)) ∧ o2 16 = stG (txt A b) n p)
theorem stK_f {T : Int → Int} {n p : Int} (h : ¬ stOK T n p) : stK T n p = false := by
  cases e : stK T n p
  · rfl
  · exact absurd (stK_iff.mp e) h
/-- what the reference's reading of a statement leaves, if it isn't one -/
theorem rsP_f {A : Nat → Int → Int} {o o2 : Nat → Int} {b n p : Int} {h0 h : ev_H} {N : Int → Int} (hk : ¬ stOK (txt A b) n p) (hw : MW h o2 (upA A 9 N)) (fr : FrM h0 h) (hx : mTx o2 b n (stP (txt A b) n p)) (hj : ∀ j, j < 11 → o2 j = o j) : rsP A o b n p h0 (some (.int (iI 0))) h := ⟨by rw [stK_f hk]; rfl, o2, N, hw, fr, hx, hj, fun q => absurd q hk⟩
theorem e6_rsM {h0 : ev_H} {b n p : Int} (hw : MW h (upN (upN o 15 0) 16 0) (upA A 9 (A 9))) (fr : FrM h0 h) (hS : mSh A) (hx : mTx o b n p) (hb : 0 ≤ b ∧ b ≤ 700) (hn : 0 ≤ n ∧ n ≤ 100) (hp : 0 ≤ p ∧ p ≤ 100) (hc : chr (txt A b) n p = 112 ∨ chr (txt A b) n p = 108 ∨ chr (txt A b) n p = 119) : Ex l 3 yX6_readsStatement.cls yX6_readsStatement.name cX6_readsStatement 3 (some .boolean) 35 [some (.ref 34), some (.int (iI (chr (txt A b) n p))), none] [] h (rsP A o b n p h0) := by
  have zc := chr_b hS hb hn hp.1
  obtain ⟨x1, x2, x3⟩ := id hx
  refine ex_of (fun _ _ => ev_aload_n (pc' := 36) dX6_readsStatement_35 rfl rfl) ?_
  refine ex_of (fun _ _ => ev_dup (pc' := 37) dX6_readsStatement_36 rfl rfl) ?_
  refine ex_of (fun _ _ => ev_getfield (pc' := 40) fX6_56 dX6_readsStatement_37 rfl hw.o rfl) ?_
  rw [upN_n (by decide), upN_n (by decide), x3]
  refine ex_of (fun _ _ => ev_iconst (pc' := 41) (iI (1)) dX6_readsStatement_40 rfl (by decide)) ?_
  refine ex_of (fun _ _ => ev_iaddI (pc' := 42) dX6_readsStatement_41 rfl) ?_
  refine xput_11 (pc' := 45) dX6_readsStatement_42 rfl hw fr (fun h hw fr => ?_)
  have hx0 : mTx (upN (upN (upN o 15 0) 16 0) 11 (p + 1)) b n (p + 1) := ⟨by rw [upN_n (by decide), upN_n (by decide), upN_n (by decide)]; exact x1, by rw [upN_n (by decide), upN_n (by decide), upN_n (by decide)]; exact x2, by rw [upN_s]⟩
  have ht0 : upN (upN (upN o 15 0) 16 0) 11 (p + 1) 15 = 0 := by rw [upN_n (by decide), upN_n (by decide), upN_s]
  refine ex_of (fun _ _ => ev_aload_n (pc' := 46) dX6_readsStatement_45 rfl rfl) ?_
  have hO := hw.o
  obtain ⟨w1, h1, E1, rfl, o1, N1, hw, fr1, hx1, hj1, hd1, hf1⟩ := e6_rn9 (l := l) (p := p + 1) hw hS hx0 hb hn (by omega) (by omega)
  refine ex_of (fun _ _ => ev_callV0 (pc' := 49) kX6_82 mX6_readsNumber dX6_readsStatement_46 rfl rfl (Nat.le_of_ble_eq_true rfl) (Nat.le_of_ble_eq_true rfl) (by decide) rfl hO E1) ?_
  have fr := fr.tr fr1
  refine ex_ifd_ne (pc' := 52) (tgt := 54) dX6_readsStatement_49 (by decide) rfl (fun c49 => ?_) (fun c49 => ?_)
  · refine ex_of (fun _ _ => ev_iload_n (pc' := 55) dX6_readsStatement_54 rfl rfl) ?_
    refine ex_of (fun _ _ => ev_bipush (pc' := 57) (iI (108)) dX6_readsStatement_55 rfl (by decide)) ?_
    refine ex_icmpI_ne (pc' := 60) (tgt := 64) dX6_readsStatement_57 (by decide) rfl (by omega) (by omega) (fun c57 => ?_) (fun c57 => ?_)
    · refine ex_of (fun _ _ => ev_iconst (pc' := 65) (iI (3)) dX6_readsStatement_64 rfl (by decide)) ?_
      refine ex_of (fun _ _ => ev_istore_2 (pc' := 66) dX6_readsStatement_65 rfl (by decide) rfl) ?_
      rw [if_pos c49] at hx1
      obtain ⟨n1, t1⟩ := hd1 c49
      have b1 := rd_b c49
      have e1 : rdP (txt A b) n (p + 1) = st0 (txt A b) n p := rfl
      rw [e1] at b1 hx1
      rw [upN_n (by decide), upN_n (by decide), upN_s] at n1 t1
      refine ex_of (fun _ _ => ev_aload_n (pc' := 67) dX6_readsStatement_66 rfl rfl) ?_
      refine ex_of (fun _ _ => ev_getfield (pc' := 70) fX6_76 dX6_readsStatement_67 rfl hw.o rfl) ?_
      refine ex_of (fun _ _ => ev_iload_n (pc' := 71) dX6_readsStatement_70 rfl rfl) ?_
      rw [t1]
      refine ex_icmpI_ge (pc' := 74) (tgt := 92) dX6_readsStatement_71 (by decide) rfl (by omega) (by omega) (fun c71 => ?_) (fun c71 => ?_)
      · omega
      · refine ex_of (fun _ _ => ev_aload_n (pc' := 75) dX6_readsStatement_74 rfl rfl) ?_
        refine ex_of (fun _ _ => ev_bipush (pc' := 77) (iI (32)) dX6_readsStatement_75 rfl (by decide)) ?_
        have hO := hw.o
        obtain ⟨w1, h1, E1, rfl, o2, hw, fr2, hx2, hj2⟩ := e6_tk9 (l := l) (p := st0 (txt A b) n p) (c := 32) hw hS hx1 hb hn (by omega) (by omega)
        refine ex_of (fun _ _ => ev_callV1 (pc' := 80) kX6_86 mX6_takes dX6_readsStatement_77 rfl rfl (Nat.le_of_ble_eq_true rfl) (Nat.le_of_ble_eq_true rfl) (by decide) rfl hO E1) ?_
        have fr := fr.tr fr2
        refine ex_ifd_eq (pc' := 83) (tgt := 90) dX6_readsStatement_80 (by decide) rfl (fun c80 => ?_) (fun c80 => ?_)
        · rw [if_neg c80] at hx2
          refine ex_of (fun _ _ => ev_iconst (pc' := 91) (iI (0)) dX6_readsStatement_90 rfl (by decide)) ?_
          exact ex_end (ev_iret dX6_readsStatement_91 rfl) (rsP_f (by unfold stOK; omega) hw fr (by rw [show stP (txt A b) n p = st0 (txt A b) n p by unfold stP; (repeat (first | rw [if_pos (by omega)] | rw [if_neg (by omega)]))]; exact hx2) (fun j hj => by rw [hj2 j (by omega)]; rw [hj1 j (by omega), upN_n (by omega), upN_n (by omega), upN_n (by omega)]))
        · rw [if_pos c80] at hx2
          have j15 := hj2 15 (by decide)
          have c80a := c80
          refine ex_of (fun _ _ => ev_aload_n (pc' := 84) dX6_readsStatement_83 rfl rfl) ?_
          have hO := hw.o
          obtain ⟨w1, h1, E1, rfl, o3, N3, hw, fr3, hx3, hj3, hd3, hf3⟩ := e6_rn9 (l := l) (p := st0 (txt A b) n p + 1) hw hS hx2 hb hn (by omega) (by omega)
          refine ex_of (fun _ _ => ev_callV0 (pc' := 87) kX6_82 mX6_readsNumber dX6_readsStatement_84 rfl rfl (Nat.le_of_ble_eq_true rfl) (Nat.le_of_ble_eq_true rfl) (by decide) rfl hO E1) ?_
          have fr := fr.tr fr3
          refine ex_ifd_ne (pc' := 90) (tgt := 66) dX6_readsStatement_87 (by decide) rfl (fun c87 => ?_) (fun c87 => ?_)
          · rw [if_pos c87] at hx3
            have c87a := c87
            obtain ⟨n3, t3⟩ := hd3 c87
            rw [j15, t1] at n3 t3
            have b3 := rd_b c87
            have e3 : rdP (txt A b) n (st0 (txt A b) n p + 1) = st1 (txt A b) n p := rfl
            rw [e3] at b3 hx3
            refine ex_of (fun _ _ => ev_aload_n (pc' := 67) dX6_readsStatement_66 rfl rfl) ?_
            refine ex_of (fun _ _ => ev_getfield (pc' := 70) fX6_76 dX6_readsStatement_67 rfl hw.o rfl) ?_
            refine ex_of (fun _ _ => ev_iload_n (pc' := 71) dX6_readsStatement_70 rfl rfl) ?_
            rw [t3]
            refine ex_icmpI_ge (pc' := 74) (tgt := 92) dX6_readsStatement_71 (by decide) rfl (by omega) (by omega) (fun c71 => ?_) (fun c71 => ?_)
            · omega
            · refine ex_of (fun _ _ => ev_aload_n (pc' := 75) dX6_readsStatement_74 rfl rfl) ?_
              refine ex_of (fun _ _ => ev_bipush (pc' := 77) (iI (32)) dX6_readsStatement_75 rfl (by decide)) ?_
              have hO := hw.o
              obtain ⟨w1, h1, E1, rfl, o4, hw, fr4, hx4, hj4⟩ := e6_tk9 (l := l) (p := st1 (txt A b) n p) (c := 32) hw hS hx3 hb hn (by omega) (by omega)
              refine ex_of (fun _ _ => ev_callV1 (pc' := 80) kX6_86 mX6_takes dX6_readsStatement_77 rfl rfl (Nat.le_of_ble_eq_true rfl) (Nat.le_of_ble_eq_true rfl) (by decide) rfl hO E1) ?_
              have fr := fr.tr fr4
              refine ex_ifd_eq (pc' := 83) (tgt := 90) dX6_readsStatement_80 (by decide) rfl (fun c80 => ?_) (fun c80 => ?_)
              · rw [if_neg c80] at hx4
                refine ex_of (fun _ _ => ev_iconst (pc' := 91) (iI (0)) dX6_readsStatement_90 rfl (by decide)) ?_
                exact ex_end (ev_iret dX6_readsStatement_91 rfl) (rsP_f (by unfold stOK; omega) hw fr (by rw [show stP (txt A b) n p = st1 (txt A b) n p by unfold stP; (repeat (first | rw [if_pos (by omega)] | rw [if_neg (by omega)]))]; exact hx4) (fun j hj => by rw [hj4 j (by omega)]; rw [hj3 j (by omega)]; rw [hj2 j (by omega)]; rw [hj1 j (by omega), upN_n (by omega), upN_n (by omega), upN_n (by omega)]))
              · rw [if_pos c80] at hx4
                have j15 := hj4 15 (by decide)
                refine ex_of (fun _ _ => ev_aload_n (pc' := 84) dX6_readsStatement_83 rfl rfl) ?_
                have hO := hw.o
                obtain ⟨w1, h1, E1, rfl, o5, N5, hw, fr5, hx5, hj5, hd5, hf5⟩ := e6_rn9 (l := l) (p := st1 (txt A b) n p + 1) hw hS hx4 hb hn (by omega) (by omega)
                refine ex_of (fun _ _ => ev_callV0 (pc' := 87) kX6_82 mX6_readsNumber dX6_readsStatement_84 rfl rfl (Nat.le_of_ble_eq_true rfl) (Nat.le_of_ble_eq_true rfl) (by decide) rfl hO E1) ?_
                have fr := fr.tr fr5
                refine ex_ifd_ne (pc' := 90) (tgt := 66) dX6_readsStatement_87 (by decide) rfl (fun c87 => ?_) (fun c87 => ?_)
                · rw [if_pos c87] at hx5
                  obtain ⟨n5, t5⟩ := hd5 c87
                  rw [j15, t3] at n5 t5
                  have b5 := rd_b c87
                  have e5 : rdP (txt A b) n (st1 (txt A b) n p + 1) = st2 (txt A b) n p := rfl
                  rw [e5] at b5 hx5
                  refine ex_of (fun _ _ => ev_aload_n (pc' := 67) dX6_readsStatement_66 rfl rfl) ?_
                  refine ex_of (fun _ _ => ev_getfield (pc' := 70) fX6_76 dX6_readsStatement_67 rfl hw.o rfl) ?_
                  refine ex_of (fun _ _ => ev_iload_n (pc' := 71) dX6_readsStatement_70 rfl rfl) ?_
                  rw [t5]
                  refine ex_icmpI_ge (pc' := 74) (tgt := 92) dX6_readsStatement_71 (by decide) rfl (by omega) (by omega) (fun c71 => ?_) (fun c71 => ?_)
                  · have hT := e6_rsT (l := l) (p := st2 (txt A b) n p) (c := chr (txt A b) n p) (a2 := some (.int (iI 3))) hw hS hx5 hb hn (by omega) (FrM.rf _) (by rw [hj5 16 (by omega), hj4 16 (by omega), hj3 16 (by omega), hj2 16 (by omega), hj1 16 (by omega), upN_n (by decide), upN_s]) zc (by omega)
                    rw [txt_9] at hT
                    refine Ex.mono hT (fun v h2 z => ?_)
                    obtain ⟨z1, o9, z2, z3, z4, z5, z6⟩ := z
                    have eE : tE (txt A b) n (chr (txt A b) n p) (st2 (txt A b) n p) = stE (txt A b) n p := by unfold tE stE; rw [if_neg (show ¬ chr (txt A b) n p = 108 by omega)]
                    have eG : tG (txt A b) n (chr (txt A b) n p) (st2 (txt A b) n p) = stG (txt A b) n p := by unfold tG stG; rfl
                    rw [eE] at z1 z4
                    rw [eG] at z6
                    have eK : decide (chr (txt A b) n (stE (txt A b) n p) = 59) = stK (txt A b) n p := by
                      by_cases y : chr (txt A b) n (stE (txt A b) n p) = 59
                      · rw [decide_eq_true y, stK_iff.mpr (by unfold stOK; omega)]
                      · rw [decide_eq_false y, stK_f (by unfold stOK; omega)]
                    have eP : (if chr (txt A b) n (stE (txt A b) n p) = 59 then stE (txt A b) n p + 1 else stE (txt A b) n p) = stP (txt A b) n p := by unfold stP; symm; (repeat (first | rw [if_pos (by omega)] | rw [if_neg (by omega)]))
                    rw [eK] at z1
                    rw [eP] at z4
                    exact ⟨z1, o9, _, z2, fr.tr z3, z4, fun j hj => by rw [z5 j (by omega) (by omega)]; rw [hj5 j (by omega)]; rw [hj4 j (by omega)]; rw [hj3 j (by omega)]; rw [hj2 j (by omega)]; rw [hj1 j (by omega), upN_n (by omega), upN_n (by omega), upN_n (by omega)], fun _ => ⟨by rw [n5, n3, n1, upI_n (by decide), upI_n (by decide)]; exact upI_s _ _ _, fun _ => ⟨by rw [n5, n3, upI_n (by decide)]; exact upI_s _ _ _, by rw [n5]; exact upI_s _ _ _⟩, z6⟩⟩
                  · omega
                · rw [if_neg c87] at hx5
                  refine ex_of (fun _ _ => ev_iconst (pc' := 91) (iI (0)) dX6_readsStatement_90 rfl (by decide)) ?_
                  exact ex_end (ev_iret dX6_readsStatement_91 rfl) (rsP_f (by unfold stOK; omega) hw fr (by rw [show stP (txt A b) n p = st1 (txt A b) n p + 1 by unfold stP; (repeat (first | rw [if_pos (by omega)] | rw [if_neg (by omega)]))]; exact hx5) (fun j hj => by rw [hj5 j (by omega)]; rw [hj4 j (by omega)]; rw [hj3 j (by omega)]; rw [hj2 j (by omega)]; rw [hj1 j (by omega), upN_n (by omega), upN_n (by omega), upN_n (by omega)]))
          · rw [if_neg c87] at hx3
            refine ex_of (fun _ _ => ev_iconst (pc' := 91) (iI (0)) dX6_readsStatement_90 rfl (by decide)) ?_
            exact ex_end (ev_iret dX6_readsStatement_91 rfl) (rsP_f (by unfold stOK; omega) hw fr (by rw [show stP (txt A b) n p = st0 (txt A b) n p + 1 by unfold stP; (repeat (first | rw [if_pos (by omega)] | rw [if_neg (by omega)]))]; exact hx3) (fun j hj => by rw [hj3 j (by omega)]; rw [hj2 j (by omega)]; rw [hj1 j (by omega), upN_n (by omega), upN_n (by omega), upN_n (by omega)]))
    · refine ex_of (fun _ _ => ev_iconst (pc' := 61) (iI (1)) dX6_readsStatement_60 rfl (by decide)) ?_
      refine ex_of (fun _ _ => ev_goto (tgt := 65) dX6_readsStatement_61 (by decide)) ?_
      refine ex_of (fun _ _ => ev_istore_2 (pc' := 66) dX6_readsStatement_65 rfl (by decide) rfl) ?_
      rw [if_pos c49] at hx1
      obtain ⟨n1, t1⟩ := hd1 c49
      have b1 := rd_b c49
      have e1 : rdP (txt A b) n (p + 1) = st0 (txt A b) n p := rfl
      rw [e1] at b1 hx1
      rw [upN_n (by decide), upN_n (by decide), upN_s] at n1 t1
      refine ex_of (fun _ _ => ev_aload_n (pc' := 67) dX6_readsStatement_66 rfl rfl) ?_
      refine ex_of (fun _ _ => ev_getfield (pc' := 70) fX6_76 dX6_readsStatement_67 rfl hw.o rfl) ?_
      refine ex_of (fun _ _ => ev_iload_n (pc' := 71) dX6_readsStatement_70 rfl rfl) ?_
      rw [t1]
      refine ex_icmpI_ge (pc' := 74) (tgt := 92) dX6_readsStatement_71 (by decide) rfl (by omega) (by omega) (fun c71 => ?_) (fun c71 => ?_)
      · have hT := e6_rsT (l := l) (p := st0 (txt A b) n p) (c := chr (txt A b) n p) (a2 := some (.int (iI 1))) hw hS hx1 hb hn (by omega) (FrM.rf _) (by rw [hj1 16 (by omega), upN_n (by decide), upN_s]) zc (by omega)
        rw [txt_9] at hT
        refine Ex.mono hT (fun v h2 z => ?_)
        obtain ⟨z1, o9, z2, z3, z4, z5, z6⟩ := z
        have eE : tE (txt A b) n (chr (txt A b) n p) (st0 (txt A b) n p) = stE (txt A b) n p := by unfold tE stE; (repeat (first | rw [if_pos (by omega)] | rw [if_neg (by omega)]))
        have eG : tG (txt A b) n (chr (txt A b) n p) (st0 (txt A b) n p) = stG (txt A b) n p := by unfold tG stG; (repeat (first | rw [if_pos (by omega)] | rw [if_neg (by omega)]))
        rw [eE] at z1 z4
        rw [eG] at z6
        have eK : decide (chr (txt A b) n (stE (txt A b) n p) = 59) = stK (txt A b) n p := by
          by_cases y : chr (txt A b) n (stE (txt A b) n p) = 59
          · rw [decide_eq_true y, stK_iff.mpr (by unfold stOK; omega)]
          · rw [decide_eq_false y, stK_f (by unfold stOK; omega)]
        have eP : (if chr (txt A b) n (stE (txt A b) n p) = 59 then stE (txt A b) n p + 1 else stE (txt A b) n p) = stP (txt A b) n p := by unfold stP; symm; (repeat (first | rw [if_pos (by omega)] | rw [if_neg (by omega)]))
        rw [eK] at z1
        rw [eP] at z4
        exact ⟨z1, o9, _, z2, fr.tr z3, z4, fun j hj => by rw [z5 j (by omega) (by omega)]; rw [hj1 j (by omega), upN_n (by omega), upN_n (by omega), upN_n (by omega)], fun _ => ⟨by rw [n1]; exact upI_s _ _ _, fun y => absurd (by omega) y, z6⟩⟩
      · omega
  · refine ex_of (fun _ _ => ev_iconst (pc' := 53) (iI (0)) dX6_readsStatement_52 rfl (by decide)) ?_
    exact ex_end (ev_iret dX6_readsStatement_53 rfl) (rsP_f (by unfold stOK; omega) hw fr (by rw [if_neg c49] at hx1; rw [show stP (txt A b) n p = p + 1 by unfold stP; (repeat (first | rw [if_pos (by omega)] | rw [if_neg (by omega)]))]; exact hx1) (fun j hj => by rw [hj1 j (by omega), upN_n (by omega), upN_n (by omega), upN_n (by omega)]))
theorem e6_readsStatement {b n p : Int} (hw : MW h o A) (hS : mSh A) (hx : mTx o b n p) (hb : 0 ≤ b ∧ b ≤ 700) (hn : 0 ≤ n ∧ n ≤ 100) (hp : 0 ≤ p ∧ p ≤ 800) (hp2 : p ≤ 100) : Ex l 3 yX6_readsStatement.cls yX6_readsStatement.name cX6_readsStatement 3 (some .boolean) 0 [some (.ref 34), none, none] [] h (rsP A o b n p h) := by
  have fr := FrM.rf h
  have hw : MW h o (upA A 9 (A 9)) := by rw [upA_id]; exact hw
  have zc := chr_b hS hb hn hp.1
  obtain ⟨x1, x2, x3⟩ := id hx
  refine ex_of (fun _ _ => ev_aload_n (pc' := 1) dX6_readsStatement_0 rfl rfl) ?_
  refine ex_of (fun _ _ => ev_callV0 (pc' := 4) kX6_65 mX6_here dX6_readsStatement_1 rfl rfl (Nat.le_of_ble_eq_true rfl) (Nat.le_of_ble_eq_true rfl) (by decide) rfl hw.o (e6_here hw (mSh_9 hS) hx hb hn (by omega) (by omega))) ?_
  rw [txt_9]
  refine ex_of (fun _ _ => ev_istore_1 (pc' := 5) dX6_readsStatement_4 rfl (by decide) rfl) ?_
  refine ex_of (fun _ _ => ev_aload_n (pc' := 6) dX6_readsStatement_5 rfl rfl) ?_
  refine ex_of (fun _ _ => ev_iconst (pc' := 7) (iI (0)) dX6_readsStatement_6 rfl (by decide)) ?_
  refine xput_15 (pc' := 10) dX6_readsStatement_7 rfl hw fr (fun h hw fr => ?_)
  refine ex_of (fun _ _ => ev_aload_n (pc' := 11) dX6_readsStatement_10 rfl rfl) ?_
  refine ex_of (fun _ _ => ev_iconst (pc' := 12) (iI (0)) dX6_readsStatement_11 rfl (by decide)) ?_
  refine xput_16 (pc' := 15) dX6_readsStatement_12 rfl hw fr (fun h hw fr => ?_)
  refine ex_of (fun _ _ => ev_iload_n (pc' := 16) dX6_readsStatement_15 rfl rfl) ?_
  refine ex_of (fun _ _ => ev_bipush (pc' := 18) (iI (112)) dX6_readsStatement_16 rfl (by decide)) ?_
  refine ex_icmpI_eq (pc' := 21) (tgt := 35) dX6_readsStatement_18 (by decide) rfl (by omega) (by omega) (fun c18 => ?_) (fun c18 => ?_)
  · exact e6_rsM hw fr hS hx hb hn (by omega) (by omega)
  · refine ex_of (fun _ _ => ev_iload_n (pc' := 22) dX6_readsStatement_21 rfl rfl) ?_
    refine ex_of (fun _ _ => ev_bipush (pc' := 24) (iI (108)) dX6_readsStatement_22 rfl (by decide)) ?_
    refine ex_icmpI_eq (pc' := 27) (tgt := 35) dX6_readsStatement_24 (by decide) rfl (by omega) (by omega) (fun c24 => ?_) (fun c24 => ?_)
    · exact e6_rsM hw fr hS hx hb hn (by omega) (by omega)
    · refine ex_of (fun _ _ => ev_iload_n (pc' := 28) dX6_readsStatement_27 rfl rfl) ?_
      refine ex_of (fun _ _ => ev_bipush (pc' := 30) (iI (119)) dX6_readsStatement_28 rfl (by decide)) ?_
      refine ex_icmpI_eq (pc' := 33) (tgt := 35) dX6_readsStatement_30 (by decide) rfl (by omega) (by omega) (fun c30 => ?_) (fun c30 => ?_)
      · exact e6_rsM hw fr hS hx hb hn (by omega) (by omega)
      · refine ex_of (fun _ _ => ev_iconst (pc' := 34) (iI (0)) dX6_readsStatement_33 rfl (by decide)) ?_
        exact ex_end (ev_iret dX6_readsStatement_34 rfl) (rsP_f (by unfold stOK; omega) hw fr (by rw [show stP (txt A b) n p = p by unfold stP; (repeat (first | rw [if_pos (by omega)] | rw [if_neg (by omega)]))]; exact ⟨by rw [upN_n (by decide), upN_n (by decide)]; exact x1, by rw [upN_n (by decide), upN_n (by decide)]; exact x2, by rw [upN_n (by decide), upN_n (by decide)]; exact x3⟩) (fun j hj => by rw [upN_n (by omega), upN_n (by omega)]))
end MV
