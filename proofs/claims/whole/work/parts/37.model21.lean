section MW2
variable {l : Launch} {A0 : Nat → Int → Int} {o0 : Nat → Int} {h0 : ev_H} {b n : Int}
def wSt (A0 : Nat → Int → Int) (o0 : Nat → Int) (b n : Int) (h0 h : ev_H) (o : Nat → Int) (A : Nat → Int → Int) (p : Int) : Prop := MW h o A ∧ FrM h0 h ∧ (∀ j, j ≠ 9 → j ≠ 10 → A j = A0 j) ∧ mTx o b n p ∧ ∀ j, j < 11 → o j = o0 j
theorem wSt.w {h : ev_H} {o : Nat → Int} {A : Nat → Int → Int} {p : Int} (s : wSt A0 o0 b n h0 h o A p) : MW h o A := s.1
theorem wSt.fr {h : ev_H} {o : Nat → Int} {A : Nat → Int → Int} {p : Int} (s : wSt A0 o0 b n h0 h o A p) : FrM h0 h := s.2.1
theorem wSt.a {h : ev_H} {o : Nat → Int} {A : Nat → Int → Int} {p : Int} (s : wSt A0 o0 b n h0 h o A p) : ∀ j, j ≠ 9 → j ≠ 10 → A j = A0 j := s.2.2.1
theorem wSt.x {h : ev_H} {o : Nat → Int} {A : Nat → Int → Int} {p : Int} (s : wSt A0 o0 b n h0 h o A p) : mTx o b n p := s.2.2.2.1
theorem wSt.j {h : ev_H} {o : Nat → Int} {A : Nat → Int → Int} {p : Int} (s : wSt A0 o0 b n h0 h o A p) : ∀ j, j < 11 → o j = o0 j := s.2.2.2.2
theorem wSt.sh {h : ev_H} {o : Nat → Int} {A : Nat → Int → Int} {p : Int} (s : wSt A0 o0 b n h0 h o A p) (hS : mSh A0) : mSh A := by
  unfold mSh
  rw [s.a 0 (by decide) (by decide), s.a 2 (by decide) (by decide), s.a 3 (by decide) (by decide), s.a 4 (by decide) (by decide), s.a 5 (by decide) (by decide), s.a 6 (by decide) (by decide), s.a 8 (by decide) (by decide)]
  exact hS
theorem wSt.tx {h : ev_H} {o : Nat → Int} {A : Nat → Int → Int} {p : Int} (s : wSt A0 o0 b n h0 h o A p) : txt A b = txt A0 b := by unfold txt; rw [s.a 5 (by decide) (by decide)]
theorem dB (x : Bool) : b2i x = b2i (decide (x = true)) := by cases x <;> rfl
theorem cmm_eq {c v0 v1 v2 w1 w2 g : Int} {R : Int → Int} (h : c ≠ 108 → v1 = w1 ∧ v2 = w2) : cmK c v0 v1 v2 R = cmK c v0 w1 w2 R ∧ cmS c g v0 v1 v2 R = cmS c g v0 w1 w2 R := by
  by_cases e : c = 108
  · subst e; exact ⟨by unfold cmK; rw [if_pos rfl, if_pos rfl], by unfold cmS; rw [if_pos rfl, if_pos rfl]⟩
  · obtain ⟨rfl, rfl⟩ := h e; exact ⟨rfl, rfl⟩
theorem e6_rsW {h : ev_H} {o : Nat → Int} {A : Nat → Int → Int} {p : Int} (s : wSt A0 o0 b n h0 h o A p) (hS : mSh A0) (hb : 0 ≤ b ∧ b ≤ 700) (hn : 0 ≤ n ∧ n ≤ 100) (hp : 0 ≤ p ∧ p ≤ 100) : Ex l 3 yX6_readsStatement.cls yX6_readsStatement.name cX6_readsStatement 3 (some .boolean) 0 [some (.ref 34), none, none] [] h (fun v h2 => v = some (.int (b2i (decide (stK (txt A0 b) n p = true)))) ∧ ∃ o2 A2, wSt A0 o0 b n h0 h2 o2 A2 (stP (txt A0 b) n p) ∧ A2 10 = A 10 ∧ (stOK (txt A0 b) n p → A2 9 0 = rdV (txt A0 b) n (p + 1) ∧ (chr (txt A0 b) n p ≠ 108 → A2 9 1 = rdV (txt A0 b) n (st0 (txt A0 b) n p + 1) ∧ A2 9 2 = rdV (txt A0 b) n (st1 (txt A0 b) n p + 1)) ∧ o2 16 = stG (txt A0 b) n p)) := by
  refine Ex.mono (e6_readsStatement s.w (s.sh hS) s.x hb hn (by omega) (by omega)) (fun v h2 q => ?_)
  unfold rsP at q
  rw [s.tx] at q
  obtain ⟨q1, o2, N2, q2, q3, q4, q5, q6⟩ := q
  refine ⟨by rw [← dB]; exact q1, o2, _, ⟨q2, s.fr.tr q3, fun j h1 h2 => ?_, q4, fun j hj => (q5 j hj).trans (s.j j hj)⟩, rfl, q6⟩
  rw [upA_n h1]; exact s.a j h1 h2
theorem e6_woF {d F : Int} {Post : Option Value → ev_H → Prop} (hS : mSh A0) (hb : 0 ≤ b ∧ b ≤ 700) (hn : 0 ≤ n ∧ n ≤ 100) (neg : ∀ h2 o2 A2 q, F < 0 → wSt A0 o0 b n h0 h2 o2 A2 q → Post (some (.int (iI F))) h2) (fin : ∀ h2 o2 A2 q, 0 ≤ F → wSt A0 o0 b n h0 h2 o2 A2 q → Ex l 4 yX6_world.cls yX6_world.name cX6_world 7 (some .int) 68 [some (.ref 34), some (.int (iI d)), some (.int (iI 0)), some (.int (iI F)), none, none, none] [] h2 Post) : ∀ (c : Nat) (k p : Int) (h : ev_H) (o : Nat → Int) (A : Nat → Int → Int), wF (txt A0 b) n c k p = F → n - p < c → (0 ≤ p ∧ p ≤ n) → 0 ≤ k → wSt A0 o0 b n h0 h o A p → Ex l 4 yX6_world.cls yX6_world.name cX6_world 7 (some .int) 38 [some (.ref 34), some (.int (iI d)), some (.int (iI 0)), some (.int (iI k)), none, none, none] [] h Post := by
  intro c
  induction c with
  | zero => intro k p h o A e1 e2 e3; exfalso; omega
  | succ c ih =>
    intro k p h o A e1 e2 hp hk s
    have z0 := stP_0 (T := txt A0 b) (n := n) hp.1
    have hw := s.w
    refine ex_of (fun _ _ => ev_aload_n (pc' := 39) dX6_world_38 rfl rfl) ?_
    have hO := hw.o
    obtain ⟨w1, h1, E1, rfl, o1, A1, s1, -, -⟩ := e6_rsW (l := l) s hS hb hn (by omega)
    refine ex_of (fun _ _ => ev_callV0 (pc' := 42) kX6_97 mX6_readsStatement dX6_world_39 rfl rfl (Nat.le_of_ble_eq_true rfl) (Nat.le_of_ble_eq_true rfl) (by decide) rfl hO E1) ?_
    obtain ⟨x1, x2, x3⟩ := s1.x
    have hw := s1.w
    refine ex_ifd_ne (pc' := 45) (tgt := 54) dX6_world_42 (by decide) rfl (fun c42 => ?_) (fun c42 => ?_)
    · have ok := stK_iff.mp c42
      have bb := stP_ok ok
      refine ex_of (fun _ _ => ev_iincI_3 (pc' := 57) dX6_world_54 rfl (by decide) rfl) ?_
      refine ex_of (fun _ _ => ev_aload_n (pc' := 58) dX6_world_57 rfl rfl) ?_
      refine ex_of (fun _ _ => ev_getfield (pc' := 61) fX6_56 dX6_world_58 rfl hw.o rfl) ?_
      refine ex_of (fun _ _ => ev_aload_n (pc' := 62) dX6_world_61 rfl rfl) ?_
      refine ex_of (fun _ _ => ev_getfield (pc' := 65) fX6_59 dX6_world_62 rfl hw.o rfl) ?_
      rw [x2, x3]
      refine ex_icmpI_lt (pc' := 68) (tgt := 38) dX6_world_65 (by decide) rfl (by omega) (by omega) (fun c65 => ?_) (fun c65 => ?_)
      · have e3 : wF (txt A0 b) n c (k + 1) (stP (txt A0 b) n p) = F := by
          rw [← e1]
          conv => rhs; unfold wF
          rw [if_pos c42, if_pos c65]
        exact ih (k + 1) _ _ _ _ e3 (by omega) (by omega) (by omega) s1
      · have e3 : k + 1 = F := by
          rw [← e1]
          unfold wF
          rw [if_pos c42, if_neg c65]
        rw [e3]
        exact fin _ _ _ _ (by omega) s1
    · refine ex_of (fun _ _ => ev_sipush (pc' := 48) (iI (-1000)) dX6_world_45 rfl (by decide)) ?_
      refine ex_of (fun _ _ => ev_aload_n (pc' := 49) dX6_world_48 rfl rfl) ?_
      refine ex_of (fun _ _ => ev_getfield (pc' := 52) fX6_56 dX6_world_49 rfl hw.o rfl) ?_
      rw [x3]
      refine ex_of (fun _ _ => ev_isubI (pc' := 53) dX6_world_52 rfl) ?_
      exact ex_end (ev_iret dX6_world_53 rfl) (by rw [show -1000 - stP (txt A0 b) n p = F by rw [← e1]; unfold wF; rw [if_neg c42]]; exact neg _ _ _ _ (by rw [← e1]; unfold wF; rw [if_neg c42]; omega) s1)
theorem wSt.up {h h2 : ev_H} {o : Nat → Int} {A : Nat → Int → Int} {p : Int} {R : Int → Int} (s : wSt A0 o0 b n h0 h o A p) (w : MW h2 o (upA A 10 R)) (f : FrM h0 h2) : wSt A0 o0 b n h0 h2 o (upA A 10 R) p := ⟨w, f, fun j h1 h3 => by rw [upA_n h3]; exact s.a j h1 h3, s.x, s.j⟩
theorem e6_woC {d F p : Int} {o : Nat → Int} {A : Nat → Int → Int} {Post : Option Value → ev_H → Prop} (s0 : ∃ h, wSt A0 o0 b n h0 h o A p) (fin : ∀ h2 a4, wSt A0 o0 b n h0 h2 o (upA A 10 (cpI (A0 0) (A 10) 503)) p → Ex l 4 yX6_world.cls yX6_world.name cX6_world 7 (some .int) 99 [some (.ref 34), some (.int (iI d)), some (.int (iI 0)), some (.int (iI F)), a4, none, none] [] h2 Post) : ∀ (k i : Nat) (h : ev_H), i + k = 503 → MW h o (upA A 10 (cpI (A0 0) (A 10) i)) → FrM h0 h → Ex l 4 yX6_world.cls yX6_world.name cX6_world 7 (some .int) 71 [some (.ref 34), some (.int (iI d)), some (.int (iI 0)), some (.int (iI F)), some (.int (iI (i : Int))), none, none] [] h Post := by
  obtain ⟨h9, s0⟩ := s0
  have e0 : A 0 = A0 0 := s0.a 0 (by decide) (by decide)
  intro k
  induction k with
  | zero =>
    intro i h hk hw fr
    have ei : i = 503 := by omega
    subst ei
    refine ex_of (fun _ _ => ev_iload (pc' := 73) dX6_world_71 rfl rfl) ?_
    refine ex_of (fun _ _ => ev_sipush (pc' := 76) (iI (503)) dX6_world_73 rfl (by decide)) ?_
    refine ex_icmpI_ge (pc' := 79) (tgt := 99) dX6_world_76 (by decide) rfl (by omega) (by omega) (fun c76 => ?_) (fun c76 => ?_)
    · exact fin _ _ (s0.up hw fr)
    · omega
  | succ k ih =>
    intro i h hk hw fr
    refine ex_of (fun _ _ => ev_iload (pc' := 73) dX6_world_71 rfl rfl) ?_
    refine ex_of (fun _ _ => ev_sipush (pc' := 76) (iI (503)) dX6_world_73 rfl (by decide)) ?_
    refine ex_icmpI_ge (pc' := 79) (tgt := 99) dX6_world_76 (by decide) rfl (by omega) (by omega) (fun c76 => ?_) (fun c76 => ?_)
    · omega
    · refine ex_of (fun _ _ => ev_aload_n (pc' := 80) dX6_world_79 rfl rfl) ?_
      refine ex_of (fun _ _ => ev_getfield (pc' := 83) fX6_41 dX6_world_80 rfl hw.o rfl) ?_
      refine ex_of (fun _ _ => ev_iload (pc' := 85) dX6_world_83 rfl rfl) ?_
      refine ex_of (fun _ _ => ev_aload_n (pc' := 86) dX6_world_85 rfl rfl) ?_
      refine ex_of (fun _ _ => ev_getfield (pc' := 89) fX6_9 dX6_world_86 rfl hw.o rfl) ?_
      refine ex_of (fun _ _ => ev_iload (pc' := 91) dX6_world_89 rfl rfl) ?_
      refine ex_of (fun _ _ => ev_ialoadI (pc' := 92) dX6_world_91 rfl hw.a0 (by decide) (by omega)) ?_
      refine xst_10 (pc' := 93) dX6_world_92 rfl hw fr (by omega) (fun h hw fr => ?_)
      refine ex_of (fun _ _ => ev_iincI_4 (pc' := 96) dX6_world_93 rfl (by decide) rfl) ?_
      refine ex_of (fun _ _ => ev_goto (tgt := 71) dX6_world_96 (by decide)) ?_
      rw [upA_s, upA_2, show upA A 10 (cpI (A0 0) (A 10) i) 0 = A 0 from rfl, e0, cpI_s _ _ _ (by omega)] at hw
      exact ih (i + 1) _ (by omega) hw fr
theorem e6_woS {d F : Int} {r : Int × (Int → Int)} {Post : Option Value → ev_H → Prop} (hS : mSh A0) (hb : 0 ≤ b ∧ b ≤ 700) (hn : 0 ≤ n ∧ n ≤ 100) (neg : ∀ h2 o2 A2 q, r.1 < 0 → wSt A0 o0 b n h0 h2 o2 A2 q → Post (some (.int (iI r.1))) h2) (fin : ∀ h2 o2 A2 q a4 a5 a6, 0 ≤ r.1 → A2 10 = r.2 → wSt A0 o0 b n h0 h2 o2 A2 q → Ex l 4 yX6_world.cls yX6_world.name cX6_world 7 (some .int) 152 [some (.ref 34), some (.int (iI d)), some (.int (iI 0)), some (.int (iI F)), a4, a5, a6] [] h2 Post) : ∀ (k : Nat) (p : Int) (h : ev_H) (o : Nat → Int) (A : Nat → Int → Int) (a4 a5 a6 : Option Value), wG (txt A0 b) n k p → wK (txt A0 b) n k p (A 10) = r → (0 ≤ A 10 0 ∧ A 10 0 ≤ 10) → (0 ≤ p ∧ p ≤ n) → wSt A0 o0 b n h0 h o A p → Ex l 4 yX6_world.cls yX6_world.name cX6_world 7 (some .int) 104 [some (.ref 34), some (.int (iI d)), some (.int (iI 0)), some (.int (iI F)), a4, a5, a6] [] h Post := by
  intro k
  induction k with
  | zero =>
    intro p h o A a4 a5 a6 g e hR hp s
    have g0 : p = n := g
    have hw := s.w
    obtain ⟨x1, x2, x3⟩ := s.x
    refine ex_of (fun _ _ => ev_aload_n (pc' := 105) dX6_world_104 rfl rfl) ?_
    refine ex_of (fun _ _ => ev_getfield (pc' := 108) fX6_56 dX6_world_105 rfl hw.o rfl) ?_
    refine ex_of (fun _ _ => ev_aload_n (pc' := 109) dX6_world_108 rfl rfl) ?_
    refine ex_of (fun _ _ => ev_getfield (pc' := 112) fX6_59 dX6_world_109 rfl hw.o rfl) ?_
    rw [x2, x3]
    refine ex_icmpI_ge (pc' := 115) (tgt := 152) dX6_world_112 (by decide) rfl (by omega) (by omega) (fun c112 => ?_) (fun c112 => ?_)
    · exact fin _ _ _ _ _ _ _ (by rw [← e]; exact Int.le_refl 0) (by rw [← e]; rfl) s
    · omega
  | succ k ih =>
    intro p h o A a4 a5 a6 g e hR hp s
    obtain ⟨ok, g2⟩ := g
    have bb := stP_ok ok
    have zn := st_nums ok
    have hw := s.w
    have zc := chr_b hS hb hn hp.1
    obtain ⟨x1, x2, x3⟩ := s.x
    refine ex_of (fun _ _ => ev_aload_n (pc' := 105) dX6_world_104 rfl rfl) ?_
    refine ex_of (fun _ _ => ev_getfield (pc' := 108) fX6_56 dX6_world_105 rfl hw.o rfl) ?_
    refine ex_of (fun _ _ => ev_aload_n (pc' := 109) dX6_world_108 rfl rfl) ?_
    refine ex_of (fun _ _ => ev_getfield (pc' := 112) fX6_59 dX6_world_109 rfl hw.o rfl) ?_
    rw [x2, x3]
    refine ex_icmpI_ge (pc' := 115) (tgt := 152) dX6_world_112 (by decide) rfl (by omega) (by omega) (fun c112 => ?_) (fun c112 => ?_)
    · omega
    · refine ex_of (fun _ _ => ev_aload_n (pc' := 116) dX6_world_115 rfl rfl) ?_
      refine ex_of (fun _ _ => ev_getfield (pc' := 119) fX6_56 dX6_world_116 rfl hw.o rfl) ?_
      rw [x3]
      refine ex_of (fun _ _ => ev_istore_4 (pc' := 121) dX6_world_119 rfl (by decide) rfl) ?_
      refine ex_of (fun _ _ => ev_aload_n (pc' := 122) dX6_world_121 rfl rfl) ?_
      refine ex_of (fun _ _ => ev_callV0 (pc' := 125) kX6_65 mX6_here dX6_world_122 rfl rfl (Nat.le_of_ble_eq_true rfl) (Nat.le_of_ble_eq_true rfl) (by decide) rfl hw.o (e6_here hw (s.sh hS) s.x hb hn (by omega) (by omega))) ?_
      rw [s.tx]
      refine ex_of (fun _ _ => ev_istore_5 (pc' := 127) dX6_world_125 rfl (by decide) rfl) ?_
      refine ex_of (fun _ _ => ev_aload_n (pc' := 128) dX6_world_127 rfl rfl) ?_
      have hO := hw.o
      obtain ⟨w1, h1, E1, rfl, o1, A1, s1, r1, q1⟩ := e6_rsW (l := l) s hS hb hn (by omega)
      refine ex_of (fun _ _ => ev_callV0 (pc' := 131) kX6_97 mX6_readsStatement dX6_world_128 rfl rfl (Nat.le_of_ble_eq_true rfl) (Nat.le_of_ble_eq_true rfl) (by decide) rfl hO E1) ?_
      obtain ⟨n0, n12, ng⟩ := q1 ok
      have hw := s1.w
      refine ex_of (fun _ _ => ev_istore_6 (pc' := 133) dX6_world_131 rfl (by decide) rfl) ?_
      refine ex_of (fun _ _ => ev_aload_n (pc' := 134) dX6_world_133 rfl rfl) ?_
      refine ex_of (fun _ _ => ev_iload (pc' := 136) dX6_world_134 rfl rfl) ?_
      have hO := hw.o
      obtain ⟨w1, h1, E1, rfl, R2, hw2, fr2, f2⟩ := e6_comes (l := l) (c := chr (txt A0 b) n p) s1.w (by rw [r1]; exact hR) (by rw [n0]; exact zn.1) (fun y => by rw [(n12 y).1, (n12 y).2]; exact zn.2 y) zc
      refine ex_of (fun _ _ => ev_callV1 (pc' := 139) kX6_100 mX6_comes dX6_world_136 rfl rfl (Nat.le_of_ble_eq_true rfl) (Nat.le_of_ble_eq_true rfl) (by decide) rfl hO E1) ?_
      obtain ⟨k1, k2⟩ := cmm_eq (v0 := A1 9 0) (g := o1 16) (R := A1 10) n12
      rw [k1, k2, r1, n0, ng] at f2
      rw [k1, r1, n0]
      have e2 : wK (txt A0 b) n (k + 1) p (A 10) = r := e
      unfold wK at e2
      have ek : smK (txt A0 b) n p (A 10) = cmK (chr (txt A0 b) n p) (rdV (txt A0 b) n (p + 1)) (rdV (txt A0 b) n (st0 (txt A0 b) n p + 1)) (rdV (txt A0 b) n (st1 (txt A0 b) n p + 1)) (A 10) := rfl
      rw [← ek] at f2 ⊢
      rw [dB (smK _ _ _ _)]
      refine ex_ifd_ne (pc' := 142) (tgt := 149) dX6_world_139 (by decide) rfl (fun c139 => ?_) (fun c139 => ?_)
      · rw [if_pos c139] at e2
        have e5 := f2 c139
        refine ex_of (fun _ _ => ev_goto (tgt := 104) dX6_world_149 (by decide)) ?_
        subst e5
        exact ih _ _ _ _ _ _ _ g2 e2 (smS_0 ok c139 hR) (by omega) (s1.up hw2 (s1.fr.tr fr2))
      · refine ex_of (fun _ _ => ev_sipush (pc' := 145) (iI (-2000)) dX6_world_142 rfl (by decide)) ?_
        refine ex_of (fun _ _ => ev_iload (pc' := 147) dX6_world_145 rfl rfl) ?_
        refine ex_of (fun _ _ => ev_isubI (pc' := 148) dX6_world_147 rfl) ?_
        exact ex_end (ev_iret dX6_world_148 rfl) (by rw [if_neg c139] at e2; rw [show -2000 - p = r.1 by rw [← e2]]; exact neg _ _ _ _ (by rw [← e2]; show -2000 - p < 0; omega) (s1.up hw2 (s1.fr.tr fr2)))
theorem e6_woE {d F : Int} {o : Nat → Int} {A : Nat → Int → Int} {a5 a6 : Option Value} : ∀ (k i : Nat) (h : ev_H), i + k = 503 → MW h o (upA A 0 (cpI (A 10) (A 0) i)) → FrM h0 h → Ex l 4 yX6_world.cls yX6_world.name cX6_world 7 (some .int) 155 [some (.ref 34), some (.int (iI d)), some (.int (iI 0)), some (.int (iI F)), some (.int (iI (i : Int))), a5, a6] [] h (fun v h2 => v = some (.int (iI F)) ∧ MW h2 o (upA A 0 (cpI (A 10) (A 0) 503)) ∧ FrM h0 h2) := by
  intro k
  induction k with
  | zero =>
    intro i h hk hw fr
    have ei : i = 503 := by omega
    subst ei
    refine ex_of (fun _ _ => ev_iload (pc' := 157) dX6_world_155 rfl rfl) ?_
    refine ex_of (fun _ _ => ev_sipush (pc' := 160) (iI (503)) dX6_world_157 rfl (by decide)) ?_
    refine ex_icmpI_ge (pc' := 163) (tgt := 183) dX6_world_160 (by decide) rfl (by omega) (by omega) (fun c160 => ?_) (fun c160 => ?_)
    · refine ex_of (fun _ _ => ev_iload_n (pc' := 184) dX6_world_183 rfl rfl) ?_
      exact ex_end (ev_iret dX6_world_184 rfl) (⟨rfl, hw, fr⟩)
    · omega
  | succ k ih =>
    intro i h hk hw fr
    refine ex_of (fun _ _ => ev_iload (pc' := 157) dX6_world_155 rfl rfl) ?_
    refine ex_of (fun _ _ => ev_sipush (pc' := 160) (iI (503)) dX6_world_157 rfl (by decide)) ?_
    refine ex_icmpI_ge (pc' := 163) (tgt := 183) dX6_world_160 (by decide) rfl (by omega) (by omega) (fun c160 => ?_) (fun c160 => ?_)
    · omega
    · refine ex_of (fun _ _ => ev_aload_n (pc' := 164) dX6_world_163 rfl rfl) ?_
      refine ex_of (fun _ _ => ev_getfield (pc' := 167) fX6_9 dX6_world_164 rfl hw.o rfl) ?_
      refine ex_of (fun _ _ => ev_iload (pc' := 169) dX6_world_167 rfl rfl) ?_
      refine ex_of (fun _ _ => ev_aload_n (pc' := 170) dX6_world_169 rfl rfl) ?_
      refine ex_of (fun _ _ => ev_getfield (pc' := 173) fX6_41 dX6_world_170 rfl hw.o rfl) ?_
      refine ex_of (fun _ _ => ev_iload (pc' := 175) dX6_world_173 rfl rfl) ?_
      refine ex_of (fun _ _ => ev_ialoadI (pc' := 176) dX6_world_175 rfl hw.a10 (by decide) (by omega)) ?_
      refine xst_0 (pc' := 177) dX6_world_176 rfl hw fr (by omega) (fun h hw fr => ?_)
      refine ex_of (fun _ _ => ev_iincI_4 (pc' := 180) dX6_world_177 rfl (by decide) rfl) ?_
      refine ex_of (fun _ _ => ev_goto (tgt := 155) dX6_world_180 (by decide)) ?_
      rw [upA_s, upA_2, show upA A 0 (cpI (A 10) (A 0) i) 10 = A 10 from rfl, cpI_s _ _ _ (by omega)] at hw
      exact ih (i + 1) _ (by omega) hw fr
def sWoF (A : Nat → Int → Int) (d : Int) : Int := wF (txt A (100 * d)) (A 4 d) 200 0 0
def sWoK (A : Nat → Int → Int) (d : Int) : Int × (Int → Int) := wK (txt A (100 * d)) (A 4 d) (sWoF A d).toNat 0 (A 0)
def sWo (A : Nat → Int → Int) (d : Int) : Int := if sRow A d 0 ≠ 0 then sRow A d 0 else if sWoF A d < 0 then sWoF A d else if (sWoK A d).1 < 0 then (sWoK A d).1 else sWoF A d
def sWoS (A : Nat → Int → Int) (d : Int) : Int → Int := if sRow A d 0 = 0 ∧ 0 ≤ sWoF A d ∧ 0 ≤ (sWoK A d).1 then (sWoK A d).2 else A 0
def woP (A : Nat → Int → Int) (o : Nat → Int) (d : Int) (h : ev_H) : Option Value → ev_H → Prop := fun v h2 => v = some (.int (iI (sWo A d))) ∧ ∃ o2 A2, MW h2 o2 A2 ∧ FrM h h2 ∧ A2 0 = sWoS A d ∧ (∀ j, j ≠ 0 → j ≠ 9 → j ≠ 10 → A2 j = A j) ∧ ∀ j, j < 11 → o2 j = o j
theorem e6_world {hs : ev_H} {o : Nat → Int} {A : Nat → Int → Int} {d : Int} (hw : MW hs o A) (hS : mSh A) (hI : mI0 (A 0)) (rd : -2147483648 ≤ d ∧ d < 2147483648) : Ex l 4 yX6_world.cls yX6_world.name cX6_world 7 (some .int) 0 [some (.ref 34), some (.int (iI d)), none, none, none, none, none] [] hs (woP A o d hs) := by
  have fr := FrM.rf hs
  have zb := sRow_b A d 0
  obtain ⟨⟨i1, i2⟩, ⟨i3, i4⟩, i5, i6⟩ := id hI
  refine ex_of (fun _ _ => ev_aload_n (pc' := 1) dX6_world_0 rfl rfl) ?_
  refine ex_of (fun _ _ => ev_iload_n (pc' := 2) dX6_world_1 rfl rfl) ?_
  refine ex_of (fun _ _ => ev_iconst (pc' := 3) (iI (0)) dX6_world_2 rfl (by decide)) ?_
  refine ex_of (fun _ _ => ev_callV2 (pc' := 6) kX6_93 mX6_wrongRow dX6_world_3 rfl rfl (Nat.le_of_ble_eq_true rfl) (Nat.le_of_ble_eq_true rfl) (by decide) rfl hw.o (e6_wrongRow hw hS (by omega) (by omega))) ?_
  refine ex_of (fun _ _ => ev_istore_2 (pc' := 7) dX6_world_6 rfl (by decide) rfl) ?_
  refine ex_of (fun _ _ => ev_iload_n (pc' := 8) dX6_world_7 rfl rfl) ?_
  refine ex_ifI_eq (pc' := 11) (tgt := 13) dX6_world_8 (by decide) rfl (by omega) (fun c8 => ?_) (fun c8 => ?_)
  · obtain ⟨hd, hk, -⟩ := sRow_0 (show sRow A d 0 = 0 by omega)
    obtain ⟨s1, s2, s3, s4, s5⟩ := hS.1 d hd.1 hd.2
    refine ex_of (fun _ _ => ev_aload_n (pc' := 14) dX6_world_13 rfl rfl) ?_
    refine ex_of (fun _ _ => ev_bipush (pc' := 16) (iI (100)) dX6_world_14 rfl (by decide)) ?_
    refine ex_of (fun _ _ => ev_iload_n (pc' := 17) dX6_world_16 rfl rfl) ?_
    refine ex_of (fun _ _ => ev_imulI (pc' := 18) dX6_world_17 rfl) ?_
    refine xput_12 (pc' := 21) dX6_world_18 rfl hw fr (fun h hw fr => ?_)
    refine ex_of (fun _ _ => ev_aload_n (pc' := 22) dX6_world_21 rfl rfl) ?_
    refine ex_of (fun _ _ => ev_aload_n (pc' := 23) dX6_world_22 rfl rfl) ?_
    refine ex_of (fun _ _ => ev_getfield (pc' := 26) fX6_22 dX6_world_23 rfl hw.o rfl) ?_
    refine ex_of (fun _ _ => ev_iload_n (pc' := 27) dX6_world_26 rfl rfl) ?_
    refine ex_of (fun _ _ => ev_ialoadI (pc' := 28) dX6_world_27 rfl hw.a4 (by decide) (by omega)) ?_
    refine xput_13 (pc' := 31) dX6_world_28 rfl hw fr (fun h hw fr => ?_)
    refine ex_of (fun _ _ => ev_aload_n (pc' := 32) dX6_world_31 rfl rfl) ?_
    refine ex_of (fun _ _ => ev_iconst (pc' := 33) (iI (0)) dX6_world_32 rfl (by decide)) ?_
    refine xput_11 (pc' := 36) dX6_world_33 rfl hw fr (fun h hw fr => ?_)
    refine ex_of (fun _ _ => ev_iconst (pc' := 37) (iI (0)) dX6_world_36 rfl (by decide)) ?_
    refine ex_of (fun _ _ => ev_istore_3 (pc' := 38) dX6_world_37 rfl (by decide) rfl) ?_
    have zr : sRow A d 0 = 0 := by omega
    have s : wSt A o (100 * d) (A 4 d) hs _ _ A 0 := ⟨hw, fr, fun _ _ _ => rfl, ⟨by rw [upN_n (by decide), upN_n (by decide), upN_s], by rw [upN_n (by decide), upN_s], by rw [upN_s]⟩, fun j hj => by rw [upN_n (by omega), upN_n (by omega), upN_n (by omega)]⟩
    rw [show sRow A d 0 = 0 from zr]
    refine e6_woF (l := l) (F := sWoF A d) hS (by omega) (by omega) (fun h2 o2 A2 q hF s => ⟨by rw [show sWo A d = sWoF A d by unfold sWo; rw [if_neg (by omega), if_pos hF]], o2, A2, s.w, s.fr, by rw [s.a 0 (by decide) (by decide)]; unfold sWoS; rw [if_neg (by omega)], fun j _ h1 h2 => s.a j h1 h2, s.j⟩) (fun h2 o2 A2 q hF s => ?_) 200 0 0 _ _ _ rfl (by omega) (by omega) (by omega) s
    obtain ⟨j, ej, gj, -⟩ := wF_G 200 0 0 (by omega) (by omega) hF
    have ej2 : sWoF A d = 0 + 1 + j := ej
    have ej3 : (sWoF A d).toNat = j + 1 := by omega
    have hw := s.w
    refine ex_of (fun _ _ => ev_iconst (pc' := 69) (iI (0)) dX6_world_68 rfl (by decide)) ?_
    refine ex_of (fun _ _ => ev_istore_4 (pc' := 71) dX6_world_69 rfl (by decide) rfl) ?_
    have hw5 : MW h2 o2 (upA A2 10 (cpI (A 0) (A2 10) (0 : Nat))) := by rw [show (((0 : Nat) : Int)) = 0 from rfl, cpI_0, upA_id]; exact hw
    refine e6_woC (l := l) ⟨_, s⟩ (fun h2 a4 s => ?_) 503 0 _ (by omega) hw5 s.fr
    have hw := s.w
    have fr := s.fr
    refine ex_of (fun _ _ => ev_aload_n (pc' := 100) dX6_world_99 rfl rfl) ?_
    refine ex_of (fun _ _ => ev_iconst (pc' := 101) (iI (0)) dX6_world_100 rfl (by decide)) ?_
    refine xput_11 (pc' := 104) dX6_world_101 rfl hw fr (fun h hw fr => ?_)
    have s2 : wSt A o (100 * d) (A 4 d) hs _ _ _ 0 := ⟨hw, fr, s.a, ⟨by rw [upN_n (by decide)]; exact s.x.1, by rw [upN_n (by decide)]; exact s.x.2.1, by rw [upN_s]⟩, fun j hj => by rw [upN_n (by omega)]; exact s.j j hj⟩
    have kk : wK (txt A (100 * d)) (A 4 d) (j + 1) 0 (upA A2 10 (cpI (A 0) (A2 10) 503) 10) = wK (txt A (100 * d)) (A 4 d) (j + 1) 0 (cpI (A 0) (A2 10) 503) := rfl
    have ka := wK_ag (T := txt A (100 * d)) (n := A 4 d) (j + 1) 0 _ _ (cpI_r (A 0) (A2 10) 503)
    have kf : sWoK A d = wK (txt A (100 * d)) (A 4 d) (j + 1) 0 (A 0) := by unfold sWoK; rw [ej3]
    have kc := wK_cp (R0 := A2 10) gj (S := A 0) (by omega)
    refine e6_woS (l := l) (r := wK (txt A (100 * d)) (A 4 d) (j + 1) 0 (cpI (A 0) (A2 10) 503)) hS (by omega) (by omega) (fun h2 o2 A3 q hN s => ?_) (fun h2 o2 A3 q a4 a5 a6 hN h10 s => ?_) (j + 1) 0 _ _ _ _ _ _ gj rfl (show 0 ≤ cpI (A 0) (A2 10) 503 0 ∧ cpI (A 0) (A2 10) 503 0 ≤ 10 from by rw [cpI_r _ _ _ 0 (by decide) (by decide)]; omega) (by omega) s2
    · rw [ka.1, ← kf] at hN ⊢
      exact ⟨by rw [show sWo A d = (sWoK A d).1 by unfold sWo; rw [if_neg (by omega), if_neg (by omega), if_pos hN]], o2, A3, s.w, s.fr, by rw [s.a 0 (by decide) (by decide)]; unfold sWoS; rw [if_neg (by omega)], fun j _ h1 h2 => s.a j h1 h2, s.j⟩
    rw [ka.1, ← kf] at hN
    have hw := s.w
    have fr := s.fr
    refine ex_of (fun _ _ => ev_iconst (pc' := 153) (iI (0)) dX6_world_152 rfl (by decide)) ?_
    refine ex_of (fun _ _ => ev_istore_4 (pc' := 155) dX6_world_153 rfl (by decide) rfl) ?_
    have hw5 : MW h2 o2 (upA A3 0 (cpI (A3 10) (A3 0) (0 : Nat))) := by rw [show (((0 : Nat) : Int)) = 0 from rfl, cpI_0, upA_id]; exact hw
    refine Ex.mono (e6_woE (l := l) 503 0 _ (by omega) hw5 fr) (fun v h2 q => ?_)
    obtain ⟨q1, q2, q3⟩ := q
    refine ⟨by rw [q1, show sWo A d = sWoF A d by unfold sWo; rw [if_neg (by omega), if_neg (by omega), if_neg (by omega)]], o2, _, q2, q3, ?_, fun j h1 h2 h3 => by rw [upA_n h1]; exact s.a j h2 h3, s.j⟩
    rw [upA_s, h10, s.a 0 (by decide) (by decide), kc, ← kf]
    unfold sWoS
    rw [if_pos ⟨zr, by omega, hN⟩]
  · refine ex_of (fun _ _ => ev_iload_n (pc' := 12) dX6_world_11 rfl rfl) ?_
    exact ex_end (ev_iret dX6_world_12 rfl) (⟨by unfold sWo; rw [if_pos (by omega)], o, A, hw, fr, by unfold sWoS; rw [if_neg (by omega)], fun _ _ _ _ => rfl, fun _ _ => rfl⟩)
end MW2
