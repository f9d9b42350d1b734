section CO
/-! the class's heap beside the reference's rows: all of it -/
def TG (h : ev_H) (t : Nat) : Prop := 47 ≤ t ∧ (t - 47) % 6 = 0 ∧ t + 6 ≤ h.length
def CLg (h : ev_H) (S : Int → Int) (F : Nat → Option Nat) : Prop := (∀ (k : Int) (t : Nat), 0 ≤ k → k < S 1 → F k.toNat = some t → TG h t) ∧ (∀ (i j : Int) (t : Nat), 0 ≤ i → i < S 1 → 0 ≤ j → j < S 1 → F i.toNat = some t → F j.toNat = some t → i = j)
def CLt (h : ev_H) (im : Int) (B : Int → Int) (F2 : Nat → Option Nat) : Prop := (∃ S2, CW h 8 S2 F2 ∧ (im = 1 → S2 = B)) ∧ (im = 0 → ∀ j, F2 j = none) ∧ (im = 1 → ∀ k : Int, 0 ≤ k → k < B 1 → ∃ t, F2 k.toNat = some t ∧ CT h t (win B k) k ∧ TG h t ∧ k < 8) ∧ (∀ j t : Nat, j < 8 → F2 j = some t → TG h t ∧ ∃ U nu, CT h t U nu) ∧ (∀ i j t : Nat, i < 8 → j < 8 → F2 i = some t → F2 j = some t → i = j)
def CLd (S : Int → Int) (F F2 : Nat → Option Nat) : Prop := ∀ (k : Int) (j t : Nat), 0 ≤ k → k < S 1 → j < 8 → F k.toNat = some t → F2 j ≠ some t
def CLw (h : ev_H) (A : Nat → Int → Int) (F F2 w : Nat → Option Nat) : Prop := ∀ d : Nat, d < 8 → A 2 d = 1 → ∃ t, w d = some t ∧ TG h t ∧ (A 8 d = 0 → F (A 6 d).toNat = some t) ∧ (A 8 d ≠ 0 → CT h t (fun i => A 7 (45 * (d : Int) + i)) (A 6 d) ∧ ∀ k : Int, 0 ≤ k → k < A 0 1 → F k.toNat ≠ some t) ∧ ∀ j : Nat, j < 8 → F2 j ≠ some t
def CL (h : ev_H) (im : Int) (A : Nat → Int → Int) (F F2 w : Nat → Option Nat) : Prop := RC h (A 0) F ∧ h[0]? = some (cWd (.ref 1) (.ref 8) im (.ref 15) (.ref 16) (.ref 17)) ∧ (∃ z a b c d e f g i, h[17]? = some (cRd z a b c d e f g i)) ∧ SC h A w ∧ CLg h (A 0) F ∧ CLt h im (A 1) F2 ∧ CLd (A 0) F F2 ∧ CLw h A F F2 w ∧ 47 ≤ h.length ∧ (h.length - 47) % 6 = 0
theorem agA.eq {h h2 : ev_H} {a n : Nat} {f : Int → Int} (x : agA h a n f) (e : h2[a]? = h[a]?) : agA h2 a n f := by
  obtain ⟨D, h1, h2'⟩ := x
  exact ⟨D, e.trans h1, h2'⟩
theorem agA.cg {h : ev_H} {a n : Nat} {f g : Int → Int} (x : agA h a n f) (e : ∀ p : Int, 0 ≤ p → p < n → f p = g p) : agA h a n g := by
  obtain ⟨D, h1, h2⟩ := x
  exact ⟨D, h1, fun p p1 p2 => (h2 p p1 p2).trans (e p p1 p2)⟩
theorem CW.eq {h h2 : ev_H} {b : Nat} {S : Int → Int} {F : Nat → Option Nat} (x : CW h b S F) (e : ∀ j, b ≤ j → j ≤ b + 6 → h2[j]? = h[j]?) : CW h2 b S F := by
  obtain ⟨x0, x1, x2, x3, x4, x5, x6⟩ := x
  exact ⟨(e _ (by omega) (by omega)).trans x0, x1.eq (e _ (by omega) (by omega)), x2.eq (e _ (by omega) (by omega)), x3.eq (e _ (by omega) (by omega)), x4.eq (e _ (by omega) (by omega)), x5.eq (e _ (by omega) (by omega)), (e _ (by omega) (by omega)).trans x6⟩
theorem CW.cg {h : ev_H} {b : Nat} {S S' : Int → Int} {F : Nat → Option Nat} (x : CW h b S F) (e : ∀ p : Int, 0 ≤ p → p < 143 → S p = S' p) : CW h b S' F := by
  obtain ⟨x0, x1, x2, x3, x4, x5, x6⟩ := x
  rw [e 0 (by decide) (by decide), e 1 (by decide) (by decide), e 2 (by decide) (by decide)] at x0
  exact ⟨x0, x1.cg (fun p h1 h2 => e _ (by omega) (by omega)), x2.cg (fun p h1 h2 => e _ (by omega) (by omega)), x3.cg (fun p h1 h2 => e _ (by omega) (by omega)), x4.cg (fun p h1 h2 => e _ (by omega) (by omega)), x5.cg (fun p h1 h2 => e _ (by omega) (by omega)), x6⟩
theorem CT.eq {h h2 : ev_H} {t : Nat} {U : Int → Int} {nu : Int} (x : CT h t U nu) (e : ∀ j, t ≤ j → j ≤ t + 5 → h2[j]? = h[j]?) : CT h2 t U nu := by
  obtain ⟨ea, x0, x1, x2, x3, x4, x5, x6⟩ := x
  exact ⟨ea, x0, (e _ (by omega) (by omega)).trans x1, x2.eq (e _ (by omega) (by omega)), x3.eq (e _ (by omega) (by omega)), x4.eq (e _ (by omega) (by omega)), x5.eq (e _ (by omega) (by omega)), x6.eq (e _ (by omega) (by omega))⟩
theorem CT.cg {h : ev_H} {t : Nat} {U U' : Int → Int} {nu : Int} (x : CT h t U nu) (e : ∀ p : Int, 0 ≤ p → p < 45 → U p = U' p) : CT h t U' nu := by
  obtain ⟨ea, ⟨x0, y0⟩, x1, x2, x3, x4, x5, x6⟩ := x
  rw [e 0 (by decide) (by decide), e 1 (by decide) (by decide), e 2 (by decide) (by decide), e 3 (by decide) (by decide), e 28 (by decide) (by decide)] at x1
  refine ⟨ea, ⟨x0, fun i h1 h2 => (y0 i h1 h2).trans (e _ (by omega) (by omega))⟩, x1, x2.cg (fun p h1 h2 => e _ (by omega) (by omega)), x3.cg (fun p h1 h2 => e _ (by omega) (by omega)), x4.cg (fun p h1 h2 => ?_), x5.cg (fun p h1 h2 => e _ (by omega) (by omega)), x6.cg (fun p h1 h2 => e _ (by omega) (by omega))⟩
  show U _ + 60 * U _ = U' _ + 60 * U' _
  rw [e _ (by omega) (by omega), e _ (by omega) (by omega)]
theorem TG.mo {h h2 : ev_H} {t : Nat} (x : TG h t) (e : h.length ≤ h2.length) : TG h2 t := ⟨x.1, x.2.1, by have := x.2.2; omega⟩
theorem TG.ne {h : ev_H} {t s j : Nat} (x : TG h t) (y : TG h s) (hn : t ≠ s) (h1 : t ≤ j) (h2 : j ≤ t + 5) : ¬ (s ≤ j ∧ j ≤ s + 5) := by
  obtain ⟨a, b, c⟩ := x
  obtain ⟨a', b', c'⟩ := y
  omega
/-- what a call of the class leaves of the reference's cells -/
def KM (h h2 : ev_H) : Prop := (∀ j, 34 ≤ j → j < 47 → h2[j]? = h[j]?) ∧ h.length ≤ h2.length ∧ h2.length ≤ h.length + 48
theorem KM.rf (h : ev_H) : KM h h := ⟨fun _ _ _ => rfl, by omega, by omega⟩
def clP (h : ev_H) (r : Option Value) (im : Int) (A : Nat → Int → Int) : Option Value → ev_H → Prop := fun v h2 => v = r ∧ KM h h2 ∧ ∃ F F2 w, CL h2 im A F F2 w
theorem FrS.km {h h2 : ev_H} (fr : FrS h h2) : KM h h2 := ⟨fun j h1 h3 => fr.2 j (by omega), by have := fr.1; omega, by have := fr.1; omega⟩
theorem CL.frS {h h2 : ev_H} {im : Int} {A : Nat → Int → Int} {F F2 w : Nat → Option Nat} (x : CL h im A F F2 w) (fr : FrS h h2) (hR : RC h2 (A 0) F) : CL h2 im A F F2 w := by
  obtain ⟨-, x1, ⟨z, a, b, c, d, e, f, g, i, x2⟩, x3, ⟨g1, g2⟩, ⟨⟨S2, t1, t1'⟩, t2, t3, t4, t5⟩, x6, x7, x8, x9⟩ := x
  have L := fr.1
  have tgm : ∀ t, TG h t → TG h2 t := fun t q => q.mo (by omega)
  refine ⟨hR, (fr.2 _ (by decide)).trans x1, ⟨z, a, b, c, d, e, f, g, i, (fr.2 _ (by decide)).trans x2⟩, x3.fr fr, ⟨fun k t q1 q2 q3 => tgm t (g1 k t q1 q2 q3), g2⟩, ⟨⟨S2, t1.fr fr (by decide), t1'⟩, t2, fun q k q1 q2 => ?_, fun j t q1 q2 => ?_, t5⟩, x6, fun d hd q => ?_, by omega, by omega⟩
  · obtain ⟨t, r1, r2, r3, r8⟩ := t3 q k q1 q2
    exact ⟨t, r1, r2.fr fr r3.1, tgm t r3, r8⟩
  · obtain ⟨r1, U, nu, r2⟩ := t4 j t q1 q2
    exact ⟨tgm t r1, U, nu, r2.fr fr r1.1⟩
  · obtain ⟨t, r1, r2, r3, r4, r5⟩ := x7 d hd q
    exact ⟨t, r1, tgm t r2, r3, fun q2 => ⟨(r4 q2).1.fr fr r2.1, (r4 q2).2⟩, r5⟩
end CO
