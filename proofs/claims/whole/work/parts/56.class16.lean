section CR
variable {l : Launch} {d : Nat} {own nm : String} {cc : ByteArray} {nL : Nat} {ret : Option FieldType} {pc pc' : Nat} {lc : ev_L} {st : List Value} {h h' : ev_H} {v : Option Value}
def cyI (S T : Int → Int) (sp dp n : Int) : Int → Int := fun x => if dp ≤ x ∧ x < dp + n then S (sp + (x - dp)) else T x
theorem ev_copyI {idx a b n0 n1 : Nat} {S T : Int → Int} {sp dp n : Int} (hw : Cond.methodLink own idx arraycopyName ∈ bg_tbl) (hd : decode cc pc = .ok (.invokestatic idx, 3)) (hp : pc + 3 = pc') (hd1 : 1 ≤ d) (hcat : (st.map fun v => v.category).sum ≤ 8) (ha : h[a]? = some (mA n0 S)) (hb' : h[b]? = some (mA n1 T)) (q1 : 0 ≤ sp ∧ 0 ≤ dp ∧ 0 ≤ n) (q4 : sp + n ≤ n0) (q5 : dp + n ≤ n1) (q6 : n0 ≤ 100000 ∧ n1 ≤ 100000) (kk : Ev l d own nm cc nL ret pc' lc st (h.set b (mA n1 (cyI S T sp dp n))) v h') : Ev l d own nm cc nL ret pc lc (.int (iI n) :: .int (iI dp) :: .ref b :: .int (iI sp) :: .ref a :: st) h v h' := by
  have z : ∀ x : Int, 0 ≤ x → x ≤ 100000 → ¬ iI x < 0 := fun x h1 h2 q => by
    have := (iI_lt (a := x) (b := 0) (by omega) (by decide)).mp q
    omega
  have c1 := iI_cl (e := sp) (by omega)
  have c2 := iI_cl (e := dp) (by omega)
  have c3 := iI_cl (e := n) (by omega)
  refine ev_copy hw hd hp hd1 hcat ha hb' (z sp (by omega) (by omega)) (z dp (by omega) (by omega)) (z n (by omega) (by omega)) (by omega) (by omega) ?_
  rw [show va_cpy (arI S) (arI T) (iI sp).toNatClampNeg (iI dp).toNatClampNeg (iI n).toNatClampNeg = arI (cyI S T sp dp n) from ?_]
  · exact kk
  · funext k
    unfold va_cpy arI cyI
    by_cases q : dp ≤ (k : Int) ∧ (k : Int) < dp + n
    · rw [if_pos (by omega), if_pos q]
      congr 2
      omega
    · rw [if_neg (by omega), if_neg q]
end CR
section CS
variable {l : Launch} {h h2 : ev_H} {im : Int} {A A' : Nat → Int → Int} {F F2 w w' : Nat → Option Nat}
/-- the shelves that hold travellers are as they were -/
theorem CLw.sh {d : Nat} {v : Option Nat} (x : CLw h A F F2 w) (L : h2.length = h.length) (e : ∀ j, ¬ (18 ≤ j ∧ j ≤ 33) → h2[j]? = h[j]?) (e0 : A' 0 = A 0) (e6 : A' 6 = A 6) (e7 : A' 7 = A 7) (e8 : A' 8 = A 8) (e2 : ∀ i : Nat, A' 2 i = 1 → A 2 i = 1 ∧ w' i = w i) : CLw h2 A' F F2 w' := by
  intro i hi q
  obtain ⟨a1, a2⟩ := e2 i q
  obtain ⟨t, r1, r2, r3, r4, r5⟩ := x i hi a1
  rw [e0, e6, e7, e8, a2]
  exact ⟨t, r1, r2.mo (by omega), r3, fun y => ⟨(r4 y).1.eq (fun j j1 j2 => e j (by have := r2.1; omega)), (r4 y).2⟩, r5⟩
theorem e1_hrL {h0 : ev_H} {a e : Nat} {s z : Int} (hae : e ≠ a) : ∀ (n i : Nat) (f : Int → Int) (h : ev_H), i + n = 100 → h[a]? = some (cSh .null 1 s z e) → h[e]? = some (mA 100 f) → (∀ y : Int, 0 ≤ y → y < i → f y = 0) → h.length = h0.length → (∀ j, j ≠ e → j ≠ a → h[j]? = h0[j]?) → Ex l 0 yX1_holdRow.cls yX1_holdRow.name cX1_holdRow 4 none 22 [some (.ref a), some (.int (iI s)), some (.int (iI z)), some (.int (iI (i : Int)))] [] h (fun v h2 => v = none ∧ (∃ f, h2[e]? = some (mA 100 f) ∧ ∀ y : Int, 0 ≤ y → y < 100 → f y = 0) ∧ h2.length = h0.length ∧ h2[a]? = some (cSh .null 1 s z e) ∧ ∀ j, j ≠ e → j ≠ a → h2[j]? = h0[j]?) := by
  intro n
  induction n with
  | zero =>
    intro i f h hn hSh hel hf L ho
    refine ex_of (fun _ _ => ev_iload_n (pc' := 23) dX1_holdRow_22 rfl rfl) ?_
    refine ex_of (fun _ _ => ev_bipush (pc' := 25) (iI (100)) dX1_holdRow_23 rfl (by decide)) ?_
    refine ex_icmpI_ge (pc' := 28) (tgt := 41) dX1_holdRow_25 (by decide) rfl (by omega) (by omega) (fun c25 => ?_) (fun c25 => ?_)
    · exact ex_end (ev_vret dX1_holdRow_41) (⟨rfl, ⟨f, hel, fun y y1 y2 => hf y y1 (by omega)⟩, L, hSh, ho⟩)
    · omega
  | succ n ih =>
    intro i f h hn hSh hel hf L ho
    refine ex_of (fun _ _ => ev_iload_n (pc' := 23) dX1_holdRow_22 rfl rfl) ?_
    refine ex_of (fun _ _ => ev_bipush (pc' := 25) (iI (100)) dX1_holdRow_23 rfl (by decide)) ?_
    refine ex_icmpI_ge (pc' := 28) (tgt := 41) dX1_holdRow_25 (by decide) rfl (by omega) (by omega) (fun c25 => ?_) (fun c25 => ?_)
    · omega
    · refine ex_of (fun _ _ => ev_aload_n (pc' := 29) dX1_holdRow_28 rfl rfl) ?_
      refine ex_of (fun _ _ => ev_getfield (pc' := 32) fX1_26 dX1_holdRow_29 rfl hSh rfl) ?_
      refine ex_of (fun _ _ => ev_iload_n (pc' := 33) dX1_holdRow_32 rfl rfl) ?_
      refine ex_of (fun _ _ => ev_iconst (pc' := 34) (iI (0)) dX1_holdRow_33 rfl (by decide)) ?_
      refine ex_of (fun _ _ => ev_iastoreI (pc' := 35) dX1_holdRow_34 rfl hel (by decide) (by omega)) ?_
      refine ex_of (fun _ _ => ev_iincI_3 (pc' := 38) dX1_holdRow_35 rfl (by decide) rfl) ?_
      refine ex_of (fun _ _ => ev_goto (tgt := 22) dX1_holdRow_38 (by decide)) ?_
      refine ih (i + 1) _ _ (by omega) (ev_gn hae hSh) (ev_gs hel) (fun y y1 y2 => ?_) (by rw [List.length_set]; exact L) (fun j j1 j2 => (set_ne j1).trans (ho j j1 j2))
      by_cases q : y = i
      · rw [q, upI_s]
      · rw [upI_n q]; exact hf y y1 (by omega)
theorem e1_holdRow {h0 : ev_H} {a e : Nat} {v0 : Value} {r0 s0 z0 s z : Int} {f : Int → Int} (hae : e ≠ a) (hSh : h0[a]? = some (cSh v0 r0 s0 z0 e)) (hel : h0[e]? = some (mA 100 f)) : Ex l 0 yX1_holdRow.cls yX1_holdRow.name cX1_holdRow 4 none 0 [some (.ref a), some (.int (iI s)), some (.int (iI z)), none] [] h0 (fun v h2 => v = none ∧ (∃ f, h2[e]? = some (mA 100 f) ∧ ∀ y : Int, 0 ≤ y → y < 100 → f y = 0) ∧ h2.length = h0.length ∧ h2[a]? = some (cSh .null 1 s z e) ∧ ∀ j, j ≠ e → j ≠ a → h2[j]? = h0[j]?) := by
  refine ex_of (fun _ _ => ev_aload_n (pc' := 1) dX1_holdRow_0 rfl rfl) ?_
  refine ex_of (fun _ _ => ev_null (pc' := 2) dX1_holdRow_1 rfl) ?_
  refine ex_of (fun _ _ => ev_putfield (pc' := 5) (pX1_9 _) dX1_holdRow_2 rfl hSh rfl rfl (Nat.le_of_ble_eq_true rfl)) ?_
  refine ex_of (fun _ _ => ev_aload_n (pc' := 6) dX1_holdRow_5 rfl rfl) ?_
  refine ex_of (fun _ _ => ev_iconst (pc' := 7) (iI (1)) dX1_holdRow_6 rfl (by decide)) ?_
  refine ex_of (fun _ _ => ev_putfield (pc' := 10) (pX1_15 _) dX1_holdRow_7 rfl (ev_gs hSh) rfl rfl (Nat.le_of_ble_eq_true rfl)) ?_
  refine ex_of (fun _ _ => ev_aload_n (pc' := 11) dX1_holdRow_10 rfl rfl) ?_
  refine ex_of (fun _ _ => ev_iload_n (pc' := 12) dX1_holdRow_11 rfl rfl) ?_
  refine ex_of (fun _ _ => ev_putfield (pc' := 15) (pX1_19 _) dX1_holdRow_12 rfl (ev_gs (ev_gs hSh)) rfl rfl (Nat.le_of_ble_eq_true rfl)) ?_
  refine ex_of (fun _ _ => ev_aload_n (pc' := 16) dX1_holdRow_15 rfl rfl) ?_
  refine ex_of (fun _ _ => ev_iload_n (pc' := 17) dX1_holdRow_16 rfl rfl) ?_
  refine ex_of (fun _ _ => ev_putfield (pc' := 20) (pX1_23 _) dX1_holdRow_17 rfl (ev_gs (ev_gs (ev_gs hSh))) rfl rfl (Nat.le_of_ble_eq_true rfl)) ?_
  refine ex_of (fun _ _ => ev_iconst (pc' := 21) (iI (0)) dX1_holdRow_20 rfl (by decide)) ?_
  refine ex_of (fun _ _ => ev_istore_3 (pc' := 22) dX1_holdRow_21 rfl (by decide) rfl) ?_
  rw [List.set_set, List.set_set, List.set_set]
  exact e1_hrL hae 100 0 f _ (by omega) (ev_gs hSh) (ev_gn (Ne.symm hae) hel) (fun y y1 y2 => by omega) List.length_set (fun j j1 j2 => set_ne j2)
theorem c_row {q k n : Int} (x : CL h im A F F2 w) (hI : mI0 (A 0)) (hA : mSh A) (rq : -2147483648 ≤ q ∧ q < 2147483648) (rk : -2147483648 ≤ k ∧ k < 2147483648) (rn : -2147483648 ≤ n ∧ n < 2147483648) : Ex l 1 yX5_row.cls yX5_row.name cX5_row 5 (some .int) 0 [some (.ref 0), some (.int (iI q)), some (.int (iI k)), some (.int (iI n)), none] [] h (clP h (if rwB q k n then some (.int (iI 0)) else some (.int (iI (rwE q k n)))) im (if rwB q k n then rwA A q k n else A)) := by
  obtain ⟨⟨i1, i2⟩, ⟨i3, i4⟩, i5, i6⟩ := id hI
  have hR := x.rc
  have hX0 := x.x0
  have hN := hR.nw
  obtain ⟨D, R, C, Q, X, hW, ⟨hD, eD⟩, ⟨hRu, eR⟩, ⟨hC, eC⟩, ⟨hQ, eQ⟩, ⟨hX, eX⟩, hF⟩ := CW.op hN
  have hS := x.sc
  by_cases hq : 0 ≤ q ∧ q < 8
  · obtain ⟨d, rfl⟩ : ∃ d : Nat, q = d := ⟨q.toNat, by omega⟩
    have hd : d < 8 := by omega
    obtain ⟨el, hSh, ⟨hel, eel⟩, hw1, hw2⟩ := SC.op hS hd
    refine ex_of (fun _ _ => ev_aload_n (pc' := 1) dX5_row_0 rfl rfl) ?_
    refine ex_of (fun _ _ => ev_iload_n (pc' := 2) dX5_row_1 rfl rfl) ?_
    refine ex_of (fun _ _ => ev_callV1 (pc' := 5) kX5_44 mX5_shelfOf dX5_row_2 rfl rfl (Nat.le_of_ble_eq_true rfl) (Nat.le_of_ble_eq_true rfl) (by decide) rfl hX0 (e5_shelfOf hX0 hS hd)) ?_
    refine ex_of (fun _ _ => ev_astore_4 (pc' := 7) dX5_row_5 rfl (by decide) rfl) ?_
    refine ex_of (fun _ _ => ev_aload (pc' := 9) dX5_row_7 rfl rfl) ?_
    refine ex_of (fun _ _ => ev_ifnull (pc' := 12) dX5_row_9 rfl) ?_
    refine ex_of (fun _ _ => ev_iload_n (pc' := 13) dX5_row_12 rfl rfl) ?_
    refine ex_ifI_lt (pc' := 16) (tgt := 27) dX5_row_13 (by decide) rfl (by omega) (fun c13 => ?_) (fun c13 => ?_)
    · refine ex_of (fun _ _ => ev_iconst (pc' := 28) (iI (-1)) dX5_row_27 rfl (by decide)) ?_
      exact ex_end (ev_iret dX5_row_28 rfl) (by rw [show rwB _ k n = false from decide_eq_false (by omega), show rwE _ k n = -1 by unfold rwE; (repeat (first | rw [if_pos (by omega)] | rw [if_neg (by omega)]))]; exact x.same)
    · refine ex_of (fun _ _ => ev_iload_n (pc' := 17) dX5_row_16 rfl rfl) ?_
      refine ex_of (fun _ _ => ev_iconst (pc' := 18) (iI (2)) dX5_row_17 rfl (by decide)) ?_
      refine ex_icmpI_gt (pc' := 21) (tgt := 27) dX5_row_18 (by decide) rfl (by omega) (by omega) (fun c18 => ?_) (fun c18 => ?_)
      · refine ex_of (fun _ _ => ev_iconst (pc' := 28) (iI (-1)) dX5_row_27 rfl (by decide)) ?_
        exact ex_end (ev_iret dX5_row_28 rfl) (by rw [show rwB _ k n = false from decide_eq_false (by omega), show rwE _ k n = -1 by unfold rwE; (repeat (first | rw [if_pos (by omega)] | rw [if_neg (by omega)]))]; exact x.same)
      · refine ex_of (fun _ _ => ev_iload_n (pc' := 22) dX5_row_21 rfl rfl) ?_
        refine ex_of (fun _ _ => ev_bipush (pc' := 24) (iI (100)) dX5_row_22 rfl (by decide)) ?_
        refine ex_icmpI_le (pc' := 27) (tgt := 29) dX5_row_24 (by decide) rfl (by omega) (by omega) (fun c24 => ?_) (fun c24 => ?_)
        · refine ex_of (fun _ _ => ev_iload_n (pc' := 30) dX5_row_29 rfl rfl) ?_
          refine ex_ifI_ge (pc' := 33) (tgt := 36) dX5_row_30 (by decide) rfl (by omega) (fun c30 => ?_) (fun c30 => ?_)
          · refine ex_of (fun _ _ => ev_aload (pc' := 38) dX5_row_36 rfl rfl) ?_
            refine ex_of (fun _ _ => ev_iload_n (pc' := 39) dX5_row_38 rfl rfl) ?_
            refine ex_of (fun _ _ => ev_iload_n (pc' := 40) dX5_row_39 rfl rfl) ?_
            have hO := hSh
            obtain ⟨w1, h1, E1, rfl, ⟨f2, z1, z2⟩, z3, z4, z5⟩ := e1_holdRow (l := l) (s := k) (z := n) (show 19 + 2 * d ≠ 18 + 2 * d by omega) hSh hel
            refine ex_of (fun _ _ => ev_callV2v (pc' := 43) kX5_278 mX1_holdRow dX5_row_40 rfl rfl (Nat.le_of_ble_eq_true rfl) (Nat.le_of_ble_eq_true rfl) (by decide) rfl hO E1) ?_
            refine ex_of (fun _ _ => ev_iconst (pc' := 44) (iI (0)) dX5_row_43 rfl (by decide)) ?_
            exact ex_end (ev_iret dX5_row_44 rfl) (by
    rw [show rwB (d : Int) k n = true from decide_eq_true (by omega)]
    obtain ⟨-, -, -, -, cg, ct, cd, cw, -⟩ := id x
    have e2 : rwA A d k n 2 d = 2 := upI_s _ _ _
    have e2n : ∀ i : Nat, i ≠ d → rwA A d k n 2 i = A 2 i := fun i hi => upI_n (by omega)
    have e9 : ∀ j, ¬ (18 ≤ j ∧ j ≤ 33) → h1[j]? = h[j]? := fun j hj => z5 j (by omega) (by omega)
    have hS2 : SC h1 (rwA A d k n) (va_up w d none) := by
      refine ⟨(e9 15 (by omega)).trans hS.1, fun i hi => ?_⟩
      by_cases y : i = d
      · subst y
        refine ⟨?_, ⟨f2, z1, fun p p1 p2 => ?_⟩, ?_⟩
        · rw [z4, vu_s, e2, if_pos rfl, show rwA A i k n 3 i = k from upI_s _ _ _, show rwA A i k n 4 i = n from upI_s _ _ _]; rfl
        · rw [z2 p p1 p2]
          show 0 = zeN (A 5) i 100 (100 * (i : Int) + p)
          unfold zeN
          rw [if_pos (by omega)]
        · rw [vu_s, e2]; exact ⟨fun _ => rfl, fun c => absurd c (by decide)⟩
      · obtain ⟨a, b, c⟩ := hS.2 i hi
        rw [e2n i y, vu_n y, show rwA A d k n 3 i = A 3 i from upI_n (by omega), show rwA A d k n 4 i = A 4 i from upI_n (by omega)]
        refine ⟨(z5 _ (by omega) (by omega)).trans a, (b.eq (z5 _ (by omega) (by omega))).cg (fun p p1 p2 => ?_), c⟩
        show _ = zeN (A 5) d 100 (100 * (i : Int) + p)
        unfold zeN
        rw [if_neg (by omega)]
    have K := x.shf (A' := rwA A d k n) z3 e9 rfl rfl hS2 (cw.sh (d := d) (v := none) z3 e9 rfl rfl rfl rfl (fun i q => by
      by_cases y : i = d
      · rw [y, e2] at q; omega
      · rw [e2n i y] at q; exact ⟨q, vu_n y⟩))
    exact ⟨rfl, K.2, F, F2, _, K.1⟩)
          · refine ex_of (fun _ _ => ev_bipush (pc' := 35) (iI (-14)) dX5_row_33 rfl (by decide)) ?_
            exact ex_end (ev_iret dX5_row_35 rfl) (by rw [show rwB _ k n = false from decide_eq_false (by omega), show rwE _ k n = -14 by unfold rwE; (repeat (first | rw [if_pos (by omega)] | rw [if_neg (by omega)]))]; exact x.same)
        · refine ex_of (fun _ _ => ev_iconst (pc' := 28) (iI (-1)) dX5_row_27 rfl (by decide)) ?_
          exact ex_end (ev_iret dX5_row_28 rfl) (by rw [show rwB _ k n = false from decide_eq_false (by omega), show rwE _ k n = -1 by unfold rwE; (repeat (first | rw [if_pos (by omega)] | rw [if_neg (by omega)]))]; exact x.same)
  · skip
    refine ex_of (fun _ _ => ev_aload_n (pc' := 1) dX5_row_0 rfl rfl) ?_
    refine ex_of (fun _ _ => ev_iload_n (pc' := 2) dX5_row_1 rfl rfl) ?_
    refine ex_of (fun _ _ => ev_callV1 (pc' := 5) kX5_44 mX5_shelfOf dX5_row_2 rfl rfl (Nat.le_of_ble_eq_true rfl) (Nat.le_of_ble_eq_true rfl) (by decide) rfl hX0 (e5_shelfOf0 hq (by omega))) ?_
    refine ex_of (fun _ _ => ev_astore_4N (pc' := 7) dX5_row_5 rfl (by decide) rfl) ?_
    refine ex_of (fun _ _ => ev_aloadN (pc' := 9) dX5_row_7 rfl rfl) ?_
    refine ex_of (fun _ _ => ev_ifnullN (tgt := 27) dX5_row_9 (by decide)) ?_
    refine ex_of (fun _ _ => ev_iconst (pc' := 28) (iI (-1)) dX5_row_27 rfl (by decide)) ?_
    exact ex_end (ev_iret dX5_row_28 rfl) (by rw [show rwB _ k n = false from decide_eq_false (by omega), show rwE _ k n = -1 by unfold rwE; (repeat (first | rw [if_pos (by omega)] | rw [if_neg (by omega)]))]; exact x.same)
theorem c_put {q i n : Int} (x : CL h im A F F2 w) (hI : mI0 (A 0)) (hA : mSh A) (rq : -2147483648 ≤ q ∧ q < 2147483648) (ri : -2147483648 ≤ i ∧ i < 2147483648) (rn : -2147483648 ≤ n ∧ n < 2147483648) : Ex l 2 yX5_put.cls yX5_put.name cX5_put 5 (some .int) 0 [some (.ref 0), some (.int (iI q)), some (.int (iI i)), some (.int (iI n)), none] [] h (clP h (if ptB A q i then some (.int (iI 0)) else some (.int (iI (ptE A q)))) im (if ptB A q i then ptA A q i n else A)) := by
  obtain ⟨⟨i1, i2⟩, ⟨i3, i4⟩, i5, i6⟩ := id hI
  have hR := x.rc
  have hX0 := x.x0
  have hN := hR.nw
  obtain ⟨D, R, C, Q, X, hW, ⟨hD, eD⟩, ⟨hRu, eR⟩, ⟨hC, eC⟩, ⟨hQ, eQ⟩, ⟨hX, eX⟩, hF⟩ := CW.op hN
  have hS := x.sc
  by_cases hq : 0 ≤ q ∧ q < 8
  · obtain ⟨d, rfl⟩ : ∃ d : Nat, q = d := ⟨q.toNat, by omega⟩
    have hd : d < 8 := by omega
    obtain ⟨el, hSh, ⟨hel, eel⟩, hw1, hw2⟩ := SC.op hS hd
    obtain ⟨s1, s2, s3, s4, s5⟩ := hA.1 (d : Int) (by omega) (by omega)
    refine ex_of (fun _ _ => ev_aload_n (pc' := 1) dX5_put_0 rfl rfl) ?_
    refine ex_of (fun _ _ => ev_iload_n (pc' := 2) dX5_put_1 rfl rfl) ?_
    refine ex_of (fun _ _ => ev_callV1 (pc' := 5) kX5_44 mX5_shelfOf dX5_put_2 rfl rfl (Nat.le_of_ble_eq_true rfl) (Nat.le_of_ble_eq_true rfl) (by decide) rfl hX0 (e5_shelfOf hX0 hS hd)) ?_
    refine ex_of (fun _ _ => ev_astore_4 (pc' := 7) dX5_put_5 rfl (by decide) rfl) ?_
    refine ex_of (fun _ _ => ev_aload (pc' := 9) dX5_put_7 rfl rfl) ?_
    refine ex_of (fun _ _ => ev_ifnonnull (tgt := 14) dX5_put_9 (by decide)) ?_
    refine ex_of (fun _ _ => ev_aload (pc' := 16) dX5_put_14 rfl rfl) ?_
    refine ex_of (fun _ _ => ev_getfield (pc' := 19) fX5_213 dX5_put_16 rfl hSh rfl) ?_
    refine ex_ifI_ne (pc' := 22) (tgt := 28) dX5_put_19 (by decide) rfl (by unfold hr; split <;> omega) (fun c19 => ?_) (fun c19 => ?_)
    · have hk2 : A 2 (d : Int) = 2 := by unfold hr at c19; split at c19 <;> omega
      have hz : sRow A (d : Int) (-1) = 0 := by unfold sRow; rw [if_neg (by omega), if_neg (by omega), if_neg (by omega)]
      refine ex_of (fun _ _ => ev_aload (pc' := 30) dX5_put_28 rfl rfl) ?_
      refine ex_of (fun _ _ => ev_iload_n (pc' := 31) dX5_put_30 rfl rfl) ?_
      refine ex_of (fun _ _ => ev_callV1 (pc' := 34) kX5_282 mX1_hasElement dX5_put_31 rfl rfl (Nat.le_of_ble_eq_true rfl) (Nat.le_of_ble_eq_true rfl) (by decide) rfl hSh (e1_hasElement hS hA hd (by omega))) ?_
      refine ex_ifd_ne (pc' := 37) (tgt := 40) dX5_put_34 (by decide) rfl (fun c34 => ?_) (fun c34 => ?_)
      · refine ex_of (fun _ _ => ev_aload (pc' := 42) dX5_put_40 rfl rfl) ?_
        refine ex_of (fun _ _ => ev_getfield (pc' := 45) fX5_226 dX5_put_42 rfl hSh rfl) ?_
        refine ex_of (fun _ _ => ev_iload_n (pc' := 46) dX5_put_45 rfl rfl) ?_
        refine ex_of (fun _ _ => ev_aload (pc' := 48) dX5_put_46 rfl rfl) ?_
        refine ex_of (fun _ _ => ev_iload_n (pc' := 49) dX5_put_48 rfl rfl) ?_
        refine ex_of (fun _ _ => ev_callV1 (pc' := 52) kX5_285 mX1_lowestBits dX5_put_49 rfl rfl (Nat.le_of_ble_eq_true rfl) (Nat.le_of_ble_eq_true rfl) (by decide) rfl hSh (e1_lowestBits hS hA hd (by omega))) ?_
        refine ex_of (fun _ _ => ev_iastoreI (pc' := 53) dX5_put_52 rfl hel (by decide) (by omega)) ?_
        refine ex_of (fun _ _ => ev_iconst (pc' := 54) (iI (0)) dX5_put_53 rfl (by decide)) ?_
        exact ex_end (ev_iret dX5_put_54 rfl) (by
    rw [show ptB A (d : Int) i = true from decide_eq_true ⟨hz, by omega⟩]
    obtain ⟨-, -, -, -, cg, ct, cd, cw, -⟩ := id x
    have e9 : ∀ j, ¬ (18 ≤ j ∧ j ≤ 33) → (h.set (19 + 2 * d) (mA 100 (upI el i (lowS (A 3 d) n))))[j]? = h[j]? := fun j hj => set_ne (by omega)
    have hS2 : SC (h.set (19 + 2 * d) (mA 100 (upI el i (lowS (A 3 d) n)))) (ptA A d i n) w := by
      refine ⟨(e9 15 (by omega)).trans hS.1, fun j hj => ?_⟩
      obtain ⟨a, b, c⟩ := hS.2 j hj
      refine ⟨(set_ne (by omega)).trans a, ?_, c⟩
      by_cases y : j = d
      · subst y
        refine ⟨_, ev_gs hel, fun p p1 p2 => ?_⟩
        show upI el i _ p = upI (A 5) (100 * (j : Int) + i) _ (100 * (j : Int) + p)
        by_cases z : p = i
        · rw [z, upI_s, upI_s]
        · rw [upI_n z, upI_n (by omega), eel p p1 (by omega)]
      · exact (b.eq (set_ne (by omega))).cg (fun p p1 p2 => (upI_n (by omega)).symm)
    have K := x.shf (A' := ptA A d i n) List.length_set e9 rfl rfl hS2 (cw.sh (d := d) (v := none) List.length_set e9 rfl rfl rfl rfl (fun j q => ⟨q, rfl⟩))
    exact ⟨rfl, K.2, F, F2, _, K.1⟩)
      · refine ex_of (fun _ _ => ev_bipush (pc' := 39) (iI (-13)) dX5_put_37 rfl (by decide)) ?_
        exact ex_end (ev_iret dX5_put_39 rfl) (by rw [show ptB A (d : Int) i = false from decide_eq_false (by omega), show ptE A (d : Int) = -13 by unfold ptE; rw [if_pos hz]]; exact x.same)
    · have hk2 : A 2 (d : Int) ≠ 2 := by unfold hr at c19; split at c19 <;> omega
      have hz : sRow A (d : Int) (-1) ≠ 0 := by unfold sRow; (repeat' split) <;> omega
      refine ex_of (fun _ _ => ev_aload (pc' := 24) dX5_put_22 rfl rfl) ?_
      refine ex_of (fun _ _ => ev_callS1 (pc' := 27) kX5_216 mX5_refusalOfRow dX5_put_24 rfl rfl (Nat.le_of_ble_eq_true rfl) (Nat.le_of_ble_eq_true rfl) (by decide) (e5_refusalOfRow hS hA hd)) ?_
      exact ex_end (ev_iret dX5_put_27 rfl) (by rw [show ptB A (d : Int) i = false from decide_eq_false (by omega), show ptE A (d : Int) = sRow A d (-1) by unfold ptE; rw [if_neg hz]]; exact x.same)
  · skip
    refine ex_of (fun _ _ => ev_aload_n (pc' := 1) dX5_put_0 rfl rfl) ?_
    refine ex_of (fun _ _ => ev_iload_n (pc' := 2) dX5_put_1 rfl rfl) ?_
    refine ex_of (fun _ _ => ev_callV1 (pc' := 5) kX5_44 mX5_shelfOf dX5_put_2 rfl rfl (Nat.le_of_ble_eq_true rfl) (Nat.le_of_ble_eq_true rfl) (by decide) rfl hX0 (e5_shelfOf0 hq (by omega))) ?_
    refine ex_of (fun _ _ => ev_astore_4N (pc' := 7) dX5_put_5 rfl (by decide) rfl) ?_
    refine ex_of (fun _ _ => ev_aloadN (pc' := 9) dX5_put_7 rfl rfl) ?_
    refine ex_of (fun _ _ => ev_ifnonnullN (pc' := 12) dX5_put_9 rfl) ?_
    refine ex_of (fun _ _ => ev_iconst (pc' := 13) (iI (-1)) dX5_put_12 rfl (by decide)) ?_
    exact ex_end (ev_iret dX5_put_13 rfl) (by have hz : sRow A q (-1) = -1 := (by unfold sRow; rw [if_pos (by omega)]); rw [show ptB A q i = false from decide_eq_false (by omega), show ptE A q = -1 by unfold ptE; rw [if_neg (by omega), hz]]; exact x.same)
theorem c_copy {q i r j n : Int} (x : CL h im A F F2 w) (hI : mI0 (A 0)) (hA : mSh A) (rq : -2147483648 ≤ q ∧ q < 2147483648) (ri : -2147483648 ≤ i ∧ i < 2147483648) (rr : -2147483648 ≤ r ∧ r < 2147483648) (rj : -2147483648 ≤ j ∧ j < 2147483648) (rn : -2147483648 ≤ n ∧ n < 2147483648) : Ex l 1 yX5_copy.cls yX5_copy.name cX5_copy 8 (some .int) 0 [some (.ref 0), some (.int (iI q)), some (.int (iI i)), some (.int (iI r)), some (.int (iI j)), some (.int (iI n)), none, none] [] h (clP h (some (.int (iI (cyE A q i r j n)))) im (if cyB A q i r j n then cyA A q i r j n else A)) := by
  obtain ⟨⟨i1, i2⟩, ⟨i3, i4⟩, i5, i6⟩ := id hI
  have hR := x.rc
  have hX0 := x.x0
  have hN := hR.nw
  obtain ⟨D, R, C, Q, X, hW, ⟨hD, eD⟩, ⟨hRu, eR⟩, ⟨hC, eC⟩, ⟨hQ, eQ⟩, ⟨hX, eX⟩, hF⟩ := CW.op hN
  have hS := x.sc
  by_cases hq : 0 ≤ q ∧ q < 8
  · obtain ⟨d, rfl⟩ : ∃ d : Nat, q = d := ⟨q.toNat, by omega⟩
    have hd : d < 8 := by omega
    obtain ⟨s1, s2, s3, s4, s5⟩ := hA.1 (d : Int) (by omega) (by omega)
    obtain ⟨el, hSh, ⟨hel, eel⟩, hw1, hw2⟩ := SC.op hS hd
    by_cases hr9 : 0 ≤ r ∧ r < 8
    · obtain ⟨e, rfl⟩ : ∃ e : Nat, r = e := ⟨r.toNat, by omega⟩
      have he : e < 8 := by omega
      obtain ⟨r1, r2, r3, r4, r5⟩ := hA.1 (e : Int) (by omega) (by omega)
      obtain ⟨el2, hSh2, ⟨hel2, eel2⟩, hv1, hv2⟩ := SC.op hS he
      refine ex_of (fun _ _ => ev_aload_n (pc' := 1) dX5_copy_0 rfl rfl) ?_
      refine ex_of (fun _ _ => ev_iload_n (pc' := 2) dX5_copy_1 rfl rfl) ?_
      refine ex_of (fun _ _ => ev_callV1 (pc' := 5) kX5_44 mX5_shelfOf dX5_copy_2 rfl rfl (Nat.le_of_ble_eq_true rfl) (Nat.le_of_ble_eq_true rfl) (by decide) rfl hX0 (e5_shelfOf hX0 hS hd)) ?_
      refine ex_of (fun _ _ => ev_astore_6 (pc' := 7) dX5_copy_5 rfl (by decide) rfl) ?_
      refine ex_of (fun _ _ => ev_aload_n (pc' := 8) dX5_copy_7 rfl rfl) ?_
      refine ex_of (fun _ _ => ev_iload_n (pc' := 9) dX5_copy_8 rfl rfl) ?_
      refine ex_of (fun _ _ => ev_callV1 (pc' := 12) kX5_44 mX5_shelfOf dX5_copy_9 rfl rfl (Nat.le_of_ble_eq_true rfl) (Nat.le_of_ble_eq_true rfl) (by decide) rfl hX0 (e5_shelfOf hX0 hS he)) ?_
      refine ex_of (fun _ _ => ev_astore_7 (pc' := 14) dX5_copy_12 rfl (by decide) rfl) ?_
      refine ex_of (fun _ _ => ev_aload (pc' := 16) dX5_copy_14 rfl rfl) ?_
      refine ex_of (fun _ _ => ev_ifnull (pc' := 19) dX5_copy_16 rfl) ?_
      refine ex_of (fun _ _ => ev_aload (pc' := 21) dX5_copy_19 rfl rfl) ?_
      refine ex_of (fun _ _ => ev_ifnonnull (tgt := 26) dX5_copy_21 (by decide)) ?_
      refine ex_of (fun _ _ => ev_aload (pc' := 28) dX5_copy_26 rfl rfl) ?_
      refine ex_of (fun _ _ => ev_callV0 (pc' := 31) kX5_300 mX1_isEmpty dX5_copy_28 rfl rfl (Nat.le_of_ble_eq_true rfl) (Nat.le_of_ble_eq_true rfl) (by decide) rfl hSh (e1_isEmpty hS hA hd)) ?_
      refine ex_ifd_ne (pc' := 34) (tgt := 42) dX5_copy_31 (by decide) rfl (fun c31 => ?_) (fun c31 => ?_)
      · refine ex_of (fun _ _ => ev_bipush (pc' := 44) (iI (-11)) dX5_copy_42 rfl (by decide)) ?_
        exact ex_end (ev_iret dX5_copy_44 rfl) (by have ee : cyE A (d : Int) i (e : Int) j n = -11 := (by unfold cyE; (repeat (first | rw [if_pos (by omega)] | rw [if_neg (by omega)]))); rw [ee, show cyB A (d : Int) i (e : Int) j n = false by unfold cyB; rw [ee]; decide]; exact x.same)
      · refine ex_of (fun _ _ => ev_aload (pc' := 36) dX5_copy_34 rfl rfl) ?_
        refine ex_of (fun _ _ => ev_callV0 (pc' := 39) kX5_300 mX1_isEmpty dX5_copy_36 rfl rfl (Nat.le_of_ble_eq_true rfl) (Nat.le_of_ble_eq_true rfl) (by decide) rfl hSh2 (e1_isEmpty hS hA he)) ?_
        refine ex_ifd_eq (pc' := 42) (tgt := 45) dX5_copy_39 (by decide) rfl (fun c39 => ?_) (fun c39 => ?_)
        · refine ex_of (fun _ _ => ev_aload (pc' := 47) dX5_copy_45 rfl rfl) ?_
          refine ex_of (fun _ _ => ev_getfield (pc' := 50) fX5_213 dX5_copy_47 rfl hSh rfl) ?_
          refine ex_ifI_eq (pc' := 53) (tgt := 74) dX5_copy_50 (by decide) rfl (by unfold hr; split <;> omega) (fun c50 => ?_) (fun c50 => ?_)
          · have hz50 : A 2 (d : Int) ≠ 2 := by unfold hr at c50; split at c50 <;> omega
            refine ex_of (fun _ _ => ev_bipush (pc' := 76) (iI (-12)) dX5_copy_74 rfl (by decide)) ?_
            exact ex_end (ev_iret dX5_copy_76 rfl) (by have ee : cyE A (d : Int) i (e : Int) j n = -12 := (by unfold cyE; (repeat (first | rw [if_pos (by omega)] | rw [if_neg (by omega)]))); rw [ee, show cyB A (d : Int) i (e : Int) j n = false by unfold cyB; rw [ee]; decide]; exact x.same)
          · have hz50 : A 2 (d : Int) = 2 := by unfold hr at c50; split at c50 <;> omega
            refine ex_of (fun _ _ => ev_aload (pc' := 55) dX5_copy_53 rfl rfl) ?_
            refine ex_of (fun _ _ => ev_getfield (pc' := 58) fX5_213 dX5_copy_55 rfl hSh2 rfl) ?_
            refine ex_ifI_eq (pc' := 61) (tgt := 74) dX5_copy_58 (by decide) rfl (by unfold hr; split <;> omega) (fun c58 => ?_) (fun c58 => ?_)
            · have hz58 : A 2 (e : Int) ≠ 2 := by unfold hr at c58; split at c58 <;> omega
              refine ex_of (fun _ _ => ev_bipush (pc' := 76) (iI (-12)) dX5_copy_74 rfl (by decide)) ?_
              exact ex_end (ev_iret dX5_copy_76 rfl) (by have ee : cyE A (d : Int) i (e : Int) j n = -12 := (by unfold cyE; (repeat (first | rw [if_pos (by omega)] | rw [if_neg (by omega)]))); rw [ee, show cyB A (d : Int) i (e : Int) j n = false by unfold cyB; rw [ee]; decide]; exact x.same)
            · have hz58 : A 2 (e : Int) = 2 := by unfold hr at c58; split at c58 <;> omega
              refine ex_of (fun _ _ => ev_aload (pc' := 63) dX5_copy_61 rfl rfl) ?_
              refine ex_of (fun _ _ => ev_getfield (pc' := 66) fX5_303 dX5_copy_63 rfl hSh rfl) ?_
              refine ex_of (fun _ _ => ev_aload (pc' := 68) dX5_copy_66 rfl rfl) ?_
              refine ex_of (fun _ _ => ev_getfield (pc' := 71) fX5_303 dX5_copy_68 rfl hSh2 rfl) ?_
              refine ex_icmpI_eq (pc' := 74) (tgt := 77) dX5_copy_71 (by decide) rfl (by omega) (by omega) (fun c71 => ?_) (fun c71 => ?_)
              · refine ex_of (fun _ _ => ev_aload (pc' := 79) dX5_copy_77 rfl rfl) ?_
                refine ex_of (fun _ _ => ev_iload_n (pc' := 80) dX5_copy_79 rfl rfl) ?_
                refine ex_of (fun _ _ => ev_iload (pc' := 82) dX5_copy_80 rfl rfl) ?_
                refine ex_of (fun _ _ => ev_callV2 (pc' := 85) kX5_306 mX1_hasSpan dX5_copy_82 rfl rfl (Nat.le_of_ble_eq_true rfl) (Nat.le_of_ble_eq_true rfl) (by decide) rfl hSh (e1_hasSpan hS hA hd (by omega) (by omega))) ?_
                refine ex_ifd_eq (pc' := 88) (tgt := 100) dX5_copy_85 (by decide) rfl (fun c85 => ?_) (fun c85 => ?_)
                · refine ex_of (fun _ _ => ev_bipush (pc' := 102) (iI (-13)) dX5_copy_100 rfl (by decide)) ?_
                  exact ex_end (ev_iret dX5_copy_102 rfl) (by have ee : cyE A (d : Int) i (e : Int) j n = -13 := (by unfold cyE; (repeat (first | rw [if_pos (by omega)] | rw [if_neg (by omega)]))); rw [ee, show cyB A (d : Int) i (e : Int) j n = false by unfold cyB; rw [ee]; decide]; exact x.same)
                · refine ex_of (fun _ _ => ev_aload (pc' := 90) dX5_copy_88 rfl rfl) ?_
                  refine ex_of (fun _ _ => ev_iload (pc' := 92) dX5_copy_90 rfl rfl) ?_
                  refine ex_of (fun _ _ => ev_iload (pc' := 94) dX5_copy_92 rfl rfl) ?_
                  refine ex_of (fun _ _ => ev_callV2 (pc' := 97) kX5_306 mX1_hasSpan dX5_copy_94 rfl rfl (Nat.le_of_ble_eq_true rfl) (Nat.le_of_ble_eq_true rfl) (by decide) rfl hSh2 (e1_hasSpan hS hA he (by omega) (by omega))) ?_
                  refine ex_ifd_ne (pc' := 100) (tgt := 103) dX5_copy_97 (by decide) rfl (fun c97 => ?_) (fun c97 => ?_)
                  · refine ex_of (fun _ _ => ev_aload (pc' := 105) dX5_copy_103 rfl rfl) ?_
                    refine ex_of (fun _ _ => ev_getfield (pc' := 108) fX5_226 dX5_copy_105 rfl hSh rfl) ?_
                    refine ex_of (fun _ _ => ev_iload_n (pc' := 109) dX5_copy_108 rfl rfl) ?_
                    refine ex_of (fun _ _ => ev_aload (pc' := 111) dX5_copy_109 rfl rfl) ?_
                    refine ex_of (fun _ _ => ev_getfield (pc' := 114) fX5_226 dX5_copy_111 rfl hSh2 rfl) ?_
                    refine ex_of (fun _ _ => ev_iload (pc' := 116) dX5_copy_114 rfl rfl) ?_
                    refine ex_of (fun _ _ => ev_iload (pc' := 118) dX5_copy_116 rfl rfl) ?_
                    refine ex_of (fun _ _ => ev_copyI (pc' := 121) acX5_310 dX5_copy_118 rfl (by decide) (Nat.le_of_ble_eq_true rfl) hel hel2 (by omega) (by omega) (by omega) (by decide)) ?_
                    refine ex_of (fun _ _ => ev_iload (pc' := 123) dX5_copy_121 rfl rfl) ?_
                    exact ex_end (ev_iret dX5_copy_123 rfl) (by
    have ee : cyE A d i e j n = n := by unfold cyE; (repeat (first | rw [if_pos (by omega)] | rw [if_neg (by omega)]))
    rw [ee, show cyB A d i e j n = true by unfold cyB; rw [ee]; exact decide_eq_true (by omega)]
    obtain ⟨-, -, -, -, cg, ct, cd, cw, -⟩ := id x
    have e9 : ∀ y, ¬ (18 ≤ y ∧ y ≤ 33) → (h.set (19 + 2 * e) (mA 100 (cyI el el2 i j n)))[y]? = h[y]? := fun y hy => set_ne (by omega)
    have hS2 : SC (h.set (19 + 2 * e) (mA 100 (cyI el el2 i j n))) (cyA A d i e j n) w := by
      refine ⟨(e9 15 (by omega)).trans hS.1, fun y hy => ?_⟩
      obtain ⟨a, b, c⟩ := hS.2 y hy
      refine ⟨(set_ne (by omega)).trans a, ?_, c⟩
      by_cases z : y = e
      · subst z
        refine ⟨_, ev_gs hel2, fun p p1 p2 => ?_⟩
        show cyI el el2 i j n p = cpE (A 5) (100 * (d : Int) + i) (100 * (y : Int) + j) n (100 * (y : Int) + p)
        unfold cyI cpE
        by_cases q : j ≤ p ∧ p < j + n
        · rw [if_pos q, if_pos (by omega), eel _ (by omega) (by omega)]
          congr 1
          omega
        · rw [if_neg q, if_neg (by omega), eel2 p p1 (by omega)]
      · refine (b.eq (set_ne (by omega))).cg (fun p p1 p2 => ?_)
        show _ = cpE (A 5) (100 * (d : Int) + i) (100 * (e : Int) + j) n (100 * (y : Int) + p)
        unfold cpE
        rw [if_neg (by omega)]
    have K := x.shf (A' := cyA A d i e j n) List.length_set e9 rfl rfl hS2 (cw.sh (d := d) (v := none) List.length_set e9 rfl rfl rfl rfl (fun y q => ⟨q, rfl⟩))
    exact ⟨rfl, K.2, F, F2, _, K.1⟩)
                  · refine ex_of (fun _ _ => ev_bipush (pc' := 102) (iI (-13)) dX5_copy_100 rfl (by decide)) ?_
                    exact ex_end (ev_iret dX5_copy_102 rfl) (by have ee : cyE A (d : Int) i (e : Int) j n = -13 := (by unfold cyE; (repeat (first | rw [if_pos (by omega)] | rw [if_neg (by omega)]))); rw [ee, show cyB A (d : Int) i (e : Int) j n = false by unfold cyB; rw [ee]; decide]; exact x.same)
              · refine ex_of (fun _ _ => ev_bipush (pc' := 76) (iI (-12)) dX5_copy_74 rfl (by decide)) ?_
                exact ex_end (ev_iret dX5_copy_76 rfl) (by have ee : cyE A (d : Int) i (e : Int) j n = -12 := (by unfold cyE; (repeat (first | rw [if_pos (by omega)] | rw [if_neg (by omega)]))); rw [ee, show cyB A (d : Int) i (e : Int) j n = false by unfold cyB; rw [ee]; decide]; exact x.same)
        · refine ex_of (fun _ _ => ev_bipush (pc' := 44) (iI (-11)) dX5_copy_42 rfl (by decide)) ?_
          exact ex_end (ev_iret dX5_copy_44 rfl) (by have ee : cyE A (d : Int) i (e : Int) j n = -11 := (by unfold cyE; (repeat (first | rw [if_pos (by omega)] | rw [if_neg (by omega)]))); rw [ee, show cyB A (d : Int) i (e : Int) j n = false by unfold cyB; rw [ee]; decide]; exact x.same)
    · skip
      refine ex_of (fun _ _ => ev_aload_n (pc' := 1) dX5_copy_0 rfl rfl) ?_
      refine ex_of (fun _ _ => ev_iload_n (pc' := 2) dX5_copy_1 rfl rfl) ?_
      refine ex_of (fun _ _ => ev_callV1 (pc' := 5) kX5_44 mX5_shelfOf dX5_copy_2 rfl rfl (Nat.le_of_ble_eq_true rfl) (Nat.le_of_ble_eq_true rfl) (by decide) rfl hX0 (e5_shelfOf hX0 hS hd)) ?_
      refine ex_of (fun _ _ => ev_astore_6 (pc' := 7) dX5_copy_5 rfl (by decide) rfl) ?_
      refine ex_of (fun _ _ => ev_aload_n (pc' := 8) dX5_copy_7 rfl rfl) ?_
      refine ex_of (fun _ _ => ev_iload_n (pc' := 9) dX5_copy_8 rfl rfl) ?_
      refine ex_of (fun _ _ => ev_callV1 (pc' := 12) kX5_44 mX5_shelfOf dX5_copy_9 rfl rfl (Nat.le_of_ble_eq_true rfl) (Nat.le_of_ble_eq_true rfl) (by decide) rfl hX0 (e5_shelfOf0 hr9 (by omega))) ?_
      refine ex_of (fun _ _ => ev_astore_7N (pc' := 14) dX5_copy_12 rfl (by decide) rfl) ?_
      refine ex_of (fun _ _ => ev_aload (pc' := 16) dX5_copy_14 rfl rfl) ?_
      refine ex_of (fun _ _ => ev_ifnull (pc' := 19) dX5_copy_16 rfl) ?_
      refine ex_of (fun _ _ => ev_aloadN (pc' := 21) dX5_copy_19 rfl rfl) ?_
      refine ex_of (fun _ _ => ev_ifnonnullN (pc' := 24) dX5_copy_21 rfl) ?_
      refine ex_of (fun _ _ => ev_iconst (pc' := 25) (iI (-1)) dX5_copy_24 rfl (by decide)) ?_
      exact ex_end (ev_iret dX5_copy_25 rfl) (by have ee : cyE A (d : Int) i r j n = -1 := (by unfold cyE; (repeat (first | rw [if_pos (by omega)] | rw [if_neg (by omega)]))); rw [ee, show cyB A (d : Int) i r j n = false by unfold cyB; rw [ee]; decide]; exact x.same)
  · by_cases hr9 : 0 ≤ r ∧ r < 8
    · obtain ⟨e, rfl⟩ : ∃ e : Nat, r = e := ⟨r.toNat, by omega⟩
      have he : e < 8 := by omega
      refine ex_of (fun _ _ => ev_aload_n (pc' := 1) dX5_copy_0 rfl rfl) ?_
      refine ex_of (fun _ _ => ev_iload_n (pc' := 2) dX5_copy_1 rfl rfl) ?_
      refine ex_of (fun _ _ => ev_callV1 (pc' := 5) kX5_44 mX5_shelfOf dX5_copy_2 rfl rfl (Nat.le_of_ble_eq_true rfl) (Nat.le_of_ble_eq_true rfl) (by decide) rfl hX0 (e5_shelfOf0 hq (by omega))) ?_
      refine ex_of (fun _ _ => ev_astore_6N (pc' := 7) dX5_copy_5 rfl (by decide) rfl) ?_
      refine ex_of (fun _ _ => ev_aload_n (pc' := 8) dX5_copy_7 rfl rfl) ?_
      refine ex_of (fun _ _ => ev_iload_n (pc' := 9) dX5_copy_8 rfl rfl) ?_
      refine ex_of (fun _ _ => ev_callV1 (pc' := 12) kX5_44 mX5_shelfOf dX5_copy_9 rfl rfl (Nat.le_of_ble_eq_true rfl) (Nat.le_of_ble_eq_true rfl) (by decide) rfl hX0 (e5_shelfOf hX0 hS he)) ?_
      refine ex_of (fun _ _ => ev_astore_7 (pc' := 14) dX5_copy_12 rfl (by decide) rfl) ?_
      refine ex_of (fun _ _ => ev_aloadN (pc' := 16) dX5_copy_14 rfl rfl) ?_
      refine ex_of (fun _ _ => ev_ifnullN (tgt := 24) dX5_copy_16 (by decide)) ?_
      refine ex_of (fun _ _ => ev_iconst (pc' := 25) (iI (-1)) dX5_copy_24 rfl (by decide)) ?_
      exact ex_end (ev_iret dX5_copy_25 rfl) (by have ee : cyE A q i (e : Int) j n = -1 := (by unfold cyE; (repeat (first | rw [if_pos (by omega)] | rw [if_neg (by omega)]))); rw [ee, show cyB A q i (e : Int) j n = false by unfold cyB; rw [ee]; decide]; exact x.same)
    · skip
      refine ex_of (fun _ _ => ev_aload_n (pc' := 1) dX5_copy_0 rfl rfl) ?_
      refine ex_of (fun _ _ => ev_iload_n (pc' := 2) dX5_copy_1 rfl rfl) ?_
      refine ex_of (fun _ _ => ev_callV1 (pc' := 5) kX5_44 mX5_shelfOf dX5_copy_2 rfl rfl (Nat.le_of_ble_eq_true rfl) (Nat.le_of_ble_eq_true rfl) (by decide) rfl hX0 (e5_shelfOf0 hq (by omega))) ?_
      refine ex_of (fun _ _ => ev_astore_6N (pc' := 7) dX5_copy_5 rfl (by decide) rfl) ?_
      refine ex_of (fun _ _ => ev_aload_n (pc' := 8) dX5_copy_7 rfl rfl) ?_
      refine ex_of (fun _ _ => ev_iload_n (pc' := 9) dX5_copy_8 rfl rfl) ?_
      refine ex_of (fun _ _ => ev_callV1 (pc' := 12) kX5_44 mX5_shelfOf dX5_copy_9 rfl rfl (Nat.le_of_ble_eq_true rfl) (Nat.le_of_ble_eq_true rfl) (by decide) rfl hX0 (e5_shelfOf0 hr9 (by omega))) ?_
      refine ex_of (fun _ _ => ev_astore_7N (pc' := 14) dX5_copy_12 rfl (by decide) rfl) ?_
      refine ex_of (fun _ _ => ev_aloadN (pc' := 16) dX5_copy_14 rfl rfl) ?_
      refine ex_of (fun _ _ => ev_ifnullN (tgt := 24) dX5_copy_16 (by decide)) ?_
      refine ex_of (fun _ _ => ev_iconst (pc' := 25) (iI (-1)) dX5_copy_24 rfl (by decide)) ?_
      exact ex_end (ev_iret dX5_copy_25 rfl) (by have ee : cyE A q i r j n = -1 := (by unfold cyE; (repeat (first | rw [if_pos (by omega)] | rw [if_neg (by omega)]))); rw [ee, show cyB A q i r j n = false by unfold cyB; rw [ee]; decide]; exact x.same)
end CS
