section DH
variable {l : Launch} {d : Nat} {own nm : String} {cc : ByteArray} {nL : Nat} {ret : Option FieldType} {pc pc' : Nat} {lc : ev_L} {st : List Value} {h h' : ev_H} {v : Option Value}
theorem ev_lastore {a n : Nat} {f : Nat → Int64} {i : Int32} {x : Int64} (hd : decode cc pc = .ok (.lastore, 1)) (hp : pc + 1 = pc') (ho : h[a]? = some (.inl (1, n, .inr (.inl f)))) (hin : vp_in i n) (kk : Ev l d own nm cc nL ret pc' lc st (h.set a (.inl (1, n, .inr (.inl (vp_updL f i.toNatClampNeg x))))) v h') : Ev l d own nm cc nL ret pc lc (.long x :: .int i :: .ref a :: st) h v h' := by
  subst hp
  intro o
  have o2 : ok_s (h.set a (.inl (1, n, .inr (.inl (vp_updL f i.toNatClampNeg x))))) lc st := ⟨o.1.set (fun f hf => by cases hf), by rw [List.length_set]; exact o.2.1, by rw [List.length_set]; exact o.tl.tl.tl.2.2⟩
  obtain ⟨k1, k2, k3, k4⟩ := kk o2
  rw [List.length_set] at k3
  refine ⟨k1, k2, k3, fun p e R s m args below meth c H locs cells mc ls D aC ad A C Dd hl h1 h2 h3 h4 h5 => ?_⟩
  obtain ⟨hK, hP, hD, hS, hA⟩ := id Dd
  refine va_last C.1 C.2.1 hK hP hD hS a 1 (ev_w_get ho) rfl hin hd (fun H1 locs1 hP1 hD1 hS1 => ?_)
  have e1 : (ad a, (Sum.inl (aC 1, n, Sum.inr (Sum.inl (vp_updL f i.toNatClampNeg x))) : va_E)) = (ad a, ev_e ad aC (.inl (1, n, .inr (.inl (vp_updL f i.toNatClampNeg x))))) := rfl
  rw [e1, ev_w_set] at hP1 hD1
  have := k4 p e R s m args below meth c H1 locs1 cells mc ls D aC ad A C ⟨hK, hP1, hD1, hS1, hA⟩ hl h1 h2 h3 h4 (by rw [List.length_set]; exact h5)
  rw [List.length_set] at this
  exact this
/-- a method with a table of its own, on a road where nothing is thrown -/
theorem ev_metW {y : MethodName} {bytes : ByteArray} {nL' d0 mc : Nat} {ret' : Option FieldType} {hh : List (Nat × Nat × Nat × Nat)} {rm : Room} {As : List Value} {h1 : ev_H} {w : Option Value} (hy : plainName y.cls = true) (o : ok_s h (ev_in nL' As) []) (hfit : (ev_fl As).length ≤ nL') (E : Ev l d0 y.cls y.name bytes nL' ret' 0 (ev_in nL' As) [] h w h1) (hr1 : d0 ≤ rm.frames) (hr2 : 38 * d0 ≤ rm.locals) (hr3 : rm.cells = mc) (hr4 : rm.slots = 1000 * mc) (hm : h1.length ≤ mc + h.length) (D : va_G) (aC ad : Nat → Nat) (sz : Nat) :
    Met l y (Cond.codeWith y bytes nL' ret' hh :: bg_tbl) rm (xPc D aC ad h As sz) (ev_Q D aC ad h.length (va_A (ev_w ad aC h) sz) w h1) mc (1000 * mc) (va_A (ev_w ad aC h) sz) := by
  refine va_MetW (cc := bytes) (maxL := nL') (ret := ret') (hh := hh) hy rfl ?_
  intro p e s m args below meth c s₁ B hml hv
  obtain ⟨rfl, hsz, hP, hK, hD0, hN, -, -⟩ := hv
  have hts := atoms_spec (ws := Cond.codeWith y bytes nL' ret' hh :: bg_tbl) B.pre
  have hown : s.vm.findClass y.cls = some m.cls := findClass_of_methodNamed B.named
  have hnm : meth.name = y.name := (name_of_methodNamed B.named B.method).1
  subst hsz
  rw [lg_entry_eq]
  have E1 := E o
  exact E1.2.2.2 p e _ s m _ below meth c s.heap [] 0 mc _ D aC ad _ ⟨B.exec, B.bytes, B.returns, hml, hown, fun w hw => hts w (List.mem_cons_of_mem _ hw), B.notSynchronized, hnm, hN⟩ ⟨hK, hP, hD0.self, va_S.rf, fun q hq => Or.inr hq⟩ (ev_entry ad As hfit) hr1 hr2 (by show mc ≤ rm.cells; omega) (by show 1000 * mc ≤ rm.slots; omega) (by omega)
end DH
section DI
variable {l : Launch} {h : ev_H} {A : Nat → Int → Int} {w : Nat → Option Nat} {d : Nat} {im : Int}
theorem e5_throwFailureN {t : Nat} {nu ki ho sy le ea ch : Int} {r1 r2 r3 r4 r5 : Nat} (hT : h[t]? = some (cTr nu ki ho sy le ea ch r1 r2 r3 r4 r5)) (hle : 0 ≤ le ∧ le ≤ 6) (hk : le = 0 ∨ ki = 3 ∨ ki = 7) : Ev l 0 yX5_throwFailure.cls yX5_throwFailure.name cX5_throwFailure 1 none 0 [some (.ref t)] [] h none h := by
  refine ev_aload_n (pc' := 1) dX5_throwFailure_0 rfl rfl ?_
  refine ev_getfield (pc' := 4) fX5_141 dX5_throwFailure_1 rfl hT rfl ?_
  refine ev_ifI_ne (pc' := 7) (tgt := 8) dX5_throwFailure_4 (by decide) rfl (by omega) (fun c4 => ?_) (fun c4 => ?_)
  · refine ev_aload_n (pc' := 9) dX5_throwFailure_8 rfl rfl ?_
    refine ev_getfield (pc' := 12) fX5_124 dX5_throwFailure_9 rfl hT rfl ?_
    rcases (show ki = 3 ∨ ki = 7 by omega) with q | q
    · refine ev_tableInI dX5_throwFailure_12 q (by decide) (by decide) (by decide) (off := 36) (by decide) (tgt := 48) (by decide) ?_
      exact ev_vret dX5_throwFailure_48
    · refine ev_tableInI dX5_throwFailure_12 q (by decide) (by decide) (by decide) (off := 36) (by decide) (tgt := 48) (by decide) ?_
      exact ev_vret dX5_throwFailure_48
  · exact ev_vret dX5_throwFailure_7
/-- where toss throws within -/
def tsT (A : Nat → Int → Int) (q : Int) : Prop := (0 ≤ q ∧ q < 8) ∧ A 2 q = 1 ∧ hldS A q 3 ≠ 0 ∧ hldS A q 0 ≠ 3 ∧ hldS A q 0 ≠ 7
theorem e5_tossN {q : Int} (hX : h[0]? = some (cWd (.ref 1) (.ref 8) im (.ref 15) (.ref 16) (.ref 17))) (hS : SC h A w) (hA : mSh A) (hH : mHd A) (hwt : ∀ d : Nat, d < 8 → A 2 d = 1 → ∃ t, w d = some t ∧ ∃ ea, h[t]? = some (cTr (A 6 d) (hldS A d 0) (hldS A d 1) (hldS A d 2) (hldS A d 3) ea (hldS A d 28) (t + 1) (t + 2) (t + 3) (t + 4) (t + 5))) (rq : -2147483648 ≤ q ∧ q < 2147483648) (hn : ¬ tsT A q) : Ev l 2 yX5_toss.cls yX5_toss.name cX5_toss 5 (some .int) 0 [some (.ref 0), some (.int (iI q)), none, none, none] [] h (some (.int (iI (sToss A q)))) h := by
  by_cases hq : 0 ≤ q ∧ q < 8
  · obtain ⟨d, rfl⟩ : ∃ d : Nat, q = d := ⟨q.toNat, by omega⟩
    have hd : d < 8 := by omega
    obtain ⟨s1, s2, s3, s4, s5⟩ := hA.1 (d : Int) (by omega) (by omega)
    obtain ⟨el, hSh, ⟨hel, eel⟩, hw1, hw2⟩ := SC.op hS hd
    by_cases c1 : A 2 (d : Int) = 1
    · obtain ⟨t, ht, ea, hT⟩ := hwt d hd c1
      obtain ⟨u0, u1, u2, u3, u4, u5⟩ := hH (d : Int) (by omega) (by omega) c1
      have hk : hldS A d 3 = 0 ∨ hldS A d 0 = 3 ∨ hldS A d 0 = 7 := by
        by_cases y : hldS A d 3 = 0 ∨ hldS A d 0 = 3 ∨ hldS A d 0 = 7
        · exact y
        · exact absurd ⟨hq, c1, by omega, by omega, by omega⟩ hn
      rw [ht] at hSh
      refine ev_aload_n (pc' := 1) dX5_toss_0 rfl rfl ?_
      refine ev_iload_n (pc' := 2) dX5_toss_1 rfl rfl ?_
      refine ev_callV1 (pc' := 5) kX5_44 mX5_shelfOf dX5_toss_2 rfl rfl (Nat.le_of_ble_eq_true rfl) (Nat.le_of_ble_eq_true rfl) (by decide) rfl hX (e5_shelfOf hX hS hd) ?_
      refine ev_astore_2 (pc' := 6) dX5_toss_5 rfl (by decide) rfl ?_
      refine ev_aload_n (pc' := 7) dX5_toss_6 rfl rfl ?_
      refine ev_ifnonnull (tgt := 12) dX5_toss_7 (by decide) ?_
      refine ev_aload_n (pc' := 13) dX5_toss_12 rfl rfl ?_
      refine ev_getfield (pc' := 16) fX5_316 dX5_toss_13 rfl hSh rfl ?_
      refine ev_astore_3 (pc' := 17) dX5_toss_16 rfl (by decide) rfl ?_
      refine ev_aload_n (pc' := 18) dX5_toss_17 rfl rfl ?_
      refine ev_ifnonnull (tgt := 26) dX5_toss_18 (by decide) ?_
      refine ev_aload_n (pc' := 27) dX5_toss_26 rfl rfl ?_
      refine ev_callS1v (pc' := 30) kX5_326 mX5_throwFailure dX5_toss_27 rfl rfl (Nat.le_of_ble_eq_true rfl) (Nat.le_of_ble_eq_true rfl) (by decide) (e5_throwFailureN hT u3 hk) ?_
      refine ev_goto (tgt := 61) dX5_toss_30 (by decide) ?_
      refine ev_bipush (pc' := 63) (iI (-15)) dX5_toss_61 rfl (by decide) ?_
      exact ev_ireI dX5_toss_63 (by unfold sToss; rw [if_neg (by unfold sShf; rw [if_neg (by omega), if_neg (by omega), if_pos c1]; decide)]; unfold tss; rw [if_pos (by omega)])
    · rw [hw1 c1] at hSh
      refine ev_aload_n (pc' := 1) dX5_toss_0 rfl rfl ?_
      refine ev_iload_n (pc' := 2) dX5_toss_1 rfl rfl ?_
      refine ev_callV1 (pc' := 5) kX5_44 mX5_shelfOf dX5_toss_2 rfl rfl (Nat.le_of_ble_eq_true rfl) (Nat.le_of_ble_eq_true rfl) (by decide) rfl hX (e5_shelfOf hX hS hd) ?_
      refine ev_astore_2 (pc' := 6) dX5_toss_5 rfl (by decide) rfl ?_
      refine ev_aload_n (pc' := 7) dX5_toss_6 rfl rfl ?_
      refine ev_ifnonnull (tgt := 12) dX5_toss_7 (by decide) ?_
      refine ev_aload_n (pc' := 13) dX5_toss_12 rfl rfl ?_
      refine ev_getfield (pc' := 16) fX5_316 dX5_toss_13 rfl hSh rfl ?_
      refine ev_astore_3N (pc' := 17) dX5_toss_16 rfl (by decide) rfl ?_
      refine ev_aload_nN (pc' := 18) dX5_toss_17 rfl rfl ?_
      refine ev_ifnonnullN (pc' := 21) dX5_toss_18 rfl ?_
      refine ev_aload_n (pc' := 22) dX5_toss_21 rfl rfl ?_
      refine ev_callS1 (pc' := 25) kX5_320 mX5_refusalOfTraveller dX5_toss_22 rfl rfl (Nat.le_of_ble_eq_true rfl) (Nat.le_of_ble_eq_true rfl) (by decide) (e5_refusalOfTraveller hS hA hd c1) ?_
      exact ev_ireI dX5_toss_25 (by unfold sToss; rw [if_pos (by unfold sShf; (repeat' split) <;> omega)])
  · skip
    refine ev_aload_n (pc' := 1) dX5_toss_0 rfl rfl ?_
    refine ev_iload_n (pc' := 2) dX5_toss_1 rfl rfl ?_
    refine ev_callV1 (pc' := 5) kX5_44 mX5_shelfOf dX5_toss_2 rfl rfl (Nat.le_of_ble_eq_true rfl) (Nat.le_of_ble_eq_true rfl) (by decide) rfl hX (e5_shelfOf0 hq (by omega)) ?_
    refine ev_astore_2N (pc' := 6) dX5_toss_5 rfl (by decide) rfl ?_
    refine ev_aload_nN (pc' := 7) dX5_toss_6 rfl rfl ?_
    refine ev_ifnonnullN (pc' := 10) dX5_toss_7 rfl ?_
    refine ev_iconst (pc' := 11) (iI (-1)) dX5_toss_10 rfl (by decide) ?_
    exact ev_ireI dX5_toss_11 (by unfold sToss; rw [if_pos (by unfold sShf; rw [if_pos (by omega)]; decide)]; unfold sShf; rw [if_pos (by omega)])
theorem e5_elementN {i : Int} (hX : h[0]? = some (cWd (.ref 1) (.ref 8) im (.ref 15) (.ref 16) (.ref 17))) (hS : SC h A w) (hA : mSh A) (hH : mHd A) (hd : d < 8) (hk : A 2 (d : Int) = 2) (hi : 0 ≤ i ∧ i < A 4 (d : Int)) : Ev l 1 yX5_element.cls yX5_element.name cX5_element 4 (some .long) 0 [some (.ref 0), some (.int (iI (d : Int))), some (.int (iI i)), none] [] h (some (.long (jJ (A 5 (100 * (d : Int) + i))))) h := by
  obtain ⟨s1, s2, s3, s4, s5⟩ := hA.1 (d : Int) (by omega) (by omega)
  have e5 := hA.2 (100 * (d : Int) + i) (by omega) (by omega)
  obtain ⟨el, hSh, ⟨hel, eel⟩, hw1, hw2⟩ := SC.op hS hd
  refine ev_aload_n (pc' := 1) dX5_element_0 rfl rfl ?_
  refine ev_iload_n (pc' := 2) dX5_element_1 rfl rfl ?_
  refine ev_callV1 (pc' := 5) kX5_44 mX5_shelfOf dX5_element_2 rfl rfl (Nat.le_of_ble_eq_true rfl) (Nat.le_of_ble_eq_true rfl) (by decide) rfl hX (e5_shelfOf hX hS hd) ?_
  refine ev_astore_3 (pc' := 6) dX5_element_5 rfl (by decide) rfl ?_
  refine ev_aload_n (pc' := 7) dX5_element_6 rfl rfl ?_
  refine ev_ifnonnull (tgt := 21) dX5_element_7 (by decide) ?_
  refine ev_aload_n (pc' := 22) dX5_element_21 rfl rfl ?_
  refine ev_iload_n (pc' := 23) dX5_element_22 rfl rfl ?_
  refine ev_callV1 (pc' := 26) kX5_282 mX1_hasElement dX5_element_23 rfl rfl (Nat.le_of_ble_eq_true rfl) (Nat.le_of_ble_eq_true rfl) (by decide) rfl hSh (e1_hasElement hS hA hd (by omega)) ?_
  refine ev_ifd_ne (pc' := 29) (tgt := 40) dX5_element_26 (by decide) rfl (fun c26 => ?_) (fun c26 => ?_)
  · refine ev_aload_n (pc' := 41) dX5_element_40 rfl rfl ?_
    refine ev_getfield (pc' := 44) fX5_226 dX5_element_41 rfl hSh rfl ?_
    refine ev_iload_n (pc' := 45) dX5_element_44 rfl rfl ?_
    refine ev_ialoadI (pc' := 46) dX5_element_45 rfl hel (by decide) (by omega) ?_
    rw [eel _ (by omega) (by omega)]
    refine ev_i2lI (pc' := 47) dX5_element_46 rfl (by omega) ?_
    exact ev_lreI dX5_element_47 (rfl)
  · omega
theorem eL_elementN {i : Int} {f : Nat → Int64} (hX : h[0]? = some (cWd (.ref 1) (.ref 8) im (.ref 15) (.ref 16) (.ref 17))) (hS : SC h A w) (hA : mSh A) (hH : mHd A) (hd : d < 8) (hk : A 2 (d : Int) = 2) (hi : 0 ≤ i ∧ i < A 4 (d : Int)) (hO : h[46]? = some (.inl (1, 1, .inr (.inl f)))) : Ev l 2 yL_element.cls yL_element.name cL_element 5 (some .int) 0 [some (.ref 0), some (.int (iI (d : Int))), some (.int (iI i)), some (.ref 46), none] [] h (some (.int (iI 0))) (h.set 46 (.inl (1, 1, .inr (.inl (vp_updL f (iI 0).toNatClampNeg (jJ (A 5 (100 * (d : Int) + i)))))))) := by
  refine ev_aload_n (pc' := 1) dL_element_0 rfl rfl ?_
  refine ev_iconst (pc' := 2) (iI 0) dL_element_1 rfl (by decide) ?_
  refine ev_aload_n (pc' := 3) dL_element_2 rfl rfl ?_
  refine ev_iload_n (pc' := 4) dL_element_3 rfl rfl ?_
  refine ev_iload_n (pc' := 5) dL_element_4 rfl rfl ?_
  refine ev_callV2 (pc' := 8) kL_7 mX5_element dL_element_5 rfl rfl (Nat.le_of_ble_eq_true rfl) (Nat.le_of_ble_eq_true rfl) (by decide) rfl hX (e5_elementN hX hS hA hH hd hk hi) ?_
  refine ev_lastore (pc' := 9) dL_element_8 rfl hO (iI_in (by decide) (by decide)) ?_
  refine ev_goto (tgt := 20) dL_element_9 (by decide) ?_
  refine ev_iconst (pc' := 21) (iI 0) dL_element_20 rfl (by decide) ?_
  exact ev_iret dL_element_21 rfl
end DI
