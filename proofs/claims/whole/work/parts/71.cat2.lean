section DL
variable {l : Launch} {h : ev_H} {A : Nat → Int → Int} {w : Nat → Option Nat} {d : Nat} {im : Int}
/-- which throw element makes -/
def exE (A : Nat → Int → Int) (q i : Int) : String := if sThr A q i = 1 then eIA else eIS
theorem x_el (hl : l.stackTraces = false) {q i : Int} (hX : h[0]? = some (cWd (.ref 1) (.ref 8) im (.ref 15) (.ref 16) (.ref 17))) (hS : SC h A w) (hA : mSh A) (o : ok_h h) (h47 : 47 ≤ h.length) (rq : -2147483648 ≤ q ∧ q < 2147483648) (ri : -2147483648 ≤ i ∧ i < 2147483648) (hn : sThr A q i ≠ 0) (D : va_G) (aC ad : Nat → Nat) (sz : Nat) :
    vx_Met l yX5_element (Cond.code yX5_element cX5_element 4 (some .long) :: bg_tbl) { frames := 6, cells := 1, slots := 1000, locals := 100 } (xPc D aC ad h [.ref 0, .int (iI q), .int (iI i)] sz) (va_Ql (S := Unit) (fun _ _ => False) (fun _ _ => True) (va_A (ev_w ad aC h) sz)) (xXC D aC ad h (exE A q i) (va_A (ev_w ad aC h) sz)) 1 1000 (va_A (ev_w ad aC h) sz) := by
  refine vx_ofW (cc := cX5_element) (maxL := 4) (ret := some .long) (by decide) rfl ?_
  intro p e s m args below meth c s₁ B hml ht hv
  obtain ⟨rfl, hsz, hP, hK, hD0, hN, hXS, hZ⟩ := hv
  have hts := atoms_spec (ws := Cond.code yX5_element cX5_element 4 (some .long) :: bg_tbl) B.pre
  have hown : s.vm.findClass RX5 = some m.cls := findClass_of_methodNamed B.named
  have hnm := (name_of_methodNamed B.named B.method).1
  subst hsz
  have C : ev_C p s m ([Value.ref 0, .int (iI q), .int (iI i)].map (ev_v ad)).toArray meth c RX5 yX5_element.name cX5_element 4 (some .long) := ⟨B.exec, B.bytes, B.returns, hml, hown, fun w hw => hts w (List.mem_cons_of_mem _ hw), B.notSynchronized, hnm, hN⟩
  have Dd : ev_D D aC ad (va_A (ev_w ad aC h) s.heap.size) s s.heap [] h := ⟨hK, hP, hD0.self, va_S.rf, fun q hq => Or.inr hq⟩
  rw [lg_entry_eq]
  have hl0 := lv_entry ([Value.ref 0, .int (iI q), .int (iI i)].map (ev_v ad)) (n := 4) (Nat.le_of_ble_eq_true rfl)
  generalize (lg_sl ([Value.ref 0, .int (iI q), .int (iI i)].map (ev_v ad)) ++ List.replicate (4 - (lg_sl ([Value.ref 0, .int (iI q), .int (iI i)].map (ev_v ad))).length) Slot.unset).toArray = ls at hl0 ⊢
  have hl0 : lv_has ls 4 [(0, .ref (ad 0)), (1, .int (iI q)), (2, .int (iI i))] := hl0
  have ho : ∀ q, ∀ x ∈ c.exceptionTable.toList, covers x q = false := fun q x hx => (ht x hx).elim
  obtain ⟨-, -, -, -, ⟨a4, s4⟩, ⟨a5, s5⟩, -⟩ := id hXS
  refine lv_aload_n C.1 C.2.1 dX5_element_0 rfl (lv_at hl0 0 rfl) ?_
  refine lv_iload_n C.1 C.2.1 dX5_element_1 rfl (lv_at hl0 1 rfl) ?_
  by_cases hq : 0 ≤ q ∧ q < 8
  · obtain ⟨d, rfl⟩ : ∃ d : Nat, q = d := ⟨q.toNat, by omega⟩
    have hd : d < 8 := by omega
    obtain ⟨el, hSh, -, -, -⟩ := SC.op hS hd
    have hc : ¬ (A 2 (d : Int) = 2 ∧ (0 ≤ i ∧ i < A 4 (d : Int))) := by
      intro y
      apply hn
      unfold sThr
      rw [if_neg (by omega), if_neg (by omega)]
    have eX : exE A d i = eIS := by unfold exE sThr; rw [if_neg (by rw [if_neg (by omega), if_pos (by omega)]; decide)]
    rw [eX]
    refine wc_V0 (cells := 0) (ci := 5) (a := 0) (pc' := 5) [.int (iI (d : Int))] C Dd hl0.1 o (ok2 (by omega) _ (int1 _)) kX5_44 mX5_shelfOf dX5_element_2 rfl rfl rfl rfl (Nat.le_of_ble_eq_true rfl) (Nat.le_of_ble_eq_true rfl) ⟨Nat.le_of_ble_eq_true rfl, Nat.le_of_ble_eq_true rfl⟩ ⟨Nat.le_of_ble_eq_true rfl, Nat.le_of_ble_eq_true rfl⟩ rfl hX (e5_shelfOf hX hS hd) (fun H1 locs1 Dd1 => ?_)
    refine lv_astore_n (lv' := [(3, .ref (ad (18 + 2 * d))), (0, .ref (ad 0)), (1, .int (iI (d : Int))), (2, .int (iI i))]) C.1 C.2.1 dX5_element_5 rfl hl0 (by decide) rfl (fun ls hl1 => ?_)
    refine lv_aload_n C.1 C.2.1 dX5_element_6 rfl (lv_at hl1 0 rfl) ?_
    refine lv_ifnonnull (tgt := 21) C.1 C.2.1 dX5_element_7 (by decide) ?_
    refine lv_aload_n C.1 C.2.1 dX5_element_21 rfl (lv_at hl1 0 rfl) ?_
    refine lv_iload_n C.1 C.2.1 dX5_element_22 rfl (lv_at hl1 3 rfl) ?_
    refine wc_V0 (cells := 0) (ci := 1) (a := 18 + 2 * d) (pc' := 26) [.int (iI i)] C Dd1 hl1.1 o (ok2 (by omega) _ (int1 _)) kX5_282 mX1_hasElement dX5_element_23 rfl rfl rfl rfl (Nat.le_of_ble_eq_true rfl) (Nat.le_of_ble_eq_true rfl) ⟨Nat.le_of_ble_eq_true rfl, Nat.le_of_ble_eq_true rfl⟩ ⟨Nat.le_of_ble_eq_true rfl, Nat.le_of_ble_eq_true rfl⟩ rfl hSh (e1_hasElement hS hA hd ri) (fun H2 locs2 Dd2 => ?_)
    rw [decide_eq_false hc]
    refine lv_if_ne (tgt := 40) C.1 C.2.1 dX5_element_26 (by decide) (fun y => absurd rfl y) (fun _ => ?_)
    exact x_thr C Dd2 hXS hZ hl s5 w_is.1 w_is.2 s_is o_is f_is hl1.1 dX5_element_29 dX5_element_32 dX5_element_33 dX5_element_36 dX5_element_39 (ho _) (Nat.le_of_ble_eq_true rfl) (Nat.le_of_ble_eq_true rfl) (by decide) Dd2.2.2.2.1.2.2 (by decide) (by decide)
  · have eX : exE A q i = eIA := by unfold exE sThr; rw [if_pos (by rw [if_pos hq])]
    rw [eX]
    refine wc_V0 (cells := 0) (ci := 5) (a := 0) (pc' := 5) [.int (iI q)] C Dd hl0.1 o (ok2 (by omega) _ (int1 _)) kX5_44 mX5_shelfOf dX5_element_2 rfl rfl rfl rfl (Nat.le_of_ble_eq_true rfl) (Nat.le_of_ble_eq_true rfl) ⟨Nat.le_of_ble_eq_true rfl, Nat.le_of_ble_eq_true rfl⟩ ⟨Nat.le_of_ble_eq_true rfl, Nat.le_of_ble_eq_true rfl⟩ rfl hX (e5_shelfOf0 hq rq) (fun H1 locs1 Dd1 => ?_)
    refine lv_astore_nN (lv' := [(3, .null), (0, .ref (ad 0)), (1, .int (iI q)), (2, .int (iI i))]) C.1 C.2.1 dX5_element_5 rfl hl0 (by decide) rfl (fun ls hl1 => ?_)
    refine lv_aload_nN C.1 C.2.1 dX5_element_6 rfl (lv_at hl1 0 rfl) ?_
    refine lv_ifnonnullN C.1 C.2.1 dX5_element_7 ?_
    exact x_thr C Dd1 hXS hZ hl s4 w_ia.1 w_ia.2 s_ia o_ia f_ia hl1.1 dX5_element_10 dX5_element_13 dX5_element_14 dX5_element_17 dX5_element_20 (ho _) (Nat.le_of_ble_eq_true rfl) (Nat.le_of_ble_eq_true rfl) (by decide) Dd1.2.2.2.1.2.2 (by decide) (by decide)
theorem wL_ia : Cond.classLink RL 13 eIA ∈ bg_tbl := bg_of (by decide +kernel) rfl
theorem wL_is : Cond.classLink RL 15 eIS ∈ bg_tbl := bg_of (by decide +kernel) rfl
theorem x_LelT (hl : l.stackTraces = false) {q i : Int} {f : Nat → Int64} (hX : h[0]? = some (cWd (.ref 1) (.ref 8) im (.ref 15) (.ref 16) (.ref 17))) (hS : SC h A w) (hA : mSh A) (o : ok_h h) (h47 : 47 ≤ h.length) (rq : -2147483648 ≤ q ∧ q < 2147483648) (ri : -2147483648 ≤ i ∧ i < 2147483648) (hn : sThr A q i ≠ 0) (D : va_G) (aC ad : Nat → Nat) (sz : Nat) :
    Met l yL_element (Cond.codeWith yL_element cL_element 5 (some .int) hhE :: bg_tbl) { frames := 7, cells := 1, slots := 1000, locals := 200 } (xPc D aC ad h [.ref 0, .int (iI q), .int (iI i), .ref 46] sz) (ev_Q D aC ad h.length (va_A (ev_w ad aC h) sz) (some (.int (iI (sThr A q i)))) h) 1 (1000 * 1) (va_A (ev_w ad aC h) sz) := by
  refine va_MetW (cc := cL_element) (maxL := 5) (ret := some .int) (hh := hhE) (by decide) rfl ?_
  intro p e s m args below meth c s₁ B hml hv
  obtain ⟨rfl, hsz, hP, hK, hD0, hN, hXS, hZ⟩ := hv
  have hts0 := atoms_spec (ws := Cond.codeWith yL_element cL_element 5 (some .int) hhE :: bg_tbl) B.pre
  have hts : ∀ w ∈ bg_tbl, w.before _ s = true := fun w hw => hts0 w (List.mem_cons_of_mem _ hw)
  have tb : c.exceptionTable.toList = tableOf hhE := vx_table (x := yL_element) B (hts0 _ List.mem_cons_self)
  have hown : s.vm.findClass RL = some m.cls := findClass_of_methodNamed B.named
  have hnm := (name_of_methodNamed B.named B.method).1
  subst hsz
  have C : ev_C p s m ([Value.ref 0, .int (iI q), .int (iI i), .ref 46].map (ev_v ad)).toArray meth c RL yL_element.name cL_element 5 (some .int) := ⟨B.exec, B.bytes, B.returns, hml, hown, hts, B.notSynchronized, hnm, hN⟩
  have Dd : ev_D D aC ad (va_A (ev_w ad aC h) s.heap.size) s s.heap [] h := ⟨hK, hP, hD0.self, va_S.rf, fun q hq => Or.inr hq⟩
  rw [lg_entry_eq]
  have hl0 := lv_entry ([Value.ref 0, .int (iI q), .int (iI i), .ref 46].map (ev_v ad)) (n := 5) (Nat.le_of_ble_eq_true rfl)
  generalize (lg_sl ([Value.ref 0, .int (iI q), .int (iI i), .ref 46].map (ev_v ad)) ++ List.replicate (5 - (lg_sl ([Value.ref 0, .int (iI q), .int (iI i), .ref 46].map (ev_v ad))).length) Slot.unset).toArray = ls at hl0 ⊢
  have hl0 : lv_has ls 5 [(0, .ref (ad 0)), (1, .int (iI q)), (2, .int (iI i)), (3, .ref (ad 46))] := hl0
  have hF := wc_F Dd
  obtain ⟨hK1, hP1, hD1, hS1, hA1⟩ := id Dd
  refine lv_aload_n C.1 C.2.1 dL_element_0 rfl (lv_at hl0 3 rfl) ?_
  refine lv_iconst (v := iI 0) C.1 C.2.1 dL_element_1 rfl ?_
  refine lv_aload_n C.1 C.2.1 dL_element_2 rfl (lv_at hl0 0 rfl) ?_
  refine lv_iload_n C.1 C.2.1 dL_element_3 rfl (lv_at hl0 1 rfl) ?_
  refine lv_iload_n C.1 C.2.1 dL_element_4 rfl (lv_at hl0 2 rfl) ?_
  refine vx_calll (vx_runV (As := [.int (iI q), .int (iI i)]) (b := ad 0) (rest := [.int (iI 0), .ref (ad 46)]) ⟨C.1, C.2.1, hml, hown, hts⟩ (x_el hl hX hS hA o h47 rq ri hn D aC ad s.heap.size) ⟨callB_of 2 hts (ev_good mX5_element) rfl rfl rfl (hts _ mX5_element.2.1) (hts _ kL_7.2.2) mX5_element.2.2.2.1 ⟨Nat.le_of_ble_eq_true rfl, Nat.le_of_ble_eq_true rfl⟩, hts _ kL_7.1, hts _ kL_7.2.1⟩ ⟨xblind, va_recv hK1 hP1 (ci := 5) rfl (ev_w_get hX), xc_pre C Dd hXS hZ [.ref 0, .int (iI q), .int (iI i)]⟩ rfl rfl hl0.1 rfl (lv_room (Nat.le_of_ble_eq_true rfl)) dL_element_5 ⟨Nat.le_of_ble_eq_true rfl, Nat.le_of_ble_eq_true rfl⟩) hS1 (fun q _ hq => hF q hq) hF (fun q _ hq => hF q hq) (fun E ce q9 u t2 H2 locs2 hH2 hvm hpx hBX hz2 hk2 hS2 hce hcv hcl => ?_) (fun r u t2 H2 locs2 hH2 hvm hp => hp.elim)
  obtain ⟨hE, hP2⟩ := hBX
  rw [hH2] at hP2
  subst hE
  obtain ⟨-, -, -, -, -, -, -, -, -, n4⟩ := id hXS
  by_cases c1 : sThr A q i = 1
  · have eX : exE A q i = eIA := by unfold exE; rw [if_pos c1]
    rw [eX] at hcl
    refine vx_catch (own := RL) (name := eIA) hown [] ⟨0, 9, 12, 13⟩ [⟨0, 9, 16, 15⟩] tb (fun z hz => nomatch hz) (by decide) (by decide) (hts _ wL_ia) (hXS.word hts _ ca_ia) hce hcv hcl ?_
    refine lv_astore (lv' := [(4, .ref q9), (0, .ref (ad 0)), (1, .int (iI q)), (2, .int (iI i)), (3, .ref (ad 46))]) C.1 C.2.1 dL_element_12 hl0 (by decide) rfl (fun ls hl3 => ?_)
    refine lv_iconst (v := iI 1) C.1 C.2.1 dL_element_14 rfl ?_
    rw [c1]
    exact x_ret C rfl hP2 hD1 hS2 dL_element_15 (by decide) (by decide)
  · have eX : exE A q i = eIS := by unfold exE; rw [if_neg c1]
    rw [eX] at hcl
    have c2 : sThr A q i = 2 := by
      unfold sThr at c1 hn ⊢
      split at c1
      · exact absurd rfl c1
      · rename_i y
        rw [if_neg y] at hn ⊢
        split at hn
        · rename_i y2; rw [if_pos y2]
        · exact absurd rfl hn
    refine vx_catch (own := RL) (name := eIS) hown [⟨0, 9, 12, 13⟩] ⟨0, 9, 16, 15⟩ [] tb (fun z hz => ?_) (by decide) (by decide) (hts _ wL_is) (hXS.word hts _ ca_is) hce hcv hcl ?_
    · rw [List.mem_singleton.mp hz]; exact Or.inr ⟨by decide, eIA, hts _ wL_ia, n4⟩
    refine lv_astore (lv' := [(4, .ref q9), (0, .ref (ad 0)), (1, .int (iI q)), (2, .int (iI i)), (3, .ref (ad 46))]) C.1 C.2.1 dL_element_16 hl0 (by decide) rfl (fun ls hl3 => ?_)
    refine lv_iconst (v := iI 2) C.1 C.2.1 dL_element_18 rfl ?_
    rw [c2]
    exact x_ret C rfl hP2 hD1 hS2 dL_element_19 (by decide) (by decide)
/-- toss, however it goes -/
theorem x_toss (hl : l.stackTraces = false) {q : Int} (hX : h[0]? = some (cWd (.ref 1) (.ref 8) im (.ref 15) (.ref 16) (.ref 17))) (hS : SC h A w) (hA : mSh A) (hH : mHd A) (hwt : ∀ d : Nat, d < 8 → A 2 d = 1 → ∃ t, w d = some t ∧ ∃ ea, h[t]? = some (cTr (A 6 d) (hldS A d 0) (hldS A d 1) (hldS A d 2) (hldS A d 3) ea (hldS A d 28) (t + 1) (t + 2) (t + 3) (t + 4) (t + 5))) (o : ok_h h) (h47 : 47 ≤ h.length) (rq : -2147483648 ≤ q ∧ q < 2147483648) (D : va_G) (aC ad : Nat → Nat) (sz : Nat) :
    Met l yX5_toss (Cond.codeWith yX5_toss cX5_toss 5 (some .int) hhT :: bg_tbl) { frames := 7, cells := 1, slots := 1000, locals := 200 } (xPc D aC ad h [.ref 0, .int (iI q)] sz) (ev_Q D aC ad h.length (va_A (ev_w ad aC h) sz) (some (.int (iI (sToss A q)))) h) 1 (1000 * 1) (va_A (ev_w ad aC h) sz) := by
  by_cases hT : tsT A q
  · exact x_tossT hl hX hS hA hH hwt o h47 hT D aC ad sz
  · exact ev_metW (As := [.ref 0, .int (iI q)]) (by decide) (ok_args o (ok2 (by omega) _ (int1 _))) (Nat.le_of_ble_eq_true rfl) (e5_tossN hX hS hA hH hwt rq hT) (Nat.le_of_ble_eq_true rfl) (Nat.le_of_ble_eq_true rfl) rfl rfl (by omega) D aC ad sz
/-- what the law's element leaves -/
def elO (A : Nat → Int → Int) (q i : Int) (f : Nat → Int64) (h : ev_H) : ev_H := if sThr A q i = 0 then h.set 46 (.inl (1, 1, .inr (.inl (vp_updL f (iI 0).toNatClampNeg (jJ (A 5 (100 * q + i))))))) else h
theorem x_Lel (hl : l.stackTraces = false) {q i : Int} {f : Nat → Int64} (hX : h[0]? = some (cWd (.ref 1) (.ref 8) im (.ref 15) (.ref 16) (.ref 17))) (hS : SC h A w) (hA : mSh A) (hH : mHd A) (o : ok_h h) (h47 : 47 ≤ h.length) (rq : -2147483648 ≤ q ∧ q < 2147483648) (ri : -2147483648 ≤ i ∧ i < 2147483648) (hO : h[46]? = some (.inl (1, 1, .inr (.inl f)))) (D : va_G) (aC ad : Nat → Nat) (sz : Nat) :
    Met l yL_element (Cond.codeWith yL_element cL_element 5 (some .int) hhE :: bg_tbl) { frames := 7, cells := 1, slots := 1000, locals := 200 } (xPc D aC ad h [.ref 0, .int (iI q), .int (iI i), .ref 46] sz) (ev_Q D aC ad h.length (va_A (ev_w ad aC h) sz) (some (.int (iI (sThr A q i)))) (elO A q i f h)) 1 (1000 * 1) (va_A (ev_w ad aC h) sz) := by
  by_cases hn : sThr A q i = 0
  · have hc : (0 ≤ q ∧ q < 8) ∧ A 2 q = 2 ∧ (0 ≤ i ∧ i < A 4 q) := by
      unfold sThr at hn
      split at hn
      · exact absurd hn (by decide)
      · split at hn
        · exact absurd hn (by decide)
        · omega
    obtain ⟨hq, hk, hi⟩ := hc
    obtain ⟨d, rfl⟩ : ∃ d : Nat, q = d := ⟨q.toNat, by omega⟩
    unfold elO
    rw [hn, if_pos rfl]
    refine ev_metW (As := [.ref 0, .int (iI (d : Int)), .int (iI i), .ref 46]) (by decide) (ok_args o ?_) (Nat.le_of_ble_eq_true rfl) (eL_elementN hX hS hA hH (by omega) hk hi hO) (Nat.le_of_ble_eq_true rfl) (Nat.le_of_ble_eq_true rfl) rfl rfl (by rw [List.length_set]; omega) D aC ad sz
    intro u hu
    rcases List.mem_cons.mp hu with rfl | hu
    · exact ok_ref (by omega)
    · rcases List.mem_cons.mp hu with rfl | hu
      · exact ok_int _ _
      · rcases List.mem_cons.mp hu with rfl | hu
        · exact ok_int _ _
        · rw [List.mem_singleton.mp hu]; exact ok_ref (by omega)
  · unfold elO
    rw [if_neg hn]
    exact x_LelT (f := f) hl hX hS hA o h47 rq ri hn D aC ad sz
end DL
