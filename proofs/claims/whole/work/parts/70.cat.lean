section DJ
variable {p : Program} {l : Launch} {e : Env} {R : Room} {s : State} {m : MethodId} {args : Array Value} {below : List Frame} {meth : Method} {c : Code} {H : Heap} {locs : List Loc} {cells : Nat} {Q : State → Prop} {ls : Array Slot} {pc pc' : Nat} {own nm : String} {cc : ByteArray} {nL : Nat} {ret : Option FieldType} {D : va_G} {aC ad : Nat → Nat} {A : Nat → Prop} {h h1 : ev_H} {rest : List Value}
theorem evD_ag {ad1 : Nat → Nat} (o : ok_h h) (ha : ∀ k, k < h.length → ad1 k = ad k) (Dd : ev_D D aC ad1 A s H locs h) : ev_D D aC ad A s H locs h := by
  unfold ev_D at Dd ⊢
  rw [ev_w_agree o ha] at Dd
  exact Dd
/-- a call that leaves the heap of tags as it is -/
theorem wc_V0 {idx n nL' d0 ci a : Nat} {y : MethodName} {bytes : ByteArray} {ret' : Option FieldType} {lc0 : ev_L} {w : Option Value} {stk fs : List Value} {T : u_T} {N : Nat} (As : List Value) (C : ev_C p s m args meth c own nm cc nL ret) (Dd : ev_D D aC ad A s H locs h) (hsz : ls.size = nL) (o : ok_h h) (oA : ∀ u ∈ (.ref a :: As : List Value), ok_v h.length u) (hK : ev_KV own idx y) (hM : ev_M y bytes nL' ret' n) (hd : decode cc pc = .ok (.invokevirtual idx, 3)) (hp : pc + 3 = pc') (hn : As.length = n) (hst : (As.map (ev_v ad)).reverse ++ .ref (ad a) :: rest = stk) (hin : ev_in nL' (.ref a :: As) = lc0) (hfit : (ev_fl (.ref a :: As)).length ≤ nL') (hcat : (rest.map fun v => v.category).sum ≤ 8) (hroom : d0 + 1 ≤ R.frames ∧ 8 + (nL' + 11) + 38 * d0 ≤ R.locals) (hcap : cells ≤ R.cells ∧ 1000 * cells ≤ R.slots) (hcl : bg_cl[ci]? = some (y.cls, T, N)) (ho : h[a]? = some (.inr (ci, fs)))
    (E : Ev l d0 y.cls y.name bytes nL' ret' 0 lc0 [] h w h)
    (kk : ∀ (H1 : Heap) (locs1 : List Loc), ev_D D aC ad A s H1 locs1 h → W p l e R s m args below meth c H1 locs1 cells (1000 * cells) Q (F0 m pc' ls ((w.map (ev_v ad)).toList ++ rest))) : W p l e R s m args below meth c H locs cells (1000 * cells) Q (F0 m pc ls stk) := by
  have ow : ∀ x, w = some x → ok_v h.length x := by
    subst hin
    exact (E (ok_args (nL' := nL') o oA)).2.1
  refine wc_V As C Dd hsz o oA hK hM hd hp hn hst hin hfit hcat hroom (by rw [Nat.sub_self]; exact hcap) hcl ho E (fun ad1 H1 locs1 ha _ _ Dd1 => ?_)
  have K := kk H1 locs1 (evD_ag o ha Dd1)
  have e1 : w.map (ev_v ad1) = w.map (ev_v ad) := by
    cases w with
    | none => rfl
    | some x => show some _ = some _; rw [ev_v_agree (ow x rfl) ha]
  rw [Nat.sub_self, Nat.add_zero, e1]
  exact K
theorem XZ.call (hZ : XZ A s s.heap) (Dd : ev_D D aC ad A s H locs h) {U : State} (hU : U.heap = H) (hW : s.WarmedH U.vm) : XZ (va_A (ev_w ad aC h) H.size) U U.heap := by
  have hF := wc_F Dd
  obtain ⟨-, -, -, hS, -⟩ := Dd
  rw [hU]
  exact ⟨vx_Zq.moved hW.alike ((hZ.1.kept hS.2.1).narrow hF), vx_Zq.moved hW.alike ((hZ.2.kept hS.2.1).narrow hF)⟩
theorem xc_pre (C : ev_C p s m args meth c own nm cc nL ret) (Dd : ev_D D aC ad A s H locs h) (hX : XS s) (hZ : XZ A s s.heap) (As : List Value) : ∀ U : State, U.heap = H → s.WarmedH U.vm → xPc D aC ad h As H.size (As.map (ev_v ad)).toArray U := by
  obtain ⟨hx, hb, hr, hml, hown, hts, hlocks, hnm, hN⟩ := id C
  obtain ⟨hKK, hP, hD, hS, hA⟩ := id Dd
  exact fun U hU hW => ⟨rfl, by rw [hU], by rw [hU]; exact hP, va_K.moved hW.alike hKK, hD.weaken (fun _ _ _ _ => trivial), hN.warm hW, hX.warm hW, hZ.call Dd hU hW⟩
/-- the end of a handler: an int is returned -/
theorem x_ret {v : Int32} {ty : FieldType} {mc slots : Nat} (C : ev_C p s m args meth c own nm cc nL (some ty)) (hn : narrow ty (.int v) = .int v) (hP : va_P D bg_cl (ev_w ad aC h) H) (hD : va_D A (ev_w ad aC h)) (hS : va_S A s.heap H locs) (hd : decode cc pc = .ok (.ireturn, 1)) (hc : cells ≤ mc) (hs : slots ≤ 1000 * mc) : W p l e R s m args below meth c H locs cells slots (MQ below (ev_Q D aC ad h.length A (some (.int v)) h) args s mc (1000 * mc) A) (F0 m pc ls [.int v]) := by
  obtain ⟨hx, hb, hr, -, -, -, hlocks, -⟩ := C
  refine W.widen (k := mc) (n := 1000 * mc) hc hs ?_
  exact W.zret hx hb hr hn (fun t ht hW => ⟨⟨ad, fun _ _ => rfl, rfl, by rw [ht]; exact hP, hD⟩, hS.F ht⟩) hS.2.2 hd hlocks
end DJ
section DK
variable {l : Launch} {h : ev_H} {A : Nat → Int → Int} {w : Nat → Option Nat} {d : Nat} {im : Int}
abbrev hhT : List (Nat × Nat × Nat × Nat) := [(26, 30, 33, 329), (26, 30, 40, 295), (26, 30, 50, 288)]
abbrev hhE : List (Nat × Nat × Nat × Nat) := [(0, 9, 12, 13), (0, 9, 16, 15)]
theorem ca_is : Cond.castable eIS eIS ∈ xc_all := by decide +kernel
theorem ca_ia : Cond.castable eIA eIA ∈ xc_all := by decide +kernel
theorem ca_uo : Cond.castable eUO eUO ∈ xc_all := by decide +kernel
theorem ok2 {n a : Nat} (ha : a < n) (vs : List Value) (hv : ∀ u ∈ vs, ∃ x, u = .int x) : ∀ u ∈ (.ref a :: vs : List Value), ok_v n u := by
  intro u hu
  rcases List.mem_cons.mp hu with rfl | hu
  · exact ok_ref ha
  · obtain ⟨x, rfl⟩ := hv u hu
    exact ok_int _ _
theorem int1 (a : Int32) : ∀ u ∈ ([.int a] : List Value), ∃ x, u = .int x := fun u hu => ⟨a, List.mem_singleton.mp hu⟩
theorem int2 (a b : Int32) : ∀ u ∈ ([.int a, .int b] : List Value), ∃ x, u = .int x := fun u hu => by
  rcases List.mem_cons.mp hu with rfl | hu
  · exact ⟨_, rfl⟩
  · exact ⟨b, List.mem_singleton.mp hu⟩
theorem x_tossT (hl : l.stackTraces = false) {q : Int} (hX : h[0]? = some (cWd (.ref 1) (.ref 8) im (.ref 15) (.ref 16) (.ref 17))) (hS : SC h A w) (hA : mSh A) (hH : mHd A) (hwt : ∀ d : Nat, d < 8 → A 2 d = 1 → ∃ t, w d = some t ∧ ∃ ea, h[t]? = some (cTr (A 6 d) (hldS A d 0) (hldS A d 1) (hldS A d 2) (hldS A d 3) ea (hldS A d 28) (t + 1) (t + 2) (t + 3) (t + 4) (t + 5))) (o : ok_h h) (h47 : 47 ≤ h.length) (hT : tsT A q) (D : va_G) (aC ad : Nat → Nat) (sz : Nat) :
    Met l yX5_toss (Cond.codeWith yX5_toss cX5_toss 5 (some .int) hhT :: bg_tbl) { frames := 7, cells := 1, slots := 1000, locals := 200 } (xPc D aC ad h [.ref 0, .int (iI q)] sz) (ev_Q D aC ad h.length (va_A (ev_w ad aC h) sz) (some (.int (iI (sToss A q)))) h) 1 (1000 * 1) (va_A (ev_w ad aC h) sz) := by
  refine va_MetW (cc := cX5_toss) (maxL := 5) (ret := some .int) (hh := hhT) (by decide) rfl ?_
  intro p e s m args below meth c s₁ B hml hv
  obtain ⟨rfl, hsz, hP, hK, hD0, hN, hXS, hZ⟩ := hv
  have hts0 := atoms_spec (ws := Cond.codeWith yX5_toss cX5_toss 5 (some .int) hhT :: bg_tbl) B.pre
  have hts : ∀ w ∈ bg_tbl, w.before _ s = true := fun w hw => hts0 w (List.mem_cons_of_mem _ hw)
  have tb : c.exceptionTable.toList = tableOf hhT := vx_table (x := yX5_toss) B (hts0 _ List.mem_cons_self)
  have hown : s.vm.findClass RX5 = some m.cls := findClass_of_methodNamed B.named
  have hnm := (name_of_methodNamed B.named B.method).1
  subst hsz
  have C : ev_C p s m ([Value.ref 0, .int (iI q)].map (ev_v ad)).toArray meth c RX5 yX5_toss.name cX5_toss 5 (some .int) := ⟨B.exec, B.bytes, B.returns, hml, hown, hts, B.notSynchronized, hnm, hN⟩
  have Dd : ev_D D aC ad (va_A (ev_w ad aC h) s.heap.size) s s.heap [] h := ⟨hK, hP, hD0.self, va_S.rf, fun q hq => Or.inr hq⟩
  rw [lg_entry_eq]
  have hl0 := lv_entry ([Value.ref 0, .int (iI q)].map (ev_v ad)) (n := 5) (Nat.le_of_ble_eq_true rfl)
  generalize (lg_sl ([Value.ref 0, .int (iI q)].map (ev_v ad)) ++ List.replicate (5 - (lg_sl ([Value.ref 0, .int (iI q)].map (ev_v ad))).length) Slot.unset).toArray = ls at hl0 ⊢
  have hl0 : lv_has ls 5 [(0, .ref (ad 0)), (1, .int (iI q))] := hl0
  obtain ⟨hq, c1, c3, k3, k7⟩ := hT
  obtain ⟨d, rfl⟩ : ∃ d : Nat, q = d := ⟨q.toNat, by omega⟩
  have hd : d < 8 := by omega
  obtain ⟨el, hSh, -, -, -⟩ := SC.op hS hd
  obtain ⟨t, ht, ea, hTr⟩ := hwt d hd c1
  obtain ⟨u0, u1, u2, u3, u4, u5⟩ := hH (d : Int) (by omega) (by omega) c1
  rw [ht] at hSh
  have lt : 18 + 2 * d < h.length := (List.getElem?_eq_some_iff.mp hSh).1
  refine lv_aload_n C.1 C.2.1 dX5_toss_0 rfl (lv_at hl0 0 rfl) ?_
  refine lv_iload_n C.1 C.2.1 dX5_toss_1 rfl (lv_at hl0 1 rfl) ?_
  refine wc_V0 (cells := 0) (ci := 5) (a := 0) (pc' := 5) [.int (iI (d : Int))] C Dd hl0.1 o (ok2 (by omega) _ (int1 _)) kX5_44 mX5_shelfOf dX5_toss_2 rfl rfl rfl rfl (Nat.le_of_ble_eq_true rfl) (Nat.le_of_ble_eq_true rfl) ⟨Nat.le_of_ble_eq_true rfl, Nat.le_of_ble_eq_true rfl⟩ ⟨Nat.le_of_ble_eq_true rfl, Nat.le_of_ble_eq_true rfl⟩ rfl hX (e5_shelfOf hX hS hd) (fun H1 locs1 Dd1 => ?_)
  refine lv_astore_n (lv' := [(2, .ref (ad (18 + 2 * d))), (0, .ref (ad 0)), (1, .int (iI (d : Int)))]) C.1 C.2.1 dX5_toss_5 rfl hl0 (by decide) rfl (fun ls hl1 => ?_)
  refine lv_aload_n C.1 C.2.1 dX5_toss_6 rfl (lv_at hl1 0 rfl) ?_
  refine lv_ifnonnull (tgt := 12) C.1 C.2.1 dX5_toss_7 (by decide) ?_
  refine lv_aload_n C.1 C.2.1 dX5_toss_12 rfl (lv_at hl1 0 rfl) ?_
  refine wg (pc' := 16) (x := .ref t) C Dd1 fX5_316 dX5_toss_13 rfl hSh rfl ?_
  refine lv_astore_n (lv' := [(3, .ref (ad t)), (2, .ref (ad (18 + 2 * d))), (0, .ref (ad 0)), (1, .int (iI (d : Int)))]) C.1 C.2.1 dX5_toss_16 rfl hl1 (by decide) rfl (fun ls hl2 => ?_)
  refine lv_aload_n C.1 C.2.1 dX5_toss_17 rfl (lv_at hl2 0 rfl) ?_
  refine lv_ifnonnull (tgt := 26) C.1 C.2.1 dX5_toss_18 (by decide) ?_
  refine lv_aload_n C.1 C.2.1 dX5_toss_26 rfl (lv_at hl2 0 rfl) ?_
  have hF1 := wc_F Dd1
  obtain ⟨hK1, hP1, hD1, hS1, hA1⟩ := id Dd1
  refine vx_callv (vx_runS (As := [.ref (ad t)]) (rest := []) ⟨C.1, C.2.1, hml, hown, hts⟩ (x_tf hl hTr (by omega) u0 k3 k7 D aC ad H1.size) ⟨callB_of 1 hts (ev_good mX5_throwFailure) rfl rfl rfl (hts _ mX5_throwFailure.2.1) (hts _ (bg_mem 769 (by decide +kernel) rfl)) mX5_throwFailure.2.2.2.1 ⟨Nat.le_of_ble_eq_true rfl, Nat.le_of_ble_eq_true rfl⟩, hts _ kX5_326.1⟩ ⟨xblind, xc_pre C Dd1 hXS hZ [.ref t]⟩ rfl rfl hl2.1 rfl (lv_room (Nat.le_of_ble_eq_true rfl)) dX5_toss_27 ⟨Nat.le_of_ble_eq_true rfl, Nat.le_of_ble_eq_true rfl⟩) hS1 (fun q _ hq => hF1 q hq) hF1 (fun q _ hq => hF1 q hq) (fun E ce q9 u t2 H2 locs2 hH2 hvm hpx hBX hz2 hk2 hS2 hce hcv hcl => ?_) (fun u t2 H2 locs2 hH2 hvm hp => hp.elim)
  obtain ⟨hE, hP2⟩ := hBX
  rw [hH2] at hP2
  subst hE
  obtain ⟨-, -, -, -, -, -, n1, n2, n3, -⟩ := id hXS
  have sT : sShf A (d : Int) = 0 := by unfold sShf; rw [if_neg (by omega), if_neg (by omega), if_pos c1]
  have eT : sToss A (d : Int) = tss (hldS A d 0) (hldS A d 3) (hldS A d 2) (A 6 d) := by unfold sToss; rw [if_neg (by rw [sT]; decide)]
  by_cases c4 : hldS A d 0 = 4
  · have eX : exT (hldS A d 0) = eIS := by unfold exT; rw [if_pos c4]
    rw [eX] at hcl
    refine vx_catch (own := RX5) (name := eIS) hown [⟨26, 30, 33, 329⟩] ⟨26, 30, 40, 295⟩ [⟨26, 30, 50, 288⟩] tb (fun z hz => ?_) (by decide) (by decide) (hts _ w_is.1) (hXS.word hts _ ca_is) hce hcv hcl ?_
    · rw [List.mem_singleton.mp hz]; exact Or.inr ⟨by decide, eUO, hts _ w_uo.1, n1⟩
    refine lv_astore (lv' := [(4, .ref q9), (3, .ref (ad t)), (2, .ref (ad (18 + 2 * d))), (0, .ref (ad 0)), (1, .int (iI (d : Int)))]) C.1 C.2.1 dX5_toss_40 hl2 (by decide) rfl (fun ls hl3 => ?_)
    refine lv_bipush (v := iI 100) C.1 C.2.1 dX5_toss_42 rfl ?_
    refine lv_aload_n C.1 C.2.1 dX5_toss_44 rfl (lv_at hl3 1 rfl) ?_
    refine wg (pc' := 48) C ⟨hK, hP2, hD1, hS2, hA1⟩ fX5_121 dX5_toss_45 rfl hTr rfl ?_
    refine lv_iadd C.1 C.2.1 dX5_toss_48 ?_
    rw [iI_add, show sToss A (d : Int) = 100 + A 6 d by rw [eT]; unfold tss; rw [if_neg (by omega), if_pos c4]]
    exact x_ret C rfl hP2 hD1 hS2 dX5_toss_49 (by decide) (by decide)
  · by_cases c6 : hldS A d 0 = 6
    · have eX : exT (hldS A d 0) = eIA := by unfold exT; rw [if_neg c4, if_pos c6]
      rw [eX] at hcl
      refine vx_catch (own := RX5) (name := eIA) hown [⟨26, 30, 33, 329⟩, ⟨26, 30, 40, 295⟩] ⟨26, 30, 50, 288⟩ [] tb (fun z hz => ?_) (by decide) (by decide) (hts _ w_ia.1) (hXS.word hts _ ca_ia) hce hcv hcl ?_
      · rcases List.mem_cons.mp hz with hz | hz
        · rw [hz]; exact Or.inr ⟨by decide, eUO, hts _ w_uo.1, n2⟩
        · rw [List.mem_singleton.mp hz]; exact Or.inr ⟨by decide, eIS, hts _ w_is.1, n3⟩
      refine lv_astore (lv' := [(4, .ref q9), (3, .ref (ad t)), (2, .ref (ad (18 + 2 * d))), (0, .ref (ad 0)), (1, .int (iI (d : Int)))]) C.1 C.2.1 dX5_toss_50 hl2 (by decide) rfl (fun ls hl3 => ?_)
      refine lv_sipush (v := iI 200) C.1 C.2.1 dX5_toss_52 rfl ?_
      refine lv_aload_n C.1 C.2.1 dX5_toss_55 rfl (lv_at hl3 1 rfl) ?_
      refine wg (pc' := 59) C ⟨hK, hP2, hD1, hS2, hA1⟩ fX5_130 dX5_toss_56 rfl hTr rfl ?_
      refine lv_iadd C.1 C.2.1 dX5_toss_59 ?_
      rw [iI_add, show sToss A (d : Int) = 200 + hldS A d 2 by rw [eT]; unfold tss; rw [if_neg (by omega), if_neg c4, if_pos c6]]
      exact x_ret C rfl hP2 hD1 hS2 dX5_toss_60 (by decide) (by decide)
    · have eX : exT (hldS A d 0) = eUO := by unfold exT; rw [if_neg c4, if_neg c6]
      rw [eX] at hcl
      refine vx_catch (own := RX5) (name := eUO) hown [] ⟨26, 30, 33, 329⟩ [⟨26, 30, 40, 295⟩, ⟨26, 30, 50, 288⟩] tb (fun z hz => nomatch hz) (by decide) (by decide) (hts _ w_uo.1) (hXS.word hts _ ca_uo) hce hcv hcl ?_
      refine lv_astore (lv' := [(4, .ref q9), (3, .ref (ad t)), (2, .ref (ad (18 + 2 * d))), (0, .ref (ad 0)), (1, .int (iI (d : Int)))]) C.1 C.2.1 dX5_toss_33 hl2 (by decide) rfl (fun ls hl3 => ?_)
      refine lv_aload_n C.1 C.2.1 dX5_toss_35 rfl (lv_at hl3 1 rfl) ?_
      refine wg (pc' := 39) C ⟨hK, hP2, hD1, hS2, hA1⟩ fX5_121 dX5_toss_36 rfl hTr rfl ?_
      rw [show sToss A (d : Int) = A 6 d by rw [eT]; unfold tss; rw [if_neg (by omega), if_neg c4, if_neg c6]]
      exact x_ret C rfl hP2 hD1 hS2 dX5_toss_39 (by decide) (by decide)
end DK
