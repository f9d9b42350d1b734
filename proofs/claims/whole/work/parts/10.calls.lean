section EC
variable {l : Launch} {d : Nat} {own nm : String} {cc : ByteArray} {nL : Nat} {ret : Option FieldType} {pc pc' : Nat} {lc : ev_L} {st : List Value} {h h' : ev_H} {v : Option Value}
def ev_fl (As : List Value) : ev_L := As.flatMap fun v => if v.category = 2 then [some v, none] else [some v]
def ev_in (nL : Nat) (As : List Value) : ev_L := ev_fl As ++ List.replicate (nL - (ev_fl As).length) none
def ev_sl (ad : Nat → Nat) (a : Option Value) : Slot := match a with
  | some v => .val (ev_v ad v)
  | none => .second
theorem ev_fl_sl (ad : Nat → Nat) : ∀ As : List Value, lg_sl (As.map (ev_v ad)) = (ev_fl As).map (ev_sl ad)
  | [] => rfl
  | a :: As => by
    have ih := ev_fl_sl ad As
    have e1 : lg_sl ((a :: As).map (ev_v ad)) = (if (ev_v ad a).category = 2 then [Slot.val (ev_v ad a), .second] else [.val (ev_v ad a)]) ++ lg_sl (As.map (ev_v ad)) := rfl
    have e2 : ev_fl (a :: As) = (if a.category = 2 then [some a, none] else [some a]) ++ ev_fl As := rfl
    rw [e1, e2, List.map_append, ih, ev_v_cat]
    by_cases hc : a.category = 2
    · rw [if_pos hc, if_pos hc]; rfl
    · rw [if_neg hc, if_neg hc]; rfl
theorem ev_entry (ad : Nat → Nat) (As : List Value) (hfit : (ev_fl As).length ≤ nL) : ev_h ad (lg_sl (As.map (ev_v ad)) ++ List.replicate (nL - (lg_sl (As.map (ev_v ad))).length) Slot.unset).toArray nL (ev_in nL As) := by
  have hlen : (lg_sl (As.map (ev_v ad))).length = (ev_fl As).length := by rw [ev_fl_sl, List.length_map]
  have h0 := lv_entry (As.map (ev_v ad)) (n := nL) (by rw [hlen]; exact hfit)
  refine ⟨h0.1, h0.2.1, fun i u hu => ?_⟩
  unfold ev_in at hu
  by_cases hi : i < (ev_fl As).length
  · rw [List.getElem?_append_left hi] at hu
    rw [List.getElem?_toArray, List.getElem?_append_left (by rw [hlen]; exact hi), ev_fl_sl, List.getElem?_map, hu]
    rfl
  · rw [List.getElem?_append_right (by omega)] at hu
    have := List.mem_of_getElem? hu
    rw [List.mem_replicate] at this
    exact absurd this.2 (by simp)
/-- a method: its code, its class initialised, n parameters, few locals -/
def ev_M (y : MethodName) (bytes : ByteArray) (nL' : Nat) (ret' : Option FieldType) (n : Nat) : Prop := Cond.code y bytes nL' ret' ∈ bg_tbl ∧ Cond.initialized y.cls ∈ bg_tbl ∧ plainFor y = true ∧ (y.cls ≠ "java/lang/invoke/MethodHandle" ∧ y.cls ≠ "java/lang/invoke/VarHandle" ∧ (parseMethodDescriptor y.desc).map (fun d => d.parameters.length) = some n) ∧ nL' ≤ 19
def ev_Pc (D : va_G) (aC ad : Nat → Nat) (h : ev_H) (As : List Value) (sz : Nat) : Array Value → State → Prop := va_Pc (As.map (ev_v ad)) (fun U => U.heap.size = sz ∧ va_P D bg_cl (ev_w ad aC h) U.heap ∧ va_K D bg_cl (ev_ty aC) U ∧ va_D (fun _ => True) (ev_w ad aC h) ∧ ev_N U)
theorem ev_met {y : MethodName} {bytes : ByteArray} {nL' n d0 : Nat} {ret' : Option FieldType} {As : List Value} {h1 : ev_H} {w : Option Value} (hM : ev_M y bytes nL' ret' n) (o : ok_s h (ev_in nL' As) []) (hfit : (ev_fl As).length ≤ nL') (E : Ev l d0 y.cls y.name bytes nL' ret' 0 (ev_in nL' As) [] h w h1) (D : va_G) (aC ad : Nat → Nat) (sz : Nat) :
    Met l y (Cond.code y bytes nL' ret' :: bg_tbl) { frames := d0, cells := h1.length - h.length, slots := 1000 * (h1.length - h.length), locals := 38 * d0 } (ev_Pc D aC ad h As sz) (ev_Q D aC ad h.length (va_A (ev_w ad aC h) sz) w h1) (h1.length - h.length) (1000 * (h1.length - h.length)) (va_A (ev_w ad aC h) sz) := by
  refine va_MetF (cc := bytes) (maxL := nL') (ret := ret') hM.2.2.1 rfl ?_
  intro p e s m args below meth c s₁ B hml hv
  obtain ⟨rfl, hsz, hP, hK, hD0, hN⟩ := hv
  have hts := atoms_spec (ws := Cond.code y bytes nL' ret' :: bg_tbl) B.pre
  have hown : s.vm.findClass y.cls = some m.cls := findClass_of_methodNamed B.named
  have hnm : meth.name = y.name := (name_of_methodNamed B.named B.method).1
  subst hsz
  rw [lg_entry_eq]
  have E1 := E o
  have hg := E1.2.2.1
  exact E1.2.2.2 p e _ s m _ below meth c s.heap [] 0 (h1.length - h.length) _ D aC ad _ ⟨B.exec, B.bytes, B.returns, hml, hown, fun w hw => hts w (List.mem_cons_of_mem _ hw), B.notSynchronized, hnm, hN⟩ ⟨hK, hP, hD0.self, va_S.rf, fun q hq => Or.inr hq⟩ (ev_entry ad As hfit) (Nat.le_refl _) (Nat.le_refl _) (Nat.le_refl _) (Nat.le_refl _) (by omega)
theorem ev_blind {D : va_G} {aC ad : Nat → Nat} {As : List Value} {sz : Nat} : FrameBlind (ev_Pc D aC ad h As sz) := by
  intro a U g mk q
  obtain ⟨q0, q1, qP, qK, qD, qN⟩ := q
  exact ⟨q0, q1, qP, va_K.moved (u := U) (U := U.calling g mk a) (Vm.Alike.refl U.vm) qK, qD, ⟨fun x hx => (qN.1 x hx).same rfl rfl, qN.2.1.moved (u := U) (U := U.calling g mk a) (Vm.Alike.refl U.vm), qN.2.2.moved (u := U) (U := U.calling g mk a) (Vm.Alike.refl U.vm)⟩⟩
theorem ev_cont {p : Program} {e : Env} {R : Room} {s : State} {m : MethodId} {args : Array Value} {below : List Frame} {meth : Method} {c : Code} {H H0 : Heap} {locs : List Loc} {cells slots mc1 ms1 : Nat} {Q : State → Prop} {ls : Array Slot} {st0 rest : List Value} {A0 A1 : Nat → Prop} {free : Addr → Prop} {Qa : State → Outcome → State → Prop}
    (hr : va_Run p l e R s m args below meth c H locs cells slots mc1 ms1 (F0 m pc ls st0) rest Qa free) (hS : va_S A0 H0 H locs) (hf : ∀ q, free q → A0 q) (hA : ∀ q, A1 q → A0 q) (hQ : ∀ st₀ t v, Qa st₀ (.returned v) t → va_F A1 st₀ t)
    (kk : ∀ (w : Option Value) (st₀ t : State) (locs1 : List Loc), st₀.heap = H → Qa st₀ (.returned w) t → va_S A0 H0 t.heap locs1 → W p l e R s m args below meth c t.heap locs1 (cells + mc1) (slots + ms1) Q (F0 m (pc + 3) ls (w.toList ++ rest))) : W p l e R s m args below meth c H locs cells slots Q (F0 m pc ls st0) := by
  intro T hT X
  obtain ⟨w, st₀, t, T', L, h0, X', hL, e1, e2, hq, hst⟩ := hr T hT X
  obtain ⟨hz, hk⟩ := hQ _ _ _ hq
  rw [h0] at hz hk
  obtain ⟨t2, a1, b1⟩ := kk w st₀ t (locs ++ L) h0 hq ⟨Nat.le_trans hS.1 hz, fun q h1 h2 => by
      rw [hk q (Nat.lt_of_lt_of_le h1 hS.1) (fun z => h2 (hA q z))]
      exact hS.2.1 q h1 h2, fun q hq2 => by
      rcases List.mem_append.mp hq2 with hq2 | hq2
      · exact hS.2.2 q hq2
      · exact hf _ (hL q hq2)⟩ T' e1 X'
  exact ⟨t2, hst t2 a1, b1⟩
/-- behind a call: the callee's end, the caller goes on -/
theorem ev_after {w : Option Value} {h1 : ev_H} (o : ok_s h lc st) (c1 : ok_h h1) (c2 : ∀ x, w = some x → ok_v h1.length x) (c3 : h.length ≤ h1.length) (kk : Ev l d own nm cc nL ret (pc + 3) lc (w.toList ++ st) h1 v h') :
    ok_h h' ∧ (∀ x, v = some x → ok_v h'.length x) ∧ h1.length ≤ h'.length ∧
    ∀ (p : Program) (e : Env) (R : Room) (s : State) (m : MethodId) (args a : Array Value) (below : List Frame) (meth : Method) (c : Code) (H : Heap) (locs : List Loc) (cells mc : Nat) (ls : Array Slot) (D : va_G) (aC ad : Nat → Nat) (A : Nat → Prop) (stk : List Value),
    ev_C p s m args meth c own nm cc nL ret → ev_D D aC ad A s H locs h → ev_h ad ls nL lc →
    d ≤ R.frames → 38 * d ≤ R.locals → mc ≤ R.cells → 1000 * mc ≤ R.slots → cells + h'.length ≤ mc + h.length →
    va_Run p l e R s m args below meth c H locs cells (1000 * cells) (h1.length - h.length) (1000 * (h1.length - h.length)) (F0 m pc ls stk) (st.map (ev_v ad)) (ev_Q D aC ad h.length (va_A (ev_w ad aC h) H.size) w h1 a) (va_A (ev_w ad aC h) H.size) →
    W p l e R s m args below meth c H locs cells (1000 * cells) (MQ below (ev_Q D aC ad h.length A v h') args s mc (1000 * mc) A) (F0 m pc ls stk) := by
  have o2 : ok_s h1 lc (w.toList ++ st) := by
    refine ⟨c1, fun i u hu => (o.2.1 i u hu).mono c3, fun u hu => ?_⟩
    rcases List.mem_append.mp hu with hu | hu
    · cases w with
      | none => cases hu
      | some x => rw [Option.toList_some, List.mem_singleton] at hu; rw [hu]; exact c2 x rfl
    · exact (o.2.2 u hu).mono c3
  obtain ⟨k1, k2, k3, k4⟩ := kk o2
  refine ⟨k1, k2, k3, fun p e R s m args a below meth c H locs cells mc ls D aC ad A stk C Dd hl q1 q2 q3 q4 q5 hr => ?_⟩
  obtain ⟨hK, hP, hD, hS, hA⟩ := id Dd
  have hF : ∀ q, va_A (ev_w ad aC h) H.size q → A q := by
    rintro q (⟨k, e0, hk⟩ | hq)
    · exact hD.2 k (q, e0) hk
    · exact hA q (Nat.le_trans hS.1 hq)
  refine ev_cont hr hS hF hF (fun _ _ _ hq => hq.2) (fun w1 st₀ t locs1 h0 hq hS1 => ?_)
  obtain ⟨⟨ad', ha, hret, hP1, hD1⟩, -⟩ := hq
  have hw1 : w1 = w.map (ev_v ad') := by injection hret
  subst hw1
  have K := k4 p e R s m args below meth c t.heap locs1 (cells + (h1.length - h.length)) mc ls D aC ad' A C ⟨hK, hP1, hD1.weaken (fun k q _ hq => hF q.1 hq), hS1, hA⟩ (ev_h_agree o.2.1 ha hl) q1 q2 q3 q4 (by omega)
  have e2 : (w.toList ++ st).map (ev_v ad') = (w.map (ev_v ad')).toList ++ st.map (ev_v ad) := by
    rw [List.map_append, ev_st_agree o.2.2 ha]
    cases w <;> rfl
  rw [e2, Nat.mul_add] at K
  exact W.monoQ (MQ.mono fun oc t hq => ev_Q.mono c3 ha hq) K
theorem ev_good {y : MethodName} {bytes : ByteArray} {nL' n : Nat} {ret' : Option FieldType} (hM : ev_M y bytes nL' ret' n) : GoodIn bg_tbl (Cond.code y bytes nL' ret' :: bg_tbl) := fun w hw => by
  rcases List.mem_cons.mp hw with rfl | hw
  · exact ⟨hM.1, bg_good _ hM.1⟩
  · exact ⟨hw, bg_good w hw⟩
theorem ok_args {As : List Value} {nL' : Nat} (o : ok_h h) (ha : ∀ u ∈ As, ok_v h.length u) : ok_s h (ev_in nL' As) [] := by
  refine ⟨o, fun i u hu => ?_, fun u hu => (by cases hu)⟩
  have hm := List.mem_of_getElem? hu
  rcases List.mem_append.mp hm with hm | hm
  · obtain ⟨x, hx, hxu⟩ := List.mem_flatMap.mp hm
    by_cases hc : x.category = 2
    · rw [if_pos hc] at hxu
      simp at hxu
      rw [hxu]; exact ha x hx
    · rw [if_neg hc] at hxu
      simp at hxu
      rw [hxu]; exact ha x hx
  · rw [List.mem_replicate] at hm
    exact absurd hm.2 (by simp)
theorem ev_cats (ad : Nat → Nat) (st : List Value) : ((st.map (ev_v ad)).map fun v => v.category).sum = (st.map fun v => v.category).sum := by
  rw [List.map_map]
  congr 1
  exact List.map_congr_left fun u _ => ev_v_cat ad u
/-- links of calls -/
def ev_KS (own : String) (idx : Nat) (y : MethodName) : Prop := Cond.static y ∈ bg_tbl ∧ (Cond.methodLink own idx y ∈ bg_tbl ∨ ∃ host, (own, idx, y, host) ∈ ev_nst)
def ev_KV (own : String) (idx : Nat) (y : MethodName) : Prop := Cond.instanceMethod y ∈ bg_tbl ∧ Cond.selects y.cls y y ∈ bg_tbl ∧ Cond.methodLink own idx y ∈ bg_tbl
def ev_KI (own : String) (idx : Nat) (y : MethodName) : Prop := y.name = "<init>" ∧ Cond.instanceMethod y ∈ bg_tbl ∧ (Cond.methodLink own idx y ∈ bg_tbl ∨ ∃ host, (own, idx, y, host) ∈ ev_nst)
theorem ev_callS {idx n nL' d0 : Nat} {y : MethodName} {bytes : ByteArray} {ret' : Option FieldType} {lc0 : ev_L} {h1 : ev_H} {w : Option Value} {stk : List Value} (As : List Value) (st : List Value) (hK : ev_KS own idx y) (hM : ev_M y bytes nL' ret' n) (hd : decode cc pc = .ok (.invokestatic idx, 3)) (hp : pc + 3 = pc') (hn : As.length = n) (hst : As.reverse ++ st = stk) (hin : ev_in nL' As = lc0) (hfit : (ev_fl As).length ≤ nL') (hcat : (st.map fun v => v.category).sum ≤ 8) (hdd : d0 + 1 ≤ d)
    (E : Ev l d0 y.cls y.name bytes nL' ret' 0 lc0 [] h w h1) (kk : Ev l d own nm cc nL ret pc' lc (w.toList ++ st) h1 v h') : Ev l d own nm cc nL ret pc lc stk h v h' := by
  subst hp
  subst hst
  subst hin
  intro o
  have oA : ∀ u ∈ As, ok_v h.length u := fun u hu => o.2.2 u (List.mem_append_left _ (List.mem_reverse.mpr hu))
  have oS : ok_s h lc st := ⟨o.1, o.2.1, fun u hu => o.2.2 u (List.mem_append_right _ hu)⟩
  have oE := ok_args (nL' := nL') o.1 oA
  obtain ⟨c1, c2, c3, -⟩ := E oE
  obtain ⟨k1, k2, k3, k4⟩ := ev_after oS c1 c2 c3 kk
  refine ⟨k1, k2, Nat.le_trans c3 k3, fun p e R s m args below meth c H locs cells mc ls D aC ad A C Dd hl q1 q2 q3 q4 q5 => ?_⟩
  obtain ⟨hx, hb, hr, hml, hown, hts, hlocks, hnm, hN⟩ := id C
  obtain ⟨hKK, hP, hD, hS, hA⟩ := id Dd
  refine k4 p e R s m args (As.map (ev_v ad)).toArray below meth c H locs cells mc ls D aC ad A _ C Dd hl q1 q2 q3 q4 q5 ?_
  have hMt := ev_met hM oE hfit E D aC ad H.size
  have hpre : PreS s H (ev_Pc D aC ad h As H.size) (As.map (ev_v ad)) := ⟨ev_blind, fun U hU hW => ⟨rfl, by rw [hU], by rw [hU]; exact hP, va_K.moved hW.alike hKK, hD.weaken (fun _ _ _ _ => trivial), hN.warm hW⟩⟩
  have hroom : d0 + 1 ≤ R.frames ∧ 8 + (nL' + 11) + 38 * d0 ≤ R.locals := ⟨by omega, by have := hM.2.2.2.2; omega⟩
  have hstk : (F0 m pc ls ((As.reverse ++ st).map (ev_v ad))).stack = (As.map (ev_v ad)).reverse ++ st.map (ev_v ad) := by
    show (As.reverse ++ st).map (ev_v ad) = _
    rw [List.map_append, List.map_reverse]
  have hcap : cells + (h1.length - h.length) ≤ R.cells ∧ 1000 * cells + 1000 * (h1.length - h.length) ≤ R.slots := ⟨by omega, by omega⟩
  have hini := hts _ hM.2.1
  rcases hK.2 with hlk | ⟨host, hlk⟩
  · exact va_runS (As := As.map (ev_v ad)) (rest := st.map (ev_v ad)) ⟨hx, hb, hml, hown, hts⟩ hMt ⟨callB_of n hts (ev_good hM) rfl rfl rfl hini (hts _ hlk) hM.2.2.2.1 hroom, hts _ hK.1⟩ hpre rfl (by rw [List.length_map]; exact hn) hl.1 hstk (lv_room (by rw [ev_cats]; exact hcat)) hd hcap
  · exact va_runSN (As := As.map (ev_v ad)) (rest := st.map (ev_v ad)) ⟨hx, hb, hml, hown, hts⟩ hMt ⟨va_cnB n hts (ev_good hM) rfl rfl rfl (hN.1 _ hlk) hini hM.2.2.2.1 hroom, hts _ hK.1, trivial⟩ hpre rfl (by rw [List.length_map]; exact hn) hl.1 hstk (lv_room (by rw [ev_cats]; exact hcat)) hd hcap
theorem ev_callV {idx n nL' d0 ci a : Nat} {y : MethodName} {bytes : ByteArray} {ret' : Option FieldType} {lc0 : ev_L} {h1 : ev_H} {w : Option Value} {stk fs : List Value} {T : u_T} {N : Nat} (As : List Value) (st : List Value) (hK : ev_KV own idx y) (hM : ev_M y bytes nL' ret' n) (hd : decode cc pc = .ok (.invokevirtual idx, 3)) (hp : pc + 3 = pc') (hn : As.length = n) (hst : As.reverse ++ .ref a :: st = stk) (hin : ev_in nL' (.ref a :: As) = lc0) (hfit : (ev_fl (.ref a :: As)).length ≤ nL') (hcat : (st.map fun v => v.category).sum ≤ 8) (hdd : d0 + 1 ≤ d) (hcl : bg_cl[ci]? = some (y.cls, T, N)) (ho : h[a]? = some (.inr (ci, fs)))
    (E : Ev l d0 y.cls y.name bytes nL' ret' 0 lc0 [] h w h1) (kk : Ev l d own nm cc nL ret pc' lc (w.toList ++ st) h1 v h') : Ev l d own nm cc nL ret pc lc stk h v h' := by
  subst hp
  subst hst
  subst hin
  intro o
  have oA : ∀ u ∈ (.ref a :: As : List Value), ok_v h.length u := fun u hu => by
    rcases List.mem_cons.mp hu with rfl | hu
    · exact o.2.2 _ (List.mem_append_right _ List.mem_cons_self)
    · exact o.2.2 u (List.mem_append_left _ (List.mem_reverse.mpr hu))
  have oS : ok_s h lc st := ⟨o.1, o.2.1, fun u hu => o.2.2 u (List.mem_append_right _ (List.mem_cons_of_mem _ hu))⟩
  have oE := ok_args (nL' := nL') o.1 oA
  obtain ⟨c1, c2, c3, -⟩ := E oE
  obtain ⟨k1, k2, k3, k4⟩ := ev_after oS c1 c2 c3 kk
  refine ⟨k1, k2, Nat.le_trans c3 k3, fun p e R s m args below meth c H locs cells mc ls D aC ad A C Dd hl q1 q2 q3 q4 q5 => ?_⟩
  obtain ⟨hx, hb, hr, hml, hown, hts, hlocks, hnm, hN⟩ := id C
  obtain ⟨hKK, hP, hD, hS, hA⟩ := id Dd
  refine k4 p e R s m args (Value.ref (ad a) :: As.map (ev_v ad)).toArray below meth c H locs cells mc ls D aC ad A _ C Dd hl q1 q2 q3 q4 q5 ?_
  have hMt := ev_met hM oE hfit E D aC ad H.size
  have hpre : PreV s H y.cls (ad a) (ev_Pc D aC ad h (.ref a :: As) H.size) (As.map (ev_v ad)) := ⟨ev_blind, va_recv hKK hP hcl (ev_w_get ho), fun U hU hW => ⟨rfl, by rw [hU], by rw [hU]; exact hP, va_K.moved hW.alike hKK, hD.weaken (fun _ _ _ _ => trivial), hN.warm hW⟩⟩
  have hroom : d0 + 1 ≤ R.frames ∧ 8 + (nL' + 11) + 38 * d0 ≤ R.locals := ⟨by omega, by have := hM.2.2.2.2; omega⟩
  have hstk : (F0 m pc ls ((As.reverse ++ .ref a :: st).map (ev_v ad))).stack = (As.map (ev_v ad)).reverse ++ .ref (ad a) :: st.map (ev_v ad) := by
    show (As.reverse ++ .ref a :: st).map (ev_v ad) = _
    rw [List.map_append, List.map_reverse]
    rfl
  have hcap : cells + (h1.length - h.length) ≤ R.cells ∧ 1000 * cells + 1000 * (h1.length - h.length) ≤ R.slots := ⟨by omega, by omega⟩
  have hini := hts _ hM.2.1
  exact va_runV (As := As.map (ev_v ad)) (rest := st.map (ev_v ad)) ⟨hx, hb, hml, hown, hts⟩ hMt ⟨callB_of n hts (ev_good hM) rfl rfl rfl hini (hts _ hK.2.2) hM.2.2.2.1 hroom, hts _ hK.1, hts _ hK.2.1⟩ hpre rfl (by rw [List.length_map]; exact hn) hl.1 hstk (lv_room (by rw [ev_cats]; exact hcat)) hd hcap
theorem ev_callI {idx n nL' d0 a : Nat} {y : MethodName} {bytes : ByteArray} {lc0 : ev_L} {h1 : ev_H} {w : Option Value} {stk : List Value} (As : List Value) (st : List Value) (hK : ev_KI own idx y) (hM : ev_M y bytes nL' none n) (hd : decode cc pc = .ok (.invokespecial idx, 3)) (hp : pc + 3 = pc') (hn : As.length = n) (hst : As.reverse ++ .ref a :: st = stk) (hin : ev_in nL' (.ref a :: As) = lc0) (hfit : (ev_fl (.ref a :: As)).length ≤ nL') (hcat : (st.map fun v => v.category).sum ≤ 8) (hdd : d0 + 1 ≤ d)
    (E : Ev l d0 y.cls y.name bytes nL' none 0 lc0 [] h w h1) (kk : Ev l d own nm cc nL ret pc' lc (w.toList ++ st) h1 v h') : Ev l d own nm cc nL ret pc lc stk h v h' := by
  subst hp
  subst hst
  subst hin
  intro o
  have oA : ∀ u ∈ (.ref a :: As : List Value), ok_v h.length u := fun u hu => by
    rcases List.mem_cons.mp hu with rfl | hu
    · exact o.2.2 _ (List.mem_append_right _ List.mem_cons_self)
    · exact o.2.2 u (List.mem_append_left _ (List.mem_reverse.mpr hu))
  have oS : ok_s h lc st := ⟨o.1, o.2.1, fun u hu => o.2.2 u (List.mem_append_right _ (List.mem_cons_of_mem _ hu))⟩
  have oE := ok_args (nL' := nL') o.1 oA
  obtain ⟨c1, c2, c3, -⟩ := E oE
  obtain ⟨k1, k2, k3, k4⟩ := ev_after oS c1 c2 c3 kk
  refine ⟨k1, k2, Nat.le_trans c3 k3, fun p e R s m args below meth c H locs cells mc ls D aC ad A C Dd hl q1 q2 q3 q4 q5 => ?_⟩
  obtain ⟨hx, hb, hr, hml, hown, hts, hlocks, hnm, hN⟩ := id C
  obtain ⟨hKK, hP, hD, hS, hA⟩ := id Dd
  refine k4 p e R s m args (Value.ref (ad a) :: As.map (ev_v ad)).toArray below meth c H locs cells mc ls D aC ad A _ C Dd hl q1 q2 q3 q4 q5 ?_
  have hMt := ev_met hM oE hfit E D aC ad H.size
  have hpre : PreS s H (ev_Pc D aC ad h (.ref a :: As) H.size) (.ref (ad a) :: As.map (ev_v ad)) := ⟨ev_blind, fun U hU hW => ⟨rfl, by rw [hU], by rw [hU]; exact hP, va_K.moved hW.alike hKK, hD.weaken (fun _ _ _ _ => trivial), hN.warm hW⟩⟩
  have hroom : d0 + 1 ≤ R.frames ∧ 8 + (nL' + 11) + 38 * d0 ≤ R.locals := ⟨by omega, by have := hM.2.2.2.2; omega⟩
  have hstk : (F0 m pc ls ((As.reverse ++ .ref a :: st).map (ev_v ad))).stack = (As.map (ev_v ad)).reverse ++ .ref (ad a) :: st.map (ev_v ad) := by
    show (As.reverse ++ .ref a :: st).map (ev_v ad) = _
    rw [List.map_append, List.map_reverse]
    rfl
  have hcap : cells + (h1.length - h.length) ≤ R.cells ∧ 1000 * cells + 1000 * (h1.length - h.length) ≤ R.slots := ⟨by omega, by omega⟩
  have hini := hts _ hM.2.1
  rcases hK.2.2 with hlk | ⟨host, hlk⟩
  · exact va_runI (As := As.map (ev_v ad)) (rest := st.map (ev_v ad)) ⟨hx, hb, hml, hown, hts⟩ hMt ⟨callB_of n hts (ev_good hM) rfl rfl rfl hini (hts _ hlk) hM.2.2.2.1 hroom, hK.1, hts _ hK.2.1⟩ hpre rfl (by rw [List.length_map]; exact hn) hl.1 hstk (lv_room (by rw [ev_cats]; exact hcat)) hd hcap
  · exact va_runIN (As := As.map (ev_v ad)) (rest := st.map (ev_v ad)) ⟨hx, hb, hml, hown, hts⟩ hMt ⟨va_cnB n hts (ev_good hM) rfl rfl rfl (hN.1 _ hlk) hini hM.2.2.2.1 hroom, hK.1, hts _ hK.2.1⟩ hpre rfl (by rw [List.length_map]; exact hn) hl.1 hstk (lv_room (by rw [ev_cats]; exact hcat)) hd hcap
end EC
