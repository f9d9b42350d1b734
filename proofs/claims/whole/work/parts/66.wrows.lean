section DD
variable {p : Program} {l : Launch} {e : Env} {R : Room} {s : State} {m : MethodId} {args : Array Value} {below : List Frame} {meth : Method} {c : Code} {H : Heap} {locs : List Loc} {cells : Nat} {Q : State → Prop} {ls : Array Slot} {pc pc' : Nat} {own nm : String} {cc : ByteArray} {nL : Nat} {ret : Option FieldType} {D : va_G} {aC ad : Nat → Nat} {A : Nat → Prop} {h h1 : ev_H} {rest : List Value}
/-! rows at the machine itself, over the heap of tags: for the law, and for what throws -/
theorem wc_F (Dd : ev_D D aC ad A s H locs h) : ∀ q, va_A (ev_w ad aC h) H.size q → A q := by
  obtain ⟨hK, hP, hD, hS, hA⟩ := Dd
  rintro q (⟨k, e0, hk⟩ | hq)
  · exact hD.2 k (q, e0) hk
  · exact hA q (Nat.le_trans hS.1 hq)
theorem wc_after {w : Option Value} {mc : Nat} {a : Array Value} {stk : List Value} (Dd : ev_D D aC ad A s H locs h) (hp : pc + 3 = pc') (hr : va_Run p l e R s m args below meth c H locs cells (1000 * cells) mc (1000 * mc) (F0 m pc ls stk) rest (ev_Q D aC ad h.length (va_A (ev_w ad aC h) H.size) w h1 a) (va_A (ev_w ad aC h) H.size))
    (kk : ∀ (ad' : Nat → Nat) (H1 : Heap) (locs1 : List Loc), (∀ k, k < h.length → ad' k = ad k) → ev_D D aC ad' A s H1 locs1 h1 → W p l e R s m args below meth c H1 locs1 (cells + mc) (1000 * (cells + mc)) Q (F0 m pc' ls ((w.map (ev_v ad')).toList ++ rest))) : W p l e R s m args below meth c H locs cells (1000 * cells) Q (F0 m pc ls stk) := by
  subst hp
  have hF := wc_F Dd
  obtain ⟨hK, hP, hD, hS, hA⟩ := id Dd
  refine ev_cont hr hS hF hF (fun _ _ _ hq => hq.2) (fun w1 st₀ t locs1 h0 hq hS1 => ?_)
  obtain ⟨⟨ad', ha, hret, hP1, hD1⟩, -⟩ := hq
  have hw1 : w1 = w.map (ev_v ad') := by injection hret
  subst hw1
  have K := kk ad' t.heap locs1 ha ⟨hK, hP1, hD1.weaken (fun k q _ hq => hF q.1 hq), hS1, hA⟩
  rw [Nat.mul_add] at K
  exact K
theorem wc_pre (C : ev_C p s m args meth c own nm cc nL ret) (Dd : ev_D D aC ad A s H locs h) (As : List Value) : ∀ U : State, U.heap = H → s.WarmedH U.vm → ev_Pc D aC ad h As H.size (As.map (ev_v ad)).toArray U := by
  obtain ⟨hx, hb, hr, hml, hown, hts, hlocks, hnm, hN⟩ := id C
  obtain ⟨hKK, hP, hD, hS, hA⟩ := id Dd
  exact fun U hU hW => ⟨rfl, by rw [hU], by rw [hU]; exact hP, va_K.moved hW.alike hKK, hD.weaken (fun _ _ _ _ => trivial), hN.warm hW⟩
theorem wc_V {idx n nL' d0 ci a : Nat} {y : MethodName} {bytes : ByteArray} {ret' : Option FieldType} {lc0 : ev_L} {w : Option Value} {stk fs : List Value} {T : u_T} {N : Nat} (As : List Value) (C : ev_C p s m args meth c own nm cc nL ret) (Dd : ev_D D aC ad A s H locs h) (hsz : ls.size = nL) (o : ok_h h) (oA : ∀ u ∈ (.ref a :: As : List Value), ok_v h.length u) (hK : ev_KV own idx y) (hM : ev_M y bytes nL' ret' n) (hd : decode cc pc = .ok (.invokevirtual idx, 3)) (hp : pc + 3 = pc') (hn : As.length = n) (hst : (As.map (ev_v ad)).reverse ++ .ref (ad a) :: rest = stk) (hin : ev_in nL' (.ref a :: As) = lc0) (hfit : (ev_fl (.ref a :: As)).length ≤ nL') (hcat : (rest.map fun v => v.category).sum ≤ 8) (hroom : d0 + 1 ≤ R.frames ∧ 8 + (nL' + 11) + 38 * d0 ≤ R.locals) (hcap : cells + (h1.length - h.length) ≤ R.cells ∧ 1000 * cells + 1000 * (h1.length - h.length) ≤ R.slots) (hcl : bg_cl[ci]? = some (y.cls, T, N)) (ho : h[a]? = some (.inr (ci, fs)))
    (E : Ev l d0 y.cls y.name bytes nL' ret' 0 lc0 [] h w h1)
    (kk : ∀ (ad' : Nat → Nat) (H1 : Heap) (locs1 : List Loc), (∀ k, k < h.length → ad' k = ad k) → ok_h h1 → h.length ≤ h1.length → ev_D D aC ad' A s H1 locs1 h1 → W p l e R s m args below meth c H1 locs1 (cells + (h1.length - h.length)) (1000 * (cells + (h1.length - h.length))) Q (F0 m pc' ls ((w.map (ev_v ad')).toList ++ rest))) : W p l e R s m args below meth c H locs cells (1000 * cells) Q (F0 m pc ls stk) := by
  subst hst
  subst hin
  have oE := ok_args (nL' := nL') o oA
  obtain ⟨c1, c2, c3, -⟩ := E oE
  obtain ⟨hx, hb, hr, hml, hown, hts, hlocks, hnm, hN⟩ := id C
  obtain ⟨hKK, hP, hD, hS, hA⟩ := id Dd
  have hMt := ev_met hM oE hfit E D aC ad H.size
  have hpre : PreV s H y.cls (ad a) (ev_Pc D aC ad h (.ref a :: As) H.size) (As.map (ev_v ad)) := ⟨ev_blind, va_recv hKK hP hcl (ev_w_get ho), wc_pre C Dd (.ref a :: As)⟩
  have hini := hts _ hM.2.1
  refine wc_after (h1 := h1) (w := w) Dd hp (va_runV (As := As.map (ev_v ad)) (rest := rest) ⟨hx, hb, hml, hown, hts⟩ hMt ⟨callB_of n hts (ev_good hM) rfl rfl rfl hini (hts _ hK.2.2) hM.2.2.2.1 hroom, hts _ hK.1, hts _ hK.2.1⟩ hpre rfl (by rw [List.length_map]; exact hn) hsz rfl (lv_room hcat) hd hcap) (fun ad' H1 locs1 ha Dd1 => kk ad' H1 locs1 ha c1 c3 Dd1)
theorem wc_I {idx n nL' d0 a : Nat} {y : MethodName} {bytes : ByteArray} {lc0 : ev_L} {w : Option Value} {stk : List Value} (As : List Value) (C : ev_C p s m args meth c own nm cc nL ret) (Dd : ev_D D aC ad A s H locs h) (hsz : ls.size = nL) (o : ok_h h) (oA : ∀ u ∈ (.ref a :: As : List Value), ok_v h.length u) (hK : ev_KI own idx y) (hM : ev_M y bytes nL' none n) (hd : decode cc pc = .ok (.invokespecial idx, 3)) (hp : pc + 3 = pc') (hn : As.length = n) (hst : (As.map (ev_v ad)).reverse ++ .ref (ad a) :: rest = stk) (hin : ev_in nL' (.ref a :: As) = lc0) (hfit : (ev_fl (.ref a :: As)).length ≤ nL') (hcat : (rest.map fun v => v.category).sum ≤ 8) (hroom : d0 + 1 ≤ R.frames ∧ 8 + (nL' + 11) + 38 * d0 ≤ R.locals) (hcap : cells + (h1.length - h.length) ≤ R.cells ∧ 1000 * cells + 1000 * (h1.length - h.length) ≤ R.slots)
    (E : Ev l d0 y.cls y.name bytes nL' none 0 lc0 [] h w h1)
    (kk : ∀ (ad' : Nat → Nat) (H1 : Heap) (locs1 : List Loc), (∀ k, k < h.length → ad' k = ad k) → ok_h h1 → h.length ≤ h1.length → ev_D D aC ad' A s H1 locs1 h1 → W p l e R s m args below meth c H1 locs1 (cells + (h1.length - h.length)) (1000 * (cells + (h1.length - h.length))) Q (F0 m pc' ls ((w.map (ev_v ad')).toList ++ rest))) : W p l e R s m args below meth c H locs cells (1000 * cells) Q (F0 m pc ls stk) := by
  subst hst
  subst hin
  have oE := ok_args (nL' := nL') o oA
  obtain ⟨c1, c2, c3, -⟩ := E oE
  obtain ⟨hx, hb, hr, hml, hown, hts, hlocks, hnm, hN⟩ := id C
  obtain ⟨hKK, hP, hD, hS, hA⟩ := id Dd
  have hMt := ev_met hM oE hfit E D aC ad H.size
  have hpre : PreS s H (ev_Pc D aC ad h (.ref a :: As) H.size) (.ref (ad a) :: As.map (ev_v ad)) := ⟨ev_blind, wc_pre C Dd (.ref a :: As)⟩
  have hini := hts _ hM.2.1
  refine wc_after (h1 := h1) (w := w) (a := (Value.ref (ad a) :: As.map (ev_v ad)).toArray) Dd hp ?_ (fun ad' H1 locs1 ha Dd1 => kk ad' H1 locs1 ha c1 c3 Dd1)
  rcases hK.2.2 with hlk | ⟨host, hlk⟩
  · exact va_runI (As := As.map (ev_v ad)) (rest := rest) ⟨hx, hb, hml, hown, hts⟩ hMt ⟨callB_of n hts (ev_good hM) rfl rfl rfl hini (hts _ hlk) hM.2.2.2.1 hroom, hK.1, hts _ hK.2.1⟩ hpre rfl (by rw [List.length_map]; exact hn) hsz rfl (lv_room hcat) hd hcap
  · exact va_runIN (As := As.map (ev_v ad)) (rest := rest) ⟨hx, hb, hml, hown, hts⟩ hMt ⟨va_cnB n hts (ev_good hM) rfl rfl rfl (hN.1 _ hlk) hini hM.2.2.2.1 hroom, hK.1, hts _ hK.2.1⟩ hpre rfl (by rw [List.length_map]; exact hn) hsz rfl (lv_room hcat) hd hcap
theorem wg {slots idx ci k a : Nat} {fs : List Value} {x : Value} (C : ev_C p s m args meth c own nm cc nL ret) (Dd : ev_D D aC ad A s H locs h) (hf : ev_F own idx ci k) (hd : decode cc pc = .ok (.getfield idx, 3)) (hp : pc + 3 = pc') (ho : h[a]? = some (.inr (ci, fs))) (hv : fs[k]? = some x) (kk : W p l e R s m args below meth c H locs cells slots Q (F0 m pc' ls (ev_v ad x :: rest))) : W p l e R s m args below meth c H locs cells slots Q (F0 m pc ls (.ref (ad a) :: rest)) := by
  subst hp
  obtain ⟨hx, hb, hr, hml, hown, hts, hlocks, hnm, hN⟩ := id C
  obtain ⟨hK, hP, hD, hS, hA⟩ := id Dd
  obtain ⟨Cn, T, N, hc, hkN, hw, hT⟩ := hf
  exact va_get (D := D) (ci := ci) (v := ev_v ad x) (C := Cn) (T := T) (N := N) hx hb hts (bg_clok ci Cn T N hc).1 hown hK hP a (ev_w_get ho) hc k hkN (hts _ hw) (fun y hy => by rw [hT] at hy; exact hy) (by rw [List.getElem?_map, hv]; rfl) hd kk
/-- a new cell at the end of the list -/
theorem wn_push {e0 : va_E} {H1 : Heap} {locs1 : List Loc} {q : Nat} (o : ok_h h) (hK : va_K D bg_cl (ev_ty aC) s) (hA : ∀ q, s.heap.size ≤ q → A q) (hP1 : va_P D bg_cl (ev_w ad aC h ++ [(q, ev_e (va_up ad h.length q) aC e0)]) H1) (hD1 : va_D A (ev_w ad aC h ++ [(q, ev_e (va_up ad h.length q) aC e0)])) (hS1 : va_S A s.heap H1 locs1) : ev_D D aC (va_up ad h.length q) A s H1 locs1 (h ++ [e0]) := by
  rw [ev_w_push o] at hP1 hD1
  exact ⟨hK, hP1, hD1, hS1, hA⟩
theorem wn {idx ci : Nat} {fs : List Value} (C : ev_C p s m args meth c own nm cc nL ret) (Dd : ev_D D aC ad A s H locs h) (o : ok_h h) (hw : ev_Nw own idx ci fs) (hd : decode cc pc = .ok (.new idx, 3)) (hp : pc + 3 = pc') (hcap : cells + 1 ≤ R.cells ∧ 1000 * cells + 1000 ≤ R.slots)
    (kk : ∀ (q : Nat) (H1 : Heap) (locs1 : List Loc), ok_h (h ++ [.inr (ci, fs)]) → ev_D D aC (va_up ad h.length q) A s H1 locs1 (h ++ [.inr (ci, fs)]) → W p l e R s m args below meth c H1 locs1 (cells + 1) (1000 * (cells + 1)) Q (F0 m pc' ls (.ref q :: rest))) : W p l e R s m args below meth c H locs cells (1000 * cells) Q (F0 m pc ls rest) := by
  subst hp
  obtain ⟨Cn, T, N, ty, hc, hcl, hin, hini, hty, hfs, hN, hok⟩ := hw
  have hoe : ok_e (h.length + 1) (.inr (ci, fs)) := fun u hu => (hok u hu).mono (Nat.zero_le _)
  obtain ⟨hx, hb, hr, hml, hown, hts, hlocks, hnm, hNs⟩ := id C
  obtain ⟨hK, hP, hD, hS, hA⟩ := id Dd
  refine va_new (ci := ci) (fs := fs) (C := Cn) (T := T) (N := N) hx hb hts (bg_clok ci Cn T N hc).1 ty hty hown (hts _ hcl) (hts _ hin) (hts _ hini) hK hP hD hS hA hc hfs (by omega) (by omega) hd (fun q H1 hP1 hD1 hS1 => ?_)
  have e1 : (Sum.inr (ci, fs) : va_E) = ev_e (va_up ad h.length q) aC (.inr (ci, fs)) := by
    show (Sum.inr (ci, fs) : va_E) = Sum.inr (ci, fs.map (ev_v (va_up ad h.length q)))
    rw [ev_st_agree (ad := fun k => k) hok (fun k hk => absurd hk (Nat.not_lt_zero k))]
    have : fs.map (ev_v (fun k => k)) = fs := by
      conv => rhs; rw [← List.map_id fs]
      exact List.map_congr_left fun u _ => by cases u <;> rfl
    rw [this]
  rw [e1] at hP1 hD1
  refine W.widen (k := cells + 1) (n := 1000 * (cells + 1)) (Nat.le_refl _) (by omega) ?_
  exact kk q H1 locs (o.push hoe) (wn_push o hK hA hP1 hD1 hS1)
/-- a new row of longs -/
theorem wnl {N : Nat} {n : Int32} (C : ev_C p s m args meth c own nm cc nL ret) (Dd : ev_D D aC ad A s H locs h) (o : ok_h h) (hw : Cond.arrayClass .long ∈ bg_tbl) (hd : decode cc pc = .ok (.newarray .long, 2)) (hp : pc + 2 = pc') (hn : ¬ n < 0) (hN : n.toNatClampNeg = N) (hN2 : N ≤ 1000) (hcap : cells + 1 ≤ R.cells ∧ 1000 * cells + 1000 ≤ R.slots)
    (kk : ∀ (q : Nat) (H1 : Heap) (locs1 : List Loc), ok_h (h ++ [.inl (1, N, .inr (.inl (fun _ => 0)))]) → ev_D D aC (va_up ad h.length q) A s H1 locs1 (h ++ [.inl (1, N, .inr (.inl (fun _ => 0)))]) → W p l e R s m args below meth c H1 locs1 (cells + 1) (1000 * (cells + 1)) Q (F0 m pc' ls (.ref q :: rest))) : W p l e R s m args below meth c H locs cells (1000 * cells) Q (F0 m pc ls (.int n :: rest)) := by
  subst hp
  obtain ⟨hx, hb, hr, hml, hown, hts, hlocks, hnm, hNs⟩ := id C
  obtain ⟨hK, hP, hD, hS, hA⟩ := id Dd
  refine va_newa (atype := .long) (ty := .long) (a0 := (N, .inr (.inl (fun _ => 0)))) hx hb (hts _ hw) rfl hK hP hD hS hA (fun cA => rfl) hn hN (by show N * 8 ≤ 536870912; omega) (by omega) (by omega) hd (fun q cA H1 hK1 hP1 hD1 hS1 => ?_)
  have e0 : cA = aC 1 := ev_cA (hK1.2 5 (cA, .long) rfl).2 (hK1.2 1 (aC 1, .long) rfl).2
  subst e0
  refine W.widen (k := cells + 1) (n := 1000 * (cells + 1)) (Nat.le_refl _) (by omega) ?_
  exact kk q H1 locs (o.push (fun f hf => by cases hf)) (wn_push (e0 := .inl (1, N, .inr (.inl (fun _ => 0)))) o hK hA hP1 hD1 hS1)
end DD
