section EH
variable {l : Launch} {d : Nat} {own nm : String} {cc : ByteArray} {nL : Nat} {ret : Option FieldType} {pc pc' : Nat} {lc : ev_L} {st : List Value} {h h' : ev_H} {v : Option Value}
theorem ev_iret {x : Int32} {ty : FieldType} (hd : decode cc pc = .ok (.ireturn, 1)) (hn : narrow ty (.int x) = .int x) : Ev l d own nm cc nL (some ty) pc lc [.int x] h (some (.int x)) h := by
  intro o
  refine ⟨o.1, fun y hy => by cases hy; exact ok_int _ _, Nat.le_refl _, fun p e R s m args below meth c H locs cells mc ls D aC ad A C Dd hl h1 h2 h3 h4 h5 => ?_⟩
  obtain ⟨hx, hb, hr, -, -, -, hlocks, -⟩ := C
  obtain ⟨-, hP, hD, hS, -⟩ := Dd
  refine W.widen (k := mc) (n := 1000 * mc) (by omega) (by omega) ?_
  exact W.zret hx hb hr hn (fun t ht hW => ⟨⟨ad, fun _ _ => rfl, rfl, by rw [ht]; exact hP, hD⟩, hS.F ht⟩) hS.2.2 hd hlocks
theorem ev_lret {x : Int64} (hd : decode cc pc = .ok (.lreturn, 1)) : Ev l d own nm cc nL (some .long) pc lc [.long x] h (some (.long x)) h := by
  intro o
  refine ⟨o.1, fun y hy => by cases hy; exact ok_long _ _, Nat.le_refl _, fun p e R s m args below meth c H locs cells mc ls D aC ad A C Dd hl h1 h2 h3 h4 h5 => ?_⟩
  obtain ⟨hx, hb, hr, -, -, -, hlocks, -⟩ := C
  obtain ⟨-, hP, hD, hS, -⟩ := Dd
  refine W.widen (k := mc) (n := 1000 * mc) (by omega) (by omega) ?_
  exact W.lret hx hb hr (fun t ht hW => ⟨⟨ad, fun _ _ => rfl, rfl, by rw [ht]; exact hP, hD⟩, hS.F ht⟩) hS.2.2 hd hlocks
theorem ev_aret {x : Value} {n : String} (hd : decode cc pc = .ok (.areturn, 1)) (hv : x = .null ∨ ∃ a, x = .ref a) : Ev l d own nm cc nL (some (.object n)) pc lc [x] h (some x) h := by
  intro o
  refine ⟨o.1, fun y hy => by cases hy; exact o.hd, Nat.le_refl _, fun p e R s m args below meth c H locs cells mc ls D aC ad A C Dd hl h1 h2 h3 h4 h5 => ?_⟩
  obtain ⟨hx, hb, hr, -, -, -, hlocks, -⟩ := C
  obtain ⟨-, hP, hD, hS, -⟩ := Dd
  refine W.widen (k := mc) (n := 1000 * mc) (by omega) (by omega) ?_
  exact W.aret hx hb hr (Or.inl ⟨n, rfl⟩) (hv.elim (fun e => Or.inl (by rw [e]; rfl)) (fun ⟨a, e⟩ => Or.inr ⟨ad a, by rw [e]; rfl⟩)) (fun t ht hW => ⟨⟨ad, fun _ _ => rfl, rfl, by rw [ht]; exact hP, hD⟩, hS.F ht⟩) hS.2.2 hd hlocks
theorem ev_vret (hd : decode cc pc = .ok (.return_, 1)) : Ev l d own nm cc nL none pc lc [] h none h := by
  intro o
  refine ⟨o.1, fun y hy => (by cases hy), Nat.le_refl _, fun p e R s m args below meth c H locs cells mc ls D aC ad A C Dd hl h1 h2 h3 h4 h5 => ?_⟩
  obtain ⟨hx, hb, hr, -, -, -, hlocks, -⟩ := C
  obtain ⟨-, hP, hD, hS, -⟩ := Dd
  refine W.widen (k := mc) (n := 1000 * mc) (by omega) (by omega) ?_
  exact W.vret hx hb hr (fun t ht hW => ⟨⟨ad, fun _ _ => rfl, rfl, by rw [ht]; exact hP, hD⟩, hS.F ht⟩) hS.2.2 hd hlocks
/-- a field's link: class number ci, field number k -/
def ev_F (own : String) (idx ci k : Nat) : Prop := ∃ (C : String) (T : u_T) (N : Nat), bg_cl[ci]? = some (C, T, N) ∧ k < N ∧ Cond.fieldLink own idx C (T k).2.1 (T k).2.2.1 ∈ bg_tbl ∧ (T k).1 = C
def ev_P (own nm : String) (idx ci k : Nat) (ty : FieldType) : Prop := ∃ (C : String) (T : u_T) (N : Nat), bg_cl[ci]? = some (C, T, N) ∧ k < N ∧ Cond.fieldLink own idx C (T k).2.1 (T k).2.2.1 ∈ bg_tbl ∧ (T k).1 = C ∧ parseFieldDescriptor (T k).2.2.1 = some ty ∧ ((T k).2.2.2 = false ∨ ((T k).2.2.2 = true ∧ nm = "<init>" ∧ C = own))
theorem ev_getfield {idx ci k a : Nat} {fs : List Value} {x : Value} (hf : ev_F own idx ci k) (hd : decode cc pc = .ok (.getfield idx, 3)) (hp : pc + 3 = pc') (ho : h[a]? = some (.inr (ci, fs))) (hv : fs[k]? = some x) (kk : Ev l d own nm cc nL ret pc' lc (x :: st) h v h') : Ev l d own nm cc nL ret pc lc (.ref a :: st) h v h' := by
  subst hp
  intro o
  have hox : ok_v h.length x := o.1 _ (List.mem_of_getElem? ho) x (List.mem_of_getElem? hv)
  obtain ⟨k1, k2, k3, k4⟩ := kk (o.tl.cs hox)
  refine ⟨k1, k2, k3, fun p e R s m args below meth c H locs cells mc ls D aC ad A C Dd hl h1 h2 h3 h4 h5 => ?_⟩
  obtain ⟨hx, hb, hr, hml, hown, hts, hlocks, hnm, hN⟩ := id C
  obtain ⟨hK, hP, hD, hS, hA⟩ := id Dd
  obtain ⟨Cn, T, N, hc, hkN, hw, hT⟩ := hf
  refine va_get (D := D) (ci := ci) (v := ev_v ad x) (C := Cn) (T := T) (N := N) hx hb hts (bg_clok ci Cn T N hc).1 hown hK hP a (ev_w_get ho) hc k hkN (hts _ hw) (fun y hy => by rw [hT] at hy; exact hy) (by rw [List.getElem?_map, hv]; rfl) hd ?_
  exact k4 p e R s m args below meth c H locs cells mc ls D aC ad A C Dd hl h1 h2 h3 h4 h5
theorem ev_fits (ad : Nat → Nat) {ty : FieldType} {x : Value} (h : fits ty x = true) : fits ty (ev_v ad x) = true := by
  cases x with
  | ref k => cases ty <;> exact h
  | _ => exact h
theorem ev_narrow (ad : Nat → Nat) {ty : FieldType} {x : Value} (h : narrow ty x = x) : narrow ty (ev_v ad x) = ev_v ad x := by
  cases x with
  | ref k => cases ty <;> rfl
  | _ => exact h
theorem ev_putfield {idx ci k a : Nat} {fs : List Value} {x : Value} {ty : FieldType} (hf : ev_P own nm idx ci k ty) (hd : decode cc pc = .ok (.putfield idx, 3)) (hp : pc + 3 = pc') (ho : h[a]? = some (.inr (ci, fs))) (hn : narrow ty x = x) (hfit : fits ty x = true) (hlen : k < fs.length) (kk : Ev l d own nm cc nL ret pc' lc st (h.set a (.inr (ci, fs.set k x))) v h') : Ev l d own nm cc nL ret pc lc (x :: .ref a :: st) h v h' := by
  subst hp
  intro o
  have hoe : ok_e h.length (.inr (ci, fs.set k x)) := by
    intro y hy
    rcases List.mem_or_eq_of_mem_set hy with hy | rfl
    · exact o.1 _ (List.mem_of_getElem? ho) y hy
    · exact o.hd
  have o2 : ok_s (h.set a (.inr (ci, fs.set k x))) lc st := ⟨o.1.set hoe, by rw [List.length_set]; exact o.2.1, by rw [List.length_set]; exact o.tl.tl.2.2⟩
  obtain ⟨k1, k2, k3, k4⟩ := kk o2
  rw [List.length_set] at k3
  refine ⟨k1, k2, k3, fun p e R s m args below meth c H locs cells mc ls D aC ad A C Dd hl h1 h2 h3 h4 h5 => ?_⟩
  obtain ⟨hx, hb, hr, hml, hown, hts, hlocks, hnm, hN⟩ := id C
  obtain ⟨hK, hP, hD, hS, hA⟩ := id Dd
  obtain ⟨Cn, T, N, hc, hkN, hw, hT, hty, hfin⟩ := hf
  obtain ⟨hin, ty0, hty0, hnms⟩ := bg_clok ci Cn T N hc
  have fin : ∀ (H1 : Heap) (locs1 : List Loc), va_P D bg_cl ((ev_w ad aC h).set a (ad a, .inr (ci, (fs.map (ev_v ad)).set k (ev_v ad x)))) H1 → va_D A ((ev_w ad aC h).set a (ad a, .inr (ci, (fs.map (ev_v ad)).set k (ev_v ad x)))) → va_S A s.heap H1 locs1 → W p l e R s m args below meth c H1 locs1 cells (1000 * cells) (MQ below (ev_Q D aC ad h.length A v h') args s mc (1000 * mc) A) (F0 m (pc + 3) ls (st.map (ev_v ad))) := by
    intro H1 locs1 hP1 hD1 hS1
    have e1 : (ad a, (Sum.inr (ci, (fs.map (ev_v ad)).set k (ev_v ad x)) : va_E)) = (ad a, ev_e ad aC (.inr (ci, fs.set k x))) := by
      show (ad a, (Sum.inr (ci, (fs.map (ev_v ad)).set k (ev_v ad x)) : va_E)) = (ad a, Sum.inr (ci, (fs.set k x).map (ev_v ad)))
      rw [List.map_set]
    rw [e1, ev_w_set] at hP1 hD1
    have := k4 p e R s m args below meth c H1 locs1 cells mc ls D aC ad A C ⟨hK, hP1, hD1, hS1, hA⟩ hl h1 h2 h3 h4 (by rw [List.length_set]; exact h5)
    rw [List.length_set] at this
    exact this
  rcases hfin with hfin | ⟨hfin, hi, hco⟩
  · exact va_put (D := D) (ci := ci) (v := ev_v ad x) (ty := ty) (C := Cn) (T := T) (N := N) hx hb hts hin ty0 hty0 hnms hown hK hP hD hS a (ev_w_get ho) hc k hkN (hts _ hw) (fun y hy => by rw [hT] at hy; exact hy) hfin hty (ev_narrow ad hn) (ev_fits ad hfit) (by rw [List.length_map]; exact hlen) hd fin
  · exact va_putF (D := D) (ci := ci) (v := ev_v ad x) (ty := ty) (C := Cn) (T := T) (N := N) hx hb hts hin ty0 hty0 hnms hown hK hP hD hS a (ev_w_get ho) hc k hkN (hts _ hw) (fun y hy => by rw [hT] at hy; exact hy) hfin (by rw [hnm]; exact hi) (by rw [hT]; exact hco) hty (ev_narrow ad hn) (ev_fits ad hfit) (by rw [List.length_map]; exact hlen) hd fin
theorem ev_iaload {a n : Nat} {f : Nat → Int32} {i : Int32} (hd : decode cc pc = .ok (.iaload, 1)) (hp : pc + 1 = pc') (ho : h[a]? = some (.inl (0, n, .inl f))) (hin : vp_in i n) (kk : Ev l d own nm cc nL ret pc' lc (.int (f i.toNatClampNeg) :: st) h v h') : Ev l d own nm cc nL ret pc lc (.int i :: .ref a :: st) h v h' := by
  subst hp
  intro o
  obtain ⟨k1, k2, k3, k4⟩ := kk (o.tl.tl.cs (ok_int _ _))
  refine ⟨k1, k2, k3, fun p e R s m args below meth c H locs cells mc ls D aC ad A C Dd hl h1 h2 h3 h4 h5 => ?_⟩
  exact va_iald C.1 C.2.1 Dd.1 Dd.2.1 a 0 (ev_w_get ho) rfl hin hd (k4 p e R s m args below meth c H locs cells mc ls D aC ad A C Dd hl h1 h2 h3 h4 h5)
theorem ev_baload {a n : Nat} {f : Nat → Int32} {i : Int32} (hd : decode cc pc = .ok (.baload, 1)) (hp : pc + 1 = pc') (ho : h[a]? = some (.inl (2, n, .inl f))) (hin : vp_in i n) (kk : Ev l d own nm cc nL ret pc' lc (.int (f i.toNatClampNeg) :: st) h v h') : Ev l d own nm cc nL ret pc lc (.int i :: .ref a :: st) h v h' := by
  subst hp
  intro o
  obtain ⟨k1, k2, k3, k4⟩ := kk (o.tl.tl.cs (ok_int _ _))
  refine ⟨k1, k2, k3, fun p e R s m args below meth c H locs cells mc ls D aC ad A C Dd hl h1 h2 h3 h4 h5 => ?_⟩
  exact va_zald C.1 C.2.1 Dd.1 Dd.2.1 a 2 (ev_w_get ho) rfl hin hd (k4 p e R s m args below meth c H locs cells mc ls D aC ad A C Dd hl h1 h2 h3 h4 h5)
theorem ev_rf (ad : Nat → Nat) (r : Option Nat) : ev_v ad (va_rf r) = va_rf (r.map ad) := by cases r <;> rfl
theorem ev_aaload {a n kd : Nat} {f : Nat → Option Nat} {i : Int32} (hkd : kd = 3 ∨ kd = 4) (hd : decode cc pc = .ok (.aaload, 1)) (hp : pc + 1 = pc') (ho : h[a]? = some (.inl (kd, n, .inr (.inr (.inr (.inr f)))))) (hin : vp_in i n) (kk : Ev l d own nm cc nL ret pc' lc (va_rf (f i.toNatClampNeg) :: st) h v h') : Ev l d own nm cc nL ret pc lc (.int i :: .ref a :: st) h v h' := by
  subst hp
  intro o
  have hox : ok_v h.length (va_rf (f i.toNatClampNeg)) := by
    cases hfi : f i.toNatClampNeg with
    | none => exact ok_null _
    | some j => exact ok_ref (o.1 _ (List.mem_of_getElem? ho) f rfl _ _ hfi)
  obtain ⟨k1, k2, k3, k4⟩ := kk (o.tl.tl.cs hox)
  refine ⟨k1, k2, k3, fun p e R s m args below meth c H locs cells mc ls D aC ad A C Dd hl h1 h2 h3 h4 h5 => ?_⟩
  have K := k4 p e R s m args below meth c H locs cells mc ls D aC ad A C Dd hl h1 h2 h3 h4 h5
  rw [List.map_cons, ev_rf] at K
  rcases hkd with rfl | rfl
  · exact va_aldq C.1 C.2.1 Dd.1 Dd.2.1 a 3 (ev_w_get ho) rfl hin hd K
  · exact va_aldq C.1 C.2.1 Dd.1 Dd.2.1 a 4 (ev_w_get ho) rfl hin hd K
theorem ok_arr {n m kd : Nat} {f : Nat → Int32} : ok_e m (.inl (kd, n, .inl f)) := fun g hg => by cases hg
theorem ev_iastore {a n : Nat} {f : Nat → Int32} {i x : Int32} (hd : decode cc pc = .ok (.iastore, 1)) (hp : pc + 1 = pc') (ho : h[a]? = some (.inl (0, n, .inl f))) (hin : vp_in i n) (kk : Ev l d own nm cc nL ret pc' lc st (h.set a (.inl (0, n, .inl (upd f i.toNatClampNeg x)))) v h') : Ev l d own nm cc nL ret pc lc (.int x :: .int i :: .ref a :: st) h v h' := by
  subst hp
  intro o
  have o2 : ok_s (h.set a (.inl (0, n, .inl (upd f i.toNatClampNeg x)))) lc st := ⟨o.1.set ok_arr, by rw [List.length_set]; exact o.2.1, by rw [List.length_set]; exact o.tl.tl.tl.2.2⟩
  obtain ⟨k1, k2, k3, k4⟩ := kk o2
  rw [List.length_set] at k3
  refine ⟨k1, k2, k3, fun p e R s m args below meth c H locs cells mc ls D aC ad A C Dd hl h1 h2 h3 h4 h5 => ?_⟩
  obtain ⟨hK, hP, hD, hS, hA⟩ := id Dd
  refine va_iast C.1 C.2.1 hK hP hD hS a 0 (ev_w_get ho) rfl hin hd (fun H1 locs1 hP1 hD1 hS1 => ?_)
  have e1 : (ad a, (Sum.inl (aC 0, n, Sum.inl (upd f i.toNatClampNeg x)) : va_E)) = (ad a, ev_e ad aC (.inl (0, n, .inl (upd f i.toNatClampNeg x)))) := rfl
  rw [e1, ev_w_set] at hP1 hD1
  have := k4 p e R s m args below meth c H1 locs1 cells mc ls D aC ad A C ⟨hK, hP1, hD1, hS1, hA⟩ hl h1 h2 h3 h4 (by rw [List.length_set]; exact h5)
  rw [List.length_set] at this
  exact this
theorem ev_bastore {a n : Nat} {f : Nat → Int32} {i x : Int32} (hd : decode cc pc = .ok (.bastore, 1)) (hp : pc + 1 = pc') (ho : h[a]? = some (.inl (2, n, .inl f))) (hin : vp_in i n) (kk : Ev l d own nm cc nL ret pc' lc st (h.set a (.inl (2, n, .inl (upd f i.toNatClampNeg (vp_nar .boolean x))))) v h') : Ev l d own nm cc nL ret pc lc (.int x :: .int i :: .ref a :: st) h v h' := by
  subst hp
  intro o
  have o2 : ok_s (h.set a (.inl (2, n, .inl (upd f i.toNatClampNeg (vp_nar .boolean x))))) lc st := ⟨o.1.set ok_arr, by rw [List.length_set]; exact o.2.1, by rw [List.length_set]; exact o.tl.tl.tl.2.2⟩
  obtain ⟨k1, k2, k3, k4⟩ := kk o2
  rw [List.length_set] at k3
  refine ⟨k1, k2, k3, fun p e R s m args below meth c H locs cells mc ls D aC ad A C Dd hl h1 h2 h3 h4 h5 => ?_⟩
  obtain ⟨hK, hP, hD, hS, hA⟩ := id Dd
  refine va_zast C.1 C.2.1 hK hP hD hS a 2 (ev_w_get ho) rfl hin hd (fun H1 locs1 hP1 hD1 hS1 => ?_)
  have e1 : (ad a, (Sum.inl (aC 2, n, Sum.inl (upd f i.toNatClampNeg (vp_nar .boolean x))) : va_E)) = (ad a, ev_e ad aC (.inl (2, n, .inl (upd f i.toNatClampNeg (vp_nar .boolean x))))) := rfl
  rw [e1, ev_w_set] at hP1 hD1
  have := k4 p e R s m args below meth c H1 locs1 cells mc ls D aC ad A C ⟨hK, hP1, hD1, hS1, hA⟩ hl h1 h2 h3 h4 (by rw [List.length_set]; exact h5)
  rw [List.length_set] at this
  exact this
theorem ev_aastore {a n kd ci b : Nat} {f : Nat → Option Nat} {fs : List Value} {i : Int32} (hkd : (kd = 3 ∧ ci = 1) ∨ (kd = 4 ∧ ci = 3)) (hd : decode cc pc = .ok (.aastore, 1)) (hp : pc + 1 = pc') (ho : h[a]? = some (.inl (kd, n, .inr (.inr (.inr (.inr f)))))) (hob : h[b]? = some (.inr (ci, fs))) (hin : vp_in i n) (kk : Ev l d own nm cc nL ret pc' lc st (h.set a (.inl (kd, n, .inr (.inr (.inr (.inr (va_up f i.toNatClampNeg (some b)))))))) v h') : Ev l d own nm cc nL ret pc lc (.ref b :: .int i :: .ref a :: st) h v h' := by
  subst hp
  intro o
  have hoe : ok_e h.length (.inl (kd, n, .inr (.inr (.inr (.inr (va_up f i.toNatClampNeg (some b))))))) := by
    intro g hg j k hk
    cases hg
    by_cases hj : j = i.toNatClampNeg
    · subst hj
      rw [va_up_self] at hk
      cases hk
      exact (List.getElem?_eq_some_iff.mp hob).1
    · rw [va_up_ne _ _ hj] at hk
      exact o.1 _ (List.mem_of_getElem? ho) f rfl _ _ hk
  have o2 : ok_s (h.set a (.inl (kd, n, .inr (.inr (.inr (.inr (va_up f i.toNatClampNeg (some b)))))))) lc st := ⟨o.1.set hoe, by rw [List.length_set]; exact o.2.1, by rw [List.length_set]; exact o.tl.tl.tl.2.2⟩
  obtain ⟨k1, k2, k3, k4⟩ := kk o2
  rw [List.length_set] at k3
  refine ⟨k1, k2, k3, fun p e R s m args below meth c H locs cells mc ls D aC ad A C Dd hl h1 h2 h3 h4 h5 => ?_⟩
  obtain ⟨hK, hP, hD, hS, hA⟩ := id Dd
  have fin : ∀ (H1 : Heap) (locs1 : List Loc), va_P D bg_cl ((ev_w ad aC h).set a (ad a, .inl (aC kd, n, .inr (.inr (.inr (.inr (va_up (fun i => (f i).map ad) i.toNatClampNeg (some (ad b))))))))) H1 → va_D A ((ev_w ad aC h).set a (ad a, .inl (aC kd, n, .inr (.inr (.inr (.inr (va_up (fun i => (f i).map ad) i.toNatClampNeg (some (ad b))))))))) → va_S A s.heap H1 locs1 → W p l e R s m args below meth c H1 locs1 cells (1000 * cells) (MQ below (ev_Q D aC ad h.length A v h') args s mc (1000 * mc) A) (F0 m (pc + 1) ls (st.map (ev_v ad))) := by
    intro H1 locs1 hP1 hD1 hS1
    have e0 : va_up (fun i => (f i).map ad) i.toNatClampNeg (some (ad b)) = fun j => (va_up f i.toNatClampNeg (some b) j).map ad := by
      funext j
      by_cases hj : j = i.toNatClampNeg
      · subst hj; rw [va_up_self, va_up_self]; rfl
      · rw [va_up_ne _ _ hj, va_up_ne _ _ hj]
    have e1 : (ad a, (Sum.inl (aC kd, n, Sum.inr (Sum.inr (Sum.inr (Sum.inr (va_up (fun i => (f i).map ad) i.toNatClampNeg (some (ad b))))))) : va_E)) = (ad a, ev_e ad aC (.inl (kd, n, .inr (.inr (.inr (.inr (va_up f i.toNatClampNeg (some b)))))))) := by
      rw [e0]; rfl
    rw [e1, ev_w_set] at hP1 hD1
    have := k4 p e R s m args below meth c H1 locs1 cells mc ls D aC ad A C ⟨hK, hP1, hD1, hS1, hA⟩ hl h1 h2 h3 h4 (by rw [List.length_set]; exact h5)
    rw [List.length_set] at this
    exact this
  rcases hkd with ⟨rfl, rfl⟩ | ⟨rfl, rfl⟩
  · exact va_astq C.1 C.2.1 hK hP hD hS a 3 b 1 (r := (RX1, TX1, 5)) (ev_w_get ho) rfl (ev_w_get hob) rfl hin hd fin
  · exact va_astq C.1 C.2.1 hK hP hD hS a 4 b 3 (r := (RX3, TX3, 12)) (ev_w_get ho) rfl (ev_w_get hob) rfl hin hd fin
end EH
