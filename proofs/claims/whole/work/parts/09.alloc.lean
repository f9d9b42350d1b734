section EN
variable {l : Launch} {d : Nat} {own nm : String} {cc : ByteArray} {nL : Nat} {ret : Option FieldType} {pc pc' : Nat} {lc : ev_L} {st : List Value} {h h' : ev_H} {v : Option Value}
/-- the step behind an allocation: a cell more, at the address q -/
theorem ev_grow {e0 : va_E} (o : ok_s h lc st) (he : ok_e (h.length + 1) e0) (kk : Ev l d own nm cc nL ret pc' lc (.ref h.length :: st) (h ++ [e0]) v h') :
    ok_h h' ∧ (∀ x, v = some x → ok_v h'.length x) ∧ h.length + 1 ≤ h'.length ∧
    ∀ (p : Program) (e : Env) (R : Room) (s : State) (m : MethodId) (args : Array Value) (below : List Frame) (meth : Method) (c : Code) (H1 : Heap) (locs : List Loc) (cells sl mc : Nat) (ls : Array Slot) (D : va_G) (aC ad : Nat → Nat) (A : Nat → Prop) (q : Nat),
    ev_C p s m args meth c own nm cc nL ret → va_K D bg_cl (ev_ty aC) s → va_P D bg_cl (ev_w ad aC h ++ [(q, ev_e (va_up ad h.length q) aC e0)]) H1 → va_D A (ev_w ad aC h ++ [(q, ev_e (va_up ad h.length q) aC e0)]) → va_S A s.heap H1 locs → (∀ q, s.heap.size ≤ q → A q) → ev_h ad ls nL lc →
    d ≤ R.frames → 38 * d ≤ R.locals → mc ≤ R.cells → 1000 * mc ≤ R.slots → cells + h'.length ≤ mc + h.length → sl ≤ 1000 * (cells + 1) →
    W p l e R s m args below meth c H1 locs (cells + 1) sl (MQ below (ev_Q D aC ad h.length A v h') args s mc (1000 * mc) A) (F0 m pc' ls (.ref q :: st.map (ev_v ad))) := by
  have hlen : (h ++ [e0]).length = h.length + 1 := by simp
  have o2 : ok_s (h ++ [e0]) lc (.ref h.length :: st) := by
    refine ⟨o.1.push he, fun i u hu => ?_, fun u hu => ?_⟩
    · rw [hlen]; exact (o.2.1 i u hu).mono (Nat.le_succ _)
    · rw [hlen]
      rcases List.mem_cons.mp hu with rfl | hu
      · exact ok_ref (Nat.lt_succ_self _)
      · exact (o.2.2 u hu).mono (Nat.le_succ _)
  obtain ⟨k1, k2, k3, k4⟩ := kk o2
  rw [hlen] at k3
  refine ⟨k1, k2, k3, fun p e R s m args below meth c H1 locs cells sl mc ls D aC ad A q C hK hP1 hD1 hS1 hA hl h1 h2 h3 h4 h5 h6 => ?_⟩
  have ha : ∀ k, k < h.length → va_up ad h.length q k = ad k := fun k hk => va_up_ne _ _ (Nat.ne_of_lt hk)
  rw [ev_w_push o.1] at hP1 hD1
  refine W.widen (k := cells + 1) (n := 1000 * (cells + 1)) (Nat.le_refl _) h6 ?_
  have K := k4 p e R s m args below meth c H1 locs (cells + 1) mc ls D aC (va_up ad h.length q) A C ⟨hK, hP1, hD1, hS1, hA⟩ (ev_h_agree o.2.1 ha hl) h1 h2 h3 h4 (by rw [hlen]; omega)
  have e2 : (Value.ref h.length :: st).map (ev_v (va_up ad h.length q)) = .ref q :: st.map (ev_v ad) := by
    rw [List.map_cons, ev_st_agree o.2.2 ha]
    show Value.ref (va_up ad h.length q h.length) :: _ = _
    rw [va_up_self]
  rw [e2] at K
  exact W.monoQ (MQ.mono fun oc t hq => ev_Q.mono (by rw [hlen]; exact Nat.le_succ _) ha hq) K
/-- what `new` needs: class number ci, its fresh fields fs -/
def ev_Nw (own : String) (idx ci : Nat) (fs : List Value) : Prop := ∃ (C : String) (T : u_T) (N : Nat) (ty : Nat → FieldType), bg_cl[ci]? = some (C, T, N) ∧ Cond.classLink own idx C ∈ bg_tbl ∧ Cond.instantiable C N ∈ bg_tbl ∧ Cond.initialized C ∈ bg_tbl ∧ (∀ k, k < N → parseFieldDescriptor (T k).2.2.1 = some (ty k)) ∧ (∀ j, j < N → defaultValue (ty j) = vp_V fs j) ∧ N ≤ 1000 ∧ ∀ v ∈ fs, ok_v 0 v
theorem ev_new {idx ci : Nat} {fs : List Value} (hw : ev_Nw own idx ci fs) (hd : decode cc pc = .ok (.new idx, 3)) (hp : pc + 3 = pc') (kk : Ev l d own nm cc nL ret pc' lc (.ref h.length :: st) (h ++ [.inr (ci, fs)]) v h') : Ev l d own nm cc nL ret pc lc st h v h' := by
  subst hp
  intro o
  obtain ⟨Cn, T, N, ty, hc, hcl, hin, hini, hty, hfs, hN, hok⟩ := hw
  have hoe : ok_e (h.length + 1) (.inr (ci, fs)) := fun u hu => (hok u hu).mono (Nat.zero_le _)
  obtain ⟨k1, k2, k3, k4⟩ := ev_grow o hoe kk
  refine ⟨k1, k2, Nat.le_trans (Nat.le_succ _) k3, fun p e R s m args below meth c H locs cells mc ls D aC ad A C Dd hl h1 h2 h3 h4 h5 => ?_⟩
  obtain ⟨hx, hb, hr, hml, hown, hts, hlocks, hnm, hNs⟩ := id C
  obtain ⟨hK, hP, hD, hS, hA⟩ := id Dd
  refine va_new (ci := ci) (fs := fs) (C := Cn) (T := T) (N := N) hx hb hts (bg_clok ci Cn T N hc).1 ty hty hown (hts _ hcl) (hts _ hin) (hts _ hini) hK hP hD hS hA hc hfs (by omega) (by omega) hd (fun q H1 hP1 hD1 hS1 => ?_)
  have e1 : (Sum.inr (ci, fs) : va_E) = ev_e (va_up ad h.length q) aC (.inr (ci, fs)) := by
    show (Sum.inr (ci, fs) : va_E) = Sum.inr (ci, fs.map (ev_v (va_up ad h.length q)))
    rw [ev_st_agree (ad := fun k => k) hok (fun k hk => absurd hk (Nat.not_lt_zero k))]
    have : fs.map (ev_v (fun k => k)) = fs := by
      conv => rhs; rw [← List.map_id fs]
      exact List.map_congr_left fun u _ => by cases u <;> rfl
    rw [this]
  rw [e1] at hP1 hD1
  exact k4 p e R s m args below meth c H1 locs cells _ mc ls D aC ad A q C hK hP1 hD1 hS1 hA hl h1 h2 h3 h4 h5 (by omega)
theorem ev_cA {U : State} {a b : ClassId} {ty : FieldType} (h1 : va_RA U a ty) (h2 : va_RA U b ty) : a = b := by
  cases ty with
  | object C =>
    obtain ⟨_, _, _, _, _, f1⟩ := h1
    obtain ⟨_, _, _, _, _, f2⟩ := h2
    rw [f1] at f2
    exact Option.some.inj f2
  | _ =>
    have f1 : U.vm.findClass _ = some a := h1
    have f2 : U.vm.findClass _ = some b := h2
    rw [f1] at f2
    exact Option.some.inj f2
theorem ev_newI {n : Int32} {N : Nat} (hw : Cond.arrayClass .int ∈ bg_tbl) (hd : decode cc pc = .ok (.newarray .int, 2)) (hp : pc + 2 = pc') (hn : ¬ n < 0) (hN : n.toNatClampNeg = N) (hN2 : N ≤ 1000) (kk : Ev l d own nm cc nL ret pc' lc (.ref h.length :: st) (h ++ [.inl (0, N, .inl (fun _ => 0))]) v h') : Ev l d own nm cc nL ret pc lc (.int n :: st) h v h' := by
  subst hp
  intro o
  obtain ⟨k1, k2, k3, k4⟩ := ev_grow o.tl ok_arr kk
  refine ⟨k1, k2, Nat.le_trans (Nat.le_succ _) k3, fun p e R s m args below meth c H locs cells mc ls D aC ad A C Dd hl h1 h2 h3 h4 h5 => ?_⟩
  obtain ⟨hx, hb, hr, hml, hown, hts, hlocks, hnm, hNs⟩ := id C
  obtain ⟨hK, hP, hD, hS, hA⟩ := id Dd
  refine va_newa (atype := .int) (ty := .int) (a0 := (N, .inl (fun _ => 0))) hx hb (hts _ hw) rfl hK hP hD hS hA (fun cA => rfl) hn hN (by show N * 4 ≤ 536870912; omega) (by omega) (by omega) hd (fun q cA H1 hK1 hP1 hD1 hS1 => ?_)
  have e0 : cA = aC 0 := ev_cA (hK1.2 5 (cA, .int) rfl).2 (hK1.2 0 (aC 0, .int) rfl).2
  subst e0
  exact k4 p e R s m args below meth c H1 locs cells _ mc ls D aC ad A q C hK hP1 hD1 hS1 hA hl h1 h2 h3 h4 h5 (by omega)
theorem ev_newZ {n : Int32} {N : Nat} (hw : Cond.arrayClass .boolean ∈ bg_tbl) (hd : decode cc pc = .ok (.newarray .boolean, 2)) (hp : pc + 2 = pc') (hn : ¬ n < 0) (hN : n.toNatClampNeg = N) (hN2 : N ≤ 1000) (kk : Ev l d own nm cc nL ret pc' lc (.ref h.length :: st) (h ++ [.inl (2, N, .inl (fun _ => 0))]) v h') : Ev l d own nm cc nL ret pc lc (.int n :: st) h v h' := by
  subst hp
  intro o
  obtain ⟨k1, k2, k3, k4⟩ := ev_grow o.tl ok_arr kk
  refine ⟨k1, k2, Nat.le_trans (Nat.le_succ _) k3, fun p e R s m args below meth c H locs cells mc ls D aC ad A C Dd hl h1 h2 h3 h4 h5 => ?_⟩
  obtain ⟨hx, hb, hr, hml, hown, hts, hlocks, hnm, hNs⟩ := id C
  obtain ⟨hK, hP, hD, hS, hA⟩ := id Dd
  refine va_newa (atype := .boolean) (ty := .boolean) (a0 := (N, .inl (fun _ => 0))) hx hb (hts _ hw) rfl hK hP hD hS hA (fun cA => rfl) hn hN (by show N * 1 ≤ 536870912; omega) (by omega) (by omega) hd (fun q cA H1 hK1 hP1 hD1 hS1 => ?_)
  have e0 : cA = aC 2 := ev_cA (hK1.2 5 (cA, .boolean) rfl).2 (hK1.2 2 (aC 2, .boolean) rfl).2
  subst e0
  exact k4 p e R s m args below meth c H1 locs cells _ mc ls D aC ad A q C hK hP1 hD1 hS1 hA hl h1 h2 h3 h4 h5 (by omega)
theorem ok_arrq {n m kd : Nat} : ok_e m (.inl (kd, n, .inr (.inr (.inr (.inr (fun _ => none)))))) := fun g hg j k hk => by cases hg; cases hk
theorem ev_newA {n : Int32} {N kd idx : Nat} {Cn : String} (hkd : (kd = 3 ∧ Cn = RX1) ∨ (kd = 4 ∧ Cn = RX3)) (hw : Cond.classLink own idx Cn ∈ bg_tbl) (hd : decode cc pc = .ok (.anewarray idx, 3)) (hp : pc + 3 = pc') (hn : ¬ n < 0) (hN : n.toNatClampNeg = N) (hN2 : N ≤ 1000) (kk : Ev l d own nm cc nL ret pc' lc (.ref h.length :: st) (h ++ [.inl (kd, N, .inr (.inr (.inr (.inr (fun _ => none)))))]) v h') : Ev l d own nm cc nL ret pc lc (.int n :: st) h v h' := by
  subst hp
  intro o
  obtain ⟨k1, k2, k3, k4⟩ := ev_grow o.tl ok_arrq kk
  refine ⟨k1, k2, Nat.le_trans (Nat.le_succ _) k3, fun p e R s m args below meth c H locs cells mc ls D aC ad A C Dd hl h1 h2 h3 h4 h5 => ?_⟩
  obtain ⟨hx, hb, hr, hml, hown, hts, hlocks, hnm, hNs⟩ := id C
  obtain ⟨hK, hP, hD, hS, hA⟩ := id Dd
  rcases hkd with ⟨rfl, rfl⟩ | ⟨rfl, rfl⟩
  · refine va_newq (C := RX1) hx hb hown (hts _ hw) hNs.2.1 hK hP hD hS hA hn hN (by omega) (by omega) (by omega) hd (fun q cA H1 hK1 hP1 hD1 hS1 => ?_)
    have e0 : cA = aC 3 := ev_cA (hK1.2 5 (cA, .object RX1) rfl).2 (hK1.2 3 (aC 3, .object RX1) rfl).2
    subst e0
    exact k4 p e R s m args below meth c H1 locs cells _ mc ls D aC ad A q C hK hP1 hD1 hS1 hA hl h1 h2 h3 h4 h5 (by omega)
  · refine va_newq (C := RX3) hx hb hown (hts _ hw) hNs.2.2 hK hP hD hS hA hn hN (by omega) (by omega) (by omega) hd (fun q cA H1 hK1 hP1 hD1 hS1 => ?_)
    have e0 : cA = aC 4 := ev_cA (hK1.2 5 (cA, .object RX3) rfl).2 (hK1.2 4 (aC 4, .object RX3) rfl).2
    subst e0
    exact k4 p e R s m args below meth c H1 locs cells _ mc ls D aC ad A q C hK hP1 hD1 hS1 hA hl h1 h2 h3 h4 h5 (by omega)
end EN
