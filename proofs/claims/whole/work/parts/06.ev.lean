/-! A layer of my own over the kit: the heap as a list of cells, a reference is a place in that list (a tag). Ev: from this point of a method, with these locals, this stack and this heap of tags, the method returns v and leaves the heap h'. -/
abbrev ev_H : Type := List va_E
/-- locals by their places: none where nothing is known, or the second half of a long -/
abbrev ev_L : Type := List (Option Value)
def ev_v (ad : Nat → Nat) (v : Value) : Value := match v with
  | .ref k => .ref (ad k)
  | .int x => .int x
  | .long x => .long x
  | .float x => .float x
  | .double x => .double x
  | .null => .null
  | .retAddr x => .retAddr x
def ev_a (ad : Nat → Nat) (a : vp_A) : vp_A := match a.2 with
  | .inr (.inr (.inr (.inr f))) => (a.1, .inr (.inr (.inr (.inr (fun i => (f i).map ad)))))
  | .inr (.inr (.inr (.inl f))) => (a.1, .inr (.inr (.inr (.inl f))))
  | .inr (.inr (.inl f)) => (a.1, .inr (.inr (.inl f)))
  | .inr (.inl f) => (a.1, .inr (.inl f))
  | .inl f => (a.1, .inl f)
def ev_e (ad aC : Nat → Nat) (e : va_E) : va_E := match e with
  | .inl (k, a) => .inl (aC k, ev_a ad a)
  | .inr (ci, fs) => .inr (ci, fs.map (ev_v ad))
def ev_w (ad aC : Nat → Nat) (h : ev_H) : va_W := h.mapIdx (fun i e => (ad i, ev_e ad aC e))
def ev_h (ad : Nat → Nat) (ls : Array Slot) (nL : Nat) (lc : ev_L) : Prop := ls.size = nL ∧ lv_wf ls ∧ ∀ (i : Nat) (v : Value), lc[i]? = some (some v) → ls[i]? = some (.val (ev_v ad v))
def ev_ty (aC : Nat → Nat) : List (ClassId × FieldType) := [(aC 0, .int), (aC 1, .long), (aC 2, .boolean), (aC 3, .object RX1), (aC 4, .object RX3)]
def ok_v (n : Nat) (v : Value) : Prop := ∀ k, v = .ref k → k < n
def ok_e (n : Nat) (e : va_E) : Prop := match e with
  | .inl (_, a) => ∀ f, a.2 = .inr (.inr (.inr (.inr f))) → ∀ i k, f i = some k → k < n
  | .inr (_, fs) => ∀ v ∈ fs, ok_v n v
def ok_h (h : ev_H) : Prop := ∀ e ∈ h, ok_e h.length e
def ok_s (h : ev_H) (lc : ev_L) (st : List Value) : Prop := ok_h h ∧ (∀ (i : Nat) (v : Value), lc[i]? = some (some v) → ok_v h.length v) ∧ ∀ v ∈ st, ok_v h.length v
theorem ok_int (n : Nat) (x : Int32) : ok_v n (.int x) := fun _ h => by cases h
theorem ok_long (n : Nat) (x : Int64) : ok_v n (.long x) := fun _ h => by cases h
theorem ok_null (n : Nat) : ok_v n .null := fun _ h => by cases h
theorem ok_ref {n k : Nat} (h : k < n) : ok_v n (.ref k) := fun j e => by cases e; exact h
theorem ok_v.mono {n m : Nat} {v : Value} (h : ok_v n v) (hn : n ≤ m) : ok_v m v := fun k e => Nat.lt_of_lt_of_le (h k e) hn
theorem ok_e.mono {n m : Nat} {e : va_E} (h : ok_e n e) (hn : n ≤ m) : ok_e m e := by
  cases e with
  | inl x => exact fun f hf i k hk => Nat.lt_of_lt_of_le (h f hf i k hk) hn
  | inr x => exact fun v hv => (h v hv).mono hn
theorem ev_v_cat (ad : Nat → Nat) (v : Value) : (ev_v ad v).category = v.category := by cases v <;> rfl
theorem ev_v_agree {ad ad' : Nat → Nat} {n : Nat} {v : Value} (h : ok_v n v) (ha : ∀ k, k < n → ad' k = ad k) : ev_v ad' v = ev_v ad v := by
  cases v with
  | ref k => show Value.ref (ad' k) = Value.ref (ad k); rw [ha k (h k rfl)]
  | _ => rfl
theorem ev_st_agree {ad ad' : Nat → Nat} {n : Nat} {st : List Value} (h : ∀ v ∈ st, ok_v n v) (ha : ∀ k, k < n → ad' k = ad k) : st.map (ev_v ad') = st.map (ev_v ad) := List.map_congr_left fun v hv => ev_v_agree (h v hv) ha
theorem ev_h_agree {ad ad' : Nat → Nat} {n nL : Nat} {ls : Array Slot} {lc : ev_L} (h : ∀ (i : Nat) (v : Value), lc[i]? = some (some v) → ok_v n v) (ha : ∀ k, k < n → ad' k = ad k) (hl : ev_h ad ls nL lc) : ev_h ad' ls nL lc := ⟨hl.1, hl.2.1, fun i v hi => by rw [ev_v_agree (h i v hi) ha]; exact hl.2.2 i v hi⟩
theorem ev_e_agree {ad ad' aC : Nat → Nat} {n : Nat} {e : va_E} (h : ok_e n e) (ha : ∀ k, k < n → ad' k = ad k) : ev_e ad' aC e = ev_e ad aC e := by
  cases e with
  | inl x =>
    obtain ⟨k, m, a⟩ := x
    rcases a with f | f | f | f | f
    · rfl
    · rfl
    · rfl
    · rfl
    · show (Sum.inl (aC k, (m, Sum.inr (Sum.inr (Sum.inr (Sum.inr (fun i => (f i).map ad')))))) : va_E) = Sum.inl (aC k, (m, Sum.inr (Sum.inr (Sum.inr (Sum.inr (fun i => (f i).map ad))))))
      have : (fun i => (f i).map ad') = (fun i => (f i).map ad) := by
        funext i
        cases hi : f i with
        | none => rfl
        | some j => simp only [Option.map_some]; rw [ha j (h f rfl i j hi)]
      rw [this]
  | inr x =>
    obtain ⟨ci, fs⟩ := x
    show (Sum.inr (ci, fs.map (ev_v ad')) : va_E) = Sum.inr (ci, fs.map (ev_v ad))
    rw [ev_st_agree h ha]
theorem ev_w_get {ad aC : Nat → Nat} {h : ev_H} {k : Nat} {e : va_E} (hk : h[k]? = some e) : (ev_w ad aC h)[k]? = some (ad k, ev_e ad aC e) := by
  simp [ev_w, List.getElem?_mapIdx, hk]
theorem ev_w_get' {ad aC : Nat → Nat} {h : ev_H} {k : Nat} {q : Nat × va_E} (hk : (ev_w ad aC h)[k]? = some q) : ∃ e, h[k]? = some e ∧ q = (ad k, ev_e ad aC e) := by
  simp only [ev_w, List.getElem?_mapIdx] at hk
  cases he : h[k]? with
  | none => rw [he] at hk; cases hk
  | some e => rw [he] at hk; simp only [Option.map_some, Option.some.injEq] at hk; exact ⟨e, rfl, hk.symm⟩
theorem ev_w_set (ad aC : Nat → Nat) (h : ev_H) (k : Nat) (e : va_E) : (ev_w ad aC h).set k (ad k, ev_e ad aC e) = ev_w ad aC (h.set k e) := by
  apply List.ext_getElem?
  intro i
  simp only [ev_w, List.getElem?_set, List.getElem?_mapIdx, List.length_mapIdx]
  by_cases hik : k = i
  · subst hik
    by_cases hl : k < h.length
    · simp [hl]
    · simp [hl]
  · simp [hik]
theorem ev_w_agree {ad ad' aC : Nat → Nat} {h : ev_H} (ho : ok_h h) (ha : ∀ k, k < h.length → ad' k = ad k) : ev_w ad' aC h = ev_w ad aC h := by
  apply List.ext_getElem?
  intro i
  simp only [ev_w, List.getElem?_mapIdx]
  cases he : h[i]? with
  | none => rfl
  | some e =>
    have hl := (List.getElem?_eq_some_iff.mp he).1
    simp only [Option.map_some]
    rw [ha i hl, ev_e_agree (ho e (List.mem_of_getElem? he)) ha]
theorem ev_w_push {ad aC : Nat → Nat} {h : ev_H} (ho : ok_h h) (q : Nat) (e : va_E) : ev_w ad aC h ++ [(q, ev_e (va_up ad h.length q) aC e)] = ev_w (va_up ad h.length q) aC (h ++ [e]) := by
  have e1 : ev_w ad aC h = ev_w (va_up ad h.length q) aC h := (ev_w_agree ho (fun k hk => va_up_ne _ _ (Nat.ne_of_lt hk))).symm
  rw [e1]
  apply List.ext_getElem?
  intro i
  by_cases hi : i < h.length
  · rw [List.getElem?_append_left (by simp [ev_w, hi])]
    simp only [ev_w, List.getElem?_mapIdx]
    rw [List.getElem?_append_left hi]
  · rw [List.getElem?_append_right (by simp [ev_w]; omega)]
    simp only [ev_w, List.getElem?_mapIdx, List.length_mapIdx]
    rw [List.getElem?_append_right (by omega)]
    by_cases hz : i = h.length
    · subst hz
      simp [va_up]
    · have : i - h.length ≠ 0 := by omega
      obtain ⟨j, hj⟩ := Nat.exists_eq_succ_of_ne_zero this
      rw [hj]
      simp
theorem ok_h.push {h : ev_H} (ho : ok_h h) {e : va_E} (he : ok_e (h.length + 1) e) : ok_h (h ++ [e]) := by
  intro x hx
  rw [List.length_append]
  rcases List.mem_append.mp hx with hx | hx
  · exact (ho x hx).mono (Nat.le_add_right _ _)
  · rw [List.mem_singleton.mp hx]; exact he
theorem ok_h.set {h : ev_H} (ho : ok_h h) {k : Nat} {e : va_E} (he : ok_e h.length e) : ok_h (h.set k e) := by
  intro x hx
  rw [List.length_set]
  rcases List.mem_or_eq_of_mem_set hx with hx | rfl
  · exact ho x hx
  · exact he
/-- words of the tables that aren't kept by a call as such: carried by the state -/
def ev_nst : List (String × Nat × MethodName × String) := [(RX5, 11, yX4_init, RX5), (RX5, 31, yX2_init, RX5), (RX5, 38, yX0_init, RX5), (RX5, 43, yX1_init, RX5), (RX0, 73, yX5_isDegree, RX5), (RX5, 120, yX3_init, RX5), (RX4, 115, yX3_init, RX5)]
def ev_N (s : State) : Prop := (∀ q ∈ ev_nst, va_Nw (.methodLinkNest q.1 q.2.1 q.2.2.1 q.2.2.2) s) ∧ va_AO RX1 s ∧ va_AO RX3 s
theorem ev_N.warm {s U : State} (hW : s.WarmedH U.vm) (h : ev_N s) : ev_N U := ⟨fun q hq => (h.1 q hq).warmM hW, h.2.1.moved hW.alike, h.2.2.moved hW.alike⟩
def ev_C (p : Program) (s : State) (m : MethodId) (args : Array Value) (meth : Method) (c : Code) (own nm : String) (cc : ByteArray) (nL : Nat) (ret : Option FieldType) : Prop :=
  p.tables.exec = Jvm.exec ∧ c.code = cc ∧ meth.sig.returnType = ret ∧ c.maxLocals = nL ∧ s.vm.findClass own = some m.cls ∧ (∀ w ∈ bg_tbl, w.before args s = true) ∧ meth.locks = false ∧ meth.name = nm ∧ ev_N s
def ev_D (D : va_G) (aC ad : Nat → Nat) (A : Nat → Prop) (s : State) (H : Heap) (locs : List Loc) (h : ev_H) : Prop :=
  va_K D bg_cl (ev_ty aC) s ∧ va_P D bg_cl (ev_w ad aC h) H ∧ va_D A (ev_w ad aC h) ∧ va_S A s.heap H locs ∧ ∀ q, s.heap.size ≤ q → A q
def ev_Q (D : va_G) (aC ad : Nat → Nat) (n : Nat) (A : Nat → Prop) (v : Option Value) (h' : ev_H) : Array Value → State → Outcome → State → Prop := fun _ st o t =>
  (∃ ad' : Nat → Nat, (∀ k, k < n → ad' k = ad k) ∧ o = .returned (v.map (ev_v ad')) ∧ va_P D bg_cl (ev_w ad' aC h') t.heap ∧ va_D A (ev_w ad' aC h')) ∧ va_F A st t
def Ev (l : Launch) (d : Nat) (own nm : String) (cc : ByteArray) (nL : Nat) (ret : Option FieldType) (pc : Nat) (lc : ev_L) (st : List Value) (h : ev_H) (v : Option Value) (h' : ev_H) : Prop :=
  ok_s h lc st → ok_h h' ∧ (∀ x, v = some x → ok_v h'.length x) ∧ h.length ≤ h'.length ∧
  ∀ (p : Program) (e : Env) (R : Room) (s : State) (m : MethodId) (args : Array Value) (below : List Frame) (meth : Method) (c : Code) (H : Heap) (locs : List Loc) (cells mc : Nat) (ls : Array Slot) (D : va_G) (aC ad : Nat → Nat) (A : Nat → Prop),
    ev_C p s m args meth c own nm cc nL ret → ev_D D aC ad A s H locs h → ev_h ad ls nL lc →
    d ≤ R.frames → 38 * d ≤ R.locals → mc ≤ R.cells → 1000 * mc ≤ R.slots → cells + h'.length ≤ mc + h.length →
    W p l e R s m args below meth c H locs cells (1000 * cells) (MQ below (ev_Q D aC ad h.length A v h') args s mc (1000 * mc) A) (F0 m pc ls (st.map (ev_v ad)))
theorem W.monoQ {p : Program} {l : Launch} {e : Env} {R : Room} {s : State} {m : MethodId} {args : Array Value} {below : List Frame} {meth : Method} {c : Code} {H : Heap} {locs : List Loc} {cells slots : Nat} {Q Q' : State → Prop} {g : JFrame} (h : ∀ t, Q t → Q' t) (k : W p l e R s m args below meth c H locs cells slots Q g) : W p l e R s m args below meth c H locs cells slots Q' g := by
  intro T hT X
  obtain ⟨t, a, b⟩ := k T hT X
  exact ⟨t, a, h t b⟩
theorem MQ.mono {below : List Frame} {Qc Qc' : Array Value → State → Outcome → State → Prop} {a : Array Value} {s : State} {mc ms : Nat} {free : Addr → Prop} (h : ∀ o t, Qc a s o t → Qc' a s o t) : ∀ t, MQ below Qc a s mc ms free t → MQ below Qc' a s mc ms free t := by
  rintro t ⟨o, h1, h2, h3, h4⟩
  exact ⟨o, h1, h2, h _ _ h3, h4⟩
theorem ev_Q.mono {D : va_G} {aC ad ad1 : Nat → Nat} {n n1 : Nat} {A : Nat → Prop} {v : Option Value} {h' : ev_H} {a : Array Value} {st : State} {o : Outcome} {t : State} (hn : n ≤ n1) (ha : ∀ k, k < n → ad1 k = ad k) (h : ev_Q D aC ad1 n1 A v h' a st o t) : ev_Q D aC ad n A v h' a st o t := by
  obtain ⟨⟨ad', h1, h2⟩, h3⟩ := h
  exact ⟨⟨ad', fun k hk => (h1 k (Nat.lt_of_lt_of_le hk hn)).trans (ha k hk), h2⟩, h3⟩
