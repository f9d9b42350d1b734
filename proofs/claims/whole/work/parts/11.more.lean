section EO
variable {l : Launch} {d : Nat} {own nm : String} {cc : ByteArray} {nL : Nat} {ret : Option FieldType} {pc pc' : Nat} {lc : ev_L} {st : List Value} {h h' : ev_H} {v : Option Value}
theorem bg_obj1 : Cond.instanceMethod objectInit ∈ bg_tbl := bg_mem 65 (by decide +kernel) rfl
theorem bg_obj2 : Cond.code objectInit ⟨#[0xb1]⟩ 1 none ∈ bg_tbl := bg_mem 66 (by decide +kernel) rfl
theorem bg_int : Cond.arrayClass .int ∈ bg_tbl := bg_mem 112 (by decide +kernel) rfl
theorem bg_bool : Cond.arrayClass .boolean ∈ bg_tbl := bg_mem 956 (by decide +kernel) rfl
theorem bg_cpy1 : Cond.static arraycopyName ∈ bg_tbl := bg_mem 685 (by decide +kernel) rfl
theorem bg_cpy2 : Cond.native arraycopyName ∈ bg_tbl := bg_mem 686 (by decide +kernel) rfl
theorem bg_cpy3 : Cond.initialized "java/lang/System" ∈ bg_tbl := bg_mem 52 (by decide +kernel) rfl
theorem ev_objinit {idx a : Nat} (hw : Cond.methodLink own idx objectInit ∈ bg_tbl) (hd : decode cc pc = .ok (.invokespecial idx, 3)) (hp : pc + 3 = pc') (hd1 : 1 ≤ d) (hcat : (st.map fun v => v.category).sum ≤ 8) (kk : Ev l d own nm cc nL ret pc' lc st h v h') : Ev l d own nm cc nL ret pc lc (.ref a :: st) h v h' := by
  subst hp
  intro o
  obtain ⟨k1, k2, k3, k4⟩ := kk o.tl
  refine ⟨k1, k2, k3, fun p e R s m args below meth c H locs cells mc ls D aC ad A C Dd hl h1 h2 h3 h4 h5 => ?_⟩
  obtain ⟨hx, hb, hr, hml, hown, hts, hlocks, hnm, hN⟩ := id C
  have hrm := lv_room (m := m) (pc := pc) (ls := ls) (rest := (Value.ref a :: st).map (ev_v ad)) (st := st.map (ev_v ad)) (by rw [ev_cats]; exact hcat)
  exact W.objInit hx hb hown (hts _ hw) (hts _ bg_obj1) (hts _ bg_obj2) rfl (by rw [hml]; exact hl.1) rfl hd (by omega) (by omega) (k4 p e R s m args below meth c H locs cells mc ls D aC ad A C Dd hl h1 h2 h3 h4 h5)
theorem ev_copy {idx a b n0 n1 : Nat} {f g : Nat → Int32} {sp dp n : Int32} (hw : Cond.methodLink own idx arraycopyName ∈ bg_tbl) (hd : decode cc pc = .ok (.invokestatic idx, 3)) (hp : pc + 3 = pc') (hd1 : 1 ≤ d) (hcat : (st.map fun v => v.category).sum ≤ 8) (ha : h[a]? = some (.inl (0, n0, .inl f))) (hb' : h[b]? = some (.inl (0, n1, .inl g))) (q1 : ¬ sp < 0) (q2 : ¬ dp < 0) (q3 : ¬ n < 0) (q4 : sp.toNatClampNeg + n.toNatClampNeg ≤ n0) (q5 : dp.toNatClampNeg + n.toNatClampNeg ≤ n1)
    (kk : Ev l d own nm cc nL ret pc' lc st (h.set b (.inl (0, n1, .inl (va_cpy f g sp.toNatClampNeg dp.toNatClampNeg n.toNatClampNeg)))) v h') : Ev l d own nm cc nL ret pc lc (.int n :: .int dp :: .ref b :: .int sp :: .ref a :: st) h v h' := by
  subst hp
  intro o
  have o2 : ok_s (h.set b (.inl (0, n1, .inl (va_cpy f g sp.toNatClampNeg dp.toNatClampNeg n.toNatClampNeg)))) lc st := ⟨o.1.set ok_arr, by rw [List.length_set]; exact o.2.1, by rw [List.length_set]; exact o.tl.tl.tl.tl.tl.2.2⟩
  obtain ⟨k1, k2, k3, k4⟩ := kk o2
  rw [List.length_set] at k3
  refine ⟨k1, k2, k3, fun p e R s m args below meth c H locs cells mc ls D aC ad A C Dd hl h1 h2 h3 h4 h5 => ?_⟩
  obtain ⟨hx, hb, hr, hml, hown, hts, hlocks, hnm, hN⟩ := id C
  obtain ⟨hK, hP, hD, hS, hA⟩ := id Dd
  have hcs : ((st.map (ev_v ad)).map fun v => v.category).sum ≤ 8 := by rw [ev_cats]; exact hcat
  have hnw : nativeFrameWords "java/lang/System" "arraycopy" 5 = 7 := by decide
  refine va_copyi (ty := .int) hx hb (by rw [hml, hl.1]) hown (hts _ hw) (hts _ bg_cpy2) (hts _ bg_cpy1) (hts _ bg_cpy3) hK hP hD hS a b 0 0 (ev_w_get ha) (ev_w_get hb') rfl rfl rfl q1 q2 q3 q4 q5 (fun i _ => rfl) (by omega) (by rw [hnw]; omega) hd (fun H1 locs1 hP1 hD1 hS1 => ?_)
  have e1 : (ad b, (Sum.inl (aC 0, n1, Sum.inl (va_cpy f g sp.toNatClampNeg dp.toNatClampNeg n.toNatClampNeg)) : va_E)) = (ad b, ev_e ad aC (.inl (0, n1, .inl (va_cpy f g sp.toNatClampNeg dp.toNatClampNeg n.toNatClampNeg)))) := rfl
  rw [e1, ev_w_set] at hP1 hD1
  have := k4 p e R s m args below meth c H1 locs1 cells mc ls D aC ad A C ⟨hK, hP1, hD1, hS1, hA⟩ hl h1 h2 h3 h4 (by rw [List.length_set]; exact h5)
  rw [List.length_set] at this
  exact this
end EO
