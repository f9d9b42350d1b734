section DF
/-! what throws: which words it needs, and where they come from -/
def nmS : List String := ["java/lang/RuntimeException", "java/lang/Exception"]
abbrev eIS : String := "java/lang/IllegalStateException"
abbrev eIA : String := "java/lang/IllegalArgumentException"
abbrev eUO : String := "java/lang/UnsupportedOperationException"
def xc_all : List Cond := vx_atS RX5 299 eIS nmS ++ (vx_atS RX5 292 eIA nmS ++ vx_atS RX5 341 eUO nmS)
def xc_bad : List Cond := xc_all.filter (fun w => !goodWord w)
def xc_cd : Cond → Bool
  | .castable _ _ => true
  | .declares _ => true
  | _ => false
theorem xc_in : ∀ w ∈ xc_all, w ∈ lw_tbl := by decide +kernel
theorem xc_bad_cd : ∀ w ∈ xc_bad, xc_cd w = true := by decide +kernel
theorem xc_ot {w : Cond} (h : xc_cd w = true) : w.onTables = true := by
  cases w <;> first | rfl | exact absurd h Bool.false_ne_true
theorem bg_of {w : Cond} (h : w ∈ lw_tbl) (g : goodWord w = true) : w ∈ bg_tbl := List.mem_filter.mpr ⟨h, g⟩
def XS (U : State) : Prop := (∀ w ∈ xc_bad, va_Nw w U) ∧ (∃ a, vk_R RX5 335 "a ship's failure" a U) ∧ (∃ a, vk_R RX5 337 "a settled one's failure" a U) ∧ (∃ a, vk_R RX5 339 "a traveller's failure" a U) ∧ (∃ a, vk_R RX5 290 "no such shelf" a U) ∧ (∃ a, vk_R RX5 297 "no row, or no such place in it" a U) ∧ va_Nc eIS eUO U ∧ va_Nc eIA eUO U ∧ va_Nc eIA eIS U ∧ va_Nc eIS eIA U
theorem XS.warm {s U : State} (hW : s.WarmedH U.vm) (h : XS s) : XS U := by
  obtain ⟨h1, ⟨a1, s1⟩, ⟨a2, s2⟩, ⟨a3, s3⟩, ⟨a4, s4⟩, ⟨a5, s5⟩, n1, n2, n3, n4⟩ := h
  refine ⟨fun w hw => ?_, ⟨a1, vk_R.warm hW s1⟩, ⟨a2, vk_R.warm hW s2⟩, ⟨a3, vk_R.warm hW s3⟩, ⟨a4, vk_R.warm hW s4⟩, ⟨a5, vk_R.warm hW s5⟩, n1.moved hW.alike, n2.moved hW.alike, n3.moved hW.alike, n4.moved hW.alike⟩
  have hc := xc_bad_cd w hw
  have hz := h1 w hw
  cases w <;> first | exact va_Nw.warmC hW hz | exact va_Nw.warmD hW hz | exact absurd hc Bool.false_ne_true
def XZ (A : Nat → Prop) (U : State) (H : Heap) : Prop := vx_Zq Bundle.tN "UNASSIGNED_STACK" Bundle.steD A U H ∧ vx_Zq Bundle.tN "SUPPRESSED_SENTINEL" Bundle.listD A U H
theorem XS.word {U : State} {args : Array Value} (hts : ∀ w ∈ bg_tbl, w.before args U = true) (h : XS U) : ∀ w ∈ xc_all, w.before args U = true := by
  intro w hw
  by_cases g : goodWord w = true
  · exact hts w (bg_of (xc_in w hw) g)
  · have hb : w ∈ xc_bad := List.mem_filter.mpr ⟨hw, by simp [g]⟩
    exact (h.1 w hb).use (xc_ot (xc_bad_cd w hb))
def xPc (D : va_G) (aC ad : Nat → Nat) (h : ev_H) (As : List Value) (sz : Nat) : Array Value → State → Prop := va_Pc (As.map (ev_v ad)) (fun U => U.heap.size = sz ∧ va_P D bg_cl (ev_w ad aC h) U.heap ∧ va_K D bg_cl (ev_ty aC) U ∧ va_D (fun _ => True) (ev_w ad aC h) ∧ ev_N U ∧ XS U ∧ XZ (va_A (ev_w ad aC h) sz) U U.heap)
theorem xblind {D : va_G} {aC ad : Nat → Nat} {h : ev_H} {As : List Value} {sz : Nat} : FrameBlind (xPc D aC ad h As sz) := by
  intro a U g mk q
  obtain ⟨q0, q1, qP, qK, qD, qN, qX, qZ1, qZ2⟩ := q
  exact ⟨q0, q1, qP, va_K.moved (u := U) (U := U.calling g mk a) (Vm.Alike.refl U.vm) qK, qD, ⟨fun x hx => (qN.1 x hx).same rfl rfl, qN.2.1.moved (u := U) (U := U.calling g mk a) (Vm.Alike.refl U.vm), qN.2.2.moved (u := U) (U := U.calling g mk a) (Vm.Alike.refl U.vm)⟩, XS.warm (s := U) (U := U.calling g mk a) (State.WarmedH.refl U) qX, vx_Zq.moved (u := U) (U := U.calling g mk a) (Vm.Alike.refl U.vm) qZ1, vx_Zq.moved (u := U) (U := U.calling g mk a) (Vm.Alike.refl U.vm) qZ2⟩
def xXC (D : va_G) (aC ad : Nat → Nat) (h : ev_H) (E0 : String) (A : Nat → Prop) : String → State → State → Prop := vx_X (S := Unit) (fun _ => True) (fun E _ t => E = E0 ∧ va_P D bg_cl (ev_w ad aC h) t.heap) A
end DF
section DG
variable {p : Program} {l : Launch} {e : Env} {R : Room} {s : State} {m : MethodId} {args : Array Value} {below : List Frame} {meth : Method} {c : Code} {H : Heap} {locs : List Loc} {cells slots : Nat} {Q : State → Prop} {ls : Array Slot} {pc pc' : Nat} {nm : String} {cc : ByteArray} {nL : Nat} {ret : Option FieldType} {D : va_G} {aC ad : Nat → Nat} {A : Nat → Prop} {h h1 : ev_H} {rest : List Value} {Qc : Array Value → State → Outcome → State → Prop} {free : Addr → Prop} {mc ms : Nat}
/-- 'throw new cls(text)' in the class -/
theorem x_thr {ik is ic sa : Nat} {cls text : String} (C : ev_C p s m args meth c RX5 nm cc nL ret) (Dd : ev_D D aC ad A s H locs h) (hX : XS s) (hZ : XZ A s s.heap) (hl : l.stackTraces = false) (hstr : vk_R RX5 is text sa s) (w1 : Cond.classLink RX5 ik cls ∈ bg_tbl) (w2 : Cond.initialized cls ∈ bg_tbl) (ws : ∀ w ∈ vx_atS RX5 ic cls nmS, w ∈ xc_all) (wo : ∀ w ∈ Cond.classLink RX5 ik cls :: Cond.initialized cls :: vx_atS RX5 ic cls nmS, vx_ot w = true) (wf : Bundle.fit cls = true ∧ ∀ n ∈ nmS, Bundle.fit n = true) (hsz : ls.size = nL)
    (d0 : decode cc pc = .ok (.new ik, 3)) (d3 : decode cc (pc + 3) = .ok (.dup, 1)) (d4 : decode cc (pc + 4) = .ok (.ldc_w is, 3)) (d7 : decode cc (pc + 7) = .ok (.invokespecial ic, 3)) (d10 : decode cc (pc + 10) = .ok (.athrow, 1)) (hout : ∀ x ∈ c.exceptionTable.toList, covers x (pc + 10) = false) (hfr : 6 ≤ R.frames) (hlo : (rest.map fun v => v.category).sum + 82 ≤ R.locals) (hcap : cells + 1 ≤ R.cells ∧ slots + 6 ≤ R.slots) (hf : ∀ z ∈ locs, free z.base) (hc : cells + 1 ≤ mc) (hs : slots + 6 ≤ ms) :
    W p l e R s m args below meth c H locs cells slots (vx_MQ below Qc (xXC D aC ad h cls A) args s mc ms free) (F0 m pc ls rest) := by
  obtain ⟨hx, hb, hr, hml, hown, hts, hlocks, hnm, hN⟩ := id C
  obtain ⟨hK, hP, hD, hS, hA⟩ := id Dd
  refine vx_throwSW (A := A) (names := nmS) (sa := sa) (text := text) hx hb hl hown wf.1 wf.2 (hts _ w1) (hts _ w2) hstr (fun w hw => hX.word hts w (ws w hw)) wo hZ.1 hZ.2 hS (by rw [hsz, hml]) d0 d3 d4 d7 d10 hout (show 2 + 3 < R.frames by omega) (show _ + (13 * (2 + 1) + 43) ≤ R.locals by omega) hcap.1 hcap.2 hlocks (fun t hvm hz hq => ?_) hf hc hs
  refine ⟨(), trivial, ⟨rfl, hP.kept (fun k q hk => hq q.1 (hP k q hk).lt)⟩, Nat.le_trans hS.1 hz, fun q h1 h2 => ?_⟩
  rw [hq q (Nat.lt_of_lt_of_le h1 hS.1)]
  exact hS.2.1 q h1 h2
theorem w_is : Cond.classLink RX5 295 eIS ∈ bg_tbl ∧ Cond.initialized eIS ∈ bg_tbl := ⟨bg_of (by decide +kernel) rfl, bg_of (by decide +kernel) rfl⟩
theorem w_ia : Cond.classLink RX5 288 eIA ∈ bg_tbl ∧ Cond.initialized eIA ∈ bg_tbl := ⟨bg_of (by decide +kernel) rfl, bg_of (by decide +kernel) rfl⟩
theorem w_uo : Cond.classLink RX5 329 eUO ∈ bg_tbl ∧ Cond.initialized eUO ∈ bg_tbl := ⟨bg_of (by decide +kernel) rfl, bg_of (by decide +kernel) rfl⟩
theorem o_is : ∀ w ∈ Cond.classLink RX5 295 eIS :: Cond.initialized eIS :: vx_atS RX5 299 eIS nmS, vx_ot w = true := by decide +kernel
theorem o_ia : ∀ w ∈ Cond.classLink RX5 288 eIA :: Cond.initialized eIA :: vx_atS RX5 292 eIA nmS, vx_ot w = true := by decide +kernel
theorem o_uo : ∀ w ∈ Cond.classLink RX5 329 eUO :: Cond.initialized eUO :: vx_atS RX5 341 eUO nmS, vx_ot w = true := by decide +kernel
theorem f_is : Bundle.fit eIS = true ∧ ∀ n ∈ nmS, Bundle.fit n = true := by decide +kernel
theorem f_ia : Bundle.fit eIA = true ∧ ∀ n ∈ nmS, Bundle.fit n = true := by decide +kernel
theorem f_uo : Bundle.fit eUO = true ∧ ∀ n ∈ nmS, Bundle.fit n = true := by decide +kernel
theorem s_is : ∀ w ∈ vx_atS RX5 299 eIS nmS, w ∈ xc_all := fun w hw => List.mem_append_left _ hw
theorem s_ia : ∀ w ∈ vx_atS RX5 292 eIA nmS, w ∈ xc_all := fun w hw => List.mem_append_right _ (List.mem_append_left _ hw)
theorem s_uo : ∀ w ∈ vx_atS RX5 341 eUO nmS, w ∈ xc_all := fun w hw => List.mem_append_right _ (List.mem_append_right _ hw)
/-- the class by which a traveller's failure is told -/
def exT (ki : Int) : String := if ki = 4 then eIS else if ki = 6 then eIA else eUO
theorem x_tf (hl : l.stackTraces = false) {t : Nat} {nu ki ho sy le ea ch : Int} {r1 r2 r3 r4 r5 : Nat} (hT : h[t]? = some (cTr nu ki ho sy le ea ch r1 r2 r3 r4 r5)) (hle : 0 < le ∧ le ≤ 6) (hki : 0 ≤ ki ∧ ki ≤ 7) (k3 : ki ≠ 3) (k7 : ki ≠ 7) (D : va_G) (aC ad : Nat → Nat) (sz : Nat) :
    vx_Met l yX5_throwFailure (Cond.code yX5_throwFailure cX5_throwFailure 1 none :: bg_tbl) { frames := 6, cells := 1, slots := 1000, locals := 100 } (xPc D aC ad h [.ref t] sz) (va_Qv (S := Unit) (fun _ => False) (fun _ _ => True) (va_A (ev_w ad aC h) sz)) (xXC D aC ad h (exT ki) (va_A (ev_w ad aC h) sz)) 1 1000 (va_A (ev_w ad aC h) sz) := by
  refine vx_ofW (cc := cX5_throwFailure) (maxL := 1) (ret := none) (by decide) rfl ?_
  intro p e s m args below meth c s₁ B hml ht hv
  obtain ⟨rfl, hsz, hP, hK, hD0, hN, hX, hZ⟩ := hv
  have hts := atoms_spec (ws := Cond.code yX5_throwFailure cX5_throwFailure 1 none :: bg_tbl) B.pre
  have hown : s.vm.findClass RX5 = some m.cls := findClass_of_methodNamed B.named
  have hnm := (name_of_methodNamed B.named B.method).1
  subst hsz
  have C : ev_C p s m ([Value.ref t].map (ev_v ad)).toArray meth c RX5 yX5_throwFailure.name cX5_throwFailure 1 none := ⟨B.exec, B.bytes, B.returns, hml, hown, fun w hw => hts w (List.mem_cons_of_mem _ hw), B.notSynchronized, hnm, hN⟩
  have Dd : ev_D D aC ad (va_A (ev_w ad aC h) s.heap.size) s s.heap [] h := ⟨hK, hP, hD0.self, va_S.rf, fun q hq => Or.inr hq⟩
  rw [lg_entry_eq]
  have hl0 := lv_entry ([Value.ref t].map (ev_v ad)) (n := 1) (Nat.le_of_ble_eq_true rfl)
  generalize (lg_sl ([Value.ref t].map (ev_v ad)) ++ List.replicate (1 - (lg_sl ([Value.ref t].map (ev_v ad))).length) Slot.unset).toArray = ls at hl0 ⊢
  have hl0 : lv_has ls 1 [(0, .ref (ad t))] := hl0
  have ho : ∀ q, ∀ x ∈ c.exceptionTable.toList, covers x q = false := fun q x hx => (ht x hx).elim
  obtain ⟨-, ⟨a1, s1⟩, ⟨a2, s2⟩, ⟨a3, s3⟩, -⟩ := id hX
  refine lv_aload_n C.1 C.2.1 dX5_throwFailure_0 rfl (lv_at hl0 0 rfl) ?_
  refine wg (pc' := 4) C Dd fX5_141 dX5_throwFailure_1 rfl hT rfl ?_
  refine lv_if_ne (tgt := 8) C.1 C.2.1 dX5_throwFailure_4 (by decide) (fun _ => ?_) (fun q => absurd ((iI_eq (b := 0) (by omega) (by decide)).mp q) (by omega))
  refine lv_aload_n C.1 C.2.1 dX5_throwFailure_8 rfl (lv_at hl0 0 rfl) ?_
  refine wg (pc' := 12) C Dd fX5_124 dX5_throwFailure_9 rfl hT rfl ?_
  have hto := iI_toInt (a := ki) (by omega)
  by_cases c4 : ki = 4
  · subst c4
    refine lv_tableIn (off := 37) (tgt := 49) C.1 C.2.1 dX5_throwFailure_12 (by decide) (by decide) (by decide) (by decide) ?_
    exact x_thr C Dd hX hZ hl s1 w_is.1 w_is.2 s_is o_is f_is hl0.1 dX5_throwFailure_49 dX5_throwFailure_52 dX5_throwFailure_53 dX5_throwFailure_56 dX5_throwFailure_59 (ho _) (Nat.le_of_ble_eq_true rfl) (Nat.le_of_ble_eq_true rfl) (by decide) (fun z hz => nomatch hz) (by decide) (by decide)
  · by_cases c6 : ki = 6
    · subst c6
      refine lv_tableIn (off := 48) (tgt := 60) C.1 C.2.1 dX5_throwFailure_12 (by decide) (by decide) (by decide) (by decide) ?_
      exact x_thr C Dd hX hZ hl s2 w_ia.1 w_ia.2 s_ia o_ia f_ia hl0.1 dX5_throwFailure_60 dX5_throwFailure_63 dX5_throwFailure_64 dX5_throwFailure_67 dX5_throwFailure_70 (ho _) (Nat.le_of_ble_eq_true rfl) (Nat.le_of_ble_eq_true rfl) (by decide) (fun z hz => nomatch hz) (by decide) (by decide)
    · have K := x_thr (p := p) (e := e) (R := (headSpec (Cond.code yX5_throwFailure cX5_throwFailure 1 none :: bg_tbl) { frames := 6, cells := 1, slots := 1000, locals := 100 }).room) (below := below) (Qc := va_Qv (S := Unit) (fun _ => False) (fun _ _ => True) (va_A (ev_w ad aC h) s.heap.size)) (free := va_A (ev_w ad aC h) s.heap.size) (mc := 1) (ms := 1000) (cells := 0) (slots := 0) (rest := []) (ls := ls) C Dd hX hZ hl s3 w_uo.1 w_uo.2 s_uo o_uo f_uo hl0.1 dX5_throwFailure_71 dX5_throwFailure_74 dX5_throwFailure_75 dX5_throwFailure_78 dX5_throwFailure_81 (ho _) (Nat.le_of_ble_eq_true rfl) (Nat.le_of_ble_eq_true rfl) (by decide) (fun z hz => nomatch hz) (by decide) (by decide)
      rw [show exT ki = eUO by unfold exT; rw [if_neg c4, if_neg c6]]
      by_cases c5 : ki = 5
      · subst c5
        exact lv_tableIn (off := 59) (tgt := 71) C.1 C.2.1 dX5_throwFailure_12 (by decide) (by decide) (by decide) (by decide) K
      · exact lv_tableOut (tgt := 71) C.1 C.2.1 dX5_throwFailure_12 (by rw [hto]; omega) (by decide) K
end DG
